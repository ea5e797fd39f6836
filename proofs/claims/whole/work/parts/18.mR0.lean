section
noncomputable def tX12_widthOf : List zzOp := [
  zo_iload 0 1,
  zo_pushI 6 3,
  zo_none,
  zo_icmp (fun x y => decide (x = y)) 18 6,
  zo_none,
  zo_none,
  zo_iload 0 7,
  zo_pushI 11 9,
  zo_none,
  zo_icmp (fun x y => decide (x = y)) 18 12,
  zo_none,
  zo_none,
  zo_iload 0 13,
  zo_pushI 15 15,
  zo_none,
  zo_icmp (fun x y => decide (¬ x = y)) 23 18,
  zo_none,
  zo_none,
  zo_pushI 7 20,
  zo_none,
  zo_goto 92,
  zo_none,
  zo_none,
  zo_iload 0 24,
  zo_pushI 1 25,
  zo_icmp (fun x y => decide (x = y)) 34 28,
  zo_none,
  zo_none,
  zo_iload 0 29,
  zo_pushI 7 31,
  zo_none,
  zo_icmp (fun x y => decide (¬ x = y)) 38 34,
  zo_none,
  zo_none,
  zo_pushI 4 35,
  zo_goto 92,
  zo_none,
  zo_none,
  zo_iload 0 39,
  zo_pushI 12 41,
  zo_none,
  zo_icmp (fun x y => decide (x = y)) 61 44,
  zo_none,
  zo_none,
  zo_iload 0 45,
  zo_pushI 14 47,
  zo_none,
  zo_icmp (fun x y => decide (x = y)) 61 50,
  zo_none,
  zo_none,
  zo_iload 0 51,
  zo_pushI 4 52,
  zo_icmp (fun x y => decide (x = y)) 61 55,
  zo_none,
  zo_none,
  zo_iload 0 56,
  zo_pushI 9 58,
  zo_none,
  zo_icmp (fun x y => decide (¬ x = y)) 65 61,
  zo_none,
  zo_none,
  zo_pushI 1 62,
  zo_goto 92,
  zo_none,
  zo_none,
  zo_iload 0 66,
  zo_pushI 2 67,
  zo_icmp (fun x y => decide (x = y)) 87 70,
  zo_none,
  zo_none,
  zo_iload 0 71,
  zo_pushI 3 72,
  zo_icmp (fun x y => decide (x = y)) 87 75,
  zo_none,
  zo_none,
  zo_iload 0 76,
  zo_pushI 8 78,
  zo_none,
  zo_icmp (fun x y => decide (x = y)) 87 81,
  zo_none,
  zo_none,
  zo_iload 0 82,
  zo_pushI 16 84,
  zo_none,
  zo_icmp (fun x y => decide (¬ x = y)) 91 87,
  zo_none,
  zo_none,
  zo_pushI 2 88,
  zo_goto 92,
  zo_none,
  zo_none,
  zo_pushI 3 92,
  zo_iret false]
set_option maxRecDepth 100000 in
theorem tl_X12_widthOf : ∀ pc, zz_Tl (tX12_widthOf.getD pc zo_none) := by
  refine zz_Tl_mem ?_
  unfold tX12_widthOf
  refine List.forall_mem_cons.mpr ⟨(zo_iload_tl _ _), ?_⟩
  refine List.forall_mem_cons.mpr ⟨(zo_pushI_tl _ _), ?_⟩
  refine List.forall_mem_cons.mpr ⟨zo_none_tl, ?_⟩
  refine List.forall_mem_cons.mpr ⟨(zo_icmp_tl _ _ _), ?_⟩
  refine List.forall_mem_cons.mpr ⟨zo_none_tl, ?_⟩
  refine List.forall_mem_cons.mpr ⟨zo_none_tl, ?_⟩
  refine List.forall_mem_cons.mpr ⟨(zo_iload_tl _ _), ?_⟩
  refine List.forall_mem_cons.mpr ⟨(zo_pushI_tl _ _), ?_⟩
  refine List.forall_mem_cons.mpr ⟨zo_none_tl, ?_⟩
  refine List.forall_mem_cons.mpr ⟨(zo_icmp_tl _ _ _), ?_⟩
  refine List.forall_mem_cons.mpr ⟨zo_none_tl, ?_⟩
  refine List.forall_mem_cons.mpr ⟨zo_none_tl, ?_⟩
  refine List.forall_mem_cons.mpr ⟨(zo_iload_tl _ _), ?_⟩
  refine List.forall_mem_cons.mpr ⟨(zo_pushI_tl _ _), ?_⟩
  refine List.forall_mem_cons.mpr ⟨zo_none_tl, ?_⟩
  refine List.forall_mem_cons.mpr ⟨(zo_icmp_tl _ _ _), ?_⟩
  refine List.forall_mem_cons.mpr ⟨zo_none_tl, ?_⟩
  refine List.forall_mem_cons.mpr ⟨zo_none_tl, ?_⟩
  refine List.forall_mem_cons.mpr ⟨(zo_pushI_tl _ _), ?_⟩
  refine List.forall_mem_cons.mpr ⟨zo_none_tl, ?_⟩
  refine List.forall_mem_cons.mpr ⟨(zo_goto_tl _), ?_⟩
  refine List.forall_mem_cons.mpr ⟨zo_none_tl, ?_⟩
  refine List.forall_mem_cons.mpr ⟨zo_none_tl, ?_⟩
  refine List.forall_mem_cons.mpr ⟨(zo_iload_tl _ _), ?_⟩
  refine List.forall_mem_cons.mpr ⟨(zo_pushI_tl _ _), ?_⟩
  refine List.forall_mem_cons.mpr ⟨(zo_icmp_tl _ _ _), ?_⟩
  refine List.forall_mem_cons.mpr ⟨zo_none_tl, ?_⟩
  refine List.forall_mem_cons.mpr ⟨zo_none_tl, ?_⟩
  refine List.forall_mem_cons.mpr ⟨(zo_iload_tl _ _), ?_⟩
  refine List.forall_mem_cons.mpr ⟨(zo_pushI_tl _ _), ?_⟩
  refine List.forall_mem_cons.mpr ⟨zo_none_tl, ?_⟩
  refine List.forall_mem_cons.mpr ⟨(zo_icmp_tl _ _ _), ?_⟩
  refine List.forall_mem_cons.mpr ⟨zo_none_tl, ?_⟩
  refine List.forall_mem_cons.mpr ⟨zo_none_tl, ?_⟩
  refine List.forall_mem_cons.mpr ⟨(zo_pushI_tl _ _), ?_⟩
  refine List.forall_mem_cons.mpr ⟨(zo_goto_tl _), ?_⟩
  refine List.forall_mem_cons.mpr ⟨zo_none_tl, ?_⟩
  refine List.forall_mem_cons.mpr ⟨zo_none_tl, ?_⟩
  refine List.forall_mem_cons.mpr ⟨(zo_iload_tl _ _), ?_⟩
  refine List.forall_mem_cons.mpr ⟨(zo_pushI_tl _ _), ?_⟩
  refine List.forall_mem_cons.mpr ⟨zo_none_tl, ?_⟩
  refine List.forall_mem_cons.mpr ⟨(zo_icmp_tl _ _ _), ?_⟩
  refine List.forall_mem_cons.mpr ⟨zo_none_tl, ?_⟩
  refine List.forall_mem_cons.mpr ⟨zo_none_tl, ?_⟩
  refine List.forall_mem_cons.mpr ⟨(zo_iload_tl _ _), ?_⟩
  refine List.forall_mem_cons.mpr ⟨(zo_pushI_tl _ _), ?_⟩
  refine List.forall_mem_cons.mpr ⟨zo_none_tl, ?_⟩
  refine List.forall_mem_cons.mpr ⟨(zo_icmp_tl _ _ _), ?_⟩
  refine List.forall_mem_cons.mpr ⟨zo_none_tl, ?_⟩
  refine List.forall_mem_cons.mpr ⟨zo_none_tl, ?_⟩
  refine List.forall_mem_cons.mpr ⟨(zo_iload_tl _ _), ?_⟩
  refine List.forall_mem_cons.mpr ⟨(zo_pushI_tl _ _), ?_⟩
  refine List.forall_mem_cons.mpr ⟨(zo_icmp_tl _ _ _), ?_⟩
  refine List.forall_mem_cons.mpr ⟨zo_none_tl, ?_⟩
  refine List.forall_mem_cons.mpr ⟨zo_none_tl, ?_⟩
  refine List.forall_mem_cons.mpr ⟨(zo_iload_tl _ _), ?_⟩
  refine List.forall_mem_cons.mpr ⟨(zo_pushI_tl _ _), ?_⟩
  refine List.forall_mem_cons.mpr ⟨zo_none_tl, ?_⟩
  refine List.forall_mem_cons.mpr ⟨(zo_icmp_tl _ _ _), ?_⟩
  refine List.forall_mem_cons.mpr ⟨zo_none_tl, ?_⟩
  refine List.forall_mem_cons.mpr ⟨zo_none_tl, ?_⟩
  refine List.forall_mem_cons.mpr ⟨(zo_pushI_tl _ _), ?_⟩
  refine List.forall_mem_cons.mpr ⟨(zo_goto_tl _), ?_⟩
  refine List.forall_mem_cons.mpr ⟨zo_none_tl, ?_⟩
  refine List.forall_mem_cons.mpr ⟨zo_none_tl, ?_⟩
  refine List.forall_mem_cons.mpr ⟨(zo_iload_tl _ _), ?_⟩
  refine List.forall_mem_cons.mpr ⟨(zo_pushI_tl _ _), ?_⟩
  refine List.forall_mem_cons.mpr ⟨(zo_icmp_tl _ _ _), ?_⟩
  refine List.forall_mem_cons.mpr ⟨zo_none_tl, ?_⟩
  refine List.forall_mem_cons.mpr ⟨zo_none_tl, ?_⟩
  refine List.forall_mem_cons.mpr ⟨(zo_iload_tl _ _), ?_⟩
  refine List.forall_mem_cons.mpr ⟨(zo_pushI_tl _ _), ?_⟩
  refine List.forall_mem_cons.mpr ⟨(zo_icmp_tl _ _ _), ?_⟩
  refine List.forall_mem_cons.mpr ⟨zo_none_tl, ?_⟩
  refine List.forall_mem_cons.mpr ⟨zo_none_tl, ?_⟩
  refine List.forall_mem_cons.mpr ⟨(zo_iload_tl _ _), ?_⟩
  refine List.forall_mem_cons.mpr ⟨(zo_pushI_tl _ _), ?_⟩
  refine List.forall_mem_cons.mpr ⟨zo_none_tl, ?_⟩
  refine List.forall_mem_cons.mpr ⟨(zo_icmp_tl _ _ _), ?_⟩
  refine List.forall_mem_cons.mpr ⟨zo_none_tl, ?_⟩
  refine List.forall_mem_cons.mpr ⟨zo_none_tl, ?_⟩
  refine List.forall_mem_cons.mpr ⟨(zo_iload_tl _ _), ?_⟩
  refine List.forall_mem_cons.mpr ⟨(zo_pushI_tl _ _), ?_⟩
  refine List.forall_mem_cons.mpr ⟨zo_none_tl, ?_⟩
  refine List.forall_mem_cons.mpr ⟨(zo_icmp_tl _ _ _), ?_⟩
  refine List.forall_mem_cons.mpr ⟨zo_none_tl, ?_⟩
  refine List.forall_mem_cons.mpr ⟨zo_none_tl, ?_⟩
  refine List.forall_mem_cons.mpr ⟨(zo_pushI_tl _ _), ?_⟩
  refine List.forall_mem_cons.mpr ⟨(zo_goto_tl _), ?_⟩
  refine List.forall_mem_cons.mpr ⟨zo_none_tl, ?_⟩
  refine List.forall_mem_cons.mpr ⟨zo_none_tl, ?_⟩
  refine List.forall_mem_cons.mpr ⟨(zo_pushI_tl _ _), ?_⟩
  refine List.forall_mem_cons.mpr ⟨(zo_iret_tl _), ?_⟩
  exact fun _ h => absurd h List.not_mem_nil
noncomputable def fX12_widthOf : zzFn := zz_fn tX12_widthOf 1
set_option maxRecDepth 100000 in
set_option maxHeartbeats 4000000 in
theorem mm_X12_widthOf {l : Launch} {D : va_G} {cA : Nat → ClassId} {ad : Nat → Nat} {Ex : (Nat → Prop) → State → Heap → Prop} (Wd : zzWR l D cA ad Ex) : zz_Cn l D zzCl cA ad zzSR Ex yX12_widthOf cX12_widthOf 1 (some .int) 0 0 fX12_widthOf ∧ zz_Cx l D zzCl cA ad zzSR Ex yX12_widthOf cX12_widthOf 1 (some .int) 0 0 fX12_widthOf := by
  refine zz_meth (plainFor_of_name (by decide)) Wd.1 Wd.2.1 Wd.2.2 (fun p e R s m args below meth c rr X => ?_)
  unfold tX12_widthOf
  refine zz_cons (k' := 1) rfl (zk_iload_n X dX12_widthOf_0 rfl rfl) ?_
  refine zz_cons (k' := 2) rfl (zk_bipush X dX12_widthOf_1 (by decide) rfl) ?_
  refine zz_cons (k' := 3) rfl (zz_Ok_none _ _) ?_
  refine zz_cons (k' := 4) rfl (zk_icmp_eq X dX12_widthOf_3 (by decide) rfl) ?_
  refine zz_cons (k' := 5) rfl (zz_Ok_none _ _) ?_
  refine zz_cons (k' := 6) rfl (zz_Ok_none _ _) ?_
  refine zz_cons (k' := 7) rfl (zk_iload_n X dX12_widthOf_6 rfl rfl) ?_
  refine zz_cons (k' := 8) rfl (zk_bipush X dX12_widthOf_7 (by decide) rfl) ?_
  refine zz_cons (k' := 9) rfl (zz_Ok_none _ _) ?_
  refine zz_cons (k' := 10) rfl (zk_icmp_eq X dX12_widthOf_9 (by decide) rfl) ?_
  refine zz_cons (k' := 11) rfl (zz_Ok_none _ _) ?_
  refine zz_cons (k' := 12) rfl (zz_Ok_none _ _) ?_
  refine zz_cons (k' := 13) rfl (zk_iload_n X dX12_widthOf_12 rfl rfl) ?_
  refine zz_cons (k' := 14) rfl (zk_bipush X dX12_widthOf_13 (by decide) rfl) ?_
  refine zz_cons (k' := 15) rfl (zz_Ok_none _ _) ?_
  refine zz_cons (k' := 16) rfl (zk_icmp_ne X dX12_widthOf_15 (by decide) rfl) ?_
  refine zz_cons (k' := 17) rfl (zz_Ok_none _ _) ?_
  refine zz_cons (k' := 18) rfl (zz_Ok_none _ _) ?_
  refine zz_cons (k' := 19) rfl (zk_bipush X dX12_widthOf_18 (by decide) rfl) ?_
  refine zz_cons (k' := 20) rfl (zz_Ok_none _ _) ?_
  refine zz_cons (k' := 21) rfl (zk_goto X dX12_widthOf_20 (by decide)) ?_
  refine zz_cons (k' := 22) rfl (zz_Ok_none _ _) ?_
  refine zz_cons (k' := 23) rfl (zz_Ok_none _ _) ?_
  refine zz_cons (k' := 24) rfl (zk_iload_n X dX12_widthOf_23 rfl rfl) ?_
  refine zz_cons (k' := 25) rfl (zk_iconst X dX12_widthOf_24 (by decide) rfl) ?_
  refine zz_cons (k' := 26) rfl (zk_icmp_eq X dX12_widthOf_25 (by decide) rfl) ?_
  refine zz_cons (k' := 27) rfl (zz_Ok_none _ _) ?_
  refine zz_cons (k' := 28) rfl (zz_Ok_none _ _) ?_
  refine zz_cons (k' := 29) rfl (zk_iload_n X dX12_widthOf_28 rfl rfl) ?_
  refine zz_cons (k' := 30) rfl (zk_bipush X dX12_widthOf_29 (by decide) rfl) ?_
  refine zz_cons (k' := 31) rfl (zz_Ok_none _ _) ?_
  refine zz_cons (k' := 32) rfl (zk_icmp_ne X dX12_widthOf_31 (by decide) rfl) ?_
  refine zz_cons (k' := 33) rfl (zz_Ok_none _ _) ?_
  refine zz_cons (k' := 34) rfl (zz_Ok_none _ _) ?_
  refine zz_cons (k' := 35) rfl (zk_iconst X dX12_widthOf_34 (by decide) rfl) ?_
  refine zz_cons (k' := 36) rfl (zk_goto X dX12_widthOf_35 (by decide)) ?_
  refine zz_cons (k' := 37) rfl (zz_Ok_none _ _) ?_
  refine zz_cons (k' := 38) rfl (zz_Ok_none _ _) ?_
  refine zz_cons (k' := 39) rfl (zk_iload_n X dX12_widthOf_38 rfl rfl) ?_
  refine zz_cons (k' := 40) rfl (zk_bipush X dX12_widthOf_39 (by decide) rfl) ?_
  refine zz_cons (k' := 41) rfl (zz_Ok_none _ _) ?_
  refine zz_cons (k' := 42) rfl (zk_icmp_eq X dX12_widthOf_41 (by decide) rfl) ?_
  refine zz_cons (k' := 43) rfl (zz_Ok_none _ _) ?_
  refine zz_cons (k' := 44) rfl (zz_Ok_none _ _) ?_
  refine zz_cons (k' := 45) rfl (zk_iload_n X dX12_widthOf_44 rfl rfl) ?_
  refine zz_cons (k' := 46) rfl (zk_bipush X dX12_widthOf_45 (by decide) rfl) ?_
  refine zz_cons (k' := 47) rfl (zz_Ok_none _ _) ?_
  refine zz_cons (k' := 48) rfl (zk_icmp_eq X dX12_widthOf_47 (by decide) rfl) ?_
  refine zz_cons (k' := 49) rfl (zz_Ok_none _ _) ?_
  refine zz_cons (k' := 50) rfl (zz_Ok_none _ _) ?_
  refine zz_cons (k' := 51) rfl (zk_iload_n X dX12_widthOf_50 rfl rfl) ?_
  refine zz_cons (k' := 52) rfl (zk_iconst X dX12_widthOf_51 (by decide) rfl) ?_
  refine zz_cons (k' := 53) rfl (zk_icmp_eq X dX12_widthOf_52 (by decide) rfl) ?_
  refine zz_cons (k' := 54) rfl (zz_Ok_none _ _) ?_
  refine zz_cons (k' := 55) rfl (zz_Ok_none _ _) ?_
  refine zz_cons (k' := 56) rfl (zk_iload_n X dX12_widthOf_55 rfl rfl) ?_
  refine zz_cons (k' := 57) rfl (zk_bipush X dX12_widthOf_56 (by decide) rfl) ?_
  refine zz_cons (k' := 58) rfl (zz_Ok_none _ _) ?_
  refine zz_cons (k' := 59) rfl (zk_icmp_ne X dX12_widthOf_58 (by decide) rfl) ?_
  refine zz_cons (k' := 60) rfl (zz_Ok_none _ _) ?_
  refine zz_cons (k' := 61) rfl (zz_Ok_none _ _) ?_
  refine zz_cons (k' := 62) rfl (zk_iconst X dX12_widthOf_61 (by decide) rfl) ?_
  refine zz_cons (k' := 63) rfl (zk_goto X dX12_widthOf_62 (by decide)) ?_
  refine zz_cons (k' := 64) rfl (zz_Ok_none _ _) ?_
  refine zz_cons (k' := 65) rfl (zz_Ok_none _ _) ?_
  refine zz_cons (k' := 66) rfl (zk_iload_n X dX12_widthOf_65 rfl rfl) ?_
  refine zz_cons (k' := 67) rfl (zk_iconst X dX12_widthOf_66 (by decide) rfl) ?_
  refine zz_cons (k' := 68) rfl (zk_icmp_eq X dX12_widthOf_67 (by decide) rfl) ?_
  refine zz_cons (k' := 69) rfl (zz_Ok_none _ _) ?_
  refine zz_cons (k' := 70) rfl (zz_Ok_none _ _) ?_
  refine zz_cons (k' := 71) rfl (zk_iload_n X dX12_widthOf_70 rfl rfl) ?_
  refine zz_cons (k' := 72) rfl (zk_iconst X dX12_widthOf_71 (by decide) rfl) ?_
  refine zz_cons (k' := 73) rfl (zk_icmp_eq X dX12_widthOf_72 (by decide) rfl) ?_
  refine zz_cons (k' := 74) rfl (zz_Ok_none _ _) ?_
  refine zz_cons (k' := 75) rfl (zz_Ok_none _ _) ?_
  refine zz_cons (k' := 76) rfl (zk_iload_n X dX12_widthOf_75 rfl rfl) ?_
  refine zz_cons (k' := 77) rfl (zk_bipush X dX12_widthOf_76 (by decide) rfl) ?_
  refine zz_cons (k' := 78) rfl (zz_Ok_none _ _) ?_
  refine zz_cons (k' := 79) rfl (zk_icmp_eq X dX12_widthOf_78 (by decide) rfl) ?_
  refine zz_cons (k' := 80) rfl (zz_Ok_none _ _) ?_
  refine zz_cons (k' := 81) rfl (zz_Ok_none _ _) ?_
  refine zz_cons (k' := 82) rfl (zk_iload_n X dX12_widthOf_81 rfl rfl) ?_
  refine zz_cons (k' := 83) rfl (zk_bipush X dX12_widthOf_82 (by decide) rfl) ?_
  refine zz_cons (k' := 84) rfl (zz_Ok_none _ _) ?_
  refine zz_cons (k' := 85) rfl (zk_icmp_ne X dX12_widthOf_84 (by decide) rfl) ?_
  refine zz_cons (k' := 86) rfl (zz_Ok_none _ _) ?_
  refine zz_cons (k' := 87) rfl (zz_Ok_none _ _) ?_
  refine zz_cons (k' := 88) rfl (zk_iconst X dX12_widthOf_87 (by decide) rfl) ?_
  refine zz_cons (k' := 89) rfl (zk_goto X dX12_widthOf_88 (by decide)) ?_
  refine zz_cons (k' := 90) rfl (zz_Ok_none _ _) ?_
  refine zz_cons (k' := 91) rfl (zz_Ok_none _ _) ?_
  refine zz_cons (k' := 92) rfl (zk_iconst X dX12_widthOf_91 (by decide) rfl) ?_
  refine zz_cons (k' := 93) rfl (zk_iret X rfl dX12_widthOf_92) ?_
  exact trivial
noncomputable def tX12_thrown : List zzOp := [
  zo_aload 0 1,
  zo_getf zzSR (zz_kf [10] 49) 4,
  zo_none,
  zo_none,
  zo_iret false]
set_option maxRecDepth 100000 in
theorem tl_X12_thrown : ∀ pc, zz_Tl (tX12_thrown.getD pc zo_none) := by
  refine zz_Tl_mem ?_
  unfold tX12_thrown
  refine List.forall_mem_cons.mpr ⟨(zo_aload_tl _ _), ?_⟩
  refine List.forall_mem_cons.mpr ⟨(zo_getf_tl _ _ _), ?_⟩
  refine List.forall_mem_cons.mpr ⟨zo_none_tl, ?_⟩
  refine List.forall_mem_cons.mpr ⟨zo_none_tl, ?_⟩
  refine List.forall_mem_cons.mpr ⟨(zo_iret_tl _), ?_⟩
  exact fun _ h => absurd h List.not_mem_nil
noncomputable def fX12_thrown : zzFn := zz_fn tX12_thrown 1
set_option maxRecDepth 100000 in
set_option maxHeartbeats 4000000 in
theorem mm_X12_thrown {l : Launch} {D : va_G} {cA : Nat → ClassId} {ad : Nat → Nat} {Ex : (Nat → Prop) → State → Heap → Prop} (Wd : zzWR l D cA ad Ex) : zz_Cn l D zzCl cA ad zzSR Ex yX12_thrown cX12_thrown 1 (some .int) 0 0 fX12_thrown ∧ zz_Cx l D zzCl cA ad zzSR Ex yX12_thrown cX12_thrown 1 (some .int) 0 0 fX12_thrown := by
  refine zz_meth (plainFor_of_name (by decide)) Wd.1 Wd.2.1 Wd.2.2 (fun p e R s m args below meth c rr X => ?_)
  unfold tX12_thrown
  refine zz_cons (k' := 1) rfl (zk_aload_n X dX12_thrown_0 rfl rfl) ?_
  refine zz_cons (k' := 2) rfl (zk_getf X ff_X12_134 dX12_thrown_1 rfl) ?_
  refine zz_cons (k' := 3) rfl (zz_Ok_none _ _) ?_
  refine zz_cons (k' := 4) rfl (zz_Ok_none _ _) ?_
  refine zz_cons (k' := 5) rfl (zk_iret X rfl dX12_thrown_4) ?_
  exact trivial
noncomputable def tX12_goes : List zzOp := [
  zo_aload 0 1,
  zo_iload 1 2,
  zo_putf zzSR (zz_kf [10] 49) false 5,
  zo_none,
  zo_none,
  zo_iload 1 6,
  zo_if (fun x => decide (¬ x = 0)) 13 9,
  zo_none,
  zo_none,
  zo_pushI 1 10,
  zo_goto 14,
  zo_none,
  zo_none,
  zo_pushI 0 14,
  zo_iret true]
set_option maxRecDepth 100000 in
theorem tl_X12_goes : ∀ pc, zz_Tl (tX12_goes.getD pc zo_none) := by
  refine zz_Tl_mem ?_
  unfold tX12_goes
  refine List.forall_mem_cons.mpr ⟨(zo_aload_tl _ _), ?_⟩
  refine List.forall_mem_cons.mpr ⟨(zo_iload_tl _ _), ?_⟩
  refine List.forall_mem_cons.mpr ⟨(zo_putf_tl _ _ _ _), ?_⟩
  refine List.forall_mem_cons.mpr ⟨zo_none_tl, ?_⟩
  refine List.forall_mem_cons.mpr ⟨zo_none_tl, ?_⟩
  refine List.forall_mem_cons.mpr ⟨(zo_iload_tl _ _), ?_⟩
  refine List.forall_mem_cons.mpr ⟨(zo_if_tl _ _ _), ?_⟩
  refine List.forall_mem_cons.mpr ⟨zo_none_tl, ?_⟩
  refine List.forall_mem_cons.mpr ⟨zo_none_tl, ?_⟩
  refine List.forall_mem_cons.mpr ⟨(zo_pushI_tl _ _), ?_⟩
  refine List.forall_mem_cons.mpr ⟨(zo_goto_tl _), ?_⟩
  refine List.forall_mem_cons.mpr ⟨zo_none_tl, ?_⟩
  refine List.forall_mem_cons.mpr ⟨zo_none_tl, ?_⟩
  refine List.forall_mem_cons.mpr ⟨(zo_pushI_tl _ _), ?_⟩
  refine List.forall_mem_cons.mpr ⟨(zo_iret_tl _), ?_⟩
  exact fun _ h => absurd h List.not_mem_nil
noncomputable def fX12_goes : zzFn := zz_fn tX12_goes 2
set_option maxRecDepth 100000 in
set_option maxHeartbeats 4000000 in
theorem mm_X12_goes {l : Launch} {D : va_G} {cA : Nat → ClassId} {ad : Nat → Nat} {Ex : (Nat → Prop) → State → Heap → Prop} (Wd : zzWR l D cA ad Ex) : zz_Cn l D zzCl cA ad zzSR Ex yX12_goes cX12_goes 2 (some .boolean) 0 0 fX12_goes ∧ zz_Cx l D zzCl cA ad zzSR Ex yX12_goes cX12_goes 2 (some .boolean) 0 0 fX12_goes := by
  refine zz_meth (plainFor_of_name (by decide)) Wd.1 Wd.2.1 Wd.2.2 (fun p e R s m args below meth c rr X => ?_)
  unfold tX12_goes
  refine zz_cons (k' := 1) rfl (zk_aload_n X dX12_goes_0 rfl rfl) ?_
  refine zz_cons (k' := 2) rfl (zk_iload_n X dX12_goes_1 rfl rfl) ?_
  refine zz_cons (k' := 3) rfl (zk_putf X ff_X12_134 fp_10_49 dX12_goes_2 rfl) ?_
  refine zz_cons (k' := 4) rfl (zz_Ok_none _ _) ?_
  refine zz_cons (k' := 5) rfl (zz_Ok_none _ _) ?_
  refine zz_cons (k' := 6) rfl (zk_iload_n X dX12_goes_5 rfl rfl) ?_
  refine zz_cons (k' := 7) rfl (zk_if_ne X dX12_goes_6 (by decide) rfl) ?_
  refine zz_cons (k' := 8) rfl (zz_Ok_none _ _) ?_
  refine zz_cons (k' := 9) rfl (zz_Ok_none _ _) ?_
  refine zz_cons (k' := 10) rfl (zk_iconst X dX12_goes_9 (by decide) rfl) ?_
  refine zz_cons (k' := 11) rfl (zk_goto X dX12_goes_10 (by decide)) ?_
  refine zz_cons (k' := 12) rfl (zz_Ok_none _ _) ?_
  refine zz_cons (k' := 13) rfl (zz_Ok_none _ _) ?_
  refine zz_cons (k' := 14) rfl (zk_iconst X dX12_goes_13 (by decide) rfl) ?_
  refine zz_cons (k' := 15) rfl (zk_iret X rfl dX12_goes_14) ?_
  exact trivial
noncomputable def tX12_isIn : List zzOp := [
  zo_iload 0 1,
  zo_iload 1 2,
  zo_icmp (fun x y => decide (x < y)) 14 5,
  zo_none,
  zo_none,
  zo_iload 0 6,
  zo_iload 2 7,
  zo_icmp (fun x y => decide (y < x)) 14 10,
  zo_none,
  zo_none,
  zo_pushI 1 11,
  zo_goto 15,
  zo_none,
  zo_none,
  zo_pushI 0 15,
  zo_iret true]
set_option maxRecDepth 100000 in
theorem tl_X12_isIn : ∀ pc, zz_Tl (tX12_isIn.getD pc zo_none) := by
  refine zz_Tl_mem ?_
  unfold tX12_isIn
  refine List.forall_mem_cons.mpr ⟨(zo_iload_tl _ _), ?_⟩
  refine List.forall_mem_cons.mpr ⟨(zo_iload_tl _ _), ?_⟩
  refine List.forall_mem_cons.mpr ⟨(zo_icmp_tl _ _ _), ?_⟩
  refine List.forall_mem_cons.mpr ⟨zo_none_tl, ?_⟩
  refine List.forall_mem_cons.mpr ⟨zo_none_tl, ?_⟩
  refine List.forall_mem_cons.mpr ⟨(zo_iload_tl _ _), ?_⟩
  refine List.forall_mem_cons.mpr ⟨(zo_iload_tl _ _), ?_⟩
  refine List.forall_mem_cons.mpr ⟨(zo_icmp_tl _ _ _), ?_⟩
  refine List.forall_mem_cons.mpr ⟨zo_none_tl, ?_⟩
  refine List.forall_mem_cons.mpr ⟨zo_none_tl, ?_⟩
  refine List.forall_mem_cons.mpr ⟨(zo_pushI_tl _ _), ?_⟩
  refine List.forall_mem_cons.mpr ⟨(zo_goto_tl _), ?_⟩
  refine List.forall_mem_cons.mpr ⟨zo_none_tl, ?_⟩
  refine List.forall_mem_cons.mpr ⟨zo_none_tl, ?_⟩
  refine List.forall_mem_cons.mpr ⟨(zo_pushI_tl _ _), ?_⟩
  refine List.forall_mem_cons.mpr ⟨(zo_iret_tl _), ?_⟩
  exact fun _ h => absurd h List.not_mem_nil
noncomputable def fX12_isIn : zzFn := zz_fn tX12_isIn 3
set_option maxRecDepth 100000 in
set_option maxHeartbeats 4000000 in
theorem mm_X12_isIn {l : Launch} {D : va_G} {cA : Nat → ClassId} {ad : Nat → Nat} {Ex : (Nat → Prop) → State → Heap → Prop} (Wd : zzWR l D cA ad Ex) : zz_Cn l D zzCl cA ad zzSR Ex yX12_isIn cX12_isIn 3 (some .boolean) 0 0 fX12_isIn ∧ zz_Cx l D zzCl cA ad zzSR Ex yX12_isIn cX12_isIn 3 (some .boolean) 0 0 fX12_isIn := by
  refine zz_meth (plainFor_of_name (by decide)) Wd.1 Wd.2.1 Wd.2.2 (fun p e R s m args below meth c rr X => ?_)
  unfold tX12_isIn
  refine zz_cons (k' := 1) rfl (zk_iload_n X dX12_isIn_0 rfl rfl) ?_
  refine zz_cons (k' := 2) rfl (zk_iload_n X dX12_isIn_1 rfl rfl) ?_
  refine zz_cons (k' := 3) rfl (zk_icmp_lt X dX12_isIn_2 (by decide) rfl) ?_
  refine zz_cons (k' := 4) rfl (zz_Ok_none _ _) ?_
  refine zz_cons (k' := 5) rfl (zz_Ok_none _ _) ?_
  refine zz_cons (k' := 6) rfl (zk_iload_n X dX12_isIn_5 rfl rfl) ?_
  refine zz_cons (k' := 7) rfl (zk_iload_n X dX12_isIn_6 rfl rfl) ?_
  refine zz_cons (k' := 8) rfl (zk_icmp_gt X dX12_isIn_7 (by decide) rfl) ?_
  refine zz_cons (k' := 9) rfl (zz_Ok_none _ _) ?_
  refine zz_cons (k' := 10) rfl (zz_Ok_none _ _) ?_
  refine zz_cons (k' := 11) rfl (zk_iconst X dX12_isIn_10 (by decide) rfl) ?_
  refine zz_cons (k' := 12) rfl (zk_goto X dX12_isIn_11 (by decide)) ?_
  refine zz_cons (k' := 13) rfl (zz_Ok_none _ _) ?_
  refine zz_cons (k' := 14) rfl (zz_Ok_none _ _) ?_
  refine zz_cons (k' := 15) rfl (zk_iconst X dX12_isIn_14 (by decide) rfl) ?_
  refine zz_cons (k' := 16) rfl (zk_iret X rfl dX12_isIn_15) ?_
  exact trivial
noncomputable def tX12_isObject : List zzOp := [
  zo_iload 1 1,
  zo_pushI 0 2,
  zo_aload 0 3,
  zo_getf zzSR (zz_kf [10] 5) 6,
  zo_none,
  zo_none,
  zo_pushI 1 7,
  zo_ii (fun x y => x - y) 8,
  zo_calls fX12_isIn 3 11,
  zo_none,
  zo_none,
  zo_iret true]
set_option maxRecDepth 100000 in
theorem tl_X12_isObject : ∀ pc, zz_Tl (tX12_isObject.getD pc zo_none) := by
  refine zz_Tl_mem ?_
  unfold tX12_isObject
  refine List.forall_mem_cons.mpr ⟨(zo_iload_tl _ _), ?_⟩
  refine List.forall_mem_cons.mpr ⟨(zo_pushI_tl _ _), ?_⟩
  refine List.forall_mem_cons.mpr ⟨(zo_aload_tl _ _), ?_⟩
  refine List.forall_mem_cons.mpr ⟨(zo_getf_tl _ _ _), ?_⟩
  refine List.forall_mem_cons.mpr ⟨zo_none_tl, ?_⟩
  refine List.forall_mem_cons.mpr ⟨zo_none_tl, ?_⟩
  refine List.forall_mem_cons.mpr ⟨(zo_pushI_tl _ _), ?_⟩
  refine List.forall_mem_cons.mpr ⟨(zo_ii_tl _ _), ?_⟩
  refine List.forall_mem_cons.mpr ⟨(zo_calls_tl _ _ _), ?_⟩
  refine List.forall_mem_cons.mpr ⟨zo_none_tl, ?_⟩
  refine List.forall_mem_cons.mpr ⟨zo_none_tl, ?_⟩
  refine List.forall_mem_cons.mpr ⟨(zo_iret_tl _), ?_⟩
  exact fun _ h => absurd h List.not_mem_nil
noncomputable def fX12_isObject : zzFn := zz_fn tX12_isObject 2
set_option maxRecDepth 100000 in
set_option maxHeartbeats 4000000 in
theorem mm_X12_isObject {l : Launch} {D : va_G} {cA : Nat → ClassId} {ad : Nat → Nat} {Ex : (Nat → Prop) → State → Heap → Prop} (Wd : zzWR l D cA ad Ex) : zz_Cn l D zzCl cA ad zzSR Ex yX12_isObject cX12_isObject 2 (some .boolean) 1 22 fX12_isObject ∧ zz_Cx l D zzCl cA ad zzSR Ex yX12_isObject cX12_isObject 2 (some .boolean) 1 22 fX12_isObject := by
  refine zz_meth (plainFor_of_name (by decide)) Wd.1 Wd.2.1 Wd.2.2 (fun p e R s m args below meth c rr X => ?_)
  unfold tX12_isObject
  refine zz_cons (k' := 1) rfl (zk_iload_n X dX12_isObject_0 rfl rfl) ?_
  refine zz_cons (k' := 2) rfl (zk_iconst X dX12_isObject_1 (by decide) rfl) ?_
  refine zz_cons (k' := 3) rfl (zk_aload_n X dX12_isObject_2 rfl rfl) ?_
  refine zz_cons (k' := 4) rfl (zk_getf X ff_X12_137 dX12_isObject_3 rfl) ?_
  refine zz_cons (k' := 5) rfl (zz_Ok_none _ _) ?_
  refine zz_cons (k' := 6) rfl (zz_Ok_none _ _) ?_
  refine zz_cons (k' := 7) rfl (zk_iconst X dX12_isObject_6 (by decide) rfl) ?_
  refine zz_cons (k' := 8) rfl (zk_isub X dX12_isObject_7 rfl) ?_
  refine zz_cons (k' := 9) rfl (zk_calls X ks_X12_140 (mm_X12_isIn Wd).1 (by decide) dX12_isObject_8 rfl) ?_
  refine zz_cons (k' := 10) rfl (zz_Ok_none _ _) ?_
  refine zz_cons (k' := 11) rfl (zz_Ok_none _ _) ?_
  refine zz_cons (k' := 12) rfl (zk_iret X rfl dX12_isObject_11) ?_
  exact trivial
noncomputable def tX12_isKind : List zzOp := [
  zo_iload 0 1,
  zo_pushI 0 2,
  zo_pushI 5 3,
  zo_calls fX12_isIn 3 6,
  zo_none,
  zo_none,
  zo_iret true]
set_option maxRecDepth 100000 in
theorem tl_X12_isKind : ∀ pc, zz_Tl (tX12_isKind.getD pc zo_none) := by
  refine zz_Tl_mem ?_
  unfold tX12_isKind
  refine List.forall_mem_cons.mpr ⟨(zo_iload_tl _ _), ?_⟩
  refine List.forall_mem_cons.mpr ⟨(zo_pushI_tl _ _), ?_⟩
  refine List.forall_mem_cons.mpr ⟨(zo_pushI_tl _ _), ?_⟩
  refine List.forall_mem_cons.mpr ⟨(zo_calls_tl _ _ _), ?_⟩
  refine List.forall_mem_cons.mpr ⟨zo_none_tl, ?_⟩
  refine List.forall_mem_cons.mpr ⟨zo_none_tl, ?_⟩
  refine List.forall_mem_cons.mpr ⟨(zo_iret_tl _), ?_⟩
  exact fun _ h => absurd h List.not_mem_nil
noncomputable def fX12_isKind : zzFn := zz_fn tX12_isKind 1
set_option maxRecDepth 100000 in
set_option maxHeartbeats 4000000 in
theorem mm_X12_isKind {l : Launch} {D : va_G} {cA : Nat → ClassId} {ad : Nat → Nat} {Ex : (Nat → Prop) → State → Heap → Prop} (Wd : zzWR l D cA ad Ex) : zz_Cn l D zzCl cA ad zzSR Ex yX12_isKind cX12_isKind 1 (some .boolean) 1 22 fX12_isKind ∧ zz_Cx l D zzCl cA ad zzSR Ex yX12_isKind cX12_isKind 1 (some .boolean) 1 22 fX12_isKind := by
  refine zz_meth (plainFor_of_name (by decide)) Wd.1 Wd.2.1 Wd.2.2 (fun p e R s m args below meth c rr X => ?_)
  unfold tX12_isKind
  refine zz_cons (k' := 1) rfl (zk_iload_n X dX12_isKind_0 rfl rfl) ?_
  refine zz_cons (k' := 2) rfl (zk_iconst X dX12_isKind_1 (by decide) rfl) ?_
  refine zz_cons (k' := 3) rfl (zk_iconst X dX12_isKind_2 (by decide) rfl) ?_
  refine zz_cons (k' := 4) rfl (zk_calls X ks_X12_140 (mm_X12_isIn Wd).1 (by decide) dX12_isKind_3 rfl) ?_
  refine zz_cons (k' := 5) rfl (zz_Ok_none _ _) ?_
  refine zz_cons (k' := 6) rfl (zz_Ok_none _ _) ?_
  refine zz_cons (k' := 7) rfl (zk_iret X rfl dX12_isKind_6) ?_
  exact trivial
noncomputable def tX12_hasField : List zzOp := [
  zo_iload 2 1,
  zo_pushI 0 2,
  zo_pushI 10 4,
  zo_none,
  zo_calls fX12_isIn 3 7,
  zo_none,
  zo_none,
  zo_if (fun x => decide (x = 0)) 28 10,
  zo_none,
  zo_none,
  zo_aload 0 11,
  zo_getf zzSR (zz_kf [10] 4) 14,
  zo_none,
  zo_none,
  zo_iload 1 15,
  zo_iald zzSR zzSTR 16,
  zo_iload 2 17,
  zo_ii (fun x y => x >>> (y &&& 31)) 18,
  zo_pushI 1 19,
  zo_ii (fun x y => x &&& y) 20,
  zo_pushI 1 21,
  zo_icmp (fun x y => decide (¬ x = y)) 28 24,
  zo_none,
  zo_none,
  zo_pushI 1 25,
  zo_goto 29,
  zo_none,
  zo_none,
  zo_pushI 0 29,
  zo_iret true]
set_option maxRecDepth 100000 in
theorem tl_X12_hasField : ∀ pc, zz_Tl (tX12_hasField.getD pc zo_none) := by
  refine zz_Tl_mem ?_
  unfold tX12_hasField
  refine List.forall_mem_cons.mpr ⟨(zo_iload_tl _ _), ?_⟩
  refine List.forall_mem_cons.mpr ⟨(zo_pushI_tl _ _), ?_⟩
  refine List.forall_mem_cons.mpr ⟨(zo_pushI_tl _ _), ?_⟩
  refine List.forall_mem_cons.mpr ⟨zo_none_tl, ?_⟩
  refine List.forall_mem_cons.mpr ⟨(zo_calls_tl _ _ _), ?_⟩
  refine List.forall_mem_cons.mpr ⟨zo_none_tl, ?_⟩
  refine List.forall_mem_cons.mpr ⟨zo_none_tl, ?_⟩
  refine List.forall_mem_cons.mpr ⟨(zo_if_tl _ _ _), ?_⟩
  refine List.forall_mem_cons.mpr ⟨zo_none_tl, ?_⟩
  refine List.forall_mem_cons.mpr ⟨zo_none_tl, ?_⟩
  refine List.forall_mem_cons.mpr ⟨(zo_aload_tl _ _), ?_⟩
  refine List.forall_mem_cons.mpr ⟨(zo_getf_tl _ _ _), ?_⟩
  refine List.forall_mem_cons.mpr ⟨zo_none_tl, ?_⟩
  refine List.forall_mem_cons.mpr ⟨zo_none_tl, ?_⟩
  refine List.forall_mem_cons.mpr ⟨(zo_iload_tl _ _), ?_⟩
  refine List.forall_mem_cons.mpr ⟨(zo_iald_tl _ _ _), ?_⟩
  refine List.forall_mem_cons.mpr ⟨(zo_iload_tl _ _), ?_⟩
  refine List.forall_mem_cons.mpr ⟨(zo_ii_tl _ _), ?_⟩
  refine List.forall_mem_cons.mpr ⟨(zo_pushI_tl _ _), ?_⟩
  refine List.forall_mem_cons.mpr ⟨(zo_ii_tl _ _), ?_⟩
  refine List.forall_mem_cons.mpr ⟨(zo_pushI_tl _ _), ?_⟩
  refine List.forall_mem_cons.mpr ⟨(zo_icmp_tl _ _ _), ?_⟩
  refine List.forall_mem_cons.mpr ⟨zo_none_tl, ?_⟩
  refine List.forall_mem_cons.mpr ⟨zo_none_tl, ?_⟩
  refine List.forall_mem_cons.mpr ⟨(zo_pushI_tl _ _), ?_⟩
  refine List.forall_mem_cons.mpr ⟨(zo_goto_tl _), ?_⟩
  refine List.forall_mem_cons.mpr ⟨zo_none_tl, ?_⟩
  refine List.forall_mem_cons.mpr ⟨zo_none_tl, ?_⟩
  refine List.forall_mem_cons.mpr ⟨(zo_pushI_tl _ _), ?_⟩
  refine List.forall_mem_cons.mpr ⟨(zo_iret_tl _), ?_⟩
  exact fun _ h => absurd h List.not_mem_nil
noncomputable def fX12_hasField : zzFn := zz_fn tX12_hasField 3
set_option maxRecDepth 100000 in
set_option maxHeartbeats 4000000 in
theorem mm_X12_hasField {l : Launch} {D : va_G} {cA : Nat → ClassId} {ad : Nat → Nat} {Ex : (Nat → Prop) → State → Heap → Prop} (Wd : zzWR l D cA ad Ex) : zz_Cn l D zzCl cA ad zzSR Ex yX12_hasField cX12_hasField 3 (some .boolean) 1 22 fX12_hasField ∧ zz_Cx l D zzCl cA ad zzSR Ex yX12_hasField cX12_hasField 3 (some .boolean) 1 22 fX12_hasField := by
  refine zz_meth (plainFor_of_name (by decide)) Wd.1 Wd.2.1 Wd.2.2 (fun p e R s m args below meth c rr X => ?_)
  unfold tX12_hasField
  refine zz_cons (k' := 1) rfl (zk_iload_n X dX12_hasField_0 rfl rfl) ?_
  refine zz_cons (k' := 2) rfl (zk_iconst X dX12_hasField_1 (by decide) rfl) ?_
  refine zz_cons (k' := 3) rfl (zk_bipush X dX12_hasField_2 (by decide) rfl) ?_
  refine zz_cons (k' := 4) rfl (zz_Ok_none _ _) ?_
  refine zz_cons (k' := 5) rfl (zk_calls X ks_X12_140 (mm_X12_isIn Wd).1 (by decide) dX12_hasField_4 rfl) ?_
  refine zz_cons (k' := 6) rfl (zz_Ok_none _ _) ?_
  refine zz_cons (k' := 7) rfl (zz_Ok_none _ _) ?_
  refine zz_cons (k' := 8) rfl (zk_if_eq X dX12_hasField_7 (by decide) rfl) ?_
  refine zz_cons (k' := 9) rfl (zz_Ok_none _ _) ?_
  refine zz_cons (k' := 10) rfl (zz_Ok_none _ _) ?_
  refine zz_cons (k' := 11) rfl (zk_aload_n X dX12_hasField_10 rfl rfl) ?_
  refine zz_cons (k' := 12) rfl (zk_getf X ff_X12_22 dX12_hasField_11 rfl) ?_
  refine zz_cons (k' := 13) rfl (zz_Ok_none _ _) ?_
  refine zz_cons (k' := 14) rfl (zz_Ok_none _ _) ?_
  refine zz_cons (k' := 15) rfl (zk_iload_n X dX12_hasField_14 rfl rfl) ?_
  refine zz_cons (k' := 16) rfl (zk_iald X (zzWR_st Wd) dX12_hasField_15 rfl) ?_
  refine zz_cons (k' := 17) rfl (zk_iload_n X dX12_hasField_16 rfl rfl) ?_
  refine zz_cons (k' := 18) rfl (zk_ishr X dX12_hasField_17 rfl) ?_
  refine zz_cons (k' := 19) rfl (zk_iconst X dX12_hasField_18 (by decide) rfl) ?_
  refine zz_cons (k' := 20) rfl (zk_iand X dX12_hasField_19 rfl) ?_
  refine zz_cons (k' := 21) rfl (zk_iconst X dX12_hasField_20 (by decide) rfl) ?_
  refine zz_cons (k' := 22) rfl (zk_icmp_ne X dX12_hasField_21 (by decide) rfl) ?_
  refine zz_cons (k' := 23) rfl (zz_Ok_none _ _) ?_
  refine zz_cons (k' := 24) rfl (zz_Ok_none _ _) ?_
  refine zz_cons (k' := 25) rfl (zk_iconst X dX12_hasField_24 (by decide) rfl) ?_
  refine zz_cons (k' := 26) rfl (zk_goto X dX12_hasField_25 (by decide)) ?_
  refine zz_cons (k' := 27) rfl (zz_Ok_none _ _) ?_
  refine zz_cons (k' := 28) rfl (zz_Ok_none _ _) ?_
  refine zz_cons (k' := 29) rfl (zk_iconst X dX12_hasField_28 (by decide) rfl) ?_
  refine zz_cons (k' := 30) rfl (zk_iret X rfl dX12_hasField_29) ?_
  exact trivial
noncomputable def tX12_isValue : List zzOp := [
  zo_iload 2 1,
  zo_aload 0 2,
  zo_getf zzSR (zz_kf [10] 2) 5,
  zo_none,
  zo_none,
  zo_iload 1 6,
  zo_iald zzSR zzSTR 7,
  zo_aload 0 8,
  zo_getf zzSR (zz_kf [10] 3) 11,
  zo_none,
  zo_none,
  zo_iload 1 12,
  zo_iald zzSR zzSTR 13,
  zo_calls fX12_isIn 3 16,
  zo_none,
  zo_none,
  zo_iret true]
set_option maxRecDepth 100000 in
theorem tl_X12_isValue : ∀ pc, zz_Tl (tX12_isValue.getD pc zo_none) := by
  refine zz_Tl_mem ?_
  unfold tX12_isValue
  refine List.forall_mem_cons.mpr ⟨(zo_iload_tl _ _), ?_⟩
  refine List.forall_mem_cons.mpr ⟨(zo_aload_tl _ _), ?_⟩
  refine List.forall_mem_cons.mpr ⟨(zo_getf_tl _ _ _), ?_⟩
  refine List.forall_mem_cons.mpr ⟨zo_none_tl, ?_⟩
  refine List.forall_mem_cons.mpr ⟨zo_none_tl, ?_⟩
  refine List.forall_mem_cons.mpr ⟨(zo_iload_tl _ _), ?_⟩
  refine List.forall_mem_cons.mpr ⟨(zo_iald_tl _ _ _), ?_⟩
  refine List.forall_mem_cons.mpr ⟨(zo_aload_tl _ _), ?_⟩
  refine List.forall_mem_cons.mpr ⟨(zo_getf_tl _ _ _), ?_⟩
  refine List.forall_mem_cons.mpr ⟨zo_none_tl, ?_⟩
  refine List.forall_mem_cons.mpr ⟨zo_none_tl, ?_⟩
  refine List.forall_mem_cons.mpr ⟨(zo_iload_tl _ _), ?_⟩
  refine List.forall_mem_cons.mpr ⟨(zo_iald_tl _ _ _), ?_⟩
  refine List.forall_mem_cons.mpr ⟨(zo_calls_tl _ _ _), ?_⟩
  refine List.forall_mem_cons.mpr ⟨zo_none_tl, ?_⟩
  refine List.forall_mem_cons.mpr ⟨zo_none_tl, ?_⟩
  refine List.forall_mem_cons.mpr ⟨(zo_iret_tl _), ?_⟩
  exact fun _ h => absurd h List.not_mem_nil
noncomputable def fX12_isValue : zzFn := zz_fn tX12_isValue 3
set_option maxRecDepth 100000 in
set_option maxHeartbeats 4000000 in
theorem mm_X12_isValue {l : Launch} {D : va_G} {cA : Nat → ClassId} {ad : Nat → Nat} {Ex : (Nat → Prop) → State → Heap → Prop} (Wd : zzWR l D cA ad Ex) : zz_Cn l D zzCl cA ad zzSR Ex yX12_isValue cX12_isValue 3 (some .boolean) 1 22 fX12_isValue ∧ zz_Cx l D zzCl cA ad zzSR Ex yX12_isValue cX12_isValue 3 (some .boolean) 1 22 fX12_isValue := by
  refine zz_meth (plainFor_of_name (by decide)) Wd.1 Wd.2.1 Wd.2.2 (fun p e R s m args below meth c rr X => ?_)
  unfold tX12_isValue
  refine zz_cons (k' := 1) rfl (zk_iload_n X dX12_isValue_0 rfl rfl) ?_
  refine zz_cons (k' := 2) rfl (zk_aload_n X dX12_isValue_1 rfl rfl) ?_
  refine zz_cons (k' := 3) rfl (zk_getf X ff_X12_16 dX12_isValue_2 rfl) ?_
  refine zz_cons (k' := 4) rfl (zz_Ok_none _ _) ?_
  refine zz_cons (k' := 5) rfl (zz_Ok_none _ _) ?_
  refine zz_cons (k' := 6) rfl (zk_iload_n X dX12_isValue_5 rfl rfl) ?_
  refine zz_cons (k' := 7) rfl (zk_iald X (zzWR_st Wd) dX12_isValue_6 rfl) ?_
  refine zz_cons (k' := 8) rfl (zk_aload_n X dX12_isValue_7 rfl rfl) ?_
  refine zz_cons (k' := 9) rfl (zk_getf X ff_X12_19 dX12_isValue_8 rfl) ?_
  refine zz_cons (k' := 10) rfl (zz_Ok_none _ _) ?_
  refine zz_cons (k' := 11) rfl (zz_Ok_none _ _) ?_
  refine zz_cons (k' := 12) rfl (zk_iload_n X dX12_isValue_11 rfl rfl) ?_
  refine zz_cons (k' := 13) rfl (zk_iald X (zzWR_st Wd) dX12_isValue_12 rfl) ?_
  refine zz_cons (k' := 14) rfl (zk_calls X ks_X12_140 (mm_X12_isIn Wd).1 (by decide) dX12_isValue_13 rfl) ?_
  refine zz_cons (k' := 15) rfl (zz_Ok_none _ _) ?_
  refine zz_cons (k' := 16) rfl (zz_Ok_none _ _) ?_
  refine zz_cons (k' := 17) rfl (zk_iret X rfl dX12_isValue_16) ?_
  exact trivial
noncomputable def tX12_get : List zzOp := [
  zo_lload 1 1,
  zo_aload 0 2,
  zo_getf zzSR (zz_kf [10] 0) 5,
  zo_none,
  zo_none,
  zo_iload 3 6,
  zo_iald zzSR zzSTR 7,
  zo_li (fun x y => x >>> (y.toInt64 &&& 63)) 8,
  zo_pushL 1 9,
  zo_aload 0 10,
  zo_getf zzSR (zz_kf [10] 1) 13,
  zo_none,
  zo_none,
  zo_iload 3 14,
  zo_iald zzSR zzSTR 15,
  zo_li (fun x y => x <<< (y.toInt64 &&& 63)) 16,
  zo_pushL 1 17,
  zo_ll (fun x y => x - y) 18,
  zo_ll (fun x y => x &&& y) 19,
  zo_l2i 20,
  zo_iret false]
set_option maxRecDepth 100000 in
theorem tl_X12_get : ∀ pc, zz_Tl (tX12_get.getD pc zo_none) := by
  refine zz_Tl_mem ?_
  unfold tX12_get
  refine List.forall_mem_cons.mpr ⟨(zo_lload_tl _ _), ?_⟩
  refine List.forall_mem_cons.mpr ⟨(zo_aload_tl _ _), ?_⟩
  refine List.forall_mem_cons.mpr ⟨(zo_getf_tl _ _ _), ?_⟩
  refine List.forall_mem_cons.mpr ⟨zo_none_tl, ?_⟩
  refine List.forall_mem_cons.mpr ⟨zo_none_tl, ?_⟩
  refine List.forall_mem_cons.mpr ⟨(zo_iload_tl _ _), ?_⟩
  refine List.forall_mem_cons.mpr ⟨(zo_iald_tl _ _ _), ?_⟩
  refine List.forall_mem_cons.mpr ⟨(zo_li_tl _ _), ?_⟩
  refine List.forall_mem_cons.mpr ⟨(zo_pushL_tl _ _), ?_⟩
  refine List.forall_mem_cons.mpr ⟨(zo_aload_tl _ _), ?_⟩
  refine List.forall_mem_cons.mpr ⟨(zo_getf_tl _ _ _), ?_⟩
  refine List.forall_mem_cons.mpr ⟨zo_none_tl, ?_⟩
  refine List.forall_mem_cons.mpr ⟨zo_none_tl, ?_⟩
  refine List.forall_mem_cons.mpr ⟨(zo_iload_tl _ _), ?_⟩
  refine List.forall_mem_cons.mpr ⟨(zo_iald_tl _ _ _), ?_⟩
  refine List.forall_mem_cons.mpr ⟨(zo_li_tl _ _), ?_⟩
  refine List.forall_mem_cons.mpr ⟨(zo_pushL_tl _ _), ?_⟩
  refine List.forall_mem_cons.mpr ⟨(zo_ll_tl _ _), ?_⟩
  refine List.forall_mem_cons.mpr ⟨(zo_ll_tl _ _), ?_⟩
  refine List.forall_mem_cons.mpr ⟨(zo_l2i_tl _), ?_⟩
  refine List.forall_mem_cons.mpr ⟨(zo_iret_tl _), ?_⟩
  exact fun _ h => absurd h List.not_mem_nil
noncomputable def fX12_get : zzFn := zz_fn tX12_get 4
set_option maxRecDepth 100000 in
set_option maxHeartbeats 4000000 in
theorem mm_X12_get {l : Launch} {D : va_G} {cA : Nat → ClassId} {ad : Nat → Nat} {Ex : (Nat → Prop) → State → Heap → Prop} (Wd : zzWR l D cA ad Ex) : zz_Cn l D zzCl cA ad zzSR Ex yX12_get cX12_get 4 (some .int) 0 0 fX12_get ∧ zz_Cx l D zzCl cA ad zzSR Ex yX12_get cX12_get 4 (some .int) 0 0 fX12_get := by
  refine zz_meth (plainFor_of_name (by decide)) Wd.1 Wd.2.1 Wd.2.2 (fun p e R s m args below meth c rr X => ?_)
  unfold tX12_get
  refine zz_cons (k' := 1) rfl (zk_lload_n X dX12_get_0 rfl rfl) ?_
  refine zz_cons (k' := 2) rfl (zk_aload_n X dX12_get_1 rfl rfl) ?_
  refine zz_cons (k' := 3) rfl (zk_getf X ff_X12_7 dX12_get_2 rfl) ?_
  refine zz_cons (k' := 4) rfl (zz_Ok_none _ _) ?_
  refine zz_cons (k' := 5) rfl (zz_Ok_none _ _) ?_
  refine zz_cons (k' := 6) rfl (zk_iload_n X dX12_get_5 rfl rfl) ?_
  refine zz_cons (k' := 7) rfl (zk_iald X (zzWR_st Wd) dX12_get_6 rfl) ?_
  refine zz_cons (k' := 8) rfl (zk_lshr X dX12_get_7 rfl) ?_
  refine zz_cons (k' := 9) rfl (zk_lconst X dX12_get_8 (by decide) rfl) ?_
  refine zz_cons (k' := 10) rfl (zk_aload_n X dX12_get_9 rfl rfl) ?_
  refine zz_cons (k' := 11) rfl (zk_getf X ff_X12_13 dX12_get_10 rfl) ?_
  refine zz_cons (k' := 12) rfl (zz_Ok_none _ _) ?_
  refine zz_cons (k' := 13) rfl (zz_Ok_none _ _) ?_
  refine zz_cons (k' := 14) rfl (zk_iload_n X dX12_get_13 rfl rfl) ?_
  refine zz_cons (k' := 15) rfl (zk_iald X (zzWR_st Wd) dX12_get_14 rfl) ?_
  refine zz_cons (k' := 16) rfl (zk_lshl X dX12_get_15 rfl) ?_
  refine zz_cons (k' := 17) rfl (zk_lconst X dX12_get_16 (by decide) rfl) ?_
  refine zz_cons (k' := 18) rfl (zk_lsub X dX12_get_17 rfl) ?_
  refine zz_cons (k' := 19) rfl (zk_land X dX12_get_18 rfl) ?_
  refine zz_cons (k' := 20) rfl (zk_l2i X dX12_get_19 rfl) ?_
  refine zz_cons (k' := 21) rfl (zk_iret X rfl dX12_get_20) ?_
  exact trivial
noncomputable def tX12_with : List zzOp := [
  zo_pushL 1 1,
  zo_aload 0 2,
  zo_getf zzSR (zz_kf [10] 1) 5,
  zo_none,
  zo_none,
  zo_iload 3 6,
  zo_iald zzSR zzSTR 7,
  zo_li (fun x y => x <<< (y.toInt64 &&& 63)) 8,
  zo_pushL 1 9,
  zo_ll (fun x y => x - y) 10,
  zo_aload 0 11,
  zo_getf zzSR (zz_kf [10] 0) 14,
  zo_none,
  zo_none,
  zo_iload 3 15,
  zo_iald zzSR zzSTR 16,
  zo_li (fun x y => x <<< (y.toInt64 &&& 63)) 17,
  zo_lstore 5 19,
  zo_none,
  zo_lload 1 20,
  zo_lload 5 22,
  zo_none,
  zo_pushL (-1) 25,
  zo_none,
  zo_none,
  zo_ll (fun x y => x ^^^ y) 26,
  zo_ll (fun x y => x &&& y) 27,
  zo_iload 4 29,
  zo_none,
  zo_i2l 30,
  zo_aload 0 31,
  zo_getf zzSR (zz_kf [10] 0) 34,
  zo_none,
  zo_none,
  zo_iload 3 35,
  zo_iald zzSR zzSTR 36,
  zo_li (fun x y => x <<< (y.toInt64 &&& 63)) 37,
  zo_ll (fun x y => x ||| y) 38,
  zo_lret]
set_option maxRecDepth 100000 in
theorem tl_X12_with : ∀ pc, zz_Tl (tX12_with.getD pc zo_none) := by
  refine zz_Tl_mem ?_
  unfold tX12_with
  refine List.forall_mem_cons.mpr ⟨(zo_pushL_tl _ _), ?_⟩
  refine List.forall_mem_cons.mpr ⟨(zo_aload_tl _ _), ?_⟩
  refine List.forall_mem_cons.mpr ⟨(zo_getf_tl _ _ _), ?_⟩
  refine List.forall_mem_cons.mpr ⟨zo_none_tl, ?_⟩
  refine List.forall_mem_cons.mpr ⟨zo_none_tl, ?_⟩
  refine List.forall_mem_cons.mpr ⟨(zo_iload_tl _ _), ?_⟩
  refine List.forall_mem_cons.mpr ⟨(zo_iald_tl _ _ _), ?_⟩
  refine List.forall_mem_cons.mpr ⟨(zo_li_tl _ _), ?_⟩
  refine List.forall_mem_cons.mpr ⟨(zo_pushL_tl _ _), ?_⟩
  refine List.forall_mem_cons.mpr ⟨(zo_ll_tl _ _), ?_⟩
  refine List.forall_mem_cons.mpr ⟨(zo_aload_tl _ _), ?_⟩
  refine List.forall_mem_cons.mpr ⟨(zo_getf_tl _ _ _), ?_⟩
  refine List.forall_mem_cons.mpr ⟨zo_none_tl, ?_⟩
  refine List.forall_mem_cons.mpr ⟨zo_none_tl, ?_⟩
  refine List.forall_mem_cons.mpr ⟨(zo_iload_tl _ _), ?_⟩
  refine List.forall_mem_cons.mpr ⟨(zo_iald_tl _ _ _), ?_⟩
  refine List.forall_mem_cons.mpr ⟨(zo_li_tl _ _), ?_⟩
  refine List.forall_mem_cons.mpr ⟨(zo_lstore_tl _ _), ?_⟩
  refine List.forall_mem_cons.mpr ⟨zo_none_tl, ?_⟩
  refine List.forall_mem_cons.mpr ⟨(zo_lload_tl _ _), ?_⟩
  refine List.forall_mem_cons.mpr ⟨(zo_lload_tl _ _), ?_⟩
  refine List.forall_mem_cons.mpr ⟨zo_none_tl, ?_⟩
  refine List.forall_mem_cons.mpr ⟨(zo_pushL_tl _ _), ?_⟩
  refine List.forall_mem_cons.mpr ⟨zo_none_tl, ?_⟩
  refine List.forall_mem_cons.mpr ⟨zo_none_tl, ?_⟩
  refine List.forall_mem_cons.mpr ⟨(zo_ll_tl _ _), ?_⟩
  refine List.forall_mem_cons.mpr ⟨(zo_ll_tl _ _), ?_⟩
  refine List.forall_mem_cons.mpr ⟨(zo_iload_tl _ _), ?_⟩
  refine List.forall_mem_cons.mpr ⟨zo_none_tl, ?_⟩
  refine List.forall_mem_cons.mpr ⟨(zo_i2l_tl _), ?_⟩
  refine List.forall_mem_cons.mpr ⟨(zo_aload_tl _ _), ?_⟩
  refine List.forall_mem_cons.mpr ⟨(zo_getf_tl _ _ _), ?_⟩
  refine List.forall_mem_cons.mpr ⟨zo_none_tl, ?_⟩
  refine List.forall_mem_cons.mpr ⟨zo_none_tl, ?_⟩
  refine List.forall_mem_cons.mpr ⟨(zo_iload_tl _ _), ?_⟩
  refine List.forall_mem_cons.mpr ⟨(zo_iald_tl _ _ _), ?_⟩
  refine List.forall_mem_cons.mpr ⟨(zo_li_tl _ _), ?_⟩
  refine List.forall_mem_cons.mpr ⟨(zo_ll_tl _ _), ?_⟩
  refine List.forall_mem_cons.mpr ⟨(zo_lret_tl), ?_⟩
  exact fun _ h => absurd h List.not_mem_nil
noncomputable def fX12_with : zzFn := zz_fn tX12_with 7
set_option maxRecDepth 100000 in
set_option maxHeartbeats 4000000 in
theorem mm_X12_with {l : Launch} {D : va_G} {cA : Nat → ClassId} {ad : Nat → Nat} {Ex : (Nat → Prop) → State → Heap → Prop} (Wd : zzWR l D cA ad Ex) : zz_Cn l D zzCl cA ad zzSR Ex yX12_with cX12_with 7 (some .long) 0 0 fX12_with ∧ zz_Cx l D zzCl cA ad zzSR Ex yX12_with cX12_with 7 (some .long) 0 0 fX12_with := by
  refine zz_meth (plainFor_of_name (by decide)) Wd.1 Wd.2.1 Wd.2.2 (fun p e R s m args below meth c rr X => ?_)
  unfold tX12_with
  refine zz_cons (k' := 1) rfl (zk_lconst X dX12_with_0 (by decide) rfl) ?_
  refine zz_cons (k' := 2) rfl (zk_aload_n X dX12_with_1 rfl rfl) ?_
  refine zz_cons (k' := 3) rfl (zk_getf X ff_X12_13 dX12_with_2 rfl) ?_
  refine zz_cons (k' := 4) rfl (zz_Ok_none _ _) ?_
  refine zz_cons (k' := 5) rfl (zz_Ok_none _ _) ?_
  refine zz_cons (k' := 6) rfl (zk_iload_n X dX12_with_5 rfl rfl) ?_
  refine zz_cons (k' := 7) rfl (zk_iald X (zzWR_st Wd) dX12_with_6 rfl) ?_
  refine zz_cons (k' := 8) rfl (zk_lshl X dX12_with_7 rfl) ?_
  refine zz_cons (k' := 9) rfl (zk_lconst X dX12_with_8 (by decide) rfl) ?_
  refine zz_cons (k' := 10) rfl (zk_lsub X dX12_with_9 rfl) ?_
  refine zz_cons (k' := 11) rfl (zk_aload_n X dX12_with_10 rfl rfl) ?_
  refine zz_cons (k' := 12) rfl (zk_getf X ff_X12_7 dX12_with_11 rfl) ?_
  refine zz_cons (k' := 13) rfl (zz_Ok_none _ _) ?_
  refine zz_cons (k' := 14) rfl (zz_Ok_none _ _) ?_
  refine zz_cons (k' := 15) rfl (zk_iload_n X dX12_with_14 rfl rfl) ?_
  refine zz_cons (k' := 16) rfl (zk_iald X (zzWR_st Wd) dX12_with_15 rfl) ?_
  refine zz_cons (k' := 17) rfl (zk_lshl X dX12_with_16 rfl) ?_
  refine zz_cons (k' := 18) rfl (zk_lstore X dX12_with_17 (by decide) rfl) ?_
  refine zz_cons (k' := 19) rfl (zz_Ok_none _ _) ?_
  refine zz_cons (k' := 20) rfl (zk_lload_n X dX12_with_19 rfl rfl) ?_
  refine zz_cons (k' := 21) rfl (zk_lload X dX12_with_20 rfl) ?_
  refine zz_cons (k' := 22) rfl (zz_Ok_none _ _) ?_
  refine zz_cons (k' := 23) rfl (zk_ldc2 X (zz_in (by decide +kernel)) dX12_with_22 rfl) ?_
  refine zz_cons (k' := 24) rfl (zz_Ok_none _ _) ?_
  refine zz_cons (k' := 25) rfl (zz_Ok_none _ _) ?_
  refine zz_cons (k' := 26) rfl (zk_lxor X dX12_with_25 rfl) ?_
  refine zz_cons (k' := 27) rfl (zk_land X dX12_with_26 rfl) ?_
  refine zz_cons (k' := 28) rfl (zk_iload X dX12_with_27 rfl) ?_
  refine zz_cons (k' := 29) rfl (zz_Ok_none _ _) ?_
  refine zz_cons (k' := 30) rfl (zk_i2l X dX12_with_29 rfl) ?_
  refine zz_cons (k' := 31) rfl (zk_aload_n X dX12_with_30 rfl rfl) ?_
  refine zz_cons (k' := 32) rfl (zk_getf X ff_X12_7 dX12_with_31 rfl) ?_
  refine zz_cons (k' := 33) rfl (zz_Ok_none _ _) ?_
  refine zz_cons (k' := 34) rfl (zz_Ok_none _ _) ?_
  refine zz_cons (k' := 35) rfl (zk_iload_n X dX12_with_34 rfl rfl) ?_
  refine zz_cons (k' := 36) rfl (zk_iald X (zzWR_st Wd) dX12_with_35 rfl) ?_
  refine zz_cons (k' := 37) rfl (zk_lshl X dX12_with_36 rfl) ?_
  refine zz_cons (k' := 38) rfl (zk_lor X dX12_with_37 rfl) ?_
  refine zz_cons (k' := 39) rfl (zk_lret X rfl dX12_with_38) ?_
  exact trivial
noncomputable def tX12_ownerIn : List zzOp := [
  zo_aload 0 1,
  zo_lload 1 2,
  zo_pushI 11 4,
  zo_none,
  zo_callv zzSR (zz_cl [(10, fX12_get)]) 2 7,
  zo_none,
  zo_none,
  zo_pushI 1 8,
  zo_ii (fun x y => x - y) 9,
  zo_iret false]
set_option maxRecDepth 100000 in
theorem tl_X12_ownerIn : ∀ pc, zz_Tl (tX12_ownerIn.getD pc zo_none) := by
  refine zz_Tl_mem ?_
  unfold tX12_ownerIn
  refine List.forall_mem_cons.mpr ⟨(zo_aload_tl _ _), ?_⟩
  refine List.forall_mem_cons.mpr ⟨(zo_lload_tl _ _), ?_⟩
  refine List.forall_mem_cons.mpr ⟨(zo_pushI_tl _ _), ?_⟩
  refine List.forall_mem_cons.mpr ⟨zo_none_tl, ?_⟩
  refine List.forall_mem_cons.mpr ⟨(zo_callv_tl _ _ _ _), ?_⟩
  refine List.forall_mem_cons.mpr ⟨zo_none_tl, ?_⟩
  refine List.forall_mem_cons.mpr ⟨zo_none_tl, ?_⟩
  refine List.forall_mem_cons.mpr ⟨(zo_pushI_tl _ _), ?_⟩
  refine List.forall_mem_cons.mpr ⟨(zo_ii_tl _ _), ?_⟩
  refine List.forall_mem_cons.mpr ⟨(zo_iret_tl _), ?_⟩
  exact fun _ h => absurd h List.not_mem_nil
noncomputable def fX12_ownerIn : zzFn := zz_fn tX12_ownerIn 3
set_option maxRecDepth 100000 in
set_option maxHeartbeats 4000000 in
theorem mm_X12_ownerIn {l : Launch} {D : va_G} {cA : Nat → ClassId} {ad : Nat → Nat} {Ex : (Nat → Prop) → State → Heap → Prop} (Wd : zzWR l D cA ad Ex) : zz_Cn l D zzCl cA ad zzSR Ex yX12_ownerIn cX12_ownerIn 3 (some .int) 1 23 fX12_ownerIn ∧ zz_Cx l D zzCl cA ad zzSR Ex yX12_ownerIn cX12_ownerIn 3 (some .int) 1 23 fX12_ownerIn := by
  refine zz_meth (plainFor_of_name (by decide)) Wd.1 Wd.2.1 Wd.2.2 (fun p e R s m args below meth c rr X => ?_)
  unfold tX12_ownerIn
  refine zz_cons (k' := 1) rfl (zk_aload_n X dX12_ownerIn_0 rfl rfl) ?_
  refine zz_cons (k' := 2) rfl (zk_lload_n X dX12_ownerIn_1 rfl rfl) ?_
  refine zz_cons (k' := 3) rfl (zk_bipush X dX12_ownerIn_2 (by decide) rfl) ?_
  refine zz_cons (k' := 4) rfl (zz_Ok_none _ _) ?_
  refine zz_cons (k' := 5) rfl (zk_callv X (zz_Cv_of (List.forall_mem_cons.mpr ⟨⟨(RX_10, zzT10, 50), yX12_get, cX12_get, 4, (some .int), 0, 0, rfl, kv_X12_146_10.1, (mm_X12_get Wd).1, by decide, by decide⟩, (fun _ h => absurd h List.not_mem_nil)⟩)) dX12_ownerIn_4 rfl) ?_
  refine zz_cons (k' := 6) rfl (zz_Ok_none _ _) ?_
  refine zz_cons (k' := 7) rfl (zz_Ok_none _ _) ?_
  refine zz_cons (k' := 8) rfl (zk_iconst X dX12_ownerIn_7 (by decide) rfl) ?_
  refine zz_cons (k' := 9) rfl (zk_isub X dX12_ownerIn_8 rfl) ?_
  refine zz_cons (k' := 10) rfl (zk_iret X rfl dX12_ownerIn_9) ?_
  exact trivial
noncomputable def tX12_gone : List zzOp := [
  zo_aload 0 1,
  zo_aload 0 2,
  zo_lload 1 3,
  zo_pushI 13 5,
  zo_none,
  zo_pushI 4 6,
  zo_callv zzSR (zz_cl [(10, fX12_with)]) 3 9,
  zo_none,
  zo_none,
  zo_pushI 11 11,
  zo_none,
  zo_pushI 0 12,
  zo_callv zzSR (zz_cl [(10, fX12_with)]) 3 15,
  zo_none,
  zo_none,
  zo_lret]
set_option maxRecDepth 100000 in
theorem tl_X12_gone : ∀ pc, zz_Tl (tX12_gone.getD pc zo_none) := by
  refine zz_Tl_mem ?_
  unfold tX12_gone
  refine List.forall_mem_cons.mpr ⟨(zo_aload_tl _ _), ?_⟩
  refine List.forall_mem_cons.mpr ⟨(zo_aload_tl _ _), ?_⟩
  refine List.forall_mem_cons.mpr ⟨(zo_lload_tl _ _), ?_⟩
  refine List.forall_mem_cons.mpr ⟨(zo_pushI_tl _ _), ?_⟩
  refine List.forall_mem_cons.mpr ⟨zo_none_tl, ?_⟩
  refine List.forall_mem_cons.mpr ⟨(zo_pushI_tl _ _), ?_⟩
  refine List.forall_mem_cons.mpr ⟨(zo_callv_tl _ _ _ _), ?_⟩
  refine List.forall_mem_cons.mpr ⟨zo_none_tl, ?_⟩
  refine List.forall_mem_cons.mpr ⟨zo_none_tl, ?_⟩
  refine List.forall_mem_cons.mpr ⟨(zo_pushI_tl _ _), ?_⟩
  refine List.forall_mem_cons.mpr ⟨zo_none_tl, ?_⟩
  refine List.forall_mem_cons.mpr ⟨(zo_pushI_tl _ _), ?_⟩
  refine List.forall_mem_cons.mpr ⟨(zo_callv_tl _ _ _ _), ?_⟩
  refine List.forall_mem_cons.mpr ⟨zo_none_tl, ?_⟩
  refine List.forall_mem_cons.mpr ⟨zo_none_tl, ?_⟩
  refine List.forall_mem_cons.mpr ⟨(zo_lret_tl), ?_⟩
  exact fun _ h => absurd h List.not_mem_nil
noncomputable def fX12_gone : zzFn := zz_fn tX12_gone 3
set_option maxRecDepth 100000 in
set_option maxHeartbeats 4000000 in
theorem mm_X12_gone {l : Launch} {D : va_G} {cA : Nat → ClassId} {ad : Nat → Nat} {Ex : (Nat → Prop) → State → Heap → Prop} (Wd : zzWR l D cA ad Ex) : zz_Cn l D zzCl cA ad zzSR Ex yX12_gone cX12_gone 3 (some .long) 1 26 fX12_gone ∧ zz_Cx l D zzCl cA ad zzSR Ex yX12_gone cX12_gone 3 (some .long) 1 26 fX12_gone := by
  refine zz_meth (plainFor_of_name (by decide)) Wd.1 Wd.2.1 Wd.2.2 (fun p e R s m args below meth c rr X => ?_)
  unfold tX12_gone
  refine zz_cons (k' := 1) rfl (zk_aload_n X dX12_gone_0 rfl rfl) ?_
  refine zz_cons (k' := 2) rfl (zk_aload_n X dX12_gone_1 rfl rfl) ?_
  refine zz_cons (k' := 3) rfl (zk_lload_n X dX12_gone_2 rfl rfl) ?_
  refine zz_cons (k' := 4) rfl (zk_bipush X dX12_gone_3 (by decide) rfl) ?_
  refine zz_cons (k' := 5) rfl (zz_Ok_none _ _) ?_
  refine zz_cons (k' := 6) rfl (zk_iconst X dX12_gone_5 (by decide) rfl) ?_
  refine zz_cons (k' := 7) rfl (zk_callv X (zz_Cv_of (List.forall_mem_cons.mpr ⟨⟨(RX_10, zzT10, 50), yX12_with, cX12_with, 7, (some .long), 0, 0, rfl, kv_X12_150_10.1, (mm_X12_with Wd).1, by decide, by decide⟩, (fun _ h => absurd h List.not_mem_nil)⟩)) dX12_gone_6 rfl) ?_
  refine zz_cons (k' := 8) rfl (zz_Ok_none _ _) ?_
  refine zz_cons (k' := 9) rfl (zz_Ok_none _ _) ?_
  refine zz_cons (k' := 10) rfl (zk_bipush X dX12_gone_9 (by decide) rfl) ?_
  refine zz_cons (k' := 11) rfl (zz_Ok_none _ _) ?_
  refine zz_cons (k' := 12) rfl (zk_iconst X dX12_gone_11 (by decide) rfl) ?_
  refine zz_cons (k' := 13) rfl (zk_callv X (zz_Cv_of (List.forall_mem_cons.mpr ⟨⟨(RX_10, zzT10, 50), yX12_with, cX12_with, 7, (some .long), 0, 0, rfl, kv_X12_150_10.1, (mm_X12_with Wd).1, by decide, by decide⟩, (fun _ h => absurd h List.not_mem_nil)⟩)) dX12_gone_12 rfl) ?_
  refine zz_cons (k' := 14) rfl (zz_Ok_none _ _) ?_
  refine zz_cons (k' := 15) rfl (zz_Ok_none _ _) ?_
  refine zz_cons (k' := 16) rfl (zk_lret X rfl dX12_gone_15) ?_
  exact trivial
noncomputable def tX12_isOf : List zzOp := [
  zo_lload 0 1,
  zo_iload 2 2,
  zo_li (fun x y => x >>> (y.toInt64 &&& 63)) 3,
  zo_pushL 1 4,
  zo_ll (fun x y => x &&& y) 5,
  zo_pushL 1 6,
  zo_lcmp 7,
  zo_if (fun x => decide (¬ x = 0)) 14 10,
  zo_none,
  zo_none,
  zo_pushI 1 11,
  zo_goto 15,
  zo_none,
  zo_none,
  zo_pushI 0 15,
  zo_iret true]
set_option maxRecDepth 100000 in
theorem tl_X12_isOf : ∀ pc, zz_Tl (tX12_isOf.getD pc zo_none) := by
  refine zz_Tl_mem ?_
  unfold tX12_isOf
  refine List.forall_mem_cons.mpr ⟨(zo_lload_tl _ _), ?_⟩
  refine List.forall_mem_cons.mpr ⟨(zo_iload_tl _ _), ?_⟩
  refine List.forall_mem_cons.mpr ⟨(zo_li_tl _ _), ?_⟩
  refine List.forall_mem_cons.mpr ⟨(zo_pushL_tl _ _), ?_⟩
  refine List.forall_mem_cons.mpr ⟨(zo_ll_tl _ _), ?_⟩
  refine List.forall_mem_cons.mpr ⟨(zo_pushL_tl _ _), ?_⟩
  refine List.forall_mem_cons.mpr ⟨(zo_lcmp_tl _), ?_⟩
  refine List.forall_mem_cons.mpr ⟨(zo_if_tl _ _ _), ?_⟩
  refine List.forall_mem_cons.mpr ⟨zo_none_tl, ?_⟩
  refine List.forall_mem_cons.mpr ⟨zo_none_tl, ?_⟩
  refine List.forall_mem_cons.mpr ⟨(zo_pushI_tl _ _), ?_⟩
  refine List.forall_mem_cons.mpr ⟨(zo_goto_tl _), ?_⟩
  refine List.forall_mem_cons.mpr ⟨zo_none_tl, ?_⟩
  refine List.forall_mem_cons.mpr ⟨zo_none_tl, ?_⟩
  refine List.forall_mem_cons.mpr ⟨(zo_pushI_tl _ _), ?_⟩
  refine List.forall_mem_cons.mpr ⟨(zo_iret_tl _), ?_⟩
  exact fun _ h => absurd h List.not_mem_nil
noncomputable def fX12_isOf : zzFn := zz_fn tX12_isOf 3
set_option maxRecDepth 100000 in
set_option maxHeartbeats 4000000 in
theorem mm_X12_isOf {l : Launch} {D : va_G} {cA : Nat → ClassId} {ad : Nat → Nat} {Ex : (Nat → Prop) → State → Heap → Prop} (Wd : zzWR l D cA ad Ex) : zz_Cn l D zzCl cA ad zzSR Ex yX12_isOf cX12_isOf 3 (some .boolean) 0 0 fX12_isOf ∧ zz_Cx l D zzCl cA ad zzSR Ex yX12_isOf cX12_isOf 3 (some .boolean) 0 0 fX12_isOf := by
  refine zz_meth (plainFor_of_name (by decide)) Wd.1 Wd.2.1 Wd.2.2 (fun p e R s m args below meth c rr X => ?_)
  unfold tX12_isOf
  refine zz_cons (k' := 1) rfl (zk_lload_n X dX12_isOf_0 rfl rfl) ?_
  refine zz_cons (k' := 2) rfl (zk_iload_n X dX12_isOf_1 rfl rfl) ?_
  refine zz_cons (k' := 3) rfl (zk_lshr X dX12_isOf_2 rfl) ?_
  refine zz_cons (k' := 4) rfl (zk_lconst X dX12_isOf_3 (by decide) rfl) ?_
  refine zz_cons (k' := 5) rfl (zk_land X dX12_isOf_4 rfl) ?_
  refine zz_cons (k' := 6) rfl (zk_lconst X dX12_isOf_5 (by decide) rfl) ?_
  refine zz_cons (k' := 7) rfl (zk_lcmp X dX12_isOf_6 rfl) ?_
  refine zz_cons (k' := 8) rfl (zk_if_ne X dX12_isOf_7 (by decide) rfl) ?_
  refine zz_cons (k' := 9) rfl (zz_Ok_none _ _) ?_
  refine zz_cons (k' := 10) rfl (zz_Ok_none _ _) ?_
  refine zz_cons (k' := 11) rfl (zk_iconst X dX12_isOf_10 (by decide) rfl) ?_
  refine zz_cons (k' := 12) rfl (zk_goto X dX12_isOf_11 (by decide)) ?_
  refine zz_cons (k' := 13) rfl (zz_Ok_none _ _) ?_
  refine zz_cons (k' := 14) rfl (zz_Ok_none _ _) ?_
  refine zz_cons (k' := 15) rfl (zk_iconst X dX12_isOf_14 (by decide) rfl) ?_
  refine zz_cons (k' := 16) rfl (zk_iret X rfl dX12_isOf_15) ?_
  exact trivial
noncomputable def tX12_isFull : List zzOp := [
  zo_aload 0 1,
  zo_getf zzSR (zz_kf [10] 14) 4,
  zo_none,
  zo_none,
  zo_pushI 400 7,
  zo_none,
  zo_none,
  zo_icmp (fun x y => decide (¬ x = y)) 14 10,
  zo_none,
  zo_none,
  zo_pushI 1 11,
  zo_goto 15,
  zo_none,
  zo_none,
  zo_pushI 0 15,
  zo_iret true]
set_option maxRecDepth 100000 in
theorem tl_X12_isFull : ∀ pc, zz_Tl (tX12_isFull.getD pc zo_none) := by
  refine zz_Tl_mem ?_
  unfold tX12_isFull
  refine List.forall_mem_cons.mpr ⟨(zo_aload_tl _ _), ?_⟩
  refine List.forall_mem_cons.mpr ⟨(zo_getf_tl _ _ _), ?_⟩
  refine List.forall_mem_cons.mpr ⟨zo_none_tl, ?_⟩
  refine List.forall_mem_cons.mpr ⟨zo_none_tl, ?_⟩
  refine List.forall_mem_cons.mpr ⟨(zo_pushI_tl _ _), ?_⟩
  refine List.forall_mem_cons.mpr ⟨zo_none_tl, ?_⟩
  refine List.forall_mem_cons.mpr ⟨zo_none_tl, ?_⟩
  refine List.forall_mem_cons.mpr ⟨(zo_icmp_tl _ _ _), ?_⟩
  refine List.forall_mem_cons.mpr ⟨zo_none_tl, ?_⟩
  refine List.forall_mem_cons.mpr ⟨zo_none_tl, ?_⟩
  refine List.forall_mem_cons.mpr ⟨(zo_pushI_tl _ _), ?_⟩
  refine List.forall_mem_cons.mpr ⟨(zo_goto_tl _), ?_⟩
  refine List.forall_mem_cons.mpr ⟨zo_none_tl, ?_⟩
  refine List.forall_mem_cons.mpr ⟨zo_none_tl, ?_⟩
  refine List.forall_mem_cons.mpr ⟨(zo_pushI_tl _ _), ?_⟩
  refine List.forall_mem_cons.mpr ⟨(zo_iret_tl _), ?_⟩
  exact fun _ h => absurd h List.not_mem_nil
noncomputable def fX12_isFull : zzFn := zz_fn tX12_isFull 1
set_option maxRecDepth 100000 in
set_option maxHeartbeats 4000000 in
theorem mm_X12_isFull {l : Launch} {D : va_G} {cA : Nat → ClassId} {ad : Nat → Nat} {Ex : (Nat → Prop) → State → Heap → Prop} (Wd : zzWR l D cA ad Ex) : zz_Cn l D zzCl cA ad zzSR Ex yX12_isFull cX12_isFull 1 (some .boolean) 0 0 fX12_isFull ∧ zz_Cx l D zzCl cA ad zzSR Ex yX12_isFull cX12_isFull 1 (some .boolean) 0 0 fX12_isFull := by
  refine zz_meth (plainFor_of_name (by decide)) Wd.1 Wd.2.1 Wd.2.2 (fun p e R s m args below meth c rr X => ?_)
  unfold tX12_isFull
  refine zz_cons (k' := 1) rfl (zk_aload_n X dX12_isFull_0 rfl rfl) ?_
  refine zz_cons (k' := 2) rfl (zk_getf X ff_X12_154 dX12_isFull_1 rfl) ?_
  refine zz_cons (k' := 3) rfl (zz_Ok_none _ _) ?_
  refine zz_cons (k' := 4) rfl (zz_Ok_none _ _) ?_
  refine zz_cons (k' := 5) rfl (zk_sipush X dX12_isFull_4 (by decide) rfl) ?_
  refine zz_cons (k' := 6) rfl (zz_Ok_none _ _) ?_
  refine zz_cons (k' := 7) rfl (zz_Ok_none _ _) ?_
  refine zz_cons (k' := 8) rfl (zk_icmp_ne X dX12_isFull_7 (by decide) rfl) ?_
  refine zz_cons (k' := 9) rfl (zz_Ok_none _ _) ?_
  refine zz_cons (k' := 10) rfl (zz_Ok_none _ _) ?_
  refine zz_cons (k' := 11) rfl (zk_iconst X dX12_isFull_10 (by decide) rfl) ?_
  refine zz_cons (k' := 12) rfl (zk_goto X dX12_isFull_11 (by decide)) ?_
  refine zz_cons (k' := 13) rfl (zz_Ok_none _ _) ?_
  refine zz_cons (k' := 14) rfl (zz_Ok_none _ _) ?_
  refine zz_cons (k' := 15) rfl (zk_iconst X dX12_isFull_14 (by decide) rfl) ?_
  refine zz_cons (k' := 16) rfl (zk_iret X rfl dX12_isFull_15) ?_
  exact trivial
noncomputable def tX12_logs : List zzOp := [
  zo_aload 0 1,
  zo_dup 2,
  zo_getf zzSR (zz_kf [10] 14) 5,
  zo_none,
  zo_none,
  zo_pushI 1 6,
  zo_ii (fun x y => x + y) 7,
  zo_putf zzSR (zz_kf [10] 14) false 10,
  zo_none,
  zo_none,
  zo_aload 0 11,
  zo_getf zzSR (zz_kf [10] 7) 14,
  zo_none,
  zo_none,
  zo_iload 1 15,
  zo_lload 2 16,
  zo_last zzSR 17,
  zo_aload 0 18,
  zo_getf zzSR (zz_kf [10] 8) 21,
  zo_none,
  zo_none,
  zo_iload 1 22,
  zo_lload 4 24,
  zo_none,
  zo_last zzSR 25,
  zo_aload 0 26,
  zo_getf zzSR (zz_kf [10] 9) 29,
  zo_none,
  zo_none,
  zo_iload 1 30,
  zo_aload 0 31,
  zo_getf zzSR (zz_kf [10] 14) 34,
  zo_none,
  zo_none,
  zo_iast zzSR 35,
  zo_aload 0 36,
  zo_getf zzSR (zz_kf [10] 16) 39,
  zo_none,
  zo_none,
  zo_aload 0 40,
  zo_getf zzSR (zz_kf [10] 14) 43,
  zo_none,
  zo_none,
  zo_iload 1 44,
  zo_iast zzSR 45,
  zo_aload 0 46,
  zo_getf zzSR (zz_kf [10] 17) 49,
  zo_none,
  zo_none,
  zo_aload 0 50,
  zo_getf zzSR (zz_kf [10] 14) 53,
  zo_none,
  zo_none,
  zo_lload 2 54,
  zo_last zzSR 55,
  zo_aload 0 56,
  zo_getf zzSR (zz_kf [10] 18) 59,
  zo_none,
  zo_none,
  zo_aload 0 60,
  zo_getf zzSR (zz_kf [10] 14) 63,
  zo_none,
  zo_none,
  zo_lload 4 65,
  zo_none,
  zo_last zzSR 66,
  zo_ret]
set_option maxRecDepth 100000 in
theorem tl_X12_logs : ∀ pc, zz_Tl (tX12_logs.getD pc zo_none) := by
  refine zz_Tl_mem ?_
  unfold tX12_logs
  refine List.forall_mem_cons.mpr ⟨(zo_aload_tl _ _), ?_⟩
  refine List.forall_mem_cons.mpr ⟨(zo_dup_tl _), ?_⟩
  refine List.forall_mem_cons.mpr ⟨(zo_getf_tl _ _ _), ?_⟩
  refine List.forall_mem_cons.mpr ⟨zo_none_tl, ?_⟩
  refine List.forall_mem_cons.mpr ⟨zo_none_tl, ?_⟩
  refine List.forall_mem_cons.mpr ⟨(zo_pushI_tl _ _), ?_⟩
  refine List.forall_mem_cons.mpr ⟨(zo_ii_tl _ _), ?_⟩
  refine List.forall_mem_cons.mpr ⟨(zo_putf_tl _ _ _ _), ?_⟩
  refine List.forall_mem_cons.mpr ⟨zo_none_tl, ?_⟩
  refine List.forall_mem_cons.mpr ⟨zo_none_tl, ?_⟩
  refine List.forall_mem_cons.mpr ⟨(zo_aload_tl _ _), ?_⟩
  refine List.forall_mem_cons.mpr ⟨(zo_getf_tl _ _ _), ?_⟩
  refine List.forall_mem_cons.mpr ⟨zo_none_tl, ?_⟩
  refine List.forall_mem_cons.mpr ⟨zo_none_tl, ?_⟩
  refine List.forall_mem_cons.mpr ⟨(zo_iload_tl _ _), ?_⟩
  refine List.forall_mem_cons.mpr ⟨(zo_lload_tl _ _), ?_⟩
  refine List.forall_mem_cons.mpr ⟨(zo_last_tl _ _), ?_⟩
  refine List.forall_mem_cons.mpr ⟨(zo_aload_tl _ _), ?_⟩
  refine List.forall_mem_cons.mpr ⟨(zo_getf_tl _ _ _), ?_⟩
  refine List.forall_mem_cons.mpr ⟨zo_none_tl, ?_⟩
  refine List.forall_mem_cons.mpr ⟨zo_none_tl, ?_⟩
  refine List.forall_mem_cons.mpr ⟨(zo_iload_tl _ _), ?_⟩
  refine List.forall_mem_cons.mpr ⟨(zo_lload_tl _ _), ?_⟩
  refine List.forall_mem_cons.mpr ⟨zo_none_tl, ?_⟩
  refine List.forall_mem_cons.mpr ⟨(zo_last_tl _ _), ?_⟩
  refine List.forall_mem_cons.mpr ⟨(zo_aload_tl _ _), ?_⟩
  refine List.forall_mem_cons.mpr ⟨(zo_getf_tl _ _ _), ?_⟩
  refine List.forall_mem_cons.mpr ⟨zo_none_tl, ?_⟩
  refine List.forall_mem_cons.mpr ⟨zo_none_tl, ?_⟩
  refine List.forall_mem_cons.mpr ⟨(zo_iload_tl _ _), ?_⟩
  refine List.forall_mem_cons.mpr ⟨(zo_aload_tl _ _), ?_⟩
  refine List.forall_mem_cons.mpr ⟨(zo_getf_tl _ _ _), ?_⟩
  refine List.forall_mem_cons.mpr ⟨zo_none_tl, ?_⟩
  refine List.forall_mem_cons.mpr ⟨zo_none_tl, ?_⟩
  refine List.forall_mem_cons.mpr ⟨(zo_iast_tl _ _), ?_⟩
  refine List.forall_mem_cons.mpr ⟨(zo_aload_tl _ _), ?_⟩
  refine List.forall_mem_cons.mpr ⟨(zo_getf_tl _ _ _), ?_⟩
  refine List.forall_mem_cons.mpr ⟨zo_none_tl, ?_⟩
  refine List.forall_mem_cons.mpr ⟨zo_none_tl, ?_⟩
  refine List.forall_mem_cons.mpr ⟨(zo_aload_tl _ _), ?_⟩
  refine List.forall_mem_cons.mpr ⟨(zo_getf_tl _ _ _), ?_⟩
  refine List.forall_mem_cons.mpr ⟨zo_none_tl, ?_⟩
  refine List.forall_mem_cons.mpr ⟨zo_none_tl, ?_⟩
  refine List.forall_mem_cons.mpr ⟨(zo_iload_tl _ _), ?_⟩
  refine List.forall_mem_cons.mpr ⟨(zo_iast_tl _ _), ?_⟩
  refine List.forall_mem_cons.mpr ⟨(zo_aload_tl _ _), ?_⟩
  refine List.forall_mem_cons.mpr ⟨(zo_getf_tl _ _ _), ?_⟩
  refine List.forall_mem_cons.mpr ⟨zo_none_tl, ?_⟩
  refine List.forall_mem_cons.mpr ⟨zo_none_tl, ?_⟩
  refine List.forall_mem_cons.mpr ⟨(zo_aload_tl _ _), ?_⟩
  refine List.forall_mem_cons.mpr ⟨(zo_getf_tl _ _ _), ?_⟩
  refine List.forall_mem_cons.mpr ⟨zo_none_tl, ?_⟩
  refine List.forall_mem_cons.mpr ⟨zo_none_tl, ?_⟩
  refine List.forall_mem_cons.mpr ⟨(zo_lload_tl _ _), ?_⟩
  refine List.forall_mem_cons.mpr ⟨(zo_last_tl _ _), ?_⟩
  refine List.forall_mem_cons.mpr ⟨(zo_aload_tl _ _), ?_⟩
  refine List.forall_mem_cons.mpr ⟨(zo_getf_tl _ _ _), ?_⟩
  refine List.forall_mem_cons.mpr ⟨zo_none_tl, ?_⟩
  refine List.forall_mem_cons.mpr ⟨zo_none_tl, ?_⟩
  refine List.forall_mem_cons.mpr ⟨(zo_aload_tl _ _), ?_⟩
  refine List.forall_mem_cons.mpr ⟨(zo_getf_tl _ _ _), ?_⟩
  refine List.forall_mem_cons.mpr ⟨zo_none_tl, ?_⟩
  refine List.forall_mem_cons.mpr ⟨zo_none_tl, ?_⟩
  refine List.forall_mem_cons.mpr ⟨(zo_lload_tl _ _), ?_⟩
  refine List.forall_mem_cons.mpr ⟨zo_none_tl, ?_⟩
  refine List.forall_mem_cons.mpr ⟨(zo_last_tl _ _), ?_⟩
  refine List.forall_mem_cons.mpr ⟨(zo_ret_tl), ?_⟩
  exact fun _ h => absurd h List.not_mem_nil
noncomputable def fX12_logs : zzFn := zz_fn tX12_logs 6
set_option maxRecDepth 100000 in
set_option maxHeartbeats 4000000 in
theorem mm_X12_logs {l : Launch} {D : va_G} {cA : Nat → ClassId} {ad : Nat → Nat} {Ex : (Nat → Prop) → State → Heap → Prop} (Wd : zzWR l D cA ad Ex) : zz_Cn l D zzCl cA ad zzSR Ex yX12_logs cX12_logs 6 none 0 0 fX12_logs ∧ zz_Cx l D zzCl cA ad zzSR Ex yX12_logs cX12_logs 6 none 0 0 fX12_logs := by
  refine zz_meth (plainFor_of_name (by decide)) Wd.1 Wd.2.1 Wd.2.2 (fun p e R s m args below meth c rr X => ?_)
  unfold tX12_logs
  refine zz_cons (k' := 1) rfl (zk_aload_n X dX12_logs_0 rfl rfl) ?_
  refine zz_cons (k' := 2) rfl (zk_dup X dX12_logs_1 rfl) ?_
  refine zz_cons (k' := 3) rfl (zk_getf X ff_X12_154 dX12_logs_2 rfl) ?_
  refine zz_cons (k' := 4) rfl (zz_Ok_none _ _) ?_
  refine zz_cons (k' := 5) rfl (zz_Ok_none _ _) ?_
  refine zz_cons (k' := 6) rfl (zk_iconst X dX12_logs_5 (by decide) rfl) ?_
  refine zz_cons (k' := 7) rfl (zk_iadd X dX12_logs_6 rfl) ?_
  refine zz_cons (k' := 8) rfl (zk_putf X ff_X12_154 fp_10_14 dX12_logs_7 rfl) ?_
  refine zz_cons (k' := 9) rfl (zz_Ok_none _ _) ?_
  refine zz_cons (k' := 10) rfl (zz_Ok_none _ _) ?_
  refine zz_cons (k' := 11) rfl (zk_aload_n X dX12_logs_10 rfl rfl) ?_
  refine zz_cons (k' := 12) rfl (zk_getf X ff_X12_28 dX12_logs_11 rfl) ?_
  refine zz_cons (k' := 13) rfl (zz_Ok_none _ _) ?_
  refine zz_cons (k' := 14) rfl (zz_Ok_none _ _) ?_
  refine zz_cons (k' := 15) rfl (zk_iload_n X dX12_logs_14 rfl rfl) ?_
  refine zz_cons (k' := 16) rfl (zk_lload_n X dX12_logs_15 rfl rfl) ?_
  refine zz_cons (k' := 17) rfl (zk_last X dX12_logs_16 rfl) ?_
  refine zz_cons (k' := 18) rfl (zk_aload_n X dX12_logs_17 rfl rfl) ?_
  refine zz_cons (k' := 19) rfl (zk_getf X ff_X12_32 dX12_logs_18 rfl) ?_
  refine zz_cons (k' := 20) rfl (zz_Ok_none _ _) ?_
  refine zz_cons (k' := 21) rfl (zz_Ok_none _ _) ?_
  refine zz_cons (k' := 22) rfl (zk_iload_n X dX12_logs_21 rfl rfl) ?_
  refine zz_cons (k' := 23) rfl (zk_lload X dX12_logs_22 rfl) ?_
  refine zz_cons (k' := 24) rfl (zz_Ok_none _ _) ?_
  refine zz_cons (k' := 25) rfl (zk_last X dX12_logs_24 rfl) ?_
  refine zz_cons (k' := 26) rfl (zk_aload_n X dX12_logs_25 rfl rfl) ?_
  refine zz_cons (k' := 27) rfl (zk_getf X ff_X12_35 dX12_logs_26 rfl) ?_
  refine zz_cons (k' := 28) rfl (zz_Ok_none _ _) ?_
  refine zz_cons (k' := 29) rfl (zz_Ok_none _ _) ?_
  refine zz_cons (k' := 30) rfl (zk_iload_n X dX12_logs_29 rfl rfl) ?_
  refine zz_cons (k' := 31) rfl (zk_aload_n X dX12_logs_30 rfl rfl) ?_
  refine zz_cons (k' := 32) rfl (zk_getf X ff_X12_154 dX12_logs_31 rfl) ?_
  refine zz_cons (k' := 33) rfl (zz_Ok_none _ _) ?_
  refine zz_cons (k' := 34) rfl (zz_Ok_none _ _) ?_
  refine zz_cons (k' := 35) rfl (zk_iast X dX12_logs_34 rfl) ?_
  refine zz_cons (k' := 36) rfl (zk_aload_n X dX12_logs_35 rfl rfl) ?_
  refine zz_cons (k' := 37) rfl (zk_getf X ff_X12_50 dX12_logs_36 rfl) ?_
  refine zz_cons (k' := 38) rfl (zz_Ok_none _ _) ?_
  refine zz_cons (k' := 39) rfl (zz_Ok_none _ _) ?_
  refine zz_cons (k' := 40) rfl (zk_aload_n X dX12_logs_39 rfl rfl) ?_
  refine zz_cons (k' := 41) rfl (zk_getf X ff_X12_154 dX12_logs_40 rfl) ?_
  refine zz_cons (k' := 42) rfl (zz_Ok_none _ _) ?_
  refine zz_cons (k' := 43) rfl (zz_Ok_none _ _) ?_
  refine zz_cons (k' := 44) rfl (zk_iload_n X dX12_logs_43 rfl rfl) ?_
  refine zz_cons (k' := 45) rfl (zk_iast X dX12_logs_44 rfl) ?_
  refine zz_cons (k' := 46) rfl (zk_aload_n X dX12_logs_45 rfl rfl) ?_
  refine zz_cons (k' := 47) rfl (zk_getf X ff_X12_53 dX12_logs_46 rfl) ?_
  refine zz_cons (k' := 48) rfl (zz_Ok_none _ _) ?_
  refine zz_cons (k' := 49) rfl (zz_Ok_none _ _) ?_
  refine zz_cons (k' := 50) rfl (zk_aload_n X dX12_logs_49 rfl rfl) ?_
  refine zz_cons (k' := 51) rfl (zk_getf X ff_X12_154 dX12_logs_50 rfl) ?_
  refine zz_cons (k' := 52) rfl (zz_Ok_none _ _) ?_
  refine zz_cons (k' := 53) rfl (zz_Ok_none _ _) ?_
  refine zz_cons (k' := 54) rfl (zk_lload_n X dX12_logs_53 rfl rfl) ?_
  refine zz_cons (k' := 55) rfl (zk_last X dX12_logs_54 rfl) ?_
  refine zz_cons (k' := 56) rfl (zk_aload_n X dX12_logs_55 rfl rfl) ?_
  refine zz_cons (k' := 57) rfl (zk_getf X ff_X12_56 dX12_logs_56 rfl) ?_
  refine zz_cons (k' := 58) rfl (zz_Ok_none _ _) ?_
  refine zz_cons (k' := 59) rfl (zz_Ok_none _ _) ?_
  refine zz_cons (k' := 60) rfl (zk_aload_n X dX12_logs_59 rfl rfl) ?_
  refine zz_cons (k' := 61) rfl (zk_getf X ff_X12_154 dX12_logs_60 rfl) ?_
  refine zz_cons (k' := 62) rfl (zz_Ok_none _ _) ?_
  refine zz_cons (k' := 63) rfl (zz_Ok_none _ _) ?_
  refine zz_cons (k' := 64) rfl (zk_lload X dX12_logs_63 rfl) ?_
  refine zz_cons (k' := 65) rfl (zz_Ok_none _ _) ?_
  refine zz_cons (k' := 66) rfl (zk_last X dX12_logs_65 rfl) ?_
  refine zz_cons (k' := 67) rfl (zk_ret X rfl dX12_logs_66) ?_
  exact trivial
noncomputable def tX12_puts : List zzOp := [
  zo_iload 6 2,
  zo_none,
  zo_if (fun x => decide (¬ x = 0)) 28 5,
  zo_none,
  zo_none,
  zo_aload 0 6,
  zo_getf zzSR (zz_kf [10] 7) 9,
  zo_none,
  zo_none,
  zo_iload 1 10,
  zo_lald zzSR 11,
  zo_lload 2 12,
  zo_lcmp 13,
  zo_if (fun x => decide (¬ x = 0)) 28 16,
  zo_none,
  zo_none,
  zo_aload 0 17,
  zo_getf zzSR (zz_kf [10] 8) 20,
  zo_none,
  zo_none,
  zo_iload 1 21,
  zo_lald zzSR 22,
  zo_lload 4 24,
  zo_none,
  zo_lcmp 25,
  zo_if (fun x => decide (x = 0)) 32 28,
  zo_none,
  zo_none,
  zo_pushI 1 29,
  zo_goto 33,
  zo_none,
  zo_none,
  zo_pushI 0 33,
  zo_istore 7 35,
  zo_none,
  zo_iload 7 37,
  zo_none,
  zo_if (fun x => decide (x = 0)) 49 40,
  zo_none,
  zo_none,
  zo_aload 0 41,
  zo_callv zzSR (zz_cl [(10, fX12_isFull)]) 0 44,
  zo_none,
  zo_none,
  zo_if (fun x => decide (x = 0)) 49 47,
  zo_none,
  zo_none,
  zo_pushI 0 48,
  zo_iret true,
  zo_iload 7 51,
  zo_none,
  zo_if (fun x => decide (x = 0)) 62 54,
  zo_none,
  zo_none,
  zo_aload 0 55,
  zo_iload 1 56,
  zo_lload 2 57,
  zo_lload 4 59,
  zo_none,
  zo_callv zzSR (zz_cl [(10, fX12_logs)]) 3 62,
  zo_none,
  zo_none,
  zo_pushI 1 63,
  zo_iret true]
set_option maxRecDepth 100000 in
theorem tl_X12_puts : ∀ pc, zz_Tl (tX12_puts.getD pc zo_none) := by
  refine zz_Tl_mem ?_
  unfold tX12_puts
  refine List.forall_mem_cons.mpr ⟨(zo_iload_tl _ _), ?_⟩
  refine List.forall_mem_cons.mpr ⟨zo_none_tl, ?_⟩
  refine List.forall_mem_cons.mpr ⟨(zo_if_tl _ _ _), ?_⟩
  refine List.forall_mem_cons.mpr ⟨zo_none_tl, ?_⟩
  refine List.forall_mem_cons.mpr ⟨zo_none_tl, ?_⟩
  refine List.forall_mem_cons.mpr ⟨(zo_aload_tl _ _), ?_⟩
  refine List.forall_mem_cons.mpr ⟨(zo_getf_tl _ _ _), ?_⟩
  refine List.forall_mem_cons.mpr ⟨zo_none_tl, ?_⟩
  refine List.forall_mem_cons.mpr ⟨zo_none_tl, ?_⟩
  refine List.forall_mem_cons.mpr ⟨(zo_iload_tl _ _), ?_⟩
  refine List.forall_mem_cons.mpr ⟨(zo_lald_tl _ _), ?_⟩
  refine List.forall_mem_cons.mpr ⟨(zo_lload_tl _ _), ?_⟩
  refine List.forall_mem_cons.mpr ⟨(zo_lcmp_tl _), ?_⟩
  refine List.forall_mem_cons.mpr ⟨(zo_if_tl _ _ _), ?_⟩
  refine List.forall_mem_cons.mpr ⟨zo_none_tl, ?_⟩
  refine List.forall_mem_cons.mpr ⟨zo_none_tl, ?_⟩
  refine List.forall_mem_cons.mpr ⟨(zo_aload_tl _ _), ?_⟩
  refine List.forall_mem_cons.mpr ⟨(zo_getf_tl _ _ _), ?_⟩
  refine List.forall_mem_cons.mpr ⟨zo_none_tl, ?_⟩
  refine List.forall_mem_cons.mpr ⟨zo_none_tl, ?_⟩
  refine List.forall_mem_cons.mpr ⟨(zo_iload_tl _ _), ?_⟩
  refine List.forall_mem_cons.mpr ⟨(zo_lald_tl _ _), ?_⟩
  refine List.forall_mem_cons.mpr ⟨(zo_lload_tl _ _), ?_⟩
  refine List.forall_mem_cons.mpr ⟨zo_none_tl, ?_⟩
  refine List.forall_mem_cons.mpr ⟨(zo_lcmp_tl _), ?_⟩
  refine List.forall_mem_cons.mpr ⟨(zo_if_tl _ _ _), ?_⟩
  refine List.forall_mem_cons.mpr ⟨zo_none_tl, ?_⟩
  refine List.forall_mem_cons.mpr ⟨zo_none_tl, ?_⟩
  refine List.forall_mem_cons.mpr ⟨(zo_pushI_tl _ _), ?_⟩
  refine List.forall_mem_cons.mpr ⟨(zo_goto_tl _), ?_⟩
  refine List.forall_mem_cons.mpr ⟨zo_none_tl, ?_⟩
  refine List.forall_mem_cons.mpr ⟨zo_none_tl, ?_⟩
  refine List.forall_mem_cons.mpr ⟨(zo_pushI_tl _ _), ?_⟩
  refine List.forall_mem_cons.mpr ⟨(zo_istore_tl _ _), ?_⟩
  refine List.forall_mem_cons.mpr ⟨zo_none_tl, ?_⟩
  refine List.forall_mem_cons.mpr ⟨(zo_iload_tl _ _), ?_⟩
  refine List.forall_mem_cons.mpr ⟨zo_none_tl, ?_⟩
  refine List.forall_mem_cons.mpr ⟨(zo_if_tl _ _ _), ?_⟩
  refine List.forall_mem_cons.mpr ⟨zo_none_tl, ?_⟩
  refine List.forall_mem_cons.mpr ⟨zo_none_tl, ?_⟩
  refine List.forall_mem_cons.mpr ⟨(zo_aload_tl _ _), ?_⟩
  refine List.forall_mem_cons.mpr ⟨(zo_callv_tl _ _ _ _), ?_⟩
  refine List.forall_mem_cons.mpr ⟨zo_none_tl, ?_⟩
  refine List.forall_mem_cons.mpr ⟨zo_none_tl, ?_⟩
  refine List.forall_mem_cons.mpr ⟨(zo_if_tl _ _ _), ?_⟩
  refine List.forall_mem_cons.mpr ⟨zo_none_tl, ?_⟩
  refine List.forall_mem_cons.mpr ⟨zo_none_tl, ?_⟩
  refine List.forall_mem_cons.mpr ⟨(zo_pushI_tl _ _), ?_⟩
  refine List.forall_mem_cons.mpr ⟨(zo_iret_tl _), ?_⟩
  refine List.forall_mem_cons.mpr ⟨(zo_iload_tl _ _), ?_⟩
  refine List.forall_mem_cons.mpr ⟨zo_none_tl, ?_⟩
  refine List.forall_mem_cons.mpr ⟨(zo_if_tl _ _ _), ?_⟩
  refine List.forall_mem_cons.mpr ⟨zo_none_tl, ?_⟩
  refine List.forall_mem_cons.mpr ⟨zo_none_tl, ?_⟩
  refine List.forall_mem_cons.mpr ⟨(zo_aload_tl _ _), ?_⟩
  refine List.forall_mem_cons.mpr ⟨(zo_iload_tl _ _), ?_⟩
  refine List.forall_mem_cons.mpr ⟨(zo_lload_tl _ _), ?_⟩
  refine List.forall_mem_cons.mpr ⟨(zo_lload_tl _ _), ?_⟩
  refine List.forall_mem_cons.mpr ⟨zo_none_tl, ?_⟩
  refine List.forall_mem_cons.mpr ⟨(zo_callv_tl _ _ _ _), ?_⟩
  refine List.forall_mem_cons.mpr ⟨zo_none_tl, ?_⟩
  refine List.forall_mem_cons.mpr ⟨zo_none_tl, ?_⟩
  refine List.forall_mem_cons.mpr ⟨(zo_pushI_tl _ _), ?_⟩
  refine List.forall_mem_cons.mpr ⟨(zo_iret_tl _), ?_⟩
  exact fun _ h => absurd h List.not_mem_nil
noncomputable def fX12_puts : zzFn := zz_fn tX12_puts 8
set_option maxRecDepth 100000 in
set_option maxHeartbeats 4000000 in
theorem mm_X12_puts {l : Launch} {D : va_G} {cA : Nat → ClassId} {ad : Nat → Nat} {Ex : (Nat → Prop) → State → Heap → Prop} (Wd : zzWR l D cA ad Ex) : zz_Cn l D zzCl cA ad zzSR Ex yX12_puts cX12_puts 8 (some .boolean) 1 25 fX12_puts ∧ zz_Cx l D zzCl cA ad zzSR Ex yX12_puts cX12_puts 8 (some .boolean) 1 25 fX12_puts := by
  refine zz_meth (plainFor_of_name (by decide)) Wd.1 Wd.2.1 Wd.2.2 (fun p e R s m args below meth c rr X => ?_)
  unfold tX12_puts
  refine zz_cons (k' := 1) rfl (zk_iload X dX12_puts_0 rfl) ?_
  refine zz_cons (k' := 2) rfl (zz_Ok_none _ _) ?_
  refine zz_cons (k' := 3) rfl (zk_if_ne X dX12_puts_2 (by decide) rfl) ?_
  refine zz_cons (k' := 4) rfl (zz_Ok_none _ _) ?_
  refine zz_cons (k' := 5) rfl (zz_Ok_none _ _) ?_
  refine zz_cons (k' := 6) rfl (zk_aload_n X dX12_puts_5 rfl rfl) ?_
  refine zz_cons (k' := 7) rfl (zk_getf X ff_X12_28 dX12_puts_6 rfl) ?_
  refine zz_cons (k' := 8) rfl (zz_Ok_none _ _) ?_
  refine zz_cons (k' := 9) rfl (zz_Ok_none _ _) ?_
  refine zz_cons (k' := 10) rfl (zk_iload_n X dX12_puts_9 rfl rfl) ?_
  refine zz_cons (k' := 11) rfl (zk_lald X dX12_puts_10 rfl) ?_
  refine zz_cons (k' := 12) rfl (zk_lload_n X dX12_puts_11 rfl rfl) ?_
  refine zz_cons (k' := 13) rfl (zk_lcmp X dX12_puts_12 rfl) ?_
  refine zz_cons (k' := 14) rfl (zk_if_ne X dX12_puts_13 (by decide) rfl) ?_
  refine zz_cons (k' := 15) rfl (zz_Ok_none _ _) ?_
  refine zz_cons (k' := 16) rfl (zz_Ok_none _ _) ?_
  refine zz_cons (k' := 17) rfl (zk_aload_n X dX12_puts_16 rfl rfl) ?_
  refine zz_cons (k' := 18) rfl (zk_getf X ff_X12_32 dX12_puts_17 rfl) ?_
  refine zz_cons (k' := 19) rfl (zz_Ok_none _ _) ?_
  refine zz_cons (k' := 20) rfl (zz_Ok_none _ _) ?_
  refine zz_cons (k' := 21) rfl (zk_iload_n X dX12_puts_20 rfl rfl) ?_
  refine zz_cons (k' := 22) rfl (zk_lald X dX12_puts_21 rfl) ?_
  refine zz_cons (k' := 23) rfl (zk_lload X dX12_puts_22 rfl) ?_
  refine zz_cons (k' := 24) rfl (zz_Ok_none _ _) ?_
  refine zz_cons (k' := 25) rfl (zk_lcmp X dX12_puts_24 rfl) ?_
  refine zz_cons (k' := 26) rfl (zk_if_eq X dX12_puts_25 (by decide) rfl) ?_
  refine zz_cons (k' := 27) rfl (zz_Ok_none _ _) ?_
  refine zz_cons (k' := 28) rfl (zz_Ok_none _ _) ?_
  refine zz_cons (k' := 29) rfl (zk_iconst X dX12_puts_28 (by decide) rfl) ?_
  refine zz_cons (k' := 30) rfl (zk_goto X dX12_puts_29 (by decide)) ?_
  refine zz_cons (k' := 31) rfl (zz_Ok_none _ _) ?_
  refine zz_cons (k' := 32) rfl (zz_Ok_none _ _) ?_
  refine zz_cons (k' := 33) rfl (zk_iconst X dX12_puts_32 (by decide) rfl) ?_
  refine zz_cons (k' := 34) rfl (zk_istore X dX12_puts_33 (by decide) rfl) ?_
  refine zz_cons (k' := 35) rfl (zz_Ok_none _ _) ?_
  refine zz_cons (k' := 36) rfl (zk_iload X dX12_puts_35 rfl) ?_
  refine zz_cons (k' := 37) rfl (zz_Ok_none _ _) ?_
  refine zz_cons (k' := 38) rfl (zk_if_eq X dX12_puts_37 (by decide) rfl) ?_
  refine zz_cons (k' := 39) rfl (zz_Ok_none _ _) ?_
  refine zz_cons (k' := 40) rfl (zz_Ok_none _ _) ?_
  refine zz_cons (k' := 41) rfl (zk_aload_n X dX12_puts_40 rfl rfl) ?_
  refine zz_cons (k' := 42) rfl (zk_callv X (zz_Cv_of (List.forall_mem_cons.mpr ⟨⟨(RX_10, zzT10, 50), yX12_isFull, cX12_isFull, 1, (some .boolean), 0, 0, rfl, kv_X12_157_10.1, (mm_X12_isFull Wd).1, by decide, by decide⟩, (fun _ h => absurd h List.not_mem_nil)⟩)) dX12_puts_41 rfl) ?_
  refine zz_cons (k' := 43) rfl (zz_Ok_none _ _) ?_
  refine zz_cons (k' := 44) rfl (zz_Ok_none _ _) ?_
  refine zz_cons (k' := 45) rfl (zk_if_eq X dX12_puts_44 (by decide) rfl) ?_
  refine zz_cons (k' := 46) rfl (zz_Ok_none _ _) ?_
  refine zz_cons (k' := 47) rfl (zz_Ok_none _ _) ?_
  refine zz_cons (k' := 48) rfl (zk_iconst X dX12_puts_47 (by decide) rfl) ?_
  refine zz_cons (k' := 49) rfl (zk_iret X rfl dX12_puts_48) ?_
  refine zz_cons (k' := 50) rfl (zk_iload X dX12_puts_49 rfl) ?_
  refine zz_cons (k' := 51) rfl (zz_Ok_none _ _) ?_
  refine zz_cons (k' := 52) rfl (zk_if_eq X dX12_puts_51 (by decide) rfl) ?_
  refine zz_cons (k' := 53) rfl (zz_Ok_none _ _) ?_
  refine zz_cons (k' := 54) rfl (zz_Ok_none _ _) ?_
  refine zz_cons (k' := 55) rfl (zk_aload_n X dX12_puts_54 rfl rfl) ?_
  refine zz_cons (k' := 56) rfl (zk_iload_n X dX12_puts_55 rfl rfl) ?_
  refine zz_cons (k' := 57) rfl (zk_lload_n X dX12_puts_56 rfl rfl) ?_
  refine zz_cons (k' := 58) rfl (zk_lload X dX12_puts_57 rfl) ?_
  refine zz_cons (k' := 59) rfl (zz_Ok_none _ _) ?_
  refine zz_cons (k' := 60) rfl (zk_callv X (zz_Cv_of (List.forall_mem_cons.mpr ⟨⟨(RX_10, zzT10, 50), yX12_logs, cX12_logs, 6, none, 0, 0, rfl, kv_X12_161_10.1, (mm_X12_logs Wd).1, by decide, by decide⟩, (fun _ h => absurd h List.not_mem_nil)⟩)) dX12_puts_59 rfl) ?_
  refine zz_cons (k' := 61) rfl (zz_Ok_none _ _) ?_
  refine zz_cons (k' := 62) rfl (zz_Ok_none _ _) ?_
  refine zz_cons (k' := 63) rfl (zk_iconst X dX12_puts_62 (by decide) rfl) ?_
  refine zz_cons (k' := 64) rfl (zk_iret X rfl dX12_puts_63) ?_
  exact trivial
noncomputable def tX12_living : List zzOp := [
  zo_pushI 0 1,
  zo_istore 2 2,
  zo_pushI 0 3,
  zo_istore 3 4,
  zo_iload 3 5,
  zo_aload 0 6,
  zo_getf zzSR (zz_kf [10] 5) 9,
  zo_none,
  zo_none,
  zo_icmp (fun x y => decide (y ≤ x)) 52 12,
  zo_none,
  zo_none,
  zo_iload 2 13,
  zo_aload 0 14,
  zo_getf zzSR (zz_kf [10] 6) 17,
  zo_none,
  zo_none,
  zo_iload 3 18,
  zo_iald zzSR zzSTR 19,
  zo_iload 1 20,
  zo_icmp (fun x y => decide (¬ x = y)) 43 23,
  zo_none,
  zo_none,
  zo_aload 0 24,
  zo_aload 0 25,
  zo_getf zzSR (zz_kf [10] 7) 28,
  zo_none,
  zo_none,
  zo_iload 3 29,
  zo_lald zzSR 30,
  zo_pushI 13 32,
  zo_none,
  zo_callv zzSR (zz_cl [(10, fX12_get)]) 2 35,
  zo_none,
  zo_none,
  zo_pushI 4 36,
  zo_icmp (fun x y => decide (x = y)) 43 39,
  zo_none,
  zo_none,
  zo_pushI 1 40,
  zo_goto 44,
  zo_none,
  zo_none,
  zo_pushI 0 44,
  zo_ii (fun x y => x + y) 45,
  zo_istore 2 46,
  zo_iinc 3 1 49,
  zo_none,
  zo_none,
  zo_goto 4,
  zo_none,
  zo_none,
  zo_iload 2 53,
  zo_iret false]
set_option maxRecDepth 100000 in
theorem tl_X12_living : ∀ pc, zz_Tl (tX12_living.getD pc zo_none) := by
  refine zz_Tl_mem ?_
  unfold tX12_living
  refine List.forall_mem_cons.mpr ⟨(zo_pushI_tl _ _), ?_⟩
  refine List.forall_mem_cons.mpr ⟨(zo_istore_tl _ _), ?_⟩
  refine List.forall_mem_cons.mpr ⟨(zo_pushI_tl _ _), ?_⟩
  refine List.forall_mem_cons.mpr ⟨(zo_istore_tl _ _), ?_⟩
  refine List.forall_mem_cons.mpr ⟨(zo_iload_tl _ _), ?_⟩
  refine List.forall_mem_cons.mpr ⟨(zo_aload_tl _ _), ?_⟩
  refine List.forall_mem_cons.mpr ⟨(zo_getf_tl _ _ _), ?_⟩
  refine List.forall_mem_cons.mpr ⟨zo_none_tl, ?_⟩
  refine List.forall_mem_cons.mpr ⟨zo_none_tl, ?_⟩
  refine List.forall_mem_cons.mpr ⟨(zo_icmp_tl _ _ _), ?_⟩
  refine List.forall_mem_cons.mpr ⟨zo_none_tl, ?_⟩
  refine List.forall_mem_cons.mpr ⟨zo_none_tl, ?_⟩
  refine List.forall_mem_cons.mpr ⟨(zo_iload_tl _ _), ?_⟩
  refine List.forall_mem_cons.mpr ⟨(zo_aload_tl _ _), ?_⟩
  refine List.forall_mem_cons.mpr ⟨(zo_getf_tl _ _ _), ?_⟩
  refine List.forall_mem_cons.mpr ⟨zo_none_tl, ?_⟩
  refine List.forall_mem_cons.mpr ⟨zo_none_tl, ?_⟩
  refine List.forall_mem_cons.mpr ⟨(zo_iload_tl _ _), ?_⟩
  refine List.forall_mem_cons.mpr ⟨(zo_iald_tl _ _ _), ?_⟩
  refine List.forall_mem_cons.mpr ⟨(zo_iload_tl _ _), ?_⟩
  refine List.forall_mem_cons.mpr ⟨(zo_icmp_tl _ _ _), ?_⟩
  refine List.forall_mem_cons.mpr ⟨zo_none_tl, ?_⟩
  refine List.forall_mem_cons.mpr ⟨zo_none_tl, ?_⟩
  refine List.forall_mem_cons.mpr ⟨(zo_aload_tl _ _), ?_⟩
  refine List.forall_mem_cons.mpr ⟨(zo_aload_tl _ _), ?_⟩
  refine List.forall_mem_cons.mpr ⟨(zo_getf_tl _ _ _), ?_⟩
  refine List.forall_mem_cons.mpr ⟨zo_none_tl, ?_⟩
  refine List.forall_mem_cons.mpr ⟨zo_none_tl, ?_⟩
  refine List.forall_mem_cons.mpr ⟨(zo_iload_tl _ _), ?_⟩
  refine List.forall_mem_cons.mpr ⟨(zo_lald_tl _ _), ?_⟩
  refine List.forall_mem_cons.mpr ⟨(zo_pushI_tl _ _), ?_⟩
  refine List.forall_mem_cons.mpr ⟨zo_none_tl, ?_⟩
  refine List.forall_mem_cons.mpr ⟨(zo_callv_tl _ _ _ _), ?_⟩
  refine List.forall_mem_cons.mpr ⟨zo_none_tl, ?_⟩
  refine List.forall_mem_cons.mpr ⟨zo_none_tl, ?_⟩
  refine List.forall_mem_cons.mpr ⟨(zo_pushI_tl _ _), ?_⟩
  refine List.forall_mem_cons.mpr ⟨(zo_icmp_tl _ _ _), ?_⟩
  refine List.forall_mem_cons.mpr ⟨zo_none_tl, ?_⟩
  refine List.forall_mem_cons.mpr ⟨zo_none_tl, ?_⟩
  refine List.forall_mem_cons.mpr ⟨(zo_pushI_tl _ _), ?_⟩
  refine List.forall_mem_cons.mpr ⟨(zo_goto_tl _), ?_⟩
  refine List.forall_mem_cons.mpr ⟨zo_none_tl, ?_⟩
  refine List.forall_mem_cons.mpr ⟨zo_none_tl, ?_⟩
  refine List.forall_mem_cons.mpr ⟨(zo_pushI_tl _ _), ?_⟩
  refine List.forall_mem_cons.mpr ⟨(zo_ii_tl _ _), ?_⟩
  refine List.forall_mem_cons.mpr ⟨(zo_istore_tl _ _), ?_⟩
  refine List.forall_mem_cons.mpr ⟨(zo_iinc_tl _ _ _), ?_⟩
  refine List.forall_mem_cons.mpr ⟨zo_none_tl, ?_⟩
  refine List.forall_mem_cons.mpr ⟨zo_none_tl, ?_⟩
  refine List.forall_mem_cons.mpr ⟨(zo_goto_tl _), ?_⟩
  refine List.forall_mem_cons.mpr ⟨zo_none_tl, ?_⟩
  refine List.forall_mem_cons.mpr ⟨zo_none_tl, ?_⟩
  refine List.forall_mem_cons.mpr ⟨(zo_iload_tl _ _), ?_⟩
  refine List.forall_mem_cons.mpr ⟨(zo_iret_tl _), ?_⟩
  exact fun _ h => absurd h List.not_mem_nil
noncomputable def fX12_living : zzFn := zz_fn tX12_living 4
set_option maxRecDepth 100000 in
set_option maxHeartbeats 4000000 in
theorem mm_X12_living {l : Launch} {D : va_G} {cA : Nat → ClassId} {ad : Nat → Nat} {Ex : (Nat → Prop) → State → Heap → Prop} (Wd : zzWR l D cA ad Ex) : zz_Cn l D zzCl cA ad zzSR Ex yX12_living cX12_living 4 (some .int) 1 23 fX12_living ∧ zz_Cx l D zzCl cA ad zzSR Ex yX12_living cX12_living 4 (some .int) 1 23 fX12_living := by
  refine zz_meth (plainFor_of_name (by decide)) Wd.1 Wd.2.1 Wd.2.2 (fun p e R s m args below meth c rr X => ?_)
  unfold tX12_living
  refine zz_cons (k' := 1) rfl (zk_iconst X dX12_living_0 (by decide) rfl) ?_
  refine zz_cons (k' := 2) rfl (zk_istore_n X dX12_living_1 rfl (by decide) rfl) ?_
  refine zz_cons (k' := 3) rfl (zk_iconst X dX12_living_2 (by decide) rfl) ?_
  refine zz_cons (k' := 4) rfl (zk_istore_n X dX12_living_3 rfl (by decide) rfl) ?_
  refine zz_cons (k' := 5) rfl (zk_iload_n X dX12_living_4 rfl rfl) ?_
  refine zz_cons (k' := 6) rfl (zk_aload_n X dX12_living_5 rfl rfl) ?_
  refine zz_cons (k' := 7) rfl (zk_getf X ff_X12_137 dX12_living_6 rfl) ?_
  refine zz_cons (k' := 8) rfl (zz_Ok_none _ _) ?_
  refine zz_cons (k' := 9) rfl (zz_Ok_none _ _) ?_
  refine zz_cons (k' := 10) rfl (zk_icmp_ge X dX12_living_9 (by decide) rfl) ?_
  refine zz_cons (k' := 11) rfl (zz_Ok_none _ _) ?_
  refine zz_cons (k' := 12) rfl (zz_Ok_none _ _) ?_
  refine zz_cons (k' := 13) rfl (zk_iload_n X dX12_living_12 rfl rfl) ?_
  refine zz_cons (k' := 14) rfl (zk_aload_n X dX12_living_13 rfl rfl) ?_
  refine zz_cons (k' := 15) rfl (zk_getf X ff_X12_25 dX12_living_14 rfl) ?_
  refine zz_cons (k' := 16) rfl (zz_Ok_none _ _) ?_
  refine zz_cons (k' := 17) rfl (zz_Ok_none _ _) ?_
  refine zz_cons (k' := 18) rfl (zk_iload_n X dX12_living_17 rfl rfl) ?_
  refine zz_cons (k' := 19) rfl (zk_iald X (zzWR_st Wd) dX12_living_18 rfl) ?_
  refine zz_cons (k' := 20) rfl (zk_iload_n X dX12_living_19 rfl rfl) ?_
  refine zz_cons (k' := 21) rfl (zk_icmp_ne X dX12_living_20 (by decide) rfl) ?_
  refine zz_cons (k' := 22) rfl (zz_Ok_none _ _) ?_
  refine zz_cons (k' := 23) rfl (zz_Ok_none _ _) ?_
  refine zz_cons (k' := 24) rfl (zk_aload_n X dX12_living_23 rfl rfl) ?_
  refine zz_cons (k' := 25) rfl (zk_aload_n X dX12_living_24 rfl rfl) ?_
  refine zz_cons (k' := 26) rfl (zk_getf X ff_X12_28 dX12_living_25 rfl) ?_
  refine zz_cons (k' := 27) rfl (zz_Ok_none _ _) ?_
  refine zz_cons (k' := 28) rfl (zz_Ok_none _ _) ?_
  refine zz_cons (k' := 29) rfl (zk_iload_n X dX12_living_28 rfl rfl) ?_
  refine zz_cons (k' := 30) rfl (zk_lald X dX12_living_29 rfl) ?_
  refine zz_cons (k' := 31) rfl (zk_bipush X dX12_living_30 (by decide) rfl) ?_
  refine zz_cons (k' := 32) rfl (zz_Ok_none _ _) ?_
  refine zz_cons (k' := 33) rfl (zk_callv X (zz_Cv_of (List.forall_mem_cons.mpr ⟨⟨(RX_10, zzT10, 50), yX12_get, cX12_get, 4, (some .int), 0, 0, rfl, kv_X12_146_10.1, (mm_X12_get Wd).1, by decide, by decide⟩, (fun _ h => absurd h List.not_mem_nil)⟩)) dX12_living_32 rfl) ?_
  refine zz_cons (k' := 34) rfl (zz_Ok_none _ _) ?_
  refine zz_cons (k' := 35) rfl (zz_Ok_none _ _) ?_
  refine zz_cons (k' := 36) rfl (zk_iconst X dX12_living_35 (by decide) rfl) ?_
  refine zz_cons (k' := 37) rfl (zk_icmp_eq X dX12_living_36 (by decide) rfl) ?_
  refine zz_cons (k' := 38) rfl (zz_Ok_none _ _) ?_
  refine zz_cons (k' := 39) rfl (zz_Ok_none _ _) ?_
  refine zz_cons (k' := 40) rfl (zk_iconst X dX12_living_39 (by decide) rfl) ?_
  refine zz_cons (k' := 41) rfl (zk_goto X dX12_living_40 (by decide)) ?_
  refine zz_cons (k' := 42) rfl (zz_Ok_none _ _) ?_
  refine zz_cons (k' := 43) rfl (zz_Ok_none _ _) ?_
  refine zz_cons (k' := 44) rfl (zk_iconst X dX12_living_43 (by decide) rfl) ?_
  refine zz_cons (k' := 45) rfl (zk_iadd X dX12_living_44 rfl) ?_
  refine zz_cons (k' := 46) rfl (zk_istore_n X dX12_living_45 rfl (by decide) rfl) ?_
  refine zz_cons (k' := 47) rfl (zk_iinc X dX12_living_46 (by decide) (by decide) rfl) ?_
  refine zz_cons (k' := 48) rfl (zz_Ok_none _ _) ?_
  refine zz_cons (k' := 49) rfl (zz_Ok_none _ _) ?_
  refine zz_cons (k' := 50) rfl (zk_goto X dX12_living_49 (by decide)) ?_
  refine zz_cons (k' := 51) rfl (zz_Ok_none _ _) ?_
  refine zz_cons (k' := 52) rfl (zz_Ok_none _ _) ?_
  refine zz_cons (k' := 53) rfl (zk_iload_n X dX12_living_52 rfl rfl) ?_
  refine zz_cons (k' := 54) rfl (zk_iret X rfl dX12_living_53) ?_
  exact trivial
noncomputable def tX12_admitted : List zzOp := [
  zo_lload 2 1,
  zo_lstore 4 3,
  zo_none,
  zo_pushI 1 4,
  zo_istore 6 6,
  zo_none,
  zo_pushI 0 7,
  zo_istore 7 9,
  zo_none,
  zo_iload 6 11,
  zo_none,
  zo_if (fun x => decide (x = 0)) 147 14,
  zo_none,
  zo_none,
  zo_iload 7 16,
  zo_none,
  zo_pushI 6 18,
  zo_none,
  zo_icmp (fun x y => decide (y ≤ x)) 147 21,
  zo_none,
  zo_none,
  zo_lload 4 23,
  zo_none,
  zo_lstore 8 25,
  zo_none,
  zo_pushI 0 26,
  zo_istore 10 28,
  zo_none,
  zo_iload 10 30,
  zo_none,
  zo_aload 0 31,
  zo_getf zzSR (zz_kf [10] 19) 34,
  zo_none,
  zo_none,
  zo_icmp (fun x y => decide (y ≤ x)) 126 37,
  zo_none,
  zo_none,
  zo_aload 0 38,
  zo_getf zzSR (zz_kf [10] 20) 41,
  zo_none,
  zo_none,
  zo_iload 10 43,
  zo_none,
  zo_iald zzSR zzSTR 44,
  zo_iload 1 45,
  zo_icmp (fun x y => decide (¬ x = y)) 85 48,
  zo_none,
  zo_none,
  zo_aload 0 49,
  zo_lload 4 51,
  zo_none,
  zo_aload 0 52,
  zo_getf zzSR (zz_kf [10] 21) 55,
  zo_none,
  zo_none,
  zo_iload 10 57,
  zo_none,
  zo_iald zzSR zzSTR 58,
  zo_callv zzSR (zz_cl [(10, fX12_get)]) 2 61,
  zo_none,
  zo_none,
  zo_aload 0 62,
  zo_getf zzSR (zz_kf [10] 22) 65,
  zo_none,
  zo_none,
  zo_iload 10 67,
  zo_none,
  zo_iald zzSR zzSTR 68,
  zo_aload 0 69,
  zo_getf zzSR (zz_kf [10] 23) 72,
  zo_none,
  zo_none,
  zo_iload 10 74,
  zo_none,
  zo_iald zzSR zzSTR 75,
  zo_calls fX12_isIn 3 78,
  zo_none,
  zo_none,
  zo_if (fun x => decide (x = 0)) 85 81,
  zo_none,
  zo_none,
  zo_pushI 1 82,
  zo_goto 86,
  zo_none,
  zo_none,
  zo_pushI 0 86,
  zo_istore 11 88,
  zo_none,
  zo_iload 11 90,
  zo_none,
  zo_if (fun x => decide (x = 0)) 116 93,
  zo_none,
  zo_none,
  zo_aload 0 94,
  zo_lload 4 96,
  zo_none,
  zo_aload 0 97,
  zo_getf zzSR (zz_kf [10] 24) 100,
  zo_none,
  zo_none,
  zo_iload 10 102,
  zo_none,
  zo_iald zzSR zzSTR 103,
  zo_aload 0 104,
  zo_getf zzSR (zz_kf [10] 25) 107,
  zo_none,
  zo_none,
  zo_iload 10 109,
  zo_none,
  zo_iald zzSR zzSTR 110,
  zo_callv zzSR (zz_cl [(10, fX12_with)]) 3 113,
  zo_none,
  zo_none,
  zo_goto 118,
  zo_none,
  zo_none,
  zo_lload 4 118,
  zo_none,
  zo_lstore 4 120,
  zo_none,
  zo_iinc 10 1 123,
  zo_none,
  zo_none,
  zo_goto 28,
  zo_none,
  zo_none,
  zo_lload 4 128,
  zo_none,
  zo_lload 8 130,
  zo_none,
  zo_lcmp 131,
  zo_if (fun x => decide (x = 0)) 138 134,
  zo_none,
  zo_none,
  zo_pushI 1 135,
  zo_goto 139,
  zo_none,
  zo_none,
  zo_pushI 0 139,
  zo_istore 6 141,
  zo_none,
  zo_iinc 7 1 144,
  zo_none,
  zo_none,
  zo_goto 9,
  zo_none,
  zo_none,
  zo_aload 0 148,
  zo_iload 6 150,
  zo_none,
  zo_if (fun x => decide (¬ x = 0)) 175 153,
  zo_none,
  zo_none,
  zo_iload 1 154,
  zo_if (fun x => decide (¬ x = 0)) 179 157,
  zo_none,
  zo_none,
  zo_aload 0 158,
  zo_lload 4 160,
  zo_none,
  zo_pushI 2 161,
  zo_callv zzSR (zz_cl [(10, fX12_get)]) 2 164,
  zo_none,
  zo_none,
  zo_aload 0 165,
  zo_lload 4 167,
  zo_none,
  zo_pushI 3 168,
  zo_callv zzSR (zz_cl [(10, fX12_get)]) 2 171,
  zo_none,
  zo_none,
  zo_ii (fun x y => x + y) 172,
  zo_if (fun x => decide (¬ x = 0)) 179 175,
  zo_none,
  zo_none,
  zo_pushI 1 176,
  zo_goto 180,
  zo_none,
  zo_none,
  zo_pushI 0 180,
  zo_putf zzSR (zz_kf [10] 31) true 183,
  zo_none,
  zo_none,
  zo_pushI 0 184,
  zo_istore 8 186,
  zo_none,
  zo_iload 8 188,
  zo_none,
  zo_aload 0 189,
  zo_getf zzSR (zz_kf [10] 26) 192,
  zo_none,
  zo_none,
  zo_icmp (fun x y => decide (y ≤ x)) 251 195,
  zo_none,
  zo_none,
  zo_aload 0 196,
  zo_aload 0 197,
  zo_getf zzSR (zz_kf [10] 31) 200,
  zo_none,
  zo_none,
  zo_if (fun x => decide (¬ x = 0)) 237 203,
  zo_none,
  zo_none,
  zo_aload 0 204,
  zo_getf zzSR (zz_kf [10] 27) 207,
  zo_none,
  zo_none,
  zo_iload 8 209,
  zo_none,
  zo_iald zzSR zzSTR 210,
  zo_iload 1 211,
  zo_icmp (fun x y => decide (¬ x = y)) 241 214,
  zo_none,
  zo_none,
  zo_aload 0 215,
  zo_lload 4 217,
  zo_none,
  zo_aload 0 218,
  zo_getf zzSR (zz_kf [10] 28) 221,
  zo_none,
  zo_none,
  zo_iload 8 223,
  zo_none,
  zo_iald zzSR zzSTR 224,
  zo_callv zzSR (zz_cl [(10, fX12_get)]) 2 227,
  zo_none,
  zo_none,
  zo_aload 0 228,
  zo_getf zzSR (zz_kf [10] 29) 231,
  zo_none,
  zo_none,
  zo_iload 8 233,
  zo_none,
  zo_iald zzSR zzSTR 234,
  zo_icmp (fun x y => decide (x ≤ y)) 241 237,
  zo_none,
  zo_none,
  zo_pushI 1 238,
  zo_goto 242,
  zo_none,
  zo_none,
  zo_pushI 0 242,
  zo_putf zzSR (zz_kf [10] 31) true 245,
  zo_none,
  zo_none,
  zo_iinc 8 1 248,
  zo_none,
  zo_none,
  zo_goto 186,
  zo_none,
  zo_none,
  zo_lload 4 253,
  zo_none,
  zo_lret]
set_option maxRecDepth 100000 in
theorem tl_X12_admitted : ∀ pc, zz_Tl (tX12_admitted.getD pc zo_none) := by
  refine zz_Tl_mem ?_
  unfold tX12_admitted
  refine List.forall_mem_cons.mpr ⟨(zo_lload_tl _ _), ?_⟩
  refine List.forall_mem_cons.mpr ⟨(zo_lstore_tl _ _), ?_⟩
  refine List.forall_mem_cons.mpr ⟨zo_none_tl, ?_⟩
  refine List.forall_mem_cons.mpr ⟨(zo_pushI_tl _ _), ?_⟩
  refine List.forall_mem_cons.mpr ⟨(zo_istore_tl _ _), ?_⟩
  refine List.forall_mem_cons.mpr ⟨zo_none_tl, ?_⟩
  refine List.forall_mem_cons.mpr ⟨(zo_pushI_tl _ _), ?_⟩
  refine List.forall_mem_cons.mpr ⟨(zo_istore_tl _ _), ?_⟩
  refine List.forall_mem_cons.mpr ⟨zo_none_tl, ?_⟩
  refine List.forall_mem_cons.mpr ⟨(zo_iload_tl _ _), ?_⟩
  refine List.forall_mem_cons.mpr ⟨zo_none_tl, ?_⟩
  refine List.forall_mem_cons.mpr ⟨(zo_if_tl _ _ _), ?_⟩
  refine List.forall_mem_cons.mpr ⟨zo_none_tl, ?_⟩
  refine List.forall_mem_cons.mpr ⟨zo_none_tl, ?_⟩
  refine List.forall_mem_cons.mpr ⟨(zo_iload_tl _ _), ?_⟩
  refine List.forall_mem_cons.mpr ⟨zo_none_tl, ?_⟩
  refine List.forall_mem_cons.mpr ⟨(zo_pushI_tl _ _), ?_⟩
  refine List.forall_mem_cons.mpr ⟨zo_none_tl, ?_⟩
  refine List.forall_mem_cons.mpr ⟨(zo_icmp_tl _ _ _), ?_⟩
  refine List.forall_mem_cons.mpr ⟨zo_none_tl, ?_⟩
  refine List.forall_mem_cons.mpr ⟨zo_none_tl, ?_⟩
  refine List.forall_mem_cons.mpr ⟨(zo_lload_tl _ _), ?_⟩
  refine List.forall_mem_cons.mpr ⟨zo_none_tl, ?_⟩
  refine List.forall_mem_cons.mpr ⟨(zo_lstore_tl _ _), ?_⟩
  refine List.forall_mem_cons.mpr ⟨zo_none_tl, ?_⟩
  refine List.forall_mem_cons.mpr ⟨(zo_pushI_tl _ _), ?_⟩
  refine List.forall_mem_cons.mpr ⟨(zo_istore_tl _ _), ?_⟩
  refine List.forall_mem_cons.mpr ⟨zo_none_tl, ?_⟩
  refine List.forall_mem_cons.mpr ⟨(zo_iload_tl _ _), ?_⟩
  refine List.forall_mem_cons.mpr ⟨zo_none_tl, ?_⟩
  refine List.forall_mem_cons.mpr ⟨(zo_aload_tl _ _), ?_⟩
  refine List.forall_mem_cons.mpr ⟨(zo_getf_tl _ _ _), ?_⟩
  refine List.forall_mem_cons.mpr ⟨zo_none_tl, ?_⟩
  refine List.forall_mem_cons.mpr ⟨zo_none_tl, ?_⟩
  refine List.forall_mem_cons.mpr ⟨(zo_icmp_tl _ _ _), ?_⟩
  refine List.forall_mem_cons.mpr ⟨zo_none_tl, ?_⟩
  refine List.forall_mem_cons.mpr ⟨zo_none_tl, ?_⟩
  refine List.forall_mem_cons.mpr ⟨(zo_aload_tl _ _), ?_⟩
  refine List.forall_mem_cons.mpr ⟨(zo_getf_tl _ _ _), ?_⟩
  refine List.forall_mem_cons.mpr ⟨zo_none_tl, ?_⟩
  refine List.forall_mem_cons.mpr ⟨zo_none_tl, ?_⟩
  refine List.forall_mem_cons.mpr ⟨(zo_iload_tl _ _), ?_⟩
  refine List.forall_mem_cons.mpr ⟨zo_none_tl, ?_⟩
  refine List.forall_mem_cons.mpr ⟨(zo_iald_tl _ _ _), ?_⟩
  refine List.forall_mem_cons.mpr ⟨(zo_iload_tl _ _), ?_⟩
  refine List.forall_mem_cons.mpr ⟨(zo_icmp_tl _ _ _), ?_⟩
  refine List.forall_mem_cons.mpr ⟨zo_none_tl, ?_⟩
  refine List.forall_mem_cons.mpr ⟨zo_none_tl, ?_⟩
  refine List.forall_mem_cons.mpr ⟨(zo_aload_tl _ _), ?_⟩
  refine List.forall_mem_cons.mpr ⟨(zo_lload_tl _ _), ?_⟩
  refine List.forall_mem_cons.mpr ⟨zo_none_tl, ?_⟩
  refine List.forall_mem_cons.mpr ⟨(zo_aload_tl _ _), ?_⟩
  refine List.forall_mem_cons.mpr ⟨(zo_getf_tl _ _ _), ?_⟩
  refine List.forall_mem_cons.mpr ⟨zo_none_tl, ?_⟩
  refine List.forall_mem_cons.mpr ⟨zo_none_tl, ?_⟩
  refine List.forall_mem_cons.mpr ⟨(zo_iload_tl _ _), ?_⟩
  refine List.forall_mem_cons.mpr ⟨zo_none_tl, ?_⟩
  refine List.forall_mem_cons.mpr ⟨(zo_iald_tl _ _ _), ?_⟩
  refine List.forall_mem_cons.mpr ⟨(zo_callv_tl _ _ _ _), ?_⟩
  refine List.forall_mem_cons.mpr ⟨zo_none_tl, ?_⟩
  refine List.forall_mem_cons.mpr ⟨zo_none_tl, ?_⟩
  refine List.forall_mem_cons.mpr ⟨(zo_aload_tl _ _), ?_⟩
  refine List.forall_mem_cons.mpr ⟨(zo_getf_tl _ _ _), ?_⟩
  refine List.forall_mem_cons.mpr ⟨zo_none_tl, ?_⟩
  refine List.forall_mem_cons.mpr ⟨zo_none_tl, ?_⟩
  refine List.forall_mem_cons.mpr ⟨(zo_iload_tl _ _), ?_⟩
  refine List.forall_mem_cons.mpr ⟨zo_none_tl, ?_⟩
  refine List.forall_mem_cons.mpr ⟨(zo_iald_tl _ _ _), ?_⟩
  refine List.forall_mem_cons.mpr ⟨(zo_aload_tl _ _), ?_⟩
  refine List.forall_mem_cons.mpr ⟨(zo_getf_tl _ _ _), ?_⟩
  refine List.forall_mem_cons.mpr ⟨zo_none_tl, ?_⟩
  refine List.forall_mem_cons.mpr ⟨zo_none_tl, ?_⟩
  refine List.forall_mem_cons.mpr ⟨(zo_iload_tl _ _), ?_⟩
  refine List.forall_mem_cons.mpr ⟨zo_none_tl, ?_⟩
  refine List.forall_mem_cons.mpr ⟨(zo_iald_tl _ _ _), ?_⟩
  refine List.forall_mem_cons.mpr ⟨(zo_calls_tl _ _ _), ?_⟩
  refine List.forall_mem_cons.mpr ⟨zo_none_tl, ?_⟩
  refine List.forall_mem_cons.mpr ⟨zo_none_tl, ?_⟩
  refine List.forall_mem_cons.mpr ⟨(zo_if_tl _ _ _), ?_⟩
  refine List.forall_mem_cons.mpr ⟨zo_none_tl, ?_⟩
  refine List.forall_mem_cons.mpr ⟨zo_none_tl, ?_⟩
  refine List.forall_mem_cons.mpr ⟨(zo_pushI_tl _ _), ?_⟩
  refine List.forall_mem_cons.mpr ⟨(zo_goto_tl _), ?_⟩
  refine List.forall_mem_cons.mpr ⟨zo_none_tl, ?_⟩
  refine List.forall_mem_cons.mpr ⟨zo_none_tl, ?_⟩
  refine List.forall_mem_cons.mpr ⟨(zo_pushI_tl _ _), ?_⟩
  refine List.forall_mem_cons.mpr ⟨(zo_istore_tl _ _), ?_⟩
  refine List.forall_mem_cons.mpr ⟨zo_none_tl, ?_⟩
  refine List.forall_mem_cons.mpr ⟨(zo_iload_tl _ _), ?_⟩
  refine List.forall_mem_cons.mpr ⟨zo_none_tl, ?_⟩
  refine List.forall_mem_cons.mpr ⟨(zo_if_tl _ _ _), ?_⟩
  refine List.forall_mem_cons.mpr ⟨zo_none_tl, ?_⟩
  refine List.forall_mem_cons.mpr ⟨zo_none_tl, ?_⟩
  refine List.forall_mem_cons.mpr ⟨(zo_aload_tl _ _), ?_⟩
  refine List.forall_mem_cons.mpr ⟨(zo_lload_tl _ _), ?_⟩
  refine List.forall_mem_cons.mpr ⟨zo_none_tl, ?_⟩
  refine List.forall_mem_cons.mpr ⟨(zo_aload_tl _ _), ?_⟩
  refine List.forall_mem_cons.mpr ⟨(zo_getf_tl _ _ _), ?_⟩
  refine List.forall_mem_cons.mpr ⟨zo_none_tl, ?_⟩
  refine List.forall_mem_cons.mpr ⟨zo_none_tl, ?_⟩
  refine List.forall_mem_cons.mpr ⟨(zo_iload_tl _ _), ?_⟩
  refine List.forall_mem_cons.mpr ⟨zo_none_tl, ?_⟩
  refine List.forall_mem_cons.mpr ⟨(zo_iald_tl _ _ _), ?_⟩
  refine List.forall_mem_cons.mpr ⟨(zo_aload_tl _ _), ?_⟩
  refine List.forall_mem_cons.mpr ⟨(zo_getf_tl _ _ _), ?_⟩
  refine List.forall_mem_cons.mpr ⟨zo_none_tl, ?_⟩
  refine List.forall_mem_cons.mpr ⟨zo_none_tl, ?_⟩
  refine List.forall_mem_cons.mpr ⟨(zo_iload_tl _ _), ?_⟩
  refine List.forall_mem_cons.mpr ⟨zo_none_tl, ?_⟩
  refine List.forall_mem_cons.mpr ⟨(zo_iald_tl _ _ _), ?_⟩
  refine List.forall_mem_cons.mpr ⟨(zo_callv_tl _ _ _ _), ?_⟩
  refine List.forall_mem_cons.mpr ⟨zo_none_tl, ?_⟩
  refine List.forall_mem_cons.mpr ⟨zo_none_tl, ?_⟩
  refine List.forall_mem_cons.mpr ⟨(zo_goto_tl _), ?_⟩
  refine List.forall_mem_cons.mpr ⟨zo_none_tl, ?_⟩
  refine List.forall_mem_cons.mpr ⟨zo_none_tl, ?_⟩
  refine List.forall_mem_cons.mpr ⟨(zo_lload_tl _ _), ?_⟩
  refine List.forall_mem_cons.mpr ⟨zo_none_tl, ?_⟩
  refine List.forall_mem_cons.mpr ⟨(zo_lstore_tl _ _), ?_⟩
  refine List.forall_mem_cons.mpr ⟨zo_none_tl, ?_⟩
  refine List.forall_mem_cons.mpr ⟨(zo_iinc_tl _ _ _), ?_⟩
  refine List.forall_mem_cons.mpr ⟨zo_none_tl, ?_⟩
  refine List.forall_mem_cons.mpr ⟨zo_none_tl, ?_⟩
  refine List.forall_mem_cons.mpr ⟨(zo_goto_tl _), ?_⟩
  refine List.forall_mem_cons.mpr ⟨zo_none_tl, ?_⟩
  refine List.forall_mem_cons.mpr ⟨zo_none_tl, ?_⟩
  refine List.forall_mem_cons.mpr ⟨(zo_lload_tl _ _), ?_⟩
  refine List.forall_mem_cons.mpr ⟨zo_none_tl, ?_⟩
  refine List.forall_mem_cons.mpr ⟨(zo_lload_tl _ _), ?_⟩
  refine List.forall_mem_cons.mpr ⟨zo_none_tl, ?_⟩
  refine List.forall_mem_cons.mpr ⟨(zo_lcmp_tl _), ?_⟩
  refine List.forall_mem_cons.mpr ⟨(zo_if_tl _ _ _), ?_⟩
  refine List.forall_mem_cons.mpr ⟨zo_none_tl, ?_⟩
  refine List.forall_mem_cons.mpr ⟨zo_none_tl, ?_⟩
  refine List.forall_mem_cons.mpr ⟨(zo_pushI_tl _ _), ?_⟩
  refine List.forall_mem_cons.mpr ⟨(zo_goto_tl _), ?_⟩
  refine List.forall_mem_cons.mpr ⟨zo_none_tl, ?_⟩
  refine List.forall_mem_cons.mpr ⟨zo_none_tl, ?_⟩
  refine List.forall_mem_cons.mpr ⟨(zo_pushI_tl _ _), ?_⟩
  refine List.forall_mem_cons.mpr ⟨(zo_istore_tl _ _), ?_⟩
  refine List.forall_mem_cons.mpr ⟨zo_none_tl, ?_⟩
  refine List.forall_mem_cons.mpr ⟨(zo_iinc_tl _ _ _), ?_⟩
  refine List.forall_mem_cons.mpr ⟨zo_none_tl, ?_⟩
  refine List.forall_mem_cons.mpr ⟨zo_none_tl, ?_⟩
  refine List.forall_mem_cons.mpr ⟨(zo_goto_tl _), ?_⟩
  refine List.forall_mem_cons.mpr ⟨zo_none_tl, ?_⟩
  refine List.forall_mem_cons.mpr ⟨zo_none_tl, ?_⟩
  refine List.forall_mem_cons.mpr ⟨(zo_aload_tl _ _), ?_⟩
  refine List.forall_mem_cons.mpr ⟨(zo_iload_tl _ _), ?_⟩
  refine List.forall_mem_cons.mpr ⟨zo_none_tl, ?_⟩
  refine List.forall_mem_cons.mpr ⟨(zo_if_tl _ _ _), ?_⟩
  refine List.forall_mem_cons.mpr ⟨zo_none_tl, ?_⟩
  refine List.forall_mem_cons.mpr ⟨zo_none_tl, ?_⟩
  refine List.forall_mem_cons.mpr ⟨(zo_iload_tl _ _), ?_⟩
  refine List.forall_mem_cons.mpr ⟨(zo_if_tl _ _ _), ?_⟩
  refine List.forall_mem_cons.mpr ⟨zo_none_tl, ?_⟩
  refine List.forall_mem_cons.mpr ⟨zo_none_tl, ?_⟩
  refine List.forall_mem_cons.mpr ⟨(zo_aload_tl _ _), ?_⟩
  refine List.forall_mem_cons.mpr ⟨(zo_lload_tl _ _), ?_⟩
  refine List.forall_mem_cons.mpr ⟨zo_none_tl, ?_⟩
  refine List.forall_mem_cons.mpr ⟨(zo_pushI_tl _ _), ?_⟩
  refine List.forall_mem_cons.mpr ⟨(zo_callv_tl _ _ _ _), ?_⟩
  refine List.forall_mem_cons.mpr ⟨zo_none_tl, ?_⟩
  refine List.forall_mem_cons.mpr ⟨zo_none_tl, ?_⟩
  refine List.forall_mem_cons.mpr ⟨(zo_aload_tl _ _), ?_⟩
  refine List.forall_mem_cons.mpr ⟨(zo_lload_tl _ _), ?_⟩
  refine List.forall_mem_cons.mpr ⟨zo_none_tl, ?_⟩
  refine List.forall_mem_cons.mpr ⟨(zo_pushI_tl _ _), ?_⟩
  refine List.forall_mem_cons.mpr ⟨(zo_callv_tl _ _ _ _), ?_⟩
  refine List.forall_mem_cons.mpr ⟨zo_none_tl, ?_⟩
  refine List.forall_mem_cons.mpr ⟨zo_none_tl, ?_⟩
  refine List.forall_mem_cons.mpr ⟨(zo_ii_tl _ _), ?_⟩
  refine List.forall_mem_cons.mpr ⟨(zo_if_tl _ _ _), ?_⟩
  refine List.forall_mem_cons.mpr ⟨zo_none_tl, ?_⟩
  refine List.forall_mem_cons.mpr ⟨zo_none_tl, ?_⟩
  refine List.forall_mem_cons.mpr ⟨(zo_pushI_tl _ _), ?_⟩
  refine List.forall_mem_cons.mpr ⟨(zo_goto_tl _), ?_⟩
  refine List.forall_mem_cons.mpr ⟨zo_none_tl, ?_⟩
  refine List.forall_mem_cons.mpr ⟨zo_none_tl, ?_⟩
  refine List.forall_mem_cons.mpr ⟨(zo_pushI_tl _ _), ?_⟩
  refine List.forall_mem_cons.mpr ⟨(zo_putf_tl _ _ _ _), ?_⟩
  refine List.forall_mem_cons.mpr ⟨zo_none_tl, ?_⟩
  refine List.forall_mem_cons.mpr ⟨zo_none_tl, ?_⟩
  refine List.forall_mem_cons.mpr ⟨(zo_pushI_tl _ _), ?_⟩
  refine List.forall_mem_cons.mpr ⟨(zo_istore_tl _ _), ?_⟩
  refine List.forall_mem_cons.mpr ⟨zo_none_tl, ?_⟩
  refine List.forall_mem_cons.mpr ⟨(zo_iload_tl _ _), ?_⟩
  refine List.forall_mem_cons.mpr ⟨zo_none_tl, ?_⟩
  refine List.forall_mem_cons.mpr ⟨(zo_aload_tl _ _), ?_⟩
  refine List.forall_mem_cons.mpr ⟨(zo_getf_tl _ _ _), ?_⟩
  refine List.forall_mem_cons.mpr ⟨zo_none_tl, ?_⟩
  refine List.forall_mem_cons.mpr ⟨zo_none_tl, ?_⟩
  refine List.forall_mem_cons.mpr ⟨(zo_icmp_tl _ _ _), ?_⟩
  refine List.forall_mem_cons.mpr ⟨zo_none_tl, ?_⟩
  refine List.forall_mem_cons.mpr ⟨zo_none_tl, ?_⟩
  refine List.forall_mem_cons.mpr ⟨(zo_aload_tl _ _), ?_⟩
  refine List.forall_mem_cons.mpr ⟨(zo_aload_tl _ _), ?_⟩
  refine List.forall_mem_cons.mpr ⟨(zo_getf_tl _ _ _), ?_⟩
  refine List.forall_mem_cons.mpr ⟨zo_none_tl, ?_⟩
  refine List.forall_mem_cons.mpr ⟨zo_none_tl, ?_⟩
  refine List.forall_mem_cons.mpr ⟨(zo_if_tl _ _ _), ?_⟩
  refine List.forall_mem_cons.mpr ⟨zo_none_tl, ?_⟩
  refine List.forall_mem_cons.mpr ⟨zo_none_tl, ?_⟩
  refine List.forall_mem_cons.mpr ⟨(zo_aload_tl _ _), ?_⟩
  refine List.forall_mem_cons.mpr ⟨(zo_getf_tl _ _ _), ?_⟩
  refine List.forall_mem_cons.mpr ⟨zo_none_tl, ?_⟩
  refine List.forall_mem_cons.mpr ⟨zo_none_tl, ?_⟩
  refine List.forall_mem_cons.mpr ⟨(zo_iload_tl _ _), ?_⟩
  refine List.forall_mem_cons.mpr ⟨zo_none_tl, ?_⟩
  refine List.forall_mem_cons.mpr ⟨(zo_iald_tl _ _ _), ?_⟩
  refine List.forall_mem_cons.mpr ⟨(zo_iload_tl _ _), ?_⟩
  refine List.forall_mem_cons.mpr ⟨(zo_icmp_tl _ _ _), ?_⟩
  refine List.forall_mem_cons.mpr ⟨zo_none_tl, ?_⟩
  refine List.forall_mem_cons.mpr ⟨zo_none_tl, ?_⟩
  refine List.forall_mem_cons.mpr ⟨(zo_aload_tl _ _), ?_⟩
  refine List.forall_mem_cons.mpr ⟨(zo_lload_tl _ _), ?_⟩
  refine List.forall_mem_cons.mpr ⟨zo_none_tl, ?_⟩
  refine List.forall_mem_cons.mpr ⟨(zo_aload_tl _ _), ?_⟩
  refine List.forall_mem_cons.mpr ⟨(zo_getf_tl _ _ _), ?_⟩
  refine List.forall_mem_cons.mpr ⟨zo_none_tl, ?_⟩
  refine List.forall_mem_cons.mpr ⟨zo_none_tl, ?_⟩
  refine List.forall_mem_cons.mpr ⟨(zo_iload_tl _ _), ?_⟩
  refine List.forall_mem_cons.mpr ⟨zo_none_tl, ?_⟩
  refine List.forall_mem_cons.mpr ⟨(zo_iald_tl _ _ _), ?_⟩
  refine List.forall_mem_cons.mpr ⟨(zo_callv_tl _ _ _ _), ?_⟩
  refine List.forall_mem_cons.mpr ⟨zo_none_tl, ?_⟩
  refine List.forall_mem_cons.mpr ⟨zo_none_tl, ?_⟩
  refine List.forall_mem_cons.mpr ⟨(zo_aload_tl _ _), ?_⟩
  refine List.forall_mem_cons.mpr ⟨(zo_getf_tl _ _ _), ?_⟩
  refine List.forall_mem_cons.mpr ⟨zo_none_tl, ?_⟩
  refine List.forall_mem_cons.mpr ⟨zo_none_tl, ?_⟩
  refine List.forall_mem_cons.mpr ⟨(zo_iload_tl _ _), ?_⟩
  refine List.forall_mem_cons.mpr ⟨zo_none_tl, ?_⟩
  refine List.forall_mem_cons.mpr ⟨(zo_iald_tl _ _ _), ?_⟩
  refine List.forall_mem_cons.mpr ⟨(zo_icmp_tl _ _ _), ?_⟩
  refine List.forall_mem_cons.mpr ⟨zo_none_tl, ?_⟩
  refine List.forall_mem_cons.mpr ⟨zo_none_tl, ?_⟩
  refine List.forall_mem_cons.mpr ⟨(zo_pushI_tl _ _), ?_⟩
  refine List.forall_mem_cons.mpr ⟨(zo_goto_tl _), ?_⟩
  refine List.forall_mem_cons.mpr ⟨zo_none_tl, ?_⟩
  refine List.forall_mem_cons.mpr ⟨zo_none_tl, ?_⟩
  refine List.forall_mem_cons.mpr ⟨(zo_pushI_tl _ _), ?_⟩
  refine List.forall_mem_cons.mpr ⟨(zo_putf_tl _ _ _ _), ?_⟩
  refine List.forall_mem_cons.mpr ⟨zo_none_tl, ?_⟩
  refine List.forall_mem_cons.mpr ⟨zo_none_tl, ?_⟩
  refine List.forall_mem_cons.mpr ⟨(zo_iinc_tl _ _ _), ?_⟩
  refine List.forall_mem_cons.mpr ⟨zo_none_tl, ?_⟩
  refine List.forall_mem_cons.mpr ⟨zo_none_tl, ?_⟩
  refine List.forall_mem_cons.mpr ⟨(zo_goto_tl _), ?_⟩
  refine List.forall_mem_cons.mpr ⟨zo_none_tl, ?_⟩
  refine List.forall_mem_cons.mpr ⟨zo_none_tl, ?_⟩
  refine List.forall_mem_cons.mpr ⟨(zo_lload_tl _ _), ?_⟩
  refine List.forall_mem_cons.mpr ⟨zo_none_tl, ?_⟩
  refine List.forall_mem_cons.mpr ⟨(zo_lret_tl), ?_⟩
  exact fun _ h => absurd h List.not_mem_nil
noncomputable def fX12_admitted : zzFn := zz_fn tX12_admitted 12
set_option maxRecDepth 100000 in
set_option maxHeartbeats 4000000 in
theorem mm_X12_admitted {l : Launch} {D : va_G} {cA : Nat → ClassId} {ad : Nat → Nat} {Ex : (Nat → Prop) → State → Heap → Prop} (Wd : zzWR l D cA ad Ex) : zz_Cn l D zzCl cA ad zzSR Ex yX12_admitted cX12_admitted 12 (some .long) 1 26 fX12_admitted ∧ zz_Cx l D zzCl cA ad zzSR Ex yX12_admitted cX12_admitted 12 (some .long) 1 26 fX12_admitted := by
  refine zz_meth (plainFor_of_name (by decide)) Wd.1 Wd.2.1 Wd.2.2 (fun p e R s m args below meth c rr X => ?_)
  unfold tX12_admitted
  refine zz_cons (k' := 1) rfl (zk_lload_n X dX12_admitted_0 rfl rfl) ?_
  refine zz_cons (k' := 2) rfl (zk_lstore X dX12_admitted_1 (by decide) rfl) ?_
  refine zz_cons (k' := 3) rfl (zz_Ok_none _ _) ?_
  refine zz_cons (k' := 4) rfl (zk_iconst X dX12_admitted_3 (by decide) rfl) ?_
  refine zz_cons (k' := 5) rfl (zk_istore X dX12_admitted_4 (by decide) rfl) ?_
  refine zz_cons (k' := 6) rfl (zz_Ok_none _ _) ?_
  refine zz_cons (k' := 7) rfl (zk_iconst X dX12_admitted_6 (by decide) rfl) ?_
  refine zz_cons (k' := 8) rfl (zk_istore X dX12_admitted_7 (by decide) rfl) ?_
  refine zz_cons (k' := 9) rfl (zz_Ok_none _ _) ?_
  refine zz_cons (k' := 10) rfl (zk_iload X dX12_admitted_9 rfl) ?_
  refine zz_cons (k' := 11) rfl (zz_Ok_none _ _) ?_
  refine zz_cons (k' := 12) rfl (zk_if_eq X dX12_admitted_11 (by decide) rfl) ?_
  refine zz_cons (k' := 13) rfl (zz_Ok_none _ _) ?_
  refine zz_cons (k' := 14) rfl (zz_Ok_none _ _) ?_
  refine zz_cons (k' := 15) rfl (zk_iload X dX12_admitted_14 rfl) ?_
  refine zz_cons (k' := 16) rfl (zz_Ok_none _ _) ?_
  refine zz_cons (k' := 17) rfl (zk_bipush X dX12_admitted_16 (by decide) rfl) ?_
  refine zz_cons (k' := 18) rfl (zz_Ok_none _ _) ?_
  refine zz_cons (k' := 19) rfl (zk_icmp_ge X dX12_admitted_18 (by decide) rfl) ?_
  refine zz_cons (k' := 20) rfl (zz_Ok_none _ _) ?_
  refine zz_cons (k' := 21) rfl (zz_Ok_none _ _) ?_
  refine zz_cons (k' := 22) rfl (zk_lload X dX12_admitted_21 rfl) ?_
  refine zz_cons (k' := 23) rfl (zz_Ok_none _ _) ?_
  refine zz_cons (k' := 24) rfl (zk_lstore X dX12_admitted_23 (by decide) rfl) ?_
  refine zz_cons (k' := 25) rfl (zz_Ok_none _ _) ?_
  refine zz_cons (k' := 26) rfl (zk_iconst X dX12_admitted_25 (by decide) rfl) ?_
  refine zz_cons (k' := 27) rfl (zk_istore X dX12_admitted_26 (by decide) rfl) ?_
  refine zz_cons (k' := 28) rfl (zz_Ok_none _ _) ?_
  refine zz_cons (k' := 29) rfl (zk_iload X dX12_admitted_28 rfl) ?_
  refine zz_cons (k' := 30) rfl (zz_Ok_none _ _) ?_
  refine zz_cons (k' := 31) rfl (zk_aload_n X dX12_admitted_30 rfl rfl) ?_
  refine zz_cons (k' := 32) rfl (zk_getf X ff_X12_165 dX12_admitted_31 rfl) ?_
  refine zz_cons (k' := 33) rfl (zz_Ok_none _ _) ?_
  refine zz_cons (k' := 34) rfl (zz_Ok_none _ _) ?_
  refine zz_cons (k' := 35) rfl (zk_icmp_ge X dX12_admitted_34 (by decide) rfl) ?_
  refine zz_cons (k' := 36) rfl (zz_Ok_none _ _) ?_
  refine zz_cons (k' := 37) rfl (zz_Ok_none _ _) ?_
  refine zz_cons (k' := 38) rfl (zk_aload_n X dX12_admitted_37 rfl rfl) ?_
  refine zz_cons (k' := 39) rfl (zk_getf X ff_X12_59 dX12_admitted_38 rfl) ?_
  refine zz_cons (k' := 40) rfl (zz_Ok_none _ _) ?_
  refine zz_cons (k' := 41) rfl (zz_Ok_none _ _) ?_
  refine zz_cons (k' := 42) rfl (zk_iload X dX12_admitted_41 rfl) ?_
  refine zz_cons (k' := 43) rfl (zz_Ok_none _ _) ?_
  refine zz_cons (k' := 44) rfl (zk_iald X (zzWR_st Wd) dX12_admitted_43 rfl) ?_
  refine zz_cons (k' := 45) rfl (zk_iload_n X dX12_admitted_44 rfl rfl) ?_
  refine zz_cons (k' := 46) rfl (zk_icmp_ne X dX12_admitted_45 (by decide) rfl) ?_
  refine zz_cons (k' := 47) rfl (zz_Ok_none _ _) ?_
  refine zz_cons (k' := 48) rfl (zz_Ok_none _ _) ?_
  refine zz_cons (k' := 49) rfl (zk_aload_n X dX12_admitted_48 rfl rfl) ?_
  refine zz_cons (k' := 50) rfl (zk_lload X dX12_admitted_49 rfl) ?_
  refine zz_cons (k' := 51) rfl (zz_Ok_none _ _) ?_
  refine zz_cons (k' := 52) rfl (zk_aload_n X dX12_admitted_51 rfl rfl) ?_
  refine zz_cons (k' := 53) rfl (zk_getf X ff_X12_62 dX12_admitted_52 rfl) ?_
  refine zz_cons (k' := 54) rfl (zz_Ok_none _ _) ?_
  refine zz_cons (k' := 55) rfl (zz_Ok_none _ _) ?_
  refine zz_cons (k' := 56) rfl (zk_iload X dX12_admitted_55 rfl) ?_
  refine zz_cons (k' := 57) rfl (zz_Ok_none _ _) ?_
  refine zz_cons (k' := 58) rfl (zk_iald X (zzWR_st Wd) dX12_admitted_57 rfl) ?_
  refine zz_cons (k' := 59) rfl (zk_callv X (zz_Cv_of (List.forall_mem_cons.mpr ⟨⟨(RX_10, zzT10, 50), yX12_get, cX12_get, 4, (some .int), 0, 0, rfl, kv_X12_146_10.1, (mm_X12_get Wd).1, by decide, by decide⟩, (fun _ h => absurd h List.not_mem_nil)⟩)) dX12_admitted_58 rfl) ?_
  refine zz_cons (k' := 60) rfl (zz_Ok_none _ _) ?_
  refine zz_cons (k' := 61) rfl (zz_Ok_none _ _) ?_
  refine zz_cons (k' := 62) rfl (zk_aload_n X dX12_admitted_61 rfl rfl) ?_
  refine zz_cons (k' := 63) rfl (zk_getf X ff_X12_65 dX12_admitted_62 rfl) ?_
  refine zz_cons (k' := 64) rfl (zz_Ok_none _ _) ?_
  refine zz_cons (k' := 65) rfl (zz_Ok_none _ _) ?_
  refine zz_cons (k' := 66) rfl (zk_iload X dX12_admitted_65 rfl) ?_
  refine zz_cons (k' := 67) rfl (zz_Ok_none _ _) ?_
  refine zz_cons (k' := 68) rfl (zk_iald X (zzWR_st Wd) dX12_admitted_67 rfl) ?_
  refine zz_cons (k' := 69) rfl (zk_aload_n X dX12_admitted_68 rfl rfl) ?_
  refine zz_cons (k' := 70) rfl (zk_getf X ff_X12_68 dX12_admitted_69 rfl) ?_
  refine zz_cons (k' := 71) rfl (zz_Ok_none _ _) ?_
  refine zz_cons (k' := 72) rfl (zz_Ok_none _ _) ?_
  refine zz_cons (k' := 73) rfl (zk_iload X dX12_admitted_72 rfl) ?_
  refine zz_cons (k' := 74) rfl (zz_Ok_none _ _) ?_
  refine zz_cons (k' := 75) rfl (zk_iald X (zzWR_st Wd) dX12_admitted_74 rfl) ?_
  refine zz_cons (k' := 76) rfl (zk_calls X ks_X12_140 (mm_X12_isIn Wd).1 (by decide) dX12_admitted_75 rfl) ?_
  refine zz_cons (k' := 77) rfl (zz_Ok_none _ _) ?_
  refine zz_cons (k' := 78) rfl (zz_Ok_none _ _) ?_
  refine zz_cons (k' := 79) rfl (zk_if_eq X dX12_admitted_78 (by decide) rfl) ?_
  refine zz_cons (k' := 80) rfl (zz_Ok_none _ _) ?_
  refine zz_cons (k' := 81) rfl (zz_Ok_none _ _) ?_
  refine zz_cons (k' := 82) rfl (zk_iconst X dX12_admitted_81 (by decide) rfl) ?_
  refine zz_cons (k' := 83) rfl (zk_goto X dX12_admitted_82 (by decide)) ?_
  refine zz_cons (k' := 84) rfl (zz_Ok_none _ _) ?_
  refine zz_cons (k' := 85) rfl (zz_Ok_none _ _) ?_
  refine zz_cons (k' := 86) rfl (zk_iconst X dX12_admitted_85 (by decide) rfl) ?_
  refine zz_cons (k' := 87) rfl (zk_istore X dX12_admitted_86 (by decide) rfl) ?_
  refine zz_cons (k' := 88) rfl (zz_Ok_none _ _) ?_
  refine zz_cons (k' := 89) rfl (zk_iload X dX12_admitted_88 rfl) ?_
  refine zz_cons (k' := 90) rfl (zz_Ok_none _ _) ?_
  refine zz_cons (k' := 91) rfl (zk_if_eq X dX12_admitted_90 (by decide) rfl) ?_
  refine zz_cons (k' := 92) rfl (zz_Ok_none _ _) ?_
  refine zz_cons (k' := 93) rfl (zz_Ok_none _ _) ?_
  refine zz_cons (k' := 94) rfl (zk_aload_n X dX12_admitted_93 rfl rfl) ?_
  refine zz_cons (k' := 95) rfl (zk_lload X dX12_admitted_94 rfl) ?_
  refine zz_cons (k' := 96) rfl (zz_Ok_none _ _) ?_
  refine zz_cons (k' := 97) rfl (zk_aload_n X dX12_admitted_96 rfl rfl) ?_
  refine zz_cons (k' := 98) rfl (zk_getf X ff_X12_71 dX12_admitted_97 rfl) ?_
  refine zz_cons (k' := 99) rfl (zz_Ok_none _ _) ?_
  refine zz_cons (k' := 100) rfl (zz_Ok_none _ _) ?_
  refine zz_cons (k' := 101) rfl (zk_iload X dX12_admitted_100 rfl) ?_
  refine zz_cons (k' := 102) rfl (zz_Ok_none _ _) ?_
  refine zz_cons (k' := 103) rfl (zk_iald X (zzWR_st Wd) dX12_admitted_102 rfl) ?_
  refine zz_cons (k' := 104) rfl (zk_aload_n X dX12_admitted_103 rfl rfl) ?_
  refine zz_cons (k' := 105) rfl (zk_getf X ff_X12_74 dX12_admitted_104 rfl) ?_
  refine zz_cons (k' := 106) rfl (zz_Ok_none _ _) ?_
  refine zz_cons (k' := 107) rfl (zz_Ok_none _ _) ?_
  refine zz_cons (k' := 108) rfl (zk_iload X dX12_admitted_107 rfl) ?_
  refine zz_cons (k' := 109) rfl (zz_Ok_none _ _) ?_
  refine zz_cons (k' := 110) rfl (zk_iald X (zzWR_st Wd) dX12_admitted_109 rfl) ?_
  refine zz_cons (k' := 111) rfl (zk_callv X (zz_Cv_of (List.forall_mem_cons.mpr ⟨⟨(RX_10, zzT10, 50), yX12_with, cX12_with, 7, (some .long), 0, 0, rfl, kv_X12_150_10.1, (mm_X12_with Wd).1, by decide, by decide⟩, (fun _ h => absurd h List.not_mem_nil)⟩)) dX12_admitted_110 rfl) ?_
  refine zz_cons (k' := 112) rfl (zz_Ok_none _ _) ?_
  refine zz_cons (k' := 113) rfl (zz_Ok_none _ _) ?_
  refine zz_cons (k' := 114) rfl (zk_goto X dX12_admitted_113 (by decide)) ?_
  refine zz_cons (k' := 115) rfl (zz_Ok_none _ _) ?_
  refine zz_cons (k' := 116) rfl (zz_Ok_none _ _) ?_
  refine zz_cons (k' := 117) rfl (zk_lload X dX12_admitted_116 rfl) ?_
  refine zz_cons (k' := 118) rfl (zz_Ok_none _ _) ?_
  refine zz_cons (k' := 119) rfl (zk_lstore X dX12_admitted_118 (by decide) rfl) ?_
  refine zz_cons (k' := 120) rfl (zz_Ok_none _ _) ?_
  refine zz_cons (k' := 121) rfl (zk_iinc X dX12_admitted_120 (by decide) (by decide) rfl) ?_
  refine zz_cons (k' := 122) rfl (zz_Ok_none _ _) ?_
  refine zz_cons (k' := 123) rfl (zz_Ok_none _ _) ?_
  refine zz_cons (k' := 124) rfl (zk_goto X dX12_admitted_123 (by decide)) ?_
  refine zz_cons (k' := 125) rfl (zz_Ok_none _ _) ?_
  refine zz_cons (k' := 126) rfl (zz_Ok_none _ _) ?_
  refine zz_cons (k' := 127) rfl (zk_lload X dX12_admitted_126 rfl) ?_
  refine zz_cons (k' := 128) rfl (zz_Ok_none _ _) ?_
  refine zz_cons (k' := 129) rfl (zk_lload X dX12_admitted_128 rfl) ?_
  refine zz_cons (k' := 130) rfl (zz_Ok_none _ _) ?_
  refine zz_cons (k' := 131) rfl (zk_lcmp X dX12_admitted_130 rfl) ?_
  refine zz_cons (k' := 132) rfl (zk_if_eq X dX12_admitted_131 (by decide) rfl) ?_
  refine zz_cons (k' := 133) rfl (zz_Ok_none _ _) ?_
  refine zz_cons (k' := 134) rfl (zz_Ok_none _ _) ?_
  refine zz_cons (k' := 135) rfl (zk_iconst X dX12_admitted_134 (by decide) rfl) ?_
  refine zz_cons (k' := 136) rfl (zk_goto X dX12_admitted_135 (by decide)) ?_
  refine zz_cons (k' := 137) rfl (zz_Ok_none _ _) ?_
  refine zz_cons (k' := 138) rfl (zz_Ok_none _ _) ?_
  refine zz_cons (k' := 139) rfl (zk_iconst X dX12_admitted_138 (by decide) rfl) ?_
  refine zz_cons (k' := 140) rfl (zk_istore X dX12_admitted_139 (by decide) rfl) ?_
  refine zz_cons (k' := 141) rfl (zz_Ok_none _ _) ?_
  refine zz_cons (k' := 142) rfl (zk_iinc X dX12_admitted_141 (by decide) (by decide) rfl) ?_
  refine zz_cons (k' := 143) rfl (zz_Ok_none _ _) ?_
  refine zz_cons (k' := 144) rfl (zz_Ok_none _ _) ?_
  refine zz_cons (k' := 145) rfl (zk_goto X dX12_admitted_144 (by decide)) ?_
  refine zz_cons (k' := 146) rfl (zz_Ok_none _ _) ?_
  refine zz_cons (k' := 147) rfl (zz_Ok_none _ _) ?_
  refine zz_cons (k' := 148) rfl (zk_aload_n X dX12_admitted_147 rfl rfl) ?_
  refine zz_cons (k' := 149) rfl (zk_iload X dX12_admitted_148 rfl) ?_
  refine zz_cons (k' := 150) rfl (zz_Ok_none _ _) ?_
  refine zz_cons (k' := 151) rfl (zk_if_ne X dX12_admitted_150 (by decide) rfl) ?_
  refine zz_cons (k' := 152) rfl (zz_Ok_none _ _) ?_
  refine zz_cons (k' := 153) rfl (zz_Ok_none _ _) ?_
  refine zz_cons (k' := 154) rfl (zk_iload_n X dX12_admitted_153 rfl rfl) ?_
  refine zz_cons (k' := 155) rfl (zk_if_ne X dX12_admitted_154 (by decide) rfl) ?_
  refine zz_cons (k' := 156) rfl (zz_Ok_none _ _) ?_
  refine zz_cons (k' := 157) rfl (zz_Ok_none _ _) ?_
  refine zz_cons (k' := 158) rfl (zk_aload_n X dX12_admitted_157 rfl rfl) ?_
  refine zz_cons (k' := 159) rfl (zk_lload X dX12_admitted_158 rfl) ?_
  refine zz_cons (k' := 160) rfl (zz_Ok_none _ _) ?_
  refine zz_cons (k' := 161) rfl (zk_iconst X dX12_admitted_160 (by decide) rfl) ?_
  refine zz_cons (k' := 162) rfl (zk_callv X (zz_Cv_of (List.forall_mem_cons.mpr ⟨⟨(RX_10, zzT10, 50), yX12_get, cX12_get, 4, (some .int), 0, 0, rfl, kv_X12_146_10.1, (mm_X12_get Wd).1, by decide, by decide⟩, (fun _ h => absurd h List.not_mem_nil)⟩)) dX12_admitted_161 rfl) ?_
  refine zz_cons (k' := 163) rfl (zz_Ok_none _ _) ?_
  refine zz_cons (k' := 164) rfl (zz_Ok_none _ _) ?_
  refine zz_cons (k' := 165) rfl (zk_aload_n X dX12_admitted_164 rfl rfl) ?_
  refine zz_cons (k' := 166) rfl (zk_lload X dX12_admitted_165 rfl) ?_
  refine zz_cons (k' := 167) rfl (zz_Ok_none _ _) ?_
  refine zz_cons (k' := 168) rfl (zk_iconst X dX12_admitted_167 (by decide) rfl) ?_
  refine zz_cons (k' := 169) rfl (zk_callv X (zz_Cv_of (List.forall_mem_cons.mpr ⟨⟨(RX_10, zzT10, 50), yX12_get, cX12_get, 4, (some .int), 0, 0, rfl, kv_X12_146_10.1, (mm_X12_get Wd).1, by decide, by decide⟩, (fun _ h => absurd h List.not_mem_nil)⟩)) dX12_admitted_168 rfl) ?_
  refine zz_cons (k' := 170) rfl (zz_Ok_none _ _) ?_
  refine zz_cons (k' := 171) rfl (zz_Ok_none _ _) ?_
  refine zz_cons (k' := 172) rfl (zk_iadd X dX12_admitted_171 rfl) ?_
  refine zz_cons (k' := 173) rfl (zk_if_ne X dX12_admitted_172 (by decide) rfl) ?_
  refine zz_cons (k' := 174) rfl (zz_Ok_none _ _) ?_
  refine zz_cons (k' := 175) rfl (zz_Ok_none _ _) ?_
  refine zz_cons (k' := 176) rfl (zk_iconst X dX12_admitted_175 (by decide) rfl) ?_
  refine zz_cons (k' := 177) rfl (zk_goto X dX12_admitted_176 (by decide)) ?_
  refine zz_cons (k' := 178) rfl (zz_Ok_none _ _) ?_
  refine zz_cons (k' := 179) rfl (zz_Ok_none _ _) ?_
  refine zz_cons (k' := 180) rfl (zk_iconst X dX12_admitted_179 (by decide) rfl) ?_
  refine zz_cons (k' := 181) rfl (zk_putf X ff_X12_168 fp_10_31 dX12_admitted_180 rfl) ?_
  refine zz_cons (k' := 182) rfl (zz_Ok_none _ _) ?_
  refine zz_cons (k' := 183) rfl (zz_Ok_none _ _) ?_
  refine zz_cons (k' := 184) rfl (zk_iconst X dX12_admitted_183 (by decide) rfl) ?_
  refine zz_cons (k' := 185) rfl (zk_istore X dX12_admitted_184 (by decide) rfl) ?_
  refine zz_cons (k' := 186) rfl (zz_Ok_none _ _) ?_
  refine zz_cons (k' := 187) rfl (zk_iload X dX12_admitted_186 rfl) ?_
  refine zz_cons (k' := 188) rfl (zz_Ok_none _ _) ?_
  refine zz_cons (k' := 189) rfl (zk_aload_n X dX12_admitted_188 rfl rfl) ?_
  refine zz_cons (k' := 190) rfl (zk_getf X ff_X12_172 dX12_admitted_189 rfl) ?_
  refine zz_cons (k' := 191) rfl (zz_Ok_none _ _) ?_
  refine zz_cons (k' := 192) rfl (zz_Ok_none _ _) ?_
  refine zz_cons (k' := 193) rfl (zk_icmp_ge X dX12_admitted_192 (by decide) rfl) ?_
  refine zz_cons (k' := 194) rfl (zz_Ok_none _ _) ?_
  refine zz_cons (k' := 195) rfl (zz_Ok_none _ _) ?_
  refine zz_cons (k' := 196) rfl (zk_aload_n X dX12_admitted_195 rfl rfl) ?_
  refine zz_cons (k' := 197) rfl (zk_aload_n X dX12_admitted_196 rfl rfl) ?_
  refine zz_cons (k' := 198) rfl (zk_getf X ff_X12_168 dX12_admitted_197 rfl) ?_
  refine zz_cons (k' := 199) rfl (zz_Ok_none _ _) ?_
  refine zz_cons (k' := 200) rfl (zz_Ok_none _ _) ?_
  refine zz_cons (k' := 201) rfl (zk_if_ne X dX12_admitted_200 (by decide) rfl) ?_
  refine zz_cons (k' := 202) rfl (zz_Ok_none _ _) ?_
  refine zz_cons (k' := 203) rfl (zz_Ok_none _ _) ?_
  refine zz_cons (k' := 204) rfl (zk_aload_n X dX12_admitted_203 rfl rfl) ?_
  refine zz_cons (k' := 205) rfl (zk_getf X ff_X12_77 dX12_admitted_204 rfl) ?_
  refine zz_cons (k' := 206) rfl (zz_Ok_none _ _) ?_
  refine zz_cons (k' := 207) rfl (zz_Ok_none _ _) ?_
  refine zz_cons (k' := 208) rfl (zk_iload X dX12_admitted_207 rfl) ?_
  refine zz_cons (k' := 209) rfl (zz_Ok_none _ _) ?_
  refine zz_cons (k' := 210) rfl (zk_iald X (zzWR_st Wd) dX12_admitted_209 rfl) ?_
  refine zz_cons (k' := 211) rfl (zk_iload_n X dX12_admitted_210 rfl rfl) ?_
  refine zz_cons (k' := 212) rfl (zk_icmp_ne X dX12_admitted_211 (by decide) rfl) ?_
  refine zz_cons (k' := 213) rfl (zz_Ok_none _ _) ?_
  refine zz_cons (k' := 214) rfl (zz_Ok_none _ _) ?_
  refine zz_cons (k' := 215) rfl (zk_aload_n X dX12_admitted_214 rfl rfl) ?_
  refine zz_cons (k' := 216) rfl (zk_lload X dX12_admitted_215 rfl) ?_
  refine zz_cons (k' := 217) rfl (zz_Ok_none _ _) ?_
  refine zz_cons (k' := 218) rfl (zk_aload_n X dX12_admitted_217 rfl rfl) ?_
  refine zz_cons (k' := 219) rfl (zk_getf X ff_X12_80 dX12_admitted_218 rfl) ?_
  refine zz_cons (k' := 220) rfl (zz_Ok_none _ _) ?_
  refine zz_cons (k' := 221) rfl (zz_Ok_none _ _) ?_
  refine zz_cons (k' := 222) rfl (zk_iload X dX12_admitted_221 rfl) ?_
  refine zz_cons (k' := 223) rfl (zz_Ok_none _ _) ?_
  refine zz_cons (k' := 224) rfl (zk_iald X (zzWR_st Wd) dX12_admitted_223 rfl) ?_
  refine zz_cons (k' := 225) rfl (zk_callv X (zz_Cv_of (List.forall_mem_cons.mpr ⟨⟨(RX_10, zzT10, 50), yX12_get, cX12_get, 4, (some .int), 0, 0, rfl, kv_X12_146_10.1, (mm_X12_get Wd).1, by decide, by decide⟩, (fun _ h => absurd h List.not_mem_nil)⟩)) dX12_admitted_224 rfl) ?_
  refine zz_cons (k' := 226) rfl (zz_Ok_none _ _) ?_
  refine zz_cons (k' := 227) rfl (zz_Ok_none _ _) ?_
  refine zz_cons (k' := 228) rfl (zk_aload_n X dX12_admitted_227 rfl rfl) ?_
  refine zz_cons (k' := 229) rfl (zk_getf X ff_X12_83 dX12_admitted_228 rfl) ?_
  refine zz_cons (k' := 230) rfl (zz_Ok_none _ _) ?_
  refine zz_cons (k' := 231) rfl (zz_Ok_none _ _) ?_
  refine zz_cons (k' := 232) rfl (zk_iload X dX12_admitted_231 rfl) ?_
  refine zz_cons (k' := 233) rfl (zz_Ok_none _ _) ?_
  refine zz_cons (k' := 234) rfl (zk_iald X (zzWR_st Wd) dX12_admitted_233 rfl) ?_
  refine zz_cons (k' := 235) rfl (zk_icmp_le X dX12_admitted_234 (by decide) rfl) ?_
  refine zz_cons (k' := 236) rfl (zz_Ok_none _ _) ?_
  refine zz_cons (k' := 237) rfl (zz_Ok_none _ _) ?_
  refine zz_cons (k' := 238) rfl (zk_iconst X dX12_admitted_237 (by decide) rfl) ?_
  refine zz_cons (k' := 239) rfl (zk_goto X dX12_admitted_238 (by decide)) ?_
  refine zz_cons (k' := 240) rfl (zz_Ok_none _ _) ?_
  refine zz_cons (k' := 241) rfl (zz_Ok_none _ _) ?_
  refine zz_cons (k' := 242) rfl (zk_iconst X dX12_admitted_241 (by decide) rfl) ?_
  refine zz_cons (k' := 243) rfl (zk_putf X ff_X12_168 fp_10_31 dX12_admitted_242 rfl) ?_
  refine zz_cons (k' := 244) rfl (zz_Ok_none _ _) ?_
  refine zz_cons (k' := 245) rfl (zz_Ok_none _ _) ?_
  refine zz_cons (k' := 246) rfl (zk_iinc X dX12_admitted_245 (by decide) (by decide) rfl) ?_
  refine zz_cons (k' := 247) rfl (zz_Ok_none _ _) ?_
  refine zz_cons (k' := 248) rfl (zz_Ok_none _ _) ?_
  refine zz_cons (k' := 249) rfl (zk_goto X dX12_admitted_248 (by decide)) ?_
  refine zz_cons (k' := 250) rfl (zz_Ok_none _ _) ?_
  refine zz_cons (k' := 251) rfl (zz_Ok_none _ _) ?_
  refine zz_cons (k' := 252) rfl (zk_lload X dX12_admitted_251 rfl) ?_
  refine zz_cons (k' := 253) rfl (zz_Ok_none _ _) ?_
  refine zz_cons (k' := 254) rfl (zk_lret X rfl dX12_admitted_253) ?_
  exact trivial
noncomputable def tX12_makes : List zzOp := [
  zo_aload 0 1,
  zo_aload 0 2,
  zo_aload 0 3,
  zo_pushL 0 4,
  zo_pushI 2 5,
  zo_pushI 1 6,
  zo_callv zzSR (zz_cl [(10, fX12_with)]) 3 9,
  zo_none,
  zo_none,
  zo_pushI 7 11,
  zo_none,
  zo_pushI 4 12,
  zo_callv zzSR (zz_cl [(10, fX12_with)]) 3 15,
  zo_none,
  zo_none,
  zo_pushI 10 17,
  zo_none,
  zo_pushI 1 18,
  zo_callv zzSR (zz_cl [(10, fX12_with)]) 3 21,
  zo_none,
  zo_none,
  zo_lstore 5 23,
  zo_none,
  zo_aload 0 24,
  zo_iload 2 25,
  zo_aload 0 26,
  zo_aload 0 27,
  zo_aload 0 28,
  zo_lload 5 30,
  zo_none,
  zo_pushI 14 32,
  zo_none,
  zo_pushI 1 33,
  zo_callv zzSR (zz_cl [(10, fX12_with)]) 3 36,
  zo_none,
  zo_none,
  zo_pushI 11 38,
  zo_none,
  zo_iload 3 39,
  zo_pushI 1 40,
  zo_ii (fun x y => x + y) 41,
  zo_callv zzSR (zz_cl [(10, fX12_with)]) 3 44,
  zo_none,
  zo_none,
  zo_pushI 1 45,
  zo_iload 4 47,
  zo_none,
  zo_callv zzSR (zz_cl [(10, fX12_with)]) 3 50,
  zo_none,
  zo_none,
  zo_callv zzSR (zz_cl [(10, fX12_admitted)]) 2 53,
  zo_none,
  zo_none,
  zo_lstore 5 55,
  zo_none,
  zo_aload 0 56,
  zo_getf zzSR (zz_kf [10] 31) 59,
  zo_none,
  zo_none,
  zo_if (fun x => decide (¬ x = 0)) 95 62,
  zo_none,
  zo_none,
  zo_aload 0 63,
  zo_getf zzSR (zz_kf [10] 5) 66,
  zo_none,
  zo_none,
  zo_pushI 60 68,
  zo_none,
  zo_icmp (fun x y => decide (x = y)) 95 71,
  zo_none,
  zo_none,
  zo_aload 0 72,
  zo_callv zzSR (zz_cl [(10, fX12_isFull)]) 0 75,
  zo_none,
  zo_none,
  zo_if (fun x => decide (¬ x = 0)) 95 78,
  zo_none,
  zo_none,
  zo_iload 2 79,
  zo_pushI 2 80,
  zo_icmp (fun x y => decide (¬ x = y)) 99 83,
  zo_none,
  zo_none,
  zo_aload 0 84,
  zo_pushI 2 85,
  zo_callv zzSR (zz_cl [(10, fX12_living)]) 1 88,
  zo_none,
  zo_none,
  zo_aload 0 89,
  zo_getf zzSR (zz_kf [10] 30) 92,
  zo_none,
  zo_none,
  zo_icmp (fun x y => decide (x < y)) 99 95,
  zo_none,
  zo_none,
  zo_pushI 1 96,
  zo_goto 100,
  zo_none,
  zo_none,
  zo_pushI 0 100,
  zo_istore 7 102,
  zo_none,
  zo_iload 7 104,
  zo_none,
  zo_if (fun x => decide (x = 0)) 109 107,
  zo_none,
  zo_none,
  zo_pushI (-1) 108,
  zo_iret false,
  zo_aload 0 110,
  zo_getf zzSR (zz_kf [10] 6) 113,
  zo_none,
  zo_none,
  zo_aload 0 114,
  zo_getf zzSR (zz_kf [10] 5) 117,
  zo_none,
  zo_none,
  zo_iload 2 118,
  zo_iast zzSR 119,
  zo_aload 0 120,
  zo_getf zzSR (zz_kf [10] 11) 123,
  zo_none,
  zo_none,
  zo_aload 0 124,
  zo_getf zzSR (zz_kf [10] 5) 127,
  zo_none,
  zo_none,
  zo_aload 0 128,
  zo_getf zzSR (zz_kf [10] 48) 131,
  zo_none,
  zo_none,
  zo_iast zzSR 132,
  zo_pushI 0 133,
  zo_istore 8 135,
  zo_none,
  zo_iload 8 137,
  zo_none,
  zo_pushI 11 139,
  zo_none,
  zo_icmp (fun x y => decide (y ≤ x)) 164 142,
  zo_none,
  zo_none,
  zo_aload 0 143,
  zo_getf zzSR (zz_kf [10] 10) 146,
  zo_none,
  zo_none,
  zo_pushI 11 148,
  zo_none,
  zo_aload 0 149,
  zo_getf zzSR (zz_kf [10] 5) 152,
  zo_none,
  zo_none,
  zo_ii (fun x y => x * y) 153,
  zo_iload 8 155,
  zo_none,
  zo_ii (fun x y => x + y) 156,
  zo_iload 1 157,
  zo_iast zzSR 158,
  zo_iinc 8 1 161,
  zo_none,
  zo_none,
  zo_goto 135,
  zo_none,
  zo_none,
  zo_aload 0 165,
  zo_dup 166,
  zo_getf zzSR (zz_kf [10] 5) 169,
  zo_none,
  zo_none,
  zo_pushI 1 170,
  zo_ii (fun x y => x + y) 171,
  zo_putf zzSR (zz_kf [10] 5) false 174,
  zo_none,
  zo_none,
  zo_aload 0 175,
  zo_aload 0 176,
  zo_getf zzSR (zz_kf [10] 5) 179,
  zo_none,
  zo_none,
  zo_pushI 1 180,
  zo_ii (fun x y => x - y) 181,
  zo_lload 5 183,
  zo_none,
  zo_pushL 0 184,
  zo_callv zzSR (zz_cl [(10, fX12_logs)]) 3 187,
  zo_none,
  zo_none,
  zo_aload 0 188,
  zo_getf zzSR (zz_kf [10] 5) 191,
  zo_none,
  zo_none,
  zo_pushI 1 192,
  zo_ii (fun x y => x - y) 193,
  zo_iret false]
set_option maxRecDepth 100000 in
theorem tl_X12_makes : ∀ pc, zz_Tl (tX12_makes.getD pc zo_none) := by
  refine zz_Tl_mem ?_
  unfold tX12_makes
  refine List.forall_mem_cons.mpr ⟨(zo_aload_tl _ _), ?_⟩
  refine List.forall_mem_cons.mpr ⟨(zo_aload_tl _ _), ?_⟩
  refine List.forall_mem_cons.mpr ⟨(zo_aload_tl _ _), ?_⟩
  refine List.forall_mem_cons.mpr ⟨(zo_pushL_tl _ _), ?_⟩
  refine List.forall_mem_cons.mpr ⟨(zo_pushI_tl _ _), ?_⟩
  refine List.forall_mem_cons.mpr ⟨(zo_pushI_tl _ _), ?_⟩
  refine List.forall_mem_cons.mpr ⟨(zo_callv_tl _ _ _ _), ?_⟩
  refine List.forall_mem_cons.mpr ⟨zo_none_tl, ?_⟩
  refine List.forall_mem_cons.mpr ⟨zo_none_tl, ?_⟩
  refine List.forall_mem_cons.mpr ⟨(zo_pushI_tl _ _), ?_⟩
  refine List.forall_mem_cons.mpr ⟨zo_none_tl, ?_⟩
  refine List.forall_mem_cons.mpr ⟨(zo_pushI_tl _ _), ?_⟩
  refine List.forall_mem_cons.mpr ⟨(zo_callv_tl _ _ _ _), ?_⟩
  refine List.forall_mem_cons.mpr ⟨zo_none_tl, ?_⟩
  refine List.forall_mem_cons.mpr ⟨zo_none_tl, ?_⟩
  refine List.forall_mem_cons.mpr ⟨(zo_pushI_tl _ _), ?_⟩
  refine List.forall_mem_cons.mpr ⟨zo_none_tl, ?_⟩
  refine List.forall_mem_cons.mpr ⟨(zo_pushI_tl _ _), ?_⟩
  refine List.forall_mem_cons.mpr ⟨(zo_callv_tl _ _ _ _), ?_⟩
  refine List.forall_mem_cons.mpr ⟨zo_none_tl, ?_⟩
  refine List.forall_mem_cons.mpr ⟨zo_none_tl, ?_⟩
  refine List.forall_mem_cons.mpr ⟨(zo_lstore_tl _ _), ?_⟩
  refine List.forall_mem_cons.mpr ⟨zo_none_tl, ?_⟩
  refine List.forall_mem_cons.mpr ⟨(zo_aload_tl _ _), ?_⟩
  refine List.forall_mem_cons.mpr ⟨(zo_iload_tl _ _), ?_⟩
  refine List.forall_mem_cons.mpr ⟨(zo_aload_tl _ _), ?_⟩
  refine List.forall_mem_cons.mpr ⟨(zo_aload_tl _ _), ?_⟩
  refine List.forall_mem_cons.mpr ⟨(zo_aload_tl _ _), ?_⟩
  refine List.forall_mem_cons.mpr ⟨(zo_lload_tl _ _), ?_⟩
  refine List.forall_mem_cons.mpr ⟨zo_none_tl, ?_⟩
  refine List.forall_mem_cons.mpr ⟨(zo_pushI_tl _ _), ?_⟩
  refine List.forall_mem_cons.mpr ⟨zo_none_tl, ?_⟩
  refine List.forall_mem_cons.mpr ⟨(zo_pushI_tl _ _), ?_⟩
  refine List.forall_mem_cons.mpr ⟨(zo_callv_tl _ _ _ _), ?_⟩
  refine List.forall_mem_cons.mpr ⟨zo_none_tl, ?_⟩
  refine List.forall_mem_cons.mpr ⟨zo_none_tl, ?_⟩
  refine List.forall_mem_cons.mpr ⟨(zo_pushI_tl _ _), ?_⟩
  refine List.forall_mem_cons.mpr ⟨zo_none_tl, ?_⟩
  refine List.forall_mem_cons.mpr ⟨(zo_iload_tl _ _), ?_⟩
  refine List.forall_mem_cons.mpr ⟨(zo_pushI_tl _ _), ?_⟩
  refine List.forall_mem_cons.mpr ⟨(zo_ii_tl _ _), ?_⟩
  refine List.forall_mem_cons.mpr ⟨(zo_callv_tl _ _ _ _), ?_⟩
  refine List.forall_mem_cons.mpr ⟨zo_none_tl, ?_⟩
  refine List.forall_mem_cons.mpr ⟨zo_none_tl, ?_⟩
  refine List.forall_mem_cons.mpr ⟨(zo_pushI_tl _ _), ?_⟩
  refine List.forall_mem_cons.mpr ⟨(zo_iload_tl _ _), ?_⟩
  refine List.forall_mem_cons.mpr ⟨zo_none_tl, ?_⟩
  refine List.forall_mem_cons.mpr ⟨(zo_callv_tl _ _ _ _), ?_⟩
  refine List.forall_mem_cons.mpr ⟨zo_none_tl, ?_⟩
  refine List.forall_mem_cons.mpr ⟨zo_none_tl, ?_⟩
  refine List.forall_mem_cons.mpr ⟨(zo_callv_tl _ _ _ _), ?_⟩
  refine List.forall_mem_cons.mpr ⟨zo_none_tl, ?_⟩
  refine List.forall_mem_cons.mpr ⟨zo_none_tl, ?_⟩
  refine List.forall_mem_cons.mpr ⟨(zo_lstore_tl _ _), ?_⟩
  refine List.forall_mem_cons.mpr ⟨zo_none_tl, ?_⟩
  refine List.forall_mem_cons.mpr ⟨(zo_aload_tl _ _), ?_⟩
  refine List.forall_mem_cons.mpr ⟨(zo_getf_tl _ _ _), ?_⟩
  refine List.forall_mem_cons.mpr ⟨zo_none_tl, ?_⟩
  refine List.forall_mem_cons.mpr ⟨zo_none_tl, ?_⟩
  refine List.forall_mem_cons.mpr ⟨(zo_if_tl _ _ _), ?_⟩
  refine List.forall_mem_cons.mpr ⟨zo_none_tl, ?_⟩
  refine List.forall_mem_cons.mpr ⟨zo_none_tl, ?_⟩
  refine List.forall_mem_cons.mpr ⟨(zo_aload_tl _ _), ?_⟩
  refine List.forall_mem_cons.mpr ⟨(zo_getf_tl _ _ _), ?_⟩
  refine List.forall_mem_cons.mpr ⟨zo_none_tl, ?_⟩
  refine List.forall_mem_cons.mpr ⟨zo_none_tl, ?_⟩
  refine List.forall_mem_cons.mpr ⟨(zo_pushI_tl _ _), ?_⟩
  refine List.forall_mem_cons.mpr ⟨zo_none_tl, ?_⟩
  refine List.forall_mem_cons.mpr ⟨(zo_icmp_tl _ _ _), ?_⟩
  refine List.forall_mem_cons.mpr ⟨zo_none_tl, ?_⟩
  refine List.forall_mem_cons.mpr ⟨zo_none_tl, ?_⟩
  refine List.forall_mem_cons.mpr ⟨(zo_aload_tl _ _), ?_⟩
  refine List.forall_mem_cons.mpr ⟨(zo_callv_tl _ _ _ _), ?_⟩
  refine List.forall_mem_cons.mpr ⟨zo_none_tl, ?_⟩
  refine List.forall_mem_cons.mpr ⟨zo_none_tl, ?_⟩
  refine List.forall_mem_cons.mpr ⟨(zo_if_tl _ _ _), ?_⟩
  refine List.forall_mem_cons.mpr ⟨zo_none_tl, ?_⟩
  refine List.forall_mem_cons.mpr ⟨zo_none_tl, ?_⟩
  refine List.forall_mem_cons.mpr ⟨(zo_iload_tl _ _), ?_⟩
  refine List.forall_mem_cons.mpr ⟨(zo_pushI_tl _ _), ?_⟩
  refine List.forall_mem_cons.mpr ⟨(zo_icmp_tl _ _ _), ?_⟩
  refine List.forall_mem_cons.mpr ⟨zo_none_tl, ?_⟩
  refine List.forall_mem_cons.mpr ⟨zo_none_tl, ?_⟩
  refine List.forall_mem_cons.mpr ⟨(zo_aload_tl _ _), ?_⟩
  refine List.forall_mem_cons.mpr ⟨(zo_pushI_tl _ _), ?_⟩
  refine List.forall_mem_cons.mpr ⟨(zo_callv_tl _ _ _ _), ?_⟩
  refine List.forall_mem_cons.mpr ⟨zo_none_tl, ?_⟩
  refine List.forall_mem_cons.mpr ⟨zo_none_tl, ?_⟩
  refine List.forall_mem_cons.mpr ⟨(zo_aload_tl _ _), ?_⟩
  refine List.forall_mem_cons.mpr ⟨(zo_getf_tl _ _ _), ?_⟩
  refine List.forall_mem_cons.mpr ⟨zo_none_tl, ?_⟩
  refine List.forall_mem_cons.mpr ⟨zo_none_tl, ?_⟩
  refine List.forall_mem_cons.mpr ⟨(zo_icmp_tl _ _ _), ?_⟩
  refine List.forall_mem_cons.mpr ⟨zo_none_tl, ?_⟩
  refine List.forall_mem_cons.mpr ⟨zo_none_tl, ?_⟩
  refine List.forall_mem_cons.mpr ⟨(zo_pushI_tl _ _), ?_⟩
  refine List.forall_mem_cons.mpr ⟨(zo_goto_tl _), ?_⟩
  refine List.forall_mem_cons.mpr ⟨zo_none_tl, ?_⟩
  refine List.forall_mem_cons.mpr ⟨zo_none_tl, ?_⟩
  refine List.forall_mem_cons.mpr ⟨(zo_pushI_tl _ _), ?_⟩
  refine List.forall_mem_cons.mpr ⟨(zo_istore_tl _ _), ?_⟩
  refine List.forall_mem_cons.mpr ⟨zo_none_tl, ?_⟩
  refine List.forall_mem_cons.mpr ⟨(zo_iload_tl _ _), ?_⟩
  refine List.forall_mem_cons.mpr ⟨zo_none_tl, ?_⟩
  refine List.forall_mem_cons.mpr ⟨(zo_if_tl _ _ _), ?_⟩
  refine List.forall_mem_cons.mpr ⟨zo_none_tl, ?_⟩
  refine List.forall_mem_cons.mpr ⟨zo_none_tl, ?_⟩
  refine List.forall_mem_cons.mpr ⟨(zo_pushI_tl _ _), ?_⟩
  refine List.forall_mem_cons.mpr ⟨(zo_iret_tl _), ?_⟩
  refine List.forall_mem_cons.mpr ⟨(zo_aload_tl _ _), ?_⟩
  refine List.forall_mem_cons.mpr ⟨(zo_getf_tl _ _ _), ?_⟩
  refine List.forall_mem_cons.mpr ⟨zo_none_tl, ?_⟩
  refine List.forall_mem_cons.mpr ⟨zo_none_tl, ?_⟩
  refine List.forall_mem_cons.mpr ⟨(zo_aload_tl _ _), ?_⟩
  refine List.forall_mem_cons.mpr ⟨(zo_getf_tl _ _ _), ?_⟩
  refine List.forall_mem_cons.mpr ⟨zo_none_tl, ?_⟩
  refine List.forall_mem_cons.mpr ⟨zo_none_tl, ?_⟩
  refine List.forall_mem_cons.mpr ⟨(zo_iload_tl _ _), ?_⟩
  refine List.forall_mem_cons.mpr ⟨(zo_iast_tl _ _), ?_⟩
  refine List.forall_mem_cons.mpr ⟨(zo_aload_tl _ _), ?_⟩
  refine List.forall_mem_cons.mpr ⟨(zo_getf_tl _ _ _), ?_⟩
  refine List.forall_mem_cons.mpr ⟨zo_none_tl, ?_⟩
  refine List.forall_mem_cons.mpr ⟨zo_none_tl, ?_⟩
  refine List.forall_mem_cons.mpr ⟨(zo_aload_tl _ _), ?_⟩
  refine List.forall_mem_cons.mpr ⟨(zo_getf_tl _ _ _), ?_⟩
  refine List.forall_mem_cons.mpr ⟨zo_none_tl, ?_⟩
  refine List.forall_mem_cons.mpr ⟨zo_none_tl, ?_⟩
  refine List.forall_mem_cons.mpr ⟨(zo_aload_tl _ _), ?_⟩
  refine List.forall_mem_cons.mpr ⟨(zo_getf_tl _ _ _), ?_⟩
  refine List.forall_mem_cons.mpr ⟨zo_none_tl, ?_⟩
  refine List.forall_mem_cons.mpr ⟨zo_none_tl, ?_⟩
  refine List.forall_mem_cons.mpr ⟨(zo_iast_tl _ _), ?_⟩
  refine List.forall_mem_cons.mpr ⟨(zo_pushI_tl _ _), ?_⟩
  refine List.forall_mem_cons.mpr ⟨(zo_istore_tl _ _), ?_⟩
  refine List.forall_mem_cons.mpr ⟨zo_none_tl, ?_⟩
  refine List.forall_mem_cons.mpr ⟨(zo_iload_tl _ _), ?_⟩
  refine List.forall_mem_cons.mpr ⟨zo_none_tl, ?_⟩
  refine List.forall_mem_cons.mpr ⟨(zo_pushI_tl _ _), ?_⟩
  refine List.forall_mem_cons.mpr ⟨zo_none_tl, ?_⟩
  refine List.forall_mem_cons.mpr ⟨(zo_icmp_tl _ _ _), ?_⟩
  refine List.forall_mem_cons.mpr ⟨zo_none_tl, ?_⟩
  refine List.forall_mem_cons.mpr ⟨zo_none_tl, ?_⟩
  refine List.forall_mem_cons.mpr ⟨(zo_aload_tl _ _), ?_⟩
  refine List.forall_mem_cons.mpr ⟨(zo_getf_tl _ _ _), ?_⟩
  refine List.forall_mem_cons.mpr ⟨zo_none_tl, ?_⟩
  refine List.forall_mem_cons.mpr ⟨zo_none_tl, ?_⟩
  refine List.forall_mem_cons.mpr ⟨(zo_pushI_tl _ _), ?_⟩
  refine List.forall_mem_cons.mpr ⟨zo_none_tl, ?_⟩
  refine List.forall_mem_cons.mpr ⟨(zo_aload_tl _ _), ?_⟩
  refine List.forall_mem_cons.mpr ⟨(zo_getf_tl _ _ _), ?_⟩
  refine List.forall_mem_cons.mpr ⟨zo_none_tl, ?_⟩
  refine List.forall_mem_cons.mpr ⟨zo_none_tl, ?_⟩
  refine List.forall_mem_cons.mpr ⟨(zo_ii_tl _ _), ?_⟩
  refine List.forall_mem_cons.mpr ⟨(zo_iload_tl _ _), ?_⟩
  refine List.forall_mem_cons.mpr ⟨zo_none_tl, ?_⟩
  refine List.forall_mem_cons.mpr ⟨(zo_ii_tl _ _), ?_⟩
  refine List.forall_mem_cons.mpr ⟨(zo_iload_tl _ _), ?_⟩
  refine List.forall_mem_cons.mpr ⟨(zo_iast_tl _ _), ?_⟩
  refine List.forall_mem_cons.mpr ⟨(zo_iinc_tl _ _ _), ?_⟩
  refine List.forall_mem_cons.mpr ⟨zo_none_tl, ?_⟩
  refine List.forall_mem_cons.mpr ⟨zo_none_tl, ?_⟩
  refine List.forall_mem_cons.mpr ⟨(zo_goto_tl _), ?_⟩
  refine List.forall_mem_cons.mpr ⟨zo_none_tl, ?_⟩
  refine List.forall_mem_cons.mpr ⟨zo_none_tl, ?_⟩
  refine List.forall_mem_cons.mpr ⟨(zo_aload_tl _ _), ?_⟩
  refine List.forall_mem_cons.mpr ⟨(zo_dup_tl _), ?_⟩
  refine List.forall_mem_cons.mpr ⟨(zo_getf_tl _ _ _), ?_⟩
  refine List.forall_mem_cons.mpr ⟨zo_none_tl, ?_⟩
  refine List.forall_mem_cons.mpr ⟨zo_none_tl, ?_⟩
  refine List.forall_mem_cons.mpr ⟨(zo_pushI_tl _ _), ?_⟩
  refine List.forall_mem_cons.mpr ⟨(zo_ii_tl _ _), ?_⟩
  refine List.forall_mem_cons.mpr ⟨(zo_putf_tl _ _ _ _), ?_⟩
  refine List.forall_mem_cons.mpr ⟨zo_none_tl, ?_⟩
  refine List.forall_mem_cons.mpr ⟨zo_none_tl, ?_⟩
  refine List.forall_mem_cons.mpr ⟨(zo_aload_tl _ _), ?_⟩
  refine List.forall_mem_cons.mpr ⟨(zo_aload_tl _ _), ?_⟩
  refine List.forall_mem_cons.mpr ⟨(zo_getf_tl _ _ _), ?_⟩
  refine List.forall_mem_cons.mpr ⟨zo_none_tl, ?_⟩
  refine List.forall_mem_cons.mpr ⟨zo_none_tl, ?_⟩
  refine List.forall_mem_cons.mpr ⟨(zo_pushI_tl _ _), ?_⟩
  refine List.forall_mem_cons.mpr ⟨(zo_ii_tl _ _), ?_⟩
  refine List.forall_mem_cons.mpr ⟨(zo_lload_tl _ _), ?_⟩
  refine List.forall_mem_cons.mpr ⟨zo_none_tl, ?_⟩
  refine List.forall_mem_cons.mpr ⟨(zo_pushL_tl _ _), ?_⟩
  refine List.forall_mem_cons.mpr ⟨(zo_callv_tl _ _ _ _), ?_⟩
  refine List.forall_mem_cons.mpr ⟨zo_none_tl, ?_⟩
  refine List.forall_mem_cons.mpr ⟨zo_none_tl, ?_⟩
  refine List.forall_mem_cons.mpr ⟨(zo_aload_tl _ _), ?_⟩
  refine List.forall_mem_cons.mpr ⟨(zo_getf_tl _ _ _), ?_⟩
  refine List.forall_mem_cons.mpr ⟨zo_none_tl, ?_⟩
  refine List.forall_mem_cons.mpr ⟨zo_none_tl, ?_⟩
  refine List.forall_mem_cons.mpr ⟨(zo_pushI_tl _ _), ?_⟩
  refine List.forall_mem_cons.mpr ⟨(zo_ii_tl _ _), ?_⟩
  refine List.forall_mem_cons.mpr ⟨(zo_iret_tl _), ?_⟩
  exact fun _ h => absurd h List.not_mem_nil
noncomputable def fX12_makes : zzFn := zz_fn tX12_makes 9
set_option maxRecDepth 100000 in
set_option maxHeartbeats 4000000 in
theorem mm_X12_makes {l : Launch} {D : va_G} {cA : Nat → ClassId} {ad : Nat → Nat} {Ex : (Nat → Prop) → State → Heap → Prop} (Wd : zzWR l D cA ad Ex) : zz_Cn l D zzCl cA ad zzSR Ex yX12_makes cX12_makes 9 (some .int) 2 57 fX12_makes ∧ zz_Cx l D zzCl cA ad zzSR Ex yX12_makes cX12_makes 9 (some .int) 2 57 fX12_makes := by
  refine zz_meth (plainFor_of_name (by decide)) Wd.1 Wd.2.1 Wd.2.2 (fun p e R s m args below meth c rr X => ?_)
  unfold tX12_makes
  refine zz_cons (k' := 1) rfl (zk_aload_n X dX12_makes_0 rfl rfl) ?_
  refine zz_cons (k' := 2) rfl (zk_aload_n X dX12_makes_1 rfl rfl) ?_
  refine zz_cons (k' := 3) rfl (zk_aload_n X dX12_makes_2 rfl rfl) ?_
  refine zz_cons (k' := 4) rfl (zk_lconst X dX12_makes_3 (by decide) rfl) ?_
  refine zz_cons (k' := 5) rfl (zk_iconst X dX12_makes_4 (by decide) rfl) ?_
  refine zz_cons (k' := 6) rfl (zk_iconst X dX12_makes_5 (by decide) rfl) ?_
  refine zz_cons (k' := 7) rfl (zk_callv X (zz_Cv_of (List.forall_mem_cons.mpr ⟨⟨(RX_10, zzT10, 50), yX12_with, cX12_with, 7, (some .long), 0, 0, rfl, kv_X12_150_10.1, (mm_X12_with Wd).1, by decide, by decide⟩, (fun _ h => absurd h List.not_mem_nil)⟩)) dX12_makes_6 rfl) ?_
  refine zz_cons (k' := 8) rfl (zz_Ok_none _ _) ?_
  refine zz_cons (k' := 9) rfl (zz_Ok_none _ _) ?_
  refine zz_cons (k' := 10) rfl (zk_bipush X dX12_makes_9 (by decide) rfl) ?_
  refine zz_cons (k' := 11) rfl (zz_Ok_none _ _) ?_
  refine zz_cons (k' := 12) rfl (zk_iconst X dX12_makes_11 (by decide) rfl) ?_
  refine zz_cons (k' := 13) rfl (zk_callv X (zz_Cv_of (List.forall_mem_cons.mpr ⟨⟨(RX_10, zzT10, 50), yX12_with, cX12_with, 7, (some .long), 0, 0, rfl, kv_X12_150_10.1, (mm_X12_with Wd).1, by decide, by decide⟩, (fun _ h => absurd h List.not_mem_nil)⟩)) dX12_makes_12 rfl) ?_
  refine zz_cons (k' := 14) rfl (zz_Ok_none _ _) ?_
  refine zz_cons (k' := 15) rfl (zz_Ok_none _ _) ?_
  refine zz_cons (k' := 16) rfl (zk_bipush X dX12_makes_15 (by decide) rfl) ?_
  refine zz_cons (k' := 17) rfl (zz_Ok_none _ _) ?_
  refine zz_cons (k' := 18) rfl (zk_iconst X dX12_makes_17 (by decide) rfl) ?_
  refine zz_cons (k' := 19) rfl (zk_callv X (zz_Cv_of (List.forall_mem_cons.mpr ⟨⟨(RX_10, zzT10, 50), yX12_with, cX12_with, 7, (some .long), 0, 0, rfl, kv_X12_150_10.1, (mm_X12_with Wd).1, by decide, by decide⟩, (fun _ h => absurd h List.not_mem_nil)⟩)) dX12_makes_18 rfl) ?_
  refine zz_cons (k' := 20) rfl (zz_Ok_none _ _) ?_
  refine zz_cons (k' := 21) rfl (zz_Ok_none _ _) ?_
  refine zz_cons (k' := 22) rfl (zk_lstore X dX12_makes_21 (by decide) rfl) ?_
  refine zz_cons (k' := 23) rfl (zz_Ok_none _ _) ?_
  refine zz_cons (k' := 24) rfl (zk_aload_n X dX12_makes_23 rfl rfl) ?_
  refine zz_cons (k' := 25) rfl (zk_iload_n X dX12_makes_24 rfl rfl) ?_
  refine zz_cons (k' := 26) rfl (zk_aload_n X dX12_makes_25 rfl rfl) ?_
  refine zz_cons (k' := 27) rfl (zk_aload_n X dX12_makes_26 rfl rfl) ?_
  refine zz_cons (k' := 28) rfl (zk_aload_n X dX12_makes_27 rfl rfl) ?_
  refine zz_cons (k' := 29) rfl (zk_lload X dX12_makes_28 rfl) ?_
  refine zz_cons (k' := 30) rfl (zz_Ok_none _ _) ?_
  refine zz_cons (k' := 31) rfl (zk_bipush X dX12_makes_30 (by decide) rfl) ?_
  refine zz_cons (k' := 32) rfl (zz_Ok_none _ _) ?_
  refine zz_cons (k' := 33) rfl (zk_iconst X dX12_makes_32 (by decide) rfl) ?_
  refine zz_cons (k' := 34) rfl (zk_callv X (zz_Cv_of (List.forall_mem_cons.mpr ⟨⟨(RX_10, zzT10, 50), yX12_with, cX12_with, 7, (some .long), 0, 0, rfl, kv_X12_150_10.1, (mm_X12_with Wd).1, by decide, by decide⟩, (fun _ h => absurd h List.not_mem_nil)⟩)) dX12_makes_33 rfl) ?_
  refine zz_cons (k' := 35) rfl (zz_Ok_none _ _) ?_
  refine zz_cons (k' := 36) rfl (zz_Ok_none _ _) ?_
  refine zz_cons (k' := 37) rfl (zk_bipush X dX12_makes_36 (by decide) rfl) ?_
  refine zz_cons (k' := 38) rfl (zz_Ok_none _ _) ?_
  refine zz_cons (k' := 39) rfl (zk_iload_n X dX12_makes_38 rfl rfl) ?_
  refine zz_cons (k' := 40) rfl (zk_iconst X dX12_makes_39 (by decide) rfl) ?_
  refine zz_cons (k' := 41) rfl (zk_iadd X dX12_makes_40 rfl) ?_
  refine zz_cons (k' := 42) rfl (zk_callv X (zz_Cv_of (List.forall_mem_cons.mpr ⟨⟨(RX_10, zzT10, 50), yX12_with, cX12_with, 7, (some .long), 0, 0, rfl, kv_X12_150_10.1, (mm_X12_with Wd).1, by decide, by decide⟩, (fun _ h => absurd h List.not_mem_nil)⟩)) dX12_makes_41 rfl) ?_
  refine zz_cons (k' := 43) rfl (zz_Ok_none _ _) ?_
  refine zz_cons (k' := 44) rfl (zz_Ok_none _ _) ?_
  refine zz_cons (k' := 45) rfl (zk_iconst X dX12_makes_44 (by decide) rfl) ?_
  refine zz_cons (k' := 46) rfl (zk_iload X dX12_makes_45 rfl) ?_
  refine zz_cons (k' := 47) rfl (zz_Ok_none _ _) ?_
  refine zz_cons (k' := 48) rfl (zk_callv X (zz_Cv_of (List.forall_mem_cons.mpr ⟨⟨(RX_10, zzT10, 50), yX12_with, cX12_with, 7, (some .long), 0, 0, rfl, kv_X12_150_10.1, (mm_X12_with Wd).1, by decide, by decide⟩, (fun _ h => absurd h List.not_mem_nil)⟩)) dX12_makes_47 rfl) ?_
  refine zz_cons (k' := 49) rfl (zz_Ok_none _ _) ?_
  refine zz_cons (k' := 50) rfl (zz_Ok_none _ _) ?_
  refine zz_cons (k' := 51) rfl (zk_callv X (zz_Cv_of (List.forall_mem_cons.mpr ⟨⟨(RX_10, zzT10, 50), yX12_admitted, cX12_admitted, 12, (some .long), 1, 26, rfl, kv_X12_175_10.1, (mm_X12_admitted Wd).1, by decide, by decide⟩, (fun _ h => absurd h List.not_mem_nil)⟩)) dX12_makes_50 rfl) ?_
  refine zz_cons (k' := 52) rfl (zz_Ok_none _ _) ?_
  refine zz_cons (k' := 53) rfl (zz_Ok_none _ _) ?_
  refine zz_cons (k' := 54) rfl (zk_lstore X dX12_makes_53 (by decide) rfl) ?_
  refine zz_cons (k' := 55) rfl (zz_Ok_none _ _) ?_
  refine zz_cons (k' := 56) rfl (zk_aload_n X dX12_makes_55 rfl rfl) ?_
  refine zz_cons (k' := 57) rfl (zk_getf X ff_X12_168 dX12_makes_56 rfl) ?_
  refine zz_cons (k' := 58) rfl (zz_Ok_none _ _) ?_
  refine zz_cons (k' := 59) rfl (zz_Ok_none _ _) ?_
  refine zz_cons (k' := 60) rfl (zk_if_ne X dX12_makes_59 (by decide) rfl) ?_
  refine zz_cons (k' := 61) rfl (zz_Ok_none _ _) ?_
  refine zz_cons (k' := 62) rfl (zz_Ok_none _ _) ?_
  refine zz_cons (k' := 63) rfl (zk_aload_n X dX12_makes_62 rfl rfl) ?_
  refine zz_cons (k' := 64) rfl (zk_getf X ff_X12_137 dX12_makes_63 rfl) ?_
  refine zz_cons (k' := 65) rfl (zz_Ok_none _ _) ?_
  refine zz_cons (k' := 66) rfl (zz_Ok_none _ _) ?_
  refine zz_cons (k' := 67) rfl (zk_bipush X dX12_makes_66 (by decide) rfl) ?_
  refine zz_cons (k' := 68) rfl (zz_Ok_none _ _) ?_
  refine zz_cons (k' := 69) rfl (zk_icmp_eq X dX12_makes_68 (by decide) rfl) ?_
  refine zz_cons (k' := 70) rfl (zz_Ok_none _ _) ?_
  refine zz_cons (k' := 71) rfl (zz_Ok_none _ _) ?_
  refine zz_cons (k' := 72) rfl (zk_aload_n X dX12_makes_71 rfl rfl) ?_
  refine zz_cons (k' := 73) rfl (zk_callv X (zz_Cv_of (List.forall_mem_cons.mpr ⟨⟨(RX_10, zzT10, 50), yX12_isFull, cX12_isFull, 1, (some .boolean), 0, 0, rfl, kv_X12_157_10.1, (mm_X12_isFull Wd).1, by decide, by decide⟩, (fun _ h => absurd h List.not_mem_nil)⟩)) dX12_makes_72 rfl) ?_
  refine zz_cons (k' := 74) rfl (zz_Ok_none _ _) ?_
  refine zz_cons (k' := 75) rfl (zz_Ok_none _ _) ?_
  refine zz_cons (k' := 76) rfl (zk_if_ne X dX12_makes_75 (by decide) rfl) ?_
  refine zz_cons (k' := 77) rfl (zz_Ok_none _ _) ?_
  refine zz_cons (k' := 78) rfl (zz_Ok_none _ _) ?_
  refine zz_cons (k' := 79) rfl (zk_iload_n X dX12_makes_78 rfl rfl) ?_
  refine zz_cons (k' := 80) rfl (zk_iconst X dX12_makes_79 (by decide) rfl) ?_
  refine zz_cons (k' := 81) rfl (zk_icmp_ne X dX12_makes_80 (by decide) rfl) ?_
  refine zz_cons (k' := 82) rfl (zz_Ok_none _ _) ?_
  refine zz_cons (k' := 83) rfl (zz_Ok_none _ _) ?_
  refine zz_cons (k' := 84) rfl (zk_aload_n X dX12_makes_83 rfl rfl) ?_
  refine zz_cons (k' := 85) rfl (zk_iconst X dX12_makes_84 (by decide) rfl) ?_
  refine zz_cons (k' := 86) rfl (zk_callv X (zz_Cv_of (List.forall_mem_cons.mpr ⟨⟨(RX_10, zzT10, 50), yX12_living, cX12_living, 4, (some .int), 1, 23, rfl, kv_X12_179_10.1, (mm_X12_living Wd).1, by decide, by decide⟩, (fun _ h => absurd h List.not_mem_nil)⟩)) dX12_makes_85 rfl) ?_
  refine zz_cons (k' := 87) rfl (zz_Ok_none _ _) ?_
  refine zz_cons (k' := 88) rfl (zz_Ok_none _ _) ?_
  refine zz_cons (k' := 89) rfl (zk_aload_n X dX12_makes_88 rfl rfl) ?_
  refine zz_cons (k' := 90) rfl (zk_getf X ff_X12_86 dX12_makes_89 rfl) ?_
  refine zz_cons (k' := 91) rfl (zz_Ok_none _ _) ?_
  refine zz_cons (k' := 92) rfl (zz_Ok_none _ _) ?_
  refine zz_cons (k' := 93) rfl (zk_icmp_lt X dX12_makes_92 (by decide) rfl) ?_
  refine zz_cons (k' := 94) rfl (zz_Ok_none _ _) ?_
  refine zz_cons (k' := 95) rfl (zz_Ok_none _ _) ?_
  refine zz_cons (k' := 96) rfl (zk_iconst X dX12_makes_95 (by decide) rfl) ?_
  refine zz_cons (k' := 97) rfl (zk_goto X dX12_makes_96 (by decide)) ?_
  refine zz_cons (k' := 98) rfl (zz_Ok_none _ _) ?_
  refine zz_cons (k' := 99) rfl (zz_Ok_none _ _) ?_
  refine zz_cons (k' := 100) rfl (zk_iconst X dX12_makes_99 (by decide) rfl) ?_
  refine zz_cons (k' := 101) rfl (zk_istore X dX12_makes_100 (by decide) rfl) ?_
  refine zz_cons (k' := 102) rfl (zz_Ok_none _ _) ?_
  refine zz_cons (k' := 103) rfl (zk_iload X dX12_makes_102 rfl) ?_
  refine zz_cons (k' := 104) rfl (zz_Ok_none _ _) ?_
  refine zz_cons (k' := 105) rfl (zk_if_eq X dX12_makes_104 (by decide) rfl) ?_
  refine zz_cons (k' := 106) rfl (zz_Ok_none _ _) ?_
  refine zz_cons (k' := 107) rfl (zz_Ok_none _ _) ?_
  refine zz_cons (k' := 108) rfl (zk_iconst X dX12_makes_107 (by decide) rfl) ?_
  refine zz_cons (k' := 109) rfl (zk_iret X rfl dX12_makes_108) ?_
  refine zz_cons (k' := 110) rfl (zk_aload_n X dX12_makes_109 rfl rfl) ?_
  refine zz_cons (k' := 111) rfl (zk_getf X ff_X12_25 dX12_makes_110 rfl) ?_
  refine zz_cons (k' := 112) rfl (zz_Ok_none _ _) ?_
  refine zz_cons (k' := 113) rfl (zz_Ok_none _ _) ?_
  refine zz_cons (k' := 114) rfl (zk_aload_n X dX12_makes_113 rfl rfl) ?_
  refine zz_cons (k' := 115) rfl (zk_getf X ff_X12_137 dX12_makes_114 rfl) ?_
  refine zz_cons (k' := 116) rfl (zz_Ok_none _ _) ?_
  refine zz_cons (k' := 117) rfl (zz_Ok_none _ _) ?_
  refine zz_cons (k' := 118) rfl (zk_iload_n X dX12_makes_117 rfl rfl) ?_
  refine zz_cons (k' := 119) rfl (zk_iast X dX12_makes_118 rfl) ?_
  refine zz_cons (k' := 120) rfl (zk_aload_n X dX12_makes_119 rfl rfl) ?_
  refine zz_cons (k' := 121) rfl (zk_getf X ff_X12_41 dX12_makes_120 rfl) ?_
  refine zz_cons (k' := 122) rfl (zz_Ok_none _ _) ?_
  refine zz_cons (k' := 123) rfl (zz_Ok_none _ _) ?_
  refine zz_cons (k' := 124) rfl (zk_aload_n X dX12_makes_123 rfl rfl) ?_
  refine zz_cons (k' := 125) rfl (zk_getf X ff_X12_137 dX12_makes_124 rfl) ?_
  refine zz_cons (k' := 126) rfl (zz_Ok_none _ _) ?_
  refine zz_cons (k' := 127) rfl (zz_Ok_none _ _) ?_
  refine zz_cons (k' := 128) rfl (zk_aload_n X dX12_makes_127 rfl rfl) ?_
  refine zz_cons (k' := 129) rfl (zk_getf X ff_X12_182 dX12_makes_128 rfl) ?_
  refine zz_cons (k' := 130) rfl (zz_Ok_none _ _) ?_
  refine zz_cons (k' := 131) rfl (zz_Ok_none _ _) ?_
  refine zz_cons (k' := 132) rfl (zk_iast X dX12_makes_131 rfl) ?_
  refine zz_cons (k' := 133) rfl (zk_iconst X dX12_makes_132 (by decide) rfl) ?_
  refine zz_cons (k' := 134) rfl (zk_istore X dX12_makes_133 (by decide) rfl) ?_
  refine zz_cons (k' := 135) rfl (zz_Ok_none _ _) ?_
  refine zz_cons (k' := 136) rfl (zk_iload X dX12_makes_135 rfl) ?_
  refine zz_cons (k' := 137) rfl (zz_Ok_none _ _) ?_
  refine zz_cons (k' := 138) rfl (zk_bipush X dX12_makes_137 (by decide) rfl) ?_
  refine zz_cons (k' := 139) rfl (zz_Ok_none _ _) ?_
  refine zz_cons (k' := 140) rfl (zk_icmp_ge X dX12_makes_139 (by decide) rfl) ?_
  refine zz_cons (k' := 141) rfl (zz_Ok_none _ _) ?_
  refine zz_cons (k' := 142) rfl (zz_Ok_none _ _) ?_
  refine zz_cons (k' := 143) rfl (zk_aload_n X dX12_makes_142 rfl rfl) ?_
  refine zz_cons (k' := 144) rfl (zk_getf X ff_X12_38 dX12_makes_143 rfl) ?_
  refine zz_cons (k' := 145) rfl (zz_Ok_none _ _) ?_
  refine zz_cons (k' := 146) rfl (zz_Ok_none _ _) ?_
  refine zz_cons (k' := 147) rfl (zk_bipush X dX12_makes_146 (by decide) rfl) ?_
  refine zz_cons (k' := 148) rfl (zz_Ok_none _ _) ?_
  refine zz_cons (k' := 149) rfl (zk_aload_n X dX12_makes_148 rfl rfl) ?_
  refine zz_cons (k' := 150) rfl (zk_getf X ff_X12_137 dX12_makes_149 rfl) ?_
  refine zz_cons (k' := 151) rfl (zz_Ok_none _ _) ?_
  refine zz_cons (k' := 152) rfl (zz_Ok_none _ _) ?_
  refine zz_cons (k' := 153) rfl (zk_imul X dX12_makes_152 rfl) ?_
  refine zz_cons (k' := 154) rfl (zk_iload X dX12_makes_153 rfl) ?_
  refine zz_cons (k' := 155) rfl (zz_Ok_none _ _) ?_
  refine zz_cons (k' := 156) rfl (zk_iadd X dX12_makes_155 rfl) ?_
  refine zz_cons (k' := 157) rfl (zk_iload_n X dX12_makes_156 rfl rfl) ?_
  refine zz_cons (k' := 158) rfl (zk_iast X dX12_makes_157 rfl) ?_
  refine zz_cons (k' := 159) rfl (zk_iinc X dX12_makes_158 (by decide) (by decide) rfl) ?_
  refine zz_cons (k' := 160) rfl (zz_Ok_none _ _) ?_
  refine zz_cons (k' := 161) rfl (zz_Ok_none _ _) ?_
  refine zz_cons (k' := 162) rfl (zk_goto X dX12_makes_161 (by decide)) ?_
  refine zz_cons (k' := 163) rfl (zz_Ok_none _ _) ?_
  refine zz_cons (k' := 164) rfl (zz_Ok_none _ _) ?_
  refine zz_cons (k' := 165) rfl (zk_aload_n X dX12_makes_164 rfl rfl) ?_
  refine zz_cons (k' := 166) rfl (zk_dup X dX12_makes_165 rfl) ?_
  refine zz_cons (k' := 167) rfl (zk_getf X ff_X12_137 dX12_makes_166 rfl) ?_
  refine zz_cons (k' := 168) rfl (zz_Ok_none _ _) ?_
  refine zz_cons (k' := 169) rfl (zz_Ok_none _ _) ?_
  refine zz_cons (k' := 170) rfl (zk_iconst X dX12_makes_169 (by decide) rfl) ?_
  refine zz_cons (k' := 171) rfl (zk_iadd X dX12_makes_170 rfl) ?_
  refine zz_cons (k' := 172) rfl (zk_putf X ff_X12_137 fp_10_5 dX12_makes_171 rfl) ?_
  refine zz_cons (k' := 173) rfl (zz_Ok_none _ _) ?_
  refine zz_cons (k' := 174) rfl (zz_Ok_none _ _) ?_
  refine zz_cons (k' := 175) rfl (zk_aload_n X dX12_makes_174 rfl rfl) ?_
  refine zz_cons (k' := 176) rfl (zk_aload_n X dX12_makes_175 rfl rfl) ?_
  refine zz_cons (k' := 177) rfl (zk_getf X ff_X12_137 dX12_makes_176 rfl) ?_
  refine zz_cons (k' := 178) rfl (zz_Ok_none _ _) ?_
  refine zz_cons (k' := 179) rfl (zz_Ok_none _ _) ?_
  refine zz_cons (k' := 180) rfl (zk_iconst X dX12_makes_179 (by decide) rfl) ?_
  refine zz_cons (k' := 181) rfl (zk_isub X dX12_makes_180 rfl) ?_
  refine zz_cons (k' := 182) rfl (zk_lload X dX12_makes_181 rfl) ?_
  refine zz_cons (k' := 183) rfl (zz_Ok_none _ _) ?_
  refine zz_cons (k' := 184) rfl (zk_lconst X dX12_makes_183 (by decide) rfl) ?_
  refine zz_cons (k' := 185) rfl (zk_callv X (zz_Cv_of (List.forall_mem_cons.mpr ⟨⟨(RX_10, zzT10, 50), yX12_logs, cX12_logs, 6, none, 0, 0, rfl, kv_X12_161_10.1, (mm_X12_logs Wd).1, by decide, by decide⟩, (fun _ h => absurd h List.not_mem_nil)⟩)) dX12_makes_184 rfl) ?_
  refine zz_cons (k' := 186) rfl (zz_Ok_none _ _) ?_
  refine zz_cons (k' := 187) rfl (zz_Ok_none _ _) ?_
  refine zz_cons (k' := 188) rfl (zk_aload_n X dX12_makes_187 rfl rfl) ?_
  refine zz_cons (k' := 189) rfl (zk_getf X ff_X12_137 dX12_makes_188 rfl) ?_
  refine zz_cons (k' := 190) rfl (zz_Ok_none _ _) ?_
  refine zz_cons (k' := 191) rfl (zz_Ok_none _ _) ?_
  refine zz_cons (k' := 192) rfl (zk_iconst X dX12_makes_191 (by decide) rfl) ?_
  refine zz_cons (k' := 193) rfl (zk_isub X dX12_makes_192 rfl) ?_
  refine zz_cons (k' := 194) rfl (zk_iret X rfl dX12_makes_193) ?_
  exact trivial
noncomputable def tX12_applies : List zzOp := [
  zo_aload 0 1,
  zo_aload 0 2,
  zo_getf zzSR (zz_kf [10] 6) 5,
  zo_none,
  zo_none,
  zo_iload 2 6,
  zo_iald zzSR zzSTR 7,
  zo_aload 0 8,
  zo_aload 0 9,
  zo_getf zzSR (zz_kf [10] 7) 12,
  zo_none,
  zo_none,
  zo_iload 2 13,
  zo_lald zzSR 14,
  zo_iload 3 15,
  zo_iload 4 17,
  zo_none,
  zo_callv zzSR (zz_cl [(10, fX12_with)]) 3 20,
  zo_none,
  zo_none,
  zo_callv zzSR (zz_cl [(10, fX12_admitted)]) 2 23,
  zo_none,
  zo_none,
  zo_lstore 5 25,
  zo_none,
  zo_aload 0 26,
  zo_getf zzSR (zz_kf [10] 10) 29,
  zo_none,
  zo_none,
  zo_pushI 11 31,
  zo_none,
  zo_iload 2 32,
  zo_ii (fun x y => x * y) 33,
  zo_iload 3 34,
  zo_ii (fun x y => x + y) 35,
  zo_iald zzSR zzSTR 36,
  zo_iload 1 37,
  zo_icmp (fun x y => decide (x = y)) 44 40,
  zo_none,
  zo_none,
  zo_pushI 1 41,
  zo_goto 45,
  zo_none,
  zo_none,
  zo_pushI 0 45,
  zo_istore 7 47,
  zo_none,
  zo_aload 0 48,
  zo_getf zzSR (zz_kf [10] 31) 51,
  zo_none,
  zo_none,
  zo_if (fun x => decide (¬ x = 0)) 72 54,
  zo_none,
  zo_none,
  zo_aload 0 55,
  zo_iload 2 56,
  zo_lload 5 58,
  zo_none,
  zo_aload 0 59,
  zo_getf zzSR (zz_kf [10] 8) 62,
  zo_none,
  zo_none,
  zo_iload 2 63,
  zo_lald zzSR 64,
  zo_iload 7 66,
  zo_none,
  zo_callv zzSR (zz_cl [(10, fX12_puts)]) 4 69,
  zo_none,
  zo_none,
  zo_if (fun x => decide (¬ x = 0)) 74 72,
  zo_none,
  zo_none,
  zo_pushI 0 73,
  zo_iret true,
  zo_aload 0 75,
  zo_getf zzSR (zz_kf [10] 10) 78,
  zo_none,
  zo_none,
  zo_pushI 11 80,
  zo_none,
  zo_iload 2 81,
  zo_ii (fun x y => x * y) 82,
  zo_iload 3 83,
  zo_ii (fun x y => x + y) 84,
  zo_iload 1 85,
  zo_iast zzSR 86,
  zo_pushI 1 87,
  zo_iret true]
set_option maxRecDepth 100000 in
theorem tl_X12_applies : ∀ pc, zz_Tl (tX12_applies.getD pc zo_none) := by
  refine zz_Tl_mem ?_
  unfold tX12_applies
  refine List.forall_mem_cons.mpr ⟨(zo_aload_tl _ _), ?_⟩
  refine List.forall_mem_cons.mpr ⟨(zo_aload_tl _ _), ?_⟩
  refine List.forall_mem_cons.mpr ⟨(zo_getf_tl _ _ _), ?_⟩
  refine List.forall_mem_cons.mpr ⟨zo_none_tl, ?_⟩
  refine List.forall_mem_cons.mpr ⟨zo_none_tl, ?_⟩
  refine List.forall_mem_cons.mpr ⟨(zo_iload_tl _ _), ?_⟩
  refine List.forall_mem_cons.mpr ⟨(zo_iald_tl _ _ _), ?_⟩
  refine List.forall_mem_cons.mpr ⟨(zo_aload_tl _ _), ?_⟩
  refine List.forall_mem_cons.mpr ⟨(zo_aload_tl _ _), ?_⟩
  refine List.forall_mem_cons.mpr ⟨(zo_getf_tl _ _ _), ?_⟩
  refine List.forall_mem_cons.mpr ⟨zo_none_tl, ?_⟩
  refine List.forall_mem_cons.mpr ⟨zo_none_tl, ?_⟩
  refine List.forall_mem_cons.mpr ⟨(zo_iload_tl _ _), ?_⟩
  refine List.forall_mem_cons.mpr ⟨(zo_lald_tl _ _), ?_⟩
  refine List.forall_mem_cons.mpr ⟨(zo_iload_tl _ _), ?_⟩
  refine List.forall_mem_cons.mpr ⟨(zo_iload_tl _ _), ?_⟩
  refine List.forall_mem_cons.mpr ⟨zo_none_tl, ?_⟩
  refine List.forall_mem_cons.mpr ⟨(zo_callv_tl _ _ _ _), ?_⟩
  refine List.forall_mem_cons.mpr ⟨zo_none_tl, ?_⟩
  refine List.forall_mem_cons.mpr ⟨zo_none_tl, ?_⟩
  refine List.forall_mem_cons.mpr ⟨(zo_callv_tl _ _ _ _), ?_⟩
  refine List.forall_mem_cons.mpr ⟨zo_none_tl, ?_⟩
  refine List.forall_mem_cons.mpr ⟨zo_none_tl, ?_⟩
  refine List.forall_mem_cons.mpr ⟨(zo_lstore_tl _ _), ?_⟩
  refine List.forall_mem_cons.mpr ⟨zo_none_tl, ?_⟩
  refine List.forall_mem_cons.mpr ⟨(zo_aload_tl _ _), ?_⟩
  refine List.forall_mem_cons.mpr ⟨(zo_getf_tl _ _ _), ?_⟩
  refine List.forall_mem_cons.mpr ⟨zo_none_tl, ?_⟩
  refine List.forall_mem_cons.mpr ⟨zo_none_tl, ?_⟩
  refine List.forall_mem_cons.mpr ⟨(zo_pushI_tl _ _), ?_⟩
  refine List.forall_mem_cons.mpr ⟨zo_none_tl, ?_⟩
  refine List.forall_mem_cons.mpr ⟨(zo_iload_tl _ _), ?_⟩
  refine List.forall_mem_cons.mpr ⟨(zo_ii_tl _ _), ?_⟩
  refine List.forall_mem_cons.mpr ⟨(zo_iload_tl _ _), ?_⟩
  refine List.forall_mem_cons.mpr ⟨(zo_ii_tl _ _), ?_⟩
  refine List.forall_mem_cons.mpr ⟨(zo_iald_tl _ _ _), ?_⟩
  refine List.forall_mem_cons.mpr ⟨(zo_iload_tl _ _), ?_⟩
  refine List.forall_mem_cons.mpr ⟨(zo_icmp_tl _ _ _), ?_⟩
  refine List.forall_mem_cons.mpr ⟨zo_none_tl, ?_⟩
  refine List.forall_mem_cons.mpr ⟨zo_none_tl, ?_⟩
  refine List.forall_mem_cons.mpr ⟨(zo_pushI_tl _ _), ?_⟩
  refine List.forall_mem_cons.mpr ⟨(zo_goto_tl _), ?_⟩
  refine List.forall_mem_cons.mpr ⟨zo_none_tl, ?_⟩
  refine List.forall_mem_cons.mpr ⟨zo_none_tl, ?_⟩
  refine List.forall_mem_cons.mpr ⟨(zo_pushI_tl _ _), ?_⟩
  refine List.forall_mem_cons.mpr ⟨(zo_istore_tl _ _), ?_⟩
  refine List.forall_mem_cons.mpr ⟨zo_none_tl, ?_⟩
  refine List.forall_mem_cons.mpr ⟨(zo_aload_tl _ _), ?_⟩
  refine List.forall_mem_cons.mpr ⟨(zo_getf_tl _ _ _), ?_⟩
  refine List.forall_mem_cons.mpr ⟨zo_none_tl, ?_⟩
  refine List.forall_mem_cons.mpr ⟨zo_none_tl, ?_⟩
  refine List.forall_mem_cons.mpr ⟨(zo_if_tl _ _ _), ?_⟩
  refine List.forall_mem_cons.mpr ⟨zo_none_tl, ?_⟩
  refine List.forall_mem_cons.mpr ⟨zo_none_tl, ?_⟩
  refine List.forall_mem_cons.mpr ⟨(zo_aload_tl _ _), ?_⟩
  refine List.forall_mem_cons.mpr ⟨(zo_iload_tl _ _), ?_⟩
  refine List.forall_mem_cons.mpr ⟨(zo_lload_tl _ _), ?_⟩
  refine List.forall_mem_cons.mpr ⟨zo_none_tl, ?_⟩
  refine List.forall_mem_cons.mpr ⟨(zo_aload_tl _ _), ?_⟩
  refine List.forall_mem_cons.mpr ⟨(zo_getf_tl _ _ _), ?_⟩
  refine List.forall_mem_cons.mpr ⟨zo_none_tl, ?_⟩
  refine List.forall_mem_cons.mpr ⟨zo_none_tl, ?_⟩
  refine List.forall_mem_cons.mpr ⟨(zo_iload_tl _ _), ?_⟩
  refine List.forall_mem_cons.mpr ⟨(zo_lald_tl _ _), ?_⟩
  refine List.forall_mem_cons.mpr ⟨(zo_iload_tl _ _), ?_⟩
  refine List.forall_mem_cons.mpr ⟨zo_none_tl, ?_⟩
  refine List.forall_mem_cons.mpr ⟨(zo_callv_tl _ _ _ _), ?_⟩
  refine List.forall_mem_cons.mpr ⟨zo_none_tl, ?_⟩
  refine List.forall_mem_cons.mpr ⟨zo_none_tl, ?_⟩
  refine List.forall_mem_cons.mpr ⟨(zo_if_tl _ _ _), ?_⟩
  refine List.forall_mem_cons.mpr ⟨zo_none_tl, ?_⟩
  refine List.forall_mem_cons.mpr ⟨zo_none_tl, ?_⟩
  refine List.forall_mem_cons.mpr ⟨(zo_pushI_tl _ _), ?_⟩
  refine List.forall_mem_cons.mpr ⟨(zo_iret_tl _), ?_⟩
  refine List.forall_mem_cons.mpr ⟨(zo_aload_tl _ _), ?_⟩
  refine List.forall_mem_cons.mpr ⟨(zo_getf_tl _ _ _), ?_⟩
  refine List.forall_mem_cons.mpr ⟨zo_none_tl, ?_⟩
  refine List.forall_mem_cons.mpr ⟨zo_none_tl, ?_⟩
  refine List.forall_mem_cons.mpr ⟨(zo_pushI_tl _ _), ?_⟩
  refine List.forall_mem_cons.mpr ⟨zo_none_tl, ?_⟩
  refine List.forall_mem_cons.mpr ⟨(zo_iload_tl _ _), ?_⟩
  refine List.forall_mem_cons.mpr ⟨(zo_ii_tl _ _), ?_⟩
  refine List.forall_mem_cons.mpr ⟨(zo_iload_tl _ _), ?_⟩
  refine List.forall_mem_cons.mpr ⟨(zo_ii_tl _ _), ?_⟩
  refine List.forall_mem_cons.mpr ⟨(zo_iload_tl _ _), ?_⟩
  refine List.forall_mem_cons.mpr ⟨(zo_iast_tl _ _), ?_⟩
  refine List.forall_mem_cons.mpr ⟨(zo_pushI_tl _ _), ?_⟩
  refine List.forall_mem_cons.mpr ⟨(zo_iret_tl _), ?_⟩
  exact fun _ h => absurd h List.not_mem_nil
noncomputable def fX12_applies : zzFn := zz_fn tX12_applies 8
set_option maxRecDepth 100000 in
set_option maxHeartbeats 4000000 in
theorem mm_X12_applies {l : Launch} {D : va_G} {cA : Nat → ClassId} {ad : Nat → Nat} {Ex : (Nat → Prop) → State → Heap → Prop} (Wd : zzWR l D cA ad Ex) : zz_Cn l D zzCl cA ad zzSR Ex yX12_applies cX12_applies 8 (some .boolean) 2 57 fX12_applies ∧ zz_Cx l D zzCl cA ad zzSR Ex yX12_applies cX12_applies 8 (some .boolean) 2 57 fX12_applies := by
  refine zz_meth (plainFor_of_name (by decide)) Wd.1 Wd.2.1 Wd.2.2 (fun p e R s m args below meth c rr X => ?_)
  unfold tX12_applies
  refine zz_cons (k' := 1) rfl (zk_aload_n X dX12_applies_0 rfl rfl) ?_
  refine zz_cons (k' := 2) rfl (zk_aload_n X dX12_applies_1 rfl rfl) ?_
  refine zz_cons (k' := 3) rfl (zk_getf X ff_X12_25 dX12_applies_2 rfl) ?_
  refine zz_cons (k' := 4) rfl (zz_Ok_none _ _) ?_
  refine zz_cons (k' := 5) rfl (zz_Ok_none _ _) ?_
  refine zz_cons (k' := 6) rfl (zk_iload_n X dX12_applies_5 rfl rfl) ?_
  refine zz_cons (k' := 7) rfl (zk_iald X (zzWR_st Wd) dX12_applies_6 rfl) ?_
  refine zz_cons (k' := 8) rfl (zk_aload_n X dX12_applies_7 rfl rfl) ?_
  refine zz_cons (k' := 9) rfl (zk_aload_n X dX12_applies_8 rfl rfl) ?_
  refine zz_cons (k' := 10) rfl (zk_getf X ff_X12_28 dX12_applies_9 rfl) ?_
  refine zz_cons (k' := 11) rfl (zz_Ok_none _ _) ?_
  refine zz_cons (k' := 12) rfl (zz_Ok_none _ _) ?_
  refine zz_cons (k' := 13) rfl (zk_iload_n X dX12_applies_12 rfl rfl) ?_
  refine zz_cons (k' := 14) rfl (zk_lald X dX12_applies_13 rfl) ?_
  refine zz_cons (k' := 15) rfl (zk_iload_n X dX12_applies_14 rfl rfl) ?_
  refine zz_cons (k' := 16) rfl (zk_iload X dX12_applies_15 rfl) ?_
  refine zz_cons (k' := 17) rfl (zz_Ok_none _ _) ?_
  refine zz_cons (k' := 18) rfl (zk_callv X (zz_Cv_of (List.forall_mem_cons.mpr ⟨⟨(RX_10, zzT10, 50), yX12_with, cX12_with, 7, (some .long), 0, 0, rfl, kv_X12_150_10.1, (mm_X12_with Wd).1, by decide, by decide⟩, (fun _ h => absurd h List.not_mem_nil)⟩)) dX12_applies_17 rfl) ?_
  refine zz_cons (k' := 19) rfl (zz_Ok_none _ _) ?_
  refine zz_cons (k' := 20) rfl (zz_Ok_none _ _) ?_
  refine zz_cons (k' := 21) rfl (zk_callv X (zz_Cv_of (List.forall_mem_cons.mpr ⟨⟨(RX_10, zzT10, 50), yX12_admitted, cX12_admitted, 12, (some .long), 1, 26, rfl, kv_X12_175_10.1, (mm_X12_admitted Wd).1, by decide, by decide⟩, (fun _ h => absurd h List.not_mem_nil)⟩)) dX12_applies_20 rfl) ?_
  refine zz_cons (k' := 22) rfl (zz_Ok_none _ _) ?_
  refine zz_cons (k' := 23) rfl (zz_Ok_none _ _) ?_
  refine zz_cons (k' := 24) rfl (zk_lstore X dX12_applies_23 (by decide) rfl) ?_
  refine zz_cons (k' := 25) rfl (zz_Ok_none _ _) ?_
  refine zz_cons (k' := 26) rfl (zk_aload_n X dX12_applies_25 rfl rfl) ?_
  refine zz_cons (k' := 27) rfl (zk_getf X ff_X12_38 dX12_applies_26 rfl) ?_
  refine zz_cons (k' := 28) rfl (zz_Ok_none _ _) ?_
  refine zz_cons (k' := 29) rfl (zz_Ok_none _ _) ?_
  refine zz_cons (k' := 30) rfl (zk_bipush X dX12_applies_29 (by decide) rfl) ?_
  refine zz_cons (k' := 31) rfl (zz_Ok_none _ _) ?_
  refine zz_cons (k' := 32) rfl (zk_iload_n X dX12_applies_31 rfl rfl) ?_
  refine zz_cons (k' := 33) rfl (zk_imul X dX12_applies_32 rfl) ?_
  refine zz_cons (k' := 34) rfl (zk_iload_n X dX12_applies_33 rfl rfl) ?_
  refine zz_cons (k' := 35) rfl (zk_iadd X dX12_applies_34 rfl) ?_
  refine zz_cons (k' := 36) rfl (zk_iald X (zzWR_st Wd) dX12_applies_35 rfl) ?_
  refine zz_cons (k' := 37) rfl (zk_iload_n X dX12_applies_36 rfl rfl) ?_
  refine zz_cons (k' := 38) rfl (zk_icmp_eq X dX12_applies_37 (by decide) rfl) ?_
  refine zz_cons (k' := 39) rfl (zz_Ok_none _ _) ?_
  refine zz_cons (k' := 40) rfl (zz_Ok_none _ _) ?_
  refine zz_cons (k' := 41) rfl (zk_iconst X dX12_applies_40 (by decide) rfl) ?_
  refine zz_cons (k' := 42) rfl (zk_goto X dX12_applies_41 (by decide)) ?_
  refine zz_cons (k' := 43) rfl (zz_Ok_none _ _) ?_
  refine zz_cons (k' := 44) rfl (zz_Ok_none _ _) ?_
  refine zz_cons (k' := 45) rfl (zk_iconst X dX12_applies_44 (by decide) rfl) ?_
  refine zz_cons (k' := 46) rfl (zk_istore X dX12_applies_45 (by decide) rfl) ?_
  refine zz_cons (k' := 47) rfl (zz_Ok_none _ _) ?_
  refine zz_cons (k' := 48) rfl (zk_aload_n X dX12_applies_47 rfl rfl) ?_
  refine zz_cons (k' := 49) rfl (zk_getf X ff_X12_168 dX12_applies_48 rfl) ?_
  refine zz_cons (k' := 50) rfl (zz_Ok_none _ _) ?_
  refine zz_cons (k' := 51) rfl (zz_Ok_none _ _) ?_
  refine zz_cons (k' := 52) rfl (zk_if_ne X dX12_applies_51 (by decide) rfl) ?_
  refine zz_cons (k' := 53) rfl (zz_Ok_none _ _) ?_
  refine zz_cons (k' := 54) rfl (zz_Ok_none _ _) ?_
  refine zz_cons (k' := 55) rfl (zk_aload_n X dX12_applies_54 rfl rfl) ?_
  refine zz_cons (k' := 56) rfl (zk_iload_n X dX12_applies_55 rfl rfl) ?_
  refine zz_cons (k' := 57) rfl (zk_lload X dX12_applies_56 rfl) ?_
  refine zz_cons (k' := 58) rfl (zz_Ok_none _ _) ?_
  refine zz_cons (k' := 59) rfl (zk_aload_n X dX12_applies_58 rfl rfl) ?_
  refine zz_cons (k' := 60) rfl (zk_getf X ff_X12_32 dX12_applies_59 rfl) ?_
  refine zz_cons (k' := 61) rfl (zz_Ok_none _ _) ?_
  refine zz_cons (k' := 62) rfl (zz_Ok_none _ _) ?_
  refine zz_cons (k' := 63) rfl (zk_iload_n X dX12_applies_62 rfl rfl) ?_
  refine zz_cons (k' := 64) rfl (zk_lald X dX12_applies_63 rfl) ?_
  refine zz_cons (k' := 65) rfl (zk_iload X dX12_applies_64 rfl) ?_
  refine zz_cons (k' := 66) rfl (zz_Ok_none _ _) ?_
  refine zz_cons (k' := 67) rfl (zk_callv X (zz_Cv_of (List.forall_mem_cons.mpr ⟨⟨(RX_10, zzT10, 50), yX12_puts, cX12_puts, 8, (some .boolean), 1, 25, rfl, kv_X12_185_10.1, (mm_X12_puts Wd).1, by decide, by decide⟩, (fun _ h => absurd h List.not_mem_nil)⟩)) dX12_applies_66 rfl) ?_
  refine zz_cons (k' := 68) rfl (zz_Ok_none _ _) ?_
  refine zz_cons (k' := 69) rfl (zz_Ok_none _ _) ?_
  refine zz_cons (k' := 70) rfl (zk_if_ne X dX12_applies_69 (by decide) rfl) ?_
  refine zz_cons (k' := 71) rfl (zz_Ok_none _ _) ?_
  refine zz_cons (k' := 72) rfl (zz_Ok_none _ _) ?_
  refine zz_cons (k' := 73) rfl (zk_iconst X dX12_applies_72 (by decide) rfl) ?_
  refine zz_cons (k' := 74) rfl (zk_iret X rfl dX12_applies_73) ?_
  refine zz_cons (k' := 75) rfl (zk_aload_n X dX12_applies_74 rfl rfl) ?_
  refine zz_cons (k' := 76) rfl (zk_getf X ff_X12_38 dX12_applies_75 rfl) ?_
  refine zz_cons (k' := 77) rfl (zz_Ok_none _ _) ?_
  refine zz_cons (k' := 78) rfl (zz_Ok_none _ _) ?_
  refine zz_cons (k' := 79) rfl (zk_bipush X dX12_applies_78 (by decide) rfl) ?_
  refine zz_cons (k' := 80) rfl (zz_Ok_none _ _) ?_
  refine zz_cons (k' := 81) rfl (zk_iload_n X dX12_applies_80 rfl rfl) ?_
  refine zz_cons (k' := 82) rfl (zk_imul X dX12_applies_81 rfl) ?_
  refine zz_cons (k' := 83) rfl (zk_iload_n X dX12_applies_82 rfl rfl) ?_
  refine zz_cons (k' := 84) rfl (zk_iadd X dX12_applies_83 rfl) ?_
  refine zz_cons (k' := 85) rfl (zk_iload_n X dX12_applies_84 rfl rfl) ?_
  refine zz_cons (k' := 86) rfl (zk_iast X dX12_applies_85 rfl) ?_
  refine zz_cons (k' := 87) rfl (zk_iconst X dX12_applies_86 (by decide) rfl) ?_
  refine zz_cons (k' := 88) rfl (zk_iret X rfl dX12_applies_87) ?_
  exact trivial
noncomputable def tX12_deleted : List zzOp := [
  zo_iload 4 2,
  zo_none,
  zo_pushI 2 3,
  zo_icmp (fun x y => decide (¬ x = y)) 40 6,
  zo_none,
  zo_none,
  zo_aload 0 7,
  zo_lload 2 8,
  zo_pushI 12 10,
  zo_none,
  zo_callv zzSR (zz_cl [(10, fX12_get)]) 2 13,
  zo_none,
  zo_none,
  zo_if (fun x => decide (¬ x = 0)) 40 16,
  zo_none,
  zo_none,
  zo_aload 0 17,
  zo_getf zzSR (zz_kf [10] 6) 20,
  zo_none,
  zo_none,
  zo_iload 1 21,
  zo_iald zzSR zzSTR 22,
  zo_pushI 2 23,
  zo_icmp (fun x y => decide (¬ x = y)) 36 26,
  zo_none,
  zo_none,
  zo_aload 0 27,
  zo_lload 2 28,
  zo_pushI 15 30,
  zo_none,
  zo_callv zzSR (zz_cl [(10, fX12_get)]) 2 33,
  zo_none,
  zo_none,
  zo_if (fun x => decide (¬ x = 0)) 40 36,
  zo_none,
  zo_none,
  zo_pushI 1 37,
  zo_goto 41,
  zo_none,
  zo_none,
  zo_pushI 0 41,
  zo_istore 5 43,
  zo_none,
  zo_iload 5 45,
  zo_none,
  zo_if (fun x => decide (x = 0)) 56 48,
  zo_none,
  zo_none,
  zo_aload 0 49,
  zo_lload 2 50,
  zo_callv zzSR (zz_cl [(10, fX12_gone)]) 1 53,
  zo_none,
  zo_none,
  zo_goto 65,
  zo_none,
  zo_none,
  zo_aload 0 57,
  zo_lload 2 58,
  zo_pushI 13 60,
  zo_none,
  zo_iload 4 62,
  zo_none,
  zo_callv zzSR (zz_cl [(10, fX12_with)]) 3 65,
  zo_none,
  zo_none,
  zo_lret]
set_option maxRecDepth 100000 in
theorem tl_X12_deleted : ∀ pc, zz_Tl (tX12_deleted.getD pc zo_none) := by
  refine zz_Tl_mem ?_
  unfold tX12_deleted
  refine List.forall_mem_cons.mpr ⟨(zo_iload_tl _ _), ?_⟩
  refine List.forall_mem_cons.mpr ⟨zo_none_tl, ?_⟩
  refine List.forall_mem_cons.mpr ⟨(zo_pushI_tl _ _), ?_⟩
  refine List.forall_mem_cons.mpr ⟨(zo_icmp_tl _ _ _), ?_⟩
  refine List.forall_mem_cons.mpr ⟨zo_none_tl, ?_⟩
  refine List.forall_mem_cons.mpr ⟨zo_none_tl, ?_⟩
  refine List.forall_mem_cons.mpr ⟨(zo_aload_tl _ _), ?_⟩
  refine List.forall_mem_cons.mpr ⟨(zo_lload_tl _ _), ?_⟩
  refine List.forall_mem_cons.mpr ⟨(zo_pushI_tl _ _), ?_⟩
  refine List.forall_mem_cons.mpr ⟨zo_none_tl, ?_⟩
  refine List.forall_mem_cons.mpr ⟨(zo_callv_tl _ _ _ _), ?_⟩
  refine List.forall_mem_cons.mpr ⟨zo_none_tl, ?_⟩
  refine List.forall_mem_cons.mpr ⟨zo_none_tl, ?_⟩
  refine List.forall_mem_cons.mpr ⟨(zo_if_tl _ _ _), ?_⟩
  refine List.forall_mem_cons.mpr ⟨zo_none_tl, ?_⟩
  refine List.forall_mem_cons.mpr ⟨zo_none_tl, ?_⟩
  refine List.forall_mem_cons.mpr ⟨(zo_aload_tl _ _), ?_⟩
  refine List.forall_mem_cons.mpr ⟨(zo_getf_tl _ _ _), ?_⟩
  refine List.forall_mem_cons.mpr ⟨zo_none_tl, ?_⟩
  refine List.forall_mem_cons.mpr ⟨zo_none_tl, ?_⟩
  refine List.forall_mem_cons.mpr ⟨(zo_iload_tl _ _), ?_⟩
  refine List.forall_mem_cons.mpr ⟨(zo_iald_tl _ _ _), ?_⟩
  refine List.forall_mem_cons.mpr ⟨(zo_pushI_tl _ _), ?_⟩
  refine List.forall_mem_cons.mpr ⟨(zo_icmp_tl _ _ _), ?_⟩
  refine List.forall_mem_cons.mpr ⟨zo_none_tl, ?_⟩
  refine List.forall_mem_cons.mpr ⟨zo_none_tl, ?_⟩
  refine List.forall_mem_cons.mpr ⟨(zo_aload_tl _ _), ?_⟩
  refine List.forall_mem_cons.mpr ⟨(zo_lload_tl _ _), ?_⟩
  refine List.forall_mem_cons.mpr ⟨(zo_pushI_tl _ _), ?_⟩
  refine List.forall_mem_cons.mpr ⟨zo_none_tl, ?_⟩
  refine List.forall_mem_cons.mpr ⟨(zo_callv_tl _ _ _ _), ?_⟩
  refine List.forall_mem_cons.mpr ⟨zo_none_tl, ?_⟩
  refine List.forall_mem_cons.mpr ⟨zo_none_tl, ?_⟩
  refine List.forall_mem_cons.mpr ⟨(zo_if_tl _ _ _), ?_⟩
  refine List.forall_mem_cons.mpr ⟨zo_none_tl, ?_⟩
  refine List.forall_mem_cons.mpr ⟨zo_none_tl, ?_⟩
  refine List.forall_mem_cons.mpr ⟨(zo_pushI_tl _ _), ?_⟩
  refine List.forall_mem_cons.mpr ⟨(zo_goto_tl _), ?_⟩
  refine List.forall_mem_cons.mpr ⟨zo_none_tl, ?_⟩
  refine List.forall_mem_cons.mpr ⟨zo_none_tl, ?_⟩
  refine List.forall_mem_cons.mpr ⟨(zo_pushI_tl _ _), ?_⟩
  refine List.forall_mem_cons.mpr ⟨(zo_istore_tl _ _), ?_⟩
  refine List.forall_mem_cons.mpr ⟨zo_none_tl, ?_⟩
  refine List.forall_mem_cons.mpr ⟨(zo_iload_tl _ _), ?_⟩
  refine List.forall_mem_cons.mpr ⟨zo_none_tl, ?_⟩
  refine List.forall_mem_cons.mpr ⟨(zo_if_tl _ _ _), ?_⟩
  refine List.forall_mem_cons.mpr ⟨zo_none_tl, ?_⟩
  refine List.forall_mem_cons.mpr ⟨zo_none_tl, ?_⟩
  refine List.forall_mem_cons.mpr ⟨(zo_aload_tl _ _), ?_⟩
  refine List.forall_mem_cons.mpr ⟨(zo_lload_tl _ _), ?_⟩
  refine List.forall_mem_cons.mpr ⟨(zo_callv_tl _ _ _ _), ?_⟩
  refine List.forall_mem_cons.mpr ⟨zo_none_tl, ?_⟩
  refine List.forall_mem_cons.mpr ⟨zo_none_tl, ?_⟩
  refine List.forall_mem_cons.mpr ⟨(zo_goto_tl _), ?_⟩
  refine List.forall_mem_cons.mpr ⟨zo_none_tl, ?_⟩
  refine List.forall_mem_cons.mpr ⟨zo_none_tl, ?_⟩
  refine List.forall_mem_cons.mpr ⟨(zo_aload_tl _ _), ?_⟩
  refine List.forall_mem_cons.mpr ⟨(zo_lload_tl _ _), ?_⟩
  refine List.forall_mem_cons.mpr ⟨(zo_pushI_tl _ _), ?_⟩
  refine List.forall_mem_cons.mpr ⟨zo_none_tl, ?_⟩
  refine List.forall_mem_cons.mpr ⟨(zo_iload_tl _ _), ?_⟩
  refine List.forall_mem_cons.mpr ⟨zo_none_tl, ?_⟩
  refine List.forall_mem_cons.mpr ⟨(zo_callv_tl _ _ _ _), ?_⟩
  refine List.forall_mem_cons.mpr ⟨zo_none_tl, ?_⟩
  refine List.forall_mem_cons.mpr ⟨zo_none_tl, ?_⟩
  refine List.forall_mem_cons.mpr ⟨(zo_lret_tl), ?_⟩
  exact fun _ h => absurd h List.not_mem_nil
noncomputable def fX12_deleted : zzFn := zz_fn tX12_deleted 6
set_option maxRecDepth 100000 in
set_option maxHeartbeats 4000000 in
theorem mm_X12_deleted {l : Launch} {D : va_G} {cA : Nat → ClassId} {ad : Nat → Nat} {Ex : (Nat → Prop) → State → Heap → Prop} (Wd : zzWR l D cA ad Ex) : zz_Cn l D zzCl cA ad zzSR Ex yX12_deleted cX12_deleted 6 (some .long) 2 48 fX12_deleted ∧ zz_Cx l D zzCl cA ad zzSR Ex yX12_deleted cX12_deleted 6 (some .long) 2 48 fX12_deleted := by
  refine zz_meth (plainFor_of_name (by decide)) Wd.1 Wd.2.1 Wd.2.2 (fun p e R s m args below meth c rr X => ?_)
  unfold tX12_deleted
  refine zz_cons (k' := 1) rfl (zk_iload X dX12_deleted_0 rfl) ?_
  refine zz_cons (k' := 2) rfl (zz_Ok_none _ _) ?_
  refine zz_cons (k' := 3) rfl (zk_iconst X dX12_deleted_2 (by decide) rfl) ?_
  refine zz_cons (k' := 4) rfl (zk_icmp_ne X dX12_deleted_3 (by decide) rfl) ?_
  refine zz_cons (k' := 5) rfl (zz_Ok_none _ _) ?_
  refine zz_cons (k' := 6) rfl (zz_Ok_none _ _) ?_
  refine zz_cons (k' := 7) rfl (zk_aload_n X dX12_deleted_6 rfl rfl) ?_
  refine zz_cons (k' := 8) rfl (zk_lload_n X dX12_deleted_7 rfl rfl) ?_
  refine zz_cons (k' := 9) rfl (zk_bipush X dX12_deleted_8 (by decide) rfl) ?_
  refine zz_cons (k' := 10) rfl (zz_Ok_none _ _) ?_
  refine zz_cons (k' := 11) rfl (zk_callv X (zz_Cv_of (List.forall_mem_cons.mpr ⟨⟨(RX_10, zzT10, 50), yX12_get, cX12_get, 4, (some .int), 0, 0, rfl, kv_X12_146_10.1, (mm_X12_get Wd).1, by decide, by decide⟩, (fun _ h => absurd h List.not_mem_nil)⟩)) dX12_deleted_10 rfl) ?_
  refine zz_cons (k' := 12) rfl (zz_Ok_none _ _) ?_
  refine zz_cons (k' := 13) rfl (zz_Ok_none _ _) ?_
  refine zz_cons (k' := 14) rfl (zk_if_ne X dX12_deleted_13 (by decide) rfl) ?_
  refine zz_cons (k' := 15) rfl (zz_Ok_none _ _) ?_
  refine zz_cons (k' := 16) rfl (zz_Ok_none _ _) ?_
  refine zz_cons (k' := 17) rfl (zk_aload_n X dX12_deleted_16 rfl rfl) ?_
  refine zz_cons (k' := 18) rfl (zk_getf X ff_X12_25 dX12_deleted_17 rfl) ?_
  refine zz_cons (k' := 19) rfl (zz_Ok_none _ _) ?_
  refine zz_cons (k' := 20) rfl (zz_Ok_none _ _) ?_
  refine zz_cons (k' := 21) rfl (zk_iload_n X dX12_deleted_20 rfl rfl) ?_
  refine zz_cons (k' := 22) rfl (zk_iald X (zzWR_st Wd) dX12_deleted_21 rfl) ?_
  refine zz_cons (k' := 23) rfl (zk_iconst X dX12_deleted_22 (by decide) rfl) ?_
  refine zz_cons (k' := 24) rfl (zk_icmp_ne X dX12_deleted_23 (by decide) rfl) ?_
  refine zz_cons (k' := 25) rfl (zz_Ok_none _ _) ?_
  refine zz_cons (k' := 26) rfl (zz_Ok_none _ _) ?_
  refine zz_cons (k' := 27) rfl (zk_aload_n X dX12_deleted_26 rfl rfl) ?_
  refine zz_cons (k' := 28) rfl (zk_lload_n X dX12_deleted_27 rfl rfl) ?_
  refine zz_cons (k' := 29) rfl (zk_bipush X dX12_deleted_28 (by decide) rfl) ?_
  refine zz_cons (k' := 30) rfl (zz_Ok_none _ _) ?_
  refine zz_cons (k' := 31) rfl (zk_callv X (zz_Cv_of (List.forall_mem_cons.mpr ⟨⟨(RX_10, zzT10, 50), yX12_get, cX12_get, 4, (some .int), 0, 0, rfl, kv_X12_146_10.1, (mm_X12_get Wd).1, by decide, by decide⟩, (fun _ h => absurd h List.not_mem_nil)⟩)) dX12_deleted_30 rfl) ?_
  refine zz_cons (k' := 32) rfl (zz_Ok_none _ _) ?_
  refine zz_cons (k' := 33) rfl (zz_Ok_none _ _) ?_
  refine zz_cons (k' := 34) rfl (zk_if_ne X dX12_deleted_33 (by decide) rfl) ?_
  refine zz_cons (k' := 35) rfl (zz_Ok_none _ _) ?_
  refine zz_cons (k' := 36) rfl (zz_Ok_none _ _) ?_
  refine zz_cons (k' := 37) rfl (zk_iconst X dX12_deleted_36 (by decide) rfl) ?_
  refine zz_cons (k' := 38) rfl (zk_goto X dX12_deleted_37 (by decide)) ?_
  refine zz_cons (k' := 39) rfl (zz_Ok_none _ _) ?_
  refine zz_cons (k' := 40) rfl (zz_Ok_none _ _) ?_
  refine zz_cons (k' := 41) rfl (zk_iconst X dX12_deleted_40 (by decide) rfl) ?_
  refine zz_cons (k' := 42) rfl (zk_istore X dX12_deleted_41 (by decide) rfl) ?_
  refine zz_cons (k' := 43) rfl (zz_Ok_none _ _) ?_
  refine zz_cons (k' := 44) rfl (zk_iload X dX12_deleted_43 rfl) ?_
  refine zz_cons (k' := 45) rfl (zz_Ok_none _ _) ?_
  refine zz_cons (k' := 46) rfl (zk_if_eq X dX12_deleted_45 (by decide) rfl) ?_
  refine zz_cons (k' := 47) rfl (zz_Ok_none _ _) ?_
  refine zz_cons (k' := 48) rfl (zz_Ok_none _ _) ?_
  refine zz_cons (k' := 49) rfl (zk_aload_n X dX12_deleted_48 rfl rfl) ?_
  refine zz_cons (k' := 50) rfl (zk_lload_n X dX12_deleted_49 rfl rfl) ?_
  refine zz_cons (k' := 51) rfl (zk_callv X (zz_Cv_of (List.forall_mem_cons.mpr ⟨⟨(RX_10, zzT10, 50), yX12_gone, cX12_gone, 3, (some .long), 1, 26, rfl, kv_X12_189_10.1, (mm_X12_gone Wd).1, by decide, by decide⟩, (fun _ h => absurd h List.not_mem_nil)⟩)) dX12_deleted_50 rfl) ?_
  refine zz_cons (k' := 52) rfl (zz_Ok_none _ _) ?_
  refine zz_cons (k' := 53) rfl (zz_Ok_none _ _) ?_
  refine zz_cons (k' := 54) rfl (zk_goto X dX12_deleted_53 (by decide)) ?_
  refine zz_cons (k' := 55) rfl (zz_Ok_none _ _) ?_
  refine zz_cons (k' := 56) rfl (zz_Ok_none _ _) ?_
  refine zz_cons (k' := 57) rfl (zk_aload_n X dX12_deleted_56 rfl rfl) ?_
  refine zz_cons (k' := 58) rfl (zk_lload_n X dX12_deleted_57 rfl rfl) ?_
  refine zz_cons (k' := 59) rfl (zk_bipush X dX12_deleted_58 (by decide) rfl) ?_
  refine zz_cons (k' := 60) rfl (zz_Ok_none _ _) ?_
  refine zz_cons (k' := 61) rfl (zk_iload X dX12_deleted_60 rfl) ?_
  refine zz_cons (k' := 62) rfl (zz_Ok_none _ _) ?_
  refine zz_cons (k' := 63) rfl (zk_callv X (zz_Cv_of (List.forall_mem_cons.mpr ⟨⟨(RX_10, zzT10, 50), yX12_with, cX12_with, 7, (some .long), 0, 0, rfl, kv_X12_150_10.1, (mm_X12_with Wd).1, by decide, by decide⟩, (fun _ h => absurd h List.not_mem_nil)⟩)) dX12_deleted_62 rfl) ?_
  refine zz_cons (k' := 64) rfl (zz_Ok_none _ _) ?_
  refine zz_cons (k' := 65) rfl (zz_Ok_none _ _) ?_
  refine zz_cons (k' := 66) rfl (zk_lret X rfl dX12_deleted_65) ?_
  exact trivial
noncomputable def tX12_view : List zzOp := [
  zo_aload 0 1,
  zo_getf zzSR (zz_kf [10] 34) 4,
  zo_none,
  zo_none,
  zo_pushI 60 6,
  zo_none,
  zo_aload 0 7,
  zo_getf zzSR (zz_kf [10] 42) 10,
  zo_none,
  zo_none,
  zo_ii (fun x y => x * y) 11,
  zo_iload 1 12,
  zo_ii (fun x y => x + y) 13,
  zo_lald zzSR 14,
  zo_lret]
set_option maxRecDepth 100000 in
theorem tl_X12_view : ∀ pc, zz_Tl (tX12_view.getD pc zo_none) := by
  refine zz_Tl_mem ?_
  unfold tX12_view
  refine List.forall_mem_cons.mpr ⟨(zo_aload_tl _ _), ?_⟩
  refine List.forall_mem_cons.mpr ⟨(zo_getf_tl _ _ _), ?_⟩
  refine List.forall_mem_cons.mpr ⟨zo_none_tl, ?_⟩
  refine List.forall_mem_cons.mpr ⟨zo_none_tl, ?_⟩
  refine List.forall_mem_cons.mpr ⟨(zo_pushI_tl _ _), ?_⟩
  refine List.forall_mem_cons.mpr ⟨zo_none_tl, ?_⟩
  refine List.forall_mem_cons.mpr ⟨(zo_aload_tl _ _), ?_⟩
  refine List.forall_mem_cons.mpr ⟨(zo_getf_tl _ _ _), ?_⟩
  refine List.forall_mem_cons.mpr ⟨zo_none_tl, ?_⟩
  refine List.forall_mem_cons.mpr ⟨zo_none_tl, ?_⟩
  refine List.forall_mem_cons.mpr ⟨(zo_ii_tl _ _), ?_⟩
  refine List.forall_mem_cons.mpr ⟨(zo_iload_tl _ _), ?_⟩
  refine List.forall_mem_cons.mpr ⟨(zo_ii_tl _ _), ?_⟩
  refine List.forall_mem_cons.mpr ⟨(zo_lald_tl _ _), ?_⟩
  refine List.forall_mem_cons.mpr ⟨(zo_lret_tl), ?_⟩
  exact fun _ h => absurd h List.not_mem_nil
noncomputable def fX12_view : zzFn := zz_fn tX12_view 2
set_option maxRecDepth 100000 in
set_option maxHeartbeats 4000000 in
theorem mm_X12_view {l : Launch} {D : va_G} {cA : Nat → ClassId} {ad : Nat → Nat} {Ex : (Nat → Prop) → State → Heap → Prop} (Wd : zzWR l D cA ad Ex) : zz_Cn l D zzCl cA ad zzSR Ex yX12_view cX12_view 2 (some .long) 0 0 fX12_view ∧ zz_Cx l D zzCl cA ad zzSR Ex yX12_view cX12_view 2 (some .long) 0 0 fX12_view := by
  refine zz_meth (plainFor_of_name (by decide)) Wd.1 Wd.2.1 Wd.2.2 (fun p e R s m args below meth c rr X => ?_)
  unfold tX12_view
  refine zz_cons (k' := 1) rfl (zk_aload_n X dX12_view_0 rfl rfl) ?_
  refine zz_cons (k' := 2) rfl (zk_getf X ff_X12_97 dX12_view_1 rfl) ?_
  refine zz_cons (k' := 3) rfl (zz_Ok_none _ _) ?_
  refine zz_cons (k' := 4) rfl (zz_Ok_none _ _) ?_
  refine zz_cons (k' := 5) rfl (zk_bipush X dX12_view_4 (by decide) rfl) ?_
  refine zz_cons (k' := 6) rfl (zz_Ok_none _ _) ?_
  refine zz_cons (k' := 7) rfl (zk_aload_n X dX12_view_6 rfl rfl) ?_
  refine zz_cons (k' := 8) rfl (zk_getf X ff_X12_193 dX12_view_7 rfl) ?_
  refine zz_cons (k' := 9) rfl (zz_Ok_none _ _) ?_
  refine zz_cons (k' := 10) rfl (zz_Ok_none _ _) ?_
  refine zz_cons (k' := 11) rfl (zk_imul X dX12_view_10 rfl) ?_
  refine zz_cons (k' := 12) rfl (zk_iload_n X dX12_view_11 rfl rfl) ?_
  refine zz_cons (k' := 13) rfl (zk_iadd X dX12_view_12 rfl) ?_
  refine zz_cons (k' := 14) rfl (zk_lald X dX12_view_13 rfl) ?_
  refine zz_cons (k' := 15) rfl (zk_lret X rfl dX12_view_14) ?_
  exact trivial
noncomputable def tX12_isSeen : List zzOp := [
  zo_iload 1 1,
  zo_pushI (-1) 2,
  zo_icmp (fun x y => decide (x = y)) 26 5,
  zo_none,
  zo_none,
  zo_aload 0 6,
  zo_getf zzSR (zz_kf [10] 33) 9,
  zo_none,
  zo_none,
  zo_pushI 60 11,
  zo_none,
  zo_aload 0 12,
  zo_getf zzSR (zz_kf [10] 42) 15,
  zo_none,
  zo_none,
  zo_ii (fun x y => x * y) 16,
  zo_iload 1 17,
  zo_ii (fun x y => x + y) 18,
  zo_zald zzSR 19,
  zo_if (fun x => decide (x = 0)) 26 22,
  zo_none,
  zo_none,
  zo_pushI 1 23,
  zo_goto 27,
  zo_none,
  zo_none,
  zo_pushI 0 27,
  zo_iret true]
set_option maxRecDepth 100000 in
theorem tl_X12_isSeen : ∀ pc, zz_Tl (tX12_isSeen.getD pc zo_none) := by
  refine zz_Tl_mem ?_
  unfold tX12_isSeen
  refine List.forall_mem_cons.mpr ⟨(zo_iload_tl _ _), ?_⟩
  refine List.forall_mem_cons.mpr ⟨(zo_pushI_tl _ _), ?_⟩
  refine List.forall_mem_cons.mpr ⟨(zo_icmp_tl _ _ _), ?_⟩
  refine List.forall_mem_cons.mpr ⟨zo_none_tl, ?_⟩
  refine List.forall_mem_cons.mpr ⟨zo_none_tl, ?_⟩
  refine List.forall_mem_cons.mpr ⟨(zo_aload_tl _ _), ?_⟩
  refine List.forall_mem_cons.mpr ⟨(zo_getf_tl _ _ _), ?_⟩
  refine List.forall_mem_cons.mpr ⟨zo_none_tl, ?_⟩
  refine List.forall_mem_cons.mpr ⟨zo_none_tl, ?_⟩
  refine List.forall_mem_cons.mpr ⟨(zo_pushI_tl _ _), ?_⟩
  refine List.forall_mem_cons.mpr ⟨zo_none_tl, ?_⟩
  refine List.forall_mem_cons.mpr ⟨(zo_aload_tl _ _), ?_⟩
  refine List.forall_mem_cons.mpr ⟨(zo_getf_tl _ _ _), ?_⟩
  refine List.forall_mem_cons.mpr ⟨zo_none_tl, ?_⟩
  refine List.forall_mem_cons.mpr ⟨zo_none_tl, ?_⟩
  refine List.forall_mem_cons.mpr ⟨(zo_ii_tl _ _), ?_⟩
  refine List.forall_mem_cons.mpr ⟨(zo_iload_tl _ _), ?_⟩
  refine List.forall_mem_cons.mpr ⟨(zo_ii_tl _ _), ?_⟩
  refine List.forall_mem_cons.mpr ⟨(zo_zald_tl _ _), ?_⟩
  refine List.forall_mem_cons.mpr ⟨(zo_if_tl _ _ _), ?_⟩
  refine List.forall_mem_cons.mpr ⟨zo_none_tl, ?_⟩
  refine List.forall_mem_cons.mpr ⟨zo_none_tl, ?_⟩
  refine List.forall_mem_cons.mpr ⟨(zo_pushI_tl _ _), ?_⟩
  refine List.forall_mem_cons.mpr ⟨(zo_goto_tl _), ?_⟩
  refine List.forall_mem_cons.mpr ⟨zo_none_tl, ?_⟩
  refine List.forall_mem_cons.mpr ⟨zo_none_tl, ?_⟩
  refine List.forall_mem_cons.mpr ⟨(zo_pushI_tl _ _), ?_⟩
  refine List.forall_mem_cons.mpr ⟨(zo_iret_tl _), ?_⟩
  exact fun _ h => absurd h List.not_mem_nil
noncomputable def fX12_isSeen : zzFn := zz_fn tX12_isSeen 2
set_option maxRecDepth 100000 in
set_option maxHeartbeats 4000000 in
theorem mm_X12_isSeen {l : Launch} {D : va_G} {cA : Nat → ClassId} {ad : Nat → Nat} {Ex : (Nat → Prop) → State → Heap → Prop} (Wd : zzWR l D cA ad Ex) : zz_Cn l D zzCl cA ad zzSR Ex yX12_isSeen cX12_isSeen 2 (some .boolean) 0 0 fX12_isSeen ∧ zz_Cx l D zzCl cA ad zzSR Ex yX12_isSeen cX12_isSeen 2 (some .boolean) 0 0 fX12_isSeen := by
  refine zz_meth (plainFor_of_name (by decide)) Wd.1 Wd.2.1 Wd.2.2 (fun p e R s m args below meth c rr X => ?_)
  unfold tX12_isSeen
  refine zz_cons (k' := 1) rfl (zk_iload_n X dX12_isSeen_0 rfl rfl) ?_
  refine zz_cons (k' := 2) rfl (zk_iconst X dX12_isSeen_1 (by decide) rfl) ?_
  refine zz_cons (k' := 3) rfl (zk_icmp_eq X dX12_isSeen_2 (by decide) rfl) ?_
  refine zz_cons (k' := 4) rfl (zz_Ok_none _ _) ?_
  refine zz_cons (k' := 5) rfl (zz_Ok_none _ _) ?_
  refine zz_cons (k' := 6) rfl (zk_aload_n X dX12_isSeen_5 rfl rfl) ?_
  refine zz_cons (k' := 7) rfl (zk_getf X ff_X12_93 dX12_isSeen_6 rfl) ?_
  refine zz_cons (k' := 8) rfl (zz_Ok_none _ _) ?_
  refine zz_cons (k' := 9) rfl (zz_Ok_none _ _) ?_
  refine zz_cons (k' := 10) rfl (zk_bipush X dX12_isSeen_9 (by decide) rfl) ?_
  refine zz_cons (k' := 11) rfl (zz_Ok_none _ _) ?_
  refine zz_cons (k' := 12) rfl (zk_aload_n X dX12_isSeen_11 rfl rfl) ?_
  refine zz_cons (k' := 13) rfl (zk_getf X ff_X12_193 dX12_isSeen_12 rfl) ?_
  refine zz_cons (k' := 14) rfl (zz_Ok_none _ _) ?_
  refine zz_cons (k' := 15) rfl (zz_Ok_none _ _) ?_
  refine zz_cons (k' := 16) rfl (zk_imul X dX12_isSeen_15 rfl) ?_
  refine zz_cons (k' := 17) rfl (zk_iload_n X dX12_isSeen_16 rfl rfl) ?_
  refine zz_cons (k' := 18) rfl (zk_iadd X dX12_isSeen_17 rfl) ?_
  refine zz_cons (k' := 19) rfl (zk_zald X dX12_isSeen_18 rfl) ?_
  refine zz_cons (k' := 20) rfl (zk_if_eq X dX12_isSeen_19 (by decide) rfl) ?_
  refine zz_cons (k' := 21) rfl (zz_Ok_none _ _) ?_
  refine zz_cons (k' := 22) rfl (zz_Ok_none _ _) ?_
  refine zz_cons (k' := 23) rfl (zk_iconst X dX12_isSeen_22 (by decide) rfl) ?_
  refine zz_cons (k' := 24) rfl (zk_goto X dX12_isSeen_23 (by decide)) ?_
  refine zz_cons (k' := 25) rfl (zz_Ok_none _ _) ?_
  refine zz_cons (k' := 26) rfl (zz_Ok_none _ _) ?_
  refine zz_cons (k' := 27) rfl (zk_iconst X dX12_isSeen_26 (by decide) rfl) ?_
  refine zz_cons (k' := 28) rfl (zk_iret X rfl dX12_isSeen_27) ?_
  exact trivial
noncomputable def tX12_viewed : List zzOp := [
  zo_aload 0 1,
  zo_aload 0 2,
  zo_iload 1 3,
  zo_callv zzSR (zz_cl [(10, fX12_view)]) 1 6,
  zo_none,
  zo_none,
  zo_iload 2 7,
  zo_callv zzSR (zz_cl [(10, fX12_get)]) 2 10,
  zo_none,
  zo_none,
  zo_iret false]
set_option maxRecDepth 100000 in
theorem tl_X12_viewed : ∀ pc, zz_Tl (tX12_viewed.getD pc zo_none) := by
  refine zz_Tl_mem ?_
  unfold tX12_viewed
  refine List.forall_mem_cons.mpr ⟨(zo_aload_tl _ _), ?_⟩
  refine List.forall_mem_cons.mpr ⟨(zo_aload_tl _ _), ?_⟩
  refine List.forall_mem_cons.mpr ⟨(zo_iload_tl _ _), ?_⟩
  refine List.forall_mem_cons.mpr ⟨(zo_callv_tl _ _ _ _), ?_⟩
  refine List.forall_mem_cons.mpr ⟨zo_none_tl, ?_⟩
  refine List.forall_mem_cons.mpr ⟨zo_none_tl, ?_⟩
  refine List.forall_mem_cons.mpr ⟨(zo_iload_tl _ _), ?_⟩
  refine List.forall_mem_cons.mpr ⟨(zo_callv_tl _ _ _ _), ?_⟩
  refine List.forall_mem_cons.mpr ⟨zo_none_tl, ?_⟩
  refine List.forall_mem_cons.mpr ⟨zo_none_tl, ?_⟩
  refine List.forall_mem_cons.mpr ⟨(zo_iret_tl _), ?_⟩
  exact fun _ h => absurd h List.not_mem_nil
noncomputable def fX12_viewed : zzFn := zz_fn tX12_viewed 3
set_option maxRecDepth 100000 in
set_option maxHeartbeats 4000000 in
theorem mm_X12_viewed {l : Launch} {D : va_G} {cA : Nat → ClassId} {ad : Nat → Nat} {Ex : (Nat → Prop) → State → Heap → Prop} (Wd : zzWR l D cA ad Ex) : zz_Cn l D zzCl cA ad zzSR Ex yX12_viewed cX12_viewed 3 (some .int) 1 23 fX12_viewed ∧ zz_Cx l D zzCl cA ad zzSR Ex yX12_viewed cX12_viewed 3 (some .int) 1 23 fX12_viewed := by
  refine zz_meth (plainFor_of_name (by decide)) Wd.1 Wd.2.1 Wd.2.2 (fun p e R s m args below meth c rr X => ?_)
  unfold tX12_viewed
  refine zz_cons (k' := 1) rfl (zk_aload_n X dX12_viewed_0 rfl rfl) ?_
  refine zz_cons (k' := 2) rfl (zk_aload_n X dX12_viewed_1 rfl rfl) ?_
  refine zz_cons (k' := 3) rfl (zk_iload_n X dX12_viewed_2 rfl rfl) ?_
  refine zz_cons (k' := 4) rfl (zk_callv X (zz_Cv_of (List.forall_mem_cons.mpr ⟨⟨(RX_10, zzT10, 50), yX12_view, cX12_view, 2, (some .long), 0, 0, rfl, kv_X12_196_10.1, (mm_X12_view Wd).1, by decide, by decide⟩, (fun _ h => absurd h List.not_mem_nil)⟩)) dX12_viewed_3 rfl) ?_
  refine zz_cons (k' := 5) rfl (zz_Ok_none _ _) ?_
  refine zz_cons (k' := 6) rfl (zz_Ok_none _ _) ?_
  refine zz_cons (k' := 7) rfl (zk_iload_n X dX12_viewed_6 rfl rfl) ?_
  refine zz_cons (k' := 8) rfl (zk_callv X (zz_Cv_of (List.forall_mem_cons.mpr ⟨⟨(RX_10, zzT10, 50), yX12_get, cX12_get, 4, (some .int), 0, 0, rfl, kv_X12_146_10.1, (mm_X12_get Wd).1, by decide, by decide⟩, (fun _ h => absurd h List.not_mem_nil)⟩)) dX12_viewed_7 rfl) ?_
  refine zz_cons (k' := 9) rfl (zz_Ok_none _ _) ?_
  refine zz_cons (k' := 10) rfl (zz_Ok_none _ _) ?_
  refine zz_cons (k' := 11) rfl (zk_iret X rfl dX12_viewed_10) ?_
  exact trivial
noncomputable def tX12_isGoneThere : List zzOp := [
  zo_aload 0 1,
  zo_iload 1 2,
  zo_callv zzSR (zz_cl [(10, fX12_isSeen)]) 1 5,
  zo_none,
  zo_none,
  zo_if (fun x => decide (x = 0)) 19 8,
  zo_none,
  zo_none,
  zo_aload 0 9,
  zo_iload 1 10,
  zo_pushI 13 12,
  zo_none,
  zo_callv zzSR (zz_cl [(10, fX12_viewed)]) 2 15,
  zo_none,
  zo_none,
  zo_pushI 4 16,
  zo_icmp (fun x y => decide (¬ x = y)) 23 19,
  zo_none,
  zo_none,
  zo_pushI 1 20,
  zo_goto 24,
  zo_none,
  zo_none,
  zo_pushI 0 24,
  zo_iret true]
set_option maxRecDepth 100000 in
theorem tl_X12_isGoneThere : ∀ pc, zz_Tl (tX12_isGoneThere.getD pc zo_none) := by
  refine zz_Tl_mem ?_
  unfold tX12_isGoneThere
  refine List.forall_mem_cons.mpr ⟨(zo_aload_tl _ _), ?_⟩
  refine List.forall_mem_cons.mpr ⟨(zo_iload_tl _ _), ?_⟩
  refine List.forall_mem_cons.mpr ⟨(zo_callv_tl _ _ _ _), ?_⟩
  refine List.forall_mem_cons.mpr ⟨zo_none_tl, ?_⟩
  refine List.forall_mem_cons.mpr ⟨zo_none_tl, ?_⟩
  refine List.forall_mem_cons.mpr ⟨(zo_if_tl _ _ _), ?_⟩
  refine List.forall_mem_cons.mpr ⟨zo_none_tl, ?_⟩
  refine List.forall_mem_cons.mpr ⟨zo_none_tl, ?_⟩
  refine List.forall_mem_cons.mpr ⟨(zo_aload_tl _ _), ?_⟩
  refine List.forall_mem_cons.mpr ⟨(zo_iload_tl _ _), ?_⟩
  refine List.forall_mem_cons.mpr ⟨(zo_pushI_tl _ _), ?_⟩
  refine List.forall_mem_cons.mpr ⟨zo_none_tl, ?_⟩
  refine List.forall_mem_cons.mpr ⟨(zo_callv_tl _ _ _ _), ?_⟩
  refine List.forall_mem_cons.mpr ⟨zo_none_tl, ?_⟩
  refine List.forall_mem_cons.mpr ⟨zo_none_tl, ?_⟩
  refine List.forall_mem_cons.mpr ⟨(zo_pushI_tl _ _), ?_⟩
  refine List.forall_mem_cons.mpr ⟨(zo_icmp_tl _ _ _), ?_⟩
  refine List.forall_mem_cons.mpr ⟨zo_none_tl, ?_⟩
  refine List.forall_mem_cons.mpr ⟨zo_none_tl, ?_⟩
  refine List.forall_mem_cons.mpr ⟨(zo_pushI_tl _ _), ?_⟩
  refine List.forall_mem_cons.mpr ⟨(zo_goto_tl _), ?_⟩
  refine List.forall_mem_cons.mpr ⟨zo_none_tl, ?_⟩
  refine List.forall_mem_cons.mpr ⟨zo_none_tl, ?_⟩
  refine List.forall_mem_cons.mpr ⟨(zo_pushI_tl _ _), ?_⟩
  refine List.forall_mem_cons.mpr ⟨(zo_iret_tl _), ?_⟩
  exact fun _ h => absurd h List.not_mem_nil
noncomputable def fX12_isGoneThere : zzFn := zz_fn tX12_isGoneThere 2
set_option maxRecDepth 100000 in
set_option maxHeartbeats 4000000 in
theorem mm_X12_isGoneThere {l : Launch} {D : va_G} {cA : Nat → ClassId} {ad : Nat → Nat} {Ex : (Nat → Prop) → State → Heap → Prop} (Wd : zzWR l D cA ad Ex) : zz_Cn l D zzCl cA ad zzSR Ex yX12_isGoneThere cX12_isGoneThere 2 (some .boolean) 2 45 fX12_isGoneThere ∧ zz_Cx l D zzCl cA ad zzSR Ex yX12_isGoneThere cX12_isGoneThere 2 (some .boolean) 2 45 fX12_isGoneThere := by
  refine zz_meth (plainFor_of_name (by decide)) Wd.1 Wd.2.1 Wd.2.2 (fun p e R s m args below meth c rr X => ?_)
  unfold tX12_isGoneThere
  refine zz_cons (k' := 1) rfl (zk_aload_n X dX12_isGoneThere_0 rfl rfl) ?_
  refine zz_cons (k' := 2) rfl (zk_iload_n X dX12_isGoneThere_1 rfl rfl) ?_
  refine zz_cons (k' := 3) rfl (zk_callv X (zz_Cv_of (List.forall_mem_cons.mpr ⟨⟨(RX_10, zzT10, 50), yX12_isSeen, cX12_isSeen, 2, (some .boolean), 0, 0, rfl, kv_X12_200_10.1, (mm_X12_isSeen Wd).1, by decide, by decide⟩, (fun _ h => absurd h List.not_mem_nil)⟩)) dX12_isGoneThere_2 rfl) ?_
  refine zz_cons (k' := 4) rfl (zz_Ok_none _ _) ?_
  refine zz_cons (k' := 5) rfl (zz_Ok_none _ _) ?_
  refine zz_cons (k' := 6) rfl (zk_if_eq X dX12_isGoneThere_5 (by decide) rfl) ?_
  refine zz_cons (k' := 7) rfl (zz_Ok_none _ _) ?_
  refine zz_cons (k' := 8) rfl (zz_Ok_none _ _) ?_
  refine zz_cons (k' := 9) rfl (zk_aload_n X dX12_isGoneThere_8 rfl rfl) ?_
  refine zz_cons (k' := 10) rfl (zk_iload_n X dX12_isGoneThere_9 rfl rfl) ?_
  refine zz_cons (k' := 11) rfl (zk_bipush X dX12_isGoneThere_10 (by decide) rfl) ?_
  refine zz_cons (k' := 12) rfl (zz_Ok_none _ _) ?_
  refine zz_cons (k' := 13) rfl (zk_callv X (zz_Cv_of (List.forall_mem_cons.mpr ⟨⟨(RX_10, zzT10, 50), yX12_viewed, cX12_viewed, 3, (some .int), 1, 23, rfl, kv_X12_204_10.1, (mm_X12_viewed Wd).1, by decide, by decide⟩, (fun _ h => absurd h List.not_mem_nil)⟩)) dX12_isGoneThere_12 rfl) ?_
  refine zz_cons (k' := 14) rfl (zz_Ok_none _ _) ?_
  refine zz_cons (k' := 15) rfl (zz_Ok_none _ _) ?_
  refine zz_cons (k' := 16) rfl (zk_iconst X dX12_isGoneThere_15 (by decide) rfl) ?_
  refine zz_cons (k' := 17) rfl (zk_icmp_ne X dX12_isGoneThere_16 (by decide) rfl) ?_
  refine zz_cons (k' := 18) rfl (zz_Ok_none _ _) ?_
  refine zz_cons (k' := 19) rfl (zz_Ok_none _ _) ?_
  refine zz_cons (k' := 20) rfl (zk_iconst X dX12_isGoneThere_19 (by decide) rfl) ?_
  refine zz_cons (k' := 21) rfl (zk_goto X dX12_isGoneThere_20 (by decide)) ?_
  refine zz_cons (k' := 22) rfl (zz_Ok_none _ _) ?_
  refine zz_cons (k' := 23) rfl (zz_Ok_none _ _) ?_
  refine zz_cons (k' := 24) rfl (zk_iconst X dX12_isGoneThere_23 (by decide) rfl) ?_
  refine zz_cons (k' := 25) rfl (zk_iret X rfl dX12_isGoneThere_24) ?_
  exact trivial
noncomputable def tX12_stays : List zzOp := [
  zo_aload 0 1,
  zo_iload 1 2,
  zo_callv zzSR (zz_cl [(10, fX12_isSeen)]) 1 5,
  zo_none,
  zo_none,
  zo_if (fun x => decide (x = 0)) 32 8,
  zo_none,
  zo_none,
  zo_aload 0 9,
  zo_getf zzSR (zz_kf [10] 6) 12,
  zo_none,
  zo_none,
  zo_iload 1 13,
  zo_iald zzSR zzSTR 14,
  zo_iload 2 15,
  zo_icmp (fun x y => decide (¬ x = y)) 32 18,
  zo_none,
  zo_none,
  zo_aload 0 19,
  zo_iload 1 20,
  zo_pushI 13 22,
  zo_none,
  zo_callv zzSR (zz_cl [(10, fX12_viewed)]) 2 25,
  zo_none,
  zo_none,
  zo_if (fun x => decide (¬ x = 0)) 32 28,
  zo_none,
  zo_none,
  zo_pushI 1 29,
  zo_goto 33,
  zo_none,
  zo_none,
  zo_pushI 0 33,
  zo_iret true]
set_option maxRecDepth 100000 in
theorem tl_X12_stays : ∀ pc, zz_Tl (tX12_stays.getD pc zo_none) := by
  refine zz_Tl_mem ?_
  unfold tX12_stays
  refine List.forall_mem_cons.mpr ⟨(zo_aload_tl _ _), ?_⟩
  refine List.forall_mem_cons.mpr ⟨(zo_iload_tl _ _), ?_⟩
  refine List.forall_mem_cons.mpr ⟨(zo_callv_tl _ _ _ _), ?_⟩
  refine List.forall_mem_cons.mpr ⟨zo_none_tl, ?_⟩
  refine List.forall_mem_cons.mpr ⟨zo_none_tl, ?_⟩
  refine List.forall_mem_cons.mpr ⟨(zo_if_tl _ _ _), ?_⟩
  refine List.forall_mem_cons.mpr ⟨zo_none_tl, ?_⟩
  refine List.forall_mem_cons.mpr ⟨zo_none_tl, ?_⟩
  refine List.forall_mem_cons.mpr ⟨(zo_aload_tl _ _), ?_⟩
  refine List.forall_mem_cons.mpr ⟨(zo_getf_tl _ _ _), ?_⟩
  refine List.forall_mem_cons.mpr ⟨zo_none_tl, ?_⟩
  refine List.forall_mem_cons.mpr ⟨zo_none_tl, ?_⟩
  refine List.forall_mem_cons.mpr ⟨(zo_iload_tl _ _), ?_⟩
  refine List.forall_mem_cons.mpr ⟨(zo_iald_tl _ _ _), ?_⟩
  refine List.forall_mem_cons.mpr ⟨(zo_iload_tl _ _), ?_⟩
  refine List.forall_mem_cons.mpr ⟨(zo_icmp_tl _ _ _), ?_⟩
  refine List.forall_mem_cons.mpr ⟨zo_none_tl, ?_⟩
  refine List.forall_mem_cons.mpr ⟨zo_none_tl, ?_⟩
  refine List.forall_mem_cons.mpr ⟨(zo_aload_tl _ _), ?_⟩
  refine List.forall_mem_cons.mpr ⟨(zo_iload_tl _ _), ?_⟩
  refine List.forall_mem_cons.mpr ⟨(zo_pushI_tl _ _), ?_⟩
  refine List.forall_mem_cons.mpr ⟨zo_none_tl, ?_⟩
  refine List.forall_mem_cons.mpr ⟨(zo_callv_tl _ _ _ _), ?_⟩
  refine List.forall_mem_cons.mpr ⟨zo_none_tl, ?_⟩
  refine List.forall_mem_cons.mpr ⟨zo_none_tl, ?_⟩
  refine List.forall_mem_cons.mpr ⟨(zo_if_tl _ _ _), ?_⟩
  refine List.forall_mem_cons.mpr ⟨zo_none_tl, ?_⟩
  refine List.forall_mem_cons.mpr ⟨zo_none_tl, ?_⟩
  refine List.forall_mem_cons.mpr ⟨(zo_pushI_tl _ _), ?_⟩
  refine List.forall_mem_cons.mpr ⟨(zo_goto_tl _), ?_⟩
  refine List.forall_mem_cons.mpr ⟨zo_none_tl, ?_⟩
  refine List.forall_mem_cons.mpr ⟨zo_none_tl, ?_⟩
  refine List.forall_mem_cons.mpr ⟨(zo_pushI_tl _ _), ?_⟩
  refine List.forall_mem_cons.mpr ⟨(zo_iret_tl _), ?_⟩
  exact fun _ h => absurd h List.not_mem_nil
noncomputable def fX12_stays : zzFn := zz_fn tX12_stays 3
set_option maxRecDepth 100000 in
set_option maxHeartbeats 4000000 in
theorem mm_X12_stays {l : Launch} {D : va_G} {cA : Nat → ClassId} {ad : Nat → Nat} {Ex : (Nat → Prop) → State → Heap → Prop} (Wd : zzWR l D cA ad Ex) : zz_Cn l D zzCl cA ad zzSR Ex yX12_stays cX12_stays 3 (some .boolean) 2 45 fX12_stays ∧ zz_Cx l D zzCl cA ad zzSR Ex yX12_stays cX12_stays 3 (some .boolean) 2 45 fX12_stays := by
  refine zz_meth (plainFor_of_name (by decide)) Wd.1 Wd.2.1 Wd.2.2 (fun p e R s m args below meth c rr X => ?_)
  unfold tX12_stays
  refine zz_cons (k' := 1) rfl (zk_aload_n X dX12_stays_0 rfl rfl) ?_
  refine zz_cons (k' := 2) rfl (zk_iload_n X dX12_stays_1 rfl rfl) ?_
  refine zz_cons (k' := 3) rfl (zk_callv X (zz_Cv_of (List.forall_mem_cons.mpr ⟨⟨(RX_10, zzT10, 50), yX12_isSeen, cX12_isSeen, 2, (some .boolean), 0, 0, rfl, kv_X12_200_10.1, (mm_X12_isSeen Wd).1, by decide, by decide⟩, (fun _ h => absurd h List.not_mem_nil)⟩)) dX12_stays_2 rfl) ?_
  refine zz_cons (k' := 4) rfl (zz_Ok_none _ _) ?_
  refine zz_cons (k' := 5) rfl (zz_Ok_none _ _) ?_
  refine zz_cons (k' := 6) rfl (zk_if_eq X dX12_stays_5 (by decide) rfl) ?_
  refine zz_cons (k' := 7) rfl (zz_Ok_none _ _) ?_
  refine zz_cons (k' := 8) rfl (zz_Ok_none _ _) ?_
  refine zz_cons (k' := 9) rfl (zk_aload_n X dX12_stays_8 rfl rfl) ?_
  refine zz_cons (k' := 10) rfl (zk_getf X ff_X12_25 dX12_stays_9 rfl) ?_
  refine zz_cons (k' := 11) rfl (zz_Ok_none _ _) ?_
  refine zz_cons (k' := 12) rfl (zz_Ok_none _ _) ?_
  refine zz_cons (k' := 13) rfl (zk_iload_n X dX12_stays_12 rfl rfl) ?_
  refine zz_cons (k' := 14) rfl (zk_iald X (zzWR_st Wd) dX12_stays_13 rfl) ?_
  refine zz_cons (k' := 15) rfl (zk_iload_n X dX12_stays_14 rfl rfl) ?_
  refine zz_cons (k' := 16) rfl (zk_icmp_ne X dX12_stays_15 (by decide) rfl) ?_
  refine zz_cons (k' := 17) rfl (zz_Ok_none _ _) ?_
  refine zz_cons (k' := 18) rfl (zz_Ok_none _ _) ?_
  refine zz_cons (k' := 19) rfl (zk_aload_n X dX12_stays_18 rfl rfl) ?_
  refine zz_cons (k' := 20) rfl (zk_iload_n X dX12_stays_19 rfl rfl) ?_
  refine zz_cons (k' := 21) rfl (zk_bipush X dX12_stays_20 (by decide) rfl) ?_
  refine zz_cons (k' := 22) rfl (zz_Ok_none _ _) ?_
  refine zz_cons (k' := 23) rfl (zk_callv X (zz_Cv_of (List.forall_mem_cons.mpr ⟨⟨(RX_10, zzT10, 50), yX12_viewed, cX12_viewed, 3, (some .int), 1, 23, rfl, kv_X12_204_10.1, (mm_X12_viewed Wd).1, by decide, by decide⟩, (fun _ h => absurd h List.not_mem_nil)⟩)) dX12_stays_22 rfl) ?_
  refine zz_cons (k' := 24) rfl (zz_Ok_none _ _) ?_
  refine zz_cons (k' := 25) rfl (zz_Ok_none _ _) ?_
  refine zz_cons (k' := 26) rfl (zk_if_ne X dX12_stays_25 (by decide) rfl) ?_
  refine zz_cons (k' := 27) rfl (zz_Ok_none _ _) ?_
  refine zz_cons (k' := 28) rfl (zz_Ok_none _ _) ?_
  refine zz_cons (k' := 29) rfl (zk_iconst X dX12_stays_28 (by decide) rfl) ?_
  refine zz_cons (k' := 30) rfl (zk_goto X dX12_stays_29 (by decide)) ?_
  refine zz_cons (k' := 31) rfl (zz_Ok_none _ _) ?_
  refine zz_cons (k' := 32) rfl (zz_Ok_none _ _) ?_
  refine zz_cons (k' := 33) rfl (zk_iconst X dX12_stays_32 (by decide) rfl) ?_
  refine zz_cons (k' := 34) rfl (zk_iret X rfl dX12_stays_33) ?_
  exact trivial
noncomputable def tX12_comes : List zzOp := [
  zo_pushI 60 2,
  zo_none,
  zo_aload 0 3,
  zo_getf zzSR (zz_kf [10] 42) 6,
  zo_none,
  zo_none,
  zo_ii (fun x y => x * y) 7,
  zo_istore 2 8,
  zo_iload 2 9,
  zo_istore 3 10,
  zo_iload 3 11,
  zo_iload 2 12,
  zo_aload 0 13,
  zo_getf zzSR (zz_kf [10] 37) 16,
  zo_none,
  zo_none,
  zo_aload 0 17,
  zo_getf zzSR (zz_kf [10] 42) 20,
  zo_none,
  zo_none,
  zo_iald zzSR zzSTR 21,
  zo_ii (fun x y => x + y) 22,
  zo_icmp (fun x y => decide (y ≤ x)) 43 25,
  zo_none,
  zo_none,
  zo_aload 0 26,
  zo_getf zzSR (zz_kf [10] 38) 29,
  zo_none,
  zo_none,
  zo_iload 3 30,
  zo_iald zzSR zzSTR 31,
  zo_iload 1 32,
  zo_icmp (fun x y => decide (¬ x = y)) 37 35,
  zo_none,
  zo_none,
  zo_pushI 0 36,
  zo_iret false,
  zo_iinc 3 1 40,
  zo_none,
  zo_none,
  zo_goto 10,
  zo_none,
  zo_none,
  zo_aload 0 44,
  zo_getf zzSR (zz_kf [10] 38) 47,
  zo_none,
  zo_none,
  zo_iload 2 48,
  zo_aload 0 49,
  zo_getf zzSR (zz_kf [10] 37) 52,
  zo_none,
  zo_none,
  zo_aload 0 53,
  zo_getf zzSR (zz_kf [10] 42) 56,
  zo_none,
  zo_none,
  zo_iald zzSR zzSTR 57,
  zo_ii (fun x y => x + y) 58,
  zo_iload 1 59,
  zo_iast zzSR 60,
  zo_aload 0 61,
  zo_getf zzSR (zz_kf [10] 40) 64,
  zo_none,
  zo_none,
  zo_iload 2 65,
  zo_iload 1 66,
  zo_ii (fun x y => x + y) 67,
  zo_pushI 0 68,
  zo_iast zzSR 69,
  zo_aload 0 70,
  zo_getf zzSR (zz_kf [10] 37) 73,
  zo_none,
  zo_none,
  zo_aload 0 74,
  zo_getf zzSR (zz_kf [10] 42) 77,
  zo_none,
  zo_none,
  zo_dup2 78,
  zo_iald zzSR zzSTR 79,
  zo_pushI 1 80,
  zo_ii (fun x y => x + y) 81,
  zo_iast zzSR 82,
  zo_pushI 1 83,
  zo_iret false]
set_option maxRecDepth 100000 in
theorem tl_X12_comes : ∀ pc, zz_Tl (tX12_comes.getD pc zo_none) := by
  refine zz_Tl_mem ?_
  unfold tX12_comes
  refine List.forall_mem_cons.mpr ⟨(zo_pushI_tl _ _), ?_⟩
  refine List.forall_mem_cons.mpr ⟨zo_none_tl, ?_⟩
  refine List.forall_mem_cons.mpr ⟨(zo_aload_tl _ _), ?_⟩
  refine List.forall_mem_cons.mpr ⟨(zo_getf_tl _ _ _), ?_⟩
  refine List.forall_mem_cons.mpr ⟨zo_none_tl, ?_⟩
  refine List.forall_mem_cons.mpr ⟨zo_none_tl, ?_⟩
  refine List.forall_mem_cons.mpr ⟨(zo_ii_tl _ _), ?_⟩
  refine List.forall_mem_cons.mpr ⟨(zo_istore_tl _ _), ?_⟩
  refine List.forall_mem_cons.mpr ⟨(zo_iload_tl _ _), ?_⟩
  refine List.forall_mem_cons.mpr ⟨(zo_istore_tl _ _), ?_⟩
  refine List.forall_mem_cons.mpr ⟨(zo_iload_tl _ _), ?_⟩
  refine List.forall_mem_cons.mpr ⟨(zo_iload_tl _ _), ?_⟩
  refine List.forall_mem_cons.mpr ⟨(zo_aload_tl _ _), ?_⟩
  refine List.forall_mem_cons.mpr ⟨(zo_getf_tl _ _ _), ?_⟩
  refine List.forall_mem_cons.mpr ⟨zo_none_tl, ?_⟩
  refine List.forall_mem_cons.mpr ⟨zo_none_tl, ?_⟩
  refine List.forall_mem_cons.mpr ⟨(zo_aload_tl _ _), ?_⟩
  refine List.forall_mem_cons.mpr ⟨(zo_getf_tl _ _ _), ?_⟩
  refine List.forall_mem_cons.mpr ⟨zo_none_tl, ?_⟩
  refine List.forall_mem_cons.mpr ⟨zo_none_tl, ?_⟩
  refine List.forall_mem_cons.mpr ⟨(zo_iald_tl _ _ _), ?_⟩
  refine List.forall_mem_cons.mpr ⟨(zo_ii_tl _ _), ?_⟩
  refine List.forall_mem_cons.mpr ⟨(zo_icmp_tl _ _ _), ?_⟩
  refine List.forall_mem_cons.mpr ⟨zo_none_tl, ?_⟩
  refine List.forall_mem_cons.mpr ⟨zo_none_tl, ?_⟩
  refine List.forall_mem_cons.mpr ⟨(zo_aload_tl _ _), ?_⟩
  refine List.forall_mem_cons.mpr ⟨(zo_getf_tl _ _ _), ?_⟩
  refine List.forall_mem_cons.mpr ⟨zo_none_tl, ?_⟩
  refine List.forall_mem_cons.mpr ⟨zo_none_tl, ?_⟩
  refine List.forall_mem_cons.mpr ⟨(zo_iload_tl _ _), ?_⟩
  refine List.forall_mem_cons.mpr ⟨(zo_iald_tl _ _ _), ?_⟩
  refine List.forall_mem_cons.mpr ⟨(zo_iload_tl _ _), ?_⟩
  refine List.forall_mem_cons.mpr ⟨(zo_icmp_tl _ _ _), ?_⟩
  refine List.forall_mem_cons.mpr ⟨zo_none_tl, ?_⟩
  refine List.forall_mem_cons.mpr ⟨zo_none_tl, ?_⟩
  refine List.forall_mem_cons.mpr ⟨(zo_pushI_tl _ _), ?_⟩
  refine List.forall_mem_cons.mpr ⟨(zo_iret_tl _), ?_⟩
  refine List.forall_mem_cons.mpr ⟨(zo_iinc_tl _ _ _), ?_⟩
  refine List.forall_mem_cons.mpr ⟨zo_none_tl, ?_⟩
  refine List.forall_mem_cons.mpr ⟨zo_none_tl, ?_⟩
  refine List.forall_mem_cons.mpr ⟨(zo_goto_tl _), ?_⟩
  refine List.forall_mem_cons.mpr ⟨zo_none_tl, ?_⟩
  refine List.forall_mem_cons.mpr ⟨zo_none_tl, ?_⟩
  refine List.forall_mem_cons.mpr ⟨(zo_aload_tl _ _), ?_⟩
  refine List.forall_mem_cons.mpr ⟨(zo_getf_tl _ _ _), ?_⟩
  refine List.forall_mem_cons.mpr ⟨zo_none_tl, ?_⟩
  refine List.forall_mem_cons.mpr ⟨zo_none_tl, ?_⟩
  refine List.forall_mem_cons.mpr ⟨(zo_iload_tl _ _), ?_⟩
  refine List.forall_mem_cons.mpr ⟨(zo_aload_tl _ _), ?_⟩
  refine List.forall_mem_cons.mpr ⟨(zo_getf_tl _ _ _), ?_⟩
  refine List.forall_mem_cons.mpr ⟨zo_none_tl, ?_⟩
  refine List.forall_mem_cons.mpr ⟨zo_none_tl, ?_⟩
  refine List.forall_mem_cons.mpr ⟨(zo_aload_tl _ _), ?_⟩
  refine List.forall_mem_cons.mpr ⟨(zo_getf_tl _ _ _), ?_⟩
  refine List.forall_mem_cons.mpr ⟨zo_none_tl, ?_⟩
  refine List.forall_mem_cons.mpr ⟨zo_none_tl, ?_⟩
  refine List.forall_mem_cons.mpr ⟨(zo_iald_tl _ _ _), ?_⟩
  refine List.forall_mem_cons.mpr ⟨(zo_ii_tl _ _), ?_⟩
  refine List.forall_mem_cons.mpr ⟨(zo_iload_tl _ _), ?_⟩
  refine List.forall_mem_cons.mpr ⟨(zo_iast_tl _ _), ?_⟩
  refine List.forall_mem_cons.mpr ⟨(zo_aload_tl _ _), ?_⟩
  refine List.forall_mem_cons.mpr ⟨(zo_getf_tl _ _ _), ?_⟩
  refine List.forall_mem_cons.mpr ⟨zo_none_tl, ?_⟩
  refine List.forall_mem_cons.mpr ⟨zo_none_tl, ?_⟩
  refine List.forall_mem_cons.mpr ⟨(zo_iload_tl _ _), ?_⟩
  refine List.forall_mem_cons.mpr ⟨(zo_iload_tl _ _), ?_⟩
  refine List.forall_mem_cons.mpr ⟨(zo_ii_tl _ _), ?_⟩
  refine List.forall_mem_cons.mpr ⟨(zo_pushI_tl _ _), ?_⟩
  refine List.forall_mem_cons.mpr ⟨(zo_iast_tl _ _), ?_⟩
  refine List.forall_mem_cons.mpr ⟨(zo_aload_tl _ _), ?_⟩
  refine List.forall_mem_cons.mpr ⟨(zo_getf_tl _ _ _), ?_⟩
  refine List.forall_mem_cons.mpr ⟨zo_none_tl, ?_⟩
  refine List.forall_mem_cons.mpr ⟨zo_none_tl, ?_⟩
  refine List.forall_mem_cons.mpr ⟨(zo_aload_tl _ _), ?_⟩
  refine List.forall_mem_cons.mpr ⟨(zo_getf_tl _ _ _), ?_⟩
  refine List.forall_mem_cons.mpr ⟨zo_none_tl, ?_⟩
  refine List.forall_mem_cons.mpr ⟨zo_none_tl, ?_⟩
  refine List.forall_mem_cons.mpr ⟨(zo_dup2_tl _), ?_⟩
  refine List.forall_mem_cons.mpr ⟨(zo_iald_tl _ _ _), ?_⟩
  refine List.forall_mem_cons.mpr ⟨(zo_pushI_tl _ _), ?_⟩
  refine List.forall_mem_cons.mpr ⟨(zo_ii_tl _ _), ?_⟩
  refine List.forall_mem_cons.mpr ⟨(zo_iast_tl _ _), ?_⟩
  refine List.forall_mem_cons.mpr ⟨(zo_pushI_tl _ _), ?_⟩
  refine List.forall_mem_cons.mpr ⟨(zo_iret_tl _), ?_⟩
  exact fun _ h => absurd h List.not_mem_nil
noncomputable def fX12_comes : zzFn := zz_fn tX12_comes 4
set_option maxRecDepth 100000 in
set_option maxHeartbeats 4000000 in
theorem mm_X12_comes {l : Launch} {D : va_G} {cA : Nat → ClassId} {ad : Nat → Nat} {Ex : (Nat → Prop) → State → Heap → Prop} (Wd : zzWR l D cA ad Ex) : zz_Cn l D zzCl cA ad zzSR Ex yX12_comes cX12_comes 4 (some .int) 0 0 fX12_comes ∧ zz_Cx l D zzCl cA ad zzSR Ex yX12_comes cX12_comes 4 (some .int) 0 0 fX12_comes := by
  refine zz_meth (plainFor_of_name (by decide)) Wd.1 Wd.2.1 Wd.2.2 (fun p e R s m args below meth c rr X => ?_)
  unfold tX12_comes
  refine zz_cons (k' := 1) rfl (zk_bipush X dX12_comes_0 (by decide) rfl) ?_
  refine zz_cons (k' := 2) rfl (zz_Ok_none _ _) ?_
  refine zz_cons (k' := 3) rfl (zk_aload_n X dX12_comes_2 rfl rfl) ?_
  refine zz_cons (k' := 4) rfl (zk_getf X ff_X12_193 dX12_comes_3 rfl) ?_
  refine zz_cons (k' := 5) rfl (zz_Ok_none _ _) ?_
  refine zz_cons (k' := 6) rfl (zz_Ok_none _ _) ?_
  refine zz_cons (k' := 7) rfl (zk_imul X dX12_comes_6 rfl) ?_
  refine zz_cons (k' := 8) rfl (zk_istore_n X dX12_comes_7 rfl (by decide) rfl) ?_
  refine zz_cons (k' := 9) rfl (zk_iload_n X dX12_comes_8 rfl rfl) ?_
  refine zz_cons (k' := 10) rfl (zk_istore_n X dX12_comes_9 rfl (by decide) rfl) ?_
  refine zz_cons (k' := 11) rfl (zk_iload_n X dX12_comes_10 rfl rfl) ?_
  refine zz_cons (k' := 12) rfl (zk_iload_n X dX12_comes_11 rfl rfl) ?_
  refine zz_cons (k' := 13) rfl (zk_aload_n X dX12_comes_12 rfl rfl) ?_
  refine zz_cons (k' := 14) rfl (zk_getf X ff_X12_106 dX12_comes_13 rfl) ?_
  refine zz_cons (k' := 15) rfl (zz_Ok_none _ _) ?_
  refine zz_cons (k' := 16) rfl (zz_Ok_none _ _) ?_
  refine zz_cons (k' := 17) rfl (zk_aload_n X dX12_comes_16 rfl rfl) ?_
  refine zz_cons (k' := 18) rfl (zk_getf X ff_X12_193 dX12_comes_17 rfl) ?_
  refine zz_cons (k' := 19) rfl (zz_Ok_none _ _) ?_
  refine zz_cons (k' := 20) rfl (zz_Ok_none _ _) ?_
  refine zz_cons (k' := 21) rfl (zk_iald X (zzWR_st Wd) dX12_comes_20 rfl) ?_
  refine zz_cons (k' := 22) rfl (zk_iadd X dX12_comes_21 rfl) ?_
  refine zz_cons (k' := 23) rfl (zk_icmp_ge X dX12_comes_22 (by decide) rfl) ?_
  refine zz_cons (k' := 24) rfl (zz_Ok_none _ _) ?_
  refine zz_cons (k' := 25) rfl (zz_Ok_none _ _) ?_
  refine zz_cons (k' := 26) rfl (zk_aload_n X dX12_comes_25 rfl rfl) ?_
  refine zz_cons (k' := 27) rfl (zk_getf X ff_X12_109 dX12_comes_26 rfl) ?_
  refine zz_cons (k' := 28) rfl (zz_Ok_none _ _) ?_
  refine zz_cons (k' := 29) rfl (zz_Ok_none _ _) ?_
  refine zz_cons (k' := 30) rfl (zk_iload_n X dX12_comes_29 rfl rfl) ?_
  refine zz_cons (k' := 31) rfl (zk_iald X (zzWR_st Wd) dX12_comes_30 rfl) ?_
  refine zz_cons (k' := 32) rfl (zk_iload_n X dX12_comes_31 rfl rfl) ?_
  refine zz_cons (k' := 33) rfl (zk_icmp_ne X dX12_comes_32 (by decide) rfl) ?_
  refine zz_cons (k' := 34) rfl (zz_Ok_none _ _) ?_
  refine zz_cons (k' := 35) rfl (zz_Ok_none _ _) ?_
  refine zz_cons (k' := 36) rfl (zk_iconst X dX12_comes_35 (by decide) rfl) ?_
  refine zz_cons (k' := 37) rfl (zk_iret X rfl dX12_comes_36) ?_
  refine zz_cons (k' := 38) rfl (zk_iinc X dX12_comes_37 (by decide) (by decide) rfl) ?_
  refine zz_cons (k' := 39) rfl (zz_Ok_none _ _) ?_
  refine zz_cons (k' := 40) rfl (zz_Ok_none _ _) ?_
  refine zz_cons (k' := 41) rfl (zk_goto X dX12_comes_40 (by decide)) ?_
  refine zz_cons (k' := 42) rfl (zz_Ok_none _ _) ?_
  refine zz_cons (k' := 43) rfl (zz_Ok_none _ _) ?_
  refine zz_cons (k' := 44) rfl (zk_aload_n X dX12_comes_43 rfl rfl) ?_
  refine zz_cons (k' := 45) rfl (zk_getf X ff_X12_109 dX12_comes_44 rfl) ?_
  refine zz_cons (k' := 46) rfl (zz_Ok_none _ _) ?_
  refine zz_cons (k' := 47) rfl (zz_Ok_none _ _) ?_
  refine zz_cons (k' := 48) rfl (zk_iload_n X dX12_comes_47 rfl rfl) ?_
  refine zz_cons (k' := 49) rfl (zk_aload_n X dX12_comes_48 rfl rfl) ?_
  refine zz_cons (k' := 50) rfl (zk_getf X ff_X12_106 dX12_comes_49 rfl) ?_
  refine zz_cons (k' := 51) rfl (zz_Ok_none _ _) ?_
  refine zz_cons (k' := 52) rfl (zz_Ok_none _ _) ?_
  refine zz_cons (k' := 53) rfl (zk_aload_n X dX12_comes_52 rfl rfl) ?_
  refine zz_cons (k' := 54) rfl (zk_getf X ff_X12_193 dX12_comes_53 rfl) ?_
  refine zz_cons (k' := 55) rfl (zz_Ok_none _ _) ?_
  refine zz_cons (k' := 56) rfl (zz_Ok_none _ _) ?_
  refine zz_cons (k' := 57) rfl (zk_iald X (zzWR_st Wd) dX12_comes_56 rfl) ?_
  refine zz_cons (k' := 58) rfl (zk_iadd X dX12_comes_57 rfl) ?_
  refine zz_cons (k' := 59) rfl (zk_iload_n X dX12_comes_58 rfl rfl) ?_
  refine zz_cons (k' := 60) rfl (zk_iast X dX12_comes_59 rfl) ?_
  refine zz_cons (k' := 61) rfl (zk_aload_n X dX12_comes_60 rfl rfl) ?_
  refine zz_cons (k' := 62) rfl (zk_getf X ff_X12_115 dX12_comes_61 rfl) ?_
  refine zz_cons (k' := 63) rfl (zz_Ok_none _ _) ?_
  refine zz_cons (k' := 64) rfl (zz_Ok_none _ _) ?_
  refine zz_cons (k' := 65) rfl (zk_iload_n X dX12_comes_64 rfl rfl) ?_
  refine zz_cons (k' := 66) rfl (zk_iload_n X dX12_comes_65 rfl rfl) ?_
  refine zz_cons (k' := 67) rfl (zk_iadd X dX12_comes_66 rfl) ?_
  refine zz_cons (k' := 68) rfl (zk_iconst X dX12_comes_67 (by decide) rfl) ?_
  refine zz_cons (k' := 69) rfl (zk_iast X dX12_comes_68 rfl) ?_
  refine zz_cons (k' := 70) rfl (zk_aload_n X dX12_comes_69 rfl rfl) ?_
  refine zz_cons (k' := 71) rfl (zk_getf X ff_X12_106 dX12_comes_70 rfl) ?_
  refine zz_cons (k' := 72) rfl (zz_Ok_none _ _) ?_
  refine zz_cons (k' := 73) rfl (zz_Ok_none _ _) ?_
  refine zz_cons (k' := 74) rfl (zk_aload_n X dX12_comes_73 rfl rfl) ?_
  refine zz_cons (k' := 75) rfl (zk_getf X ff_X12_193 dX12_comes_74 rfl) ?_
  refine zz_cons (k' := 76) rfl (zz_Ok_none _ _) ?_
  refine zz_cons (k' := 77) rfl (zz_Ok_none _ _) ?_
  refine zz_cons (k' := 78) rfl (zk_dup2 X dX12_comes_77 rfl) ?_
  refine zz_cons (k' := 79) rfl (zk_iald X (zzWR_st Wd) dX12_comes_78 rfl) ?_
  refine zz_cons (k' := 80) rfl (zk_iconst X dX12_comes_79 (by decide) rfl) ?_
  refine zz_cons (k' := 81) rfl (zk_iadd X dX12_comes_80 rfl) ?_
  refine zz_cons (k' := 82) rfl (zk_iast X dX12_comes_81 rfl) ?_
  refine zz_cons (k' := 83) rfl (zk_iconst X dX12_comes_82 (by decide) rfl) ?_
  refine zz_cons (k' := 84) rfl (zk_iret X rfl dX12_comes_83) ?_
  exact trivial
noncomputable def tX12_comesIf : List zzOp := [
  zo_iload 1 1,
  zo_pushI (-1) 2,
  zo_icmp (fun x y => decide (x = y)) 23 5,
  zo_none,
  zo_none,
  zo_aload 0 6,
  zo_getf zzSR (zz_kf [10] 6) 9,
  zo_none,
  zo_none,
  zo_iload 1 10,
  zo_iald zzSR zzSTR 11,
  zo_iload 2 12,
  zo_icmp (fun x y => decide (¬ x = y)) 23 15,
  zo_none,
  zo_none,
  zo_aload 0 16,
  zo_iload 1 17,
  zo_callv zzSR (zz_cl [(10, fX12_comes)]) 1 20,
  zo_none,
  zo_none,
  zo_goto 24,
  zo_none,
  zo_none,
  zo_pushI 0 24,
  zo_iret false]
set_option maxRecDepth 100000 in
theorem tl_X12_comesIf : ∀ pc, zz_Tl (tX12_comesIf.getD pc zo_none) := by
  refine zz_Tl_mem ?_
  unfold tX12_comesIf
  refine List.forall_mem_cons.mpr ⟨(zo_iload_tl _ _), ?_⟩
  refine List.forall_mem_cons.mpr ⟨(zo_pushI_tl _ _), ?_⟩
  refine List.forall_mem_cons.mpr ⟨(zo_icmp_tl _ _ _), ?_⟩
  refine List.forall_mem_cons.mpr ⟨zo_none_tl, ?_⟩
  refine List.forall_mem_cons.mpr ⟨zo_none_tl, ?_⟩
  refine List.forall_mem_cons.mpr ⟨(zo_aload_tl _ _), ?_⟩
  refine List.forall_mem_cons.mpr ⟨(zo_getf_tl _ _ _), ?_⟩
  refine List.forall_mem_cons.mpr ⟨zo_none_tl, ?_⟩
  refine List.forall_mem_cons.mpr ⟨zo_none_tl, ?_⟩
  refine List.forall_mem_cons.mpr ⟨(zo_iload_tl _ _), ?_⟩
  refine List.forall_mem_cons.mpr ⟨(zo_iald_tl _ _ _), ?_⟩
  refine List.forall_mem_cons.mpr ⟨(zo_iload_tl _ _), ?_⟩
  refine List.forall_mem_cons.mpr ⟨(zo_icmp_tl _ _ _), ?_⟩
  refine List.forall_mem_cons.mpr ⟨zo_none_tl, ?_⟩
  refine List.forall_mem_cons.mpr ⟨zo_none_tl, ?_⟩
  refine List.forall_mem_cons.mpr ⟨(zo_aload_tl _ _), ?_⟩
  refine List.forall_mem_cons.mpr ⟨(zo_iload_tl _ _), ?_⟩
  refine List.forall_mem_cons.mpr ⟨(zo_callv_tl _ _ _ _), ?_⟩
  refine List.forall_mem_cons.mpr ⟨zo_none_tl, ?_⟩
  refine List.forall_mem_cons.mpr ⟨zo_none_tl, ?_⟩
  refine List.forall_mem_cons.mpr ⟨(zo_goto_tl _), ?_⟩
  refine List.forall_mem_cons.mpr ⟨zo_none_tl, ?_⟩
  refine List.forall_mem_cons.mpr ⟨zo_none_tl, ?_⟩
  refine List.forall_mem_cons.mpr ⟨(zo_pushI_tl _ _), ?_⟩
  refine List.forall_mem_cons.mpr ⟨(zo_iret_tl _), ?_⟩
  exact fun _ h => absurd h List.not_mem_nil
noncomputable def fX12_comesIf : zzFn := zz_fn tX12_comesIf 3
set_option maxRecDepth 100000 in
set_option maxHeartbeats 4000000 in
theorem mm_X12_comesIf {l : Launch} {D : va_G} {cA : Nat → ClassId} {ad : Nat → Nat} {Ex : (Nat → Prop) → State → Heap → Prop} (Wd : zzWR l D cA ad Ex) : zz_Cn l D zzCl cA ad zzSR Ex yX12_comesIf cX12_comesIf 3 (some .int) 1 23 fX12_comesIf ∧ zz_Cx l D zzCl cA ad zzSR Ex yX12_comesIf cX12_comesIf 3 (some .int) 1 23 fX12_comesIf := by
  refine zz_meth (plainFor_of_name (by decide)) Wd.1 Wd.2.1 Wd.2.2 (fun p e R s m args below meth c rr X => ?_)
  unfold tX12_comesIf
  refine zz_cons (k' := 1) rfl (zk_iload_n X dX12_comesIf_0 rfl rfl) ?_
  refine zz_cons (k' := 2) rfl (zk_iconst X dX12_comesIf_1 (by decide) rfl) ?_
  refine zz_cons (k' := 3) rfl (zk_icmp_eq X dX12_comesIf_2 (by decide) rfl) ?_
  refine zz_cons (k' := 4) rfl (zz_Ok_none _ _) ?_
  refine zz_cons (k' := 5) rfl (zz_Ok_none _ _) ?_
  refine zz_cons (k' := 6) rfl (zk_aload_n X dX12_comesIf_5 rfl rfl) ?_
  refine zz_cons (k' := 7) rfl (zk_getf X ff_X12_25 dX12_comesIf_6 rfl) ?_
  refine zz_cons (k' := 8) rfl (zz_Ok_none _ _) ?_
  refine zz_cons (k' := 9) rfl (zz_Ok_none _ _) ?_
  refine zz_cons (k' := 10) rfl (zk_iload_n X dX12_comesIf_9 rfl rfl) ?_
  refine zz_cons (k' := 11) rfl (zk_iald X (zzWR_st Wd) dX12_comesIf_10 rfl) ?_
  refine zz_cons (k' := 12) rfl (zk_iload_n X dX12_comesIf_11 rfl rfl) ?_
  refine zz_cons (k' := 13) rfl (zk_icmp_ne X dX12_comesIf_12 (by decide) rfl) ?_
  refine zz_cons (k' := 14) rfl (zz_Ok_none _ _) ?_
  refine zz_cons (k' := 15) rfl (zz_Ok_none _ _) ?_
  refine zz_cons (k' := 16) rfl (zk_aload_n X dX12_comesIf_15 rfl rfl) ?_
  refine zz_cons (k' := 17) rfl (zk_iload_n X dX12_comesIf_16 rfl rfl) ?_
  refine zz_cons (k' := 18) rfl (zk_callv X (zz_Cv_of (List.forall_mem_cons.mpr ⟨⟨(RX_10, zzT10, 50), yX12_comes, cX12_comes, 4, (some .int), 0, 0, rfl, kv_X12_208_10.1, (mm_X12_comes Wd).1, by decide, by decide⟩, (fun _ h => absurd h List.not_mem_nil)⟩)) dX12_comesIf_17 rfl) ?_
  refine zz_cons (k' := 19) rfl (zz_Ok_none _ _) ?_
  refine zz_cons (k' := 20) rfl (zz_Ok_none _ _) ?_
  refine zz_cons (k' := 21) rfl (zk_goto X dX12_comesIf_20 (by decide)) ?_
  refine zz_cons (k' := 22) rfl (zz_Ok_none _ _) ?_
  refine zz_cons (k' := 23) rfl (zz_Ok_none _ _) ?_
  refine zz_cons (k' := 24) rfl (zk_iconst X dX12_comesIf_23 (by decide) rfl) ?_
  refine zz_cons (k' := 25) rfl (zk_iret X rfl dX12_comesIf_24) ?_
  exact trivial
noncomputable def tX12_ownKind : List zzOp := [
  zo_aload 0 1,
  zo_getf zzSR (zz_kf [10] 42) 4,
  zo_none,
  zo_none,
  zo_if (fun x => decide (x = 0)) 16 7,
  zo_none,
  zo_none,
  zo_aload 0 8,
  zo_getf zzSR (zz_kf [10] 42) 11,
  zo_none,
  zo_none,
  zo_pushI 7 13,
  zo_none,
  zo_icmp (fun x y => decide (¬ x = y)) 20 16,
  zo_none,
  zo_none,
  zo_pushI 0 17,
  zo_goto 70,
  zo_none,
  zo_none,
  zo_aload 0 21,
  zo_getf zzSR (zz_kf [10] 42) 24,
  zo_none,
  zo_none,
  zo_pushI 1 25,
  zo_icmp (fun x y => decide (¬ x = y)) 32 28,
  zo_none,
  zo_none,
  zo_pushI 1 29,
  zo_goto 70,
  zo_none,
  zo_none,
  zo_aload 0 33,
  zo_getf zzSR (zz_kf [10] 42) 36,
  zo_none,
  zo_none,
  zo_pushI 2 37,
  zo_icmp (fun x y => decide (¬ x = y)) 44 40,
  zo_none,
  zo_none,
  zo_pushI 3 41,
  zo_goto 70,
  zo_none,
  zo_none,
  zo_aload 0 45,
  zo_getf zzSR (zz_kf [10] 42) 48,
  zo_none,
  zo_none,
  zo_pushI 6 50,
  zo_none,
  zo_icmp (fun x y => decide (¬ x = y)) 57 53,
  zo_none,
  zo_none,
  zo_pushI 5 54,
  zo_goto 70,
  zo_none,
  zo_none,
  zo_aload 0 58,
  zo_getf zzSR (zz_kf [10] 42) 61,
  zo_none,
  zo_none,
  zo_pushI 5 62,
  zo_icmp (fun x y => decide (¬ x = y)) 69 65,
  zo_none,
  zo_none,
  zo_pushI (-1) 66,
  zo_goto 70,
  zo_none,
  zo_none,
  zo_pushI 2 70,
  zo_iret false]
set_option maxRecDepth 100000 in
theorem tl_X12_ownKind : ∀ pc, zz_Tl (tX12_ownKind.getD pc zo_none) := by
  refine zz_Tl_mem ?_
  unfold tX12_ownKind
  refine List.forall_mem_cons.mpr ⟨(zo_aload_tl _ _), ?_⟩
  refine List.forall_mem_cons.mpr ⟨(zo_getf_tl _ _ _), ?_⟩
  refine List.forall_mem_cons.mpr ⟨zo_none_tl, ?_⟩
  refine List.forall_mem_cons.mpr ⟨zo_none_tl, ?_⟩
  refine List.forall_mem_cons.mpr ⟨(zo_if_tl _ _ _), ?_⟩
  refine List.forall_mem_cons.mpr ⟨zo_none_tl, ?_⟩
  refine List.forall_mem_cons.mpr ⟨zo_none_tl, ?_⟩
  refine List.forall_mem_cons.mpr ⟨(zo_aload_tl _ _), ?_⟩
  refine List.forall_mem_cons.mpr ⟨(zo_getf_tl _ _ _), ?_⟩
  refine List.forall_mem_cons.mpr ⟨zo_none_tl, ?_⟩
  refine List.forall_mem_cons.mpr ⟨zo_none_tl, ?_⟩
  refine List.forall_mem_cons.mpr ⟨(zo_pushI_tl _ _), ?_⟩
  refine List.forall_mem_cons.mpr ⟨zo_none_tl, ?_⟩
  refine List.forall_mem_cons.mpr ⟨(zo_icmp_tl _ _ _), ?_⟩
  refine List.forall_mem_cons.mpr ⟨zo_none_tl, ?_⟩
  refine List.forall_mem_cons.mpr ⟨zo_none_tl, ?_⟩
  refine List.forall_mem_cons.mpr ⟨(zo_pushI_tl _ _), ?_⟩
  refine List.forall_mem_cons.mpr ⟨(zo_goto_tl _), ?_⟩
  refine List.forall_mem_cons.mpr ⟨zo_none_tl, ?_⟩
  refine List.forall_mem_cons.mpr ⟨zo_none_tl, ?_⟩
  refine List.forall_mem_cons.mpr ⟨(zo_aload_tl _ _), ?_⟩
  refine List.forall_mem_cons.mpr ⟨(zo_getf_tl _ _ _), ?_⟩
  refine List.forall_mem_cons.mpr ⟨zo_none_tl, ?_⟩
  refine List.forall_mem_cons.mpr ⟨zo_none_tl, ?_⟩
  refine List.forall_mem_cons.mpr ⟨(zo_pushI_tl _ _), ?_⟩
  refine List.forall_mem_cons.mpr ⟨(zo_icmp_tl _ _ _), ?_⟩
  refine List.forall_mem_cons.mpr ⟨zo_none_tl, ?_⟩
  refine List.forall_mem_cons.mpr ⟨zo_none_tl, ?_⟩
  refine List.forall_mem_cons.mpr ⟨(zo_pushI_tl _ _), ?_⟩
  refine List.forall_mem_cons.mpr ⟨(zo_goto_tl _), ?_⟩
  refine List.forall_mem_cons.mpr ⟨zo_none_tl, ?_⟩
  refine List.forall_mem_cons.mpr ⟨zo_none_tl, ?_⟩
  refine List.forall_mem_cons.mpr ⟨(zo_aload_tl _ _), ?_⟩
  refine List.forall_mem_cons.mpr ⟨(zo_getf_tl _ _ _), ?_⟩
  refine List.forall_mem_cons.mpr ⟨zo_none_tl, ?_⟩
  refine List.forall_mem_cons.mpr ⟨zo_none_tl, ?_⟩
  refine List.forall_mem_cons.mpr ⟨(zo_pushI_tl _ _), ?_⟩
  refine List.forall_mem_cons.mpr ⟨(zo_icmp_tl _ _ _), ?_⟩
  refine List.forall_mem_cons.mpr ⟨zo_none_tl, ?_⟩
  refine List.forall_mem_cons.mpr ⟨zo_none_tl, ?_⟩
  refine List.forall_mem_cons.mpr ⟨(zo_pushI_tl _ _), ?_⟩
  refine List.forall_mem_cons.mpr ⟨(zo_goto_tl _), ?_⟩
  refine List.forall_mem_cons.mpr ⟨zo_none_tl, ?_⟩
  refine List.forall_mem_cons.mpr ⟨zo_none_tl, ?_⟩
  refine List.forall_mem_cons.mpr ⟨(zo_aload_tl _ _), ?_⟩
  refine List.forall_mem_cons.mpr ⟨(zo_getf_tl _ _ _), ?_⟩
  refine List.forall_mem_cons.mpr ⟨zo_none_tl, ?_⟩
  refine List.forall_mem_cons.mpr ⟨zo_none_tl, ?_⟩
  refine List.forall_mem_cons.mpr ⟨(zo_pushI_tl _ _), ?_⟩
  refine List.forall_mem_cons.mpr ⟨zo_none_tl, ?_⟩
  refine List.forall_mem_cons.mpr ⟨(zo_icmp_tl _ _ _), ?_⟩
  refine List.forall_mem_cons.mpr ⟨zo_none_tl, ?_⟩
  refine List.forall_mem_cons.mpr ⟨zo_none_tl, ?_⟩
  refine List.forall_mem_cons.mpr ⟨(zo_pushI_tl _ _), ?_⟩
  refine List.forall_mem_cons.mpr ⟨(zo_goto_tl _), ?_⟩
  refine List.forall_mem_cons.mpr ⟨zo_none_tl, ?_⟩
  refine List.forall_mem_cons.mpr ⟨zo_none_tl, ?_⟩
  refine List.forall_mem_cons.mpr ⟨(zo_aload_tl _ _), ?_⟩
  refine List.forall_mem_cons.mpr ⟨(zo_getf_tl _ _ _), ?_⟩
  refine List.forall_mem_cons.mpr ⟨zo_none_tl, ?_⟩
  refine List.forall_mem_cons.mpr ⟨zo_none_tl, ?_⟩
  refine List.forall_mem_cons.mpr ⟨(zo_pushI_tl _ _), ?_⟩
  refine List.forall_mem_cons.mpr ⟨(zo_icmp_tl _ _ _), ?_⟩
  refine List.forall_mem_cons.mpr ⟨zo_none_tl, ?_⟩
  refine List.forall_mem_cons.mpr ⟨zo_none_tl, ?_⟩
  refine List.forall_mem_cons.mpr ⟨(zo_pushI_tl _ _), ?_⟩
  refine List.forall_mem_cons.mpr ⟨(zo_goto_tl _), ?_⟩
  refine List.forall_mem_cons.mpr ⟨zo_none_tl, ?_⟩
  refine List.forall_mem_cons.mpr ⟨zo_none_tl, ?_⟩
  refine List.forall_mem_cons.mpr ⟨(zo_pushI_tl _ _), ?_⟩
  refine List.forall_mem_cons.mpr ⟨(zo_iret_tl _), ?_⟩
  exact fun _ h => absurd h List.not_mem_nil
noncomputable def fX12_ownKind : zzFn := zz_fn tX12_ownKind 1
set_option maxRecDepth 100000 in
set_option maxHeartbeats 4000000 in
theorem mm_X12_ownKind {l : Launch} {D : va_G} {cA : Nat → ClassId} {ad : Nat → Nat} {Ex : (Nat → Prop) → State → Heap → Prop} (Wd : zzWR l D cA ad Ex) : zz_Cn l D zzCl cA ad zzSR Ex yX12_ownKind cX12_ownKind 1 (some .int) 0 0 fX12_ownKind ∧ zz_Cx l D zzCl cA ad zzSR Ex yX12_ownKind cX12_ownKind 1 (some .int) 0 0 fX12_ownKind := by
  refine zz_meth (plainFor_of_name (by decide)) Wd.1 Wd.2.1 Wd.2.2 (fun p e R s m args below meth c rr X => ?_)
  unfold tX12_ownKind
  refine zz_cons (k' := 1) rfl (zk_aload_n X dX12_ownKind_0 rfl rfl) ?_
  refine zz_cons (k' := 2) rfl (zk_getf X ff_X12_193 dX12_ownKind_1 rfl) ?_
  refine zz_cons (k' := 3) rfl (zz_Ok_none _ _) ?_
  refine zz_cons (k' := 4) rfl (zz_Ok_none _ _) ?_
  refine zz_cons (k' := 5) rfl (zk_if_eq X dX12_ownKind_4 (by decide) rfl) ?_
  refine zz_cons (k' := 6) rfl (zz_Ok_none _ _) ?_
  refine zz_cons (k' := 7) rfl (zz_Ok_none _ _) ?_
  refine zz_cons (k' := 8) rfl (zk_aload_n X dX12_ownKind_7 rfl rfl) ?_
  refine zz_cons (k' := 9) rfl (zk_getf X ff_X12_193 dX12_ownKind_8 rfl) ?_
  refine zz_cons (k' := 10) rfl (zz_Ok_none _ _) ?_
  refine zz_cons (k' := 11) rfl (zz_Ok_none _ _) ?_
  refine zz_cons (k' := 12) rfl (zk_bipush X dX12_ownKind_11 (by decide) rfl) ?_
  refine zz_cons (k' := 13) rfl (zz_Ok_none _ _) ?_
  refine zz_cons (k' := 14) rfl (zk_icmp_ne X dX12_ownKind_13 (by decide) rfl) ?_
  refine zz_cons (k' := 15) rfl (zz_Ok_none _ _) ?_
  refine zz_cons (k' := 16) rfl (zz_Ok_none _ _) ?_
  refine zz_cons (k' := 17) rfl (zk_iconst X dX12_ownKind_16 (by decide) rfl) ?_
  refine zz_cons (k' := 18) rfl (zk_goto X dX12_ownKind_17 (by decide)) ?_
  refine zz_cons (k' := 19) rfl (zz_Ok_none _ _) ?_
  refine zz_cons (k' := 20) rfl (zz_Ok_none _ _) ?_
  refine zz_cons (k' := 21) rfl (zk_aload_n X dX12_ownKind_20 rfl rfl) ?_
  refine zz_cons (k' := 22) rfl (zk_getf X ff_X12_193 dX12_ownKind_21 rfl) ?_
  refine zz_cons (k' := 23) rfl (zz_Ok_none _ _) ?_
  refine zz_cons (k' := 24) rfl (zz_Ok_none _ _) ?_
  refine zz_cons (k' := 25) rfl (zk_iconst X dX12_ownKind_24 (by decide) rfl) ?_
  refine zz_cons (k' := 26) rfl (zk_icmp_ne X dX12_ownKind_25 (by decide) rfl) ?_
  refine zz_cons (k' := 27) rfl (zz_Ok_none _ _) ?_
  refine zz_cons (k' := 28) rfl (zz_Ok_none _ _) ?_
  refine zz_cons (k' := 29) rfl (zk_iconst X dX12_ownKind_28 (by decide) rfl) ?_
  refine zz_cons (k' := 30) rfl (zk_goto X dX12_ownKind_29 (by decide)) ?_
  refine zz_cons (k' := 31) rfl (zz_Ok_none _ _) ?_
  refine zz_cons (k' := 32) rfl (zz_Ok_none _ _) ?_
  refine zz_cons (k' := 33) rfl (zk_aload_n X dX12_ownKind_32 rfl rfl) ?_
  refine zz_cons (k' := 34) rfl (zk_getf X ff_X12_193 dX12_ownKind_33 rfl) ?_
  refine zz_cons (k' := 35) rfl (zz_Ok_none _ _) ?_
  refine zz_cons (k' := 36) rfl (zz_Ok_none _ _) ?_
  refine zz_cons (k' := 37) rfl (zk_iconst X dX12_ownKind_36 (by decide) rfl) ?_
  refine zz_cons (k' := 38) rfl (zk_icmp_ne X dX12_ownKind_37 (by decide) rfl) ?_
  refine zz_cons (k' := 39) rfl (zz_Ok_none _ _) ?_
  refine zz_cons (k' := 40) rfl (zz_Ok_none _ _) ?_
  refine zz_cons (k' := 41) rfl (zk_iconst X dX12_ownKind_40 (by decide) rfl) ?_
  refine zz_cons (k' := 42) rfl (zk_goto X dX12_ownKind_41 (by decide)) ?_
  refine zz_cons (k' := 43) rfl (zz_Ok_none _ _) ?_
  refine zz_cons (k' := 44) rfl (zz_Ok_none _ _) ?_
  refine zz_cons (k' := 45) rfl (zk_aload_n X dX12_ownKind_44 rfl rfl) ?_
  refine zz_cons (k' := 46) rfl (zk_getf X ff_X12_193 dX12_ownKind_45 rfl) ?_
  refine zz_cons (k' := 47) rfl (zz_Ok_none _ _) ?_
  refine zz_cons (k' := 48) rfl (zz_Ok_none _ _) ?_
  refine zz_cons (k' := 49) rfl (zk_bipush X dX12_ownKind_48 (by decide) rfl) ?_
  refine zz_cons (k' := 50) rfl (zz_Ok_none _ _) ?_
  refine zz_cons (k' := 51) rfl (zk_icmp_ne X dX12_ownKind_50 (by decide) rfl) ?_
  refine zz_cons (k' := 52) rfl (zz_Ok_none _ _) ?_
  refine zz_cons (k' := 53) rfl (zz_Ok_none _ _) ?_
  refine zz_cons (k' := 54) rfl (zk_iconst X dX12_ownKind_53 (by decide) rfl) ?_
  refine zz_cons (k' := 55) rfl (zk_goto X dX12_ownKind_54 (by decide)) ?_
  refine zz_cons (k' := 56) rfl (zz_Ok_none _ _) ?_
  refine zz_cons (k' := 57) rfl (zz_Ok_none _ _) ?_
  refine zz_cons (k' := 58) rfl (zk_aload_n X dX12_ownKind_57 rfl rfl) ?_
  refine zz_cons (k' := 59) rfl (zk_getf X ff_X12_193 dX12_ownKind_58 rfl) ?_
  refine zz_cons (k' := 60) rfl (zz_Ok_none _ _) ?_
  refine zz_cons (k' := 61) rfl (zz_Ok_none _ _) ?_
  refine zz_cons (k' := 62) rfl (zk_iconst X dX12_ownKind_61 (by decide) rfl) ?_
  refine zz_cons (k' := 63) rfl (zk_icmp_ne X dX12_ownKind_62 (by decide) rfl) ?_
  refine zz_cons (k' := 64) rfl (zz_Ok_none _ _) ?_
  refine zz_cons (k' := 65) rfl (zz_Ok_none _ _) ?_
  refine zz_cons (k' := 66) rfl (zk_iconst X dX12_ownKind_65 (by decide) rfl) ?_
  refine zz_cons (k' := 67) rfl (zk_goto X dX12_ownKind_66 (by decide)) ?_
  refine zz_cons (k' := 68) rfl (zz_Ok_none _ _) ?_
  refine zz_cons (k' := 69) rfl (zz_Ok_none _ _) ?_
  refine zz_cons (k' := 70) rfl (zk_iconst X dX12_ownKind_69 (by decide) rfl) ?_
  refine zz_cons (k' := 71) rfl (zk_iret X rfl dX12_ownKind_70) ?_
  exact trivial
noncomputable def tX12_comeAll : List zzOp := [
  zo_pushI 0 1,
  zo_istore 3 2,
  zo_pushI 0 3,
  zo_istore 4 5,
  zo_none,
  zo_iload 4 7,
  zo_none,
  zo_aload 0 8,
  zo_getf zzSR (zz_kf [10] 5) 11,
  zo_none,
  zo_none,
  zo_icmp (fun x y => decide (y ≤ x)) 226 14,
  zo_none,
  zo_none,
  zo_aload 0 15,
  zo_iload 4 17,
  zo_none,
  zo_callv zzSR (zz_cl [(10, fX12_isGoneThere)]) 1 20,
  zo_none,
  zo_none,
  zo_if (fun x => decide (¬ x = 0)) 27 23,
  zo_none,
  zo_none,
  zo_pushI 1 24,
  zo_goto 28,
  zo_none,
  zo_none,
  zo_pushI 0 28,
  zo_istore 5 30,
  zo_none,
  zo_iload 5 32,
  zo_none,
  zo_if (fun x => decide (x = 0)) 50 35,
  zo_none,
  zo_none,
  zo_aload 0 36,
  zo_getf zzSR (zz_kf [10] 6) 39,
  zo_none,
  zo_none,
  zo_iload 4 41,
  zo_none,
  zo_iald zzSR zzSTR 42,
  zo_pushI 2 43,
  zo_icmp (fun x y => decide (¬ x = y)) 50 46,
  zo_none,
  zo_none,
  zo_pushI 1 47,
  zo_goto 51,
  zo_none,
  zo_none,
  zo_pushI 0 51,
  zo_istore 6 53,
  zo_none,
  zo_iload 6 55,
  zo_none,
  zo_if (fun x => decide (x = 0)) 95 58,
  zo_none,
  zo_none,
  zo_aload 0 59,
  zo_iload 4 61,
  zo_none,
  zo_pushI 13 63,
  zo_none,
  zo_callv zzSR (zz_cl [(10, fX12_viewed)]) 2 66,
  zo_none,
  zo_none,
  zo_if (fun x => decide (¬ x = 0)) 95 69,
  zo_none,
  zo_none,
  zo_aload 0 70,
  zo_iload 4 72,
  zo_none,
  zo_pushI 16 74,
  zo_none,
  zo_callv zzSR (zz_cl [(10, fX12_viewed)]) 2 77,
  zo_none,
  zo_none,
  zo_if (fun x => decide (¬ x = 0)) 95 80,
  zo_none,
  zo_none,
  zo_aload 0 81,
  zo_iload 4 83,
  zo_none,
  zo_pushI 15 85,
  zo_none,
  zo_callv zzSR (zz_cl [(10, fX12_viewed)]) 2 88,
  zo_none,
  zo_none,
  zo_if (fun x => decide (¬ x = 0)) 95 91,
  zo_none,
  zo_none,
  zo_pushI 1 92,
  zo_goto 96,
  zo_none,
  zo_none,
  zo_pushI 0 96,
  zo_istore 7 98,
  zo_none,
  zo_iload 6 100,
  zo_none,
  zo_if (fun x => decide (x = 0)) 121 103,
  zo_none,
  zo_none,
  zo_aload 0 104,
  zo_iload 4 106,
  zo_none,
  zo_pushI 15 108,
  zo_none,
  zo_callv zzSR (zz_cl [(10, fX12_viewed)]) 2 111,
  zo_none,
  zo_none,
  zo_iload 2 112,
  zo_pushI 1 113,
  zo_ii (fun x y => x + y) 114,
  zo_icmp (fun x y => decide (¬ x = y)) 121 117,
  zo_none,
  zo_none,
  zo_pushI 1 118,
  zo_goto 122,
  zo_none,
  zo_none,
  zo_pushI 0 122,
  zo_istore 8 124,
  zo_none,
  zo_iload 5 126,
  zo_none,
  zo_if (fun x => decide (x = 0)) 147 129,
  zo_none,
  zo_none,
  zo_aload 0 130,
  zo_aload 0 131,
  zo_iload 4 133,
  zo_none,
  zo_callv zzSR (zz_cl [(10, fX12_view)]) 1 136,
  zo_none,
  zo_none,
  zo_callv zzSR (zz_cl [(10, fX12_ownerIn)]) 1 139,
  zo_none,
  zo_none,
  zo_iload 2 140,
  zo_icmp (fun x y => decide (¬ x = y)) 147 143,
  zo_none,
  zo_none,
  zo_pushI 1 144,
  zo_goto 148,
  zo_none,
  zo_none,
  zo_pushI 0 148,
  zo_istore 9 150,
  zo_none,
  zo_iload 1 151,
  zo_if (fun x => decide (¬ x = 0)) 178 154,
  zo_none,
  zo_none,
  zo_iload 5 156,
  zo_none,
  zo_if (fun x => decide (x = 0)) 174 159,
  zo_none,
  zo_none,
  zo_aload 0 160,
  zo_getf zzSR (zz_kf [10] 6) 163,
  zo_none,
  zo_none,
  zo_iload 4 165,
  zo_none,
  zo_iald zzSR zzSTR 166,
  zo_pushI 5 167,
  zo_icmp (fun x y => decide (¬ x = y)) 174 170,
  zo_none,
  zo_none,
  zo_pushI 1 171,
  zo_goto 200,
  zo_none,
  zo_none,
  zo_pushI 0 175,
  zo_goto 200,
  zo_none,
  zo_none,
  zo_iload 1 179,
  zo_pushI 1 180,
  zo_icmp (fun x y => decide (¬ x = y)) 188 183,
  zo_none,
  zo_none,
  zo_iload 7 185,
  zo_none,
  zo_goto 200,
  zo_none,
  zo_none,
  zo_iload 1 189,
  zo_pushI 2 190,
  zo_icmp (fun x y => decide (¬ x = y)) 198 193,
  zo_none,
  zo_none,
  zo_iload 8 195,
  zo_none,
  zo_goto 200,
  zo_none,
  zo_none,
  zo_iload 9 200,
  zo_none,
  zo_istore 10 202,
  zo_none,
  zo_iload 3 203,
  zo_iload 10 205,
  zo_none,
  zo_if (fun x => decide (x = 0)) 217 208,
  zo_none,
  zo_none,
  zo_aload 0 209,
  zo_iload 4 211,
  zo_none,
  zo_callv zzSR (zz_cl [(10, fX12_comes)]) 1 214,
  zo_none,
  zo_none,
  zo_goto 218,
  zo_none,
  zo_none,
  zo_pushI 0 218,
  zo_ii (fun x y => x + y) 219,
  zo_istore 3 220,
  zo_iinc 4 1 223,
  zo_none,
  zo_none,
  zo_goto 5,
  zo_none,
  zo_none,
  zo_iload 3 227,
  zo_iret false]
set_option maxRecDepth 100000 in
theorem tl_X12_comeAll : ∀ pc, zz_Tl (tX12_comeAll.getD pc zo_none) := by
  refine zz_Tl_mem ?_
  unfold tX12_comeAll
  refine List.forall_mem_cons.mpr ⟨(zo_pushI_tl _ _), ?_⟩
  refine List.forall_mem_cons.mpr ⟨(zo_istore_tl _ _), ?_⟩
  refine List.forall_mem_cons.mpr ⟨(zo_pushI_tl _ _), ?_⟩
  refine List.forall_mem_cons.mpr ⟨(zo_istore_tl _ _), ?_⟩
  refine List.forall_mem_cons.mpr ⟨zo_none_tl, ?_⟩
  refine List.forall_mem_cons.mpr ⟨(zo_iload_tl _ _), ?_⟩
  refine List.forall_mem_cons.mpr ⟨zo_none_tl, ?_⟩
  refine List.forall_mem_cons.mpr ⟨(zo_aload_tl _ _), ?_⟩
  refine List.forall_mem_cons.mpr ⟨(zo_getf_tl _ _ _), ?_⟩
  refine List.forall_mem_cons.mpr ⟨zo_none_tl, ?_⟩
  refine List.forall_mem_cons.mpr ⟨zo_none_tl, ?_⟩
  refine List.forall_mem_cons.mpr ⟨(zo_icmp_tl _ _ _), ?_⟩
  refine List.forall_mem_cons.mpr ⟨zo_none_tl, ?_⟩
  refine List.forall_mem_cons.mpr ⟨zo_none_tl, ?_⟩
  refine List.forall_mem_cons.mpr ⟨(zo_aload_tl _ _), ?_⟩
  refine List.forall_mem_cons.mpr ⟨(zo_iload_tl _ _), ?_⟩
  refine List.forall_mem_cons.mpr ⟨zo_none_tl, ?_⟩
  refine List.forall_mem_cons.mpr ⟨(zo_callv_tl _ _ _ _), ?_⟩
  refine List.forall_mem_cons.mpr ⟨zo_none_tl, ?_⟩
  refine List.forall_mem_cons.mpr ⟨zo_none_tl, ?_⟩
  refine List.forall_mem_cons.mpr ⟨(zo_if_tl _ _ _), ?_⟩
  refine List.forall_mem_cons.mpr ⟨zo_none_tl, ?_⟩
  refine List.forall_mem_cons.mpr ⟨zo_none_tl, ?_⟩
  refine List.forall_mem_cons.mpr ⟨(zo_pushI_tl _ _), ?_⟩
  refine List.forall_mem_cons.mpr ⟨(zo_goto_tl _), ?_⟩
  refine List.forall_mem_cons.mpr ⟨zo_none_tl, ?_⟩
  refine List.forall_mem_cons.mpr ⟨zo_none_tl, ?_⟩
  refine List.forall_mem_cons.mpr ⟨(zo_pushI_tl _ _), ?_⟩
  refine List.forall_mem_cons.mpr ⟨(zo_istore_tl _ _), ?_⟩
  refine List.forall_mem_cons.mpr ⟨zo_none_tl, ?_⟩
  refine List.forall_mem_cons.mpr ⟨(zo_iload_tl _ _), ?_⟩
  refine List.forall_mem_cons.mpr ⟨zo_none_tl, ?_⟩
  refine List.forall_mem_cons.mpr ⟨(zo_if_tl _ _ _), ?_⟩
  refine List.forall_mem_cons.mpr ⟨zo_none_tl, ?_⟩
  refine List.forall_mem_cons.mpr ⟨zo_none_tl, ?_⟩
  refine List.forall_mem_cons.mpr ⟨(zo_aload_tl _ _), ?_⟩
  refine List.forall_mem_cons.mpr ⟨(zo_getf_tl _ _ _), ?_⟩
  refine List.forall_mem_cons.mpr ⟨zo_none_tl, ?_⟩
  refine List.forall_mem_cons.mpr ⟨zo_none_tl, ?_⟩
  refine List.forall_mem_cons.mpr ⟨(zo_iload_tl _ _), ?_⟩
  refine List.forall_mem_cons.mpr ⟨zo_none_tl, ?_⟩
  refine List.forall_mem_cons.mpr ⟨(zo_iald_tl _ _ _), ?_⟩
  refine List.forall_mem_cons.mpr ⟨(zo_pushI_tl _ _), ?_⟩
  refine List.forall_mem_cons.mpr ⟨(zo_icmp_tl _ _ _), ?_⟩
  refine List.forall_mem_cons.mpr ⟨zo_none_tl, ?_⟩
  refine List.forall_mem_cons.mpr ⟨zo_none_tl, ?_⟩
  refine List.forall_mem_cons.mpr ⟨(zo_pushI_tl _ _), ?_⟩
  refine List.forall_mem_cons.mpr ⟨(zo_goto_tl _), ?_⟩
  refine List.forall_mem_cons.mpr ⟨zo_none_tl, ?_⟩
  refine List.forall_mem_cons.mpr ⟨zo_none_tl, ?_⟩
  refine List.forall_mem_cons.mpr ⟨(zo_pushI_tl _ _), ?_⟩
  refine List.forall_mem_cons.mpr ⟨(zo_istore_tl _ _), ?_⟩
  refine List.forall_mem_cons.mpr ⟨zo_none_tl, ?_⟩
  refine List.forall_mem_cons.mpr ⟨(zo_iload_tl _ _), ?_⟩
  refine List.forall_mem_cons.mpr ⟨zo_none_tl, ?_⟩
  refine List.forall_mem_cons.mpr ⟨(zo_if_tl _ _ _), ?_⟩
  refine List.forall_mem_cons.mpr ⟨zo_none_tl, ?_⟩
  refine List.forall_mem_cons.mpr ⟨zo_none_tl, ?_⟩
  refine List.forall_mem_cons.mpr ⟨(zo_aload_tl _ _), ?_⟩
  refine List.forall_mem_cons.mpr ⟨(zo_iload_tl _ _), ?_⟩
  refine List.forall_mem_cons.mpr ⟨zo_none_tl, ?_⟩
  refine List.forall_mem_cons.mpr ⟨(zo_pushI_tl _ _), ?_⟩
  refine List.forall_mem_cons.mpr ⟨zo_none_tl, ?_⟩
  refine List.forall_mem_cons.mpr ⟨(zo_callv_tl _ _ _ _), ?_⟩
  refine List.forall_mem_cons.mpr ⟨zo_none_tl, ?_⟩
  refine List.forall_mem_cons.mpr ⟨zo_none_tl, ?_⟩
  refine List.forall_mem_cons.mpr ⟨(zo_if_tl _ _ _), ?_⟩
  refine List.forall_mem_cons.mpr ⟨zo_none_tl, ?_⟩
  refine List.forall_mem_cons.mpr ⟨zo_none_tl, ?_⟩
  refine List.forall_mem_cons.mpr ⟨(zo_aload_tl _ _), ?_⟩
  refine List.forall_mem_cons.mpr ⟨(zo_iload_tl _ _), ?_⟩
  refine List.forall_mem_cons.mpr ⟨zo_none_tl, ?_⟩
  refine List.forall_mem_cons.mpr ⟨(zo_pushI_tl _ _), ?_⟩
  refine List.forall_mem_cons.mpr ⟨zo_none_tl, ?_⟩
  refine List.forall_mem_cons.mpr ⟨(zo_callv_tl _ _ _ _), ?_⟩
  refine List.forall_mem_cons.mpr ⟨zo_none_tl, ?_⟩
  refine List.forall_mem_cons.mpr ⟨zo_none_tl, ?_⟩
  refine List.forall_mem_cons.mpr ⟨(zo_if_tl _ _ _), ?_⟩
  refine List.forall_mem_cons.mpr ⟨zo_none_tl, ?_⟩
  refine List.forall_mem_cons.mpr ⟨zo_none_tl, ?_⟩
  refine List.forall_mem_cons.mpr ⟨(zo_aload_tl _ _), ?_⟩
  refine List.forall_mem_cons.mpr ⟨(zo_iload_tl _ _), ?_⟩
  refine List.forall_mem_cons.mpr ⟨zo_none_tl, ?_⟩
  refine List.forall_mem_cons.mpr ⟨(zo_pushI_tl _ _), ?_⟩
  refine List.forall_mem_cons.mpr ⟨zo_none_tl, ?_⟩
  refine List.forall_mem_cons.mpr ⟨(zo_callv_tl _ _ _ _), ?_⟩
  refine List.forall_mem_cons.mpr ⟨zo_none_tl, ?_⟩
  refine List.forall_mem_cons.mpr ⟨zo_none_tl, ?_⟩
  refine List.forall_mem_cons.mpr ⟨(zo_if_tl _ _ _), ?_⟩
  refine List.forall_mem_cons.mpr ⟨zo_none_tl, ?_⟩
  refine List.forall_mem_cons.mpr ⟨zo_none_tl, ?_⟩
  refine List.forall_mem_cons.mpr ⟨(zo_pushI_tl _ _), ?_⟩
  refine List.forall_mem_cons.mpr ⟨(zo_goto_tl _), ?_⟩
  refine List.forall_mem_cons.mpr ⟨zo_none_tl, ?_⟩
  refine List.forall_mem_cons.mpr ⟨zo_none_tl, ?_⟩
  refine List.forall_mem_cons.mpr ⟨(zo_pushI_tl _ _), ?_⟩
  refine List.forall_mem_cons.mpr ⟨(zo_istore_tl _ _), ?_⟩
  refine List.forall_mem_cons.mpr ⟨zo_none_tl, ?_⟩
  refine List.forall_mem_cons.mpr ⟨(zo_iload_tl _ _), ?_⟩
  refine List.forall_mem_cons.mpr ⟨zo_none_tl, ?_⟩
  refine List.forall_mem_cons.mpr ⟨(zo_if_tl _ _ _), ?_⟩
  refine List.forall_mem_cons.mpr ⟨zo_none_tl, ?_⟩
  refine List.forall_mem_cons.mpr ⟨zo_none_tl, ?_⟩
  refine List.forall_mem_cons.mpr ⟨(zo_aload_tl _ _), ?_⟩
  refine List.forall_mem_cons.mpr ⟨(zo_iload_tl _ _), ?_⟩
  refine List.forall_mem_cons.mpr ⟨zo_none_tl, ?_⟩
  refine List.forall_mem_cons.mpr ⟨(zo_pushI_tl _ _), ?_⟩
  refine List.forall_mem_cons.mpr ⟨zo_none_tl, ?_⟩
  refine List.forall_mem_cons.mpr ⟨(zo_callv_tl _ _ _ _), ?_⟩
  refine List.forall_mem_cons.mpr ⟨zo_none_tl, ?_⟩
  refine List.forall_mem_cons.mpr ⟨zo_none_tl, ?_⟩
  refine List.forall_mem_cons.mpr ⟨(zo_iload_tl _ _), ?_⟩
  refine List.forall_mem_cons.mpr ⟨(zo_pushI_tl _ _), ?_⟩
  refine List.forall_mem_cons.mpr ⟨(zo_ii_tl _ _), ?_⟩
  refine List.forall_mem_cons.mpr ⟨(zo_icmp_tl _ _ _), ?_⟩
  refine List.forall_mem_cons.mpr ⟨zo_none_tl, ?_⟩
  refine List.forall_mem_cons.mpr ⟨zo_none_tl, ?_⟩
  refine List.forall_mem_cons.mpr ⟨(zo_pushI_tl _ _), ?_⟩
  refine List.forall_mem_cons.mpr ⟨(zo_goto_tl _), ?_⟩
  refine List.forall_mem_cons.mpr ⟨zo_none_tl, ?_⟩
  refine List.forall_mem_cons.mpr ⟨zo_none_tl, ?_⟩
  refine List.forall_mem_cons.mpr ⟨(zo_pushI_tl _ _), ?_⟩
  refine List.forall_mem_cons.mpr ⟨(zo_istore_tl _ _), ?_⟩
  refine List.forall_mem_cons.mpr ⟨zo_none_tl, ?_⟩
  refine List.forall_mem_cons.mpr ⟨(zo_iload_tl _ _), ?_⟩
  refine List.forall_mem_cons.mpr ⟨zo_none_tl, ?_⟩
  refine List.forall_mem_cons.mpr ⟨(zo_if_tl _ _ _), ?_⟩
  refine List.forall_mem_cons.mpr ⟨zo_none_tl, ?_⟩
  refine List.forall_mem_cons.mpr ⟨zo_none_tl, ?_⟩
  refine List.forall_mem_cons.mpr ⟨(zo_aload_tl _ _), ?_⟩
  refine List.forall_mem_cons.mpr ⟨(zo_aload_tl _ _), ?_⟩
  refine List.forall_mem_cons.mpr ⟨(zo_iload_tl _ _), ?_⟩
  refine List.forall_mem_cons.mpr ⟨zo_none_tl, ?_⟩
  refine List.forall_mem_cons.mpr ⟨(zo_callv_tl _ _ _ _), ?_⟩
  refine List.forall_mem_cons.mpr ⟨zo_none_tl, ?_⟩
  refine List.forall_mem_cons.mpr ⟨zo_none_tl, ?_⟩
  refine List.forall_mem_cons.mpr ⟨(zo_callv_tl _ _ _ _), ?_⟩
  refine List.forall_mem_cons.mpr ⟨zo_none_tl, ?_⟩
  refine List.forall_mem_cons.mpr ⟨zo_none_tl, ?_⟩
  refine List.forall_mem_cons.mpr ⟨(zo_iload_tl _ _), ?_⟩
  refine List.forall_mem_cons.mpr ⟨(zo_icmp_tl _ _ _), ?_⟩
  refine List.forall_mem_cons.mpr ⟨zo_none_tl, ?_⟩
  refine List.forall_mem_cons.mpr ⟨zo_none_tl, ?_⟩
  refine List.forall_mem_cons.mpr ⟨(zo_pushI_tl _ _), ?_⟩
  refine List.forall_mem_cons.mpr ⟨(zo_goto_tl _), ?_⟩
  refine List.forall_mem_cons.mpr ⟨zo_none_tl, ?_⟩
  refine List.forall_mem_cons.mpr ⟨zo_none_tl, ?_⟩
  refine List.forall_mem_cons.mpr ⟨(zo_pushI_tl _ _), ?_⟩
  refine List.forall_mem_cons.mpr ⟨(zo_istore_tl _ _), ?_⟩
  refine List.forall_mem_cons.mpr ⟨zo_none_tl, ?_⟩
  refine List.forall_mem_cons.mpr ⟨(zo_iload_tl _ _), ?_⟩
  refine List.forall_mem_cons.mpr ⟨(zo_if_tl _ _ _), ?_⟩
  refine List.forall_mem_cons.mpr ⟨zo_none_tl, ?_⟩
  refine List.forall_mem_cons.mpr ⟨zo_none_tl, ?_⟩
  refine List.forall_mem_cons.mpr ⟨(zo_iload_tl _ _), ?_⟩
  refine List.forall_mem_cons.mpr ⟨zo_none_tl, ?_⟩
  refine List.forall_mem_cons.mpr ⟨(zo_if_tl _ _ _), ?_⟩
  refine List.forall_mem_cons.mpr ⟨zo_none_tl, ?_⟩
  refine List.forall_mem_cons.mpr ⟨zo_none_tl, ?_⟩
  refine List.forall_mem_cons.mpr ⟨(zo_aload_tl _ _), ?_⟩
  refine List.forall_mem_cons.mpr ⟨(zo_getf_tl _ _ _), ?_⟩
  refine List.forall_mem_cons.mpr ⟨zo_none_tl, ?_⟩
  refine List.forall_mem_cons.mpr ⟨zo_none_tl, ?_⟩
  refine List.forall_mem_cons.mpr ⟨(zo_iload_tl _ _), ?_⟩
  refine List.forall_mem_cons.mpr ⟨zo_none_tl, ?_⟩
  refine List.forall_mem_cons.mpr ⟨(zo_iald_tl _ _ _), ?_⟩
  refine List.forall_mem_cons.mpr ⟨(zo_pushI_tl _ _), ?_⟩
  refine List.forall_mem_cons.mpr ⟨(zo_icmp_tl _ _ _), ?_⟩
  refine List.forall_mem_cons.mpr ⟨zo_none_tl, ?_⟩
  refine List.forall_mem_cons.mpr ⟨zo_none_tl, ?_⟩
  refine List.forall_mem_cons.mpr ⟨(zo_pushI_tl _ _), ?_⟩
  refine List.forall_mem_cons.mpr ⟨(zo_goto_tl _), ?_⟩
  refine List.forall_mem_cons.mpr ⟨zo_none_tl, ?_⟩
  refine List.forall_mem_cons.mpr ⟨zo_none_tl, ?_⟩
  refine List.forall_mem_cons.mpr ⟨(zo_pushI_tl _ _), ?_⟩
  refine List.forall_mem_cons.mpr ⟨(zo_goto_tl _), ?_⟩
  refine List.forall_mem_cons.mpr ⟨zo_none_tl, ?_⟩
  refine List.forall_mem_cons.mpr ⟨zo_none_tl, ?_⟩
  refine List.forall_mem_cons.mpr ⟨(zo_iload_tl _ _), ?_⟩
  refine List.forall_mem_cons.mpr ⟨(zo_pushI_tl _ _), ?_⟩
  refine List.forall_mem_cons.mpr ⟨(zo_icmp_tl _ _ _), ?_⟩
  refine List.forall_mem_cons.mpr ⟨zo_none_tl, ?_⟩
  refine List.forall_mem_cons.mpr ⟨zo_none_tl, ?_⟩
  refine List.forall_mem_cons.mpr ⟨(zo_iload_tl _ _), ?_⟩
  refine List.forall_mem_cons.mpr ⟨zo_none_tl, ?_⟩
  refine List.forall_mem_cons.mpr ⟨(zo_goto_tl _), ?_⟩
  refine List.forall_mem_cons.mpr ⟨zo_none_tl, ?_⟩
  refine List.forall_mem_cons.mpr ⟨zo_none_tl, ?_⟩
  refine List.forall_mem_cons.mpr ⟨(zo_iload_tl _ _), ?_⟩
  refine List.forall_mem_cons.mpr ⟨(zo_pushI_tl _ _), ?_⟩
  refine List.forall_mem_cons.mpr ⟨(zo_icmp_tl _ _ _), ?_⟩
  refine List.forall_mem_cons.mpr ⟨zo_none_tl, ?_⟩
  refine List.forall_mem_cons.mpr ⟨zo_none_tl, ?_⟩
  refine List.forall_mem_cons.mpr ⟨(zo_iload_tl _ _), ?_⟩
  refine List.forall_mem_cons.mpr ⟨zo_none_tl, ?_⟩
  refine List.forall_mem_cons.mpr ⟨(zo_goto_tl _), ?_⟩
  refine List.forall_mem_cons.mpr ⟨zo_none_tl, ?_⟩
  refine List.forall_mem_cons.mpr ⟨zo_none_tl, ?_⟩
  refine List.forall_mem_cons.mpr ⟨(zo_iload_tl _ _), ?_⟩
  refine List.forall_mem_cons.mpr ⟨zo_none_tl, ?_⟩
  refine List.forall_mem_cons.mpr ⟨(zo_istore_tl _ _), ?_⟩
  refine List.forall_mem_cons.mpr ⟨zo_none_tl, ?_⟩
  refine List.forall_mem_cons.mpr ⟨(zo_iload_tl _ _), ?_⟩
  refine List.forall_mem_cons.mpr ⟨(zo_iload_tl _ _), ?_⟩
  refine List.forall_mem_cons.mpr ⟨zo_none_tl, ?_⟩
  refine List.forall_mem_cons.mpr ⟨(zo_if_tl _ _ _), ?_⟩
  refine List.forall_mem_cons.mpr ⟨zo_none_tl, ?_⟩
  refine List.forall_mem_cons.mpr ⟨zo_none_tl, ?_⟩
  refine List.forall_mem_cons.mpr ⟨(zo_aload_tl _ _), ?_⟩
  refine List.forall_mem_cons.mpr ⟨(zo_iload_tl _ _), ?_⟩
  refine List.forall_mem_cons.mpr ⟨zo_none_tl, ?_⟩
  refine List.forall_mem_cons.mpr ⟨(zo_callv_tl _ _ _ _), ?_⟩
  refine List.forall_mem_cons.mpr ⟨zo_none_tl, ?_⟩
  refine List.forall_mem_cons.mpr ⟨zo_none_tl, ?_⟩
  refine List.forall_mem_cons.mpr ⟨(zo_goto_tl _), ?_⟩
  refine List.forall_mem_cons.mpr ⟨zo_none_tl, ?_⟩
  refine List.forall_mem_cons.mpr ⟨zo_none_tl, ?_⟩
  refine List.forall_mem_cons.mpr ⟨(zo_pushI_tl _ _), ?_⟩
  refine List.forall_mem_cons.mpr ⟨(zo_ii_tl _ _), ?_⟩
  refine List.forall_mem_cons.mpr ⟨(zo_istore_tl _ _), ?_⟩
  refine List.forall_mem_cons.mpr ⟨(zo_iinc_tl _ _ _), ?_⟩
  refine List.forall_mem_cons.mpr ⟨zo_none_tl, ?_⟩
  refine List.forall_mem_cons.mpr ⟨zo_none_tl, ?_⟩
  refine List.forall_mem_cons.mpr ⟨(zo_goto_tl _), ?_⟩
  refine List.forall_mem_cons.mpr ⟨zo_none_tl, ?_⟩
  refine List.forall_mem_cons.mpr ⟨zo_none_tl, ?_⟩
  refine List.forall_mem_cons.mpr ⟨(zo_iload_tl _ _), ?_⟩
  refine List.forall_mem_cons.mpr ⟨(zo_iret_tl _), ?_⟩
  exact fun _ h => absurd h List.not_mem_nil
noncomputable def fX12_comeAll : zzFn := zz_fn tX12_comeAll 11
set_option maxRecDepth 100000 in
set_option maxHeartbeats 4000000 in
theorem mm_X12_comeAll {l : Launch} {D : va_G} {cA : Nat → ClassId} {ad : Nat → Nat} {Ex : (Nat → Prop) → State → Heap → Prop} (Wd : zzWR l D cA ad Ex) : zz_Cn l D zzCl cA ad zzSR Ex yX12_comeAll cX12_comeAll 11 (some .int) 3 66 fX12_comeAll ∧ zz_Cx l D zzCl cA ad zzSR Ex yX12_comeAll cX12_comeAll 11 (some .int) 3 66 fX12_comeAll := by
  refine zz_meth (plainFor_of_name (by decide)) Wd.1 Wd.2.1 Wd.2.2 (fun p e R s m args below meth c rr X => ?_)
  unfold tX12_comeAll
  refine zz_cons (k' := 1) rfl (zk_iconst X dX12_comeAll_0 (by decide) rfl) ?_
  refine zz_cons (k' := 2) rfl (zk_istore_n X dX12_comeAll_1 rfl (by decide) rfl) ?_
  refine zz_cons (k' := 3) rfl (zk_iconst X dX12_comeAll_2 (by decide) rfl) ?_
  refine zz_cons (k' := 4) rfl (zk_istore X dX12_comeAll_3 (by decide) rfl) ?_
  refine zz_cons (k' := 5) rfl (zz_Ok_none _ _) ?_
  refine zz_cons (k' := 6) rfl (zk_iload X dX12_comeAll_5 rfl) ?_
  refine zz_cons (k' := 7) rfl (zz_Ok_none _ _) ?_
  refine zz_cons (k' := 8) rfl (zk_aload_n X dX12_comeAll_7 rfl rfl) ?_
  refine zz_cons (k' := 9) rfl (zk_getf X ff_X12_137 dX12_comeAll_8 rfl) ?_
  refine zz_cons (k' := 10) rfl (zz_Ok_none _ _) ?_
  refine zz_cons (k' := 11) rfl (zz_Ok_none _ _) ?_
  refine zz_cons (k' := 12) rfl (zk_icmp_ge X dX12_comeAll_11 (by decide) rfl) ?_
  refine zz_cons (k' := 13) rfl (zz_Ok_none _ _) ?_
  refine zz_cons (k' := 14) rfl (zz_Ok_none _ _) ?_
  refine zz_cons (k' := 15) rfl (zk_aload_n X dX12_comeAll_14 rfl rfl) ?_
  refine zz_cons (k' := 16) rfl (zk_iload X dX12_comeAll_15 rfl) ?_
  refine zz_cons (k' := 17) rfl (zz_Ok_none _ _) ?_
  refine zz_cons (k' := 18) rfl (zk_callv X (zz_Cv_of (List.forall_mem_cons.mpr ⟨⟨(RX_10, zzT10, 50), yX12_isGoneThere, cX12_isGoneThere, 2, (some .boolean), 2, 45, rfl, kv_X12_211_10.1, (mm_X12_isGoneThere Wd).1, by decide, by decide⟩, (fun _ h => absurd h List.not_mem_nil)⟩)) dX12_comeAll_17 rfl) ?_
  refine zz_cons (k' := 19) rfl (zz_Ok_none _ _) ?_
  refine zz_cons (k' := 20) rfl (zz_Ok_none _ _) ?_
  refine zz_cons (k' := 21) rfl (zk_if_ne X dX12_comeAll_20 (by decide) rfl) ?_
  refine zz_cons (k' := 22) rfl (zz_Ok_none _ _) ?_
  refine zz_cons (k' := 23) rfl (zz_Ok_none _ _) ?_
  refine zz_cons (k' := 24) rfl (zk_iconst X dX12_comeAll_23 (by decide) rfl) ?_
  refine zz_cons (k' := 25) rfl (zk_goto X dX12_comeAll_24 (by decide)) ?_
  refine zz_cons (k' := 26) rfl (zz_Ok_none _ _) ?_
  refine zz_cons (k' := 27) rfl (zz_Ok_none _ _) ?_
  refine zz_cons (k' := 28) rfl (zk_iconst X dX12_comeAll_27 (by decide) rfl) ?_
  refine zz_cons (k' := 29) rfl (zk_istore X dX12_comeAll_28 (by decide) rfl) ?_
  refine zz_cons (k' := 30) rfl (zz_Ok_none _ _) ?_
  refine zz_cons (k' := 31) rfl (zk_iload X dX12_comeAll_30 rfl) ?_
  refine zz_cons (k' := 32) rfl (zz_Ok_none _ _) ?_
  refine zz_cons (k' := 33) rfl (zk_if_eq X dX12_comeAll_32 (by decide) rfl) ?_
  refine zz_cons (k' := 34) rfl (zz_Ok_none _ _) ?_
  refine zz_cons (k' := 35) rfl (zz_Ok_none _ _) ?_
  refine zz_cons (k' := 36) rfl (zk_aload_n X dX12_comeAll_35 rfl rfl) ?_
  refine zz_cons (k' := 37) rfl (zk_getf X ff_X12_25 dX12_comeAll_36 rfl) ?_
  refine zz_cons (k' := 38) rfl (zz_Ok_none _ _) ?_
  refine zz_cons (k' := 39) rfl (zz_Ok_none _ _) ?_
  refine zz_cons (k' := 40) rfl (zk_iload X dX12_comeAll_39 rfl) ?_
  refine zz_cons (k' := 41) rfl (zz_Ok_none _ _) ?_
  refine zz_cons (k' := 42) rfl (zk_iald X (zzWR_st Wd) dX12_comeAll_41 rfl) ?_
  refine zz_cons (k' := 43) rfl (zk_iconst X dX12_comeAll_42 (by decide) rfl) ?_
  refine zz_cons (k' := 44) rfl (zk_icmp_ne X dX12_comeAll_43 (by decide) rfl) ?_
  refine zz_cons (k' := 45) rfl (zz_Ok_none _ _) ?_
  refine zz_cons (k' := 46) rfl (zz_Ok_none _ _) ?_
  refine zz_cons (k' := 47) rfl (zk_iconst X dX12_comeAll_46 (by decide) rfl) ?_
  refine zz_cons (k' := 48) rfl (zk_goto X dX12_comeAll_47 (by decide)) ?_
  refine zz_cons (k' := 49) rfl (zz_Ok_none _ _) ?_
  refine zz_cons (k' := 50) rfl (zz_Ok_none _ _) ?_
  refine zz_cons (k' := 51) rfl (zk_iconst X dX12_comeAll_50 (by decide) rfl) ?_
  refine zz_cons (k' := 52) rfl (zk_istore X dX12_comeAll_51 (by decide) rfl) ?_
  refine zz_cons (k' := 53) rfl (zz_Ok_none _ _) ?_
  refine zz_cons (k' := 54) rfl (zk_iload X dX12_comeAll_53 rfl) ?_
  refine zz_cons (k' := 55) rfl (zz_Ok_none _ _) ?_
  refine zz_cons (k' := 56) rfl (zk_if_eq X dX12_comeAll_55 (by decide) rfl) ?_
  refine zz_cons (k' := 57) rfl (zz_Ok_none _ _) ?_
  refine zz_cons (k' := 58) rfl (zz_Ok_none _ _) ?_
  refine zz_cons (k' := 59) rfl (zk_aload_n X dX12_comeAll_58 rfl rfl) ?_
  refine zz_cons (k' := 60) rfl (zk_iload X dX12_comeAll_59 rfl) ?_
  refine zz_cons (k' := 61) rfl (zz_Ok_none _ _) ?_
  refine zz_cons (k' := 62) rfl (zk_bipush X dX12_comeAll_61 (by decide) rfl) ?_
  refine zz_cons (k' := 63) rfl (zz_Ok_none _ _) ?_
  refine zz_cons (k' := 64) rfl (zk_callv X (zz_Cv_of (List.forall_mem_cons.mpr ⟨⟨(RX_10, zzT10, 50), yX12_viewed, cX12_viewed, 3, (some .int), 1, 23, rfl, kv_X12_204_10.1, (mm_X12_viewed Wd).1, by decide, by decide⟩, (fun _ h => absurd h List.not_mem_nil)⟩)) dX12_comeAll_63 rfl) ?_
  refine zz_cons (k' := 65) rfl (zz_Ok_none _ _) ?_
  refine zz_cons (k' := 66) rfl (zz_Ok_none _ _) ?_
  refine zz_cons (k' := 67) rfl (zk_if_ne X dX12_comeAll_66 (by decide) rfl) ?_
  refine zz_cons (k' := 68) rfl (zz_Ok_none _ _) ?_
  refine zz_cons (k' := 69) rfl (zz_Ok_none _ _) ?_
  refine zz_cons (k' := 70) rfl (zk_aload_n X dX12_comeAll_69 rfl rfl) ?_
  refine zz_cons (k' := 71) rfl (zk_iload X dX12_comeAll_70 rfl) ?_
  refine zz_cons (k' := 72) rfl (zz_Ok_none _ _) ?_
  refine zz_cons (k' := 73) rfl (zk_bipush X dX12_comeAll_72 (by decide) rfl) ?_
  refine zz_cons (k' := 74) rfl (zz_Ok_none _ _) ?_
  refine zz_cons (k' := 75) rfl (zk_callv X (zz_Cv_of (List.forall_mem_cons.mpr ⟨⟨(RX_10, zzT10, 50), yX12_viewed, cX12_viewed, 3, (some .int), 1, 23, rfl, kv_X12_204_10.1, (mm_X12_viewed Wd).1, by decide, by decide⟩, (fun _ h => absurd h List.not_mem_nil)⟩)) dX12_comeAll_74 rfl) ?_
  refine zz_cons (k' := 76) rfl (zz_Ok_none _ _) ?_
  refine zz_cons (k' := 77) rfl (zz_Ok_none _ _) ?_
  refine zz_cons (k' := 78) rfl (zk_if_ne X dX12_comeAll_77 (by decide) rfl) ?_
  refine zz_cons (k' := 79) rfl (zz_Ok_none _ _) ?_
  refine zz_cons (k' := 80) rfl (zz_Ok_none _ _) ?_
  refine zz_cons (k' := 81) rfl (zk_aload_n X dX12_comeAll_80 rfl rfl) ?_
  refine zz_cons (k' := 82) rfl (zk_iload X dX12_comeAll_81 rfl) ?_
  refine zz_cons (k' := 83) rfl (zz_Ok_none _ _) ?_
  refine zz_cons (k' := 84) rfl (zk_bipush X dX12_comeAll_83 (by decide) rfl) ?_
  refine zz_cons (k' := 85) rfl (zz_Ok_none _ _) ?_
  refine zz_cons (k' := 86) rfl (zk_callv X (zz_Cv_of (List.forall_mem_cons.mpr ⟨⟨(RX_10, zzT10, 50), yX12_viewed, cX12_viewed, 3, (some .int), 1, 23, rfl, kv_X12_204_10.1, (mm_X12_viewed Wd).1, by decide, by decide⟩, (fun _ h => absurd h List.not_mem_nil)⟩)) dX12_comeAll_85 rfl) ?_
  refine zz_cons (k' := 87) rfl (zz_Ok_none _ _) ?_
  refine zz_cons (k' := 88) rfl (zz_Ok_none _ _) ?_
  refine zz_cons (k' := 89) rfl (zk_if_ne X dX12_comeAll_88 (by decide) rfl) ?_
  refine zz_cons (k' := 90) rfl (zz_Ok_none _ _) ?_
  refine zz_cons (k' := 91) rfl (zz_Ok_none _ _) ?_
  refine zz_cons (k' := 92) rfl (zk_iconst X dX12_comeAll_91 (by decide) rfl) ?_
  refine zz_cons (k' := 93) rfl (zk_goto X dX12_comeAll_92 (by decide)) ?_
  refine zz_cons (k' := 94) rfl (zz_Ok_none _ _) ?_
  refine zz_cons (k' := 95) rfl (zz_Ok_none _ _) ?_
  refine zz_cons (k' := 96) rfl (zk_iconst X dX12_comeAll_95 (by decide) rfl) ?_
  refine zz_cons (k' := 97) rfl (zk_istore X dX12_comeAll_96 (by decide) rfl) ?_
  refine zz_cons (k' := 98) rfl (zz_Ok_none _ _) ?_
  refine zz_cons (k' := 99) rfl (zk_iload X dX12_comeAll_98 rfl) ?_
  refine zz_cons (k' := 100) rfl (zz_Ok_none _ _) ?_
  refine zz_cons (k' := 101) rfl (zk_if_eq X dX12_comeAll_100 (by decide) rfl) ?_
  refine zz_cons (k' := 102) rfl (zz_Ok_none _ _) ?_
  refine zz_cons (k' := 103) rfl (zz_Ok_none _ _) ?_
  refine zz_cons (k' := 104) rfl (zk_aload_n X dX12_comeAll_103 rfl rfl) ?_
  refine zz_cons (k' := 105) rfl (zk_iload X dX12_comeAll_104 rfl) ?_
  refine zz_cons (k' := 106) rfl (zz_Ok_none _ _) ?_
  refine zz_cons (k' := 107) rfl (zk_bipush X dX12_comeAll_106 (by decide) rfl) ?_
  refine zz_cons (k' := 108) rfl (zz_Ok_none _ _) ?_
  refine zz_cons (k' := 109) rfl (zk_callv X (zz_Cv_of (List.forall_mem_cons.mpr ⟨⟨(RX_10, zzT10, 50), yX12_viewed, cX12_viewed, 3, (some .int), 1, 23, rfl, kv_X12_204_10.1, (mm_X12_viewed Wd).1, by decide, by decide⟩, (fun _ h => absurd h List.not_mem_nil)⟩)) dX12_comeAll_108 rfl) ?_
  refine zz_cons (k' := 110) rfl (zz_Ok_none _ _) ?_
  refine zz_cons (k' := 111) rfl (zz_Ok_none _ _) ?_
  refine zz_cons (k' := 112) rfl (zk_iload_n X dX12_comeAll_111 rfl rfl) ?_
  refine zz_cons (k' := 113) rfl (zk_iconst X dX12_comeAll_112 (by decide) rfl) ?_
  refine zz_cons (k' := 114) rfl (zk_iadd X dX12_comeAll_113 rfl) ?_
  refine zz_cons (k' := 115) rfl (zk_icmp_ne X dX12_comeAll_114 (by decide) rfl) ?_
  refine zz_cons (k' := 116) rfl (zz_Ok_none _ _) ?_
  refine zz_cons (k' := 117) rfl (zz_Ok_none _ _) ?_
  refine zz_cons (k' := 118) rfl (zk_iconst X dX12_comeAll_117 (by decide) rfl) ?_
  refine zz_cons (k' := 119) rfl (zk_goto X dX12_comeAll_118 (by decide)) ?_
  refine zz_cons (k' := 120) rfl (zz_Ok_none _ _) ?_
  refine zz_cons (k' := 121) rfl (zz_Ok_none _ _) ?_
  refine zz_cons (k' := 122) rfl (zk_iconst X dX12_comeAll_121 (by decide) rfl) ?_
  refine zz_cons (k' := 123) rfl (zk_istore X dX12_comeAll_122 (by decide) rfl) ?_
  refine zz_cons (k' := 124) rfl (zz_Ok_none _ _) ?_
  refine zz_cons (k' := 125) rfl (zk_iload X dX12_comeAll_124 rfl) ?_
  refine zz_cons (k' := 126) rfl (zz_Ok_none _ _) ?_
  refine zz_cons (k' := 127) rfl (zk_if_eq X dX12_comeAll_126 (by decide) rfl) ?_
  refine zz_cons (k' := 128) rfl (zz_Ok_none _ _) ?_
  refine zz_cons (k' := 129) rfl (zz_Ok_none _ _) ?_
  refine zz_cons (k' := 130) rfl (zk_aload_n X dX12_comeAll_129 rfl rfl) ?_
  refine zz_cons (k' := 131) rfl (zk_aload_n X dX12_comeAll_130 rfl rfl) ?_
  refine zz_cons (k' := 132) rfl (zk_iload X dX12_comeAll_131 rfl) ?_
  refine zz_cons (k' := 133) rfl (zz_Ok_none _ _) ?_
  refine zz_cons (k' := 134) rfl (zk_callv X (zz_Cv_of (List.forall_mem_cons.mpr ⟨⟨(RX_10, zzT10, 50), yX12_view, cX12_view, 2, (some .long), 0, 0, rfl, kv_X12_196_10.1, (mm_X12_view Wd).1, by decide, by decide⟩, (fun _ h => absurd h List.not_mem_nil)⟩)) dX12_comeAll_133 rfl) ?_
  refine zz_cons (k' := 135) rfl (zz_Ok_none _ _) ?_
  refine zz_cons (k' := 136) rfl (zz_Ok_none _ _) ?_
  refine zz_cons (k' := 137) rfl (zk_callv X (zz_Cv_of (List.forall_mem_cons.mpr ⟨⟨(RX_10, zzT10, 50), yX12_ownerIn, cX12_ownerIn, 3, (some .int), 1, 23, rfl, kv_X12_214_10.1, (mm_X12_ownerIn Wd).1, by decide, by decide⟩, (fun _ h => absurd h List.not_mem_nil)⟩)) dX12_comeAll_136 rfl) ?_
  refine zz_cons (k' := 138) rfl (zz_Ok_none _ _) ?_
  refine zz_cons (k' := 139) rfl (zz_Ok_none _ _) ?_
  refine zz_cons (k' := 140) rfl (zk_iload_n X dX12_comeAll_139 rfl rfl) ?_
  refine zz_cons (k' := 141) rfl (zk_icmp_ne X dX12_comeAll_140 (by decide) rfl) ?_
  refine zz_cons (k' := 142) rfl (zz_Ok_none _ _) ?_
  refine zz_cons (k' := 143) rfl (zz_Ok_none _ _) ?_
  refine zz_cons (k' := 144) rfl (zk_iconst X dX12_comeAll_143 (by decide) rfl) ?_
  refine zz_cons (k' := 145) rfl (zk_goto X dX12_comeAll_144 (by decide)) ?_
  refine zz_cons (k' := 146) rfl (zz_Ok_none _ _) ?_
  refine zz_cons (k' := 147) rfl (zz_Ok_none _ _) ?_
  refine zz_cons (k' := 148) rfl (zk_iconst X dX12_comeAll_147 (by decide) rfl) ?_
  refine zz_cons (k' := 149) rfl (zk_istore X dX12_comeAll_148 (by decide) rfl) ?_
  refine zz_cons (k' := 150) rfl (zz_Ok_none _ _) ?_
  refine zz_cons (k' := 151) rfl (zk_iload_n X dX12_comeAll_150 rfl rfl) ?_
  refine zz_cons (k' := 152) rfl (zk_if_ne X dX12_comeAll_151 (by decide) rfl) ?_
  refine zz_cons (k' := 153) rfl (zz_Ok_none _ _) ?_
  refine zz_cons (k' := 154) rfl (zz_Ok_none _ _) ?_
  refine zz_cons (k' := 155) rfl (zk_iload X dX12_comeAll_154 rfl) ?_
  refine zz_cons (k' := 156) rfl (zz_Ok_none _ _) ?_
  refine zz_cons (k' := 157) rfl (zk_if_eq X dX12_comeAll_156 (by decide) rfl) ?_
  refine zz_cons (k' := 158) rfl (zz_Ok_none _ _) ?_
  refine zz_cons (k' := 159) rfl (zz_Ok_none _ _) ?_
  refine zz_cons (k' := 160) rfl (zk_aload_n X dX12_comeAll_159 rfl rfl) ?_
  refine zz_cons (k' := 161) rfl (zk_getf X ff_X12_25 dX12_comeAll_160 rfl) ?_
  refine zz_cons (k' := 162) rfl (zz_Ok_none _ _) ?_
  refine zz_cons (k' := 163) rfl (zz_Ok_none _ _) ?_
  refine zz_cons (k' := 164) rfl (zk_iload X dX12_comeAll_163 rfl) ?_
  refine zz_cons (k' := 165) rfl (zz_Ok_none _ _) ?_
  refine zz_cons (k' := 166) rfl (zk_iald X (zzWR_st Wd) dX12_comeAll_165 rfl) ?_
  refine zz_cons (k' := 167) rfl (zk_iconst X dX12_comeAll_166 (by decide) rfl) ?_
  refine zz_cons (k' := 168) rfl (zk_icmp_ne X dX12_comeAll_167 (by decide) rfl) ?_
  refine zz_cons (k' := 169) rfl (zz_Ok_none _ _) ?_
  refine zz_cons (k' := 170) rfl (zz_Ok_none _ _) ?_
  refine zz_cons (k' := 171) rfl (zk_iconst X dX12_comeAll_170 (by decide) rfl) ?_
  refine zz_cons (k' := 172) rfl (zk_goto X dX12_comeAll_171 (by decide)) ?_
  refine zz_cons (k' := 173) rfl (zz_Ok_none _ _) ?_
  refine zz_cons (k' := 174) rfl (zz_Ok_none _ _) ?_
  refine zz_cons (k' := 175) rfl (zk_iconst X dX12_comeAll_174 (by decide) rfl) ?_
  refine zz_cons (k' := 176) rfl (zk_goto X dX12_comeAll_175 (by decide)) ?_
  refine zz_cons (k' := 177) rfl (zz_Ok_none _ _) ?_
  refine zz_cons (k' := 178) rfl (zz_Ok_none _ _) ?_
  refine zz_cons (k' := 179) rfl (zk_iload_n X dX12_comeAll_178 rfl rfl) ?_
  refine zz_cons (k' := 180) rfl (zk_iconst X dX12_comeAll_179 (by decide) rfl) ?_
  refine zz_cons (k' := 181) rfl (zk_icmp_ne X dX12_comeAll_180 (by decide) rfl) ?_
  refine zz_cons (k' := 182) rfl (zz_Ok_none _ _) ?_
  refine zz_cons (k' := 183) rfl (zz_Ok_none _ _) ?_
  refine zz_cons (k' := 184) rfl (zk_iload X dX12_comeAll_183 rfl) ?_
  refine zz_cons (k' := 185) rfl (zz_Ok_none _ _) ?_
  refine zz_cons (k' := 186) rfl (zk_goto X dX12_comeAll_185 (by decide)) ?_
  refine zz_cons (k' := 187) rfl (zz_Ok_none _ _) ?_
  refine zz_cons (k' := 188) rfl (zz_Ok_none _ _) ?_
  refine zz_cons (k' := 189) rfl (zk_iload_n X dX12_comeAll_188 rfl rfl) ?_
  refine zz_cons (k' := 190) rfl (zk_iconst X dX12_comeAll_189 (by decide) rfl) ?_
  refine zz_cons (k' := 191) rfl (zk_icmp_ne X dX12_comeAll_190 (by decide) rfl) ?_
  refine zz_cons (k' := 192) rfl (zz_Ok_none _ _) ?_
  refine zz_cons (k' := 193) rfl (zz_Ok_none _ _) ?_
  refine zz_cons (k' := 194) rfl (zk_iload X dX12_comeAll_193 rfl) ?_
  refine zz_cons (k' := 195) rfl (zz_Ok_none _ _) ?_
  refine zz_cons (k' := 196) rfl (zk_goto X dX12_comeAll_195 (by decide)) ?_
  refine zz_cons (k' := 197) rfl (zz_Ok_none _ _) ?_
  refine zz_cons (k' := 198) rfl (zz_Ok_none _ _) ?_
  refine zz_cons (k' := 199) rfl (zk_iload X dX12_comeAll_198 rfl) ?_
  refine zz_cons (k' := 200) rfl (zz_Ok_none _ _) ?_
  refine zz_cons (k' := 201) rfl (zk_istore X dX12_comeAll_200 (by decide) rfl) ?_
  refine zz_cons (k' := 202) rfl (zz_Ok_none _ _) ?_
  refine zz_cons (k' := 203) rfl (zk_iload_n X dX12_comeAll_202 rfl rfl) ?_
  refine zz_cons (k' := 204) rfl (zk_iload X dX12_comeAll_203 rfl) ?_
  refine zz_cons (k' := 205) rfl (zz_Ok_none _ _) ?_
  refine zz_cons (k' := 206) rfl (zk_if_eq X dX12_comeAll_205 (by decide) rfl) ?_
  refine zz_cons (k' := 207) rfl (zz_Ok_none _ _) ?_
  refine zz_cons (k' := 208) rfl (zz_Ok_none _ _) ?_
  refine zz_cons (k' := 209) rfl (zk_aload_n X dX12_comeAll_208 rfl rfl) ?_
  refine zz_cons (k' := 210) rfl (zk_iload X dX12_comeAll_209 rfl) ?_
  refine zz_cons (k' := 211) rfl (zz_Ok_none _ _) ?_
  refine zz_cons (k' := 212) rfl (zk_callv X (zz_Cv_of (List.forall_mem_cons.mpr ⟨⟨(RX_10, zzT10, 50), yX12_comes, cX12_comes, 4, (some .int), 0, 0, rfl, kv_X12_208_10.1, (mm_X12_comes Wd).1, by decide, by decide⟩, (fun _ h => absurd h List.not_mem_nil)⟩)) dX12_comeAll_211 rfl) ?_
  refine zz_cons (k' := 213) rfl (zz_Ok_none _ _) ?_
  refine zz_cons (k' := 214) rfl (zz_Ok_none _ _) ?_
  refine zz_cons (k' := 215) rfl (zk_goto X dX12_comeAll_214 (by decide)) ?_
  refine zz_cons (k' := 216) rfl (zz_Ok_none _ _) ?_
  refine zz_cons (k' := 217) rfl (zz_Ok_none _ _) ?_
  refine zz_cons (k' := 218) rfl (zk_iconst X dX12_comeAll_217 (by decide) rfl) ?_
  refine zz_cons (k' := 219) rfl (zk_iadd X dX12_comeAll_218 rfl) ?_
  refine zz_cons (k' := 220) rfl (zk_istore_n X dX12_comeAll_219 rfl (by decide) rfl) ?_
  refine zz_cons (k' := 221) rfl (zk_iinc X dX12_comeAll_220 (by decide) (by decide) rfl) ?_
  refine zz_cons (k' := 222) rfl (zz_Ok_none _ _) ?_
  refine zz_cons (k' := 223) rfl (zz_Ok_none _ _) ?_
  refine zz_cons (k' := 224) rfl (zk_goto X dX12_comeAll_223 (by decide)) ?_
  refine zz_cons (k' := 225) rfl (zz_Ok_none _ _) ?_
  refine zz_cons (k' := 226) rfl (zz_Ok_none _ _) ?_
  refine zz_cons (k' := 227) rfl (zk_iload_n X dX12_comeAll_226 rfl rfl) ?_
  refine zz_cons (k' := 228) rfl (zk_iret X rfl dX12_comeAll_227) ?_
  exact trivial
noncomputable def tX12_ownersOwner : List zzOp := [
  zo_iload 1 1,
  zo_pushI (-1) 2,
  zo_icmp (fun x y => decide (x = y)) 35 5,
  zo_none,
  zo_none,
  zo_aload 0 6,
  zo_getf zzSR (zz_kf [10] 6) 9,
  zo_none,
  zo_none,
  zo_iload 1 10,
  zo_iald zzSR zzSTR 11,
  zo_pushI 1 12,
  zo_icmp (fun x y => decide (¬ x = y)) 35 15,
  zo_none,
  zo_none,
  zo_aload 0 16,
  zo_iload 1 17,
  zo_callv zzSR (zz_cl [(10, fX12_isSeen)]) 1 20,
  zo_none,
  zo_none,
  zo_if (fun x => decide (x = 0)) 35 23,
  zo_none,
  zo_none,
  zo_aload 0 24,
  zo_aload 0 25,
  zo_iload 1 26,
  zo_callv zzSR (zz_cl [(10, fX12_view)]) 1 29,
  zo_none,
  zo_none,
  zo_callv zzSR (zz_cl [(10, fX12_ownerIn)]) 1 32,
  zo_none,
  zo_none,
  zo_goto 36,
  zo_none,
  zo_none,
  zo_pushI (-1) 36,
  zo_iret false]
set_option maxRecDepth 100000 in
theorem tl_X12_ownersOwner : ∀ pc, zz_Tl (tX12_ownersOwner.getD pc zo_none) := by
  refine zz_Tl_mem ?_
  unfold tX12_ownersOwner
  refine List.forall_mem_cons.mpr ⟨(zo_iload_tl _ _), ?_⟩
  refine List.forall_mem_cons.mpr ⟨(zo_pushI_tl _ _), ?_⟩
  refine List.forall_mem_cons.mpr ⟨(zo_icmp_tl _ _ _), ?_⟩
  refine List.forall_mem_cons.mpr ⟨zo_none_tl, ?_⟩
  refine List.forall_mem_cons.mpr ⟨zo_none_tl, ?_⟩
  refine List.forall_mem_cons.mpr ⟨(zo_aload_tl _ _), ?_⟩
  refine List.forall_mem_cons.mpr ⟨(zo_getf_tl _ _ _), ?_⟩
  refine List.forall_mem_cons.mpr ⟨zo_none_tl, ?_⟩
  refine List.forall_mem_cons.mpr ⟨zo_none_tl, ?_⟩
  refine List.forall_mem_cons.mpr ⟨(zo_iload_tl _ _), ?_⟩
  refine List.forall_mem_cons.mpr ⟨(zo_iald_tl _ _ _), ?_⟩
  refine List.forall_mem_cons.mpr ⟨(zo_pushI_tl _ _), ?_⟩
  refine List.forall_mem_cons.mpr ⟨(zo_icmp_tl _ _ _), ?_⟩
  refine List.forall_mem_cons.mpr ⟨zo_none_tl, ?_⟩
  refine List.forall_mem_cons.mpr ⟨zo_none_tl, ?_⟩
  refine List.forall_mem_cons.mpr ⟨(zo_aload_tl _ _), ?_⟩
  refine List.forall_mem_cons.mpr ⟨(zo_iload_tl _ _), ?_⟩
  refine List.forall_mem_cons.mpr ⟨(zo_callv_tl _ _ _ _), ?_⟩
  refine List.forall_mem_cons.mpr ⟨zo_none_tl, ?_⟩
  refine List.forall_mem_cons.mpr ⟨zo_none_tl, ?_⟩
  refine List.forall_mem_cons.mpr ⟨(zo_if_tl _ _ _), ?_⟩
  refine List.forall_mem_cons.mpr ⟨zo_none_tl, ?_⟩
  refine List.forall_mem_cons.mpr ⟨zo_none_tl, ?_⟩
  refine List.forall_mem_cons.mpr ⟨(zo_aload_tl _ _), ?_⟩
  refine List.forall_mem_cons.mpr ⟨(zo_aload_tl _ _), ?_⟩
  refine List.forall_mem_cons.mpr ⟨(zo_iload_tl _ _), ?_⟩
  refine List.forall_mem_cons.mpr ⟨(zo_callv_tl _ _ _ _), ?_⟩
  refine List.forall_mem_cons.mpr ⟨zo_none_tl, ?_⟩
  refine List.forall_mem_cons.mpr ⟨zo_none_tl, ?_⟩
  refine List.forall_mem_cons.mpr ⟨(zo_callv_tl _ _ _ _), ?_⟩
  refine List.forall_mem_cons.mpr ⟨zo_none_tl, ?_⟩
  refine List.forall_mem_cons.mpr ⟨zo_none_tl, ?_⟩
  refine List.forall_mem_cons.mpr ⟨(zo_goto_tl _), ?_⟩
  refine List.forall_mem_cons.mpr ⟨zo_none_tl, ?_⟩
  refine List.forall_mem_cons.mpr ⟨zo_none_tl, ?_⟩
  refine List.forall_mem_cons.mpr ⟨(zo_pushI_tl _ _), ?_⟩
  refine List.forall_mem_cons.mpr ⟨(zo_iret_tl _), ?_⟩
  exact fun _ h => absurd h List.not_mem_nil
noncomputable def fX12_ownersOwner : zzFn := zz_fn tX12_ownersOwner 2
set_option maxRecDepth 100000 in
set_option maxHeartbeats 4000000 in
theorem mm_X12_ownersOwner {l : Launch} {D : va_G} {cA : Nat → ClassId} {ad : Nat → Nat} {Ex : (Nat → Prop) → State → Heap → Prop} (Wd : zzWR l D cA ad Ex) : zz_Cn l D zzCl cA ad zzSR Ex yX12_ownersOwner cX12_ownersOwner 2 (some .int) 2 45 fX12_ownersOwner ∧ zz_Cx l D zzCl cA ad zzSR Ex yX12_ownersOwner cX12_ownersOwner 2 (some .int) 2 45 fX12_ownersOwner := by
  refine zz_meth (plainFor_of_name (by decide)) Wd.1 Wd.2.1 Wd.2.2 (fun p e R s m args below meth c rr X => ?_)
  unfold tX12_ownersOwner
  refine zz_cons (k' := 1) rfl (zk_iload_n X dX12_ownersOwner_0 rfl rfl) ?_
  refine zz_cons (k' := 2) rfl (zk_iconst X dX12_ownersOwner_1 (by decide) rfl) ?_
  refine zz_cons (k' := 3) rfl (zk_icmp_eq X dX12_ownersOwner_2 (by decide) rfl) ?_
  refine zz_cons (k' := 4) rfl (zz_Ok_none _ _) ?_
  refine zz_cons (k' := 5) rfl (zz_Ok_none _ _) ?_
  refine zz_cons (k' := 6) rfl (zk_aload_n X dX12_ownersOwner_5 rfl rfl) ?_
  refine zz_cons (k' := 7) rfl (zk_getf X ff_X12_25 dX12_ownersOwner_6 rfl) ?_
  refine zz_cons (k' := 8) rfl (zz_Ok_none _ _) ?_
  refine zz_cons (k' := 9) rfl (zz_Ok_none _ _) ?_
  refine zz_cons (k' := 10) rfl (zk_iload_n X dX12_ownersOwner_9 rfl rfl) ?_
  refine zz_cons (k' := 11) rfl (zk_iald X (zzWR_st Wd) dX12_ownersOwner_10 rfl) ?_
  refine zz_cons (k' := 12) rfl (zk_iconst X dX12_ownersOwner_11 (by decide) rfl) ?_
  refine zz_cons (k' := 13) rfl (zk_icmp_ne X dX12_ownersOwner_12 (by decide) rfl) ?_
  refine zz_cons (k' := 14) rfl (zz_Ok_none _ _) ?_
  refine zz_cons (k' := 15) rfl (zz_Ok_none _ _) ?_
  refine zz_cons (k' := 16) rfl (zk_aload_n X dX12_ownersOwner_15 rfl rfl) ?_
  refine zz_cons (k' := 17) rfl (zk_iload_n X dX12_ownersOwner_16 rfl rfl) ?_
  refine zz_cons (k' := 18) rfl (zk_callv X (zz_Cv_of (List.forall_mem_cons.mpr ⟨⟨(RX_10, zzT10, 50), yX12_isSeen, cX12_isSeen, 2, (some .boolean), 0, 0, rfl, kv_X12_200_10.1, (mm_X12_isSeen Wd).1, by decide, by decide⟩, (fun _ h => absurd h List.not_mem_nil)⟩)) dX12_ownersOwner_17 rfl) ?_
  refine zz_cons (k' := 19) rfl (zz_Ok_none _ _) ?_
  refine zz_cons (k' := 20) rfl (zz_Ok_none _ _) ?_
  refine zz_cons (k' := 21) rfl (zk_if_eq X dX12_ownersOwner_20 (by decide) rfl) ?_
  refine zz_cons (k' := 22) rfl (zz_Ok_none _ _) ?_
  refine zz_cons (k' := 23) rfl (zz_Ok_none _ _) ?_
  refine zz_cons (k' := 24) rfl (zk_aload_n X dX12_ownersOwner_23 rfl rfl) ?_
  refine zz_cons (k' := 25) rfl (zk_aload_n X dX12_ownersOwner_24 rfl rfl) ?_
  refine zz_cons (k' := 26) rfl (zk_iload_n X dX12_ownersOwner_25 rfl rfl) ?_
  refine zz_cons (k' := 27) rfl (zk_callv X (zz_Cv_of (List.forall_mem_cons.mpr ⟨⟨(RX_10, zzT10, 50), yX12_view, cX12_view, 2, (some .long), 0, 0, rfl, kv_X12_196_10.1, (mm_X12_view Wd).1, by decide, by decide⟩, (fun _ h => absurd h List.not_mem_nil)⟩)) dX12_ownersOwner_26 rfl) ?_
  refine zz_cons (k' := 28) rfl (zz_Ok_none _ _) ?_
  refine zz_cons (k' := 29) rfl (zz_Ok_none _ _) ?_
  refine zz_cons (k' := 30) rfl (zk_callv X (zz_Cv_of (List.forall_mem_cons.mpr ⟨⟨(RX_10, zzT10, 50), yX12_ownerIn, cX12_ownerIn, 3, (some .int), 1, 23, rfl, kv_X12_214_10.1, (mm_X12_ownerIn Wd).1, by decide, by decide⟩, (fun _ h => absurd h List.not_mem_nil)⟩)) dX12_ownersOwner_29 rfl) ?_
  refine zz_cons (k' := 31) rfl (zz_Ok_none _ _) ?_
  refine zz_cons (k' := 32) rfl (zz_Ok_none _ _) ?_
  refine zz_cons (k' := 33) rfl (zk_goto X dX12_ownersOwner_32 (by decide)) ?_
  refine zz_cons (k' := 34) rfl (zz_Ok_none _ _) ?_
  refine zz_cons (k' := 35) rfl (zz_Ok_none _ _) ?_
  refine zz_cons (k' := 36) rfl (zk_iconst X dX12_ownersOwner_35 (by decide) rfl) ?_
  refine zz_cons (k' := 37) rfl (zk_iret X rfl dX12_ownersOwner_36) ?_
  exact trivial
noncomputable def tX12_keys : List zzOp := [
  zo_aload 0 1,
  zo_getf zzSR (zz_kf [10] 6) 4,
  zo_none,
  zo_none,
  zo_iload 1 5,
  zo_iald zzSR zzSTR 6,
  zo_istore 3 7,
  zo_aload 0 8,
  zo_getf zzSR (zz_kf [10] 42) 11,
  zo_none,
  zo_none,
  zo_pushI 5 12,
  zo_icmp (fun x y => decide (¬ x = y)) 43 15,
  zo_none,
  zo_none,
  zo_aload 0 16,
  zo_iload 1 17,
  zo_callv zzSR (zz_cl [(10, fX12_comes)]) 1 20,
  zo_none,
  zo_none,
  zo_iload 2 21,
  zo_pushI (-1) 22,
  zo_icmp (fun x y => decide (¬ x = y)) 29 25,
  zo_none,
  zo_none,
  zo_pushI 0 26,
  zo_goto 34,
  zo_none,
  zo_none,
  zo_aload 0 30,
  zo_iload 2 31,
  zo_callv zzSR (zz_cl [(10, fX12_comes)]) 1 34,
  zo_none,
  zo_none,
  zo_ii (fun x y => x + y) 35,
  zo_aload 0 36,
  zo_pushI 3 37,
  zo_iload 1 38,
  zo_callv zzSR (zz_cl [(10, fX12_comeAll)]) 2 41,
  zo_none,
  zo_none,
  zo_ii (fun x y => x + y) 42,
  zo_iret false,
  zo_iload 3 44,
  zo_aload 0 45,
  zo_callv zzSR (zz_cl [(10, fX12_ownKind)]) 0 48,
  zo_none,
  zo_none,
  zo_icmp (fun x y => decide (¬ x = y)) 59 51,
  zo_none,
  zo_none,
  zo_aload 0 52,
  zo_iload 1 53,
  zo_callv zzSR (zz_cl [(10, fX12_comes)]) 1 56,
  zo_none,
  zo_none,
  zo_goto 60,
  zo_none,
  zo_none,
  zo_pushI 0 60,
  zo_istore 4 62,
  zo_none,
  zo_aload 0 63,
  zo_getf zzSR (zz_kf [10] 42) 66,
  zo_none,
  zo_none,
  zo_if (fun x => decide (¬ x = 0)) 96 69,
  zo_none,
  zo_none,
  zo_iload 3 70,
  zo_pushI 1 71,
  zo_icmp (fun x y => decide (¬ x = y)) 96 74,
  zo_none,
  zo_none,
  zo_iload 4 76,
  zo_none,
  zo_iload 2 77,
  zo_pushI (-1) 78,
  zo_icmp (fun x y => decide (¬ x = y)) 85 81,
  zo_none,
  zo_none,
  zo_pushI 0 82,
  zo_goto 90,
  zo_none,
  zo_none,
  zo_aload 0 86,
  zo_iload 2 87,
  zo_callv zzSR (zz_cl [(10, fX12_comes)]) 1 90,
  zo_none,
  zo_none,
  zo_ii (fun x y => x + y) 91,
  zo_istore 4 93,
  zo_none,
  zo_goto 264,
  zo_none,
  zo_none,
  zo_aload 0 97,
  zo_getf zzSR (zz_kf [10] 42) 100,
  zo_none,
  zo_none,
  zo_if (fun x => decide (¬ x = 0)) 138 103,
  zo_none,
  zo_none,
  zo_iload 3 104,
  zo_pushI 2 105,
  zo_icmp (fun x y => decide (¬ x = y)) 138 108,
  zo_none,
  zo_none,
  zo_iload 4 110,
  zo_none,
  zo_aload 0 111,
  zo_iload 2 112,
  zo_callv zzSR (zz_cl [(10, fX12_ownersOwner)]) 1 115,
  zo_none,
  zo_none,
  zo_pushI (-1) 116,
  zo_icmp (fun x y => decide (¬ x = y)) 123 119,
  zo_none,
  zo_none,
  zo_pushI 0 120,
  zo_goto 132,
  zo_none,
  zo_none,
  zo_aload 0 124,
  zo_aload 0 125,
  zo_iload 2 126,
  zo_callv zzSR (zz_cl [(10, fX12_ownersOwner)]) 1 129,
  zo_none,
  zo_none,
  zo_callv zzSR (zz_cl [(10, fX12_comes)]) 1 132,
  zo_none,
  zo_none,
  zo_ii (fun x y => x + y) 133,
  zo_istore 4 135,
  zo_none,
  zo_goto 264,
  zo_none,
  zo_none,
  zo_aload 0 139,
  zo_getf zzSR (zz_kf [10] 42) 142,
  zo_none,
  zo_none,
  zo_pushI 1 143,
  zo_icmp (fun x y => decide (x = y)) 154 146,
  zo_none,
  zo_none,
  zo_aload 0 147,
  zo_getf zzSR (zz_kf [10] 42) 150,
  zo_none,
  zo_none,
  zo_pushI 2 151,
  zo_icmp (fun x y => decide (¬ x = y)) 185 154,
  zo_none,
  zo_none,
  zo_iload 3 155,
  zo_pushI 2 156,
  zo_icmp (fun x y => decide (¬ x = y)) 185 159,
  zo_none,
  zo_none,
  zo_iload 4 161,
  zo_none,
  zo_aload 0 162,
  zo_iload 2 163,
  zo_aload 0 164,
  zo_getf zzSR (zz_kf [10] 42) 167,
  zo_none,
  zo_none,
  zo_pushI 1 168,
  zo_icmp (fun x y => decide (¬ x = y)) 175 171,
  zo_none,
  zo_none,
  zo_pushI 1 172,
  zo_goto 176,
  zo_none,
  zo_none,
  zo_pushI 3 176,
  zo_callv zzSR (zz_cl [(10, fX12_comesIf)]) 2 179,
  zo_none,
  zo_none,
  zo_ii (fun x y => x + y) 180,
  zo_istore 4 182,
  zo_none,
  zo_goto 264,
  zo_none,
  zo_none,
  zo_aload 0 186,
  zo_getf zzSR (zz_kf [10] 42) 189,
  zo_none,
  zo_none,
  zo_pushI 3 190,
  zo_icmp (fun x y => decide (¬ x = y)) 212 193,
  zo_none,
  zo_none,
  zo_iload 3 194,
  zo_pushI 4 195,
  zo_icmp (fun x y => decide (¬ x = y)) 212 198,
  zo_none,
  zo_none,
  zo_iload 4 200,
  zo_none,
  zo_aload 0 201,
  zo_pushI 1 202,
  zo_iload 1 203,
  zo_callv zzSR (zz_cl [(10, fX12_comeAll)]) 2 206,
  zo_none,
  zo_none,
  zo_ii (fun x y => x + y) 207,
  zo_istore 4 209,
  zo_none,
  zo_goto 264,
  zo_none,
  zo_none,
  zo_aload 0 213,
  zo_getf zzSR (zz_kf [10] 42) 216,
  zo_none,
  zo_none,
  zo_pushI 4 217,
  zo_icmp (fun x y => decide (¬ x = y)) 239 220,
  zo_none,
  zo_none,
  zo_iload 3 221,
  zo_pushI 4 222,
  zo_icmp (fun x y => decide (¬ x = y)) 239 225,
  zo_none,
  zo_none,
  zo_iload 4 227,
  zo_none,
  zo_aload 0 228,
  zo_pushI 2 229,
  zo_iload 1 230,
  zo_callv zzSR (zz_cl [(10, fX12_comeAll)]) 2 233,
  zo_none,
  zo_none,
  zo_ii (fun x y => x + y) 234,
  zo_istore 4 236,
  zo_none,
  zo_goto 264,
  zo_none,
  zo_none,
  zo_aload 0 240,
  zo_getf zzSR (zz_kf [10] 42) 243,
  zo_none,
  zo_none,
  zo_pushI 6 245,
  zo_none,
  zo_icmp (fun x y => decide (¬ x = y)) 264 248,
  zo_none,
  zo_none,
  zo_iload 3 249,
  zo_pushI 2 250,
  zo_icmp (fun x y => decide (¬ x = y)) 264 253,
  zo_none,
  zo_none,
  zo_iload 4 255,
  zo_none,
  zo_aload 0 256,
  zo_pushI 0 257,
  zo_iload 1 258,
  zo_callv zzSR (zz_cl [(10, fX12_comeAll)]) 2 261,
  zo_none,
  zo_none,
  zo_ii (fun x y => x + y) 262,
  zo_istore 4 264,
  zo_none,
  zo_iload 4 266,
  zo_none,
  zo_iret false]
set_option maxRecDepth 100000 in
theorem tl_X12_keys : ∀ pc, zz_Tl (tX12_keys.getD pc zo_none) := by
  refine zz_Tl_mem ?_
  unfold tX12_keys
  refine List.forall_mem_cons.mpr ⟨(zo_aload_tl _ _), ?_⟩
  refine List.forall_mem_cons.mpr ⟨(zo_getf_tl _ _ _), ?_⟩
  refine List.forall_mem_cons.mpr ⟨zo_none_tl, ?_⟩
  refine List.forall_mem_cons.mpr ⟨zo_none_tl, ?_⟩
  refine List.forall_mem_cons.mpr ⟨(zo_iload_tl _ _), ?_⟩
  refine List.forall_mem_cons.mpr ⟨(zo_iald_tl _ _ _), ?_⟩
  refine List.forall_mem_cons.mpr ⟨(zo_istore_tl _ _), ?_⟩
  refine List.forall_mem_cons.mpr ⟨(zo_aload_tl _ _), ?_⟩
  refine List.forall_mem_cons.mpr ⟨(zo_getf_tl _ _ _), ?_⟩
  refine List.forall_mem_cons.mpr ⟨zo_none_tl, ?_⟩
  refine List.forall_mem_cons.mpr ⟨zo_none_tl, ?_⟩
  refine List.forall_mem_cons.mpr ⟨(zo_pushI_tl _ _), ?_⟩
  refine List.forall_mem_cons.mpr ⟨(zo_icmp_tl _ _ _), ?_⟩
  refine List.forall_mem_cons.mpr ⟨zo_none_tl, ?_⟩
  refine List.forall_mem_cons.mpr ⟨zo_none_tl, ?_⟩
  refine List.forall_mem_cons.mpr ⟨(zo_aload_tl _ _), ?_⟩
  refine List.forall_mem_cons.mpr ⟨(zo_iload_tl _ _), ?_⟩
  refine List.forall_mem_cons.mpr ⟨(zo_callv_tl _ _ _ _), ?_⟩
  refine List.forall_mem_cons.mpr ⟨zo_none_tl, ?_⟩
  refine List.forall_mem_cons.mpr ⟨zo_none_tl, ?_⟩
  refine List.forall_mem_cons.mpr ⟨(zo_iload_tl _ _), ?_⟩
  refine List.forall_mem_cons.mpr ⟨(zo_pushI_tl _ _), ?_⟩
  refine List.forall_mem_cons.mpr ⟨(zo_icmp_tl _ _ _), ?_⟩
  refine List.forall_mem_cons.mpr ⟨zo_none_tl, ?_⟩
  refine List.forall_mem_cons.mpr ⟨zo_none_tl, ?_⟩
  refine List.forall_mem_cons.mpr ⟨(zo_pushI_tl _ _), ?_⟩
  refine List.forall_mem_cons.mpr ⟨(zo_goto_tl _), ?_⟩
  refine List.forall_mem_cons.mpr ⟨zo_none_tl, ?_⟩
  refine List.forall_mem_cons.mpr ⟨zo_none_tl, ?_⟩
  refine List.forall_mem_cons.mpr ⟨(zo_aload_tl _ _), ?_⟩
  refine List.forall_mem_cons.mpr ⟨(zo_iload_tl _ _), ?_⟩
  refine List.forall_mem_cons.mpr ⟨(zo_callv_tl _ _ _ _), ?_⟩
  refine List.forall_mem_cons.mpr ⟨zo_none_tl, ?_⟩
  refine List.forall_mem_cons.mpr ⟨zo_none_tl, ?_⟩
  refine List.forall_mem_cons.mpr ⟨(zo_ii_tl _ _), ?_⟩
  refine List.forall_mem_cons.mpr ⟨(zo_aload_tl _ _), ?_⟩
  refine List.forall_mem_cons.mpr ⟨(zo_pushI_tl _ _), ?_⟩
  refine List.forall_mem_cons.mpr ⟨(zo_iload_tl _ _), ?_⟩
  refine List.forall_mem_cons.mpr ⟨(zo_callv_tl _ _ _ _), ?_⟩
  refine List.forall_mem_cons.mpr ⟨zo_none_tl, ?_⟩
  refine List.forall_mem_cons.mpr ⟨zo_none_tl, ?_⟩
  refine List.forall_mem_cons.mpr ⟨(zo_ii_tl _ _), ?_⟩
  refine List.forall_mem_cons.mpr ⟨(zo_iret_tl _), ?_⟩
  refine List.forall_mem_cons.mpr ⟨(zo_iload_tl _ _), ?_⟩
  refine List.forall_mem_cons.mpr ⟨(zo_aload_tl _ _), ?_⟩
  refine List.forall_mem_cons.mpr ⟨(zo_callv_tl _ _ _ _), ?_⟩
  refine List.forall_mem_cons.mpr ⟨zo_none_tl, ?_⟩
  refine List.forall_mem_cons.mpr ⟨zo_none_tl, ?_⟩
  refine List.forall_mem_cons.mpr ⟨(zo_icmp_tl _ _ _), ?_⟩
  refine List.forall_mem_cons.mpr ⟨zo_none_tl, ?_⟩
  refine List.forall_mem_cons.mpr ⟨zo_none_tl, ?_⟩
  refine List.forall_mem_cons.mpr ⟨(zo_aload_tl _ _), ?_⟩
  refine List.forall_mem_cons.mpr ⟨(zo_iload_tl _ _), ?_⟩
  refine List.forall_mem_cons.mpr ⟨(zo_callv_tl _ _ _ _), ?_⟩
  refine List.forall_mem_cons.mpr ⟨zo_none_tl, ?_⟩
  refine List.forall_mem_cons.mpr ⟨zo_none_tl, ?_⟩
  refine List.forall_mem_cons.mpr ⟨(zo_goto_tl _), ?_⟩
  refine List.forall_mem_cons.mpr ⟨zo_none_tl, ?_⟩
  refine List.forall_mem_cons.mpr ⟨zo_none_tl, ?_⟩
  refine List.forall_mem_cons.mpr ⟨(zo_pushI_tl _ _), ?_⟩
  refine List.forall_mem_cons.mpr ⟨(zo_istore_tl _ _), ?_⟩
  refine List.forall_mem_cons.mpr ⟨zo_none_tl, ?_⟩
  refine List.forall_mem_cons.mpr ⟨(zo_aload_tl _ _), ?_⟩
  refine List.forall_mem_cons.mpr ⟨(zo_getf_tl _ _ _), ?_⟩
  refine List.forall_mem_cons.mpr ⟨zo_none_tl, ?_⟩
  refine List.forall_mem_cons.mpr ⟨zo_none_tl, ?_⟩
  refine List.forall_mem_cons.mpr ⟨(zo_if_tl _ _ _), ?_⟩
  refine List.forall_mem_cons.mpr ⟨zo_none_tl, ?_⟩
  refine List.forall_mem_cons.mpr ⟨zo_none_tl, ?_⟩
  refine List.forall_mem_cons.mpr ⟨(zo_iload_tl _ _), ?_⟩
  refine List.forall_mem_cons.mpr ⟨(zo_pushI_tl _ _), ?_⟩
  refine List.forall_mem_cons.mpr ⟨(zo_icmp_tl _ _ _), ?_⟩
  refine List.forall_mem_cons.mpr ⟨zo_none_tl, ?_⟩
  refine List.forall_mem_cons.mpr ⟨zo_none_tl, ?_⟩
  refine List.forall_mem_cons.mpr ⟨(zo_iload_tl _ _), ?_⟩
  refine List.forall_mem_cons.mpr ⟨zo_none_tl, ?_⟩
  refine List.forall_mem_cons.mpr ⟨(zo_iload_tl _ _), ?_⟩
  refine List.forall_mem_cons.mpr ⟨(zo_pushI_tl _ _), ?_⟩
  refine List.forall_mem_cons.mpr ⟨(zo_icmp_tl _ _ _), ?_⟩
  refine List.forall_mem_cons.mpr ⟨zo_none_tl, ?_⟩
  refine List.forall_mem_cons.mpr ⟨zo_none_tl, ?_⟩
  refine List.forall_mem_cons.mpr ⟨(zo_pushI_tl _ _), ?_⟩
  refine List.forall_mem_cons.mpr ⟨(zo_goto_tl _), ?_⟩
  refine List.forall_mem_cons.mpr ⟨zo_none_tl, ?_⟩
  refine List.forall_mem_cons.mpr ⟨zo_none_tl, ?_⟩
  refine List.forall_mem_cons.mpr ⟨(zo_aload_tl _ _), ?_⟩
  refine List.forall_mem_cons.mpr ⟨(zo_iload_tl _ _), ?_⟩
  refine List.forall_mem_cons.mpr ⟨(zo_callv_tl _ _ _ _), ?_⟩
  refine List.forall_mem_cons.mpr ⟨zo_none_tl, ?_⟩
  refine List.forall_mem_cons.mpr ⟨zo_none_tl, ?_⟩
  refine List.forall_mem_cons.mpr ⟨(zo_ii_tl _ _), ?_⟩
  refine List.forall_mem_cons.mpr ⟨(zo_istore_tl _ _), ?_⟩
  refine List.forall_mem_cons.mpr ⟨zo_none_tl, ?_⟩
  refine List.forall_mem_cons.mpr ⟨(zo_goto_tl _), ?_⟩
  refine List.forall_mem_cons.mpr ⟨zo_none_tl, ?_⟩
  refine List.forall_mem_cons.mpr ⟨zo_none_tl, ?_⟩
  refine List.forall_mem_cons.mpr ⟨(zo_aload_tl _ _), ?_⟩
  refine List.forall_mem_cons.mpr ⟨(zo_getf_tl _ _ _), ?_⟩
  refine List.forall_mem_cons.mpr ⟨zo_none_tl, ?_⟩
  refine List.forall_mem_cons.mpr ⟨zo_none_tl, ?_⟩
  refine List.forall_mem_cons.mpr ⟨(zo_if_tl _ _ _), ?_⟩
  refine List.forall_mem_cons.mpr ⟨zo_none_tl, ?_⟩
  refine List.forall_mem_cons.mpr ⟨zo_none_tl, ?_⟩
  refine List.forall_mem_cons.mpr ⟨(zo_iload_tl _ _), ?_⟩
  refine List.forall_mem_cons.mpr ⟨(zo_pushI_tl _ _), ?_⟩
  refine List.forall_mem_cons.mpr ⟨(zo_icmp_tl _ _ _), ?_⟩
  refine List.forall_mem_cons.mpr ⟨zo_none_tl, ?_⟩
  refine List.forall_mem_cons.mpr ⟨zo_none_tl, ?_⟩
  refine List.forall_mem_cons.mpr ⟨(zo_iload_tl _ _), ?_⟩
  refine List.forall_mem_cons.mpr ⟨zo_none_tl, ?_⟩
  refine List.forall_mem_cons.mpr ⟨(zo_aload_tl _ _), ?_⟩
  refine List.forall_mem_cons.mpr ⟨(zo_iload_tl _ _), ?_⟩
  refine List.forall_mem_cons.mpr ⟨(zo_callv_tl _ _ _ _), ?_⟩
  refine List.forall_mem_cons.mpr ⟨zo_none_tl, ?_⟩
  refine List.forall_mem_cons.mpr ⟨zo_none_tl, ?_⟩
  refine List.forall_mem_cons.mpr ⟨(zo_pushI_tl _ _), ?_⟩
  refine List.forall_mem_cons.mpr ⟨(zo_icmp_tl _ _ _), ?_⟩
  refine List.forall_mem_cons.mpr ⟨zo_none_tl, ?_⟩
  refine List.forall_mem_cons.mpr ⟨zo_none_tl, ?_⟩
  refine List.forall_mem_cons.mpr ⟨(zo_pushI_tl _ _), ?_⟩
  refine List.forall_mem_cons.mpr ⟨(zo_goto_tl _), ?_⟩
  refine List.forall_mem_cons.mpr ⟨zo_none_tl, ?_⟩
  refine List.forall_mem_cons.mpr ⟨zo_none_tl, ?_⟩
  refine List.forall_mem_cons.mpr ⟨(zo_aload_tl _ _), ?_⟩
  refine List.forall_mem_cons.mpr ⟨(zo_aload_tl _ _), ?_⟩
  refine List.forall_mem_cons.mpr ⟨(zo_iload_tl _ _), ?_⟩
  refine List.forall_mem_cons.mpr ⟨(zo_callv_tl _ _ _ _), ?_⟩
  refine List.forall_mem_cons.mpr ⟨zo_none_tl, ?_⟩
  refine List.forall_mem_cons.mpr ⟨zo_none_tl, ?_⟩
  refine List.forall_mem_cons.mpr ⟨(zo_callv_tl _ _ _ _), ?_⟩
  refine List.forall_mem_cons.mpr ⟨zo_none_tl, ?_⟩
  refine List.forall_mem_cons.mpr ⟨zo_none_tl, ?_⟩
  refine List.forall_mem_cons.mpr ⟨(zo_ii_tl _ _), ?_⟩
  refine List.forall_mem_cons.mpr ⟨(zo_istore_tl _ _), ?_⟩
  refine List.forall_mem_cons.mpr ⟨zo_none_tl, ?_⟩
  refine List.forall_mem_cons.mpr ⟨(zo_goto_tl _), ?_⟩
  refine List.forall_mem_cons.mpr ⟨zo_none_tl, ?_⟩
  refine List.forall_mem_cons.mpr ⟨zo_none_tl, ?_⟩
  refine List.forall_mem_cons.mpr ⟨(zo_aload_tl _ _), ?_⟩
  refine List.forall_mem_cons.mpr ⟨(zo_getf_tl _ _ _), ?_⟩
  refine List.forall_mem_cons.mpr ⟨zo_none_tl, ?_⟩
  refine List.forall_mem_cons.mpr ⟨zo_none_tl, ?_⟩
  refine List.forall_mem_cons.mpr ⟨(zo_pushI_tl _ _), ?_⟩
  refine List.forall_mem_cons.mpr ⟨(zo_icmp_tl _ _ _), ?_⟩
  refine List.forall_mem_cons.mpr ⟨zo_none_tl, ?_⟩
  refine List.forall_mem_cons.mpr ⟨zo_none_tl, ?_⟩
  refine List.forall_mem_cons.mpr ⟨(zo_aload_tl _ _), ?_⟩
  refine List.forall_mem_cons.mpr ⟨(zo_getf_tl _ _ _), ?_⟩
  refine List.forall_mem_cons.mpr ⟨zo_none_tl, ?_⟩
  refine List.forall_mem_cons.mpr ⟨zo_none_tl, ?_⟩
  refine List.forall_mem_cons.mpr ⟨(zo_pushI_tl _ _), ?_⟩
  refine List.forall_mem_cons.mpr ⟨(zo_icmp_tl _ _ _), ?_⟩
  refine List.forall_mem_cons.mpr ⟨zo_none_tl, ?_⟩
  refine List.forall_mem_cons.mpr ⟨zo_none_tl, ?_⟩
  refine List.forall_mem_cons.mpr ⟨(zo_iload_tl _ _), ?_⟩
  refine List.forall_mem_cons.mpr ⟨(zo_pushI_tl _ _), ?_⟩
  refine List.forall_mem_cons.mpr ⟨(zo_icmp_tl _ _ _), ?_⟩
  refine List.forall_mem_cons.mpr ⟨zo_none_tl, ?_⟩
  refine List.forall_mem_cons.mpr ⟨zo_none_tl, ?_⟩
  refine List.forall_mem_cons.mpr ⟨(zo_iload_tl _ _), ?_⟩
  refine List.forall_mem_cons.mpr ⟨zo_none_tl, ?_⟩
  refine List.forall_mem_cons.mpr ⟨(zo_aload_tl _ _), ?_⟩
  refine List.forall_mem_cons.mpr ⟨(zo_iload_tl _ _), ?_⟩
  refine List.forall_mem_cons.mpr ⟨(zo_aload_tl _ _), ?_⟩
  refine List.forall_mem_cons.mpr ⟨(zo_getf_tl _ _ _), ?_⟩
  refine List.forall_mem_cons.mpr ⟨zo_none_tl, ?_⟩
  refine List.forall_mem_cons.mpr ⟨zo_none_tl, ?_⟩
  refine List.forall_mem_cons.mpr ⟨(zo_pushI_tl _ _), ?_⟩
  refine List.forall_mem_cons.mpr ⟨(zo_icmp_tl _ _ _), ?_⟩
  refine List.forall_mem_cons.mpr ⟨zo_none_tl, ?_⟩
  refine List.forall_mem_cons.mpr ⟨zo_none_tl, ?_⟩
  refine List.forall_mem_cons.mpr ⟨(zo_pushI_tl _ _), ?_⟩
  refine List.forall_mem_cons.mpr ⟨(zo_goto_tl _), ?_⟩
  refine List.forall_mem_cons.mpr ⟨zo_none_tl, ?_⟩
  refine List.forall_mem_cons.mpr ⟨zo_none_tl, ?_⟩
  refine List.forall_mem_cons.mpr ⟨(zo_pushI_tl _ _), ?_⟩
  refine List.forall_mem_cons.mpr ⟨(zo_callv_tl _ _ _ _), ?_⟩
  refine List.forall_mem_cons.mpr ⟨zo_none_tl, ?_⟩
  refine List.forall_mem_cons.mpr ⟨zo_none_tl, ?_⟩
  refine List.forall_mem_cons.mpr ⟨(zo_ii_tl _ _), ?_⟩
  refine List.forall_mem_cons.mpr ⟨(zo_istore_tl _ _), ?_⟩
  refine List.forall_mem_cons.mpr ⟨zo_none_tl, ?_⟩
  refine List.forall_mem_cons.mpr ⟨(zo_goto_tl _), ?_⟩
  refine List.forall_mem_cons.mpr ⟨zo_none_tl, ?_⟩
  refine List.forall_mem_cons.mpr ⟨zo_none_tl, ?_⟩
  refine List.forall_mem_cons.mpr ⟨(zo_aload_tl _ _), ?_⟩
  refine List.forall_mem_cons.mpr ⟨(zo_getf_tl _ _ _), ?_⟩
  refine List.forall_mem_cons.mpr ⟨zo_none_tl, ?_⟩
  refine List.forall_mem_cons.mpr ⟨zo_none_tl, ?_⟩
  refine List.forall_mem_cons.mpr ⟨(zo_pushI_tl _ _), ?_⟩
  refine List.forall_mem_cons.mpr ⟨(zo_icmp_tl _ _ _), ?_⟩
  refine List.forall_mem_cons.mpr ⟨zo_none_tl, ?_⟩
  refine List.forall_mem_cons.mpr ⟨zo_none_tl, ?_⟩
  refine List.forall_mem_cons.mpr ⟨(zo_iload_tl _ _), ?_⟩
  refine List.forall_mem_cons.mpr ⟨(zo_pushI_tl _ _), ?_⟩
  refine List.forall_mem_cons.mpr ⟨(zo_icmp_tl _ _ _), ?_⟩
  refine List.forall_mem_cons.mpr ⟨zo_none_tl, ?_⟩
  refine List.forall_mem_cons.mpr ⟨zo_none_tl, ?_⟩
  refine List.forall_mem_cons.mpr ⟨(zo_iload_tl _ _), ?_⟩
  refine List.forall_mem_cons.mpr ⟨zo_none_tl, ?_⟩
  refine List.forall_mem_cons.mpr ⟨(zo_aload_tl _ _), ?_⟩
  refine List.forall_mem_cons.mpr ⟨(zo_pushI_tl _ _), ?_⟩
  refine List.forall_mem_cons.mpr ⟨(zo_iload_tl _ _), ?_⟩
  refine List.forall_mem_cons.mpr ⟨(zo_callv_tl _ _ _ _), ?_⟩
  refine List.forall_mem_cons.mpr ⟨zo_none_tl, ?_⟩
  refine List.forall_mem_cons.mpr ⟨zo_none_tl, ?_⟩
  refine List.forall_mem_cons.mpr ⟨(zo_ii_tl _ _), ?_⟩
  refine List.forall_mem_cons.mpr ⟨(zo_istore_tl _ _), ?_⟩
  refine List.forall_mem_cons.mpr ⟨zo_none_tl, ?_⟩
  refine List.forall_mem_cons.mpr ⟨(zo_goto_tl _), ?_⟩
  refine List.forall_mem_cons.mpr ⟨zo_none_tl, ?_⟩
  refine List.forall_mem_cons.mpr ⟨zo_none_tl, ?_⟩
  refine List.forall_mem_cons.mpr ⟨(zo_aload_tl _ _), ?_⟩
  refine List.forall_mem_cons.mpr ⟨(zo_getf_tl _ _ _), ?_⟩
  refine List.forall_mem_cons.mpr ⟨zo_none_tl, ?_⟩
  refine List.forall_mem_cons.mpr ⟨zo_none_tl, ?_⟩
  refine List.forall_mem_cons.mpr ⟨(zo_pushI_tl _ _), ?_⟩
  refine List.forall_mem_cons.mpr ⟨(zo_icmp_tl _ _ _), ?_⟩
  refine List.forall_mem_cons.mpr ⟨zo_none_tl, ?_⟩
  refine List.forall_mem_cons.mpr ⟨zo_none_tl, ?_⟩
  refine List.forall_mem_cons.mpr ⟨(zo_iload_tl _ _), ?_⟩
  refine List.forall_mem_cons.mpr ⟨(zo_pushI_tl _ _), ?_⟩
  refine List.forall_mem_cons.mpr ⟨(zo_icmp_tl _ _ _), ?_⟩
  refine List.forall_mem_cons.mpr ⟨zo_none_tl, ?_⟩
  refine List.forall_mem_cons.mpr ⟨zo_none_tl, ?_⟩
  refine List.forall_mem_cons.mpr ⟨(zo_iload_tl _ _), ?_⟩
  refine List.forall_mem_cons.mpr ⟨zo_none_tl, ?_⟩
  refine List.forall_mem_cons.mpr ⟨(zo_aload_tl _ _), ?_⟩
  refine List.forall_mem_cons.mpr ⟨(zo_pushI_tl _ _), ?_⟩
  refine List.forall_mem_cons.mpr ⟨(zo_iload_tl _ _), ?_⟩
  refine List.forall_mem_cons.mpr ⟨(zo_callv_tl _ _ _ _), ?_⟩
  refine List.forall_mem_cons.mpr ⟨zo_none_tl, ?_⟩
  refine List.forall_mem_cons.mpr ⟨zo_none_tl, ?_⟩
  refine List.forall_mem_cons.mpr ⟨(zo_ii_tl _ _), ?_⟩
  refine List.forall_mem_cons.mpr ⟨(zo_istore_tl _ _), ?_⟩
  refine List.forall_mem_cons.mpr ⟨zo_none_tl, ?_⟩
  refine List.forall_mem_cons.mpr ⟨(zo_goto_tl _), ?_⟩
  refine List.forall_mem_cons.mpr ⟨zo_none_tl, ?_⟩
  refine List.forall_mem_cons.mpr ⟨zo_none_tl, ?_⟩
  refine List.forall_mem_cons.mpr ⟨(zo_aload_tl _ _), ?_⟩
  refine List.forall_mem_cons.mpr ⟨(zo_getf_tl _ _ _), ?_⟩
  refine List.forall_mem_cons.mpr ⟨zo_none_tl, ?_⟩
  refine List.forall_mem_cons.mpr ⟨zo_none_tl, ?_⟩
  refine List.forall_mem_cons.mpr ⟨(zo_pushI_tl _ _), ?_⟩
  refine List.forall_mem_cons.mpr ⟨zo_none_tl, ?_⟩
  refine List.forall_mem_cons.mpr ⟨(zo_icmp_tl _ _ _), ?_⟩
  refine List.forall_mem_cons.mpr ⟨zo_none_tl, ?_⟩
  refine List.forall_mem_cons.mpr ⟨zo_none_tl, ?_⟩
  refine List.forall_mem_cons.mpr ⟨(zo_iload_tl _ _), ?_⟩
  refine List.forall_mem_cons.mpr ⟨(zo_pushI_tl _ _), ?_⟩
  refine List.forall_mem_cons.mpr ⟨(zo_icmp_tl _ _ _), ?_⟩
  refine List.forall_mem_cons.mpr ⟨zo_none_tl, ?_⟩
  refine List.forall_mem_cons.mpr ⟨zo_none_tl, ?_⟩
  refine List.forall_mem_cons.mpr ⟨(zo_iload_tl _ _), ?_⟩
  refine List.forall_mem_cons.mpr ⟨zo_none_tl, ?_⟩
  refine List.forall_mem_cons.mpr ⟨(zo_aload_tl _ _), ?_⟩
  refine List.forall_mem_cons.mpr ⟨(zo_pushI_tl _ _), ?_⟩
  refine List.forall_mem_cons.mpr ⟨(zo_iload_tl _ _), ?_⟩
  refine List.forall_mem_cons.mpr ⟨(zo_callv_tl _ _ _ _), ?_⟩
  refine List.forall_mem_cons.mpr ⟨zo_none_tl, ?_⟩
  refine List.forall_mem_cons.mpr ⟨zo_none_tl, ?_⟩
  refine List.forall_mem_cons.mpr ⟨(zo_ii_tl _ _), ?_⟩
  refine List.forall_mem_cons.mpr ⟨(zo_istore_tl _ _), ?_⟩
  refine List.forall_mem_cons.mpr ⟨zo_none_tl, ?_⟩
  refine List.forall_mem_cons.mpr ⟨(zo_iload_tl _ _), ?_⟩
  refine List.forall_mem_cons.mpr ⟨zo_none_tl, ?_⟩
  refine List.forall_mem_cons.mpr ⟨(zo_iret_tl _), ?_⟩
  exact fun _ h => absurd h List.not_mem_nil
noncomputable def fX12_keys : zzFn := zz_fn tX12_keys 5
set_option maxRecDepth 100000 in
set_option maxHeartbeats 4000000 in
theorem mm_X12_keys {l : Launch} {D : va_G} {cA : Nat → ClassId} {ad : Nat → Nat} {Ex : (Nat → Prop) → State → Heap → Prop} (Wd : zzWR l D cA ad Ex) : zz_Cn l D zzCl cA ad zzSR Ex yX12_keys cX12_keys 5 (some .int) 4 96 fX12_keys ∧ zz_Cx l D zzCl cA ad zzSR Ex yX12_keys cX12_keys 5 (some .int) 4 96 fX12_keys := by
  refine zz_meth (plainFor_of_name (by decide)) Wd.1 Wd.2.1 Wd.2.2 (fun p e R s m args below meth c rr X => ?_)
  unfold tX12_keys
  refine zz_cons (k' := 1) rfl (zk_aload_n X dX12_keys_0 rfl rfl) ?_
  refine zz_cons (k' := 2) rfl (zk_getf X ff_X12_25 dX12_keys_1 rfl) ?_
  refine zz_cons (k' := 3) rfl (zz_Ok_none _ _) ?_
  refine zz_cons (k' := 4) rfl (zz_Ok_none _ _) ?_
  refine zz_cons (k' := 5) rfl (zk_iload_n X dX12_keys_4 rfl rfl) ?_
  refine zz_cons (k' := 6) rfl (zk_iald X (zzWR_st Wd) dX12_keys_5 rfl) ?_
  refine zz_cons (k' := 7) rfl (zk_istore_n X dX12_keys_6 rfl (by decide) rfl) ?_
  refine zz_cons (k' := 8) rfl (zk_aload_n X dX12_keys_7 rfl rfl) ?_
  refine zz_cons (k' := 9) rfl (zk_getf X ff_X12_193 dX12_keys_8 rfl) ?_
  refine zz_cons (k' := 10) rfl (zz_Ok_none _ _) ?_
  refine zz_cons (k' := 11) rfl (zz_Ok_none _ _) ?_
  refine zz_cons (k' := 12) rfl (zk_iconst X dX12_keys_11 (by decide) rfl) ?_
  refine zz_cons (k' := 13) rfl (zk_icmp_ne X dX12_keys_12 (by decide) rfl) ?_
  refine zz_cons (k' := 14) rfl (zz_Ok_none _ _) ?_
  refine zz_cons (k' := 15) rfl (zz_Ok_none _ _) ?_
  refine zz_cons (k' := 16) rfl (zk_aload_n X dX12_keys_15 rfl rfl) ?_
  refine zz_cons (k' := 17) rfl (zk_iload_n X dX12_keys_16 rfl rfl) ?_
  refine zz_cons (k' := 18) rfl (zk_callv X (zz_Cv_of (List.forall_mem_cons.mpr ⟨⟨(RX_10, zzT10, 50), yX12_comes, cX12_comes, 4, (some .int), 0, 0, rfl, kv_X12_208_10.1, (mm_X12_comes Wd).1, by decide, by decide⟩, (fun _ h => absurd h List.not_mem_nil)⟩)) dX12_keys_17 rfl) ?_
  refine zz_cons (k' := 19) rfl (zz_Ok_none _ _) ?_
  refine zz_cons (k' := 20) rfl (zz_Ok_none _ _) ?_
  refine zz_cons (k' := 21) rfl (zk_iload_n X dX12_keys_20 rfl rfl) ?_
  refine zz_cons (k' := 22) rfl (zk_iconst X dX12_keys_21 (by decide) rfl) ?_
  refine zz_cons (k' := 23) rfl (zk_icmp_ne X dX12_keys_22 (by decide) rfl) ?_
  refine zz_cons (k' := 24) rfl (zz_Ok_none _ _) ?_
  refine zz_cons (k' := 25) rfl (zz_Ok_none _ _) ?_
  refine zz_cons (k' := 26) rfl (zk_iconst X dX12_keys_25 (by decide) rfl) ?_
  refine zz_cons (k' := 27) rfl (zk_goto X dX12_keys_26 (by decide)) ?_
  refine zz_cons (k' := 28) rfl (zz_Ok_none _ _) ?_
  refine zz_cons (k' := 29) rfl (zz_Ok_none _ _) ?_
  refine zz_cons (k' := 30) rfl (zk_aload_n X dX12_keys_29 rfl rfl) ?_
  refine zz_cons (k' := 31) rfl (zk_iload_n X dX12_keys_30 rfl rfl) ?_
  refine zz_cons (k' := 32) rfl (zk_callv X (zz_Cv_of (List.forall_mem_cons.mpr ⟨⟨(RX_10, zzT10, 50), yX12_comes, cX12_comes, 4, (some .int), 0, 0, rfl, kv_X12_208_10.1, (mm_X12_comes Wd).1, by decide, by decide⟩, (fun _ h => absurd h List.not_mem_nil)⟩)) dX12_keys_31 rfl) ?_
  refine zz_cons (k' := 33) rfl (zz_Ok_none _ _) ?_
  refine zz_cons (k' := 34) rfl (zz_Ok_none _ _) ?_
  refine zz_cons (k' := 35) rfl (zk_iadd X dX12_keys_34 rfl) ?_
  refine zz_cons (k' := 36) rfl (zk_aload_n X dX12_keys_35 rfl rfl) ?_
  refine zz_cons (k' := 37) rfl (zk_iconst X dX12_keys_36 (by decide) rfl) ?_
  refine zz_cons (k' := 38) rfl (zk_iload_n X dX12_keys_37 rfl rfl) ?_
  refine zz_cons (k' := 39) rfl (zk_callv X (zz_Cv_of (List.forall_mem_cons.mpr ⟨⟨(RX_10, zzT10, 50), yX12_comeAll, cX12_comeAll, 11, (some .int), 3, 66, rfl, kv_X12_218_10.1, (mm_X12_comeAll Wd).1, by decide, by decide⟩, (fun _ h => absurd h List.not_mem_nil)⟩)) dX12_keys_38 rfl) ?_
  refine zz_cons (k' := 40) rfl (zz_Ok_none _ _) ?_
  refine zz_cons (k' := 41) rfl (zz_Ok_none _ _) ?_
  refine zz_cons (k' := 42) rfl (zk_iadd X dX12_keys_41 rfl) ?_
  refine zz_cons (k' := 43) rfl (zk_iret X rfl dX12_keys_42) ?_
  refine zz_cons (k' := 44) rfl (zk_iload_n X dX12_keys_43 rfl rfl) ?_
  refine zz_cons (k' := 45) rfl (zk_aload_n X dX12_keys_44 rfl rfl) ?_
  refine zz_cons (k' := 46) rfl (zk_callv X (zz_Cv_of (List.forall_mem_cons.mpr ⟨⟨(RX_10, zzT10, 50), yX12_ownKind, cX12_ownKind, 1, (some .int), 0, 0, rfl, kv_X12_221_10.1, (mm_X12_ownKind Wd).1, by decide, by decide⟩, (fun _ h => absurd h List.not_mem_nil)⟩)) dX12_keys_45 rfl) ?_
  refine zz_cons (k' := 47) rfl (zz_Ok_none _ _) ?_
  refine zz_cons (k' := 48) rfl (zz_Ok_none _ _) ?_
  refine zz_cons (k' := 49) rfl (zk_icmp_ne X dX12_keys_48 (by decide) rfl) ?_
  refine zz_cons (k' := 50) rfl (zz_Ok_none _ _) ?_
  refine zz_cons (k' := 51) rfl (zz_Ok_none _ _) ?_
  refine zz_cons (k' := 52) rfl (zk_aload_n X dX12_keys_51 rfl rfl) ?_
  refine zz_cons (k' := 53) rfl (zk_iload_n X dX12_keys_52 rfl rfl) ?_
  refine zz_cons (k' := 54) rfl (zk_callv X (zz_Cv_of (List.forall_mem_cons.mpr ⟨⟨(RX_10, zzT10, 50), yX12_comes, cX12_comes, 4, (some .int), 0, 0, rfl, kv_X12_208_10.1, (mm_X12_comes Wd).1, by decide, by decide⟩, (fun _ h => absurd h List.not_mem_nil)⟩)) dX12_keys_53 rfl) ?_
  refine zz_cons (k' := 55) rfl (zz_Ok_none _ _) ?_
  refine zz_cons (k' := 56) rfl (zz_Ok_none _ _) ?_
  refine zz_cons (k' := 57) rfl (zk_goto X dX12_keys_56 (by decide)) ?_
  refine zz_cons (k' := 58) rfl (zz_Ok_none _ _) ?_
  refine zz_cons (k' := 59) rfl (zz_Ok_none _ _) ?_
  refine zz_cons (k' := 60) rfl (zk_iconst X dX12_keys_59 (by decide) rfl) ?_
  refine zz_cons (k' := 61) rfl (zk_istore X dX12_keys_60 (by decide) rfl) ?_
  refine zz_cons (k' := 62) rfl (zz_Ok_none _ _) ?_
  refine zz_cons (k' := 63) rfl (zk_aload_n X dX12_keys_62 rfl rfl) ?_
  refine zz_cons (k' := 64) rfl (zk_getf X ff_X12_193 dX12_keys_63 rfl) ?_
  refine zz_cons (k' := 65) rfl (zz_Ok_none _ _) ?_
  refine zz_cons (k' := 66) rfl (zz_Ok_none _ _) ?_
  refine zz_cons (k' := 67) rfl (zk_if_ne X dX12_keys_66 (by decide) rfl) ?_
  refine zz_cons (k' := 68) rfl (zz_Ok_none _ _) ?_
  refine zz_cons (k' := 69) rfl (zz_Ok_none _ _) ?_
  refine zz_cons (k' := 70) rfl (zk_iload_n X dX12_keys_69 rfl rfl) ?_
  refine zz_cons (k' := 71) rfl (zk_iconst X dX12_keys_70 (by decide) rfl) ?_
  refine zz_cons (k' := 72) rfl (zk_icmp_ne X dX12_keys_71 (by decide) rfl) ?_
  refine zz_cons (k' := 73) rfl (zz_Ok_none _ _) ?_
  refine zz_cons (k' := 74) rfl (zz_Ok_none _ _) ?_
  refine zz_cons (k' := 75) rfl (zk_iload X dX12_keys_74 rfl) ?_
  refine zz_cons (k' := 76) rfl (zz_Ok_none _ _) ?_
  refine zz_cons (k' := 77) rfl (zk_iload_n X dX12_keys_76 rfl rfl) ?_
  refine zz_cons (k' := 78) rfl (zk_iconst X dX12_keys_77 (by decide) rfl) ?_
  refine zz_cons (k' := 79) rfl (zk_icmp_ne X dX12_keys_78 (by decide) rfl) ?_
  refine zz_cons (k' := 80) rfl (zz_Ok_none _ _) ?_
  refine zz_cons (k' := 81) rfl (zz_Ok_none _ _) ?_
  refine zz_cons (k' := 82) rfl (zk_iconst X dX12_keys_81 (by decide) rfl) ?_
  refine zz_cons (k' := 83) rfl (zk_goto X dX12_keys_82 (by decide)) ?_
  refine zz_cons (k' := 84) rfl (zz_Ok_none _ _) ?_
  refine zz_cons (k' := 85) rfl (zz_Ok_none _ _) ?_
  refine zz_cons (k' := 86) rfl (zk_aload_n X dX12_keys_85 rfl rfl) ?_
  refine zz_cons (k' := 87) rfl (zk_iload_n X dX12_keys_86 rfl rfl) ?_
  refine zz_cons (k' := 88) rfl (zk_callv X (zz_Cv_of (List.forall_mem_cons.mpr ⟨⟨(RX_10, zzT10, 50), yX12_comes, cX12_comes, 4, (some .int), 0, 0, rfl, kv_X12_208_10.1, (mm_X12_comes Wd).1, by decide, by decide⟩, (fun _ h => absurd h List.not_mem_nil)⟩)) dX12_keys_87 rfl) ?_
  refine zz_cons (k' := 89) rfl (zz_Ok_none _ _) ?_
  refine zz_cons (k' := 90) rfl (zz_Ok_none _ _) ?_
  refine zz_cons (k' := 91) rfl (zk_iadd X dX12_keys_90 rfl) ?_
  refine zz_cons (k' := 92) rfl (zk_istore X dX12_keys_91 (by decide) rfl) ?_
  refine zz_cons (k' := 93) rfl (zz_Ok_none _ _) ?_
  refine zz_cons (k' := 94) rfl (zk_goto X dX12_keys_93 (by decide)) ?_
  refine zz_cons (k' := 95) rfl (zz_Ok_none _ _) ?_
  refine zz_cons (k' := 96) rfl (zz_Ok_none _ _) ?_
  refine zz_cons (k' := 97) rfl (zk_aload_n X dX12_keys_96 rfl rfl) ?_
  refine zz_cons (k' := 98) rfl (zk_getf X ff_X12_193 dX12_keys_97 rfl) ?_
  refine zz_cons (k' := 99) rfl (zz_Ok_none _ _) ?_
  refine zz_cons (k' := 100) rfl (zz_Ok_none _ _) ?_
  refine zz_cons (k' := 101) rfl (zk_if_ne X dX12_keys_100 (by decide) rfl) ?_
  refine zz_cons (k' := 102) rfl (zz_Ok_none _ _) ?_
  refine zz_cons (k' := 103) rfl (zz_Ok_none _ _) ?_
  refine zz_cons (k' := 104) rfl (zk_iload_n X dX12_keys_103 rfl rfl) ?_
  refine zz_cons (k' := 105) rfl (zk_iconst X dX12_keys_104 (by decide) rfl) ?_
  refine zz_cons (k' := 106) rfl (zk_icmp_ne X dX12_keys_105 (by decide) rfl) ?_
  refine zz_cons (k' := 107) rfl (zz_Ok_none _ _) ?_
  refine zz_cons (k' := 108) rfl (zz_Ok_none _ _) ?_
  refine zz_cons (k' := 109) rfl (zk_iload X dX12_keys_108 rfl) ?_
  refine zz_cons (k' := 110) rfl (zz_Ok_none _ _) ?_
  refine zz_cons (k' := 111) rfl (zk_aload_n X dX12_keys_110 rfl rfl) ?_
  refine zz_cons (k' := 112) rfl (zk_iload_n X dX12_keys_111 rfl rfl) ?_
  refine zz_cons (k' := 113) rfl (zk_callv X (zz_Cv_of (List.forall_mem_cons.mpr ⟨⟨(RX_10, zzT10, 50), yX12_ownersOwner, cX12_ownersOwner, 2, (some .int), 2, 45, rfl, kv_X12_225_10.1, (mm_X12_ownersOwner Wd).1, by decide, by decide⟩, (fun _ h => absurd h List.not_mem_nil)⟩)) dX12_keys_112 rfl) ?_
  refine zz_cons (k' := 114) rfl (zz_Ok_none _ _) ?_
  refine zz_cons (k' := 115) rfl (zz_Ok_none _ _) ?_
  refine zz_cons (k' := 116) rfl (zk_iconst X dX12_keys_115 (by decide) rfl) ?_
  refine zz_cons (k' := 117) rfl (zk_icmp_ne X dX12_keys_116 (by decide) rfl) ?_
  refine zz_cons (k' := 118) rfl (zz_Ok_none _ _) ?_
  refine zz_cons (k' := 119) rfl (zz_Ok_none _ _) ?_
  refine zz_cons (k' := 120) rfl (zk_iconst X dX12_keys_119 (by decide) rfl) ?_
  refine zz_cons (k' := 121) rfl (zk_goto X dX12_keys_120 (by decide)) ?_
  refine zz_cons (k' := 122) rfl (zz_Ok_none _ _) ?_
  refine zz_cons (k' := 123) rfl (zz_Ok_none _ _) ?_
  refine zz_cons (k' := 124) rfl (zk_aload_n X dX12_keys_123 rfl rfl) ?_
  refine zz_cons (k' := 125) rfl (zk_aload_n X dX12_keys_124 rfl rfl) ?_
  refine zz_cons (k' := 126) rfl (zk_iload_n X dX12_keys_125 rfl rfl) ?_
  refine zz_cons (k' := 127) rfl (zk_callv X (zz_Cv_of (List.forall_mem_cons.mpr ⟨⟨(RX_10, zzT10, 50), yX12_ownersOwner, cX12_ownersOwner, 2, (some .int), 2, 45, rfl, kv_X12_225_10.1, (mm_X12_ownersOwner Wd).1, by decide, by decide⟩, (fun _ h => absurd h List.not_mem_nil)⟩)) dX12_keys_126 rfl) ?_
  refine zz_cons (k' := 128) rfl (zz_Ok_none _ _) ?_
  refine zz_cons (k' := 129) rfl (zz_Ok_none _ _) ?_
  refine zz_cons (k' := 130) rfl (zk_callv X (zz_Cv_of (List.forall_mem_cons.mpr ⟨⟨(RX_10, zzT10, 50), yX12_comes, cX12_comes, 4, (some .int), 0, 0, rfl, kv_X12_208_10.1, (mm_X12_comes Wd).1, by decide, by decide⟩, (fun _ h => absurd h List.not_mem_nil)⟩)) dX12_keys_129 rfl) ?_
  refine zz_cons (k' := 131) rfl (zz_Ok_none _ _) ?_
  refine zz_cons (k' := 132) rfl (zz_Ok_none _ _) ?_
  refine zz_cons (k' := 133) rfl (zk_iadd X dX12_keys_132 rfl) ?_
  refine zz_cons (k' := 134) rfl (zk_istore X dX12_keys_133 (by decide) rfl) ?_
  refine zz_cons (k' := 135) rfl (zz_Ok_none _ _) ?_
  refine zz_cons (k' := 136) rfl (zk_goto X dX12_keys_135 (by decide)) ?_
  refine zz_cons (k' := 137) rfl (zz_Ok_none _ _) ?_
  refine zz_cons (k' := 138) rfl (zz_Ok_none _ _) ?_
  refine zz_cons (k' := 139) rfl (zk_aload_n X dX12_keys_138 rfl rfl) ?_
  refine zz_cons (k' := 140) rfl (zk_getf X ff_X12_193 dX12_keys_139 rfl) ?_
  refine zz_cons (k' := 141) rfl (zz_Ok_none _ _) ?_
  refine zz_cons (k' := 142) rfl (zz_Ok_none _ _) ?_
  refine zz_cons (k' := 143) rfl (zk_iconst X dX12_keys_142 (by decide) rfl) ?_
  refine zz_cons (k' := 144) rfl (zk_icmp_eq X dX12_keys_143 (by decide) rfl) ?_
  refine zz_cons (k' := 145) rfl (zz_Ok_none _ _) ?_
  refine zz_cons (k' := 146) rfl (zz_Ok_none _ _) ?_
  refine zz_cons (k' := 147) rfl (zk_aload_n X dX12_keys_146 rfl rfl) ?_
  refine zz_cons (k' := 148) rfl (zk_getf X ff_X12_193 dX12_keys_147 rfl) ?_
  refine zz_cons (k' := 149) rfl (zz_Ok_none _ _) ?_
  refine zz_cons (k' := 150) rfl (zz_Ok_none _ _) ?_
  refine zz_cons (k' := 151) rfl (zk_iconst X dX12_keys_150 (by decide) rfl) ?_
  refine zz_cons (k' := 152) rfl (zk_icmp_ne X dX12_keys_151 (by decide) rfl) ?_
  refine zz_cons (k' := 153) rfl (zz_Ok_none _ _) ?_
  refine zz_cons (k' := 154) rfl (zz_Ok_none _ _) ?_
  refine zz_cons (k' := 155) rfl (zk_iload_n X dX12_keys_154 rfl rfl) ?_
  refine zz_cons (k' := 156) rfl (zk_iconst X dX12_keys_155 (by decide) rfl) ?_
  refine zz_cons (k' := 157) rfl (zk_icmp_ne X dX12_keys_156 (by decide) rfl) ?_
  refine zz_cons (k' := 158) rfl (zz_Ok_none _ _) ?_
  refine zz_cons (k' := 159) rfl (zz_Ok_none _ _) ?_
  refine zz_cons (k' := 160) rfl (zk_iload X dX12_keys_159 rfl) ?_
  refine zz_cons (k' := 161) rfl (zz_Ok_none _ _) ?_
  refine zz_cons (k' := 162) rfl (zk_aload_n X dX12_keys_161 rfl rfl) ?_
  refine zz_cons (k' := 163) rfl (zk_iload_n X dX12_keys_162 rfl rfl) ?_
  refine zz_cons (k' := 164) rfl (zk_aload_n X dX12_keys_163 rfl rfl) ?_
  refine zz_cons (k' := 165) rfl (zk_getf X ff_X12_193 dX12_keys_164 rfl) ?_
  refine zz_cons (k' := 166) rfl (zz_Ok_none _ _) ?_
  refine zz_cons (k' := 167) rfl (zz_Ok_none _ _) ?_
  refine zz_cons (k' := 168) rfl (zk_iconst X dX12_keys_167 (by decide) rfl) ?_
  refine zz_cons (k' := 169) rfl (zk_icmp_ne X dX12_keys_168 (by decide) rfl) ?_
  refine zz_cons (k' := 170) rfl (zz_Ok_none _ _) ?_
  refine zz_cons (k' := 171) rfl (zz_Ok_none _ _) ?_
  refine zz_cons (k' := 172) rfl (zk_iconst X dX12_keys_171 (by decide) rfl) ?_
  refine zz_cons (k' := 173) rfl (zk_goto X dX12_keys_172 (by decide)) ?_
  refine zz_cons (k' := 174) rfl (zz_Ok_none _ _) ?_
  refine zz_cons (k' := 175) rfl (zz_Ok_none _ _) ?_
  refine zz_cons (k' := 176) rfl (zk_iconst X dX12_keys_175 (by decide) rfl) ?_
  refine zz_cons (k' := 177) rfl (zk_callv X (zz_Cv_of (List.forall_mem_cons.mpr ⟨⟨(RX_10, zzT10, 50), yX12_comesIf, cX12_comesIf, 3, (some .int), 1, 23, rfl, kv_X12_228_10.1, (mm_X12_comesIf Wd).1, by decide, by decide⟩, (fun _ h => absurd h List.not_mem_nil)⟩)) dX12_keys_176 rfl) ?_
  refine zz_cons (k' := 178) rfl (zz_Ok_none _ _) ?_
  refine zz_cons (k' := 179) rfl (zz_Ok_none _ _) ?_
  refine zz_cons (k' := 180) rfl (zk_iadd X dX12_keys_179 rfl) ?_
  refine zz_cons (k' := 181) rfl (zk_istore X dX12_keys_180 (by decide) rfl) ?_
  refine zz_cons (k' := 182) rfl (zz_Ok_none _ _) ?_
  refine zz_cons (k' := 183) rfl (zk_goto X dX12_keys_182 (by decide)) ?_
  refine zz_cons (k' := 184) rfl (zz_Ok_none _ _) ?_
  refine zz_cons (k' := 185) rfl (zz_Ok_none _ _) ?_
  refine zz_cons (k' := 186) rfl (zk_aload_n X dX12_keys_185 rfl rfl) ?_
  refine zz_cons (k' := 187) rfl (zk_getf X ff_X12_193 dX12_keys_186 rfl) ?_
  refine zz_cons (k' := 188) rfl (zz_Ok_none _ _) ?_
  refine zz_cons (k' := 189) rfl (zz_Ok_none _ _) ?_
  refine zz_cons (k' := 190) rfl (zk_iconst X dX12_keys_189 (by decide) rfl) ?_
  refine zz_cons (k' := 191) rfl (zk_icmp_ne X dX12_keys_190 (by decide) rfl) ?_
  refine zz_cons (k' := 192) rfl (zz_Ok_none _ _) ?_
  refine zz_cons (k' := 193) rfl (zz_Ok_none _ _) ?_
  refine zz_cons (k' := 194) rfl (zk_iload_n X dX12_keys_193 rfl rfl) ?_
  refine zz_cons (k' := 195) rfl (zk_iconst X dX12_keys_194 (by decide) rfl) ?_
  refine zz_cons (k' := 196) rfl (zk_icmp_ne X dX12_keys_195 (by decide) rfl) ?_
  refine zz_cons (k' := 197) rfl (zz_Ok_none _ _) ?_
  refine zz_cons (k' := 198) rfl (zz_Ok_none _ _) ?_
  refine zz_cons (k' := 199) rfl (zk_iload X dX12_keys_198 rfl) ?_
  refine zz_cons (k' := 200) rfl (zz_Ok_none _ _) ?_
  refine zz_cons (k' := 201) rfl (zk_aload_n X dX12_keys_200 rfl rfl) ?_
  refine zz_cons (k' := 202) rfl (zk_iconst X dX12_keys_201 (by decide) rfl) ?_
  refine zz_cons (k' := 203) rfl (zk_iload_n X dX12_keys_202 rfl rfl) ?_
  refine zz_cons (k' := 204) rfl (zk_callv X (zz_Cv_of (List.forall_mem_cons.mpr ⟨⟨(RX_10, zzT10, 50), yX12_comeAll, cX12_comeAll, 11, (some .int), 3, 66, rfl, kv_X12_218_10.1, (mm_X12_comeAll Wd).1, by decide, by decide⟩, (fun _ h => absurd h List.not_mem_nil)⟩)) dX12_keys_203 rfl) ?_
  refine zz_cons (k' := 205) rfl (zz_Ok_none _ _) ?_
  refine zz_cons (k' := 206) rfl (zz_Ok_none _ _) ?_
  refine zz_cons (k' := 207) rfl (zk_iadd X dX12_keys_206 rfl) ?_
  refine zz_cons (k' := 208) rfl (zk_istore X dX12_keys_207 (by decide) rfl) ?_
  refine zz_cons (k' := 209) rfl (zz_Ok_none _ _) ?_
  refine zz_cons (k' := 210) rfl (zk_goto X dX12_keys_209 (by decide)) ?_
  refine zz_cons (k' := 211) rfl (zz_Ok_none _ _) ?_
  refine zz_cons (k' := 212) rfl (zz_Ok_none _ _) ?_
  refine zz_cons (k' := 213) rfl (zk_aload_n X dX12_keys_212 rfl rfl) ?_
  refine zz_cons (k' := 214) rfl (zk_getf X ff_X12_193 dX12_keys_213 rfl) ?_
  refine zz_cons (k' := 215) rfl (zz_Ok_none _ _) ?_
  refine zz_cons (k' := 216) rfl (zz_Ok_none _ _) ?_
  refine zz_cons (k' := 217) rfl (zk_iconst X dX12_keys_216 (by decide) rfl) ?_
  refine zz_cons (k' := 218) rfl (zk_icmp_ne X dX12_keys_217 (by decide) rfl) ?_
  refine zz_cons (k' := 219) rfl (zz_Ok_none _ _) ?_
  refine zz_cons (k' := 220) rfl (zz_Ok_none _ _) ?_
  refine zz_cons (k' := 221) rfl (zk_iload_n X dX12_keys_220 rfl rfl) ?_
  refine zz_cons (k' := 222) rfl (zk_iconst X dX12_keys_221 (by decide) rfl) ?_
  refine zz_cons (k' := 223) rfl (zk_icmp_ne X dX12_keys_222 (by decide) rfl) ?_
  refine zz_cons (k' := 224) rfl (zz_Ok_none _ _) ?_
  refine zz_cons (k' := 225) rfl (zz_Ok_none _ _) ?_
  refine zz_cons (k' := 226) rfl (zk_iload X dX12_keys_225 rfl) ?_
  refine zz_cons (k' := 227) rfl (zz_Ok_none _ _) ?_
  refine zz_cons (k' := 228) rfl (zk_aload_n X dX12_keys_227 rfl rfl) ?_
  refine zz_cons (k' := 229) rfl (zk_iconst X dX12_keys_228 (by decide) rfl) ?_
  refine zz_cons (k' := 230) rfl (zk_iload_n X dX12_keys_229 rfl rfl) ?_
  refine zz_cons (k' := 231) rfl (zk_callv X (zz_Cv_of (List.forall_mem_cons.mpr ⟨⟨(RX_10, zzT10, 50), yX12_comeAll, cX12_comeAll, 11, (some .int), 3, 66, rfl, kv_X12_218_10.1, (mm_X12_comeAll Wd).1, by decide, by decide⟩, (fun _ h => absurd h List.not_mem_nil)⟩)) dX12_keys_230 rfl) ?_
  refine zz_cons (k' := 232) rfl (zz_Ok_none _ _) ?_
  refine zz_cons (k' := 233) rfl (zz_Ok_none _ _) ?_
  refine zz_cons (k' := 234) rfl (zk_iadd X dX12_keys_233 rfl) ?_
  refine zz_cons (k' := 235) rfl (zk_istore X dX12_keys_234 (by decide) rfl) ?_
  refine zz_cons (k' := 236) rfl (zz_Ok_none _ _) ?_
  refine zz_cons (k' := 237) rfl (zk_goto X dX12_keys_236 (by decide)) ?_
  refine zz_cons (k' := 238) rfl (zz_Ok_none _ _) ?_
  refine zz_cons (k' := 239) rfl (zz_Ok_none _ _) ?_
  refine zz_cons (k' := 240) rfl (zk_aload_n X dX12_keys_239 rfl rfl) ?_
  refine zz_cons (k' := 241) rfl (zk_getf X ff_X12_193 dX12_keys_240 rfl) ?_
  refine zz_cons (k' := 242) rfl (zz_Ok_none _ _) ?_
  refine zz_cons (k' := 243) rfl (zz_Ok_none _ _) ?_
  refine zz_cons (k' := 244) rfl (zk_bipush X dX12_keys_243 (by decide) rfl) ?_
  refine zz_cons (k' := 245) rfl (zz_Ok_none _ _) ?_
  refine zz_cons (k' := 246) rfl (zk_icmp_ne X dX12_keys_245 (by decide) rfl) ?_
  refine zz_cons (k' := 247) rfl (zz_Ok_none _ _) ?_
  refine zz_cons (k' := 248) rfl (zz_Ok_none _ _) ?_
  refine zz_cons (k' := 249) rfl (zk_iload_n X dX12_keys_248 rfl rfl) ?_
  refine zz_cons (k' := 250) rfl (zk_iconst X dX12_keys_249 (by decide) rfl) ?_
  refine zz_cons (k' := 251) rfl (zk_icmp_ne X dX12_keys_250 (by decide) rfl) ?_
  refine zz_cons (k' := 252) rfl (zz_Ok_none _ _) ?_
  refine zz_cons (k' := 253) rfl (zz_Ok_none _ _) ?_
  refine zz_cons (k' := 254) rfl (zk_iload X dX12_keys_253 rfl) ?_
  refine zz_cons (k' := 255) rfl (zz_Ok_none _ _) ?_
  refine zz_cons (k' := 256) rfl (zk_aload_n X dX12_keys_255 rfl rfl) ?_
  refine zz_cons (k' := 257) rfl (zk_iconst X dX12_keys_256 (by decide) rfl) ?_
  refine zz_cons (k' := 258) rfl (zk_iload_n X dX12_keys_257 rfl rfl) ?_
  refine zz_cons (k' := 259) rfl (zk_callv X (zz_Cv_of (List.forall_mem_cons.mpr ⟨⟨(RX_10, zzT10, 50), yX12_comeAll, cX12_comeAll, 11, (some .int), 3, 66, rfl, kv_X12_218_10.1, (mm_X12_comeAll Wd).1, by decide, by decide⟩, (fun _ h => absurd h List.not_mem_nil)⟩)) dX12_keys_258 rfl) ?_
  refine zz_cons (k' := 260) rfl (zz_Ok_none _ _) ?_
  refine zz_cons (k' := 261) rfl (zz_Ok_none _ _) ?_
  refine zz_cons (k' := 262) rfl (zk_iadd X dX12_keys_261 rfl) ?_
  refine zz_cons (k' := 263) rfl (zk_istore X dX12_keys_262 (by decide) rfl) ?_
  refine zz_cons (k' := 264) rfl (zz_Ok_none _ _) ?_
  refine zz_cons (k' := 265) rfl (zk_iload X dX12_keys_264 rfl) ?_
  refine zz_cons (k' := 266) rfl (zz_Ok_none _ _) ?_
  refine zz_cons (k' := 267) rfl (zk_iret X rfl dX12_keys_266) ?_
  exact trivial
noncomputable def tX12_seesOne : List zzOp := [
  zo_aload 0 1,
  zo_getf zzSR (zz_kf [10] 32) 4,
  zo_none,
  zo_none,
  zo_aload 0 5,
  zo_getf zzSR (zz_kf [10] 42) 8,
  zo_none,
  zo_none,
  zo_iald zzSR zzSTR 9,
  zo_pushI 1 10,
  zo_ii (fun x y => x + y) 11,
  zo_istore 1 12,
  zo_aload 0 13,
  zo_getf zzSR (zz_kf [10] 16) 16,
  zo_none,
  zo_none,
  zo_iload 1 17,
  zo_iald zzSR zzSTR 18,
  zo_istore 2 19,
  zo_pushI 60 21,
  zo_none,
  zo_aload 0 22,
  zo_getf zzSR (zz_kf [10] 42) 25,
  zo_none,
  zo_none,
  zo_ii (fun x y => x * y) 26,
  zo_iload 2 27,
  zo_ii (fun x y => x + y) 28,
  zo_istore 3 29,
  zo_aload 0 30,
  zo_aload 0 31,
  zo_getf zzSR (zz_kf [10] 17) 34,
  zo_none,
  zo_none,
  zo_iload 1 35,
  zo_lald zzSR 36,
  zo_callv zzSR (zz_cl [(10, fX12_ownerIn)]) 1 39,
  zo_none,
  zo_none,
  zo_istore 4 41,
  zo_none,
  zo_iload 4 43,
  zo_none,
  zo_pushI (-1) 44,
  zo_icmp (fun x y => decide (¬ x = y)) 69 47,
  zo_none,
  zo_none,
  zo_aload 0 48,
  zo_getf zzSR (zz_kf [10] 33) 51,
  zo_none,
  zo_none,
  zo_iload 3 52,
  zo_zald zzSR 53,
  zo_if (fun x => decide (x = 0)) 69 56,
  zo_none,
  zo_none,
  zo_aload 0 57,
  zo_aload 0 58,
  zo_getf zzSR (zz_kf [10] 34) 61,
  zo_none,
  zo_none,
  zo_iload 3 62,
  zo_lald zzSR 63,
  zo_callv zzSR (zz_cl [(10, fX12_ownerIn)]) 1 66,
  zo_none,
  zo_none,
  zo_goto 71,
  zo_none,
  zo_none,
  zo_iload 4 71,
  zo_none,
  zo_istore 4 73,
  zo_none,
  zo_aload 0 74,
  zo_getf zzSR (zz_kf [10] 33) 77,
  zo_none,
  zo_none,
  zo_iload 3 78,
  zo_pushI 1 79,
  zo_zast zzSR 80,
  zo_aload 0 81,
  zo_getf zzSR (zz_kf [10] 34) 84,
  zo_none,
  zo_none,
  zo_iload 3 85,
  zo_aload 0 86,
  zo_getf zzSR (zz_kf [10] 17) 89,
  zo_none,
  zo_none,
  zo_iload 1 90,
  zo_lald zzSR 91,
  zo_last zzSR 92,
  zo_aload 0 93,
  zo_getf zzSR (zz_kf [10] 35) 96,
  zo_none,
  zo_none,
  zo_iload 3 97,
  zo_aload 0 98,
  zo_getf zzSR (zz_kf [10] 18) 101,
  zo_none,
  zo_none,
  zo_iload 1 102,
  zo_lald zzSR 103,
  zo_last zzSR 104,
  zo_aload 0 105,
  zo_getf zzSR (zz_kf [10] 36) 108,
  zo_none,
  zo_none,
  zo_iload 3 109,
  zo_iload 1 110,
  zo_iast zzSR 111,
  zo_aload 0 112,
  zo_getf zzSR (zz_kf [10] 32) 115,
  zo_none,
  zo_none,
  zo_aload 0 116,
  zo_getf zzSR (zz_kf [10] 42) 119,
  zo_none,
  zo_none,
  zo_iload 1 120,
  zo_iast zzSR 121,
  zo_aload 0 122,
  zo_iload 2 123,
  zo_iload 4 125,
  zo_none,
  zo_callv zzSR (zz_cl [(10, fX12_keys)]) 2 128,
  zo_none,
  zo_none,
  zo_iret false]
set_option maxRecDepth 100000 in
theorem tl_X12_seesOne : ∀ pc, zz_Tl (tX12_seesOne.getD pc zo_none) := by
  refine zz_Tl_mem ?_
  unfold tX12_seesOne
  refine List.forall_mem_cons.mpr ⟨(zo_aload_tl _ _), ?_⟩
  refine List.forall_mem_cons.mpr ⟨(zo_getf_tl _ _ _), ?_⟩
  refine List.forall_mem_cons.mpr ⟨zo_none_tl, ?_⟩
  refine List.forall_mem_cons.mpr ⟨zo_none_tl, ?_⟩
  refine List.forall_mem_cons.mpr ⟨(zo_aload_tl _ _), ?_⟩
  refine List.forall_mem_cons.mpr ⟨(zo_getf_tl _ _ _), ?_⟩
  refine List.forall_mem_cons.mpr ⟨zo_none_tl, ?_⟩
  refine List.forall_mem_cons.mpr ⟨zo_none_tl, ?_⟩
  refine List.forall_mem_cons.mpr ⟨(zo_iald_tl _ _ _), ?_⟩
  refine List.forall_mem_cons.mpr ⟨(zo_pushI_tl _ _), ?_⟩
  refine List.forall_mem_cons.mpr ⟨(zo_ii_tl _ _), ?_⟩
  refine List.forall_mem_cons.mpr ⟨(zo_istore_tl _ _), ?_⟩
  refine List.forall_mem_cons.mpr ⟨(zo_aload_tl _ _), ?_⟩
  refine List.forall_mem_cons.mpr ⟨(zo_getf_tl _ _ _), ?_⟩
  refine List.forall_mem_cons.mpr ⟨zo_none_tl, ?_⟩
  refine List.forall_mem_cons.mpr ⟨zo_none_tl, ?_⟩
  refine List.forall_mem_cons.mpr ⟨(zo_iload_tl _ _), ?_⟩
  refine List.forall_mem_cons.mpr ⟨(zo_iald_tl _ _ _), ?_⟩
  refine List.forall_mem_cons.mpr ⟨(zo_istore_tl _ _), ?_⟩
  refine List.forall_mem_cons.mpr ⟨(zo_pushI_tl _ _), ?_⟩
  refine List.forall_mem_cons.mpr ⟨zo_none_tl, ?_⟩
  refine List.forall_mem_cons.mpr ⟨(zo_aload_tl _ _), ?_⟩
  refine List.forall_mem_cons.mpr ⟨(zo_getf_tl _ _ _), ?_⟩
  refine List.forall_mem_cons.mpr ⟨zo_none_tl, ?_⟩
  refine List.forall_mem_cons.mpr ⟨zo_none_tl, ?_⟩
  refine List.forall_mem_cons.mpr ⟨(zo_ii_tl _ _), ?_⟩
  refine List.forall_mem_cons.mpr ⟨(zo_iload_tl _ _), ?_⟩
  refine List.forall_mem_cons.mpr ⟨(zo_ii_tl _ _), ?_⟩
  refine List.forall_mem_cons.mpr ⟨(zo_istore_tl _ _), ?_⟩
  refine List.forall_mem_cons.mpr ⟨(zo_aload_tl _ _), ?_⟩
  refine List.forall_mem_cons.mpr ⟨(zo_aload_tl _ _), ?_⟩
  refine List.forall_mem_cons.mpr ⟨(zo_getf_tl _ _ _), ?_⟩
  refine List.forall_mem_cons.mpr ⟨zo_none_tl, ?_⟩
  refine List.forall_mem_cons.mpr ⟨zo_none_tl, ?_⟩
  refine List.forall_mem_cons.mpr ⟨(zo_iload_tl _ _), ?_⟩
  refine List.forall_mem_cons.mpr ⟨(zo_lald_tl _ _), ?_⟩
  refine List.forall_mem_cons.mpr ⟨(zo_callv_tl _ _ _ _), ?_⟩
  refine List.forall_mem_cons.mpr ⟨zo_none_tl, ?_⟩
  refine List.forall_mem_cons.mpr ⟨zo_none_tl, ?_⟩
  refine List.forall_mem_cons.mpr ⟨(zo_istore_tl _ _), ?_⟩
  refine List.forall_mem_cons.mpr ⟨zo_none_tl, ?_⟩
  refine List.forall_mem_cons.mpr ⟨(zo_iload_tl _ _), ?_⟩
  refine List.forall_mem_cons.mpr ⟨zo_none_tl, ?_⟩
  refine List.forall_mem_cons.mpr ⟨(zo_pushI_tl _ _), ?_⟩
  refine List.forall_mem_cons.mpr ⟨(zo_icmp_tl _ _ _), ?_⟩
  refine List.forall_mem_cons.mpr ⟨zo_none_tl, ?_⟩
  refine List.forall_mem_cons.mpr ⟨zo_none_tl, ?_⟩
  refine List.forall_mem_cons.mpr ⟨(zo_aload_tl _ _), ?_⟩
  refine List.forall_mem_cons.mpr ⟨(zo_getf_tl _ _ _), ?_⟩
  refine List.forall_mem_cons.mpr ⟨zo_none_tl, ?_⟩
  refine List.forall_mem_cons.mpr ⟨zo_none_tl, ?_⟩
  refine List.forall_mem_cons.mpr ⟨(zo_iload_tl _ _), ?_⟩
  refine List.forall_mem_cons.mpr ⟨(zo_zald_tl _ _), ?_⟩
  refine List.forall_mem_cons.mpr ⟨(zo_if_tl _ _ _), ?_⟩
  refine List.forall_mem_cons.mpr ⟨zo_none_tl, ?_⟩
  refine List.forall_mem_cons.mpr ⟨zo_none_tl, ?_⟩
  refine List.forall_mem_cons.mpr ⟨(zo_aload_tl _ _), ?_⟩
  refine List.forall_mem_cons.mpr ⟨(zo_aload_tl _ _), ?_⟩
  refine List.forall_mem_cons.mpr ⟨(zo_getf_tl _ _ _), ?_⟩
  refine List.forall_mem_cons.mpr ⟨zo_none_tl, ?_⟩
  refine List.forall_mem_cons.mpr ⟨zo_none_tl, ?_⟩
  refine List.forall_mem_cons.mpr ⟨(zo_iload_tl _ _), ?_⟩
  refine List.forall_mem_cons.mpr ⟨(zo_lald_tl _ _), ?_⟩
  refine List.forall_mem_cons.mpr ⟨(zo_callv_tl _ _ _ _), ?_⟩
  refine List.forall_mem_cons.mpr ⟨zo_none_tl, ?_⟩
  refine List.forall_mem_cons.mpr ⟨zo_none_tl, ?_⟩
  refine List.forall_mem_cons.mpr ⟨(zo_goto_tl _), ?_⟩
  refine List.forall_mem_cons.mpr ⟨zo_none_tl, ?_⟩
  refine List.forall_mem_cons.mpr ⟨zo_none_tl, ?_⟩
  refine List.forall_mem_cons.mpr ⟨(zo_iload_tl _ _), ?_⟩
  refine List.forall_mem_cons.mpr ⟨zo_none_tl, ?_⟩
  refine List.forall_mem_cons.mpr ⟨(zo_istore_tl _ _), ?_⟩
  refine List.forall_mem_cons.mpr ⟨zo_none_tl, ?_⟩
  refine List.forall_mem_cons.mpr ⟨(zo_aload_tl _ _), ?_⟩
  refine List.forall_mem_cons.mpr ⟨(zo_getf_tl _ _ _), ?_⟩
  refine List.forall_mem_cons.mpr ⟨zo_none_tl, ?_⟩
  refine List.forall_mem_cons.mpr ⟨zo_none_tl, ?_⟩
  refine List.forall_mem_cons.mpr ⟨(zo_iload_tl _ _), ?_⟩
  refine List.forall_mem_cons.mpr ⟨(zo_pushI_tl _ _), ?_⟩
  refine List.forall_mem_cons.mpr ⟨(zo_zast_tl _ _), ?_⟩
  refine List.forall_mem_cons.mpr ⟨(zo_aload_tl _ _), ?_⟩
  refine List.forall_mem_cons.mpr ⟨(zo_getf_tl _ _ _), ?_⟩
  refine List.forall_mem_cons.mpr ⟨zo_none_tl, ?_⟩
  refine List.forall_mem_cons.mpr ⟨zo_none_tl, ?_⟩
  refine List.forall_mem_cons.mpr ⟨(zo_iload_tl _ _), ?_⟩
  refine List.forall_mem_cons.mpr ⟨(zo_aload_tl _ _), ?_⟩
  refine List.forall_mem_cons.mpr ⟨(zo_getf_tl _ _ _), ?_⟩
  refine List.forall_mem_cons.mpr ⟨zo_none_tl, ?_⟩
  refine List.forall_mem_cons.mpr ⟨zo_none_tl, ?_⟩
  refine List.forall_mem_cons.mpr ⟨(zo_iload_tl _ _), ?_⟩
  refine List.forall_mem_cons.mpr ⟨(zo_lald_tl _ _), ?_⟩
  refine List.forall_mem_cons.mpr ⟨(zo_last_tl _ _), ?_⟩
  refine List.forall_mem_cons.mpr ⟨(zo_aload_tl _ _), ?_⟩
  refine List.forall_mem_cons.mpr ⟨(zo_getf_tl _ _ _), ?_⟩
  refine List.forall_mem_cons.mpr ⟨zo_none_tl, ?_⟩
  refine List.forall_mem_cons.mpr ⟨zo_none_tl, ?_⟩
  refine List.forall_mem_cons.mpr ⟨(zo_iload_tl _ _), ?_⟩
  refine List.forall_mem_cons.mpr ⟨(zo_aload_tl _ _), ?_⟩
  refine List.forall_mem_cons.mpr ⟨(zo_getf_tl _ _ _), ?_⟩
  refine List.forall_mem_cons.mpr ⟨zo_none_tl, ?_⟩
  refine List.forall_mem_cons.mpr ⟨zo_none_tl, ?_⟩
  refine List.forall_mem_cons.mpr ⟨(zo_iload_tl _ _), ?_⟩
  refine List.forall_mem_cons.mpr ⟨(zo_lald_tl _ _), ?_⟩
  refine List.forall_mem_cons.mpr ⟨(zo_last_tl _ _), ?_⟩
  refine List.forall_mem_cons.mpr ⟨(zo_aload_tl _ _), ?_⟩
  refine List.forall_mem_cons.mpr ⟨(zo_getf_tl _ _ _), ?_⟩
  refine List.forall_mem_cons.mpr ⟨zo_none_tl, ?_⟩
  refine List.forall_mem_cons.mpr ⟨zo_none_tl, ?_⟩
  refine List.forall_mem_cons.mpr ⟨(zo_iload_tl _ _), ?_⟩
  refine List.forall_mem_cons.mpr ⟨(zo_iload_tl _ _), ?_⟩
  refine List.forall_mem_cons.mpr ⟨(zo_iast_tl _ _), ?_⟩
  refine List.forall_mem_cons.mpr ⟨(zo_aload_tl _ _), ?_⟩
  refine List.forall_mem_cons.mpr ⟨(zo_getf_tl _ _ _), ?_⟩
  refine List.forall_mem_cons.mpr ⟨zo_none_tl, ?_⟩
  refine List.forall_mem_cons.mpr ⟨zo_none_tl, ?_⟩
  refine List.forall_mem_cons.mpr ⟨(zo_aload_tl _ _), ?_⟩
  refine List.forall_mem_cons.mpr ⟨(zo_getf_tl _ _ _), ?_⟩
  refine List.forall_mem_cons.mpr ⟨zo_none_tl, ?_⟩
  refine List.forall_mem_cons.mpr ⟨zo_none_tl, ?_⟩
  refine List.forall_mem_cons.mpr ⟨(zo_iload_tl _ _), ?_⟩
  refine List.forall_mem_cons.mpr ⟨(zo_iast_tl _ _), ?_⟩
  refine List.forall_mem_cons.mpr ⟨(zo_aload_tl _ _), ?_⟩
  refine List.forall_mem_cons.mpr ⟨(zo_iload_tl _ _), ?_⟩
  refine List.forall_mem_cons.mpr ⟨(zo_iload_tl _ _), ?_⟩
  refine List.forall_mem_cons.mpr ⟨zo_none_tl, ?_⟩
  refine List.forall_mem_cons.mpr ⟨(zo_callv_tl _ _ _ _), ?_⟩
  refine List.forall_mem_cons.mpr ⟨zo_none_tl, ?_⟩
  refine List.forall_mem_cons.mpr ⟨zo_none_tl, ?_⟩
  refine List.forall_mem_cons.mpr ⟨(zo_iret_tl _), ?_⟩
  exact fun _ h => absurd h List.not_mem_nil
noncomputable def fX12_seesOne : zzFn := zz_fn tX12_seesOne 5
set_option maxRecDepth 100000 in
set_option maxHeartbeats 4000000 in
theorem mm_X12_seesOne {l : Launch} {D : va_G} {cA : Nat → ClassId} {ad : Nat → Nat} {Ex : (Nat → Prop) → State → Heap → Prop} (Wd : zzWR l D cA ad Ex) : zz_Cn l D zzCl cA ad zzSR Ex yX12_seesOne cX12_seesOne 5 (some .int) 5 120 fX12_seesOne ∧ zz_Cx l D zzCl cA ad zzSR Ex yX12_seesOne cX12_seesOne 5 (some .int) 5 120 fX12_seesOne := by
  refine zz_meth (plainFor_of_name (by decide)) Wd.1 Wd.2.1 Wd.2.2 (fun p e R s m args below meth c rr X => ?_)
  unfold tX12_seesOne
  refine zz_cons (k' := 1) rfl (zk_aload_n X dX12_seesOne_0 rfl rfl) ?_
  refine zz_cons (k' := 2) rfl (zk_getf X ff_X12_90 dX12_seesOne_1 rfl) ?_
  refine zz_cons (k' := 3) rfl (zz_Ok_none _ _) ?_
  refine zz_cons (k' := 4) rfl (zz_Ok_none _ _) ?_
  refine zz_cons (k' := 5) rfl (zk_aload_n X dX12_seesOne_4 rfl rfl) ?_
  refine zz_cons (k' := 6) rfl (zk_getf X ff_X12_193 dX12_seesOne_5 rfl) ?_
  refine zz_cons (k' := 7) rfl (zz_Ok_none _ _) ?_
  refine zz_cons (k' := 8) rfl (zz_Ok_none _ _) ?_
  refine zz_cons (k' := 9) rfl (zk_iald X (zzWR_st Wd) dX12_seesOne_8 rfl) ?_
  refine zz_cons (k' := 10) rfl (zk_iconst X dX12_seesOne_9 (by decide) rfl) ?_
  refine zz_cons (k' := 11) rfl (zk_iadd X dX12_seesOne_10 rfl) ?_
  refine zz_cons (k' := 12) rfl (zk_istore_n X dX12_seesOne_11 rfl (by decide) rfl) ?_
  refine zz_cons (k' := 13) rfl (zk_aload_n X dX12_seesOne_12 rfl rfl) ?_
  refine zz_cons (k' := 14) rfl (zk_getf X ff_X12_50 dX12_seesOne_13 rfl) ?_
  refine zz_cons (k' := 15) rfl (zz_Ok_none _ _) ?_
  refine zz_cons (k' := 16) rfl (zz_Ok_none _ _) ?_
  refine zz_cons (k' := 17) rfl (zk_iload_n X dX12_seesOne_16 rfl rfl) ?_
  refine zz_cons (k' := 18) rfl (zk_iald X (zzWR_st Wd) dX12_seesOne_17 rfl) ?_
  refine zz_cons (k' := 19) rfl (zk_istore_n X dX12_seesOne_18 rfl (by decide) rfl) ?_
  refine zz_cons (k' := 20) rfl (zk_bipush X dX12_seesOne_19 (by decide) rfl) ?_
  refine zz_cons (k' := 21) rfl (zz_Ok_none _ _) ?_
  refine zz_cons (k' := 22) rfl (zk_aload_n X dX12_seesOne_21 rfl rfl) ?_
  refine zz_cons (k' := 23) rfl (zk_getf X ff_X12_193 dX12_seesOne_22 rfl) ?_
  refine zz_cons (k' := 24) rfl (zz_Ok_none _ _) ?_
  refine zz_cons (k' := 25) rfl (zz_Ok_none _ _) ?_
  refine zz_cons (k' := 26) rfl (zk_imul X dX12_seesOne_25 rfl) ?_
  refine zz_cons (k' := 27) rfl (zk_iload_n X dX12_seesOne_26 rfl rfl) ?_
  refine zz_cons (k' := 28) rfl (zk_iadd X dX12_seesOne_27 rfl) ?_
  refine zz_cons (k' := 29) rfl (zk_istore_n X dX12_seesOne_28 rfl (by decide) rfl) ?_
  refine zz_cons (k' := 30) rfl (zk_aload_n X dX12_seesOne_29 rfl rfl) ?_
  refine zz_cons (k' := 31) rfl (zk_aload_n X dX12_seesOne_30 rfl rfl) ?_
  refine zz_cons (k' := 32) rfl (zk_getf X ff_X12_53 dX12_seesOne_31 rfl) ?_
  refine zz_cons (k' := 33) rfl (zz_Ok_none _ _) ?_
  refine zz_cons (k' := 34) rfl (zz_Ok_none _ _) ?_
  refine zz_cons (k' := 35) rfl (zk_iload_n X dX12_seesOne_34 rfl rfl) ?_
  refine zz_cons (k' := 36) rfl (zk_lald X dX12_seesOne_35 rfl) ?_
  refine zz_cons (k' := 37) rfl (zk_callv X (zz_Cv_of (List.forall_mem_cons.mpr ⟨⟨(RX_10, zzT10, 50), yX12_ownerIn, cX12_ownerIn, 3, (some .int), 1, 23, rfl, kv_X12_214_10.1, (mm_X12_ownerIn Wd).1, by decide, by decide⟩, (fun _ h => absurd h List.not_mem_nil)⟩)) dX12_seesOne_36 rfl) ?_
  refine zz_cons (k' := 38) rfl (zz_Ok_none _ _) ?_
  refine zz_cons (k' := 39) rfl (zz_Ok_none _ _) ?_
  refine zz_cons (k' := 40) rfl (zk_istore X dX12_seesOne_39 (by decide) rfl) ?_
  refine zz_cons (k' := 41) rfl (zz_Ok_none _ _) ?_
  refine zz_cons (k' := 42) rfl (zk_iload X dX12_seesOne_41 rfl) ?_
  refine zz_cons (k' := 43) rfl (zz_Ok_none _ _) ?_
  refine zz_cons (k' := 44) rfl (zk_iconst X dX12_seesOne_43 (by decide) rfl) ?_
  refine zz_cons (k' := 45) rfl (zk_icmp_ne X dX12_seesOne_44 (by decide) rfl) ?_
  refine zz_cons (k' := 46) rfl (zz_Ok_none _ _) ?_
  refine zz_cons (k' := 47) rfl (zz_Ok_none _ _) ?_
  refine zz_cons (k' := 48) rfl (zk_aload_n X dX12_seesOne_47 rfl rfl) ?_
  refine zz_cons (k' := 49) rfl (zk_getf X ff_X12_93 dX12_seesOne_48 rfl) ?_
  refine zz_cons (k' := 50) rfl (zz_Ok_none _ _) ?_
  refine zz_cons (k' := 51) rfl (zz_Ok_none _ _) ?_
  refine zz_cons (k' := 52) rfl (zk_iload_n X dX12_seesOne_51 rfl rfl) ?_
  refine zz_cons (k' := 53) rfl (zk_zald X dX12_seesOne_52 rfl) ?_
  refine zz_cons (k' := 54) rfl (zk_if_eq X dX12_seesOne_53 (by decide) rfl) ?_
  refine zz_cons (k' := 55) rfl (zz_Ok_none _ _) ?_
  refine zz_cons (k' := 56) rfl (zz_Ok_none _ _) ?_
  refine zz_cons (k' := 57) rfl (zk_aload_n X dX12_seesOne_56 rfl rfl) ?_
  refine zz_cons (k' := 58) rfl (zk_aload_n X dX12_seesOne_57 rfl rfl) ?_
  refine zz_cons (k' := 59) rfl (zk_getf X ff_X12_97 dX12_seesOne_58 rfl) ?_
  refine zz_cons (k' := 60) rfl (zz_Ok_none _ _) ?_
  refine zz_cons (k' := 61) rfl (zz_Ok_none _ _) ?_
  refine zz_cons (k' := 62) rfl (zk_iload_n X dX12_seesOne_61 rfl rfl) ?_
  refine zz_cons (k' := 63) rfl (zk_lald X dX12_seesOne_62 rfl) ?_
  refine zz_cons (k' := 64) rfl (zk_callv X (zz_Cv_of (List.forall_mem_cons.mpr ⟨⟨(RX_10, zzT10, 50), yX12_ownerIn, cX12_ownerIn, 3, (some .int), 1, 23, rfl, kv_X12_214_10.1, (mm_X12_ownerIn Wd).1, by decide, by decide⟩, (fun _ h => absurd h List.not_mem_nil)⟩)) dX12_seesOne_63 rfl) ?_
  refine zz_cons (k' := 65) rfl (zz_Ok_none _ _) ?_
  refine zz_cons (k' := 66) rfl (zz_Ok_none _ _) ?_
  refine zz_cons (k' := 67) rfl (zk_goto X dX12_seesOne_66 (by decide)) ?_
  refine zz_cons (k' := 68) rfl (zz_Ok_none _ _) ?_
  refine zz_cons (k' := 69) rfl (zz_Ok_none _ _) ?_
  refine zz_cons (k' := 70) rfl (zk_iload X dX12_seesOne_69 rfl) ?_
  refine zz_cons (k' := 71) rfl (zz_Ok_none _ _) ?_
  refine zz_cons (k' := 72) rfl (zk_istore X dX12_seesOne_71 (by decide) rfl) ?_
  refine zz_cons (k' := 73) rfl (zz_Ok_none _ _) ?_
  refine zz_cons (k' := 74) rfl (zk_aload_n X dX12_seesOne_73 rfl rfl) ?_
  refine zz_cons (k' := 75) rfl (zk_getf X ff_X12_93 dX12_seesOne_74 rfl) ?_
  refine zz_cons (k' := 76) rfl (zz_Ok_none _ _) ?_
  refine zz_cons (k' := 77) rfl (zz_Ok_none _ _) ?_
  refine zz_cons (k' := 78) rfl (zk_iload_n X dX12_seesOne_77 rfl rfl) ?_
  refine zz_cons (k' := 79) rfl (zk_iconst X dX12_seesOne_78 (by decide) rfl) ?_
  refine zz_cons (k' := 80) rfl (zk_zast X dX12_seesOne_79 rfl) ?_
  refine zz_cons (k' := 81) rfl (zk_aload_n X dX12_seesOne_80 rfl rfl) ?_
  refine zz_cons (k' := 82) rfl (zk_getf X ff_X12_97 dX12_seesOne_81 rfl) ?_
  refine zz_cons (k' := 83) rfl (zz_Ok_none _ _) ?_
  refine zz_cons (k' := 84) rfl (zz_Ok_none _ _) ?_
  refine zz_cons (k' := 85) rfl (zk_iload_n X dX12_seesOne_84 rfl rfl) ?_
  refine zz_cons (k' := 86) rfl (zk_aload_n X dX12_seesOne_85 rfl rfl) ?_
  refine zz_cons (k' := 87) rfl (zk_getf X ff_X12_53 dX12_seesOne_86 rfl) ?_
  refine zz_cons (k' := 88) rfl (zz_Ok_none _ _) ?_
  refine zz_cons (k' := 89) rfl (zz_Ok_none _ _) ?_
  refine zz_cons (k' := 90) rfl (zk_iload_n X dX12_seesOne_89 rfl rfl) ?_
  refine zz_cons (k' := 91) rfl (zk_lald X dX12_seesOne_90 rfl) ?_
  refine zz_cons (k' := 92) rfl (zk_last X dX12_seesOne_91 rfl) ?_
  refine zz_cons (k' := 93) rfl (zk_aload_n X dX12_seesOne_92 rfl rfl) ?_
  refine zz_cons (k' := 94) rfl (zk_getf X ff_X12_100 dX12_seesOne_93 rfl) ?_
  refine zz_cons (k' := 95) rfl (zz_Ok_none _ _) ?_
  refine zz_cons (k' := 96) rfl (zz_Ok_none _ _) ?_
  refine zz_cons (k' := 97) rfl (zk_iload_n X dX12_seesOne_96 rfl rfl) ?_
  refine zz_cons (k' := 98) rfl (zk_aload_n X dX12_seesOne_97 rfl rfl) ?_
  refine zz_cons (k' := 99) rfl (zk_getf X ff_X12_56 dX12_seesOne_98 rfl) ?_
  refine zz_cons (k' := 100) rfl (zz_Ok_none _ _) ?_
  refine zz_cons (k' := 101) rfl (zz_Ok_none _ _) ?_
  refine zz_cons (k' := 102) rfl (zk_iload_n X dX12_seesOne_101 rfl rfl) ?_
  refine zz_cons (k' := 103) rfl (zk_lald X dX12_seesOne_102 rfl) ?_
  refine zz_cons (k' := 104) rfl (zk_last X dX12_seesOne_103 rfl) ?_
  refine zz_cons (k' := 105) rfl (zk_aload_n X dX12_seesOne_104 rfl rfl) ?_
  refine zz_cons (k' := 106) rfl (zk_getf X ff_X12_103 dX12_seesOne_105 rfl) ?_
  refine zz_cons (k' := 107) rfl (zz_Ok_none _ _) ?_
  refine zz_cons (k' := 108) rfl (zz_Ok_none _ _) ?_
  refine zz_cons (k' := 109) rfl (zk_iload_n X dX12_seesOne_108 rfl rfl) ?_
  refine zz_cons (k' := 110) rfl (zk_iload_n X dX12_seesOne_109 rfl rfl) ?_
  refine zz_cons (k' := 111) rfl (zk_iast X dX12_seesOne_110 rfl) ?_
  refine zz_cons (k' := 112) rfl (zk_aload_n X dX12_seesOne_111 rfl rfl) ?_
  refine zz_cons (k' := 113) rfl (zk_getf X ff_X12_90 dX12_seesOne_112 rfl) ?_
  refine zz_cons (k' := 114) rfl (zz_Ok_none _ _) ?_
  refine zz_cons (k' := 115) rfl (zz_Ok_none _ _) ?_
  refine zz_cons (k' := 116) rfl (zk_aload_n X dX12_seesOne_115 rfl rfl) ?_
  refine zz_cons (k' := 117) rfl (zk_getf X ff_X12_193 dX12_seesOne_116 rfl) ?_
  refine zz_cons (k' := 118) rfl (zz_Ok_none _ _) ?_
  refine zz_cons (k' := 119) rfl (zz_Ok_none _ _) ?_
  refine zz_cons (k' := 120) rfl (zk_iload_n X dX12_seesOne_119 rfl rfl) ?_
  refine zz_cons (k' := 121) rfl (zk_iast X dX12_seesOne_120 rfl) ?_
  refine zz_cons (k' := 122) rfl (zk_aload_n X dX12_seesOne_121 rfl rfl) ?_
  refine zz_cons (k' := 123) rfl (zk_iload_n X dX12_seesOne_122 rfl rfl) ?_
  refine zz_cons (k' := 124) rfl (zk_iload X dX12_seesOne_123 rfl) ?_
  refine zz_cons (k' := 125) rfl (zz_Ok_none _ _) ?_
  refine zz_cons (k' := 126) rfl (zk_callv X (zz_Cv_of (List.forall_mem_cons.mpr ⟨⟨(RX_10, zzT10, 50), yX12_keys, cX12_keys, 5, (some .int), 4, 96, rfl, kv_X12_231_10.1, (mm_X12_keys Wd).1, by decide, by decide⟩, (fun _ h => absurd h List.not_mem_nil)⟩)) dX12_seesOne_125 rfl) ?_
  refine zz_cons (k' := 127) rfl (zz_Ok_none _ _) ?_
  refine zz_cons (k' := 128) rfl (zz_Ok_none _ _) ?_
  refine zz_cons (k' := 129) rfl (zk_iret X rfl dX12_seesOne_128) ?_
  exact trivial
noncomputable def tX12_lists : List zzOp := [
  zo_pushI 0 1,
  zo_istore 1 2,
  zo_pushI 0 3,
  zo_istore 2 4,
  zo_iload 2 5,
  zo_aload 0 6,
  zo_getf zzSR (zz_kf [10] 5) 9,
  zo_none,
  zo_none,
  zo_icmp (fun x y => decide (y ≤ x)) 132 12,
  zo_none,
  zo_none,
  zo_pushI 60 14,
  zo_none,
  zo_aload 0 15,
  zo_getf zzSR (zz_kf [10] 42) 18,
  zo_none,
  zo_none,
  zo_ii (fun x y => x * y) 19,
  zo_iload 2 20,
  zo_ii (fun x y => x + y) 21,
  zo_istore 3 22,
  zo_aload 0 23,
  zo_getf zzSR (zz_kf [10] 33) 26,
  zo_none,
  zo_none,
  zo_iload 3 27,
  zo_pushI 1 28,
  zo_zast zzSR 29,
  zo_aload 0 30,
  zo_getf zzSR (zz_kf [10] 34) 33,
  zo_none,
  zo_none,
  zo_iload 3 34,
  zo_aload 0 35,
  zo_getf zzSR (zz_kf [10] 7) 38,
  zo_none,
  zo_none,
  zo_iload 2 39,
  zo_lald zzSR 40,
  zo_last zzSR 41,
  zo_aload 0 42,
  zo_getf zzSR (zz_kf [10] 35) 45,
  zo_none,
  zo_none,
  zo_iload 3 46,
  zo_aload 0 47,
  zo_getf zzSR (zz_kf [10] 8) 50,
  zo_none,
  zo_none,
  zo_iload 2 51,
  zo_lald zzSR 52,
  zo_last zzSR 53,
  zo_aload 0 54,
  zo_getf zzSR (zz_kf [10] 36) 57,
  zo_none,
  zo_none,
  zo_iload 3 58,
  zo_aload 0 59,
  zo_getf zzSR (zz_kf [10] 9) 62,
  zo_none,
  zo_none,
  zo_iload 2 63,
  zo_iald zzSR zzSTR 64,
  zo_iast zzSR 65,
  zo_aload 0 66,
  zo_aload 0 67,
  zo_getf zzSR (zz_kf [10] 7) 70,
  zo_none,
  zo_none,
  zo_iload 2 71,
  zo_lald zzSR 72,
  zo_pushI 13 74,
  zo_none,
  zo_callv zzSR (zz_cl [(10, fX12_get)]) 2 77,
  zo_none,
  zo_none,
  zo_pushI 4 78,
  zo_icmp (fun x y => decide (x = y)) 106 81,
  zo_none,
  zo_none,
  zo_aload 0 82,
  zo_callv zzSR (zz_cl [(10, fX12_ownKind)]) 0 85,
  zo_none,
  zo_none,
  zo_pushI (-1) 86,
  zo_icmp (fun x y => decide (x = y)) 102 89,
  zo_none,
  zo_none,
  zo_aload 0 90,
  zo_getf zzSR (zz_kf [10] 6) 93,
  zo_none,
  zo_none,
  zo_iload 2 94,
  zo_iald zzSR zzSTR 95,
  zo_aload 0 96,
  zo_callv zzSR (zz_cl [(10, fX12_ownKind)]) 0 99,
  zo_none,
  zo_none,
  zo_icmp (fun x y => decide (¬ x = y)) 106 102,
  zo_none,
  zo_none,
  zo_pushI 1 103,
  zo_goto 107,
  zo_none,
  zo_none,
  zo_pushI 0 107,
  zo_istore 4 109,
  zo_none,
  zo_iload 1 110,
  zo_iload 4 112,
  zo_none,
  zo_if (fun x => decide (x = 0)) 123 115,
  zo_none,
  zo_none,
  zo_aload 0 116,
  zo_iload 2 117,
  zo_callv zzSR (zz_cl [(10, fX12_comes)]) 1 120,
  zo_none,
  zo_none,
  zo_goto 124,
  zo_none,
  zo_none,
  zo_pushI 0 124,
  zo_ii (fun x y => x + y) 125,
  zo_istore 1 126,
  zo_iinc 2 1 129,
  zo_none,
  zo_none,
  zo_goto 4,
  zo_none,
  zo_none,
  zo_aload 0 133,
  zo_getf zzSR (zz_kf [10] 32) 136,
  zo_none,
  zo_none,
  zo_aload 0 137,
  zo_getf zzSR (zz_kf [10] 42) 140,
  zo_none,
  zo_none,
  zo_aload 0 141,
  zo_getf zzSR (zz_kf [10] 14) 144,
  zo_none,
  zo_none,
  zo_iast zzSR 145,
  zo_iload 1 146,
  zo_iret false]
set_option maxRecDepth 100000 in
theorem tl_X12_lists : ∀ pc, zz_Tl (tX12_lists.getD pc zo_none) := by
  refine zz_Tl_mem ?_
  unfold tX12_lists
  refine List.forall_mem_cons.mpr ⟨(zo_pushI_tl _ _), ?_⟩
  refine List.forall_mem_cons.mpr ⟨(zo_istore_tl _ _), ?_⟩
  refine List.forall_mem_cons.mpr ⟨(zo_pushI_tl _ _), ?_⟩
  refine List.forall_mem_cons.mpr ⟨(zo_istore_tl _ _), ?_⟩
  refine List.forall_mem_cons.mpr ⟨(zo_iload_tl _ _), ?_⟩
  refine List.forall_mem_cons.mpr ⟨(zo_aload_tl _ _), ?_⟩
  refine List.forall_mem_cons.mpr ⟨(zo_getf_tl _ _ _), ?_⟩
  refine List.forall_mem_cons.mpr ⟨zo_none_tl, ?_⟩
  refine List.forall_mem_cons.mpr ⟨zo_none_tl, ?_⟩
  refine List.forall_mem_cons.mpr ⟨(zo_icmp_tl _ _ _), ?_⟩
  refine List.forall_mem_cons.mpr ⟨zo_none_tl, ?_⟩
  refine List.forall_mem_cons.mpr ⟨zo_none_tl, ?_⟩
  refine List.forall_mem_cons.mpr ⟨(zo_pushI_tl _ _), ?_⟩
  refine List.forall_mem_cons.mpr ⟨zo_none_tl, ?_⟩
  refine List.forall_mem_cons.mpr ⟨(zo_aload_tl _ _), ?_⟩
  refine List.forall_mem_cons.mpr ⟨(zo_getf_tl _ _ _), ?_⟩
  refine List.forall_mem_cons.mpr ⟨zo_none_tl, ?_⟩
  refine List.forall_mem_cons.mpr ⟨zo_none_tl, ?_⟩
  refine List.forall_mem_cons.mpr ⟨(zo_ii_tl _ _), ?_⟩
  refine List.forall_mem_cons.mpr ⟨(zo_iload_tl _ _), ?_⟩
  refine List.forall_mem_cons.mpr ⟨(zo_ii_tl _ _), ?_⟩
  refine List.forall_mem_cons.mpr ⟨(zo_istore_tl _ _), ?_⟩
  refine List.forall_mem_cons.mpr ⟨(zo_aload_tl _ _), ?_⟩
  refine List.forall_mem_cons.mpr ⟨(zo_getf_tl _ _ _), ?_⟩
  refine List.forall_mem_cons.mpr ⟨zo_none_tl, ?_⟩
  refine List.forall_mem_cons.mpr ⟨zo_none_tl, ?_⟩
  refine List.forall_mem_cons.mpr ⟨(zo_iload_tl _ _), ?_⟩
  refine List.forall_mem_cons.mpr ⟨(zo_pushI_tl _ _), ?_⟩
  refine List.forall_mem_cons.mpr ⟨(zo_zast_tl _ _), ?_⟩
  refine List.forall_mem_cons.mpr ⟨(zo_aload_tl _ _), ?_⟩
  refine List.forall_mem_cons.mpr ⟨(zo_getf_tl _ _ _), ?_⟩
  refine List.forall_mem_cons.mpr ⟨zo_none_tl, ?_⟩
  refine List.forall_mem_cons.mpr ⟨zo_none_tl, ?_⟩
  refine List.forall_mem_cons.mpr ⟨(zo_iload_tl _ _), ?_⟩
  refine List.forall_mem_cons.mpr ⟨(zo_aload_tl _ _), ?_⟩
  refine List.forall_mem_cons.mpr ⟨(zo_getf_tl _ _ _), ?_⟩
  refine List.forall_mem_cons.mpr ⟨zo_none_tl, ?_⟩
  refine List.forall_mem_cons.mpr ⟨zo_none_tl, ?_⟩
  refine List.forall_mem_cons.mpr ⟨(zo_iload_tl _ _), ?_⟩
  refine List.forall_mem_cons.mpr ⟨(zo_lald_tl _ _), ?_⟩
  refine List.forall_mem_cons.mpr ⟨(zo_last_tl _ _), ?_⟩
  refine List.forall_mem_cons.mpr ⟨(zo_aload_tl _ _), ?_⟩
  refine List.forall_mem_cons.mpr ⟨(zo_getf_tl _ _ _), ?_⟩
  refine List.forall_mem_cons.mpr ⟨zo_none_tl, ?_⟩
  refine List.forall_mem_cons.mpr ⟨zo_none_tl, ?_⟩
  refine List.forall_mem_cons.mpr ⟨(zo_iload_tl _ _), ?_⟩
  refine List.forall_mem_cons.mpr ⟨(zo_aload_tl _ _), ?_⟩
  refine List.forall_mem_cons.mpr ⟨(zo_getf_tl _ _ _), ?_⟩
  refine List.forall_mem_cons.mpr ⟨zo_none_tl, ?_⟩
  refine List.forall_mem_cons.mpr ⟨zo_none_tl, ?_⟩
  refine List.forall_mem_cons.mpr ⟨(zo_iload_tl _ _), ?_⟩
  refine List.forall_mem_cons.mpr ⟨(zo_lald_tl _ _), ?_⟩
  refine List.forall_mem_cons.mpr ⟨(zo_last_tl _ _), ?_⟩
  refine List.forall_mem_cons.mpr ⟨(zo_aload_tl _ _), ?_⟩
  refine List.forall_mem_cons.mpr ⟨(zo_getf_tl _ _ _), ?_⟩
  refine List.forall_mem_cons.mpr ⟨zo_none_tl, ?_⟩
  refine List.forall_mem_cons.mpr ⟨zo_none_tl, ?_⟩
  refine List.forall_mem_cons.mpr ⟨(zo_iload_tl _ _), ?_⟩
  refine List.forall_mem_cons.mpr ⟨(zo_aload_tl _ _), ?_⟩
  refine List.forall_mem_cons.mpr ⟨(zo_getf_tl _ _ _), ?_⟩
  refine List.forall_mem_cons.mpr ⟨zo_none_tl, ?_⟩
  refine List.forall_mem_cons.mpr ⟨zo_none_tl, ?_⟩
  refine List.forall_mem_cons.mpr ⟨(zo_iload_tl _ _), ?_⟩
  refine List.forall_mem_cons.mpr ⟨(zo_iald_tl _ _ _), ?_⟩
  refine List.forall_mem_cons.mpr ⟨(zo_iast_tl _ _), ?_⟩
  refine List.forall_mem_cons.mpr ⟨(zo_aload_tl _ _), ?_⟩
  refine List.forall_mem_cons.mpr ⟨(zo_aload_tl _ _), ?_⟩
  refine List.forall_mem_cons.mpr ⟨(zo_getf_tl _ _ _), ?_⟩
  refine List.forall_mem_cons.mpr ⟨zo_none_tl, ?_⟩
  refine List.forall_mem_cons.mpr ⟨zo_none_tl, ?_⟩
  refine List.forall_mem_cons.mpr ⟨(zo_iload_tl _ _), ?_⟩
  refine List.forall_mem_cons.mpr ⟨(zo_lald_tl _ _), ?_⟩
  refine List.forall_mem_cons.mpr ⟨(zo_pushI_tl _ _), ?_⟩
  refine List.forall_mem_cons.mpr ⟨zo_none_tl, ?_⟩
  refine List.forall_mem_cons.mpr ⟨(zo_callv_tl _ _ _ _), ?_⟩
  refine List.forall_mem_cons.mpr ⟨zo_none_tl, ?_⟩
  refine List.forall_mem_cons.mpr ⟨zo_none_tl, ?_⟩
  refine List.forall_mem_cons.mpr ⟨(zo_pushI_tl _ _), ?_⟩
  refine List.forall_mem_cons.mpr ⟨(zo_icmp_tl _ _ _), ?_⟩
  refine List.forall_mem_cons.mpr ⟨zo_none_tl, ?_⟩
  refine List.forall_mem_cons.mpr ⟨zo_none_tl, ?_⟩
  refine List.forall_mem_cons.mpr ⟨(zo_aload_tl _ _), ?_⟩
  refine List.forall_mem_cons.mpr ⟨(zo_callv_tl _ _ _ _), ?_⟩
  refine List.forall_mem_cons.mpr ⟨zo_none_tl, ?_⟩
  refine List.forall_mem_cons.mpr ⟨zo_none_tl, ?_⟩
  refine List.forall_mem_cons.mpr ⟨(zo_pushI_tl _ _), ?_⟩
  refine List.forall_mem_cons.mpr ⟨(zo_icmp_tl _ _ _), ?_⟩
  refine List.forall_mem_cons.mpr ⟨zo_none_tl, ?_⟩
  refine List.forall_mem_cons.mpr ⟨zo_none_tl, ?_⟩
  refine List.forall_mem_cons.mpr ⟨(zo_aload_tl _ _), ?_⟩
  refine List.forall_mem_cons.mpr ⟨(zo_getf_tl _ _ _), ?_⟩
  refine List.forall_mem_cons.mpr ⟨zo_none_tl, ?_⟩
  refine List.forall_mem_cons.mpr ⟨zo_none_tl, ?_⟩
  refine List.forall_mem_cons.mpr ⟨(zo_iload_tl _ _), ?_⟩
  refine List.forall_mem_cons.mpr ⟨(zo_iald_tl _ _ _), ?_⟩
  refine List.forall_mem_cons.mpr ⟨(zo_aload_tl _ _), ?_⟩
  refine List.forall_mem_cons.mpr ⟨(zo_callv_tl _ _ _ _), ?_⟩
  refine List.forall_mem_cons.mpr ⟨zo_none_tl, ?_⟩
  refine List.forall_mem_cons.mpr ⟨zo_none_tl, ?_⟩
  refine List.forall_mem_cons.mpr ⟨(zo_icmp_tl _ _ _), ?_⟩
  refine List.forall_mem_cons.mpr ⟨zo_none_tl, ?_⟩
  refine List.forall_mem_cons.mpr ⟨zo_none_tl, ?_⟩
  refine List.forall_mem_cons.mpr ⟨(zo_pushI_tl _ _), ?_⟩
  refine List.forall_mem_cons.mpr ⟨(zo_goto_tl _), ?_⟩
  refine List.forall_mem_cons.mpr ⟨zo_none_tl, ?_⟩
  refine List.forall_mem_cons.mpr ⟨zo_none_tl, ?_⟩
  refine List.forall_mem_cons.mpr ⟨(zo_pushI_tl _ _), ?_⟩
  refine List.forall_mem_cons.mpr ⟨(zo_istore_tl _ _), ?_⟩
  refine List.forall_mem_cons.mpr ⟨zo_none_tl, ?_⟩
  refine List.forall_mem_cons.mpr ⟨(zo_iload_tl _ _), ?_⟩
  refine List.forall_mem_cons.mpr ⟨(zo_iload_tl _ _), ?_⟩
  refine List.forall_mem_cons.mpr ⟨zo_none_tl, ?_⟩
  refine List.forall_mem_cons.mpr ⟨(zo_if_tl _ _ _), ?_⟩
  refine List.forall_mem_cons.mpr ⟨zo_none_tl, ?_⟩
  refine List.forall_mem_cons.mpr ⟨zo_none_tl, ?_⟩
  refine List.forall_mem_cons.mpr ⟨(zo_aload_tl _ _), ?_⟩
  refine List.forall_mem_cons.mpr ⟨(zo_iload_tl _ _), ?_⟩
  refine List.forall_mem_cons.mpr ⟨(zo_callv_tl _ _ _ _), ?_⟩
  refine List.forall_mem_cons.mpr ⟨zo_none_tl, ?_⟩
  refine List.forall_mem_cons.mpr ⟨zo_none_tl, ?_⟩
  refine List.forall_mem_cons.mpr ⟨(zo_goto_tl _), ?_⟩
  refine List.forall_mem_cons.mpr ⟨zo_none_tl, ?_⟩
  refine List.forall_mem_cons.mpr ⟨zo_none_tl, ?_⟩
  refine List.forall_mem_cons.mpr ⟨(zo_pushI_tl _ _), ?_⟩
  refine List.forall_mem_cons.mpr ⟨(zo_ii_tl _ _), ?_⟩
  refine List.forall_mem_cons.mpr ⟨(zo_istore_tl _ _), ?_⟩
  refine List.forall_mem_cons.mpr ⟨(zo_iinc_tl _ _ _), ?_⟩
  refine List.forall_mem_cons.mpr ⟨zo_none_tl, ?_⟩
  refine List.forall_mem_cons.mpr ⟨zo_none_tl, ?_⟩
  refine List.forall_mem_cons.mpr ⟨(zo_goto_tl _), ?_⟩
  refine List.forall_mem_cons.mpr ⟨zo_none_tl, ?_⟩
  refine List.forall_mem_cons.mpr ⟨zo_none_tl, ?_⟩
  refine List.forall_mem_cons.mpr ⟨(zo_aload_tl _ _), ?_⟩
  refine List.forall_mem_cons.mpr ⟨(zo_getf_tl _ _ _), ?_⟩
  refine List.forall_mem_cons.mpr ⟨zo_none_tl, ?_⟩
  refine List.forall_mem_cons.mpr ⟨zo_none_tl, ?_⟩
  refine List.forall_mem_cons.mpr ⟨(zo_aload_tl _ _), ?_⟩
  refine List.forall_mem_cons.mpr ⟨(zo_getf_tl _ _ _), ?_⟩
  refine List.forall_mem_cons.mpr ⟨zo_none_tl, ?_⟩
  refine List.forall_mem_cons.mpr ⟨zo_none_tl, ?_⟩
  refine List.forall_mem_cons.mpr ⟨(zo_aload_tl _ _), ?_⟩
  refine List.forall_mem_cons.mpr ⟨(zo_getf_tl _ _ _), ?_⟩
  refine List.forall_mem_cons.mpr ⟨zo_none_tl, ?_⟩
  refine List.forall_mem_cons.mpr ⟨zo_none_tl, ?_⟩
  refine List.forall_mem_cons.mpr ⟨(zo_iast_tl _ _), ?_⟩
  refine List.forall_mem_cons.mpr ⟨(zo_iload_tl _ _), ?_⟩
  refine List.forall_mem_cons.mpr ⟨(zo_iret_tl _), ?_⟩
  exact fun _ h => absurd h List.not_mem_nil
noncomputable def fX12_lists : zzFn := zz_fn tX12_lists 5
set_option maxRecDepth 100000 in
set_option maxHeartbeats 4000000 in
theorem mm_X12_lists {l : Launch} {D : va_G} {cA : Nat → ClassId} {ad : Nat → Nat} {Ex : (Nat → Prop) → State → Heap → Prop} (Wd : zzWR l D cA ad Ex) : zz_Cn l D zzCl cA ad zzSR Ex yX12_lists cX12_lists 5 (some .int) 1 23 fX12_lists ∧ zz_Cx l D zzCl cA ad zzSR Ex yX12_lists cX12_lists 5 (some .int) 1 23 fX12_lists := by
  refine zz_meth (plainFor_of_name (by decide)) Wd.1 Wd.2.1 Wd.2.2 (fun p e R s m args below meth c rr X => ?_)
  unfold tX12_lists
  refine zz_cons (k' := 1) rfl (zk_iconst X dX12_lists_0 (by decide) rfl) ?_
  refine zz_cons (k' := 2) rfl (zk_istore_n X dX12_lists_1 rfl (by decide) rfl) ?_
  refine zz_cons (k' := 3) rfl (zk_iconst X dX12_lists_2 (by decide) rfl) ?_
  refine zz_cons (k' := 4) rfl (zk_istore_n X dX12_lists_3 rfl (by decide) rfl) ?_
  refine zz_cons (k' := 5) rfl (zk_iload_n X dX12_lists_4 rfl rfl) ?_
  refine zz_cons (k' := 6) rfl (zk_aload_n X dX12_lists_5 rfl rfl) ?_
  refine zz_cons (k' := 7) rfl (zk_getf X ff_X12_137 dX12_lists_6 rfl) ?_
  refine zz_cons (k' := 8) rfl (zz_Ok_none _ _) ?_
  refine zz_cons (k' := 9) rfl (zz_Ok_none _ _) ?_
  refine zz_cons (k' := 10) rfl (zk_icmp_ge X dX12_lists_9 (by decide) rfl) ?_
  refine zz_cons (k' := 11) rfl (zz_Ok_none _ _) ?_
  refine zz_cons (k' := 12) rfl (zz_Ok_none _ _) ?_
  refine zz_cons (k' := 13) rfl (zk_bipush X dX12_lists_12 (by decide) rfl) ?_
  refine zz_cons (k' := 14) rfl (zz_Ok_none _ _) ?_
  refine zz_cons (k' := 15) rfl (zk_aload_n X dX12_lists_14 rfl rfl) ?_
  refine zz_cons (k' := 16) rfl (zk_getf X ff_X12_193 dX12_lists_15 rfl) ?_
  refine zz_cons (k' := 17) rfl (zz_Ok_none _ _) ?_
  refine zz_cons (k' := 18) rfl (zz_Ok_none _ _) ?_
  refine zz_cons (k' := 19) rfl (zk_imul X dX12_lists_18 rfl) ?_
  refine zz_cons (k' := 20) rfl (zk_iload_n X dX12_lists_19 rfl rfl) ?_
  refine zz_cons (k' := 21) rfl (zk_iadd X dX12_lists_20 rfl) ?_
  refine zz_cons (k' := 22) rfl (zk_istore_n X dX12_lists_21 rfl (by decide) rfl) ?_
  refine zz_cons (k' := 23) rfl (zk_aload_n X dX12_lists_22 rfl rfl) ?_
  refine zz_cons (k' := 24) rfl (zk_getf X ff_X12_93 dX12_lists_23 rfl) ?_
  refine zz_cons (k' := 25) rfl (zz_Ok_none _ _) ?_
  refine zz_cons (k' := 26) rfl (zz_Ok_none _ _) ?_
  refine zz_cons (k' := 27) rfl (zk_iload_n X dX12_lists_26 rfl rfl) ?_
  refine zz_cons (k' := 28) rfl (zk_iconst X dX12_lists_27 (by decide) rfl) ?_
  refine zz_cons (k' := 29) rfl (zk_zast X dX12_lists_28 rfl) ?_
  refine zz_cons (k' := 30) rfl (zk_aload_n X dX12_lists_29 rfl rfl) ?_
  refine zz_cons (k' := 31) rfl (zk_getf X ff_X12_97 dX12_lists_30 rfl) ?_
  refine zz_cons (k' := 32) rfl (zz_Ok_none _ _) ?_
  refine zz_cons (k' := 33) rfl (zz_Ok_none _ _) ?_
  refine zz_cons (k' := 34) rfl (zk_iload_n X dX12_lists_33 rfl rfl) ?_
  refine zz_cons (k' := 35) rfl (zk_aload_n X dX12_lists_34 rfl rfl) ?_
  refine zz_cons (k' := 36) rfl (zk_getf X ff_X12_28 dX12_lists_35 rfl) ?_
  refine zz_cons (k' := 37) rfl (zz_Ok_none _ _) ?_
  refine zz_cons (k' := 38) rfl (zz_Ok_none _ _) ?_
  refine zz_cons (k' := 39) rfl (zk_iload_n X dX12_lists_38 rfl rfl) ?_
  refine zz_cons (k' := 40) rfl (zk_lald X dX12_lists_39 rfl) ?_
  refine zz_cons (k' := 41) rfl (zk_last X dX12_lists_40 rfl) ?_
  refine zz_cons (k' := 42) rfl (zk_aload_n X dX12_lists_41 rfl rfl) ?_
  refine zz_cons (k' := 43) rfl (zk_getf X ff_X12_100 dX12_lists_42 rfl) ?_
  refine zz_cons (k' := 44) rfl (zz_Ok_none _ _) ?_
  refine zz_cons (k' := 45) rfl (zz_Ok_none _ _) ?_
  refine zz_cons (k' := 46) rfl (zk_iload_n X dX12_lists_45 rfl rfl) ?_
  refine zz_cons (k' := 47) rfl (zk_aload_n X dX12_lists_46 rfl rfl) ?_
  refine zz_cons (k' := 48) rfl (zk_getf X ff_X12_32 dX12_lists_47 rfl) ?_
  refine zz_cons (k' := 49) rfl (zz_Ok_none _ _) ?_
  refine zz_cons (k' := 50) rfl (zz_Ok_none _ _) ?_
  refine zz_cons (k' := 51) rfl (zk_iload_n X dX12_lists_50 rfl rfl) ?_
  refine zz_cons (k' := 52) rfl (zk_lald X dX12_lists_51 rfl) ?_
  refine zz_cons (k' := 53) rfl (zk_last X dX12_lists_52 rfl) ?_
  refine zz_cons (k' := 54) rfl (zk_aload_n X dX12_lists_53 rfl rfl) ?_
  refine zz_cons (k' := 55) rfl (zk_getf X ff_X12_103 dX12_lists_54 rfl) ?_
  refine zz_cons (k' := 56) rfl (zz_Ok_none _ _) ?_
  refine zz_cons (k' := 57) rfl (zz_Ok_none _ _) ?_
  refine zz_cons (k' := 58) rfl (zk_iload_n X dX12_lists_57 rfl rfl) ?_
  refine zz_cons (k' := 59) rfl (zk_aload_n X dX12_lists_58 rfl rfl) ?_
  refine zz_cons (k' := 60) rfl (zk_getf X ff_X12_35 dX12_lists_59 rfl) ?_
  refine zz_cons (k' := 61) rfl (zz_Ok_none _ _) ?_
  refine zz_cons (k' := 62) rfl (zz_Ok_none _ _) ?_
  refine zz_cons (k' := 63) rfl (zk_iload_n X dX12_lists_62 rfl rfl) ?_
  refine zz_cons (k' := 64) rfl (zk_iald X (zzWR_st Wd) dX12_lists_63 rfl) ?_
  refine zz_cons (k' := 65) rfl (zk_iast X dX12_lists_64 rfl) ?_
  refine zz_cons (k' := 66) rfl (zk_aload_n X dX12_lists_65 rfl rfl) ?_
  refine zz_cons (k' := 67) rfl (zk_aload_n X dX12_lists_66 rfl rfl) ?_
  refine zz_cons (k' := 68) rfl (zk_getf X ff_X12_28 dX12_lists_67 rfl) ?_
  refine zz_cons (k' := 69) rfl (zz_Ok_none _ _) ?_
  refine zz_cons (k' := 70) rfl (zz_Ok_none _ _) ?_
  refine zz_cons (k' := 71) rfl (zk_iload_n X dX12_lists_70 rfl rfl) ?_
  refine zz_cons (k' := 72) rfl (zk_lald X dX12_lists_71 rfl) ?_
  refine zz_cons (k' := 73) rfl (zk_bipush X dX12_lists_72 (by decide) rfl) ?_
  refine zz_cons (k' := 74) rfl (zz_Ok_none _ _) ?_
  refine zz_cons (k' := 75) rfl (zk_callv X (zz_Cv_of (List.forall_mem_cons.mpr ⟨⟨(RX_10, zzT10, 50), yX12_get, cX12_get, 4, (some .int), 0, 0, rfl, kv_X12_146_10.1, (mm_X12_get Wd).1, by decide, by decide⟩, (fun _ h => absurd h List.not_mem_nil)⟩)) dX12_lists_74 rfl) ?_
  refine zz_cons (k' := 76) rfl (zz_Ok_none _ _) ?_
  refine zz_cons (k' := 77) rfl (zz_Ok_none _ _) ?_
  refine zz_cons (k' := 78) rfl (zk_iconst X dX12_lists_77 (by decide) rfl) ?_
  refine zz_cons (k' := 79) rfl (zk_icmp_eq X dX12_lists_78 (by decide) rfl) ?_
  refine zz_cons (k' := 80) rfl (zz_Ok_none _ _) ?_
  refine zz_cons (k' := 81) rfl (zz_Ok_none _ _) ?_
  refine zz_cons (k' := 82) rfl (zk_aload_n X dX12_lists_81 rfl rfl) ?_
  refine zz_cons (k' := 83) rfl (zk_callv X (zz_Cv_of (List.forall_mem_cons.mpr ⟨⟨(RX_10, zzT10, 50), yX12_ownKind, cX12_ownKind, 1, (some .int), 0, 0, rfl, kv_X12_221_10.1, (mm_X12_ownKind Wd).1, by decide, by decide⟩, (fun _ h => absurd h List.not_mem_nil)⟩)) dX12_lists_82 rfl) ?_
  refine zz_cons (k' := 84) rfl (zz_Ok_none _ _) ?_
  refine zz_cons (k' := 85) rfl (zz_Ok_none _ _) ?_
  refine zz_cons (k' := 86) rfl (zk_iconst X dX12_lists_85 (by decide) rfl) ?_
  refine zz_cons (k' := 87) rfl (zk_icmp_eq X dX12_lists_86 (by decide) rfl) ?_
  refine zz_cons (k' := 88) rfl (zz_Ok_none _ _) ?_
  refine zz_cons (k' := 89) rfl (zz_Ok_none _ _) ?_
  refine zz_cons (k' := 90) rfl (zk_aload_n X dX12_lists_89 rfl rfl) ?_
  refine zz_cons (k' := 91) rfl (zk_getf X ff_X12_25 dX12_lists_90 rfl) ?_
  refine zz_cons (k' := 92) rfl (zz_Ok_none _ _) ?_
  refine zz_cons (k' := 93) rfl (zz_Ok_none _ _) ?_
  refine zz_cons (k' := 94) rfl (zk_iload_n X dX12_lists_93 rfl rfl) ?_
  refine zz_cons (k' := 95) rfl (zk_iald X (zzWR_st Wd) dX12_lists_94 rfl) ?_
  refine zz_cons (k' := 96) rfl (zk_aload_n X dX12_lists_95 rfl rfl) ?_
  refine zz_cons (k' := 97) rfl (zk_callv X (zz_Cv_of (List.forall_mem_cons.mpr ⟨⟨(RX_10, zzT10, 50), yX12_ownKind, cX12_ownKind, 1, (some .int), 0, 0, rfl, kv_X12_221_10.1, (mm_X12_ownKind Wd).1, by decide, by decide⟩, (fun _ h => absurd h List.not_mem_nil)⟩)) dX12_lists_96 rfl) ?_
  refine zz_cons (k' := 98) rfl (zz_Ok_none _ _) ?_
  refine zz_cons (k' := 99) rfl (zz_Ok_none _ _) ?_
  refine zz_cons (k' := 100) rfl (zk_icmp_ne X dX12_lists_99 (by decide) rfl) ?_
  refine zz_cons (k' := 101) rfl (zz_Ok_none _ _) ?_
  refine zz_cons (k' := 102) rfl (zz_Ok_none _ _) ?_
  refine zz_cons (k' := 103) rfl (zk_iconst X dX12_lists_102 (by decide) rfl) ?_
  refine zz_cons (k' := 104) rfl (zk_goto X dX12_lists_103 (by decide)) ?_
  refine zz_cons (k' := 105) rfl (zz_Ok_none _ _) ?_
  refine zz_cons (k' := 106) rfl (zz_Ok_none _ _) ?_
  refine zz_cons (k' := 107) rfl (zk_iconst X dX12_lists_106 (by decide) rfl) ?_
  refine zz_cons (k' := 108) rfl (zk_istore X dX12_lists_107 (by decide) rfl) ?_
  refine zz_cons (k' := 109) rfl (zz_Ok_none _ _) ?_
  refine zz_cons (k' := 110) rfl (zk_iload_n X dX12_lists_109 rfl rfl) ?_
  refine zz_cons (k' := 111) rfl (zk_iload X dX12_lists_110 rfl) ?_
  refine zz_cons (k' := 112) rfl (zz_Ok_none _ _) ?_
  refine zz_cons (k' := 113) rfl (zk_if_eq X dX12_lists_112 (by decide) rfl) ?_
  refine zz_cons (k' := 114) rfl (zz_Ok_none _ _) ?_
  refine zz_cons (k' := 115) rfl (zz_Ok_none _ _) ?_
  refine zz_cons (k' := 116) rfl (zk_aload_n X dX12_lists_115 rfl rfl) ?_
  refine zz_cons (k' := 117) rfl (zk_iload_n X dX12_lists_116 rfl rfl) ?_
  refine zz_cons (k' := 118) rfl (zk_callv X (zz_Cv_of (List.forall_mem_cons.mpr ⟨⟨(RX_10, zzT10, 50), yX12_comes, cX12_comes, 4, (some .int), 0, 0, rfl, kv_X12_208_10.1, (mm_X12_comes Wd).1, by decide, by decide⟩, (fun _ h => absurd h List.not_mem_nil)⟩)) dX12_lists_117 rfl) ?_
  refine zz_cons (k' := 119) rfl (zz_Ok_none _ _) ?_
  refine zz_cons (k' := 120) rfl (zz_Ok_none _ _) ?_
  refine zz_cons (k' := 121) rfl (zk_goto X dX12_lists_120 (by decide)) ?_
  refine zz_cons (k' := 122) rfl (zz_Ok_none _ _) ?_
  refine zz_cons (k' := 123) rfl (zz_Ok_none _ _) ?_
  refine zz_cons (k' := 124) rfl (zk_iconst X dX12_lists_123 (by decide) rfl) ?_
  refine zz_cons (k' := 125) rfl (zk_iadd X dX12_lists_124 rfl) ?_
  refine zz_cons (k' := 126) rfl (zk_istore_n X dX12_lists_125 rfl (by decide) rfl) ?_
  refine zz_cons (k' := 127) rfl (zk_iinc X dX12_lists_126 (by decide) (by decide) rfl) ?_
  refine zz_cons (k' := 128) rfl (zz_Ok_none _ _) ?_
  refine zz_cons (k' := 129) rfl (zz_Ok_none _ _) ?_
  refine zz_cons (k' := 130) rfl (zk_goto X dX12_lists_129 (by decide)) ?_
  refine zz_cons (k' := 131) rfl (zz_Ok_none _ _) ?_
  refine zz_cons (k' := 132) rfl (zz_Ok_none _ _) ?_
  refine zz_cons (k' := 133) rfl (zk_aload_n X dX12_lists_132 rfl rfl) ?_
  refine zz_cons (k' := 134) rfl (zk_getf X ff_X12_90 dX12_lists_133 rfl) ?_
  refine zz_cons (k' := 135) rfl (zz_Ok_none _ _) ?_
  refine zz_cons (k' := 136) rfl (zz_Ok_none _ _) ?_
  refine zz_cons (k' := 137) rfl (zk_aload_n X dX12_lists_136 rfl rfl) ?_
  refine zz_cons (k' := 138) rfl (zk_getf X ff_X12_193 dX12_lists_137 rfl) ?_
  refine zz_cons (k' := 139) rfl (zz_Ok_none _ _) ?_
  refine zz_cons (k' := 140) rfl (zz_Ok_none _ _) ?_
  refine zz_cons (k' := 141) rfl (zk_aload_n X dX12_lists_140 rfl rfl) ?_
  refine zz_cons (k' := 142) rfl (zk_getf X ff_X12_154 dX12_lists_141 rfl) ?_
  refine zz_cons (k' := 143) rfl (zz_Ok_none _ _) ?_
  refine zz_cons (k' := 144) rfl (zz_Ok_none _ _) ?_
  refine zz_cons (k' := 145) rfl (zk_iast X dX12_lists_144 rfl) ?_
  refine zz_cons (k' := 146) rfl (zk_iload_n X dX12_lists_145 rfl rfl) ?_
  refine zz_cons (k' := 147) rfl (zk_iret X rfl dX12_lists_146) ?_
  exact trivial
noncomputable def tX12_sees : List zzOp := [
  zo_aload 0 1,
  zo_getf zzSR (zz_kf [10] 32) 4,
  zo_none,
  zo_none,
  zo_aload 0 5,
  zo_getf zzSR (zz_kf [10] 42) 8,
  zo_none,
  zo_none,
  zo_iald zzSR zzSTR 9,
  zo_aload 0 10,
  zo_getf zzSR (zz_kf [10] 15) 13,
  zo_none,
  zo_none,
  zo_icmp (fun x y => decide (y ≤ x)) 21 16,
  zo_none,
  zo_none,
  zo_aload 0 17,
  zo_callv zzSR (zz_cl [(10, fX12_lists)]) 0 20,
  zo_none,
  zo_none,
  zo_iret false,
  zo_pushI 0 22,
  zo_istore 2 23,
  zo_pushI 0 24,
  zo_istore 3 25,
  zo_iload 3 26,
  zo_iload 1 27,
  zo_icmp (fun x y => decide (y ≤ x)) 59 30,
  zo_none,
  zo_none,
  zo_aload 0 31,
  zo_getf zzSR (zz_kf [10] 32) 34,
  zo_none,
  zo_none,
  zo_aload 0 35,
  zo_getf zzSR (zz_kf [10] 42) 38,
  zo_none,
  zo_none,
  zo_iald zzSR zzSTR 39,
  zo_aload 0 40,
  zo_getf zzSR (zz_kf [10] 14) 43,
  zo_none,
  zo_none,
  zo_icmp (fun x y => decide (y ≤ x)) 59 46,
  zo_none,
  zo_none,
  zo_iload 2 47,
  zo_aload 0 48,
  zo_callv zzSR (zz_cl [(10, fX12_seesOne)]) 0 51,
  zo_none,
  zo_none,
  zo_ii (fun x y => x + y) 52,
  zo_istore 2 53,
  zo_iinc 3 1 56,
  zo_none,
  zo_none,
  zo_goto 25,
  zo_none,
  zo_none,
  zo_iload 2 60,
  zo_iret false]
set_option maxRecDepth 100000 in
theorem tl_X12_sees : ∀ pc, zz_Tl (tX12_sees.getD pc zo_none) := by
  refine zz_Tl_mem ?_
  unfold tX12_sees
  refine List.forall_mem_cons.mpr ⟨(zo_aload_tl _ _), ?_⟩
  refine List.forall_mem_cons.mpr ⟨(zo_getf_tl _ _ _), ?_⟩
  refine List.forall_mem_cons.mpr ⟨zo_none_tl, ?_⟩
  refine List.forall_mem_cons.mpr ⟨zo_none_tl, ?_⟩
  refine List.forall_mem_cons.mpr ⟨(zo_aload_tl _ _), ?_⟩
  refine List.forall_mem_cons.mpr ⟨(zo_getf_tl _ _ _), ?_⟩
  refine List.forall_mem_cons.mpr ⟨zo_none_tl, ?_⟩
  refine List.forall_mem_cons.mpr ⟨zo_none_tl, ?_⟩
  refine List.forall_mem_cons.mpr ⟨(zo_iald_tl _ _ _), ?_⟩
  refine List.forall_mem_cons.mpr ⟨(zo_aload_tl _ _), ?_⟩
  refine List.forall_mem_cons.mpr ⟨(zo_getf_tl _ _ _), ?_⟩
  refine List.forall_mem_cons.mpr ⟨zo_none_tl, ?_⟩
  refine List.forall_mem_cons.mpr ⟨zo_none_tl, ?_⟩
  refine List.forall_mem_cons.mpr ⟨(zo_icmp_tl _ _ _), ?_⟩
  refine List.forall_mem_cons.mpr ⟨zo_none_tl, ?_⟩
  refine List.forall_mem_cons.mpr ⟨zo_none_tl, ?_⟩
  refine List.forall_mem_cons.mpr ⟨(zo_aload_tl _ _), ?_⟩
  refine List.forall_mem_cons.mpr ⟨(zo_callv_tl _ _ _ _), ?_⟩
  refine List.forall_mem_cons.mpr ⟨zo_none_tl, ?_⟩
  refine List.forall_mem_cons.mpr ⟨zo_none_tl, ?_⟩
  refine List.forall_mem_cons.mpr ⟨(zo_iret_tl _), ?_⟩
  refine List.forall_mem_cons.mpr ⟨(zo_pushI_tl _ _), ?_⟩
  refine List.forall_mem_cons.mpr ⟨(zo_istore_tl _ _), ?_⟩
  refine List.forall_mem_cons.mpr ⟨(zo_pushI_tl _ _), ?_⟩
  refine List.forall_mem_cons.mpr ⟨(zo_istore_tl _ _), ?_⟩
  refine List.forall_mem_cons.mpr ⟨(zo_iload_tl _ _), ?_⟩
  refine List.forall_mem_cons.mpr ⟨(zo_iload_tl _ _), ?_⟩
  refine List.forall_mem_cons.mpr ⟨(zo_icmp_tl _ _ _), ?_⟩
  refine List.forall_mem_cons.mpr ⟨zo_none_tl, ?_⟩
  refine List.forall_mem_cons.mpr ⟨zo_none_tl, ?_⟩
  refine List.forall_mem_cons.mpr ⟨(zo_aload_tl _ _), ?_⟩
  refine List.forall_mem_cons.mpr ⟨(zo_getf_tl _ _ _), ?_⟩
  refine List.forall_mem_cons.mpr ⟨zo_none_tl, ?_⟩
  refine List.forall_mem_cons.mpr ⟨zo_none_tl, ?_⟩
  refine List.forall_mem_cons.mpr ⟨(zo_aload_tl _ _), ?_⟩
  refine List.forall_mem_cons.mpr ⟨(zo_getf_tl _ _ _), ?_⟩
  refine List.forall_mem_cons.mpr ⟨zo_none_tl, ?_⟩
  refine List.forall_mem_cons.mpr ⟨zo_none_tl, ?_⟩
  refine List.forall_mem_cons.mpr ⟨(zo_iald_tl _ _ _), ?_⟩
  refine List.forall_mem_cons.mpr ⟨(zo_aload_tl _ _), ?_⟩
  refine List.forall_mem_cons.mpr ⟨(zo_getf_tl _ _ _), ?_⟩
  refine List.forall_mem_cons.mpr ⟨zo_none_tl, ?_⟩
  refine List.forall_mem_cons.mpr ⟨zo_none_tl, ?_⟩
  refine List.forall_mem_cons.mpr ⟨(zo_icmp_tl _ _ _), ?_⟩
  refine List.forall_mem_cons.mpr ⟨zo_none_tl, ?_⟩
  refine List.forall_mem_cons.mpr ⟨zo_none_tl, ?_⟩
  refine List.forall_mem_cons.mpr ⟨(zo_iload_tl _ _), ?_⟩
  refine List.forall_mem_cons.mpr ⟨(zo_aload_tl _ _), ?_⟩
  refine List.forall_mem_cons.mpr ⟨(zo_callv_tl _ _ _ _), ?_⟩
  refine List.forall_mem_cons.mpr ⟨zo_none_tl, ?_⟩
  refine List.forall_mem_cons.mpr ⟨zo_none_tl, ?_⟩
  refine List.forall_mem_cons.mpr ⟨(zo_ii_tl _ _), ?_⟩
  refine List.forall_mem_cons.mpr ⟨(zo_istore_tl _ _), ?_⟩
  refine List.forall_mem_cons.mpr ⟨(zo_iinc_tl _ _ _), ?_⟩
  refine List.forall_mem_cons.mpr ⟨zo_none_tl, ?_⟩
  refine List.forall_mem_cons.mpr ⟨zo_none_tl, ?_⟩
  refine List.forall_mem_cons.mpr ⟨(zo_goto_tl _), ?_⟩
  refine List.forall_mem_cons.mpr ⟨zo_none_tl, ?_⟩
  refine List.forall_mem_cons.mpr ⟨zo_none_tl, ?_⟩
  refine List.forall_mem_cons.mpr ⟨(zo_iload_tl _ _), ?_⟩
  refine List.forall_mem_cons.mpr ⟨(zo_iret_tl _), ?_⟩
  exact fun _ h => absurd h List.not_mem_nil
noncomputable def fX12_sees : zzFn := zz_fn tX12_sees 4
set_option maxRecDepth 100000 in
set_option maxHeartbeats 4000000 in
theorem mm_X12_sees {l : Launch} {D : va_G} {cA : Nat → ClassId} {ad : Nat → Nat} {Ex : (Nat → Prop) → State → Heap → Prop} (Wd : zzWR l D cA ad Ex) : zz_Cn l D zzCl cA ad zzSR Ex yX12_sees cX12_sees 4 (some .int) 6 144 fX12_sees ∧ zz_Cx l D zzCl cA ad zzSR Ex yX12_sees cX12_sees 4 (some .int) 6 144 fX12_sees := by
  refine zz_meth (plainFor_of_name (by decide)) Wd.1 Wd.2.1 Wd.2.2 (fun p e R s m args below meth c rr X => ?_)
  unfold tX12_sees
  refine zz_cons (k' := 1) rfl (zk_aload_n X dX12_sees_0 rfl rfl) ?_
  refine zz_cons (k' := 2) rfl (zk_getf X ff_X12_90 dX12_sees_1 rfl) ?_
  refine zz_cons (k' := 3) rfl (zz_Ok_none _ _) ?_
  refine zz_cons (k' := 4) rfl (zz_Ok_none _ _) ?_
  refine zz_cons (k' := 5) rfl (zk_aload_n X dX12_sees_4 rfl rfl) ?_
  refine zz_cons (k' := 6) rfl (zk_getf X ff_X12_193 dX12_sees_5 rfl) ?_
  refine zz_cons (k' := 7) rfl (zz_Ok_none _ _) ?_
  refine zz_cons (k' := 8) rfl (zz_Ok_none _ _) ?_
  refine zz_cons (k' := 9) rfl (zk_iald X (zzWR_st Wd) dX12_sees_8 rfl) ?_
  refine zz_cons (k' := 10) rfl (zk_aload_n X dX12_sees_9 rfl rfl) ?_
  refine zz_cons (k' := 11) rfl (zk_getf X ff_X12_234 dX12_sees_10 rfl) ?_
  refine zz_cons (k' := 12) rfl (zz_Ok_none _ _) ?_
  refine zz_cons (k' := 13) rfl (zz_Ok_none _ _) ?_
  refine zz_cons (k' := 14) rfl (zk_icmp_ge X dX12_sees_13 (by decide) rfl) ?_
  refine zz_cons (k' := 15) rfl (zz_Ok_none _ _) ?_
  refine zz_cons (k' := 16) rfl (zz_Ok_none _ _) ?_
  refine zz_cons (k' := 17) rfl (zk_aload_n X dX12_sees_16 rfl rfl) ?_
  refine zz_cons (k' := 18) rfl (zk_callv X (zz_Cv_of (List.forall_mem_cons.mpr ⟨⟨(RX_10, zzT10, 50), yX12_lists, cX12_lists, 5, (some .int), 1, 23, rfl, kv_X12_237_10.1, (mm_X12_lists Wd).1, by decide, by decide⟩, (fun _ h => absurd h List.not_mem_nil)⟩)) dX12_sees_17 rfl) ?_
  refine zz_cons (k' := 19) rfl (zz_Ok_none _ _) ?_
  refine zz_cons (k' := 20) rfl (zz_Ok_none _ _) ?_
  refine zz_cons (k' := 21) rfl (zk_iret X rfl dX12_sees_20) ?_
  refine zz_cons (k' := 22) rfl (zk_iconst X dX12_sees_21 (by decide) rfl) ?_
  refine zz_cons (k' := 23) rfl (zk_istore_n X dX12_sees_22 rfl (by decide) rfl) ?_
  refine zz_cons (k' := 24) rfl (zk_iconst X dX12_sees_23 (by decide) rfl) ?_
  refine zz_cons (k' := 25) rfl (zk_istore_n X dX12_sees_24 rfl (by decide) rfl) ?_
  refine zz_cons (k' := 26) rfl (zk_iload_n X dX12_sees_25 rfl rfl) ?_
  refine zz_cons (k' := 27) rfl (zk_iload_n X dX12_sees_26 rfl rfl) ?_
  refine zz_cons (k' := 28) rfl (zk_icmp_ge X dX12_sees_27 (by decide) rfl) ?_
  refine zz_cons (k' := 29) rfl (zz_Ok_none _ _) ?_
  refine zz_cons (k' := 30) rfl (zz_Ok_none _ _) ?_
  refine zz_cons (k' := 31) rfl (zk_aload_n X dX12_sees_30 rfl rfl) ?_
  refine zz_cons (k' := 32) rfl (zk_getf X ff_X12_90 dX12_sees_31 rfl) ?_
  refine zz_cons (k' := 33) rfl (zz_Ok_none _ _) ?_
  refine zz_cons (k' := 34) rfl (zz_Ok_none _ _) ?_
  refine zz_cons (k' := 35) rfl (zk_aload_n X dX12_sees_34 rfl rfl) ?_
  refine zz_cons (k' := 36) rfl (zk_getf X ff_X12_193 dX12_sees_35 rfl) ?_
  refine zz_cons (k' := 37) rfl (zz_Ok_none _ _) ?_
  refine zz_cons (k' := 38) rfl (zz_Ok_none _ _) ?_
  refine zz_cons (k' := 39) rfl (zk_iald X (zzWR_st Wd) dX12_sees_38 rfl) ?_
  refine zz_cons (k' := 40) rfl (zk_aload_n X dX12_sees_39 rfl rfl) ?_
  refine zz_cons (k' := 41) rfl (zk_getf X ff_X12_154 dX12_sees_40 rfl) ?_
  refine zz_cons (k' := 42) rfl (zz_Ok_none _ _) ?_
  refine zz_cons (k' := 43) rfl (zz_Ok_none _ _) ?_
  refine zz_cons (k' := 44) rfl (zk_icmp_ge X dX12_sees_43 (by decide) rfl) ?_
  refine zz_cons (k' := 45) rfl (zz_Ok_none _ _) ?_
  refine zz_cons (k' := 46) rfl (zz_Ok_none _ _) ?_
  refine zz_cons (k' := 47) rfl (zk_iload_n X dX12_sees_46 rfl rfl) ?_
  refine zz_cons (k' := 48) rfl (zk_aload_n X dX12_sees_47 rfl rfl) ?_
  refine zz_cons (k' := 49) rfl (zk_callv X (zz_Cv_of (List.forall_mem_cons.mpr ⟨⟨(RX_10, zzT10, 50), yX12_seesOne, cX12_seesOne, 5, (some .int), 5, 120, rfl, kv_X12_240_10.1, (mm_X12_seesOne Wd).1, by decide, by decide⟩, (fun _ h => absurd h List.not_mem_nil)⟩)) dX12_sees_48 rfl) ?_
  refine zz_cons (k' := 50) rfl (zz_Ok_none _ _) ?_
  refine zz_cons (k' := 51) rfl (zz_Ok_none _ _) ?_
  refine zz_cons (k' := 52) rfl (zk_iadd X dX12_sees_51 rfl) ?_
  refine zz_cons (k' := 53) rfl (zk_istore_n X dX12_sees_52 rfl (by decide) rfl) ?_
  refine zz_cons (k' := 54) rfl (zk_iinc X dX12_sees_53 (by decide) (by decide) rfl) ?_
  refine zz_cons (k' := 55) rfl (zz_Ok_none _ _) ?_
  refine zz_cons (k' := 56) rfl (zz_Ok_none _ _) ?_
  refine zz_cons (k' := 57) rfl (zk_goto X dX12_sees_56 (by decide)) ?_
  refine zz_cons (k' := 58) rfl (zz_Ok_none _ _) ?_
  refine zz_cons (k' := 59) rfl (zz_Ok_none _ _) ?_
  refine zz_cons (k' := 60) rfl (zk_iload_n X dX12_sees_59 rfl rfl) ?_
  refine zz_cons (k' := 61) rfl (zk_iret X rfl dX12_sees_60) ?_
  exact trivial
noncomputable def tX12_wrote : List zzOp := [
  zo_aload 0 1,
  zo_getf zzSR (zz_kf [10] 41) 4,
  zo_none,
  zo_none,
  zo_pushI 60 6,
  zo_none,
  zo_aload 0 7,
  zo_getf zzSR (zz_kf [10] 42) 10,
  zo_none,
  zo_none,
  zo_ii (fun x y => x * y) 11,
  zo_aload 0 12,
  zo_getf zzSR (zz_kf [10] 43) 15,
  zo_none,
  zo_none,
  zo_ii (fun x y => x + y) 16,
  zo_aload 0 17,
  zo_getf zzSR (zz_kf [10] 14) 20,
  zo_none,
  zo_none,
  zo_iload 1 21,
  zo_icmp (fun x y => decide (x ≤ y)) 31 24,
  zo_none,
  zo_none,
  zo_aload 0 25,
  zo_getf zzSR (zz_kf [10] 14) 28,
  zo_none,
  zo_none,
  zo_goto 48,
  zo_none,
  zo_none,
  zo_aload 0 32,
  zo_getf zzSR (zz_kf [10] 41) 35,
  zo_none,
  zo_none,
  zo_pushI 60 37,
  zo_none,
  zo_aload 0 38,
  zo_getf zzSR (zz_kf [10] 42) 41,
  zo_none,
  zo_none,
  zo_ii (fun x y => x * y) 42,
  zo_aload 0 43,
  zo_getf zzSR (zz_kf [10] 43) 46,
  zo_none,
  zo_none,
  zo_ii (fun x y => x + y) 47,
  zo_iald zzSR zzSTR 48,
  zo_iast zzSR 49,
  zo_ret]
set_option maxRecDepth 100000 in
theorem tl_X12_wrote : ∀ pc, zz_Tl (tX12_wrote.getD pc zo_none) := by
  refine zz_Tl_mem ?_
  unfold tX12_wrote
  refine List.forall_mem_cons.mpr ⟨(zo_aload_tl _ _), ?_⟩
  refine List.forall_mem_cons.mpr ⟨(zo_getf_tl _ _ _), ?_⟩
  refine List.forall_mem_cons.mpr ⟨zo_none_tl, ?_⟩
  refine List.forall_mem_cons.mpr ⟨zo_none_tl, ?_⟩
  refine List.forall_mem_cons.mpr ⟨(zo_pushI_tl _ _), ?_⟩
  refine List.forall_mem_cons.mpr ⟨zo_none_tl, ?_⟩
  refine List.forall_mem_cons.mpr ⟨(zo_aload_tl _ _), ?_⟩
  refine List.forall_mem_cons.mpr ⟨(zo_getf_tl _ _ _), ?_⟩
  refine List.forall_mem_cons.mpr ⟨zo_none_tl, ?_⟩
  refine List.forall_mem_cons.mpr ⟨zo_none_tl, ?_⟩
  refine List.forall_mem_cons.mpr ⟨(zo_ii_tl _ _), ?_⟩
  refine List.forall_mem_cons.mpr ⟨(zo_aload_tl _ _), ?_⟩
  refine List.forall_mem_cons.mpr ⟨(zo_getf_tl _ _ _), ?_⟩
  refine List.forall_mem_cons.mpr ⟨zo_none_tl, ?_⟩
  refine List.forall_mem_cons.mpr ⟨zo_none_tl, ?_⟩
  refine List.forall_mem_cons.mpr ⟨(zo_ii_tl _ _), ?_⟩
  refine List.forall_mem_cons.mpr ⟨(zo_aload_tl _ _), ?_⟩
  refine List.forall_mem_cons.mpr ⟨(zo_getf_tl _ _ _), ?_⟩
  refine List.forall_mem_cons.mpr ⟨zo_none_tl, ?_⟩
  refine List.forall_mem_cons.mpr ⟨zo_none_tl, ?_⟩
  refine List.forall_mem_cons.mpr ⟨(zo_iload_tl _ _), ?_⟩
  refine List.forall_mem_cons.mpr ⟨(zo_icmp_tl _ _ _), ?_⟩
  refine List.forall_mem_cons.mpr ⟨zo_none_tl, ?_⟩
  refine List.forall_mem_cons.mpr ⟨zo_none_tl, ?_⟩
  refine List.forall_mem_cons.mpr ⟨(zo_aload_tl _ _), ?_⟩
  refine List.forall_mem_cons.mpr ⟨(zo_getf_tl _ _ _), ?_⟩
  refine List.forall_mem_cons.mpr ⟨zo_none_tl, ?_⟩
  refine List.forall_mem_cons.mpr ⟨zo_none_tl, ?_⟩
  refine List.forall_mem_cons.mpr ⟨(zo_goto_tl _), ?_⟩
  refine List.forall_mem_cons.mpr ⟨zo_none_tl, ?_⟩
  refine List.forall_mem_cons.mpr ⟨zo_none_tl, ?_⟩
  refine List.forall_mem_cons.mpr ⟨(zo_aload_tl _ _), ?_⟩
  refine List.forall_mem_cons.mpr ⟨(zo_getf_tl _ _ _), ?_⟩
  refine List.forall_mem_cons.mpr ⟨zo_none_tl, ?_⟩
  refine List.forall_mem_cons.mpr ⟨zo_none_tl, ?_⟩
  refine List.forall_mem_cons.mpr ⟨(zo_pushI_tl _ _), ?_⟩
  refine List.forall_mem_cons.mpr ⟨zo_none_tl, ?_⟩
  refine List.forall_mem_cons.mpr ⟨(zo_aload_tl _ _), ?_⟩
  refine List.forall_mem_cons.mpr ⟨(zo_getf_tl _ _ _), ?_⟩
  refine List.forall_mem_cons.mpr ⟨zo_none_tl, ?_⟩
  refine List.forall_mem_cons.mpr ⟨zo_none_tl, ?_⟩
  refine List.forall_mem_cons.mpr ⟨(zo_ii_tl _ _), ?_⟩
  refine List.forall_mem_cons.mpr ⟨(zo_aload_tl _ _), ?_⟩
  refine List.forall_mem_cons.mpr ⟨(zo_getf_tl _ _ _), ?_⟩
  refine List.forall_mem_cons.mpr ⟨zo_none_tl, ?_⟩
  refine List.forall_mem_cons.mpr ⟨zo_none_tl, ?_⟩
  refine List.forall_mem_cons.mpr ⟨(zo_ii_tl _ _), ?_⟩
  refine List.forall_mem_cons.mpr ⟨(zo_iald_tl _ _ _), ?_⟩
  refine List.forall_mem_cons.mpr ⟨(zo_iast_tl _ _), ?_⟩
  refine List.forall_mem_cons.mpr ⟨(zo_ret_tl), ?_⟩
  exact fun _ h => absurd h List.not_mem_nil
noncomputable def fX12_wrote : zzFn := zz_fn tX12_wrote 2
set_option maxRecDepth 100000 in
set_option maxHeartbeats 4000000 in
theorem mm_X12_wrote {l : Launch} {D : va_G} {cA : Nat → ClassId} {ad : Nat → Nat} {Ex : (Nat → Prop) → State → Heap → Prop} (Wd : zzWR l D cA ad Ex) : zz_Cn l D zzCl cA ad zzSR Ex yX12_wrote cX12_wrote 2 none 0 0 fX12_wrote ∧ zz_Cx l D zzCl cA ad zzSR Ex yX12_wrote cX12_wrote 2 none 0 0 fX12_wrote := by
  refine zz_meth (plainFor_of_name (by decide)) Wd.1 Wd.2.1 Wd.2.2 (fun p e R s m args below meth c rr X => ?_)
  unfold tX12_wrote
  refine zz_cons (k' := 1) rfl (zk_aload_n X dX12_wrote_0 rfl rfl) ?_
  refine zz_cons (k' := 2) rfl (zk_getf X ff_X12_118 dX12_wrote_1 rfl) ?_
  refine zz_cons (k' := 3) rfl (zz_Ok_none _ _) ?_
  refine zz_cons (k' := 4) rfl (zz_Ok_none _ _) ?_
  refine zz_cons (k' := 5) rfl (zk_bipush X dX12_wrote_4 (by decide) rfl) ?_
  refine zz_cons (k' := 6) rfl (zz_Ok_none _ _) ?_
  refine zz_cons (k' := 7) rfl (zk_aload_n X dX12_wrote_6 rfl rfl) ?_
  refine zz_cons (k' := 8) rfl (zk_getf X ff_X12_193 dX12_wrote_7 rfl) ?_
  refine zz_cons (k' := 9) rfl (zz_Ok_none _ _) ?_
  refine zz_cons (k' := 10) rfl (zz_Ok_none _ _) ?_
  refine zz_cons (k' := 11) rfl (zk_imul X dX12_wrote_10 rfl) ?_
  refine zz_cons (k' := 12) rfl (zk_aload_n X dX12_wrote_11 rfl rfl) ?_
  refine zz_cons (k' := 13) rfl (zk_getf X ff_X12_243 dX12_wrote_12 rfl) ?_
  refine zz_cons (k' := 14) rfl (zz_Ok_none _ _) ?_
  refine zz_cons (k' := 15) rfl (zz_Ok_none _ _) ?_
  refine zz_cons (k' := 16) rfl (zk_iadd X dX12_wrote_15 rfl) ?_
  refine zz_cons (k' := 17) rfl (zk_aload_n X dX12_wrote_16 rfl rfl) ?_
  refine zz_cons (k' := 18) rfl (zk_getf X ff_X12_154 dX12_wrote_17 rfl) ?_
  refine zz_cons (k' := 19) rfl (zz_Ok_none _ _) ?_
  refine zz_cons (k' := 20) rfl (zz_Ok_none _ _) ?_
  refine zz_cons (k' := 21) rfl (zk_iload_n X dX12_wrote_20 rfl rfl) ?_
  refine zz_cons (k' := 22) rfl (zk_icmp_le X dX12_wrote_21 (by decide) rfl) ?_
  refine zz_cons (k' := 23) rfl (zz_Ok_none _ _) ?_
  refine zz_cons (k' := 24) rfl (zz_Ok_none _ _) ?_
  refine zz_cons (k' := 25) rfl (zk_aload_n X dX12_wrote_24 rfl rfl) ?_
  refine zz_cons (k' := 26) rfl (zk_getf X ff_X12_154 dX12_wrote_25 rfl) ?_
  refine zz_cons (k' := 27) rfl (zz_Ok_none _ _) ?_
  refine zz_cons (k' := 28) rfl (zz_Ok_none _ _) ?_
  refine zz_cons (k' := 29) rfl (zk_goto X dX12_wrote_28 (by decide)) ?_
  refine zz_cons (k' := 30) rfl (zz_Ok_none _ _) ?_
  refine zz_cons (k' := 31) rfl (zz_Ok_none _ _) ?_
  refine zz_cons (k' := 32) rfl (zk_aload_n X dX12_wrote_31 rfl rfl) ?_
  refine zz_cons (k' := 33) rfl (zk_getf X ff_X12_118 dX12_wrote_32 rfl) ?_
  refine zz_cons (k' := 34) rfl (zz_Ok_none _ _) ?_
  refine zz_cons (k' := 35) rfl (zz_Ok_none _ _) ?_
  refine zz_cons (k' := 36) rfl (zk_bipush X dX12_wrote_35 (by decide) rfl) ?_
  refine zz_cons (k' := 37) rfl (zz_Ok_none _ _) ?_
  refine zz_cons (k' := 38) rfl (zk_aload_n X dX12_wrote_37 rfl rfl) ?_
  refine zz_cons (k' := 39) rfl (zk_getf X ff_X12_193 dX12_wrote_38 rfl) ?_
  refine zz_cons (k' := 40) rfl (zz_Ok_none _ _) ?_
  refine zz_cons (k' := 41) rfl (zz_Ok_none _ _) ?_
  refine zz_cons (k' := 42) rfl (zk_imul X dX12_wrote_41 rfl) ?_
  refine zz_cons (k' := 43) rfl (zk_aload_n X dX12_wrote_42 rfl rfl) ?_
  refine zz_cons (k' := 44) rfl (zk_getf X ff_X12_243 dX12_wrote_43 rfl) ?_
  refine zz_cons (k' := 45) rfl (zz_Ok_none _ _) ?_
  refine zz_cons (k' := 46) rfl (zz_Ok_none _ _) ?_
  refine zz_cons (k' := 47) rfl (zk_iadd X dX12_wrote_46 rfl) ?_
  refine zz_cons (k' := 48) rfl (zk_iald X (zzWR_st Wd) dX12_wrote_47 rfl) ?_
  refine zz_cons (k' := 49) rfl (zk_iast X dX12_wrote_48 rfl) ?_
  refine zz_cons (k' := 50) rfl (zk_ret X rfl dX12_wrote_49) ?_
  exact trivial
end

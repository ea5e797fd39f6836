section
noncomputable def tX12_seen : List zzOp := [
  zo_aload 0 1,
  zo_iload 1 2,
  zo_callv zzSR (zz_cl [(10, fX12_asks)]) 1 5,
  zo_none,
  zo_none,
  zo_if (fun x => decide (x = 0)) 17 8,
  zo_none,
  zo_none,
  zo_aload 0 9,
  zo_getf zzSR (zz_kf [10] 32) 12,
  zo_none,
  zo_none,
  zo_iload 1 13,
  zo_iald zzSR zzSTR 14,
  zo_goto 18,
  zo_none,
  zo_none,
  zo_pushI 0 18,
  zo_iret false]
set_option maxRecDepth 100000 in
theorem tl_X12_seen : ∀ pc, zz_Tl (tX12_seen.getD pc zo_none) := by
  refine zz_Tl_mem ?_
  unfold tX12_seen
  refine List.forall_mem_cons.mpr ⟨(zo_aload_tl _ _), ?_⟩
  refine List.forall_mem_cons.mpr ⟨(zo_iload_tl _ _), ?_⟩
  refine List.forall_mem_cons.mpr ⟨(zo_callv_tl _ _ _ _), ?_⟩
  refine List.forall_mem_cons.mpr ⟨zo_none_tl, ?_⟩
  refine List.forall_mem_cons.mpr ⟨zo_none_tl, ?_⟩
  refine List.forall_mem_cons.mpr ⟨(zo_if_tl _ _ _), ?_⟩
  refine List.forall_mem_cons.mpr ⟨zo_none_tl, ?_⟩
  refine List.forall_mem_cons.mpr ⟨zo_none_tl, ?_⟩
  refine List.forall_mem_cons.mpr ⟨(zo_aload_tl _ _), ?_⟩
  refine List.forall_mem_cons.mpr ⟨(zo_getf_tl _ _ _), ?_⟩
  refine List.forall_mem_cons.mpr ⟨zo_none_tl, ?_⟩
  refine List.forall_mem_cons.mpr ⟨zo_none_tl, ?_⟩
  refine List.forall_mem_cons.mpr ⟨(zo_iload_tl _ _), ?_⟩
  refine List.forall_mem_cons.mpr ⟨(zo_iald_tl _ _ _), ?_⟩
  refine List.forall_mem_cons.mpr ⟨(zo_goto_tl _), ?_⟩
  refine List.forall_mem_cons.mpr ⟨zo_none_tl, ?_⟩
  refine List.forall_mem_cons.mpr ⟨zo_none_tl, ?_⟩
  refine List.forall_mem_cons.mpr ⟨(zo_pushI_tl _ _), ?_⟩
  refine List.forall_mem_cons.mpr ⟨(zo_iret_tl _), ?_⟩
  exact fun _ h => absurd h List.not_mem_nil
noncomputable def fX12_seen : zzFn := zz_fn tX12_seen 2
set_option maxRecDepth 100000 in
set_option maxHeartbeats 4000000 in
theorem mm_X12_seen {l : Launch} {D : va_G} {cA : Nat → ClassId} {ad : Nat → Nat} {Ex : (Nat → Prop) → State → Heap → Prop} (Wd : zzWR l D cA ad Ex) : zz_Cn l D zzCl cA ad zzSR Ex yX12_seen cX12_seen 2 (some .int) 3 63 fX12_seen ∧ zz_Cx l D zzCl cA ad zzSR Ex yX12_seen cX12_seen 2 (some .int) 3 63 fX12_seen := by
  refine zz_meth (plainFor_of_name (by decide)) Wd.1 Wd.2.1 Wd.2.2 (fun p e R s m args below meth c rr X => ?_)
  unfold tX12_seen
  refine zz_cons (k' := 1) rfl (zk_aload_n X dX12_seen_0 rfl rfl) ?_
  refine zz_cons (k' := 2) rfl (zk_iload_n X dX12_seen_1 rfl rfl) ?_
  refine zz_cons (k' := 3) rfl (zk_callv X (zz_Cv_of (List.forall_mem_cons.mpr ⟨⟨(RX_10, zzT10, 50), yX12_asks, cX12_asks, 2, (some .boolean), 2, 42, rfl, kv_X12_395_10.1, (mm_X12_asks Wd).1, by decide, by decide⟩, (fun _ h => absurd h List.not_mem_nil)⟩)) dX12_seen_2 rfl) ?_
  refine zz_cons (k' := 4) rfl (zz_Ok_none _ _) ?_
  refine zz_cons (k' := 5) rfl (zz_Ok_none _ _) ?_
  refine zz_cons (k' := 6) rfl (zk_if_eq X dX12_seen_5 (by decide) rfl) ?_
  refine zz_cons (k' := 7) rfl (zz_Ok_none _ _) ?_
  refine zz_cons (k' := 8) rfl (zz_Ok_none _ _) ?_
  refine zz_cons (k' := 9) rfl (zk_aload_n X dX12_seen_8 rfl rfl) ?_
  refine zz_cons (k' := 10) rfl (zk_getf X ff_X12_90 dX12_seen_9 rfl) ?_
  refine zz_cons (k' := 11) rfl (zz_Ok_none _ _) ?_
  refine zz_cons (k' := 12) rfl (zz_Ok_none _ _) ?_
  refine zz_cons (k' := 13) rfl (zk_iload_n X dX12_seen_12 rfl rfl) ?_
  refine zz_cons (k' := 14) rfl (zk_iald X (zzWR_st Wd) dX12_seen_13 rfl) ?_
  refine zz_cons (k' := 15) rfl (zk_goto X dX12_seen_14 (by decide)) ?_
  refine zz_cons (k' := 16) rfl (zz_Ok_none _ _) ?_
  refine zz_cons (k' := 17) rfl (zz_Ok_none _ _) ?_
  refine zz_cons (k' := 18) rfl (zk_iconst X dX12_seen_17 (by decide) rfl) ?_
  refine zz_cons (k' := 19) rfl (zk_iret X rfl dX12_seen_18) ?_
  exact trivial
noncomputable def tX12_queued : List zzOp := [
  zo_aload 0 1,
  zo_iload 1 2,
  zo_callv zzSR (zz_cl [(10, fX12_asks)]) 1 5,
  zo_none,
  zo_none,
  zo_if (fun x => decide (x = 0)) 24 8,
  zo_none,
  zo_none,
  zo_aload 0 9,
  zo_iload 2 10,
  zo_if (fun x => decide (x < 0)) 17 13,
  zo_none,
  zo_none,
  zo_pushI 0 14,
  zo_goto 18,
  zo_none,
  zo_none,
  zo_pushI 2 18,
  zo_callv zzSR (zz_cl [(10, fX12_goes)]) 1 21,
  zo_none,
  zo_none,
  zo_if (fun x => decide (¬ x = 0)) 26 24,
  zo_none,
  zo_none,
  zo_pushI 0 25,
  zo_iret false,
  zo_iload 2 27,
  zo_aload 0 28,
  zo_getf zzSR (zz_kf [10] 37) 31,
  zo_none,
  zo_none,
  zo_iload 1 32,
  zo_iald zzSR zzSTR 33,
  zo_icmp (fun x y => decide (y ≤ x)) 50 36,
  zo_none,
  zo_none,
  zo_aload 0 37,
  zo_getf zzSR (zz_kf [10] 38) 40,
  zo_none,
  zo_none,
  zo_pushI 60 42,
  zo_none,
  zo_iload 1 43,
  zo_ii (fun x y => x * y) 44,
  zo_iload 2 45,
  zo_ii (fun x y => x + y) 46,
  zo_iald zzSR zzSTR 47,
  zo_goto 51,
  zo_none,
  zo_none,
  zo_pushI (-1) 51,
  zo_iret false]
set_option maxRecDepth 100000 in
theorem tl_X12_queued : ∀ pc, zz_Tl (tX12_queued.getD pc zo_none) := by
  refine zz_Tl_mem ?_
  unfold tX12_queued
  refine List.forall_mem_cons.mpr ⟨(zo_aload_tl _ _), ?_⟩
  refine List.forall_mem_cons.mpr ⟨(zo_iload_tl _ _), ?_⟩
  refine List.forall_mem_cons.mpr ⟨(zo_callv_tl _ _ _ _), ?_⟩
  refine List.forall_mem_cons.mpr ⟨zo_none_tl, ?_⟩
  refine List.forall_mem_cons.mpr ⟨zo_none_tl, ?_⟩
  refine List.forall_mem_cons.mpr ⟨(zo_if_tl _ _ _), ?_⟩
  refine List.forall_mem_cons.mpr ⟨zo_none_tl, ?_⟩
  refine List.forall_mem_cons.mpr ⟨zo_none_tl, ?_⟩
  refine List.forall_mem_cons.mpr ⟨(zo_aload_tl _ _), ?_⟩
  refine List.forall_mem_cons.mpr ⟨(zo_iload_tl _ _), ?_⟩
  refine List.forall_mem_cons.mpr ⟨(zo_if_tl _ _ _), ?_⟩
  refine List.forall_mem_cons.mpr ⟨zo_none_tl, ?_⟩
  refine List.forall_mem_cons.mpr ⟨zo_none_tl, ?_⟩
  refine List.forall_mem_cons.mpr ⟨(zo_pushI_tl _ _), ?_⟩
  refine List.forall_mem_cons.mpr ⟨(zo_goto_tl _), ?_⟩
  refine List.forall_mem_cons.mpr ⟨zo_none_tl, ?_⟩
  refine List.forall_mem_cons.mpr ⟨zo_none_tl, ?_⟩
  refine List.forall_mem_cons.mpr ⟨(zo_pushI_tl _ _), ?_⟩
  refine List.forall_mem_cons.mpr ⟨(zo_callv_tl _ _ _ _), ?_⟩
  refine List.forall_mem_cons.mpr ⟨zo_none_tl, ?_⟩
  refine List.forall_mem_cons.mpr ⟨zo_none_tl, ?_⟩
  refine List.forall_mem_cons.mpr ⟨(zo_if_tl _ _ _), ?_⟩
  refine List.forall_mem_cons.mpr ⟨zo_none_tl, ?_⟩
  refine List.forall_mem_cons.mpr ⟨zo_none_tl, ?_⟩
  refine List.forall_mem_cons.mpr ⟨(zo_pushI_tl _ _), ?_⟩
  refine List.forall_mem_cons.mpr ⟨(zo_iret_tl _), ?_⟩
  refine List.forall_mem_cons.mpr ⟨(zo_iload_tl _ _), ?_⟩
  refine List.forall_mem_cons.mpr ⟨(zo_aload_tl _ _), ?_⟩
  refine List.forall_mem_cons.mpr ⟨(zo_getf_tl _ _ _), ?_⟩
  refine List.forall_mem_cons.mpr ⟨zo_none_tl, ?_⟩
  refine List.forall_mem_cons.mpr ⟨zo_none_tl, ?_⟩
  refine List.forall_mem_cons.mpr ⟨(zo_iload_tl _ _), ?_⟩
  refine List.forall_mem_cons.mpr ⟨(zo_iald_tl _ _ _), ?_⟩
  refine List.forall_mem_cons.mpr ⟨(zo_icmp_tl _ _ _), ?_⟩
  refine List.forall_mem_cons.mpr ⟨zo_none_tl, ?_⟩
  refine List.forall_mem_cons.mpr ⟨zo_none_tl, ?_⟩
  refine List.forall_mem_cons.mpr ⟨(zo_aload_tl _ _), ?_⟩
  refine List.forall_mem_cons.mpr ⟨(zo_getf_tl _ _ _), ?_⟩
  refine List.forall_mem_cons.mpr ⟨zo_none_tl, ?_⟩
  refine List.forall_mem_cons.mpr ⟨zo_none_tl, ?_⟩
  refine List.forall_mem_cons.mpr ⟨(zo_pushI_tl _ _), ?_⟩
  refine List.forall_mem_cons.mpr ⟨zo_none_tl, ?_⟩
  refine List.forall_mem_cons.mpr ⟨(zo_iload_tl _ _), ?_⟩
  refine List.forall_mem_cons.mpr ⟨(zo_ii_tl _ _), ?_⟩
  refine List.forall_mem_cons.mpr ⟨(zo_iload_tl _ _), ?_⟩
  refine List.forall_mem_cons.mpr ⟨(zo_ii_tl _ _), ?_⟩
  refine List.forall_mem_cons.mpr ⟨(zo_iald_tl _ _ _), ?_⟩
  refine List.forall_mem_cons.mpr ⟨(zo_goto_tl _), ?_⟩
  refine List.forall_mem_cons.mpr ⟨zo_none_tl, ?_⟩
  refine List.forall_mem_cons.mpr ⟨zo_none_tl, ?_⟩
  refine List.forall_mem_cons.mpr ⟨(zo_pushI_tl _ _), ?_⟩
  refine List.forall_mem_cons.mpr ⟨(zo_iret_tl _), ?_⟩
  exact fun _ h => absurd h List.not_mem_nil
noncomputable def fX12_queued : zzFn := zz_fn tX12_queued 3
set_option maxRecDepth 100000 in
set_option maxHeartbeats 4000000 in
theorem mm_X12_queued {l : Launch} {D : va_G} {cA : Nat → ClassId} {ad : Nat → Nat} {Ex : (Nat → Prop) → State → Heap → Prop} (Wd : zzWR l D cA ad Ex) : zz_Cn l D zzCl cA ad zzSR Ex yX12_queued cX12_queued 3 (some .int) 3 63 fX12_queued ∧ zz_Cx l D zzCl cA ad zzSR Ex yX12_queued cX12_queued 3 (some .int) 3 63 fX12_queued := by
  refine zz_meth (plainFor_of_name (by decide)) Wd.1 Wd.2.1 Wd.2.2 (fun p e R s m args below meth c rr X => ?_)
  unfold tX12_queued
  refine zz_cons (k' := 1) rfl (zk_aload_n X dX12_queued_0 rfl rfl) ?_
  refine zz_cons (k' := 2) rfl (zk_iload_n X dX12_queued_1 rfl rfl) ?_
  refine zz_cons (k' := 3) rfl (zk_callv X (zz_Cv_of (List.forall_mem_cons.mpr ⟨⟨(RX_10, zzT10, 50), yX12_asks, cX12_asks, 2, (some .boolean), 2, 42, rfl, kv_X12_395_10.1, (mm_X12_asks Wd).1, by decide, by decide⟩, (fun _ h => absurd h List.not_mem_nil)⟩)) dX12_queued_2 rfl) ?_
  refine zz_cons (k' := 4) rfl (zz_Ok_none _ _) ?_
  refine zz_cons (k' := 5) rfl (zz_Ok_none _ _) ?_
  refine zz_cons (k' := 6) rfl (zk_if_eq X dX12_queued_5 (by decide) rfl) ?_
  refine zz_cons (k' := 7) rfl (zz_Ok_none _ _) ?_
  refine zz_cons (k' := 8) rfl (zz_Ok_none _ _) ?_
  refine zz_cons (k' := 9) rfl (zk_aload_n X dX12_queued_8 rfl rfl) ?_
  refine zz_cons (k' := 10) rfl (zk_iload_n X dX12_queued_9 rfl rfl) ?_
  refine zz_cons (k' := 11) rfl (zk_if_lt X dX12_queued_10 (by decide) rfl) ?_
  refine zz_cons (k' := 12) rfl (zz_Ok_none _ _) ?_
  refine zz_cons (k' := 13) rfl (zz_Ok_none _ _) ?_
  refine zz_cons (k' := 14) rfl (zk_iconst X dX12_queued_13 (by decide) rfl) ?_
  refine zz_cons (k' := 15) rfl (zk_goto X dX12_queued_14 (by decide)) ?_
  refine zz_cons (k' := 16) rfl (zz_Ok_none _ _) ?_
  refine zz_cons (k' := 17) rfl (zz_Ok_none _ _) ?_
  refine zz_cons (k' := 18) rfl (zk_iconst X dX12_queued_17 (by decide) rfl) ?_
  refine zz_cons (k' := 19) rfl (zk_callv X (zz_Cv_of (List.forall_mem_cons.mpr ⟨⟨(RX_10, zzT10, 50), yX12_goes, cX12_goes, 2, (some .boolean), 0, 0, rfl, kv_X12_374_10.1, (mm_X12_goes Wd).1, by decide, by decide⟩, (fun _ h => absurd h List.not_mem_nil)⟩)) dX12_queued_18 rfl) ?_
  refine zz_cons (k' := 20) rfl (zz_Ok_none _ _) ?_
  refine zz_cons (k' := 21) rfl (zz_Ok_none _ _) ?_
  refine zz_cons (k' := 22) rfl (zk_if_ne X dX12_queued_21 (by decide) rfl) ?_
  refine zz_cons (k' := 23) rfl (zz_Ok_none _ _) ?_
  refine zz_cons (k' := 24) rfl (zz_Ok_none _ _) ?_
  refine zz_cons (k' := 25) rfl (zk_iconst X dX12_queued_24 (by decide) rfl) ?_
  refine zz_cons (k' := 26) rfl (zk_iret X rfl dX12_queued_25) ?_
  refine zz_cons (k' := 27) rfl (zk_iload_n X dX12_queued_26 rfl rfl) ?_
  refine zz_cons (k' := 28) rfl (zk_aload_n X dX12_queued_27 rfl rfl) ?_
  refine zz_cons (k' := 29) rfl (zk_getf X ff_X12_106 dX12_queued_28 rfl) ?_
  refine zz_cons (k' := 30) rfl (zz_Ok_none _ _) ?_
  refine zz_cons (k' := 31) rfl (zz_Ok_none _ _) ?_
  refine zz_cons (k' := 32) rfl (zk_iload_n X dX12_queued_31 rfl rfl) ?_
  refine zz_cons (k' := 33) rfl (zk_iald X (zzWR_st Wd) dX12_queued_32 rfl) ?_
  refine zz_cons (k' := 34) rfl (zk_icmp_ge X dX12_queued_33 (by decide) rfl) ?_
  refine zz_cons (k' := 35) rfl (zz_Ok_none _ _) ?_
  refine zz_cons (k' := 36) rfl (zz_Ok_none _ _) ?_
  refine zz_cons (k' := 37) rfl (zk_aload_n X dX12_queued_36 rfl rfl) ?_
  refine zz_cons (k' := 38) rfl (zk_getf X ff_X12_109 dX12_queued_37 rfl) ?_
  refine zz_cons (k' := 39) rfl (zz_Ok_none _ _) ?_
  refine zz_cons (k' := 40) rfl (zz_Ok_none _ _) ?_
  refine zz_cons (k' := 41) rfl (zk_bipush X dX12_queued_40 (by decide) rfl) ?_
  refine zz_cons (k' := 42) rfl (zz_Ok_none _ _) ?_
  refine zz_cons (k' := 43) rfl (zk_iload_n X dX12_queued_42 rfl rfl) ?_
  refine zz_cons (k' := 44) rfl (zk_imul X dX12_queued_43 rfl) ?_
  refine zz_cons (k' := 45) rfl (zk_iload_n X dX12_queued_44 rfl rfl) ?_
  refine zz_cons (k' := 46) rfl (zk_iadd X dX12_queued_45 rfl) ?_
  refine zz_cons (k' := 47) rfl (zk_iald X (zzWR_st Wd) dX12_queued_46 rfl) ?_
  refine zz_cons (k' := 48) rfl (zk_goto X dX12_queued_47 (by decide)) ?_
  refine zz_cons (k' := 49) rfl (zz_Ok_none _ _) ?_
  refine zz_cons (k' := 50) rfl (zz_Ok_none _ _) ?_
  refine zz_cons (k' := 51) rfl (zk_iconst X dX12_queued_50 (by decide) rfl) ?_
  refine zz_cons (k' := 52) rfl (zk_iret X rfl dX12_queued_51) ?_
  exact trivial
noncomputable def tX12_failures : List zzOp := [
  zo_aload 0 1,
  zo_iload 1 2,
  zo_callv zzSR (zz_cl [(10, fX12_asks)]) 1 5,
  zo_none,
  zo_none,
  zo_if (fun x => decide (x = 0)) 42 8,
  zo_none,
  zo_none,
  zo_aload 0 9,
  zo_aload 0 10,
  zo_iload 2 11,
  zo_callv zzSR (zz_cl [(10, fX12_isObject)]) 1 14,
  zo_none,
  zo_none,
  zo_if (fun x => decide (x = 0)) 21 17,
  zo_none,
  zo_none,
  zo_pushI 0 18,
  zo_goto 22,
  zo_none,
  zo_none,
  zo_pushI 2 22,
  zo_callv zzSR (zz_cl [(10, fX12_goes)]) 1 25,
  zo_none,
  zo_none,
  zo_if (fun x => decide (x = 0)) 42 28,
  zo_none,
  zo_none,
  zo_aload 0 29,
  zo_getf zzSR (zz_kf [10] 39) 32,
  zo_none,
  zo_none,
  zo_pushI 60 34,
  zo_none,
  zo_iload 1 35,
  zo_ii (fun x y => x * y) 36,
  zo_iload 2 37,
  zo_ii (fun x y => x + y) 38,
  zo_iald zzSR zzSTR 39,
  zo_goto 43,
  zo_none,
  zo_none,
  zo_pushI 0 43,
  zo_iret false]
set_option maxRecDepth 100000 in
theorem tl_X12_failures : ∀ pc, zz_Tl (tX12_failures.getD pc zo_none) := by
  refine zz_Tl_mem ?_
  unfold tX12_failures
  refine List.forall_mem_cons.mpr ⟨(zo_aload_tl _ _), ?_⟩
  refine List.forall_mem_cons.mpr ⟨(zo_iload_tl _ _), ?_⟩
  refine List.forall_mem_cons.mpr ⟨(zo_callv_tl _ _ _ _), ?_⟩
  refine List.forall_mem_cons.mpr ⟨zo_none_tl, ?_⟩
  refine List.forall_mem_cons.mpr ⟨zo_none_tl, ?_⟩
  refine List.forall_mem_cons.mpr ⟨(zo_if_tl _ _ _), ?_⟩
  refine List.forall_mem_cons.mpr ⟨zo_none_tl, ?_⟩
  refine List.forall_mem_cons.mpr ⟨zo_none_tl, ?_⟩
  refine List.forall_mem_cons.mpr ⟨(zo_aload_tl _ _), ?_⟩
  refine List.forall_mem_cons.mpr ⟨(zo_aload_tl _ _), ?_⟩
  refine List.forall_mem_cons.mpr ⟨(zo_iload_tl _ _), ?_⟩
  refine List.forall_mem_cons.mpr ⟨(zo_callv_tl _ _ _ _), ?_⟩
  refine List.forall_mem_cons.mpr ⟨zo_none_tl, ?_⟩
  refine List.forall_mem_cons.mpr ⟨zo_none_tl, ?_⟩
  refine List.forall_mem_cons.mpr ⟨(zo_if_tl _ _ _), ?_⟩
  refine List.forall_mem_cons.mpr ⟨zo_none_tl, ?_⟩
  refine List.forall_mem_cons.mpr ⟨zo_none_tl, ?_⟩
  refine List.forall_mem_cons.mpr ⟨(zo_pushI_tl _ _), ?_⟩
  refine List.forall_mem_cons.mpr ⟨(zo_goto_tl _), ?_⟩
  refine List.forall_mem_cons.mpr ⟨zo_none_tl, ?_⟩
  refine List.forall_mem_cons.mpr ⟨zo_none_tl, ?_⟩
  refine List.forall_mem_cons.mpr ⟨(zo_pushI_tl _ _), ?_⟩
  refine List.forall_mem_cons.mpr ⟨(zo_callv_tl _ _ _ _), ?_⟩
  refine List.forall_mem_cons.mpr ⟨zo_none_tl, ?_⟩
  refine List.forall_mem_cons.mpr ⟨zo_none_tl, ?_⟩
  refine List.forall_mem_cons.mpr ⟨(zo_if_tl _ _ _), ?_⟩
  refine List.forall_mem_cons.mpr ⟨zo_none_tl, ?_⟩
  refine List.forall_mem_cons.mpr ⟨zo_none_tl, ?_⟩
  refine List.forall_mem_cons.mpr ⟨(zo_aload_tl _ _), ?_⟩
  refine List.forall_mem_cons.mpr ⟨(zo_getf_tl _ _ _), ?_⟩
  refine List.forall_mem_cons.mpr ⟨zo_none_tl, ?_⟩
  refine List.forall_mem_cons.mpr ⟨zo_none_tl, ?_⟩
  refine List.forall_mem_cons.mpr ⟨(zo_pushI_tl _ _), ?_⟩
  refine List.forall_mem_cons.mpr ⟨zo_none_tl, ?_⟩
  refine List.forall_mem_cons.mpr ⟨(zo_iload_tl _ _), ?_⟩
  refine List.forall_mem_cons.mpr ⟨(zo_ii_tl _ _), ?_⟩
  refine List.forall_mem_cons.mpr ⟨(zo_iload_tl _ _), ?_⟩
  refine List.forall_mem_cons.mpr ⟨(zo_ii_tl _ _), ?_⟩
  refine List.forall_mem_cons.mpr ⟨(zo_iald_tl _ _ _), ?_⟩
  refine List.forall_mem_cons.mpr ⟨(zo_goto_tl _), ?_⟩
  refine List.forall_mem_cons.mpr ⟨zo_none_tl, ?_⟩
  refine List.forall_mem_cons.mpr ⟨zo_none_tl, ?_⟩
  refine List.forall_mem_cons.mpr ⟨(zo_pushI_tl _ _), ?_⟩
  refine List.forall_mem_cons.mpr ⟨(zo_iret_tl _), ?_⟩
  exact fun _ h => absurd h List.not_mem_nil
noncomputable def fX12_failures : zzFn := zz_fn tX12_failures 3
set_option maxRecDepth 100000 in
set_option maxHeartbeats 4000000 in
theorem mm_X12_failures {l : Launch} {D : va_G} {cA : Nat → ClassId} {ad : Nat → Nat} {Ex : (Nat → Prop) → State → Heap → Prop} (Wd : zzWR l D cA ad Ex) : zz_Cn l D zzCl cA ad zzSR Ex yX12_failures cX12_failures 3 (some .int) 3 63 fX12_failures ∧ zz_Cx l D zzCl cA ad zzSR Ex yX12_failures cX12_failures 3 (some .int) 3 63 fX12_failures := by
  refine zz_meth (plainFor_of_name (by decide)) Wd.1 Wd.2.1 Wd.2.2 (fun p e R s m args below meth c rr X => ?_)
  unfold tX12_failures
  refine zz_cons (k' := 1) rfl (zk_aload_n X dX12_failures_0 rfl rfl) ?_
  refine zz_cons (k' := 2) rfl (zk_iload_n X dX12_failures_1 rfl rfl) ?_
  refine zz_cons (k' := 3) rfl (zk_callv X (zz_Cv_of (List.forall_mem_cons.mpr ⟨⟨(RX_10, zzT10, 50), yX12_asks, cX12_asks, 2, (some .boolean), 2, 42, rfl, kv_X12_395_10.1, (mm_X12_asks Wd).1, by decide, by decide⟩, (fun _ h => absurd h List.not_mem_nil)⟩)) dX12_failures_2 rfl) ?_
  refine zz_cons (k' := 4) rfl (zz_Ok_none _ _) ?_
  refine zz_cons (k' := 5) rfl (zz_Ok_none _ _) ?_
  refine zz_cons (k' := 6) rfl (zk_if_eq X dX12_failures_5 (by decide) rfl) ?_
  refine zz_cons (k' := 7) rfl (zz_Ok_none _ _) ?_
  refine zz_cons (k' := 8) rfl (zz_Ok_none _ _) ?_
  refine zz_cons (k' := 9) rfl (zk_aload_n X dX12_failures_8 rfl rfl) ?_
  refine zz_cons (k' := 10) rfl (zk_aload_n X dX12_failures_9 rfl rfl) ?_
  refine zz_cons (k' := 11) rfl (zk_iload_n X dX12_failures_10 rfl rfl) ?_
  refine zz_cons (k' := 12) rfl (zk_callv X (zz_Cv_of (List.forall_mem_cons.mpr ⟨⟨(RX_10, zzT10, 50), yX12_isObject, cX12_isObject, 2, (some .boolean), 1, 22, rfl, kv_X12_377_10.1, (mm_X12_isObject Wd).1, by decide, by decide⟩, (fun _ h => absurd h List.not_mem_nil)⟩)) dX12_failures_11 rfl) ?_
  refine zz_cons (k' := 13) rfl (zz_Ok_none _ _) ?_
  refine zz_cons (k' := 14) rfl (zz_Ok_none _ _) ?_
  refine zz_cons (k' := 15) rfl (zk_if_eq X dX12_failures_14 (by decide) rfl) ?_
  refine zz_cons (k' := 16) rfl (zz_Ok_none _ _) ?_
  refine zz_cons (k' := 17) rfl (zz_Ok_none _ _) ?_
  refine zz_cons (k' := 18) rfl (zk_iconst X dX12_failures_17 (by decide) rfl) ?_
  refine zz_cons (k' := 19) rfl (zk_goto X dX12_failures_18 (by decide)) ?_
  refine zz_cons (k' := 20) rfl (zz_Ok_none _ _) ?_
  refine zz_cons (k' := 21) rfl (zz_Ok_none _ _) ?_
  refine zz_cons (k' := 22) rfl (zk_iconst X dX12_failures_21 (by decide) rfl) ?_
  refine zz_cons (k' := 23) rfl (zk_callv X (zz_Cv_of (List.forall_mem_cons.mpr ⟨⟨(RX_10, zzT10, 50), yX12_goes, cX12_goes, 2, (some .boolean), 0, 0, rfl, kv_X12_374_10.1, (mm_X12_goes Wd).1, by decide, by decide⟩, (fun _ h => absurd h List.not_mem_nil)⟩)) dX12_failures_22 rfl) ?_
  refine zz_cons (k' := 24) rfl (zz_Ok_none _ _) ?_
  refine zz_cons (k' := 25) rfl (zz_Ok_none _ _) ?_
  refine zz_cons (k' := 26) rfl (zk_if_eq X dX12_failures_25 (by decide) rfl) ?_
  refine zz_cons (k' := 27) rfl (zz_Ok_none _ _) ?_
  refine zz_cons (k' := 28) rfl (zz_Ok_none _ _) ?_
  refine zz_cons (k' := 29) rfl (zk_aload_n X dX12_failures_28 rfl rfl) ?_
  refine zz_cons (k' := 30) rfl (zk_getf X ff_X12_112 dX12_failures_29 rfl) ?_
  refine zz_cons (k' := 31) rfl (zz_Ok_none _ _) ?_
  refine zz_cons (k' := 32) rfl (zz_Ok_none _ _) ?_
  refine zz_cons (k' := 33) rfl (zk_bipush X dX12_failures_32 (by decide) rfl) ?_
  refine zz_cons (k' := 34) rfl (zz_Ok_none _ _) ?_
  refine zz_cons (k' := 35) rfl (zk_iload_n X dX12_failures_34 rfl rfl) ?_
  refine zz_cons (k' := 36) rfl (zk_imul X dX12_failures_35 rfl) ?_
  refine zz_cons (k' := 37) rfl (zk_iload_n X dX12_failures_36 rfl rfl) ?_
  refine zz_cons (k' := 38) rfl (zk_iadd X dX12_failures_37 rfl) ?_
  refine zz_cons (k' := 39) rfl (zk_iald X (zzWR_st Wd) dX12_failures_38 rfl) ?_
  refine zz_cons (k' := 40) rfl (zk_goto X dX12_failures_39 (by decide)) ?_
  refine zz_cons (k' := 41) rfl (zz_Ok_none _ _) ?_
  refine zz_cons (k' := 42) rfl (zz_Ok_none _ _) ?_
  refine zz_cons (k' := 43) rfl (zk_iconst X dX12_failures_42 (by decide) rfl) ?_
  refine zz_cons (k' := 44) rfl (zk_iret X rfl dX12_failures_43) ?_
  exact trivial
noncomputable def tX12_believed : List zzOp := [
  zo_aload 0 1,
  zo_iload 1 2,
  zo_callv zzSR (zz_cl [(10, fX12_asks)]) 1 5,
  zo_none,
  zo_none,
  zo_if (fun x => decide (x = 0)) 54 8,
  zo_none,
  zo_none,
  zo_aload 0 9,
  zo_aload 0 10,
  zo_iload 2 11,
  zo_callv zzSR (zz_cl [(10, fX12_isObject)]) 1 14,
  zo_none,
  zo_none,
  zo_if (fun x => decide (x = 0)) 21 17,
  zo_none,
  zo_none,
  zo_pushI 0 18,
  zo_goto 22,
  zo_none,
  zo_none,
  zo_pushI 2 22,
  zo_callv zzSR (zz_cl [(10, fX12_goes)]) 1 25,
  zo_none,
  zo_none,
  zo_if (fun x => decide (x = 0)) 54 28,
  zo_none,
  zo_none,
  zo_aload 0 29,
  zo_aload 0 30,
  zo_aload 0 31,
  zo_getf zzSR (zz_kf [10] 6) 34,
  zo_none,
  zo_none,
  zo_iload 2 35,
  zo_iald zzSR zzSTR 36,
  zo_iload 3 37,
  zo_callv zzSR (zz_cl [(10, fX12_hasField)]) 2 40,
  zo_none,
  zo_none,
  zo_if (fun x => decide (x = 0)) 47 43,
  zo_none,
  zo_none,
  zo_pushI 0 44,
  zo_goto 48,
  zo_none,
  zo_none,
  zo_pushI 1 48,
  zo_callv zzSR (zz_cl [(10, fX12_goes)]) 1 51,
  zo_none,
  zo_none,
  zo_if (fun x => decide (¬ x = 0)) 56 54,
  zo_none,
  zo_none,
  zo_pushI 0 55,
  zo_iret false,
  zo_aload 0 57,
  zo_getf zzSR (zz_kf [10] 33) 60,
  zo_none,
  zo_none,
  zo_pushI 60 62,
  zo_none,
  zo_iload 1 63,
  zo_ii (fun x y => x * y) 64,
  zo_iload 2 65,
  zo_ii (fun x y => x + y) 66,
  zo_zald zzSR 67,
  zo_if (fun x => decide (x = 0)) 89 70,
  zo_none,
  zo_none,
  zo_aload 0 71,
  zo_aload 0 72,
  zo_getf zzSR (zz_kf [10] 34) 75,
  zo_none,
  zo_none,
  zo_pushI 60 77,
  zo_none,
  zo_iload 1 78,
  zo_ii (fun x y => x * y) 79,
  zo_iload 2 80,
  zo_ii (fun x y => x + y) 81,
  zo_lald zzSR 82,
  zo_iload 3 83,
  zo_callv zzSR (zz_cl [(10, fX12_get)]) 2 86,
  zo_none,
  zo_none,
  zo_goto 90,
  zo_none,
  zo_none,
  zo_pushI (-1) 90,
  zo_iret false]
set_option maxRecDepth 100000 in
theorem tl_X12_believed : ∀ pc, zz_Tl (tX12_believed.getD pc zo_none) := by
  refine zz_Tl_mem ?_
  unfold tX12_believed
  refine List.forall_mem_cons.mpr ⟨(zo_aload_tl _ _), ?_⟩
  refine List.forall_mem_cons.mpr ⟨(zo_iload_tl _ _), ?_⟩
  refine List.forall_mem_cons.mpr ⟨(zo_callv_tl _ _ _ _), ?_⟩
  refine List.forall_mem_cons.mpr ⟨zo_none_tl, ?_⟩
  refine List.forall_mem_cons.mpr ⟨zo_none_tl, ?_⟩
  refine List.forall_mem_cons.mpr ⟨(zo_if_tl _ _ _), ?_⟩
  refine List.forall_mem_cons.mpr ⟨zo_none_tl, ?_⟩
  refine List.forall_mem_cons.mpr ⟨zo_none_tl, ?_⟩
  refine List.forall_mem_cons.mpr ⟨(zo_aload_tl _ _), ?_⟩
  refine List.forall_mem_cons.mpr ⟨(zo_aload_tl _ _), ?_⟩
  refine List.forall_mem_cons.mpr ⟨(zo_iload_tl _ _), ?_⟩
  refine List.forall_mem_cons.mpr ⟨(zo_callv_tl _ _ _ _), ?_⟩
  refine List.forall_mem_cons.mpr ⟨zo_none_tl, ?_⟩
  refine List.forall_mem_cons.mpr ⟨zo_none_tl, ?_⟩
  refine List.forall_mem_cons.mpr ⟨(zo_if_tl _ _ _), ?_⟩
  refine List.forall_mem_cons.mpr ⟨zo_none_tl, ?_⟩
  refine List.forall_mem_cons.mpr ⟨zo_none_tl, ?_⟩
  refine List.forall_mem_cons.mpr ⟨(zo_pushI_tl _ _), ?_⟩
  refine List.forall_mem_cons.mpr ⟨(zo_goto_tl _), ?_⟩
  refine List.forall_mem_cons.mpr ⟨zo_none_tl, ?_⟩
  refine List.forall_mem_cons.mpr ⟨zo_none_tl, ?_⟩
  refine List.forall_mem_cons.mpr ⟨(zo_pushI_tl _ _), ?_⟩
  refine List.forall_mem_cons.mpr ⟨(zo_callv_tl _ _ _ _), ?_⟩
  refine List.forall_mem_cons.mpr ⟨zo_none_tl, ?_⟩
  refine List.forall_mem_cons.mpr ⟨zo_none_tl, ?_⟩
  refine List.forall_mem_cons.mpr ⟨(zo_if_tl _ _ _), ?_⟩
  refine List.forall_mem_cons.mpr ⟨zo_none_tl, ?_⟩
  refine List.forall_mem_cons.mpr ⟨zo_none_tl, ?_⟩
  refine List.forall_mem_cons.mpr ⟨(zo_aload_tl _ _), ?_⟩
  refine List.forall_mem_cons.mpr ⟨(zo_aload_tl _ _), ?_⟩
  refine List.forall_mem_cons.mpr ⟨(zo_aload_tl _ _), ?_⟩
  refine List.forall_mem_cons.mpr ⟨(zo_getf_tl _ _ _), ?_⟩
  refine List.forall_mem_cons.mpr ⟨zo_none_tl, ?_⟩
  refine List.forall_mem_cons.mpr ⟨zo_none_tl, ?_⟩
  refine List.forall_mem_cons.mpr ⟨(zo_iload_tl _ _), ?_⟩
  refine List.forall_mem_cons.mpr ⟨(zo_iald_tl _ _ _), ?_⟩
  refine List.forall_mem_cons.mpr ⟨(zo_iload_tl _ _), ?_⟩
  refine List.forall_mem_cons.mpr ⟨(zo_callv_tl _ _ _ _), ?_⟩
  refine List.forall_mem_cons.mpr ⟨zo_none_tl, ?_⟩
  refine List.forall_mem_cons.mpr ⟨zo_none_tl, ?_⟩
  refine List.forall_mem_cons.mpr ⟨(zo_if_tl _ _ _), ?_⟩
  refine List.forall_mem_cons.mpr ⟨zo_none_tl, ?_⟩
  refine List.forall_mem_cons.mpr ⟨zo_none_tl, ?_⟩
  refine List.forall_mem_cons.mpr ⟨(zo_pushI_tl _ _), ?_⟩
  refine List.forall_mem_cons.mpr ⟨(zo_goto_tl _), ?_⟩
  refine List.forall_mem_cons.mpr ⟨zo_none_tl, ?_⟩
  refine List.forall_mem_cons.mpr ⟨zo_none_tl, ?_⟩
  refine List.forall_mem_cons.mpr ⟨(zo_pushI_tl _ _), ?_⟩
  refine List.forall_mem_cons.mpr ⟨(zo_callv_tl _ _ _ _), ?_⟩
  refine List.forall_mem_cons.mpr ⟨zo_none_tl, ?_⟩
  refine List.forall_mem_cons.mpr ⟨zo_none_tl, ?_⟩
  refine List.forall_mem_cons.mpr ⟨(zo_if_tl _ _ _), ?_⟩
  refine List.forall_mem_cons.mpr ⟨zo_none_tl, ?_⟩
  refine List.forall_mem_cons.mpr ⟨zo_none_tl, ?_⟩
  refine List.forall_mem_cons.mpr ⟨(zo_pushI_tl _ _), ?_⟩
  refine List.forall_mem_cons.mpr ⟨(zo_iret_tl _), ?_⟩
  refine List.forall_mem_cons.mpr ⟨(zo_aload_tl _ _), ?_⟩
  refine List.forall_mem_cons.mpr ⟨(zo_getf_tl _ _ _), ?_⟩
  refine List.forall_mem_cons.mpr ⟨zo_none_tl, ?_⟩
  refine List.forall_mem_cons.mpr ⟨zo_none_tl, ?_⟩
  refine List.forall_mem_cons.mpr ⟨(zo_pushI_tl _ _), ?_⟩
  refine List.forall_mem_cons.mpr ⟨zo_none_tl, ?_⟩
  refine List.forall_mem_cons.mpr ⟨(zo_iload_tl _ _), ?_⟩
  refine List.forall_mem_cons.mpr ⟨(zo_ii_tl _ _), ?_⟩
  refine List.forall_mem_cons.mpr ⟨(zo_iload_tl _ _), ?_⟩
  refine List.forall_mem_cons.mpr ⟨(zo_ii_tl _ _), ?_⟩
  refine List.forall_mem_cons.mpr ⟨(zo_zald_tl _ _), ?_⟩
  refine List.forall_mem_cons.mpr ⟨(zo_if_tl _ _ _), ?_⟩
  refine List.forall_mem_cons.mpr ⟨zo_none_tl, ?_⟩
  refine List.forall_mem_cons.mpr ⟨zo_none_tl, ?_⟩
  refine List.forall_mem_cons.mpr ⟨(zo_aload_tl _ _), ?_⟩
  refine List.forall_mem_cons.mpr ⟨(zo_aload_tl _ _), ?_⟩
  refine List.forall_mem_cons.mpr ⟨(zo_getf_tl _ _ _), ?_⟩
  refine List.forall_mem_cons.mpr ⟨zo_none_tl, ?_⟩
  refine List.forall_mem_cons.mpr ⟨zo_none_tl, ?_⟩
  refine List.forall_mem_cons.mpr ⟨(zo_pushI_tl _ _), ?_⟩
  refine List.forall_mem_cons.mpr ⟨zo_none_tl, ?_⟩
  refine List.forall_mem_cons.mpr ⟨(zo_iload_tl _ _), ?_⟩
  refine List.forall_mem_cons.mpr ⟨(zo_ii_tl _ _), ?_⟩
  refine List.forall_mem_cons.mpr ⟨(zo_iload_tl _ _), ?_⟩
  refine List.forall_mem_cons.mpr ⟨(zo_ii_tl _ _), ?_⟩
  refine List.forall_mem_cons.mpr ⟨(zo_lald_tl _ _), ?_⟩
  refine List.forall_mem_cons.mpr ⟨(zo_iload_tl _ _), ?_⟩
  refine List.forall_mem_cons.mpr ⟨(zo_callv_tl _ _ _ _), ?_⟩
  refine List.forall_mem_cons.mpr ⟨zo_none_tl, ?_⟩
  refine List.forall_mem_cons.mpr ⟨zo_none_tl, ?_⟩
  refine List.forall_mem_cons.mpr ⟨(zo_goto_tl _), ?_⟩
  refine List.forall_mem_cons.mpr ⟨zo_none_tl, ?_⟩
  refine List.forall_mem_cons.mpr ⟨zo_none_tl, ?_⟩
  refine List.forall_mem_cons.mpr ⟨(zo_pushI_tl _ _), ?_⟩
  refine List.forall_mem_cons.mpr ⟨(zo_iret_tl _), ?_⟩
  exact fun _ h => absurd h List.not_mem_nil
noncomputable def fX12_believed : zzFn := zz_fn tX12_believed 4
set_option maxRecDepth 100000 in
set_option maxHeartbeats 4000000 in
theorem mm_X12_believed {l : Launch} {D : va_G} {cA : Nat → ClassId} {ad : Nat → Nat} {Ex : (Nat → Prop) → State → Heap → Prop} (Wd : zzWR l D cA ad Ex) : zz_Cn l D zzCl cA ad zzSR Ex yX12_believed cX12_believed 4 (some .int) 3 63 fX12_believed ∧ zz_Cx l D zzCl cA ad zzSR Ex yX12_believed cX12_believed 4 (some .int) 3 63 fX12_believed := by
  refine zz_meth (plainFor_of_name (by decide)) Wd.1 Wd.2.1 Wd.2.2 (fun p e R s m args below meth c rr X => ?_)
  unfold tX12_believed
  refine zz_cons (k' := 1) rfl (zk_aload_n X dX12_believed_0 rfl rfl) ?_
  refine zz_cons (k' := 2) rfl (zk_iload_n X dX12_believed_1 rfl rfl) ?_
  refine zz_cons (k' := 3) rfl (zk_callv X (zz_Cv_of (List.forall_mem_cons.mpr ⟨⟨(RX_10, zzT10, 50), yX12_asks, cX12_asks, 2, (some .boolean), 2, 42, rfl, kv_X12_395_10.1, (mm_X12_asks Wd).1, by decide, by decide⟩, (fun _ h => absurd h List.not_mem_nil)⟩)) dX12_believed_2 rfl) ?_
  refine zz_cons (k' := 4) rfl (zz_Ok_none _ _) ?_
  refine zz_cons (k' := 5) rfl (zz_Ok_none _ _) ?_
  refine zz_cons (k' := 6) rfl (zk_if_eq X dX12_believed_5 (by decide) rfl) ?_
  refine zz_cons (k' := 7) rfl (zz_Ok_none _ _) ?_
  refine zz_cons (k' := 8) rfl (zz_Ok_none _ _) ?_
  refine zz_cons (k' := 9) rfl (zk_aload_n X dX12_believed_8 rfl rfl) ?_
  refine zz_cons (k' := 10) rfl (zk_aload_n X dX12_believed_9 rfl rfl) ?_
  refine zz_cons (k' := 11) rfl (zk_iload_n X dX12_believed_10 rfl rfl) ?_
  refine zz_cons (k' := 12) rfl (zk_callv X (zz_Cv_of (List.forall_mem_cons.mpr ⟨⟨(RX_10, zzT10, 50), yX12_isObject, cX12_isObject, 2, (some .boolean), 1, 22, rfl, kv_X12_377_10.1, (mm_X12_isObject Wd).1, by decide, by decide⟩, (fun _ h => absurd h List.not_mem_nil)⟩)) dX12_believed_11 rfl) ?_
  refine zz_cons (k' := 13) rfl (zz_Ok_none _ _) ?_
  refine zz_cons (k' := 14) rfl (zz_Ok_none _ _) ?_
  refine zz_cons (k' := 15) rfl (zk_if_eq X dX12_believed_14 (by decide) rfl) ?_
  refine zz_cons (k' := 16) rfl (zz_Ok_none _ _) ?_
  refine zz_cons (k' := 17) rfl (zz_Ok_none _ _) ?_
  refine zz_cons (k' := 18) rfl (zk_iconst X dX12_believed_17 (by decide) rfl) ?_
  refine zz_cons (k' := 19) rfl (zk_goto X dX12_believed_18 (by decide)) ?_
  refine zz_cons (k' := 20) rfl (zz_Ok_none _ _) ?_
  refine zz_cons (k' := 21) rfl (zz_Ok_none _ _) ?_
  refine zz_cons (k' := 22) rfl (zk_iconst X dX12_believed_21 (by decide) rfl) ?_
  refine zz_cons (k' := 23) rfl (zk_callv X (zz_Cv_of (List.forall_mem_cons.mpr ⟨⟨(RX_10, zzT10, 50), yX12_goes, cX12_goes, 2, (some .boolean), 0, 0, rfl, kv_X12_374_10.1, (mm_X12_goes Wd).1, by decide, by decide⟩, (fun _ h => absurd h List.not_mem_nil)⟩)) dX12_believed_22 rfl) ?_
  refine zz_cons (k' := 24) rfl (zz_Ok_none _ _) ?_
  refine zz_cons (k' := 25) rfl (zz_Ok_none _ _) ?_
  refine zz_cons (k' := 26) rfl (zk_if_eq X dX12_believed_25 (by decide) rfl) ?_
  refine zz_cons (k' := 27) rfl (zz_Ok_none _ _) ?_
  refine zz_cons (k' := 28) rfl (zz_Ok_none _ _) ?_
  refine zz_cons (k' := 29) rfl (zk_aload_n X dX12_believed_28 rfl rfl) ?_
  refine zz_cons (k' := 30) rfl (zk_aload_n X dX12_believed_29 rfl rfl) ?_
  refine zz_cons (k' := 31) rfl (zk_aload_n X dX12_believed_30 rfl rfl) ?_
  refine zz_cons (k' := 32) rfl (zk_getf X ff_X12_25 dX12_believed_31 rfl) ?_
  refine zz_cons (k' := 33) rfl (zz_Ok_none _ _) ?_
  refine zz_cons (k' := 34) rfl (zz_Ok_none _ _) ?_
  refine zz_cons (k' := 35) rfl (zk_iload_n X dX12_believed_34 rfl rfl) ?_
  refine zz_cons (k' := 36) rfl (zk_iald X (zzWR_st Wd) dX12_believed_35 rfl) ?_
  refine zz_cons (k' := 37) rfl (zk_iload_n X dX12_believed_36 rfl rfl) ?_
  refine zz_cons (k' := 38) rfl (zk_callv X (zz_Cv_of (List.forall_mem_cons.mpr ⟨⟨(RX_10, zzT10, 50), yX12_hasField, cX12_hasField, 3, (some .boolean), 1, 22, rfl, kv_X12_380_10.1, (mm_X12_hasField Wd).1, by decide, by decide⟩, (fun _ h => absurd h List.not_mem_nil)⟩)) dX12_believed_37 rfl) ?_
  refine zz_cons (k' := 39) rfl (zz_Ok_none _ _) ?_
  refine zz_cons (k' := 40) rfl (zz_Ok_none _ _) ?_
  refine zz_cons (k' := 41) rfl (zk_if_eq X dX12_believed_40 (by decide) rfl) ?_
  refine zz_cons (k' := 42) rfl (zz_Ok_none _ _) ?_
  refine zz_cons (k' := 43) rfl (zz_Ok_none _ _) ?_
  refine zz_cons (k' := 44) rfl (zk_iconst X dX12_believed_43 (by decide) rfl) ?_
  refine zz_cons (k' := 45) rfl (zk_goto X dX12_believed_44 (by decide)) ?_
  refine zz_cons (k' := 46) rfl (zz_Ok_none _ _) ?_
  refine zz_cons (k' := 47) rfl (zz_Ok_none _ _) ?_
  refine zz_cons (k' := 48) rfl (zk_iconst X dX12_believed_47 (by decide) rfl) ?_
  refine zz_cons (k' := 49) rfl (zk_callv X (zz_Cv_of (List.forall_mem_cons.mpr ⟨⟨(RX_10, zzT10, 50), yX12_goes, cX12_goes, 2, (some .boolean), 0, 0, rfl, kv_X12_374_10.1, (mm_X12_goes Wd).1, by decide, by decide⟩, (fun _ h => absurd h List.not_mem_nil)⟩)) dX12_believed_48 rfl) ?_
  refine zz_cons (k' := 50) rfl (zz_Ok_none _ _) ?_
  refine zz_cons (k' := 51) rfl (zz_Ok_none _ _) ?_
  refine zz_cons (k' := 52) rfl (zk_if_ne X dX12_believed_51 (by decide) rfl) ?_
  refine zz_cons (k' := 53) rfl (zz_Ok_none _ _) ?_
  refine zz_cons (k' := 54) rfl (zz_Ok_none _ _) ?_
  refine zz_cons (k' := 55) rfl (zk_iconst X dX12_believed_54 (by decide) rfl) ?_
  refine zz_cons (k' := 56) rfl (zk_iret X rfl dX12_believed_55) ?_
  refine zz_cons (k' := 57) rfl (zk_aload_n X dX12_believed_56 rfl rfl) ?_
  refine zz_cons (k' := 58) rfl (zk_getf X ff_X12_93 dX12_believed_57 rfl) ?_
  refine zz_cons (k' := 59) rfl (zz_Ok_none _ _) ?_
  refine zz_cons (k' := 60) rfl (zz_Ok_none _ _) ?_
  refine zz_cons (k' := 61) rfl (zk_bipush X dX12_believed_60 (by decide) rfl) ?_
  refine zz_cons (k' := 62) rfl (zz_Ok_none _ _) ?_
  refine zz_cons (k' := 63) rfl (zk_iload_n X dX12_believed_62 rfl rfl) ?_
  refine zz_cons (k' := 64) rfl (zk_imul X dX12_believed_63 rfl) ?_
  refine zz_cons (k' := 65) rfl (zk_iload_n X dX12_believed_64 rfl rfl) ?_
  refine zz_cons (k' := 66) rfl (zk_iadd X dX12_believed_65 rfl) ?_
  refine zz_cons (k' := 67) rfl (zk_zald X dX12_believed_66 rfl) ?_
  refine zz_cons (k' := 68) rfl (zk_if_eq X dX12_believed_67 (by decide) rfl) ?_
  refine zz_cons (k' := 69) rfl (zz_Ok_none _ _) ?_
  refine zz_cons (k' := 70) rfl (zz_Ok_none _ _) ?_
  refine zz_cons (k' := 71) rfl (zk_aload_n X dX12_believed_70 rfl rfl) ?_
  refine zz_cons (k' := 72) rfl (zk_aload_n X dX12_believed_71 rfl rfl) ?_
  refine zz_cons (k' := 73) rfl (zk_getf X ff_X12_97 dX12_believed_72 rfl) ?_
  refine zz_cons (k' := 74) rfl (zz_Ok_none _ _) ?_
  refine zz_cons (k' := 75) rfl (zz_Ok_none _ _) ?_
  refine zz_cons (k' := 76) rfl (zk_bipush X dX12_believed_75 (by decide) rfl) ?_
  refine zz_cons (k' := 77) rfl (zz_Ok_none _ _) ?_
  refine zz_cons (k' := 78) rfl (zk_iload_n X dX12_believed_77 rfl rfl) ?_
  refine zz_cons (k' := 79) rfl (zk_imul X dX12_believed_78 rfl) ?_
  refine zz_cons (k' := 80) rfl (zk_iload_n X dX12_believed_79 rfl rfl) ?_
  refine zz_cons (k' := 81) rfl (zk_iadd X dX12_believed_80 rfl) ?_
  refine zz_cons (k' := 82) rfl (zk_lald X dX12_believed_81 rfl) ?_
  refine zz_cons (k' := 83) rfl (zk_iload_n X dX12_believed_82 rfl rfl) ?_
  refine zz_cons (k' := 84) rfl (zk_callv X (zz_Cv_of (List.forall_mem_cons.mpr ⟨⟨(RX_10, zzT10, 50), yX12_get, cX12_get, 4, (some .int), 0, 0, rfl, kv_X12_146_10.1, (mm_X12_get Wd).1, by decide, by decide⟩, (fun _ h => absurd h List.not_mem_nil)⟩)) dX12_believed_83 rfl) ?_
  refine zz_cons (k' := 85) rfl (zz_Ok_none _ _) ?_
  refine zz_cons (k' := 86) rfl (zz_Ok_none _ _) ?_
  refine zz_cons (k' := 87) rfl (zk_goto X dX12_believed_86 (by decide)) ?_
  refine zz_cons (k' := 88) rfl (zz_Ok_none _ _) ?_
  refine zz_cons (k' := 89) rfl (zz_Ok_none _ _) ?_
  refine zz_cons (k' := 90) rfl (zk_iconst X dX12_believed_89 (by decide) rfl) ?_
  refine zz_cons (k' := 91) rfl (zk_iret X rfl dX12_believed_90) ?_
  exact trivial
noncomputable def tX12_isSettled : List zzOp := [
  zo_aload 0 1,
  zo_pushI 0 2,
  zo_putf zzSR (zz_kf [10] 49) false 5,
  zo_none,
  zo_none,
  zo_pushI 1 6,
  zo_istore 1 7,
  zo_pushI 0 8,
  zo_istore 2 9,
  zo_iload 2 10,
  zo_pushI 8 12,
  zo_none,
  zo_icmp (fun x y => decide (y ≤ x)) 53 15,
  zo_none,
  zo_none,
  zo_iload 1 16,
  zo_if (fun x => decide (x = 0)) 45 19,
  zo_none,
  zo_none,
  zo_aload 0 20,
  zo_getf zzSR (zz_kf [10] 32) 23,
  zo_none,
  zo_none,
  zo_iload 2 24,
  zo_iald zzSR zzSTR 25,
  zo_aload 0 26,
  zo_getf zzSR (zz_kf [10] 14) 29,
  zo_none,
  zo_none,
  zo_icmp (fun x y => decide (¬ x = y)) 45 32,
  zo_none,
  zo_none,
  zo_aload 0 33,
  zo_getf zzSR (zz_kf [10] 37) 36,
  zo_none,
  zo_none,
  zo_iload 2 37,
  zo_iald zzSR zzSTR 38,
  zo_if (fun x => decide (¬ x = 0)) 45 41,
  zo_none,
  zo_none,
  zo_pushI 1 42,
  zo_goto 46,
  zo_none,
  zo_none,
  zo_pushI 0 46,
  zo_istore 1 47,
  zo_iinc 2 1 50,
  zo_none,
  zo_none,
  zo_goto 9,
  zo_none,
  zo_none,
  zo_iload 1 54,
  zo_iret true]
set_option maxRecDepth 100000 in
theorem tl_X12_isSettled : ∀ pc, zz_Tl (tX12_isSettled.getD pc zo_none) := by
  refine zz_Tl_mem ?_
  unfold tX12_isSettled
  refine List.forall_mem_cons.mpr ⟨(zo_aload_tl _ _), ?_⟩
  refine List.forall_mem_cons.mpr ⟨(zo_pushI_tl _ _), ?_⟩
  refine List.forall_mem_cons.mpr ⟨(zo_putf_tl _ _ _ _), ?_⟩
  refine List.forall_mem_cons.mpr ⟨zo_none_tl, ?_⟩
  refine List.forall_mem_cons.mpr ⟨zo_none_tl, ?_⟩
  refine List.forall_mem_cons.mpr ⟨(zo_pushI_tl _ _), ?_⟩
  refine List.forall_mem_cons.mpr ⟨(zo_istore_tl _ _), ?_⟩
  refine List.forall_mem_cons.mpr ⟨(zo_pushI_tl _ _), ?_⟩
  refine List.forall_mem_cons.mpr ⟨(zo_istore_tl _ _), ?_⟩
  refine List.forall_mem_cons.mpr ⟨(zo_iload_tl _ _), ?_⟩
  refine List.forall_mem_cons.mpr ⟨(zo_pushI_tl _ _), ?_⟩
  refine List.forall_mem_cons.mpr ⟨zo_none_tl, ?_⟩
  refine List.forall_mem_cons.mpr ⟨(zo_icmp_tl _ _ _), ?_⟩
  refine List.forall_mem_cons.mpr ⟨zo_none_tl, ?_⟩
  refine List.forall_mem_cons.mpr ⟨zo_none_tl, ?_⟩
  refine List.forall_mem_cons.mpr ⟨(zo_iload_tl _ _), ?_⟩
  refine List.forall_mem_cons.mpr ⟨(zo_if_tl _ _ _), ?_⟩
  refine List.forall_mem_cons.mpr ⟨zo_none_tl, ?_⟩
  refine List.forall_mem_cons.mpr ⟨zo_none_tl, ?_⟩
  refine List.forall_mem_cons.mpr ⟨(zo_aload_tl _ _), ?_⟩
  refine List.forall_mem_cons.mpr ⟨(zo_getf_tl _ _ _), ?_⟩
  refine List.forall_mem_cons.mpr ⟨zo_none_tl, ?_⟩
  refine List.forall_mem_cons.mpr ⟨zo_none_tl, ?_⟩
  refine List.forall_mem_cons.mpr ⟨(zo_iload_tl _ _), ?_⟩
  refine List.forall_mem_cons.mpr ⟨(zo_iald_tl _ _ _), ?_⟩
  refine List.forall_mem_cons.mpr ⟨(zo_aload_tl _ _), ?_⟩
  refine List.forall_mem_cons.mpr ⟨(zo_getf_tl _ _ _), ?_⟩
  refine List.forall_mem_cons.mpr ⟨zo_none_tl, ?_⟩
  refine List.forall_mem_cons.mpr ⟨zo_none_tl, ?_⟩
  refine List.forall_mem_cons.mpr ⟨(zo_icmp_tl _ _ _), ?_⟩
  refine List.forall_mem_cons.mpr ⟨zo_none_tl, ?_⟩
  refine List.forall_mem_cons.mpr ⟨zo_none_tl, ?_⟩
  refine List.forall_mem_cons.mpr ⟨(zo_aload_tl _ _), ?_⟩
  refine List.forall_mem_cons.mpr ⟨(zo_getf_tl _ _ _), ?_⟩
  refine List.forall_mem_cons.mpr ⟨zo_none_tl, ?_⟩
  refine List.forall_mem_cons.mpr ⟨zo_none_tl, ?_⟩
  refine List.forall_mem_cons.mpr ⟨(zo_iload_tl _ _), ?_⟩
  refine List.forall_mem_cons.mpr ⟨(zo_iald_tl _ _ _), ?_⟩
  refine List.forall_mem_cons.mpr ⟨(zo_if_tl _ _ _), ?_⟩
  refine List.forall_mem_cons.mpr ⟨zo_none_tl, ?_⟩
  refine List.forall_mem_cons.mpr ⟨zo_none_tl, ?_⟩
  refine List.forall_mem_cons.mpr ⟨(zo_pushI_tl _ _), ?_⟩
  refine List.forall_mem_cons.mpr ⟨(zo_goto_tl _), ?_⟩
  refine List.forall_mem_cons.mpr ⟨zo_none_tl, ?_⟩
  refine List.forall_mem_cons.mpr ⟨zo_none_tl, ?_⟩
  refine List.forall_mem_cons.mpr ⟨(zo_pushI_tl _ _), ?_⟩
  refine List.forall_mem_cons.mpr ⟨(zo_istore_tl _ _), ?_⟩
  refine List.forall_mem_cons.mpr ⟨(zo_iinc_tl _ _ _), ?_⟩
  refine List.forall_mem_cons.mpr ⟨zo_none_tl, ?_⟩
  refine List.forall_mem_cons.mpr ⟨zo_none_tl, ?_⟩
  refine List.forall_mem_cons.mpr ⟨(zo_goto_tl _), ?_⟩
  refine List.forall_mem_cons.mpr ⟨zo_none_tl, ?_⟩
  refine List.forall_mem_cons.mpr ⟨zo_none_tl, ?_⟩
  refine List.forall_mem_cons.mpr ⟨(zo_iload_tl _ _), ?_⟩
  refine List.forall_mem_cons.mpr ⟨(zo_iret_tl _), ?_⟩
  exact fun _ h => absurd h List.not_mem_nil
noncomputable def fX12_isSettled : zzFn := zz_fn tX12_isSettled 3
set_option maxRecDepth 100000 in
set_option maxHeartbeats 4000000 in
theorem mm_X12_isSettled {l : Launch} {D : va_G} {cA : Nat → ClassId} {ad : Nat → Nat} {Ex : (Nat → Prop) → State → Heap → Prop} (Wd : zzWR l D cA ad Ex) : zz_Cn l D zzCl cA ad zzSR Ex yX12_isSettled cX12_isSettled 3 (some .boolean) 0 0 fX12_isSettled ∧ zz_Cx l D zzCl cA ad zzSR Ex yX12_isSettled cX12_isSettled 3 (some .boolean) 0 0 fX12_isSettled := by
  refine zz_meth (plainFor_of_name (by decide)) Wd.1 Wd.2.1 Wd.2.2 (fun p e R s m args below meth c rr X => ?_)
  unfold tX12_isSettled
  refine zz_cons (k' := 1) rfl (zk_aload_n X dX12_isSettled_0 rfl rfl) ?_
  refine zz_cons (k' := 2) rfl (zk_iconst X dX12_isSettled_1 (by decide) rfl) ?_
  refine zz_cons (k' := 3) rfl (zk_putf X ff_X12_134 fp_10_49 dX12_isSettled_2 rfl) ?_
  refine zz_cons (k' := 4) rfl (zz_Ok_none _ _) ?_
  refine zz_cons (k' := 5) rfl (zz_Ok_none _ _) ?_
  refine zz_cons (k' := 6) rfl (zk_iconst X dX12_isSettled_5 (by decide) rfl) ?_
  refine zz_cons (k' := 7) rfl (zk_istore_n X dX12_isSettled_6 rfl (by decide) rfl) ?_
  refine zz_cons (k' := 8) rfl (zk_iconst X dX12_isSettled_7 (by decide) rfl) ?_
  refine zz_cons (k' := 9) rfl (zk_istore_n X dX12_isSettled_8 rfl (by decide) rfl) ?_
  refine zz_cons (k' := 10) rfl (zk_iload_n X dX12_isSettled_9 rfl rfl) ?_
  refine zz_cons (k' := 11) rfl (zk_bipush X dX12_isSettled_10 (by decide) rfl) ?_
  refine zz_cons (k' := 12) rfl (zz_Ok_none _ _) ?_
  refine zz_cons (k' := 13) rfl (zk_icmp_ge X dX12_isSettled_12 (by decide) rfl) ?_
  refine zz_cons (k' := 14) rfl (zz_Ok_none _ _) ?_
  refine zz_cons (k' := 15) rfl (zz_Ok_none _ _) ?_
  refine zz_cons (k' := 16) rfl (zk_iload_n X dX12_isSettled_15 rfl rfl) ?_
  refine zz_cons (k' := 17) rfl (zk_if_eq X dX12_isSettled_16 (by decide) rfl) ?_
  refine zz_cons (k' := 18) rfl (zz_Ok_none _ _) ?_
  refine zz_cons (k' := 19) rfl (zz_Ok_none _ _) ?_
  refine zz_cons (k' := 20) rfl (zk_aload_n X dX12_isSettled_19 rfl rfl) ?_
  refine zz_cons (k' := 21) rfl (zk_getf X ff_X12_90 dX12_isSettled_20 rfl) ?_
  refine zz_cons (k' := 22) rfl (zz_Ok_none _ _) ?_
  refine zz_cons (k' := 23) rfl (zz_Ok_none _ _) ?_
  refine zz_cons (k' := 24) rfl (zk_iload_n X dX12_isSettled_23 rfl rfl) ?_
  refine zz_cons (k' := 25) rfl (zk_iald X (zzWR_st Wd) dX12_isSettled_24 rfl) ?_
  refine zz_cons (k' := 26) rfl (zk_aload_n X dX12_isSettled_25 rfl rfl) ?_
  refine zz_cons (k' := 27) rfl (zk_getf X ff_X12_154 dX12_isSettled_26 rfl) ?_
  refine zz_cons (k' := 28) rfl (zz_Ok_none _ _) ?_
  refine zz_cons (k' := 29) rfl (zz_Ok_none _ _) ?_
  refine zz_cons (k' := 30) rfl (zk_icmp_ne X dX12_isSettled_29 (by decide) rfl) ?_
  refine zz_cons (k' := 31) rfl (zz_Ok_none _ _) ?_
  refine zz_cons (k' := 32) rfl (zz_Ok_none _ _) ?_
  refine zz_cons (k' := 33) rfl (zk_aload_n X dX12_isSettled_32 rfl rfl) ?_
  refine zz_cons (k' := 34) rfl (zk_getf X ff_X12_106 dX12_isSettled_33 rfl) ?_
  refine zz_cons (k' := 35) rfl (zz_Ok_none _ _) ?_
  refine zz_cons (k' := 36) rfl (zz_Ok_none _ _) ?_
  refine zz_cons (k' := 37) rfl (zk_iload_n X dX12_isSettled_36 rfl rfl) ?_
  refine zz_cons (k' := 38) rfl (zk_iald X (zzWR_st Wd) dX12_isSettled_37 rfl) ?_
  refine zz_cons (k' := 39) rfl (zk_if_ne X dX12_isSettled_38 (by decide) rfl) ?_
  refine zz_cons (k' := 40) rfl (zz_Ok_none _ _) ?_
  refine zz_cons (k' := 41) rfl (zz_Ok_none _ _) ?_
  refine zz_cons (k' := 42) rfl (zk_iconst X dX12_isSettled_41 (by decide) rfl) ?_
  refine zz_cons (k' := 43) rfl (zk_goto X dX12_isSettled_42 (by decide)) ?_
  refine zz_cons (k' := 44) rfl (zz_Ok_none _ _) ?_
  refine zz_cons (k' := 45) rfl (zz_Ok_none _ _) ?_
  refine zz_cons (k' := 46) rfl (zk_iconst X dX12_isSettled_45 (by decide) rfl) ?_
  refine zz_cons (k' := 47) rfl (zk_istore_n X dX12_isSettled_46 rfl (by decide) rfl) ?_
  refine zz_cons (k' := 48) rfl (zk_iinc X dX12_isSettled_47 (by decide) (by decide) rfl) ?_
  refine zz_cons (k' := 49) rfl (zz_Ok_none _ _) ?_
  refine zz_cons (k' := 50) rfl (zz_Ok_none _ _) ?_
  refine zz_cons (k' := 51) rfl (zk_goto X dX12_isSettled_50 (by decide)) ?_
  refine zz_cons (k' := 52) rfl (zz_Ok_none _ _) ?_
  refine zz_cons (k' := 53) rfl (zz_Ok_none _ _) ?_
  refine zz_cons (k' := 54) rfl (zk_iload_n X dX12_isSettled_53 rfl rfl) ?_
  refine zz_cons (k' := 55) rfl (zk_iret X rfl dX12_isSettled_54) ?_
  exact trivial
noncomputable def tX12_isReader : List zzOp := [
  zo_iload 0 1,
  zo_pushI 0 2,
  zo_pushI 3 3,
  zo_calls fX12_isIn 3 6,
  zo_none,
  zo_none,
  zo_iret true]
set_option maxRecDepth 100000 in
theorem tl_X12_isReader : ∀ pc, zz_Tl (tX12_isReader.getD pc zo_none) := by
  refine zz_Tl_mem ?_
  unfold tX12_isReader
  refine List.forall_mem_cons.mpr ⟨(zo_iload_tl _ _), ?_⟩
  refine List.forall_mem_cons.mpr ⟨(zo_pushI_tl _ _), ?_⟩
  refine List.forall_mem_cons.mpr ⟨(zo_pushI_tl _ _), ?_⟩
  refine List.forall_mem_cons.mpr ⟨(zo_calls_tl _ _ _), ?_⟩
  refine List.forall_mem_cons.mpr ⟨zo_none_tl, ?_⟩
  refine List.forall_mem_cons.mpr ⟨zo_none_tl, ?_⟩
  refine List.forall_mem_cons.mpr ⟨(zo_iret_tl _), ?_⟩
  exact fun _ h => absurd h List.not_mem_nil
noncomputable def fX12_isReader : zzFn := zz_fn tX12_isReader 1
set_option maxRecDepth 100000 in
set_option maxHeartbeats 4000000 in
theorem mm_X12_isReader {l : Launch} {D : va_G} {cA : Nat → ClassId} {ad : Nat → Nat} {Ex : (Nat → Prop) → State → Heap → Prop} (Wd : zzWR l D cA ad Ex) : zz_Cn l D zzCl cA ad zzSR Ex yX12_isReader cX12_isReader 1 (some .boolean) 1 22 fX12_isReader ∧ zz_Cx l D zzCl cA ad zzSR Ex yX12_isReader cX12_isReader 1 (some .boolean) 1 22 fX12_isReader := by
  refine zz_meth (plainFor_of_name (by decide)) Wd.1 Wd.2.1 Wd.2.2 (fun p e R s m args below meth c rr X => ?_)
  unfold tX12_isReader
  refine zz_cons (k' := 1) rfl (zk_iload_n X dX12_isReader_0 rfl rfl) ?_
  refine zz_cons (k' := 2) rfl (zk_iconst X dX12_isReader_1 (by decide) rfl) ?_
  refine zz_cons (k' := 3) rfl (zk_iconst X dX12_isReader_2 (by decide) rfl) ?_
  refine zz_cons (k' := 4) rfl (zk_calls X ks_X12_140 (mm_X12_isIn Wd).1 (by decide) dX12_isReader_3 rfl) ?_
  refine zz_cons (k' := 5) rfl (zz_Ok_none _ _) ?_
  refine zz_cons (k' := 6) rfl (zz_Ok_none _ _) ?_
  refine zz_cons (k' := 7) rfl (zk_iret X rfl dX12_isReader_6) ?_
  exact trivial
noncomputable def tX12_watch : List zzOp := [
  zo_aload 0 1,
  zo_iload 1 2,
  zo_calls fX12_isReader 1 5,
  zo_none,
  zo_none,
  zo_if (fun x => decide (x = 0)) 20 8,
  zo_none,
  zo_none,
  zo_iload 2 9,
  zo_pushI 0 10,
  zo_aload 0 11,
  zo_getf zzSR (zz_kf [10] 14) 14,
  zo_none,
  zo_none,
  zo_calls fX12_isIn 3 17,
  zo_none,
  zo_none,
  zo_if (fun x => decide (¬ x = 0)) 24 20,
  zo_none,
  zo_none,
  zo_pushI 1 21,
  zo_goto 37,
  zo_none,
  zo_none,
  zo_iload 2 25,
  zo_aload 0 26,
  zo_getf zzSR (zz_kf [10] 15) 29,
  zo_none,
  zo_none,
  zo_icmp (fun x y => decide (y ≤ x)) 36 32,
  zo_none,
  zo_none,
  zo_pushI 2 33,
  zo_goto 37,
  zo_none,
  zo_none,
  zo_pushI 0 37,
  zo_callv zzSR (zz_cl [(10, fX12_goes)]) 1 40,
  zo_none,
  zo_none,
  zo_if (fun x => decide (¬ x = 0)) 45 43,
  zo_none,
  zo_none,
  zo_pushI 0 44,
  zo_iret false,
  zo_aload 0 46,
  zo_getf zzSR (zz_kf [10] 46) 49,
  zo_none,
  zo_none,
  zo_iload 1 50,
  zo_iload 2 51,
  zo_iast zzSR 52,
  zo_aload 0 53,
  zo_getf zzSR (zz_kf [10] 14) 56,
  zo_none,
  zo_none,
  zo_iload 2 57,
  zo_ii (fun x y => x - y) 58,
  zo_iret false]
set_option maxRecDepth 100000 in
theorem tl_X12_watch : ∀ pc, zz_Tl (tX12_watch.getD pc zo_none) := by
  refine zz_Tl_mem ?_
  unfold tX12_watch
  refine List.forall_mem_cons.mpr ⟨(zo_aload_tl _ _), ?_⟩
  refine List.forall_mem_cons.mpr ⟨(zo_iload_tl _ _), ?_⟩
  refine List.forall_mem_cons.mpr ⟨(zo_calls_tl _ _ _), ?_⟩
  refine List.forall_mem_cons.mpr ⟨zo_none_tl, ?_⟩
  refine List.forall_mem_cons.mpr ⟨zo_none_tl, ?_⟩
  refine List.forall_mem_cons.mpr ⟨(zo_if_tl _ _ _), ?_⟩
  refine List.forall_mem_cons.mpr ⟨zo_none_tl, ?_⟩
  refine List.forall_mem_cons.mpr ⟨zo_none_tl, ?_⟩
  refine List.forall_mem_cons.mpr ⟨(zo_iload_tl _ _), ?_⟩
  refine List.forall_mem_cons.mpr ⟨(zo_pushI_tl _ _), ?_⟩
  refine List.forall_mem_cons.mpr ⟨(zo_aload_tl _ _), ?_⟩
  refine List.forall_mem_cons.mpr ⟨(zo_getf_tl _ _ _), ?_⟩
  refine List.forall_mem_cons.mpr ⟨zo_none_tl, ?_⟩
  refine List.forall_mem_cons.mpr ⟨zo_none_tl, ?_⟩
  refine List.forall_mem_cons.mpr ⟨(zo_calls_tl _ _ _), ?_⟩
  refine List.forall_mem_cons.mpr ⟨zo_none_tl, ?_⟩
  refine List.forall_mem_cons.mpr ⟨zo_none_tl, ?_⟩
  refine List.forall_mem_cons.mpr ⟨(zo_if_tl _ _ _), ?_⟩
  refine List.forall_mem_cons.mpr ⟨zo_none_tl, ?_⟩
  refine List.forall_mem_cons.mpr ⟨zo_none_tl, ?_⟩
  refine List.forall_mem_cons.mpr ⟨(zo_pushI_tl _ _), ?_⟩
  refine List.forall_mem_cons.mpr ⟨(zo_goto_tl _), ?_⟩
  refine List.forall_mem_cons.mpr ⟨zo_none_tl, ?_⟩
  refine List.forall_mem_cons.mpr ⟨zo_none_tl, ?_⟩
  refine List.forall_mem_cons.mpr ⟨(zo_iload_tl _ _), ?_⟩
  refine List.forall_mem_cons.mpr ⟨(zo_aload_tl _ _), ?_⟩
  refine List.forall_mem_cons.mpr ⟨(zo_getf_tl _ _ _), ?_⟩
  refine List.forall_mem_cons.mpr ⟨zo_none_tl, ?_⟩
  refine List.forall_mem_cons.mpr ⟨zo_none_tl, ?_⟩
  refine List.forall_mem_cons.mpr ⟨(zo_icmp_tl _ _ _), ?_⟩
  refine List.forall_mem_cons.mpr ⟨zo_none_tl, ?_⟩
  refine List.forall_mem_cons.mpr ⟨zo_none_tl, ?_⟩
  refine List.forall_mem_cons.mpr ⟨(zo_pushI_tl _ _), ?_⟩
  refine List.forall_mem_cons.mpr ⟨(zo_goto_tl _), ?_⟩
  refine List.forall_mem_cons.mpr ⟨zo_none_tl, ?_⟩
  refine List.forall_mem_cons.mpr ⟨zo_none_tl, ?_⟩
  refine List.forall_mem_cons.mpr ⟨(zo_pushI_tl _ _), ?_⟩
  refine List.forall_mem_cons.mpr ⟨(zo_callv_tl _ _ _ _), ?_⟩
  refine List.forall_mem_cons.mpr ⟨zo_none_tl, ?_⟩
  refine List.forall_mem_cons.mpr ⟨zo_none_tl, ?_⟩
  refine List.forall_mem_cons.mpr ⟨(zo_if_tl _ _ _), ?_⟩
  refine List.forall_mem_cons.mpr ⟨zo_none_tl, ?_⟩
  refine List.forall_mem_cons.mpr ⟨zo_none_tl, ?_⟩
  refine List.forall_mem_cons.mpr ⟨(zo_pushI_tl _ _), ?_⟩
  refine List.forall_mem_cons.mpr ⟨(zo_iret_tl _), ?_⟩
  refine List.forall_mem_cons.mpr ⟨(zo_aload_tl _ _), ?_⟩
  refine List.forall_mem_cons.mpr ⟨(zo_getf_tl _ _ _), ?_⟩
  refine List.forall_mem_cons.mpr ⟨zo_none_tl, ?_⟩
  refine List.forall_mem_cons.mpr ⟨zo_none_tl, ?_⟩
  refine List.forall_mem_cons.mpr ⟨(zo_iload_tl _ _), ?_⟩
  refine List.forall_mem_cons.mpr ⟨(zo_iload_tl _ _), ?_⟩
  refine List.forall_mem_cons.mpr ⟨(zo_iast_tl _ _), ?_⟩
  refine List.forall_mem_cons.mpr ⟨(zo_aload_tl _ _), ?_⟩
  refine List.forall_mem_cons.mpr ⟨(zo_getf_tl _ _ _), ?_⟩
  refine List.forall_mem_cons.mpr ⟨zo_none_tl, ?_⟩
  refine List.forall_mem_cons.mpr ⟨zo_none_tl, ?_⟩
  refine List.forall_mem_cons.mpr ⟨(zo_iload_tl _ _), ?_⟩
  refine List.forall_mem_cons.mpr ⟨(zo_ii_tl _ _), ?_⟩
  refine List.forall_mem_cons.mpr ⟨(zo_iret_tl _), ?_⟩
  exact fun _ h => absurd h List.not_mem_nil
noncomputable def fX12_watch : zzFn := zz_fn tX12_watch 3
set_option maxRecDepth 100000 in
set_option maxHeartbeats 4000000 in
theorem mm_X12_watch {l : Launch} {D : va_G} {cA : Nat → ClassId} {ad : Nat → Nat} {Ex : (Nat → Prop) → State → Heap → Prop} (Wd : zzWR l D cA ad Ex) : zz_Cn l D zzCl cA ad zzSR Ex yX12_watch cX12_watch 3 (some .int) 2 42 fX12_watch ∧ zz_Cx l D zzCl cA ad zzSR Ex yX12_watch cX12_watch 3 (some .int) 2 42 fX12_watch := by
  refine zz_meth (plainFor_of_name (by decide)) Wd.1 Wd.2.1 Wd.2.2 (fun p e R s m args below meth c rr X => ?_)
  unfold tX12_watch
  refine zz_cons (k' := 1) rfl (zk_aload_n X dX12_watch_0 rfl rfl) ?_
  refine zz_cons (k' := 2) rfl (zk_iload_n X dX12_watch_1 rfl rfl) ?_
  refine zz_cons (k' := 3) rfl (zk_calls X ks_X12_401 (mm_X12_isReader Wd).1 (by decide) dX12_watch_2 rfl) ?_
  refine zz_cons (k' := 4) rfl (zz_Ok_none _ _) ?_
  refine zz_cons (k' := 5) rfl (zz_Ok_none _ _) ?_
  refine zz_cons (k' := 6) rfl (zk_if_eq X dX12_watch_5 (by decide) rfl) ?_
  refine zz_cons (k' := 7) rfl (zz_Ok_none _ _) ?_
  refine zz_cons (k' := 8) rfl (zz_Ok_none _ _) ?_
  refine zz_cons (k' := 9) rfl (zk_iload_n X dX12_watch_8 rfl rfl) ?_
  refine zz_cons (k' := 10) rfl (zk_iconst X dX12_watch_9 (by decide) rfl) ?_
  refine zz_cons (k' := 11) rfl (zk_aload_n X dX12_watch_10 rfl rfl) ?_
  refine zz_cons (k' := 12) rfl (zk_getf X ff_X12_154 dX12_watch_11 rfl) ?_
  refine zz_cons (k' := 13) rfl (zz_Ok_none _ _) ?_
  refine zz_cons (k' := 14) rfl (zz_Ok_none _ _) ?_
  refine zz_cons (k' := 15) rfl (zk_calls X ks_X12_140 (mm_X12_isIn Wd).1 (by decide) dX12_watch_14 rfl) ?_
  refine zz_cons (k' := 16) rfl (zz_Ok_none _ _) ?_
  refine zz_cons (k' := 17) rfl (zz_Ok_none _ _) ?_
  refine zz_cons (k' := 18) rfl (zk_if_ne X dX12_watch_17 (by decide) rfl) ?_
  refine zz_cons (k' := 19) rfl (zz_Ok_none _ _) ?_
  refine zz_cons (k' := 20) rfl (zz_Ok_none _ _) ?_
  refine zz_cons (k' := 21) rfl (zk_iconst X dX12_watch_20 (by decide) rfl) ?_
  refine zz_cons (k' := 22) rfl (zk_goto X dX12_watch_21 (by decide)) ?_
  refine zz_cons (k' := 23) rfl (zz_Ok_none _ _) ?_
  refine zz_cons (k' := 24) rfl (zz_Ok_none _ _) ?_
  refine zz_cons (k' := 25) rfl (zk_iload_n X dX12_watch_24 rfl rfl) ?_
  refine zz_cons (k' := 26) rfl (zk_aload_n X dX12_watch_25 rfl rfl) ?_
  refine zz_cons (k' := 27) rfl (zk_getf X ff_X12_234 dX12_watch_26 rfl) ?_
  refine zz_cons (k' := 28) rfl (zz_Ok_none _ _) ?_
  refine zz_cons (k' := 29) rfl (zz_Ok_none _ _) ?_
  refine zz_cons (k' := 30) rfl (zk_icmp_ge X dX12_watch_29 (by decide) rfl) ?_
  refine zz_cons (k' := 31) rfl (zz_Ok_none _ _) ?_
  refine zz_cons (k' := 32) rfl (zz_Ok_none _ _) ?_
  refine zz_cons (k' := 33) rfl (zk_iconst X dX12_watch_32 (by decide) rfl) ?_
  refine zz_cons (k' := 34) rfl (zk_goto X dX12_watch_33 (by decide)) ?_
  refine zz_cons (k' := 35) rfl (zz_Ok_none _ _) ?_
  refine zz_cons (k' := 36) rfl (zz_Ok_none _ _) ?_
  refine zz_cons (k' := 37) rfl (zk_iconst X dX12_watch_36 (by decide) rfl) ?_
  refine zz_cons (k' := 38) rfl (zk_callv X (zz_Cv_of (List.forall_mem_cons.mpr ⟨⟨(RX_10, zzT10, 50), yX12_goes, cX12_goes, 2, (some .boolean), 0, 0, rfl, kv_X12_374_10.1, (mm_X12_goes Wd).1, by decide, by decide⟩, (fun _ h => absurd h List.not_mem_nil)⟩)) dX12_watch_37 rfl) ?_
  refine zz_cons (k' := 39) rfl (zz_Ok_none _ _) ?_
  refine zz_cons (k' := 40) rfl (zz_Ok_none _ _) ?_
  refine zz_cons (k' := 41) rfl (zk_if_ne X dX12_watch_40 (by decide) rfl) ?_
  refine zz_cons (k' := 42) rfl (zz_Ok_none _ _) ?_
  refine zz_cons (k' := 43) rfl (zz_Ok_none _ _) ?_
  refine zz_cons (k' := 44) rfl (zk_iconst X dX12_watch_43 (by decide) rfl) ?_
  refine zz_cons (k' := 45) rfl (zk_iret X rfl dX12_watch_44) ?_
  refine zz_cons (k' := 46) rfl (zk_aload_n X dX12_watch_45 rfl rfl) ?_
  refine zz_cons (k' := 47) rfl (zk_getf X ff_X12_127 dX12_watch_46 rfl) ?_
  refine zz_cons (k' := 48) rfl (zz_Ok_none _ _) ?_
  refine zz_cons (k' := 49) rfl (zz_Ok_none _ _) ?_
  refine zz_cons (k' := 50) rfl (zk_iload_n X dX12_watch_49 rfl rfl) ?_
  refine zz_cons (k' := 51) rfl (zk_iload_n X dX12_watch_50 rfl rfl) ?_
  refine zz_cons (k' := 52) rfl (zk_iast X dX12_watch_51 rfl) ?_
  refine zz_cons (k' := 53) rfl (zk_aload_n X dX12_watch_52 rfl rfl) ?_
  refine zz_cons (k' := 54) rfl (zk_getf X ff_X12_154 dX12_watch_53 rfl) ?_
  refine zz_cons (k' := 55) rfl (zz_Ok_none _ _) ?_
  refine zz_cons (k' := 56) rfl (zz_Ok_none _ _) ?_
  refine zz_cons (k' := 57) rfl (zk_iload_n X dX12_watch_56 rfl rfl) ?_
  refine zz_cons (k' := 58) rfl (zk_isub X dX12_watch_57 rfl) ?_
  refine zz_cons (k' := 59) rfl (zk_iret X rfl dX12_watch_58) ?_
  exact trivial
noncomputable def tX12_next : List zzOp := [
  zo_aload 0 1,
  zo_iload 1 2,
  zo_calls fX12_isReader 1 5,
  zo_none,
  zo_none,
  zo_if (fun x => decide (¬ x = 0)) 12 8,
  zo_none,
  zo_none,
  zo_pushI 1 9,
  zo_goto 13,
  zo_none,
  zo_none,
  zo_pushI 0 13,
  zo_callv zzSR (zz_cl [(10, fX12_goes)]) 1 16,
  zo_none,
  zo_none,
  zo_if (fun x => decide (x = 0)) 44 19,
  zo_none,
  zo_none,
  zo_aload 0 20,
  zo_aload 0 21,
  zo_getf zzSR (zz_kf [10] 46) 24,
  zo_none,
  zo_none,
  zo_iload 1 25,
  zo_iald zzSR zzSTR 26,
  zo_aload 0 27,
  zo_getf zzSR (zz_kf [10] 15) 30,
  zo_none,
  zo_none,
  zo_icmp (fun x y => decide (y ≤ x)) 37 33,
  zo_none,
  zo_none,
  zo_pushI 2 34,
  zo_goto 38,
  zo_none,
  zo_none,
  zo_pushI 0 38,
  zo_callv zzSR (zz_cl [(10, fX12_goes)]) 1 41,
  zo_none,
  zo_none,
  zo_if (fun x => decide (¬ x = 0)) 46 44,
  zo_none,
  zo_none,
  zo_pushI 0 45,
  zo_iret false,
  zo_aload 0 47,
  zo_getf zzSR (zz_kf [10] 46) 50,
  zo_none,
  zo_none,
  zo_iload 1 51,
  zo_iald zzSR zzSTR 52,
  zo_aload 0 53,
  zo_getf zzSR (zz_kf [10] 14) 56,
  zo_none,
  zo_none,
  zo_icmp (fun x y => decide (¬ x = y)) 61 59,
  zo_none,
  zo_none,
  zo_pushI (-1) 60,
  zo_iret false,
  zo_aload 0 62,
  zo_getf zzSR (zz_kf [10] 46) 65,
  zo_none,
  zo_none,
  zo_iload 1 66,
  zo_dup2 67,
  zo_iald zzSR zzSTR 68,
  zo_pushI 1 69,
  zo_ii (fun x y => x + y) 70,
  zo_iast zzSR 71,
  zo_aload 0 72,
  zo_getf zzSR (zz_kf [10] 16) 75,
  zo_none,
  zo_none,
  zo_aload 0 76,
  zo_getf zzSR (zz_kf [10] 46) 79,
  zo_none,
  zo_none,
  zo_iload 1 80,
  zo_iald zzSR zzSTR 81,
  zo_iald zzSR zzSTR 82,
  zo_iret false]
set_option maxRecDepth 100000 in
theorem tl_X12_next : ∀ pc, zz_Tl (tX12_next.getD pc zo_none) := by
  refine zz_Tl_mem ?_
  unfold tX12_next
  refine List.forall_mem_cons.mpr ⟨(zo_aload_tl _ _), ?_⟩
  refine List.forall_mem_cons.mpr ⟨(zo_iload_tl _ _), ?_⟩
  refine List.forall_mem_cons.mpr ⟨(zo_calls_tl _ _ _), ?_⟩
  refine List.forall_mem_cons.mpr ⟨zo_none_tl, ?_⟩
  refine List.forall_mem_cons.mpr ⟨zo_none_tl, ?_⟩
  refine List.forall_mem_cons.mpr ⟨(zo_if_tl _ _ _), ?_⟩
  refine List.forall_mem_cons.mpr ⟨zo_none_tl, ?_⟩
  refine List.forall_mem_cons.mpr ⟨zo_none_tl, ?_⟩
  refine List.forall_mem_cons.mpr ⟨(zo_pushI_tl _ _), ?_⟩
  refine List.forall_mem_cons.mpr ⟨(zo_goto_tl _), ?_⟩
  refine List.forall_mem_cons.mpr ⟨zo_none_tl, ?_⟩
  refine List.forall_mem_cons.mpr ⟨zo_none_tl, ?_⟩
  refine List.forall_mem_cons.mpr ⟨(zo_pushI_tl _ _), ?_⟩
  refine List.forall_mem_cons.mpr ⟨(zo_callv_tl _ _ _ _), ?_⟩
  refine List.forall_mem_cons.mpr ⟨zo_none_tl, ?_⟩
  refine List.forall_mem_cons.mpr ⟨zo_none_tl, ?_⟩
  refine List.forall_mem_cons.mpr ⟨(zo_if_tl _ _ _), ?_⟩
  refine List.forall_mem_cons.mpr ⟨zo_none_tl, ?_⟩
  refine List.forall_mem_cons.mpr ⟨zo_none_tl, ?_⟩
  refine List.forall_mem_cons.mpr ⟨(zo_aload_tl _ _), ?_⟩
  refine List.forall_mem_cons.mpr ⟨(zo_aload_tl _ _), ?_⟩
  refine List.forall_mem_cons.mpr ⟨(zo_getf_tl _ _ _), ?_⟩
  refine List.forall_mem_cons.mpr ⟨zo_none_tl, ?_⟩
  refine List.forall_mem_cons.mpr ⟨zo_none_tl, ?_⟩
  refine List.forall_mem_cons.mpr ⟨(zo_iload_tl _ _), ?_⟩
  refine List.forall_mem_cons.mpr ⟨(zo_iald_tl _ _ _), ?_⟩
  refine List.forall_mem_cons.mpr ⟨(zo_aload_tl _ _), ?_⟩
  refine List.forall_mem_cons.mpr ⟨(zo_getf_tl _ _ _), ?_⟩
  refine List.forall_mem_cons.mpr ⟨zo_none_tl, ?_⟩
  refine List.forall_mem_cons.mpr ⟨zo_none_tl, ?_⟩
  refine List.forall_mem_cons.mpr ⟨(zo_icmp_tl _ _ _), ?_⟩
  refine List.forall_mem_cons.mpr ⟨zo_none_tl, ?_⟩
  refine List.forall_mem_cons.mpr ⟨zo_none_tl, ?_⟩
  refine List.forall_mem_cons.mpr ⟨(zo_pushI_tl _ _), ?_⟩
  refine List.forall_mem_cons.mpr ⟨(zo_goto_tl _), ?_⟩
  refine List.forall_mem_cons.mpr ⟨zo_none_tl, ?_⟩
  refine List.forall_mem_cons.mpr ⟨zo_none_tl, ?_⟩
  refine List.forall_mem_cons.mpr ⟨(zo_pushI_tl _ _), ?_⟩
  refine List.forall_mem_cons.mpr ⟨(zo_callv_tl _ _ _ _), ?_⟩
  refine List.forall_mem_cons.mpr ⟨zo_none_tl, ?_⟩
  refine List.forall_mem_cons.mpr ⟨zo_none_tl, ?_⟩
  refine List.forall_mem_cons.mpr ⟨(zo_if_tl _ _ _), ?_⟩
  refine List.forall_mem_cons.mpr ⟨zo_none_tl, ?_⟩
  refine List.forall_mem_cons.mpr ⟨zo_none_tl, ?_⟩
  refine List.forall_mem_cons.mpr ⟨(zo_pushI_tl _ _), ?_⟩
  refine List.forall_mem_cons.mpr ⟨(zo_iret_tl _), ?_⟩
  refine List.forall_mem_cons.mpr ⟨(zo_aload_tl _ _), ?_⟩
  refine List.forall_mem_cons.mpr ⟨(zo_getf_tl _ _ _), ?_⟩
  refine List.forall_mem_cons.mpr ⟨zo_none_tl, ?_⟩
  refine List.forall_mem_cons.mpr ⟨zo_none_tl, ?_⟩
  refine List.forall_mem_cons.mpr ⟨(zo_iload_tl _ _), ?_⟩
  refine List.forall_mem_cons.mpr ⟨(zo_iald_tl _ _ _), ?_⟩
  refine List.forall_mem_cons.mpr ⟨(zo_aload_tl _ _), ?_⟩
  refine List.forall_mem_cons.mpr ⟨(zo_getf_tl _ _ _), ?_⟩
  refine List.forall_mem_cons.mpr ⟨zo_none_tl, ?_⟩
  refine List.forall_mem_cons.mpr ⟨zo_none_tl, ?_⟩
  refine List.forall_mem_cons.mpr ⟨(zo_icmp_tl _ _ _), ?_⟩
  refine List.forall_mem_cons.mpr ⟨zo_none_tl, ?_⟩
  refine List.forall_mem_cons.mpr ⟨zo_none_tl, ?_⟩
  refine List.forall_mem_cons.mpr ⟨(zo_pushI_tl _ _), ?_⟩
  refine List.forall_mem_cons.mpr ⟨(zo_iret_tl _), ?_⟩
  refine List.forall_mem_cons.mpr ⟨(zo_aload_tl _ _), ?_⟩
  refine List.forall_mem_cons.mpr ⟨(zo_getf_tl _ _ _), ?_⟩
  refine List.forall_mem_cons.mpr ⟨zo_none_tl, ?_⟩
  refine List.forall_mem_cons.mpr ⟨zo_none_tl, ?_⟩
  refine List.forall_mem_cons.mpr ⟨(zo_iload_tl _ _), ?_⟩
  refine List.forall_mem_cons.mpr ⟨(zo_dup2_tl _), ?_⟩
  refine List.forall_mem_cons.mpr ⟨(zo_iald_tl _ _ _), ?_⟩
  refine List.forall_mem_cons.mpr ⟨(zo_pushI_tl _ _), ?_⟩
  refine List.forall_mem_cons.mpr ⟨(zo_ii_tl _ _), ?_⟩
  refine List.forall_mem_cons.mpr ⟨(zo_iast_tl _ _), ?_⟩
  refine List.forall_mem_cons.mpr ⟨(zo_aload_tl _ _), ?_⟩
  refine List.forall_mem_cons.mpr ⟨(zo_getf_tl _ _ _), ?_⟩
  refine List.forall_mem_cons.mpr ⟨zo_none_tl, ?_⟩
  refine List.forall_mem_cons.mpr ⟨zo_none_tl, ?_⟩
  refine List.forall_mem_cons.mpr ⟨(zo_aload_tl _ _), ?_⟩
  refine List.forall_mem_cons.mpr ⟨(zo_getf_tl _ _ _), ?_⟩
  refine List.forall_mem_cons.mpr ⟨zo_none_tl, ?_⟩
  refine List.forall_mem_cons.mpr ⟨zo_none_tl, ?_⟩
  refine List.forall_mem_cons.mpr ⟨(zo_iload_tl _ _), ?_⟩
  refine List.forall_mem_cons.mpr ⟨(zo_iald_tl _ _ _), ?_⟩
  refine List.forall_mem_cons.mpr ⟨(zo_iald_tl _ _ _), ?_⟩
  refine List.forall_mem_cons.mpr ⟨(zo_iret_tl _), ?_⟩
  exact fun _ h => absurd h List.not_mem_nil
noncomputable def fX12_next : zzFn := zz_fn tX12_next 2
set_option maxRecDepth 100000 in
set_option maxHeartbeats 4000000 in
theorem mm_X12_next {l : Launch} {D : va_G} {cA : Nat → ClassId} {ad : Nat → Nat} {Ex : (Nat → Prop) → State → Heap → Prop} (Wd : zzWR l D cA ad Ex) : zz_Cn l D zzCl cA ad zzSR Ex yX12_next cX12_next 2 (some .int) 2 42 fX12_next ∧ zz_Cx l D zzCl cA ad zzSR Ex yX12_next cX12_next 2 (some .int) 2 42 fX12_next := by
  refine zz_meth (plainFor_of_name (by decide)) Wd.1 Wd.2.1 Wd.2.2 (fun p e R s m args below meth c rr X => ?_)
  unfold tX12_next
  refine zz_cons (k' := 1) rfl (zk_aload_n X dX12_next_0 rfl rfl) ?_
  refine zz_cons (k' := 2) rfl (zk_iload_n X dX12_next_1 rfl rfl) ?_
  refine zz_cons (k' := 3) rfl (zk_calls X ks_X12_401 (mm_X12_isReader Wd).1 (by decide) dX12_next_2 rfl) ?_
  refine zz_cons (k' := 4) rfl (zz_Ok_none _ _) ?_
  refine zz_cons (k' := 5) rfl (zz_Ok_none _ _) ?_
  refine zz_cons (k' := 6) rfl (zk_if_ne X dX12_next_5 (by decide) rfl) ?_
  refine zz_cons (k' := 7) rfl (zz_Ok_none _ _) ?_
  refine zz_cons (k' := 8) rfl (zz_Ok_none _ _) ?_
  refine zz_cons (k' := 9) rfl (zk_iconst X dX12_next_8 (by decide) rfl) ?_
  refine zz_cons (k' := 10) rfl (zk_goto X dX12_next_9 (by decide)) ?_
  refine zz_cons (k' := 11) rfl (zz_Ok_none _ _) ?_
  refine zz_cons (k' := 12) rfl (zz_Ok_none _ _) ?_
  refine zz_cons (k' := 13) rfl (zk_iconst X dX12_next_12 (by decide) rfl) ?_
  refine zz_cons (k' := 14) rfl (zk_callv X (zz_Cv_of (List.forall_mem_cons.mpr ⟨⟨(RX_10, zzT10, 50), yX12_goes, cX12_goes, 2, (some .boolean), 0, 0, rfl, kv_X12_374_10.1, (mm_X12_goes Wd).1, by decide, by decide⟩, (fun _ h => absurd h List.not_mem_nil)⟩)) dX12_next_13 rfl) ?_
  refine zz_cons (k' := 15) rfl (zz_Ok_none _ _) ?_
  refine zz_cons (k' := 16) rfl (zz_Ok_none _ _) ?_
  refine zz_cons (k' := 17) rfl (zk_if_eq X dX12_next_16 (by decide) rfl) ?_
  refine zz_cons (k' := 18) rfl (zz_Ok_none _ _) ?_
  refine zz_cons (k' := 19) rfl (zz_Ok_none _ _) ?_
  refine zz_cons (k' := 20) rfl (zk_aload_n X dX12_next_19 rfl rfl) ?_
  refine zz_cons (k' := 21) rfl (zk_aload_n X dX12_next_20 rfl rfl) ?_
  refine zz_cons (k' := 22) rfl (zk_getf X ff_X12_127 dX12_next_21 rfl) ?_
  refine zz_cons (k' := 23) rfl (zz_Ok_none _ _) ?_
  refine zz_cons (k' := 24) rfl (zz_Ok_none _ _) ?_
  refine zz_cons (k' := 25) rfl (zk_iload_n X dX12_next_24 rfl rfl) ?_
  refine zz_cons (k' := 26) rfl (zk_iald X (zzWR_st Wd) dX12_next_25 rfl) ?_
  refine zz_cons (k' := 27) rfl (zk_aload_n X dX12_next_26 rfl rfl) ?_
  refine zz_cons (k' := 28) rfl (zk_getf X ff_X12_234 dX12_next_27 rfl) ?_
  refine zz_cons (k' := 29) rfl (zz_Ok_none _ _) ?_
  refine zz_cons (k' := 30) rfl (zz_Ok_none _ _) ?_
  refine zz_cons (k' := 31) rfl (zk_icmp_ge X dX12_next_30 (by decide) rfl) ?_
  refine zz_cons (k' := 32) rfl (zz_Ok_none _ _) ?_
  refine zz_cons (k' := 33) rfl (zz_Ok_none _ _) ?_
  refine zz_cons (k' := 34) rfl (zk_iconst X dX12_next_33 (by decide) rfl) ?_
  refine zz_cons (k' := 35) rfl (zk_goto X dX12_next_34 (by decide)) ?_
  refine zz_cons (k' := 36) rfl (zz_Ok_none _ _) ?_
  refine zz_cons (k' := 37) rfl (zz_Ok_none _ _) ?_
  refine zz_cons (k' := 38) rfl (zk_iconst X dX12_next_37 (by decide) rfl) ?_
  refine zz_cons (k' := 39) rfl (zk_callv X (zz_Cv_of (List.forall_mem_cons.mpr ⟨⟨(RX_10, zzT10, 50), yX12_goes, cX12_goes, 2, (some .boolean), 0, 0, rfl, kv_X12_374_10.1, (mm_X12_goes Wd).1, by decide, by decide⟩, (fun _ h => absurd h List.not_mem_nil)⟩)) dX12_next_38 rfl) ?_
  refine zz_cons (k' := 40) rfl (zz_Ok_none _ _) ?_
  refine zz_cons (k' := 41) rfl (zz_Ok_none _ _) ?_
  refine zz_cons (k' := 42) rfl (zk_if_ne X dX12_next_41 (by decide) rfl) ?_
  refine zz_cons (k' := 43) rfl (zz_Ok_none _ _) ?_
  refine zz_cons (k' := 44) rfl (zz_Ok_none _ _) ?_
  refine zz_cons (k' := 45) rfl (zk_iconst X dX12_next_44 (by decide) rfl) ?_
  refine zz_cons (k' := 46) rfl (zk_iret X rfl dX12_next_45) ?_
  refine zz_cons (k' := 47) rfl (zk_aload_n X dX12_next_46 rfl rfl) ?_
  refine zz_cons (k' := 48) rfl (zk_getf X ff_X12_127 dX12_next_47 rfl) ?_
  refine zz_cons (k' := 49) rfl (zz_Ok_none _ _) ?_
  refine zz_cons (k' := 50) rfl (zz_Ok_none _ _) ?_
  refine zz_cons (k' := 51) rfl (zk_iload_n X dX12_next_50 rfl rfl) ?_
  refine zz_cons (k' := 52) rfl (zk_iald X (zzWR_st Wd) dX12_next_51 rfl) ?_
  refine zz_cons (k' := 53) rfl (zk_aload_n X dX12_next_52 rfl rfl) ?_
  refine zz_cons (k' := 54) rfl (zk_getf X ff_X12_154 dX12_next_53 rfl) ?_
  refine zz_cons (k' := 55) rfl (zz_Ok_none _ _) ?_
  refine zz_cons (k' := 56) rfl (zz_Ok_none _ _) ?_
  refine zz_cons (k' := 57) rfl (zk_icmp_ne X dX12_next_56 (by decide) rfl) ?_
  refine zz_cons (k' := 58) rfl (zz_Ok_none _ _) ?_
  refine zz_cons (k' := 59) rfl (zz_Ok_none _ _) ?_
  refine zz_cons (k' := 60) rfl (zk_iconst X dX12_next_59 (by decide) rfl) ?_
  refine zz_cons (k' := 61) rfl (zk_iret X rfl dX12_next_60) ?_
  refine zz_cons (k' := 62) rfl (zk_aload_n X dX12_next_61 rfl rfl) ?_
  refine zz_cons (k' := 63) rfl (zk_getf X ff_X12_127 dX12_next_62 rfl) ?_
  refine zz_cons (k' := 64) rfl (zz_Ok_none _ _) ?_
  refine zz_cons (k' := 65) rfl (zz_Ok_none _ _) ?_
  refine zz_cons (k' := 66) rfl (zk_iload_n X dX12_next_65 rfl rfl) ?_
  refine zz_cons (k' := 67) rfl (zk_dup2 X dX12_next_66 rfl) ?_
  refine zz_cons (k' := 68) rfl (zk_iald X (zzWR_st Wd) dX12_next_67 rfl) ?_
  refine zz_cons (k' := 69) rfl (zk_iconst X dX12_next_68 (by decide) rfl) ?_
  refine zz_cons (k' := 70) rfl (zk_iadd X dX12_next_69 rfl) ?_
  refine zz_cons (k' := 71) rfl (zk_iast X dX12_next_70 rfl) ?_
  refine zz_cons (k' := 72) rfl (zk_aload_n X dX12_next_71 rfl rfl) ?_
  refine zz_cons (k' := 73) rfl (zk_getf X ff_X12_50 dX12_next_72 rfl) ?_
  refine zz_cons (k' := 74) rfl (zz_Ok_none _ _) ?_
  refine zz_cons (k' := 75) rfl (zz_Ok_none _ _) ?_
  refine zz_cons (k' := 76) rfl (zk_aload_n X dX12_next_75 rfl rfl) ?_
  refine zz_cons (k' := 77) rfl (zk_getf X ff_X12_127 dX12_next_76 rfl) ?_
  refine zz_cons (k' := 78) rfl (zz_Ok_none _ _) ?_
  refine zz_cons (k' := 79) rfl (zz_Ok_none _ _) ?_
  refine zz_cons (k' := 80) rfl (zk_iload_n X dX12_next_79 rfl rfl) ?_
  refine zz_cons (k' := 81) rfl (zk_iald X (zzWR_st Wd) dX12_next_80 rfl) ?_
  refine zz_cons (k' := 82) rfl (zk_iald X (zzWR_st Wd) dX12_next_81 rfl) ?_
  refine zz_cons (k' := 83) rfl (zk_iret X rfl dX12_next_82) ?_
  exact trivial
noncomputable def tX12_list : List zzOp := [
  zo_aload 0 1,
  zo_iload 1 2,
  zo_calls fX12_isReader 1 5,
  zo_none,
  zo_none,
  zo_if (fun x => decide (x = 0)) 12 8,
  zo_none,
  zo_none,
  zo_pushI 0 9,
  zo_goto 13,
  zo_none,
  zo_none,
  zo_pushI 1 13,
  zo_callv zzSR (zz_cl [(10, fX12_goes)]) 1 16,
  zo_none,
  zo_none,
  zo_if (fun x => decide (¬ x = 0)) 21 19,
  zo_none,
  zo_none,
  zo_pushI 0 20,
  zo_iret false,
  zo_aload 0 22,
  zo_getf zzSR (zz_kf [10] 46) 25,
  zo_none,
  zo_none,
  zo_iload 1 26,
  zo_aload 0 27,
  zo_getf zzSR (zz_kf [10] 14) 30,
  zo_none,
  zo_none,
  zo_iast zzSR 31,
  zo_pushI 0 32,
  zo_istore 2 33,
  zo_pushI 0 34,
  zo_istore 3 35,
  zo_iload 3 36,
  zo_aload 0 37,
  zo_getf zzSR (zz_kf [10] 5) 40,
  zo_none,
  zo_none,
  zo_icmp (fun x y => decide (y ≤ x)) 65 43,
  zo_none,
  zo_none,
  zo_iload 2 44,
  zo_aload 0 45,
  zo_iload 3 46,
  zo_callv zzSR (zz_cl [(10, fX12_isGone)]) 1 49,
  zo_none,
  zo_none,
  zo_if (fun x => decide (x = 0)) 56 52,
  zo_none,
  zo_none,
  zo_pushI 0 53,
  zo_goto 57,
  zo_none,
  zo_none,
  zo_pushI 1 57,
  zo_ii (fun x y => x + y) 58,
  zo_istore 2 59,
  zo_iinc 3 1 62,
  zo_none,
  zo_none,
  zo_goto 35,
  zo_none,
  zo_none,
  zo_iload 2 66,
  zo_iret false]
set_option maxRecDepth 100000 in
theorem tl_X12_list : ∀ pc, zz_Tl (tX12_list.getD pc zo_none) := by
  refine zz_Tl_mem ?_
  unfold tX12_list
  refine List.forall_mem_cons.mpr ⟨(zo_aload_tl _ _), ?_⟩
  refine List.forall_mem_cons.mpr ⟨(zo_iload_tl _ _), ?_⟩
  refine List.forall_mem_cons.mpr ⟨(zo_calls_tl _ _ _), ?_⟩
  refine List.forall_mem_cons.mpr ⟨zo_none_tl, ?_⟩
  refine List.forall_mem_cons.mpr ⟨zo_none_tl, ?_⟩
  refine List.forall_mem_cons.mpr ⟨(zo_if_tl _ _ _), ?_⟩
  refine List.forall_mem_cons.mpr ⟨zo_none_tl, ?_⟩
  refine List.forall_mem_cons.mpr ⟨zo_none_tl, ?_⟩
  refine List.forall_mem_cons.mpr ⟨(zo_pushI_tl _ _), ?_⟩
  refine List.forall_mem_cons.mpr ⟨(zo_goto_tl _), ?_⟩
  refine List.forall_mem_cons.mpr ⟨zo_none_tl, ?_⟩
  refine List.forall_mem_cons.mpr ⟨zo_none_tl, ?_⟩
  refine List.forall_mem_cons.mpr ⟨(zo_pushI_tl _ _), ?_⟩
  refine List.forall_mem_cons.mpr ⟨(zo_callv_tl _ _ _ _), ?_⟩
  refine List.forall_mem_cons.mpr ⟨zo_none_tl, ?_⟩
  refine List.forall_mem_cons.mpr ⟨zo_none_tl, ?_⟩
  refine List.forall_mem_cons.mpr ⟨(zo_if_tl _ _ _), ?_⟩
  refine List.forall_mem_cons.mpr ⟨zo_none_tl, ?_⟩
  refine List.forall_mem_cons.mpr ⟨zo_none_tl, ?_⟩
  refine List.forall_mem_cons.mpr ⟨(zo_pushI_tl _ _), ?_⟩
  refine List.forall_mem_cons.mpr ⟨(zo_iret_tl _), ?_⟩
  refine List.forall_mem_cons.mpr ⟨(zo_aload_tl _ _), ?_⟩
  refine List.forall_mem_cons.mpr ⟨(zo_getf_tl _ _ _), ?_⟩
  refine List.forall_mem_cons.mpr ⟨zo_none_tl, ?_⟩
  refine List.forall_mem_cons.mpr ⟨zo_none_tl, ?_⟩
  refine List.forall_mem_cons.mpr ⟨(zo_iload_tl _ _), ?_⟩
  refine List.forall_mem_cons.mpr ⟨(zo_aload_tl _ _), ?_⟩
  refine List.forall_mem_cons.mpr ⟨(zo_getf_tl _ _ _), ?_⟩
  refine List.forall_mem_cons.mpr ⟨zo_none_tl, ?_⟩
  refine List.forall_mem_cons.mpr ⟨zo_none_tl, ?_⟩
  refine List.forall_mem_cons.mpr ⟨(zo_iast_tl _ _), ?_⟩
  refine List.forall_mem_cons.mpr ⟨(zo_pushI_tl _ _), ?_⟩
  refine List.forall_mem_cons.mpr ⟨(zo_istore_tl _ _), ?_⟩
  refine List.forall_mem_cons.mpr ⟨(zo_pushI_tl _ _), ?_⟩
  refine List.forall_mem_cons.mpr ⟨(zo_istore_tl _ _), ?_⟩
  refine List.forall_mem_cons.mpr ⟨(zo_iload_tl _ _), ?_⟩
  refine List.forall_mem_cons.mpr ⟨(zo_aload_tl _ _), ?_⟩
  refine List.forall_mem_cons.mpr ⟨(zo_getf_tl _ _ _), ?_⟩
  refine List.forall_mem_cons.mpr ⟨zo_none_tl, ?_⟩
  refine List.forall_mem_cons.mpr ⟨zo_none_tl, ?_⟩
  refine List.forall_mem_cons.mpr ⟨(zo_icmp_tl _ _ _), ?_⟩
  refine List.forall_mem_cons.mpr ⟨zo_none_tl, ?_⟩
  refine List.forall_mem_cons.mpr ⟨zo_none_tl, ?_⟩
  refine List.forall_mem_cons.mpr ⟨(zo_iload_tl _ _), ?_⟩
  refine List.forall_mem_cons.mpr ⟨(zo_aload_tl _ _), ?_⟩
  refine List.forall_mem_cons.mpr ⟨(zo_iload_tl _ _), ?_⟩
  refine List.forall_mem_cons.mpr ⟨(zo_callv_tl _ _ _ _), ?_⟩
  refine List.forall_mem_cons.mpr ⟨zo_none_tl, ?_⟩
  refine List.forall_mem_cons.mpr ⟨zo_none_tl, ?_⟩
  refine List.forall_mem_cons.mpr ⟨(zo_if_tl _ _ _), ?_⟩
  refine List.forall_mem_cons.mpr ⟨zo_none_tl, ?_⟩
  refine List.forall_mem_cons.mpr ⟨zo_none_tl, ?_⟩
  refine List.forall_mem_cons.mpr ⟨(zo_pushI_tl _ _), ?_⟩
  refine List.forall_mem_cons.mpr ⟨(zo_goto_tl _), ?_⟩
  refine List.forall_mem_cons.mpr ⟨zo_none_tl, ?_⟩
  refine List.forall_mem_cons.mpr ⟨zo_none_tl, ?_⟩
  refine List.forall_mem_cons.mpr ⟨(zo_pushI_tl _ _), ?_⟩
  refine List.forall_mem_cons.mpr ⟨(zo_ii_tl _ _), ?_⟩
  refine List.forall_mem_cons.mpr ⟨(zo_istore_tl _ _), ?_⟩
  refine List.forall_mem_cons.mpr ⟨(zo_iinc_tl _ _ _), ?_⟩
  refine List.forall_mem_cons.mpr ⟨zo_none_tl, ?_⟩
  refine List.forall_mem_cons.mpr ⟨zo_none_tl, ?_⟩
  refine List.forall_mem_cons.mpr ⟨(zo_goto_tl _), ?_⟩
  refine List.forall_mem_cons.mpr ⟨zo_none_tl, ?_⟩
  refine List.forall_mem_cons.mpr ⟨zo_none_tl, ?_⟩
  refine List.forall_mem_cons.mpr ⟨(zo_iload_tl _ _), ?_⟩
  refine List.forall_mem_cons.mpr ⟨(zo_iret_tl _), ?_⟩
  exact fun _ h => absurd h List.not_mem_nil
noncomputable def fX12_list : zzFn := zz_fn tX12_list 4
set_option maxRecDepth 100000 in
set_option maxHeartbeats 4000000 in
theorem mm_X12_list {l : Launch} {D : va_G} {cA : Nat → ClassId} {ad : Nat → Nat} {Ex : (Nat → Prop) → State → Heap → Prop} (Wd : zzWR l D cA ad Ex) : zz_Cn l D zzCl cA ad zzSR Ex yX12_list cX12_list 4 (some .int) 2 44 fX12_list ∧ zz_Cx l D zzCl cA ad zzSR Ex yX12_list cX12_list 4 (some .int) 2 44 fX12_list := by
  refine zz_meth (plainFor_of_name (by decide)) Wd.1 Wd.2.1 Wd.2.2 (fun p e R s m args below meth c rr X => ?_)
  unfold tX12_list
  refine zz_cons (k' := 1) rfl (zk_aload_n X dX12_list_0 rfl rfl) ?_
  refine zz_cons (k' := 2) rfl (zk_iload_n X dX12_list_1 rfl rfl) ?_
  refine zz_cons (k' := 3) rfl (zk_calls X ks_X12_401 (mm_X12_isReader Wd).1 (by decide) dX12_list_2 rfl) ?_
  refine zz_cons (k' := 4) rfl (zz_Ok_none _ _) ?_
  refine zz_cons (k' := 5) rfl (zz_Ok_none _ _) ?_
  refine zz_cons (k' := 6) rfl (zk_if_eq X dX12_list_5 (by decide) rfl) ?_
  refine zz_cons (k' := 7) rfl (zz_Ok_none _ _) ?_
  refine zz_cons (k' := 8) rfl (zz_Ok_none _ _) ?_
  refine zz_cons (k' := 9) rfl (zk_iconst X dX12_list_8 (by decide) rfl) ?_
  refine zz_cons (k' := 10) rfl (zk_goto X dX12_list_9 (by decide)) ?_
  refine zz_cons (k' := 11) rfl (zz_Ok_none _ _) ?_
  refine zz_cons (k' := 12) rfl (zz_Ok_none _ _) ?_
  refine zz_cons (k' := 13) rfl (zk_iconst X dX12_list_12 (by decide) rfl) ?_
  refine zz_cons (k' := 14) rfl (zk_callv X (zz_Cv_of (List.forall_mem_cons.mpr ⟨⟨(RX_10, zzT10, 50), yX12_goes, cX12_goes, 2, (some .boolean), 0, 0, rfl, kv_X12_374_10.1, (mm_X12_goes Wd).1, by decide, by decide⟩, (fun _ h => absurd h List.not_mem_nil)⟩)) dX12_list_13 rfl) ?_
  refine zz_cons (k' := 15) rfl (zz_Ok_none _ _) ?_
  refine zz_cons (k' := 16) rfl (zz_Ok_none _ _) ?_
  refine zz_cons (k' := 17) rfl (zk_if_ne X dX12_list_16 (by decide) rfl) ?_
  refine zz_cons (k' := 18) rfl (zz_Ok_none _ _) ?_
  refine zz_cons (k' := 19) rfl (zz_Ok_none _ _) ?_
  refine zz_cons (k' := 20) rfl (zk_iconst X dX12_list_19 (by decide) rfl) ?_
  refine zz_cons (k' := 21) rfl (zk_iret X rfl dX12_list_20) ?_
  refine zz_cons (k' := 22) rfl (zk_aload_n X dX12_list_21 rfl rfl) ?_
  refine zz_cons (k' := 23) rfl (zk_getf X ff_X12_127 dX12_list_22 rfl) ?_
  refine zz_cons (k' := 24) rfl (zz_Ok_none _ _) ?_
  refine zz_cons (k' := 25) rfl (zz_Ok_none _ _) ?_
  refine zz_cons (k' := 26) rfl (zk_iload_n X dX12_list_25 rfl rfl) ?_
  refine zz_cons (k' := 27) rfl (zk_aload_n X dX12_list_26 rfl rfl) ?_
  refine zz_cons (k' := 28) rfl (zk_getf X ff_X12_154 dX12_list_27 rfl) ?_
  refine zz_cons (k' := 29) rfl (zz_Ok_none _ _) ?_
  refine zz_cons (k' := 30) rfl (zz_Ok_none _ _) ?_
  refine zz_cons (k' := 31) rfl (zk_iast X dX12_list_30 rfl) ?_
  refine zz_cons (k' := 32) rfl (zk_iconst X dX12_list_31 (by decide) rfl) ?_
  refine zz_cons (k' := 33) rfl (zk_istore_n X dX12_list_32 rfl (by decide) rfl) ?_
  refine zz_cons (k' := 34) rfl (zk_iconst X dX12_list_33 (by decide) rfl) ?_
  refine zz_cons (k' := 35) rfl (zk_istore_n X dX12_list_34 rfl (by decide) rfl) ?_
  refine zz_cons (k' := 36) rfl (zk_iload_n X dX12_list_35 rfl rfl) ?_
  refine zz_cons (k' := 37) rfl (zk_aload_n X dX12_list_36 rfl rfl) ?_
  refine zz_cons (k' := 38) rfl (zk_getf X ff_X12_137 dX12_list_37 rfl) ?_
  refine zz_cons (k' := 39) rfl (zz_Ok_none _ _) ?_
  refine zz_cons (k' := 40) rfl (zz_Ok_none _ _) ?_
  refine zz_cons (k' := 41) rfl (zk_icmp_ge X dX12_list_40 (by decide) rfl) ?_
  refine zz_cons (k' := 42) rfl (zz_Ok_none _ _) ?_
  refine zz_cons (k' := 43) rfl (zz_Ok_none _ _) ?_
  refine zz_cons (k' := 44) rfl (zk_iload_n X dX12_list_43 rfl rfl) ?_
  refine zz_cons (k' := 45) rfl (zk_aload_n X dX12_list_44 rfl rfl) ?_
  refine zz_cons (k' := 46) rfl (zk_iload_n X dX12_list_45 rfl rfl) ?_
  refine zz_cons (k' := 47) rfl (zk_callv X (zz_Cv_of (List.forall_mem_cons.mpr ⟨⟨(RX_10, zzT10, 50), yX12_isGone, cX12_isGone, 2, (some .boolean), 1, 23, rfl, kv_X12_386_10.1, (mm_X12_isGone Wd).1, by decide, by decide⟩, (fun _ h => absurd h List.not_mem_nil)⟩)) dX12_list_46 rfl) ?_
  refine zz_cons (k' := 48) rfl (zz_Ok_none _ _) ?_
  refine zz_cons (k' := 49) rfl (zz_Ok_none _ _) ?_
  refine zz_cons (k' := 50) rfl (zk_if_eq X dX12_list_49 (by decide) rfl) ?_
  refine zz_cons (k' := 51) rfl (zz_Ok_none _ _) ?_
  refine zz_cons (k' := 52) rfl (zz_Ok_none _ _) ?_
  refine zz_cons (k' := 53) rfl (zk_iconst X dX12_list_52 (by decide) rfl) ?_
  refine zz_cons (k' := 54) rfl (zk_goto X dX12_list_53 (by decide)) ?_
  refine zz_cons (k' := 55) rfl (zz_Ok_none _ _) ?_
  refine zz_cons (k' := 56) rfl (zz_Ok_none _ _) ?_
  refine zz_cons (k' := 57) rfl (zk_iconst X dX12_list_56 (by decide) rfl) ?_
  refine zz_cons (k' := 58) rfl (zk_iadd X dX12_list_57 rfl) ?_
  refine zz_cons (k' := 59) rfl (zk_istore_n X dX12_list_58 rfl (by decide) rfl) ?_
  refine zz_cons (k' := 60) rfl (zk_iinc X dX12_list_59 (by decide) (by decide) rfl) ?_
  refine zz_cons (k' := 61) rfl (zz_Ok_none _ _) ?_
  refine zz_cons (k' := 62) rfl (zz_Ok_none _ _) ?_
  refine zz_cons (k' := 63) rfl (zk_goto X dX12_list_62 (by decide)) ?_
  refine zz_cons (k' := 64) rfl (zz_Ok_none _ _) ?_
  refine zz_cons (k' := 65) rfl (zz_Ok_none _ _) ?_
  refine zz_cons (k' := 66) rfl (zk_iload_n X dX12_list_65 rfl rfl) ?_
  refine zz_cons (k' := 67) rfl (zk_iret X rfl dX12_list_66) ?_
  exact trivial
noncomputable def tX12_compact : List zzOp := [
  zo_aload 0 1,
  zo_iload 1 2,
  zo_pushI 0 3,
  zo_aload 0 4,
  zo_getf zzSR (zz_kf [10] 14) 7,
  zo_none,
  zo_none,
  zo_calls fX12_isIn 3 10,
  zo_none,
  zo_none,
  zo_if (fun x => decide (x = 0)) 17 13,
  zo_none,
  zo_none,
  zo_pushI 0 14,
  zo_goto 18,
  zo_none,
  zo_none,
  zo_pushI 1 18,
  zo_callv zzSR (zz_cl [(10, fX12_goes)]) 1 21,
  zo_none,
  zo_none,
  zo_if (fun x => decide (¬ x = 0)) 26 24,
  zo_none,
  zo_none,
  zo_pushI 0 25,
  zo_iret false,
  zo_aload 0 27,
  zo_iload 1 28,
  zo_aload 0 29,
  zo_getf zzSR (zz_kf [10] 15) 32,
  zo_none,
  zo_none,
  zo_icmp (fun x y => decide (x ≤ y)) 39 35,
  zo_none,
  zo_none,
  zo_iload 1 36,
  zo_goto 43,
  zo_none,
  zo_none,
  zo_aload 0 40,
  zo_getf zzSR (zz_kf [10] 15) 43,
  zo_none,
  zo_none,
  zo_putf zzSR (zz_kf [10] 15) false 46,
  zo_none,
  zo_none,
  zo_aload 0 47,
  zo_getf zzSR (zz_kf [10] 15) 50,
  zo_none,
  zo_none,
  zo_iret false]
set_option maxRecDepth 100000 in
theorem tl_X12_compact : ∀ pc, zz_Tl (tX12_compact.getD pc zo_none) := by
  refine zz_Tl_mem ?_
  unfold tX12_compact
  refine List.forall_mem_cons.mpr ⟨(zo_aload_tl _ _), ?_⟩
  refine List.forall_mem_cons.mpr ⟨(zo_iload_tl _ _), ?_⟩
  refine List.forall_mem_cons.mpr ⟨(zo_pushI_tl _ _), ?_⟩
  refine List.forall_mem_cons.mpr ⟨(zo_aload_tl _ _), ?_⟩
  refine List.forall_mem_cons.mpr ⟨(zo_getf_tl _ _ _), ?_⟩
  refine List.forall_mem_cons.mpr ⟨zo_none_tl, ?_⟩
  refine List.forall_mem_cons.mpr ⟨zo_none_tl, ?_⟩
  refine List.forall_mem_cons.mpr ⟨(zo_calls_tl _ _ _), ?_⟩
  refine List.forall_mem_cons.mpr ⟨zo_none_tl, ?_⟩
  refine List.forall_mem_cons.mpr ⟨zo_none_tl, ?_⟩
  refine List.forall_mem_cons.mpr ⟨(zo_if_tl _ _ _), ?_⟩
  refine List.forall_mem_cons.mpr ⟨zo_none_tl, ?_⟩
  refine List.forall_mem_cons.mpr ⟨zo_none_tl, ?_⟩
  refine List.forall_mem_cons.mpr ⟨(zo_pushI_tl _ _), ?_⟩
  refine List.forall_mem_cons.mpr ⟨(zo_goto_tl _), ?_⟩
  refine List.forall_mem_cons.mpr ⟨zo_none_tl, ?_⟩
  refine List.forall_mem_cons.mpr ⟨zo_none_tl, ?_⟩
  refine List.forall_mem_cons.mpr ⟨(zo_pushI_tl _ _), ?_⟩
  refine List.forall_mem_cons.mpr ⟨(zo_callv_tl _ _ _ _), ?_⟩
  refine List.forall_mem_cons.mpr ⟨zo_none_tl, ?_⟩
  refine List.forall_mem_cons.mpr ⟨zo_none_tl, ?_⟩
  refine List.forall_mem_cons.mpr ⟨(zo_if_tl _ _ _), ?_⟩
  refine List.forall_mem_cons.mpr ⟨zo_none_tl, ?_⟩
  refine List.forall_mem_cons.mpr ⟨zo_none_tl, ?_⟩
  refine List.forall_mem_cons.mpr ⟨(zo_pushI_tl _ _), ?_⟩
  refine List.forall_mem_cons.mpr ⟨(zo_iret_tl _), ?_⟩
  refine List.forall_mem_cons.mpr ⟨(zo_aload_tl _ _), ?_⟩
  refine List.forall_mem_cons.mpr ⟨(zo_iload_tl _ _), ?_⟩
  refine List.forall_mem_cons.mpr ⟨(zo_aload_tl _ _), ?_⟩
  refine List.forall_mem_cons.mpr ⟨(zo_getf_tl _ _ _), ?_⟩
  refine List.forall_mem_cons.mpr ⟨zo_none_tl, ?_⟩
  refine List.forall_mem_cons.mpr ⟨zo_none_tl, ?_⟩
  refine List.forall_mem_cons.mpr ⟨(zo_icmp_tl _ _ _), ?_⟩
  refine List.forall_mem_cons.mpr ⟨zo_none_tl, ?_⟩
  refine List.forall_mem_cons.mpr ⟨zo_none_tl, ?_⟩
  refine List.forall_mem_cons.mpr ⟨(zo_iload_tl _ _), ?_⟩
  refine List.forall_mem_cons.mpr ⟨(zo_goto_tl _), ?_⟩
  refine List.forall_mem_cons.mpr ⟨zo_none_tl, ?_⟩
  refine List.forall_mem_cons.mpr ⟨zo_none_tl, ?_⟩
  refine List.forall_mem_cons.mpr ⟨(zo_aload_tl _ _), ?_⟩
  refine List.forall_mem_cons.mpr ⟨(zo_getf_tl _ _ _), ?_⟩
  refine List.forall_mem_cons.mpr ⟨zo_none_tl, ?_⟩
  refine List.forall_mem_cons.mpr ⟨zo_none_tl, ?_⟩
  refine List.forall_mem_cons.mpr ⟨(zo_putf_tl _ _ _ _), ?_⟩
  refine List.forall_mem_cons.mpr ⟨zo_none_tl, ?_⟩
  refine List.forall_mem_cons.mpr ⟨zo_none_tl, ?_⟩
  refine List.forall_mem_cons.mpr ⟨(zo_aload_tl _ _), ?_⟩
  refine List.forall_mem_cons.mpr ⟨(zo_getf_tl _ _ _), ?_⟩
  refine List.forall_mem_cons.mpr ⟨zo_none_tl, ?_⟩
  refine List.forall_mem_cons.mpr ⟨zo_none_tl, ?_⟩
  refine List.forall_mem_cons.mpr ⟨(zo_iret_tl _), ?_⟩
  exact fun _ h => absurd h List.not_mem_nil
noncomputable def fX12_compact : zzFn := zz_fn tX12_compact 2
set_option maxRecDepth 100000 in
set_option maxHeartbeats 4000000 in
theorem mm_X12_compact {l : Launch} {D : va_G} {cA : Nat → ClassId} {ad : Nat → Nat} {Ex : (Nat → Prop) → State → Heap → Prop} (Wd : zzWR l D cA ad Ex) : zz_Cn l D zzCl cA ad zzSR Ex yX12_compact cX12_compact 2 (some .int) 1 22 fX12_compact ∧ zz_Cx l D zzCl cA ad zzSR Ex yX12_compact cX12_compact 2 (some .int) 1 22 fX12_compact := by
  refine zz_meth (plainFor_of_name (by decide)) Wd.1 Wd.2.1 Wd.2.2 (fun p e R s m args below meth c rr X => ?_)
  unfold tX12_compact
  refine zz_cons (k' := 1) rfl (zk_aload_n X dX12_compact_0 rfl rfl) ?_
  refine zz_cons (k' := 2) rfl (zk_iload_n X dX12_compact_1 rfl rfl) ?_
  refine zz_cons (k' := 3) rfl (zk_iconst X dX12_compact_2 (by decide) rfl) ?_
  refine zz_cons (k' := 4) rfl (zk_aload_n X dX12_compact_3 rfl rfl) ?_
  refine zz_cons (k' := 5) rfl (zk_getf X ff_X12_154 dX12_compact_4 rfl) ?_
  refine zz_cons (k' := 6) rfl (zz_Ok_none _ _) ?_
  refine zz_cons (k' := 7) rfl (zz_Ok_none _ _) ?_
  refine zz_cons (k' := 8) rfl (zk_calls X ks_X12_140 (mm_X12_isIn Wd).1 (by decide) dX12_compact_7 rfl) ?_
  refine zz_cons (k' := 9) rfl (zz_Ok_none _ _) ?_
  refine zz_cons (k' := 10) rfl (zz_Ok_none _ _) ?_
  refine zz_cons (k' := 11) rfl (zk_if_eq X dX12_compact_10 (by decide) rfl) ?_
  refine zz_cons (k' := 12) rfl (zz_Ok_none _ _) ?_
  refine zz_cons (k' := 13) rfl (zz_Ok_none _ _) ?_
  refine zz_cons (k' := 14) rfl (zk_iconst X dX12_compact_13 (by decide) rfl) ?_
  refine zz_cons (k' := 15) rfl (zk_goto X dX12_compact_14 (by decide)) ?_
  refine zz_cons (k' := 16) rfl (zz_Ok_none _ _) ?_
  refine zz_cons (k' := 17) rfl (zz_Ok_none _ _) ?_
  refine zz_cons (k' := 18) rfl (zk_iconst X dX12_compact_17 (by decide) rfl) ?_
  refine zz_cons (k' := 19) rfl (zk_callv X (zz_Cv_of (List.forall_mem_cons.mpr ⟨⟨(RX_10, zzT10, 50), yX12_goes, cX12_goes, 2, (some .boolean), 0, 0, rfl, kv_X12_374_10.1, (mm_X12_goes Wd).1, by decide, by decide⟩, (fun _ h => absurd h List.not_mem_nil)⟩)) dX12_compact_18 rfl) ?_
  refine zz_cons (k' := 20) rfl (zz_Ok_none _ _) ?_
  refine zz_cons (k' := 21) rfl (zz_Ok_none _ _) ?_
  refine zz_cons (k' := 22) rfl (zk_if_ne X dX12_compact_21 (by decide) rfl) ?_
  refine zz_cons (k' := 23) rfl (zz_Ok_none _ _) ?_
  refine zz_cons (k' := 24) rfl (zz_Ok_none _ _) ?_
  refine zz_cons (k' := 25) rfl (zk_iconst X dX12_compact_24 (by decide) rfl) ?_
  refine zz_cons (k' := 26) rfl (zk_iret X rfl dX12_compact_25) ?_
  refine zz_cons (k' := 27) rfl (zk_aload_n X dX12_compact_26 rfl rfl) ?_
  refine zz_cons (k' := 28) rfl (zk_iload_n X dX12_compact_27 rfl rfl) ?_
  refine zz_cons (k' := 29) rfl (zk_aload_n X dX12_compact_28 rfl rfl) ?_
  refine zz_cons (k' := 30) rfl (zk_getf X ff_X12_234 dX12_compact_29 rfl) ?_
  refine zz_cons (k' := 31) rfl (zz_Ok_none _ _) ?_
  refine zz_cons (k' := 32) rfl (zz_Ok_none _ _) ?_
  refine zz_cons (k' := 33) rfl (zk_icmp_le X dX12_compact_32 (by decide) rfl) ?_
  refine zz_cons (k' := 34) rfl (zz_Ok_none _ _) ?_
  refine zz_cons (k' := 35) rfl (zz_Ok_none _ _) ?_
  refine zz_cons (k' := 36) rfl (zk_iload_n X dX12_compact_35 rfl rfl) ?_
  refine zz_cons (k' := 37) rfl (zk_goto X dX12_compact_36 (by decide)) ?_
  refine zz_cons (k' := 38) rfl (zz_Ok_none _ _) ?_
  refine zz_cons (k' := 39) rfl (zz_Ok_none _ _) ?_
  refine zz_cons (k' := 40) rfl (zk_aload_n X dX12_compact_39 rfl rfl) ?_
  refine zz_cons (k' := 41) rfl (zk_getf X ff_X12_234 dX12_compact_40 rfl) ?_
  refine zz_cons (k' := 42) rfl (zz_Ok_none _ _) ?_
  refine zz_cons (k' := 43) rfl (zz_Ok_none _ _) ?_
  refine zz_cons (k' := 44) rfl (zk_putf X ff_X12_234 fp_10_15 dX12_compact_43 rfl) ?_
  refine zz_cons (k' := 45) rfl (zz_Ok_none _ _) ?_
  refine zz_cons (k' := 46) rfl (zz_Ok_none _ _) ?_
  refine zz_cons (k' := 47) rfl (zk_aload_n X dX12_compact_46 rfl rfl) ?_
  refine zz_cons (k' := 48) rfl (zk_getf X ff_X12_234 dX12_compact_47 rfl) ?_
  refine zz_cons (k' := 49) rfl (zz_Ok_none _ _) ?_
  refine zz_cons (k' := 50) rfl (zz_Ok_none _ _) ?_
  refine zz_cons (k' := 51) rfl (zk_iret X rfl dX12_compact_50) ?_
  exact trivial
noncomputable def tX12_tick : List zzOp := [
  zo_aload 0 1,
  zo_iload 1 2,
  zo_pushI 1 3,
  zo_pushI 100 5,
  zo_none,
  zo_calls fX12_isIn 3 8,
  zo_none,
  zo_none,
  zo_if (fun x => decide (¬ x = 0)) 15 11,
  zo_none,
  zo_none,
  zo_pushI 1 12,
  zo_goto 32,
  zo_none,
  zo_none,
  zo_aload 0 16,
  zo_getf zzSR (zz_kf [10] 48) 19,
  zo_none,
  zo_none,
  zo_iload 1 20,
  zo_ii (fun x y => x + y) 21,
  zo_pushI 10000 24,
  zo_none,
  zo_none,
  zo_icmp (fun x y => decide (x ≤ y)) 31 27,
  zo_none,
  zo_none,
  zo_pushI 2 28,
  zo_goto 32,
  zo_none,
  zo_none,
  zo_pushI 0 32,
  zo_callv zzSR (zz_cl [(10, fX12_goes)]) 1 35,
  zo_none,
  zo_none,
  zo_if (fun x => decide (¬ x = 0)) 40 38,
  zo_none,
  zo_none,
  zo_pushI 0 39,
  zo_iret false,
  zo_pushI 0 41,
  zo_istore 2 42,
  zo_iload 2 43,
  zo_iload 1 44,
  zo_icmp (fun x y => decide (y ≤ x)) 160 47,
  zo_none,
  zo_none,
  zo_aload 0 48,
  zo_dup 49,
  zo_getf zzSR (zz_kf [10] 48) 52,
  zo_none,
  zo_none,
  zo_pushI 1 53,
  zo_ii (fun x y => x + y) 54,
  zo_putf zzSR (zz_kf [10] 48) false 57,
  zo_none,
  zo_none,
  zo_pushI 0 58,
  zo_istore 3 59,
  zo_iload 3 60,
  zo_aload 0 61,
  zo_getf zzSR (zz_kf [10] 5) 64,
  zo_none,
  zo_none,
  zo_icmp (fun x y => decide (y ≤ x)) 154 67,
  zo_none,
  zo_none,
  zo_aload 0 68,
  zo_getf zzSR (zz_kf [10] 6) 71,
  zo_none,
  zo_none,
  zo_iload 3 72,
  zo_iald zzSR zzSTR 73,
  zo_pushI 4 74,
  zo_icmp (fun x y => decide (¬ x = y)) 105 77,
  zo_none,
  zo_none,
  zo_aload 0 78,
  zo_iload 3 79,
  zo_callv zzSR (zz_cl [(10, fX12_isGone)]) 1 82,
  zo_none,
  zo_none,
  zo_if (fun x => decide (¬ x = 0)) 105 85,
  zo_none,
  zo_none,
  zo_aload 0 86,
  zo_getf zzSR (zz_kf [10] 48) 89,
  zo_none,
  zo_none,
  zo_aload 0 90,
  zo_getf zzSR (zz_kf [10] 11) 93,
  zo_none,
  zo_none,
  zo_iload 3 94,
  zo_iald zzSR zzSTR 95,
  zo_ii (fun x y => x - y) 96,
  zo_pushI 20 98,
  zo_none,
  zo_icmp (fun x y => decide (x ≤ y)) 105 101,
  zo_none,
  zo_none,
  zo_pushI 1 102,
  zo_goto 106,
  zo_none,
  zo_none,
  zo_pushI 0 106,
  zo_istore 4 108,
  zo_none,
  zo_iload 4 110,
  zo_none,
  zo_if (fun x => decide (x = 0)) 145 113,
  zo_none,
  zo_none,
  zo_aload 0 114,
  zo_iload 3 115,
  zo_aload 0 116,
  zo_aload 0 117,
  zo_getf zzSR (zz_kf [10] 7) 120,
  zo_none,
  zo_none,
  zo_iload 3 121,
  zo_lald zzSR 122,
  zo_pushI 14 124,
  zo_none,
  zo_pushI 0 125,
  zo_callv zzSR (zz_cl [(10, fX12_with)]) 3 128,
  zo_none,
  zo_none,
  zo_aload 0 129,
  zo_getf zzSR (zz_kf [10] 8) 132,
  zo_none,
  zo_none,
  zo_iload 3 133,
  zo_lald zzSR 134,
  zo_pushI 0 135,
  zo_callv zzSR (zz_cl [(10, fX12_puts)]) 4 138,
  zo_none,
  zo_none,
  zo_if (fun x => decide (x = 0)) 145 141,
  zo_none,
  zo_none,
  zo_pushI 1 142,
  zo_goto 146,
  zo_none,
  zo_none,
  zo_pushI 0 146,
  zo_istore 5 148,
  zo_none,
  zo_iinc 3 1 151,
  zo_none,
  zo_none,
  zo_goto 59,
  zo_none,
  zo_none,
  zo_iinc 2 1 157,
  zo_none,
  zo_none,
  zo_goto 42,
  zo_none,
  zo_none,
  zo_aload 0 161,
  zo_getf zzSR (zz_kf [10] 48) 164,
  zo_none,
  zo_none,
  zo_iret false]
set_option maxRecDepth 100000 in
theorem tl_X12_tick : ∀ pc, zz_Tl (tX12_tick.getD pc zo_none) := by
  refine zz_Tl_mem ?_
  unfold tX12_tick
  refine List.forall_mem_cons.mpr ⟨(zo_aload_tl _ _), ?_⟩
  refine List.forall_mem_cons.mpr ⟨(zo_iload_tl _ _), ?_⟩
  refine List.forall_mem_cons.mpr ⟨(zo_pushI_tl _ _), ?_⟩
  refine List.forall_mem_cons.mpr ⟨(zo_pushI_tl _ _), ?_⟩
  refine List.forall_mem_cons.mpr ⟨zo_none_tl, ?_⟩
  refine List.forall_mem_cons.mpr ⟨(zo_calls_tl _ _ _), ?_⟩
  refine List.forall_mem_cons.mpr ⟨zo_none_tl, ?_⟩
  refine List.forall_mem_cons.mpr ⟨zo_none_tl, ?_⟩
  refine List.forall_mem_cons.mpr ⟨(zo_if_tl _ _ _), ?_⟩
  refine List.forall_mem_cons.mpr ⟨zo_none_tl, ?_⟩
  refine List.forall_mem_cons.mpr ⟨zo_none_tl, ?_⟩
  refine List.forall_mem_cons.mpr ⟨(zo_pushI_tl _ _), ?_⟩
  refine List.forall_mem_cons.mpr ⟨(zo_goto_tl _), ?_⟩
  refine List.forall_mem_cons.mpr ⟨zo_none_tl, ?_⟩
  refine List.forall_mem_cons.mpr ⟨zo_none_tl, ?_⟩
  refine List.forall_mem_cons.mpr ⟨(zo_aload_tl _ _), ?_⟩
  refine List.forall_mem_cons.mpr ⟨(zo_getf_tl _ _ _), ?_⟩
  refine List.forall_mem_cons.mpr ⟨zo_none_tl, ?_⟩
  refine List.forall_mem_cons.mpr ⟨zo_none_tl, ?_⟩
  refine List.forall_mem_cons.mpr ⟨(zo_iload_tl _ _), ?_⟩
  refine List.forall_mem_cons.mpr ⟨(zo_ii_tl _ _), ?_⟩
  refine List.forall_mem_cons.mpr ⟨(zo_pushI_tl _ _), ?_⟩
  refine List.forall_mem_cons.mpr ⟨zo_none_tl, ?_⟩
  refine List.forall_mem_cons.mpr ⟨zo_none_tl, ?_⟩
  refine List.forall_mem_cons.mpr ⟨(zo_icmp_tl _ _ _), ?_⟩
  refine List.forall_mem_cons.mpr ⟨zo_none_tl, ?_⟩
  refine List.forall_mem_cons.mpr ⟨zo_none_tl, ?_⟩
  refine List.forall_mem_cons.mpr ⟨(zo_pushI_tl _ _), ?_⟩
  refine List.forall_mem_cons.mpr ⟨(zo_goto_tl _), ?_⟩
  refine List.forall_mem_cons.mpr ⟨zo_none_tl, ?_⟩
  refine List.forall_mem_cons.mpr ⟨zo_none_tl, ?_⟩
  refine List.forall_mem_cons.mpr ⟨(zo_pushI_tl _ _), ?_⟩
  refine List.forall_mem_cons.mpr ⟨(zo_callv_tl _ _ _ _), ?_⟩
  refine List.forall_mem_cons.mpr ⟨zo_none_tl, ?_⟩
  refine List.forall_mem_cons.mpr ⟨zo_none_tl, ?_⟩
  refine List.forall_mem_cons.mpr ⟨(zo_if_tl _ _ _), ?_⟩
  refine List.forall_mem_cons.mpr ⟨zo_none_tl, ?_⟩
  refine List.forall_mem_cons.mpr ⟨zo_none_tl, ?_⟩
  refine List.forall_mem_cons.mpr ⟨(zo_pushI_tl _ _), ?_⟩
  refine List.forall_mem_cons.mpr ⟨(zo_iret_tl _), ?_⟩
  refine List.forall_mem_cons.mpr ⟨(zo_pushI_tl _ _), ?_⟩
  refine List.forall_mem_cons.mpr ⟨(zo_istore_tl _ _), ?_⟩
  refine List.forall_mem_cons.mpr ⟨(zo_iload_tl _ _), ?_⟩
  refine List.forall_mem_cons.mpr ⟨(zo_iload_tl _ _), ?_⟩
  refine List.forall_mem_cons.mpr ⟨(zo_icmp_tl _ _ _), ?_⟩
  refine List.forall_mem_cons.mpr ⟨zo_none_tl, ?_⟩
  refine List.forall_mem_cons.mpr ⟨zo_none_tl, ?_⟩
  refine List.forall_mem_cons.mpr ⟨(zo_aload_tl _ _), ?_⟩
  refine List.forall_mem_cons.mpr ⟨(zo_dup_tl _), ?_⟩
  refine List.forall_mem_cons.mpr ⟨(zo_getf_tl _ _ _), ?_⟩
  refine List.forall_mem_cons.mpr ⟨zo_none_tl, ?_⟩
  refine List.forall_mem_cons.mpr ⟨zo_none_tl, ?_⟩
  refine List.forall_mem_cons.mpr ⟨(zo_pushI_tl _ _), ?_⟩
  refine List.forall_mem_cons.mpr ⟨(zo_ii_tl _ _), ?_⟩
  refine List.forall_mem_cons.mpr ⟨(zo_putf_tl _ _ _ _), ?_⟩
  refine List.forall_mem_cons.mpr ⟨zo_none_tl, ?_⟩
  refine List.forall_mem_cons.mpr ⟨zo_none_tl, ?_⟩
  refine List.forall_mem_cons.mpr ⟨(zo_pushI_tl _ _), ?_⟩
  refine List.forall_mem_cons.mpr ⟨(zo_istore_tl _ _), ?_⟩
  refine List.forall_mem_cons.mpr ⟨(zo_iload_tl _ _), ?_⟩
  refine List.forall_mem_cons.mpr ⟨(zo_aload_tl _ _), ?_⟩
  refine List.forall_mem_cons.mpr ⟨(zo_getf_tl _ _ _), ?_⟩
  refine List.forall_mem_cons.mpr ⟨zo_none_tl, ?_⟩
  refine List.forall_mem_cons.mpr ⟨zo_none_tl, ?_⟩
  refine List.forall_mem_cons.mpr ⟨(zo_icmp_tl _ _ _), ?_⟩
  refine List.forall_mem_cons.mpr ⟨zo_none_tl, ?_⟩
  refine List.forall_mem_cons.mpr ⟨zo_none_tl, ?_⟩
  refine List.forall_mem_cons.mpr ⟨(zo_aload_tl _ _), ?_⟩
  refine List.forall_mem_cons.mpr ⟨(zo_getf_tl _ _ _), ?_⟩
  refine List.forall_mem_cons.mpr ⟨zo_none_tl, ?_⟩
  refine List.forall_mem_cons.mpr ⟨zo_none_tl, ?_⟩
  refine List.forall_mem_cons.mpr ⟨(zo_iload_tl _ _), ?_⟩
  refine List.forall_mem_cons.mpr ⟨(zo_iald_tl _ _ _), ?_⟩
  refine List.forall_mem_cons.mpr ⟨(zo_pushI_tl _ _), ?_⟩
  refine List.forall_mem_cons.mpr ⟨(zo_icmp_tl _ _ _), ?_⟩
  refine List.forall_mem_cons.mpr ⟨zo_none_tl, ?_⟩
  refine List.forall_mem_cons.mpr ⟨zo_none_tl, ?_⟩
  refine List.forall_mem_cons.mpr ⟨(zo_aload_tl _ _), ?_⟩
  refine List.forall_mem_cons.mpr ⟨(zo_iload_tl _ _), ?_⟩
  refine List.forall_mem_cons.mpr ⟨(zo_callv_tl _ _ _ _), ?_⟩
  refine List.forall_mem_cons.mpr ⟨zo_none_tl, ?_⟩
  refine List.forall_mem_cons.mpr ⟨zo_none_tl, ?_⟩
  refine List.forall_mem_cons.mpr ⟨(zo_if_tl _ _ _), ?_⟩
  refine List.forall_mem_cons.mpr ⟨zo_none_tl, ?_⟩
  refine List.forall_mem_cons.mpr ⟨zo_none_tl, ?_⟩
  refine List.forall_mem_cons.mpr ⟨(zo_aload_tl _ _), ?_⟩
  refine List.forall_mem_cons.mpr ⟨(zo_getf_tl _ _ _), ?_⟩
  refine List.forall_mem_cons.mpr ⟨zo_none_tl, ?_⟩
  refine List.forall_mem_cons.mpr ⟨zo_none_tl, ?_⟩
  refine List.forall_mem_cons.mpr ⟨(zo_aload_tl _ _), ?_⟩
  refine List.forall_mem_cons.mpr ⟨(zo_getf_tl _ _ _), ?_⟩
  refine List.forall_mem_cons.mpr ⟨zo_none_tl, ?_⟩
  refine List.forall_mem_cons.mpr ⟨zo_none_tl, ?_⟩
  refine List.forall_mem_cons.mpr ⟨(zo_iload_tl _ _), ?_⟩
  refine List.forall_mem_cons.mpr ⟨(zo_iald_tl _ _ _), ?_⟩
  refine List.forall_mem_cons.mpr ⟨(zo_ii_tl _ _), ?_⟩
  refine List.forall_mem_cons.mpr ⟨(zo_pushI_tl _ _), ?_⟩
  refine List.forall_mem_cons.mpr ⟨zo_none_tl, ?_⟩
  refine List.forall_mem_cons.mpr ⟨(zo_icmp_tl _ _ _), ?_⟩
  refine List.forall_mem_cons.mpr ⟨zo_none_tl, ?_⟩
  refine List.forall_mem_cons.mpr ⟨zo_none_tl, ?_⟩
  refine List.forall_mem_cons.mpr ⟨(zo_pushI_tl _ _), ?_⟩
  refine List.forall_mem_cons.mpr ⟨(zo_goto_tl _), ?_⟩
  refine List.forall_mem_cons.mpr ⟨zo_none_tl, ?_⟩
  refine List.forall_mem_cons.mpr ⟨zo_none_tl, ?_⟩
  refine List.forall_mem_cons.mpr ⟨(zo_pushI_tl _ _), ?_⟩
  refine List.forall_mem_cons.mpr ⟨(zo_istore_tl _ _), ?_⟩
  refine List.forall_mem_cons.mpr ⟨zo_none_tl, ?_⟩
  refine List.forall_mem_cons.mpr ⟨(zo_iload_tl _ _), ?_⟩
  refine List.forall_mem_cons.mpr ⟨zo_none_tl, ?_⟩
  refine List.forall_mem_cons.mpr ⟨(zo_if_tl _ _ _), ?_⟩
  refine List.forall_mem_cons.mpr ⟨zo_none_tl, ?_⟩
  refine List.forall_mem_cons.mpr ⟨zo_none_tl, ?_⟩
  refine List.forall_mem_cons.mpr ⟨(zo_aload_tl _ _), ?_⟩
  refine List.forall_mem_cons.mpr ⟨(zo_iload_tl _ _), ?_⟩
  refine List.forall_mem_cons.mpr ⟨(zo_aload_tl _ _), ?_⟩
  refine List.forall_mem_cons.mpr ⟨(zo_aload_tl _ _), ?_⟩
  refine List.forall_mem_cons.mpr ⟨(zo_getf_tl _ _ _), ?_⟩
  refine List.forall_mem_cons.mpr ⟨zo_none_tl, ?_⟩
  refine List.forall_mem_cons.mpr ⟨zo_none_tl, ?_⟩
  refine List.forall_mem_cons.mpr ⟨(zo_iload_tl _ _), ?_⟩
  refine List.forall_mem_cons.mpr ⟨(zo_lald_tl _ _), ?_⟩
  refine List.forall_mem_cons.mpr ⟨(zo_pushI_tl _ _), ?_⟩
  refine List.forall_mem_cons.mpr ⟨zo_none_tl, ?_⟩
  refine List.forall_mem_cons.mpr ⟨(zo_pushI_tl _ _), ?_⟩
  refine List.forall_mem_cons.mpr ⟨(zo_callv_tl _ _ _ _), ?_⟩
  refine List.forall_mem_cons.mpr ⟨zo_none_tl, ?_⟩
  refine List.forall_mem_cons.mpr ⟨zo_none_tl, ?_⟩
  refine List.forall_mem_cons.mpr ⟨(zo_aload_tl _ _), ?_⟩
  refine List.forall_mem_cons.mpr ⟨(zo_getf_tl _ _ _), ?_⟩
  refine List.forall_mem_cons.mpr ⟨zo_none_tl, ?_⟩
  refine List.forall_mem_cons.mpr ⟨zo_none_tl, ?_⟩
  refine List.forall_mem_cons.mpr ⟨(zo_iload_tl _ _), ?_⟩
  refine List.forall_mem_cons.mpr ⟨(zo_lald_tl _ _), ?_⟩
  refine List.forall_mem_cons.mpr ⟨(zo_pushI_tl _ _), ?_⟩
  refine List.forall_mem_cons.mpr ⟨(zo_callv_tl _ _ _ _), ?_⟩
  refine List.forall_mem_cons.mpr ⟨zo_none_tl, ?_⟩
  refine List.forall_mem_cons.mpr ⟨zo_none_tl, ?_⟩
  refine List.forall_mem_cons.mpr ⟨(zo_if_tl _ _ _), ?_⟩
  refine List.forall_mem_cons.mpr ⟨zo_none_tl, ?_⟩
  refine List.forall_mem_cons.mpr ⟨zo_none_tl, ?_⟩
  refine List.forall_mem_cons.mpr ⟨(zo_pushI_tl _ _), ?_⟩
  refine List.forall_mem_cons.mpr ⟨(zo_goto_tl _), ?_⟩
  refine List.forall_mem_cons.mpr ⟨zo_none_tl, ?_⟩
  refine List.forall_mem_cons.mpr ⟨zo_none_tl, ?_⟩
  refine List.forall_mem_cons.mpr ⟨(zo_pushI_tl _ _), ?_⟩
  refine List.forall_mem_cons.mpr ⟨(zo_istore_tl _ _), ?_⟩
  refine List.forall_mem_cons.mpr ⟨zo_none_tl, ?_⟩
  refine List.forall_mem_cons.mpr ⟨(zo_iinc_tl _ _ _), ?_⟩
  refine List.forall_mem_cons.mpr ⟨zo_none_tl, ?_⟩
  refine List.forall_mem_cons.mpr ⟨zo_none_tl, ?_⟩
  refine List.forall_mem_cons.mpr ⟨(zo_goto_tl _), ?_⟩
  refine List.forall_mem_cons.mpr ⟨zo_none_tl, ?_⟩
  refine List.forall_mem_cons.mpr ⟨zo_none_tl, ?_⟩
  refine List.forall_mem_cons.mpr ⟨(zo_iinc_tl _ _ _), ?_⟩
  refine List.forall_mem_cons.mpr ⟨zo_none_tl, ?_⟩
  refine List.forall_mem_cons.mpr ⟨zo_none_tl, ?_⟩
  refine List.forall_mem_cons.mpr ⟨(zo_goto_tl _), ?_⟩
  refine List.forall_mem_cons.mpr ⟨zo_none_tl, ?_⟩
  refine List.forall_mem_cons.mpr ⟨zo_none_tl, ?_⟩
  refine List.forall_mem_cons.mpr ⟨(zo_aload_tl _ _), ?_⟩
  refine List.forall_mem_cons.mpr ⟨(zo_getf_tl _ _ _), ?_⟩
  refine List.forall_mem_cons.mpr ⟨zo_none_tl, ?_⟩
  refine List.forall_mem_cons.mpr ⟨zo_none_tl, ?_⟩
  refine List.forall_mem_cons.mpr ⟨(zo_iret_tl _), ?_⟩
  exact fun _ h => absurd h List.not_mem_nil
noncomputable def fX12_tick : zzFn := zz_fn tX12_tick 6
set_option maxRecDepth 100000 in
set_option maxHeartbeats 4000000 in
theorem mm_X12_tick {l : Launch} {D : va_G} {cA : Nat → ClassId} {ad : Nat → Nat} {Ex : (Nat → Prop) → State → Heap → Prop} (Wd : zzWR l D cA ad Ex) : zz_Cn l D zzCl cA ad zzSR Ex yX12_tick cX12_tick 6 (some .int) 2 52 fX12_tick ∧ zz_Cx l D zzCl cA ad zzSR Ex yX12_tick cX12_tick 6 (some .int) 2 52 fX12_tick := by
  refine zz_meth (plainFor_of_name (by decide)) Wd.1 Wd.2.1 Wd.2.2 (fun p e R s m args below meth c rr X => ?_)
  unfold tX12_tick
  refine zz_cons (k' := 1) rfl (zk_aload_n X dX12_tick_0 rfl rfl) ?_
  refine zz_cons (k' := 2) rfl (zk_iload_n X dX12_tick_1 rfl rfl) ?_
  refine zz_cons (k' := 3) rfl (zk_iconst X dX12_tick_2 (by decide) rfl) ?_
  refine zz_cons (k' := 4) rfl (zk_bipush X dX12_tick_3 (by decide) rfl) ?_
  refine zz_cons (k' := 5) rfl (zz_Ok_none _ _) ?_
  refine zz_cons (k' := 6) rfl (zk_calls X ks_X12_140 (mm_X12_isIn Wd).1 (by decide) dX12_tick_5 rfl) ?_
  refine zz_cons (k' := 7) rfl (zz_Ok_none _ _) ?_
  refine zz_cons (k' := 8) rfl (zz_Ok_none _ _) ?_
  refine zz_cons (k' := 9) rfl (zk_if_ne X dX12_tick_8 (by decide) rfl) ?_
  refine zz_cons (k' := 10) rfl (zz_Ok_none _ _) ?_
  refine zz_cons (k' := 11) rfl (zz_Ok_none _ _) ?_
  refine zz_cons (k' := 12) rfl (zk_iconst X dX12_tick_11 (by decide) rfl) ?_
  refine zz_cons (k' := 13) rfl (zk_goto X dX12_tick_12 (by decide)) ?_
  refine zz_cons (k' := 14) rfl (zz_Ok_none _ _) ?_
  refine zz_cons (k' := 15) rfl (zz_Ok_none _ _) ?_
  refine zz_cons (k' := 16) rfl (zk_aload_n X dX12_tick_15 rfl rfl) ?_
  refine zz_cons (k' := 17) rfl (zk_getf X ff_X12_182 dX12_tick_16 rfl) ?_
  refine zz_cons (k' := 18) rfl (zz_Ok_none _ _) ?_
  refine zz_cons (k' := 19) rfl (zz_Ok_none _ _) ?_
  refine zz_cons (k' := 20) rfl (zk_iload_n X dX12_tick_19 rfl rfl) ?_
  refine zz_cons (k' := 21) rfl (zk_iadd X dX12_tick_20 rfl) ?_
  refine zz_cons (k' := 22) rfl (zk_sipush X dX12_tick_21 (by decide) rfl) ?_
  refine zz_cons (k' := 23) rfl (zz_Ok_none _ _) ?_
  refine zz_cons (k' := 24) rfl (zz_Ok_none _ _) ?_
  refine zz_cons (k' := 25) rfl (zk_icmp_le X dX12_tick_24 (by decide) rfl) ?_
  refine zz_cons (k' := 26) rfl (zz_Ok_none _ _) ?_
  refine zz_cons (k' := 27) rfl (zz_Ok_none _ _) ?_
  refine zz_cons (k' := 28) rfl (zk_iconst X dX12_tick_27 (by decide) rfl) ?_
  refine zz_cons (k' := 29) rfl (zk_goto X dX12_tick_28 (by decide)) ?_
  refine zz_cons (k' := 30) rfl (zz_Ok_none _ _) ?_
  refine zz_cons (k' := 31) rfl (zz_Ok_none _ _) ?_
  refine zz_cons (k' := 32) rfl (zk_iconst X dX12_tick_31 (by decide) rfl) ?_
  refine zz_cons (k' := 33) rfl (zk_callv X (zz_Cv_of (List.forall_mem_cons.mpr ⟨⟨(RX_10, zzT10, 50), yX12_goes, cX12_goes, 2, (some .boolean), 0, 0, rfl, kv_X12_374_10.1, (mm_X12_goes Wd).1, by decide, by decide⟩, (fun _ h => absurd h List.not_mem_nil)⟩)) dX12_tick_32 rfl) ?_
  refine zz_cons (k' := 34) rfl (zz_Ok_none _ _) ?_
  refine zz_cons (k' := 35) rfl (zz_Ok_none _ _) ?_
  refine zz_cons (k' := 36) rfl (zk_if_ne X dX12_tick_35 (by decide) rfl) ?_
  refine zz_cons (k' := 37) rfl (zz_Ok_none _ _) ?_
  refine zz_cons (k' := 38) rfl (zz_Ok_none _ _) ?_
  refine zz_cons (k' := 39) rfl (zk_iconst X dX12_tick_38 (by decide) rfl) ?_
  refine zz_cons (k' := 40) rfl (zk_iret X rfl dX12_tick_39) ?_
  refine zz_cons (k' := 41) rfl (zk_iconst X dX12_tick_40 (by decide) rfl) ?_
  refine zz_cons (k' := 42) rfl (zk_istore_n X dX12_tick_41 rfl (by decide) rfl) ?_
  refine zz_cons (k' := 43) rfl (zk_iload_n X dX12_tick_42 rfl rfl) ?_
  refine zz_cons (k' := 44) rfl (zk_iload_n X dX12_tick_43 rfl rfl) ?_
  refine zz_cons (k' := 45) rfl (zk_icmp_ge X dX12_tick_44 (by decide) rfl) ?_
  refine zz_cons (k' := 46) rfl (zz_Ok_none _ _) ?_
  refine zz_cons (k' := 47) rfl (zz_Ok_none _ _) ?_
  refine zz_cons (k' := 48) rfl (zk_aload_n X dX12_tick_47 rfl rfl) ?_
  refine zz_cons (k' := 49) rfl (zk_dup X dX12_tick_48 rfl) ?_
  refine zz_cons (k' := 50) rfl (zk_getf X ff_X12_182 dX12_tick_49 rfl) ?_
  refine zz_cons (k' := 51) rfl (zz_Ok_none _ _) ?_
  refine zz_cons (k' := 52) rfl (zz_Ok_none _ _) ?_
  refine zz_cons (k' := 53) rfl (zk_iconst X dX12_tick_52 (by decide) rfl) ?_
  refine zz_cons (k' := 54) rfl (zk_iadd X dX12_tick_53 rfl) ?_
  refine zz_cons (k' := 55) rfl (zk_putf X ff_X12_182 fp_10_48 dX12_tick_54 rfl) ?_
  refine zz_cons (k' := 56) rfl (zz_Ok_none _ _) ?_
  refine zz_cons (k' := 57) rfl (zz_Ok_none _ _) ?_
  refine zz_cons (k' := 58) rfl (zk_iconst X dX12_tick_57 (by decide) rfl) ?_
  refine zz_cons (k' := 59) rfl (zk_istore_n X dX12_tick_58 rfl (by decide) rfl) ?_
  refine zz_cons (k' := 60) rfl (zk_iload_n X dX12_tick_59 rfl rfl) ?_
  refine zz_cons (k' := 61) rfl (zk_aload_n X dX12_tick_60 rfl rfl) ?_
  refine zz_cons (k' := 62) rfl (zk_getf X ff_X12_137 dX12_tick_61 rfl) ?_
  refine zz_cons (k' := 63) rfl (zz_Ok_none _ _) ?_
  refine zz_cons (k' := 64) rfl (zz_Ok_none _ _) ?_
  refine zz_cons (k' := 65) rfl (zk_icmp_ge X dX12_tick_64 (by decide) rfl) ?_
  refine zz_cons (k' := 66) rfl (zz_Ok_none _ _) ?_
  refine zz_cons (k' := 67) rfl (zz_Ok_none _ _) ?_
  refine zz_cons (k' := 68) rfl (zk_aload_n X dX12_tick_67 rfl rfl) ?_
  refine zz_cons (k' := 69) rfl (zk_getf X ff_X12_25 dX12_tick_68 rfl) ?_
  refine zz_cons (k' := 70) rfl (zz_Ok_none _ _) ?_
  refine zz_cons (k' := 71) rfl (zz_Ok_none _ _) ?_
  refine zz_cons (k' := 72) rfl (zk_iload_n X dX12_tick_71 rfl rfl) ?_
  refine zz_cons (k' := 73) rfl (zk_iald X (zzWR_st Wd) dX12_tick_72 rfl) ?_
  refine zz_cons (k' := 74) rfl (zk_iconst X dX12_tick_73 (by decide) rfl) ?_
  refine zz_cons (k' := 75) rfl (zk_icmp_ne X dX12_tick_74 (by decide) rfl) ?_
  refine zz_cons (k' := 76) rfl (zz_Ok_none _ _) ?_
  refine zz_cons (k' := 77) rfl (zz_Ok_none _ _) ?_
  refine zz_cons (k' := 78) rfl (zk_aload_n X dX12_tick_77 rfl rfl) ?_
  refine zz_cons (k' := 79) rfl (zk_iload_n X dX12_tick_78 rfl rfl) ?_
  refine zz_cons (k' := 80) rfl (zk_callv X (zz_Cv_of (List.forall_mem_cons.mpr ⟨⟨(RX_10, zzT10, 50), yX12_isGone, cX12_isGone, 2, (some .boolean), 1, 23, rfl, kv_X12_386_10.1, (mm_X12_isGone Wd).1, by decide, by decide⟩, (fun _ h => absurd h List.not_mem_nil)⟩)) dX12_tick_79 rfl) ?_
  refine zz_cons (k' := 81) rfl (zz_Ok_none _ _) ?_
  refine zz_cons (k' := 82) rfl (zz_Ok_none _ _) ?_
  refine zz_cons (k' := 83) rfl (zk_if_ne X dX12_tick_82 (by decide) rfl) ?_
  refine zz_cons (k' := 84) rfl (zz_Ok_none _ _) ?_
  refine zz_cons (k' := 85) rfl (zz_Ok_none _ _) ?_
  refine zz_cons (k' := 86) rfl (zk_aload_n X dX12_tick_85 rfl rfl) ?_
  refine zz_cons (k' := 87) rfl (zk_getf X ff_X12_182 dX12_tick_86 rfl) ?_
  refine zz_cons (k' := 88) rfl (zz_Ok_none _ _) ?_
  refine zz_cons (k' := 89) rfl (zz_Ok_none _ _) ?_
  refine zz_cons (k' := 90) rfl (zk_aload_n X dX12_tick_89 rfl rfl) ?_
  refine zz_cons (k' := 91) rfl (zk_getf X ff_X12_41 dX12_tick_90 rfl) ?_
  refine zz_cons (k' := 92) rfl (zz_Ok_none _ _) ?_
  refine zz_cons (k' := 93) rfl (zz_Ok_none _ _) ?_
  refine zz_cons (k' := 94) rfl (zk_iload_n X dX12_tick_93 rfl rfl) ?_
  refine zz_cons (k' := 95) rfl (zk_iald X (zzWR_st Wd) dX12_tick_94 rfl) ?_
  refine zz_cons (k' := 96) rfl (zk_isub X dX12_tick_95 rfl) ?_
  refine zz_cons (k' := 97) rfl (zk_bipush X dX12_tick_96 (by decide) rfl) ?_
  refine zz_cons (k' := 98) rfl (zz_Ok_none _ _) ?_
  refine zz_cons (k' := 99) rfl (zk_icmp_le X dX12_tick_98 (by decide) rfl) ?_
  refine zz_cons (k' := 100) rfl (zz_Ok_none _ _) ?_
  refine zz_cons (k' := 101) rfl (zz_Ok_none _ _) ?_
  refine zz_cons (k' := 102) rfl (zk_iconst X dX12_tick_101 (by decide) rfl) ?_
  refine zz_cons (k' := 103) rfl (zk_goto X dX12_tick_102 (by decide)) ?_
  refine zz_cons (k' := 104) rfl (zz_Ok_none _ _) ?_
  refine zz_cons (k' := 105) rfl (zz_Ok_none _ _) ?_
  refine zz_cons (k' := 106) rfl (zk_iconst X dX12_tick_105 (by decide) rfl) ?_
  refine zz_cons (k' := 107) rfl (zk_istore X dX12_tick_106 (by decide) rfl) ?_
  refine zz_cons (k' := 108) rfl (zz_Ok_none _ _) ?_
  refine zz_cons (k' := 109) rfl (zk_iload X dX12_tick_108 rfl) ?_
  refine zz_cons (k' := 110) rfl (zz_Ok_none _ _) ?_
  refine zz_cons (k' := 111) rfl (zk_if_eq X dX12_tick_110 (by decide) rfl) ?_
  refine zz_cons (k' := 112) rfl (zz_Ok_none _ _) ?_
  refine zz_cons (k' := 113) rfl (zz_Ok_none _ _) ?_
  refine zz_cons (k' := 114) rfl (zk_aload_n X dX12_tick_113 rfl rfl) ?_
  refine zz_cons (k' := 115) rfl (zk_iload_n X dX12_tick_114 rfl rfl) ?_
  refine zz_cons (k' := 116) rfl (zk_aload_n X dX12_tick_115 rfl rfl) ?_
  refine zz_cons (k' := 117) rfl (zk_aload_n X dX12_tick_116 rfl rfl) ?_
  refine zz_cons (k' := 118) rfl (zk_getf X ff_X12_28 dX12_tick_117 rfl) ?_
  refine zz_cons (k' := 119) rfl (zz_Ok_none _ _) ?_
  refine zz_cons (k' := 120) rfl (zz_Ok_none _ _) ?_
  refine zz_cons (k' := 121) rfl (zk_iload_n X dX12_tick_120 rfl rfl) ?_
  refine zz_cons (k' := 122) rfl (zk_lald X dX12_tick_121 rfl) ?_
  refine zz_cons (k' := 123) rfl (zk_bipush X dX12_tick_122 (by decide) rfl) ?_
  refine zz_cons (k' := 124) rfl (zz_Ok_none _ _) ?_
  refine zz_cons (k' := 125) rfl (zk_iconst X dX12_tick_124 (by decide) rfl) ?_
  refine zz_cons (k' := 126) rfl (zk_callv X (zz_Cv_of (List.forall_mem_cons.mpr ⟨⟨(RX_10, zzT10, 50), yX12_with, cX12_with, 7, (some .long), 0, 0, rfl, kv_X12_150_10.1, (mm_X12_with Wd).1, by decide, by decide⟩, (fun _ h => absurd h List.not_mem_nil)⟩)) dX12_tick_125 rfl) ?_
  refine zz_cons (k' := 127) rfl (zz_Ok_none _ _) ?_
  refine zz_cons (k' := 128) rfl (zz_Ok_none _ _) ?_
  refine zz_cons (k' := 129) rfl (zk_aload_n X dX12_tick_128 rfl rfl) ?_
  refine zz_cons (k' := 130) rfl (zk_getf X ff_X12_32 dX12_tick_129 rfl) ?_
  refine zz_cons (k' := 131) rfl (zz_Ok_none _ _) ?_
  refine zz_cons (k' := 132) rfl (zz_Ok_none _ _) ?_
  refine zz_cons (k' := 133) rfl (zk_iload_n X dX12_tick_132 rfl rfl) ?_
  refine zz_cons (k' := 134) rfl (zk_lald X dX12_tick_133 rfl) ?_
  refine zz_cons (k' := 135) rfl (zk_iconst X dX12_tick_134 (by decide) rfl) ?_
  refine zz_cons (k' := 136) rfl (zk_callv X (zz_Cv_of (List.forall_mem_cons.mpr ⟨⟨(RX_10, zzT10, 50), yX12_puts, cX12_puts, 8, (some .boolean), 1, 25, rfl, kv_X12_185_10.1, (mm_X12_puts Wd).1, by decide, by decide⟩, (fun _ h => absurd h List.not_mem_nil)⟩)) dX12_tick_135 rfl) ?_
  refine zz_cons (k' := 137) rfl (zz_Ok_none _ _) ?_
  refine zz_cons (k' := 138) rfl (zz_Ok_none _ _) ?_
  refine zz_cons (k' := 139) rfl (zk_if_eq X dX12_tick_138 (by decide) rfl) ?_
  refine zz_cons (k' := 140) rfl (zz_Ok_none _ _) ?_
  refine zz_cons (k' := 141) rfl (zz_Ok_none _ _) ?_
  refine zz_cons (k' := 142) rfl (zk_iconst X dX12_tick_141 (by decide) rfl) ?_
  refine zz_cons (k' := 143) rfl (zk_goto X dX12_tick_142 (by decide)) ?_
  refine zz_cons (k' := 144) rfl (zz_Ok_none _ _) ?_
  refine zz_cons (k' := 145) rfl (zz_Ok_none _ _) ?_
  refine zz_cons (k' := 146) rfl (zk_iconst X dX12_tick_145 (by decide) rfl) ?_
  refine zz_cons (k' := 147) rfl (zk_istore X dX12_tick_146 (by decide) rfl) ?_
  refine zz_cons (k' := 148) rfl (zz_Ok_none _ _) ?_
  refine zz_cons (k' := 149) rfl (zk_iinc X dX12_tick_148 (by decide) (by decide) rfl) ?_
  refine zz_cons (k' := 150) rfl (zz_Ok_none _ _) ?_
  refine zz_cons (k' := 151) rfl (zz_Ok_none _ _) ?_
  refine zz_cons (k' := 152) rfl (zk_goto X dX12_tick_151 (by decide)) ?_
  refine zz_cons (k' := 153) rfl (zz_Ok_none _ _) ?_
  refine zz_cons (k' := 154) rfl (zz_Ok_none _ _) ?_
  refine zz_cons (k' := 155) rfl (zk_iinc X dX12_tick_154 (by decide) (by decide) rfl) ?_
  refine zz_cons (k' := 156) rfl (zz_Ok_none _ _) ?_
  refine zz_cons (k' := 157) rfl (zz_Ok_none _ _) ?_
  refine zz_cons (k' := 158) rfl (zk_goto X dX12_tick_157 (by decide)) ?_
  refine zz_cons (k' := 159) rfl (zz_Ok_none _ _) ?_
  refine zz_cons (k' := 160) rfl (zz_Ok_none _ _) ?_
  refine zz_cons (k' := 161) rfl (zk_aload_n X dX12_tick_160 rfl rfl) ?_
  refine zz_cons (k' := 162) rfl (zk_getf X ff_X12_182 dX12_tick_161 rfl) ?_
  refine zz_cons (k' := 163) rfl (zz_Ok_none _ _) ?_
  refine zz_cons (k' := 164) rfl (zz_Ok_none _ _) ?_
  refine zz_cons (k' := 165) rfl (zk_iret X rfl dX12_tick_164) ?_
  exact trivial
noncomputable def tX12_beat : List zzOp := [
  zo_aload 0 1,
  zo_aload 0 2,
  zo_iload 1 3,
  zo_callv zzSR (zz_cl [(10, fX12_isObject)]) 1 6,
  zo_none,
  zo_none,
  zo_if (fun x => decide (¬ x = 0)) 13 9,
  zo_none,
  zo_none,
  zo_pushI 1 10,
  zo_goto 28,
  zo_none,
  zo_none,
  zo_aload 0 14,
  zo_getf zzSR (zz_kf [10] 6) 17,
  zo_none,
  zo_none,
  zo_iload 1 18,
  zo_iald zzSR zzSTR 19,
  zo_pushI 4 20,
  zo_icmp (fun x y => decide (¬ x = y)) 27 23,
  zo_none,
  zo_none,
  zo_pushI 0 24,
  zo_goto 28,
  zo_none,
  zo_none,
  zo_pushI 2 28,
  zo_callv zzSR (zz_cl [(10, fX12_goes)]) 1 31,
  zo_none,
  zo_none,
  zo_if (fun x => decide (¬ x = 0)) 36 34,
  zo_none,
  zo_none,
  zo_pushI 0 35,
  zo_iret true,
  zo_aload 0 37,
  zo_aload 0 38,
  zo_getf zzSR (zz_kf [10] 7) 41,
  zo_none,
  zo_none,
  zo_iload 1 42,
  zo_lald zzSR 43,
  zo_pushI 14 45,
  zo_none,
  zo_callv zzSR (zz_cl [(10, fX12_get)]) 2 48,
  zo_none,
  zo_none,
  zo_pushI 1 49,
  zo_icmp (fun x y => decide (¬ x = y)) 56 52,
  zo_none,
  zo_none,
  zo_pushI 1 53,
  zo_goto 57,
  zo_none,
  zo_none,
  zo_pushI 0 57,
  zo_istore 2 58,
  zo_aload 0 59,
  zo_iload 1 60,
  zo_callv zzSR (zz_cl [(10, fX12_isGone)]) 1 63,
  zo_none,
  zo_none,
  zo_if (fun x => decide (¬ x = 0)) 94 66,
  zo_none,
  zo_none,
  zo_aload 0 67,
  zo_iload 1 68,
  zo_aload 0 69,
  zo_aload 0 70,
  zo_getf zzSR (zz_kf [10] 7) 73,
  zo_none,
  zo_none,
  zo_iload 1 74,
  zo_lald zzSR 75,
  zo_pushI 14 77,
  zo_none,
  zo_pushI 1 78,
  zo_callv zzSR (zz_cl [(10, fX12_with)]) 3 81,
  zo_none,
  zo_none,
  zo_aload 0 82,
  zo_getf zzSR (zz_kf [10] 8) 85,
  zo_none,
  zo_none,
  zo_iload 1 86,
  zo_lald zzSR 87,
  zo_pushI 0 88,
  zo_callv zzSR (zz_cl [(10, fX12_puts)]) 4 91,
  zo_none,
  zo_none,
  zo_if (fun x => decide (¬ x = 0)) 98 94,
  zo_none,
  zo_none,
  zo_pushI 1 95,
  zo_goto 99,
  zo_none,
  zo_none,
  zo_pushI 0 99,
  zo_istore 3 100,
  zo_aload 0 101,
  zo_iload 3 102,
  zo_if (fun x => decide (x = 0)) 109 105,
  zo_none,
  zo_none,
  zo_pushI 3 106,
  zo_goto 110,
  zo_none,
  zo_none,
  zo_pushI 0 110,
  zo_callv zzSR (zz_cl [(10, fX12_goes)]) 1 113,
  zo_none,
  zo_none,
  zo_if (fun x => decide (¬ x = 0)) 118 116,
  zo_none,
  zo_none,
  zo_pushI 0 117,
  zo_iret true,
  zo_aload 0 119,
  zo_getf zzSR (zz_kf [10] 11) 122,
  zo_none,
  zo_none,
  zo_iload 1 123,
  zo_aload 0 124,
  zo_getf zzSR (zz_kf [10] 48) 127,
  zo_none,
  zo_none,
  zo_iast zzSR 128,
  zo_iload 2 129,
  zo_iret true]
set_option maxRecDepth 100000 in
theorem tl_X12_beat : ∀ pc, zz_Tl (tX12_beat.getD pc zo_none) := by
  refine zz_Tl_mem ?_
  unfold tX12_beat
  refine List.forall_mem_cons.mpr ⟨(zo_aload_tl _ _), ?_⟩
  refine List.forall_mem_cons.mpr ⟨(zo_aload_tl _ _), ?_⟩
  refine List.forall_mem_cons.mpr ⟨(zo_iload_tl _ _), ?_⟩
  refine List.forall_mem_cons.mpr ⟨(zo_callv_tl _ _ _ _), ?_⟩
  refine List.forall_mem_cons.mpr ⟨zo_none_tl, ?_⟩
  refine List.forall_mem_cons.mpr ⟨zo_none_tl, ?_⟩
  refine List.forall_mem_cons.mpr ⟨(zo_if_tl _ _ _), ?_⟩
  refine List.forall_mem_cons.mpr ⟨zo_none_tl, ?_⟩
  refine List.forall_mem_cons.mpr ⟨zo_none_tl, ?_⟩
  refine List.forall_mem_cons.mpr ⟨(zo_pushI_tl _ _), ?_⟩
  refine List.forall_mem_cons.mpr ⟨(zo_goto_tl _), ?_⟩
  refine List.forall_mem_cons.mpr ⟨zo_none_tl, ?_⟩
  refine List.forall_mem_cons.mpr ⟨zo_none_tl, ?_⟩
  refine List.forall_mem_cons.mpr ⟨(zo_aload_tl _ _), ?_⟩
  refine List.forall_mem_cons.mpr ⟨(zo_getf_tl _ _ _), ?_⟩
  refine List.forall_mem_cons.mpr ⟨zo_none_tl, ?_⟩
  refine List.forall_mem_cons.mpr ⟨zo_none_tl, ?_⟩
  refine List.forall_mem_cons.mpr ⟨(zo_iload_tl _ _), ?_⟩
  refine List.forall_mem_cons.mpr ⟨(zo_iald_tl _ _ _), ?_⟩
  refine List.forall_mem_cons.mpr ⟨(zo_pushI_tl _ _), ?_⟩
  refine List.forall_mem_cons.mpr ⟨(zo_icmp_tl _ _ _), ?_⟩
  refine List.forall_mem_cons.mpr ⟨zo_none_tl, ?_⟩
  refine List.forall_mem_cons.mpr ⟨zo_none_tl, ?_⟩
  refine List.forall_mem_cons.mpr ⟨(zo_pushI_tl _ _), ?_⟩
  refine List.forall_mem_cons.mpr ⟨(zo_goto_tl _), ?_⟩
  refine List.forall_mem_cons.mpr ⟨zo_none_tl, ?_⟩
  refine List.forall_mem_cons.mpr ⟨zo_none_tl, ?_⟩
  refine List.forall_mem_cons.mpr ⟨(zo_pushI_tl _ _), ?_⟩
  refine List.forall_mem_cons.mpr ⟨(zo_callv_tl _ _ _ _), ?_⟩
  refine List.forall_mem_cons.mpr ⟨zo_none_tl, ?_⟩
  refine List.forall_mem_cons.mpr ⟨zo_none_tl, ?_⟩
  refine List.forall_mem_cons.mpr ⟨(zo_if_tl _ _ _), ?_⟩
  refine List.forall_mem_cons.mpr ⟨zo_none_tl, ?_⟩
  refine List.forall_mem_cons.mpr ⟨zo_none_tl, ?_⟩
  refine List.forall_mem_cons.mpr ⟨(zo_pushI_tl _ _), ?_⟩
  refine List.forall_mem_cons.mpr ⟨(zo_iret_tl _), ?_⟩
  refine List.forall_mem_cons.mpr ⟨(zo_aload_tl _ _), ?_⟩
  refine List.forall_mem_cons.mpr ⟨(zo_aload_tl _ _), ?_⟩
  refine List.forall_mem_cons.mpr ⟨(zo_getf_tl _ _ _), ?_⟩
  refine List.forall_mem_cons.mpr ⟨zo_none_tl, ?_⟩
  refine List.forall_mem_cons.mpr ⟨zo_none_tl, ?_⟩
  refine List.forall_mem_cons.mpr ⟨(zo_iload_tl _ _), ?_⟩
  refine List.forall_mem_cons.mpr ⟨(zo_lald_tl _ _), ?_⟩
  refine List.forall_mem_cons.mpr ⟨(zo_pushI_tl _ _), ?_⟩
  refine List.forall_mem_cons.mpr ⟨zo_none_tl, ?_⟩
  refine List.forall_mem_cons.mpr ⟨(zo_callv_tl _ _ _ _), ?_⟩
  refine List.forall_mem_cons.mpr ⟨zo_none_tl, ?_⟩
  refine List.forall_mem_cons.mpr ⟨zo_none_tl, ?_⟩
  refine List.forall_mem_cons.mpr ⟨(zo_pushI_tl _ _), ?_⟩
  refine List.forall_mem_cons.mpr ⟨(zo_icmp_tl _ _ _), ?_⟩
  refine List.forall_mem_cons.mpr ⟨zo_none_tl, ?_⟩
  refine List.forall_mem_cons.mpr ⟨zo_none_tl, ?_⟩
  refine List.forall_mem_cons.mpr ⟨(zo_pushI_tl _ _), ?_⟩
  refine List.forall_mem_cons.mpr ⟨(zo_goto_tl _), ?_⟩
  refine List.forall_mem_cons.mpr ⟨zo_none_tl, ?_⟩
  refine List.forall_mem_cons.mpr ⟨zo_none_tl, ?_⟩
  refine List.forall_mem_cons.mpr ⟨(zo_pushI_tl _ _), ?_⟩
  refine List.forall_mem_cons.mpr ⟨(zo_istore_tl _ _), ?_⟩
  refine List.forall_mem_cons.mpr ⟨(zo_aload_tl _ _), ?_⟩
  refine List.forall_mem_cons.mpr ⟨(zo_iload_tl _ _), ?_⟩
  refine List.forall_mem_cons.mpr ⟨(zo_callv_tl _ _ _ _), ?_⟩
  refine List.forall_mem_cons.mpr ⟨zo_none_tl, ?_⟩
  refine List.forall_mem_cons.mpr ⟨zo_none_tl, ?_⟩
  refine List.forall_mem_cons.mpr ⟨(zo_if_tl _ _ _), ?_⟩
  refine List.forall_mem_cons.mpr ⟨zo_none_tl, ?_⟩
  refine List.forall_mem_cons.mpr ⟨zo_none_tl, ?_⟩
  refine List.forall_mem_cons.mpr ⟨(zo_aload_tl _ _), ?_⟩
  refine List.forall_mem_cons.mpr ⟨(zo_iload_tl _ _), ?_⟩
  refine List.forall_mem_cons.mpr ⟨(zo_aload_tl _ _), ?_⟩
  refine List.forall_mem_cons.mpr ⟨(zo_aload_tl _ _), ?_⟩
  refine List.forall_mem_cons.mpr ⟨(zo_getf_tl _ _ _), ?_⟩
  refine List.forall_mem_cons.mpr ⟨zo_none_tl, ?_⟩
  refine List.forall_mem_cons.mpr ⟨zo_none_tl, ?_⟩
  refine List.forall_mem_cons.mpr ⟨(zo_iload_tl _ _), ?_⟩
  refine List.forall_mem_cons.mpr ⟨(zo_lald_tl _ _), ?_⟩
  refine List.forall_mem_cons.mpr ⟨(zo_pushI_tl _ _), ?_⟩
  refine List.forall_mem_cons.mpr ⟨zo_none_tl, ?_⟩
  refine List.forall_mem_cons.mpr ⟨(zo_pushI_tl _ _), ?_⟩
  refine List.forall_mem_cons.mpr ⟨(zo_callv_tl _ _ _ _), ?_⟩
  refine List.forall_mem_cons.mpr ⟨zo_none_tl, ?_⟩
  refine List.forall_mem_cons.mpr ⟨zo_none_tl, ?_⟩
  refine List.forall_mem_cons.mpr ⟨(zo_aload_tl _ _), ?_⟩
  refine List.forall_mem_cons.mpr ⟨(zo_getf_tl _ _ _), ?_⟩
  refine List.forall_mem_cons.mpr ⟨zo_none_tl, ?_⟩
  refine List.forall_mem_cons.mpr ⟨zo_none_tl, ?_⟩
  refine List.forall_mem_cons.mpr ⟨(zo_iload_tl _ _), ?_⟩
  refine List.forall_mem_cons.mpr ⟨(zo_lald_tl _ _), ?_⟩
  refine List.forall_mem_cons.mpr ⟨(zo_pushI_tl _ _), ?_⟩
  refine List.forall_mem_cons.mpr ⟨(zo_callv_tl _ _ _ _), ?_⟩
  refine List.forall_mem_cons.mpr ⟨zo_none_tl, ?_⟩
  refine List.forall_mem_cons.mpr ⟨zo_none_tl, ?_⟩
  refine List.forall_mem_cons.mpr ⟨(zo_if_tl _ _ _), ?_⟩
  refine List.forall_mem_cons.mpr ⟨zo_none_tl, ?_⟩
  refine List.forall_mem_cons.mpr ⟨zo_none_tl, ?_⟩
  refine List.forall_mem_cons.mpr ⟨(zo_pushI_tl _ _), ?_⟩
  refine List.forall_mem_cons.mpr ⟨(zo_goto_tl _), ?_⟩
  refine List.forall_mem_cons.mpr ⟨zo_none_tl, ?_⟩
  refine List.forall_mem_cons.mpr ⟨zo_none_tl, ?_⟩
  refine List.forall_mem_cons.mpr ⟨(zo_pushI_tl _ _), ?_⟩
  refine List.forall_mem_cons.mpr ⟨(zo_istore_tl _ _), ?_⟩
  refine List.forall_mem_cons.mpr ⟨(zo_aload_tl _ _), ?_⟩
  refine List.forall_mem_cons.mpr ⟨(zo_iload_tl _ _), ?_⟩
  refine List.forall_mem_cons.mpr ⟨(zo_if_tl _ _ _), ?_⟩
  refine List.forall_mem_cons.mpr ⟨zo_none_tl, ?_⟩
  refine List.forall_mem_cons.mpr ⟨zo_none_tl, ?_⟩
  refine List.forall_mem_cons.mpr ⟨(zo_pushI_tl _ _), ?_⟩
  refine List.forall_mem_cons.mpr ⟨(zo_goto_tl _), ?_⟩
  refine List.forall_mem_cons.mpr ⟨zo_none_tl, ?_⟩
  refine List.forall_mem_cons.mpr ⟨zo_none_tl, ?_⟩
  refine List.forall_mem_cons.mpr ⟨(zo_pushI_tl _ _), ?_⟩
  refine List.forall_mem_cons.mpr ⟨(zo_callv_tl _ _ _ _), ?_⟩
  refine List.forall_mem_cons.mpr ⟨zo_none_tl, ?_⟩
  refine List.forall_mem_cons.mpr ⟨zo_none_tl, ?_⟩
  refine List.forall_mem_cons.mpr ⟨(zo_if_tl _ _ _), ?_⟩
  refine List.forall_mem_cons.mpr ⟨zo_none_tl, ?_⟩
  refine List.forall_mem_cons.mpr ⟨zo_none_tl, ?_⟩
  refine List.forall_mem_cons.mpr ⟨(zo_pushI_tl _ _), ?_⟩
  refine List.forall_mem_cons.mpr ⟨(zo_iret_tl _), ?_⟩
  refine List.forall_mem_cons.mpr ⟨(zo_aload_tl _ _), ?_⟩
  refine List.forall_mem_cons.mpr ⟨(zo_getf_tl _ _ _), ?_⟩
  refine List.forall_mem_cons.mpr ⟨zo_none_tl, ?_⟩
  refine List.forall_mem_cons.mpr ⟨zo_none_tl, ?_⟩
  refine List.forall_mem_cons.mpr ⟨(zo_iload_tl _ _), ?_⟩
  refine List.forall_mem_cons.mpr ⟨(zo_aload_tl _ _), ?_⟩
  refine List.forall_mem_cons.mpr ⟨(zo_getf_tl _ _ _), ?_⟩
  refine List.forall_mem_cons.mpr ⟨zo_none_tl, ?_⟩
  refine List.forall_mem_cons.mpr ⟨zo_none_tl, ?_⟩
  refine List.forall_mem_cons.mpr ⟨(zo_iast_tl _ _), ?_⟩
  refine List.forall_mem_cons.mpr ⟨(zo_iload_tl _ _), ?_⟩
  refine List.forall_mem_cons.mpr ⟨(zo_iret_tl _), ?_⟩
  exact fun _ h => absurd h List.not_mem_nil
noncomputable def fX12_beat : zzFn := zz_fn tX12_beat 4
set_option maxRecDepth 100000 in
set_option maxHeartbeats 4000000 in
theorem mm_X12_beat {l : Launch} {D : va_G} {cA : Nat → ClassId} {ad : Nat → Nat} {Ex : (Nat → Prop) → State → Heap → Prop} (Wd : zzWR l D cA ad Ex) : zz_Cn l D zzCl cA ad zzSR Ex yX12_beat cX12_beat 4 (some .boolean) 2 52 fX12_beat ∧ zz_Cx l D zzCl cA ad zzSR Ex yX12_beat cX12_beat 4 (some .boolean) 2 52 fX12_beat := by
  refine zz_meth (plainFor_of_name (by decide)) Wd.1 Wd.2.1 Wd.2.2 (fun p e R s m args below meth c rr X => ?_)
  unfold tX12_beat
  refine zz_cons (k' := 1) rfl (zk_aload_n X dX12_beat_0 rfl rfl) ?_
  refine zz_cons (k' := 2) rfl (zk_aload_n X dX12_beat_1 rfl rfl) ?_
  refine zz_cons (k' := 3) rfl (zk_iload_n X dX12_beat_2 rfl rfl) ?_
  refine zz_cons (k' := 4) rfl (zk_callv X (zz_Cv_of (List.forall_mem_cons.mpr ⟨⟨(RX_10, zzT10, 50), yX12_isObject, cX12_isObject, 2, (some .boolean), 1, 22, rfl, kv_X12_377_10.1, (mm_X12_isObject Wd).1, by decide, by decide⟩, (fun _ h => absurd h List.not_mem_nil)⟩)) dX12_beat_3 rfl) ?_
  refine zz_cons (k' := 5) rfl (zz_Ok_none _ _) ?_
  refine zz_cons (k' := 6) rfl (zz_Ok_none _ _) ?_
  refine zz_cons (k' := 7) rfl (zk_if_ne X dX12_beat_6 (by decide) rfl) ?_
  refine zz_cons (k' := 8) rfl (zz_Ok_none _ _) ?_
  refine zz_cons (k' := 9) rfl (zz_Ok_none _ _) ?_
  refine zz_cons (k' := 10) rfl (zk_iconst X dX12_beat_9 (by decide) rfl) ?_
  refine zz_cons (k' := 11) rfl (zk_goto X dX12_beat_10 (by decide)) ?_
  refine zz_cons (k' := 12) rfl (zz_Ok_none _ _) ?_
  refine zz_cons (k' := 13) rfl (zz_Ok_none _ _) ?_
  refine zz_cons (k' := 14) rfl (zk_aload_n X dX12_beat_13 rfl rfl) ?_
  refine zz_cons (k' := 15) rfl (zk_getf X ff_X12_25 dX12_beat_14 rfl) ?_
  refine zz_cons (k' := 16) rfl (zz_Ok_none _ _) ?_
  refine zz_cons (k' := 17) rfl (zz_Ok_none _ _) ?_
  refine zz_cons (k' := 18) rfl (zk_iload_n X dX12_beat_17 rfl rfl) ?_
  refine zz_cons (k' := 19) rfl (zk_iald X (zzWR_st Wd) dX12_beat_18 rfl) ?_
  refine zz_cons (k' := 20) rfl (zk_iconst X dX12_beat_19 (by decide) rfl) ?_
  refine zz_cons (k' := 21) rfl (zk_icmp_ne X dX12_beat_20 (by decide) rfl) ?_
  refine zz_cons (k' := 22) rfl (zz_Ok_none _ _) ?_
  refine zz_cons (k' := 23) rfl (zz_Ok_none _ _) ?_
  refine zz_cons (k' := 24) rfl (zk_iconst X dX12_beat_23 (by decide) rfl) ?_
  refine zz_cons (k' := 25) rfl (zk_goto X dX12_beat_24 (by decide)) ?_
  refine zz_cons (k' := 26) rfl (zz_Ok_none _ _) ?_
  refine zz_cons (k' := 27) rfl (zz_Ok_none _ _) ?_
  refine zz_cons (k' := 28) rfl (zk_iconst X dX12_beat_27 (by decide) rfl) ?_
  refine zz_cons (k' := 29) rfl (zk_callv X (zz_Cv_of (List.forall_mem_cons.mpr ⟨⟨(RX_10, zzT10, 50), yX12_goes, cX12_goes, 2, (some .boolean), 0, 0, rfl, kv_X12_374_10.1, (mm_X12_goes Wd).1, by decide, by decide⟩, (fun _ h => absurd h List.not_mem_nil)⟩)) dX12_beat_28 rfl) ?_
  refine zz_cons (k' := 30) rfl (zz_Ok_none _ _) ?_
  refine zz_cons (k' := 31) rfl (zz_Ok_none _ _) ?_
  refine zz_cons (k' := 32) rfl (zk_if_ne X dX12_beat_31 (by decide) rfl) ?_
  refine zz_cons (k' := 33) rfl (zz_Ok_none _ _) ?_
  refine zz_cons (k' := 34) rfl (zz_Ok_none _ _) ?_
  refine zz_cons (k' := 35) rfl (zk_iconst X dX12_beat_34 (by decide) rfl) ?_
  refine zz_cons (k' := 36) rfl (zk_iret X rfl dX12_beat_35) ?_
  refine zz_cons (k' := 37) rfl (zk_aload_n X dX12_beat_36 rfl rfl) ?_
  refine zz_cons (k' := 38) rfl (zk_aload_n X dX12_beat_37 rfl rfl) ?_
  refine zz_cons (k' := 39) rfl (zk_getf X ff_X12_28 dX12_beat_38 rfl) ?_
  refine zz_cons (k' := 40) rfl (zz_Ok_none _ _) ?_
  refine zz_cons (k' := 41) rfl (zz_Ok_none _ _) ?_
  refine zz_cons (k' := 42) rfl (zk_iload_n X dX12_beat_41 rfl rfl) ?_
  refine zz_cons (k' := 43) rfl (zk_lald X dX12_beat_42 rfl) ?_
  refine zz_cons (k' := 44) rfl (zk_bipush X dX12_beat_43 (by decide) rfl) ?_
  refine zz_cons (k' := 45) rfl (zz_Ok_none _ _) ?_
  refine zz_cons (k' := 46) rfl (zk_callv X (zz_Cv_of (List.forall_mem_cons.mpr ⟨⟨(RX_10, zzT10, 50), yX12_get, cX12_get, 4, (some .int), 0, 0, rfl, kv_X12_146_10.1, (mm_X12_get Wd).1, by decide, by decide⟩, (fun _ h => absurd h List.not_mem_nil)⟩)) dX12_beat_45 rfl) ?_
  refine zz_cons (k' := 47) rfl (zz_Ok_none _ _) ?_
  refine zz_cons (k' := 48) rfl (zz_Ok_none _ _) ?_
  refine zz_cons (k' := 49) rfl (zk_iconst X dX12_beat_48 (by decide) rfl) ?_
  refine zz_cons (k' := 50) rfl (zk_icmp_ne X dX12_beat_49 (by decide) rfl) ?_
  refine zz_cons (k' := 51) rfl (zz_Ok_none _ _) ?_
  refine zz_cons (k' := 52) rfl (zz_Ok_none _ _) ?_
  refine zz_cons (k' := 53) rfl (zk_iconst X dX12_beat_52 (by decide) rfl) ?_
  refine zz_cons (k' := 54) rfl (zk_goto X dX12_beat_53 (by decide)) ?_
  refine zz_cons (k' := 55) rfl (zz_Ok_none _ _) ?_
  refine zz_cons (k' := 56) rfl (zz_Ok_none _ _) ?_
  refine zz_cons (k' := 57) rfl (zk_iconst X dX12_beat_56 (by decide) rfl) ?_
  refine zz_cons (k' := 58) rfl (zk_istore_n X dX12_beat_57 rfl (by decide) rfl) ?_
  refine zz_cons (k' := 59) rfl (zk_aload_n X dX12_beat_58 rfl rfl) ?_
  refine zz_cons (k' := 60) rfl (zk_iload_n X dX12_beat_59 rfl rfl) ?_
  refine zz_cons (k' := 61) rfl (zk_callv X (zz_Cv_of (List.forall_mem_cons.mpr ⟨⟨(RX_10, zzT10, 50), yX12_isGone, cX12_isGone, 2, (some .boolean), 1, 23, rfl, kv_X12_386_10.1, (mm_X12_isGone Wd).1, by decide, by decide⟩, (fun _ h => absurd h List.not_mem_nil)⟩)) dX12_beat_60 rfl) ?_
  refine zz_cons (k' := 62) rfl (zz_Ok_none _ _) ?_
  refine zz_cons (k' := 63) rfl (zz_Ok_none _ _) ?_
  refine zz_cons (k' := 64) rfl (zk_if_ne X dX12_beat_63 (by decide) rfl) ?_
  refine zz_cons (k' := 65) rfl (zz_Ok_none _ _) ?_
  refine zz_cons (k' := 66) rfl (zz_Ok_none _ _) ?_
  refine zz_cons (k' := 67) rfl (zk_aload_n X dX12_beat_66 rfl rfl) ?_
  refine zz_cons (k' := 68) rfl (zk_iload_n X dX12_beat_67 rfl rfl) ?_
  refine zz_cons (k' := 69) rfl (zk_aload_n X dX12_beat_68 rfl rfl) ?_
  refine zz_cons (k' := 70) rfl (zk_aload_n X dX12_beat_69 rfl rfl) ?_
  refine zz_cons (k' := 71) rfl (zk_getf X ff_X12_28 dX12_beat_70 rfl) ?_
  refine zz_cons (k' := 72) rfl (zz_Ok_none _ _) ?_
  refine zz_cons (k' := 73) rfl (zz_Ok_none _ _) ?_
  refine zz_cons (k' := 74) rfl (zk_iload_n X dX12_beat_73 rfl rfl) ?_
  refine zz_cons (k' := 75) rfl (zk_lald X dX12_beat_74 rfl) ?_
  refine zz_cons (k' := 76) rfl (zk_bipush X dX12_beat_75 (by decide) rfl) ?_
  refine zz_cons (k' := 77) rfl (zz_Ok_none _ _) ?_
  refine zz_cons (k' := 78) rfl (zk_iconst X dX12_beat_77 (by decide) rfl) ?_
  refine zz_cons (k' := 79) rfl (zk_callv X (zz_Cv_of (List.forall_mem_cons.mpr ⟨⟨(RX_10, zzT10, 50), yX12_with, cX12_with, 7, (some .long), 0, 0, rfl, kv_X12_150_10.1, (mm_X12_with Wd).1, by decide, by decide⟩, (fun _ h => absurd h List.not_mem_nil)⟩)) dX12_beat_78 rfl) ?_
  refine zz_cons (k' := 80) rfl (zz_Ok_none _ _) ?_
  refine zz_cons (k' := 81) rfl (zz_Ok_none _ _) ?_
  refine zz_cons (k' := 82) rfl (zk_aload_n X dX12_beat_81 rfl rfl) ?_
  refine zz_cons (k' := 83) rfl (zk_getf X ff_X12_32 dX12_beat_82 rfl) ?_
  refine zz_cons (k' := 84) rfl (zz_Ok_none _ _) ?_
  refine zz_cons (k' := 85) rfl (zz_Ok_none _ _) ?_
  refine zz_cons (k' := 86) rfl (zk_iload_n X dX12_beat_85 rfl rfl) ?_
  refine zz_cons (k' := 87) rfl (zk_lald X dX12_beat_86 rfl) ?_
  refine zz_cons (k' := 88) rfl (zk_iconst X dX12_beat_87 (by decide) rfl) ?_
  refine zz_cons (k' := 89) rfl (zk_callv X (zz_Cv_of (List.forall_mem_cons.mpr ⟨⟨(RX_10, zzT10, 50), yX12_puts, cX12_puts, 8, (some .boolean), 1, 25, rfl, kv_X12_185_10.1, (mm_X12_puts Wd).1, by decide, by decide⟩, (fun _ h => absurd h List.not_mem_nil)⟩)) dX12_beat_88 rfl) ?_
  refine zz_cons (k' := 90) rfl (zz_Ok_none _ _) ?_
  refine zz_cons (k' := 91) rfl (zz_Ok_none _ _) ?_
  refine zz_cons (k' := 92) rfl (zk_if_ne X dX12_beat_91 (by decide) rfl) ?_
  refine zz_cons (k' := 93) rfl (zz_Ok_none _ _) ?_
  refine zz_cons (k' := 94) rfl (zz_Ok_none _ _) ?_
  refine zz_cons (k' := 95) rfl (zk_iconst X dX12_beat_94 (by decide) rfl) ?_
  refine zz_cons (k' := 96) rfl (zk_goto X dX12_beat_95 (by decide)) ?_
  refine zz_cons (k' := 97) rfl (zz_Ok_none _ _) ?_
  refine zz_cons (k' := 98) rfl (zz_Ok_none _ _) ?_
  refine zz_cons (k' := 99) rfl (zk_iconst X dX12_beat_98 (by decide) rfl) ?_
  refine zz_cons (k' := 100) rfl (zk_istore_n X dX12_beat_99 rfl (by decide) rfl) ?_
  refine zz_cons (k' := 101) rfl (zk_aload_n X dX12_beat_100 rfl rfl) ?_
  refine zz_cons (k' := 102) rfl (zk_iload_n X dX12_beat_101 rfl rfl) ?_
  refine zz_cons (k' := 103) rfl (zk_if_eq X dX12_beat_102 (by decide) rfl) ?_
  refine zz_cons (k' := 104) rfl (zz_Ok_none _ _) ?_
  refine zz_cons (k' := 105) rfl (zz_Ok_none _ _) ?_
  refine zz_cons (k' := 106) rfl (zk_iconst X dX12_beat_105 (by decide) rfl) ?_
  refine zz_cons (k' := 107) rfl (zk_goto X dX12_beat_106 (by decide)) ?_
  refine zz_cons (k' := 108) rfl (zz_Ok_none _ _) ?_
  refine zz_cons (k' := 109) rfl (zz_Ok_none _ _) ?_
  refine zz_cons (k' := 110) rfl (zk_iconst X dX12_beat_109 (by decide) rfl) ?_
  refine zz_cons (k' := 111) rfl (zk_callv X (zz_Cv_of (List.forall_mem_cons.mpr ⟨⟨(RX_10, zzT10, 50), yX12_goes, cX12_goes, 2, (some .boolean), 0, 0, rfl, kv_X12_374_10.1, (mm_X12_goes Wd).1, by decide, by decide⟩, (fun _ h => absurd h List.not_mem_nil)⟩)) dX12_beat_110 rfl) ?_
  refine zz_cons (k' := 112) rfl (zz_Ok_none _ _) ?_
  refine zz_cons (k' := 113) rfl (zz_Ok_none _ _) ?_
  refine zz_cons (k' := 114) rfl (zk_if_ne X dX12_beat_113 (by decide) rfl) ?_
  refine zz_cons (k' := 115) rfl (zz_Ok_none _ _) ?_
  refine zz_cons (k' := 116) rfl (zz_Ok_none _ _) ?_
  refine zz_cons (k' := 117) rfl (zk_iconst X dX12_beat_116 (by decide) rfl) ?_
  refine zz_cons (k' := 118) rfl (zk_iret X rfl dX12_beat_117) ?_
  refine zz_cons (k' := 119) rfl (zk_aload_n X dX12_beat_118 rfl rfl) ?_
  refine zz_cons (k' := 120) rfl (zk_getf X ff_X12_41 dX12_beat_119 rfl) ?_
  refine zz_cons (k' := 121) rfl (zz_Ok_none _ _) ?_
  refine zz_cons (k' := 122) rfl (zz_Ok_none _ _) ?_
  refine zz_cons (k' := 123) rfl (zk_iload_n X dX12_beat_122 rfl rfl) ?_
  refine zz_cons (k' := 124) rfl (zk_aload_n X dX12_beat_123 rfl rfl) ?_
  refine zz_cons (k' := 125) rfl (zk_getf X ff_X12_182 dX12_beat_124 rfl) ?_
  refine zz_cons (k' := 126) rfl (zz_Ok_none _ _) ?_
  refine zz_cons (k' := 127) rfl (zz_Ok_none _ _) ?_
  refine zz_cons (k' := 128) rfl (zk_iast X dX12_beat_127 rfl) ?_
  refine zz_cons (k' := 129) rfl (zk_iload_n X dX12_beat_128 rfl rfl) ?_
  refine zz_cons (k' := 130) rfl (zk_iret X rfl dX12_beat_129) ?_
  exact trivial
noncomputable def tX12_wish : List zzOp := [
  zo_aload 0 1,
  zo_aload 0 2,
  zo_iload 1 3,
  zo_callv zzSR (zz_cl [(10, fX12_isObject)]) 1 6,
  zo_none,
  zo_none,
  zo_if (fun x => decide (¬ x = 0)) 13 9,
  zo_none,
  zo_none,
  zo_pushI 1 10,
  zo_goto 37,
  zo_none,
  zo_none,
  zo_aload 0 14,
  zo_getf zzSR (zz_kf [10] 6) 17,
  zo_none,
  zo_none,
  zo_iload 1 18,
  zo_iald zzSR zzSTR 19,
  zo_if (fun x => decide (¬ x = 0)) 36 22,
  zo_none,
  zo_none,
  zo_iload 2 23,
  zo_pushI (-1) 24,
  zo_pushI 9 26,
  zo_none,
  zo_calls fX12_isIn 3 29,
  zo_none,
  zo_none,
  zo_if (fun x => decide (x = 0)) 36 32,
  zo_none,
  zo_none,
  zo_pushI 0 33,
  zo_goto 37,
  zo_none,
  zo_none,
  zo_pushI 2 37,
  zo_callv zzSR (zz_cl [(10, fX12_goes)]) 1 40,
  zo_none,
  zo_none,
  zo_if (fun x => decide (¬ x = 0)) 45 43,
  zo_none,
  zo_none,
  zo_pushI 0 44,
  zo_iret false,
  zo_aload 0 46,
  zo_getf zzSR (zz_kf [10] 12) 49,
  zo_none,
  zo_none,
  zo_iload 1 50,
  zo_iald zzSR zzSTR 51,
  zo_istore 3 52,
  zo_aload 0 53,
  zo_getf zzSR (zz_kf [10] 12) 56,
  zo_none,
  zo_none,
  zo_iload 1 57,
  zo_iload 2 58,
  zo_iast zzSR 59,
  zo_iload 3 60,
  zo_iret false]
set_option maxRecDepth 100000 in
theorem tl_X12_wish : ∀ pc, zz_Tl (tX12_wish.getD pc zo_none) := by
  refine zz_Tl_mem ?_
  unfold tX12_wish
  refine List.forall_mem_cons.mpr ⟨(zo_aload_tl _ _), ?_⟩
  refine List.forall_mem_cons.mpr ⟨(zo_aload_tl _ _), ?_⟩
  refine List.forall_mem_cons.mpr ⟨(zo_iload_tl _ _), ?_⟩
  refine List.forall_mem_cons.mpr ⟨(zo_callv_tl _ _ _ _), ?_⟩
  refine List.forall_mem_cons.mpr ⟨zo_none_tl, ?_⟩
  refine List.forall_mem_cons.mpr ⟨zo_none_tl, ?_⟩
  refine List.forall_mem_cons.mpr ⟨(zo_if_tl _ _ _), ?_⟩
  refine List.forall_mem_cons.mpr ⟨zo_none_tl, ?_⟩
  refine List.forall_mem_cons.mpr ⟨zo_none_tl, ?_⟩
  refine List.forall_mem_cons.mpr ⟨(zo_pushI_tl _ _), ?_⟩
  refine List.forall_mem_cons.mpr ⟨(zo_goto_tl _), ?_⟩
  refine List.forall_mem_cons.mpr ⟨zo_none_tl, ?_⟩
  refine List.forall_mem_cons.mpr ⟨zo_none_tl, ?_⟩
  refine List.forall_mem_cons.mpr ⟨(zo_aload_tl _ _), ?_⟩
  refine List.forall_mem_cons.mpr ⟨(zo_getf_tl _ _ _), ?_⟩
  refine List.forall_mem_cons.mpr ⟨zo_none_tl, ?_⟩
  refine List.forall_mem_cons.mpr ⟨zo_none_tl, ?_⟩
  refine List.forall_mem_cons.mpr ⟨(zo_iload_tl _ _), ?_⟩
  refine List.forall_mem_cons.mpr ⟨(zo_iald_tl _ _ _), ?_⟩
  refine List.forall_mem_cons.mpr ⟨(zo_if_tl _ _ _), ?_⟩
  refine List.forall_mem_cons.mpr ⟨zo_none_tl, ?_⟩
  refine List.forall_mem_cons.mpr ⟨zo_none_tl, ?_⟩
  refine List.forall_mem_cons.mpr ⟨(zo_iload_tl _ _), ?_⟩
  refine List.forall_mem_cons.mpr ⟨(zo_pushI_tl _ _), ?_⟩
  refine List.forall_mem_cons.mpr ⟨(zo_pushI_tl _ _), ?_⟩
  refine List.forall_mem_cons.mpr ⟨zo_none_tl, ?_⟩
  refine List.forall_mem_cons.mpr ⟨(zo_calls_tl _ _ _), ?_⟩
  refine List.forall_mem_cons.mpr ⟨zo_none_tl, ?_⟩
  refine List.forall_mem_cons.mpr ⟨zo_none_tl, ?_⟩
  refine List.forall_mem_cons.mpr ⟨(zo_if_tl _ _ _), ?_⟩
  refine List.forall_mem_cons.mpr ⟨zo_none_tl, ?_⟩
  refine List.forall_mem_cons.mpr ⟨zo_none_tl, ?_⟩
  refine List.forall_mem_cons.mpr ⟨(zo_pushI_tl _ _), ?_⟩
  refine List.forall_mem_cons.mpr ⟨(zo_goto_tl _), ?_⟩
  refine List.forall_mem_cons.mpr ⟨zo_none_tl, ?_⟩
  refine List.forall_mem_cons.mpr ⟨zo_none_tl, ?_⟩
  refine List.forall_mem_cons.mpr ⟨(zo_pushI_tl _ _), ?_⟩
  refine List.forall_mem_cons.mpr ⟨(zo_callv_tl _ _ _ _), ?_⟩
  refine List.forall_mem_cons.mpr ⟨zo_none_tl, ?_⟩
  refine List.forall_mem_cons.mpr ⟨zo_none_tl, ?_⟩
  refine List.forall_mem_cons.mpr ⟨(zo_if_tl _ _ _), ?_⟩
  refine List.forall_mem_cons.mpr ⟨zo_none_tl, ?_⟩
  refine List.forall_mem_cons.mpr ⟨zo_none_tl, ?_⟩
  refine List.forall_mem_cons.mpr ⟨(zo_pushI_tl _ _), ?_⟩
  refine List.forall_mem_cons.mpr ⟨(zo_iret_tl _), ?_⟩
  refine List.forall_mem_cons.mpr ⟨(zo_aload_tl _ _), ?_⟩
  refine List.forall_mem_cons.mpr ⟨(zo_getf_tl _ _ _), ?_⟩
  refine List.forall_mem_cons.mpr ⟨zo_none_tl, ?_⟩
  refine List.forall_mem_cons.mpr ⟨zo_none_tl, ?_⟩
  refine List.forall_mem_cons.mpr ⟨(zo_iload_tl _ _), ?_⟩
  refine List.forall_mem_cons.mpr ⟨(zo_iald_tl _ _ _), ?_⟩
  refine List.forall_mem_cons.mpr ⟨(zo_istore_tl _ _), ?_⟩
  refine List.forall_mem_cons.mpr ⟨(zo_aload_tl _ _), ?_⟩
  refine List.forall_mem_cons.mpr ⟨(zo_getf_tl _ _ _), ?_⟩
  refine List.forall_mem_cons.mpr ⟨zo_none_tl, ?_⟩
  refine List.forall_mem_cons.mpr ⟨zo_none_tl, ?_⟩
  refine List.forall_mem_cons.mpr ⟨(zo_iload_tl _ _), ?_⟩
  refine List.forall_mem_cons.mpr ⟨(zo_iload_tl _ _), ?_⟩
  refine List.forall_mem_cons.mpr ⟨(zo_iast_tl _ _), ?_⟩
  refine List.forall_mem_cons.mpr ⟨(zo_iload_tl _ _), ?_⟩
  refine List.forall_mem_cons.mpr ⟨(zo_iret_tl _), ?_⟩
  exact fun _ h => absurd h List.not_mem_nil
noncomputable def fX12_wish : zzFn := zz_fn tX12_wish 4
set_option maxRecDepth 100000 in
set_option maxHeartbeats 4000000 in
theorem mm_X12_wish {l : Launch} {D : va_G} {cA : Nat → ClassId} {ad : Nat → Nat} {Ex : (Nat → Prop) → State → Heap → Prop} (Wd : zzWR l D cA ad Ex) : zz_Cn l D zzCl cA ad zzSR Ex yX12_wish cX12_wish 4 (some .int) 2 43 fX12_wish ∧ zz_Cx l D zzCl cA ad zzSR Ex yX12_wish cX12_wish 4 (some .int) 2 43 fX12_wish := by
  refine zz_meth (plainFor_of_name (by decide)) Wd.1 Wd.2.1 Wd.2.2 (fun p e R s m args below meth c rr X => ?_)
  unfold tX12_wish
  refine zz_cons (k' := 1) rfl (zk_aload_n X dX12_wish_0 rfl rfl) ?_
  refine zz_cons (k' := 2) rfl (zk_aload_n X dX12_wish_1 rfl rfl) ?_
  refine zz_cons (k' := 3) rfl (zk_iload_n X dX12_wish_2 rfl rfl) ?_
  refine zz_cons (k' := 4) rfl (zk_callv X (zz_Cv_of (List.forall_mem_cons.mpr ⟨⟨(RX_10, zzT10, 50), yX12_isObject, cX12_isObject, 2, (some .boolean), 1, 22, rfl, kv_X12_377_10.1, (mm_X12_isObject Wd).1, by decide, by decide⟩, (fun _ h => absurd h List.not_mem_nil)⟩)) dX12_wish_3 rfl) ?_
  refine zz_cons (k' := 5) rfl (zz_Ok_none _ _) ?_
  refine zz_cons (k' := 6) rfl (zz_Ok_none _ _) ?_
  refine zz_cons (k' := 7) rfl (zk_if_ne X dX12_wish_6 (by decide) rfl) ?_
  refine zz_cons (k' := 8) rfl (zz_Ok_none _ _) ?_
  refine zz_cons (k' := 9) rfl (zz_Ok_none _ _) ?_
  refine zz_cons (k' := 10) rfl (zk_iconst X dX12_wish_9 (by decide) rfl) ?_
  refine zz_cons (k' := 11) rfl (zk_goto X dX12_wish_10 (by decide)) ?_
  refine zz_cons (k' := 12) rfl (zz_Ok_none _ _) ?_
  refine zz_cons (k' := 13) rfl (zz_Ok_none _ _) ?_
  refine zz_cons (k' := 14) rfl (zk_aload_n X dX12_wish_13 rfl rfl) ?_
  refine zz_cons (k' := 15) rfl (zk_getf X ff_X12_25 dX12_wish_14 rfl) ?_
  refine zz_cons (k' := 16) rfl (zz_Ok_none _ _) ?_
  refine zz_cons (k' := 17) rfl (zz_Ok_none _ _) ?_
  refine zz_cons (k' := 18) rfl (zk_iload_n X dX12_wish_17 rfl rfl) ?_
  refine zz_cons (k' := 19) rfl (zk_iald X (zzWR_st Wd) dX12_wish_18 rfl) ?_
  refine zz_cons (k' := 20) rfl (zk_if_ne X dX12_wish_19 (by decide) rfl) ?_
  refine zz_cons (k' := 21) rfl (zz_Ok_none _ _) ?_
  refine zz_cons (k' := 22) rfl (zz_Ok_none _ _) ?_
  refine zz_cons (k' := 23) rfl (zk_iload_n X dX12_wish_22 rfl rfl) ?_
  refine zz_cons (k' := 24) rfl (zk_iconst X dX12_wish_23 (by decide) rfl) ?_
  refine zz_cons (k' := 25) rfl (zk_bipush X dX12_wish_24 (by decide) rfl) ?_
  refine zz_cons (k' := 26) rfl (zz_Ok_none _ _) ?_
  refine zz_cons (k' := 27) rfl (zk_calls X ks_X12_140 (mm_X12_isIn Wd).1 (by decide) dX12_wish_26 rfl) ?_
  refine zz_cons (k' := 28) rfl (zz_Ok_none _ _) ?_
  refine zz_cons (k' := 29) rfl (zz_Ok_none _ _) ?_
  refine zz_cons (k' := 30) rfl (zk_if_eq X dX12_wish_29 (by decide) rfl) ?_
  refine zz_cons (k' := 31) rfl (zz_Ok_none _ _) ?_
  refine zz_cons (k' := 32) rfl (zz_Ok_none _ _) ?_
  refine zz_cons (k' := 33) rfl (zk_iconst X dX12_wish_32 (by decide) rfl) ?_
  refine zz_cons (k' := 34) rfl (zk_goto X dX12_wish_33 (by decide)) ?_
  refine zz_cons (k' := 35) rfl (zz_Ok_none _ _) ?_
  refine zz_cons (k' := 36) rfl (zz_Ok_none _ _) ?_
  refine zz_cons (k' := 37) rfl (zk_iconst X dX12_wish_36 (by decide) rfl) ?_
  refine zz_cons (k' := 38) rfl (zk_callv X (zz_Cv_of (List.forall_mem_cons.mpr ⟨⟨(RX_10, zzT10, 50), yX12_goes, cX12_goes, 2, (some .boolean), 0, 0, rfl, kv_X12_374_10.1, (mm_X12_goes Wd).1, by decide, by decide⟩, (fun _ h => absurd h List.not_mem_nil)⟩)) dX12_wish_37 rfl) ?_
  refine zz_cons (k' := 39) rfl (zz_Ok_none _ _) ?_
  refine zz_cons (k' := 40) rfl (zz_Ok_none _ _) ?_
  refine zz_cons (k' := 41) rfl (zk_if_ne X dX12_wish_40 (by decide) rfl) ?_
  refine zz_cons (k' := 42) rfl (zz_Ok_none _ _) ?_
  refine zz_cons (k' := 43) rfl (zz_Ok_none _ _) ?_
  refine zz_cons (k' := 44) rfl (zk_iconst X dX12_wish_43 (by decide) rfl) ?_
  refine zz_cons (k' := 45) rfl (zk_iret X rfl dX12_wish_44) ?_
  refine zz_cons (k' := 46) rfl (zk_aload_n X dX12_wish_45 rfl rfl) ?_
  refine zz_cons (k' := 47) rfl (zk_getf X ff_X12_44 dX12_wish_46 rfl) ?_
  refine zz_cons (k' := 48) rfl (zz_Ok_none _ _) ?_
  refine zz_cons (k' := 49) rfl (zz_Ok_none _ _) ?_
  refine zz_cons (k' := 50) rfl (zk_iload_n X dX12_wish_49 rfl rfl) ?_
  refine zz_cons (k' := 51) rfl (zk_iald X (zzWR_st Wd) dX12_wish_50 rfl) ?_
  refine zz_cons (k' := 52) rfl (zk_istore_n X dX12_wish_51 rfl (by decide) rfl) ?_
  refine zz_cons (k' := 53) rfl (zk_aload_n X dX12_wish_52 rfl rfl) ?_
  refine zz_cons (k' := 54) rfl (zk_getf X ff_X12_44 dX12_wish_53 rfl) ?_
  refine zz_cons (k' := 55) rfl (zz_Ok_none _ _) ?_
  refine zz_cons (k' := 56) rfl (zz_Ok_none _ _) ?_
  refine zz_cons (k' := 57) rfl (zk_iload_n X dX12_wish_56 rfl rfl) ?_
  refine zz_cons (k' := 58) rfl (zk_iload_n X dX12_wish_57 rfl rfl) ?_
  refine zz_cons (k' := 59) rfl (zk_iast X dX12_wish_58 rfl) ?_
  refine zz_cons (k' := 60) rfl (zk_iload_n X dX12_wish_59 rfl rfl) ?_
  refine zz_cons (k' := 61) rfl (zk_iret X rfl dX12_wish_60) ?_
  exact trivial
noncomputable def tX12_hub : List zzOp := [
  zo_aload 0 1,
  zo_pushI 0 2,
  zo_putf zzSR (zz_kf [10] 49) false 5,
  zo_none,
  zo_none,
  zo_aload 0 6,
  zo_iload 1 7,
  zo_putf zzSR (zz_kf [10] 47) true 10,
  zo_none,
  zo_none,
  zo_aload 0 11,
  zo_getf zzSR (zz_kf [10] 14) 14,
  zo_none,
  zo_none,
  zo_istore 2 15,
  zo_pushI 0 16,
  zo_istore 3 17,
  zo_iload 3 18,
  zo_aload 0 19,
  zo_getf zzSR (zz_kf [10] 5) 22,
  zo_none,
  zo_none,
  zo_icmp (fun x y => decide (y ≤ x)) 100 25,
  zo_none,
  zo_none,
  zo_aload 0 26,
  zo_getf zzSR (zz_kf [10] 47) 29,
  zo_none,
  zo_none,
  zo_if (fun x => decide (¬ x = 0)) 100 32,
  zo_none,
  zo_none,
  zo_aload 0 33,
  zo_getf zzSR (zz_kf [10] 6) 36,
  zo_none,
  zo_none,
  zo_iload 3 37,
  zo_iald zzSR zzSTR 38,
  zo_if (fun x => decide (¬ x = 0)) 63 41,
  zo_none,
  zo_none,
  zo_aload 0 42,
  zo_getf zzSR (zz_kf [10] 12) 45,
  zo_none,
  zo_none,
  zo_iload 3 46,
  zo_iald zzSR zzSTR 47,
  zo_pushI (-1) 48,
  zo_icmp (fun x y => decide (x = y)) 63 51,
  zo_none,
  zo_none,
  zo_aload 0 52,
  zo_iload 3 53,
  zo_callv zzSR (zz_cl [(10, fX12_isGone)]) 1 56,
  zo_none,
  zo_none,
  zo_if (fun x => decide (¬ x = 0)) 63 59,
  zo_none,
  zo_none,
  zo_pushI 1 60,
  zo_goto 64,
  zo_none,
  zo_none,
  zo_pushI 0 64,
  zo_istore 4 66,
  zo_none,
  zo_iload 4 68,
  zo_none,
  zo_if (fun x => decide (x = 0)) 91 71,
  zo_none,
  zo_none,
  zo_aload 0 72,
  zo_pushI 5 73,
  zo_iload 3 74,
  zo_pushI 1 75,
  zo_aload 0 76,
  zo_getf zzSR (zz_kf [10] 12) 79,
  zo_none,
  zo_none,
  zo_iload 3 80,
  zo_iald zzSR zzSTR 81,
  zo_callv zzSR (zz_cl [(10, fX12_applies)]) 4 84,
  zo_none,
  zo_none,
  zo_if (fun x => decide (x = 0)) 91 87,
  zo_none,
  zo_none,
  zo_pushI 1 88,
  zo_goto 92,
  zo_none,
  zo_none,
  zo_pushI 0 92,
  zo_istore 5 94,
  zo_none,
  zo_iinc 3 1 97,
  zo_none,
  zo_none,
  zo_goto 17,
  zo_none,
  zo_none,
  zo_aload 0 101,
  zo_getf zzSR (zz_kf [10] 14) 104,
  zo_none,
  zo_none,
  zo_iload 2 105,
  zo_ii (fun x y => x - y) 106,
  zo_iret false]
set_option maxRecDepth 100000 in
theorem tl_X12_hub : ∀ pc, zz_Tl (tX12_hub.getD pc zo_none) := by
  refine zz_Tl_mem ?_
  unfold tX12_hub
  refine List.forall_mem_cons.mpr ⟨(zo_aload_tl _ _), ?_⟩
  refine List.forall_mem_cons.mpr ⟨(zo_pushI_tl _ _), ?_⟩
  refine List.forall_mem_cons.mpr ⟨(zo_putf_tl _ _ _ _), ?_⟩
  refine List.forall_mem_cons.mpr ⟨zo_none_tl, ?_⟩
  refine List.forall_mem_cons.mpr ⟨zo_none_tl, ?_⟩
  refine List.forall_mem_cons.mpr ⟨(zo_aload_tl _ _), ?_⟩
  refine List.forall_mem_cons.mpr ⟨(zo_iload_tl _ _), ?_⟩
  refine List.forall_mem_cons.mpr ⟨(zo_putf_tl _ _ _ _), ?_⟩
  refine List.forall_mem_cons.mpr ⟨zo_none_tl, ?_⟩
  refine List.forall_mem_cons.mpr ⟨zo_none_tl, ?_⟩
  refine List.forall_mem_cons.mpr ⟨(zo_aload_tl _ _), ?_⟩
  refine List.forall_mem_cons.mpr ⟨(zo_getf_tl _ _ _), ?_⟩
  refine List.forall_mem_cons.mpr ⟨zo_none_tl, ?_⟩
  refine List.forall_mem_cons.mpr ⟨zo_none_tl, ?_⟩
  refine List.forall_mem_cons.mpr ⟨(zo_istore_tl _ _), ?_⟩
  refine List.forall_mem_cons.mpr ⟨(zo_pushI_tl _ _), ?_⟩
  refine List.forall_mem_cons.mpr ⟨(zo_istore_tl _ _), ?_⟩
  refine List.forall_mem_cons.mpr ⟨(zo_iload_tl _ _), ?_⟩
  refine List.forall_mem_cons.mpr ⟨(zo_aload_tl _ _), ?_⟩
  refine List.forall_mem_cons.mpr ⟨(zo_getf_tl _ _ _), ?_⟩
  refine List.forall_mem_cons.mpr ⟨zo_none_tl, ?_⟩
  refine List.forall_mem_cons.mpr ⟨zo_none_tl, ?_⟩
  refine List.forall_mem_cons.mpr ⟨(zo_icmp_tl _ _ _), ?_⟩
  refine List.forall_mem_cons.mpr ⟨zo_none_tl, ?_⟩
  refine List.forall_mem_cons.mpr ⟨zo_none_tl, ?_⟩
  refine List.forall_mem_cons.mpr ⟨(zo_aload_tl _ _), ?_⟩
  refine List.forall_mem_cons.mpr ⟨(zo_getf_tl _ _ _), ?_⟩
  refine List.forall_mem_cons.mpr ⟨zo_none_tl, ?_⟩
  refine List.forall_mem_cons.mpr ⟨zo_none_tl, ?_⟩
  refine List.forall_mem_cons.mpr ⟨(zo_if_tl _ _ _), ?_⟩
  refine List.forall_mem_cons.mpr ⟨zo_none_tl, ?_⟩
  refine List.forall_mem_cons.mpr ⟨zo_none_tl, ?_⟩
  refine List.forall_mem_cons.mpr ⟨(zo_aload_tl _ _), ?_⟩
  refine List.forall_mem_cons.mpr ⟨(zo_getf_tl _ _ _), ?_⟩
  refine List.forall_mem_cons.mpr ⟨zo_none_tl, ?_⟩
  refine List.forall_mem_cons.mpr ⟨zo_none_tl, ?_⟩
  refine List.forall_mem_cons.mpr ⟨(zo_iload_tl _ _), ?_⟩
  refine List.forall_mem_cons.mpr ⟨(zo_iald_tl _ _ _), ?_⟩
  refine List.forall_mem_cons.mpr ⟨(zo_if_tl _ _ _), ?_⟩
  refine List.forall_mem_cons.mpr ⟨zo_none_tl, ?_⟩
  refine List.forall_mem_cons.mpr ⟨zo_none_tl, ?_⟩
  refine List.forall_mem_cons.mpr ⟨(zo_aload_tl _ _), ?_⟩
  refine List.forall_mem_cons.mpr ⟨(zo_getf_tl _ _ _), ?_⟩
  refine List.forall_mem_cons.mpr ⟨zo_none_tl, ?_⟩
  refine List.forall_mem_cons.mpr ⟨zo_none_tl, ?_⟩
  refine List.forall_mem_cons.mpr ⟨(zo_iload_tl _ _), ?_⟩
  refine List.forall_mem_cons.mpr ⟨(zo_iald_tl _ _ _), ?_⟩
  refine List.forall_mem_cons.mpr ⟨(zo_pushI_tl _ _), ?_⟩
  refine List.forall_mem_cons.mpr ⟨(zo_icmp_tl _ _ _), ?_⟩
  refine List.forall_mem_cons.mpr ⟨zo_none_tl, ?_⟩
  refine List.forall_mem_cons.mpr ⟨zo_none_tl, ?_⟩
  refine List.forall_mem_cons.mpr ⟨(zo_aload_tl _ _), ?_⟩
  refine List.forall_mem_cons.mpr ⟨(zo_iload_tl _ _), ?_⟩
  refine List.forall_mem_cons.mpr ⟨(zo_callv_tl _ _ _ _), ?_⟩
  refine List.forall_mem_cons.mpr ⟨zo_none_tl, ?_⟩
  refine List.forall_mem_cons.mpr ⟨zo_none_tl, ?_⟩
  refine List.forall_mem_cons.mpr ⟨(zo_if_tl _ _ _), ?_⟩
  refine List.forall_mem_cons.mpr ⟨zo_none_tl, ?_⟩
  refine List.forall_mem_cons.mpr ⟨zo_none_tl, ?_⟩
  refine List.forall_mem_cons.mpr ⟨(zo_pushI_tl _ _), ?_⟩
  refine List.forall_mem_cons.mpr ⟨(zo_goto_tl _), ?_⟩
  refine List.forall_mem_cons.mpr ⟨zo_none_tl, ?_⟩
  refine List.forall_mem_cons.mpr ⟨zo_none_tl, ?_⟩
  refine List.forall_mem_cons.mpr ⟨(zo_pushI_tl _ _), ?_⟩
  refine List.forall_mem_cons.mpr ⟨(zo_istore_tl _ _), ?_⟩
  refine List.forall_mem_cons.mpr ⟨zo_none_tl, ?_⟩
  refine List.forall_mem_cons.mpr ⟨(zo_iload_tl _ _), ?_⟩
  refine List.forall_mem_cons.mpr ⟨zo_none_tl, ?_⟩
  refine List.forall_mem_cons.mpr ⟨(zo_if_tl _ _ _), ?_⟩
  refine List.forall_mem_cons.mpr ⟨zo_none_tl, ?_⟩
  refine List.forall_mem_cons.mpr ⟨zo_none_tl, ?_⟩
  refine List.forall_mem_cons.mpr ⟨(zo_aload_tl _ _), ?_⟩
  refine List.forall_mem_cons.mpr ⟨(zo_pushI_tl _ _), ?_⟩
  refine List.forall_mem_cons.mpr ⟨(zo_iload_tl _ _), ?_⟩
  refine List.forall_mem_cons.mpr ⟨(zo_pushI_tl _ _), ?_⟩
  refine List.forall_mem_cons.mpr ⟨(zo_aload_tl _ _), ?_⟩
  refine List.forall_mem_cons.mpr ⟨(zo_getf_tl _ _ _), ?_⟩
  refine List.forall_mem_cons.mpr ⟨zo_none_tl, ?_⟩
  refine List.forall_mem_cons.mpr ⟨zo_none_tl, ?_⟩
  refine List.forall_mem_cons.mpr ⟨(zo_iload_tl _ _), ?_⟩
  refine List.forall_mem_cons.mpr ⟨(zo_iald_tl _ _ _), ?_⟩
  refine List.forall_mem_cons.mpr ⟨(zo_callv_tl _ _ _ _), ?_⟩
  refine List.forall_mem_cons.mpr ⟨zo_none_tl, ?_⟩
  refine List.forall_mem_cons.mpr ⟨zo_none_tl, ?_⟩
  refine List.forall_mem_cons.mpr ⟨(zo_if_tl _ _ _), ?_⟩
  refine List.forall_mem_cons.mpr ⟨zo_none_tl, ?_⟩
  refine List.forall_mem_cons.mpr ⟨zo_none_tl, ?_⟩
  refine List.forall_mem_cons.mpr ⟨(zo_pushI_tl _ _), ?_⟩
  refine List.forall_mem_cons.mpr ⟨(zo_goto_tl _), ?_⟩
  refine List.forall_mem_cons.mpr ⟨zo_none_tl, ?_⟩
  refine List.forall_mem_cons.mpr ⟨zo_none_tl, ?_⟩
  refine List.forall_mem_cons.mpr ⟨(zo_pushI_tl _ _), ?_⟩
  refine List.forall_mem_cons.mpr ⟨(zo_istore_tl _ _), ?_⟩
  refine List.forall_mem_cons.mpr ⟨zo_none_tl, ?_⟩
  refine List.forall_mem_cons.mpr ⟨(zo_iinc_tl _ _ _), ?_⟩
  refine List.forall_mem_cons.mpr ⟨zo_none_tl, ?_⟩
  refine List.forall_mem_cons.mpr ⟨zo_none_tl, ?_⟩
  refine List.forall_mem_cons.mpr ⟨(zo_goto_tl _), ?_⟩
  refine List.forall_mem_cons.mpr ⟨zo_none_tl, ?_⟩
  refine List.forall_mem_cons.mpr ⟨zo_none_tl, ?_⟩
  refine List.forall_mem_cons.mpr ⟨(zo_aload_tl _ _), ?_⟩
  refine List.forall_mem_cons.mpr ⟨(zo_getf_tl _ _ _), ?_⟩
  refine List.forall_mem_cons.mpr ⟨zo_none_tl, ?_⟩
  refine List.forall_mem_cons.mpr ⟨zo_none_tl, ?_⟩
  refine List.forall_mem_cons.mpr ⟨(zo_iload_tl _ _), ?_⟩
  refine List.forall_mem_cons.mpr ⟨(zo_ii_tl _ _), ?_⟩
  refine List.forall_mem_cons.mpr ⟨(zo_iret_tl _), ?_⟩
  exact fun _ h => absurd h List.not_mem_nil
noncomputable def fX12_hub : zzFn := zz_fn tX12_hub 6
set_option maxRecDepth 100000 in
set_option maxHeartbeats 4000000 in
theorem mm_X12_hub {l : Launch} {D : va_G} {cA : Nat → ClassId} {ad : Nat → Nat} {Ex : (Nat → Prop) → State → Heap → Prop} (Wd : zzWR l D cA ad Ex) : zz_Cn l D zzCl cA ad zzSR Ex yX12_hub cX12_hub 6 (some .int) 3 84 fX12_hub ∧ zz_Cx l D zzCl cA ad zzSR Ex yX12_hub cX12_hub 6 (some .int) 3 84 fX12_hub := by
  refine zz_meth (plainFor_of_name (by decide)) Wd.1 Wd.2.1 Wd.2.2 (fun p e R s m args below meth c rr X => ?_)
  unfold tX12_hub
  refine zz_cons (k' := 1) rfl (zk_aload_n X dX12_hub_0 rfl rfl) ?_
  refine zz_cons (k' := 2) rfl (zk_iconst X dX12_hub_1 (by decide) rfl) ?_
  refine zz_cons (k' := 3) rfl (zk_putf X ff_X12_134 fp_10_49 dX12_hub_2 rfl) ?_
  refine zz_cons (k' := 4) rfl (zz_Ok_none _ _) ?_
  refine zz_cons (k' := 5) rfl (zz_Ok_none _ _) ?_
  refine zz_cons (k' := 6) rfl (zk_aload_n X dX12_hub_5 rfl rfl) ?_
  refine zz_cons (k' := 7) rfl (zk_iload_n X dX12_hub_6 rfl rfl) ?_
  refine zz_cons (k' := 8) rfl (zk_putf X ff_X12_404 fp_10_47 dX12_hub_7 rfl) ?_
  refine zz_cons (k' := 9) rfl (zz_Ok_none _ _) ?_
  refine zz_cons (k' := 10) rfl (zz_Ok_none _ _) ?_
  refine zz_cons (k' := 11) rfl (zk_aload_n X dX12_hub_10 rfl rfl) ?_
  refine zz_cons (k' := 12) rfl (zk_getf X ff_X12_154 dX12_hub_11 rfl) ?_
  refine zz_cons (k' := 13) rfl (zz_Ok_none _ _) ?_
  refine zz_cons (k' := 14) rfl (zz_Ok_none _ _) ?_
  refine zz_cons (k' := 15) rfl (zk_istore_n X dX12_hub_14 rfl (by decide) rfl) ?_
  refine zz_cons (k' := 16) rfl (zk_iconst X dX12_hub_15 (by decide) rfl) ?_
  refine zz_cons (k' := 17) rfl (zk_istore_n X dX12_hub_16 rfl (by decide) rfl) ?_
  refine zz_cons (k' := 18) rfl (zk_iload_n X dX12_hub_17 rfl rfl) ?_
  refine zz_cons (k' := 19) rfl (zk_aload_n X dX12_hub_18 rfl rfl) ?_
  refine zz_cons (k' := 20) rfl (zk_getf X ff_X12_137 dX12_hub_19 rfl) ?_
  refine zz_cons (k' := 21) rfl (zz_Ok_none _ _) ?_
  refine zz_cons (k' := 22) rfl (zz_Ok_none _ _) ?_
  refine zz_cons (k' := 23) rfl (zk_icmp_ge X dX12_hub_22 (by decide) rfl) ?_
  refine zz_cons (k' := 24) rfl (zz_Ok_none _ _) ?_
  refine zz_cons (k' := 25) rfl (zz_Ok_none _ _) ?_
  refine zz_cons (k' := 26) rfl (zk_aload_n X dX12_hub_25 rfl rfl) ?_
  refine zz_cons (k' := 27) rfl (zk_getf X ff_X12_404 dX12_hub_26 rfl) ?_
  refine zz_cons (k' := 28) rfl (zz_Ok_none _ _) ?_
  refine zz_cons (k' := 29) rfl (zz_Ok_none _ _) ?_
  refine zz_cons (k' := 30) rfl (zk_if_ne X dX12_hub_29 (by decide) rfl) ?_
  refine zz_cons (k' := 31) rfl (zz_Ok_none _ _) ?_
  refine zz_cons (k' := 32) rfl (zz_Ok_none _ _) ?_
  refine zz_cons (k' := 33) rfl (zk_aload_n X dX12_hub_32 rfl rfl) ?_
  refine zz_cons (k' := 34) rfl (zk_getf X ff_X12_25 dX12_hub_33 rfl) ?_
  refine zz_cons (k' := 35) rfl (zz_Ok_none _ _) ?_
  refine zz_cons (k' := 36) rfl (zz_Ok_none _ _) ?_
  refine zz_cons (k' := 37) rfl (zk_iload_n X dX12_hub_36 rfl rfl) ?_
  refine zz_cons (k' := 38) rfl (zk_iald X (zzWR_st Wd) dX12_hub_37 rfl) ?_
  refine zz_cons (k' := 39) rfl (zk_if_ne X dX12_hub_38 (by decide) rfl) ?_
  refine zz_cons (k' := 40) rfl (zz_Ok_none _ _) ?_
  refine zz_cons (k' := 41) rfl (zz_Ok_none _ _) ?_
  refine zz_cons (k' := 42) rfl (zk_aload_n X dX12_hub_41 rfl rfl) ?_
  refine zz_cons (k' := 43) rfl (zk_getf X ff_X12_44 dX12_hub_42 rfl) ?_
  refine zz_cons (k' := 44) rfl (zz_Ok_none _ _) ?_
  refine zz_cons (k' := 45) rfl (zz_Ok_none _ _) ?_
  refine zz_cons (k' := 46) rfl (zk_iload_n X dX12_hub_45 rfl rfl) ?_
  refine zz_cons (k' := 47) rfl (zk_iald X (zzWR_st Wd) dX12_hub_46 rfl) ?_
  refine zz_cons (k' := 48) rfl (zk_iconst X dX12_hub_47 (by decide) rfl) ?_
  refine zz_cons (k' := 49) rfl (zk_icmp_eq X dX12_hub_48 (by decide) rfl) ?_
  refine zz_cons (k' := 50) rfl (zz_Ok_none _ _) ?_
  refine zz_cons (k' := 51) rfl (zz_Ok_none _ _) ?_
  refine zz_cons (k' := 52) rfl (zk_aload_n X dX12_hub_51 rfl rfl) ?_
  refine zz_cons (k' := 53) rfl (zk_iload_n X dX12_hub_52 rfl rfl) ?_
  refine zz_cons (k' := 54) rfl (zk_callv X (zz_Cv_of (List.forall_mem_cons.mpr ⟨⟨(RX_10, zzT10, 50), yX12_isGone, cX12_isGone, 2, (some .boolean), 1, 23, rfl, kv_X12_386_10.1, (mm_X12_isGone Wd).1, by decide, by decide⟩, (fun _ h => absurd h List.not_mem_nil)⟩)) dX12_hub_53 rfl) ?_
  refine zz_cons (k' := 55) rfl (zz_Ok_none _ _) ?_
  refine zz_cons (k' := 56) rfl (zz_Ok_none _ _) ?_
  refine zz_cons (k' := 57) rfl (zk_if_ne X dX12_hub_56 (by decide) rfl) ?_
  refine zz_cons (k' := 58) rfl (zz_Ok_none _ _) ?_
  refine zz_cons (k' := 59) rfl (zz_Ok_none _ _) ?_
  refine zz_cons (k' := 60) rfl (zk_iconst X dX12_hub_59 (by decide) rfl) ?_
  refine zz_cons (k' := 61) rfl (zk_goto X dX12_hub_60 (by decide)) ?_
  refine zz_cons (k' := 62) rfl (zz_Ok_none _ _) ?_
  refine zz_cons (k' := 63) rfl (zz_Ok_none _ _) ?_
  refine zz_cons (k' := 64) rfl (zk_iconst X dX12_hub_63 (by decide) rfl) ?_
  refine zz_cons (k' := 65) rfl (zk_istore X dX12_hub_64 (by decide) rfl) ?_
  refine zz_cons (k' := 66) rfl (zz_Ok_none _ _) ?_
  refine zz_cons (k' := 67) rfl (zk_iload X dX12_hub_66 rfl) ?_
  refine zz_cons (k' := 68) rfl (zz_Ok_none _ _) ?_
  refine zz_cons (k' := 69) rfl (zk_if_eq X dX12_hub_68 (by decide) rfl) ?_
  refine zz_cons (k' := 70) rfl (zz_Ok_none _ _) ?_
  refine zz_cons (k' := 71) rfl (zz_Ok_none _ _) ?_
  refine zz_cons (k' := 72) rfl (zk_aload_n X dX12_hub_71 rfl rfl) ?_
  refine zz_cons (k' := 73) rfl (zk_iconst X dX12_hub_72 (by decide) rfl) ?_
  refine zz_cons (k' := 74) rfl (zk_iload_n X dX12_hub_73 rfl rfl) ?_
  refine zz_cons (k' := 75) rfl (zk_iconst X dX12_hub_74 (by decide) rfl) ?_
  refine zz_cons (k' := 76) rfl (zk_aload_n X dX12_hub_75 rfl rfl) ?_
  refine zz_cons (k' := 77) rfl (zk_getf X ff_X12_44 dX12_hub_76 rfl) ?_
  refine zz_cons (k' := 78) rfl (zz_Ok_none _ _) ?_
  refine zz_cons (k' := 79) rfl (zz_Ok_none _ _) ?_
  refine zz_cons (k' := 80) rfl (zk_iload_n X dX12_hub_79 rfl rfl) ?_
  refine zz_cons (k' := 81) rfl (zk_iald X (zzWR_st Wd) dX12_hub_80 rfl) ?_
  refine zz_cons (k' := 82) rfl (zk_callv X (zz_Cv_of (List.forall_mem_cons.mpr ⟨⟨(RX_10, zzT10, 50), yX12_applies, cX12_applies, 8, (some .boolean), 2, 57, rfl, kv_X12_253_10.1, (mm_X12_applies Wd).1, by decide, by decide⟩, (fun _ h => absurd h List.not_mem_nil)⟩)) dX12_hub_81 rfl) ?_
  refine zz_cons (k' := 83) rfl (zz_Ok_none _ _) ?_
  refine zz_cons (k' := 84) rfl (zz_Ok_none _ _) ?_
  refine zz_cons (k' := 85) rfl (zk_if_eq X dX12_hub_84 (by decide) rfl) ?_
  refine zz_cons (k' := 86) rfl (zz_Ok_none _ _) ?_
  refine zz_cons (k' := 87) rfl (zz_Ok_none _ _) ?_
  refine zz_cons (k' := 88) rfl (zk_iconst X dX12_hub_87 (by decide) rfl) ?_
  refine zz_cons (k' := 89) rfl (zk_goto X dX12_hub_88 (by decide)) ?_
  refine zz_cons (k' := 90) rfl (zz_Ok_none _ _) ?_
  refine zz_cons (k' := 91) rfl (zz_Ok_none _ _) ?_
  refine zz_cons (k' := 92) rfl (zk_iconst X dX12_hub_91 (by decide) rfl) ?_
  refine zz_cons (k' := 93) rfl (zk_istore X dX12_hub_92 (by decide) rfl) ?_
  refine zz_cons (k' := 94) rfl (zz_Ok_none _ _) ?_
  refine zz_cons (k' := 95) rfl (zk_iinc X dX12_hub_94 (by decide) (by decide) rfl) ?_
  refine zz_cons (k' := 96) rfl (zz_Ok_none _ _) ?_
  refine zz_cons (k' := 97) rfl (zz_Ok_none _ _) ?_
  refine zz_cons (k' := 98) rfl (zk_goto X dX12_hub_97 (by decide)) ?_
  refine zz_cons (k' := 99) rfl (zz_Ok_none _ _) ?_
  refine zz_cons (k' := 100) rfl (zz_Ok_none _ _) ?_
  refine zz_cons (k' := 101) rfl (zk_aload_n X dX12_hub_100 rfl rfl) ?_
  refine zz_cons (k' := 102) rfl (zk_getf X ff_X12_154 dX12_hub_101 rfl) ?_
  refine zz_cons (k' := 103) rfl (zz_Ok_none _ _) ?_
  refine zz_cons (k' := 104) rfl (zz_Ok_none _ _) ?_
  refine zz_cons (k' := 105) rfl (zk_iload_n X dX12_hub_104 rfl rfl) ?_
  refine zz_cons (k' := 106) rfl (zk_isub X dX12_hub_105 rfl) ?_
  refine zz_cons (k' := 107) rfl (zk_iret X rfl dX12_hub_106) ?_
  exact trivial
noncomputable def tX12_objects : List zzOp := [
  zo_aload 0 1,
  zo_pushI 0 2,
  zo_putf zzSR (zz_kf [10] 49) false 5,
  zo_none,
  zo_none,
  zo_aload 0 6,
  zo_getf zzSR (zz_kf [10] 5) 9,
  zo_none,
  zo_none,
  zo_iret false]
set_option maxRecDepth 100000 in
theorem tl_X12_objects : ∀ pc, zz_Tl (tX12_objects.getD pc zo_none) := by
  refine zz_Tl_mem ?_
  unfold tX12_objects
  refine List.forall_mem_cons.mpr ⟨(zo_aload_tl _ _), ?_⟩
  refine List.forall_mem_cons.mpr ⟨(zo_pushI_tl _ _), ?_⟩
  refine List.forall_mem_cons.mpr ⟨(zo_putf_tl _ _ _ _), ?_⟩
  refine List.forall_mem_cons.mpr ⟨zo_none_tl, ?_⟩
  refine List.forall_mem_cons.mpr ⟨zo_none_tl, ?_⟩
  refine List.forall_mem_cons.mpr ⟨(zo_aload_tl _ _), ?_⟩
  refine List.forall_mem_cons.mpr ⟨(zo_getf_tl _ _ _), ?_⟩
  refine List.forall_mem_cons.mpr ⟨zo_none_tl, ?_⟩
  refine List.forall_mem_cons.mpr ⟨zo_none_tl, ?_⟩
  refine List.forall_mem_cons.mpr ⟨(zo_iret_tl _), ?_⟩
  exact fun _ h => absurd h List.not_mem_nil
noncomputable def fX12_objects : zzFn := zz_fn tX12_objects 1
set_option maxRecDepth 100000 in
set_option maxHeartbeats 4000000 in
theorem mm_X12_objects {l : Launch} {D : va_G} {cA : Nat → ClassId} {ad : Nat → Nat} {Ex : (Nat → Prop) → State → Heap → Prop} (Wd : zzWR l D cA ad Ex) : zz_Cn l D zzCl cA ad zzSR Ex yX12_objects cX12_objects 1 (some .int) 0 0 fX12_objects ∧ zz_Cx l D zzCl cA ad zzSR Ex yX12_objects cX12_objects 1 (some .int) 0 0 fX12_objects := by
  refine zz_meth (plainFor_of_name (by decide)) Wd.1 Wd.2.1 Wd.2.2 (fun p e R s m args below meth c rr X => ?_)
  unfold tX12_objects
  refine zz_cons (k' := 1) rfl (zk_aload_n X dX12_objects_0 rfl rfl) ?_
  refine zz_cons (k' := 2) rfl (zk_iconst X dX12_objects_1 (by decide) rfl) ?_
  refine zz_cons (k' := 3) rfl (zk_putf X ff_X12_134 fp_10_49 dX12_objects_2 rfl) ?_
  refine zz_cons (k' := 4) rfl (zz_Ok_none _ _) ?_
  refine zz_cons (k' := 5) rfl (zz_Ok_none _ _) ?_
  refine zz_cons (k' := 6) rfl (zk_aload_n X dX12_objects_5 rfl rfl) ?_
  refine zz_cons (k' := 7) rfl (zk_getf X ff_X12_137 dX12_objects_6 rfl) ?_
  refine zz_cons (k' := 8) rfl (zz_Ok_none _ _) ?_
  refine zz_cons (k' := 9) rfl (zz_Ok_none _ _) ?_
  refine zz_cons (k' := 10) rfl (zk_iret X rfl dX12_objects_9) ?_
  exact trivial
noncomputable def tX12_version : List zzOp := [
  zo_aload 0 1,
  zo_pushI 0 2,
  zo_putf zzSR (zz_kf [10] 49) false 5,
  zo_none,
  zo_none,
  zo_aload 0 6,
  zo_getf zzSR (zz_kf [10] 14) 9,
  zo_none,
  zo_none,
  zo_iret false]
set_option maxRecDepth 100000 in
theorem tl_X12_version : ∀ pc, zz_Tl (tX12_version.getD pc zo_none) := by
  refine zz_Tl_mem ?_
  unfold tX12_version
  refine List.forall_mem_cons.mpr ⟨(zo_aload_tl _ _), ?_⟩
  refine List.forall_mem_cons.mpr ⟨(zo_pushI_tl _ _), ?_⟩
  refine List.forall_mem_cons.mpr ⟨(zo_putf_tl _ _ _ _), ?_⟩
  refine List.forall_mem_cons.mpr ⟨zo_none_tl, ?_⟩
  refine List.forall_mem_cons.mpr ⟨zo_none_tl, ?_⟩
  refine List.forall_mem_cons.mpr ⟨(zo_aload_tl _ _), ?_⟩
  refine List.forall_mem_cons.mpr ⟨(zo_getf_tl _ _ _), ?_⟩
  refine List.forall_mem_cons.mpr ⟨zo_none_tl, ?_⟩
  refine List.forall_mem_cons.mpr ⟨zo_none_tl, ?_⟩
  refine List.forall_mem_cons.mpr ⟨(zo_iret_tl _), ?_⟩
  exact fun _ h => absurd h List.not_mem_nil
noncomputable def fX12_version : zzFn := zz_fn tX12_version 1
set_option maxRecDepth 100000 in
set_option maxHeartbeats 4000000 in
theorem mm_X12_version {l : Launch} {D : va_G} {cA : Nat → ClassId} {ad : Nat → Nat} {Ex : (Nat → Prop) → State → Heap → Prop} (Wd : zzWR l D cA ad Ex) : zz_Cn l D zzCl cA ad zzSR Ex yX12_version cX12_version 1 (some .int) 0 0 fX12_version ∧ zz_Cx l D zzCl cA ad zzSR Ex yX12_version cX12_version 1 (some .int) 0 0 fX12_version := by
  refine zz_meth (plainFor_of_name (by decide)) Wd.1 Wd.2.1 Wd.2.2 (fun p e R s m args below meth c rr X => ?_)
  unfold tX12_version
  refine zz_cons (k' := 1) rfl (zk_aload_n X dX12_version_0 rfl rfl) ?_
  refine zz_cons (k' := 2) rfl (zk_iconst X dX12_version_1 (by decide) rfl) ?_
  refine zz_cons (k' := 3) rfl (zk_putf X ff_X12_134 fp_10_49 dX12_version_2 rfl) ?_
  refine zz_cons (k' := 4) rfl (zz_Ok_none _ _) ?_
  refine zz_cons (k' := 5) rfl (zz_Ok_none _ _) ?_
  refine zz_cons (k' := 6) rfl (zk_aload_n X dX12_version_5 rfl rfl) ?_
  refine zz_cons (k' := 7) rfl (zk_getf X ff_X12_154 dX12_version_6 rfl) ?_
  refine zz_cons (k' := 8) rfl (zz_Ok_none _ _) ?_
  refine zz_cons (k' := 9) rfl (zz_Ok_none _ _) ?_
  refine zz_cons (k' := 10) rfl (zk_iret X rfl dX12_version_9) ?_
  exact trivial
noncomputable def tX12_asksObject : List zzOp := [
  zo_aload 0 1,
  zo_aload 0 2,
  zo_iload 1 3,
  zo_callv zzSR (zz_cl [(10, fX12_isObject)]) 1 6,
  zo_none,
  zo_none,
  zo_if (fun x => decide (x = 0)) 13 9,
  zo_none,
  zo_none,
  zo_pushI 0 10,
  zo_goto 14,
  zo_none,
  zo_none,
  zo_pushI 1 14,
  zo_callv zzSR (zz_cl [(10, fX12_goes)]) 1 17,
  zo_none,
  zo_none,
  zo_iret true]
set_option maxRecDepth 100000 in
theorem tl_X12_asksObject : ∀ pc, zz_Tl (tX12_asksObject.getD pc zo_none) := by
  refine zz_Tl_mem ?_
  unfold tX12_asksObject
  refine List.forall_mem_cons.mpr ⟨(zo_aload_tl _ _), ?_⟩
  refine List.forall_mem_cons.mpr ⟨(zo_aload_tl _ _), ?_⟩
  refine List.forall_mem_cons.mpr ⟨(zo_iload_tl _ _), ?_⟩
  refine List.forall_mem_cons.mpr ⟨(zo_callv_tl _ _ _ _), ?_⟩
  refine List.forall_mem_cons.mpr ⟨zo_none_tl, ?_⟩
  refine List.forall_mem_cons.mpr ⟨zo_none_tl, ?_⟩
  refine List.forall_mem_cons.mpr ⟨(zo_if_tl _ _ _), ?_⟩
  refine List.forall_mem_cons.mpr ⟨zo_none_tl, ?_⟩
  refine List.forall_mem_cons.mpr ⟨zo_none_tl, ?_⟩
  refine List.forall_mem_cons.mpr ⟨(zo_pushI_tl _ _), ?_⟩
  refine List.forall_mem_cons.mpr ⟨(zo_goto_tl _), ?_⟩
  refine List.forall_mem_cons.mpr ⟨zo_none_tl, ?_⟩
  refine List.forall_mem_cons.mpr ⟨zo_none_tl, ?_⟩
  refine List.forall_mem_cons.mpr ⟨(zo_pushI_tl _ _), ?_⟩
  refine List.forall_mem_cons.mpr ⟨(zo_callv_tl _ _ _ _), ?_⟩
  refine List.forall_mem_cons.mpr ⟨zo_none_tl, ?_⟩
  refine List.forall_mem_cons.mpr ⟨zo_none_tl, ?_⟩
  refine List.forall_mem_cons.mpr ⟨(zo_iret_tl _), ?_⟩
  exact fun _ h => absurd h List.not_mem_nil
noncomputable def fX12_asksObject : zzFn := zz_fn tX12_asksObject 2
set_option maxRecDepth 100000 in
set_option maxHeartbeats 4000000 in
theorem mm_X12_asksObject {l : Launch} {D : va_G} {cA : Nat → ClassId} {ad : Nat → Nat} {Ex : (Nat → Prop) → State → Heap → Prop} (Wd : zzWR l D cA ad Ex) : zz_Cn l D zzCl cA ad zzSR Ex yX12_asksObject cX12_asksObject 2 (some .boolean) 2 43 fX12_asksObject ∧ zz_Cx l D zzCl cA ad zzSR Ex yX12_asksObject cX12_asksObject 2 (some .boolean) 2 43 fX12_asksObject := by
  refine zz_meth (plainFor_of_name (by decide)) Wd.1 Wd.2.1 Wd.2.2 (fun p e R s m args below meth c rr X => ?_)
  unfold tX12_asksObject
  refine zz_cons (k' := 1) rfl (zk_aload_n X dX12_asksObject_0 rfl rfl) ?_
  refine zz_cons (k' := 2) rfl (zk_aload_n X dX12_asksObject_1 rfl rfl) ?_
  refine zz_cons (k' := 3) rfl (zk_iload_n X dX12_asksObject_2 rfl rfl) ?_
  refine zz_cons (k' := 4) rfl (zk_callv X (zz_Cv_of (List.forall_mem_cons.mpr ⟨⟨(RX_10, zzT10, 50), yX12_isObject, cX12_isObject, 2, (some .boolean), 1, 22, rfl, kv_X12_377_10.1, (mm_X12_isObject Wd).1, by decide, by decide⟩, (fun _ h => absurd h List.not_mem_nil)⟩)) dX12_asksObject_3 rfl) ?_
  refine zz_cons (k' := 5) rfl (zz_Ok_none _ _) ?_
  refine zz_cons (k' := 6) rfl (zz_Ok_none _ _) ?_
  refine zz_cons (k' := 7) rfl (zk_if_eq X dX12_asksObject_6 (by decide) rfl) ?_
  refine zz_cons (k' := 8) rfl (zz_Ok_none _ _) ?_
  refine zz_cons (k' := 9) rfl (zz_Ok_none _ _) ?_
  refine zz_cons (k' := 10) rfl (zk_iconst X dX12_asksObject_9 (by decide) rfl) ?_
  refine zz_cons (k' := 11) rfl (zk_goto X dX12_asksObject_10 (by decide)) ?_
  refine zz_cons (k' := 12) rfl (zz_Ok_none _ _) ?_
  refine zz_cons (k' := 13) rfl (zz_Ok_none _ _) ?_
  refine zz_cons (k' := 14) rfl (zk_iconst X dX12_asksObject_13 (by decide) rfl) ?_
  refine zz_cons (k' := 15) rfl (zk_callv X (zz_Cv_of (List.forall_mem_cons.mpr ⟨⟨(RX_10, zzT10, 50), yX12_goes, cX12_goes, 2, (some .boolean), 0, 0, rfl, kv_X12_374_10.1, (mm_X12_goes Wd).1, by decide, by decide⟩, (fun _ h => absurd h List.not_mem_nil)⟩)) dX12_asksObject_14 rfl) ?_
  refine zz_cons (k' := 16) rfl (zz_Ok_none _ _) ?_
  refine zz_cons (k' := 17) rfl (zz_Ok_none _ _) ?_
  refine zz_cons (k' := 18) rfl (zk_iret X rfl dX12_asksObject_17) ?_
  exact trivial
noncomputable def tX12_asksOf : List zzOp := [
  zo_aload 0 1,
  zo_aload 0 2,
  zo_iload 1 3,
  zo_callv zzSR (zz_cl [(10, fX12_isObject)]) 1 6,
  zo_none,
  zo_none,
  zo_if (fun x => decide (¬ x = 0)) 13 9,
  zo_none,
  zo_none,
  zo_pushI 1 10,
  zo_goto 28,
  zo_none,
  zo_none,
  zo_aload 0 14,
  zo_getf zzSR (zz_kf [10] 6) 17,
  zo_none,
  zo_none,
  zo_iload 1 18,
  zo_iald zzSR zzSTR 19,
  zo_iload 2 20,
  zo_icmp (fun x y => decide (¬ x = y)) 27 23,
  zo_none,
  zo_none,
  zo_pushI 0 24,
  zo_goto 28,
  zo_none,
  zo_none,
  zo_pushI 2 28,
  zo_callv zzSR (zz_cl [(10, fX12_goes)]) 1 31,
  zo_none,
  zo_none,
  zo_iret true]
set_option maxRecDepth 100000 in
theorem tl_X12_asksOf : ∀ pc, zz_Tl (tX12_asksOf.getD pc zo_none) := by
  refine zz_Tl_mem ?_
  unfold tX12_asksOf
  refine List.forall_mem_cons.mpr ⟨(zo_aload_tl _ _), ?_⟩
  refine List.forall_mem_cons.mpr ⟨(zo_aload_tl _ _), ?_⟩
  refine List.forall_mem_cons.mpr ⟨(zo_iload_tl _ _), ?_⟩
  refine List.forall_mem_cons.mpr ⟨(zo_callv_tl _ _ _ _), ?_⟩
  refine List.forall_mem_cons.mpr ⟨zo_none_tl, ?_⟩
  refine List.forall_mem_cons.mpr ⟨zo_none_tl, ?_⟩
  refine List.forall_mem_cons.mpr ⟨(zo_if_tl _ _ _), ?_⟩
  refine List.forall_mem_cons.mpr ⟨zo_none_tl, ?_⟩
  refine List.forall_mem_cons.mpr ⟨zo_none_tl, ?_⟩
  refine List.forall_mem_cons.mpr ⟨(zo_pushI_tl _ _), ?_⟩
  refine List.forall_mem_cons.mpr ⟨(zo_goto_tl _), ?_⟩
  refine List.forall_mem_cons.mpr ⟨zo_none_tl, ?_⟩
  refine List.forall_mem_cons.mpr ⟨zo_none_tl, ?_⟩
  refine List.forall_mem_cons.mpr ⟨(zo_aload_tl _ _), ?_⟩
  refine List.forall_mem_cons.mpr ⟨(zo_getf_tl _ _ _), ?_⟩
  refine List.forall_mem_cons.mpr ⟨zo_none_tl, ?_⟩
  refine List.forall_mem_cons.mpr ⟨zo_none_tl, ?_⟩
  refine List.forall_mem_cons.mpr ⟨(zo_iload_tl _ _), ?_⟩
  refine List.forall_mem_cons.mpr ⟨(zo_iald_tl _ _ _), ?_⟩
  refine List.forall_mem_cons.mpr ⟨(zo_iload_tl _ _), ?_⟩
  refine List.forall_mem_cons.mpr ⟨(zo_icmp_tl _ _ _), ?_⟩
  refine List.forall_mem_cons.mpr ⟨zo_none_tl, ?_⟩
  refine List.forall_mem_cons.mpr ⟨zo_none_tl, ?_⟩
  refine List.forall_mem_cons.mpr ⟨(zo_pushI_tl _ _), ?_⟩
  refine List.forall_mem_cons.mpr ⟨(zo_goto_tl _), ?_⟩
  refine List.forall_mem_cons.mpr ⟨zo_none_tl, ?_⟩
  refine List.forall_mem_cons.mpr ⟨zo_none_tl, ?_⟩
  refine List.forall_mem_cons.mpr ⟨(zo_pushI_tl _ _), ?_⟩
  refine List.forall_mem_cons.mpr ⟨(zo_callv_tl _ _ _ _), ?_⟩
  refine List.forall_mem_cons.mpr ⟨zo_none_tl, ?_⟩
  refine List.forall_mem_cons.mpr ⟨zo_none_tl, ?_⟩
  refine List.forall_mem_cons.mpr ⟨(zo_iret_tl _), ?_⟩
  exact fun _ h => absurd h List.not_mem_nil
noncomputable def fX12_asksOf : zzFn := zz_fn tX12_asksOf 3
set_option maxRecDepth 100000 in
set_option maxHeartbeats 4000000 in
theorem mm_X12_asksOf {l : Launch} {D : va_G} {cA : Nat → ClassId} {ad : Nat → Nat} {Ex : (Nat → Prop) → State → Heap → Prop} (Wd : zzWR l D cA ad Ex) : zz_Cn l D zzCl cA ad zzSR Ex yX12_asksOf cX12_asksOf 3 (some .boolean) 2 43 fX12_asksOf ∧ zz_Cx l D zzCl cA ad zzSR Ex yX12_asksOf cX12_asksOf 3 (some .boolean) 2 43 fX12_asksOf := by
  refine zz_meth (plainFor_of_name (by decide)) Wd.1 Wd.2.1 Wd.2.2 (fun p e R s m args below meth c rr X => ?_)
  unfold tX12_asksOf
  refine zz_cons (k' := 1) rfl (zk_aload_n X dX12_asksOf_0 rfl rfl) ?_
  refine zz_cons (k' := 2) rfl (zk_aload_n X dX12_asksOf_1 rfl rfl) ?_
  refine zz_cons (k' := 3) rfl (zk_iload_n X dX12_asksOf_2 rfl rfl) ?_
  refine zz_cons (k' := 4) rfl (zk_callv X (zz_Cv_of (List.forall_mem_cons.mpr ⟨⟨(RX_10, zzT10, 50), yX12_isObject, cX12_isObject, 2, (some .boolean), 1, 22, rfl, kv_X12_377_10.1, (mm_X12_isObject Wd).1, by decide, by decide⟩, (fun _ h => absurd h List.not_mem_nil)⟩)) dX12_asksOf_3 rfl) ?_
  refine zz_cons (k' := 5) rfl (zz_Ok_none _ _) ?_
  refine zz_cons (k' := 6) rfl (zz_Ok_none _ _) ?_
  refine zz_cons (k' := 7) rfl (zk_if_ne X dX12_asksOf_6 (by decide) rfl) ?_
  refine zz_cons (k' := 8) rfl (zz_Ok_none _ _) ?_
  refine zz_cons (k' := 9) rfl (zz_Ok_none _ _) ?_
  refine zz_cons (k' := 10) rfl (zk_iconst X dX12_asksOf_9 (by decide) rfl) ?_
  refine zz_cons (k' := 11) rfl (zk_goto X dX12_asksOf_10 (by decide)) ?_
  refine zz_cons (k' := 12) rfl (zz_Ok_none _ _) ?_
  refine zz_cons (k' := 13) rfl (zz_Ok_none _ _) ?_
  refine zz_cons (k' := 14) rfl (zk_aload_n X dX12_asksOf_13 rfl rfl) ?_
  refine zz_cons (k' := 15) rfl (zk_getf X ff_X12_25 dX12_asksOf_14 rfl) ?_
  refine zz_cons (k' := 16) rfl (zz_Ok_none _ _) ?_
  refine zz_cons (k' := 17) rfl (zz_Ok_none _ _) ?_
  refine zz_cons (k' := 18) rfl (zk_iload_n X dX12_asksOf_17 rfl rfl) ?_
  refine zz_cons (k' := 19) rfl (zk_iald X (zzWR_st Wd) dX12_asksOf_18 rfl) ?_
  refine zz_cons (k' := 20) rfl (zk_iload_n X dX12_asksOf_19 rfl rfl) ?_
  refine zz_cons (k' := 21) rfl (zk_icmp_ne X dX12_asksOf_20 (by decide) rfl) ?_
  refine zz_cons (k' := 22) rfl (zz_Ok_none _ _) ?_
  refine zz_cons (k' := 23) rfl (zz_Ok_none _ _) ?_
  refine zz_cons (k' := 24) rfl (zk_iconst X dX12_asksOf_23 (by decide) rfl) ?_
  refine zz_cons (k' := 25) rfl (zk_goto X dX12_asksOf_24 (by decide)) ?_
  refine zz_cons (k' := 26) rfl (zz_Ok_none _ _) ?_
  refine zz_cons (k' := 27) rfl (zz_Ok_none _ _) ?_
  refine zz_cons (k' := 28) rfl (zk_iconst X dX12_asksOf_27 (by decide) rfl) ?_
  refine zz_cons (k' := 29) rfl (zk_callv X (zz_Cv_of (List.forall_mem_cons.mpr ⟨⟨(RX_10, zzT10, 50), yX12_goes, cX12_goes, 2, (some .boolean), 0, 0, rfl, kv_X12_374_10.1, (mm_X12_goes Wd).1, by decide, by decide⟩, (fun _ h => absurd h List.not_mem_nil)⟩)) dX12_asksOf_28 rfl) ?_
  refine zz_cons (k' := 30) rfl (zz_Ok_none _ _) ?_
  refine zz_cons (k' := 31) rfl (zz_Ok_none _ _) ?_
  refine zz_cons (k' := 32) rfl (zk_iret X rfl dX12_asksOf_31) ?_
  exact trivial
noncomputable def tX12_asksField : List zzOp := [
  zo_aload 0 1,
  zo_aload 0 2,
  zo_iload 1 3,
  zo_callv zzSR (zz_cl [(10, fX12_isObject)]) 1 6,
  zo_none,
  zo_none,
  zo_if (fun x => decide (¬ x = 0)) 13 9,
  zo_none,
  zo_none,
  zo_pushI 1 10,
  zo_goto 32,
  zo_none,
  zo_none,
  zo_aload 0 14,
  zo_aload 0 15,
  zo_getf zzSR (zz_kf [10] 6) 18,
  zo_none,
  zo_none,
  zo_iload 1 19,
  zo_iald zzSR zzSTR 20,
  zo_iload 2 21,
  zo_callv zzSR (zz_cl [(10, fX12_hasField)]) 2 24,
  zo_none,
  zo_none,
  zo_if (fun x => decide (x = 0)) 31 27,
  zo_none,
  zo_none,
  zo_pushI 0 28,
  zo_goto 32,
  zo_none,
  zo_none,
  zo_pushI 2 32,
  zo_callv zzSR (zz_cl [(10, fX12_goes)]) 1 35,
  zo_none,
  zo_none,
  zo_iret true]
set_option maxRecDepth 100000 in
theorem tl_X12_asksField : ∀ pc, zz_Tl (tX12_asksField.getD pc zo_none) := by
  refine zz_Tl_mem ?_
  unfold tX12_asksField
  refine List.forall_mem_cons.mpr ⟨(zo_aload_tl _ _), ?_⟩
  refine List.forall_mem_cons.mpr ⟨(zo_aload_tl _ _), ?_⟩
  refine List.forall_mem_cons.mpr ⟨(zo_iload_tl _ _), ?_⟩
  refine List.forall_mem_cons.mpr ⟨(zo_callv_tl _ _ _ _), ?_⟩
  refine List.forall_mem_cons.mpr ⟨zo_none_tl, ?_⟩
  refine List.forall_mem_cons.mpr ⟨zo_none_tl, ?_⟩
  refine List.forall_mem_cons.mpr ⟨(zo_if_tl _ _ _), ?_⟩
  refine List.forall_mem_cons.mpr ⟨zo_none_tl, ?_⟩
  refine List.forall_mem_cons.mpr ⟨zo_none_tl, ?_⟩
  refine List.forall_mem_cons.mpr ⟨(zo_pushI_tl _ _), ?_⟩
  refine List.forall_mem_cons.mpr ⟨(zo_goto_tl _), ?_⟩
  refine List.forall_mem_cons.mpr ⟨zo_none_tl, ?_⟩
  refine List.forall_mem_cons.mpr ⟨zo_none_tl, ?_⟩
  refine List.forall_mem_cons.mpr ⟨(zo_aload_tl _ _), ?_⟩
  refine List.forall_mem_cons.mpr ⟨(zo_aload_tl _ _), ?_⟩
  refine List.forall_mem_cons.mpr ⟨(zo_getf_tl _ _ _), ?_⟩
  refine List.forall_mem_cons.mpr ⟨zo_none_tl, ?_⟩
  refine List.forall_mem_cons.mpr ⟨zo_none_tl, ?_⟩
  refine List.forall_mem_cons.mpr ⟨(zo_iload_tl _ _), ?_⟩
  refine List.forall_mem_cons.mpr ⟨(zo_iald_tl _ _ _), ?_⟩
  refine List.forall_mem_cons.mpr ⟨(zo_iload_tl _ _), ?_⟩
  refine List.forall_mem_cons.mpr ⟨(zo_callv_tl _ _ _ _), ?_⟩
  refine List.forall_mem_cons.mpr ⟨zo_none_tl, ?_⟩
  refine List.forall_mem_cons.mpr ⟨zo_none_tl, ?_⟩
  refine List.forall_mem_cons.mpr ⟨(zo_if_tl _ _ _), ?_⟩
  refine List.forall_mem_cons.mpr ⟨zo_none_tl, ?_⟩
  refine List.forall_mem_cons.mpr ⟨zo_none_tl, ?_⟩
  refine List.forall_mem_cons.mpr ⟨(zo_pushI_tl _ _), ?_⟩
  refine List.forall_mem_cons.mpr ⟨(zo_goto_tl _), ?_⟩
  refine List.forall_mem_cons.mpr ⟨zo_none_tl, ?_⟩
  refine List.forall_mem_cons.mpr ⟨zo_none_tl, ?_⟩
  refine List.forall_mem_cons.mpr ⟨(zo_pushI_tl _ _), ?_⟩
  refine List.forall_mem_cons.mpr ⟨(zo_callv_tl _ _ _ _), ?_⟩
  refine List.forall_mem_cons.mpr ⟨zo_none_tl, ?_⟩
  refine List.forall_mem_cons.mpr ⟨zo_none_tl, ?_⟩
  refine List.forall_mem_cons.mpr ⟨(zo_iret_tl _), ?_⟩
  exact fun _ h => absurd h List.not_mem_nil
noncomputable def fX12_asksField : zzFn := zz_fn tX12_asksField 3
set_option maxRecDepth 100000 in
set_option maxHeartbeats 4000000 in
theorem mm_X12_asksField {l : Launch} {D : va_G} {cA : Nat → ClassId} {ad : Nat → Nat} {Ex : (Nat → Prop) → State → Heap → Prop} (Wd : zzWR l D cA ad Ex) : zz_Cn l D zzCl cA ad zzSR Ex yX12_asksField cX12_asksField 3 (some .boolean) 2 44 fX12_asksField ∧ zz_Cx l D zzCl cA ad zzSR Ex yX12_asksField cX12_asksField 3 (some .boolean) 2 44 fX12_asksField := by
  refine zz_meth (plainFor_of_name (by decide)) Wd.1 Wd.2.1 Wd.2.2 (fun p e R s m args below meth c rr X => ?_)
  unfold tX12_asksField
  refine zz_cons (k' := 1) rfl (zk_aload_n X dX12_asksField_0 rfl rfl) ?_
  refine zz_cons (k' := 2) rfl (zk_aload_n X dX12_asksField_1 rfl rfl) ?_
  refine zz_cons (k' := 3) rfl (zk_iload_n X dX12_asksField_2 rfl rfl) ?_
  refine zz_cons (k' := 4) rfl (zk_callv X (zz_Cv_of (List.forall_mem_cons.mpr ⟨⟨(RX_10, zzT10, 50), yX12_isObject, cX12_isObject, 2, (some .boolean), 1, 22, rfl, kv_X12_377_10.1, (mm_X12_isObject Wd).1, by decide, by decide⟩, (fun _ h => absurd h List.not_mem_nil)⟩)) dX12_asksField_3 rfl) ?_
  refine zz_cons (k' := 5) rfl (zz_Ok_none _ _) ?_
  refine zz_cons (k' := 6) rfl (zz_Ok_none _ _) ?_
  refine zz_cons (k' := 7) rfl (zk_if_ne X dX12_asksField_6 (by decide) rfl) ?_
  refine zz_cons (k' := 8) rfl (zz_Ok_none _ _) ?_
  refine zz_cons (k' := 9) rfl (zz_Ok_none _ _) ?_
  refine zz_cons (k' := 10) rfl (zk_iconst X dX12_asksField_9 (by decide) rfl) ?_
  refine zz_cons (k' := 11) rfl (zk_goto X dX12_asksField_10 (by decide)) ?_
  refine zz_cons (k' := 12) rfl (zz_Ok_none _ _) ?_
  refine zz_cons (k' := 13) rfl (zz_Ok_none _ _) ?_
  refine zz_cons (k' := 14) rfl (zk_aload_n X dX12_asksField_13 rfl rfl) ?_
  refine zz_cons (k' := 15) rfl (zk_aload_n X dX12_asksField_14 rfl rfl) ?_
  refine zz_cons (k' := 16) rfl (zk_getf X ff_X12_25 dX12_asksField_15 rfl) ?_
  refine zz_cons (k' := 17) rfl (zz_Ok_none _ _) ?_
  refine zz_cons (k' := 18) rfl (zz_Ok_none _ _) ?_
  refine zz_cons (k' := 19) rfl (zk_iload_n X dX12_asksField_18 rfl rfl) ?_
  refine zz_cons (k' := 20) rfl (zk_iald X (zzWR_st Wd) dX12_asksField_19 rfl) ?_
  refine zz_cons (k' := 21) rfl (zk_iload_n X dX12_asksField_20 rfl rfl) ?_
  refine zz_cons (k' := 22) rfl (zk_callv X (zz_Cv_of (List.forall_mem_cons.mpr ⟨⟨(RX_10, zzT10, 50), yX12_hasField, cX12_hasField, 3, (some .boolean), 1, 22, rfl, kv_X12_380_10.1, (mm_X12_hasField Wd).1, by decide, by decide⟩, (fun _ h => absurd h List.not_mem_nil)⟩)) dX12_asksField_21 rfl) ?_
  refine zz_cons (k' := 23) rfl (zz_Ok_none _ _) ?_
  refine zz_cons (k' := 24) rfl (zz_Ok_none _ _) ?_
  refine zz_cons (k' := 25) rfl (zk_if_eq X dX12_asksField_24 (by decide) rfl) ?_
  refine zz_cons (k' := 26) rfl (zz_Ok_none _ _) ?_
  refine zz_cons (k' := 27) rfl (zz_Ok_none _ _) ?_
  refine zz_cons (k' := 28) rfl (zk_iconst X dX12_asksField_27 (by decide) rfl) ?_
  refine zz_cons (k' := 29) rfl (zk_goto X dX12_asksField_28 (by decide)) ?_
  refine zz_cons (k' := 30) rfl (zz_Ok_none _ _) ?_
  refine zz_cons (k' := 31) rfl (zz_Ok_none _ _) ?_
  refine zz_cons (k' := 32) rfl (zk_iconst X dX12_asksField_31 (by decide) rfl) ?_
  refine zz_cons (k' := 33) rfl (zk_callv X (zz_Cv_of (List.forall_mem_cons.mpr ⟨⟨(RX_10, zzT10, 50), yX12_goes, cX12_goes, 2, (some .boolean), 0, 0, rfl, kv_X12_374_10.1, (mm_X12_goes Wd).1, by decide, by decide⟩, (fun _ h => absurd h List.not_mem_nil)⟩)) dX12_asksField_32 rfl) ?_
  refine zz_cons (k' := 34) rfl (zz_Ok_none _ _) ?_
  refine zz_cons (k' := 35) rfl (zz_Ok_none _ _) ?_
  refine zz_cons (k' := 36) rfl (zk_iret X rfl dX12_asksField_35) ?_
  exact trivial
noncomputable def tX12_kindOf : List zzOp := [
  zo_aload 0 1,
  zo_iload 1 2,
  zo_callv zzSR (zz_cl [(10, fX12_asksObject)]) 1 5,
  zo_none,
  zo_none,
  zo_if (fun x => decide (x = 0)) 17 8,
  zo_none,
  zo_none,
  zo_aload 0 9,
  zo_getf zzSR (zz_kf [10] 6) 12,
  zo_none,
  zo_none,
  zo_iload 1 13,
  zo_iald zzSR zzSTR 14,
  zo_goto 18,
  zo_none,
  zo_none,
  zo_pushI 0 18,
  zo_iret false]
set_option maxRecDepth 100000 in
theorem tl_X12_kindOf : ∀ pc, zz_Tl (tX12_kindOf.getD pc zo_none) := by
  refine zz_Tl_mem ?_
  unfold tX12_kindOf
  refine List.forall_mem_cons.mpr ⟨(zo_aload_tl _ _), ?_⟩
  refine List.forall_mem_cons.mpr ⟨(zo_iload_tl _ _), ?_⟩
  refine List.forall_mem_cons.mpr ⟨(zo_callv_tl _ _ _ _), ?_⟩
  refine List.forall_mem_cons.mpr ⟨zo_none_tl, ?_⟩
  refine List.forall_mem_cons.mpr ⟨zo_none_tl, ?_⟩
  refine List.forall_mem_cons.mpr ⟨(zo_if_tl _ _ _), ?_⟩
  refine List.forall_mem_cons.mpr ⟨zo_none_tl, ?_⟩
  refine List.forall_mem_cons.mpr ⟨zo_none_tl, ?_⟩
  refine List.forall_mem_cons.mpr ⟨(zo_aload_tl _ _), ?_⟩
  refine List.forall_mem_cons.mpr ⟨(zo_getf_tl _ _ _), ?_⟩
  refine List.forall_mem_cons.mpr ⟨zo_none_tl, ?_⟩
  refine List.forall_mem_cons.mpr ⟨zo_none_tl, ?_⟩
  refine List.forall_mem_cons.mpr ⟨(zo_iload_tl _ _), ?_⟩
  refine List.forall_mem_cons.mpr ⟨(zo_iald_tl _ _ _), ?_⟩
  refine List.forall_mem_cons.mpr ⟨(zo_goto_tl _), ?_⟩
  refine List.forall_mem_cons.mpr ⟨zo_none_tl, ?_⟩
  refine List.forall_mem_cons.mpr ⟨zo_none_tl, ?_⟩
  refine List.forall_mem_cons.mpr ⟨(zo_pushI_tl _ _), ?_⟩
  refine List.forall_mem_cons.mpr ⟨(zo_iret_tl _), ?_⟩
  exact fun _ h => absurd h List.not_mem_nil
noncomputable def fX12_kindOf : zzFn := zz_fn tX12_kindOf 2
set_option maxRecDepth 100000 in
set_option maxHeartbeats 4000000 in
theorem mm_X12_kindOf {l : Launch} {D : va_G} {cA : Nat → ClassId} {ad : Nat → Nat} {Ex : (Nat → Prop) → State → Heap → Prop} (Wd : zzWR l D cA ad Ex) : zz_Cn l D zzCl cA ad zzSR Ex yX12_kindOf cX12_kindOf 2 (some .int) 3 64 fX12_kindOf ∧ zz_Cx l D zzCl cA ad zzSR Ex yX12_kindOf cX12_kindOf 2 (some .int) 3 64 fX12_kindOf := by
  refine zz_meth (plainFor_of_name (by decide)) Wd.1 Wd.2.1 Wd.2.2 (fun p e R s m args below meth c rr X => ?_)
  unfold tX12_kindOf
  refine zz_cons (k' := 1) rfl (zk_aload_n X dX12_kindOf_0 rfl rfl) ?_
  refine zz_cons (k' := 2) rfl (zk_iload_n X dX12_kindOf_1 rfl rfl) ?_
  refine zz_cons (k' := 3) rfl (zk_callv X (zz_Cv_of (List.forall_mem_cons.mpr ⟨⟨(RX_10, zzT10, 50), yX12_asksObject, cX12_asksObject, 2, (some .boolean), 2, 43, rfl, kv_X12_407_10.1, (mm_X12_asksObject Wd).1, by decide, by decide⟩, (fun _ h => absurd h List.not_mem_nil)⟩)) dX12_kindOf_2 rfl) ?_
  refine zz_cons (k' := 4) rfl (zz_Ok_none _ _) ?_
  refine zz_cons (k' := 5) rfl (zz_Ok_none _ _) ?_
  refine zz_cons (k' := 6) rfl (zk_if_eq X dX12_kindOf_5 (by decide) rfl) ?_
  refine zz_cons (k' := 7) rfl (zz_Ok_none _ _) ?_
  refine zz_cons (k' := 8) rfl (zz_Ok_none _ _) ?_
  refine zz_cons (k' := 9) rfl (zk_aload_n X dX12_kindOf_8 rfl rfl) ?_
  refine zz_cons (k' := 10) rfl (zk_getf X ff_X12_25 dX12_kindOf_9 rfl) ?_
  refine zz_cons (k' := 11) rfl (zz_Ok_none _ _) ?_
  refine zz_cons (k' := 12) rfl (zz_Ok_none _ _) ?_
  refine zz_cons (k' := 13) rfl (zk_iload_n X dX12_kindOf_12 rfl rfl) ?_
  refine zz_cons (k' := 14) rfl (zk_iald X (zzWR_st Wd) dX12_kindOf_13 rfl) ?_
  refine zz_cons (k' := 15) rfl (zk_goto X dX12_kindOf_14 (by decide)) ?_
  refine zz_cons (k' := 16) rfl (zz_Ok_none _ _) ?_
  refine zz_cons (k' := 17) rfl (zz_Ok_none _ _) ?_
  refine zz_cons (k' := 18) rfl (zk_iconst X dX12_kindOf_17 (by decide) rfl) ?_
  refine zz_cons (k' := 19) rfl (zk_iret X rfl dX12_kindOf_18) ?_
  exact trivial
noncomputable def tX12_field : List zzOp := [
  zo_aload 0 1,
  zo_iload 1 2,
  zo_iload 2 3,
  zo_callv zzSR (zz_cl [(10, fX12_asksField)]) 2 6,
  zo_none,
  zo_none,
  zo_if (fun x => decide (x = 0)) 23 9,
  zo_none,
  zo_none,
  zo_aload 0 10,
  zo_aload 0 11,
  zo_getf zzSR (zz_kf [10] 7) 14,
  zo_none,
  zo_none,
  zo_iload 1 15,
  zo_lald zzSR 16,
  zo_iload 2 17,
  zo_callv zzSR (zz_cl [(10, fX12_get)]) 2 20,
  zo_none,
  zo_none,
  zo_goto 24,
  zo_none,
  zo_none,
  zo_pushI 0 24,
  zo_iret false]
set_option maxRecDepth 100000 in
theorem tl_X12_field : ∀ pc, zz_Tl (tX12_field.getD pc zo_none) := by
  refine zz_Tl_mem ?_
  unfold tX12_field
  refine List.forall_mem_cons.mpr ⟨(zo_aload_tl _ _), ?_⟩
  refine List.forall_mem_cons.mpr ⟨(zo_iload_tl _ _), ?_⟩
  refine List.forall_mem_cons.mpr ⟨(zo_iload_tl _ _), ?_⟩
  refine List.forall_mem_cons.mpr ⟨(zo_callv_tl _ _ _ _), ?_⟩
  refine List.forall_mem_cons.mpr ⟨zo_none_tl, ?_⟩
  refine List.forall_mem_cons.mpr ⟨zo_none_tl, ?_⟩
  refine List.forall_mem_cons.mpr ⟨(zo_if_tl _ _ _), ?_⟩
  refine List.forall_mem_cons.mpr ⟨zo_none_tl, ?_⟩
  refine List.forall_mem_cons.mpr ⟨zo_none_tl, ?_⟩
  refine List.forall_mem_cons.mpr ⟨(zo_aload_tl _ _), ?_⟩
  refine List.forall_mem_cons.mpr ⟨(zo_aload_tl _ _), ?_⟩
  refine List.forall_mem_cons.mpr ⟨(zo_getf_tl _ _ _), ?_⟩
  refine List.forall_mem_cons.mpr ⟨zo_none_tl, ?_⟩
  refine List.forall_mem_cons.mpr ⟨zo_none_tl, ?_⟩
  refine List.forall_mem_cons.mpr ⟨(zo_iload_tl _ _), ?_⟩
  refine List.forall_mem_cons.mpr ⟨(zo_lald_tl _ _), ?_⟩
  refine List.forall_mem_cons.mpr ⟨(zo_iload_tl _ _), ?_⟩
  refine List.forall_mem_cons.mpr ⟨(zo_callv_tl _ _ _ _), ?_⟩
  refine List.forall_mem_cons.mpr ⟨zo_none_tl, ?_⟩
  refine List.forall_mem_cons.mpr ⟨zo_none_tl, ?_⟩
  refine List.forall_mem_cons.mpr ⟨(zo_goto_tl _), ?_⟩
  refine List.forall_mem_cons.mpr ⟨zo_none_tl, ?_⟩
  refine List.forall_mem_cons.mpr ⟨zo_none_tl, ?_⟩
  refine List.forall_mem_cons.mpr ⟨(zo_pushI_tl _ _), ?_⟩
  refine List.forall_mem_cons.mpr ⟨(zo_iret_tl _), ?_⟩
  exact fun _ h => absurd h List.not_mem_nil
noncomputable def fX12_field : zzFn := zz_fn tX12_field 3
set_option maxRecDepth 100000 in
set_option maxHeartbeats 4000000 in
theorem mm_X12_field {l : Launch} {D : va_G} {cA : Nat → ClassId} {ad : Nat → Nat} {Ex : (Nat → Prop) → State → Heap → Prop} (Wd : zzWR l D cA ad Ex) : zz_Cn l D zzCl cA ad zzSR Ex yX12_field cX12_field 3 (some .int) 3 66 fX12_field ∧ zz_Cx l D zzCl cA ad zzSR Ex yX12_field cX12_field 3 (some .int) 3 66 fX12_field := by
  refine zz_meth (plainFor_of_name (by decide)) Wd.1 Wd.2.1 Wd.2.2 (fun p e R s m args below meth c rr X => ?_)
  unfold tX12_field
  refine zz_cons (k' := 1) rfl (zk_aload_n X dX12_field_0 rfl rfl) ?_
  refine zz_cons (k' := 2) rfl (zk_iload_n X dX12_field_1 rfl rfl) ?_
  refine zz_cons (k' := 3) rfl (zk_iload_n X dX12_field_2 rfl rfl) ?_
  refine zz_cons (k' := 4) rfl (zk_callv X (zz_Cv_of (List.forall_mem_cons.mpr ⟨⟨(RX_10, zzT10, 50), yX12_asksField, cX12_asksField, 3, (some .boolean), 2, 44, rfl, kv_X12_410_10.1, (mm_X12_asksField Wd).1, by decide, by decide⟩, (fun _ h => absurd h List.not_mem_nil)⟩)) dX12_field_3 rfl) ?_
  refine zz_cons (k' := 5) rfl (zz_Ok_none _ _) ?_
  refine zz_cons (k' := 6) rfl (zz_Ok_none _ _) ?_
  refine zz_cons (k' := 7) rfl (zk_if_eq X dX12_field_6 (by decide) rfl) ?_
  refine zz_cons (k' := 8) rfl (zz_Ok_none _ _) ?_
  refine zz_cons (k' := 9) rfl (zz_Ok_none _ _) ?_
  refine zz_cons (k' := 10) rfl (zk_aload_n X dX12_field_9 rfl rfl) ?_
  refine zz_cons (k' := 11) rfl (zk_aload_n X dX12_field_10 rfl rfl) ?_
  refine zz_cons (k' := 12) rfl (zk_getf X ff_X12_28 dX12_field_11 rfl) ?_
  refine zz_cons (k' := 13) rfl (zz_Ok_none _ _) ?_
  refine zz_cons (k' := 14) rfl (zz_Ok_none _ _) ?_
  refine zz_cons (k' := 15) rfl (zk_iload_n X dX12_field_14 rfl rfl) ?_
  refine zz_cons (k' := 16) rfl (zk_lald X dX12_field_15 rfl) ?_
  refine zz_cons (k' := 17) rfl (zk_iload_n X dX12_field_16 rfl rfl) ?_
  refine zz_cons (k' := 18) rfl (zk_callv X (zz_Cv_of (List.forall_mem_cons.mpr ⟨⟨(RX_10, zzT10, 50), yX12_get, cX12_get, 4, (some .int), 0, 0, rfl, kv_X12_146_10.1, (mm_X12_get Wd).1, by decide, by decide⟩, (fun _ h => absurd h List.not_mem_nil)⟩)) dX12_field_17 rfl) ?_
  refine zz_cons (k' := 19) rfl (zz_Ok_none _ _) ?_
  refine zz_cons (k' := 20) rfl (zz_Ok_none _ _) ?_
  refine zz_cons (k' := 21) rfl (zk_goto X dX12_field_20 (by decide)) ?_
  refine zz_cons (k' := 22) rfl (zz_Ok_none _ _) ?_
  refine zz_cons (k' := 23) rfl (zz_Ok_none _ _) ?_
  refine zz_cons (k' := 24) rfl (zk_iconst X dX12_field_23 (by decide) rfl) ?_
  refine zz_cons (k' := 25) rfl (zk_iret X rfl dX12_field_24) ?_
  exact trivial
noncomputable def tX12_managerOf : List zzOp := [
  zo_aload 0 1,
  zo_iload 1 2,
  zo_iload 2 3,
  zo_callv zzSR (zz_cl [(10, fX12_asksField)]) 2 6,
  zo_none,
  zo_none,
  zo_if (fun x => decide (x = 0)) 23 9,
  zo_none,
  zo_none,
  zo_aload 0 10,
  zo_getf zzSR (zz_kf [10] 10) 13,
  zo_none,
  zo_none,
  zo_pushI 11 15,
  zo_none,
  zo_iload 1 16,
  zo_ii (fun x y => x * y) 17,
  zo_iload 2 18,
  zo_ii (fun x y => x + y) 19,
  zo_iald zzSR zzSTR 20,
  zo_goto 24,
  zo_none,
  zo_none,
  zo_pushI 0 24,
  zo_iret false]
set_option maxRecDepth 100000 in
theorem tl_X12_managerOf : ∀ pc, zz_Tl (tX12_managerOf.getD pc zo_none) := by
  refine zz_Tl_mem ?_
  unfold tX12_managerOf
  refine List.forall_mem_cons.mpr ⟨(zo_aload_tl _ _), ?_⟩
  refine List.forall_mem_cons.mpr ⟨(zo_iload_tl _ _), ?_⟩
  refine List.forall_mem_cons.mpr ⟨(zo_iload_tl _ _), ?_⟩
  refine List.forall_mem_cons.mpr ⟨(zo_callv_tl _ _ _ _), ?_⟩
  refine List.forall_mem_cons.mpr ⟨zo_none_tl, ?_⟩
  refine List.forall_mem_cons.mpr ⟨zo_none_tl, ?_⟩
  refine List.forall_mem_cons.mpr ⟨(zo_if_tl _ _ _), ?_⟩
  refine List.forall_mem_cons.mpr ⟨zo_none_tl, ?_⟩
  refine List.forall_mem_cons.mpr ⟨zo_none_tl, ?_⟩
  refine List.forall_mem_cons.mpr ⟨(zo_aload_tl _ _), ?_⟩
  refine List.forall_mem_cons.mpr ⟨(zo_getf_tl _ _ _), ?_⟩
  refine List.forall_mem_cons.mpr ⟨zo_none_tl, ?_⟩
  refine List.forall_mem_cons.mpr ⟨zo_none_tl, ?_⟩
  refine List.forall_mem_cons.mpr ⟨(zo_pushI_tl _ _), ?_⟩
  refine List.forall_mem_cons.mpr ⟨zo_none_tl, ?_⟩
  refine List.forall_mem_cons.mpr ⟨(zo_iload_tl _ _), ?_⟩
  refine List.forall_mem_cons.mpr ⟨(zo_ii_tl _ _), ?_⟩
  refine List.forall_mem_cons.mpr ⟨(zo_iload_tl _ _), ?_⟩
  refine List.forall_mem_cons.mpr ⟨(zo_ii_tl _ _), ?_⟩
  refine List.forall_mem_cons.mpr ⟨(zo_iald_tl _ _ _), ?_⟩
  refine List.forall_mem_cons.mpr ⟨(zo_goto_tl _), ?_⟩
  refine List.forall_mem_cons.mpr ⟨zo_none_tl, ?_⟩
  refine List.forall_mem_cons.mpr ⟨zo_none_tl, ?_⟩
  refine List.forall_mem_cons.mpr ⟨(zo_pushI_tl _ _), ?_⟩
  refine List.forall_mem_cons.mpr ⟨(zo_iret_tl _), ?_⟩
  exact fun _ h => absurd h List.not_mem_nil
noncomputable def fX12_managerOf : zzFn := zz_fn tX12_managerOf 3
set_option maxRecDepth 100000 in
set_option maxHeartbeats 4000000 in
theorem mm_X12_managerOf {l : Launch} {D : va_G} {cA : Nat → ClassId} {ad : Nat → Nat} {Ex : (Nat → Prop) → State → Heap → Prop} (Wd : zzWR l D cA ad Ex) : zz_Cn l D zzCl cA ad zzSR Ex yX12_managerOf cX12_managerOf 3 (some .int) 3 66 fX12_managerOf ∧ zz_Cx l D zzCl cA ad zzSR Ex yX12_managerOf cX12_managerOf 3 (some .int) 3 66 fX12_managerOf := by
  refine zz_meth (plainFor_of_name (by decide)) Wd.1 Wd.2.1 Wd.2.2 (fun p e R s m args below meth c rr X => ?_)
  unfold tX12_managerOf
  refine zz_cons (k' := 1) rfl (zk_aload_n X dX12_managerOf_0 rfl rfl) ?_
  refine zz_cons (k' := 2) rfl (zk_iload_n X dX12_managerOf_1 rfl rfl) ?_
  refine zz_cons (k' := 3) rfl (zk_iload_n X dX12_managerOf_2 rfl rfl) ?_
  refine zz_cons (k' := 4) rfl (zk_callv X (zz_Cv_of (List.forall_mem_cons.mpr ⟨⟨(RX_10, zzT10, 50), yX12_asksField, cX12_asksField, 3, (some .boolean), 2, 44, rfl, kv_X12_410_10.1, (mm_X12_asksField Wd).1, by decide, by decide⟩, (fun _ h => absurd h List.not_mem_nil)⟩)) dX12_managerOf_3 rfl) ?_
  refine zz_cons (k' := 5) rfl (zz_Ok_none _ _) ?_
  refine zz_cons (k' := 6) rfl (zz_Ok_none _ _) ?_
  refine zz_cons (k' := 7) rfl (zk_if_eq X dX12_managerOf_6 (by decide) rfl) ?_
  refine zz_cons (k' := 8) rfl (zz_Ok_none _ _) ?_
  refine zz_cons (k' := 9) rfl (zz_Ok_none _ _) ?_
  refine zz_cons (k' := 10) rfl (zk_aload_n X dX12_managerOf_9 rfl rfl) ?_
  refine zz_cons (k' := 11) rfl (zk_getf X ff_X12_38 dX12_managerOf_10 rfl) ?_
  refine zz_cons (k' := 12) rfl (zz_Ok_none _ _) ?_
  refine zz_cons (k' := 13) rfl (zz_Ok_none _ _) ?_
  refine zz_cons (k' := 14) rfl (zk_bipush X dX12_managerOf_13 (by decide) rfl) ?_
  refine zz_cons (k' := 15) rfl (zz_Ok_none _ _) ?_
  refine zz_cons (k' := 16) rfl (zk_iload_n X dX12_managerOf_15 rfl rfl) ?_
  refine zz_cons (k' := 17) rfl (zk_imul X dX12_managerOf_16 rfl) ?_
  refine zz_cons (k' := 18) rfl (zk_iload_n X dX12_managerOf_17 rfl rfl) ?_
  refine zz_cons (k' := 19) rfl (zk_iadd X dX12_managerOf_18 rfl) ?_
  refine zz_cons (k' := 20) rfl (zk_iald X (zzWR_st Wd) dX12_managerOf_19 rfl) ?_
  refine zz_cons (k' := 21) rfl (zk_goto X dX12_managerOf_20 (by decide)) ?_
  refine zz_cons (k' := 22) rfl (zz_Ok_none _ _) ?_
  refine zz_cons (k' := 23) rfl (zz_Ok_none _ _) ?_
  refine zz_cons (k' := 24) rfl (zk_iconst X dX12_managerOf_23 (by decide) rfl) ?_
  refine zz_cons (k' := 25) rfl (zk_iret X rfl dX12_managerOf_24) ?_
  exact trivial
noncomputable def tX12_budget : List zzOp := [
  zo_aload 0 1,
  zo_iload 1 2,
  zo_pushI 0 3,
  zo_callv zzSR (zz_cl [(10, fX12_asksOf)]) 2 6,
  zo_none,
  zo_none,
  zo_if (fun x => decide (x = 0)) 38 9,
  zo_none,
  zo_none,
  zo_pushI 10 11,
  zo_none,
  zo_aload 0 12,
  zo_aload 0 13,
  zo_getf zzSR (zz_kf [10] 7) 16,
  zo_none,
  zo_none,
  zo_iload 1 17,
  zo_lald zzSR 18,
  zo_pushI 2 19,
  zo_callv zzSR (zz_cl [(10, fX12_get)]) 2 22,
  zo_none,
  zo_none,
  zo_ii (fun x y => x * y) 23,
  zo_aload 0 24,
  zo_aload 0 25,
  zo_getf zzSR (zz_kf [10] 7) 28,
  zo_none,
  zo_none,
  zo_iload 1 29,
  zo_lald zzSR 30,
  zo_pushI 3 31,
  zo_callv zzSR (zz_cl [(10, fX12_get)]) 2 34,
  zo_none,
  zo_none,
  zo_ii (fun x y => x + y) 35,
  zo_goto 39,
  zo_none,
  zo_none,
  zo_pushI 0 39,
  zo_iret false]
set_option maxRecDepth 100000 in
theorem tl_X12_budget : ∀ pc, zz_Tl (tX12_budget.getD pc zo_none) := by
  refine zz_Tl_mem ?_
  unfold tX12_budget
  refine List.forall_mem_cons.mpr ⟨(zo_aload_tl _ _), ?_⟩
  refine List.forall_mem_cons.mpr ⟨(zo_iload_tl _ _), ?_⟩
  refine List.forall_mem_cons.mpr ⟨(zo_pushI_tl _ _), ?_⟩
  refine List.forall_mem_cons.mpr ⟨(zo_callv_tl _ _ _ _), ?_⟩
  refine List.forall_mem_cons.mpr ⟨zo_none_tl, ?_⟩
  refine List.forall_mem_cons.mpr ⟨zo_none_tl, ?_⟩
  refine List.forall_mem_cons.mpr ⟨(zo_if_tl _ _ _), ?_⟩
  refine List.forall_mem_cons.mpr ⟨zo_none_tl, ?_⟩
  refine List.forall_mem_cons.mpr ⟨zo_none_tl, ?_⟩
  refine List.forall_mem_cons.mpr ⟨(zo_pushI_tl _ _), ?_⟩
  refine List.forall_mem_cons.mpr ⟨zo_none_tl, ?_⟩
  refine List.forall_mem_cons.mpr ⟨(zo_aload_tl _ _), ?_⟩
  refine List.forall_mem_cons.mpr ⟨(zo_aload_tl _ _), ?_⟩
  refine List.forall_mem_cons.mpr ⟨(zo_getf_tl _ _ _), ?_⟩
  refine List.forall_mem_cons.mpr ⟨zo_none_tl, ?_⟩
  refine List.forall_mem_cons.mpr ⟨zo_none_tl, ?_⟩
  refine List.forall_mem_cons.mpr ⟨(zo_iload_tl _ _), ?_⟩
  refine List.forall_mem_cons.mpr ⟨(zo_lald_tl _ _), ?_⟩
  refine List.forall_mem_cons.mpr ⟨(zo_pushI_tl _ _), ?_⟩
  refine List.forall_mem_cons.mpr ⟨(zo_callv_tl _ _ _ _), ?_⟩
  refine List.forall_mem_cons.mpr ⟨zo_none_tl, ?_⟩
  refine List.forall_mem_cons.mpr ⟨zo_none_tl, ?_⟩
  refine List.forall_mem_cons.mpr ⟨(zo_ii_tl _ _), ?_⟩
  refine List.forall_mem_cons.mpr ⟨(zo_aload_tl _ _), ?_⟩
  refine List.forall_mem_cons.mpr ⟨(zo_aload_tl _ _), ?_⟩
  refine List.forall_mem_cons.mpr ⟨(zo_getf_tl _ _ _), ?_⟩
  refine List.forall_mem_cons.mpr ⟨zo_none_tl, ?_⟩
  refine List.forall_mem_cons.mpr ⟨zo_none_tl, ?_⟩
  refine List.forall_mem_cons.mpr ⟨(zo_iload_tl _ _), ?_⟩
  refine List.forall_mem_cons.mpr ⟨(zo_lald_tl _ _), ?_⟩
  refine List.forall_mem_cons.mpr ⟨(zo_pushI_tl _ _), ?_⟩
  refine List.forall_mem_cons.mpr ⟨(zo_callv_tl _ _ _ _), ?_⟩
  refine List.forall_mem_cons.mpr ⟨zo_none_tl, ?_⟩
  refine List.forall_mem_cons.mpr ⟨zo_none_tl, ?_⟩
  refine List.forall_mem_cons.mpr ⟨(zo_ii_tl _ _), ?_⟩
  refine List.forall_mem_cons.mpr ⟨(zo_goto_tl _), ?_⟩
  refine List.forall_mem_cons.mpr ⟨zo_none_tl, ?_⟩
  refine List.forall_mem_cons.mpr ⟨zo_none_tl, ?_⟩
  refine List.forall_mem_cons.mpr ⟨(zo_pushI_tl _ _), ?_⟩
  refine List.forall_mem_cons.mpr ⟨(zo_iret_tl _), ?_⟩
  exact fun _ h => absurd h List.not_mem_nil
noncomputable def fX12_budget : zzFn := zz_fn tX12_budget 2
set_option maxRecDepth 100000 in
set_option maxHeartbeats 4000000 in
theorem mm_X12_budget {l : Launch} {D : va_G} {cA : Nat → ClassId} {ad : Nat → Nat} {Ex : (Nat → Prop) → State → Heap → Prop} (Wd : zzWR l D cA ad Ex) : zz_Cn l D zzCl cA ad zzSR Ex yX12_budget cX12_budget 2 (some .int) 3 65 fX12_budget ∧ zz_Cx l D zzCl cA ad zzSR Ex yX12_budget cX12_budget 2 (some .int) 3 65 fX12_budget := by
  refine zz_meth (plainFor_of_name (by decide)) Wd.1 Wd.2.1 Wd.2.2 (fun p e R s m args below meth c rr X => ?_)
  unfold tX12_budget
  refine zz_cons (k' := 1) rfl (zk_aload_n X dX12_budget_0 rfl rfl) ?_
  refine zz_cons (k' := 2) rfl (zk_iload_n X dX12_budget_1 rfl rfl) ?_
  refine zz_cons (k' := 3) rfl (zk_iconst X dX12_budget_2 (by decide) rfl) ?_
  refine zz_cons (k' := 4) rfl (zk_callv X (zz_Cv_of (List.forall_mem_cons.mpr ⟨⟨(RX_10, zzT10, 50), yX12_asksOf, cX12_asksOf, 3, (some .boolean), 2, 43, rfl, kv_X12_413_10.1, (mm_X12_asksOf Wd).1, by decide, by decide⟩, (fun _ h => absurd h List.not_mem_nil)⟩)) dX12_budget_3 rfl) ?_
  refine zz_cons (k' := 5) rfl (zz_Ok_none _ _) ?_
  refine zz_cons (k' := 6) rfl (zz_Ok_none _ _) ?_
  refine zz_cons (k' := 7) rfl (zk_if_eq X dX12_budget_6 (by decide) rfl) ?_
  refine zz_cons (k' := 8) rfl (zz_Ok_none _ _) ?_
  refine zz_cons (k' := 9) rfl (zz_Ok_none _ _) ?_
  refine zz_cons (k' := 10) rfl (zk_bipush X dX12_budget_9 (by decide) rfl) ?_
  refine zz_cons (k' := 11) rfl (zz_Ok_none _ _) ?_
  refine zz_cons (k' := 12) rfl (zk_aload_n X dX12_budget_11 rfl rfl) ?_
  refine zz_cons (k' := 13) rfl (zk_aload_n X dX12_budget_12 rfl rfl) ?_
  refine zz_cons (k' := 14) rfl (zk_getf X ff_X12_28 dX12_budget_13 rfl) ?_
  refine zz_cons (k' := 15) rfl (zz_Ok_none _ _) ?_
  refine zz_cons (k' := 16) rfl (zz_Ok_none _ _) ?_
  refine zz_cons (k' := 17) rfl (zk_iload_n X dX12_budget_16 rfl rfl) ?_
  refine zz_cons (k' := 18) rfl (zk_lald X dX12_budget_17 rfl) ?_
  refine zz_cons (k' := 19) rfl (zk_iconst X dX12_budget_18 (by decide) rfl) ?_
  refine zz_cons (k' := 20) rfl (zk_callv X (zz_Cv_of (List.forall_mem_cons.mpr ⟨⟨(RX_10, zzT10, 50), yX12_get, cX12_get, 4, (some .int), 0, 0, rfl, kv_X12_146_10.1, (mm_X12_get Wd).1, by decide, by decide⟩, (fun _ h => absurd h List.not_mem_nil)⟩)) dX12_budget_19 rfl) ?_
  refine zz_cons (k' := 21) rfl (zz_Ok_none _ _) ?_
  refine zz_cons (k' := 22) rfl (zz_Ok_none _ _) ?_
  refine zz_cons (k' := 23) rfl (zk_imul X dX12_budget_22 rfl) ?_
  refine zz_cons (k' := 24) rfl (zk_aload_n X dX12_budget_23 rfl rfl) ?_
  refine zz_cons (k' := 25) rfl (zk_aload_n X dX12_budget_24 rfl rfl) ?_
  refine zz_cons (k' := 26) rfl (zk_getf X ff_X12_28 dX12_budget_25 rfl) ?_
  refine zz_cons (k' := 27) rfl (zz_Ok_none _ _) ?_
  refine zz_cons (k' := 28) rfl (zz_Ok_none _ _) ?_
  refine zz_cons (k' := 29) rfl (zk_iload_n X dX12_budget_28 rfl rfl) ?_
  refine zz_cons (k' := 30) rfl (zk_lald X dX12_budget_29 rfl) ?_
  refine zz_cons (k' := 31) rfl (zk_iconst X dX12_budget_30 (by decide) rfl) ?_
  refine zz_cons (k' := 32) rfl (zk_callv X (zz_Cv_of (List.forall_mem_cons.mpr ⟨⟨(RX_10, zzT10, 50), yX12_get, cX12_get, 4, (some .int), 0, 0, rfl, kv_X12_146_10.1, (mm_X12_get Wd).1, by decide, by decide⟩, (fun _ h => absurd h List.not_mem_nil)⟩)) dX12_budget_31 rfl) ?_
  refine zz_cons (k' := 33) rfl (zz_Ok_none _ _) ?_
  refine zz_cons (k' := 34) rfl (zz_Ok_none _ _) ?_
  refine zz_cons (k' := 35) rfl (zk_iadd X dX12_budget_34 rfl) ?_
  refine zz_cons (k' := 36) rfl (zk_goto X dX12_budget_35 (by decide)) ?_
  refine zz_cons (k' := 37) rfl (zz_Ok_none _ _) ?_
  refine zz_cons (k' := 38) rfl (zz_Ok_none _ _) ?_
  refine zz_cons (k' := 39) rfl (zk_iconst X dX12_budget_38 (by decide) rfl) ?_
  refine zz_cons (k' := 40) rfl (zk_iret X rfl dX12_budget_39) ?_
  exact trivial
noncomputable def tX12_versionOf : List zzOp := [
  zo_aload 0 1,
  zo_iload 1 2,
  zo_callv zzSR (zz_cl [(10, fX12_asksObject)]) 1 5,
  zo_none,
  zo_none,
  zo_if (fun x => decide (x = 0)) 17 8,
  zo_none,
  zo_none,
  zo_aload 0 9,
  zo_getf zzSR (zz_kf [10] 9) 12,
  zo_none,
  zo_none,
  zo_iload 1 13,
  zo_iald zzSR zzSTR 14,
  zo_goto 18,
  zo_none,
  zo_none,
  zo_pushI 0 18,
  zo_iret false]
set_option maxRecDepth 100000 in
theorem tl_X12_versionOf : ∀ pc, zz_Tl (tX12_versionOf.getD pc zo_none) := by
  refine zz_Tl_mem ?_
  unfold tX12_versionOf
  refine List.forall_mem_cons.mpr ⟨(zo_aload_tl _ _), ?_⟩
  refine List.forall_mem_cons.mpr ⟨(zo_iload_tl _ _), ?_⟩
  refine List.forall_mem_cons.mpr ⟨(zo_callv_tl _ _ _ _), ?_⟩
  refine List.forall_mem_cons.mpr ⟨zo_none_tl, ?_⟩
  refine List.forall_mem_cons.mpr ⟨zo_none_tl, ?_⟩
  refine List.forall_mem_cons.mpr ⟨(zo_if_tl _ _ _), ?_⟩
  refine List.forall_mem_cons.mpr ⟨zo_none_tl, ?_⟩
  refine List.forall_mem_cons.mpr ⟨zo_none_tl, ?_⟩
  refine List.forall_mem_cons.mpr ⟨(zo_aload_tl _ _), ?_⟩
  refine List.forall_mem_cons.mpr ⟨(zo_getf_tl _ _ _), ?_⟩
  refine List.forall_mem_cons.mpr ⟨zo_none_tl, ?_⟩
  refine List.forall_mem_cons.mpr ⟨zo_none_tl, ?_⟩
  refine List.forall_mem_cons.mpr ⟨(zo_iload_tl _ _), ?_⟩
  refine List.forall_mem_cons.mpr ⟨(zo_iald_tl _ _ _), ?_⟩
  refine List.forall_mem_cons.mpr ⟨(zo_goto_tl _), ?_⟩
  refine List.forall_mem_cons.mpr ⟨zo_none_tl, ?_⟩
  refine List.forall_mem_cons.mpr ⟨zo_none_tl, ?_⟩
  refine List.forall_mem_cons.mpr ⟨(zo_pushI_tl _ _), ?_⟩
  refine List.forall_mem_cons.mpr ⟨(zo_iret_tl _), ?_⟩
  exact fun _ h => absurd h List.not_mem_nil
noncomputable def fX12_versionOf : zzFn := zz_fn tX12_versionOf 2
set_option maxRecDepth 100000 in
set_option maxHeartbeats 4000000 in
theorem mm_X12_versionOf {l : Launch} {D : va_G} {cA : Nat → ClassId} {ad : Nat → Nat} {Ex : (Nat → Prop) → State → Heap → Prop} (Wd : zzWR l D cA ad Ex) : zz_Cn l D zzCl cA ad zzSR Ex yX12_versionOf cX12_versionOf 2 (some .int) 3 64 fX12_versionOf ∧ zz_Cx l D zzCl cA ad zzSR Ex yX12_versionOf cX12_versionOf 2 (some .int) 3 64 fX12_versionOf := by
  refine zz_meth (plainFor_of_name (by decide)) Wd.1 Wd.2.1 Wd.2.2 (fun p e R s m args below meth c rr X => ?_)
  unfold tX12_versionOf
  refine zz_cons (k' := 1) rfl (zk_aload_n X dX12_versionOf_0 rfl rfl) ?_
  refine zz_cons (k' := 2) rfl (zk_iload_n X dX12_versionOf_1 rfl rfl) ?_
  refine zz_cons (k' := 3) rfl (zk_callv X (zz_Cv_of (List.forall_mem_cons.mpr ⟨⟨(RX_10, zzT10, 50), yX12_asksObject, cX12_asksObject, 2, (some .boolean), 2, 43, rfl, kv_X12_407_10.1, (mm_X12_asksObject Wd).1, by decide, by decide⟩, (fun _ h => absurd h List.not_mem_nil)⟩)) dX12_versionOf_2 rfl) ?_
  refine zz_cons (k' := 4) rfl (zz_Ok_none _ _) ?_
  refine zz_cons (k' := 5) rfl (zz_Ok_none _ _) ?_
  refine zz_cons (k' := 6) rfl (zk_if_eq X dX12_versionOf_5 (by decide) rfl) ?_
  refine zz_cons (k' := 7) rfl (zz_Ok_none _ _) ?_
  refine zz_cons (k' := 8) rfl (zz_Ok_none _ _) ?_
  refine zz_cons (k' := 9) rfl (zk_aload_n X dX12_versionOf_8 rfl rfl) ?_
  refine zz_cons (k' := 10) rfl (zk_getf X ff_X12_35 dX12_versionOf_9 rfl) ?_
  refine zz_cons (k' := 11) rfl (zz_Ok_none _ _) ?_
  refine zz_cons (k' := 12) rfl (zz_Ok_none _ _) ?_
  refine zz_cons (k' := 13) rfl (zk_iload_n X dX12_versionOf_12 rfl rfl) ?_
  refine zz_cons (k' := 14) rfl (zk_iald X (zzWR_st Wd) dX12_versionOf_13 rfl) ?_
  refine zz_cons (k' := 15) rfl (zk_goto X dX12_versionOf_14 (by decide)) ?_
  refine zz_cons (k' := 16) rfl (zz_Ok_none _ _) ?_
  refine zz_cons (k' := 17) rfl (zz_Ok_none _ _) ?_
  refine zz_cons (k' := 18) rfl (zk_iconst X dX12_versionOf_17 (by decide) rfl) ?_
  refine zz_cons (k' := 19) rfl (zk_iret X rfl dX12_versionOf_18) ?_
  exact trivial
noncomputable def tX12_goingOf : List zzOp := [
  zo_aload 0 1,
  zo_iload 1 2,
  zo_callv zzSR (zz_cl [(10, fX12_asksObject)]) 1 5,
  zo_none,
  zo_none,
  zo_if (fun x => decide (x = 0)) 23 8,
  zo_none,
  zo_none,
  zo_aload 0 9,
  zo_aload 0 10,
  zo_getf zzSR (zz_kf [10] 7) 13,
  zo_none,
  zo_none,
  zo_iload 1 14,
  zo_lald zzSR 15,
  zo_pushI 13 17,
  zo_none,
  zo_callv zzSR (zz_cl [(10, fX12_get)]) 2 20,
  zo_none,
  zo_none,
  zo_goto 24,
  zo_none,
  zo_none,
  zo_pushI 0 24,
  zo_iret false]
set_option maxRecDepth 100000 in
theorem tl_X12_goingOf : ∀ pc, zz_Tl (tX12_goingOf.getD pc zo_none) := by
  refine zz_Tl_mem ?_
  unfold tX12_goingOf
  refine List.forall_mem_cons.mpr ⟨(zo_aload_tl _ _), ?_⟩
  refine List.forall_mem_cons.mpr ⟨(zo_iload_tl _ _), ?_⟩
  refine List.forall_mem_cons.mpr ⟨(zo_callv_tl _ _ _ _), ?_⟩
  refine List.forall_mem_cons.mpr ⟨zo_none_tl, ?_⟩
  refine List.forall_mem_cons.mpr ⟨zo_none_tl, ?_⟩
  refine List.forall_mem_cons.mpr ⟨(zo_if_tl _ _ _), ?_⟩
  refine List.forall_mem_cons.mpr ⟨zo_none_tl, ?_⟩
  refine List.forall_mem_cons.mpr ⟨zo_none_tl, ?_⟩
  refine List.forall_mem_cons.mpr ⟨(zo_aload_tl _ _), ?_⟩
  refine List.forall_mem_cons.mpr ⟨(zo_aload_tl _ _), ?_⟩
  refine List.forall_mem_cons.mpr ⟨(zo_getf_tl _ _ _), ?_⟩
  refine List.forall_mem_cons.mpr ⟨zo_none_tl, ?_⟩
  refine List.forall_mem_cons.mpr ⟨zo_none_tl, ?_⟩
  refine List.forall_mem_cons.mpr ⟨(zo_iload_tl _ _), ?_⟩
  refine List.forall_mem_cons.mpr ⟨(zo_lald_tl _ _), ?_⟩
  refine List.forall_mem_cons.mpr ⟨(zo_pushI_tl _ _), ?_⟩
  refine List.forall_mem_cons.mpr ⟨zo_none_tl, ?_⟩
  refine List.forall_mem_cons.mpr ⟨(zo_callv_tl _ _ _ _), ?_⟩
  refine List.forall_mem_cons.mpr ⟨zo_none_tl, ?_⟩
  refine List.forall_mem_cons.mpr ⟨zo_none_tl, ?_⟩
  refine List.forall_mem_cons.mpr ⟨(zo_goto_tl _), ?_⟩
  refine List.forall_mem_cons.mpr ⟨zo_none_tl, ?_⟩
  refine List.forall_mem_cons.mpr ⟨zo_none_tl, ?_⟩
  refine List.forall_mem_cons.mpr ⟨(zo_pushI_tl _ _), ?_⟩
  refine List.forall_mem_cons.mpr ⟨(zo_iret_tl _), ?_⟩
  exact fun _ h => absurd h List.not_mem_nil
noncomputable def fX12_goingOf : zzFn := zz_fn tX12_goingOf 2
set_option maxRecDepth 100000 in
set_option maxHeartbeats 4000000 in
theorem mm_X12_goingOf {l : Launch} {D : va_G} {cA : Nat → ClassId} {ad : Nat → Nat} {Ex : (Nat → Prop) → State → Heap → Prop} (Wd : zzWR l D cA ad Ex) : zz_Cn l D zzCl cA ad zzSR Ex yX12_goingOf cX12_goingOf 2 (some .int) 3 64 fX12_goingOf ∧ zz_Cx l D zzCl cA ad zzSR Ex yX12_goingOf cX12_goingOf 2 (some .int) 3 64 fX12_goingOf := by
  refine zz_meth (plainFor_of_name (by decide)) Wd.1 Wd.2.1 Wd.2.2 (fun p e R s m args below meth c rr X => ?_)
  unfold tX12_goingOf
  refine zz_cons (k' := 1) rfl (zk_aload_n X dX12_goingOf_0 rfl rfl) ?_
  refine zz_cons (k' := 2) rfl (zk_iload_n X dX12_goingOf_1 rfl rfl) ?_
  refine zz_cons (k' := 3) rfl (zk_callv X (zz_Cv_of (List.forall_mem_cons.mpr ⟨⟨(RX_10, zzT10, 50), yX12_asksObject, cX12_asksObject, 2, (some .boolean), 2, 43, rfl, kv_X12_407_10.1, (mm_X12_asksObject Wd).1, by decide, by decide⟩, (fun _ h => absurd h List.not_mem_nil)⟩)) dX12_goingOf_2 rfl) ?_
  refine zz_cons (k' := 4) rfl (zz_Ok_none _ _) ?_
  refine zz_cons (k' := 5) rfl (zz_Ok_none _ _) ?_
  refine zz_cons (k' := 6) rfl (zk_if_eq X dX12_goingOf_5 (by decide) rfl) ?_
  refine zz_cons (k' := 7) rfl (zz_Ok_none _ _) ?_
  refine zz_cons (k' := 8) rfl (zz_Ok_none _ _) ?_
  refine zz_cons (k' := 9) rfl (zk_aload_n X dX12_goingOf_8 rfl rfl) ?_
  refine zz_cons (k' := 10) rfl (zk_aload_n X dX12_goingOf_9 rfl rfl) ?_
  refine zz_cons (k' := 11) rfl (zk_getf X ff_X12_28 dX12_goingOf_10 rfl) ?_
  refine zz_cons (k' := 12) rfl (zz_Ok_none _ _) ?_
  refine zz_cons (k' := 13) rfl (zz_Ok_none _ _) ?_
  refine zz_cons (k' := 14) rfl (zk_iload_n X dX12_goingOf_13 rfl rfl) ?_
  refine zz_cons (k' := 15) rfl (zk_lald X dX12_goingOf_14 rfl) ?_
  refine zz_cons (k' := 16) rfl (zk_bipush X dX12_goingOf_15 (by decide) rfl) ?_
  refine zz_cons (k' := 17) rfl (zz_Ok_none _ _) ?_
  refine zz_cons (k' := 18) rfl (zk_callv X (zz_Cv_of (List.forall_mem_cons.mpr ⟨⟨(RX_10, zzT10, 50), yX12_get, cX12_get, 4, (some .int), 0, 0, rfl, kv_X12_146_10.1, (mm_X12_get Wd).1, by decide, by decide⟩, (fun _ h => absurd h List.not_mem_nil)⟩)) dX12_goingOf_17 rfl) ?_
  refine zz_cons (k' := 19) rfl (zz_Ok_none _ _) ?_
  refine zz_cons (k' := 20) rfl (zz_Ok_none _ _) ?_
  refine zz_cons (k' := 21) rfl (zk_goto X dX12_goingOf_20 (by decide)) ?_
  refine zz_cons (k' := 22) rfl (zz_Ok_none _ _) ?_
  refine zz_cons (k' := 23) rfl (zz_Ok_none _ _) ?_
  refine zz_cons (k' := 24) rfl (zk_iconst X dX12_goingOf_23 (by decide) rfl) ?_
  refine zz_cons (k' := 25) rfl (zk_iret X rfl dX12_goingOf_24) ?_
  exact trivial
noncomputable def tX12_ownerOf : List zzOp := [
  zo_aload 0 1,
  zo_iload 1 2,
  zo_callv zzSR (zz_cl [(10, fX12_asksObject)]) 1 5,
  zo_none,
  zo_none,
  zo_if (fun x => decide (x = 0)) 21 8,
  zo_none,
  zo_none,
  zo_aload 0 9,
  zo_aload 0 10,
  zo_getf zzSR (zz_kf [10] 7) 13,
  zo_none,
  zo_none,
  zo_iload 1 14,
  zo_lald zzSR 15,
  zo_callv zzSR (zz_cl [(10, fX12_ownerIn)]) 1 18,
  zo_none,
  zo_none,
  zo_goto 22,
  zo_none,
  zo_none,
  zo_pushI 0 22,
  zo_iret false]
set_option maxRecDepth 100000 in
theorem tl_X12_ownerOf : ∀ pc, zz_Tl (tX12_ownerOf.getD pc zo_none) := by
  refine zz_Tl_mem ?_
  unfold tX12_ownerOf
  refine List.forall_mem_cons.mpr ⟨(zo_aload_tl _ _), ?_⟩
  refine List.forall_mem_cons.mpr ⟨(zo_iload_tl _ _), ?_⟩
  refine List.forall_mem_cons.mpr ⟨(zo_callv_tl _ _ _ _), ?_⟩
  refine List.forall_mem_cons.mpr ⟨zo_none_tl, ?_⟩
  refine List.forall_mem_cons.mpr ⟨zo_none_tl, ?_⟩
  refine List.forall_mem_cons.mpr ⟨(zo_if_tl _ _ _), ?_⟩
  refine List.forall_mem_cons.mpr ⟨zo_none_tl, ?_⟩
  refine List.forall_mem_cons.mpr ⟨zo_none_tl, ?_⟩
  refine List.forall_mem_cons.mpr ⟨(zo_aload_tl _ _), ?_⟩
  refine List.forall_mem_cons.mpr ⟨(zo_aload_tl _ _), ?_⟩
  refine List.forall_mem_cons.mpr ⟨(zo_getf_tl _ _ _), ?_⟩
  refine List.forall_mem_cons.mpr ⟨zo_none_tl, ?_⟩
  refine List.forall_mem_cons.mpr ⟨zo_none_tl, ?_⟩
  refine List.forall_mem_cons.mpr ⟨(zo_iload_tl _ _), ?_⟩
  refine List.forall_mem_cons.mpr ⟨(zo_lald_tl _ _), ?_⟩
  refine List.forall_mem_cons.mpr ⟨(zo_callv_tl _ _ _ _), ?_⟩
  refine List.forall_mem_cons.mpr ⟨zo_none_tl, ?_⟩
  refine List.forall_mem_cons.mpr ⟨zo_none_tl, ?_⟩
  refine List.forall_mem_cons.mpr ⟨(zo_goto_tl _), ?_⟩
  refine List.forall_mem_cons.mpr ⟨zo_none_tl, ?_⟩
  refine List.forall_mem_cons.mpr ⟨zo_none_tl, ?_⟩
  refine List.forall_mem_cons.mpr ⟨(zo_pushI_tl _ _), ?_⟩
  refine List.forall_mem_cons.mpr ⟨(zo_iret_tl _), ?_⟩
  exact fun _ h => absurd h List.not_mem_nil
noncomputable def fX12_ownerOf : zzFn := zz_fn tX12_ownerOf 2
set_option maxRecDepth 100000 in
set_option maxHeartbeats 4000000 in
theorem mm_X12_ownerOf {l : Launch} {D : va_G} {cA : Nat → ClassId} {ad : Nat → Nat} {Ex : (Nat → Prop) → State → Heap → Prop} (Wd : zzWR l D cA ad Ex) : zz_Cn l D zzCl cA ad zzSR Ex yX12_ownerOf cX12_ownerOf 2 (some .int) 3 64 fX12_ownerOf ∧ zz_Cx l D zzCl cA ad zzSR Ex yX12_ownerOf cX12_ownerOf 2 (some .int) 3 64 fX12_ownerOf := by
  refine zz_meth (plainFor_of_name (by decide)) Wd.1 Wd.2.1 Wd.2.2 (fun p e R s m args below meth c rr X => ?_)
  unfold tX12_ownerOf
  refine zz_cons (k' := 1) rfl (zk_aload_n X dX12_ownerOf_0 rfl rfl) ?_
  refine zz_cons (k' := 2) rfl (zk_iload_n X dX12_ownerOf_1 rfl rfl) ?_
  refine zz_cons (k' := 3) rfl (zk_callv X (zz_Cv_of (List.forall_mem_cons.mpr ⟨⟨(RX_10, zzT10, 50), yX12_asksObject, cX12_asksObject, 2, (some .boolean), 2, 43, rfl, kv_X12_407_10.1, (mm_X12_asksObject Wd).1, by decide, by decide⟩, (fun _ h => absurd h List.not_mem_nil)⟩)) dX12_ownerOf_2 rfl) ?_
  refine zz_cons (k' := 4) rfl (zz_Ok_none _ _) ?_
  refine zz_cons (k' := 5) rfl (zz_Ok_none _ _) ?_
  refine zz_cons (k' := 6) rfl (zk_if_eq X dX12_ownerOf_5 (by decide) rfl) ?_
  refine zz_cons (k' := 7) rfl (zz_Ok_none _ _) ?_
  refine zz_cons (k' := 8) rfl (zz_Ok_none _ _) ?_
  refine zz_cons (k' := 9) rfl (zk_aload_n X dX12_ownerOf_8 rfl rfl) ?_
  refine zz_cons (k' := 10) rfl (zk_aload_n X dX12_ownerOf_9 rfl rfl) ?_
  refine zz_cons (k' := 11) rfl (zk_getf X ff_X12_28 dX12_ownerOf_10 rfl) ?_
  refine zz_cons (k' := 12) rfl (zz_Ok_none _ _) ?_
  refine zz_cons (k' := 13) rfl (zz_Ok_none _ _) ?_
  refine zz_cons (k' := 14) rfl (zk_iload_n X dX12_ownerOf_13 rfl rfl) ?_
  refine zz_cons (k' := 15) rfl (zk_lald X dX12_ownerOf_14 rfl) ?_
  refine zz_cons (k' := 16) rfl (zk_callv X (zz_Cv_of (List.forall_mem_cons.mpr ⟨⟨(RX_10, zzT10, 50), yX12_ownerIn, cX12_ownerIn, 3, (some .int), 1, 23, rfl, kv_X12_214_10.1, (mm_X12_ownerIn Wd).1, by decide, by decide⟩, (fun _ h => absurd h List.not_mem_nil)⟩)) dX12_ownerOf_15 rfl) ?_
  refine zz_cons (k' := 17) rfl (zz_Ok_none _ _) ?_
  refine zz_cons (k' := 18) rfl (zz_Ok_none _ _) ?_
  refine zz_cons (k' := 19) rfl (zk_goto X dX12_ownerOf_18 (by decide)) ?_
  refine zz_cons (k' := 20) rfl (zz_Ok_none _ _) ?_
  refine zz_cons (k' := 21) rfl (zz_Ok_none _ _) ?_
  refine zz_cons (k' := 22) rfl (zk_iconst X dX12_ownerOf_21 (by decide) rfl) ?_
  refine zz_cons (k' := 23) rfl (zk_iret X rfl dX12_ownerOf_22) ?_
  exact trivial
noncomputable def tX12_phaseOf : List zzOp := [
  zo_aload 0 1,
  zo_iload 1 2,
  zo_pushI 2 3,
  zo_callv zzSR (zz_cl [(10, fX12_asksOf)]) 2 6,
  zo_none,
  zo_none,
  zo_if (fun x => decide (x = 0)) 24 9,
  zo_none,
  zo_none,
  zo_aload 0 10,
  zo_aload 0 11,
  zo_getf zzSR (zz_kf [10] 7) 14,
  zo_none,
  zo_none,
  zo_iload 1 15,
  zo_lald zzSR 16,
  zo_pushI 16 18,
  zo_none,
  zo_callv zzSR (zz_cl [(10, fX12_get)]) 2 21,
  zo_none,
  zo_none,
  zo_goto 25,
  zo_none,
  zo_none,
  zo_pushI 0 25,
  zo_iret false]
set_option maxRecDepth 100000 in
theorem tl_X12_phaseOf : ∀ pc, zz_Tl (tX12_phaseOf.getD pc zo_none) := by
  refine zz_Tl_mem ?_
  unfold tX12_phaseOf
  refine List.forall_mem_cons.mpr ⟨(zo_aload_tl _ _), ?_⟩
  refine List.forall_mem_cons.mpr ⟨(zo_iload_tl _ _), ?_⟩
  refine List.forall_mem_cons.mpr ⟨(zo_pushI_tl _ _), ?_⟩
  refine List.forall_mem_cons.mpr ⟨(zo_callv_tl _ _ _ _), ?_⟩
  refine List.forall_mem_cons.mpr ⟨zo_none_tl, ?_⟩
  refine List.forall_mem_cons.mpr ⟨zo_none_tl, ?_⟩
  refine List.forall_mem_cons.mpr ⟨(zo_if_tl _ _ _), ?_⟩
  refine List.forall_mem_cons.mpr ⟨zo_none_tl, ?_⟩
  refine List.forall_mem_cons.mpr ⟨zo_none_tl, ?_⟩
  refine List.forall_mem_cons.mpr ⟨(zo_aload_tl _ _), ?_⟩
  refine List.forall_mem_cons.mpr ⟨(zo_aload_tl _ _), ?_⟩
  refine List.forall_mem_cons.mpr ⟨(zo_getf_tl _ _ _), ?_⟩
  refine List.forall_mem_cons.mpr ⟨zo_none_tl, ?_⟩
  refine List.forall_mem_cons.mpr ⟨zo_none_tl, ?_⟩
  refine List.forall_mem_cons.mpr ⟨(zo_iload_tl _ _), ?_⟩
  refine List.forall_mem_cons.mpr ⟨(zo_lald_tl _ _), ?_⟩
  refine List.forall_mem_cons.mpr ⟨(zo_pushI_tl _ _), ?_⟩
  refine List.forall_mem_cons.mpr ⟨zo_none_tl, ?_⟩
  refine List.forall_mem_cons.mpr ⟨(zo_callv_tl _ _ _ _), ?_⟩
  refine List.forall_mem_cons.mpr ⟨zo_none_tl, ?_⟩
  refine List.forall_mem_cons.mpr ⟨zo_none_tl, ?_⟩
  refine List.forall_mem_cons.mpr ⟨(zo_goto_tl _), ?_⟩
  refine List.forall_mem_cons.mpr ⟨zo_none_tl, ?_⟩
  refine List.forall_mem_cons.mpr ⟨zo_none_tl, ?_⟩
  refine List.forall_mem_cons.mpr ⟨(zo_pushI_tl _ _), ?_⟩
  refine List.forall_mem_cons.mpr ⟨(zo_iret_tl _), ?_⟩
  exact fun _ h => absurd h List.not_mem_nil
noncomputable def fX12_phaseOf : zzFn := zz_fn tX12_phaseOf 2
set_option maxRecDepth 100000 in
set_option maxHeartbeats 4000000 in
theorem mm_X12_phaseOf {l : Launch} {D : va_G} {cA : Nat → ClassId} {ad : Nat → Nat} {Ex : (Nat → Prop) → State → Heap → Prop} (Wd : zzWR l D cA ad Ex) : zz_Cn l D zzCl cA ad zzSR Ex yX12_phaseOf cX12_phaseOf 2 (some .int) 3 65 fX12_phaseOf ∧ zz_Cx l D zzCl cA ad zzSR Ex yX12_phaseOf cX12_phaseOf 2 (some .int) 3 65 fX12_phaseOf := by
  refine zz_meth (plainFor_of_name (by decide)) Wd.1 Wd.2.1 Wd.2.2 (fun p e R s m args below meth c rr X => ?_)
  unfold tX12_phaseOf
  refine zz_cons (k' := 1) rfl (zk_aload_n X dX12_phaseOf_0 rfl rfl) ?_
  refine zz_cons (k' := 2) rfl (zk_iload_n X dX12_phaseOf_1 rfl rfl) ?_
  refine zz_cons (k' := 3) rfl (zk_iconst X dX12_phaseOf_2 (by decide) rfl) ?_
  refine zz_cons (k' := 4) rfl (zk_callv X (zz_Cv_of (List.forall_mem_cons.mpr ⟨⟨(RX_10, zzT10, 50), yX12_asksOf, cX12_asksOf, 3, (some .boolean), 2, 43, rfl, kv_X12_413_10.1, (mm_X12_asksOf Wd).1, by decide, by decide⟩, (fun _ h => absurd h List.not_mem_nil)⟩)) dX12_phaseOf_3 rfl) ?_
  refine zz_cons (k' := 5) rfl (zz_Ok_none _ _) ?_
  refine zz_cons (k' := 6) rfl (zz_Ok_none _ _) ?_
  refine zz_cons (k' := 7) rfl (zk_if_eq X dX12_phaseOf_6 (by decide) rfl) ?_
  refine zz_cons (k' := 8) rfl (zz_Ok_none _ _) ?_
  refine zz_cons (k' := 9) rfl (zz_Ok_none _ _) ?_
  refine zz_cons (k' := 10) rfl (zk_aload_n X dX12_phaseOf_9 rfl rfl) ?_
  refine zz_cons (k' := 11) rfl (zk_aload_n X dX12_phaseOf_10 rfl rfl) ?_
  refine zz_cons (k' := 12) rfl (zk_getf X ff_X12_28 dX12_phaseOf_11 rfl) ?_
  refine zz_cons (k' := 13) rfl (zz_Ok_none _ _) ?_
  refine zz_cons (k' := 14) rfl (zz_Ok_none _ _) ?_
  refine zz_cons (k' := 15) rfl (zk_iload_n X dX12_phaseOf_14 rfl rfl) ?_
  refine zz_cons (k' := 16) rfl (zk_lald X dX12_phaseOf_15 rfl) ?_
  refine zz_cons (k' := 17) rfl (zk_bipush X dX12_phaseOf_16 (by decide) rfl) ?_
  refine zz_cons (k' := 18) rfl (zz_Ok_none _ _) ?_
  refine zz_cons (k' := 19) rfl (zk_callv X (zz_Cv_of (List.forall_mem_cons.mpr ⟨⟨(RX_10, zzT10, 50), yX12_get, cX12_get, 4, (some .int), 0, 0, rfl, kv_X12_146_10.1, (mm_X12_get Wd).1, by decide, by decide⟩, (fun _ h => absurd h List.not_mem_nil)⟩)) dX12_phaseOf_18 rfl) ?_
  refine zz_cons (k' := 20) rfl (zz_Ok_none _ _) ?_
  refine zz_cons (k' := 21) rfl (zz_Ok_none _ _) ?_
  refine zz_cons (k' := 22) rfl (zk_goto X dX12_phaseOf_21 (by decide)) ?_
  refine zz_cons (k' := 23) rfl (zz_Ok_none _ _) ?_
  refine zz_cons (k' := 24) rfl (zz_Ok_none _ _) ?_
  refine zz_cons (k' := 25) rfl (zk_iconst X dX12_phaseOf_24 (by decide) rfl) ?_
  refine zz_cons (k' := 26) rfl (zk_iret X rfl dX12_phaseOf_25) ?_
  exact trivial
noncomputable def tX12_placeOf : List zzOp := [
  zo_aload 0 1,
  zo_iload 1 2,
  zo_pushI 2 3,
  zo_callv zzSR (zz_cl [(10, fX12_asksOf)]) 2 6,
  zo_none,
  zo_none,
  zo_if (fun x => decide (x = 0)) 26 9,
  zo_none,
  zo_none,
  zo_aload 0 10,
  zo_aload 0 11,
  zo_getf zzSR (zz_kf [10] 7) 14,
  zo_none,
  zo_none,
  zo_iload 1 15,
  zo_lald zzSR 16,
  zo_pushI 15 18,
  zo_none,
  zo_callv zzSR (zz_cl [(10, fX12_get)]) 2 21,
  zo_none,
  zo_none,
  zo_pushI 1 22,
  zo_ii (fun x y => x - y) 23,
  zo_goto 27,
  zo_none,
  zo_none,
  zo_pushI 0 27,
  zo_iret false]
set_option maxRecDepth 100000 in
theorem tl_X12_placeOf : ∀ pc, zz_Tl (tX12_placeOf.getD pc zo_none) := by
  refine zz_Tl_mem ?_
  unfold tX12_placeOf
  refine List.forall_mem_cons.mpr ⟨(zo_aload_tl _ _), ?_⟩
  refine List.forall_mem_cons.mpr ⟨(zo_iload_tl _ _), ?_⟩
  refine List.forall_mem_cons.mpr ⟨(zo_pushI_tl _ _), ?_⟩
  refine List.forall_mem_cons.mpr ⟨(zo_callv_tl _ _ _ _), ?_⟩
  refine List.forall_mem_cons.mpr ⟨zo_none_tl, ?_⟩
  refine List.forall_mem_cons.mpr ⟨zo_none_tl, ?_⟩
  refine List.forall_mem_cons.mpr ⟨(zo_if_tl _ _ _), ?_⟩
  refine List.forall_mem_cons.mpr ⟨zo_none_tl, ?_⟩
  refine List.forall_mem_cons.mpr ⟨zo_none_tl, ?_⟩
  refine List.forall_mem_cons.mpr ⟨(zo_aload_tl _ _), ?_⟩
  refine List.forall_mem_cons.mpr ⟨(zo_aload_tl _ _), ?_⟩
  refine List.forall_mem_cons.mpr ⟨(zo_getf_tl _ _ _), ?_⟩
  refine List.forall_mem_cons.mpr ⟨zo_none_tl, ?_⟩
  refine List.forall_mem_cons.mpr ⟨zo_none_tl, ?_⟩
  refine List.forall_mem_cons.mpr ⟨(zo_iload_tl _ _), ?_⟩
  refine List.forall_mem_cons.mpr ⟨(zo_lald_tl _ _), ?_⟩
  refine List.forall_mem_cons.mpr ⟨(zo_pushI_tl _ _), ?_⟩
  refine List.forall_mem_cons.mpr ⟨zo_none_tl, ?_⟩
  refine List.forall_mem_cons.mpr ⟨(zo_callv_tl _ _ _ _), ?_⟩
  refine List.forall_mem_cons.mpr ⟨zo_none_tl, ?_⟩
  refine List.forall_mem_cons.mpr ⟨zo_none_tl, ?_⟩
  refine List.forall_mem_cons.mpr ⟨(zo_pushI_tl _ _), ?_⟩
  refine List.forall_mem_cons.mpr ⟨(zo_ii_tl _ _), ?_⟩
  refine List.forall_mem_cons.mpr ⟨(zo_goto_tl _), ?_⟩
  refine List.forall_mem_cons.mpr ⟨zo_none_tl, ?_⟩
  refine List.forall_mem_cons.mpr ⟨zo_none_tl, ?_⟩
  refine List.forall_mem_cons.mpr ⟨(zo_pushI_tl _ _), ?_⟩
  refine List.forall_mem_cons.mpr ⟨(zo_iret_tl _), ?_⟩
  exact fun _ h => absurd h List.not_mem_nil
noncomputable def fX12_placeOf : zzFn := zz_fn tX12_placeOf 2
set_option maxRecDepth 100000 in
set_option maxHeartbeats 4000000 in
theorem mm_X12_placeOf {l : Launch} {D : va_G} {cA : Nat → ClassId} {ad : Nat → Nat} {Ex : (Nat → Prop) → State → Heap → Prop} (Wd : zzWR l D cA ad Ex) : zz_Cn l D zzCl cA ad zzSR Ex yX12_placeOf cX12_placeOf 2 (some .int) 3 65 fX12_placeOf ∧ zz_Cx l D zzCl cA ad zzSR Ex yX12_placeOf cX12_placeOf 2 (some .int) 3 65 fX12_placeOf := by
  refine zz_meth (plainFor_of_name (by decide)) Wd.1 Wd.2.1 Wd.2.2 (fun p e R s m args below meth c rr X => ?_)
  unfold tX12_placeOf
  refine zz_cons (k' := 1) rfl (zk_aload_n X dX12_placeOf_0 rfl rfl) ?_
  refine zz_cons (k' := 2) rfl (zk_iload_n X dX12_placeOf_1 rfl rfl) ?_
  refine zz_cons (k' := 3) rfl (zk_iconst X dX12_placeOf_2 (by decide) rfl) ?_
  refine zz_cons (k' := 4) rfl (zk_callv X (zz_Cv_of (List.forall_mem_cons.mpr ⟨⟨(RX_10, zzT10, 50), yX12_asksOf, cX12_asksOf, 3, (some .boolean), 2, 43, rfl, kv_X12_413_10.1, (mm_X12_asksOf Wd).1, by decide, by decide⟩, (fun _ h => absurd h List.not_mem_nil)⟩)) dX12_placeOf_3 rfl) ?_
  refine zz_cons (k' := 5) rfl (zz_Ok_none _ _) ?_
  refine zz_cons (k' := 6) rfl (zz_Ok_none _ _) ?_
  refine zz_cons (k' := 7) rfl (zk_if_eq X dX12_placeOf_6 (by decide) rfl) ?_
  refine zz_cons (k' := 8) rfl (zz_Ok_none _ _) ?_
  refine zz_cons (k' := 9) rfl (zz_Ok_none _ _) ?_
  refine zz_cons (k' := 10) rfl (zk_aload_n X dX12_placeOf_9 rfl rfl) ?_
  refine zz_cons (k' := 11) rfl (zk_aload_n X dX12_placeOf_10 rfl rfl) ?_
  refine zz_cons (k' := 12) rfl (zk_getf X ff_X12_28 dX12_placeOf_11 rfl) ?_
  refine zz_cons (k' := 13) rfl (zz_Ok_none _ _) ?_
  refine zz_cons (k' := 14) rfl (zz_Ok_none _ _) ?_
  refine zz_cons (k' := 15) rfl (zk_iload_n X dX12_placeOf_14 rfl rfl) ?_
  refine zz_cons (k' := 16) rfl (zk_lald X dX12_placeOf_15 rfl) ?_
  refine zz_cons (k' := 17) rfl (zk_bipush X dX12_placeOf_16 (by decide) rfl) ?_
  refine zz_cons (k' := 18) rfl (zz_Ok_none _ _) ?_
  refine zz_cons (k' := 19) rfl (zk_callv X (zz_Cv_of (List.forall_mem_cons.mpr ⟨⟨(RX_10, zzT10, 50), yX12_get, cX12_get, 4, (some .int), 0, 0, rfl, kv_X12_146_10.1, (mm_X12_get Wd).1, by decide, by decide⟩, (fun _ h => absurd h List.not_mem_nil)⟩)) dX12_placeOf_18 rfl) ?_
  refine zz_cons (k' := 20) rfl (zz_Ok_none _ _) ?_
  refine zz_cons (k' := 21) rfl (zz_Ok_none _ _) ?_
  refine zz_cons (k' := 22) rfl (zk_iconst X dX12_placeOf_21 (by decide) rfl) ?_
  refine zz_cons (k' := 23) rfl (zk_isub X dX12_placeOf_22 rfl) ?_
  refine zz_cons (k' := 24) rfl (zk_goto X dX12_placeOf_23 (by decide)) ?_
  refine zz_cons (k' := 25) rfl (zz_Ok_none _ _) ?_
  refine zz_cons (k' := 26) rfl (zz_Ok_none _ _) ?_
  refine zz_cons (k' := 27) rfl (zk_iconst X dX12_placeOf_26 (by decide) rfl) ?_
  refine zz_cons (k' := 28) rfl (zk_iret X rfl dX12_placeOf_27) ?_
  exact trivial
noncomputable def tX12_isReady : List zzOp := [
  zo_aload 0 1,
  zo_iload 1 2,
  zo_pushI 4 3,
  zo_callv zzSR (zz_cl [(10, fX12_asksOf)]) 2 6,
  zo_none,
  zo_none,
  zo_if (fun x => decide (x = 0)) 29 9,
  zo_none,
  zo_none,
  zo_aload 0 10,
  zo_aload 0 11,
  zo_getf zzSR (zz_kf [10] 7) 14,
  zo_none,
  zo_none,
  zo_iload 1 15,
  zo_lald zzSR 16,
  zo_pushI 14 18,
  zo_none,
  zo_callv zzSR (zz_cl [(10, fX12_get)]) 2 21,
  zo_none,
  zo_none,
  zo_pushI 1 22,
  zo_icmp (fun x y => decide (¬ x = y)) 29 25,
  zo_none,
  zo_none,
  zo_pushI 1 26,
  zo_goto 30,
  zo_none,
  zo_none,
  zo_pushI 0 30,
  zo_iret true]
set_option maxRecDepth 100000 in
theorem tl_X12_isReady : ∀ pc, zz_Tl (tX12_isReady.getD pc zo_none) := by
  refine zz_Tl_mem ?_
  unfold tX12_isReady
  refine List.forall_mem_cons.mpr ⟨(zo_aload_tl _ _), ?_⟩
  refine List.forall_mem_cons.mpr ⟨(zo_iload_tl _ _), ?_⟩
  refine List.forall_mem_cons.mpr ⟨(zo_pushI_tl _ _), ?_⟩
  refine List.forall_mem_cons.mpr ⟨(zo_callv_tl _ _ _ _), ?_⟩
  refine List.forall_mem_cons.mpr ⟨zo_none_tl, ?_⟩
  refine List.forall_mem_cons.mpr ⟨zo_none_tl, ?_⟩
  refine List.forall_mem_cons.mpr ⟨(zo_if_tl _ _ _), ?_⟩
  refine List.forall_mem_cons.mpr ⟨zo_none_tl, ?_⟩
  refine List.forall_mem_cons.mpr ⟨zo_none_tl, ?_⟩
  refine List.forall_mem_cons.mpr ⟨(zo_aload_tl _ _), ?_⟩
  refine List.forall_mem_cons.mpr ⟨(zo_aload_tl _ _), ?_⟩
  refine List.forall_mem_cons.mpr ⟨(zo_getf_tl _ _ _), ?_⟩
  refine List.forall_mem_cons.mpr ⟨zo_none_tl, ?_⟩
  refine List.forall_mem_cons.mpr ⟨zo_none_tl, ?_⟩
  refine List.forall_mem_cons.mpr ⟨(zo_iload_tl _ _), ?_⟩
  refine List.forall_mem_cons.mpr ⟨(zo_lald_tl _ _), ?_⟩
  refine List.forall_mem_cons.mpr ⟨(zo_pushI_tl _ _), ?_⟩
  refine List.forall_mem_cons.mpr ⟨zo_none_tl, ?_⟩
  refine List.forall_mem_cons.mpr ⟨(zo_callv_tl _ _ _ _), ?_⟩
  refine List.forall_mem_cons.mpr ⟨zo_none_tl, ?_⟩
  refine List.forall_mem_cons.mpr ⟨zo_none_tl, ?_⟩
  refine List.forall_mem_cons.mpr ⟨(zo_pushI_tl _ _), ?_⟩
  refine List.forall_mem_cons.mpr ⟨(zo_icmp_tl _ _ _), ?_⟩
  refine List.forall_mem_cons.mpr ⟨zo_none_tl, ?_⟩
  refine List.forall_mem_cons.mpr ⟨zo_none_tl, ?_⟩
  refine List.forall_mem_cons.mpr ⟨(zo_pushI_tl _ _), ?_⟩
  refine List.forall_mem_cons.mpr ⟨(zo_goto_tl _), ?_⟩
  refine List.forall_mem_cons.mpr ⟨zo_none_tl, ?_⟩
  refine List.forall_mem_cons.mpr ⟨zo_none_tl, ?_⟩
  refine List.forall_mem_cons.mpr ⟨(zo_pushI_tl _ _), ?_⟩
  refine List.forall_mem_cons.mpr ⟨(zo_iret_tl _), ?_⟩
  exact fun _ h => absurd h List.not_mem_nil
noncomputable def fX12_isReady : zzFn := zz_fn tX12_isReady 2
set_option maxRecDepth 100000 in
set_option maxHeartbeats 4000000 in
theorem mm_X12_isReady {l : Launch} {D : va_G} {cA : Nat → ClassId} {ad : Nat → Nat} {Ex : (Nat → Prop) → State → Heap → Prop} (Wd : zzWR l D cA ad Ex) : zz_Cn l D zzCl cA ad zzSR Ex yX12_isReady cX12_isReady 2 (some .boolean) 3 65 fX12_isReady ∧ zz_Cx l D zzCl cA ad zzSR Ex yX12_isReady cX12_isReady 2 (some .boolean) 3 65 fX12_isReady := by
  refine zz_meth (plainFor_of_name (by decide)) Wd.1 Wd.2.1 Wd.2.2 (fun p e R s m args below meth c rr X => ?_)
  unfold tX12_isReady
  refine zz_cons (k' := 1) rfl (zk_aload_n X dX12_isReady_0 rfl rfl) ?_
  refine zz_cons (k' := 2) rfl (zk_iload_n X dX12_isReady_1 rfl rfl) ?_
  refine zz_cons (k' := 3) rfl (zk_iconst X dX12_isReady_2 (by decide) rfl) ?_
  refine zz_cons (k' := 4) rfl (zk_callv X (zz_Cv_of (List.forall_mem_cons.mpr ⟨⟨(RX_10, zzT10, 50), yX12_asksOf, cX12_asksOf, 3, (some .boolean), 2, 43, rfl, kv_X12_413_10.1, (mm_X12_asksOf Wd).1, by decide, by decide⟩, (fun _ h => absurd h List.not_mem_nil)⟩)) dX12_isReady_3 rfl) ?_
  refine zz_cons (k' := 5) rfl (zz_Ok_none _ _) ?_
  refine zz_cons (k' := 6) rfl (zz_Ok_none _ _) ?_
  refine zz_cons (k' := 7) rfl (zk_if_eq X dX12_isReady_6 (by decide) rfl) ?_
  refine zz_cons (k' := 8) rfl (zz_Ok_none _ _) ?_
  refine zz_cons (k' := 9) rfl (zz_Ok_none _ _) ?_
  refine zz_cons (k' := 10) rfl (zk_aload_n X dX12_isReady_9 rfl rfl) ?_
  refine zz_cons (k' := 11) rfl (zk_aload_n X dX12_isReady_10 rfl rfl) ?_
  refine zz_cons (k' := 12) rfl (zk_getf X ff_X12_28 dX12_isReady_11 rfl) ?_
  refine zz_cons (k' := 13) rfl (zz_Ok_none _ _) ?_
  refine zz_cons (k' := 14) rfl (zz_Ok_none _ _) ?_
  refine zz_cons (k' := 15) rfl (zk_iload_n X dX12_isReady_14 rfl rfl) ?_
  refine zz_cons (k' := 16) rfl (zk_lald X dX12_isReady_15 rfl) ?_
  refine zz_cons (k' := 17) rfl (zk_bipush X dX12_isReady_16 (by decide) rfl) ?_
  refine zz_cons (k' := 18) rfl (zz_Ok_none _ _) ?_
  refine zz_cons (k' := 19) rfl (zk_callv X (zz_Cv_of (List.forall_mem_cons.mpr ⟨⟨(RX_10, zzT10, 50), yX12_get, cX12_get, 4, (some .int), 0, 0, rfl, kv_X12_146_10.1, (mm_X12_get Wd).1, by decide, by decide⟩, (fun _ h => absurd h List.not_mem_nil)⟩)) dX12_isReady_18 rfl) ?_
  refine zz_cons (k' := 20) rfl (zz_Ok_none _ _) ?_
  refine zz_cons (k' := 21) rfl (zz_Ok_none _ _) ?_
  refine zz_cons (k' := 22) rfl (zk_iconst X dX12_isReady_21 (by decide) rfl) ?_
  refine zz_cons (k' := 23) rfl (zk_icmp_ne X dX12_isReady_22 (by decide) rfl) ?_
  refine zz_cons (k' := 24) rfl (zz_Ok_none _ _) ?_
  refine zz_cons (k' := 25) rfl (zz_Ok_none _ _) ?_
  refine zz_cons (k' := 26) rfl (zk_iconst X dX12_isReady_25 (by decide) rfl) ?_
  refine zz_cons (k' := 27) rfl (zk_goto X dX12_isReady_26 (by decide)) ?_
  refine zz_cons (k' := 28) rfl (zz_Ok_none _ _) ?_
  refine zz_cons (k' := 29) rfl (zz_Ok_none _ _) ?_
  refine zz_cons (k' := 30) rfl (zk_iconst X dX12_isReady_29 (by decide) rfl) ?_
  refine zz_cons (k' := 31) rfl (zk_iret X rfl dX12_isReady_30) ?_
  exact trivial
noncomputable def tX12_isBehind : List zzOp := [
  zo_aload 0 1,
  zo_iload 1 2,
  zo_callv zzSR (zz_cl [(10, fX12_isObject)]) 1 5,
  zo_none,
  zo_none,
  zo_if (fun x => decide (x = 0)) 20 8,
  zo_none,
  zo_none,
  zo_aload 0 9,
  zo_iload 2 10,
  zo_callv zzSR (zz_cl [(10, fX12_isObject)]) 1 13,
  zo_none,
  zo_none,
  zo_if (fun x => decide (x = 0)) 20 16,
  zo_none,
  zo_none,
  zo_pushI 1 17,
  zo_goto 21,
  zo_none,
  zo_none,
  zo_pushI 0 21,
  zo_istore 3 22,
  zo_aload 0 23,
  zo_iload 3 24,
  zo_if (fun x => decide (¬ x = 0)) 31 27,
  zo_none,
  zo_none,
  zo_pushI 1 28,
  zo_goto 46,
  zo_none,
  zo_none,
  zo_aload 0 32,
  zo_getf zzSR (zz_kf [10] 6) 35,
  zo_none,
  zo_none,
  zo_iload 1 36,
  zo_iald zzSR zzSTR 37,
  zo_pushI 5 38,
  zo_icmp (fun x y => decide (¬ x = y)) 45 41,
  zo_none,
  zo_none,
  zo_pushI 0 42,
  zo_goto 46,
  zo_none,
  zo_none,
  zo_pushI 2 46,
  zo_callv zzSR (zz_cl [(10, fX12_goes)]) 1 49,
  zo_none,
  zo_none,
  zo_if (fun x => decide (x = 0)) 69 52,
  zo_none,
  zo_none,
  zo_aload 0 53,
  zo_getf zzSR (zz_kf [10] 8) 56,
  zo_none,
  zo_none,
  zo_iload 1 57,
  zo_lald zzSR 58,
  zo_iload 2 59,
  zo_calls fX12_isOf 2 62,
  zo_none,
  zo_none,
  zo_if (fun x => decide (x = 0)) 69 65,
  zo_none,
  zo_none,
  zo_pushI 1 66,
  zo_goto 70,
  zo_none,
  zo_none,
  zo_pushI 0 70,
  zo_iret true]
set_option maxRecDepth 100000 in
theorem tl_X12_isBehind : ∀ pc, zz_Tl (tX12_isBehind.getD pc zo_none) := by
  refine zz_Tl_mem ?_
  unfold tX12_isBehind
  refine List.forall_mem_cons.mpr ⟨(zo_aload_tl _ _), ?_⟩
  refine List.forall_mem_cons.mpr ⟨(zo_iload_tl _ _), ?_⟩
  refine List.forall_mem_cons.mpr ⟨(zo_callv_tl _ _ _ _), ?_⟩
  refine List.forall_mem_cons.mpr ⟨zo_none_tl, ?_⟩
  refine List.forall_mem_cons.mpr ⟨zo_none_tl, ?_⟩
  refine List.forall_mem_cons.mpr ⟨(zo_if_tl _ _ _), ?_⟩
  refine List.forall_mem_cons.mpr ⟨zo_none_tl, ?_⟩
  refine List.forall_mem_cons.mpr ⟨zo_none_tl, ?_⟩
  refine List.forall_mem_cons.mpr ⟨(zo_aload_tl _ _), ?_⟩
  refine List.forall_mem_cons.mpr ⟨(zo_iload_tl _ _), ?_⟩
  refine List.forall_mem_cons.mpr ⟨(zo_callv_tl _ _ _ _), ?_⟩
  refine List.forall_mem_cons.mpr ⟨zo_none_tl, ?_⟩
  refine List.forall_mem_cons.mpr ⟨zo_none_tl, ?_⟩
  refine List.forall_mem_cons.mpr ⟨(zo_if_tl _ _ _), ?_⟩
  refine List.forall_mem_cons.mpr ⟨zo_none_tl, ?_⟩
  refine List.forall_mem_cons.mpr ⟨zo_none_tl, ?_⟩
  refine List.forall_mem_cons.mpr ⟨(zo_pushI_tl _ _), ?_⟩
  refine List.forall_mem_cons.mpr ⟨(zo_goto_tl _), ?_⟩
  refine List.forall_mem_cons.mpr ⟨zo_none_tl, ?_⟩
  refine List.forall_mem_cons.mpr ⟨zo_none_tl, ?_⟩
  refine List.forall_mem_cons.mpr ⟨(zo_pushI_tl _ _), ?_⟩
  refine List.forall_mem_cons.mpr ⟨(zo_istore_tl _ _), ?_⟩
  refine List.forall_mem_cons.mpr ⟨(zo_aload_tl _ _), ?_⟩
  refine List.forall_mem_cons.mpr ⟨(zo_iload_tl _ _), ?_⟩
  refine List.forall_mem_cons.mpr ⟨(zo_if_tl _ _ _), ?_⟩
  refine List.forall_mem_cons.mpr ⟨zo_none_tl, ?_⟩
  refine List.forall_mem_cons.mpr ⟨zo_none_tl, ?_⟩
  refine List.forall_mem_cons.mpr ⟨(zo_pushI_tl _ _), ?_⟩
  refine List.forall_mem_cons.mpr ⟨(zo_goto_tl _), ?_⟩
  refine List.forall_mem_cons.mpr ⟨zo_none_tl, ?_⟩
  refine List.forall_mem_cons.mpr ⟨zo_none_tl, ?_⟩
  refine List.forall_mem_cons.mpr ⟨(zo_aload_tl _ _), ?_⟩
  refine List.forall_mem_cons.mpr ⟨(zo_getf_tl _ _ _), ?_⟩
  refine List.forall_mem_cons.mpr ⟨zo_none_tl, ?_⟩
  refine List.forall_mem_cons.mpr ⟨zo_none_tl, ?_⟩
  refine List.forall_mem_cons.mpr ⟨(zo_iload_tl _ _), ?_⟩
  refine List.forall_mem_cons.mpr ⟨(zo_iald_tl _ _ _), ?_⟩
  refine List.forall_mem_cons.mpr ⟨(zo_pushI_tl _ _), ?_⟩
  refine List.forall_mem_cons.mpr ⟨(zo_icmp_tl _ _ _), ?_⟩
  refine List.forall_mem_cons.mpr ⟨zo_none_tl, ?_⟩
  refine List.forall_mem_cons.mpr ⟨zo_none_tl, ?_⟩
  refine List.forall_mem_cons.mpr ⟨(zo_pushI_tl _ _), ?_⟩
  refine List.forall_mem_cons.mpr ⟨(zo_goto_tl _), ?_⟩
  refine List.forall_mem_cons.mpr ⟨zo_none_tl, ?_⟩
  refine List.forall_mem_cons.mpr ⟨zo_none_tl, ?_⟩
  refine List.forall_mem_cons.mpr ⟨(zo_pushI_tl _ _), ?_⟩
  refine List.forall_mem_cons.mpr ⟨(zo_callv_tl _ _ _ _), ?_⟩
  refine List.forall_mem_cons.mpr ⟨zo_none_tl, ?_⟩
  refine List.forall_mem_cons.mpr ⟨zo_none_tl, ?_⟩
  refine List.forall_mem_cons.mpr ⟨(zo_if_tl _ _ _), ?_⟩
  refine List.forall_mem_cons.mpr ⟨zo_none_tl, ?_⟩
  refine List.forall_mem_cons.mpr ⟨zo_none_tl, ?_⟩
  refine List.forall_mem_cons.mpr ⟨(zo_aload_tl _ _), ?_⟩
  refine List.forall_mem_cons.mpr ⟨(zo_getf_tl _ _ _), ?_⟩
  refine List.forall_mem_cons.mpr ⟨zo_none_tl, ?_⟩
  refine List.forall_mem_cons.mpr ⟨zo_none_tl, ?_⟩
  refine List.forall_mem_cons.mpr ⟨(zo_iload_tl _ _), ?_⟩
  refine List.forall_mem_cons.mpr ⟨(zo_lald_tl _ _), ?_⟩
  refine List.forall_mem_cons.mpr ⟨(zo_iload_tl _ _), ?_⟩
  refine List.forall_mem_cons.mpr ⟨(zo_calls_tl _ _ _), ?_⟩
  refine List.forall_mem_cons.mpr ⟨zo_none_tl, ?_⟩
  refine List.forall_mem_cons.mpr ⟨zo_none_tl, ?_⟩
  refine List.forall_mem_cons.mpr ⟨(zo_if_tl _ _ _), ?_⟩
  refine List.forall_mem_cons.mpr ⟨zo_none_tl, ?_⟩
  refine List.forall_mem_cons.mpr ⟨zo_none_tl, ?_⟩
  refine List.forall_mem_cons.mpr ⟨(zo_pushI_tl _ _), ?_⟩
  refine List.forall_mem_cons.mpr ⟨(zo_goto_tl _), ?_⟩
  refine List.forall_mem_cons.mpr ⟨zo_none_tl, ?_⟩
  refine List.forall_mem_cons.mpr ⟨zo_none_tl, ?_⟩
  refine List.forall_mem_cons.mpr ⟨(zo_pushI_tl _ _), ?_⟩
  refine List.forall_mem_cons.mpr ⟨(zo_iret_tl _), ?_⟩
  exact fun _ h => absurd h List.not_mem_nil
noncomputable def fX12_isBehind : zzFn := zz_fn tX12_isBehind 4
set_option maxRecDepth 100000 in
set_option maxHeartbeats 4000000 in
theorem mm_X12_isBehind {l : Launch} {D : va_G} {cA : Nat → ClassId} {ad : Nat → Nat} {Ex : (Nat → Prop) → State → Heap → Prop} (Wd : zzWR l D cA ad Ex) : zz_Cn l D zzCl cA ad zzSR Ex yX12_isBehind cX12_isBehind 4 (some .boolean) 2 43 fX12_isBehind ∧ zz_Cx l D zzCl cA ad zzSR Ex yX12_isBehind cX12_isBehind 4 (some .boolean) 2 43 fX12_isBehind := by
  refine zz_meth (plainFor_of_name (by decide)) Wd.1 Wd.2.1 Wd.2.2 (fun p e R s m args below meth c rr X => ?_)
  unfold tX12_isBehind
  refine zz_cons (k' := 1) rfl (zk_aload_n X dX12_isBehind_0 rfl rfl) ?_
  refine zz_cons (k' := 2) rfl (zk_iload_n X dX12_isBehind_1 rfl rfl) ?_
  refine zz_cons (k' := 3) rfl (zk_callv X (zz_Cv_of (List.forall_mem_cons.mpr ⟨⟨(RX_10, zzT10, 50), yX12_isObject, cX12_isObject, 2, (some .boolean), 1, 22, rfl, kv_X12_377_10.1, (mm_X12_isObject Wd).1, by decide, by decide⟩, (fun _ h => absurd h List.not_mem_nil)⟩)) dX12_isBehind_2 rfl) ?_
  refine zz_cons (k' := 4) rfl (zz_Ok_none _ _) ?_
  refine zz_cons (k' := 5) rfl (zz_Ok_none _ _) ?_
  refine zz_cons (k' := 6) rfl (zk_if_eq X dX12_isBehind_5 (by decide) rfl) ?_
  refine zz_cons (k' := 7) rfl (zz_Ok_none _ _) ?_
  refine zz_cons (k' := 8) rfl (zz_Ok_none _ _) ?_
  refine zz_cons (k' := 9) rfl (zk_aload_n X dX12_isBehind_8 rfl rfl) ?_
  refine zz_cons (k' := 10) rfl (zk_iload_n X dX12_isBehind_9 rfl rfl) ?_
  refine zz_cons (k' := 11) rfl (zk_callv X (zz_Cv_of (List.forall_mem_cons.mpr ⟨⟨(RX_10, zzT10, 50), yX12_isObject, cX12_isObject, 2, (some .boolean), 1, 22, rfl, kv_X12_377_10.1, (mm_X12_isObject Wd).1, by decide, by decide⟩, (fun _ h => absurd h List.not_mem_nil)⟩)) dX12_isBehind_10 rfl) ?_
  refine zz_cons (k' := 12) rfl (zz_Ok_none _ _) ?_
  refine zz_cons (k' := 13) rfl (zz_Ok_none _ _) ?_
  refine zz_cons (k' := 14) rfl (zk_if_eq X dX12_isBehind_13 (by decide) rfl) ?_
  refine zz_cons (k' := 15) rfl (zz_Ok_none _ _) ?_
  refine zz_cons (k' := 16) rfl (zz_Ok_none _ _) ?_
  refine zz_cons (k' := 17) rfl (zk_iconst X dX12_isBehind_16 (by decide) rfl) ?_
  refine zz_cons (k' := 18) rfl (zk_goto X dX12_isBehind_17 (by decide)) ?_
  refine zz_cons (k' := 19) rfl (zz_Ok_none _ _) ?_
  refine zz_cons (k' := 20) rfl (zz_Ok_none _ _) ?_
  refine zz_cons (k' := 21) rfl (zk_iconst X dX12_isBehind_20 (by decide) rfl) ?_
  refine zz_cons (k' := 22) rfl (zk_istore_n X dX12_isBehind_21 rfl (by decide) rfl) ?_
  refine zz_cons (k' := 23) rfl (zk_aload_n X dX12_isBehind_22 rfl rfl) ?_
  refine zz_cons (k' := 24) rfl (zk_iload_n X dX12_isBehind_23 rfl rfl) ?_
  refine zz_cons (k' := 25) rfl (zk_if_ne X dX12_isBehind_24 (by decide) rfl) ?_
  refine zz_cons (k' := 26) rfl (zz_Ok_none _ _) ?_
  refine zz_cons (k' := 27) rfl (zz_Ok_none _ _) ?_
  refine zz_cons (k' := 28) rfl (zk_iconst X dX12_isBehind_27 (by decide) rfl) ?_
  refine zz_cons (k' := 29) rfl (zk_goto X dX12_isBehind_28 (by decide)) ?_
  refine zz_cons (k' := 30) rfl (zz_Ok_none _ _) ?_
  refine zz_cons (k' := 31) rfl (zz_Ok_none _ _) ?_
  refine zz_cons (k' := 32) rfl (zk_aload_n X dX12_isBehind_31 rfl rfl) ?_
  refine zz_cons (k' := 33) rfl (zk_getf X ff_X12_25 dX12_isBehind_32 rfl) ?_
  refine zz_cons (k' := 34) rfl (zz_Ok_none _ _) ?_
  refine zz_cons (k' := 35) rfl (zz_Ok_none _ _) ?_
  refine zz_cons (k' := 36) rfl (zk_iload_n X dX12_isBehind_35 rfl rfl) ?_
  refine zz_cons (k' := 37) rfl (zk_iald X (zzWR_st Wd) dX12_isBehind_36 rfl) ?_
  refine zz_cons (k' := 38) rfl (zk_iconst X dX12_isBehind_37 (by decide) rfl) ?_
  refine zz_cons (k' := 39) rfl (zk_icmp_ne X dX12_isBehind_38 (by decide) rfl) ?_
  refine zz_cons (k' := 40) rfl (zz_Ok_none _ _) ?_
  refine zz_cons (k' := 41) rfl (zz_Ok_none _ _) ?_
  refine zz_cons (k' := 42) rfl (zk_iconst X dX12_isBehind_41 (by decide) rfl) ?_
  refine zz_cons (k' := 43) rfl (zk_goto X dX12_isBehind_42 (by decide)) ?_
  refine zz_cons (k' := 44) rfl (zz_Ok_none _ _) ?_
  refine zz_cons (k' := 45) rfl (zz_Ok_none _ _) ?_
  refine zz_cons (k' := 46) rfl (zk_iconst X dX12_isBehind_45 (by decide) rfl) ?_
  refine zz_cons (k' := 47) rfl (zk_callv X (zz_Cv_of (List.forall_mem_cons.mpr ⟨⟨(RX_10, zzT10, 50), yX12_goes, cX12_goes, 2, (some .boolean), 0, 0, rfl, kv_X12_374_10.1, (mm_X12_goes Wd).1, by decide, by decide⟩, (fun _ h => absurd h List.not_mem_nil)⟩)) dX12_isBehind_46 rfl) ?_
  refine zz_cons (k' := 48) rfl (zz_Ok_none _ _) ?_
  refine zz_cons (k' := 49) rfl (zz_Ok_none _ _) ?_
  refine zz_cons (k' := 50) rfl (zk_if_eq X dX12_isBehind_49 (by decide) rfl) ?_
  refine zz_cons (k' := 51) rfl (zz_Ok_none _ _) ?_
  refine zz_cons (k' := 52) rfl (zz_Ok_none _ _) ?_
  refine zz_cons (k' := 53) rfl (zk_aload_n X dX12_isBehind_52 rfl rfl) ?_
  refine zz_cons (k' := 54) rfl (zk_getf X ff_X12_32 dX12_isBehind_53 rfl) ?_
  refine zz_cons (k' := 55) rfl (zz_Ok_none _ _) ?_
  refine zz_cons (k' := 56) rfl (zz_Ok_none _ _) ?_
  refine zz_cons (k' := 57) rfl (zk_iload_n X dX12_isBehind_56 rfl rfl) ?_
  refine zz_cons (k' := 58) rfl (zk_lald X dX12_isBehind_57 rfl) ?_
  refine zz_cons (k' := 59) rfl (zk_iload_n X dX12_isBehind_58 rfl rfl) ?_
  refine zz_cons (k' := 60) rfl (zk_calls X ks_X12_416 (mm_X12_isOf Wd).1 (by decide) dX12_isBehind_59 rfl) ?_
  refine zz_cons (k' := 61) rfl (zz_Ok_none _ _) ?_
  refine zz_cons (k' := 62) rfl (zz_Ok_none _ _) ?_
  refine zz_cons (k' := 63) rfl (zk_if_eq X dX12_isBehind_62 (by decide) rfl) ?_
  refine zz_cons (k' := 64) rfl (zz_Ok_none _ _) ?_
  refine zz_cons (k' := 65) rfl (zz_Ok_none _ _) ?_
  refine zz_cons (k' := 66) rfl (zk_iconst X dX12_isBehind_65 (by decide) rfl) ?_
  refine zz_cons (k' := 67) rfl (zk_goto X dX12_isBehind_66 (by decide)) ?_
  refine zz_cons (k' := 68) rfl (zz_Ok_none _ _) ?_
  refine zz_cons (k' := 69) rfl (zz_Ok_none _ _) ?_
  refine zz_cons (k' := 70) rfl (zk_iconst X dX12_isBehind_69 (by decide) rfl) ?_
  refine zz_cons (k' := 71) rfl (zk_iret X rfl dX12_isBehind_70) ?_
  exact trivial
noncomputable def tX12_isSetOf : List zzOp := [
  zo_iload 1 1,
  zo_pushI (-1) 2,
  zo_icmp (fun x y => decide (x = y)) 48 5,
  zo_none,
  zo_none,
  zo_aload 0 6,
  zo_getf zzSR (zz_kf [10] 6) 9,
  zo_none,
  zo_none,
  zo_iload 1 10,
  zo_iald zzSR zzSTR 11,
  zo_pushI 1 12,
  zo_icmp (fun x y => decide (¬ x = y)) 48 15,
  zo_none,
  zo_none,
  zo_aload 0 16,
  zo_aload 0 17,
  zo_getf zzSR (zz_kf [10] 7) 20,
  zo_none,
  zo_none,
  zo_iload 1 21,
  zo_lald zzSR 22,
  zo_pushI 13 24,
  zo_none,
  zo_callv zzSR (zz_cl [(10, fX12_get)]) 2 27,
  zo_none,
  zo_none,
  zo_if (fun x => decide (¬ x = 0)) 48 30,
  zo_none,
  zo_none,
  zo_aload 0 31,
  zo_aload 0 32,
  zo_getf zzSR (zz_kf [10] 7) 35,
  zo_none,
  zo_none,
  zo_iload 1 36,
  zo_lald zzSR 37,
  zo_callv zzSR (zz_cl [(10, fX12_ownerIn)]) 1 40,
  zo_none,
  zo_none,
  zo_iload 2 41,
  zo_icmp (fun x y => decide (¬ x = y)) 48 44,
  zo_none,
  zo_none,
  zo_pushI 1 45,
  zo_goto 49,
  zo_none,
  zo_none,
  zo_pushI 0 49,
  zo_iret true]
set_option maxRecDepth 100000 in
theorem tl_X12_isSetOf : ∀ pc, zz_Tl (tX12_isSetOf.getD pc zo_none) := by
  refine zz_Tl_mem ?_
  unfold tX12_isSetOf
  refine List.forall_mem_cons.mpr ⟨(zo_iload_tl _ _), ?_⟩
  refine List.forall_mem_cons.mpr ⟨(zo_pushI_tl _ _), ?_⟩
  refine List.forall_mem_cons.mpr ⟨(zo_icmp_tl _ _ _), ?_⟩
  refine List.forall_mem_cons.mpr ⟨zo_none_tl, ?_⟩
  refine List.forall_mem_cons.mpr ⟨zo_none_tl, ?_⟩
  refine List.forall_mem_cons.mpr ⟨(zo_aload_tl _ _), ?_⟩
  refine List.forall_mem_cons.mpr ⟨(zo_getf_tl _ _ _), ?_⟩
  refine List.forall_mem_cons.mpr ⟨zo_none_tl, ?_⟩
  refine List.forall_mem_cons.mpr ⟨zo_none_tl, ?_⟩
  refine List.forall_mem_cons.mpr ⟨(zo_iload_tl _ _), ?_⟩
  refine List.forall_mem_cons.mpr ⟨(zo_iald_tl _ _ _), ?_⟩
  refine List.forall_mem_cons.mpr ⟨(zo_pushI_tl _ _), ?_⟩
  refine List.forall_mem_cons.mpr ⟨(zo_icmp_tl _ _ _), ?_⟩
  refine List.forall_mem_cons.mpr ⟨zo_none_tl, ?_⟩
  refine List.forall_mem_cons.mpr ⟨zo_none_tl, ?_⟩
  refine List.forall_mem_cons.mpr ⟨(zo_aload_tl _ _), ?_⟩
  refine List.forall_mem_cons.mpr ⟨(zo_aload_tl _ _), ?_⟩
  refine List.forall_mem_cons.mpr ⟨(zo_getf_tl _ _ _), ?_⟩
  refine List.forall_mem_cons.mpr ⟨zo_none_tl, ?_⟩
  refine List.forall_mem_cons.mpr ⟨zo_none_tl, ?_⟩
  refine List.forall_mem_cons.mpr ⟨(zo_iload_tl _ _), ?_⟩
  refine List.forall_mem_cons.mpr ⟨(zo_lald_tl _ _), ?_⟩
  refine List.forall_mem_cons.mpr ⟨(zo_pushI_tl _ _), ?_⟩
  refine List.forall_mem_cons.mpr ⟨zo_none_tl, ?_⟩
  refine List.forall_mem_cons.mpr ⟨(zo_callv_tl _ _ _ _), ?_⟩
  refine List.forall_mem_cons.mpr ⟨zo_none_tl, ?_⟩
  refine List.forall_mem_cons.mpr ⟨zo_none_tl, ?_⟩
  refine List.forall_mem_cons.mpr ⟨(zo_if_tl _ _ _), ?_⟩
  refine List.forall_mem_cons.mpr ⟨zo_none_tl, ?_⟩
  refine List.forall_mem_cons.mpr ⟨zo_none_tl, ?_⟩
  refine List.forall_mem_cons.mpr ⟨(zo_aload_tl _ _), ?_⟩
  refine List.forall_mem_cons.mpr ⟨(zo_aload_tl _ _), ?_⟩
  refine List.forall_mem_cons.mpr ⟨(zo_getf_tl _ _ _), ?_⟩
  refine List.forall_mem_cons.mpr ⟨zo_none_tl, ?_⟩
  refine List.forall_mem_cons.mpr ⟨zo_none_tl, ?_⟩
  refine List.forall_mem_cons.mpr ⟨(zo_iload_tl _ _), ?_⟩
  refine List.forall_mem_cons.mpr ⟨(zo_lald_tl _ _), ?_⟩
  refine List.forall_mem_cons.mpr ⟨(zo_callv_tl _ _ _ _), ?_⟩
  refine List.forall_mem_cons.mpr ⟨zo_none_tl, ?_⟩
  refine List.forall_mem_cons.mpr ⟨zo_none_tl, ?_⟩
  refine List.forall_mem_cons.mpr ⟨(zo_iload_tl _ _), ?_⟩
  refine List.forall_mem_cons.mpr ⟨(zo_icmp_tl _ _ _), ?_⟩
  refine List.forall_mem_cons.mpr ⟨zo_none_tl, ?_⟩
  refine List.forall_mem_cons.mpr ⟨zo_none_tl, ?_⟩
  refine List.forall_mem_cons.mpr ⟨(zo_pushI_tl _ _), ?_⟩
  refine List.forall_mem_cons.mpr ⟨(zo_goto_tl _), ?_⟩
  refine List.forall_mem_cons.mpr ⟨zo_none_tl, ?_⟩
  refine List.forall_mem_cons.mpr ⟨zo_none_tl, ?_⟩
  refine List.forall_mem_cons.mpr ⟨(zo_pushI_tl _ _), ?_⟩
  refine List.forall_mem_cons.mpr ⟨(zo_iret_tl _), ?_⟩
  exact fun _ h => absurd h List.not_mem_nil
noncomputable def fX12_isSetOf : zzFn := zz_fn tX12_isSetOf 3
set_option maxRecDepth 100000 in
set_option maxHeartbeats 4000000 in
theorem mm_X12_isSetOf {l : Launch} {D : va_G} {cA : Nat → ClassId} {ad : Nat → Nat} {Ex : (Nat → Prop) → State → Heap → Prop} (Wd : zzWR l D cA ad Ex) : zz_Cn l D zzCl cA ad zzSR Ex yX12_isSetOf cX12_isSetOf 3 (some .boolean) 2 45 fX12_isSetOf ∧ zz_Cx l D zzCl cA ad zzSR Ex yX12_isSetOf cX12_isSetOf 3 (some .boolean) 2 45 fX12_isSetOf := by
  refine zz_meth (plainFor_of_name (by decide)) Wd.1 Wd.2.1 Wd.2.2 (fun p e R s m args below meth c rr X => ?_)
  unfold tX12_isSetOf
  refine zz_cons (k' := 1) rfl (zk_iload_n X dX12_isSetOf_0 rfl rfl) ?_
  refine zz_cons (k' := 2) rfl (zk_iconst X dX12_isSetOf_1 (by decide) rfl) ?_
  refine zz_cons (k' := 3) rfl (zk_icmp_eq X dX12_isSetOf_2 (by decide) rfl) ?_
  refine zz_cons (k' := 4) rfl (zz_Ok_none _ _) ?_
  refine zz_cons (k' := 5) rfl (zz_Ok_none _ _) ?_
  refine zz_cons (k' := 6) rfl (zk_aload_n X dX12_isSetOf_5 rfl rfl) ?_
  refine zz_cons (k' := 7) rfl (zk_getf X ff_X12_25 dX12_isSetOf_6 rfl) ?_
  refine zz_cons (k' := 8) rfl (zz_Ok_none _ _) ?_
  refine zz_cons (k' := 9) rfl (zz_Ok_none _ _) ?_
  refine zz_cons (k' := 10) rfl (zk_iload_n X dX12_isSetOf_9 rfl rfl) ?_
  refine zz_cons (k' := 11) rfl (zk_iald X (zzWR_st Wd) dX12_isSetOf_10 rfl) ?_
  refine zz_cons (k' := 12) rfl (zk_iconst X dX12_isSetOf_11 (by decide) rfl) ?_
  refine zz_cons (k' := 13) rfl (zk_icmp_ne X dX12_isSetOf_12 (by decide) rfl) ?_
  refine zz_cons (k' := 14) rfl (zz_Ok_none _ _) ?_
  refine zz_cons (k' := 15) rfl (zz_Ok_none _ _) ?_
  refine zz_cons (k' := 16) rfl (zk_aload_n X dX12_isSetOf_15 rfl rfl) ?_
  refine zz_cons (k' := 17) rfl (zk_aload_n X dX12_isSetOf_16 rfl rfl) ?_
  refine zz_cons (k' := 18) rfl (zk_getf X ff_X12_28 dX12_isSetOf_17 rfl) ?_
  refine zz_cons (k' := 19) rfl (zz_Ok_none _ _) ?_
  refine zz_cons (k' := 20) rfl (zz_Ok_none _ _) ?_
  refine zz_cons (k' := 21) rfl (zk_iload_n X dX12_isSetOf_20 rfl rfl) ?_
  refine zz_cons (k' := 22) rfl (zk_lald X dX12_isSetOf_21 rfl) ?_
  refine zz_cons (k' := 23) rfl (zk_bipush X dX12_isSetOf_22 (by decide) rfl) ?_
  refine zz_cons (k' := 24) rfl (zz_Ok_none _ _) ?_
  refine zz_cons (k' := 25) rfl (zk_callv X (zz_Cv_of (List.forall_mem_cons.mpr ⟨⟨(RX_10, zzT10, 50), yX12_get, cX12_get, 4, (some .int), 0, 0, rfl, kv_X12_146_10.1, (mm_X12_get Wd).1, by decide, by decide⟩, (fun _ h => absurd h List.not_mem_nil)⟩)) dX12_isSetOf_24 rfl) ?_
  refine zz_cons (k' := 26) rfl (zz_Ok_none _ _) ?_
  refine zz_cons (k' := 27) rfl (zz_Ok_none _ _) ?_
  refine zz_cons (k' := 28) rfl (zk_if_ne X dX12_isSetOf_27 (by decide) rfl) ?_
  refine zz_cons (k' := 29) rfl (zz_Ok_none _ _) ?_
  refine zz_cons (k' := 30) rfl (zz_Ok_none _ _) ?_
  refine zz_cons (k' := 31) rfl (zk_aload_n X dX12_isSetOf_30 rfl rfl) ?_
  refine zz_cons (k' := 32) rfl (zk_aload_n X dX12_isSetOf_31 rfl rfl) ?_
  refine zz_cons (k' := 33) rfl (zk_getf X ff_X12_28 dX12_isSetOf_32 rfl) ?_
  refine zz_cons (k' := 34) rfl (zz_Ok_none _ _) ?_
  refine zz_cons (k' := 35) rfl (zz_Ok_none _ _) ?_
  refine zz_cons (k' := 36) rfl (zk_iload_n X dX12_isSetOf_35 rfl rfl) ?_
  refine zz_cons (k' := 37) rfl (zk_lald X dX12_isSetOf_36 rfl) ?_
  refine zz_cons (k' := 38) rfl (zk_callv X (zz_Cv_of (List.forall_mem_cons.mpr ⟨⟨(RX_10, zzT10, 50), yX12_ownerIn, cX12_ownerIn, 3, (some .int), 1, 23, rfl, kv_X12_214_10.1, (mm_X12_ownerIn Wd).1, by decide, by decide⟩, (fun _ h => absurd h List.not_mem_nil)⟩)) dX12_isSetOf_37 rfl) ?_
  refine zz_cons (k' := 39) rfl (zz_Ok_none _ _) ?_
  refine zz_cons (k' := 40) rfl (zz_Ok_none _ _) ?_
  refine zz_cons (k' := 41) rfl (zk_iload_n X dX12_isSetOf_40 rfl rfl) ?_
  refine zz_cons (k' := 42) rfl (zk_icmp_ne X dX12_isSetOf_41 (by decide) rfl) ?_
  refine zz_cons (k' := 43) rfl (zz_Ok_none _ _) ?_
  refine zz_cons (k' := 44) rfl (zz_Ok_none _ _) ?_
  refine zz_cons (k' := 45) rfl (zk_iconst X dX12_isSetOf_44 (by decide) rfl) ?_
  refine zz_cons (k' := 46) rfl (zk_goto X dX12_isSetOf_45 (by decide)) ?_
  refine zz_cons (k' := 47) rfl (zz_Ok_none _ _) ?_
  refine zz_cons (k' := 48) rfl (zz_Ok_none _ _) ?_
  refine zz_cons (k' := 49) rfl (zk_iconst X dX12_isSetOf_48 (by decide) rfl) ?_
  refine zz_cons (k' := 50) rfl (zk_iret X rfl dX12_isSetOf_49) ?_
  exact trivial
noncomputable def tX12_latestOf : List zzOp := [
  zo_pushI (-1) 1,
  zo_istore 2 2,
  zo_aload 0 3,
  zo_getf zzSR (zz_kf [10] 5) 6,
  zo_none,
  zo_none,
  zo_pushI 1 7,
  zo_ii (fun x y => x - y) 8,
  zo_istore 3 9,
  zo_iload 3 10,
  zo_if (fun x => decide (x < 0)) 71 13,
  zo_none,
  zo_none,
  zo_aload 0 14,
  zo_iload 3 15,
  zo_iload 1 16,
  zo_callv zzSR (zz_cl [(10, fX12_isSetOf)]) 2 19,
  zo_none,
  zo_none,
  zo_if (fun x => decide (x = 0)) 51 22,
  zo_none,
  zo_none,
  zo_aload 0 23,
  zo_aload 0 24,
  zo_getf zzSR (zz_kf [10] 7) 27,
  zo_none,
  zo_none,
  zo_iload 3 28,
  zo_lald zzSR 29,
  zo_pushI 1 30,
  zo_callv zzSR (zz_cl [(10, fX12_get)]) 2 33,
  zo_none,
  zo_none,
  zo_aload 0 34,
  zo_aload 0 35,
  zo_getf zzSR (zz_kf [10] 7) 38,
  zo_none,
  zo_none,
  zo_iload 1 39,
  zo_lald zzSR 40,
  zo_pushI 1 41,
  zo_callv zzSR (zz_cl [(10, fX12_get)]) 2 44,
  zo_none,
  zo_none,
  zo_icmp (fun x y => decide (¬ x = y)) 51 47,
  zo_none,
  zo_none,
  zo_pushI 1 48,
  zo_goto 52,
  zo_none,
  zo_none,
  zo_pushI 0 52,
  zo_istore 4 54,
  zo_none,
  zo_iload 4 56,
  zo_none,
  zo_if (fun x => decide (x = 0)) 63 59,
  zo_none,
  zo_none,
  zo_iload 3 60,
  zo_goto 64,
  zo_none,
  zo_none,
  zo_iload 2 64,
  zo_istore 2 65,
  zo_iinc 3 (-1) 68,
  zo_none,
  zo_none,
  zo_goto 9,
  zo_none,
  zo_none,
  zo_iload 2 72,
  zo_iret false]
set_option maxRecDepth 100000 in
theorem tl_X12_latestOf : ∀ pc, zz_Tl (tX12_latestOf.getD pc zo_none) := by
  refine zz_Tl_mem ?_
  unfold tX12_latestOf
  refine List.forall_mem_cons.mpr ⟨(zo_pushI_tl _ _), ?_⟩
  refine List.forall_mem_cons.mpr ⟨(zo_istore_tl _ _), ?_⟩
  refine List.forall_mem_cons.mpr ⟨(zo_aload_tl _ _), ?_⟩
  refine List.forall_mem_cons.mpr ⟨(zo_getf_tl _ _ _), ?_⟩
  refine List.forall_mem_cons.mpr ⟨zo_none_tl, ?_⟩
  refine List.forall_mem_cons.mpr ⟨zo_none_tl, ?_⟩
  refine List.forall_mem_cons.mpr ⟨(zo_pushI_tl _ _), ?_⟩
  refine List.forall_mem_cons.mpr ⟨(zo_ii_tl _ _), ?_⟩
  refine List.forall_mem_cons.mpr ⟨(zo_istore_tl _ _), ?_⟩
  refine List.forall_mem_cons.mpr ⟨(zo_iload_tl _ _), ?_⟩
  refine List.forall_mem_cons.mpr ⟨(zo_if_tl _ _ _), ?_⟩
  refine List.forall_mem_cons.mpr ⟨zo_none_tl, ?_⟩
  refine List.forall_mem_cons.mpr ⟨zo_none_tl, ?_⟩
  refine List.forall_mem_cons.mpr ⟨(zo_aload_tl _ _), ?_⟩
  refine List.forall_mem_cons.mpr ⟨(zo_iload_tl _ _), ?_⟩
  refine List.forall_mem_cons.mpr ⟨(zo_iload_tl _ _), ?_⟩
  refine List.forall_mem_cons.mpr ⟨(zo_callv_tl _ _ _ _), ?_⟩
  refine List.forall_mem_cons.mpr ⟨zo_none_tl, ?_⟩
  refine List.forall_mem_cons.mpr ⟨zo_none_tl, ?_⟩
  refine List.forall_mem_cons.mpr ⟨(zo_if_tl _ _ _), ?_⟩
  refine List.forall_mem_cons.mpr ⟨zo_none_tl, ?_⟩
  refine List.forall_mem_cons.mpr ⟨zo_none_tl, ?_⟩
  refine List.forall_mem_cons.mpr ⟨(zo_aload_tl _ _), ?_⟩
  refine List.forall_mem_cons.mpr ⟨(zo_aload_tl _ _), ?_⟩
  refine List.forall_mem_cons.mpr ⟨(zo_getf_tl _ _ _), ?_⟩
  refine List.forall_mem_cons.mpr ⟨zo_none_tl, ?_⟩
  refine List.forall_mem_cons.mpr ⟨zo_none_tl, ?_⟩
  refine List.forall_mem_cons.mpr ⟨(zo_iload_tl _ _), ?_⟩
  refine List.forall_mem_cons.mpr ⟨(zo_lald_tl _ _), ?_⟩
  refine List.forall_mem_cons.mpr ⟨(zo_pushI_tl _ _), ?_⟩
  refine List.forall_mem_cons.mpr ⟨(zo_callv_tl _ _ _ _), ?_⟩
  refine List.forall_mem_cons.mpr ⟨zo_none_tl, ?_⟩
  refine List.forall_mem_cons.mpr ⟨zo_none_tl, ?_⟩
  refine List.forall_mem_cons.mpr ⟨(zo_aload_tl _ _), ?_⟩
  refine List.forall_mem_cons.mpr ⟨(zo_aload_tl _ _), ?_⟩
  refine List.forall_mem_cons.mpr ⟨(zo_getf_tl _ _ _), ?_⟩
  refine List.forall_mem_cons.mpr ⟨zo_none_tl, ?_⟩
  refine List.forall_mem_cons.mpr ⟨zo_none_tl, ?_⟩
  refine List.forall_mem_cons.mpr ⟨(zo_iload_tl _ _), ?_⟩
  refine List.forall_mem_cons.mpr ⟨(zo_lald_tl _ _), ?_⟩
  refine List.forall_mem_cons.mpr ⟨(zo_pushI_tl _ _), ?_⟩
  refine List.forall_mem_cons.mpr ⟨(zo_callv_tl _ _ _ _), ?_⟩
  refine List.forall_mem_cons.mpr ⟨zo_none_tl, ?_⟩
  refine List.forall_mem_cons.mpr ⟨zo_none_tl, ?_⟩
  refine List.forall_mem_cons.mpr ⟨(zo_icmp_tl _ _ _), ?_⟩
  refine List.forall_mem_cons.mpr ⟨zo_none_tl, ?_⟩
  refine List.forall_mem_cons.mpr ⟨zo_none_tl, ?_⟩
  refine List.forall_mem_cons.mpr ⟨(zo_pushI_tl _ _), ?_⟩
  refine List.forall_mem_cons.mpr ⟨(zo_goto_tl _), ?_⟩
  refine List.forall_mem_cons.mpr ⟨zo_none_tl, ?_⟩
  refine List.forall_mem_cons.mpr ⟨zo_none_tl, ?_⟩
  refine List.forall_mem_cons.mpr ⟨(zo_pushI_tl _ _), ?_⟩
  refine List.forall_mem_cons.mpr ⟨(zo_istore_tl _ _), ?_⟩
  refine List.forall_mem_cons.mpr ⟨zo_none_tl, ?_⟩
  refine List.forall_mem_cons.mpr ⟨(zo_iload_tl _ _), ?_⟩
  refine List.forall_mem_cons.mpr ⟨zo_none_tl, ?_⟩
  refine List.forall_mem_cons.mpr ⟨(zo_if_tl _ _ _), ?_⟩
  refine List.forall_mem_cons.mpr ⟨zo_none_tl, ?_⟩
  refine List.forall_mem_cons.mpr ⟨zo_none_tl, ?_⟩
  refine List.forall_mem_cons.mpr ⟨(zo_iload_tl _ _), ?_⟩
  refine List.forall_mem_cons.mpr ⟨(zo_goto_tl _), ?_⟩
  refine List.forall_mem_cons.mpr ⟨zo_none_tl, ?_⟩
  refine List.forall_mem_cons.mpr ⟨zo_none_tl, ?_⟩
  refine List.forall_mem_cons.mpr ⟨(zo_iload_tl _ _), ?_⟩
  refine List.forall_mem_cons.mpr ⟨(zo_istore_tl _ _), ?_⟩
  refine List.forall_mem_cons.mpr ⟨(zo_iinc_tl _ _ _), ?_⟩
  refine List.forall_mem_cons.mpr ⟨zo_none_tl, ?_⟩
  refine List.forall_mem_cons.mpr ⟨zo_none_tl, ?_⟩
  refine List.forall_mem_cons.mpr ⟨(zo_goto_tl _), ?_⟩
  refine List.forall_mem_cons.mpr ⟨zo_none_tl, ?_⟩
  refine List.forall_mem_cons.mpr ⟨zo_none_tl, ?_⟩
  refine List.forall_mem_cons.mpr ⟨(zo_iload_tl _ _), ?_⟩
  refine List.forall_mem_cons.mpr ⟨(zo_iret_tl _), ?_⟩
  exact fun _ h => absurd h List.not_mem_nil
noncomputable def fX12_latestOf : zzFn := zz_fn tX12_latestOf 5
set_option maxRecDepth 100000 in
set_option maxHeartbeats 4000000 in
theorem mm_X12_latestOf {l : Launch} {D : va_G} {cA : Nat → ClassId} {ad : Nat → Nat} {Ex : (Nat → Prop) → State → Heap → Prop} (Wd : zzWR l D cA ad Ex) : zz_Cn l D zzCl cA ad zzSR Ex yX12_latestOf cX12_latestOf 5 (some .int) 3 67 fX12_latestOf ∧ zz_Cx l D zzCl cA ad zzSR Ex yX12_latestOf cX12_latestOf 5 (some .int) 3 67 fX12_latestOf := by
  refine zz_meth (plainFor_of_name (by decide)) Wd.1 Wd.2.1 Wd.2.2 (fun p e R s m args below meth c rr X => ?_)
  unfold tX12_latestOf
  refine zz_cons (k' := 1) rfl (zk_iconst X dX12_latestOf_0 (by decide) rfl) ?_
  refine zz_cons (k' := 2) rfl (zk_istore_n X dX12_latestOf_1 rfl (by decide) rfl) ?_
  refine zz_cons (k' := 3) rfl (zk_aload_n X dX12_latestOf_2 rfl rfl) ?_
  refine zz_cons (k' := 4) rfl (zk_getf X ff_X12_137 dX12_latestOf_3 rfl) ?_
  refine zz_cons (k' := 5) rfl (zz_Ok_none _ _) ?_
  refine zz_cons (k' := 6) rfl (zz_Ok_none _ _) ?_
  refine zz_cons (k' := 7) rfl (zk_iconst X dX12_latestOf_6 (by decide) rfl) ?_
  refine zz_cons (k' := 8) rfl (zk_isub X dX12_latestOf_7 rfl) ?_
  refine zz_cons (k' := 9) rfl (zk_istore_n X dX12_latestOf_8 rfl (by decide) rfl) ?_
  refine zz_cons (k' := 10) rfl (zk_iload_n X dX12_latestOf_9 rfl rfl) ?_
  refine zz_cons (k' := 11) rfl (zk_if_lt X dX12_latestOf_10 (by decide) rfl) ?_
  refine zz_cons (k' := 12) rfl (zz_Ok_none _ _) ?_
  refine zz_cons (k' := 13) rfl (zz_Ok_none _ _) ?_
  refine zz_cons (k' := 14) rfl (zk_aload_n X dX12_latestOf_13 rfl rfl) ?_
  refine zz_cons (k' := 15) rfl (zk_iload_n X dX12_latestOf_14 rfl rfl) ?_
  refine zz_cons (k' := 16) rfl (zk_iload_n X dX12_latestOf_15 rfl rfl) ?_
  refine zz_cons (k' := 17) rfl (zk_callv X (zz_Cv_of (List.forall_mem_cons.mpr ⟨⟨(RX_10, zzT10, 50), yX12_isSetOf, cX12_isSetOf, 3, (some .boolean), 2, 45, rfl, kv_X12_420_10.1, (mm_X12_isSetOf Wd).1, by decide, by decide⟩, (fun _ h => absurd h List.not_mem_nil)⟩)) dX12_latestOf_16 rfl) ?_
  refine zz_cons (k' := 18) rfl (zz_Ok_none _ _) ?_
  refine zz_cons (k' := 19) rfl (zz_Ok_none _ _) ?_
  refine zz_cons (k' := 20) rfl (zk_if_eq X dX12_latestOf_19 (by decide) rfl) ?_
  refine zz_cons (k' := 21) rfl (zz_Ok_none _ _) ?_
  refine zz_cons (k' := 22) rfl (zz_Ok_none _ _) ?_
  refine zz_cons (k' := 23) rfl (zk_aload_n X dX12_latestOf_22 rfl rfl) ?_
  refine zz_cons (k' := 24) rfl (zk_aload_n X dX12_latestOf_23 rfl rfl) ?_
  refine zz_cons (k' := 25) rfl (zk_getf X ff_X12_28 dX12_latestOf_24 rfl) ?_
  refine zz_cons (k' := 26) rfl (zz_Ok_none _ _) ?_
  refine zz_cons (k' := 27) rfl (zz_Ok_none _ _) ?_
  refine zz_cons (k' := 28) rfl (zk_iload_n X dX12_latestOf_27 rfl rfl) ?_
  refine zz_cons (k' := 29) rfl (zk_lald X dX12_latestOf_28 rfl) ?_
  refine zz_cons (k' := 30) rfl (zk_iconst X dX12_latestOf_29 (by decide) rfl) ?_
  refine zz_cons (k' := 31) rfl (zk_callv X (zz_Cv_of (List.forall_mem_cons.mpr ⟨⟨(RX_10, zzT10, 50), yX12_get, cX12_get, 4, (some .int), 0, 0, rfl, kv_X12_146_10.1, (mm_X12_get Wd).1, by decide, by decide⟩, (fun _ h => absurd h List.not_mem_nil)⟩)) dX12_latestOf_30 rfl) ?_
  refine zz_cons (k' := 32) rfl (zz_Ok_none _ _) ?_
  refine zz_cons (k' := 33) rfl (zz_Ok_none _ _) ?_
  refine zz_cons (k' := 34) rfl (zk_aload_n X dX12_latestOf_33 rfl rfl) ?_
  refine zz_cons (k' := 35) rfl (zk_aload_n X dX12_latestOf_34 rfl rfl) ?_
  refine zz_cons (k' := 36) rfl (zk_getf X ff_X12_28 dX12_latestOf_35 rfl) ?_
  refine zz_cons (k' := 37) rfl (zz_Ok_none _ _) ?_
  refine zz_cons (k' := 38) rfl (zz_Ok_none _ _) ?_
  refine zz_cons (k' := 39) rfl (zk_iload_n X dX12_latestOf_38 rfl rfl) ?_
  refine zz_cons (k' := 40) rfl (zk_lald X dX12_latestOf_39 rfl) ?_
  refine zz_cons (k' := 41) rfl (zk_iconst X dX12_latestOf_40 (by decide) rfl) ?_
  refine zz_cons (k' := 42) rfl (zk_callv X (zz_Cv_of (List.forall_mem_cons.mpr ⟨⟨(RX_10, zzT10, 50), yX12_get, cX12_get, 4, (some .int), 0, 0, rfl, kv_X12_146_10.1, (mm_X12_get Wd).1, by decide, by decide⟩, (fun _ h => absurd h List.not_mem_nil)⟩)) dX12_latestOf_41 rfl) ?_
  refine zz_cons (k' := 43) rfl (zz_Ok_none _ _) ?_
  refine zz_cons (k' := 44) rfl (zz_Ok_none _ _) ?_
  refine zz_cons (k' := 45) rfl (zk_icmp_ne X dX12_latestOf_44 (by decide) rfl) ?_
  refine zz_cons (k' := 46) rfl (zz_Ok_none _ _) ?_
  refine zz_cons (k' := 47) rfl (zz_Ok_none _ _) ?_
  refine zz_cons (k' := 48) rfl (zk_iconst X dX12_latestOf_47 (by decide) rfl) ?_
  refine zz_cons (k' := 49) rfl (zk_goto X dX12_latestOf_48 (by decide)) ?_
  refine zz_cons (k' := 50) rfl (zz_Ok_none _ _) ?_
  refine zz_cons (k' := 51) rfl (zz_Ok_none _ _) ?_
  refine zz_cons (k' := 52) rfl (zk_iconst X dX12_latestOf_51 (by decide) rfl) ?_
  refine zz_cons (k' := 53) rfl (zk_istore X dX12_latestOf_52 (by decide) rfl) ?_
  refine zz_cons (k' := 54) rfl (zz_Ok_none _ _) ?_
  refine zz_cons (k' := 55) rfl (zk_iload X dX12_latestOf_54 rfl) ?_
  refine zz_cons (k' := 56) rfl (zz_Ok_none _ _) ?_
  refine zz_cons (k' := 57) rfl (zk_if_eq X dX12_latestOf_56 (by decide) rfl) ?_
  refine zz_cons (k' := 58) rfl (zz_Ok_none _ _) ?_
  refine zz_cons (k' := 59) rfl (zz_Ok_none _ _) ?_
  refine zz_cons (k' := 60) rfl (zk_iload_n X dX12_latestOf_59 rfl rfl) ?_
  refine zz_cons (k' := 61) rfl (zk_goto X dX12_latestOf_60 (by decide)) ?_
  refine zz_cons (k' := 62) rfl (zz_Ok_none _ _) ?_
  refine zz_cons (k' := 63) rfl (zz_Ok_none _ _) ?_
  refine zz_cons (k' := 64) rfl (zk_iload_n X dX12_latestOf_63 rfl rfl) ?_
  refine zz_cons (k' := 65) rfl (zk_istore_n X dX12_latestOf_64 rfl (by decide) rfl) ?_
  refine zz_cons (k' := 66) rfl (zk_iinc X dX12_latestOf_65 (by decide) (by decide) rfl) ?_
  refine zz_cons (k' := 67) rfl (zz_Ok_none _ _) ?_
  refine zz_cons (k' := 68) rfl (zz_Ok_none _ _) ?_
  refine zz_cons (k' := 69) rfl (zk_goto X dX12_latestOf_68 (by decide)) ?_
  refine zz_cons (k' := 70) rfl (zz_Ok_none _ _) ?_
  refine zz_cons (k' := 71) rfl (zz_Ok_none _ _) ?_
  refine zz_cons (k' := 72) rfl (zk_iload_n X dX12_latestOf_71 rfl rfl) ?_
  refine zz_cons (k' := 73) rfl (zk_iret X rfl dX12_latestOf_72) ?_
  exact trivial
noncomputable def tX12_running : List zzOp := [
  zo_aload 0 1,
  zo_iload 1 2,
  zo_pushI 0 3,
  zo_callv zzSR (zz_cl [(10, fX12_asksOf)]) 2 6,
  zo_none,
  zo_none,
  zo_if (fun x => decide (¬ x = 0)) 11 9,
  zo_none,
  zo_none,
  zo_pushI 0 10,
  zo_iret false,
  zo_aload 0 12,
  zo_iload 1 13,
  zo_callv zzSR (zz_cl [(10, fX12_latestOf)]) 1 16,
  zo_none,
  zo_none,
  zo_istore 3 17,
  zo_pushI 0 18,
  zo_istore 4 20,
  zo_none,
  zo_pushI 0 21,
  zo_istore 5 23,
  zo_none,
  zo_iload 5 25,
  zo_none,
  zo_aload 0 26,
  zo_getf zzSR (zz_kf [10] 5) 29,
  zo_none,
  zo_none,
  zo_icmp (fun x y => decide (y ≤ x)) 137 32,
  zo_none,
  zo_none,
  zo_aload 0 33,
  zo_aload 0 34,
  zo_getf zzSR (zz_kf [10] 7) 37,
  zo_none,
  zo_none,
  zo_iload 5 39,
  zo_none,
  zo_lald zzSR 40,
  zo_callv zzSR (zz_cl [(10, fX12_ownerIn)]) 1 43,
  zo_none,
  zo_none,
  zo_istore 6 45,
  zo_none,
  zo_aload 0 46,
  zo_getf zzSR (zz_kf [10] 6) 49,
  zo_none,
  zo_none,
  zo_iload 5 51,
  zo_none,
  zo_iald zzSR zzSTR 52,
  zo_pushI 2 53,
  zo_icmp (fun x y => decide (¬ x = y)) 93 56,
  zo_none,
  zo_none,
  zo_aload 0 57,
  zo_aload 0 58,
  zo_getf zzSR (zz_kf [10] 7) 61,
  zo_none,
  zo_none,
  zo_iload 5 63,
  zo_none,
  zo_lald zzSR 64,
  zo_pushI 13 66,
  zo_none,
  zo_callv zzSR (zz_cl [(10, fX12_get)]) 2 69,
  zo_none,
  zo_none,
  zo_if (fun x => decide (¬ x = 0)) 93 72,
  zo_none,
  zo_none,
  zo_aload 0 73,
  zo_aload 0 74,
  zo_getf zzSR (zz_kf [10] 7) 77,
  zo_none,
  zo_none,
  zo_iload 5 79,
  zo_none,
  zo_lald zzSR 80,
  zo_pushI 16 82,
  zo_none,
  zo_callv zzSR (zz_cl [(10, fX12_get)]) 2 85,
  zo_none,
  zo_none,
  zo_pushI 1 86,
  zo_icmp (fun x y => decide (¬ x = y)) 93 89,
  zo_none,
  zo_none,
  zo_pushI 1 90,
  zo_goto 94,
  zo_none,
  zo_none,
  zo_pushI 0 94,
  zo_istore 7 96,
  zo_none,
  zo_iload 4 98,
  zo_none,
  zo_iload 7 100,
  zo_none,
  zo_if (fun x => decide (x = 0)) 127 103,
  zo_none,
  zo_none,
  zo_aload 0 104,
  zo_iload 6 106,
  zo_none,
  zo_iload 1 107,
  zo_callv zzSR (zz_cl [(10, fX12_isSetOf)]) 2 110,
  zo_none,
  zo_none,
  zo_if (fun x => decide (x = 0)) 127 113,
  zo_none,
  zo_none,
  zo_iload 2 114,
  zo_if (fun x => decide (x = 0)) 123 117,
  zo_none,
  zo_none,
  zo_iload 6 119,
  zo_none,
  zo_iload 3 120,
  zo_icmp (fun x y => decide (¬ x = y)) 127 123,
  zo_none,
  zo_none,
  zo_pushI 1 124,
  zo_goto 128,
  zo_none,
  zo_none,
  zo_pushI 0 128,
  zo_ii (fun x y => x + y) 129,
  zo_istore 4 131,
  zo_none,
  zo_iinc 5 1 134,
  zo_none,
  zo_none,
  zo_goto 23,
  zo_none,
  zo_none,
  zo_iload 4 139,
  zo_none,
  zo_iret false]
set_option maxRecDepth 100000 in
theorem tl_X12_running : ∀ pc, zz_Tl (tX12_running.getD pc zo_none) := by
  refine zz_Tl_mem ?_
  unfold tX12_running
  refine List.forall_mem_cons.mpr ⟨(zo_aload_tl _ _), ?_⟩
  refine List.forall_mem_cons.mpr ⟨(zo_iload_tl _ _), ?_⟩
  refine List.forall_mem_cons.mpr ⟨(zo_pushI_tl _ _), ?_⟩
  refine List.forall_mem_cons.mpr ⟨(zo_callv_tl _ _ _ _), ?_⟩
  refine List.forall_mem_cons.mpr ⟨zo_none_tl, ?_⟩
  refine List.forall_mem_cons.mpr ⟨zo_none_tl, ?_⟩
  refine List.forall_mem_cons.mpr ⟨(zo_if_tl _ _ _), ?_⟩
  refine List.forall_mem_cons.mpr ⟨zo_none_tl, ?_⟩
  refine List.forall_mem_cons.mpr ⟨zo_none_tl, ?_⟩
  refine List.forall_mem_cons.mpr ⟨(zo_pushI_tl _ _), ?_⟩
  refine List.forall_mem_cons.mpr ⟨(zo_iret_tl _), ?_⟩
  refine List.forall_mem_cons.mpr ⟨(zo_aload_tl _ _), ?_⟩
  refine List.forall_mem_cons.mpr ⟨(zo_iload_tl _ _), ?_⟩
  refine List.forall_mem_cons.mpr ⟨(zo_callv_tl _ _ _ _), ?_⟩
  refine List.forall_mem_cons.mpr ⟨zo_none_tl, ?_⟩
  refine List.forall_mem_cons.mpr ⟨zo_none_tl, ?_⟩
  refine List.forall_mem_cons.mpr ⟨(zo_istore_tl _ _), ?_⟩
  refine List.forall_mem_cons.mpr ⟨(zo_pushI_tl _ _), ?_⟩
  refine List.forall_mem_cons.mpr ⟨(zo_istore_tl _ _), ?_⟩
  refine List.forall_mem_cons.mpr ⟨zo_none_tl, ?_⟩
  refine List.forall_mem_cons.mpr ⟨(zo_pushI_tl _ _), ?_⟩
  refine List.forall_mem_cons.mpr ⟨(zo_istore_tl _ _), ?_⟩
  refine List.forall_mem_cons.mpr ⟨zo_none_tl, ?_⟩
  refine List.forall_mem_cons.mpr ⟨(zo_iload_tl _ _), ?_⟩
  refine List.forall_mem_cons.mpr ⟨zo_none_tl, ?_⟩
  refine List.forall_mem_cons.mpr ⟨(zo_aload_tl _ _), ?_⟩
  refine List.forall_mem_cons.mpr ⟨(zo_getf_tl _ _ _), ?_⟩
  refine List.forall_mem_cons.mpr ⟨zo_none_tl, ?_⟩
  refine List.forall_mem_cons.mpr ⟨zo_none_tl, ?_⟩
  refine List.forall_mem_cons.mpr ⟨(zo_icmp_tl _ _ _), ?_⟩
  refine List.forall_mem_cons.mpr ⟨zo_none_tl, ?_⟩
  refine List.forall_mem_cons.mpr ⟨zo_none_tl, ?_⟩
  refine List.forall_mem_cons.mpr ⟨(zo_aload_tl _ _), ?_⟩
  refine List.forall_mem_cons.mpr ⟨(zo_aload_tl _ _), ?_⟩
  refine List.forall_mem_cons.mpr ⟨(zo_getf_tl _ _ _), ?_⟩
  refine List.forall_mem_cons.mpr ⟨zo_none_tl, ?_⟩
  refine List.forall_mem_cons.mpr ⟨zo_none_tl, ?_⟩
  refine List.forall_mem_cons.mpr ⟨(zo_iload_tl _ _), ?_⟩
  refine List.forall_mem_cons.mpr ⟨zo_none_tl, ?_⟩
  refine List.forall_mem_cons.mpr ⟨(zo_lald_tl _ _), ?_⟩
  refine List.forall_mem_cons.mpr ⟨(zo_callv_tl _ _ _ _), ?_⟩
  refine List.forall_mem_cons.mpr ⟨zo_none_tl, ?_⟩
  refine List.forall_mem_cons.mpr ⟨zo_none_tl, ?_⟩
  refine List.forall_mem_cons.mpr ⟨(zo_istore_tl _ _), ?_⟩
  refine List.forall_mem_cons.mpr ⟨zo_none_tl, ?_⟩
  refine List.forall_mem_cons.mpr ⟨(zo_aload_tl _ _), ?_⟩
  refine List.forall_mem_cons.mpr ⟨(zo_getf_tl _ _ _), ?_⟩
  refine List.forall_mem_cons.mpr ⟨zo_none_tl, ?_⟩
  refine List.forall_mem_cons.mpr ⟨zo_none_tl, ?_⟩
  refine List.forall_mem_cons.mpr ⟨(zo_iload_tl _ _), ?_⟩
  refine List.forall_mem_cons.mpr ⟨zo_none_tl, ?_⟩
  refine List.forall_mem_cons.mpr ⟨(zo_iald_tl _ _ _), ?_⟩
  refine List.forall_mem_cons.mpr ⟨(zo_pushI_tl _ _), ?_⟩
  refine List.forall_mem_cons.mpr ⟨(zo_icmp_tl _ _ _), ?_⟩
  refine List.forall_mem_cons.mpr ⟨zo_none_tl, ?_⟩
  refine List.forall_mem_cons.mpr ⟨zo_none_tl, ?_⟩
  refine List.forall_mem_cons.mpr ⟨(zo_aload_tl _ _), ?_⟩
  refine List.forall_mem_cons.mpr ⟨(zo_aload_tl _ _), ?_⟩
  refine List.forall_mem_cons.mpr ⟨(zo_getf_tl _ _ _), ?_⟩
  refine List.forall_mem_cons.mpr ⟨zo_none_tl, ?_⟩
  refine List.forall_mem_cons.mpr ⟨zo_none_tl, ?_⟩
  refine List.forall_mem_cons.mpr ⟨(zo_iload_tl _ _), ?_⟩
  refine List.forall_mem_cons.mpr ⟨zo_none_tl, ?_⟩
  refine List.forall_mem_cons.mpr ⟨(zo_lald_tl _ _), ?_⟩
  refine List.forall_mem_cons.mpr ⟨(zo_pushI_tl _ _), ?_⟩
  refine List.forall_mem_cons.mpr ⟨zo_none_tl, ?_⟩
  refine List.forall_mem_cons.mpr ⟨(zo_callv_tl _ _ _ _), ?_⟩
  refine List.forall_mem_cons.mpr ⟨zo_none_tl, ?_⟩
  refine List.forall_mem_cons.mpr ⟨zo_none_tl, ?_⟩
  refine List.forall_mem_cons.mpr ⟨(zo_if_tl _ _ _), ?_⟩
  refine List.forall_mem_cons.mpr ⟨zo_none_tl, ?_⟩
  refine List.forall_mem_cons.mpr ⟨zo_none_tl, ?_⟩
  refine List.forall_mem_cons.mpr ⟨(zo_aload_tl _ _), ?_⟩
  refine List.forall_mem_cons.mpr ⟨(zo_aload_tl _ _), ?_⟩
  refine List.forall_mem_cons.mpr ⟨(zo_getf_tl _ _ _), ?_⟩
  refine List.forall_mem_cons.mpr ⟨zo_none_tl, ?_⟩
  refine List.forall_mem_cons.mpr ⟨zo_none_tl, ?_⟩
  refine List.forall_mem_cons.mpr ⟨(zo_iload_tl _ _), ?_⟩
  refine List.forall_mem_cons.mpr ⟨zo_none_tl, ?_⟩
  refine List.forall_mem_cons.mpr ⟨(zo_lald_tl _ _), ?_⟩
  refine List.forall_mem_cons.mpr ⟨(zo_pushI_tl _ _), ?_⟩
  refine List.forall_mem_cons.mpr ⟨zo_none_tl, ?_⟩
  refine List.forall_mem_cons.mpr ⟨(zo_callv_tl _ _ _ _), ?_⟩
  refine List.forall_mem_cons.mpr ⟨zo_none_tl, ?_⟩
  refine List.forall_mem_cons.mpr ⟨zo_none_tl, ?_⟩
  refine List.forall_mem_cons.mpr ⟨(zo_pushI_tl _ _), ?_⟩
  refine List.forall_mem_cons.mpr ⟨(zo_icmp_tl _ _ _), ?_⟩
  refine List.forall_mem_cons.mpr ⟨zo_none_tl, ?_⟩
  refine List.forall_mem_cons.mpr ⟨zo_none_tl, ?_⟩
  refine List.forall_mem_cons.mpr ⟨(zo_pushI_tl _ _), ?_⟩
  refine List.forall_mem_cons.mpr ⟨(zo_goto_tl _), ?_⟩
  refine List.forall_mem_cons.mpr ⟨zo_none_tl, ?_⟩
  refine List.forall_mem_cons.mpr ⟨zo_none_tl, ?_⟩
  refine List.forall_mem_cons.mpr ⟨(zo_pushI_tl _ _), ?_⟩
  refine List.forall_mem_cons.mpr ⟨(zo_istore_tl _ _), ?_⟩
  refine List.forall_mem_cons.mpr ⟨zo_none_tl, ?_⟩
  refine List.forall_mem_cons.mpr ⟨(zo_iload_tl _ _), ?_⟩
  refine List.forall_mem_cons.mpr ⟨zo_none_tl, ?_⟩
  refine List.forall_mem_cons.mpr ⟨(zo_iload_tl _ _), ?_⟩
  refine List.forall_mem_cons.mpr ⟨zo_none_tl, ?_⟩
  refine List.forall_mem_cons.mpr ⟨(zo_if_tl _ _ _), ?_⟩
  refine List.forall_mem_cons.mpr ⟨zo_none_tl, ?_⟩
  refine List.forall_mem_cons.mpr ⟨zo_none_tl, ?_⟩
  refine List.forall_mem_cons.mpr ⟨(zo_aload_tl _ _), ?_⟩
  refine List.forall_mem_cons.mpr ⟨(zo_iload_tl _ _), ?_⟩
  refine List.forall_mem_cons.mpr ⟨zo_none_tl, ?_⟩
  refine List.forall_mem_cons.mpr ⟨(zo_iload_tl _ _), ?_⟩
  refine List.forall_mem_cons.mpr ⟨(zo_callv_tl _ _ _ _), ?_⟩
  refine List.forall_mem_cons.mpr ⟨zo_none_tl, ?_⟩
  refine List.forall_mem_cons.mpr ⟨zo_none_tl, ?_⟩
  refine List.forall_mem_cons.mpr ⟨(zo_if_tl _ _ _), ?_⟩
  refine List.forall_mem_cons.mpr ⟨zo_none_tl, ?_⟩
  refine List.forall_mem_cons.mpr ⟨zo_none_tl, ?_⟩
  refine List.forall_mem_cons.mpr ⟨(zo_iload_tl _ _), ?_⟩
  refine List.forall_mem_cons.mpr ⟨(zo_if_tl _ _ _), ?_⟩
  refine List.forall_mem_cons.mpr ⟨zo_none_tl, ?_⟩
  refine List.forall_mem_cons.mpr ⟨zo_none_tl, ?_⟩
  refine List.forall_mem_cons.mpr ⟨(zo_iload_tl _ _), ?_⟩
  refine List.forall_mem_cons.mpr ⟨zo_none_tl, ?_⟩
  refine List.forall_mem_cons.mpr ⟨(zo_iload_tl _ _), ?_⟩
  refine List.forall_mem_cons.mpr ⟨(zo_icmp_tl _ _ _), ?_⟩
  refine List.forall_mem_cons.mpr ⟨zo_none_tl, ?_⟩
  refine List.forall_mem_cons.mpr ⟨zo_none_tl, ?_⟩
  refine List.forall_mem_cons.mpr ⟨(zo_pushI_tl _ _), ?_⟩
  refine List.forall_mem_cons.mpr ⟨(zo_goto_tl _), ?_⟩
  refine List.forall_mem_cons.mpr ⟨zo_none_tl, ?_⟩
  refine List.forall_mem_cons.mpr ⟨zo_none_tl, ?_⟩
  refine List.forall_mem_cons.mpr ⟨(zo_pushI_tl _ _), ?_⟩
  refine List.forall_mem_cons.mpr ⟨(zo_ii_tl _ _), ?_⟩
  refine List.forall_mem_cons.mpr ⟨(zo_istore_tl _ _), ?_⟩
  refine List.forall_mem_cons.mpr ⟨zo_none_tl, ?_⟩
  refine List.forall_mem_cons.mpr ⟨(zo_iinc_tl _ _ _), ?_⟩
  refine List.forall_mem_cons.mpr ⟨zo_none_tl, ?_⟩
  refine List.forall_mem_cons.mpr ⟨zo_none_tl, ?_⟩
  refine List.forall_mem_cons.mpr ⟨(zo_goto_tl _), ?_⟩
  refine List.forall_mem_cons.mpr ⟨zo_none_tl, ?_⟩
  refine List.forall_mem_cons.mpr ⟨zo_none_tl, ?_⟩
  refine List.forall_mem_cons.mpr ⟨(zo_iload_tl _ _), ?_⟩
  refine List.forall_mem_cons.mpr ⟨zo_none_tl, ?_⟩
  refine List.forall_mem_cons.mpr ⟨(zo_iret_tl _), ?_⟩
  exact fun _ h => absurd h List.not_mem_nil
noncomputable def fX12_running : zzFn := zz_fn tX12_running 8
set_option maxRecDepth 100000 in
set_option maxHeartbeats 4000000 in
theorem mm_X12_running {l : Launch} {D : va_G} {cA : Nat → ClassId} {ad : Nat → Nat} {Ex : (Nat → Prop) → State → Heap → Prop} (Wd : zzWR l D cA ad Ex) : zz_Cn l D zzCl cA ad zzSR Ex yX12_running cX12_running 8 (some .int) 4 91 fX12_running ∧ zz_Cx l D zzCl cA ad zzSR Ex yX12_running cX12_running 8 (some .int) 4 91 fX12_running := by
  refine zz_meth (plainFor_of_name (by decide)) Wd.1 Wd.2.1 Wd.2.2 (fun p e R s m args below meth c rr X => ?_)
  unfold tX12_running
  refine zz_cons (k' := 1) rfl (zk_aload_n X dX12_running_0 rfl rfl) ?_
  refine zz_cons (k' := 2) rfl (zk_iload_n X dX12_running_1 rfl rfl) ?_
  refine zz_cons (k' := 3) rfl (zk_iconst X dX12_running_2 (by decide) rfl) ?_
  refine zz_cons (k' := 4) rfl (zk_callv X (zz_Cv_of (List.forall_mem_cons.mpr ⟨⟨(RX_10, zzT10, 50), yX12_asksOf, cX12_asksOf, 3, (some .boolean), 2, 43, rfl, kv_X12_413_10.1, (mm_X12_asksOf Wd).1, by decide, by decide⟩, (fun _ h => absurd h List.not_mem_nil)⟩)) dX12_running_3 rfl) ?_
  refine zz_cons (k' := 5) rfl (zz_Ok_none _ _) ?_
  refine zz_cons (k' := 6) rfl (zz_Ok_none _ _) ?_
  refine zz_cons (k' := 7) rfl (zk_if_ne X dX12_running_6 (by decide) rfl) ?_
  refine zz_cons (k' := 8) rfl (zz_Ok_none _ _) ?_
  refine zz_cons (k' := 9) rfl (zz_Ok_none _ _) ?_
  refine zz_cons (k' := 10) rfl (zk_iconst X dX12_running_9 (by decide) rfl) ?_
  refine zz_cons (k' := 11) rfl (zk_iret X rfl dX12_running_10) ?_
  refine zz_cons (k' := 12) rfl (zk_aload_n X dX12_running_11 rfl rfl) ?_
  refine zz_cons (k' := 13) rfl (zk_iload_n X dX12_running_12 rfl rfl) ?_
  refine zz_cons (k' := 14) rfl (zk_callv X (zz_Cv_of (List.forall_mem_cons.mpr ⟨⟨(RX_10, zzT10, 50), yX12_latestOf, cX12_latestOf, 5, (some .int), 3, 67, rfl, kv_X12_423_10.1, (mm_X12_latestOf Wd).1, by decide, by decide⟩, (fun _ h => absurd h List.not_mem_nil)⟩)) dX12_running_13 rfl) ?_
  refine zz_cons (k' := 15) rfl (zz_Ok_none _ _) ?_
  refine zz_cons (k' := 16) rfl (zz_Ok_none _ _) ?_
  refine zz_cons (k' := 17) rfl (zk_istore_n X dX12_running_16 rfl (by decide) rfl) ?_
  refine zz_cons (k' := 18) rfl (zk_iconst X dX12_running_17 (by decide) rfl) ?_
  refine zz_cons (k' := 19) rfl (zk_istore X dX12_running_18 (by decide) rfl) ?_
  refine zz_cons (k' := 20) rfl (zz_Ok_none _ _) ?_
  refine zz_cons (k' := 21) rfl (zk_iconst X dX12_running_20 (by decide) rfl) ?_
  refine zz_cons (k' := 22) rfl (zk_istore X dX12_running_21 (by decide) rfl) ?_
  refine zz_cons (k' := 23) rfl (zz_Ok_none _ _) ?_
  refine zz_cons (k' := 24) rfl (zk_iload X dX12_running_23 rfl) ?_
  refine zz_cons (k' := 25) rfl (zz_Ok_none _ _) ?_
  refine zz_cons (k' := 26) rfl (zk_aload_n X dX12_running_25 rfl rfl) ?_
  refine zz_cons (k' := 27) rfl (zk_getf X ff_X12_137 dX12_running_26 rfl) ?_
  refine zz_cons (k' := 28) rfl (zz_Ok_none _ _) ?_
  refine zz_cons (k' := 29) rfl (zz_Ok_none _ _) ?_
  refine zz_cons (k' := 30) rfl (zk_icmp_ge X dX12_running_29 (by decide) rfl) ?_
  refine zz_cons (k' := 31) rfl (zz_Ok_none _ _) ?_
  refine zz_cons (k' := 32) rfl (zz_Ok_none _ _) ?_
  refine zz_cons (k' := 33) rfl (zk_aload_n X dX12_running_32 rfl rfl) ?_
  refine zz_cons (k' := 34) rfl (zk_aload_n X dX12_running_33 rfl rfl) ?_
  refine zz_cons (k' := 35) rfl (zk_getf X ff_X12_28 dX12_running_34 rfl) ?_
  refine zz_cons (k' := 36) rfl (zz_Ok_none _ _) ?_
  refine zz_cons (k' := 37) rfl (zz_Ok_none _ _) ?_
  refine zz_cons (k' := 38) rfl (zk_iload X dX12_running_37 rfl) ?_
  refine zz_cons (k' := 39) rfl (zz_Ok_none _ _) ?_
  refine zz_cons (k' := 40) rfl (zk_lald X dX12_running_39 rfl) ?_
  refine zz_cons (k' := 41) rfl (zk_callv X (zz_Cv_of (List.forall_mem_cons.mpr ⟨⟨(RX_10, zzT10, 50), yX12_ownerIn, cX12_ownerIn, 3, (some .int), 1, 23, rfl, kv_X12_214_10.1, (mm_X12_ownerIn Wd).1, by decide, by decide⟩, (fun _ h => absurd h List.not_mem_nil)⟩)) dX12_running_40 rfl) ?_
  refine zz_cons (k' := 42) rfl (zz_Ok_none _ _) ?_
  refine zz_cons (k' := 43) rfl (zz_Ok_none _ _) ?_
  refine zz_cons (k' := 44) rfl (zk_istore X dX12_running_43 (by decide) rfl) ?_
  refine zz_cons (k' := 45) rfl (zz_Ok_none _ _) ?_
  refine zz_cons (k' := 46) rfl (zk_aload_n X dX12_running_45 rfl rfl) ?_
  refine zz_cons (k' := 47) rfl (zk_getf X ff_X12_25 dX12_running_46 rfl) ?_
  refine zz_cons (k' := 48) rfl (zz_Ok_none _ _) ?_
  refine zz_cons (k' := 49) rfl (zz_Ok_none _ _) ?_
  refine zz_cons (k' := 50) rfl (zk_iload X dX12_running_49 rfl) ?_
  refine zz_cons (k' := 51) rfl (zz_Ok_none _ _) ?_
  refine zz_cons (k' := 52) rfl (zk_iald X (zzWR_st Wd) dX12_running_51 rfl) ?_
  refine zz_cons (k' := 53) rfl (zk_iconst X dX12_running_52 (by decide) rfl) ?_
  refine zz_cons (k' := 54) rfl (zk_icmp_ne X dX12_running_53 (by decide) rfl) ?_
  refine zz_cons (k' := 55) rfl (zz_Ok_none _ _) ?_
  refine zz_cons (k' := 56) rfl (zz_Ok_none _ _) ?_
  refine zz_cons (k' := 57) rfl (zk_aload_n X dX12_running_56 rfl rfl) ?_
  refine zz_cons (k' := 58) rfl (zk_aload_n X dX12_running_57 rfl rfl) ?_
  refine zz_cons (k' := 59) rfl (zk_getf X ff_X12_28 dX12_running_58 rfl) ?_
  refine zz_cons (k' := 60) rfl (zz_Ok_none _ _) ?_
  refine zz_cons (k' := 61) rfl (zz_Ok_none _ _) ?_
  refine zz_cons (k' := 62) rfl (zk_iload X dX12_running_61 rfl) ?_
  refine zz_cons (k' := 63) rfl (zz_Ok_none _ _) ?_
  refine zz_cons (k' := 64) rfl (zk_lald X dX12_running_63 rfl) ?_
  refine zz_cons (k' := 65) rfl (zk_bipush X dX12_running_64 (by decide) rfl) ?_
  refine zz_cons (k' := 66) rfl (zz_Ok_none _ _) ?_
  refine zz_cons (k' := 67) rfl (zk_callv X (zz_Cv_of (List.forall_mem_cons.mpr ⟨⟨(RX_10, zzT10, 50), yX12_get, cX12_get, 4, (some .int), 0, 0, rfl, kv_X12_146_10.1, (mm_X12_get Wd).1, by decide, by decide⟩, (fun _ h => absurd h List.not_mem_nil)⟩)) dX12_running_66 rfl) ?_
  refine zz_cons (k' := 68) rfl (zz_Ok_none _ _) ?_
  refine zz_cons (k' := 69) rfl (zz_Ok_none _ _) ?_
  refine zz_cons (k' := 70) rfl (zk_if_ne X dX12_running_69 (by decide) rfl) ?_
  refine zz_cons (k' := 71) rfl (zz_Ok_none _ _) ?_
  refine zz_cons (k' := 72) rfl (zz_Ok_none _ _) ?_
  refine zz_cons (k' := 73) rfl (zk_aload_n X dX12_running_72 rfl rfl) ?_
  refine zz_cons (k' := 74) rfl (zk_aload_n X dX12_running_73 rfl rfl) ?_
  refine zz_cons (k' := 75) rfl (zk_getf X ff_X12_28 dX12_running_74 rfl) ?_
  refine zz_cons (k' := 76) rfl (zz_Ok_none _ _) ?_
  refine zz_cons (k' := 77) rfl (zz_Ok_none _ _) ?_
  refine zz_cons (k' := 78) rfl (zk_iload X dX12_running_77 rfl) ?_
  refine zz_cons (k' := 79) rfl (zz_Ok_none _ _) ?_
  refine zz_cons (k' := 80) rfl (zk_lald X dX12_running_79 rfl) ?_
  refine zz_cons (k' := 81) rfl (zk_bipush X dX12_running_80 (by decide) rfl) ?_
  refine zz_cons (k' := 82) rfl (zz_Ok_none _ _) ?_
  refine zz_cons (k' := 83) rfl (zk_callv X (zz_Cv_of (List.forall_mem_cons.mpr ⟨⟨(RX_10, zzT10, 50), yX12_get, cX12_get, 4, (some .int), 0, 0, rfl, kv_X12_146_10.1, (mm_X12_get Wd).1, by decide, by decide⟩, (fun _ h => absurd h List.not_mem_nil)⟩)) dX12_running_82 rfl) ?_
  refine zz_cons (k' := 84) rfl (zz_Ok_none _ _) ?_
  refine zz_cons (k' := 85) rfl (zz_Ok_none _ _) ?_
  refine zz_cons (k' := 86) rfl (zk_iconst X dX12_running_85 (by decide) rfl) ?_
  refine zz_cons (k' := 87) rfl (zk_icmp_ne X dX12_running_86 (by decide) rfl) ?_
  refine zz_cons (k' := 88) rfl (zz_Ok_none _ _) ?_
  refine zz_cons (k' := 89) rfl (zz_Ok_none _ _) ?_
  refine zz_cons (k' := 90) rfl (zk_iconst X dX12_running_89 (by decide) rfl) ?_
  refine zz_cons (k' := 91) rfl (zk_goto X dX12_running_90 (by decide)) ?_
  refine zz_cons (k' := 92) rfl (zz_Ok_none _ _) ?_
  refine zz_cons (k' := 93) rfl (zz_Ok_none _ _) ?_
  refine zz_cons (k' := 94) rfl (zk_iconst X dX12_running_93 (by decide) rfl) ?_
  refine zz_cons (k' := 95) rfl (zk_istore X dX12_running_94 (by decide) rfl) ?_
  refine zz_cons (k' := 96) rfl (zz_Ok_none _ _) ?_
  refine zz_cons (k' := 97) rfl (zk_iload X dX12_running_96 rfl) ?_
  refine zz_cons (k' := 98) rfl (zz_Ok_none _ _) ?_
  refine zz_cons (k' := 99) rfl (zk_iload X dX12_running_98 rfl) ?_
  refine zz_cons (k' := 100) rfl (zz_Ok_none _ _) ?_
  refine zz_cons (k' := 101) rfl (zk_if_eq X dX12_running_100 (by decide) rfl) ?_
  refine zz_cons (k' := 102) rfl (zz_Ok_none _ _) ?_
  refine zz_cons (k' := 103) rfl (zz_Ok_none _ _) ?_
  refine zz_cons (k' := 104) rfl (zk_aload_n X dX12_running_103 rfl rfl) ?_
  refine zz_cons (k' := 105) rfl (zk_iload X dX12_running_104 rfl) ?_
  refine zz_cons (k' := 106) rfl (zz_Ok_none _ _) ?_
  refine zz_cons (k' := 107) rfl (zk_iload_n X dX12_running_106 rfl rfl) ?_
  refine zz_cons (k' := 108) rfl (zk_callv X (zz_Cv_of (List.forall_mem_cons.mpr ⟨⟨(RX_10, zzT10, 50), yX12_isSetOf, cX12_isSetOf, 3, (some .boolean), 2, 45, rfl, kv_X12_420_10.1, (mm_X12_isSetOf Wd).1, by decide, by decide⟩, (fun _ h => absurd h List.not_mem_nil)⟩)) dX12_running_107 rfl) ?_
  refine zz_cons (k' := 109) rfl (zz_Ok_none _ _) ?_
  refine zz_cons (k' := 110) rfl (zz_Ok_none _ _) ?_
  refine zz_cons (k' := 111) rfl (zk_if_eq X dX12_running_110 (by decide) rfl) ?_
  refine zz_cons (k' := 112) rfl (zz_Ok_none _ _) ?_
  refine zz_cons (k' := 113) rfl (zz_Ok_none _ _) ?_
  refine zz_cons (k' := 114) rfl (zk_iload_n X dX12_running_113 rfl rfl) ?_
  refine zz_cons (k' := 115) rfl (zk_if_eq X dX12_running_114 (by decide) rfl) ?_
  refine zz_cons (k' := 116) rfl (zz_Ok_none _ _) ?_
  refine zz_cons (k' := 117) rfl (zz_Ok_none _ _) ?_
  refine zz_cons (k' := 118) rfl (zk_iload X dX12_running_117 rfl) ?_
  refine zz_cons (k' := 119) rfl (zz_Ok_none _ _) ?_
  refine zz_cons (k' := 120) rfl (zk_iload_n X dX12_running_119 rfl rfl) ?_
  refine zz_cons (k' := 121) rfl (zk_icmp_ne X dX12_running_120 (by decide) rfl) ?_
  refine zz_cons (k' := 122) rfl (zz_Ok_none _ _) ?_
  refine zz_cons (k' := 123) rfl (zz_Ok_none _ _) ?_
  refine zz_cons (k' := 124) rfl (zk_iconst X dX12_running_123 (by decide) rfl) ?_
  refine zz_cons (k' := 125) rfl (zk_goto X dX12_running_124 (by decide)) ?_
  refine zz_cons (k' := 126) rfl (zz_Ok_none _ _) ?_
  refine zz_cons (k' := 127) rfl (zz_Ok_none _ _) ?_
  refine zz_cons (k' := 128) rfl (zk_iconst X dX12_running_127 (by decide) rfl) ?_
  refine zz_cons (k' := 129) rfl (zk_iadd X dX12_running_128 rfl) ?_
  refine zz_cons (k' := 130) rfl (zk_istore X dX12_running_129 (by decide) rfl) ?_
  refine zz_cons (k' := 131) rfl (zz_Ok_none _ _) ?_
  refine zz_cons (k' := 132) rfl (zk_iinc X dX12_running_131 (by decide) (by decide) rfl) ?_
  refine zz_cons (k' := 133) rfl (zz_Ok_none _ _) ?_
  refine zz_cons (k' := 134) rfl (zz_Ok_none _ _) ?_
  refine zz_cons (k' := 135) rfl (zk_goto X dX12_running_134 (by decide)) ?_
  refine zz_cons (k' := 136) rfl (zz_Ok_none _ _) ?_
  refine zz_cons (k' := 137) rfl (zz_Ok_none _ _) ?_
  refine zz_cons (k' := 138) rfl (zk_iload X dX12_running_137 rfl) ?_
  refine zz_cons (k' := 139) rfl (zz_Ok_none _ _) ?_
  refine zz_cons (k' := 140) rfl (zk_iret X rfl dX12_running_139) ?_
  exact trivial
noncomputable def tX12_objectOf : List zzOp := [
  zo_aload 0 1,
  zo_iload 1 2,
  zo_pushI 1 3,
  zo_aload 0 4,
  zo_getf zzSR (zz_kf [10] 14) 7,
  zo_none,
  zo_none,
  zo_calls fX12_isIn 3 10,
  zo_none,
  zo_none,
  zo_if (fun x => decide (x = 0)) 17 13,
  zo_none,
  zo_none,
  zo_pushI 0 14,
  zo_goto 18,
  zo_none,
  zo_none,
  zo_pushI 1 18,
  zo_callv zzSR (zz_cl [(10, fX12_goes)]) 1 21,
  zo_none,
  zo_none,
  zo_if (fun x => decide (x = 0)) 33 24,
  zo_none,
  zo_none,
  zo_aload 0 25,
  zo_getf zzSR (zz_kf [10] 16) 28,
  zo_none,
  zo_none,
  zo_iload 1 29,
  zo_iald zzSR zzSTR 30,
  zo_goto 34,
  zo_none,
  zo_none,
  zo_pushI 0 34,
  zo_iret false]
set_option maxRecDepth 100000 in
theorem tl_X12_objectOf : ∀ pc, zz_Tl (tX12_objectOf.getD pc zo_none) := by
  refine zz_Tl_mem ?_
  unfold tX12_objectOf
  refine List.forall_mem_cons.mpr ⟨(zo_aload_tl _ _), ?_⟩
  refine List.forall_mem_cons.mpr ⟨(zo_iload_tl _ _), ?_⟩
  refine List.forall_mem_cons.mpr ⟨(zo_pushI_tl _ _), ?_⟩
  refine List.forall_mem_cons.mpr ⟨(zo_aload_tl _ _), ?_⟩
  refine List.forall_mem_cons.mpr ⟨(zo_getf_tl _ _ _), ?_⟩
  refine List.forall_mem_cons.mpr ⟨zo_none_tl, ?_⟩
  refine List.forall_mem_cons.mpr ⟨zo_none_tl, ?_⟩
  refine List.forall_mem_cons.mpr ⟨(zo_calls_tl _ _ _), ?_⟩
  refine List.forall_mem_cons.mpr ⟨zo_none_tl, ?_⟩
  refine List.forall_mem_cons.mpr ⟨zo_none_tl, ?_⟩
  refine List.forall_mem_cons.mpr ⟨(zo_if_tl _ _ _), ?_⟩
  refine List.forall_mem_cons.mpr ⟨zo_none_tl, ?_⟩
  refine List.forall_mem_cons.mpr ⟨zo_none_tl, ?_⟩
  refine List.forall_mem_cons.mpr ⟨(zo_pushI_tl _ _), ?_⟩
  refine List.forall_mem_cons.mpr ⟨(zo_goto_tl _), ?_⟩
  refine List.forall_mem_cons.mpr ⟨zo_none_tl, ?_⟩
  refine List.forall_mem_cons.mpr ⟨zo_none_tl, ?_⟩
  refine List.forall_mem_cons.mpr ⟨(zo_pushI_tl _ _), ?_⟩
  refine List.forall_mem_cons.mpr ⟨(zo_callv_tl _ _ _ _), ?_⟩
  refine List.forall_mem_cons.mpr ⟨zo_none_tl, ?_⟩
  refine List.forall_mem_cons.mpr ⟨zo_none_tl, ?_⟩
  refine List.forall_mem_cons.mpr ⟨(zo_if_tl _ _ _), ?_⟩
  refine List.forall_mem_cons.mpr ⟨zo_none_tl, ?_⟩
  refine List.forall_mem_cons.mpr ⟨zo_none_tl, ?_⟩
  refine List.forall_mem_cons.mpr ⟨(zo_aload_tl _ _), ?_⟩
  refine List.forall_mem_cons.mpr ⟨(zo_getf_tl _ _ _), ?_⟩
  refine List.forall_mem_cons.mpr ⟨zo_none_tl, ?_⟩
  refine List.forall_mem_cons.mpr ⟨zo_none_tl, ?_⟩
  refine List.forall_mem_cons.mpr ⟨(zo_iload_tl _ _), ?_⟩
  refine List.forall_mem_cons.mpr ⟨(zo_iald_tl _ _ _), ?_⟩
  refine List.forall_mem_cons.mpr ⟨(zo_goto_tl _), ?_⟩
  refine List.forall_mem_cons.mpr ⟨zo_none_tl, ?_⟩
  refine List.forall_mem_cons.mpr ⟨zo_none_tl, ?_⟩
  refine List.forall_mem_cons.mpr ⟨(zo_pushI_tl _ _), ?_⟩
  refine List.forall_mem_cons.mpr ⟨(zo_iret_tl _), ?_⟩
  exact fun _ h => absurd h List.not_mem_nil
noncomputable def fX12_objectOf : zzFn := zz_fn tX12_objectOf 2
set_option maxRecDepth 100000 in
set_option maxHeartbeats 4000000 in
theorem mm_X12_objectOf {l : Launch} {D : va_G} {cA : Nat → ClassId} {ad : Nat → Nat} {Ex : (Nat → Prop) → State → Heap → Prop} (Wd : zzWR l D cA ad Ex) : zz_Cn l D zzCl cA ad zzSR Ex yX12_objectOf cX12_objectOf 2 (some .int) 1 22 fX12_objectOf ∧ zz_Cx l D zzCl cA ad zzSR Ex yX12_objectOf cX12_objectOf 2 (some .int) 1 22 fX12_objectOf := by
  refine zz_meth (plainFor_of_name (by decide)) Wd.1 Wd.2.1 Wd.2.2 (fun p e R s m args below meth c rr X => ?_)
  unfold tX12_objectOf
  refine zz_cons (k' := 1) rfl (zk_aload_n X dX12_objectOf_0 rfl rfl) ?_
  refine zz_cons (k' := 2) rfl (zk_iload_n X dX12_objectOf_1 rfl rfl) ?_
  refine zz_cons (k' := 3) rfl (zk_iconst X dX12_objectOf_2 (by decide) rfl) ?_
  refine zz_cons (k' := 4) rfl (zk_aload_n X dX12_objectOf_3 rfl rfl) ?_
  refine zz_cons (k' := 5) rfl (zk_getf X ff_X12_154 dX12_objectOf_4 rfl) ?_
  refine zz_cons (k' := 6) rfl (zz_Ok_none _ _) ?_
  refine zz_cons (k' := 7) rfl (zz_Ok_none _ _) ?_
  refine zz_cons (k' := 8) rfl (zk_calls X ks_X12_140 (mm_X12_isIn Wd).1 (by decide) dX12_objectOf_7 rfl) ?_
  refine zz_cons (k' := 9) rfl (zz_Ok_none _ _) ?_
  refine zz_cons (k' := 10) rfl (zz_Ok_none _ _) ?_
  refine zz_cons (k' := 11) rfl (zk_if_eq X dX12_objectOf_10 (by decide) rfl) ?_
  refine zz_cons (k' := 12) rfl (zz_Ok_none _ _) ?_
  refine zz_cons (k' := 13) rfl (zz_Ok_none _ _) ?_
  refine zz_cons (k' := 14) rfl (zk_iconst X dX12_objectOf_13 (by decide) rfl) ?_
  refine zz_cons (k' := 15) rfl (zk_goto X dX12_objectOf_14 (by decide)) ?_
  refine zz_cons (k' := 16) rfl (zz_Ok_none _ _) ?_
  refine zz_cons (k' := 17) rfl (zz_Ok_none _ _) ?_
  refine zz_cons (k' := 18) rfl (zk_iconst X dX12_objectOf_17 (by decide) rfl) ?_
  refine zz_cons (k' := 19) rfl (zk_callv X (zz_Cv_of (List.forall_mem_cons.mpr ⟨⟨(RX_10, zzT10, 50), yX12_goes, cX12_goes, 2, (some .boolean), 0, 0, rfl, kv_X12_374_10.1, (mm_X12_goes Wd).1, by decide, by decide⟩, (fun _ h => absurd h List.not_mem_nil)⟩)) dX12_objectOf_18 rfl) ?_
  refine zz_cons (k' := 20) rfl (zz_Ok_none _ _) ?_
  refine zz_cons (k' := 21) rfl (zz_Ok_none _ _) ?_
  refine zz_cons (k' := 22) rfl (zk_if_eq X dX12_objectOf_21 (by decide) rfl) ?_
  refine zz_cons (k' := 23) rfl (zz_Ok_none _ _) ?_
  refine zz_cons (k' := 24) rfl (zz_Ok_none _ _) ?_
  refine zz_cons (k' := 25) rfl (zk_aload_n X dX12_objectOf_24 rfl rfl) ?_
  refine zz_cons (k' := 26) rfl (zk_getf X ff_X12_50 dX12_objectOf_25 rfl) ?_
  refine zz_cons (k' := 27) rfl (zz_Ok_none _ _) ?_
  refine zz_cons (k' := 28) rfl (zz_Ok_none _ _) ?_
  refine zz_cons (k' := 29) rfl (zk_iload_n X dX12_objectOf_28 rfl rfl) ?_
  refine zz_cons (k' := 30) rfl (zk_iald X (zzWR_st Wd) dX12_objectOf_29 rfl) ?_
  refine zz_cons (k' := 31) rfl (zk_goto X dX12_objectOf_30 (by decide)) ?_
  refine zz_cons (k' := 32) rfl (zz_Ok_none _ _) ?_
  refine zz_cons (k' := 33) rfl (zz_Ok_none _ _) ?_
  refine zz_cons (k' := 34) rfl (zk_iconst X dX12_objectOf_33 (by decide) rfl) ?_
  refine zz_cons (k' := 35) rfl (zk_iret X rfl dX12_objectOf_34) ?_
  exact trivial
end

section
noncomputable def tX11_isKind : List zzOp := [
  zo_iload 0 1,
  zo_if (fun x => decide (x < 0)) 14 4,
  zo_none,
  zo_none,
  zo_iload 0 5,
  zo_pushI 6 7,
  zo_none,
  zo_icmp (fun x y => decide (y ≤ x)) 14 10,
  zo_none,
  zo_none,
  zo_pushI 1 11,
  zo_goto 15,
  zo_none,
  zo_none,
  zo_pushI 0 15,
  zo_iret true]
set_option maxRecDepth 100000 in
theorem tl_X11_isKind : ∀ pc, zz_Tl (tX11_isKind.getD pc zo_none) := by
  refine zz_Tl_mem ?_
  unfold tX11_isKind
  refine List.forall_mem_cons.mpr ⟨(zo_iload_tl _ _), ?_⟩
  refine List.forall_mem_cons.mpr ⟨(zo_if_tl _ _ _), ?_⟩
  refine List.forall_mem_cons.mpr ⟨zo_none_tl, ?_⟩
  refine List.forall_mem_cons.mpr ⟨zo_none_tl, ?_⟩
  refine List.forall_mem_cons.mpr ⟨(zo_iload_tl _ _), ?_⟩
  refine List.forall_mem_cons.mpr ⟨(zo_pushI_tl _ _), ?_⟩
  refine List.forall_mem_cons.mpr ⟨zo_none_tl, ?_⟩
  refine List.forall_mem_cons.mpr ⟨(zo_icmp_tl _ _ _), ?_⟩
  refine List.forall_mem_cons.mpr ⟨zo_none_tl, ?_⟩
  refine List.forall_mem_cons.mpr ⟨zo_none_tl, ?_⟩
  refine List.forall_mem_cons.mpr ⟨(zo_pushI_tl _ _), ?_⟩
  refine List.forall_mem_cons.mpr ⟨(zo_goto_tl _), ?_⟩
  refine List.forall_mem_cons.mpr ⟨zo_none_tl, ?_⟩
  refine List.forall_mem_cons.mpr ⟨zo_none_tl, ?_⟩
  refine List.forall_mem_cons.mpr ⟨(zo_pushI_tl _ _), ?_⟩
  refine List.forall_mem_cons.mpr ⟨(zo_iret_tl _), ?_⟩
  exact fun _ h => absurd h List.not_mem_nil
noncomputable def fX11_isKind : zzFn := zz_fn tX11_isKind 1
set_option maxRecDepth 100000 in
set_option maxHeartbeats 4000000 in
theorem mm_X11_isKind {l : Launch} {D : va_G} {cA : Nat → ClassId} {ad : Nat → Nat} {Ex : (Nat → Prop) → State → Heap → Prop} (Wd : zzWC l D cA ad Ex) : zz_Cn l D zzCl cA ad zzSC Ex yX11_isKind cX11_isKind 1 (some .boolean) 0 0 fX11_isKind ∧ zz_Cx l D zzCl cA ad zzSC Ex yX11_isKind cX11_isKind 1 (some .boolean) 0 0 fX11_isKind := by
  refine zz_meth (plainFor_of_name (by decide)) Wd.1 Wd.2.1 Wd.2.2.1 (fun p e R s m args below meth c rr X => ?_)
  unfold tX11_isKind
  refine zz_cons (k' := 1) rfl (zk_iload_n X dX11_isKind_0 rfl rfl) ?_
  refine zz_cons (k' := 2) rfl (zk_if_lt X dX11_isKind_1 (by decide) rfl) ?_
  refine zz_cons (k' := 3) rfl (zz_Ok_none _ _) ?_
  refine zz_cons (k' := 4) rfl (zz_Ok_none _ _) ?_
  refine zz_cons (k' := 5) rfl (zk_iload_n X dX11_isKind_4 rfl rfl) ?_
  refine zz_cons (k' := 6) rfl (zk_bipush X dX11_isKind_5 (by decide) rfl) ?_
  refine zz_cons (k' := 7) rfl (zz_Ok_none _ _) ?_
  refine zz_cons (k' := 8) rfl (zk_icmp_ge X dX11_isKind_7 (by decide) rfl) ?_
  refine zz_cons (k' := 9) rfl (zz_Ok_none _ _) ?_
  refine zz_cons (k' := 10) rfl (zz_Ok_none _ _) ?_
  refine zz_cons (k' := 11) rfl (zk_iconst X dX11_isKind_10 (by decide) rfl) ?_
  refine zz_cons (k' := 12) rfl (zk_goto X dX11_isKind_11 (by decide)) ?_
  refine zz_cons (k' := 13) rfl (zz_Ok_none _ _) ?_
  refine zz_cons (k' := 14) rfl (zz_Ok_none _ _) ?_
  refine zz_cons (k' := 15) rfl (zk_iconst X dX11_isKind_14 (by decide) rfl) ?_
  refine zz_cons (k' := 16) rfl (zk_iret X rfl dX11_isKind_15) ?_
  exact trivial
noncomputable def tX11_hasField : List zzOp := [
  zo_iload 0 1,
  zo_calls fX11_isKind 1 4,
  zo_none,
  zo_none,
  zo_if (fun x => decide (x = 0)) 34 7,
  zo_none,
  zo_none,
  zo_iload 1 8,
  zo_if (fun x => decide (x < 0)) 34 11,
  zo_none,
  zo_none,
  zo_iload 1 12,
  zo_pushI 11 14,
  zo_none,
  zo_icmp (fun x y => decide (y ≤ x)) 34 17,
  zo_none,
  zo_none,
  zo_gets 1003 20,
  zo_none,
  zo_none,
  zo_iload 0 21,
  zo_iald zzSC zzSTC 22,
  zo_iload 1 23,
  zo_ii (fun x y => x >>> (y &&& 31)) 24,
  zo_pushI 1 25,
  zo_ii (fun x y => x &&& y) 26,
  zo_pushI 1 27,
  zo_icmp (fun x y => decide (¬ x = y)) 34 30,
  zo_none,
  zo_none,
  zo_pushI 1 31,
  zo_goto 35,
  zo_none,
  zo_none,
  zo_pushI 0 35,
  zo_iret true]
set_option maxRecDepth 100000 in
theorem tl_X11_hasField : ∀ pc, zz_Tl (tX11_hasField.getD pc zo_none) := by
  refine zz_Tl_mem ?_
  unfold tX11_hasField
  refine List.forall_mem_cons.mpr ⟨(zo_iload_tl _ _), ?_⟩
  refine List.forall_mem_cons.mpr ⟨(zo_calls_tl _ _ _), ?_⟩
  refine List.forall_mem_cons.mpr ⟨zo_none_tl, ?_⟩
  refine List.forall_mem_cons.mpr ⟨zo_none_tl, ?_⟩
  refine List.forall_mem_cons.mpr ⟨(zo_if_tl _ _ _), ?_⟩
  refine List.forall_mem_cons.mpr ⟨zo_none_tl, ?_⟩
  refine List.forall_mem_cons.mpr ⟨zo_none_tl, ?_⟩
  refine List.forall_mem_cons.mpr ⟨(zo_iload_tl _ _), ?_⟩
  refine List.forall_mem_cons.mpr ⟨(zo_if_tl _ _ _), ?_⟩
  refine List.forall_mem_cons.mpr ⟨zo_none_tl, ?_⟩
  refine List.forall_mem_cons.mpr ⟨zo_none_tl, ?_⟩
  refine List.forall_mem_cons.mpr ⟨(zo_iload_tl _ _), ?_⟩
  refine List.forall_mem_cons.mpr ⟨(zo_pushI_tl _ _), ?_⟩
  refine List.forall_mem_cons.mpr ⟨zo_none_tl, ?_⟩
  refine List.forall_mem_cons.mpr ⟨(zo_icmp_tl _ _ _), ?_⟩
  refine List.forall_mem_cons.mpr ⟨zo_none_tl, ?_⟩
  refine List.forall_mem_cons.mpr ⟨zo_none_tl, ?_⟩
  refine List.forall_mem_cons.mpr ⟨(zo_gets_tl _ _), ?_⟩
  refine List.forall_mem_cons.mpr ⟨zo_none_tl, ?_⟩
  refine List.forall_mem_cons.mpr ⟨zo_none_tl, ?_⟩
  refine List.forall_mem_cons.mpr ⟨(zo_iload_tl _ _), ?_⟩
  refine List.forall_mem_cons.mpr ⟨(zo_iald_tl _ _ _), ?_⟩
  refine List.forall_mem_cons.mpr ⟨(zo_iload_tl _ _), ?_⟩
  refine List.forall_mem_cons.mpr ⟨(zo_ii_tl _ _), ?_⟩
  refine List.forall_mem_cons.mpr ⟨(zo_pushI_tl _ _), ?_⟩
  refine List.forall_mem_cons.mpr ⟨(zo_ii_tl _ _), ?_⟩
  refine List.forall_mem_cons.mpr ⟨(zo_pushI_tl _ _), ?_⟩
  refine List.forall_mem_cons.mpr ⟨(zo_icmp_tl _ _ _), ?_⟩
  refine List.forall_mem_cons.mpr ⟨zo_none_tl, ?_⟩
  refine List.forall_mem_cons.mpr ⟨zo_none_tl, ?_⟩
  refine List.forall_mem_cons.mpr ⟨(zo_pushI_tl _ _), ?_⟩
  refine List.forall_mem_cons.mpr ⟨(zo_goto_tl _), ?_⟩
  refine List.forall_mem_cons.mpr ⟨zo_none_tl, ?_⟩
  refine List.forall_mem_cons.mpr ⟨zo_none_tl, ?_⟩
  refine List.forall_mem_cons.mpr ⟨(zo_pushI_tl _ _), ?_⟩
  refine List.forall_mem_cons.mpr ⟨(zo_iret_tl _), ?_⟩
  exact fun _ h => absurd h List.not_mem_nil
noncomputable def fX11_hasField : zzFn := zz_fn tX11_hasField 2
set_option maxRecDepth 100000 in
set_option maxHeartbeats 4000000 in
theorem mm_X11_hasField {l : Launch} {D : va_G} {cA : Nat → ClassId} {ad : Nat → Nat} {Ex : (Nat → Prop) → State → Heap → Prop} (Wd : zzWC l D cA ad Ex) : zz_Cn l D zzCl cA ad zzSC Ex yX11_hasField cX11_hasField 2 (some .boolean) 1 20 fX11_hasField ∧ zz_Cx l D zzCl cA ad zzSC Ex yX11_hasField cX11_hasField 2 (some .boolean) 1 20 fX11_hasField := by
  refine zz_meth (plainFor_of_name (by decide)) Wd.1 Wd.2.1 Wd.2.2.1 (fun p e R s m args below meth c rr X => ?_)
  unfold tX11_hasField
  refine zz_cons (k' := 1) rfl (zk_iload_n X dX11_hasField_0 rfl rfl) ?_
  refine zz_cons (k' := 2) rfl (zk_calls X ks_X11_58 (mm_X11_isKind Wd).1 (by decide) dX11_hasField_1 rfl) ?_
  refine zz_cons (k' := 3) rfl (zz_Ok_none _ _) ?_
  refine zz_cons (k' := 4) rfl (zz_Ok_none _ _) ?_
  refine zz_cons (k' := 5) rfl (zk_if_eq X dX11_hasField_4 (by decide) rfl) ?_
  refine zz_cons (k' := 6) rfl (zz_Ok_none _ _) ?_
  refine zz_cons (k' := 7) rfl (zz_Ok_none _ _) ?_
  refine zz_cons (k' := 8) rfl (zk_iload_n X dX11_hasField_7 rfl rfl) ?_
  refine zz_cons (k' := 9) rfl (zk_if_lt X dX11_hasField_8 (by decide) rfl) ?_
  refine zz_cons (k' := 10) rfl (zz_Ok_none _ _) ?_
  refine zz_cons (k' := 11) rfl (zz_Ok_none _ _) ?_
  refine zz_cons (k' := 12) rfl (zk_iload_n X dX11_hasField_11 rfl rfl) ?_
  refine zz_cons (k' := 13) rfl (zk_bipush X dX11_hasField_12 (by decide) rfl) ?_
  refine zz_cons (k' := 14) rfl (zz_Ok_none _ _) ?_
  refine zz_cons (k' := 15) rfl (zk_icmp_ge X dX11_hasField_14 (by decide) rfl) ?_
  refine zz_cons (k' := 16) rfl (zz_Ok_none _ _) ?_
  refine zz_cons (k' := 17) rfl (zz_Ok_none _ _) ?_
  refine zz_cons (k' := 18) rfl (zk_gets X (zzWC_sg3 Wd) (zz_in (by decide +kernel)) dX11_hasField_17 rfl) ?_
  refine zz_cons (k' := 19) rfl (zz_Ok_none _ _) ?_
  refine zz_cons (k' := 20) rfl (zz_Ok_none _ _) ?_
  refine zz_cons (k' := 21) rfl (zk_iload_n X dX11_hasField_20 rfl rfl) ?_
  refine zz_cons (k' := 22) rfl (zk_iald X (zzWC_st Wd) dX11_hasField_21 rfl) ?_
  refine zz_cons (k' := 23) rfl (zk_iload_n X dX11_hasField_22 rfl rfl) ?_
  refine zz_cons (k' := 24) rfl (zk_ishr X dX11_hasField_23 rfl) ?_
  refine zz_cons (k' := 25) rfl (zk_iconst X dX11_hasField_24 (by decide) rfl) ?_
  refine zz_cons (k' := 26) rfl (zk_iand X dX11_hasField_25 rfl) ?_
  refine zz_cons (k' := 27) rfl (zk_iconst X dX11_hasField_26 (by decide) rfl) ?_
  refine zz_cons (k' := 28) rfl (zk_icmp_ne X dX11_hasField_27 (by decide) rfl) ?_
  refine zz_cons (k' := 29) rfl (zz_Ok_none _ _) ?_
  refine zz_cons (k' := 30) rfl (zz_Ok_none _ _) ?_
  refine zz_cons (k' := 31) rfl (zk_iconst X dX11_hasField_30 (by decide) rfl) ?_
  refine zz_cons (k' := 32) rfl (zk_goto X dX11_hasField_31 (by decide)) ?_
  refine zz_cons (k' := 33) rfl (zz_Ok_none _ _) ?_
  refine zz_cons (k' := 34) rfl (zz_Ok_none _ _) ?_
  refine zz_cons (k' := 35) rfl (zk_iconst X dX11_hasField_34 (by decide) rfl) ?_
  refine zz_cons (k' := 36) rfl (zk_iret X rfl dX11_hasField_35) ?_
  exact trivial
noncomputable def tX0_addRule : List zzOp := [
  zo_aload 0 1,
  zo_getf zzSC (zz_kf [0] 3) 4,
  zo_none,
  zo_none,
  zo_pushI 8 6,
  zo_none,
  zo_icmp (fun x y => decide (x < y)) 11 9,
  zo_none,
  zo_none,
  zo_pushI 0 10,
  zo_iret true,
  zo_aload 0 12,
  zo_getf zzSC (zz_kf [0] 3) 15,
  zo_none,
  zo_none,
  zo_pushI 6 17,
  zo_none,
  zo_ii (fun x y => x * y) 18,
  zo_istore 7 20,
  zo_none,
  zo_aload 0 21,
  zo_getf zzSC (zz_kf [0] 0) 24,
  zo_none,
  zo_none,
  zo_iload 7 26,
  zo_none,
  zo_iload 1 27,
  zo_iast zzSC 28,
  zo_aload 0 29,
  zo_getf zzSC (zz_kf [0] 0) 32,
  zo_none,
  zo_none,
  zo_iload 7 34,
  zo_none,
  zo_pushI 1 35,
  zo_ii (fun x y => x + y) 36,
  zo_iload 2 37,
  zo_iast zzSC 38,
  zo_aload 0 39,
  zo_getf zzSC (zz_kf [0] 0) 42,
  zo_none,
  zo_none,
  zo_iload 7 44,
  zo_none,
  zo_pushI 2 45,
  zo_ii (fun x y => x + y) 46,
  zo_iload 3 47,
  zo_iast zzSC 48,
  zo_aload 0 49,
  zo_getf zzSC (zz_kf [0] 0) 52,
  zo_none,
  zo_none,
  zo_iload 7 54,
  zo_none,
  zo_pushI 3 55,
  zo_ii (fun x y => x + y) 56,
  zo_iload 4 58,
  zo_none,
  zo_iast zzSC 59,
  zo_aload 0 60,
  zo_getf zzSC (zz_kf [0] 0) 63,
  zo_none,
  zo_none,
  zo_iload 7 65,
  zo_none,
  zo_pushI 4 66,
  zo_ii (fun x y => x + y) 67,
  zo_iload 5 69,
  zo_none,
  zo_iast zzSC 70,
  zo_aload 0 71,
  zo_getf zzSC (zz_kf [0] 0) 74,
  zo_none,
  zo_none,
  zo_iload 7 76,
  zo_none,
  zo_pushI 5 77,
  zo_ii (fun x y => x + y) 78,
  zo_iload 6 80,
  zo_none,
  zo_iast zzSC 81,
  zo_aload 0 82,
  zo_dup 83,
  zo_getf zzSC (zz_kf [0] 3) 86,
  zo_none,
  zo_none,
  zo_pushI 1 87,
  zo_ii (fun x y => x + y) 88,
  zo_putf zzSC (zz_kf [0] 3) false 91,
  zo_none,
  zo_none,
  zo_pushI 1 92,
  zo_iret true]
set_option maxRecDepth 100000 in
theorem tl_X0_addRule : ∀ pc, zz_Tl (tX0_addRule.getD pc zo_none) := by
  refine zz_Tl_mem ?_
  unfold tX0_addRule
  refine List.forall_mem_cons.mpr ⟨(zo_aload_tl _ _), ?_⟩
  refine List.forall_mem_cons.mpr ⟨(zo_getf_tl _ _ _), ?_⟩
  refine List.forall_mem_cons.mpr ⟨zo_none_tl, ?_⟩
  refine List.forall_mem_cons.mpr ⟨zo_none_tl, ?_⟩
  refine List.forall_mem_cons.mpr ⟨(zo_pushI_tl _ _), ?_⟩
  refine List.forall_mem_cons.mpr ⟨zo_none_tl, ?_⟩
  refine List.forall_mem_cons.mpr ⟨(zo_icmp_tl _ _ _), ?_⟩
  refine List.forall_mem_cons.mpr ⟨zo_none_tl, ?_⟩
  refine List.forall_mem_cons.mpr ⟨zo_none_tl, ?_⟩
  refine List.forall_mem_cons.mpr ⟨(zo_pushI_tl _ _), ?_⟩
  refine List.forall_mem_cons.mpr ⟨(zo_iret_tl _), ?_⟩
  refine List.forall_mem_cons.mpr ⟨(zo_aload_tl _ _), ?_⟩
  refine List.forall_mem_cons.mpr ⟨(zo_getf_tl _ _ _), ?_⟩
  refine List.forall_mem_cons.mpr ⟨zo_none_tl, ?_⟩
  refine List.forall_mem_cons.mpr ⟨zo_none_tl, ?_⟩
  refine List.forall_mem_cons.mpr ⟨(zo_pushI_tl _ _), ?_⟩
  refine List.forall_mem_cons.mpr ⟨zo_none_tl, ?_⟩
  refine List.forall_mem_cons.mpr ⟨(zo_ii_tl _ _), ?_⟩
  refine List.forall_mem_cons.mpr ⟨(zo_istore_tl _ _), ?_⟩
  refine List.forall_mem_cons.mpr ⟨zo_none_tl, ?_⟩
  refine List.forall_mem_cons.mpr ⟨(zo_aload_tl _ _), ?_⟩
  refine List.forall_mem_cons.mpr ⟨(zo_getf_tl _ _ _), ?_⟩
  refine List.forall_mem_cons.mpr ⟨zo_none_tl, ?_⟩
  refine List.forall_mem_cons.mpr ⟨zo_none_tl, ?_⟩
  refine List.forall_mem_cons.mpr ⟨(zo_iload_tl _ _), ?_⟩
  refine List.forall_mem_cons.mpr ⟨zo_none_tl, ?_⟩
  refine List.forall_mem_cons.mpr ⟨(zo_iload_tl _ _), ?_⟩
  refine List.forall_mem_cons.mpr ⟨(zo_iast_tl _ _), ?_⟩
  refine List.forall_mem_cons.mpr ⟨(zo_aload_tl _ _), ?_⟩
  refine List.forall_mem_cons.mpr ⟨(zo_getf_tl _ _ _), ?_⟩
  refine List.forall_mem_cons.mpr ⟨zo_none_tl, ?_⟩
  refine List.forall_mem_cons.mpr ⟨zo_none_tl, ?_⟩
  refine List.forall_mem_cons.mpr ⟨(zo_iload_tl _ _), ?_⟩
  refine List.forall_mem_cons.mpr ⟨zo_none_tl, ?_⟩
  refine List.forall_mem_cons.mpr ⟨(zo_pushI_tl _ _), ?_⟩
  refine List.forall_mem_cons.mpr ⟨(zo_ii_tl _ _), ?_⟩
  refine List.forall_mem_cons.mpr ⟨(zo_iload_tl _ _), ?_⟩
  refine List.forall_mem_cons.mpr ⟨(zo_iast_tl _ _), ?_⟩
  refine List.forall_mem_cons.mpr ⟨(zo_aload_tl _ _), ?_⟩
  refine List.forall_mem_cons.mpr ⟨(zo_getf_tl _ _ _), ?_⟩
  refine List.forall_mem_cons.mpr ⟨zo_none_tl, ?_⟩
  refine List.forall_mem_cons.mpr ⟨zo_none_tl, ?_⟩
  refine List.forall_mem_cons.mpr ⟨(zo_iload_tl _ _), ?_⟩
  refine List.forall_mem_cons.mpr ⟨zo_none_tl, ?_⟩
  refine List.forall_mem_cons.mpr ⟨(zo_pushI_tl _ _), ?_⟩
  refine List.forall_mem_cons.mpr ⟨(zo_ii_tl _ _), ?_⟩
  refine List.forall_mem_cons.mpr ⟨(zo_iload_tl _ _), ?_⟩
  refine List.forall_mem_cons.mpr ⟨(zo_iast_tl _ _), ?_⟩
  refine List.forall_mem_cons.mpr ⟨(zo_aload_tl _ _), ?_⟩
  refine List.forall_mem_cons.mpr ⟨(zo_getf_tl _ _ _), ?_⟩
  refine List.forall_mem_cons.mpr ⟨zo_none_tl, ?_⟩
  refine List.forall_mem_cons.mpr ⟨zo_none_tl, ?_⟩
  refine List.forall_mem_cons.mpr ⟨(zo_iload_tl _ _), ?_⟩
  refine List.forall_mem_cons.mpr ⟨zo_none_tl, ?_⟩
  refine List.forall_mem_cons.mpr ⟨(zo_pushI_tl _ _), ?_⟩
  refine List.forall_mem_cons.mpr ⟨(zo_ii_tl _ _), ?_⟩
  refine List.forall_mem_cons.mpr ⟨(zo_iload_tl _ _), ?_⟩
  refine List.forall_mem_cons.mpr ⟨zo_none_tl, ?_⟩
  refine List.forall_mem_cons.mpr ⟨(zo_iast_tl _ _), ?_⟩
  refine List.forall_mem_cons.mpr ⟨(zo_aload_tl _ _), ?_⟩
  refine List.forall_mem_cons.mpr ⟨(zo_getf_tl _ _ _), ?_⟩
  refine List.forall_mem_cons.mpr ⟨zo_none_tl, ?_⟩
  refine List.forall_mem_cons.mpr ⟨zo_none_tl, ?_⟩
  refine List.forall_mem_cons.mpr ⟨(zo_iload_tl _ _), ?_⟩
  refine List.forall_mem_cons.mpr ⟨zo_none_tl, ?_⟩
  refine List.forall_mem_cons.mpr ⟨(zo_pushI_tl _ _), ?_⟩
  refine List.forall_mem_cons.mpr ⟨(zo_ii_tl _ _), ?_⟩
  refine List.forall_mem_cons.mpr ⟨(zo_iload_tl _ _), ?_⟩
  refine List.forall_mem_cons.mpr ⟨zo_none_tl, ?_⟩
  refine List.forall_mem_cons.mpr ⟨(zo_iast_tl _ _), ?_⟩
  refine List.forall_mem_cons.mpr ⟨(zo_aload_tl _ _), ?_⟩
  refine List.forall_mem_cons.mpr ⟨(zo_getf_tl _ _ _), ?_⟩
  refine List.forall_mem_cons.mpr ⟨zo_none_tl, ?_⟩
  refine List.forall_mem_cons.mpr ⟨zo_none_tl, ?_⟩
  refine List.forall_mem_cons.mpr ⟨(zo_iload_tl _ _), ?_⟩
  refine List.forall_mem_cons.mpr ⟨zo_none_tl, ?_⟩
  refine List.forall_mem_cons.mpr ⟨(zo_pushI_tl _ _), ?_⟩
  refine List.forall_mem_cons.mpr ⟨(zo_ii_tl _ _), ?_⟩
  refine List.forall_mem_cons.mpr ⟨(zo_iload_tl _ _), ?_⟩
  refine List.forall_mem_cons.mpr ⟨zo_none_tl, ?_⟩
  refine List.forall_mem_cons.mpr ⟨(zo_iast_tl _ _), ?_⟩
  refine List.forall_mem_cons.mpr ⟨(zo_aload_tl _ _), ?_⟩
  refine List.forall_mem_cons.mpr ⟨(zo_dup_tl _), ?_⟩
  refine List.forall_mem_cons.mpr ⟨(zo_getf_tl _ _ _), ?_⟩
  refine List.forall_mem_cons.mpr ⟨zo_none_tl, ?_⟩
  refine List.forall_mem_cons.mpr ⟨zo_none_tl, ?_⟩
  refine List.forall_mem_cons.mpr ⟨(zo_pushI_tl _ _), ?_⟩
  refine List.forall_mem_cons.mpr ⟨(zo_ii_tl _ _), ?_⟩
  refine List.forall_mem_cons.mpr ⟨(zo_putf_tl _ _ _ _), ?_⟩
  refine List.forall_mem_cons.mpr ⟨zo_none_tl, ?_⟩
  refine List.forall_mem_cons.mpr ⟨zo_none_tl, ?_⟩
  refine List.forall_mem_cons.mpr ⟨(zo_pushI_tl _ _), ?_⟩
  refine List.forall_mem_cons.mpr ⟨(zo_iret_tl _), ?_⟩
  exact fun _ h => absurd h List.not_mem_nil
noncomputable def fX0_addRule : zzFn := zz_fn tX0_addRule 8
set_option maxRecDepth 100000 in
set_option maxHeartbeats 4000000 in
theorem mm_X0_addRule {l : Launch} {D : va_G} {cA : Nat → ClassId} {ad : Nat → Nat} {Ex : (Nat → Prop) → State → Heap → Prop} (Wd : zzWC l D cA ad Ex) : zz_Cn l D zzCl cA ad zzSC Ex yX0_addRule cX0_addRule 8 (some .boolean) 0 0 fX0_addRule ∧ zz_Cx l D zzCl cA ad zzSC Ex yX0_addRule cX0_addRule 8 (some .boolean) 0 0 fX0_addRule := by
  refine zz_meth (plainFor_of_name (by decide)) Wd.1 Wd.2.1 Wd.2.2.1 (fun p e R s m args below meth c rr X => ?_)
  unfold tX0_addRule
  refine zz_cons (k' := 1) rfl (zk_aload_n X dX0_addRule_0 rfl rfl) ?_
  refine zz_cons (k' := 2) rfl (zk_getf X ff_X0_25 dX0_addRule_1 rfl) ?_
  refine zz_cons (k' := 3) rfl (zz_Ok_none _ _) ?_
  refine zz_cons (k' := 4) rfl (zz_Ok_none _ _) ?_
  refine zz_cons (k' := 5) rfl (zk_bipush X dX0_addRule_4 (by decide) rfl) ?_
  refine zz_cons (k' := 6) rfl (zz_Ok_none _ _) ?_
  refine zz_cons (k' := 7) rfl (zk_icmp_lt X dX0_addRule_6 (by decide) rfl) ?_
  refine zz_cons (k' := 8) rfl (zz_Ok_none _ _) ?_
  refine zz_cons (k' := 9) rfl (zz_Ok_none _ _) ?_
  refine zz_cons (k' := 10) rfl (zk_iconst X dX0_addRule_9 (by decide) rfl) ?_
  refine zz_cons (k' := 11) rfl (zk_iret X rfl dX0_addRule_10) ?_
  refine zz_cons (k' := 12) rfl (zk_aload_n X dX0_addRule_11 rfl rfl) ?_
  refine zz_cons (k' := 13) rfl (zk_getf X ff_X0_25 dX0_addRule_12 rfl) ?_
  refine zz_cons (k' := 14) rfl (zz_Ok_none _ _) ?_
  refine zz_cons (k' := 15) rfl (zz_Ok_none _ _) ?_
  refine zz_cons (k' := 16) rfl (zk_bipush X dX0_addRule_15 (by decide) rfl) ?_
  refine zz_cons (k' := 17) rfl (zz_Ok_none _ _) ?_
  refine zz_cons (k' := 18) rfl (zk_imul X dX0_addRule_17 rfl) ?_
  refine zz_cons (k' := 19) rfl (zk_istore X dX0_addRule_18 (by decide) rfl) ?_
  refine zz_cons (k' := 20) rfl (zz_Ok_none _ _) ?_
  refine zz_cons (k' := 21) rfl (zk_aload_n X dX0_addRule_20 rfl rfl) ?_
  refine zz_cons (k' := 22) rfl (zk_getf X ff_X0_11 dX0_addRule_21 rfl) ?_
  refine zz_cons (k' := 23) rfl (zz_Ok_none _ _) ?_
  refine zz_cons (k' := 24) rfl (zz_Ok_none _ _) ?_
  refine zz_cons (k' := 25) rfl (zk_iload X dX0_addRule_24 rfl) ?_
  refine zz_cons (k' := 26) rfl (zz_Ok_none _ _) ?_
  refine zz_cons (k' := 27) rfl (zk_iload_n X dX0_addRule_26 rfl rfl) ?_
  refine zz_cons (k' := 28) rfl (zk_iast X dX0_addRule_27 rfl) ?_
  refine zz_cons (k' := 29) rfl (zk_aload_n X dX0_addRule_28 rfl rfl) ?_
  refine zz_cons (k' := 30) rfl (zk_getf X ff_X0_11 dX0_addRule_29 rfl) ?_
  refine zz_cons (k' := 31) rfl (zz_Ok_none _ _) ?_
  refine zz_cons (k' := 32) rfl (zz_Ok_none _ _) ?_
  refine zz_cons (k' := 33) rfl (zk_iload X dX0_addRule_32 rfl) ?_
  refine zz_cons (k' := 34) rfl (zz_Ok_none _ _) ?_
  refine zz_cons (k' := 35) rfl (zk_iconst X dX0_addRule_34 (by decide) rfl) ?_
  refine zz_cons (k' := 36) rfl (zk_iadd X dX0_addRule_35 rfl) ?_
  refine zz_cons (k' := 37) rfl (zk_iload_n X dX0_addRule_36 rfl rfl) ?_
  refine zz_cons (k' := 38) rfl (zk_iast X dX0_addRule_37 rfl) ?_
  refine zz_cons (k' := 39) rfl (zk_aload_n X dX0_addRule_38 rfl rfl) ?_
  refine zz_cons (k' := 40) rfl (zk_getf X ff_X0_11 dX0_addRule_39 rfl) ?_
  refine zz_cons (k' := 41) rfl (zz_Ok_none _ _) ?_
  refine zz_cons (k' := 42) rfl (zz_Ok_none _ _) ?_
  refine zz_cons (k' := 43) rfl (zk_iload X dX0_addRule_42 rfl) ?_
  refine zz_cons (k' := 44) rfl (zz_Ok_none _ _) ?_
  refine zz_cons (k' := 45) rfl (zk_iconst X dX0_addRule_44 (by decide) rfl) ?_
  refine zz_cons (k' := 46) rfl (zk_iadd X dX0_addRule_45 rfl) ?_
  refine zz_cons (k' := 47) rfl (zk_iload_n X dX0_addRule_46 rfl rfl) ?_
  refine zz_cons (k' := 48) rfl (zk_iast X dX0_addRule_47 rfl) ?_
  refine zz_cons (k' := 49) rfl (zk_aload_n X dX0_addRule_48 rfl rfl) ?_
  refine zz_cons (k' := 50) rfl (zk_getf X ff_X0_11 dX0_addRule_49 rfl) ?_
  refine zz_cons (k' := 51) rfl (zz_Ok_none _ _) ?_
  refine zz_cons (k' := 52) rfl (zz_Ok_none _ _) ?_
  refine zz_cons (k' := 53) rfl (zk_iload X dX0_addRule_52 rfl) ?_
  refine zz_cons (k' := 54) rfl (zz_Ok_none _ _) ?_
  refine zz_cons (k' := 55) rfl (zk_iconst X dX0_addRule_54 (by decide) rfl) ?_
  refine zz_cons (k' := 56) rfl (zk_iadd X dX0_addRule_55 rfl) ?_
  refine zz_cons (k' := 57) rfl (zk_iload X dX0_addRule_56 rfl) ?_
  refine zz_cons (k' := 58) rfl (zz_Ok_none _ _) ?_
  refine zz_cons (k' := 59) rfl (zk_iast X dX0_addRule_58 rfl) ?_
  refine zz_cons (k' := 60) rfl (zk_aload_n X dX0_addRule_59 rfl rfl) ?_
  refine zz_cons (k' := 61) rfl (zk_getf X ff_X0_11 dX0_addRule_60 rfl) ?_
  refine zz_cons (k' := 62) rfl (zz_Ok_none _ _) ?_
  refine zz_cons (k' := 63) rfl (zz_Ok_none _ _) ?_
  refine zz_cons (k' := 64) rfl (zk_iload X dX0_addRule_63 rfl) ?_
  refine zz_cons (k' := 65) rfl (zz_Ok_none _ _) ?_
  refine zz_cons (k' := 66) rfl (zk_iconst X dX0_addRule_65 (by decide) rfl) ?_
  refine zz_cons (k' := 67) rfl (zk_iadd X dX0_addRule_66 rfl) ?_
  refine zz_cons (k' := 68) rfl (zk_iload X dX0_addRule_67 rfl) ?_
  refine zz_cons (k' := 69) rfl (zz_Ok_none _ _) ?_
  refine zz_cons (k' := 70) rfl (zk_iast X dX0_addRule_69 rfl) ?_
  refine zz_cons (k' := 71) rfl (zk_aload_n X dX0_addRule_70 rfl rfl) ?_
  refine zz_cons (k' := 72) rfl (zk_getf X ff_X0_11 dX0_addRule_71 rfl) ?_
  refine zz_cons (k' := 73) rfl (zz_Ok_none _ _) ?_
  refine zz_cons (k' := 74) rfl (zz_Ok_none _ _) ?_
  refine zz_cons (k' := 75) rfl (zk_iload X dX0_addRule_74 rfl) ?_
  refine zz_cons (k' := 76) rfl (zz_Ok_none _ _) ?_
  refine zz_cons (k' := 77) rfl (zk_iconst X dX0_addRule_76 (by decide) rfl) ?_
  refine zz_cons (k' := 78) rfl (zk_iadd X dX0_addRule_77 rfl) ?_
  refine zz_cons (k' := 79) rfl (zk_iload X dX0_addRule_78 rfl) ?_
  refine zz_cons (k' := 80) rfl (zz_Ok_none _ _) ?_
  refine zz_cons (k' := 81) rfl (zk_iast X dX0_addRule_80 rfl) ?_
  refine zz_cons (k' := 82) rfl (zk_aload_n X dX0_addRule_81 rfl rfl) ?_
  refine zz_cons (k' := 83) rfl (zk_dup X dX0_addRule_82 rfl) ?_
  refine zz_cons (k' := 84) rfl (zk_getf X ff_X0_25 dX0_addRule_83 rfl) ?_
  refine zz_cons (k' := 85) rfl (zz_Ok_none _ _) ?_
  refine zz_cons (k' := 86) rfl (zz_Ok_none _ _) ?_
  refine zz_cons (k' := 87) rfl (zk_iconst X dX0_addRule_86 (by decide) rfl) ?_
  refine zz_cons (k' := 88) rfl (zk_iadd X dX0_addRule_87 rfl) ?_
  refine zz_cons (k' := 89) rfl (zk_putf X ff_X0_25 fp_0_3 dX0_addRule_88 rfl) ?_
  refine zz_cons (k' := 90) rfl (zz_Ok_none _ _) ?_
  refine zz_cons (k' := 91) rfl (zz_Ok_none _ _) ?_
  refine zz_cons (k' := 92) rfl (zk_iconst X dX0_addRule_91 (by decide) rfl) ?_
  refine zz_cons (k' := 93) rfl (zk_iret X rfl dX0_addRule_92) ?_
  exact trivial
noncomputable def tX0_addCheck : List zzOp := [
  zo_aload 0 1,
  zo_getf zzSC (zz_kf [0] 4) 4,
  zo_none,
  zo_none,
  zo_pushI 8 6,
  zo_none,
  zo_icmp (fun x y => decide (x < y)) 11 9,
  zo_none,
  zo_none,
  zo_pushI 0 10,
  zo_iret true,
  zo_aload 0 12,
  zo_getf zzSC (zz_kf [0] 4) 15,
  zo_none,
  zo_none,
  zo_pushI 3 16,
  zo_ii (fun x y => x * y) 17,
  zo_istore 4 19,
  zo_none,
  zo_aload 0 20,
  zo_getf zzSC (zz_kf [0] 1) 23,
  zo_none,
  zo_none,
  zo_iload 4 25,
  zo_none,
  zo_iload 1 26,
  zo_iast zzSC 27,
  zo_aload 0 28,
  zo_getf zzSC (zz_kf [0] 1) 31,
  zo_none,
  zo_none,
  zo_iload 4 33,
  zo_none,
  zo_pushI 1 34,
  zo_ii (fun x y => x + y) 35,
  zo_iload 2 36,
  zo_iast zzSC 37,
  zo_aload 0 38,
  zo_getf zzSC (zz_kf [0] 1) 41,
  zo_none,
  zo_none,
  zo_iload 4 43,
  zo_none,
  zo_pushI 2 44,
  zo_ii (fun x y => x + y) 45,
  zo_iload 3 46,
  zo_iast zzSC 47,
  zo_aload 0 48,
  zo_dup 49,
  zo_getf zzSC (zz_kf [0] 4) 52,
  zo_none,
  zo_none,
  zo_pushI 1 53,
  zo_ii (fun x y => x + y) 54,
  zo_putf zzSC (zz_kf [0] 4) false 57,
  zo_none,
  zo_none,
  zo_pushI 1 58,
  zo_iret true]
set_option maxRecDepth 100000 in
theorem tl_X0_addCheck : ∀ pc, zz_Tl (tX0_addCheck.getD pc zo_none) := by
  refine zz_Tl_mem ?_
  unfold tX0_addCheck
  refine List.forall_mem_cons.mpr ⟨(zo_aload_tl _ _), ?_⟩
  refine List.forall_mem_cons.mpr ⟨(zo_getf_tl _ _ _), ?_⟩
  refine List.forall_mem_cons.mpr ⟨zo_none_tl, ?_⟩
  refine List.forall_mem_cons.mpr ⟨zo_none_tl, ?_⟩
  refine List.forall_mem_cons.mpr ⟨(zo_pushI_tl _ _), ?_⟩
  refine List.forall_mem_cons.mpr ⟨zo_none_tl, ?_⟩
  refine List.forall_mem_cons.mpr ⟨(zo_icmp_tl _ _ _), ?_⟩
  refine List.forall_mem_cons.mpr ⟨zo_none_tl, ?_⟩
  refine List.forall_mem_cons.mpr ⟨zo_none_tl, ?_⟩
  refine List.forall_mem_cons.mpr ⟨(zo_pushI_tl _ _), ?_⟩
  refine List.forall_mem_cons.mpr ⟨(zo_iret_tl _), ?_⟩
  refine List.forall_mem_cons.mpr ⟨(zo_aload_tl _ _), ?_⟩
  refine List.forall_mem_cons.mpr ⟨(zo_getf_tl _ _ _), ?_⟩
  refine List.forall_mem_cons.mpr ⟨zo_none_tl, ?_⟩
  refine List.forall_mem_cons.mpr ⟨zo_none_tl, ?_⟩
  refine List.forall_mem_cons.mpr ⟨(zo_pushI_tl _ _), ?_⟩
  refine List.forall_mem_cons.mpr ⟨(zo_ii_tl _ _), ?_⟩
  refine List.forall_mem_cons.mpr ⟨(zo_istore_tl _ _), ?_⟩
  refine List.forall_mem_cons.mpr ⟨zo_none_tl, ?_⟩
  refine List.forall_mem_cons.mpr ⟨(zo_aload_tl _ _), ?_⟩
  refine List.forall_mem_cons.mpr ⟨(zo_getf_tl _ _ _), ?_⟩
  refine List.forall_mem_cons.mpr ⟨zo_none_tl, ?_⟩
  refine List.forall_mem_cons.mpr ⟨zo_none_tl, ?_⟩
  refine List.forall_mem_cons.mpr ⟨(zo_iload_tl _ _), ?_⟩
  refine List.forall_mem_cons.mpr ⟨zo_none_tl, ?_⟩
  refine List.forall_mem_cons.mpr ⟨(zo_iload_tl _ _), ?_⟩
  refine List.forall_mem_cons.mpr ⟨(zo_iast_tl _ _), ?_⟩
  refine List.forall_mem_cons.mpr ⟨(zo_aload_tl _ _), ?_⟩
  refine List.forall_mem_cons.mpr ⟨(zo_getf_tl _ _ _), ?_⟩
  refine List.forall_mem_cons.mpr ⟨zo_none_tl, ?_⟩
  refine List.forall_mem_cons.mpr ⟨zo_none_tl, ?_⟩
  refine List.forall_mem_cons.mpr ⟨(zo_iload_tl _ _), ?_⟩
  refine List.forall_mem_cons.mpr ⟨zo_none_tl, ?_⟩
  refine List.forall_mem_cons.mpr ⟨(zo_pushI_tl _ _), ?_⟩
  refine List.forall_mem_cons.mpr ⟨(zo_ii_tl _ _), ?_⟩
  refine List.forall_mem_cons.mpr ⟨(zo_iload_tl _ _), ?_⟩
  refine List.forall_mem_cons.mpr ⟨(zo_iast_tl _ _), ?_⟩
  refine List.forall_mem_cons.mpr ⟨(zo_aload_tl _ _), ?_⟩
  refine List.forall_mem_cons.mpr ⟨(zo_getf_tl _ _ _), ?_⟩
  refine List.forall_mem_cons.mpr ⟨zo_none_tl, ?_⟩
  refine List.forall_mem_cons.mpr ⟨zo_none_tl, ?_⟩
  refine List.forall_mem_cons.mpr ⟨(zo_iload_tl _ _), ?_⟩
  refine List.forall_mem_cons.mpr ⟨zo_none_tl, ?_⟩
  refine List.forall_mem_cons.mpr ⟨(zo_pushI_tl _ _), ?_⟩
  refine List.forall_mem_cons.mpr ⟨(zo_ii_tl _ _), ?_⟩
  refine List.forall_mem_cons.mpr ⟨(zo_iload_tl _ _), ?_⟩
  refine List.forall_mem_cons.mpr ⟨(zo_iast_tl _ _), ?_⟩
  refine List.forall_mem_cons.mpr ⟨(zo_aload_tl _ _), ?_⟩
  refine List.forall_mem_cons.mpr ⟨(zo_dup_tl _), ?_⟩
  refine List.forall_mem_cons.mpr ⟨(zo_getf_tl _ _ _), ?_⟩
  refine List.forall_mem_cons.mpr ⟨zo_none_tl, ?_⟩
  refine List.forall_mem_cons.mpr ⟨zo_none_tl, ?_⟩
  refine List.forall_mem_cons.mpr ⟨(zo_pushI_tl _ _), ?_⟩
  refine List.forall_mem_cons.mpr ⟨(zo_ii_tl _ _), ?_⟩
  refine List.forall_mem_cons.mpr ⟨(zo_putf_tl _ _ _ _), ?_⟩
  refine List.forall_mem_cons.mpr ⟨zo_none_tl, ?_⟩
  refine List.forall_mem_cons.mpr ⟨zo_none_tl, ?_⟩
  refine List.forall_mem_cons.mpr ⟨(zo_pushI_tl _ _), ?_⟩
  refine List.forall_mem_cons.mpr ⟨(zo_iret_tl _), ?_⟩
  exact fun _ h => absurd h List.not_mem_nil
noncomputable def fX0_addCheck : zzFn := zz_fn tX0_addCheck 5
set_option maxRecDepth 100000 in
set_option maxHeartbeats 4000000 in
theorem mm_X0_addCheck {l : Launch} {D : va_G} {cA : Nat → ClassId} {ad : Nat → Nat} {Ex : (Nat → Prop) → State → Heap → Prop} (Wd : zzWC l D cA ad Ex) : zz_Cn l D zzCl cA ad zzSC Ex yX0_addCheck cX0_addCheck 5 (some .boolean) 0 0 fX0_addCheck ∧ zz_Cx l D zzCl cA ad zzSC Ex yX0_addCheck cX0_addCheck 5 (some .boolean) 0 0 fX0_addCheck := by
  refine zz_meth (plainFor_of_name (by decide)) Wd.1 Wd.2.1 Wd.2.2.1 (fun p e R s m args below meth c rr X => ?_)
  unfold tX0_addCheck
  refine zz_cons (k' := 1) rfl (zk_aload_n X dX0_addCheck_0 rfl rfl) ?_
  refine zz_cons (k' := 2) rfl (zk_getf X ff_X0_28 dX0_addCheck_1 rfl) ?_
  refine zz_cons (k' := 3) rfl (zz_Ok_none _ _) ?_
  refine zz_cons (k' := 4) rfl (zz_Ok_none _ _) ?_
  refine zz_cons (k' := 5) rfl (zk_bipush X dX0_addCheck_4 (by decide) rfl) ?_
  refine zz_cons (k' := 6) rfl (zz_Ok_none _ _) ?_
  refine zz_cons (k' := 7) rfl (zk_icmp_lt X dX0_addCheck_6 (by decide) rfl) ?_
  refine zz_cons (k' := 8) rfl (zz_Ok_none _ _) ?_
  refine zz_cons (k' := 9) rfl (zz_Ok_none _ _) ?_
  refine zz_cons (k' := 10) rfl (zk_iconst X dX0_addCheck_9 (by decide) rfl) ?_
  refine zz_cons (k' := 11) rfl (zk_iret X rfl dX0_addCheck_10) ?_
  refine zz_cons (k' := 12) rfl (zk_aload_n X dX0_addCheck_11 rfl rfl) ?_
  refine zz_cons (k' := 13) rfl (zk_getf X ff_X0_28 dX0_addCheck_12 rfl) ?_
  refine zz_cons (k' := 14) rfl (zz_Ok_none _ _) ?_
  refine zz_cons (k' := 15) rfl (zz_Ok_none _ _) ?_
  refine zz_cons (k' := 16) rfl (zk_iconst X dX0_addCheck_15 (by decide) rfl) ?_
  refine zz_cons (k' := 17) rfl (zk_imul X dX0_addCheck_16 rfl) ?_
  refine zz_cons (k' := 18) rfl (zk_istore X dX0_addCheck_17 (by decide) rfl) ?_
  refine zz_cons (k' := 19) rfl (zz_Ok_none _ _) ?_
  refine zz_cons (k' := 20) rfl (zk_aload_n X dX0_addCheck_19 rfl rfl) ?_
  refine zz_cons (k' := 21) rfl (zk_getf X ff_X0_15 dX0_addCheck_20 rfl) ?_
  refine zz_cons (k' := 22) rfl (zz_Ok_none _ _) ?_
  refine zz_cons (k' := 23) rfl (zz_Ok_none _ _) ?_
  refine zz_cons (k' := 24) rfl (zk_iload X dX0_addCheck_23 rfl) ?_
  refine zz_cons (k' := 25) rfl (zz_Ok_none _ _) ?_
  refine zz_cons (k' := 26) rfl (zk_iload_n X dX0_addCheck_25 rfl rfl) ?_
  refine zz_cons (k' := 27) rfl (zk_iast X dX0_addCheck_26 rfl) ?_
  refine zz_cons (k' := 28) rfl (zk_aload_n X dX0_addCheck_27 rfl rfl) ?_
  refine zz_cons (k' := 29) rfl (zk_getf X ff_X0_15 dX0_addCheck_28 rfl) ?_
  refine zz_cons (k' := 30) rfl (zz_Ok_none _ _) ?_
  refine zz_cons (k' := 31) rfl (zz_Ok_none _ _) ?_
  refine zz_cons (k' := 32) rfl (zk_iload X dX0_addCheck_31 rfl) ?_
  refine zz_cons (k' := 33) rfl (zz_Ok_none _ _) ?_
  refine zz_cons (k' := 34) rfl (zk_iconst X dX0_addCheck_33 (by decide) rfl) ?_
  refine zz_cons (k' := 35) rfl (zk_iadd X dX0_addCheck_34 rfl) ?_
  refine zz_cons (k' := 36) rfl (zk_iload_n X dX0_addCheck_35 rfl rfl) ?_
  refine zz_cons (k' := 37) rfl (zk_iast X dX0_addCheck_36 rfl) ?_
  refine zz_cons (k' := 38) rfl (zk_aload_n X dX0_addCheck_37 rfl rfl) ?_
  refine zz_cons (k' := 39) rfl (zk_getf X ff_X0_15 dX0_addCheck_38 rfl) ?_
  refine zz_cons (k' := 40) rfl (zz_Ok_none _ _) ?_
  refine zz_cons (k' := 41) rfl (zz_Ok_none _ _) ?_
  refine zz_cons (k' := 42) rfl (zk_iload X dX0_addCheck_41 rfl) ?_
  refine zz_cons (k' := 43) rfl (zz_Ok_none _ _) ?_
  refine zz_cons (k' := 44) rfl (zk_iconst X dX0_addCheck_43 (by decide) rfl) ?_
  refine zz_cons (k' := 45) rfl (zk_iadd X dX0_addCheck_44 rfl) ?_
  refine zz_cons (k' := 46) rfl (zk_iload_n X dX0_addCheck_45 rfl rfl) ?_
  refine zz_cons (k' := 47) rfl (zk_iast X dX0_addCheck_46 rfl) ?_
  refine zz_cons (k' := 48) rfl (zk_aload_n X dX0_addCheck_47 rfl rfl) ?_
  refine zz_cons (k' := 49) rfl (zk_dup X dX0_addCheck_48 rfl) ?_
  refine zz_cons (k' := 50) rfl (zk_getf X ff_X0_28 dX0_addCheck_49 rfl) ?_
  refine zz_cons (k' := 51) rfl (zz_Ok_none _ _) ?_
  refine zz_cons (k' := 52) rfl (zz_Ok_none _ _) ?_
  refine zz_cons (k' := 53) rfl (zk_iconst X dX0_addCheck_52 (by decide) rfl) ?_
  refine zz_cons (k' := 54) rfl (zk_iadd X dX0_addCheck_53 rfl) ?_
  refine zz_cons (k' := 55) rfl (zk_putf X ff_X0_28 fp_0_4 dX0_addCheck_54 rfl) ?_
  refine zz_cons (k' := 56) rfl (zz_Ok_none _ _) ?_
  refine zz_cons (k' := 57) rfl (zz_Ok_none _ _) ?_
  refine zz_cons (k' := 58) rfl (zk_iconst X dX0_addCheck_57 (by decide) rfl) ?_
  refine zz_cons (k' := 59) rfl (zk_iret X rfl dX0_addCheck_58) ?_
  exact trivial
noncomputable def tX0_removeAll : List zzOp := [
  zo_aload 0 1,
  zo_getf zzSC (zz_kf [0] 3) 4,
  zo_none,
  zo_none,
  zo_aload 0 5,
  zo_getf zzSC (zz_kf [0] 4) 8,
  zo_none,
  zo_none,
  zo_ii (fun x y => x + y) 9,
  zo_istore 1 10,
  zo_aload 0 11,
  zo_pushI 0 12,
  zo_putf zzSC (zz_kf [0] 3) false 15,
  zo_none,
  zo_none,
  zo_aload 0 16,
  zo_pushI 0 17,
  zo_putf zzSC (zz_kf [0] 4) false 20,
  zo_none,
  zo_none,
  zo_iload 1 21,
  zo_iret false]
set_option maxRecDepth 100000 in
theorem tl_X0_removeAll : ∀ pc, zz_Tl (tX0_removeAll.getD pc zo_none) := by
  refine zz_Tl_mem ?_
  unfold tX0_removeAll
  refine List.forall_mem_cons.mpr ⟨(zo_aload_tl _ _), ?_⟩
  refine List.forall_mem_cons.mpr ⟨(zo_getf_tl _ _ _), ?_⟩
  refine List.forall_mem_cons.mpr ⟨zo_none_tl, ?_⟩
  refine List.forall_mem_cons.mpr ⟨zo_none_tl, ?_⟩
  refine List.forall_mem_cons.mpr ⟨(zo_aload_tl _ _), ?_⟩
  refine List.forall_mem_cons.mpr ⟨(zo_getf_tl _ _ _), ?_⟩
  refine List.forall_mem_cons.mpr ⟨zo_none_tl, ?_⟩
  refine List.forall_mem_cons.mpr ⟨zo_none_tl, ?_⟩
  refine List.forall_mem_cons.mpr ⟨(zo_ii_tl _ _), ?_⟩
  refine List.forall_mem_cons.mpr ⟨(zo_istore_tl _ _), ?_⟩
  refine List.forall_mem_cons.mpr ⟨(zo_aload_tl _ _), ?_⟩
  refine List.forall_mem_cons.mpr ⟨(zo_pushI_tl _ _), ?_⟩
  refine List.forall_mem_cons.mpr ⟨(zo_putf_tl _ _ _ _), ?_⟩
  refine List.forall_mem_cons.mpr ⟨zo_none_tl, ?_⟩
  refine List.forall_mem_cons.mpr ⟨zo_none_tl, ?_⟩
  refine List.forall_mem_cons.mpr ⟨(zo_aload_tl _ _), ?_⟩
  refine List.forall_mem_cons.mpr ⟨(zo_pushI_tl _ _), ?_⟩
  refine List.forall_mem_cons.mpr ⟨(zo_putf_tl _ _ _ _), ?_⟩
  refine List.forall_mem_cons.mpr ⟨zo_none_tl, ?_⟩
  refine List.forall_mem_cons.mpr ⟨zo_none_tl, ?_⟩
  refine List.forall_mem_cons.mpr ⟨(zo_iload_tl _ _), ?_⟩
  refine List.forall_mem_cons.mpr ⟨(zo_iret_tl _), ?_⟩
  exact fun _ h => absurd h List.not_mem_nil
noncomputable def fX0_removeAll : zzFn := zz_fn tX0_removeAll 2
noncomputable def tX0_runRules : List zzOp := [
  zo_pushI 0 1,
  zo_istore 2 2,
  zo_iload 2 3,
  zo_aload 0 4,
  zo_getf zzSC (zz_kf [0] 3) 7,
  zo_none,
  zo_none,
  zo_icmp (fun x y => decide (y ≤ x)) 90 10,
  zo_none,
  zo_none,
  zo_iload 2 11,
  zo_pushI 6 13,
  zo_none,
  zo_ii (fun x y => x * y) 14,
  zo_istore 3 15,
  zo_aload 1 16,
  zo_aload 0 17,
  zo_getf zzSC (zz_kf [0] 0) 20,
  zo_none,
  zo_none,
  zo_iload 3 21,
  zo_pushI 1 22,
  zo_ii (fun x y => x + y) 23,
  zo_iald zzSC zzSTC 24,
  zo_iald zzSC zzSTC 25,
  zo_istore 4 27,
  zo_none,
  zo_aload 0 28,
  zo_getf zzSC (zz_kf [0] 0) 31,
  zo_none,
  zo_none,
  zo_iload 3 32,
  zo_iald zzSC zzSTC 33,
  zo_aload 1 34,
  zo_pushI 23 36,
  zo_none,
  zo_iald zzSC zzSTC 37,
  zo_icmp (fun x y => decide (¬ x = y)) 84 40,
  zo_none,
  zo_none,
  zo_iload 4 42,
  zo_none,
  zo_aload 0 43,
  zo_getf zzSC (zz_kf [0] 0) 46,
  zo_none,
  zo_none,
  zo_iload 3 47,
  zo_pushI 2 48,
  zo_ii (fun x y => x + y) 49,
  zo_iald zzSC zzSTC 50,
  zo_icmp (fun x y => decide (x < y)) 84 53,
  zo_none,
  zo_none,
  zo_iload 4 55,
  zo_none,
  zo_aload 0 56,
  zo_getf zzSC (zz_kf [0] 0) 59,
  zo_none,
  zo_none,
  zo_iload 3 60,
  zo_pushI 3 61,
  zo_ii (fun x y => x + y) 62,
  zo_iald zzSC zzSTC 63,
  zo_icmp (fun x y => decide (y < x)) 84 66,
  zo_none,
  zo_none,
  zo_aload 1 67,
  zo_aload 0 68,
  zo_getf zzSC (zz_kf [0] 0) 71,
  zo_none,
  zo_none,
  zo_iload 3 72,
  zo_pushI 4 73,
  zo_ii (fun x y => x + y) 74,
  zo_iald zzSC zzSTC 75,
  zo_aload 0 76,
  zo_getf zzSC (zz_kf [0] 0) 79,
  zo_none,
  zo_none,
  zo_iload 3 80,
  zo_pushI 5 81,
  zo_ii (fun x y => x + y) 82,
  zo_iald zzSC zzSTC 83,
  zo_iast zzSC 84,
  zo_iinc 2 1 87,
  zo_none,
  zo_none,
  zo_goto 2,
  zo_none,
  zo_none,
  zo_ret]
set_option maxRecDepth 100000 in
theorem tl_X0_runRules : ∀ pc, zz_Tl (tX0_runRules.getD pc zo_none) := by
  refine zz_Tl_mem ?_
  unfold tX0_runRules
  refine List.forall_mem_cons.mpr ⟨(zo_pushI_tl _ _), ?_⟩
  refine List.forall_mem_cons.mpr ⟨(zo_istore_tl _ _), ?_⟩
  refine List.forall_mem_cons.mpr ⟨(zo_iload_tl _ _), ?_⟩
  refine List.forall_mem_cons.mpr ⟨(zo_aload_tl _ _), ?_⟩
  refine List.forall_mem_cons.mpr ⟨(zo_getf_tl _ _ _), ?_⟩
  refine List.forall_mem_cons.mpr ⟨zo_none_tl, ?_⟩
  refine List.forall_mem_cons.mpr ⟨zo_none_tl, ?_⟩
  refine List.forall_mem_cons.mpr ⟨(zo_icmp_tl _ _ _), ?_⟩
  refine List.forall_mem_cons.mpr ⟨zo_none_tl, ?_⟩
  refine List.forall_mem_cons.mpr ⟨zo_none_tl, ?_⟩
  refine List.forall_mem_cons.mpr ⟨(zo_iload_tl _ _), ?_⟩
  refine List.forall_mem_cons.mpr ⟨(zo_pushI_tl _ _), ?_⟩
  refine List.forall_mem_cons.mpr ⟨zo_none_tl, ?_⟩
  refine List.forall_mem_cons.mpr ⟨(zo_ii_tl _ _), ?_⟩
  refine List.forall_mem_cons.mpr ⟨(zo_istore_tl _ _), ?_⟩
  refine List.forall_mem_cons.mpr ⟨(zo_aload_tl _ _), ?_⟩
  refine List.forall_mem_cons.mpr ⟨(zo_aload_tl _ _), ?_⟩
  refine List.forall_mem_cons.mpr ⟨(zo_getf_tl _ _ _), ?_⟩
  refine List.forall_mem_cons.mpr ⟨zo_none_tl, ?_⟩
  refine List.forall_mem_cons.mpr ⟨zo_none_tl, ?_⟩
  refine List.forall_mem_cons.mpr ⟨(zo_iload_tl _ _), ?_⟩
  refine List.forall_mem_cons.mpr ⟨(zo_pushI_tl _ _), ?_⟩
  refine List.forall_mem_cons.mpr ⟨(zo_ii_tl _ _), ?_⟩
  refine List.forall_mem_cons.mpr ⟨(zo_iald_tl _ _ _), ?_⟩
  refine List.forall_mem_cons.mpr ⟨(zo_iald_tl _ _ _), ?_⟩
  refine List.forall_mem_cons.mpr ⟨(zo_istore_tl _ _), ?_⟩
  refine List.forall_mem_cons.mpr ⟨zo_none_tl, ?_⟩
  refine List.forall_mem_cons.mpr ⟨(zo_aload_tl _ _), ?_⟩
  refine List.forall_mem_cons.mpr ⟨(zo_getf_tl _ _ _), ?_⟩
  refine List.forall_mem_cons.mpr ⟨zo_none_tl, ?_⟩
  refine List.forall_mem_cons.mpr ⟨zo_none_tl, ?_⟩
  refine List.forall_mem_cons.mpr ⟨(zo_iload_tl _ _), ?_⟩
  refine List.forall_mem_cons.mpr ⟨(zo_iald_tl _ _ _), ?_⟩
  refine List.forall_mem_cons.mpr ⟨(zo_aload_tl _ _), ?_⟩
  refine List.forall_mem_cons.mpr ⟨(zo_pushI_tl _ _), ?_⟩
  refine List.forall_mem_cons.mpr ⟨zo_none_tl, ?_⟩
  refine List.forall_mem_cons.mpr ⟨(zo_iald_tl _ _ _), ?_⟩
  refine List.forall_mem_cons.mpr ⟨(zo_icmp_tl _ _ _), ?_⟩
  refine List.forall_mem_cons.mpr ⟨zo_none_tl, ?_⟩
  refine List.forall_mem_cons.mpr ⟨zo_none_tl, ?_⟩
  refine List.forall_mem_cons.mpr ⟨(zo_iload_tl _ _), ?_⟩
  refine List.forall_mem_cons.mpr ⟨zo_none_tl, ?_⟩
  refine List.forall_mem_cons.mpr ⟨(zo_aload_tl _ _), ?_⟩
  refine List.forall_mem_cons.mpr ⟨(zo_getf_tl _ _ _), ?_⟩
  refine List.forall_mem_cons.mpr ⟨zo_none_tl, ?_⟩
  refine List.forall_mem_cons.mpr ⟨zo_none_tl, ?_⟩
  refine List.forall_mem_cons.mpr ⟨(zo_iload_tl _ _), ?_⟩
  refine List.forall_mem_cons.mpr ⟨(zo_pushI_tl _ _), ?_⟩
  refine List.forall_mem_cons.mpr ⟨(zo_ii_tl _ _), ?_⟩
  refine List.forall_mem_cons.mpr ⟨(zo_iald_tl _ _ _), ?_⟩
  refine List.forall_mem_cons.mpr ⟨(zo_icmp_tl _ _ _), ?_⟩
  refine List.forall_mem_cons.mpr ⟨zo_none_tl, ?_⟩
  refine List.forall_mem_cons.mpr ⟨zo_none_tl, ?_⟩
  refine List.forall_mem_cons.mpr ⟨(zo_iload_tl _ _), ?_⟩
  refine List.forall_mem_cons.mpr ⟨zo_none_tl, ?_⟩
  refine List.forall_mem_cons.mpr ⟨(zo_aload_tl _ _), ?_⟩
  refine List.forall_mem_cons.mpr ⟨(zo_getf_tl _ _ _), ?_⟩
  refine List.forall_mem_cons.mpr ⟨zo_none_tl, ?_⟩
  refine List.forall_mem_cons.mpr ⟨zo_none_tl, ?_⟩
  refine List.forall_mem_cons.mpr ⟨(zo_iload_tl _ _), ?_⟩
  refine List.forall_mem_cons.mpr ⟨(zo_pushI_tl _ _), ?_⟩
  refine List.forall_mem_cons.mpr ⟨(zo_ii_tl _ _), ?_⟩
  refine List.forall_mem_cons.mpr ⟨(zo_iald_tl _ _ _), ?_⟩
  refine List.forall_mem_cons.mpr ⟨(zo_icmp_tl _ _ _), ?_⟩
  refine List.forall_mem_cons.mpr ⟨zo_none_tl, ?_⟩
  refine List.forall_mem_cons.mpr ⟨zo_none_tl, ?_⟩
  refine List.forall_mem_cons.mpr ⟨(zo_aload_tl _ _), ?_⟩
  refine List.forall_mem_cons.mpr ⟨(zo_aload_tl _ _), ?_⟩
  refine List.forall_mem_cons.mpr ⟨(zo_getf_tl _ _ _), ?_⟩
  refine List.forall_mem_cons.mpr ⟨zo_none_tl, ?_⟩
  refine List.forall_mem_cons.mpr ⟨zo_none_tl, ?_⟩
  refine List.forall_mem_cons.mpr ⟨(zo_iload_tl _ _), ?_⟩
  refine List.forall_mem_cons.mpr ⟨(zo_pushI_tl _ _), ?_⟩
  refine List.forall_mem_cons.mpr ⟨(zo_ii_tl _ _), ?_⟩
  refine List.forall_mem_cons.mpr ⟨(zo_iald_tl _ _ _), ?_⟩
  refine List.forall_mem_cons.mpr ⟨(zo_aload_tl _ _), ?_⟩
  refine List.forall_mem_cons.mpr ⟨(zo_getf_tl _ _ _), ?_⟩
  refine List.forall_mem_cons.mpr ⟨zo_none_tl, ?_⟩
  refine List.forall_mem_cons.mpr ⟨zo_none_tl, ?_⟩
  refine List.forall_mem_cons.mpr ⟨(zo_iload_tl _ _), ?_⟩
  refine List.forall_mem_cons.mpr ⟨(zo_pushI_tl _ _), ?_⟩
  refine List.forall_mem_cons.mpr ⟨(zo_ii_tl _ _), ?_⟩
  refine List.forall_mem_cons.mpr ⟨(zo_iald_tl _ _ _), ?_⟩
  refine List.forall_mem_cons.mpr ⟨(zo_iast_tl _ _), ?_⟩
  refine List.forall_mem_cons.mpr ⟨(zo_iinc_tl _ _ _), ?_⟩
  refine List.forall_mem_cons.mpr ⟨zo_none_tl, ?_⟩
  refine List.forall_mem_cons.mpr ⟨zo_none_tl, ?_⟩
  refine List.forall_mem_cons.mpr ⟨(zo_goto_tl _), ?_⟩
  refine List.forall_mem_cons.mpr ⟨zo_none_tl, ?_⟩
  refine List.forall_mem_cons.mpr ⟨zo_none_tl, ?_⟩
  refine List.forall_mem_cons.mpr ⟨(zo_ret_tl), ?_⟩
  exact fun _ h => absurd h List.not_mem_nil
noncomputable def fX0_runRules : zzFn := zz_fn tX0_runRules 5
set_option maxRecDepth 100000 in
set_option maxHeartbeats 4000000 in
theorem mm_X0_runRules {l : Launch} {D : va_G} {cA : Nat → ClassId} {ad : Nat → Nat} {Ex : (Nat → Prop) → State → Heap → Prop} (Wd : zzWC l D cA ad Ex) : zz_Cn l D zzCl cA ad zzSC Ex yX0_runRules cX0_runRules 5 none 0 0 fX0_runRules ∧ zz_Cx l D zzCl cA ad zzSC Ex yX0_runRules cX0_runRules 5 none 0 0 fX0_runRules := by
  refine zz_meth (plainFor_of_name (by decide)) Wd.1 Wd.2.1 Wd.2.2.1 (fun p e R s m args below meth c rr X => ?_)
  unfold tX0_runRules
  refine zz_cons (k' := 1) rfl (zk_iconst X dX0_runRules_0 (by decide) rfl) ?_
  refine zz_cons (k' := 2) rfl (zk_istore_n X dX0_runRules_1 rfl (by decide) rfl) ?_
  refine zz_cons (k' := 3) rfl (zk_iload_n X dX0_runRules_2 rfl rfl) ?_
  refine zz_cons (k' := 4) rfl (zk_aload_n X dX0_runRules_3 rfl rfl) ?_
  refine zz_cons (k' := 5) rfl (zk_getf X ff_X0_25 dX0_runRules_4 rfl) ?_
  refine zz_cons (k' := 6) rfl (zz_Ok_none _ _) ?_
  refine zz_cons (k' := 7) rfl (zz_Ok_none _ _) ?_
  refine zz_cons (k' := 8) rfl (zk_icmp_ge X dX0_runRules_7 (by decide) rfl) ?_
  refine zz_cons (k' := 9) rfl (zz_Ok_none _ _) ?_
  refine zz_cons (k' := 10) rfl (zz_Ok_none _ _) ?_
  refine zz_cons (k' := 11) rfl (zk_iload_n X dX0_runRules_10 rfl rfl) ?_
  refine zz_cons (k' := 12) rfl (zk_bipush X dX0_runRules_11 (by decide) rfl) ?_
  refine zz_cons (k' := 13) rfl (zz_Ok_none _ _) ?_
  refine zz_cons (k' := 14) rfl (zk_imul X dX0_runRules_13 rfl) ?_
  refine zz_cons (k' := 15) rfl (zk_istore_n X dX0_runRules_14 rfl (by decide) rfl) ?_
  refine zz_cons (k' := 16) rfl (zk_aload_n X dX0_runRules_15 rfl rfl) ?_
  refine zz_cons (k' := 17) rfl (zk_aload_n X dX0_runRules_16 rfl rfl) ?_
  refine zz_cons (k' := 18) rfl (zk_getf X ff_X0_11 dX0_runRules_17 rfl) ?_
  refine zz_cons (k' := 19) rfl (zz_Ok_none _ _) ?_
  refine zz_cons (k' := 20) rfl (zz_Ok_none _ _) ?_
  refine zz_cons (k' := 21) rfl (zk_iload_n X dX0_runRules_20 rfl rfl) ?_
  refine zz_cons (k' := 22) rfl (zk_iconst X dX0_runRules_21 (by decide) rfl) ?_
  refine zz_cons (k' := 23) rfl (zk_iadd X dX0_runRules_22 rfl) ?_
  refine zz_cons (k' := 24) rfl (zk_iald X (zzWC_st Wd) dX0_runRules_23 rfl) ?_
  refine zz_cons (k' := 25) rfl (zk_iald X (zzWC_st Wd) dX0_runRules_24 rfl) ?_
  refine zz_cons (k' := 26) rfl (zk_istore X dX0_runRules_25 (by decide) rfl) ?_
  refine zz_cons (k' := 27) rfl (zz_Ok_none _ _) ?_
  refine zz_cons (k' := 28) rfl (zk_aload_n X dX0_runRules_27 rfl rfl) ?_
  refine zz_cons (k' := 29) rfl (zk_getf X ff_X0_11 dX0_runRules_28 rfl) ?_
  refine zz_cons (k' := 30) rfl (zz_Ok_none _ _) ?_
  refine zz_cons (k' := 31) rfl (zz_Ok_none _ _) ?_
  refine zz_cons (k' := 32) rfl (zk_iload_n X dX0_runRules_31 rfl rfl) ?_
  refine zz_cons (k' := 33) rfl (zk_iald X (zzWC_st Wd) dX0_runRules_32 rfl) ?_
  refine zz_cons (k' := 34) rfl (zk_aload_n X dX0_runRules_33 rfl rfl) ?_
  refine zz_cons (k' := 35) rfl (zk_bipush X dX0_runRules_34 (by decide) rfl) ?_
  refine zz_cons (k' := 36) rfl (zz_Ok_none _ _) ?_
  refine zz_cons (k' := 37) rfl (zk_iald X (zzWC_st Wd) dX0_runRules_36 rfl) ?_
  refine zz_cons (k' := 38) rfl (zk_icmp_ne X dX0_runRules_37 (by decide) rfl) ?_
  refine zz_cons (k' := 39) rfl (zz_Ok_none _ _) ?_
  refine zz_cons (k' := 40) rfl (zz_Ok_none _ _) ?_
  refine zz_cons (k' := 41) rfl (zk_iload X dX0_runRules_40 rfl) ?_
  refine zz_cons (k' := 42) rfl (zz_Ok_none _ _) ?_
  refine zz_cons (k' := 43) rfl (zk_aload_n X dX0_runRules_42 rfl rfl) ?_
  refine zz_cons (k' := 44) rfl (zk_getf X ff_X0_11 dX0_runRules_43 rfl) ?_
  refine zz_cons (k' := 45) rfl (zz_Ok_none _ _) ?_
  refine zz_cons (k' := 46) rfl (zz_Ok_none _ _) ?_
  refine zz_cons (k' := 47) rfl (zk_iload_n X dX0_runRules_46 rfl rfl) ?_
  refine zz_cons (k' := 48) rfl (zk_iconst X dX0_runRules_47 (by decide) rfl) ?_
  refine zz_cons (k' := 49) rfl (zk_iadd X dX0_runRules_48 rfl) ?_
  refine zz_cons (k' := 50) rfl (zk_iald X (zzWC_st Wd) dX0_runRules_49 rfl) ?_
  refine zz_cons (k' := 51) rfl (zk_icmp_lt X dX0_runRules_50 (by decide) rfl) ?_
  refine zz_cons (k' := 52) rfl (zz_Ok_none _ _) ?_
  refine zz_cons (k' := 53) rfl (zz_Ok_none _ _) ?_
  refine zz_cons (k' := 54) rfl (zk_iload X dX0_runRules_53 rfl) ?_
  refine zz_cons (k' := 55) rfl (zz_Ok_none _ _) ?_
  refine zz_cons (k' := 56) rfl (zk_aload_n X dX0_runRules_55 rfl rfl) ?_
  refine zz_cons (k' := 57) rfl (zk_getf X ff_X0_11 dX0_runRules_56 rfl) ?_
  refine zz_cons (k' := 58) rfl (zz_Ok_none _ _) ?_
  refine zz_cons (k' := 59) rfl (zz_Ok_none _ _) ?_
  refine zz_cons (k' := 60) rfl (zk_iload_n X dX0_runRules_59 rfl rfl) ?_
  refine zz_cons (k' := 61) rfl (zk_iconst X dX0_runRules_60 (by decide) rfl) ?_
  refine zz_cons (k' := 62) rfl (zk_iadd X dX0_runRules_61 rfl) ?_
  refine zz_cons (k' := 63) rfl (zk_iald X (zzWC_st Wd) dX0_runRules_62 rfl) ?_
  refine zz_cons (k' := 64) rfl (zk_icmp_gt X dX0_runRules_63 (by decide) rfl) ?_
  refine zz_cons (k' := 65) rfl (zz_Ok_none _ _) ?_
  refine zz_cons (k' := 66) rfl (zz_Ok_none _ _) ?_
  refine zz_cons (k' := 67) rfl (zk_aload_n X dX0_runRules_66 rfl rfl) ?_
  refine zz_cons (k' := 68) rfl (zk_aload_n X dX0_runRules_67 rfl rfl) ?_
  refine zz_cons (k' := 69) rfl (zk_getf X ff_X0_11 dX0_runRules_68 rfl) ?_
  refine zz_cons (k' := 70) rfl (zz_Ok_none _ _) ?_
  refine zz_cons (k' := 71) rfl (zz_Ok_none _ _) ?_
  refine zz_cons (k' := 72) rfl (zk_iload_n X dX0_runRules_71 rfl rfl) ?_
  refine zz_cons (k' := 73) rfl (zk_iconst X dX0_runRules_72 (by decide) rfl) ?_
  refine zz_cons (k' := 74) rfl (zk_iadd X dX0_runRules_73 rfl) ?_
  refine zz_cons (k' := 75) rfl (zk_iald X (zzWC_st Wd) dX0_runRules_74 rfl) ?_
  refine zz_cons (k' := 76) rfl (zk_aload_n X dX0_runRules_75 rfl rfl) ?_
  refine zz_cons (k' := 77) rfl (zk_getf X ff_X0_11 dX0_runRules_76 rfl) ?_
  refine zz_cons (k' := 78) rfl (zz_Ok_none _ _) ?_
  refine zz_cons (k' := 79) rfl (zz_Ok_none _ _) ?_
  refine zz_cons (k' := 80) rfl (zk_iload_n X dX0_runRules_79 rfl rfl) ?_
  refine zz_cons (k' := 81) rfl (zk_iconst X dX0_runRules_80 (by decide) rfl) ?_
  refine zz_cons (k' := 82) rfl (zk_iadd X dX0_runRules_81 rfl) ?_
  refine zz_cons (k' := 83) rfl (zk_iald X (zzWC_st Wd) dX0_runRules_82 rfl) ?_
  refine zz_cons (k' := 84) rfl (zk_iast X dX0_runRules_83 rfl) ?_
  refine zz_cons (k' := 85) rfl (zk_iinc X dX0_runRules_84 (by decide) (by decide) rfl) ?_
  refine zz_cons (k' := 86) rfl (zz_Ok_none _ _) ?_
  refine zz_cons (k' := 87) rfl (zz_Ok_none _ _) ?_
  refine zz_cons (k' := 88) rfl (zk_goto X dX0_runRules_87 (by decide)) ?_
  refine zz_cons (k' := 89) rfl (zz_Ok_none _ _) ?_
  refine zz_cons (k' := 90) rfl (zz_Ok_none _ _) ?_
  refine zz_cons (k' := 91) rfl (zk_ret X rfl dX0_runRules_90) ?_
  exact trivial
noncomputable def tX0_settles : List zzOp := [
  zo_pushI 0 1,
  zo_istore 2 2,
  zo_iload 2 3,
  zo_pushI 6 5,
  zo_none,
  zo_icmp (fun x y => decide (y ≤ x)) 79 8,
  zo_none,
  zo_none,
  zo_aload 1 9,
  zo_pushI 0 10,
  zo_aload 0 11,
  zo_getf zzSC (zz_kf [0] 2) 14,
  zo_none,
  zo_none,
  zo_pushI 0 15,
  zo_pushI 11 17,
  zo_none,
  zo_copy zzSC 20,
  zo_none,
  zo_none,
  zo_aload 0 21,
  zo_aload 1 22,
  zo_callv zzSC (zz_cl [(0, fX0_runRules)]) 1 25,
  zo_none,
  zo_none,
  zo_pushI 1 26,
  zo_istore 3 27,
  zo_pushI 0 28,
  zo_istore 4 30,
  zo_none,
  zo_iload 4 32,
  zo_none,
  zo_pushI 11 34,
  zo_none,
  zo_icmp (fun x y => decide (y ≤ x)) 67 37,
  zo_none,
  zo_none,
  zo_iload 3 38,
  zo_if (fun x => decide (x = 0)) 59 41,
  zo_none,
  zo_none,
  zo_aload 1 42,
  zo_iload 4 44,
  zo_none,
  zo_iald zzSC zzSTC 45,
  zo_aload 0 46,
  zo_getf zzSC (zz_kf [0] 2) 49,
  zo_none,
  zo_none,
  zo_iload 4 51,
  zo_none,
  zo_iald zzSC zzSTC 52,
  zo_icmp (fun x y => decide (¬ x = y)) 59 55,
  zo_none,
  zo_none,
  zo_pushI 1 56,
  zo_goto 60,
  zo_none,
  zo_none,
  zo_pushI 0 60,
  zo_istore 3 61,
  zo_iinc 4 1 64,
  zo_none,
  zo_none,
  zo_goto 30,
  zo_none,
  zo_none,
  zo_iload 3 68,
  zo_if (fun x => decide (x = 0)) 73 71,
  zo_none,
  zo_none,
  zo_pushI 1 72,
  zo_iret true,
  zo_iinc 2 1 76,
  zo_none,
  zo_none,
  zo_goto 2,
  zo_none,
  zo_none,
  zo_pushI 0 80,
  zo_iret true]
set_option maxRecDepth 100000 in
theorem tl_X0_settles : ∀ pc, zz_Tl (tX0_settles.getD pc zo_none) := by
  refine zz_Tl_mem ?_
  unfold tX0_settles
  refine List.forall_mem_cons.mpr ⟨(zo_pushI_tl _ _), ?_⟩
  refine List.forall_mem_cons.mpr ⟨(zo_istore_tl _ _), ?_⟩
  refine List.forall_mem_cons.mpr ⟨(zo_iload_tl _ _), ?_⟩
  refine List.forall_mem_cons.mpr ⟨(zo_pushI_tl _ _), ?_⟩
  refine List.forall_mem_cons.mpr ⟨zo_none_tl, ?_⟩
  refine List.forall_mem_cons.mpr ⟨(zo_icmp_tl _ _ _), ?_⟩
  refine List.forall_mem_cons.mpr ⟨zo_none_tl, ?_⟩
  refine List.forall_mem_cons.mpr ⟨zo_none_tl, ?_⟩
  refine List.forall_mem_cons.mpr ⟨(zo_aload_tl _ _), ?_⟩
  refine List.forall_mem_cons.mpr ⟨(zo_pushI_tl _ _), ?_⟩
  refine List.forall_mem_cons.mpr ⟨(zo_aload_tl _ _), ?_⟩
  refine List.forall_mem_cons.mpr ⟨(zo_getf_tl _ _ _), ?_⟩
  refine List.forall_mem_cons.mpr ⟨zo_none_tl, ?_⟩
  refine List.forall_mem_cons.mpr ⟨zo_none_tl, ?_⟩
  refine List.forall_mem_cons.mpr ⟨(zo_pushI_tl _ _), ?_⟩
  refine List.forall_mem_cons.mpr ⟨(zo_pushI_tl _ _), ?_⟩
  refine List.forall_mem_cons.mpr ⟨zo_none_tl, ?_⟩
  refine List.forall_mem_cons.mpr ⟨(zo_copy_tl _ _), ?_⟩
  refine List.forall_mem_cons.mpr ⟨zo_none_tl, ?_⟩
  refine List.forall_mem_cons.mpr ⟨zo_none_tl, ?_⟩
  refine List.forall_mem_cons.mpr ⟨(zo_aload_tl _ _), ?_⟩
  refine List.forall_mem_cons.mpr ⟨(zo_aload_tl _ _), ?_⟩
  refine List.forall_mem_cons.mpr ⟨(zo_callv_tl _ _ _ _), ?_⟩
  refine List.forall_mem_cons.mpr ⟨zo_none_tl, ?_⟩
  refine List.forall_mem_cons.mpr ⟨zo_none_tl, ?_⟩
  refine List.forall_mem_cons.mpr ⟨(zo_pushI_tl _ _), ?_⟩
  refine List.forall_mem_cons.mpr ⟨(zo_istore_tl _ _), ?_⟩
  refine List.forall_mem_cons.mpr ⟨(zo_pushI_tl _ _), ?_⟩
  refine List.forall_mem_cons.mpr ⟨(zo_istore_tl _ _), ?_⟩
  refine List.forall_mem_cons.mpr ⟨zo_none_tl, ?_⟩
  refine List.forall_mem_cons.mpr ⟨(zo_iload_tl _ _), ?_⟩
  refine List.forall_mem_cons.mpr ⟨zo_none_tl, ?_⟩
  refine List.forall_mem_cons.mpr ⟨(zo_pushI_tl _ _), ?_⟩
  refine List.forall_mem_cons.mpr ⟨zo_none_tl, ?_⟩
  refine List.forall_mem_cons.mpr ⟨(zo_icmp_tl _ _ _), ?_⟩
  refine List.forall_mem_cons.mpr ⟨zo_none_tl, ?_⟩
  refine List.forall_mem_cons.mpr ⟨zo_none_tl, ?_⟩
  refine List.forall_mem_cons.mpr ⟨(zo_iload_tl _ _), ?_⟩
  refine List.forall_mem_cons.mpr ⟨(zo_if_tl _ _ _), ?_⟩
  refine List.forall_mem_cons.mpr ⟨zo_none_tl, ?_⟩
  refine List.forall_mem_cons.mpr ⟨zo_none_tl, ?_⟩
  refine List.forall_mem_cons.mpr ⟨(zo_aload_tl _ _), ?_⟩
  refine List.forall_mem_cons.mpr ⟨(zo_iload_tl _ _), ?_⟩
  refine List.forall_mem_cons.mpr ⟨zo_none_tl, ?_⟩
  refine List.forall_mem_cons.mpr ⟨(zo_iald_tl _ _ _), ?_⟩
  refine List.forall_mem_cons.mpr ⟨(zo_aload_tl _ _), ?_⟩
  refine List.forall_mem_cons.mpr ⟨(zo_getf_tl _ _ _), ?_⟩
  refine List.forall_mem_cons.mpr ⟨zo_none_tl, ?_⟩
  refine List.forall_mem_cons.mpr ⟨zo_none_tl, ?_⟩
  refine List.forall_mem_cons.mpr ⟨(zo_iload_tl _ _), ?_⟩
  refine List.forall_mem_cons.mpr ⟨zo_none_tl, ?_⟩
  refine List.forall_mem_cons.mpr ⟨(zo_iald_tl _ _ _), ?_⟩
  refine List.forall_mem_cons.mpr ⟨(zo_icmp_tl _ _ _), ?_⟩
  refine List.forall_mem_cons.mpr ⟨zo_none_tl, ?_⟩
  refine List.forall_mem_cons.mpr ⟨zo_none_tl, ?_⟩
  refine List.forall_mem_cons.mpr ⟨(zo_pushI_tl _ _), ?_⟩
  refine List.forall_mem_cons.mpr ⟨(zo_goto_tl _), ?_⟩
  refine List.forall_mem_cons.mpr ⟨zo_none_tl, ?_⟩
  refine List.forall_mem_cons.mpr ⟨zo_none_tl, ?_⟩
  refine List.forall_mem_cons.mpr ⟨(zo_pushI_tl _ _), ?_⟩
  refine List.forall_mem_cons.mpr ⟨(zo_istore_tl _ _), ?_⟩
  refine List.forall_mem_cons.mpr ⟨(zo_iinc_tl _ _ _), ?_⟩
  refine List.forall_mem_cons.mpr ⟨zo_none_tl, ?_⟩
  refine List.forall_mem_cons.mpr ⟨zo_none_tl, ?_⟩
  refine List.forall_mem_cons.mpr ⟨(zo_goto_tl _), ?_⟩
  refine List.forall_mem_cons.mpr ⟨zo_none_tl, ?_⟩
  refine List.forall_mem_cons.mpr ⟨zo_none_tl, ?_⟩
  refine List.forall_mem_cons.mpr ⟨(zo_iload_tl _ _), ?_⟩
  refine List.forall_mem_cons.mpr ⟨(zo_if_tl _ _ _), ?_⟩
  refine List.forall_mem_cons.mpr ⟨zo_none_tl, ?_⟩
  refine List.forall_mem_cons.mpr ⟨zo_none_tl, ?_⟩
  refine List.forall_mem_cons.mpr ⟨(zo_pushI_tl _ _), ?_⟩
  refine List.forall_mem_cons.mpr ⟨(zo_iret_tl _), ?_⟩
  refine List.forall_mem_cons.mpr ⟨(zo_iinc_tl _ _ _), ?_⟩
  refine List.forall_mem_cons.mpr ⟨zo_none_tl, ?_⟩
  refine List.forall_mem_cons.mpr ⟨zo_none_tl, ?_⟩
  refine List.forall_mem_cons.mpr ⟨(zo_goto_tl _), ?_⟩
  refine List.forall_mem_cons.mpr ⟨zo_none_tl, ?_⟩
  refine List.forall_mem_cons.mpr ⟨zo_none_tl, ?_⟩
  refine List.forall_mem_cons.mpr ⟨(zo_pushI_tl _ _), ?_⟩
  refine List.forall_mem_cons.mpr ⟨(zo_iret_tl _), ?_⟩
  exact fun _ h => absurd h List.not_mem_nil
noncomputable def fX0_settles : zzFn := zz_fn tX0_settles 5
set_option maxRecDepth 100000 in
set_option maxHeartbeats 4000000 in
theorem mm_X0_settles {l : Launch} {D : va_G} {cA : Nat → ClassId} {ad : Nat → Nat} {Ex : (Nat → Prop) → State → Heap → Prop} (Wd : zzWC l D cA ad Ex) : zz_Cn l D zzCl cA ad zzSC Ex yX0_settles cX0_settles 5 (some .boolean) 1 26 fX0_settles ∧ zz_Cx l D zzCl cA ad zzSC Ex yX0_settles cX0_settles 5 (some .boolean) 1 26 fX0_settles := by
  refine zz_meth (plainFor_of_name (by decide)) Wd.1 Wd.2.1 Wd.2.2.1 (fun p e R s m args below meth c rr X => ?_)
  unfold tX0_settles
  refine zz_cons (k' := 1) rfl (zk_iconst X dX0_settles_0 (by decide) rfl) ?_
  refine zz_cons (k' := 2) rfl (zk_istore_n X dX0_settles_1 rfl (by decide) rfl) ?_
  refine zz_cons (k' := 3) rfl (zk_iload_n X dX0_settles_2 rfl rfl) ?_
  refine zz_cons (k' := 4) rfl (zk_bipush X dX0_settles_3 (by decide) rfl) ?_
  refine zz_cons (k' := 5) rfl (zz_Ok_none _ _) ?_
  refine zz_cons (k' := 6) rfl (zk_icmp_ge X dX0_settles_5 (by decide) rfl) ?_
  refine zz_cons (k' := 7) rfl (zz_Ok_none _ _) ?_
  refine zz_cons (k' := 8) rfl (zz_Ok_none _ _) ?_
  refine zz_cons (k' := 9) rfl (zk_aload_n X dX0_settles_8 rfl rfl) ?_
  refine zz_cons (k' := 10) rfl (zk_iconst X dX0_settles_9 (by decide) rfl) ?_
  refine zz_cons (k' := 11) rfl (zk_aload_n X dX0_settles_10 rfl rfl) ?_
  refine zz_cons (k' := 12) rfl (zk_getf X ff_X0_18 dX0_settles_11 rfl) ?_
  refine zz_cons (k' := 13) rfl (zz_Ok_none _ _) ?_
  refine zz_cons (k' := 14) rfl (zz_Ok_none _ _) ?_
  refine zz_cons (k' := 15) rfl (zk_iconst X dX0_settles_14 (by decide) rfl) ?_
  refine zz_cons (k' := 16) rfl (zk_bipush X dX0_settles_15 (by decide) rfl) ?_
  refine zz_cons (k' := 17) rfl (zz_Ok_none _ _) ?_
  refine zz_cons (k' := 18) rfl (zk_copy X (zz_in (by decide +kernel)) (zz_in (by decide +kernel)) (zz_in (by decide +kernel)) (zz_in (by decide +kernel)) (by decide +kernel) dX0_settles_17 rfl) ?_
  refine zz_cons (k' := 19) rfl (zz_Ok_none _ _) ?_
  refine zz_cons (k' := 20) rfl (zz_Ok_none _ _) ?_
  refine zz_cons (k' := 21) rfl (zk_aload_n X dX0_settles_20 rfl rfl) ?_
  refine zz_cons (k' := 22) rfl (zk_aload_n X dX0_settles_21 rfl rfl) ?_
  refine zz_cons (k' := 23) rfl (zk_callv X (zz_Cv_of (List.forall_mem_cons.mpr ⟨⟨(RX_0, zzT0, 6), yX0_runRules, cX0_runRules, 5, none, 0, 0, rfl, kv_X0_37_0.1, (mm_X0_runRules Wd).1, by decide, by decide⟩, (fun _ h => absurd h List.not_mem_nil)⟩)) dX0_settles_22 rfl) ?_
  refine zz_cons (k' := 24) rfl (zz_Ok_none _ _) ?_
  refine zz_cons (k' := 25) rfl (zz_Ok_none _ _) ?_
  refine zz_cons (k' := 26) rfl (zk_iconst X dX0_settles_25 (by decide) rfl) ?_
  refine zz_cons (k' := 27) rfl (zk_istore_n X dX0_settles_26 rfl (by decide) rfl) ?_
  refine zz_cons (k' := 28) rfl (zk_iconst X dX0_settles_27 (by decide) rfl) ?_
  refine zz_cons (k' := 29) rfl (zk_istore X dX0_settles_28 (by decide) rfl) ?_
  refine zz_cons (k' := 30) rfl (zz_Ok_none _ _) ?_
  refine zz_cons (k' := 31) rfl (zk_iload X dX0_settles_30 rfl) ?_
  refine zz_cons (k' := 32) rfl (zz_Ok_none _ _) ?_
  refine zz_cons (k' := 33) rfl (zk_bipush X dX0_settles_32 (by decide) rfl) ?_
  refine zz_cons (k' := 34) rfl (zz_Ok_none _ _) ?_
  refine zz_cons (k' := 35) rfl (zk_icmp_ge X dX0_settles_34 (by decide) rfl) ?_
  refine zz_cons (k' := 36) rfl (zz_Ok_none _ _) ?_
  refine zz_cons (k' := 37) rfl (zz_Ok_none _ _) ?_
  refine zz_cons (k' := 38) rfl (zk_iload_n X dX0_settles_37 rfl rfl) ?_
  refine zz_cons (k' := 39) rfl (zk_if_eq X dX0_settles_38 (by decide) rfl) ?_
  refine zz_cons (k' := 40) rfl (zz_Ok_none _ _) ?_
  refine zz_cons (k' := 41) rfl (zz_Ok_none _ _) ?_
  refine zz_cons (k' := 42) rfl (zk_aload_n X dX0_settles_41 rfl rfl) ?_
  refine zz_cons (k' := 43) rfl (zk_iload X dX0_settles_42 rfl) ?_
  refine zz_cons (k' := 44) rfl (zz_Ok_none _ _) ?_
  refine zz_cons (k' := 45) rfl (zk_iald X (zzWC_st Wd) dX0_settles_44 rfl) ?_
  refine zz_cons (k' := 46) rfl (zk_aload_n X dX0_settles_45 rfl rfl) ?_
  refine zz_cons (k' := 47) rfl (zk_getf X ff_X0_18 dX0_settles_46 rfl) ?_
  refine zz_cons (k' := 48) rfl (zz_Ok_none _ _) ?_
  refine zz_cons (k' := 49) rfl (zz_Ok_none _ _) ?_
  refine zz_cons (k' := 50) rfl (zk_iload X dX0_settles_49 rfl) ?_
  refine zz_cons (k' := 51) rfl (zz_Ok_none _ _) ?_
  refine zz_cons (k' := 52) rfl (zk_iald X (zzWC_st Wd) dX0_settles_51 rfl) ?_
  refine zz_cons (k' := 53) rfl (zk_icmp_ne X dX0_settles_52 (by decide) rfl) ?_
  refine zz_cons (k' := 54) rfl (zz_Ok_none _ _) ?_
  refine zz_cons (k' := 55) rfl (zz_Ok_none _ _) ?_
  refine zz_cons (k' := 56) rfl (zk_iconst X dX0_settles_55 (by decide) rfl) ?_
  refine zz_cons (k' := 57) rfl (zk_goto X dX0_settles_56 (by decide)) ?_
  refine zz_cons (k' := 58) rfl (zz_Ok_none _ _) ?_
  refine zz_cons (k' := 59) rfl (zz_Ok_none _ _) ?_
  refine zz_cons (k' := 60) rfl (zk_iconst X dX0_settles_59 (by decide) rfl) ?_
  refine zz_cons (k' := 61) rfl (zk_istore_n X dX0_settles_60 rfl (by decide) rfl) ?_
  refine zz_cons (k' := 62) rfl (zk_iinc X dX0_settles_61 (by decide) (by decide) rfl) ?_
  refine zz_cons (k' := 63) rfl (zz_Ok_none _ _) ?_
  refine zz_cons (k' := 64) rfl (zz_Ok_none _ _) ?_
  refine zz_cons (k' := 65) rfl (zk_goto X dX0_settles_64 (by decide)) ?_
  refine zz_cons (k' := 66) rfl (zz_Ok_none _ _) ?_
  refine zz_cons (k' := 67) rfl (zz_Ok_none _ _) ?_
  refine zz_cons (k' := 68) rfl (zk_iload_n X dX0_settles_67 rfl rfl) ?_
  refine zz_cons (k' := 69) rfl (zk_if_eq X dX0_settles_68 (by decide) rfl) ?_
  refine zz_cons (k' := 70) rfl (zz_Ok_none _ _) ?_
  refine zz_cons (k' := 71) rfl (zz_Ok_none _ _) ?_
  refine zz_cons (k' := 72) rfl (zk_iconst X dX0_settles_71 (by decide) rfl) ?_
  refine zz_cons (k' := 73) rfl (zk_iret X rfl dX0_settles_72) ?_
  refine zz_cons (k' := 74) rfl (zk_iinc X dX0_settles_73 (by decide) (by decide) rfl) ?_
  refine zz_cons (k' := 75) rfl (zz_Ok_none _ _) ?_
  refine zz_cons (k' := 76) rfl (zz_Ok_none _ _) ?_
  refine zz_cons (k' := 77) rfl (zk_goto X dX0_settles_76 (by decide)) ?_
  refine zz_cons (k' := 78) rfl (zz_Ok_none _ _) ?_
  refine zz_cons (k' := 79) rfl (zz_Ok_none _ _) ?_
  refine zz_cons (k' := 80) rfl (zk_iconst X dX0_settles_79 (by decide) rfl) ?_
  refine zz_cons (k' := 81) rfl (zk_iret X rfl dX0_settles_80) ?_
  exact trivial
noncomputable def tX0_allows : List zzOp := [
  zo_aload 1 1,
  zo_pushI 23 3,
  zo_none,
  zo_iald zzSC zzSTC 4,
  zo_if (fun x => decide (¬ x = 0)) 21 7,
  zo_none,
  zo_none,
  zo_aload 1 8,
  zo_pushI 2 9,
  zo_iald zzSC zzSTC 10,
  zo_if (fun x => decide (¬ x = 0)) 21 13,
  zo_none,
  zo_none,
  zo_aload 1 14,
  zo_pushI 3 15,
  zo_iald zzSC zzSTC 16,
  zo_if (fun x => decide (¬ x = 0)) 21 19,
  zo_none,
  zo_none,
  zo_pushI 0 20,
  zo_iret true,
  zo_pushI 0 22,
  zo_istore 2 23,
  zo_iload 2 24,
  zo_aload 0 25,
  zo_getf zzSC (zz_kf [0] 4) 28,
  zo_none,
  zo_none,
  zo_icmp (fun x y => decide (y ≤ x)) 77 31,
  zo_none,
  zo_none,
  zo_iload 2 32,
  zo_pushI 3 33,
  zo_ii (fun x y => x * y) 34,
  zo_istore 3 35,
  zo_aload 0 36,
  zo_getf zzSC (zz_kf [0] 1) 39,
  zo_none,
  zo_none,
  zo_iload 3 40,
  zo_iald zzSC zzSTC 41,
  zo_aload 1 42,
  zo_pushI 23 44,
  zo_none,
  zo_iald zzSC zzSTC 45,
  zo_icmp (fun x y => decide (¬ x = y)) 71 48,
  zo_none,
  zo_none,
  zo_aload 1 49,
  zo_aload 0 50,
  zo_getf zzSC (zz_kf [0] 1) 53,
  zo_none,
  zo_none,
  zo_iload 3 54,
  zo_pushI 1 55,
  zo_ii (fun x y => x + y) 56,
  zo_iald zzSC zzSTC 57,
  zo_iald zzSC zzSTC 58,
  zo_aload 0 59,
  zo_getf zzSC (zz_kf [0] 1) 62,
  zo_none,
  zo_none,
  zo_iload 3 63,
  zo_pushI 2 64,
  zo_ii (fun x y => x + y) 65,
  zo_iald zzSC zzSTC 66,
  zo_icmp (fun x y => decide (x ≤ y)) 71 69,
  zo_none,
  zo_none,
  zo_pushI 0 70,
  zo_iret true,
  zo_iinc 2 1 74,
  zo_none,
  zo_none,
  zo_goto 23,
  zo_none,
  zo_none,
  zo_pushI 1 78,
  zo_iret true]
set_option maxRecDepth 100000 in
theorem tl_X0_allows : ∀ pc, zz_Tl (tX0_allows.getD pc zo_none) := by
  refine zz_Tl_mem ?_
  unfold tX0_allows
  refine List.forall_mem_cons.mpr ⟨(zo_aload_tl _ _), ?_⟩
  refine List.forall_mem_cons.mpr ⟨(zo_pushI_tl _ _), ?_⟩
  refine List.forall_mem_cons.mpr ⟨zo_none_tl, ?_⟩
  refine List.forall_mem_cons.mpr ⟨(zo_iald_tl _ _ _), ?_⟩
  refine List.forall_mem_cons.mpr ⟨(zo_if_tl _ _ _), ?_⟩
  refine List.forall_mem_cons.mpr ⟨zo_none_tl, ?_⟩
  refine List.forall_mem_cons.mpr ⟨zo_none_tl, ?_⟩
  refine List.forall_mem_cons.mpr ⟨(zo_aload_tl _ _), ?_⟩
  refine List.forall_mem_cons.mpr ⟨(zo_pushI_tl _ _), ?_⟩
  refine List.forall_mem_cons.mpr ⟨(zo_iald_tl _ _ _), ?_⟩
  refine List.forall_mem_cons.mpr ⟨(zo_if_tl _ _ _), ?_⟩
  refine List.forall_mem_cons.mpr ⟨zo_none_tl, ?_⟩
  refine List.forall_mem_cons.mpr ⟨zo_none_tl, ?_⟩
  refine List.forall_mem_cons.mpr ⟨(zo_aload_tl _ _), ?_⟩
  refine List.forall_mem_cons.mpr ⟨(zo_pushI_tl _ _), ?_⟩
  refine List.forall_mem_cons.mpr ⟨(zo_iald_tl _ _ _), ?_⟩
  refine List.forall_mem_cons.mpr ⟨(zo_if_tl _ _ _), ?_⟩
  refine List.forall_mem_cons.mpr ⟨zo_none_tl, ?_⟩
  refine List.forall_mem_cons.mpr ⟨zo_none_tl, ?_⟩
  refine List.forall_mem_cons.mpr ⟨(zo_pushI_tl _ _), ?_⟩
  refine List.forall_mem_cons.mpr ⟨(zo_iret_tl _), ?_⟩
  refine List.forall_mem_cons.mpr ⟨(zo_pushI_tl _ _), ?_⟩
  refine List.forall_mem_cons.mpr ⟨(zo_istore_tl _ _), ?_⟩
  refine List.forall_mem_cons.mpr ⟨(zo_iload_tl _ _), ?_⟩
  refine List.forall_mem_cons.mpr ⟨(zo_aload_tl _ _), ?_⟩
  refine List.forall_mem_cons.mpr ⟨(zo_getf_tl _ _ _), ?_⟩
  refine List.forall_mem_cons.mpr ⟨zo_none_tl, ?_⟩
  refine List.forall_mem_cons.mpr ⟨zo_none_tl, ?_⟩
  refine List.forall_mem_cons.mpr ⟨(zo_icmp_tl _ _ _), ?_⟩
  refine List.forall_mem_cons.mpr ⟨zo_none_tl, ?_⟩
  refine List.forall_mem_cons.mpr ⟨zo_none_tl, ?_⟩
  refine List.forall_mem_cons.mpr ⟨(zo_iload_tl _ _), ?_⟩
  refine List.forall_mem_cons.mpr ⟨(zo_pushI_tl _ _), ?_⟩
  refine List.forall_mem_cons.mpr ⟨(zo_ii_tl _ _), ?_⟩
  refine List.forall_mem_cons.mpr ⟨(zo_istore_tl _ _), ?_⟩
  refine List.forall_mem_cons.mpr ⟨(zo_aload_tl _ _), ?_⟩
  refine List.forall_mem_cons.mpr ⟨(zo_getf_tl _ _ _), ?_⟩
  refine List.forall_mem_cons.mpr ⟨zo_none_tl, ?_⟩
  refine List.forall_mem_cons.mpr ⟨zo_none_tl, ?_⟩
  refine List.forall_mem_cons.mpr ⟨(zo_iload_tl _ _), ?_⟩
  refine List.forall_mem_cons.mpr ⟨(zo_iald_tl _ _ _), ?_⟩
  refine List.forall_mem_cons.mpr ⟨(zo_aload_tl _ _), ?_⟩
  refine List.forall_mem_cons.mpr ⟨(zo_pushI_tl _ _), ?_⟩
  refine List.forall_mem_cons.mpr ⟨zo_none_tl, ?_⟩
  refine List.forall_mem_cons.mpr ⟨(zo_iald_tl _ _ _), ?_⟩
  refine List.forall_mem_cons.mpr ⟨(zo_icmp_tl _ _ _), ?_⟩
  refine List.forall_mem_cons.mpr ⟨zo_none_tl, ?_⟩
  refine List.forall_mem_cons.mpr ⟨zo_none_tl, ?_⟩
  refine List.forall_mem_cons.mpr ⟨(zo_aload_tl _ _), ?_⟩
  refine List.forall_mem_cons.mpr ⟨(zo_aload_tl _ _), ?_⟩
  refine List.forall_mem_cons.mpr ⟨(zo_getf_tl _ _ _), ?_⟩
  refine List.forall_mem_cons.mpr ⟨zo_none_tl, ?_⟩
  refine List.forall_mem_cons.mpr ⟨zo_none_tl, ?_⟩
  refine List.forall_mem_cons.mpr ⟨(zo_iload_tl _ _), ?_⟩
  refine List.forall_mem_cons.mpr ⟨(zo_pushI_tl _ _), ?_⟩
  refine List.forall_mem_cons.mpr ⟨(zo_ii_tl _ _), ?_⟩
  refine List.forall_mem_cons.mpr ⟨(zo_iald_tl _ _ _), ?_⟩
  refine List.forall_mem_cons.mpr ⟨(zo_iald_tl _ _ _), ?_⟩
  refine List.forall_mem_cons.mpr ⟨(zo_aload_tl _ _), ?_⟩
  refine List.forall_mem_cons.mpr ⟨(zo_getf_tl _ _ _), ?_⟩
  refine List.forall_mem_cons.mpr ⟨zo_none_tl, ?_⟩
  refine List.forall_mem_cons.mpr ⟨zo_none_tl, ?_⟩
  refine List.forall_mem_cons.mpr ⟨(zo_iload_tl _ _), ?_⟩
  refine List.forall_mem_cons.mpr ⟨(zo_pushI_tl _ _), ?_⟩
  refine List.forall_mem_cons.mpr ⟨(zo_ii_tl _ _), ?_⟩
  refine List.forall_mem_cons.mpr ⟨(zo_iald_tl _ _ _), ?_⟩
  refine List.forall_mem_cons.mpr ⟨(zo_icmp_tl _ _ _), ?_⟩
  refine List.forall_mem_cons.mpr ⟨zo_none_tl, ?_⟩
  refine List.forall_mem_cons.mpr ⟨zo_none_tl, ?_⟩
  refine List.forall_mem_cons.mpr ⟨(zo_pushI_tl _ _), ?_⟩
  refine List.forall_mem_cons.mpr ⟨(zo_iret_tl _), ?_⟩
  refine List.forall_mem_cons.mpr ⟨(zo_iinc_tl _ _ _), ?_⟩
  refine List.forall_mem_cons.mpr ⟨zo_none_tl, ?_⟩
  refine List.forall_mem_cons.mpr ⟨zo_none_tl, ?_⟩
  refine List.forall_mem_cons.mpr ⟨(zo_goto_tl _), ?_⟩
  refine List.forall_mem_cons.mpr ⟨zo_none_tl, ?_⟩
  refine List.forall_mem_cons.mpr ⟨zo_none_tl, ?_⟩
  refine List.forall_mem_cons.mpr ⟨(zo_pushI_tl _ _), ?_⟩
  refine List.forall_mem_cons.mpr ⟨(zo_iret_tl _), ?_⟩
  exact fun _ h => absurd h List.not_mem_nil
noncomputable def fX0_allows : zzFn := zz_fn tX0_allows 4
set_option maxRecDepth 100000 in
set_option maxHeartbeats 4000000 in
theorem mm_X0_allows {l : Launch} {D : va_G} {cA : Nat → ClassId} {ad : Nat → Nat} {Ex : (Nat → Prop) → State → Heap → Prop} (Wd : zzWC l D cA ad Ex) : zz_Cn l D zzCl cA ad zzSC Ex yX0_allows cX0_allows 4 (some .boolean) 0 0 fX0_allows ∧ zz_Cx l D zzCl cA ad zzSC Ex yX0_allows cX0_allows 4 (some .boolean) 0 0 fX0_allows := by
  refine zz_meth (plainFor_of_name (by decide)) Wd.1 Wd.2.1 Wd.2.2.1 (fun p e R s m args below meth c rr X => ?_)
  unfold tX0_allows
  refine zz_cons (k' := 1) rfl (zk_aload_n X dX0_allows_0 rfl rfl) ?_
  refine zz_cons (k' := 2) rfl (zk_bipush X dX0_allows_1 (by decide) rfl) ?_
  refine zz_cons (k' := 3) rfl (zz_Ok_none _ _) ?_
  refine zz_cons (k' := 4) rfl (zk_iald X (zzWC_st Wd) dX0_allows_3 rfl) ?_
  refine zz_cons (k' := 5) rfl (zk_if_ne X dX0_allows_4 (by decide) rfl) ?_
  refine zz_cons (k' := 6) rfl (zz_Ok_none _ _) ?_
  refine zz_cons (k' := 7) rfl (zz_Ok_none _ _) ?_
  refine zz_cons (k' := 8) rfl (zk_aload_n X dX0_allows_7 rfl rfl) ?_
  refine zz_cons (k' := 9) rfl (zk_iconst X dX0_allows_8 (by decide) rfl) ?_
  refine zz_cons (k' := 10) rfl (zk_iald X (zzWC_st Wd) dX0_allows_9 rfl) ?_
  refine zz_cons (k' := 11) rfl (zk_if_ne X dX0_allows_10 (by decide) rfl) ?_
  refine zz_cons (k' := 12) rfl (zz_Ok_none _ _) ?_
  refine zz_cons (k' := 13) rfl (zz_Ok_none _ _) ?_
  refine zz_cons (k' := 14) rfl (zk_aload_n X dX0_allows_13 rfl rfl) ?_
  refine zz_cons (k' := 15) rfl (zk_iconst X dX0_allows_14 (by decide) rfl) ?_
  refine zz_cons (k' := 16) rfl (zk_iald X (zzWC_st Wd) dX0_allows_15 rfl) ?_
  refine zz_cons (k' := 17) rfl (zk_if_ne X dX0_allows_16 (by decide) rfl) ?_
  refine zz_cons (k' := 18) rfl (zz_Ok_none _ _) ?_
  refine zz_cons (k' := 19) rfl (zz_Ok_none _ _) ?_
  refine zz_cons (k' := 20) rfl (zk_iconst X dX0_allows_19 (by decide) rfl) ?_
  refine zz_cons (k' := 21) rfl (zk_iret X rfl dX0_allows_20) ?_
  refine zz_cons (k' := 22) rfl (zk_iconst X dX0_allows_21 (by decide) rfl) ?_
  refine zz_cons (k' := 23) rfl (zk_istore_n X dX0_allows_22 rfl (by decide) rfl) ?_
  refine zz_cons (k' := 24) rfl (zk_iload_n X dX0_allows_23 rfl rfl) ?_
  refine zz_cons (k' := 25) rfl (zk_aload_n X dX0_allows_24 rfl rfl) ?_
  refine zz_cons (k' := 26) rfl (zk_getf X ff_X0_28 dX0_allows_25 rfl) ?_
  refine zz_cons (k' := 27) rfl (zz_Ok_none _ _) ?_
  refine zz_cons (k' := 28) rfl (zz_Ok_none _ _) ?_
  refine zz_cons (k' := 29) rfl (zk_icmp_ge X dX0_allows_28 (by decide) rfl) ?_
  refine zz_cons (k' := 30) rfl (zz_Ok_none _ _) ?_
  refine zz_cons (k' := 31) rfl (zz_Ok_none _ _) ?_
  refine zz_cons (k' := 32) rfl (zk_iload_n X dX0_allows_31 rfl rfl) ?_
  refine zz_cons (k' := 33) rfl (zk_iconst X dX0_allows_32 (by decide) rfl) ?_
  refine zz_cons (k' := 34) rfl (zk_imul X dX0_allows_33 rfl) ?_
  refine zz_cons (k' := 35) rfl (zk_istore_n X dX0_allows_34 rfl (by decide) rfl) ?_
  refine zz_cons (k' := 36) rfl (zk_aload_n X dX0_allows_35 rfl rfl) ?_
  refine zz_cons (k' := 37) rfl (zk_getf X ff_X0_15 dX0_allows_36 rfl) ?_
  refine zz_cons (k' := 38) rfl (zz_Ok_none _ _) ?_
  refine zz_cons (k' := 39) rfl (zz_Ok_none _ _) ?_
  refine zz_cons (k' := 40) rfl (zk_iload_n X dX0_allows_39 rfl rfl) ?_
  refine zz_cons (k' := 41) rfl (zk_iald X (zzWC_st Wd) dX0_allows_40 rfl) ?_
  refine zz_cons (k' := 42) rfl (zk_aload_n X dX0_allows_41 rfl rfl) ?_
  refine zz_cons (k' := 43) rfl (zk_bipush X dX0_allows_42 (by decide) rfl) ?_
  refine zz_cons (k' := 44) rfl (zz_Ok_none _ _) ?_
  refine zz_cons (k' := 45) rfl (zk_iald X (zzWC_st Wd) dX0_allows_44 rfl) ?_
  refine zz_cons (k' := 46) rfl (zk_icmp_ne X dX0_allows_45 (by decide) rfl) ?_
  refine zz_cons (k' := 47) rfl (zz_Ok_none _ _) ?_
  refine zz_cons (k' := 48) rfl (zz_Ok_none _ _) ?_
  refine zz_cons (k' := 49) rfl (zk_aload_n X dX0_allows_48 rfl rfl) ?_
  refine zz_cons (k' := 50) rfl (zk_aload_n X dX0_allows_49 rfl rfl) ?_
  refine zz_cons (k' := 51) rfl (zk_getf X ff_X0_15 dX0_allows_50 rfl) ?_
  refine zz_cons (k' := 52) rfl (zz_Ok_none _ _) ?_
  refine zz_cons (k' := 53) rfl (zz_Ok_none _ _) ?_
  refine zz_cons (k' := 54) rfl (zk_iload_n X dX0_allows_53 rfl rfl) ?_
  refine zz_cons (k' := 55) rfl (zk_iconst X dX0_allows_54 (by decide) rfl) ?_
  refine zz_cons (k' := 56) rfl (zk_iadd X dX0_allows_55 rfl) ?_
  refine zz_cons (k' := 57) rfl (zk_iald X (zzWC_st Wd) dX0_allows_56 rfl) ?_
  refine zz_cons (k' := 58) rfl (zk_iald X (zzWC_st Wd) dX0_allows_57 rfl) ?_
  refine zz_cons (k' := 59) rfl (zk_aload_n X dX0_allows_58 rfl rfl) ?_
  refine zz_cons (k' := 60) rfl (zk_getf X ff_X0_15 dX0_allows_59 rfl) ?_
  refine zz_cons (k' := 61) rfl (zz_Ok_none _ _) ?_
  refine zz_cons (k' := 62) rfl (zz_Ok_none _ _) ?_
  refine zz_cons (k' := 63) rfl (zk_iload_n X dX0_allows_62 rfl rfl) ?_
  refine zz_cons (k' := 64) rfl (zk_iconst X dX0_allows_63 (by decide) rfl) ?_
  refine zz_cons (k' := 65) rfl (zk_iadd X dX0_allows_64 rfl) ?_
  refine zz_cons (k' := 66) rfl (zk_iald X (zzWC_st Wd) dX0_allows_65 rfl) ?_
  refine zz_cons (k' := 67) rfl (zk_icmp_le X dX0_allows_66 (by decide) rfl) ?_
  refine zz_cons (k' := 68) rfl (zz_Ok_none _ _) ?_
  refine zz_cons (k' := 69) rfl (zz_Ok_none _ _) ?_
  refine zz_cons (k' := 70) rfl (zk_iconst X dX0_allows_69 (by decide) rfl) ?_
  refine zz_cons (k' := 71) rfl (zk_iret X rfl dX0_allows_70) ?_
  refine zz_cons (k' := 72) rfl (zk_iinc X dX0_allows_71 (by decide) (by decide) rfl) ?_
  refine zz_cons (k' := 73) rfl (zz_Ok_none _ _) ?_
  refine zz_cons (k' := 74) rfl (zz_Ok_none _ _) ?_
  refine zz_cons (k' := 75) rfl (zk_goto X dX0_allows_74 (by decide)) ?_
  refine zz_cons (k' := 76) rfl (zz_Ok_none _ _) ?_
  refine zz_cons (k' := 77) rfl (zz_Ok_none _ _) ?_
  refine zz_cons (k' := 78) rfl (zk_iconst X dX0_allows_77 (by decide) rfl) ?_
  refine zz_cons (k' := 79) rfl (zk_iret X rfl dX0_allows_78) ?_
  exact trivial
noncomputable def tX10_read : List zzOp := [
  zo_iload 1 1,
  zo_if (fun x => decide (x < 0)) 20 4,
  zo_none,
  zo_none,
  zo_iload 1 5,
  zo_pushI 60 7,
  zo_none,
  zo_icmp (fun x y => decide (y ≤ x)) 20 10,
  zo_none,
  zo_none,
  zo_iload 2 11,
  zo_if (fun x => decide (x < 0)) 20 14,
  zo_none,
  zo_none,
  zo_iload 2 15,
  zo_pushI 32 17,
  zo_none,
  zo_icmp (fun x y => decide (x < y)) 22 20,
  zo_none,
  zo_none,
  zo_pushI (-1) 21,
  zo_iret false,
  zo_aload 0 23,
  zo_getf zzSC (zz_kf [1, 2, 3, 4, 5, 6, 7, 8] 0) 26,
  zo_none,
  zo_none,
  zo_aload 0 27,
  zo_getf zzSC (zz_kf [1, 2, 3, 4, 5, 6, 7, 8] 1) 30,
  zo_none,
  zo_none,
  zo_iload 1 31,
  zo_iald zzSC zzSTC 32,
  zo_pushI 32 34,
  zo_none,
  zo_ii (fun x y => x * y) 35,
  zo_iload 2 36,
  zo_ii (fun x y => x + y) 37,
  zo_iald zzSC zzSTC 38,
  zo_iret false]
set_option maxRecDepth 100000 in
theorem tl_X10_read : ∀ pc, zz_Tl (tX10_read.getD pc zo_none) := by
  refine zz_Tl_mem ?_
  unfold tX10_read
  refine List.forall_mem_cons.mpr ⟨(zo_iload_tl _ _), ?_⟩
  refine List.forall_mem_cons.mpr ⟨(zo_if_tl _ _ _), ?_⟩
  refine List.forall_mem_cons.mpr ⟨zo_none_tl, ?_⟩
  refine List.forall_mem_cons.mpr ⟨zo_none_tl, ?_⟩
  refine List.forall_mem_cons.mpr ⟨(zo_iload_tl _ _), ?_⟩
  refine List.forall_mem_cons.mpr ⟨(zo_pushI_tl _ _), ?_⟩
  refine List.forall_mem_cons.mpr ⟨zo_none_tl, ?_⟩
  refine List.forall_mem_cons.mpr ⟨(zo_icmp_tl _ _ _), ?_⟩
  refine List.forall_mem_cons.mpr ⟨zo_none_tl, ?_⟩
  refine List.forall_mem_cons.mpr ⟨zo_none_tl, ?_⟩
  refine List.forall_mem_cons.mpr ⟨(zo_iload_tl _ _), ?_⟩
  refine List.forall_mem_cons.mpr ⟨(zo_if_tl _ _ _), ?_⟩
  refine List.forall_mem_cons.mpr ⟨zo_none_tl, ?_⟩
  refine List.forall_mem_cons.mpr ⟨zo_none_tl, ?_⟩
  refine List.forall_mem_cons.mpr ⟨(zo_iload_tl _ _), ?_⟩
  refine List.forall_mem_cons.mpr ⟨(zo_pushI_tl _ _), ?_⟩
  refine List.forall_mem_cons.mpr ⟨zo_none_tl, ?_⟩
  refine List.forall_mem_cons.mpr ⟨(zo_icmp_tl _ _ _), ?_⟩
  refine List.forall_mem_cons.mpr ⟨zo_none_tl, ?_⟩
  refine List.forall_mem_cons.mpr ⟨zo_none_tl, ?_⟩
  refine List.forall_mem_cons.mpr ⟨(zo_pushI_tl _ _), ?_⟩
  refine List.forall_mem_cons.mpr ⟨(zo_iret_tl _), ?_⟩
  refine List.forall_mem_cons.mpr ⟨(zo_aload_tl _ _), ?_⟩
  refine List.forall_mem_cons.mpr ⟨(zo_getf_tl _ _ _), ?_⟩
  refine List.forall_mem_cons.mpr ⟨zo_none_tl, ?_⟩
  refine List.forall_mem_cons.mpr ⟨zo_none_tl, ?_⟩
  refine List.forall_mem_cons.mpr ⟨(zo_aload_tl _ _), ?_⟩
  refine List.forall_mem_cons.mpr ⟨(zo_getf_tl _ _ _), ?_⟩
  refine List.forall_mem_cons.mpr ⟨zo_none_tl, ?_⟩
  refine List.forall_mem_cons.mpr ⟨zo_none_tl, ?_⟩
  refine List.forall_mem_cons.mpr ⟨(zo_iload_tl _ _), ?_⟩
  refine List.forall_mem_cons.mpr ⟨(zo_iald_tl _ _ _), ?_⟩
  refine List.forall_mem_cons.mpr ⟨(zo_pushI_tl _ _), ?_⟩
  refine List.forall_mem_cons.mpr ⟨zo_none_tl, ?_⟩
  refine List.forall_mem_cons.mpr ⟨(zo_ii_tl _ _), ?_⟩
  refine List.forall_mem_cons.mpr ⟨(zo_iload_tl _ _), ?_⟩
  refine List.forall_mem_cons.mpr ⟨(zo_ii_tl _ _), ?_⟩
  refine List.forall_mem_cons.mpr ⟨(zo_iald_tl _ _ _), ?_⟩
  refine List.forall_mem_cons.mpr ⟨(zo_iret_tl _), ?_⟩
  exact fun _ h => absurd h List.not_mem_nil
noncomputable def fX10_read : zzFn := zz_fn tX10_read 3
set_option maxRecDepth 100000 in
set_option maxHeartbeats 4000000 in
theorem mm_X10_read {l : Launch} {D : va_G} {cA : Nat → ClassId} {ad : Nat → Nat} {Ex : (Nat → Prop) → State → Heap → Prop} (Wd : zzWC l D cA ad Ex) : zz_Cn l D zzCl cA ad zzSC Ex yX10_read cX10_read 3 (some .int) 0 0 fX10_read ∧ zz_Cx l D zzCl cA ad zzSC Ex yX10_read cX10_read 3 (some .int) 0 0 fX10_read := by
  refine zz_meth (plainFor_of_name (by decide)) Wd.1 Wd.2.1 Wd.2.2.1 (fun p e R s m args below meth c rr X => ?_)
  unfold tX10_read
  refine zz_cons (k' := 1) rfl (zk_iload_n X dX10_read_0 rfl rfl) ?_
  refine zz_cons (k' := 2) rfl (zk_if_lt X dX10_read_1 (by decide) rfl) ?_
  refine zz_cons (k' := 3) rfl (zz_Ok_none _ _) ?_
  refine zz_cons (k' := 4) rfl (zz_Ok_none _ _) ?_
  refine zz_cons (k' := 5) rfl (zk_iload_n X dX10_read_4 rfl rfl) ?_
  refine zz_cons (k' := 6) rfl (zk_bipush X dX10_read_5 (by decide) rfl) ?_
  refine zz_cons (k' := 7) rfl (zz_Ok_none _ _) ?_
  refine zz_cons (k' := 8) rfl (zk_icmp_ge X dX10_read_7 (by decide) rfl) ?_
  refine zz_cons (k' := 9) rfl (zz_Ok_none _ _) ?_
  refine zz_cons (k' := 10) rfl (zz_Ok_none _ _) ?_
  refine zz_cons (k' := 11) rfl (zk_iload_n X dX10_read_10 rfl rfl) ?_
  refine zz_cons (k' := 12) rfl (zk_if_lt X dX10_read_11 (by decide) rfl) ?_
  refine zz_cons (k' := 13) rfl (zz_Ok_none _ _) ?_
  refine zz_cons (k' := 14) rfl (zz_Ok_none _ _) ?_
  refine zz_cons (k' := 15) rfl (zk_iload_n X dX10_read_14 rfl rfl) ?_
  refine zz_cons (k' := 16) rfl (zk_bipush X dX10_read_15 (by decide) rfl) ?_
  refine zz_cons (k' := 17) rfl (zz_Ok_none _ _) ?_
  refine zz_cons (k' := 18) rfl (zk_icmp_lt X dX10_read_17 (by decide) rfl) ?_
  refine zz_cons (k' := 19) rfl (zz_Ok_none _ _) ?_
  refine zz_cons (k' := 20) rfl (zz_Ok_none _ _) ?_
  refine zz_cons (k' := 21) rfl (zk_iconst X dX10_read_20 (by decide) rfl) ?_
  refine zz_cons (k' := 22) rfl (zk_iret X rfl dX10_read_21) ?_
  refine zz_cons (k' := 23) rfl (zk_aload_n X dX10_read_22 rfl rfl) ?_
  refine zz_cons (k' := 24) rfl (zk_getf X ff_X10_9 dX10_read_23 rfl) ?_
  refine zz_cons (k' := 25) rfl (zz_Ok_none _ _) ?_
  refine zz_cons (k' := 26) rfl (zz_Ok_none _ _) ?_
  refine zz_cons (k' := 27) rfl (zk_aload_n X dX10_read_26 rfl rfl) ?_
  refine zz_cons (k' := 28) rfl (zk_getf X ff_X10_15 dX10_read_27 rfl) ?_
  refine zz_cons (k' := 29) rfl (zz_Ok_none _ _) ?_
  refine zz_cons (k' := 30) rfl (zz_Ok_none _ _) ?_
  refine zz_cons (k' := 31) rfl (zk_iload_n X dX10_read_30 rfl rfl) ?_
  refine zz_cons (k' := 32) rfl (zk_iald X (zzWC_st Wd) dX10_read_31 rfl) ?_
  refine zz_cons (k' := 33) rfl (zk_bipush X dX10_read_32 (by decide) rfl) ?_
  refine zz_cons (k' := 34) rfl (zz_Ok_none _ _) ?_
  refine zz_cons (k' := 35) rfl (zk_imul X dX10_read_34 rfl) ?_
  refine zz_cons (k' := 36) rfl (zk_iload_n X dX10_read_35 rfl rfl) ?_
  refine zz_cons (k' := 37) rfl (zk_iadd X dX10_read_36 rfl) ?_
  refine zz_cons (k' := 38) rfl (zk_iald X (zzWC_st Wd) dX10_read_37 rfl) ?_
  refine zz_cons (k' := 39) rfl (zk_iret X rfl dX10_read_38) ?_
  exact trivial
noncomputable def tX10_isGone : List zzOp := [
  zo_aload 0 1,
  zo_iload 1 2,
  zo_pushI 25 4,
  zo_none,
  zo_callv zzSC (zz_cl [(1, fX10_read), (2, fX10_read), (3, fX10_read), (4, fX10_read), (5, fX10_read), (6, fX10_read), (7, fX10_read), (8, fX10_read)]) 2 7,
  zo_none,
  zo_none,
  zo_pushI 4 8,
  zo_icmp (fun x y => decide (¬ x = y)) 15 11,
  zo_none,
  zo_none,
  zo_pushI 1 12,
  zo_goto 16,
  zo_none,
  zo_none,
  zo_pushI 0 16,
  zo_iret true]
set_option maxRecDepth 100000 in
theorem tl_X10_isGone : ∀ pc, zz_Tl (tX10_isGone.getD pc zo_none) := by
  refine zz_Tl_mem ?_
  unfold tX10_isGone
  refine List.forall_mem_cons.mpr ⟨(zo_aload_tl _ _), ?_⟩
  refine List.forall_mem_cons.mpr ⟨(zo_iload_tl _ _), ?_⟩
  refine List.forall_mem_cons.mpr ⟨(zo_pushI_tl _ _), ?_⟩
  refine List.forall_mem_cons.mpr ⟨zo_none_tl, ?_⟩
  refine List.forall_mem_cons.mpr ⟨(zo_callv_tl _ _ _ _), ?_⟩
  refine List.forall_mem_cons.mpr ⟨zo_none_tl, ?_⟩
  refine List.forall_mem_cons.mpr ⟨zo_none_tl, ?_⟩
  refine List.forall_mem_cons.mpr ⟨(zo_pushI_tl _ _), ?_⟩
  refine List.forall_mem_cons.mpr ⟨(zo_icmp_tl _ _ _), ?_⟩
  refine List.forall_mem_cons.mpr ⟨zo_none_tl, ?_⟩
  refine List.forall_mem_cons.mpr ⟨zo_none_tl, ?_⟩
  refine List.forall_mem_cons.mpr ⟨(zo_pushI_tl _ _), ?_⟩
  refine List.forall_mem_cons.mpr ⟨(zo_goto_tl _), ?_⟩
  refine List.forall_mem_cons.mpr ⟨zo_none_tl, ?_⟩
  refine List.forall_mem_cons.mpr ⟨zo_none_tl, ?_⟩
  refine List.forall_mem_cons.mpr ⟨(zo_pushI_tl _ _), ?_⟩
  refine List.forall_mem_cons.mpr ⟨(zo_iret_tl _), ?_⟩
  exact fun _ h => absurd h List.not_mem_nil
noncomputable def fX10_isGone : zzFn := zz_fn tX10_isGone 2
set_option maxRecDepth 100000 in
set_option maxHeartbeats 4000000 in
theorem mm_X10_isGone {l : Launch} {D : va_G} {cA : Nat → ClassId} {ad : Nat → Nat} {Ex : (Nat → Prop) → State → Heap → Prop} (Wd : zzWC l D cA ad Ex) : zz_Cn l D zzCl cA ad zzSC Ex yX10_isGone cX10_isGone 2 (some .boolean) 1 22 fX10_isGone ∧ zz_Cx l D zzCl cA ad zzSC Ex yX10_isGone cX10_isGone 2 (some .boolean) 1 22 fX10_isGone := by
  refine zz_meth (plainFor_of_name (by decide)) Wd.1 Wd.2.1 Wd.2.2.1 (fun p e R s m args below meth c rr X => ?_)
  unfold tX10_isGone
  refine zz_cons (k' := 1) rfl (zk_aload_n X dX10_isGone_0 rfl rfl) ?_
  refine zz_cons (k' := 2) rfl (zk_iload_n X dX10_isGone_1 rfl rfl) ?_
  refine zz_cons (k' := 3) rfl (zk_bipush X dX10_isGone_2 (by decide) rfl) ?_
  refine zz_cons (k' := 4) rfl (zz_Ok_none _ _) ?_
  refine zz_cons (k' := 5) rfl (zk_callv X (zz_Cv_of (List.forall_mem_cons.mpr ⟨⟨(RX_1, zzT1, 12), yX10_read, cX10_read, 3, (some .int), 0, 0, rfl, kv_X10_31_1, (mm_X10_read Wd).1, by decide, by decide⟩, (List.forall_mem_cons.mpr ⟨⟨(RX_2, zzT2, 12), yX10_read, cX10_read, 3, (some .int), 0, 0, rfl, kv_X10_31_2, (mm_X10_read Wd).1, by decide, by decide⟩, (List.forall_mem_cons.mpr ⟨⟨(RX_3, zzT3, 12), yX10_read, cX10_read, 3, (some .int), 0, 0, rfl, kv_X10_31_3, (mm_X10_read Wd).1, by decide, by decide⟩, (List.forall_mem_cons.mpr ⟨⟨(RX_4, zzT4, 12), yX10_read, cX10_read, 3, (some .int), 0, 0, rfl, kv_X10_31_4, (mm_X10_read Wd).1, by decide, by decide⟩, (List.forall_mem_cons.mpr ⟨⟨(RX_5, zzT5, 12), yX10_read, cX10_read, 3, (some .int), 0, 0, rfl, kv_X10_31_5, (mm_X10_read Wd).1, by decide, by decide⟩, (List.forall_mem_cons.mpr ⟨⟨(RX_6, zzT6, 13), yX10_read, cX10_read, 3, (some .int), 0, 0, rfl, kv_X10_31_6, (mm_X10_read Wd).1, by decide, by decide⟩, (List.forall_mem_cons.mpr ⟨⟨(RX_7, zzT7, 15), yX10_read, cX10_read, 3, (some .int), 0, 0, rfl, kv_X10_31_7, (mm_X10_read Wd).1, by decide, by decide⟩, (List.forall_mem_cons.mpr ⟨⟨(RX_8, zzT8, 9), yX10_read, cX10_read, 3, (some .int), 0, 0, rfl, kv_X10_31_8, (mm_X10_read Wd).1, by decide, by decide⟩, (fun _ h => absurd h List.not_mem_nil)⟩)⟩)⟩)⟩)⟩)⟩)⟩)⟩)) dX10_isGone_4 rfl) ?_
  refine zz_cons (k' := 6) rfl (zz_Ok_none _ _) ?_
  refine zz_cons (k' := 7) rfl (zz_Ok_none _ _) ?_
  refine zz_cons (k' := 8) rfl (zk_iconst X dX10_isGone_7 (by decide) rfl) ?_
  refine zz_cons (k' := 9) rfl (zk_icmp_ne X dX10_isGone_8 (by decide) rfl) ?_
  refine zz_cons (k' := 10) rfl (zz_Ok_none _ _) ?_
  refine zz_cons (k' := 11) rfl (zz_Ok_none _ _) ?_
  refine zz_cons (k' := 12) rfl (zk_iconst X dX10_isGone_11 (by decide) rfl) ?_
  refine zz_cons (k' := 13) rfl (zk_goto X dX10_isGone_12 (by decide)) ?_
  refine zz_cons (k' := 14) rfl (zz_Ok_none _ _) ?_
  refine zz_cons (k' := 15) rfl (zz_Ok_none _ _) ?_
  refine zz_cons (k' := 16) rfl (zk_iconst X dX10_isGone_15 (by decide) rfl) ?_
  refine zz_cons (k' := 17) rfl (zk_iret X rfl dX10_isGone_16) ?_
  exact trivial
noncomputable def tX10_latestOf : List zzOp := [
  zo_iload 1 1,
  zo_if (fun x => decide (x < 0)) 10 4,
  zo_none,
  zo_none,
  zo_iload 1 5,
  zo_pushI 60 7,
  zo_none,
  zo_icmp (fun x y => decide (x < y)) 14 10,
  zo_none,
  zo_none,
  zo_pushI 0 11,
  zo_goto 20,
  zo_none,
  zo_none,
  zo_aload 0 15,
  zo_getf zzSC (zz_kf [1, 2, 3, 4, 5, 6, 7, 8] 1) 18,
  zo_none,
  zo_none,
  zo_iload 1 19,
  zo_iald zzSC zzSTC 20,
  zo_iret false]
set_option maxRecDepth 100000 in
theorem tl_X10_latestOf : ∀ pc, zz_Tl (tX10_latestOf.getD pc zo_none) := by
  refine zz_Tl_mem ?_
  unfold tX10_latestOf
  refine List.forall_mem_cons.mpr ⟨(zo_iload_tl _ _), ?_⟩
  refine List.forall_mem_cons.mpr ⟨(zo_if_tl _ _ _), ?_⟩
  refine List.forall_mem_cons.mpr ⟨zo_none_tl, ?_⟩
  refine List.forall_mem_cons.mpr ⟨zo_none_tl, ?_⟩
  refine List.forall_mem_cons.mpr ⟨(zo_iload_tl _ _), ?_⟩
  refine List.forall_mem_cons.mpr ⟨(zo_pushI_tl _ _), ?_⟩
  refine List.forall_mem_cons.mpr ⟨zo_none_tl, ?_⟩
  refine List.forall_mem_cons.mpr ⟨(zo_icmp_tl _ _ _), ?_⟩
  refine List.forall_mem_cons.mpr ⟨zo_none_tl, ?_⟩
  refine List.forall_mem_cons.mpr ⟨zo_none_tl, ?_⟩
  refine List.forall_mem_cons.mpr ⟨(zo_pushI_tl _ _), ?_⟩
  refine List.forall_mem_cons.mpr ⟨(zo_goto_tl _), ?_⟩
  refine List.forall_mem_cons.mpr ⟨zo_none_tl, ?_⟩
  refine List.forall_mem_cons.mpr ⟨zo_none_tl, ?_⟩
  refine List.forall_mem_cons.mpr ⟨(zo_aload_tl _ _), ?_⟩
  refine List.forall_mem_cons.mpr ⟨(zo_getf_tl _ _ _), ?_⟩
  refine List.forall_mem_cons.mpr ⟨zo_none_tl, ?_⟩
  refine List.forall_mem_cons.mpr ⟨zo_none_tl, ?_⟩
  refine List.forall_mem_cons.mpr ⟨(zo_iload_tl _ _), ?_⟩
  refine List.forall_mem_cons.mpr ⟨(zo_iald_tl _ _ _), ?_⟩
  refine List.forall_mem_cons.mpr ⟨(zo_iret_tl _), ?_⟩
  exact fun _ h => absurd h List.not_mem_nil
noncomputable def fX10_latestOf : zzFn := zz_fn tX10_latestOf 2
set_option maxRecDepth 100000 in
set_option maxHeartbeats 4000000 in
theorem mm_X10_latestOf {l : Launch} {D : va_G} {cA : Nat → ClassId} {ad : Nat → Nat} {Ex : (Nat → Prop) → State → Heap → Prop} (Wd : zzWC l D cA ad Ex) : zz_Cn l D zzCl cA ad zzSC Ex yX10_latestOf cX10_latestOf 2 (some .int) 0 0 fX10_latestOf ∧ zz_Cx l D zzCl cA ad zzSC Ex yX10_latestOf cX10_latestOf 2 (some .int) 0 0 fX10_latestOf := by
  refine zz_meth (plainFor_of_name (by decide)) Wd.1 Wd.2.1 Wd.2.2.1 (fun p e R s m args below meth c rr X => ?_)
  unfold tX10_latestOf
  refine zz_cons (k' := 1) rfl (zk_iload_n X dX10_latestOf_0 rfl rfl) ?_
  refine zz_cons (k' := 2) rfl (zk_if_lt X dX10_latestOf_1 (by decide) rfl) ?_
  refine zz_cons (k' := 3) rfl (zz_Ok_none _ _) ?_
  refine zz_cons (k' := 4) rfl (zz_Ok_none _ _) ?_
  refine zz_cons (k' := 5) rfl (zk_iload_n X dX10_latestOf_4 rfl rfl) ?_
  refine zz_cons (k' := 6) rfl (zk_bipush X dX10_latestOf_5 (by decide) rfl) ?_
  refine zz_cons (k' := 7) rfl (zz_Ok_none _ _) ?_
  refine zz_cons (k' := 8) rfl (zk_icmp_lt X dX10_latestOf_7 (by decide) rfl) ?_
  refine zz_cons (k' := 9) rfl (zz_Ok_none _ _) ?_
  refine zz_cons (k' := 10) rfl (zz_Ok_none _ _) ?_
  refine zz_cons (k' := 11) rfl (zk_iconst X dX10_latestOf_10 (by decide) rfl) ?_
  refine zz_cons (k' := 12) rfl (zk_goto X dX10_latestOf_11 (by decide)) ?_
  refine zz_cons (k' := 13) rfl (zz_Ok_none _ _) ?_
  refine zz_cons (k' := 14) rfl (zz_Ok_none _ _) ?_
  refine zz_cons (k' := 15) rfl (zk_aload_n X dX10_latestOf_14 rfl rfl) ?_
  refine zz_cons (k' := 16) rfl (zk_getf X ff_X10_15 dX10_latestOf_15 rfl) ?_
  refine zz_cons (k' := 17) rfl (zz_Ok_none _ _) ?_
  refine zz_cons (k' := 18) rfl (zz_Ok_none _ _) ?_
  refine zz_cons (k' := 19) rfl (zk_iload_n X dX10_latestOf_18 rfl rfl) ?_
  refine zz_cons (k' := 20) rfl (zk_iald X (zzWC_st Wd) dX10_latestOf_19 rfl) ?_
  refine zz_cons (k' := 21) rfl (zk_iret X rfl dX10_latestOf_20) ?_
  exact trivial
noncomputable def tX9_draftFrom : List zzOp := [
  zo_aload 0 1,
  zo_getf zzSC (zz_kf [8] 0) 4,
  zo_none,
  zo_none,
  zo_aload 0 5,
  zo_iload 1 6,
  zo_callv zzSC (zz_cl [(8, fX10_latestOf)]) 1 9,
  zo_none,
  zo_none,
  zo_pushI 32 11,
  zo_none,
  zo_ii (fun x y => x * y) 12,
  zo_aload 0 13,
  zo_getf zzSC (zz_kf [8] 6) 16,
  zo_none,
  zo_none,
  zo_pushI 0 17,
  zo_pushI 32 19,
  zo_none,
  zo_copy zzSC 22,
  zo_none,
  zo_none,
  zo_ret]
set_option maxRecDepth 100000 in
theorem tl_X9_draftFrom : ∀ pc, zz_Tl (tX9_draftFrom.getD pc zo_none) := by
  refine zz_Tl_mem ?_
  unfold tX9_draftFrom
  refine List.forall_mem_cons.mpr ⟨(zo_aload_tl _ _), ?_⟩
  refine List.forall_mem_cons.mpr ⟨(zo_getf_tl _ _ _), ?_⟩
  refine List.forall_mem_cons.mpr ⟨zo_none_tl, ?_⟩
  refine List.forall_mem_cons.mpr ⟨zo_none_tl, ?_⟩
  refine List.forall_mem_cons.mpr ⟨(zo_aload_tl _ _), ?_⟩
  refine List.forall_mem_cons.mpr ⟨(zo_iload_tl _ _), ?_⟩
  refine List.forall_mem_cons.mpr ⟨(zo_callv_tl _ _ _ _), ?_⟩
  refine List.forall_mem_cons.mpr ⟨zo_none_tl, ?_⟩
  refine List.forall_mem_cons.mpr ⟨zo_none_tl, ?_⟩
  refine List.forall_mem_cons.mpr ⟨(zo_pushI_tl _ _), ?_⟩
  refine List.forall_mem_cons.mpr ⟨zo_none_tl, ?_⟩
  refine List.forall_mem_cons.mpr ⟨(zo_ii_tl _ _), ?_⟩
  refine List.forall_mem_cons.mpr ⟨(zo_aload_tl _ _), ?_⟩
  refine List.forall_mem_cons.mpr ⟨(zo_getf_tl _ _ _), ?_⟩
  refine List.forall_mem_cons.mpr ⟨zo_none_tl, ?_⟩
  refine List.forall_mem_cons.mpr ⟨zo_none_tl, ?_⟩
  refine List.forall_mem_cons.mpr ⟨(zo_pushI_tl _ _), ?_⟩
  refine List.forall_mem_cons.mpr ⟨(zo_pushI_tl _ _), ?_⟩
  refine List.forall_mem_cons.mpr ⟨zo_none_tl, ?_⟩
  refine List.forall_mem_cons.mpr ⟨(zo_copy_tl _ _), ?_⟩
  refine List.forall_mem_cons.mpr ⟨zo_none_tl, ?_⟩
  refine List.forall_mem_cons.mpr ⟨zo_none_tl, ?_⟩
  refine List.forall_mem_cons.mpr ⟨(zo_ret_tl), ?_⟩
  exact fun _ h => absurd h List.not_mem_nil
noncomputable def fX9_draftFrom : zzFn := zz_fn tX9_draftFrom 2
set_option maxRecDepth 100000 in
set_option maxHeartbeats 4000000 in
theorem mm_X9_draftFrom {l : Launch} {D : va_G} {cA : Nat → ClassId} {ad : Nat → Nat} {Ex : (Nat → Prop) → State → Heap → Prop} (Wd : zzWC l D cA ad Ex) : zz_Cn l D zzCl cA ad zzSC Ex yX9_draftFrom cX9_draftFrom 2 none 1 26 fX9_draftFrom ∧ zz_Cx l D zzCl cA ad zzSC Ex yX9_draftFrom cX9_draftFrom 2 none 1 26 fX9_draftFrom := by
  refine zz_meth (plainFor_of_name (by decide)) Wd.1 Wd.2.1 Wd.2.2.1 (fun p e R s m args below meth c rr X => ?_)
  unfold tX9_draftFrom
  refine zz_cons (k' := 1) rfl (zk_aload_n X dX9_draftFrom_0 rfl rfl) ?_
  refine zz_cons (k' := 2) rfl (zk_getf X ff_X9_78 dX9_draftFrom_1 rfl) ?_
  refine zz_cons (k' := 3) rfl (zz_Ok_none _ _) ?_
  refine zz_cons (k' := 4) rfl (zz_Ok_none _ _) ?_
  refine zz_cons (k' := 5) rfl (zk_aload_n X dX9_draftFrom_4 rfl rfl) ?_
  refine zz_cons (k' := 6) rfl (zk_iload_n X dX9_draftFrom_5 rfl rfl) ?_
  refine zz_cons (k' := 7) rfl (zk_callv X (zz_Cv_of (List.forall_mem_cons.mpr ⟨⟨(RX_8, zzT8, 9), yX10_latestOf, cX10_latestOf, 2, (some .int), 0, 0, rfl, kv_X9_81_8, (mm_X10_latestOf Wd).1, by decide, by decide⟩, (fun _ h => absurd h List.not_mem_nil)⟩)) dX9_draftFrom_6 rfl) ?_
  refine zz_cons (k' := 8) rfl (zz_Ok_none _ _) ?_
  refine zz_cons (k' := 9) rfl (zz_Ok_none _ _) ?_
  refine zz_cons (k' := 10) rfl (zk_bipush X dX9_draftFrom_9 (by decide) rfl) ?_
  refine zz_cons (k' := 11) rfl (zz_Ok_none _ _) ?_
  refine zz_cons (k' := 12) rfl (zk_imul X dX9_draftFrom_11 rfl) ?_
  refine zz_cons (k' := 13) rfl (zk_aload_n X dX9_draftFrom_12 rfl rfl) ?_
  refine zz_cons (k' := 14) rfl (zk_getf X ff_X9_28 dX9_draftFrom_13 rfl) ?_
  refine zz_cons (k' := 15) rfl (zz_Ok_none _ _) ?_
  refine zz_cons (k' := 16) rfl (zz_Ok_none _ _) ?_
  refine zz_cons (k' := 17) rfl (zk_iconst X dX9_draftFrom_16 (by decide) rfl) ?_
  refine zz_cons (k' := 18) rfl (zk_bipush X dX9_draftFrom_17 (by decide) rfl) ?_
  refine zz_cons (k' := 19) rfl (zz_Ok_none _ _) ?_
  refine zz_cons (k' := 20) rfl (zk_copy X (zz_in (by decide +kernel)) (zz_in (by decide +kernel)) (zz_in (by decide +kernel)) (zz_in (by decide +kernel)) (by decide +kernel) dX9_draftFrom_19 rfl) ?_
  refine zz_cons (k' := 21) rfl (zz_Ok_none _ _) ?_
  refine zz_cons (k' := 22) rfl (zz_Ok_none _ _) ?_
  refine zz_cons (k' := 23) rfl (zk_ret X rfl dX9_draftFrom_22) ?_
  exact trivial
noncomputable def tX10_isKept : List zzOp := [
  zo_aload 0 1,
  zo_iload 1 2,
  zo_pushI 26 4,
  zo_none,
  zo_callv zzSC (zz_cl [(1, fX10_read), (2, fX10_read), (3, fX10_read), (4, fX10_read), (5, fX10_read), (6, fX10_read), (7, fX10_read), (8, fX10_read)]) 2 7,
  zo_none,
  zo_none,
  zo_pushI 1 8,
  zo_icmp (fun x y => decide (x = y)) 22 11,
  zo_none,
  zo_none,
  zo_aload 0 12,
  zo_iload 1 13,
  zo_pushI 28 15,
  zo_none,
  zo_callv zzSC (zz_cl [(1, fX10_read), (2, fX10_read), (3, fX10_read), (4, fX10_read), (5, fX10_read), (6, fX10_read), (7, fX10_read), (8, fX10_read)]) 2 18,
  zo_none,
  zo_none,
  zo_pushI (-1) 19,
  zo_icmp (fun x y => decide (x = y)) 26 22,
  zo_none,
  zo_none,
  zo_pushI 1 23,
  zo_goto 27,
  zo_none,
  zo_none,
  zo_pushI 0 27,
  zo_iret true]
set_option maxRecDepth 100000 in
theorem tl_X10_isKept : ∀ pc, zz_Tl (tX10_isKept.getD pc zo_none) := by
  refine zz_Tl_mem ?_
  unfold tX10_isKept
  refine List.forall_mem_cons.mpr ⟨(zo_aload_tl _ _), ?_⟩
  refine List.forall_mem_cons.mpr ⟨(zo_iload_tl _ _), ?_⟩
  refine List.forall_mem_cons.mpr ⟨(zo_pushI_tl _ _), ?_⟩
  refine List.forall_mem_cons.mpr ⟨zo_none_tl, ?_⟩
  refine List.forall_mem_cons.mpr ⟨(zo_callv_tl _ _ _ _), ?_⟩
  refine List.forall_mem_cons.mpr ⟨zo_none_tl, ?_⟩
  refine List.forall_mem_cons.mpr ⟨zo_none_tl, ?_⟩
  refine List.forall_mem_cons.mpr ⟨(zo_pushI_tl _ _), ?_⟩
  refine List.forall_mem_cons.mpr ⟨(zo_icmp_tl _ _ _), ?_⟩
  refine List.forall_mem_cons.mpr ⟨zo_none_tl, ?_⟩
  refine List.forall_mem_cons.mpr ⟨zo_none_tl, ?_⟩
  refine List.forall_mem_cons.mpr ⟨(zo_aload_tl _ _), ?_⟩
  refine List.forall_mem_cons.mpr ⟨(zo_iload_tl _ _), ?_⟩
  refine List.forall_mem_cons.mpr ⟨(zo_pushI_tl _ _), ?_⟩
  refine List.forall_mem_cons.mpr ⟨zo_none_tl, ?_⟩
  refine List.forall_mem_cons.mpr ⟨(zo_callv_tl _ _ _ _), ?_⟩
  refine List.forall_mem_cons.mpr ⟨zo_none_tl, ?_⟩
  refine List.forall_mem_cons.mpr ⟨zo_none_tl, ?_⟩
  refine List.forall_mem_cons.mpr ⟨(zo_pushI_tl _ _), ?_⟩
  refine List.forall_mem_cons.mpr ⟨(zo_icmp_tl _ _ _), ?_⟩
  refine List.forall_mem_cons.mpr ⟨zo_none_tl, ?_⟩
  refine List.forall_mem_cons.mpr ⟨zo_none_tl, ?_⟩
  refine List.forall_mem_cons.mpr ⟨(zo_pushI_tl _ _), ?_⟩
  refine List.forall_mem_cons.mpr ⟨(zo_goto_tl _), ?_⟩
  refine List.forall_mem_cons.mpr ⟨zo_none_tl, ?_⟩
  refine List.forall_mem_cons.mpr ⟨zo_none_tl, ?_⟩
  refine List.forall_mem_cons.mpr ⟨(zo_pushI_tl _ _), ?_⟩
  refine List.forall_mem_cons.mpr ⟨(zo_iret_tl _), ?_⟩
  exact fun _ h => absurd h List.not_mem_nil
noncomputable def fX10_isKept : zzFn := zz_fn tX10_isKept 2
set_option maxRecDepth 100000 in
set_option maxHeartbeats 4000000 in
theorem mm_X10_isKept {l : Launch} {D : va_G} {cA : Nat → ClassId} {ad : Nat → Nat} {Ex : (Nat → Prop) → State → Heap → Prop} (Wd : zzWC l D cA ad Ex) : zz_Cn l D zzCl cA ad zzSC Ex yX10_isKept cX10_isKept 2 (some .boolean) 1 22 fX10_isKept ∧ zz_Cx l D zzCl cA ad zzSC Ex yX10_isKept cX10_isKept 2 (some .boolean) 1 22 fX10_isKept := by
  refine zz_meth (plainFor_of_name (by decide)) Wd.1 Wd.2.1 Wd.2.2.1 (fun p e R s m args below meth c rr X => ?_)
  unfold tX10_isKept
  refine zz_cons (k' := 1) rfl (zk_aload_n X dX10_isKept_0 rfl rfl) ?_
  refine zz_cons (k' := 2) rfl (zk_iload_n X dX10_isKept_1 rfl rfl) ?_
  refine zz_cons (k' := 3) rfl (zk_bipush X dX10_isKept_2 (by decide) rfl) ?_
  refine zz_cons (k' := 4) rfl (zz_Ok_none _ _) ?_
  refine zz_cons (k' := 5) rfl (zk_callv X (zz_Cv_of (List.forall_mem_cons.mpr ⟨⟨(RX_1, zzT1, 12), yX10_read, cX10_read, 3, (some .int), 0, 0, rfl, kv_X10_31_1, (mm_X10_read Wd).1, by decide, by decide⟩, (List.forall_mem_cons.mpr ⟨⟨(RX_2, zzT2, 12), yX10_read, cX10_read, 3, (some .int), 0, 0, rfl, kv_X10_31_2, (mm_X10_read Wd).1, by decide, by decide⟩, (List.forall_mem_cons.mpr ⟨⟨(RX_3, zzT3, 12), yX10_read, cX10_read, 3, (some .int), 0, 0, rfl, kv_X10_31_3, (mm_X10_read Wd).1, by decide, by decide⟩, (List.forall_mem_cons.mpr ⟨⟨(RX_4, zzT4, 12), yX10_read, cX10_read, 3, (some .int), 0, 0, rfl, kv_X10_31_4, (mm_X10_read Wd).1, by decide, by decide⟩, (List.forall_mem_cons.mpr ⟨⟨(RX_5, zzT5, 12), yX10_read, cX10_read, 3, (some .int), 0, 0, rfl, kv_X10_31_5, (mm_X10_read Wd).1, by decide, by decide⟩, (List.forall_mem_cons.mpr ⟨⟨(RX_6, zzT6, 13), yX10_read, cX10_read, 3, (some .int), 0, 0, rfl, kv_X10_31_6, (mm_X10_read Wd).1, by decide, by decide⟩, (List.forall_mem_cons.mpr ⟨⟨(RX_7, zzT7, 15), yX10_read, cX10_read, 3, (some .int), 0, 0, rfl, kv_X10_31_7, (mm_X10_read Wd).1, by decide, by decide⟩, (List.forall_mem_cons.mpr ⟨⟨(RX_8, zzT8, 9), yX10_read, cX10_read, 3, (some .int), 0, 0, rfl, kv_X10_31_8, (mm_X10_read Wd).1, by decide, by decide⟩, (fun _ h => absurd h List.not_mem_nil)⟩)⟩)⟩)⟩)⟩)⟩)⟩)⟩)) dX10_isKept_4 rfl) ?_
  refine zz_cons (k' := 6) rfl (zz_Ok_none _ _) ?_
  refine zz_cons (k' := 7) rfl (zz_Ok_none _ _) ?_
  refine zz_cons (k' := 8) rfl (zk_iconst X dX10_isKept_7 (by decide) rfl) ?_
  refine zz_cons (k' := 9) rfl (zk_icmp_eq X dX10_isKept_8 (by decide) rfl) ?_
  refine zz_cons (k' := 10) rfl (zz_Ok_none _ _) ?_
  refine zz_cons (k' := 11) rfl (zz_Ok_none _ _) ?_
  refine zz_cons (k' := 12) rfl (zk_aload_n X dX10_isKept_11 rfl rfl) ?_
  refine zz_cons (k' := 13) rfl (zk_iload_n X dX10_isKept_12 rfl rfl) ?_
  refine zz_cons (k' := 14) rfl (zk_bipush X dX10_isKept_13 (by decide) rfl) ?_
  refine zz_cons (k' := 15) rfl (zz_Ok_none _ _) ?_
  refine zz_cons (k' := 16) rfl (zk_callv X (zz_Cv_of (List.forall_mem_cons.mpr ⟨⟨(RX_1, zzT1, 12), yX10_read, cX10_read, 3, (some .int), 0, 0, rfl, kv_X10_31_1, (mm_X10_read Wd).1, by decide, by decide⟩, (List.forall_mem_cons.mpr ⟨⟨(RX_2, zzT2, 12), yX10_read, cX10_read, 3, (some .int), 0, 0, rfl, kv_X10_31_2, (mm_X10_read Wd).1, by decide, by decide⟩, (List.forall_mem_cons.mpr ⟨⟨(RX_3, zzT3, 12), yX10_read, cX10_read, 3, (some .int), 0, 0, rfl, kv_X10_31_3, (mm_X10_read Wd).1, by decide, by decide⟩, (List.forall_mem_cons.mpr ⟨⟨(RX_4, zzT4, 12), yX10_read, cX10_read, 3, (some .int), 0, 0, rfl, kv_X10_31_4, (mm_X10_read Wd).1, by decide, by decide⟩, (List.forall_mem_cons.mpr ⟨⟨(RX_5, zzT5, 12), yX10_read, cX10_read, 3, (some .int), 0, 0, rfl, kv_X10_31_5, (mm_X10_read Wd).1, by decide, by decide⟩, (List.forall_mem_cons.mpr ⟨⟨(RX_6, zzT6, 13), yX10_read, cX10_read, 3, (some .int), 0, 0, rfl, kv_X10_31_6, (mm_X10_read Wd).1, by decide, by decide⟩, (List.forall_mem_cons.mpr ⟨⟨(RX_7, zzT7, 15), yX10_read, cX10_read, 3, (some .int), 0, 0, rfl, kv_X10_31_7, (mm_X10_read Wd).1, by decide, by decide⟩, (List.forall_mem_cons.mpr ⟨⟨(RX_8, zzT8, 9), yX10_read, cX10_read, 3, (some .int), 0, 0, rfl, kv_X10_31_8, (mm_X10_read Wd).1, by decide, by decide⟩, (fun _ h => absurd h List.not_mem_nil)⟩)⟩)⟩)⟩)⟩)⟩)⟩)⟩)) dX10_isKept_15 rfl) ?_
  refine zz_cons (k' := 17) rfl (zz_Ok_none _ _) ?_
  refine zz_cons (k' := 18) rfl (zz_Ok_none _ _) ?_
  refine zz_cons (k' := 19) rfl (zk_iconst X dX10_isKept_18 (by decide) rfl) ?_
  refine zz_cons (k' := 20) rfl (zk_icmp_eq X dX10_isKept_19 (by decide) rfl) ?_
  refine zz_cons (k' := 21) rfl (zz_Ok_none _ _) ?_
  refine zz_cons (k' := 22) rfl (zz_Ok_none _ _) ?_
  refine zz_cons (k' := 23) rfl (zk_iconst X dX10_isKept_22 (by decide) rfl) ?_
  refine zz_cons (k' := 24) rfl (zk_goto X dX10_isKept_23 (by decide)) ?_
  refine zz_cons (k' := 25) rfl (zz_Ok_none _ _) ?_
  refine zz_cons (k' := 26) rfl (zz_Ok_none _ _) ?_
  refine zz_cons (k' := 27) rfl (zk_iconst X dX10_isKept_26 (by decide) rfl) ?_
  refine zz_cons (k' := 28) rfl (zk_iret X rfl dX10_isKept_27) ?_
  exact trivial
noncomputable def tX9_isDraftAs : List zzOp := [
  zo_pushI 0 1,
  zo_istore 2 2,
  zo_iload 2 3,
  zo_pushI 32 5,
  zo_none,
  zo_icmp (fun x y => decide (y ≤ x)) 36 8,
  zo_none,
  zo_none,
  zo_aload 0 9,
  zo_getf zzSC (zz_kf [8] 6) 12,
  zo_none,
  zo_none,
  zo_iload 2 13,
  zo_iald zzSC zzSTC 14,
  zo_aload 0 15,
  zo_getf zzSC (zz_kf [8] 0) 18,
  zo_none,
  zo_none,
  zo_iload 1 19,
  zo_pushI 32 21,
  zo_none,
  zo_ii (fun x y => x * y) 22,
  zo_iload 2 23,
  zo_ii (fun x y => x + y) 24,
  zo_iald zzSC zzSTC 25,
  zo_icmp (fun x y => decide (x = y)) 30 28,
  zo_none,
  zo_none,
  zo_pushI 0 29,
  zo_iret true,
  zo_iinc 2 1 33,
  zo_none,
  zo_none,
  zo_goto 2,
  zo_none,
  zo_none,
  zo_pushI 1 37,
  zo_iret true]
set_option maxRecDepth 100000 in
theorem tl_X9_isDraftAs : ∀ pc, zz_Tl (tX9_isDraftAs.getD pc zo_none) := by
  refine zz_Tl_mem ?_
  unfold tX9_isDraftAs
  refine List.forall_mem_cons.mpr ⟨(zo_pushI_tl _ _), ?_⟩
  refine List.forall_mem_cons.mpr ⟨(zo_istore_tl _ _), ?_⟩
  refine List.forall_mem_cons.mpr ⟨(zo_iload_tl _ _), ?_⟩
  refine List.forall_mem_cons.mpr ⟨(zo_pushI_tl _ _), ?_⟩
  refine List.forall_mem_cons.mpr ⟨zo_none_tl, ?_⟩
  refine List.forall_mem_cons.mpr ⟨(zo_icmp_tl _ _ _), ?_⟩
  refine List.forall_mem_cons.mpr ⟨zo_none_tl, ?_⟩
  refine List.forall_mem_cons.mpr ⟨zo_none_tl, ?_⟩
  refine List.forall_mem_cons.mpr ⟨(zo_aload_tl _ _), ?_⟩
  refine List.forall_mem_cons.mpr ⟨(zo_getf_tl _ _ _), ?_⟩
  refine List.forall_mem_cons.mpr ⟨zo_none_tl, ?_⟩
  refine List.forall_mem_cons.mpr ⟨zo_none_tl, ?_⟩
  refine List.forall_mem_cons.mpr ⟨(zo_iload_tl _ _), ?_⟩
  refine List.forall_mem_cons.mpr ⟨(zo_iald_tl _ _ _), ?_⟩
  refine List.forall_mem_cons.mpr ⟨(zo_aload_tl _ _), ?_⟩
  refine List.forall_mem_cons.mpr ⟨(zo_getf_tl _ _ _), ?_⟩
  refine List.forall_mem_cons.mpr ⟨zo_none_tl, ?_⟩
  refine List.forall_mem_cons.mpr ⟨zo_none_tl, ?_⟩
  refine List.forall_mem_cons.mpr ⟨(zo_iload_tl _ _), ?_⟩
  refine List.forall_mem_cons.mpr ⟨(zo_pushI_tl _ _), ?_⟩
  refine List.forall_mem_cons.mpr ⟨zo_none_tl, ?_⟩
  refine List.forall_mem_cons.mpr ⟨(zo_ii_tl _ _), ?_⟩
  refine List.forall_mem_cons.mpr ⟨(zo_iload_tl _ _), ?_⟩
  refine List.forall_mem_cons.mpr ⟨(zo_ii_tl _ _), ?_⟩
  refine List.forall_mem_cons.mpr ⟨(zo_iald_tl _ _ _), ?_⟩
  refine List.forall_mem_cons.mpr ⟨(zo_icmp_tl _ _ _), ?_⟩
  refine List.forall_mem_cons.mpr ⟨zo_none_tl, ?_⟩
  refine List.forall_mem_cons.mpr ⟨zo_none_tl, ?_⟩
  refine List.forall_mem_cons.mpr ⟨(zo_pushI_tl _ _), ?_⟩
  refine List.forall_mem_cons.mpr ⟨(zo_iret_tl _), ?_⟩
  refine List.forall_mem_cons.mpr ⟨(zo_iinc_tl _ _ _), ?_⟩
  refine List.forall_mem_cons.mpr ⟨zo_none_tl, ?_⟩
  refine List.forall_mem_cons.mpr ⟨zo_none_tl, ?_⟩
  refine List.forall_mem_cons.mpr ⟨(zo_goto_tl _), ?_⟩
  refine List.forall_mem_cons.mpr ⟨zo_none_tl, ?_⟩
  refine List.forall_mem_cons.mpr ⟨zo_none_tl, ?_⟩
  refine List.forall_mem_cons.mpr ⟨(zo_pushI_tl _ _), ?_⟩
  refine List.forall_mem_cons.mpr ⟨(zo_iret_tl _), ?_⟩
  exact fun _ h => absurd h List.not_mem_nil
noncomputable def fX9_isDraftAs : zzFn := zz_fn tX9_isDraftAs 3
set_option maxRecDepth 100000 in
set_option maxHeartbeats 4000000 in
theorem mm_X9_isDraftAs {l : Launch} {D : va_G} {cA : Nat → ClassId} {ad : Nat → Nat} {Ex : (Nat → Prop) → State → Heap → Prop} (Wd : zzWC l D cA ad Ex) : zz_Cn l D zzCl cA ad zzSC Ex yX9_isDraftAs cX9_isDraftAs 3 (some .boolean) 0 0 fX9_isDraftAs ∧ zz_Cx l D zzCl cA ad zzSC Ex yX9_isDraftAs cX9_isDraftAs 3 (some .boolean) 0 0 fX9_isDraftAs := by
  refine zz_meth (plainFor_of_name (by decide)) Wd.1 Wd.2.1 Wd.2.2.1 (fun p e R s m args below meth c rr X => ?_)
  unfold tX9_isDraftAs
  refine zz_cons (k' := 1) rfl (zk_iconst X dX9_isDraftAs_0 (by decide) rfl) ?_
  refine zz_cons (k' := 2) rfl (zk_istore_n X dX9_isDraftAs_1 rfl (by decide) rfl) ?_
  refine zz_cons (k' := 3) rfl (zk_iload_n X dX9_isDraftAs_2 rfl rfl) ?_
  refine zz_cons (k' := 4) rfl (zk_bipush X dX9_isDraftAs_3 (by decide) rfl) ?_
  refine zz_cons (k' := 5) rfl (zz_Ok_none _ _) ?_
  refine zz_cons (k' := 6) rfl (zk_icmp_ge X dX9_isDraftAs_5 (by decide) rfl) ?_
  refine zz_cons (k' := 7) rfl (zz_Ok_none _ _) ?_
  refine zz_cons (k' := 8) rfl (zz_Ok_none _ _) ?_
  refine zz_cons (k' := 9) rfl (zk_aload_n X dX9_isDraftAs_8 rfl rfl) ?_
  refine zz_cons (k' := 10) rfl (zk_getf X ff_X9_28 dX9_isDraftAs_9 rfl) ?_
  refine zz_cons (k' := 11) rfl (zz_Ok_none _ _) ?_
  refine zz_cons (k' := 12) rfl (zz_Ok_none _ _) ?_
  refine zz_cons (k' := 13) rfl (zk_iload_n X dX9_isDraftAs_12 rfl rfl) ?_
  refine zz_cons (k' := 14) rfl (zk_iald X (zzWC_st Wd) dX9_isDraftAs_13 rfl) ?_
  refine zz_cons (k' := 15) rfl (zk_aload_n X dX9_isDraftAs_14 rfl rfl) ?_
  refine zz_cons (k' := 16) rfl (zk_getf X ff_X9_78 dX9_isDraftAs_15 rfl) ?_
  refine zz_cons (k' := 17) rfl (zz_Ok_none _ _) ?_
  refine zz_cons (k' := 18) rfl (zz_Ok_none _ _) ?_
  refine zz_cons (k' := 19) rfl (zk_iload_n X dX9_isDraftAs_18 rfl rfl) ?_
  refine zz_cons (k' := 20) rfl (zk_bipush X dX9_isDraftAs_19 (by decide) rfl) ?_
  refine zz_cons (k' := 21) rfl (zz_Ok_none _ _) ?_
  refine zz_cons (k' := 22) rfl (zk_imul X dX9_isDraftAs_21 rfl) ?_
  refine zz_cons (k' := 23) rfl (zk_iload_n X dX9_isDraftAs_22 rfl rfl) ?_
  refine zz_cons (k' := 24) rfl (zk_iadd X dX9_isDraftAs_23 rfl) ?_
  refine zz_cons (k' := 25) rfl (zk_iald X (zzWC_st Wd) dX9_isDraftAs_24 rfl) ?_
  refine zz_cons (k' := 26) rfl (zk_icmp_eq X dX9_isDraftAs_25 (by decide) rfl) ?_
  refine zz_cons (k' := 27) rfl (zz_Ok_none _ _) ?_
  refine zz_cons (k' := 28) rfl (zz_Ok_none _ _) ?_
  refine zz_cons (k' := 29) rfl (zk_iconst X dX9_isDraftAs_28 (by decide) rfl) ?_
  refine zz_cons (k' := 30) rfl (zk_iret X rfl dX9_isDraftAs_29) ?_
  refine zz_cons (k' := 31) rfl (zk_iinc X dX9_isDraftAs_30 (by decide) (by decide) rfl) ?_
  refine zz_cons (k' := 32) rfl (zz_Ok_none _ _) ?_
  refine zz_cons (k' := 33) rfl (zz_Ok_none _ _) ?_
  refine zz_cons (k' := 34) rfl (zk_goto X dX9_isDraftAs_33 (by decide)) ?_
  refine zz_cons (k' := 35) rfl (zz_Ok_none _ _) ?_
  refine zz_cons (k' := 36) rfl (zz_Ok_none _ _) ?_
  refine zz_cons (k' := 37) rfl (zk_iconst X dX9_isDraftAs_36 (by decide) rfl) ?_
  refine zz_cons (k' := 38) rfl (zk_iret X rfl dX9_isDraftAs_37) ?_
  exact trivial
noncomputable def tX10_takeIn : List zzOp := [
  zo_iload 1 1,
  zo_if (fun x => decide (x < 0)) 22 4,
  zo_none,
  zo_none,
  zo_iload 1 5,
  zo_pushI 60 7,
  zo_none,
  zo_icmp (fun x y => decide (y ≤ x)) 22 10,
  zo_none,
  zo_none,
  zo_iload 2 11,
  zo_pushI 1 12,
  zo_icmp (fun x y => decide (x < y)) 22 15,
  zo_none,
  zo_none,
  zo_iload 2 16,
  zo_pushI 400 19,
  zo_none,
  zo_none,
  zo_icmp (fun x y => decide (x ≤ y)) 23 22,
  zo_none,
  zo_none,
  zo_ret,
  zo_aload 0 24,
  zo_getf zzSC (zz_kf [1, 2, 3, 4, 5, 6, 7, 8] 1) 27,
  zo_none,
  zo_none,
  zo_iload 1 28,
  zo_iload 2 29,
  zo_iast zzSC 30,
  zo_aload 0 31,
  zo_iload 1 32,
  zo_aload 0 33,
  zo_getf zzSC (zz_kf [1, 2, 3, 4, 5, 6, 7, 8] 2) 36,
  zo_none,
  zo_none,
  zo_icmp (fun x y => decide (x < y)) 45 39,
  zo_none,
  zo_none,
  zo_iload 1 40,
  zo_pushI 1 41,
  zo_ii (fun x y => x + y) 42,
  zo_goto 49,
  zo_none,
  zo_none,
  zo_aload 0 46,
  zo_getf zzSC (zz_kf [1, 2, 3, 4, 5, 6, 7, 8] 2) 49,
  zo_none,
  zo_none,
  zo_putf zzSC (zz_kf [1, 2, 3, 4, 5, 6, 7, 8] 2) false 52,
  zo_none,
  zo_none,
  zo_aload 0 53,
  zo_iload 2 54,
  zo_putf zzSC (zz_kf [1, 2, 3, 4, 5, 6, 7, 8] 3) false 57,
  zo_none,
  zo_none,
  zo_ret]
set_option maxRecDepth 100000 in
theorem tl_X10_takeIn : ∀ pc, zz_Tl (tX10_takeIn.getD pc zo_none) := by
  refine zz_Tl_mem ?_
  unfold tX10_takeIn
  refine List.forall_mem_cons.mpr ⟨(zo_iload_tl _ _), ?_⟩
  refine List.forall_mem_cons.mpr ⟨(zo_if_tl _ _ _), ?_⟩
  refine List.forall_mem_cons.mpr ⟨zo_none_tl, ?_⟩
  refine List.forall_mem_cons.mpr ⟨zo_none_tl, ?_⟩
  refine List.forall_mem_cons.mpr ⟨(zo_iload_tl _ _), ?_⟩
  refine List.forall_mem_cons.mpr ⟨(zo_pushI_tl _ _), ?_⟩
  refine List.forall_mem_cons.mpr ⟨zo_none_tl, ?_⟩
  refine List.forall_mem_cons.mpr ⟨(zo_icmp_tl _ _ _), ?_⟩
  refine List.forall_mem_cons.mpr ⟨zo_none_tl, ?_⟩
  refine List.forall_mem_cons.mpr ⟨zo_none_tl, ?_⟩
  refine List.forall_mem_cons.mpr ⟨(zo_iload_tl _ _), ?_⟩
  refine List.forall_mem_cons.mpr ⟨(zo_pushI_tl _ _), ?_⟩
  refine List.forall_mem_cons.mpr ⟨(zo_icmp_tl _ _ _), ?_⟩
  refine List.forall_mem_cons.mpr ⟨zo_none_tl, ?_⟩
  refine List.forall_mem_cons.mpr ⟨zo_none_tl, ?_⟩
  refine List.forall_mem_cons.mpr ⟨(zo_iload_tl _ _), ?_⟩
  refine List.forall_mem_cons.mpr ⟨(zo_pushI_tl _ _), ?_⟩
  refine List.forall_mem_cons.mpr ⟨zo_none_tl, ?_⟩
  refine List.forall_mem_cons.mpr ⟨zo_none_tl, ?_⟩
  refine List.forall_mem_cons.mpr ⟨(zo_icmp_tl _ _ _), ?_⟩
  refine List.forall_mem_cons.mpr ⟨zo_none_tl, ?_⟩
  refine List.forall_mem_cons.mpr ⟨zo_none_tl, ?_⟩
  refine List.forall_mem_cons.mpr ⟨(zo_ret_tl), ?_⟩
  refine List.forall_mem_cons.mpr ⟨(zo_aload_tl _ _), ?_⟩
  refine List.forall_mem_cons.mpr ⟨(zo_getf_tl _ _ _), ?_⟩
  refine List.forall_mem_cons.mpr ⟨zo_none_tl, ?_⟩
  refine List.forall_mem_cons.mpr ⟨zo_none_tl, ?_⟩
  refine List.forall_mem_cons.mpr ⟨(zo_iload_tl _ _), ?_⟩
  refine List.forall_mem_cons.mpr ⟨(zo_iload_tl _ _), ?_⟩
  refine List.forall_mem_cons.mpr ⟨(zo_iast_tl _ _), ?_⟩
  refine List.forall_mem_cons.mpr ⟨(zo_aload_tl _ _), ?_⟩
  refine List.forall_mem_cons.mpr ⟨(zo_iload_tl _ _), ?_⟩
  refine List.forall_mem_cons.mpr ⟨(zo_aload_tl _ _), ?_⟩
  refine List.forall_mem_cons.mpr ⟨(zo_getf_tl _ _ _), ?_⟩
  refine List.forall_mem_cons.mpr ⟨zo_none_tl, ?_⟩
  refine List.forall_mem_cons.mpr ⟨zo_none_tl, ?_⟩
  refine List.forall_mem_cons.mpr ⟨(zo_icmp_tl _ _ _), ?_⟩
  refine List.forall_mem_cons.mpr ⟨zo_none_tl, ?_⟩
  refine List.forall_mem_cons.mpr ⟨zo_none_tl, ?_⟩
  refine List.forall_mem_cons.mpr ⟨(zo_iload_tl _ _), ?_⟩
  refine List.forall_mem_cons.mpr ⟨(zo_pushI_tl _ _), ?_⟩
  refine List.forall_mem_cons.mpr ⟨(zo_ii_tl _ _), ?_⟩
  refine List.forall_mem_cons.mpr ⟨(zo_goto_tl _), ?_⟩
  refine List.forall_mem_cons.mpr ⟨zo_none_tl, ?_⟩
  refine List.forall_mem_cons.mpr ⟨zo_none_tl, ?_⟩
  refine List.forall_mem_cons.mpr ⟨(zo_aload_tl _ _), ?_⟩
  refine List.forall_mem_cons.mpr ⟨(zo_getf_tl _ _ _), ?_⟩
  refine List.forall_mem_cons.mpr ⟨zo_none_tl, ?_⟩
  refine List.forall_mem_cons.mpr ⟨zo_none_tl, ?_⟩
  refine List.forall_mem_cons.mpr ⟨(zo_putf_tl _ _ _ _), ?_⟩
  refine List.forall_mem_cons.mpr ⟨zo_none_tl, ?_⟩
  refine List.forall_mem_cons.mpr ⟨zo_none_tl, ?_⟩
  refine List.forall_mem_cons.mpr ⟨(zo_aload_tl _ _), ?_⟩
  refine List.forall_mem_cons.mpr ⟨(zo_iload_tl _ _), ?_⟩
  refine List.forall_mem_cons.mpr ⟨(zo_putf_tl _ _ _ _), ?_⟩
  refine List.forall_mem_cons.mpr ⟨zo_none_tl, ?_⟩
  refine List.forall_mem_cons.mpr ⟨zo_none_tl, ?_⟩
  refine List.forall_mem_cons.mpr ⟨(zo_ret_tl), ?_⟩
  exact fun _ h => absurd h List.not_mem_nil
noncomputable def fX10_takeIn : zzFn := zz_fn tX10_takeIn 3
set_option maxRecDepth 100000 in
set_option maxHeartbeats 4000000 in
theorem mm_X10_takeIn {l : Launch} {D : va_G} {cA : Nat → ClassId} {ad : Nat → Nat} {Ex : (Nat → Prop) → State → Heap → Prop} (Wd : zzWC l D cA ad Ex) : zz_Cn l D zzCl cA ad zzSC Ex yX10_takeIn cX10_takeIn 3 none 0 0 fX10_takeIn ∧ zz_Cx l D zzCl cA ad zzSC Ex yX10_takeIn cX10_takeIn 3 none 0 0 fX10_takeIn := by
  refine zz_meth (plainFor_of_name (by decide)) Wd.1 Wd.2.1 Wd.2.2.1 (fun p e R s m args below meth c rr X => ?_)
  unfold tX10_takeIn
  refine zz_cons (k' := 1) rfl (zk_iload_n X dX10_takeIn_0 rfl rfl) ?_
  refine zz_cons (k' := 2) rfl (zk_if_lt X dX10_takeIn_1 (by decide) rfl) ?_
  refine zz_cons (k' := 3) rfl (zz_Ok_none _ _) ?_
  refine zz_cons (k' := 4) rfl (zz_Ok_none _ _) ?_
  refine zz_cons (k' := 5) rfl (zk_iload_n X dX10_takeIn_4 rfl rfl) ?_
  refine zz_cons (k' := 6) rfl (zk_bipush X dX10_takeIn_5 (by decide) rfl) ?_
  refine zz_cons (k' := 7) rfl (zz_Ok_none _ _) ?_
  refine zz_cons (k' := 8) rfl (zk_icmp_ge X dX10_takeIn_7 (by decide) rfl) ?_
  refine zz_cons (k' := 9) rfl (zz_Ok_none _ _) ?_
  refine zz_cons (k' := 10) rfl (zz_Ok_none _ _) ?_
  refine zz_cons (k' := 11) rfl (zk_iload_n X dX10_takeIn_10 rfl rfl) ?_
  refine zz_cons (k' := 12) rfl (zk_iconst X dX10_takeIn_11 (by decide) rfl) ?_
  refine zz_cons (k' := 13) rfl (zk_icmp_lt X dX10_takeIn_12 (by decide) rfl) ?_
  refine zz_cons (k' := 14) rfl (zz_Ok_none _ _) ?_
  refine zz_cons (k' := 15) rfl (zz_Ok_none _ _) ?_
  refine zz_cons (k' := 16) rfl (zk_iload_n X dX10_takeIn_15 rfl rfl) ?_
  refine zz_cons (k' := 17) rfl (zk_sipush X dX10_takeIn_16 (by decide) rfl) ?_
  refine zz_cons (k' := 18) rfl (zz_Ok_none _ _) ?_
  refine zz_cons (k' := 19) rfl (zz_Ok_none _ _) ?_
  refine zz_cons (k' := 20) rfl (zk_icmp_le X dX10_takeIn_19 (by decide) rfl) ?_
  refine zz_cons (k' := 21) rfl (zz_Ok_none _ _) ?_
  refine zz_cons (k' := 22) rfl (zz_Ok_none _ _) ?_
  refine zz_cons (k' := 23) rfl (zk_ret X rfl dX10_takeIn_22) ?_
  refine zz_cons (k' := 24) rfl (zk_aload_n X dX10_takeIn_23 rfl rfl) ?_
  refine zz_cons (k' := 25) rfl (zk_getf X ff_X10_15 dX10_takeIn_24 rfl) ?_
  refine zz_cons (k' := 26) rfl (zz_Ok_none _ _) ?_
  refine zz_cons (k' := 27) rfl (zz_Ok_none _ _) ?_
  refine zz_cons (k' := 28) rfl (zk_iload_n X dX10_takeIn_27 rfl rfl) ?_
  refine zz_cons (k' := 29) rfl (zk_iload_n X dX10_takeIn_28 rfl rfl) ?_
  refine zz_cons (k' := 30) rfl (zk_iast X dX10_takeIn_29 rfl) ?_
  refine zz_cons (k' := 31) rfl (zk_aload_n X dX10_takeIn_30 rfl rfl) ?_
  refine zz_cons (k' := 32) rfl (zk_iload_n X dX10_takeIn_31 rfl rfl) ?_
  refine zz_cons (k' := 33) rfl (zk_aload_n X dX10_takeIn_32 rfl rfl) ?_
  refine zz_cons (k' := 34) rfl (zk_getf X ff_X10_18 dX10_takeIn_33 rfl) ?_
  refine zz_cons (k' := 35) rfl (zz_Ok_none _ _) ?_
  refine zz_cons (k' := 36) rfl (zz_Ok_none _ _) ?_
  refine zz_cons (k' := 37) rfl (zk_icmp_lt X dX10_takeIn_36 (by decide) rfl) ?_
  refine zz_cons (k' := 38) rfl (zz_Ok_none _ _) ?_
  refine zz_cons (k' := 39) rfl (zz_Ok_none _ _) ?_
  refine zz_cons (k' := 40) rfl (zk_iload_n X dX10_takeIn_39 rfl rfl) ?_
  refine zz_cons (k' := 41) rfl (zk_iconst X dX10_takeIn_40 (by decide) rfl) ?_
  refine zz_cons (k' := 42) rfl (zk_iadd X dX10_takeIn_41 rfl) ?_
  refine zz_cons (k' := 43) rfl (zk_goto X dX10_takeIn_42 (by decide)) ?_
  refine zz_cons (k' := 44) rfl (zz_Ok_none _ _) ?_
  refine zz_cons (k' := 45) rfl (zz_Ok_none _ _) ?_
  refine zz_cons (k' := 46) rfl (zk_aload_n X dX10_takeIn_45 rfl rfl) ?_
  refine zz_cons (k' := 47) rfl (zk_getf X ff_X10_18 dX10_takeIn_46 rfl) ?_
  refine zz_cons (k' := 48) rfl (zz_Ok_none _ _) ?_
  refine zz_cons (k' := 49) rfl (zz_Ok_none _ _) ?_
  refine zz_cons (k' := 50) rfl (zk_putf X ff_X10_18 fp_1_2_3_4_5_6_7_8_2 dX10_takeIn_49 rfl) ?_
  refine zz_cons (k' := 51) rfl (zz_Ok_none _ _) ?_
  refine zz_cons (k' := 52) rfl (zz_Ok_none _ _) ?_
  refine zz_cons (k' := 53) rfl (zk_aload_n X dX10_takeIn_52 rfl rfl) ?_
  refine zz_cons (k' := 54) rfl (zk_iload_n X dX10_takeIn_53 rfl rfl) ?_
  refine zz_cons (k' := 55) rfl (zk_putf X ff_X10_22 fp_1_2_3_4_5_6_7_8_3 dX10_takeIn_54 rfl) ?_
  refine zz_cons (k' := 56) rfl (zz_Ok_none _ _) ?_
  refine zz_cons (k' := 57) rfl (zz_Ok_none _ _) ?_
  refine zz_cons (k' := 58) rfl (zk_ret X rfl dX10_takeIn_57) ?_
  exact trivial
noncomputable def tX9_write : List zzOp := [
  zo_aload 0 1,
  zo_getf zzSC (zz_kf [8] 6) 4,
  zo_none,
  zo_none,
  zo_pushI 25 6,
  zo_none,
  zo_iald zzSC zzSTC 7,
  zo_pushI 4 8,
  zo_icmp (fun x y => decide (¬ x = y)) 19 11,
  zo_none,
  zo_none,
  zo_aload 0 12,
  zo_getf zzSC (zz_kf [8] 6) 15,
  zo_none,
  zo_none,
  zo_pushI 24 17,
  zo_none,
  zo_pushI (-1) 18,
  zo_iast zzSC 19,
  zo_aload 0 20,
  zo_aload 0 21,
  zo_iload 1 22,
  zo_callv zzSC (zz_cl [(8, fX10_latestOf)]) 1 25,
  zo_none,
  zo_none,
  zo_callv zzSC (zz_cl [(8, fX9_isDraftAs)]) 1 28,
  zo_none,
  zo_none,
  zo_if (fun x => decide (x = 0)) 33 31,
  zo_none,
  zo_none,
  zo_pushI 1 32,
  zo_iret true,
  zo_aload 0 34,
  zo_getf zzSC (zz_kf [8] 3) 37,
  zo_none,
  zo_none,
  zo_pushI 400 40,
  zo_none,
  zo_none,
  zo_icmp (fun x y => decide (x < y)) 45 43,
  zo_none,
  zo_none,
  zo_pushI 0 44,
  zo_iret true,
  zo_aload 0 46,
  zo_getf zzSC (zz_kf [8] 6) 49,
  zo_none,
  zo_none,
  zo_pushI 0 50,
  zo_aload 0 51,
  zo_getf zzSC (zz_kf [8] 0) 54,
  zo_none,
  zo_none,
  zo_aload 0 55,
  zo_getf zzSC (zz_kf [8] 3) 58,
  zo_none,
  zo_none,
  zo_pushI 1 59,
  zo_ii (fun x y => x + y) 60,
  zo_pushI 32 62,
  zo_none,
  zo_ii (fun x y => x * y) 63,
  zo_pushI 32 65,
  zo_none,
  zo_copy zzSC 68,
  zo_none,
  zo_none,
  zo_aload 0 69,
  zo_iload 1 70,
  zo_aload 0 71,
  zo_getf zzSC (zz_kf [8] 3) 74,
  zo_none,
  zo_none,
  zo_pushI 1 75,
  zo_ii (fun x y => x + y) 76,
  zo_callv zzSC (zz_cl [(8, fX10_takeIn)]) 2 79,
  zo_none,
  zo_none,
  zo_pushI 1 80,
  zo_iret true]
set_option maxRecDepth 100000 in
theorem tl_X9_write : ∀ pc, zz_Tl (tX9_write.getD pc zo_none) := by
  refine zz_Tl_mem ?_
  unfold tX9_write
  refine List.forall_mem_cons.mpr ⟨(zo_aload_tl _ _), ?_⟩
  refine List.forall_mem_cons.mpr ⟨(zo_getf_tl _ _ _), ?_⟩
  refine List.forall_mem_cons.mpr ⟨zo_none_tl, ?_⟩
  refine List.forall_mem_cons.mpr ⟨zo_none_tl, ?_⟩
  refine List.forall_mem_cons.mpr ⟨(zo_pushI_tl _ _), ?_⟩
  refine List.forall_mem_cons.mpr ⟨zo_none_tl, ?_⟩
  refine List.forall_mem_cons.mpr ⟨(zo_iald_tl _ _ _), ?_⟩
  refine List.forall_mem_cons.mpr ⟨(zo_pushI_tl _ _), ?_⟩
  refine List.forall_mem_cons.mpr ⟨(zo_icmp_tl _ _ _), ?_⟩
  refine List.forall_mem_cons.mpr ⟨zo_none_tl, ?_⟩
  refine List.forall_mem_cons.mpr ⟨zo_none_tl, ?_⟩
  refine List.forall_mem_cons.mpr ⟨(zo_aload_tl _ _), ?_⟩
  refine List.forall_mem_cons.mpr ⟨(zo_getf_tl _ _ _), ?_⟩
  refine List.forall_mem_cons.mpr ⟨zo_none_tl, ?_⟩
  refine List.forall_mem_cons.mpr ⟨zo_none_tl, ?_⟩
  refine List.forall_mem_cons.mpr ⟨(zo_pushI_tl _ _), ?_⟩
  refine List.forall_mem_cons.mpr ⟨zo_none_tl, ?_⟩
  refine List.forall_mem_cons.mpr ⟨(zo_pushI_tl _ _), ?_⟩
  refine List.forall_mem_cons.mpr ⟨(zo_iast_tl _ _), ?_⟩
  refine List.forall_mem_cons.mpr ⟨(zo_aload_tl _ _), ?_⟩
  refine List.forall_mem_cons.mpr ⟨(zo_aload_tl _ _), ?_⟩
  refine List.forall_mem_cons.mpr ⟨(zo_iload_tl _ _), ?_⟩
  refine List.forall_mem_cons.mpr ⟨(zo_callv_tl _ _ _ _), ?_⟩
  refine List.forall_mem_cons.mpr ⟨zo_none_tl, ?_⟩
  refine List.forall_mem_cons.mpr ⟨zo_none_tl, ?_⟩
  refine List.forall_mem_cons.mpr ⟨(zo_callv_tl _ _ _ _), ?_⟩
  refine List.forall_mem_cons.mpr ⟨zo_none_tl, ?_⟩
  refine List.forall_mem_cons.mpr ⟨zo_none_tl, ?_⟩
  refine List.forall_mem_cons.mpr ⟨(zo_if_tl _ _ _), ?_⟩
  refine List.forall_mem_cons.mpr ⟨zo_none_tl, ?_⟩
  refine List.forall_mem_cons.mpr ⟨zo_none_tl, ?_⟩
  refine List.forall_mem_cons.mpr ⟨(zo_pushI_tl _ _), ?_⟩
  refine List.forall_mem_cons.mpr ⟨(zo_iret_tl _), ?_⟩
  refine List.forall_mem_cons.mpr ⟨(zo_aload_tl _ _), ?_⟩
  refine List.forall_mem_cons.mpr ⟨(zo_getf_tl _ _ _), ?_⟩
  refine List.forall_mem_cons.mpr ⟨zo_none_tl, ?_⟩
  refine List.forall_mem_cons.mpr ⟨zo_none_tl, ?_⟩
  refine List.forall_mem_cons.mpr ⟨(zo_pushI_tl _ _), ?_⟩
  refine List.forall_mem_cons.mpr ⟨zo_none_tl, ?_⟩
  refine List.forall_mem_cons.mpr ⟨zo_none_tl, ?_⟩
  refine List.forall_mem_cons.mpr ⟨(zo_icmp_tl _ _ _), ?_⟩
  refine List.forall_mem_cons.mpr ⟨zo_none_tl, ?_⟩
  refine List.forall_mem_cons.mpr ⟨zo_none_tl, ?_⟩
  refine List.forall_mem_cons.mpr ⟨(zo_pushI_tl _ _), ?_⟩
  refine List.forall_mem_cons.mpr ⟨(zo_iret_tl _), ?_⟩
  refine List.forall_mem_cons.mpr ⟨(zo_aload_tl _ _), ?_⟩
  refine List.forall_mem_cons.mpr ⟨(zo_getf_tl _ _ _), ?_⟩
  refine List.forall_mem_cons.mpr ⟨zo_none_tl, ?_⟩
  refine List.forall_mem_cons.mpr ⟨zo_none_tl, ?_⟩
  refine List.forall_mem_cons.mpr ⟨(zo_pushI_tl _ _), ?_⟩
  refine List.forall_mem_cons.mpr ⟨(zo_aload_tl _ _), ?_⟩
  refine List.forall_mem_cons.mpr ⟨(zo_getf_tl _ _ _), ?_⟩
  refine List.forall_mem_cons.mpr ⟨zo_none_tl, ?_⟩
  refine List.forall_mem_cons.mpr ⟨zo_none_tl, ?_⟩
  refine List.forall_mem_cons.mpr ⟨(zo_aload_tl _ _), ?_⟩
  refine List.forall_mem_cons.mpr ⟨(zo_getf_tl _ _ _), ?_⟩
  refine List.forall_mem_cons.mpr ⟨zo_none_tl, ?_⟩
  refine List.forall_mem_cons.mpr ⟨zo_none_tl, ?_⟩
  refine List.forall_mem_cons.mpr ⟨(zo_pushI_tl _ _), ?_⟩
  refine List.forall_mem_cons.mpr ⟨(zo_ii_tl _ _), ?_⟩
  refine List.forall_mem_cons.mpr ⟨(zo_pushI_tl _ _), ?_⟩
  refine List.forall_mem_cons.mpr ⟨zo_none_tl, ?_⟩
  refine List.forall_mem_cons.mpr ⟨(zo_ii_tl _ _), ?_⟩
  refine List.forall_mem_cons.mpr ⟨(zo_pushI_tl _ _), ?_⟩
  refine List.forall_mem_cons.mpr ⟨zo_none_tl, ?_⟩
  refine List.forall_mem_cons.mpr ⟨(zo_copy_tl _ _), ?_⟩
  refine List.forall_mem_cons.mpr ⟨zo_none_tl, ?_⟩
  refine List.forall_mem_cons.mpr ⟨zo_none_tl, ?_⟩
  refine List.forall_mem_cons.mpr ⟨(zo_aload_tl _ _), ?_⟩
  refine List.forall_mem_cons.mpr ⟨(zo_iload_tl _ _), ?_⟩
  refine List.forall_mem_cons.mpr ⟨(zo_aload_tl _ _), ?_⟩
  refine List.forall_mem_cons.mpr ⟨(zo_getf_tl _ _ _), ?_⟩
  refine List.forall_mem_cons.mpr ⟨zo_none_tl, ?_⟩
  refine List.forall_mem_cons.mpr ⟨zo_none_tl, ?_⟩
  refine List.forall_mem_cons.mpr ⟨(zo_pushI_tl _ _), ?_⟩
  refine List.forall_mem_cons.mpr ⟨(zo_ii_tl _ _), ?_⟩
  refine List.forall_mem_cons.mpr ⟨(zo_callv_tl _ _ _ _), ?_⟩
  refine List.forall_mem_cons.mpr ⟨zo_none_tl, ?_⟩
  refine List.forall_mem_cons.mpr ⟨zo_none_tl, ?_⟩
  refine List.forall_mem_cons.mpr ⟨(zo_pushI_tl _ _), ?_⟩
  refine List.forall_mem_cons.mpr ⟨(zo_iret_tl _), ?_⟩
  exact fun _ h => absurd h List.not_mem_nil
noncomputable def fX9_write : zzFn := zz_fn tX9_write 2
set_option maxRecDepth 100000 in
set_option maxHeartbeats 4000000 in
theorem mm_X9_write {l : Launch} {D : va_G} {cA : Nat → ClassId} {ad : Nat → Nat} {Ex : (Nat → Prop) → State → Heap → Prop} (Wd : zzWC l D cA ad Ex) : zz_Cn l D zzCl cA ad zzSC Ex yX9_write cX9_write 2 (some .boolean) 1 26 fX9_write ∧ zz_Cx l D zzCl cA ad zzSC Ex yX9_write cX9_write 2 (some .boolean) 1 26 fX9_write := by
  refine zz_meth (plainFor_of_name (by decide)) Wd.1 Wd.2.1 Wd.2.2.1 (fun p e R s m args below meth c rr X => ?_)
  unfold tX9_write
  refine zz_cons (k' := 1) rfl (zk_aload_n X dX9_write_0 rfl rfl) ?_
  refine zz_cons (k' := 2) rfl (zk_getf X ff_X9_28 dX9_write_1 rfl) ?_
  refine zz_cons (k' := 3) rfl (zz_Ok_none _ _) ?_
  refine zz_cons (k' := 4) rfl (zz_Ok_none _ _) ?_
  refine zz_cons (k' := 5) rfl (zk_bipush X dX9_write_4 (by decide) rfl) ?_
  refine zz_cons (k' := 6) rfl (zz_Ok_none _ _) ?_
  refine zz_cons (k' := 7) rfl (zk_iald X (zzWC_st Wd) dX9_write_6 rfl) ?_
  refine zz_cons (k' := 8) rfl (zk_iconst X dX9_write_7 (by decide) rfl) ?_
  refine zz_cons (k' := 9) rfl (zk_icmp_ne X dX9_write_8 (by decide) rfl) ?_
  refine zz_cons (k' := 10) rfl (zz_Ok_none _ _) ?_
  refine zz_cons (k' := 11) rfl (zz_Ok_none _ _) ?_
  refine zz_cons (k' := 12) rfl (zk_aload_n X dX9_write_11 rfl rfl) ?_
  refine zz_cons (k' := 13) rfl (zk_getf X ff_X9_28 dX9_write_12 rfl) ?_
  refine zz_cons (k' := 14) rfl (zz_Ok_none _ _) ?_
  refine zz_cons (k' := 15) rfl (zz_Ok_none _ _) ?_
  refine zz_cons (k' := 16) rfl (zk_bipush X dX9_write_15 (by decide) rfl) ?_
  refine zz_cons (k' := 17) rfl (zz_Ok_none _ _) ?_
  refine zz_cons (k' := 18) rfl (zk_iconst X dX9_write_17 (by decide) rfl) ?_
  refine zz_cons (k' := 19) rfl (zk_iast X dX9_write_18 rfl) ?_
  refine zz_cons (k' := 20) rfl (zk_aload_n X dX9_write_19 rfl rfl) ?_
  refine zz_cons (k' := 21) rfl (zk_aload_n X dX9_write_20 rfl rfl) ?_
  refine zz_cons (k' := 22) rfl (zk_iload_n X dX9_write_21 rfl rfl) ?_
  refine zz_cons (k' := 23) rfl (zk_callv X (zz_Cv_of (List.forall_mem_cons.mpr ⟨⟨(RX_8, zzT8, 9), yX10_latestOf, cX10_latestOf, 2, (some .int), 0, 0, rfl, kv_X9_81_8, (mm_X10_latestOf Wd).1, by decide, by decide⟩, (fun _ h => absurd h List.not_mem_nil)⟩)) dX9_write_22 rfl) ?_
  refine zz_cons (k' := 24) rfl (zz_Ok_none _ _) ?_
  refine zz_cons (k' := 25) rfl (zz_Ok_none _ _) ?_
  refine zz_cons (k' := 26) rfl (zk_callv X (zz_Cv_of (List.forall_mem_cons.mpr ⟨⟨(RX_8, zzT8, 9), yX9_isDraftAs, cX9_isDraftAs, 3, (some .boolean), 0, 0, rfl, kv_X9_91_8.1, (mm_X9_isDraftAs Wd).1, by decide, by decide⟩, (fun _ h => absurd h List.not_mem_nil)⟩)) dX9_write_25 rfl) ?_
  refine zz_cons (k' := 27) rfl (zz_Ok_none _ _) ?_
  refine zz_cons (k' := 28) rfl (zz_Ok_none _ _) ?_
  refine zz_cons (k' := 29) rfl (zk_if_eq X dX9_write_28 (by decide) rfl) ?_
  refine zz_cons (k' := 30) rfl (zz_Ok_none _ _) ?_
  refine zz_cons (k' := 31) rfl (zz_Ok_none _ _) ?_
  refine zz_cons (k' := 32) rfl (zk_iconst X dX9_write_31 (by decide) rfl) ?_
  refine zz_cons (k' := 33) rfl (zk_iret X rfl dX9_write_32) ?_
  refine zz_cons (k' := 34) rfl (zk_aload_n X dX9_write_33 rfl rfl) ?_
  refine zz_cons (k' := 35) rfl (zk_getf X ff_X9_94 dX9_write_34 rfl) ?_
  refine zz_cons (k' := 36) rfl (zz_Ok_none _ _) ?_
  refine zz_cons (k' := 37) rfl (zz_Ok_none _ _) ?_
  refine zz_cons (k' := 38) rfl (zk_sipush X dX9_write_37 (by decide) rfl) ?_
  refine zz_cons (k' := 39) rfl (zz_Ok_none _ _) ?_
  refine zz_cons (k' := 40) rfl (zz_Ok_none _ _) ?_
  refine zz_cons (k' := 41) rfl (zk_icmp_lt X dX9_write_40 (by decide) rfl) ?_
  refine zz_cons (k' := 42) rfl (zz_Ok_none _ _) ?_
  refine zz_cons (k' := 43) rfl (zz_Ok_none _ _) ?_
  refine zz_cons (k' := 44) rfl (zk_iconst X dX9_write_43 (by decide) rfl) ?_
  refine zz_cons (k' := 45) rfl (zk_iret X rfl dX9_write_44) ?_
  refine zz_cons (k' := 46) rfl (zk_aload_n X dX9_write_45 rfl rfl) ?_
  refine zz_cons (k' := 47) rfl (zk_getf X ff_X9_28 dX9_write_46 rfl) ?_
  refine zz_cons (k' := 48) rfl (zz_Ok_none _ _) ?_
  refine zz_cons (k' := 49) rfl (zz_Ok_none _ _) ?_
  refine zz_cons (k' := 50) rfl (zk_iconst X dX9_write_49 (by decide) rfl) ?_
  refine zz_cons (k' := 51) rfl (zk_aload_n X dX9_write_50 rfl rfl) ?_
  refine zz_cons (k' := 52) rfl (zk_getf X ff_X9_78 dX9_write_51 rfl) ?_
  refine zz_cons (k' := 53) rfl (zz_Ok_none _ _) ?_
  refine zz_cons (k' := 54) rfl (zz_Ok_none _ _) ?_
  refine zz_cons (k' := 55) rfl (zk_aload_n X dX9_write_54 rfl rfl) ?_
  refine zz_cons (k' := 56) rfl (zk_getf X ff_X9_94 dX9_write_55 rfl) ?_
  refine zz_cons (k' := 57) rfl (zz_Ok_none _ _) ?_
  refine zz_cons (k' := 58) rfl (zz_Ok_none _ _) ?_
  refine zz_cons (k' := 59) rfl (zk_iconst X dX9_write_58 (by decide) rfl) ?_
  refine zz_cons (k' := 60) rfl (zk_iadd X dX9_write_59 rfl) ?_
  refine zz_cons (k' := 61) rfl (zk_bipush X dX9_write_60 (by decide) rfl) ?_
  refine zz_cons (k' := 62) rfl (zz_Ok_none _ _) ?_
  refine zz_cons (k' := 63) rfl (zk_imul X dX9_write_62 rfl) ?_
  refine zz_cons (k' := 64) rfl (zk_bipush X dX9_write_63 (by decide) rfl) ?_
  refine zz_cons (k' := 65) rfl (zz_Ok_none _ _) ?_
  refine zz_cons (k' := 66) rfl (zk_copy X (zz_in (by decide +kernel)) (zz_in (by decide +kernel)) (zz_in (by decide +kernel)) (zz_in (by decide +kernel)) (by decide +kernel) dX9_write_65 rfl) ?_
  refine zz_cons (k' := 67) rfl (zz_Ok_none _ _) ?_
  refine zz_cons (k' := 68) rfl (zz_Ok_none _ _) ?_
  refine zz_cons (k' := 69) rfl (zk_aload_n X dX9_write_68 rfl rfl) ?_
  refine zz_cons (k' := 70) rfl (zk_iload_n X dX9_write_69 rfl rfl) ?_
  refine zz_cons (k' := 71) rfl (zk_aload_n X dX9_write_70 rfl rfl) ?_
  refine zz_cons (k' := 72) rfl (zk_getf X ff_X9_94 dX9_write_71 rfl) ?_
  refine zz_cons (k' := 73) rfl (zz_Ok_none _ _) ?_
  refine zz_cons (k' := 74) rfl (zz_Ok_none _ _) ?_
  refine zz_cons (k' := 75) rfl (zk_iconst X dX9_write_74 (by decide) rfl) ?_
  refine zz_cons (k' := 76) rfl (zk_iadd X dX9_write_75 rfl) ?_
  refine zz_cons (k' := 77) rfl (zk_callv X (zz_Cv_of (List.forall_mem_cons.mpr ⟨⟨(RX_8, zzT8, 9), yX10_takeIn, cX10_takeIn, 3, none, 0, 0, rfl, kv_X9_97_8, (mm_X10_takeIn Wd).1, by decide, by decide⟩, (fun _ h => absurd h List.not_mem_nil)⟩)) dX9_write_76 rfl) ?_
  refine zz_cons (k' := 78) rfl (zz_Ok_none _ _) ?_
  refine zz_cons (k' := 79) rfl (zz_Ok_none _ _) ?_
  refine zz_cons (k' := 80) rfl (zk_iconst X dX9_write_79 (by decide) rfl) ?_
  refine zz_cons (k' := 81) rfl (zk_iret X rfl dX9_write_80) ?_
  exact trivial
noncomputable def tX9_startGoing : List zzOp := [
  zo_aload 0 1,
  zo_iload 1 2,
  zo_callv zzSC (zz_cl [(8, fX9_draftFrom)]) 1 5,
  zo_none,
  zo_none,
  zo_aload 0 6,
  zo_getf zzSC (zz_kf [8] 6) 9,
  zo_none,
  zo_none,
  zo_pushI 25 11,
  zo_none,
  zo_iload 2 12,
  zo_pushI 2 13,
  zo_icmp (fun x y => decide (¬ x = y)) 28 16,
  zo_none,
  zo_none,
  zo_aload 0 17,
  zo_iload 1 18,
  zo_callv zzSC (zz_cl [(8, fX10_isKept)]) 1 21,
  zo_none,
  zo_none,
  zo_if (fun x => decide (¬ x = 0)) 28 24,
  zo_none,
  zo_none,
  zo_pushI 4 25,
  zo_goto 29,
  zo_none,
  zo_none,
  zo_iload 2 29,
  zo_iast zzSC 30,
  zo_aload 0 31,
  zo_iload 1 32,
  zo_callv zzSC (zz_cl [(8, fX9_write)]) 1 35,
  zo_none,
  zo_none,
  zo_iret true]
set_option maxRecDepth 100000 in
theorem tl_X9_startGoing : ∀ pc, zz_Tl (tX9_startGoing.getD pc zo_none) := by
  refine zz_Tl_mem ?_
  unfold tX9_startGoing
  refine List.forall_mem_cons.mpr ⟨(zo_aload_tl _ _), ?_⟩
  refine List.forall_mem_cons.mpr ⟨(zo_iload_tl _ _), ?_⟩
  refine List.forall_mem_cons.mpr ⟨(zo_callv_tl _ _ _ _), ?_⟩
  refine List.forall_mem_cons.mpr ⟨zo_none_tl, ?_⟩
  refine List.forall_mem_cons.mpr ⟨zo_none_tl, ?_⟩
  refine List.forall_mem_cons.mpr ⟨(zo_aload_tl _ _), ?_⟩
  refine List.forall_mem_cons.mpr ⟨(zo_getf_tl _ _ _), ?_⟩
  refine List.forall_mem_cons.mpr ⟨zo_none_tl, ?_⟩
  refine List.forall_mem_cons.mpr ⟨zo_none_tl, ?_⟩
  refine List.forall_mem_cons.mpr ⟨(zo_pushI_tl _ _), ?_⟩
  refine List.forall_mem_cons.mpr ⟨zo_none_tl, ?_⟩
  refine List.forall_mem_cons.mpr ⟨(zo_iload_tl _ _), ?_⟩
  refine List.forall_mem_cons.mpr ⟨(zo_pushI_tl _ _), ?_⟩
  refine List.forall_mem_cons.mpr ⟨(zo_icmp_tl _ _ _), ?_⟩
  refine List.forall_mem_cons.mpr ⟨zo_none_tl, ?_⟩
  refine List.forall_mem_cons.mpr ⟨zo_none_tl, ?_⟩
  refine List.forall_mem_cons.mpr ⟨(zo_aload_tl _ _), ?_⟩
  refine List.forall_mem_cons.mpr ⟨(zo_iload_tl _ _), ?_⟩
  refine List.forall_mem_cons.mpr ⟨(zo_callv_tl _ _ _ _), ?_⟩
  refine List.forall_mem_cons.mpr ⟨zo_none_tl, ?_⟩
  refine List.forall_mem_cons.mpr ⟨zo_none_tl, ?_⟩
  refine List.forall_mem_cons.mpr ⟨(zo_if_tl _ _ _), ?_⟩
  refine List.forall_mem_cons.mpr ⟨zo_none_tl, ?_⟩
  refine List.forall_mem_cons.mpr ⟨zo_none_tl, ?_⟩
  refine List.forall_mem_cons.mpr ⟨(zo_pushI_tl _ _), ?_⟩
  refine List.forall_mem_cons.mpr ⟨(zo_goto_tl _), ?_⟩
  refine List.forall_mem_cons.mpr ⟨zo_none_tl, ?_⟩
  refine List.forall_mem_cons.mpr ⟨zo_none_tl, ?_⟩
  refine List.forall_mem_cons.mpr ⟨(zo_iload_tl _ _), ?_⟩
  refine List.forall_mem_cons.mpr ⟨(zo_iast_tl _ _), ?_⟩
  refine List.forall_mem_cons.mpr ⟨(zo_aload_tl _ _), ?_⟩
  refine List.forall_mem_cons.mpr ⟨(zo_iload_tl _ _), ?_⟩
  refine List.forall_mem_cons.mpr ⟨(zo_callv_tl _ _ _ _), ?_⟩
  refine List.forall_mem_cons.mpr ⟨zo_none_tl, ?_⟩
  refine List.forall_mem_cons.mpr ⟨zo_none_tl, ?_⟩
  refine List.forall_mem_cons.mpr ⟨(zo_iret_tl _), ?_⟩
  exact fun _ h => absurd h List.not_mem_nil
noncomputable def fX9_startGoing : zzFn := zz_fn tX9_startGoing 3
set_option maxRecDepth 100000 in
set_option maxHeartbeats 4000000 in
theorem mm_X9_startGoing {l : Launch} {D : va_G} {cA : Nat → ClassId} {ad : Nat → Nat} {Ex : (Nat → Prop) → State → Heap → Prop} (Wd : zzWC l D cA ad Ex) : zz_Cn l D zzCl cA ad zzSC Ex yX9_startGoing cX9_startGoing 3 (some .boolean) 2 47 fX9_startGoing ∧ zz_Cx l D zzCl cA ad zzSC Ex yX9_startGoing cX9_startGoing 3 (some .boolean) 2 47 fX9_startGoing := by
  refine zz_meth (plainFor_of_name (by decide)) Wd.1 Wd.2.1 Wd.2.2.1 (fun p e R s m args below meth c rr X => ?_)
  unfold tX9_startGoing
  refine zz_cons (k' := 1) rfl (zk_aload_n X dX9_startGoing_0 rfl rfl) ?_
  refine zz_cons (k' := 2) rfl (zk_iload_n X dX9_startGoing_1 rfl rfl) ?_
  refine zz_cons (k' := 3) rfl (zk_callv X (zz_Cv_of (List.forall_mem_cons.mpr ⟨⟨(RX_8, zzT8, 9), yX9_draftFrom, cX9_draftFrom, 2, none, 1, 26, rfl, kv_X9_71_8.1, (mm_X9_draftFrom Wd).1, by decide, by decide⟩, (fun _ h => absurd h List.not_mem_nil)⟩)) dX9_startGoing_2 rfl) ?_
  refine zz_cons (k' := 4) rfl (zz_Ok_none _ _) ?_
  refine zz_cons (k' := 5) rfl (zz_Ok_none _ _) ?_
  refine zz_cons (k' := 6) rfl (zk_aload_n X dX9_startGoing_5 rfl rfl) ?_
  refine zz_cons (k' := 7) rfl (zk_getf X ff_X9_28 dX9_startGoing_6 rfl) ?_
  refine zz_cons (k' := 8) rfl (zz_Ok_none _ _) ?_
  refine zz_cons (k' := 9) rfl (zz_Ok_none _ _) ?_
  refine zz_cons (k' := 10) rfl (zk_bipush X dX9_startGoing_9 (by decide) rfl) ?_
  refine zz_cons (k' := 11) rfl (zz_Ok_none _ _) ?_
  refine zz_cons (k' := 12) rfl (zk_iload_n X dX9_startGoing_11 rfl rfl) ?_
  refine zz_cons (k' := 13) rfl (zk_iconst X dX9_startGoing_12 (by decide) rfl) ?_
  refine zz_cons (k' := 14) rfl (zk_icmp_ne X dX9_startGoing_13 (by decide) rfl) ?_
  refine zz_cons (k' := 15) rfl (zz_Ok_none _ _) ?_
  refine zz_cons (k' := 16) rfl (zz_Ok_none _ _) ?_
  refine zz_cons (k' := 17) rfl (zk_aload_n X dX9_startGoing_16 rfl rfl) ?_
  refine zz_cons (k' := 18) rfl (zk_iload_n X dX9_startGoing_17 rfl rfl) ?_
  refine zz_cons (k' := 19) rfl (zk_callv X (zz_Cv_of (List.forall_mem_cons.mpr ⟨⟨(RX_8, zzT8, 9), yX10_isKept, cX10_isKept, 2, (some .boolean), 1, 22, rfl, kv_X9_75_8, (mm_X10_isKept Wd).1, by decide, by decide⟩, (fun _ h => absurd h List.not_mem_nil)⟩)) dX9_startGoing_18 rfl) ?_
  refine zz_cons (k' := 20) rfl (zz_Ok_none _ _) ?_
  refine zz_cons (k' := 21) rfl (zz_Ok_none _ _) ?_
  refine zz_cons (k' := 22) rfl (zk_if_ne X dX9_startGoing_21 (by decide) rfl) ?_
  refine zz_cons (k' := 23) rfl (zz_Ok_none _ _) ?_
  refine zz_cons (k' := 24) rfl (zz_Ok_none _ _) ?_
  refine zz_cons (k' := 25) rfl (zk_iconst X dX9_startGoing_24 (by decide) rfl) ?_
  refine zz_cons (k' := 26) rfl (zk_goto X dX9_startGoing_25 (by decide)) ?_
  refine zz_cons (k' := 27) rfl (zz_Ok_none _ _) ?_
  refine zz_cons (k' := 28) rfl (zz_Ok_none _ _) ?_
  refine zz_cons (k' := 29) rfl (zk_iload_n X dX9_startGoing_28 rfl rfl) ?_
  refine zz_cons (k' := 30) rfl (zk_iast X dX9_startGoing_29 rfl) ?_
  refine zz_cons (k' := 31) rfl (zk_aload_n X dX9_startGoing_30 rfl rfl) ?_
  refine zz_cons (k' := 32) rfl (zk_iload_n X dX9_startGoing_31 rfl rfl) ?_
  refine zz_cons (k' := 33) rfl (zk_callv X (zz_Cv_of (List.forall_mem_cons.mpr ⟨⟨(RX_8, zzT8, 9), yX9_write, cX9_write, 2, (some .boolean), 1, 26, rfl, kv_X9_53_8.1, (mm_X9_write Wd).1, by decide, by decide⟩, (fun _ h => absurd h List.not_mem_nil)⟩)) dX9_startGoing_32 rfl) ?_
  refine zz_cons (k' := 34) rfl (zz_Ok_none _ _) ?_
  refine zz_cons (k' := 35) rfl (zz_Ok_none _ _) ?_
  refine zz_cons (k' := 36) rfl (zk_iret X rfl dX9_startGoing_35) ?_
  exact trivial
noncomputable def tX9_change : List zzOp := [
  zo_iload 2 1,
  zo_if (fun x => decide (x < 0)) 10 4,
  zo_none,
  zo_none,
  zo_iload 2 5,
  zo_pushI 32 7,
  zo_none,
  zo_icmp (fun x y => decide (x < y)) 12 10,
  zo_none,
  zo_none,
  zo_pushI 0 11,
  zo_iret true,
  zo_aload 0 13,
  zo_iload 1 14,
  zo_callv zzSC (zz_cl [(8, fX9_draftFrom)]) 1 17,
  zo_none,
  zo_none,
  zo_aload 0 18,
  zo_getf zzSC (zz_kf [8] 6) 21,
  zo_none,
  zo_none,
  zo_iload 2 22,
  zo_iload 3 23,
  zo_iast zzSC 24,
  zo_aload 0 25,
  zo_iload 1 26,
  zo_callv zzSC (zz_cl [(8, fX9_write)]) 1 29,
  zo_none,
  zo_none,
  zo_iret true]
set_option maxRecDepth 100000 in
theorem tl_X9_change : ∀ pc, zz_Tl (tX9_change.getD pc zo_none) := by
  refine zz_Tl_mem ?_
  unfold tX9_change
  refine List.forall_mem_cons.mpr ⟨(zo_iload_tl _ _), ?_⟩
  refine List.forall_mem_cons.mpr ⟨(zo_if_tl _ _ _), ?_⟩
  refine List.forall_mem_cons.mpr ⟨zo_none_tl, ?_⟩
  refine List.forall_mem_cons.mpr ⟨zo_none_tl, ?_⟩
  refine List.forall_mem_cons.mpr ⟨(zo_iload_tl _ _), ?_⟩
  refine List.forall_mem_cons.mpr ⟨(zo_pushI_tl _ _), ?_⟩
  refine List.forall_mem_cons.mpr ⟨zo_none_tl, ?_⟩
  refine List.forall_mem_cons.mpr ⟨(zo_icmp_tl _ _ _), ?_⟩
  refine List.forall_mem_cons.mpr ⟨zo_none_tl, ?_⟩
  refine List.forall_mem_cons.mpr ⟨zo_none_tl, ?_⟩
  refine List.forall_mem_cons.mpr ⟨(zo_pushI_tl _ _), ?_⟩
  refine List.forall_mem_cons.mpr ⟨(zo_iret_tl _), ?_⟩
  refine List.forall_mem_cons.mpr ⟨(zo_aload_tl _ _), ?_⟩
  refine List.forall_mem_cons.mpr ⟨(zo_iload_tl _ _), ?_⟩
  refine List.forall_mem_cons.mpr ⟨(zo_callv_tl _ _ _ _), ?_⟩
  refine List.forall_mem_cons.mpr ⟨zo_none_tl, ?_⟩
  refine List.forall_mem_cons.mpr ⟨zo_none_tl, ?_⟩
  refine List.forall_mem_cons.mpr ⟨(zo_aload_tl _ _), ?_⟩
  refine List.forall_mem_cons.mpr ⟨(zo_getf_tl _ _ _), ?_⟩
  refine List.forall_mem_cons.mpr ⟨zo_none_tl, ?_⟩
  refine List.forall_mem_cons.mpr ⟨zo_none_tl, ?_⟩
  refine List.forall_mem_cons.mpr ⟨(zo_iload_tl _ _), ?_⟩
  refine List.forall_mem_cons.mpr ⟨(zo_iload_tl _ _), ?_⟩
  refine List.forall_mem_cons.mpr ⟨(zo_iast_tl _ _), ?_⟩
  refine List.forall_mem_cons.mpr ⟨(zo_aload_tl _ _), ?_⟩
  refine List.forall_mem_cons.mpr ⟨(zo_iload_tl _ _), ?_⟩
  refine List.forall_mem_cons.mpr ⟨(zo_callv_tl _ _ _ _), ?_⟩
  refine List.forall_mem_cons.mpr ⟨zo_none_tl, ?_⟩
  refine List.forall_mem_cons.mpr ⟨zo_none_tl, ?_⟩
  refine List.forall_mem_cons.mpr ⟨(zo_iret_tl _), ?_⟩
  exact fun _ h => absurd h List.not_mem_nil
noncomputable def fX9_change : zzFn := zz_fn tX9_change 4
set_option maxRecDepth 100000 in
set_option maxHeartbeats 4000000 in
theorem mm_X9_change {l : Launch} {D : va_G} {cA : Nat → ClassId} {ad : Nat → Nat} {Ex : (Nat → Prop) → State → Heap → Prop} (Wd : zzWC l D cA ad Ex) : zz_Cn l D zzCl cA ad zzSC Ex yX9_change cX9_change 4 (some .boolean) 2 47 fX9_change ∧ zz_Cx l D zzCl cA ad zzSC Ex yX9_change cX9_change 4 (some .boolean) 2 47 fX9_change := by
  refine zz_meth (plainFor_of_name (by decide)) Wd.1 Wd.2.1 Wd.2.2.1 (fun p e R s m args below meth c rr X => ?_)
  unfold tX9_change
  refine zz_cons (k' := 1) rfl (zk_iload_n X dX9_change_0 rfl rfl) ?_
  refine zz_cons (k' := 2) rfl (zk_if_lt X dX9_change_1 (by decide) rfl) ?_
  refine zz_cons (k' := 3) rfl (zz_Ok_none _ _) ?_
  refine zz_cons (k' := 4) rfl (zz_Ok_none _ _) ?_
  refine zz_cons (k' := 5) rfl (zk_iload_n X dX9_change_4 rfl rfl) ?_
  refine zz_cons (k' := 6) rfl (zk_bipush X dX9_change_5 (by decide) rfl) ?_
  refine zz_cons (k' := 7) rfl (zz_Ok_none _ _) ?_
  refine zz_cons (k' := 8) rfl (zk_icmp_lt X dX9_change_7 (by decide) rfl) ?_
  refine zz_cons (k' := 9) rfl (zz_Ok_none _ _) ?_
  refine zz_cons (k' := 10) rfl (zz_Ok_none _ _) ?_
  refine zz_cons (k' := 11) rfl (zk_iconst X dX9_change_10 (by decide) rfl) ?_
  refine zz_cons (k' := 12) rfl (zk_iret X rfl dX9_change_11) ?_
  refine zz_cons (k' := 13) rfl (zk_aload_n X dX9_change_12 rfl rfl) ?_
  refine zz_cons (k' := 14) rfl (zk_iload_n X dX9_change_13 rfl rfl) ?_
  refine zz_cons (k' := 15) rfl (zk_callv X (zz_Cv_of (List.forall_mem_cons.mpr ⟨⟨(RX_8, zzT8, 9), yX9_draftFrom, cX9_draftFrom, 2, none, 1, 26, rfl, kv_X9_71_8.1, (mm_X9_draftFrom Wd).1, by decide, by decide⟩, (fun _ h => absurd h List.not_mem_nil)⟩)) dX9_change_14 rfl) ?_
  refine zz_cons (k' := 16) rfl (zz_Ok_none _ _) ?_
  refine zz_cons (k' := 17) rfl (zz_Ok_none _ _) ?_
  refine zz_cons (k' := 18) rfl (zk_aload_n X dX9_change_17 rfl rfl) ?_
  refine zz_cons (k' := 19) rfl (zk_getf X ff_X9_28 dX9_change_18 rfl) ?_
  refine zz_cons (k' := 20) rfl (zz_Ok_none _ _) ?_
  refine zz_cons (k' := 21) rfl (zz_Ok_none _ _) ?_
  refine zz_cons (k' := 22) rfl (zk_iload_n X dX9_change_21 rfl rfl) ?_
  refine zz_cons (k' := 23) rfl (zk_iload_n X dX9_change_22 rfl rfl) ?_
  refine zz_cons (k' := 24) rfl (zk_iast X dX9_change_23 rfl) ?_
  refine zz_cons (k' := 25) rfl (zk_aload_n X dX9_change_24 rfl rfl) ?_
  refine zz_cons (k' := 26) rfl (zk_iload_n X dX9_change_25 rfl rfl) ?_
  refine zz_cons (k' := 27) rfl (zk_callv X (zz_Cv_of (List.forall_mem_cons.mpr ⟨⟨(RX_8, zzT8, 9), yX9_write, cX9_write, 2, (some .boolean), 1, 26, rfl, kv_X9_53_8.1, (mm_X9_write Wd).1, by decide, by decide⟩, (fun _ h => absurd h List.not_mem_nil)⟩)) dX9_change_26 rfl) ?_
  refine zz_cons (k' := 28) rfl (zz_Ok_none _ _) ?_
  refine zz_cons (k' := 29) rfl (zz_Ok_none _ _) ?_
  refine zz_cons (k' := 30) rfl (zk_iret X rfl dX9_change_29) ?_
  exact trivial
noncomputable def tX10_takeAll : List zzOp := [
  zo_aload 1 1,
  zo_getf zzSC (zz_kf [1, 2, 3, 4, 5, 6, 7, 8] 1) 4,
  zo_none,
  zo_none,
  zo_pushI 0 5,
  zo_aload 0 6,
  zo_getf zzSC (zz_kf [1, 2, 3, 4, 5, 6, 7, 8] 1) 9,
  zo_none,
  zo_none,
  zo_pushI 0 10,
  zo_pushI 60 12,
  zo_none,
  zo_copy zzSC 15,
  zo_none,
  zo_none,
  zo_aload 0 16,
  zo_aload 1 17,
  zo_getf zzSC (zz_kf [1, 2, 3, 4, 5, 6, 7, 8] 2) 20,
  zo_none,
  zo_none,
  zo_putf zzSC (zz_kf [1, 2, 3, 4, 5, 6, 7, 8] 2) false 23,
  zo_none,
  zo_none,
  zo_aload 0 24,
  zo_aload 1 25,
  zo_getf zzSC (zz_kf [1, 2, 3, 4, 5, 6, 7, 8] 3) 28,
  zo_none,
  zo_none,
  zo_putf zzSC (zz_kf [1, 2, 3, 4, 5, 6, 7, 8] 3) false 31,
  zo_none,
  zo_none,
  zo_ret]
set_option maxRecDepth 100000 in
theorem tl_X10_takeAll : ∀ pc, zz_Tl (tX10_takeAll.getD pc zo_none) := by
  refine zz_Tl_mem ?_
  unfold tX10_takeAll
  refine List.forall_mem_cons.mpr ⟨(zo_aload_tl _ _), ?_⟩
  refine List.forall_mem_cons.mpr ⟨(zo_getf_tl _ _ _), ?_⟩
  refine List.forall_mem_cons.mpr ⟨zo_none_tl, ?_⟩
  refine List.forall_mem_cons.mpr ⟨zo_none_tl, ?_⟩
  refine List.forall_mem_cons.mpr ⟨(zo_pushI_tl _ _), ?_⟩
  refine List.forall_mem_cons.mpr ⟨(zo_aload_tl _ _), ?_⟩
  refine List.forall_mem_cons.mpr ⟨(zo_getf_tl _ _ _), ?_⟩
  refine List.forall_mem_cons.mpr ⟨zo_none_tl, ?_⟩
  refine List.forall_mem_cons.mpr ⟨zo_none_tl, ?_⟩
  refine List.forall_mem_cons.mpr ⟨(zo_pushI_tl _ _), ?_⟩
  refine List.forall_mem_cons.mpr ⟨(zo_pushI_tl _ _), ?_⟩
  refine List.forall_mem_cons.mpr ⟨zo_none_tl, ?_⟩
  refine List.forall_mem_cons.mpr ⟨(zo_copy_tl _ _), ?_⟩
  refine List.forall_mem_cons.mpr ⟨zo_none_tl, ?_⟩
  refine List.forall_mem_cons.mpr ⟨zo_none_tl, ?_⟩
  refine List.forall_mem_cons.mpr ⟨(zo_aload_tl _ _), ?_⟩
  refine List.forall_mem_cons.mpr ⟨(zo_aload_tl _ _), ?_⟩
  refine List.forall_mem_cons.mpr ⟨(zo_getf_tl _ _ _), ?_⟩
  refine List.forall_mem_cons.mpr ⟨zo_none_tl, ?_⟩
  refine List.forall_mem_cons.mpr ⟨zo_none_tl, ?_⟩
  refine List.forall_mem_cons.mpr ⟨(zo_putf_tl _ _ _ _), ?_⟩
  refine List.forall_mem_cons.mpr ⟨zo_none_tl, ?_⟩
  refine List.forall_mem_cons.mpr ⟨zo_none_tl, ?_⟩
  refine List.forall_mem_cons.mpr ⟨(zo_aload_tl _ _), ?_⟩
  refine List.forall_mem_cons.mpr ⟨(zo_aload_tl _ _), ?_⟩
  refine List.forall_mem_cons.mpr ⟨(zo_getf_tl _ _ _), ?_⟩
  refine List.forall_mem_cons.mpr ⟨zo_none_tl, ?_⟩
  refine List.forall_mem_cons.mpr ⟨zo_none_tl, ?_⟩
  refine List.forall_mem_cons.mpr ⟨(zo_putf_tl _ _ _ _), ?_⟩
  refine List.forall_mem_cons.mpr ⟨zo_none_tl, ?_⟩
  refine List.forall_mem_cons.mpr ⟨zo_none_tl, ?_⟩
  refine List.forall_mem_cons.mpr ⟨(zo_ret_tl), ?_⟩
  exact fun _ h => absurd h List.not_mem_nil
noncomputable def fX10_takeAll : zzFn := zz_fn tX10_takeAll 2
set_option maxRecDepth 100000 in
set_option maxHeartbeats 4000000 in
theorem mm_X10_takeAll {l : Launch} {D : va_G} {cA : Nat → ClassId} {ad : Nat → Nat} {Ex : (Nat → Prop) → State → Heap → Prop} (Wd : zzWC l D cA ad Ex) : zz_Cn l D zzCl cA ad zzSC Ex yX10_takeAll cX10_takeAll 2 none 1 26 fX10_takeAll ∧ zz_Cx l D zzCl cA ad zzSC Ex yX10_takeAll cX10_takeAll 2 none 1 26 fX10_takeAll := by
  refine zz_meth (plainFor_of_name (by decide)) Wd.1 Wd.2.1 Wd.2.2.1 (fun p e R s m args below meth c rr X => ?_)
  unfold tX10_takeAll
  refine zz_cons (k' := 1) rfl (zk_aload_n X dX10_takeAll_0 rfl rfl) ?_
  refine zz_cons (k' := 2) rfl (zk_getf X ff_X10_15 dX10_takeAll_1 rfl) ?_
  refine zz_cons (k' := 3) rfl (zz_Ok_none _ _) ?_
  refine zz_cons (k' := 4) rfl (zz_Ok_none _ _) ?_
  refine zz_cons (k' := 5) rfl (zk_iconst X dX10_takeAll_4 (by decide) rfl) ?_
  refine zz_cons (k' := 6) rfl (zk_aload_n X dX10_takeAll_5 rfl rfl) ?_
  refine zz_cons (k' := 7) rfl (zk_getf X ff_X10_15 dX10_takeAll_6 rfl) ?_
  refine zz_cons (k' := 8) rfl (zz_Ok_none _ _) ?_
  refine zz_cons (k' := 9) rfl (zz_Ok_none _ _) ?_
  refine zz_cons (k' := 10) rfl (zk_iconst X dX10_takeAll_9 (by decide) rfl) ?_
  refine zz_cons (k' := 11) rfl (zk_bipush X dX10_takeAll_10 (by decide) rfl) ?_
  refine zz_cons (k' := 12) rfl (zz_Ok_none _ _) ?_
  refine zz_cons (k' := 13) rfl (zk_copy X (zz_in (by decide +kernel)) (zz_in (by decide +kernel)) (zz_in (by decide +kernel)) (zz_in (by decide +kernel)) (by decide +kernel) dX10_takeAll_12 rfl) ?_
  refine zz_cons (k' := 14) rfl (zz_Ok_none _ _) ?_
  refine zz_cons (k' := 15) rfl (zz_Ok_none _ _) ?_
  refine zz_cons (k' := 16) rfl (zk_aload_n X dX10_takeAll_15 rfl rfl) ?_
  refine zz_cons (k' := 17) rfl (zk_aload_n X dX10_takeAll_16 rfl rfl) ?_
  refine zz_cons (k' := 18) rfl (zk_getf X ff_X10_18 dX10_takeAll_17 rfl) ?_
  refine zz_cons (k' := 19) rfl (zz_Ok_none _ _) ?_
  refine zz_cons (k' := 20) rfl (zz_Ok_none _ _) ?_
  refine zz_cons (k' := 21) rfl (zk_putf X ff_X10_18 fp_1_2_3_4_5_6_7_8_2 dX10_takeAll_20 rfl) ?_
  refine zz_cons (k' := 22) rfl (zz_Ok_none _ _) ?_
  refine zz_cons (k' := 23) rfl (zz_Ok_none _ _) ?_
  refine zz_cons (k' := 24) rfl (zk_aload_n X dX10_takeAll_23 rfl rfl) ?_
  refine zz_cons (k' := 25) rfl (zk_aload_n X dX10_takeAll_24 rfl rfl) ?_
  refine zz_cons (k' := 26) rfl (zk_getf X ff_X10_22 dX10_takeAll_25 rfl) ?_
  refine zz_cons (k' := 27) rfl (zz_Ok_none _ _) ?_
  refine zz_cons (k' := 28) rfl (zz_Ok_none _ _) ?_
  refine zz_cons (k' := 29) rfl (zk_putf X ff_X10_22 fp_1_2_3_4_5_6_7_8_3 dX10_takeAll_28 rfl) ?_
  refine zz_cons (k' := 30) rfl (zz_Ok_none _ _) ?_
  refine zz_cons (k' := 31) rfl (zz_Ok_none _ _) ?_
  refine zz_cons (k' := 32) rfl (zk_ret X rfl dX10_takeAll_31) ?_
  exact trivial
noncomputable def tX10_objectAt : List zzOp := [
  zo_iload 1 1,
  zo_pushI 1 2,
  zo_icmp (fun x y => decide (x < y)) 12 5,
  zo_none,
  zo_none,
  zo_iload 1 6,
  zo_pushI 400 9,
  zo_none,
  zo_none,
  zo_icmp (fun x y => decide (x ≤ y)) 16 12,
  zo_none,
  zo_none,
  zo_pushI (-1) 13,
  zo_goto 28,
  zo_none,
  zo_none,
  zo_aload 0 17,
  zo_getf zzSC (zz_kf [1, 2, 3, 4, 5, 6, 7, 8] 0) 20,
  zo_none,
  zo_none,
  zo_iload 1 21,
  zo_pushI 32 23,
  zo_none,
  zo_ii (fun x y => x * y) 24,
  zo_pushI 22 26,
  zo_none,
  zo_ii (fun x y => x + y) 27,
  zo_iald zzSC zzSTC 28,
  zo_iret false]
set_option maxRecDepth 100000 in
theorem tl_X10_objectAt : ∀ pc, zz_Tl (tX10_objectAt.getD pc zo_none) := by
  refine zz_Tl_mem ?_
  unfold tX10_objectAt
  refine List.forall_mem_cons.mpr ⟨(zo_iload_tl _ _), ?_⟩
  refine List.forall_mem_cons.mpr ⟨(zo_pushI_tl _ _), ?_⟩
  refine List.forall_mem_cons.mpr ⟨(zo_icmp_tl _ _ _), ?_⟩
  refine List.forall_mem_cons.mpr ⟨zo_none_tl, ?_⟩
  refine List.forall_mem_cons.mpr ⟨zo_none_tl, ?_⟩
  refine List.forall_mem_cons.mpr ⟨(zo_iload_tl _ _), ?_⟩
  refine List.forall_mem_cons.mpr ⟨(zo_pushI_tl _ _), ?_⟩
  refine List.forall_mem_cons.mpr ⟨zo_none_tl, ?_⟩
  refine List.forall_mem_cons.mpr ⟨zo_none_tl, ?_⟩
  refine List.forall_mem_cons.mpr ⟨(zo_icmp_tl _ _ _), ?_⟩
  refine List.forall_mem_cons.mpr ⟨zo_none_tl, ?_⟩
  refine List.forall_mem_cons.mpr ⟨zo_none_tl, ?_⟩
  refine List.forall_mem_cons.mpr ⟨(zo_pushI_tl _ _), ?_⟩
  refine List.forall_mem_cons.mpr ⟨(zo_goto_tl _), ?_⟩
  refine List.forall_mem_cons.mpr ⟨zo_none_tl, ?_⟩
  refine List.forall_mem_cons.mpr ⟨zo_none_tl, ?_⟩
  refine List.forall_mem_cons.mpr ⟨(zo_aload_tl _ _), ?_⟩
  refine List.forall_mem_cons.mpr ⟨(zo_getf_tl _ _ _), ?_⟩
  refine List.forall_mem_cons.mpr ⟨zo_none_tl, ?_⟩
  refine List.forall_mem_cons.mpr ⟨zo_none_tl, ?_⟩
  refine List.forall_mem_cons.mpr ⟨(zo_iload_tl _ _), ?_⟩
  refine List.forall_mem_cons.mpr ⟨(zo_pushI_tl _ _), ?_⟩
  refine List.forall_mem_cons.mpr ⟨zo_none_tl, ?_⟩
  refine List.forall_mem_cons.mpr ⟨(zo_ii_tl _ _), ?_⟩
  refine List.forall_mem_cons.mpr ⟨(zo_pushI_tl _ _), ?_⟩
  refine List.forall_mem_cons.mpr ⟨zo_none_tl, ?_⟩
  refine List.forall_mem_cons.mpr ⟨(zo_ii_tl _ _), ?_⟩
  refine List.forall_mem_cons.mpr ⟨(zo_iald_tl _ _ _), ?_⟩
  refine List.forall_mem_cons.mpr ⟨(zo_iret_tl _), ?_⟩
  exact fun _ h => absurd h List.not_mem_nil
noncomputable def fX10_objectAt : zzFn := zz_fn tX10_objectAt 2
set_option maxRecDepth 100000 in
set_option maxHeartbeats 4000000 in
theorem mm_X10_objectAt {l : Launch} {D : va_G} {cA : Nat → ClassId} {ad : Nat → Nat} {Ex : (Nat → Prop) → State → Heap → Prop} (Wd : zzWC l D cA ad Ex) : zz_Cn l D zzCl cA ad zzSC Ex yX10_objectAt cX10_objectAt 2 (some .int) 0 0 fX10_objectAt ∧ zz_Cx l D zzCl cA ad zzSC Ex yX10_objectAt cX10_objectAt 2 (some .int) 0 0 fX10_objectAt := by
  refine zz_meth (plainFor_of_name (by decide)) Wd.1 Wd.2.1 Wd.2.2.1 (fun p e R s m args below meth c rr X => ?_)
  unfold tX10_objectAt
  refine zz_cons (k' := 1) rfl (zk_iload_n X dX10_objectAt_0 rfl rfl) ?_
  refine zz_cons (k' := 2) rfl (zk_iconst X dX10_objectAt_1 (by decide) rfl) ?_
  refine zz_cons (k' := 3) rfl (zk_icmp_lt X dX10_objectAt_2 (by decide) rfl) ?_
  refine zz_cons (k' := 4) rfl (zz_Ok_none _ _) ?_
  refine zz_cons (k' := 5) rfl (zz_Ok_none _ _) ?_
  refine zz_cons (k' := 6) rfl (zk_iload_n X dX10_objectAt_5 rfl rfl) ?_
  refine zz_cons (k' := 7) rfl (zk_sipush X dX10_objectAt_6 (by decide) rfl) ?_
  refine zz_cons (k' := 8) rfl (zz_Ok_none _ _) ?_
  refine zz_cons (k' := 9) rfl (zz_Ok_none _ _) ?_
  refine zz_cons (k' := 10) rfl (zk_icmp_le X dX10_objectAt_9 (by decide) rfl) ?_
  refine zz_cons (k' := 11) rfl (zz_Ok_none _ _) ?_
  refine zz_cons (k' := 12) rfl (zz_Ok_none _ _) ?_
  refine zz_cons (k' := 13) rfl (zk_iconst X dX10_objectAt_12 (by decide) rfl) ?_
  refine zz_cons (k' := 14) rfl (zk_goto X dX10_objectAt_13 (by decide)) ?_
  refine zz_cons (k' := 15) rfl (zz_Ok_none _ _) ?_
  refine zz_cons (k' := 16) rfl (zz_Ok_none _ _) ?_
  refine zz_cons (k' := 17) rfl (zk_aload_n X dX10_objectAt_16 rfl rfl) ?_
  refine zz_cons (k' := 18) rfl (zk_getf X ff_X10_9 dX10_objectAt_17 rfl) ?_
  refine zz_cons (k' := 19) rfl (zz_Ok_none _ _) ?_
  refine zz_cons (k' := 20) rfl (zz_Ok_none _ _) ?_
  refine zz_cons (k' := 21) rfl (zk_iload_n X dX10_objectAt_20 rfl rfl) ?_
  refine zz_cons (k' := 22) rfl (zk_bipush X dX10_objectAt_21 (by decide) rfl) ?_
  refine zz_cons (k' := 23) rfl (zz_Ok_none _ _) ?_
  refine zz_cons (k' := 24) rfl (zk_imul X dX10_objectAt_23 rfl) ?_
  refine zz_cons (k' := 25) rfl (zk_bipush X dX10_objectAt_24 (by decide) rfl) ?_
  refine zz_cons (k' := 26) rfl (zz_Ok_none _ _) ?_
  refine zz_cons (k' := 27) rfl (zk_iadd X dX10_objectAt_26 rfl) ?_
  refine zz_cons (k' := 28) rfl (zk_iald X (zzWC_st Wd) dX10_objectAt_27 rfl) ?_
  refine zz_cons (k' := 29) rfl (zk_iret X rfl dX10_objectAt_28) ?_
  exact trivial
noncomputable def tX10_isStaying : List zzOp := [
  zo_aload 0 1,
  zo_iload 1 2,
  zo_pushI 23 4,
  zo_none,
  zo_callv zzSC (zz_cl [(1, fX10_read), (2, fX10_read), (3, fX10_read), (4, fX10_read), (5, fX10_read), (6, fX10_read), (7, fX10_read), (8, fX10_read)]) 2 7,
  zo_none,
  zo_none,
  zo_iload 2 8,
  zo_icmp (fun x y => decide (¬ x = y)) 25 11,
  zo_none,
  zo_none,
  zo_aload 0 12,
  zo_iload 1 13,
  zo_pushI 25 15,
  zo_none,
  zo_callv zzSC (zz_cl [(1, fX10_read), (2, fX10_read), (3, fX10_read), (4, fX10_read), (5, fX10_read), (6, fX10_read), (7, fX10_read), (8, fX10_read)]) 2 18,
  zo_none,
  zo_none,
  zo_if (fun x => decide (¬ x = 0)) 25 21,
  zo_none,
  zo_none,
  zo_pushI 1 22,
  zo_goto 26,
  zo_none,
  zo_none,
  zo_pushI 0 26,
  zo_iret true]
set_option maxRecDepth 100000 in
theorem tl_X10_isStaying : ∀ pc, zz_Tl (tX10_isStaying.getD pc zo_none) := by
  refine zz_Tl_mem ?_
  unfold tX10_isStaying
  refine List.forall_mem_cons.mpr ⟨(zo_aload_tl _ _), ?_⟩
  refine List.forall_mem_cons.mpr ⟨(zo_iload_tl _ _), ?_⟩
  refine List.forall_mem_cons.mpr ⟨(zo_pushI_tl _ _), ?_⟩
  refine List.forall_mem_cons.mpr ⟨zo_none_tl, ?_⟩
  refine List.forall_mem_cons.mpr ⟨(zo_callv_tl _ _ _ _), ?_⟩
  refine List.forall_mem_cons.mpr ⟨zo_none_tl, ?_⟩
  refine List.forall_mem_cons.mpr ⟨zo_none_tl, ?_⟩
  refine List.forall_mem_cons.mpr ⟨(zo_iload_tl _ _), ?_⟩
  refine List.forall_mem_cons.mpr ⟨(zo_icmp_tl _ _ _), ?_⟩
  refine List.forall_mem_cons.mpr ⟨zo_none_tl, ?_⟩
  refine List.forall_mem_cons.mpr ⟨zo_none_tl, ?_⟩
  refine List.forall_mem_cons.mpr ⟨(zo_aload_tl _ _), ?_⟩
  refine List.forall_mem_cons.mpr ⟨(zo_iload_tl _ _), ?_⟩
  refine List.forall_mem_cons.mpr ⟨(zo_pushI_tl _ _), ?_⟩
  refine List.forall_mem_cons.mpr ⟨zo_none_tl, ?_⟩
  refine List.forall_mem_cons.mpr ⟨(zo_callv_tl _ _ _ _), ?_⟩
  refine List.forall_mem_cons.mpr ⟨zo_none_tl, ?_⟩
  refine List.forall_mem_cons.mpr ⟨zo_none_tl, ?_⟩
  refine List.forall_mem_cons.mpr ⟨(zo_if_tl _ _ _), ?_⟩
  refine List.forall_mem_cons.mpr ⟨zo_none_tl, ?_⟩
  refine List.forall_mem_cons.mpr ⟨zo_none_tl, ?_⟩
  refine List.forall_mem_cons.mpr ⟨(zo_pushI_tl _ _), ?_⟩
  refine List.forall_mem_cons.mpr ⟨(zo_goto_tl _), ?_⟩
  refine List.forall_mem_cons.mpr ⟨zo_none_tl, ?_⟩
  refine List.forall_mem_cons.mpr ⟨zo_none_tl, ?_⟩
  refine List.forall_mem_cons.mpr ⟨(zo_pushI_tl _ _), ?_⟩
  refine List.forall_mem_cons.mpr ⟨(zo_iret_tl _), ?_⟩
  exact fun _ h => absurd h List.not_mem_nil
noncomputable def fX10_isStaying : zzFn := zz_fn tX10_isStaying 3
set_option maxRecDepth 100000 in
set_option maxHeartbeats 4000000 in
theorem mm_X10_isStaying {l : Launch} {D : va_G} {cA : Nat → ClassId} {ad : Nat → Nat} {Ex : (Nat → Prop) → State → Heap → Prop} (Wd : zzWC l D cA ad Ex) : zz_Cn l D zzCl cA ad zzSC Ex yX10_isStaying cX10_isStaying 3 (some .boolean) 1 22 fX10_isStaying ∧ zz_Cx l D zzCl cA ad zzSC Ex yX10_isStaying cX10_isStaying 3 (some .boolean) 1 22 fX10_isStaying := by
  refine zz_meth (plainFor_of_name (by decide)) Wd.1 Wd.2.1 Wd.2.2.1 (fun p e R s m args below meth c rr X => ?_)
  unfold tX10_isStaying
  refine zz_cons (k' := 1) rfl (zk_aload_n X dX10_isStaying_0 rfl rfl) ?_
  refine zz_cons (k' := 2) rfl (zk_iload_n X dX10_isStaying_1 rfl rfl) ?_
  refine zz_cons (k' := 3) rfl (zk_bipush X dX10_isStaying_2 (by decide) rfl) ?_
  refine zz_cons (k' := 4) rfl (zz_Ok_none _ _) ?_
  refine zz_cons (k' := 5) rfl (zk_callv X (zz_Cv_of (List.forall_mem_cons.mpr ⟨⟨(RX_1, zzT1, 12), yX10_read, cX10_read, 3, (some .int), 0, 0, rfl, kv_X10_31_1, (mm_X10_read Wd).1, by decide, by decide⟩, (List.forall_mem_cons.mpr ⟨⟨(RX_2, zzT2, 12), yX10_read, cX10_read, 3, (some .int), 0, 0, rfl, kv_X10_31_2, (mm_X10_read Wd).1, by decide, by decide⟩, (List.forall_mem_cons.mpr ⟨⟨(RX_3, zzT3, 12), yX10_read, cX10_read, 3, (some .int), 0, 0, rfl, kv_X10_31_3, (mm_X10_read Wd).1, by decide, by decide⟩, (List.forall_mem_cons.mpr ⟨⟨(RX_4, zzT4, 12), yX10_read, cX10_read, 3, (some .int), 0, 0, rfl, kv_X10_31_4, (mm_X10_read Wd).1, by decide, by decide⟩, (List.forall_mem_cons.mpr ⟨⟨(RX_5, zzT5, 12), yX10_read, cX10_read, 3, (some .int), 0, 0, rfl, kv_X10_31_5, (mm_X10_read Wd).1, by decide, by decide⟩, (List.forall_mem_cons.mpr ⟨⟨(RX_6, zzT6, 13), yX10_read, cX10_read, 3, (some .int), 0, 0, rfl, kv_X10_31_6, (mm_X10_read Wd).1, by decide, by decide⟩, (List.forall_mem_cons.mpr ⟨⟨(RX_7, zzT7, 15), yX10_read, cX10_read, 3, (some .int), 0, 0, rfl, kv_X10_31_7, (mm_X10_read Wd).1, by decide, by decide⟩, (List.forall_mem_cons.mpr ⟨⟨(RX_8, zzT8, 9), yX10_read, cX10_read, 3, (some .int), 0, 0, rfl, kv_X10_31_8, (mm_X10_read Wd).1, by decide, by decide⟩, (fun _ h => absurd h List.not_mem_nil)⟩)⟩)⟩)⟩)⟩)⟩)⟩)⟩)) dX10_isStaying_4 rfl) ?_
  refine zz_cons (k' := 6) rfl (zz_Ok_none _ _) ?_
  refine zz_cons (k' := 7) rfl (zz_Ok_none _ _) ?_
  refine zz_cons (k' := 8) rfl (zk_iload_n X dX10_isStaying_7 rfl rfl) ?_
  refine zz_cons (k' := 9) rfl (zk_icmp_ne X dX10_isStaying_8 (by decide) rfl) ?_
  refine zz_cons (k' := 10) rfl (zz_Ok_none _ _) ?_
  refine zz_cons (k' := 11) rfl (zz_Ok_none _ _) ?_
  refine zz_cons (k' := 12) rfl (zk_aload_n X dX10_isStaying_11 rfl rfl) ?_
  refine zz_cons (k' := 13) rfl (zk_iload_n X dX10_isStaying_12 rfl rfl) ?_
  refine zz_cons (k' := 14) rfl (zk_bipush X dX10_isStaying_13 (by decide) rfl) ?_
  refine zz_cons (k' := 15) rfl (zz_Ok_none _ _) ?_
  refine zz_cons (k' := 16) rfl (zk_callv X (zz_Cv_of (List.forall_mem_cons.mpr ⟨⟨(RX_1, zzT1, 12), yX10_read, cX10_read, 3, (some .int), 0, 0, rfl, kv_X10_31_1, (mm_X10_read Wd).1, by decide, by decide⟩, (List.forall_mem_cons.mpr ⟨⟨(RX_2, zzT2, 12), yX10_read, cX10_read, 3, (some .int), 0, 0, rfl, kv_X10_31_2, (mm_X10_read Wd).1, by decide, by decide⟩, (List.forall_mem_cons.mpr ⟨⟨(RX_3, zzT3, 12), yX10_read, cX10_read, 3, (some .int), 0, 0, rfl, kv_X10_31_3, (mm_X10_read Wd).1, by decide, by decide⟩, (List.forall_mem_cons.mpr ⟨⟨(RX_4, zzT4, 12), yX10_read, cX10_read, 3, (some .int), 0, 0, rfl, kv_X10_31_4, (mm_X10_read Wd).1, by decide, by decide⟩, (List.forall_mem_cons.mpr ⟨⟨(RX_5, zzT5, 12), yX10_read, cX10_read, 3, (some .int), 0, 0, rfl, kv_X10_31_5, (mm_X10_read Wd).1, by decide, by decide⟩, (List.forall_mem_cons.mpr ⟨⟨(RX_6, zzT6, 13), yX10_read, cX10_read, 3, (some .int), 0, 0, rfl, kv_X10_31_6, (mm_X10_read Wd).1, by decide, by decide⟩, (List.forall_mem_cons.mpr ⟨⟨(RX_7, zzT7, 15), yX10_read, cX10_read, 3, (some .int), 0, 0, rfl, kv_X10_31_7, (mm_X10_read Wd).1, by decide, by decide⟩, (List.forall_mem_cons.mpr ⟨⟨(RX_8, zzT8, 9), yX10_read, cX10_read, 3, (some .int), 0, 0, rfl, kv_X10_31_8, (mm_X10_read Wd).1, by decide, by decide⟩, (fun _ h => absurd h List.not_mem_nil)⟩)⟩)⟩)⟩)⟩)⟩)⟩)⟩)) dX10_isStaying_15 rfl) ?_
  refine zz_cons (k' := 17) rfl (zz_Ok_none _ _) ?_
  refine zz_cons (k' := 18) rfl (zz_Ok_none _ _) ?_
  refine zz_cons (k' := 19) rfl (zk_if_ne X dX10_isStaying_18 (by decide) rfl) ?_
  refine zz_cons (k' := 20) rfl (zz_Ok_none _ _) ?_
  refine zz_cons (k' := 21) rfl (zz_Ok_none _ _) ?_
  refine zz_cons (k' := 22) rfl (zk_iconst X dX10_isStaying_21 (by decide) rfl) ?_
  refine zz_cons (k' := 23) rfl (zk_goto X dX10_isStaying_22 (by decide)) ?_
  refine zz_cons (k' := 24) rfl (zz_Ok_none _ _) ?_
  refine zz_cons (k' := 25) rfl (zz_Ok_none _ _) ?_
  refine zz_cons (k' := 26) rfl (zk_iconst X dX10_isStaying_25 (by decide) rfl) ?_
  refine zz_cons (k' := 27) rfl (zk_iret X rfl dX10_isStaying_26) ?_
  exact trivial
noncomputable def tX10_isOwned : List zzOp := [
  zo_aload 0 1,
  zo_iload 1 2,
  zo_pushI 24 4,
  zo_none,
  zo_callv zzSC (zz_cl [(1, fX10_read), (2, fX10_read), (3, fX10_read), (4, fX10_read), (5, fX10_read), (6, fX10_read), (7, fX10_read), (8, fX10_read)]) 2 7,
  zo_none,
  zo_none,
  zo_iload 3 8,
  zo_icmp (fun x y => decide (¬ x = y)) 36 11,
  zo_none,
  zo_none,
  zo_aload 0 12,
  zo_iload 1 13,
  zo_pushI 23 15,
  zo_none,
  zo_callv zzSC (zz_cl [(1, fX10_read), (2, fX10_read), (3, fX10_read), (4, fX10_read), (5, fX10_read), (6, fX10_read), (7, fX10_read), (8, fX10_read)]) 2 18,
  zo_none,
  zo_none,
  zo_iload 2 19,
  zo_icmp (fun x y => decide (¬ x = y)) 36 22,
  zo_none,
  zo_none,
  zo_aload 0 23,
  zo_iload 1 24,
  zo_pushI 25 26,
  zo_none,
  zo_callv zzSC (zz_cl [(1, fX10_read), (2, fX10_read), (3, fX10_read), (4, fX10_read), (5, fX10_read), (6, fX10_read), (7, fX10_read), (8, fX10_read)]) 2 29,
  zo_none,
  zo_none,
  zo_if (fun x => decide (¬ x = 0)) 36 32,
  zo_none,
  zo_none,
  zo_pushI 1 33,
  zo_goto 37,
  zo_none,
  zo_none,
  zo_pushI 0 37,
  zo_iret true]
set_option maxRecDepth 100000 in
theorem tl_X10_isOwned : ∀ pc, zz_Tl (tX10_isOwned.getD pc zo_none) := by
  refine zz_Tl_mem ?_
  unfold tX10_isOwned
  refine List.forall_mem_cons.mpr ⟨(zo_aload_tl _ _), ?_⟩
  refine List.forall_mem_cons.mpr ⟨(zo_iload_tl _ _), ?_⟩
  refine List.forall_mem_cons.mpr ⟨(zo_pushI_tl _ _), ?_⟩
  refine List.forall_mem_cons.mpr ⟨zo_none_tl, ?_⟩
  refine List.forall_mem_cons.mpr ⟨(zo_callv_tl _ _ _ _), ?_⟩
  refine List.forall_mem_cons.mpr ⟨zo_none_tl, ?_⟩
  refine List.forall_mem_cons.mpr ⟨zo_none_tl, ?_⟩
  refine List.forall_mem_cons.mpr ⟨(zo_iload_tl _ _), ?_⟩
  refine List.forall_mem_cons.mpr ⟨(zo_icmp_tl _ _ _), ?_⟩
  refine List.forall_mem_cons.mpr ⟨zo_none_tl, ?_⟩
  refine List.forall_mem_cons.mpr ⟨zo_none_tl, ?_⟩
  refine List.forall_mem_cons.mpr ⟨(zo_aload_tl _ _), ?_⟩
  refine List.forall_mem_cons.mpr ⟨(zo_iload_tl _ _), ?_⟩
  refine List.forall_mem_cons.mpr ⟨(zo_pushI_tl _ _), ?_⟩
  refine List.forall_mem_cons.mpr ⟨zo_none_tl, ?_⟩
  refine List.forall_mem_cons.mpr ⟨(zo_callv_tl _ _ _ _), ?_⟩
  refine List.forall_mem_cons.mpr ⟨zo_none_tl, ?_⟩
  refine List.forall_mem_cons.mpr ⟨zo_none_tl, ?_⟩
  refine List.forall_mem_cons.mpr ⟨(zo_iload_tl _ _), ?_⟩
  refine List.forall_mem_cons.mpr ⟨(zo_icmp_tl _ _ _), ?_⟩
  refine List.forall_mem_cons.mpr ⟨zo_none_tl, ?_⟩
  refine List.forall_mem_cons.mpr ⟨zo_none_tl, ?_⟩
  refine List.forall_mem_cons.mpr ⟨(zo_aload_tl _ _), ?_⟩
  refine List.forall_mem_cons.mpr ⟨(zo_iload_tl _ _), ?_⟩
  refine List.forall_mem_cons.mpr ⟨(zo_pushI_tl _ _), ?_⟩
  refine List.forall_mem_cons.mpr ⟨zo_none_tl, ?_⟩
  refine List.forall_mem_cons.mpr ⟨(zo_callv_tl _ _ _ _), ?_⟩
  refine List.forall_mem_cons.mpr ⟨zo_none_tl, ?_⟩
  refine List.forall_mem_cons.mpr ⟨zo_none_tl, ?_⟩
  refine List.forall_mem_cons.mpr ⟨(zo_if_tl _ _ _), ?_⟩
  refine List.forall_mem_cons.mpr ⟨zo_none_tl, ?_⟩
  refine List.forall_mem_cons.mpr ⟨zo_none_tl, ?_⟩
  refine List.forall_mem_cons.mpr ⟨(zo_pushI_tl _ _), ?_⟩
  refine List.forall_mem_cons.mpr ⟨(zo_goto_tl _), ?_⟩
  refine List.forall_mem_cons.mpr ⟨zo_none_tl, ?_⟩
  refine List.forall_mem_cons.mpr ⟨zo_none_tl, ?_⟩
  refine List.forall_mem_cons.mpr ⟨(zo_pushI_tl _ _), ?_⟩
  refine List.forall_mem_cons.mpr ⟨(zo_iret_tl _), ?_⟩
  exact fun _ h => absurd h List.not_mem_nil
noncomputable def fX10_isOwned : zzFn := zz_fn tX10_isOwned 4
set_option maxRecDepth 100000 in
set_option maxHeartbeats 4000000 in
theorem mm_X10_isOwned {l : Launch} {D : va_G} {cA : Nat → ClassId} {ad : Nat → Nat} {Ex : (Nat → Prop) → State → Heap → Prop} (Wd : zzWC l D cA ad Ex) : zz_Cn l D zzCl cA ad zzSC Ex yX10_isOwned cX10_isOwned 4 (some .boolean) 1 22 fX10_isOwned ∧ zz_Cx l D zzCl cA ad zzSC Ex yX10_isOwned cX10_isOwned 4 (some .boolean) 1 22 fX10_isOwned := by
  refine zz_meth (plainFor_of_name (by decide)) Wd.1 Wd.2.1 Wd.2.2.1 (fun p e R s m args below meth c rr X => ?_)
  unfold tX10_isOwned
  refine zz_cons (k' := 1) rfl (zk_aload_n X dX10_isOwned_0 rfl rfl) ?_
  refine zz_cons (k' := 2) rfl (zk_iload_n X dX10_isOwned_1 rfl rfl) ?_
  refine zz_cons (k' := 3) rfl (zk_bipush X dX10_isOwned_2 (by decide) rfl) ?_
  refine zz_cons (k' := 4) rfl (zz_Ok_none _ _) ?_
  refine zz_cons (k' := 5) rfl (zk_callv X (zz_Cv_of (List.forall_mem_cons.mpr ⟨⟨(RX_1, zzT1, 12), yX10_read, cX10_read, 3, (some .int), 0, 0, rfl, kv_X10_31_1, (mm_X10_read Wd).1, by decide, by decide⟩, (List.forall_mem_cons.mpr ⟨⟨(RX_2, zzT2, 12), yX10_read, cX10_read, 3, (some .int), 0, 0, rfl, kv_X10_31_2, (mm_X10_read Wd).1, by decide, by decide⟩, (List.forall_mem_cons.mpr ⟨⟨(RX_3, zzT3, 12), yX10_read, cX10_read, 3, (some .int), 0, 0, rfl, kv_X10_31_3, (mm_X10_read Wd).1, by decide, by decide⟩, (List.forall_mem_cons.mpr ⟨⟨(RX_4, zzT4, 12), yX10_read, cX10_read, 3, (some .int), 0, 0, rfl, kv_X10_31_4, (mm_X10_read Wd).1, by decide, by decide⟩, (List.forall_mem_cons.mpr ⟨⟨(RX_5, zzT5, 12), yX10_read, cX10_read, 3, (some .int), 0, 0, rfl, kv_X10_31_5, (mm_X10_read Wd).1, by decide, by decide⟩, (List.forall_mem_cons.mpr ⟨⟨(RX_6, zzT6, 13), yX10_read, cX10_read, 3, (some .int), 0, 0, rfl, kv_X10_31_6, (mm_X10_read Wd).1, by decide, by decide⟩, (List.forall_mem_cons.mpr ⟨⟨(RX_7, zzT7, 15), yX10_read, cX10_read, 3, (some .int), 0, 0, rfl, kv_X10_31_7, (mm_X10_read Wd).1, by decide, by decide⟩, (List.forall_mem_cons.mpr ⟨⟨(RX_8, zzT8, 9), yX10_read, cX10_read, 3, (some .int), 0, 0, rfl, kv_X10_31_8, (mm_X10_read Wd).1, by decide, by decide⟩, (fun _ h => absurd h List.not_mem_nil)⟩)⟩)⟩)⟩)⟩)⟩)⟩)⟩)) dX10_isOwned_4 rfl) ?_
  refine zz_cons (k' := 6) rfl (zz_Ok_none _ _) ?_
  refine zz_cons (k' := 7) rfl (zz_Ok_none _ _) ?_
  refine zz_cons (k' := 8) rfl (zk_iload_n X dX10_isOwned_7 rfl rfl) ?_
  refine zz_cons (k' := 9) rfl (zk_icmp_ne X dX10_isOwned_8 (by decide) rfl) ?_
  refine zz_cons (k' := 10) rfl (zz_Ok_none _ _) ?_
  refine zz_cons (k' := 11) rfl (zz_Ok_none _ _) ?_
  refine zz_cons (k' := 12) rfl (zk_aload_n X dX10_isOwned_11 rfl rfl) ?_
  refine zz_cons (k' := 13) rfl (zk_iload_n X dX10_isOwned_12 rfl rfl) ?_
  refine zz_cons (k' := 14) rfl (zk_bipush X dX10_isOwned_13 (by decide) rfl) ?_
  refine zz_cons (k' := 15) rfl (zz_Ok_none _ _) ?_
  refine zz_cons (k' := 16) rfl (zk_callv X (zz_Cv_of (List.forall_mem_cons.mpr ⟨⟨(RX_1, zzT1, 12), yX10_read, cX10_read, 3, (some .int), 0, 0, rfl, kv_X10_31_1, (mm_X10_read Wd).1, by decide, by decide⟩, (List.forall_mem_cons.mpr ⟨⟨(RX_2, zzT2, 12), yX10_read, cX10_read, 3, (some .int), 0, 0, rfl, kv_X10_31_2, (mm_X10_read Wd).1, by decide, by decide⟩, (List.forall_mem_cons.mpr ⟨⟨(RX_3, zzT3, 12), yX10_read, cX10_read, 3, (some .int), 0, 0, rfl, kv_X10_31_3, (mm_X10_read Wd).1, by decide, by decide⟩, (List.forall_mem_cons.mpr ⟨⟨(RX_4, zzT4, 12), yX10_read, cX10_read, 3, (some .int), 0, 0, rfl, kv_X10_31_4, (mm_X10_read Wd).1, by decide, by decide⟩, (List.forall_mem_cons.mpr ⟨⟨(RX_5, zzT5, 12), yX10_read, cX10_read, 3, (some .int), 0, 0, rfl, kv_X10_31_5, (mm_X10_read Wd).1, by decide, by decide⟩, (List.forall_mem_cons.mpr ⟨⟨(RX_6, zzT6, 13), yX10_read, cX10_read, 3, (some .int), 0, 0, rfl, kv_X10_31_6, (mm_X10_read Wd).1, by decide, by decide⟩, (List.forall_mem_cons.mpr ⟨⟨(RX_7, zzT7, 15), yX10_read, cX10_read, 3, (some .int), 0, 0, rfl, kv_X10_31_7, (mm_X10_read Wd).1, by decide, by decide⟩, (List.forall_mem_cons.mpr ⟨⟨(RX_8, zzT8, 9), yX10_read, cX10_read, 3, (some .int), 0, 0, rfl, kv_X10_31_8, (mm_X10_read Wd).1, by decide, by decide⟩, (fun _ h => absurd h List.not_mem_nil)⟩)⟩)⟩)⟩)⟩)⟩)⟩)⟩)) dX10_isOwned_15 rfl) ?_
  refine zz_cons (k' := 17) rfl (zz_Ok_none _ _) ?_
  refine zz_cons (k' := 18) rfl (zz_Ok_none _ _) ?_
  refine zz_cons (k' := 19) rfl (zk_iload_n X dX10_isOwned_18 rfl rfl) ?_
  refine zz_cons (k' := 20) rfl (zk_icmp_ne X dX10_isOwned_19 (by decide) rfl) ?_
  refine zz_cons (k' := 21) rfl (zz_Ok_none _ _) ?_
  refine zz_cons (k' := 22) rfl (zz_Ok_none _ _) ?_
  refine zz_cons (k' := 23) rfl (zk_aload_n X dX10_isOwned_22 rfl rfl) ?_
  refine zz_cons (k' := 24) rfl (zk_iload_n X dX10_isOwned_23 rfl rfl) ?_
  refine zz_cons (k' := 25) rfl (zk_bipush X dX10_isOwned_24 (by decide) rfl) ?_
  refine zz_cons (k' := 26) rfl (zz_Ok_none _ _) ?_
  refine zz_cons (k' := 27) rfl (zk_callv X (zz_Cv_of (List.forall_mem_cons.mpr ⟨⟨(RX_1, zzT1, 12), yX10_read, cX10_read, 3, (some .int), 0, 0, rfl, kv_X10_31_1, (mm_X10_read Wd).1, by decide, by decide⟩, (List.forall_mem_cons.mpr ⟨⟨(RX_2, zzT2, 12), yX10_read, cX10_read, 3, (some .int), 0, 0, rfl, kv_X10_31_2, (mm_X10_read Wd).1, by decide, by decide⟩, (List.forall_mem_cons.mpr ⟨⟨(RX_3, zzT3, 12), yX10_read, cX10_read, 3, (some .int), 0, 0, rfl, kv_X10_31_3, (mm_X10_read Wd).1, by decide, by decide⟩, (List.forall_mem_cons.mpr ⟨⟨(RX_4, zzT4, 12), yX10_read, cX10_read, 3, (some .int), 0, 0, rfl, kv_X10_31_4, (mm_X10_read Wd).1, by decide, by decide⟩, (List.forall_mem_cons.mpr ⟨⟨(RX_5, zzT5, 12), yX10_read, cX10_read, 3, (some .int), 0, 0, rfl, kv_X10_31_5, (mm_X10_read Wd).1, by decide, by decide⟩, (List.forall_mem_cons.mpr ⟨⟨(RX_6, zzT6, 13), yX10_read, cX10_read, 3, (some .int), 0, 0, rfl, kv_X10_31_6, (mm_X10_read Wd).1, by decide, by decide⟩, (List.forall_mem_cons.mpr ⟨⟨(RX_7, zzT7, 15), yX10_read, cX10_read, 3, (some .int), 0, 0, rfl, kv_X10_31_7, (mm_X10_read Wd).1, by decide, by decide⟩, (List.forall_mem_cons.mpr ⟨⟨(RX_8, zzT8, 9), yX10_read, cX10_read, 3, (some .int), 0, 0, rfl, kv_X10_31_8, (mm_X10_read Wd).1, by decide, by decide⟩, (fun _ h => absurd h List.not_mem_nil)⟩)⟩)⟩)⟩)⟩)⟩)⟩)⟩)) dX10_isOwned_26 rfl) ?_
  refine zz_cons (k' := 28) rfl (zz_Ok_none _ _) ?_
  refine zz_cons (k' := 29) rfl (zz_Ok_none _ _) ?_
  refine zz_cons (k' := 30) rfl (zk_if_ne X dX10_isOwned_29 (by decide) rfl) ?_
  refine zz_cons (k' := 31) rfl (zz_Ok_none _ _) ?_
  refine zz_cons (k' := 32) rfl (zz_Ok_none _ _) ?_
  refine zz_cons (k' := 33) rfl (zk_iconst X dX10_isOwned_32 (by decide) rfl) ?_
  refine zz_cons (k' := 34) rfl (zk_goto X dX10_isOwned_33 (by decide)) ?_
  refine zz_cons (k' := 35) rfl (zz_Ok_none _ _) ?_
  refine zz_cons (k' := 36) rfl (zz_Ok_none _ _) ?_
  refine zz_cons (k' := 37) rfl (zk_iconst X dX10_isOwned_36 (by decide) rfl) ?_
  refine zz_cons (k' := 38) rfl (zk_iret X rfl dX10_isOwned_37) ?_
  exact trivial
noncomputable def tX10_newSetOf : List zzOp := [
  zo_aload 0 1,
  zo_iload 1 2,
  zo_pushI 1 3,
  zo_callv zzSC (zz_cl [(1, fX10_read), (2, fX10_read), (3, fX10_read), (4, fX10_read), (5, fX10_read), (6, fX10_read), (7, fX10_read), (8, fX10_read)]) 2 6,
  zo_none,
  zo_none,
  zo_istore 2 7,
  zo_pushI 0 8,
  zo_istore 3 9,
  zo_iload 3 10,
  zo_aload 0 11,
  zo_getf zzSC (zz_kf [1, 2, 3, 4, 5, 6, 7, 8] 2) 14,
  zo_none,
  zo_none,
  zo_icmp (fun x y => decide (y ≤ x)) 45 17,
  zo_none,
  zo_none,
  zo_aload 0 18,
  zo_iload 3 19,
  zo_pushI 1 20,
  zo_iload 1 21,
  zo_callv zzSC (zz_cl [(1, fX10_isOwned), (2, fX10_isOwned), (3, fX10_isOwned), (4, fX10_isOwned), (5, fX10_isOwned), (6, fX10_isOwned), (7, fX10_isOwned), (8, fX10_isOwned)]) 3 24,
  zo_none,
  zo_none,
  zo_if (fun x => decide (x = 0)) 39 27,
  zo_none,
  zo_none,
  zo_aload 0 28,
  zo_iload 3 29,
  zo_pushI 1 30,
  zo_callv zzSC (zz_cl [(1, fX10_read), (2, fX10_read), (3, fX10_read), (4, fX10_read), (5, fX10_read), (6, fX10_read), (7, fX10_read), (8, fX10_read)]) 2 33,
  zo_none,
  zo_none,
  zo_iload 2 34,
  zo_icmp (fun x y => decide (¬ x = y)) 39 37,
  zo_none,
  zo_none,
  zo_iload 3 38,
  zo_iret false,
  zo_iinc 3 1 42,
  zo_none,
  zo_none,
  zo_goto 9,
  zo_none,
  zo_none,
  zo_pushI (-1) 46,
  zo_iret false]
set_option maxRecDepth 100000 in
theorem tl_X10_newSetOf : ∀ pc, zz_Tl (tX10_newSetOf.getD pc zo_none) := by
  refine zz_Tl_mem ?_
  unfold tX10_newSetOf
  refine List.forall_mem_cons.mpr ⟨(zo_aload_tl _ _), ?_⟩
  refine List.forall_mem_cons.mpr ⟨(zo_iload_tl _ _), ?_⟩
  refine List.forall_mem_cons.mpr ⟨(zo_pushI_tl _ _), ?_⟩
  refine List.forall_mem_cons.mpr ⟨(zo_callv_tl _ _ _ _), ?_⟩
  refine List.forall_mem_cons.mpr ⟨zo_none_tl, ?_⟩
  refine List.forall_mem_cons.mpr ⟨zo_none_tl, ?_⟩
  refine List.forall_mem_cons.mpr ⟨(zo_istore_tl _ _), ?_⟩
  refine List.forall_mem_cons.mpr ⟨(zo_pushI_tl _ _), ?_⟩
  refine List.forall_mem_cons.mpr ⟨(zo_istore_tl _ _), ?_⟩
  refine List.forall_mem_cons.mpr ⟨(zo_iload_tl _ _), ?_⟩
  refine List.forall_mem_cons.mpr ⟨(zo_aload_tl _ _), ?_⟩
  refine List.forall_mem_cons.mpr ⟨(zo_getf_tl _ _ _), ?_⟩
  refine List.forall_mem_cons.mpr ⟨zo_none_tl, ?_⟩
  refine List.forall_mem_cons.mpr ⟨zo_none_tl, ?_⟩
  refine List.forall_mem_cons.mpr ⟨(zo_icmp_tl _ _ _), ?_⟩
  refine List.forall_mem_cons.mpr ⟨zo_none_tl, ?_⟩
  refine List.forall_mem_cons.mpr ⟨zo_none_tl, ?_⟩
  refine List.forall_mem_cons.mpr ⟨(zo_aload_tl _ _), ?_⟩
  refine List.forall_mem_cons.mpr ⟨(zo_iload_tl _ _), ?_⟩
  refine List.forall_mem_cons.mpr ⟨(zo_pushI_tl _ _), ?_⟩
  refine List.forall_mem_cons.mpr ⟨(zo_iload_tl _ _), ?_⟩
  refine List.forall_mem_cons.mpr ⟨(zo_callv_tl _ _ _ _), ?_⟩
  refine List.forall_mem_cons.mpr ⟨zo_none_tl, ?_⟩
  refine List.forall_mem_cons.mpr ⟨zo_none_tl, ?_⟩
  refine List.forall_mem_cons.mpr ⟨(zo_if_tl _ _ _), ?_⟩
  refine List.forall_mem_cons.mpr ⟨zo_none_tl, ?_⟩
  refine List.forall_mem_cons.mpr ⟨zo_none_tl, ?_⟩
  refine List.forall_mem_cons.mpr ⟨(zo_aload_tl _ _), ?_⟩
  refine List.forall_mem_cons.mpr ⟨(zo_iload_tl _ _), ?_⟩
  refine List.forall_mem_cons.mpr ⟨(zo_pushI_tl _ _), ?_⟩
  refine List.forall_mem_cons.mpr ⟨(zo_callv_tl _ _ _ _), ?_⟩
  refine List.forall_mem_cons.mpr ⟨zo_none_tl, ?_⟩
  refine List.forall_mem_cons.mpr ⟨zo_none_tl, ?_⟩
  refine List.forall_mem_cons.mpr ⟨(zo_iload_tl _ _), ?_⟩
  refine List.forall_mem_cons.mpr ⟨(zo_icmp_tl _ _ _), ?_⟩
  refine List.forall_mem_cons.mpr ⟨zo_none_tl, ?_⟩
  refine List.forall_mem_cons.mpr ⟨zo_none_tl, ?_⟩
  refine List.forall_mem_cons.mpr ⟨(zo_iload_tl _ _), ?_⟩
  refine List.forall_mem_cons.mpr ⟨(zo_iret_tl _), ?_⟩
  refine List.forall_mem_cons.mpr ⟨(zo_iinc_tl _ _ _), ?_⟩
  refine List.forall_mem_cons.mpr ⟨zo_none_tl, ?_⟩
  refine List.forall_mem_cons.mpr ⟨zo_none_tl, ?_⟩
  refine List.forall_mem_cons.mpr ⟨(zo_goto_tl _), ?_⟩
  refine List.forall_mem_cons.mpr ⟨zo_none_tl, ?_⟩
  refine List.forall_mem_cons.mpr ⟨zo_none_tl, ?_⟩
  refine List.forall_mem_cons.mpr ⟨(zo_pushI_tl _ _), ?_⟩
  refine List.forall_mem_cons.mpr ⟨(zo_iret_tl _), ?_⟩
  exact fun _ h => absurd h List.not_mem_nil
noncomputable def fX10_newSetOf : zzFn := zz_fn tX10_newSetOf 4
set_option maxRecDepth 100000 in
set_option maxHeartbeats 4000000 in
theorem mm_X10_newSetOf {l : Launch} {D : va_G} {cA : Nat → ClassId} {ad : Nat → Nat} {Ex : (Nat → Prop) → State → Heap → Prop} (Wd : zzWC l D cA ad Ex) : zz_Cn l D zzCl cA ad zzSC Ex yX10_newSetOf cX10_newSetOf 4 (some .int) 2 45 fX10_newSetOf ∧ zz_Cx l D zzCl cA ad zzSC Ex yX10_newSetOf cX10_newSetOf 4 (some .int) 2 45 fX10_newSetOf := by
  refine zz_meth (plainFor_of_name (by decide)) Wd.1 Wd.2.1 Wd.2.2.1 (fun p e R s m args below meth c rr X => ?_)
  unfold tX10_newSetOf
  refine zz_cons (k' := 1) rfl (zk_aload_n X dX10_newSetOf_0 rfl rfl) ?_
  refine zz_cons (k' := 2) rfl (zk_iload_n X dX10_newSetOf_1 rfl rfl) ?_
  refine zz_cons (k' := 3) rfl (zk_iconst X dX10_newSetOf_2 (by decide) rfl) ?_
  refine zz_cons (k' := 4) rfl (zk_callv X (zz_Cv_of (List.forall_mem_cons.mpr ⟨⟨(RX_1, zzT1, 12), yX10_read, cX10_read, 3, (some .int), 0, 0, rfl, kv_X10_31_1, (mm_X10_read Wd).1, by decide, by decide⟩, (List.forall_mem_cons.mpr ⟨⟨(RX_2, zzT2, 12), yX10_read, cX10_read, 3, (some .int), 0, 0, rfl, kv_X10_31_2, (mm_X10_read Wd).1, by decide, by decide⟩, (List.forall_mem_cons.mpr ⟨⟨(RX_3, zzT3, 12), yX10_read, cX10_read, 3, (some .int), 0, 0, rfl, kv_X10_31_3, (mm_X10_read Wd).1, by decide, by decide⟩, (List.forall_mem_cons.mpr ⟨⟨(RX_4, zzT4, 12), yX10_read, cX10_read, 3, (some .int), 0, 0, rfl, kv_X10_31_4, (mm_X10_read Wd).1, by decide, by decide⟩, (List.forall_mem_cons.mpr ⟨⟨(RX_5, zzT5, 12), yX10_read, cX10_read, 3, (some .int), 0, 0, rfl, kv_X10_31_5, (mm_X10_read Wd).1, by decide, by decide⟩, (List.forall_mem_cons.mpr ⟨⟨(RX_6, zzT6, 13), yX10_read, cX10_read, 3, (some .int), 0, 0, rfl, kv_X10_31_6, (mm_X10_read Wd).1, by decide, by decide⟩, (List.forall_mem_cons.mpr ⟨⟨(RX_7, zzT7, 15), yX10_read, cX10_read, 3, (some .int), 0, 0, rfl, kv_X10_31_7, (mm_X10_read Wd).1, by decide, by decide⟩, (List.forall_mem_cons.mpr ⟨⟨(RX_8, zzT8, 9), yX10_read, cX10_read, 3, (some .int), 0, 0, rfl, kv_X10_31_8, (mm_X10_read Wd).1, by decide, by decide⟩, (fun _ h => absurd h List.not_mem_nil)⟩)⟩)⟩)⟩)⟩)⟩)⟩)⟩)) dX10_newSetOf_3 rfl) ?_
  refine zz_cons (k' := 5) rfl (zz_Ok_none _ _) ?_
  refine zz_cons (k' := 6) rfl (zz_Ok_none _ _) ?_
  refine zz_cons (k' := 7) rfl (zk_istore_n X dX10_newSetOf_6 rfl (by decide) rfl) ?_
  refine zz_cons (k' := 8) rfl (zk_iconst X dX10_newSetOf_7 (by decide) rfl) ?_
  refine zz_cons (k' := 9) rfl (zk_istore_n X dX10_newSetOf_8 rfl (by decide) rfl) ?_
  refine zz_cons (k' := 10) rfl (zk_iload_n X dX10_newSetOf_9 rfl rfl) ?_
  refine zz_cons (k' := 11) rfl (zk_aload_n X dX10_newSetOf_10 rfl rfl) ?_
  refine zz_cons (k' := 12) rfl (zk_getf X ff_X10_18 dX10_newSetOf_11 rfl) ?_
  refine zz_cons (k' := 13) rfl (zz_Ok_none _ _) ?_
  refine zz_cons (k' := 14) rfl (zz_Ok_none _ _) ?_
  refine zz_cons (k' := 15) rfl (zk_icmp_ge X dX10_newSetOf_14 (by decide) rfl) ?_
  refine zz_cons (k' := 16) rfl (zz_Ok_none _ _) ?_
  refine zz_cons (k' := 17) rfl (zz_Ok_none _ _) ?_
  refine zz_cons (k' := 18) rfl (zk_aload_n X dX10_newSetOf_17 rfl rfl) ?_
  refine zz_cons (k' := 19) rfl (zk_iload_n X dX10_newSetOf_18 rfl rfl) ?_
  refine zz_cons (k' := 20) rfl (zk_iconst X dX10_newSetOf_19 (by decide) rfl) ?_
  refine zz_cons (k' := 21) rfl (zk_iload_n X dX10_newSetOf_20 rfl rfl) ?_
  refine zz_cons (k' := 22) rfl (zk_callv X (zz_Cv_of (List.forall_mem_cons.mpr ⟨⟨(RX_1, zzT1, 12), yX10_isOwned, cX10_isOwned, 4, (some .boolean), 1, 22, rfl, kv_X10_35_1, (mm_X10_isOwned Wd).1, by decide, by decide⟩, (List.forall_mem_cons.mpr ⟨⟨(RX_2, zzT2, 12), yX10_isOwned, cX10_isOwned, 4, (some .boolean), 1, 22, rfl, kv_X10_35_2, (mm_X10_isOwned Wd).1, by decide, by decide⟩, (List.forall_mem_cons.mpr ⟨⟨(RX_3, zzT3, 12), yX10_isOwned, cX10_isOwned, 4, (some .boolean), 1, 22, rfl, kv_X10_35_3, (mm_X10_isOwned Wd).1, by decide, by decide⟩, (List.forall_mem_cons.mpr ⟨⟨(RX_4, zzT4, 12), yX10_isOwned, cX10_isOwned, 4, (some .boolean), 1, 22, rfl, kv_X10_35_4, (mm_X10_isOwned Wd).1, by decide, by decide⟩, (List.forall_mem_cons.mpr ⟨⟨(RX_5, zzT5, 12), yX10_isOwned, cX10_isOwned, 4, (some .boolean), 1, 22, rfl, kv_X10_35_5, (mm_X10_isOwned Wd).1, by decide, by decide⟩, (List.forall_mem_cons.mpr ⟨⟨(RX_6, zzT6, 13), yX10_isOwned, cX10_isOwned, 4, (some .boolean), 1, 22, rfl, kv_X10_35_6, (mm_X10_isOwned Wd).1, by decide, by decide⟩, (List.forall_mem_cons.mpr ⟨⟨(RX_7, zzT7, 15), yX10_isOwned, cX10_isOwned, 4, (some .boolean), 1, 22, rfl, kv_X10_35_7, (mm_X10_isOwned Wd).1, by decide, by decide⟩, (List.forall_mem_cons.mpr ⟨⟨(RX_8, zzT8, 9), yX10_isOwned, cX10_isOwned, 4, (some .boolean), 1, 22, rfl, kv_X10_35_8, (mm_X10_isOwned Wd).1, by decide, by decide⟩, (fun _ h => absurd h List.not_mem_nil)⟩)⟩)⟩)⟩)⟩)⟩)⟩)⟩)) dX10_newSetOf_21 rfl) ?_
  refine zz_cons (k' := 23) rfl (zz_Ok_none _ _) ?_
  refine zz_cons (k' := 24) rfl (zz_Ok_none _ _) ?_
  refine zz_cons (k' := 25) rfl (zk_if_eq X dX10_newSetOf_24 (by decide) rfl) ?_
  refine zz_cons (k' := 26) rfl (zz_Ok_none _ _) ?_
  refine zz_cons (k' := 27) rfl (zz_Ok_none _ _) ?_
  refine zz_cons (k' := 28) rfl (zk_aload_n X dX10_newSetOf_27 rfl rfl) ?_
  refine zz_cons (k' := 29) rfl (zk_iload_n X dX10_newSetOf_28 rfl rfl) ?_
  refine zz_cons (k' := 30) rfl (zk_iconst X dX10_newSetOf_29 (by decide) rfl) ?_
  refine zz_cons (k' := 31) rfl (zk_callv X (zz_Cv_of (List.forall_mem_cons.mpr ⟨⟨(RX_1, zzT1, 12), yX10_read, cX10_read, 3, (some .int), 0, 0, rfl, kv_X10_31_1, (mm_X10_read Wd).1, by decide, by decide⟩, (List.forall_mem_cons.mpr ⟨⟨(RX_2, zzT2, 12), yX10_read, cX10_read, 3, (some .int), 0, 0, rfl, kv_X10_31_2, (mm_X10_read Wd).1, by decide, by decide⟩, (List.forall_mem_cons.mpr ⟨⟨(RX_3, zzT3, 12), yX10_read, cX10_read, 3, (some .int), 0, 0, rfl, kv_X10_31_3, (mm_X10_read Wd).1, by decide, by decide⟩, (List.forall_mem_cons.mpr ⟨⟨(RX_4, zzT4, 12), yX10_read, cX10_read, 3, (some .int), 0, 0, rfl, kv_X10_31_4, (mm_X10_read Wd).1, by decide, by decide⟩, (List.forall_mem_cons.mpr ⟨⟨(RX_5, zzT5, 12), yX10_read, cX10_read, 3, (some .int), 0, 0, rfl, kv_X10_31_5, (mm_X10_read Wd).1, by decide, by decide⟩, (List.forall_mem_cons.mpr ⟨⟨(RX_6, zzT6, 13), yX10_read, cX10_read, 3, (some .int), 0, 0, rfl, kv_X10_31_6, (mm_X10_read Wd).1, by decide, by decide⟩, (List.forall_mem_cons.mpr ⟨⟨(RX_7, zzT7, 15), yX10_read, cX10_read, 3, (some .int), 0, 0, rfl, kv_X10_31_7, (mm_X10_read Wd).1, by decide, by decide⟩, (List.forall_mem_cons.mpr ⟨⟨(RX_8, zzT8, 9), yX10_read, cX10_read, 3, (some .int), 0, 0, rfl, kv_X10_31_8, (mm_X10_read Wd).1, by decide, by decide⟩, (fun _ h => absurd h List.not_mem_nil)⟩)⟩)⟩)⟩)⟩)⟩)⟩)⟩)) dX10_newSetOf_30 rfl) ?_
  refine zz_cons (k' := 32) rfl (zz_Ok_none _ _) ?_
  refine zz_cons (k' := 33) rfl (zz_Ok_none _ _) ?_
  refine zz_cons (k' := 34) rfl (zk_iload_n X dX10_newSetOf_33 rfl rfl) ?_
  refine zz_cons (k' := 35) rfl (zk_icmp_ne X dX10_newSetOf_34 (by decide) rfl) ?_
  refine zz_cons (k' := 36) rfl (zz_Ok_none _ _) ?_
  refine zz_cons (k' := 37) rfl (zz_Ok_none _ _) ?_
  refine zz_cons (k' := 38) rfl (zk_iload_n X dX10_newSetOf_37 rfl rfl) ?_
  refine zz_cons (k' := 39) rfl (zk_iret X rfl dX10_newSetOf_38) ?_
  refine zz_cons (k' := 40) rfl (zk_iinc X dX10_newSetOf_39 (by decide) (by decide) rfl) ?_
  refine zz_cons (k' := 41) rfl (zz_Ok_none _ _) ?_
  refine zz_cons (k' := 42) rfl (zz_Ok_none _ _) ?_
  refine zz_cons (k' := 43) rfl (zk_goto X dX10_newSetOf_42 (by decide)) ?_
  refine zz_cons (k' := 44) rfl (zz_Ok_none _ _) ?_
  refine zz_cons (k' := 45) rfl (zz_Ok_none _ _) ?_
  refine zz_cons (k' := 46) rfl (zk_iconst X dX10_newSetOf_45 (by decide) rfl) ?_
  refine zz_cons (k' := 47) rfl (zk_iret X rfl dX10_newSetOf_46) ?_
  exact trivial
noncomputable def tX9_livingPods : List zzOp := [
  zo_pushI 0 1,
  zo_istore 1 2,
  zo_pushI 0 3,
  zo_istore 2 4,
  zo_iload 2 5,
  zo_aload 0 6,
  zo_getf zzSC (zz_kf [8] 2) 9,
  zo_none,
  zo_none,
  zo_icmp (fun x y => decide (y ≤ x)) 48 12,
  zo_none,
  zo_none,
  zo_iload 1 13,
  zo_aload 0 14,
  zo_iload 2 15,
  zo_pushI 23 17,
  zo_none,
  zo_callv zzSC (zz_cl [(8, fX10_read)]) 2 20,
  zo_none,
  zo_none,
  zo_pushI 2 21,
  zo_icmp (fun x y => decide (¬ x = y)) 39 24,
  zo_none,
  zo_none,
  zo_aload 0 25,
  zo_iload 2 26,
  zo_pushI 25 28,
  zo_none,
  zo_callv zzSC (zz_cl [(8, fX10_read)]) 2 31,
  zo_none,
  zo_none,
  zo_pushI 4 32,
  zo_icmp (fun x y => decide (x = y)) 39 35,
  zo_none,
  zo_none,
  zo_pushI 1 36,
  zo_goto 40,
  zo_none,
  zo_none,
  zo_pushI 0 40,
  zo_ii (fun x y => x + y) 41,
  zo_istore 1 42,
  zo_iinc 2 1 45,
  zo_none,
  zo_none,
  zo_goto 4,
  zo_none,
  zo_none,
  zo_iload 1 49,
  zo_iret false]
set_option maxRecDepth 100000 in
theorem tl_X9_livingPods : ∀ pc, zz_Tl (tX9_livingPods.getD pc zo_none) := by
  refine zz_Tl_mem ?_
  unfold tX9_livingPods
  refine List.forall_mem_cons.mpr ⟨(zo_pushI_tl _ _), ?_⟩
  refine List.forall_mem_cons.mpr ⟨(zo_istore_tl _ _), ?_⟩
  refine List.forall_mem_cons.mpr ⟨(zo_pushI_tl _ _), ?_⟩
  refine List.forall_mem_cons.mpr ⟨(zo_istore_tl _ _), ?_⟩
  refine List.forall_mem_cons.mpr ⟨(zo_iload_tl _ _), ?_⟩
  refine List.forall_mem_cons.mpr ⟨(zo_aload_tl _ _), ?_⟩
  refine List.forall_mem_cons.mpr ⟨(zo_getf_tl _ _ _), ?_⟩
  refine List.forall_mem_cons.mpr ⟨zo_none_tl, ?_⟩
  refine List.forall_mem_cons.mpr ⟨zo_none_tl, ?_⟩
  refine List.forall_mem_cons.mpr ⟨(zo_icmp_tl _ _ _), ?_⟩
  refine List.forall_mem_cons.mpr ⟨zo_none_tl, ?_⟩
  refine List.forall_mem_cons.mpr ⟨zo_none_tl, ?_⟩
  refine List.forall_mem_cons.mpr ⟨(zo_iload_tl _ _), ?_⟩
  refine List.forall_mem_cons.mpr ⟨(zo_aload_tl _ _), ?_⟩
  refine List.forall_mem_cons.mpr ⟨(zo_iload_tl _ _), ?_⟩
  refine List.forall_mem_cons.mpr ⟨(zo_pushI_tl _ _), ?_⟩
  refine List.forall_mem_cons.mpr ⟨zo_none_tl, ?_⟩
  refine List.forall_mem_cons.mpr ⟨(zo_callv_tl _ _ _ _), ?_⟩
  refine List.forall_mem_cons.mpr ⟨zo_none_tl, ?_⟩
  refine List.forall_mem_cons.mpr ⟨zo_none_tl, ?_⟩
  refine List.forall_mem_cons.mpr ⟨(zo_pushI_tl _ _), ?_⟩
  refine List.forall_mem_cons.mpr ⟨(zo_icmp_tl _ _ _), ?_⟩
  refine List.forall_mem_cons.mpr ⟨zo_none_tl, ?_⟩
  refine List.forall_mem_cons.mpr ⟨zo_none_tl, ?_⟩
  refine List.forall_mem_cons.mpr ⟨(zo_aload_tl _ _), ?_⟩
  refine List.forall_mem_cons.mpr ⟨(zo_iload_tl _ _), ?_⟩
  refine List.forall_mem_cons.mpr ⟨(zo_pushI_tl _ _), ?_⟩
  refine List.forall_mem_cons.mpr ⟨zo_none_tl, ?_⟩
  refine List.forall_mem_cons.mpr ⟨(zo_callv_tl _ _ _ _), ?_⟩
  refine List.forall_mem_cons.mpr ⟨zo_none_tl, ?_⟩
  refine List.forall_mem_cons.mpr ⟨zo_none_tl, ?_⟩
  refine List.forall_mem_cons.mpr ⟨(zo_pushI_tl _ _), ?_⟩
  refine List.forall_mem_cons.mpr ⟨(zo_icmp_tl _ _ _), ?_⟩
  refine List.forall_mem_cons.mpr ⟨zo_none_tl, ?_⟩
  refine List.forall_mem_cons.mpr ⟨zo_none_tl, ?_⟩
  refine List.forall_mem_cons.mpr ⟨(zo_pushI_tl _ _), ?_⟩
  refine List.forall_mem_cons.mpr ⟨(zo_goto_tl _), ?_⟩
  refine List.forall_mem_cons.mpr ⟨zo_none_tl, ?_⟩
  refine List.forall_mem_cons.mpr ⟨zo_none_tl, ?_⟩
  refine List.forall_mem_cons.mpr ⟨(zo_pushI_tl _ _), ?_⟩
  refine List.forall_mem_cons.mpr ⟨(zo_ii_tl _ _), ?_⟩
  refine List.forall_mem_cons.mpr ⟨(zo_istore_tl _ _), ?_⟩
  refine List.forall_mem_cons.mpr ⟨(zo_iinc_tl _ _ _), ?_⟩
  refine List.forall_mem_cons.mpr ⟨zo_none_tl, ?_⟩
  refine List.forall_mem_cons.mpr ⟨zo_none_tl, ?_⟩
  refine List.forall_mem_cons.mpr ⟨(zo_goto_tl _), ?_⟩
  refine List.forall_mem_cons.mpr ⟨zo_none_tl, ?_⟩
  refine List.forall_mem_cons.mpr ⟨zo_none_tl, ?_⟩
  refine List.forall_mem_cons.mpr ⟨(zo_iload_tl _ _), ?_⟩
  refine List.forall_mem_cons.mpr ⟨(zo_iret_tl _), ?_⟩
  exact fun _ h => absurd h List.not_mem_nil
noncomputable def fX9_livingPods : zzFn := zz_fn tX9_livingPods 3
set_option maxRecDepth 100000 in
set_option maxHeartbeats 4000000 in
theorem mm_X9_livingPods {l : Launch} {D : va_G} {cA : Nat → ClassId} {ad : Nat → Nat} {Ex : (Nat → Prop) → State → Heap → Prop} (Wd : zzWC l D cA ad Ex) : zz_Cn l D zzCl cA ad zzSC Ex yX9_livingPods cX9_livingPods 3 (some .int) 1 22 fX9_livingPods ∧ zz_Cx l D zzCl cA ad zzSC Ex yX9_livingPods cX9_livingPods 3 (some .int) 1 22 fX9_livingPods := by
  refine zz_meth (plainFor_of_name (by decide)) Wd.1 Wd.2.1 Wd.2.2.1 (fun p e R s m args below meth c rr X => ?_)
  unfold tX9_livingPods
  refine zz_cons (k' := 1) rfl (zk_iconst X dX9_livingPods_0 (by decide) rfl) ?_
  refine zz_cons (k' := 2) rfl (zk_istore_n X dX9_livingPods_1 rfl (by decide) rfl) ?_
  refine zz_cons (k' := 3) rfl (zk_iconst X dX9_livingPods_2 (by decide) rfl) ?_
  refine zz_cons (k' := 4) rfl (zk_istore_n X dX9_livingPods_3 rfl (by decide) rfl) ?_
  refine zz_cons (k' := 5) rfl (zk_iload_n X dX9_livingPods_4 rfl rfl) ?_
  refine zz_cons (k' := 6) rfl (zk_aload_n X dX9_livingPods_5 rfl rfl) ?_
  refine zz_cons (k' := 7) rfl (zk_getf X ff_X9_31 dX9_livingPods_6 rfl) ?_
  refine zz_cons (k' := 8) rfl (zz_Ok_none _ _) ?_
  refine zz_cons (k' := 9) rfl (zz_Ok_none _ _) ?_
  refine zz_cons (k' := 10) rfl (zk_icmp_ge X dX9_livingPods_9 (by decide) rfl) ?_
  refine zz_cons (k' := 11) rfl (zz_Ok_none _ _) ?_
  refine zz_cons (k' := 12) rfl (zz_Ok_none _ _) ?_
  refine zz_cons (k' := 13) rfl (zk_iload_n X dX9_livingPods_12 rfl rfl) ?_
  refine zz_cons (k' := 14) rfl (zk_aload_n X dX9_livingPods_13 rfl rfl) ?_
  refine zz_cons (k' := 15) rfl (zk_iload_n X dX9_livingPods_14 rfl rfl) ?_
  refine zz_cons (k' := 16) rfl (zk_bipush X dX9_livingPods_15 (by decide) rfl) ?_
  refine zz_cons (k' := 17) rfl (zz_Ok_none _ _) ?_
  refine zz_cons (k' := 18) rfl (zk_callv X (zz_Cv_of (List.forall_mem_cons.mpr ⟨⟨(RX_8, zzT8, 9), yX10_read, cX10_read, 3, (some .int), 0, 0, rfl, kv_X9_63_8, (mm_X10_read Wd).1, by decide, by decide⟩, (fun _ h => absurd h List.not_mem_nil)⟩)) dX9_livingPods_17 rfl) ?_
  refine zz_cons (k' := 19) rfl (zz_Ok_none _ _) ?_
  refine zz_cons (k' := 20) rfl (zz_Ok_none _ _) ?_
  refine zz_cons (k' := 21) rfl (zk_iconst X dX9_livingPods_20 (by decide) rfl) ?_
  refine zz_cons (k' := 22) rfl (zk_icmp_ne X dX9_livingPods_21 (by decide) rfl) ?_
  refine zz_cons (k' := 23) rfl (zz_Ok_none _ _) ?_
  refine zz_cons (k' := 24) rfl (zz_Ok_none _ _) ?_
  refine zz_cons (k' := 25) rfl (zk_aload_n X dX9_livingPods_24 rfl rfl) ?_
  refine zz_cons (k' := 26) rfl (zk_iload_n X dX9_livingPods_25 rfl rfl) ?_
  refine zz_cons (k' := 27) rfl (zk_bipush X dX9_livingPods_26 (by decide) rfl) ?_
  refine zz_cons (k' := 28) rfl (zz_Ok_none _ _) ?_
  refine zz_cons (k' := 29) rfl (zk_callv X (zz_Cv_of (List.forall_mem_cons.mpr ⟨⟨(RX_8, zzT8, 9), yX10_read, cX10_read, 3, (some .int), 0, 0, rfl, kv_X9_63_8, (mm_X10_read Wd).1, by decide, by decide⟩, (fun _ h => absurd h List.not_mem_nil)⟩)) dX9_livingPods_28 rfl) ?_
  refine zz_cons (k' := 30) rfl (zz_Ok_none _ _) ?_
  refine zz_cons (k' := 31) rfl (zz_Ok_none _ _) ?_
  refine zz_cons (k' := 32) rfl (zk_iconst X dX9_livingPods_31 (by decide) rfl) ?_
  refine zz_cons (k' := 33) rfl (zk_icmp_eq X dX9_livingPods_32 (by decide) rfl) ?_
  refine zz_cons (k' := 34) rfl (zz_Ok_none _ _) ?_
  refine zz_cons (k' := 35) rfl (zz_Ok_none _ _) ?_
  refine zz_cons (k' := 36) rfl (zk_iconst X dX9_livingPods_35 (by decide) rfl) ?_
  refine zz_cons (k' := 37) rfl (zk_goto X dX9_livingPods_36 (by decide)) ?_
  refine zz_cons (k' := 38) rfl (zz_Ok_none _ _) ?_
  refine zz_cons (k' := 39) rfl (zz_Ok_none _ _) ?_
  refine zz_cons (k' := 40) rfl (zk_iconst X dX9_livingPods_39 (by decide) rfl) ?_
  refine zz_cons (k' := 41) rfl (zk_iadd X dX9_livingPods_40 rfl) ?_
  refine zz_cons (k' := 42) rfl (zk_istore_n X dX9_livingPods_41 rfl (by decide) rfl) ?_
  refine zz_cons (k' := 43) rfl (zk_iinc X dX9_livingPods_42 (by decide) (by decide) rfl) ?_
  refine zz_cons (k' := 44) rfl (zz_Ok_none _ _) ?_
  refine zz_cons (k' := 45) rfl (zz_Ok_none _ _) ?_
  refine zz_cons (k' := 46) rfl (zk_goto X dX9_livingPods_45 (by decide)) ?_
  refine zz_cons (k' := 47) rfl (zz_Ok_none _ _) ?_
  refine zz_cons (k' := 48) rfl (zz_Ok_none _ _) ?_
  refine zz_cons (k' := 49) rfl (zk_iload_n X dX9_livingPods_48 rfl rfl) ?_
  refine zz_cons (k' := 50) rfl (zk_iret X rfl dX9_livingPods_49) ?_
  exact trivial
noncomputable def tX9_draftNew : List zzOp := [
  zo_pushI 0 1,
  zo_istore 3 2,
  zo_iload 3 3,
  zo_pushI 11 5,
  zo_none,
  zo_icmp (fun x y => decide (y ≤ x)) 35 8,
  zo_none,
  zo_none,
  zo_aload 0 9,
  zo_getf zzSC (zz_kf [8] 6) 12,
  zo_none,
  zo_none,
  zo_iload 3 13,
  zo_gets 1002 16,
  zo_none,
  zo_none,
  zo_iload 3 17,
  zo_iald zzSC zzSTC 18,
  zo_iast zzSC 19,
  zo_aload 0 20,
  zo_getf zzSC (zz_kf [8] 6) 23,
  zo_none,
  zo_none,
  zo_pushI 11 25,
  zo_none,
  zo_iload 3 26,
  zo_ii (fun x y => x + y) 27,
  zo_iload 1 28,
  zo_iast zzSC 29,
  zo_iinc 3 1 32,
  zo_none,
  zo_none,
  zo_goto 2,
  zo_none,
  zo_none,
  zo_aload 0 36,
  zo_getf zzSC (zz_kf [8] 6) 39,
  zo_none,
  zo_none,
  zo_pushI 23 41,
  zo_none,
  zo_iload 2 42,
  zo_iast zzSC 43,
  zo_aload 0 44,
  zo_getf zzSC (zz_kf [8] 6) 47,
  zo_none,
  zo_none,
  zo_pushI 25 49,
  zo_none,
  zo_pushI 0 50,
  zo_iast zzSC 51,
  zo_aload 0 52,
  zo_getf zzSC (zz_kf [8] 6) 55,
  zo_none,
  zo_none,
  zo_pushI 26 57,
  zo_none,
  zo_pushI 0 58,
  zo_iast zzSC 59,
  zo_aload 0 60,
  zo_getf zzSC (zz_kf [8] 6) 63,
  zo_none,
  zo_none,
  zo_pushI 27 65,
  zo_none,
  zo_pushI 1 66,
  zo_iast zzSC 67,
  zo_aload 0 68,
  zo_getf zzSC (zz_kf [8] 6) 71,
  zo_none,
  zo_none,
  zo_pushI 28 73,
  zo_none,
  zo_pushI (-1) 74,
  zo_iast zzSC 75,
  zo_aload 0 76,
  zo_getf zzSC (zz_kf [8] 6) 79,
  zo_none,
  zo_none,
  zo_pushI 29 81,
  zo_none,
  zo_pushI 0 82,
  zo_iast zzSC 83,
  zo_aload 0 84,
  zo_getf zzSC (zz_kf [8] 6) 87,
  zo_none,
  zo_none,
  zo_pushI 30 89,
  zo_none,
  zo_pushI 0 90,
  zo_iast zzSC 91,
  zo_aload 0 92,
  zo_getf zzSC (zz_kf [8] 6) 95,
  zo_none,
  zo_none,
  zo_pushI 31 97,
  zo_none,
  zo_pushI 0 98,
  zo_iast zzSC 99,
  zo_ret]
set_option maxRecDepth 100000 in
theorem tl_X9_draftNew : ∀ pc, zz_Tl (tX9_draftNew.getD pc zo_none) := by
  refine zz_Tl_mem ?_
  unfold tX9_draftNew
  refine List.forall_mem_cons.mpr ⟨(zo_pushI_tl _ _), ?_⟩
  refine List.forall_mem_cons.mpr ⟨(zo_istore_tl _ _), ?_⟩
  refine List.forall_mem_cons.mpr ⟨(zo_iload_tl _ _), ?_⟩
  refine List.forall_mem_cons.mpr ⟨(zo_pushI_tl _ _), ?_⟩
  refine List.forall_mem_cons.mpr ⟨zo_none_tl, ?_⟩
  refine List.forall_mem_cons.mpr ⟨(zo_icmp_tl _ _ _), ?_⟩
  refine List.forall_mem_cons.mpr ⟨zo_none_tl, ?_⟩
  refine List.forall_mem_cons.mpr ⟨zo_none_tl, ?_⟩
  refine List.forall_mem_cons.mpr ⟨(zo_aload_tl _ _), ?_⟩
  refine List.forall_mem_cons.mpr ⟨(zo_getf_tl _ _ _), ?_⟩
  refine List.forall_mem_cons.mpr ⟨zo_none_tl, ?_⟩
  refine List.forall_mem_cons.mpr ⟨zo_none_tl, ?_⟩
  refine List.forall_mem_cons.mpr ⟨(zo_iload_tl _ _), ?_⟩
  refine List.forall_mem_cons.mpr ⟨(zo_gets_tl _ _), ?_⟩
  refine List.forall_mem_cons.mpr ⟨zo_none_tl, ?_⟩
  refine List.forall_mem_cons.mpr ⟨zo_none_tl, ?_⟩
  refine List.forall_mem_cons.mpr ⟨(zo_iload_tl _ _), ?_⟩
  refine List.forall_mem_cons.mpr ⟨(zo_iald_tl _ _ _), ?_⟩
  refine List.forall_mem_cons.mpr ⟨(zo_iast_tl _ _), ?_⟩
  refine List.forall_mem_cons.mpr ⟨(zo_aload_tl _ _), ?_⟩
  refine List.forall_mem_cons.mpr ⟨(zo_getf_tl _ _ _), ?_⟩
  refine List.forall_mem_cons.mpr ⟨zo_none_tl, ?_⟩
  refine List.forall_mem_cons.mpr ⟨zo_none_tl, ?_⟩
  refine List.forall_mem_cons.mpr ⟨(zo_pushI_tl _ _), ?_⟩
  refine List.forall_mem_cons.mpr ⟨zo_none_tl, ?_⟩
  refine List.forall_mem_cons.mpr ⟨(zo_iload_tl _ _), ?_⟩
  refine List.forall_mem_cons.mpr ⟨(zo_ii_tl _ _), ?_⟩
  refine List.forall_mem_cons.mpr ⟨(zo_iload_tl _ _), ?_⟩
  refine List.forall_mem_cons.mpr ⟨(zo_iast_tl _ _), ?_⟩
  refine List.forall_mem_cons.mpr ⟨(zo_iinc_tl _ _ _), ?_⟩
  refine List.forall_mem_cons.mpr ⟨zo_none_tl, ?_⟩
  refine List.forall_mem_cons.mpr ⟨zo_none_tl, ?_⟩
  refine List.forall_mem_cons.mpr ⟨(zo_goto_tl _), ?_⟩
  refine List.forall_mem_cons.mpr ⟨zo_none_tl, ?_⟩
  refine List.forall_mem_cons.mpr ⟨zo_none_tl, ?_⟩
  refine List.forall_mem_cons.mpr ⟨(zo_aload_tl _ _), ?_⟩
  refine List.forall_mem_cons.mpr ⟨(zo_getf_tl _ _ _), ?_⟩
  refine List.forall_mem_cons.mpr ⟨zo_none_tl, ?_⟩
  refine List.forall_mem_cons.mpr ⟨zo_none_tl, ?_⟩
  refine List.forall_mem_cons.mpr ⟨(zo_pushI_tl _ _), ?_⟩
  refine List.forall_mem_cons.mpr ⟨zo_none_tl, ?_⟩
  refine List.forall_mem_cons.mpr ⟨(zo_iload_tl _ _), ?_⟩
  refine List.forall_mem_cons.mpr ⟨(zo_iast_tl _ _), ?_⟩
  refine List.forall_mem_cons.mpr ⟨(zo_aload_tl _ _), ?_⟩
  refine List.forall_mem_cons.mpr ⟨(zo_getf_tl _ _ _), ?_⟩
  refine List.forall_mem_cons.mpr ⟨zo_none_tl, ?_⟩
  refine List.forall_mem_cons.mpr ⟨zo_none_tl, ?_⟩
  refine List.forall_mem_cons.mpr ⟨(zo_pushI_tl _ _), ?_⟩
  refine List.forall_mem_cons.mpr ⟨zo_none_tl, ?_⟩
  refine List.forall_mem_cons.mpr ⟨(zo_pushI_tl _ _), ?_⟩
  refine List.forall_mem_cons.mpr ⟨(zo_iast_tl _ _), ?_⟩
  refine List.forall_mem_cons.mpr ⟨(zo_aload_tl _ _), ?_⟩
  refine List.forall_mem_cons.mpr ⟨(zo_getf_tl _ _ _), ?_⟩
  refine List.forall_mem_cons.mpr ⟨zo_none_tl, ?_⟩
  refine List.forall_mem_cons.mpr ⟨zo_none_tl, ?_⟩
  refine List.forall_mem_cons.mpr ⟨(zo_pushI_tl _ _), ?_⟩
  refine List.forall_mem_cons.mpr ⟨zo_none_tl, ?_⟩
  refine List.forall_mem_cons.mpr ⟨(zo_pushI_tl _ _), ?_⟩
  refine List.forall_mem_cons.mpr ⟨(zo_iast_tl _ _), ?_⟩
  refine List.forall_mem_cons.mpr ⟨(zo_aload_tl _ _), ?_⟩
  refine List.forall_mem_cons.mpr ⟨(zo_getf_tl _ _ _), ?_⟩
  refine List.forall_mem_cons.mpr ⟨zo_none_tl, ?_⟩
  refine List.forall_mem_cons.mpr ⟨zo_none_tl, ?_⟩
  refine List.forall_mem_cons.mpr ⟨(zo_pushI_tl _ _), ?_⟩
  refine List.forall_mem_cons.mpr ⟨zo_none_tl, ?_⟩
  refine List.forall_mem_cons.mpr ⟨(zo_pushI_tl _ _), ?_⟩
  refine List.forall_mem_cons.mpr ⟨(zo_iast_tl _ _), ?_⟩
  refine List.forall_mem_cons.mpr ⟨(zo_aload_tl _ _), ?_⟩
  refine List.forall_mem_cons.mpr ⟨(zo_getf_tl _ _ _), ?_⟩
  refine List.forall_mem_cons.mpr ⟨zo_none_tl, ?_⟩
  refine List.forall_mem_cons.mpr ⟨zo_none_tl, ?_⟩
  refine List.forall_mem_cons.mpr ⟨(zo_pushI_tl _ _), ?_⟩
  refine List.forall_mem_cons.mpr ⟨zo_none_tl, ?_⟩
  refine List.forall_mem_cons.mpr ⟨(zo_pushI_tl _ _), ?_⟩
  refine List.forall_mem_cons.mpr ⟨(zo_iast_tl _ _), ?_⟩
  refine List.forall_mem_cons.mpr ⟨(zo_aload_tl _ _), ?_⟩
  refine List.forall_mem_cons.mpr ⟨(zo_getf_tl _ _ _), ?_⟩
  refine List.forall_mem_cons.mpr ⟨zo_none_tl, ?_⟩
  refine List.forall_mem_cons.mpr ⟨zo_none_tl, ?_⟩
  refine List.forall_mem_cons.mpr ⟨(zo_pushI_tl _ _), ?_⟩
  refine List.forall_mem_cons.mpr ⟨zo_none_tl, ?_⟩
  refine List.forall_mem_cons.mpr ⟨(zo_pushI_tl _ _), ?_⟩
  refine List.forall_mem_cons.mpr ⟨(zo_iast_tl _ _), ?_⟩
  refine List.forall_mem_cons.mpr ⟨(zo_aload_tl _ _), ?_⟩
  refine List.forall_mem_cons.mpr ⟨(zo_getf_tl _ _ _), ?_⟩
  refine List.forall_mem_cons.mpr ⟨zo_none_tl, ?_⟩
  refine List.forall_mem_cons.mpr ⟨zo_none_tl, ?_⟩
  refine List.forall_mem_cons.mpr ⟨(zo_pushI_tl _ _), ?_⟩
  refine List.forall_mem_cons.mpr ⟨zo_none_tl, ?_⟩
  refine List.forall_mem_cons.mpr ⟨(zo_pushI_tl _ _), ?_⟩
  refine List.forall_mem_cons.mpr ⟨(zo_iast_tl _ _), ?_⟩
  refine List.forall_mem_cons.mpr ⟨(zo_aload_tl _ _), ?_⟩
  refine List.forall_mem_cons.mpr ⟨(zo_getf_tl _ _ _), ?_⟩
  refine List.forall_mem_cons.mpr ⟨zo_none_tl, ?_⟩
  refine List.forall_mem_cons.mpr ⟨zo_none_tl, ?_⟩
  refine List.forall_mem_cons.mpr ⟨(zo_pushI_tl _ _), ?_⟩
  refine List.forall_mem_cons.mpr ⟨zo_none_tl, ?_⟩
  refine List.forall_mem_cons.mpr ⟨(zo_pushI_tl _ _), ?_⟩
  refine List.forall_mem_cons.mpr ⟨(zo_iast_tl _ _), ?_⟩
  refine List.forall_mem_cons.mpr ⟨(zo_ret_tl), ?_⟩
  exact fun _ h => absurd h List.not_mem_nil
noncomputable def fX9_draftNew : zzFn := zz_fn tX9_draftNew 4
set_option maxRecDepth 100000 in
set_option maxHeartbeats 4000000 in
theorem mm_X9_draftNew {l : Launch} {D : va_G} {cA : Nat → ClassId} {ad : Nat → Nat} {Ex : (Nat → Prop) → State → Heap → Prop} (Wd : zzWC l D cA ad Ex) : zz_Cn l D zzCl cA ad zzSC Ex yX9_draftNew cX9_draftNew 4 none 0 0 fX9_draftNew ∧ zz_Cx l D zzCl cA ad zzSC Ex yX9_draftNew cX9_draftNew 4 none 0 0 fX9_draftNew := by
  refine zz_meth (plainFor_of_name (by decide)) Wd.1 Wd.2.1 Wd.2.2.1 (fun p e R s m args below meth c rr X => ?_)
  unfold tX9_draftNew
  refine zz_cons (k' := 1) rfl (zk_iconst X dX9_draftNew_0 (by decide) rfl) ?_
  refine zz_cons (k' := 2) rfl (zk_istore_n X dX9_draftNew_1 rfl (by decide) rfl) ?_
  refine zz_cons (k' := 3) rfl (zk_iload_n X dX9_draftNew_2 rfl rfl) ?_
  refine zz_cons (k' := 4) rfl (zk_bipush X dX9_draftNew_3 (by decide) rfl) ?_
  refine zz_cons (k' := 5) rfl (zz_Ok_none _ _) ?_
  refine zz_cons (k' := 6) rfl (zk_icmp_ge X dX9_draftNew_5 (by decide) rfl) ?_
  refine zz_cons (k' := 7) rfl (zz_Ok_none _ _) ?_
  refine zz_cons (k' := 8) rfl (zz_Ok_none _ _) ?_
  refine zz_cons (k' := 9) rfl (zk_aload_n X dX9_draftNew_8 rfl rfl) ?_
  refine zz_cons (k' := 10) rfl (zk_getf X ff_X9_28 dX9_draftNew_9 rfl) ?_
  refine zz_cons (k' := 11) rfl (zz_Ok_none _ _) ?_
  refine zz_cons (k' := 12) rfl (zz_Ok_none _ _) ?_
  refine zz_cons (k' := 13) rfl (zk_iload_n X dX9_draftNew_12 rfl rfl) ?_
  refine zz_cons (k' := 14) rfl (zk_getsN X (host := "ReconcilerHall") (zzWC_sg2 Wd) (zzWC_nw Wd (by decide +kernel)) dX9_draftNew_13 rfl) ?_
  refine zz_cons (k' := 15) rfl (zz_Ok_none _ _) ?_
  refine zz_cons (k' := 16) rfl (zz_Ok_none _ _) ?_
  refine zz_cons (k' := 17) rfl (zk_iload_n X dX9_draftNew_16 rfl rfl) ?_
  refine zz_cons (k' := 18) rfl (zk_iald X (zzWC_st Wd) dX9_draftNew_17 rfl) ?_
  refine zz_cons (k' := 19) rfl (zk_iast X dX9_draftNew_18 rfl) ?_
  refine zz_cons (k' := 20) rfl (zk_aload_n X dX9_draftNew_19 rfl rfl) ?_
  refine zz_cons (k' := 21) rfl (zk_getf X ff_X9_28 dX9_draftNew_20 rfl) ?_
  refine zz_cons (k' := 22) rfl (zz_Ok_none _ _) ?_
  refine zz_cons (k' := 23) rfl (zz_Ok_none _ _) ?_
  refine zz_cons (k' := 24) rfl (zk_bipush X dX9_draftNew_23 (by decide) rfl) ?_
  refine zz_cons (k' := 25) rfl (zz_Ok_none _ _) ?_
  refine zz_cons (k' := 26) rfl (zk_iload_n X dX9_draftNew_25 rfl rfl) ?_
  refine zz_cons (k' := 27) rfl (zk_iadd X dX9_draftNew_26 rfl) ?_
  refine zz_cons (k' := 28) rfl (zk_iload_n X dX9_draftNew_27 rfl rfl) ?_
  refine zz_cons (k' := 29) rfl (zk_iast X dX9_draftNew_28 rfl) ?_
  refine zz_cons (k' := 30) rfl (zk_iinc X dX9_draftNew_29 (by decide) (by decide) rfl) ?_
  refine zz_cons (k' := 31) rfl (zz_Ok_none _ _) ?_
  refine zz_cons (k' := 32) rfl (zz_Ok_none _ _) ?_
  refine zz_cons (k' := 33) rfl (zk_goto X dX9_draftNew_32 (by decide)) ?_
  refine zz_cons (k' := 34) rfl (zz_Ok_none _ _) ?_
  refine zz_cons (k' := 35) rfl (zz_Ok_none _ _) ?_
  refine zz_cons (k' := 36) rfl (zk_aload_n X dX9_draftNew_35 rfl rfl) ?_
  refine zz_cons (k' := 37) rfl (zk_getf X ff_X9_28 dX9_draftNew_36 rfl) ?_
  refine zz_cons (k' := 38) rfl (zz_Ok_none _ _) ?_
  refine zz_cons (k' := 39) rfl (zz_Ok_none _ _) ?_
  refine zz_cons (k' := 40) rfl (zk_bipush X dX9_draftNew_39 (by decide) rfl) ?_
  refine zz_cons (k' := 41) rfl (zz_Ok_none _ _) ?_
  refine zz_cons (k' := 42) rfl (zk_iload_n X dX9_draftNew_41 rfl rfl) ?_
  refine zz_cons (k' := 43) rfl (zk_iast X dX9_draftNew_42 rfl) ?_
  refine zz_cons (k' := 44) rfl (zk_aload_n X dX9_draftNew_43 rfl rfl) ?_
  refine zz_cons (k' := 45) rfl (zk_getf X ff_X9_28 dX9_draftNew_44 rfl) ?_
  refine zz_cons (k' := 46) rfl (zz_Ok_none _ _) ?_
  refine zz_cons (k' := 47) rfl (zz_Ok_none _ _) ?_
  refine zz_cons (k' := 48) rfl (zk_bipush X dX9_draftNew_47 (by decide) rfl) ?_
  refine zz_cons (k' := 49) rfl (zz_Ok_none _ _) ?_
  refine zz_cons (k' := 50) rfl (zk_iconst X dX9_draftNew_49 (by decide) rfl) ?_
  refine zz_cons (k' := 51) rfl (zk_iast X dX9_draftNew_50 rfl) ?_
  refine zz_cons (k' := 52) rfl (zk_aload_n X dX9_draftNew_51 rfl rfl) ?_
  refine zz_cons (k' := 53) rfl (zk_getf X ff_X9_28 dX9_draftNew_52 rfl) ?_
  refine zz_cons (k' := 54) rfl (zz_Ok_none _ _) ?_
  refine zz_cons (k' := 55) rfl (zz_Ok_none _ _) ?_
  refine zz_cons (k' := 56) rfl (zk_bipush X dX9_draftNew_55 (by decide) rfl) ?_
  refine zz_cons (k' := 57) rfl (zz_Ok_none _ _) ?_
  refine zz_cons (k' := 58) rfl (zk_iconst X dX9_draftNew_57 (by decide) rfl) ?_
  refine zz_cons (k' := 59) rfl (zk_iast X dX9_draftNew_58 rfl) ?_
  refine zz_cons (k' := 60) rfl (zk_aload_n X dX9_draftNew_59 rfl rfl) ?_
  refine zz_cons (k' := 61) rfl (zk_getf X ff_X9_28 dX9_draftNew_60 rfl) ?_
  refine zz_cons (k' := 62) rfl (zz_Ok_none _ _) ?_
  refine zz_cons (k' := 63) rfl (zz_Ok_none _ _) ?_
  refine zz_cons (k' := 64) rfl (zk_bipush X dX9_draftNew_63 (by decide) rfl) ?_
  refine zz_cons (k' := 65) rfl (zz_Ok_none _ _) ?_
  refine zz_cons (k' := 66) rfl (zk_iconst X dX9_draftNew_65 (by decide) rfl) ?_
  refine zz_cons (k' := 67) rfl (zk_iast X dX9_draftNew_66 rfl) ?_
  refine zz_cons (k' := 68) rfl (zk_aload_n X dX9_draftNew_67 rfl rfl) ?_
  refine zz_cons (k' := 69) rfl (zk_getf X ff_X9_28 dX9_draftNew_68 rfl) ?_
  refine zz_cons (k' := 70) rfl (zz_Ok_none _ _) ?_
  refine zz_cons (k' := 71) rfl (zz_Ok_none _ _) ?_
  refine zz_cons (k' := 72) rfl (zk_bipush X dX9_draftNew_71 (by decide) rfl) ?_
  refine zz_cons (k' := 73) rfl (zz_Ok_none _ _) ?_
  refine zz_cons (k' := 74) rfl (zk_iconst X dX9_draftNew_73 (by decide) rfl) ?_
  refine zz_cons (k' := 75) rfl (zk_iast X dX9_draftNew_74 rfl) ?_
  refine zz_cons (k' := 76) rfl (zk_aload_n X dX9_draftNew_75 rfl rfl) ?_
  refine zz_cons (k' := 77) rfl (zk_getf X ff_X9_28 dX9_draftNew_76 rfl) ?_
  refine zz_cons (k' := 78) rfl (zz_Ok_none _ _) ?_
  refine zz_cons (k' := 79) rfl (zz_Ok_none _ _) ?_
  refine zz_cons (k' := 80) rfl (zk_bipush X dX9_draftNew_79 (by decide) rfl) ?_
  refine zz_cons (k' := 81) rfl (zz_Ok_none _ _) ?_
  refine zz_cons (k' := 82) rfl (zk_iconst X dX9_draftNew_81 (by decide) rfl) ?_
  refine zz_cons (k' := 83) rfl (zk_iast X dX9_draftNew_82 rfl) ?_
  refine zz_cons (k' := 84) rfl (zk_aload_n X dX9_draftNew_83 rfl rfl) ?_
  refine zz_cons (k' := 85) rfl (zk_getf X ff_X9_28 dX9_draftNew_84 rfl) ?_
  refine zz_cons (k' := 86) rfl (zz_Ok_none _ _) ?_
  refine zz_cons (k' := 87) rfl (zz_Ok_none _ _) ?_
  refine zz_cons (k' := 88) rfl (zk_bipush X dX9_draftNew_87 (by decide) rfl) ?_
  refine zz_cons (k' := 89) rfl (zz_Ok_none _ _) ?_
  refine zz_cons (k' := 90) rfl (zk_iconst X dX9_draftNew_89 (by decide) rfl) ?_
  refine zz_cons (k' := 91) rfl (zk_iast X dX9_draftNew_90 rfl) ?_
  refine zz_cons (k' := 92) rfl (zk_aload_n X dX9_draftNew_91 rfl rfl) ?_
  refine zz_cons (k' := 93) rfl (zk_getf X ff_X9_28 dX9_draftNew_92 rfl) ?_
  refine zz_cons (k' := 94) rfl (zz_Ok_none _ _) ?_
  refine zz_cons (k' := 95) rfl (zz_Ok_none _ _) ?_
  refine zz_cons (k' := 96) rfl (zk_bipush X dX9_draftNew_95 (by decide) rfl) ?_
  refine zz_cons (k' := 97) rfl (zz_Ok_none _ _) ?_
  refine zz_cons (k' := 98) rfl (zk_iconst X dX9_draftNew_97 (by decide) rfl) ?_
  refine zz_cons (k' := 99) rfl (zk_iast X dX9_draftNew_98 rfl) ?_
  refine zz_cons (k' := 100) rfl (zk_ret X rfl dX9_draftNew_99) ?_
  exact trivial
noncomputable def tX9_open : List zzOp := [
  zo_aload 0 1,
  zo_getf zzSC (zz_kf [8] 2) 4,
  zo_none,
  zo_none,
  zo_istore 5 6,
  zo_none,
  zo_iload 5 8,
  zo_none,
  zo_pushI 60 10,
  zo_none,
  zo_icmp (fun x y => decide (y ≤ x)) 32 13,
  zo_none,
  zo_none,
  zo_iload 2 14,
  zo_pushI 2 15,
  zo_icmp (fun x y => decide (¬ x = y)) 34 18,
  zo_none,
  zo_none,
  zo_aload 0 19,
  zo_callv zzSC (zz_cl [(8, fX9_livingPods)]) 0 22,
  zo_none,
  zo_none,
  zo_aload 0 23,
  zo_getf zzSC (zz_kf [8] 4) 26,
  zo_none,
  zo_none,
  zo_getf zzSC (zz_kf [0] 5) 29,
  zo_none,
  zo_none,
  zo_icmp (fun x y => decide (x < y)) 34 32,
  zo_none,
  zo_none,
  zo_pushI (-1) 33,
  zo_iret false,
  zo_aload 0 35,
  zo_iload 1 36,
  zo_iload 2 37,
  zo_callv zzSC (zz_cl [(8, fX9_draftNew)]) 2 40,
  zo_none,
  zo_none,
  zo_aload 0 41,
  zo_getf zzSC (zz_kf [8] 6) 44,
  zo_none,
  zo_none,
  zo_pushI 22 46,
  zo_none,
  zo_iload 5 48,
  zo_none,
  zo_iast zzSC 49,
  zo_aload 0 50,
  zo_getf zzSC (zz_kf [8] 6) 53,
  zo_none,
  zo_none,
  zo_pushI 24 55,
  zo_none,
  zo_iload 3 56,
  zo_iast zzSC 57,
  zo_aload 0 58,
  zo_getf zzSC (zz_kf [8] 6) 61,
  zo_none,
  zo_none,
  zo_pushI 1 62,
  zo_iload 4 64,
  zo_none,
  zo_iast zzSC 65,
  zo_aload 0 66,
  zo_getf zzSC (zz_kf [8] 4) 69,
  zo_none,
  zo_none,
  zo_aload 0 70,
  zo_getf zzSC (zz_kf [8] 6) 73,
  zo_none,
  zo_none,
  zo_callv zzSC (zz_cl [(0, fX0_settles)]) 1 76,
  zo_none,
  zo_none,
  zo_if (fun x => decide (x = 0)) 102 79,
  zo_none,
  zo_none,
  zo_aload 0 80,
  zo_getf zzSC (zz_kf [8] 4) 83,
  zo_none,
  zo_none,
  zo_aload 0 84,
  zo_getf zzSC (zz_kf [8] 6) 87,
  zo_none,
  zo_none,
  zo_callv zzSC (zz_cl [(0, fX0_allows)]) 1 90,
  zo_none,
  zo_none,
  zo_if (fun x => decide (x = 0)) 102 93,
  zo_none,
  zo_none,
  zo_aload 0 94,
  zo_iload 5 96,
  zo_none,
  zo_callv zzSC (zz_cl [(8, fX9_write)]) 1 99,
  zo_none,
  zo_none,
  zo_if (fun x => decide (¬ x = 0)) 104 102,
  zo_none,
  zo_none,
  zo_pushI (-1) 103,
  zo_iret false,
  zo_aload 0 105,
  zo_getf zzSC (zz_kf [8] 5) 108,
  zo_none,
  zo_none,
  zo_iload 5 110,
  zo_none,
  zo_aload 0 111,
  zo_getf zzSC (zz_kf [8] 7) 114,
  zo_none,
  zo_none,
  zo_iast zzSC 115,
  zo_iload 5 117,
  zo_none,
  zo_iret false]
set_option maxRecDepth 100000 in
theorem tl_X9_open : ∀ pc, zz_Tl (tX9_open.getD pc zo_none) := by
  refine zz_Tl_mem ?_
  unfold tX9_open
  refine List.forall_mem_cons.mpr ⟨(zo_aload_tl _ _), ?_⟩
  refine List.forall_mem_cons.mpr ⟨(zo_getf_tl _ _ _), ?_⟩
  refine List.forall_mem_cons.mpr ⟨zo_none_tl, ?_⟩
  refine List.forall_mem_cons.mpr ⟨zo_none_tl, ?_⟩
  refine List.forall_mem_cons.mpr ⟨(zo_istore_tl _ _), ?_⟩
  refine List.forall_mem_cons.mpr ⟨zo_none_tl, ?_⟩
  refine List.forall_mem_cons.mpr ⟨(zo_iload_tl _ _), ?_⟩
  refine List.forall_mem_cons.mpr ⟨zo_none_tl, ?_⟩
  refine List.forall_mem_cons.mpr ⟨(zo_pushI_tl _ _), ?_⟩
  refine List.forall_mem_cons.mpr ⟨zo_none_tl, ?_⟩
  refine List.forall_mem_cons.mpr ⟨(zo_icmp_tl _ _ _), ?_⟩
  refine List.forall_mem_cons.mpr ⟨zo_none_tl, ?_⟩
  refine List.forall_mem_cons.mpr ⟨zo_none_tl, ?_⟩
  refine List.forall_mem_cons.mpr ⟨(zo_iload_tl _ _), ?_⟩
  refine List.forall_mem_cons.mpr ⟨(zo_pushI_tl _ _), ?_⟩
  refine List.forall_mem_cons.mpr ⟨(zo_icmp_tl _ _ _), ?_⟩
  refine List.forall_mem_cons.mpr ⟨zo_none_tl, ?_⟩
  refine List.forall_mem_cons.mpr ⟨zo_none_tl, ?_⟩
  refine List.forall_mem_cons.mpr ⟨(zo_aload_tl _ _), ?_⟩
  refine List.forall_mem_cons.mpr ⟨(zo_callv_tl _ _ _ _), ?_⟩
  refine List.forall_mem_cons.mpr ⟨zo_none_tl, ?_⟩
  refine List.forall_mem_cons.mpr ⟨zo_none_tl, ?_⟩
  refine List.forall_mem_cons.mpr ⟨(zo_aload_tl _ _), ?_⟩
  refine List.forall_mem_cons.mpr ⟨(zo_getf_tl _ _ _), ?_⟩
  refine List.forall_mem_cons.mpr ⟨zo_none_tl, ?_⟩
  refine List.forall_mem_cons.mpr ⟨zo_none_tl, ?_⟩
  refine List.forall_mem_cons.mpr ⟨(zo_getf_tl _ _ _), ?_⟩
  refine List.forall_mem_cons.mpr ⟨zo_none_tl, ?_⟩
  refine List.forall_mem_cons.mpr ⟨zo_none_tl, ?_⟩
  refine List.forall_mem_cons.mpr ⟨(zo_icmp_tl _ _ _), ?_⟩
  refine List.forall_mem_cons.mpr ⟨zo_none_tl, ?_⟩
  refine List.forall_mem_cons.mpr ⟨zo_none_tl, ?_⟩
  refine List.forall_mem_cons.mpr ⟨(zo_pushI_tl _ _), ?_⟩
  refine List.forall_mem_cons.mpr ⟨(zo_iret_tl _), ?_⟩
  refine List.forall_mem_cons.mpr ⟨(zo_aload_tl _ _), ?_⟩
  refine List.forall_mem_cons.mpr ⟨(zo_iload_tl _ _), ?_⟩
  refine List.forall_mem_cons.mpr ⟨(zo_iload_tl _ _), ?_⟩
  refine List.forall_mem_cons.mpr ⟨(zo_callv_tl _ _ _ _), ?_⟩
  refine List.forall_mem_cons.mpr ⟨zo_none_tl, ?_⟩
  refine List.forall_mem_cons.mpr ⟨zo_none_tl, ?_⟩
  refine List.forall_mem_cons.mpr ⟨(zo_aload_tl _ _), ?_⟩
  refine List.forall_mem_cons.mpr ⟨(zo_getf_tl _ _ _), ?_⟩
  refine List.forall_mem_cons.mpr ⟨zo_none_tl, ?_⟩
  refine List.forall_mem_cons.mpr ⟨zo_none_tl, ?_⟩
  refine List.forall_mem_cons.mpr ⟨(zo_pushI_tl _ _), ?_⟩
  refine List.forall_mem_cons.mpr ⟨zo_none_tl, ?_⟩
  refine List.forall_mem_cons.mpr ⟨(zo_iload_tl _ _), ?_⟩
  refine List.forall_mem_cons.mpr ⟨zo_none_tl, ?_⟩
  refine List.forall_mem_cons.mpr ⟨(zo_iast_tl _ _), ?_⟩
  refine List.forall_mem_cons.mpr ⟨(zo_aload_tl _ _), ?_⟩
  refine List.forall_mem_cons.mpr ⟨(zo_getf_tl _ _ _), ?_⟩
  refine List.forall_mem_cons.mpr ⟨zo_none_tl, ?_⟩
  refine List.forall_mem_cons.mpr ⟨zo_none_tl, ?_⟩
  refine List.forall_mem_cons.mpr ⟨(zo_pushI_tl _ _), ?_⟩
  refine List.forall_mem_cons.mpr ⟨zo_none_tl, ?_⟩
  refine List.forall_mem_cons.mpr ⟨(zo_iload_tl _ _), ?_⟩
  refine List.forall_mem_cons.mpr ⟨(zo_iast_tl _ _), ?_⟩
  refine List.forall_mem_cons.mpr ⟨(zo_aload_tl _ _), ?_⟩
  refine List.forall_mem_cons.mpr ⟨(zo_getf_tl _ _ _), ?_⟩
  refine List.forall_mem_cons.mpr ⟨zo_none_tl, ?_⟩
  refine List.forall_mem_cons.mpr ⟨zo_none_tl, ?_⟩
  refine List.forall_mem_cons.mpr ⟨(zo_pushI_tl _ _), ?_⟩
  refine List.forall_mem_cons.mpr ⟨(zo_iload_tl _ _), ?_⟩
  refine List.forall_mem_cons.mpr ⟨zo_none_tl, ?_⟩
  refine List.forall_mem_cons.mpr ⟨(zo_iast_tl _ _), ?_⟩
  refine List.forall_mem_cons.mpr ⟨(zo_aload_tl _ _), ?_⟩
  refine List.forall_mem_cons.mpr ⟨(zo_getf_tl _ _ _), ?_⟩
  refine List.forall_mem_cons.mpr ⟨zo_none_tl, ?_⟩
  refine List.forall_mem_cons.mpr ⟨zo_none_tl, ?_⟩
  refine List.forall_mem_cons.mpr ⟨(zo_aload_tl _ _), ?_⟩
  refine List.forall_mem_cons.mpr ⟨(zo_getf_tl _ _ _), ?_⟩
  refine List.forall_mem_cons.mpr ⟨zo_none_tl, ?_⟩
  refine List.forall_mem_cons.mpr ⟨zo_none_tl, ?_⟩
  refine List.forall_mem_cons.mpr ⟨(zo_callv_tl _ _ _ _), ?_⟩
  refine List.forall_mem_cons.mpr ⟨zo_none_tl, ?_⟩
  refine List.forall_mem_cons.mpr ⟨zo_none_tl, ?_⟩
  refine List.forall_mem_cons.mpr ⟨(zo_if_tl _ _ _), ?_⟩
  refine List.forall_mem_cons.mpr ⟨zo_none_tl, ?_⟩
  refine List.forall_mem_cons.mpr ⟨zo_none_tl, ?_⟩
  refine List.forall_mem_cons.mpr ⟨(zo_aload_tl _ _), ?_⟩
  refine List.forall_mem_cons.mpr ⟨(zo_getf_tl _ _ _), ?_⟩
  refine List.forall_mem_cons.mpr ⟨zo_none_tl, ?_⟩
  refine List.forall_mem_cons.mpr ⟨zo_none_tl, ?_⟩
  refine List.forall_mem_cons.mpr ⟨(zo_aload_tl _ _), ?_⟩
  refine List.forall_mem_cons.mpr ⟨(zo_getf_tl _ _ _), ?_⟩
  refine List.forall_mem_cons.mpr ⟨zo_none_tl, ?_⟩
  refine List.forall_mem_cons.mpr ⟨zo_none_tl, ?_⟩
  refine List.forall_mem_cons.mpr ⟨(zo_callv_tl _ _ _ _), ?_⟩
  refine List.forall_mem_cons.mpr ⟨zo_none_tl, ?_⟩
  refine List.forall_mem_cons.mpr ⟨zo_none_tl, ?_⟩
  refine List.forall_mem_cons.mpr ⟨(zo_if_tl _ _ _), ?_⟩
  refine List.forall_mem_cons.mpr ⟨zo_none_tl, ?_⟩
  refine List.forall_mem_cons.mpr ⟨zo_none_tl, ?_⟩
  refine List.forall_mem_cons.mpr ⟨(zo_aload_tl _ _), ?_⟩
  refine List.forall_mem_cons.mpr ⟨(zo_iload_tl _ _), ?_⟩
  refine List.forall_mem_cons.mpr ⟨zo_none_tl, ?_⟩
  refine List.forall_mem_cons.mpr ⟨(zo_callv_tl _ _ _ _), ?_⟩
  refine List.forall_mem_cons.mpr ⟨zo_none_tl, ?_⟩
  refine List.forall_mem_cons.mpr ⟨zo_none_tl, ?_⟩
  refine List.forall_mem_cons.mpr ⟨(zo_if_tl _ _ _), ?_⟩
  refine List.forall_mem_cons.mpr ⟨zo_none_tl, ?_⟩
  refine List.forall_mem_cons.mpr ⟨zo_none_tl, ?_⟩
  refine List.forall_mem_cons.mpr ⟨(zo_pushI_tl _ _), ?_⟩
  refine List.forall_mem_cons.mpr ⟨(zo_iret_tl _), ?_⟩
  refine List.forall_mem_cons.mpr ⟨(zo_aload_tl _ _), ?_⟩
  refine List.forall_mem_cons.mpr ⟨(zo_getf_tl _ _ _), ?_⟩
  refine List.forall_mem_cons.mpr ⟨zo_none_tl, ?_⟩
  refine List.forall_mem_cons.mpr ⟨zo_none_tl, ?_⟩
  refine List.forall_mem_cons.mpr ⟨(zo_iload_tl _ _), ?_⟩
  refine List.forall_mem_cons.mpr ⟨zo_none_tl, ?_⟩
  refine List.forall_mem_cons.mpr ⟨(zo_aload_tl _ _), ?_⟩
  refine List.forall_mem_cons.mpr ⟨(zo_getf_tl _ _ _), ?_⟩
  refine List.forall_mem_cons.mpr ⟨zo_none_tl, ?_⟩
  refine List.forall_mem_cons.mpr ⟨zo_none_tl, ?_⟩
  refine List.forall_mem_cons.mpr ⟨(zo_iast_tl _ _), ?_⟩
  refine List.forall_mem_cons.mpr ⟨(zo_iload_tl _ _), ?_⟩
  refine List.forall_mem_cons.mpr ⟨zo_none_tl, ?_⟩
  refine List.forall_mem_cons.mpr ⟨(zo_iret_tl _), ?_⟩
  exact fun _ h => absurd h List.not_mem_nil
noncomputable def fX9_open : zzFn := zz_fn tX9_open 6
set_option maxRecDepth 100000 in
set_option maxHeartbeats 4000000 in
theorem mm_X9_open {l : Launch} {D : va_G} {cA : Nat → ClassId} {ad : Nat → Nat} {Ex : (Nat → Prop) → State → Heap → Prop} (Wd : zzWC l D cA ad Ex) : zz_Cn l D zzCl cA ad zzSC Ex yX9_open cX9_open 6 (some .int) 2 50 fX9_open ∧ zz_Cx l D zzCl cA ad zzSC Ex yX9_open cX9_open 6 (some .int) 2 50 fX9_open := by
  refine zz_meth (plainFor_of_name (by decide)) Wd.1 Wd.2.1 Wd.2.2.1 (fun p e R s m args below meth c rr X => ?_)
  unfold tX9_open
  refine zz_cons (k' := 1) rfl (zk_aload_n X dX9_open_0 rfl rfl) ?_
  refine zz_cons (k' := 2) rfl (zk_getf X ff_X9_31 dX9_open_1 rfl) ?_
  refine zz_cons (k' := 3) rfl (zz_Ok_none _ _) ?_
  refine zz_cons (k' := 4) rfl (zz_Ok_none _ _) ?_
  refine zz_cons (k' := 5) rfl (zk_istore X dX9_open_4 (by decide) rfl) ?_
  refine zz_cons (k' := 6) rfl (zz_Ok_none _ _) ?_
  refine zz_cons (k' := 7) rfl (zk_iload X dX9_open_6 rfl) ?_
  refine zz_cons (k' := 8) rfl (zz_Ok_none _ _) ?_
  refine zz_cons (k' := 9) rfl (zk_bipush X dX9_open_8 (by decide) rfl) ?_
  refine zz_cons (k' := 10) rfl (zz_Ok_none _ _) ?_
  refine zz_cons (k' := 11) rfl (zk_icmp_ge X dX9_open_10 (by decide) rfl) ?_
  refine zz_cons (k' := 12) rfl (zz_Ok_none _ _) ?_
  refine zz_cons (k' := 13) rfl (zz_Ok_none _ _) ?_
  refine zz_cons (k' := 14) rfl (zk_iload_n X dX9_open_13 rfl rfl) ?_
  refine zz_cons (k' := 15) rfl (zk_iconst X dX9_open_14 (by decide) rfl) ?_
  refine zz_cons (k' := 16) rfl (zk_icmp_ne X dX9_open_15 (by decide) rfl) ?_
  refine zz_cons (k' := 17) rfl (zz_Ok_none _ _) ?_
  refine zz_cons (k' := 18) rfl (zz_Ok_none _ _) ?_
  refine zz_cons (k' := 19) rfl (zk_aload_n X dX9_open_18 rfl rfl) ?_
  refine zz_cons (k' := 20) rfl (zk_callv X (zz_Cv_of (List.forall_mem_cons.mpr ⟨⟨(RX_8, zzT8, 9), yX9_livingPods, cX9_livingPods, 3, (some .int), 1, 22, rfl, kv_X9_35_8.1, (mm_X9_livingPods Wd).1, by decide, by decide⟩, (fun _ h => absurd h List.not_mem_nil)⟩)) dX9_open_19 rfl) ?_
  refine zz_cons (k' := 21) rfl (zz_Ok_none _ _) ?_
  refine zz_cons (k' := 22) rfl (zz_Ok_none _ _) ?_
  refine zz_cons (k' := 23) rfl (zk_aload_n X dX9_open_22 rfl rfl) ?_
  refine zz_cons (k' := 24) rfl (zk_getf X ff_X9_20 dX9_open_23 rfl) ?_
  refine zz_cons (k' := 25) rfl (zz_Ok_none _ _) ?_
  refine zz_cons (k' := 26) rfl (zz_Ok_none _ _) ?_
  refine zz_cons (k' := 27) rfl (zk_getf X ff_X9_39 dX9_open_26 rfl) ?_
  refine zz_cons (k' := 28) rfl (zz_Ok_none _ _) ?_
  refine zz_cons (k' := 29) rfl (zz_Ok_none _ _) ?_
  refine zz_cons (k' := 30) rfl (zk_icmp_lt X dX9_open_29 (by decide) rfl) ?_
  refine zz_cons (k' := 31) rfl (zz_Ok_none _ _) ?_
  refine zz_cons (k' := 32) rfl (zz_Ok_none _ _) ?_
  refine zz_cons (k' := 33) rfl (zk_iconst X dX9_open_32 (by decide) rfl) ?_
  refine zz_cons (k' := 34) rfl (zk_iret X rfl dX9_open_33) ?_
  refine zz_cons (k' := 35) rfl (zk_aload_n X dX9_open_34 rfl rfl) ?_
  refine zz_cons (k' := 36) rfl (zk_iload_n X dX9_open_35 rfl rfl) ?_
  refine zz_cons (k' := 37) rfl (zk_iload_n X dX9_open_36 rfl rfl) ?_
  refine zz_cons (k' := 38) rfl (zk_callv X (zz_Cv_of (List.forall_mem_cons.mpr ⟨⟨(RX_8, zzT8, 9), yX9_draftNew, cX9_draftNew, 4, none, 0, 0, rfl, kv_X9_42_8.1, (mm_X9_draftNew Wd).1, by decide, by decide⟩, (fun _ h => absurd h List.not_mem_nil)⟩)) dX9_open_37 rfl) ?_
  refine zz_cons (k' := 39) rfl (zz_Ok_none _ _) ?_
  refine zz_cons (k' := 40) rfl (zz_Ok_none _ _) ?_
  refine zz_cons (k' := 41) rfl (zk_aload_n X dX9_open_40 rfl rfl) ?_
  refine zz_cons (k' := 42) rfl (zk_getf X ff_X9_28 dX9_open_41 rfl) ?_
  refine zz_cons (k' := 43) rfl (zz_Ok_none _ _) ?_
  refine zz_cons (k' := 44) rfl (zz_Ok_none _ _) ?_
  refine zz_cons (k' := 45) rfl (zk_bipush X dX9_open_44 (by decide) rfl) ?_
  refine zz_cons (k' := 46) rfl (zz_Ok_none _ _) ?_
  refine zz_cons (k' := 47) rfl (zk_iload X dX9_open_46 rfl) ?_
  refine zz_cons (k' := 48) rfl (zz_Ok_none _ _) ?_
  refine zz_cons (k' := 49) rfl (zk_iast X dX9_open_48 rfl) ?_
  refine zz_cons (k' := 50) rfl (zk_aload_n X dX9_open_49 rfl rfl) ?_
  refine zz_cons (k' := 51) rfl (zk_getf X ff_X9_28 dX9_open_50 rfl) ?_
  refine zz_cons (k' := 52) rfl (zz_Ok_none _ _) ?_
  refine zz_cons (k' := 53) rfl (zz_Ok_none _ _) ?_
  refine zz_cons (k' := 54) rfl (zk_bipush X dX9_open_53 (by decide) rfl) ?_
  refine zz_cons (k' := 55) rfl (zz_Ok_none _ _) ?_
  refine zz_cons (k' := 56) rfl (zk_iload_n X dX9_open_55 rfl rfl) ?_
  refine zz_cons (k' := 57) rfl (zk_iast X dX9_open_56 rfl) ?_
  refine zz_cons (k' := 58) rfl (zk_aload_n X dX9_open_57 rfl rfl) ?_
  refine zz_cons (k' := 59) rfl (zk_getf X ff_X9_28 dX9_open_58 rfl) ?_
  refine zz_cons (k' := 60) rfl (zz_Ok_none _ _) ?_
  refine zz_cons (k' := 61) rfl (zz_Ok_none _ _) ?_
  refine zz_cons (k' := 62) rfl (zk_iconst X dX9_open_61 (by decide) rfl) ?_
  refine zz_cons (k' := 63) rfl (zk_iload X dX9_open_62 rfl) ?_
  refine zz_cons (k' := 64) rfl (zz_Ok_none _ _) ?_
  refine zz_cons (k' := 65) rfl (zk_iast X dX9_open_64 rfl) ?_
  refine zz_cons (k' := 66) rfl (zk_aload_n X dX9_open_65 rfl rfl) ?_
  refine zz_cons (k' := 67) rfl (zk_getf X ff_X9_20 dX9_open_66 rfl) ?_
  refine zz_cons (k' := 68) rfl (zz_Ok_none _ _) ?_
  refine zz_cons (k' := 69) rfl (zz_Ok_none _ _) ?_
  refine zz_cons (k' := 70) rfl (zk_aload_n X dX9_open_69 rfl rfl) ?_
  refine zz_cons (k' := 71) rfl (zk_getf X ff_X9_28 dX9_open_70 rfl) ?_
  refine zz_cons (k' := 72) rfl (zz_Ok_none _ _) ?_
  refine zz_cons (k' := 73) rfl (zz_Ok_none _ _) ?_
  refine zz_cons (k' := 74) rfl (zk_callv X (zz_Cv_of (List.forall_mem_cons.mpr ⟨⟨(RX_0, zzT0, 6), yX0_settles, cX0_settles, 5, (some .boolean), 1, 26, rfl, kv_X9_46_0.1, (mm_X0_settles Wd).1, by decide, by decide⟩, (fun _ h => absurd h List.not_mem_nil)⟩)) dX9_open_73 rfl) ?_
  refine zz_cons (k' := 75) rfl (zz_Ok_none _ _) ?_
  refine zz_cons (k' := 76) rfl (zz_Ok_none _ _) ?_
  refine zz_cons (k' := 77) rfl (zk_if_eq X dX9_open_76 (by decide) rfl) ?_
  refine zz_cons (k' := 78) rfl (zz_Ok_none _ _) ?_
  refine zz_cons (k' := 79) rfl (zz_Ok_none _ _) ?_
  refine zz_cons (k' := 80) rfl (zk_aload_n X dX9_open_79 rfl rfl) ?_
  refine zz_cons (k' := 81) rfl (zk_getf X ff_X9_20 dX9_open_80 rfl) ?_
  refine zz_cons (k' := 82) rfl (zz_Ok_none _ _) ?_
  refine zz_cons (k' := 83) rfl (zz_Ok_none _ _) ?_
  refine zz_cons (k' := 84) rfl (zk_aload_n X dX9_open_83 rfl rfl) ?_
  refine zz_cons (k' := 85) rfl (zk_getf X ff_X9_28 dX9_open_84 rfl) ?_
  refine zz_cons (k' := 86) rfl (zz_Ok_none _ _) ?_
  refine zz_cons (k' := 87) rfl (zz_Ok_none _ _) ?_
  refine zz_cons (k' := 88) rfl (zk_callv X (zz_Cv_of (List.forall_mem_cons.mpr ⟨⟨(RX_0, zzT0, 6), yX0_allows, cX0_allows, 4, (some .boolean), 0, 0, rfl, kv_X9_50_0.1, (mm_X0_allows Wd).1, by decide, by decide⟩, (fun _ h => absurd h List.not_mem_nil)⟩)) dX9_open_87 rfl) ?_
  refine zz_cons (k' := 89) rfl (zz_Ok_none _ _) ?_
  refine zz_cons (k' := 90) rfl (zz_Ok_none _ _) ?_
  refine zz_cons (k' := 91) rfl (zk_if_eq X dX9_open_90 (by decide) rfl) ?_
  refine zz_cons (k' := 92) rfl (zz_Ok_none _ _) ?_
  refine zz_cons (k' := 93) rfl (zz_Ok_none _ _) ?_
  refine zz_cons (k' := 94) rfl (zk_aload_n X dX9_open_93 rfl rfl) ?_
  refine zz_cons (k' := 95) rfl (zk_iload X dX9_open_94 rfl) ?_
  refine zz_cons (k' := 96) rfl (zz_Ok_none _ _) ?_
  refine zz_cons (k' := 97) rfl (zk_callv X (zz_Cv_of (List.forall_mem_cons.mpr ⟨⟨(RX_8, zzT8, 9), yX9_write, cX9_write, 2, (some .boolean), 1, 26, rfl, kv_X9_53_8.1, (mm_X9_write Wd).1, by decide, by decide⟩, (fun _ h => absurd h List.not_mem_nil)⟩)) dX9_open_96 rfl) ?_
  refine zz_cons (k' := 98) rfl (zz_Ok_none _ _) ?_
  refine zz_cons (k' := 99) rfl (zz_Ok_none _ _) ?_
  refine zz_cons (k' := 100) rfl (zk_if_ne X dX9_open_99 (by decide) rfl) ?_
  refine zz_cons (k' := 101) rfl (zz_Ok_none _ _) ?_
  refine zz_cons (k' := 102) rfl (zz_Ok_none _ _) ?_
  refine zz_cons (k' := 103) rfl (zk_iconst X dX9_open_102 (by decide) rfl) ?_
  refine zz_cons (k' := 104) rfl (zk_iret X rfl dX9_open_103) ?_
  refine zz_cons (k' := 105) rfl (zk_aload_n X dX9_open_104 rfl rfl) ?_
  refine zz_cons (k' := 106) rfl (zk_getf X ff_X9_24 dX9_open_105 rfl) ?_
  refine zz_cons (k' := 107) rfl (zz_Ok_none _ _) ?_
  refine zz_cons (k' := 108) rfl (zz_Ok_none _ _) ?_
  refine zz_cons (k' := 109) rfl (zk_iload X dX9_open_108 rfl) ?_
  refine zz_cons (k' := 110) rfl (zz_Ok_none _ _) ?_
  refine zz_cons (k' := 111) rfl (zk_aload_n X dX9_open_110 rfl rfl) ?_
  refine zz_cons (k' := 112) rfl (zk_getf X ff_X9_57 dX9_open_111 rfl) ?_
  refine zz_cons (k' := 113) rfl (zz_Ok_none _ _) ?_
  refine zz_cons (k' := 114) rfl (zz_Ok_none _ _) ?_
  refine zz_cons (k' := 115) rfl (zk_iast X dX9_open_114 rfl) ?_
  refine zz_cons (k' := 116) rfl (zk_iload X dX9_open_115 rfl) ?_
  refine zz_cons (k' := 117) rfl (zz_Ok_none _ _) ?_
  refine zz_cons (k' := 118) rfl (zk_iret X rfl dX9_open_117) ?_
  exact trivial
noncomputable def tX9_applyField : List zzOp := [
  zo_aload 0 1,
  zo_iload 2 2,
  zo_pushI 23 4,
  zo_none,
  zo_callv zzSC (zz_cl [(8, fX10_read)]) 2 7,
  zo_none,
  zo_none,
  zo_iload 3 8,
  zo_calls fX11_hasField 2 11,
  zo_none,
  zo_none,
  zo_if (fun x => decide (¬ x = 0)) 16 14,
  zo_none,
  zo_none,
  zo_pushI 0 15,
  zo_iret true,
  zo_aload 0 17,
  zo_iload 2 18,
  zo_callv zzSC (zz_cl [(8, fX9_draftFrom)]) 1 21,
  zo_none,
  zo_none,
  zo_aload 0 22,
  zo_getf zzSC (zz_kf [8] 6) 25,
  zo_none,
  zo_none,
  zo_iload 3 26,
  zo_iload 4 28,
  zo_none,
  zo_iast zzSC 29,
  zo_aload 0 30,
  zo_getf zzSC (zz_kf [8] 6) 33,
  zo_none,
  zo_none,
  zo_pushI 11 35,
  zo_none,
  zo_iload 3 36,
  zo_ii (fun x y => x + y) 37,
  zo_iload 1 38,
  zo_iast zzSC 39,
  zo_aload 0 40,
  zo_getf zzSC (zz_kf [8] 4) 43,
  zo_none,
  zo_none,
  zo_aload 0 44,
  zo_getf zzSC (zz_kf [8] 6) 47,
  zo_none,
  zo_none,
  zo_callv zzSC (zz_cl [(0, fX0_settles)]) 1 50,
  zo_none,
  zo_none,
  zo_if (fun x => decide (x = 0)) 79 53,
  zo_none,
  zo_none,
  zo_aload 0 54,
  zo_getf zzSC (zz_kf [8] 4) 57,
  zo_none,
  zo_none,
  zo_aload 0 58,
  zo_getf zzSC (zz_kf [8] 6) 61,
  zo_none,
  zo_none,
  zo_callv zzSC (zz_cl [(0, fX0_allows)]) 1 64,
  zo_none,
  zo_none,
  zo_if (fun x => decide (x = 0)) 79 67,
  zo_none,
  zo_none,
  zo_aload 0 68,
  zo_iload 2 69,
  zo_callv zzSC (zz_cl [(8, fX9_write)]) 1 72,
  zo_none,
  zo_none,
  zo_if (fun x => decide (x = 0)) 79 75,
  zo_none,
  zo_none,
  zo_pushI 1 76,
  zo_goto 80,
  zo_none,
  zo_none,
  zo_pushI 0 80,
  zo_iret true]
set_option maxRecDepth 100000 in
theorem tl_X9_applyField : ∀ pc, zz_Tl (tX9_applyField.getD pc zo_none) := by
  refine zz_Tl_mem ?_
  unfold tX9_applyField
  refine List.forall_mem_cons.mpr ⟨(zo_aload_tl _ _), ?_⟩
  refine List.forall_mem_cons.mpr ⟨(zo_iload_tl _ _), ?_⟩
  refine List.forall_mem_cons.mpr ⟨(zo_pushI_tl _ _), ?_⟩
  refine List.forall_mem_cons.mpr ⟨zo_none_tl, ?_⟩
  refine List.forall_mem_cons.mpr ⟨(zo_callv_tl _ _ _ _), ?_⟩
  refine List.forall_mem_cons.mpr ⟨zo_none_tl, ?_⟩
  refine List.forall_mem_cons.mpr ⟨zo_none_tl, ?_⟩
  refine List.forall_mem_cons.mpr ⟨(zo_iload_tl _ _), ?_⟩
  refine List.forall_mem_cons.mpr ⟨(zo_calls_tl _ _ _), ?_⟩
  refine List.forall_mem_cons.mpr ⟨zo_none_tl, ?_⟩
  refine List.forall_mem_cons.mpr ⟨zo_none_tl, ?_⟩
  refine List.forall_mem_cons.mpr ⟨(zo_if_tl _ _ _), ?_⟩
  refine List.forall_mem_cons.mpr ⟨zo_none_tl, ?_⟩
  refine List.forall_mem_cons.mpr ⟨zo_none_tl, ?_⟩
  refine List.forall_mem_cons.mpr ⟨(zo_pushI_tl _ _), ?_⟩
  refine List.forall_mem_cons.mpr ⟨(zo_iret_tl _), ?_⟩
  refine List.forall_mem_cons.mpr ⟨(zo_aload_tl _ _), ?_⟩
  refine List.forall_mem_cons.mpr ⟨(zo_iload_tl _ _), ?_⟩
  refine List.forall_mem_cons.mpr ⟨(zo_callv_tl _ _ _ _), ?_⟩
  refine List.forall_mem_cons.mpr ⟨zo_none_tl, ?_⟩
  refine List.forall_mem_cons.mpr ⟨zo_none_tl, ?_⟩
  refine List.forall_mem_cons.mpr ⟨(zo_aload_tl _ _), ?_⟩
  refine List.forall_mem_cons.mpr ⟨(zo_getf_tl _ _ _), ?_⟩
  refine List.forall_mem_cons.mpr ⟨zo_none_tl, ?_⟩
  refine List.forall_mem_cons.mpr ⟨zo_none_tl, ?_⟩
  refine List.forall_mem_cons.mpr ⟨(zo_iload_tl _ _), ?_⟩
  refine List.forall_mem_cons.mpr ⟨(zo_iload_tl _ _), ?_⟩
  refine List.forall_mem_cons.mpr ⟨zo_none_tl, ?_⟩
  refine List.forall_mem_cons.mpr ⟨(zo_iast_tl _ _), ?_⟩
  refine List.forall_mem_cons.mpr ⟨(zo_aload_tl _ _), ?_⟩
  refine List.forall_mem_cons.mpr ⟨(zo_getf_tl _ _ _), ?_⟩
  refine List.forall_mem_cons.mpr ⟨zo_none_tl, ?_⟩
  refine List.forall_mem_cons.mpr ⟨zo_none_tl, ?_⟩
  refine List.forall_mem_cons.mpr ⟨(zo_pushI_tl _ _), ?_⟩
  refine List.forall_mem_cons.mpr ⟨zo_none_tl, ?_⟩
  refine List.forall_mem_cons.mpr ⟨(zo_iload_tl _ _), ?_⟩
  refine List.forall_mem_cons.mpr ⟨(zo_ii_tl _ _), ?_⟩
  refine List.forall_mem_cons.mpr ⟨(zo_iload_tl _ _), ?_⟩
  refine List.forall_mem_cons.mpr ⟨(zo_iast_tl _ _), ?_⟩
  refine List.forall_mem_cons.mpr ⟨(zo_aload_tl _ _), ?_⟩
  refine List.forall_mem_cons.mpr ⟨(zo_getf_tl _ _ _), ?_⟩
  refine List.forall_mem_cons.mpr ⟨zo_none_tl, ?_⟩
  refine List.forall_mem_cons.mpr ⟨zo_none_tl, ?_⟩
  refine List.forall_mem_cons.mpr ⟨(zo_aload_tl _ _), ?_⟩
  refine List.forall_mem_cons.mpr ⟨(zo_getf_tl _ _ _), ?_⟩
  refine List.forall_mem_cons.mpr ⟨zo_none_tl, ?_⟩
  refine List.forall_mem_cons.mpr ⟨zo_none_tl, ?_⟩
  refine List.forall_mem_cons.mpr ⟨(zo_callv_tl _ _ _ _), ?_⟩
  refine List.forall_mem_cons.mpr ⟨zo_none_tl, ?_⟩
  refine List.forall_mem_cons.mpr ⟨zo_none_tl, ?_⟩
  refine List.forall_mem_cons.mpr ⟨(zo_if_tl _ _ _), ?_⟩
  refine List.forall_mem_cons.mpr ⟨zo_none_tl, ?_⟩
  refine List.forall_mem_cons.mpr ⟨zo_none_tl, ?_⟩
  refine List.forall_mem_cons.mpr ⟨(zo_aload_tl _ _), ?_⟩
  refine List.forall_mem_cons.mpr ⟨(zo_getf_tl _ _ _), ?_⟩
  refine List.forall_mem_cons.mpr ⟨zo_none_tl, ?_⟩
  refine List.forall_mem_cons.mpr ⟨zo_none_tl, ?_⟩
  refine List.forall_mem_cons.mpr ⟨(zo_aload_tl _ _), ?_⟩
  refine List.forall_mem_cons.mpr ⟨(zo_getf_tl _ _ _), ?_⟩
  refine List.forall_mem_cons.mpr ⟨zo_none_tl, ?_⟩
  refine List.forall_mem_cons.mpr ⟨zo_none_tl, ?_⟩
  refine List.forall_mem_cons.mpr ⟨(zo_callv_tl _ _ _ _), ?_⟩
  refine List.forall_mem_cons.mpr ⟨zo_none_tl, ?_⟩
  refine List.forall_mem_cons.mpr ⟨zo_none_tl, ?_⟩
  refine List.forall_mem_cons.mpr ⟨(zo_if_tl _ _ _), ?_⟩
  refine List.forall_mem_cons.mpr ⟨zo_none_tl, ?_⟩
  refine List.forall_mem_cons.mpr ⟨zo_none_tl, ?_⟩
  refine List.forall_mem_cons.mpr ⟨(zo_aload_tl _ _), ?_⟩
  refine List.forall_mem_cons.mpr ⟨(zo_iload_tl _ _), ?_⟩
  refine List.forall_mem_cons.mpr ⟨(zo_callv_tl _ _ _ _), ?_⟩
  refine List.forall_mem_cons.mpr ⟨zo_none_tl, ?_⟩
  refine List.forall_mem_cons.mpr ⟨zo_none_tl, ?_⟩
  refine List.forall_mem_cons.mpr ⟨(zo_if_tl _ _ _), ?_⟩
  refine List.forall_mem_cons.mpr ⟨zo_none_tl, ?_⟩
  refine List.forall_mem_cons.mpr ⟨zo_none_tl, ?_⟩
  refine List.forall_mem_cons.mpr ⟨(zo_pushI_tl _ _), ?_⟩
  refine List.forall_mem_cons.mpr ⟨(zo_goto_tl _), ?_⟩
  refine List.forall_mem_cons.mpr ⟨zo_none_tl, ?_⟩
  refine List.forall_mem_cons.mpr ⟨zo_none_tl, ?_⟩
  refine List.forall_mem_cons.mpr ⟨(zo_pushI_tl _ _), ?_⟩
  refine List.forall_mem_cons.mpr ⟨(zo_iret_tl _), ?_⟩
  exact fun _ h => absurd h List.not_mem_nil
noncomputable def fX9_applyField : zzFn := zz_fn tX9_applyField 5
set_option maxRecDepth 100000 in
set_option maxHeartbeats 4000000 in
theorem mm_X9_applyField {l : Launch} {D : va_G} {cA : Nat → ClassId} {ad : Nat → Nat} {Ex : (Nat → Prop) → State → Heap → Prop} (Wd : zzWC l D cA ad Ex) : zz_Cn l D zzCl cA ad zzSC Ex yX9_applyField cX9_applyField 5 (some .boolean) 2 50 fX9_applyField ∧ zz_Cx l D zzCl cA ad zzSC Ex yX9_applyField cX9_applyField 5 (some .boolean) 2 50 fX9_applyField := by
  refine zz_meth (plainFor_of_name (by decide)) Wd.1 Wd.2.1 Wd.2.2.1 (fun p e R s m args below meth c rr X => ?_)
  unfold tX9_applyField
  refine zz_cons (k' := 1) rfl (zk_aload_n X dX9_applyField_0 rfl rfl) ?_
  refine zz_cons (k' := 2) rfl (zk_iload_n X dX9_applyField_1 rfl rfl) ?_
  refine zz_cons (k' := 3) rfl (zk_bipush X dX9_applyField_2 (by decide) rfl) ?_
  refine zz_cons (k' := 4) rfl (zz_Ok_none _ _) ?_
  refine zz_cons (k' := 5) rfl (zk_callv X (zz_Cv_of (List.forall_mem_cons.mpr ⟨⟨(RX_8, zzT8, 9), yX10_read, cX10_read, 3, (some .int), 0, 0, rfl, kv_X9_63_8, (mm_X10_read Wd).1, by decide, by decide⟩, (fun _ h => absurd h List.not_mem_nil)⟩)) dX9_applyField_4 rfl) ?_
  refine zz_cons (k' := 6) rfl (zz_Ok_none _ _) ?_
  refine zz_cons (k' := 7) rfl (zz_Ok_none _ _) ?_
  refine zz_cons (k' := 8) rfl (zk_iload_n X dX9_applyField_7 rfl rfl) ?_
  refine zz_cons (k' := 9) rfl (zk_calls X ks_X9_67 (mm_X11_hasField Wd).1 (by decide) dX9_applyField_8 rfl) ?_
  refine zz_cons (k' := 10) rfl (zz_Ok_none _ _) ?_
  refine zz_cons (k' := 11) rfl (zz_Ok_none _ _) ?_
  refine zz_cons (k' := 12) rfl (zk_if_ne X dX9_applyField_11 (by decide) rfl) ?_
  refine zz_cons (k' := 13) rfl (zz_Ok_none _ _) ?_
  refine zz_cons (k' := 14) rfl (zz_Ok_none _ _) ?_
  refine zz_cons (k' := 15) rfl (zk_iconst X dX9_applyField_14 (by decide) rfl) ?_
  refine zz_cons (k' := 16) rfl (zk_iret X rfl dX9_applyField_15) ?_
  refine zz_cons (k' := 17) rfl (zk_aload_n X dX9_applyField_16 rfl rfl) ?_
  refine zz_cons (k' := 18) rfl (zk_iload_n X dX9_applyField_17 rfl rfl) ?_
  refine zz_cons (k' := 19) rfl (zk_callv X (zz_Cv_of (List.forall_mem_cons.mpr ⟨⟨(RX_8, zzT8, 9), yX9_draftFrom, cX9_draftFrom, 2, none, 1, 26, rfl, kv_X9_71_8.1, (mm_X9_draftFrom Wd).1, by decide, by decide⟩, (fun _ h => absurd h List.not_mem_nil)⟩)) dX9_applyField_18 rfl) ?_
  refine zz_cons (k' := 20) rfl (zz_Ok_none _ _) ?_
  refine zz_cons (k' := 21) rfl (zz_Ok_none _ _) ?_
  refine zz_cons (k' := 22) rfl (zk_aload_n X dX9_applyField_21 rfl rfl) ?_
  refine zz_cons (k' := 23) rfl (zk_getf X ff_X9_28 dX9_applyField_22 rfl) ?_
  refine zz_cons (k' := 24) rfl (zz_Ok_none _ _) ?_
  refine zz_cons (k' := 25) rfl (zz_Ok_none _ _) ?_
  refine zz_cons (k' := 26) rfl (zk_iload_n X dX9_applyField_25 rfl rfl) ?_
  refine zz_cons (k' := 27) rfl (zk_iload X dX9_applyField_26 rfl) ?_
  refine zz_cons (k' := 28) rfl (zz_Ok_none _ _) ?_
  refine zz_cons (k' := 29) rfl (zk_iast X dX9_applyField_28 rfl) ?_
  refine zz_cons (k' := 30) rfl (zk_aload_n X dX9_applyField_29 rfl rfl) ?_
  refine zz_cons (k' := 31) rfl (zk_getf X ff_X9_28 dX9_applyField_30 rfl) ?_
  refine zz_cons (k' := 32) rfl (zz_Ok_none _ _) ?_
  refine zz_cons (k' := 33) rfl (zz_Ok_none _ _) ?_
  refine zz_cons (k' := 34) rfl (zk_bipush X dX9_applyField_33 (by decide) rfl) ?_
  refine zz_cons (k' := 35) rfl (zz_Ok_none _ _) ?_
  refine zz_cons (k' := 36) rfl (zk_iload_n X dX9_applyField_35 rfl rfl) ?_
  refine zz_cons (k' := 37) rfl (zk_iadd X dX9_applyField_36 rfl) ?_
  refine zz_cons (k' := 38) rfl (zk_iload_n X dX9_applyField_37 rfl rfl) ?_
  refine zz_cons (k' := 39) rfl (zk_iast X dX9_applyField_38 rfl) ?_
  refine zz_cons (k' := 40) rfl (zk_aload_n X dX9_applyField_39 rfl rfl) ?_
  refine zz_cons (k' := 41) rfl (zk_getf X ff_X9_20 dX9_applyField_40 rfl) ?_
  refine zz_cons (k' := 42) rfl (zz_Ok_none _ _) ?_
  refine zz_cons (k' := 43) rfl (zz_Ok_none _ _) ?_
  refine zz_cons (k' := 44) rfl (zk_aload_n X dX9_applyField_43 rfl rfl) ?_
  refine zz_cons (k' := 45) rfl (zk_getf X ff_X9_28 dX9_applyField_44 rfl) ?_
  refine zz_cons (k' := 46) rfl (zz_Ok_none _ _) ?_
  refine zz_cons (k' := 47) rfl (zz_Ok_none _ _) ?_
  refine zz_cons (k' := 48) rfl (zk_callv X (zz_Cv_of (List.forall_mem_cons.mpr ⟨⟨(RX_0, zzT0, 6), yX0_settles, cX0_settles, 5, (some .boolean), 1, 26, rfl, kv_X9_46_0.1, (mm_X0_settles Wd).1, by decide, by decide⟩, (fun _ h => absurd h List.not_mem_nil)⟩)) dX9_applyField_47 rfl) ?_
  refine zz_cons (k' := 49) rfl (zz_Ok_none _ _) ?_
  refine zz_cons (k' := 50) rfl (zz_Ok_none _ _) ?_
  refine zz_cons (k' := 51) rfl (zk_if_eq X dX9_applyField_50 (by decide) rfl) ?_
  refine zz_cons (k' := 52) rfl (zz_Ok_none _ _) ?_
  refine zz_cons (k' := 53) rfl (zz_Ok_none _ _) ?_
  refine zz_cons (k' := 54) rfl (zk_aload_n X dX9_applyField_53 rfl rfl) ?_
  refine zz_cons (k' := 55) rfl (zk_getf X ff_X9_20 dX9_applyField_54 rfl) ?_
  refine zz_cons (k' := 56) rfl (zz_Ok_none _ _) ?_
  refine zz_cons (k' := 57) rfl (zz_Ok_none _ _) ?_
  refine zz_cons (k' := 58) rfl (zk_aload_n X dX9_applyField_57 rfl rfl) ?_
  refine zz_cons (k' := 59) rfl (zk_getf X ff_X9_28 dX9_applyField_58 rfl) ?_
  refine zz_cons (k' := 60) rfl (zz_Ok_none _ _) ?_
  refine zz_cons (k' := 61) rfl (zz_Ok_none _ _) ?_
  refine zz_cons (k' := 62) rfl (zk_callv X (zz_Cv_of (List.forall_mem_cons.mpr ⟨⟨(RX_0, zzT0, 6), yX0_allows, cX0_allows, 4, (some .boolean), 0, 0, rfl, kv_X9_50_0.1, (mm_X0_allows Wd).1, by decide, by decide⟩, (fun _ h => absurd h List.not_mem_nil)⟩)) dX9_applyField_61 rfl) ?_
  refine zz_cons (k' := 63) rfl (zz_Ok_none _ _) ?_
  refine zz_cons (k' := 64) rfl (zz_Ok_none _ _) ?_
  refine zz_cons (k' := 65) rfl (zk_if_eq X dX9_applyField_64 (by decide) rfl) ?_
  refine zz_cons (k' := 66) rfl (zz_Ok_none _ _) ?_
  refine zz_cons (k' := 67) rfl (zz_Ok_none _ _) ?_
  refine zz_cons (k' := 68) rfl (zk_aload_n X dX9_applyField_67 rfl rfl) ?_
  refine zz_cons (k' := 69) rfl (zk_iload_n X dX9_applyField_68 rfl rfl) ?_
  refine zz_cons (k' := 70) rfl (zk_callv X (zz_Cv_of (List.forall_mem_cons.mpr ⟨⟨(RX_8, zzT8, 9), yX9_write, cX9_write, 2, (some .boolean), 1, 26, rfl, kv_X9_53_8.1, (mm_X9_write Wd).1, by decide, by decide⟩, (fun _ h => absurd h List.not_mem_nil)⟩)) dX9_applyField_69 rfl) ?_
  refine zz_cons (k' := 71) rfl (zz_Ok_none _ _) ?_
  refine zz_cons (k' := 72) rfl (zz_Ok_none _ _) ?_
  refine zz_cons (k' := 73) rfl (zk_if_eq X dX9_applyField_72 (by decide) rfl) ?_
  refine zz_cons (k' := 74) rfl (zz_Ok_none _ _) ?_
  refine zz_cons (k' := 75) rfl (zz_Ok_none _ _) ?_
  refine zz_cons (k' := 76) rfl (zk_iconst X dX9_applyField_75 (by decide) rfl) ?_
  refine zz_cons (k' := 77) rfl (zk_goto X dX9_applyField_76 (by decide)) ?_
  refine zz_cons (k' := 78) rfl (zz_Ok_none _ _) ?_
  refine zz_cons (k' := 79) rfl (zz_Ok_none _ _) ?_
  refine zz_cons (k' := 80) rfl (zk_iconst X dX9_applyField_79 (by decide) rfl) ?_
  refine zz_cons (k' := 81) rfl (zk_iret X rfl dX9_applyField_80) ?_
  exact trivial
noncomputable def tX10_countRunning : List zzOp := [
  zo_pushI 0 1,
  zo_istore 2 2,
  zo_pushI 0 3,
  zo_istore 3 4,
  zo_iload 3 5,
  zo_aload 0 6,
  zo_getf zzSC (zz_kf [1, 2, 3, 4, 5, 6, 7, 8] 2) 9,
  zo_none,
  zo_none,
  zo_icmp (fun x y => decide (y ≤ x)) 52 12,
  zo_none,
  zo_none,
  zo_iload 1 13,
  zo_pushI (-1) 14,
  zo_icmp (fun x y => decide (x = y)) 52 17,
  zo_none,
  zo_none,
  zo_iload 2 18,
  zo_aload 0 19,
  zo_iload 3 20,
  zo_pushI 2 21,
  zo_iload 1 22,
  zo_callv zzSC (zz_cl [(1, fX10_isOwned), (2, fX10_isOwned), (3, fX10_isOwned), (4, fX10_isOwned), (5, fX10_isOwned), (6, fX10_isOwned), (7, fX10_isOwned), (8, fX10_isOwned)]) 3 25,
  zo_none,
  zo_none,
  zo_if (fun x => decide (x = 0)) 43 28,
  zo_none,
  zo_none,
  zo_aload 0 29,
  zo_iload 3 30,
  zo_pushI 29 32,
  zo_none,
  zo_callv zzSC (zz_cl [(1, fX10_read), (2, fX10_read), (3, fX10_read), (4, fX10_read), (5, fX10_read), (6, fX10_read), (7, fX10_read), (8, fX10_read)]) 2 35,
  zo_none,
  zo_none,
  zo_pushI 1 36,
  zo_icmp (fun x y => decide (¬ x = y)) 43 39,
  zo_none,
  zo_none,
  zo_pushI 1 40,
  zo_goto 44,
  zo_none,
  zo_none,
  zo_pushI 0 44,
  zo_ii (fun x y => x + y) 45,
  zo_istore 2 46,
  zo_iinc 3 1 49,
  zo_none,
  zo_none,
  zo_goto 4,
  zo_none,
  zo_none,
  zo_iload 2 53,
  zo_iret false]
set_option maxRecDepth 100000 in
theorem tl_X10_countRunning : ∀ pc, zz_Tl (tX10_countRunning.getD pc zo_none) := by
  refine zz_Tl_mem ?_
  unfold tX10_countRunning
  refine List.forall_mem_cons.mpr ⟨(zo_pushI_tl _ _), ?_⟩
  refine List.forall_mem_cons.mpr ⟨(zo_istore_tl _ _), ?_⟩
  refine List.forall_mem_cons.mpr ⟨(zo_pushI_tl _ _), ?_⟩
  refine List.forall_mem_cons.mpr ⟨(zo_istore_tl _ _), ?_⟩
  refine List.forall_mem_cons.mpr ⟨(zo_iload_tl _ _), ?_⟩
  refine List.forall_mem_cons.mpr ⟨(zo_aload_tl _ _), ?_⟩
  refine List.forall_mem_cons.mpr ⟨(zo_getf_tl _ _ _), ?_⟩
  refine List.forall_mem_cons.mpr ⟨zo_none_tl, ?_⟩
  refine List.forall_mem_cons.mpr ⟨zo_none_tl, ?_⟩
  refine List.forall_mem_cons.mpr ⟨(zo_icmp_tl _ _ _), ?_⟩
  refine List.forall_mem_cons.mpr ⟨zo_none_tl, ?_⟩
  refine List.forall_mem_cons.mpr ⟨zo_none_tl, ?_⟩
  refine List.forall_mem_cons.mpr ⟨(zo_iload_tl _ _), ?_⟩
  refine List.forall_mem_cons.mpr ⟨(zo_pushI_tl _ _), ?_⟩
  refine List.forall_mem_cons.mpr ⟨(zo_icmp_tl _ _ _), ?_⟩
  refine List.forall_mem_cons.mpr ⟨zo_none_tl, ?_⟩
  refine List.forall_mem_cons.mpr ⟨zo_none_tl, ?_⟩
  refine List.forall_mem_cons.mpr ⟨(zo_iload_tl _ _), ?_⟩
  refine List.forall_mem_cons.mpr ⟨(zo_aload_tl _ _), ?_⟩
  refine List.forall_mem_cons.mpr ⟨(zo_iload_tl _ _), ?_⟩
  refine List.forall_mem_cons.mpr ⟨(zo_pushI_tl _ _), ?_⟩
  refine List.forall_mem_cons.mpr ⟨(zo_iload_tl _ _), ?_⟩
  refine List.forall_mem_cons.mpr ⟨(zo_callv_tl _ _ _ _), ?_⟩
  refine List.forall_mem_cons.mpr ⟨zo_none_tl, ?_⟩
  refine List.forall_mem_cons.mpr ⟨zo_none_tl, ?_⟩
  refine List.forall_mem_cons.mpr ⟨(zo_if_tl _ _ _), ?_⟩
  refine List.forall_mem_cons.mpr ⟨zo_none_tl, ?_⟩
  refine List.forall_mem_cons.mpr ⟨zo_none_tl, ?_⟩
  refine List.forall_mem_cons.mpr ⟨(zo_aload_tl _ _), ?_⟩
  refine List.forall_mem_cons.mpr ⟨(zo_iload_tl _ _), ?_⟩
  refine List.forall_mem_cons.mpr ⟨(zo_pushI_tl _ _), ?_⟩
  refine List.forall_mem_cons.mpr ⟨zo_none_tl, ?_⟩
  refine List.forall_mem_cons.mpr ⟨(zo_callv_tl _ _ _ _), ?_⟩
  refine List.forall_mem_cons.mpr ⟨zo_none_tl, ?_⟩
  refine List.forall_mem_cons.mpr ⟨zo_none_tl, ?_⟩
  refine List.forall_mem_cons.mpr ⟨(zo_pushI_tl _ _), ?_⟩
  refine List.forall_mem_cons.mpr ⟨(zo_icmp_tl _ _ _), ?_⟩
  refine List.forall_mem_cons.mpr ⟨zo_none_tl, ?_⟩
  refine List.forall_mem_cons.mpr ⟨zo_none_tl, ?_⟩
  refine List.forall_mem_cons.mpr ⟨(zo_pushI_tl _ _), ?_⟩
  refine List.forall_mem_cons.mpr ⟨(zo_goto_tl _), ?_⟩
  refine List.forall_mem_cons.mpr ⟨zo_none_tl, ?_⟩
  refine List.forall_mem_cons.mpr ⟨zo_none_tl, ?_⟩
  refine List.forall_mem_cons.mpr ⟨(zo_pushI_tl _ _), ?_⟩
  refine List.forall_mem_cons.mpr ⟨(zo_ii_tl _ _), ?_⟩
  refine List.forall_mem_cons.mpr ⟨(zo_istore_tl _ _), ?_⟩
  refine List.forall_mem_cons.mpr ⟨(zo_iinc_tl _ _ _), ?_⟩
  refine List.forall_mem_cons.mpr ⟨zo_none_tl, ?_⟩
  refine List.forall_mem_cons.mpr ⟨zo_none_tl, ?_⟩
  refine List.forall_mem_cons.mpr ⟨(zo_goto_tl _), ?_⟩
  refine List.forall_mem_cons.mpr ⟨zo_none_tl, ?_⟩
  refine List.forall_mem_cons.mpr ⟨zo_none_tl, ?_⟩
  refine List.forall_mem_cons.mpr ⟨(zo_iload_tl _ _), ?_⟩
  refine List.forall_mem_cons.mpr ⟨(zo_iret_tl _), ?_⟩
  exact fun _ h => absurd h List.not_mem_nil
noncomputable def fX10_countRunning : zzFn := zz_fn tX10_countRunning 4
set_option maxRecDepth 100000 in
set_option maxHeartbeats 4000000 in
theorem mm_X10_countRunning {l : Launch} {D : va_G} {cA : Nat → ClassId} {ad : Nat → Nat} {Ex : (Nat → Prop) → State → Heap → Prop} (Wd : zzWC l D cA ad Ex) : zz_Cn l D zzCl cA ad zzSC Ex yX10_countRunning cX10_countRunning 4 (some .int) 2 45 fX10_countRunning ∧ zz_Cx l D zzCl cA ad zzSC Ex yX10_countRunning cX10_countRunning 4 (some .int) 2 45 fX10_countRunning := by
  refine zz_meth (plainFor_of_name (by decide)) Wd.1 Wd.2.1 Wd.2.2.1 (fun p e R s m args below meth c rr X => ?_)
  unfold tX10_countRunning
  refine zz_cons (k' := 1) rfl (zk_iconst X dX10_countRunning_0 (by decide) rfl) ?_
  refine zz_cons (k' := 2) rfl (zk_istore_n X dX10_countRunning_1 rfl (by decide) rfl) ?_
  refine zz_cons (k' := 3) rfl (zk_iconst X dX10_countRunning_2 (by decide) rfl) ?_
  refine zz_cons (k' := 4) rfl (zk_istore_n X dX10_countRunning_3 rfl (by decide) rfl) ?_
  refine zz_cons (k' := 5) rfl (zk_iload_n X dX10_countRunning_4 rfl rfl) ?_
  refine zz_cons (k' := 6) rfl (zk_aload_n X dX10_countRunning_5 rfl rfl) ?_
  refine zz_cons (k' := 7) rfl (zk_getf X ff_X10_18 dX10_countRunning_6 rfl) ?_
  refine zz_cons (k' := 8) rfl (zz_Ok_none _ _) ?_
  refine zz_cons (k' := 9) rfl (zz_Ok_none _ _) ?_
  refine zz_cons (k' := 10) rfl (zk_icmp_ge X dX10_countRunning_9 (by decide) rfl) ?_
  refine zz_cons (k' := 11) rfl (zz_Ok_none _ _) ?_
  refine zz_cons (k' := 12) rfl (zz_Ok_none _ _) ?_
  refine zz_cons (k' := 13) rfl (zk_iload_n X dX10_countRunning_12 rfl rfl) ?_
  refine zz_cons (k' := 14) rfl (zk_iconst X dX10_countRunning_13 (by decide) rfl) ?_
  refine zz_cons (k' := 15) rfl (zk_icmp_eq X dX10_countRunning_14 (by decide) rfl) ?_
  refine zz_cons (k' := 16) rfl (zz_Ok_none _ _) ?_
  refine zz_cons (k' := 17) rfl (zz_Ok_none _ _) ?_
  refine zz_cons (k' := 18) rfl (zk_iload_n X dX10_countRunning_17 rfl rfl) ?_
  refine zz_cons (k' := 19) rfl (zk_aload_n X dX10_countRunning_18 rfl rfl) ?_
  refine zz_cons (k' := 20) rfl (zk_iload_n X dX10_countRunning_19 rfl rfl) ?_
  refine zz_cons (k' := 21) rfl (zk_iconst X dX10_countRunning_20 (by decide) rfl) ?_
  refine zz_cons (k' := 22) rfl (zk_iload_n X dX10_countRunning_21 rfl rfl) ?_
  refine zz_cons (k' := 23) rfl (zk_callv X (zz_Cv_of (List.forall_mem_cons.mpr ⟨⟨(RX_1, zzT1, 12), yX10_isOwned, cX10_isOwned, 4, (some .boolean), 1, 22, rfl, kv_X10_35_1, (mm_X10_isOwned Wd).1, by decide, by decide⟩, (List.forall_mem_cons.mpr ⟨⟨(RX_2, zzT2, 12), yX10_isOwned, cX10_isOwned, 4, (some .boolean), 1, 22, rfl, kv_X10_35_2, (mm_X10_isOwned Wd).1, by decide, by decide⟩, (List.forall_mem_cons.mpr ⟨⟨(RX_3, zzT3, 12), yX10_isOwned, cX10_isOwned, 4, (some .boolean), 1, 22, rfl, kv_X10_35_3, (mm_X10_isOwned Wd).1, by decide, by decide⟩, (List.forall_mem_cons.mpr ⟨⟨(RX_4, zzT4, 12), yX10_isOwned, cX10_isOwned, 4, (some .boolean), 1, 22, rfl, kv_X10_35_4, (mm_X10_isOwned Wd).1, by decide, by decide⟩, (List.forall_mem_cons.mpr ⟨⟨(RX_5, zzT5, 12), yX10_isOwned, cX10_isOwned, 4, (some .boolean), 1, 22, rfl, kv_X10_35_5, (mm_X10_isOwned Wd).1, by decide, by decide⟩, (List.forall_mem_cons.mpr ⟨⟨(RX_6, zzT6, 13), yX10_isOwned, cX10_isOwned, 4, (some .boolean), 1, 22, rfl, kv_X10_35_6, (mm_X10_isOwned Wd).1, by decide, by decide⟩, (List.forall_mem_cons.mpr ⟨⟨(RX_7, zzT7, 15), yX10_isOwned, cX10_isOwned, 4, (some .boolean), 1, 22, rfl, kv_X10_35_7, (mm_X10_isOwned Wd).1, by decide, by decide⟩, (List.forall_mem_cons.mpr ⟨⟨(RX_8, zzT8, 9), yX10_isOwned, cX10_isOwned, 4, (some .boolean), 1, 22, rfl, kv_X10_35_8, (mm_X10_isOwned Wd).1, by decide, by decide⟩, (fun _ h => absurd h List.not_mem_nil)⟩)⟩)⟩)⟩)⟩)⟩)⟩)⟩)) dX10_countRunning_22 rfl) ?_
  refine zz_cons (k' := 24) rfl (zz_Ok_none _ _) ?_
  refine zz_cons (k' := 25) rfl (zz_Ok_none _ _) ?_
  refine zz_cons (k' := 26) rfl (zk_if_eq X dX10_countRunning_25 (by decide) rfl) ?_
  refine zz_cons (k' := 27) rfl (zz_Ok_none _ _) ?_
  refine zz_cons (k' := 28) rfl (zz_Ok_none _ _) ?_
  refine zz_cons (k' := 29) rfl (zk_aload_n X dX10_countRunning_28 rfl rfl) ?_
  refine zz_cons (k' := 30) rfl (zk_iload_n X dX10_countRunning_29 rfl rfl) ?_
  refine zz_cons (k' := 31) rfl (zk_bipush X dX10_countRunning_30 (by decide) rfl) ?_
  refine zz_cons (k' := 32) rfl (zz_Ok_none _ _) ?_
  refine zz_cons (k' := 33) rfl (zk_callv X (zz_Cv_of (List.forall_mem_cons.mpr ⟨⟨(RX_1, zzT1, 12), yX10_read, cX10_read, 3, (some .int), 0, 0, rfl, kv_X10_31_1, (mm_X10_read Wd).1, by decide, by decide⟩, (List.forall_mem_cons.mpr ⟨⟨(RX_2, zzT2, 12), yX10_read, cX10_read, 3, (some .int), 0, 0, rfl, kv_X10_31_2, (mm_X10_read Wd).1, by decide, by decide⟩, (List.forall_mem_cons.mpr ⟨⟨(RX_3, zzT3, 12), yX10_read, cX10_read, 3, (some .int), 0, 0, rfl, kv_X10_31_3, (mm_X10_read Wd).1, by decide, by decide⟩, (List.forall_mem_cons.mpr ⟨⟨(RX_4, zzT4, 12), yX10_read, cX10_read, 3, (some .int), 0, 0, rfl, kv_X10_31_4, (mm_X10_read Wd).1, by decide, by decide⟩, (List.forall_mem_cons.mpr ⟨⟨(RX_5, zzT5, 12), yX10_read, cX10_read, 3, (some .int), 0, 0, rfl, kv_X10_31_5, (mm_X10_read Wd).1, by decide, by decide⟩, (List.forall_mem_cons.mpr ⟨⟨(RX_6, zzT6, 13), yX10_read, cX10_read, 3, (some .int), 0, 0, rfl, kv_X10_31_6, (mm_X10_read Wd).1, by decide, by decide⟩, (List.forall_mem_cons.mpr ⟨⟨(RX_7, zzT7, 15), yX10_read, cX10_read, 3, (some .int), 0, 0, rfl, kv_X10_31_7, (mm_X10_read Wd).1, by decide, by decide⟩, (List.forall_mem_cons.mpr ⟨⟨(RX_8, zzT8, 9), yX10_read, cX10_read, 3, (some .int), 0, 0, rfl, kv_X10_31_8, (mm_X10_read Wd).1, by decide, by decide⟩, (fun _ h => absurd h List.not_mem_nil)⟩)⟩)⟩)⟩)⟩)⟩)⟩)⟩)) dX10_countRunning_32 rfl) ?_
  refine zz_cons (k' := 34) rfl (zz_Ok_none _ _) ?_
  refine zz_cons (k' := 35) rfl (zz_Ok_none _ _) ?_
  refine zz_cons (k' := 36) rfl (zk_iconst X dX10_countRunning_35 (by decide) rfl) ?_
  refine zz_cons (k' := 37) rfl (zk_icmp_ne X dX10_countRunning_36 (by decide) rfl) ?_
  refine zz_cons (k' := 38) rfl (zz_Ok_none _ _) ?_
  refine zz_cons (k' := 39) rfl (zz_Ok_none _ _) ?_
  refine zz_cons (k' := 40) rfl (zk_iconst X dX10_countRunning_39 (by decide) rfl) ?_
  refine zz_cons (k' := 41) rfl (zk_goto X dX10_countRunning_40 (by decide)) ?_
  refine zz_cons (k' := 42) rfl (zz_Ok_none _ _) ?_
  refine zz_cons (k' := 43) rfl (zz_Ok_none _ _) ?_
  refine zz_cons (k' := 44) rfl (zk_iconst X dX10_countRunning_43 (by decide) rfl) ?_
  refine zz_cons (k' := 45) rfl (zk_iadd X dX10_countRunning_44 rfl) ?_
  refine zz_cons (k' := 46) rfl (zk_istore_n X dX10_countRunning_45 rfl (by decide) rfl) ?_
  refine zz_cons (k' := 47) rfl (zk_iinc X dX10_countRunning_46 (by decide) (by decide) rfl) ?_
  refine zz_cons (k' := 48) rfl (zz_Ok_none _ _) ?_
  refine zz_cons (k' := 49) rfl (zz_Ok_none _ _) ?_
  refine zz_cons (k' := 50) rfl (zk_goto X dX10_countRunning_49 (by decide)) ?_
  refine zz_cons (k' := 51) rfl (zz_Ok_none _ _) ?_
  refine zz_cons (k' := 52) rfl (zz_Ok_none _ _) ?_
  refine zz_cons (k' := 53) rfl (zk_iload_n X dX10_countRunning_52 rfl rfl) ?_
  refine zz_cons (k' := 54) rfl (zk_iret X rfl dX10_countRunning_53) ?_
  exact trivial
noncomputable def tX10_countRunningOfAll : List zzOp := [
  zo_pushI 0 1,
  zo_istore 2 2,
  zo_pushI 0 3,
  zo_istore 3 4,
  zo_iload 3 5,
  zo_aload 0 6,
  zo_getf zzSC (zz_kf [1, 2, 3, 4, 5, 6, 7, 8] 2) 9,
  zo_none,
  zo_none,
  zo_icmp (fun x y => decide (y ≤ x)) 40 12,
  zo_none,
  zo_none,
  zo_iload 2 13,
  zo_aload 0 14,
  zo_iload 3 15,
  zo_pushI 1 16,
  zo_iload 1 17,
  zo_callv zzSC (zz_cl [(1, fX10_isOwned), (2, fX10_isOwned), (3, fX10_isOwned), (4, fX10_isOwned), (5, fX10_isOwned), (6, fX10_isOwned), (7, fX10_isOwned), (8, fX10_isOwned)]) 3 20,
  zo_none,
  zo_none,
  zo_if (fun x => decide (x = 0)) 31 23,
  zo_none,
  zo_none,
  zo_aload 0 24,
  zo_iload 3 25,
  zo_callv zzSC (zz_cl [(1, fX10_countRunning), (2, fX10_countRunning), (3, fX10_countRunning), (4, fX10_countRunning), (5, fX10_countRunning), (6, fX10_countRunning), (7, fX10_countRunning), (8, fX10_countRunning)]) 1 28,
  zo_none,
  zo_none,
  zo_goto 32,
  zo_none,
  zo_none,
  zo_pushI 0 32,
  zo_ii (fun x y => x + y) 33,
  zo_istore 2 34,
  zo_iinc 3 1 37,
  zo_none,
  zo_none,
  zo_goto 4,
  zo_none,
  zo_none,
  zo_iload 2 41,
  zo_iret false]
set_option maxRecDepth 100000 in
theorem tl_X10_countRunningOfAll : ∀ pc, zz_Tl (tX10_countRunningOfAll.getD pc zo_none) := by
  refine zz_Tl_mem ?_
  unfold tX10_countRunningOfAll
  refine List.forall_mem_cons.mpr ⟨(zo_pushI_tl _ _), ?_⟩
  refine List.forall_mem_cons.mpr ⟨(zo_istore_tl _ _), ?_⟩
  refine List.forall_mem_cons.mpr ⟨(zo_pushI_tl _ _), ?_⟩
  refine List.forall_mem_cons.mpr ⟨(zo_istore_tl _ _), ?_⟩
  refine List.forall_mem_cons.mpr ⟨(zo_iload_tl _ _), ?_⟩
  refine List.forall_mem_cons.mpr ⟨(zo_aload_tl _ _), ?_⟩
  refine List.forall_mem_cons.mpr ⟨(zo_getf_tl _ _ _), ?_⟩
  refine List.forall_mem_cons.mpr ⟨zo_none_tl, ?_⟩
  refine List.forall_mem_cons.mpr ⟨zo_none_tl, ?_⟩
  refine List.forall_mem_cons.mpr ⟨(zo_icmp_tl _ _ _), ?_⟩
  refine List.forall_mem_cons.mpr ⟨zo_none_tl, ?_⟩
  refine List.forall_mem_cons.mpr ⟨zo_none_tl, ?_⟩
  refine List.forall_mem_cons.mpr ⟨(zo_iload_tl _ _), ?_⟩
  refine List.forall_mem_cons.mpr ⟨(zo_aload_tl _ _), ?_⟩
  refine List.forall_mem_cons.mpr ⟨(zo_iload_tl _ _), ?_⟩
  refine List.forall_mem_cons.mpr ⟨(zo_pushI_tl _ _), ?_⟩
  refine List.forall_mem_cons.mpr ⟨(zo_iload_tl _ _), ?_⟩
  refine List.forall_mem_cons.mpr ⟨(zo_callv_tl _ _ _ _), ?_⟩
  refine List.forall_mem_cons.mpr ⟨zo_none_tl, ?_⟩
  refine List.forall_mem_cons.mpr ⟨zo_none_tl, ?_⟩
  refine List.forall_mem_cons.mpr ⟨(zo_if_tl _ _ _), ?_⟩
  refine List.forall_mem_cons.mpr ⟨zo_none_tl, ?_⟩
  refine List.forall_mem_cons.mpr ⟨zo_none_tl, ?_⟩
  refine List.forall_mem_cons.mpr ⟨(zo_aload_tl _ _), ?_⟩
  refine List.forall_mem_cons.mpr ⟨(zo_iload_tl _ _), ?_⟩
  refine List.forall_mem_cons.mpr ⟨(zo_callv_tl _ _ _ _), ?_⟩
  refine List.forall_mem_cons.mpr ⟨zo_none_tl, ?_⟩
  refine List.forall_mem_cons.mpr ⟨zo_none_tl, ?_⟩
  refine List.forall_mem_cons.mpr ⟨(zo_goto_tl _), ?_⟩
  refine List.forall_mem_cons.mpr ⟨zo_none_tl, ?_⟩
  refine List.forall_mem_cons.mpr ⟨zo_none_tl, ?_⟩
  refine List.forall_mem_cons.mpr ⟨(zo_pushI_tl _ _), ?_⟩
  refine List.forall_mem_cons.mpr ⟨(zo_ii_tl _ _), ?_⟩
  refine List.forall_mem_cons.mpr ⟨(zo_istore_tl _ _), ?_⟩
  refine List.forall_mem_cons.mpr ⟨(zo_iinc_tl _ _ _), ?_⟩
  refine List.forall_mem_cons.mpr ⟨zo_none_tl, ?_⟩
  refine List.forall_mem_cons.mpr ⟨zo_none_tl, ?_⟩
  refine List.forall_mem_cons.mpr ⟨(zo_goto_tl _), ?_⟩
  refine List.forall_mem_cons.mpr ⟨zo_none_tl, ?_⟩
  refine List.forall_mem_cons.mpr ⟨zo_none_tl, ?_⟩
  refine List.forall_mem_cons.mpr ⟨(zo_iload_tl _ _), ?_⟩
  refine List.forall_mem_cons.mpr ⟨(zo_iret_tl _), ?_⟩
  exact fun _ h => absurd h List.not_mem_nil
noncomputable def fX10_countRunningOfAll : zzFn := zz_fn tX10_countRunningOfAll 4
set_option maxRecDepth 100000 in
set_option maxHeartbeats 4000000 in
theorem mm_X10_countRunningOfAll {l : Launch} {D : va_G} {cA : Nat → ClassId} {ad : Nat → Nat} {Ex : (Nat → Prop) → State → Heap → Prop} (Wd : zzWC l D cA ad Ex) : zz_Cn l D zzCl cA ad zzSC Ex yX10_countRunningOfAll cX10_countRunningOfAll 4 (some .int) 3 68 fX10_countRunningOfAll ∧ zz_Cx l D zzCl cA ad zzSC Ex yX10_countRunningOfAll cX10_countRunningOfAll 4 (some .int) 3 68 fX10_countRunningOfAll := by
  refine zz_meth (plainFor_of_name (by decide)) Wd.1 Wd.2.1 Wd.2.2.1 (fun p e R s m args below meth c rr X => ?_)
  unfold tX10_countRunningOfAll
  refine zz_cons (k' := 1) rfl (zk_iconst X dX10_countRunningOfAll_0 (by decide) rfl) ?_
  refine zz_cons (k' := 2) rfl (zk_istore_n X dX10_countRunningOfAll_1 rfl (by decide) rfl) ?_
  refine zz_cons (k' := 3) rfl (zk_iconst X dX10_countRunningOfAll_2 (by decide) rfl) ?_
  refine zz_cons (k' := 4) rfl (zk_istore_n X dX10_countRunningOfAll_3 rfl (by decide) rfl) ?_
  refine zz_cons (k' := 5) rfl (zk_iload_n X dX10_countRunningOfAll_4 rfl rfl) ?_
  refine zz_cons (k' := 6) rfl (zk_aload_n X dX10_countRunningOfAll_5 rfl rfl) ?_
  refine zz_cons (k' := 7) rfl (zk_getf X ff_X10_18 dX10_countRunningOfAll_6 rfl) ?_
  refine zz_cons (k' := 8) rfl (zz_Ok_none _ _) ?_
  refine zz_cons (k' := 9) rfl (zz_Ok_none _ _) ?_
  refine zz_cons (k' := 10) rfl (zk_icmp_ge X dX10_countRunningOfAll_9 (by decide) rfl) ?_
  refine zz_cons (k' := 11) rfl (zz_Ok_none _ _) ?_
  refine zz_cons (k' := 12) rfl (zz_Ok_none _ _) ?_
  refine zz_cons (k' := 13) rfl (zk_iload_n X dX10_countRunningOfAll_12 rfl rfl) ?_
  refine zz_cons (k' := 14) rfl (zk_aload_n X dX10_countRunningOfAll_13 rfl rfl) ?_
  refine zz_cons (k' := 15) rfl (zk_iload_n X dX10_countRunningOfAll_14 rfl rfl) ?_
  refine zz_cons (k' := 16) rfl (zk_iconst X dX10_countRunningOfAll_15 (by decide) rfl) ?_
  refine zz_cons (k' := 17) rfl (zk_iload_n X dX10_countRunningOfAll_16 rfl rfl) ?_
  refine zz_cons (k' := 18) rfl (zk_callv X (zz_Cv_of (List.forall_mem_cons.mpr ⟨⟨(RX_1, zzT1, 12), yX10_isOwned, cX10_isOwned, 4, (some .boolean), 1, 22, rfl, kv_X10_35_1, (mm_X10_isOwned Wd).1, by decide, by decide⟩, (List.forall_mem_cons.mpr ⟨⟨(RX_2, zzT2, 12), yX10_isOwned, cX10_isOwned, 4, (some .boolean), 1, 22, rfl, kv_X10_35_2, (mm_X10_isOwned Wd).1, by decide, by decide⟩, (List.forall_mem_cons.mpr ⟨⟨(RX_3, zzT3, 12), yX10_isOwned, cX10_isOwned, 4, (some .boolean), 1, 22, rfl, kv_X10_35_3, (mm_X10_isOwned Wd).1, by decide, by decide⟩, (List.forall_mem_cons.mpr ⟨⟨(RX_4, zzT4, 12), yX10_isOwned, cX10_isOwned, 4, (some .boolean), 1, 22, rfl, kv_X10_35_4, (mm_X10_isOwned Wd).1, by decide, by decide⟩, (List.forall_mem_cons.mpr ⟨⟨(RX_5, zzT5, 12), yX10_isOwned, cX10_isOwned, 4, (some .boolean), 1, 22, rfl, kv_X10_35_5, (mm_X10_isOwned Wd).1, by decide, by decide⟩, (List.forall_mem_cons.mpr ⟨⟨(RX_6, zzT6, 13), yX10_isOwned, cX10_isOwned, 4, (some .boolean), 1, 22, rfl, kv_X10_35_6, (mm_X10_isOwned Wd).1, by decide, by decide⟩, (List.forall_mem_cons.mpr ⟨⟨(RX_7, zzT7, 15), yX10_isOwned, cX10_isOwned, 4, (some .boolean), 1, 22, rfl, kv_X10_35_7, (mm_X10_isOwned Wd).1, by decide, by decide⟩, (List.forall_mem_cons.mpr ⟨⟨(RX_8, zzT8, 9), yX10_isOwned, cX10_isOwned, 4, (some .boolean), 1, 22, rfl, kv_X10_35_8, (mm_X10_isOwned Wd).1, by decide, by decide⟩, (fun _ h => absurd h List.not_mem_nil)⟩)⟩)⟩)⟩)⟩)⟩)⟩)⟩)) dX10_countRunningOfAll_17 rfl) ?_
  refine zz_cons (k' := 19) rfl (zz_Ok_none _ _) ?_
  refine zz_cons (k' := 20) rfl (zz_Ok_none _ _) ?_
  refine zz_cons (k' := 21) rfl (zk_if_eq X dX10_countRunningOfAll_20 (by decide) rfl) ?_
  refine zz_cons (k' := 22) rfl (zz_Ok_none _ _) ?_
  refine zz_cons (k' := 23) rfl (zz_Ok_none _ _) ?_
  refine zz_cons (k' := 24) rfl (zk_aload_n X dX10_countRunningOfAll_23 rfl rfl) ?_
  refine zz_cons (k' := 25) rfl (zk_iload_n X dX10_countRunningOfAll_24 rfl rfl) ?_
  refine zz_cons (k' := 26) rfl (zk_callv X (zz_Cv_of (List.forall_mem_cons.mpr ⟨⟨(RX_1, zzT1, 12), yX10_countRunning, cX10_countRunning, 4, (some .int), 2, 45, rfl, kv_X10_39_1, (mm_X10_countRunning Wd).1, by decide, by decide⟩, (List.forall_mem_cons.mpr ⟨⟨(RX_2, zzT2, 12), yX10_countRunning, cX10_countRunning, 4, (some .int), 2, 45, rfl, kv_X10_39_2, (mm_X10_countRunning Wd).1, by decide, by decide⟩, (List.forall_mem_cons.mpr ⟨⟨(RX_3, zzT3, 12), yX10_countRunning, cX10_countRunning, 4, (some .int), 2, 45, rfl, kv_X10_39_3, (mm_X10_countRunning Wd).1, by decide, by decide⟩, (List.forall_mem_cons.mpr ⟨⟨(RX_4, zzT4, 12), yX10_countRunning, cX10_countRunning, 4, (some .int), 2, 45, rfl, kv_X10_39_4, (mm_X10_countRunning Wd).1, by decide, by decide⟩, (List.forall_mem_cons.mpr ⟨⟨(RX_5, zzT5, 12), yX10_countRunning, cX10_countRunning, 4, (some .int), 2, 45, rfl, kv_X10_39_5, (mm_X10_countRunning Wd).1, by decide, by decide⟩, (List.forall_mem_cons.mpr ⟨⟨(RX_6, zzT6, 13), yX10_countRunning, cX10_countRunning, 4, (some .int), 2, 45, rfl, kv_X10_39_6, (mm_X10_countRunning Wd).1, by decide, by decide⟩, (List.forall_mem_cons.mpr ⟨⟨(RX_7, zzT7, 15), yX10_countRunning, cX10_countRunning, 4, (some .int), 2, 45, rfl, kv_X10_39_7, (mm_X10_countRunning Wd).1, by decide, by decide⟩, (List.forall_mem_cons.mpr ⟨⟨(RX_8, zzT8, 9), yX10_countRunning, cX10_countRunning, 4, (some .int), 2, 45, rfl, kv_X10_39_8, (mm_X10_countRunning Wd).1, by decide, by decide⟩, (fun _ h => absurd h List.not_mem_nil)⟩)⟩)⟩)⟩)⟩)⟩)⟩)⟩)) dX10_countRunningOfAll_25 rfl) ?_
  refine zz_cons (k' := 27) rfl (zz_Ok_none _ _) ?_
  refine zz_cons (k' := 28) rfl (zz_Ok_none _ _) ?_
  refine zz_cons (k' := 29) rfl (zk_goto X dX10_countRunningOfAll_28 (by decide)) ?_
  refine zz_cons (k' := 30) rfl (zz_Ok_none _ _) ?_
  refine zz_cons (k' := 31) rfl (zz_Ok_none _ _) ?_
  refine zz_cons (k' := 32) rfl (zk_iconst X dX10_countRunningOfAll_31 (by decide) rfl) ?_
  refine zz_cons (k' := 33) rfl (zk_iadd X dX10_countRunningOfAll_32 rfl) ?_
  refine zz_cons (k' := 34) rfl (zk_istore_n X dX10_countRunningOfAll_33 rfl (by decide) rfl) ?_
  refine zz_cons (k' := 35) rfl (zk_iinc X dX10_countRunningOfAll_34 (by decide) (by decide) rfl) ?_
  refine zz_cons (k' := 36) rfl (zz_Ok_none _ _) ?_
  refine zz_cons (k' := 37) rfl (zz_Ok_none _ _) ?_
  refine zz_cons (k' := 38) rfl (zk_goto X dX10_countRunningOfAll_37 (by decide)) ?_
  refine zz_cons (k' := 39) rfl (zz_Ok_none _ _) ?_
  refine zz_cons (k' := 40) rfl (zz_Ok_none _ _) ?_
  refine zz_cons (k' := 41) rfl (zk_iload_n X dX10_countRunningOfAll_40 rfl rfl) ?_
  refine zz_cons (k' := 42) rfl (zk_iret X rfl dX10_countRunningOfAll_41) ?_
  exact trivial
noncomputable def tX9_changeBoth : List zzOp := [
  zo_iload 2 1,
  zo_if (fun x => decide (x < 0)) 22 4,
  zo_none,
  zo_none,
  zo_iload 2 5,
  zo_pushI 32 7,
  zo_none,
  zo_icmp (fun x y => decide (y ≤ x)) 22 10,
  zo_none,
  zo_none,
  zo_iload 4 12,
  zo_none,
  zo_if (fun x => decide (x < 0)) 22 15,
  zo_none,
  zo_none,
  zo_iload 4 17,
  zo_none,
  zo_pushI 32 19,
  zo_none,
  zo_icmp (fun x y => decide (x < y)) 24 22,
  zo_none,
  zo_none,
  zo_pushI 0 23,
  zo_iret true,
  zo_aload 0 25,
  zo_iload 1 26,
  zo_callv zzSC (zz_cl [(8, fX9_draftFrom)]) 1 29,
  zo_none,
  zo_none,
  zo_aload 0 30,
  zo_getf zzSC (zz_kf [8] 6) 33,
  zo_none,
  zo_none,
  zo_iload 2 34,
  zo_iload 3 35,
  zo_iast zzSC 36,
  zo_aload 0 37,
  zo_getf zzSC (zz_kf [8] 6) 40,
  zo_none,
  zo_none,
  zo_iload 4 42,
  zo_none,
  zo_iload 5 44,
  zo_none,
  zo_iast zzSC 45,
  zo_aload 0 46,
  zo_iload 1 47,
  zo_callv zzSC (zz_cl [(8, fX9_write)]) 1 50,
  zo_none,
  zo_none,
  zo_iret true]
set_option maxRecDepth 100000 in
theorem tl_X9_changeBoth : ∀ pc, zz_Tl (tX9_changeBoth.getD pc zo_none) := by
  refine zz_Tl_mem ?_
  unfold tX9_changeBoth
  refine List.forall_mem_cons.mpr ⟨(zo_iload_tl _ _), ?_⟩
  refine List.forall_mem_cons.mpr ⟨(zo_if_tl _ _ _), ?_⟩
  refine List.forall_mem_cons.mpr ⟨zo_none_tl, ?_⟩
  refine List.forall_mem_cons.mpr ⟨zo_none_tl, ?_⟩
  refine List.forall_mem_cons.mpr ⟨(zo_iload_tl _ _), ?_⟩
  refine List.forall_mem_cons.mpr ⟨(zo_pushI_tl _ _), ?_⟩
  refine List.forall_mem_cons.mpr ⟨zo_none_tl, ?_⟩
  refine List.forall_mem_cons.mpr ⟨(zo_icmp_tl _ _ _), ?_⟩
  refine List.forall_mem_cons.mpr ⟨zo_none_tl, ?_⟩
  refine List.forall_mem_cons.mpr ⟨zo_none_tl, ?_⟩
  refine List.forall_mem_cons.mpr ⟨(zo_iload_tl _ _), ?_⟩
  refine List.forall_mem_cons.mpr ⟨zo_none_tl, ?_⟩
  refine List.forall_mem_cons.mpr ⟨(zo_if_tl _ _ _), ?_⟩
  refine List.forall_mem_cons.mpr ⟨zo_none_tl, ?_⟩
  refine List.forall_mem_cons.mpr ⟨zo_none_tl, ?_⟩
  refine List.forall_mem_cons.mpr ⟨(zo_iload_tl _ _), ?_⟩
  refine List.forall_mem_cons.mpr ⟨zo_none_tl, ?_⟩
  refine List.forall_mem_cons.mpr ⟨(zo_pushI_tl _ _), ?_⟩
  refine List.forall_mem_cons.mpr ⟨zo_none_tl, ?_⟩
  refine List.forall_mem_cons.mpr ⟨(zo_icmp_tl _ _ _), ?_⟩
  refine List.forall_mem_cons.mpr ⟨zo_none_tl, ?_⟩
  refine List.forall_mem_cons.mpr ⟨zo_none_tl, ?_⟩
  refine List.forall_mem_cons.mpr ⟨(zo_pushI_tl _ _), ?_⟩
  refine List.forall_mem_cons.mpr ⟨(zo_iret_tl _), ?_⟩
  refine List.forall_mem_cons.mpr ⟨(zo_aload_tl _ _), ?_⟩
  refine List.forall_mem_cons.mpr ⟨(zo_iload_tl _ _), ?_⟩
  refine List.forall_mem_cons.mpr ⟨(zo_callv_tl _ _ _ _), ?_⟩
  refine List.forall_mem_cons.mpr ⟨zo_none_tl, ?_⟩
  refine List.forall_mem_cons.mpr ⟨zo_none_tl, ?_⟩
  refine List.forall_mem_cons.mpr ⟨(zo_aload_tl _ _), ?_⟩
  refine List.forall_mem_cons.mpr ⟨(zo_getf_tl _ _ _), ?_⟩
  refine List.forall_mem_cons.mpr ⟨zo_none_tl, ?_⟩
  refine List.forall_mem_cons.mpr ⟨zo_none_tl, ?_⟩
  refine List.forall_mem_cons.mpr ⟨(zo_iload_tl _ _), ?_⟩
  refine List.forall_mem_cons.mpr ⟨(zo_iload_tl _ _), ?_⟩
  refine List.forall_mem_cons.mpr ⟨(zo_iast_tl _ _), ?_⟩
  refine List.forall_mem_cons.mpr ⟨(zo_aload_tl _ _), ?_⟩
  refine List.forall_mem_cons.mpr ⟨(zo_getf_tl _ _ _), ?_⟩
  refine List.forall_mem_cons.mpr ⟨zo_none_tl, ?_⟩
  refine List.forall_mem_cons.mpr ⟨zo_none_tl, ?_⟩
  refine List.forall_mem_cons.mpr ⟨(zo_iload_tl _ _), ?_⟩
  refine List.forall_mem_cons.mpr ⟨zo_none_tl, ?_⟩
  refine List.forall_mem_cons.mpr ⟨(zo_iload_tl _ _), ?_⟩
  refine List.forall_mem_cons.mpr ⟨zo_none_tl, ?_⟩
  refine List.forall_mem_cons.mpr ⟨(zo_iast_tl _ _), ?_⟩
  refine List.forall_mem_cons.mpr ⟨(zo_aload_tl _ _), ?_⟩
  refine List.forall_mem_cons.mpr ⟨(zo_iload_tl _ _), ?_⟩
  refine List.forall_mem_cons.mpr ⟨(zo_callv_tl _ _ _ _), ?_⟩
  refine List.forall_mem_cons.mpr ⟨zo_none_tl, ?_⟩
  refine List.forall_mem_cons.mpr ⟨zo_none_tl, ?_⟩
  refine List.forall_mem_cons.mpr ⟨(zo_iret_tl _), ?_⟩
  exact fun _ h => absurd h List.not_mem_nil
noncomputable def fX9_changeBoth : zzFn := zz_fn tX9_changeBoth 6
set_option maxRecDepth 100000 in
set_option maxHeartbeats 4000000 in
theorem mm_X9_changeBoth {l : Launch} {D : va_G} {cA : Nat → ClassId} {ad : Nat → Nat} {Ex : (Nat → Prop) → State → Heap → Prop} (Wd : zzWC l D cA ad Ex) : zz_Cn l D zzCl cA ad zzSC Ex yX9_changeBoth cX9_changeBoth 6 (some .boolean) 2 47 fX9_changeBoth ∧ zz_Cx l D zzCl cA ad zzSC Ex yX9_changeBoth cX9_changeBoth 6 (some .boolean) 2 47 fX9_changeBoth := by
  refine zz_meth (plainFor_of_name (by decide)) Wd.1 Wd.2.1 Wd.2.2.1 (fun p e R s m args below meth c rr X => ?_)
  unfold tX9_changeBoth
  refine zz_cons (k' := 1) rfl (zk_iload_n X dX9_changeBoth_0 rfl rfl) ?_
  refine zz_cons (k' := 2) rfl (zk_if_lt X dX9_changeBoth_1 (by decide) rfl) ?_
  refine zz_cons (k' := 3) rfl (zz_Ok_none _ _) ?_
  refine zz_cons (k' := 4) rfl (zz_Ok_none _ _) ?_
  refine zz_cons (k' := 5) rfl (zk_iload_n X dX9_changeBoth_4 rfl rfl) ?_
  refine zz_cons (k' := 6) rfl (zk_bipush X dX9_changeBoth_5 (by decide) rfl) ?_
  refine zz_cons (k' := 7) rfl (zz_Ok_none _ _) ?_
  refine zz_cons (k' := 8) rfl (zk_icmp_ge X dX9_changeBoth_7 (by decide) rfl) ?_
  refine zz_cons (k' := 9) rfl (zz_Ok_none _ _) ?_
  refine zz_cons (k' := 10) rfl (zz_Ok_none _ _) ?_
  refine zz_cons (k' := 11) rfl (zk_iload X dX9_changeBoth_10 rfl) ?_
  refine zz_cons (k' := 12) rfl (zz_Ok_none _ _) ?_
  refine zz_cons (k' := 13) rfl (zk_if_lt X dX9_changeBoth_12 (by decide) rfl) ?_
  refine zz_cons (k' := 14) rfl (zz_Ok_none _ _) ?_
  refine zz_cons (k' := 15) rfl (zz_Ok_none _ _) ?_
  refine zz_cons (k' := 16) rfl (zk_iload X dX9_changeBoth_15 rfl) ?_
  refine zz_cons (k' := 17) rfl (zz_Ok_none _ _) ?_
  refine zz_cons (k' := 18) rfl (zk_bipush X dX9_changeBoth_17 (by decide) rfl) ?_
  refine zz_cons (k' := 19) rfl (zz_Ok_none _ _) ?_
  refine zz_cons (k' := 20) rfl (zk_icmp_lt X dX9_changeBoth_19 (by decide) rfl) ?_
  refine zz_cons (k' := 21) rfl (zz_Ok_none _ _) ?_
  refine zz_cons (k' := 22) rfl (zz_Ok_none _ _) ?_
  refine zz_cons (k' := 23) rfl (zk_iconst X dX9_changeBoth_22 (by decide) rfl) ?_
  refine zz_cons (k' := 24) rfl (zk_iret X rfl dX9_changeBoth_23) ?_
  refine zz_cons (k' := 25) rfl (zk_aload_n X dX9_changeBoth_24 rfl rfl) ?_
  refine zz_cons (k' := 26) rfl (zk_iload_n X dX9_changeBoth_25 rfl rfl) ?_
  refine zz_cons (k' := 27) rfl (zk_callv X (zz_Cv_of (List.forall_mem_cons.mpr ⟨⟨(RX_8, zzT8, 9), yX9_draftFrom, cX9_draftFrom, 2, none, 1, 26, rfl, kv_X9_71_8.1, (mm_X9_draftFrom Wd).1, by decide, by decide⟩, (fun _ h => absurd h List.not_mem_nil)⟩)) dX9_changeBoth_26 rfl) ?_
  refine zz_cons (k' := 28) rfl (zz_Ok_none _ _) ?_
  refine zz_cons (k' := 29) rfl (zz_Ok_none _ _) ?_
  refine zz_cons (k' := 30) rfl (zk_aload_n X dX9_changeBoth_29 rfl rfl) ?_
  refine zz_cons (k' := 31) rfl (zk_getf X ff_X9_28 dX9_changeBoth_30 rfl) ?_
  refine zz_cons (k' := 32) rfl (zz_Ok_none _ _) ?_
  refine zz_cons (k' := 33) rfl (zz_Ok_none _ _) ?_
  refine zz_cons (k' := 34) rfl (zk_iload_n X dX9_changeBoth_33 rfl rfl) ?_
  refine zz_cons (k' := 35) rfl (zk_iload_n X dX9_changeBoth_34 rfl rfl) ?_
  refine zz_cons (k' := 36) rfl (zk_iast X dX9_changeBoth_35 rfl) ?_
  refine zz_cons (k' := 37) rfl (zk_aload_n X dX9_changeBoth_36 rfl rfl) ?_
  refine zz_cons (k' := 38) rfl (zk_getf X ff_X9_28 dX9_changeBoth_37 rfl) ?_
  refine zz_cons (k' := 39) rfl (zz_Ok_none _ _) ?_
  refine zz_cons (k' := 40) rfl (zz_Ok_none _ _) ?_
  refine zz_cons (k' := 41) rfl (zk_iload X dX9_changeBoth_40 rfl) ?_
  refine zz_cons (k' := 42) rfl (zz_Ok_none _ _) ?_
  refine zz_cons (k' := 43) rfl (zk_iload X dX9_changeBoth_42 rfl) ?_
  refine zz_cons (k' := 44) rfl (zz_Ok_none _ _) ?_
  refine zz_cons (k' := 45) rfl (zk_iast X dX9_changeBoth_44 rfl) ?_
  refine zz_cons (k' := 46) rfl (zk_aload_n X dX9_changeBoth_45 rfl rfl) ?_
  refine zz_cons (k' := 47) rfl (zk_iload_n X dX9_changeBoth_46 rfl rfl) ?_
  refine zz_cons (k' := 48) rfl (zk_callv X (zz_Cv_of (List.forall_mem_cons.mpr ⟨⟨(RX_8, zzT8, 9), yX9_write, cX9_write, 2, (some .boolean), 1, 26, rfl, kv_X9_53_8.1, (mm_X9_write Wd).1, by decide, by decide⟩, (fun _ h => absurd h List.not_mem_nil)⟩)) dX9_changeBoth_47 rfl) ?_
  refine zz_cons (k' := 49) rfl (zz_Ok_none _ _) ?_
  refine zz_cons (k' := 50) rfl (zz_Ok_none _ _) ?_
  refine zz_cons (k' := 51) rfl (zk_iret X rfl dX9_changeBoth_50) ?_
  exact trivial
noncomputable def tX10_needOf : List zzOp := [
  zo_pushI 1 1,
  zo_aload 0 2,
  zo_iload 1 3,
  zo_pushI 1 4,
  zo_callv zzSC (zz_cl [(1, fX10_read), (2, fX10_read), (3, fX10_read), (4, fX10_read), (5, fX10_read), (6, fX10_read), (7, fX10_read), (8, fX10_read)]) 2 7,
  zo_none,
  zo_none,
  zo_pushI 3 8,
  zo_iid (fun x y => x - x / y * y) 9,
  zo_ii (fun x y => x + y) 10,
  zo_iret false]
set_option maxRecDepth 100000 in
theorem tl_X10_needOf : ∀ pc, zz_Tl (tX10_needOf.getD pc zo_none) := by
  refine zz_Tl_mem ?_
  unfold tX10_needOf
  refine List.forall_mem_cons.mpr ⟨(zo_pushI_tl _ _), ?_⟩
  refine List.forall_mem_cons.mpr ⟨(zo_aload_tl _ _), ?_⟩
  refine List.forall_mem_cons.mpr ⟨(zo_iload_tl _ _), ?_⟩
  refine List.forall_mem_cons.mpr ⟨(zo_pushI_tl _ _), ?_⟩
  refine List.forall_mem_cons.mpr ⟨(zo_callv_tl _ _ _ _), ?_⟩
  refine List.forall_mem_cons.mpr ⟨zo_none_tl, ?_⟩
  refine List.forall_mem_cons.mpr ⟨zo_none_tl, ?_⟩
  refine List.forall_mem_cons.mpr ⟨(zo_pushI_tl _ _), ?_⟩
  refine List.forall_mem_cons.mpr ⟨(zo_iid_tl _ _), ?_⟩
  refine List.forall_mem_cons.mpr ⟨(zo_ii_tl _ _), ?_⟩
  refine List.forall_mem_cons.mpr ⟨(zo_iret_tl _), ?_⟩
  exact fun _ h => absurd h List.not_mem_nil
noncomputable def fX10_needOf : zzFn := zz_fn tX10_needOf 2
set_option maxRecDepth 100000 in
set_option maxHeartbeats 4000000 in
theorem mm_X10_needOf {l : Launch} {D : va_G} {cA : Nat → ClassId} {ad : Nat → Nat} {Ex : (Nat → Prop) → State → Heap → Prop} (Wd : zzWC l D cA ad Ex) : zz_Cn l D zzCl cA ad zzSC Ex yX10_needOf cX10_needOf 2 (some .int) 1 22 fX10_needOf ∧ zz_Cx l D zzCl cA ad zzSC Ex yX10_needOf cX10_needOf 2 (some .int) 1 22 fX10_needOf := by
  refine zz_meth (plainFor_of_name (by decide)) Wd.1 Wd.2.1 Wd.2.2.1 (fun p e R s m args below meth c rr X => ?_)
  unfold tX10_needOf
  refine zz_cons (k' := 1) rfl (zk_iconst X dX10_needOf_0 (by decide) rfl) ?_
  refine zz_cons (k' := 2) rfl (zk_aload_n X dX10_needOf_1 rfl rfl) ?_
  refine zz_cons (k' := 3) rfl (zk_iload_n X dX10_needOf_2 rfl rfl) ?_
  refine zz_cons (k' := 4) rfl (zk_iconst X dX10_needOf_3 (by decide) rfl) ?_
  refine zz_cons (k' := 5) rfl (zk_callv X (zz_Cv_of (List.forall_mem_cons.mpr ⟨⟨(RX_1, zzT1, 12), yX10_read, cX10_read, 3, (some .int), 0, 0, rfl, kv_X10_31_1, (mm_X10_read Wd).1, by decide, by decide⟩, (List.forall_mem_cons.mpr ⟨⟨(RX_2, zzT2, 12), yX10_read, cX10_read, 3, (some .int), 0, 0, rfl, kv_X10_31_2, (mm_X10_read Wd).1, by decide, by decide⟩, (List.forall_mem_cons.mpr ⟨⟨(RX_3, zzT3, 12), yX10_read, cX10_read, 3, (some .int), 0, 0, rfl, kv_X10_31_3, (mm_X10_read Wd).1, by decide, by decide⟩, (List.forall_mem_cons.mpr ⟨⟨(RX_4, zzT4, 12), yX10_read, cX10_read, 3, (some .int), 0, 0, rfl, kv_X10_31_4, (mm_X10_read Wd).1, by decide, by decide⟩, (List.forall_mem_cons.mpr ⟨⟨(RX_5, zzT5, 12), yX10_read, cX10_read, 3, (some .int), 0, 0, rfl, kv_X10_31_5, (mm_X10_read Wd).1, by decide, by decide⟩, (List.forall_mem_cons.mpr ⟨⟨(RX_6, zzT6, 13), yX10_read, cX10_read, 3, (some .int), 0, 0, rfl, kv_X10_31_6, (mm_X10_read Wd).1, by decide, by decide⟩, (List.forall_mem_cons.mpr ⟨⟨(RX_7, zzT7, 15), yX10_read, cX10_read, 3, (some .int), 0, 0, rfl, kv_X10_31_7, (mm_X10_read Wd).1, by decide, by decide⟩, (List.forall_mem_cons.mpr ⟨⟨(RX_8, zzT8, 9), yX10_read, cX10_read, 3, (some .int), 0, 0, rfl, kv_X10_31_8, (mm_X10_read Wd).1, by decide, by decide⟩, (fun _ h => absurd h List.not_mem_nil)⟩)⟩)⟩)⟩)⟩)⟩)⟩)⟩)) dX10_needOf_4 rfl) ?_
  refine zz_cons (k' := 6) rfl (zz_Ok_none _ _) ?_
  refine zz_cons (k' := 7) rfl (zz_Ok_none _ _) ?_
  refine zz_cons (k' := 8) rfl (zk_iconst X dX10_needOf_7 (by decide) rfl) ?_
  refine zz_cons (k' := 9) rfl (zk_irem X dX10_needOf_8 rfl) ?_
  refine zz_cons (k' := 10) rfl (zk_iadd X dX10_needOf_9 rfl) ?_
  refine zz_cons (k' := 11) rfl (zk_iret X rfl dX10_needOf_10) ?_
  exact trivial
noncomputable def tX9_applyBoth : List zzOp := [
  zo_aload 0 1,
  zo_iload 2 2,
  zo_callv zzSC (zz_cl [(8, fX9_draftFrom)]) 1 5,
  zo_none,
  zo_none,
  zo_aload 0 6,
  zo_getf zzSC (zz_kf [8] 6) 9,
  zo_none,
  zo_none,
  zo_pushI 2 10,
  zo_iload 3 11,
  zo_iast zzSC 12,
  zo_aload 0 13,
  zo_getf zzSC (zz_kf [8] 6) 16,
  zo_none,
  zo_none,
  zo_pushI 3 17,
  zo_iload 4 19,
  zo_none,
  zo_iast zzSC 20,
  zo_aload 0 21,
  zo_getf zzSC (zz_kf [8] 6) 24,
  zo_none,
  zo_none,
  zo_pushI 13 26,
  zo_none,
  zo_iload 1 27,
  zo_iast zzSC 28,
  zo_aload 0 29,
  zo_getf zzSC (zz_kf [8] 6) 32,
  zo_none,
  zo_none,
  zo_pushI 14 34,
  zo_none,
  zo_iload 1 35,
  zo_iast zzSC 36,
  zo_aload 0 37,
  zo_getf zzSC (zz_kf [8] 4) 40,
  zo_none,
  zo_none,
  zo_aload 0 41,
  zo_getf zzSC (zz_kf [8] 6) 44,
  zo_none,
  zo_none,
  zo_callv zzSC (zz_cl [(0, fX0_settles)]) 1 47,
  zo_none,
  zo_none,
  zo_if (fun x => decide (x = 0)) 76 50,
  zo_none,
  zo_none,
  zo_aload 0 51,
  zo_getf zzSC (zz_kf [8] 4) 54,
  zo_none,
  zo_none,
  zo_aload 0 55,
  zo_getf zzSC (zz_kf [8] 6) 58,
  zo_none,
  zo_none,
  zo_callv zzSC (zz_cl [(0, fX0_allows)]) 1 61,
  zo_none,
  zo_none,
  zo_if (fun x => decide (x = 0)) 76 64,
  zo_none,
  zo_none,
  zo_aload 0 65,
  zo_iload 2 66,
  zo_callv zzSC (zz_cl [(8, fX9_write)]) 1 69,
  zo_none,
  zo_none,
  zo_if (fun x => decide (x = 0)) 76 72,
  zo_none,
  zo_none,
  zo_pushI 1 73,
  zo_goto 77,
  zo_none,
  zo_none,
  zo_pushI 0 77,
  zo_iret true]
set_option maxRecDepth 100000 in
theorem tl_X9_applyBoth : ∀ pc, zz_Tl (tX9_applyBoth.getD pc zo_none) := by
  refine zz_Tl_mem ?_
  unfold tX9_applyBoth
  refine List.forall_mem_cons.mpr ⟨(zo_aload_tl _ _), ?_⟩
  refine List.forall_mem_cons.mpr ⟨(zo_iload_tl _ _), ?_⟩
  refine List.forall_mem_cons.mpr ⟨(zo_callv_tl _ _ _ _), ?_⟩
  refine List.forall_mem_cons.mpr ⟨zo_none_tl, ?_⟩
  refine List.forall_mem_cons.mpr ⟨zo_none_tl, ?_⟩
  refine List.forall_mem_cons.mpr ⟨(zo_aload_tl _ _), ?_⟩
  refine List.forall_mem_cons.mpr ⟨(zo_getf_tl _ _ _), ?_⟩
  refine List.forall_mem_cons.mpr ⟨zo_none_tl, ?_⟩
  refine List.forall_mem_cons.mpr ⟨zo_none_tl, ?_⟩
  refine List.forall_mem_cons.mpr ⟨(zo_pushI_tl _ _), ?_⟩
  refine List.forall_mem_cons.mpr ⟨(zo_iload_tl _ _), ?_⟩
  refine List.forall_mem_cons.mpr ⟨(zo_iast_tl _ _), ?_⟩
  refine List.forall_mem_cons.mpr ⟨(zo_aload_tl _ _), ?_⟩
  refine List.forall_mem_cons.mpr ⟨(zo_getf_tl _ _ _), ?_⟩
  refine List.forall_mem_cons.mpr ⟨zo_none_tl, ?_⟩
  refine List.forall_mem_cons.mpr ⟨zo_none_tl, ?_⟩
  refine List.forall_mem_cons.mpr ⟨(zo_pushI_tl _ _), ?_⟩
  refine List.forall_mem_cons.mpr ⟨(zo_iload_tl _ _), ?_⟩
  refine List.forall_mem_cons.mpr ⟨zo_none_tl, ?_⟩
  refine List.forall_mem_cons.mpr ⟨(zo_iast_tl _ _), ?_⟩
  refine List.forall_mem_cons.mpr ⟨(zo_aload_tl _ _), ?_⟩
  refine List.forall_mem_cons.mpr ⟨(zo_getf_tl _ _ _), ?_⟩
  refine List.forall_mem_cons.mpr ⟨zo_none_tl, ?_⟩
  refine List.forall_mem_cons.mpr ⟨zo_none_tl, ?_⟩
  refine List.forall_mem_cons.mpr ⟨(zo_pushI_tl _ _), ?_⟩
  refine List.forall_mem_cons.mpr ⟨zo_none_tl, ?_⟩
  refine List.forall_mem_cons.mpr ⟨(zo_iload_tl _ _), ?_⟩
  refine List.forall_mem_cons.mpr ⟨(zo_iast_tl _ _), ?_⟩
  refine List.forall_mem_cons.mpr ⟨(zo_aload_tl _ _), ?_⟩
  refine List.forall_mem_cons.mpr ⟨(zo_getf_tl _ _ _), ?_⟩
  refine List.forall_mem_cons.mpr ⟨zo_none_tl, ?_⟩
  refine List.forall_mem_cons.mpr ⟨zo_none_tl, ?_⟩
  refine List.forall_mem_cons.mpr ⟨(zo_pushI_tl _ _), ?_⟩
  refine List.forall_mem_cons.mpr ⟨zo_none_tl, ?_⟩
  refine List.forall_mem_cons.mpr ⟨(zo_iload_tl _ _), ?_⟩
  refine List.forall_mem_cons.mpr ⟨(zo_iast_tl _ _), ?_⟩
  refine List.forall_mem_cons.mpr ⟨(zo_aload_tl _ _), ?_⟩
  refine List.forall_mem_cons.mpr ⟨(zo_getf_tl _ _ _), ?_⟩
  refine List.forall_mem_cons.mpr ⟨zo_none_tl, ?_⟩
  refine List.forall_mem_cons.mpr ⟨zo_none_tl, ?_⟩
  refine List.forall_mem_cons.mpr ⟨(zo_aload_tl _ _), ?_⟩
  refine List.forall_mem_cons.mpr ⟨(zo_getf_tl _ _ _), ?_⟩
  refine List.forall_mem_cons.mpr ⟨zo_none_tl, ?_⟩
  refine List.forall_mem_cons.mpr ⟨zo_none_tl, ?_⟩
  refine List.forall_mem_cons.mpr ⟨(zo_callv_tl _ _ _ _), ?_⟩
  refine List.forall_mem_cons.mpr ⟨zo_none_tl, ?_⟩
  refine List.forall_mem_cons.mpr ⟨zo_none_tl, ?_⟩
  refine List.forall_mem_cons.mpr ⟨(zo_if_tl _ _ _), ?_⟩
  refine List.forall_mem_cons.mpr ⟨zo_none_tl, ?_⟩
  refine List.forall_mem_cons.mpr ⟨zo_none_tl, ?_⟩
  refine List.forall_mem_cons.mpr ⟨(zo_aload_tl _ _), ?_⟩
  refine List.forall_mem_cons.mpr ⟨(zo_getf_tl _ _ _), ?_⟩
  refine List.forall_mem_cons.mpr ⟨zo_none_tl, ?_⟩
  refine List.forall_mem_cons.mpr ⟨zo_none_tl, ?_⟩
  refine List.forall_mem_cons.mpr ⟨(zo_aload_tl _ _), ?_⟩
  refine List.forall_mem_cons.mpr ⟨(zo_getf_tl _ _ _), ?_⟩
  refine List.forall_mem_cons.mpr ⟨zo_none_tl, ?_⟩
  refine List.forall_mem_cons.mpr ⟨zo_none_tl, ?_⟩
  refine List.forall_mem_cons.mpr ⟨(zo_callv_tl _ _ _ _), ?_⟩
  refine List.forall_mem_cons.mpr ⟨zo_none_tl, ?_⟩
  refine List.forall_mem_cons.mpr ⟨zo_none_tl, ?_⟩
  refine List.forall_mem_cons.mpr ⟨(zo_if_tl _ _ _), ?_⟩
  refine List.forall_mem_cons.mpr ⟨zo_none_tl, ?_⟩
  refine List.forall_mem_cons.mpr ⟨zo_none_tl, ?_⟩
  refine List.forall_mem_cons.mpr ⟨(zo_aload_tl _ _), ?_⟩
  refine List.forall_mem_cons.mpr ⟨(zo_iload_tl _ _), ?_⟩
  refine List.forall_mem_cons.mpr ⟨(zo_callv_tl _ _ _ _), ?_⟩
  refine List.forall_mem_cons.mpr ⟨zo_none_tl, ?_⟩
  refine List.forall_mem_cons.mpr ⟨zo_none_tl, ?_⟩
  refine List.forall_mem_cons.mpr ⟨(zo_if_tl _ _ _), ?_⟩
  refine List.forall_mem_cons.mpr ⟨zo_none_tl, ?_⟩
  refine List.forall_mem_cons.mpr ⟨zo_none_tl, ?_⟩
  refine List.forall_mem_cons.mpr ⟨(zo_pushI_tl _ _), ?_⟩
  refine List.forall_mem_cons.mpr ⟨(zo_goto_tl _), ?_⟩
  refine List.forall_mem_cons.mpr ⟨zo_none_tl, ?_⟩
  refine List.forall_mem_cons.mpr ⟨zo_none_tl, ?_⟩
  refine List.forall_mem_cons.mpr ⟨(zo_pushI_tl _ _), ?_⟩
  refine List.forall_mem_cons.mpr ⟨(zo_iret_tl _), ?_⟩
  exact fun _ h => absurd h List.not_mem_nil
noncomputable def fX9_applyBoth : zzFn := zz_fn tX9_applyBoth 5
set_option maxRecDepth 100000 in
set_option maxHeartbeats 4000000 in
theorem mm_X9_applyBoth {l : Launch} {D : va_G} {cA : Nat → ClassId} {ad : Nat → Nat} {Ex : (Nat → Prop) → State → Heap → Prop} (Wd : zzWC l D cA ad Ex) : zz_Cn l D zzCl cA ad zzSC Ex yX9_applyBoth cX9_applyBoth 5 (some .boolean) 2 50 fX9_applyBoth ∧ zz_Cx l D zzCl cA ad zzSC Ex yX9_applyBoth cX9_applyBoth 5 (some .boolean) 2 50 fX9_applyBoth := by
  refine zz_meth (plainFor_of_name (by decide)) Wd.1 Wd.2.1 Wd.2.2.1 (fun p e R s m args below meth c rr X => ?_)
  unfold tX9_applyBoth
  refine zz_cons (k' := 1) rfl (zk_aload_n X dX9_applyBoth_0 rfl rfl) ?_
  refine zz_cons (k' := 2) rfl (zk_iload_n X dX9_applyBoth_1 rfl rfl) ?_
  refine zz_cons (k' := 3) rfl (zk_callv X (zz_Cv_of (List.forall_mem_cons.mpr ⟨⟨(RX_8, zzT8, 9), yX9_draftFrom, cX9_draftFrom, 2, none, 1, 26, rfl, kv_X9_71_8.1, (mm_X9_draftFrom Wd).1, by decide, by decide⟩, (fun _ h => absurd h List.not_mem_nil)⟩)) dX9_applyBoth_2 rfl) ?_
  refine zz_cons (k' := 4) rfl (zz_Ok_none _ _) ?_
  refine zz_cons (k' := 5) rfl (zz_Ok_none _ _) ?_
  refine zz_cons (k' := 6) rfl (zk_aload_n X dX9_applyBoth_5 rfl rfl) ?_
  refine zz_cons (k' := 7) rfl (zk_getf X ff_X9_28 dX9_applyBoth_6 rfl) ?_
  refine zz_cons (k' := 8) rfl (zz_Ok_none _ _) ?_
  refine zz_cons (k' := 9) rfl (zz_Ok_none _ _) ?_
  refine zz_cons (k' := 10) rfl (zk_iconst X dX9_applyBoth_9 (by decide) rfl) ?_
  refine zz_cons (k' := 11) rfl (zk_iload_n X dX9_applyBoth_10 rfl rfl) ?_
  refine zz_cons (k' := 12) rfl (zk_iast X dX9_applyBoth_11 rfl) ?_
  refine zz_cons (k' := 13) rfl (zk_aload_n X dX9_applyBoth_12 rfl rfl) ?_
  refine zz_cons (k' := 14) rfl (zk_getf X ff_X9_28 dX9_applyBoth_13 rfl) ?_
  refine zz_cons (k' := 15) rfl (zz_Ok_none _ _) ?_
  refine zz_cons (k' := 16) rfl (zz_Ok_none _ _) ?_
  refine zz_cons (k' := 17) rfl (zk_iconst X dX9_applyBoth_16 (by decide) rfl) ?_
  refine zz_cons (k' := 18) rfl (zk_iload X dX9_applyBoth_17 rfl) ?_
  refine zz_cons (k' := 19) rfl (zz_Ok_none _ _) ?_
  refine zz_cons (k' := 20) rfl (zk_iast X dX9_applyBoth_19 rfl) ?_
  refine zz_cons (k' := 21) rfl (zk_aload_n X dX9_applyBoth_20 rfl rfl) ?_
  refine zz_cons (k' := 22) rfl (zk_getf X ff_X9_28 dX9_applyBoth_21 rfl) ?_
  refine zz_cons (k' := 23) rfl (zz_Ok_none _ _) ?_
  refine zz_cons (k' := 24) rfl (zz_Ok_none _ _) ?_
  refine zz_cons (k' := 25) rfl (zk_bipush X dX9_applyBoth_24 (by decide) rfl) ?_
  refine zz_cons (k' := 26) rfl (zz_Ok_none _ _) ?_
  refine zz_cons (k' := 27) rfl (zk_iload_n X dX9_applyBoth_26 rfl rfl) ?_
  refine zz_cons (k' := 28) rfl (zk_iast X dX9_applyBoth_27 rfl) ?_
  refine zz_cons (k' := 29) rfl (zk_aload_n X dX9_applyBoth_28 rfl rfl) ?_
  refine zz_cons (k' := 30) rfl (zk_getf X ff_X9_28 dX9_applyBoth_29 rfl) ?_
  refine zz_cons (k' := 31) rfl (zz_Ok_none _ _) ?_
  refine zz_cons (k' := 32) rfl (zz_Ok_none _ _) ?_
  refine zz_cons (k' := 33) rfl (zk_bipush X dX9_applyBoth_32 (by decide) rfl) ?_
  refine zz_cons (k' := 34) rfl (zz_Ok_none _ _) ?_
  refine zz_cons (k' := 35) rfl (zk_iload_n X dX9_applyBoth_34 rfl rfl) ?_
  refine zz_cons (k' := 36) rfl (zk_iast X dX9_applyBoth_35 rfl) ?_
  refine zz_cons (k' := 37) rfl (zk_aload_n X dX9_applyBoth_36 rfl rfl) ?_
  refine zz_cons (k' := 38) rfl (zk_getf X ff_X9_20 dX9_applyBoth_37 rfl) ?_
  refine zz_cons (k' := 39) rfl (zz_Ok_none _ _) ?_
  refine zz_cons (k' := 40) rfl (zz_Ok_none _ _) ?_
  refine zz_cons (k' := 41) rfl (zk_aload_n X dX9_applyBoth_40 rfl rfl) ?_
  refine zz_cons (k' := 42) rfl (zk_getf X ff_X9_28 dX9_applyBoth_41 rfl) ?_
  refine zz_cons (k' := 43) rfl (zz_Ok_none _ _) ?_
  refine zz_cons (k' := 44) rfl (zz_Ok_none _ _) ?_
  refine zz_cons (k' := 45) rfl (zk_callv X (zz_Cv_of (List.forall_mem_cons.mpr ⟨⟨(RX_0, zzT0, 6), yX0_settles, cX0_settles, 5, (some .boolean), 1, 26, rfl, kv_X9_46_0.1, (mm_X0_settles Wd).1, by decide, by decide⟩, (fun _ h => absurd h List.not_mem_nil)⟩)) dX9_applyBoth_44 rfl) ?_
  refine zz_cons (k' := 46) rfl (zz_Ok_none _ _) ?_
  refine zz_cons (k' := 47) rfl (zz_Ok_none _ _) ?_
  refine zz_cons (k' := 48) rfl (zk_if_eq X dX9_applyBoth_47 (by decide) rfl) ?_
  refine zz_cons (k' := 49) rfl (zz_Ok_none _ _) ?_
  refine zz_cons (k' := 50) rfl (zz_Ok_none _ _) ?_
  refine zz_cons (k' := 51) rfl (zk_aload_n X dX9_applyBoth_50 rfl rfl) ?_
  refine zz_cons (k' := 52) rfl (zk_getf X ff_X9_20 dX9_applyBoth_51 rfl) ?_
  refine zz_cons (k' := 53) rfl (zz_Ok_none _ _) ?_
  refine zz_cons (k' := 54) rfl (zz_Ok_none _ _) ?_
  refine zz_cons (k' := 55) rfl (zk_aload_n X dX9_applyBoth_54 rfl rfl) ?_
  refine zz_cons (k' := 56) rfl (zk_getf X ff_X9_28 dX9_applyBoth_55 rfl) ?_
  refine zz_cons (k' := 57) rfl (zz_Ok_none _ _) ?_
  refine zz_cons (k' := 58) rfl (zz_Ok_none _ _) ?_
  refine zz_cons (k' := 59) rfl (zk_callv X (zz_Cv_of (List.forall_mem_cons.mpr ⟨⟨(RX_0, zzT0, 6), yX0_allows, cX0_allows, 4, (some .boolean), 0, 0, rfl, kv_X9_50_0.1, (mm_X0_allows Wd).1, by decide, by decide⟩, (fun _ h => absurd h List.not_mem_nil)⟩)) dX9_applyBoth_58 rfl) ?_
  refine zz_cons (k' := 60) rfl (zz_Ok_none _ _) ?_
  refine zz_cons (k' := 61) rfl (zz_Ok_none _ _) ?_
  refine zz_cons (k' := 62) rfl (zk_if_eq X dX9_applyBoth_61 (by decide) rfl) ?_
  refine zz_cons (k' := 63) rfl (zz_Ok_none _ _) ?_
  refine zz_cons (k' := 64) rfl (zz_Ok_none _ _) ?_
  refine zz_cons (k' := 65) rfl (zk_aload_n X dX9_applyBoth_64 rfl rfl) ?_
  refine zz_cons (k' := 66) rfl (zk_iload_n X dX9_applyBoth_65 rfl rfl) ?_
  refine zz_cons (k' := 67) rfl (zk_callv X (zz_Cv_of (List.forall_mem_cons.mpr ⟨⟨(RX_8, zzT8, 9), yX9_write, cX9_write, 2, (some .boolean), 1, 26, rfl, kv_X9_53_8.1, (mm_X9_write Wd).1, by decide, by decide⟩, (fun _ h => absurd h List.not_mem_nil)⟩)) dX9_applyBoth_66 rfl) ?_
  refine zz_cons (k' := 68) rfl (zz_Ok_none _ _) ?_
  refine zz_cons (k' := 69) rfl (zz_Ok_none _ _) ?_
  refine zz_cons (k' := 70) rfl (zk_if_eq X dX9_applyBoth_69 (by decide) rfl) ?_
  refine zz_cons (k' := 71) rfl (zz_Ok_none _ _) ?_
  refine zz_cons (k' := 72) rfl (zz_Ok_none _ _) ?_
  refine zz_cons (k' := 73) rfl (zk_iconst X dX9_applyBoth_72 (by decide) rfl) ?_
  refine zz_cons (k' := 74) rfl (zk_goto X dX9_applyBoth_73 (by decide)) ?_
  refine zz_cons (k' := 75) rfl (zz_Ok_none _ _) ?_
  refine zz_cons (k' := 76) rfl (zz_Ok_none _ _) ?_
  refine zz_cons (k' := 77) rfl (zk_iconst X dX9_applyBoth_76 (by decide) rfl) ?_
  refine zz_cons (k' := 78) rfl (zk_iret X rfl dX9_applyBoth_77) ?_
  exact trivial
noncomputable def tX9_beginTick : List zzOp := [
  zo_aload 0 1,
  zo_dup 2,
  zo_getf zzSC (zz_kf [8] 7) 5,
  zo_none,
  zo_none,
  zo_pushI 1 6,
  zo_ii (fun x y => x + y) 7,
  zo_putf zzSC (zz_kf [8] 7) false 10,
  zo_none,
  zo_none,
  zo_pushI 0 11,
  zo_istore 1 12,
  zo_iload 1 13,
  zo_aload 0 14,
  zo_getf zzSC (zz_kf [8] 2) 17,
  zo_none,
  zo_none,
  zo_icmp (fun x y => decide (y ≤ x)) 70 20,
  zo_none,
  zo_none,
  zo_aload 0 21,
  zo_iload 1 22,
  zo_pushI 23 24,
  zo_none,
  zo_callv zzSC (zz_cl [(8, fX10_read)]) 2 27,
  zo_none,
  zo_none,
  zo_pushI 4 28,
  zo_icmp (fun x y => decide (¬ x = y)) 64 31,
  zo_none,
  zo_none,
  zo_aload 0 32,
  zo_iload 1 33,
  zo_callv zzSC (zz_cl [(8, fX10_isGone)]) 1 36,
  zo_none,
  zo_none,
  zo_if (fun x => decide (¬ x = 0)) 64 39,
  zo_none,
  zo_none,
  zo_aload 0 40,
  zo_getf zzSC (zz_kf [8] 7) 43,
  zo_none,
  zo_none,
  zo_aload 0 44,
  zo_getf zzSC (zz_kf [8] 5) 47,
  zo_none,
  zo_none,
  zo_iload 1 48,
  zo_iald zzSC zzSTC 49,
  zo_ii (fun x y => x - y) 50,
  zo_pushI 20 52,
  zo_none,
  zo_icmp (fun x y => decide (x ≤ y)) 64 55,
  zo_none,
  zo_none,
  zo_aload 0 56,
  zo_iload 1 57,
  zo_pushI 27 59,
  zo_none,
  zo_pushI 0 60,
  zo_callv zzSC (zz_cl [(8, fX9_change)]) 3 63,
  zo_none,
  zo_none,
  zo_pop 64,
  zo_iinc 1 1 67,
  zo_none,
  zo_none,
  zo_goto 12,
  zo_none,
  zo_none,
  zo_ret]
set_option maxRecDepth 100000 in
theorem tl_X9_beginTick : ∀ pc, zz_Tl (tX9_beginTick.getD pc zo_none) := by
  refine zz_Tl_mem ?_
  unfold tX9_beginTick
  refine List.forall_mem_cons.mpr ⟨(zo_aload_tl _ _), ?_⟩
  refine List.forall_mem_cons.mpr ⟨(zo_dup_tl _), ?_⟩
  refine List.forall_mem_cons.mpr ⟨(zo_getf_tl _ _ _), ?_⟩
  refine List.forall_mem_cons.mpr ⟨zo_none_tl, ?_⟩
  refine List.forall_mem_cons.mpr ⟨zo_none_tl, ?_⟩
  refine List.forall_mem_cons.mpr ⟨(zo_pushI_tl _ _), ?_⟩
  refine List.forall_mem_cons.mpr ⟨(zo_ii_tl _ _), ?_⟩
  refine List.forall_mem_cons.mpr ⟨(zo_putf_tl _ _ _ _), ?_⟩
  refine List.forall_mem_cons.mpr ⟨zo_none_tl, ?_⟩
  refine List.forall_mem_cons.mpr ⟨zo_none_tl, ?_⟩
  refine List.forall_mem_cons.mpr ⟨(zo_pushI_tl _ _), ?_⟩
  refine List.forall_mem_cons.mpr ⟨(zo_istore_tl _ _), ?_⟩
  refine List.forall_mem_cons.mpr ⟨(zo_iload_tl _ _), ?_⟩
  refine List.forall_mem_cons.mpr ⟨(zo_aload_tl _ _), ?_⟩
  refine List.forall_mem_cons.mpr ⟨(zo_getf_tl _ _ _), ?_⟩
  refine List.forall_mem_cons.mpr ⟨zo_none_tl, ?_⟩
  refine List.forall_mem_cons.mpr ⟨zo_none_tl, ?_⟩
  refine List.forall_mem_cons.mpr ⟨(zo_icmp_tl _ _ _), ?_⟩
  refine List.forall_mem_cons.mpr ⟨zo_none_tl, ?_⟩
  refine List.forall_mem_cons.mpr ⟨zo_none_tl, ?_⟩
  refine List.forall_mem_cons.mpr ⟨(zo_aload_tl _ _), ?_⟩
  refine List.forall_mem_cons.mpr ⟨(zo_iload_tl _ _), ?_⟩
  refine List.forall_mem_cons.mpr ⟨(zo_pushI_tl _ _), ?_⟩
  refine List.forall_mem_cons.mpr ⟨zo_none_tl, ?_⟩
  refine List.forall_mem_cons.mpr ⟨(zo_callv_tl _ _ _ _), ?_⟩
  refine List.forall_mem_cons.mpr ⟨zo_none_tl, ?_⟩
  refine List.forall_mem_cons.mpr ⟨zo_none_tl, ?_⟩
  refine List.forall_mem_cons.mpr ⟨(zo_pushI_tl _ _), ?_⟩
  refine List.forall_mem_cons.mpr ⟨(zo_icmp_tl _ _ _), ?_⟩
  refine List.forall_mem_cons.mpr ⟨zo_none_tl, ?_⟩
  refine List.forall_mem_cons.mpr ⟨zo_none_tl, ?_⟩
  refine List.forall_mem_cons.mpr ⟨(zo_aload_tl _ _), ?_⟩
  refine List.forall_mem_cons.mpr ⟨(zo_iload_tl _ _), ?_⟩
  refine List.forall_mem_cons.mpr ⟨(zo_callv_tl _ _ _ _), ?_⟩
  refine List.forall_mem_cons.mpr ⟨zo_none_tl, ?_⟩
  refine List.forall_mem_cons.mpr ⟨zo_none_tl, ?_⟩
  refine List.forall_mem_cons.mpr ⟨(zo_if_tl _ _ _), ?_⟩
  refine List.forall_mem_cons.mpr ⟨zo_none_tl, ?_⟩
  refine List.forall_mem_cons.mpr ⟨zo_none_tl, ?_⟩
  refine List.forall_mem_cons.mpr ⟨(zo_aload_tl _ _), ?_⟩
  refine List.forall_mem_cons.mpr ⟨(zo_getf_tl _ _ _), ?_⟩
  refine List.forall_mem_cons.mpr ⟨zo_none_tl, ?_⟩
  refine List.forall_mem_cons.mpr ⟨zo_none_tl, ?_⟩
  refine List.forall_mem_cons.mpr ⟨(zo_aload_tl _ _), ?_⟩
  refine List.forall_mem_cons.mpr ⟨(zo_getf_tl _ _ _), ?_⟩
  refine List.forall_mem_cons.mpr ⟨zo_none_tl, ?_⟩
  refine List.forall_mem_cons.mpr ⟨zo_none_tl, ?_⟩
  refine List.forall_mem_cons.mpr ⟨(zo_iload_tl _ _), ?_⟩
  refine List.forall_mem_cons.mpr ⟨(zo_iald_tl _ _ _), ?_⟩
  refine List.forall_mem_cons.mpr ⟨(zo_ii_tl _ _), ?_⟩
  refine List.forall_mem_cons.mpr ⟨(zo_pushI_tl _ _), ?_⟩
  refine List.forall_mem_cons.mpr ⟨zo_none_tl, ?_⟩
  refine List.forall_mem_cons.mpr ⟨(zo_icmp_tl _ _ _), ?_⟩
  refine List.forall_mem_cons.mpr ⟨zo_none_tl, ?_⟩
  refine List.forall_mem_cons.mpr ⟨zo_none_tl, ?_⟩
  refine List.forall_mem_cons.mpr ⟨(zo_aload_tl _ _), ?_⟩
  refine List.forall_mem_cons.mpr ⟨(zo_iload_tl _ _), ?_⟩
  refine List.forall_mem_cons.mpr ⟨(zo_pushI_tl _ _), ?_⟩
  refine List.forall_mem_cons.mpr ⟨zo_none_tl, ?_⟩
  refine List.forall_mem_cons.mpr ⟨(zo_pushI_tl _ _), ?_⟩
  refine List.forall_mem_cons.mpr ⟨(zo_callv_tl _ _ _ _), ?_⟩
  refine List.forall_mem_cons.mpr ⟨zo_none_tl, ?_⟩
  refine List.forall_mem_cons.mpr ⟨zo_none_tl, ?_⟩
  refine List.forall_mem_cons.mpr ⟨(zo_pop_tl _), ?_⟩
  refine List.forall_mem_cons.mpr ⟨(zo_iinc_tl _ _ _), ?_⟩
  refine List.forall_mem_cons.mpr ⟨zo_none_tl, ?_⟩
  refine List.forall_mem_cons.mpr ⟨zo_none_tl, ?_⟩
  refine List.forall_mem_cons.mpr ⟨(zo_goto_tl _), ?_⟩
  refine List.forall_mem_cons.mpr ⟨zo_none_tl, ?_⟩
  refine List.forall_mem_cons.mpr ⟨zo_none_tl, ?_⟩
  refine List.forall_mem_cons.mpr ⟨(zo_ret_tl), ?_⟩
  exact fun _ h => absurd h List.not_mem_nil
noncomputable def fX9_beginTick : zzFn := zz_fn tX9_beginTick 2
set_option maxRecDepth 100000 in
set_option maxHeartbeats 4000000 in
theorem mm_X9_beginTick {l : Launch} {D : va_G} {cA : Nat → ClassId} {ad : Nat → Nat} {Ex : (Nat → Prop) → State → Heap → Prop} (Wd : zzWC l D cA ad Ex) : zz_Cn l D zzCl cA ad zzSC Ex yX9_beginTick cX9_beginTick 2 none 3 70 fX9_beginTick ∧ zz_Cx l D zzCl cA ad zzSC Ex yX9_beginTick cX9_beginTick 2 none 3 70 fX9_beginTick := by
  refine zz_meth (plainFor_of_name (by decide)) Wd.1 Wd.2.1 Wd.2.2.1 (fun p e R s m args below meth c rr X => ?_)
  unfold tX9_beginTick
  refine zz_cons (k' := 1) rfl (zk_aload_n X dX9_beginTick_0 rfl rfl) ?_
  refine zz_cons (k' := 2) rfl (zk_dup X dX9_beginTick_1 rfl) ?_
  refine zz_cons (k' := 3) rfl (zk_getf X ff_X9_57 dX9_beginTick_2 rfl) ?_
  refine zz_cons (k' := 4) rfl (zz_Ok_none _ _) ?_
  refine zz_cons (k' := 5) rfl (zz_Ok_none _ _) ?_
  refine zz_cons (k' := 6) rfl (zk_iconst X dX9_beginTick_5 (by decide) rfl) ?_
  refine zz_cons (k' := 7) rfl (zk_iadd X dX9_beginTick_6 rfl) ?_
  refine zz_cons (k' := 8) rfl (zk_putf X ff_X9_57 fp_8_7 dX9_beginTick_7 rfl) ?_
  refine zz_cons (k' := 9) rfl (zz_Ok_none _ _) ?_
  refine zz_cons (k' := 10) rfl (zz_Ok_none _ _) ?_
  refine zz_cons (k' := 11) rfl (zk_iconst X dX9_beginTick_10 (by decide) rfl) ?_
  refine zz_cons (k' := 12) rfl (zk_istore_n X dX9_beginTick_11 rfl (by decide) rfl) ?_
  refine zz_cons (k' := 13) rfl (zk_iload_n X dX9_beginTick_12 rfl rfl) ?_
  refine zz_cons (k' := 14) rfl (zk_aload_n X dX9_beginTick_13 rfl rfl) ?_
  refine zz_cons (k' := 15) rfl (zk_getf X ff_X9_31 dX9_beginTick_14 rfl) ?_
  refine zz_cons (k' := 16) rfl (zz_Ok_none _ _) ?_
  refine zz_cons (k' := 17) rfl (zz_Ok_none _ _) ?_
  refine zz_cons (k' := 18) rfl (zk_icmp_ge X dX9_beginTick_17 (by decide) rfl) ?_
  refine zz_cons (k' := 19) rfl (zz_Ok_none _ _) ?_
  refine zz_cons (k' := 20) rfl (zz_Ok_none _ _) ?_
  refine zz_cons (k' := 21) rfl (zk_aload_n X dX9_beginTick_20 rfl rfl) ?_
  refine zz_cons (k' := 22) rfl (zk_iload_n X dX9_beginTick_21 rfl rfl) ?_
  refine zz_cons (k' := 23) rfl (zk_bipush X dX9_beginTick_22 (by decide) rfl) ?_
  refine zz_cons (k' := 24) rfl (zz_Ok_none _ _) ?_
  refine zz_cons (k' := 25) rfl (zk_callv X (zz_Cv_of (List.forall_mem_cons.mpr ⟨⟨(RX_8, zzT8, 9), yX10_read, cX10_read, 3, (some .int), 0, 0, rfl, kv_X9_63_8, (mm_X10_read Wd).1, by decide, by decide⟩, (fun _ h => absurd h List.not_mem_nil)⟩)) dX9_beginTick_24 rfl) ?_
  refine zz_cons (k' := 26) rfl (zz_Ok_none _ _) ?_
  refine zz_cons (k' := 27) rfl (zz_Ok_none _ _) ?_
  refine zz_cons (k' := 28) rfl (zk_iconst X dX9_beginTick_27 (by decide) rfl) ?_
  refine zz_cons (k' := 29) rfl (zk_icmp_ne X dX9_beginTick_28 (by decide) rfl) ?_
  refine zz_cons (k' := 30) rfl (zz_Ok_none _ _) ?_
  refine zz_cons (k' := 31) rfl (zz_Ok_none _ _) ?_
  refine zz_cons (k' := 32) rfl (zk_aload_n X dX9_beginTick_31 rfl rfl) ?_
  refine zz_cons (k' := 33) rfl (zk_iload_n X dX9_beginTick_32 rfl rfl) ?_
  refine zz_cons (k' := 34) rfl (zk_callv X (zz_Cv_of (List.forall_mem_cons.mpr ⟨⟨(RX_8, zzT8, 9), yX10_isGone, cX10_isGone, 2, (some .boolean), 1, 22, rfl, kv_X9_100_8, (mm_X10_isGone Wd).1, by decide, by decide⟩, (fun _ h => absurd h List.not_mem_nil)⟩)) dX9_beginTick_33 rfl) ?_
  refine zz_cons (k' := 35) rfl (zz_Ok_none _ _) ?_
  refine zz_cons (k' := 36) rfl (zz_Ok_none _ _) ?_
  refine zz_cons (k' := 37) rfl (zk_if_ne X dX9_beginTick_36 (by decide) rfl) ?_
  refine zz_cons (k' := 38) rfl (zz_Ok_none _ _) ?_
  refine zz_cons (k' := 39) rfl (zz_Ok_none _ _) ?_
  refine zz_cons (k' := 40) rfl (zk_aload_n X dX9_beginTick_39 rfl rfl) ?_
  refine zz_cons (k' := 41) rfl (zk_getf X ff_X9_57 dX9_beginTick_40 rfl) ?_
  refine zz_cons (k' := 42) rfl (zz_Ok_none _ _) ?_
  refine zz_cons (k' := 43) rfl (zz_Ok_none _ _) ?_
  refine zz_cons (k' := 44) rfl (zk_aload_n X dX9_beginTick_43 rfl rfl) ?_
  refine zz_cons (k' := 45) rfl (zk_getf X ff_X9_24 dX9_beginTick_44 rfl) ?_
  refine zz_cons (k' := 46) rfl (zz_Ok_none _ _) ?_
  refine zz_cons (k' := 47) rfl (zz_Ok_none _ _) ?_
  refine zz_cons (k' := 48) rfl (zk_iload_n X dX9_beginTick_47 rfl rfl) ?_
  refine zz_cons (k' := 49) rfl (zk_iald X (zzWC_st Wd) dX9_beginTick_48 rfl) ?_
  refine zz_cons (k' := 50) rfl (zk_isub X dX9_beginTick_49 rfl) ?_
  refine zz_cons (k' := 51) rfl (zk_bipush X dX9_beginTick_50 (by decide) rfl) ?_
  refine zz_cons (k' := 52) rfl (zz_Ok_none _ _) ?_
  refine zz_cons (k' := 53) rfl (zk_icmp_le X dX9_beginTick_52 (by decide) rfl) ?_
  refine zz_cons (k' := 54) rfl (zz_Ok_none _ _) ?_
  refine zz_cons (k' := 55) rfl (zz_Ok_none _ _) ?_
  refine zz_cons (k' := 56) rfl (zk_aload_n X dX9_beginTick_55 rfl rfl) ?_
  refine zz_cons (k' := 57) rfl (zk_iload_n X dX9_beginTick_56 rfl rfl) ?_
  refine zz_cons (k' := 58) rfl (zk_bipush X dX9_beginTick_57 (by decide) rfl) ?_
  refine zz_cons (k' := 59) rfl (zz_Ok_none _ _) ?_
  refine zz_cons (k' := 60) rfl (zk_iconst X dX9_beginTick_59 (by decide) rfl) ?_
  refine zz_cons (k' := 61) rfl (zk_callv X (zz_Cv_of (List.forall_mem_cons.mpr ⟨⟨(RX_8, zzT8, 9), yX9_change, cX9_change, 4, (some .boolean), 2, 47, rfl, kv_X9_103_8.1, (mm_X9_change Wd).1, by decide, by decide⟩, (fun _ h => absurd h List.not_mem_nil)⟩)) dX9_beginTick_60 rfl) ?_
  refine zz_cons (k' := 62) rfl (zz_Ok_none _ _) ?_
  refine zz_cons (k' := 63) rfl (zz_Ok_none _ _) ?_
  refine zz_cons (k' := 64) rfl (zk_pop X dX9_beginTick_63 rfl) ?_
  refine zz_cons (k' := 65) rfl (zk_iinc X dX9_beginTick_64 (by decide) (by decide) rfl) ?_
  refine zz_cons (k' := 66) rfl (zz_Ok_none _ _) ?_
  refine zz_cons (k' := 67) rfl (zz_Ok_none _ _) ?_
  refine zz_cons (k' := 68) rfl (zk_goto X dX9_beginTick_67 (by decide)) ?_
  refine zz_cons (k' := 69) rfl (zz_Ok_none _ _) ?_
  refine zz_cons (k' := 70) rfl (zz_Ok_none _ _) ?_
  refine zz_cons (k' := 71) rfl (zk_ret X rfl dX9_beginTick_70) ?_
  exact trivial
noncomputable def tJ9_floorDiv_7cf53 : List zzOp := [
  zo_iload 0 1,
  zo_iload 1 2,
  zo_iid (fun x y => x / y) 3,
  zo_istore 2 4,
  zo_iload 0 5,
  zo_iload 1 6,
  zo_ii (fun x y => x ^^^ y) 7,
  zo_if (fun x => decide (0 ≤ x)) 21 10,
  zo_none,
  zo_none,
  zo_iload 2 11,
  zo_iload 1 12,
  zo_ii (fun x y => x * y) 13,
  zo_iload 0 14,
  zo_icmp (fun x y => decide (x = y)) 21 17,
  zo_none,
  zo_none,
  zo_iload 2 18,
  zo_pushI 1 19,
  zo_ii (fun x y => x - y) 20,
  zo_iret false,
  zo_iload 2 22,
  zo_iret false]
set_option maxRecDepth 100000 in
theorem tl_J9_floorDiv_7cf53 : ∀ pc, zz_Tl (tJ9_floorDiv_7cf53.getD pc zo_none) := by
  refine zz_Tl_mem ?_
  unfold tJ9_floorDiv_7cf53
  refine List.forall_mem_cons.mpr ⟨(zo_iload_tl _ _), ?_⟩
  refine List.forall_mem_cons.mpr ⟨(zo_iload_tl _ _), ?_⟩
  refine List.forall_mem_cons.mpr ⟨(zo_iid_tl _ _), ?_⟩
  refine List.forall_mem_cons.mpr ⟨(zo_istore_tl _ _), ?_⟩
  refine List.forall_mem_cons.mpr ⟨(zo_iload_tl _ _), ?_⟩
  refine List.forall_mem_cons.mpr ⟨(zo_iload_tl _ _), ?_⟩
  refine List.forall_mem_cons.mpr ⟨(zo_ii_tl _ _), ?_⟩
  refine List.forall_mem_cons.mpr ⟨(zo_if_tl _ _ _), ?_⟩
  refine List.forall_mem_cons.mpr ⟨zo_none_tl, ?_⟩
  refine List.forall_mem_cons.mpr ⟨zo_none_tl, ?_⟩
  refine List.forall_mem_cons.mpr ⟨(zo_iload_tl _ _), ?_⟩
  refine List.forall_mem_cons.mpr ⟨(zo_iload_tl _ _), ?_⟩
  refine List.forall_mem_cons.mpr ⟨(zo_ii_tl _ _), ?_⟩
  refine List.forall_mem_cons.mpr ⟨(zo_iload_tl _ _), ?_⟩
  refine List.forall_mem_cons.mpr ⟨(zo_icmp_tl _ _ _), ?_⟩
  refine List.forall_mem_cons.mpr ⟨zo_none_tl, ?_⟩
  refine List.forall_mem_cons.mpr ⟨zo_none_tl, ?_⟩
  refine List.forall_mem_cons.mpr ⟨(zo_iload_tl _ _), ?_⟩
  refine List.forall_mem_cons.mpr ⟨(zo_pushI_tl _ _), ?_⟩
  refine List.forall_mem_cons.mpr ⟨(zo_ii_tl _ _), ?_⟩
  refine List.forall_mem_cons.mpr ⟨(zo_iret_tl _), ?_⟩
  refine List.forall_mem_cons.mpr ⟨(zo_iload_tl _ _), ?_⟩
  refine List.forall_mem_cons.mpr ⟨(zo_iret_tl _), ?_⟩
  exact fun _ h => absurd h List.not_mem_nil
noncomputable def fJ9_floorDiv_7cf53 : zzFn := zz_fn tJ9_floorDiv_7cf53 3
set_option maxRecDepth 100000 in
set_option maxHeartbeats 4000000 in
theorem mm_J9_floorDiv_7cf53 {l : Launch} {D : va_G} {cA : Nat → ClassId} {ad : Nat → Nat} {Ex : (Nat → Prop) → State → Heap → Prop} (Wd : zzWC l D cA ad Ex) : zz_Cn l D zzCl cA ad zzSC Ex yJ9_floorDiv_7cf53 cJ9_floorDiv_7cf53 3 (some .int) 0 0 fJ9_floorDiv_7cf53 ∧ zz_Cx l D zzCl cA ad zzSC Ex yJ9_floorDiv_7cf53 cJ9_floorDiv_7cf53 3 (some .int) 0 0 fJ9_floorDiv_7cf53 := by
  refine zz_meth (by decide +kernel) Wd.1 Wd.2.1 Wd.2.2.1 (fun p e R s m args below meth c rr X => ?_)
  unfold tJ9_floorDiv_7cf53
  refine zz_cons (k' := 1) rfl (zk_iload_n X dJ9_floorDiv_7cf53_0 rfl rfl) ?_
  refine zz_cons (k' := 2) rfl (zk_iload_n X dJ9_floorDiv_7cf53_1 rfl rfl) ?_
  refine zz_cons (k' := 3) rfl (zk_idiv X dJ9_floorDiv_7cf53_2 rfl) ?_
  refine zz_cons (k' := 4) rfl (zk_istore_n X dJ9_floorDiv_7cf53_3 rfl (by decide) rfl) ?_
  refine zz_cons (k' := 5) rfl (zk_iload_n X dJ9_floorDiv_7cf53_4 rfl rfl) ?_
  refine zz_cons (k' := 6) rfl (zk_iload_n X dJ9_floorDiv_7cf53_5 rfl rfl) ?_
  refine zz_cons (k' := 7) rfl (zk_ixor X dJ9_floorDiv_7cf53_6 rfl) ?_
  refine zz_cons (k' := 8) rfl (zk_if_ge X dJ9_floorDiv_7cf53_7 (by decide) rfl) ?_
  refine zz_cons (k' := 9) rfl (zz_Ok_none _ _) ?_
  refine zz_cons (k' := 10) rfl (zz_Ok_none _ _) ?_
  refine zz_cons (k' := 11) rfl (zk_iload_n X dJ9_floorDiv_7cf53_10 rfl rfl) ?_
  refine zz_cons (k' := 12) rfl (zk_iload_n X dJ9_floorDiv_7cf53_11 rfl rfl) ?_
  refine zz_cons (k' := 13) rfl (zk_imul X dJ9_floorDiv_7cf53_12 rfl) ?_
  refine zz_cons (k' := 14) rfl (zk_iload_n X dJ9_floorDiv_7cf53_13 rfl rfl) ?_
  refine zz_cons (k' := 15) rfl (zk_icmp_eq X dJ9_floorDiv_7cf53_14 (by decide) rfl) ?_
  refine zz_cons (k' := 16) rfl (zz_Ok_none _ _) ?_
  refine zz_cons (k' := 17) rfl (zz_Ok_none _ _) ?_
  refine zz_cons (k' := 18) rfl (zk_iload_n X dJ9_floorDiv_7cf53_17 rfl rfl) ?_
  refine zz_cons (k' := 19) rfl (zk_iconst X dJ9_floorDiv_7cf53_18 (by decide) rfl) ?_
  refine zz_cons (k' := 20) rfl (zk_isub X dJ9_floorDiv_7cf53_19 rfl) ?_
  refine zz_cons (k' := 21) rfl (zk_iret X rfl dJ9_floorDiv_7cf53_20) ?_
  refine zz_cons (k' := 22) rfl (zk_iload_n X dJ9_floorDiv_7cf53_21 rfl rfl) ?_
  refine zz_cons (k' := 23) rfl (zk_iret X rfl dJ9_floorDiv_7cf53_22) ?_
  exact trivial
noncomputable def tJ9_floorMod_7cf53 : List zzOp := [
  zo_iload 0 1,
  zo_iload 1 2,
  zo_iid (fun x y => x - x / y * y) 3,
  zo_istore 2 4,
  zo_iload 0 5,
  zo_iload 1 6,
  zo_ii (fun x y => x ^^^ y) 7,
  zo_if (fun x => decide (0 ≤ x)) 18 10,
  zo_none,
  zo_none,
  zo_iload 2 11,
  zo_if (fun x => decide (x = 0)) 18 14,
  zo_none,
  zo_none,
  zo_iload 2 15,
  zo_iload 1 16,
  zo_ii (fun x y => x + y) 17,
  zo_iret false,
  zo_iload 2 19,
  zo_iret false]
set_option maxRecDepth 100000 in
theorem tl_J9_floorMod_7cf53 : ∀ pc, zz_Tl (tJ9_floorMod_7cf53.getD pc zo_none) := by
  refine zz_Tl_mem ?_
  unfold tJ9_floorMod_7cf53
  refine List.forall_mem_cons.mpr ⟨(zo_iload_tl _ _), ?_⟩
  refine List.forall_mem_cons.mpr ⟨(zo_iload_tl _ _), ?_⟩
  refine List.forall_mem_cons.mpr ⟨(zo_iid_tl _ _), ?_⟩
  refine List.forall_mem_cons.mpr ⟨(zo_istore_tl _ _), ?_⟩
  refine List.forall_mem_cons.mpr ⟨(zo_iload_tl _ _), ?_⟩
  refine List.forall_mem_cons.mpr ⟨(zo_iload_tl _ _), ?_⟩
  refine List.forall_mem_cons.mpr ⟨(zo_ii_tl _ _), ?_⟩
  refine List.forall_mem_cons.mpr ⟨(zo_if_tl _ _ _), ?_⟩
  refine List.forall_mem_cons.mpr ⟨zo_none_tl, ?_⟩
  refine List.forall_mem_cons.mpr ⟨zo_none_tl, ?_⟩
  refine List.forall_mem_cons.mpr ⟨(zo_iload_tl _ _), ?_⟩
  refine List.forall_mem_cons.mpr ⟨(zo_if_tl _ _ _), ?_⟩
  refine List.forall_mem_cons.mpr ⟨zo_none_tl, ?_⟩
  refine List.forall_mem_cons.mpr ⟨zo_none_tl, ?_⟩
  refine List.forall_mem_cons.mpr ⟨(zo_iload_tl _ _), ?_⟩
  refine List.forall_mem_cons.mpr ⟨(zo_iload_tl _ _), ?_⟩
  refine List.forall_mem_cons.mpr ⟨(zo_ii_tl _ _), ?_⟩
  refine List.forall_mem_cons.mpr ⟨(zo_iret_tl _), ?_⟩
  refine List.forall_mem_cons.mpr ⟨(zo_iload_tl _ _), ?_⟩
  refine List.forall_mem_cons.mpr ⟨(zo_iret_tl _), ?_⟩
  exact fun _ h => absurd h List.not_mem_nil
noncomputable def fJ9_floorMod_7cf53 : zzFn := zz_fn tJ9_floorMod_7cf53 3
set_option maxRecDepth 100000 in
set_option maxHeartbeats 4000000 in
theorem mm_J9_floorMod_7cf53 {l : Launch} {D : va_G} {cA : Nat → ClassId} {ad : Nat → Nat} {Ex : (Nat → Prop) → State → Heap → Prop} (Wd : zzWC l D cA ad Ex) : zz_Cn l D zzCl cA ad zzSC Ex yJ9_floorMod_7cf53 cJ9_floorMod_7cf53 3 (some .int) 0 0 fJ9_floorMod_7cf53 ∧ zz_Cx l D zzCl cA ad zzSC Ex yJ9_floorMod_7cf53 cJ9_floorMod_7cf53 3 (some .int) 0 0 fJ9_floorMod_7cf53 := by
  refine zz_meth (by decide +kernel) Wd.1 Wd.2.1 Wd.2.2.1 (fun p e R s m args below meth c rr X => ?_)
  unfold tJ9_floorMod_7cf53
  refine zz_cons (k' := 1) rfl (zk_iload_n X dJ9_floorMod_7cf53_0 rfl rfl) ?_
  refine zz_cons (k' := 2) rfl (zk_iload_n X dJ9_floorMod_7cf53_1 rfl rfl) ?_
  refine zz_cons (k' := 3) rfl (zk_irem X dJ9_floorMod_7cf53_2 rfl) ?_
  refine zz_cons (k' := 4) rfl (zk_istore_n X dJ9_floorMod_7cf53_3 rfl (by decide) rfl) ?_
  refine zz_cons (k' := 5) rfl (zk_iload_n X dJ9_floorMod_7cf53_4 rfl rfl) ?_
  refine zz_cons (k' := 6) rfl (zk_iload_n X dJ9_floorMod_7cf53_5 rfl rfl) ?_
  refine zz_cons (k' := 7) rfl (zk_ixor X dJ9_floorMod_7cf53_6 rfl) ?_
  refine zz_cons (k' := 8) rfl (zk_if_ge X dJ9_floorMod_7cf53_7 (by decide) rfl) ?_
  refine zz_cons (k' := 9) rfl (zz_Ok_none _ _) ?_
  refine zz_cons (k' := 10) rfl (zz_Ok_none _ _) ?_
  refine zz_cons (k' := 11) rfl (zk_iload_n X dJ9_floorMod_7cf53_10 rfl rfl) ?_
  refine zz_cons (k' := 12) rfl (zk_if_eq X dJ9_floorMod_7cf53_11 (by decide) rfl) ?_
  refine zz_cons (k' := 13) rfl (zz_Ok_none _ _) ?_
  refine zz_cons (k' := 14) rfl (zz_Ok_none _ _) ?_
  refine zz_cons (k' := 15) rfl (zk_iload_n X dJ9_floorMod_7cf53_14 rfl rfl) ?_
  refine zz_cons (k' := 16) rfl (zk_iload_n X dJ9_floorMod_7cf53_15 rfl rfl) ?_
  refine zz_cons (k' := 17) rfl (zk_iadd X dJ9_floorMod_7cf53_16 rfl) ?_
  refine zz_cons (k' := 18) rfl (zk_iret X rfl dJ9_floorMod_7cf53_17) ?_
  refine zz_cons (k' := 19) rfl (zk_iload_n X dJ9_floorMod_7cf53_18 rfl rfl) ?_
  refine zz_cons (k' := 20) rfl (zk_iret X rfl dJ9_floorMod_7cf53_19) ?_
  exact trivial
end

section
noncomputable def tX11_isCaller : List zzOp := [
  zo_iload 0 1,
  zo_if (fun x => decide (x < 0)) 13 4,
  zo_none,
  zo_none,
  zo_iload 0 5,
  zo_pushI 4 6,
  zo_icmp (fun x y => decide (y ≤ x)) 13 9,
  zo_none,
  zo_none,
  zo_pushI 1 10,
  zo_goto 14,
  zo_none,
  zo_none,
  zo_pushI 0 14,
  zo_iret true]
set_option maxRecDepth 100000 in
theorem tl_X11_isCaller : ∀ pc, zz_Tl (tX11_isCaller.getD pc zo_none) := by
  refine zz_Tl_mem ?_
  unfold tX11_isCaller
  refine List.forall_mem_cons.mpr ⟨(zo_iload_tl _ _), ?_⟩
  refine List.forall_mem_cons.mpr ⟨(zo_if_tl _ _ _), ?_⟩
  refine List.forall_mem_cons.mpr ⟨zo_none_tl, ?_⟩
  refine List.forall_mem_cons.mpr ⟨zo_none_tl, ?_⟩
  refine List.forall_mem_cons.mpr ⟨(zo_iload_tl _ _), ?_⟩
  refine List.forall_mem_cons.mpr ⟨(zo_pushI_tl _ _), ?_⟩
  refine List.forall_mem_cons.mpr ⟨(zo_icmp_tl _ _ _), ?_⟩
  refine List.forall_mem_cons.mpr ⟨zo_none_tl, ?_⟩
  refine List.forall_mem_cons.mpr ⟨zo_none_tl, ?_⟩
  refine List.forall_mem_cons.mpr ⟨(zo_pushI_tl _ _), ?_⟩
  refine List.forall_mem_cons.mpr ⟨(zo_goto_tl _), ?_⟩
  refine List.forall_mem_cons.mpr ⟨zo_none_tl, ?_⟩
  refine List.forall_mem_cons.mpr ⟨zo_none_tl, ?_⟩
  refine List.forall_mem_cons.mpr ⟨(zo_pushI_tl _ _), ?_⟩
  refine List.forall_mem_cons.mpr ⟨(zo_iret_tl _), ?_⟩
  exact fun _ h => absurd h List.not_mem_nil
noncomputable def fX11_isCaller : zzFn := zz_fn tX11_isCaller 1
set_option maxRecDepth 100000 in
set_option maxHeartbeats 4000000 in
theorem mm_X11_isCaller {l : Launch} {D : va_G} {cA : Nat → ClassId} {ad : Nat → Nat} {Ex : (Nat → Prop) → State → Heap → Prop} (Wd : zzWC l D cA ad Ex) : zz_Cn l D zzCl cA ad zzSC Ex yX11_isCaller cX11_isCaller 1 (some .boolean) 0 0 fX11_isCaller ∧ zz_Cx l D zzCl cA ad zzSC Ex yX11_isCaller cX11_isCaller 1 (some .boolean) 0 0 fX11_isCaller := by
  refine zz_meth (plainFor_of_name (by decide)) Wd.1 Wd.2.1 Wd.2.2.1 (fun p e R s m args below meth c rr X => ?_)
  unfold tX11_isCaller
  refine zz_cons (k' := 1) rfl (zk_iload_n X dX11_isCaller_0 rfl rfl) ?_
  refine zz_cons (k' := 2) rfl (zk_if_lt X dX11_isCaller_1 (by decide) rfl) ?_
  refine zz_cons (k' := 3) rfl (zz_Ok_none _ _) ?_
  refine zz_cons (k' := 4) rfl (zz_Ok_none _ _) ?_
  refine zz_cons (k' := 5) rfl (zk_iload_n X dX11_isCaller_4 rfl rfl) ?_
  refine zz_cons (k' := 6) rfl (zk_iconst X dX11_isCaller_5 (by decide) rfl) ?_
  refine zz_cons (k' := 7) rfl (zk_icmp_ge X dX11_isCaller_6 (by decide) rfl) ?_
  refine zz_cons (k' := 8) rfl (zz_Ok_none _ _) ?_
  refine zz_cons (k' := 9) rfl (zz_Ok_none _ _) ?_
  refine zz_cons (k' := 10) rfl (zk_iconst X dX11_isCaller_9 (by decide) rfl) ?_
  refine zz_cons (k' := 11) rfl (zk_goto X dX11_isCaller_10 (by decide)) ?_
  refine zz_cons (k' := 12) rfl (zz_Ok_none _ _) ?_
  refine zz_cons (k' := 13) rfl (zz_Ok_none _ _) ?_
  refine zz_cons (k' := 14) rfl (zk_iconst X dX11_isCaller_13 (by decide) rfl) ?_
  refine zz_cons (k' := 15) rfl (zk_iret X rfl dX11_isCaller_14) ?_
  exact trivial
noncomputable def tX11_make : List zzOp := [
  zo_iload 1 1,
  zo_calls fX11_isCaller 1 4,
  zo_none,
  zo_none,
  zo_if (fun x => decide (x = 0)) 14 7,
  zo_none,
  zo_none,
  zo_iload 2 8,
  zo_calls fX11_isKind 1 11,
  zo_none,
  zo_none,
  zo_if (fun x => decide (¬ x = 0)) 24 14,
  zo_none,
  zo_none,
  zo_throw 0,
  zo_none,
  zo_none,
  zo_none,
  zo_none,
  zo_none,
  zo_none,
  zo_none,
  zo_none,
  zo_none,
  zo_aload 0 25,
  zo_getf zzSC (zz_kf [9] 0) 28,
  zo_none,
  zo_none,
  zo_iload 1 29,
  zo_iload 2 30,
  zo_pushI (-1) 31,
  zo_gets 1002 34,
  zo_none,
  zo_none,
  zo_pushI 1 35,
  zo_iald zzSC zzSTC 36,
  zo_callv zzSC (zz_cl [(8, fX9_open)]) 4 39,
  zo_none,
  zo_none,
  zo_istore 3 40,
  zo_iload 3 41,
  zo_pushI (-1) 42,
  zo_icmp (fun x y => decide (¬ x = y)) 55 45,
  zo_none,
  zo_none,
  zo_throw 1,
  zo_none,
  zo_none,
  zo_none,
  zo_none,
  zo_none,
  zo_none,
  zo_none,
  zo_none,
  zo_none,
  zo_iload 3 56,
  zo_iret false]
set_option maxRecDepth 100000 in
theorem tl_X11_make : ∀ pc, zz_Tl (tX11_make.getD pc zo_none) := by
  refine zz_Tl_mem ?_
  unfold tX11_make
  refine List.forall_mem_cons.mpr ⟨(zo_iload_tl _ _), ?_⟩
  refine List.forall_mem_cons.mpr ⟨(zo_calls_tl _ _ _), ?_⟩
  refine List.forall_mem_cons.mpr ⟨zo_none_tl, ?_⟩
  refine List.forall_mem_cons.mpr ⟨zo_none_tl, ?_⟩
  refine List.forall_mem_cons.mpr ⟨(zo_if_tl _ _ _), ?_⟩
  refine List.forall_mem_cons.mpr ⟨zo_none_tl, ?_⟩
  refine List.forall_mem_cons.mpr ⟨zo_none_tl, ?_⟩
  refine List.forall_mem_cons.mpr ⟨(zo_iload_tl _ _), ?_⟩
  refine List.forall_mem_cons.mpr ⟨(zo_calls_tl _ _ _), ?_⟩
  refine List.forall_mem_cons.mpr ⟨zo_none_tl, ?_⟩
  refine List.forall_mem_cons.mpr ⟨zo_none_tl, ?_⟩
  refine List.forall_mem_cons.mpr ⟨(zo_if_tl _ _ _), ?_⟩
  refine List.forall_mem_cons.mpr ⟨zo_none_tl, ?_⟩
  refine List.forall_mem_cons.mpr ⟨zo_none_tl, ?_⟩
  refine List.forall_mem_cons.mpr ⟨(zo_throw_tl _), ?_⟩
  refine List.forall_mem_cons.mpr ⟨zo_none_tl, ?_⟩
  refine List.forall_mem_cons.mpr ⟨zo_none_tl, ?_⟩
  refine List.forall_mem_cons.mpr ⟨zo_none_tl, ?_⟩
  refine List.forall_mem_cons.mpr ⟨zo_none_tl, ?_⟩
  refine List.forall_mem_cons.mpr ⟨zo_none_tl, ?_⟩
  refine List.forall_mem_cons.mpr ⟨zo_none_tl, ?_⟩
  refine List.forall_mem_cons.mpr ⟨zo_none_tl, ?_⟩
  refine List.forall_mem_cons.mpr ⟨zo_none_tl, ?_⟩
  refine List.forall_mem_cons.mpr ⟨zo_none_tl, ?_⟩
  refine List.forall_mem_cons.mpr ⟨(zo_aload_tl _ _), ?_⟩
  refine List.forall_mem_cons.mpr ⟨(zo_getf_tl _ _ _), ?_⟩
  refine List.forall_mem_cons.mpr ⟨zo_none_tl, ?_⟩
  refine List.forall_mem_cons.mpr ⟨zo_none_tl, ?_⟩
  refine List.forall_mem_cons.mpr ⟨(zo_iload_tl _ _), ?_⟩
  refine List.forall_mem_cons.mpr ⟨(zo_iload_tl _ _), ?_⟩
  refine List.forall_mem_cons.mpr ⟨(zo_pushI_tl _ _), ?_⟩
  refine List.forall_mem_cons.mpr ⟨(zo_gets_tl _ _), ?_⟩
  refine List.forall_mem_cons.mpr ⟨zo_none_tl, ?_⟩
  refine List.forall_mem_cons.mpr ⟨zo_none_tl, ?_⟩
  refine List.forall_mem_cons.mpr ⟨(zo_pushI_tl _ _), ?_⟩
  refine List.forall_mem_cons.mpr ⟨(zo_iald_tl _ _ _), ?_⟩
  refine List.forall_mem_cons.mpr ⟨(zo_callv_tl _ _ _ _), ?_⟩
  refine List.forall_mem_cons.mpr ⟨zo_none_tl, ?_⟩
  refine List.forall_mem_cons.mpr ⟨zo_none_tl, ?_⟩
  refine List.forall_mem_cons.mpr ⟨(zo_istore_tl _ _), ?_⟩
  refine List.forall_mem_cons.mpr ⟨(zo_iload_tl _ _), ?_⟩
  refine List.forall_mem_cons.mpr ⟨(zo_pushI_tl _ _), ?_⟩
  refine List.forall_mem_cons.mpr ⟨(zo_icmp_tl _ _ _), ?_⟩
  refine List.forall_mem_cons.mpr ⟨zo_none_tl, ?_⟩
  refine List.forall_mem_cons.mpr ⟨zo_none_tl, ?_⟩
  refine List.forall_mem_cons.mpr ⟨(zo_throw_tl _), ?_⟩
  refine List.forall_mem_cons.mpr ⟨zo_none_tl, ?_⟩
  refine List.forall_mem_cons.mpr ⟨zo_none_tl, ?_⟩
  refine List.forall_mem_cons.mpr ⟨zo_none_tl, ?_⟩
  refine List.forall_mem_cons.mpr ⟨zo_none_tl, ?_⟩
  refine List.forall_mem_cons.mpr ⟨zo_none_tl, ?_⟩
  refine List.forall_mem_cons.mpr ⟨zo_none_tl, ?_⟩
  refine List.forall_mem_cons.mpr ⟨zo_none_tl, ?_⟩
  refine List.forall_mem_cons.mpr ⟨zo_none_tl, ?_⟩
  refine List.forall_mem_cons.mpr ⟨zo_none_tl, ?_⟩
  refine List.forall_mem_cons.mpr ⟨(zo_iload_tl _ _), ?_⟩
  refine List.forall_mem_cons.mpr ⟨(zo_iret_tl _), ?_⟩
  exact fun _ h => absurd h List.not_mem_nil
noncomputable def fX11_make : zzFn := zz_fn tX11_make 4
set_option maxRecDepth 100000 in
set_option maxHeartbeats 4000000 in
theorem mm_X11_make {l : Launch} {D : va_G} {cA : Nat → ClassId} {ad : Nat → Nat} {Ex : (Nat → Prop) → State → Heap → Prop} (Wd : zzWC l D cA ad Ex) : zz_Cn l D zzCl cA ad zzSC Ex yX11_make cX11_make 4 (some .int) 6 82 fX11_make ∧ zz_Cx l D zzCl cA ad zzSC Ex yX11_make cX11_make 4 (some .int) 6 82 fX11_make := by
  refine zz_meth (plainFor_of_name (by decide)) Wd.1 Wd.2.1 Wd.2.2.1 (fun p e R s m args below meth c rr X => ?_)
  unfold tX11_make
  refine zz_cons (k' := 1) rfl (zk_iload_n X dX11_make_0 rfl rfl) ?_
  refine zz_cons (k' := 2) rfl (zk_calls X ks_X11_54 (mm_X11_isCaller Wd).1 (by decide) dX11_make_1 rfl) ?_
  refine zz_cons (k' := 3) rfl (zz_Ok_none _ _) ?_
  refine zz_cons (k' := 4) rfl (zz_Ok_none _ _) ?_
  refine zz_cons (k' := 5) rfl (zk_if_eq X dX11_make_4 (by decide) rfl) ?_
  refine zz_cons (k' := 6) rfl (zz_Ok_none _ _) ?_
  refine zz_cons (k' := 7) rfl (zz_Ok_none _ _) ?_
  refine zz_cons (k' := 8) rfl (zk_iload_n X dX11_make_7 rfl rfl) ?_
  refine zz_cons (k' := 9) rfl (zk_calls X ks_X11_58 (mm_X11_isKind Wd).1 (by decide) dX11_make_8 rfl) ?_
  refine zz_cons (k' := 10) rfl (zz_Ok_none _ _) ?_
  refine zz_cons (k' := 11) rfl (zz_Ok_none _ _) ?_
  refine zz_cons (k' := 12) rfl (zk_if_ne X dX11_make_11 (by decide) rfl) ?_
  refine zz_cons (k' := 13) rfl (zz_Ok_none _ _) ?_
  refine zz_cons (k' := 14) rfl (zz_Ok_none _ _) ?_
  refine zz_cons (k' := 15) rfl (zk_throw X (th_X11_61_63 Wd) (by decide) dX11_make_14 dX11_make_17 dX11_make_18 dX11_make_20 dX11_make_23) ?_
  refine zz_cons (k' := 16) rfl (zz_Ok_none _ _) ?_
  refine zz_cons (k' := 17) rfl (zz_Ok_none _ _) ?_
  refine zz_cons (k' := 18) rfl (zz_Ok_none _ _) ?_
  refine zz_cons (k' := 19) rfl (zz_Ok_none _ _) ?_
  refine zz_cons (k' := 20) rfl (zz_Ok_none _ _) ?_
  refine zz_cons (k' := 21) rfl (zz_Ok_none _ _) ?_
  refine zz_cons (k' := 22) rfl (zz_Ok_none _ _) ?_
  refine zz_cons (k' := 23) rfl (zz_Ok_none _ _) ?_
  refine zz_cons (k' := 24) rfl (zz_Ok_none _ _) ?_
  refine zz_cons (k' := 25) rfl (zk_aload_n X dX11_make_24 rfl rfl) ?_
  refine zz_cons (k' := 26) rfl (zk_getf X ff_X11_10 dX11_make_25 rfl) ?_
  refine zz_cons (k' := 27) rfl (zz_Ok_none _ _) ?_
  refine zz_cons (k' := 28) rfl (zz_Ok_none _ _) ?_
  refine zz_cons (k' := 29) rfl (zk_iload_n X dX11_make_28 rfl rfl) ?_
  refine zz_cons (k' := 30) rfl (zk_iload_n X dX11_make_29 rfl rfl) ?_
  refine zz_cons (k' := 31) rfl (zk_iconst X dX11_make_30 (by decide) rfl) ?_
  refine zz_cons (k' := 32) rfl (zk_gets X (zzWC_sg2 Wd) (zz_in (by decide +kernel)) dX11_make_31 rfl) ?_
  refine zz_cons (k' := 33) rfl (zz_Ok_none _ _) ?_
  refine zz_cons (k' := 34) rfl (zz_Ok_none _ _) ?_
  refine zz_cons (k' := 35) rfl (zk_iconst X dX11_make_34 (by decide) rfl) ?_
  refine zz_cons (k' := 36) rfl (zk_iald X (zzWC_st Wd) dX11_make_35 rfl) ?_
  refine zz_cons (k' := 37) rfl (zk_callv X (zz_Cv_of (List.forall_mem_cons.mpr ⟨⟨(RX_8, zzT8, 9), yX9_open, cX9_open, 6, (some .int), 2, 50, rfl, kv_X11_71_8.1, (mm_X9_open Wd).1, by decide, by decide⟩, (fun _ h => absurd h List.not_mem_nil)⟩)) dX11_make_36 rfl) ?_
  refine zz_cons (k' := 38) rfl (zz_Ok_none _ _) ?_
  refine zz_cons (k' := 39) rfl (zz_Ok_none _ _) ?_
  refine zz_cons (k' := 40) rfl (zk_istore_n X dX11_make_39 rfl (by decide) rfl) ?_
  refine zz_cons (k' := 41) rfl (zk_iload_n X dX11_make_40 rfl rfl) ?_
  refine zz_cons (k' := 42) rfl (zk_iconst X dX11_make_41 (by decide) rfl) ?_
  refine zz_cons (k' := 43) rfl (zk_icmp_ne X dX11_make_42 (by decide) rfl) ?_
  refine zz_cons (k' := 44) rfl (zz_Ok_none _ _) ?_
  refine zz_cons (k' := 45) rfl (zz_Ok_none _ _) ?_
  refine zz_cons (k' := 46) rfl (zk_throw X (th_X11_75_77 Wd) (by decide) dX11_make_45 dX11_make_48 dX11_make_49 dX11_make_51 dX11_make_54) ?_
  refine zz_cons (k' := 47) rfl (zz_Ok_none _ _) ?_
  refine zz_cons (k' := 48) rfl (zz_Ok_none _ _) ?_
  refine zz_cons (k' := 49) rfl (zz_Ok_none _ _) ?_
  refine zz_cons (k' := 50) rfl (zz_Ok_none _ _) ?_
  refine zz_cons (k' := 51) rfl (zz_Ok_none _ _) ?_
  refine zz_cons (k' := 52) rfl (zz_Ok_none _ _) ?_
  refine zz_cons (k' := 53) rfl (zz_Ok_none _ _) ?_
  refine zz_cons (k' := 54) rfl (zz_Ok_none _ _) ?_
  refine zz_cons (k' := 55) rfl (zz_Ok_none _ _) ?_
  refine zz_cons (k' := 56) rfl (zk_iload_n X dX11_make_55 rfl rfl) ?_
  refine zz_cons (k' := 57) rfl (zk_iret X rfl dX11_make_56) ?_
  exact trivial
noncomputable def tX11_requireObject : List zzOp := [
  zo_iload 1 1,
  zo_if (fun x => decide (x < 0)) 15 4,
  zo_none,
  zo_none,
  zo_iload 1 5,
  zo_aload 0 6,
  zo_getf zzSC (zz_kf [9] 0) 9,
  zo_none,
  zo_none,
  zo_getf zzSC (zz_kf [8] 2) 12,
  zo_none,
  zo_none,
  zo_icmp (fun x y => decide (x < y)) 26 15,
  zo_none,
  zo_none,
  zo_throw 2,
  zo_none,
  zo_none,
  zo_none,
  zo_none,
  zo_none,
  zo_none,
  zo_none,
  zo_none,
  zo_none,
  zo_none,
  zo_ret]
set_option maxRecDepth 100000 in
theorem tl_X11_requireObject : ∀ pc, zz_Tl (tX11_requireObject.getD pc zo_none) := by
  refine zz_Tl_mem ?_
  unfold tX11_requireObject
  refine List.forall_mem_cons.mpr ⟨(zo_iload_tl _ _), ?_⟩
  refine List.forall_mem_cons.mpr ⟨(zo_if_tl _ _ _), ?_⟩
  refine List.forall_mem_cons.mpr ⟨zo_none_tl, ?_⟩
  refine List.forall_mem_cons.mpr ⟨zo_none_tl, ?_⟩
  refine List.forall_mem_cons.mpr ⟨(zo_iload_tl _ _), ?_⟩
  refine List.forall_mem_cons.mpr ⟨(zo_aload_tl _ _), ?_⟩
  refine List.forall_mem_cons.mpr ⟨(zo_getf_tl _ _ _), ?_⟩
  refine List.forall_mem_cons.mpr ⟨zo_none_tl, ?_⟩
  refine List.forall_mem_cons.mpr ⟨zo_none_tl, ?_⟩
  refine List.forall_mem_cons.mpr ⟨(zo_getf_tl _ _ _), ?_⟩
  refine List.forall_mem_cons.mpr ⟨zo_none_tl, ?_⟩
  refine List.forall_mem_cons.mpr ⟨zo_none_tl, ?_⟩
  refine List.forall_mem_cons.mpr ⟨(zo_icmp_tl _ _ _), ?_⟩
  refine List.forall_mem_cons.mpr ⟨zo_none_tl, ?_⟩
  refine List.forall_mem_cons.mpr ⟨zo_none_tl, ?_⟩
  refine List.forall_mem_cons.mpr ⟨(zo_throw_tl _), ?_⟩
  refine List.forall_mem_cons.mpr ⟨zo_none_tl, ?_⟩
  refine List.forall_mem_cons.mpr ⟨zo_none_tl, ?_⟩
  refine List.forall_mem_cons.mpr ⟨zo_none_tl, ?_⟩
  refine List.forall_mem_cons.mpr ⟨zo_none_tl, ?_⟩
  refine List.forall_mem_cons.mpr ⟨zo_none_tl, ?_⟩
  refine List.forall_mem_cons.mpr ⟨zo_none_tl, ?_⟩
  refine List.forall_mem_cons.mpr ⟨zo_none_tl, ?_⟩
  refine List.forall_mem_cons.mpr ⟨zo_none_tl, ?_⟩
  refine List.forall_mem_cons.mpr ⟨zo_none_tl, ?_⟩
  refine List.forall_mem_cons.mpr ⟨zo_none_tl, ?_⟩
  refine List.forall_mem_cons.mpr ⟨(zo_ret_tl), ?_⟩
  exact fun _ h => absurd h List.not_mem_nil
noncomputable def fX11_requireObject : zzFn := zz_fn tX11_requireObject 2
set_option maxRecDepth 100000 in
set_option maxHeartbeats 4000000 in
theorem mm_X11_requireObject {l : Launch} {D : va_G} {cA : Nat → ClassId} {ad : Nat → Nat} {Ex : (Nat → Prop) → State → Heap → Prop} (Wd : zzWC l D cA ad Ex) : zz_Cn l D zzCl cA ad zzSC Ex yX11_requireObject cX11_requireObject 2 none 6 82 fX11_requireObject ∧ zz_Cx l D zzCl cA ad zzSC Ex yX11_requireObject cX11_requireObject 2 none 6 82 fX11_requireObject := by
  refine zz_meth (plainFor_of_name (by decide)) Wd.1 Wd.2.1 Wd.2.2.1 (fun p e R s m args below meth c rr X => ?_)
  unfold tX11_requireObject
  refine zz_cons (k' := 1) rfl (zk_iload_n X dX11_requireObject_0 rfl rfl) ?_
  refine zz_cons (k' := 2) rfl (zk_if_lt X dX11_requireObject_1 (by decide) rfl) ?_
  refine zz_cons (k' := 3) rfl (zz_Ok_none _ _) ?_
  refine zz_cons (k' := 4) rfl (zz_Ok_none _ _) ?_
  refine zz_cons (k' := 5) rfl (zk_iload_n X dX11_requireObject_4 rfl rfl) ?_
  refine zz_cons (k' := 6) rfl (zk_aload_n X dX11_requireObject_5 rfl rfl) ?_
  refine zz_cons (k' := 7) rfl (zk_getf X ff_X11_10 dX11_requireObject_6 rfl) ?_
  refine zz_cons (k' := 8) rfl (zz_Ok_none _ _) ?_
  refine zz_cons (k' := 9) rfl (zz_Ok_none _ _) ?_
  refine zz_cons (k' := 10) rfl (zk_getf X ff_X11_243 dX11_requireObject_9 rfl) ?_
  refine zz_cons (k' := 11) rfl (zz_Ok_none _ _) ?_
  refine zz_cons (k' := 12) rfl (zz_Ok_none _ _) ?_
  refine zz_cons (k' := 13) rfl (zk_icmp_lt X dX11_requireObject_12 (by decide) rfl) ?_
  refine zz_cons (k' := 14) rfl (zz_Ok_none _ _) ?_
  refine zz_cons (k' := 15) rfl (zz_Ok_none _ _) ?_
  refine zz_cons (k' := 16) rfl (zk_throwW X (th_X11_208_295 Wd) (by decide) dX11_requireObject_15 dX11_requireObject_18 dX11_requireObject_19 dX11_requireObject_22 dX11_requireObject_25) ?_
  refine zz_cons (k' := 17) rfl (zz_Ok_none _ _) ?_
  refine zz_cons (k' := 18) rfl (zz_Ok_none _ _) ?_
  refine zz_cons (k' := 19) rfl (zz_Ok_none _ _) ?_
  refine zz_cons (k' := 20) rfl (zz_Ok_none _ _) ?_
  refine zz_cons (k' := 21) rfl (zz_Ok_none _ _) ?_
  refine zz_cons (k' := 22) rfl (zz_Ok_none _ _) ?_
  refine zz_cons (k' := 23) rfl (zz_Ok_none _ _) ?_
  refine zz_cons (k' := 24) rfl (zz_Ok_none _ _) ?_
  refine zz_cons (k' := 25) rfl (zz_Ok_none _ _) ?_
  refine zz_cons (k' := 26) rfl (zz_Ok_none _ _) ?_
  refine zz_cons (k' := 27) rfl (zk_ret X rfl dX11_requireObject_26) ?_
  exact trivial
noncomputable def tX11_isInRange : List zzOp := [
  zo_iload 0 1,
  zo_if (fun x => decide (x < 0)) 32 4,
  zo_none,
  zo_none,
  zo_iload 0 5,
  zo_pushI 11 7,
  zo_none,
  zo_icmp (fun x y => decide (y ≤ x)) 32 10,
  zo_none,
  zo_none,
  zo_iload 1 11,
  zo_gets 1000 14,
  zo_none,
  zo_none,
  zo_iload 0 15,
  zo_iald zzSC zzSTC 16,
  zo_icmp (fun x y => decide (x < y)) 32 19,
  zo_none,
  zo_none,
  zo_iload 1 20,
  zo_gets 1001 23,
  zo_none,
  zo_none,
  zo_iload 0 24,
  zo_iald zzSC zzSTC 25,
  zo_icmp (fun x y => decide (y < x)) 32 28,
  zo_none,
  zo_none,
  zo_pushI 1 29,
  zo_goto 33,
  zo_none,
  zo_none,
  zo_pushI 0 33,
  zo_iret true]
set_option maxRecDepth 100000 in
theorem tl_X11_isInRange : ∀ pc, zz_Tl (tX11_isInRange.getD pc zo_none) := by
  refine zz_Tl_mem ?_
  unfold tX11_isInRange
  refine List.forall_mem_cons.mpr ⟨(zo_iload_tl _ _), ?_⟩
  refine List.forall_mem_cons.mpr ⟨(zo_if_tl _ _ _), ?_⟩
  refine List.forall_mem_cons.mpr ⟨zo_none_tl, ?_⟩
  refine List.forall_mem_cons.mpr ⟨zo_none_tl, ?_⟩
  refine List.forall_mem_cons.mpr ⟨(zo_iload_tl _ _), ?_⟩
  refine List.forall_mem_cons.mpr ⟨(zo_pushI_tl _ _), ?_⟩
  refine List.forall_mem_cons.mpr ⟨zo_none_tl, ?_⟩
  refine List.forall_mem_cons.mpr ⟨(zo_icmp_tl _ _ _), ?_⟩
  refine List.forall_mem_cons.mpr ⟨zo_none_tl, ?_⟩
  refine List.forall_mem_cons.mpr ⟨zo_none_tl, ?_⟩
  refine List.forall_mem_cons.mpr ⟨(zo_iload_tl _ _), ?_⟩
  refine List.forall_mem_cons.mpr ⟨(zo_gets_tl _ _), ?_⟩
  refine List.forall_mem_cons.mpr ⟨zo_none_tl, ?_⟩
  refine List.forall_mem_cons.mpr ⟨zo_none_tl, ?_⟩
  refine List.forall_mem_cons.mpr ⟨(zo_iload_tl _ _), ?_⟩
  refine List.forall_mem_cons.mpr ⟨(zo_iald_tl _ _ _), ?_⟩
  refine List.forall_mem_cons.mpr ⟨(zo_icmp_tl _ _ _), ?_⟩
  refine List.forall_mem_cons.mpr ⟨zo_none_tl, ?_⟩
  refine List.forall_mem_cons.mpr ⟨zo_none_tl, ?_⟩
  refine List.forall_mem_cons.mpr ⟨(zo_iload_tl _ _), ?_⟩
  refine List.forall_mem_cons.mpr ⟨(zo_gets_tl _ _), ?_⟩
  refine List.forall_mem_cons.mpr ⟨zo_none_tl, ?_⟩
  refine List.forall_mem_cons.mpr ⟨zo_none_tl, ?_⟩
  refine List.forall_mem_cons.mpr ⟨(zo_iload_tl _ _), ?_⟩
  refine List.forall_mem_cons.mpr ⟨(zo_iald_tl _ _ _), ?_⟩
  refine List.forall_mem_cons.mpr ⟨(zo_icmp_tl _ _ _), ?_⟩
  refine List.forall_mem_cons.mpr ⟨zo_none_tl, ?_⟩
  refine List.forall_mem_cons.mpr ⟨zo_none_tl, ?_⟩
  refine List.forall_mem_cons.mpr ⟨(zo_pushI_tl _ _), ?_⟩
  refine List.forall_mem_cons.mpr ⟨(zo_goto_tl _), ?_⟩
  refine List.forall_mem_cons.mpr ⟨zo_none_tl, ?_⟩
  refine List.forall_mem_cons.mpr ⟨zo_none_tl, ?_⟩
  refine List.forall_mem_cons.mpr ⟨(zo_pushI_tl _ _), ?_⟩
  refine List.forall_mem_cons.mpr ⟨(zo_iret_tl _), ?_⟩
  exact fun _ h => absurd h List.not_mem_nil
noncomputable def fX11_isInRange : zzFn := zz_fn tX11_isInRange 2
set_option maxRecDepth 100000 in
set_option maxHeartbeats 4000000 in
theorem mm_X11_isInRange {l : Launch} {D : va_G} {cA : Nat → ClassId} {ad : Nat → Nat} {Ex : (Nat → Prop) → State → Heap → Prop} (Wd : zzWC l D cA ad Ex) : zz_Cn l D zzCl cA ad zzSC Ex yX11_isInRange cX11_isInRange 2 (some .boolean) 0 0 fX11_isInRange ∧ zz_Cx l D zzCl cA ad zzSC Ex yX11_isInRange cX11_isInRange 2 (some .boolean) 0 0 fX11_isInRange := by
  refine zz_meth (plainFor_of_name (by decide)) Wd.1 Wd.2.1 Wd.2.2.1 (fun p e R s m args below meth c rr X => ?_)
  unfold tX11_isInRange
  refine zz_cons (k' := 1) rfl (zk_iload_n X dX11_isInRange_0 rfl rfl) ?_
  refine zz_cons (k' := 2) rfl (zk_if_lt X dX11_isInRange_1 (by decide) rfl) ?_
  refine zz_cons (k' := 3) rfl (zz_Ok_none _ _) ?_
  refine zz_cons (k' := 4) rfl (zz_Ok_none _ _) ?_
  refine zz_cons (k' := 5) rfl (zk_iload_n X dX11_isInRange_4 rfl rfl) ?_
  refine zz_cons (k' := 6) rfl (zk_bipush X dX11_isInRange_5 (by decide) rfl) ?_
  refine zz_cons (k' := 7) rfl (zz_Ok_none _ _) ?_
  refine zz_cons (k' := 8) rfl (zk_icmp_ge X dX11_isInRange_7 (by decide) rfl) ?_
  refine zz_cons (k' := 9) rfl (zz_Ok_none _ _) ?_
  refine zz_cons (k' := 10) rfl (zz_Ok_none _ _) ?_
  refine zz_cons (k' := 11) rfl (zk_iload_n X dX11_isInRange_10 rfl rfl) ?_
  refine zz_cons (k' := 12) rfl (zk_gets X (zzWC_sg0 Wd) (zz_in (by decide +kernel)) dX11_isInRange_11 rfl) ?_
  refine zz_cons (k' := 13) rfl (zz_Ok_none _ _) ?_
  refine zz_cons (k' := 14) rfl (zz_Ok_none _ _) ?_
  refine zz_cons (k' := 15) rfl (zk_iload_n X dX11_isInRange_14 rfl rfl) ?_
  refine zz_cons (k' := 16) rfl (zk_iald X (zzWC_st Wd) dX11_isInRange_15 rfl) ?_
  refine zz_cons (k' := 17) rfl (zk_icmp_lt X dX11_isInRange_16 (by decide) rfl) ?_
  refine zz_cons (k' := 18) rfl (zz_Ok_none _ _) ?_
  refine zz_cons (k' := 19) rfl (zz_Ok_none _ _) ?_
  refine zz_cons (k' := 20) rfl (zk_iload_n X dX11_isInRange_19 rfl rfl) ?_
  refine zz_cons (k' := 21) rfl (zk_gets X (zzWC_sg1 Wd) (zz_in (by decide +kernel)) dX11_isInRange_20 rfl) ?_
  refine zz_cons (k' := 22) rfl (zz_Ok_none _ _) ?_
  refine zz_cons (k' := 23) rfl (zz_Ok_none _ _) ?_
  refine zz_cons (k' := 24) rfl (zk_iload_n X dX11_isInRange_23 rfl rfl) ?_
  refine zz_cons (k' := 25) rfl (zk_iald X (zzWC_st Wd) dX11_isInRange_24 rfl) ?_
  refine zz_cons (k' := 26) rfl (zk_icmp_gt X dX11_isInRange_25 (by decide) rfl) ?_
  refine zz_cons (k' := 27) rfl (zz_Ok_none _ _) ?_
  refine zz_cons (k' := 28) rfl (zz_Ok_none _ _) ?_
  refine zz_cons (k' := 29) rfl (zk_iconst X dX11_isInRange_28 (by decide) rfl) ?_
  refine zz_cons (k' := 30) rfl (zk_goto X dX11_isInRange_29 (by decide)) ?_
  refine zz_cons (k' := 31) rfl (zz_Ok_none _ _) ?_
  refine zz_cons (k' := 32) rfl (zz_Ok_none _ _) ?_
  refine zz_cons (k' := 33) rfl (zk_iconst X dX11_isInRange_32 (by decide) rfl) ?_
  refine zz_cons (k' := 34) rfl (zk_iret X rfl dX11_isInRange_33) ?_
  exact trivial
noncomputable def tX11_apply : List zzOp := [
  zo_aload 0 1,
  zo_iload 2 2,
  zo_callx zzSC (zz_cl [(9, fX11_requireObject)]) 1 5,
  zo_none,
  zo_none,
  zo_iload 1 6,
  zo_calls fX11_isCaller 1 9,
  zo_none,
  zo_none,
  zo_if (fun x => decide (x = 0)) 38 12,
  zo_none,
  zo_none,
  zo_aload 0 13,
  zo_getf zzSC (zz_kf [9] 0) 16,
  zo_none,
  zo_none,
  zo_iload 2 17,
  zo_pushI 23 19,
  zo_none,
  zo_callv zzSC (zz_cl [(8, fX10_read)]) 2 22,
  zo_none,
  zo_none,
  zo_iload 3 23,
  zo_calls fX11_hasField 2 26,
  zo_none,
  zo_none,
  zo_if (fun x => decide (x = 0)) 38 29,
  zo_none,
  zo_none,
  zo_iload 3 30,
  zo_iload 4 32,
  zo_none,
  zo_calls fX11_isInRange 2 35,
  zo_none,
  zo_none,
  zo_if (fun x => decide (¬ x = 0)) 48 38,
  zo_none,
  zo_none,
  zo_throw 0,
  zo_none,
  zo_none,
  zo_none,
  zo_none,
  zo_none,
  zo_none,
  zo_none,
  zo_none,
  zo_none,
  zo_aload 0 49,
  zo_getf zzSC (zz_kf [9] 0) 52,
  zo_none,
  zo_none,
  zo_iload 2 53,
  zo_callv zzSC (zz_cl [(8, fX10_isGone)]) 1 56,
  zo_none,
  zo_none,
  zo_if (fun x => decide (¬ x = 0)) 78 59,
  zo_none,
  zo_none,
  zo_iload 5 61,
  zo_none,
  zo_pushI (-1) 62,
  zo_icmp (fun x y => decide (x = y)) 88 65,
  zo_none,
  zo_none,
  zo_iload 5 67,
  zo_none,
  zo_aload 0 68,
  zo_getf zzSC (zz_kf [9] 0) 71,
  zo_none,
  zo_none,
  zo_iload 2 72,
  zo_callv zzSC (zz_cl [(8, fX10_latestOf)]) 1 75,
  zo_none,
  zo_none,
  zo_icmp (fun x y => decide (x = y)) 88 78,
  zo_none,
  zo_none,
  zo_throw 1,
  zo_none,
  zo_none,
  zo_none,
  zo_none,
  zo_none,
  zo_none,
  zo_none,
  zo_none,
  zo_none,
  zo_iload 6 90,
  zo_none,
  zo_if (fun x => decide (¬ x = 0)) 119 93,
  zo_none,
  zo_none,
  zo_aload 0 94,
  zo_getf zzSC (zz_kf [9] 0) 97,
  zo_none,
  zo_none,
  zo_iload 2 98,
  zo_pushI 11 100,
  zo_none,
  zo_iload 3 101,
  zo_ii (fun x y => x + y) 102,
  zo_callv zzSC (zz_cl [(8, fX10_read)]) 2 105,
  zo_none,
  zo_none,
  zo_iload 1 106,
  zo_icmp (fun x y => decide (x = y)) 119 109,
  zo_none,
  zo_none,
  zo_throw 1,
  zo_none,
  zo_none,
  zo_none,
  zo_none,
  zo_none,
  zo_none,
  zo_none,
  zo_none,
  zo_none,
  zo_aload 0 120,
  zo_getf zzSC (zz_kf [9] 0) 123,
  zo_none,
  zo_none,
  zo_iload 1 124,
  zo_iload 2 125,
  zo_iload 3 126,
  zo_iload 4 128,
  zo_none,
  zo_callv zzSC (zz_cl [(8, fX9_applyField)]) 4 131,
  zo_none,
  zo_none,
  zo_if (fun x => decide (¬ x = 0)) 144 134,
  zo_none,
  zo_none,
  zo_throw 1,
  zo_none,
  zo_none,
  zo_none,
  zo_none,
  zo_none,
  zo_none,
  zo_none,
  zo_none,
  zo_none,
  zo_aload 0 145,
  zo_getf zzSC (zz_kf [9] 0) 148,
  zo_none,
  zo_none,
  zo_iload 2 149,
  zo_callv zzSC (zz_cl [(8, fX10_latestOf)]) 1 152,
  zo_none,
  zo_none,
  zo_iret false]
set_option maxRecDepth 100000 in
theorem tl_X11_apply : ∀ pc, zz_Tl (tX11_apply.getD pc zo_none) := by
  refine zz_Tl_mem ?_
  unfold tX11_apply
  refine List.forall_mem_cons.mpr ⟨(zo_aload_tl _ _), ?_⟩
  refine List.forall_mem_cons.mpr ⟨(zo_iload_tl _ _), ?_⟩
  refine List.forall_mem_cons.mpr ⟨(zo_callx_tl _ _ _ _), ?_⟩
  refine List.forall_mem_cons.mpr ⟨zo_none_tl, ?_⟩
  refine List.forall_mem_cons.mpr ⟨zo_none_tl, ?_⟩
  refine List.forall_mem_cons.mpr ⟨(zo_iload_tl _ _), ?_⟩
  refine List.forall_mem_cons.mpr ⟨(zo_calls_tl _ _ _), ?_⟩
  refine List.forall_mem_cons.mpr ⟨zo_none_tl, ?_⟩
  refine List.forall_mem_cons.mpr ⟨zo_none_tl, ?_⟩
  refine List.forall_mem_cons.mpr ⟨(zo_if_tl _ _ _), ?_⟩
  refine List.forall_mem_cons.mpr ⟨zo_none_tl, ?_⟩
  refine List.forall_mem_cons.mpr ⟨zo_none_tl, ?_⟩
  refine List.forall_mem_cons.mpr ⟨(zo_aload_tl _ _), ?_⟩
  refine List.forall_mem_cons.mpr ⟨(zo_getf_tl _ _ _), ?_⟩
  refine List.forall_mem_cons.mpr ⟨zo_none_tl, ?_⟩
  refine List.forall_mem_cons.mpr ⟨zo_none_tl, ?_⟩
  refine List.forall_mem_cons.mpr ⟨(zo_iload_tl _ _), ?_⟩
  refine List.forall_mem_cons.mpr ⟨(zo_pushI_tl _ _), ?_⟩
  refine List.forall_mem_cons.mpr ⟨zo_none_tl, ?_⟩
  refine List.forall_mem_cons.mpr ⟨(zo_callv_tl _ _ _ _), ?_⟩
  refine List.forall_mem_cons.mpr ⟨zo_none_tl, ?_⟩
  refine List.forall_mem_cons.mpr ⟨zo_none_tl, ?_⟩
  refine List.forall_mem_cons.mpr ⟨(zo_iload_tl _ _), ?_⟩
  refine List.forall_mem_cons.mpr ⟨(zo_calls_tl _ _ _), ?_⟩
  refine List.forall_mem_cons.mpr ⟨zo_none_tl, ?_⟩
  refine List.forall_mem_cons.mpr ⟨zo_none_tl, ?_⟩
  refine List.forall_mem_cons.mpr ⟨(zo_if_tl _ _ _), ?_⟩
  refine List.forall_mem_cons.mpr ⟨zo_none_tl, ?_⟩
  refine List.forall_mem_cons.mpr ⟨zo_none_tl, ?_⟩
  refine List.forall_mem_cons.mpr ⟨(zo_iload_tl _ _), ?_⟩
  refine List.forall_mem_cons.mpr ⟨(zo_iload_tl _ _), ?_⟩
  refine List.forall_mem_cons.mpr ⟨zo_none_tl, ?_⟩
  refine List.forall_mem_cons.mpr ⟨(zo_calls_tl _ _ _), ?_⟩
  refine List.forall_mem_cons.mpr ⟨zo_none_tl, ?_⟩
  refine List.forall_mem_cons.mpr ⟨zo_none_tl, ?_⟩
  refine List.forall_mem_cons.mpr ⟨(zo_if_tl _ _ _), ?_⟩
  refine List.forall_mem_cons.mpr ⟨zo_none_tl, ?_⟩
  refine List.forall_mem_cons.mpr ⟨zo_none_tl, ?_⟩
  refine List.forall_mem_cons.mpr ⟨(zo_throw_tl _), ?_⟩
  refine List.forall_mem_cons.mpr ⟨zo_none_tl, ?_⟩
  refine List.forall_mem_cons.mpr ⟨zo_none_tl, ?_⟩
  refine List.forall_mem_cons.mpr ⟨zo_none_tl, ?_⟩
  refine List.forall_mem_cons.mpr ⟨zo_none_tl, ?_⟩
  refine List.forall_mem_cons.mpr ⟨zo_none_tl, ?_⟩
  refine List.forall_mem_cons.mpr ⟨zo_none_tl, ?_⟩
  refine List.forall_mem_cons.mpr ⟨zo_none_tl, ?_⟩
  refine List.forall_mem_cons.mpr ⟨zo_none_tl, ?_⟩
  refine List.forall_mem_cons.mpr ⟨zo_none_tl, ?_⟩
  refine List.forall_mem_cons.mpr ⟨(zo_aload_tl _ _), ?_⟩
  refine List.forall_mem_cons.mpr ⟨(zo_getf_tl _ _ _), ?_⟩
  refine List.forall_mem_cons.mpr ⟨zo_none_tl, ?_⟩
  refine List.forall_mem_cons.mpr ⟨zo_none_tl, ?_⟩
  refine List.forall_mem_cons.mpr ⟨(zo_iload_tl _ _), ?_⟩
  refine List.forall_mem_cons.mpr ⟨(zo_callv_tl _ _ _ _), ?_⟩
  refine List.forall_mem_cons.mpr ⟨zo_none_tl, ?_⟩
  refine List.forall_mem_cons.mpr ⟨zo_none_tl, ?_⟩
  refine List.forall_mem_cons.mpr ⟨(zo_if_tl _ _ _), ?_⟩
  refine List.forall_mem_cons.mpr ⟨zo_none_tl, ?_⟩
  refine List.forall_mem_cons.mpr ⟨zo_none_tl, ?_⟩
  refine List.forall_mem_cons.mpr ⟨(zo_iload_tl _ _), ?_⟩
  refine List.forall_mem_cons.mpr ⟨zo_none_tl, ?_⟩
  refine List.forall_mem_cons.mpr ⟨(zo_pushI_tl _ _), ?_⟩
  refine List.forall_mem_cons.mpr ⟨(zo_icmp_tl _ _ _), ?_⟩
  refine List.forall_mem_cons.mpr ⟨zo_none_tl, ?_⟩
  refine List.forall_mem_cons.mpr ⟨zo_none_tl, ?_⟩
  refine List.forall_mem_cons.mpr ⟨(zo_iload_tl _ _), ?_⟩
  refine List.forall_mem_cons.mpr ⟨zo_none_tl, ?_⟩
  refine List.forall_mem_cons.mpr ⟨(zo_aload_tl _ _), ?_⟩
  refine List.forall_mem_cons.mpr ⟨(zo_getf_tl _ _ _), ?_⟩
  refine List.forall_mem_cons.mpr ⟨zo_none_tl, ?_⟩
  refine List.forall_mem_cons.mpr ⟨zo_none_tl, ?_⟩
  refine List.forall_mem_cons.mpr ⟨(zo_iload_tl _ _), ?_⟩
  refine List.forall_mem_cons.mpr ⟨(zo_callv_tl _ _ _ _), ?_⟩
  refine List.forall_mem_cons.mpr ⟨zo_none_tl, ?_⟩
  refine List.forall_mem_cons.mpr ⟨zo_none_tl, ?_⟩
  refine List.forall_mem_cons.mpr ⟨(zo_icmp_tl _ _ _), ?_⟩
  refine List.forall_mem_cons.mpr ⟨zo_none_tl, ?_⟩
  refine List.forall_mem_cons.mpr ⟨zo_none_tl, ?_⟩
  refine List.forall_mem_cons.mpr ⟨(zo_throw_tl _), ?_⟩
  refine List.forall_mem_cons.mpr ⟨zo_none_tl, ?_⟩
  refine List.forall_mem_cons.mpr ⟨zo_none_tl, ?_⟩
  refine List.forall_mem_cons.mpr ⟨zo_none_tl, ?_⟩
  refine List.forall_mem_cons.mpr ⟨zo_none_tl, ?_⟩
  refine List.forall_mem_cons.mpr ⟨zo_none_tl, ?_⟩
  refine List.forall_mem_cons.mpr ⟨zo_none_tl, ?_⟩
  refine List.forall_mem_cons.mpr ⟨zo_none_tl, ?_⟩
  refine List.forall_mem_cons.mpr ⟨zo_none_tl, ?_⟩
  refine List.forall_mem_cons.mpr ⟨zo_none_tl, ?_⟩
  refine List.forall_mem_cons.mpr ⟨(zo_iload_tl _ _), ?_⟩
  refine List.forall_mem_cons.mpr ⟨zo_none_tl, ?_⟩
  refine List.forall_mem_cons.mpr ⟨(zo_if_tl _ _ _), ?_⟩
  refine List.forall_mem_cons.mpr ⟨zo_none_tl, ?_⟩
  refine List.forall_mem_cons.mpr ⟨zo_none_tl, ?_⟩
  refine List.forall_mem_cons.mpr ⟨(zo_aload_tl _ _), ?_⟩
  refine List.forall_mem_cons.mpr ⟨(zo_getf_tl _ _ _), ?_⟩
  refine List.forall_mem_cons.mpr ⟨zo_none_tl, ?_⟩
  refine List.forall_mem_cons.mpr ⟨zo_none_tl, ?_⟩
  refine List.forall_mem_cons.mpr ⟨(zo_iload_tl _ _), ?_⟩
  refine List.forall_mem_cons.mpr ⟨(zo_pushI_tl _ _), ?_⟩
  refine List.forall_mem_cons.mpr ⟨zo_none_tl, ?_⟩
  refine List.forall_mem_cons.mpr ⟨(zo_iload_tl _ _), ?_⟩
  refine List.forall_mem_cons.mpr ⟨(zo_ii_tl _ _), ?_⟩
  refine List.forall_mem_cons.mpr ⟨(zo_callv_tl _ _ _ _), ?_⟩
  refine List.forall_mem_cons.mpr ⟨zo_none_tl, ?_⟩
  refine List.forall_mem_cons.mpr ⟨zo_none_tl, ?_⟩
  refine List.forall_mem_cons.mpr ⟨(zo_iload_tl _ _), ?_⟩
  refine List.forall_mem_cons.mpr ⟨(zo_icmp_tl _ _ _), ?_⟩
  refine List.forall_mem_cons.mpr ⟨zo_none_tl, ?_⟩
  refine List.forall_mem_cons.mpr ⟨zo_none_tl, ?_⟩
  refine List.forall_mem_cons.mpr ⟨(zo_throw_tl _), ?_⟩
  refine List.forall_mem_cons.mpr ⟨zo_none_tl, ?_⟩
  refine List.forall_mem_cons.mpr ⟨zo_none_tl, ?_⟩
  refine List.forall_mem_cons.mpr ⟨zo_none_tl, ?_⟩
  refine List.forall_mem_cons.mpr ⟨zo_none_tl, ?_⟩
  refine List.forall_mem_cons.mpr ⟨zo_none_tl, ?_⟩
  refine List.forall_mem_cons.mpr ⟨zo_none_tl, ?_⟩
  refine List.forall_mem_cons.mpr ⟨zo_none_tl, ?_⟩
  refine List.forall_mem_cons.mpr ⟨zo_none_tl, ?_⟩
  refine List.forall_mem_cons.mpr ⟨zo_none_tl, ?_⟩
  refine List.forall_mem_cons.mpr ⟨(zo_aload_tl _ _), ?_⟩
  refine List.forall_mem_cons.mpr ⟨(zo_getf_tl _ _ _), ?_⟩
  refine List.forall_mem_cons.mpr ⟨zo_none_tl, ?_⟩
  refine List.forall_mem_cons.mpr ⟨zo_none_tl, ?_⟩
  refine List.forall_mem_cons.mpr ⟨(zo_iload_tl _ _), ?_⟩
  refine List.forall_mem_cons.mpr ⟨(zo_iload_tl _ _), ?_⟩
  refine List.forall_mem_cons.mpr ⟨(zo_iload_tl _ _), ?_⟩
  refine List.forall_mem_cons.mpr ⟨(zo_iload_tl _ _), ?_⟩
  refine List.forall_mem_cons.mpr ⟨zo_none_tl, ?_⟩
  refine List.forall_mem_cons.mpr ⟨(zo_callv_tl _ _ _ _), ?_⟩
  refine List.forall_mem_cons.mpr ⟨zo_none_tl, ?_⟩
  refine List.forall_mem_cons.mpr ⟨zo_none_tl, ?_⟩
  refine List.forall_mem_cons.mpr ⟨(zo_if_tl _ _ _), ?_⟩
  refine List.forall_mem_cons.mpr ⟨zo_none_tl, ?_⟩
  refine List.forall_mem_cons.mpr ⟨zo_none_tl, ?_⟩
  refine List.forall_mem_cons.mpr ⟨(zo_throw_tl _), ?_⟩
  refine List.forall_mem_cons.mpr ⟨zo_none_tl, ?_⟩
  refine List.forall_mem_cons.mpr ⟨zo_none_tl, ?_⟩
  refine List.forall_mem_cons.mpr ⟨zo_none_tl, ?_⟩
  refine List.forall_mem_cons.mpr ⟨zo_none_tl, ?_⟩
  refine List.forall_mem_cons.mpr ⟨zo_none_tl, ?_⟩
  refine List.forall_mem_cons.mpr ⟨zo_none_tl, ?_⟩
  refine List.forall_mem_cons.mpr ⟨zo_none_tl, ?_⟩
  refine List.forall_mem_cons.mpr ⟨zo_none_tl, ?_⟩
  refine List.forall_mem_cons.mpr ⟨zo_none_tl, ?_⟩
  refine List.forall_mem_cons.mpr ⟨(zo_aload_tl _ _), ?_⟩
  refine List.forall_mem_cons.mpr ⟨(zo_getf_tl _ _ _), ?_⟩
  refine List.forall_mem_cons.mpr ⟨zo_none_tl, ?_⟩
  refine List.forall_mem_cons.mpr ⟨zo_none_tl, ?_⟩
  refine List.forall_mem_cons.mpr ⟨(zo_iload_tl _ _), ?_⟩
  refine List.forall_mem_cons.mpr ⟨(zo_callv_tl _ _ _ _), ?_⟩
  refine List.forall_mem_cons.mpr ⟨zo_none_tl, ?_⟩
  refine List.forall_mem_cons.mpr ⟨zo_none_tl, ?_⟩
  refine List.forall_mem_cons.mpr ⟨(zo_iret_tl _), ?_⟩
  exact fun _ h => absurd h List.not_mem_nil
noncomputable def fX11_apply : zzFn := zz_fn tX11_apply 7
set_option maxRecDepth 100000 in
set_option maxHeartbeats 4000000 in
theorem mm_X11_apply {l : Launch} {D : va_G} {cA : Nat → ClassId} {ad : Nat → Nat} {Ex : (Nat → Prop) → State → Heap → Prop} (Wd : zzWC l D cA ad Ex) : zz_Cn l D zzCl cA ad zzSC Ex yX11_apply cX11_apply 7 (some .int) 7 103 fX11_apply ∧ zz_Cx l D zzCl cA ad zzSC Ex yX11_apply cX11_apply 7 (some .int) 7 103 fX11_apply := by
  refine zz_meth (plainFor_of_name (by decide)) Wd.1 Wd.2.1 Wd.2.2.1 (fun p e R s m args below meth c rr X => ?_)
  unfold tX11_apply
  refine zz_cons (k' := 1) rfl (zk_aload_n X dX11_apply_0 rfl rfl) ?_
  refine zz_cons (k' := 2) rfl (zk_iload_n X dX11_apply_1 rfl rfl) ?_
  refine zz_cons (k' := 3) rfl (zk_callx X (zz_Cw_of (List.forall_mem_cons.mpr ⟨⟨(RX_9, zzT9, 5), yX11_requireObject, cX11_requireObject, 2, none, 6, 82, rfl, kv_X11_80_9, (mm_X11_requireObject Wd), by decide, by decide⟩, (fun _ h => absurd h List.not_mem_nil)⟩)) dX11_apply_2 rfl) ?_
  refine zz_cons (k' := 4) rfl (zz_Ok_none _ _) ?_
  refine zz_cons (k' := 5) rfl (zz_Ok_none _ _) ?_
  refine zz_cons (k' := 6) rfl (zk_iload_n X dX11_apply_5 rfl rfl) ?_
  refine zz_cons (k' := 7) rfl (zk_calls X ks_X11_54 (mm_X11_isCaller Wd).1 (by decide) dX11_apply_6 rfl) ?_
  refine zz_cons (k' := 8) rfl (zz_Ok_none _ _) ?_
  refine zz_cons (k' := 9) rfl (zz_Ok_none _ _) ?_
  refine zz_cons (k' := 10) rfl (zk_if_eq X dX11_apply_9 (by decide) rfl) ?_
  refine zz_cons (k' := 11) rfl (zz_Ok_none _ _) ?_
  refine zz_cons (k' := 12) rfl (zz_Ok_none _ _) ?_
  refine zz_cons (k' := 13) rfl (zk_aload_n X dX11_apply_12 rfl rfl) ?_
  refine zz_cons (k' := 14) rfl (zk_getf X ff_X11_10 dX11_apply_13 rfl) ?_
  refine zz_cons (k' := 15) rfl (zz_Ok_none _ _) ?_
  refine zz_cons (k' := 16) rfl (zz_Ok_none _ _) ?_
  refine zz_cons (k' := 17) rfl (zk_iload_n X dX11_apply_16 rfl rfl) ?_
  refine zz_cons (k' := 18) rfl (zk_bipush X dX11_apply_17 (by decide) rfl) ?_
  refine zz_cons (k' := 19) rfl (zz_Ok_none _ _) ?_
  refine zz_cons (k' := 20) rfl (zk_callv X (zz_Cv_of (List.forall_mem_cons.mpr ⟨⟨(RX_8, zzT8, 9), yX10_read, cX10_read, 3, (some .int), 0, 0, rfl, kv_X11_84_8, (mm_X10_read Wd).1, by decide, by decide⟩, (fun _ h => absurd h List.not_mem_nil)⟩)) dX11_apply_19 rfl) ?_
  refine zz_cons (k' := 21) rfl (zz_Ok_none _ _) ?_
  refine zz_cons (k' := 22) rfl (zz_Ok_none _ _) ?_
  refine zz_cons (k' := 23) rfl (zk_iload_n X dX11_apply_22 rfl rfl) ?_
  refine zz_cons (k' := 24) rfl (zk_calls X ks_X11_88 (mm_X11_hasField Wd).1 (by decide) dX11_apply_23 rfl) ?_
  refine zz_cons (k' := 25) rfl (zz_Ok_none _ _) ?_
  refine zz_cons (k' := 26) rfl (zz_Ok_none _ _) ?_
  refine zz_cons (k' := 27) rfl (zk_if_eq X dX11_apply_26 (by decide) rfl) ?_
  refine zz_cons (k' := 28) rfl (zz_Ok_none _ _) ?_
  refine zz_cons (k' := 29) rfl (zz_Ok_none _ _) ?_
  refine zz_cons (k' := 30) rfl (zk_iload_n X dX11_apply_29 rfl rfl) ?_
  refine zz_cons (k' := 31) rfl (zk_iload X dX11_apply_30 rfl) ?_
  refine zz_cons (k' := 32) rfl (zz_Ok_none _ _) ?_
  refine zz_cons (k' := 33) rfl (zk_calls X ks_X11_92 (mm_X11_isInRange Wd).1 (by decide) dX11_apply_32 rfl) ?_
  refine zz_cons (k' := 34) rfl (zz_Ok_none _ _) ?_
  refine zz_cons (k' := 35) rfl (zz_Ok_none _ _) ?_
  refine zz_cons (k' := 36) rfl (zk_if_ne X dX11_apply_35 (by decide) rfl) ?_
  refine zz_cons (k' := 37) rfl (zz_Ok_none _ _) ?_
  refine zz_cons (k' := 38) rfl (zz_Ok_none _ _) ?_
  refine zz_cons (k' := 39) rfl (zk_throw X (th_X11_61_95 Wd) (by decide) dX11_apply_38 dX11_apply_41 dX11_apply_42 dX11_apply_44 dX11_apply_47) ?_
  refine zz_cons (k' := 40) rfl (zz_Ok_none _ _) ?_
  refine zz_cons (k' := 41) rfl (zz_Ok_none _ _) ?_
  refine zz_cons (k' := 42) rfl (zz_Ok_none _ _) ?_
  refine zz_cons (k' := 43) rfl (zz_Ok_none _ _) ?_
  refine zz_cons (k' := 44) rfl (zz_Ok_none _ _) ?_
  refine zz_cons (k' := 45) rfl (zz_Ok_none _ _) ?_
  refine zz_cons (k' := 46) rfl (zz_Ok_none _ _) ?_
  refine zz_cons (k' := 47) rfl (zz_Ok_none _ _) ?_
  refine zz_cons (k' := 48) rfl (zz_Ok_none _ _) ?_
  refine zz_cons (k' := 49) rfl (zk_aload_n X dX11_apply_48 rfl rfl) ?_
  refine zz_cons (k' := 50) rfl (zk_getf X ff_X11_10 dX11_apply_49 rfl) ?_
  refine zz_cons (k' := 51) rfl (zz_Ok_none _ _) ?_
  refine zz_cons (k' := 52) rfl (zz_Ok_none _ _) ?_
  refine zz_cons (k' := 53) rfl (zk_iload_n X dX11_apply_52 rfl rfl) ?_
  refine zz_cons (k' := 54) rfl (zk_callv X (zz_Cv_of (List.forall_mem_cons.mpr ⟨⟨(RX_8, zzT8, 9), yX10_isGone, cX10_isGone, 2, (some .boolean), 1, 22, rfl, kv_X11_97_8, (mm_X10_isGone Wd).1, by decide, by decide⟩, (fun _ h => absurd h List.not_mem_nil)⟩)) dX11_apply_53 rfl) ?_
  refine zz_cons (k' := 55) rfl (zz_Ok_none _ _) ?_
  refine zz_cons (k' := 56) rfl (zz_Ok_none _ _) ?_
  refine zz_cons (k' := 57) rfl (zk_if_ne X dX11_apply_56 (by decide) rfl) ?_
  refine zz_cons (k' := 58) rfl (zz_Ok_none _ _) ?_
  refine zz_cons (k' := 59) rfl (zz_Ok_none _ _) ?_
  refine zz_cons (k' := 60) rfl (zk_iload X dX11_apply_59 rfl) ?_
  refine zz_cons (k' := 61) rfl (zz_Ok_none _ _) ?_
  refine zz_cons (k' := 62) rfl (zk_iconst X dX11_apply_61 (by decide) rfl) ?_
  refine zz_cons (k' := 63) rfl (zk_icmp_eq X dX11_apply_62 (by decide) rfl) ?_
  refine zz_cons (k' := 64) rfl (zz_Ok_none _ _) ?_
  refine zz_cons (k' := 65) rfl (zz_Ok_none _ _) ?_
  refine zz_cons (k' := 66) rfl (zk_iload X dX11_apply_65 rfl) ?_
  refine zz_cons (k' := 67) rfl (zz_Ok_none _ _) ?_
  refine zz_cons (k' := 68) rfl (zk_aload_n X dX11_apply_67 rfl rfl) ?_
  refine zz_cons (k' := 69) rfl (zk_getf X ff_X11_10 dX11_apply_68 rfl) ?_
  refine zz_cons (k' := 70) rfl (zz_Ok_none _ _) ?_
  refine zz_cons (k' := 71) rfl (zz_Ok_none _ _) ?_
  refine zz_cons (k' := 72) rfl (zk_iload_n X dX11_apply_71 rfl rfl) ?_
  refine zz_cons (k' := 73) rfl (zk_callv X (zz_Cv_of (List.forall_mem_cons.mpr ⟨⟨(RX_8, zzT8, 9), yX10_latestOf, cX10_latestOf, 2, (some .int), 0, 0, rfl, kv_X11_100_8, (mm_X10_latestOf Wd).1, by decide, by decide⟩, (fun _ h => absurd h List.not_mem_nil)⟩)) dX11_apply_72 rfl) ?_
  refine zz_cons (k' := 74) rfl (zz_Ok_none _ _) ?_
  refine zz_cons (k' := 75) rfl (zz_Ok_none _ _) ?_
  refine zz_cons (k' := 76) rfl (zk_icmp_eq X dX11_apply_75 (by decide) rfl) ?_
  refine zz_cons (k' := 77) rfl (zz_Ok_none _ _) ?_
  refine zz_cons (k' := 78) rfl (zz_Ok_none _ _) ?_
  refine zz_cons (k' := 79) rfl (zk_throw X (th_X11_75_104 Wd) (by decide) dX11_apply_78 dX11_apply_81 dX11_apply_82 dX11_apply_84 dX11_apply_87) ?_
  refine zz_cons (k' := 80) rfl (zz_Ok_none _ _) ?_
  refine zz_cons (k' := 81) rfl (zz_Ok_none _ _) ?_
  refine zz_cons (k' := 82) rfl (zz_Ok_none _ _) ?_
  refine zz_cons (k' := 83) rfl (zz_Ok_none _ _) ?_
  refine zz_cons (k' := 84) rfl (zz_Ok_none _ _) ?_
  refine zz_cons (k' := 85) rfl (zz_Ok_none _ _) ?_
  refine zz_cons (k' := 86) rfl (zz_Ok_none _ _) ?_
  refine zz_cons (k' := 87) rfl (zz_Ok_none _ _) ?_
  refine zz_cons (k' := 88) rfl (zz_Ok_none _ _) ?_
  refine zz_cons (k' := 89) rfl (zk_iload X dX11_apply_88 rfl) ?_
  refine zz_cons (k' := 90) rfl (zz_Ok_none _ _) ?_
  refine zz_cons (k' := 91) rfl (zk_if_ne X dX11_apply_90 (by decide) rfl) ?_
  refine zz_cons (k' := 92) rfl (zz_Ok_none _ _) ?_
  refine zz_cons (k' := 93) rfl (zz_Ok_none _ _) ?_
  refine zz_cons (k' := 94) rfl (zk_aload_n X dX11_apply_93 rfl rfl) ?_
  refine zz_cons (k' := 95) rfl (zk_getf X ff_X11_10 dX11_apply_94 rfl) ?_
  refine zz_cons (k' := 96) rfl (zz_Ok_none _ _) ?_
  refine zz_cons (k' := 97) rfl (zz_Ok_none _ _) ?_
  refine zz_cons (k' := 98) rfl (zk_iload_n X dX11_apply_97 rfl rfl) ?_
  refine zz_cons (k' := 99) rfl (zk_bipush X dX11_apply_98 (by decide) rfl) ?_
  refine zz_cons (k' := 100) rfl (zz_Ok_none _ _) ?_
  refine zz_cons (k' := 101) rfl (zk_iload_n X dX11_apply_100 rfl rfl) ?_
  refine zz_cons (k' := 102) rfl (zk_iadd X dX11_apply_101 rfl) ?_
  refine zz_cons (k' := 103) rfl (zk_callv X (zz_Cv_of (List.forall_mem_cons.mpr ⟨⟨(RX_8, zzT8, 9), yX10_read, cX10_read, 3, (some .int), 0, 0, rfl, kv_X11_84_8, (mm_X10_read Wd).1, by decide, by decide⟩, (fun _ h => absurd h List.not_mem_nil)⟩)) dX11_apply_102 rfl) ?_
  refine zz_cons (k' := 104) rfl (zz_Ok_none _ _) ?_
  refine zz_cons (k' := 105) rfl (zz_Ok_none _ _) ?_
  refine zz_cons (k' := 106) rfl (zk_iload_n X dX11_apply_105 rfl rfl) ?_
  refine zz_cons (k' := 107) rfl (zk_icmp_eq X dX11_apply_106 (by decide) rfl) ?_
  refine zz_cons (k' := 108) rfl (zz_Ok_none _ _) ?_
  refine zz_cons (k' := 109) rfl (zz_Ok_none _ _) ?_
  refine zz_cons (k' := 110) rfl (zk_throw X (th_X11_75_106 Wd) (by decide) dX11_apply_109 dX11_apply_112 dX11_apply_113 dX11_apply_115 dX11_apply_118) ?_
  refine zz_cons (k' := 111) rfl (zz_Ok_none _ _) ?_
  refine zz_cons (k' := 112) rfl (zz_Ok_none _ _) ?_
  refine zz_cons (k' := 113) rfl (zz_Ok_none _ _) ?_
  refine zz_cons (k' := 114) rfl (zz_Ok_none _ _) ?_
  refine zz_cons (k' := 115) rfl (zz_Ok_none _ _) ?_
  refine zz_cons (k' := 116) rfl (zz_Ok_none _ _) ?_
  refine zz_cons (k' := 117) rfl (zz_Ok_none _ _) ?_
  refine zz_cons (k' := 118) rfl (zz_Ok_none _ _) ?_
  refine zz_cons (k' := 119) rfl (zz_Ok_none _ _) ?_
  refine zz_cons (k' := 120) rfl (zk_aload_n X dX11_apply_119 rfl rfl) ?_
  refine zz_cons (k' := 121) rfl (zk_getf X ff_X11_10 dX11_apply_120 rfl) ?_
  refine zz_cons (k' := 122) rfl (zz_Ok_none _ _) ?_
  refine zz_cons (k' := 123) rfl (zz_Ok_none _ _) ?_
  refine zz_cons (k' := 124) rfl (zk_iload_n X dX11_apply_123 rfl rfl) ?_
  refine zz_cons (k' := 125) rfl (zk_iload_n X dX11_apply_124 rfl rfl) ?_
  refine zz_cons (k' := 126) rfl (zk_iload_n X dX11_apply_125 rfl rfl) ?_
  refine zz_cons (k' := 127) rfl (zk_iload X dX11_apply_126 rfl) ?_
  refine zz_cons (k' := 128) rfl (zz_Ok_none _ _) ?_
  refine zz_cons (k' := 129) rfl (zk_callv X (zz_Cv_of (List.forall_mem_cons.mpr ⟨⟨(RX_8, zzT8, 9), yX9_applyField, cX9_applyField, 5, (some .boolean), 2, 50, rfl, kv_X11_108_8.1, (mm_X9_applyField Wd).1, by decide, by decide⟩, (fun _ h => absurd h List.not_mem_nil)⟩)) dX11_apply_128 rfl) ?_
  refine zz_cons (k' := 130) rfl (zz_Ok_none _ _) ?_
  refine zz_cons (k' := 131) rfl (zz_Ok_none _ _) ?_
  refine zz_cons (k' := 132) rfl (zk_if_ne X dX11_apply_131 (by decide) rfl) ?_
  refine zz_cons (k' := 133) rfl (zz_Ok_none _ _) ?_
  refine zz_cons (k' := 134) rfl (zz_Ok_none _ _) ?_
  refine zz_cons (k' := 135) rfl (zk_throw X (th_X11_75_112 Wd) (by decide) dX11_apply_134 dX11_apply_137 dX11_apply_138 dX11_apply_140 dX11_apply_143) ?_
  refine zz_cons (k' := 136) rfl (zz_Ok_none _ _) ?_
  refine zz_cons (k' := 137) rfl (zz_Ok_none _ _) ?_
  refine zz_cons (k' := 138) rfl (zz_Ok_none _ _) ?_
  refine zz_cons (k' := 139) rfl (zz_Ok_none _ _) ?_
  refine zz_cons (k' := 140) rfl (zz_Ok_none _ _) ?_
  refine zz_cons (k' := 141) rfl (zz_Ok_none _ _) ?_
  refine zz_cons (k' := 142) rfl (zz_Ok_none _ _) ?_
  refine zz_cons (k' := 143) rfl (zz_Ok_none _ _) ?_
  refine zz_cons (k' := 144) rfl (zz_Ok_none _ _) ?_
  refine zz_cons (k' := 145) rfl (zk_aload_n X dX11_apply_144 rfl rfl) ?_
  refine zz_cons (k' := 146) rfl (zk_getf X ff_X11_10 dX11_apply_145 rfl) ?_
  refine zz_cons (k' := 147) rfl (zz_Ok_none _ _) ?_
  refine zz_cons (k' := 148) rfl (zz_Ok_none _ _) ?_
  refine zz_cons (k' := 149) rfl (zk_iload_n X dX11_apply_148 rfl rfl) ?_
  refine zz_cons (k' := 150) rfl (zk_callv X (zz_Cv_of (List.forall_mem_cons.mpr ⟨⟨(RX_8, zzT8, 9), yX10_latestOf, cX10_latestOf, 2, (some .int), 0, 0, rfl, kv_X11_100_8, (mm_X10_latestOf Wd).1, by decide, by decide⟩, (fun _ h => absurd h List.not_mem_nil)⟩)) dX11_apply_149 rfl) ?_
  refine zz_cons (k' := 151) rfl (zz_Ok_none _ _) ?_
  refine zz_cons (k' := 152) rfl (zz_Ok_none _ _) ?_
  refine zz_cons (k' := 153) rfl (zk_iret X rfl dX11_apply_152) ?_
  exact trivial
noncomputable def tX11_applyBudget : List zzOp := [
  zo_aload 0 1,
  zo_iload 2 2,
  zo_callx zzSC (zz_cl [(9, fX11_requireObject)]) 1 5,
  zo_none,
  zo_none,
  zo_iload 3 6,
  zo_pushI 10 8,
  zo_none,
  zo_calls fJ9_floorDiv_7cf53 2 11,
  zo_none,
  zo_none,
  zo_istore 5 13,
  zo_none,
  zo_iload 3 14,
  zo_pushI 10 16,
  zo_none,
  zo_calls fJ9_floorMod_7cf53 2 19,
  zo_none,
  zo_none,
  zo_istore 6 21,
  zo_none,
  zo_iload 1 22,
  zo_calls fX11_isCaller 1 25,
  zo_none,
  zo_none,
  zo_if (fun x => decide (x = 0)) 59 28,
  zo_none,
  zo_none,
  zo_aload 0 29,
  zo_getf zzSC (zz_kf [9] 0) 32,
  zo_none,
  zo_none,
  zo_iload 2 33,
  zo_pushI 23 35,
  zo_none,
  zo_callv zzSC (zz_cl [(8, fX10_read)]) 2 38,
  zo_none,
  zo_none,
  zo_if (fun x => decide (¬ x = 0)) 59 41,
  zo_none,
  zo_none,
  zo_pushI 2 42,
  zo_iload 5 44,
  zo_none,
  zo_calls fX11_isInRange 2 47,
  zo_none,
  zo_none,
  zo_if (fun x => decide (x = 0)) 59 50,
  zo_none,
  zo_none,
  zo_pushI 3 51,
  zo_iload 6 53,
  zo_none,
  zo_calls fX11_isInRange 2 56,
  zo_none,
  zo_none,
  zo_if (fun x => decide (¬ x = 0)) 69 59,
  zo_none,
  zo_none,
  zo_throw 0,
  zo_none,
  zo_none,
  zo_none,
  zo_none,
  zo_none,
  zo_none,
  zo_none,
  zo_none,
  zo_none,
  zo_aload 0 70,
  zo_getf zzSC (zz_kf [9] 0) 73,
  zo_none,
  zo_none,
  zo_iload 2 74,
  zo_pushI 13 76,
  zo_none,
  zo_callv zzSC (zz_cl [(8, fX10_read)]) 2 79,
  zo_none,
  zo_none,
  zo_iload 1 80,
  zo_icmp (fun x y => decide (¬ x = y)) 101 83,
  zo_none,
  zo_none,
  zo_aload 0 84,
  zo_getf zzSC (zz_kf [9] 0) 87,
  zo_none,
  zo_none,
  zo_iload 2 88,
  zo_pushI 14 90,
  zo_none,
  zo_callv zzSC (zz_cl [(8, fX10_read)]) 2 93,
  zo_none,
  zo_none,
  zo_iload 1 94,
  zo_icmp (fun x y => decide (¬ x = y)) 101 97,
  zo_none,
  zo_none,
  zo_pushI 1 98,
  zo_goto 102,
  zo_none,
  zo_none,
  zo_pushI 0 102,
  zo_istore 7 104,
  zo_none,
  zo_aload 0 105,
  zo_getf zzSC (zz_kf [9] 0) 108,
  zo_none,
  zo_none,
  zo_iload 2 109,
  zo_callv zzSC (zz_cl [(8, fX10_isGone)]) 1 112,
  zo_none,
  zo_none,
  zo_if (fun x => decide (¬ x = 0)) 125 115,
  zo_none,
  zo_none,
  zo_iload 4 117,
  zo_none,
  zo_if (fun x => decide (¬ x = 0)) 135 120,
  zo_none,
  zo_none,
  zo_iload 7 122,
  zo_none,
  zo_if (fun x => decide (¬ x = 0)) 135 125,
  zo_none,
  zo_none,
  zo_throw 1,
  zo_none,
  zo_none,
  zo_none,
  zo_none,
  zo_none,
  zo_none,
  zo_none,
  zo_none,
  zo_none,
  zo_aload 0 136,
  zo_getf zzSC (zz_kf [9] 0) 139,
  zo_none,
  zo_none,
  zo_iload 1 140,
  zo_iload 2 141,
  zo_iload 5 143,
  zo_none,
  zo_iload 6 145,
  zo_none,
  zo_callv zzSC (zz_cl [(8, fX9_applyBoth)]) 4 148,
  zo_none,
  zo_none,
  zo_if (fun x => decide (¬ x = 0)) 161 151,
  zo_none,
  zo_none,
  zo_throw 1,
  zo_none,
  zo_none,
  zo_none,
  zo_none,
  zo_none,
  zo_none,
  zo_none,
  zo_none,
  zo_none,
  zo_aload 0 162,
  zo_getf zzSC (zz_kf [9] 0) 165,
  zo_none,
  zo_none,
  zo_iload 2 166,
  zo_callv zzSC (zz_cl [(8, fX10_latestOf)]) 1 169,
  zo_none,
  zo_none,
  zo_iret false]
set_option maxRecDepth 100000 in
theorem tl_X11_applyBudget : ∀ pc, zz_Tl (tX11_applyBudget.getD pc zo_none) := by
  refine zz_Tl_mem ?_
  unfold tX11_applyBudget
  refine List.forall_mem_cons.mpr ⟨(zo_aload_tl _ _), ?_⟩
  refine List.forall_mem_cons.mpr ⟨(zo_iload_tl _ _), ?_⟩
  refine List.forall_mem_cons.mpr ⟨(zo_callx_tl _ _ _ _), ?_⟩
  refine List.forall_mem_cons.mpr ⟨zo_none_tl, ?_⟩
  refine List.forall_mem_cons.mpr ⟨zo_none_tl, ?_⟩
  refine List.forall_mem_cons.mpr ⟨(zo_iload_tl _ _), ?_⟩
  refine List.forall_mem_cons.mpr ⟨(zo_pushI_tl _ _), ?_⟩
  refine List.forall_mem_cons.mpr ⟨zo_none_tl, ?_⟩
  refine List.forall_mem_cons.mpr ⟨(zo_calls_tl _ _ _), ?_⟩
  refine List.forall_mem_cons.mpr ⟨zo_none_tl, ?_⟩
  refine List.forall_mem_cons.mpr ⟨zo_none_tl, ?_⟩
  refine List.forall_mem_cons.mpr ⟨(zo_istore_tl _ _), ?_⟩
  refine List.forall_mem_cons.mpr ⟨zo_none_tl, ?_⟩
  refine List.forall_mem_cons.mpr ⟨(zo_iload_tl _ _), ?_⟩
  refine List.forall_mem_cons.mpr ⟨(zo_pushI_tl _ _), ?_⟩
  refine List.forall_mem_cons.mpr ⟨zo_none_tl, ?_⟩
  refine List.forall_mem_cons.mpr ⟨(zo_calls_tl _ _ _), ?_⟩
  refine List.forall_mem_cons.mpr ⟨zo_none_tl, ?_⟩
  refine List.forall_mem_cons.mpr ⟨zo_none_tl, ?_⟩
  refine List.forall_mem_cons.mpr ⟨(zo_istore_tl _ _), ?_⟩
  refine List.forall_mem_cons.mpr ⟨zo_none_tl, ?_⟩
  refine List.forall_mem_cons.mpr ⟨(zo_iload_tl _ _), ?_⟩
  refine List.forall_mem_cons.mpr ⟨(zo_calls_tl _ _ _), ?_⟩
  refine List.forall_mem_cons.mpr ⟨zo_none_tl, ?_⟩
  refine List.forall_mem_cons.mpr ⟨zo_none_tl, ?_⟩
  refine List.forall_mem_cons.mpr ⟨(zo_if_tl _ _ _), ?_⟩
  refine List.forall_mem_cons.mpr ⟨zo_none_tl, ?_⟩
  refine List.forall_mem_cons.mpr ⟨zo_none_tl, ?_⟩
  refine List.forall_mem_cons.mpr ⟨(zo_aload_tl _ _), ?_⟩
  refine List.forall_mem_cons.mpr ⟨(zo_getf_tl _ _ _), ?_⟩
  refine List.forall_mem_cons.mpr ⟨zo_none_tl, ?_⟩
  refine List.forall_mem_cons.mpr ⟨zo_none_tl, ?_⟩
  refine List.forall_mem_cons.mpr ⟨(zo_iload_tl _ _), ?_⟩
  refine List.forall_mem_cons.mpr ⟨(zo_pushI_tl _ _), ?_⟩
  refine List.forall_mem_cons.mpr ⟨zo_none_tl, ?_⟩
  refine List.forall_mem_cons.mpr ⟨(zo_callv_tl _ _ _ _), ?_⟩
  refine List.forall_mem_cons.mpr ⟨zo_none_tl, ?_⟩
  refine List.forall_mem_cons.mpr ⟨zo_none_tl, ?_⟩
  refine List.forall_mem_cons.mpr ⟨(zo_if_tl _ _ _), ?_⟩
  refine List.forall_mem_cons.mpr ⟨zo_none_tl, ?_⟩
  refine List.forall_mem_cons.mpr ⟨zo_none_tl, ?_⟩
  refine List.forall_mem_cons.mpr ⟨(zo_pushI_tl _ _), ?_⟩
  refine List.forall_mem_cons.mpr ⟨(zo_iload_tl _ _), ?_⟩
  refine List.forall_mem_cons.mpr ⟨zo_none_tl, ?_⟩
  refine List.forall_mem_cons.mpr ⟨(zo_calls_tl _ _ _), ?_⟩
  refine List.forall_mem_cons.mpr ⟨zo_none_tl, ?_⟩
  refine List.forall_mem_cons.mpr ⟨zo_none_tl, ?_⟩
  refine List.forall_mem_cons.mpr ⟨(zo_if_tl _ _ _), ?_⟩
  refine List.forall_mem_cons.mpr ⟨zo_none_tl, ?_⟩
  refine List.forall_mem_cons.mpr ⟨zo_none_tl, ?_⟩
  refine List.forall_mem_cons.mpr ⟨(zo_pushI_tl _ _), ?_⟩
  refine List.forall_mem_cons.mpr ⟨(zo_iload_tl _ _), ?_⟩
  refine List.forall_mem_cons.mpr ⟨zo_none_tl, ?_⟩
  refine List.forall_mem_cons.mpr ⟨(zo_calls_tl _ _ _), ?_⟩
  refine List.forall_mem_cons.mpr ⟨zo_none_tl, ?_⟩
  refine List.forall_mem_cons.mpr ⟨zo_none_tl, ?_⟩
  refine List.forall_mem_cons.mpr ⟨(zo_if_tl _ _ _), ?_⟩
  refine List.forall_mem_cons.mpr ⟨zo_none_tl, ?_⟩
  refine List.forall_mem_cons.mpr ⟨zo_none_tl, ?_⟩
  refine List.forall_mem_cons.mpr ⟨(zo_throw_tl _), ?_⟩
  refine List.forall_mem_cons.mpr ⟨zo_none_tl, ?_⟩
  refine List.forall_mem_cons.mpr ⟨zo_none_tl, ?_⟩
  refine List.forall_mem_cons.mpr ⟨zo_none_tl, ?_⟩
  refine List.forall_mem_cons.mpr ⟨zo_none_tl, ?_⟩
  refine List.forall_mem_cons.mpr ⟨zo_none_tl, ?_⟩
  refine List.forall_mem_cons.mpr ⟨zo_none_tl, ?_⟩
  refine List.forall_mem_cons.mpr ⟨zo_none_tl, ?_⟩
  refine List.forall_mem_cons.mpr ⟨zo_none_tl, ?_⟩
  refine List.forall_mem_cons.mpr ⟨zo_none_tl, ?_⟩
  refine List.forall_mem_cons.mpr ⟨(zo_aload_tl _ _), ?_⟩
  refine List.forall_mem_cons.mpr ⟨(zo_getf_tl _ _ _), ?_⟩
  refine List.forall_mem_cons.mpr ⟨zo_none_tl, ?_⟩
  refine List.forall_mem_cons.mpr ⟨zo_none_tl, ?_⟩
  refine List.forall_mem_cons.mpr ⟨(zo_iload_tl _ _), ?_⟩
  refine List.forall_mem_cons.mpr ⟨(zo_pushI_tl _ _), ?_⟩
  refine List.forall_mem_cons.mpr ⟨zo_none_tl, ?_⟩
  refine List.forall_mem_cons.mpr ⟨(zo_callv_tl _ _ _ _), ?_⟩
  refine List.forall_mem_cons.mpr ⟨zo_none_tl, ?_⟩
  refine List.forall_mem_cons.mpr ⟨zo_none_tl, ?_⟩
  refine List.forall_mem_cons.mpr ⟨(zo_iload_tl _ _), ?_⟩
  refine List.forall_mem_cons.mpr ⟨(zo_icmp_tl _ _ _), ?_⟩
  refine List.forall_mem_cons.mpr ⟨zo_none_tl, ?_⟩
  refine List.forall_mem_cons.mpr ⟨zo_none_tl, ?_⟩
  refine List.forall_mem_cons.mpr ⟨(zo_aload_tl _ _), ?_⟩
  refine List.forall_mem_cons.mpr ⟨(zo_getf_tl _ _ _), ?_⟩
  refine List.forall_mem_cons.mpr ⟨zo_none_tl, ?_⟩
  refine List.forall_mem_cons.mpr ⟨zo_none_tl, ?_⟩
  refine List.forall_mem_cons.mpr ⟨(zo_iload_tl _ _), ?_⟩
  refine List.forall_mem_cons.mpr ⟨(zo_pushI_tl _ _), ?_⟩
  refine List.forall_mem_cons.mpr ⟨zo_none_tl, ?_⟩
  refine List.forall_mem_cons.mpr ⟨(zo_callv_tl _ _ _ _), ?_⟩
  refine List.forall_mem_cons.mpr ⟨zo_none_tl, ?_⟩
  refine List.forall_mem_cons.mpr ⟨zo_none_tl, ?_⟩
  refine List.forall_mem_cons.mpr ⟨(zo_iload_tl _ _), ?_⟩
  refine List.forall_mem_cons.mpr ⟨(zo_icmp_tl _ _ _), ?_⟩
  refine List.forall_mem_cons.mpr ⟨zo_none_tl, ?_⟩
  refine List.forall_mem_cons.mpr ⟨zo_none_tl, ?_⟩
  refine List.forall_mem_cons.mpr ⟨(zo_pushI_tl _ _), ?_⟩
  refine List.forall_mem_cons.mpr ⟨(zo_goto_tl _), ?_⟩
  refine List.forall_mem_cons.mpr ⟨zo_none_tl, ?_⟩
  refine List.forall_mem_cons.mpr ⟨zo_none_tl, ?_⟩
  refine List.forall_mem_cons.mpr ⟨(zo_pushI_tl _ _), ?_⟩
  refine List.forall_mem_cons.mpr ⟨(zo_istore_tl _ _), ?_⟩
  refine List.forall_mem_cons.mpr ⟨zo_none_tl, ?_⟩
  refine List.forall_mem_cons.mpr ⟨(zo_aload_tl _ _), ?_⟩
  refine List.forall_mem_cons.mpr ⟨(zo_getf_tl _ _ _), ?_⟩
  refine List.forall_mem_cons.mpr ⟨zo_none_tl, ?_⟩
  refine List.forall_mem_cons.mpr ⟨zo_none_tl, ?_⟩
  refine List.forall_mem_cons.mpr ⟨(zo_iload_tl _ _), ?_⟩
  refine List.forall_mem_cons.mpr ⟨(zo_callv_tl _ _ _ _), ?_⟩
  refine List.forall_mem_cons.mpr ⟨zo_none_tl, ?_⟩
  refine List.forall_mem_cons.mpr ⟨zo_none_tl, ?_⟩
  refine List.forall_mem_cons.mpr ⟨(zo_if_tl _ _ _), ?_⟩
  refine List.forall_mem_cons.mpr ⟨zo_none_tl, ?_⟩
  refine List.forall_mem_cons.mpr ⟨zo_none_tl, ?_⟩
  refine List.forall_mem_cons.mpr ⟨(zo_iload_tl _ _), ?_⟩
  refine List.forall_mem_cons.mpr ⟨zo_none_tl, ?_⟩
  refine List.forall_mem_cons.mpr ⟨(zo_if_tl _ _ _), ?_⟩
  refine List.forall_mem_cons.mpr ⟨zo_none_tl, ?_⟩
  refine List.forall_mem_cons.mpr ⟨zo_none_tl, ?_⟩
  refine List.forall_mem_cons.mpr ⟨(zo_iload_tl _ _), ?_⟩
  refine List.forall_mem_cons.mpr ⟨zo_none_tl, ?_⟩
  refine List.forall_mem_cons.mpr ⟨(zo_if_tl _ _ _), ?_⟩
  refine List.forall_mem_cons.mpr ⟨zo_none_tl, ?_⟩
  refine List.forall_mem_cons.mpr ⟨zo_none_tl, ?_⟩
  refine List.forall_mem_cons.mpr ⟨(zo_throw_tl _), ?_⟩
  refine List.forall_mem_cons.mpr ⟨zo_none_tl, ?_⟩
  refine List.forall_mem_cons.mpr ⟨zo_none_tl, ?_⟩
  refine List.forall_mem_cons.mpr ⟨zo_none_tl, ?_⟩
  refine List.forall_mem_cons.mpr ⟨zo_none_tl, ?_⟩
  refine List.forall_mem_cons.mpr ⟨zo_none_tl, ?_⟩
  refine List.forall_mem_cons.mpr ⟨zo_none_tl, ?_⟩
  refine List.forall_mem_cons.mpr ⟨zo_none_tl, ?_⟩
  refine List.forall_mem_cons.mpr ⟨zo_none_tl, ?_⟩
  refine List.forall_mem_cons.mpr ⟨zo_none_tl, ?_⟩
  refine List.forall_mem_cons.mpr ⟨(zo_aload_tl _ _), ?_⟩
  refine List.forall_mem_cons.mpr ⟨(zo_getf_tl _ _ _), ?_⟩
  refine List.forall_mem_cons.mpr ⟨zo_none_tl, ?_⟩
  refine List.forall_mem_cons.mpr ⟨zo_none_tl, ?_⟩
  refine List.forall_mem_cons.mpr ⟨(zo_iload_tl _ _), ?_⟩
  refine List.forall_mem_cons.mpr ⟨(zo_iload_tl _ _), ?_⟩
  refine List.forall_mem_cons.mpr ⟨(zo_iload_tl _ _), ?_⟩
  refine List.forall_mem_cons.mpr ⟨zo_none_tl, ?_⟩
  refine List.forall_mem_cons.mpr ⟨(zo_iload_tl _ _), ?_⟩
  refine List.forall_mem_cons.mpr ⟨zo_none_tl, ?_⟩
  refine List.forall_mem_cons.mpr ⟨(zo_callv_tl _ _ _ _), ?_⟩
  refine List.forall_mem_cons.mpr ⟨zo_none_tl, ?_⟩
  refine List.forall_mem_cons.mpr ⟨zo_none_tl, ?_⟩
  refine List.forall_mem_cons.mpr ⟨(zo_if_tl _ _ _), ?_⟩
  refine List.forall_mem_cons.mpr ⟨zo_none_tl, ?_⟩
  refine List.forall_mem_cons.mpr ⟨zo_none_tl, ?_⟩
  refine List.forall_mem_cons.mpr ⟨(zo_throw_tl _), ?_⟩
  refine List.forall_mem_cons.mpr ⟨zo_none_tl, ?_⟩
  refine List.forall_mem_cons.mpr ⟨zo_none_tl, ?_⟩
  refine List.forall_mem_cons.mpr ⟨zo_none_tl, ?_⟩
  refine List.forall_mem_cons.mpr ⟨zo_none_tl, ?_⟩
  refine List.forall_mem_cons.mpr ⟨zo_none_tl, ?_⟩
  refine List.forall_mem_cons.mpr ⟨zo_none_tl, ?_⟩
  refine List.forall_mem_cons.mpr ⟨zo_none_tl, ?_⟩
  refine List.forall_mem_cons.mpr ⟨zo_none_tl, ?_⟩
  refine List.forall_mem_cons.mpr ⟨zo_none_tl, ?_⟩
  refine List.forall_mem_cons.mpr ⟨(zo_aload_tl _ _), ?_⟩
  refine List.forall_mem_cons.mpr ⟨(zo_getf_tl _ _ _), ?_⟩
  refine List.forall_mem_cons.mpr ⟨zo_none_tl, ?_⟩
  refine List.forall_mem_cons.mpr ⟨zo_none_tl, ?_⟩
  refine List.forall_mem_cons.mpr ⟨(zo_iload_tl _ _), ?_⟩
  refine List.forall_mem_cons.mpr ⟨(zo_callv_tl _ _ _ _), ?_⟩
  refine List.forall_mem_cons.mpr ⟨zo_none_tl, ?_⟩
  refine List.forall_mem_cons.mpr ⟨zo_none_tl, ?_⟩
  refine List.forall_mem_cons.mpr ⟨(zo_iret_tl _), ?_⟩
  exact fun _ h => absurd h List.not_mem_nil
noncomputable def fX11_applyBudget : zzFn := zz_fn tX11_applyBudget 8
set_option maxRecDepth 100000 in
set_option maxHeartbeats 4000000 in
theorem mm_X11_applyBudget {l : Launch} {D : va_G} {cA : Nat → ClassId} {ad : Nat → Nat} {Ex : (Nat → Prop) → State → Heap → Prop} (Wd : zzWC l D cA ad Ex) : zz_Cn l D zzCl cA ad zzSC Ex yX11_applyBudget cX11_applyBudget 8 (some .int) 7 103 fX11_applyBudget ∧ zz_Cx l D zzCl cA ad zzSC Ex yX11_applyBudget cX11_applyBudget 8 (some .int) 7 103 fX11_applyBudget := by
  refine zz_meth (plainFor_of_name (by decide)) Wd.1 Wd.2.1 Wd.2.2.1 (fun p e R s m args below meth c rr X => ?_)
  unfold tX11_applyBudget
  refine zz_cons (k' := 1) rfl (zk_aload_n X dX11_applyBudget_0 rfl rfl) ?_
  refine zz_cons (k' := 2) rfl (zk_iload_n X dX11_applyBudget_1 rfl rfl) ?_
  refine zz_cons (k' := 3) rfl (zk_callx X (zz_Cw_of (List.forall_mem_cons.mpr ⟨⟨(RX_9, zzT9, 5), yX11_requireObject, cX11_requireObject, 2, none, 6, 82, rfl, kv_X11_80_9, (mm_X11_requireObject Wd), by decide, by decide⟩, (fun _ h => absurd h List.not_mem_nil)⟩)) dX11_applyBudget_2 rfl) ?_
  refine zz_cons (k' := 4) rfl (zz_Ok_none _ _) ?_
  refine zz_cons (k' := 5) rfl (zz_Ok_none _ _) ?_
  refine zz_cons (k' := 6) rfl (zk_iload_n X dX11_applyBudget_5 rfl rfl) ?_
  refine zz_cons (k' := 7) rfl (zk_bipush X dX11_applyBudget_6 (by decide) rfl) ?_
  refine zz_cons (k' := 8) rfl (zz_Ok_none _ _) ?_
  refine zz_cons (k' := 9) rfl (zk_calls X ks_X11_114 (mm_J9_floorDiv_7cf53 Wd).1 (by decide) dX11_applyBudget_8 rfl) ?_
  refine zz_cons (k' := 10) rfl (zz_Ok_none _ _) ?_
  refine zz_cons (k' := 11) rfl (zz_Ok_none _ _) ?_
  refine zz_cons (k' := 12) rfl (zk_istore X dX11_applyBudget_11 (by decide) rfl) ?_
  refine zz_cons (k' := 13) rfl (zz_Ok_none _ _) ?_
  refine zz_cons (k' := 14) rfl (zk_iload_n X dX11_applyBudget_13 rfl rfl) ?_
  refine zz_cons (k' := 15) rfl (zk_bipush X dX11_applyBudget_14 (by decide) rfl) ?_
  refine zz_cons (k' := 16) rfl (zz_Ok_none _ _) ?_
  refine zz_cons (k' := 17) rfl (zk_calls X ks_X11_119 (mm_J9_floorMod_7cf53 Wd).1 (by decide) dX11_applyBudget_16 rfl) ?_
  refine zz_cons (k' := 18) rfl (zz_Ok_none _ _) ?_
  refine zz_cons (k' := 19) rfl (zz_Ok_none _ _) ?_
  refine zz_cons (k' := 20) rfl (zk_istore X dX11_applyBudget_19 (by decide) rfl) ?_
  refine zz_cons (k' := 21) rfl (zz_Ok_none _ _) ?_
  refine zz_cons (k' := 22) rfl (zk_iload_n X dX11_applyBudget_21 rfl rfl) ?_
  refine zz_cons (k' := 23) rfl (zk_calls X ks_X11_54 (mm_X11_isCaller Wd).1 (by decide) dX11_applyBudget_22 rfl) ?_
  refine zz_cons (k' := 24) rfl (zz_Ok_none _ _) ?_
  refine zz_cons (k' := 25) rfl (zz_Ok_none _ _) ?_
  refine zz_cons (k' := 26) rfl (zk_if_eq X dX11_applyBudget_25 (by decide) rfl) ?_
  refine zz_cons (k' := 27) rfl (zz_Ok_none _ _) ?_
  refine zz_cons (k' := 28) rfl (zz_Ok_none _ _) ?_
  refine zz_cons (k' := 29) rfl (zk_aload_n X dX11_applyBudget_28 rfl rfl) ?_
  refine zz_cons (k' := 30) rfl (zk_getf X ff_X11_10 dX11_applyBudget_29 rfl) ?_
  refine zz_cons (k' := 31) rfl (zz_Ok_none _ _) ?_
  refine zz_cons (k' := 32) rfl (zz_Ok_none _ _) ?_
  refine zz_cons (k' := 33) rfl (zk_iload_n X dX11_applyBudget_32 rfl rfl) ?_
  refine zz_cons (k' := 34) rfl (zk_bipush X dX11_applyBudget_33 (by decide) rfl) ?_
  refine zz_cons (k' := 35) rfl (zz_Ok_none _ _) ?_
  refine zz_cons (k' := 36) rfl (zk_callv X (zz_Cv_of (List.forall_mem_cons.mpr ⟨⟨(RX_8, zzT8, 9), yX10_read, cX10_read, 3, (some .int), 0, 0, rfl, kv_X11_84_8, (mm_X10_read Wd).1, by decide, by decide⟩, (fun _ h => absurd h List.not_mem_nil)⟩)) dX11_applyBudget_35 rfl) ?_
  refine zz_cons (k' := 37) rfl (zz_Ok_none _ _) ?_
  refine zz_cons (k' := 38) rfl (zz_Ok_none _ _) ?_
  refine zz_cons (k' := 39) rfl (zk_if_ne X dX11_applyBudget_38 (by decide) rfl) ?_
  refine zz_cons (k' := 40) rfl (zz_Ok_none _ _) ?_
  refine zz_cons (k' := 41) rfl (zz_Ok_none _ _) ?_
  refine zz_cons (k' := 42) rfl (zk_iconst X dX11_applyBudget_41 (by decide) rfl) ?_
  refine zz_cons (k' := 43) rfl (zk_iload X dX11_applyBudget_42 rfl) ?_
  refine zz_cons (k' := 44) rfl (zz_Ok_none _ _) ?_
  refine zz_cons (k' := 45) rfl (zk_calls X ks_X11_92 (mm_X11_isInRange Wd).1 (by decide) dX11_applyBudget_44 rfl) ?_
  refine zz_cons (k' := 46) rfl (zz_Ok_none _ _) ?_
  refine zz_cons (k' := 47) rfl (zz_Ok_none _ _) ?_
  refine zz_cons (k' := 48) rfl (zk_if_eq X dX11_applyBudget_47 (by decide) rfl) ?_
  refine zz_cons (k' := 49) rfl (zz_Ok_none _ _) ?_
  refine zz_cons (k' := 50) rfl (zz_Ok_none _ _) ?_
  refine zz_cons (k' := 51) rfl (zk_iconst X dX11_applyBudget_50 (by decide) rfl) ?_
  refine zz_cons (k' := 52) rfl (zk_iload X dX11_applyBudget_51 rfl) ?_
  refine zz_cons (k' := 53) rfl (zz_Ok_none _ _) ?_
  refine zz_cons (k' := 54) rfl (zk_calls X ks_X11_92 (mm_X11_isInRange Wd).1 (by decide) dX11_applyBudget_53 rfl) ?_
  refine zz_cons (k' := 55) rfl (zz_Ok_none _ _) ?_
  refine zz_cons (k' := 56) rfl (zz_Ok_none _ _) ?_
  refine zz_cons (k' := 57) rfl (zk_if_ne X dX11_applyBudget_56 (by decide) rfl) ?_
  refine zz_cons (k' := 58) rfl (zz_Ok_none _ _) ?_
  refine zz_cons (k' := 59) rfl (zz_Ok_none _ _) ?_
  refine zz_cons (k' := 60) rfl (zk_throw X (th_X11_61_122 Wd) (by decide) dX11_applyBudget_59 dX11_applyBudget_62 dX11_applyBudget_63 dX11_applyBudget_65 dX11_applyBudget_68) ?_
  refine zz_cons (k' := 61) rfl (zz_Ok_none _ _) ?_
  refine zz_cons (k' := 62) rfl (zz_Ok_none _ _) ?_
  refine zz_cons (k' := 63) rfl (zz_Ok_none _ _) ?_
  refine zz_cons (k' := 64) rfl (zz_Ok_none _ _) ?_
  refine zz_cons (k' := 65) rfl (zz_Ok_none _ _) ?_
  refine zz_cons (k' := 66) rfl (zz_Ok_none _ _) ?_
  refine zz_cons (k' := 67) rfl (zz_Ok_none _ _) ?_
  refine zz_cons (k' := 68) rfl (zz_Ok_none _ _) ?_
  refine zz_cons (k' := 69) rfl (zz_Ok_none _ _) ?_
  refine zz_cons (k' := 70) rfl (zk_aload_n X dX11_applyBudget_69 rfl rfl) ?_
  refine zz_cons (k' := 71) rfl (zk_getf X ff_X11_10 dX11_applyBudget_70 rfl) ?_
  refine zz_cons (k' := 72) rfl (zz_Ok_none _ _) ?_
  refine zz_cons (k' := 73) rfl (zz_Ok_none _ _) ?_
  refine zz_cons (k' := 74) rfl (zk_iload_n X dX11_applyBudget_73 rfl rfl) ?_
  refine zz_cons (k' := 75) rfl (zk_bipush X dX11_applyBudget_74 (by decide) rfl) ?_
  refine zz_cons (k' := 76) rfl (zz_Ok_none _ _) ?_
  refine zz_cons (k' := 77) rfl (zk_callv X (zz_Cv_of (List.forall_mem_cons.mpr ⟨⟨(RX_8, zzT8, 9), yX10_read, cX10_read, 3, (some .int), 0, 0, rfl, kv_X11_84_8, (mm_X10_read Wd).1, by decide, by decide⟩, (fun _ h => absurd h List.not_mem_nil)⟩)) dX11_applyBudget_76 rfl) ?_
  refine zz_cons (k' := 78) rfl (zz_Ok_none _ _) ?_
  refine zz_cons (k' := 79) rfl (zz_Ok_none _ _) ?_
  refine zz_cons (k' := 80) rfl (zk_iload_n X dX11_applyBudget_79 rfl rfl) ?_
  refine zz_cons (k' := 81) rfl (zk_icmp_ne X dX11_applyBudget_80 (by decide) rfl) ?_
  refine zz_cons (k' := 82) rfl (zz_Ok_none _ _) ?_
  refine zz_cons (k' := 83) rfl (zz_Ok_none _ _) ?_
  refine zz_cons (k' := 84) rfl (zk_aload_n X dX11_applyBudget_83 rfl rfl) ?_
  refine zz_cons (k' := 85) rfl (zk_getf X ff_X11_10 dX11_applyBudget_84 rfl) ?_
  refine zz_cons (k' := 86) rfl (zz_Ok_none _ _) ?_
  refine zz_cons (k' := 87) rfl (zz_Ok_none _ _) ?_
  refine zz_cons (k' := 88) rfl (zk_iload_n X dX11_applyBudget_87 rfl rfl) ?_
  refine zz_cons (k' := 89) rfl (zk_bipush X dX11_applyBudget_88 (by decide) rfl) ?_
  refine zz_cons (k' := 90) rfl (zz_Ok_none _ _) ?_
  refine zz_cons (k' := 91) rfl (zk_callv X (zz_Cv_of (List.forall_mem_cons.mpr ⟨⟨(RX_8, zzT8, 9), yX10_read, cX10_read, 3, (some .int), 0, 0, rfl, kv_X11_84_8, (mm_X10_read Wd).1, by decide, by decide⟩, (fun _ h => absurd h List.not_mem_nil)⟩)) dX11_applyBudget_90 rfl) ?_
  refine zz_cons (k' := 92) rfl (zz_Ok_none _ _) ?_
  refine zz_cons (k' := 93) rfl (zz_Ok_none _ _) ?_
  refine zz_cons (k' := 94) rfl (zk_iload_n X dX11_applyBudget_93 rfl rfl) ?_
  refine zz_cons (k' := 95) rfl (zk_icmp_ne X dX11_applyBudget_94 (by decide) rfl) ?_
  refine zz_cons (k' := 96) rfl (zz_Ok_none _ _) ?_
  refine zz_cons (k' := 97) rfl (zz_Ok_none _ _) ?_
  refine zz_cons (k' := 98) rfl (zk_iconst X dX11_applyBudget_97 (by decide) rfl) ?_
  refine zz_cons (k' := 99) rfl (zk_goto X dX11_applyBudget_98 (by decide)) ?_
  refine zz_cons (k' := 100) rfl (zz_Ok_none _ _) ?_
  refine zz_cons (k' := 101) rfl (zz_Ok_none _ _) ?_
  refine zz_cons (k' := 102) rfl (zk_iconst X dX11_applyBudget_101 (by decide) rfl) ?_
  refine zz_cons (k' := 103) rfl (zk_istore X dX11_applyBudget_102 (by decide) rfl) ?_
  refine zz_cons (k' := 104) rfl (zz_Ok_none _ _) ?_
  refine zz_cons (k' := 105) rfl (zk_aload_n X dX11_applyBudget_104 rfl rfl) ?_
  refine zz_cons (k' := 106) rfl (zk_getf X ff_X11_10 dX11_applyBudget_105 rfl) ?_
  refine zz_cons (k' := 107) rfl (zz_Ok_none _ _) ?_
  refine zz_cons (k' := 108) rfl (zz_Ok_none _ _) ?_
  refine zz_cons (k' := 109) rfl (zk_iload_n X dX11_applyBudget_108 rfl rfl) ?_
  refine zz_cons (k' := 110) rfl (zk_callv X (zz_Cv_of (List.forall_mem_cons.mpr ⟨⟨(RX_8, zzT8, 9), yX10_isGone, cX10_isGone, 2, (some .boolean), 1, 22, rfl, kv_X11_97_8, (mm_X10_isGone Wd).1, by decide, by decide⟩, (fun _ h => absurd h List.not_mem_nil)⟩)) dX11_applyBudget_109 rfl) ?_
  refine zz_cons (k' := 111) rfl (zz_Ok_none _ _) ?_
  refine zz_cons (k' := 112) rfl (zz_Ok_none _ _) ?_
  refine zz_cons (k' := 113) rfl (zk_if_ne X dX11_applyBudget_112 (by decide) rfl) ?_
  refine zz_cons (k' := 114) rfl (zz_Ok_none _ _) ?_
  refine zz_cons (k' := 115) rfl (zz_Ok_none _ _) ?_
  refine zz_cons (k' := 116) rfl (zk_iload X dX11_applyBudget_115 rfl) ?_
  refine zz_cons (k' := 117) rfl (zz_Ok_none _ _) ?_
  refine zz_cons (k' := 118) rfl (zk_if_ne X dX11_applyBudget_117 (by decide) rfl) ?_
  refine zz_cons (k' := 119) rfl (zz_Ok_none _ _) ?_
  refine zz_cons (k' := 120) rfl (zz_Ok_none _ _) ?_
  refine zz_cons (k' := 121) rfl (zk_iload X dX11_applyBudget_120 rfl) ?_
  refine zz_cons (k' := 122) rfl (zz_Ok_none _ _) ?_
  refine zz_cons (k' := 123) rfl (zk_if_ne X dX11_applyBudget_122 (by decide) rfl) ?_
  refine zz_cons (k' := 124) rfl (zz_Ok_none _ _) ?_
  refine zz_cons (k' := 125) rfl (zz_Ok_none _ _) ?_
  refine zz_cons (k' := 126) rfl (zk_throw X (th_X11_75_124 Wd) (by decide) dX11_applyBudget_125 dX11_applyBudget_128 dX11_applyBudget_129 dX11_applyBudget_131 dX11_applyBudget_134) ?_
  refine zz_cons (k' := 127) rfl (zz_Ok_none _ _) ?_
  refine zz_cons (k' := 128) rfl (zz_Ok_none _ _) ?_
  refine zz_cons (k' := 129) rfl (zz_Ok_none _ _) ?_
  refine zz_cons (k' := 130) rfl (zz_Ok_none _ _) ?_
  refine zz_cons (k' := 131) rfl (zz_Ok_none _ _) ?_
  refine zz_cons (k' := 132) rfl (zz_Ok_none _ _) ?_
  refine zz_cons (k' := 133) rfl (zz_Ok_none _ _) ?_
  refine zz_cons (k' := 134) rfl (zz_Ok_none _ _) ?_
  refine zz_cons (k' := 135) rfl (zz_Ok_none _ _) ?_
  refine zz_cons (k' := 136) rfl (zk_aload_n X dX11_applyBudget_135 rfl rfl) ?_
  refine zz_cons (k' := 137) rfl (zk_getf X ff_X11_10 dX11_applyBudget_136 rfl) ?_
  refine zz_cons (k' := 138) rfl (zz_Ok_none _ _) ?_
  refine zz_cons (k' := 139) rfl (zz_Ok_none _ _) ?_
  refine zz_cons (k' := 140) rfl (zk_iload_n X dX11_applyBudget_139 rfl rfl) ?_
  refine zz_cons (k' := 141) rfl (zk_iload_n X dX11_applyBudget_140 rfl rfl) ?_
  refine zz_cons (k' := 142) rfl (zk_iload X dX11_applyBudget_141 rfl) ?_
  refine zz_cons (k' := 143) rfl (zz_Ok_none _ _) ?_
  refine zz_cons (k' := 144) rfl (zk_iload X dX11_applyBudget_143 rfl) ?_
  refine zz_cons (k' := 145) rfl (zz_Ok_none _ _) ?_
  refine zz_cons (k' := 146) rfl (zk_callv X (zz_Cv_of (List.forall_mem_cons.mpr ⟨⟨(RX_8, zzT8, 9), yX9_applyBoth, cX9_applyBoth, 5, (some .boolean), 2, 50, rfl, kv_X11_126_8.1, (mm_X9_applyBoth Wd).1, by decide, by decide⟩, (fun _ h => absurd h List.not_mem_nil)⟩)) dX11_applyBudget_145 rfl) ?_
  refine zz_cons (k' := 147) rfl (zz_Ok_none _ _) ?_
  refine zz_cons (k' := 148) rfl (zz_Ok_none _ _) ?_
  refine zz_cons (k' := 149) rfl (zk_if_ne X dX11_applyBudget_148 (by decide) rfl) ?_
  refine zz_cons (k' := 150) rfl (zz_Ok_none _ _) ?_
  refine zz_cons (k' := 151) rfl (zz_Ok_none _ _) ?_
  refine zz_cons (k' := 152) rfl (zk_throw X (th_X11_75_112 Wd) (by decide) dX11_applyBudget_151 dX11_applyBudget_154 dX11_applyBudget_155 dX11_applyBudget_157 dX11_applyBudget_160) ?_
  refine zz_cons (k' := 153) rfl (zz_Ok_none _ _) ?_
  refine zz_cons (k' := 154) rfl (zz_Ok_none _ _) ?_
  refine zz_cons (k' := 155) rfl (zz_Ok_none _ _) ?_
  refine zz_cons (k' := 156) rfl (zz_Ok_none _ _) ?_
  refine zz_cons (k' := 157) rfl (zz_Ok_none _ _) ?_
  refine zz_cons (k' := 158) rfl (zz_Ok_none _ _) ?_
  refine zz_cons (k' := 159) rfl (zz_Ok_none _ _) ?_
  refine zz_cons (k' := 160) rfl (zz_Ok_none _ _) ?_
  refine zz_cons (k' := 161) rfl (zz_Ok_none _ _) ?_
  refine zz_cons (k' := 162) rfl (zk_aload_n X dX11_applyBudget_161 rfl rfl) ?_
  refine zz_cons (k' := 163) rfl (zk_getf X ff_X11_10 dX11_applyBudget_162 rfl) ?_
  refine zz_cons (k' := 164) rfl (zz_Ok_none _ _) ?_
  refine zz_cons (k' := 165) rfl (zz_Ok_none _ _) ?_
  refine zz_cons (k' := 166) rfl (zk_iload_n X dX11_applyBudget_165 rfl rfl) ?_
  refine zz_cons (k' := 167) rfl (zk_callv X (zz_Cv_of (List.forall_mem_cons.mpr ⟨⟨(RX_8, zzT8, 9), yX10_latestOf, cX10_latestOf, 2, (some .int), 0, 0, rfl, kv_X11_100_8, (mm_X10_latestOf Wd).1, by decide, by decide⟩, (fun _ h => absurd h List.not_mem_nil)⟩)) dX11_applyBudget_166 rfl) ?_
  refine zz_cons (k' := 168) rfl (zz_Ok_none _ _) ?_
  refine zz_cons (k' := 169) rfl (zz_Ok_none _ _) ?_
  refine zz_cons (k' := 170) rfl (zk_iret X rfl dX11_applyBudget_169) ?_
  exact trivial
noncomputable def tX11_delete : List zzOp := [
  zo_aload 0 1,
  zo_iload 1 2,
  zo_callx zzSC (zz_cl [(9, fX11_requireObject)]) 1 5,
  zo_none,
  zo_none,
  zo_iload 2 6,
  zo_pushI 1 7,
  zo_icmp (fun x y => decide (x = y)) 30 10,
  zo_none,
  zo_none,
  zo_iload 2 11,
  zo_pushI 2 12,
  zo_icmp (fun x y => decide (x = y)) 30 15,
  zo_none,
  zo_none,
  zo_iload 2 16,
  zo_pushI 3 17,
  zo_icmp (fun x y => decide (x = y)) 30 20,
  zo_none,
  zo_none,
  zo_throw 0,
  zo_none,
  zo_none,
  zo_none,
  zo_none,
  zo_none,
  zo_none,
  zo_none,
  zo_none,
  zo_none,
  zo_aload 0 31,
  zo_getf zzSC (zz_kf [9] 0) 34,
  zo_none,
  zo_none,
  zo_iload 1 35,
  zo_pushI 25 37,
  zo_none,
  zo_callv zzSC (zz_cl [(8, fX10_read)]) 2 40,
  zo_none,
  zo_none,
  zo_if (fun x => decide (¬ x = 0)) 55 43,
  zo_none,
  zo_none,
  zo_aload 0 44,
  zo_getf zzSC (zz_kf [9] 0) 47,
  zo_none,
  zo_none,
  zo_iload 1 48,
  zo_iload 2 49,
  zo_callv zzSC (zz_cl [(8, fX9_startGoing)]) 2 52,
  zo_none,
  zo_none,
  zo_if (fun x => decide (¬ x = 0)) 65 55,
  zo_none,
  zo_none,
  zo_throw 1,
  zo_none,
  zo_none,
  zo_none,
  zo_none,
  zo_none,
  zo_none,
  zo_none,
  zo_none,
  zo_none,
  zo_aload 0 66,
  zo_getf zzSC (zz_kf [9] 0) 69,
  zo_none,
  zo_none,
  zo_iload 1 70,
  zo_pushI 25 72,
  zo_none,
  zo_callv zzSC (zz_cl [(8, fX10_read)]) 2 75,
  zo_none,
  zo_none,
  zo_iret false]
set_option maxRecDepth 100000 in
theorem tl_X11_delete : ∀ pc, zz_Tl (tX11_delete.getD pc zo_none) := by
  refine zz_Tl_mem ?_
  unfold tX11_delete
  refine List.forall_mem_cons.mpr ⟨(zo_aload_tl _ _), ?_⟩
  refine List.forall_mem_cons.mpr ⟨(zo_iload_tl _ _), ?_⟩
  refine List.forall_mem_cons.mpr ⟨(zo_callx_tl _ _ _ _), ?_⟩
  refine List.forall_mem_cons.mpr ⟨zo_none_tl, ?_⟩
  refine List.forall_mem_cons.mpr ⟨zo_none_tl, ?_⟩
  refine List.forall_mem_cons.mpr ⟨(zo_iload_tl _ _), ?_⟩
  refine List.forall_mem_cons.mpr ⟨(zo_pushI_tl _ _), ?_⟩
  refine List.forall_mem_cons.mpr ⟨(zo_icmp_tl _ _ _), ?_⟩
  refine List.forall_mem_cons.mpr ⟨zo_none_tl, ?_⟩
  refine List.forall_mem_cons.mpr ⟨zo_none_tl, ?_⟩
  refine List.forall_mem_cons.mpr ⟨(zo_iload_tl _ _), ?_⟩
  refine List.forall_mem_cons.mpr ⟨(zo_pushI_tl _ _), ?_⟩
  refine List.forall_mem_cons.mpr ⟨(zo_icmp_tl _ _ _), ?_⟩
  refine List.forall_mem_cons.mpr ⟨zo_none_tl, ?_⟩
  refine List.forall_mem_cons.mpr ⟨zo_none_tl, ?_⟩
  refine List.forall_mem_cons.mpr ⟨(zo_iload_tl _ _), ?_⟩
  refine List.forall_mem_cons.mpr ⟨(zo_pushI_tl _ _), ?_⟩
  refine List.forall_mem_cons.mpr ⟨(zo_icmp_tl _ _ _), ?_⟩
  refine List.forall_mem_cons.mpr ⟨zo_none_tl, ?_⟩
  refine List.forall_mem_cons.mpr ⟨zo_none_tl, ?_⟩
  refine List.forall_mem_cons.mpr ⟨(zo_throw_tl _), ?_⟩
  refine List.forall_mem_cons.mpr ⟨zo_none_tl, ?_⟩
  refine List.forall_mem_cons.mpr ⟨zo_none_tl, ?_⟩
  refine List.forall_mem_cons.mpr ⟨zo_none_tl, ?_⟩
  refine List.forall_mem_cons.mpr ⟨zo_none_tl, ?_⟩
  refine List.forall_mem_cons.mpr ⟨zo_none_tl, ?_⟩
  refine List.forall_mem_cons.mpr ⟨zo_none_tl, ?_⟩
  refine List.forall_mem_cons.mpr ⟨zo_none_tl, ?_⟩
  refine List.forall_mem_cons.mpr ⟨zo_none_tl, ?_⟩
  refine List.forall_mem_cons.mpr ⟨zo_none_tl, ?_⟩
  refine List.forall_mem_cons.mpr ⟨(zo_aload_tl _ _), ?_⟩
  refine List.forall_mem_cons.mpr ⟨(zo_getf_tl _ _ _), ?_⟩
  refine List.forall_mem_cons.mpr ⟨zo_none_tl, ?_⟩
  refine List.forall_mem_cons.mpr ⟨zo_none_tl, ?_⟩
  refine List.forall_mem_cons.mpr ⟨(zo_iload_tl _ _), ?_⟩
  refine List.forall_mem_cons.mpr ⟨(zo_pushI_tl _ _), ?_⟩
  refine List.forall_mem_cons.mpr ⟨zo_none_tl, ?_⟩
  refine List.forall_mem_cons.mpr ⟨(zo_callv_tl _ _ _ _), ?_⟩
  refine List.forall_mem_cons.mpr ⟨zo_none_tl, ?_⟩
  refine List.forall_mem_cons.mpr ⟨zo_none_tl, ?_⟩
  refine List.forall_mem_cons.mpr ⟨(zo_if_tl _ _ _), ?_⟩
  refine List.forall_mem_cons.mpr ⟨zo_none_tl, ?_⟩
  refine List.forall_mem_cons.mpr ⟨zo_none_tl, ?_⟩
  refine List.forall_mem_cons.mpr ⟨(zo_aload_tl _ _), ?_⟩
  refine List.forall_mem_cons.mpr ⟨(zo_getf_tl _ _ _), ?_⟩
  refine List.forall_mem_cons.mpr ⟨zo_none_tl, ?_⟩
  refine List.forall_mem_cons.mpr ⟨zo_none_tl, ?_⟩
  refine List.forall_mem_cons.mpr ⟨(zo_iload_tl _ _), ?_⟩
  refine List.forall_mem_cons.mpr ⟨(zo_iload_tl _ _), ?_⟩
  refine List.forall_mem_cons.mpr ⟨(zo_callv_tl _ _ _ _), ?_⟩
  refine List.forall_mem_cons.mpr ⟨zo_none_tl, ?_⟩
  refine List.forall_mem_cons.mpr ⟨zo_none_tl, ?_⟩
  refine List.forall_mem_cons.mpr ⟨(zo_if_tl _ _ _), ?_⟩
  refine List.forall_mem_cons.mpr ⟨zo_none_tl, ?_⟩
  refine List.forall_mem_cons.mpr ⟨zo_none_tl, ?_⟩
  refine List.forall_mem_cons.mpr ⟨(zo_throw_tl _), ?_⟩
  refine List.forall_mem_cons.mpr ⟨zo_none_tl, ?_⟩
  refine List.forall_mem_cons.mpr ⟨zo_none_tl, ?_⟩
  refine List.forall_mem_cons.mpr ⟨zo_none_tl, ?_⟩
  refine List.forall_mem_cons.mpr ⟨zo_none_tl, ?_⟩
  refine List.forall_mem_cons.mpr ⟨zo_none_tl, ?_⟩
  refine List.forall_mem_cons.mpr ⟨zo_none_tl, ?_⟩
  refine List.forall_mem_cons.mpr ⟨zo_none_tl, ?_⟩
  refine List.forall_mem_cons.mpr ⟨zo_none_tl, ?_⟩
  refine List.forall_mem_cons.mpr ⟨zo_none_tl, ?_⟩
  refine List.forall_mem_cons.mpr ⟨(zo_aload_tl _ _), ?_⟩
  refine List.forall_mem_cons.mpr ⟨(zo_getf_tl _ _ _), ?_⟩
  refine List.forall_mem_cons.mpr ⟨zo_none_tl, ?_⟩
  refine List.forall_mem_cons.mpr ⟨zo_none_tl, ?_⟩
  refine List.forall_mem_cons.mpr ⟨(zo_iload_tl _ _), ?_⟩
  refine List.forall_mem_cons.mpr ⟨(zo_pushI_tl _ _), ?_⟩
  refine List.forall_mem_cons.mpr ⟨zo_none_tl, ?_⟩
  refine List.forall_mem_cons.mpr ⟨(zo_callv_tl _ _ _ _), ?_⟩
  refine List.forall_mem_cons.mpr ⟨zo_none_tl, ?_⟩
  refine List.forall_mem_cons.mpr ⟨zo_none_tl, ?_⟩
  refine List.forall_mem_cons.mpr ⟨(zo_iret_tl _), ?_⟩
  exact fun _ h => absurd h List.not_mem_nil
noncomputable def fX11_delete : zzFn := zz_fn tX11_delete 3
set_option maxRecDepth 100000 in
set_option maxHeartbeats 4000000 in
theorem mm_X11_delete {l : Launch} {D : va_G} {cA : Nat → ClassId} {ad : Nat → Nat} {Ex : (Nat → Prop) → State → Heap → Prop} (Wd : zzWC l D cA ad Ex) : zz_Cn l D zzCl cA ad zzSC Ex yX11_delete cX11_delete 3 (some .int) 7 103 fX11_delete ∧ zz_Cx l D zzCl cA ad zzSC Ex yX11_delete cX11_delete 3 (some .int) 7 103 fX11_delete := by
  refine zz_meth (plainFor_of_name (by decide)) Wd.1 Wd.2.1 Wd.2.2.1 (fun p e R s m args below meth c rr X => ?_)
  unfold tX11_delete
  refine zz_cons (k' := 1) rfl (zk_aload_n X dX11_delete_0 rfl rfl) ?_
  refine zz_cons (k' := 2) rfl (zk_iload_n X dX11_delete_1 rfl rfl) ?_
  refine zz_cons (k' := 3) rfl (zk_callx X (zz_Cw_of (List.forall_mem_cons.mpr ⟨⟨(RX_9, zzT9, 5), yX11_requireObject, cX11_requireObject, 2, none, 6, 82, rfl, kv_X11_80_9, (mm_X11_requireObject Wd), by decide, by decide⟩, (fun _ h => absurd h List.not_mem_nil)⟩)) dX11_delete_2 rfl) ?_
  refine zz_cons (k' := 4) rfl (zz_Ok_none _ _) ?_
  refine zz_cons (k' := 5) rfl (zz_Ok_none _ _) ?_
  refine zz_cons (k' := 6) rfl (zk_iload_n X dX11_delete_5 rfl rfl) ?_
  refine zz_cons (k' := 7) rfl (zk_iconst X dX11_delete_6 (by decide) rfl) ?_
  refine zz_cons (k' := 8) rfl (zk_icmp_eq X dX11_delete_7 (by decide) rfl) ?_
  refine zz_cons (k' := 9) rfl (zz_Ok_none _ _) ?_
  refine zz_cons (k' := 10) rfl (zz_Ok_none _ _) ?_
  refine zz_cons (k' := 11) rfl (zk_iload_n X dX11_delete_10 rfl rfl) ?_
  refine zz_cons (k' := 12) rfl (zk_iconst X dX11_delete_11 (by decide) rfl) ?_
  refine zz_cons (k' := 13) rfl (zk_icmp_eq X dX11_delete_12 (by decide) rfl) ?_
  refine zz_cons (k' := 14) rfl (zz_Ok_none _ _) ?_
  refine zz_cons (k' := 15) rfl (zz_Ok_none _ _) ?_
  refine zz_cons (k' := 16) rfl (zk_iload_n X dX11_delete_15 rfl rfl) ?_
  refine zz_cons (k' := 17) rfl (zk_iconst X dX11_delete_16 (by decide) rfl) ?_
  refine zz_cons (k' := 18) rfl (zk_icmp_eq X dX11_delete_17 (by decide) rfl) ?_
  refine zz_cons (k' := 19) rfl (zz_Ok_none _ _) ?_
  refine zz_cons (k' := 20) rfl (zz_Ok_none _ _) ?_
  refine zz_cons (k' := 21) rfl (zk_throw X (th_X11_61_129 Wd) (by decide) dX11_delete_20 dX11_delete_23 dX11_delete_24 dX11_delete_26 dX11_delete_29) ?_
  refine zz_cons (k' := 22) rfl (zz_Ok_none _ _) ?_
  refine zz_cons (k' := 23) rfl (zz_Ok_none _ _) ?_
  refine zz_cons (k' := 24) rfl (zz_Ok_none _ _) ?_
  refine zz_cons (k' := 25) rfl (zz_Ok_none _ _) ?_
  refine zz_cons (k' := 26) rfl (zz_Ok_none _ _) ?_
  refine zz_cons (k' := 27) rfl (zz_Ok_none _ _) ?_
  refine zz_cons (k' := 28) rfl (zz_Ok_none _ _) ?_
  refine zz_cons (k' := 29) rfl (zz_Ok_none _ _) ?_
  refine zz_cons (k' := 30) rfl (zz_Ok_none _ _) ?_
  refine zz_cons (k' := 31) rfl (zk_aload_n X dX11_delete_30 rfl rfl) ?_
  refine zz_cons (k' := 32) rfl (zk_getf X ff_X11_10 dX11_delete_31 rfl) ?_
  refine zz_cons (k' := 33) rfl (zz_Ok_none _ _) ?_
  refine zz_cons (k' := 34) rfl (zz_Ok_none _ _) ?_
  refine zz_cons (k' := 35) rfl (zk_iload_n X dX11_delete_34 rfl rfl) ?_
  refine zz_cons (k' := 36) rfl (zk_bipush X dX11_delete_35 (by decide) rfl) ?_
  refine zz_cons (k' := 37) rfl (zz_Ok_none _ _) ?_
  refine zz_cons (k' := 38) rfl (zk_callv X (zz_Cv_of (List.forall_mem_cons.mpr ⟨⟨(RX_8, zzT8, 9), yX10_read, cX10_read, 3, (some .int), 0, 0, rfl, kv_X11_84_8, (mm_X10_read Wd).1, by decide, by decide⟩, (fun _ h => absurd h List.not_mem_nil)⟩)) dX11_delete_37 rfl) ?_
  refine zz_cons (k' := 39) rfl (zz_Ok_none _ _) ?_
  refine zz_cons (k' := 40) rfl (zz_Ok_none _ _) ?_
  refine zz_cons (k' := 41) rfl (zk_if_ne X dX11_delete_40 (by decide) rfl) ?_
  refine zz_cons (k' := 42) rfl (zz_Ok_none _ _) ?_
  refine zz_cons (k' := 43) rfl (zz_Ok_none _ _) ?_
  refine zz_cons (k' := 44) rfl (zk_aload_n X dX11_delete_43 rfl rfl) ?_
  refine zz_cons (k' := 45) rfl (zk_getf X ff_X11_10 dX11_delete_44 rfl) ?_
  refine zz_cons (k' := 46) rfl (zz_Ok_none _ _) ?_
  refine zz_cons (k' := 47) rfl (zz_Ok_none _ _) ?_
  refine zz_cons (k' := 48) rfl (zk_iload_n X dX11_delete_47 rfl rfl) ?_
  refine zz_cons (k' := 49) rfl (zk_iload_n X dX11_delete_48 rfl rfl) ?_
  refine zz_cons (k' := 50) rfl (zk_callv X (zz_Cv_of (List.forall_mem_cons.mpr ⟨⟨(RX_8, zzT8, 9), yX9_startGoing, cX9_startGoing, 3, (some .boolean), 2, 47, rfl, kv_X11_131_8.1, (mm_X9_startGoing Wd).1, by decide, by decide⟩, (fun _ h => absurd h List.not_mem_nil)⟩)) dX11_delete_49 rfl) ?_
  refine zz_cons (k' := 51) rfl (zz_Ok_none _ _) ?_
  refine zz_cons (k' := 52) rfl (zz_Ok_none _ _) ?_
  refine zz_cons (k' := 53) rfl (zk_if_ne X dX11_delete_52 (by decide) rfl) ?_
  refine zz_cons (k' := 54) rfl (zz_Ok_none _ _) ?_
  refine zz_cons (k' := 55) rfl (zz_Ok_none _ _) ?_
  refine zz_cons (k' := 56) rfl (zk_throw X (th_X11_75_134 Wd) (by decide) dX11_delete_55 dX11_delete_58 dX11_delete_59 dX11_delete_61 dX11_delete_64) ?_
  refine zz_cons (k' := 57) rfl (zz_Ok_none _ _) ?_
  refine zz_cons (k' := 58) rfl (zz_Ok_none _ _) ?_
  refine zz_cons (k' := 59) rfl (zz_Ok_none _ _) ?_
  refine zz_cons (k' := 60) rfl (zz_Ok_none _ _) ?_
  refine zz_cons (k' := 61) rfl (zz_Ok_none _ _) ?_
  refine zz_cons (k' := 62) rfl (zz_Ok_none _ _) ?_
  refine zz_cons (k' := 63) rfl (zz_Ok_none _ _) ?_
  refine zz_cons (k' := 64) rfl (zz_Ok_none _ _) ?_
  refine zz_cons (k' := 65) rfl (zz_Ok_none _ _) ?_
  refine zz_cons (k' := 66) rfl (zk_aload_n X dX11_delete_65 rfl rfl) ?_
  refine zz_cons (k' := 67) rfl (zk_getf X ff_X11_10 dX11_delete_66 rfl) ?_
  refine zz_cons (k' := 68) rfl (zz_Ok_none _ _) ?_
  refine zz_cons (k' := 69) rfl (zz_Ok_none _ _) ?_
  refine zz_cons (k' := 70) rfl (zk_iload_n X dX11_delete_69 rfl rfl) ?_
  refine zz_cons (k' := 71) rfl (zk_bipush X dX11_delete_70 (by decide) rfl) ?_
  refine zz_cons (k' := 72) rfl (zz_Ok_none _ _) ?_
  refine zz_cons (k' := 73) rfl (zk_callv X (zz_Cv_of (List.forall_mem_cons.mpr ⟨⟨(RX_8, zzT8, 9), yX10_read, cX10_read, 3, (some .int), 0, 0, rfl, kv_X11_84_8, (mm_X10_read Wd).1, by decide, by decide⟩, (fun _ h => absurd h List.not_mem_nil)⟩)) dX11_delete_72 rfl) ?_
  refine zz_cons (k' := 74) rfl (zz_Ok_none _ _) ?_
  refine zz_cons (k' := 75) rfl (zz_Ok_none _ _) ?_
  refine zz_cons (k' := 76) rfl (zk_iret X rfl dX11_delete_75) ?_
  exact trivial
noncomputable def tX11_hold : List zzOp := [
  zo_aload 0 1,
  zo_iload 1 2,
  zo_callx zzSC (zz_cl [(9, fX11_requireObject)]) 1 5,
  zo_none,
  zo_none,
  zo_aload 0 6,
  zo_getf zzSC (zz_kf [9] 0) 9,
  zo_none,
  zo_none,
  zo_iload 1 10,
  zo_pushI 26 12,
  zo_none,
  zo_callv zzSC (zz_cl [(8, fX10_read)]) 2 15,
  zo_none,
  zo_none,
  zo_pushI 1 16,
  zo_icmp (fun x y => decide (¬ x = y)) 23 19,
  zo_none,
  zo_none,
  zo_pushI 1 20,
  zo_goto 24,
  zo_none,
  zo_none,
  zo_pushI 0 24,
  zo_istore 3 25,
  zo_aload 0 26,
  zo_getf zzSC (zz_kf [9] 0) 29,
  zo_none,
  zo_none,
  zo_iload 1 30,
  zo_callv zzSC (zz_cl [(8, fX10_isGone)]) 1 33,
  zo_none,
  zo_none,
  zo_if (fun x => decide (¬ x = 0)) 58 36,
  zo_none,
  zo_none,
  zo_aload 0 37,
  zo_getf zzSC (zz_kf [9] 0) 40,
  zo_none,
  zo_none,
  zo_iload 1 41,
  zo_pushI 26 43,
  zo_none,
  zo_iload 2 44,
  zo_if (fun x => decide (x = 0)) 51 47,
  zo_none,
  zo_none,
  zo_pushI 1 48,
  zo_goto 52,
  zo_none,
  zo_none,
  zo_pushI 0 52,
  zo_callv zzSC (zz_cl [(8, fX9_change)]) 3 55,
  zo_none,
  zo_none,
  zo_if (fun x => decide (¬ x = 0)) 68 58,
  zo_none,
  zo_none,
  zo_throw 1,
  zo_none,
  zo_none,
  zo_none,
  zo_none,
  zo_none,
  zo_none,
  zo_none,
  zo_none,
  zo_none,
  zo_iload 3 69,
  zo_iret true]
set_option maxRecDepth 100000 in
theorem tl_X11_hold : ∀ pc, zz_Tl (tX11_hold.getD pc zo_none) := by
  refine zz_Tl_mem ?_
  unfold tX11_hold
  refine List.forall_mem_cons.mpr ⟨(zo_aload_tl _ _), ?_⟩
  refine List.forall_mem_cons.mpr ⟨(zo_iload_tl _ _), ?_⟩
  refine List.forall_mem_cons.mpr ⟨(zo_callx_tl _ _ _ _), ?_⟩
  refine List.forall_mem_cons.mpr ⟨zo_none_tl, ?_⟩
  refine List.forall_mem_cons.mpr ⟨zo_none_tl, ?_⟩
  refine List.forall_mem_cons.mpr ⟨(zo_aload_tl _ _), ?_⟩
  refine List.forall_mem_cons.mpr ⟨(zo_getf_tl _ _ _), ?_⟩
  refine List.forall_mem_cons.mpr ⟨zo_none_tl, ?_⟩
  refine List.forall_mem_cons.mpr ⟨zo_none_tl, ?_⟩
  refine List.forall_mem_cons.mpr ⟨(zo_iload_tl _ _), ?_⟩
  refine List.forall_mem_cons.mpr ⟨(zo_pushI_tl _ _), ?_⟩
  refine List.forall_mem_cons.mpr ⟨zo_none_tl, ?_⟩
  refine List.forall_mem_cons.mpr ⟨(zo_callv_tl _ _ _ _), ?_⟩
  refine List.forall_mem_cons.mpr ⟨zo_none_tl, ?_⟩
  refine List.forall_mem_cons.mpr ⟨zo_none_tl, ?_⟩
  refine List.forall_mem_cons.mpr ⟨(zo_pushI_tl _ _), ?_⟩
  refine List.forall_mem_cons.mpr ⟨(zo_icmp_tl _ _ _), ?_⟩
  refine List.forall_mem_cons.mpr ⟨zo_none_tl, ?_⟩
  refine List.forall_mem_cons.mpr ⟨zo_none_tl, ?_⟩
  refine List.forall_mem_cons.mpr ⟨(zo_pushI_tl _ _), ?_⟩
  refine List.forall_mem_cons.mpr ⟨(zo_goto_tl _), ?_⟩
  refine List.forall_mem_cons.mpr ⟨zo_none_tl, ?_⟩
  refine List.forall_mem_cons.mpr ⟨zo_none_tl, ?_⟩
  refine List.forall_mem_cons.mpr ⟨(zo_pushI_tl _ _), ?_⟩
  refine List.forall_mem_cons.mpr ⟨(zo_istore_tl _ _), ?_⟩
  refine List.forall_mem_cons.mpr ⟨(zo_aload_tl _ _), ?_⟩
  refine List.forall_mem_cons.mpr ⟨(zo_getf_tl _ _ _), ?_⟩
  refine List.forall_mem_cons.mpr ⟨zo_none_tl, ?_⟩
  refine List.forall_mem_cons.mpr ⟨zo_none_tl, ?_⟩
  refine List.forall_mem_cons.mpr ⟨(zo_iload_tl _ _), ?_⟩
  refine List.forall_mem_cons.mpr ⟨(zo_callv_tl _ _ _ _), ?_⟩
  refine List.forall_mem_cons.mpr ⟨zo_none_tl, ?_⟩
  refine List.forall_mem_cons.mpr ⟨zo_none_tl, ?_⟩
  refine List.forall_mem_cons.mpr ⟨(zo_if_tl _ _ _), ?_⟩
  refine List.forall_mem_cons.mpr ⟨zo_none_tl, ?_⟩
  refine List.forall_mem_cons.mpr ⟨zo_none_tl, ?_⟩
  refine List.forall_mem_cons.mpr ⟨(zo_aload_tl _ _), ?_⟩
  refine List.forall_mem_cons.mpr ⟨(zo_getf_tl _ _ _), ?_⟩
  refine List.forall_mem_cons.mpr ⟨zo_none_tl, ?_⟩
  refine List.forall_mem_cons.mpr ⟨zo_none_tl, ?_⟩
  refine List.forall_mem_cons.mpr ⟨(zo_iload_tl _ _), ?_⟩
  refine List.forall_mem_cons.mpr ⟨(zo_pushI_tl _ _), ?_⟩
  refine List.forall_mem_cons.mpr ⟨zo_none_tl, ?_⟩
  refine List.forall_mem_cons.mpr ⟨(zo_iload_tl _ _), ?_⟩
  refine List.forall_mem_cons.mpr ⟨(zo_if_tl _ _ _), ?_⟩
  refine List.forall_mem_cons.mpr ⟨zo_none_tl, ?_⟩
  refine List.forall_mem_cons.mpr ⟨zo_none_tl, ?_⟩
  refine List.forall_mem_cons.mpr ⟨(zo_pushI_tl _ _), ?_⟩
  refine List.forall_mem_cons.mpr ⟨(zo_goto_tl _), ?_⟩
  refine List.forall_mem_cons.mpr ⟨zo_none_tl, ?_⟩
  refine List.forall_mem_cons.mpr ⟨zo_none_tl, ?_⟩
  refine List.forall_mem_cons.mpr ⟨(zo_pushI_tl _ _), ?_⟩
  refine List.forall_mem_cons.mpr ⟨(zo_callv_tl _ _ _ _), ?_⟩
  refine List.forall_mem_cons.mpr ⟨zo_none_tl, ?_⟩
  refine List.forall_mem_cons.mpr ⟨zo_none_tl, ?_⟩
  refine List.forall_mem_cons.mpr ⟨(zo_if_tl _ _ _), ?_⟩
  refine List.forall_mem_cons.mpr ⟨zo_none_tl, ?_⟩
  refine List.forall_mem_cons.mpr ⟨zo_none_tl, ?_⟩
  refine List.forall_mem_cons.mpr ⟨(zo_throw_tl _), ?_⟩
  refine List.forall_mem_cons.mpr ⟨zo_none_tl, ?_⟩
  refine List.forall_mem_cons.mpr ⟨zo_none_tl, ?_⟩
  refine List.forall_mem_cons.mpr ⟨zo_none_tl, ?_⟩
  refine List.forall_mem_cons.mpr ⟨zo_none_tl, ?_⟩
  refine List.forall_mem_cons.mpr ⟨zo_none_tl, ?_⟩
  refine List.forall_mem_cons.mpr ⟨zo_none_tl, ?_⟩
  refine List.forall_mem_cons.mpr ⟨zo_none_tl, ?_⟩
  refine List.forall_mem_cons.mpr ⟨zo_none_tl, ?_⟩
  refine List.forall_mem_cons.mpr ⟨zo_none_tl, ?_⟩
  refine List.forall_mem_cons.mpr ⟨(zo_iload_tl _ _), ?_⟩
  refine List.forall_mem_cons.mpr ⟨(zo_iret_tl _), ?_⟩
  exact fun _ h => absurd h List.not_mem_nil
noncomputable def fX11_hold : zzFn := zz_fn tX11_hold 4
set_option maxRecDepth 100000 in
set_option maxHeartbeats 4000000 in
theorem mm_X11_hold {l : Launch} {D : va_G} {cA : Nat → ClassId} {ad : Nat → Nat} {Ex : (Nat → Prop) → State → Heap → Prop} (Wd : zzWC l D cA ad Ex) : zz_Cn l D zzCl cA ad zzSC Ex yX11_hold cX11_hold 4 (some .boolean) 7 103 fX11_hold ∧ zz_Cx l D zzCl cA ad zzSC Ex yX11_hold cX11_hold 4 (some .boolean) 7 103 fX11_hold := by
  refine zz_meth (plainFor_of_name (by decide)) Wd.1 Wd.2.1 Wd.2.2.1 (fun p e R s m args below meth c rr X => ?_)
  unfold tX11_hold
  refine zz_cons (k' := 1) rfl (zk_aload_n X dX11_hold_0 rfl rfl) ?_
  refine zz_cons (k' := 2) rfl (zk_iload_n X dX11_hold_1 rfl rfl) ?_
  refine zz_cons (k' := 3) rfl (zk_callx X (zz_Cw_of (List.forall_mem_cons.mpr ⟨⟨(RX_9, zzT9, 5), yX11_requireObject, cX11_requireObject, 2, none, 6, 82, rfl, kv_X11_80_9, (mm_X11_requireObject Wd), by decide, by decide⟩, (fun _ h => absurd h List.not_mem_nil)⟩)) dX11_hold_2 rfl) ?_
  refine zz_cons (k' := 4) rfl (zz_Ok_none _ _) ?_
  refine zz_cons (k' := 5) rfl (zz_Ok_none _ _) ?_
  refine zz_cons (k' := 6) rfl (zk_aload_n X dX11_hold_5 rfl rfl) ?_
  refine zz_cons (k' := 7) rfl (zk_getf X ff_X11_10 dX11_hold_6 rfl) ?_
  refine zz_cons (k' := 8) rfl (zz_Ok_none _ _) ?_
  refine zz_cons (k' := 9) rfl (zz_Ok_none _ _) ?_
  refine zz_cons (k' := 10) rfl (zk_iload_n X dX11_hold_9 rfl rfl) ?_
  refine zz_cons (k' := 11) rfl (zk_bipush X dX11_hold_10 (by decide) rfl) ?_
  refine zz_cons (k' := 12) rfl (zz_Ok_none _ _) ?_
  refine zz_cons (k' := 13) rfl (zk_callv X (zz_Cv_of (List.forall_mem_cons.mpr ⟨⟨(RX_8, zzT8, 9), yX10_read, cX10_read, 3, (some .int), 0, 0, rfl, kv_X11_84_8, (mm_X10_read Wd).1, by decide, by decide⟩, (fun _ h => absurd h List.not_mem_nil)⟩)) dX11_hold_12 rfl) ?_
  refine zz_cons (k' := 14) rfl (zz_Ok_none _ _) ?_
  refine zz_cons (k' := 15) rfl (zz_Ok_none _ _) ?_
  refine zz_cons (k' := 16) rfl (zk_iconst X dX11_hold_15 (by decide) rfl) ?_
  refine zz_cons (k' := 17) rfl (zk_icmp_ne X dX11_hold_16 (by decide) rfl) ?_
  refine zz_cons (k' := 18) rfl (zz_Ok_none _ _) ?_
  refine zz_cons (k' := 19) rfl (zz_Ok_none _ _) ?_
  refine zz_cons (k' := 20) rfl (zk_iconst X dX11_hold_19 (by decide) rfl) ?_
  refine zz_cons (k' := 21) rfl (zk_goto X dX11_hold_20 (by decide)) ?_
  refine zz_cons (k' := 22) rfl (zz_Ok_none _ _) ?_
  refine zz_cons (k' := 23) rfl (zz_Ok_none _ _) ?_
  refine zz_cons (k' := 24) rfl (zk_iconst X dX11_hold_23 (by decide) rfl) ?_
  refine zz_cons (k' := 25) rfl (zk_istore_n X dX11_hold_24 rfl (by decide) rfl) ?_
  refine zz_cons (k' := 26) rfl (zk_aload_n X dX11_hold_25 rfl rfl) ?_
  refine zz_cons (k' := 27) rfl (zk_getf X ff_X11_10 dX11_hold_26 rfl) ?_
  refine zz_cons (k' := 28) rfl (zz_Ok_none _ _) ?_
  refine zz_cons (k' := 29) rfl (zz_Ok_none _ _) ?_
  refine zz_cons (k' := 30) rfl (zk_iload_n X dX11_hold_29 rfl rfl) ?_
  refine zz_cons (k' := 31) rfl (zk_callv X (zz_Cv_of (List.forall_mem_cons.mpr ⟨⟨(RX_8, zzT8, 9), yX10_isGone, cX10_isGone, 2, (some .boolean), 1, 22, rfl, kv_X11_97_8, (mm_X10_isGone Wd).1, by decide, by decide⟩, (fun _ h => absurd h List.not_mem_nil)⟩)) dX11_hold_30 rfl) ?_
  refine zz_cons (k' := 32) rfl (zz_Ok_none _ _) ?_
  refine zz_cons (k' := 33) rfl (zz_Ok_none _ _) ?_
  refine zz_cons (k' := 34) rfl (zk_if_ne X dX11_hold_33 (by decide) rfl) ?_
  refine zz_cons (k' := 35) rfl (zz_Ok_none _ _) ?_
  refine zz_cons (k' := 36) rfl (zz_Ok_none _ _) ?_
  refine zz_cons (k' := 37) rfl (zk_aload_n X dX11_hold_36 rfl rfl) ?_
  refine zz_cons (k' := 38) rfl (zk_getf X ff_X11_10 dX11_hold_37 rfl) ?_
  refine zz_cons (k' := 39) rfl (zz_Ok_none _ _) ?_
  refine zz_cons (k' := 40) rfl (zz_Ok_none _ _) ?_
  refine zz_cons (k' := 41) rfl (zk_iload_n X dX11_hold_40 rfl rfl) ?_
  refine zz_cons (k' := 42) rfl (zk_bipush X dX11_hold_41 (by decide) rfl) ?_
  refine zz_cons (k' := 43) rfl (zz_Ok_none _ _) ?_
  refine zz_cons (k' := 44) rfl (zk_iload_n X dX11_hold_43 rfl rfl) ?_
  refine zz_cons (k' := 45) rfl (zk_if_eq X dX11_hold_44 (by decide) rfl) ?_
  refine zz_cons (k' := 46) rfl (zz_Ok_none _ _) ?_
  refine zz_cons (k' := 47) rfl (zz_Ok_none _ _) ?_
  refine zz_cons (k' := 48) rfl (zk_iconst X dX11_hold_47 (by decide) rfl) ?_
  refine zz_cons (k' := 49) rfl (zk_goto X dX11_hold_48 (by decide)) ?_
  refine zz_cons (k' := 50) rfl (zz_Ok_none _ _) ?_
  refine zz_cons (k' := 51) rfl (zz_Ok_none _ _) ?_
  refine zz_cons (k' := 52) rfl (zk_iconst X dX11_hold_51 (by decide) rfl) ?_
  refine zz_cons (k' := 53) rfl (zk_callv X (zz_Cv_of (List.forall_mem_cons.mpr ⟨⟨(RX_8, zzT8, 9), yX9_change, cX9_change, 4, (some .boolean), 2, 47, rfl, kv_X11_136_8.1, (mm_X9_change Wd).1, by decide, by decide⟩, (fun _ h => absurd h List.not_mem_nil)⟩)) dX11_hold_52 rfl) ?_
  refine zz_cons (k' := 54) rfl (zz_Ok_none _ _) ?_
  refine zz_cons (k' := 55) rfl (zz_Ok_none _ _) ?_
  refine zz_cons (k' := 56) rfl (zk_if_ne X dX11_hold_55 (by decide) rfl) ?_
  refine zz_cons (k' := 57) rfl (zz_Ok_none _ _) ?_
  refine zz_cons (k' := 58) rfl (zz_Ok_none _ _) ?_
  refine zz_cons (k' := 59) rfl (zk_throw X (th_X11_75_140 Wd) (by decide) dX11_hold_58 dX11_hold_61 dX11_hold_62 dX11_hold_64 dX11_hold_67) ?_
  refine zz_cons (k' := 60) rfl (zz_Ok_none _ _) ?_
  refine zz_cons (k' := 61) rfl (zz_Ok_none _ _) ?_
  refine zz_cons (k' := 62) rfl (zz_Ok_none _ _) ?_
  refine zz_cons (k' := 63) rfl (zz_Ok_none _ _) ?_
  refine zz_cons (k' := 64) rfl (zz_Ok_none _ _) ?_
  refine zz_cons (k' := 65) rfl (zz_Ok_none _ _) ?_
  refine zz_cons (k' := 66) rfl (zz_Ok_none _ _) ?_
  refine zz_cons (k' := 67) rfl (zz_Ok_none _ _) ?_
  refine zz_cons (k' := 68) rfl (zz_Ok_none _ _) ?_
  refine zz_cons (k' := 69) rfl (zk_iload_n X dX11_hold_68 rfl rfl) ?_
  refine zz_cons (k' := 70) rfl (zk_iret X rfl dX11_hold_69) ?_
  exact trivial
noncomputable def tX11_requireKind : List zzOp := [
  zo_aload 0 1,
  zo_getf zzSC (zz_kf [9] 0) 4,
  zo_none,
  zo_none,
  zo_iload 1 5,
  zo_pushI 23 7,
  zo_none,
  zo_callv zzSC (zz_cl [(8, fX10_read)]) 2 10,
  zo_none,
  zo_none,
  zo_iload 2 11,
  zo_icmp (fun x y => decide (x = y)) 25 14,
  zo_none,
  zo_none,
  zo_throw 0,
  zo_none,
  zo_none,
  zo_none,
  zo_none,
  zo_none,
  zo_none,
  zo_none,
  zo_none,
  zo_none,
  zo_none,
  zo_ret]
set_option maxRecDepth 100000 in
theorem tl_X11_requireKind : ∀ pc, zz_Tl (tX11_requireKind.getD pc zo_none) := by
  refine zz_Tl_mem ?_
  unfold tX11_requireKind
  refine List.forall_mem_cons.mpr ⟨(zo_aload_tl _ _), ?_⟩
  refine List.forall_mem_cons.mpr ⟨(zo_getf_tl _ _ _), ?_⟩
  refine List.forall_mem_cons.mpr ⟨zo_none_tl, ?_⟩
  refine List.forall_mem_cons.mpr ⟨zo_none_tl, ?_⟩
  refine List.forall_mem_cons.mpr ⟨(zo_iload_tl _ _), ?_⟩
  refine List.forall_mem_cons.mpr ⟨(zo_pushI_tl _ _), ?_⟩
  refine List.forall_mem_cons.mpr ⟨zo_none_tl, ?_⟩
  refine List.forall_mem_cons.mpr ⟨(zo_callv_tl _ _ _ _), ?_⟩
  refine List.forall_mem_cons.mpr ⟨zo_none_tl, ?_⟩
  refine List.forall_mem_cons.mpr ⟨zo_none_tl, ?_⟩
  refine List.forall_mem_cons.mpr ⟨(zo_iload_tl _ _), ?_⟩
  refine List.forall_mem_cons.mpr ⟨(zo_icmp_tl _ _ _), ?_⟩
  refine List.forall_mem_cons.mpr ⟨zo_none_tl, ?_⟩
  refine List.forall_mem_cons.mpr ⟨zo_none_tl, ?_⟩
  refine List.forall_mem_cons.mpr ⟨(zo_throw_tl _), ?_⟩
  refine List.forall_mem_cons.mpr ⟨zo_none_tl, ?_⟩
  refine List.forall_mem_cons.mpr ⟨zo_none_tl, ?_⟩
  refine List.forall_mem_cons.mpr ⟨zo_none_tl, ?_⟩
  refine List.forall_mem_cons.mpr ⟨zo_none_tl, ?_⟩
  refine List.forall_mem_cons.mpr ⟨zo_none_tl, ?_⟩
  refine List.forall_mem_cons.mpr ⟨zo_none_tl, ?_⟩
  refine List.forall_mem_cons.mpr ⟨zo_none_tl, ?_⟩
  refine List.forall_mem_cons.mpr ⟨zo_none_tl, ?_⟩
  refine List.forall_mem_cons.mpr ⟨zo_none_tl, ?_⟩
  refine List.forall_mem_cons.mpr ⟨zo_none_tl, ?_⟩
  refine List.forall_mem_cons.mpr ⟨(zo_ret_tl), ?_⟩
  exact fun _ h => absurd h List.not_mem_nil
noncomputable def fX11_requireKind : zzFn := zz_fn tX11_requireKind 3
set_option maxRecDepth 100000 in
set_option maxHeartbeats 4000000 in
theorem mm_X11_requireKind {l : Launch} {D : va_G} {cA : Nat → ClassId} {ad : Nat → Nat} {Ex : (Nat → Prop) → State → Heap → Prop} (Wd : zzWC l D cA ad Ex) : zz_Cn l D zzCl cA ad zzSC Ex yX11_requireKind cX11_requireKind 3 none 6 82 fX11_requireKind ∧ zz_Cx l D zzCl cA ad zzSC Ex yX11_requireKind cX11_requireKind 3 none 6 82 fX11_requireKind := by
  refine zz_meth (plainFor_of_name (by decide)) Wd.1 Wd.2.1 Wd.2.2.1 (fun p e R s m args below meth c rr X => ?_)
  unfold tX11_requireKind
  refine zz_cons (k' := 1) rfl (zk_aload_n X dX11_requireKind_0 rfl rfl) ?_
  refine zz_cons (k' := 2) rfl (zk_getf X ff_X11_10 dX11_requireKind_1 rfl) ?_
  refine zz_cons (k' := 3) rfl (zz_Ok_none _ _) ?_
  refine zz_cons (k' := 4) rfl (zz_Ok_none _ _) ?_
  refine zz_cons (k' := 5) rfl (zk_iload_n X dX11_requireKind_4 rfl rfl) ?_
  refine zz_cons (k' := 6) rfl (zk_bipush X dX11_requireKind_5 (by decide) rfl) ?_
  refine zz_cons (k' := 7) rfl (zz_Ok_none _ _) ?_
  refine zz_cons (k' := 8) rfl (zk_callv X (zz_Cv_of (List.forall_mem_cons.mpr ⟨⟨(RX_8, zzT8, 9), yX10_read, cX10_read, 3, (some .int), 0, 0, rfl, kv_X11_84_8, (mm_X10_read Wd).1, by decide, by decide⟩, (fun _ h => absurd h List.not_mem_nil)⟩)) dX11_requireKind_7 rfl) ?_
  refine zz_cons (k' := 9) rfl (zz_Ok_none _ _) ?_
  refine zz_cons (k' := 10) rfl (zz_Ok_none _ _) ?_
  refine zz_cons (k' := 11) rfl (zk_iload_n X dX11_requireKind_10 rfl rfl) ?_
  refine zz_cons (k' := 12) rfl (zk_icmp_eq X dX11_requireKind_11 (by decide) rfl) ?_
  refine zz_cons (k' := 13) rfl (zz_Ok_none _ _) ?_
  refine zz_cons (k' := 14) rfl (zz_Ok_none _ _) ?_
  refine zz_cons (k' := 15) rfl (zk_throwW X (th_X11_61_297 Wd) (by decide) dX11_requireKind_14 dX11_requireKind_17 dX11_requireKind_18 dX11_requireKind_21 dX11_requireKind_24) ?_
  refine zz_cons (k' := 16) rfl (zz_Ok_none _ _) ?_
  refine zz_cons (k' := 17) rfl (zz_Ok_none _ _) ?_
  refine zz_cons (k' := 18) rfl (zz_Ok_none _ _) ?_
  refine zz_cons (k' := 19) rfl (zz_Ok_none _ _) ?_
  refine zz_cons (k' := 20) rfl (zz_Ok_none _ _) ?_
  refine zz_cons (k' := 21) rfl (zz_Ok_none _ _) ?_
  refine zz_cons (k' := 22) rfl (zz_Ok_none _ _) ?_
  refine zz_cons (k' := 23) rfl (zz_Ok_none _ _) ?_
  refine zz_cons (k' := 24) rfl (zz_Ok_none _ _) ?_
  refine zz_cons (k' := 25) rfl (zz_Ok_none _ _) ?_
  refine zz_cons (k' := 26) rfl (zk_ret X rfl dX11_requireKind_25) ?_
  exact trivial
noncomputable def tX11_finish : List zzOp := [
  zo_aload 0 1,
  zo_iload 1 2,
  zo_callx zzSC (zz_cl [(9, fX11_requireObject)]) 1 5,
  zo_none,
  zo_none,
  zo_aload 0 6,
  zo_iload 1 7,
  zo_pushI 2 8,
  zo_callx zzSC (zz_cl [(9, fX11_requireKind)]) 2 11,
  zo_none,
  zo_none,
  zo_aload 0 12,
  zo_getf zzSC (zz_kf [9] 0) 15,
  zo_none,
  zo_none,
  zo_iload 1 16,
  zo_callv zzSC (zz_cl [(8, fX10_isGone)]) 1 19,
  zo_none,
  zo_none,
  zo_if (fun x => decide (¬ x = 0)) 40 22,
  zo_none,
  zo_none,
  zo_aload 0 23,
  zo_getf zzSC (zz_kf [9] 0) 26,
  zo_none,
  zo_none,
  zo_iload 1 27,
  zo_pushI 29 29,
  zo_none,
  zo_callv zzSC (zz_cl [(8, fX10_read)]) 2 32,
  zo_none,
  zo_none,
  zo_pushI 1 33,
  zo_icmp (fun x y => decide (¬ x = y)) 40 36,
  zo_none,
  zo_none,
  zo_pushI 1 37,
  zo_goto 41,
  zo_none,
  zo_none,
  zo_pushI 0 41,
  zo_istore 3 42,
  zo_iload 3 43,
  zo_if (fun x => decide (x = 0)) 68 46,
  zo_none,
  zo_none,
  zo_aload 0 47,
  zo_getf zzSC (zz_kf [9] 0) 50,
  zo_none,
  zo_none,
  zo_iload 1 51,
  zo_pushI 29 53,
  zo_none,
  zo_iload 2 54,
  zo_if (fun x => decide (x = 0)) 61 57,
  zo_none,
  zo_none,
  zo_pushI 2 58,
  zo_goto 62,
  zo_none,
  zo_none,
  zo_pushI 3 62,
  zo_callv zzSC (zz_cl [(8, fX9_change)]) 3 65,
  zo_none,
  zo_none,
  zo_if (fun x => decide (¬ x = 0)) 78 68,
  zo_none,
  zo_none,
  zo_throw 1,
  zo_none,
  zo_none,
  zo_none,
  zo_none,
  zo_none,
  zo_none,
  zo_none,
  zo_none,
  zo_none,
  zo_aload 0 79,
  zo_getf zzSC (zz_kf [9] 0) 82,
  zo_none,
  zo_none,
  zo_iload 1 83,
  zo_callv zzSC (zz_cl [(8, fX10_latestOf)]) 1 86,
  zo_none,
  zo_none,
  zo_iret false]
set_option maxRecDepth 100000 in
theorem tl_X11_finish : ∀ pc, zz_Tl (tX11_finish.getD pc zo_none) := by
  refine zz_Tl_mem ?_
  unfold tX11_finish
  refine List.forall_mem_cons.mpr ⟨(zo_aload_tl _ _), ?_⟩
  refine List.forall_mem_cons.mpr ⟨(zo_iload_tl _ _), ?_⟩
  refine List.forall_mem_cons.mpr ⟨(zo_callx_tl _ _ _ _), ?_⟩
  refine List.forall_mem_cons.mpr ⟨zo_none_tl, ?_⟩
  refine List.forall_mem_cons.mpr ⟨zo_none_tl, ?_⟩
  refine List.forall_mem_cons.mpr ⟨(zo_aload_tl _ _), ?_⟩
  refine List.forall_mem_cons.mpr ⟨(zo_iload_tl _ _), ?_⟩
  refine List.forall_mem_cons.mpr ⟨(zo_pushI_tl _ _), ?_⟩
  refine List.forall_mem_cons.mpr ⟨(zo_callx_tl _ _ _ _), ?_⟩
  refine List.forall_mem_cons.mpr ⟨zo_none_tl, ?_⟩
  refine List.forall_mem_cons.mpr ⟨zo_none_tl, ?_⟩
  refine List.forall_mem_cons.mpr ⟨(zo_aload_tl _ _), ?_⟩
  refine List.forall_mem_cons.mpr ⟨(zo_getf_tl _ _ _), ?_⟩
  refine List.forall_mem_cons.mpr ⟨zo_none_tl, ?_⟩
  refine List.forall_mem_cons.mpr ⟨zo_none_tl, ?_⟩
  refine List.forall_mem_cons.mpr ⟨(zo_iload_tl _ _), ?_⟩
  refine List.forall_mem_cons.mpr ⟨(zo_callv_tl _ _ _ _), ?_⟩
  refine List.forall_mem_cons.mpr ⟨zo_none_tl, ?_⟩
  refine List.forall_mem_cons.mpr ⟨zo_none_tl, ?_⟩
  refine List.forall_mem_cons.mpr ⟨(zo_if_tl _ _ _), ?_⟩
  refine List.forall_mem_cons.mpr ⟨zo_none_tl, ?_⟩
  refine List.forall_mem_cons.mpr ⟨zo_none_tl, ?_⟩
  refine List.forall_mem_cons.mpr ⟨(zo_aload_tl _ _), ?_⟩
  refine List.forall_mem_cons.mpr ⟨(zo_getf_tl _ _ _), ?_⟩
  refine List.forall_mem_cons.mpr ⟨zo_none_tl, ?_⟩
  refine List.forall_mem_cons.mpr ⟨zo_none_tl, ?_⟩
  refine List.forall_mem_cons.mpr ⟨(zo_iload_tl _ _), ?_⟩
  refine List.forall_mem_cons.mpr ⟨(zo_pushI_tl _ _), ?_⟩
  refine List.forall_mem_cons.mpr ⟨zo_none_tl, ?_⟩
  refine List.forall_mem_cons.mpr ⟨(zo_callv_tl _ _ _ _), ?_⟩
  refine List.forall_mem_cons.mpr ⟨zo_none_tl, ?_⟩
  refine List.forall_mem_cons.mpr ⟨zo_none_tl, ?_⟩
  refine List.forall_mem_cons.mpr ⟨(zo_pushI_tl _ _), ?_⟩
  refine List.forall_mem_cons.mpr ⟨(zo_icmp_tl _ _ _), ?_⟩
  refine List.forall_mem_cons.mpr ⟨zo_none_tl, ?_⟩
  refine List.forall_mem_cons.mpr ⟨zo_none_tl, ?_⟩
  refine List.forall_mem_cons.mpr ⟨(zo_pushI_tl _ _), ?_⟩
  refine List.forall_mem_cons.mpr ⟨(zo_goto_tl _), ?_⟩
  refine List.forall_mem_cons.mpr ⟨zo_none_tl, ?_⟩
  refine List.forall_mem_cons.mpr ⟨zo_none_tl, ?_⟩
  refine List.forall_mem_cons.mpr ⟨(zo_pushI_tl _ _), ?_⟩
  refine List.forall_mem_cons.mpr ⟨(zo_istore_tl _ _), ?_⟩
  refine List.forall_mem_cons.mpr ⟨(zo_iload_tl _ _), ?_⟩
  refine List.forall_mem_cons.mpr ⟨(zo_if_tl _ _ _), ?_⟩
  refine List.forall_mem_cons.mpr ⟨zo_none_tl, ?_⟩
  refine List.forall_mem_cons.mpr ⟨zo_none_tl, ?_⟩
  refine List.forall_mem_cons.mpr ⟨(zo_aload_tl _ _), ?_⟩
  refine List.forall_mem_cons.mpr ⟨(zo_getf_tl _ _ _), ?_⟩
  refine List.forall_mem_cons.mpr ⟨zo_none_tl, ?_⟩
  refine List.forall_mem_cons.mpr ⟨zo_none_tl, ?_⟩
  refine List.forall_mem_cons.mpr ⟨(zo_iload_tl _ _), ?_⟩
  refine List.forall_mem_cons.mpr ⟨(zo_pushI_tl _ _), ?_⟩
  refine List.forall_mem_cons.mpr ⟨zo_none_tl, ?_⟩
  refine List.forall_mem_cons.mpr ⟨(zo_iload_tl _ _), ?_⟩
  refine List.forall_mem_cons.mpr ⟨(zo_if_tl _ _ _), ?_⟩
  refine List.forall_mem_cons.mpr ⟨zo_none_tl, ?_⟩
  refine List.forall_mem_cons.mpr ⟨zo_none_tl, ?_⟩
  refine List.forall_mem_cons.mpr ⟨(zo_pushI_tl _ _), ?_⟩
  refine List.forall_mem_cons.mpr ⟨(zo_goto_tl _), ?_⟩
  refine List.forall_mem_cons.mpr ⟨zo_none_tl, ?_⟩
  refine List.forall_mem_cons.mpr ⟨zo_none_tl, ?_⟩
  refine List.forall_mem_cons.mpr ⟨(zo_pushI_tl _ _), ?_⟩
  refine List.forall_mem_cons.mpr ⟨(zo_callv_tl _ _ _ _), ?_⟩
  refine List.forall_mem_cons.mpr ⟨zo_none_tl, ?_⟩
  refine List.forall_mem_cons.mpr ⟨zo_none_tl, ?_⟩
  refine List.forall_mem_cons.mpr ⟨(zo_if_tl _ _ _), ?_⟩
  refine List.forall_mem_cons.mpr ⟨zo_none_tl, ?_⟩
  refine List.forall_mem_cons.mpr ⟨zo_none_tl, ?_⟩
  refine List.forall_mem_cons.mpr ⟨(zo_throw_tl _), ?_⟩
  refine List.forall_mem_cons.mpr ⟨zo_none_tl, ?_⟩
  refine List.forall_mem_cons.mpr ⟨zo_none_tl, ?_⟩
  refine List.forall_mem_cons.mpr ⟨zo_none_tl, ?_⟩
  refine List.forall_mem_cons.mpr ⟨zo_none_tl, ?_⟩
  refine List.forall_mem_cons.mpr ⟨zo_none_tl, ?_⟩
  refine List.forall_mem_cons.mpr ⟨zo_none_tl, ?_⟩
  refine List.forall_mem_cons.mpr ⟨zo_none_tl, ?_⟩
  refine List.forall_mem_cons.mpr ⟨zo_none_tl, ?_⟩
  refine List.forall_mem_cons.mpr ⟨zo_none_tl, ?_⟩
  refine List.forall_mem_cons.mpr ⟨(zo_aload_tl _ _), ?_⟩
  refine List.forall_mem_cons.mpr ⟨(zo_getf_tl _ _ _), ?_⟩
  refine List.forall_mem_cons.mpr ⟨zo_none_tl, ?_⟩
  refine List.forall_mem_cons.mpr ⟨zo_none_tl, ?_⟩
  refine List.forall_mem_cons.mpr ⟨(zo_iload_tl _ _), ?_⟩
  refine List.forall_mem_cons.mpr ⟨(zo_callv_tl _ _ _ _), ?_⟩
  refine List.forall_mem_cons.mpr ⟨zo_none_tl, ?_⟩
  refine List.forall_mem_cons.mpr ⟨zo_none_tl, ?_⟩
  refine List.forall_mem_cons.mpr ⟨(zo_iret_tl _), ?_⟩
  exact fun _ h => absurd h List.not_mem_nil
noncomputable def fX11_finish : zzFn := zz_fn tX11_finish 4
set_option maxRecDepth 100000 in
set_option maxHeartbeats 4000000 in
theorem mm_X11_finish {l : Launch} {D : va_G} {cA : Nat → ClassId} {ad : Nat → Nat} {Ex : (Nat → Prop) → State → Heap → Prop} (Wd : zzWC l D cA ad Ex) : zz_Cn l D zzCl cA ad zzSC Ex yX11_finish cX11_finish 4 (some .int) 7 104 fX11_finish ∧ zz_Cx l D zzCl cA ad zzSC Ex yX11_finish cX11_finish 4 (some .int) 7 104 fX11_finish := by
  refine zz_meth (plainFor_of_name (by decide)) Wd.1 Wd.2.1 Wd.2.2.1 (fun p e R s m args below meth c rr X => ?_)
  unfold tX11_finish
  refine zz_cons (k' := 1) rfl (zk_aload_n X dX11_finish_0 rfl rfl) ?_
  refine zz_cons (k' := 2) rfl (zk_iload_n X dX11_finish_1 rfl rfl) ?_
  refine zz_cons (k' := 3) rfl (zk_callx X (zz_Cw_of (List.forall_mem_cons.mpr ⟨⟨(RX_9, zzT9, 5), yX11_requireObject, cX11_requireObject, 2, none, 6, 82, rfl, kv_X11_80_9, (mm_X11_requireObject Wd), by decide, by decide⟩, (fun _ h => absurd h List.not_mem_nil)⟩)) dX11_finish_2 rfl) ?_
  refine zz_cons (k' := 4) rfl (zz_Ok_none _ _) ?_
  refine zz_cons (k' := 5) rfl (zz_Ok_none _ _) ?_
  refine zz_cons (k' := 6) rfl (zk_aload_n X dX11_finish_5 rfl rfl) ?_
  refine zz_cons (k' := 7) rfl (zk_iload_n X dX11_finish_6 rfl rfl) ?_
  refine zz_cons (k' := 8) rfl (zk_iconst X dX11_finish_7 (by decide) rfl) ?_
  refine zz_cons (k' := 9) rfl (zk_callx X (zz_Cw_of (List.forall_mem_cons.mpr ⟨⟨(RX_9, zzT9, 5), yX11_requireKind, cX11_requireKind, 3, none, 6, 82, rfl, kv_X11_142_9, (mm_X11_requireKind Wd), by decide, by decide⟩, (fun _ h => absurd h List.not_mem_nil)⟩)) dX11_finish_8 rfl) ?_
  refine zz_cons (k' := 10) rfl (zz_Ok_none _ _) ?_
  refine zz_cons (k' := 11) rfl (zz_Ok_none _ _) ?_
  refine zz_cons (k' := 12) rfl (zk_aload_n X dX11_finish_11 rfl rfl) ?_
  refine zz_cons (k' := 13) rfl (zk_getf X ff_X11_10 dX11_finish_12 rfl) ?_
  refine zz_cons (k' := 14) rfl (zz_Ok_none _ _) ?_
  refine zz_cons (k' := 15) rfl (zz_Ok_none _ _) ?_
  refine zz_cons (k' := 16) rfl (zk_iload_n X dX11_finish_15 rfl rfl) ?_
  refine zz_cons (k' := 17) rfl (zk_callv X (zz_Cv_of (List.forall_mem_cons.mpr ⟨⟨(RX_8, zzT8, 9), yX10_isGone, cX10_isGone, 2, (some .boolean), 1, 22, rfl, kv_X11_97_8, (mm_X10_isGone Wd).1, by decide, by decide⟩, (fun _ h => absurd h List.not_mem_nil)⟩)) dX11_finish_16 rfl) ?_
  refine zz_cons (k' := 18) rfl (zz_Ok_none _ _) ?_
  refine zz_cons (k' := 19) rfl (zz_Ok_none _ _) ?_
  refine zz_cons (k' := 20) rfl (zk_if_ne X dX11_finish_19 (by decide) rfl) ?_
  refine zz_cons (k' := 21) rfl (zz_Ok_none _ _) ?_
  refine zz_cons (k' := 22) rfl (zz_Ok_none _ _) ?_
  refine zz_cons (k' := 23) rfl (zk_aload_n X dX11_finish_22 rfl rfl) ?_
  refine zz_cons (k' := 24) rfl (zk_getf X ff_X11_10 dX11_finish_23 rfl) ?_
  refine zz_cons (k' := 25) rfl (zz_Ok_none _ _) ?_
  refine zz_cons (k' := 26) rfl (zz_Ok_none _ _) ?_
  refine zz_cons (k' := 27) rfl (zk_iload_n X dX11_finish_26 rfl rfl) ?_
  refine zz_cons (k' := 28) rfl (zk_bipush X dX11_finish_27 (by decide) rfl) ?_
  refine zz_cons (k' := 29) rfl (zz_Ok_none _ _) ?_
  refine zz_cons (k' := 30) rfl (zk_callv X (zz_Cv_of (List.forall_mem_cons.mpr ⟨⟨(RX_8, zzT8, 9), yX10_read, cX10_read, 3, (some .int), 0, 0, rfl, kv_X11_84_8, (mm_X10_read Wd).1, by decide, by decide⟩, (fun _ h => absurd h List.not_mem_nil)⟩)) dX11_finish_29 rfl) ?_
  refine zz_cons (k' := 31) rfl (zz_Ok_none _ _) ?_
  refine zz_cons (k' := 32) rfl (zz_Ok_none _ _) ?_
  refine zz_cons (k' := 33) rfl (zk_iconst X dX11_finish_32 (by decide) rfl) ?_
  refine zz_cons (k' := 34) rfl (zk_icmp_ne X dX11_finish_33 (by decide) rfl) ?_
  refine zz_cons (k' := 35) rfl (zz_Ok_none _ _) ?_
  refine zz_cons (k' := 36) rfl (zz_Ok_none _ _) ?_
  refine zz_cons (k' := 37) rfl (zk_iconst X dX11_finish_36 (by decide) rfl) ?_
  refine zz_cons (k' := 38) rfl (zk_goto X dX11_finish_37 (by decide)) ?_
  refine zz_cons (k' := 39) rfl (zz_Ok_none _ _) ?_
  refine zz_cons (k' := 40) rfl (zz_Ok_none _ _) ?_
  refine zz_cons (k' := 41) rfl (zk_iconst X dX11_finish_40 (by decide) rfl) ?_
  refine zz_cons (k' := 42) rfl (zk_istore_n X dX11_finish_41 rfl (by decide) rfl) ?_
  refine zz_cons (k' := 43) rfl (zk_iload_n X dX11_finish_42 rfl rfl) ?_
  refine zz_cons (k' := 44) rfl (zk_if_eq X dX11_finish_43 (by decide) rfl) ?_
  refine zz_cons (k' := 45) rfl (zz_Ok_none _ _) ?_
  refine zz_cons (k' := 46) rfl (zz_Ok_none _ _) ?_
  refine zz_cons (k' := 47) rfl (zk_aload_n X dX11_finish_46 rfl rfl) ?_
  refine zz_cons (k' := 48) rfl (zk_getf X ff_X11_10 dX11_finish_47 rfl) ?_
  refine zz_cons (k' := 49) rfl (zz_Ok_none _ _) ?_
  refine zz_cons (k' := 50) rfl (zz_Ok_none _ _) ?_
  refine zz_cons (k' := 51) rfl (zk_iload_n X dX11_finish_50 rfl rfl) ?_
  refine zz_cons (k' := 52) rfl (zk_bipush X dX11_finish_51 (by decide) rfl) ?_
  refine zz_cons (k' := 53) rfl (zz_Ok_none _ _) ?_
  refine zz_cons (k' := 54) rfl (zk_iload_n X dX11_finish_53 rfl rfl) ?_
  refine zz_cons (k' := 55) rfl (zk_if_eq X dX11_finish_54 (by decide) rfl) ?_
  refine zz_cons (k' := 56) rfl (zz_Ok_none _ _) ?_
  refine zz_cons (k' := 57) rfl (zz_Ok_none _ _) ?_
  refine zz_cons (k' := 58) rfl (zk_iconst X dX11_finish_57 (by decide) rfl) ?_
  refine zz_cons (k' := 59) rfl (zk_goto X dX11_finish_58 (by decide)) ?_
  refine zz_cons (k' := 60) rfl (zz_Ok_none _ _) ?_
  refine zz_cons (k' := 61) rfl (zz_Ok_none _ _) ?_
  refine zz_cons (k' := 62) rfl (zk_iconst X dX11_finish_61 (by decide) rfl) ?_
  refine zz_cons (k' := 63) rfl (zk_callv X (zz_Cv_of (List.forall_mem_cons.mpr ⟨⟨(RX_8, zzT8, 9), yX9_change, cX9_change, 4, (some .boolean), 2, 47, rfl, kv_X11_136_8.1, (mm_X9_change Wd).1, by decide, by decide⟩, (fun _ h => absurd h List.not_mem_nil)⟩)) dX11_finish_62 rfl) ?_
  refine zz_cons (k' := 64) rfl (zz_Ok_none _ _) ?_
  refine zz_cons (k' := 65) rfl (zz_Ok_none _ _) ?_
  refine zz_cons (k' := 66) rfl (zk_if_ne X dX11_finish_65 (by decide) rfl) ?_
  refine zz_cons (k' := 67) rfl (zz_Ok_none _ _) ?_
  refine zz_cons (k' := 68) rfl (zz_Ok_none _ _) ?_
  refine zz_cons (k' := 69) rfl (zk_throw X (th_X11_75_146 Wd) (by decide) dX11_finish_68 dX11_finish_71 dX11_finish_72 dX11_finish_74 dX11_finish_77) ?_
  refine zz_cons (k' := 70) rfl (zz_Ok_none _ _) ?_
  refine zz_cons (k' := 71) rfl (zz_Ok_none _ _) ?_
  refine zz_cons (k' := 72) rfl (zz_Ok_none _ _) ?_
  refine zz_cons (k' := 73) rfl (zz_Ok_none _ _) ?_
  refine zz_cons (k' := 74) rfl (zz_Ok_none _ _) ?_
  refine zz_cons (k' := 75) rfl (zz_Ok_none _ _) ?_
  refine zz_cons (k' := 76) rfl (zz_Ok_none _ _) ?_
  refine zz_cons (k' := 77) rfl (zz_Ok_none _ _) ?_
  refine zz_cons (k' := 78) rfl (zz_Ok_none _ _) ?_
  refine zz_cons (k' := 79) rfl (zk_aload_n X dX11_finish_78 rfl rfl) ?_
  refine zz_cons (k' := 80) rfl (zk_getf X ff_X11_10 dX11_finish_79 rfl) ?_
  refine zz_cons (k' := 81) rfl (zz_Ok_none _ _) ?_
  refine zz_cons (k' := 82) rfl (zz_Ok_none _ _) ?_
  refine zz_cons (k' := 83) rfl (zk_iload_n X dX11_finish_82 rfl rfl) ?_
  refine zz_cons (k' := 84) rfl (zk_callv X (zz_Cv_of (List.forall_mem_cons.mpr ⟨⟨(RX_8, zzT8, 9), yX10_latestOf, cX10_latestOf, 2, (some .int), 0, 0, rfl, kv_X11_100_8, (mm_X10_latestOf Wd).1, by decide, by decide⟩, (fun _ h => absurd h List.not_mem_nil)⟩)) dX11_finish_83 rfl) ?_
  refine zz_cons (k' := 85) rfl (zz_Ok_none _ _) ?_
  refine zz_cons (k' := 86) rfl (zz_Ok_none _ _) ?_
  refine zz_cons (k' := 87) rfl (zk_iret X rfl dX11_finish_86) ?_
  exact trivial
noncomputable def tX11_rule : List zzOp := [
  zo_iload 1 1,
  zo_iload 2 2,
  zo_calls fX11_hasField 2 5,
  zo_none,
  zo_none,
  zo_if (fun x => decide (x = 0)) 33 8,
  zo_none,
  zo_none,
  zo_iload 1 9,
  zo_iload 5 11,
  zo_none,
  zo_calls fX11_hasField 2 14,
  zo_none,
  zo_none,
  zo_if (fun x => decide (x = 0)) 33 17,
  zo_none,
  zo_none,
  zo_iload 3 18,
  zo_iload 4 20,
  zo_none,
  zo_icmp (fun x y => decide (y < x)) 33 23,
  zo_none,
  zo_none,
  zo_iload 5 25,
  zo_none,
  zo_iload 6 27,
  zo_none,
  zo_calls fX11_isInRange 2 30,
  zo_none,
  zo_none,
  zo_if (fun x => decide (¬ x = 0)) 43 33,
  zo_none,
  zo_none,
  zo_throw 0,
  zo_none,
  zo_none,
  zo_none,
  zo_none,
  zo_none,
  zo_none,
  zo_none,
  zo_none,
  zo_none,
  zo_aload 0 44,
  zo_getf zzSC (zz_kf [9] 0) 47,
  zo_none,
  zo_none,
  zo_getf zzSC (zz_kf [8] 4) 50,
  zo_none,
  zo_none,
  zo_iload 1 51,
  zo_iload 2 52,
  zo_iload 3 53,
  zo_iload 4 55,
  zo_none,
  zo_iload 5 57,
  zo_none,
  zo_iload 6 59,
  zo_none,
  zo_callv zzSC (zz_cl [(0, fX0_addRule)]) 6 62,
  zo_none,
  zo_none,
  zo_if (fun x => decide (¬ x = 0)) 75 65,
  zo_none,
  zo_none,
  zo_throw 1,
  zo_none,
  zo_none,
  zo_none,
  zo_none,
  zo_none,
  zo_none,
  zo_none,
  zo_none,
  zo_none,
  zo_aload 0 76,
  zo_getf zzSC (zz_kf [9] 0) 79,
  zo_none,
  zo_none,
  zo_getf zzSC (zz_kf [8] 4) 82,
  zo_none,
  zo_none,
  zo_getf zzSC (zz_kf [0] 3) 85,
  zo_none,
  zo_none,
  zo_iret false]
set_option maxRecDepth 100000 in
theorem tl_X11_rule : ∀ pc, zz_Tl (tX11_rule.getD pc zo_none) := by
  refine zz_Tl_mem ?_
  unfold tX11_rule
  refine List.forall_mem_cons.mpr ⟨(zo_iload_tl _ _), ?_⟩
  refine List.forall_mem_cons.mpr ⟨(zo_iload_tl _ _), ?_⟩
  refine List.forall_mem_cons.mpr ⟨(zo_calls_tl _ _ _), ?_⟩
  refine List.forall_mem_cons.mpr ⟨zo_none_tl, ?_⟩
  refine List.forall_mem_cons.mpr ⟨zo_none_tl, ?_⟩
  refine List.forall_mem_cons.mpr ⟨(zo_if_tl _ _ _), ?_⟩
  refine List.forall_mem_cons.mpr ⟨zo_none_tl, ?_⟩
  refine List.forall_mem_cons.mpr ⟨zo_none_tl, ?_⟩
  refine List.forall_mem_cons.mpr ⟨(zo_iload_tl _ _), ?_⟩
  refine List.forall_mem_cons.mpr ⟨(zo_iload_tl _ _), ?_⟩
  refine List.forall_mem_cons.mpr ⟨zo_none_tl, ?_⟩
  refine List.forall_mem_cons.mpr ⟨(zo_calls_tl _ _ _), ?_⟩
  refine List.forall_mem_cons.mpr ⟨zo_none_tl, ?_⟩
  refine List.forall_mem_cons.mpr ⟨zo_none_tl, ?_⟩
  refine List.forall_mem_cons.mpr ⟨(zo_if_tl _ _ _), ?_⟩
  refine List.forall_mem_cons.mpr ⟨zo_none_tl, ?_⟩
  refine List.forall_mem_cons.mpr ⟨zo_none_tl, ?_⟩
  refine List.forall_mem_cons.mpr ⟨(zo_iload_tl _ _), ?_⟩
  refine List.forall_mem_cons.mpr ⟨(zo_iload_tl _ _), ?_⟩
  refine List.forall_mem_cons.mpr ⟨zo_none_tl, ?_⟩
  refine List.forall_mem_cons.mpr ⟨(zo_icmp_tl _ _ _), ?_⟩
  refine List.forall_mem_cons.mpr ⟨zo_none_tl, ?_⟩
  refine List.forall_mem_cons.mpr ⟨zo_none_tl, ?_⟩
  refine List.forall_mem_cons.mpr ⟨(zo_iload_tl _ _), ?_⟩
  refine List.forall_mem_cons.mpr ⟨zo_none_tl, ?_⟩
  refine List.forall_mem_cons.mpr ⟨(zo_iload_tl _ _), ?_⟩
  refine List.forall_mem_cons.mpr ⟨zo_none_tl, ?_⟩
  refine List.forall_mem_cons.mpr ⟨(zo_calls_tl _ _ _), ?_⟩
  refine List.forall_mem_cons.mpr ⟨zo_none_tl, ?_⟩
  refine List.forall_mem_cons.mpr ⟨zo_none_tl, ?_⟩
  refine List.forall_mem_cons.mpr ⟨(zo_if_tl _ _ _), ?_⟩
  refine List.forall_mem_cons.mpr ⟨zo_none_tl, ?_⟩
  refine List.forall_mem_cons.mpr ⟨zo_none_tl, ?_⟩
  refine List.forall_mem_cons.mpr ⟨(zo_throw_tl _), ?_⟩
  refine List.forall_mem_cons.mpr ⟨zo_none_tl, ?_⟩
  refine List.forall_mem_cons.mpr ⟨zo_none_tl, ?_⟩
  refine List.forall_mem_cons.mpr ⟨zo_none_tl, ?_⟩
  refine List.forall_mem_cons.mpr ⟨zo_none_tl, ?_⟩
  refine List.forall_mem_cons.mpr ⟨zo_none_tl, ?_⟩
  refine List.forall_mem_cons.mpr ⟨zo_none_tl, ?_⟩
  refine List.forall_mem_cons.mpr ⟨zo_none_tl, ?_⟩
  refine List.forall_mem_cons.mpr ⟨zo_none_tl, ?_⟩
  refine List.forall_mem_cons.mpr ⟨zo_none_tl, ?_⟩
  refine List.forall_mem_cons.mpr ⟨(zo_aload_tl _ _), ?_⟩
  refine List.forall_mem_cons.mpr ⟨(zo_getf_tl _ _ _), ?_⟩
  refine List.forall_mem_cons.mpr ⟨zo_none_tl, ?_⟩
  refine List.forall_mem_cons.mpr ⟨zo_none_tl, ?_⟩
  refine List.forall_mem_cons.mpr ⟨(zo_getf_tl _ _ _), ?_⟩
  refine List.forall_mem_cons.mpr ⟨zo_none_tl, ?_⟩
  refine List.forall_mem_cons.mpr ⟨zo_none_tl, ?_⟩
  refine List.forall_mem_cons.mpr ⟨(zo_iload_tl _ _), ?_⟩
  refine List.forall_mem_cons.mpr ⟨(zo_iload_tl _ _), ?_⟩
  refine List.forall_mem_cons.mpr ⟨(zo_iload_tl _ _), ?_⟩
  refine List.forall_mem_cons.mpr ⟨(zo_iload_tl _ _), ?_⟩
  refine List.forall_mem_cons.mpr ⟨zo_none_tl, ?_⟩
  refine List.forall_mem_cons.mpr ⟨(zo_iload_tl _ _), ?_⟩
  refine List.forall_mem_cons.mpr ⟨zo_none_tl, ?_⟩
  refine List.forall_mem_cons.mpr ⟨(zo_iload_tl _ _), ?_⟩
  refine List.forall_mem_cons.mpr ⟨zo_none_tl, ?_⟩
  refine List.forall_mem_cons.mpr ⟨(zo_callv_tl _ _ _ _), ?_⟩
  refine List.forall_mem_cons.mpr ⟨zo_none_tl, ?_⟩
  refine List.forall_mem_cons.mpr ⟨zo_none_tl, ?_⟩
  refine List.forall_mem_cons.mpr ⟨(zo_if_tl _ _ _), ?_⟩
  refine List.forall_mem_cons.mpr ⟨zo_none_tl, ?_⟩
  refine List.forall_mem_cons.mpr ⟨zo_none_tl, ?_⟩
  refine List.forall_mem_cons.mpr ⟨(zo_throw_tl _), ?_⟩
  refine List.forall_mem_cons.mpr ⟨zo_none_tl, ?_⟩
  refine List.forall_mem_cons.mpr ⟨zo_none_tl, ?_⟩
  refine List.forall_mem_cons.mpr ⟨zo_none_tl, ?_⟩
  refine List.forall_mem_cons.mpr ⟨zo_none_tl, ?_⟩
  refine List.forall_mem_cons.mpr ⟨zo_none_tl, ?_⟩
  refine List.forall_mem_cons.mpr ⟨zo_none_tl, ?_⟩
  refine List.forall_mem_cons.mpr ⟨zo_none_tl, ?_⟩
  refine List.forall_mem_cons.mpr ⟨zo_none_tl, ?_⟩
  refine List.forall_mem_cons.mpr ⟨zo_none_tl, ?_⟩
  refine List.forall_mem_cons.mpr ⟨(zo_aload_tl _ _), ?_⟩
  refine List.forall_mem_cons.mpr ⟨(zo_getf_tl _ _ _), ?_⟩
  refine List.forall_mem_cons.mpr ⟨zo_none_tl, ?_⟩
  refine List.forall_mem_cons.mpr ⟨zo_none_tl, ?_⟩
  refine List.forall_mem_cons.mpr ⟨(zo_getf_tl _ _ _), ?_⟩
  refine List.forall_mem_cons.mpr ⟨zo_none_tl, ?_⟩
  refine List.forall_mem_cons.mpr ⟨zo_none_tl, ?_⟩
  refine List.forall_mem_cons.mpr ⟨(zo_getf_tl _ _ _), ?_⟩
  refine List.forall_mem_cons.mpr ⟨zo_none_tl, ?_⟩
  refine List.forall_mem_cons.mpr ⟨zo_none_tl, ?_⟩
  refine List.forall_mem_cons.mpr ⟨(zo_iret_tl _), ?_⟩
  exact fun _ h => absurd h List.not_mem_nil
noncomputable def fX11_rule : zzFn := zz_fn tX11_rule 7
set_option maxRecDepth 100000 in
set_option maxHeartbeats 4000000 in
theorem mm_X11_rule {l : Launch} {D : va_G} {cA : Nat → ClassId} {ad : Nat → Nat} {Ex : (Nat → Prop) → State → Heap → Prop} (Wd : zzWC l D cA ad Ex) : zz_Cn l D zzCl cA ad zzSC Ex yX11_rule cX11_rule 7 (some .int) 6 82 fX11_rule ∧ zz_Cx l D zzCl cA ad zzSC Ex yX11_rule cX11_rule 7 (some .int) 6 82 fX11_rule := by
  refine zz_meth (plainFor_of_name (by decide)) Wd.1 Wd.2.1 Wd.2.2.1 (fun p e R s m args below meth c rr X => ?_)
  unfold tX11_rule
  refine zz_cons (k' := 1) rfl (zk_iload_n X dX11_rule_0 rfl rfl) ?_
  refine zz_cons (k' := 2) rfl (zk_iload_n X dX11_rule_1 rfl rfl) ?_
  refine zz_cons (k' := 3) rfl (zk_calls X ks_X11_88 (mm_X11_hasField Wd).1 (by decide) dX11_rule_2 rfl) ?_
  refine zz_cons (k' := 4) rfl (zz_Ok_none _ _) ?_
  refine zz_cons (k' := 5) rfl (zz_Ok_none _ _) ?_
  refine zz_cons (k' := 6) rfl (zk_if_eq X dX11_rule_5 (by decide) rfl) ?_
  refine zz_cons (k' := 7) rfl (zz_Ok_none _ _) ?_
  refine zz_cons (k' := 8) rfl (zz_Ok_none _ _) ?_
  refine zz_cons (k' := 9) rfl (zk_iload_n X dX11_rule_8 rfl rfl) ?_
  refine zz_cons (k' := 10) rfl (zk_iload X dX11_rule_9 rfl) ?_
  refine zz_cons (k' := 11) rfl (zz_Ok_none _ _) ?_
  refine zz_cons (k' := 12) rfl (zk_calls X ks_X11_88 (mm_X11_hasField Wd).1 (by decide) dX11_rule_11 rfl) ?_
  refine zz_cons (k' := 13) rfl (zz_Ok_none _ _) ?_
  refine zz_cons (k' := 14) rfl (zz_Ok_none _ _) ?_
  refine zz_cons (k' := 15) rfl (zk_if_eq X dX11_rule_14 (by decide) rfl) ?_
  refine zz_cons (k' := 16) rfl (zz_Ok_none _ _) ?_
  refine zz_cons (k' := 17) rfl (zz_Ok_none _ _) ?_
  refine zz_cons (k' := 18) rfl (zk_iload_n X dX11_rule_17 rfl rfl) ?_
  refine zz_cons (k' := 19) rfl (zk_iload X dX11_rule_18 rfl) ?_
  refine zz_cons (k' := 20) rfl (zz_Ok_none _ _) ?_
  refine zz_cons (k' := 21) rfl (zk_icmp_gt X dX11_rule_20 (by decide) rfl) ?_
  refine zz_cons (k' := 22) rfl (zz_Ok_none _ _) ?_
  refine zz_cons (k' := 23) rfl (zz_Ok_none _ _) ?_
  refine zz_cons (k' := 24) rfl (zk_iload X dX11_rule_23 rfl) ?_
  refine zz_cons (k' := 25) rfl (zz_Ok_none _ _) ?_
  refine zz_cons (k' := 26) rfl (zk_iload X dX11_rule_25 rfl) ?_
  refine zz_cons (k' := 27) rfl (zz_Ok_none _ _) ?_
  refine zz_cons (k' := 28) rfl (zk_calls X ks_X11_92 (mm_X11_isInRange Wd).1 (by decide) dX11_rule_27 rfl) ?_
  refine zz_cons (k' := 29) rfl (zz_Ok_none _ _) ?_
  refine zz_cons (k' := 30) rfl (zz_Ok_none _ _) ?_
  refine zz_cons (k' := 31) rfl (zk_if_ne X dX11_rule_30 (by decide) rfl) ?_
  refine zz_cons (k' := 32) rfl (zz_Ok_none _ _) ?_
  refine zz_cons (k' := 33) rfl (zz_Ok_none _ _) ?_
  refine zz_cons (k' := 34) rfl (zk_throw X (th_X11_61_148 Wd) (by decide) dX11_rule_33 dX11_rule_36 dX11_rule_37 dX11_rule_39 dX11_rule_42) ?_
  refine zz_cons (k' := 35) rfl (zz_Ok_none _ _) ?_
  refine zz_cons (k' := 36) rfl (zz_Ok_none _ _) ?_
  refine zz_cons (k' := 37) rfl (zz_Ok_none _ _) ?_
  refine zz_cons (k' := 38) rfl (zz_Ok_none _ _) ?_
  refine zz_cons (k' := 39) rfl (zz_Ok_none _ _) ?_
  refine zz_cons (k' := 40) rfl (zz_Ok_none _ _) ?_
  refine zz_cons (k' := 41) rfl (zz_Ok_none _ _) ?_
  refine zz_cons (k' := 42) rfl (zz_Ok_none _ _) ?_
  refine zz_cons (k' := 43) rfl (zz_Ok_none _ _) ?_
  refine zz_cons (k' := 44) rfl (zk_aload_n X dX11_rule_43 rfl rfl) ?_
  refine zz_cons (k' := 45) rfl (zk_getf X ff_X11_10 dX11_rule_44 rfl) ?_
  refine zz_cons (k' := 46) rfl (zz_Ok_none _ _) ?_
  refine zz_cons (k' := 47) rfl (zz_Ok_none _ _) ?_
  refine zz_cons (k' := 48) rfl (zk_getf X ff_X11_150 dX11_rule_47 rfl) ?_
  refine zz_cons (k' := 49) rfl (zz_Ok_none _ _) ?_
  refine zz_cons (k' := 50) rfl (zz_Ok_none _ _) ?_
  refine zz_cons (k' := 51) rfl (zk_iload_n X dX11_rule_50 rfl rfl) ?_
  refine zz_cons (k' := 52) rfl (zk_iload_n X dX11_rule_51 rfl rfl) ?_
  refine zz_cons (k' := 53) rfl (zk_iload_n X dX11_rule_52 rfl rfl) ?_
  refine zz_cons (k' := 54) rfl (zk_iload X dX11_rule_53 rfl) ?_
  refine zz_cons (k' := 55) rfl (zz_Ok_none _ _) ?_
  refine zz_cons (k' := 56) rfl (zk_iload X dX11_rule_55 rfl) ?_
  refine zz_cons (k' := 57) rfl (zz_Ok_none _ _) ?_
  refine zz_cons (k' := 58) rfl (zk_iload X dX11_rule_57 rfl) ?_
  refine zz_cons (k' := 59) rfl (zz_Ok_none _ _) ?_
  refine zz_cons (k' := 60) rfl (zk_callv X (zz_Cv_of (List.forall_mem_cons.mpr ⟨⟨(RX_0, zzT0, 6), yX0_addRule, cX0_addRule, 8, (some .boolean), 0, 0, rfl, kv_X11_154_0.1, (mm_X0_addRule Wd).1, by decide, by decide⟩, (fun _ h => absurd h List.not_mem_nil)⟩)) dX11_rule_59 rfl) ?_
  refine zz_cons (k' := 61) rfl (zz_Ok_none _ _) ?_
  refine zz_cons (k' := 62) rfl (zz_Ok_none _ _) ?_
  refine zz_cons (k' := 63) rfl (zk_if_ne X dX11_rule_62 (by decide) rfl) ?_
  refine zz_cons (k' := 64) rfl (zz_Ok_none _ _) ?_
  refine zz_cons (k' := 65) rfl (zz_Ok_none _ _) ?_
  refine zz_cons (k' := 66) rfl (zk_throw X (th_X11_75_160 Wd) (by decide) dX11_rule_65 dX11_rule_68 dX11_rule_69 dX11_rule_71 dX11_rule_74) ?_
  refine zz_cons (k' := 67) rfl (zz_Ok_none _ _) ?_
  refine zz_cons (k' := 68) rfl (zz_Ok_none _ _) ?_
  refine zz_cons (k' := 69) rfl (zz_Ok_none _ _) ?_
  refine zz_cons (k' := 70) rfl (zz_Ok_none _ _) ?_
  refine zz_cons (k' := 71) rfl (zz_Ok_none _ _) ?_
  refine zz_cons (k' := 72) rfl (zz_Ok_none _ _) ?_
  refine zz_cons (k' := 73) rfl (zz_Ok_none _ _) ?_
  refine zz_cons (k' := 74) rfl (zz_Ok_none _ _) ?_
  refine zz_cons (k' := 75) rfl (zz_Ok_none _ _) ?_
  refine zz_cons (k' := 76) rfl (zk_aload_n X dX11_rule_75 rfl rfl) ?_
  refine zz_cons (k' := 77) rfl (zk_getf X ff_X11_10 dX11_rule_76 rfl) ?_
  refine zz_cons (k' := 78) rfl (zz_Ok_none _ _) ?_
  refine zz_cons (k' := 79) rfl (zz_Ok_none _ _) ?_
  refine zz_cons (k' := 80) rfl (zk_getf X ff_X11_150 dX11_rule_79 rfl) ?_
  refine zz_cons (k' := 81) rfl (zz_Ok_none _ _) ?_
  refine zz_cons (k' := 82) rfl (zz_Ok_none _ _) ?_
  refine zz_cons (k' := 83) rfl (zk_getf X ff_X11_162 dX11_rule_82 rfl) ?_
  refine zz_cons (k' := 84) rfl (zz_Ok_none _ _) ?_
  refine zz_cons (k' := 85) rfl (zz_Ok_none _ _) ?_
  refine zz_cons (k' := 86) rfl (zk_iret X rfl dX11_rule_85) ?_
  exact trivial
noncomputable def tX11_check : List zzOp := [
  zo_iload 1 1,
  zo_iload 2 2,
  zo_calls fX11_hasField 2 5,
  zo_none,
  zo_none,
  zo_if (fun x => decide (¬ x = 0)) 18 8,
  zo_none,
  zo_none,
  zo_throw 0,
  zo_none,
  zo_none,
  zo_none,
  zo_none,
  zo_none,
  zo_none,
  zo_none,
  zo_none,
  zo_none,
  zo_aload 0 19,
  zo_getf zzSC (zz_kf [9] 0) 22,
  zo_none,
  zo_none,
  zo_getf zzSC (zz_kf [8] 4) 25,
  zo_none,
  zo_none,
  zo_iload 1 26,
  zo_iload 2 27,
  zo_iload 3 28,
  zo_callv zzSC (zz_cl [(0, fX0_addCheck)]) 3 31,
  zo_none,
  zo_none,
  zo_if (fun x => decide (¬ x = 0)) 44 34,
  zo_none,
  zo_none,
  zo_throw 1,
  zo_none,
  zo_none,
  zo_none,
  zo_none,
  zo_none,
  zo_none,
  zo_none,
  zo_none,
  zo_none,
  zo_aload 0 45,
  zo_getf zzSC (zz_kf [9] 0) 48,
  zo_none,
  zo_none,
  zo_getf zzSC (zz_kf [8] 4) 51,
  zo_none,
  zo_none,
  zo_getf zzSC (zz_kf [0] 4) 54,
  zo_none,
  zo_none,
  zo_iret false]
set_option maxRecDepth 100000 in
theorem tl_X11_check : ∀ pc, zz_Tl (tX11_check.getD pc zo_none) := by
  refine zz_Tl_mem ?_
  unfold tX11_check
  refine List.forall_mem_cons.mpr ⟨(zo_iload_tl _ _), ?_⟩
  refine List.forall_mem_cons.mpr ⟨(zo_iload_tl _ _), ?_⟩
  refine List.forall_mem_cons.mpr ⟨(zo_calls_tl _ _ _), ?_⟩
  refine List.forall_mem_cons.mpr ⟨zo_none_tl, ?_⟩
  refine List.forall_mem_cons.mpr ⟨zo_none_tl, ?_⟩
  refine List.forall_mem_cons.mpr ⟨(zo_if_tl _ _ _), ?_⟩
  refine List.forall_mem_cons.mpr ⟨zo_none_tl, ?_⟩
  refine List.forall_mem_cons.mpr ⟨zo_none_tl, ?_⟩
  refine List.forall_mem_cons.mpr ⟨(zo_throw_tl _), ?_⟩
  refine List.forall_mem_cons.mpr ⟨zo_none_tl, ?_⟩
  refine List.forall_mem_cons.mpr ⟨zo_none_tl, ?_⟩
  refine List.forall_mem_cons.mpr ⟨zo_none_tl, ?_⟩
  refine List.forall_mem_cons.mpr ⟨zo_none_tl, ?_⟩
  refine List.forall_mem_cons.mpr ⟨zo_none_tl, ?_⟩
  refine List.forall_mem_cons.mpr ⟨zo_none_tl, ?_⟩
  refine List.forall_mem_cons.mpr ⟨zo_none_tl, ?_⟩
  refine List.forall_mem_cons.mpr ⟨zo_none_tl, ?_⟩
  refine List.forall_mem_cons.mpr ⟨zo_none_tl, ?_⟩
  refine List.forall_mem_cons.mpr ⟨(zo_aload_tl _ _), ?_⟩
  refine List.forall_mem_cons.mpr ⟨(zo_getf_tl _ _ _), ?_⟩
  refine List.forall_mem_cons.mpr ⟨zo_none_tl, ?_⟩
  refine List.forall_mem_cons.mpr ⟨zo_none_tl, ?_⟩
  refine List.forall_mem_cons.mpr ⟨(zo_getf_tl _ _ _), ?_⟩
  refine List.forall_mem_cons.mpr ⟨zo_none_tl, ?_⟩
  refine List.forall_mem_cons.mpr ⟨zo_none_tl, ?_⟩
  refine List.forall_mem_cons.mpr ⟨(zo_iload_tl _ _), ?_⟩
  refine List.forall_mem_cons.mpr ⟨(zo_iload_tl _ _), ?_⟩
  refine List.forall_mem_cons.mpr ⟨(zo_iload_tl _ _), ?_⟩
  refine List.forall_mem_cons.mpr ⟨(zo_callv_tl _ _ _ _), ?_⟩
  refine List.forall_mem_cons.mpr ⟨zo_none_tl, ?_⟩
  refine List.forall_mem_cons.mpr ⟨zo_none_tl, ?_⟩
  refine List.forall_mem_cons.mpr ⟨(zo_if_tl _ _ _), ?_⟩
  refine List.forall_mem_cons.mpr ⟨zo_none_tl, ?_⟩
  refine List.forall_mem_cons.mpr ⟨zo_none_tl, ?_⟩
  refine List.forall_mem_cons.mpr ⟨(zo_throw_tl _), ?_⟩
  refine List.forall_mem_cons.mpr ⟨zo_none_tl, ?_⟩
  refine List.forall_mem_cons.mpr ⟨zo_none_tl, ?_⟩
  refine List.forall_mem_cons.mpr ⟨zo_none_tl, ?_⟩
  refine List.forall_mem_cons.mpr ⟨zo_none_tl, ?_⟩
  refine List.forall_mem_cons.mpr ⟨zo_none_tl, ?_⟩
  refine List.forall_mem_cons.mpr ⟨zo_none_tl, ?_⟩
  refine List.forall_mem_cons.mpr ⟨zo_none_tl, ?_⟩
  refine List.forall_mem_cons.mpr ⟨zo_none_tl, ?_⟩
  refine List.forall_mem_cons.mpr ⟨zo_none_tl, ?_⟩
  refine List.forall_mem_cons.mpr ⟨(zo_aload_tl _ _), ?_⟩
  refine List.forall_mem_cons.mpr ⟨(zo_getf_tl _ _ _), ?_⟩
  refine List.forall_mem_cons.mpr ⟨zo_none_tl, ?_⟩
  refine List.forall_mem_cons.mpr ⟨zo_none_tl, ?_⟩
  refine List.forall_mem_cons.mpr ⟨(zo_getf_tl _ _ _), ?_⟩
  refine List.forall_mem_cons.mpr ⟨zo_none_tl, ?_⟩
  refine List.forall_mem_cons.mpr ⟨zo_none_tl, ?_⟩
  refine List.forall_mem_cons.mpr ⟨(zo_getf_tl _ _ _), ?_⟩
  refine List.forall_mem_cons.mpr ⟨zo_none_tl, ?_⟩
  refine List.forall_mem_cons.mpr ⟨zo_none_tl, ?_⟩
  refine List.forall_mem_cons.mpr ⟨(zo_iret_tl _), ?_⟩
  exact fun _ h => absurd h List.not_mem_nil
noncomputable def fX11_check : zzFn := zz_fn tX11_check 4
set_option maxRecDepth 100000 in
set_option maxHeartbeats 4000000 in
theorem mm_X11_check {l : Launch} {D : va_G} {cA : Nat → ClassId} {ad : Nat → Nat} {Ex : (Nat → Prop) → State → Heap → Prop} (Wd : zzWC l D cA ad Ex) : zz_Cn l D zzCl cA ad zzSC Ex yX11_check cX11_check 4 (some .int) 6 82 fX11_check ∧ zz_Cx l D zzCl cA ad zzSC Ex yX11_check cX11_check 4 (some .int) 6 82 fX11_check := by
  refine zz_meth (plainFor_of_name (by decide)) Wd.1 Wd.2.1 Wd.2.2.1 (fun p e R s m args below meth c rr X => ?_)
  unfold tX11_check
  refine zz_cons (k' := 1) rfl (zk_iload_n X dX11_check_0 rfl rfl) ?_
  refine zz_cons (k' := 2) rfl (zk_iload_n X dX11_check_1 rfl rfl) ?_
  refine zz_cons (k' := 3) rfl (zk_calls X ks_X11_88 (mm_X11_hasField Wd).1 (by decide) dX11_check_2 rfl) ?_
  refine zz_cons (k' := 4) rfl (zz_Ok_none _ _) ?_
  refine zz_cons (k' := 5) rfl (zz_Ok_none _ _) ?_
  refine zz_cons (k' := 6) rfl (zk_if_ne X dX11_check_5 (by decide) rfl) ?_
  refine zz_cons (k' := 7) rfl (zz_Ok_none _ _) ?_
  refine zz_cons (k' := 8) rfl (zz_Ok_none _ _) ?_
  refine zz_cons (k' := 9) rfl (zk_throw X (th_X11_61_166 Wd) (by decide) dX11_check_8 dX11_check_11 dX11_check_12 dX11_check_14 dX11_check_17) ?_
  refine zz_cons (k' := 10) rfl (zz_Ok_none _ _) ?_
  refine zz_cons (k' := 11) rfl (zz_Ok_none _ _) ?_
  refine zz_cons (k' := 12) rfl (zz_Ok_none _ _) ?_
  refine zz_cons (k' := 13) rfl (zz_Ok_none _ _) ?_
  refine zz_cons (k' := 14) rfl (zz_Ok_none _ _) ?_
  refine zz_cons (k' := 15) rfl (zz_Ok_none _ _) ?_
  refine zz_cons (k' := 16) rfl (zz_Ok_none _ _) ?_
  refine zz_cons (k' := 17) rfl (zz_Ok_none _ _) ?_
  refine zz_cons (k' := 18) rfl (zz_Ok_none _ _) ?_
  refine zz_cons (k' := 19) rfl (zk_aload_n X dX11_check_18 rfl rfl) ?_
  refine zz_cons (k' := 20) rfl (zk_getf X ff_X11_10 dX11_check_19 rfl) ?_
  refine zz_cons (k' := 21) rfl (zz_Ok_none _ _) ?_
  refine zz_cons (k' := 22) rfl (zz_Ok_none _ _) ?_
  refine zz_cons (k' := 23) rfl (zk_getf X ff_X11_150 dX11_check_22 rfl) ?_
  refine zz_cons (k' := 24) rfl (zz_Ok_none _ _) ?_
  refine zz_cons (k' := 25) rfl (zz_Ok_none _ _) ?_
  refine zz_cons (k' := 26) rfl (zk_iload_n X dX11_check_25 rfl rfl) ?_
  refine zz_cons (k' := 27) rfl (zk_iload_n X dX11_check_26 rfl rfl) ?_
  refine zz_cons (k' := 28) rfl (zk_iload_n X dX11_check_27 rfl rfl) ?_
  refine zz_cons (k' := 29) rfl (zk_callv X (zz_Cv_of (List.forall_mem_cons.mpr ⟨⟨(RX_0, zzT0, 6), yX0_addCheck, cX0_addCheck, 5, (some .boolean), 0, 0, rfl, kv_X11_168_0.1, (mm_X0_addCheck Wd).1, by decide, by decide⟩, (fun _ h => absurd h List.not_mem_nil)⟩)) dX11_check_28 rfl) ?_
  refine zz_cons (k' := 30) rfl (zz_Ok_none _ _) ?_
  refine zz_cons (k' := 31) rfl (zz_Ok_none _ _) ?_
  refine zz_cons (k' := 32) rfl (zk_if_ne X dX11_check_31 (by decide) rfl) ?_
  refine zz_cons (k' := 33) rfl (zz_Ok_none _ _) ?_
  refine zz_cons (k' := 34) rfl (zz_Ok_none _ _) ?_
  refine zz_cons (k' := 35) rfl (zk_throw X (th_X11_75_171 Wd) (by decide) dX11_check_34 dX11_check_37 dX11_check_38 dX11_check_40 dX11_check_43) ?_
  refine zz_cons (k' := 36) rfl (zz_Ok_none _ _) ?_
  refine zz_cons (k' := 37) rfl (zz_Ok_none _ _) ?_
  refine zz_cons (k' := 38) rfl (zz_Ok_none _ _) ?_
  refine zz_cons (k' := 39) rfl (zz_Ok_none _ _) ?_
  refine zz_cons (k' := 40) rfl (zz_Ok_none _ _) ?_
  refine zz_cons (k' := 41) rfl (zz_Ok_none _ _) ?_
  refine zz_cons (k' := 42) rfl (zz_Ok_none _ _) ?_
  refine zz_cons (k' := 43) rfl (zz_Ok_none _ _) ?_
  refine zz_cons (k' := 44) rfl (zz_Ok_none _ _) ?_
  refine zz_cons (k' := 45) rfl (zk_aload_n X dX11_check_44 rfl rfl) ?_
  refine zz_cons (k' := 46) rfl (zk_getf X ff_X11_10 dX11_check_45 rfl) ?_
  refine zz_cons (k' := 47) rfl (zz_Ok_none _ _) ?_
  refine zz_cons (k' := 48) rfl (zz_Ok_none _ _) ?_
  refine zz_cons (k' := 49) rfl (zk_getf X ff_X11_150 dX11_check_48 rfl) ?_
  refine zz_cons (k' := 50) rfl (zz_Ok_none _ _) ?_
  refine zz_cons (k' := 51) rfl (zz_Ok_none _ _) ?_
  refine zz_cons (k' := 52) rfl (zk_getf X ff_X11_173 dX11_check_51 rfl) ?_
  refine zz_cons (k' := 53) rfl (zz_Ok_none _ _) ?_
  refine zz_cons (k' := 54) rfl (zz_Ok_none _ _) ?_
  refine zz_cons (k' := 55) rfl (zk_iret X rfl dX11_check_54) ?_
  exact trivial
noncomputable def tX11_clear : List zzOp := [
  zo_aload 0 1,
  zo_getf zzSC (zz_kf [9] 0) 4,
  zo_none,
  zo_none,
  zo_getf zzSC (zz_kf [8] 4) 7,
  zo_none,
  zo_none,
  zo_callv zzSC (zz_cl [(0, fX0_removeAll)]) 0 10,
  zo_none,
  zo_none,
  zo_iret false]
set_option maxRecDepth 100000 in
theorem tl_X11_clear : ∀ pc, zz_Tl (tX11_clear.getD pc zo_none) := by
  refine zz_Tl_mem ?_
  unfold tX11_clear
  refine List.forall_mem_cons.mpr ⟨(zo_aload_tl _ _), ?_⟩
  refine List.forall_mem_cons.mpr ⟨(zo_getf_tl _ _ _), ?_⟩
  refine List.forall_mem_cons.mpr ⟨zo_none_tl, ?_⟩
  refine List.forall_mem_cons.mpr ⟨zo_none_tl, ?_⟩
  refine List.forall_mem_cons.mpr ⟨(zo_getf_tl _ _ _), ?_⟩
  refine List.forall_mem_cons.mpr ⟨zo_none_tl, ?_⟩
  refine List.forall_mem_cons.mpr ⟨zo_none_tl, ?_⟩
  refine List.forall_mem_cons.mpr ⟨(zo_callv_tl _ _ _ _), ?_⟩
  refine List.forall_mem_cons.mpr ⟨zo_none_tl, ?_⟩
  refine List.forall_mem_cons.mpr ⟨zo_none_tl, ?_⟩
  refine List.forall_mem_cons.mpr ⟨(zo_iret_tl _), ?_⟩
  exact fun _ h => absurd h List.not_mem_nil
noncomputable def fX11_clear : zzFn := zz_fn tX11_clear 1
noncomputable def tX11_quota : List zzOp := [
  zo_iload 1 1,
  zo_if (fun x => decide (x < 0)) 10 4,
  zo_none,
  zo_none,
  zo_iload 1 5,
  zo_pushI 60 7,
  zo_none,
  zo_icmp (fun x y => decide (x ≤ y)) 20 10,
  zo_none,
  zo_none,
  zo_throw 0,
  zo_none,
  zo_none,
  zo_none,
  zo_none,
  zo_none,
  zo_none,
  zo_none,
  zo_none,
  zo_none,
  zo_aload 0 21,
  zo_getf zzSC (zz_kf [9] 0) 24,
  zo_none,
  zo_none,
  zo_getf zzSC (zz_kf [8] 4) 27,
  zo_none,
  zo_none,
  zo_getf zzSC (zz_kf [0] 5) 30,
  zo_none,
  zo_none,
  zo_istore 2 31,
  zo_aload 0 32,
  zo_getf zzSC (zz_kf [9] 0) 35,
  zo_none,
  zo_none,
  zo_getf zzSC (zz_kf [8] 4) 38,
  zo_none,
  zo_none,
  zo_iload 1 39,
  zo_putf zzSC (zz_kf [0] 5) false 42,
  zo_none,
  zo_none,
  zo_iload 2 43,
  zo_iret false]
set_option maxRecDepth 100000 in
theorem tl_X11_quota : ∀ pc, zz_Tl (tX11_quota.getD pc zo_none) := by
  refine zz_Tl_mem ?_
  unfold tX11_quota
  refine List.forall_mem_cons.mpr ⟨(zo_iload_tl _ _), ?_⟩
  refine List.forall_mem_cons.mpr ⟨(zo_if_tl _ _ _), ?_⟩
  refine List.forall_mem_cons.mpr ⟨zo_none_tl, ?_⟩
  refine List.forall_mem_cons.mpr ⟨zo_none_tl, ?_⟩
  refine List.forall_mem_cons.mpr ⟨(zo_iload_tl _ _), ?_⟩
  refine List.forall_mem_cons.mpr ⟨(zo_pushI_tl _ _), ?_⟩
  refine List.forall_mem_cons.mpr ⟨zo_none_tl, ?_⟩
  refine List.forall_mem_cons.mpr ⟨(zo_icmp_tl _ _ _), ?_⟩
  refine List.forall_mem_cons.mpr ⟨zo_none_tl, ?_⟩
  refine List.forall_mem_cons.mpr ⟨zo_none_tl, ?_⟩
  refine List.forall_mem_cons.mpr ⟨(zo_throw_tl _), ?_⟩
  refine List.forall_mem_cons.mpr ⟨zo_none_tl, ?_⟩
  refine List.forall_mem_cons.mpr ⟨zo_none_tl, ?_⟩
  refine List.forall_mem_cons.mpr ⟨zo_none_tl, ?_⟩
  refine List.forall_mem_cons.mpr ⟨zo_none_tl, ?_⟩
  refine List.forall_mem_cons.mpr ⟨zo_none_tl, ?_⟩
  refine List.forall_mem_cons.mpr ⟨zo_none_tl, ?_⟩
  refine List.forall_mem_cons.mpr ⟨zo_none_tl, ?_⟩
  refine List.forall_mem_cons.mpr ⟨zo_none_tl, ?_⟩
  refine List.forall_mem_cons.mpr ⟨zo_none_tl, ?_⟩
  refine List.forall_mem_cons.mpr ⟨(zo_aload_tl _ _), ?_⟩
  refine List.forall_mem_cons.mpr ⟨(zo_getf_tl _ _ _), ?_⟩
  refine List.forall_mem_cons.mpr ⟨zo_none_tl, ?_⟩
  refine List.forall_mem_cons.mpr ⟨zo_none_tl, ?_⟩
  refine List.forall_mem_cons.mpr ⟨(zo_getf_tl _ _ _), ?_⟩
  refine List.forall_mem_cons.mpr ⟨zo_none_tl, ?_⟩
  refine List.forall_mem_cons.mpr ⟨zo_none_tl, ?_⟩
  refine List.forall_mem_cons.mpr ⟨(zo_getf_tl _ _ _), ?_⟩
  refine List.forall_mem_cons.mpr ⟨zo_none_tl, ?_⟩
  refine List.forall_mem_cons.mpr ⟨zo_none_tl, ?_⟩
  refine List.forall_mem_cons.mpr ⟨(zo_istore_tl _ _), ?_⟩
  refine List.forall_mem_cons.mpr ⟨(zo_aload_tl _ _), ?_⟩
  refine List.forall_mem_cons.mpr ⟨(zo_getf_tl _ _ _), ?_⟩
  refine List.forall_mem_cons.mpr ⟨zo_none_tl, ?_⟩
  refine List.forall_mem_cons.mpr ⟨zo_none_tl, ?_⟩
  refine List.forall_mem_cons.mpr ⟨(zo_getf_tl _ _ _), ?_⟩
  refine List.forall_mem_cons.mpr ⟨zo_none_tl, ?_⟩
  refine List.forall_mem_cons.mpr ⟨zo_none_tl, ?_⟩
  refine List.forall_mem_cons.mpr ⟨(zo_iload_tl _ _), ?_⟩
  refine List.forall_mem_cons.mpr ⟨(zo_putf_tl _ _ _ _), ?_⟩
  refine List.forall_mem_cons.mpr ⟨zo_none_tl, ?_⟩
  refine List.forall_mem_cons.mpr ⟨zo_none_tl, ?_⟩
  refine List.forall_mem_cons.mpr ⟨(zo_iload_tl _ _), ?_⟩
  refine List.forall_mem_cons.mpr ⟨(zo_iret_tl _), ?_⟩
  exact fun _ h => absurd h List.not_mem_nil
noncomputable def fX11_quota : zzFn := zz_fn tX11_quota 3
set_option maxRecDepth 100000 in
set_option maxHeartbeats 4000000 in
theorem mm_X11_quota {l : Launch} {D : va_G} {cA : Nat → ClassId} {ad : Nat → Nat} {Ex : (Nat → Prop) → State → Heap → Prop} (Wd : zzWC l D cA ad Ex) : zz_Cn l D zzCl cA ad zzSC Ex yX11_quota cX11_quota 3 (some .int) 6 82 fX11_quota ∧ zz_Cx l D zzCl cA ad zzSC Ex yX11_quota cX11_quota 3 (some .int) 6 82 fX11_quota := by
  refine zz_meth (plainFor_of_name (by decide)) Wd.1 Wd.2.1 Wd.2.2.1 (fun p e R s m args below meth c rr X => ?_)
  unfold tX11_quota
  refine zz_cons (k' := 1) rfl (zk_iload_n X dX11_quota_0 rfl rfl) ?_
  refine zz_cons (k' := 2) rfl (zk_if_lt X dX11_quota_1 (by decide) rfl) ?_
  refine zz_cons (k' := 3) rfl (zz_Ok_none _ _) ?_
  refine zz_cons (k' := 4) rfl (zz_Ok_none _ _) ?_
  refine zz_cons (k' := 5) rfl (zk_iload_n X dX11_quota_4 rfl rfl) ?_
  refine zz_cons (k' := 6) rfl (zk_bipush X dX11_quota_5 (by decide) rfl) ?_
  refine zz_cons (k' := 7) rfl (zz_Ok_none _ _) ?_
  refine zz_cons (k' := 8) rfl (zk_icmp_le X dX11_quota_7 (by decide) rfl) ?_
  refine zz_cons (k' := 9) rfl (zz_Ok_none _ _) ?_
  refine zz_cons (k' := 10) rfl (zz_Ok_none _ _) ?_
  refine zz_cons (k' := 11) rfl (zk_throw X (th_X11_61_180 Wd) (by decide) dX11_quota_10 dX11_quota_13 dX11_quota_14 dX11_quota_16 dX11_quota_19) ?_
  refine zz_cons (k' := 12) rfl (zz_Ok_none _ _) ?_
  refine zz_cons (k' := 13) rfl (zz_Ok_none _ _) ?_
  refine zz_cons (k' := 14) rfl (zz_Ok_none _ _) ?_
  refine zz_cons (k' := 15) rfl (zz_Ok_none _ _) ?_
  refine zz_cons (k' := 16) rfl (zz_Ok_none _ _) ?_
  refine zz_cons (k' := 17) rfl (zz_Ok_none _ _) ?_
  refine zz_cons (k' := 18) rfl (zz_Ok_none _ _) ?_
  refine zz_cons (k' := 19) rfl (zz_Ok_none _ _) ?_
  refine zz_cons (k' := 20) rfl (zz_Ok_none _ _) ?_
  refine zz_cons (k' := 21) rfl (zk_aload_n X dX11_quota_20 rfl rfl) ?_
  refine zz_cons (k' := 22) rfl (zk_getf X ff_X11_10 dX11_quota_21 rfl) ?_
  refine zz_cons (k' := 23) rfl (zz_Ok_none _ _) ?_
  refine zz_cons (k' := 24) rfl (zz_Ok_none _ _) ?_
  refine zz_cons (k' := 25) rfl (zk_getf X ff_X11_150 dX11_quota_24 rfl) ?_
  refine zz_cons (k' := 26) rfl (zz_Ok_none _ _) ?_
  refine zz_cons (k' := 27) rfl (zz_Ok_none _ _) ?_
  refine zz_cons (k' := 28) rfl (zk_getf X ff_X11_182 dX11_quota_27 rfl) ?_
  refine zz_cons (k' := 29) rfl (zz_Ok_none _ _) ?_
  refine zz_cons (k' := 30) rfl (zz_Ok_none _ _) ?_
  refine zz_cons (k' := 31) rfl (zk_istore_n X dX11_quota_30 rfl (by decide) rfl) ?_
  refine zz_cons (k' := 32) rfl (zk_aload_n X dX11_quota_31 rfl rfl) ?_
  refine zz_cons (k' := 33) rfl (zk_getf X ff_X11_10 dX11_quota_32 rfl) ?_
  refine zz_cons (k' := 34) rfl (zz_Ok_none _ _) ?_
  refine zz_cons (k' := 35) rfl (zz_Ok_none _ _) ?_
  refine zz_cons (k' := 36) rfl (zk_getf X ff_X11_150 dX11_quota_35 rfl) ?_
  refine zz_cons (k' := 37) rfl (zz_Ok_none _ _) ?_
  refine zz_cons (k' := 38) rfl (zz_Ok_none _ _) ?_
  refine zz_cons (k' := 39) rfl (zk_iload_n X dX11_quota_38 rfl rfl) ?_
  refine zz_cons (k' := 40) rfl (zk_putf X ff_X11_182 fp_0_5 dX11_quota_39 rfl) ?_
  refine zz_cons (k' := 41) rfl (zz_Ok_none _ _) ?_
  refine zz_cons (k' := 42) rfl (zz_Ok_none _ _) ?_
  refine zz_cons (k' := 43) rfl (zk_iload_n X dX11_quota_42 rfl rfl) ?_
  refine zz_cons (k' := 44) rfl (zk_iret X rfl dX11_quota_43) ?_
  exact trivial
noncomputable def tX11_controllerAt : List zzOp := [
  zo_iload 1 1,
  zo_if (fun x => decide (x < 0)) 19 4,
  zo_none,
  zo_none,
  zo_iload 1 5,
  zo_pushI 8 7,
  zo_none,
  zo_icmp (fun x y => decide (y ≤ x)) 19 10,
  zo_none,
  zo_none,
  zo_aload 0 11,
  zo_getf zzSC (zz_kf [9] 1) 14,
  zo_none,
  zo_none,
  zo_iload 1 15,
  zo_aald zzSC 16,
  zo_goto 20,
  zo_none,
  zo_none,
  zo_null 20,
  zo_aret]
set_option maxRecDepth 100000 in
theorem tl_X11_controllerAt : ∀ pc, zz_Tl (tX11_controllerAt.getD pc zo_none) := by
  refine zz_Tl_mem ?_
  unfold tX11_controllerAt
  refine List.forall_mem_cons.mpr ⟨(zo_iload_tl _ _), ?_⟩
  refine List.forall_mem_cons.mpr ⟨(zo_if_tl _ _ _), ?_⟩
  refine List.forall_mem_cons.mpr ⟨zo_none_tl, ?_⟩
  refine List.forall_mem_cons.mpr ⟨zo_none_tl, ?_⟩
  refine List.forall_mem_cons.mpr ⟨(zo_iload_tl _ _), ?_⟩
  refine List.forall_mem_cons.mpr ⟨(zo_pushI_tl _ _), ?_⟩
  refine List.forall_mem_cons.mpr ⟨zo_none_tl, ?_⟩
  refine List.forall_mem_cons.mpr ⟨(zo_icmp_tl _ _ _), ?_⟩
  refine List.forall_mem_cons.mpr ⟨zo_none_tl, ?_⟩
  refine List.forall_mem_cons.mpr ⟨zo_none_tl, ?_⟩
  refine List.forall_mem_cons.mpr ⟨(zo_aload_tl _ _), ?_⟩
  refine List.forall_mem_cons.mpr ⟨(zo_getf_tl _ _ _), ?_⟩
  refine List.forall_mem_cons.mpr ⟨zo_none_tl, ?_⟩
  refine List.forall_mem_cons.mpr ⟨zo_none_tl, ?_⟩
  refine List.forall_mem_cons.mpr ⟨(zo_iload_tl _ _), ?_⟩
  refine List.forall_mem_cons.mpr ⟨(zo_aald_tl _ _), ?_⟩
  refine List.forall_mem_cons.mpr ⟨(zo_goto_tl _), ?_⟩
  refine List.forall_mem_cons.mpr ⟨zo_none_tl, ?_⟩
  refine List.forall_mem_cons.mpr ⟨zo_none_tl, ?_⟩
  refine List.forall_mem_cons.mpr ⟨(zo_null_tl _), ?_⟩
  refine List.forall_mem_cons.mpr ⟨(zo_aret_tl), ?_⟩
  exact fun _ h => absurd h List.not_mem_nil
noncomputable def fX11_controllerAt : zzFn := zz_fn tX11_controllerAt 2
set_option maxRecDepth 100000 in
set_option maxHeartbeats 4000000 in
theorem mm_X11_controllerAt {l : Launch} {D : va_G} {cA : Nat → ClassId} {ad : Nat → Nat} {Ex : (Nat → Prop) → State → Heap → Prop} (Wd : zzWC l D cA ad Ex) : zz_Cn l D zzCl cA ad zzSC Ex yX11_controllerAt cX11_controllerAt 2 (some (.object "ReconcilerHall$Controller")) 0 0 fX11_controllerAt ∧ zz_Cx l D zzCl cA ad zzSC Ex yX11_controllerAt cX11_controllerAt 2 (some (.object "ReconcilerHall$Controller")) 0 0 fX11_controllerAt := by
  refine zz_meth (plainFor_of_name (by decide)) Wd.1 Wd.2.1 Wd.2.2.1 (fun p e R s m args below meth c rr X => ?_)
  unfold tX11_controllerAt
  refine zz_cons (k' := 1) rfl (zk_iload_n X dX11_controllerAt_0 rfl rfl) ?_
  refine zz_cons (k' := 2) rfl (zk_if_lt X dX11_controllerAt_1 (by decide) rfl) ?_
  refine zz_cons (k' := 3) rfl (zz_Ok_none _ _) ?_
  refine zz_cons (k' := 4) rfl (zz_Ok_none _ _) ?_
  refine zz_cons (k' := 5) rfl (zk_iload_n X dX11_controllerAt_4 rfl rfl) ?_
  refine zz_cons (k' := 6) rfl (zk_bipush X dX11_controllerAt_5 (by decide) rfl) ?_
  refine zz_cons (k' := 7) rfl (zz_Ok_none _ _) ?_
  refine zz_cons (k' := 8) rfl (zk_icmp_ge X dX11_controllerAt_7 (by decide) rfl) ?_
  refine zz_cons (k' := 9) rfl (zz_Ok_none _ _) ?_
  refine zz_cons (k' := 10) rfl (zz_Ok_none _ _) ?_
  refine zz_cons (k' := 11) rfl (zk_aload_n X dX11_controllerAt_10 rfl rfl) ?_
  refine zz_cons (k' := 12) rfl (zk_getf X ff_X11_18 dX11_controllerAt_11 rfl) ?_
  refine zz_cons (k' := 13) rfl (zz_Ok_none _ _) ?_
  refine zz_cons (k' := 14) rfl (zz_Ok_none _ _) ?_
  refine zz_cons (k' := 15) rfl (zk_iload_n X dX11_controllerAt_14 rfl rfl) ?_
  refine zz_cons (k' := 16) rfl (zk_aald X dX11_controllerAt_15 rfl) ?_
  refine zz_cons (k' := 17) rfl (zk_goto X dX11_controllerAt_16 (by decide)) ?_
  refine zz_cons (k' := 18) rfl (zz_Ok_none _ _) ?_
  refine zz_cons (k' := 19) rfl (zz_Ok_none _ _) ?_
  refine zz_cons (k' := 20) rfl (zk_null X dX11_controllerAt_19 rfl) ?_
  refine zz_cons (k' := 21) rfl (zk_aret X rfl (by first | exact Or.inl ⟨_, rfl⟩ | exact Or.inr ⟨_, rfl⟩) dX11_controllerAt_20) ?_
  exact trivial
noncomputable def tX11_see : List zzOp := [
  zo_aload 0 1,
  zo_iload 1 2,
  zo_callv zzSC (zz_cl [(9, fX11_controllerAt)]) 1 5,
  zo_none,
  zo_none,
  zo_astore 3 6,
  zo_aload 3 7,
  zo_ifnull 22 10,
  zo_none,
  zo_none,
  zo_iload 2 11,
  zo_pushI 1 12,
  zo_icmp (fun x y => decide (x < y)) 22 15,
  zo_none,
  zo_none,
  zo_iload 2 16,
  zo_pushI 400 19,
  zo_none,
  zo_none,
  zo_icmp (fun x y => decide (x ≤ y)) 32 22,
  zo_none,
  zo_none,
  zo_throw 0,
  zo_none,
  zo_none,
  zo_none,
  zo_none,
  zo_none,
  zo_none,
  zo_none,
  zo_none,
  zo_none,
  zo_aload 3 33,
  zo_iload 2 34,
  zo_callv zzSC (zz_cl [(1, fX2_look), (2, fX2_look), (3, fX2_look), (4, fX2_look), (5, fX2_look), (6, fX2_look), (7, fX2_look)]) 1 37,
  zo_none,
  zo_none,
  zo_iret false]
set_option maxRecDepth 100000 in
theorem tl_X11_see : ∀ pc, zz_Tl (tX11_see.getD pc zo_none) := by
  refine zz_Tl_mem ?_
  unfold tX11_see
  refine List.forall_mem_cons.mpr ⟨(zo_aload_tl _ _), ?_⟩
  refine List.forall_mem_cons.mpr ⟨(zo_iload_tl _ _), ?_⟩
  refine List.forall_mem_cons.mpr ⟨(zo_callv_tl _ _ _ _), ?_⟩
  refine List.forall_mem_cons.mpr ⟨zo_none_tl, ?_⟩
  refine List.forall_mem_cons.mpr ⟨zo_none_tl, ?_⟩
  refine List.forall_mem_cons.mpr ⟨(zo_astore_tl _ _), ?_⟩
  refine List.forall_mem_cons.mpr ⟨(zo_aload_tl _ _), ?_⟩
  refine List.forall_mem_cons.mpr ⟨(zo_ifnull_tl _ _), ?_⟩
  refine List.forall_mem_cons.mpr ⟨zo_none_tl, ?_⟩
  refine List.forall_mem_cons.mpr ⟨zo_none_tl, ?_⟩
  refine List.forall_mem_cons.mpr ⟨(zo_iload_tl _ _), ?_⟩
  refine List.forall_mem_cons.mpr ⟨(zo_pushI_tl _ _), ?_⟩
  refine List.forall_mem_cons.mpr ⟨(zo_icmp_tl _ _ _), ?_⟩
  refine List.forall_mem_cons.mpr ⟨zo_none_tl, ?_⟩
  refine List.forall_mem_cons.mpr ⟨zo_none_tl, ?_⟩
  refine List.forall_mem_cons.mpr ⟨(zo_iload_tl _ _), ?_⟩
  refine List.forall_mem_cons.mpr ⟨(zo_pushI_tl _ _), ?_⟩
  refine List.forall_mem_cons.mpr ⟨zo_none_tl, ?_⟩
  refine List.forall_mem_cons.mpr ⟨zo_none_tl, ?_⟩
  refine List.forall_mem_cons.mpr ⟨(zo_icmp_tl _ _ _), ?_⟩
  refine List.forall_mem_cons.mpr ⟨zo_none_tl, ?_⟩
  refine List.forall_mem_cons.mpr ⟨zo_none_tl, ?_⟩
  refine List.forall_mem_cons.mpr ⟨(zo_throw_tl _), ?_⟩
  refine List.forall_mem_cons.mpr ⟨zo_none_tl, ?_⟩
  refine List.forall_mem_cons.mpr ⟨zo_none_tl, ?_⟩
  refine List.forall_mem_cons.mpr ⟨zo_none_tl, ?_⟩
  refine List.forall_mem_cons.mpr ⟨zo_none_tl, ?_⟩
  refine List.forall_mem_cons.mpr ⟨zo_none_tl, ?_⟩
  refine List.forall_mem_cons.mpr ⟨zo_none_tl, ?_⟩
  refine List.forall_mem_cons.mpr ⟨zo_none_tl, ?_⟩
  refine List.forall_mem_cons.mpr ⟨zo_none_tl, ?_⟩
  refine List.forall_mem_cons.mpr ⟨zo_none_tl, ?_⟩
  refine List.forall_mem_cons.mpr ⟨(zo_aload_tl _ _), ?_⟩
  refine List.forall_mem_cons.mpr ⟨(zo_iload_tl _ _), ?_⟩
  refine List.forall_mem_cons.mpr ⟨(zo_callv_tl _ _ _ _), ?_⟩
  refine List.forall_mem_cons.mpr ⟨zo_none_tl, ?_⟩
  refine List.forall_mem_cons.mpr ⟨zo_none_tl, ?_⟩
  refine List.forall_mem_cons.mpr ⟨(zo_iret_tl _), ?_⟩
  exact fun _ h => absurd h List.not_mem_nil
noncomputable def fX11_see : zzFn := zz_fn tX11_see 4
set_option maxRecDepth 100000 in
set_option maxHeartbeats 4000000 in
theorem mm_X11_see {l : Launch} {D : va_G} {cA : Nat → ClassId} {ad : Nat → Nat} {Ex : (Nat → Prop) → State → Heap → Prop} (Wd : zzWC l D cA ad Ex) : zz_Cn l D zzCl cA ad zzSC Ex yX11_see cX11_see 4 (some .int) 6 135 fX11_see ∧ zz_Cx l D zzCl cA ad zzSC Ex yX11_see cX11_see 4 (some .int) 6 135 fX11_see := by
  refine zz_meth (plainFor_of_name (by decide)) Wd.1 Wd.2.1 Wd.2.2.1 (fun p e R s m args below meth c rr X => ?_)
  unfold tX11_see
  refine zz_cons (k' := 1) rfl (zk_aload_n X dX11_see_0 rfl rfl) ?_
  refine zz_cons (k' := 2) rfl (zk_iload_n X dX11_see_1 rfl rfl) ?_
  refine zz_cons (k' := 3) rfl (zk_callv X (zz_Cv_of (List.forall_mem_cons.mpr ⟨⟨(RX_9, zzT9, 5), yX11_controllerAt, cX11_controllerAt, 2, (some (.object "ReconcilerHall$Controller")), 0, 0, rfl, kv_X11_185_9.1, (mm_X11_controllerAt Wd).1, by decide, by decide⟩, (fun _ h => absurd h List.not_mem_nil)⟩)) dX11_see_2 rfl) ?_
  refine zz_cons (k' := 4) rfl (zz_Ok_none _ _) ?_
  refine zz_cons (k' := 5) rfl (zz_Ok_none _ _) ?_
  refine zz_cons (k' := 6) rfl (zk_astore_n X dX11_see_5 rfl (by decide) rfl) ?_
  refine zz_cons (k' := 7) rfl (zk_aload_n X dX11_see_6 rfl rfl) ?_
  refine zz_cons (k' := 8) rfl (zk_ifnull X dX11_see_7 (by decide) rfl) ?_
  refine zz_cons (k' := 9) rfl (zz_Ok_none _ _) ?_
  refine zz_cons (k' := 10) rfl (zz_Ok_none _ _) ?_
  refine zz_cons (k' := 11) rfl (zk_iload_n X dX11_see_10 rfl rfl) ?_
  refine zz_cons (k' := 12) rfl (zk_iconst X dX11_see_11 (by decide) rfl) ?_
  refine zz_cons (k' := 13) rfl (zk_icmp_lt X dX11_see_12 (by decide) rfl) ?_
  refine zz_cons (k' := 14) rfl (zz_Ok_none _ _) ?_
  refine zz_cons (k' := 15) rfl (zz_Ok_none _ _) ?_
  refine zz_cons (k' := 16) rfl (zk_iload_n X dX11_see_15 rfl rfl) ?_
  refine zz_cons (k' := 17) rfl (zk_sipush X dX11_see_16 (by decide) rfl) ?_
  refine zz_cons (k' := 18) rfl (zz_Ok_none _ _) ?_
  refine zz_cons (k' := 19) rfl (zz_Ok_none _ _) ?_
  refine zz_cons (k' := 20) rfl (zk_icmp_le X dX11_see_19 (by decide) rfl) ?_
  refine zz_cons (k' := 21) rfl (zz_Ok_none _ _) ?_
  refine zz_cons (k' := 22) rfl (zz_Ok_none _ _) ?_
  refine zz_cons (k' := 23) rfl (zk_throw X (th_X11_61_189 Wd) (by decide) dX11_see_22 dX11_see_25 dX11_see_26 dX11_see_28 dX11_see_31) ?_
  refine zz_cons (k' := 24) rfl (zz_Ok_none _ _) ?_
  refine zz_cons (k' := 25) rfl (zz_Ok_none _ _) ?_
  refine zz_cons (k' := 26) rfl (zz_Ok_none _ _) ?_
  refine zz_cons (k' := 27) rfl (zz_Ok_none _ _) ?_
  refine zz_cons (k' := 28) rfl (zz_Ok_none _ _) ?_
  refine zz_cons (k' := 29) rfl (zz_Ok_none _ _) ?_
  refine zz_cons (k' := 30) rfl (zz_Ok_none _ _) ?_
  refine zz_cons (k' := 31) rfl (zz_Ok_none _ _) ?_
  refine zz_cons (k' := 32) rfl (zz_Ok_none _ _) ?_
  refine zz_cons (k' := 33) rfl (zk_aload_n X dX11_see_32 rfl rfl) ?_
  refine zz_cons (k' := 34) rfl (zk_iload_n X dX11_see_33 rfl rfl) ?_
  refine zz_cons (k' := 35) rfl (zk_callv X (zz_Cv_of (List.forall_mem_cons.mpr ⟨⟨(RX_1, zzT1, 12), yX2_look, cX2_look, 4, (some .int), 5, 112, rfl, kv_X11_191_1, (mm_X2_look Wd).1, by decide, by decide⟩, (List.forall_mem_cons.mpr ⟨⟨(RX_2, zzT2, 12), yX2_look, cX2_look, 4, (some .int), 5, 112, rfl, kv_X11_191_2, (mm_X2_look Wd).1, by decide, by decide⟩, (List.forall_mem_cons.mpr ⟨⟨(RX_3, zzT3, 12), yX2_look, cX2_look, 4, (some .int), 5, 112, rfl, kv_X11_191_3, (mm_X2_look Wd).1, by decide, by decide⟩, (List.forall_mem_cons.mpr ⟨⟨(RX_4, zzT4, 12), yX2_look, cX2_look, 4, (some .int), 5, 112, rfl, kv_X11_191_4, (mm_X2_look Wd).1, by decide, by decide⟩, (List.forall_mem_cons.mpr ⟨⟨(RX_5, zzT5, 12), yX2_look, cX2_look, 4, (some .int), 5, 112, rfl, kv_X11_191_5, (mm_X2_look Wd).1, by decide, by decide⟩, (List.forall_mem_cons.mpr ⟨⟨(RX_6, zzT6, 13), yX2_look, cX2_look, 4, (some .int), 5, 112, rfl, kv_X11_191_6, (mm_X2_look Wd).1, by decide, by decide⟩, (List.forall_mem_cons.mpr ⟨⟨(RX_7, zzT7, 15), yX2_look, cX2_look, 4, (some .int), 5, 112, rfl, kv_X11_191_7, (mm_X2_look Wd).1, by decide, by decide⟩, (fun _ h => absurd h List.not_mem_nil)⟩)⟩)⟩)⟩)⟩)⟩)⟩)) dX11_see_34 rfl) ?_
  refine zz_cons (k' := 36) rfl (zz_Ok_none _ _) ?_
  refine zz_cons (k' := 37) rfl (zz_Ok_none _ _) ?_
  refine zz_cons (k' := 38) rfl (zk_iret X rfl dX11_see_37) ?_
  exact trivial
noncomputable def tX11_work : List zzOp := [
  zo_aload 0 1,
  zo_iload 1 2,
  zo_callv zzSC (zz_cl [(9, fX11_controllerAt)]) 1 5,
  zo_none,
  zo_none,
  zo_astore 2 6,
  zo_aload 2 7,
  zo_ifnull 10 20,
  zo_none,
  zo_none,
  zo_throw 0,
  zo_none,
  zo_none,
  zo_none,
  zo_none,
  zo_none,
  zo_none,
  zo_none,
  zo_none,
  zo_none,
  zo_aload 2 21,
  zo_callv zzSC (zz_cl [(1, fX2_workOnce), (2, fX2_workOnce), (3, fX2_workOnce), (4, fX2_workOnce), (5, fX2_workOnce), (6, fX2_workOnce), (7, fX2_workOnce)]) 0 24,
  zo_none,
  zo_none,
  zo_iret false]
set_option maxRecDepth 100000 in
theorem tl_X11_work : ∀ pc, zz_Tl (tX11_work.getD pc zo_none) := by
  refine zz_Tl_mem ?_
  unfold tX11_work
  refine List.forall_mem_cons.mpr ⟨(zo_aload_tl _ _), ?_⟩
  refine List.forall_mem_cons.mpr ⟨(zo_iload_tl _ _), ?_⟩
  refine List.forall_mem_cons.mpr ⟨(zo_callv_tl _ _ _ _), ?_⟩
  refine List.forall_mem_cons.mpr ⟨zo_none_tl, ?_⟩
  refine List.forall_mem_cons.mpr ⟨zo_none_tl, ?_⟩
  refine List.forall_mem_cons.mpr ⟨(zo_astore_tl _ _), ?_⟩
  refine List.forall_mem_cons.mpr ⟨(zo_aload_tl _ _), ?_⟩
  refine List.forall_mem_cons.mpr ⟨(zo_ifnull_tl _ _), ?_⟩
  refine List.forall_mem_cons.mpr ⟨zo_none_tl, ?_⟩
  refine List.forall_mem_cons.mpr ⟨zo_none_tl, ?_⟩
  refine List.forall_mem_cons.mpr ⟨(zo_throw_tl _), ?_⟩
  refine List.forall_mem_cons.mpr ⟨zo_none_tl, ?_⟩
  refine List.forall_mem_cons.mpr ⟨zo_none_tl, ?_⟩
  refine List.forall_mem_cons.mpr ⟨zo_none_tl, ?_⟩
  refine List.forall_mem_cons.mpr ⟨zo_none_tl, ?_⟩
  refine List.forall_mem_cons.mpr ⟨zo_none_tl, ?_⟩
  refine List.forall_mem_cons.mpr ⟨zo_none_tl, ?_⟩
  refine List.forall_mem_cons.mpr ⟨zo_none_tl, ?_⟩
  refine List.forall_mem_cons.mpr ⟨zo_none_tl, ?_⟩
  refine List.forall_mem_cons.mpr ⟨zo_none_tl, ?_⟩
  refine List.forall_mem_cons.mpr ⟨(zo_aload_tl _ _), ?_⟩
  refine List.forall_mem_cons.mpr ⟨(zo_callv_tl _ _ _ _), ?_⟩
  refine List.forall_mem_cons.mpr ⟨zo_none_tl, ?_⟩
  refine List.forall_mem_cons.mpr ⟨zo_none_tl, ?_⟩
  refine List.forall_mem_cons.mpr ⟨(zo_iret_tl _), ?_⟩
  exact fun _ h => absurd h List.not_mem_nil
noncomputable def fX11_work : zzFn := zz_fn tX11_work 3
set_option maxRecDepth 100000 in
set_option maxHeartbeats 4000000 in
theorem mm_X11_work {l : Launch} {D : va_G} {cA : Nat → ClassId} {ad : Nat → Nat} {Ex : (Nat → Prop) → State → Heap → Prop} (Wd : zzWC l D cA ad Ex) : zz_Cn l D zzCl cA ad zzSC Ex yX11_work cX11_work 3 (some .int) 7 166 fX11_work ∧ zz_Cx l D zzCl cA ad zzSC Ex yX11_work cX11_work 3 (some .int) 7 166 fX11_work := by
  refine zz_meth (plainFor_of_name (by decide)) Wd.1 Wd.2.1 Wd.2.2.1 (fun p e R s m args below meth c rr X => ?_)
  unfold tX11_work
  refine zz_cons (k' := 1) rfl (zk_aload_n X dX11_work_0 rfl rfl) ?_
  refine zz_cons (k' := 2) rfl (zk_iload_n X dX11_work_1 rfl rfl) ?_
  refine zz_cons (k' := 3) rfl (zk_callv X (zz_Cv_of (List.forall_mem_cons.mpr ⟨⟨(RX_9, zzT9, 5), yX11_controllerAt, cX11_controllerAt, 2, (some (.object "ReconcilerHall$Controller")), 0, 0, rfl, kv_X11_185_9.1, (mm_X11_controllerAt Wd).1, by decide, by decide⟩, (fun _ h => absurd h List.not_mem_nil)⟩)) dX11_work_2 rfl) ?_
  refine zz_cons (k' := 4) rfl (zz_Ok_none _ _) ?_
  refine zz_cons (k' := 5) rfl (zz_Ok_none _ _) ?_
  refine zz_cons (k' := 6) rfl (zk_astore_n X dX11_work_5 rfl (by decide) rfl) ?_
  refine zz_cons (k' := 7) rfl (zk_aload_n X dX11_work_6 rfl rfl) ?_
  refine zz_cons (k' := 8) rfl (zk_ifnonnull X dX11_work_7 (by decide) rfl) ?_
  refine zz_cons (k' := 9) rfl (zz_Ok_none _ _) ?_
  refine zz_cons (k' := 10) rfl (zz_Ok_none _ _) ?_
  refine zz_cons (k' := 11) rfl (zk_throw X (th_X11_61_194 Wd) (by decide) dX11_work_10 dX11_work_13 dX11_work_14 dX11_work_16 dX11_work_19) ?_
  refine zz_cons (k' := 12) rfl (zz_Ok_none _ _) ?_
  refine zz_cons (k' := 13) rfl (zz_Ok_none _ _) ?_
  refine zz_cons (k' := 14) rfl (zz_Ok_none _ _) ?_
  refine zz_cons (k' := 15) rfl (zz_Ok_none _ _) ?_
  refine zz_cons (k' := 16) rfl (zz_Ok_none _ _) ?_
  refine zz_cons (k' := 17) rfl (zz_Ok_none _ _) ?_
  refine zz_cons (k' := 18) rfl (zz_Ok_none _ _) ?_
  refine zz_cons (k' := 19) rfl (zz_Ok_none _ _) ?_
  refine zz_cons (k' := 20) rfl (zz_Ok_none _ _) ?_
  refine zz_cons (k' := 21) rfl (zk_aload_n X dX11_work_20 rfl rfl) ?_
  refine zz_cons (k' := 22) rfl (zk_callv X (zz_Cv_of (List.forall_mem_cons.mpr ⟨⟨(RX_1, zzT1, 12), yX2_workOnce, cX2_workOnce, 4, (some .int), 6, 143, rfl, kv_X11_196_1, (mm_X2_workOnce Wd).1, by decide, by decide⟩, (List.forall_mem_cons.mpr ⟨⟨(RX_2, zzT2, 12), yX2_workOnce, cX2_workOnce, 4, (some .int), 6, 143, rfl, kv_X11_196_2, (mm_X2_workOnce Wd).1, by decide, by decide⟩, (List.forall_mem_cons.mpr ⟨⟨(RX_3, zzT3, 12), yX2_workOnce, cX2_workOnce, 4, (some .int), 6, 143, rfl, kv_X11_196_3, (mm_X2_workOnce Wd).1, by decide, by decide⟩, (List.forall_mem_cons.mpr ⟨⟨(RX_4, zzT4, 12), yX2_workOnce, cX2_workOnce, 4, (some .int), 6, 143, rfl, kv_X11_196_4, (mm_X2_workOnce Wd).1, by decide, by decide⟩, (List.forall_mem_cons.mpr ⟨⟨(RX_5, zzT5, 12), yX2_workOnce, cX2_workOnce, 4, (some .int), 6, 143, rfl, kv_X11_196_5, (mm_X2_workOnce Wd).1, by decide, by decide⟩, (List.forall_mem_cons.mpr ⟨⟨(RX_6, zzT6, 13), yX2_workOnce, cX2_workOnce, 4, (some .int), 6, 143, rfl, kv_X11_196_6, (mm_X2_workOnce Wd).1, by decide, by decide⟩, (List.forall_mem_cons.mpr ⟨⟨(RX_7, zzT7, 15), yX2_workOnce, cX2_workOnce, 4, (some .int), 6, 143, rfl, kv_X11_196_7, (mm_X2_workOnce Wd).1, by decide, by decide⟩, (fun _ h => absurd h List.not_mem_nil)⟩)⟩)⟩)⟩)⟩)⟩)⟩)) dX11_work_21 rfl) ?_
  refine zz_cons (k' := 23) rfl (zz_Ok_none _ _) ?_
  refine zz_cons (k' := 24) rfl (zz_Ok_none _ _) ?_
  refine zz_cons (k' := 25) rfl (zk_iret X rfl dX11_work_24) ?_
  exact trivial
noncomputable def tX11_turn : List zzOp := [
  zo_iload 1 1,
  zo_pushI 1 2,
  zo_icmp (fun x y => decide (x < y)) 11 5,
  zo_none,
  zo_none,
  zo_iload 1 6,
  zo_pushI 10 8,
  zo_none,
  zo_icmp (fun x y => decide (x ≤ y)) 21 11,
  zo_none,
  zo_none,
  zo_throw 0,
  zo_none,
  zo_none,
  zo_none,
  zo_none,
  zo_none,
  zo_none,
  zo_none,
  zo_none,
  zo_none,
  zo_aload 0 22,
  zo_getf zzSC (zz_kf [9] 0) 25,
  zo_none,
  zo_none,
  zo_getf zzSC (zz_kf [8] 3) 28,
  zo_none,
  zo_none,
  zo_istore 2 29,
  zo_pushI 0 30,
  zo_istore 3 31,
  zo_iload 3 32,
  zo_iload 1 33,
  zo_icmp (fun x y => decide (y ≤ x)) 104 36,
  zo_none,
  zo_none,
  zo_pushI 0 37,
  zo_istore 4 39,
  zo_none,
  zo_iload 4 41,
  zo_none,
  zo_pushI 8 43,
  zo_none,
  zo_icmp (fun x y => decide (y ≤ x)) 98 46,
  zo_none,
  zo_none,
  zo_aload 0 47,
  zo_iload 4 49,
  zo_none,
  zo_callv zzSC (zz_cl [(9, fX11_controllerAt)]) 1 52,
  zo_none,
  zo_none,
  zo_astore 5 54,
  zo_none,
  zo_aload 5 56,
  zo_none,
  zo_ifnull 59 63,
  zo_none,
  zo_none,
  zo_pushI 0 60,
  zo_goto 68,
  zo_none,
  zo_none,
  zo_aload 5 65,
  zo_none,
  zo_callv zzSC (zz_cl [(1, fX2_lookAtAll), (2, fX2_lookAtAll), (3, fX2_lookAtAll), (4, fX2_lookAtAll), (5, fX2_lookAtAll), (6, fX2_lookAtAll), (7, fX2_lookAtAll)]) 0 68,
  zo_none,
  zo_none,
  zo_istore 6 70,
  zo_none,
  zo_pushI 0 71,
  zo_istore 7 73,
  zo_none,
  zo_iload 7 75,
  zo_none,
  zo_iload 6 77,
  zo_none,
  zo_icmp (fun x y => decide (y ≤ x)) 92 80,
  zo_none,
  zo_none,
  zo_aload 5 82,
  zo_none,
  zo_callv zzSC (zz_cl [(1, fX2_workOnce), (2, fX2_workOnce), (3, fX2_workOnce), (4, fX2_workOnce), (5, fX2_workOnce), (6, fX2_workOnce), (7, fX2_workOnce)]) 0 85,
  zo_none,
  zo_none,
  zo_pop 86,
  zo_iinc 7 1 89,
  zo_none,
  zo_none,
  zo_goto 73,
  zo_none,
  zo_none,
  zo_iinc 4 1 95,
  zo_none,
  zo_none,
  zo_goto 39,
  zo_none,
  zo_none,
  zo_iinc 3 1 101,
  zo_none,
  zo_none,
  zo_goto 31,
  zo_none,
  zo_none,
  zo_aload 0 105,
  zo_getf zzSC (zz_kf [9] 0) 108,
  zo_none,
  zo_none,
  zo_getf zzSC (zz_kf [8] 3) 111,
  zo_none,
  zo_none,
  zo_iload 2 112,
  zo_ii (fun x y => x - y) 113,
  zo_iret false]
set_option maxRecDepth 100000 in
theorem tl_X11_turn : ∀ pc, zz_Tl (tX11_turn.getD pc zo_none) := by
  refine zz_Tl_mem ?_
  unfold tX11_turn
  refine List.forall_mem_cons.mpr ⟨(zo_iload_tl _ _), ?_⟩
  refine List.forall_mem_cons.mpr ⟨(zo_pushI_tl _ _), ?_⟩
  refine List.forall_mem_cons.mpr ⟨(zo_icmp_tl _ _ _), ?_⟩
  refine List.forall_mem_cons.mpr ⟨zo_none_tl, ?_⟩
  refine List.forall_mem_cons.mpr ⟨zo_none_tl, ?_⟩
  refine List.forall_mem_cons.mpr ⟨(zo_iload_tl _ _), ?_⟩
  refine List.forall_mem_cons.mpr ⟨(zo_pushI_tl _ _), ?_⟩
  refine List.forall_mem_cons.mpr ⟨zo_none_tl, ?_⟩
  refine List.forall_mem_cons.mpr ⟨(zo_icmp_tl _ _ _), ?_⟩
  refine List.forall_mem_cons.mpr ⟨zo_none_tl, ?_⟩
  refine List.forall_mem_cons.mpr ⟨zo_none_tl, ?_⟩
  refine List.forall_mem_cons.mpr ⟨(zo_throw_tl _), ?_⟩
  refine List.forall_mem_cons.mpr ⟨zo_none_tl, ?_⟩
  refine List.forall_mem_cons.mpr ⟨zo_none_tl, ?_⟩
  refine List.forall_mem_cons.mpr ⟨zo_none_tl, ?_⟩
  refine List.forall_mem_cons.mpr ⟨zo_none_tl, ?_⟩
  refine List.forall_mem_cons.mpr ⟨zo_none_tl, ?_⟩
  refine List.forall_mem_cons.mpr ⟨zo_none_tl, ?_⟩
  refine List.forall_mem_cons.mpr ⟨zo_none_tl, ?_⟩
  refine List.forall_mem_cons.mpr ⟨zo_none_tl, ?_⟩
  refine List.forall_mem_cons.mpr ⟨zo_none_tl, ?_⟩
  refine List.forall_mem_cons.mpr ⟨(zo_aload_tl _ _), ?_⟩
  refine List.forall_mem_cons.mpr ⟨(zo_getf_tl _ _ _), ?_⟩
  refine List.forall_mem_cons.mpr ⟨zo_none_tl, ?_⟩
  refine List.forall_mem_cons.mpr ⟨zo_none_tl, ?_⟩
  refine List.forall_mem_cons.mpr ⟨(zo_getf_tl _ _ _), ?_⟩
  refine List.forall_mem_cons.mpr ⟨zo_none_tl, ?_⟩
  refine List.forall_mem_cons.mpr ⟨zo_none_tl, ?_⟩
  refine List.forall_mem_cons.mpr ⟨(zo_istore_tl _ _), ?_⟩
  refine List.forall_mem_cons.mpr ⟨(zo_pushI_tl _ _), ?_⟩
  refine List.forall_mem_cons.mpr ⟨(zo_istore_tl _ _), ?_⟩
  refine List.forall_mem_cons.mpr ⟨(zo_iload_tl _ _), ?_⟩
  refine List.forall_mem_cons.mpr ⟨(zo_iload_tl _ _), ?_⟩
  refine List.forall_mem_cons.mpr ⟨(zo_icmp_tl _ _ _), ?_⟩
  refine List.forall_mem_cons.mpr ⟨zo_none_tl, ?_⟩
  refine List.forall_mem_cons.mpr ⟨zo_none_tl, ?_⟩
  refine List.forall_mem_cons.mpr ⟨(zo_pushI_tl _ _), ?_⟩
  refine List.forall_mem_cons.mpr ⟨(zo_istore_tl _ _), ?_⟩
  refine List.forall_mem_cons.mpr ⟨zo_none_tl, ?_⟩
  refine List.forall_mem_cons.mpr ⟨(zo_iload_tl _ _), ?_⟩
  refine List.forall_mem_cons.mpr ⟨zo_none_tl, ?_⟩
  refine List.forall_mem_cons.mpr ⟨(zo_pushI_tl _ _), ?_⟩
  refine List.forall_mem_cons.mpr ⟨zo_none_tl, ?_⟩
  refine List.forall_mem_cons.mpr ⟨(zo_icmp_tl _ _ _), ?_⟩
  refine List.forall_mem_cons.mpr ⟨zo_none_tl, ?_⟩
  refine List.forall_mem_cons.mpr ⟨zo_none_tl, ?_⟩
  refine List.forall_mem_cons.mpr ⟨(zo_aload_tl _ _), ?_⟩
  refine List.forall_mem_cons.mpr ⟨(zo_iload_tl _ _), ?_⟩
  refine List.forall_mem_cons.mpr ⟨zo_none_tl, ?_⟩
  refine List.forall_mem_cons.mpr ⟨(zo_callv_tl _ _ _ _), ?_⟩
  refine List.forall_mem_cons.mpr ⟨zo_none_tl, ?_⟩
  refine List.forall_mem_cons.mpr ⟨zo_none_tl, ?_⟩
  refine List.forall_mem_cons.mpr ⟨(zo_astore_tl _ _), ?_⟩
  refine List.forall_mem_cons.mpr ⟨zo_none_tl, ?_⟩
  refine List.forall_mem_cons.mpr ⟨(zo_aload_tl _ _), ?_⟩
  refine List.forall_mem_cons.mpr ⟨zo_none_tl, ?_⟩
  refine List.forall_mem_cons.mpr ⟨(zo_ifnull_tl _ _), ?_⟩
  refine List.forall_mem_cons.mpr ⟨zo_none_tl, ?_⟩
  refine List.forall_mem_cons.mpr ⟨zo_none_tl, ?_⟩
  refine List.forall_mem_cons.mpr ⟨(zo_pushI_tl _ _), ?_⟩
  refine List.forall_mem_cons.mpr ⟨(zo_goto_tl _), ?_⟩
  refine List.forall_mem_cons.mpr ⟨zo_none_tl, ?_⟩
  refine List.forall_mem_cons.mpr ⟨zo_none_tl, ?_⟩
  refine List.forall_mem_cons.mpr ⟨(zo_aload_tl _ _), ?_⟩
  refine List.forall_mem_cons.mpr ⟨zo_none_tl, ?_⟩
  refine List.forall_mem_cons.mpr ⟨(zo_callv_tl _ _ _ _), ?_⟩
  refine List.forall_mem_cons.mpr ⟨zo_none_tl, ?_⟩
  refine List.forall_mem_cons.mpr ⟨zo_none_tl, ?_⟩
  refine List.forall_mem_cons.mpr ⟨(zo_istore_tl _ _), ?_⟩
  refine List.forall_mem_cons.mpr ⟨zo_none_tl, ?_⟩
  refine List.forall_mem_cons.mpr ⟨(zo_pushI_tl _ _), ?_⟩
  refine List.forall_mem_cons.mpr ⟨(zo_istore_tl _ _), ?_⟩
  refine List.forall_mem_cons.mpr ⟨zo_none_tl, ?_⟩
  refine List.forall_mem_cons.mpr ⟨(zo_iload_tl _ _), ?_⟩
  refine List.forall_mem_cons.mpr ⟨zo_none_tl, ?_⟩
  refine List.forall_mem_cons.mpr ⟨(zo_iload_tl _ _), ?_⟩
  refine List.forall_mem_cons.mpr ⟨zo_none_tl, ?_⟩
  refine List.forall_mem_cons.mpr ⟨(zo_icmp_tl _ _ _), ?_⟩
  refine List.forall_mem_cons.mpr ⟨zo_none_tl, ?_⟩
  refine List.forall_mem_cons.mpr ⟨zo_none_tl, ?_⟩
  refine List.forall_mem_cons.mpr ⟨(zo_aload_tl _ _), ?_⟩
  refine List.forall_mem_cons.mpr ⟨zo_none_tl, ?_⟩
  refine List.forall_mem_cons.mpr ⟨(zo_callv_tl _ _ _ _), ?_⟩
  refine List.forall_mem_cons.mpr ⟨zo_none_tl, ?_⟩
  refine List.forall_mem_cons.mpr ⟨zo_none_tl, ?_⟩
  refine List.forall_mem_cons.mpr ⟨(zo_pop_tl _), ?_⟩
  refine List.forall_mem_cons.mpr ⟨(zo_iinc_tl _ _ _), ?_⟩
  refine List.forall_mem_cons.mpr ⟨zo_none_tl, ?_⟩
  refine List.forall_mem_cons.mpr ⟨zo_none_tl, ?_⟩
  refine List.forall_mem_cons.mpr ⟨(zo_goto_tl _), ?_⟩
  refine List.forall_mem_cons.mpr ⟨zo_none_tl, ?_⟩
  refine List.forall_mem_cons.mpr ⟨zo_none_tl, ?_⟩
  refine List.forall_mem_cons.mpr ⟨(zo_iinc_tl _ _ _), ?_⟩
  refine List.forall_mem_cons.mpr ⟨zo_none_tl, ?_⟩
  refine List.forall_mem_cons.mpr ⟨zo_none_tl, ?_⟩
  refine List.forall_mem_cons.mpr ⟨(zo_goto_tl _), ?_⟩
  refine List.forall_mem_cons.mpr ⟨zo_none_tl, ?_⟩
  refine List.forall_mem_cons.mpr ⟨zo_none_tl, ?_⟩
  refine List.forall_mem_cons.mpr ⟨(zo_iinc_tl _ _ _), ?_⟩
  refine List.forall_mem_cons.mpr ⟨zo_none_tl, ?_⟩
  refine List.forall_mem_cons.mpr ⟨zo_none_tl, ?_⟩
  refine List.forall_mem_cons.mpr ⟨(zo_goto_tl _), ?_⟩
  refine List.forall_mem_cons.mpr ⟨zo_none_tl, ?_⟩
  refine List.forall_mem_cons.mpr ⟨zo_none_tl, ?_⟩
  refine List.forall_mem_cons.mpr ⟨(zo_aload_tl _ _), ?_⟩
  refine List.forall_mem_cons.mpr ⟨(zo_getf_tl _ _ _), ?_⟩
  refine List.forall_mem_cons.mpr ⟨zo_none_tl, ?_⟩
  refine List.forall_mem_cons.mpr ⟨zo_none_tl, ?_⟩
  refine List.forall_mem_cons.mpr ⟨(zo_getf_tl _ _ _), ?_⟩
  refine List.forall_mem_cons.mpr ⟨zo_none_tl, ?_⟩
  refine List.forall_mem_cons.mpr ⟨zo_none_tl, ?_⟩
  refine List.forall_mem_cons.mpr ⟨(zo_iload_tl _ _), ?_⟩
  refine List.forall_mem_cons.mpr ⟨(zo_ii_tl _ _), ?_⟩
  refine List.forall_mem_cons.mpr ⟨(zo_iret_tl _), ?_⟩
  exact fun _ h => absurd h List.not_mem_nil
noncomputable def fX11_turn : zzFn := zz_fn tX11_turn 8
set_option maxRecDepth 100000 in
set_option maxHeartbeats 4000000 in
theorem mm_X11_turn {l : Launch} {D : va_G} {cA : Nat → ClassId} {ad : Nat → Nat} {Ex : (Nat → Prop) → State → Heap → Prop} (Wd : zzWC l D cA ad Ex) : zz_Cn l D zzCl cA ad zzSC Ex yX11_turn cX11_turn 8 (some .int) 7 166 fX11_turn ∧ zz_Cx l D zzCl cA ad zzSC Ex yX11_turn cX11_turn 8 (some .int) 7 166 fX11_turn := by
  refine zz_meth (plainFor_of_name (by decide)) Wd.1 Wd.2.1 Wd.2.2.1 (fun p e R s m args below meth c rr X => ?_)
  unfold tX11_turn
  refine zz_cons (k' := 1) rfl (zk_iload_n X dX11_turn_0 rfl rfl) ?_
  refine zz_cons (k' := 2) rfl (zk_iconst X dX11_turn_1 (by decide) rfl) ?_
  refine zz_cons (k' := 3) rfl (zk_icmp_lt X dX11_turn_2 (by decide) rfl) ?_
  refine zz_cons (k' := 4) rfl (zz_Ok_none _ _) ?_
  refine zz_cons (k' := 5) rfl (zz_Ok_none _ _) ?_
  refine zz_cons (k' := 6) rfl (zk_iload_n X dX11_turn_5 rfl rfl) ?_
  refine zz_cons (k' := 7) rfl (zk_bipush X dX11_turn_6 (by decide) rfl) ?_
  refine zz_cons (k' := 8) rfl (zz_Ok_none _ _) ?_
  refine zz_cons (k' := 9) rfl (zk_icmp_le X dX11_turn_8 (by decide) rfl) ?_
  refine zz_cons (k' := 10) rfl (zz_Ok_none _ _) ?_
  refine zz_cons (k' := 11) rfl (zz_Ok_none _ _) ?_
  refine zz_cons (k' := 12) rfl (zk_throw X (th_X11_61_199 Wd) (by decide) dX11_turn_11 dX11_turn_14 dX11_turn_15 dX11_turn_17 dX11_turn_20) ?_
  refine zz_cons (k' := 13) rfl (zz_Ok_none _ _) ?_
  refine zz_cons (k' := 14) rfl (zz_Ok_none _ _) ?_
  refine zz_cons (k' := 15) rfl (zz_Ok_none _ _) ?_
  refine zz_cons (k' := 16) rfl (zz_Ok_none _ _) ?_
  refine zz_cons (k' := 17) rfl (zz_Ok_none _ _) ?_
  refine zz_cons (k' := 18) rfl (zz_Ok_none _ _) ?_
  refine zz_cons (k' := 19) rfl (zz_Ok_none _ _) ?_
  refine zz_cons (k' := 20) rfl (zz_Ok_none _ _) ?_
  refine zz_cons (k' := 21) rfl (zz_Ok_none _ _) ?_
  refine zz_cons (k' := 22) rfl (zk_aload_n X dX11_turn_21 rfl rfl) ?_
  refine zz_cons (k' := 23) rfl (zk_getf X ff_X11_10 dX11_turn_22 rfl) ?_
  refine zz_cons (k' := 24) rfl (zz_Ok_none _ _) ?_
  refine zz_cons (k' := 25) rfl (zz_Ok_none _ _) ?_
  refine zz_cons (k' := 26) rfl (zk_getf X ff_X11_201 dX11_turn_25 rfl) ?_
  refine zz_cons (k' := 27) rfl (zz_Ok_none _ _) ?_
  refine zz_cons (k' := 28) rfl (zz_Ok_none _ _) ?_
  refine zz_cons (k' := 29) rfl (zk_istore_n X dX11_turn_28 rfl (by decide) rfl) ?_
  refine zz_cons (k' := 30) rfl (zk_iconst X dX11_turn_29 (by decide) rfl) ?_
  refine zz_cons (k' := 31) rfl (zk_istore_n X dX11_turn_30 rfl (by decide) rfl) ?_
  refine zz_cons (k' := 32) rfl (zk_iload_n X dX11_turn_31 rfl rfl) ?_
  refine zz_cons (k' := 33) rfl (zk_iload_n X dX11_turn_32 rfl rfl) ?_
  refine zz_cons (k' := 34) rfl (zk_icmp_ge X dX11_turn_33 (by decide) rfl) ?_
  refine zz_cons (k' := 35) rfl (zz_Ok_none _ _) ?_
  refine zz_cons (k' := 36) rfl (zz_Ok_none _ _) ?_
  refine zz_cons (k' := 37) rfl (zk_iconst X dX11_turn_36 (by decide) rfl) ?_
  refine zz_cons (k' := 38) rfl (zk_istore X dX11_turn_37 (by decide) rfl) ?_
  refine zz_cons (k' := 39) rfl (zz_Ok_none _ _) ?_
  refine zz_cons (k' := 40) rfl (zk_iload X dX11_turn_39 rfl) ?_
  refine zz_cons (k' := 41) rfl (zz_Ok_none _ _) ?_
  refine zz_cons (k' := 42) rfl (zk_bipush X dX11_turn_41 (by decide) rfl) ?_
  refine zz_cons (k' := 43) rfl (zz_Ok_none _ _) ?_
  refine zz_cons (k' := 44) rfl (zk_icmp_ge X dX11_turn_43 (by decide) rfl) ?_
  refine zz_cons (k' := 45) rfl (zz_Ok_none _ _) ?_
  refine zz_cons (k' := 46) rfl (zz_Ok_none _ _) ?_
  refine zz_cons (k' := 47) rfl (zk_aload_n X dX11_turn_46 rfl rfl) ?_
  refine zz_cons (k' := 48) rfl (zk_iload X dX11_turn_47 rfl) ?_
  refine zz_cons (k' := 49) rfl (zz_Ok_none _ _) ?_
  refine zz_cons (k' := 50) rfl (zk_callv X (zz_Cv_of (List.forall_mem_cons.mpr ⟨⟨(RX_9, zzT9, 5), yX11_controllerAt, cX11_controllerAt, 2, (some (.object "ReconcilerHall$Controller")), 0, 0, rfl, kv_X11_185_9.1, (mm_X11_controllerAt Wd).1, by decide, by decide⟩, (fun _ h => absurd h List.not_mem_nil)⟩)) dX11_turn_49 rfl) ?_
  refine zz_cons (k' := 51) rfl (zz_Ok_none _ _) ?_
  refine zz_cons (k' := 52) rfl (zz_Ok_none _ _) ?_
  refine zz_cons (k' := 53) rfl (zk_astore X dX11_turn_52 (by decide) rfl) ?_
  refine zz_cons (k' := 54) rfl (zz_Ok_none _ _) ?_
  refine zz_cons (k' := 55) rfl (zk_aload X dX11_turn_54 rfl) ?_
  refine zz_cons (k' := 56) rfl (zz_Ok_none _ _) ?_
  refine zz_cons (k' := 57) rfl (zk_ifnonnull X dX11_turn_56 (by decide) rfl) ?_
  refine zz_cons (k' := 58) rfl (zz_Ok_none _ _) ?_
  refine zz_cons (k' := 59) rfl (zz_Ok_none _ _) ?_
  refine zz_cons (k' := 60) rfl (zk_iconst X dX11_turn_59 (by decide) rfl) ?_
  refine zz_cons (k' := 61) rfl (zk_goto X dX11_turn_60 (by decide)) ?_
  refine zz_cons (k' := 62) rfl (zz_Ok_none _ _) ?_
  refine zz_cons (k' := 63) rfl (zz_Ok_none _ _) ?_
  refine zz_cons (k' := 64) rfl (zk_aload X dX11_turn_63 rfl) ?_
  refine zz_cons (k' := 65) rfl (zz_Ok_none _ _) ?_
  refine zz_cons (k' := 66) rfl (zk_callv X (zz_Cv_of (List.forall_mem_cons.mpr ⟨⟨(RX_1, zzT1, 12), yX2_lookAtAll, cX2_lookAtAll, 1, (some .int), 6, 135, rfl, kv_X11_204_1, (mm_X2_lookAtAll Wd).1, by decide, by decide⟩, (List.forall_mem_cons.mpr ⟨⟨(RX_2, zzT2, 12), yX2_lookAtAll, cX2_lookAtAll, 1, (some .int), 6, 135, rfl, kv_X11_204_2, (mm_X2_lookAtAll Wd).1, by decide, by decide⟩, (List.forall_mem_cons.mpr ⟨⟨(RX_3, zzT3, 12), yX2_lookAtAll, cX2_lookAtAll, 1, (some .int), 6, 135, rfl, kv_X11_204_3, (mm_X2_lookAtAll Wd).1, by decide, by decide⟩, (List.forall_mem_cons.mpr ⟨⟨(RX_4, zzT4, 12), yX2_lookAtAll, cX2_lookAtAll, 1, (some .int), 6, 135, rfl, kv_X11_204_4, (mm_X2_lookAtAll Wd).1, by decide, by decide⟩, (List.forall_mem_cons.mpr ⟨⟨(RX_5, zzT5, 12), yX2_lookAtAll, cX2_lookAtAll, 1, (some .int), 6, 135, rfl, kv_X11_204_5, (mm_X2_lookAtAll Wd).1, by decide, by decide⟩, (List.forall_mem_cons.mpr ⟨⟨(RX_6, zzT6, 13), yX2_lookAtAll, cX2_lookAtAll, 1, (some .int), 6, 135, rfl, kv_X11_204_6, (mm_X2_lookAtAll Wd).1, by decide, by decide⟩, (List.forall_mem_cons.mpr ⟨⟨(RX_7, zzT7, 15), yX2_lookAtAll, cX2_lookAtAll, 1, (some .int), 6, 135, rfl, kv_X11_204_7, (mm_X2_lookAtAll Wd).1, by decide, by decide⟩, (fun _ h => absurd h List.not_mem_nil)⟩)⟩)⟩)⟩)⟩)⟩)⟩)) dX11_turn_65 rfl) ?_
  refine zz_cons (k' := 67) rfl (zz_Ok_none _ _) ?_
  refine zz_cons (k' := 68) rfl (zz_Ok_none _ _) ?_
  refine zz_cons (k' := 69) rfl (zk_istore X dX11_turn_68 (by decide) rfl) ?_
  refine zz_cons (k' := 70) rfl (zz_Ok_none _ _) ?_
  refine zz_cons (k' := 71) rfl (zk_iconst X dX11_turn_70 (by decide) rfl) ?_
  refine zz_cons (k' := 72) rfl (zk_istore X dX11_turn_71 (by decide) rfl) ?_
  refine zz_cons (k' := 73) rfl (zz_Ok_none _ _) ?_
  refine zz_cons (k' := 74) rfl (zk_iload X dX11_turn_73 rfl) ?_
  refine zz_cons (k' := 75) rfl (zz_Ok_none _ _) ?_
  refine zz_cons (k' := 76) rfl (zk_iload X dX11_turn_75 rfl) ?_
  refine zz_cons (k' := 77) rfl (zz_Ok_none _ _) ?_
  refine zz_cons (k' := 78) rfl (zk_icmp_ge X dX11_turn_77 (by decide) rfl) ?_
  refine zz_cons (k' := 79) rfl (zz_Ok_none _ _) ?_
  refine zz_cons (k' := 80) rfl (zz_Ok_none _ _) ?_
  refine zz_cons (k' := 81) rfl (zk_aload X dX11_turn_80 rfl) ?_
  refine zz_cons (k' := 82) rfl (zz_Ok_none _ _) ?_
  refine zz_cons (k' := 83) rfl (zk_callv X (zz_Cv_of (List.forall_mem_cons.mpr ⟨⟨(RX_1, zzT1, 12), yX2_workOnce, cX2_workOnce, 4, (some .int), 6, 143, rfl, kv_X11_196_1, (mm_X2_workOnce Wd).1, by decide, by decide⟩, (List.forall_mem_cons.mpr ⟨⟨(RX_2, zzT2, 12), yX2_workOnce, cX2_workOnce, 4, (some .int), 6, 143, rfl, kv_X11_196_2, (mm_X2_workOnce Wd).1, by decide, by decide⟩, (List.forall_mem_cons.mpr ⟨⟨(RX_3, zzT3, 12), yX2_workOnce, cX2_workOnce, 4, (some .int), 6, 143, rfl, kv_X11_196_3, (mm_X2_workOnce Wd).1, by decide, by decide⟩, (List.forall_mem_cons.mpr ⟨⟨(RX_4, zzT4, 12), yX2_workOnce, cX2_workOnce, 4, (some .int), 6, 143, rfl, kv_X11_196_4, (mm_X2_workOnce Wd).1, by decide, by decide⟩, (List.forall_mem_cons.mpr ⟨⟨(RX_5, zzT5, 12), yX2_workOnce, cX2_workOnce, 4, (some .int), 6, 143, rfl, kv_X11_196_5, (mm_X2_workOnce Wd).1, by decide, by decide⟩, (List.forall_mem_cons.mpr ⟨⟨(RX_6, zzT6, 13), yX2_workOnce, cX2_workOnce, 4, (some .int), 6, 143, rfl, kv_X11_196_6, (mm_X2_workOnce Wd).1, by decide, by decide⟩, (List.forall_mem_cons.mpr ⟨⟨(RX_7, zzT7, 15), yX2_workOnce, cX2_workOnce, 4, (some .int), 6, 143, rfl, kv_X11_196_7, (mm_X2_workOnce Wd).1, by decide, by decide⟩, (fun _ h => absurd h List.not_mem_nil)⟩)⟩)⟩)⟩)⟩)⟩)⟩)) dX11_turn_82 rfl) ?_
  refine zz_cons (k' := 84) rfl (zz_Ok_none _ _) ?_
  refine zz_cons (k' := 85) rfl (zz_Ok_none _ _) ?_
  refine zz_cons (k' := 86) rfl (zk_pop X dX11_turn_85 rfl) ?_
  refine zz_cons (k' := 87) rfl (zk_iinc X dX11_turn_86 (by decide) (by decide) rfl) ?_
  refine zz_cons (k' := 88) rfl (zz_Ok_none _ _) ?_
  refine zz_cons (k' := 89) rfl (zz_Ok_none _ _) ?_
  refine zz_cons (k' := 90) rfl (zk_goto X dX11_turn_89 (by decide)) ?_
  refine zz_cons (k' := 91) rfl (zz_Ok_none _ _) ?_
  refine zz_cons (k' := 92) rfl (zz_Ok_none _ _) ?_
  refine zz_cons (k' := 93) rfl (zk_iinc X dX11_turn_92 (by decide) (by decide) rfl) ?_
  refine zz_cons (k' := 94) rfl (zz_Ok_none _ _) ?_
  refine zz_cons (k' := 95) rfl (zz_Ok_none _ _) ?_
  refine zz_cons (k' := 96) rfl (zk_goto X dX11_turn_95 (by decide)) ?_
  refine zz_cons (k' := 97) rfl (zz_Ok_none _ _) ?_
  refine zz_cons (k' := 98) rfl (zz_Ok_none _ _) ?_
  refine zz_cons (k' := 99) rfl (zk_iinc X dX11_turn_98 (by decide) (by decide) rfl) ?_
  refine zz_cons (k' := 100) rfl (zz_Ok_none _ _) ?_
  refine zz_cons (k' := 101) rfl (zz_Ok_none _ _) ?_
  refine zz_cons (k' := 102) rfl (zk_goto X dX11_turn_101 (by decide)) ?_
  refine zz_cons (k' := 103) rfl (zz_Ok_none _ _) ?_
  refine zz_cons (k' := 104) rfl (zz_Ok_none _ _) ?_
  refine zz_cons (k' := 105) rfl (zk_aload_n X dX11_turn_104 rfl rfl) ?_
  refine zz_cons (k' := 106) rfl (zk_getf X ff_X11_10 dX11_turn_105 rfl) ?_
  refine zz_cons (k' := 107) rfl (zz_Ok_none _ _) ?_
  refine zz_cons (k' := 108) rfl (zz_Ok_none _ _) ?_
  refine zz_cons (k' := 109) rfl (zk_getf X ff_X11_201 dX11_turn_108 rfl) ?_
  refine zz_cons (k' := 110) rfl (zz_Ok_none _ _) ?_
  refine zz_cons (k' := 111) rfl (zz_Ok_none _ _) ?_
  refine zz_cons (k' := 112) rfl (zk_iload_n X dX11_turn_111 rfl rfl) ?_
  refine zz_cons (k' := 113) rfl (zk_isub X dX11_turn_112 rfl) ?_
  refine zz_cons (k' := 114) rfl (zk_iret X rfl dX11_turn_113) ?_
  exact trivial
noncomputable def tX11_seen : List zzOp := [
  zo_aload 0 1,
  zo_iload 1 2,
  zo_callv zzSC (zz_cl [(9, fX11_controllerAt)]) 1 5,
  zo_none,
  zo_none,
  zo_astore 2 6,
  zo_aload 2 7,
  zo_ifnull 10 20,
  zo_none,
  zo_none,
  zo_throw 0,
  zo_none,
  zo_none,
  zo_none,
  zo_none,
  zo_none,
  zo_none,
  zo_none,
  zo_none,
  zo_none,
  zo_aload 2 21,
  zo_getf zzSC (zz_kf [1, 2, 3, 4, 5, 6, 7] 3) 24,
  zo_none,
  zo_none,
  zo_iret false]
set_option maxRecDepth 100000 in
theorem tl_X11_seen : ∀ pc, zz_Tl (tX11_seen.getD pc zo_none) := by
  refine zz_Tl_mem ?_
  unfold tX11_seen
  refine List.forall_mem_cons.mpr ⟨(zo_aload_tl _ _), ?_⟩
  refine List.forall_mem_cons.mpr ⟨(zo_iload_tl _ _), ?_⟩
  refine List.forall_mem_cons.mpr ⟨(zo_callv_tl _ _ _ _), ?_⟩
  refine List.forall_mem_cons.mpr ⟨zo_none_tl, ?_⟩
  refine List.forall_mem_cons.mpr ⟨zo_none_tl, ?_⟩
  refine List.forall_mem_cons.mpr ⟨(zo_astore_tl _ _), ?_⟩
  refine List.forall_mem_cons.mpr ⟨(zo_aload_tl _ _), ?_⟩
  refine List.forall_mem_cons.mpr ⟨(zo_ifnull_tl _ _), ?_⟩
  refine List.forall_mem_cons.mpr ⟨zo_none_tl, ?_⟩
  refine List.forall_mem_cons.mpr ⟨zo_none_tl, ?_⟩
  refine List.forall_mem_cons.mpr ⟨(zo_throw_tl _), ?_⟩
  refine List.forall_mem_cons.mpr ⟨zo_none_tl, ?_⟩
  refine List.forall_mem_cons.mpr ⟨zo_none_tl, ?_⟩
  refine List.forall_mem_cons.mpr ⟨zo_none_tl, ?_⟩
  refine List.forall_mem_cons.mpr ⟨zo_none_tl, ?_⟩
  refine List.forall_mem_cons.mpr ⟨zo_none_tl, ?_⟩
  refine List.forall_mem_cons.mpr ⟨zo_none_tl, ?_⟩
  refine List.forall_mem_cons.mpr ⟨zo_none_tl, ?_⟩
  refine List.forall_mem_cons.mpr ⟨zo_none_tl, ?_⟩
  refine List.forall_mem_cons.mpr ⟨zo_none_tl, ?_⟩
  refine List.forall_mem_cons.mpr ⟨(zo_aload_tl _ _), ?_⟩
  refine List.forall_mem_cons.mpr ⟨(zo_getf_tl _ _ _), ?_⟩
  refine List.forall_mem_cons.mpr ⟨zo_none_tl, ?_⟩
  refine List.forall_mem_cons.mpr ⟨zo_none_tl, ?_⟩
  refine List.forall_mem_cons.mpr ⟨(zo_iret_tl _), ?_⟩
  exact fun _ h => absurd h List.not_mem_nil
noncomputable def fX11_seen : zzFn := zz_fn tX11_seen 3
set_option maxRecDepth 100000 in
set_option maxHeartbeats 4000000 in
theorem mm_X11_seen {l : Launch} {D : va_G} {cA : Nat → ClassId} {ad : Nat → Nat} {Ex : (Nat → Prop) → State → Heap → Prop} (Wd : zzWC l D cA ad Ex) : zz_Cn l D zzCl cA ad zzSC Ex yX11_seen cX11_seen 3 (some .int) 6 82 fX11_seen ∧ zz_Cx l D zzCl cA ad zzSC Ex yX11_seen cX11_seen 3 (some .int) 6 82 fX11_seen := by
  refine zz_meth (plainFor_of_name (by decide)) Wd.1 Wd.2.1 Wd.2.2.1 (fun p e R s m args below meth c rr X => ?_)
  unfold tX11_seen
  refine zz_cons (k' := 1) rfl (zk_aload_n X dX11_seen_0 rfl rfl) ?_
  refine zz_cons (k' := 2) rfl (zk_iload_n X dX11_seen_1 rfl rfl) ?_
  refine zz_cons (k' := 3) rfl (zk_callv X (zz_Cv_of (List.forall_mem_cons.mpr ⟨⟨(RX_9, zzT9, 5), yX11_controllerAt, cX11_controllerAt, 2, (some (.object "ReconcilerHall$Controller")), 0, 0, rfl, kv_X11_185_9.1, (mm_X11_controllerAt Wd).1, by decide, by decide⟩, (fun _ h => absurd h List.not_mem_nil)⟩)) dX11_seen_2 rfl) ?_
  refine zz_cons (k' := 4) rfl (zz_Ok_none _ _) ?_
  refine zz_cons (k' := 5) rfl (zz_Ok_none _ _) ?_
  refine zz_cons (k' := 6) rfl (zk_astore_n X dX11_seen_5 rfl (by decide) rfl) ?_
  refine zz_cons (k' := 7) rfl (zk_aload_n X dX11_seen_6 rfl rfl) ?_
  refine zz_cons (k' := 8) rfl (zk_ifnonnull X dX11_seen_7 (by decide) rfl) ?_
  refine zz_cons (k' := 9) rfl (zz_Ok_none _ _) ?_
  refine zz_cons (k' := 10) rfl (zz_Ok_none _ _) ?_
  refine zz_cons (k' := 11) rfl (zk_throw X (th_X11_61_194 Wd) (by decide) dX11_seen_10 dX11_seen_13 dX11_seen_14 dX11_seen_16 dX11_seen_19) ?_
  refine zz_cons (k' := 12) rfl (zz_Ok_none _ _) ?_
  refine zz_cons (k' := 13) rfl (zz_Ok_none _ _) ?_
  refine zz_cons (k' := 14) rfl (zz_Ok_none _ _) ?_
  refine zz_cons (k' := 15) rfl (zz_Ok_none _ _) ?_
  refine zz_cons (k' := 16) rfl (zz_Ok_none _ _) ?_
  refine zz_cons (k' := 17) rfl (zz_Ok_none _ _) ?_
  refine zz_cons (k' := 18) rfl (zz_Ok_none _ _) ?_
  refine zz_cons (k' := 19) rfl (zz_Ok_none _ _) ?_
  refine zz_cons (k' := 20) rfl (zz_Ok_none _ _) ?_
  refine zz_cons (k' := 21) rfl (zk_aload_n X dX11_seen_20 rfl rfl) ?_
  refine zz_cons (k' := 22) rfl (zk_getf X ff_X11_207 dX11_seen_21 rfl) ?_
  refine zz_cons (k' := 23) rfl (zz_Ok_none _ _) ?_
  refine zz_cons (k' := 24) rfl (zz_Ok_none _ _) ?_
  refine zz_cons (k' := 25) rfl (zk_iret X rfl dX11_seen_24) ?_
  exact trivial
noncomputable def tX11_queued : List zzOp := [
  zo_aload 0 1,
  zo_iload 1 2,
  zo_callv zzSC (zz_cl [(9, fX11_controllerAt)]) 1 5,
  zo_none,
  zo_none,
  zo_astore 3 6,
  zo_aload 3 7,
  zo_ifnull 10 20,
  zo_none,
  zo_none,
  zo_throw 0,
  zo_none,
  zo_none,
  zo_none,
  zo_none,
  zo_none,
  zo_none,
  zo_none,
  zo_none,
  zo_none,
  zo_iload 2 21,
  zo_if (fun x => decide (0 ≤ x)) 34 24,
  zo_none,
  zo_none,
  zo_throw 2,
  zo_none,
  zo_none,
  zo_none,
  zo_none,
  zo_none,
  zo_none,
  zo_none,
  zo_none,
  zo_none,
  zo_aload 3 35,
  zo_iload 2 36,
  zo_callv zzSC (zz_cl [(1, fX2_keyAt), (2, fX2_keyAt), (3, fX2_keyAt), (4, fX2_keyAt), (5, fX2_keyAt), (6, fX2_keyAt), (7, fX2_keyAt)]) 1 39,
  zo_none,
  zo_none,
  zo_iret false]
set_option maxRecDepth 100000 in
theorem tl_X11_queued : ∀ pc, zz_Tl (tX11_queued.getD pc zo_none) := by
  refine zz_Tl_mem ?_
  unfold tX11_queued
  refine List.forall_mem_cons.mpr ⟨(zo_aload_tl _ _), ?_⟩
  refine List.forall_mem_cons.mpr ⟨(zo_iload_tl _ _), ?_⟩
  refine List.forall_mem_cons.mpr ⟨(zo_callv_tl _ _ _ _), ?_⟩
  refine List.forall_mem_cons.mpr ⟨zo_none_tl, ?_⟩
  refine List.forall_mem_cons.mpr ⟨zo_none_tl, ?_⟩
  refine List.forall_mem_cons.mpr ⟨(zo_astore_tl _ _), ?_⟩
  refine List.forall_mem_cons.mpr ⟨(zo_aload_tl _ _), ?_⟩
  refine List.forall_mem_cons.mpr ⟨(zo_ifnull_tl _ _), ?_⟩
  refine List.forall_mem_cons.mpr ⟨zo_none_tl, ?_⟩
  refine List.forall_mem_cons.mpr ⟨zo_none_tl, ?_⟩
  refine List.forall_mem_cons.mpr ⟨(zo_throw_tl _), ?_⟩
  refine List.forall_mem_cons.mpr ⟨zo_none_tl, ?_⟩
  refine List.forall_mem_cons.mpr ⟨zo_none_tl, ?_⟩
  refine List.forall_mem_cons.mpr ⟨zo_none_tl, ?_⟩
  refine List.forall_mem_cons.mpr ⟨zo_none_tl, ?_⟩
  refine List.forall_mem_cons.mpr ⟨zo_none_tl, ?_⟩
  refine List.forall_mem_cons.mpr ⟨zo_none_tl, ?_⟩
  refine List.forall_mem_cons.mpr ⟨zo_none_tl, ?_⟩
  refine List.forall_mem_cons.mpr ⟨zo_none_tl, ?_⟩
  refine List.forall_mem_cons.mpr ⟨zo_none_tl, ?_⟩
  refine List.forall_mem_cons.mpr ⟨(zo_iload_tl _ _), ?_⟩
  refine List.forall_mem_cons.mpr ⟨(zo_if_tl _ _ _), ?_⟩
  refine List.forall_mem_cons.mpr ⟨zo_none_tl, ?_⟩
  refine List.forall_mem_cons.mpr ⟨zo_none_tl, ?_⟩
  refine List.forall_mem_cons.mpr ⟨(zo_throw_tl _), ?_⟩
  refine List.forall_mem_cons.mpr ⟨zo_none_tl, ?_⟩
  refine List.forall_mem_cons.mpr ⟨zo_none_tl, ?_⟩
  refine List.forall_mem_cons.mpr ⟨zo_none_tl, ?_⟩
  refine List.forall_mem_cons.mpr ⟨zo_none_tl, ?_⟩
  refine List.forall_mem_cons.mpr ⟨zo_none_tl, ?_⟩
  refine List.forall_mem_cons.mpr ⟨zo_none_tl, ?_⟩
  refine List.forall_mem_cons.mpr ⟨zo_none_tl, ?_⟩
  refine List.forall_mem_cons.mpr ⟨zo_none_tl, ?_⟩
  refine List.forall_mem_cons.mpr ⟨zo_none_tl, ?_⟩
  refine List.forall_mem_cons.mpr ⟨(zo_aload_tl _ _), ?_⟩
  refine List.forall_mem_cons.mpr ⟨(zo_iload_tl _ _), ?_⟩
  refine List.forall_mem_cons.mpr ⟨(zo_callv_tl _ _ _ _), ?_⟩
  refine List.forall_mem_cons.mpr ⟨zo_none_tl, ?_⟩
  refine List.forall_mem_cons.mpr ⟨zo_none_tl, ?_⟩
  refine List.forall_mem_cons.mpr ⟨(zo_iret_tl _), ?_⟩
  exact fun _ h => absurd h List.not_mem_nil
noncomputable def fX11_queued : zzFn := zz_fn tX11_queued 4
set_option maxRecDepth 100000 in
set_option maxHeartbeats 4000000 in
theorem mm_X11_queued {l : Launch} {D : va_G} {cA : Nat → ClassId} {ad : Nat → Nat} {Ex : (Nat → Prop) → State → Heap → Prop} (Wd : zzWC l D cA ad Ex) : zz_Cn l D zzCl cA ad zzSC Ex yX11_queued cX11_queued 4 (some .int) 6 82 fX11_queued ∧ zz_Cx l D zzCl cA ad zzSC Ex yX11_queued cX11_queued 4 (some .int) 6 82 fX11_queued := by
  refine zz_meth (plainFor_of_name (by decide)) Wd.1 Wd.2.1 Wd.2.2.1 (fun p e R s m args below meth c rr X => ?_)
  unfold tX11_queued
  refine zz_cons (k' := 1) rfl (zk_aload_n X dX11_queued_0 rfl rfl) ?_
  refine zz_cons (k' := 2) rfl (zk_iload_n X dX11_queued_1 rfl rfl) ?_
  refine zz_cons (k' := 3) rfl (zk_callv X (zz_Cv_of (List.forall_mem_cons.mpr ⟨⟨(RX_9, zzT9, 5), yX11_controllerAt, cX11_controllerAt, 2, (some (.object "ReconcilerHall$Controller")), 0, 0, rfl, kv_X11_185_9.1, (mm_X11_controllerAt Wd).1, by decide, by decide⟩, (fun _ h => absurd h List.not_mem_nil)⟩)) dX11_queued_2 rfl) ?_
  refine zz_cons (k' := 4) rfl (zz_Ok_none _ _) ?_
  refine zz_cons (k' := 5) rfl (zz_Ok_none _ _) ?_
  refine zz_cons (k' := 6) rfl (zk_astore_n X dX11_queued_5 rfl (by decide) rfl) ?_
  refine zz_cons (k' := 7) rfl (zk_aload_n X dX11_queued_6 rfl rfl) ?_
  refine zz_cons (k' := 8) rfl (zk_ifnonnull X dX11_queued_7 (by decide) rfl) ?_
  refine zz_cons (k' := 9) rfl (zz_Ok_none _ _) ?_
  refine zz_cons (k' := 10) rfl (zz_Ok_none _ _) ?_
  refine zz_cons (k' := 11) rfl (zk_throw X (th_X11_61_194 Wd) (by decide) dX11_queued_10 dX11_queued_13 dX11_queued_14 dX11_queued_16 dX11_queued_19) ?_
  refine zz_cons (k' := 12) rfl (zz_Ok_none _ _) ?_
  refine zz_cons (k' := 13) rfl (zz_Ok_none _ _) ?_
  refine zz_cons (k' := 14) rfl (zz_Ok_none _ _) ?_
  refine zz_cons (k' := 15) rfl (zz_Ok_none _ _) ?_
  refine zz_cons (k' := 16) rfl (zz_Ok_none _ _) ?_
  refine zz_cons (k' := 17) rfl (zz_Ok_none _ _) ?_
  refine zz_cons (k' := 18) rfl (zz_Ok_none _ _) ?_
  refine zz_cons (k' := 19) rfl (zz_Ok_none _ _) ?_
  refine zz_cons (k' := 20) rfl (zz_Ok_none _ _) ?_
  refine zz_cons (k' := 21) rfl (zk_iload_n X dX11_queued_20 rfl rfl) ?_
  refine zz_cons (k' := 22) rfl (zk_if_ge X dX11_queued_21 (by decide) rfl) ?_
  refine zz_cons (k' := 23) rfl (zz_Ok_none _ _) ?_
  refine zz_cons (k' := 24) rfl (zz_Ok_none _ _) ?_
  refine zz_cons (k' := 25) rfl (zk_throw X (th_X11_208_210 Wd) (by decide) dX11_queued_24 dX11_queued_27 dX11_queued_28 dX11_queued_30 dX11_queued_33) ?_
  refine zz_cons (k' := 26) rfl (zz_Ok_none _ _) ?_
  refine zz_cons (k' := 27) rfl (zz_Ok_none _ _) ?_
  refine zz_cons (k' := 28) rfl (zz_Ok_none _ _) ?_
  refine zz_cons (k' := 29) rfl (zz_Ok_none _ _) ?_
  refine zz_cons (k' := 30) rfl (zz_Ok_none _ _) ?_
  refine zz_cons (k' := 31) rfl (zz_Ok_none _ _) ?_
  refine zz_cons (k' := 32) rfl (zz_Ok_none _ _) ?_
  refine zz_cons (k' := 33) rfl (zz_Ok_none _ _) ?_
  refine zz_cons (k' := 34) rfl (zz_Ok_none _ _) ?_
  refine zz_cons (k' := 35) rfl (zk_aload_n X dX11_queued_34 rfl rfl) ?_
  refine zz_cons (k' := 36) rfl (zk_iload_n X dX11_queued_35 rfl rfl) ?_
  refine zz_cons (k' := 37) rfl (zk_callv X (zz_Cv_of (List.forall_mem_cons.mpr ⟨⟨(RX_1, zzT1, 12), yX2_keyAt, cX2_keyAt, 2, (some .int), 0, 0, rfl, kv_X11_213_1, (mm_X2_keyAt Wd).1, by decide, by decide⟩, (List.forall_mem_cons.mpr ⟨⟨(RX_2, zzT2, 12), yX2_keyAt, cX2_keyAt, 2, (some .int), 0, 0, rfl, kv_X11_213_2, (mm_X2_keyAt Wd).1, by decide, by decide⟩, (List.forall_mem_cons.mpr ⟨⟨(RX_3, zzT3, 12), yX2_keyAt, cX2_keyAt, 2, (some .int), 0, 0, rfl, kv_X11_213_3, (mm_X2_keyAt Wd).1, by decide, by decide⟩, (List.forall_mem_cons.mpr ⟨⟨(RX_4, zzT4, 12), yX2_keyAt, cX2_keyAt, 2, (some .int), 0, 0, rfl, kv_X11_213_4, (mm_X2_keyAt Wd).1, by decide, by decide⟩, (List.forall_mem_cons.mpr ⟨⟨(RX_5, zzT5, 12), yX2_keyAt, cX2_keyAt, 2, (some .int), 0, 0, rfl, kv_X11_213_5, (mm_X2_keyAt Wd).1, by decide, by decide⟩, (List.forall_mem_cons.mpr ⟨⟨(RX_6, zzT6, 13), yX2_keyAt, cX2_keyAt, 2, (some .int), 0, 0, rfl, kv_X11_213_6, (mm_X2_keyAt Wd).1, by decide, by decide⟩, (List.forall_mem_cons.mpr ⟨⟨(RX_7, zzT7, 15), yX2_keyAt, cX2_keyAt, 2, (some .int), 0, 0, rfl, kv_X11_213_7, (mm_X2_keyAt Wd).1, by decide, by decide⟩, (fun _ h => absurd h List.not_mem_nil)⟩)⟩)⟩)⟩)⟩)⟩)⟩)) dX11_queued_36 rfl) ?_
  refine zz_cons (k' := 38) rfl (zz_Ok_none _ _) ?_
  refine zz_cons (k' := 39) rfl (zz_Ok_none _ _) ?_
  refine zz_cons (k' := 40) rfl (zk_iret X rfl dX11_queued_39) ?_
  exact trivial
noncomputable def tX11_failures : List zzOp := [
  zo_aload 0 1,
  zo_iload 1 2,
  zo_callv zzSC (zz_cl [(9, fX11_controllerAt)]) 1 5,
  zo_none,
  zo_none,
  zo_astore 3 6,
  zo_aload 3 7,
  zo_ifnull 10 20,
  zo_none,
  zo_none,
  zo_throw 0,
  zo_none,
  zo_none,
  zo_none,
  zo_none,
  zo_none,
  zo_none,
  zo_none,
  zo_none,
  zo_none,
  zo_aload 0 21,
  zo_iload 2 22,
  zo_callx zzSC (zz_cl [(9, fX11_requireObject)]) 1 25,
  zo_none,
  zo_none,
  zo_aload 3 26,
  zo_getf zzSC (zz_kf [1, 2, 3, 4, 5, 6, 7] 8) 29,
  zo_none,
  zo_none,
  zo_iload 2 30,
  zo_iald zzSC zzSTC 31,
  zo_iret false]
set_option maxRecDepth 100000 in
theorem tl_X11_failures : ∀ pc, zz_Tl (tX11_failures.getD pc zo_none) := by
  refine zz_Tl_mem ?_
  unfold tX11_failures
  refine List.forall_mem_cons.mpr ⟨(zo_aload_tl _ _), ?_⟩
  refine List.forall_mem_cons.mpr ⟨(zo_iload_tl _ _), ?_⟩
  refine List.forall_mem_cons.mpr ⟨(zo_callv_tl _ _ _ _), ?_⟩
  refine List.forall_mem_cons.mpr ⟨zo_none_tl, ?_⟩
  refine List.forall_mem_cons.mpr ⟨zo_none_tl, ?_⟩
  refine List.forall_mem_cons.mpr ⟨(zo_astore_tl _ _), ?_⟩
  refine List.forall_mem_cons.mpr ⟨(zo_aload_tl _ _), ?_⟩
  refine List.forall_mem_cons.mpr ⟨(zo_ifnull_tl _ _), ?_⟩
  refine List.forall_mem_cons.mpr ⟨zo_none_tl, ?_⟩
  refine List.forall_mem_cons.mpr ⟨zo_none_tl, ?_⟩
  refine List.forall_mem_cons.mpr ⟨(zo_throw_tl _), ?_⟩
  refine List.forall_mem_cons.mpr ⟨zo_none_tl, ?_⟩
  refine List.forall_mem_cons.mpr ⟨zo_none_tl, ?_⟩
  refine List.forall_mem_cons.mpr ⟨zo_none_tl, ?_⟩
  refine List.forall_mem_cons.mpr ⟨zo_none_tl, ?_⟩
  refine List.forall_mem_cons.mpr ⟨zo_none_tl, ?_⟩
  refine List.forall_mem_cons.mpr ⟨zo_none_tl, ?_⟩
  refine List.forall_mem_cons.mpr ⟨zo_none_tl, ?_⟩
  refine List.forall_mem_cons.mpr ⟨zo_none_tl, ?_⟩
  refine List.forall_mem_cons.mpr ⟨zo_none_tl, ?_⟩
  refine List.forall_mem_cons.mpr ⟨(zo_aload_tl _ _), ?_⟩
  refine List.forall_mem_cons.mpr ⟨(zo_iload_tl _ _), ?_⟩
  refine List.forall_mem_cons.mpr ⟨(zo_callx_tl _ _ _ _), ?_⟩
  refine List.forall_mem_cons.mpr ⟨zo_none_tl, ?_⟩
  refine List.forall_mem_cons.mpr ⟨zo_none_tl, ?_⟩
  refine List.forall_mem_cons.mpr ⟨(zo_aload_tl _ _), ?_⟩
  refine List.forall_mem_cons.mpr ⟨(zo_getf_tl _ _ _), ?_⟩
  refine List.forall_mem_cons.mpr ⟨zo_none_tl, ?_⟩
  refine List.forall_mem_cons.mpr ⟨zo_none_tl, ?_⟩
  refine List.forall_mem_cons.mpr ⟨(zo_iload_tl _ _), ?_⟩
  refine List.forall_mem_cons.mpr ⟨(zo_iald_tl _ _ _), ?_⟩
  refine List.forall_mem_cons.mpr ⟨(zo_iret_tl _), ?_⟩
  exact fun _ h => absurd h List.not_mem_nil
noncomputable def fX11_failures : zzFn := zz_fn tX11_failures 4
set_option maxRecDepth 100000 in
set_option maxHeartbeats 4000000 in
theorem mm_X11_failures {l : Launch} {D : va_G} {cA : Nat → ClassId} {ad : Nat → Nat} {Ex : (Nat → Prop) → State → Heap → Prop} (Wd : zzWC l D cA ad Ex) : zz_Cn l D zzCl cA ad zzSC Ex yX11_failures cX11_failures 4 (some .int) 7 103 fX11_failures ∧ zz_Cx l D zzCl cA ad zzSC Ex yX11_failures cX11_failures 4 (some .int) 7 103 fX11_failures := by
  refine zz_meth (plainFor_of_name (by decide)) Wd.1 Wd.2.1 Wd.2.2.1 (fun p e R s m args below meth c rr X => ?_)
  unfold tX11_failures
  refine zz_cons (k' := 1) rfl (zk_aload_n X dX11_failures_0 rfl rfl) ?_
  refine zz_cons (k' := 2) rfl (zk_iload_n X dX11_failures_1 rfl rfl) ?_
  refine zz_cons (k' := 3) rfl (zk_callv X (zz_Cv_of (List.forall_mem_cons.mpr ⟨⟨(RX_9, zzT9, 5), yX11_controllerAt, cX11_controllerAt, 2, (some (.object "ReconcilerHall$Controller")), 0, 0, rfl, kv_X11_185_9.1, (mm_X11_controllerAt Wd).1, by decide, by decide⟩, (fun _ h => absurd h List.not_mem_nil)⟩)) dX11_failures_2 rfl) ?_
  refine zz_cons (k' := 4) rfl (zz_Ok_none _ _) ?_
  refine zz_cons (k' := 5) rfl (zz_Ok_none _ _) ?_
  refine zz_cons (k' := 6) rfl (zk_astore_n X dX11_failures_5 rfl (by decide) rfl) ?_
  refine zz_cons (k' := 7) rfl (zk_aload_n X dX11_failures_6 rfl rfl) ?_
  refine zz_cons (k' := 8) rfl (zk_ifnonnull X dX11_failures_7 (by decide) rfl) ?_
  refine zz_cons (k' := 9) rfl (zz_Ok_none _ _) ?_
  refine zz_cons (k' := 10) rfl (zz_Ok_none _ _) ?_
  refine zz_cons (k' := 11) rfl (zk_throw X (th_X11_61_194 Wd) (by decide) dX11_failures_10 dX11_failures_13 dX11_failures_14 dX11_failures_16 dX11_failures_19) ?_
  refine zz_cons (k' := 12) rfl (zz_Ok_none _ _) ?_
  refine zz_cons (k' := 13) rfl (zz_Ok_none _ _) ?_
  refine zz_cons (k' := 14) rfl (zz_Ok_none _ _) ?_
  refine zz_cons (k' := 15) rfl (zz_Ok_none _ _) ?_
  refine zz_cons (k' := 16) rfl (zz_Ok_none _ _) ?_
  refine zz_cons (k' := 17) rfl (zz_Ok_none _ _) ?_
  refine zz_cons (k' := 18) rfl (zz_Ok_none _ _) ?_
  refine zz_cons (k' := 19) rfl (zz_Ok_none _ _) ?_
  refine zz_cons (k' := 20) rfl (zz_Ok_none _ _) ?_
  refine zz_cons (k' := 21) rfl (zk_aload_n X dX11_failures_20 rfl rfl) ?_
  refine zz_cons (k' := 22) rfl (zk_iload_n X dX11_failures_21 rfl rfl) ?_
  refine zz_cons (k' := 23) rfl (zk_callx X (zz_Cw_of (List.forall_mem_cons.mpr ⟨⟨(RX_9, zzT9, 5), yX11_requireObject, cX11_requireObject, 2, none, 6, 82, rfl, kv_X11_80_9, (mm_X11_requireObject Wd), by decide, by decide⟩, (fun _ h => absurd h List.not_mem_nil)⟩)) dX11_failures_22 rfl) ?_
  refine zz_cons (k' := 24) rfl (zz_Ok_none _ _) ?_
  refine zz_cons (k' := 25) rfl (zz_Ok_none _ _) ?_
  refine zz_cons (k' := 26) rfl (zk_aload_n X dX11_failures_25 rfl rfl) ?_
  refine zz_cons (k' := 27) rfl (zk_getf X ff_X11_216 dX11_failures_26 rfl) ?_
  refine zz_cons (k' := 28) rfl (zz_Ok_none _ _) ?_
  refine zz_cons (k' := 29) rfl (zz_Ok_none _ _) ?_
  refine zz_cons (k' := 30) rfl (zk_iload_n X dX11_failures_29 rfl rfl) ?_
  refine zz_cons (k' := 31) rfl (zk_iald X (zzWC_st Wd) dX11_failures_30 rfl) ?_
  refine zz_cons (k' := 32) rfl (zk_iret X rfl dX11_failures_31) ?_
  exact trivial
noncomputable def tX11_requireField : List zzOp := [
  zo_aload 0 1,
  zo_getf zzSC (zz_kf [9] 0) 4,
  zo_none,
  zo_none,
  zo_iload 1 5,
  zo_pushI 23 7,
  zo_none,
  zo_callv zzSC (zz_cl [(8, fX10_read)]) 2 10,
  zo_none,
  zo_none,
  zo_iload 2 11,
  zo_calls fX11_hasField 2 14,
  zo_none,
  zo_none,
  zo_if (fun x => decide (¬ x = 0)) 28 17,
  zo_none,
  zo_none,
  zo_throw 0,
  zo_none,
  zo_none,
  zo_none,
  zo_none,
  zo_none,
  zo_none,
  zo_none,
  zo_none,
  zo_none,
  zo_none,
  zo_ret]
set_option maxRecDepth 100000 in
theorem tl_X11_requireField : ∀ pc, zz_Tl (tX11_requireField.getD pc zo_none) := by
  refine zz_Tl_mem ?_
  unfold tX11_requireField
  refine List.forall_mem_cons.mpr ⟨(zo_aload_tl _ _), ?_⟩
  refine List.forall_mem_cons.mpr ⟨(zo_getf_tl _ _ _), ?_⟩
  refine List.forall_mem_cons.mpr ⟨zo_none_tl, ?_⟩
  refine List.forall_mem_cons.mpr ⟨zo_none_tl, ?_⟩
  refine List.forall_mem_cons.mpr ⟨(zo_iload_tl _ _), ?_⟩
  refine List.forall_mem_cons.mpr ⟨(zo_pushI_tl _ _), ?_⟩
  refine List.forall_mem_cons.mpr ⟨zo_none_tl, ?_⟩
  refine List.forall_mem_cons.mpr ⟨(zo_callv_tl _ _ _ _), ?_⟩
  refine List.forall_mem_cons.mpr ⟨zo_none_tl, ?_⟩
  refine List.forall_mem_cons.mpr ⟨zo_none_tl, ?_⟩
  refine List.forall_mem_cons.mpr ⟨(zo_iload_tl _ _), ?_⟩
  refine List.forall_mem_cons.mpr ⟨(zo_calls_tl _ _ _), ?_⟩
  refine List.forall_mem_cons.mpr ⟨zo_none_tl, ?_⟩
  refine List.forall_mem_cons.mpr ⟨zo_none_tl, ?_⟩
  refine List.forall_mem_cons.mpr ⟨(zo_if_tl _ _ _), ?_⟩
  refine List.forall_mem_cons.mpr ⟨zo_none_tl, ?_⟩
  refine List.forall_mem_cons.mpr ⟨zo_none_tl, ?_⟩
  refine List.forall_mem_cons.mpr ⟨(zo_throw_tl _), ?_⟩
  refine List.forall_mem_cons.mpr ⟨zo_none_tl, ?_⟩
  refine List.forall_mem_cons.mpr ⟨zo_none_tl, ?_⟩
  refine List.forall_mem_cons.mpr ⟨zo_none_tl, ?_⟩
  refine List.forall_mem_cons.mpr ⟨zo_none_tl, ?_⟩
  refine List.forall_mem_cons.mpr ⟨zo_none_tl, ?_⟩
  refine List.forall_mem_cons.mpr ⟨zo_none_tl, ?_⟩
  refine List.forall_mem_cons.mpr ⟨zo_none_tl, ?_⟩
  refine List.forall_mem_cons.mpr ⟨zo_none_tl, ?_⟩
  refine List.forall_mem_cons.mpr ⟨zo_none_tl, ?_⟩
  refine List.forall_mem_cons.mpr ⟨zo_none_tl, ?_⟩
  refine List.forall_mem_cons.mpr ⟨(zo_ret_tl), ?_⟩
  exact fun _ h => absurd h List.not_mem_nil
noncomputable def fX11_requireField : zzFn := zz_fn tX11_requireField 3
set_option maxRecDepth 100000 in
set_option maxHeartbeats 4000000 in
theorem mm_X11_requireField {l : Launch} {D : va_G} {cA : Nat → ClassId} {ad : Nat → Nat} {Ex : (Nat → Prop) → State → Heap → Prop} (Wd : zzWC l D cA ad Ex) : zz_Cn l D zzCl cA ad zzSC Ex yX11_requireField cX11_requireField 3 none 6 82 fX11_requireField ∧ zz_Cx l D zzCl cA ad zzSC Ex yX11_requireField cX11_requireField 3 none 6 82 fX11_requireField := by
  refine zz_meth (plainFor_of_name (by decide)) Wd.1 Wd.2.1 Wd.2.2.1 (fun p e R s m args below meth c rr X => ?_)
  unfold tX11_requireField
  refine zz_cons (k' := 1) rfl (zk_aload_n X dX11_requireField_0 rfl rfl) ?_
  refine zz_cons (k' := 2) rfl (zk_getf X ff_X11_10 dX11_requireField_1 rfl) ?_
  refine zz_cons (k' := 3) rfl (zz_Ok_none _ _) ?_
  refine zz_cons (k' := 4) rfl (zz_Ok_none _ _) ?_
  refine zz_cons (k' := 5) rfl (zk_iload_n X dX11_requireField_4 rfl rfl) ?_
  refine zz_cons (k' := 6) rfl (zk_bipush X dX11_requireField_5 (by decide) rfl) ?_
  refine zz_cons (k' := 7) rfl (zz_Ok_none _ _) ?_
  refine zz_cons (k' := 8) rfl (zk_callv X (zz_Cv_of (List.forall_mem_cons.mpr ⟨⟨(RX_8, zzT8, 9), yX10_read, cX10_read, 3, (some .int), 0, 0, rfl, kv_X11_84_8, (mm_X10_read Wd).1, by decide, by decide⟩, (fun _ h => absurd h List.not_mem_nil)⟩)) dX11_requireField_7 rfl) ?_
  refine zz_cons (k' := 9) rfl (zz_Ok_none _ _) ?_
  refine zz_cons (k' := 10) rfl (zz_Ok_none _ _) ?_
  refine zz_cons (k' := 11) rfl (zk_iload_n X dX11_requireField_10 rfl rfl) ?_
  refine zz_cons (k' := 12) rfl (zk_calls X ks_X11_88 (mm_X11_hasField Wd).1 (by decide) dX11_requireField_11 rfl) ?_
  refine zz_cons (k' := 13) rfl (zz_Ok_none _ _) ?_
  refine zz_cons (k' := 14) rfl (zz_Ok_none _ _) ?_
  refine zz_cons (k' := 15) rfl (zk_if_ne X dX11_requireField_14 (by decide) rfl) ?_
  refine zz_cons (k' := 16) rfl (zz_Ok_none _ _) ?_
  refine zz_cons (k' := 17) rfl (zz_Ok_none _ _) ?_
  refine zz_cons (k' := 18) rfl (zk_throwW X (th_X11_61_299 Wd) (by decide) dX11_requireField_17 dX11_requireField_20 dX11_requireField_21 dX11_requireField_24 dX11_requireField_27) ?_
  refine zz_cons (k' := 19) rfl (zz_Ok_none _ _) ?_
  refine zz_cons (k' := 20) rfl (zz_Ok_none _ _) ?_
  refine zz_cons (k' := 21) rfl (zz_Ok_none _ _) ?_
  refine zz_cons (k' := 22) rfl (zz_Ok_none _ _) ?_
  refine zz_cons (k' := 23) rfl (zz_Ok_none _ _) ?_
  refine zz_cons (k' := 24) rfl (zz_Ok_none _ _) ?_
  refine zz_cons (k' := 25) rfl (zz_Ok_none _ _) ?_
  refine zz_cons (k' := 26) rfl (zz_Ok_none _ _) ?_
  refine zz_cons (k' := 27) rfl (zz_Ok_none _ _) ?_
  refine zz_cons (k' := 28) rfl (zz_Ok_none _ _) ?_
  refine zz_cons (k' := 29) rfl (zk_ret X rfl dX11_requireField_28) ?_
  exact trivial
noncomputable def tX11_believed : List zzOp := [
  zo_aload 0 1,
  zo_iload 1 2,
  zo_callv zzSC (zz_cl [(9, fX11_controllerAt)]) 1 5,
  zo_none,
  zo_none,
  zo_astore 4 7,
  zo_none,
  zo_aload 4 9,
  zo_none,
  zo_ifnull 12 22,
  zo_none,
  zo_none,
  zo_throw 0,
  zo_none,
  zo_none,
  zo_none,
  zo_none,
  zo_none,
  zo_none,
  zo_none,
  zo_none,
  zo_none,
  zo_aload 0 23,
  zo_iload 2 24,
  zo_callx zzSC (zz_cl [(9, fX11_requireObject)]) 1 27,
  zo_none,
  zo_none,
  zo_aload 0 28,
  zo_iload 2 29,
  zo_iload 3 30,
  zo_callx zzSC (zz_cl [(9, fX11_requireField)]) 2 33,
  zo_none,
  zo_none,
  zo_aload 4 35,
  zo_none,
  zo_iload 2 36,
  zo_iload 3 37,
  zo_callv zzSC (zz_cl [(1, fX10_read), (2, fX10_read), (3, fX10_read), (4, fX10_read), (5, fX10_read), (6, fX10_read), (7, fX10_read)]) 2 40,
  zo_none,
  zo_none,
  zo_iret false]
set_option maxRecDepth 100000 in
theorem tl_X11_believed : ∀ pc, zz_Tl (tX11_believed.getD pc zo_none) := by
  refine zz_Tl_mem ?_
  unfold tX11_believed
  refine List.forall_mem_cons.mpr ⟨(zo_aload_tl _ _), ?_⟩
  refine List.forall_mem_cons.mpr ⟨(zo_iload_tl _ _), ?_⟩
  refine List.forall_mem_cons.mpr ⟨(zo_callv_tl _ _ _ _), ?_⟩
  refine List.forall_mem_cons.mpr ⟨zo_none_tl, ?_⟩
  refine List.forall_mem_cons.mpr ⟨zo_none_tl, ?_⟩
  refine List.forall_mem_cons.mpr ⟨(zo_astore_tl _ _), ?_⟩
  refine List.forall_mem_cons.mpr ⟨zo_none_tl, ?_⟩
  refine List.forall_mem_cons.mpr ⟨(zo_aload_tl _ _), ?_⟩
  refine List.forall_mem_cons.mpr ⟨zo_none_tl, ?_⟩
  refine List.forall_mem_cons.mpr ⟨(zo_ifnull_tl _ _), ?_⟩
  refine List.forall_mem_cons.mpr ⟨zo_none_tl, ?_⟩
  refine List.forall_mem_cons.mpr ⟨zo_none_tl, ?_⟩
  refine List.forall_mem_cons.mpr ⟨(zo_throw_tl _), ?_⟩
  refine List.forall_mem_cons.mpr ⟨zo_none_tl, ?_⟩
  refine List.forall_mem_cons.mpr ⟨zo_none_tl, ?_⟩
  refine List.forall_mem_cons.mpr ⟨zo_none_tl, ?_⟩
  refine List.forall_mem_cons.mpr ⟨zo_none_tl, ?_⟩
  refine List.forall_mem_cons.mpr ⟨zo_none_tl, ?_⟩
  refine List.forall_mem_cons.mpr ⟨zo_none_tl, ?_⟩
  refine List.forall_mem_cons.mpr ⟨zo_none_tl, ?_⟩
  refine List.forall_mem_cons.mpr ⟨zo_none_tl, ?_⟩
  refine List.forall_mem_cons.mpr ⟨zo_none_tl, ?_⟩
  refine List.forall_mem_cons.mpr ⟨(zo_aload_tl _ _), ?_⟩
  refine List.forall_mem_cons.mpr ⟨(zo_iload_tl _ _), ?_⟩
  refine List.forall_mem_cons.mpr ⟨(zo_callx_tl _ _ _ _), ?_⟩
  refine List.forall_mem_cons.mpr ⟨zo_none_tl, ?_⟩
  refine List.forall_mem_cons.mpr ⟨zo_none_tl, ?_⟩
  refine List.forall_mem_cons.mpr ⟨(zo_aload_tl _ _), ?_⟩
  refine List.forall_mem_cons.mpr ⟨(zo_iload_tl _ _), ?_⟩
  refine List.forall_mem_cons.mpr ⟨(zo_iload_tl _ _), ?_⟩
  refine List.forall_mem_cons.mpr ⟨(zo_callx_tl _ _ _ _), ?_⟩
  refine List.forall_mem_cons.mpr ⟨zo_none_tl, ?_⟩
  refine List.forall_mem_cons.mpr ⟨zo_none_tl, ?_⟩
  refine List.forall_mem_cons.mpr ⟨(zo_aload_tl _ _), ?_⟩
  refine List.forall_mem_cons.mpr ⟨zo_none_tl, ?_⟩
  refine List.forall_mem_cons.mpr ⟨(zo_iload_tl _ _), ?_⟩
  refine List.forall_mem_cons.mpr ⟨(zo_iload_tl _ _), ?_⟩
  refine List.forall_mem_cons.mpr ⟨(zo_callv_tl _ _ _ _), ?_⟩
  refine List.forall_mem_cons.mpr ⟨zo_none_tl, ?_⟩
  refine List.forall_mem_cons.mpr ⟨zo_none_tl, ?_⟩
  refine List.forall_mem_cons.mpr ⟨(zo_iret_tl _), ?_⟩
  exact fun _ h => absurd h List.not_mem_nil
noncomputable def fX11_believed : zzFn := zz_fn tX11_believed 5
set_option maxRecDepth 100000 in
set_option maxHeartbeats 4000000 in
theorem mm_X11_believed {l : Launch} {D : va_G} {cA : Nat → ClassId} {ad : Nat → Nat} {Ex : (Nat → Prop) → State → Heap → Prop} (Wd : zzWC l D cA ad Ex) : zz_Cn l D zzCl cA ad zzSC Ex yX11_believed cX11_believed 5 (some .int) 7 104 fX11_believed ∧ zz_Cx l D zzCl cA ad zzSC Ex yX11_believed cX11_believed 5 (some .int) 7 104 fX11_believed := by
  refine zz_meth (plainFor_of_name (by decide)) Wd.1 Wd.2.1 Wd.2.2.1 (fun p e R s m args below meth c rr X => ?_)
  unfold tX11_believed
  refine zz_cons (k' := 1) rfl (zk_aload_n X dX11_believed_0 rfl rfl) ?_
  refine zz_cons (k' := 2) rfl (zk_iload_n X dX11_believed_1 rfl rfl) ?_
  refine zz_cons (k' := 3) rfl (zk_callv X (zz_Cv_of (List.forall_mem_cons.mpr ⟨⟨(RX_9, zzT9, 5), yX11_controllerAt, cX11_controllerAt, 2, (some (.object "ReconcilerHall$Controller")), 0, 0, rfl, kv_X11_185_9.1, (mm_X11_controllerAt Wd).1, by decide, by decide⟩, (fun _ h => absurd h List.not_mem_nil)⟩)) dX11_believed_2 rfl) ?_
  refine zz_cons (k' := 4) rfl (zz_Ok_none _ _) ?_
  refine zz_cons (k' := 5) rfl (zz_Ok_none _ _) ?_
  refine zz_cons (k' := 6) rfl (zk_astore X dX11_believed_5 (by decide) rfl) ?_
  refine zz_cons (k' := 7) rfl (zz_Ok_none _ _) ?_
  refine zz_cons (k' := 8) rfl (zk_aload X dX11_believed_7 rfl) ?_
  refine zz_cons (k' := 9) rfl (zz_Ok_none _ _) ?_
  refine zz_cons (k' := 10) rfl (zk_ifnonnull X dX11_believed_9 (by decide) rfl) ?_
  refine zz_cons (k' := 11) rfl (zz_Ok_none _ _) ?_
  refine zz_cons (k' := 12) rfl (zz_Ok_none _ _) ?_
  refine zz_cons (k' := 13) rfl (zk_throw X (th_X11_61_194 Wd) (by decide) dX11_believed_12 dX11_believed_15 dX11_believed_16 dX11_believed_18 dX11_believed_21) ?_
  refine zz_cons (k' := 14) rfl (zz_Ok_none _ _) ?_
  refine zz_cons (k' := 15) rfl (zz_Ok_none _ _) ?_
  refine zz_cons (k' := 16) rfl (zz_Ok_none _ _) ?_
  refine zz_cons (k' := 17) rfl (zz_Ok_none _ _) ?_
  refine zz_cons (k' := 18) rfl (zz_Ok_none _ _) ?_
  refine zz_cons (k' := 19) rfl (zz_Ok_none _ _) ?_
  refine zz_cons (k' := 20) rfl (zz_Ok_none _ _) ?_
  refine zz_cons (k' := 21) rfl (zz_Ok_none _ _) ?_
  refine zz_cons (k' := 22) rfl (zz_Ok_none _ _) ?_
  refine zz_cons (k' := 23) rfl (zk_aload_n X dX11_believed_22 rfl rfl) ?_
  refine zz_cons (k' := 24) rfl (zk_iload_n X dX11_believed_23 rfl rfl) ?_
  refine zz_cons (k' := 25) rfl (zk_callx X (zz_Cw_of (List.forall_mem_cons.mpr ⟨⟨(RX_9, zzT9, 5), yX11_requireObject, cX11_requireObject, 2, none, 6, 82, rfl, kv_X11_80_9, (mm_X11_requireObject Wd), by decide, by decide⟩, (fun _ h => absurd h List.not_mem_nil)⟩)) dX11_believed_24 rfl) ?_
  refine zz_cons (k' := 26) rfl (zz_Ok_none _ _) ?_
  refine zz_cons (k' := 27) rfl (zz_Ok_none _ _) ?_
  refine zz_cons (k' := 28) rfl (zk_aload_n X dX11_believed_27 rfl rfl) ?_
  refine zz_cons (k' := 29) rfl (zk_iload_n X dX11_believed_28 rfl rfl) ?_
  refine zz_cons (k' := 30) rfl (zk_iload_n X dX11_believed_29 rfl rfl) ?_
  refine zz_cons (k' := 31) rfl (zk_callx X (zz_Cw_of (List.forall_mem_cons.mpr ⟨⟨(RX_9, zzT9, 5), yX11_requireField, cX11_requireField, 3, none, 6, 82, rfl, kv_X11_219_9, (mm_X11_requireField Wd), by decide, by decide⟩, (fun _ h => absurd h List.not_mem_nil)⟩)) dX11_believed_30 rfl) ?_
  refine zz_cons (k' := 32) rfl (zz_Ok_none _ _) ?_
  refine zz_cons (k' := 33) rfl (zz_Ok_none _ _) ?_
  refine zz_cons (k' := 34) rfl (zk_aload X dX11_believed_33 rfl) ?_
  refine zz_cons (k' := 35) rfl (zz_Ok_none _ _) ?_
  refine zz_cons (k' := 36) rfl (zk_iload_n X dX11_believed_35 rfl rfl) ?_
  refine zz_cons (k' := 37) rfl (zk_iload_n X dX11_believed_36 rfl rfl) ?_
  refine zz_cons (k' := 38) rfl (zk_callv X (zz_Cv_of (List.forall_mem_cons.mpr ⟨⟨(RX_1, zzT1, 12), yX10_read, cX10_read, 3, (some .int), 0, 0, rfl, kv_X11_222_1, (mm_X10_read Wd).1, by decide, by decide⟩, (List.forall_mem_cons.mpr ⟨⟨(RX_2, zzT2, 12), yX10_read, cX10_read, 3, (some .int), 0, 0, rfl, kv_X11_222_2, (mm_X10_read Wd).1, by decide, by decide⟩, (List.forall_mem_cons.mpr ⟨⟨(RX_3, zzT3, 12), yX10_read, cX10_read, 3, (some .int), 0, 0, rfl, kv_X11_222_3, (mm_X10_read Wd).1, by decide, by decide⟩, (List.forall_mem_cons.mpr ⟨⟨(RX_4, zzT4, 12), yX10_read, cX10_read, 3, (some .int), 0, 0, rfl, kv_X11_222_4, (mm_X10_read Wd).1, by decide, by decide⟩, (List.forall_mem_cons.mpr ⟨⟨(RX_5, zzT5, 12), yX10_read, cX10_read, 3, (some .int), 0, 0, rfl, kv_X11_222_5, (mm_X10_read Wd).1, by decide, by decide⟩, (List.forall_mem_cons.mpr ⟨⟨(RX_6, zzT6, 13), yX10_read, cX10_read, 3, (some .int), 0, 0, rfl, kv_X11_222_6, (mm_X10_read Wd).1, by decide, by decide⟩, (List.forall_mem_cons.mpr ⟨⟨(RX_7, zzT7, 15), yX10_read, cX10_read, 3, (some .int), 0, 0, rfl, kv_X11_222_7, (mm_X10_read Wd).1, by decide, by decide⟩, (fun _ h => absurd h List.not_mem_nil)⟩)⟩)⟩)⟩)⟩)⟩)⟩)) dX11_believed_37 rfl) ?_
  refine zz_cons (k' := 39) rfl (zz_Ok_none _ _) ?_
  refine zz_cons (k' := 40) rfl (zz_Ok_none _ _) ?_
  refine zz_cons (k' := 41) rfl (zk_iret X rfl dX11_believed_40) ?_
  exact trivial
noncomputable def tX11_isSettled : List zzOp := [
  zo_pushI 0 1,
  zo_istore 1 2,
  zo_iload 1 3,
  zo_pushI 8 5,
  zo_none,
  zo_icmp (fun x y => decide (y ≤ x)) 47 8,
  zo_none,
  zo_none,
  zo_aload 0 9,
  zo_iload 1 10,
  zo_callv zzSC (zz_cl [(9, fX11_controllerAt)]) 1 13,
  zo_none,
  zo_none,
  zo_astore 2 14,
  zo_aload 2 15,
  zo_ifnull 41 18,
  zo_none,
  zo_none,
  zo_aload 2 19,
  zo_getf zzSC (zz_kf [1, 2, 3, 4, 5, 6, 7] 3) 22,
  zo_none,
  zo_none,
  zo_aload 0 23,
  zo_getf zzSC (zz_kf [9] 0) 26,
  zo_none,
  zo_none,
  zo_getf zzSC (zz_kf [8] 3) 29,
  zo_none,
  zo_none,
  zo_icmp (fun x y => decide (¬ x = y)) 39 32,
  zo_none,
  zo_none,
  zo_aload 2 33,
  zo_getf zzSC (zz_kf [1, 2, 3, 4, 5, 6, 7] 11) 36,
  zo_none,
  zo_none,
  zo_if (fun x => decide (x ≤ 0)) 41 39,
  zo_none,
  zo_none,
  zo_pushI 0 40,
  zo_iret true,
  zo_iinc 1 1 44,
  zo_none,
  zo_none,
  zo_goto 2,
  zo_none,
  zo_none,
  zo_pushI 1 48,
  zo_iret true]
set_option maxRecDepth 100000 in
theorem tl_X11_isSettled : ∀ pc, zz_Tl (tX11_isSettled.getD pc zo_none) := by
  refine zz_Tl_mem ?_
  unfold tX11_isSettled
  refine List.forall_mem_cons.mpr ⟨(zo_pushI_tl _ _), ?_⟩
  refine List.forall_mem_cons.mpr ⟨(zo_istore_tl _ _), ?_⟩
  refine List.forall_mem_cons.mpr ⟨(zo_iload_tl _ _), ?_⟩
  refine List.forall_mem_cons.mpr ⟨(zo_pushI_tl _ _), ?_⟩
  refine List.forall_mem_cons.mpr ⟨zo_none_tl, ?_⟩
  refine List.forall_mem_cons.mpr ⟨(zo_icmp_tl _ _ _), ?_⟩
  refine List.forall_mem_cons.mpr ⟨zo_none_tl, ?_⟩
  refine List.forall_mem_cons.mpr ⟨zo_none_tl, ?_⟩
  refine List.forall_mem_cons.mpr ⟨(zo_aload_tl _ _), ?_⟩
  refine List.forall_mem_cons.mpr ⟨(zo_iload_tl _ _), ?_⟩
  refine List.forall_mem_cons.mpr ⟨(zo_callv_tl _ _ _ _), ?_⟩
  refine List.forall_mem_cons.mpr ⟨zo_none_tl, ?_⟩
  refine List.forall_mem_cons.mpr ⟨zo_none_tl, ?_⟩
  refine List.forall_mem_cons.mpr ⟨(zo_astore_tl _ _), ?_⟩
  refine List.forall_mem_cons.mpr ⟨(zo_aload_tl _ _), ?_⟩
  refine List.forall_mem_cons.mpr ⟨(zo_ifnull_tl _ _), ?_⟩
  refine List.forall_mem_cons.mpr ⟨zo_none_tl, ?_⟩
  refine List.forall_mem_cons.mpr ⟨zo_none_tl, ?_⟩
  refine List.forall_mem_cons.mpr ⟨(zo_aload_tl _ _), ?_⟩
  refine List.forall_mem_cons.mpr ⟨(zo_getf_tl _ _ _), ?_⟩
  refine List.forall_mem_cons.mpr ⟨zo_none_tl, ?_⟩
  refine List.forall_mem_cons.mpr ⟨zo_none_tl, ?_⟩
  refine List.forall_mem_cons.mpr ⟨(zo_aload_tl _ _), ?_⟩
  refine List.forall_mem_cons.mpr ⟨(zo_getf_tl _ _ _), ?_⟩
  refine List.forall_mem_cons.mpr ⟨zo_none_tl, ?_⟩
  refine List.forall_mem_cons.mpr ⟨zo_none_tl, ?_⟩
  refine List.forall_mem_cons.mpr ⟨(zo_getf_tl _ _ _), ?_⟩
  refine List.forall_mem_cons.mpr ⟨zo_none_tl, ?_⟩
  refine List.forall_mem_cons.mpr ⟨zo_none_tl, ?_⟩
  refine List.forall_mem_cons.mpr ⟨(zo_icmp_tl _ _ _), ?_⟩
  refine List.forall_mem_cons.mpr ⟨zo_none_tl, ?_⟩
  refine List.forall_mem_cons.mpr ⟨zo_none_tl, ?_⟩
  refine List.forall_mem_cons.mpr ⟨(zo_aload_tl _ _), ?_⟩
  refine List.forall_mem_cons.mpr ⟨(zo_getf_tl _ _ _), ?_⟩
  refine List.forall_mem_cons.mpr ⟨zo_none_tl, ?_⟩
  refine List.forall_mem_cons.mpr ⟨zo_none_tl, ?_⟩
  refine List.forall_mem_cons.mpr ⟨(zo_if_tl _ _ _), ?_⟩
  refine List.forall_mem_cons.mpr ⟨zo_none_tl, ?_⟩
  refine List.forall_mem_cons.mpr ⟨zo_none_tl, ?_⟩
  refine List.forall_mem_cons.mpr ⟨(zo_pushI_tl _ _), ?_⟩
  refine List.forall_mem_cons.mpr ⟨(zo_iret_tl _), ?_⟩
  refine List.forall_mem_cons.mpr ⟨(zo_iinc_tl _ _ _), ?_⟩
  refine List.forall_mem_cons.mpr ⟨zo_none_tl, ?_⟩
  refine List.forall_mem_cons.mpr ⟨zo_none_tl, ?_⟩
  refine List.forall_mem_cons.mpr ⟨(zo_goto_tl _), ?_⟩
  refine List.forall_mem_cons.mpr ⟨zo_none_tl, ?_⟩
  refine List.forall_mem_cons.mpr ⟨zo_none_tl, ?_⟩
  refine List.forall_mem_cons.mpr ⟨(zo_pushI_tl _ _), ?_⟩
  refine List.forall_mem_cons.mpr ⟨(zo_iret_tl _), ?_⟩
  exact fun _ h => absurd h List.not_mem_nil
noncomputable def fX11_isSettled : zzFn := zz_fn tX11_isSettled 3
set_option maxRecDepth 100000 in
set_option maxHeartbeats 4000000 in
theorem mm_X11_isSettled {l : Launch} {D : va_G} {cA : Nat → ClassId} {ad : Nat → Nat} {Ex : (Nat → Prop) → State → Heap → Prop} (Wd : zzWC l D cA ad Ex) : zz_Cn l D zzCl cA ad zzSC Ex yX11_isSettled cX11_isSettled 3 (some .boolean) 1 21 fX11_isSettled ∧ zz_Cx l D zzCl cA ad zzSC Ex yX11_isSettled cX11_isSettled 3 (some .boolean) 1 21 fX11_isSettled := by
  refine zz_meth (plainFor_of_name (by decide)) Wd.1 Wd.2.1 Wd.2.2.1 (fun p e R s m args below meth c rr X => ?_)
  unfold tX11_isSettled
  refine zz_cons (k' := 1) rfl (zk_iconst X dX11_isSettled_0 (by decide) rfl) ?_
  refine zz_cons (k' := 2) rfl (zk_istore_n X dX11_isSettled_1 rfl (by decide) rfl) ?_
  refine zz_cons (k' := 3) rfl (zk_iload_n X dX11_isSettled_2 rfl rfl) ?_
  refine zz_cons (k' := 4) rfl (zk_bipush X dX11_isSettled_3 (by decide) rfl) ?_
  refine zz_cons (k' := 5) rfl (zz_Ok_none _ _) ?_
  refine zz_cons (k' := 6) rfl (zk_icmp_ge X dX11_isSettled_5 (by decide) rfl) ?_
  refine zz_cons (k' := 7) rfl (zz_Ok_none _ _) ?_
  refine zz_cons (k' := 8) rfl (zz_Ok_none _ _) ?_
  refine zz_cons (k' := 9) rfl (zk_aload_n X dX11_isSettled_8 rfl rfl) ?_
  refine zz_cons (k' := 10) rfl (zk_iload_n X dX11_isSettled_9 rfl rfl) ?_
  refine zz_cons (k' := 11) rfl (zk_callv X (zz_Cv_of (List.forall_mem_cons.mpr ⟨⟨(RX_9, zzT9, 5), yX11_controllerAt, cX11_controllerAt, 2, (some (.object "ReconcilerHall$Controller")), 0, 0, rfl, kv_X11_185_9.1, (mm_X11_controllerAt Wd).1, by decide, by decide⟩, (fun _ h => absurd h List.not_mem_nil)⟩)) dX11_isSettled_10 rfl) ?_
  refine zz_cons (k' := 12) rfl (zz_Ok_none _ _) ?_
  refine zz_cons (k' := 13) rfl (zz_Ok_none _ _) ?_
  refine zz_cons (k' := 14) rfl (zk_astore_n X dX11_isSettled_13 rfl (by decide) rfl) ?_
  refine zz_cons (k' := 15) rfl (zk_aload_n X dX11_isSettled_14 rfl rfl) ?_
  refine zz_cons (k' := 16) rfl (zk_ifnull X dX11_isSettled_15 (by decide) rfl) ?_
  refine zz_cons (k' := 17) rfl (zz_Ok_none _ _) ?_
  refine zz_cons (k' := 18) rfl (zz_Ok_none _ _) ?_
  refine zz_cons (k' := 19) rfl (zk_aload_n X dX11_isSettled_18 rfl rfl) ?_
  refine zz_cons (k' := 20) rfl (zk_getf X ff_X11_207 dX11_isSettled_19 rfl) ?_
  refine zz_cons (k' := 21) rfl (zz_Ok_none _ _) ?_
  refine zz_cons (k' := 22) rfl (zz_Ok_none _ _) ?_
  refine zz_cons (k' := 23) rfl (zk_aload_n X dX11_isSettled_22 rfl rfl) ?_
  refine zz_cons (k' := 24) rfl (zk_getf X ff_X11_10 dX11_isSettled_23 rfl) ?_
  refine zz_cons (k' := 25) rfl (zz_Ok_none _ _) ?_
  refine zz_cons (k' := 26) rfl (zz_Ok_none _ _) ?_
  refine zz_cons (k' := 27) rfl (zk_getf X ff_X11_201 dX11_isSettled_26 rfl) ?_
  refine zz_cons (k' := 28) rfl (zz_Ok_none _ _) ?_
  refine zz_cons (k' := 29) rfl (zz_Ok_none _ _) ?_
  refine zz_cons (k' := 30) rfl (zk_icmp_ne X dX11_isSettled_29 (by decide) rfl) ?_
  refine zz_cons (k' := 31) rfl (zz_Ok_none _ _) ?_
  refine zz_cons (k' := 32) rfl (zz_Ok_none _ _) ?_
  refine zz_cons (k' := 33) rfl (zk_aload_n X dX11_isSettled_32 rfl rfl) ?_
  refine zz_cons (k' := 34) rfl (zk_getf X ff_X11_223 dX11_isSettled_33 rfl) ?_
  refine zz_cons (k' := 35) rfl (zz_Ok_none _ _) ?_
  refine zz_cons (k' := 36) rfl (zz_Ok_none _ _) ?_
  refine zz_cons (k' := 37) rfl (zk_if_le X dX11_isSettled_36 (by decide) rfl) ?_
  refine zz_cons (k' := 38) rfl (zz_Ok_none _ _) ?_
  refine zz_cons (k' := 39) rfl (zz_Ok_none _ _) ?_
  refine zz_cons (k' := 40) rfl (zk_iconst X dX11_isSettled_39 (by decide) rfl) ?_
  refine zz_cons (k' := 41) rfl (zk_iret X rfl dX11_isSettled_40) ?_
  refine zz_cons (k' := 42) rfl (zk_iinc X dX11_isSettled_41 (by decide) (by decide) rfl) ?_
  refine zz_cons (k' := 43) rfl (zz_Ok_none _ _) ?_
  refine zz_cons (k' := 44) rfl (zz_Ok_none _ _) ?_
  refine zz_cons (k' := 45) rfl (zk_goto X dX11_isSettled_44 (by decide)) ?_
  refine zz_cons (k' := 46) rfl (zz_Ok_none _ _) ?_
  refine zz_cons (k' := 47) rfl (zz_Ok_none _ _) ?_
  refine zz_cons (k' := 48) rfl (zk_iconst X dX11_isSettled_47 (by decide) rfl) ?_
  refine zz_cons (k' := 49) rfl (zk_iret X rfl dX11_isSettled_48) ?_
  exact trivial
noncomputable def tX11_isReader : List zzOp := [
  zo_iload 0 1,
  zo_if (fun x => decide (x < 0)) 13 4,
  zo_none,
  zo_none,
  zo_iload 0 5,
  zo_pushI 4 6,
  zo_icmp (fun x y => decide (y ≤ x)) 13 9,
  zo_none,
  zo_none,
  zo_pushI 1 10,
  zo_goto 14,
  zo_none,
  zo_none,
  zo_pushI 0 14,
  zo_iret true]
set_option maxRecDepth 100000 in
theorem tl_X11_isReader : ∀ pc, zz_Tl (tX11_isReader.getD pc zo_none) := by
  refine zz_Tl_mem ?_
  unfold tX11_isReader
  refine List.forall_mem_cons.mpr ⟨(zo_iload_tl _ _), ?_⟩
  refine List.forall_mem_cons.mpr ⟨(zo_if_tl _ _ _), ?_⟩
  refine List.forall_mem_cons.mpr ⟨zo_none_tl, ?_⟩
  refine List.forall_mem_cons.mpr ⟨zo_none_tl, ?_⟩
  refine List.forall_mem_cons.mpr ⟨(zo_iload_tl _ _), ?_⟩
  refine List.forall_mem_cons.mpr ⟨(zo_pushI_tl _ _), ?_⟩
  refine List.forall_mem_cons.mpr ⟨(zo_icmp_tl _ _ _), ?_⟩
  refine List.forall_mem_cons.mpr ⟨zo_none_tl, ?_⟩
  refine List.forall_mem_cons.mpr ⟨zo_none_tl, ?_⟩
  refine List.forall_mem_cons.mpr ⟨(zo_pushI_tl _ _), ?_⟩
  refine List.forall_mem_cons.mpr ⟨(zo_goto_tl _), ?_⟩
  refine List.forall_mem_cons.mpr ⟨zo_none_tl, ?_⟩
  refine List.forall_mem_cons.mpr ⟨zo_none_tl, ?_⟩
  refine List.forall_mem_cons.mpr ⟨(zo_pushI_tl _ _), ?_⟩
  refine List.forall_mem_cons.mpr ⟨(zo_iret_tl _), ?_⟩
  exact fun _ h => absurd h List.not_mem_nil
noncomputable def fX11_isReader : zzFn := zz_fn tX11_isReader 1
set_option maxRecDepth 100000 in
set_option maxHeartbeats 4000000 in
theorem mm_X11_isReader {l : Launch} {D : va_G} {cA : Nat → ClassId} {ad : Nat → Nat} {Ex : (Nat → Prop) → State → Heap → Prop} (Wd : zzWC l D cA ad Ex) : zz_Cn l D zzCl cA ad zzSC Ex yX11_isReader cX11_isReader 1 (some .boolean) 0 0 fX11_isReader ∧ zz_Cx l D zzCl cA ad zzSC Ex yX11_isReader cX11_isReader 1 (some .boolean) 0 0 fX11_isReader := by
  refine zz_meth (plainFor_of_name (by decide)) Wd.1 Wd.2.1 Wd.2.2.1 (fun p e R s m args below meth c rr X => ?_)
  unfold tX11_isReader
  refine zz_cons (k' := 1) rfl (zk_iload_n X dX11_isReader_0 rfl rfl) ?_
  refine zz_cons (k' := 2) rfl (zk_if_lt X dX11_isReader_1 (by decide) rfl) ?_
  refine zz_cons (k' := 3) rfl (zz_Ok_none _ _) ?_
  refine zz_cons (k' := 4) rfl (zz_Ok_none _ _) ?_
  refine zz_cons (k' := 5) rfl (zk_iload_n X dX11_isReader_4 rfl rfl) ?_
  refine zz_cons (k' := 6) rfl (zk_iconst X dX11_isReader_5 (by decide) rfl) ?_
  refine zz_cons (k' := 7) rfl (zk_icmp_ge X dX11_isReader_6 (by decide) rfl) ?_
  refine zz_cons (k' := 8) rfl (zz_Ok_none _ _) ?_
  refine zz_cons (k' := 9) rfl (zz_Ok_none _ _) ?_
  refine zz_cons (k' := 10) rfl (zk_iconst X dX11_isReader_9 (by decide) rfl) ?_
  refine zz_cons (k' := 11) rfl (zk_goto X dX11_isReader_10 (by decide)) ?_
  refine zz_cons (k' := 12) rfl (zz_Ok_none _ _) ?_
  refine zz_cons (k' := 13) rfl (zz_Ok_none _ _) ?_
  refine zz_cons (k' := 14) rfl (zk_iconst X dX11_isReader_13 (by decide) rfl) ?_
  refine zz_cons (k' := 15) rfl (zk_iret X rfl dX11_isReader_14) ?_
  exact trivial
noncomputable def tX11_watch : List zzOp := [
  zo_iload 1 1,
  zo_calls fX11_isReader 1 4,
  zo_none,
  zo_none,
  zo_if (fun x => decide (x = 0)) 22 7,
  zo_none,
  zo_none,
  zo_iload 2 8,
  zo_if (fun x => decide (x < 0)) 22 11,
  zo_none,
  zo_none,
  zo_iload 2 12,
  zo_aload 0 13,
  zo_getf zzSC (zz_kf [9] 0) 16,
  zo_none,
  zo_none,
  zo_getf zzSC (zz_kf [8] 3) 19,
  zo_none,
  zo_none,
  zo_icmp (fun x y => decide (x ≤ y)) 32 22,
  zo_none,
  zo_none,
  zo_throw 0,
  zo_none,
  zo_none,
  zo_none,
  zo_none,
  zo_none,
  zo_none,
  zo_none,
  zo_none,
  zo_none,
  zo_iload 2 33,
  zo_aload 0 34,
  zo_getf zzSC (zz_kf [9] 0) 37,
  zo_none,
  zo_none,
  zo_getf zzSC (zz_kf [8] 8) 40,
  zo_none,
  zo_none,
  zo_icmp (fun x y => decide (y ≤ x)) 53 43,
  zo_none,
  zo_none,
  zo_throw 1,
  zo_none,
  zo_none,
  zo_none,
  zo_none,
  zo_none,
  zo_none,
  zo_none,
  zo_none,
  zo_none,
  zo_aload 0 54,
  zo_getf zzSC (zz_kf [9] 2) 57,
  zo_none,
  zo_none,
  zo_iload 1 58,
  zo_iload 2 59,
  zo_iast zzSC 60,
  zo_aload 0 61,
  zo_getf zzSC (zz_kf [9] 0) 64,
  zo_none,
  zo_none,
  zo_getf zzSC (zz_kf [8] 3) 67,
  zo_none,
  zo_none,
  zo_iload 2 68,
  zo_ii (fun x y => x - y) 69,
  zo_iret false]
set_option maxRecDepth 100000 in
theorem tl_X11_watch : ∀ pc, zz_Tl (tX11_watch.getD pc zo_none) := by
  refine zz_Tl_mem ?_
  unfold tX11_watch
  refine List.forall_mem_cons.mpr ⟨(zo_iload_tl _ _), ?_⟩
  refine List.forall_mem_cons.mpr ⟨(zo_calls_tl _ _ _), ?_⟩
  refine List.forall_mem_cons.mpr ⟨zo_none_tl, ?_⟩
  refine List.forall_mem_cons.mpr ⟨zo_none_tl, ?_⟩
  refine List.forall_mem_cons.mpr ⟨(zo_if_tl _ _ _), ?_⟩
  refine List.forall_mem_cons.mpr ⟨zo_none_tl, ?_⟩
  refine List.forall_mem_cons.mpr ⟨zo_none_tl, ?_⟩
  refine List.forall_mem_cons.mpr ⟨(zo_iload_tl _ _), ?_⟩
  refine List.forall_mem_cons.mpr ⟨(zo_if_tl _ _ _), ?_⟩
  refine List.forall_mem_cons.mpr ⟨zo_none_tl, ?_⟩
  refine List.forall_mem_cons.mpr ⟨zo_none_tl, ?_⟩
  refine List.forall_mem_cons.mpr ⟨(zo_iload_tl _ _), ?_⟩
  refine List.forall_mem_cons.mpr ⟨(zo_aload_tl _ _), ?_⟩
  refine List.forall_mem_cons.mpr ⟨(zo_getf_tl _ _ _), ?_⟩
  refine List.forall_mem_cons.mpr ⟨zo_none_tl, ?_⟩
  refine List.forall_mem_cons.mpr ⟨zo_none_tl, ?_⟩
  refine List.forall_mem_cons.mpr ⟨(zo_getf_tl _ _ _), ?_⟩
  refine List.forall_mem_cons.mpr ⟨zo_none_tl, ?_⟩
  refine List.forall_mem_cons.mpr ⟨zo_none_tl, ?_⟩
  refine List.forall_mem_cons.mpr ⟨(zo_icmp_tl _ _ _), ?_⟩
  refine List.forall_mem_cons.mpr ⟨zo_none_tl, ?_⟩
  refine List.forall_mem_cons.mpr ⟨zo_none_tl, ?_⟩
  refine List.forall_mem_cons.mpr ⟨(zo_throw_tl _), ?_⟩
  refine List.forall_mem_cons.mpr ⟨zo_none_tl, ?_⟩
  refine List.forall_mem_cons.mpr ⟨zo_none_tl, ?_⟩
  refine List.forall_mem_cons.mpr ⟨zo_none_tl, ?_⟩
  refine List.forall_mem_cons.mpr ⟨zo_none_tl, ?_⟩
  refine List.forall_mem_cons.mpr ⟨zo_none_tl, ?_⟩
  refine List.forall_mem_cons.mpr ⟨zo_none_tl, ?_⟩
  refine List.forall_mem_cons.mpr ⟨zo_none_tl, ?_⟩
  refine List.forall_mem_cons.mpr ⟨zo_none_tl, ?_⟩
  refine List.forall_mem_cons.mpr ⟨zo_none_tl, ?_⟩
  refine List.forall_mem_cons.mpr ⟨(zo_iload_tl _ _), ?_⟩
  refine List.forall_mem_cons.mpr ⟨(zo_aload_tl _ _), ?_⟩
  refine List.forall_mem_cons.mpr ⟨(zo_getf_tl _ _ _), ?_⟩
  refine List.forall_mem_cons.mpr ⟨zo_none_tl, ?_⟩
  refine List.forall_mem_cons.mpr ⟨zo_none_tl, ?_⟩
  refine List.forall_mem_cons.mpr ⟨(zo_getf_tl _ _ _), ?_⟩
  refine List.forall_mem_cons.mpr ⟨zo_none_tl, ?_⟩
  refine List.forall_mem_cons.mpr ⟨zo_none_tl, ?_⟩
  refine List.forall_mem_cons.mpr ⟨(zo_icmp_tl _ _ _), ?_⟩
  refine List.forall_mem_cons.mpr ⟨zo_none_tl, ?_⟩
  refine List.forall_mem_cons.mpr ⟨zo_none_tl, ?_⟩
  refine List.forall_mem_cons.mpr ⟨(zo_throw_tl _), ?_⟩
  refine List.forall_mem_cons.mpr ⟨zo_none_tl, ?_⟩
  refine List.forall_mem_cons.mpr ⟨zo_none_tl, ?_⟩
  refine List.forall_mem_cons.mpr ⟨zo_none_tl, ?_⟩
  refine List.forall_mem_cons.mpr ⟨zo_none_tl, ?_⟩
  refine List.forall_mem_cons.mpr ⟨zo_none_tl, ?_⟩
  refine List.forall_mem_cons.mpr ⟨zo_none_tl, ?_⟩
  refine List.forall_mem_cons.mpr ⟨zo_none_tl, ?_⟩
  refine List.forall_mem_cons.mpr ⟨zo_none_tl, ?_⟩
  refine List.forall_mem_cons.mpr ⟨zo_none_tl, ?_⟩
  refine List.forall_mem_cons.mpr ⟨(zo_aload_tl _ _), ?_⟩
  refine List.forall_mem_cons.mpr ⟨(zo_getf_tl _ _ _), ?_⟩
  refine List.forall_mem_cons.mpr ⟨zo_none_tl, ?_⟩
  refine List.forall_mem_cons.mpr ⟨zo_none_tl, ?_⟩
  refine List.forall_mem_cons.mpr ⟨(zo_iload_tl _ _), ?_⟩
  refine List.forall_mem_cons.mpr ⟨(zo_iload_tl _ _), ?_⟩
  refine List.forall_mem_cons.mpr ⟨(zo_iast_tl _ _), ?_⟩
  refine List.forall_mem_cons.mpr ⟨(zo_aload_tl _ _), ?_⟩
  refine List.forall_mem_cons.mpr ⟨(zo_getf_tl _ _ _), ?_⟩
  refine List.forall_mem_cons.mpr ⟨zo_none_tl, ?_⟩
  refine List.forall_mem_cons.mpr ⟨zo_none_tl, ?_⟩
  refine List.forall_mem_cons.mpr ⟨(zo_getf_tl _ _ _), ?_⟩
  refine List.forall_mem_cons.mpr ⟨zo_none_tl, ?_⟩
  refine List.forall_mem_cons.mpr ⟨zo_none_tl, ?_⟩
  refine List.forall_mem_cons.mpr ⟨(zo_iload_tl _ _), ?_⟩
  refine List.forall_mem_cons.mpr ⟨(zo_ii_tl _ _), ?_⟩
  refine List.forall_mem_cons.mpr ⟨(zo_iret_tl _), ?_⟩
  exact fun _ h => absurd h List.not_mem_nil
noncomputable def fX11_watch : zzFn := zz_fn tX11_watch 3
set_option maxRecDepth 100000 in
set_option maxHeartbeats 4000000 in
theorem mm_X11_watch {l : Launch} {D : va_G} {cA : Nat → ClassId} {ad : Nat → Nat} {Ex : (Nat → Prop) → State → Heap → Prop} (Wd : zzWC l D cA ad Ex) : zz_Cn l D zzCl cA ad zzSC Ex yX11_watch cX11_watch 3 (some .int) 6 82 fX11_watch ∧ zz_Cx l D zzCl cA ad zzSC Ex yX11_watch cX11_watch 3 (some .int) 6 82 fX11_watch := by
  refine zz_meth (plainFor_of_name (by decide)) Wd.1 Wd.2.1 Wd.2.2.1 (fun p e R s m args below meth c rr X => ?_)
  unfold tX11_watch
  refine zz_cons (k' := 1) rfl (zk_iload_n X dX11_watch_0 rfl rfl) ?_
  refine zz_cons (k' := 2) rfl (zk_calls X ks_X11_226 (mm_X11_isReader Wd).1 (by decide) dX11_watch_1 rfl) ?_
  refine zz_cons (k' := 3) rfl (zz_Ok_none _ _) ?_
  refine zz_cons (k' := 4) rfl (zz_Ok_none _ _) ?_
  refine zz_cons (k' := 5) rfl (zk_if_eq X dX11_watch_4 (by decide) rfl) ?_
  refine zz_cons (k' := 6) rfl (zz_Ok_none _ _) ?_
  refine zz_cons (k' := 7) rfl (zz_Ok_none _ _) ?_
  refine zz_cons (k' := 8) rfl (zk_iload_n X dX11_watch_7 rfl rfl) ?_
  refine zz_cons (k' := 9) rfl (zk_if_lt X dX11_watch_8 (by decide) rfl) ?_
  refine zz_cons (k' := 10) rfl (zz_Ok_none _ _) ?_
  refine zz_cons (k' := 11) rfl (zz_Ok_none _ _) ?_
  refine zz_cons (k' := 12) rfl (zk_iload_n X dX11_watch_11 rfl rfl) ?_
  refine zz_cons (k' := 13) rfl (zk_aload_n X dX11_watch_12 rfl rfl) ?_
  refine zz_cons (k' := 14) rfl (zk_getf X ff_X11_10 dX11_watch_13 rfl) ?_
  refine zz_cons (k' := 15) rfl (zz_Ok_none _ _) ?_
  refine zz_cons (k' := 16) rfl (zz_Ok_none _ _) ?_
  refine zz_cons (k' := 17) rfl (zk_getf X ff_X11_201 dX11_watch_16 rfl) ?_
  refine zz_cons (k' := 18) rfl (zz_Ok_none _ _) ?_
  refine zz_cons (k' := 19) rfl (zz_Ok_none _ _) ?_
  refine zz_cons (k' := 20) rfl (zk_icmp_le X dX11_watch_19 (by decide) rfl) ?_
  refine zz_cons (k' := 21) rfl (zz_Ok_none _ _) ?_
  refine zz_cons (k' := 22) rfl (zz_Ok_none _ _) ?_
  refine zz_cons (k' := 23) rfl (zk_throw X (th_X11_61_229 Wd) (by decide) dX11_watch_22 dX11_watch_25 dX11_watch_26 dX11_watch_28 dX11_watch_31) ?_
  refine zz_cons (k' := 24) rfl (zz_Ok_none _ _) ?_
  refine zz_cons (k' := 25) rfl (zz_Ok_none _ _) ?_
  refine zz_cons (k' := 26) rfl (zz_Ok_none _ _) ?_
  refine zz_cons (k' := 27) rfl (zz_Ok_none _ _) ?_
  refine zz_cons (k' := 28) rfl (zz_Ok_none _ _) ?_
  refine zz_cons (k' := 29) rfl (zz_Ok_none _ _) ?_
  refine zz_cons (k' := 30) rfl (zz_Ok_none _ _) ?_
  refine zz_cons (k' := 31) rfl (zz_Ok_none _ _) ?_
  refine zz_cons (k' := 32) rfl (zz_Ok_none _ _) ?_
  refine zz_cons (k' := 33) rfl (zk_iload_n X dX11_watch_32 rfl rfl) ?_
  refine zz_cons (k' := 34) rfl (zk_aload_n X dX11_watch_33 rfl rfl) ?_
  refine zz_cons (k' := 35) rfl (zk_getf X ff_X11_10 dX11_watch_34 rfl) ?_
  refine zz_cons (k' := 36) rfl (zz_Ok_none _ _) ?_
  refine zz_cons (k' := 37) rfl (zz_Ok_none _ _) ?_
  refine zz_cons (k' := 38) rfl (zk_getf X ff_X11_231 dX11_watch_37 rfl) ?_
  refine zz_cons (k' := 39) rfl (zz_Ok_none _ _) ?_
  refine zz_cons (k' := 40) rfl (zz_Ok_none _ _) ?_
  refine zz_cons (k' := 41) rfl (zk_icmp_ge X dX11_watch_40 (by decide) rfl) ?_
  refine zz_cons (k' := 42) rfl (zz_Ok_none _ _) ?_
  refine zz_cons (k' := 43) rfl (zz_Ok_none _ _) ?_
  refine zz_cons (k' := 44) rfl (zk_throw X (th_X11_75_234 Wd) (by decide) dX11_watch_43 dX11_watch_46 dX11_watch_47 dX11_watch_49 dX11_watch_52) ?_
  refine zz_cons (k' := 45) rfl (zz_Ok_none _ _) ?_
  refine zz_cons (k' := 46) rfl (zz_Ok_none _ _) ?_
  refine zz_cons (k' := 47) rfl (zz_Ok_none _ _) ?_
  refine zz_cons (k' := 48) rfl (zz_Ok_none _ _) ?_
  refine zz_cons (k' := 49) rfl (zz_Ok_none _ _) ?_
  refine zz_cons (k' := 50) rfl (zz_Ok_none _ _) ?_
  refine zz_cons (k' := 51) rfl (zz_Ok_none _ _) ?_
  refine zz_cons (k' := 52) rfl (zz_Ok_none _ _) ?_
  refine zz_cons (k' := 53) rfl (zz_Ok_none _ _) ?_
  refine zz_cons (k' := 54) rfl (zk_aload_n X dX11_watch_53 rfl rfl) ?_
  refine zz_cons (k' := 55) rfl (zk_getf X ff_X11_47 dX11_watch_54 rfl) ?_
  refine zz_cons (k' := 56) rfl (zz_Ok_none _ _) ?_
  refine zz_cons (k' := 57) rfl (zz_Ok_none _ _) ?_
  refine zz_cons (k' := 58) rfl (zk_iload_n X dX11_watch_57 rfl rfl) ?_
  refine zz_cons (k' := 59) rfl (zk_iload_n X dX11_watch_58 rfl rfl) ?_
  refine zz_cons (k' := 60) rfl (zk_iast X dX11_watch_59 rfl) ?_
  refine zz_cons (k' := 61) rfl (zk_aload_n X dX11_watch_60 rfl rfl) ?_
  refine zz_cons (k' := 62) rfl (zk_getf X ff_X11_10 dX11_watch_61 rfl) ?_
  refine zz_cons (k' := 63) rfl (zz_Ok_none _ _) ?_
  refine zz_cons (k' := 64) rfl (zz_Ok_none _ _) ?_
  refine zz_cons (k' := 65) rfl (zk_getf X ff_X11_201 dX11_watch_64 rfl) ?_
  refine zz_cons (k' := 66) rfl (zz_Ok_none _ _) ?_
  refine zz_cons (k' := 67) rfl (zz_Ok_none _ _) ?_
  refine zz_cons (k' := 68) rfl (zk_iload_n X dX11_watch_67 rfl rfl) ?_
  refine zz_cons (k' := 69) rfl (zk_isub X dX11_watch_68 rfl) ?_
  refine zz_cons (k' := 70) rfl (zk_iret X rfl dX11_watch_69) ?_
  exact trivial
noncomputable def tX11_next : List zzOp := [
  zo_iload 1 1,
  zo_calls fX11_isReader 1 4,
  zo_none,
  zo_none,
  zo_if (fun x => decide (¬ x = 0)) 17 7,
  zo_none,
  zo_none,
  zo_throw 0,
  zo_none,
  zo_none,
  zo_none,
  zo_none,
  zo_none,
  zo_none,
  zo_none,
  zo_none,
  zo_none,
  zo_aload 0 18,
  zo_getf zzSC (zz_kf [9] 2) 21,
  zo_none,
  zo_none,
  zo_iload 1 22,
  zo_iald zzSC zzSTC 23,
  zo_aload 0 24,
  zo_getf zzSC (zz_kf [9] 0) 27,
  zo_none,
  zo_none,
  zo_getf zzSC (zz_kf [8] 3) 30,
  zo_none,
  zo_none,
  zo_icmp (fun x y => decide (x < y)) 35 33,
  zo_none,
  zo_none,
  zo_pushI (-1) 34,
  zo_iret false,
  zo_aload 0 36,
  zo_getf zzSC (zz_kf [9] 2) 39,
  zo_none,
  zo_none,
  zo_iload 1 40,
  zo_iald zzSC zzSTC 41,
  zo_aload 0 42,
  zo_getf zzSC (zz_kf [9] 0) 45,
  zo_none,
  zo_none,
  zo_getf zzSC (zz_kf [8] 8) 48,
  zo_none,
  zo_none,
  zo_icmp (fun x y => decide (y ≤ x)) 61 51,
  zo_none,
  zo_none,
  zo_throw 1,
  zo_none,
  zo_none,
  zo_none,
  zo_none,
  zo_none,
  zo_none,
  zo_none,
  zo_none,
  zo_none,
  zo_aload 0 62,
  zo_getf zzSC (zz_kf [9] 2) 65,
  zo_none,
  zo_none,
  zo_iload 1 66,
  zo_dup2 67,
  zo_iald zzSC zzSTC 68,
  zo_pushI 1 69,
  zo_ii (fun x y => x + y) 70,
  zo_iast zzSC 71,
  zo_aload 0 72,
  zo_getf zzSC (zz_kf [9] 0) 75,
  zo_none,
  zo_none,
  zo_aload 0 76,
  zo_getf zzSC (zz_kf [9] 2) 79,
  zo_none,
  zo_none,
  zo_iload 1 80,
  zo_iald zzSC zzSTC 81,
  zo_callv zzSC (zz_cl [(8, fX10_objectAt)]) 1 84,
  zo_none,
  zo_none,
  zo_iret false]
set_option maxRecDepth 100000 in
theorem tl_X11_next : ∀ pc, zz_Tl (tX11_next.getD pc zo_none) := by
  refine zz_Tl_mem ?_
  unfold tX11_next
  refine List.forall_mem_cons.mpr ⟨(zo_iload_tl _ _), ?_⟩
  refine List.forall_mem_cons.mpr ⟨(zo_calls_tl _ _ _), ?_⟩
  refine List.forall_mem_cons.mpr ⟨zo_none_tl, ?_⟩
  refine List.forall_mem_cons.mpr ⟨zo_none_tl, ?_⟩
  refine List.forall_mem_cons.mpr ⟨(zo_if_tl _ _ _), ?_⟩
  refine List.forall_mem_cons.mpr ⟨zo_none_tl, ?_⟩
  refine List.forall_mem_cons.mpr ⟨zo_none_tl, ?_⟩
  refine List.forall_mem_cons.mpr ⟨(zo_throw_tl _), ?_⟩
  refine List.forall_mem_cons.mpr ⟨zo_none_tl, ?_⟩
  refine List.forall_mem_cons.mpr ⟨zo_none_tl, ?_⟩
  refine List.forall_mem_cons.mpr ⟨zo_none_tl, ?_⟩
  refine List.forall_mem_cons.mpr ⟨zo_none_tl, ?_⟩
  refine List.forall_mem_cons.mpr ⟨zo_none_tl, ?_⟩
  refine List.forall_mem_cons.mpr ⟨zo_none_tl, ?_⟩
  refine List.forall_mem_cons.mpr ⟨zo_none_tl, ?_⟩
  refine List.forall_mem_cons.mpr ⟨zo_none_tl, ?_⟩
  refine List.forall_mem_cons.mpr ⟨zo_none_tl, ?_⟩
  refine List.forall_mem_cons.mpr ⟨(zo_aload_tl _ _), ?_⟩
  refine List.forall_mem_cons.mpr ⟨(zo_getf_tl _ _ _), ?_⟩
  refine List.forall_mem_cons.mpr ⟨zo_none_tl, ?_⟩
  refine List.forall_mem_cons.mpr ⟨zo_none_tl, ?_⟩
  refine List.forall_mem_cons.mpr ⟨(zo_iload_tl _ _), ?_⟩
  refine List.forall_mem_cons.mpr ⟨(zo_iald_tl _ _ _), ?_⟩
  refine List.forall_mem_cons.mpr ⟨(zo_aload_tl _ _), ?_⟩
  refine List.forall_mem_cons.mpr ⟨(zo_getf_tl _ _ _), ?_⟩
  refine List.forall_mem_cons.mpr ⟨zo_none_tl, ?_⟩
  refine List.forall_mem_cons.mpr ⟨zo_none_tl, ?_⟩
  refine List.forall_mem_cons.mpr ⟨(zo_getf_tl _ _ _), ?_⟩
  refine List.forall_mem_cons.mpr ⟨zo_none_tl, ?_⟩
  refine List.forall_mem_cons.mpr ⟨zo_none_tl, ?_⟩
  refine List.forall_mem_cons.mpr ⟨(zo_icmp_tl _ _ _), ?_⟩
  refine List.forall_mem_cons.mpr ⟨zo_none_tl, ?_⟩
  refine List.forall_mem_cons.mpr ⟨zo_none_tl, ?_⟩
  refine List.forall_mem_cons.mpr ⟨(zo_pushI_tl _ _), ?_⟩
  refine List.forall_mem_cons.mpr ⟨(zo_iret_tl _), ?_⟩
  refine List.forall_mem_cons.mpr ⟨(zo_aload_tl _ _), ?_⟩
  refine List.forall_mem_cons.mpr ⟨(zo_getf_tl _ _ _), ?_⟩
  refine List.forall_mem_cons.mpr ⟨zo_none_tl, ?_⟩
  refine List.forall_mem_cons.mpr ⟨zo_none_tl, ?_⟩
  refine List.forall_mem_cons.mpr ⟨(zo_iload_tl _ _), ?_⟩
  refine List.forall_mem_cons.mpr ⟨(zo_iald_tl _ _ _), ?_⟩
  refine List.forall_mem_cons.mpr ⟨(zo_aload_tl _ _), ?_⟩
  refine List.forall_mem_cons.mpr ⟨(zo_getf_tl _ _ _), ?_⟩
  refine List.forall_mem_cons.mpr ⟨zo_none_tl, ?_⟩
  refine List.forall_mem_cons.mpr ⟨zo_none_tl, ?_⟩
  refine List.forall_mem_cons.mpr ⟨(zo_getf_tl _ _ _), ?_⟩
  refine List.forall_mem_cons.mpr ⟨zo_none_tl, ?_⟩
  refine List.forall_mem_cons.mpr ⟨zo_none_tl, ?_⟩
  refine List.forall_mem_cons.mpr ⟨(zo_icmp_tl _ _ _), ?_⟩
  refine List.forall_mem_cons.mpr ⟨zo_none_tl, ?_⟩
  refine List.forall_mem_cons.mpr ⟨zo_none_tl, ?_⟩
  refine List.forall_mem_cons.mpr ⟨(zo_throw_tl _), ?_⟩
  refine List.forall_mem_cons.mpr ⟨zo_none_tl, ?_⟩
  refine List.forall_mem_cons.mpr ⟨zo_none_tl, ?_⟩
  refine List.forall_mem_cons.mpr ⟨zo_none_tl, ?_⟩
  refine List.forall_mem_cons.mpr ⟨zo_none_tl, ?_⟩
  refine List.forall_mem_cons.mpr ⟨zo_none_tl, ?_⟩
  refine List.forall_mem_cons.mpr ⟨zo_none_tl, ?_⟩
  refine List.forall_mem_cons.mpr ⟨zo_none_tl, ?_⟩
  refine List.forall_mem_cons.mpr ⟨zo_none_tl, ?_⟩
  refine List.forall_mem_cons.mpr ⟨zo_none_tl, ?_⟩
  refine List.forall_mem_cons.mpr ⟨(zo_aload_tl _ _), ?_⟩
  refine List.forall_mem_cons.mpr ⟨(zo_getf_tl _ _ _), ?_⟩
  refine List.forall_mem_cons.mpr ⟨zo_none_tl, ?_⟩
  refine List.forall_mem_cons.mpr ⟨zo_none_tl, ?_⟩
  refine List.forall_mem_cons.mpr ⟨(zo_iload_tl _ _), ?_⟩
  refine List.forall_mem_cons.mpr ⟨(zo_dup2_tl _), ?_⟩
  refine List.forall_mem_cons.mpr ⟨(zo_iald_tl _ _ _), ?_⟩
  refine List.forall_mem_cons.mpr ⟨(zo_pushI_tl _ _), ?_⟩
  refine List.forall_mem_cons.mpr ⟨(zo_ii_tl _ _), ?_⟩
  refine List.forall_mem_cons.mpr ⟨(zo_iast_tl _ _), ?_⟩
  refine List.forall_mem_cons.mpr ⟨(zo_aload_tl _ _), ?_⟩
  refine List.forall_mem_cons.mpr ⟨(zo_getf_tl _ _ _), ?_⟩
  refine List.forall_mem_cons.mpr ⟨zo_none_tl, ?_⟩
  refine List.forall_mem_cons.mpr ⟨zo_none_tl, ?_⟩
  refine List.forall_mem_cons.mpr ⟨(zo_aload_tl _ _), ?_⟩
  refine List.forall_mem_cons.mpr ⟨(zo_getf_tl _ _ _), ?_⟩
  refine List.forall_mem_cons.mpr ⟨zo_none_tl, ?_⟩
  refine List.forall_mem_cons.mpr ⟨zo_none_tl, ?_⟩
  refine List.forall_mem_cons.mpr ⟨(zo_iload_tl _ _), ?_⟩
  refine List.forall_mem_cons.mpr ⟨(zo_iald_tl _ _ _), ?_⟩
  refine List.forall_mem_cons.mpr ⟨(zo_callv_tl _ _ _ _), ?_⟩
  refine List.forall_mem_cons.mpr ⟨zo_none_tl, ?_⟩
  refine List.forall_mem_cons.mpr ⟨zo_none_tl, ?_⟩
  refine List.forall_mem_cons.mpr ⟨(zo_iret_tl _), ?_⟩
  exact fun _ h => absurd h List.not_mem_nil
noncomputable def fX11_next : zzFn := zz_fn tX11_next 2
set_option maxRecDepth 100000 in
set_option maxHeartbeats 4000000 in
theorem mm_X11_next {l : Launch} {D : va_G} {cA : Nat → ClassId} {ad : Nat → Nat} {Ex : (Nat → Prop) → State → Heap → Prop} (Wd : zzWC l D cA ad Ex) : zz_Cn l D zzCl cA ad zzSC Ex yX11_next cX11_next 2 (some .int) 6 82 fX11_next ∧ zz_Cx l D zzCl cA ad zzSC Ex yX11_next cX11_next 2 (some .int) 6 82 fX11_next := by
  refine zz_meth (plainFor_of_name (by decide)) Wd.1 Wd.2.1 Wd.2.2.1 (fun p e R s m args below meth c rr X => ?_)
  unfold tX11_next
  refine zz_cons (k' := 1) rfl (zk_iload_n X dX11_next_0 rfl rfl) ?_
  refine zz_cons (k' := 2) rfl (zk_calls X ks_X11_226 (mm_X11_isReader Wd).1 (by decide) dX11_next_1 rfl) ?_
  refine zz_cons (k' := 3) rfl (zz_Ok_none _ _) ?_
  refine zz_cons (k' := 4) rfl (zz_Ok_none _ _) ?_
  refine zz_cons (k' := 5) rfl (zk_if_ne X dX11_next_4 (by decide) rfl) ?_
  refine zz_cons (k' := 6) rfl (zz_Ok_none _ _) ?_
  refine zz_cons (k' := 7) rfl (zz_Ok_none _ _) ?_
  refine zz_cons (k' := 8) rfl (zk_throw X (th_X11_61_236 Wd) (by decide) dX11_next_7 dX11_next_10 dX11_next_11 dX11_next_13 dX11_next_16) ?_
  refine zz_cons (k' := 9) rfl (zz_Ok_none _ _) ?_
  refine zz_cons (k' := 10) rfl (zz_Ok_none _ _) ?_
  refine zz_cons (k' := 11) rfl (zz_Ok_none _ _) ?_
  refine zz_cons (k' := 12) rfl (zz_Ok_none _ _) ?_
  refine zz_cons (k' := 13) rfl (zz_Ok_none _ _) ?_
  refine zz_cons (k' := 14) rfl (zz_Ok_none _ _) ?_
  refine zz_cons (k' := 15) rfl (zz_Ok_none _ _) ?_
  refine zz_cons (k' := 16) rfl (zz_Ok_none _ _) ?_
  refine zz_cons (k' := 17) rfl (zz_Ok_none _ _) ?_
  refine zz_cons (k' := 18) rfl (zk_aload_n X dX11_next_17 rfl rfl) ?_
  refine zz_cons (k' := 19) rfl (zk_getf X ff_X11_47 dX11_next_18 rfl) ?_
  refine zz_cons (k' := 20) rfl (zz_Ok_none _ _) ?_
  refine zz_cons (k' := 21) rfl (zz_Ok_none _ _) ?_
  refine zz_cons (k' := 22) rfl (zk_iload_n X dX11_next_21 rfl rfl) ?_
  refine zz_cons (k' := 23) rfl (zk_iald X (zzWC_st Wd) dX11_next_22 rfl) ?_
  refine zz_cons (k' := 24) rfl (zk_aload_n X dX11_next_23 rfl rfl) ?_
  refine zz_cons (k' := 25) rfl (zk_getf X ff_X11_10 dX11_next_24 rfl) ?_
  refine zz_cons (k' := 26) rfl (zz_Ok_none _ _) ?_
  refine zz_cons (k' := 27) rfl (zz_Ok_none _ _) ?_
  refine zz_cons (k' := 28) rfl (zk_getf X ff_X11_201 dX11_next_27 rfl) ?_
  refine zz_cons (k' := 29) rfl (zz_Ok_none _ _) ?_
  refine zz_cons (k' := 30) rfl (zz_Ok_none _ _) ?_
  refine zz_cons (k' := 31) rfl (zk_icmp_lt X dX11_next_30 (by decide) rfl) ?_
  refine zz_cons (k' := 32) rfl (zz_Ok_none _ _) ?_
  refine zz_cons (k' := 33) rfl (zz_Ok_none _ _) ?_
  refine zz_cons (k' := 34) rfl (zk_iconst X dX11_next_33 (by decide) rfl) ?_
  refine zz_cons (k' := 35) rfl (zk_iret X rfl dX11_next_34) ?_
  refine zz_cons (k' := 36) rfl (zk_aload_n X dX11_next_35 rfl rfl) ?_
  refine zz_cons (k' := 37) rfl (zk_getf X ff_X11_47 dX11_next_36 rfl) ?_
  refine zz_cons (k' := 38) rfl (zz_Ok_none _ _) ?_
  refine zz_cons (k' := 39) rfl (zz_Ok_none _ _) ?_
  refine zz_cons (k' := 40) rfl (zk_iload_n X dX11_next_39 rfl rfl) ?_
  refine zz_cons (k' := 41) rfl (zk_iald X (zzWC_st Wd) dX11_next_40 rfl) ?_
  refine zz_cons (k' := 42) rfl (zk_aload_n X dX11_next_41 rfl rfl) ?_
  refine zz_cons (k' := 43) rfl (zk_getf X ff_X11_10 dX11_next_42 rfl) ?_
  refine zz_cons (k' := 44) rfl (zz_Ok_none _ _) ?_
  refine zz_cons (k' := 45) rfl (zz_Ok_none _ _) ?_
  refine zz_cons (k' := 46) rfl (zk_getf X ff_X11_231 dX11_next_45 rfl) ?_
  refine zz_cons (k' := 47) rfl (zz_Ok_none _ _) ?_
  refine zz_cons (k' := 48) rfl (zz_Ok_none _ _) ?_
  refine zz_cons (k' := 49) rfl (zk_icmp_ge X dX11_next_48 (by decide) rfl) ?_
  refine zz_cons (k' := 50) rfl (zz_Ok_none _ _) ?_
  refine zz_cons (k' := 51) rfl (zz_Ok_none _ _) ?_
  refine zz_cons (k' := 52) rfl (zk_throw X (th_X11_75_238 Wd) (by decide) dX11_next_51 dX11_next_54 dX11_next_55 dX11_next_57 dX11_next_60) ?_
  refine zz_cons (k' := 53) rfl (zz_Ok_none _ _) ?_
  refine zz_cons (k' := 54) rfl (zz_Ok_none _ _) ?_
  refine zz_cons (k' := 55) rfl (zz_Ok_none _ _) ?_
  refine zz_cons (k' := 56) rfl (zz_Ok_none _ _) ?_
  refine zz_cons (k' := 57) rfl (zz_Ok_none _ _) ?_
  refine zz_cons (k' := 58) rfl (zz_Ok_none _ _) ?_
  refine zz_cons (k' := 59) rfl (zz_Ok_none _ _) ?_
  refine zz_cons (k' := 60) rfl (zz_Ok_none _ _) ?_
  refine zz_cons (k' := 61) rfl (zz_Ok_none _ _) ?_
  refine zz_cons (k' := 62) rfl (zk_aload_n X dX11_next_61 rfl rfl) ?_
  refine zz_cons (k' := 63) rfl (zk_getf X ff_X11_47 dX11_next_62 rfl) ?_
  refine zz_cons (k' := 64) rfl (zz_Ok_none _ _) ?_
  refine zz_cons (k' := 65) rfl (zz_Ok_none _ _) ?_
  refine zz_cons (k' := 66) rfl (zk_iload_n X dX11_next_65 rfl rfl) ?_
  refine zz_cons (k' := 67) rfl (zk_dup2 X dX11_next_66 rfl) ?_
  refine zz_cons (k' := 68) rfl (zk_iald X (zzWC_st Wd) dX11_next_67 rfl) ?_
  refine zz_cons (k' := 69) rfl (zk_iconst X dX11_next_68 (by decide) rfl) ?_
  refine zz_cons (k' := 70) rfl (zk_iadd X dX11_next_69 rfl) ?_
  refine zz_cons (k' := 71) rfl (zk_iast X dX11_next_70 rfl) ?_
  refine zz_cons (k' := 72) rfl (zk_aload_n X dX11_next_71 rfl rfl) ?_
  refine zz_cons (k' := 73) rfl (zk_getf X ff_X11_10 dX11_next_72 rfl) ?_
  refine zz_cons (k' := 74) rfl (zz_Ok_none _ _) ?_
  refine zz_cons (k' := 75) rfl (zz_Ok_none _ _) ?_
  refine zz_cons (k' := 76) rfl (zk_aload_n X dX11_next_75 rfl rfl) ?_
  refine zz_cons (k' := 77) rfl (zk_getf X ff_X11_47 dX11_next_76 rfl) ?_
  refine zz_cons (k' := 78) rfl (zz_Ok_none _ _) ?_
  refine zz_cons (k' := 79) rfl (zz_Ok_none _ _) ?_
  refine zz_cons (k' := 80) rfl (zk_iload_n X dX11_next_79 rfl rfl) ?_
  refine zz_cons (k' := 81) rfl (zk_iald X (zzWC_st Wd) dX11_next_80 rfl) ?_
  refine zz_cons (k' := 82) rfl (zk_callv X (zz_Cv_of (List.forall_mem_cons.mpr ⟨⟨(RX_8, zzT8, 9), yX10_objectAt, cX10_objectAt, 2, (some .int), 0, 0, rfl, kv_X11_240_8, (mm_X10_objectAt Wd).1, by decide, by decide⟩, (fun _ h => absurd h List.not_mem_nil)⟩)) dX11_next_81 rfl) ?_
  refine zz_cons (k' := 83) rfl (zz_Ok_none _ _) ?_
  refine zz_cons (k' := 84) rfl (zz_Ok_none _ _) ?_
  refine zz_cons (k' := 85) rfl (zk_iret X rfl dX11_next_84) ?_
  exact trivial
noncomputable def tX11_list : List zzOp := [
  zo_iload 1 1,
  zo_calls fX11_isReader 1 4,
  zo_none,
  zo_none,
  zo_if (fun x => decide (¬ x = 0)) 17 7,
  zo_none,
  zo_none,
  zo_throw 0,
  zo_none,
  zo_none,
  zo_none,
  zo_none,
  zo_none,
  zo_none,
  zo_none,
  zo_none,
  zo_none,
  zo_aload 0 18,
  zo_getf zzSC (zz_kf [9] 2) 21,
  zo_none,
  zo_none,
  zo_iload 1 22,
  zo_aload 0 23,
  zo_getf zzSC (zz_kf [9] 0) 26,
  zo_none,
  zo_none,
  zo_getf zzSC (zz_kf [8] 3) 29,
  zo_none,
  zo_none,
  zo_iast zzSC 30,
  zo_pushI 0 31,
  zo_istore 2 32,
  zo_pushI 0 33,
  zo_istore 3 34,
  zo_iload 3 35,
  zo_aload 0 36,
  zo_getf zzSC (zz_kf [9] 0) 39,
  zo_none,
  zo_none,
  zo_getf zzSC (zz_kf [8] 2) 42,
  zo_none,
  zo_none,
  zo_icmp (fun x y => decide (y ≤ x)) 70 45,
  zo_none,
  zo_none,
  zo_iload 2 46,
  zo_aload 0 47,
  zo_getf zzSC (zz_kf [9] 0) 50,
  zo_none,
  zo_none,
  zo_iload 3 51,
  zo_callv zzSC (zz_cl [(8, fX10_isGone)]) 1 54,
  zo_none,
  zo_none,
  zo_if (fun x => decide (x = 0)) 61 57,
  zo_none,
  zo_none,
  zo_pushI 0 58,
  zo_goto 62,
  zo_none,
  zo_none,
  zo_pushI 1 62,
  zo_ii (fun x y => x + y) 63,
  zo_istore 2 64,
  zo_iinc 3 1 67,
  zo_none,
  zo_none,
  zo_goto 34,
  zo_none,
  zo_none,
  zo_iload 2 71,
  zo_iret false]
set_option maxRecDepth 100000 in
theorem tl_X11_list : ∀ pc, zz_Tl (tX11_list.getD pc zo_none) := by
  refine zz_Tl_mem ?_
  unfold tX11_list
  refine List.forall_mem_cons.mpr ⟨(zo_iload_tl _ _), ?_⟩
  refine List.forall_mem_cons.mpr ⟨(zo_calls_tl _ _ _), ?_⟩
  refine List.forall_mem_cons.mpr ⟨zo_none_tl, ?_⟩
  refine List.forall_mem_cons.mpr ⟨zo_none_tl, ?_⟩
  refine List.forall_mem_cons.mpr ⟨(zo_if_tl _ _ _), ?_⟩
  refine List.forall_mem_cons.mpr ⟨zo_none_tl, ?_⟩
  refine List.forall_mem_cons.mpr ⟨zo_none_tl, ?_⟩
  refine List.forall_mem_cons.mpr ⟨(zo_throw_tl _), ?_⟩
  refine List.forall_mem_cons.mpr ⟨zo_none_tl, ?_⟩
  refine List.forall_mem_cons.mpr ⟨zo_none_tl, ?_⟩
  refine List.forall_mem_cons.mpr ⟨zo_none_tl, ?_⟩
  refine List.forall_mem_cons.mpr ⟨zo_none_tl, ?_⟩
  refine List.forall_mem_cons.mpr ⟨zo_none_tl, ?_⟩
  refine List.forall_mem_cons.mpr ⟨zo_none_tl, ?_⟩
  refine List.forall_mem_cons.mpr ⟨zo_none_tl, ?_⟩
  refine List.forall_mem_cons.mpr ⟨zo_none_tl, ?_⟩
  refine List.forall_mem_cons.mpr ⟨zo_none_tl, ?_⟩
  refine List.forall_mem_cons.mpr ⟨(zo_aload_tl _ _), ?_⟩
  refine List.forall_mem_cons.mpr ⟨(zo_getf_tl _ _ _), ?_⟩
  refine List.forall_mem_cons.mpr ⟨zo_none_tl, ?_⟩
  refine List.forall_mem_cons.mpr ⟨zo_none_tl, ?_⟩
  refine List.forall_mem_cons.mpr ⟨(zo_iload_tl _ _), ?_⟩
  refine List.forall_mem_cons.mpr ⟨(zo_aload_tl _ _), ?_⟩
  refine List.forall_mem_cons.mpr ⟨(zo_getf_tl _ _ _), ?_⟩
  refine List.forall_mem_cons.mpr ⟨zo_none_tl, ?_⟩
  refine List.forall_mem_cons.mpr ⟨zo_none_tl, ?_⟩
  refine List.forall_mem_cons.mpr ⟨(zo_getf_tl _ _ _), ?_⟩
  refine List.forall_mem_cons.mpr ⟨zo_none_tl, ?_⟩
  refine List.forall_mem_cons.mpr ⟨zo_none_tl, ?_⟩
  refine List.forall_mem_cons.mpr ⟨(zo_iast_tl _ _), ?_⟩
  refine List.forall_mem_cons.mpr ⟨(zo_pushI_tl _ _), ?_⟩
  refine List.forall_mem_cons.mpr ⟨(zo_istore_tl _ _), ?_⟩
  refine List.forall_mem_cons.mpr ⟨(zo_pushI_tl _ _), ?_⟩
  refine List.forall_mem_cons.mpr ⟨(zo_istore_tl _ _), ?_⟩
  refine List.forall_mem_cons.mpr ⟨(zo_iload_tl _ _), ?_⟩
  refine List.forall_mem_cons.mpr ⟨(zo_aload_tl _ _), ?_⟩
  refine List.forall_mem_cons.mpr ⟨(zo_getf_tl _ _ _), ?_⟩
  refine List.forall_mem_cons.mpr ⟨zo_none_tl, ?_⟩
  refine List.forall_mem_cons.mpr ⟨zo_none_tl, ?_⟩
  refine List.forall_mem_cons.mpr ⟨(zo_getf_tl _ _ _), ?_⟩
  refine List.forall_mem_cons.mpr ⟨zo_none_tl, ?_⟩
  refine List.forall_mem_cons.mpr ⟨zo_none_tl, ?_⟩
  refine List.forall_mem_cons.mpr ⟨(zo_icmp_tl _ _ _), ?_⟩
  refine List.forall_mem_cons.mpr ⟨zo_none_tl, ?_⟩
  refine List.forall_mem_cons.mpr ⟨zo_none_tl, ?_⟩
  refine List.forall_mem_cons.mpr ⟨(zo_iload_tl _ _), ?_⟩
  refine List.forall_mem_cons.mpr ⟨(zo_aload_tl _ _), ?_⟩
  refine List.forall_mem_cons.mpr ⟨(zo_getf_tl _ _ _), ?_⟩
  refine List.forall_mem_cons.mpr ⟨zo_none_tl, ?_⟩
  refine List.forall_mem_cons.mpr ⟨zo_none_tl, ?_⟩
  refine List.forall_mem_cons.mpr ⟨(zo_iload_tl _ _), ?_⟩
  refine List.forall_mem_cons.mpr ⟨(zo_callv_tl _ _ _ _), ?_⟩
  refine List.forall_mem_cons.mpr ⟨zo_none_tl, ?_⟩
  refine List.forall_mem_cons.mpr ⟨zo_none_tl, ?_⟩
  refine List.forall_mem_cons.mpr ⟨(zo_if_tl _ _ _), ?_⟩
  refine List.forall_mem_cons.mpr ⟨zo_none_tl, ?_⟩
  refine List.forall_mem_cons.mpr ⟨zo_none_tl, ?_⟩
  refine List.forall_mem_cons.mpr ⟨(zo_pushI_tl _ _), ?_⟩
  refine List.forall_mem_cons.mpr ⟨(zo_goto_tl _), ?_⟩
  refine List.forall_mem_cons.mpr ⟨zo_none_tl, ?_⟩
  refine List.forall_mem_cons.mpr ⟨zo_none_tl, ?_⟩
  refine List.forall_mem_cons.mpr ⟨(zo_pushI_tl _ _), ?_⟩
  refine List.forall_mem_cons.mpr ⟨(zo_ii_tl _ _), ?_⟩
  refine List.forall_mem_cons.mpr ⟨(zo_istore_tl _ _), ?_⟩
  refine List.forall_mem_cons.mpr ⟨(zo_iinc_tl _ _ _), ?_⟩
  refine List.forall_mem_cons.mpr ⟨zo_none_tl, ?_⟩
  refine List.forall_mem_cons.mpr ⟨zo_none_tl, ?_⟩
  refine List.forall_mem_cons.mpr ⟨(zo_goto_tl _), ?_⟩
  refine List.forall_mem_cons.mpr ⟨zo_none_tl, ?_⟩
  refine List.forall_mem_cons.mpr ⟨zo_none_tl, ?_⟩
  refine List.forall_mem_cons.mpr ⟨(zo_iload_tl _ _), ?_⟩
  refine List.forall_mem_cons.mpr ⟨(zo_iret_tl _), ?_⟩
  exact fun _ h => absurd h List.not_mem_nil
noncomputable def fX11_list : zzFn := zz_fn tX11_list 4
set_option maxRecDepth 100000 in
set_option maxHeartbeats 4000000 in
theorem mm_X11_list {l : Launch} {D : va_G} {cA : Nat → ClassId} {ad : Nat → Nat} {Ex : (Nat → Prop) → State → Heap → Prop} (Wd : zzWC l D cA ad Ex) : zz_Cn l D zzCl cA ad zzSC Ex yX11_list cX11_list 4 (some .int) 6 82 fX11_list ∧ zz_Cx l D zzCl cA ad zzSC Ex yX11_list cX11_list 4 (some .int) 6 82 fX11_list := by
  refine zz_meth (plainFor_of_name (by decide)) Wd.1 Wd.2.1 Wd.2.2.1 (fun p e R s m args below meth c rr X => ?_)
  unfold tX11_list
  refine zz_cons (k' := 1) rfl (zk_iload_n X dX11_list_0 rfl rfl) ?_
  refine zz_cons (k' := 2) rfl (zk_calls X ks_X11_226 (mm_X11_isReader Wd).1 (by decide) dX11_list_1 rfl) ?_
  refine zz_cons (k' := 3) rfl (zz_Ok_none _ _) ?_
  refine zz_cons (k' := 4) rfl (zz_Ok_none _ _) ?_
  refine zz_cons (k' := 5) rfl (zk_if_ne X dX11_list_4 (by decide) rfl) ?_
  refine zz_cons (k' := 6) rfl (zz_Ok_none _ _) ?_
  refine zz_cons (k' := 7) rfl (zz_Ok_none _ _) ?_
  refine zz_cons (k' := 8) rfl (zk_throw X (th_X11_61_236 Wd) (by decide) dX11_list_7 dX11_list_10 dX11_list_11 dX11_list_13 dX11_list_16) ?_
  refine zz_cons (k' := 9) rfl (zz_Ok_none _ _) ?_
  refine zz_cons (k' := 10) rfl (zz_Ok_none _ _) ?_
  refine zz_cons (k' := 11) rfl (zz_Ok_none _ _) ?_
  refine zz_cons (k' := 12) rfl (zz_Ok_none _ _) ?_
  refine zz_cons (k' := 13) rfl (zz_Ok_none _ _) ?_
  refine zz_cons (k' := 14) rfl (zz_Ok_none _ _) ?_
  refine zz_cons (k' := 15) rfl (zz_Ok_none _ _) ?_
  refine zz_cons (k' := 16) rfl (zz_Ok_none _ _) ?_
  refine zz_cons (k' := 17) rfl (zz_Ok_none _ _) ?_
  refine zz_cons (k' := 18) rfl (zk_aload_n X dX11_list_17 rfl rfl) ?_
  refine zz_cons (k' := 19) rfl (zk_getf X ff_X11_47 dX11_list_18 rfl) ?_
  refine zz_cons (k' := 20) rfl (zz_Ok_none _ _) ?_
  refine zz_cons (k' := 21) rfl (zz_Ok_none _ _) ?_
  refine zz_cons (k' := 22) rfl (zk_iload_n X dX11_list_21 rfl rfl) ?_
  refine zz_cons (k' := 23) rfl (zk_aload_n X dX11_list_22 rfl rfl) ?_
  refine zz_cons (k' := 24) rfl (zk_getf X ff_X11_10 dX11_list_23 rfl) ?_
  refine zz_cons (k' := 25) rfl (zz_Ok_none _ _) ?_
  refine zz_cons (k' := 26) rfl (zz_Ok_none _ _) ?_
  refine zz_cons (k' := 27) rfl (zk_getf X ff_X11_201 dX11_list_26 rfl) ?_
  refine zz_cons (k' := 28) rfl (zz_Ok_none _ _) ?_
  refine zz_cons (k' := 29) rfl (zz_Ok_none _ _) ?_
  refine zz_cons (k' := 30) rfl (zk_iast X dX11_list_29 rfl) ?_
  refine zz_cons (k' := 31) rfl (zk_iconst X dX11_list_30 (by decide) rfl) ?_
  refine zz_cons (k' := 32) rfl (zk_istore_n X dX11_list_31 rfl (by decide) rfl) ?_
  refine zz_cons (k' := 33) rfl (zk_iconst X dX11_list_32 (by decide) rfl) ?_
  refine zz_cons (k' := 34) rfl (zk_istore_n X dX11_list_33 rfl (by decide) rfl) ?_
  refine zz_cons (k' := 35) rfl (zk_iload_n X dX11_list_34 rfl rfl) ?_
  refine zz_cons (k' := 36) rfl (zk_aload_n X dX11_list_35 rfl rfl) ?_
  refine zz_cons (k' := 37) rfl (zk_getf X ff_X11_10 dX11_list_36 rfl) ?_
  refine zz_cons (k' := 38) rfl (zz_Ok_none _ _) ?_
  refine zz_cons (k' := 39) rfl (zz_Ok_none _ _) ?_
  refine zz_cons (k' := 40) rfl (zk_getf X ff_X11_243 dX11_list_39 rfl) ?_
  refine zz_cons (k' := 41) rfl (zz_Ok_none _ _) ?_
  refine zz_cons (k' := 42) rfl (zz_Ok_none _ _) ?_
  refine zz_cons (k' := 43) rfl (zk_icmp_ge X dX11_list_42 (by decide) rfl) ?_
  refine zz_cons (k' := 44) rfl (zz_Ok_none _ _) ?_
  refine zz_cons (k' := 45) rfl (zz_Ok_none _ _) ?_
  refine zz_cons (k' := 46) rfl (zk_iload_n X dX11_list_45 rfl rfl) ?_
  refine zz_cons (k' := 47) rfl (zk_aload_n X dX11_list_46 rfl rfl) ?_
  refine zz_cons (k' := 48) rfl (zk_getf X ff_X11_10 dX11_list_47 rfl) ?_
  refine zz_cons (k' := 49) rfl (zz_Ok_none _ _) ?_
  refine zz_cons (k' := 50) rfl (zz_Ok_none _ _) ?_
  refine zz_cons (k' := 51) rfl (zk_iload_n X dX11_list_50 rfl rfl) ?_
  refine zz_cons (k' := 52) rfl (zk_callv X (zz_Cv_of (List.forall_mem_cons.mpr ⟨⟨(RX_8, zzT8, 9), yX10_isGone, cX10_isGone, 2, (some .boolean), 1, 22, rfl, kv_X11_97_8, (mm_X10_isGone Wd).1, by decide, by decide⟩, (fun _ h => absurd h List.not_mem_nil)⟩)) dX11_list_51 rfl) ?_
  refine zz_cons (k' := 53) rfl (zz_Ok_none _ _) ?_
  refine zz_cons (k' := 54) rfl (zz_Ok_none _ _) ?_
  refine zz_cons (k' := 55) rfl (zk_if_eq X dX11_list_54 (by decide) rfl) ?_
  refine zz_cons (k' := 56) rfl (zz_Ok_none _ _) ?_
  refine zz_cons (k' := 57) rfl (zz_Ok_none _ _) ?_
  refine zz_cons (k' := 58) rfl (zk_iconst X dX11_list_57 (by decide) rfl) ?_
  refine zz_cons (k' := 59) rfl (zk_goto X dX11_list_58 (by decide)) ?_
  refine zz_cons (k' := 60) rfl (zz_Ok_none _ _) ?_
  refine zz_cons (k' := 61) rfl (zz_Ok_none _ _) ?_
  refine zz_cons (k' := 62) rfl (zk_iconst X dX11_list_61 (by decide) rfl) ?_
  refine zz_cons (k' := 63) rfl (zk_iadd X dX11_list_62 rfl) ?_
  refine zz_cons (k' := 64) rfl (zk_istore_n X dX11_list_63 rfl (by decide) rfl) ?_
  refine zz_cons (k' := 65) rfl (zk_iinc X dX11_list_64 (by decide) (by decide) rfl) ?_
  refine zz_cons (k' := 66) rfl (zz_Ok_none _ _) ?_
  refine zz_cons (k' := 67) rfl (zz_Ok_none _ _) ?_
  refine zz_cons (k' := 68) rfl (zk_goto X dX11_list_67 (by decide)) ?_
  refine zz_cons (k' := 69) rfl (zz_Ok_none _ _) ?_
  refine zz_cons (k' := 70) rfl (zz_Ok_none _ _) ?_
  refine zz_cons (k' := 71) rfl (zk_iload_n X dX11_list_70 rfl rfl) ?_
  refine zz_cons (k' := 72) rfl (zk_iret X rfl dX11_list_71) ?_
  exact trivial
noncomputable def tX11_compact : List zzOp := [
  zo_iload 1 1,
  zo_if (fun x => decide (x < 0)) 15 4,
  zo_none,
  zo_none,
  zo_iload 1 5,
  zo_aload 0 6,
  zo_getf zzSC (zz_kf [9] 0) 9,
  zo_none,
  zo_none,
  zo_getf zzSC (zz_kf [8] 3) 12,
  zo_none,
  zo_none,
  zo_icmp (fun x y => decide (x ≤ y)) 25 15,
  zo_none,
  zo_none,
  zo_throw 0,
  zo_none,
  zo_none,
  zo_none,
  zo_none,
  zo_none,
  zo_none,
  zo_none,
  zo_none,
  zo_none,
  zo_aload 0 26,
  zo_getf zzSC (zz_kf [9] 0) 29,
  zo_none,
  zo_none,
  zo_aload 0 30,
  zo_getf zzSC (zz_kf [9] 0) 33,
  zo_none,
  zo_none,
  zo_getf zzSC (zz_kf [8] 8) 36,
  zo_none,
  zo_none,
  zo_iload 1 37,
  zo_mm (fun x y => if x < y then y else x) 40,
  zo_none,
  zo_none,
  zo_putf zzSC (zz_kf [8] 8) false 43,
  zo_none,
  zo_none,
  zo_aload 0 44,
  zo_getf zzSC (zz_kf [9] 0) 47,
  zo_none,
  zo_none,
  zo_getf zzSC (zz_kf [8] 8) 50,
  zo_none,
  zo_none,
  zo_iret false]
set_option maxRecDepth 100000 in
theorem tl_X11_compact : ∀ pc, zz_Tl (tX11_compact.getD pc zo_none) := by
  refine zz_Tl_mem ?_
  unfold tX11_compact
  refine List.forall_mem_cons.mpr ⟨(zo_iload_tl _ _), ?_⟩
  refine List.forall_mem_cons.mpr ⟨(zo_if_tl _ _ _), ?_⟩
  refine List.forall_mem_cons.mpr ⟨zo_none_tl, ?_⟩
  refine List.forall_mem_cons.mpr ⟨zo_none_tl, ?_⟩
  refine List.forall_mem_cons.mpr ⟨(zo_iload_tl _ _), ?_⟩
  refine List.forall_mem_cons.mpr ⟨(zo_aload_tl _ _), ?_⟩
  refine List.forall_mem_cons.mpr ⟨(zo_getf_tl _ _ _), ?_⟩
  refine List.forall_mem_cons.mpr ⟨zo_none_tl, ?_⟩
  refine List.forall_mem_cons.mpr ⟨zo_none_tl, ?_⟩
  refine List.forall_mem_cons.mpr ⟨(zo_getf_tl _ _ _), ?_⟩
  refine List.forall_mem_cons.mpr ⟨zo_none_tl, ?_⟩
  refine List.forall_mem_cons.mpr ⟨zo_none_tl, ?_⟩
  refine List.forall_mem_cons.mpr ⟨(zo_icmp_tl _ _ _), ?_⟩
  refine List.forall_mem_cons.mpr ⟨zo_none_tl, ?_⟩
  refine List.forall_mem_cons.mpr ⟨zo_none_tl, ?_⟩
  refine List.forall_mem_cons.mpr ⟨(zo_throw_tl _), ?_⟩
  refine List.forall_mem_cons.mpr ⟨zo_none_tl, ?_⟩
  refine List.forall_mem_cons.mpr ⟨zo_none_tl, ?_⟩
  refine List.forall_mem_cons.mpr ⟨zo_none_tl, ?_⟩
  refine List.forall_mem_cons.mpr ⟨zo_none_tl, ?_⟩
  refine List.forall_mem_cons.mpr ⟨zo_none_tl, ?_⟩
  refine List.forall_mem_cons.mpr ⟨zo_none_tl, ?_⟩
  refine List.forall_mem_cons.mpr ⟨zo_none_tl, ?_⟩
  refine List.forall_mem_cons.mpr ⟨zo_none_tl, ?_⟩
  refine List.forall_mem_cons.mpr ⟨zo_none_tl, ?_⟩
  refine List.forall_mem_cons.mpr ⟨(zo_aload_tl _ _), ?_⟩
  refine List.forall_mem_cons.mpr ⟨(zo_getf_tl _ _ _), ?_⟩
  refine List.forall_mem_cons.mpr ⟨zo_none_tl, ?_⟩
  refine List.forall_mem_cons.mpr ⟨zo_none_tl, ?_⟩
  refine List.forall_mem_cons.mpr ⟨(zo_aload_tl _ _), ?_⟩
  refine List.forall_mem_cons.mpr ⟨(zo_getf_tl _ _ _), ?_⟩
  refine List.forall_mem_cons.mpr ⟨zo_none_tl, ?_⟩
  refine List.forall_mem_cons.mpr ⟨zo_none_tl, ?_⟩
  refine List.forall_mem_cons.mpr ⟨(zo_getf_tl _ _ _), ?_⟩
  refine List.forall_mem_cons.mpr ⟨zo_none_tl, ?_⟩
  refine List.forall_mem_cons.mpr ⟨zo_none_tl, ?_⟩
  refine List.forall_mem_cons.mpr ⟨(zo_iload_tl _ _), ?_⟩
  refine List.forall_mem_cons.mpr ⟨(zo_mm_tl _ _), ?_⟩
  refine List.forall_mem_cons.mpr ⟨zo_none_tl, ?_⟩
  refine List.forall_mem_cons.mpr ⟨zo_none_tl, ?_⟩
  refine List.forall_mem_cons.mpr ⟨(zo_putf_tl _ _ _ _), ?_⟩
  refine List.forall_mem_cons.mpr ⟨zo_none_tl, ?_⟩
  refine List.forall_mem_cons.mpr ⟨zo_none_tl, ?_⟩
  refine List.forall_mem_cons.mpr ⟨(zo_aload_tl _ _), ?_⟩
  refine List.forall_mem_cons.mpr ⟨(zo_getf_tl _ _ _), ?_⟩
  refine List.forall_mem_cons.mpr ⟨zo_none_tl, ?_⟩
  refine List.forall_mem_cons.mpr ⟨zo_none_tl, ?_⟩
  refine List.forall_mem_cons.mpr ⟨(zo_getf_tl _ _ _), ?_⟩
  refine List.forall_mem_cons.mpr ⟨zo_none_tl, ?_⟩
  refine List.forall_mem_cons.mpr ⟨zo_none_tl, ?_⟩
  refine List.forall_mem_cons.mpr ⟨(zo_iret_tl _), ?_⟩
  exact fun _ h => absurd h List.not_mem_nil
noncomputable def fX11_compact : zzFn := zz_fn tX11_compact 2
set_option maxRecDepth 100000 in
set_option maxHeartbeats 4000000 in
theorem mm_X11_compact {l : Launch} {D : va_G} {cA : Nat → ClassId} {ad : Nat → Nat} {Ex : (Nat → Prop) → State → Heap → Prop} (Wd : zzWC l D cA ad Ex) : zz_Cn l D zzCl cA ad zzSC Ex yX11_compact cX11_compact 2 (some .int) 6 82 fX11_compact ∧ zz_Cx l D zzCl cA ad zzSC Ex yX11_compact cX11_compact 2 (some .int) 6 82 fX11_compact := by
  refine zz_meth (plainFor_of_name (by decide)) Wd.1 Wd.2.1 Wd.2.2.1 (fun p e R s m args below meth c rr X => ?_)
  unfold tX11_compact
  refine zz_cons (k' := 1) rfl (zk_iload_n X dX11_compact_0 rfl rfl) ?_
  refine zz_cons (k' := 2) rfl (zk_if_lt X dX11_compact_1 (by decide) rfl) ?_
  refine zz_cons (k' := 3) rfl (zz_Ok_none _ _) ?_
  refine zz_cons (k' := 4) rfl (zz_Ok_none _ _) ?_
  refine zz_cons (k' := 5) rfl (zk_iload_n X dX11_compact_4 rfl rfl) ?_
  refine zz_cons (k' := 6) rfl (zk_aload_n X dX11_compact_5 rfl rfl) ?_
  refine zz_cons (k' := 7) rfl (zk_getf X ff_X11_10 dX11_compact_6 rfl) ?_
  refine zz_cons (k' := 8) rfl (zz_Ok_none _ _) ?_
  refine zz_cons (k' := 9) rfl (zz_Ok_none _ _) ?_
  refine zz_cons (k' := 10) rfl (zk_getf X ff_X11_201 dX11_compact_9 rfl) ?_
  refine zz_cons (k' := 11) rfl (zz_Ok_none _ _) ?_
  refine zz_cons (k' := 12) rfl (zz_Ok_none _ _) ?_
  refine zz_cons (k' := 13) rfl (zk_icmp_le X dX11_compact_12 (by decide) rfl) ?_
  refine zz_cons (k' := 14) rfl (zz_Ok_none _ _) ?_
  refine zz_cons (k' := 15) rfl (zz_Ok_none _ _) ?_
  refine zz_cons (k' := 16) rfl (zk_throw X (th_X11_61_246 Wd) (by decide) dX11_compact_15 dX11_compact_18 dX11_compact_19 dX11_compact_21 dX11_compact_24) ?_
  refine zz_cons (k' := 17) rfl (zz_Ok_none _ _) ?_
  refine zz_cons (k' := 18) rfl (zz_Ok_none _ _) ?_
  refine zz_cons (k' := 19) rfl (zz_Ok_none _ _) ?_
  refine zz_cons (k' := 20) rfl (zz_Ok_none _ _) ?_
  refine zz_cons (k' := 21) rfl (zz_Ok_none _ _) ?_
  refine zz_cons (k' := 22) rfl (zz_Ok_none _ _) ?_
  refine zz_cons (k' := 23) rfl (zz_Ok_none _ _) ?_
  refine zz_cons (k' := 24) rfl (zz_Ok_none _ _) ?_
  refine zz_cons (k' := 25) rfl (zz_Ok_none _ _) ?_
  refine zz_cons (k' := 26) rfl (zk_aload_n X dX11_compact_25 rfl rfl) ?_
  refine zz_cons (k' := 27) rfl (zk_getf X ff_X11_10 dX11_compact_26 rfl) ?_
  refine zz_cons (k' := 28) rfl (zz_Ok_none _ _) ?_
  refine zz_cons (k' := 29) rfl (zz_Ok_none _ _) ?_
  refine zz_cons (k' := 30) rfl (zk_aload_n X dX11_compact_29 rfl rfl) ?_
  refine zz_cons (k' := 31) rfl (zk_getf X ff_X11_10 dX11_compact_30 rfl) ?_
  refine zz_cons (k' := 32) rfl (zz_Ok_none _ _) ?_
  refine zz_cons (k' := 33) rfl (zz_Ok_none _ _) ?_
  refine zz_cons (k' := 34) rfl (zk_getf X ff_X11_231 dX11_compact_33 rfl) ?_
  refine zz_cons (k' := 35) rfl (zz_Ok_none _ _) ?_
  refine zz_cons (k' := 36) rfl (zz_Ok_none _ _) ?_
  refine zz_cons (k' := 37) rfl (zk_iload_n X dX11_compact_36 rfl rfl) ?_
  refine zz_cons (k' := 38) rfl (zk_max X (zz_in (by decide +kernel)) (zz_in (by decide +kernel)) (zz_in (by decide +kernel)) (zz_in (by decide +kernel)) (by decide) dX11_compact_37 rfl) ?_
  refine zz_cons (k' := 39) rfl (zz_Ok_none _ _) ?_
  refine zz_cons (k' := 40) rfl (zz_Ok_none _ _) ?_
  refine zz_cons (k' := 41) rfl (zk_putf X ff_X11_231 fp_8_8 dX11_compact_40 rfl) ?_
  refine zz_cons (k' := 42) rfl (zz_Ok_none _ _) ?_
  refine zz_cons (k' := 43) rfl (zz_Ok_none _ _) ?_
  refine zz_cons (k' := 44) rfl (zk_aload_n X dX11_compact_43 rfl rfl) ?_
  refine zz_cons (k' := 45) rfl (zk_getf X ff_X11_10 dX11_compact_44 rfl) ?_
  refine zz_cons (k' := 46) rfl (zz_Ok_none _ _) ?_
  refine zz_cons (k' := 47) rfl (zz_Ok_none _ _) ?_
  refine zz_cons (k' := 48) rfl (zk_getf X ff_X11_231 dX11_compact_47 rfl) ?_
  refine zz_cons (k' := 49) rfl (zz_Ok_none _ _) ?_
  refine zz_cons (k' := 50) rfl (zz_Ok_none _ _) ?_
  refine zz_cons (k' := 51) rfl (zk_iret X rfl dX11_compact_50) ?_
  exact trivial
noncomputable def tX11_tick : List zzOp := [
  zo_iload 1 1,
  zo_pushI 1 2,
  zo_icmp (fun x y => decide (x < y)) 11 5,
  zo_none,
  zo_none,
  zo_iload 1 6,
  zo_pushI 100 8,
  zo_none,
  zo_icmp (fun x y => decide (x ≤ y)) 21 11,
  zo_none,
  zo_none,
  zo_throw 0,
  zo_none,
  zo_none,
  zo_none,
  zo_none,
  zo_none,
  zo_none,
  zo_none,
  zo_none,
  zo_none,
  zo_aload 0 22,
  zo_getf zzSC (zz_kf [9] 0) 25,
  zo_none,
  zo_none,
  zo_getf zzSC (zz_kf [8] 7) 28,
  zo_none,
  zo_none,
  zo_pushI 10000 31,
  zo_none,
  zo_none,
  zo_iload 1 32,
  zo_ii (fun x y => x - y) 33,
  zo_icmp (fun x y => decide (x ≤ y)) 47 36,
  zo_none,
  zo_none,
  zo_throw 1,
  zo_none,
  zo_none,
  zo_none,
  zo_none,
  zo_none,
  zo_none,
  zo_none,
  zo_none,
  zo_none,
  zo_none,
  zo_pushI 0 48,
  zo_istore 2 49,
  zo_iload 2 50,
  zo_iload 1 51,
  zo_icmp (fun x y => decide (y ≤ x)) 67 54,
  zo_none,
  zo_none,
  zo_aload 0 55,
  zo_getf zzSC (zz_kf [9] 0) 58,
  zo_none,
  zo_none,
  zo_callv zzSC (zz_cl [(8, fX9_beginTick)]) 0 61,
  zo_none,
  zo_none,
  zo_iinc 2 1 64,
  zo_none,
  zo_none,
  zo_goto 49,
  zo_none,
  zo_none,
  zo_aload 0 68,
  zo_getf zzSC (zz_kf [9] 0) 71,
  zo_none,
  zo_none,
  zo_getf zzSC (zz_kf [8] 7) 74,
  zo_none,
  zo_none,
  zo_iret false]
set_option maxRecDepth 100000 in
theorem tl_X11_tick : ∀ pc, zz_Tl (tX11_tick.getD pc zo_none) := by
  refine zz_Tl_mem ?_
  unfold tX11_tick
  refine List.forall_mem_cons.mpr ⟨(zo_iload_tl _ _), ?_⟩
  refine List.forall_mem_cons.mpr ⟨(zo_pushI_tl _ _), ?_⟩
  refine List.forall_mem_cons.mpr ⟨(zo_icmp_tl _ _ _), ?_⟩
  refine List.forall_mem_cons.mpr ⟨zo_none_tl, ?_⟩
  refine List.forall_mem_cons.mpr ⟨zo_none_tl, ?_⟩
  refine List.forall_mem_cons.mpr ⟨(zo_iload_tl _ _), ?_⟩
  refine List.forall_mem_cons.mpr ⟨(zo_pushI_tl _ _), ?_⟩
  refine List.forall_mem_cons.mpr ⟨zo_none_tl, ?_⟩
  refine List.forall_mem_cons.mpr ⟨(zo_icmp_tl _ _ _), ?_⟩
  refine List.forall_mem_cons.mpr ⟨zo_none_tl, ?_⟩
  refine List.forall_mem_cons.mpr ⟨zo_none_tl, ?_⟩
  refine List.forall_mem_cons.mpr ⟨(zo_throw_tl _), ?_⟩
  refine List.forall_mem_cons.mpr ⟨zo_none_tl, ?_⟩
  refine List.forall_mem_cons.mpr ⟨zo_none_tl, ?_⟩
  refine List.forall_mem_cons.mpr ⟨zo_none_tl, ?_⟩
  refine List.forall_mem_cons.mpr ⟨zo_none_tl, ?_⟩
  refine List.forall_mem_cons.mpr ⟨zo_none_tl, ?_⟩
  refine List.forall_mem_cons.mpr ⟨zo_none_tl, ?_⟩
  refine List.forall_mem_cons.mpr ⟨zo_none_tl, ?_⟩
  refine List.forall_mem_cons.mpr ⟨zo_none_tl, ?_⟩
  refine List.forall_mem_cons.mpr ⟨zo_none_tl, ?_⟩
  refine List.forall_mem_cons.mpr ⟨(zo_aload_tl _ _), ?_⟩
  refine List.forall_mem_cons.mpr ⟨(zo_getf_tl _ _ _), ?_⟩
  refine List.forall_mem_cons.mpr ⟨zo_none_tl, ?_⟩
  refine List.forall_mem_cons.mpr ⟨zo_none_tl, ?_⟩
  refine List.forall_mem_cons.mpr ⟨(zo_getf_tl _ _ _), ?_⟩
  refine List.forall_mem_cons.mpr ⟨zo_none_tl, ?_⟩
  refine List.forall_mem_cons.mpr ⟨zo_none_tl, ?_⟩
  refine List.forall_mem_cons.mpr ⟨(zo_pushI_tl _ _), ?_⟩
  refine List.forall_mem_cons.mpr ⟨zo_none_tl, ?_⟩
  refine List.forall_mem_cons.mpr ⟨zo_none_tl, ?_⟩
  refine List.forall_mem_cons.mpr ⟨(zo_iload_tl _ _), ?_⟩
  refine List.forall_mem_cons.mpr ⟨(zo_ii_tl _ _), ?_⟩
  refine List.forall_mem_cons.mpr ⟨(zo_icmp_tl _ _ _), ?_⟩
  refine List.forall_mem_cons.mpr ⟨zo_none_tl, ?_⟩
  refine List.forall_mem_cons.mpr ⟨zo_none_tl, ?_⟩
  refine List.forall_mem_cons.mpr ⟨(zo_throw_tl _), ?_⟩
  refine List.forall_mem_cons.mpr ⟨zo_none_tl, ?_⟩
  refine List.forall_mem_cons.mpr ⟨zo_none_tl, ?_⟩
  refine List.forall_mem_cons.mpr ⟨zo_none_tl, ?_⟩
  refine List.forall_mem_cons.mpr ⟨zo_none_tl, ?_⟩
  refine List.forall_mem_cons.mpr ⟨zo_none_tl, ?_⟩
  refine List.forall_mem_cons.mpr ⟨zo_none_tl, ?_⟩
  refine List.forall_mem_cons.mpr ⟨zo_none_tl, ?_⟩
  refine List.forall_mem_cons.mpr ⟨zo_none_tl, ?_⟩
  refine List.forall_mem_cons.mpr ⟨zo_none_tl, ?_⟩
  refine List.forall_mem_cons.mpr ⟨zo_none_tl, ?_⟩
  refine List.forall_mem_cons.mpr ⟨(zo_pushI_tl _ _), ?_⟩
  refine List.forall_mem_cons.mpr ⟨(zo_istore_tl _ _), ?_⟩
  refine List.forall_mem_cons.mpr ⟨(zo_iload_tl _ _), ?_⟩
  refine List.forall_mem_cons.mpr ⟨(zo_iload_tl _ _), ?_⟩
  refine List.forall_mem_cons.mpr ⟨(zo_icmp_tl _ _ _), ?_⟩
  refine List.forall_mem_cons.mpr ⟨zo_none_tl, ?_⟩
  refine List.forall_mem_cons.mpr ⟨zo_none_tl, ?_⟩
  refine List.forall_mem_cons.mpr ⟨(zo_aload_tl _ _), ?_⟩
  refine List.forall_mem_cons.mpr ⟨(zo_getf_tl _ _ _), ?_⟩
  refine List.forall_mem_cons.mpr ⟨zo_none_tl, ?_⟩
  refine List.forall_mem_cons.mpr ⟨zo_none_tl, ?_⟩
  refine List.forall_mem_cons.mpr ⟨(zo_callv_tl _ _ _ _), ?_⟩
  refine List.forall_mem_cons.mpr ⟨zo_none_tl, ?_⟩
  refine List.forall_mem_cons.mpr ⟨zo_none_tl, ?_⟩
  refine List.forall_mem_cons.mpr ⟨(zo_iinc_tl _ _ _), ?_⟩
  refine List.forall_mem_cons.mpr ⟨zo_none_tl, ?_⟩
  refine List.forall_mem_cons.mpr ⟨zo_none_tl, ?_⟩
  refine List.forall_mem_cons.mpr ⟨(zo_goto_tl _), ?_⟩
  refine List.forall_mem_cons.mpr ⟨zo_none_tl, ?_⟩
  refine List.forall_mem_cons.mpr ⟨zo_none_tl, ?_⟩
  refine List.forall_mem_cons.mpr ⟨(zo_aload_tl _ _), ?_⟩
  refine List.forall_mem_cons.mpr ⟨(zo_getf_tl _ _ _), ?_⟩
  refine List.forall_mem_cons.mpr ⟨zo_none_tl, ?_⟩
  refine List.forall_mem_cons.mpr ⟨zo_none_tl, ?_⟩
  refine List.forall_mem_cons.mpr ⟨(zo_getf_tl _ _ _), ?_⟩
  refine List.forall_mem_cons.mpr ⟨zo_none_tl, ?_⟩
  refine List.forall_mem_cons.mpr ⟨zo_none_tl, ?_⟩
  refine List.forall_mem_cons.mpr ⟨(zo_iret_tl _), ?_⟩
  exact fun _ h => absurd h List.not_mem_nil
noncomputable def fX11_tick : zzFn := zz_fn tX11_tick 3
set_option maxRecDepth 100000 in
set_option maxHeartbeats 4000000 in
theorem mm_X11_tick {l : Launch} {D : va_G} {cA : Nat → ClassId} {ad : Nat → Nat} {Ex : (Nat → Prop) → State → Heap → Prop} (Wd : zzWC l D cA ad Ex) : zz_Cn l D zzCl cA ad zzSC Ex yX11_tick cX11_tick 3 (some .int) 6 91 fX11_tick ∧ zz_Cx l D zzCl cA ad zzSC Ex yX11_tick cX11_tick 3 (some .int) 6 91 fX11_tick := by
  refine zz_meth (plainFor_of_name (by decide)) Wd.1 Wd.2.1 Wd.2.2.1 (fun p e R s m args below meth c rr X => ?_)
  unfold tX11_tick
  refine zz_cons (k' := 1) rfl (zk_iload_n X dX11_tick_0 rfl rfl) ?_
  refine zz_cons (k' := 2) rfl (zk_iconst X dX11_tick_1 (by decide) rfl) ?_
  refine zz_cons (k' := 3) rfl (zk_icmp_lt X dX11_tick_2 (by decide) rfl) ?_
  refine zz_cons (k' := 4) rfl (zz_Ok_none _ _) ?_
  refine zz_cons (k' := 5) rfl (zz_Ok_none _ _) ?_
  refine zz_cons (k' := 6) rfl (zk_iload_n X dX11_tick_5 rfl rfl) ?_
  refine zz_cons (k' := 7) rfl (zk_bipush X dX11_tick_6 (by decide) rfl) ?_
  refine zz_cons (k' := 8) rfl (zz_Ok_none _ _) ?_
  refine zz_cons (k' := 9) rfl (zk_icmp_le X dX11_tick_8 (by decide) rfl) ?_
  refine zz_cons (k' := 10) rfl (zz_Ok_none _ _) ?_
  refine zz_cons (k' := 11) rfl (zz_Ok_none _ _) ?_
  refine zz_cons (k' := 12) rfl (zk_throw X (th_X11_61_251 Wd) (by decide) dX11_tick_11 dX11_tick_14 dX11_tick_15 dX11_tick_17 dX11_tick_20) ?_
  refine zz_cons (k' := 13) rfl (zz_Ok_none _ _) ?_
  refine zz_cons (k' := 14) rfl (zz_Ok_none _ _) ?_
  refine zz_cons (k' := 15) rfl (zz_Ok_none _ _) ?_
  refine zz_cons (k' := 16) rfl (zz_Ok_none _ _) ?_
  refine zz_cons (k' := 17) rfl (zz_Ok_none _ _) ?_
  refine zz_cons (k' := 18) rfl (zz_Ok_none _ _) ?_
  refine zz_cons (k' := 19) rfl (zz_Ok_none _ _) ?_
  refine zz_cons (k' := 20) rfl (zz_Ok_none _ _) ?_
  refine zz_cons (k' := 21) rfl (zz_Ok_none _ _) ?_
  refine zz_cons (k' := 22) rfl (zk_aload_n X dX11_tick_21 rfl rfl) ?_
  refine zz_cons (k' := 23) rfl (zk_getf X ff_X11_10 dX11_tick_22 rfl) ?_
  refine zz_cons (k' := 24) rfl (zz_Ok_none _ _) ?_
  refine zz_cons (k' := 25) rfl (zz_Ok_none _ _) ?_
  refine zz_cons (k' := 26) rfl (zk_getf X ff_X11_253 dX11_tick_25 rfl) ?_
  refine zz_cons (k' := 27) rfl (zz_Ok_none _ _) ?_
  refine zz_cons (k' := 28) rfl (zz_Ok_none _ _) ?_
  refine zz_cons (k' := 29) rfl (zk_sipush X dX11_tick_28 (by decide) rfl) ?_
  refine zz_cons (k' := 30) rfl (zz_Ok_none _ _) ?_
  refine zz_cons (k' := 31) rfl (zz_Ok_none _ _) ?_
  refine zz_cons (k' := 32) rfl (zk_iload_n X dX11_tick_31 rfl rfl) ?_
  refine zz_cons (k' := 33) rfl (zk_isub X dX11_tick_32 rfl) ?_
  refine zz_cons (k' := 34) rfl (zk_icmp_le X dX11_tick_33 (by decide) rfl) ?_
  refine zz_cons (k' := 35) rfl (zz_Ok_none _ _) ?_
  refine zz_cons (k' := 36) rfl (zz_Ok_none _ _) ?_
  refine zz_cons (k' := 37) rfl (zk_throwW X (th_X11_75_256 Wd) (by decide) dX11_tick_36 dX11_tick_39 dX11_tick_40 dX11_tick_43 dX11_tick_46) ?_
  refine zz_cons (k' := 38) rfl (zz_Ok_none _ _) ?_
  refine zz_cons (k' := 39) rfl (zz_Ok_none _ _) ?_
  refine zz_cons (k' := 40) rfl (zz_Ok_none _ _) ?_
  refine zz_cons (k' := 41) rfl (zz_Ok_none _ _) ?_
  refine zz_cons (k' := 42) rfl (zz_Ok_none _ _) ?_
  refine zz_cons (k' := 43) rfl (zz_Ok_none _ _) ?_
  refine zz_cons (k' := 44) rfl (zz_Ok_none _ _) ?_
  refine zz_cons (k' := 45) rfl (zz_Ok_none _ _) ?_
  refine zz_cons (k' := 46) rfl (zz_Ok_none _ _) ?_
  refine zz_cons (k' := 47) rfl (zz_Ok_none _ _) ?_
  refine zz_cons (k' := 48) rfl (zk_iconst X dX11_tick_47 (by decide) rfl) ?_
  refine zz_cons (k' := 49) rfl (zk_istore_n X dX11_tick_48 rfl (by decide) rfl) ?_
  refine zz_cons (k' := 50) rfl (zk_iload_n X dX11_tick_49 rfl rfl) ?_
  refine zz_cons (k' := 51) rfl (zk_iload_n X dX11_tick_50 rfl rfl) ?_
  refine zz_cons (k' := 52) rfl (zk_icmp_ge X dX11_tick_51 (by decide) rfl) ?_
  refine zz_cons (k' := 53) rfl (zz_Ok_none _ _) ?_
  refine zz_cons (k' := 54) rfl (zz_Ok_none _ _) ?_
  refine zz_cons (k' := 55) rfl (zk_aload_n X dX11_tick_54 rfl rfl) ?_
  refine zz_cons (k' := 56) rfl (zk_getf X ff_X11_10 dX11_tick_55 rfl) ?_
  refine zz_cons (k' := 57) rfl (zz_Ok_none _ _) ?_
  refine zz_cons (k' := 58) rfl (zz_Ok_none _ _) ?_
  refine zz_cons (k' := 59) rfl (zk_callv X (zz_Cv_of (List.forall_mem_cons.mpr ⟨⟨(RX_8, zzT8, 9), yX9_beginTick, cX9_beginTick, 2, none, 3, 70, rfl, kv_X11_258_8.1, (mm_X9_beginTick Wd).1, by decide, by decide⟩, (fun _ h => absurd h List.not_mem_nil)⟩)) dX11_tick_58 rfl) ?_
  refine zz_cons (k' := 60) rfl (zz_Ok_none _ _) ?_
  refine zz_cons (k' := 61) rfl (zz_Ok_none _ _) ?_
  refine zz_cons (k' := 62) rfl (zk_iinc X dX11_tick_61 (by decide) (by decide) rfl) ?_
  refine zz_cons (k' := 63) rfl (zz_Ok_none _ _) ?_
  refine zz_cons (k' := 64) rfl (zz_Ok_none _ _) ?_
  refine zz_cons (k' := 65) rfl (zk_goto X dX11_tick_64 (by decide)) ?_
  refine zz_cons (k' := 66) rfl (zz_Ok_none _ _) ?_
  refine zz_cons (k' := 67) rfl (zz_Ok_none _ _) ?_
  refine zz_cons (k' := 68) rfl (zk_aload_n X dX11_tick_67 rfl rfl) ?_
  refine zz_cons (k' := 69) rfl (zk_getf X ff_X11_10 dX11_tick_68 rfl) ?_
  refine zz_cons (k' := 70) rfl (zz_Ok_none _ _) ?_
  refine zz_cons (k' := 71) rfl (zz_Ok_none _ _) ?_
  refine zz_cons (k' := 72) rfl (zk_getf X ff_X11_253 dX11_tick_71 rfl) ?_
  refine zz_cons (k' := 73) rfl (zz_Ok_none _ _) ?_
  refine zz_cons (k' := 74) rfl (zz_Ok_none _ _) ?_
  refine zz_cons (k' := 75) rfl (zk_iret X rfl dX11_tick_74) ?_
  exact trivial
noncomputable def tX11_beat : List zzOp := [
  zo_aload 0 1,
  zo_iload 1 2,
  zo_callx zzSC (zz_cl [(9, fX11_requireObject)]) 1 5,
  zo_none,
  zo_none,
  zo_aload 0 6,
  zo_iload 1 7,
  zo_pushI 4 8,
  zo_callx zzSC (zz_cl [(9, fX11_requireKind)]) 2 11,
  zo_none,
  zo_none,
  zo_aload 0 12,
  zo_getf zzSC (zz_kf [9] 0) 15,
  zo_none,
  zo_none,
  zo_iload 1 16,
  zo_pushI 27 18,
  zo_none,
  zo_callv zzSC (zz_cl [(8, fX10_read)]) 2 21,
  zo_none,
  zo_none,
  zo_pushI 1 22,
  zo_icmp (fun x y => decide (¬ x = y)) 29 25,
  zo_none,
  zo_none,
  zo_pushI 1 26,
  zo_goto 30,
  zo_none,
  zo_none,
  zo_pushI 0 30,
  zo_istore 2 31,
  zo_aload 0 32,
  zo_getf zzSC (zz_kf [9] 0) 35,
  zo_none,
  zo_none,
  zo_iload 1 36,
  zo_callv zzSC (zz_cl [(8, fX10_isGone)]) 1 39,
  zo_none,
  zo_none,
  zo_if (fun x => decide (¬ x = 0)) 56 42,
  zo_none,
  zo_none,
  zo_aload 0 43,
  zo_getf zzSC (zz_kf [9] 0) 46,
  zo_none,
  zo_none,
  zo_iload 1 47,
  zo_pushI 27 49,
  zo_none,
  zo_pushI 1 50,
  zo_callv zzSC (zz_cl [(8, fX9_change)]) 3 53,
  zo_none,
  zo_none,
  zo_if (fun x => decide (¬ x = 0)) 67 56,
  zo_none,
  zo_none,
  zo_throw 1,
  zo_none,
  zo_none,
  zo_none,
  zo_none,
  zo_none,
  zo_none,
  zo_none,
  zo_none,
  zo_none,
  zo_none,
  zo_aload 0 68,
  zo_getf zzSC (zz_kf [9] 0) 71,
  zo_none,
  zo_none,
  zo_getf zzSC (zz_kf [8] 5) 74,
  zo_none,
  zo_none,
  zo_iload 1 75,
  zo_aload 0 76,
  zo_getf zzSC (zz_kf [9] 0) 79,
  zo_none,
  zo_none,
  zo_getf zzSC (zz_kf [8] 7) 82,
  zo_none,
  zo_none,
  zo_iast zzSC 83,
  zo_iload 2 84,
  zo_iret true]
set_option maxRecDepth 100000 in
theorem tl_X11_beat : ∀ pc, zz_Tl (tX11_beat.getD pc zo_none) := by
  refine zz_Tl_mem ?_
  unfold tX11_beat
  refine List.forall_mem_cons.mpr ⟨(zo_aload_tl _ _), ?_⟩
  refine List.forall_mem_cons.mpr ⟨(zo_iload_tl _ _), ?_⟩
  refine List.forall_mem_cons.mpr ⟨(zo_callx_tl _ _ _ _), ?_⟩
  refine List.forall_mem_cons.mpr ⟨zo_none_tl, ?_⟩
  refine List.forall_mem_cons.mpr ⟨zo_none_tl, ?_⟩
  refine List.forall_mem_cons.mpr ⟨(zo_aload_tl _ _), ?_⟩
  refine List.forall_mem_cons.mpr ⟨(zo_iload_tl _ _), ?_⟩
  refine List.forall_mem_cons.mpr ⟨(zo_pushI_tl _ _), ?_⟩
  refine List.forall_mem_cons.mpr ⟨(zo_callx_tl _ _ _ _), ?_⟩
  refine List.forall_mem_cons.mpr ⟨zo_none_tl, ?_⟩
  refine List.forall_mem_cons.mpr ⟨zo_none_tl, ?_⟩
  refine List.forall_mem_cons.mpr ⟨(zo_aload_tl _ _), ?_⟩
  refine List.forall_mem_cons.mpr ⟨(zo_getf_tl _ _ _), ?_⟩
  refine List.forall_mem_cons.mpr ⟨zo_none_tl, ?_⟩
  refine List.forall_mem_cons.mpr ⟨zo_none_tl, ?_⟩
  refine List.forall_mem_cons.mpr ⟨(zo_iload_tl _ _), ?_⟩
  refine List.forall_mem_cons.mpr ⟨(zo_pushI_tl _ _), ?_⟩
  refine List.forall_mem_cons.mpr ⟨zo_none_tl, ?_⟩
  refine List.forall_mem_cons.mpr ⟨(zo_callv_tl _ _ _ _), ?_⟩
  refine List.forall_mem_cons.mpr ⟨zo_none_tl, ?_⟩
  refine List.forall_mem_cons.mpr ⟨zo_none_tl, ?_⟩
  refine List.forall_mem_cons.mpr ⟨(zo_pushI_tl _ _), ?_⟩
  refine List.forall_mem_cons.mpr ⟨(zo_icmp_tl _ _ _), ?_⟩
  refine List.forall_mem_cons.mpr ⟨zo_none_tl, ?_⟩
  refine List.forall_mem_cons.mpr ⟨zo_none_tl, ?_⟩
  refine List.forall_mem_cons.mpr ⟨(zo_pushI_tl _ _), ?_⟩
  refine List.forall_mem_cons.mpr ⟨(zo_goto_tl _), ?_⟩
  refine List.forall_mem_cons.mpr ⟨zo_none_tl, ?_⟩
  refine List.forall_mem_cons.mpr ⟨zo_none_tl, ?_⟩
  refine List.forall_mem_cons.mpr ⟨(zo_pushI_tl _ _), ?_⟩
  refine List.forall_mem_cons.mpr ⟨(zo_istore_tl _ _), ?_⟩
  refine List.forall_mem_cons.mpr ⟨(zo_aload_tl _ _), ?_⟩
  refine List.forall_mem_cons.mpr ⟨(zo_getf_tl _ _ _), ?_⟩
  refine List.forall_mem_cons.mpr ⟨zo_none_tl, ?_⟩
  refine List.forall_mem_cons.mpr ⟨zo_none_tl, ?_⟩
  refine List.forall_mem_cons.mpr ⟨(zo_iload_tl _ _), ?_⟩
  refine List.forall_mem_cons.mpr ⟨(zo_callv_tl _ _ _ _), ?_⟩
  refine List.forall_mem_cons.mpr ⟨zo_none_tl, ?_⟩
  refine List.forall_mem_cons.mpr ⟨zo_none_tl, ?_⟩
  refine List.forall_mem_cons.mpr ⟨(zo_if_tl _ _ _), ?_⟩
  refine List.forall_mem_cons.mpr ⟨zo_none_tl, ?_⟩
  refine List.forall_mem_cons.mpr ⟨zo_none_tl, ?_⟩
  refine List.forall_mem_cons.mpr ⟨(zo_aload_tl _ _), ?_⟩
  refine List.forall_mem_cons.mpr ⟨(zo_getf_tl _ _ _), ?_⟩
  refine List.forall_mem_cons.mpr ⟨zo_none_tl, ?_⟩
  refine List.forall_mem_cons.mpr ⟨zo_none_tl, ?_⟩
  refine List.forall_mem_cons.mpr ⟨(zo_iload_tl _ _), ?_⟩
  refine List.forall_mem_cons.mpr ⟨(zo_pushI_tl _ _), ?_⟩
  refine List.forall_mem_cons.mpr ⟨zo_none_tl, ?_⟩
  refine List.forall_mem_cons.mpr ⟨(zo_pushI_tl _ _), ?_⟩
  refine List.forall_mem_cons.mpr ⟨(zo_callv_tl _ _ _ _), ?_⟩
  refine List.forall_mem_cons.mpr ⟨zo_none_tl, ?_⟩
  refine List.forall_mem_cons.mpr ⟨zo_none_tl, ?_⟩
  refine List.forall_mem_cons.mpr ⟨(zo_if_tl _ _ _), ?_⟩
  refine List.forall_mem_cons.mpr ⟨zo_none_tl, ?_⟩
  refine List.forall_mem_cons.mpr ⟨zo_none_tl, ?_⟩
  refine List.forall_mem_cons.mpr ⟨(zo_throw_tl _), ?_⟩
  refine List.forall_mem_cons.mpr ⟨zo_none_tl, ?_⟩
  refine List.forall_mem_cons.mpr ⟨zo_none_tl, ?_⟩
  refine List.forall_mem_cons.mpr ⟨zo_none_tl, ?_⟩
  refine List.forall_mem_cons.mpr ⟨zo_none_tl, ?_⟩
  refine List.forall_mem_cons.mpr ⟨zo_none_tl, ?_⟩
  refine List.forall_mem_cons.mpr ⟨zo_none_tl, ?_⟩
  refine List.forall_mem_cons.mpr ⟨zo_none_tl, ?_⟩
  refine List.forall_mem_cons.mpr ⟨zo_none_tl, ?_⟩
  refine List.forall_mem_cons.mpr ⟨zo_none_tl, ?_⟩
  refine List.forall_mem_cons.mpr ⟨zo_none_tl, ?_⟩
  refine List.forall_mem_cons.mpr ⟨(zo_aload_tl _ _), ?_⟩
  refine List.forall_mem_cons.mpr ⟨(zo_getf_tl _ _ _), ?_⟩
  refine List.forall_mem_cons.mpr ⟨zo_none_tl, ?_⟩
  refine List.forall_mem_cons.mpr ⟨zo_none_tl, ?_⟩
  refine List.forall_mem_cons.mpr ⟨(zo_getf_tl _ _ _), ?_⟩
  refine List.forall_mem_cons.mpr ⟨zo_none_tl, ?_⟩
  refine List.forall_mem_cons.mpr ⟨zo_none_tl, ?_⟩
  refine List.forall_mem_cons.mpr ⟨(zo_iload_tl _ _), ?_⟩
  refine List.forall_mem_cons.mpr ⟨(zo_aload_tl _ _), ?_⟩
  refine List.forall_mem_cons.mpr ⟨(zo_getf_tl _ _ _), ?_⟩
  refine List.forall_mem_cons.mpr ⟨zo_none_tl, ?_⟩
  refine List.forall_mem_cons.mpr ⟨zo_none_tl, ?_⟩
  refine List.forall_mem_cons.mpr ⟨(zo_getf_tl _ _ _), ?_⟩
  refine List.forall_mem_cons.mpr ⟨zo_none_tl, ?_⟩
  refine List.forall_mem_cons.mpr ⟨zo_none_tl, ?_⟩
  refine List.forall_mem_cons.mpr ⟨(zo_iast_tl _ _), ?_⟩
  refine List.forall_mem_cons.mpr ⟨(zo_iload_tl _ _), ?_⟩
  refine List.forall_mem_cons.mpr ⟨(zo_iret_tl _), ?_⟩
  exact fun _ h => absurd h List.not_mem_nil
noncomputable def fX11_beat : zzFn := zz_fn tX11_beat 3
set_option maxRecDepth 100000 in
set_option maxHeartbeats 4000000 in
theorem mm_X11_beat {l : Launch} {D : va_G} {cA : Nat → ClassId} {ad : Nat → Nat} {Ex : (Nat → Prop) → State → Heap → Prop} (Wd : zzWC l D cA ad Ex) : zz_Cn l D zzCl cA ad zzSC Ex yX11_beat cX11_beat 3 (some .boolean) 7 104 fX11_beat ∧ zz_Cx l D zzCl cA ad zzSC Ex yX11_beat cX11_beat 3 (some .boolean) 7 104 fX11_beat := by
  refine zz_meth (plainFor_of_name (by decide)) Wd.1 Wd.2.1 Wd.2.2.1 (fun p e R s m args below meth c rr X => ?_)
  unfold tX11_beat
  refine zz_cons (k' := 1) rfl (zk_aload_n X dX11_beat_0 rfl rfl) ?_
  refine zz_cons (k' := 2) rfl (zk_iload_n X dX11_beat_1 rfl rfl) ?_
  refine zz_cons (k' := 3) rfl (zk_callx X (zz_Cw_of (List.forall_mem_cons.mpr ⟨⟨(RX_9, zzT9, 5), yX11_requireObject, cX11_requireObject, 2, none, 6, 82, rfl, kv_X11_80_9, (mm_X11_requireObject Wd), by decide, by decide⟩, (fun _ h => absurd h List.not_mem_nil)⟩)) dX11_beat_2 rfl) ?_
  refine zz_cons (k' := 4) rfl (zz_Ok_none _ _) ?_
  refine zz_cons (k' := 5) rfl (zz_Ok_none _ _) ?_
  refine zz_cons (k' := 6) rfl (zk_aload_n X dX11_beat_5 rfl rfl) ?_
  refine zz_cons (k' := 7) rfl (zk_iload_n X dX11_beat_6 rfl rfl) ?_
  refine zz_cons (k' := 8) rfl (zk_iconst X dX11_beat_7 (by decide) rfl) ?_
  refine zz_cons (k' := 9) rfl (zk_callx X (zz_Cw_of (List.forall_mem_cons.mpr ⟨⟨(RX_9, zzT9, 5), yX11_requireKind, cX11_requireKind, 3, none, 6, 82, rfl, kv_X11_142_9, (mm_X11_requireKind Wd), by decide, by decide⟩, (fun _ h => absurd h List.not_mem_nil)⟩)) dX11_beat_8 rfl) ?_
  refine zz_cons (k' := 10) rfl (zz_Ok_none _ _) ?_
  refine zz_cons (k' := 11) rfl (zz_Ok_none _ _) ?_
  refine zz_cons (k' := 12) rfl (zk_aload_n X dX11_beat_11 rfl rfl) ?_
  refine zz_cons (k' := 13) rfl (zk_getf X ff_X11_10 dX11_beat_12 rfl) ?_
  refine zz_cons (k' := 14) rfl (zz_Ok_none _ _) ?_
  refine zz_cons (k' := 15) rfl (zz_Ok_none _ _) ?_
  refine zz_cons (k' := 16) rfl (zk_iload_n X dX11_beat_15 rfl rfl) ?_
  refine zz_cons (k' := 17) rfl (zk_bipush X dX11_beat_16 (by decide) rfl) ?_
  refine zz_cons (k' := 18) rfl (zz_Ok_none _ _) ?_
  refine zz_cons (k' := 19) rfl (zk_callv X (zz_Cv_of (List.forall_mem_cons.mpr ⟨⟨(RX_8, zzT8, 9), yX10_read, cX10_read, 3, (some .int), 0, 0, rfl, kv_X11_84_8, (mm_X10_read Wd).1, by decide, by decide⟩, (fun _ h => absurd h List.not_mem_nil)⟩)) dX11_beat_18 rfl) ?_
  refine zz_cons (k' := 20) rfl (zz_Ok_none _ _) ?_
  refine zz_cons (k' := 21) rfl (zz_Ok_none _ _) ?_
  refine zz_cons (k' := 22) rfl (zk_iconst X dX11_beat_21 (by decide) rfl) ?_
  refine zz_cons (k' := 23) rfl (zk_icmp_ne X dX11_beat_22 (by decide) rfl) ?_
  refine zz_cons (k' := 24) rfl (zz_Ok_none _ _) ?_
  refine zz_cons (k' := 25) rfl (zz_Ok_none _ _) ?_
  refine zz_cons (k' := 26) rfl (zk_iconst X dX11_beat_25 (by decide) rfl) ?_
  refine zz_cons (k' := 27) rfl (zk_goto X dX11_beat_26 (by decide)) ?_
  refine zz_cons (k' := 28) rfl (zz_Ok_none _ _) ?_
  refine zz_cons (k' := 29) rfl (zz_Ok_none _ _) ?_
  refine zz_cons (k' := 30) rfl (zk_iconst X dX11_beat_29 (by decide) rfl) ?_
  refine zz_cons (k' := 31) rfl (zk_istore_n X dX11_beat_30 rfl (by decide) rfl) ?_
  refine zz_cons (k' := 32) rfl (zk_aload_n X dX11_beat_31 rfl rfl) ?_
  refine zz_cons (k' := 33) rfl (zk_getf X ff_X11_10 dX11_beat_32 rfl) ?_
  refine zz_cons (k' := 34) rfl (zz_Ok_none _ _) ?_
  refine zz_cons (k' := 35) rfl (zz_Ok_none _ _) ?_
  refine zz_cons (k' := 36) rfl (zk_iload_n X dX11_beat_35 rfl rfl) ?_
  refine zz_cons (k' := 37) rfl (zk_callv X (zz_Cv_of (List.forall_mem_cons.mpr ⟨⟨(RX_8, zzT8, 9), yX10_isGone, cX10_isGone, 2, (some .boolean), 1, 22, rfl, kv_X11_97_8, (mm_X10_isGone Wd).1, by decide, by decide⟩, (fun _ h => absurd h List.not_mem_nil)⟩)) dX11_beat_36 rfl) ?_
  refine zz_cons (k' := 38) rfl (zz_Ok_none _ _) ?_
  refine zz_cons (k' := 39) rfl (zz_Ok_none _ _) ?_
  refine zz_cons (k' := 40) rfl (zk_if_ne X dX11_beat_39 (by decide) rfl) ?_
  refine zz_cons (k' := 41) rfl (zz_Ok_none _ _) ?_
  refine zz_cons (k' := 42) rfl (zz_Ok_none _ _) ?_
  refine zz_cons (k' := 43) rfl (zk_aload_n X dX11_beat_42 rfl rfl) ?_
  refine zz_cons (k' := 44) rfl (zk_getf X ff_X11_10 dX11_beat_43 rfl) ?_
  refine zz_cons (k' := 45) rfl (zz_Ok_none _ _) ?_
  refine zz_cons (k' := 46) rfl (zz_Ok_none _ _) ?_
  refine zz_cons (k' := 47) rfl (zk_iload_n X dX11_beat_46 rfl rfl) ?_
  refine zz_cons (k' := 48) rfl (zk_bipush X dX11_beat_47 (by decide) rfl) ?_
  refine zz_cons (k' := 49) rfl (zz_Ok_none _ _) ?_
  refine zz_cons (k' := 50) rfl (zk_iconst X dX11_beat_49 (by decide) rfl) ?_
  refine zz_cons (k' := 51) rfl (zk_callv X (zz_Cv_of (List.forall_mem_cons.mpr ⟨⟨(RX_8, zzT8, 9), yX9_change, cX9_change, 4, (some .boolean), 2, 47, rfl, kv_X11_136_8.1, (mm_X9_change Wd).1, by decide, by decide⟩, (fun _ h => absurd h List.not_mem_nil)⟩)) dX11_beat_50 rfl) ?_
  refine zz_cons (k' := 52) rfl (zz_Ok_none _ _) ?_
  refine zz_cons (k' := 53) rfl (zz_Ok_none _ _) ?_
  refine zz_cons (k' := 54) rfl (zk_if_ne X dX11_beat_53 (by decide) rfl) ?_
  refine zz_cons (k' := 55) rfl (zz_Ok_none _ _) ?_
  refine zz_cons (k' := 56) rfl (zz_Ok_none _ _) ?_
  refine zz_cons (k' := 57) rfl (zk_throwW X (th_X11_75_261 Wd) (by decide) dX11_beat_56 dX11_beat_59 dX11_beat_60 dX11_beat_63 dX11_beat_66) ?_
  refine zz_cons (k' := 58) rfl (zz_Ok_none _ _) ?_
  refine zz_cons (k' := 59) rfl (zz_Ok_none _ _) ?_
  refine zz_cons (k' := 60) rfl (zz_Ok_none _ _) ?_
  refine zz_cons (k' := 61) rfl (zz_Ok_none _ _) ?_
  refine zz_cons (k' := 62) rfl (zz_Ok_none _ _) ?_
  refine zz_cons (k' := 63) rfl (zz_Ok_none _ _) ?_
  refine zz_cons (k' := 64) rfl (zz_Ok_none _ _) ?_
  refine zz_cons (k' := 65) rfl (zz_Ok_none _ _) ?_
  refine zz_cons (k' := 66) rfl (zz_Ok_none _ _) ?_
  refine zz_cons (k' := 67) rfl (zz_Ok_none _ _) ?_
  refine zz_cons (k' := 68) rfl (zk_aload_n X dX11_beat_67 rfl rfl) ?_
  refine zz_cons (k' := 69) rfl (zk_getf X ff_X11_10 dX11_beat_68 rfl) ?_
  refine zz_cons (k' := 70) rfl (zz_Ok_none _ _) ?_
  refine zz_cons (k' := 71) rfl (zz_Ok_none _ _) ?_
  refine zz_cons (k' := 72) rfl (zk_getf X ff_X11_263 dX11_beat_71 rfl) ?_
  refine zz_cons (k' := 73) rfl (zz_Ok_none _ _) ?_
  refine zz_cons (k' := 74) rfl (zz_Ok_none _ _) ?_
  refine zz_cons (k' := 75) rfl (zk_iload_n X dX11_beat_74 rfl rfl) ?_
  refine zz_cons (k' := 76) rfl (zk_aload_n X dX11_beat_75 rfl rfl) ?_
  refine zz_cons (k' := 77) rfl (zk_getf X ff_X11_10 dX11_beat_76 rfl) ?_
  refine zz_cons (k' := 78) rfl (zz_Ok_none _ _) ?_
  refine zz_cons (k' := 79) rfl (zz_Ok_none _ _) ?_
  refine zz_cons (k' := 80) rfl (zk_getf X ff_X11_253 dX11_beat_79 rfl) ?_
  refine zz_cons (k' := 81) rfl (zz_Ok_none _ _) ?_
  refine zz_cons (k' := 82) rfl (zz_Ok_none _ _) ?_
  refine zz_cons (k' := 83) rfl (zk_iast X dX11_beat_82 rfl) ?_
  refine zz_cons (k' := 84) rfl (zk_iload_n X dX11_beat_83 rfl rfl) ?_
  refine zz_cons (k' := 85) rfl (zk_iret X rfl dX11_beat_84) ?_
  exact trivial
noncomputable def tX11_wish : List zzOp := [
  zo_aload 0 1,
  zo_iload 1 2,
  zo_callx zzSC (zz_cl [(9, fX11_requireObject)]) 1 5,
  zo_none,
  zo_none,
  zo_aload 0 6,
  zo_iload 1 7,
  zo_pushI 0 8,
  zo_callx zzSC (zz_cl [(9, fX11_requireKind)]) 2 11,
  zo_none,
  zo_none,
  zo_iload 2 12,
  zo_pushI (-1) 13,
  zo_icmp (fun x y => decide (x = y)) 35 16,
  zo_none,
  zo_none,
  zo_pushI 1 17,
  zo_iload 2 18,
  zo_calls fX11_isInRange 2 21,
  zo_none,
  zo_none,
  zo_if (fun x => decide (¬ x = 0)) 35 24,
  zo_none,
  zo_none,
  zo_throw 0,
  zo_none,
  zo_none,
  zo_none,
  zo_none,
  zo_none,
  zo_none,
  zo_none,
  zo_none,
  zo_none,
  zo_none,
  zo_aload 0 36,
  zo_getf zzSC (zz_kf [9] 3) 39,
  zo_none,
  zo_none,
  zo_iload 1 40,
  zo_iald zzSC zzSTC 41,
  zo_istore 3 42,
  zo_aload 0 43,
  zo_getf zzSC (zz_kf [9] 3) 46,
  zo_none,
  zo_none,
  zo_iload 1 47,
  zo_iload 2 48,
  zo_iast zzSC 49,
  zo_iload 3 50,
  zo_iret false]
set_option maxRecDepth 100000 in
theorem tl_X11_wish : ∀ pc, zz_Tl (tX11_wish.getD pc zo_none) := by
  refine zz_Tl_mem ?_
  unfold tX11_wish
  refine List.forall_mem_cons.mpr ⟨(zo_aload_tl _ _), ?_⟩
  refine List.forall_mem_cons.mpr ⟨(zo_iload_tl _ _), ?_⟩
  refine List.forall_mem_cons.mpr ⟨(zo_callx_tl _ _ _ _), ?_⟩
  refine List.forall_mem_cons.mpr ⟨zo_none_tl, ?_⟩
  refine List.forall_mem_cons.mpr ⟨zo_none_tl, ?_⟩
  refine List.forall_mem_cons.mpr ⟨(zo_aload_tl _ _), ?_⟩
  refine List.forall_mem_cons.mpr ⟨(zo_iload_tl _ _), ?_⟩
  refine List.forall_mem_cons.mpr ⟨(zo_pushI_tl _ _), ?_⟩
  refine List.forall_mem_cons.mpr ⟨(zo_callx_tl _ _ _ _), ?_⟩
  refine List.forall_mem_cons.mpr ⟨zo_none_tl, ?_⟩
  refine List.forall_mem_cons.mpr ⟨zo_none_tl, ?_⟩
  refine List.forall_mem_cons.mpr ⟨(zo_iload_tl _ _), ?_⟩
  refine List.forall_mem_cons.mpr ⟨(zo_pushI_tl _ _), ?_⟩
  refine List.forall_mem_cons.mpr ⟨(zo_icmp_tl _ _ _), ?_⟩
  refine List.forall_mem_cons.mpr ⟨zo_none_tl, ?_⟩
  refine List.forall_mem_cons.mpr ⟨zo_none_tl, ?_⟩
  refine List.forall_mem_cons.mpr ⟨(zo_pushI_tl _ _), ?_⟩
  refine List.forall_mem_cons.mpr ⟨(zo_iload_tl _ _), ?_⟩
  refine List.forall_mem_cons.mpr ⟨(zo_calls_tl _ _ _), ?_⟩
  refine List.forall_mem_cons.mpr ⟨zo_none_tl, ?_⟩
  refine List.forall_mem_cons.mpr ⟨zo_none_tl, ?_⟩
  refine List.forall_mem_cons.mpr ⟨(zo_if_tl _ _ _), ?_⟩
  refine List.forall_mem_cons.mpr ⟨zo_none_tl, ?_⟩
  refine List.forall_mem_cons.mpr ⟨zo_none_tl, ?_⟩
  refine List.forall_mem_cons.mpr ⟨(zo_throw_tl _), ?_⟩
  refine List.forall_mem_cons.mpr ⟨zo_none_tl, ?_⟩
  refine List.forall_mem_cons.mpr ⟨zo_none_tl, ?_⟩
  refine List.forall_mem_cons.mpr ⟨zo_none_tl, ?_⟩
  refine List.forall_mem_cons.mpr ⟨zo_none_tl, ?_⟩
  refine List.forall_mem_cons.mpr ⟨zo_none_tl, ?_⟩
  refine List.forall_mem_cons.mpr ⟨zo_none_tl, ?_⟩
  refine List.forall_mem_cons.mpr ⟨zo_none_tl, ?_⟩
  refine List.forall_mem_cons.mpr ⟨zo_none_tl, ?_⟩
  refine List.forall_mem_cons.mpr ⟨zo_none_tl, ?_⟩
  refine List.forall_mem_cons.mpr ⟨zo_none_tl, ?_⟩
  refine List.forall_mem_cons.mpr ⟨(zo_aload_tl _ _), ?_⟩
  refine List.forall_mem_cons.mpr ⟨(zo_getf_tl _ _ _), ?_⟩
  refine List.forall_mem_cons.mpr ⟨zo_none_tl, ?_⟩
  refine List.forall_mem_cons.mpr ⟨zo_none_tl, ?_⟩
  refine List.forall_mem_cons.mpr ⟨(zo_iload_tl _ _), ?_⟩
  refine List.forall_mem_cons.mpr ⟨(zo_iald_tl _ _ _), ?_⟩
  refine List.forall_mem_cons.mpr ⟨(zo_istore_tl _ _), ?_⟩
  refine List.forall_mem_cons.mpr ⟨(zo_aload_tl _ _), ?_⟩
  refine List.forall_mem_cons.mpr ⟨(zo_getf_tl _ _ _), ?_⟩
  refine List.forall_mem_cons.mpr ⟨zo_none_tl, ?_⟩
  refine List.forall_mem_cons.mpr ⟨zo_none_tl, ?_⟩
  refine List.forall_mem_cons.mpr ⟨(zo_iload_tl _ _), ?_⟩
  refine List.forall_mem_cons.mpr ⟨(zo_iload_tl _ _), ?_⟩
  refine List.forall_mem_cons.mpr ⟨(zo_iast_tl _ _), ?_⟩
  refine List.forall_mem_cons.mpr ⟨(zo_iload_tl _ _), ?_⟩
  refine List.forall_mem_cons.mpr ⟨(zo_iret_tl _), ?_⟩
  exact fun _ h => absurd h List.not_mem_nil
noncomputable def fX11_wish : zzFn := zz_fn tX11_wish 4
set_option maxRecDepth 100000 in
set_option maxHeartbeats 4000000 in
theorem mm_X11_wish {l : Launch} {D : va_G} {cA : Nat → ClassId} {ad : Nat → Nat} {Ex : (Nat → Prop) → State → Heap → Prop} (Wd : zzWC l D cA ad Ex) : zz_Cn l D zzCl cA ad zzSC Ex yX11_wish cX11_wish 4 (some .int) 7 104 fX11_wish ∧ zz_Cx l D zzCl cA ad zzSC Ex yX11_wish cX11_wish 4 (some .int) 7 104 fX11_wish := by
  refine zz_meth (plainFor_of_name (by decide)) Wd.1 Wd.2.1 Wd.2.2.1 (fun p e R s m args below meth c rr X => ?_)
  unfold tX11_wish
  refine zz_cons (k' := 1) rfl (zk_aload_n X dX11_wish_0 rfl rfl) ?_
  refine zz_cons (k' := 2) rfl (zk_iload_n X dX11_wish_1 rfl rfl) ?_
  refine zz_cons (k' := 3) rfl (zk_callx X (zz_Cw_of (List.forall_mem_cons.mpr ⟨⟨(RX_9, zzT9, 5), yX11_requireObject, cX11_requireObject, 2, none, 6, 82, rfl, kv_X11_80_9, (mm_X11_requireObject Wd), by decide, by decide⟩, (fun _ h => absurd h List.not_mem_nil)⟩)) dX11_wish_2 rfl) ?_
  refine zz_cons (k' := 4) rfl (zz_Ok_none _ _) ?_
  refine zz_cons (k' := 5) rfl (zz_Ok_none _ _) ?_
  refine zz_cons (k' := 6) rfl (zk_aload_n X dX11_wish_5 rfl rfl) ?_
  refine zz_cons (k' := 7) rfl (zk_iload_n X dX11_wish_6 rfl rfl) ?_
  refine zz_cons (k' := 8) rfl (zk_iconst X dX11_wish_7 (by decide) rfl) ?_
  refine zz_cons (k' := 9) rfl (zk_callx X (zz_Cw_of (List.forall_mem_cons.mpr ⟨⟨(RX_9, zzT9, 5), yX11_requireKind, cX11_requireKind, 3, none, 6, 82, rfl, kv_X11_142_9, (mm_X11_requireKind Wd), by decide, by decide⟩, (fun _ h => absurd h List.not_mem_nil)⟩)) dX11_wish_8 rfl) ?_
  refine zz_cons (k' := 10) rfl (zz_Ok_none _ _) ?_
  refine zz_cons (k' := 11) rfl (zz_Ok_none _ _) ?_
  refine zz_cons (k' := 12) rfl (zk_iload_n X dX11_wish_11 rfl rfl) ?_
  refine zz_cons (k' := 13) rfl (zk_iconst X dX11_wish_12 (by decide) rfl) ?_
  refine zz_cons (k' := 14) rfl (zk_icmp_eq X dX11_wish_13 (by decide) rfl) ?_
  refine zz_cons (k' := 15) rfl (zz_Ok_none _ _) ?_
  refine zz_cons (k' := 16) rfl (zz_Ok_none _ _) ?_
  refine zz_cons (k' := 17) rfl (zk_iconst X dX11_wish_16 (by decide) rfl) ?_
  refine zz_cons (k' := 18) rfl (zk_iload_n X dX11_wish_17 rfl rfl) ?_
  refine zz_cons (k' := 19) rfl (zk_calls X ks_X11_92 (mm_X11_isInRange Wd).1 (by decide) dX11_wish_18 rfl) ?_
  refine zz_cons (k' := 20) rfl (zz_Ok_none _ _) ?_
  refine zz_cons (k' := 21) rfl (zz_Ok_none _ _) ?_
  refine zz_cons (k' := 22) rfl (zk_if_ne X dX11_wish_21 (by decide) rfl) ?_
  refine zz_cons (k' := 23) rfl (zz_Ok_none _ _) ?_
  refine zz_cons (k' := 24) rfl (zz_Ok_none _ _) ?_
  refine zz_cons (k' := 25) rfl (zk_throwW X (th_X11_61_266 Wd) (by decide) dX11_wish_24 dX11_wish_27 dX11_wish_28 dX11_wish_31 dX11_wish_34) ?_
  refine zz_cons (k' := 26) rfl (zz_Ok_none _ _) ?_
  refine zz_cons (k' := 27) rfl (zz_Ok_none _ _) ?_
  refine zz_cons (k' := 28) rfl (zz_Ok_none _ _) ?_
  refine zz_cons (k' := 29) rfl (zz_Ok_none _ _) ?_
  refine zz_cons (k' := 30) rfl (zz_Ok_none _ _) ?_
  refine zz_cons (k' := 31) rfl (zz_Ok_none _ _) ?_
  refine zz_cons (k' := 32) rfl (zz_Ok_none _ _) ?_
  refine zz_cons (k' := 33) rfl (zz_Ok_none _ _) ?_
  refine zz_cons (k' := 34) rfl (zz_Ok_none _ _) ?_
  refine zz_cons (k' := 35) rfl (zz_Ok_none _ _) ?_
  refine zz_cons (k' := 36) rfl (zk_aload_n X dX11_wish_35 rfl rfl) ?_
  refine zz_cons (k' := 37) rfl (zk_getf X ff_X11_51 dX11_wish_36 rfl) ?_
  refine zz_cons (k' := 38) rfl (zz_Ok_none _ _) ?_
  refine zz_cons (k' := 39) rfl (zz_Ok_none _ _) ?_
  refine zz_cons (k' := 40) rfl (zk_iload_n X dX11_wish_39 rfl rfl) ?_
  refine zz_cons (k' := 41) rfl (zk_iald X (zzWC_st Wd) dX11_wish_40 rfl) ?_
  refine zz_cons (k' := 42) rfl (zk_istore_n X dX11_wish_41 rfl (by decide) rfl) ?_
  refine zz_cons (k' := 43) rfl (zk_aload_n X dX11_wish_42 rfl rfl) ?_
  refine zz_cons (k' := 44) rfl (zk_getf X ff_X11_51 dX11_wish_43 rfl) ?_
  refine zz_cons (k' := 45) rfl (zz_Ok_none _ _) ?_
  refine zz_cons (k' := 46) rfl (zz_Ok_none _ _) ?_
  refine zz_cons (k' := 47) rfl (zk_iload_n X dX11_wish_46 rfl rfl) ?_
  refine zz_cons (k' := 48) rfl (zk_iload_n X dX11_wish_47 rfl rfl) ?_
  refine zz_cons (k' := 49) rfl (zk_iast X dX11_wish_48 rfl) ?_
  refine zz_cons (k' := 50) rfl (zk_iload_n X dX11_wish_49 rfl rfl) ?_
  refine zz_cons (k' := 51) rfl (zk_iret X rfl dX11_wish_50) ?_
  exact trivial
noncomputable def tX11_syncHub : List zzOp := [
  zo_pushI 0 1,
  zo_istore 1 2,
  zo_iload 1 3,
  zo_aload 0 4,
  zo_getf zzSC (zz_kf [9] 0) 7,
  zo_none,
  zo_none,
  zo_getf zzSC (zz_kf [8] 2) 10,
  zo_none,
  zo_none,
  zo_icmp (fun x y => decide (y ≤ x)) 64 13,
  zo_none,
  zo_none,
  zo_aload 0 14,
  zo_getf zzSC (zz_kf [9] 4) 17,
  zo_none,
  zo_none,
  zo_if (fun x => decide (¬ x = 0)) 64 20,
  zo_none,
  zo_none,
  zo_aload 0 21,
  zo_getf zzSC (zz_kf [9] 3) 24,
  zo_none,
  zo_none,
  zo_iload 1 25,
  zo_iald zzSC zzSTC 26,
  zo_pushI (-1) 27,
  zo_icmp (fun x y => decide (x = y)) 58 30,
  zo_none,
  zo_none,
  zo_aload 0 31,
  zo_getf zzSC (zz_kf [9] 0) 34,
  zo_none,
  zo_none,
  zo_iload 1 35,
  zo_callv zzSC (zz_cl [(8, fX10_isGone)]) 1 38,
  zo_none,
  zo_none,
  zo_if (fun x => decide (¬ x = 0)) 58 41,
  zo_none,
  zo_none,
  zo_aload 0 42,
  zo_getf zzSC (zz_kf [9] 0) 45,
  zo_none,
  zo_none,
  zo_pushI 5 46,
  zo_iload 1 47,
  zo_pushI 1 48,
  zo_aload 0 49,
  zo_getf zzSC (zz_kf [9] 3) 52,
  zo_none,
  zo_none,
  zo_iload 1 53,
  zo_iald zzSC zzSTC 54,
  zo_callv zzSC (zz_cl [(8, fX9_applyField)]) 4 57,
  zo_none,
  zo_none,
  zo_pop 58,
  zo_iinc 1 1 61,
  zo_none,
  zo_none,
  zo_goto 2,
  zo_none,
  zo_none,
  zo_ret]
set_option maxRecDepth 100000 in
theorem tl_X11_syncHub : ∀ pc, zz_Tl (tX11_syncHub.getD pc zo_none) := by
  refine zz_Tl_mem ?_
  unfold tX11_syncHub
  refine List.forall_mem_cons.mpr ⟨(zo_pushI_tl _ _), ?_⟩
  refine List.forall_mem_cons.mpr ⟨(zo_istore_tl _ _), ?_⟩
  refine List.forall_mem_cons.mpr ⟨(zo_iload_tl _ _), ?_⟩
  refine List.forall_mem_cons.mpr ⟨(zo_aload_tl _ _), ?_⟩
  refine List.forall_mem_cons.mpr ⟨(zo_getf_tl _ _ _), ?_⟩
  refine List.forall_mem_cons.mpr ⟨zo_none_tl, ?_⟩
  refine List.forall_mem_cons.mpr ⟨zo_none_tl, ?_⟩
  refine List.forall_mem_cons.mpr ⟨(zo_getf_tl _ _ _), ?_⟩
  refine List.forall_mem_cons.mpr ⟨zo_none_tl, ?_⟩
  refine List.forall_mem_cons.mpr ⟨zo_none_tl, ?_⟩
  refine List.forall_mem_cons.mpr ⟨(zo_icmp_tl _ _ _), ?_⟩
  refine List.forall_mem_cons.mpr ⟨zo_none_tl, ?_⟩
  refine List.forall_mem_cons.mpr ⟨zo_none_tl, ?_⟩
  refine List.forall_mem_cons.mpr ⟨(zo_aload_tl _ _), ?_⟩
  refine List.forall_mem_cons.mpr ⟨(zo_getf_tl _ _ _), ?_⟩
  refine List.forall_mem_cons.mpr ⟨zo_none_tl, ?_⟩
  refine List.forall_mem_cons.mpr ⟨zo_none_tl, ?_⟩
  refine List.forall_mem_cons.mpr ⟨(zo_if_tl _ _ _), ?_⟩
  refine List.forall_mem_cons.mpr ⟨zo_none_tl, ?_⟩
  refine List.forall_mem_cons.mpr ⟨zo_none_tl, ?_⟩
  refine List.forall_mem_cons.mpr ⟨(zo_aload_tl _ _), ?_⟩
  refine List.forall_mem_cons.mpr ⟨(zo_getf_tl _ _ _), ?_⟩
  refine List.forall_mem_cons.mpr ⟨zo_none_tl, ?_⟩
  refine List.forall_mem_cons.mpr ⟨zo_none_tl, ?_⟩
  refine List.forall_mem_cons.mpr ⟨(zo_iload_tl _ _), ?_⟩
  refine List.forall_mem_cons.mpr ⟨(zo_iald_tl _ _ _), ?_⟩
  refine List.forall_mem_cons.mpr ⟨(zo_pushI_tl _ _), ?_⟩
  refine List.forall_mem_cons.mpr ⟨(zo_icmp_tl _ _ _), ?_⟩
  refine List.forall_mem_cons.mpr ⟨zo_none_tl, ?_⟩
  refine List.forall_mem_cons.mpr ⟨zo_none_tl, ?_⟩
  refine List.forall_mem_cons.mpr ⟨(zo_aload_tl _ _), ?_⟩
  refine List.forall_mem_cons.mpr ⟨(zo_getf_tl _ _ _), ?_⟩
  refine List.forall_mem_cons.mpr ⟨zo_none_tl, ?_⟩
  refine List.forall_mem_cons.mpr ⟨zo_none_tl, ?_⟩
  refine List.forall_mem_cons.mpr ⟨(zo_iload_tl _ _), ?_⟩
  refine List.forall_mem_cons.mpr ⟨(zo_callv_tl _ _ _ _), ?_⟩
  refine List.forall_mem_cons.mpr ⟨zo_none_tl, ?_⟩
  refine List.forall_mem_cons.mpr ⟨zo_none_tl, ?_⟩
  refine List.forall_mem_cons.mpr ⟨(zo_if_tl _ _ _), ?_⟩
  refine List.forall_mem_cons.mpr ⟨zo_none_tl, ?_⟩
  refine List.forall_mem_cons.mpr ⟨zo_none_tl, ?_⟩
  refine List.forall_mem_cons.mpr ⟨(zo_aload_tl _ _), ?_⟩
  refine List.forall_mem_cons.mpr ⟨(zo_getf_tl _ _ _), ?_⟩
  refine List.forall_mem_cons.mpr ⟨zo_none_tl, ?_⟩
  refine List.forall_mem_cons.mpr ⟨zo_none_tl, ?_⟩
  refine List.forall_mem_cons.mpr ⟨(zo_pushI_tl _ _), ?_⟩
  refine List.forall_mem_cons.mpr ⟨(zo_iload_tl _ _), ?_⟩
  refine List.forall_mem_cons.mpr ⟨(zo_pushI_tl _ _), ?_⟩
  refine List.forall_mem_cons.mpr ⟨(zo_aload_tl _ _), ?_⟩
  refine List.forall_mem_cons.mpr ⟨(zo_getf_tl _ _ _), ?_⟩
  refine List.forall_mem_cons.mpr ⟨zo_none_tl, ?_⟩
  refine List.forall_mem_cons.mpr ⟨zo_none_tl, ?_⟩
  refine List.forall_mem_cons.mpr ⟨(zo_iload_tl _ _), ?_⟩
  refine List.forall_mem_cons.mpr ⟨(zo_iald_tl _ _ _), ?_⟩
  refine List.forall_mem_cons.mpr ⟨(zo_callv_tl _ _ _ _), ?_⟩
  refine List.forall_mem_cons.mpr ⟨zo_none_tl, ?_⟩
  refine List.forall_mem_cons.mpr ⟨zo_none_tl, ?_⟩
  refine List.forall_mem_cons.mpr ⟨(zo_pop_tl _), ?_⟩
  refine List.forall_mem_cons.mpr ⟨(zo_iinc_tl _ _ _), ?_⟩
  refine List.forall_mem_cons.mpr ⟨zo_none_tl, ?_⟩
  refine List.forall_mem_cons.mpr ⟨zo_none_tl, ?_⟩
  refine List.forall_mem_cons.mpr ⟨(zo_goto_tl _), ?_⟩
  refine List.forall_mem_cons.mpr ⟨zo_none_tl, ?_⟩
  refine List.forall_mem_cons.mpr ⟨zo_none_tl, ?_⟩
  refine List.forall_mem_cons.mpr ⟨(zo_ret_tl), ?_⟩
  exact fun _ h => absurd h List.not_mem_nil
noncomputable def fX11_syncHub : zzFn := zz_fn tX11_syncHub 2
noncomputable def tX11_hub : List zzOp := [
  zo_aload 0 1,
  zo_iload 1 2,
  zo_putf zzSC (zz_kf [9] 4) true 5,
  zo_none,
  zo_none,
  zo_aload 0 6,
  zo_getf zzSC (zz_kf [9] 0) 9,
  zo_none,
  zo_none,
  zo_getf zzSC (zz_kf [8] 3) 12,
  zo_none,
  zo_none,
  zo_istore 2 13,
  zo_aload 0 14,
  zo_callv zzSC (zz_cl [(9, fX11_syncHub)]) 0 17,
  zo_none,
  zo_none,
  zo_aload 0 18,
  zo_getf zzSC (zz_kf [9] 0) 21,
  zo_none,
  zo_none,
  zo_getf zzSC (zz_kf [8] 3) 24,
  zo_none,
  zo_none,
  zo_iload 2 25,
  zo_ii (fun x y => x - y) 26,
  zo_iret false]
set_option maxRecDepth 100000 in
theorem tl_X11_hub : ∀ pc, zz_Tl (tX11_hub.getD pc zo_none) := by
  refine zz_Tl_mem ?_
  unfold tX11_hub
  refine List.forall_mem_cons.mpr ⟨(zo_aload_tl _ _), ?_⟩
  refine List.forall_mem_cons.mpr ⟨(zo_iload_tl _ _), ?_⟩
  refine List.forall_mem_cons.mpr ⟨(zo_putf_tl _ _ _ _), ?_⟩
  refine List.forall_mem_cons.mpr ⟨zo_none_tl, ?_⟩
  refine List.forall_mem_cons.mpr ⟨zo_none_tl, ?_⟩
  refine List.forall_mem_cons.mpr ⟨(zo_aload_tl _ _), ?_⟩
  refine List.forall_mem_cons.mpr ⟨(zo_getf_tl _ _ _), ?_⟩
  refine List.forall_mem_cons.mpr ⟨zo_none_tl, ?_⟩
  refine List.forall_mem_cons.mpr ⟨zo_none_tl, ?_⟩
  refine List.forall_mem_cons.mpr ⟨(zo_getf_tl _ _ _), ?_⟩
  refine List.forall_mem_cons.mpr ⟨zo_none_tl, ?_⟩
  refine List.forall_mem_cons.mpr ⟨zo_none_tl, ?_⟩
  refine List.forall_mem_cons.mpr ⟨(zo_istore_tl _ _), ?_⟩
  refine List.forall_mem_cons.mpr ⟨(zo_aload_tl _ _), ?_⟩
  refine List.forall_mem_cons.mpr ⟨(zo_callv_tl _ _ _ _), ?_⟩
  refine List.forall_mem_cons.mpr ⟨zo_none_tl, ?_⟩
  refine List.forall_mem_cons.mpr ⟨zo_none_tl, ?_⟩
  refine List.forall_mem_cons.mpr ⟨(zo_aload_tl _ _), ?_⟩
  refine List.forall_mem_cons.mpr ⟨(zo_getf_tl _ _ _), ?_⟩
  refine List.forall_mem_cons.mpr ⟨zo_none_tl, ?_⟩
  refine List.forall_mem_cons.mpr ⟨zo_none_tl, ?_⟩
  refine List.forall_mem_cons.mpr ⟨(zo_getf_tl _ _ _), ?_⟩
  refine List.forall_mem_cons.mpr ⟨zo_none_tl, ?_⟩
  refine List.forall_mem_cons.mpr ⟨zo_none_tl, ?_⟩
  refine List.forall_mem_cons.mpr ⟨(zo_iload_tl _ _), ?_⟩
  refine List.forall_mem_cons.mpr ⟨(zo_ii_tl _ _), ?_⟩
  refine List.forall_mem_cons.mpr ⟨(zo_iret_tl _), ?_⟩
  exact fun _ h => absurd h List.not_mem_nil
noncomputable def fX11_hub : zzFn := zz_fn tX11_hub 3
noncomputable def tX11_objects : List zzOp := [
  zo_aload 0 1,
  zo_getf zzSC (zz_kf [9] 0) 4,
  zo_none,
  zo_none,
  zo_getf zzSC (zz_kf [8] 2) 7,
  zo_none,
  zo_none,
  zo_iret false]
set_option maxRecDepth 100000 in
theorem tl_X11_objects : ∀ pc, zz_Tl (tX11_objects.getD pc zo_none) := by
  refine zz_Tl_mem ?_
  unfold tX11_objects
  refine List.forall_mem_cons.mpr ⟨(zo_aload_tl _ _), ?_⟩
  refine List.forall_mem_cons.mpr ⟨(zo_getf_tl _ _ _), ?_⟩
  refine List.forall_mem_cons.mpr ⟨zo_none_tl, ?_⟩
  refine List.forall_mem_cons.mpr ⟨zo_none_tl, ?_⟩
  refine List.forall_mem_cons.mpr ⟨(zo_getf_tl _ _ _), ?_⟩
  refine List.forall_mem_cons.mpr ⟨zo_none_tl, ?_⟩
  refine List.forall_mem_cons.mpr ⟨zo_none_tl, ?_⟩
  refine List.forall_mem_cons.mpr ⟨(zo_iret_tl _), ?_⟩
  exact fun _ h => absurd h List.not_mem_nil
noncomputable def fX11_objects : zzFn := zz_fn tX11_objects 1
set_option maxRecDepth 100000 in
set_option maxHeartbeats 4000000 in
theorem mm_X11_objects {l : Launch} {D : va_G} {cA : Nat → ClassId} {ad : Nat → Nat} {Ex : (Nat → Prop) → State → Heap → Prop} (Wd : zzWC l D cA ad Ex) : zz_Cn l D zzCl cA ad zzSC Ex yX11_objects cX11_objects 1 (some .int) 0 0 fX11_objects ∧ zz_Cx l D zzCl cA ad zzSC Ex yX11_objects cX11_objects 1 (some .int) 0 0 fX11_objects := by
  refine zz_meth (plainFor_of_name (by decide)) Wd.1 Wd.2.1 Wd.2.2.1 (fun p e R s m args below meth c rr X => ?_)
  unfold tX11_objects
  refine zz_cons (k' := 1) rfl (zk_aload_n X dX11_objects_0 rfl rfl) ?_
  refine zz_cons (k' := 2) rfl (zk_getf X ff_X11_10 dX11_objects_1 rfl) ?_
  refine zz_cons (k' := 3) rfl (zz_Ok_none _ _) ?_
  refine zz_cons (k' := 4) rfl (zz_Ok_none _ _) ?_
  refine zz_cons (k' := 5) rfl (zk_getf X ff_X11_243 dX11_objects_4 rfl) ?_
  refine zz_cons (k' := 6) rfl (zz_Ok_none _ _) ?_
  refine zz_cons (k' := 7) rfl (zz_Ok_none _ _) ?_
  refine zz_cons (k' := 8) rfl (zk_iret X rfl dX11_objects_7) ?_
  exact trivial
noncomputable def tX11_version : List zzOp := [
  zo_aload 0 1,
  zo_getf zzSC (zz_kf [9] 0) 4,
  zo_none,
  zo_none,
  zo_getf zzSC (zz_kf [8] 3) 7,
  zo_none,
  zo_none,
  zo_iret false]
set_option maxRecDepth 100000 in
theorem tl_X11_version : ∀ pc, zz_Tl (tX11_version.getD pc zo_none) := by
  refine zz_Tl_mem ?_
  unfold tX11_version
  refine List.forall_mem_cons.mpr ⟨(zo_aload_tl _ _), ?_⟩
  refine List.forall_mem_cons.mpr ⟨(zo_getf_tl _ _ _), ?_⟩
  refine List.forall_mem_cons.mpr ⟨zo_none_tl, ?_⟩
  refine List.forall_mem_cons.mpr ⟨zo_none_tl, ?_⟩
  refine List.forall_mem_cons.mpr ⟨(zo_getf_tl _ _ _), ?_⟩
  refine List.forall_mem_cons.mpr ⟨zo_none_tl, ?_⟩
  refine List.forall_mem_cons.mpr ⟨zo_none_tl, ?_⟩
  refine List.forall_mem_cons.mpr ⟨(zo_iret_tl _), ?_⟩
  exact fun _ h => absurd h List.not_mem_nil
noncomputable def fX11_version : zzFn := zz_fn tX11_version 1
set_option maxRecDepth 100000 in
set_option maxHeartbeats 4000000 in
theorem mm_X11_version {l : Launch} {D : va_G} {cA : Nat → ClassId} {ad : Nat → Nat} {Ex : (Nat → Prop) → State → Heap → Prop} (Wd : zzWC l D cA ad Ex) : zz_Cn l D zzCl cA ad zzSC Ex yX11_version cX11_version 1 (some .int) 0 0 fX11_version ∧ zz_Cx l D zzCl cA ad zzSC Ex yX11_version cX11_version 1 (some .int) 0 0 fX11_version := by
  refine zz_meth (plainFor_of_name (by decide)) Wd.1 Wd.2.1 Wd.2.2.1 (fun p e R s m args below meth c rr X => ?_)
  unfold tX11_version
  refine zz_cons (k' := 1) rfl (zk_aload_n X dX11_version_0 rfl rfl) ?_
  refine zz_cons (k' := 2) rfl (zk_getf X ff_X11_10 dX11_version_1 rfl) ?_
  refine zz_cons (k' := 3) rfl (zz_Ok_none _ _) ?_
  refine zz_cons (k' := 4) rfl (zz_Ok_none _ _) ?_
  refine zz_cons (k' := 5) rfl (zk_getf X ff_X11_201 dX11_version_4 rfl) ?_
  refine zz_cons (k' := 6) rfl (zz_Ok_none _ _) ?_
  refine zz_cons (k' := 7) rfl (zz_Ok_none _ _) ?_
  refine zz_cons (k' := 8) rfl (zk_iret X rfl dX11_version_7) ?_
  exact trivial
noncomputable def tX11_kindOf : List zzOp := [
  zo_aload 0 1,
  zo_iload 1 2,
  zo_callx zzSC (zz_cl [(9, fX11_requireObject)]) 1 5,
  zo_none,
  zo_none,
  zo_aload 0 6,
  zo_getf zzSC (zz_kf [9] 0) 9,
  zo_none,
  zo_none,
  zo_iload 1 10,
  zo_pushI 23 12,
  zo_none,
  zo_callv zzSC (zz_cl [(8, fX10_read)]) 2 15,
  zo_none,
  zo_none,
  zo_iret false]
set_option maxRecDepth 100000 in
theorem tl_X11_kindOf : ∀ pc, zz_Tl (tX11_kindOf.getD pc zo_none) := by
  refine zz_Tl_mem ?_
  unfold tX11_kindOf
  refine List.forall_mem_cons.mpr ⟨(zo_aload_tl _ _), ?_⟩
  refine List.forall_mem_cons.mpr ⟨(zo_iload_tl _ _), ?_⟩
  refine List.forall_mem_cons.mpr ⟨(zo_callx_tl _ _ _ _), ?_⟩
  refine List.forall_mem_cons.mpr ⟨zo_none_tl, ?_⟩
  refine List.forall_mem_cons.mpr ⟨zo_none_tl, ?_⟩
  refine List.forall_mem_cons.mpr ⟨(zo_aload_tl _ _), ?_⟩
  refine List.forall_mem_cons.mpr ⟨(zo_getf_tl _ _ _), ?_⟩
  refine List.forall_mem_cons.mpr ⟨zo_none_tl, ?_⟩
  refine List.forall_mem_cons.mpr ⟨zo_none_tl, ?_⟩
  refine List.forall_mem_cons.mpr ⟨(zo_iload_tl _ _), ?_⟩
  refine List.forall_mem_cons.mpr ⟨(zo_pushI_tl _ _), ?_⟩
  refine List.forall_mem_cons.mpr ⟨zo_none_tl, ?_⟩
  refine List.forall_mem_cons.mpr ⟨(zo_callv_tl _ _ _ _), ?_⟩
  refine List.forall_mem_cons.mpr ⟨zo_none_tl, ?_⟩
  refine List.forall_mem_cons.mpr ⟨zo_none_tl, ?_⟩
  refine List.forall_mem_cons.mpr ⟨(zo_iret_tl _), ?_⟩
  exact fun _ h => absurd h List.not_mem_nil
noncomputable def fX11_kindOf : zzFn := zz_fn tX11_kindOf 2
set_option maxRecDepth 100000 in
set_option maxHeartbeats 4000000 in
theorem mm_X11_kindOf {l : Launch} {D : va_G} {cA : Nat → ClassId} {ad : Nat → Nat} {Ex : (Nat → Prop) → State → Heap → Prop} (Wd : zzWC l D cA ad Ex) : zz_Cn l D zzCl cA ad zzSC Ex yX11_kindOf cX11_kindOf 2 (some .int) 7 103 fX11_kindOf ∧ zz_Cx l D zzCl cA ad zzSC Ex yX11_kindOf cX11_kindOf 2 (some .int) 7 103 fX11_kindOf := by
  refine zz_meth (plainFor_of_name (by decide)) Wd.1 Wd.2.1 Wd.2.2.1 (fun p e R s m args below meth c rr X => ?_)
  unfold tX11_kindOf
  refine zz_cons (k' := 1) rfl (zk_aload_n X dX11_kindOf_0 rfl rfl) ?_
  refine zz_cons (k' := 2) rfl (zk_iload_n X dX11_kindOf_1 rfl rfl) ?_
  refine zz_cons (k' := 3) rfl (zk_callx X (zz_Cw_of (List.forall_mem_cons.mpr ⟨⟨(RX_9, zzT9, 5), yX11_requireObject, cX11_requireObject, 2, none, 6, 82, rfl, kv_X11_80_9, (mm_X11_requireObject Wd), by decide, by decide⟩, (fun _ h => absurd h List.not_mem_nil)⟩)) dX11_kindOf_2 rfl) ?_
  refine zz_cons (k' := 4) rfl (zz_Ok_none _ _) ?_
  refine zz_cons (k' := 5) rfl (zz_Ok_none _ _) ?_
  refine zz_cons (k' := 6) rfl (zk_aload_n X dX11_kindOf_5 rfl rfl) ?_
  refine zz_cons (k' := 7) rfl (zk_getf X ff_X11_10 dX11_kindOf_6 rfl) ?_
  refine zz_cons (k' := 8) rfl (zz_Ok_none _ _) ?_
  refine zz_cons (k' := 9) rfl (zz_Ok_none _ _) ?_
  refine zz_cons (k' := 10) rfl (zk_iload_n X dX11_kindOf_9 rfl rfl) ?_
  refine zz_cons (k' := 11) rfl (zk_bipush X dX11_kindOf_10 (by decide) rfl) ?_
  refine zz_cons (k' := 12) rfl (zz_Ok_none _ _) ?_
  refine zz_cons (k' := 13) rfl (zk_callv X (zz_Cv_of (List.forall_mem_cons.mpr ⟨⟨(RX_8, zzT8, 9), yX10_read, cX10_read, 3, (some .int), 0, 0, rfl, kv_X11_84_8, (mm_X10_read Wd).1, by decide, by decide⟩, (fun _ h => absurd h List.not_mem_nil)⟩)) dX11_kindOf_12 rfl) ?_
  refine zz_cons (k' := 14) rfl (zz_Ok_none _ _) ?_
  refine zz_cons (k' := 15) rfl (zz_Ok_none _ _) ?_
  refine zz_cons (k' := 16) rfl (zk_iret X rfl dX11_kindOf_15) ?_
  exact trivial
noncomputable def tX11_field : List zzOp := [
  zo_aload 0 1,
  zo_iload 1 2,
  zo_callx zzSC (zz_cl [(9, fX11_requireObject)]) 1 5,
  zo_none,
  zo_none,
  zo_aload 0 6,
  zo_iload 1 7,
  zo_iload 2 8,
  zo_callx zzSC (zz_cl [(9, fX11_requireField)]) 2 11,
  zo_none,
  zo_none,
  zo_aload 0 12,
  zo_getf zzSC (zz_kf [9] 0) 15,
  zo_none,
  zo_none,
  zo_iload 1 16,
  zo_iload 2 17,
  zo_callv zzSC (zz_cl [(8, fX10_read)]) 2 20,
  zo_none,
  zo_none,
  zo_iret false]
set_option maxRecDepth 100000 in
theorem tl_X11_field : ∀ pc, zz_Tl (tX11_field.getD pc zo_none) := by
  refine zz_Tl_mem ?_
  unfold tX11_field
  refine List.forall_mem_cons.mpr ⟨(zo_aload_tl _ _), ?_⟩
  refine List.forall_mem_cons.mpr ⟨(zo_iload_tl _ _), ?_⟩
  refine List.forall_mem_cons.mpr ⟨(zo_callx_tl _ _ _ _), ?_⟩
  refine List.forall_mem_cons.mpr ⟨zo_none_tl, ?_⟩
  refine List.forall_mem_cons.mpr ⟨zo_none_tl, ?_⟩
  refine List.forall_mem_cons.mpr ⟨(zo_aload_tl _ _), ?_⟩
  refine List.forall_mem_cons.mpr ⟨(zo_iload_tl _ _), ?_⟩
  refine List.forall_mem_cons.mpr ⟨(zo_iload_tl _ _), ?_⟩
  refine List.forall_mem_cons.mpr ⟨(zo_callx_tl _ _ _ _), ?_⟩
  refine List.forall_mem_cons.mpr ⟨zo_none_tl, ?_⟩
  refine List.forall_mem_cons.mpr ⟨zo_none_tl, ?_⟩
  refine List.forall_mem_cons.mpr ⟨(zo_aload_tl _ _), ?_⟩
  refine List.forall_mem_cons.mpr ⟨(zo_getf_tl _ _ _), ?_⟩
  refine List.forall_mem_cons.mpr ⟨zo_none_tl, ?_⟩
  refine List.forall_mem_cons.mpr ⟨zo_none_tl, ?_⟩
  refine List.forall_mem_cons.mpr ⟨(zo_iload_tl _ _), ?_⟩
  refine List.forall_mem_cons.mpr ⟨(zo_iload_tl _ _), ?_⟩
  refine List.forall_mem_cons.mpr ⟨(zo_callv_tl _ _ _ _), ?_⟩
  refine List.forall_mem_cons.mpr ⟨zo_none_tl, ?_⟩
  refine List.forall_mem_cons.mpr ⟨zo_none_tl, ?_⟩
  refine List.forall_mem_cons.mpr ⟨(zo_iret_tl _), ?_⟩
  exact fun _ h => absurd h List.not_mem_nil
noncomputable def fX11_field : zzFn := zz_fn tX11_field 3
set_option maxRecDepth 100000 in
set_option maxHeartbeats 4000000 in
theorem mm_X11_field {l : Launch} {D : va_G} {cA : Nat → ClassId} {ad : Nat → Nat} {Ex : (Nat → Prop) → State → Heap → Prop} (Wd : zzWC l D cA ad Ex) : zz_Cn l D zzCl cA ad zzSC Ex yX11_field cX11_field 3 (some .int) 7 104 fX11_field ∧ zz_Cx l D zzCl cA ad zzSC Ex yX11_field cX11_field 3 (some .int) 7 104 fX11_field := by
  refine zz_meth (plainFor_of_name (by decide)) Wd.1 Wd.2.1 Wd.2.2.1 (fun p e R s m args below meth c rr X => ?_)
  unfold tX11_field
  refine zz_cons (k' := 1) rfl (zk_aload_n X dX11_field_0 rfl rfl) ?_
  refine zz_cons (k' := 2) rfl (zk_iload_n X dX11_field_1 rfl rfl) ?_
  refine zz_cons (k' := 3) rfl (zk_callx X (zz_Cw_of (List.forall_mem_cons.mpr ⟨⟨(RX_9, zzT9, 5), yX11_requireObject, cX11_requireObject, 2, none, 6, 82, rfl, kv_X11_80_9, (mm_X11_requireObject Wd), by decide, by decide⟩, (fun _ h => absurd h List.not_mem_nil)⟩)) dX11_field_2 rfl) ?_
  refine zz_cons (k' := 4) rfl (zz_Ok_none _ _) ?_
  refine zz_cons (k' := 5) rfl (zz_Ok_none _ _) ?_
  refine zz_cons (k' := 6) rfl (zk_aload_n X dX11_field_5 rfl rfl) ?_
  refine zz_cons (k' := 7) rfl (zk_iload_n X dX11_field_6 rfl rfl) ?_
  refine zz_cons (k' := 8) rfl (zk_iload_n X dX11_field_7 rfl rfl) ?_
  refine zz_cons (k' := 9) rfl (zk_callx X (zz_Cw_of (List.forall_mem_cons.mpr ⟨⟨(RX_9, zzT9, 5), yX11_requireField, cX11_requireField, 3, none, 6, 82, rfl, kv_X11_219_9, (mm_X11_requireField Wd), by decide, by decide⟩, (fun _ h => absurd h List.not_mem_nil)⟩)) dX11_field_8 rfl) ?_
  refine zz_cons (k' := 10) rfl (zz_Ok_none _ _) ?_
  refine zz_cons (k' := 11) rfl (zz_Ok_none _ _) ?_
  refine zz_cons (k' := 12) rfl (zk_aload_n X dX11_field_11 rfl rfl) ?_
  refine zz_cons (k' := 13) rfl (zk_getf X ff_X11_10 dX11_field_12 rfl) ?_
  refine zz_cons (k' := 14) rfl (zz_Ok_none _ _) ?_
  refine zz_cons (k' := 15) rfl (zz_Ok_none _ _) ?_
  refine zz_cons (k' := 16) rfl (zk_iload_n X dX11_field_15 rfl rfl) ?_
  refine zz_cons (k' := 17) rfl (zk_iload_n X dX11_field_16 rfl rfl) ?_
  refine zz_cons (k' := 18) rfl (zk_callv X (zz_Cv_of (List.forall_mem_cons.mpr ⟨⟨(RX_8, zzT8, 9), yX10_read, cX10_read, 3, (some .int), 0, 0, rfl, kv_X11_84_8, (mm_X10_read Wd).1, by decide, by decide⟩, (fun _ h => absurd h List.not_mem_nil)⟩)) dX11_field_17 rfl) ?_
  refine zz_cons (k' := 19) rfl (zz_Ok_none _ _) ?_
  refine zz_cons (k' := 20) rfl (zz_Ok_none _ _) ?_
  refine zz_cons (k' := 21) rfl (zk_iret X rfl dX11_field_20) ?_
  exact trivial
noncomputable def tX11_managerOf : List zzOp := [
  zo_aload 0 1,
  zo_iload 1 2,
  zo_callx zzSC (zz_cl [(9, fX11_requireObject)]) 1 5,
  zo_none,
  zo_none,
  zo_aload 0 6,
  zo_iload 1 7,
  zo_iload 2 8,
  zo_callx zzSC (zz_cl [(9, fX11_requireField)]) 2 11,
  zo_none,
  zo_none,
  zo_aload 0 12,
  zo_getf zzSC (zz_kf [9] 0) 15,
  zo_none,
  zo_none,
  zo_iload 1 16,
  zo_pushI 11 18,
  zo_none,
  zo_iload 2 19,
  zo_ii (fun x y => x + y) 20,
  zo_callv zzSC (zz_cl [(8, fX10_read)]) 2 23,
  zo_none,
  zo_none,
  zo_iret false]
set_option maxRecDepth 100000 in
theorem tl_X11_managerOf : ∀ pc, zz_Tl (tX11_managerOf.getD pc zo_none) := by
  refine zz_Tl_mem ?_
  unfold tX11_managerOf
  refine List.forall_mem_cons.mpr ⟨(zo_aload_tl _ _), ?_⟩
  refine List.forall_mem_cons.mpr ⟨(zo_iload_tl _ _), ?_⟩
  refine List.forall_mem_cons.mpr ⟨(zo_callx_tl _ _ _ _), ?_⟩
  refine List.forall_mem_cons.mpr ⟨zo_none_tl, ?_⟩
  refine List.forall_mem_cons.mpr ⟨zo_none_tl, ?_⟩
  refine List.forall_mem_cons.mpr ⟨(zo_aload_tl _ _), ?_⟩
  refine List.forall_mem_cons.mpr ⟨(zo_iload_tl _ _), ?_⟩
  refine List.forall_mem_cons.mpr ⟨(zo_iload_tl _ _), ?_⟩
  refine List.forall_mem_cons.mpr ⟨(zo_callx_tl _ _ _ _), ?_⟩
  refine List.forall_mem_cons.mpr ⟨zo_none_tl, ?_⟩
  refine List.forall_mem_cons.mpr ⟨zo_none_tl, ?_⟩
  refine List.forall_mem_cons.mpr ⟨(zo_aload_tl _ _), ?_⟩
  refine List.forall_mem_cons.mpr ⟨(zo_getf_tl _ _ _), ?_⟩
  refine List.forall_mem_cons.mpr ⟨zo_none_tl, ?_⟩
  refine List.forall_mem_cons.mpr ⟨zo_none_tl, ?_⟩
  refine List.forall_mem_cons.mpr ⟨(zo_iload_tl _ _), ?_⟩
  refine List.forall_mem_cons.mpr ⟨(zo_pushI_tl _ _), ?_⟩
  refine List.forall_mem_cons.mpr ⟨zo_none_tl, ?_⟩
  refine List.forall_mem_cons.mpr ⟨(zo_iload_tl _ _), ?_⟩
  refine List.forall_mem_cons.mpr ⟨(zo_ii_tl _ _), ?_⟩
  refine List.forall_mem_cons.mpr ⟨(zo_callv_tl _ _ _ _), ?_⟩
  refine List.forall_mem_cons.mpr ⟨zo_none_tl, ?_⟩
  refine List.forall_mem_cons.mpr ⟨zo_none_tl, ?_⟩
  refine List.forall_mem_cons.mpr ⟨(zo_iret_tl _), ?_⟩
  exact fun _ h => absurd h List.not_mem_nil
noncomputable def fX11_managerOf : zzFn := zz_fn tX11_managerOf 3
set_option maxRecDepth 100000 in
set_option maxHeartbeats 4000000 in
theorem mm_X11_managerOf {l : Launch} {D : va_G} {cA : Nat → ClassId} {ad : Nat → Nat} {Ex : (Nat → Prop) → State → Heap → Prop} (Wd : zzWC l D cA ad Ex) : zz_Cn l D zzCl cA ad zzSC Ex yX11_managerOf cX11_managerOf 3 (some .int) 7 104 fX11_managerOf ∧ zz_Cx l D zzCl cA ad zzSC Ex yX11_managerOf cX11_managerOf 3 (some .int) 7 104 fX11_managerOf := by
  refine zz_meth (plainFor_of_name (by decide)) Wd.1 Wd.2.1 Wd.2.2.1 (fun p e R s m args below meth c rr X => ?_)
  unfold tX11_managerOf
  refine zz_cons (k' := 1) rfl (zk_aload_n X dX11_managerOf_0 rfl rfl) ?_
  refine zz_cons (k' := 2) rfl (zk_iload_n X dX11_managerOf_1 rfl rfl) ?_
  refine zz_cons (k' := 3) rfl (zk_callx X (zz_Cw_of (List.forall_mem_cons.mpr ⟨⟨(RX_9, zzT9, 5), yX11_requireObject, cX11_requireObject, 2, none, 6, 82, rfl, kv_X11_80_9, (mm_X11_requireObject Wd), by decide, by decide⟩, (fun _ h => absurd h List.not_mem_nil)⟩)) dX11_managerOf_2 rfl) ?_
  refine zz_cons (k' := 4) rfl (zz_Ok_none _ _) ?_
  refine zz_cons (k' := 5) rfl (zz_Ok_none _ _) ?_
  refine zz_cons (k' := 6) rfl (zk_aload_n X dX11_managerOf_5 rfl rfl) ?_
  refine zz_cons (k' := 7) rfl (zk_iload_n X dX11_managerOf_6 rfl rfl) ?_
  refine zz_cons (k' := 8) rfl (zk_iload_n X dX11_managerOf_7 rfl rfl) ?_
  refine zz_cons (k' := 9) rfl (zk_callx X (zz_Cw_of (List.forall_mem_cons.mpr ⟨⟨(RX_9, zzT9, 5), yX11_requireField, cX11_requireField, 3, none, 6, 82, rfl, kv_X11_219_9, (mm_X11_requireField Wd), by decide, by decide⟩, (fun _ h => absurd h List.not_mem_nil)⟩)) dX11_managerOf_8 rfl) ?_
  refine zz_cons (k' := 10) rfl (zz_Ok_none _ _) ?_
  refine zz_cons (k' := 11) rfl (zz_Ok_none _ _) ?_
  refine zz_cons (k' := 12) rfl (zk_aload_n X dX11_managerOf_11 rfl rfl) ?_
  refine zz_cons (k' := 13) rfl (zk_getf X ff_X11_10 dX11_managerOf_12 rfl) ?_
  refine zz_cons (k' := 14) rfl (zz_Ok_none _ _) ?_
  refine zz_cons (k' := 15) rfl (zz_Ok_none _ _) ?_
  refine zz_cons (k' := 16) rfl (zk_iload_n X dX11_managerOf_15 rfl rfl) ?_
  refine zz_cons (k' := 17) rfl (zk_bipush X dX11_managerOf_16 (by decide) rfl) ?_
  refine zz_cons (k' := 18) rfl (zz_Ok_none _ _) ?_
  refine zz_cons (k' := 19) rfl (zk_iload_n X dX11_managerOf_18 rfl rfl) ?_
  refine zz_cons (k' := 20) rfl (zk_iadd X dX11_managerOf_19 rfl) ?_
  refine zz_cons (k' := 21) rfl (zk_callv X (zz_Cv_of (List.forall_mem_cons.mpr ⟨⟨(RX_8, zzT8, 9), yX10_read, cX10_read, 3, (some .int), 0, 0, rfl, kv_X11_84_8, (mm_X10_read Wd).1, by decide, by decide⟩, (fun _ h => absurd h List.not_mem_nil)⟩)) dX11_managerOf_20 rfl) ?_
  refine zz_cons (k' := 22) rfl (zz_Ok_none _ _) ?_
  refine zz_cons (k' := 23) rfl (zz_Ok_none _ _) ?_
  refine zz_cons (k' := 24) rfl (zk_iret X rfl dX11_managerOf_23) ?_
  exact trivial
noncomputable def tX11_budget : List zzOp := [
  zo_aload 0 1,
  zo_iload 1 2,
  zo_callx zzSC (zz_cl [(9, fX11_requireObject)]) 1 5,
  zo_none,
  zo_none,
  zo_aload 0 6,
  zo_iload 1 7,
  zo_pushI 0 8,
  zo_callx zzSC (zz_cl [(9, fX11_requireKind)]) 2 11,
  zo_none,
  zo_none,
  zo_pushI 10 13,
  zo_none,
  zo_aload 0 14,
  zo_getf zzSC (zz_kf [9] 0) 17,
  zo_none,
  zo_none,
  zo_iload 1 18,
  zo_pushI 2 19,
  zo_callv zzSC (zz_cl [(8, fX10_read)]) 2 22,
  zo_none,
  zo_none,
  zo_ii (fun x y => x * y) 23,
  zo_aload 0 24,
  zo_getf zzSC (zz_kf [9] 0) 27,
  zo_none,
  zo_none,
  zo_iload 1 28,
  zo_pushI 3 29,
  zo_callv zzSC (zz_cl [(8, fX10_read)]) 2 32,
  zo_none,
  zo_none,
  zo_ii (fun x y => x + y) 33,
  zo_iret false]
set_option maxRecDepth 100000 in
theorem tl_X11_budget : ∀ pc, zz_Tl (tX11_budget.getD pc zo_none) := by
  refine zz_Tl_mem ?_
  unfold tX11_budget
  refine List.forall_mem_cons.mpr ⟨(zo_aload_tl _ _), ?_⟩
  refine List.forall_mem_cons.mpr ⟨(zo_iload_tl _ _), ?_⟩
  refine List.forall_mem_cons.mpr ⟨(zo_callx_tl _ _ _ _), ?_⟩
  refine List.forall_mem_cons.mpr ⟨zo_none_tl, ?_⟩
  refine List.forall_mem_cons.mpr ⟨zo_none_tl, ?_⟩
  refine List.forall_mem_cons.mpr ⟨(zo_aload_tl _ _), ?_⟩
  refine List.forall_mem_cons.mpr ⟨(zo_iload_tl _ _), ?_⟩
  refine List.forall_mem_cons.mpr ⟨(zo_pushI_tl _ _), ?_⟩
  refine List.forall_mem_cons.mpr ⟨(zo_callx_tl _ _ _ _), ?_⟩
  refine List.forall_mem_cons.mpr ⟨zo_none_tl, ?_⟩
  refine List.forall_mem_cons.mpr ⟨zo_none_tl, ?_⟩
  refine List.forall_mem_cons.mpr ⟨(zo_pushI_tl _ _), ?_⟩
  refine List.forall_mem_cons.mpr ⟨zo_none_tl, ?_⟩
  refine List.forall_mem_cons.mpr ⟨(zo_aload_tl _ _), ?_⟩
  refine List.forall_mem_cons.mpr ⟨(zo_getf_tl _ _ _), ?_⟩
  refine List.forall_mem_cons.mpr ⟨zo_none_tl, ?_⟩
  refine List.forall_mem_cons.mpr ⟨zo_none_tl, ?_⟩
  refine List.forall_mem_cons.mpr ⟨(zo_iload_tl _ _), ?_⟩
  refine List.forall_mem_cons.mpr ⟨(zo_pushI_tl _ _), ?_⟩
  refine List.forall_mem_cons.mpr ⟨(zo_callv_tl _ _ _ _), ?_⟩
  refine List.forall_mem_cons.mpr ⟨zo_none_tl, ?_⟩
  refine List.forall_mem_cons.mpr ⟨zo_none_tl, ?_⟩
  refine List.forall_mem_cons.mpr ⟨(zo_ii_tl _ _), ?_⟩
  refine List.forall_mem_cons.mpr ⟨(zo_aload_tl _ _), ?_⟩
  refine List.forall_mem_cons.mpr ⟨(zo_getf_tl _ _ _), ?_⟩
  refine List.forall_mem_cons.mpr ⟨zo_none_tl, ?_⟩
  refine List.forall_mem_cons.mpr ⟨zo_none_tl, ?_⟩
  refine List.forall_mem_cons.mpr ⟨(zo_iload_tl _ _), ?_⟩
  refine List.forall_mem_cons.mpr ⟨(zo_pushI_tl _ _), ?_⟩
  refine List.forall_mem_cons.mpr ⟨(zo_callv_tl _ _ _ _), ?_⟩
  refine List.forall_mem_cons.mpr ⟨zo_none_tl, ?_⟩
  refine List.forall_mem_cons.mpr ⟨zo_none_tl, ?_⟩
  refine List.forall_mem_cons.mpr ⟨(zo_ii_tl _ _), ?_⟩
  refine List.forall_mem_cons.mpr ⟨(zo_iret_tl _), ?_⟩
  exact fun _ h => absurd h List.not_mem_nil
noncomputable def fX11_budget : zzFn := zz_fn tX11_budget 2
set_option maxRecDepth 100000 in
set_option maxHeartbeats 4000000 in
theorem mm_X11_budget {l : Launch} {D : va_G} {cA : Nat → ClassId} {ad : Nat → Nat} {Ex : (Nat → Prop) → State → Heap → Prop} (Wd : zzWC l D cA ad Ex) : zz_Cn l D zzCl cA ad zzSC Ex yX11_budget cX11_budget 2 (some .int) 7 104 fX11_budget ∧ zz_Cx l D zzCl cA ad zzSC Ex yX11_budget cX11_budget 2 (some .int) 7 104 fX11_budget := by
  refine zz_meth (plainFor_of_name (by decide)) Wd.1 Wd.2.1 Wd.2.2.1 (fun p e R s m args below meth c rr X => ?_)
  unfold tX11_budget
  refine zz_cons (k' := 1) rfl (zk_aload_n X dX11_budget_0 rfl rfl) ?_
  refine zz_cons (k' := 2) rfl (zk_iload_n X dX11_budget_1 rfl rfl) ?_
  refine zz_cons (k' := 3) rfl (zk_callx X (zz_Cw_of (List.forall_mem_cons.mpr ⟨⟨(RX_9, zzT9, 5), yX11_requireObject, cX11_requireObject, 2, none, 6, 82, rfl, kv_X11_80_9, (mm_X11_requireObject Wd), by decide, by decide⟩, (fun _ h => absurd h List.not_mem_nil)⟩)) dX11_budget_2 rfl) ?_
  refine zz_cons (k' := 4) rfl (zz_Ok_none _ _) ?_
  refine zz_cons (k' := 5) rfl (zz_Ok_none _ _) ?_
  refine zz_cons (k' := 6) rfl (zk_aload_n X dX11_budget_5 rfl rfl) ?_
  refine zz_cons (k' := 7) rfl (zk_iload_n X dX11_budget_6 rfl rfl) ?_
  refine zz_cons (k' := 8) rfl (zk_iconst X dX11_budget_7 (by decide) rfl) ?_
  refine zz_cons (k' := 9) rfl (zk_callx X (zz_Cw_of (List.forall_mem_cons.mpr ⟨⟨(RX_9, zzT9, 5), yX11_requireKind, cX11_requireKind, 3, none, 6, 82, rfl, kv_X11_142_9, (mm_X11_requireKind Wd), by decide, by decide⟩, (fun _ h => absurd h List.not_mem_nil)⟩)) dX11_budget_8 rfl) ?_
  refine zz_cons (k' := 10) rfl (zz_Ok_none _ _) ?_
  refine zz_cons (k' := 11) rfl (zz_Ok_none _ _) ?_
  refine zz_cons (k' := 12) rfl (zk_bipush X dX11_budget_11 (by decide) rfl) ?_
  refine zz_cons (k' := 13) rfl (zz_Ok_none _ _) ?_
  refine zz_cons (k' := 14) rfl (zk_aload_n X dX11_budget_13 rfl rfl) ?_
  refine zz_cons (k' := 15) rfl (zk_getf X ff_X11_10 dX11_budget_14 rfl) ?_
  refine zz_cons (k' := 16) rfl (zz_Ok_none _ _) ?_
  refine zz_cons (k' := 17) rfl (zz_Ok_none _ _) ?_
  refine zz_cons (k' := 18) rfl (zk_iload_n X dX11_budget_17 rfl rfl) ?_
  refine zz_cons (k' := 19) rfl (zk_iconst X dX11_budget_18 (by decide) rfl) ?_
  refine zz_cons (k' := 20) rfl (zk_callv X (zz_Cv_of (List.forall_mem_cons.mpr ⟨⟨(RX_8, zzT8, 9), yX10_read, cX10_read, 3, (some .int), 0, 0, rfl, kv_X11_84_8, (mm_X10_read Wd).1, by decide, by decide⟩, (fun _ h => absurd h List.not_mem_nil)⟩)) dX11_budget_19 rfl) ?_
  refine zz_cons (k' := 21) rfl (zz_Ok_none _ _) ?_
  refine zz_cons (k' := 22) rfl (zz_Ok_none _ _) ?_
  refine zz_cons (k' := 23) rfl (zk_imul X dX11_budget_22 rfl) ?_
  refine zz_cons (k' := 24) rfl (zk_aload_n X dX11_budget_23 rfl rfl) ?_
  refine zz_cons (k' := 25) rfl (zk_getf X ff_X11_10 dX11_budget_24 rfl) ?_
  refine zz_cons (k' := 26) rfl (zz_Ok_none _ _) ?_
  refine zz_cons (k' := 27) rfl (zz_Ok_none _ _) ?_
  refine zz_cons (k' := 28) rfl (zk_iload_n X dX11_budget_27 rfl rfl) ?_
  refine zz_cons (k' := 29) rfl (zk_iconst X dX11_budget_28 (by decide) rfl) ?_
  refine zz_cons (k' := 30) rfl (zk_callv X (zz_Cv_of (List.forall_mem_cons.mpr ⟨⟨(RX_8, zzT8, 9), yX10_read, cX10_read, 3, (some .int), 0, 0, rfl, kv_X11_84_8, (mm_X10_read Wd).1, by decide, by decide⟩, (fun _ h => absurd h List.not_mem_nil)⟩)) dX11_budget_29 rfl) ?_
  refine zz_cons (k' := 31) rfl (zz_Ok_none _ _) ?_
  refine zz_cons (k' := 32) rfl (zz_Ok_none _ _) ?_
  refine zz_cons (k' := 33) rfl (zk_iadd X dX11_budget_32 rfl) ?_
  refine zz_cons (k' := 34) rfl (zk_iret X rfl dX11_budget_33) ?_
  exact trivial
noncomputable def tX11_versionOf : List zzOp := [
  zo_aload 0 1,
  zo_iload 1 2,
  zo_callx zzSC (zz_cl [(9, fX11_requireObject)]) 1 5,
  zo_none,
  zo_none,
  zo_aload 0 6,
  zo_getf zzSC (zz_kf [9] 0) 9,
  zo_none,
  zo_none,
  zo_iload 1 10,
  zo_callv zzSC (zz_cl [(8, fX10_latestOf)]) 1 13,
  zo_none,
  zo_none,
  zo_iret false]
set_option maxRecDepth 100000 in
theorem tl_X11_versionOf : ∀ pc, zz_Tl (tX11_versionOf.getD pc zo_none) := by
  refine zz_Tl_mem ?_
  unfold tX11_versionOf
  refine List.forall_mem_cons.mpr ⟨(zo_aload_tl _ _), ?_⟩
  refine List.forall_mem_cons.mpr ⟨(zo_iload_tl _ _), ?_⟩
  refine List.forall_mem_cons.mpr ⟨(zo_callx_tl _ _ _ _), ?_⟩
  refine List.forall_mem_cons.mpr ⟨zo_none_tl, ?_⟩
  refine List.forall_mem_cons.mpr ⟨zo_none_tl, ?_⟩
  refine List.forall_mem_cons.mpr ⟨(zo_aload_tl _ _), ?_⟩
  refine List.forall_mem_cons.mpr ⟨(zo_getf_tl _ _ _), ?_⟩
  refine List.forall_mem_cons.mpr ⟨zo_none_tl, ?_⟩
  refine List.forall_mem_cons.mpr ⟨zo_none_tl, ?_⟩
  refine List.forall_mem_cons.mpr ⟨(zo_iload_tl _ _), ?_⟩
  refine List.forall_mem_cons.mpr ⟨(zo_callv_tl _ _ _ _), ?_⟩
  refine List.forall_mem_cons.mpr ⟨zo_none_tl, ?_⟩
  refine List.forall_mem_cons.mpr ⟨zo_none_tl, ?_⟩
  refine List.forall_mem_cons.mpr ⟨(zo_iret_tl _), ?_⟩
  exact fun _ h => absurd h List.not_mem_nil
noncomputable def fX11_versionOf : zzFn := zz_fn tX11_versionOf 2
set_option maxRecDepth 100000 in
set_option maxHeartbeats 4000000 in
theorem mm_X11_versionOf {l : Launch} {D : va_G} {cA : Nat → ClassId} {ad : Nat → Nat} {Ex : (Nat → Prop) → State → Heap → Prop} (Wd : zzWC l D cA ad Ex) : zz_Cn l D zzCl cA ad zzSC Ex yX11_versionOf cX11_versionOf 2 (some .int) 7 103 fX11_versionOf ∧ zz_Cx l D zzCl cA ad zzSC Ex yX11_versionOf cX11_versionOf 2 (some .int) 7 103 fX11_versionOf := by
  refine zz_meth (plainFor_of_name (by decide)) Wd.1 Wd.2.1 Wd.2.2.1 (fun p e R s m args below meth c rr X => ?_)
  unfold tX11_versionOf
  refine zz_cons (k' := 1) rfl (zk_aload_n X dX11_versionOf_0 rfl rfl) ?_
  refine zz_cons (k' := 2) rfl (zk_iload_n X dX11_versionOf_1 rfl rfl) ?_
  refine zz_cons (k' := 3) rfl (zk_callx X (zz_Cw_of (List.forall_mem_cons.mpr ⟨⟨(RX_9, zzT9, 5), yX11_requireObject, cX11_requireObject, 2, none, 6, 82, rfl, kv_X11_80_9, (mm_X11_requireObject Wd), by decide, by decide⟩, (fun _ h => absurd h List.not_mem_nil)⟩)) dX11_versionOf_2 rfl) ?_
  refine zz_cons (k' := 4) rfl (zz_Ok_none _ _) ?_
  refine zz_cons (k' := 5) rfl (zz_Ok_none _ _) ?_
  refine zz_cons (k' := 6) rfl (zk_aload_n X dX11_versionOf_5 rfl rfl) ?_
  refine zz_cons (k' := 7) rfl (zk_getf X ff_X11_10 dX11_versionOf_6 rfl) ?_
  refine zz_cons (k' := 8) rfl (zz_Ok_none _ _) ?_
  refine zz_cons (k' := 9) rfl (zz_Ok_none _ _) ?_
  refine zz_cons (k' := 10) rfl (zk_iload_n X dX11_versionOf_9 rfl rfl) ?_
  refine zz_cons (k' := 11) rfl (zk_callv X (zz_Cv_of (List.forall_mem_cons.mpr ⟨⟨(RX_8, zzT8, 9), yX10_latestOf, cX10_latestOf, 2, (some .int), 0, 0, rfl, kv_X11_100_8, (mm_X10_latestOf Wd).1, by decide, by decide⟩, (fun _ h => absurd h List.not_mem_nil)⟩)) dX11_versionOf_10 rfl) ?_
  refine zz_cons (k' := 12) rfl (zz_Ok_none _ _) ?_
  refine zz_cons (k' := 13) rfl (zz_Ok_none _ _) ?_
  refine zz_cons (k' := 14) rfl (zk_iret X rfl dX11_versionOf_13) ?_
  exact trivial
noncomputable def tX11_goingOf : List zzOp := [
  zo_aload 0 1,
  zo_iload 1 2,
  zo_callx zzSC (zz_cl [(9, fX11_requireObject)]) 1 5,
  zo_none,
  zo_none,
  zo_aload 0 6,
  zo_getf zzSC (zz_kf [9] 0) 9,
  zo_none,
  zo_none,
  zo_iload 1 10,
  zo_pushI 25 12,
  zo_none,
  zo_callv zzSC (zz_cl [(8, fX10_read)]) 2 15,
  zo_none,
  zo_none,
  zo_iret false]
set_option maxRecDepth 100000 in
theorem tl_X11_goingOf : ∀ pc, zz_Tl (tX11_goingOf.getD pc zo_none) := by
  refine zz_Tl_mem ?_
  unfold tX11_goingOf
  refine List.forall_mem_cons.mpr ⟨(zo_aload_tl _ _), ?_⟩
  refine List.forall_mem_cons.mpr ⟨(zo_iload_tl _ _), ?_⟩
  refine List.forall_mem_cons.mpr ⟨(zo_callx_tl _ _ _ _), ?_⟩
  refine List.forall_mem_cons.mpr ⟨zo_none_tl, ?_⟩
  refine List.forall_mem_cons.mpr ⟨zo_none_tl, ?_⟩
  refine List.forall_mem_cons.mpr ⟨(zo_aload_tl _ _), ?_⟩
  refine List.forall_mem_cons.mpr ⟨(zo_getf_tl _ _ _), ?_⟩
  refine List.forall_mem_cons.mpr ⟨zo_none_tl, ?_⟩
  refine List.forall_mem_cons.mpr ⟨zo_none_tl, ?_⟩
  refine List.forall_mem_cons.mpr ⟨(zo_iload_tl _ _), ?_⟩
  refine List.forall_mem_cons.mpr ⟨(zo_pushI_tl _ _), ?_⟩
  refine List.forall_mem_cons.mpr ⟨zo_none_tl, ?_⟩
  refine List.forall_mem_cons.mpr ⟨(zo_callv_tl _ _ _ _), ?_⟩
  refine List.forall_mem_cons.mpr ⟨zo_none_tl, ?_⟩
  refine List.forall_mem_cons.mpr ⟨zo_none_tl, ?_⟩
  refine List.forall_mem_cons.mpr ⟨(zo_iret_tl _), ?_⟩
  exact fun _ h => absurd h List.not_mem_nil
noncomputable def fX11_goingOf : zzFn := zz_fn tX11_goingOf 2
set_option maxRecDepth 100000 in
set_option maxHeartbeats 4000000 in
theorem mm_X11_goingOf {l : Launch} {D : va_G} {cA : Nat → ClassId} {ad : Nat → Nat} {Ex : (Nat → Prop) → State → Heap → Prop} (Wd : zzWC l D cA ad Ex) : zz_Cn l D zzCl cA ad zzSC Ex yX11_goingOf cX11_goingOf 2 (some .int) 7 103 fX11_goingOf ∧ zz_Cx l D zzCl cA ad zzSC Ex yX11_goingOf cX11_goingOf 2 (some .int) 7 103 fX11_goingOf := by
  refine zz_meth (plainFor_of_name (by decide)) Wd.1 Wd.2.1 Wd.2.2.1 (fun p e R s m args below meth c rr X => ?_)
  unfold tX11_goingOf
  refine zz_cons (k' := 1) rfl (zk_aload_n X dX11_goingOf_0 rfl rfl) ?_
  refine zz_cons (k' := 2) rfl (zk_iload_n X dX11_goingOf_1 rfl rfl) ?_
  refine zz_cons (k' := 3) rfl (zk_callx X (zz_Cw_of (List.forall_mem_cons.mpr ⟨⟨(RX_9, zzT9, 5), yX11_requireObject, cX11_requireObject, 2, none, 6, 82, rfl, kv_X11_80_9, (mm_X11_requireObject Wd), by decide, by decide⟩, (fun _ h => absurd h List.not_mem_nil)⟩)) dX11_goingOf_2 rfl) ?_
  refine zz_cons (k' := 4) rfl (zz_Ok_none _ _) ?_
  refine zz_cons (k' := 5) rfl (zz_Ok_none _ _) ?_
  refine zz_cons (k' := 6) rfl (zk_aload_n X dX11_goingOf_5 rfl rfl) ?_
  refine zz_cons (k' := 7) rfl (zk_getf X ff_X11_10 dX11_goingOf_6 rfl) ?_
  refine zz_cons (k' := 8) rfl (zz_Ok_none _ _) ?_
  refine zz_cons (k' := 9) rfl (zz_Ok_none _ _) ?_
  refine zz_cons (k' := 10) rfl (zk_iload_n X dX11_goingOf_9 rfl rfl) ?_
  refine zz_cons (k' := 11) rfl (zk_bipush X dX11_goingOf_10 (by decide) rfl) ?_
  refine zz_cons (k' := 12) rfl (zz_Ok_none _ _) ?_
  refine zz_cons (k' := 13) rfl (zk_callv X (zz_Cv_of (List.forall_mem_cons.mpr ⟨⟨(RX_8, zzT8, 9), yX10_read, cX10_read, 3, (some .int), 0, 0, rfl, kv_X11_84_8, (mm_X10_read Wd).1, by decide, by decide⟩, (fun _ h => absurd h List.not_mem_nil)⟩)) dX11_goingOf_12 rfl) ?_
  refine zz_cons (k' := 14) rfl (zz_Ok_none _ _) ?_
  refine zz_cons (k' := 15) rfl (zz_Ok_none _ _) ?_
  refine zz_cons (k' := 16) rfl (zk_iret X rfl dX11_goingOf_15) ?_
  exact trivial
noncomputable def tX11_ownerOf : List zzOp := [
  zo_aload 0 1,
  zo_iload 1 2,
  zo_callx zzSC (zz_cl [(9, fX11_requireObject)]) 1 5,
  zo_none,
  zo_none,
  zo_aload 0 6,
  zo_getf zzSC (zz_kf [9] 0) 9,
  zo_none,
  zo_none,
  zo_iload 1 10,
  zo_pushI 24 12,
  zo_none,
  zo_callv zzSC (zz_cl [(8, fX10_read)]) 2 15,
  zo_none,
  zo_none,
  zo_iret false]
set_option maxRecDepth 100000 in
theorem tl_X11_ownerOf : ∀ pc, zz_Tl (tX11_ownerOf.getD pc zo_none) := by
  refine zz_Tl_mem ?_
  unfold tX11_ownerOf
  refine List.forall_mem_cons.mpr ⟨(zo_aload_tl _ _), ?_⟩
  refine List.forall_mem_cons.mpr ⟨(zo_iload_tl _ _), ?_⟩
  refine List.forall_mem_cons.mpr ⟨(zo_callx_tl _ _ _ _), ?_⟩
  refine List.forall_mem_cons.mpr ⟨zo_none_tl, ?_⟩
  refine List.forall_mem_cons.mpr ⟨zo_none_tl, ?_⟩
  refine List.forall_mem_cons.mpr ⟨(zo_aload_tl _ _), ?_⟩
  refine List.forall_mem_cons.mpr ⟨(zo_getf_tl _ _ _), ?_⟩
  refine List.forall_mem_cons.mpr ⟨zo_none_tl, ?_⟩
  refine List.forall_mem_cons.mpr ⟨zo_none_tl, ?_⟩
  refine List.forall_mem_cons.mpr ⟨(zo_iload_tl _ _), ?_⟩
  refine List.forall_mem_cons.mpr ⟨(zo_pushI_tl _ _), ?_⟩
  refine List.forall_mem_cons.mpr ⟨zo_none_tl, ?_⟩
  refine List.forall_mem_cons.mpr ⟨(zo_callv_tl _ _ _ _), ?_⟩
  refine List.forall_mem_cons.mpr ⟨zo_none_tl, ?_⟩
  refine List.forall_mem_cons.mpr ⟨zo_none_tl, ?_⟩
  refine List.forall_mem_cons.mpr ⟨(zo_iret_tl _), ?_⟩
  exact fun _ h => absurd h List.not_mem_nil
noncomputable def fX11_ownerOf : zzFn := zz_fn tX11_ownerOf 2
set_option maxRecDepth 100000 in
set_option maxHeartbeats 4000000 in
theorem mm_X11_ownerOf {l : Launch} {D : va_G} {cA : Nat → ClassId} {ad : Nat → Nat} {Ex : (Nat → Prop) → State → Heap → Prop} (Wd : zzWC l D cA ad Ex) : zz_Cn l D zzCl cA ad zzSC Ex yX11_ownerOf cX11_ownerOf 2 (some .int) 7 103 fX11_ownerOf ∧ zz_Cx l D zzCl cA ad zzSC Ex yX11_ownerOf cX11_ownerOf 2 (some .int) 7 103 fX11_ownerOf := by
  refine zz_meth (plainFor_of_name (by decide)) Wd.1 Wd.2.1 Wd.2.2.1 (fun p e R s m args below meth c rr X => ?_)
  unfold tX11_ownerOf
  refine zz_cons (k' := 1) rfl (zk_aload_n X dX11_ownerOf_0 rfl rfl) ?_
  refine zz_cons (k' := 2) rfl (zk_iload_n X dX11_ownerOf_1 rfl rfl) ?_
  refine zz_cons (k' := 3) rfl (zk_callx X (zz_Cw_of (List.forall_mem_cons.mpr ⟨⟨(RX_9, zzT9, 5), yX11_requireObject, cX11_requireObject, 2, none, 6, 82, rfl, kv_X11_80_9, (mm_X11_requireObject Wd), by decide, by decide⟩, (fun _ h => absurd h List.not_mem_nil)⟩)) dX11_ownerOf_2 rfl) ?_
  refine zz_cons (k' := 4) rfl (zz_Ok_none _ _) ?_
  refine zz_cons (k' := 5) rfl (zz_Ok_none _ _) ?_
  refine zz_cons (k' := 6) rfl (zk_aload_n X dX11_ownerOf_5 rfl rfl) ?_
  refine zz_cons (k' := 7) rfl (zk_getf X ff_X11_10 dX11_ownerOf_6 rfl) ?_
  refine zz_cons (k' := 8) rfl (zz_Ok_none _ _) ?_
  refine zz_cons (k' := 9) rfl (zz_Ok_none _ _) ?_
  refine zz_cons (k' := 10) rfl (zk_iload_n X dX11_ownerOf_9 rfl rfl) ?_
  refine zz_cons (k' := 11) rfl (zk_bipush X dX11_ownerOf_10 (by decide) rfl) ?_
  refine zz_cons (k' := 12) rfl (zz_Ok_none _ _) ?_
  refine zz_cons (k' := 13) rfl (zk_callv X (zz_Cv_of (List.forall_mem_cons.mpr ⟨⟨(RX_8, zzT8, 9), yX10_read, cX10_read, 3, (some .int), 0, 0, rfl, kv_X11_84_8, (mm_X10_read Wd).1, by decide, by decide⟩, (fun _ h => absurd h List.not_mem_nil)⟩)) dX11_ownerOf_12 rfl) ?_
  refine zz_cons (k' := 14) rfl (zz_Ok_none _ _) ?_
  refine zz_cons (k' := 15) rfl (zz_Ok_none _ _) ?_
  refine zz_cons (k' := 16) rfl (zk_iret X rfl dX11_ownerOf_15) ?_
  exact trivial
noncomputable def tX11_phaseOf : List zzOp := [
  zo_aload 0 1,
  zo_iload 1 2,
  zo_callx zzSC (zz_cl [(9, fX11_requireObject)]) 1 5,
  zo_none,
  zo_none,
  zo_aload 0 6,
  zo_iload 1 7,
  zo_pushI 2 8,
  zo_callx zzSC (zz_cl [(9, fX11_requireKind)]) 2 11,
  zo_none,
  zo_none,
  zo_aload 0 12,
  zo_getf zzSC (zz_kf [9] 0) 15,
  zo_none,
  zo_none,
  zo_iload 1 16,
  zo_pushI 29 18,
  zo_none,
  zo_callv zzSC (zz_cl [(8, fX10_read)]) 2 21,
  zo_none,
  zo_none,
  zo_iret false]
set_option maxRecDepth 100000 in
theorem tl_X11_phaseOf : ∀ pc, zz_Tl (tX11_phaseOf.getD pc zo_none) := by
  refine zz_Tl_mem ?_
  unfold tX11_phaseOf
  refine List.forall_mem_cons.mpr ⟨(zo_aload_tl _ _), ?_⟩
  refine List.forall_mem_cons.mpr ⟨(zo_iload_tl _ _), ?_⟩
  refine List.forall_mem_cons.mpr ⟨(zo_callx_tl _ _ _ _), ?_⟩
  refine List.forall_mem_cons.mpr ⟨zo_none_tl, ?_⟩
  refine List.forall_mem_cons.mpr ⟨zo_none_tl, ?_⟩
  refine List.forall_mem_cons.mpr ⟨(zo_aload_tl _ _), ?_⟩
  refine List.forall_mem_cons.mpr ⟨(zo_iload_tl _ _), ?_⟩
  refine List.forall_mem_cons.mpr ⟨(zo_pushI_tl _ _), ?_⟩
  refine List.forall_mem_cons.mpr ⟨(zo_callx_tl _ _ _ _), ?_⟩
  refine List.forall_mem_cons.mpr ⟨zo_none_tl, ?_⟩
  refine List.forall_mem_cons.mpr ⟨zo_none_tl, ?_⟩
  refine List.forall_mem_cons.mpr ⟨(zo_aload_tl _ _), ?_⟩
  refine List.forall_mem_cons.mpr ⟨(zo_getf_tl _ _ _), ?_⟩
  refine List.forall_mem_cons.mpr ⟨zo_none_tl, ?_⟩
  refine List.forall_mem_cons.mpr ⟨zo_none_tl, ?_⟩
  refine List.forall_mem_cons.mpr ⟨(zo_iload_tl _ _), ?_⟩
  refine List.forall_mem_cons.mpr ⟨(zo_pushI_tl _ _), ?_⟩
  refine List.forall_mem_cons.mpr ⟨zo_none_tl, ?_⟩
  refine List.forall_mem_cons.mpr ⟨(zo_callv_tl _ _ _ _), ?_⟩
  refine List.forall_mem_cons.mpr ⟨zo_none_tl, ?_⟩
  refine List.forall_mem_cons.mpr ⟨zo_none_tl, ?_⟩
  refine List.forall_mem_cons.mpr ⟨(zo_iret_tl _), ?_⟩
  exact fun _ h => absurd h List.not_mem_nil
noncomputable def fX11_phaseOf : zzFn := zz_fn tX11_phaseOf 2
set_option maxRecDepth 100000 in
set_option maxHeartbeats 4000000 in
theorem mm_X11_phaseOf {l : Launch} {D : va_G} {cA : Nat → ClassId} {ad : Nat → Nat} {Ex : (Nat → Prop) → State → Heap → Prop} (Wd : zzWC l D cA ad Ex) : zz_Cn l D zzCl cA ad zzSC Ex yX11_phaseOf cX11_phaseOf 2 (some .int) 7 104 fX11_phaseOf ∧ zz_Cx l D zzCl cA ad zzSC Ex yX11_phaseOf cX11_phaseOf 2 (some .int) 7 104 fX11_phaseOf := by
  refine zz_meth (plainFor_of_name (by decide)) Wd.1 Wd.2.1 Wd.2.2.1 (fun p e R s m args below meth c rr X => ?_)
  unfold tX11_phaseOf
  refine zz_cons (k' := 1) rfl (zk_aload_n X dX11_phaseOf_0 rfl rfl) ?_
  refine zz_cons (k' := 2) rfl (zk_iload_n X dX11_phaseOf_1 rfl rfl) ?_
  refine zz_cons (k' := 3) rfl (zk_callx X (zz_Cw_of (List.forall_mem_cons.mpr ⟨⟨(RX_9, zzT9, 5), yX11_requireObject, cX11_requireObject, 2, none, 6, 82, rfl, kv_X11_80_9, (mm_X11_requireObject Wd), by decide, by decide⟩, (fun _ h => absurd h List.not_mem_nil)⟩)) dX11_phaseOf_2 rfl) ?_
  refine zz_cons (k' := 4) rfl (zz_Ok_none _ _) ?_
  refine zz_cons (k' := 5) rfl (zz_Ok_none _ _) ?_
  refine zz_cons (k' := 6) rfl (zk_aload_n X dX11_phaseOf_5 rfl rfl) ?_
  refine zz_cons (k' := 7) rfl (zk_iload_n X dX11_phaseOf_6 rfl rfl) ?_
  refine zz_cons (k' := 8) rfl (zk_iconst X dX11_phaseOf_7 (by decide) rfl) ?_
  refine zz_cons (k' := 9) rfl (zk_callx X (zz_Cw_of (List.forall_mem_cons.mpr ⟨⟨(RX_9, zzT9, 5), yX11_requireKind, cX11_requireKind, 3, none, 6, 82, rfl, kv_X11_142_9, (mm_X11_requireKind Wd), by decide, by decide⟩, (fun _ h => absurd h List.not_mem_nil)⟩)) dX11_phaseOf_8 rfl) ?_
  refine zz_cons (k' := 10) rfl (zz_Ok_none _ _) ?_
  refine zz_cons (k' := 11) rfl (zz_Ok_none _ _) ?_
  refine zz_cons (k' := 12) rfl (zk_aload_n X dX11_phaseOf_11 rfl rfl) ?_
  refine zz_cons (k' := 13) rfl (zk_getf X ff_X11_10 dX11_phaseOf_12 rfl) ?_
  refine zz_cons (k' := 14) rfl (zz_Ok_none _ _) ?_
  refine zz_cons (k' := 15) rfl (zz_Ok_none _ _) ?_
  refine zz_cons (k' := 16) rfl (zk_iload_n X dX11_phaseOf_15 rfl rfl) ?_
  refine zz_cons (k' := 17) rfl (zk_bipush X dX11_phaseOf_16 (by decide) rfl) ?_
  refine zz_cons (k' := 18) rfl (zz_Ok_none _ _) ?_
  refine zz_cons (k' := 19) rfl (zk_callv X (zz_Cv_of (List.forall_mem_cons.mpr ⟨⟨(RX_8, zzT8, 9), yX10_read, cX10_read, 3, (some .int), 0, 0, rfl, kv_X11_84_8, (mm_X10_read Wd).1, by decide, by decide⟩, (fun _ h => absurd h List.not_mem_nil)⟩)) dX11_phaseOf_18 rfl) ?_
  refine zz_cons (k' := 20) rfl (zz_Ok_none _ _) ?_
  refine zz_cons (k' := 21) rfl (zz_Ok_none _ _) ?_
  refine zz_cons (k' := 22) rfl (zk_iret X rfl dX11_phaseOf_21) ?_
  exact trivial
noncomputable def tX11_placeOf : List zzOp := [
  zo_aload 0 1,
  zo_iload 1 2,
  zo_callx zzSC (zz_cl [(9, fX11_requireObject)]) 1 5,
  zo_none,
  zo_none,
  zo_aload 0 6,
  zo_iload 1 7,
  zo_pushI 2 8,
  zo_callx zzSC (zz_cl [(9, fX11_requireKind)]) 2 11,
  zo_none,
  zo_none,
  zo_aload 0 12,
  zo_getf zzSC (zz_kf [9] 0) 15,
  zo_none,
  zo_none,
  zo_iload 1 16,
  zo_pushI 28 18,
  zo_none,
  zo_callv zzSC (zz_cl [(8, fX10_read)]) 2 21,
  zo_none,
  zo_none,
  zo_iret false]
set_option maxRecDepth 100000 in
theorem tl_X11_placeOf : ∀ pc, zz_Tl (tX11_placeOf.getD pc zo_none) := by
  refine zz_Tl_mem ?_
  unfold tX11_placeOf
  refine List.forall_mem_cons.mpr ⟨(zo_aload_tl _ _), ?_⟩
  refine List.forall_mem_cons.mpr ⟨(zo_iload_tl _ _), ?_⟩
  refine List.forall_mem_cons.mpr ⟨(zo_callx_tl _ _ _ _), ?_⟩
  refine List.forall_mem_cons.mpr ⟨zo_none_tl, ?_⟩
  refine List.forall_mem_cons.mpr ⟨zo_none_tl, ?_⟩
  refine List.forall_mem_cons.mpr ⟨(zo_aload_tl _ _), ?_⟩
  refine List.forall_mem_cons.mpr ⟨(zo_iload_tl _ _), ?_⟩
  refine List.forall_mem_cons.mpr ⟨(zo_pushI_tl _ _), ?_⟩
  refine List.forall_mem_cons.mpr ⟨(zo_callx_tl _ _ _ _), ?_⟩
  refine List.forall_mem_cons.mpr ⟨zo_none_tl, ?_⟩
  refine List.forall_mem_cons.mpr ⟨zo_none_tl, ?_⟩
  refine List.forall_mem_cons.mpr ⟨(zo_aload_tl _ _), ?_⟩
  refine List.forall_mem_cons.mpr ⟨(zo_getf_tl _ _ _), ?_⟩
  refine List.forall_mem_cons.mpr ⟨zo_none_tl, ?_⟩
  refine List.forall_mem_cons.mpr ⟨zo_none_tl, ?_⟩
  refine List.forall_mem_cons.mpr ⟨(zo_iload_tl _ _), ?_⟩
  refine List.forall_mem_cons.mpr ⟨(zo_pushI_tl _ _), ?_⟩
  refine List.forall_mem_cons.mpr ⟨zo_none_tl, ?_⟩
  refine List.forall_mem_cons.mpr ⟨(zo_callv_tl _ _ _ _), ?_⟩
  refine List.forall_mem_cons.mpr ⟨zo_none_tl, ?_⟩
  refine List.forall_mem_cons.mpr ⟨zo_none_tl, ?_⟩
  refine List.forall_mem_cons.mpr ⟨(zo_iret_tl _), ?_⟩
  exact fun _ h => absurd h List.not_mem_nil
noncomputable def fX11_placeOf : zzFn := zz_fn tX11_placeOf 2
set_option maxRecDepth 100000 in
set_option maxHeartbeats 4000000 in
theorem mm_X11_placeOf {l : Launch} {D : va_G} {cA : Nat → ClassId} {ad : Nat → Nat} {Ex : (Nat → Prop) → State → Heap → Prop} (Wd : zzWC l D cA ad Ex) : zz_Cn l D zzCl cA ad zzSC Ex yX11_placeOf cX11_placeOf 2 (some .int) 7 104 fX11_placeOf ∧ zz_Cx l D zzCl cA ad zzSC Ex yX11_placeOf cX11_placeOf 2 (some .int) 7 104 fX11_placeOf := by
  refine zz_meth (plainFor_of_name (by decide)) Wd.1 Wd.2.1 Wd.2.2.1 (fun p e R s m args below meth c rr X => ?_)
  unfold tX11_placeOf
  refine zz_cons (k' := 1) rfl (zk_aload_n X dX11_placeOf_0 rfl rfl) ?_
  refine zz_cons (k' := 2) rfl (zk_iload_n X dX11_placeOf_1 rfl rfl) ?_
  refine zz_cons (k' := 3) rfl (zk_callx X (zz_Cw_of (List.forall_mem_cons.mpr ⟨⟨(RX_9, zzT9, 5), yX11_requireObject, cX11_requireObject, 2, none, 6, 82, rfl, kv_X11_80_9, (mm_X11_requireObject Wd), by decide, by decide⟩, (fun _ h => absurd h List.not_mem_nil)⟩)) dX11_placeOf_2 rfl) ?_
  refine zz_cons (k' := 4) rfl (zz_Ok_none _ _) ?_
  refine zz_cons (k' := 5) rfl (zz_Ok_none _ _) ?_
  refine zz_cons (k' := 6) rfl (zk_aload_n X dX11_placeOf_5 rfl rfl) ?_
  refine zz_cons (k' := 7) rfl (zk_iload_n X dX11_placeOf_6 rfl rfl) ?_
  refine zz_cons (k' := 8) rfl (zk_iconst X dX11_placeOf_7 (by decide) rfl) ?_
  refine zz_cons (k' := 9) rfl (zk_callx X (zz_Cw_of (List.forall_mem_cons.mpr ⟨⟨(RX_9, zzT9, 5), yX11_requireKind, cX11_requireKind, 3, none, 6, 82, rfl, kv_X11_142_9, (mm_X11_requireKind Wd), by decide, by decide⟩, (fun _ h => absurd h List.not_mem_nil)⟩)) dX11_placeOf_8 rfl) ?_
  refine zz_cons (k' := 10) rfl (zz_Ok_none _ _) ?_
  refine zz_cons (k' := 11) rfl (zz_Ok_none _ _) ?_
  refine zz_cons (k' := 12) rfl (zk_aload_n X dX11_placeOf_11 rfl rfl) ?_
  refine zz_cons (k' := 13) rfl (zk_getf X ff_X11_10 dX11_placeOf_12 rfl) ?_
  refine zz_cons (k' := 14) rfl (zz_Ok_none _ _) ?_
  refine zz_cons (k' := 15) rfl (zz_Ok_none _ _) ?_
  refine zz_cons (k' := 16) rfl (zk_iload_n X dX11_placeOf_15 rfl rfl) ?_
  refine zz_cons (k' := 17) rfl (zk_bipush X dX11_placeOf_16 (by decide) rfl) ?_
  refine zz_cons (k' := 18) rfl (zz_Ok_none _ _) ?_
  refine zz_cons (k' := 19) rfl (zk_callv X (zz_Cv_of (List.forall_mem_cons.mpr ⟨⟨(RX_8, zzT8, 9), yX10_read, cX10_read, 3, (some .int), 0, 0, rfl, kv_X11_84_8, (mm_X10_read Wd).1, by decide, by decide⟩, (fun _ h => absurd h List.not_mem_nil)⟩)) dX11_placeOf_18 rfl) ?_
  refine zz_cons (k' := 20) rfl (zz_Ok_none _ _) ?_
  refine zz_cons (k' := 21) rfl (zz_Ok_none _ _) ?_
  refine zz_cons (k' := 22) rfl (zk_iret X rfl dX11_placeOf_21) ?_
  exact trivial
noncomputable def tX11_isReady : List zzOp := [
  zo_aload 0 1,
  zo_iload 1 2,
  zo_callx zzSC (zz_cl [(9, fX11_requireObject)]) 1 5,
  zo_none,
  zo_none,
  zo_aload 0 6,
  zo_iload 1 7,
  zo_pushI 4 8,
  zo_callx zzSC (zz_cl [(9, fX11_requireKind)]) 2 11,
  zo_none,
  zo_none,
  zo_aload 0 12,
  zo_getf zzSC (zz_kf [9] 0) 15,
  zo_none,
  zo_none,
  zo_iload 1 16,
  zo_pushI 27 18,
  zo_none,
  zo_callv zzSC (zz_cl [(8, fX10_read)]) 2 21,
  zo_none,
  zo_none,
  zo_pushI 1 22,
  zo_icmp (fun x y => decide (¬ x = y)) 29 25,
  zo_none,
  zo_none,
  zo_pushI 1 26,
  zo_goto 30,
  zo_none,
  zo_none,
  zo_pushI 0 30,
  zo_iret true]
set_option maxRecDepth 100000 in
theorem tl_X11_isReady : ∀ pc, zz_Tl (tX11_isReady.getD pc zo_none) := by
  refine zz_Tl_mem ?_
  unfold tX11_isReady
  refine List.forall_mem_cons.mpr ⟨(zo_aload_tl _ _), ?_⟩
  refine List.forall_mem_cons.mpr ⟨(zo_iload_tl _ _), ?_⟩
  refine List.forall_mem_cons.mpr ⟨(zo_callx_tl _ _ _ _), ?_⟩
  refine List.forall_mem_cons.mpr ⟨zo_none_tl, ?_⟩
  refine List.forall_mem_cons.mpr ⟨zo_none_tl, ?_⟩
  refine List.forall_mem_cons.mpr ⟨(zo_aload_tl _ _), ?_⟩
  refine List.forall_mem_cons.mpr ⟨(zo_iload_tl _ _), ?_⟩
  refine List.forall_mem_cons.mpr ⟨(zo_pushI_tl _ _), ?_⟩
  refine List.forall_mem_cons.mpr ⟨(zo_callx_tl _ _ _ _), ?_⟩
  refine List.forall_mem_cons.mpr ⟨zo_none_tl, ?_⟩
  refine List.forall_mem_cons.mpr ⟨zo_none_tl, ?_⟩
  refine List.forall_mem_cons.mpr ⟨(zo_aload_tl _ _), ?_⟩
  refine List.forall_mem_cons.mpr ⟨(zo_getf_tl _ _ _), ?_⟩
  refine List.forall_mem_cons.mpr ⟨zo_none_tl, ?_⟩
  refine List.forall_mem_cons.mpr ⟨zo_none_tl, ?_⟩
  refine List.forall_mem_cons.mpr ⟨(zo_iload_tl _ _), ?_⟩
  refine List.forall_mem_cons.mpr ⟨(zo_pushI_tl _ _), ?_⟩
  refine List.forall_mem_cons.mpr ⟨zo_none_tl, ?_⟩
  refine List.forall_mem_cons.mpr ⟨(zo_callv_tl _ _ _ _), ?_⟩
  refine List.forall_mem_cons.mpr ⟨zo_none_tl, ?_⟩
  refine List.forall_mem_cons.mpr ⟨zo_none_tl, ?_⟩
  refine List.forall_mem_cons.mpr ⟨(zo_pushI_tl _ _), ?_⟩
  refine List.forall_mem_cons.mpr ⟨(zo_icmp_tl _ _ _), ?_⟩
  refine List.forall_mem_cons.mpr ⟨zo_none_tl, ?_⟩
  refine List.forall_mem_cons.mpr ⟨zo_none_tl, ?_⟩
  refine List.forall_mem_cons.mpr ⟨(zo_pushI_tl _ _), ?_⟩
  refine List.forall_mem_cons.mpr ⟨(zo_goto_tl _), ?_⟩
  refine List.forall_mem_cons.mpr ⟨zo_none_tl, ?_⟩
  refine List.forall_mem_cons.mpr ⟨zo_none_tl, ?_⟩
  refine List.forall_mem_cons.mpr ⟨(zo_pushI_tl _ _), ?_⟩
  refine List.forall_mem_cons.mpr ⟨(zo_iret_tl _), ?_⟩
  exact fun _ h => absurd h List.not_mem_nil
noncomputable def fX11_isReady : zzFn := zz_fn tX11_isReady 2
set_option maxRecDepth 100000 in
set_option maxHeartbeats 4000000 in
theorem mm_X11_isReady {l : Launch} {D : va_G} {cA : Nat → ClassId} {ad : Nat → Nat} {Ex : (Nat → Prop) → State → Heap → Prop} (Wd : zzWC l D cA ad Ex) : zz_Cn l D zzCl cA ad zzSC Ex yX11_isReady cX11_isReady 2 (some .boolean) 7 104 fX11_isReady ∧ zz_Cx l D zzCl cA ad zzSC Ex yX11_isReady cX11_isReady 2 (some .boolean) 7 104 fX11_isReady := by
  refine zz_meth (plainFor_of_name (by decide)) Wd.1 Wd.2.1 Wd.2.2.1 (fun p e R s m args below meth c rr X => ?_)
  unfold tX11_isReady
  refine zz_cons (k' := 1) rfl (zk_aload_n X dX11_isReady_0 rfl rfl) ?_
  refine zz_cons (k' := 2) rfl (zk_iload_n X dX11_isReady_1 rfl rfl) ?_
  refine zz_cons (k' := 3) rfl (zk_callx X (zz_Cw_of (List.forall_mem_cons.mpr ⟨⟨(RX_9, zzT9, 5), yX11_requireObject, cX11_requireObject, 2, none, 6, 82, rfl, kv_X11_80_9, (mm_X11_requireObject Wd), by decide, by decide⟩, (fun _ h => absurd h List.not_mem_nil)⟩)) dX11_isReady_2 rfl) ?_
  refine zz_cons (k' := 4) rfl (zz_Ok_none _ _) ?_
  refine zz_cons (k' := 5) rfl (zz_Ok_none _ _) ?_
  refine zz_cons (k' := 6) rfl (zk_aload_n X dX11_isReady_5 rfl rfl) ?_
  refine zz_cons (k' := 7) rfl (zk_iload_n X dX11_isReady_6 rfl rfl) ?_
  refine zz_cons (k' := 8) rfl (zk_iconst X dX11_isReady_7 (by decide) rfl) ?_
  refine zz_cons (k' := 9) rfl (zk_callx X (zz_Cw_of (List.forall_mem_cons.mpr ⟨⟨(RX_9, zzT9, 5), yX11_requireKind, cX11_requireKind, 3, none, 6, 82, rfl, kv_X11_142_9, (mm_X11_requireKind Wd), by decide, by decide⟩, (fun _ h => absurd h List.not_mem_nil)⟩)) dX11_isReady_8 rfl) ?_
  refine zz_cons (k' := 10) rfl (zz_Ok_none _ _) ?_
  refine zz_cons (k' := 11) rfl (zz_Ok_none _ _) ?_
  refine zz_cons (k' := 12) rfl (zk_aload_n X dX11_isReady_11 rfl rfl) ?_
  refine zz_cons (k' := 13) rfl (zk_getf X ff_X11_10 dX11_isReady_12 rfl) ?_
  refine zz_cons (k' := 14) rfl (zz_Ok_none _ _) ?_
  refine zz_cons (k' := 15) rfl (zz_Ok_none _ _) ?_
  refine zz_cons (k' := 16) rfl (zk_iload_n X dX11_isReady_15 rfl rfl) ?_
  refine zz_cons (k' := 17) rfl (zk_bipush X dX11_isReady_16 (by decide) rfl) ?_
  refine zz_cons (k' := 18) rfl (zz_Ok_none _ _) ?_
  refine zz_cons (k' := 19) rfl (zk_callv X (zz_Cv_of (List.forall_mem_cons.mpr ⟨⟨(RX_8, zzT8, 9), yX10_read, cX10_read, 3, (some .int), 0, 0, rfl, kv_X11_84_8, (mm_X10_read Wd).1, by decide, by decide⟩, (fun _ h => absurd h List.not_mem_nil)⟩)) dX11_isReady_18 rfl) ?_
  refine zz_cons (k' := 20) rfl (zz_Ok_none _ _) ?_
  refine zz_cons (k' := 21) rfl (zz_Ok_none _ _) ?_
  refine zz_cons (k' := 22) rfl (zk_iconst X dX11_isReady_21 (by decide) rfl) ?_
  refine zz_cons (k' := 23) rfl (zk_icmp_ne X dX11_isReady_22 (by decide) rfl) ?_
  refine zz_cons (k' := 24) rfl (zz_Ok_none _ _) ?_
  refine zz_cons (k' := 25) rfl (zz_Ok_none _ _) ?_
  refine zz_cons (k' := 26) rfl (zk_iconst X dX11_isReady_25 (by decide) rfl) ?_
  refine zz_cons (k' := 27) rfl (zk_goto X dX11_isReady_26 (by decide)) ?_
  refine zz_cons (k' := 28) rfl (zz_Ok_none _ _) ?_
  refine zz_cons (k' := 29) rfl (zz_Ok_none _ _) ?_
  refine zz_cons (k' := 30) rfl (zk_iconst X dX11_isReady_29 (by decide) rfl) ?_
  refine zz_cons (k' := 31) rfl (zk_iret X rfl dX11_isReady_30) ?_
  exact trivial
noncomputable def tX11_isBehind : List zzOp := [
  zo_aload 0 1,
  zo_iload 1 2,
  zo_callx zzSC (zz_cl [(9, fX11_requireObject)]) 1 5,
  zo_none,
  zo_none,
  zo_aload 0 6,
  zo_iload 2 7,
  zo_callx zzSC (zz_cl [(9, fX11_requireObject)]) 1 10,
  zo_none,
  zo_none,
  zo_aload 0 11,
  zo_iload 1 12,
  zo_pushI 5 13,
  zo_callx zzSC (zz_cl [(9, fX11_requireKind)]) 2 16,
  zo_none,
  zo_none,
  zo_aload 0 17,
  zo_getf zzSC (zz_kf [9] 0) 20,
  zo_none,
  zo_none,
  zo_iload 1 21,
  zo_iload 2 22,
  zo_pushI 30 24,
  zo_none,
  zo_icmp (fun x y => decide (y ≤ x)) 32 27,
  zo_none,
  zo_none,
  zo_pushI 30 29,
  zo_none,
  zo_goto 34,
  zo_none,
  zo_none,
  zo_pushI 31 34,
  zo_none,
  zo_callv zzSC (zz_cl [(8, fX10_read)]) 2 37,
  zo_none,
  zo_none,
  zo_istore 3 38,
  zo_iload 3 39,
  zo_iload 2 40,
  zo_pushI 30 42,
  zo_none,
  zo_iid (fun x y => x - x / y * y) 43,
  zo_ii (fun x y => x >>> (y &&& 31)) 44,
  zo_pushI 1 45,
  zo_ii (fun x y => x &&& y) 46,
  zo_pushI 1 47,
  zo_icmp (fun x y => decide (¬ x = y)) 54 50,
  zo_none,
  zo_none,
  zo_pushI 1 51,
  zo_goto 55,
  zo_none,
  zo_none,
  zo_pushI 0 55,
  zo_iret true]
set_option maxRecDepth 100000 in
theorem tl_X11_isBehind : ∀ pc, zz_Tl (tX11_isBehind.getD pc zo_none) := by
  refine zz_Tl_mem ?_
  unfold tX11_isBehind
  refine List.forall_mem_cons.mpr ⟨(zo_aload_tl _ _), ?_⟩
  refine List.forall_mem_cons.mpr ⟨(zo_iload_tl _ _), ?_⟩
  refine List.forall_mem_cons.mpr ⟨(zo_callx_tl _ _ _ _), ?_⟩
  refine List.forall_mem_cons.mpr ⟨zo_none_tl, ?_⟩
  refine List.forall_mem_cons.mpr ⟨zo_none_tl, ?_⟩
  refine List.forall_mem_cons.mpr ⟨(zo_aload_tl _ _), ?_⟩
  refine List.forall_mem_cons.mpr ⟨(zo_iload_tl _ _), ?_⟩
  refine List.forall_mem_cons.mpr ⟨(zo_callx_tl _ _ _ _), ?_⟩
  refine List.forall_mem_cons.mpr ⟨zo_none_tl, ?_⟩
  refine List.forall_mem_cons.mpr ⟨zo_none_tl, ?_⟩
  refine List.forall_mem_cons.mpr ⟨(zo_aload_tl _ _), ?_⟩
  refine List.forall_mem_cons.mpr ⟨(zo_iload_tl _ _), ?_⟩
  refine List.forall_mem_cons.mpr ⟨(zo_pushI_tl _ _), ?_⟩
  refine List.forall_mem_cons.mpr ⟨(zo_callx_tl _ _ _ _), ?_⟩
  refine List.forall_mem_cons.mpr ⟨zo_none_tl, ?_⟩
  refine List.forall_mem_cons.mpr ⟨zo_none_tl, ?_⟩
  refine List.forall_mem_cons.mpr ⟨(zo_aload_tl _ _), ?_⟩
  refine List.forall_mem_cons.mpr ⟨(zo_getf_tl _ _ _), ?_⟩
  refine List.forall_mem_cons.mpr ⟨zo_none_tl, ?_⟩
  refine List.forall_mem_cons.mpr ⟨zo_none_tl, ?_⟩
  refine List.forall_mem_cons.mpr ⟨(zo_iload_tl _ _), ?_⟩
  refine List.forall_mem_cons.mpr ⟨(zo_iload_tl _ _), ?_⟩
  refine List.forall_mem_cons.mpr ⟨(zo_pushI_tl _ _), ?_⟩
  refine List.forall_mem_cons.mpr ⟨zo_none_tl, ?_⟩
  refine List.forall_mem_cons.mpr ⟨(zo_icmp_tl _ _ _), ?_⟩
  refine List.forall_mem_cons.mpr ⟨zo_none_tl, ?_⟩
  refine List.forall_mem_cons.mpr ⟨zo_none_tl, ?_⟩
  refine List.forall_mem_cons.mpr ⟨(zo_pushI_tl _ _), ?_⟩
  refine List.forall_mem_cons.mpr ⟨zo_none_tl, ?_⟩
  refine List.forall_mem_cons.mpr ⟨(zo_goto_tl _), ?_⟩
  refine List.forall_mem_cons.mpr ⟨zo_none_tl, ?_⟩
  refine List.forall_mem_cons.mpr ⟨zo_none_tl, ?_⟩
  refine List.forall_mem_cons.mpr ⟨(zo_pushI_tl _ _), ?_⟩
  refine List.forall_mem_cons.mpr ⟨zo_none_tl, ?_⟩
  refine List.forall_mem_cons.mpr ⟨(zo_callv_tl _ _ _ _), ?_⟩
  refine List.forall_mem_cons.mpr ⟨zo_none_tl, ?_⟩
  refine List.forall_mem_cons.mpr ⟨zo_none_tl, ?_⟩
  refine List.forall_mem_cons.mpr ⟨(zo_istore_tl _ _), ?_⟩
  refine List.forall_mem_cons.mpr ⟨(zo_iload_tl _ _), ?_⟩
  refine List.forall_mem_cons.mpr ⟨(zo_iload_tl _ _), ?_⟩
  refine List.forall_mem_cons.mpr ⟨(zo_pushI_tl _ _), ?_⟩
  refine List.forall_mem_cons.mpr ⟨zo_none_tl, ?_⟩
  refine List.forall_mem_cons.mpr ⟨(zo_iid_tl _ _), ?_⟩
  refine List.forall_mem_cons.mpr ⟨(zo_ii_tl _ _), ?_⟩
  refine List.forall_mem_cons.mpr ⟨(zo_pushI_tl _ _), ?_⟩
  refine List.forall_mem_cons.mpr ⟨(zo_ii_tl _ _), ?_⟩
  refine List.forall_mem_cons.mpr ⟨(zo_pushI_tl _ _), ?_⟩
  refine List.forall_mem_cons.mpr ⟨(zo_icmp_tl _ _ _), ?_⟩
  refine List.forall_mem_cons.mpr ⟨zo_none_tl, ?_⟩
  refine List.forall_mem_cons.mpr ⟨zo_none_tl, ?_⟩
  refine List.forall_mem_cons.mpr ⟨(zo_pushI_tl _ _), ?_⟩
  refine List.forall_mem_cons.mpr ⟨(zo_goto_tl _), ?_⟩
  refine List.forall_mem_cons.mpr ⟨zo_none_tl, ?_⟩
  refine List.forall_mem_cons.mpr ⟨zo_none_tl, ?_⟩
  refine List.forall_mem_cons.mpr ⟨(zo_pushI_tl _ _), ?_⟩
  refine List.forall_mem_cons.mpr ⟨(zo_iret_tl _), ?_⟩
  exact fun _ h => absurd h List.not_mem_nil
noncomputable def fX11_isBehind : zzFn := zz_fn tX11_isBehind 4
set_option maxRecDepth 100000 in
set_option maxHeartbeats 4000000 in
theorem mm_X11_isBehind {l : Launch} {D : va_G} {cA : Nat → ClassId} {ad : Nat → Nat} {Ex : (Nat → Prop) → State → Heap → Prop} (Wd : zzWC l D cA ad Ex) : zz_Cn l D zzCl cA ad zzSC Ex yX11_isBehind cX11_isBehind 4 (some .boolean) 7 104 fX11_isBehind ∧ zz_Cx l D zzCl cA ad zzSC Ex yX11_isBehind cX11_isBehind 4 (some .boolean) 7 104 fX11_isBehind := by
  refine zz_meth (plainFor_of_name (by decide)) Wd.1 Wd.2.1 Wd.2.2.1 (fun p e R s m args below meth c rr X => ?_)
  unfold tX11_isBehind
  refine zz_cons (k' := 1) rfl (zk_aload_n X dX11_isBehind_0 rfl rfl) ?_
  refine zz_cons (k' := 2) rfl (zk_iload_n X dX11_isBehind_1 rfl rfl) ?_
  refine zz_cons (k' := 3) rfl (zk_callx X (zz_Cw_of (List.forall_mem_cons.mpr ⟨⟨(RX_9, zzT9, 5), yX11_requireObject, cX11_requireObject, 2, none, 6, 82, rfl, kv_X11_80_9, (mm_X11_requireObject Wd), by decide, by decide⟩, (fun _ h => absurd h List.not_mem_nil)⟩)) dX11_isBehind_2 rfl) ?_
  refine zz_cons (k' := 4) rfl (zz_Ok_none _ _) ?_
  refine zz_cons (k' := 5) rfl (zz_Ok_none _ _) ?_
  refine zz_cons (k' := 6) rfl (zk_aload_n X dX11_isBehind_5 rfl rfl) ?_
  refine zz_cons (k' := 7) rfl (zk_iload_n X dX11_isBehind_6 rfl rfl) ?_
  refine zz_cons (k' := 8) rfl (zk_callx X (zz_Cw_of (List.forall_mem_cons.mpr ⟨⟨(RX_9, zzT9, 5), yX11_requireObject, cX11_requireObject, 2, none, 6, 82, rfl, kv_X11_80_9, (mm_X11_requireObject Wd), by decide, by decide⟩, (fun _ h => absurd h List.not_mem_nil)⟩)) dX11_isBehind_7 rfl) ?_
  refine zz_cons (k' := 9) rfl (zz_Ok_none _ _) ?_
  refine zz_cons (k' := 10) rfl (zz_Ok_none _ _) ?_
  refine zz_cons (k' := 11) rfl (zk_aload_n X dX11_isBehind_10 rfl rfl) ?_
  refine zz_cons (k' := 12) rfl (zk_iload_n X dX11_isBehind_11 rfl rfl) ?_
  refine zz_cons (k' := 13) rfl (zk_iconst X dX11_isBehind_12 (by decide) rfl) ?_
  refine zz_cons (k' := 14) rfl (zk_callx X (zz_Cw_of (List.forall_mem_cons.mpr ⟨⟨(RX_9, zzT9, 5), yX11_requireKind, cX11_requireKind, 3, none, 6, 82, rfl, kv_X11_142_9, (mm_X11_requireKind Wd), by decide, by decide⟩, (fun _ h => absurd h List.not_mem_nil)⟩)) dX11_isBehind_13 rfl) ?_
  refine zz_cons (k' := 15) rfl (zz_Ok_none _ _) ?_
  refine zz_cons (k' := 16) rfl (zz_Ok_none _ _) ?_
  refine zz_cons (k' := 17) rfl (zk_aload_n X dX11_isBehind_16 rfl rfl) ?_
  refine zz_cons (k' := 18) rfl (zk_getf X ff_X11_10 dX11_isBehind_17 rfl) ?_
  refine zz_cons (k' := 19) rfl (zz_Ok_none _ _) ?_
  refine zz_cons (k' := 20) rfl (zz_Ok_none _ _) ?_
  refine zz_cons (k' := 21) rfl (zk_iload_n X dX11_isBehind_20 rfl rfl) ?_
  refine zz_cons (k' := 22) rfl (zk_iload_n X dX11_isBehind_21 rfl rfl) ?_
  refine zz_cons (k' := 23) rfl (zk_bipush X dX11_isBehind_22 (by decide) rfl) ?_
  refine zz_cons (k' := 24) rfl (zz_Ok_none _ _) ?_
  refine zz_cons (k' := 25) rfl (zk_icmp_ge X dX11_isBehind_24 (by decide) rfl) ?_
  refine zz_cons (k' := 26) rfl (zz_Ok_none _ _) ?_
  refine zz_cons (k' := 27) rfl (zz_Ok_none _ _) ?_
  refine zz_cons (k' := 28) rfl (zk_bipush X dX11_isBehind_27 (by decide) rfl) ?_
  refine zz_cons (k' := 29) rfl (zz_Ok_none _ _) ?_
  refine zz_cons (k' := 30) rfl (zk_goto X dX11_isBehind_29 (by decide)) ?_
  refine zz_cons (k' := 31) rfl (zz_Ok_none _ _) ?_
  refine zz_cons (k' := 32) rfl (zz_Ok_none _ _) ?_
  refine zz_cons (k' := 33) rfl (zk_bipush X dX11_isBehind_32 (by decide) rfl) ?_
  refine zz_cons (k' := 34) rfl (zz_Ok_none _ _) ?_
  refine zz_cons (k' := 35) rfl (zk_callv X (zz_Cv_of (List.forall_mem_cons.mpr ⟨⟨(RX_8, zzT8, 9), yX10_read, cX10_read, 3, (some .int), 0, 0, rfl, kv_X11_84_8, (mm_X10_read Wd).1, by decide, by decide⟩, (fun _ h => absurd h List.not_mem_nil)⟩)) dX11_isBehind_34 rfl) ?_
  refine zz_cons (k' := 36) rfl (zz_Ok_none _ _) ?_
  refine zz_cons (k' := 37) rfl (zz_Ok_none _ _) ?_
  refine zz_cons (k' := 38) rfl (zk_istore_n X dX11_isBehind_37 rfl (by decide) rfl) ?_
  refine zz_cons (k' := 39) rfl (zk_iload_n X dX11_isBehind_38 rfl rfl) ?_
  refine zz_cons (k' := 40) rfl (zk_iload_n X dX11_isBehind_39 rfl rfl) ?_
  refine zz_cons (k' := 41) rfl (zk_bipush X dX11_isBehind_40 (by decide) rfl) ?_
  refine zz_cons (k' := 42) rfl (zz_Ok_none _ _) ?_
  refine zz_cons (k' := 43) rfl (zk_irem X dX11_isBehind_42 rfl) ?_
  refine zz_cons (k' := 44) rfl (zk_ishr X dX11_isBehind_43 rfl) ?_
  refine zz_cons (k' := 45) rfl (zk_iconst X dX11_isBehind_44 (by decide) rfl) ?_
  refine zz_cons (k' := 46) rfl (zk_iand X dX11_isBehind_45 rfl) ?_
  refine zz_cons (k' := 47) rfl (zk_iconst X dX11_isBehind_46 (by decide) rfl) ?_
  refine zz_cons (k' := 48) rfl (zk_icmp_ne X dX11_isBehind_47 (by decide) rfl) ?_
  refine zz_cons (k' := 49) rfl (zz_Ok_none _ _) ?_
  refine zz_cons (k' := 50) rfl (zz_Ok_none _ _) ?_
  refine zz_cons (k' := 51) rfl (zk_iconst X dX11_isBehind_50 (by decide) rfl) ?_
  refine zz_cons (k' := 52) rfl (zk_goto X dX11_isBehind_51 (by decide)) ?_
  refine zz_cons (k' := 53) rfl (zz_Ok_none _ _) ?_
  refine zz_cons (k' := 54) rfl (zz_Ok_none _ _) ?_
  refine zz_cons (k' := 55) rfl (zk_iconst X dX11_isBehind_54 (by decide) rfl) ?_
  refine zz_cons (k' := 56) rfl (zk_iret X rfl dX11_isBehind_55) ?_
  exact trivial
noncomputable def tX11_running : List zzOp := [
  zo_aload 0 1,
  zo_iload 1 2,
  zo_callx zzSC (zz_cl [(9, fX11_requireObject)]) 1 5,
  zo_none,
  zo_none,
  zo_aload 0 6,
  zo_iload 1 7,
  zo_pushI 0 8,
  zo_callx zzSC (zz_cl [(9, fX11_requireKind)]) 2 11,
  zo_none,
  zo_none,
  zo_iload 2 12,
  zo_if (fun x => decide (x = 0)) 33 15,
  zo_none,
  zo_none,
  zo_aload 0 16,
  zo_getf zzSC (zz_kf [9] 0) 19,
  zo_none,
  zo_none,
  zo_aload 0 20,
  zo_getf zzSC (zz_kf [9] 0) 23,
  zo_none,
  zo_none,
  zo_iload 1 24,
  zo_callv zzSC (zz_cl [(8, fX10_newSetOf)]) 1 27,
  zo_none,
  zo_none,
  zo_callv zzSC (zz_cl [(8, fX10_countRunning)]) 1 30,
  zo_none,
  zo_none,
  zo_goto 41,
  zo_none,
  zo_none,
  zo_aload 0 34,
  zo_getf zzSC (zz_kf [9] 0) 37,
  zo_none,
  zo_none,
  zo_iload 1 38,
  zo_callv zzSC (zz_cl [(8, fX10_countRunningOfAll)]) 1 41,
  zo_none,
  zo_none,
  zo_iret false]
set_option maxRecDepth 100000 in
theorem tl_X11_running : ∀ pc, zz_Tl (tX11_running.getD pc zo_none) := by
  refine zz_Tl_mem ?_
  unfold tX11_running
  refine List.forall_mem_cons.mpr ⟨(zo_aload_tl _ _), ?_⟩
  refine List.forall_mem_cons.mpr ⟨(zo_iload_tl _ _), ?_⟩
  refine List.forall_mem_cons.mpr ⟨(zo_callx_tl _ _ _ _), ?_⟩
  refine List.forall_mem_cons.mpr ⟨zo_none_tl, ?_⟩
  refine List.forall_mem_cons.mpr ⟨zo_none_tl, ?_⟩
  refine List.forall_mem_cons.mpr ⟨(zo_aload_tl _ _), ?_⟩
  refine List.forall_mem_cons.mpr ⟨(zo_iload_tl _ _), ?_⟩
  refine List.forall_mem_cons.mpr ⟨(zo_pushI_tl _ _), ?_⟩
  refine List.forall_mem_cons.mpr ⟨(zo_callx_tl _ _ _ _), ?_⟩
  refine List.forall_mem_cons.mpr ⟨zo_none_tl, ?_⟩
  refine List.forall_mem_cons.mpr ⟨zo_none_tl, ?_⟩
  refine List.forall_mem_cons.mpr ⟨(zo_iload_tl _ _), ?_⟩
  refine List.forall_mem_cons.mpr ⟨(zo_if_tl _ _ _), ?_⟩
  refine List.forall_mem_cons.mpr ⟨zo_none_tl, ?_⟩
  refine List.forall_mem_cons.mpr ⟨zo_none_tl, ?_⟩
  refine List.forall_mem_cons.mpr ⟨(zo_aload_tl _ _), ?_⟩
  refine List.forall_mem_cons.mpr ⟨(zo_getf_tl _ _ _), ?_⟩
  refine List.forall_mem_cons.mpr ⟨zo_none_tl, ?_⟩
  refine List.forall_mem_cons.mpr ⟨zo_none_tl, ?_⟩
  refine List.forall_mem_cons.mpr ⟨(zo_aload_tl _ _), ?_⟩
  refine List.forall_mem_cons.mpr ⟨(zo_getf_tl _ _ _), ?_⟩
  refine List.forall_mem_cons.mpr ⟨zo_none_tl, ?_⟩
  refine List.forall_mem_cons.mpr ⟨zo_none_tl, ?_⟩
  refine List.forall_mem_cons.mpr ⟨(zo_iload_tl _ _), ?_⟩
  refine List.forall_mem_cons.mpr ⟨(zo_callv_tl _ _ _ _), ?_⟩
  refine List.forall_mem_cons.mpr ⟨zo_none_tl, ?_⟩
  refine List.forall_mem_cons.mpr ⟨zo_none_tl, ?_⟩
  refine List.forall_mem_cons.mpr ⟨(zo_callv_tl _ _ _ _), ?_⟩
  refine List.forall_mem_cons.mpr ⟨zo_none_tl, ?_⟩
  refine List.forall_mem_cons.mpr ⟨zo_none_tl, ?_⟩
  refine List.forall_mem_cons.mpr ⟨(zo_goto_tl _), ?_⟩
  refine List.forall_mem_cons.mpr ⟨zo_none_tl, ?_⟩
  refine List.forall_mem_cons.mpr ⟨zo_none_tl, ?_⟩
  refine List.forall_mem_cons.mpr ⟨(zo_aload_tl _ _), ?_⟩
  refine List.forall_mem_cons.mpr ⟨(zo_getf_tl _ _ _), ?_⟩
  refine List.forall_mem_cons.mpr ⟨zo_none_tl, ?_⟩
  refine List.forall_mem_cons.mpr ⟨zo_none_tl, ?_⟩
  refine List.forall_mem_cons.mpr ⟨(zo_iload_tl _ _), ?_⟩
  refine List.forall_mem_cons.mpr ⟨(zo_callv_tl _ _ _ _), ?_⟩
  refine List.forall_mem_cons.mpr ⟨zo_none_tl, ?_⟩
  refine List.forall_mem_cons.mpr ⟨zo_none_tl, ?_⟩
  refine List.forall_mem_cons.mpr ⟨(zo_iret_tl _), ?_⟩
  exact fun _ h => absurd h List.not_mem_nil
noncomputable def fX11_running : zzFn := zz_fn tX11_running 3
set_option maxRecDepth 100000 in
set_option maxHeartbeats 4000000 in
theorem mm_X11_running {l : Launch} {D : va_G} {cA : Nat → ClassId} {ad : Nat → Nat} {Ex : (Nat → Prop) → State → Heap → Prop} (Wd : zzWC l D cA ad Ex) : zz_Cn l D zzCl cA ad zzSC Ex yX11_running cX11_running 3 (some .int) 7 104 fX11_running ∧ zz_Cx l D zzCl cA ad zzSC Ex yX11_running cX11_running 3 (some .int) 7 104 fX11_running := by
  refine zz_meth (plainFor_of_name (by decide)) Wd.1 Wd.2.1 Wd.2.2.1 (fun p e R s m args below meth c rr X => ?_)
  unfold tX11_running
  refine zz_cons (k' := 1) rfl (zk_aload_n X dX11_running_0 rfl rfl) ?_
  refine zz_cons (k' := 2) rfl (zk_iload_n X dX11_running_1 rfl rfl) ?_
  refine zz_cons (k' := 3) rfl (zk_callx X (zz_Cw_of (List.forall_mem_cons.mpr ⟨⟨(RX_9, zzT9, 5), yX11_requireObject, cX11_requireObject, 2, none, 6, 82, rfl, kv_X11_80_9, (mm_X11_requireObject Wd), by decide, by decide⟩, (fun _ h => absurd h List.not_mem_nil)⟩)) dX11_running_2 rfl) ?_
  refine zz_cons (k' := 4) rfl (zz_Ok_none _ _) ?_
  refine zz_cons (k' := 5) rfl (zz_Ok_none _ _) ?_
  refine zz_cons (k' := 6) rfl (zk_aload_n X dX11_running_5 rfl rfl) ?_
  refine zz_cons (k' := 7) rfl (zk_iload_n X dX11_running_6 rfl rfl) ?_
  refine zz_cons (k' := 8) rfl (zk_iconst X dX11_running_7 (by decide) rfl) ?_
  refine zz_cons (k' := 9) rfl (zk_callx X (zz_Cw_of (List.forall_mem_cons.mpr ⟨⟨(RX_9, zzT9, 5), yX11_requireKind, cX11_requireKind, 3, none, 6, 82, rfl, kv_X11_142_9, (mm_X11_requireKind Wd), by decide, by decide⟩, (fun _ h => absurd h List.not_mem_nil)⟩)) dX11_running_8 rfl) ?_
  refine zz_cons (k' := 10) rfl (zz_Ok_none _ _) ?_
  refine zz_cons (k' := 11) rfl (zz_Ok_none _ _) ?_
  refine zz_cons (k' := 12) rfl (zk_iload_n X dX11_running_11 rfl rfl) ?_
  refine zz_cons (k' := 13) rfl (zk_if_eq X dX11_running_12 (by decide) rfl) ?_
  refine zz_cons (k' := 14) rfl (zz_Ok_none _ _) ?_
  refine zz_cons (k' := 15) rfl (zz_Ok_none _ _) ?_
  refine zz_cons (k' := 16) rfl (zk_aload_n X dX11_running_15 rfl rfl) ?_
  refine zz_cons (k' := 17) rfl (zk_getf X ff_X11_10 dX11_running_16 rfl) ?_
  refine zz_cons (k' := 18) rfl (zz_Ok_none _ _) ?_
  refine zz_cons (k' := 19) rfl (zz_Ok_none _ _) ?_
  refine zz_cons (k' := 20) rfl (zk_aload_n X dX11_running_19 rfl rfl) ?_
  refine zz_cons (k' := 21) rfl (zk_getf X ff_X11_10 dX11_running_20 rfl) ?_
  refine zz_cons (k' := 22) rfl (zz_Ok_none _ _) ?_
  refine zz_cons (k' := 23) rfl (zz_Ok_none _ _) ?_
  refine zz_cons (k' := 24) rfl (zk_iload_n X dX11_running_23 rfl rfl) ?_
  refine zz_cons (k' := 25) rfl (zk_callv X (zz_Cv_of (List.forall_mem_cons.mpr ⟨⟨(RX_8, zzT8, 9), yX10_newSetOf, cX10_newSetOf, 4, (some .int), 2, 45, rfl, kv_X11_275_8, (mm_X10_newSetOf Wd).1, by decide, by decide⟩, (fun _ h => absurd h List.not_mem_nil)⟩)) dX11_running_24 rfl) ?_
  refine zz_cons (k' := 26) rfl (zz_Ok_none _ _) ?_
  refine zz_cons (k' := 27) rfl (zz_Ok_none _ _) ?_
  refine zz_cons (k' := 28) rfl (zk_callv X (zz_Cv_of (List.forall_mem_cons.mpr ⟨⟨(RX_8, zzT8, 9), yX10_countRunning, cX10_countRunning, 4, (some .int), 2, 45, rfl, kv_X11_278_8, (mm_X10_countRunning Wd).1, by decide, by decide⟩, (fun _ h => absurd h List.not_mem_nil)⟩)) dX11_running_27 rfl) ?_
  refine zz_cons (k' := 29) rfl (zz_Ok_none _ _) ?_
  refine zz_cons (k' := 30) rfl (zz_Ok_none _ _) ?_
  refine zz_cons (k' := 31) rfl (zk_goto X dX11_running_30 (by decide)) ?_
  refine zz_cons (k' := 32) rfl (zz_Ok_none _ _) ?_
  refine zz_cons (k' := 33) rfl (zz_Ok_none _ _) ?_
  refine zz_cons (k' := 34) rfl (zk_aload_n X dX11_running_33 rfl rfl) ?_
  refine zz_cons (k' := 35) rfl (zk_getf X ff_X11_10 dX11_running_34 rfl) ?_
  refine zz_cons (k' := 36) rfl (zz_Ok_none _ _) ?_
  refine zz_cons (k' := 37) rfl (zz_Ok_none _ _) ?_
  refine zz_cons (k' := 38) rfl (zk_iload_n X dX11_running_37 rfl rfl) ?_
  refine zz_cons (k' := 39) rfl (zk_callv X (zz_Cv_of (List.forall_mem_cons.mpr ⟨⟨(RX_8, zzT8, 9), yX10_countRunningOfAll, cX10_countRunningOfAll, 4, (some .int), 3, 68, rfl, kv_X11_281_8, (mm_X10_countRunningOfAll Wd).1, by decide, by decide⟩, (fun _ h => absurd h List.not_mem_nil)⟩)) dX11_running_38 rfl) ?_
  refine zz_cons (k' := 40) rfl (zz_Ok_none _ _) ?_
  refine zz_cons (k' := 41) rfl (zz_Ok_none _ _) ?_
  refine zz_cons (k' := 42) rfl (zk_iret X rfl dX11_running_41) ?_
  exact trivial
noncomputable def tX11_objectOf : List zzOp := [
  zo_iload 1 1,
  zo_pushI 1 2,
  zo_icmp (fun x y => decide (x < y)) 16 5,
  zo_none,
  zo_none,
  zo_iload 1 6,
  zo_aload 0 7,
  zo_getf zzSC (zz_kf [9] 0) 10,
  zo_none,
  zo_none,
  zo_getf zzSC (zz_kf [8] 3) 13,
  zo_none,
  zo_none,
  zo_icmp (fun x y => decide (x ≤ y)) 27 16,
  zo_none,
  zo_none,
  zo_throw 2,
  zo_none,
  zo_none,
  zo_none,
  zo_none,
  zo_none,
  zo_none,
  zo_none,
  zo_none,
  zo_none,
  zo_none,
  zo_aload 0 28,
  zo_getf zzSC (zz_kf [9] 0) 31,
  zo_none,
  zo_none,
  zo_iload 1 32,
  zo_callv zzSC (zz_cl [(8, fX10_objectAt)]) 1 35,
  zo_none,
  zo_none,
  zo_iret false]
set_option maxRecDepth 100000 in
theorem tl_X11_objectOf : ∀ pc, zz_Tl (tX11_objectOf.getD pc zo_none) := by
  refine zz_Tl_mem ?_
  unfold tX11_objectOf
  refine List.forall_mem_cons.mpr ⟨(zo_iload_tl _ _), ?_⟩
  refine List.forall_mem_cons.mpr ⟨(zo_pushI_tl _ _), ?_⟩
  refine List.forall_mem_cons.mpr ⟨(zo_icmp_tl _ _ _), ?_⟩
  refine List.forall_mem_cons.mpr ⟨zo_none_tl, ?_⟩
  refine List.forall_mem_cons.mpr ⟨zo_none_tl, ?_⟩
  refine List.forall_mem_cons.mpr ⟨(zo_iload_tl _ _), ?_⟩
  refine List.forall_mem_cons.mpr ⟨(zo_aload_tl _ _), ?_⟩
  refine List.forall_mem_cons.mpr ⟨(zo_getf_tl _ _ _), ?_⟩
  refine List.forall_mem_cons.mpr ⟨zo_none_tl, ?_⟩
  refine List.forall_mem_cons.mpr ⟨zo_none_tl, ?_⟩
  refine List.forall_mem_cons.mpr ⟨(zo_getf_tl _ _ _), ?_⟩
  refine List.forall_mem_cons.mpr ⟨zo_none_tl, ?_⟩
  refine List.forall_mem_cons.mpr ⟨zo_none_tl, ?_⟩
  refine List.forall_mem_cons.mpr ⟨(zo_icmp_tl _ _ _), ?_⟩
  refine List.forall_mem_cons.mpr ⟨zo_none_tl, ?_⟩
  refine List.forall_mem_cons.mpr ⟨zo_none_tl, ?_⟩
  refine List.forall_mem_cons.mpr ⟨(zo_throw_tl _), ?_⟩
  refine List.forall_mem_cons.mpr ⟨zo_none_tl, ?_⟩
  refine List.forall_mem_cons.mpr ⟨zo_none_tl, ?_⟩
  refine List.forall_mem_cons.mpr ⟨zo_none_tl, ?_⟩
  refine List.forall_mem_cons.mpr ⟨zo_none_tl, ?_⟩
  refine List.forall_mem_cons.mpr ⟨zo_none_tl, ?_⟩
  refine List.forall_mem_cons.mpr ⟨zo_none_tl, ?_⟩
  refine List.forall_mem_cons.mpr ⟨zo_none_tl, ?_⟩
  refine List.forall_mem_cons.mpr ⟨zo_none_tl, ?_⟩
  refine List.forall_mem_cons.mpr ⟨zo_none_tl, ?_⟩
  refine List.forall_mem_cons.mpr ⟨zo_none_tl, ?_⟩
  refine List.forall_mem_cons.mpr ⟨(zo_aload_tl _ _), ?_⟩
  refine List.forall_mem_cons.mpr ⟨(zo_getf_tl _ _ _), ?_⟩
  refine List.forall_mem_cons.mpr ⟨zo_none_tl, ?_⟩
  refine List.forall_mem_cons.mpr ⟨zo_none_tl, ?_⟩
  refine List.forall_mem_cons.mpr ⟨(zo_iload_tl _ _), ?_⟩
  refine List.forall_mem_cons.mpr ⟨(zo_callv_tl _ _ _ _), ?_⟩
  refine List.forall_mem_cons.mpr ⟨zo_none_tl, ?_⟩
  refine List.forall_mem_cons.mpr ⟨zo_none_tl, ?_⟩
  refine List.forall_mem_cons.mpr ⟨(zo_iret_tl _), ?_⟩
  exact fun _ h => absurd h List.not_mem_nil
noncomputable def fX11_objectOf : zzFn := zz_fn tX11_objectOf 2
set_option maxRecDepth 100000 in
set_option maxHeartbeats 4000000 in
theorem mm_X11_objectOf {l : Launch} {D : va_G} {cA : Nat → ClassId} {ad : Nat → Nat} {Ex : (Nat → Prop) → State → Heap → Prop} (Wd : zzWC l D cA ad Ex) : zz_Cn l D zzCl cA ad zzSC Ex yX11_objectOf cX11_objectOf 2 (some .int) 6 82 fX11_objectOf ∧ zz_Cx l D zzCl cA ad zzSC Ex yX11_objectOf cX11_objectOf 2 (some .int) 6 82 fX11_objectOf := by
  refine zz_meth (plainFor_of_name (by decide)) Wd.1 Wd.2.1 Wd.2.2.1 (fun p e R s m args below meth c rr X => ?_)
  unfold tX11_objectOf
  refine zz_cons (k' := 1) rfl (zk_iload_n X dX11_objectOf_0 rfl rfl) ?_
  refine zz_cons (k' := 2) rfl (zk_iconst X dX11_objectOf_1 (by decide) rfl) ?_
  refine zz_cons (k' := 3) rfl (zk_icmp_lt X dX11_objectOf_2 (by decide) rfl) ?_
  refine zz_cons (k' := 4) rfl (zz_Ok_none _ _) ?_
  refine zz_cons (k' := 5) rfl (zz_Ok_none _ _) ?_
  refine zz_cons (k' := 6) rfl (zk_iload_n X dX11_objectOf_5 rfl rfl) ?_
  refine zz_cons (k' := 7) rfl (zk_aload_n X dX11_objectOf_6 rfl rfl) ?_
  refine zz_cons (k' := 8) rfl (zk_getf X ff_X11_10 dX11_objectOf_7 rfl) ?_
  refine zz_cons (k' := 9) rfl (zz_Ok_none _ _) ?_
  refine zz_cons (k' := 10) rfl (zz_Ok_none _ _) ?_
  refine zz_cons (k' := 11) rfl (zk_getf X ff_X11_201 dX11_objectOf_10 rfl) ?_
  refine zz_cons (k' := 12) rfl (zz_Ok_none _ _) ?_
  refine zz_cons (k' := 13) rfl (zz_Ok_none _ _) ?_
  refine zz_cons (k' := 14) rfl (zk_icmp_le X dX11_objectOf_13 (by decide) rfl) ?_
  refine zz_cons (k' := 15) rfl (zz_Ok_none _ _) ?_
  refine zz_cons (k' := 16) rfl (zz_Ok_none _ _) ?_
  refine zz_cons (k' := 17) rfl (zk_throwW X (th_X11_208_284 Wd) (by decide) dX11_objectOf_16 dX11_objectOf_19 dX11_objectOf_20 dX11_objectOf_23 dX11_objectOf_26) ?_
  refine zz_cons (k' := 18) rfl (zz_Ok_none _ _) ?_
  refine zz_cons (k' := 19) rfl (zz_Ok_none _ _) ?_
  refine zz_cons (k' := 20) rfl (zz_Ok_none _ _) ?_
  refine zz_cons (k' := 21) rfl (zz_Ok_none _ _) ?_
  refine zz_cons (k' := 22) rfl (zz_Ok_none _ _) ?_
  refine zz_cons (k' := 23) rfl (zz_Ok_none _ _) ?_
  refine zz_cons (k' := 24) rfl (zz_Ok_none _ _) ?_
  refine zz_cons (k' := 25) rfl (zz_Ok_none _ _) ?_
  refine zz_cons (k' := 26) rfl (zz_Ok_none _ _) ?_
  refine zz_cons (k' := 27) rfl (zz_Ok_none _ _) ?_
  refine zz_cons (k' := 28) rfl (zk_aload_n X dX11_objectOf_27 rfl rfl) ?_
  refine zz_cons (k' := 29) rfl (zk_getf X ff_X11_10 dX11_objectOf_28 rfl) ?_
  refine zz_cons (k' := 30) rfl (zz_Ok_none _ _) ?_
  refine zz_cons (k' := 31) rfl (zz_Ok_none _ _) ?_
  refine zz_cons (k' := 32) rfl (zk_iload_n X dX11_objectOf_31 rfl rfl) ?_
  refine zz_cons (k' := 33) rfl (zk_callv X (zz_Cv_of (List.forall_mem_cons.mpr ⟨⟨(RX_8, zzT8, 9), yX10_objectAt, cX10_objectAt, 2, (some .int), 0, 0, rfl, kv_X11_240_8, (mm_X10_objectAt Wd).1, by decide, by decide⟩, (fun _ h => absurd h List.not_mem_nil)⟩)) dX11_objectOf_32 rfl) ?_
  refine zz_cons (k' := 34) rfl (zz_Ok_none _ _) ?_
  refine zz_cons (k' := 35) rfl (zz_Ok_none _ _) ?_
  refine zz_cons (k' := 36) rfl (zk_iret X rfl dX11_objectOf_35) ?_
  exact trivial
end

section
noncomputable def tX12_isCurrent : List zzOp := [
  zo_aload 0 1,
  zo_getf zzSR (zz_kf [10] 9) 4,
  zo_none,
  zo_none,
  zo_iload 1 5,
  zo_iald zzSR zzSTR 6,
  zo_aload 0 7,
  zo_getf zzSR (zz_kf [10] 36) 10,
  zo_none,
  zo_none,
  zo_pushI 60 12,
  zo_none,
  zo_aload 0 13,
  zo_getf zzSR (zz_kf [10] 42) 16,
  zo_none,
  zo_none,
  zo_ii (fun x y => x * y) 17,
  zo_iload 1 18,
  zo_ii (fun x y => x + y) 19,
  zo_iald zzSR zzSTR 20,
  zo_icmp (fun x y => decide (¬ x = y)) 27 23,
  zo_none,
  zo_none,
  zo_pushI 1 24,
  zo_goto 28,
  zo_none,
  zo_none,
  zo_pushI 0 28,
  zo_iret true]
set_option maxRecDepth 100000 in
theorem tl_X12_isCurrent : ∀ pc, zz_Tl (tX12_isCurrent.getD pc zo_none) := by
  refine zz_Tl_mem ?_
  unfold tX12_isCurrent
  refine List.forall_mem_cons.mpr ⟨(zo_aload_tl _ _), ?_⟩
  refine List.forall_mem_cons.mpr ⟨(zo_getf_tl _ _ _), ?_⟩
  refine List.forall_mem_cons.mpr ⟨zo_none_tl, ?_⟩
  refine List.forall_mem_cons.mpr ⟨zo_none_tl, ?_⟩
  refine List.forall_mem_cons.mpr ⟨(zo_iload_tl _ _), ?_⟩
  refine List.forall_mem_cons.mpr ⟨(zo_iald_tl _ _ _), ?_⟩
  refine List.forall_mem_cons.mpr ⟨(zo_aload_tl _ _), ?_⟩
  refine List.forall_mem_cons.mpr ⟨(zo_getf_tl _ _ _), ?_⟩
  refine List.forall_mem_cons.mpr ⟨zo_none_tl, ?_⟩
  refine List.forall_mem_cons.mpr ⟨zo_none_tl, ?_⟩
  refine List.forall_mem_cons.mpr ⟨(zo_pushI_tl _ _), ?_⟩
  refine List.forall_mem_cons.mpr ⟨zo_none_tl, ?_⟩
  refine List.forall_mem_cons.mpr ⟨(zo_aload_tl _ _), ?_⟩
  refine List.forall_mem_cons.mpr ⟨(zo_getf_tl _ _ _), ?_⟩
  refine List.forall_mem_cons.mpr ⟨zo_none_tl, ?_⟩
  refine List.forall_mem_cons.mpr ⟨zo_none_tl, ?_⟩
  refine List.forall_mem_cons.mpr ⟨(zo_ii_tl _ _), ?_⟩
  refine List.forall_mem_cons.mpr ⟨(zo_iload_tl _ _), ?_⟩
  refine List.forall_mem_cons.mpr ⟨(zo_ii_tl _ _), ?_⟩
  refine List.forall_mem_cons.mpr ⟨(zo_iald_tl _ _ _), ?_⟩
  refine List.forall_mem_cons.mpr ⟨(zo_icmp_tl _ _ _), ?_⟩
  refine List.forall_mem_cons.mpr ⟨zo_none_tl, ?_⟩
  refine List.forall_mem_cons.mpr ⟨zo_none_tl, ?_⟩
  refine List.forall_mem_cons.mpr ⟨(zo_pushI_tl _ _), ?_⟩
  refine List.forall_mem_cons.mpr ⟨(zo_goto_tl _), ?_⟩
  refine List.forall_mem_cons.mpr ⟨zo_none_tl, ?_⟩
  refine List.forall_mem_cons.mpr ⟨zo_none_tl, ?_⟩
  refine List.forall_mem_cons.mpr ⟨(zo_pushI_tl _ _), ?_⟩
  refine List.forall_mem_cons.mpr ⟨(zo_iret_tl _), ?_⟩
  exact fun _ h => absurd h List.not_mem_nil
noncomputable def fX12_isCurrent : zzFn := zz_fn tX12_isCurrent 2
set_option maxRecDepth 100000 in
set_option maxHeartbeats 4000000 in
theorem mm_X12_isCurrent {l : Launch} {D : va_G} {cA : Nat → ClassId} {ad : Nat → Nat} {Ex : (Nat → Prop) → State → Heap → Prop} (Wd : zzWR l D cA ad Ex) : zz_Cn l D zzCl cA ad zzSR Ex yX12_isCurrent cX12_isCurrent 2 (some .boolean) 0 0 fX12_isCurrent ∧ zz_Cx l D zzCl cA ad zzSR Ex yX12_isCurrent cX12_isCurrent 2 (some .boolean) 0 0 fX12_isCurrent := by
  refine zz_meth (plainFor_of_name (by decide)) Wd.1 Wd.2.1 Wd.2.2 (fun p e R s m args below meth c rr X => ?_)
  unfold tX12_isCurrent
  refine zz_cons (k' := 1) rfl (zk_aload_n X dX12_isCurrent_0 rfl rfl) ?_
  refine zz_cons (k' := 2) rfl (zk_getf X ff_X12_35 dX12_isCurrent_1 rfl) ?_
  refine zz_cons (k' := 3) rfl (zz_Ok_none _ _) ?_
  refine zz_cons (k' := 4) rfl (zz_Ok_none _ _) ?_
  refine zz_cons (k' := 5) rfl (zk_iload_n X dX12_isCurrent_4 rfl rfl) ?_
  refine zz_cons (k' := 6) rfl (zk_iald X (zzWR_st Wd) dX12_isCurrent_5 rfl) ?_
  refine zz_cons (k' := 7) rfl (zk_aload_n X dX12_isCurrent_6 rfl rfl) ?_
  refine zz_cons (k' := 8) rfl (zk_getf X ff_X12_103 dX12_isCurrent_7 rfl) ?_
  refine zz_cons (k' := 9) rfl (zz_Ok_none _ _) ?_
  refine zz_cons (k' := 10) rfl (zz_Ok_none _ _) ?_
  refine zz_cons (k' := 11) rfl (zk_bipush X dX12_isCurrent_10 (by decide) rfl) ?_
  refine zz_cons (k' := 12) rfl (zz_Ok_none _ _) ?_
  refine zz_cons (k' := 13) rfl (zk_aload_n X dX12_isCurrent_12 rfl rfl) ?_
  refine zz_cons (k' := 14) rfl (zk_getf X ff_X12_193 dX12_isCurrent_13 rfl) ?_
  refine zz_cons (k' := 15) rfl (zz_Ok_none _ _) ?_
  refine zz_cons (k' := 16) rfl (zz_Ok_none _ _) ?_
  refine zz_cons (k' := 17) rfl (zk_imul X dX12_isCurrent_16 rfl) ?_
  refine zz_cons (k' := 18) rfl (zk_iload_n X dX12_isCurrent_17 rfl rfl) ?_
  refine zz_cons (k' := 19) rfl (zk_iadd X dX12_isCurrent_18 rfl) ?_
  refine zz_cons (k' := 20) rfl (zk_iald X (zzWR_st Wd) dX12_isCurrent_19 rfl) ?_
  refine zz_cons (k' := 21) rfl (zk_icmp_ne X dX12_isCurrent_20 (by decide) rfl) ?_
  refine zz_cons (k' := 22) rfl (zz_Ok_none _ _) ?_
  refine zz_cons (k' := 23) rfl (zz_Ok_none _ _) ?_
  refine zz_cons (k' := 24) rfl (zk_iconst X dX12_isCurrent_23 (by decide) rfl) ?_
  refine zz_cons (k' := 25) rfl (zk_goto X dX12_isCurrent_24 (by decide)) ?_
  refine zz_cons (k' := 26) rfl (zz_Ok_none _ _) ?_
  refine zz_cons (k' := 27) rfl (zz_Ok_none _ _) ?_
  refine zz_cons (k' := 28) rfl (zk_iconst X dX12_isCurrent_27 (by decide) rfl) ?_
  refine zz_cons (k' := 29) rfl (zk_iret X rfl dX12_isCurrent_28) ?_
  exact trivial
noncomputable def tX12_writesIt : List zzOp := [
  zo_aload 0 1,
  zo_getf zzSR (zz_kf [10] 14) 4,
  zo_none,
  zo_none,
  zo_istore 6 6,
  zo_none,
  zo_aload 0 7,
  zo_iload 1 8,
  zo_callv zzSR (zz_cl [(10, fX12_isCurrent)]) 1 11,
  zo_none,
  zo_none,
  zo_if (fun x => decide (x = 0)) 30 14,
  zo_none,
  zo_none,
  zo_aload 0 15,
  zo_iload 1 16,
  zo_lload 2 17,
  zo_lload 4 19,
  zo_none,
  zo_pushI 0 20,
  zo_callv zzSR (zz_cl [(10, fX12_puts)]) 4 23,
  zo_none,
  zo_none,
  zo_if (fun x => decide (x = 0)) 30 26,
  zo_none,
  zo_none,
  zo_pushI 1 27,
  zo_goto 31,
  zo_none,
  zo_none,
  zo_pushI 0 31,
  zo_istore 7 33,
  zo_none,
  zo_aload 0 34,
  zo_iload 6 36,
  zo_none,
  zo_callv zzSR (zz_cl [(10, fX12_wrote)]) 1 39,
  zo_none,
  zo_none,
  zo_iload 7 41,
  zo_none,
  zo_iret true]
set_option maxRecDepth 100000 in
theorem tl_X12_writesIt : ∀ pc, zz_Tl (tX12_writesIt.getD pc zo_none) := by
  refine zz_Tl_mem ?_
  unfold tX12_writesIt
  refine List.forall_mem_cons.mpr ⟨(zo_aload_tl _ _), ?_⟩
  refine List.forall_mem_cons.mpr ⟨(zo_getf_tl _ _ _), ?_⟩
  refine List.forall_mem_cons.mpr ⟨zo_none_tl, ?_⟩
  refine List.forall_mem_cons.mpr ⟨zo_none_tl, ?_⟩
  refine List.forall_mem_cons.mpr ⟨(zo_istore_tl _ _), ?_⟩
  refine List.forall_mem_cons.mpr ⟨zo_none_tl, ?_⟩
  refine List.forall_mem_cons.mpr ⟨(zo_aload_tl _ _), ?_⟩
  refine List.forall_mem_cons.mpr ⟨(zo_iload_tl _ _), ?_⟩
  refine List.forall_mem_cons.mpr ⟨(zo_callv_tl _ _ _ _), ?_⟩
  refine List.forall_mem_cons.mpr ⟨zo_none_tl, ?_⟩
  refine List.forall_mem_cons.mpr ⟨zo_none_tl, ?_⟩
  refine List.forall_mem_cons.mpr ⟨(zo_if_tl _ _ _), ?_⟩
  refine List.forall_mem_cons.mpr ⟨zo_none_tl, ?_⟩
  refine List.forall_mem_cons.mpr ⟨zo_none_tl, ?_⟩
  refine List.forall_mem_cons.mpr ⟨(zo_aload_tl _ _), ?_⟩
  refine List.forall_mem_cons.mpr ⟨(zo_iload_tl _ _), ?_⟩
  refine List.forall_mem_cons.mpr ⟨(zo_lload_tl _ _), ?_⟩
  refine List.forall_mem_cons.mpr ⟨(zo_lload_tl _ _), ?_⟩
  refine List.forall_mem_cons.mpr ⟨zo_none_tl, ?_⟩
  refine List.forall_mem_cons.mpr ⟨(zo_pushI_tl _ _), ?_⟩
  refine List.forall_mem_cons.mpr ⟨(zo_callv_tl _ _ _ _), ?_⟩
  refine List.forall_mem_cons.mpr ⟨zo_none_tl, ?_⟩
  refine List.forall_mem_cons.mpr ⟨zo_none_tl, ?_⟩
  refine List.forall_mem_cons.mpr ⟨(zo_if_tl _ _ _), ?_⟩
  refine List.forall_mem_cons.mpr ⟨zo_none_tl, ?_⟩
  refine List.forall_mem_cons.mpr ⟨zo_none_tl, ?_⟩
  refine List.forall_mem_cons.mpr ⟨(zo_pushI_tl _ _), ?_⟩
  refine List.forall_mem_cons.mpr ⟨(zo_goto_tl _), ?_⟩
  refine List.forall_mem_cons.mpr ⟨zo_none_tl, ?_⟩
  refine List.forall_mem_cons.mpr ⟨zo_none_tl, ?_⟩
  refine List.forall_mem_cons.mpr ⟨(zo_pushI_tl _ _), ?_⟩
  refine List.forall_mem_cons.mpr ⟨(zo_istore_tl _ _), ?_⟩
  refine List.forall_mem_cons.mpr ⟨zo_none_tl, ?_⟩
  refine List.forall_mem_cons.mpr ⟨(zo_aload_tl _ _), ?_⟩
  refine List.forall_mem_cons.mpr ⟨(zo_iload_tl _ _), ?_⟩
  refine List.forall_mem_cons.mpr ⟨zo_none_tl, ?_⟩
  refine List.forall_mem_cons.mpr ⟨(zo_callv_tl _ _ _ _), ?_⟩
  refine List.forall_mem_cons.mpr ⟨zo_none_tl, ?_⟩
  refine List.forall_mem_cons.mpr ⟨zo_none_tl, ?_⟩
  refine List.forall_mem_cons.mpr ⟨(zo_iload_tl _ _), ?_⟩
  refine List.forall_mem_cons.mpr ⟨zo_none_tl, ?_⟩
  refine List.forall_mem_cons.mpr ⟨(zo_iret_tl _), ?_⟩
  exact fun _ h => absurd h List.not_mem_nil
noncomputable def fX12_writesIt : zzFn := zz_fn tX12_writesIt 8
set_option maxRecDepth 100000 in
set_option maxHeartbeats 4000000 in
theorem mm_X12_writesIt {l : Launch} {D : va_G} {cA : Nat → ClassId} {ad : Nat → Nat} {Ex : (Nat → Prop) → State → Heap → Prop} (Wd : zzWR l D cA ad Ex) : zz_Cn l D zzCl cA ad zzSR Ex yX12_writesIt cX12_writesIt 8 (some .boolean) 2 52 fX12_writesIt ∧ zz_Cx l D zzCl cA ad zzSR Ex yX12_writesIt cX12_writesIt 8 (some .boolean) 2 52 fX12_writesIt := by
  refine zz_meth (plainFor_of_name (by decide)) Wd.1 Wd.2.1 Wd.2.2 (fun p e R s m args below meth c rr X => ?_)
  unfold tX12_writesIt
  refine zz_cons (k' := 1) rfl (zk_aload_n X dX12_writesIt_0 rfl rfl) ?_
  refine zz_cons (k' := 2) rfl (zk_getf X ff_X12_154 dX12_writesIt_1 rfl) ?_
  refine zz_cons (k' := 3) rfl (zz_Ok_none _ _) ?_
  refine zz_cons (k' := 4) rfl (zz_Ok_none _ _) ?_
  refine zz_cons (k' := 5) rfl (zk_istore X dX12_writesIt_4 (by decide) rfl) ?_
  refine zz_cons (k' := 6) rfl (zz_Ok_none _ _) ?_
  refine zz_cons (k' := 7) rfl (zk_aload_n X dX12_writesIt_6 rfl rfl) ?_
  refine zz_cons (k' := 8) rfl (zk_iload_n X dX12_writesIt_7 rfl rfl) ?_
  refine zz_cons (k' := 9) rfl (zk_callv X (zz_Cv_of (List.forall_mem_cons.mpr ⟨⟨(RX_10, zzT10, 50), yX12_isCurrent, cX12_isCurrent, 2, (some .boolean), 0, 0, rfl, kv_X12_246_10.1, (mm_X12_isCurrent Wd).1, by decide, by decide⟩, (fun _ h => absurd h List.not_mem_nil)⟩)) dX12_writesIt_8 rfl) ?_
  refine zz_cons (k' := 10) rfl (zz_Ok_none _ _) ?_
  refine zz_cons (k' := 11) rfl (zz_Ok_none _ _) ?_
  refine zz_cons (k' := 12) rfl (zk_if_eq X dX12_writesIt_11 (by decide) rfl) ?_
  refine zz_cons (k' := 13) rfl (zz_Ok_none _ _) ?_
  refine zz_cons (k' := 14) rfl (zz_Ok_none _ _) ?_
  refine zz_cons (k' := 15) rfl (zk_aload_n X dX12_writesIt_14 rfl rfl) ?_
  refine zz_cons (k' := 16) rfl (zk_iload_n X dX12_writesIt_15 rfl rfl) ?_
  refine zz_cons (k' := 17) rfl (zk_lload_n X dX12_writesIt_16 rfl rfl) ?_
  refine zz_cons (k' := 18) rfl (zk_lload X dX12_writesIt_17 rfl) ?_
  refine zz_cons (k' := 19) rfl (zz_Ok_none _ _) ?_
  refine zz_cons (k' := 20) rfl (zk_iconst X dX12_writesIt_19 (by decide) rfl) ?_
  refine zz_cons (k' := 21) rfl (zk_callv X (zz_Cv_of (List.forall_mem_cons.mpr ⟨⟨(RX_10, zzT10, 50), yX12_puts, cX12_puts, 8, (some .boolean), 1, 25, rfl, kv_X12_185_10.1, (mm_X12_puts Wd).1, by decide, by decide⟩, (fun _ h => absurd h List.not_mem_nil)⟩)) dX12_writesIt_20 rfl) ?_
  refine zz_cons (k' := 22) rfl (zz_Ok_none _ _) ?_
  refine zz_cons (k' := 23) rfl (zz_Ok_none _ _) ?_
  refine zz_cons (k' := 24) rfl (zk_if_eq X dX12_writesIt_23 (by decide) rfl) ?_
  refine zz_cons (k' := 25) rfl (zz_Ok_none _ _) ?_
  refine zz_cons (k' := 26) rfl (zz_Ok_none _ _) ?_
  refine zz_cons (k' := 27) rfl (zk_iconst X dX12_writesIt_26 (by decide) rfl) ?_
  refine zz_cons (k' := 28) rfl (zk_goto X dX12_writesIt_27 (by decide)) ?_
  refine zz_cons (k' := 29) rfl (zz_Ok_none _ _) ?_
  refine zz_cons (k' := 30) rfl (zz_Ok_none _ _) ?_
  refine zz_cons (k' := 31) rfl (zk_iconst X dX12_writesIt_30 (by decide) rfl) ?_
  refine zz_cons (k' := 32) rfl (zk_istore X dX12_writesIt_31 (by decide) rfl) ?_
  refine zz_cons (k' := 33) rfl (zz_Ok_none _ _) ?_
  refine zz_cons (k' := 34) rfl (zk_aload_n X dX12_writesIt_33 rfl rfl) ?_
  refine zz_cons (k' := 35) rfl (zk_iload X dX12_writesIt_34 rfl) ?_
  refine zz_cons (k' := 36) rfl (zz_Ok_none _ _) ?_
  refine zz_cons (k' := 37) rfl (zk_callv X (zz_Cv_of (List.forall_mem_cons.mpr ⟨⟨(RX_10, zzT10, 50), yX12_wrote, cX12_wrote, 2, none, 0, 0, rfl, kv_X12_249_10.1, (mm_X12_wrote Wd).1, by decide, by decide⟩, (fun _ h => absurd h List.not_mem_nil)⟩)) dX12_writesIt_36 rfl) ?_
  refine zz_cons (k' := 38) rfl (zz_Ok_none _ _) ?_
  refine zz_cons (k' := 39) rfl (zz_Ok_none _ _) ?_
  refine zz_cons (k' := 40) rfl (zk_iload X dX12_writesIt_39 rfl) ?_
  refine zz_cons (k' := 41) rfl (zz_Ok_none _ _) ?_
  refine zz_cons (k' := 42) rfl (zk_iret X rfl dX12_writesIt_41) ?_
  exact trivial
noncomputable def tX12_wants : List zzOp := [
  zo_aload 0 1,
  zo_getf zzSR (zz_kf [10] 14) 4,
  zo_none,
  zo_none,
  zo_istore 3 5,
  zo_aload 0 6,
  zo_iload 1 7,
  zo_callv zzSR (zz_cl [(10, fX12_isCurrent)]) 1 10,
  zo_none,
  zo_none,
  zo_if (fun x => decide (x = 0)) 28 13,
  zo_none,
  zo_none,
  zo_aload 0 14,
  zo_pushI 4 15,
  zo_iload 1 16,
  zo_pushI 0 17,
  zo_iload 2 18,
  zo_callv zzSR (zz_cl [(10, fX12_applies)]) 4 21,
  zo_none,
  zo_none,
  zo_if (fun x => decide (x = 0)) 28 24,
  zo_none,
  zo_none,
  zo_pushI 1 25,
  zo_goto 29,
  zo_none,
  zo_none,
  zo_pushI 0 29,
  zo_istore 4 31,
  zo_none,
  zo_aload 0 32,
  zo_iload 3 33,
  zo_callv zzSR (zz_cl [(10, fX12_wrote)]) 1 36,
  zo_none,
  zo_none,
  zo_iload 4 38,
  zo_none,
  zo_iret true]
set_option maxRecDepth 100000 in
theorem tl_X12_wants : ∀ pc, zz_Tl (tX12_wants.getD pc zo_none) := by
  refine zz_Tl_mem ?_
  unfold tX12_wants
  refine List.forall_mem_cons.mpr ⟨(zo_aload_tl _ _), ?_⟩
  refine List.forall_mem_cons.mpr ⟨(zo_getf_tl _ _ _), ?_⟩
  refine List.forall_mem_cons.mpr ⟨zo_none_tl, ?_⟩
  refine List.forall_mem_cons.mpr ⟨zo_none_tl, ?_⟩
  refine List.forall_mem_cons.mpr ⟨(zo_istore_tl _ _), ?_⟩
  refine List.forall_mem_cons.mpr ⟨(zo_aload_tl _ _), ?_⟩
  refine List.forall_mem_cons.mpr ⟨(zo_iload_tl _ _), ?_⟩
  refine List.forall_mem_cons.mpr ⟨(zo_callv_tl _ _ _ _), ?_⟩
  refine List.forall_mem_cons.mpr ⟨zo_none_tl, ?_⟩
  refine List.forall_mem_cons.mpr ⟨zo_none_tl, ?_⟩
  refine List.forall_mem_cons.mpr ⟨(zo_if_tl _ _ _), ?_⟩
  refine List.forall_mem_cons.mpr ⟨zo_none_tl, ?_⟩
  refine List.forall_mem_cons.mpr ⟨zo_none_tl, ?_⟩
  refine List.forall_mem_cons.mpr ⟨(zo_aload_tl _ _), ?_⟩
  refine List.forall_mem_cons.mpr ⟨(zo_pushI_tl _ _), ?_⟩
  refine List.forall_mem_cons.mpr ⟨(zo_iload_tl _ _), ?_⟩
  refine List.forall_mem_cons.mpr ⟨(zo_pushI_tl _ _), ?_⟩
  refine List.forall_mem_cons.mpr ⟨(zo_iload_tl _ _), ?_⟩
  refine List.forall_mem_cons.mpr ⟨(zo_callv_tl _ _ _ _), ?_⟩
  refine List.forall_mem_cons.mpr ⟨zo_none_tl, ?_⟩
  refine List.forall_mem_cons.mpr ⟨zo_none_tl, ?_⟩
  refine List.forall_mem_cons.mpr ⟨(zo_if_tl _ _ _), ?_⟩
  refine List.forall_mem_cons.mpr ⟨zo_none_tl, ?_⟩
  refine List.forall_mem_cons.mpr ⟨zo_none_tl, ?_⟩
  refine List.forall_mem_cons.mpr ⟨(zo_pushI_tl _ _), ?_⟩
  refine List.forall_mem_cons.mpr ⟨(zo_goto_tl _), ?_⟩
  refine List.forall_mem_cons.mpr ⟨zo_none_tl, ?_⟩
  refine List.forall_mem_cons.mpr ⟨zo_none_tl, ?_⟩
  refine List.forall_mem_cons.mpr ⟨(zo_pushI_tl _ _), ?_⟩
  refine List.forall_mem_cons.mpr ⟨(zo_istore_tl _ _), ?_⟩
  refine List.forall_mem_cons.mpr ⟨zo_none_tl, ?_⟩
  refine List.forall_mem_cons.mpr ⟨(zo_aload_tl _ _), ?_⟩
  refine List.forall_mem_cons.mpr ⟨(zo_iload_tl _ _), ?_⟩
  refine List.forall_mem_cons.mpr ⟨(zo_callv_tl _ _ _ _), ?_⟩
  refine List.forall_mem_cons.mpr ⟨zo_none_tl, ?_⟩
  refine List.forall_mem_cons.mpr ⟨zo_none_tl, ?_⟩
  refine List.forall_mem_cons.mpr ⟨(zo_iload_tl _ _), ?_⟩
  refine List.forall_mem_cons.mpr ⟨zo_none_tl, ?_⟩
  refine List.forall_mem_cons.mpr ⟨(zo_iret_tl _), ?_⟩
  exact fun _ h => absurd h List.not_mem_nil
noncomputable def fX12_wants : zzFn := zz_fn tX12_wants 5
set_option maxRecDepth 100000 in
set_option maxHeartbeats 4000000 in
theorem mm_X12_wants {l : Launch} {D : va_G} {cA : Nat → ClassId} {ad : Nat → Nat} {Ex : (Nat → Prop) → State → Heap → Prop} (Wd : zzWR l D cA ad Ex) : zz_Cn l D zzCl cA ad zzSR Ex yX12_wants cX12_wants 5 (some .boolean) 3 84 fX12_wants ∧ zz_Cx l D zzCl cA ad zzSR Ex yX12_wants cX12_wants 5 (some .boolean) 3 84 fX12_wants := by
  refine zz_meth (plainFor_of_name (by decide)) Wd.1 Wd.2.1 Wd.2.2 (fun p e R s m args below meth c rr X => ?_)
  unfold tX12_wants
  refine zz_cons (k' := 1) rfl (zk_aload_n X dX12_wants_0 rfl rfl) ?_
  refine zz_cons (k' := 2) rfl (zk_getf X ff_X12_154 dX12_wants_1 rfl) ?_
  refine zz_cons (k' := 3) rfl (zz_Ok_none _ _) ?_
  refine zz_cons (k' := 4) rfl (zz_Ok_none _ _) ?_
  refine zz_cons (k' := 5) rfl (zk_istore_n X dX12_wants_4 rfl (by decide) rfl) ?_
  refine zz_cons (k' := 6) rfl (zk_aload_n X dX12_wants_5 rfl rfl) ?_
  refine zz_cons (k' := 7) rfl (zk_iload_n X dX12_wants_6 rfl rfl) ?_
  refine zz_cons (k' := 8) rfl (zk_callv X (zz_Cv_of (List.forall_mem_cons.mpr ⟨⟨(RX_10, zzT10, 50), yX12_isCurrent, cX12_isCurrent, 2, (some .boolean), 0, 0, rfl, kv_X12_246_10.1, (mm_X12_isCurrent Wd).1, by decide, by decide⟩, (fun _ h => absurd h List.not_mem_nil)⟩)) dX12_wants_7 rfl) ?_
  refine zz_cons (k' := 9) rfl (zz_Ok_none _ _) ?_
  refine zz_cons (k' := 10) rfl (zz_Ok_none _ _) ?_
  refine zz_cons (k' := 11) rfl (zk_if_eq X dX12_wants_10 (by decide) rfl) ?_
  refine zz_cons (k' := 12) rfl (zz_Ok_none _ _) ?_
  refine zz_cons (k' := 13) rfl (zz_Ok_none _ _) ?_
  refine zz_cons (k' := 14) rfl (zk_aload_n X dX12_wants_13 rfl rfl) ?_
  refine zz_cons (k' := 15) rfl (zk_iconst X dX12_wants_14 (by decide) rfl) ?_
  refine zz_cons (k' := 16) rfl (zk_iload_n X dX12_wants_15 rfl rfl) ?_
  refine zz_cons (k' := 17) rfl (zk_iconst X dX12_wants_16 (by decide) rfl) ?_
  refine zz_cons (k' := 18) rfl (zk_iload_n X dX12_wants_17 rfl rfl) ?_
  refine zz_cons (k' := 19) rfl (zk_callv X (zz_Cv_of (List.forall_mem_cons.mpr ⟨⟨(RX_10, zzT10, 50), yX12_applies, cX12_applies, 8, (some .boolean), 2, 57, rfl, kv_X12_253_10.1, (mm_X12_applies Wd).1, by decide, by decide⟩, (fun _ h => absurd h List.not_mem_nil)⟩)) dX12_wants_18 rfl) ?_
  refine zz_cons (k' := 20) rfl (zz_Ok_none _ _) ?_
  refine zz_cons (k' := 21) rfl (zz_Ok_none _ _) ?_
  refine zz_cons (k' := 22) rfl (zk_if_eq X dX12_wants_21 (by decide) rfl) ?_
  refine zz_cons (k' := 23) rfl (zz_Ok_none _ _) ?_
  refine zz_cons (k' := 24) rfl (zz_Ok_none _ _) ?_
  refine zz_cons (k' := 25) rfl (zk_iconst X dX12_wants_24 (by decide) rfl) ?_
  refine zz_cons (k' := 26) rfl (zk_goto X dX12_wants_25 (by decide)) ?_
  refine zz_cons (k' := 27) rfl (zz_Ok_none _ _) ?_
  refine zz_cons (k' := 28) rfl (zz_Ok_none _ _) ?_
  refine zz_cons (k' := 29) rfl (zk_iconst X dX12_wants_28 (by decide) rfl) ?_
  refine zz_cons (k' := 30) rfl (zk_istore X dX12_wants_29 (by decide) rfl) ?_
  refine zz_cons (k' := 31) rfl (zz_Ok_none _ _) ?_
  refine zz_cons (k' := 32) rfl (zk_aload_n X dX12_wants_31 rfl rfl) ?_
  refine zz_cons (k' := 33) rfl (zk_iload_n X dX12_wants_32 rfl rfl) ?_
  refine zz_cons (k' := 34) rfl (zk_callv X (zz_Cv_of (List.forall_mem_cons.mpr ⟨⟨(RX_10, zzT10, 50), yX12_wrote, cX12_wrote, 2, none, 0, 0, rfl, kv_X12_249_10.1, (mm_X12_wrote Wd).1, by decide, by decide⟩, (fun _ h => absurd h List.not_mem_nil)⟩)) dX12_wants_33 rfl) ?_
  refine zz_cons (k' := 35) rfl (zz_Ok_none _ _) ?_
  refine zz_cons (k' := 36) rfl (zz_Ok_none _ _) ?_
  refine zz_cons (k' := 37) rfl (zk_iload X dX12_wants_36 rfl) ?_
  refine zz_cons (k' := 38) rfl (zz_Ok_none _ _) ?_
  refine zz_cons (k' := 39) rfl (zk_iret X rfl dX12_wants_38) ?_
  exact trivial
noncomputable def tX12_deletes : List zzOp := [
  zo_aload 0 1,
  zo_iload 1 2,
  zo_aload 0 3,
  zo_iload 1 4,
  zo_aload 0 5,
  zo_getf zzSR (zz_kf [10] 7) 8,
  zo_none,
  zo_none,
  zo_iload 1 9,
  zo_lald zzSR 10,
  zo_pushI 2 11,
  zo_callv zzSR (zz_cl [(10, fX12_deleted)]) 3 14,
  zo_none,
  zo_none,
  zo_aload 0 15,
  zo_getf zzSR (zz_kf [10] 8) 18,
  zo_none,
  zo_none,
  zo_iload 1 19,
  zo_lald zzSR 20,
  zo_callv zzSR (zz_cl [(10, fX12_writesIt)]) 3 23,
  zo_none,
  zo_none,
  zo_iret true]
set_option maxRecDepth 100000 in
theorem tl_X12_deletes : ∀ pc, zz_Tl (tX12_deletes.getD pc zo_none) := by
  refine zz_Tl_mem ?_
  unfold tX12_deletes
  refine List.forall_mem_cons.mpr ⟨(zo_aload_tl _ _), ?_⟩
  refine List.forall_mem_cons.mpr ⟨(zo_iload_tl _ _), ?_⟩
  refine List.forall_mem_cons.mpr ⟨(zo_aload_tl _ _), ?_⟩
  refine List.forall_mem_cons.mpr ⟨(zo_iload_tl _ _), ?_⟩
  refine List.forall_mem_cons.mpr ⟨(zo_aload_tl _ _), ?_⟩
  refine List.forall_mem_cons.mpr ⟨(zo_getf_tl _ _ _), ?_⟩
  refine List.forall_mem_cons.mpr ⟨zo_none_tl, ?_⟩
  refine List.forall_mem_cons.mpr ⟨zo_none_tl, ?_⟩
  refine List.forall_mem_cons.mpr ⟨(zo_iload_tl _ _), ?_⟩
  refine List.forall_mem_cons.mpr ⟨(zo_lald_tl _ _), ?_⟩
  refine List.forall_mem_cons.mpr ⟨(zo_pushI_tl _ _), ?_⟩
  refine List.forall_mem_cons.mpr ⟨(zo_callv_tl _ _ _ _), ?_⟩
  refine List.forall_mem_cons.mpr ⟨zo_none_tl, ?_⟩
  refine List.forall_mem_cons.mpr ⟨zo_none_tl, ?_⟩
  refine List.forall_mem_cons.mpr ⟨(zo_aload_tl _ _), ?_⟩
  refine List.forall_mem_cons.mpr ⟨(zo_getf_tl _ _ _), ?_⟩
  refine List.forall_mem_cons.mpr ⟨zo_none_tl, ?_⟩
  refine List.forall_mem_cons.mpr ⟨zo_none_tl, ?_⟩
  refine List.forall_mem_cons.mpr ⟨(zo_iload_tl _ _), ?_⟩
  refine List.forall_mem_cons.mpr ⟨(zo_lald_tl _ _), ?_⟩
  refine List.forall_mem_cons.mpr ⟨(zo_callv_tl _ _ _ _), ?_⟩
  refine List.forall_mem_cons.mpr ⟨zo_none_tl, ?_⟩
  refine List.forall_mem_cons.mpr ⟨zo_none_tl, ?_⟩
  refine List.forall_mem_cons.mpr ⟨(zo_iret_tl _), ?_⟩
  exact fun _ h => absurd h List.not_mem_nil
noncomputable def fX12_deletes : zzFn := zz_fn tX12_deletes 2
set_option maxRecDepth 100000 in
set_option maxHeartbeats 4000000 in
theorem mm_X12_deletes {l : Launch} {D : va_G} {cA : Nat → ClassId} {ad : Nat → Nat} {Ex : (Nat → Prop) → State → Heap → Prop} (Wd : zzWR l D cA ad Ex) : zz_Cn l D zzCl cA ad zzSR Ex yX12_deletes cX12_deletes 2 (some .boolean) 3 79 fX12_deletes ∧ zz_Cx l D zzCl cA ad zzSR Ex yX12_deletes cX12_deletes 2 (some .boolean) 3 79 fX12_deletes := by
  refine zz_meth (plainFor_of_name (by decide)) Wd.1 Wd.2.1 Wd.2.2 (fun p e R s m args below meth c rr X => ?_)
  unfold tX12_deletes
  refine zz_cons (k' := 1) rfl (zk_aload_n X dX12_deletes_0 rfl rfl) ?_
  refine zz_cons (k' := 2) rfl (zk_iload_n X dX12_deletes_1 rfl rfl) ?_
  refine zz_cons (k' := 3) rfl (zk_aload_n X dX12_deletes_2 rfl rfl) ?_
  refine zz_cons (k' := 4) rfl (zk_iload_n X dX12_deletes_3 rfl rfl) ?_
  refine zz_cons (k' := 5) rfl (zk_aload_n X dX12_deletes_4 rfl rfl) ?_
  refine zz_cons (k' := 6) rfl (zk_getf X ff_X12_28 dX12_deletes_5 rfl) ?_
  refine zz_cons (k' := 7) rfl (zz_Ok_none _ _) ?_
  refine zz_cons (k' := 8) rfl (zz_Ok_none _ _) ?_
  refine zz_cons (k' := 9) rfl (zk_iload_n X dX12_deletes_8 rfl rfl) ?_
  refine zz_cons (k' := 10) rfl (zk_lald X dX12_deletes_9 rfl) ?_
  refine zz_cons (k' := 11) rfl (zk_iconst X dX12_deletes_10 (by decide) rfl) ?_
  refine zz_cons (k' := 12) rfl (zk_callv X (zz_Cv_of (List.forall_mem_cons.mpr ⟨⟨(RX_10, zzT10, 50), yX12_deleted, cX12_deleted, 6, (some .long), 2, 48, rfl, kv_X12_257_10.1, (mm_X12_deleted Wd).1, by decide, by decide⟩, (fun _ h => absurd h List.not_mem_nil)⟩)) dX12_deletes_11 rfl) ?_
  refine zz_cons (k' := 13) rfl (zz_Ok_none _ _) ?_
  refine zz_cons (k' := 14) rfl (zz_Ok_none _ _) ?_
  refine zz_cons (k' := 15) rfl (zk_aload_n X dX12_deletes_14 rfl rfl) ?_
  refine zz_cons (k' := 16) rfl (zk_getf X ff_X12_32 dX12_deletes_15 rfl) ?_
  refine zz_cons (k' := 17) rfl (zz_Ok_none _ _) ?_
  refine zz_cons (k' := 18) rfl (zz_Ok_none _ _) ?_
  refine zz_cons (k' := 19) rfl (zk_iload_n X dX12_deletes_18 rfl rfl) ?_
  refine zz_cons (k' := 20) rfl (zk_lald X dX12_deletes_19 rfl) ?_
  refine zz_cons (k' := 21) rfl (zk_callv X (zz_Cv_of (List.forall_mem_cons.mpr ⟨⟨(RX_10, zzT10, 50), yX12_writesIt, cX12_writesIt, 8, (some .boolean), 2, 52, rfl, kv_X12_261_10.1, (mm_X12_writesIt Wd).1, by decide, by decide⟩, (fun _ h => absurd h List.not_mem_nil)⟩)) dX12_deletes_20 rfl) ?_
  refine zz_cons (k' := 22) rfl (zz_Ok_none _ _) ?_
  refine zz_cons (k' := 23) rfl (zz_Ok_none _ _) ?_
  refine zz_cons (k' := 24) rfl (zk_iret X rfl dX12_deletes_23) ?_
  exact trivial
noncomputable def tX12_makesOne : List zzOp := [
  zo_aload 0 1,
  zo_getf zzSR (zz_kf [10] 14) 4,
  zo_none,
  zo_none,
  zo_istore 4 6,
  zo_none,
  zo_aload 0 7,
  zo_pushI 4 8,
  zo_iload 1 9,
  zo_iload 2 10,
  zo_iload 3 11,
  zo_callv zzSR (zz_cl [(10, fX12_makes)]) 4 14,
  zo_none,
  zo_none,
  zo_pushI (-1) 15,
  zo_icmp (fun x y => decide (x = y)) 22 18,
  zo_none,
  zo_none,
  zo_pushI 1 19,
  zo_goto 23,
  zo_none,
  zo_none,
  zo_pushI 0 23,
  zo_istore 5 25,
  zo_none,
  zo_aload 0 26,
  zo_iload 4 28,
  zo_none,
  zo_callv zzSR (zz_cl [(10, fX12_wrote)]) 1 31,
  zo_none,
  zo_none,
  zo_iload 5 33,
  zo_none,
  zo_iret true]
set_option maxRecDepth 100000 in
theorem tl_X12_makesOne : ∀ pc, zz_Tl (tX12_makesOne.getD pc zo_none) := by
  refine zz_Tl_mem ?_
  unfold tX12_makesOne
  refine List.forall_mem_cons.mpr ⟨(zo_aload_tl _ _), ?_⟩
  refine List.forall_mem_cons.mpr ⟨(zo_getf_tl _ _ _), ?_⟩
  refine List.forall_mem_cons.mpr ⟨zo_none_tl, ?_⟩
  refine List.forall_mem_cons.mpr ⟨zo_none_tl, ?_⟩
  refine List.forall_mem_cons.mpr ⟨(zo_istore_tl _ _), ?_⟩
  refine List.forall_mem_cons.mpr ⟨zo_none_tl, ?_⟩
  refine List.forall_mem_cons.mpr ⟨(zo_aload_tl _ _), ?_⟩
  refine List.forall_mem_cons.mpr ⟨(zo_pushI_tl _ _), ?_⟩
  refine List.forall_mem_cons.mpr ⟨(zo_iload_tl _ _), ?_⟩
  refine List.forall_mem_cons.mpr ⟨(zo_iload_tl _ _), ?_⟩
  refine List.forall_mem_cons.mpr ⟨(zo_iload_tl _ _), ?_⟩
  refine List.forall_mem_cons.mpr ⟨(zo_callv_tl _ _ _ _), ?_⟩
  refine List.forall_mem_cons.mpr ⟨zo_none_tl, ?_⟩
  refine List.forall_mem_cons.mpr ⟨zo_none_tl, ?_⟩
  refine List.forall_mem_cons.mpr ⟨(zo_pushI_tl _ _), ?_⟩
  refine List.forall_mem_cons.mpr ⟨(zo_icmp_tl _ _ _), ?_⟩
  refine List.forall_mem_cons.mpr ⟨zo_none_tl, ?_⟩
  refine List.forall_mem_cons.mpr ⟨zo_none_tl, ?_⟩
  refine List.forall_mem_cons.mpr ⟨(zo_pushI_tl _ _), ?_⟩
  refine List.forall_mem_cons.mpr ⟨(zo_goto_tl _), ?_⟩
  refine List.forall_mem_cons.mpr ⟨zo_none_tl, ?_⟩
  refine List.forall_mem_cons.mpr ⟨zo_none_tl, ?_⟩
  refine List.forall_mem_cons.mpr ⟨(zo_pushI_tl _ _), ?_⟩
  refine List.forall_mem_cons.mpr ⟨(zo_istore_tl _ _), ?_⟩
  refine List.forall_mem_cons.mpr ⟨zo_none_tl, ?_⟩
  refine List.forall_mem_cons.mpr ⟨(zo_aload_tl _ _), ?_⟩
  refine List.forall_mem_cons.mpr ⟨(zo_iload_tl _ _), ?_⟩
  refine List.forall_mem_cons.mpr ⟨zo_none_tl, ?_⟩
  refine List.forall_mem_cons.mpr ⟨(zo_callv_tl _ _ _ _), ?_⟩
  refine List.forall_mem_cons.mpr ⟨zo_none_tl, ?_⟩
  refine List.forall_mem_cons.mpr ⟨zo_none_tl, ?_⟩
  refine List.forall_mem_cons.mpr ⟨(zo_iload_tl _ _), ?_⟩
  refine List.forall_mem_cons.mpr ⟨zo_none_tl, ?_⟩
  refine List.forall_mem_cons.mpr ⟨(zo_iret_tl _), ?_⟩
  exact fun _ h => absurd h List.not_mem_nil
noncomputable def fX12_makesOne : zzFn := zz_fn tX12_makesOne 6
set_option maxRecDepth 100000 in
set_option maxHeartbeats 4000000 in
theorem mm_X12_makesOne {l : Launch} {D : va_G} {cA : Nat → ClassId} {ad : Nat → Nat} {Ex : (Nat → Prop) → State → Heap → Prop} (Wd : zzWR l D cA ad Ex) : zz_Cn l D zzCl cA ad zzSR Ex yX12_makesOne cX12_makesOne 6 (some .boolean) 3 85 fX12_makesOne ∧ zz_Cx l D zzCl cA ad zzSR Ex yX12_makesOne cX12_makesOne 6 (some .boolean) 3 85 fX12_makesOne := by
  refine zz_meth (plainFor_of_name (by decide)) Wd.1 Wd.2.1 Wd.2.2 (fun p e R s m args below meth c rr X => ?_)
  unfold tX12_makesOne
  refine zz_cons (k' := 1) rfl (zk_aload_n X dX12_makesOne_0 rfl rfl) ?_
  refine zz_cons (k' := 2) rfl (zk_getf X ff_X12_154 dX12_makesOne_1 rfl) ?_
  refine zz_cons (k' := 3) rfl (zz_Ok_none _ _) ?_
  refine zz_cons (k' := 4) rfl (zz_Ok_none _ _) ?_
  refine zz_cons (k' := 5) rfl (zk_istore X dX12_makesOne_4 (by decide) rfl) ?_
  refine zz_cons (k' := 6) rfl (zz_Ok_none _ _) ?_
  refine zz_cons (k' := 7) rfl (zk_aload_n X dX12_makesOne_6 rfl rfl) ?_
  refine zz_cons (k' := 8) rfl (zk_iconst X dX12_makesOne_7 (by decide) rfl) ?_
  refine zz_cons (k' := 9) rfl (zk_iload_n X dX12_makesOne_8 rfl rfl) ?_
  refine zz_cons (k' := 10) rfl (zk_iload_n X dX12_makesOne_9 rfl rfl) ?_
  refine zz_cons (k' := 11) rfl (zk_iload_n X dX12_makesOne_10 rfl rfl) ?_
  refine zz_cons (k' := 12) rfl (zk_callv X (zz_Cv_of (List.forall_mem_cons.mpr ⟨⟨(RX_10, zzT10, 50), yX12_makes, cX12_makes, 9, (some .int), 2, 57, rfl, kv_X12_265_10.1, (mm_X12_makes Wd).1, by decide, by decide⟩, (fun _ h => absurd h List.not_mem_nil)⟩)) dX12_makesOne_11 rfl) ?_
  refine zz_cons (k' := 13) rfl (zz_Ok_none _ _) ?_
  refine zz_cons (k' := 14) rfl (zz_Ok_none _ _) ?_
  refine zz_cons (k' := 15) rfl (zk_iconst X dX12_makesOne_14 (by decide) rfl) ?_
  refine zz_cons (k' := 16) rfl (zk_icmp_eq X dX12_makesOne_15 (by decide) rfl) ?_
  refine zz_cons (k' := 17) rfl (zz_Ok_none _ _) ?_
  refine zz_cons (k' := 18) rfl (zz_Ok_none _ _) ?_
  refine zz_cons (k' := 19) rfl (zk_iconst X dX12_makesOne_18 (by decide) rfl) ?_
  refine zz_cons (k' := 20) rfl (zk_goto X dX12_makesOne_19 (by decide)) ?_
  refine zz_cons (k' := 21) rfl (zz_Ok_none _ _) ?_
  refine zz_cons (k' := 22) rfl (zz_Ok_none _ _) ?_
  refine zz_cons (k' := 23) rfl (zk_iconst X dX12_makesOne_22 (by decide) rfl) ?_
  refine zz_cons (k' := 24) rfl (zk_istore X dX12_makesOne_23 (by decide) rfl) ?_
  refine zz_cons (k' := 25) rfl (zz_Ok_none _ _) ?_
  refine zz_cons (k' := 26) rfl (zk_aload_n X dX12_makesOne_25 rfl rfl) ?_
  refine zz_cons (k' := 27) rfl (zk_iload X dX12_makesOne_26 rfl) ?_
  refine zz_cons (k' := 28) rfl (zz_Ok_none _ _) ?_
  refine zz_cons (k' := 29) rfl (zk_callv X (zz_Cv_of (List.forall_mem_cons.mpr ⟨⟨(RX_10, zzT10, 50), yX12_wrote, cX12_wrote, 2, none, 0, 0, rfl, kv_X12_249_10.1, (mm_X12_wrote Wd).1, by decide, by decide⟩, (fun _ h => absurd h List.not_mem_nil)⟩)) dX12_makesOne_28 rfl) ?_
  refine zz_cons (k' := 30) rfl (zz_Ok_none _ _) ?_
  refine zz_cons (k' := 31) rfl (zz_Ok_none _ _) ?_
  refine zz_cons (k' := 32) rfl (zk_iload X dX12_makesOne_31 rfl) ?_
  refine zz_cons (k' := 33) rfl (zz_Ok_none _ _) ?_
  refine zz_cons (k' := 34) rfl (zk_iret X rfl dX12_makesOne_33) ?_
  exact trivial
noncomputable def tX12_isOwned : List zzOp := [
  zo_aload 0 1,
  zo_iload 1 2,
  zo_iload 2 3,
  zo_callv zzSR (zz_cl [(10, fX12_stays)]) 2 6,
  zo_none,
  zo_none,
  zo_if (fun x => decide (x = 0)) 26 9,
  zo_none,
  zo_none,
  zo_aload 0 10,
  zo_aload 0 11,
  zo_iload 1 12,
  zo_callv zzSR (zz_cl [(10, fX12_view)]) 1 15,
  zo_none,
  zo_none,
  zo_callv zzSR (zz_cl [(10, fX12_ownerIn)]) 1 18,
  zo_none,
  zo_none,
  zo_iload 3 19,
  zo_icmp (fun x y => decide (¬ x = y)) 26 22,
  zo_none,
  zo_none,
  zo_pushI 1 23,
  zo_goto 27,
  zo_none,
  zo_none,
  zo_pushI 0 27,
  zo_iret true]
set_option maxRecDepth 100000 in
theorem tl_X12_isOwned : ∀ pc, zz_Tl (tX12_isOwned.getD pc zo_none) := by
  refine zz_Tl_mem ?_
  unfold tX12_isOwned
  refine List.forall_mem_cons.mpr ⟨(zo_aload_tl _ _), ?_⟩
  refine List.forall_mem_cons.mpr ⟨(zo_iload_tl _ _), ?_⟩
  refine List.forall_mem_cons.mpr ⟨(zo_iload_tl _ _), ?_⟩
  refine List.forall_mem_cons.mpr ⟨(zo_callv_tl _ _ _ _), ?_⟩
  refine List.forall_mem_cons.mpr ⟨zo_none_tl, ?_⟩
  refine List.forall_mem_cons.mpr ⟨zo_none_tl, ?_⟩
  refine List.forall_mem_cons.mpr ⟨(zo_if_tl _ _ _), ?_⟩
  refine List.forall_mem_cons.mpr ⟨zo_none_tl, ?_⟩
  refine List.forall_mem_cons.mpr ⟨zo_none_tl, ?_⟩
  refine List.forall_mem_cons.mpr ⟨(zo_aload_tl _ _), ?_⟩
  refine List.forall_mem_cons.mpr ⟨(zo_aload_tl _ _), ?_⟩
  refine List.forall_mem_cons.mpr ⟨(zo_iload_tl _ _), ?_⟩
  refine List.forall_mem_cons.mpr ⟨(zo_callv_tl _ _ _ _), ?_⟩
  refine List.forall_mem_cons.mpr ⟨zo_none_tl, ?_⟩
  refine List.forall_mem_cons.mpr ⟨zo_none_tl, ?_⟩
  refine List.forall_mem_cons.mpr ⟨(zo_callv_tl _ _ _ _), ?_⟩
  refine List.forall_mem_cons.mpr ⟨zo_none_tl, ?_⟩
  refine List.forall_mem_cons.mpr ⟨zo_none_tl, ?_⟩
  refine List.forall_mem_cons.mpr ⟨(zo_iload_tl _ _), ?_⟩
  refine List.forall_mem_cons.mpr ⟨(zo_icmp_tl _ _ _), ?_⟩
  refine List.forall_mem_cons.mpr ⟨zo_none_tl, ?_⟩
  refine List.forall_mem_cons.mpr ⟨zo_none_tl, ?_⟩
  refine List.forall_mem_cons.mpr ⟨(zo_pushI_tl _ _), ?_⟩
  refine List.forall_mem_cons.mpr ⟨(zo_goto_tl _), ?_⟩
  refine List.forall_mem_cons.mpr ⟨zo_none_tl, ?_⟩
  refine List.forall_mem_cons.mpr ⟨zo_none_tl, ?_⟩
  refine List.forall_mem_cons.mpr ⟨(zo_pushI_tl _ _), ?_⟩
  refine List.forall_mem_cons.mpr ⟨(zo_iret_tl _), ?_⟩
  exact fun _ h => absurd h List.not_mem_nil
noncomputable def fX12_isOwned : zzFn := zz_fn tX12_isOwned 4
set_option maxRecDepth 100000 in
set_option maxHeartbeats 4000000 in
theorem mm_X12_isOwned {l : Launch} {D : va_G} {cA : Nat → ClassId} {ad : Nat → Nat} {Ex : (Nat → Prop) → State → Heap → Prop} (Wd : zzWR l D cA ad Ex) : zz_Cn l D zzCl cA ad zzSR Ex yX12_isOwned cX12_isOwned 4 (some .boolean) 3 67 fX12_isOwned ∧ zz_Cx l D zzCl cA ad zzSR Ex yX12_isOwned cX12_isOwned 4 (some .boolean) 3 67 fX12_isOwned := by
  refine zz_meth (plainFor_of_name (by decide)) Wd.1 Wd.2.1 Wd.2.2 (fun p e R s m args below meth c rr X => ?_)
  unfold tX12_isOwned
  refine zz_cons (k' := 1) rfl (zk_aload_n X dX12_isOwned_0 rfl rfl) ?_
  refine zz_cons (k' := 2) rfl (zk_iload_n X dX12_isOwned_1 rfl rfl) ?_
  refine zz_cons (k' := 3) rfl (zk_iload_n X dX12_isOwned_2 rfl rfl) ?_
  refine zz_cons (k' := 4) rfl (zk_callv X (zz_Cv_of (List.forall_mem_cons.mpr ⟨⟨(RX_10, zzT10, 50), yX12_stays, cX12_stays, 3, (some .boolean), 2, 45, rfl, kv_X12_269_10.1, (mm_X12_stays Wd).1, by decide, by decide⟩, (fun _ h => absurd h List.not_mem_nil)⟩)) dX12_isOwned_3 rfl) ?_
  refine zz_cons (k' := 5) rfl (zz_Ok_none _ _) ?_
  refine zz_cons (k' := 6) rfl (zz_Ok_none _ _) ?_
  refine zz_cons (k' := 7) rfl (zk_if_eq X dX12_isOwned_6 (by decide) rfl) ?_
  refine zz_cons (k' := 8) rfl (zz_Ok_none _ _) ?_
  refine zz_cons (k' := 9) rfl (zz_Ok_none _ _) ?_
  refine zz_cons (k' := 10) rfl (zk_aload_n X dX12_isOwned_9 rfl rfl) ?_
  refine zz_cons (k' := 11) rfl (zk_aload_n X dX12_isOwned_10 rfl rfl) ?_
  refine zz_cons (k' := 12) rfl (zk_iload_n X dX12_isOwned_11 rfl rfl) ?_
  refine zz_cons (k' := 13) rfl (zk_callv X (zz_Cv_of (List.forall_mem_cons.mpr ⟨⟨(RX_10, zzT10, 50), yX12_view, cX12_view, 2, (some .long), 0, 0, rfl, kv_X12_196_10.1, (mm_X12_view Wd).1, by decide, by decide⟩, (fun _ h => absurd h List.not_mem_nil)⟩)) dX12_isOwned_12 rfl) ?_
  refine zz_cons (k' := 14) rfl (zz_Ok_none _ _) ?_
  refine zz_cons (k' := 15) rfl (zz_Ok_none _ _) ?_
  refine zz_cons (k' := 16) rfl (zk_callv X (zz_Cv_of (List.forall_mem_cons.mpr ⟨⟨(RX_10, zzT10, 50), yX12_ownerIn, cX12_ownerIn, 3, (some .int), 1, 23, rfl, kv_X12_214_10.1, (mm_X12_ownerIn Wd).1, by decide, by decide⟩, (fun _ h => absurd h List.not_mem_nil)⟩)) dX12_isOwned_15 rfl) ?_
  refine zz_cons (k' := 17) rfl (zz_Ok_none _ _) ?_
  refine zz_cons (k' := 18) rfl (zz_Ok_none _ _) ?_
  refine zz_cons (k' := 19) rfl (zk_iload_n X dX12_isOwned_18 rfl rfl) ?_
  refine zz_cons (k' := 20) rfl (zk_icmp_ne X dX12_isOwned_19 (by decide) rfl) ?_
  refine zz_cons (k' := 21) rfl (zz_Ok_none _ _) ?_
  refine zz_cons (k' := 22) rfl (zz_Ok_none _ _) ?_
  refine zz_cons (k' := 23) rfl (zk_iconst X dX12_isOwned_22 (by decide) rfl) ?_
  refine zz_cons (k' := 24) rfl (zk_goto X dX12_isOwned_23 (by decide)) ?_
  refine zz_cons (k' := 25) rfl (zz_Ok_none _ _) ?_
  refine zz_cons (k' := 26) rfl (zz_Ok_none _ _) ?_
  refine zz_cons (k' := 27) rfl (zk_iconst X dX12_isOwned_26 (by decide) rfl) ?_
  refine zz_cons (k' := 28) rfl (zk_iret X rfl dX12_isOwned_27) ?_
  exact trivial
noncomputable def tX12_pods : List zzOp := [
  zo_pushI 0 1,
  zo_istore 3 2,
  zo_pushI 0 3,
  zo_istore 4 5,
  zo_none,
  zo_iload 4 7,
  zo_none,
  zo_aload 0 8,
  zo_getf zzSR (zz_kf [10] 5) 11,
  zo_none,
  zo_none,
  zo_icmp (fun x y => decide (y ≤ x)) 55 14,
  zo_none,
  zo_none,
  zo_iload 3 15,
  zo_aload 0 16,
  zo_iload 4 18,
  zo_none,
  zo_pushI 2 19,
  zo_iload 1 20,
  zo_callv zzSR (zz_cl [(10, fX12_isOwned)]) 3 23,
  zo_none,
  zo_none,
  zo_if (fun x => decide (x = 0)) 46 26,
  zo_none,
  zo_none,
  zo_iload 2 27,
  zo_aload 0 28,
  zo_iload 4 30,
  zo_none,
  zo_pushI 16 32,
  zo_none,
  zo_callv zzSR (zz_cl [(10, fX12_viewed)]) 2 35,
  zo_none,
  zo_none,
  zo_ii (fun x y => x >>> (y &&& 31)) 36,
  zo_pushI 1 37,
  zo_ii (fun x y => x &&& y) 38,
  zo_pushI 1 39,
  zo_icmp (fun x y => decide (¬ x = y)) 46 42,
  zo_none,
  zo_none,
  zo_pushI 1 43,
  zo_goto 47,
  zo_none,
  zo_none,
  zo_pushI 0 47,
  zo_ii (fun x y => x + y) 48,
  zo_istore 3 49,
  zo_iinc 4 1 52,
  zo_none,
  zo_none,
  zo_goto 5,
  zo_none,
  zo_none,
  zo_iload 3 56,
  zo_iret false]
set_option maxRecDepth 100000 in
theorem tl_X12_pods : ∀ pc, zz_Tl (tX12_pods.getD pc zo_none) := by
  refine zz_Tl_mem ?_
  unfold tX12_pods
  refine List.forall_mem_cons.mpr ⟨(zo_pushI_tl _ _), ?_⟩
  refine List.forall_mem_cons.mpr ⟨(zo_istore_tl _ _), ?_⟩
  refine List.forall_mem_cons.mpr ⟨(zo_pushI_tl _ _), ?_⟩
  refine List.forall_mem_cons.mpr ⟨(zo_istore_tl _ _), ?_⟩
  refine List.forall_mem_cons.mpr ⟨zo_none_tl, ?_⟩
  refine List.forall_mem_cons.mpr ⟨(zo_iload_tl _ _), ?_⟩
  refine List.forall_mem_cons.mpr ⟨zo_none_tl, ?_⟩
  refine List.forall_mem_cons.mpr ⟨(zo_aload_tl _ _), ?_⟩
  refine List.forall_mem_cons.mpr ⟨(zo_getf_tl _ _ _), ?_⟩
  refine List.forall_mem_cons.mpr ⟨zo_none_tl, ?_⟩
  refine List.forall_mem_cons.mpr ⟨zo_none_tl, ?_⟩
  refine List.forall_mem_cons.mpr ⟨(zo_icmp_tl _ _ _), ?_⟩
  refine List.forall_mem_cons.mpr ⟨zo_none_tl, ?_⟩
  refine List.forall_mem_cons.mpr ⟨zo_none_tl, ?_⟩
  refine List.forall_mem_cons.mpr ⟨(zo_iload_tl _ _), ?_⟩
  refine List.forall_mem_cons.mpr ⟨(zo_aload_tl _ _), ?_⟩
  refine List.forall_mem_cons.mpr ⟨(zo_iload_tl _ _), ?_⟩
  refine List.forall_mem_cons.mpr ⟨zo_none_tl, ?_⟩
  refine List.forall_mem_cons.mpr ⟨(zo_pushI_tl _ _), ?_⟩
  refine List.forall_mem_cons.mpr ⟨(zo_iload_tl _ _), ?_⟩
  refine List.forall_mem_cons.mpr ⟨(zo_callv_tl _ _ _ _), ?_⟩
  refine List.forall_mem_cons.mpr ⟨zo_none_tl, ?_⟩
  refine List.forall_mem_cons.mpr ⟨zo_none_tl, ?_⟩
  refine List.forall_mem_cons.mpr ⟨(zo_if_tl _ _ _), ?_⟩
  refine List.forall_mem_cons.mpr ⟨zo_none_tl, ?_⟩
  refine List.forall_mem_cons.mpr ⟨zo_none_tl, ?_⟩
  refine List.forall_mem_cons.mpr ⟨(zo_iload_tl _ _), ?_⟩
  refine List.forall_mem_cons.mpr ⟨(zo_aload_tl _ _), ?_⟩
  refine List.forall_mem_cons.mpr ⟨(zo_iload_tl _ _), ?_⟩
  refine List.forall_mem_cons.mpr ⟨zo_none_tl, ?_⟩
  refine List.forall_mem_cons.mpr ⟨(zo_pushI_tl _ _), ?_⟩
  refine List.forall_mem_cons.mpr ⟨zo_none_tl, ?_⟩
  refine List.forall_mem_cons.mpr ⟨(zo_callv_tl _ _ _ _), ?_⟩
  refine List.forall_mem_cons.mpr ⟨zo_none_tl, ?_⟩
  refine List.forall_mem_cons.mpr ⟨zo_none_tl, ?_⟩
  refine List.forall_mem_cons.mpr ⟨(zo_ii_tl _ _), ?_⟩
  refine List.forall_mem_cons.mpr ⟨(zo_pushI_tl _ _), ?_⟩
  refine List.forall_mem_cons.mpr ⟨(zo_ii_tl _ _), ?_⟩
  refine List.forall_mem_cons.mpr ⟨(zo_pushI_tl _ _), ?_⟩
  refine List.forall_mem_cons.mpr ⟨(zo_icmp_tl _ _ _), ?_⟩
  refine List.forall_mem_cons.mpr ⟨zo_none_tl, ?_⟩
  refine List.forall_mem_cons.mpr ⟨zo_none_tl, ?_⟩
  refine List.forall_mem_cons.mpr ⟨(zo_pushI_tl _ _), ?_⟩
  refine List.forall_mem_cons.mpr ⟨(zo_goto_tl _), ?_⟩
  refine List.forall_mem_cons.mpr ⟨zo_none_tl, ?_⟩
  refine List.forall_mem_cons.mpr ⟨zo_none_tl, ?_⟩
  refine List.forall_mem_cons.mpr ⟨(zo_pushI_tl _ _), ?_⟩
  refine List.forall_mem_cons.mpr ⟨(zo_ii_tl _ _), ?_⟩
  refine List.forall_mem_cons.mpr ⟨(zo_istore_tl _ _), ?_⟩
  refine List.forall_mem_cons.mpr ⟨(zo_iinc_tl _ _ _), ?_⟩
  refine List.forall_mem_cons.mpr ⟨zo_none_tl, ?_⟩
  refine List.forall_mem_cons.mpr ⟨zo_none_tl, ?_⟩
  refine List.forall_mem_cons.mpr ⟨(zo_goto_tl _), ?_⟩
  refine List.forall_mem_cons.mpr ⟨zo_none_tl, ?_⟩
  refine List.forall_mem_cons.mpr ⟨zo_none_tl, ?_⟩
  refine List.forall_mem_cons.mpr ⟨(zo_iload_tl _ _), ?_⟩
  refine List.forall_mem_cons.mpr ⟨(zo_iret_tl _), ?_⟩
  exact fun _ h => absurd h List.not_mem_nil
noncomputable def fX12_pods : zzFn := zz_fn tX12_pods 5
set_option maxRecDepth 100000 in
set_option maxHeartbeats 4000000 in
theorem mm_X12_pods {l : Launch} {D : va_G} {cA : Nat → ClassId} {ad : Nat → Nat} {Ex : (Nat → Prop) → State → Heap → Prop} (Wd : zzWR l D cA ad Ex) : zz_Cn l D zzCl cA ad zzSR Ex yX12_pods cX12_pods 5 (some .int) 4 90 fX12_pods ∧ zz_Cx l D zzCl cA ad zzSR Ex yX12_pods cX12_pods 5 (some .int) 4 90 fX12_pods := by
  refine zz_meth (plainFor_of_name (by decide)) Wd.1 Wd.2.1 Wd.2.2 (fun p e R s m args below meth c rr X => ?_)
  unfold tX12_pods
  refine zz_cons (k' := 1) rfl (zk_iconst X dX12_pods_0 (by decide) rfl) ?_
  refine zz_cons (k' := 2) rfl (zk_istore_n X dX12_pods_1 rfl (by decide) rfl) ?_
  refine zz_cons (k' := 3) rfl (zk_iconst X dX12_pods_2 (by decide) rfl) ?_
  refine zz_cons (k' := 4) rfl (zk_istore X dX12_pods_3 (by decide) rfl) ?_
  refine zz_cons (k' := 5) rfl (zz_Ok_none _ _) ?_
  refine zz_cons (k' := 6) rfl (zk_iload X dX12_pods_5 rfl) ?_
  refine zz_cons (k' := 7) rfl (zz_Ok_none _ _) ?_
  refine zz_cons (k' := 8) rfl (zk_aload_n X dX12_pods_7 rfl rfl) ?_
  refine zz_cons (k' := 9) rfl (zk_getf X ff_X12_137 dX12_pods_8 rfl) ?_
  refine zz_cons (k' := 10) rfl (zz_Ok_none _ _) ?_
  refine zz_cons (k' := 11) rfl (zz_Ok_none _ _) ?_
  refine zz_cons (k' := 12) rfl (zk_icmp_ge X dX12_pods_11 (by decide) rfl) ?_
  refine zz_cons (k' := 13) rfl (zz_Ok_none _ _) ?_
  refine zz_cons (k' := 14) rfl (zz_Ok_none _ _) ?_
  refine zz_cons (k' := 15) rfl (zk_iload_n X dX12_pods_14 rfl rfl) ?_
  refine zz_cons (k' := 16) rfl (zk_aload_n X dX12_pods_15 rfl rfl) ?_
  refine zz_cons (k' := 17) rfl (zk_iload X dX12_pods_16 rfl) ?_
  refine zz_cons (k' := 18) rfl (zz_Ok_none _ _) ?_
  refine zz_cons (k' := 19) rfl (zk_iconst X dX12_pods_18 (by decide) rfl) ?_
  refine zz_cons (k' := 20) rfl (zk_iload_n X dX12_pods_19 rfl rfl) ?_
  refine zz_cons (k' := 21) rfl (zk_callv X (zz_Cv_of (List.forall_mem_cons.mpr ⟨⟨(RX_10, zzT10, 50), yX12_isOwned, cX12_isOwned, 4, (some .boolean), 3, 67, rfl, kv_X12_273_10.1, (mm_X12_isOwned Wd).1, by decide, by decide⟩, (fun _ h => absurd h List.not_mem_nil)⟩)) dX12_pods_20 rfl) ?_
  refine zz_cons (k' := 22) rfl (zz_Ok_none _ _) ?_
  refine zz_cons (k' := 23) rfl (zz_Ok_none _ _) ?_
  refine zz_cons (k' := 24) rfl (zk_if_eq X dX12_pods_23 (by decide) rfl) ?_
  refine zz_cons (k' := 25) rfl (zz_Ok_none _ _) ?_
  refine zz_cons (k' := 26) rfl (zz_Ok_none _ _) ?_
  refine zz_cons (k' := 27) rfl (zk_iload_n X dX12_pods_26 rfl rfl) ?_
  refine zz_cons (k' := 28) rfl (zk_aload_n X dX12_pods_27 rfl rfl) ?_
  refine zz_cons (k' := 29) rfl (zk_iload X dX12_pods_28 rfl) ?_
  refine zz_cons (k' := 30) rfl (zz_Ok_none _ _) ?_
  refine zz_cons (k' := 31) rfl (zk_bipush X dX12_pods_30 (by decide) rfl) ?_
  refine zz_cons (k' := 32) rfl (zz_Ok_none _ _) ?_
  refine zz_cons (k' := 33) rfl (zk_callv X (zz_Cv_of (List.forall_mem_cons.mpr ⟨⟨(RX_10, zzT10, 50), yX12_viewed, cX12_viewed, 3, (some .int), 1, 23, rfl, kv_X12_204_10.1, (mm_X12_viewed Wd).1, by decide, by decide⟩, (fun _ h => absurd h List.not_mem_nil)⟩)) dX12_pods_32 rfl) ?_
  refine zz_cons (k' := 34) rfl (zz_Ok_none _ _) ?_
  refine zz_cons (k' := 35) rfl (zz_Ok_none _ _) ?_
  refine zz_cons (k' := 36) rfl (zk_ishr X dX12_pods_35 rfl) ?_
  refine zz_cons (k' := 37) rfl (zk_iconst X dX12_pods_36 (by decide) rfl) ?_
  refine zz_cons (k' := 38) rfl (zk_iand X dX12_pods_37 rfl) ?_
  refine zz_cons (k' := 39) rfl (zk_iconst X dX12_pods_38 (by decide) rfl) ?_
  refine zz_cons (k' := 40) rfl (zk_icmp_ne X dX12_pods_39 (by decide) rfl) ?_
  refine zz_cons (k' := 41) rfl (zz_Ok_none _ _) ?_
  refine zz_cons (k' := 42) rfl (zz_Ok_none _ _) ?_
  refine zz_cons (k' := 43) rfl (zk_iconst X dX12_pods_42 (by decide) rfl) ?_
  refine zz_cons (k' := 44) rfl (zk_goto X dX12_pods_43 (by decide)) ?_
  refine zz_cons (k' := 45) rfl (zz_Ok_none _ _) ?_
  refine zz_cons (k' := 46) rfl (zz_Ok_none _ _) ?_
  refine zz_cons (k' := 47) rfl (zk_iconst X dX12_pods_46 (by decide) rfl) ?_
  refine zz_cons (k' := 48) rfl (zk_iadd X dX12_pods_47 rfl) ?_
  refine zz_cons (k' := 49) rfl (zk_istore_n X dX12_pods_48 rfl (by decide) rfl) ?_
  refine zz_cons (k' := 50) rfl (zk_iinc X dX12_pods_49 (by decide) (by decide) rfl) ?_
  refine zz_cons (k' := 51) rfl (zz_Ok_none _ _) ?_
  refine zz_cons (k' := 52) rfl (zz_Ok_none _ _) ?_
  refine zz_cons (k' := 53) rfl (zk_goto X dX12_pods_52 (by decide)) ?_
  refine zz_cons (k' := 54) rfl (zz_Ok_none _ _) ?_
  refine zz_cons (k' := 55) rfl (zz_Ok_none _ _) ?_
  refine zz_cons (k' := 56) rfl (zk_iload_n X dX12_pods_55 rfl rfl) ?_
  refine zz_cons (k' := 57) rfl (zk_iret X rfl dX12_pods_56) ?_
  exact trivial
noncomputable def tX12_need : List zzOp := [
  zo_pushI 1 1,
  zo_iload 0 2,
  zo_pushI 3 3,
  zo_iid (fun x y => x - x / y * y) 4,
  zo_ii (fun x y => x + y) 5,
  zo_iret false]
set_option maxRecDepth 100000 in
theorem tl_X12_need : ∀ pc, zz_Tl (tX12_need.getD pc zo_none) := by
  refine zz_Tl_mem ?_
  unfold tX12_need
  refine List.forall_mem_cons.mpr ⟨(zo_pushI_tl _ _), ?_⟩
  refine List.forall_mem_cons.mpr ⟨(zo_iload_tl _ _), ?_⟩
  refine List.forall_mem_cons.mpr ⟨(zo_pushI_tl _ _), ?_⟩
  refine List.forall_mem_cons.mpr ⟨(zo_iid_tl _ _), ?_⟩
  refine List.forall_mem_cons.mpr ⟨(zo_ii_tl _ _), ?_⟩
  refine List.forall_mem_cons.mpr ⟨(zo_iret_tl _), ?_⟩
  exact fun _ h => absurd h List.not_mem_nil
noncomputable def fX12_need : zzFn := zz_fn tX12_need 1
set_option maxRecDepth 100000 in
set_option maxHeartbeats 4000000 in
theorem mm_X12_need {l : Launch} {D : va_G} {cA : Nat → ClassId} {ad : Nat → Nat} {Ex : (Nat → Prop) → State → Heap → Prop} (Wd : zzWR l D cA ad Ex) : zz_Cn l D zzCl cA ad zzSR Ex yX12_need cX12_need 1 (some .int) 0 0 fX12_need ∧ zz_Cx l D zzCl cA ad zzSR Ex yX12_need cX12_need 1 (some .int) 0 0 fX12_need := by
  refine zz_meth (plainFor_of_name (by decide)) Wd.1 Wd.2.1 Wd.2.2 (fun p e R s m args below meth c rr X => ?_)
  unfold tX12_need
  refine zz_cons (k' := 1) rfl (zk_iconst X dX12_need_0 (by decide) rfl) ?_
  refine zz_cons (k' := 2) rfl (zk_iload_n X dX12_need_1 rfl rfl) ?_
  refine zz_cons (k' := 3) rfl (zk_iconst X dX12_need_2 (by decide) rfl) ?_
  refine zz_cons (k' := 4) rfl (zk_irem X dX12_need_3 rfl) ?_
  refine zz_cons (k' := 5) rfl (zk_iadd X dX12_need_4 rfl) ?_
  refine zz_cons (k' := 6) rfl (zk_iret X rfl dX12_need_5) ?_
  exact trivial
noncomputable def tX12_used : List zzOp := [
  zo_pushI 0 1,
  zo_istore 3 2,
  zo_pushI 0 3,
  zo_istore 4 5,
  zo_none,
  zo_iload 4 7,
  zo_none,
  zo_aload 0 8,
  zo_getf zzSR (zz_kf [10] 5) 11,
  zo_none,
  zo_none,
  zo_icmp (fun x y => decide (y ≤ x)) 122 14,
  zo_none,
  zo_none,
  zo_aload 0 15,
  zo_iload 4 17,
  zo_none,
  zo_callv zzSR (zz_cl [(10, fX12_isGoneThere)]) 1 20,
  zo_none,
  zo_none,
  zo_if (fun x => decide (¬ x = 0)) 52 23,
  zo_none,
  zo_none,
  zo_aload 0 24,
  zo_getf zzSR (zz_kf [10] 6) 27,
  zo_none,
  zo_none,
  zo_iload 4 29,
  zo_none,
  zo_iald zzSR zzSTR 30,
  zo_pushI 2 31,
  zo_icmp (fun x y => decide (¬ x = y)) 52 34,
  zo_none,
  zo_none,
  zo_aload 0 35,
  zo_iload 4 37,
  zo_none,
  zo_pushI 15 39,
  zo_none,
  zo_callv zzSR (zz_cl [(10, fX12_viewed)]) 2 42,
  zo_none,
  zo_none,
  zo_iload 1 43,
  zo_pushI 1 44,
  zo_ii (fun x y => x + y) 45,
  zo_icmp (fun x y => decide (¬ x = y)) 52 48,
  zo_none,
  zo_none,
  zo_pushI 1 49,
  zo_goto 53,
  zo_none,
  zo_none,
  zo_pushI 0 53,
  zo_istore 5 55,
  zo_none,
  zo_iload 5 57,
  zo_none,
  zo_if (fun x => decide (x = 0)) 91 60,
  zo_none,
  zo_none,
  zo_aload 0 61,
  zo_iload 4 63,
  zo_none,
  zo_pushI 16 65,
  zo_none,
  zo_callv zzSR (zz_cl [(10, fX12_viewed)]) 2 68,
  zo_none,
  zo_none,
  zo_pushI 1 69,
  zo_icmp (fun x y => decide (x = y)) 87 72,
  zo_none,
  zo_none,
  zo_iload 2 73,
  zo_if (fun x => decide (¬ x = 0)) 91 76,
  zo_none,
  zo_none,
  zo_aload 0 77,
  zo_iload 4 79,
  zo_none,
  zo_pushI 16 81,
  zo_none,
  zo_callv zzSR (zz_cl [(10, fX12_viewed)]) 2 84,
  zo_none,
  zo_none,
  zo_if (fun x => decide (¬ x = 0)) 91 87,
  zo_none,
  zo_none,
  zo_pushI 1 88,
  zo_goto 92,
  zo_none,
  zo_none,
  zo_pushI 0 92,
  zo_istore 6 94,
  zo_none,
  zo_iload 3 95,
  zo_iload 6 97,
  zo_none,
  zo_if (fun x => decide (x = 0)) 113 100,
  zo_none,
  zo_none,
  zo_aload 0 101,
  zo_iload 4 103,
  zo_none,
  zo_pushI 1 104,
  zo_callv zzSR (zz_cl [(10, fX12_viewed)]) 2 107,
  zo_none,
  zo_none,
  zo_calls fX12_need 1 110,
  zo_none,
  zo_none,
  zo_goto 114,
  zo_none,
  zo_none,
  zo_pushI 0 114,
  zo_ii (fun x y => x + y) 115,
  zo_istore 3 116,
  zo_iinc 4 1 119,
  zo_none,
  zo_none,
  zo_goto 5,
  zo_none,
  zo_none,
  zo_iload 3 123,
  zo_iret false]
set_option maxRecDepth 100000 in
theorem tl_X12_used : ∀ pc, zz_Tl (tX12_used.getD pc zo_none) := by
  refine zz_Tl_mem ?_
  unfold tX12_used
  refine List.forall_mem_cons.mpr ⟨(zo_pushI_tl _ _), ?_⟩
  refine List.forall_mem_cons.mpr ⟨(zo_istore_tl _ _), ?_⟩
  refine List.forall_mem_cons.mpr ⟨(zo_pushI_tl _ _), ?_⟩
  refine List.forall_mem_cons.mpr ⟨(zo_istore_tl _ _), ?_⟩
  refine List.forall_mem_cons.mpr ⟨zo_none_tl, ?_⟩
  refine List.forall_mem_cons.mpr ⟨(zo_iload_tl _ _), ?_⟩
  refine List.forall_mem_cons.mpr ⟨zo_none_tl, ?_⟩
  refine List.forall_mem_cons.mpr ⟨(zo_aload_tl _ _), ?_⟩
  refine List.forall_mem_cons.mpr ⟨(zo_getf_tl _ _ _), ?_⟩
  refine List.forall_mem_cons.mpr ⟨zo_none_tl, ?_⟩
  refine List.forall_mem_cons.mpr ⟨zo_none_tl, ?_⟩
  refine List.forall_mem_cons.mpr ⟨(zo_icmp_tl _ _ _), ?_⟩
  refine List.forall_mem_cons.mpr ⟨zo_none_tl, ?_⟩
  refine List.forall_mem_cons.mpr ⟨zo_none_tl, ?_⟩
  refine List.forall_mem_cons.mpr ⟨(zo_aload_tl _ _), ?_⟩
  refine List.forall_mem_cons.mpr ⟨(zo_iload_tl _ _), ?_⟩
  refine List.forall_mem_cons.mpr ⟨zo_none_tl, ?_⟩
  refine List.forall_mem_cons.mpr ⟨(zo_callv_tl _ _ _ _), ?_⟩
  refine List.forall_mem_cons.mpr ⟨zo_none_tl, ?_⟩
  refine List.forall_mem_cons.mpr ⟨zo_none_tl, ?_⟩
  refine List.forall_mem_cons.mpr ⟨(zo_if_tl _ _ _), ?_⟩
  refine List.forall_mem_cons.mpr ⟨zo_none_tl, ?_⟩
  refine List.forall_mem_cons.mpr ⟨zo_none_tl, ?_⟩
  refine List.forall_mem_cons.mpr ⟨(zo_aload_tl _ _), ?_⟩
  refine List.forall_mem_cons.mpr ⟨(zo_getf_tl _ _ _), ?_⟩
  refine List.forall_mem_cons.mpr ⟨zo_none_tl, ?_⟩
  refine List.forall_mem_cons.mpr ⟨zo_none_tl, ?_⟩
  refine List.forall_mem_cons.mpr ⟨(zo_iload_tl _ _), ?_⟩
  refine List.forall_mem_cons.mpr ⟨zo_none_tl, ?_⟩
  refine List.forall_mem_cons.mpr ⟨(zo_iald_tl _ _ _), ?_⟩
  refine List.forall_mem_cons.mpr ⟨(zo_pushI_tl _ _), ?_⟩
  refine List.forall_mem_cons.mpr ⟨(zo_icmp_tl _ _ _), ?_⟩
  refine List.forall_mem_cons.mpr ⟨zo_none_tl, ?_⟩
  refine List.forall_mem_cons.mpr ⟨zo_none_tl, ?_⟩
  refine List.forall_mem_cons.mpr ⟨(zo_aload_tl _ _), ?_⟩
  refine List.forall_mem_cons.mpr ⟨(zo_iload_tl _ _), ?_⟩
  refine List.forall_mem_cons.mpr ⟨zo_none_tl, ?_⟩
  refine List.forall_mem_cons.mpr ⟨(zo_pushI_tl _ _), ?_⟩
  refine List.forall_mem_cons.mpr ⟨zo_none_tl, ?_⟩
  refine List.forall_mem_cons.mpr ⟨(zo_callv_tl _ _ _ _), ?_⟩
  refine List.forall_mem_cons.mpr ⟨zo_none_tl, ?_⟩
  refine List.forall_mem_cons.mpr ⟨zo_none_tl, ?_⟩
  refine List.forall_mem_cons.mpr ⟨(zo_iload_tl _ _), ?_⟩
  refine List.forall_mem_cons.mpr ⟨(zo_pushI_tl _ _), ?_⟩
  refine List.forall_mem_cons.mpr ⟨(zo_ii_tl _ _), ?_⟩
  refine List.forall_mem_cons.mpr ⟨(zo_icmp_tl _ _ _), ?_⟩
  refine List.forall_mem_cons.mpr ⟨zo_none_tl, ?_⟩
  refine List.forall_mem_cons.mpr ⟨zo_none_tl, ?_⟩
  refine List.forall_mem_cons.mpr ⟨(zo_pushI_tl _ _), ?_⟩
  refine List.forall_mem_cons.mpr ⟨(zo_goto_tl _), ?_⟩
  refine List.forall_mem_cons.mpr ⟨zo_none_tl, ?_⟩
  refine List.forall_mem_cons.mpr ⟨zo_none_tl, ?_⟩
  refine List.forall_mem_cons.mpr ⟨(zo_pushI_tl _ _), ?_⟩
  refine List.forall_mem_cons.mpr ⟨(zo_istore_tl _ _), ?_⟩
  refine List.forall_mem_cons.mpr ⟨zo_none_tl, ?_⟩
  refine List.forall_mem_cons.mpr ⟨(zo_iload_tl _ _), ?_⟩
  refine List.forall_mem_cons.mpr ⟨zo_none_tl, ?_⟩
  refine List.forall_mem_cons.mpr ⟨(zo_if_tl _ _ _), ?_⟩
  refine List.forall_mem_cons.mpr ⟨zo_none_tl, ?_⟩
  refine List.forall_mem_cons.mpr ⟨zo_none_tl, ?_⟩
  refine List.forall_mem_cons.mpr ⟨(zo_aload_tl _ _), ?_⟩
  refine List.forall_mem_cons.mpr ⟨(zo_iload_tl _ _), ?_⟩
  refine List.forall_mem_cons.mpr ⟨zo_none_tl, ?_⟩
  refine List.forall_mem_cons.mpr ⟨(zo_pushI_tl _ _), ?_⟩
  refine List.forall_mem_cons.mpr ⟨zo_none_tl, ?_⟩
  refine List.forall_mem_cons.mpr ⟨(zo_callv_tl _ _ _ _), ?_⟩
  refine List.forall_mem_cons.mpr ⟨zo_none_tl, ?_⟩
  refine List.forall_mem_cons.mpr ⟨zo_none_tl, ?_⟩
  refine List.forall_mem_cons.mpr ⟨(zo_pushI_tl _ _), ?_⟩
  refine List.forall_mem_cons.mpr ⟨(zo_icmp_tl _ _ _), ?_⟩
  refine List.forall_mem_cons.mpr ⟨zo_none_tl, ?_⟩
  refine List.forall_mem_cons.mpr ⟨zo_none_tl, ?_⟩
  refine List.forall_mem_cons.mpr ⟨(zo_iload_tl _ _), ?_⟩
  refine List.forall_mem_cons.mpr ⟨(zo_if_tl _ _ _), ?_⟩
  refine List.forall_mem_cons.mpr ⟨zo_none_tl, ?_⟩
  refine List.forall_mem_cons.mpr ⟨zo_none_tl, ?_⟩
  refine List.forall_mem_cons.mpr ⟨(zo_aload_tl _ _), ?_⟩
  refine List.forall_mem_cons.mpr ⟨(zo_iload_tl _ _), ?_⟩
  refine List.forall_mem_cons.mpr ⟨zo_none_tl, ?_⟩
  refine List.forall_mem_cons.mpr ⟨(zo_pushI_tl _ _), ?_⟩
  refine List.forall_mem_cons.mpr ⟨zo_none_tl, ?_⟩
  refine List.forall_mem_cons.mpr ⟨(zo_callv_tl _ _ _ _), ?_⟩
  refine List.forall_mem_cons.mpr ⟨zo_none_tl, ?_⟩
  refine List.forall_mem_cons.mpr ⟨zo_none_tl, ?_⟩
  refine List.forall_mem_cons.mpr ⟨(zo_if_tl _ _ _), ?_⟩
  refine List.forall_mem_cons.mpr ⟨zo_none_tl, ?_⟩
  refine List.forall_mem_cons.mpr ⟨zo_none_tl, ?_⟩
  refine List.forall_mem_cons.mpr ⟨(zo_pushI_tl _ _), ?_⟩
  refine List.forall_mem_cons.mpr ⟨(zo_goto_tl _), ?_⟩
  refine List.forall_mem_cons.mpr ⟨zo_none_tl, ?_⟩
  refine List.forall_mem_cons.mpr ⟨zo_none_tl, ?_⟩
  refine List.forall_mem_cons.mpr ⟨(zo_pushI_tl _ _), ?_⟩
  refine List.forall_mem_cons.mpr ⟨(zo_istore_tl _ _), ?_⟩
  refine List.forall_mem_cons.mpr ⟨zo_none_tl, ?_⟩
  refine List.forall_mem_cons.mpr ⟨(zo_iload_tl _ _), ?_⟩
  refine List.forall_mem_cons.mpr ⟨(zo_iload_tl _ _), ?_⟩
  refine List.forall_mem_cons.mpr ⟨zo_none_tl, ?_⟩
  refine List.forall_mem_cons.mpr ⟨(zo_if_tl _ _ _), ?_⟩
  refine List.forall_mem_cons.mpr ⟨zo_none_tl, ?_⟩
  refine List.forall_mem_cons.mpr ⟨zo_none_tl, ?_⟩
  refine List.forall_mem_cons.mpr ⟨(zo_aload_tl _ _), ?_⟩
  refine List.forall_mem_cons.mpr ⟨(zo_iload_tl _ _), ?_⟩
  refine List.forall_mem_cons.mpr ⟨zo_none_tl, ?_⟩
  refine List.forall_mem_cons.mpr ⟨(zo_pushI_tl _ _), ?_⟩
  refine List.forall_mem_cons.mpr ⟨(zo_callv_tl _ _ _ _), ?_⟩
  refine List.forall_mem_cons.mpr ⟨zo_none_tl, ?_⟩
  refine List.forall_mem_cons.mpr ⟨zo_none_tl, ?_⟩
  refine List.forall_mem_cons.mpr ⟨(zo_calls_tl _ _ _), ?_⟩
  refine List.forall_mem_cons.mpr ⟨zo_none_tl, ?_⟩
  refine List.forall_mem_cons.mpr ⟨zo_none_tl, ?_⟩
  refine List.forall_mem_cons.mpr ⟨(zo_goto_tl _), ?_⟩
  refine List.forall_mem_cons.mpr ⟨zo_none_tl, ?_⟩
  refine List.forall_mem_cons.mpr ⟨zo_none_tl, ?_⟩
  refine List.forall_mem_cons.mpr ⟨(zo_pushI_tl _ _), ?_⟩
  refine List.forall_mem_cons.mpr ⟨(zo_ii_tl _ _), ?_⟩
  refine List.forall_mem_cons.mpr ⟨(zo_istore_tl _ _), ?_⟩
  refine List.forall_mem_cons.mpr ⟨(zo_iinc_tl _ _ _), ?_⟩
  refine List.forall_mem_cons.mpr ⟨zo_none_tl, ?_⟩
  refine List.forall_mem_cons.mpr ⟨zo_none_tl, ?_⟩
  refine List.forall_mem_cons.mpr ⟨(zo_goto_tl _), ?_⟩
  refine List.forall_mem_cons.mpr ⟨zo_none_tl, ?_⟩
  refine List.forall_mem_cons.mpr ⟨zo_none_tl, ?_⟩
  refine List.forall_mem_cons.mpr ⟨(zo_iload_tl _ _), ?_⟩
  refine List.forall_mem_cons.mpr ⟨(zo_iret_tl _), ?_⟩
  exact fun _ h => absurd h List.not_mem_nil
noncomputable def fX12_used : zzFn := zz_fn tX12_used 7
set_option maxRecDepth 100000 in
set_option maxHeartbeats 4000000 in
theorem mm_X12_used {l : Launch} {D : va_G} {cA : Nat → ClassId} {ad : Nat → Nat} {Ex : (Nat → Prop) → State → Heap → Prop} (Wd : zzWR l D cA ad Ex) : zz_Cn l D zzCl cA ad zzSR Ex yX12_used cX12_used 7 (some .int) 3 66 fX12_used ∧ zz_Cx l D zzCl cA ad zzSR Ex yX12_used cX12_used 7 (some .int) 3 66 fX12_used := by
  refine zz_meth (plainFor_of_name (by decide)) Wd.1 Wd.2.1 Wd.2.2 (fun p e R s m args below meth c rr X => ?_)
  unfold tX12_used
  refine zz_cons (k' := 1) rfl (zk_iconst X dX12_used_0 (by decide) rfl) ?_
  refine zz_cons (k' := 2) rfl (zk_istore_n X dX12_used_1 rfl (by decide) rfl) ?_
  refine zz_cons (k' := 3) rfl (zk_iconst X dX12_used_2 (by decide) rfl) ?_
  refine zz_cons (k' := 4) rfl (zk_istore X dX12_used_3 (by decide) rfl) ?_
  refine zz_cons (k' := 5) rfl (zz_Ok_none _ _) ?_
  refine zz_cons (k' := 6) rfl (zk_iload X dX12_used_5 rfl) ?_
  refine zz_cons (k' := 7) rfl (zz_Ok_none _ _) ?_
  refine zz_cons (k' := 8) rfl (zk_aload_n X dX12_used_7 rfl rfl) ?_
  refine zz_cons (k' := 9) rfl (zk_getf X ff_X12_137 dX12_used_8 rfl) ?_
  refine zz_cons (k' := 10) rfl (zz_Ok_none _ _) ?_
  refine zz_cons (k' := 11) rfl (zz_Ok_none _ _) ?_
  refine zz_cons (k' := 12) rfl (zk_icmp_ge X dX12_used_11 (by decide) rfl) ?_
  refine zz_cons (k' := 13) rfl (zz_Ok_none _ _) ?_
  refine zz_cons (k' := 14) rfl (zz_Ok_none _ _) ?_
  refine zz_cons (k' := 15) rfl (zk_aload_n X dX12_used_14 rfl rfl) ?_
  refine zz_cons (k' := 16) rfl (zk_iload X dX12_used_15 rfl) ?_
  refine zz_cons (k' := 17) rfl (zz_Ok_none _ _) ?_
  refine zz_cons (k' := 18) rfl (zk_callv X (zz_Cv_of (List.forall_mem_cons.mpr ⟨⟨(RX_10, zzT10, 50), yX12_isGoneThere, cX12_isGoneThere, 2, (some .boolean), 2, 45, rfl, kv_X12_211_10.1, (mm_X12_isGoneThere Wd).1, by decide, by decide⟩, (fun _ h => absurd h List.not_mem_nil)⟩)) dX12_used_17 rfl) ?_
  refine zz_cons (k' := 19) rfl (zz_Ok_none _ _) ?_
  refine zz_cons (k' := 20) rfl (zz_Ok_none _ _) ?_
  refine zz_cons (k' := 21) rfl (zk_if_ne X dX12_used_20 (by decide) rfl) ?_
  refine zz_cons (k' := 22) rfl (zz_Ok_none _ _) ?_
  refine zz_cons (k' := 23) rfl (zz_Ok_none _ _) ?_
  refine zz_cons (k' := 24) rfl (zk_aload_n X dX12_used_23 rfl rfl) ?_
  refine zz_cons (k' := 25) rfl (zk_getf X ff_X12_25 dX12_used_24 rfl) ?_
  refine zz_cons (k' := 26) rfl (zz_Ok_none _ _) ?_
  refine zz_cons (k' := 27) rfl (zz_Ok_none _ _) ?_
  refine zz_cons (k' := 28) rfl (zk_iload X dX12_used_27 rfl) ?_
  refine zz_cons (k' := 29) rfl (zz_Ok_none _ _) ?_
  refine zz_cons (k' := 30) rfl (zk_iald X (zzWR_st Wd) dX12_used_29 rfl) ?_
  refine zz_cons (k' := 31) rfl (zk_iconst X dX12_used_30 (by decide) rfl) ?_
  refine zz_cons (k' := 32) rfl (zk_icmp_ne X dX12_used_31 (by decide) rfl) ?_
  refine zz_cons (k' := 33) rfl (zz_Ok_none _ _) ?_
  refine zz_cons (k' := 34) rfl (zz_Ok_none _ _) ?_
  refine zz_cons (k' := 35) rfl (zk_aload_n X dX12_used_34 rfl rfl) ?_
  refine zz_cons (k' := 36) rfl (zk_iload X dX12_used_35 rfl) ?_
  refine zz_cons (k' := 37) rfl (zz_Ok_none _ _) ?_
  refine zz_cons (k' := 38) rfl (zk_bipush X dX12_used_37 (by decide) rfl) ?_
  refine zz_cons (k' := 39) rfl (zz_Ok_none _ _) ?_
  refine zz_cons (k' := 40) rfl (zk_callv X (zz_Cv_of (List.forall_mem_cons.mpr ⟨⟨(RX_10, zzT10, 50), yX12_viewed, cX12_viewed, 3, (some .int), 1, 23, rfl, kv_X12_204_10.1, (mm_X12_viewed Wd).1, by decide, by decide⟩, (fun _ h => absurd h List.not_mem_nil)⟩)) dX12_used_39 rfl) ?_
  refine zz_cons (k' := 41) rfl (zz_Ok_none _ _) ?_
  refine zz_cons (k' := 42) rfl (zz_Ok_none _ _) ?_
  refine zz_cons (k' := 43) rfl (zk_iload_n X dX12_used_42 rfl rfl) ?_
  refine zz_cons (k' := 44) rfl (zk_iconst X dX12_used_43 (by decide) rfl) ?_
  refine zz_cons (k' := 45) rfl (zk_iadd X dX12_used_44 rfl) ?_
  refine zz_cons (k' := 46) rfl (zk_icmp_ne X dX12_used_45 (by decide) rfl) ?_
  refine zz_cons (k' := 47) rfl (zz_Ok_none _ _) ?_
  refine zz_cons (k' := 48) rfl (zz_Ok_none _ _) ?_
  refine zz_cons (k' := 49) rfl (zk_iconst X dX12_used_48 (by decide) rfl) ?_
  refine zz_cons (k' := 50) rfl (zk_goto X dX12_used_49 (by decide)) ?_
  refine zz_cons (k' := 51) rfl (zz_Ok_none _ _) ?_
  refine zz_cons (k' := 52) rfl (zz_Ok_none _ _) ?_
  refine zz_cons (k' := 53) rfl (zk_iconst X dX12_used_52 (by decide) rfl) ?_
  refine zz_cons (k' := 54) rfl (zk_istore X dX12_used_53 (by decide) rfl) ?_
  refine zz_cons (k' := 55) rfl (zz_Ok_none _ _) ?_
  refine zz_cons (k' := 56) rfl (zk_iload X dX12_used_55 rfl) ?_
  refine zz_cons (k' := 57) rfl (zz_Ok_none _ _) ?_
  refine zz_cons (k' := 58) rfl (zk_if_eq X dX12_used_57 (by decide) rfl) ?_
  refine zz_cons (k' := 59) rfl (zz_Ok_none _ _) ?_
  refine zz_cons (k' := 60) rfl (zz_Ok_none _ _) ?_
  refine zz_cons (k' := 61) rfl (zk_aload_n X dX12_used_60 rfl rfl) ?_
  refine zz_cons (k' := 62) rfl (zk_iload X dX12_used_61 rfl) ?_
  refine zz_cons (k' := 63) rfl (zz_Ok_none _ _) ?_
  refine zz_cons (k' := 64) rfl (zk_bipush X dX12_used_63 (by decide) rfl) ?_
  refine zz_cons (k' := 65) rfl (zz_Ok_none _ _) ?_
  refine zz_cons (k' := 66) rfl (zk_callv X (zz_Cv_of (List.forall_mem_cons.mpr ⟨⟨(RX_10, zzT10, 50), yX12_viewed, cX12_viewed, 3, (some .int), 1, 23, rfl, kv_X12_204_10.1, (mm_X12_viewed Wd).1, by decide, by decide⟩, (fun _ h => absurd h List.not_mem_nil)⟩)) dX12_used_65 rfl) ?_
  refine zz_cons (k' := 67) rfl (zz_Ok_none _ _) ?_
  refine zz_cons (k' := 68) rfl (zz_Ok_none _ _) ?_
  refine zz_cons (k' := 69) rfl (zk_iconst X dX12_used_68 (by decide) rfl) ?_
  refine zz_cons (k' := 70) rfl (zk_icmp_eq X dX12_used_69 (by decide) rfl) ?_
  refine zz_cons (k' := 71) rfl (zz_Ok_none _ _) ?_
  refine zz_cons (k' := 72) rfl (zz_Ok_none _ _) ?_
  refine zz_cons (k' := 73) rfl (zk_iload_n X dX12_used_72 rfl rfl) ?_
  refine zz_cons (k' := 74) rfl (zk_if_ne X dX12_used_73 (by decide) rfl) ?_
  refine zz_cons (k' := 75) rfl (zz_Ok_none _ _) ?_
  refine zz_cons (k' := 76) rfl (zz_Ok_none _ _) ?_
  refine zz_cons (k' := 77) rfl (zk_aload_n X dX12_used_76 rfl rfl) ?_
  refine zz_cons (k' := 78) rfl (zk_iload X dX12_used_77 rfl) ?_
  refine zz_cons (k' := 79) rfl (zz_Ok_none _ _) ?_
  refine zz_cons (k' := 80) rfl (zk_bipush X dX12_used_79 (by decide) rfl) ?_
  refine zz_cons (k' := 81) rfl (zz_Ok_none _ _) ?_
  refine zz_cons (k' := 82) rfl (zk_callv X (zz_Cv_of (List.forall_mem_cons.mpr ⟨⟨(RX_10, zzT10, 50), yX12_viewed, cX12_viewed, 3, (some .int), 1, 23, rfl, kv_X12_204_10.1, (mm_X12_viewed Wd).1, by decide, by decide⟩, (fun _ h => absurd h List.not_mem_nil)⟩)) dX12_used_81 rfl) ?_
  refine zz_cons (k' := 83) rfl (zz_Ok_none _ _) ?_
  refine zz_cons (k' := 84) rfl (zz_Ok_none _ _) ?_
  refine zz_cons (k' := 85) rfl (zk_if_ne X dX12_used_84 (by decide) rfl) ?_
  refine zz_cons (k' := 86) rfl (zz_Ok_none _ _) ?_
  refine zz_cons (k' := 87) rfl (zz_Ok_none _ _) ?_
  refine zz_cons (k' := 88) rfl (zk_iconst X dX12_used_87 (by decide) rfl) ?_
  refine zz_cons (k' := 89) rfl (zk_goto X dX12_used_88 (by decide)) ?_
  refine zz_cons (k' := 90) rfl (zz_Ok_none _ _) ?_
  refine zz_cons (k' := 91) rfl (zz_Ok_none _ _) ?_
  refine zz_cons (k' := 92) rfl (zk_iconst X dX12_used_91 (by decide) rfl) ?_
  refine zz_cons (k' := 93) rfl (zk_istore X dX12_used_92 (by decide) rfl) ?_
  refine zz_cons (k' := 94) rfl (zz_Ok_none _ _) ?_
  refine zz_cons (k' := 95) rfl (zk_iload_n X dX12_used_94 rfl rfl) ?_
  refine zz_cons (k' := 96) rfl (zk_iload X dX12_used_95 rfl) ?_
  refine zz_cons (k' := 97) rfl (zz_Ok_none _ _) ?_
  refine zz_cons (k' := 98) rfl (zk_if_eq X dX12_used_97 (by decide) rfl) ?_
  refine zz_cons (k' := 99) rfl (zz_Ok_none _ _) ?_
  refine zz_cons (k' := 100) rfl (zz_Ok_none _ _) ?_
  refine zz_cons (k' := 101) rfl (zk_aload_n X dX12_used_100 rfl rfl) ?_
  refine zz_cons (k' := 102) rfl (zk_iload X dX12_used_101 rfl) ?_
  refine zz_cons (k' := 103) rfl (zz_Ok_none _ _) ?_
  refine zz_cons (k' := 104) rfl (zk_iconst X dX12_used_103 (by decide) rfl) ?_
  refine zz_cons (k' := 105) rfl (zk_callv X (zz_Cv_of (List.forall_mem_cons.mpr ⟨⟨(RX_10, zzT10, 50), yX12_viewed, cX12_viewed, 3, (some .int), 1, 23, rfl, kv_X12_204_10.1, (mm_X12_viewed Wd).1, by decide, by decide⟩, (fun _ h => absurd h List.not_mem_nil)⟩)) dX12_used_104 rfl) ?_
  refine zz_cons (k' := 106) rfl (zz_Ok_none _ _) ?_
  refine zz_cons (k' := 107) rfl (zz_Ok_none _ _) ?_
  refine zz_cons (k' := 108) rfl (zk_calls X ks_X12_276 (mm_X12_need Wd).1 (by decide) dX12_used_107 rfl) ?_
  refine zz_cons (k' := 109) rfl (zz_Ok_none _ _) ?_
  refine zz_cons (k' := 110) rfl (zz_Ok_none _ _) ?_
  refine zz_cons (k' := 111) rfl (zk_goto X dX12_used_110 (by decide)) ?_
  refine zz_cons (k' := 112) rfl (zz_Ok_none _ _) ?_
  refine zz_cons (k' := 113) rfl (zz_Ok_none _ _) ?_
  refine zz_cons (k' := 114) rfl (zk_iconst X dX12_used_113 (by decide) rfl) ?_
  refine zz_cons (k' := 115) rfl (zk_iadd X dX12_used_114 rfl) ?_
  refine zz_cons (k' := 116) rfl (zk_istore_n X dX12_used_115 rfl (by decide) rfl) ?_
  refine zz_cons (k' := 117) rfl (zk_iinc X dX12_used_116 (by decide) (by decide) rfl) ?_
  refine zz_cons (k' := 118) rfl (zz_Ok_none _ _) ?_
  refine zz_cons (k' := 119) rfl (zz_Ok_none _ _) ?_
  refine zz_cons (k' := 120) rfl (zk_goto X dX12_used_119 (by decide)) ?_
  refine zz_cons (k' := 121) rfl (zz_Ok_none _ _) ?_
  refine zz_cons (k' := 122) rfl (zz_Ok_none _ _) ?_
  refine zz_cons (k' := 123) rfl (zk_iload_n X dX12_used_122 rfl rfl) ?_
  refine zz_cons (k' := 124) rfl (zk_iret X rfl dX12_used_123) ?_
  exact trivial
noncomputable def tX12_setOf : List zzOp := [
  zo_pushI (-1) 1,
  zo_istore 4 3,
  zo_none,
  zo_aload 0 4,
  zo_getf zzSR (zz_kf [10] 5) 7,
  zo_none,
  zo_none,
  zo_pushI 1 8,
  zo_ii (fun x y => x - y) 9,
  zo_istore 5 11,
  zo_none,
  zo_iload 5 13,
  zo_none,
  zo_if (fun x => decide (x < 0)) 101 16,
  zo_none,
  zo_none,
  zo_aload 0 17,
  zo_iload 5 19,
  zo_none,
  zo_pushI 1 20,
  zo_iload 1 21,
  zo_callv zzSR (zz_cl [(10, fX12_isOwned)]) 3 24,
  zo_none,
  zo_none,
  zo_if (fun x => decide (x = 0)) 37 27,
  zo_none,
  zo_none,
  zo_iload 5 29,
  zo_none,
  zo_iload 3 30,
  zo_icmp (fun x y => decide (x = y)) 37 33,
  zo_none,
  zo_none,
  zo_pushI 1 34,
  zo_goto 38,
  zo_none,
  zo_none,
  zo_pushI 0 38,
  zo_istore 6 40,
  zo_none,
  zo_iload 6 42,
  zo_none,
  zo_if (fun x => decide (x = 0)) 78 45,
  zo_none,
  zo_none,
  zo_iload 2 46,
  zo_pushI (-1) 47,
  zo_icmp (fun x y => decide (¬ x = y)) 63 50,
  zo_none,
  zo_none,
  zo_aload 0 51,
  zo_iload 5 53,
  zo_none,
  zo_pushI 0 54,
  zo_callv zzSR (zz_cl [(10, fX12_viewed)]) 2 57,
  zo_none,
  zo_none,
  zo_if (fun x => decide (x ≤ 0)) 78 60,
  zo_none,
  zo_none,
  zo_goto 74,
  zo_none,
  zo_none,
  zo_aload 0 64,
  zo_iload 5 66,
  zo_none,
  zo_pushI 1 67,
  zo_callv zzSR (zz_cl [(10, fX12_viewed)]) 2 70,
  zo_none,
  zo_none,
  zo_iload 2 71,
  zo_icmp (fun x y => decide (¬ x = y)) 78 74,
  zo_none,
  zo_none,
  zo_pushI 1 75,
  zo_goto 79,
  zo_none,
  zo_none,
  zo_pushI 0 79,
  zo_istore 7 81,
  zo_none,
  zo_iload 7 83,
  zo_none,
  zo_if (fun x => decide (x = 0)) 91 86,
  zo_none,
  zo_none,
  zo_iload 5 88,
  zo_none,
  zo_goto 93,
  zo_none,
  zo_none,
  zo_iload 4 93,
  zo_none,
  zo_istore 4 95,
  zo_none,
  zo_iinc 5 (-1) 98,
  zo_none,
  zo_none,
  zo_goto 11,
  zo_none,
  zo_none,
  zo_iload 4 103,
  zo_none,
  zo_iret false]
set_option maxRecDepth 100000 in
theorem tl_X12_setOf : ∀ pc, zz_Tl (tX12_setOf.getD pc zo_none) := by
  refine zz_Tl_mem ?_
  unfold tX12_setOf
  refine List.forall_mem_cons.mpr ⟨(zo_pushI_tl _ _), ?_⟩
  refine List.forall_mem_cons.mpr ⟨(zo_istore_tl _ _), ?_⟩
  refine List.forall_mem_cons.mpr ⟨zo_none_tl, ?_⟩
  refine List.forall_mem_cons.mpr ⟨(zo_aload_tl _ _), ?_⟩
  refine List.forall_mem_cons.mpr ⟨(zo_getf_tl _ _ _), ?_⟩
  refine List.forall_mem_cons.mpr ⟨zo_none_tl, ?_⟩
  refine List.forall_mem_cons.mpr ⟨zo_none_tl, ?_⟩
  refine List.forall_mem_cons.mpr ⟨(zo_pushI_tl _ _), ?_⟩
  refine List.forall_mem_cons.mpr ⟨(zo_ii_tl _ _), ?_⟩
  refine List.forall_mem_cons.mpr ⟨(zo_istore_tl _ _), ?_⟩
  refine List.forall_mem_cons.mpr ⟨zo_none_tl, ?_⟩
  refine List.forall_mem_cons.mpr ⟨(zo_iload_tl _ _), ?_⟩
  refine List.forall_mem_cons.mpr ⟨zo_none_tl, ?_⟩
  refine List.forall_mem_cons.mpr ⟨(zo_if_tl _ _ _), ?_⟩
  refine List.forall_mem_cons.mpr ⟨zo_none_tl, ?_⟩
  refine List.forall_mem_cons.mpr ⟨zo_none_tl, ?_⟩
  refine List.forall_mem_cons.mpr ⟨(zo_aload_tl _ _), ?_⟩
  refine List.forall_mem_cons.mpr ⟨(zo_iload_tl _ _), ?_⟩
  refine List.forall_mem_cons.mpr ⟨zo_none_tl, ?_⟩
  refine List.forall_mem_cons.mpr ⟨(zo_pushI_tl _ _), ?_⟩
  refine List.forall_mem_cons.mpr ⟨(zo_iload_tl _ _), ?_⟩
  refine List.forall_mem_cons.mpr ⟨(zo_callv_tl _ _ _ _), ?_⟩
  refine List.forall_mem_cons.mpr ⟨zo_none_tl, ?_⟩
  refine List.forall_mem_cons.mpr ⟨zo_none_tl, ?_⟩
  refine List.forall_mem_cons.mpr ⟨(zo_if_tl _ _ _), ?_⟩
  refine List.forall_mem_cons.mpr ⟨zo_none_tl, ?_⟩
  refine List.forall_mem_cons.mpr ⟨zo_none_tl, ?_⟩
  refine List.forall_mem_cons.mpr ⟨(zo_iload_tl _ _), ?_⟩
  refine List.forall_mem_cons.mpr ⟨zo_none_tl, ?_⟩
  refine List.forall_mem_cons.mpr ⟨(zo_iload_tl _ _), ?_⟩
  refine List.forall_mem_cons.mpr ⟨(zo_icmp_tl _ _ _), ?_⟩
  refine List.forall_mem_cons.mpr ⟨zo_none_tl, ?_⟩
  refine List.forall_mem_cons.mpr ⟨zo_none_tl, ?_⟩
  refine List.forall_mem_cons.mpr ⟨(zo_pushI_tl _ _), ?_⟩
  refine List.forall_mem_cons.mpr ⟨(zo_goto_tl _), ?_⟩
  refine List.forall_mem_cons.mpr ⟨zo_none_tl, ?_⟩
  refine List.forall_mem_cons.mpr ⟨zo_none_tl, ?_⟩
  refine List.forall_mem_cons.mpr ⟨(zo_pushI_tl _ _), ?_⟩
  refine List.forall_mem_cons.mpr ⟨(zo_istore_tl _ _), ?_⟩
  refine List.forall_mem_cons.mpr ⟨zo_none_tl, ?_⟩
  refine List.forall_mem_cons.mpr ⟨(zo_iload_tl _ _), ?_⟩
  refine List.forall_mem_cons.mpr ⟨zo_none_tl, ?_⟩
  refine List.forall_mem_cons.mpr ⟨(zo_if_tl _ _ _), ?_⟩
  refine List.forall_mem_cons.mpr ⟨zo_none_tl, ?_⟩
  refine List.forall_mem_cons.mpr ⟨zo_none_tl, ?_⟩
  refine List.forall_mem_cons.mpr ⟨(zo_iload_tl _ _), ?_⟩
  refine List.forall_mem_cons.mpr ⟨(zo_pushI_tl _ _), ?_⟩
  refine List.forall_mem_cons.mpr ⟨(zo_icmp_tl _ _ _), ?_⟩
  refine List.forall_mem_cons.mpr ⟨zo_none_tl, ?_⟩
  refine List.forall_mem_cons.mpr ⟨zo_none_tl, ?_⟩
  refine List.forall_mem_cons.mpr ⟨(zo_aload_tl _ _), ?_⟩
  refine List.forall_mem_cons.mpr ⟨(zo_iload_tl _ _), ?_⟩
  refine List.forall_mem_cons.mpr ⟨zo_none_tl, ?_⟩
  refine List.forall_mem_cons.mpr ⟨(zo_pushI_tl _ _), ?_⟩
  refine List.forall_mem_cons.mpr ⟨(zo_callv_tl _ _ _ _), ?_⟩
  refine List.forall_mem_cons.mpr ⟨zo_none_tl, ?_⟩
  refine List.forall_mem_cons.mpr ⟨zo_none_tl, ?_⟩
  refine List.forall_mem_cons.mpr ⟨(zo_if_tl _ _ _), ?_⟩
  refine List.forall_mem_cons.mpr ⟨zo_none_tl, ?_⟩
  refine List.forall_mem_cons.mpr ⟨zo_none_tl, ?_⟩
  refine List.forall_mem_cons.mpr ⟨(zo_goto_tl _), ?_⟩
  refine List.forall_mem_cons.mpr ⟨zo_none_tl, ?_⟩
  refine List.forall_mem_cons.mpr ⟨zo_none_tl, ?_⟩
  refine List.forall_mem_cons.mpr ⟨(zo_aload_tl _ _), ?_⟩
  refine List.forall_mem_cons.mpr ⟨(zo_iload_tl _ _), ?_⟩
  refine List.forall_mem_cons.mpr ⟨zo_none_tl, ?_⟩
  refine List.forall_mem_cons.mpr ⟨(zo_pushI_tl _ _), ?_⟩
  refine List.forall_mem_cons.mpr ⟨(zo_callv_tl _ _ _ _), ?_⟩
  refine List.forall_mem_cons.mpr ⟨zo_none_tl, ?_⟩
  refine List.forall_mem_cons.mpr ⟨zo_none_tl, ?_⟩
  refine List.forall_mem_cons.mpr ⟨(zo_iload_tl _ _), ?_⟩
  refine List.forall_mem_cons.mpr ⟨(zo_icmp_tl _ _ _), ?_⟩
  refine List.forall_mem_cons.mpr ⟨zo_none_tl, ?_⟩
  refine List.forall_mem_cons.mpr ⟨zo_none_tl, ?_⟩
  refine List.forall_mem_cons.mpr ⟨(zo_pushI_tl _ _), ?_⟩
  refine List.forall_mem_cons.mpr ⟨(zo_goto_tl _), ?_⟩
  refine List.forall_mem_cons.mpr ⟨zo_none_tl, ?_⟩
  refine List.forall_mem_cons.mpr ⟨zo_none_tl, ?_⟩
  refine List.forall_mem_cons.mpr ⟨(zo_pushI_tl _ _), ?_⟩
  refine List.forall_mem_cons.mpr ⟨(zo_istore_tl _ _), ?_⟩
  refine List.forall_mem_cons.mpr ⟨zo_none_tl, ?_⟩
  refine List.forall_mem_cons.mpr ⟨(zo_iload_tl _ _), ?_⟩
  refine List.forall_mem_cons.mpr ⟨zo_none_tl, ?_⟩
  refine List.forall_mem_cons.mpr ⟨(zo_if_tl _ _ _), ?_⟩
  refine List.forall_mem_cons.mpr ⟨zo_none_tl, ?_⟩
  refine List.forall_mem_cons.mpr ⟨zo_none_tl, ?_⟩
  refine List.forall_mem_cons.mpr ⟨(zo_iload_tl _ _), ?_⟩
  refine List.forall_mem_cons.mpr ⟨zo_none_tl, ?_⟩
  refine List.forall_mem_cons.mpr ⟨(zo_goto_tl _), ?_⟩
  refine List.forall_mem_cons.mpr ⟨zo_none_tl, ?_⟩
  refine List.forall_mem_cons.mpr ⟨zo_none_tl, ?_⟩
  refine List.forall_mem_cons.mpr ⟨(zo_iload_tl _ _), ?_⟩
  refine List.forall_mem_cons.mpr ⟨zo_none_tl, ?_⟩
  refine List.forall_mem_cons.mpr ⟨(zo_istore_tl _ _), ?_⟩
  refine List.forall_mem_cons.mpr ⟨zo_none_tl, ?_⟩
  refine List.forall_mem_cons.mpr ⟨(zo_iinc_tl _ _ _), ?_⟩
  refine List.forall_mem_cons.mpr ⟨zo_none_tl, ?_⟩
  refine List.forall_mem_cons.mpr ⟨zo_none_tl, ?_⟩
  refine List.forall_mem_cons.mpr ⟨(zo_goto_tl _), ?_⟩
  refine List.forall_mem_cons.mpr ⟨zo_none_tl, ?_⟩
  refine List.forall_mem_cons.mpr ⟨zo_none_tl, ?_⟩
  refine List.forall_mem_cons.mpr ⟨(zo_iload_tl _ _), ?_⟩
  refine List.forall_mem_cons.mpr ⟨zo_none_tl, ?_⟩
  refine List.forall_mem_cons.mpr ⟨(zo_iret_tl _), ?_⟩
  exact fun _ h => absurd h List.not_mem_nil
noncomputable def fX12_setOf : zzFn := zz_fn tX12_setOf 8
set_option maxRecDepth 100000 in
set_option maxHeartbeats 4000000 in
theorem mm_X12_setOf {l : Launch} {D : va_G} {cA : Nat → ClassId} {ad : Nat → Nat} {Ex : (Nat → Prop) → State → Heap → Prop} (Wd : zzWR l D cA ad Ex) : zz_Cn l D zzCl cA ad zzSR Ex yX12_setOf cX12_setOf 8 (some .int) 4 90 fX12_setOf ∧ zz_Cx l D zzCl cA ad zzSR Ex yX12_setOf cX12_setOf 8 (some .int) 4 90 fX12_setOf := by
  refine zz_meth (plainFor_of_name (by decide)) Wd.1 Wd.2.1 Wd.2.2 (fun p e R s m args below meth c rr X => ?_)
  unfold tX12_setOf
  refine zz_cons (k' := 1) rfl (zk_iconst X dX12_setOf_0 (by decide) rfl) ?_
  refine zz_cons (k' := 2) rfl (zk_istore X dX12_setOf_1 (by decide) rfl) ?_
  refine zz_cons (k' := 3) rfl (zz_Ok_none _ _) ?_
  refine zz_cons (k' := 4) rfl (zk_aload_n X dX12_setOf_3 rfl rfl) ?_
  refine zz_cons (k' := 5) rfl (zk_getf X ff_X12_137 dX12_setOf_4 rfl) ?_
  refine zz_cons (k' := 6) rfl (zz_Ok_none _ _) ?_
  refine zz_cons (k' := 7) rfl (zz_Ok_none _ _) ?_
  refine zz_cons (k' := 8) rfl (zk_iconst X dX12_setOf_7 (by decide) rfl) ?_
  refine zz_cons (k' := 9) rfl (zk_isub X dX12_setOf_8 rfl) ?_
  refine zz_cons (k' := 10) rfl (zk_istore X dX12_setOf_9 (by decide) rfl) ?_
  refine zz_cons (k' := 11) rfl (zz_Ok_none _ _) ?_
  refine zz_cons (k' := 12) rfl (zk_iload X dX12_setOf_11 rfl) ?_
  refine zz_cons (k' := 13) rfl (zz_Ok_none _ _) ?_
  refine zz_cons (k' := 14) rfl (zk_if_lt X dX12_setOf_13 (by decide) rfl) ?_
  refine zz_cons (k' := 15) rfl (zz_Ok_none _ _) ?_
  refine zz_cons (k' := 16) rfl (zz_Ok_none _ _) ?_
  refine zz_cons (k' := 17) rfl (zk_aload_n X dX12_setOf_16 rfl rfl) ?_
  refine zz_cons (k' := 18) rfl (zk_iload X dX12_setOf_17 rfl) ?_
  refine zz_cons (k' := 19) rfl (zz_Ok_none _ _) ?_
  refine zz_cons (k' := 20) rfl (zk_iconst X dX12_setOf_19 (by decide) rfl) ?_
  refine zz_cons (k' := 21) rfl (zk_iload_n X dX12_setOf_20 rfl rfl) ?_
  refine zz_cons (k' := 22) rfl (zk_callv X (zz_Cv_of (List.forall_mem_cons.mpr ⟨⟨(RX_10, zzT10, 50), yX12_isOwned, cX12_isOwned, 4, (some .boolean), 3, 67, rfl, kv_X12_273_10.1, (mm_X12_isOwned Wd).1, by decide, by decide⟩, (fun _ h => absurd h List.not_mem_nil)⟩)) dX12_setOf_21 rfl) ?_
  refine zz_cons (k' := 23) rfl (zz_Ok_none _ _) ?_
  refine zz_cons (k' := 24) rfl (zz_Ok_none _ _) ?_
  refine zz_cons (k' := 25) rfl (zk_if_eq X dX12_setOf_24 (by decide) rfl) ?_
  refine zz_cons (k' := 26) rfl (zz_Ok_none _ _) ?_
  refine zz_cons (k' := 27) rfl (zz_Ok_none _ _) ?_
  refine zz_cons (k' := 28) rfl (zk_iload X dX12_setOf_27 rfl) ?_
  refine zz_cons (k' := 29) rfl (zz_Ok_none _ _) ?_
  refine zz_cons (k' := 30) rfl (zk_iload_n X dX12_setOf_29 rfl rfl) ?_
  refine zz_cons (k' := 31) rfl (zk_icmp_eq X dX12_setOf_30 (by decide) rfl) ?_
  refine zz_cons (k' := 32) rfl (zz_Ok_none _ _) ?_
  refine zz_cons (k' := 33) rfl (zz_Ok_none _ _) ?_
  refine zz_cons (k' := 34) rfl (zk_iconst X dX12_setOf_33 (by decide) rfl) ?_
  refine zz_cons (k' := 35) rfl (zk_goto X dX12_setOf_34 (by decide)) ?_
  refine zz_cons (k' := 36) rfl (zz_Ok_none _ _) ?_
  refine zz_cons (k' := 37) rfl (zz_Ok_none _ _) ?_
  refine zz_cons (k' := 38) rfl (zk_iconst X dX12_setOf_37 (by decide) rfl) ?_
  refine zz_cons (k' := 39) rfl (zk_istore X dX12_setOf_38 (by decide) rfl) ?_
  refine zz_cons (k' := 40) rfl (zz_Ok_none _ _) ?_
  refine zz_cons (k' := 41) rfl (zk_iload X dX12_setOf_40 rfl) ?_
  refine zz_cons (k' := 42) rfl (zz_Ok_none _ _) ?_
  refine zz_cons (k' := 43) rfl (zk_if_eq X dX12_setOf_42 (by decide) rfl) ?_
  refine zz_cons (k' := 44) rfl (zz_Ok_none _ _) ?_
  refine zz_cons (k' := 45) rfl (zz_Ok_none _ _) ?_
  refine zz_cons (k' := 46) rfl (zk_iload_n X dX12_setOf_45 rfl rfl) ?_
  refine zz_cons (k' := 47) rfl (zk_iconst X dX12_setOf_46 (by decide) rfl) ?_
  refine zz_cons (k' := 48) rfl (zk_icmp_ne X dX12_setOf_47 (by decide) rfl) ?_
  refine zz_cons (k' := 49) rfl (zz_Ok_none _ _) ?_
  refine zz_cons (k' := 50) rfl (zz_Ok_none _ _) ?_
  refine zz_cons (k' := 51) rfl (zk_aload_n X dX12_setOf_50 rfl rfl) ?_
  refine zz_cons (k' := 52) rfl (zk_iload X dX12_setOf_51 rfl) ?_
  refine zz_cons (k' := 53) rfl (zz_Ok_none _ _) ?_
  refine zz_cons (k' := 54) rfl (zk_iconst X dX12_setOf_53 (by decide) rfl) ?_
  refine zz_cons (k' := 55) rfl (zk_callv X (zz_Cv_of (List.forall_mem_cons.mpr ⟨⟨(RX_10, zzT10, 50), yX12_viewed, cX12_viewed, 3, (some .int), 1, 23, rfl, kv_X12_204_10.1, (mm_X12_viewed Wd).1, by decide, by decide⟩, (fun _ h => absurd h List.not_mem_nil)⟩)) dX12_setOf_54 rfl) ?_
  refine zz_cons (k' := 56) rfl (zz_Ok_none _ _) ?_
  refine zz_cons (k' := 57) rfl (zz_Ok_none _ _) ?_
  refine zz_cons (k' := 58) rfl (zk_if_le X dX12_setOf_57 (by decide) rfl) ?_
  refine zz_cons (k' := 59) rfl (zz_Ok_none _ _) ?_
  refine zz_cons (k' := 60) rfl (zz_Ok_none _ _) ?_
  refine zz_cons (k' := 61) rfl (zk_goto X dX12_setOf_60 (by decide)) ?_
  refine zz_cons (k' := 62) rfl (zz_Ok_none _ _) ?_
  refine zz_cons (k' := 63) rfl (zz_Ok_none _ _) ?_
  refine zz_cons (k' := 64) rfl (zk_aload_n X dX12_setOf_63 rfl rfl) ?_
  refine zz_cons (k' := 65) rfl (zk_iload X dX12_setOf_64 rfl) ?_
  refine zz_cons (k' := 66) rfl (zz_Ok_none _ _) ?_
  refine zz_cons (k' := 67) rfl (zk_iconst X dX12_setOf_66 (by decide) rfl) ?_
  refine zz_cons (k' := 68) rfl (zk_callv X (zz_Cv_of (List.forall_mem_cons.mpr ⟨⟨(RX_10, zzT10, 50), yX12_viewed, cX12_viewed, 3, (some .int), 1, 23, rfl, kv_X12_204_10.1, (mm_X12_viewed Wd).1, by decide, by decide⟩, (fun _ h => absurd h List.not_mem_nil)⟩)) dX12_setOf_67 rfl) ?_
  refine zz_cons (k' := 69) rfl (zz_Ok_none _ _) ?_
  refine zz_cons (k' := 70) rfl (zz_Ok_none _ _) ?_
  refine zz_cons (k' := 71) rfl (zk_iload_n X dX12_setOf_70 rfl rfl) ?_
  refine zz_cons (k' := 72) rfl (zk_icmp_ne X dX12_setOf_71 (by decide) rfl) ?_
  refine zz_cons (k' := 73) rfl (zz_Ok_none _ _) ?_
  refine zz_cons (k' := 74) rfl (zz_Ok_none _ _) ?_
  refine zz_cons (k' := 75) rfl (zk_iconst X dX12_setOf_74 (by decide) rfl) ?_
  refine zz_cons (k' := 76) rfl (zk_goto X dX12_setOf_75 (by decide)) ?_
  refine zz_cons (k' := 77) rfl (zz_Ok_none _ _) ?_
  refine zz_cons (k' := 78) rfl (zz_Ok_none _ _) ?_
  refine zz_cons (k' := 79) rfl (zk_iconst X dX12_setOf_78 (by decide) rfl) ?_
  refine zz_cons (k' := 80) rfl (zk_istore X dX12_setOf_79 (by decide) rfl) ?_
  refine zz_cons (k' := 81) rfl (zz_Ok_none _ _) ?_
  refine zz_cons (k' := 82) rfl (zk_iload X dX12_setOf_81 rfl) ?_
  refine zz_cons (k' := 83) rfl (zz_Ok_none _ _) ?_
  refine zz_cons (k' := 84) rfl (zk_if_eq X dX12_setOf_83 (by decide) rfl) ?_
  refine zz_cons (k' := 85) rfl (zz_Ok_none _ _) ?_
  refine zz_cons (k' := 86) rfl (zz_Ok_none _ _) ?_
  refine zz_cons (k' := 87) rfl (zk_iload X dX12_setOf_86 rfl) ?_
  refine zz_cons (k' := 88) rfl (zz_Ok_none _ _) ?_
  refine zz_cons (k' := 89) rfl (zk_goto X dX12_setOf_88 (by decide)) ?_
  refine zz_cons (k' := 90) rfl (zz_Ok_none _ _) ?_
  refine zz_cons (k' := 91) rfl (zz_Ok_none _ _) ?_
  refine zz_cons (k' := 92) rfl (zk_iload X dX12_setOf_91 rfl) ?_
  refine zz_cons (k' := 93) rfl (zz_Ok_none _ _) ?_
  refine zz_cons (k' := 94) rfl (zk_istore X dX12_setOf_93 (by decide) rfl) ?_
  refine zz_cons (k' := 95) rfl (zz_Ok_none _ _) ?_
  refine zz_cons (k' := 96) rfl (zk_iinc X dX12_setOf_95 (by decide) (by decide) rfl) ?_
  refine zz_cons (k' := 97) rfl (zz_Ok_none _ _) ?_
  refine zz_cons (k' := 98) rfl (zz_Ok_none _ _) ?_
  refine zz_cons (k' := 99) rfl (zk_goto X dX12_setOf_98 (by decide)) ?_
  refine zz_cons (k' := 100) rfl (zz_Ok_none _ _) ?_
  refine zz_cons (k' := 101) rfl (zz_Ok_none _ _) ?_
  refine zz_cons (k' := 102) rfl (zk_iload X dX12_setOf_101 rfl) ?_
  refine zz_cons (k' := 103) rfl (zz_Ok_none _ _) ?_
  refine zz_cons (k' := 104) rfl (zk_iret X rfl dX12_setOf_103) ?_
  exact trivial
noncomputable def tX12_together : List zzOp := [
  zo_pushI 0 1,
  zo_istore 3 2,
  zo_pushI 0 3,
  zo_istore 4 5,
  zo_none,
  zo_iload 4 7,
  zo_none,
  zo_aload 0 8,
  zo_getf zzSR (zz_kf [10] 5) 11,
  zo_none,
  zo_none,
  zo_icmp (fun x y => decide (y ≤ x)) 55 14,
  zo_none,
  zo_none,
  zo_aload 0 15,
  zo_iload 4 17,
  zo_none,
  zo_pushI 1 18,
  zo_iload 1 19,
  zo_callv zzSR (zz_cl [(10, fX12_isOwned)]) 3 22,
  zo_none,
  zo_none,
  zo_if (fun x => decide (x = 0)) 49 25,
  zo_none,
  zo_none,
  zo_iload 3 26,
  zo_iload 2 27,
  zo_if (fun x => decide (x = 0)) 40 30,
  zo_none,
  zo_none,
  zo_aload 0 31,
  zo_iload 4 33,
  zo_none,
  zo_pushI 2 34,
  zo_callv zzSR (zz_cl [(10, fX12_pods)]) 2 37,
  zo_none,
  zo_none,
  zo_goto 47,
  zo_none,
  zo_none,
  zo_aload 0 41,
  zo_iload 4 43,
  zo_none,
  zo_pushI 0 44,
  zo_callv zzSR (zz_cl [(10, fX12_viewed)]) 2 47,
  zo_none,
  zo_none,
  zo_ii (fun x y => x + y) 48,
  zo_istore 3 49,
  zo_iinc 4 1 52,
  zo_none,
  zo_none,
  zo_goto 5,
  zo_none,
  zo_none,
  zo_iload 3 56,
  zo_iret false]
set_option maxRecDepth 100000 in
theorem tl_X12_together : ∀ pc, zz_Tl (tX12_together.getD pc zo_none) := by
  refine zz_Tl_mem ?_
  unfold tX12_together
  refine List.forall_mem_cons.mpr ⟨(zo_pushI_tl _ _), ?_⟩
  refine List.forall_mem_cons.mpr ⟨(zo_istore_tl _ _), ?_⟩
  refine List.forall_mem_cons.mpr ⟨(zo_pushI_tl _ _), ?_⟩
  refine List.forall_mem_cons.mpr ⟨(zo_istore_tl _ _), ?_⟩
  refine List.forall_mem_cons.mpr ⟨zo_none_tl, ?_⟩
  refine List.forall_mem_cons.mpr ⟨(zo_iload_tl _ _), ?_⟩
  refine List.forall_mem_cons.mpr ⟨zo_none_tl, ?_⟩
  refine List.forall_mem_cons.mpr ⟨(zo_aload_tl _ _), ?_⟩
  refine List.forall_mem_cons.mpr ⟨(zo_getf_tl _ _ _), ?_⟩
  refine List.forall_mem_cons.mpr ⟨zo_none_tl, ?_⟩
  refine List.forall_mem_cons.mpr ⟨zo_none_tl, ?_⟩
  refine List.forall_mem_cons.mpr ⟨(zo_icmp_tl _ _ _), ?_⟩
  refine List.forall_mem_cons.mpr ⟨zo_none_tl, ?_⟩
  refine List.forall_mem_cons.mpr ⟨zo_none_tl, ?_⟩
  refine List.forall_mem_cons.mpr ⟨(zo_aload_tl _ _), ?_⟩
  refine List.forall_mem_cons.mpr ⟨(zo_iload_tl _ _), ?_⟩
  refine List.forall_mem_cons.mpr ⟨zo_none_tl, ?_⟩
  refine List.forall_mem_cons.mpr ⟨(zo_pushI_tl _ _), ?_⟩
  refine List.forall_mem_cons.mpr ⟨(zo_iload_tl _ _), ?_⟩
  refine List.forall_mem_cons.mpr ⟨(zo_callv_tl _ _ _ _), ?_⟩
  refine List.forall_mem_cons.mpr ⟨zo_none_tl, ?_⟩
  refine List.forall_mem_cons.mpr ⟨zo_none_tl, ?_⟩
  refine List.forall_mem_cons.mpr ⟨(zo_if_tl _ _ _), ?_⟩
  refine List.forall_mem_cons.mpr ⟨zo_none_tl, ?_⟩
  refine List.forall_mem_cons.mpr ⟨zo_none_tl, ?_⟩
  refine List.forall_mem_cons.mpr ⟨(zo_iload_tl _ _), ?_⟩
  refine List.forall_mem_cons.mpr ⟨(zo_iload_tl _ _), ?_⟩
  refine List.forall_mem_cons.mpr ⟨(zo_if_tl _ _ _), ?_⟩
  refine List.forall_mem_cons.mpr ⟨zo_none_tl, ?_⟩
  refine List.forall_mem_cons.mpr ⟨zo_none_tl, ?_⟩
  refine List.forall_mem_cons.mpr ⟨(zo_aload_tl _ _), ?_⟩
  refine List.forall_mem_cons.mpr ⟨(zo_iload_tl _ _), ?_⟩
  refine List.forall_mem_cons.mpr ⟨zo_none_tl, ?_⟩
  refine List.forall_mem_cons.mpr ⟨(zo_pushI_tl _ _), ?_⟩
  refine List.forall_mem_cons.mpr ⟨(zo_callv_tl _ _ _ _), ?_⟩
  refine List.forall_mem_cons.mpr ⟨zo_none_tl, ?_⟩
  refine List.forall_mem_cons.mpr ⟨zo_none_tl, ?_⟩
  refine List.forall_mem_cons.mpr ⟨(zo_goto_tl _), ?_⟩
  refine List.forall_mem_cons.mpr ⟨zo_none_tl, ?_⟩
  refine List.forall_mem_cons.mpr ⟨zo_none_tl, ?_⟩
  refine List.forall_mem_cons.mpr ⟨(zo_aload_tl _ _), ?_⟩
  refine List.forall_mem_cons.mpr ⟨(zo_iload_tl _ _), ?_⟩
  refine List.forall_mem_cons.mpr ⟨zo_none_tl, ?_⟩
  refine List.forall_mem_cons.mpr ⟨(zo_pushI_tl _ _), ?_⟩
  refine List.forall_mem_cons.mpr ⟨(zo_callv_tl _ _ _ _), ?_⟩
  refine List.forall_mem_cons.mpr ⟨zo_none_tl, ?_⟩
  refine List.forall_mem_cons.mpr ⟨zo_none_tl, ?_⟩
  refine List.forall_mem_cons.mpr ⟨(zo_ii_tl _ _), ?_⟩
  refine List.forall_mem_cons.mpr ⟨(zo_istore_tl _ _), ?_⟩
  refine List.forall_mem_cons.mpr ⟨(zo_iinc_tl _ _ _), ?_⟩
  refine List.forall_mem_cons.mpr ⟨zo_none_tl, ?_⟩
  refine List.forall_mem_cons.mpr ⟨zo_none_tl, ?_⟩
  refine List.forall_mem_cons.mpr ⟨(zo_goto_tl _), ?_⟩
  refine List.forall_mem_cons.mpr ⟨zo_none_tl, ?_⟩
  refine List.forall_mem_cons.mpr ⟨zo_none_tl, ?_⟩
  refine List.forall_mem_cons.mpr ⟨(zo_iload_tl _ _), ?_⟩
  refine List.forall_mem_cons.mpr ⟨(zo_iret_tl _), ?_⟩
  exact fun _ h => absurd h List.not_mem_nil
noncomputable def fX12_together : zzFn := zz_fn tX12_together 5
set_option maxRecDepth 100000 in
set_option maxHeartbeats 4000000 in
theorem mm_X12_together {l : Launch} {D : va_G} {cA : Nat → ClassId} {ad : Nat → Nat} {Ex : (Nat → Prop) → State → Heap → Prop} (Wd : zzWR l D cA ad Ex) : zz_Cn l D zzCl cA ad zzSR Ex yX12_together cX12_together 5 (some .int) 5 114 fX12_together ∧ zz_Cx l D zzCl cA ad zzSR Ex yX12_together cX12_together 5 (some .int) 5 114 fX12_together := by
  refine zz_meth (plainFor_of_name (by decide)) Wd.1 Wd.2.1 Wd.2.2 (fun p e R s m args below meth c rr X => ?_)
  unfold tX12_together
  refine zz_cons (k' := 1) rfl (zk_iconst X dX12_together_0 (by decide) rfl) ?_
  refine zz_cons (k' := 2) rfl (zk_istore_n X dX12_together_1 rfl (by decide) rfl) ?_
  refine zz_cons (k' := 3) rfl (zk_iconst X dX12_together_2 (by decide) rfl) ?_
  refine zz_cons (k' := 4) rfl (zk_istore X dX12_together_3 (by decide) rfl) ?_
  refine zz_cons (k' := 5) rfl (zz_Ok_none _ _) ?_
  refine zz_cons (k' := 6) rfl (zk_iload X dX12_together_5 rfl) ?_
  refine zz_cons (k' := 7) rfl (zz_Ok_none _ _) ?_
  refine zz_cons (k' := 8) rfl (zk_aload_n X dX12_together_7 rfl rfl) ?_
  refine zz_cons (k' := 9) rfl (zk_getf X ff_X12_137 dX12_together_8 rfl) ?_
  refine zz_cons (k' := 10) rfl (zz_Ok_none _ _) ?_
  refine zz_cons (k' := 11) rfl (zz_Ok_none _ _) ?_
  refine zz_cons (k' := 12) rfl (zk_icmp_ge X dX12_together_11 (by decide) rfl) ?_
  refine zz_cons (k' := 13) rfl (zz_Ok_none _ _) ?_
  refine zz_cons (k' := 14) rfl (zz_Ok_none _ _) ?_
  refine zz_cons (k' := 15) rfl (zk_aload_n X dX12_together_14 rfl rfl) ?_
  refine zz_cons (k' := 16) rfl (zk_iload X dX12_together_15 rfl) ?_
  refine zz_cons (k' := 17) rfl (zz_Ok_none _ _) ?_
  refine zz_cons (k' := 18) rfl (zk_iconst X dX12_together_17 (by decide) rfl) ?_
  refine zz_cons (k' := 19) rfl (zk_iload_n X dX12_together_18 rfl rfl) ?_
  refine zz_cons (k' := 20) rfl (zk_callv X (zz_Cv_of (List.forall_mem_cons.mpr ⟨⟨(RX_10, zzT10, 50), yX12_isOwned, cX12_isOwned, 4, (some .boolean), 3, 67, rfl, kv_X12_273_10.1, (mm_X12_isOwned Wd).1, by decide, by decide⟩, (fun _ h => absurd h List.not_mem_nil)⟩)) dX12_together_19 rfl) ?_
  refine zz_cons (k' := 21) rfl (zz_Ok_none _ _) ?_
  refine zz_cons (k' := 22) rfl (zz_Ok_none _ _) ?_
  refine zz_cons (k' := 23) rfl (zk_if_eq X dX12_together_22 (by decide) rfl) ?_
  refine zz_cons (k' := 24) rfl (zz_Ok_none _ _) ?_
  refine zz_cons (k' := 25) rfl (zz_Ok_none _ _) ?_
  refine zz_cons (k' := 26) rfl (zk_iload_n X dX12_together_25 rfl rfl) ?_
  refine zz_cons (k' := 27) rfl (zk_iload_n X dX12_together_26 rfl rfl) ?_
  refine zz_cons (k' := 28) rfl (zk_if_eq X dX12_together_27 (by decide) rfl) ?_
  refine zz_cons (k' := 29) rfl (zz_Ok_none _ _) ?_
  refine zz_cons (k' := 30) rfl (zz_Ok_none _ _) ?_
  refine zz_cons (k' := 31) rfl (zk_aload_n X dX12_together_30 rfl rfl) ?_
  refine zz_cons (k' := 32) rfl (zk_iload X dX12_together_31 rfl) ?_
  refine zz_cons (k' := 33) rfl (zz_Ok_none _ _) ?_
  refine zz_cons (k' := 34) rfl (zk_iconst X dX12_together_33 (by decide) rfl) ?_
  refine zz_cons (k' := 35) rfl (zk_callv X (zz_Cv_of (List.forall_mem_cons.mpr ⟨⟨(RX_10, zzT10, 50), yX12_pods, cX12_pods, 5, (some .int), 4, 90, rfl, kv_X12_279_10.1, (mm_X12_pods Wd).1, by decide, by decide⟩, (fun _ h => absurd h List.not_mem_nil)⟩)) dX12_together_34 rfl) ?_
  refine zz_cons (k' := 36) rfl (zz_Ok_none _ _) ?_
  refine zz_cons (k' := 37) rfl (zz_Ok_none _ _) ?_
  refine zz_cons (k' := 38) rfl (zk_goto X dX12_together_37 (by decide)) ?_
  refine zz_cons (k' := 39) rfl (zz_Ok_none _ _) ?_
  refine zz_cons (k' := 40) rfl (zz_Ok_none _ _) ?_
  refine zz_cons (k' := 41) rfl (zk_aload_n X dX12_together_40 rfl rfl) ?_
  refine zz_cons (k' := 42) rfl (zk_iload X dX12_together_41 rfl) ?_
  refine zz_cons (k' := 43) rfl (zz_Ok_none _ _) ?_
  refine zz_cons (k' := 44) rfl (zk_iconst X dX12_together_43 (by decide) rfl) ?_
  refine zz_cons (k' := 45) rfl (zk_callv X (zz_Cv_of (List.forall_mem_cons.mpr ⟨⟨(RX_10, zzT10, 50), yX12_viewed, cX12_viewed, 3, (some .int), 1, 23, rfl, kv_X12_204_10.1, (mm_X12_viewed Wd).1, by decide, by decide⟩, (fun _ h => absurd h List.not_mem_nil)⟩)) dX12_together_44 rfl) ?_
  refine zz_cons (k' := 46) rfl (zz_Ok_none _ _) ?_
  refine zz_cons (k' := 47) rfl (zz_Ok_none _ _) ?_
  refine zz_cons (k' := 48) rfl (zk_iadd X dX12_together_47 rfl) ?_
  refine zz_cons (k' := 49) rfl (zk_istore_n X dX12_together_48 rfl (by decide) rfl) ?_
  refine zz_cons (k' := 50) rfl (zk_iinc X dX12_together_49 (by decide) (by decide) rfl) ?_
  refine zz_cons (k' := 51) rfl (zz_Ok_none _ _) ?_
  refine zz_cons (k' := 52) rfl (zz_Ok_none _ _) ?_
  refine zz_cons (k' := 53) rfl (zk_goto X dX12_together_52 (by decide)) ?_
  refine zz_cons (k' := 54) rfl (zz_Ok_none _ _) ?_
  refine zz_cons (k' := 55) rfl (zz_Ok_none _ _) ?_
  refine zz_cons (k' := 56) rfl (zk_iload_n X dX12_together_55 rfl rfl) ?_
  refine zz_cons (k' := 57) rfl (zk_iret X rfl dX12_together_56) ?_
  exact trivial
noncomputable def tX12_lessens : List zzOp := [
  zo_aload 0 1,
  zo_iload 1 2,
  zo_pushI 0 3,
  zo_callv zzSR (zz_cl [(10, fX12_viewed)]) 2 6,
  zo_none,
  zo_none,
  zo_istore 3 7,
  zo_aload 0 8,
  zo_iload 1 9,
  zo_pushI 2 10,
  zo_callv zzSR (zz_cl [(10, fX12_pods)]) 2 13,
  zo_none,
  zo_none,
  zo_istore 4 15,
  zo_none,
  zo_iload 3 16,
  zo_iload 4 18,
  zo_none,
  zo_icmp (fun x y => decide (x ≤ y)) 29 21,
  zo_none,
  zo_none,
  zo_aload 0 22,
  zo_iload 1 23,
  zo_iload 4 25,
  zo_none,
  zo_callv zzSR (zz_cl [(10, fX12_wants)]) 2 28,
  zo_none,
  zo_none,
  zo_iret true,
  zo_iload 2 30,
  zo_if (fun x => decide (x ≤ 0)) 53 33,
  zo_none,
  zo_none,
  zo_aload 0 34,
  zo_iload 1 35,
  zo_iload 2 36,
  zo_iload 3 37,
  zo_icmp (fun x y => decide (y ≤ x)) 46 40,
  zo_none,
  zo_none,
  zo_iload 3 41,
  zo_iload 2 42,
  zo_ii (fun x y => x - y) 43,
  zo_goto 47,
  zo_none,
  zo_none,
  zo_pushI 0 47,
  zo_callv zzSR (zz_cl [(10, fX12_wants)]) 2 50,
  zo_none,
  zo_none,
  zo_if (fun x => decide (x = 0)) 57 53,
  zo_none,
  zo_none,
  zo_pushI 1 54,
  zo_goto 58,
  zo_none,
  zo_none,
  zo_pushI 0 58,
  zo_iret true]
set_option maxRecDepth 100000 in
theorem tl_X12_lessens : ∀ pc, zz_Tl (tX12_lessens.getD pc zo_none) := by
  refine zz_Tl_mem ?_
  unfold tX12_lessens
  refine List.forall_mem_cons.mpr ⟨(zo_aload_tl _ _), ?_⟩
  refine List.forall_mem_cons.mpr ⟨(zo_iload_tl _ _), ?_⟩
  refine List.forall_mem_cons.mpr ⟨(zo_pushI_tl _ _), ?_⟩
  refine List.forall_mem_cons.mpr ⟨(zo_callv_tl _ _ _ _), ?_⟩
  refine List.forall_mem_cons.mpr ⟨zo_none_tl, ?_⟩
  refine List.forall_mem_cons.mpr ⟨zo_none_tl, ?_⟩
  refine List.forall_mem_cons.mpr ⟨(zo_istore_tl _ _), ?_⟩
  refine List.forall_mem_cons.mpr ⟨(zo_aload_tl _ _), ?_⟩
  refine List.forall_mem_cons.mpr ⟨(zo_iload_tl _ _), ?_⟩
  refine List.forall_mem_cons.mpr ⟨(zo_pushI_tl _ _), ?_⟩
  refine List.forall_mem_cons.mpr ⟨(zo_callv_tl _ _ _ _), ?_⟩
  refine List.forall_mem_cons.mpr ⟨zo_none_tl, ?_⟩
  refine List.forall_mem_cons.mpr ⟨zo_none_tl, ?_⟩
  refine List.forall_mem_cons.mpr ⟨(zo_istore_tl _ _), ?_⟩
  refine List.forall_mem_cons.mpr ⟨zo_none_tl, ?_⟩
  refine List.forall_mem_cons.mpr ⟨(zo_iload_tl _ _), ?_⟩
  refine List.forall_mem_cons.mpr ⟨(zo_iload_tl _ _), ?_⟩
  refine List.forall_mem_cons.mpr ⟨zo_none_tl, ?_⟩
  refine List.forall_mem_cons.mpr ⟨(zo_icmp_tl _ _ _), ?_⟩
  refine List.forall_mem_cons.mpr ⟨zo_none_tl, ?_⟩
  refine List.forall_mem_cons.mpr ⟨zo_none_tl, ?_⟩
  refine List.forall_mem_cons.mpr ⟨(zo_aload_tl _ _), ?_⟩
  refine List.forall_mem_cons.mpr ⟨(zo_iload_tl _ _), ?_⟩
  refine List.forall_mem_cons.mpr ⟨(zo_iload_tl _ _), ?_⟩
  refine List.forall_mem_cons.mpr ⟨zo_none_tl, ?_⟩
  refine List.forall_mem_cons.mpr ⟨(zo_callv_tl _ _ _ _), ?_⟩
  refine List.forall_mem_cons.mpr ⟨zo_none_tl, ?_⟩
  refine List.forall_mem_cons.mpr ⟨zo_none_tl, ?_⟩
  refine List.forall_mem_cons.mpr ⟨(zo_iret_tl _), ?_⟩
  refine List.forall_mem_cons.mpr ⟨(zo_iload_tl _ _), ?_⟩
  refine List.forall_mem_cons.mpr ⟨(zo_if_tl _ _ _), ?_⟩
  refine List.forall_mem_cons.mpr ⟨zo_none_tl, ?_⟩
  refine List.forall_mem_cons.mpr ⟨zo_none_tl, ?_⟩
  refine List.forall_mem_cons.mpr ⟨(zo_aload_tl _ _), ?_⟩
  refine List.forall_mem_cons.mpr ⟨(zo_iload_tl _ _), ?_⟩
  refine List.forall_mem_cons.mpr ⟨(zo_iload_tl _ _), ?_⟩
  refine List.forall_mem_cons.mpr ⟨(zo_iload_tl _ _), ?_⟩
  refine List.forall_mem_cons.mpr ⟨(zo_icmp_tl _ _ _), ?_⟩
  refine List.forall_mem_cons.mpr ⟨zo_none_tl, ?_⟩
  refine List.forall_mem_cons.mpr ⟨zo_none_tl, ?_⟩
  refine List.forall_mem_cons.mpr ⟨(zo_iload_tl _ _), ?_⟩
  refine List.forall_mem_cons.mpr ⟨(zo_iload_tl _ _), ?_⟩
  refine List.forall_mem_cons.mpr ⟨(zo_ii_tl _ _), ?_⟩
  refine List.forall_mem_cons.mpr ⟨(zo_goto_tl _), ?_⟩
  refine List.forall_mem_cons.mpr ⟨zo_none_tl, ?_⟩
  refine List.forall_mem_cons.mpr ⟨zo_none_tl, ?_⟩
  refine List.forall_mem_cons.mpr ⟨(zo_pushI_tl _ _), ?_⟩
  refine List.forall_mem_cons.mpr ⟨(zo_callv_tl _ _ _ _), ?_⟩
  refine List.forall_mem_cons.mpr ⟨zo_none_tl, ?_⟩
  refine List.forall_mem_cons.mpr ⟨zo_none_tl, ?_⟩
  refine List.forall_mem_cons.mpr ⟨(zo_if_tl _ _ _), ?_⟩
  refine List.forall_mem_cons.mpr ⟨zo_none_tl, ?_⟩
  refine List.forall_mem_cons.mpr ⟨zo_none_tl, ?_⟩
  refine List.forall_mem_cons.mpr ⟨(zo_pushI_tl _ _), ?_⟩
  refine List.forall_mem_cons.mpr ⟨(zo_goto_tl _), ?_⟩
  refine List.forall_mem_cons.mpr ⟨zo_none_tl, ?_⟩
  refine List.forall_mem_cons.mpr ⟨zo_none_tl, ?_⟩
  refine List.forall_mem_cons.mpr ⟨(zo_pushI_tl _ _), ?_⟩
  refine List.forall_mem_cons.mpr ⟨(zo_iret_tl _), ?_⟩
  exact fun _ h => absurd h List.not_mem_nil
noncomputable def fX12_lessens : zzFn := zz_fn tX12_lessens 5
set_option maxRecDepth 100000 in
set_option maxHeartbeats 4000000 in
theorem mm_X12_lessens {l : Launch} {D : va_G} {cA : Nat → ClassId} {ad : Nat → Nat} {Ex : (Nat → Prop) → State → Heap → Prop} (Wd : zzWR l D cA ad Ex) : zz_Cn l D zzCl cA ad zzSR Ex yX12_lessens cX12_lessens 5 (some .boolean) 5 114 fX12_lessens ∧ zz_Cx l D zzCl cA ad zzSR Ex yX12_lessens cX12_lessens 5 (some .boolean) 5 114 fX12_lessens := by
  refine zz_meth (plainFor_of_name (by decide)) Wd.1 Wd.2.1 Wd.2.2 (fun p e R s m args below meth c rr X => ?_)
  unfold tX12_lessens
  refine zz_cons (k' := 1) rfl (zk_aload_n X dX12_lessens_0 rfl rfl) ?_
  refine zz_cons (k' := 2) rfl (zk_iload_n X dX12_lessens_1 rfl rfl) ?_
  refine zz_cons (k' := 3) rfl (zk_iconst X dX12_lessens_2 (by decide) rfl) ?_
  refine zz_cons (k' := 4) rfl (zk_callv X (zz_Cv_of (List.forall_mem_cons.mpr ⟨⟨(RX_10, zzT10, 50), yX12_viewed, cX12_viewed, 3, (some .int), 1, 23, rfl, kv_X12_204_10.1, (mm_X12_viewed Wd).1, by decide, by decide⟩, (fun _ h => absurd h List.not_mem_nil)⟩)) dX12_lessens_3 rfl) ?_
  refine zz_cons (k' := 5) rfl (zz_Ok_none _ _) ?_
  refine zz_cons (k' := 6) rfl (zz_Ok_none _ _) ?_
  refine zz_cons (k' := 7) rfl (zk_istore_n X dX12_lessens_6 rfl (by decide) rfl) ?_
  refine zz_cons (k' := 8) rfl (zk_aload_n X dX12_lessens_7 rfl rfl) ?_
  refine zz_cons (k' := 9) rfl (zk_iload_n X dX12_lessens_8 rfl rfl) ?_
  refine zz_cons (k' := 10) rfl (zk_iconst X dX12_lessens_9 (by decide) rfl) ?_
  refine zz_cons (k' := 11) rfl (zk_callv X (zz_Cv_of (List.forall_mem_cons.mpr ⟨⟨(RX_10, zzT10, 50), yX12_pods, cX12_pods, 5, (some .int), 4, 90, rfl, kv_X12_279_10.1, (mm_X12_pods Wd).1, by decide, by decide⟩, (fun _ h => absurd h List.not_mem_nil)⟩)) dX12_lessens_10 rfl) ?_
  refine zz_cons (k' := 12) rfl (zz_Ok_none _ _) ?_
  refine zz_cons (k' := 13) rfl (zz_Ok_none _ _) ?_
  refine zz_cons (k' := 14) rfl (zk_istore X dX12_lessens_13 (by decide) rfl) ?_
  refine zz_cons (k' := 15) rfl (zz_Ok_none _ _) ?_
  refine zz_cons (k' := 16) rfl (zk_iload_n X dX12_lessens_15 rfl rfl) ?_
  refine zz_cons (k' := 17) rfl (zk_iload X dX12_lessens_16 rfl) ?_
  refine zz_cons (k' := 18) rfl (zz_Ok_none _ _) ?_
  refine zz_cons (k' := 19) rfl (zk_icmp_le X dX12_lessens_18 (by decide) rfl) ?_
  refine zz_cons (k' := 20) rfl (zz_Ok_none _ _) ?_
  refine zz_cons (k' := 21) rfl (zz_Ok_none _ _) ?_
  refine zz_cons (k' := 22) rfl (zk_aload_n X dX12_lessens_21 rfl rfl) ?_
  refine zz_cons (k' := 23) rfl (zk_iload_n X dX12_lessens_22 rfl rfl) ?_
  refine zz_cons (k' := 24) rfl (zk_iload X dX12_lessens_23 rfl) ?_
  refine zz_cons (k' := 25) rfl (zz_Ok_none _ _) ?_
  refine zz_cons (k' := 26) rfl (zk_callv X (zz_Cv_of (List.forall_mem_cons.mpr ⟨⟨(RX_10, zzT10, 50), yX12_wants, cX12_wants, 5, (some .boolean), 3, 84, rfl, kv_X12_289_10.1, (mm_X12_wants Wd).1, by decide, by decide⟩, (fun _ h => absurd h List.not_mem_nil)⟩)) dX12_lessens_25 rfl) ?_
  refine zz_cons (k' := 27) rfl (zz_Ok_none _ _) ?_
  refine zz_cons (k' := 28) rfl (zz_Ok_none _ _) ?_
  refine zz_cons (k' := 29) rfl (zk_iret X rfl dX12_lessens_28) ?_
  refine zz_cons (k' := 30) rfl (zk_iload_n X dX12_lessens_29 rfl rfl) ?_
  refine zz_cons (k' := 31) rfl (zk_if_le X dX12_lessens_30 (by decide) rfl) ?_
  refine zz_cons (k' := 32) rfl (zz_Ok_none _ _) ?_
  refine zz_cons (k' := 33) rfl (zz_Ok_none _ _) ?_
  refine zz_cons (k' := 34) rfl (zk_aload_n X dX12_lessens_33 rfl rfl) ?_
  refine zz_cons (k' := 35) rfl (zk_iload_n X dX12_lessens_34 rfl rfl) ?_
  refine zz_cons (k' := 36) rfl (zk_iload_n X dX12_lessens_35 rfl rfl) ?_
  refine zz_cons (k' := 37) rfl (zk_iload_n X dX12_lessens_36 rfl rfl) ?_
  refine zz_cons (k' := 38) rfl (zk_icmp_ge X dX12_lessens_37 (by decide) rfl) ?_
  refine zz_cons (k' := 39) rfl (zz_Ok_none _ _) ?_
  refine zz_cons (k' := 40) rfl (zz_Ok_none _ _) ?_
  refine zz_cons (k' := 41) rfl (zk_iload_n X dX12_lessens_40 rfl rfl) ?_
  refine zz_cons (k' := 42) rfl (zk_iload_n X dX12_lessens_41 rfl rfl) ?_
  refine zz_cons (k' := 43) rfl (zk_isub X dX12_lessens_42 rfl) ?_
  refine zz_cons (k' := 44) rfl (zk_goto X dX12_lessens_43 (by decide)) ?_
  refine zz_cons (k' := 45) rfl (zz_Ok_none _ _) ?_
  refine zz_cons (k' := 46) rfl (zz_Ok_none _ _) ?_
  refine zz_cons (k' := 47) rfl (zk_iconst X dX12_lessens_46 (by decide) rfl) ?_
  refine zz_cons (k' := 48) rfl (zk_callv X (zz_Cv_of (List.forall_mem_cons.mpr ⟨⟨(RX_10, zzT10, 50), yX12_wants, cX12_wants, 5, (some .boolean), 3, 84, rfl, kv_X12_289_10.1, (mm_X12_wants Wd).1, by decide, by decide⟩, (fun _ h => absurd h List.not_mem_nil)⟩)) dX12_lessens_47 rfl) ?_
  refine zz_cons (k' := 49) rfl (zz_Ok_none _ _) ?_
  refine zz_cons (k' := 50) rfl (zz_Ok_none _ _) ?_
  refine zz_cons (k' := 51) rfl (zk_if_eq X dX12_lessens_50 (by decide) rfl) ?_
  refine zz_cons (k' := 52) rfl (zz_Ok_none _ _) ?_
  refine zz_cons (k' := 53) rfl (zz_Ok_none _ _) ?_
  refine zz_cons (k' := 54) rfl (zk_iconst X dX12_lessens_53 (by decide) rfl) ?_
  refine zz_cons (k' := 55) rfl (zk_goto X dX12_lessens_54 (by decide)) ?_
  refine zz_cons (k' := 56) rfl (zz_Ok_none _ _) ?_
  refine zz_cons (k' := 57) rfl (zz_Ok_none _ _) ?_
  refine zz_cons (k' := 58) rfl (zk_iconst X dX12_lessens_57 (by decide) rfl) ?_
  refine zz_cons (k' := 59) rfl (zk_iret X rfl dX12_lessens_58) ?_
  exact trivial
noncomputable def tX12_deploys : List zzOp := [
  zo_aload 0 1,
  zo_aload 0 2,
  zo_getf zzSR (zz_kf [10] 43) 5,
  zo_none,
  zo_none,
  zo_pushI 0 6,
  zo_callv zzSR (zz_cl [(10, fX12_stays)]) 2 9,
  zo_none,
  zo_none,
  zo_if (fun x => decide (x = 0)) 25 12,
  zo_none,
  zo_none,
  zo_aload 0 13,
  zo_aload 0 14,
  zo_getf zzSR (zz_kf [10] 43) 17,
  zo_none,
  zo_none,
  zo_pushI 4 18,
  zo_callv zzSR (zz_cl [(10, fX12_viewed)]) 2 21,
  zo_none,
  zo_none,
  zo_pushI 1 22,
  zo_icmp (fun x y => decide (¬ x = y)) 27 25,
  zo_none,
  zo_none,
  zo_pushI 1 26,
  zo_iret true,
  zo_aload 0 28,
  zo_aload 0 29,
  zo_getf zzSR (zz_kf [10] 43) 32,
  zo_none,
  zo_none,
  zo_pushI 0 33,
  zo_callv zzSR (zz_cl [(10, fX12_viewed)]) 2 36,
  zo_none,
  zo_none,
  zo_istore 1 37,
  zo_aload 0 38,
  zo_aload 0 39,
  zo_getf zzSR (zz_kf [10] 43) 42,
  zo_none,
  zo_none,
  zo_aload 0 43,
  zo_aload 0 44,
  zo_getf zzSR (zz_kf [10] 43) 47,
  zo_none,
  zo_none,
  zo_pushI 1 48,
  zo_callv zzSR (zz_cl [(10, fX12_viewed)]) 2 51,
  zo_none,
  zo_none,
  zo_pushI (-1) 52,
  zo_callv zzSR (zz_cl [(10, fX12_setOf)]) 3 55,
  zo_none,
  zo_none,
  zo_istore 2 56,
  zo_iload 2 57,
  zo_pushI (-1) 58,
  zo_icmp (fun x y => decide (¬ x = y)) 80 61,
  zo_none,
  zo_none,
  zo_aload 0 62,
  zo_pushI 1 63,
  zo_aload 0 64,
  zo_getf zzSR (zz_kf [10] 43) 67,
  zo_none,
  zo_none,
  zo_aload 0 68,
  zo_aload 0 69,
  zo_getf zzSR (zz_kf [10] 43) 72,
  zo_none,
  zo_none,
  zo_pushI 1 73,
  zo_callv zzSR (zz_cl [(10, fX12_viewed)]) 2 76,
  zo_none,
  zo_none,
  zo_callv zzSR (zz_cl [(10, fX12_makesOne)]) 3 79,
  zo_none,
  zo_none,
  zo_iret true,
  zo_aload 0 81,
  zo_iload 2 82,
  zo_pushI 0 83,
  zo_callv zzSR (zz_cl [(10, fX12_viewed)]) 2 86,
  zo_none,
  zo_none,
  zo_iload 1 87,
  zo_icmp (fun x y => decide (x ≤ y)) 97 90,
  zo_none,
  zo_none,
  zo_aload 0 91,
  zo_iload 2 92,
  zo_iload 1 93,
  zo_callv zzSR (zz_cl [(10, fX12_wants)]) 2 96,
  zo_none,
  zo_none,
  zo_iret true,
  zo_iload 1 98,
  zo_aload 0 99,
  zo_aload 0 100,
  zo_getf zzSR (zz_kf [10] 43) 103,
  zo_none,
  zo_none,
  zo_pushI 2 104,
  zo_callv zzSR (zz_cl [(10, fX12_viewed)]) 2 107,
  zo_none,
  zo_none,
  zo_ii (fun x y => x + y) 108,
  zo_aload 0 109,
  zo_aload 0 110,
  zo_getf zzSR (zz_kf [10] 43) 113,
  zo_none,
  zo_none,
  zo_pushI 0 114,
  zo_callv zzSR (zz_cl [(10, fX12_together)]) 2 117,
  zo_none,
  zo_none,
  zo_ii (fun x y => x - y) 118,
  zo_istore 3 119,
  zo_aload 0 120,
  zo_iload 2 121,
  zo_pushI 0 122,
  zo_callv zzSR (zz_cl [(10, fX12_viewed)]) 2 125,
  zo_none,
  zo_none,
  zo_iload 1 126,
  zo_icmp (fun x y => decide (y ≤ x)) 168 129,
  zo_none,
  zo_none,
  zo_iload 3 130,
  zo_if (fun x => decide (x ≤ 0)) 168 133,
  zo_none,
  zo_none,
  zo_iload 1 134,
  zo_aload 0 135,
  zo_iload 2 136,
  zo_pushI 0 137,
  zo_callv zzSR (zz_cl [(10, fX12_viewed)]) 2 140,
  zo_none,
  zo_none,
  zo_ii (fun x y => x - y) 141,
  zo_istore 4 143,
  zo_none,
  zo_aload 0 144,
  zo_iload 2 145,
  zo_aload 0 146,
  zo_iload 2 147,
  zo_pushI 0 148,
  zo_callv zzSR (zz_cl [(10, fX12_viewed)]) 2 151,
  zo_none,
  zo_none,
  zo_iload 4 153,
  zo_none,
  zo_iload 3 154,
  zo_icmp (fun x y => decide (y ≤ x)) 162 157,
  zo_none,
  zo_none,
  zo_iload 4 159,
  zo_none,
  zo_goto 163,
  zo_none,
  zo_none,
  zo_iload 3 163,
  zo_ii (fun x y => x + y) 164,
  zo_callv zzSR (zz_cl [(10, fX12_wants)]) 2 167,
  zo_none,
  zo_none,
  zo_iret true,
  zo_aload 0 169,
  zo_aload 0 170,
  zo_getf zzSR (zz_kf [10] 43) 173,
  zo_none,
  zo_none,
  zo_pushI (-1) 174,
  zo_iload 2 175,
  zo_callv zzSR (zz_cl [(10, fX12_setOf)]) 3 178,
  zo_none,
  zo_none,
  zo_istore 4 180,
  zo_none,
  zo_iload 4 182,
  zo_none,
  zo_pushI (-1) 183,
  zo_icmp (fun x y => decide (x = y)) 216 186,
  zo_none,
  zo_none,
  zo_aload 0 187,
  zo_iload 4 189,
  zo_none,
  zo_aload 0 190,
  zo_aload 0 191,
  zo_getf zzSR (zz_kf [10] 43) 194,
  zo_none,
  zo_none,
  zo_pushI 1 195,
  zo_callv zzSR (zz_cl [(10, fX12_together)]) 2 198,
  zo_none,
  zo_none,
  zo_iload 1 199,
  zo_ii (fun x y => x - y) 200,
  zo_aload 0 201,
  zo_aload 0 202,
  zo_getf zzSR (zz_kf [10] 43) 205,
  zo_none,
  zo_none,
  zo_pushI 3 206,
  zo_callv zzSR (zz_cl [(10, fX12_viewed)]) 2 209,
  zo_none,
  zo_none,
  zo_ii (fun x y => x + y) 210,
  zo_callv zzSR (zz_cl [(10, fX12_lessens)]) 2 213,
  zo_none,
  zo_none,
  zo_if (fun x => decide (x = 0)) 220 216,
  zo_none,
  zo_none,
  zo_pushI 1 217,
  zo_goto 221,
  zo_none,
  zo_none,
  zo_pushI 0 221,
  zo_iret true]
set_option maxRecDepth 100000 in
theorem tl_X12_deploys : ∀ pc, zz_Tl (tX12_deploys.getD pc zo_none) := by
  refine zz_Tl_mem ?_
  unfold tX12_deploys
  refine List.forall_mem_cons.mpr ⟨(zo_aload_tl _ _), ?_⟩
  refine List.forall_mem_cons.mpr ⟨(zo_aload_tl _ _), ?_⟩
  refine List.forall_mem_cons.mpr ⟨(zo_getf_tl _ _ _), ?_⟩
  refine List.forall_mem_cons.mpr ⟨zo_none_tl, ?_⟩
  refine List.forall_mem_cons.mpr ⟨zo_none_tl, ?_⟩
  refine List.forall_mem_cons.mpr ⟨(zo_pushI_tl _ _), ?_⟩
  refine List.forall_mem_cons.mpr ⟨(zo_callv_tl _ _ _ _), ?_⟩
  refine List.forall_mem_cons.mpr ⟨zo_none_tl, ?_⟩
  refine List.forall_mem_cons.mpr ⟨zo_none_tl, ?_⟩
  refine List.forall_mem_cons.mpr ⟨(zo_if_tl _ _ _), ?_⟩
  refine List.forall_mem_cons.mpr ⟨zo_none_tl, ?_⟩
  refine List.forall_mem_cons.mpr ⟨zo_none_tl, ?_⟩
  refine List.forall_mem_cons.mpr ⟨(zo_aload_tl _ _), ?_⟩
  refine List.forall_mem_cons.mpr ⟨(zo_aload_tl _ _), ?_⟩
  refine List.forall_mem_cons.mpr ⟨(zo_getf_tl _ _ _), ?_⟩
  refine List.forall_mem_cons.mpr ⟨zo_none_tl, ?_⟩
  refine List.forall_mem_cons.mpr ⟨zo_none_tl, ?_⟩
  refine List.forall_mem_cons.mpr ⟨(zo_pushI_tl _ _), ?_⟩
  refine List.forall_mem_cons.mpr ⟨(zo_callv_tl _ _ _ _), ?_⟩
  refine List.forall_mem_cons.mpr ⟨zo_none_tl, ?_⟩
  refine List.forall_mem_cons.mpr ⟨zo_none_tl, ?_⟩
  refine List.forall_mem_cons.mpr ⟨(zo_pushI_tl _ _), ?_⟩
  refine List.forall_mem_cons.mpr ⟨(zo_icmp_tl _ _ _), ?_⟩
  refine List.forall_mem_cons.mpr ⟨zo_none_tl, ?_⟩
  refine List.forall_mem_cons.mpr ⟨zo_none_tl, ?_⟩
  refine List.forall_mem_cons.mpr ⟨(zo_pushI_tl _ _), ?_⟩
  refine List.forall_mem_cons.mpr ⟨(zo_iret_tl _), ?_⟩
  refine List.forall_mem_cons.mpr ⟨(zo_aload_tl _ _), ?_⟩
  refine List.forall_mem_cons.mpr ⟨(zo_aload_tl _ _), ?_⟩
  refine List.forall_mem_cons.mpr ⟨(zo_getf_tl _ _ _), ?_⟩
  refine List.forall_mem_cons.mpr ⟨zo_none_tl, ?_⟩
  refine List.forall_mem_cons.mpr ⟨zo_none_tl, ?_⟩
  refine List.forall_mem_cons.mpr ⟨(zo_pushI_tl _ _), ?_⟩
  refine List.forall_mem_cons.mpr ⟨(zo_callv_tl _ _ _ _), ?_⟩
  refine List.forall_mem_cons.mpr ⟨zo_none_tl, ?_⟩
  refine List.forall_mem_cons.mpr ⟨zo_none_tl, ?_⟩
  refine List.forall_mem_cons.mpr ⟨(zo_istore_tl _ _), ?_⟩
  refine List.forall_mem_cons.mpr ⟨(zo_aload_tl _ _), ?_⟩
  refine List.forall_mem_cons.mpr ⟨(zo_aload_tl _ _), ?_⟩
  refine List.forall_mem_cons.mpr ⟨(zo_getf_tl _ _ _), ?_⟩
  refine List.forall_mem_cons.mpr ⟨zo_none_tl, ?_⟩
  refine List.forall_mem_cons.mpr ⟨zo_none_tl, ?_⟩
  refine List.forall_mem_cons.mpr ⟨(zo_aload_tl _ _), ?_⟩
  refine List.forall_mem_cons.mpr ⟨(zo_aload_tl _ _), ?_⟩
  refine List.forall_mem_cons.mpr ⟨(zo_getf_tl _ _ _), ?_⟩
  refine List.forall_mem_cons.mpr ⟨zo_none_tl, ?_⟩
  refine List.forall_mem_cons.mpr ⟨zo_none_tl, ?_⟩
  refine List.forall_mem_cons.mpr ⟨(zo_pushI_tl _ _), ?_⟩
  refine List.forall_mem_cons.mpr ⟨(zo_callv_tl _ _ _ _), ?_⟩
  refine List.forall_mem_cons.mpr ⟨zo_none_tl, ?_⟩
  refine List.forall_mem_cons.mpr ⟨zo_none_tl, ?_⟩
  refine List.forall_mem_cons.mpr ⟨(zo_pushI_tl _ _), ?_⟩
  refine List.forall_mem_cons.mpr ⟨(zo_callv_tl _ _ _ _), ?_⟩
  refine List.forall_mem_cons.mpr ⟨zo_none_tl, ?_⟩
  refine List.forall_mem_cons.mpr ⟨zo_none_tl, ?_⟩
  refine List.forall_mem_cons.mpr ⟨(zo_istore_tl _ _), ?_⟩
  refine List.forall_mem_cons.mpr ⟨(zo_iload_tl _ _), ?_⟩
  refine List.forall_mem_cons.mpr ⟨(zo_pushI_tl _ _), ?_⟩
  refine List.forall_mem_cons.mpr ⟨(zo_icmp_tl _ _ _), ?_⟩
  refine List.forall_mem_cons.mpr ⟨zo_none_tl, ?_⟩
  refine List.forall_mem_cons.mpr ⟨zo_none_tl, ?_⟩
  refine List.forall_mem_cons.mpr ⟨(zo_aload_tl _ _), ?_⟩
  refine List.forall_mem_cons.mpr ⟨(zo_pushI_tl _ _), ?_⟩
  refine List.forall_mem_cons.mpr ⟨(zo_aload_tl _ _), ?_⟩
  refine List.forall_mem_cons.mpr ⟨(zo_getf_tl _ _ _), ?_⟩
  refine List.forall_mem_cons.mpr ⟨zo_none_tl, ?_⟩
  refine List.forall_mem_cons.mpr ⟨zo_none_tl, ?_⟩
  refine List.forall_mem_cons.mpr ⟨(zo_aload_tl _ _), ?_⟩
  refine List.forall_mem_cons.mpr ⟨(zo_aload_tl _ _), ?_⟩
  refine List.forall_mem_cons.mpr ⟨(zo_getf_tl _ _ _), ?_⟩
  refine List.forall_mem_cons.mpr ⟨zo_none_tl, ?_⟩
  refine List.forall_mem_cons.mpr ⟨zo_none_tl, ?_⟩
  refine List.forall_mem_cons.mpr ⟨(zo_pushI_tl _ _), ?_⟩
  refine List.forall_mem_cons.mpr ⟨(zo_callv_tl _ _ _ _), ?_⟩
  refine List.forall_mem_cons.mpr ⟨zo_none_tl, ?_⟩
  refine List.forall_mem_cons.mpr ⟨zo_none_tl, ?_⟩
  refine List.forall_mem_cons.mpr ⟨(zo_callv_tl _ _ _ _), ?_⟩
  refine List.forall_mem_cons.mpr ⟨zo_none_tl, ?_⟩
  refine List.forall_mem_cons.mpr ⟨zo_none_tl, ?_⟩
  refine List.forall_mem_cons.mpr ⟨(zo_iret_tl _), ?_⟩
  refine List.forall_mem_cons.mpr ⟨(zo_aload_tl _ _), ?_⟩
  refine List.forall_mem_cons.mpr ⟨(zo_iload_tl _ _), ?_⟩
  refine List.forall_mem_cons.mpr ⟨(zo_pushI_tl _ _), ?_⟩
  refine List.forall_mem_cons.mpr ⟨(zo_callv_tl _ _ _ _), ?_⟩
  refine List.forall_mem_cons.mpr ⟨zo_none_tl, ?_⟩
  refine List.forall_mem_cons.mpr ⟨zo_none_tl, ?_⟩
  refine List.forall_mem_cons.mpr ⟨(zo_iload_tl _ _), ?_⟩
  refine List.forall_mem_cons.mpr ⟨(zo_icmp_tl _ _ _), ?_⟩
  refine List.forall_mem_cons.mpr ⟨zo_none_tl, ?_⟩
  refine List.forall_mem_cons.mpr ⟨zo_none_tl, ?_⟩
  refine List.forall_mem_cons.mpr ⟨(zo_aload_tl _ _), ?_⟩
  refine List.forall_mem_cons.mpr ⟨(zo_iload_tl _ _), ?_⟩
  refine List.forall_mem_cons.mpr ⟨(zo_iload_tl _ _), ?_⟩
  refine List.forall_mem_cons.mpr ⟨(zo_callv_tl _ _ _ _), ?_⟩
  refine List.forall_mem_cons.mpr ⟨zo_none_tl, ?_⟩
  refine List.forall_mem_cons.mpr ⟨zo_none_tl, ?_⟩
  refine List.forall_mem_cons.mpr ⟨(zo_iret_tl _), ?_⟩
  refine List.forall_mem_cons.mpr ⟨(zo_iload_tl _ _), ?_⟩
  refine List.forall_mem_cons.mpr ⟨(zo_aload_tl _ _), ?_⟩
  refine List.forall_mem_cons.mpr ⟨(zo_aload_tl _ _), ?_⟩
  refine List.forall_mem_cons.mpr ⟨(zo_getf_tl _ _ _), ?_⟩
  refine List.forall_mem_cons.mpr ⟨zo_none_tl, ?_⟩
  refine List.forall_mem_cons.mpr ⟨zo_none_tl, ?_⟩
  refine List.forall_mem_cons.mpr ⟨(zo_pushI_tl _ _), ?_⟩
  refine List.forall_mem_cons.mpr ⟨(zo_callv_tl _ _ _ _), ?_⟩
  refine List.forall_mem_cons.mpr ⟨zo_none_tl, ?_⟩
  refine List.forall_mem_cons.mpr ⟨zo_none_tl, ?_⟩
  refine List.forall_mem_cons.mpr ⟨(zo_ii_tl _ _), ?_⟩
  refine List.forall_mem_cons.mpr ⟨(zo_aload_tl _ _), ?_⟩
  refine List.forall_mem_cons.mpr ⟨(zo_aload_tl _ _), ?_⟩
  refine List.forall_mem_cons.mpr ⟨(zo_getf_tl _ _ _), ?_⟩
  refine List.forall_mem_cons.mpr ⟨zo_none_tl, ?_⟩
  refine List.forall_mem_cons.mpr ⟨zo_none_tl, ?_⟩
  refine List.forall_mem_cons.mpr ⟨(zo_pushI_tl _ _), ?_⟩
  refine List.forall_mem_cons.mpr ⟨(zo_callv_tl _ _ _ _), ?_⟩
  refine List.forall_mem_cons.mpr ⟨zo_none_tl, ?_⟩
  refine List.forall_mem_cons.mpr ⟨zo_none_tl, ?_⟩
  refine List.forall_mem_cons.mpr ⟨(zo_ii_tl _ _), ?_⟩
  refine List.forall_mem_cons.mpr ⟨(zo_istore_tl _ _), ?_⟩
  refine List.forall_mem_cons.mpr ⟨(zo_aload_tl _ _), ?_⟩
  refine List.forall_mem_cons.mpr ⟨(zo_iload_tl _ _), ?_⟩
  refine List.forall_mem_cons.mpr ⟨(zo_pushI_tl _ _), ?_⟩
  refine List.forall_mem_cons.mpr ⟨(zo_callv_tl _ _ _ _), ?_⟩
  refine List.forall_mem_cons.mpr ⟨zo_none_tl, ?_⟩
  refine List.forall_mem_cons.mpr ⟨zo_none_tl, ?_⟩
  refine List.forall_mem_cons.mpr ⟨(zo_iload_tl _ _), ?_⟩
  refine List.forall_mem_cons.mpr ⟨(zo_icmp_tl _ _ _), ?_⟩
  refine List.forall_mem_cons.mpr ⟨zo_none_tl, ?_⟩
  refine List.forall_mem_cons.mpr ⟨zo_none_tl, ?_⟩
  refine List.forall_mem_cons.mpr ⟨(zo_iload_tl _ _), ?_⟩
  refine List.forall_mem_cons.mpr ⟨(zo_if_tl _ _ _), ?_⟩
  refine List.forall_mem_cons.mpr ⟨zo_none_tl, ?_⟩
  refine List.forall_mem_cons.mpr ⟨zo_none_tl, ?_⟩
  refine List.forall_mem_cons.mpr ⟨(zo_iload_tl _ _), ?_⟩
  refine List.forall_mem_cons.mpr ⟨(zo_aload_tl _ _), ?_⟩
  refine List.forall_mem_cons.mpr ⟨(zo_iload_tl _ _), ?_⟩
  refine List.forall_mem_cons.mpr ⟨(zo_pushI_tl _ _), ?_⟩
  refine List.forall_mem_cons.mpr ⟨(zo_callv_tl _ _ _ _), ?_⟩
  refine List.forall_mem_cons.mpr ⟨zo_none_tl, ?_⟩
  refine List.forall_mem_cons.mpr ⟨zo_none_tl, ?_⟩
  refine List.forall_mem_cons.mpr ⟨(zo_ii_tl _ _), ?_⟩
  refine List.forall_mem_cons.mpr ⟨(zo_istore_tl _ _), ?_⟩
  refine List.forall_mem_cons.mpr ⟨zo_none_tl, ?_⟩
  refine List.forall_mem_cons.mpr ⟨(zo_aload_tl _ _), ?_⟩
  refine List.forall_mem_cons.mpr ⟨(zo_iload_tl _ _), ?_⟩
  refine List.forall_mem_cons.mpr ⟨(zo_aload_tl _ _), ?_⟩
  refine List.forall_mem_cons.mpr ⟨(zo_iload_tl _ _), ?_⟩
  refine List.forall_mem_cons.mpr ⟨(zo_pushI_tl _ _), ?_⟩
  refine List.forall_mem_cons.mpr ⟨(zo_callv_tl _ _ _ _), ?_⟩
  refine List.forall_mem_cons.mpr ⟨zo_none_tl, ?_⟩
  refine List.forall_mem_cons.mpr ⟨zo_none_tl, ?_⟩
  refine List.forall_mem_cons.mpr ⟨(zo_iload_tl _ _), ?_⟩
  refine List.forall_mem_cons.mpr ⟨zo_none_tl, ?_⟩
  refine List.forall_mem_cons.mpr ⟨(zo_iload_tl _ _), ?_⟩
  refine List.forall_mem_cons.mpr ⟨(zo_icmp_tl _ _ _), ?_⟩
  refine List.forall_mem_cons.mpr ⟨zo_none_tl, ?_⟩
  refine List.forall_mem_cons.mpr ⟨zo_none_tl, ?_⟩
  refine List.forall_mem_cons.mpr ⟨(zo_iload_tl _ _), ?_⟩
  refine List.forall_mem_cons.mpr ⟨zo_none_tl, ?_⟩
  refine List.forall_mem_cons.mpr ⟨(zo_goto_tl _), ?_⟩
  refine List.forall_mem_cons.mpr ⟨zo_none_tl, ?_⟩
  refine List.forall_mem_cons.mpr ⟨zo_none_tl, ?_⟩
  refine List.forall_mem_cons.mpr ⟨(zo_iload_tl _ _), ?_⟩
  refine List.forall_mem_cons.mpr ⟨(zo_ii_tl _ _), ?_⟩
  refine List.forall_mem_cons.mpr ⟨(zo_callv_tl _ _ _ _), ?_⟩
  refine List.forall_mem_cons.mpr ⟨zo_none_tl, ?_⟩
  refine List.forall_mem_cons.mpr ⟨zo_none_tl, ?_⟩
  refine List.forall_mem_cons.mpr ⟨(zo_iret_tl _), ?_⟩
  refine List.forall_mem_cons.mpr ⟨(zo_aload_tl _ _), ?_⟩
  refine List.forall_mem_cons.mpr ⟨(zo_aload_tl _ _), ?_⟩
  refine List.forall_mem_cons.mpr ⟨(zo_getf_tl _ _ _), ?_⟩
  refine List.forall_mem_cons.mpr ⟨zo_none_tl, ?_⟩
  refine List.forall_mem_cons.mpr ⟨zo_none_tl, ?_⟩
  refine List.forall_mem_cons.mpr ⟨(zo_pushI_tl _ _), ?_⟩
  refine List.forall_mem_cons.mpr ⟨(zo_iload_tl _ _), ?_⟩
  refine List.forall_mem_cons.mpr ⟨(zo_callv_tl _ _ _ _), ?_⟩
  refine List.forall_mem_cons.mpr ⟨zo_none_tl, ?_⟩
  refine List.forall_mem_cons.mpr ⟨zo_none_tl, ?_⟩
  refine List.forall_mem_cons.mpr ⟨(zo_istore_tl _ _), ?_⟩
  refine List.forall_mem_cons.mpr ⟨zo_none_tl, ?_⟩
  refine List.forall_mem_cons.mpr ⟨(zo_iload_tl _ _), ?_⟩
  refine List.forall_mem_cons.mpr ⟨zo_none_tl, ?_⟩
  refine List.forall_mem_cons.mpr ⟨(zo_pushI_tl _ _), ?_⟩
  refine List.forall_mem_cons.mpr ⟨(zo_icmp_tl _ _ _), ?_⟩
  refine List.forall_mem_cons.mpr ⟨zo_none_tl, ?_⟩
  refine List.forall_mem_cons.mpr ⟨zo_none_tl, ?_⟩
  refine List.forall_mem_cons.mpr ⟨(zo_aload_tl _ _), ?_⟩
  refine List.forall_mem_cons.mpr ⟨(zo_iload_tl _ _), ?_⟩
  refine List.forall_mem_cons.mpr ⟨zo_none_tl, ?_⟩
  refine List.forall_mem_cons.mpr ⟨(zo_aload_tl _ _), ?_⟩
  refine List.forall_mem_cons.mpr ⟨(zo_aload_tl _ _), ?_⟩
  refine List.forall_mem_cons.mpr ⟨(zo_getf_tl _ _ _), ?_⟩
  refine List.forall_mem_cons.mpr ⟨zo_none_tl, ?_⟩
  refine List.forall_mem_cons.mpr ⟨zo_none_tl, ?_⟩
  refine List.forall_mem_cons.mpr ⟨(zo_pushI_tl _ _), ?_⟩
  refine List.forall_mem_cons.mpr ⟨(zo_callv_tl _ _ _ _), ?_⟩
  refine List.forall_mem_cons.mpr ⟨zo_none_tl, ?_⟩
  refine List.forall_mem_cons.mpr ⟨zo_none_tl, ?_⟩
  refine List.forall_mem_cons.mpr ⟨(zo_iload_tl _ _), ?_⟩
  refine List.forall_mem_cons.mpr ⟨(zo_ii_tl _ _), ?_⟩
  refine List.forall_mem_cons.mpr ⟨(zo_aload_tl _ _), ?_⟩
  refine List.forall_mem_cons.mpr ⟨(zo_aload_tl _ _), ?_⟩
  refine List.forall_mem_cons.mpr ⟨(zo_getf_tl _ _ _), ?_⟩
  refine List.forall_mem_cons.mpr ⟨zo_none_tl, ?_⟩
  refine List.forall_mem_cons.mpr ⟨zo_none_tl, ?_⟩
  refine List.forall_mem_cons.mpr ⟨(zo_pushI_tl _ _), ?_⟩
  refine List.forall_mem_cons.mpr ⟨(zo_callv_tl _ _ _ _), ?_⟩
  refine List.forall_mem_cons.mpr ⟨zo_none_tl, ?_⟩
  refine List.forall_mem_cons.mpr ⟨zo_none_tl, ?_⟩
  refine List.forall_mem_cons.mpr ⟨(zo_ii_tl _ _), ?_⟩
  refine List.forall_mem_cons.mpr ⟨(zo_callv_tl _ _ _ _), ?_⟩
  refine List.forall_mem_cons.mpr ⟨zo_none_tl, ?_⟩
  refine List.forall_mem_cons.mpr ⟨zo_none_tl, ?_⟩
  refine List.forall_mem_cons.mpr ⟨(zo_if_tl _ _ _), ?_⟩
  refine List.forall_mem_cons.mpr ⟨zo_none_tl, ?_⟩
  refine List.forall_mem_cons.mpr ⟨zo_none_tl, ?_⟩
  refine List.forall_mem_cons.mpr ⟨(zo_pushI_tl _ _), ?_⟩
  refine List.forall_mem_cons.mpr ⟨(zo_goto_tl _), ?_⟩
  refine List.forall_mem_cons.mpr ⟨zo_none_tl, ?_⟩
  refine List.forall_mem_cons.mpr ⟨zo_none_tl, ?_⟩
  refine List.forall_mem_cons.mpr ⟨(zo_pushI_tl _ _), ?_⟩
  refine List.forall_mem_cons.mpr ⟨(zo_iret_tl _), ?_⟩
  exact fun _ h => absurd h List.not_mem_nil
noncomputable def fX12_deploys : zzFn := zz_fn tX12_deploys 5
set_option maxRecDepth 100000 in
set_option maxHeartbeats 4000000 in
theorem mm_X12_deploys {l : Launch} {D : va_G} {cA : Nat → ClassId} {ad : Nat → Nat} {Ex : (Nat → Prop) → State → Heap → Prop} (Wd : zzWR l D cA ad Ex) : zz_Cn l D zzCl cA ad zzSR Ex yX12_deploys cX12_deploys 5 (some .boolean) 6 138 fX12_deploys ∧ zz_Cx l D zzCl cA ad zzSR Ex yX12_deploys cX12_deploys 5 (some .boolean) 6 138 fX12_deploys := by
  refine zz_meth (plainFor_of_name (by decide)) Wd.1 Wd.2.1 Wd.2.2 (fun p e R s m args below meth c rr X => ?_)
  unfold tX12_deploys
  refine zz_cons (k' := 1) rfl (zk_aload_n X dX12_deploys_0 rfl rfl) ?_
  refine zz_cons (k' := 2) rfl (zk_aload_n X dX12_deploys_1 rfl rfl) ?_
  refine zz_cons (k' := 3) rfl (zk_getf X ff_X12_243 dX12_deploys_2 rfl) ?_
  refine zz_cons (k' := 4) rfl (zz_Ok_none _ _) ?_
  refine zz_cons (k' := 5) rfl (zz_Ok_none _ _) ?_
  refine zz_cons (k' := 6) rfl (zk_iconst X dX12_deploys_5 (by decide) rfl) ?_
  refine zz_cons (k' := 7) rfl (zk_callv X (zz_Cv_of (List.forall_mem_cons.mpr ⟨⟨(RX_10, zzT10, 50), yX12_stays, cX12_stays, 3, (some .boolean), 2, 45, rfl, kv_X12_269_10.1, (mm_X12_stays Wd).1, by decide, by decide⟩, (fun _ h => absurd h List.not_mem_nil)⟩)) dX12_deploys_6 rfl) ?_
  refine zz_cons (k' := 8) rfl (zz_Ok_none _ _) ?_
  refine zz_cons (k' := 9) rfl (zz_Ok_none _ _) ?_
  refine zz_cons (k' := 10) rfl (zk_if_eq X dX12_deploys_9 (by decide) rfl) ?_
  refine zz_cons (k' := 11) rfl (zz_Ok_none _ _) ?_
  refine zz_cons (k' := 12) rfl (zz_Ok_none _ _) ?_
  refine zz_cons (k' := 13) rfl (zk_aload_n X dX12_deploys_12 rfl rfl) ?_
  refine zz_cons (k' := 14) rfl (zk_aload_n X dX12_deploys_13 rfl rfl) ?_
  refine zz_cons (k' := 15) rfl (zk_getf X ff_X12_243 dX12_deploys_14 rfl) ?_
  refine zz_cons (k' := 16) rfl (zz_Ok_none _ _) ?_
  refine zz_cons (k' := 17) rfl (zz_Ok_none _ _) ?_
  refine zz_cons (k' := 18) rfl (zk_iconst X dX12_deploys_17 (by decide) rfl) ?_
  refine zz_cons (k' := 19) rfl (zk_callv X (zz_Cv_of (List.forall_mem_cons.mpr ⟨⟨(RX_10, zzT10, 50), yX12_viewed, cX12_viewed, 3, (some .int), 1, 23, rfl, kv_X12_204_10.1, (mm_X12_viewed Wd).1, by decide, by decide⟩, (fun _ h => absurd h List.not_mem_nil)⟩)) dX12_deploys_18 rfl) ?_
  refine zz_cons (k' := 20) rfl (zz_Ok_none _ _) ?_
  refine zz_cons (k' := 21) rfl (zz_Ok_none _ _) ?_
  refine zz_cons (k' := 22) rfl (zk_iconst X dX12_deploys_21 (by decide) rfl) ?_
  refine zz_cons (k' := 23) rfl (zk_icmp_ne X dX12_deploys_22 (by decide) rfl) ?_
  refine zz_cons (k' := 24) rfl (zz_Ok_none _ _) ?_
  refine zz_cons (k' := 25) rfl (zz_Ok_none _ _) ?_
  refine zz_cons (k' := 26) rfl (zk_iconst X dX12_deploys_25 (by decide) rfl) ?_
  refine zz_cons (k' := 27) rfl (zk_iret X rfl dX12_deploys_26) ?_
  refine zz_cons (k' := 28) rfl (zk_aload_n X dX12_deploys_27 rfl rfl) ?_
  refine zz_cons (k' := 29) rfl (zk_aload_n X dX12_deploys_28 rfl rfl) ?_
  refine zz_cons (k' := 30) rfl (zk_getf X ff_X12_243 dX12_deploys_29 rfl) ?_
  refine zz_cons (k' := 31) rfl (zz_Ok_none _ _) ?_
  refine zz_cons (k' := 32) rfl (zz_Ok_none _ _) ?_
  refine zz_cons (k' := 33) rfl (zk_iconst X dX12_deploys_32 (by decide) rfl) ?_
  refine zz_cons (k' := 34) rfl (zk_callv X (zz_Cv_of (List.forall_mem_cons.mpr ⟨⟨(RX_10, zzT10, 50), yX12_viewed, cX12_viewed, 3, (some .int), 1, 23, rfl, kv_X12_204_10.1, (mm_X12_viewed Wd).1, by decide, by decide⟩, (fun _ h => absurd h List.not_mem_nil)⟩)) dX12_deploys_33 rfl) ?_
  refine zz_cons (k' := 35) rfl (zz_Ok_none _ _) ?_
  refine zz_cons (k' := 36) rfl (zz_Ok_none _ _) ?_
  refine zz_cons (k' := 37) rfl (zk_istore_n X dX12_deploys_36 rfl (by decide) rfl) ?_
  refine zz_cons (k' := 38) rfl (zk_aload_n X dX12_deploys_37 rfl rfl) ?_
  refine zz_cons (k' := 39) rfl (zk_aload_n X dX12_deploys_38 rfl rfl) ?_
  refine zz_cons (k' := 40) rfl (zk_getf X ff_X12_243 dX12_deploys_39 rfl) ?_
  refine zz_cons (k' := 41) rfl (zz_Ok_none _ _) ?_
  refine zz_cons (k' := 42) rfl (zz_Ok_none _ _) ?_
  refine zz_cons (k' := 43) rfl (zk_aload_n X dX12_deploys_42 rfl rfl) ?_
  refine zz_cons (k' := 44) rfl (zk_aload_n X dX12_deploys_43 rfl rfl) ?_
  refine zz_cons (k' := 45) rfl (zk_getf X ff_X12_243 dX12_deploys_44 rfl) ?_
  refine zz_cons (k' := 46) rfl (zz_Ok_none _ _) ?_
  refine zz_cons (k' := 47) rfl (zz_Ok_none _ _) ?_
  refine zz_cons (k' := 48) rfl (zk_iconst X dX12_deploys_47 (by decide) rfl) ?_
  refine zz_cons (k' := 49) rfl (zk_callv X (zz_Cv_of (List.forall_mem_cons.mpr ⟨⟨(RX_10, zzT10, 50), yX12_viewed, cX12_viewed, 3, (some .int), 1, 23, rfl, kv_X12_204_10.1, (mm_X12_viewed Wd).1, by decide, by decide⟩, (fun _ h => absurd h List.not_mem_nil)⟩)) dX12_deploys_48 rfl) ?_
  refine zz_cons (k' := 50) rfl (zz_Ok_none _ _) ?_
  refine zz_cons (k' := 51) rfl (zz_Ok_none _ _) ?_
  refine zz_cons (k' := 52) rfl (zk_iconst X dX12_deploys_51 (by decide) rfl) ?_
  refine zz_cons (k' := 53) rfl (zk_callv X (zz_Cv_of (List.forall_mem_cons.mpr ⟨⟨(RX_10, zzT10, 50), yX12_setOf, cX12_setOf, 8, (some .int), 4, 90, rfl, kv_X12_282_10.1, (mm_X12_setOf Wd).1, by decide, by decide⟩, (fun _ h => absurd h List.not_mem_nil)⟩)) dX12_deploys_52 rfl) ?_
  refine zz_cons (k' := 54) rfl (zz_Ok_none _ _) ?_
  refine zz_cons (k' := 55) rfl (zz_Ok_none _ _) ?_
  refine zz_cons (k' := 56) rfl (zk_istore_n X dX12_deploys_55 rfl (by decide) rfl) ?_
  refine zz_cons (k' := 57) rfl (zk_iload_n X dX12_deploys_56 rfl rfl) ?_
  refine zz_cons (k' := 58) rfl (zk_iconst X dX12_deploys_57 (by decide) rfl) ?_
  refine zz_cons (k' := 59) rfl (zk_icmp_ne X dX12_deploys_58 (by decide) rfl) ?_
  refine zz_cons (k' := 60) rfl (zz_Ok_none _ _) ?_
  refine zz_cons (k' := 61) rfl (zz_Ok_none _ _) ?_
  refine zz_cons (k' := 62) rfl (zk_aload_n X dX12_deploys_61 rfl rfl) ?_
  refine zz_cons (k' := 63) rfl (zk_iconst X dX12_deploys_62 (by decide) rfl) ?_
  refine zz_cons (k' := 64) rfl (zk_aload_n X dX12_deploys_63 rfl rfl) ?_
  refine zz_cons (k' := 65) rfl (zk_getf X ff_X12_243 dX12_deploys_64 rfl) ?_
  refine zz_cons (k' := 66) rfl (zz_Ok_none _ _) ?_
  refine zz_cons (k' := 67) rfl (zz_Ok_none _ _) ?_
  refine zz_cons (k' := 68) rfl (zk_aload_n X dX12_deploys_67 rfl rfl) ?_
  refine zz_cons (k' := 69) rfl (zk_aload_n X dX12_deploys_68 rfl rfl) ?_
  refine zz_cons (k' := 70) rfl (zk_getf X ff_X12_243 dX12_deploys_69 rfl) ?_
  refine zz_cons (k' := 71) rfl (zz_Ok_none _ _) ?_
  refine zz_cons (k' := 72) rfl (zz_Ok_none _ _) ?_
  refine zz_cons (k' := 73) rfl (zk_iconst X dX12_deploys_72 (by decide) rfl) ?_
  refine zz_cons (k' := 74) rfl (zk_callv X (zz_Cv_of (List.forall_mem_cons.mpr ⟨⟨(RX_10, zzT10, 50), yX12_viewed, cX12_viewed, 3, (some .int), 1, 23, rfl, kv_X12_204_10.1, (mm_X12_viewed Wd).1, by decide, by decide⟩, (fun _ h => absurd h List.not_mem_nil)⟩)) dX12_deploys_73 rfl) ?_
  refine zz_cons (k' := 75) rfl (zz_Ok_none _ _) ?_
  refine zz_cons (k' := 76) rfl (zz_Ok_none _ _) ?_
  refine zz_cons (k' := 77) rfl (zk_callv X (zz_Cv_of (List.forall_mem_cons.mpr ⟨⟨(RX_10, zzT10, 50), yX12_makesOne, cX12_makesOne, 6, (some .boolean), 3, 85, rfl, kv_X12_286_10.1, (mm_X12_makesOne Wd).1, by decide, by decide⟩, (fun _ h => absurd h List.not_mem_nil)⟩)) dX12_deploys_76 rfl) ?_
  refine zz_cons (k' := 78) rfl (zz_Ok_none _ _) ?_
  refine zz_cons (k' := 79) rfl (zz_Ok_none _ _) ?_
  refine zz_cons (k' := 80) rfl (zk_iret X rfl dX12_deploys_79) ?_
  refine zz_cons (k' := 81) rfl (zk_aload_n X dX12_deploys_80 rfl rfl) ?_
  refine zz_cons (k' := 82) rfl (zk_iload_n X dX12_deploys_81 rfl rfl) ?_
  refine zz_cons (k' := 83) rfl (zk_iconst X dX12_deploys_82 (by decide) rfl) ?_
  refine zz_cons (k' := 84) rfl (zk_callv X (zz_Cv_of (List.forall_mem_cons.mpr ⟨⟨(RX_10, zzT10, 50), yX12_viewed, cX12_viewed, 3, (some .int), 1, 23, rfl, kv_X12_204_10.1, (mm_X12_viewed Wd).1, by decide, by decide⟩, (fun _ h => absurd h List.not_mem_nil)⟩)) dX12_deploys_83 rfl) ?_
  refine zz_cons (k' := 85) rfl (zz_Ok_none _ _) ?_
  refine zz_cons (k' := 86) rfl (zz_Ok_none _ _) ?_
  refine zz_cons (k' := 87) rfl (zk_iload_n X dX12_deploys_86 rfl rfl) ?_
  refine zz_cons (k' := 88) rfl (zk_icmp_le X dX12_deploys_87 (by decide) rfl) ?_
  refine zz_cons (k' := 89) rfl (zz_Ok_none _ _) ?_
  refine zz_cons (k' := 90) rfl (zz_Ok_none _ _) ?_
  refine zz_cons (k' := 91) rfl (zk_aload_n X dX12_deploys_90 rfl rfl) ?_
  refine zz_cons (k' := 92) rfl (zk_iload_n X dX12_deploys_91 rfl rfl) ?_
  refine zz_cons (k' := 93) rfl (zk_iload_n X dX12_deploys_92 rfl rfl) ?_
  refine zz_cons (k' := 94) rfl (zk_callv X (zz_Cv_of (List.forall_mem_cons.mpr ⟨⟨(RX_10, zzT10, 50), yX12_wants, cX12_wants, 5, (some .boolean), 3, 84, rfl, kv_X12_289_10.1, (mm_X12_wants Wd).1, by decide, by decide⟩, (fun _ h => absurd h List.not_mem_nil)⟩)) dX12_deploys_93 rfl) ?_
  refine zz_cons (k' := 95) rfl (zz_Ok_none _ _) ?_
  refine zz_cons (k' := 96) rfl (zz_Ok_none _ _) ?_
  refine zz_cons (k' := 97) rfl (zk_iret X rfl dX12_deploys_96) ?_
  refine zz_cons (k' := 98) rfl (zk_iload_n X dX12_deploys_97 rfl rfl) ?_
  refine zz_cons (k' := 99) rfl (zk_aload_n X dX12_deploys_98 rfl rfl) ?_
  refine zz_cons (k' := 100) rfl (zk_aload_n X dX12_deploys_99 rfl rfl) ?_
  refine zz_cons (k' := 101) rfl (zk_getf X ff_X12_243 dX12_deploys_100 rfl) ?_
  refine zz_cons (k' := 102) rfl (zz_Ok_none _ _) ?_
  refine zz_cons (k' := 103) rfl (zz_Ok_none _ _) ?_
  refine zz_cons (k' := 104) rfl (zk_iconst X dX12_deploys_103 (by decide) rfl) ?_
  refine zz_cons (k' := 105) rfl (zk_callv X (zz_Cv_of (List.forall_mem_cons.mpr ⟨⟨(RX_10, zzT10, 50), yX12_viewed, cX12_viewed, 3, (some .int), 1, 23, rfl, kv_X12_204_10.1, (mm_X12_viewed Wd).1, by decide, by decide⟩, (fun _ h => absurd h List.not_mem_nil)⟩)) dX12_deploys_104 rfl) ?_
  refine zz_cons (k' := 106) rfl (zz_Ok_none _ _) ?_
  refine zz_cons (k' := 107) rfl (zz_Ok_none _ _) ?_
  refine zz_cons (k' := 108) rfl (zk_iadd X dX12_deploys_107 rfl) ?_
  refine zz_cons (k' := 109) rfl (zk_aload_n X dX12_deploys_108 rfl rfl) ?_
  refine zz_cons (k' := 110) rfl (zk_aload_n X dX12_deploys_109 rfl rfl) ?_
  refine zz_cons (k' := 111) rfl (zk_getf X ff_X12_243 dX12_deploys_110 rfl) ?_
  refine zz_cons (k' := 112) rfl (zz_Ok_none _ _) ?_
  refine zz_cons (k' := 113) rfl (zz_Ok_none _ _) ?_
  refine zz_cons (k' := 114) rfl (zk_iconst X dX12_deploys_113 (by decide) rfl) ?_
  refine zz_cons (k' := 115) rfl (zk_callv X (zz_Cv_of (List.forall_mem_cons.mpr ⟨⟨(RX_10, zzT10, 50), yX12_together, cX12_together, 5, (some .int), 5, 114, rfl, kv_X12_292_10.1, (mm_X12_together Wd).1, by decide, by decide⟩, (fun _ h => absurd h List.not_mem_nil)⟩)) dX12_deploys_114 rfl) ?_
  refine zz_cons (k' := 116) rfl (zz_Ok_none _ _) ?_
  refine zz_cons (k' := 117) rfl (zz_Ok_none _ _) ?_
  refine zz_cons (k' := 118) rfl (zk_isub X dX12_deploys_117 rfl) ?_
  refine zz_cons (k' := 119) rfl (zk_istore_n X dX12_deploys_118 rfl (by decide) rfl) ?_
  refine zz_cons (k' := 120) rfl (zk_aload_n X dX12_deploys_119 rfl rfl) ?_
  refine zz_cons (k' := 121) rfl (zk_iload_n X dX12_deploys_120 rfl rfl) ?_
  refine zz_cons (k' := 122) rfl (zk_iconst X dX12_deploys_121 (by decide) rfl) ?_
  refine zz_cons (k' := 123) rfl (zk_callv X (zz_Cv_of (List.forall_mem_cons.mpr ⟨⟨(RX_10, zzT10, 50), yX12_viewed, cX12_viewed, 3, (some .int), 1, 23, rfl, kv_X12_204_10.1, (mm_X12_viewed Wd).1, by decide, by decide⟩, (fun _ h => absurd h List.not_mem_nil)⟩)) dX12_deploys_122 rfl) ?_
  refine zz_cons (k' := 124) rfl (zz_Ok_none _ _) ?_
  refine zz_cons (k' := 125) rfl (zz_Ok_none _ _) ?_
  refine zz_cons (k' := 126) rfl (zk_iload_n X dX12_deploys_125 rfl rfl) ?_
  refine zz_cons (k' := 127) rfl (zk_icmp_ge X dX12_deploys_126 (by decide) rfl) ?_
  refine zz_cons (k' := 128) rfl (zz_Ok_none _ _) ?_
  refine zz_cons (k' := 129) rfl (zz_Ok_none _ _) ?_
  refine zz_cons (k' := 130) rfl (zk_iload_n X dX12_deploys_129 rfl rfl) ?_
  refine zz_cons (k' := 131) rfl (zk_if_le X dX12_deploys_130 (by decide) rfl) ?_
  refine zz_cons (k' := 132) rfl (zz_Ok_none _ _) ?_
  refine zz_cons (k' := 133) rfl (zz_Ok_none _ _) ?_
  refine zz_cons (k' := 134) rfl (zk_iload_n X dX12_deploys_133 rfl rfl) ?_
  refine zz_cons (k' := 135) rfl (zk_aload_n X dX12_deploys_134 rfl rfl) ?_
  refine zz_cons (k' := 136) rfl (zk_iload_n X dX12_deploys_135 rfl rfl) ?_
  refine zz_cons (k' := 137) rfl (zk_iconst X dX12_deploys_136 (by decide) rfl) ?_
  refine zz_cons (k' := 138) rfl (zk_callv X (zz_Cv_of (List.forall_mem_cons.mpr ⟨⟨(RX_10, zzT10, 50), yX12_viewed, cX12_viewed, 3, (some .int), 1, 23, rfl, kv_X12_204_10.1, (mm_X12_viewed Wd).1, by decide, by decide⟩, (fun _ h => absurd h List.not_mem_nil)⟩)) dX12_deploys_137 rfl) ?_
  refine zz_cons (k' := 139) rfl (zz_Ok_none _ _) ?_
  refine zz_cons (k' := 140) rfl (zz_Ok_none _ _) ?_
  refine zz_cons (k' := 141) rfl (zk_isub X dX12_deploys_140 rfl) ?_
  refine zz_cons (k' := 142) rfl (zk_istore X dX12_deploys_141 (by decide) rfl) ?_
  refine zz_cons (k' := 143) rfl (zz_Ok_none _ _) ?_
  refine zz_cons (k' := 144) rfl (zk_aload_n X dX12_deploys_143 rfl rfl) ?_
  refine zz_cons (k' := 145) rfl (zk_iload_n X dX12_deploys_144 rfl rfl) ?_
  refine zz_cons (k' := 146) rfl (zk_aload_n X dX12_deploys_145 rfl rfl) ?_
  refine zz_cons (k' := 147) rfl (zk_iload_n X dX12_deploys_146 rfl rfl) ?_
  refine zz_cons (k' := 148) rfl (zk_iconst X dX12_deploys_147 (by decide) rfl) ?_
  refine zz_cons (k' := 149) rfl (zk_callv X (zz_Cv_of (List.forall_mem_cons.mpr ⟨⟨(RX_10, zzT10, 50), yX12_viewed, cX12_viewed, 3, (some .int), 1, 23, rfl, kv_X12_204_10.1, (mm_X12_viewed Wd).1, by decide, by decide⟩, (fun _ h => absurd h List.not_mem_nil)⟩)) dX12_deploys_148 rfl) ?_
  refine zz_cons (k' := 150) rfl (zz_Ok_none _ _) ?_
  refine zz_cons (k' := 151) rfl (zz_Ok_none _ _) ?_
  refine zz_cons (k' := 152) rfl (zk_iload X dX12_deploys_151 rfl) ?_
  refine zz_cons (k' := 153) rfl (zz_Ok_none _ _) ?_
  refine zz_cons (k' := 154) rfl (zk_iload_n X dX12_deploys_153 rfl rfl) ?_
  refine zz_cons (k' := 155) rfl (zk_icmp_ge X dX12_deploys_154 (by decide) rfl) ?_
  refine zz_cons (k' := 156) rfl (zz_Ok_none _ _) ?_
  refine zz_cons (k' := 157) rfl (zz_Ok_none _ _) ?_
  refine zz_cons (k' := 158) rfl (zk_iload X dX12_deploys_157 rfl) ?_
  refine zz_cons (k' := 159) rfl (zz_Ok_none _ _) ?_
  refine zz_cons (k' := 160) rfl (zk_goto X dX12_deploys_159 (by decide)) ?_
  refine zz_cons (k' := 161) rfl (zz_Ok_none _ _) ?_
  refine zz_cons (k' := 162) rfl (zz_Ok_none _ _) ?_
  refine zz_cons (k' := 163) rfl (zk_iload_n X dX12_deploys_162 rfl rfl) ?_
  refine zz_cons (k' := 164) rfl (zk_iadd X dX12_deploys_163 rfl) ?_
  refine zz_cons (k' := 165) rfl (zk_callv X (zz_Cv_of (List.forall_mem_cons.mpr ⟨⟨(RX_10, zzT10, 50), yX12_wants, cX12_wants, 5, (some .boolean), 3, 84, rfl, kv_X12_289_10.1, (mm_X12_wants Wd).1, by decide, by decide⟩, (fun _ h => absurd h List.not_mem_nil)⟩)) dX12_deploys_164 rfl) ?_
  refine zz_cons (k' := 166) rfl (zz_Ok_none _ _) ?_
  refine zz_cons (k' := 167) rfl (zz_Ok_none _ _) ?_
  refine zz_cons (k' := 168) rfl (zk_iret X rfl dX12_deploys_167) ?_
  refine zz_cons (k' := 169) rfl (zk_aload_n X dX12_deploys_168 rfl rfl) ?_
  refine zz_cons (k' := 170) rfl (zk_aload_n X dX12_deploys_169 rfl rfl) ?_
  refine zz_cons (k' := 171) rfl (zk_getf X ff_X12_243 dX12_deploys_170 rfl) ?_
  refine zz_cons (k' := 172) rfl (zz_Ok_none _ _) ?_
  refine zz_cons (k' := 173) rfl (zz_Ok_none _ _) ?_
  refine zz_cons (k' := 174) rfl (zk_iconst X dX12_deploys_173 (by decide) rfl) ?_
  refine zz_cons (k' := 175) rfl (zk_iload_n X dX12_deploys_174 rfl rfl) ?_
  refine zz_cons (k' := 176) rfl (zk_callv X (zz_Cv_of (List.forall_mem_cons.mpr ⟨⟨(RX_10, zzT10, 50), yX12_setOf, cX12_setOf, 8, (some .int), 4, 90, rfl, kv_X12_282_10.1, (mm_X12_setOf Wd).1, by decide, by decide⟩, (fun _ h => absurd h List.not_mem_nil)⟩)) dX12_deploys_175 rfl) ?_
  refine zz_cons (k' := 177) rfl (zz_Ok_none _ _) ?_
  refine zz_cons (k' := 178) rfl (zz_Ok_none _ _) ?_
  refine zz_cons (k' := 179) rfl (zk_istore X dX12_deploys_178 (by decide) rfl) ?_
  refine zz_cons (k' := 180) rfl (zz_Ok_none _ _) ?_
  refine zz_cons (k' := 181) rfl (zk_iload X dX12_deploys_180 rfl) ?_
  refine zz_cons (k' := 182) rfl (zz_Ok_none _ _) ?_
  refine zz_cons (k' := 183) rfl (zk_iconst X dX12_deploys_182 (by decide) rfl) ?_
  refine zz_cons (k' := 184) rfl (zk_icmp_eq X dX12_deploys_183 (by decide) rfl) ?_
  refine zz_cons (k' := 185) rfl (zz_Ok_none _ _) ?_
  refine zz_cons (k' := 186) rfl (zz_Ok_none _ _) ?_
  refine zz_cons (k' := 187) rfl (zk_aload_n X dX12_deploys_186 rfl rfl) ?_
  refine zz_cons (k' := 188) rfl (zk_iload X dX12_deploys_187 rfl) ?_
  refine zz_cons (k' := 189) rfl (zz_Ok_none _ _) ?_
  refine zz_cons (k' := 190) rfl (zk_aload_n X dX12_deploys_189 rfl rfl) ?_
  refine zz_cons (k' := 191) rfl (zk_aload_n X dX12_deploys_190 rfl rfl) ?_
  refine zz_cons (k' := 192) rfl (zk_getf X ff_X12_243 dX12_deploys_191 rfl) ?_
  refine zz_cons (k' := 193) rfl (zz_Ok_none _ _) ?_
  refine zz_cons (k' := 194) rfl (zz_Ok_none _ _) ?_
  refine zz_cons (k' := 195) rfl (zk_iconst X dX12_deploys_194 (by decide) rfl) ?_
  refine zz_cons (k' := 196) rfl (zk_callv X (zz_Cv_of (List.forall_mem_cons.mpr ⟨⟨(RX_10, zzT10, 50), yX12_together, cX12_together, 5, (some .int), 5, 114, rfl, kv_X12_292_10.1, (mm_X12_together Wd).1, by decide, by decide⟩, (fun _ h => absurd h List.not_mem_nil)⟩)) dX12_deploys_195 rfl) ?_
  refine zz_cons (k' := 197) rfl (zz_Ok_none _ _) ?_
  refine zz_cons (k' := 198) rfl (zz_Ok_none _ _) ?_
  refine zz_cons (k' := 199) rfl (zk_iload_n X dX12_deploys_198 rfl rfl) ?_
  refine zz_cons (k' := 200) rfl (zk_isub X dX12_deploys_199 rfl) ?_
  refine zz_cons (k' := 201) rfl (zk_aload_n X dX12_deploys_200 rfl rfl) ?_
  refine zz_cons (k' := 202) rfl (zk_aload_n X dX12_deploys_201 rfl rfl) ?_
  refine zz_cons (k' := 203) rfl (zk_getf X ff_X12_243 dX12_deploys_202 rfl) ?_
  refine zz_cons (k' := 204) rfl (zz_Ok_none _ _) ?_
  refine zz_cons (k' := 205) rfl (zz_Ok_none _ _) ?_
  refine zz_cons (k' := 206) rfl (zk_iconst X dX12_deploys_205 (by decide) rfl) ?_
  refine zz_cons (k' := 207) rfl (zk_callv X (zz_Cv_of (List.forall_mem_cons.mpr ⟨⟨(RX_10, zzT10, 50), yX12_viewed, cX12_viewed, 3, (some .int), 1, 23, rfl, kv_X12_204_10.1, (mm_X12_viewed Wd).1, by decide, by decide⟩, (fun _ h => absurd h List.not_mem_nil)⟩)) dX12_deploys_206 rfl) ?_
  refine zz_cons (k' := 208) rfl (zz_Ok_none _ _) ?_
  refine zz_cons (k' := 209) rfl (zz_Ok_none _ _) ?_
  refine zz_cons (k' := 210) rfl (zk_iadd X dX12_deploys_209 rfl) ?_
  refine zz_cons (k' := 211) rfl (zk_callv X (zz_Cv_of (List.forall_mem_cons.mpr ⟨⟨(RX_10, zzT10, 50), yX12_lessens, cX12_lessens, 5, (some .boolean), 5, 114, rfl, kv_X12_296_10.1, (mm_X12_lessens Wd).1, by decide, by decide⟩, (fun _ h => absurd h List.not_mem_nil)⟩)) dX12_deploys_210 rfl) ?_
  refine zz_cons (k' := 212) rfl (zz_Ok_none _ _) ?_
  refine zz_cons (k' := 213) rfl (zz_Ok_none _ _) ?_
  refine zz_cons (k' := 214) rfl (zk_if_eq X dX12_deploys_213 (by decide) rfl) ?_
  refine zz_cons (k' := 215) rfl (zz_Ok_none _ _) ?_
  refine zz_cons (k' := 216) rfl (zz_Ok_none _ _) ?_
  refine zz_cons (k' := 217) rfl (zk_iconst X dX12_deploys_216 (by decide) rfl) ?_
  refine zz_cons (k' := 218) rfl (zk_goto X dX12_deploys_217 (by decide)) ?_
  refine zz_cons (k' := 219) rfl (zz_Ok_none _ _) ?_
  refine zz_cons (k' := 220) rfl (zz_Ok_none _ _) ?_
  refine zz_cons (k' := 221) rfl (zk_iconst X dX12_deploys_220 (by decide) rfl) ?_
  refine zz_cons (k' := 222) rfl (zk_iret X rfl dX12_deploys_221) ?_
  exact trivial
noncomputable def tX12_podOf : List zzOp := [
  zo_pushI (-1) 1,
  zo_istore 3 2,
  zo_pushI 0 3,
  zo_istore 4 5,
  zo_none,
  zo_pushI 0 6,
  zo_istore 5 8,
  zo_none,
  zo_iload 5 10,
  zo_none,
  zo_aload 0 11,
  zo_getf zzSR (zz_kf [10] 5) 14,
  zo_none,
  zo_none,
  zo_icmp (fun x y => decide (y ≤ x)) 160 17,
  zo_none,
  zo_none,
  zo_aload 0 18,
  zo_iload 5 20,
  zo_none,
  zo_pushI 2 21,
  zo_iload 1 22,
  zo_callv zzSR (zz_cl [(10, fX12_isOwned)]) 3 25,
  zo_none,
  zo_none,
  zo_if (fun x => decide (x = 0)) 154 28,
  zo_none,
  zo_none,
  zo_aload 0 29,
  zo_iload 5 31,
  zo_none,
  zo_pushI 15 33,
  zo_none,
  zo_callv zzSR (zz_cl [(10, fX12_viewed)]) 2 36,
  zo_none,
  zo_none,
  zo_if (fun x => decide (¬ x = 0)) 43 39,
  zo_none,
  zo_none,
  zo_pushI 3 40,
  zo_goto 59,
  zo_none,
  zo_none,
  zo_aload 0 44,
  zo_iload 5 46,
  zo_none,
  zo_pushI 16 48,
  zo_none,
  zo_callv zzSR (zz_cl [(10, fX12_viewed)]) 2 51,
  zo_none,
  zo_none,
  zo_if (fun x => decide (¬ x = 0)) 58 54,
  zo_none,
  zo_none,
  zo_pushI 2 55,
  zo_goto 59,
  zo_none,
  zo_none,
  zo_pushI 1 59,
  zo_istore 6 61,
  zo_none,
  zo_aload 0 62,
  zo_iload 5 64,
  zo_none,
  zo_pushI 16 66,
  zo_none,
  zo_callv zzSR (zz_cl [(10, fX12_viewed)]) 2 69,
  zo_none,
  zo_none,
  zo_pushI 2 70,
  zo_icmp (fun x y => decide (x = y)) 85 73,
  zo_none,
  zo_none,
  zo_aload 0 74,
  zo_iload 5 76,
  zo_none,
  zo_pushI 16 78,
  zo_none,
  zo_callv zzSR (zz_cl [(10, fX12_viewed)]) 2 81,
  zo_none,
  zo_none,
  zo_pushI 3 82,
  zo_icmp (fun x y => decide (¬ x = y)) 89 85,
  zo_none,
  zo_none,
  zo_pushI 1 86,
  zo_goto 90,
  zo_none,
  zo_none,
  zo_pushI 0 90,
  zo_istore 7 92,
  zo_none,
  zo_iload 2 93,
  zo_if (fun x => decide (¬ x = 0)) 114 96,
  zo_none,
  zo_none,
  zo_iload 7 98,
  zo_none,
  zo_if (fun x => decide (x = 0)) 110 101,
  zo_none,
  zo_none,
  zo_iload 3 102,
  zo_pushI (-1) 103,
  zo_icmp (fun x y => decide (¬ x = y)) 110 106,
  zo_none,
  zo_none,
  zo_pushI 1 107,
  zo_goto 126,
  zo_none,
  zo_none,
  zo_pushI 0 111,
  zo_goto 126,
  zo_none,
  zo_none,
  zo_iload 6 116,
  zo_none,
  zo_iload 4 118,
  zo_none,
  zo_icmp (fun x y => decide (x < y)) 125 121,
  zo_none,
  zo_none,
  zo_pushI 1 122,
  zo_goto 126,
  zo_none,
  zo_none,
  zo_pushI 0 126,
  zo_istore 8 128,
  zo_none,
  zo_iload 8 130,
  zo_none,
  zo_if (fun x => decide (x = 0)) 138 133,
  zo_none,
  zo_none,
  zo_iload 5 135,
  zo_none,
  zo_goto 139,
  zo_none,
  zo_none,
  zo_iload 3 139,
  zo_istore 3 140,
  zo_iload 8 142,
  zo_none,
  zo_if (fun x => decide (x = 0)) 150 145,
  zo_none,
  zo_none,
  zo_iload 6 147,
  zo_none,
  zo_goto 152,
  zo_none,
  zo_none,
  zo_iload 4 152,
  zo_none,
  zo_istore 4 154,
  zo_none,
  zo_iinc 5 1 157,
  zo_none,
  zo_none,
  zo_goto 8,
  zo_none,
  zo_none,
  zo_iload 3 161,
  zo_iret false]
set_option maxRecDepth 100000 in
theorem tl_X12_podOf : ∀ pc, zz_Tl (tX12_podOf.getD pc zo_none) := by
  refine zz_Tl_mem ?_
  unfold tX12_podOf
  refine List.forall_mem_cons.mpr ⟨(zo_pushI_tl _ _), ?_⟩
  refine List.forall_mem_cons.mpr ⟨(zo_istore_tl _ _), ?_⟩
  refine List.forall_mem_cons.mpr ⟨(zo_pushI_tl _ _), ?_⟩
  refine List.forall_mem_cons.mpr ⟨(zo_istore_tl _ _), ?_⟩
  refine List.forall_mem_cons.mpr ⟨zo_none_tl, ?_⟩
  refine List.forall_mem_cons.mpr ⟨(zo_pushI_tl _ _), ?_⟩
  refine List.forall_mem_cons.mpr ⟨(zo_istore_tl _ _), ?_⟩
  refine List.forall_mem_cons.mpr ⟨zo_none_tl, ?_⟩
  refine List.forall_mem_cons.mpr ⟨(zo_iload_tl _ _), ?_⟩
  refine List.forall_mem_cons.mpr ⟨zo_none_tl, ?_⟩
  refine List.forall_mem_cons.mpr ⟨(zo_aload_tl _ _), ?_⟩
  refine List.forall_mem_cons.mpr ⟨(zo_getf_tl _ _ _), ?_⟩
  refine List.forall_mem_cons.mpr ⟨zo_none_tl, ?_⟩
  refine List.forall_mem_cons.mpr ⟨zo_none_tl, ?_⟩
  refine List.forall_mem_cons.mpr ⟨(zo_icmp_tl _ _ _), ?_⟩
  refine List.forall_mem_cons.mpr ⟨zo_none_tl, ?_⟩
  refine List.forall_mem_cons.mpr ⟨zo_none_tl, ?_⟩
  refine List.forall_mem_cons.mpr ⟨(zo_aload_tl _ _), ?_⟩
  refine List.forall_mem_cons.mpr ⟨(zo_iload_tl _ _), ?_⟩
  refine List.forall_mem_cons.mpr ⟨zo_none_tl, ?_⟩
  refine List.forall_mem_cons.mpr ⟨(zo_pushI_tl _ _), ?_⟩
  refine List.forall_mem_cons.mpr ⟨(zo_iload_tl _ _), ?_⟩
  refine List.forall_mem_cons.mpr ⟨(zo_callv_tl _ _ _ _), ?_⟩
  refine List.forall_mem_cons.mpr ⟨zo_none_tl, ?_⟩
  refine List.forall_mem_cons.mpr ⟨zo_none_tl, ?_⟩
  refine List.forall_mem_cons.mpr ⟨(zo_if_tl _ _ _), ?_⟩
  refine List.forall_mem_cons.mpr ⟨zo_none_tl, ?_⟩
  refine List.forall_mem_cons.mpr ⟨zo_none_tl, ?_⟩
  refine List.forall_mem_cons.mpr ⟨(zo_aload_tl _ _), ?_⟩
  refine List.forall_mem_cons.mpr ⟨(zo_iload_tl _ _), ?_⟩
  refine List.forall_mem_cons.mpr ⟨zo_none_tl, ?_⟩
  refine List.forall_mem_cons.mpr ⟨(zo_pushI_tl _ _), ?_⟩
  refine List.forall_mem_cons.mpr ⟨zo_none_tl, ?_⟩
  refine List.forall_mem_cons.mpr ⟨(zo_callv_tl _ _ _ _), ?_⟩
  refine List.forall_mem_cons.mpr ⟨zo_none_tl, ?_⟩
  refine List.forall_mem_cons.mpr ⟨zo_none_tl, ?_⟩
  refine List.forall_mem_cons.mpr ⟨(zo_if_tl _ _ _), ?_⟩
  refine List.forall_mem_cons.mpr ⟨zo_none_tl, ?_⟩
  refine List.forall_mem_cons.mpr ⟨zo_none_tl, ?_⟩
  refine List.forall_mem_cons.mpr ⟨(zo_pushI_tl _ _), ?_⟩
  refine List.forall_mem_cons.mpr ⟨(zo_goto_tl _), ?_⟩
  refine List.forall_mem_cons.mpr ⟨zo_none_tl, ?_⟩
  refine List.forall_mem_cons.mpr ⟨zo_none_tl, ?_⟩
  refine List.forall_mem_cons.mpr ⟨(zo_aload_tl _ _), ?_⟩
  refine List.forall_mem_cons.mpr ⟨(zo_iload_tl _ _), ?_⟩
  refine List.forall_mem_cons.mpr ⟨zo_none_tl, ?_⟩
  refine List.forall_mem_cons.mpr ⟨(zo_pushI_tl _ _), ?_⟩
  refine List.forall_mem_cons.mpr ⟨zo_none_tl, ?_⟩
  refine List.forall_mem_cons.mpr ⟨(zo_callv_tl _ _ _ _), ?_⟩
  refine List.forall_mem_cons.mpr ⟨zo_none_tl, ?_⟩
  refine List.forall_mem_cons.mpr ⟨zo_none_tl, ?_⟩
  refine List.forall_mem_cons.mpr ⟨(zo_if_tl _ _ _), ?_⟩
  refine List.forall_mem_cons.mpr ⟨zo_none_tl, ?_⟩
  refine List.forall_mem_cons.mpr ⟨zo_none_tl, ?_⟩
  refine List.forall_mem_cons.mpr ⟨(zo_pushI_tl _ _), ?_⟩
  refine List.forall_mem_cons.mpr ⟨(zo_goto_tl _), ?_⟩
  refine List.forall_mem_cons.mpr ⟨zo_none_tl, ?_⟩
  refine List.forall_mem_cons.mpr ⟨zo_none_tl, ?_⟩
  refine List.forall_mem_cons.mpr ⟨(zo_pushI_tl _ _), ?_⟩
  refine List.forall_mem_cons.mpr ⟨(zo_istore_tl _ _), ?_⟩
  refine List.forall_mem_cons.mpr ⟨zo_none_tl, ?_⟩
  refine List.forall_mem_cons.mpr ⟨(zo_aload_tl _ _), ?_⟩
  refine List.forall_mem_cons.mpr ⟨(zo_iload_tl _ _), ?_⟩
  refine List.forall_mem_cons.mpr ⟨zo_none_tl, ?_⟩
  refine List.forall_mem_cons.mpr ⟨(zo_pushI_tl _ _), ?_⟩
  refine List.forall_mem_cons.mpr ⟨zo_none_tl, ?_⟩
  refine List.forall_mem_cons.mpr ⟨(zo_callv_tl _ _ _ _), ?_⟩
  refine List.forall_mem_cons.mpr ⟨zo_none_tl, ?_⟩
  refine List.forall_mem_cons.mpr ⟨zo_none_tl, ?_⟩
  refine List.forall_mem_cons.mpr ⟨(zo_pushI_tl _ _), ?_⟩
  refine List.forall_mem_cons.mpr ⟨(zo_icmp_tl _ _ _), ?_⟩
  refine List.forall_mem_cons.mpr ⟨zo_none_tl, ?_⟩
  refine List.forall_mem_cons.mpr ⟨zo_none_tl, ?_⟩
  refine List.forall_mem_cons.mpr ⟨(zo_aload_tl _ _), ?_⟩
  refine List.forall_mem_cons.mpr ⟨(zo_iload_tl _ _), ?_⟩
  refine List.forall_mem_cons.mpr ⟨zo_none_tl, ?_⟩
  refine List.forall_mem_cons.mpr ⟨(zo_pushI_tl _ _), ?_⟩
  refine List.forall_mem_cons.mpr ⟨zo_none_tl, ?_⟩
  refine List.forall_mem_cons.mpr ⟨(zo_callv_tl _ _ _ _), ?_⟩
  refine List.forall_mem_cons.mpr ⟨zo_none_tl, ?_⟩
  refine List.forall_mem_cons.mpr ⟨zo_none_tl, ?_⟩
  refine List.forall_mem_cons.mpr ⟨(zo_pushI_tl _ _), ?_⟩
  refine List.forall_mem_cons.mpr ⟨(zo_icmp_tl _ _ _), ?_⟩
  refine List.forall_mem_cons.mpr ⟨zo_none_tl, ?_⟩
  refine List.forall_mem_cons.mpr ⟨zo_none_tl, ?_⟩
  refine List.forall_mem_cons.mpr ⟨(zo_pushI_tl _ _), ?_⟩
  refine List.forall_mem_cons.mpr ⟨(zo_goto_tl _), ?_⟩
  refine List.forall_mem_cons.mpr ⟨zo_none_tl, ?_⟩
  refine List.forall_mem_cons.mpr ⟨zo_none_tl, ?_⟩
  refine List.forall_mem_cons.mpr ⟨(zo_pushI_tl _ _), ?_⟩
  refine List.forall_mem_cons.mpr ⟨(zo_istore_tl _ _), ?_⟩
  refine List.forall_mem_cons.mpr ⟨zo_none_tl, ?_⟩
  refine List.forall_mem_cons.mpr ⟨(zo_iload_tl _ _), ?_⟩
  refine List.forall_mem_cons.mpr ⟨(zo_if_tl _ _ _), ?_⟩
  refine List.forall_mem_cons.mpr ⟨zo_none_tl, ?_⟩
  refine List.forall_mem_cons.mpr ⟨zo_none_tl, ?_⟩
  refine List.forall_mem_cons.mpr ⟨(zo_iload_tl _ _), ?_⟩
  refine List.forall_mem_cons.mpr ⟨zo_none_tl, ?_⟩
  refine List.forall_mem_cons.mpr ⟨(zo_if_tl _ _ _), ?_⟩
  refine List.forall_mem_cons.mpr ⟨zo_none_tl, ?_⟩
  refine List.forall_mem_cons.mpr ⟨zo_none_tl, ?_⟩
  refine List.forall_mem_cons.mpr ⟨(zo_iload_tl _ _), ?_⟩
  refine List.forall_mem_cons.mpr ⟨(zo_pushI_tl _ _), ?_⟩
  refine List.forall_mem_cons.mpr ⟨(zo_icmp_tl _ _ _), ?_⟩
  refine List.forall_mem_cons.mpr ⟨zo_none_tl, ?_⟩
  refine List.forall_mem_cons.mpr ⟨zo_none_tl, ?_⟩
  refine List.forall_mem_cons.mpr ⟨(zo_pushI_tl _ _), ?_⟩
  refine List.forall_mem_cons.mpr ⟨(zo_goto_tl _), ?_⟩
  refine List.forall_mem_cons.mpr ⟨zo_none_tl, ?_⟩
  refine List.forall_mem_cons.mpr ⟨zo_none_tl, ?_⟩
  refine List.forall_mem_cons.mpr ⟨(zo_pushI_tl _ _), ?_⟩
  refine List.forall_mem_cons.mpr ⟨(zo_goto_tl _), ?_⟩
  refine List.forall_mem_cons.mpr ⟨zo_none_tl, ?_⟩
  refine List.forall_mem_cons.mpr ⟨zo_none_tl, ?_⟩
  refine List.forall_mem_cons.mpr ⟨(zo_iload_tl _ _), ?_⟩
  refine List.forall_mem_cons.mpr ⟨zo_none_tl, ?_⟩
  refine List.forall_mem_cons.mpr ⟨(zo_iload_tl _ _), ?_⟩
  refine List.forall_mem_cons.mpr ⟨zo_none_tl, ?_⟩
  refine List.forall_mem_cons.mpr ⟨(zo_icmp_tl _ _ _), ?_⟩
  refine List.forall_mem_cons.mpr ⟨zo_none_tl, ?_⟩
  refine List.forall_mem_cons.mpr ⟨zo_none_tl, ?_⟩
  refine List.forall_mem_cons.mpr ⟨(zo_pushI_tl _ _), ?_⟩
  refine List.forall_mem_cons.mpr ⟨(zo_goto_tl _), ?_⟩
  refine List.forall_mem_cons.mpr ⟨zo_none_tl, ?_⟩
  refine List.forall_mem_cons.mpr ⟨zo_none_tl, ?_⟩
  refine List.forall_mem_cons.mpr ⟨(zo_pushI_tl _ _), ?_⟩
  refine List.forall_mem_cons.mpr ⟨(zo_istore_tl _ _), ?_⟩
  refine List.forall_mem_cons.mpr ⟨zo_none_tl, ?_⟩
  refine List.forall_mem_cons.mpr ⟨(zo_iload_tl _ _), ?_⟩
  refine List.forall_mem_cons.mpr ⟨zo_none_tl, ?_⟩
  refine List.forall_mem_cons.mpr ⟨(zo_if_tl _ _ _), ?_⟩
  refine List.forall_mem_cons.mpr ⟨zo_none_tl, ?_⟩
  refine List.forall_mem_cons.mpr ⟨zo_none_tl, ?_⟩
  refine List.forall_mem_cons.mpr ⟨(zo_iload_tl _ _), ?_⟩
  refine List.forall_mem_cons.mpr ⟨zo_none_tl, ?_⟩
  refine List.forall_mem_cons.mpr ⟨(zo_goto_tl _), ?_⟩
  refine List.forall_mem_cons.mpr ⟨zo_none_tl, ?_⟩
  refine List.forall_mem_cons.mpr ⟨zo_none_tl, ?_⟩
  refine List.forall_mem_cons.mpr ⟨(zo_iload_tl _ _), ?_⟩
  refine List.forall_mem_cons.mpr ⟨(zo_istore_tl _ _), ?_⟩
  refine List.forall_mem_cons.mpr ⟨(zo_iload_tl _ _), ?_⟩
  refine List.forall_mem_cons.mpr ⟨zo_none_tl, ?_⟩
  refine List.forall_mem_cons.mpr ⟨(zo_if_tl _ _ _), ?_⟩
  refine List.forall_mem_cons.mpr ⟨zo_none_tl, ?_⟩
  refine List.forall_mem_cons.mpr ⟨zo_none_tl, ?_⟩
  refine List.forall_mem_cons.mpr ⟨(zo_iload_tl _ _), ?_⟩
  refine List.forall_mem_cons.mpr ⟨zo_none_tl, ?_⟩
  refine List.forall_mem_cons.mpr ⟨(zo_goto_tl _), ?_⟩
  refine List.forall_mem_cons.mpr ⟨zo_none_tl, ?_⟩
  refine List.forall_mem_cons.mpr ⟨zo_none_tl, ?_⟩
  refine List.forall_mem_cons.mpr ⟨(zo_iload_tl _ _), ?_⟩
  refine List.forall_mem_cons.mpr ⟨zo_none_tl, ?_⟩
  refine List.forall_mem_cons.mpr ⟨(zo_istore_tl _ _), ?_⟩
  refine List.forall_mem_cons.mpr ⟨zo_none_tl, ?_⟩
  refine List.forall_mem_cons.mpr ⟨(zo_iinc_tl _ _ _), ?_⟩
  refine List.forall_mem_cons.mpr ⟨zo_none_tl, ?_⟩
  refine List.forall_mem_cons.mpr ⟨zo_none_tl, ?_⟩
  refine List.forall_mem_cons.mpr ⟨(zo_goto_tl _), ?_⟩
  refine List.forall_mem_cons.mpr ⟨zo_none_tl, ?_⟩
  refine List.forall_mem_cons.mpr ⟨zo_none_tl, ?_⟩
  refine List.forall_mem_cons.mpr ⟨(zo_iload_tl _ _), ?_⟩
  refine List.forall_mem_cons.mpr ⟨(zo_iret_tl _), ?_⟩
  exact fun _ h => absurd h List.not_mem_nil
noncomputable def fX12_podOf : zzFn := zz_fn tX12_podOf 9
set_option maxRecDepth 100000 in
set_option maxHeartbeats 4000000 in
theorem mm_X12_podOf {l : Launch} {D : va_G} {cA : Nat → ClassId} {ad : Nat → Nat} {Ex : (Nat → Prop) → State → Heap → Prop} (Wd : zzWR l D cA ad Ex) : zz_Cn l D zzCl cA ad zzSR Ex yX12_podOf cX12_podOf 9 (some .int) 4 90 fX12_podOf ∧ zz_Cx l D zzCl cA ad zzSR Ex yX12_podOf cX12_podOf 9 (some .int) 4 90 fX12_podOf := by
  refine zz_meth (plainFor_of_name (by decide)) Wd.1 Wd.2.1 Wd.2.2 (fun p e R s m args below meth c rr X => ?_)
  unfold tX12_podOf
  refine zz_cons (k' := 1) rfl (zk_iconst X dX12_podOf_0 (by decide) rfl) ?_
  refine zz_cons (k' := 2) rfl (zk_istore_n X dX12_podOf_1 rfl (by decide) rfl) ?_
  refine zz_cons (k' := 3) rfl (zk_iconst X dX12_podOf_2 (by decide) rfl) ?_
  refine zz_cons (k' := 4) rfl (zk_istore X dX12_podOf_3 (by decide) rfl) ?_
  refine zz_cons (k' := 5) rfl (zz_Ok_none _ _) ?_
  refine zz_cons (k' := 6) rfl (zk_iconst X dX12_podOf_5 (by decide) rfl) ?_
  refine zz_cons (k' := 7) rfl (zk_istore X dX12_podOf_6 (by decide) rfl) ?_
  refine zz_cons (k' := 8) rfl (zz_Ok_none _ _) ?_
  refine zz_cons (k' := 9) rfl (zk_iload X dX12_podOf_8 rfl) ?_
  refine zz_cons (k' := 10) rfl (zz_Ok_none _ _) ?_
  refine zz_cons (k' := 11) rfl (zk_aload_n X dX12_podOf_10 rfl rfl) ?_
  refine zz_cons (k' := 12) rfl (zk_getf X ff_X12_137 dX12_podOf_11 rfl) ?_
  refine zz_cons (k' := 13) rfl (zz_Ok_none _ _) ?_
  refine zz_cons (k' := 14) rfl (zz_Ok_none _ _) ?_
  refine zz_cons (k' := 15) rfl (zk_icmp_ge X dX12_podOf_14 (by decide) rfl) ?_
  refine zz_cons (k' := 16) rfl (zz_Ok_none _ _) ?_
  refine zz_cons (k' := 17) rfl (zz_Ok_none _ _) ?_
  refine zz_cons (k' := 18) rfl (zk_aload_n X dX12_podOf_17 rfl rfl) ?_
  refine zz_cons (k' := 19) rfl (zk_iload X dX12_podOf_18 rfl) ?_
  refine zz_cons (k' := 20) rfl (zz_Ok_none _ _) ?_
  refine zz_cons (k' := 21) rfl (zk_iconst X dX12_podOf_20 (by decide) rfl) ?_
  refine zz_cons (k' := 22) rfl (zk_iload_n X dX12_podOf_21 rfl rfl) ?_
  refine zz_cons (k' := 23) rfl (zk_callv X (zz_Cv_of (List.forall_mem_cons.mpr ⟨⟨(RX_10, zzT10, 50), yX12_isOwned, cX12_isOwned, 4, (some .boolean), 3, 67, rfl, kv_X12_273_10.1, (mm_X12_isOwned Wd).1, by decide, by decide⟩, (fun _ h => absurd h List.not_mem_nil)⟩)) dX12_podOf_22 rfl) ?_
  refine zz_cons (k' := 24) rfl (zz_Ok_none _ _) ?_
  refine zz_cons (k' := 25) rfl (zz_Ok_none _ _) ?_
  refine zz_cons (k' := 26) rfl (zk_if_eq X dX12_podOf_25 (by decide) rfl) ?_
  refine zz_cons (k' := 27) rfl (zz_Ok_none _ _) ?_
  refine zz_cons (k' := 28) rfl (zz_Ok_none _ _) ?_
  refine zz_cons (k' := 29) rfl (zk_aload_n X dX12_podOf_28 rfl rfl) ?_
  refine zz_cons (k' := 30) rfl (zk_iload X dX12_podOf_29 rfl) ?_
  refine zz_cons (k' := 31) rfl (zz_Ok_none _ _) ?_
  refine zz_cons (k' := 32) rfl (zk_bipush X dX12_podOf_31 (by decide) rfl) ?_
  refine zz_cons (k' := 33) rfl (zz_Ok_none _ _) ?_
  refine zz_cons (k' := 34) rfl (zk_callv X (zz_Cv_of (List.forall_mem_cons.mpr ⟨⟨(RX_10, zzT10, 50), yX12_viewed, cX12_viewed, 3, (some .int), 1, 23, rfl, kv_X12_204_10.1, (mm_X12_viewed Wd).1, by decide, by decide⟩, (fun _ h => absurd h List.not_mem_nil)⟩)) dX12_podOf_33 rfl) ?_
  refine zz_cons (k' := 35) rfl (zz_Ok_none _ _) ?_
  refine zz_cons (k' := 36) rfl (zz_Ok_none _ _) ?_
  refine zz_cons (k' := 37) rfl (zk_if_ne X dX12_podOf_36 (by decide) rfl) ?_
  refine zz_cons (k' := 38) rfl (zz_Ok_none _ _) ?_
  refine zz_cons (k' := 39) rfl (zz_Ok_none _ _) ?_
  refine zz_cons (k' := 40) rfl (zk_iconst X dX12_podOf_39 (by decide) rfl) ?_
  refine zz_cons (k' := 41) rfl (zk_goto X dX12_podOf_40 (by decide)) ?_
  refine zz_cons (k' := 42) rfl (zz_Ok_none _ _) ?_
  refine zz_cons (k' := 43) rfl (zz_Ok_none _ _) ?_
  refine zz_cons (k' := 44) rfl (zk_aload_n X dX12_podOf_43 rfl rfl) ?_
  refine zz_cons (k' := 45) rfl (zk_iload X dX12_podOf_44 rfl) ?_
  refine zz_cons (k' := 46) rfl (zz_Ok_none _ _) ?_
  refine zz_cons (k' := 47) rfl (zk_bipush X dX12_podOf_46 (by decide) rfl) ?_
  refine zz_cons (k' := 48) rfl (zz_Ok_none _ _) ?_
  refine zz_cons (k' := 49) rfl (zk_callv X (zz_Cv_of (List.forall_mem_cons.mpr ⟨⟨(RX_10, zzT10, 50), yX12_viewed, cX12_viewed, 3, (some .int), 1, 23, rfl, kv_X12_204_10.1, (mm_X12_viewed Wd).1, by decide, by decide⟩, (fun _ h => absurd h List.not_mem_nil)⟩)) dX12_podOf_48 rfl) ?_
  refine zz_cons (k' := 50) rfl (zz_Ok_none _ _) ?_
  refine zz_cons (k' := 51) rfl (zz_Ok_none _ _) ?_
  refine zz_cons (k' := 52) rfl (zk_if_ne X dX12_podOf_51 (by decide) rfl) ?_
  refine zz_cons (k' := 53) rfl (zz_Ok_none _ _) ?_
  refine zz_cons (k' := 54) rfl (zz_Ok_none _ _) ?_
  refine zz_cons (k' := 55) rfl (zk_iconst X dX12_podOf_54 (by decide) rfl) ?_
  refine zz_cons (k' := 56) rfl (zk_goto X dX12_podOf_55 (by decide)) ?_
  refine zz_cons (k' := 57) rfl (zz_Ok_none _ _) ?_
  refine zz_cons (k' := 58) rfl (zz_Ok_none _ _) ?_
  refine zz_cons (k' := 59) rfl (zk_iconst X dX12_podOf_58 (by decide) rfl) ?_
  refine zz_cons (k' := 60) rfl (zk_istore X dX12_podOf_59 (by decide) rfl) ?_
  refine zz_cons (k' := 61) rfl (zz_Ok_none _ _) ?_
  refine zz_cons (k' := 62) rfl (zk_aload_n X dX12_podOf_61 rfl rfl) ?_
  refine zz_cons (k' := 63) rfl (zk_iload X dX12_podOf_62 rfl) ?_
  refine zz_cons (k' := 64) rfl (zz_Ok_none _ _) ?_
  refine zz_cons (k' := 65) rfl (zk_bipush X dX12_podOf_64 (by decide) rfl) ?_
  refine zz_cons (k' := 66) rfl (zz_Ok_none _ _) ?_
  refine zz_cons (k' := 67) rfl (zk_callv X (zz_Cv_of (List.forall_mem_cons.mpr ⟨⟨(RX_10, zzT10, 50), yX12_viewed, cX12_viewed, 3, (some .int), 1, 23, rfl, kv_X12_204_10.1, (mm_X12_viewed Wd).1, by decide, by decide⟩, (fun _ h => absurd h List.not_mem_nil)⟩)) dX12_podOf_66 rfl) ?_
  refine zz_cons (k' := 68) rfl (zz_Ok_none _ _) ?_
  refine zz_cons (k' := 69) rfl (zz_Ok_none _ _) ?_
  refine zz_cons (k' := 70) rfl (zk_iconst X dX12_podOf_69 (by decide) rfl) ?_
  refine zz_cons (k' := 71) rfl (zk_icmp_eq X dX12_podOf_70 (by decide) rfl) ?_
  refine zz_cons (k' := 72) rfl (zz_Ok_none _ _) ?_
  refine zz_cons (k' := 73) rfl (zz_Ok_none _ _) ?_
  refine zz_cons (k' := 74) rfl (zk_aload_n X dX12_podOf_73 rfl rfl) ?_
  refine zz_cons (k' := 75) rfl (zk_iload X dX12_podOf_74 rfl) ?_
  refine zz_cons (k' := 76) rfl (zz_Ok_none _ _) ?_
  refine zz_cons (k' := 77) rfl (zk_bipush X dX12_podOf_76 (by decide) rfl) ?_
  refine zz_cons (k' := 78) rfl (zz_Ok_none _ _) ?_
  refine zz_cons (k' := 79) rfl (zk_callv X (zz_Cv_of (List.forall_mem_cons.mpr ⟨⟨(RX_10, zzT10, 50), yX12_viewed, cX12_viewed, 3, (some .int), 1, 23, rfl, kv_X12_204_10.1, (mm_X12_viewed Wd).1, by decide, by decide⟩, (fun _ h => absurd h List.not_mem_nil)⟩)) dX12_podOf_78 rfl) ?_
  refine zz_cons (k' := 80) rfl (zz_Ok_none _ _) ?_
  refine zz_cons (k' := 81) rfl (zz_Ok_none _ _) ?_
  refine zz_cons (k' := 82) rfl (zk_iconst X dX12_podOf_81 (by decide) rfl) ?_
  refine zz_cons (k' := 83) rfl (zk_icmp_ne X dX12_podOf_82 (by decide) rfl) ?_
  refine zz_cons (k' := 84) rfl (zz_Ok_none _ _) ?_
  refine zz_cons (k' := 85) rfl (zz_Ok_none _ _) ?_
  refine zz_cons (k' := 86) rfl (zk_iconst X dX12_podOf_85 (by decide) rfl) ?_
  refine zz_cons (k' := 87) rfl (zk_goto X dX12_podOf_86 (by decide)) ?_
  refine zz_cons (k' := 88) rfl (zz_Ok_none _ _) ?_
  refine zz_cons (k' := 89) rfl (zz_Ok_none _ _) ?_
  refine zz_cons (k' := 90) rfl (zk_iconst X dX12_podOf_89 (by decide) rfl) ?_
  refine zz_cons (k' := 91) rfl (zk_istore X dX12_podOf_90 (by decide) rfl) ?_
  refine zz_cons (k' := 92) rfl (zz_Ok_none _ _) ?_
  refine zz_cons (k' := 93) rfl (zk_iload_n X dX12_podOf_92 rfl rfl) ?_
  refine zz_cons (k' := 94) rfl (zk_if_ne X dX12_podOf_93 (by decide) rfl) ?_
  refine zz_cons (k' := 95) rfl (zz_Ok_none _ _) ?_
  refine zz_cons (k' := 96) rfl (zz_Ok_none _ _) ?_
  refine zz_cons (k' := 97) rfl (zk_iload X dX12_podOf_96 rfl) ?_
  refine zz_cons (k' := 98) rfl (zz_Ok_none _ _) ?_
  refine zz_cons (k' := 99) rfl (zk_if_eq X dX12_podOf_98 (by decide) rfl) ?_
  refine zz_cons (k' := 100) rfl (zz_Ok_none _ _) ?_
  refine zz_cons (k' := 101) rfl (zz_Ok_none _ _) ?_
  refine zz_cons (k' := 102) rfl (zk_iload_n X dX12_podOf_101 rfl rfl) ?_
  refine zz_cons (k' := 103) rfl (zk_iconst X dX12_podOf_102 (by decide) rfl) ?_
  refine zz_cons (k' := 104) rfl (zk_icmp_ne X dX12_podOf_103 (by decide) rfl) ?_
  refine zz_cons (k' := 105) rfl (zz_Ok_none _ _) ?_
  refine zz_cons (k' := 106) rfl (zz_Ok_none _ _) ?_
  refine zz_cons (k' := 107) rfl (zk_iconst X dX12_podOf_106 (by decide) rfl) ?_
  refine zz_cons (k' := 108) rfl (zk_goto X dX12_podOf_107 (by decide)) ?_
  refine zz_cons (k' := 109) rfl (zz_Ok_none _ _) ?_
  refine zz_cons (k' := 110) rfl (zz_Ok_none _ _) ?_
  refine zz_cons (k' := 111) rfl (zk_iconst X dX12_podOf_110 (by decide) rfl) ?_
  refine zz_cons (k' := 112) rfl (zk_goto X dX12_podOf_111 (by decide)) ?_
  refine zz_cons (k' := 113) rfl (zz_Ok_none _ _) ?_
  refine zz_cons (k' := 114) rfl (zz_Ok_none _ _) ?_
  refine zz_cons (k' := 115) rfl (zk_iload X dX12_podOf_114 rfl) ?_
  refine zz_cons (k' := 116) rfl (zz_Ok_none _ _) ?_
  refine zz_cons (k' := 117) rfl (zk_iload X dX12_podOf_116 rfl) ?_
  refine zz_cons (k' := 118) rfl (zz_Ok_none _ _) ?_
  refine zz_cons (k' := 119) rfl (zk_icmp_lt X dX12_podOf_118 (by decide) rfl) ?_
  refine zz_cons (k' := 120) rfl (zz_Ok_none _ _) ?_
  refine zz_cons (k' := 121) rfl (zz_Ok_none _ _) ?_
  refine zz_cons (k' := 122) rfl (zk_iconst X dX12_podOf_121 (by decide) rfl) ?_
  refine zz_cons (k' := 123) rfl (zk_goto X dX12_podOf_122 (by decide)) ?_
  refine zz_cons (k' := 124) rfl (zz_Ok_none _ _) ?_
  refine zz_cons (k' := 125) rfl (zz_Ok_none _ _) ?_
  refine zz_cons (k' := 126) rfl (zk_iconst X dX12_podOf_125 (by decide) rfl) ?_
  refine zz_cons (k' := 127) rfl (zk_istore X dX12_podOf_126 (by decide) rfl) ?_
  refine zz_cons (k' := 128) rfl (zz_Ok_none _ _) ?_
  refine zz_cons (k' := 129) rfl (zk_iload X dX12_podOf_128 rfl) ?_
  refine zz_cons (k' := 130) rfl (zz_Ok_none _ _) ?_
  refine zz_cons (k' := 131) rfl (zk_if_eq X dX12_podOf_130 (by decide) rfl) ?_
  refine zz_cons (k' := 132) rfl (zz_Ok_none _ _) ?_
  refine zz_cons (k' := 133) rfl (zz_Ok_none _ _) ?_
  refine zz_cons (k' := 134) rfl (zk_iload X dX12_podOf_133 rfl) ?_
  refine zz_cons (k' := 135) rfl (zz_Ok_none _ _) ?_
  refine zz_cons (k' := 136) rfl (zk_goto X dX12_podOf_135 (by decide)) ?_
  refine zz_cons (k' := 137) rfl (zz_Ok_none _ _) ?_
  refine zz_cons (k' := 138) rfl (zz_Ok_none _ _) ?_
  refine zz_cons (k' := 139) rfl (zk_iload_n X dX12_podOf_138 rfl rfl) ?_
  refine zz_cons (k' := 140) rfl (zk_istore_n X dX12_podOf_139 rfl (by decide) rfl) ?_
  refine zz_cons (k' := 141) rfl (zk_iload X dX12_podOf_140 rfl) ?_
  refine zz_cons (k' := 142) rfl (zz_Ok_none _ _) ?_
  refine zz_cons (k' := 143) rfl (zk_if_eq X dX12_podOf_142 (by decide) rfl) ?_
  refine zz_cons (k' := 144) rfl (zz_Ok_none _ _) ?_
  refine zz_cons (k' := 145) rfl (zz_Ok_none _ _) ?_
  refine zz_cons (k' := 146) rfl (zk_iload X dX12_podOf_145 rfl) ?_
  refine zz_cons (k' := 147) rfl (zz_Ok_none _ _) ?_
  refine zz_cons (k' := 148) rfl (zk_goto X dX12_podOf_147 (by decide)) ?_
  refine zz_cons (k' := 149) rfl (zz_Ok_none _ _) ?_
  refine zz_cons (k' := 150) rfl (zz_Ok_none _ _) ?_
  refine zz_cons (k' := 151) rfl (zk_iload X dX12_podOf_150 rfl) ?_
  refine zz_cons (k' := 152) rfl (zz_Ok_none _ _) ?_
  refine zz_cons (k' := 153) rfl (zk_istore X dX12_podOf_152 (by decide) rfl) ?_
  refine zz_cons (k' := 154) rfl (zz_Ok_none _ _) ?_
  refine zz_cons (k' := 155) rfl (zk_iinc X dX12_podOf_154 (by decide) (by decide) rfl) ?_
  refine zz_cons (k' := 156) rfl (zz_Ok_none _ _) ?_
  refine zz_cons (k' := 157) rfl (zz_Ok_none _ _) ?_
  refine zz_cons (k' := 158) rfl (zk_goto X dX12_podOf_157 (by decide)) ?_
  refine zz_cons (k' := 159) rfl (zz_Ok_none _ _) ?_
  refine zz_cons (k' := 160) rfl (zz_Ok_none _ _) ?_
  refine zz_cons (k' := 161) rfl (zk_iload_n X dX12_podOf_160 rfl rfl) ?_
  refine zz_cons (k' := 162) rfl (zk_iret X rfl dX12_podOf_161) ?_
  exact trivial
noncomputable def tX12_replicates : List zzOp := [
  zo_aload 0 1,
  zo_aload 0 2,
  zo_getf zzSR (zz_kf [10] 43) 5,
  zo_none,
  zo_none,
  zo_pushI 1 6,
  zo_callv zzSR (zz_cl [(10, fX12_stays)]) 2 9,
  zo_none,
  zo_none,
  zo_if (fun x => decide (¬ x = 0)) 14 12,
  zo_none,
  zo_none,
  zo_pushI 1 13,
  zo_iret true,
  zo_aload 0 15,
  zo_aload 0 16,
  zo_getf zzSR (zz_kf [10] 43) 19,
  zo_none,
  zo_none,
  zo_pushI 0 20,
  zo_callv zzSR (zz_cl [(10, fX12_podOf)]) 2 23,
  zo_none,
  zo_none,
  zo_istore 1 24,
  zo_iload 1 25,
  zo_pushI (-1) 26,
  zo_icmp (fun x y => decide (x = y)) 35 29,
  zo_none,
  zo_none,
  zo_aload 0 30,
  zo_iload 1 31,
  zo_callv zzSR (zz_cl [(10, fX12_deletes)]) 1 34,
  zo_none,
  zo_none,
  zo_iret true,
  zo_aload 0 36,
  zo_aload 0 37,
  zo_getf zzSR (zz_kf [10] 43) 40,
  zo_none,
  zo_none,
  zo_pushI 15 42,
  zo_none,
  zo_callv zzSR (zz_cl [(10, fX12_pods)]) 2 45,
  zo_none,
  zo_none,
  zo_istore 2 46,
  zo_aload 0 47,
  zo_aload 0 48,
  zo_getf zzSR (zz_kf [10] 43) 51,
  zo_none,
  zo_none,
  zo_pushI 0 52,
  zo_callv zzSR (zz_cl [(10, fX12_viewed)]) 2 55,
  zo_none,
  zo_none,
  zo_istore 3 56,
  zo_iload 2 57,
  zo_iload 3 58,
  zo_icmp (fun x y => decide (y ≤ x)) 80 61,
  zo_none,
  zo_none,
  zo_aload 0 62,
  zo_pushI 2 63,
  zo_aload 0 64,
  zo_getf zzSR (zz_kf [10] 43) 67,
  zo_none,
  zo_none,
  zo_aload 0 68,
  zo_aload 0 69,
  zo_getf zzSR (zz_kf [10] 43) 72,
  zo_none,
  zo_none,
  zo_pushI 1 73,
  zo_callv zzSR (zz_cl [(10, fX12_viewed)]) 2 76,
  zo_none,
  zo_none,
  zo_callv zzSR (zz_cl [(10, fX12_makesOne)]) 3 79,
  zo_none,
  zo_none,
  zo_iret true,
  zo_iload 2 81,
  zo_iload 3 82,
  zo_icmp (fun x y => decide (x = y)) 101 85,
  zo_none,
  zo_none,
  zo_aload 0 86,
  zo_aload 0 87,
  zo_aload 0 88,
  zo_getf zzSR (zz_kf [10] 43) 91,
  zo_none,
  zo_none,
  zo_pushI 1 92,
  zo_callv zzSR (zz_cl [(10, fX12_podOf)]) 2 95,
  zo_none,
  zo_none,
  zo_callv zzSR (zz_cl [(10, fX12_deletes)]) 1 98,
  zo_none,
  zo_none,
  zo_if (fun x => decide (x = 0)) 105 101,
  zo_none,
  zo_none,
  zo_pushI 1 102,
  zo_goto 106,
  zo_none,
  zo_none,
  zo_pushI 0 106,
  zo_iret true]
set_option maxRecDepth 100000 in
theorem tl_X12_replicates : ∀ pc, zz_Tl (tX12_replicates.getD pc zo_none) := by
  refine zz_Tl_mem ?_
  unfold tX12_replicates
  refine List.forall_mem_cons.mpr ⟨(zo_aload_tl _ _), ?_⟩
  refine List.forall_mem_cons.mpr ⟨(zo_aload_tl _ _), ?_⟩
  refine List.forall_mem_cons.mpr ⟨(zo_getf_tl _ _ _), ?_⟩
  refine List.forall_mem_cons.mpr ⟨zo_none_tl, ?_⟩
  refine List.forall_mem_cons.mpr ⟨zo_none_tl, ?_⟩
  refine List.forall_mem_cons.mpr ⟨(zo_pushI_tl _ _), ?_⟩
  refine List.forall_mem_cons.mpr ⟨(zo_callv_tl _ _ _ _), ?_⟩
  refine List.forall_mem_cons.mpr ⟨zo_none_tl, ?_⟩
  refine List.forall_mem_cons.mpr ⟨zo_none_tl, ?_⟩
  refine List.forall_mem_cons.mpr ⟨(zo_if_tl _ _ _), ?_⟩
  refine List.forall_mem_cons.mpr ⟨zo_none_tl, ?_⟩
  refine List.forall_mem_cons.mpr ⟨zo_none_tl, ?_⟩
  refine List.forall_mem_cons.mpr ⟨(zo_pushI_tl _ _), ?_⟩
  refine List.forall_mem_cons.mpr ⟨(zo_iret_tl _), ?_⟩
  refine List.forall_mem_cons.mpr ⟨(zo_aload_tl _ _), ?_⟩
  refine List.forall_mem_cons.mpr ⟨(zo_aload_tl _ _), ?_⟩
  refine List.forall_mem_cons.mpr ⟨(zo_getf_tl _ _ _), ?_⟩
  refine List.forall_mem_cons.mpr ⟨zo_none_tl, ?_⟩
  refine List.forall_mem_cons.mpr ⟨zo_none_tl, ?_⟩
  refine List.forall_mem_cons.mpr ⟨(zo_pushI_tl _ _), ?_⟩
  refine List.forall_mem_cons.mpr ⟨(zo_callv_tl _ _ _ _), ?_⟩
  refine List.forall_mem_cons.mpr ⟨zo_none_tl, ?_⟩
  refine List.forall_mem_cons.mpr ⟨zo_none_tl, ?_⟩
  refine List.forall_mem_cons.mpr ⟨(zo_istore_tl _ _), ?_⟩
  refine List.forall_mem_cons.mpr ⟨(zo_iload_tl _ _), ?_⟩
  refine List.forall_mem_cons.mpr ⟨(zo_pushI_tl _ _), ?_⟩
  refine List.forall_mem_cons.mpr ⟨(zo_icmp_tl _ _ _), ?_⟩
  refine List.forall_mem_cons.mpr ⟨zo_none_tl, ?_⟩
  refine List.forall_mem_cons.mpr ⟨zo_none_tl, ?_⟩
  refine List.forall_mem_cons.mpr ⟨(zo_aload_tl _ _), ?_⟩
  refine List.forall_mem_cons.mpr ⟨(zo_iload_tl _ _), ?_⟩
  refine List.forall_mem_cons.mpr ⟨(zo_callv_tl _ _ _ _), ?_⟩
  refine List.forall_mem_cons.mpr ⟨zo_none_tl, ?_⟩
  refine List.forall_mem_cons.mpr ⟨zo_none_tl, ?_⟩
  refine List.forall_mem_cons.mpr ⟨(zo_iret_tl _), ?_⟩
  refine List.forall_mem_cons.mpr ⟨(zo_aload_tl _ _), ?_⟩
  refine List.forall_mem_cons.mpr ⟨(zo_aload_tl _ _), ?_⟩
  refine List.forall_mem_cons.mpr ⟨(zo_getf_tl _ _ _), ?_⟩
  refine List.forall_mem_cons.mpr ⟨zo_none_tl, ?_⟩
  refine List.forall_mem_cons.mpr ⟨zo_none_tl, ?_⟩
  refine List.forall_mem_cons.mpr ⟨(zo_pushI_tl _ _), ?_⟩
  refine List.forall_mem_cons.mpr ⟨zo_none_tl, ?_⟩
  refine List.forall_mem_cons.mpr ⟨(zo_callv_tl _ _ _ _), ?_⟩
  refine List.forall_mem_cons.mpr ⟨zo_none_tl, ?_⟩
  refine List.forall_mem_cons.mpr ⟨zo_none_tl, ?_⟩
  refine List.forall_mem_cons.mpr ⟨(zo_istore_tl _ _), ?_⟩
  refine List.forall_mem_cons.mpr ⟨(zo_aload_tl _ _), ?_⟩
  refine List.forall_mem_cons.mpr ⟨(zo_aload_tl _ _), ?_⟩
  refine List.forall_mem_cons.mpr ⟨(zo_getf_tl _ _ _), ?_⟩
  refine List.forall_mem_cons.mpr ⟨zo_none_tl, ?_⟩
  refine List.forall_mem_cons.mpr ⟨zo_none_tl, ?_⟩
  refine List.forall_mem_cons.mpr ⟨(zo_pushI_tl _ _), ?_⟩
  refine List.forall_mem_cons.mpr ⟨(zo_callv_tl _ _ _ _), ?_⟩
  refine List.forall_mem_cons.mpr ⟨zo_none_tl, ?_⟩
  refine List.forall_mem_cons.mpr ⟨zo_none_tl, ?_⟩
  refine List.forall_mem_cons.mpr ⟨(zo_istore_tl _ _), ?_⟩
  refine List.forall_mem_cons.mpr ⟨(zo_iload_tl _ _), ?_⟩
  refine List.forall_mem_cons.mpr ⟨(zo_iload_tl _ _), ?_⟩
  refine List.forall_mem_cons.mpr ⟨(zo_icmp_tl _ _ _), ?_⟩
  refine List.forall_mem_cons.mpr ⟨zo_none_tl, ?_⟩
  refine List.forall_mem_cons.mpr ⟨zo_none_tl, ?_⟩
  refine List.forall_mem_cons.mpr ⟨(zo_aload_tl _ _), ?_⟩
  refine List.forall_mem_cons.mpr ⟨(zo_pushI_tl _ _), ?_⟩
  refine List.forall_mem_cons.mpr ⟨(zo_aload_tl _ _), ?_⟩
  refine List.forall_mem_cons.mpr ⟨(zo_getf_tl _ _ _), ?_⟩
  refine List.forall_mem_cons.mpr ⟨zo_none_tl, ?_⟩
  refine List.forall_mem_cons.mpr ⟨zo_none_tl, ?_⟩
  refine List.forall_mem_cons.mpr ⟨(zo_aload_tl _ _), ?_⟩
  refine List.forall_mem_cons.mpr ⟨(zo_aload_tl _ _), ?_⟩
  refine List.forall_mem_cons.mpr ⟨(zo_getf_tl _ _ _), ?_⟩
  refine List.forall_mem_cons.mpr ⟨zo_none_tl, ?_⟩
  refine List.forall_mem_cons.mpr ⟨zo_none_tl, ?_⟩
  refine List.forall_mem_cons.mpr ⟨(zo_pushI_tl _ _), ?_⟩
  refine List.forall_mem_cons.mpr ⟨(zo_callv_tl _ _ _ _), ?_⟩
  refine List.forall_mem_cons.mpr ⟨zo_none_tl, ?_⟩
  refine List.forall_mem_cons.mpr ⟨zo_none_tl, ?_⟩
  refine List.forall_mem_cons.mpr ⟨(zo_callv_tl _ _ _ _), ?_⟩
  refine List.forall_mem_cons.mpr ⟨zo_none_tl, ?_⟩
  refine List.forall_mem_cons.mpr ⟨zo_none_tl, ?_⟩
  refine List.forall_mem_cons.mpr ⟨(zo_iret_tl _), ?_⟩
  refine List.forall_mem_cons.mpr ⟨(zo_iload_tl _ _), ?_⟩
  refine List.forall_mem_cons.mpr ⟨(zo_iload_tl _ _), ?_⟩
  refine List.forall_mem_cons.mpr ⟨(zo_icmp_tl _ _ _), ?_⟩
  refine List.forall_mem_cons.mpr ⟨zo_none_tl, ?_⟩
  refine List.forall_mem_cons.mpr ⟨zo_none_tl, ?_⟩
  refine List.forall_mem_cons.mpr ⟨(zo_aload_tl _ _), ?_⟩
  refine List.forall_mem_cons.mpr ⟨(zo_aload_tl _ _), ?_⟩
  refine List.forall_mem_cons.mpr ⟨(zo_aload_tl _ _), ?_⟩
  refine List.forall_mem_cons.mpr ⟨(zo_getf_tl _ _ _), ?_⟩
  refine List.forall_mem_cons.mpr ⟨zo_none_tl, ?_⟩
  refine List.forall_mem_cons.mpr ⟨zo_none_tl, ?_⟩
  refine List.forall_mem_cons.mpr ⟨(zo_pushI_tl _ _), ?_⟩
  refine List.forall_mem_cons.mpr ⟨(zo_callv_tl _ _ _ _), ?_⟩
  refine List.forall_mem_cons.mpr ⟨zo_none_tl, ?_⟩
  refine List.forall_mem_cons.mpr ⟨zo_none_tl, ?_⟩
  refine List.forall_mem_cons.mpr ⟨(zo_callv_tl _ _ _ _), ?_⟩
  refine List.forall_mem_cons.mpr ⟨zo_none_tl, ?_⟩
  refine List.forall_mem_cons.mpr ⟨zo_none_tl, ?_⟩
  refine List.forall_mem_cons.mpr ⟨(zo_if_tl _ _ _), ?_⟩
  refine List.forall_mem_cons.mpr ⟨zo_none_tl, ?_⟩
  refine List.forall_mem_cons.mpr ⟨zo_none_tl, ?_⟩
  refine List.forall_mem_cons.mpr ⟨(zo_pushI_tl _ _), ?_⟩
  refine List.forall_mem_cons.mpr ⟨(zo_goto_tl _), ?_⟩
  refine List.forall_mem_cons.mpr ⟨zo_none_tl, ?_⟩
  refine List.forall_mem_cons.mpr ⟨zo_none_tl, ?_⟩
  refine List.forall_mem_cons.mpr ⟨(zo_pushI_tl _ _), ?_⟩
  refine List.forall_mem_cons.mpr ⟨(zo_iret_tl _), ?_⟩
  exact fun _ h => absurd h List.not_mem_nil
noncomputable def fX12_replicates : zzFn := zz_fn tX12_replicates 4
set_option maxRecDepth 100000 in
set_option maxHeartbeats 4000000 in
theorem mm_X12_replicates {l : Launch} {D : va_G} {cA : Nat → ClassId} {ad : Nat → Nat} {Ex : (Nat → Prop) → State → Heap → Prop} (Wd : zzWR l D cA ad Ex) : zz_Cn l D zzCl cA ad zzSR Ex yX12_replicates cX12_replicates 4 (some .boolean) 5 118 fX12_replicates ∧ zz_Cx l D zzCl cA ad zzSR Ex yX12_replicates cX12_replicates 4 (some .boolean) 5 118 fX12_replicates := by
  refine zz_meth (plainFor_of_name (by decide)) Wd.1 Wd.2.1 Wd.2.2 (fun p e R s m args below meth c rr X => ?_)
  unfold tX12_replicates
  refine zz_cons (k' := 1) rfl (zk_aload_n X dX12_replicates_0 rfl rfl) ?_
  refine zz_cons (k' := 2) rfl (zk_aload_n X dX12_replicates_1 rfl rfl) ?_
  refine zz_cons (k' := 3) rfl (zk_getf X ff_X12_243 dX12_replicates_2 rfl) ?_
  refine zz_cons (k' := 4) rfl (zz_Ok_none _ _) ?_
  refine zz_cons (k' := 5) rfl (zz_Ok_none _ _) ?_
  refine zz_cons (k' := 6) rfl (zk_iconst X dX12_replicates_5 (by decide) rfl) ?_
  refine zz_cons (k' := 7) rfl (zk_callv X (zz_Cv_of (List.forall_mem_cons.mpr ⟨⟨(RX_10, zzT10, 50), yX12_stays, cX12_stays, 3, (some .boolean), 2, 45, rfl, kv_X12_269_10.1, (mm_X12_stays Wd).1, by decide, by decide⟩, (fun _ h => absurd h List.not_mem_nil)⟩)) dX12_replicates_6 rfl) ?_
  refine zz_cons (k' := 8) rfl (zz_Ok_none _ _) ?_
  refine zz_cons (k' := 9) rfl (zz_Ok_none _ _) ?_
  refine zz_cons (k' := 10) rfl (zk_if_ne X dX12_replicates_9 (by decide) rfl) ?_
  refine zz_cons (k' := 11) rfl (zz_Ok_none _ _) ?_
  refine zz_cons (k' := 12) rfl (zz_Ok_none _ _) ?_
  refine zz_cons (k' := 13) rfl (zk_iconst X dX12_replicates_12 (by decide) rfl) ?_
  refine zz_cons (k' := 14) rfl (zk_iret X rfl dX12_replicates_13) ?_
  refine zz_cons (k' := 15) rfl (zk_aload_n X dX12_replicates_14 rfl rfl) ?_
  refine zz_cons (k' := 16) rfl (zk_aload_n X dX12_replicates_15 rfl rfl) ?_
  refine zz_cons (k' := 17) rfl (zk_getf X ff_X12_243 dX12_replicates_16 rfl) ?_
  refine zz_cons (k' := 18) rfl (zz_Ok_none _ _) ?_
  refine zz_cons (k' := 19) rfl (zz_Ok_none _ _) ?_
  refine zz_cons (k' := 20) rfl (zk_iconst X dX12_replicates_19 (by decide) rfl) ?_
  refine zz_cons (k' := 21) rfl (zk_callv X (zz_Cv_of (List.forall_mem_cons.mpr ⟨⟨(RX_10, zzT10, 50), yX12_podOf, cX12_podOf, 9, (some .int), 4, 90, rfl, kv_X12_299_10.1, (mm_X12_podOf Wd).1, by decide, by decide⟩, (fun _ h => absurd h List.not_mem_nil)⟩)) dX12_replicates_20 rfl) ?_
  refine zz_cons (k' := 22) rfl (zz_Ok_none _ _) ?_
  refine zz_cons (k' := 23) rfl (zz_Ok_none _ _) ?_
  refine zz_cons (k' := 24) rfl (zk_istore_n X dX12_replicates_23 rfl (by decide) rfl) ?_
  refine zz_cons (k' := 25) rfl (zk_iload_n X dX12_replicates_24 rfl rfl) ?_
  refine zz_cons (k' := 26) rfl (zk_iconst X dX12_replicates_25 (by decide) rfl) ?_
  refine zz_cons (k' := 27) rfl (zk_icmp_eq X dX12_replicates_26 (by decide) rfl) ?_
  refine zz_cons (k' := 28) rfl (zz_Ok_none _ _) ?_
  refine zz_cons (k' := 29) rfl (zz_Ok_none _ _) ?_
  refine zz_cons (k' := 30) rfl (zk_aload_n X dX12_replicates_29 rfl rfl) ?_
  refine zz_cons (k' := 31) rfl (zk_iload_n X dX12_replicates_30 rfl rfl) ?_
  refine zz_cons (k' := 32) rfl (zk_callv X (zz_Cv_of (List.forall_mem_cons.mpr ⟨⟨(RX_10, zzT10, 50), yX12_deletes, cX12_deletes, 2, (some .boolean), 3, 79, rfl, kv_X12_302_10.1, (mm_X12_deletes Wd).1, by decide, by decide⟩, (fun _ h => absurd h List.not_mem_nil)⟩)) dX12_replicates_31 rfl) ?_
  refine zz_cons (k' := 33) rfl (zz_Ok_none _ _) ?_
  refine zz_cons (k' := 34) rfl (zz_Ok_none _ _) ?_
  refine zz_cons (k' := 35) rfl (zk_iret X rfl dX12_replicates_34) ?_
  refine zz_cons (k' := 36) rfl (zk_aload_n X dX12_replicates_35 rfl rfl) ?_
  refine zz_cons (k' := 37) rfl (zk_aload_n X dX12_replicates_36 rfl rfl) ?_
  refine zz_cons (k' := 38) rfl (zk_getf X ff_X12_243 dX12_replicates_37 rfl) ?_
  refine zz_cons (k' := 39) rfl (zz_Ok_none _ _) ?_
  refine zz_cons (k' := 40) rfl (zz_Ok_none _ _) ?_
  refine zz_cons (k' := 41) rfl (zk_bipush X dX12_replicates_40 (by decide) rfl) ?_
  refine zz_cons (k' := 42) rfl (zz_Ok_none _ _) ?_
  refine zz_cons (k' := 43) rfl (zk_callv X (zz_Cv_of (List.forall_mem_cons.mpr ⟨⟨(RX_10, zzT10, 50), yX12_pods, cX12_pods, 5, (some .int), 4, 90, rfl, kv_X12_279_10.1, (mm_X12_pods Wd).1, by decide, by decide⟩, (fun _ h => absurd h List.not_mem_nil)⟩)) dX12_replicates_42 rfl) ?_
  refine zz_cons (k' := 44) rfl (zz_Ok_none _ _) ?_
  refine zz_cons (k' := 45) rfl (zz_Ok_none _ _) ?_
  refine zz_cons (k' := 46) rfl (zk_istore_n X dX12_replicates_45 rfl (by decide) rfl) ?_
  refine zz_cons (k' := 47) rfl (zk_aload_n X dX12_replicates_46 rfl rfl) ?_
  refine zz_cons (k' := 48) rfl (zk_aload_n X dX12_replicates_47 rfl rfl) ?_
  refine zz_cons (k' := 49) rfl (zk_getf X ff_X12_243 dX12_replicates_48 rfl) ?_
  refine zz_cons (k' := 50) rfl (zz_Ok_none _ _) ?_
  refine zz_cons (k' := 51) rfl (zz_Ok_none _ _) ?_
  refine zz_cons (k' := 52) rfl (zk_iconst X dX12_replicates_51 (by decide) rfl) ?_
  refine zz_cons (k' := 53) rfl (zk_callv X (zz_Cv_of (List.forall_mem_cons.mpr ⟨⟨(RX_10, zzT10, 50), yX12_viewed, cX12_viewed, 3, (some .int), 1, 23, rfl, kv_X12_204_10.1, (mm_X12_viewed Wd).1, by decide, by decide⟩, (fun _ h => absurd h List.not_mem_nil)⟩)) dX12_replicates_52 rfl) ?_
  refine zz_cons (k' := 54) rfl (zz_Ok_none _ _) ?_
  refine zz_cons (k' := 55) rfl (zz_Ok_none _ _) ?_
  refine zz_cons (k' := 56) rfl (zk_istore_n X dX12_replicates_55 rfl (by decide) rfl) ?_
  refine zz_cons (k' := 57) rfl (zk_iload_n X dX12_replicates_56 rfl rfl) ?_
  refine zz_cons (k' := 58) rfl (zk_iload_n X dX12_replicates_57 rfl rfl) ?_
  refine zz_cons (k' := 59) rfl (zk_icmp_ge X dX12_replicates_58 (by decide) rfl) ?_
  refine zz_cons (k' := 60) rfl (zz_Ok_none _ _) ?_
  refine zz_cons (k' := 61) rfl (zz_Ok_none _ _) ?_
  refine zz_cons (k' := 62) rfl (zk_aload_n X dX12_replicates_61 rfl rfl) ?_
  refine zz_cons (k' := 63) rfl (zk_iconst X dX12_replicates_62 (by decide) rfl) ?_
  refine zz_cons (k' := 64) rfl (zk_aload_n X dX12_replicates_63 rfl rfl) ?_
  refine zz_cons (k' := 65) rfl (zk_getf X ff_X12_243 dX12_replicates_64 rfl) ?_
  refine zz_cons (k' := 66) rfl (zz_Ok_none _ _) ?_
  refine zz_cons (k' := 67) rfl (zz_Ok_none _ _) ?_
  refine zz_cons (k' := 68) rfl (zk_aload_n X dX12_replicates_67 rfl rfl) ?_
  refine zz_cons (k' := 69) rfl (zk_aload_n X dX12_replicates_68 rfl rfl) ?_
  refine zz_cons (k' := 70) rfl (zk_getf X ff_X12_243 dX12_replicates_69 rfl) ?_
  refine zz_cons (k' := 71) rfl (zz_Ok_none _ _) ?_
  refine zz_cons (k' := 72) rfl (zz_Ok_none _ _) ?_
  refine zz_cons (k' := 73) rfl (zk_iconst X dX12_replicates_72 (by decide) rfl) ?_
  refine zz_cons (k' := 74) rfl (zk_callv X (zz_Cv_of (List.forall_mem_cons.mpr ⟨⟨(RX_10, zzT10, 50), yX12_viewed, cX12_viewed, 3, (some .int), 1, 23, rfl, kv_X12_204_10.1, (mm_X12_viewed Wd).1, by decide, by decide⟩, (fun _ h => absurd h List.not_mem_nil)⟩)) dX12_replicates_73 rfl) ?_
  refine zz_cons (k' := 75) rfl (zz_Ok_none _ _) ?_
  refine zz_cons (k' := 76) rfl (zz_Ok_none _ _) ?_
  refine zz_cons (k' := 77) rfl (zk_callv X (zz_Cv_of (List.forall_mem_cons.mpr ⟨⟨(RX_10, zzT10, 50), yX12_makesOne, cX12_makesOne, 6, (some .boolean), 3, 85, rfl, kv_X12_286_10.1, (mm_X12_makesOne Wd).1, by decide, by decide⟩, (fun _ h => absurd h List.not_mem_nil)⟩)) dX12_replicates_76 rfl) ?_
  refine zz_cons (k' := 78) rfl (zz_Ok_none _ _) ?_
  refine zz_cons (k' := 79) rfl (zz_Ok_none _ _) ?_
  refine zz_cons (k' := 80) rfl (zk_iret X rfl dX12_replicates_79) ?_
  refine zz_cons (k' := 81) rfl (zk_iload_n X dX12_replicates_80 rfl rfl) ?_
  refine zz_cons (k' := 82) rfl (zk_iload_n X dX12_replicates_81 rfl rfl) ?_
  refine zz_cons (k' := 83) rfl (zk_icmp_eq X dX12_replicates_82 (by decide) rfl) ?_
  refine zz_cons (k' := 84) rfl (zz_Ok_none _ _) ?_
  refine zz_cons (k' := 85) rfl (zz_Ok_none _ _) ?_
  refine zz_cons (k' := 86) rfl (zk_aload_n X dX12_replicates_85 rfl rfl) ?_
  refine zz_cons (k' := 87) rfl (zk_aload_n X dX12_replicates_86 rfl rfl) ?_
  refine zz_cons (k' := 88) rfl (zk_aload_n X dX12_replicates_87 rfl rfl) ?_
  refine zz_cons (k' := 89) rfl (zk_getf X ff_X12_243 dX12_replicates_88 rfl) ?_
  refine zz_cons (k' := 90) rfl (zz_Ok_none _ _) ?_
  refine zz_cons (k' := 91) rfl (zz_Ok_none _ _) ?_
  refine zz_cons (k' := 92) rfl (zk_iconst X dX12_replicates_91 (by decide) rfl) ?_
  refine zz_cons (k' := 93) rfl (zk_callv X (zz_Cv_of (List.forall_mem_cons.mpr ⟨⟨(RX_10, zzT10, 50), yX12_podOf, cX12_podOf, 9, (some .int), 4, 90, rfl, kv_X12_299_10.1, (mm_X12_podOf Wd).1, by decide, by decide⟩, (fun _ h => absurd h List.not_mem_nil)⟩)) dX12_replicates_92 rfl) ?_
  refine zz_cons (k' := 94) rfl (zz_Ok_none _ _) ?_
  refine zz_cons (k' := 95) rfl (zz_Ok_none _ _) ?_
  refine zz_cons (k' := 96) rfl (zk_callv X (zz_Cv_of (List.forall_mem_cons.mpr ⟨⟨(RX_10, zzT10, 50), yX12_deletes, cX12_deletes, 2, (some .boolean), 3, 79, rfl, kv_X12_302_10.1, (mm_X12_deletes Wd).1, by decide, by decide⟩, (fun _ h => absurd h List.not_mem_nil)⟩)) dX12_replicates_95 rfl) ?_
  refine zz_cons (k' := 97) rfl (zz_Ok_none _ _) ?_
  refine zz_cons (k' := 98) rfl (zz_Ok_none _ _) ?_
  refine zz_cons (k' := 99) rfl (zk_if_eq X dX12_replicates_98 (by decide) rfl) ?_
  refine zz_cons (k' := 100) rfl (zz_Ok_none _ _) ?_
  refine zz_cons (k' := 101) rfl (zz_Ok_none _ _) ?_
  refine zz_cons (k' := 102) rfl (zk_iconst X dX12_replicates_101 (by decide) rfl) ?_
  refine zz_cons (k' := 103) rfl (zk_goto X dX12_replicates_102 (by decide)) ?_
  refine zz_cons (k' := 104) rfl (zz_Ok_none _ _) ?_
  refine zz_cons (k' := 105) rfl (zz_Ok_none _ _) ?_
  refine zz_cons (k' := 106) rfl (zk_iconst X dX12_replicates_105 (by decide) rfl) ?_
  refine zz_cons (k' := 107) rfl (zk_iret X rfl dX12_replicates_106) ?_
  exact trivial
noncomputable def tX12_doesJobs : List zzOp := [
  zo_aload 0 1,
  zo_aload 0 2,
  zo_getf zzSR (zz_kf [10] 43) 5,
  zo_none,
  zo_none,
  zo_pushI 3 6,
  zo_callv zzSR (zz_cl [(10, fX12_stays)]) 2 9,
  zo_none,
  zo_none,
  zo_if (fun x => decide (¬ x = 0)) 14 12,
  zo_none,
  zo_none,
  zo_pushI 1 13,
  zo_iret true,
  zo_aload 0 15,
  zo_aload 0 16,
  zo_getf zzSR (zz_kf [10] 43) 19,
  zo_none,
  zo_none,
  zo_pushI 3 20,
  zo_callv zzSR (zz_cl [(10, fX12_pods)]) 2 23,
  zo_none,
  zo_none,
  zo_istore 1 24,
  zo_iload 1 25,
  zo_aload 0 26,
  zo_aload 0 27,
  zo_getf zzSR (zz_kf [10] 43) 30,
  zo_none,
  zo_none,
  zo_pushI 4 31,
  zo_callv zzSR (zz_cl [(10, fX12_pods)]) 2 34,
  zo_none,
  zo_none,
  zo_ii (fun x y => x + y) 35,
  zo_aload 0 36,
  zo_aload 0 37,
  zo_getf zzSR (zz_kf [10] 43) 40,
  zo_none,
  zo_none,
  zo_pushI 0 41,
  zo_callv zzSR (zz_cl [(10, fX12_viewed)]) 2 44,
  zo_none,
  zo_none,
  zo_icmp (fun x y => decide (y ≤ x)) 65 47,
  zo_none,
  zo_none,
  zo_iload 1 48,
  zo_aload 0 49,
  zo_aload 0 50,
  zo_getf zzSR (zz_kf [10] 43) 53,
  zo_none,
  zo_none,
  zo_pushI 10 55,
  zo_none,
  zo_callv zzSR (zz_cl [(10, fX12_viewed)]) 2 58,
  zo_none,
  zo_none,
  zo_icmp (fun x y => decide (y ≤ x)) 65 61,
  zo_none,
  zo_none,
  zo_pushI 1 62,
  zo_goto 66,
  zo_none,
  zo_none,
  zo_pushI 0 66,
  zo_istore 2 67,
  zo_iload 2 68,
  zo_if (fun x => decide (x = 0)) 92 71,
  zo_none,
  zo_none,
  zo_aload 0 72,
  zo_pushI 2 73,
  zo_aload 0 74,
  zo_getf zzSR (zz_kf [10] 43) 77,
  zo_none,
  zo_none,
  zo_aload 0 78,
  zo_aload 0 79,
  zo_getf zzSR (zz_kf [10] 43) 82,
  zo_none,
  zo_none,
  zo_pushI 1 83,
  zo_callv zzSR (zz_cl [(10, fX12_viewed)]) 2 86,
  zo_none,
  zo_none,
  zo_callv zzSR (zz_cl [(10, fX12_makesOne)]) 3 89,
  zo_none,
  zo_none,
  zo_if (fun x => decide (x = 0)) 96 92,
  zo_none,
  zo_none,
  zo_pushI 1 93,
  zo_goto 97,
  zo_none,
  zo_none,
  zo_pushI 0 97,
  zo_iret true]
set_option maxRecDepth 100000 in
theorem tl_X12_doesJobs : ∀ pc, zz_Tl (tX12_doesJobs.getD pc zo_none) := by
  refine zz_Tl_mem ?_
  unfold tX12_doesJobs
  refine List.forall_mem_cons.mpr ⟨(zo_aload_tl _ _), ?_⟩
  refine List.forall_mem_cons.mpr ⟨(zo_aload_tl _ _), ?_⟩
  refine List.forall_mem_cons.mpr ⟨(zo_getf_tl _ _ _), ?_⟩
  refine List.forall_mem_cons.mpr ⟨zo_none_tl, ?_⟩
  refine List.forall_mem_cons.mpr ⟨zo_none_tl, ?_⟩
  refine List.forall_mem_cons.mpr ⟨(zo_pushI_tl _ _), ?_⟩
  refine List.forall_mem_cons.mpr ⟨(zo_callv_tl _ _ _ _), ?_⟩
  refine List.forall_mem_cons.mpr ⟨zo_none_tl, ?_⟩
  refine List.forall_mem_cons.mpr ⟨zo_none_tl, ?_⟩
  refine List.forall_mem_cons.mpr ⟨(zo_if_tl _ _ _), ?_⟩
  refine List.forall_mem_cons.mpr ⟨zo_none_tl, ?_⟩
  refine List.forall_mem_cons.mpr ⟨zo_none_tl, ?_⟩
  refine List.forall_mem_cons.mpr ⟨(zo_pushI_tl _ _), ?_⟩
  refine List.forall_mem_cons.mpr ⟨(zo_iret_tl _), ?_⟩
  refine List.forall_mem_cons.mpr ⟨(zo_aload_tl _ _), ?_⟩
  refine List.forall_mem_cons.mpr ⟨(zo_aload_tl _ _), ?_⟩
  refine List.forall_mem_cons.mpr ⟨(zo_getf_tl _ _ _), ?_⟩
  refine List.forall_mem_cons.mpr ⟨zo_none_tl, ?_⟩
  refine List.forall_mem_cons.mpr ⟨zo_none_tl, ?_⟩
  refine List.forall_mem_cons.mpr ⟨(zo_pushI_tl _ _), ?_⟩
  refine List.forall_mem_cons.mpr ⟨(zo_callv_tl _ _ _ _), ?_⟩
  refine List.forall_mem_cons.mpr ⟨zo_none_tl, ?_⟩
  refine List.forall_mem_cons.mpr ⟨zo_none_tl, ?_⟩
  refine List.forall_mem_cons.mpr ⟨(zo_istore_tl _ _), ?_⟩
  refine List.forall_mem_cons.mpr ⟨(zo_iload_tl _ _), ?_⟩
  refine List.forall_mem_cons.mpr ⟨(zo_aload_tl _ _), ?_⟩
  refine List.forall_mem_cons.mpr ⟨(zo_aload_tl _ _), ?_⟩
  refine List.forall_mem_cons.mpr ⟨(zo_getf_tl _ _ _), ?_⟩
  refine List.forall_mem_cons.mpr ⟨zo_none_tl, ?_⟩
  refine List.forall_mem_cons.mpr ⟨zo_none_tl, ?_⟩
  refine List.forall_mem_cons.mpr ⟨(zo_pushI_tl _ _), ?_⟩
  refine List.forall_mem_cons.mpr ⟨(zo_callv_tl _ _ _ _), ?_⟩
  refine List.forall_mem_cons.mpr ⟨zo_none_tl, ?_⟩
  refine List.forall_mem_cons.mpr ⟨zo_none_tl, ?_⟩
  refine List.forall_mem_cons.mpr ⟨(zo_ii_tl _ _), ?_⟩
  refine List.forall_mem_cons.mpr ⟨(zo_aload_tl _ _), ?_⟩
  refine List.forall_mem_cons.mpr ⟨(zo_aload_tl _ _), ?_⟩
  refine List.forall_mem_cons.mpr ⟨(zo_getf_tl _ _ _), ?_⟩
  refine List.forall_mem_cons.mpr ⟨zo_none_tl, ?_⟩
  refine List.forall_mem_cons.mpr ⟨zo_none_tl, ?_⟩
  refine List.forall_mem_cons.mpr ⟨(zo_pushI_tl _ _), ?_⟩
  refine List.forall_mem_cons.mpr ⟨(zo_callv_tl _ _ _ _), ?_⟩
  refine List.forall_mem_cons.mpr ⟨zo_none_tl, ?_⟩
  refine List.forall_mem_cons.mpr ⟨zo_none_tl, ?_⟩
  refine List.forall_mem_cons.mpr ⟨(zo_icmp_tl _ _ _), ?_⟩
  refine List.forall_mem_cons.mpr ⟨zo_none_tl, ?_⟩
  refine List.forall_mem_cons.mpr ⟨zo_none_tl, ?_⟩
  refine List.forall_mem_cons.mpr ⟨(zo_iload_tl _ _), ?_⟩
  refine List.forall_mem_cons.mpr ⟨(zo_aload_tl _ _), ?_⟩
  refine List.forall_mem_cons.mpr ⟨(zo_aload_tl _ _), ?_⟩
  refine List.forall_mem_cons.mpr ⟨(zo_getf_tl _ _ _), ?_⟩
  refine List.forall_mem_cons.mpr ⟨zo_none_tl, ?_⟩
  refine List.forall_mem_cons.mpr ⟨zo_none_tl, ?_⟩
  refine List.forall_mem_cons.mpr ⟨(zo_pushI_tl _ _), ?_⟩
  refine List.forall_mem_cons.mpr ⟨zo_none_tl, ?_⟩
  refine List.forall_mem_cons.mpr ⟨(zo_callv_tl _ _ _ _), ?_⟩
  refine List.forall_mem_cons.mpr ⟨zo_none_tl, ?_⟩
  refine List.forall_mem_cons.mpr ⟨zo_none_tl, ?_⟩
  refine List.forall_mem_cons.mpr ⟨(zo_icmp_tl _ _ _), ?_⟩
  refine List.forall_mem_cons.mpr ⟨zo_none_tl, ?_⟩
  refine List.forall_mem_cons.mpr ⟨zo_none_tl, ?_⟩
  refine List.forall_mem_cons.mpr ⟨(zo_pushI_tl _ _), ?_⟩
  refine List.forall_mem_cons.mpr ⟨(zo_goto_tl _), ?_⟩
  refine List.forall_mem_cons.mpr ⟨zo_none_tl, ?_⟩
  refine List.forall_mem_cons.mpr ⟨zo_none_tl, ?_⟩
  refine List.forall_mem_cons.mpr ⟨(zo_pushI_tl _ _), ?_⟩
  refine List.forall_mem_cons.mpr ⟨(zo_istore_tl _ _), ?_⟩
  refine List.forall_mem_cons.mpr ⟨(zo_iload_tl _ _), ?_⟩
  refine List.forall_mem_cons.mpr ⟨(zo_if_tl _ _ _), ?_⟩
  refine List.forall_mem_cons.mpr ⟨zo_none_tl, ?_⟩
  refine List.forall_mem_cons.mpr ⟨zo_none_tl, ?_⟩
  refine List.forall_mem_cons.mpr ⟨(zo_aload_tl _ _), ?_⟩
  refine List.forall_mem_cons.mpr ⟨(zo_pushI_tl _ _), ?_⟩
  refine List.forall_mem_cons.mpr ⟨(zo_aload_tl _ _), ?_⟩
  refine List.forall_mem_cons.mpr ⟨(zo_getf_tl _ _ _), ?_⟩
  refine List.forall_mem_cons.mpr ⟨zo_none_tl, ?_⟩
  refine List.forall_mem_cons.mpr ⟨zo_none_tl, ?_⟩
  refine List.forall_mem_cons.mpr ⟨(zo_aload_tl _ _), ?_⟩
  refine List.forall_mem_cons.mpr ⟨(zo_aload_tl _ _), ?_⟩
  refine List.forall_mem_cons.mpr ⟨(zo_getf_tl _ _ _), ?_⟩
  refine List.forall_mem_cons.mpr ⟨zo_none_tl, ?_⟩
  refine List.forall_mem_cons.mpr ⟨zo_none_tl, ?_⟩
  refine List.forall_mem_cons.mpr ⟨(zo_pushI_tl _ _), ?_⟩
  refine List.forall_mem_cons.mpr ⟨(zo_callv_tl _ _ _ _), ?_⟩
  refine List.forall_mem_cons.mpr ⟨zo_none_tl, ?_⟩
  refine List.forall_mem_cons.mpr ⟨zo_none_tl, ?_⟩
  refine List.forall_mem_cons.mpr ⟨(zo_callv_tl _ _ _ _), ?_⟩
  refine List.forall_mem_cons.mpr ⟨zo_none_tl, ?_⟩
  refine List.forall_mem_cons.mpr ⟨zo_none_tl, ?_⟩
  refine List.forall_mem_cons.mpr ⟨(zo_if_tl _ _ _), ?_⟩
  refine List.forall_mem_cons.mpr ⟨zo_none_tl, ?_⟩
  refine List.forall_mem_cons.mpr ⟨zo_none_tl, ?_⟩
  refine List.forall_mem_cons.mpr ⟨(zo_pushI_tl _ _), ?_⟩
  refine List.forall_mem_cons.mpr ⟨(zo_goto_tl _), ?_⟩
  refine List.forall_mem_cons.mpr ⟨zo_none_tl, ?_⟩
  refine List.forall_mem_cons.mpr ⟨zo_none_tl, ?_⟩
  refine List.forall_mem_cons.mpr ⟨(zo_pushI_tl _ _), ?_⟩
  refine List.forall_mem_cons.mpr ⟨(zo_iret_tl _), ?_⟩
  exact fun _ h => absurd h List.not_mem_nil
noncomputable def fX12_doesJobs : zzFn := zz_fn tX12_doesJobs 3
set_option maxRecDepth 100000 in
set_option maxHeartbeats 4000000 in
theorem mm_X12_doesJobs {l : Launch} {D : va_G} {cA : Nat → ClassId} {ad : Nat → Nat} {Ex : (Nat → Prop) → State → Heap → Prop} (Wd : zzWR l D cA ad Ex) : zz_Cn l D zzCl cA ad zzSR Ex yX12_doesJobs cX12_doesJobs 3 (some .boolean) 5 114 fX12_doesJobs ∧ zz_Cx l D zzCl cA ad zzSR Ex yX12_doesJobs cX12_doesJobs 3 (some .boolean) 5 114 fX12_doesJobs := by
  refine zz_meth (plainFor_of_name (by decide)) Wd.1 Wd.2.1 Wd.2.2 (fun p e R s m args below meth c rr X => ?_)
  unfold tX12_doesJobs
  refine zz_cons (k' := 1) rfl (zk_aload_n X dX12_doesJobs_0 rfl rfl) ?_
  refine zz_cons (k' := 2) rfl (zk_aload_n X dX12_doesJobs_1 rfl rfl) ?_
  refine zz_cons (k' := 3) rfl (zk_getf X ff_X12_243 dX12_doesJobs_2 rfl) ?_
  refine zz_cons (k' := 4) rfl (zz_Ok_none _ _) ?_
  refine zz_cons (k' := 5) rfl (zz_Ok_none _ _) ?_
  refine zz_cons (k' := 6) rfl (zk_iconst X dX12_doesJobs_5 (by decide) rfl) ?_
  refine zz_cons (k' := 7) rfl (zk_callv X (zz_Cv_of (List.forall_mem_cons.mpr ⟨⟨(RX_10, zzT10, 50), yX12_stays, cX12_stays, 3, (some .boolean), 2, 45, rfl, kv_X12_269_10.1, (mm_X12_stays Wd).1, by decide, by decide⟩, (fun _ h => absurd h List.not_mem_nil)⟩)) dX12_doesJobs_6 rfl) ?_
  refine zz_cons (k' := 8) rfl (zz_Ok_none _ _) ?_
  refine zz_cons (k' := 9) rfl (zz_Ok_none _ _) ?_
  refine zz_cons (k' := 10) rfl (zk_if_ne X dX12_doesJobs_9 (by decide) rfl) ?_
  refine zz_cons (k' := 11) rfl (zz_Ok_none _ _) ?_
  refine zz_cons (k' := 12) rfl (zz_Ok_none _ _) ?_
  refine zz_cons (k' := 13) rfl (zk_iconst X dX12_doesJobs_12 (by decide) rfl) ?_
  refine zz_cons (k' := 14) rfl (zk_iret X rfl dX12_doesJobs_13) ?_
  refine zz_cons (k' := 15) rfl (zk_aload_n X dX12_doesJobs_14 rfl rfl) ?_
  refine zz_cons (k' := 16) rfl (zk_aload_n X dX12_doesJobs_15 rfl rfl) ?_
  refine zz_cons (k' := 17) rfl (zk_getf X ff_X12_243 dX12_doesJobs_16 rfl) ?_
  refine zz_cons (k' := 18) rfl (zz_Ok_none _ _) ?_
  refine zz_cons (k' := 19) rfl (zz_Ok_none _ _) ?_
  refine zz_cons (k' := 20) rfl (zk_iconst X dX12_doesJobs_19 (by decide) rfl) ?_
  refine zz_cons (k' := 21) rfl (zk_callv X (zz_Cv_of (List.forall_mem_cons.mpr ⟨⟨(RX_10, zzT10, 50), yX12_pods, cX12_pods, 5, (some .int), 4, 90, rfl, kv_X12_279_10.1, (mm_X12_pods Wd).1, by decide, by decide⟩, (fun _ h => absurd h List.not_mem_nil)⟩)) dX12_doesJobs_20 rfl) ?_
  refine zz_cons (k' := 22) rfl (zz_Ok_none _ _) ?_
  refine zz_cons (k' := 23) rfl (zz_Ok_none _ _) ?_
  refine zz_cons (k' := 24) rfl (zk_istore_n X dX12_doesJobs_23 rfl (by decide) rfl) ?_
  refine zz_cons (k' := 25) rfl (zk_iload_n X dX12_doesJobs_24 rfl rfl) ?_
  refine zz_cons (k' := 26) rfl (zk_aload_n X dX12_doesJobs_25 rfl rfl) ?_
  refine zz_cons (k' := 27) rfl (zk_aload_n X dX12_doesJobs_26 rfl rfl) ?_
  refine zz_cons (k' := 28) rfl (zk_getf X ff_X12_243 dX12_doesJobs_27 rfl) ?_
  refine zz_cons (k' := 29) rfl (zz_Ok_none _ _) ?_
  refine zz_cons (k' := 30) rfl (zz_Ok_none _ _) ?_
  refine zz_cons (k' := 31) rfl (zk_iconst X dX12_doesJobs_30 (by decide) rfl) ?_
  refine zz_cons (k' := 32) rfl (zk_callv X (zz_Cv_of (List.forall_mem_cons.mpr ⟨⟨(RX_10, zzT10, 50), yX12_pods, cX12_pods, 5, (some .int), 4, 90, rfl, kv_X12_279_10.1, (mm_X12_pods Wd).1, by decide, by decide⟩, (fun _ h => absurd h List.not_mem_nil)⟩)) dX12_doesJobs_31 rfl) ?_
  refine zz_cons (k' := 33) rfl (zz_Ok_none _ _) ?_
  refine zz_cons (k' := 34) rfl (zz_Ok_none _ _) ?_
  refine zz_cons (k' := 35) rfl (zk_iadd X dX12_doesJobs_34 rfl) ?_
  refine zz_cons (k' := 36) rfl (zk_aload_n X dX12_doesJobs_35 rfl rfl) ?_
  refine zz_cons (k' := 37) rfl (zk_aload_n X dX12_doesJobs_36 rfl rfl) ?_
  refine zz_cons (k' := 38) rfl (zk_getf X ff_X12_243 dX12_doesJobs_37 rfl) ?_
  refine zz_cons (k' := 39) rfl (zz_Ok_none _ _) ?_
  refine zz_cons (k' := 40) rfl (zz_Ok_none _ _) ?_
  refine zz_cons (k' := 41) rfl (zk_iconst X dX12_doesJobs_40 (by decide) rfl) ?_
  refine zz_cons (k' := 42) rfl (zk_callv X (zz_Cv_of (List.forall_mem_cons.mpr ⟨⟨(RX_10, zzT10, 50), yX12_viewed, cX12_viewed, 3, (some .int), 1, 23, rfl, kv_X12_204_10.1, (mm_X12_viewed Wd).1, by decide, by decide⟩, (fun _ h => absurd h List.not_mem_nil)⟩)) dX12_doesJobs_41 rfl) ?_
  refine zz_cons (k' := 43) rfl (zz_Ok_none _ _) ?_
  refine zz_cons (k' := 44) rfl (zz_Ok_none _ _) ?_
  refine zz_cons (k' := 45) rfl (zk_icmp_ge X dX12_doesJobs_44 (by decide) rfl) ?_
  refine zz_cons (k' := 46) rfl (zz_Ok_none _ _) ?_
  refine zz_cons (k' := 47) rfl (zz_Ok_none _ _) ?_
  refine zz_cons (k' := 48) rfl (zk_iload_n X dX12_doesJobs_47 rfl rfl) ?_
  refine zz_cons (k' := 49) rfl (zk_aload_n X dX12_doesJobs_48 rfl rfl) ?_
  refine zz_cons (k' := 50) rfl (zk_aload_n X dX12_doesJobs_49 rfl rfl) ?_
  refine zz_cons (k' := 51) rfl (zk_getf X ff_X12_243 dX12_doesJobs_50 rfl) ?_
  refine zz_cons (k' := 52) rfl (zz_Ok_none _ _) ?_
  refine zz_cons (k' := 53) rfl (zz_Ok_none _ _) ?_
  refine zz_cons (k' := 54) rfl (zk_bipush X dX12_doesJobs_53 (by decide) rfl) ?_
  refine zz_cons (k' := 55) rfl (zz_Ok_none _ _) ?_
  refine zz_cons (k' := 56) rfl (zk_callv X (zz_Cv_of (List.forall_mem_cons.mpr ⟨⟨(RX_10, zzT10, 50), yX12_viewed, cX12_viewed, 3, (some .int), 1, 23, rfl, kv_X12_204_10.1, (mm_X12_viewed Wd).1, by decide, by decide⟩, (fun _ h => absurd h List.not_mem_nil)⟩)) dX12_doesJobs_55 rfl) ?_
  refine zz_cons (k' := 57) rfl (zz_Ok_none _ _) ?_
  refine zz_cons (k' := 58) rfl (zz_Ok_none _ _) ?_
  refine zz_cons (k' := 59) rfl (zk_icmp_ge X dX12_doesJobs_58 (by decide) rfl) ?_
  refine zz_cons (k' := 60) rfl (zz_Ok_none _ _) ?_
  refine zz_cons (k' := 61) rfl (zz_Ok_none _ _) ?_
  refine zz_cons (k' := 62) rfl (zk_iconst X dX12_doesJobs_61 (by decide) rfl) ?_
  refine zz_cons (k' := 63) rfl (zk_goto X dX12_doesJobs_62 (by decide)) ?_
  refine zz_cons (k' := 64) rfl (zz_Ok_none _ _) ?_
  refine zz_cons (k' := 65) rfl (zz_Ok_none _ _) ?_
  refine zz_cons (k' := 66) rfl (zk_iconst X dX12_doesJobs_65 (by decide) rfl) ?_
  refine zz_cons (k' := 67) rfl (zk_istore_n X dX12_doesJobs_66 rfl (by decide) rfl) ?_
  refine zz_cons (k' := 68) rfl (zk_iload_n X dX12_doesJobs_67 rfl rfl) ?_
  refine zz_cons (k' := 69) rfl (zk_if_eq X dX12_doesJobs_68 (by decide) rfl) ?_
  refine zz_cons (k' := 70) rfl (zz_Ok_none _ _) ?_
  refine zz_cons (k' := 71) rfl (zz_Ok_none _ _) ?_
  refine zz_cons (k' := 72) rfl (zk_aload_n X dX12_doesJobs_71 rfl rfl) ?_
  refine zz_cons (k' := 73) rfl (zk_iconst X dX12_doesJobs_72 (by decide) rfl) ?_
  refine zz_cons (k' := 74) rfl (zk_aload_n X dX12_doesJobs_73 rfl rfl) ?_
  refine zz_cons (k' := 75) rfl (zk_getf X ff_X12_243 dX12_doesJobs_74 rfl) ?_
  refine zz_cons (k' := 76) rfl (zz_Ok_none _ _) ?_
  refine zz_cons (k' := 77) rfl (zz_Ok_none _ _) ?_
  refine zz_cons (k' := 78) rfl (zk_aload_n X dX12_doesJobs_77 rfl rfl) ?_
  refine zz_cons (k' := 79) rfl (zk_aload_n X dX12_doesJobs_78 rfl rfl) ?_
  refine zz_cons (k' := 80) rfl (zk_getf X ff_X12_243 dX12_doesJobs_79 rfl) ?_
  refine zz_cons (k' := 81) rfl (zz_Ok_none _ _) ?_
  refine zz_cons (k' := 82) rfl (zz_Ok_none _ _) ?_
  refine zz_cons (k' := 83) rfl (zk_iconst X dX12_doesJobs_82 (by decide) rfl) ?_
  refine zz_cons (k' := 84) rfl (zk_callv X (zz_Cv_of (List.forall_mem_cons.mpr ⟨⟨(RX_10, zzT10, 50), yX12_viewed, cX12_viewed, 3, (some .int), 1, 23, rfl, kv_X12_204_10.1, (mm_X12_viewed Wd).1, by decide, by decide⟩, (fun _ h => absurd h List.not_mem_nil)⟩)) dX12_doesJobs_83 rfl) ?_
  refine zz_cons (k' := 85) rfl (zz_Ok_none _ _) ?_
  refine zz_cons (k' := 86) rfl (zz_Ok_none _ _) ?_
  refine zz_cons (k' := 87) rfl (zk_callv X (zz_Cv_of (List.forall_mem_cons.mpr ⟨⟨(RX_10, zzT10, 50), yX12_makesOne, cX12_makesOne, 6, (some .boolean), 3, 85, rfl, kv_X12_286_10.1, (mm_X12_makesOne Wd).1, by decide, by decide⟩, (fun _ h => absurd h List.not_mem_nil)⟩)) dX12_doesJobs_86 rfl) ?_
  refine zz_cons (k' := 88) rfl (zz_Ok_none _ _) ?_
  refine zz_cons (k' := 89) rfl (zz_Ok_none _ _) ?_
  refine zz_cons (k' := 90) rfl (zk_if_eq X dX12_doesJobs_89 (by decide) rfl) ?_
  refine zz_cons (k' := 91) rfl (zz_Ok_none _ _) ?_
  refine zz_cons (k' := 92) rfl (zz_Ok_none _ _) ?_
  refine zz_cons (k' := 93) rfl (zk_iconst X dX12_doesJobs_92 (by decide) rfl) ?_
  refine zz_cons (k' := 94) rfl (zk_goto X dX12_doesJobs_93 (by decide)) ?_
  refine zz_cons (k' := 95) rfl (zz_Ok_none _ _) ?_
  refine zz_cons (k' := 96) rfl (zz_Ok_none _ _) ?_
  refine zz_cons (k' := 97) rfl (zk_iconst X dX12_doesJobs_96 (by decide) rfl) ?_
  refine zz_cons (k' := 98) rfl (zk_iret X rfl dX12_doesJobs_97) ?_
  exact trivial
noncomputable def tX12_isUsable : List zzOp := [
  zo_aload 0 1,
  zo_iload 1 2,
  zo_pushI 4 3,
  zo_callv zzSR (zz_cl [(10, fX12_stays)]) 2 6,
  zo_none,
  zo_none,
  zo_if (fun x => decide (x = 0)) 34 9,
  zo_none,
  zo_none,
  zo_aload 0 10,
  zo_iload 1 11,
  zo_pushI 14 13,
  zo_none,
  zo_callv zzSR (zz_cl [(10, fX12_viewed)]) 2 16,
  zo_none,
  zo_none,
  zo_pushI 1 17,
  zo_icmp (fun x y => decide (¬ x = y)) 34 20,
  zo_none,
  zo_none,
  zo_aload 0 21,
  zo_iload 1 22,
  zo_pushI 9 24,
  zo_none,
  zo_callv zzSR (zz_cl [(10, fX12_viewed)]) 2 27,
  zo_none,
  zo_none,
  zo_if (fun x => decide (¬ x = 0)) 34 30,
  zo_none,
  zo_none,
  zo_pushI 1 31,
  zo_goto 35,
  zo_none,
  zo_none,
  zo_pushI 0 35,
  zo_iret true]
set_option maxRecDepth 100000 in
theorem tl_X12_isUsable : ∀ pc, zz_Tl (tX12_isUsable.getD pc zo_none) := by
  refine zz_Tl_mem ?_
  unfold tX12_isUsable
  refine List.forall_mem_cons.mpr ⟨(zo_aload_tl _ _), ?_⟩
  refine List.forall_mem_cons.mpr ⟨(zo_iload_tl _ _), ?_⟩
  refine List.forall_mem_cons.mpr ⟨(zo_pushI_tl _ _), ?_⟩
  refine List.forall_mem_cons.mpr ⟨(zo_callv_tl _ _ _ _), ?_⟩
  refine List.forall_mem_cons.mpr ⟨zo_none_tl, ?_⟩
  refine List.forall_mem_cons.mpr ⟨zo_none_tl, ?_⟩
  refine List.forall_mem_cons.mpr ⟨(zo_if_tl _ _ _), ?_⟩
  refine List.forall_mem_cons.mpr ⟨zo_none_tl, ?_⟩
  refine List.forall_mem_cons.mpr ⟨zo_none_tl, ?_⟩
  refine List.forall_mem_cons.mpr ⟨(zo_aload_tl _ _), ?_⟩
  refine List.forall_mem_cons.mpr ⟨(zo_iload_tl _ _), ?_⟩
  refine List.forall_mem_cons.mpr ⟨(zo_pushI_tl _ _), ?_⟩
  refine List.forall_mem_cons.mpr ⟨zo_none_tl, ?_⟩
  refine List.forall_mem_cons.mpr ⟨(zo_callv_tl _ _ _ _), ?_⟩
  refine List.forall_mem_cons.mpr ⟨zo_none_tl, ?_⟩
  refine List.forall_mem_cons.mpr ⟨zo_none_tl, ?_⟩
  refine List.forall_mem_cons.mpr ⟨(zo_pushI_tl _ _), ?_⟩
  refine List.forall_mem_cons.mpr ⟨(zo_icmp_tl _ _ _), ?_⟩
  refine List.forall_mem_cons.mpr ⟨zo_none_tl, ?_⟩
  refine List.forall_mem_cons.mpr ⟨zo_none_tl, ?_⟩
  refine List.forall_mem_cons.mpr ⟨(zo_aload_tl _ _), ?_⟩
  refine List.forall_mem_cons.mpr ⟨(zo_iload_tl _ _), ?_⟩
  refine List.forall_mem_cons.mpr ⟨(zo_pushI_tl _ _), ?_⟩
  refine List.forall_mem_cons.mpr ⟨zo_none_tl, ?_⟩
  refine List.forall_mem_cons.mpr ⟨(zo_callv_tl _ _ _ _), ?_⟩
  refine List.forall_mem_cons.mpr ⟨zo_none_tl, ?_⟩
  refine List.forall_mem_cons.mpr ⟨zo_none_tl, ?_⟩
  refine List.forall_mem_cons.mpr ⟨(zo_if_tl _ _ _), ?_⟩
  refine List.forall_mem_cons.mpr ⟨zo_none_tl, ?_⟩
  refine List.forall_mem_cons.mpr ⟨zo_none_tl, ?_⟩
  refine List.forall_mem_cons.mpr ⟨(zo_pushI_tl _ _), ?_⟩
  refine List.forall_mem_cons.mpr ⟨(zo_goto_tl _), ?_⟩
  refine List.forall_mem_cons.mpr ⟨zo_none_tl, ?_⟩
  refine List.forall_mem_cons.mpr ⟨zo_none_tl, ?_⟩
  refine List.forall_mem_cons.mpr ⟨(zo_pushI_tl _ _), ?_⟩
  refine List.forall_mem_cons.mpr ⟨(zo_iret_tl _), ?_⟩
  exact fun _ h => absurd h List.not_mem_nil
noncomputable def fX12_isUsable : zzFn := zz_fn tX12_isUsable 2
set_option maxRecDepth 100000 in
set_option maxHeartbeats 4000000 in
theorem mm_X12_isUsable {l : Launch} {D : va_G} {cA : Nat → ClassId} {ad : Nat → Nat} {Ex : (Nat → Prop) → State → Heap → Prop} (Wd : zzWR l D cA ad Ex) : zz_Cn l D zzCl cA ad zzSR Ex yX12_isUsable cX12_isUsable 2 (some .boolean) 3 67 fX12_isUsable ∧ zz_Cx l D zzCl cA ad zzSR Ex yX12_isUsable cX12_isUsable 2 (some .boolean) 3 67 fX12_isUsable := by
  refine zz_meth (plainFor_of_name (by decide)) Wd.1 Wd.2.1 Wd.2.2 (fun p e R s m args below meth c rr X => ?_)
  unfold tX12_isUsable
  refine zz_cons (k' := 1) rfl (zk_aload_n X dX12_isUsable_0 rfl rfl) ?_
  refine zz_cons (k' := 2) rfl (zk_iload_n X dX12_isUsable_1 rfl rfl) ?_
  refine zz_cons (k' := 3) rfl (zk_iconst X dX12_isUsable_2 (by decide) rfl) ?_
  refine zz_cons (k' := 4) rfl (zk_callv X (zz_Cv_of (List.forall_mem_cons.mpr ⟨⟨(RX_10, zzT10, 50), yX12_stays, cX12_stays, 3, (some .boolean), 2, 45, rfl, kv_X12_269_10.1, (mm_X12_stays Wd).1, by decide, by decide⟩, (fun _ h => absurd h List.not_mem_nil)⟩)) dX12_isUsable_3 rfl) ?_
  refine zz_cons (k' := 5) rfl (zz_Ok_none _ _) ?_
  refine zz_cons (k' := 6) rfl (zz_Ok_none _ _) ?_
  refine zz_cons (k' := 7) rfl (zk_if_eq X dX12_isUsable_6 (by decide) rfl) ?_
  refine zz_cons (k' := 8) rfl (zz_Ok_none _ _) ?_
  refine zz_cons (k' := 9) rfl (zz_Ok_none _ _) ?_
  refine zz_cons (k' := 10) rfl (zk_aload_n X dX12_isUsable_9 rfl rfl) ?_
  refine zz_cons (k' := 11) rfl (zk_iload_n X dX12_isUsable_10 rfl rfl) ?_
  refine zz_cons (k' := 12) rfl (zk_bipush X dX12_isUsable_11 (by decide) rfl) ?_
  refine zz_cons (k' := 13) rfl (zz_Ok_none _ _) ?_
  refine zz_cons (k' := 14) rfl (zk_callv X (zz_Cv_of (List.forall_mem_cons.mpr ⟨⟨(RX_10, zzT10, 50), yX12_viewed, cX12_viewed, 3, (some .int), 1, 23, rfl, kv_X12_204_10.1, (mm_X12_viewed Wd).1, by decide, by decide⟩, (fun _ h => absurd h List.not_mem_nil)⟩)) dX12_isUsable_13 rfl) ?_
  refine zz_cons (k' := 15) rfl (zz_Ok_none _ _) ?_
  refine zz_cons (k' := 16) rfl (zz_Ok_none _ _) ?_
  refine zz_cons (k' := 17) rfl (zk_iconst X dX12_isUsable_16 (by decide) rfl) ?_
  refine zz_cons (k' := 18) rfl (zk_icmp_ne X dX12_isUsable_17 (by decide) rfl) ?_
  refine zz_cons (k' := 19) rfl (zz_Ok_none _ _) ?_
  refine zz_cons (k' := 20) rfl (zz_Ok_none _ _) ?_
  refine zz_cons (k' := 21) rfl (zk_aload_n X dX12_isUsable_20 rfl rfl) ?_
  refine zz_cons (k' := 22) rfl (zk_iload_n X dX12_isUsable_21 rfl rfl) ?_
  refine zz_cons (k' := 23) rfl (zk_bipush X dX12_isUsable_22 (by decide) rfl) ?_
  refine zz_cons (k' := 24) rfl (zz_Ok_none _ _) ?_
  refine zz_cons (k' := 25) rfl (zk_callv X (zz_Cv_of (List.forall_mem_cons.mpr ⟨⟨(RX_10, zzT10, 50), yX12_viewed, cX12_viewed, 3, (some .int), 1, 23, rfl, kv_X12_204_10.1, (mm_X12_viewed Wd).1, by decide, by decide⟩, (fun _ h => absurd h List.not_mem_nil)⟩)) dX12_isUsable_24 rfl) ?_
  refine zz_cons (k' := 26) rfl (zz_Ok_none _ _) ?_
  refine zz_cons (k' := 27) rfl (zz_Ok_none _ _) ?_
  refine zz_cons (k' := 28) rfl (zk_if_ne X dX12_isUsable_27 (by decide) rfl) ?_
  refine zz_cons (k' := 29) rfl (zz_Ok_none _ _) ?_
  refine zz_cons (k' := 30) rfl (zz_Ok_none _ _) ?_
  refine zz_cons (k' := 31) rfl (zk_iconst X dX12_isUsable_30 (by decide) rfl) ?_
  refine zz_cons (k' := 32) rfl (zk_goto X dX12_isUsable_31 (by decide)) ?_
  refine zz_cons (k' := 33) rfl (zz_Ok_none _ _) ?_
  refine zz_cons (k' := 34) rfl (zz_Ok_none _ _) ?_
  refine zz_cons (k' := 35) rfl (zk_iconst X dX12_isUsable_34 (by decide) rfl) ?_
  refine zz_cons (k' := 36) rfl (zk_iret X rfl dX12_isUsable_35) ?_
  exact trivial
noncomputable def tX12_zoned : List zzOp := [
  zo_pushI 0 1,
  zo_istore 3 2,
  zo_pushI 0 3,
  zo_istore 4 5,
  zo_none,
  zo_iload 4 7,
  zo_none,
  zo_aload 0 8,
  zo_getf zzSR (zz_kf [10] 5) 11,
  zo_none,
  zo_none,
  zo_icmp (fun x y => decide (y ≤ x)) 135 14,
  zo_none,
  zo_none,
  zo_aload 0 15,
  zo_iload 4 17,
  zo_none,
  zo_callv zzSR (zz_cl [(10, fX12_isGoneThere)]) 1 20,
  zo_none,
  zo_none,
  zo_if (fun x => decide (¬ x = 0)) 71 23,
  zo_none,
  zo_none,
  zo_aload 0 24,
  zo_getf zzSR (zz_kf [10] 6) 27,
  zo_none,
  zo_none,
  zo_iload 4 29,
  zo_none,
  zo_iald zzSR zzSTR 30,
  zo_pushI 2 31,
  zo_icmp (fun x y => decide (¬ x = y)) 71 34,
  zo_none,
  zo_none,
  zo_aload 0 35,
  zo_iload 4 37,
  zo_none,
  zo_pushI 15 39,
  zo_none,
  zo_callv zzSR (zz_cl [(10, fX12_viewed)]) 2 42,
  zo_none,
  zo_none,
  zo_if (fun x => decide (x ≤ 0)) 71 45,
  zo_none,
  zo_none,
  zo_aload 0 46,
  zo_aload 0 47,
  zo_iload 4 49,
  zo_none,
  zo_callv zzSR (zz_cl [(10, fX12_view)]) 1 52,
  zo_none,
  zo_none,
  zo_callv zzSR (zz_cl [(10, fX12_ownerIn)]) 1 55,
  zo_none,
  zo_none,
  zo_aload 0 56,
  zo_aload 0 57,
  zo_iload 1 58,
  zo_callv zzSR (zz_cl [(10, fX12_view)]) 1 61,
  zo_none,
  zo_none,
  zo_callv zzSR (zz_cl [(10, fX12_ownerIn)]) 1 64,
  zo_none,
  zo_none,
  zo_icmp (fun x y => decide (¬ x = y)) 71 67,
  zo_none,
  zo_none,
  zo_pushI 1 68,
  zo_goto 72,
  zo_none,
  zo_none,
  zo_pushI 0 72,
  zo_istore 5 74,
  zo_none,
  zo_iload 5 76,
  zo_none,
  zo_if (fun x => decide (x = 0)) 92 79,
  zo_none,
  zo_none,
  zo_aload 0 80,
  zo_iload 4 82,
  zo_none,
  zo_pushI 15 84,
  zo_none,
  zo_callv zzSR (zz_cl [(10, fX12_viewed)]) 2 87,
  zo_none,
  zo_none,
  zo_pushI 1 88,
  zo_ii (fun x y => x - y) 89,
  zo_goto 93,
  zo_none,
  zo_none,
  zo_pushI (-1) 93,
  zo_istore 6 95,
  zo_none,
  zo_iload 3 96,
  zo_iload 5 98,
  zo_none,
  zo_if (fun x => decide (x = 0)) 126 101,
  zo_none,
  zo_none,
  zo_aload 0 102,
  zo_iload 6 104,
  zo_none,
  zo_callv zzSR (zz_cl [(10, fX12_isGoneThere)]) 1 107,
  zo_none,
  zo_none,
  zo_if (fun x => decide (¬ x = 0)) 126 110,
  zo_none,
  zo_none,
  zo_aload 0 111,
  zo_iload 6 113,
  zo_none,
  zo_pushI 8 115,
  zo_none,
  zo_callv zzSR (zz_cl [(10, fX12_viewed)]) 2 118,
  zo_none,
  zo_none,
  zo_iload 2 119,
  zo_icmp (fun x y => decide (¬ x = y)) 126 122,
  zo_none,
  zo_none,
  zo_pushI 1 123,
  zo_goto 127,
  zo_none,
  zo_none,
  zo_pushI 0 127,
  zo_ii (fun x y => x + y) 128,
  zo_istore 3 129,
  zo_iinc 4 1 132,
  zo_none,
  zo_none,
  zo_goto 5,
  zo_none,
  zo_none,
  zo_iload 3 136,
  zo_iret false]
set_option maxRecDepth 100000 in
theorem tl_X12_zoned : ∀ pc, zz_Tl (tX12_zoned.getD pc zo_none) := by
  refine zz_Tl_mem ?_
  unfold tX12_zoned
  refine List.forall_mem_cons.mpr ⟨(zo_pushI_tl _ _), ?_⟩
  refine List.forall_mem_cons.mpr ⟨(zo_istore_tl _ _), ?_⟩
  refine List.forall_mem_cons.mpr ⟨(zo_pushI_tl _ _), ?_⟩
  refine List.forall_mem_cons.mpr ⟨(zo_istore_tl _ _), ?_⟩
  refine List.forall_mem_cons.mpr ⟨zo_none_tl, ?_⟩
  refine List.forall_mem_cons.mpr ⟨(zo_iload_tl _ _), ?_⟩
  refine List.forall_mem_cons.mpr ⟨zo_none_tl, ?_⟩
  refine List.forall_mem_cons.mpr ⟨(zo_aload_tl _ _), ?_⟩
  refine List.forall_mem_cons.mpr ⟨(zo_getf_tl _ _ _), ?_⟩
  refine List.forall_mem_cons.mpr ⟨zo_none_tl, ?_⟩
  refine List.forall_mem_cons.mpr ⟨zo_none_tl, ?_⟩
  refine List.forall_mem_cons.mpr ⟨(zo_icmp_tl _ _ _), ?_⟩
  refine List.forall_mem_cons.mpr ⟨zo_none_tl, ?_⟩
  refine List.forall_mem_cons.mpr ⟨zo_none_tl, ?_⟩
  refine List.forall_mem_cons.mpr ⟨(zo_aload_tl _ _), ?_⟩
  refine List.forall_mem_cons.mpr ⟨(zo_iload_tl _ _), ?_⟩
  refine List.forall_mem_cons.mpr ⟨zo_none_tl, ?_⟩
  refine List.forall_mem_cons.mpr ⟨(zo_callv_tl _ _ _ _), ?_⟩
  refine List.forall_mem_cons.mpr ⟨zo_none_tl, ?_⟩
  refine List.forall_mem_cons.mpr ⟨zo_none_tl, ?_⟩
  refine List.forall_mem_cons.mpr ⟨(zo_if_tl _ _ _), ?_⟩
  refine List.forall_mem_cons.mpr ⟨zo_none_tl, ?_⟩
  refine List.forall_mem_cons.mpr ⟨zo_none_tl, ?_⟩
  refine List.forall_mem_cons.mpr ⟨(zo_aload_tl _ _), ?_⟩
  refine List.forall_mem_cons.mpr ⟨(zo_getf_tl _ _ _), ?_⟩
  refine List.forall_mem_cons.mpr ⟨zo_none_tl, ?_⟩
  refine List.forall_mem_cons.mpr ⟨zo_none_tl, ?_⟩
  refine List.forall_mem_cons.mpr ⟨(zo_iload_tl _ _), ?_⟩
  refine List.forall_mem_cons.mpr ⟨zo_none_tl, ?_⟩
  refine List.forall_mem_cons.mpr ⟨(zo_iald_tl _ _ _), ?_⟩
  refine List.forall_mem_cons.mpr ⟨(zo_pushI_tl _ _), ?_⟩
  refine List.forall_mem_cons.mpr ⟨(zo_icmp_tl _ _ _), ?_⟩
  refine List.forall_mem_cons.mpr ⟨zo_none_tl, ?_⟩
  refine List.forall_mem_cons.mpr ⟨zo_none_tl, ?_⟩
  refine List.forall_mem_cons.mpr ⟨(zo_aload_tl _ _), ?_⟩
  refine List.forall_mem_cons.mpr ⟨(zo_iload_tl _ _), ?_⟩
  refine List.forall_mem_cons.mpr ⟨zo_none_tl, ?_⟩
  refine List.forall_mem_cons.mpr ⟨(zo_pushI_tl _ _), ?_⟩
  refine List.forall_mem_cons.mpr ⟨zo_none_tl, ?_⟩
  refine List.forall_mem_cons.mpr ⟨(zo_callv_tl _ _ _ _), ?_⟩
  refine List.forall_mem_cons.mpr ⟨zo_none_tl, ?_⟩
  refine List.forall_mem_cons.mpr ⟨zo_none_tl, ?_⟩
  refine List.forall_mem_cons.mpr ⟨(zo_if_tl _ _ _), ?_⟩
  refine List.forall_mem_cons.mpr ⟨zo_none_tl, ?_⟩
  refine List.forall_mem_cons.mpr ⟨zo_none_tl, ?_⟩
  refine List.forall_mem_cons.mpr ⟨(zo_aload_tl _ _), ?_⟩
  refine List.forall_mem_cons.mpr ⟨(zo_aload_tl _ _), ?_⟩
  refine List.forall_mem_cons.mpr ⟨(zo_iload_tl _ _), ?_⟩
  refine List.forall_mem_cons.mpr ⟨zo_none_tl, ?_⟩
  refine List.forall_mem_cons.mpr ⟨(zo_callv_tl _ _ _ _), ?_⟩
  refine List.forall_mem_cons.mpr ⟨zo_none_tl, ?_⟩
  refine List.forall_mem_cons.mpr ⟨zo_none_tl, ?_⟩
  refine List.forall_mem_cons.mpr ⟨(zo_callv_tl _ _ _ _), ?_⟩
  refine List.forall_mem_cons.mpr ⟨zo_none_tl, ?_⟩
  refine List.forall_mem_cons.mpr ⟨zo_none_tl, ?_⟩
  refine List.forall_mem_cons.mpr ⟨(zo_aload_tl _ _), ?_⟩
  refine List.forall_mem_cons.mpr ⟨(zo_aload_tl _ _), ?_⟩
  refine List.forall_mem_cons.mpr ⟨(zo_iload_tl _ _), ?_⟩
  refine List.forall_mem_cons.mpr ⟨(zo_callv_tl _ _ _ _), ?_⟩
  refine List.forall_mem_cons.mpr ⟨zo_none_tl, ?_⟩
  refine List.forall_mem_cons.mpr ⟨zo_none_tl, ?_⟩
  refine List.forall_mem_cons.mpr ⟨(zo_callv_tl _ _ _ _), ?_⟩
  refine List.forall_mem_cons.mpr ⟨zo_none_tl, ?_⟩
  refine List.forall_mem_cons.mpr ⟨zo_none_tl, ?_⟩
  refine List.forall_mem_cons.mpr ⟨(zo_icmp_tl _ _ _), ?_⟩
  refine List.forall_mem_cons.mpr ⟨zo_none_tl, ?_⟩
  refine List.forall_mem_cons.mpr ⟨zo_none_tl, ?_⟩
  refine List.forall_mem_cons.mpr ⟨(zo_pushI_tl _ _), ?_⟩
  refine List.forall_mem_cons.mpr ⟨(zo_goto_tl _), ?_⟩
  refine List.forall_mem_cons.mpr ⟨zo_none_tl, ?_⟩
  refine List.forall_mem_cons.mpr ⟨zo_none_tl, ?_⟩
  refine List.forall_mem_cons.mpr ⟨(zo_pushI_tl _ _), ?_⟩
  refine List.forall_mem_cons.mpr ⟨(zo_istore_tl _ _), ?_⟩
  refine List.forall_mem_cons.mpr ⟨zo_none_tl, ?_⟩
  refine List.forall_mem_cons.mpr ⟨(zo_iload_tl _ _), ?_⟩
  refine List.forall_mem_cons.mpr ⟨zo_none_tl, ?_⟩
  refine List.forall_mem_cons.mpr ⟨(zo_if_tl _ _ _), ?_⟩
  refine List.forall_mem_cons.mpr ⟨zo_none_tl, ?_⟩
  refine List.forall_mem_cons.mpr ⟨zo_none_tl, ?_⟩
  refine List.forall_mem_cons.mpr ⟨(zo_aload_tl _ _), ?_⟩
  refine List.forall_mem_cons.mpr ⟨(zo_iload_tl _ _), ?_⟩
  refine List.forall_mem_cons.mpr ⟨zo_none_tl, ?_⟩
  refine List.forall_mem_cons.mpr ⟨(zo_pushI_tl _ _), ?_⟩
  refine List.forall_mem_cons.mpr ⟨zo_none_tl, ?_⟩
  refine List.forall_mem_cons.mpr ⟨(zo_callv_tl _ _ _ _), ?_⟩
  refine List.forall_mem_cons.mpr ⟨zo_none_tl, ?_⟩
  refine List.forall_mem_cons.mpr ⟨zo_none_tl, ?_⟩
  refine List.forall_mem_cons.mpr ⟨(zo_pushI_tl _ _), ?_⟩
  refine List.forall_mem_cons.mpr ⟨(zo_ii_tl _ _), ?_⟩
  refine List.forall_mem_cons.mpr ⟨(zo_goto_tl _), ?_⟩
  refine List.forall_mem_cons.mpr ⟨zo_none_tl, ?_⟩
  refine List.forall_mem_cons.mpr ⟨zo_none_tl, ?_⟩
  refine List.forall_mem_cons.mpr ⟨(zo_pushI_tl _ _), ?_⟩
  refine List.forall_mem_cons.mpr ⟨(zo_istore_tl _ _), ?_⟩
  refine List.forall_mem_cons.mpr ⟨zo_none_tl, ?_⟩
  refine List.forall_mem_cons.mpr ⟨(zo_iload_tl _ _), ?_⟩
  refine List.forall_mem_cons.mpr ⟨(zo_iload_tl _ _), ?_⟩
  refine List.forall_mem_cons.mpr ⟨zo_none_tl, ?_⟩
  refine List.forall_mem_cons.mpr ⟨(zo_if_tl _ _ _), ?_⟩
  refine List.forall_mem_cons.mpr ⟨zo_none_tl, ?_⟩
  refine List.forall_mem_cons.mpr ⟨zo_none_tl, ?_⟩
  refine List.forall_mem_cons.mpr ⟨(zo_aload_tl _ _), ?_⟩
  refine List.forall_mem_cons.mpr ⟨(zo_iload_tl _ _), ?_⟩
  refine List.forall_mem_cons.mpr ⟨zo_none_tl, ?_⟩
  refine List.forall_mem_cons.mpr ⟨(zo_callv_tl _ _ _ _), ?_⟩
  refine List.forall_mem_cons.mpr ⟨zo_none_tl, ?_⟩
  refine List.forall_mem_cons.mpr ⟨zo_none_tl, ?_⟩
  refine List.forall_mem_cons.mpr ⟨(zo_if_tl _ _ _), ?_⟩
  refine List.forall_mem_cons.mpr ⟨zo_none_tl, ?_⟩
  refine List.forall_mem_cons.mpr ⟨zo_none_tl, ?_⟩
  refine List.forall_mem_cons.mpr ⟨(zo_aload_tl _ _), ?_⟩
  refine List.forall_mem_cons.mpr ⟨(zo_iload_tl _ _), ?_⟩
  refine List.forall_mem_cons.mpr ⟨zo_none_tl, ?_⟩
  refine List.forall_mem_cons.mpr ⟨(zo_pushI_tl _ _), ?_⟩
  refine List.forall_mem_cons.mpr ⟨zo_none_tl, ?_⟩
  refine List.forall_mem_cons.mpr ⟨(zo_callv_tl _ _ _ _), ?_⟩
  refine List.forall_mem_cons.mpr ⟨zo_none_tl, ?_⟩
  refine List.forall_mem_cons.mpr ⟨zo_none_tl, ?_⟩
  refine List.forall_mem_cons.mpr ⟨(zo_iload_tl _ _), ?_⟩
  refine List.forall_mem_cons.mpr ⟨(zo_icmp_tl _ _ _), ?_⟩
  refine List.forall_mem_cons.mpr ⟨zo_none_tl, ?_⟩
  refine List.forall_mem_cons.mpr ⟨zo_none_tl, ?_⟩
  refine List.forall_mem_cons.mpr ⟨(zo_pushI_tl _ _), ?_⟩
  refine List.forall_mem_cons.mpr ⟨(zo_goto_tl _), ?_⟩
  refine List.forall_mem_cons.mpr ⟨zo_none_tl, ?_⟩
  refine List.forall_mem_cons.mpr ⟨zo_none_tl, ?_⟩
  refine List.forall_mem_cons.mpr ⟨(zo_pushI_tl _ _), ?_⟩
  refine List.forall_mem_cons.mpr ⟨(zo_ii_tl _ _), ?_⟩
  refine List.forall_mem_cons.mpr ⟨(zo_istore_tl _ _), ?_⟩
  refine List.forall_mem_cons.mpr ⟨(zo_iinc_tl _ _ _), ?_⟩
  refine List.forall_mem_cons.mpr ⟨zo_none_tl, ?_⟩
  refine List.forall_mem_cons.mpr ⟨zo_none_tl, ?_⟩
  refine List.forall_mem_cons.mpr ⟨(zo_goto_tl _), ?_⟩
  refine List.forall_mem_cons.mpr ⟨zo_none_tl, ?_⟩
  refine List.forall_mem_cons.mpr ⟨zo_none_tl, ?_⟩
  refine List.forall_mem_cons.mpr ⟨(zo_iload_tl _ _), ?_⟩
  refine List.forall_mem_cons.mpr ⟨(zo_iret_tl _), ?_⟩
  exact fun _ h => absurd h List.not_mem_nil
noncomputable def fX12_zoned : zzFn := zz_fn tX12_zoned 7
set_option maxRecDepth 100000 in
set_option maxHeartbeats 4000000 in
theorem mm_X12_zoned {l : Launch} {D : va_G} {cA : Nat → ClassId} {ad : Nat → Nat} {Ex : (Nat → Prop) → State → Heap → Prop} (Wd : zzWR l D cA ad Ex) : zz_Cn l D zzCl cA ad zzSR Ex yX12_zoned cX12_zoned 7 (some .int) 3 66 fX12_zoned ∧ zz_Cx l D zzCl cA ad zzSR Ex yX12_zoned cX12_zoned 7 (some .int) 3 66 fX12_zoned := by
  refine zz_meth (plainFor_of_name (by decide)) Wd.1 Wd.2.1 Wd.2.2 (fun p e R s m args below meth c rr X => ?_)
  unfold tX12_zoned
  refine zz_cons (k' := 1) rfl (zk_iconst X dX12_zoned_0 (by decide) rfl) ?_
  refine zz_cons (k' := 2) rfl (zk_istore_n X dX12_zoned_1 rfl (by decide) rfl) ?_
  refine zz_cons (k' := 3) rfl (zk_iconst X dX12_zoned_2 (by decide) rfl) ?_
  refine zz_cons (k' := 4) rfl (zk_istore X dX12_zoned_3 (by decide) rfl) ?_
  refine zz_cons (k' := 5) rfl (zz_Ok_none _ _) ?_
  refine zz_cons (k' := 6) rfl (zk_iload X dX12_zoned_5 rfl) ?_
  refine zz_cons (k' := 7) rfl (zz_Ok_none _ _) ?_
  refine zz_cons (k' := 8) rfl (zk_aload_n X dX12_zoned_7 rfl rfl) ?_
  refine zz_cons (k' := 9) rfl (zk_getf X ff_X12_137 dX12_zoned_8 rfl) ?_
  refine zz_cons (k' := 10) rfl (zz_Ok_none _ _) ?_
  refine zz_cons (k' := 11) rfl (zz_Ok_none _ _) ?_
  refine zz_cons (k' := 12) rfl (zk_icmp_ge X dX12_zoned_11 (by decide) rfl) ?_
  refine zz_cons (k' := 13) rfl (zz_Ok_none _ _) ?_
  refine zz_cons (k' := 14) rfl (zz_Ok_none _ _) ?_
  refine zz_cons (k' := 15) rfl (zk_aload_n X dX12_zoned_14 rfl rfl) ?_
  refine zz_cons (k' := 16) rfl (zk_iload X dX12_zoned_15 rfl) ?_
  refine zz_cons (k' := 17) rfl (zz_Ok_none _ _) ?_
  refine zz_cons (k' := 18) rfl (zk_callv X (zz_Cv_of (List.forall_mem_cons.mpr ⟨⟨(RX_10, zzT10, 50), yX12_isGoneThere, cX12_isGoneThere, 2, (some .boolean), 2, 45, rfl, kv_X12_211_10.1, (mm_X12_isGoneThere Wd).1, by decide, by decide⟩, (fun _ h => absurd h List.not_mem_nil)⟩)) dX12_zoned_17 rfl) ?_
  refine zz_cons (k' := 19) rfl (zz_Ok_none _ _) ?_
  refine zz_cons (k' := 20) rfl (zz_Ok_none _ _) ?_
  refine zz_cons (k' := 21) rfl (zk_if_ne X dX12_zoned_20 (by decide) rfl) ?_
  refine zz_cons (k' := 22) rfl (zz_Ok_none _ _) ?_
  refine zz_cons (k' := 23) rfl (zz_Ok_none _ _) ?_
  refine zz_cons (k' := 24) rfl (zk_aload_n X dX12_zoned_23 rfl rfl) ?_
  refine zz_cons (k' := 25) rfl (zk_getf X ff_X12_25 dX12_zoned_24 rfl) ?_
  refine zz_cons (k' := 26) rfl (zz_Ok_none _ _) ?_
  refine zz_cons (k' := 27) rfl (zz_Ok_none _ _) ?_
  refine zz_cons (k' := 28) rfl (zk_iload X dX12_zoned_27 rfl) ?_
  refine zz_cons (k' := 29) rfl (zz_Ok_none _ _) ?_
  refine zz_cons (k' := 30) rfl (zk_iald X (zzWR_st Wd) dX12_zoned_29 rfl) ?_
  refine zz_cons (k' := 31) rfl (zk_iconst X dX12_zoned_30 (by decide) rfl) ?_
  refine zz_cons (k' := 32) rfl (zk_icmp_ne X dX12_zoned_31 (by decide) rfl) ?_
  refine zz_cons (k' := 33) rfl (zz_Ok_none _ _) ?_
  refine zz_cons (k' := 34) rfl (zz_Ok_none _ _) ?_
  refine zz_cons (k' := 35) rfl (zk_aload_n X dX12_zoned_34 rfl rfl) ?_
  refine zz_cons (k' := 36) rfl (zk_iload X dX12_zoned_35 rfl) ?_
  refine zz_cons (k' := 37) rfl (zz_Ok_none _ _) ?_
  refine zz_cons (k' := 38) rfl (zk_bipush X dX12_zoned_37 (by decide) rfl) ?_
  refine zz_cons (k' := 39) rfl (zz_Ok_none _ _) ?_
  refine zz_cons (k' := 40) rfl (zk_callv X (zz_Cv_of (List.forall_mem_cons.mpr ⟨⟨(RX_10, zzT10, 50), yX12_viewed, cX12_viewed, 3, (some .int), 1, 23, rfl, kv_X12_204_10.1, (mm_X12_viewed Wd).1, by decide, by decide⟩, (fun _ h => absurd h List.not_mem_nil)⟩)) dX12_zoned_39 rfl) ?_
  refine zz_cons (k' := 41) rfl (zz_Ok_none _ _) ?_
  refine zz_cons (k' := 42) rfl (zz_Ok_none _ _) ?_
  refine zz_cons (k' := 43) rfl (zk_if_le X dX12_zoned_42 (by decide) rfl) ?_
  refine zz_cons (k' := 44) rfl (zz_Ok_none _ _) ?_
  refine zz_cons (k' := 45) rfl (zz_Ok_none _ _) ?_
  refine zz_cons (k' := 46) rfl (zk_aload_n X dX12_zoned_45 rfl rfl) ?_
  refine zz_cons (k' := 47) rfl (zk_aload_n X dX12_zoned_46 rfl rfl) ?_
  refine zz_cons (k' := 48) rfl (zk_iload X dX12_zoned_47 rfl) ?_
  refine zz_cons (k' := 49) rfl (zz_Ok_none _ _) ?_
  refine zz_cons (k' := 50) rfl (zk_callv X (zz_Cv_of (List.forall_mem_cons.mpr ⟨⟨(RX_10, zzT10, 50), yX12_view, cX12_view, 2, (some .long), 0, 0, rfl, kv_X12_196_10.1, (mm_X12_view Wd).1, by decide, by decide⟩, (fun _ h => absurd h List.not_mem_nil)⟩)) dX12_zoned_49 rfl) ?_
  refine zz_cons (k' := 51) rfl (zz_Ok_none _ _) ?_
  refine zz_cons (k' := 52) rfl (zz_Ok_none _ _) ?_
  refine zz_cons (k' := 53) rfl (zk_callv X (zz_Cv_of (List.forall_mem_cons.mpr ⟨⟨(RX_10, zzT10, 50), yX12_ownerIn, cX12_ownerIn, 3, (some .int), 1, 23, rfl, kv_X12_214_10.1, (mm_X12_ownerIn Wd).1, by decide, by decide⟩, (fun _ h => absurd h List.not_mem_nil)⟩)) dX12_zoned_52 rfl) ?_
  refine zz_cons (k' := 54) rfl (zz_Ok_none _ _) ?_
  refine zz_cons (k' := 55) rfl (zz_Ok_none _ _) ?_
  refine zz_cons (k' := 56) rfl (zk_aload_n X dX12_zoned_55 rfl rfl) ?_
  refine zz_cons (k' := 57) rfl (zk_aload_n X dX12_zoned_56 rfl rfl) ?_
  refine zz_cons (k' := 58) rfl (zk_iload_n X dX12_zoned_57 rfl rfl) ?_
  refine zz_cons (k' := 59) rfl (zk_callv X (zz_Cv_of (List.forall_mem_cons.mpr ⟨⟨(RX_10, zzT10, 50), yX12_view, cX12_view, 2, (some .long), 0, 0, rfl, kv_X12_196_10.1, (mm_X12_view Wd).1, by decide, by decide⟩, (fun _ h => absurd h List.not_mem_nil)⟩)) dX12_zoned_58 rfl) ?_
  refine zz_cons (k' := 60) rfl (zz_Ok_none _ _) ?_
  refine zz_cons (k' := 61) rfl (zz_Ok_none _ _) ?_
  refine zz_cons (k' := 62) rfl (zk_callv X (zz_Cv_of (List.forall_mem_cons.mpr ⟨⟨(RX_10, zzT10, 50), yX12_ownerIn, cX12_ownerIn, 3, (some .int), 1, 23, rfl, kv_X12_214_10.1, (mm_X12_ownerIn Wd).1, by decide, by decide⟩, (fun _ h => absurd h List.not_mem_nil)⟩)) dX12_zoned_61 rfl) ?_
  refine zz_cons (k' := 63) rfl (zz_Ok_none _ _) ?_
  refine zz_cons (k' := 64) rfl (zz_Ok_none _ _) ?_
  refine zz_cons (k' := 65) rfl (zk_icmp_ne X dX12_zoned_64 (by decide) rfl) ?_
  refine zz_cons (k' := 66) rfl (zz_Ok_none _ _) ?_
  refine zz_cons (k' := 67) rfl (zz_Ok_none _ _) ?_
  refine zz_cons (k' := 68) rfl (zk_iconst X dX12_zoned_67 (by decide) rfl) ?_
  refine zz_cons (k' := 69) rfl (zk_goto X dX12_zoned_68 (by decide)) ?_
  refine zz_cons (k' := 70) rfl (zz_Ok_none _ _) ?_
  refine zz_cons (k' := 71) rfl (zz_Ok_none _ _) ?_
  refine zz_cons (k' := 72) rfl (zk_iconst X dX12_zoned_71 (by decide) rfl) ?_
  refine zz_cons (k' := 73) rfl (zk_istore X dX12_zoned_72 (by decide) rfl) ?_
  refine zz_cons (k' := 74) rfl (zz_Ok_none _ _) ?_
  refine zz_cons (k' := 75) rfl (zk_iload X dX12_zoned_74 rfl) ?_
  refine zz_cons (k' := 76) rfl (zz_Ok_none _ _) ?_
  refine zz_cons (k' := 77) rfl (zk_if_eq X dX12_zoned_76 (by decide) rfl) ?_
  refine zz_cons (k' := 78) rfl (zz_Ok_none _ _) ?_
  refine zz_cons (k' := 79) rfl (zz_Ok_none _ _) ?_
  refine zz_cons (k' := 80) rfl (zk_aload_n X dX12_zoned_79 rfl rfl) ?_
  refine zz_cons (k' := 81) rfl (zk_iload X dX12_zoned_80 rfl) ?_
  refine zz_cons (k' := 82) rfl (zz_Ok_none _ _) ?_
  refine zz_cons (k' := 83) rfl (zk_bipush X dX12_zoned_82 (by decide) rfl) ?_
  refine zz_cons (k' := 84) rfl (zz_Ok_none _ _) ?_
  refine zz_cons (k' := 85) rfl (zk_callv X (zz_Cv_of (List.forall_mem_cons.mpr ⟨⟨(RX_10, zzT10, 50), yX12_viewed, cX12_viewed, 3, (some .int), 1, 23, rfl, kv_X12_204_10.1, (mm_X12_viewed Wd).1, by decide, by decide⟩, (fun _ h => absurd h List.not_mem_nil)⟩)) dX12_zoned_84 rfl) ?_
  refine zz_cons (k' := 86) rfl (zz_Ok_none _ _) ?_
  refine zz_cons (k' := 87) rfl (zz_Ok_none _ _) ?_
  refine zz_cons (k' := 88) rfl (zk_iconst X dX12_zoned_87 (by decide) rfl) ?_
  refine zz_cons (k' := 89) rfl (zk_isub X dX12_zoned_88 rfl) ?_
  refine zz_cons (k' := 90) rfl (zk_goto X dX12_zoned_89 (by decide)) ?_
  refine zz_cons (k' := 91) rfl (zz_Ok_none _ _) ?_
  refine zz_cons (k' := 92) rfl (zz_Ok_none _ _) ?_
  refine zz_cons (k' := 93) rfl (zk_iconst X dX12_zoned_92 (by decide) rfl) ?_
  refine zz_cons (k' := 94) rfl (zk_istore X dX12_zoned_93 (by decide) rfl) ?_
  refine zz_cons (k' := 95) rfl (zz_Ok_none _ _) ?_
  refine zz_cons (k' := 96) rfl (zk_iload_n X dX12_zoned_95 rfl rfl) ?_
  refine zz_cons (k' := 97) rfl (zk_iload X dX12_zoned_96 rfl) ?_
  refine zz_cons (k' := 98) rfl (zz_Ok_none _ _) ?_
  refine zz_cons (k' := 99) rfl (zk_if_eq X dX12_zoned_98 (by decide) rfl) ?_
  refine zz_cons (k' := 100) rfl (zz_Ok_none _ _) ?_
  refine zz_cons (k' := 101) rfl (zz_Ok_none _ _) ?_
  refine zz_cons (k' := 102) rfl (zk_aload_n X dX12_zoned_101 rfl rfl) ?_
  refine zz_cons (k' := 103) rfl (zk_iload X dX12_zoned_102 rfl) ?_
  refine zz_cons (k' := 104) rfl (zz_Ok_none _ _) ?_
  refine zz_cons (k' := 105) rfl (zk_callv X (zz_Cv_of (List.forall_mem_cons.mpr ⟨⟨(RX_10, zzT10, 50), yX12_isGoneThere, cX12_isGoneThere, 2, (some .boolean), 2, 45, rfl, kv_X12_211_10.1, (mm_X12_isGoneThere Wd).1, by decide, by decide⟩, (fun _ h => absurd h List.not_mem_nil)⟩)) dX12_zoned_104 rfl) ?_
  refine zz_cons (k' := 106) rfl (zz_Ok_none _ _) ?_
  refine zz_cons (k' := 107) rfl (zz_Ok_none _ _) ?_
  refine zz_cons (k' := 108) rfl (zk_if_ne X dX12_zoned_107 (by decide) rfl) ?_
  refine zz_cons (k' := 109) rfl (zz_Ok_none _ _) ?_
  refine zz_cons (k' := 110) rfl (zz_Ok_none _ _) ?_
  refine zz_cons (k' := 111) rfl (zk_aload_n X dX12_zoned_110 rfl rfl) ?_
  refine zz_cons (k' := 112) rfl (zk_iload X dX12_zoned_111 rfl) ?_
  refine zz_cons (k' := 113) rfl (zz_Ok_none _ _) ?_
  refine zz_cons (k' := 114) rfl (zk_bipush X dX12_zoned_113 (by decide) rfl) ?_
  refine zz_cons (k' := 115) rfl (zz_Ok_none _ _) ?_
  refine zz_cons (k' := 116) rfl (zk_callv X (zz_Cv_of (List.forall_mem_cons.mpr ⟨⟨(RX_10, zzT10, 50), yX12_viewed, cX12_viewed, 3, (some .int), 1, 23, rfl, kv_X12_204_10.1, (mm_X12_viewed Wd).1, by decide, by decide⟩, (fun _ h => absurd h List.not_mem_nil)⟩)) dX12_zoned_115 rfl) ?_
  refine zz_cons (k' := 117) rfl (zz_Ok_none _ _) ?_
  refine zz_cons (k' := 118) rfl (zz_Ok_none _ _) ?_
  refine zz_cons (k' := 119) rfl (zk_iload_n X dX12_zoned_118 rfl rfl) ?_
  refine zz_cons (k' := 120) rfl (zk_icmp_ne X dX12_zoned_119 (by decide) rfl) ?_
  refine zz_cons (k' := 121) rfl (zz_Ok_none _ _) ?_
  refine zz_cons (k' := 122) rfl (zz_Ok_none _ _) ?_
  refine zz_cons (k' := 123) rfl (zk_iconst X dX12_zoned_122 (by decide) rfl) ?_
  refine zz_cons (k' := 124) rfl (zk_goto X dX12_zoned_123 (by decide)) ?_
  refine zz_cons (k' := 125) rfl (zz_Ok_none _ _) ?_
  refine zz_cons (k' := 126) rfl (zz_Ok_none _ _) ?_
  refine zz_cons (k' := 127) rfl (zk_iconst X dX12_zoned_126 (by decide) rfl) ?_
  refine zz_cons (k' := 128) rfl (zk_iadd X dX12_zoned_127 rfl) ?_
  refine zz_cons (k' := 129) rfl (zk_istore_n X dX12_zoned_128 rfl (by decide) rfl) ?_
  refine zz_cons (k' := 130) rfl (zk_iinc X dX12_zoned_129 (by decide) (by decide) rfl) ?_
  refine zz_cons (k' := 131) rfl (zz_Ok_none _ _) ?_
  refine zz_cons (k' := 132) rfl (zz_Ok_none _ _) ?_
  refine zz_cons (k' := 133) rfl (zk_goto X dX12_zoned_132 (by decide)) ?_
  refine zz_cons (k' := 134) rfl (zz_Ok_none _ _) ?_
  refine zz_cons (k' := 135) rfl (zz_Ok_none _ _) ?_
  refine zz_cons (k' := 136) rfl (zk_iload_n X dX12_zoned_135 rfl rfl) ?_
  refine zz_cons (k' := 137) rfl (zk_iret X rfl dX12_zoned_136) ?_
  exact trivial
noncomputable def tX12_nodeFor : List zzOp := [
  zo_pushI (-1) 1,
  zo_istore 2 2,
  zo_pushI 0 3,
  zo_istore 3 4,
  zo_pushI 0 5,
  zo_istore 4 7,
  zo_none,
  zo_pushI 0 8,
  zo_istore 5 10,
  zo_none,
  zo_iload 5 12,
  zo_none,
  zo_aload 0 13,
  zo_getf zzSR (zz_kf [10] 5) 16,
  zo_none,
  zo_none,
  zo_icmp (fun x y => decide (y ≤ x)) 163 19,
  zo_none,
  zo_none,
  zo_aload 0 20,
  zo_iload 5 22,
  zo_none,
  zo_callv zzSR (zz_cl [(10, fX12_isUsable)]) 1 25,
  zo_none,
  zo_none,
  zo_if (fun x => decide (x = 0)) 47 28,
  zo_none,
  zo_none,
  zo_aload 0 29,
  zo_iload 5 31,
  zo_none,
  zo_pushI 7 33,
  zo_none,
  zo_callv zzSR (zz_cl [(10, fX12_viewed)]) 2 36,
  zo_none,
  zo_none,
  zo_aload 0 37,
  zo_iload 5 39,
  zo_none,
  zo_pushI 0 40,
  zo_callv zzSR (zz_cl [(10, fX12_used)]) 2 43,
  zo_none,
  zo_none,
  zo_ii (fun x y => x - y) 44,
  zo_goto 48,
  zo_none,
  zo_none,
  zo_pushI 0 48,
  zo_istore 6 50,
  zo_none,
  zo_aload 0 51,
  zo_iload 5 53,
  zo_none,
  zo_callv zzSR (zz_cl [(10, fX12_isUsable)]) 1 56,
  zo_none,
  zo_none,
  zo_if (fun x => decide (x = 0)) 157 59,
  zo_none,
  zo_none,
  zo_iload 6 61,
  zo_none,
  zo_aload 0 62,
  zo_iload 1 63,
  zo_pushI 1 64,
  zo_callv zzSR (zz_cl [(10, fX12_viewed)]) 2 67,
  zo_none,
  zo_none,
  zo_calls fX12_need 1 70,
  zo_none,
  zo_none,
  zo_icmp (fun x y => decide (x < y)) 157 73,
  zo_none,
  zo_none,
  zo_aload 0 74,
  zo_iload 1 75,
  zo_aload 0 76,
  zo_iload 5 78,
  zo_none,
  zo_pushI 8 80,
  zo_none,
  zo_callv zzSR (zz_cl [(10, fX12_viewed)]) 2 83,
  zo_none,
  zo_none,
  zo_callv zzSR (zz_cl [(10, fX12_zoned)]) 2 86,
  zo_none,
  zo_none,
  zo_istore 7 88,
  zo_none,
  zo_iload 2 89,
  zo_pushI (-1) 90,
  zo_icmp (fun x y => decide (x = y)) 112 93,
  zo_none,
  zo_none,
  zo_iload 7 95,
  zo_none,
  zo_iload 3 96,
  zo_icmp (fun x y => decide (x < y)) 112 99,
  zo_none,
  zo_none,
  zo_iload 7 101,
  zo_none,
  zo_iload 3 102,
  zo_icmp (fun x y => decide (¬ x = y)) 116 105,
  zo_none,
  zo_none,
  zo_iload 6 107,
  zo_none,
  zo_iload 4 109,
  zo_none,
  zo_icmp (fun x y => decide (x ≤ y)) 116 112,
  zo_none,
  zo_none,
  zo_pushI 1 113,
  zo_goto 117,
  zo_none,
  zo_none,
  zo_pushI 0 117,
  zo_istore 8 119,
  zo_none,
  zo_iload 8 121,
  zo_none,
  zo_if (fun x => decide (x = 0)) 129 124,
  zo_none,
  zo_none,
  zo_iload 5 126,
  zo_none,
  zo_goto 130,
  zo_none,
  zo_none,
  zo_iload 2 130,
  zo_istore 2 131,
  zo_iload 8 133,
  zo_none,
  zo_if (fun x => decide (x = 0)) 141 136,
  zo_none,
  zo_none,
  zo_iload 7 138,
  zo_none,
  zo_goto 142,
  zo_none,
  zo_none,
  zo_iload 3 142,
  zo_istore 3 143,
  zo_iload 8 145,
  zo_none,
  zo_if (fun x => decide (x = 0)) 153 148,
  zo_none,
  zo_none,
  zo_iload 6 150,
  zo_none,
  zo_goto 155,
  zo_none,
  zo_none,
  zo_iload 4 155,
  zo_none,
  zo_istore 4 157,
  zo_none,
  zo_iinc 5 1 160,
  zo_none,
  zo_none,
  zo_goto 10,
  zo_none,
  zo_none,
  zo_iload 2 164,
  zo_iret false]
set_option maxRecDepth 100000 in
theorem tl_X12_nodeFor : ∀ pc, zz_Tl (tX12_nodeFor.getD pc zo_none) := by
  refine zz_Tl_mem ?_
  unfold tX12_nodeFor
  refine List.forall_mem_cons.mpr ⟨(zo_pushI_tl _ _), ?_⟩
  refine List.forall_mem_cons.mpr ⟨(zo_istore_tl _ _), ?_⟩
  refine List.forall_mem_cons.mpr ⟨(zo_pushI_tl _ _), ?_⟩
  refine List.forall_mem_cons.mpr ⟨(zo_istore_tl _ _), ?_⟩
  refine List.forall_mem_cons.mpr ⟨(zo_pushI_tl _ _), ?_⟩
  refine List.forall_mem_cons.mpr ⟨(zo_istore_tl _ _), ?_⟩
  refine List.forall_mem_cons.mpr ⟨zo_none_tl, ?_⟩
  refine List.forall_mem_cons.mpr ⟨(zo_pushI_tl _ _), ?_⟩
  refine List.forall_mem_cons.mpr ⟨(zo_istore_tl _ _), ?_⟩
  refine List.forall_mem_cons.mpr ⟨zo_none_tl, ?_⟩
  refine List.forall_mem_cons.mpr ⟨(zo_iload_tl _ _), ?_⟩
  refine List.forall_mem_cons.mpr ⟨zo_none_tl, ?_⟩
  refine List.forall_mem_cons.mpr ⟨(zo_aload_tl _ _), ?_⟩
  refine List.forall_mem_cons.mpr ⟨(zo_getf_tl _ _ _), ?_⟩
  refine List.forall_mem_cons.mpr ⟨zo_none_tl, ?_⟩
  refine List.forall_mem_cons.mpr ⟨zo_none_tl, ?_⟩
  refine List.forall_mem_cons.mpr ⟨(zo_icmp_tl _ _ _), ?_⟩
  refine List.forall_mem_cons.mpr ⟨zo_none_tl, ?_⟩
  refine List.forall_mem_cons.mpr ⟨zo_none_tl, ?_⟩
  refine List.forall_mem_cons.mpr ⟨(zo_aload_tl _ _), ?_⟩
  refine List.forall_mem_cons.mpr ⟨(zo_iload_tl _ _), ?_⟩
  refine List.forall_mem_cons.mpr ⟨zo_none_tl, ?_⟩
  refine List.forall_mem_cons.mpr ⟨(zo_callv_tl _ _ _ _), ?_⟩
  refine List.forall_mem_cons.mpr ⟨zo_none_tl, ?_⟩
  refine List.forall_mem_cons.mpr ⟨zo_none_tl, ?_⟩
  refine List.forall_mem_cons.mpr ⟨(zo_if_tl _ _ _), ?_⟩
  refine List.forall_mem_cons.mpr ⟨zo_none_tl, ?_⟩
  refine List.forall_mem_cons.mpr ⟨zo_none_tl, ?_⟩
  refine List.forall_mem_cons.mpr ⟨(zo_aload_tl _ _), ?_⟩
  refine List.forall_mem_cons.mpr ⟨(zo_iload_tl _ _), ?_⟩
  refine List.forall_mem_cons.mpr ⟨zo_none_tl, ?_⟩
  refine List.forall_mem_cons.mpr ⟨(zo_pushI_tl _ _), ?_⟩
  refine List.forall_mem_cons.mpr ⟨zo_none_tl, ?_⟩
  refine List.forall_mem_cons.mpr ⟨(zo_callv_tl _ _ _ _), ?_⟩
  refine List.forall_mem_cons.mpr ⟨zo_none_tl, ?_⟩
  refine List.forall_mem_cons.mpr ⟨zo_none_tl, ?_⟩
  refine List.forall_mem_cons.mpr ⟨(zo_aload_tl _ _), ?_⟩
  refine List.forall_mem_cons.mpr ⟨(zo_iload_tl _ _), ?_⟩
  refine List.forall_mem_cons.mpr ⟨zo_none_tl, ?_⟩
  refine List.forall_mem_cons.mpr ⟨(zo_pushI_tl _ _), ?_⟩
  refine List.forall_mem_cons.mpr ⟨(zo_callv_tl _ _ _ _), ?_⟩
  refine List.forall_mem_cons.mpr ⟨zo_none_tl, ?_⟩
  refine List.forall_mem_cons.mpr ⟨zo_none_tl, ?_⟩
  refine List.forall_mem_cons.mpr ⟨(zo_ii_tl _ _), ?_⟩
  refine List.forall_mem_cons.mpr ⟨(zo_goto_tl _), ?_⟩
  refine List.forall_mem_cons.mpr ⟨zo_none_tl, ?_⟩
  refine List.forall_mem_cons.mpr ⟨zo_none_tl, ?_⟩
  refine List.forall_mem_cons.mpr ⟨(zo_pushI_tl _ _), ?_⟩
  refine List.forall_mem_cons.mpr ⟨(zo_istore_tl _ _), ?_⟩
  refine List.forall_mem_cons.mpr ⟨zo_none_tl, ?_⟩
  refine List.forall_mem_cons.mpr ⟨(zo_aload_tl _ _), ?_⟩
  refine List.forall_mem_cons.mpr ⟨(zo_iload_tl _ _), ?_⟩
  refine List.forall_mem_cons.mpr ⟨zo_none_tl, ?_⟩
  refine List.forall_mem_cons.mpr ⟨(zo_callv_tl _ _ _ _), ?_⟩
  refine List.forall_mem_cons.mpr ⟨zo_none_tl, ?_⟩
  refine List.forall_mem_cons.mpr ⟨zo_none_tl, ?_⟩
  refine List.forall_mem_cons.mpr ⟨(zo_if_tl _ _ _), ?_⟩
  refine List.forall_mem_cons.mpr ⟨zo_none_tl, ?_⟩
  refine List.forall_mem_cons.mpr ⟨zo_none_tl, ?_⟩
  refine List.forall_mem_cons.mpr ⟨(zo_iload_tl _ _), ?_⟩
  refine List.forall_mem_cons.mpr ⟨zo_none_tl, ?_⟩
  refine List.forall_mem_cons.mpr ⟨(zo_aload_tl _ _), ?_⟩
  refine List.forall_mem_cons.mpr ⟨(zo_iload_tl _ _), ?_⟩
  refine List.forall_mem_cons.mpr ⟨(zo_pushI_tl _ _), ?_⟩
  refine List.forall_mem_cons.mpr ⟨(zo_callv_tl _ _ _ _), ?_⟩
  refine List.forall_mem_cons.mpr ⟨zo_none_tl, ?_⟩
  refine List.forall_mem_cons.mpr ⟨zo_none_tl, ?_⟩
  refine List.forall_mem_cons.mpr ⟨(zo_calls_tl _ _ _), ?_⟩
  refine List.forall_mem_cons.mpr ⟨zo_none_tl, ?_⟩
  refine List.forall_mem_cons.mpr ⟨zo_none_tl, ?_⟩
  refine List.forall_mem_cons.mpr ⟨(zo_icmp_tl _ _ _), ?_⟩
  refine List.forall_mem_cons.mpr ⟨zo_none_tl, ?_⟩
  refine List.forall_mem_cons.mpr ⟨zo_none_tl, ?_⟩
  refine List.forall_mem_cons.mpr ⟨(zo_aload_tl _ _), ?_⟩
  refine List.forall_mem_cons.mpr ⟨(zo_iload_tl _ _), ?_⟩
  refine List.forall_mem_cons.mpr ⟨(zo_aload_tl _ _), ?_⟩
  refine List.forall_mem_cons.mpr ⟨(zo_iload_tl _ _), ?_⟩
  refine List.forall_mem_cons.mpr ⟨zo_none_tl, ?_⟩
  refine List.forall_mem_cons.mpr ⟨(zo_pushI_tl _ _), ?_⟩
  refine List.forall_mem_cons.mpr ⟨zo_none_tl, ?_⟩
  refine List.forall_mem_cons.mpr ⟨(zo_callv_tl _ _ _ _), ?_⟩
  refine List.forall_mem_cons.mpr ⟨zo_none_tl, ?_⟩
  refine List.forall_mem_cons.mpr ⟨zo_none_tl, ?_⟩
  refine List.forall_mem_cons.mpr ⟨(zo_callv_tl _ _ _ _), ?_⟩
  refine List.forall_mem_cons.mpr ⟨zo_none_tl, ?_⟩
  refine List.forall_mem_cons.mpr ⟨zo_none_tl, ?_⟩
  refine List.forall_mem_cons.mpr ⟨(zo_istore_tl _ _), ?_⟩
  refine List.forall_mem_cons.mpr ⟨zo_none_tl, ?_⟩
  refine List.forall_mem_cons.mpr ⟨(zo_iload_tl _ _), ?_⟩
  refine List.forall_mem_cons.mpr ⟨(zo_pushI_tl _ _), ?_⟩
  refine List.forall_mem_cons.mpr ⟨(zo_icmp_tl _ _ _), ?_⟩
  refine List.forall_mem_cons.mpr ⟨zo_none_tl, ?_⟩
  refine List.forall_mem_cons.mpr ⟨zo_none_tl, ?_⟩
  refine List.forall_mem_cons.mpr ⟨(zo_iload_tl _ _), ?_⟩
  refine List.forall_mem_cons.mpr ⟨zo_none_tl, ?_⟩
  refine List.forall_mem_cons.mpr ⟨(zo_iload_tl _ _), ?_⟩
  refine List.forall_mem_cons.mpr ⟨(zo_icmp_tl _ _ _), ?_⟩
  refine List.forall_mem_cons.mpr ⟨zo_none_tl, ?_⟩
  refine List.forall_mem_cons.mpr ⟨zo_none_tl, ?_⟩
  refine List.forall_mem_cons.mpr ⟨(zo_iload_tl _ _), ?_⟩
  refine List.forall_mem_cons.mpr ⟨zo_none_tl, ?_⟩
  refine List.forall_mem_cons.mpr ⟨(zo_iload_tl _ _), ?_⟩
  refine List.forall_mem_cons.mpr ⟨(zo_icmp_tl _ _ _), ?_⟩
  refine List.forall_mem_cons.mpr ⟨zo_none_tl, ?_⟩
  refine List.forall_mem_cons.mpr ⟨zo_none_tl, ?_⟩
  refine List.forall_mem_cons.mpr ⟨(zo_iload_tl _ _), ?_⟩
  refine List.forall_mem_cons.mpr ⟨zo_none_tl, ?_⟩
  refine List.forall_mem_cons.mpr ⟨(zo_iload_tl _ _), ?_⟩
  refine List.forall_mem_cons.mpr ⟨zo_none_tl, ?_⟩
  refine List.forall_mem_cons.mpr ⟨(zo_icmp_tl _ _ _), ?_⟩
  refine List.forall_mem_cons.mpr ⟨zo_none_tl, ?_⟩
  refine List.forall_mem_cons.mpr ⟨zo_none_tl, ?_⟩
  refine List.forall_mem_cons.mpr ⟨(zo_pushI_tl _ _), ?_⟩
  refine List.forall_mem_cons.mpr ⟨(zo_goto_tl _), ?_⟩
  refine List.forall_mem_cons.mpr ⟨zo_none_tl, ?_⟩
  refine List.forall_mem_cons.mpr ⟨zo_none_tl, ?_⟩
  refine List.forall_mem_cons.mpr ⟨(zo_pushI_tl _ _), ?_⟩
  refine List.forall_mem_cons.mpr ⟨(zo_istore_tl _ _), ?_⟩
  refine List.forall_mem_cons.mpr ⟨zo_none_tl, ?_⟩
  refine List.forall_mem_cons.mpr ⟨(zo_iload_tl _ _), ?_⟩
  refine List.forall_mem_cons.mpr ⟨zo_none_tl, ?_⟩
  refine List.forall_mem_cons.mpr ⟨(zo_if_tl _ _ _), ?_⟩
  refine List.forall_mem_cons.mpr ⟨zo_none_tl, ?_⟩
  refine List.forall_mem_cons.mpr ⟨zo_none_tl, ?_⟩
  refine List.forall_mem_cons.mpr ⟨(zo_iload_tl _ _), ?_⟩
  refine List.forall_mem_cons.mpr ⟨zo_none_tl, ?_⟩
  refine List.forall_mem_cons.mpr ⟨(zo_goto_tl _), ?_⟩
  refine List.forall_mem_cons.mpr ⟨zo_none_tl, ?_⟩
  refine List.forall_mem_cons.mpr ⟨zo_none_tl, ?_⟩
  refine List.forall_mem_cons.mpr ⟨(zo_iload_tl _ _), ?_⟩
  refine List.forall_mem_cons.mpr ⟨(zo_istore_tl _ _), ?_⟩
  refine List.forall_mem_cons.mpr ⟨(zo_iload_tl _ _), ?_⟩
  refine List.forall_mem_cons.mpr ⟨zo_none_tl, ?_⟩
  refine List.forall_mem_cons.mpr ⟨(zo_if_tl _ _ _), ?_⟩
  refine List.forall_mem_cons.mpr ⟨zo_none_tl, ?_⟩
  refine List.forall_mem_cons.mpr ⟨zo_none_tl, ?_⟩
  refine List.forall_mem_cons.mpr ⟨(zo_iload_tl _ _), ?_⟩
  refine List.forall_mem_cons.mpr ⟨zo_none_tl, ?_⟩
  refine List.forall_mem_cons.mpr ⟨(zo_goto_tl _), ?_⟩
  refine List.forall_mem_cons.mpr ⟨zo_none_tl, ?_⟩
  refine List.forall_mem_cons.mpr ⟨zo_none_tl, ?_⟩
  refine List.forall_mem_cons.mpr ⟨(zo_iload_tl _ _), ?_⟩
  refine List.forall_mem_cons.mpr ⟨(zo_istore_tl _ _), ?_⟩
  refine List.forall_mem_cons.mpr ⟨(zo_iload_tl _ _), ?_⟩
  refine List.forall_mem_cons.mpr ⟨zo_none_tl, ?_⟩
  refine List.forall_mem_cons.mpr ⟨(zo_if_tl _ _ _), ?_⟩
  refine List.forall_mem_cons.mpr ⟨zo_none_tl, ?_⟩
  refine List.forall_mem_cons.mpr ⟨zo_none_tl, ?_⟩
  refine List.forall_mem_cons.mpr ⟨(zo_iload_tl _ _), ?_⟩
  refine List.forall_mem_cons.mpr ⟨zo_none_tl, ?_⟩
  refine List.forall_mem_cons.mpr ⟨(zo_goto_tl _), ?_⟩
  refine List.forall_mem_cons.mpr ⟨zo_none_tl, ?_⟩
  refine List.forall_mem_cons.mpr ⟨zo_none_tl, ?_⟩
  refine List.forall_mem_cons.mpr ⟨(zo_iload_tl _ _), ?_⟩
  refine List.forall_mem_cons.mpr ⟨zo_none_tl, ?_⟩
  refine List.forall_mem_cons.mpr ⟨(zo_istore_tl _ _), ?_⟩
  refine List.forall_mem_cons.mpr ⟨zo_none_tl, ?_⟩
  refine List.forall_mem_cons.mpr ⟨(zo_iinc_tl _ _ _), ?_⟩
  refine List.forall_mem_cons.mpr ⟨zo_none_tl, ?_⟩
  refine List.forall_mem_cons.mpr ⟨zo_none_tl, ?_⟩
  refine List.forall_mem_cons.mpr ⟨(zo_goto_tl _), ?_⟩
  refine List.forall_mem_cons.mpr ⟨zo_none_tl, ?_⟩
  refine List.forall_mem_cons.mpr ⟨zo_none_tl, ?_⟩
  refine List.forall_mem_cons.mpr ⟨(zo_iload_tl _ _), ?_⟩
  refine List.forall_mem_cons.mpr ⟨(zo_iret_tl _), ?_⟩
  exact fun _ h => absurd h List.not_mem_nil
noncomputable def fX12_nodeFor : zzFn := zz_fn tX12_nodeFor 9
set_option maxRecDepth 100000 in
set_option maxHeartbeats 4000000 in
theorem mm_X12_nodeFor {l : Launch} {D : va_G} {cA : Nat → ClassId} {ad : Nat → Nat} {Ex : (Nat → Prop) → State → Heap → Prop} (Wd : zzWR l D cA ad Ex) : zz_Cn l D zzCl cA ad zzSR Ex yX12_nodeFor cX12_nodeFor 9 (some .int) 4 92 fX12_nodeFor ∧ zz_Cx l D zzCl cA ad zzSR Ex yX12_nodeFor cX12_nodeFor 9 (some .int) 4 92 fX12_nodeFor := by
  refine zz_meth (plainFor_of_name (by decide)) Wd.1 Wd.2.1 Wd.2.2 (fun p e R s m args below meth c rr X => ?_)
  unfold tX12_nodeFor
  refine zz_cons (k' := 1) rfl (zk_iconst X dX12_nodeFor_0 (by decide) rfl) ?_
  refine zz_cons (k' := 2) rfl (zk_istore_n X dX12_nodeFor_1 rfl (by decide) rfl) ?_
  refine zz_cons (k' := 3) rfl (zk_iconst X dX12_nodeFor_2 (by decide) rfl) ?_
  refine zz_cons (k' := 4) rfl (zk_istore_n X dX12_nodeFor_3 rfl (by decide) rfl) ?_
  refine zz_cons (k' := 5) rfl (zk_iconst X dX12_nodeFor_4 (by decide) rfl) ?_
  refine zz_cons (k' := 6) rfl (zk_istore X dX12_nodeFor_5 (by decide) rfl) ?_
  refine zz_cons (k' := 7) rfl (zz_Ok_none _ _) ?_
  refine zz_cons (k' := 8) rfl (zk_iconst X dX12_nodeFor_7 (by decide) rfl) ?_
  refine zz_cons (k' := 9) rfl (zk_istore X dX12_nodeFor_8 (by decide) rfl) ?_
  refine zz_cons (k' := 10) rfl (zz_Ok_none _ _) ?_
  refine zz_cons (k' := 11) rfl (zk_iload X dX12_nodeFor_10 rfl) ?_
  refine zz_cons (k' := 12) rfl (zz_Ok_none _ _) ?_
  refine zz_cons (k' := 13) rfl (zk_aload_n X dX12_nodeFor_12 rfl rfl) ?_
  refine zz_cons (k' := 14) rfl (zk_getf X ff_X12_137 dX12_nodeFor_13 rfl) ?_
  refine zz_cons (k' := 15) rfl (zz_Ok_none _ _) ?_
  refine zz_cons (k' := 16) rfl (zz_Ok_none _ _) ?_
  refine zz_cons (k' := 17) rfl (zk_icmp_ge X dX12_nodeFor_16 (by decide) rfl) ?_
  refine zz_cons (k' := 18) rfl (zz_Ok_none _ _) ?_
  refine zz_cons (k' := 19) rfl (zz_Ok_none _ _) ?_
  refine zz_cons (k' := 20) rfl (zk_aload_n X dX12_nodeFor_19 rfl rfl) ?_
  refine zz_cons (k' := 21) rfl (zk_iload X dX12_nodeFor_20 rfl) ?_
  refine zz_cons (k' := 22) rfl (zz_Ok_none _ _) ?_
  refine zz_cons (k' := 23) rfl (zk_callv X (zz_Cv_of (List.forall_mem_cons.mpr ⟨⟨(RX_10, zzT10, 50), yX12_isUsable, cX12_isUsable, 2, (some .boolean), 3, 67, rfl, kv_X12_305_10.1, (mm_X12_isUsable Wd).1, by decide, by decide⟩, (fun _ h => absurd h List.not_mem_nil)⟩)) dX12_nodeFor_22 rfl) ?_
  refine zz_cons (k' := 24) rfl (zz_Ok_none _ _) ?_
  refine zz_cons (k' := 25) rfl (zz_Ok_none _ _) ?_
  refine zz_cons (k' := 26) rfl (zk_if_eq X dX12_nodeFor_25 (by decide) rfl) ?_
  refine zz_cons (k' := 27) rfl (zz_Ok_none _ _) ?_
  refine zz_cons (k' := 28) rfl (zz_Ok_none _ _) ?_
  refine zz_cons (k' := 29) rfl (zk_aload_n X dX12_nodeFor_28 rfl rfl) ?_
  refine zz_cons (k' := 30) rfl (zk_iload X dX12_nodeFor_29 rfl) ?_
  refine zz_cons (k' := 31) rfl (zz_Ok_none _ _) ?_
  refine zz_cons (k' := 32) rfl (zk_bipush X dX12_nodeFor_31 (by decide) rfl) ?_
  refine zz_cons (k' := 33) rfl (zz_Ok_none _ _) ?_
  refine zz_cons (k' := 34) rfl (zk_callv X (zz_Cv_of (List.forall_mem_cons.mpr ⟨⟨(RX_10, zzT10, 50), yX12_viewed, cX12_viewed, 3, (some .int), 1, 23, rfl, kv_X12_204_10.1, (mm_X12_viewed Wd).1, by decide, by decide⟩, (fun _ h => absurd h List.not_mem_nil)⟩)) dX12_nodeFor_33 rfl) ?_
  refine zz_cons (k' := 35) rfl (zz_Ok_none _ _) ?_
  refine zz_cons (k' := 36) rfl (zz_Ok_none _ _) ?_
  refine zz_cons (k' := 37) rfl (zk_aload_n X dX12_nodeFor_36 rfl rfl) ?_
  refine zz_cons (k' := 38) rfl (zk_iload X dX12_nodeFor_37 rfl) ?_
  refine zz_cons (k' := 39) rfl (zz_Ok_none _ _) ?_
  refine zz_cons (k' := 40) rfl (zk_iconst X dX12_nodeFor_39 (by decide) rfl) ?_
  refine zz_cons (k' := 41) rfl (zk_callv X (zz_Cv_of (List.forall_mem_cons.mpr ⟨⟨(RX_10, zzT10, 50), yX12_used, cX12_used, 7, (some .int), 3, 66, rfl, kv_X12_308_10.1, (mm_X12_used Wd).1, by decide, by decide⟩, (fun _ h => absurd h List.not_mem_nil)⟩)) dX12_nodeFor_40 rfl) ?_
  refine zz_cons (k' := 42) rfl (zz_Ok_none _ _) ?_
  refine zz_cons (k' := 43) rfl (zz_Ok_none _ _) ?_
  refine zz_cons (k' := 44) rfl (zk_isub X dX12_nodeFor_43 rfl) ?_
  refine zz_cons (k' := 45) rfl (zk_goto X dX12_nodeFor_44 (by decide)) ?_
  refine zz_cons (k' := 46) rfl (zz_Ok_none _ _) ?_
  refine zz_cons (k' := 47) rfl (zz_Ok_none _ _) ?_
  refine zz_cons (k' := 48) rfl (zk_iconst X dX12_nodeFor_47 (by decide) rfl) ?_
  refine zz_cons (k' := 49) rfl (zk_istore X dX12_nodeFor_48 (by decide) rfl) ?_
  refine zz_cons (k' := 50) rfl (zz_Ok_none _ _) ?_
  refine zz_cons (k' := 51) rfl (zk_aload_n X dX12_nodeFor_50 rfl rfl) ?_
  refine zz_cons (k' := 52) rfl (zk_iload X dX12_nodeFor_51 rfl) ?_
  refine zz_cons (k' := 53) rfl (zz_Ok_none _ _) ?_
  refine zz_cons (k' := 54) rfl (zk_callv X (zz_Cv_of (List.forall_mem_cons.mpr ⟨⟨(RX_10, zzT10, 50), yX12_isUsable, cX12_isUsable, 2, (some .boolean), 3, 67, rfl, kv_X12_305_10.1, (mm_X12_isUsable Wd).1, by decide, by decide⟩, (fun _ h => absurd h List.not_mem_nil)⟩)) dX12_nodeFor_53 rfl) ?_
  refine zz_cons (k' := 55) rfl (zz_Ok_none _ _) ?_
  refine zz_cons (k' := 56) rfl (zz_Ok_none _ _) ?_
  refine zz_cons (k' := 57) rfl (zk_if_eq X dX12_nodeFor_56 (by decide) rfl) ?_
  refine zz_cons (k' := 58) rfl (zz_Ok_none _ _) ?_
  refine zz_cons (k' := 59) rfl (zz_Ok_none _ _) ?_
  refine zz_cons (k' := 60) rfl (zk_iload X dX12_nodeFor_59 rfl) ?_
  refine zz_cons (k' := 61) rfl (zz_Ok_none _ _) ?_
  refine zz_cons (k' := 62) rfl (zk_aload_n X dX12_nodeFor_61 rfl rfl) ?_
  refine zz_cons (k' := 63) rfl (zk_iload_n X dX12_nodeFor_62 rfl rfl) ?_
  refine zz_cons (k' := 64) rfl (zk_iconst X dX12_nodeFor_63 (by decide) rfl) ?_
  refine zz_cons (k' := 65) rfl (zk_callv X (zz_Cv_of (List.forall_mem_cons.mpr ⟨⟨(RX_10, zzT10, 50), yX12_viewed, cX12_viewed, 3, (some .int), 1, 23, rfl, kv_X12_204_10.1, (mm_X12_viewed Wd).1, by decide, by decide⟩, (fun _ h => absurd h List.not_mem_nil)⟩)) dX12_nodeFor_64 rfl) ?_
  refine zz_cons (k' := 66) rfl (zz_Ok_none _ _) ?_
  refine zz_cons (k' := 67) rfl (zz_Ok_none _ _) ?_
  refine zz_cons (k' := 68) rfl (zk_calls X ks_X12_276 (mm_X12_need Wd).1 (by decide) dX12_nodeFor_67 rfl) ?_
  refine zz_cons (k' := 69) rfl (zz_Ok_none _ _) ?_
  refine zz_cons (k' := 70) rfl (zz_Ok_none _ _) ?_
  refine zz_cons (k' := 71) rfl (zk_icmp_lt X dX12_nodeFor_70 (by decide) rfl) ?_
  refine zz_cons (k' := 72) rfl (zz_Ok_none _ _) ?_
  refine zz_cons (k' := 73) rfl (zz_Ok_none _ _) ?_
  refine zz_cons (k' := 74) rfl (zk_aload_n X dX12_nodeFor_73 rfl rfl) ?_
  refine zz_cons (k' := 75) rfl (zk_iload_n X dX12_nodeFor_74 rfl rfl) ?_
  refine zz_cons (k' := 76) rfl (zk_aload_n X dX12_nodeFor_75 rfl rfl) ?_
  refine zz_cons (k' := 77) rfl (zk_iload X dX12_nodeFor_76 rfl) ?_
  refine zz_cons (k' := 78) rfl (zz_Ok_none _ _) ?_
  refine zz_cons (k' := 79) rfl (zk_bipush X dX12_nodeFor_78 (by decide) rfl) ?_
  refine zz_cons (k' := 80) rfl (zz_Ok_none _ _) ?_
  refine zz_cons (k' := 81) rfl (zk_callv X (zz_Cv_of (List.forall_mem_cons.mpr ⟨⟨(RX_10, zzT10, 50), yX12_viewed, cX12_viewed, 3, (some .int), 1, 23, rfl, kv_X12_204_10.1, (mm_X12_viewed Wd).1, by decide, by decide⟩, (fun _ h => absurd h List.not_mem_nil)⟩)) dX12_nodeFor_80 rfl) ?_
  refine zz_cons (k' := 82) rfl (zz_Ok_none _ _) ?_
  refine zz_cons (k' := 83) rfl (zz_Ok_none _ _) ?_
  refine zz_cons (k' := 84) rfl (zk_callv X (zz_Cv_of (List.forall_mem_cons.mpr ⟨⟨(RX_10, zzT10, 50), yX12_zoned, cX12_zoned, 7, (some .int), 3, 66, rfl, kv_X12_311_10.1, (mm_X12_zoned Wd).1, by decide, by decide⟩, (fun _ h => absurd h List.not_mem_nil)⟩)) dX12_nodeFor_83 rfl) ?_
  refine zz_cons (k' := 85) rfl (zz_Ok_none _ _) ?_
  refine zz_cons (k' := 86) rfl (zz_Ok_none _ _) ?_
  refine zz_cons (k' := 87) rfl (zk_istore X dX12_nodeFor_86 (by decide) rfl) ?_
  refine zz_cons (k' := 88) rfl (zz_Ok_none _ _) ?_
  refine zz_cons (k' := 89) rfl (zk_iload_n X dX12_nodeFor_88 rfl rfl) ?_
  refine zz_cons (k' := 90) rfl (zk_iconst X dX12_nodeFor_89 (by decide) rfl) ?_
  refine zz_cons (k' := 91) rfl (zk_icmp_eq X dX12_nodeFor_90 (by decide) rfl) ?_
  refine zz_cons (k' := 92) rfl (zz_Ok_none _ _) ?_
  refine zz_cons (k' := 93) rfl (zz_Ok_none _ _) ?_
  refine zz_cons (k' := 94) rfl (zk_iload X dX12_nodeFor_93 rfl) ?_
  refine zz_cons (k' := 95) rfl (zz_Ok_none _ _) ?_
  refine zz_cons (k' := 96) rfl (zk_iload_n X dX12_nodeFor_95 rfl rfl) ?_
  refine zz_cons (k' := 97) rfl (zk_icmp_lt X dX12_nodeFor_96 (by decide) rfl) ?_
  refine zz_cons (k' := 98) rfl (zz_Ok_none _ _) ?_
  refine zz_cons (k' := 99) rfl (zz_Ok_none _ _) ?_
  refine zz_cons (k' := 100) rfl (zk_iload X dX12_nodeFor_99 rfl) ?_
  refine zz_cons (k' := 101) rfl (zz_Ok_none _ _) ?_
  refine zz_cons (k' := 102) rfl (zk_iload_n X dX12_nodeFor_101 rfl rfl) ?_
  refine zz_cons (k' := 103) rfl (zk_icmp_ne X dX12_nodeFor_102 (by decide) rfl) ?_
  refine zz_cons (k' := 104) rfl (zz_Ok_none _ _) ?_
  refine zz_cons (k' := 105) rfl (zz_Ok_none _ _) ?_
  refine zz_cons (k' := 106) rfl (zk_iload X dX12_nodeFor_105 rfl) ?_
  refine zz_cons (k' := 107) rfl (zz_Ok_none _ _) ?_
  refine zz_cons (k' := 108) rfl (zk_iload X dX12_nodeFor_107 rfl) ?_
  refine zz_cons (k' := 109) rfl (zz_Ok_none _ _) ?_
  refine zz_cons (k' := 110) rfl (zk_icmp_le X dX12_nodeFor_109 (by decide) rfl) ?_
  refine zz_cons (k' := 111) rfl (zz_Ok_none _ _) ?_
  refine zz_cons (k' := 112) rfl (zz_Ok_none _ _) ?_
  refine zz_cons (k' := 113) rfl (zk_iconst X dX12_nodeFor_112 (by decide) rfl) ?_
  refine zz_cons (k' := 114) rfl (zk_goto X dX12_nodeFor_113 (by decide)) ?_
  refine zz_cons (k' := 115) rfl (zz_Ok_none _ _) ?_
  refine zz_cons (k' := 116) rfl (zz_Ok_none _ _) ?_
  refine zz_cons (k' := 117) rfl (zk_iconst X dX12_nodeFor_116 (by decide) rfl) ?_
  refine zz_cons (k' := 118) rfl (zk_istore X dX12_nodeFor_117 (by decide) rfl) ?_
  refine zz_cons (k' := 119) rfl (zz_Ok_none _ _) ?_
  refine zz_cons (k' := 120) rfl (zk_iload X dX12_nodeFor_119 rfl) ?_
  refine zz_cons (k' := 121) rfl (zz_Ok_none _ _) ?_
  refine zz_cons (k' := 122) rfl (zk_if_eq X dX12_nodeFor_121 (by decide) rfl) ?_
  refine zz_cons (k' := 123) rfl (zz_Ok_none _ _) ?_
  refine zz_cons (k' := 124) rfl (zz_Ok_none _ _) ?_
  refine zz_cons (k' := 125) rfl (zk_iload X dX12_nodeFor_124 rfl) ?_
  refine zz_cons (k' := 126) rfl (zz_Ok_none _ _) ?_
  refine zz_cons (k' := 127) rfl (zk_goto X dX12_nodeFor_126 (by decide)) ?_
  refine zz_cons (k' := 128) rfl (zz_Ok_none _ _) ?_
  refine zz_cons (k' := 129) rfl (zz_Ok_none _ _) ?_
  refine zz_cons (k' := 130) rfl (zk_iload_n X dX12_nodeFor_129 rfl rfl) ?_
  refine zz_cons (k' := 131) rfl (zk_istore_n X dX12_nodeFor_130 rfl (by decide) rfl) ?_
  refine zz_cons (k' := 132) rfl (zk_iload X dX12_nodeFor_131 rfl) ?_
  refine zz_cons (k' := 133) rfl (zz_Ok_none _ _) ?_
  refine zz_cons (k' := 134) rfl (zk_if_eq X dX12_nodeFor_133 (by decide) rfl) ?_
  refine zz_cons (k' := 135) rfl (zz_Ok_none _ _) ?_
  refine zz_cons (k' := 136) rfl (zz_Ok_none _ _) ?_
  refine zz_cons (k' := 137) rfl (zk_iload X dX12_nodeFor_136 rfl) ?_
  refine zz_cons (k' := 138) rfl (zz_Ok_none _ _) ?_
  refine zz_cons (k' := 139) rfl (zk_goto X dX12_nodeFor_138 (by decide)) ?_
  refine zz_cons (k' := 140) rfl (zz_Ok_none _ _) ?_
  refine zz_cons (k' := 141) rfl (zz_Ok_none _ _) ?_
  refine zz_cons (k' := 142) rfl (zk_iload_n X dX12_nodeFor_141 rfl rfl) ?_
  refine zz_cons (k' := 143) rfl (zk_istore_n X dX12_nodeFor_142 rfl (by decide) rfl) ?_
  refine zz_cons (k' := 144) rfl (zk_iload X dX12_nodeFor_143 rfl) ?_
  refine zz_cons (k' := 145) rfl (zz_Ok_none _ _) ?_
  refine zz_cons (k' := 146) rfl (zk_if_eq X dX12_nodeFor_145 (by decide) rfl) ?_
  refine zz_cons (k' := 147) rfl (zz_Ok_none _ _) ?_
  refine zz_cons (k' := 148) rfl (zz_Ok_none _ _) ?_
  refine zz_cons (k' := 149) rfl (zk_iload X dX12_nodeFor_148 rfl) ?_
  refine zz_cons (k' := 150) rfl (zz_Ok_none _ _) ?_
  refine zz_cons (k' := 151) rfl (zk_goto X dX12_nodeFor_150 (by decide)) ?_
  refine zz_cons (k' := 152) rfl (zz_Ok_none _ _) ?_
  refine zz_cons (k' := 153) rfl (zz_Ok_none _ _) ?_
  refine zz_cons (k' := 154) rfl (zk_iload X dX12_nodeFor_153 rfl) ?_
  refine zz_cons (k' := 155) rfl (zz_Ok_none _ _) ?_
  refine zz_cons (k' := 156) rfl (zk_istore X dX12_nodeFor_155 (by decide) rfl) ?_
  refine zz_cons (k' := 157) rfl (zz_Ok_none _ _) ?_
  refine zz_cons (k' := 158) rfl (zk_iinc X dX12_nodeFor_157 (by decide) (by decide) rfl) ?_
  refine zz_cons (k' := 159) rfl (zz_Ok_none _ _) ?_
  refine zz_cons (k' := 160) rfl (zz_Ok_none _ _) ?_
  refine zz_cons (k' := 161) rfl (zk_goto X dX12_nodeFor_160 (by decide)) ?_
  refine zz_cons (k' := 162) rfl (zz_Ok_none _ _) ?_
  refine zz_cons (k' := 163) rfl (zz_Ok_none _ _) ?_
  refine zz_cons (k' := 164) rfl (zk_iload_n X dX12_nodeFor_163 rfl rfl) ?_
  refine zz_cons (k' := 165) rfl (zk_iret X rfl dX12_nodeFor_164) ?_
  exact trivial
noncomputable def tX12_laysVictims : List zzOp := [
  zo_aload 0 1,
  zo_iload 1 2,
  zo_pushI 1 3,
  zo_callv zzSR (zz_cl [(10, fX12_viewed)]) 2 6,
  zo_none,
  zo_none,
  zo_pushI 4 7,
  zo_iid (fun x y => x / y) 8,
  zo_istore 3 9,
  zo_aload 0 10,
  zo_iload 1 11,
  zo_pushI 1 12,
  zo_callv zzSR (zz_cl [(10, fX12_viewed)]) 2 15,
  zo_none,
  zo_none,
  zo_calls fX12_need 1 18,
  zo_none,
  zo_none,
  zo_aload 0 19,
  zo_iload 2 20,
  zo_pushI 7 22,
  zo_none,
  zo_callv zzSR (zz_cl [(10, fX12_viewed)]) 2 25,
  zo_none,
  zo_none,
  zo_ii (fun x y => x - y) 26,
  zo_aload 0 27,
  zo_iload 2 28,
  zo_pushI 0 29,
  zo_callv zzSR (zz_cl [(10, fX12_used)]) 2 32,
  zo_none,
  zo_none,
  zo_ii (fun x y => x + y) 33,
  zo_istore 4 35,
  zo_none,
  zo_pushI 0 36,
  zo_istore 5 38,
  zo_none,
  zo_pushI 0 39,
  zo_istore 6 41,
  zo_none,
  zo_iload 6 43,
  zo_none,
  zo_iload 3 44,
  zo_icmp (fun x y => decide (y ≤ x)) 166 47,
  zo_none,
  zo_none,
  zo_aload 0 48,
  zo_getf zzSR (zz_kf [10] 5) 51,
  zo_none,
  zo_none,
  zo_pushI 1 52,
  zo_ii (fun x y => x - y) 53,
  zo_istore 7 55,
  zo_none,
  zo_iload 7 57,
  zo_none,
  zo_if (fun x => decide (x < 0)) 160 60,
  zo_none,
  zo_none,
  zo_iload 4 62,
  zo_none,
  zo_if (fun x => decide (x ≤ 0)) 160 65,
  zo_none,
  zo_none,
  zo_aload 0 66,
  zo_iload 7 68,
  zo_none,
  zo_pushI 2 69,
  zo_callv zzSR (zz_cl [(10, fX12_stays)]) 2 72,
  zo_none,
  zo_none,
  zo_if (fun x => decide (x = 0)) 119 75,
  zo_none,
  zo_none,
  zo_aload 0 76,
  zo_iload 7 78,
  zo_none,
  zo_pushI 15 80,
  zo_none,
  zo_callv zzSR (zz_cl [(10, fX12_viewed)]) 2 83,
  zo_none,
  zo_none,
  zo_iload 2 84,
  zo_pushI 1 85,
  zo_ii (fun x y => x + y) 86,
  zo_icmp (fun x y => decide (¬ x = y)) 119 89,
  zo_none,
  zo_none,
  zo_aload 0 90,
  zo_iload 7 92,
  zo_none,
  zo_pushI 16 94,
  zo_none,
  zo_callv zzSR (zz_cl [(10, fX12_viewed)]) 2 97,
  zo_none,
  zo_none,
  zo_pushI 1 98,
  zo_icmp (fun x y => decide (y < x)) 119 101,
  zo_none,
  zo_none,
  zo_aload 0 102,
  zo_iload 7 104,
  zo_none,
  zo_pushI 1 105,
  zo_callv zzSR (zz_cl [(10, fX12_viewed)]) 2 108,
  zo_none,
  zo_none,
  zo_pushI 4 109,
  zo_iid (fun x y => x / y) 110,
  zo_iload 6 112,
  zo_none,
  zo_icmp (fun x y => decide (¬ x = y)) 119 115,
  zo_none,
  zo_none,
  zo_pushI 1 116,
  zo_goto 120,
  zo_none,
  zo_none,
  zo_pushI 0 120,
  zo_istore 8 122,
  zo_none,
  zo_iload 8 124,
  zo_none,
  zo_if (fun x => decide (x = 0)) 154 127,
  zo_none,
  zo_none,
  zo_aload 0 128,
  zo_getf zzSR (zz_kf [10] 44) 131,
  zo_none,
  zo_none,
  zo_iload 5 133,
  zo_none,
  zo_iload 7 135,
  zo_none,
  zo_iast zzSR 136,
  zo_iinc 5 1 139,
  zo_none,
  zo_none,
  zo_iload 4 141,
  zo_none,
  zo_aload 0 142,
  zo_iload 7 144,
  zo_none,
  zo_pushI 1 145,
  zo_callv zzSR (zz_cl [(10, fX12_viewed)]) 2 148,
  zo_none,
  zo_none,
  zo_calls fX12_need 1 151,
  zo_none,
  zo_none,
  zo_ii (fun x y => x - y) 152,
  zo_istore 4 154,
  zo_none,
  zo_iinc 7 (-1) 157,
  zo_none,
  zo_none,
  zo_goto 55,
  zo_none,
  zo_none,
  zo_iinc 6 1 163,
  zo_none,
  zo_none,
  zo_goto 41,
  zo_none,
  zo_none,
  zo_iload 4 168,
  zo_none,
  zo_if (fun x => decide (x ≤ 0)) 175 171,
  zo_none,
  zo_none,
  zo_pushI (-1) 172,
  zo_goto 177,
  zo_none,
  zo_none,
  zo_iload 5 177,
  zo_none,
  zo_iret false]
set_option maxRecDepth 100000 in
theorem tl_X12_laysVictims : ∀ pc, zz_Tl (tX12_laysVictims.getD pc zo_none) := by
  refine zz_Tl_mem ?_
  unfold tX12_laysVictims
  refine List.forall_mem_cons.mpr ⟨(zo_aload_tl _ _), ?_⟩
  refine List.forall_mem_cons.mpr ⟨(zo_iload_tl _ _), ?_⟩
  refine List.forall_mem_cons.mpr ⟨(zo_pushI_tl _ _), ?_⟩
  refine List.forall_mem_cons.mpr ⟨(zo_callv_tl _ _ _ _), ?_⟩
  refine List.forall_mem_cons.mpr ⟨zo_none_tl, ?_⟩
  refine List.forall_mem_cons.mpr ⟨zo_none_tl, ?_⟩
  refine List.forall_mem_cons.mpr ⟨(zo_pushI_tl _ _), ?_⟩
  refine List.forall_mem_cons.mpr ⟨(zo_iid_tl _ _), ?_⟩
  refine List.forall_mem_cons.mpr ⟨(zo_istore_tl _ _), ?_⟩
  refine List.forall_mem_cons.mpr ⟨(zo_aload_tl _ _), ?_⟩
  refine List.forall_mem_cons.mpr ⟨(zo_iload_tl _ _), ?_⟩
  refine List.forall_mem_cons.mpr ⟨(zo_pushI_tl _ _), ?_⟩
  refine List.forall_mem_cons.mpr ⟨(zo_callv_tl _ _ _ _), ?_⟩
  refine List.forall_mem_cons.mpr ⟨zo_none_tl, ?_⟩
  refine List.forall_mem_cons.mpr ⟨zo_none_tl, ?_⟩
  refine List.forall_mem_cons.mpr ⟨(zo_calls_tl _ _ _), ?_⟩
  refine List.forall_mem_cons.mpr ⟨zo_none_tl, ?_⟩
  refine List.forall_mem_cons.mpr ⟨zo_none_tl, ?_⟩
  refine List.forall_mem_cons.mpr ⟨(zo_aload_tl _ _), ?_⟩
  refine List.forall_mem_cons.mpr ⟨(zo_iload_tl _ _), ?_⟩
  refine List.forall_mem_cons.mpr ⟨(zo_pushI_tl _ _), ?_⟩
  refine List.forall_mem_cons.mpr ⟨zo_none_tl, ?_⟩
  refine List.forall_mem_cons.mpr ⟨(zo_callv_tl _ _ _ _), ?_⟩
  refine List.forall_mem_cons.mpr ⟨zo_none_tl, ?_⟩
  refine List.forall_mem_cons.mpr ⟨zo_none_tl, ?_⟩
  refine List.forall_mem_cons.mpr ⟨(zo_ii_tl _ _), ?_⟩
  refine List.forall_mem_cons.mpr ⟨(zo_aload_tl _ _), ?_⟩
  refine List.forall_mem_cons.mpr ⟨(zo_iload_tl _ _), ?_⟩
  refine List.forall_mem_cons.mpr ⟨(zo_pushI_tl _ _), ?_⟩
  refine List.forall_mem_cons.mpr ⟨(zo_callv_tl _ _ _ _), ?_⟩
  refine List.forall_mem_cons.mpr ⟨zo_none_tl, ?_⟩
  refine List.forall_mem_cons.mpr ⟨zo_none_tl, ?_⟩
  refine List.forall_mem_cons.mpr ⟨(zo_ii_tl _ _), ?_⟩
  refine List.forall_mem_cons.mpr ⟨(zo_istore_tl _ _), ?_⟩
  refine List.forall_mem_cons.mpr ⟨zo_none_tl, ?_⟩
  refine List.forall_mem_cons.mpr ⟨(zo_pushI_tl _ _), ?_⟩
  refine List.forall_mem_cons.mpr ⟨(zo_istore_tl _ _), ?_⟩
  refine List.forall_mem_cons.mpr ⟨zo_none_tl, ?_⟩
  refine List.forall_mem_cons.mpr ⟨(zo_pushI_tl _ _), ?_⟩
  refine List.forall_mem_cons.mpr ⟨(zo_istore_tl _ _), ?_⟩
  refine List.forall_mem_cons.mpr ⟨zo_none_tl, ?_⟩
  refine List.forall_mem_cons.mpr ⟨(zo_iload_tl _ _), ?_⟩
  refine List.forall_mem_cons.mpr ⟨zo_none_tl, ?_⟩
  refine List.forall_mem_cons.mpr ⟨(zo_iload_tl _ _), ?_⟩
  refine List.forall_mem_cons.mpr ⟨(zo_icmp_tl _ _ _), ?_⟩
  refine List.forall_mem_cons.mpr ⟨zo_none_tl, ?_⟩
  refine List.forall_mem_cons.mpr ⟨zo_none_tl, ?_⟩
  refine List.forall_mem_cons.mpr ⟨(zo_aload_tl _ _), ?_⟩
  refine List.forall_mem_cons.mpr ⟨(zo_getf_tl _ _ _), ?_⟩
  refine List.forall_mem_cons.mpr ⟨zo_none_tl, ?_⟩
  refine List.forall_mem_cons.mpr ⟨zo_none_tl, ?_⟩
  refine List.forall_mem_cons.mpr ⟨(zo_pushI_tl _ _), ?_⟩
  refine List.forall_mem_cons.mpr ⟨(zo_ii_tl _ _), ?_⟩
  refine List.forall_mem_cons.mpr ⟨(zo_istore_tl _ _), ?_⟩
  refine List.forall_mem_cons.mpr ⟨zo_none_tl, ?_⟩
  refine List.forall_mem_cons.mpr ⟨(zo_iload_tl _ _), ?_⟩
  refine List.forall_mem_cons.mpr ⟨zo_none_tl, ?_⟩
  refine List.forall_mem_cons.mpr ⟨(zo_if_tl _ _ _), ?_⟩
  refine List.forall_mem_cons.mpr ⟨zo_none_tl, ?_⟩
  refine List.forall_mem_cons.mpr ⟨zo_none_tl, ?_⟩
  refine List.forall_mem_cons.mpr ⟨(zo_iload_tl _ _), ?_⟩
  refine List.forall_mem_cons.mpr ⟨zo_none_tl, ?_⟩
  refine List.forall_mem_cons.mpr ⟨(zo_if_tl _ _ _), ?_⟩
  refine List.forall_mem_cons.mpr ⟨zo_none_tl, ?_⟩
  refine List.forall_mem_cons.mpr ⟨zo_none_tl, ?_⟩
  refine List.forall_mem_cons.mpr ⟨(zo_aload_tl _ _), ?_⟩
  refine List.forall_mem_cons.mpr ⟨(zo_iload_tl _ _), ?_⟩
  refine List.forall_mem_cons.mpr ⟨zo_none_tl, ?_⟩
  refine List.forall_mem_cons.mpr ⟨(zo_pushI_tl _ _), ?_⟩
  refine List.forall_mem_cons.mpr ⟨(zo_callv_tl _ _ _ _), ?_⟩
  refine List.forall_mem_cons.mpr ⟨zo_none_tl, ?_⟩
  refine List.forall_mem_cons.mpr ⟨zo_none_tl, ?_⟩
  refine List.forall_mem_cons.mpr ⟨(zo_if_tl _ _ _), ?_⟩
  refine List.forall_mem_cons.mpr ⟨zo_none_tl, ?_⟩
  refine List.forall_mem_cons.mpr ⟨zo_none_tl, ?_⟩
  refine List.forall_mem_cons.mpr ⟨(zo_aload_tl _ _), ?_⟩
  refine List.forall_mem_cons.mpr ⟨(zo_iload_tl _ _), ?_⟩
  refine List.forall_mem_cons.mpr ⟨zo_none_tl, ?_⟩
  refine List.forall_mem_cons.mpr ⟨(zo_pushI_tl _ _), ?_⟩
  refine List.forall_mem_cons.mpr ⟨zo_none_tl, ?_⟩
  refine List.forall_mem_cons.mpr ⟨(zo_callv_tl _ _ _ _), ?_⟩
  refine List.forall_mem_cons.mpr ⟨zo_none_tl, ?_⟩
  refine List.forall_mem_cons.mpr ⟨zo_none_tl, ?_⟩
  refine List.forall_mem_cons.mpr ⟨(zo_iload_tl _ _), ?_⟩
  refine List.forall_mem_cons.mpr ⟨(zo_pushI_tl _ _), ?_⟩
  refine List.forall_mem_cons.mpr ⟨(zo_ii_tl _ _), ?_⟩
  refine List.forall_mem_cons.mpr ⟨(zo_icmp_tl _ _ _), ?_⟩
  refine List.forall_mem_cons.mpr ⟨zo_none_tl, ?_⟩
  refine List.forall_mem_cons.mpr ⟨zo_none_tl, ?_⟩
  refine List.forall_mem_cons.mpr ⟨(zo_aload_tl _ _), ?_⟩
  refine List.forall_mem_cons.mpr ⟨(zo_iload_tl _ _), ?_⟩
  refine List.forall_mem_cons.mpr ⟨zo_none_tl, ?_⟩
  refine List.forall_mem_cons.mpr ⟨(zo_pushI_tl _ _), ?_⟩
  refine List.forall_mem_cons.mpr ⟨zo_none_tl, ?_⟩
  refine List.forall_mem_cons.mpr ⟨(zo_callv_tl _ _ _ _), ?_⟩
  refine List.forall_mem_cons.mpr ⟨zo_none_tl, ?_⟩
  refine List.forall_mem_cons.mpr ⟨zo_none_tl, ?_⟩
  refine List.forall_mem_cons.mpr ⟨(zo_pushI_tl _ _), ?_⟩
  refine List.forall_mem_cons.mpr ⟨(zo_icmp_tl _ _ _), ?_⟩
  refine List.forall_mem_cons.mpr ⟨zo_none_tl, ?_⟩
  refine List.forall_mem_cons.mpr ⟨zo_none_tl, ?_⟩
  refine List.forall_mem_cons.mpr ⟨(zo_aload_tl _ _), ?_⟩
  refine List.forall_mem_cons.mpr ⟨(zo_iload_tl _ _), ?_⟩
  refine List.forall_mem_cons.mpr ⟨zo_none_tl, ?_⟩
  refine List.forall_mem_cons.mpr ⟨(zo_pushI_tl _ _), ?_⟩
  refine List.forall_mem_cons.mpr ⟨(zo_callv_tl _ _ _ _), ?_⟩
  refine List.forall_mem_cons.mpr ⟨zo_none_tl, ?_⟩
  refine List.forall_mem_cons.mpr ⟨zo_none_tl, ?_⟩
  refine List.forall_mem_cons.mpr ⟨(zo_pushI_tl _ _), ?_⟩
  refine List.forall_mem_cons.mpr ⟨(zo_iid_tl _ _), ?_⟩
  refine List.forall_mem_cons.mpr ⟨(zo_iload_tl _ _), ?_⟩
  refine List.forall_mem_cons.mpr ⟨zo_none_tl, ?_⟩
  refine List.forall_mem_cons.mpr ⟨(zo_icmp_tl _ _ _), ?_⟩
  refine List.forall_mem_cons.mpr ⟨zo_none_tl, ?_⟩
  refine List.forall_mem_cons.mpr ⟨zo_none_tl, ?_⟩
  refine List.forall_mem_cons.mpr ⟨(zo_pushI_tl _ _), ?_⟩
  refine List.forall_mem_cons.mpr ⟨(zo_goto_tl _), ?_⟩
  refine List.forall_mem_cons.mpr ⟨zo_none_tl, ?_⟩
  refine List.forall_mem_cons.mpr ⟨zo_none_tl, ?_⟩
  refine List.forall_mem_cons.mpr ⟨(zo_pushI_tl _ _), ?_⟩
  refine List.forall_mem_cons.mpr ⟨(zo_istore_tl _ _), ?_⟩
  refine List.forall_mem_cons.mpr ⟨zo_none_tl, ?_⟩
  refine List.forall_mem_cons.mpr ⟨(zo_iload_tl _ _), ?_⟩
  refine List.forall_mem_cons.mpr ⟨zo_none_tl, ?_⟩
  refine List.forall_mem_cons.mpr ⟨(zo_if_tl _ _ _), ?_⟩
  refine List.forall_mem_cons.mpr ⟨zo_none_tl, ?_⟩
  refine List.forall_mem_cons.mpr ⟨zo_none_tl, ?_⟩
  refine List.forall_mem_cons.mpr ⟨(zo_aload_tl _ _), ?_⟩
  refine List.forall_mem_cons.mpr ⟨(zo_getf_tl _ _ _), ?_⟩
  refine List.forall_mem_cons.mpr ⟨zo_none_tl, ?_⟩
  refine List.forall_mem_cons.mpr ⟨zo_none_tl, ?_⟩
  refine List.forall_mem_cons.mpr ⟨(zo_iload_tl _ _), ?_⟩
  refine List.forall_mem_cons.mpr ⟨zo_none_tl, ?_⟩
  refine List.forall_mem_cons.mpr ⟨(zo_iload_tl _ _), ?_⟩
  refine List.forall_mem_cons.mpr ⟨zo_none_tl, ?_⟩
  refine List.forall_mem_cons.mpr ⟨(zo_iast_tl _ _), ?_⟩
  refine List.forall_mem_cons.mpr ⟨(zo_iinc_tl _ _ _), ?_⟩
  refine List.forall_mem_cons.mpr ⟨zo_none_tl, ?_⟩
  refine List.forall_mem_cons.mpr ⟨zo_none_tl, ?_⟩
  refine List.forall_mem_cons.mpr ⟨(zo_iload_tl _ _), ?_⟩
  refine List.forall_mem_cons.mpr ⟨zo_none_tl, ?_⟩
  refine List.forall_mem_cons.mpr ⟨(zo_aload_tl _ _), ?_⟩
  refine List.forall_mem_cons.mpr ⟨(zo_iload_tl _ _), ?_⟩
  refine List.forall_mem_cons.mpr ⟨zo_none_tl, ?_⟩
  refine List.forall_mem_cons.mpr ⟨(zo_pushI_tl _ _), ?_⟩
  refine List.forall_mem_cons.mpr ⟨(zo_callv_tl _ _ _ _), ?_⟩
  refine List.forall_mem_cons.mpr ⟨zo_none_tl, ?_⟩
  refine List.forall_mem_cons.mpr ⟨zo_none_tl, ?_⟩
  refine List.forall_mem_cons.mpr ⟨(zo_calls_tl _ _ _), ?_⟩
  refine List.forall_mem_cons.mpr ⟨zo_none_tl, ?_⟩
  refine List.forall_mem_cons.mpr ⟨zo_none_tl, ?_⟩
  refine List.forall_mem_cons.mpr ⟨(zo_ii_tl _ _), ?_⟩
  refine List.forall_mem_cons.mpr ⟨(zo_istore_tl _ _), ?_⟩
  refine List.forall_mem_cons.mpr ⟨zo_none_tl, ?_⟩
  refine List.forall_mem_cons.mpr ⟨(zo_iinc_tl _ _ _), ?_⟩
  refine List.forall_mem_cons.mpr ⟨zo_none_tl, ?_⟩
  refine List.forall_mem_cons.mpr ⟨zo_none_tl, ?_⟩
  refine List.forall_mem_cons.mpr ⟨(zo_goto_tl _), ?_⟩
  refine List.forall_mem_cons.mpr ⟨zo_none_tl, ?_⟩
  refine List.forall_mem_cons.mpr ⟨zo_none_tl, ?_⟩
  refine List.forall_mem_cons.mpr ⟨(zo_iinc_tl _ _ _), ?_⟩
  refine List.forall_mem_cons.mpr ⟨zo_none_tl, ?_⟩
  refine List.forall_mem_cons.mpr ⟨zo_none_tl, ?_⟩
  refine List.forall_mem_cons.mpr ⟨(zo_goto_tl _), ?_⟩
  refine List.forall_mem_cons.mpr ⟨zo_none_tl, ?_⟩
  refine List.forall_mem_cons.mpr ⟨zo_none_tl, ?_⟩
  refine List.forall_mem_cons.mpr ⟨(zo_iload_tl _ _), ?_⟩
  refine List.forall_mem_cons.mpr ⟨zo_none_tl, ?_⟩
  refine List.forall_mem_cons.mpr ⟨(zo_if_tl _ _ _), ?_⟩
  refine List.forall_mem_cons.mpr ⟨zo_none_tl, ?_⟩
  refine List.forall_mem_cons.mpr ⟨zo_none_tl, ?_⟩
  refine List.forall_mem_cons.mpr ⟨(zo_pushI_tl _ _), ?_⟩
  refine List.forall_mem_cons.mpr ⟨(zo_goto_tl _), ?_⟩
  refine List.forall_mem_cons.mpr ⟨zo_none_tl, ?_⟩
  refine List.forall_mem_cons.mpr ⟨zo_none_tl, ?_⟩
  refine List.forall_mem_cons.mpr ⟨(zo_iload_tl _ _), ?_⟩
  refine List.forall_mem_cons.mpr ⟨zo_none_tl, ?_⟩
  refine List.forall_mem_cons.mpr ⟨(zo_iret_tl _), ?_⟩
  exact fun _ h => absurd h List.not_mem_nil
noncomputable def fX12_laysVictims : zzFn := zz_fn tX12_laysVictims 9
set_option maxRecDepth 100000 in
set_option maxHeartbeats 4000000 in
theorem mm_X12_laysVictims {l : Launch} {D : va_G} {cA : Nat → ClassId} {ad : Nat → Nat} {Ex : (Nat → Prop) → State → Heap → Prop} (Wd : zzWR l D cA ad Ex) : zz_Cn l D zzCl cA ad zzSR Ex yX12_laysVictims cX12_laysVictims 9 (some .int) 4 92 fX12_laysVictims ∧ zz_Cx l D zzCl cA ad zzSR Ex yX12_laysVictims cX12_laysVictims 9 (some .int) 4 92 fX12_laysVictims := by
  refine zz_meth (plainFor_of_name (by decide)) Wd.1 Wd.2.1 Wd.2.2 (fun p e R s m args below meth c rr X => ?_)
  unfold tX12_laysVictims
  refine zz_cons (k' := 1) rfl (zk_aload_n X dX12_laysVictims_0 rfl rfl) ?_
  refine zz_cons (k' := 2) rfl (zk_iload_n X dX12_laysVictims_1 rfl rfl) ?_
  refine zz_cons (k' := 3) rfl (zk_iconst X dX12_laysVictims_2 (by decide) rfl) ?_
  refine zz_cons (k' := 4) rfl (zk_callv X (zz_Cv_of (List.forall_mem_cons.mpr ⟨⟨(RX_10, zzT10, 50), yX12_viewed, cX12_viewed, 3, (some .int), 1, 23, rfl, kv_X12_204_10.1, (mm_X12_viewed Wd).1, by decide, by decide⟩, (fun _ h => absurd h List.not_mem_nil)⟩)) dX12_laysVictims_3 rfl) ?_
  refine zz_cons (k' := 5) rfl (zz_Ok_none _ _) ?_
  refine zz_cons (k' := 6) rfl (zz_Ok_none _ _) ?_
  refine zz_cons (k' := 7) rfl (zk_iconst X dX12_laysVictims_6 (by decide) rfl) ?_
  refine zz_cons (k' := 8) rfl (zk_idiv X dX12_laysVictims_7 rfl) ?_
  refine zz_cons (k' := 9) rfl (zk_istore_n X dX12_laysVictims_8 rfl (by decide) rfl) ?_
  refine zz_cons (k' := 10) rfl (zk_aload_n X dX12_laysVictims_9 rfl rfl) ?_
  refine zz_cons (k' := 11) rfl (zk_iload_n X dX12_laysVictims_10 rfl rfl) ?_
  refine zz_cons (k' := 12) rfl (zk_iconst X dX12_laysVictims_11 (by decide) rfl) ?_
  refine zz_cons (k' := 13) rfl (zk_callv X (zz_Cv_of (List.forall_mem_cons.mpr ⟨⟨(RX_10, zzT10, 50), yX12_viewed, cX12_viewed, 3, (some .int), 1, 23, rfl, kv_X12_204_10.1, (mm_X12_viewed Wd).1, by decide, by decide⟩, (fun _ h => absurd h List.not_mem_nil)⟩)) dX12_laysVictims_12 rfl) ?_
  refine zz_cons (k' := 14) rfl (zz_Ok_none _ _) ?_
  refine zz_cons (k' := 15) rfl (zz_Ok_none _ _) ?_
  refine zz_cons (k' := 16) rfl (zk_calls X ks_X12_276 (mm_X12_need Wd).1 (by decide) dX12_laysVictims_15 rfl) ?_
  refine zz_cons (k' := 17) rfl (zz_Ok_none _ _) ?_
  refine zz_cons (k' := 18) rfl (zz_Ok_none _ _) ?_
  refine zz_cons (k' := 19) rfl (zk_aload_n X dX12_laysVictims_18 rfl rfl) ?_
  refine zz_cons (k' := 20) rfl (zk_iload_n X dX12_laysVictims_19 rfl rfl) ?_
  refine zz_cons (k' := 21) rfl (zk_bipush X dX12_laysVictims_20 (by decide) rfl) ?_
  refine zz_cons (k' := 22) rfl (zz_Ok_none _ _) ?_
  refine zz_cons (k' := 23) rfl (zk_callv X (zz_Cv_of (List.forall_mem_cons.mpr ⟨⟨(RX_10, zzT10, 50), yX12_viewed, cX12_viewed, 3, (some .int), 1, 23, rfl, kv_X12_204_10.1, (mm_X12_viewed Wd).1, by decide, by decide⟩, (fun _ h => absurd h List.not_mem_nil)⟩)) dX12_laysVictims_22 rfl) ?_
  refine zz_cons (k' := 24) rfl (zz_Ok_none _ _) ?_
  refine zz_cons (k' := 25) rfl (zz_Ok_none _ _) ?_
  refine zz_cons (k' := 26) rfl (zk_isub X dX12_laysVictims_25 rfl) ?_
  refine zz_cons (k' := 27) rfl (zk_aload_n X dX12_laysVictims_26 rfl rfl) ?_
  refine zz_cons (k' := 28) rfl (zk_iload_n X dX12_laysVictims_27 rfl rfl) ?_
  refine zz_cons (k' := 29) rfl (zk_iconst X dX12_laysVictims_28 (by decide) rfl) ?_
  refine zz_cons (k' := 30) rfl (zk_callv X (zz_Cv_of (List.forall_mem_cons.mpr ⟨⟨(RX_10, zzT10, 50), yX12_used, cX12_used, 7, (some .int), 3, 66, rfl, kv_X12_308_10.1, (mm_X12_used Wd).1, by decide, by decide⟩, (fun _ h => absurd h List.not_mem_nil)⟩)) dX12_laysVictims_29 rfl) ?_
  refine zz_cons (k' := 31) rfl (zz_Ok_none _ _) ?_
  refine zz_cons (k' := 32) rfl (zz_Ok_none _ _) ?_
  refine zz_cons (k' := 33) rfl (zk_iadd X dX12_laysVictims_32 rfl) ?_
  refine zz_cons (k' := 34) rfl (zk_istore X dX12_laysVictims_33 (by decide) rfl) ?_
  refine zz_cons (k' := 35) rfl (zz_Ok_none _ _) ?_
  refine zz_cons (k' := 36) rfl (zk_iconst X dX12_laysVictims_35 (by decide) rfl) ?_
  refine zz_cons (k' := 37) rfl (zk_istore X dX12_laysVictims_36 (by decide) rfl) ?_
  refine zz_cons (k' := 38) rfl (zz_Ok_none _ _) ?_
  refine zz_cons (k' := 39) rfl (zk_iconst X dX12_laysVictims_38 (by decide) rfl) ?_
  refine zz_cons (k' := 40) rfl (zk_istore X dX12_laysVictims_39 (by decide) rfl) ?_
  refine zz_cons (k' := 41) rfl (zz_Ok_none _ _) ?_
  refine zz_cons (k' := 42) rfl (zk_iload X dX12_laysVictims_41 rfl) ?_
  refine zz_cons (k' := 43) rfl (zz_Ok_none _ _) ?_
  refine zz_cons (k' := 44) rfl (zk_iload_n X dX12_laysVictims_43 rfl rfl) ?_
  refine zz_cons (k' := 45) rfl (zk_icmp_ge X dX12_laysVictims_44 (by decide) rfl) ?_
  refine zz_cons (k' := 46) rfl (zz_Ok_none _ _) ?_
  refine zz_cons (k' := 47) rfl (zz_Ok_none _ _) ?_
  refine zz_cons (k' := 48) rfl (zk_aload_n X dX12_laysVictims_47 rfl rfl) ?_
  refine zz_cons (k' := 49) rfl (zk_getf X ff_X12_137 dX12_laysVictims_48 rfl) ?_
  refine zz_cons (k' := 50) rfl (zz_Ok_none _ _) ?_
  refine zz_cons (k' := 51) rfl (zz_Ok_none _ _) ?_
  refine zz_cons (k' := 52) rfl (zk_iconst X dX12_laysVictims_51 (by decide) rfl) ?_
  refine zz_cons (k' := 53) rfl (zk_isub X dX12_laysVictims_52 rfl) ?_
  refine zz_cons (k' := 54) rfl (zk_istore X dX12_laysVictims_53 (by decide) rfl) ?_
  refine zz_cons (k' := 55) rfl (zz_Ok_none _ _) ?_
  refine zz_cons (k' := 56) rfl (zk_iload X dX12_laysVictims_55 rfl) ?_
  refine zz_cons (k' := 57) rfl (zz_Ok_none _ _) ?_
  refine zz_cons (k' := 58) rfl (zk_if_lt X dX12_laysVictims_57 (by decide) rfl) ?_
  refine zz_cons (k' := 59) rfl (zz_Ok_none _ _) ?_
  refine zz_cons (k' := 60) rfl (zz_Ok_none _ _) ?_
  refine zz_cons (k' := 61) rfl (zk_iload X dX12_laysVictims_60 rfl) ?_
  refine zz_cons (k' := 62) rfl (zz_Ok_none _ _) ?_
  refine zz_cons (k' := 63) rfl (zk_if_le X dX12_laysVictims_62 (by decide) rfl) ?_
  refine zz_cons (k' := 64) rfl (zz_Ok_none _ _) ?_
  refine zz_cons (k' := 65) rfl (zz_Ok_none _ _) ?_
  refine zz_cons (k' := 66) rfl (zk_aload_n X dX12_laysVictims_65 rfl rfl) ?_
  refine zz_cons (k' := 67) rfl (zk_iload X dX12_laysVictims_66 rfl) ?_
  refine zz_cons (k' := 68) rfl (zz_Ok_none _ _) ?_
  refine zz_cons (k' := 69) rfl (zk_iconst X dX12_laysVictims_68 (by decide) rfl) ?_
  refine zz_cons (k' := 70) rfl (zk_callv X (zz_Cv_of (List.forall_mem_cons.mpr ⟨⟨(RX_10, zzT10, 50), yX12_stays, cX12_stays, 3, (some .boolean), 2, 45, rfl, kv_X12_269_10.1, (mm_X12_stays Wd).1, by decide, by decide⟩, (fun _ h => absurd h List.not_mem_nil)⟩)) dX12_laysVictims_69 rfl) ?_
  refine zz_cons (k' := 71) rfl (zz_Ok_none _ _) ?_
  refine zz_cons (k' := 72) rfl (zz_Ok_none _ _) ?_
  refine zz_cons (k' := 73) rfl (zk_if_eq X dX12_laysVictims_72 (by decide) rfl) ?_
  refine zz_cons (k' := 74) rfl (zz_Ok_none _ _) ?_
  refine zz_cons (k' := 75) rfl (zz_Ok_none _ _) ?_
  refine zz_cons (k' := 76) rfl (zk_aload_n X dX12_laysVictims_75 rfl rfl) ?_
  refine zz_cons (k' := 77) rfl (zk_iload X dX12_laysVictims_76 rfl) ?_
  refine zz_cons (k' := 78) rfl (zz_Ok_none _ _) ?_
  refine zz_cons (k' := 79) rfl (zk_bipush X dX12_laysVictims_78 (by decide) rfl) ?_
  refine zz_cons (k' := 80) rfl (zz_Ok_none _ _) ?_
  refine zz_cons (k' := 81) rfl (zk_callv X (zz_Cv_of (List.forall_mem_cons.mpr ⟨⟨(RX_10, zzT10, 50), yX12_viewed, cX12_viewed, 3, (some .int), 1, 23, rfl, kv_X12_204_10.1, (mm_X12_viewed Wd).1, by decide, by decide⟩, (fun _ h => absurd h List.not_mem_nil)⟩)) dX12_laysVictims_80 rfl) ?_
  refine zz_cons (k' := 82) rfl (zz_Ok_none _ _) ?_
  refine zz_cons (k' := 83) rfl (zz_Ok_none _ _) ?_
  refine zz_cons (k' := 84) rfl (zk_iload_n X dX12_laysVictims_83 rfl rfl) ?_
  refine zz_cons (k' := 85) rfl (zk_iconst X dX12_laysVictims_84 (by decide) rfl) ?_
  refine zz_cons (k' := 86) rfl (zk_iadd X dX12_laysVictims_85 rfl) ?_
  refine zz_cons (k' := 87) rfl (zk_icmp_ne X dX12_laysVictims_86 (by decide) rfl) ?_
  refine zz_cons (k' := 88) rfl (zz_Ok_none _ _) ?_
  refine zz_cons (k' := 89) rfl (zz_Ok_none _ _) ?_
  refine zz_cons (k' := 90) rfl (zk_aload_n X dX12_laysVictims_89 rfl rfl) ?_
  refine zz_cons (k' := 91) rfl (zk_iload X dX12_laysVictims_90 rfl) ?_
  refine zz_cons (k' := 92) rfl (zz_Ok_none _ _) ?_
  refine zz_cons (k' := 93) rfl (zk_bipush X dX12_laysVictims_92 (by decide) rfl) ?_
  refine zz_cons (k' := 94) rfl (zz_Ok_none _ _) ?_
  refine zz_cons (k' := 95) rfl (zk_callv X (zz_Cv_of (List.forall_mem_cons.mpr ⟨⟨(RX_10, zzT10, 50), yX12_viewed, cX12_viewed, 3, (some .int), 1, 23, rfl, kv_X12_204_10.1, (mm_X12_viewed Wd).1, by decide, by decide⟩, (fun _ h => absurd h List.not_mem_nil)⟩)) dX12_laysVictims_94 rfl) ?_
  refine zz_cons (k' := 96) rfl (zz_Ok_none _ _) ?_
  refine zz_cons (k' := 97) rfl (zz_Ok_none _ _) ?_
  refine zz_cons (k' := 98) rfl (zk_iconst X dX12_laysVictims_97 (by decide) rfl) ?_
  refine zz_cons (k' := 99) rfl (zk_icmp_gt X dX12_laysVictims_98 (by decide) rfl) ?_
  refine zz_cons (k' := 100) rfl (zz_Ok_none _ _) ?_
  refine zz_cons (k' := 101) rfl (zz_Ok_none _ _) ?_
  refine zz_cons (k' := 102) rfl (zk_aload_n X dX12_laysVictims_101 rfl rfl) ?_
  refine zz_cons (k' := 103) rfl (zk_iload X dX12_laysVictims_102 rfl) ?_
  refine zz_cons (k' := 104) rfl (zz_Ok_none _ _) ?_
  refine zz_cons (k' := 105) rfl (zk_iconst X dX12_laysVictims_104 (by decide) rfl) ?_
  refine zz_cons (k' := 106) rfl (zk_callv X (zz_Cv_of (List.forall_mem_cons.mpr ⟨⟨(RX_10, zzT10, 50), yX12_viewed, cX12_viewed, 3, (some .int), 1, 23, rfl, kv_X12_204_10.1, (mm_X12_viewed Wd).1, by decide, by decide⟩, (fun _ h => absurd h List.not_mem_nil)⟩)) dX12_laysVictims_105 rfl) ?_
  refine zz_cons (k' := 107) rfl (zz_Ok_none _ _) ?_
  refine zz_cons (k' := 108) rfl (zz_Ok_none _ _) ?_
  refine zz_cons (k' := 109) rfl (zk_iconst X dX12_laysVictims_108 (by decide) rfl) ?_
  refine zz_cons (k' := 110) rfl (zk_idiv X dX12_laysVictims_109 rfl) ?_
  refine zz_cons (k' := 111) rfl (zk_iload X dX12_laysVictims_110 rfl) ?_
  refine zz_cons (k' := 112) rfl (zz_Ok_none _ _) ?_
  refine zz_cons (k' := 113) rfl (zk_icmp_ne X dX12_laysVictims_112 (by decide) rfl) ?_
  refine zz_cons (k' := 114) rfl (zz_Ok_none _ _) ?_
  refine zz_cons (k' := 115) rfl (zz_Ok_none _ _) ?_
  refine zz_cons (k' := 116) rfl (zk_iconst X dX12_laysVictims_115 (by decide) rfl) ?_
  refine zz_cons (k' := 117) rfl (zk_goto X dX12_laysVictims_116 (by decide)) ?_
  refine zz_cons (k' := 118) rfl (zz_Ok_none _ _) ?_
  refine zz_cons (k' := 119) rfl (zz_Ok_none _ _) ?_
  refine zz_cons (k' := 120) rfl (zk_iconst X dX12_laysVictims_119 (by decide) rfl) ?_
  refine zz_cons (k' := 121) rfl (zk_istore X dX12_laysVictims_120 (by decide) rfl) ?_
  refine zz_cons (k' := 122) rfl (zz_Ok_none _ _) ?_
  refine zz_cons (k' := 123) rfl (zk_iload X dX12_laysVictims_122 rfl) ?_
  refine zz_cons (k' := 124) rfl (zz_Ok_none _ _) ?_
  refine zz_cons (k' := 125) rfl (zk_if_eq X dX12_laysVictims_124 (by decide) rfl) ?_
  refine zz_cons (k' := 126) rfl (zz_Ok_none _ _) ?_
  refine zz_cons (k' := 127) rfl (zz_Ok_none _ _) ?_
  refine zz_cons (k' := 128) rfl (zk_aload_n X dX12_laysVictims_127 rfl rfl) ?_
  refine zz_cons (k' := 129) rfl (zk_getf X ff_X12_121 dX12_laysVictims_128 rfl) ?_
  refine zz_cons (k' := 130) rfl (zz_Ok_none _ _) ?_
  refine zz_cons (k' := 131) rfl (zz_Ok_none _ _) ?_
  refine zz_cons (k' := 132) rfl (zk_iload X dX12_laysVictims_131 rfl) ?_
  refine zz_cons (k' := 133) rfl (zz_Ok_none _ _) ?_
  refine zz_cons (k' := 134) rfl (zk_iload X dX12_laysVictims_133 rfl) ?_
  refine zz_cons (k' := 135) rfl (zz_Ok_none _ _) ?_
  refine zz_cons (k' := 136) rfl (zk_iast X dX12_laysVictims_135 rfl) ?_
  refine zz_cons (k' := 137) rfl (zk_iinc X dX12_laysVictims_136 (by decide) (by decide) rfl) ?_
  refine zz_cons (k' := 138) rfl (zz_Ok_none _ _) ?_
  refine zz_cons (k' := 139) rfl (zz_Ok_none _ _) ?_
  refine zz_cons (k' := 140) rfl (zk_iload X dX12_laysVictims_139 rfl) ?_
  refine zz_cons (k' := 141) rfl (zz_Ok_none _ _) ?_
  refine zz_cons (k' := 142) rfl (zk_aload_n X dX12_laysVictims_141 rfl rfl) ?_
  refine zz_cons (k' := 143) rfl (zk_iload X dX12_laysVictims_142 rfl) ?_
  refine zz_cons (k' := 144) rfl (zz_Ok_none _ _) ?_
  refine zz_cons (k' := 145) rfl (zk_iconst X dX12_laysVictims_144 (by decide) rfl) ?_
  refine zz_cons (k' := 146) rfl (zk_callv X (zz_Cv_of (List.forall_mem_cons.mpr ⟨⟨(RX_10, zzT10, 50), yX12_viewed, cX12_viewed, 3, (some .int), 1, 23, rfl, kv_X12_204_10.1, (mm_X12_viewed Wd).1, by decide, by decide⟩, (fun _ h => absurd h List.not_mem_nil)⟩)) dX12_laysVictims_145 rfl) ?_
  refine zz_cons (k' := 147) rfl (zz_Ok_none _ _) ?_
  refine zz_cons (k' := 148) rfl (zz_Ok_none _ _) ?_
  refine zz_cons (k' := 149) rfl (zk_calls X ks_X12_276 (mm_X12_need Wd).1 (by decide) dX12_laysVictims_148 rfl) ?_
  refine zz_cons (k' := 150) rfl (zz_Ok_none _ _) ?_
  refine zz_cons (k' := 151) rfl (zz_Ok_none _ _) ?_
  refine zz_cons (k' := 152) rfl (zk_isub X dX12_laysVictims_151 rfl) ?_
  refine zz_cons (k' := 153) rfl (zk_istore X dX12_laysVictims_152 (by decide) rfl) ?_
  refine zz_cons (k' := 154) rfl (zz_Ok_none _ _) ?_
  refine zz_cons (k' := 155) rfl (zk_iinc X dX12_laysVictims_154 (by decide) (by decide) rfl) ?_
  refine zz_cons (k' := 156) rfl (zz_Ok_none _ _) ?_
  refine zz_cons (k' := 157) rfl (zz_Ok_none _ _) ?_
  refine zz_cons (k' := 158) rfl (zk_goto X dX12_laysVictims_157 (by decide)) ?_
  refine zz_cons (k' := 159) rfl (zz_Ok_none _ _) ?_
  refine zz_cons (k' := 160) rfl (zz_Ok_none _ _) ?_
  refine zz_cons (k' := 161) rfl (zk_iinc X dX12_laysVictims_160 (by decide) (by decide) rfl) ?_
  refine zz_cons (k' := 162) rfl (zz_Ok_none _ _) ?_
  refine zz_cons (k' := 163) rfl (zz_Ok_none _ _) ?_
  refine zz_cons (k' := 164) rfl (zk_goto X dX12_laysVictims_163 (by decide)) ?_
  refine zz_cons (k' := 165) rfl (zz_Ok_none _ _) ?_
  refine zz_cons (k' := 166) rfl (zz_Ok_none _ _) ?_
  refine zz_cons (k' := 167) rfl (zk_iload X dX12_laysVictims_166 rfl) ?_
  refine zz_cons (k' := 168) rfl (zz_Ok_none _ _) ?_
  refine zz_cons (k' := 169) rfl (zk_if_le X dX12_laysVictims_168 (by decide) rfl) ?_
  refine zz_cons (k' := 170) rfl (zz_Ok_none _ _) ?_
  refine zz_cons (k' := 171) rfl (zz_Ok_none _ _) ?_
  refine zz_cons (k' := 172) rfl (zk_iconst X dX12_laysVictims_171 (by decide) rfl) ?_
  refine zz_cons (k' := 173) rfl (zk_goto X dX12_laysVictims_172 (by decide)) ?_
  refine zz_cons (k' := 174) rfl (zz_Ok_none _ _) ?_
  refine zz_cons (k' := 175) rfl (zz_Ok_none _ _) ?_
  refine zz_cons (k' := 176) rfl (zk_iload X dX12_laysVictims_175 rfl) ?_
  refine zz_cons (k' := 177) rfl (zz_Ok_none _ _) ?_
  refine zz_cons (k' := 178) rfl (zk_iret X rfl dX12_laysVictims_177) ?_
  exact trivial
noncomputable def tX12_preempts : List zzOp := [
  zo_pushI (-1) 1,
  zo_istore 2 2,
  zo_pushI 0 3,
  zo_istore 3 4,
  zo_iload 3 5,
  zo_aload 0 6,
  zo_getf zzSR (zz_kf [10] 5) 9,
  zo_none,
  zo_none,
  zo_icmp (fun x y => decide (y ≤ x)) 88 12,
  zo_none,
  zo_none,
  zo_aload 0 13,
  zo_iload 3 14,
  zo_callv zzSR (zz_cl [(10, fX12_isUsable)]) 1 17,
  zo_none,
  zo_none,
  zo_if (fun x => decide (x = 0)) 29 20,
  zo_none,
  zo_none,
  zo_aload 0 21,
  zo_iload 1 22,
  zo_iload 3 23,
  zo_callv zzSR (zz_cl [(10, fX12_laysVictims)]) 2 26,
  zo_none,
  zo_none,
  zo_goto 30,
  zo_none,
  zo_none,
  zo_pushI (-1) 30,
  zo_istore 4 32,
  zo_none,
  zo_iload 4 34,
  zo_none,
  zo_pushI (-1) 35,
  zo_icmp (fun x y => decide (x = y)) 82 38,
  zo_none,
  zo_none,
  zo_iload 2 39,
  zo_pushI (-1) 40,
  zo_icmp (fun x y => decide (x = y)) 49 43,
  zo_none,
  zo_none,
  zo_iload 4 45,
  zo_none,
  zo_iload 2 46,
  zo_icmp (fun x y => decide (y ≤ x)) 82 49,
  zo_none,
  zo_none,
  zo_iload 4 51,
  zo_none,
  zo_istore 2 52,
  zo_pushI 0 53,
  zo_istore 5 55,
  zo_none,
  zo_iload 5 57,
  zo_none,
  zo_iload 4 59,
  zo_none,
  zo_icmp (fun x y => decide (y ≤ x)) 82 62,
  zo_none,
  zo_none,
  zo_aload 0 63,
  zo_getf zzSR (zz_kf [10] 45) 66,
  zo_none,
  zo_none,
  zo_iload 5 68,
  zo_none,
  zo_aload 0 69,
  zo_getf zzSR (zz_kf [10] 44) 72,
  zo_none,
  zo_none,
  zo_iload 5 74,
  zo_none,
  zo_iald zzSR zzSTR 75,
  zo_iast zzSR 76,
  zo_iinc 5 1 79,
  zo_none,
  zo_none,
  zo_goto 55,
  zo_none,
  zo_none,
  zo_iinc 3 1 85,
  zo_none,
  zo_none,
  zo_goto 4,
  zo_none,
  zo_none,
  zo_pushI 1 89,
  zo_istore 3 90,
  zo_pushI 0 91,
  zo_istore 4 93,
  zo_none,
  zo_iload 4 95,
  zo_none,
  zo_iload 2 96,
  zo_icmp (fun x y => decide (y ≤ x)) 121 99,
  zo_none,
  zo_none,
  zo_iload 3 100,
  zo_if (fun x => decide (x = 0)) 121 103,
  zo_none,
  zo_none,
  zo_aload 0 104,
  zo_aload 0 105,
  zo_getf zzSR (zz_kf [10] 45) 108,
  zo_none,
  zo_none,
  zo_iload 4 110,
  zo_none,
  zo_iald zzSR zzSTR 111,
  zo_callv zzSR (zz_cl [(10, fX12_deletes)]) 1 114,
  zo_none,
  zo_none,
  zo_istore 3 115,
  zo_iinc 4 1 118,
  zo_none,
  zo_none,
  zo_goto 93,
  zo_none,
  zo_none,
  zo_ret]
set_option maxRecDepth 100000 in
theorem tl_X12_preempts : ∀ pc, zz_Tl (tX12_preempts.getD pc zo_none) := by
  refine zz_Tl_mem ?_
  unfold tX12_preempts
  refine List.forall_mem_cons.mpr ⟨(zo_pushI_tl _ _), ?_⟩
  refine List.forall_mem_cons.mpr ⟨(zo_istore_tl _ _), ?_⟩
  refine List.forall_mem_cons.mpr ⟨(zo_pushI_tl _ _), ?_⟩
  refine List.forall_mem_cons.mpr ⟨(zo_istore_tl _ _), ?_⟩
  refine List.forall_mem_cons.mpr ⟨(zo_iload_tl _ _), ?_⟩
  refine List.forall_mem_cons.mpr ⟨(zo_aload_tl _ _), ?_⟩
  refine List.forall_mem_cons.mpr ⟨(zo_getf_tl _ _ _), ?_⟩
  refine List.forall_mem_cons.mpr ⟨zo_none_tl, ?_⟩
  refine List.forall_mem_cons.mpr ⟨zo_none_tl, ?_⟩
  refine List.forall_mem_cons.mpr ⟨(zo_icmp_tl _ _ _), ?_⟩
  refine List.forall_mem_cons.mpr ⟨zo_none_tl, ?_⟩
  refine List.forall_mem_cons.mpr ⟨zo_none_tl, ?_⟩
  refine List.forall_mem_cons.mpr ⟨(zo_aload_tl _ _), ?_⟩
  refine List.forall_mem_cons.mpr ⟨(zo_iload_tl _ _), ?_⟩
  refine List.forall_mem_cons.mpr ⟨(zo_callv_tl _ _ _ _), ?_⟩
  refine List.forall_mem_cons.mpr ⟨zo_none_tl, ?_⟩
  refine List.forall_mem_cons.mpr ⟨zo_none_tl, ?_⟩
  refine List.forall_mem_cons.mpr ⟨(zo_if_tl _ _ _), ?_⟩
  refine List.forall_mem_cons.mpr ⟨zo_none_tl, ?_⟩
  refine List.forall_mem_cons.mpr ⟨zo_none_tl, ?_⟩
  refine List.forall_mem_cons.mpr ⟨(zo_aload_tl _ _), ?_⟩
  refine List.forall_mem_cons.mpr ⟨(zo_iload_tl _ _), ?_⟩
  refine List.forall_mem_cons.mpr ⟨(zo_iload_tl _ _), ?_⟩
  refine List.forall_mem_cons.mpr ⟨(zo_callv_tl _ _ _ _), ?_⟩
  refine List.forall_mem_cons.mpr ⟨zo_none_tl, ?_⟩
  refine List.forall_mem_cons.mpr ⟨zo_none_tl, ?_⟩
  refine List.forall_mem_cons.mpr ⟨(zo_goto_tl _), ?_⟩
  refine List.forall_mem_cons.mpr ⟨zo_none_tl, ?_⟩
  refine List.forall_mem_cons.mpr ⟨zo_none_tl, ?_⟩
  refine List.forall_mem_cons.mpr ⟨(zo_pushI_tl _ _), ?_⟩
  refine List.forall_mem_cons.mpr ⟨(zo_istore_tl _ _), ?_⟩
  refine List.forall_mem_cons.mpr ⟨zo_none_tl, ?_⟩
  refine List.forall_mem_cons.mpr ⟨(zo_iload_tl _ _), ?_⟩
  refine List.forall_mem_cons.mpr ⟨zo_none_tl, ?_⟩
  refine List.forall_mem_cons.mpr ⟨(zo_pushI_tl _ _), ?_⟩
  refine List.forall_mem_cons.mpr ⟨(zo_icmp_tl _ _ _), ?_⟩
  refine List.forall_mem_cons.mpr ⟨zo_none_tl, ?_⟩
  refine List.forall_mem_cons.mpr ⟨zo_none_tl, ?_⟩
  refine List.forall_mem_cons.mpr ⟨(zo_iload_tl _ _), ?_⟩
  refine List.forall_mem_cons.mpr ⟨(zo_pushI_tl _ _), ?_⟩
  refine List.forall_mem_cons.mpr ⟨(zo_icmp_tl _ _ _), ?_⟩
  refine List.forall_mem_cons.mpr ⟨zo_none_tl, ?_⟩
  refine List.forall_mem_cons.mpr ⟨zo_none_tl, ?_⟩
  refine List.forall_mem_cons.mpr ⟨(zo_iload_tl _ _), ?_⟩
  refine List.forall_mem_cons.mpr ⟨zo_none_tl, ?_⟩
  refine List.forall_mem_cons.mpr ⟨(zo_iload_tl _ _), ?_⟩
  refine List.forall_mem_cons.mpr ⟨(zo_icmp_tl _ _ _), ?_⟩
  refine List.forall_mem_cons.mpr ⟨zo_none_tl, ?_⟩
  refine List.forall_mem_cons.mpr ⟨zo_none_tl, ?_⟩
  refine List.forall_mem_cons.mpr ⟨(zo_iload_tl _ _), ?_⟩
  refine List.forall_mem_cons.mpr ⟨zo_none_tl, ?_⟩
  refine List.forall_mem_cons.mpr ⟨(zo_istore_tl _ _), ?_⟩
  refine List.forall_mem_cons.mpr ⟨(zo_pushI_tl _ _), ?_⟩
  refine List.forall_mem_cons.mpr ⟨(zo_istore_tl _ _), ?_⟩
  refine List.forall_mem_cons.mpr ⟨zo_none_tl, ?_⟩
  refine List.forall_mem_cons.mpr ⟨(zo_iload_tl _ _), ?_⟩
  refine List.forall_mem_cons.mpr ⟨zo_none_tl, ?_⟩
  refine List.forall_mem_cons.mpr ⟨(zo_iload_tl _ _), ?_⟩
  refine List.forall_mem_cons.mpr ⟨zo_none_tl, ?_⟩
  refine List.forall_mem_cons.mpr ⟨(zo_icmp_tl _ _ _), ?_⟩
  refine List.forall_mem_cons.mpr ⟨zo_none_tl, ?_⟩
  refine List.forall_mem_cons.mpr ⟨zo_none_tl, ?_⟩
  refine List.forall_mem_cons.mpr ⟨(zo_aload_tl _ _), ?_⟩
  refine List.forall_mem_cons.mpr ⟨(zo_getf_tl _ _ _), ?_⟩
  refine List.forall_mem_cons.mpr ⟨zo_none_tl, ?_⟩
  refine List.forall_mem_cons.mpr ⟨zo_none_tl, ?_⟩
  refine List.forall_mem_cons.mpr ⟨(zo_iload_tl _ _), ?_⟩
  refine List.forall_mem_cons.mpr ⟨zo_none_tl, ?_⟩
  refine List.forall_mem_cons.mpr ⟨(zo_aload_tl _ _), ?_⟩
  refine List.forall_mem_cons.mpr ⟨(zo_getf_tl _ _ _), ?_⟩
  refine List.forall_mem_cons.mpr ⟨zo_none_tl, ?_⟩
  refine List.forall_mem_cons.mpr ⟨zo_none_tl, ?_⟩
  refine List.forall_mem_cons.mpr ⟨(zo_iload_tl _ _), ?_⟩
  refine List.forall_mem_cons.mpr ⟨zo_none_tl, ?_⟩
  refine List.forall_mem_cons.mpr ⟨(zo_iald_tl _ _ _), ?_⟩
  refine List.forall_mem_cons.mpr ⟨(zo_iast_tl _ _), ?_⟩
  refine List.forall_mem_cons.mpr ⟨(zo_iinc_tl _ _ _), ?_⟩
  refine List.forall_mem_cons.mpr ⟨zo_none_tl, ?_⟩
  refine List.forall_mem_cons.mpr ⟨zo_none_tl, ?_⟩
  refine List.forall_mem_cons.mpr ⟨(zo_goto_tl _), ?_⟩
  refine List.forall_mem_cons.mpr ⟨zo_none_tl, ?_⟩
  refine List.forall_mem_cons.mpr ⟨zo_none_tl, ?_⟩
  refine List.forall_mem_cons.mpr ⟨(zo_iinc_tl _ _ _), ?_⟩
  refine List.forall_mem_cons.mpr ⟨zo_none_tl, ?_⟩
  refine List.forall_mem_cons.mpr ⟨zo_none_tl, ?_⟩
  refine List.forall_mem_cons.mpr ⟨(zo_goto_tl _), ?_⟩
  refine List.forall_mem_cons.mpr ⟨zo_none_tl, ?_⟩
  refine List.forall_mem_cons.mpr ⟨zo_none_tl, ?_⟩
  refine List.forall_mem_cons.mpr ⟨(zo_pushI_tl _ _), ?_⟩
  refine List.forall_mem_cons.mpr ⟨(zo_istore_tl _ _), ?_⟩
  refine List.forall_mem_cons.mpr ⟨(zo_pushI_tl _ _), ?_⟩
  refine List.forall_mem_cons.mpr ⟨(zo_istore_tl _ _), ?_⟩
  refine List.forall_mem_cons.mpr ⟨zo_none_tl, ?_⟩
  refine List.forall_mem_cons.mpr ⟨(zo_iload_tl _ _), ?_⟩
  refine List.forall_mem_cons.mpr ⟨zo_none_tl, ?_⟩
  refine List.forall_mem_cons.mpr ⟨(zo_iload_tl _ _), ?_⟩
  refine List.forall_mem_cons.mpr ⟨(zo_icmp_tl _ _ _), ?_⟩
  refine List.forall_mem_cons.mpr ⟨zo_none_tl, ?_⟩
  refine List.forall_mem_cons.mpr ⟨zo_none_tl, ?_⟩
  refine List.forall_mem_cons.mpr ⟨(zo_iload_tl _ _), ?_⟩
  refine List.forall_mem_cons.mpr ⟨(zo_if_tl _ _ _), ?_⟩
  refine List.forall_mem_cons.mpr ⟨zo_none_tl, ?_⟩
  refine List.forall_mem_cons.mpr ⟨zo_none_tl, ?_⟩
  refine List.forall_mem_cons.mpr ⟨(zo_aload_tl _ _), ?_⟩
  refine List.forall_mem_cons.mpr ⟨(zo_aload_tl _ _), ?_⟩
  refine List.forall_mem_cons.mpr ⟨(zo_getf_tl _ _ _), ?_⟩
  refine List.forall_mem_cons.mpr ⟨zo_none_tl, ?_⟩
  refine List.forall_mem_cons.mpr ⟨zo_none_tl, ?_⟩
  refine List.forall_mem_cons.mpr ⟨(zo_iload_tl _ _), ?_⟩
  refine List.forall_mem_cons.mpr ⟨zo_none_tl, ?_⟩
  refine List.forall_mem_cons.mpr ⟨(zo_iald_tl _ _ _), ?_⟩
  refine List.forall_mem_cons.mpr ⟨(zo_callv_tl _ _ _ _), ?_⟩
  refine List.forall_mem_cons.mpr ⟨zo_none_tl, ?_⟩
  refine List.forall_mem_cons.mpr ⟨zo_none_tl, ?_⟩
  refine List.forall_mem_cons.mpr ⟨(zo_istore_tl _ _), ?_⟩
  refine List.forall_mem_cons.mpr ⟨(zo_iinc_tl _ _ _), ?_⟩
  refine List.forall_mem_cons.mpr ⟨zo_none_tl, ?_⟩
  refine List.forall_mem_cons.mpr ⟨zo_none_tl, ?_⟩
  refine List.forall_mem_cons.mpr ⟨(zo_goto_tl _), ?_⟩
  refine List.forall_mem_cons.mpr ⟨zo_none_tl, ?_⟩
  refine List.forall_mem_cons.mpr ⟨zo_none_tl, ?_⟩
  refine List.forall_mem_cons.mpr ⟨(zo_ret_tl), ?_⟩
  exact fun _ h => absurd h List.not_mem_nil
noncomputable def fX12_preempts : zzFn := zz_fn tX12_preempts 6
set_option maxRecDepth 100000 in
set_option maxHeartbeats 4000000 in
theorem mm_X12_preempts {l : Launch} {D : va_G} {cA : Nat → ClassId} {ad : Nat → Nat} {Ex : (Nat → Prop) → State → Heap → Prop} (Wd : zzWR l D cA ad Ex) : zz_Cn l D zzCl cA ad zzSR Ex yX12_preempts cX12_preempts 6 none 5 120 fX12_preempts ∧ zz_Cx l D zzCl cA ad zzSR Ex yX12_preempts cX12_preempts 6 none 5 120 fX12_preempts := by
  refine zz_meth (plainFor_of_name (by decide)) Wd.1 Wd.2.1 Wd.2.2 (fun p e R s m args below meth c rr X => ?_)
  unfold tX12_preempts
  refine zz_cons (k' := 1) rfl (zk_iconst X dX12_preempts_0 (by decide) rfl) ?_
  refine zz_cons (k' := 2) rfl (zk_istore_n X dX12_preempts_1 rfl (by decide) rfl) ?_
  refine zz_cons (k' := 3) rfl (zk_iconst X dX12_preempts_2 (by decide) rfl) ?_
  refine zz_cons (k' := 4) rfl (zk_istore_n X dX12_preempts_3 rfl (by decide) rfl) ?_
  refine zz_cons (k' := 5) rfl (zk_iload_n X dX12_preempts_4 rfl rfl) ?_
  refine zz_cons (k' := 6) rfl (zk_aload_n X dX12_preempts_5 rfl rfl) ?_
  refine zz_cons (k' := 7) rfl (zk_getf X ff_X12_137 dX12_preempts_6 rfl) ?_
  refine zz_cons (k' := 8) rfl (zz_Ok_none _ _) ?_
  refine zz_cons (k' := 9) rfl (zz_Ok_none _ _) ?_
  refine zz_cons (k' := 10) rfl (zk_icmp_ge X dX12_preempts_9 (by decide) rfl) ?_
  refine zz_cons (k' := 11) rfl (zz_Ok_none _ _) ?_
  refine zz_cons (k' := 12) rfl (zz_Ok_none _ _) ?_
  refine zz_cons (k' := 13) rfl (zk_aload_n X dX12_preempts_12 rfl rfl) ?_
  refine zz_cons (k' := 14) rfl (zk_iload_n X dX12_preempts_13 rfl rfl) ?_
  refine zz_cons (k' := 15) rfl (zk_callv X (zz_Cv_of (List.forall_mem_cons.mpr ⟨⟨(RX_10, zzT10, 50), yX12_isUsable, cX12_isUsable, 2, (some .boolean), 3, 67, rfl, kv_X12_305_10.1, (mm_X12_isUsable Wd).1, by decide, by decide⟩, (fun _ h => absurd h List.not_mem_nil)⟩)) dX12_preempts_14 rfl) ?_
  refine zz_cons (k' := 16) rfl (zz_Ok_none _ _) ?_
  refine zz_cons (k' := 17) rfl (zz_Ok_none _ _) ?_
  refine zz_cons (k' := 18) rfl (zk_if_eq X dX12_preempts_17 (by decide) rfl) ?_
  refine zz_cons (k' := 19) rfl (zz_Ok_none _ _) ?_
  refine zz_cons (k' := 20) rfl (zz_Ok_none _ _) ?_
  refine zz_cons (k' := 21) rfl (zk_aload_n X dX12_preempts_20 rfl rfl) ?_
  refine zz_cons (k' := 22) rfl (zk_iload_n X dX12_preempts_21 rfl rfl) ?_
  refine zz_cons (k' := 23) rfl (zk_iload_n X dX12_preempts_22 rfl rfl) ?_
  refine zz_cons (k' := 24) rfl (zk_callv X (zz_Cv_of (List.forall_mem_cons.mpr ⟨⟨(RX_10, zzT10, 50), yX12_laysVictims, cX12_laysVictims, 9, (some .int), 4, 92, rfl, kv_X12_314_10.1, (mm_X12_laysVictims Wd).1, by decide, by decide⟩, (fun _ h => absurd h List.not_mem_nil)⟩)) dX12_preempts_23 rfl) ?_
  refine zz_cons (k' := 25) rfl (zz_Ok_none _ _) ?_
  refine zz_cons (k' := 26) rfl (zz_Ok_none _ _) ?_
  refine zz_cons (k' := 27) rfl (zk_goto X dX12_preempts_26 (by decide)) ?_
  refine zz_cons (k' := 28) rfl (zz_Ok_none _ _) ?_
  refine zz_cons (k' := 29) rfl (zz_Ok_none _ _) ?_
  refine zz_cons (k' := 30) rfl (zk_iconst X dX12_preempts_29 (by decide) rfl) ?_
  refine zz_cons (k' := 31) rfl (zk_istore X dX12_preempts_30 (by decide) rfl) ?_
  refine zz_cons (k' := 32) rfl (zz_Ok_none _ _) ?_
  refine zz_cons (k' := 33) rfl (zk_iload X dX12_preempts_32 rfl) ?_
  refine zz_cons (k' := 34) rfl (zz_Ok_none _ _) ?_
  refine zz_cons (k' := 35) rfl (zk_iconst X dX12_preempts_34 (by decide) rfl) ?_
  refine zz_cons (k' := 36) rfl (zk_icmp_eq X dX12_preempts_35 (by decide) rfl) ?_
  refine zz_cons (k' := 37) rfl (zz_Ok_none _ _) ?_
  refine zz_cons (k' := 38) rfl (zz_Ok_none _ _) ?_
  refine zz_cons (k' := 39) rfl (zk_iload_n X dX12_preempts_38 rfl rfl) ?_
  refine zz_cons (k' := 40) rfl (zk_iconst X dX12_preempts_39 (by decide) rfl) ?_
  refine zz_cons (k' := 41) rfl (zk_icmp_eq X dX12_preempts_40 (by decide) rfl) ?_
  refine zz_cons (k' := 42) rfl (zz_Ok_none _ _) ?_
  refine zz_cons (k' := 43) rfl (zz_Ok_none _ _) ?_
  refine zz_cons (k' := 44) rfl (zk_iload X dX12_preempts_43 rfl) ?_
  refine zz_cons (k' := 45) rfl (zz_Ok_none _ _) ?_
  refine zz_cons (k' := 46) rfl (zk_iload_n X dX12_preempts_45 rfl rfl) ?_
  refine zz_cons (k' := 47) rfl (zk_icmp_ge X dX12_preempts_46 (by decide) rfl) ?_
  refine zz_cons (k' := 48) rfl (zz_Ok_none _ _) ?_
  refine zz_cons (k' := 49) rfl (zz_Ok_none _ _) ?_
  refine zz_cons (k' := 50) rfl (zk_iload X dX12_preempts_49 rfl) ?_
  refine zz_cons (k' := 51) rfl (zz_Ok_none _ _) ?_
  refine zz_cons (k' := 52) rfl (zk_istore_n X dX12_preempts_51 rfl (by decide) rfl) ?_
  refine zz_cons (k' := 53) rfl (zk_iconst X dX12_preempts_52 (by decide) rfl) ?_
  refine zz_cons (k' := 54) rfl (zk_istore X dX12_preempts_53 (by decide) rfl) ?_
  refine zz_cons (k' := 55) rfl (zz_Ok_none _ _) ?_
  refine zz_cons (k' := 56) rfl (zk_iload X dX12_preempts_55 rfl) ?_
  refine zz_cons (k' := 57) rfl (zz_Ok_none _ _) ?_
  refine zz_cons (k' := 58) rfl (zk_iload X dX12_preempts_57 rfl) ?_
  refine zz_cons (k' := 59) rfl (zz_Ok_none _ _) ?_
  refine zz_cons (k' := 60) rfl (zk_icmp_ge X dX12_preempts_59 (by decide) rfl) ?_
  refine zz_cons (k' := 61) rfl (zz_Ok_none _ _) ?_
  refine zz_cons (k' := 62) rfl (zz_Ok_none _ _) ?_
  refine zz_cons (k' := 63) rfl (zk_aload_n X dX12_preempts_62 rfl rfl) ?_
  refine zz_cons (k' := 64) rfl (zk_getf X ff_X12_124 dX12_preempts_63 rfl) ?_
  refine zz_cons (k' := 65) rfl (zz_Ok_none _ _) ?_
  refine zz_cons (k' := 66) rfl (zz_Ok_none _ _) ?_
  refine zz_cons (k' := 67) rfl (zk_iload X dX12_preempts_66 rfl) ?_
  refine zz_cons (k' := 68) rfl (zz_Ok_none _ _) ?_
  refine zz_cons (k' := 69) rfl (zk_aload_n X dX12_preempts_68 rfl rfl) ?_
  refine zz_cons (k' := 70) rfl (zk_getf X ff_X12_121 dX12_preempts_69 rfl) ?_
  refine zz_cons (k' := 71) rfl (zz_Ok_none _ _) ?_
  refine zz_cons (k' := 72) rfl (zz_Ok_none _ _) ?_
  refine zz_cons (k' := 73) rfl (zk_iload X dX12_preempts_72 rfl) ?_
  refine zz_cons (k' := 74) rfl (zz_Ok_none _ _) ?_
  refine zz_cons (k' := 75) rfl (zk_iald X (zzWR_st Wd) dX12_preempts_74 rfl) ?_
  refine zz_cons (k' := 76) rfl (zk_iast X dX12_preempts_75 rfl) ?_
  refine zz_cons (k' := 77) rfl (zk_iinc X dX12_preempts_76 (by decide) (by decide) rfl) ?_
  refine zz_cons (k' := 78) rfl (zz_Ok_none _ _) ?_
  refine zz_cons (k' := 79) rfl (zz_Ok_none _ _) ?_
  refine zz_cons (k' := 80) rfl (zk_goto X dX12_preempts_79 (by decide)) ?_
  refine zz_cons (k' := 81) rfl (zz_Ok_none _ _) ?_
  refine zz_cons (k' := 82) rfl (zz_Ok_none _ _) ?_
  refine zz_cons (k' := 83) rfl (zk_iinc X dX12_preempts_82 (by decide) (by decide) rfl) ?_
  refine zz_cons (k' := 84) rfl (zz_Ok_none _ _) ?_
  refine zz_cons (k' := 85) rfl (zz_Ok_none _ _) ?_
  refine zz_cons (k' := 86) rfl (zk_goto X dX12_preempts_85 (by decide)) ?_
  refine zz_cons (k' := 87) rfl (zz_Ok_none _ _) ?_
  refine zz_cons (k' := 88) rfl (zz_Ok_none _ _) ?_
  refine zz_cons (k' := 89) rfl (zk_iconst X dX12_preempts_88 (by decide) rfl) ?_
  refine zz_cons (k' := 90) rfl (zk_istore_n X dX12_preempts_89 rfl (by decide) rfl) ?_
  refine zz_cons (k' := 91) rfl (zk_iconst X dX12_preempts_90 (by decide) rfl) ?_
  refine zz_cons (k' := 92) rfl (zk_istore X dX12_preempts_91 (by decide) rfl) ?_
  refine zz_cons (k' := 93) rfl (zz_Ok_none _ _) ?_
  refine zz_cons (k' := 94) rfl (zk_iload X dX12_preempts_93 rfl) ?_
  refine zz_cons (k' := 95) rfl (zz_Ok_none _ _) ?_
  refine zz_cons (k' := 96) rfl (zk_iload_n X dX12_preempts_95 rfl rfl) ?_
  refine zz_cons (k' := 97) rfl (zk_icmp_ge X dX12_preempts_96 (by decide) rfl) ?_
  refine zz_cons (k' := 98) rfl (zz_Ok_none _ _) ?_
  refine zz_cons (k' := 99) rfl (zz_Ok_none _ _) ?_
  refine zz_cons (k' := 100) rfl (zk_iload_n X dX12_preempts_99 rfl rfl) ?_
  refine zz_cons (k' := 101) rfl (zk_if_eq X dX12_preempts_100 (by decide) rfl) ?_
  refine zz_cons (k' := 102) rfl (zz_Ok_none _ _) ?_
  refine zz_cons (k' := 103) rfl (zz_Ok_none _ _) ?_
  refine zz_cons (k' := 104) rfl (zk_aload_n X dX12_preempts_103 rfl rfl) ?_
  refine zz_cons (k' := 105) rfl (zk_aload_n X dX12_preempts_104 rfl rfl) ?_
  refine zz_cons (k' := 106) rfl (zk_getf X ff_X12_124 dX12_preempts_105 rfl) ?_
  refine zz_cons (k' := 107) rfl (zz_Ok_none _ _) ?_
  refine zz_cons (k' := 108) rfl (zz_Ok_none _ _) ?_
  refine zz_cons (k' := 109) rfl (zk_iload X dX12_preempts_108 rfl) ?_
  refine zz_cons (k' := 110) rfl (zz_Ok_none _ _) ?_
  refine zz_cons (k' := 111) rfl (zk_iald X (zzWR_st Wd) dX12_preempts_110 rfl) ?_
  refine zz_cons (k' := 112) rfl (zk_callv X (zz_Cv_of (List.forall_mem_cons.mpr ⟨⟨(RX_10, zzT10, 50), yX12_deletes, cX12_deletes, 2, (some .boolean), 3, 79, rfl, kv_X12_302_10.1, (mm_X12_deletes Wd).1, by decide, by decide⟩, (fun _ h => absurd h List.not_mem_nil)⟩)) dX12_preempts_111 rfl) ?_
  refine zz_cons (k' := 113) rfl (zz_Ok_none _ _) ?_
  refine zz_cons (k' := 114) rfl (zz_Ok_none _ _) ?_
  refine zz_cons (k' := 115) rfl (zk_istore_n X dX12_preempts_114 rfl (by decide) rfl) ?_
  refine zz_cons (k' := 116) rfl (zk_iinc X dX12_preempts_115 (by decide) (by decide) rfl) ?_
  refine zz_cons (k' := 117) rfl (zz_Ok_none _ _) ?_
  refine zz_cons (k' := 118) rfl (zz_Ok_none _ _) ?_
  refine zz_cons (k' := 119) rfl (zk_goto X dX12_preempts_118 (by decide)) ?_
  refine zz_cons (k' := 120) rfl (zz_Ok_none _ _) ?_
  refine zz_cons (k' := 121) rfl (zz_Ok_none _ _) ?_
  refine zz_cons (k' := 122) rfl (zk_ret X rfl dX12_preempts_121) ?_
  exact trivial
noncomputable def tX12_schedules : List zzOp := [
  zo_aload 0 1,
  zo_aload 0 2,
  zo_getf zzSR (zz_kf [10] 43) 5,
  zo_none,
  zo_none,
  zo_pushI 2 6,
  zo_callv zzSR (zz_cl [(10, fX12_stays)]) 2 9,
  zo_none,
  zo_none,
  zo_if (fun x => decide (x = 0)) 38 12,
  zo_none,
  zo_none,
  zo_aload 0 13,
  zo_aload 0 14,
  zo_getf zzSR (zz_kf [10] 43) 17,
  zo_none,
  zo_none,
  zo_pushI 16 19,
  zo_none,
  zo_callv zzSR (zz_cl [(10, fX12_viewed)]) 2 22,
  zo_none,
  zo_none,
  zo_if (fun x => decide (¬ x = 0)) 38 25,
  zo_none,
  zo_none,
  zo_aload 0 26,
  zo_aload 0 27,
  zo_getf zzSR (zz_kf [10] 43) 30,
  zo_none,
  zo_none,
  zo_pushI 15 32,
  zo_none,
  zo_callv zzSR (zz_cl [(10, fX12_viewed)]) 2 35,
  zo_none,
  zo_none,
  zo_if (fun x => decide (x ≤ 0)) 40 38,
  zo_none,
  zo_none,
  zo_pushI 1 39,
  zo_iret true,
  zo_aload 0 41,
  zo_aload 0 42,
  zo_getf zzSR (zz_kf [10] 43) 45,
  zo_none,
  zo_none,
  zo_callv zzSR (zz_cl [(10, fX12_nodeFor)]) 1 48,
  zo_none,
  zo_none,
  zo_istore 1 49,
  zo_iload 1 50,
  zo_pushI (-1) 51,
  zo_icmp (fun x y => decide (x = y)) 90 54,
  zo_none,
  zo_none,
  zo_aload 0 55,
  zo_aload 0 56,
  zo_getf zzSR (zz_kf [10] 43) 59,
  zo_none,
  zo_none,
  zo_aload 0 60,
  zo_aload 0 61,
  zo_getf zzSR (zz_kf [10] 7) 64,
  zo_none,
  zo_none,
  zo_aload 0 65,
  zo_getf zzSR (zz_kf [10] 43) 68,
  zo_none,
  zo_none,
  zo_lald zzSR 69,
  zo_pushI 15 71,
  zo_none,
  zo_iload 1 72,
  zo_pushI 1 73,
  zo_ii (fun x y => x + y) 74,
  zo_callv zzSR (zz_cl [(10, fX12_with)]) 3 77,
  zo_none,
  zo_none,
  zo_aload 0 78,
  zo_getf zzSR (zz_kf [10] 8) 81,
  zo_none,
  zo_none,
  zo_aload 0 82,
  zo_getf zzSR (zz_kf [10] 43) 85,
  zo_none,
  zo_none,
  zo_lald zzSR 86,
  zo_callv zzSR (zz_cl [(10, fX12_writesIt)]) 3 89,
  zo_none,
  zo_none,
  zo_iret true,
  zo_aload 0 91,
  zo_aload 0 92,
  zo_getf zzSR (zz_kf [10] 43) 95,
  zo_none,
  zo_none,
  zo_callv zzSR (zz_cl [(10, fX12_preempts)]) 1 98,
  zo_none,
  zo_none,
  zo_pushI 0 99,
  zo_iret true]
set_option maxRecDepth 100000 in
theorem tl_X12_schedules : ∀ pc, zz_Tl (tX12_schedules.getD pc zo_none) := by
  refine zz_Tl_mem ?_
  unfold tX12_schedules
  refine List.forall_mem_cons.mpr ⟨(zo_aload_tl _ _), ?_⟩
  refine List.forall_mem_cons.mpr ⟨(zo_aload_tl _ _), ?_⟩
  refine List.forall_mem_cons.mpr ⟨(zo_getf_tl _ _ _), ?_⟩
  refine List.forall_mem_cons.mpr ⟨zo_none_tl, ?_⟩
  refine List.forall_mem_cons.mpr ⟨zo_none_tl, ?_⟩
  refine List.forall_mem_cons.mpr ⟨(zo_pushI_tl _ _), ?_⟩
  refine List.forall_mem_cons.mpr ⟨(zo_callv_tl _ _ _ _), ?_⟩
  refine List.forall_mem_cons.mpr ⟨zo_none_tl, ?_⟩
  refine List.forall_mem_cons.mpr ⟨zo_none_tl, ?_⟩
  refine List.forall_mem_cons.mpr ⟨(zo_if_tl _ _ _), ?_⟩
  refine List.forall_mem_cons.mpr ⟨zo_none_tl, ?_⟩
  refine List.forall_mem_cons.mpr ⟨zo_none_tl, ?_⟩
  refine List.forall_mem_cons.mpr ⟨(zo_aload_tl _ _), ?_⟩
  refine List.forall_mem_cons.mpr ⟨(zo_aload_tl _ _), ?_⟩
  refine List.forall_mem_cons.mpr ⟨(zo_getf_tl _ _ _), ?_⟩
  refine List.forall_mem_cons.mpr ⟨zo_none_tl, ?_⟩
  refine List.forall_mem_cons.mpr ⟨zo_none_tl, ?_⟩
  refine List.forall_mem_cons.mpr ⟨(zo_pushI_tl _ _), ?_⟩
  refine List.forall_mem_cons.mpr ⟨zo_none_tl, ?_⟩
  refine List.forall_mem_cons.mpr ⟨(zo_callv_tl _ _ _ _), ?_⟩
  refine List.forall_mem_cons.mpr ⟨zo_none_tl, ?_⟩
  refine List.forall_mem_cons.mpr ⟨zo_none_tl, ?_⟩
  refine List.forall_mem_cons.mpr ⟨(zo_if_tl _ _ _), ?_⟩
  refine List.forall_mem_cons.mpr ⟨zo_none_tl, ?_⟩
  refine List.forall_mem_cons.mpr ⟨zo_none_tl, ?_⟩
  refine List.forall_mem_cons.mpr ⟨(zo_aload_tl _ _), ?_⟩
  refine List.forall_mem_cons.mpr ⟨(zo_aload_tl _ _), ?_⟩
  refine List.forall_mem_cons.mpr ⟨(zo_getf_tl _ _ _), ?_⟩
  refine List.forall_mem_cons.mpr ⟨zo_none_tl, ?_⟩
  refine List.forall_mem_cons.mpr ⟨zo_none_tl, ?_⟩
  refine List.forall_mem_cons.mpr ⟨(zo_pushI_tl _ _), ?_⟩
  refine List.forall_mem_cons.mpr ⟨zo_none_tl, ?_⟩
  refine List.forall_mem_cons.mpr ⟨(zo_callv_tl _ _ _ _), ?_⟩
  refine List.forall_mem_cons.mpr ⟨zo_none_tl, ?_⟩
  refine List.forall_mem_cons.mpr ⟨zo_none_tl, ?_⟩
  refine List.forall_mem_cons.mpr ⟨(zo_if_tl _ _ _), ?_⟩
  refine List.forall_mem_cons.mpr ⟨zo_none_tl, ?_⟩
  refine List.forall_mem_cons.mpr ⟨zo_none_tl, ?_⟩
  refine List.forall_mem_cons.mpr ⟨(zo_pushI_tl _ _), ?_⟩
  refine List.forall_mem_cons.mpr ⟨(zo_iret_tl _), ?_⟩
  refine List.forall_mem_cons.mpr ⟨(zo_aload_tl _ _), ?_⟩
  refine List.forall_mem_cons.mpr ⟨(zo_aload_tl _ _), ?_⟩
  refine List.forall_mem_cons.mpr ⟨(zo_getf_tl _ _ _), ?_⟩
  refine List.forall_mem_cons.mpr ⟨zo_none_tl, ?_⟩
  refine List.forall_mem_cons.mpr ⟨zo_none_tl, ?_⟩
  refine List.forall_mem_cons.mpr ⟨(zo_callv_tl _ _ _ _), ?_⟩
  refine List.forall_mem_cons.mpr ⟨zo_none_tl, ?_⟩
  refine List.forall_mem_cons.mpr ⟨zo_none_tl, ?_⟩
  refine List.forall_mem_cons.mpr ⟨(zo_istore_tl _ _), ?_⟩
  refine List.forall_mem_cons.mpr ⟨(zo_iload_tl _ _), ?_⟩
  refine List.forall_mem_cons.mpr ⟨(zo_pushI_tl _ _), ?_⟩
  refine List.forall_mem_cons.mpr ⟨(zo_icmp_tl _ _ _), ?_⟩
  refine List.forall_mem_cons.mpr ⟨zo_none_tl, ?_⟩
  refine List.forall_mem_cons.mpr ⟨zo_none_tl, ?_⟩
  refine List.forall_mem_cons.mpr ⟨(zo_aload_tl _ _), ?_⟩
  refine List.forall_mem_cons.mpr ⟨(zo_aload_tl _ _), ?_⟩
  refine List.forall_mem_cons.mpr ⟨(zo_getf_tl _ _ _), ?_⟩
  refine List.forall_mem_cons.mpr ⟨zo_none_tl, ?_⟩
  refine List.forall_mem_cons.mpr ⟨zo_none_tl, ?_⟩
  refine List.forall_mem_cons.mpr ⟨(zo_aload_tl _ _), ?_⟩
  refine List.forall_mem_cons.mpr ⟨(zo_aload_tl _ _), ?_⟩
  refine List.forall_mem_cons.mpr ⟨(zo_getf_tl _ _ _), ?_⟩
  refine List.forall_mem_cons.mpr ⟨zo_none_tl, ?_⟩
  refine List.forall_mem_cons.mpr ⟨zo_none_tl, ?_⟩
  refine List.forall_mem_cons.mpr ⟨(zo_aload_tl _ _), ?_⟩
  refine List.forall_mem_cons.mpr ⟨(zo_getf_tl _ _ _), ?_⟩
  refine List.forall_mem_cons.mpr ⟨zo_none_tl, ?_⟩
  refine List.forall_mem_cons.mpr ⟨zo_none_tl, ?_⟩
  refine List.forall_mem_cons.mpr ⟨(zo_lald_tl _ _), ?_⟩
  refine List.forall_mem_cons.mpr ⟨(zo_pushI_tl _ _), ?_⟩
  refine List.forall_mem_cons.mpr ⟨zo_none_tl, ?_⟩
  refine List.forall_mem_cons.mpr ⟨(zo_iload_tl _ _), ?_⟩
  refine List.forall_mem_cons.mpr ⟨(zo_pushI_tl _ _), ?_⟩
  refine List.forall_mem_cons.mpr ⟨(zo_ii_tl _ _), ?_⟩
  refine List.forall_mem_cons.mpr ⟨(zo_callv_tl _ _ _ _), ?_⟩
  refine List.forall_mem_cons.mpr ⟨zo_none_tl, ?_⟩
  refine List.forall_mem_cons.mpr ⟨zo_none_tl, ?_⟩
  refine List.forall_mem_cons.mpr ⟨(zo_aload_tl _ _), ?_⟩
  refine List.forall_mem_cons.mpr ⟨(zo_getf_tl _ _ _), ?_⟩
  refine List.forall_mem_cons.mpr ⟨zo_none_tl, ?_⟩
  refine List.forall_mem_cons.mpr ⟨zo_none_tl, ?_⟩
  refine List.forall_mem_cons.mpr ⟨(zo_aload_tl _ _), ?_⟩
  refine List.forall_mem_cons.mpr ⟨(zo_getf_tl _ _ _), ?_⟩
  refine List.forall_mem_cons.mpr ⟨zo_none_tl, ?_⟩
  refine List.forall_mem_cons.mpr ⟨zo_none_tl, ?_⟩
  refine List.forall_mem_cons.mpr ⟨(zo_lald_tl _ _), ?_⟩
  refine List.forall_mem_cons.mpr ⟨(zo_callv_tl _ _ _ _), ?_⟩
  refine List.forall_mem_cons.mpr ⟨zo_none_tl, ?_⟩
  refine List.forall_mem_cons.mpr ⟨zo_none_tl, ?_⟩
  refine List.forall_mem_cons.mpr ⟨(zo_iret_tl _), ?_⟩
  refine List.forall_mem_cons.mpr ⟨(zo_aload_tl _ _), ?_⟩
  refine List.forall_mem_cons.mpr ⟨(zo_aload_tl _ _), ?_⟩
  refine List.forall_mem_cons.mpr ⟨(zo_getf_tl _ _ _), ?_⟩
  refine List.forall_mem_cons.mpr ⟨zo_none_tl, ?_⟩
  refine List.forall_mem_cons.mpr ⟨zo_none_tl, ?_⟩
  refine List.forall_mem_cons.mpr ⟨(zo_callv_tl _ _ _ _), ?_⟩
  refine List.forall_mem_cons.mpr ⟨zo_none_tl, ?_⟩
  refine List.forall_mem_cons.mpr ⟨zo_none_tl, ?_⟩
  refine List.forall_mem_cons.mpr ⟨(zo_pushI_tl _ _), ?_⟩
  refine List.forall_mem_cons.mpr ⟨(zo_iret_tl _), ?_⟩
  exact fun _ h => absurd h List.not_mem_nil
noncomputable def fX12_schedules : zzFn := zz_fn tX12_schedules 2
set_option maxRecDepth 100000 in
set_option maxHeartbeats 4000000 in
theorem mm_X12_schedules {l : Launch} {D : va_G} {cA : Nat → ClassId} {ad : Nat → Nat} {Ex : (Nat → Prop) → State → Heap → Prop} (Wd : zzWR l D cA ad Ex) : zz_Cn l D zzCl cA ad zzSR Ex yX12_schedules cX12_schedules 2 (some .boolean) 6 145 fX12_schedules ∧ zz_Cx l D zzCl cA ad zzSR Ex yX12_schedules cX12_schedules 2 (some .boolean) 6 145 fX12_schedules := by
  refine zz_meth (plainFor_of_name (by decide)) Wd.1 Wd.2.1 Wd.2.2 (fun p e R s m args below meth c rr X => ?_)
  unfold tX12_schedules
  refine zz_cons (k' := 1) rfl (zk_aload_n X dX12_schedules_0 rfl rfl) ?_
  refine zz_cons (k' := 2) rfl (zk_aload_n X dX12_schedules_1 rfl rfl) ?_
  refine zz_cons (k' := 3) rfl (zk_getf X ff_X12_243 dX12_schedules_2 rfl) ?_
  refine zz_cons (k' := 4) rfl (zz_Ok_none _ _) ?_
  refine zz_cons (k' := 5) rfl (zz_Ok_none _ _) ?_
  refine zz_cons (k' := 6) rfl (zk_iconst X dX12_schedules_5 (by decide) rfl) ?_
  refine zz_cons (k' := 7) rfl (zk_callv X (zz_Cv_of (List.forall_mem_cons.mpr ⟨⟨(RX_10, zzT10, 50), yX12_stays, cX12_stays, 3, (some .boolean), 2, 45, rfl, kv_X12_269_10.1, (mm_X12_stays Wd).1, by decide, by decide⟩, (fun _ h => absurd h List.not_mem_nil)⟩)) dX12_schedules_6 rfl) ?_
  refine zz_cons (k' := 8) rfl (zz_Ok_none _ _) ?_
  refine zz_cons (k' := 9) rfl (zz_Ok_none _ _) ?_
  refine zz_cons (k' := 10) rfl (zk_if_eq X dX12_schedules_9 (by decide) rfl) ?_
  refine zz_cons (k' := 11) rfl (zz_Ok_none _ _) ?_
  refine zz_cons (k' := 12) rfl (zz_Ok_none _ _) ?_
  refine zz_cons (k' := 13) rfl (zk_aload_n X dX12_schedules_12 rfl rfl) ?_
  refine zz_cons (k' := 14) rfl (zk_aload_n X dX12_schedules_13 rfl rfl) ?_
  refine zz_cons (k' := 15) rfl (zk_getf X ff_X12_243 dX12_schedules_14 rfl) ?_
  refine zz_cons (k' := 16) rfl (zz_Ok_none _ _) ?_
  refine zz_cons (k' := 17) rfl (zz_Ok_none _ _) ?_
  refine zz_cons (k' := 18) rfl (zk_bipush X dX12_schedules_17 (by decide) rfl) ?_
  refine zz_cons (k' := 19) rfl (zz_Ok_none _ _) ?_
  refine zz_cons (k' := 20) rfl (zk_callv X (zz_Cv_of (List.forall_mem_cons.mpr ⟨⟨(RX_10, zzT10, 50), yX12_viewed, cX12_viewed, 3, (some .int), 1, 23, rfl, kv_X12_204_10.1, (mm_X12_viewed Wd).1, by decide, by decide⟩, (fun _ h => absurd h List.not_mem_nil)⟩)) dX12_schedules_19 rfl) ?_
  refine zz_cons (k' := 21) rfl (zz_Ok_none _ _) ?_
  refine zz_cons (k' := 22) rfl (zz_Ok_none _ _) ?_
  refine zz_cons (k' := 23) rfl (zk_if_ne X dX12_schedules_22 (by decide) rfl) ?_
  refine zz_cons (k' := 24) rfl (zz_Ok_none _ _) ?_
  refine zz_cons (k' := 25) rfl (zz_Ok_none _ _) ?_
  refine zz_cons (k' := 26) rfl (zk_aload_n X dX12_schedules_25 rfl rfl) ?_
  refine zz_cons (k' := 27) rfl (zk_aload_n X dX12_schedules_26 rfl rfl) ?_
  refine zz_cons (k' := 28) rfl (zk_getf X ff_X12_243 dX12_schedules_27 rfl) ?_
  refine zz_cons (k' := 29) rfl (zz_Ok_none _ _) ?_
  refine zz_cons (k' := 30) rfl (zz_Ok_none _ _) ?_
  refine zz_cons (k' := 31) rfl (zk_bipush X dX12_schedules_30 (by decide) rfl) ?_
  refine zz_cons (k' := 32) rfl (zz_Ok_none _ _) ?_
  refine zz_cons (k' := 33) rfl (zk_callv X (zz_Cv_of (List.forall_mem_cons.mpr ⟨⟨(RX_10, zzT10, 50), yX12_viewed, cX12_viewed, 3, (some .int), 1, 23, rfl, kv_X12_204_10.1, (mm_X12_viewed Wd).1, by decide, by decide⟩, (fun _ h => absurd h List.not_mem_nil)⟩)) dX12_schedules_32 rfl) ?_
  refine zz_cons (k' := 34) rfl (zz_Ok_none _ _) ?_
  refine zz_cons (k' := 35) rfl (zz_Ok_none _ _) ?_
  refine zz_cons (k' := 36) rfl (zk_if_le X dX12_schedules_35 (by decide) rfl) ?_
  refine zz_cons (k' := 37) rfl (zz_Ok_none _ _) ?_
  refine zz_cons (k' := 38) rfl (zz_Ok_none _ _) ?_
  refine zz_cons (k' := 39) rfl (zk_iconst X dX12_schedules_38 (by decide) rfl) ?_
  refine zz_cons (k' := 40) rfl (zk_iret X rfl dX12_schedules_39) ?_
  refine zz_cons (k' := 41) rfl (zk_aload_n X dX12_schedules_40 rfl rfl) ?_
  refine zz_cons (k' := 42) rfl (zk_aload_n X dX12_schedules_41 rfl rfl) ?_
  refine zz_cons (k' := 43) rfl (zk_getf X ff_X12_243 dX12_schedules_42 rfl) ?_
  refine zz_cons (k' := 44) rfl (zz_Ok_none _ _) ?_
  refine zz_cons (k' := 45) rfl (zz_Ok_none _ _) ?_
  refine zz_cons (k' := 46) rfl (zk_callv X (zz_Cv_of (List.forall_mem_cons.mpr ⟨⟨(RX_10, zzT10, 50), yX12_nodeFor, cX12_nodeFor, 9, (some .int), 4, 92, rfl, kv_X12_317_10.1, (mm_X12_nodeFor Wd).1, by decide, by decide⟩, (fun _ h => absurd h List.not_mem_nil)⟩)) dX12_schedules_45 rfl) ?_
  refine zz_cons (k' := 47) rfl (zz_Ok_none _ _) ?_
  refine zz_cons (k' := 48) rfl (zz_Ok_none _ _) ?_
  refine zz_cons (k' := 49) rfl (zk_istore_n X dX12_schedules_48 rfl (by decide) rfl) ?_
  refine zz_cons (k' := 50) rfl (zk_iload_n X dX12_schedules_49 rfl rfl) ?_
  refine zz_cons (k' := 51) rfl (zk_iconst X dX12_schedules_50 (by decide) rfl) ?_
  refine zz_cons (k' := 52) rfl (zk_icmp_eq X dX12_schedules_51 (by decide) rfl) ?_
  refine zz_cons (k' := 53) rfl (zz_Ok_none _ _) ?_
  refine zz_cons (k' := 54) rfl (zz_Ok_none _ _) ?_
  refine zz_cons (k' := 55) rfl (zk_aload_n X dX12_schedules_54 rfl rfl) ?_
  refine zz_cons (k' := 56) rfl (zk_aload_n X dX12_schedules_55 rfl rfl) ?_
  refine zz_cons (k' := 57) rfl (zk_getf X ff_X12_243 dX12_schedules_56 rfl) ?_
  refine zz_cons (k' := 58) rfl (zz_Ok_none _ _) ?_
  refine zz_cons (k' := 59) rfl (zz_Ok_none _ _) ?_
  refine zz_cons (k' := 60) rfl (zk_aload_n X dX12_schedules_59 rfl rfl) ?_
  refine zz_cons (k' := 61) rfl (zk_aload_n X dX12_schedules_60 rfl rfl) ?_
  refine zz_cons (k' := 62) rfl (zk_getf X ff_X12_28 dX12_schedules_61 rfl) ?_
  refine zz_cons (k' := 63) rfl (zz_Ok_none _ _) ?_
  refine zz_cons (k' := 64) rfl (zz_Ok_none _ _) ?_
  refine zz_cons (k' := 65) rfl (zk_aload_n X dX12_schedules_64 rfl rfl) ?_
  refine zz_cons (k' := 66) rfl (zk_getf X ff_X12_243 dX12_schedules_65 rfl) ?_
  refine zz_cons (k' := 67) rfl (zz_Ok_none _ _) ?_
  refine zz_cons (k' := 68) rfl (zz_Ok_none _ _) ?_
  refine zz_cons (k' := 69) rfl (zk_lald X dX12_schedules_68 rfl) ?_
  refine zz_cons (k' := 70) rfl (zk_bipush X dX12_schedules_69 (by decide) rfl) ?_
  refine zz_cons (k' := 71) rfl (zz_Ok_none _ _) ?_
  refine zz_cons (k' := 72) rfl (zk_iload_n X dX12_schedules_71 rfl rfl) ?_
  refine zz_cons (k' := 73) rfl (zk_iconst X dX12_schedules_72 (by decide) rfl) ?_
  refine zz_cons (k' := 74) rfl (zk_iadd X dX12_schedules_73 rfl) ?_
  refine zz_cons (k' := 75) rfl (zk_callv X (zz_Cv_of (List.forall_mem_cons.mpr ⟨⟨(RX_10, zzT10, 50), yX12_with, cX12_with, 7, (some .long), 0, 0, rfl, kv_X12_150_10.1, (mm_X12_with Wd).1, by decide, by decide⟩, (fun _ h => absurd h List.not_mem_nil)⟩)) dX12_schedules_74 rfl) ?_
  refine zz_cons (k' := 76) rfl (zz_Ok_none _ _) ?_
  refine zz_cons (k' := 77) rfl (zz_Ok_none _ _) ?_
  refine zz_cons (k' := 78) rfl (zk_aload_n X dX12_schedules_77 rfl rfl) ?_
  refine zz_cons (k' := 79) rfl (zk_getf X ff_X12_32 dX12_schedules_78 rfl) ?_
  refine zz_cons (k' := 80) rfl (zz_Ok_none _ _) ?_
  refine zz_cons (k' := 81) rfl (zz_Ok_none _ _) ?_
  refine zz_cons (k' := 82) rfl (zk_aload_n X dX12_schedules_81 rfl rfl) ?_
  refine zz_cons (k' := 83) rfl (zk_getf X ff_X12_243 dX12_schedules_82 rfl) ?_
  refine zz_cons (k' := 84) rfl (zz_Ok_none _ _) ?_
  refine zz_cons (k' := 85) rfl (zz_Ok_none _ _) ?_
  refine zz_cons (k' := 86) rfl (zk_lald X dX12_schedules_85 rfl) ?_
  refine zz_cons (k' := 87) rfl (zk_callv X (zz_Cv_of (List.forall_mem_cons.mpr ⟨⟨(RX_10, zzT10, 50), yX12_writesIt, cX12_writesIt, 8, (some .boolean), 2, 52, rfl, kv_X12_261_10.1, (mm_X12_writesIt Wd).1, by decide, by decide⟩, (fun _ h => absurd h List.not_mem_nil)⟩)) dX12_schedules_86 rfl) ?_
  refine zz_cons (k' := 88) rfl (zz_Ok_none _ _) ?_
  refine zz_cons (k' := 89) rfl (zz_Ok_none _ _) ?_
  refine zz_cons (k' := 90) rfl (zk_iret X rfl dX12_schedules_89) ?_
  refine zz_cons (k' := 91) rfl (zk_aload_n X dX12_schedules_90 rfl rfl) ?_
  refine zz_cons (k' := 92) rfl (zk_aload_n X dX12_schedules_91 rfl rfl) ?_
  refine zz_cons (k' := 93) rfl (zk_getf X ff_X12_243 dX12_schedules_92 rfl) ?_
  refine zz_cons (k' := 94) rfl (zz_Ok_none _ _) ?_
  refine zz_cons (k' := 95) rfl (zz_Ok_none _ _) ?_
  refine zz_cons (k' := 96) rfl (zk_callv X (zz_Cv_of (List.forall_mem_cons.mpr ⟨⟨(RX_10, zzT10, 50), yX12_preempts, cX12_preempts, 6, none, 5, 120, rfl, kv_X12_320_10.1, (mm_X12_preempts Wd).1, by decide, by decide⟩, (fun _ h => absurd h List.not_mem_nil)⟩)) dX12_schedules_95 rfl) ?_
  refine zz_cons (k' := 97) rfl (zz_Ok_none _ _) ?_
  refine zz_cons (k' := 98) rfl (zz_Ok_none _ _) ?_
  refine zz_cons (k' := 99) rfl (zk_iconst X dX12_schedules_98 (by decide) rfl) ?_
  refine zz_cons (k' := 100) rfl (zk_iret X rfl dX12_schedules_99) ?_
  exact trivial
noncomputable def tX12_runs : List zzOp := [
  zo_aload 0 1,
  zo_aload 0 2,
  zo_getf zzSR (zz_kf [10] 43) 5,
  zo_none,
  zo_none,
  zo_callv zzSR (zz_cl [(10, fX12_isGoneThere)]) 1 8,
  zo_none,
  zo_none,
  zo_if (fun x => decide (¬ x = 0)) 37 11,
  zo_none,
  zo_none,
  zo_aload 0 12,
  zo_getf zzSR (zz_kf [10] 6) 15,
  zo_none,
  zo_none,
  zo_aload 0 16,
  zo_getf zzSR (zz_kf [10] 43) 19,
  zo_none,
  zo_none,
  zo_iald zzSR zzSTR 20,
  zo_pushI 2 21,
  zo_icmp (fun x y => decide (¬ x = y)) 37 24,
  zo_none,
  zo_none,
  zo_aload 0 25,
  zo_aload 0 26,
  zo_getf zzSR (zz_kf [10] 43) 29,
  zo_none,
  zo_none,
  zo_pushI 15 31,
  zo_none,
  zo_callv zzSR (zz_cl [(10, fX12_viewed)]) 2 34,
  zo_none,
  zo_none,
  zo_if (fun x => decide (¬ x = 0)) 39 37,
  zo_none,
  zo_none,
  zo_pushI 1 38,
  zo_iret true,
  zo_aload 0 40,
  zo_getf zzSR (zz_kf [10] 7) 43,
  zo_none,
  zo_none,
  zo_aload 0 44,
  zo_getf zzSR (zz_kf [10] 43) 47,
  zo_none,
  zo_none,
  zo_lald zzSR 48,
  zo_lstore 1 49,
  zo_aload 0 50,
  zo_aload 0 51,
  zo_getf zzSR (zz_kf [10] 43) 54,
  zo_none,
  zo_none,
  zo_pushI 15 56,
  zo_none,
  zo_callv zzSR (zz_cl [(10, fX12_viewed)]) 2 59,
  zo_none,
  zo_none,
  zo_pushI 1 60,
  zo_ii (fun x y => x - y) 61,
  zo_istore 3 62,
  zo_aload 0 63,
  zo_aload 0 64,
  zo_getf zzSR (zz_kf [10] 43) 67,
  zo_none,
  zo_none,
  zo_pushI 16 69,
  zo_none,
  zo_callv zzSR (zz_cl [(10, fX12_viewed)]) 2 72,
  zo_none,
  zo_none,
  zo_istore 4 74,
  zo_none,
  zo_aload 0 75,
  zo_aload 0 76,
  zo_getf zzSR (zz_kf [10] 43) 79,
  zo_none,
  zo_none,
  zo_pushI 13 81,
  zo_none,
  zo_callv zzSR (zz_cl [(10, fX12_viewed)]) 2 84,
  zo_none,
  zo_none,
  zo_if (fun x => decide (x = 0)) 133 87,
  zo_none,
  zo_none,
  zo_aload 0 88,
  zo_lload 1 89,
  zo_pushI 15 91,
  zo_none,
  zo_pushI 0 92,
  zo_callv zzSR (zz_cl [(10, fX12_with)]) 3 95,
  zo_none,
  zo_none,
  zo_lstore 1 96,
  zo_aload 0 97,
  zo_aload 0 98,
  zo_getf zzSR (zz_kf [10] 43) 101,
  zo_none,
  zo_none,
  zo_aload 0 102,
  zo_lload 1 103,
  zo_pushI 12 105,
  zo_none,
  zo_callv zzSR (zz_cl [(10, fX12_get)]) 2 108,
  zo_none,
  zo_none,
  zo_if (fun x => decide (¬ x = 0)) 119 111,
  zo_none,
  zo_none,
  zo_aload 0 112,
  zo_lload 1 113,
  zo_callv zzSR (zz_cl [(10, fX12_gone)]) 1 116,
  zo_none,
  zo_none,
  zo_goto 120,
  zo_none,
  zo_none,
  zo_lload 1 120,
  zo_aload 0 121,
  zo_getf zzSR (zz_kf [10] 8) 124,
  zo_none,
  zo_none,
  zo_aload 0 125,
  zo_getf zzSR (zz_kf [10] 43) 128,
  zo_none,
  zo_none,
  zo_lald zzSR 129,
  zo_callv zzSR (zz_cl [(10, fX12_writesIt)]) 3 132,
  zo_none,
  zo_none,
  zo_iret true,
  zo_aload 0 134,
  zo_iload 3 135,
  zo_callv zzSR (zz_cl [(10, fX12_isGoneThere)]) 1 138,
  zo_none,
  zo_none,
  zo_if (fun x => decide (¬ x = 0)) 162 141,
  zo_none,
  zo_none,
  zo_aload 0 142,
  zo_iload 3 143,
  zo_pushI 14 145,
  zo_none,
  zo_callv zzSR (zz_cl [(10, fX12_viewed)]) 2 148,
  zo_none,
  zo_none,
  zo_if (fun x => decide (x = 0)) 162 151,
  zo_none,
  zo_none,
  zo_aload 0 152,
  zo_iload 3 153,
  zo_pushI 9 155,
  zo_none,
  zo_callv zzSR (zz_cl [(10, fX12_viewed)]) 2 158,
  zo_none,
  zo_none,
  zo_pushI 1 159,
  zo_icmp (fun x y => decide (¬ x = y)) 166 162,
  zo_none,
  zo_none,
  zo_pushI 1 163,
  zo_goto 167,
  zo_none,
  zo_none,
  zo_pushI 0 167,
  zo_istore 5 169,
  zo_none,
  zo_iload 5 171,
  zo_none,
  zo_if (fun x => decide (x = 0)) 206 174,
  zo_none,
  zo_none,
  zo_iload 4 176,
  zo_none,
  zo_pushI 1 177,
  zo_icmp (fun x y => decide (y < x)) 206 180,
  zo_none,
  zo_none,
  zo_aload 0 181,
  zo_aload 0 182,
  zo_getf zzSR (zz_kf [10] 43) 185,
  zo_none,
  zo_none,
  zo_aload 0 186,
  zo_lload 1 187,
  zo_pushI 16 189,
  zo_none,
  zo_pushI 3 190,
  zo_callv zzSR (zz_cl [(10, fX12_with)]) 3 193,
  zo_none,
  zo_none,
  zo_aload 0 194,
  zo_getf zzSR (zz_kf [10] 8) 197,
  zo_none,
  zo_none,
  zo_aload 0 198,
  zo_getf zzSR (zz_kf [10] 43) 201,
  zo_none,
  zo_none,
  zo_lald zzSR 202,
  zo_callv zzSR (zz_cl [(10, fX12_writesIt)]) 3 205,
  zo_none,
  zo_none,
  zo_iret true,
  zo_iload 4 208,
  zo_none,
  zo_if (fun x => decide (x = 0)) 213 211,
  zo_none,
  zo_none,
  zo_pushI 1 212,
  zo_iret true,
  zo_aload 0 214,
  zo_iload 3 215,
  zo_pushI 7 217,
  zo_none,
  zo_callv zzSR (zz_cl [(10, fX12_viewed)]) 2 220,
  zo_none,
  zo_none,
  zo_aload 0 221,
  zo_aload 0 222,
  zo_getf zzSR (zz_kf [10] 43) 225,
  zo_none,
  zo_none,
  zo_pushI 1 226,
  zo_callv zzSR (zz_cl [(10, fX12_viewed)]) 2 229,
  zo_none,
  zo_none,
  zo_calls fX12_need 1 232,
  zo_none,
  zo_none,
  zo_aload 0 233,
  zo_iload 3 234,
  zo_pushI 1 235,
  zo_callv zzSR (zz_cl [(10, fX12_used)]) 2 238,
  zo_none,
  zo_none,
  zo_ii (fun x y => x + y) 239,
  zo_icmp (fun x y => decide (x < y)) 246 242,
  zo_none,
  zo_none,
  zo_pushI 1 243,
  zo_goto 247,
  zo_none,
  zo_none,
  zo_pushI 0 247,
  zo_istore 6 249,
  zo_none,
  zo_aload 0 250,
  zo_aload 0 251,
  zo_getf zzSR (zz_kf [10] 43) 254,
  zo_none,
  zo_none,
  zo_aload 0 255,
  zo_lload 1 256,
  zo_pushI 16 258,
  zo_none,
  zo_iload 6 260,
  zo_none,
  zo_if (fun x => decide (x = 0)) 267 263,
  zo_none,
  zo_none,
  zo_pushI 1 264,
  zo_goto 268,
  zo_none,
  zo_none,
  zo_pushI 3 268,
  zo_callv zzSR (zz_cl [(10, fX12_with)]) 3 271,
  zo_none,
  zo_none,
  zo_aload 0 272,
  zo_getf zzSR (zz_kf [10] 8) 275,
  zo_none,
  zo_none,
  zo_aload 0 276,
  zo_getf zzSR (zz_kf [10] 43) 279,
  zo_none,
  zo_none,
  zo_lald zzSR 280,
  zo_callv zzSR (zz_cl [(10, fX12_writesIt)]) 3 283,
  zo_none,
  zo_none,
  zo_iret true]
set_option maxRecDepth 100000 in
theorem tl_X12_runs : ∀ pc, zz_Tl (tX12_runs.getD pc zo_none) := by
  refine zz_Tl_mem ?_
  unfold tX12_runs
  refine List.forall_mem_cons.mpr ⟨(zo_aload_tl _ _), ?_⟩
  refine List.forall_mem_cons.mpr ⟨(zo_aload_tl _ _), ?_⟩
  refine List.forall_mem_cons.mpr ⟨(zo_getf_tl _ _ _), ?_⟩
  refine List.forall_mem_cons.mpr ⟨zo_none_tl, ?_⟩
  refine List.forall_mem_cons.mpr ⟨zo_none_tl, ?_⟩
  refine List.forall_mem_cons.mpr ⟨(zo_callv_tl _ _ _ _), ?_⟩
  refine List.forall_mem_cons.mpr ⟨zo_none_tl, ?_⟩
  refine List.forall_mem_cons.mpr ⟨zo_none_tl, ?_⟩
  refine List.forall_mem_cons.mpr ⟨(zo_if_tl _ _ _), ?_⟩
  refine List.forall_mem_cons.mpr ⟨zo_none_tl, ?_⟩
  refine List.forall_mem_cons.mpr ⟨zo_none_tl, ?_⟩
  refine List.forall_mem_cons.mpr ⟨(zo_aload_tl _ _), ?_⟩
  refine List.forall_mem_cons.mpr ⟨(zo_getf_tl _ _ _), ?_⟩
  refine List.forall_mem_cons.mpr ⟨zo_none_tl, ?_⟩
  refine List.forall_mem_cons.mpr ⟨zo_none_tl, ?_⟩
  refine List.forall_mem_cons.mpr ⟨(zo_aload_tl _ _), ?_⟩
  refine List.forall_mem_cons.mpr ⟨(zo_getf_tl _ _ _), ?_⟩
  refine List.forall_mem_cons.mpr ⟨zo_none_tl, ?_⟩
  refine List.forall_mem_cons.mpr ⟨zo_none_tl, ?_⟩
  refine List.forall_mem_cons.mpr ⟨(zo_iald_tl _ _ _), ?_⟩
  refine List.forall_mem_cons.mpr ⟨(zo_pushI_tl _ _), ?_⟩
  refine List.forall_mem_cons.mpr ⟨(zo_icmp_tl _ _ _), ?_⟩
  refine List.forall_mem_cons.mpr ⟨zo_none_tl, ?_⟩
  refine List.forall_mem_cons.mpr ⟨zo_none_tl, ?_⟩
  refine List.forall_mem_cons.mpr ⟨(zo_aload_tl _ _), ?_⟩
  refine List.forall_mem_cons.mpr ⟨(zo_aload_tl _ _), ?_⟩
  refine List.forall_mem_cons.mpr ⟨(zo_getf_tl _ _ _), ?_⟩
  refine List.forall_mem_cons.mpr ⟨zo_none_tl, ?_⟩
  refine List.forall_mem_cons.mpr ⟨zo_none_tl, ?_⟩
  refine List.forall_mem_cons.mpr ⟨(zo_pushI_tl _ _), ?_⟩
  refine List.forall_mem_cons.mpr ⟨zo_none_tl, ?_⟩
  refine List.forall_mem_cons.mpr ⟨(zo_callv_tl _ _ _ _), ?_⟩
  refine List.forall_mem_cons.mpr ⟨zo_none_tl, ?_⟩
  refine List.forall_mem_cons.mpr ⟨zo_none_tl, ?_⟩
  refine List.forall_mem_cons.mpr ⟨(zo_if_tl _ _ _), ?_⟩
  refine List.forall_mem_cons.mpr ⟨zo_none_tl, ?_⟩
  refine List.forall_mem_cons.mpr ⟨zo_none_tl, ?_⟩
  refine List.forall_mem_cons.mpr ⟨(zo_pushI_tl _ _), ?_⟩
  refine List.forall_mem_cons.mpr ⟨(zo_iret_tl _), ?_⟩
  refine List.forall_mem_cons.mpr ⟨(zo_aload_tl _ _), ?_⟩
  refine List.forall_mem_cons.mpr ⟨(zo_getf_tl _ _ _), ?_⟩
  refine List.forall_mem_cons.mpr ⟨zo_none_tl, ?_⟩
  refine List.forall_mem_cons.mpr ⟨zo_none_tl, ?_⟩
  refine List.forall_mem_cons.mpr ⟨(zo_aload_tl _ _), ?_⟩
  refine List.forall_mem_cons.mpr ⟨(zo_getf_tl _ _ _), ?_⟩
  refine List.forall_mem_cons.mpr ⟨zo_none_tl, ?_⟩
  refine List.forall_mem_cons.mpr ⟨zo_none_tl, ?_⟩
  refine List.forall_mem_cons.mpr ⟨(zo_lald_tl _ _), ?_⟩
  refine List.forall_mem_cons.mpr ⟨(zo_lstore_tl _ _), ?_⟩
  refine List.forall_mem_cons.mpr ⟨(zo_aload_tl _ _), ?_⟩
  refine List.forall_mem_cons.mpr ⟨(zo_aload_tl _ _), ?_⟩
  refine List.forall_mem_cons.mpr ⟨(zo_getf_tl _ _ _), ?_⟩
  refine List.forall_mem_cons.mpr ⟨zo_none_tl, ?_⟩
  refine List.forall_mem_cons.mpr ⟨zo_none_tl, ?_⟩
  refine List.forall_mem_cons.mpr ⟨(zo_pushI_tl _ _), ?_⟩
  refine List.forall_mem_cons.mpr ⟨zo_none_tl, ?_⟩
  refine List.forall_mem_cons.mpr ⟨(zo_callv_tl _ _ _ _), ?_⟩
  refine List.forall_mem_cons.mpr ⟨zo_none_tl, ?_⟩
  refine List.forall_mem_cons.mpr ⟨zo_none_tl, ?_⟩
  refine List.forall_mem_cons.mpr ⟨(zo_pushI_tl _ _), ?_⟩
  refine List.forall_mem_cons.mpr ⟨(zo_ii_tl _ _), ?_⟩
  refine List.forall_mem_cons.mpr ⟨(zo_istore_tl _ _), ?_⟩
  refine List.forall_mem_cons.mpr ⟨(zo_aload_tl _ _), ?_⟩
  refine List.forall_mem_cons.mpr ⟨(zo_aload_tl _ _), ?_⟩
  refine List.forall_mem_cons.mpr ⟨(zo_getf_tl _ _ _), ?_⟩
  refine List.forall_mem_cons.mpr ⟨zo_none_tl, ?_⟩
  refine List.forall_mem_cons.mpr ⟨zo_none_tl, ?_⟩
  refine List.forall_mem_cons.mpr ⟨(zo_pushI_tl _ _), ?_⟩
  refine List.forall_mem_cons.mpr ⟨zo_none_tl, ?_⟩
  refine List.forall_mem_cons.mpr ⟨(zo_callv_tl _ _ _ _), ?_⟩
  refine List.forall_mem_cons.mpr ⟨zo_none_tl, ?_⟩
  refine List.forall_mem_cons.mpr ⟨zo_none_tl, ?_⟩
  refine List.forall_mem_cons.mpr ⟨(zo_istore_tl _ _), ?_⟩
  refine List.forall_mem_cons.mpr ⟨zo_none_tl, ?_⟩
  refine List.forall_mem_cons.mpr ⟨(zo_aload_tl _ _), ?_⟩
  refine List.forall_mem_cons.mpr ⟨(zo_aload_tl _ _), ?_⟩
  refine List.forall_mem_cons.mpr ⟨(zo_getf_tl _ _ _), ?_⟩
  refine List.forall_mem_cons.mpr ⟨zo_none_tl, ?_⟩
  refine List.forall_mem_cons.mpr ⟨zo_none_tl, ?_⟩
  refine List.forall_mem_cons.mpr ⟨(zo_pushI_tl _ _), ?_⟩
  refine List.forall_mem_cons.mpr ⟨zo_none_tl, ?_⟩
  refine List.forall_mem_cons.mpr ⟨(zo_callv_tl _ _ _ _), ?_⟩
  refine List.forall_mem_cons.mpr ⟨zo_none_tl, ?_⟩
  refine List.forall_mem_cons.mpr ⟨zo_none_tl, ?_⟩
  refine List.forall_mem_cons.mpr ⟨(zo_if_tl _ _ _), ?_⟩
  refine List.forall_mem_cons.mpr ⟨zo_none_tl, ?_⟩
  refine List.forall_mem_cons.mpr ⟨zo_none_tl, ?_⟩
  refine List.forall_mem_cons.mpr ⟨(zo_aload_tl _ _), ?_⟩
  refine List.forall_mem_cons.mpr ⟨(zo_lload_tl _ _), ?_⟩
  refine List.forall_mem_cons.mpr ⟨(zo_pushI_tl _ _), ?_⟩
  refine List.forall_mem_cons.mpr ⟨zo_none_tl, ?_⟩
  refine List.forall_mem_cons.mpr ⟨(zo_pushI_tl _ _), ?_⟩
  refine List.forall_mem_cons.mpr ⟨(zo_callv_tl _ _ _ _), ?_⟩
  refine List.forall_mem_cons.mpr ⟨zo_none_tl, ?_⟩
  refine List.forall_mem_cons.mpr ⟨zo_none_tl, ?_⟩
  refine List.forall_mem_cons.mpr ⟨(zo_lstore_tl _ _), ?_⟩
  refine List.forall_mem_cons.mpr ⟨(zo_aload_tl _ _), ?_⟩
  refine List.forall_mem_cons.mpr ⟨(zo_aload_tl _ _), ?_⟩
  refine List.forall_mem_cons.mpr ⟨(zo_getf_tl _ _ _), ?_⟩
  refine List.forall_mem_cons.mpr ⟨zo_none_tl, ?_⟩
  refine List.forall_mem_cons.mpr ⟨zo_none_tl, ?_⟩
  refine List.forall_mem_cons.mpr ⟨(zo_aload_tl _ _), ?_⟩
  refine List.forall_mem_cons.mpr ⟨(zo_lload_tl _ _), ?_⟩
  refine List.forall_mem_cons.mpr ⟨(zo_pushI_tl _ _), ?_⟩
  refine List.forall_mem_cons.mpr ⟨zo_none_tl, ?_⟩
  refine List.forall_mem_cons.mpr ⟨(zo_callv_tl _ _ _ _), ?_⟩
  refine List.forall_mem_cons.mpr ⟨zo_none_tl, ?_⟩
  refine List.forall_mem_cons.mpr ⟨zo_none_tl, ?_⟩
  refine List.forall_mem_cons.mpr ⟨(zo_if_tl _ _ _), ?_⟩
  refine List.forall_mem_cons.mpr ⟨zo_none_tl, ?_⟩
  refine List.forall_mem_cons.mpr ⟨zo_none_tl, ?_⟩
  refine List.forall_mem_cons.mpr ⟨(zo_aload_tl _ _), ?_⟩
  refine List.forall_mem_cons.mpr ⟨(zo_lload_tl _ _), ?_⟩
  refine List.forall_mem_cons.mpr ⟨(zo_callv_tl _ _ _ _), ?_⟩
  refine List.forall_mem_cons.mpr ⟨zo_none_tl, ?_⟩
  refine List.forall_mem_cons.mpr ⟨zo_none_tl, ?_⟩
  refine List.forall_mem_cons.mpr ⟨(zo_goto_tl _), ?_⟩
  refine List.forall_mem_cons.mpr ⟨zo_none_tl, ?_⟩
  refine List.forall_mem_cons.mpr ⟨zo_none_tl, ?_⟩
  refine List.forall_mem_cons.mpr ⟨(zo_lload_tl _ _), ?_⟩
  refine List.forall_mem_cons.mpr ⟨(zo_aload_tl _ _), ?_⟩
  refine List.forall_mem_cons.mpr ⟨(zo_getf_tl _ _ _), ?_⟩
  refine List.forall_mem_cons.mpr ⟨zo_none_tl, ?_⟩
  refine List.forall_mem_cons.mpr ⟨zo_none_tl, ?_⟩
  refine List.forall_mem_cons.mpr ⟨(zo_aload_tl _ _), ?_⟩
  refine List.forall_mem_cons.mpr ⟨(zo_getf_tl _ _ _), ?_⟩
  refine List.forall_mem_cons.mpr ⟨zo_none_tl, ?_⟩
  refine List.forall_mem_cons.mpr ⟨zo_none_tl, ?_⟩
  refine List.forall_mem_cons.mpr ⟨(zo_lald_tl _ _), ?_⟩
  refine List.forall_mem_cons.mpr ⟨(zo_callv_tl _ _ _ _), ?_⟩
  refine List.forall_mem_cons.mpr ⟨zo_none_tl, ?_⟩
  refine List.forall_mem_cons.mpr ⟨zo_none_tl, ?_⟩
  refine List.forall_mem_cons.mpr ⟨(zo_iret_tl _), ?_⟩
  refine List.forall_mem_cons.mpr ⟨(zo_aload_tl _ _), ?_⟩
  refine List.forall_mem_cons.mpr ⟨(zo_iload_tl _ _), ?_⟩
  refine List.forall_mem_cons.mpr ⟨(zo_callv_tl _ _ _ _), ?_⟩
  refine List.forall_mem_cons.mpr ⟨zo_none_tl, ?_⟩
  refine List.forall_mem_cons.mpr ⟨zo_none_tl, ?_⟩
  refine List.forall_mem_cons.mpr ⟨(zo_if_tl _ _ _), ?_⟩
  refine List.forall_mem_cons.mpr ⟨zo_none_tl, ?_⟩
  refine List.forall_mem_cons.mpr ⟨zo_none_tl, ?_⟩
  refine List.forall_mem_cons.mpr ⟨(zo_aload_tl _ _), ?_⟩
  refine List.forall_mem_cons.mpr ⟨(zo_iload_tl _ _), ?_⟩
  refine List.forall_mem_cons.mpr ⟨(zo_pushI_tl _ _), ?_⟩
  refine List.forall_mem_cons.mpr ⟨zo_none_tl, ?_⟩
  refine List.forall_mem_cons.mpr ⟨(zo_callv_tl _ _ _ _), ?_⟩
  refine List.forall_mem_cons.mpr ⟨zo_none_tl, ?_⟩
  refine List.forall_mem_cons.mpr ⟨zo_none_tl, ?_⟩
  refine List.forall_mem_cons.mpr ⟨(zo_if_tl _ _ _), ?_⟩
  refine List.forall_mem_cons.mpr ⟨zo_none_tl, ?_⟩
  refine List.forall_mem_cons.mpr ⟨zo_none_tl, ?_⟩
  refine List.forall_mem_cons.mpr ⟨(zo_aload_tl _ _), ?_⟩
  refine List.forall_mem_cons.mpr ⟨(zo_iload_tl _ _), ?_⟩
  refine List.forall_mem_cons.mpr ⟨(zo_pushI_tl _ _), ?_⟩
  refine List.forall_mem_cons.mpr ⟨zo_none_tl, ?_⟩
  refine List.forall_mem_cons.mpr ⟨(zo_callv_tl _ _ _ _), ?_⟩
  refine List.forall_mem_cons.mpr ⟨zo_none_tl, ?_⟩
  refine List.forall_mem_cons.mpr ⟨zo_none_tl, ?_⟩
  refine List.forall_mem_cons.mpr ⟨(zo_pushI_tl _ _), ?_⟩
  refine List.forall_mem_cons.mpr ⟨(zo_icmp_tl _ _ _), ?_⟩
  refine List.forall_mem_cons.mpr ⟨zo_none_tl, ?_⟩
  refine List.forall_mem_cons.mpr ⟨zo_none_tl, ?_⟩
  refine List.forall_mem_cons.mpr ⟨(zo_pushI_tl _ _), ?_⟩
  refine List.forall_mem_cons.mpr ⟨(zo_goto_tl _), ?_⟩
  refine List.forall_mem_cons.mpr ⟨zo_none_tl, ?_⟩
  refine List.forall_mem_cons.mpr ⟨zo_none_tl, ?_⟩
  refine List.forall_mem_cons.mpr ⟨(zo_pushI_tl _ _), ?_⟩
  refine List.forall_mem_cons.mpr ⟨(zo_istore_tl _ _), ?_⟩
  refine List.forall_mem_cons.mpr ⟨zo_none_tl, ?_⟩
  refine List.forall_mem_cons.mpr ⟨(zo_iload_tl _ _), ?_⟩
  refine List.forall_mem_cons.mpr ⟨zo_none_tl, ?_⟩
  refine List.forall_mem_cons.mpr ⟨(zo_if_tl _ _ _), ?_⟩
  refine List.forall_mem_cons.mpr ⟨zo_none_tl, ?_⟩
  refine List.forall_mem_cons.mpr ⟨zo_none_tl, ?_⟩
  refine List.forall_mem_cons.mpr ⟨(zo_iload_tl _ _), ?_⟩
  refine List.forall_mem_cons.mpr ⟨zo_none_tl, ?_⟩
  refine List.forall_mem_cons.mpr ⟨(zo_pushI_tl _ _), ?_⟩
  refine List.forall_mem_cons.mpr ⟨(zo_icmp_tl _ _ _), ?_⟩
  refine List.forall_mem_cons.mpr ⟨zo_none_tl, ?_⟩
  refine List.forall_mem_cons.mpr ⟨zo_none_tl, ?_⟩
  refine List.forall_mem_cons.mpr ⟨(zo_aload_tl _ _), ?_⟩
  refine List.forall_mem_cons.mpr ⟨(zo_aload_tl _ _), ?_⟩
  refine List.forall_mem_cons.mpr ⟨(zo_getf_tl _ _ _), ?_⟩
  refine List.forall_mem_cons.mpr ⟨zo_none_tl, ?_⟩
  refine List.forall_mem_cons.mpr ⟨zo_none_tl, ?_⟩
  refine List.forall_mem_cons.mpr ⟨(zo_aload_tl _ _), ?_⟩
  refine List.forall_mem_cons.mpr ⟨(zo_lload_tl _ _), ?_⟩
  refine List.forall_mem_cons.mpr ⟨(zo_pushI_tl _ _), ?_⟩
  refine List.forall_mem_cons.mpr ⟨zo_none_tl, ?_⟩
  refine List.forall_mem_cons.mpr ⟨(zo_pushI_tl _ _), ?_⟩
  refine List.forall_mem_cons.mpr ⟨(zo_callv_tl _ _ _ _), ?_⟩
  refine List.forall_mem_cons.mpr ⟨zo_none_tl, ?_⟩
  refine List.forall_mem_cons.mpr ⟨zo_none_tl, ?_⟩
  refine List.forall_mem_cons.mpr ⟨(zo_aload_tl _ _), ?_⟩
  refine List.forall_mem_cons.mpr ⟨(zo_getf_tl _ _ _), ?_⟩
  refine List.forall_mem_cons.mpr ⟨zo_none_tl, ?_⟩
  refine List.forall_mem_cons.mpr ⟨zo_none_tl, ?_⟩
  refine List.forall_mem_cons.mpr ⟨(zo_aload_tl _ _), ?_⟩
  refine List.forall_mem_cons.mpr ⟨(zo_getf_tl _ _ _), ?_⟩
  refine List.forall_mem_cons.mpr ⟨zo_none_tl, ?_⟩
  refine List.forall_mem_cons.mpr ⟨zo_none_tl, ?_⟩
  refine List.forall_mem_cons.mpr ⟨(zo_lald_tl _ _), ?_⟩
  refine List.forall_mem_cons.mpr ⟨(zo_callv_tl _ _ _ _), ?_⟩
  refine List.forall_mem_cons.mpr ⟨zo_none_tl, ?_⟩
  refine List.forall_mem_cons.mpr ⟨zo_none_tl, ?_⟩
  refine List.forall_mem_cons.mpr ⟨(zo_iret_tl _), ?_⟩
  refine List.forall_mem_cons.mpr ⟨(zo_iload_tl _ _), ?_⟩
  refine List.forall_mem_cons.mpr ⟨zo_none_tl, ?_⟩
  refine List.forall_mem_cons.mpr ⟨(zo_if_tl _ _ _), ?_⟩
  refine List.forall_mem_cons.mpr ⟨zo_none_tl, ?_⟩
  refine List.forall_mem_cons.mpr ⟨zo_none_tl, ?_⟩
  refine List.forall_mem_cons.mpr ⟨(zo_pushI_tl _ _), ?_⟩
  refine List.forall_mem_cons.mpr ⟨(zo_iret_tl _), ?_⟩
  refine List.forall_mem_cons.mpr ⟨(zo_aload_tl _ _), ?_⟩
  refine List.forall_mem_cons.mpr ⟨(zo_iload_tl _ _), ?_⟩
  refine List.forall_mem_cons.mpr ⟨(zo_pushI_tl _ _), ?_⟩
  refine List.forall_mem_cons.mpr ⟨zo_none_tl, ?_⟩
  refine List.forall_mem_cons.mpr ⟨(zo_callv_tl _ _ _ _), ?_⟩
  refine List.forall_mem_cons.mpr ⟨zo_none_tl, ?_⟩
  refine List.forall_mem_cons.mpr ⟨zo_none_tl, ?_⟩
  refine List.forall_mem_cons.mpr ⟨(zo_aload_tl _ _), ?_⟩
  refine List.forall_mem_cons.mpr ⟨(zo_aload_tl _ _), ?_⟩
  refine List.forall_mem_cons.mpr ⟨(zo_getf_tl _ _ _), ?_⟩
  refine List.forall_mem_cons.mpr ⟨zo_none_tl, ?_⟩
  refine List.forall_mem_cons.mpr ⟨zo_none_tl, ?_⟩
  refine List.forall_mem_cons.mpr ⟨(zo_pushI_tl _ _), ?_⟩
  refine List.forall_mem_cons.mpr ⟨(zo_callv_tl _ _ _ _), ?_⟩
  refine List.forall_mem_cons.mpr ⟨zo_none_tl, ?_⟩
  refine List.forall_mem_cons.mpr ⟨zo_none_tl, ?_⟩
  refine List.forall_mem_cons.mpr ⟨(zo_calls_tl _ _ _), ?_⟩
  refine List.forall_mem_cons.mpr ⟨zo_none_tl, ?_⟩
  refine List.forall_mem_cons.mpr ⟨zo_none_tl, ?_⟩
  refine List.forall_mem_cons.mpr ⟨(zo_aload_tl _ _), ?_⟩
  refine List.forall_mem_cons.mpr ⟨(zo_iload_tl _ _), ?_⟩
  refine List.forall_mem_cons.mpr ⟨(zo_pushI_tl _ _), ?_⟩
  refine List.forall_mem_cons.mpr ⟨(zo_callv_tl _ _ _ _), ?_⟩
  refine List.forall_mem_cons.mpr ⟨zo_none_tl, ?_⟩
  refine List.forall_mem_cons.mpr ⟨zo_none_tl, ?_⟩
  refine List.forall_mem_cons.mpr ⟨(zo_ii_tl _ _), ?_⟩
  refine List.forall_mem_cons.mpr ⟨(zo_icmp_tl _ _ _), ?_⟩
  refine List.forall_mem_cons.mpr ⟨zo_none_tl, ?_⟩
  refine List.forall_mem_cons.mpr ⟨zo_none_tl, ?_⟩
  refine List.forall_mem_cons.mpr ⟨(zo_pushI_tl _ _), ?_⟩
  refine List.forall_mem_cons.mpr ⟨(zo_goto_tl _), ?_⟩
  refine List.forall_mem_cons.mpr ⟨zo_none_tl, ?_⟩
  refine List.forall_mem_cons.mpr ⟨zo_none_tl, ?_⟩
  refine List.forall_mem_cons.mpr ⟨(zo_pushI_tl _ _), ?_⟩
  refine List.forall_mem_cons.mpr ⟨(zo_istore_tl _ _), ?_⟩
  refine List.forall_mem_cons.mpr ⟨zo_none_tl, ?_⟩
  refine List.forall_mem_cons.mpr ⟨(zo_aload_tl _ _), ?_⟩
  refine List.forall_mem_cons.mpr ⟨(zo_aload_tl _ _), ?_⟩
  refine List.forall_mem_cons.mpr ⟨(zo_getf_tl _ _ _), ?_⟩
  refine List.forall_mem_cons.mpr ⟨zo_none_tl, ?_⟩
  refine List.forall_mem_cons.mpr ⟨zo_none_tl, ?_⟩
  refine List.forall_mem_cons.mpr ⟨(zo_aload_tl _ _), ?_⟩
  refine List.forall_mem_cons.mpr ⟨(zo_lload_tl _ _), ?_⟩
  refine List.forall_mem_cons.mpr ⟨(zo_pushI_tl _ _), ?_⟩
  refine List.forall_mem_cons.mpr ⟨zo_none_tl, ?_⟩
  refine List.forall_mem_cons.mpr ⟨(zo_iload_tl _ _), ?_⟩
  refine List.forall_mem_cons.mpr ⟨zo_none_tl, ?_⟩
  refine List.forall_mem_cons.mpr ⟨(zo_if_tl _ _ _), ?_⟩
  refine List.forall_mem_cons.mpr ⟨zo_none_tl, ?_⟩
  refine List.forall_mem_cons.mpr ⟨zo_none_tl, ?_⟩
  refine List.forall_mem_cons.mpr ⟨(zo_pushI_tl _ _), ?_⟩
  refine List.forall_mem_cons.mpr ⟨(zo_goto_tl _), ?_⟩
  refine List.forall_mem_cons.mpr ⟨zo_none_tl, ?_⟩
  refine List.forall_mem_cons.mpr ⟨zo_none_tl, ?_⟩
  refine List.forall_mem_cons.mpr ⟨(zo_pushI_tl _ _), ?_⟩
  refine List.forall_mem_cons.mpr ⟨(zo_callv_tl _ _ _ _), ?_⟩
  refine List.forall_mem_cons.mpr ⟨zo_none_tl, ?_⟩
  refine List.forall_mem_cons.mpr ⟨zo_none_tl, ?_⟩
  refine List.forall_mem_cons.mpr ⟨(zo_aload_tl _ _), ?_⟩
  refine List.forall_mem_cons.mpr ⟨(zo_getf_tl _ _ _), ?_⟩
  refine List.forall_mem_cons.mpr ⟨zo_none_tl, ?_⟩
  refine List.forall_mem_cons.mpr ⟨zo_none_tl, ?_⟩
  refine List.forall_mem_cons.mpr ⟨(zo_aload_tl _ _), ?_⟩
  refine List.forall_mem_cons.mpr ⟨(zo_getf_tl _ _ _), ?_⟩
  refine List.forall_mem_cons.mpr ⟨zo_none_tl, ?_⟩
  refine List.forall_mem_cons.mpr ⟨zo_none_tl, ?_⟩
  refine List.forall_mem_cons.mpr ⟨(zo_lald_tl _ _), ?_⟩
  refine List.forall_mem_cons.mpr ⟨(zo_callv_tl _ _ _ _), ?_⟩
  refine List.forall_mem_cons.mpr ⟨zo_none_tl, ?_⟩
  refine List.forall_mem_cons.mpr ⟨zo_none_tl, ?_⟩
  refine List.forall_mem_cons.mpr ⟨(zo_iret_tl _), ?_⟩
  exact fun _ h => absurd h List.not_mem_nil
noncomputable def fX12_runs : zzFn := zz_fn tX12_runs 7
set_option maxRecDepth 100000 in
set_option maxHeartbeats 4000000 in
theorem mm_X12_runs {l : Launch} {D : va_G} {cA : Nat → ClassId} {ad : Nat → Nat} {Ex : (Nat → Prop) → State → Heap → Prop} (Wd : zzWR l D cA ad Ex) : zz_Cn l D zzCl cA ad zzSR Ex yX12_runs cX12_runs 7 (some .boolean) 4 92 fX12_runs ∧ zz_Cx l D zzCl cA ad zzSR Ex yX12_runs cX12_runs 7 (some .boolean) 4 92 fX12_runs := by
  refine zz_meth (plainFor_of_name (by decide)) Wd.1 Wd.2.1 Wd.2.2 (fun p e R s m args below meth c rr X => ?_)
  unfold tX12_runs
  refine zz_cons (k' := 1) rfl (zk_aload_n X dX12_runs_0 rfl rfl) ?_
  refine zz_cons (k' := 2) rfl (zk_aload_n X dX12_runs_1 rfl rfl) ?_
  refine zz_cons (k' := 3) rfl (zk_getf X ff_X12_243 dX12_runs_2 rfl) ?_
  refine zz_cons (k' := 4) rfl (zz_Ok_none _ _) ?_
  refine zz_cons (k' := 5) rfl (zz_Ok_none _ _) ?_
  refine zz_cons (k' := 6) rfl (zk_callv X (zz_Cv_of (List.forall_mem_cons.mpr ⟨⟨(RX_10, zzT10, 50), yX12_isGoneThere, cX12_isGoneThere, 2, (some .boolean), 2, 45, rfl, kv_X12_211_10.1, (mm_X12_isGoneThere Wd).1, by decide, by decide⟩, (fun _ h => absurd h List.not_mem_nil)⟩)) dX12_runs_5 rfl) ?_
  refine zz_cons (k' := 7) rfl (zz_Ok_none _ _) ?_
  refine zz_cons (k' := 8) rfl (zz_Ok_none _ _) ?_
  refine zz_cons (k' := 9) rfl (zk_if_ne X dX12_runs_8 (by decide) rfl) ?_
  refine zz_cons (k' := 10) rfl (zz_Ok_none _ _) ?_
  refine zz_cons (k' := 11) rfl (zz_Ok_none _ _) ?_
  refine zz_cons (k' := 12) rfl (zk_aload_n X dX12_runs_11 rfl rfl) ?_
  refine zz_cons (k' := 13) rfl (zk_getf X ff_X12_25 dX12_runs_12 rfl) ?_
  refine zz_cons (k' := 14) rfl (zz_Ok_none _ _) ?_
  refine zz_cons (k' := 15) rfl (zz_Ok_none _ _) ?_
  refine zz_cons (k' := 16) rfl (zk_aload_n X dX12_runs_15 rfl rfl) ?_
  refine zz_cons (k' := 17) rfl (zk_getf X ff_X12_243 dX12_runs_16 rfl) ?_
  refine zz_cons (k' := 18) rfl (zz_Ok_none _ _) ?_
  refine zz_cons (k' := 19) rfl (zz_Ok_none _ _) ?_
  refine zz_cons (k' := 20) rfl (zk_iald X (zzWR_st Wd) dX12_runs_19 rfl) ?_
  refine zz_cons (k' := 21) rfl (zk_iconst X dX12_runs_20 (by decide) rfl) ?_
  refine zz_cons (k' := 22) rfl (zk_icmp_ne X dX12_runs_21 (by decide) rfl) ?_
  refine zz_cons (k' := 23) rfl (zz_Ok_none _ _) ?_
  refine zz_cons (k' := 24) rfl (zz_Ok_none _ _) ?_
  refine zz_cons (k' := 25) rfl (zk_aload_n X dX12_runs_24 rfl rfl) ?_
  refine zz_cons (k' := 26) rfl (zk_aload_n X dX12_runs_25 rfl rfl) ?_
  refine zz_cons (k' := 27) rfl (zk_getf X ff_X12_243 dX12_runs_26 rfl) ?_
  refine zz_cons (k' := 28) rfl (zz_Ok_none _ _) ?_
  refine zz_cons (k' := 29) rfl (zz_Ok_none _ _) ?_
  refine zz_cons (k' := 30) rfl (zk_bipush X dX12_runs_29 (by decide) rfl) ?_
  refine zz_cons (k' := 31) rfl (zz_Ok_none _ _) ?_
  refine zz_cons (k' := 32) rfl (zk_callv X (zz_Cv_of (List.forall_mem_cons.mpr ⟨⟨(RX_10, zzT10, 50), yX12_viewed, cX12_viewed, 3, (some .int), 1, 23, rfl, kv_X12_204_10.1, (mm_X12_viewed Wd).1, by decide, by decide⟩, (fun _ h => absurd h List.not_mem_nil)⟩)) dX12_runs_31 rfl) ?_
  refine zz_cons (k' := 33) rfl (zz_Ok_none _ _) ?_
  refine zz_cons (k' := 34) rfl (zz_Ok_none _ _) ?_
  refine zz_cons (k' := 35) rfl (zk_if_ne X dX12_runs_34 (by decide) rfl) ?_
  refine zz_cons (k' := 36) rfl (zz_Ok_none _ _) ?_
  refine zz_cons (k' := 37) rfl (zz_Ok_none _ _) ?_
  refine zz_cons (k' := 38) rfl (zk_iconst X dX12_runs_37 (by decide) rfl) ?_
  refine zz_cons (k' := 39) rfl (zk_iret X rfl dX12_runs_38) ?_
  refine zz_cons (k' := 40) rfl (zk_aload_n X dX12_runs_39 rfl rfl) ?_
  refine zz_cons (k' := 41) rfl (zk_getf X ff_X12_28 dX12_runs_40 rfl) ?_
  refine zz_cons (k' := 42) rfl (zz_Ok_none _ _) ?_
  refine zz_cons (k' := 43) rfl (zz_Ok_none _ _) ?_
  refine zz_cons (k' := 44) rfl (zk_aload_n X dX12_runs_43 rfl rfl) ?_
  refine zz_cons (k' := 45) rfl (zk_getf X ff_X12_243 dX12_runs_44 rfl) ?_
  refine zz_cons (k' := 46) rfl (zz_Ok_none _ _) ?_
  refine zz_cons (k' := 47) rfl (zz_Ok_none _ _) ?_
  refine zz_cons (k' := 48) rfl (zk_lald X dX12_runs_47 rfl) ?_
  refine zz_cons (k' := 49) rfl (zk_lstore_n X dX12_runs_48 rfl (by decide) rfl) ?_
  refine zz_cons (k' := 50) rfl (zk_aload_n X dX12_runs_49 rfl rfl) ?_
  refine zz_cons (k' := 51) rfl (zk_aload_n X dX12_runs_50 rfl rfl) ?_
  refine zz_cons (k' := 52) rfl (zk_getf X ff_X12_243 dX12_runs_51 rfl) ?_
  refine zz_cons (k' := 53) rfl (zz_Ok_none _ _) ?_
  refine zz_cons (k' := 54) rfl (zz_Ok_none _ _) ?_
  refine zz_cons (k' := 55) rfl (zk_bipush X dX12_runs_54 (by decide) rfl) ?_
  refine zz_cons (k' := 56) rfl (zz_Ok_none _ _) ?_
  refine zz_cons (k' := 57) rfl (zk_callv X (zz_Cv_of (List.forall_mem_cons.mpr ⟨⟨(RX_10, zzT10, 50), yX12_viewed, cX12_viewed, 3, (some .int), 1, 23, rfl, kv_X12_204_10.1, (mm_X12_viewed Wd).1, by decide, by decide⟩, (fun _ h => absurd h List.not_mem_nil)⟩)) dX12_runs_56 rfl) ?_
  refine zz_cons (k' := 58) rfl (zz_Ok_none _ _) ?_
  refine zz_cons (k' := 59) rfl (zz_Ok_none _ _) ?_
  refine zz_cons (k' := 60) rfl (zk_iconst X dX12_runs_59 (by decide) rfl) ?_
  refine zz_cons (k' := 61) rfl (zk_isub X dX12_runs_60 rfl) ?_
  refine zz_cons (k' := 62) rfl (zk_istore_n X dX12_runs_61 rfl (by decide) rfl) ?_
  refine zz_cons (k' := 63) rfl (zk_aload_n X dX12_runs_62 rfl rfl) ?_
  refine zz_cons (k' := 64) rfl (zk_aload_n X dX12_runs_63 rfl rfl) ?_
  refine zz_cons (k' := 65) rfl (zk_getf X ff_X12_243 dX12_runs_64 rfl) ?_
  refine zz_cons (k' := 66) rfl (zz_Ok_none _ _) ?_
  refine zz_cons (k' := 67) rfl (zz_Ok_none _ _) ?_
  refine zz_cons (k' := 68) rfl (zk_bipush X dX12_runs_67 (by decide) rfl) ?_
  refine zz_cons (k' := 69) rfl (zz_Ok_none _ _) ?_
  refine zz_cons (k' := 70) rfl (zk_callv X (zz_Cv_of (List.forall_mem_cons.mpr ⟨⟨(RX_10, zzT10, 50), yX12_viewed, cX12_viewed, 3, (some .int), 1, 23, rfl, kv_X12_204_10.1, (mm_X12_viewed Wd).1, by decide, by decide⟩, (fun _ h => absurd h List.not_mem_nil)⟩)) dX12_runs_69 rfl) ?_
  refine zz_cons (k' := 71) rfl (zz_Ok_none _ _) ?_
  refine zz_cons (k' := 72) rfl (zz_Ok_none _ _) ?_
  refine zz_cons (k' := 73) rfl (zk_istore X dX12_runs_72 (by decide) rfl) ?_
  refine zz_cons (k' := 74) rfl (zz_Ok_none _ _) ?_
  refine zz_cons (k' := 75) rfl (zk_aload_n X dX12_runs_74 rfl rfl) ?_
  refine zz_cons (k' := 76) rfl (zk_aload_n X dX12_runs_75 rfl rfl) ?_
  refine zz_cons (k' := 77) rfl (zk_getf X ff_X12_243 dX12_runs_76 rfl) ?_
  refine zz_cons (k' := 78) rfl (zz_Ok_none _ _) ?_
  refine zz_cons (k' := 79) rfl (zz_Ok_none _ _) ?_
  refine zz_cons (k' := 80) rfl (zk_bipush X dX12_runs_79 (by decide) rfl) ?_
  refine zz_cons (k' := 81) rfl (zz_Ok_none _ _) ?_
  refine zz_cons (k' := 82) rfl (zk_callv X (zz_Cv_of (List.forall_mem_cons.mpr ⟨⟨(RX_10, zzT10, 50), yX12_viewed, cX12_viewed, 3, (some .int), 1, 23, rfl, kv_X12_204_10.1, (mm_X12_viewed Wd).1, by decide, by decide⟩, (fun _ h => absurd h List.not_mem_nil)⟩)) dX12_runs_81 rfl) ?_
  refine zz_cons (k' := 83) rfl (zz_Ok_none _ _) ?_
  refine zz_cons (k' := 84) rfl (zz_Ok_none _ _) ?_
  refine zz_cons (k' := 85) rfl (zk_if_eq X dX12_runs_84 (by decide) rfl) ?_
  refine zz_cons (k' := 86) rfl (zz_Ok_none _ _) ?_
  refine zz_cons (k' := 87) rfl (zz_Ok_none _ _) ?_
  refine zz_cons (k' := 88) rfl (zk_aload_n X dX12_runs_87 rfl rfl) ?_
  refine zz_cons (k' := 89) rfl (zk_lload_n X dX12_runs_88 rfl rfl) ?_
  refine zz_cons (k' := 90) rfl (zk_bipush X dX12_runs_89 (by decide) rfl) ?_
  refine zz_cons (k' := 91) rfl (zz_Ok_none _ _) ?_
  refine zz_cons (k' := 92) rfl (zk_iconst X dX12_runs_91 (by decide) rfl) ?_
  refine zz_cons (k' := 93) rfl (zk_callv X (zz_Cv_of (List.forall_mem_cons.mpr ⟨⟨(RX_10, zzT10, 50), yX12_with, cX12_with, 7, (some .long), 0, 0, rfl, kv_X12_150_10.1, (mm_X12_with Wd).1, by decide, by decide⟩, (fun _ h => absurd h List.not_mem_nil)⟩)) dX12_runs_92 rfl) ?_
  refine zz_cons (k' := 94) rfl (zz_Ok_none _ _) ?_
  refine zz_cons (k' := 95) rfl (zz_Ok_none _ _) ?_
  refine zz_cons (k' := 96) rfl (zk_lstore_n X dX12_runs_95 rfl (by decide) rfl) ?_
  refine zz_cons (k' := 97) rfl (zk_aload_n X dX12_runs_96 rfl rfl) ?_
  refine zz_cons (k' := 98) rfl (zk_aload_n X dX12_runs_97 rfl rfl) ?_
  refine zz_cons (k' := 99) rfl (zk_getf X ff_X12_243 dX12_runs_98 rfl) ?_
  refine zz_cons (k' := 100) rfl (zz_Ok_none _ _) ?_
  refine zz_cons (k' := 101) rfl (zz_Ok_none _ _) ?_
  refine zz_cons (k' := 102) rfl (zk_aload_n X dX12_runs_101 rfl rfl) ?_
  refine zz_cons (k' := 103) rfl (zk_lload_n X dX12_runs_102 rfl rfl) ?_
  refine zz_cons (k' := 104) rfl (zk_bipush X dX12_runs_103 (by decide) rfl) ?_
  refine zz_cons (k' := 105) rfl (zz_Ok_none _ _) ?_
  refine zz_cons (k' := 106) rfl (zk_callv X (zz_Cv_of (List.forall_mem_cons.mpr ⟨⟨(RX_10, zzT10, 50), yX12_get, cX12_get, 4, (some .int), 0, 0, rfl, kv_X12_146_10.1, (mm_X12_get Wd).1, by decide, by decide⟩, (fun _ h => absurd h List.not_mem_nil)⟩)) dX12_runs_105 rfl) ?_
  refine zz_cons (k' := 107) rfl (zz_Ok_none _ _) ?_
  refine zz_cons (k' := 108) rfl (zz_Ok_none _ _) ?_
  refine zz_cons (k' := 109) rfl (zk_if_ne X dX12_runs_108 (by decide) rfl) ?_
  refine zz_cons (k' := 110) rfl (zz_Ok_none _ _) ?_
  refine zz_cons (k' := 111) rfl (zz_Ok_none _ _) ?_
  refine zz_cons (k' := 112) rfl (zk_aload_n X dX12_runs_111 rfl rfl) ?_
  refine zz_cons (k' := 113) rfl (zk_lload_n X dX12_runs_112 rfl rfl) ?_
  refine zz_cons (k' := 114) rfl (zk_callv X (zz_Cv_of (List.forall_mem_cons.mpr ⟨⟨(RX_10, zzT10, 50), yX12_gone, cX12_gone, 3, (some .long), 1, 26, rfl, kv_X12_189_10.1, (mm_X12_gone Wd).1, by decide, by decide⟩, (fun _ h => absurd h List.not_mem_nil)⟩)) dX12_runs_113 rfl) ?_
  refine zz_cons (k' := 115) rfl (zz_Ok_none _ _) ?_
  refine zz_cons (k' := 116) rfl (zz_Ok_none _ _) ?_
  refine zz_cons (k' := 117) rfl (zk_goto X dX12_runs_116 (by decide)) ?_
  refine zz_cons (k' := 118) rfl (zz_Ok_none _ _) ?_
  refine zz_cons (k' := 119) rfl (zz_Ok_none _ _) ?_
  refine zz_cons (k' := 120) rfl (zk_lload_n X dX12_runs_119 rfl rfl) ?_
  refine zz_cons (k' := 121) rfl (zk_aload_n X dX12_runs_120 rfl rfl) ?_
  refine zz_cons (k' := 122) rfl (zk_getf X ff_X12_32 dX12_runs_121 rfl) ?_
  refine zz_cons (k' := 123) rfl (zz_Ok_none _ _) ?_
  refine zz_cons (k' := 124) rfl (zz_Ok_none _ _) ?_
  refine zz_cons (k' := 125) rfl (zk_aload_n X dX12_runs_124 rfl rfl) ?_
  refine zz_cons (k' := 126) rfl (zk_getf X ff_X12_243 dX12_runs_125 rfl) ?_
  refine zz_cons (k' := 127) rfl (zz_Ok_none _ _) ?_
  refine zz_cons (k' := 128) rfl (zz_Ok_none _ _) ?_
  refine zz_cons (k' := 129) rfl (zk_lald X dX12_runs_128 rfl) ?_
  refine zz_cons (k' := 130) rfl (zk_callv X (zz_Cv_of (List.forall_mem_cons.mpr ⟨⟨(RX_10, zzT10, 50), yX12_writesIt, cX12_writesIt, 8, (some .boolean), 2, 52, rfl, kv_X12_261_10.1, (mm_X12_writesIt Wd).1, by decide, by decide⟩, (fun _ h => absurd h List.not_mem_nil)⟩)) dX12_runs_129 rfl) ?_
  refine zz_cons (k' := 131) rfl (zz_Ok_none _ _) ?_
  refine zz_cons (k' := 132) rfl (zz_Ok_none _ _) ?_
  refine zz_cons (k' := 133) rfl (zk_iret X rfl dX12_runs_132) ?_
  refine zz_cons (k' := 134) rfl (zk_aload_n X dX12_runs_133 rfl rfl) ?_
  refine zz_cons (k' := 135) rfl (zk_iload_n X dX12_runs_134 rfl rfl) ?_
  refine zz_cons (k' := 136) rfl (zk_callv X (zz_Cv_of (List.forall_mem_cons.mpr ⟨⟨(RX_10, zzT10, 50), yX12_isGoneThere, cX12_isGoneThere, 2, (some .boolean), 2, 45, rfl, kv_X12_211_10.1, (mm_X12_isGoneThere Wd).1, by decide, by decide⟩, (fun _ h => absurd h List.not_mem_nil)⟩)) dX12_runs_135 rfl) ?_
  refine zz_cons (k' := 137) rfl (zz_Ok_none _ _) ?_
  refine zz_cons (k' := 138) rfl (zz_Ok_none _ _) ?_
  refine zz_cons (k' := 139) rfl (zk_if_ne X dX12_runs_138 (by decide) rfl) ?_
  refine zz_cons (k' := 140) rfl (zz_Ok_none _ _) ?_
  refine zz_cons (k' := 141) rfl (zz_Ok_none _ _) ?_
  refine zz_cons (k' := 142) rfl (zk_aload_n X dX12_runs_141 rfl rfl) ?_
  refine zz_cons (k' := 143) rfl (zk_iload_n X dX12_runs_142 rfl rfl) ?_
  refine zz_cons (k' := 144) rfl (zk_bipush X dX12_runs_143 (by decide) rfl) ?_
  refine zz_cons (k' := 145) rfl (zz_Ok_none _ _) ?_
  refine zz_cons (k' := 146) rfl (zk_callv X (zz_Cv_of (List.forall_mem_cons.mpr ⟨⟨(RX_10, zzT10, 50), yX12_viewed, cX12_viewed, 3, (some .int), 1, 23, rfl, kv_X12_204_10.1, (mm_X12_viewed Wd).1, by decide, by decide⟩, (fun _ h => absurd h List.not_mem_nil)⟩)) dX12_runs_145 rfl) ?_
  refine zz_cons (k' := 147) rfl (zz_Ok_none _ _) ?_
  refine zz_cons (k' := 148) rfl (zz_Ok_none _ _) ?_
  refine zz_cons (k' := 149) rfl (zk_if_eq X dX12_runs_148 (by decide) rfl) ?_
  refine zz_cons (k' := 150) rfl (zz_Ok_none _ _) ?_
  refine zz_cons (k' := 151) rfl (zz_Ok_none _ _) ?_
  refine zz_cons (k' := 152) rfl (zk_aload_n X dX12_runs_151 rfl rfl) ?_
  refine zz_cons (k' := 153) rfl (zk_iload_n X dX12_runs_152 rfl rfl) ?_
  refine zz_cons (k' := 154) rfl (zk_bipush X dX12_runs_153 (by decide) rfl) ?_
  refine zz_cons (k' := 155) rfl (zz_Ok_none _ _) ?_
  refine zz_cons (k' := 156) rfl (zk_callv X (zz_Cv_of (List.forall_mem_cons.mpr ⟨⟨(RX_10, zzT10, 50), yX12_viewed, cX12_viewed, 3, (some .int), 1, 23, rfl, kv_X12_204_10.1, (mm_X12_viewed Wd).1, by decide, by decide⟩, (fun _ h => absurd h List.not_mem_nil)⟩)) dX12_runs_155 rfl) ?_
  refine zz_cons (k' := 157) rfl (zz_Ok_none _ _) ?_
  refine zz_cons (k' := 158) rfl (zz_Ok_none _ _) ?_
  refine zz_cons (k' := 159) rfl (zk_iconst X dX12_runs_158 (by decide) rfl) ?_
  refine zz_cons (k' := 160) rfl (zk_icmp_ne X dX12_runs_159 (by decide) rfl) ?_
  refine zz_cons (k' := 161) rfl (zz_Ok_none _ _) ?_
  refine zz_cons (k' := 162) rfl (zz_Ok_none _ _) ?_
  refine zz_cons (k' := 163) rfl (zk_iconst X dX12_runs_162 (by decide) rfl) ?_
  refine zz_cons (k' := 164) rfl (zk_goto X dX12_runs_163 (by decide)) ?_
  refine zz_cons (k' := 165) rfl (zz_Ok_none _ _) ?_
  refine zz_cons (k' := 166) rfl (zz_Ok_none _ _) ?_
  refine zz_cons (k' := 167) rfl (zk_iconst X dX12_runs_166 (by decide) rfl) ?_
  refine zz_cons (k' := 168) rfl (zk_istore X dX12_runs_167 (by decide) rfl) ?_
  refine zz_cons (k' := 169) rfl (zz_Ok_none _ _) ?_
  refine zz_cons (k' := 170) rfl (zk_iload X dX12_runs_169 rfl) ?_
  refine zz_cons (k' := 171) rfl (zz_Ok_none _ _) ?_
  refine zz_cons (k' := 172) rfl (zk_if_eq X dX12_runs_171 (by decide) rfl) ?_
  refine zz_cons (k' := 173) rfl (zz_Ok_none _ _) ?_
  refine zz_cons (k' := 174) rfl (zz_Ok_none _ _) ?_
  refine zz_cons (k' := 175) rfl (zk_iload X dX12_runs_174 rfl) ?_
  refine zz_cons (k' := 176) rfl (zz_Ok_none _ _) ?_
  refine zz_cons (k' := 177) rfl (zk_iconst X dX12_runs_176 (by decide) rfl) ?_
  refine zz_cons (k' := 178) rfl (zk_icmp_gt X dX12_runs_177 (by decide) rfl) ?_
  refine zz_cons (k' := 179) rfl (zz_Ok_none _ _) ?_
  refine zz_cons (k' := 180) rfl (zz_Ok_none _ _) ?_
  refine zz_cons (k' := 181) rfl (zk_aload_n X dX12_runs_180 rfl rfl) ?_
  refine zz_cons (k' := 182) rfl (zk_aload_n X dX12_runs_181 rfl rfl) ?_
  refine zz_cons (k' := 183) rfl (zk_getf X ff_X12_243 dX12_runs_182 rfl) ?_
  refine zz_cons (k' := 184) rfl (zz_Ok_none _ _) ?_
  refine zz_cons (k' := 185) rfl (zz_Ok_none _ _) ?_
  refine zz_cons (k' := 186) rfl (zk_aload_n X dX12_runs_185 rfl rfl) ?_
  refine zz_cons (k' := 187) rfl (zk_lload_n X dX12_runs_186 rfl rfl) ?_
  refine zz_cons (k' := 188) rfl (zk_bipush X dX12_runs_187 (by decide) rfl) ?_
  refine zz_cons (k' := 189) rfl (zz_Ok_none _ _) ?_
  refine zz_cons (k' := 190) rfl (zk_iconst X dX12_runs_189 (by decide) rfl) ?_
  refine zz_cons (k' := 191) rfl (zk_callv X (zz_Cv_of (List.forall_mem_cons.mpr ⟨⟨(RX_10, zzT10, 50), yX12_with, cX12_with, 7, (some .long), 0, 0, rfl, kv_X12_150_10.1, (mm_X12_with Wd).1, by decide, by decide⟩, (fun _ h => absurd h List.not_mem_nil)⟩)) dX12_runs_190 rfl) ?_
  refine zz_cons (k' := 192) rfl (zz_Ok_none _ _) ?_
  refine zz_cons (k' := 193) rfl (zz_Ok_none _ _) ?_
  refine zz_cons (k' := 194) rfl (zk_aload_n X dX12_runs_193 rfl rfl) ?_
  refine zz_cons (k' := 195) rfl (zk_getf X ff_X12_32 dX12_runs_194 rfl) ?_
  refine zz_cons (k' := 196) rfl (zz_Ok_none _ _) ?_
  refine zz_cons (k' := 197) rfl (zz_Ok_none _ _) ?_
  refine zz_cons (k' := 198) rfl (zk_aload_n X dX12_runs_197 rfl rfl) ?_
  refine zz_cons (k' := 199) rfl (zk_getf X ff_X12_243 dX12_runs_198 rfl) ?_
  refine zz_cons (k' := 200) rfl (zz_Ok_none _ _) ?_
  refine zz_cons (k' := 201) rfl (zz_Ok_none _ _) ?_
  refine zz_cons (k' := 202) rfl (zk_lald X dX12_runs_201 rfl) ?_
  refine zz_cons (k' := 203) rfl (zk_callv X (zz_Cv_of (List.forall_mem_cons.mpr ⟨⟨(RX_10, zzT10, 50), yX12_writesIt, cX12_writesIt, 8, (some .boolean), 2, 52, rfl, kv_X12_261_10.1, (mm_X12_writesIt Wd).1, by decide, by decide⟩, (fun _ h => absurd h List.not_mem_nil)⟩)) dX12_runs_202 rfl) ?_
  refine zz_cons (k' := 204) rfl (zz_Ok_none _ _) ?_
  refine zz_cons (k' := 205) rfl (zz_Ok_none _ _) ?_
  refine zz_cons (k' := 206) rfl (zk_iret X rfl dX12_runs_205) ?_
  refine zz_cons (k' := 207) rfl (zk_iload X dX12_runs_206 rfl) ?_
  refine zz_cons (k' := 208) rfl (zz_Ok_none _ _) ?_
  refine zz_cons (k' := 209) rfl (zk_if_eq X dX12_runs_208 (by decide) rfl) ?_
  refine zz_cons (k' := 210) rfl (zz_Ok_none _ _) ?_
  refine zz_cons (k' := 211) rfl (zz_Ok_none _ _) ?_
  refine zz_cons (k' := 212) rfl (zk_iconst X dX12_runs_211 (by decide) rfl) ?_
  refine zz_cons (k' := 213) rfl (zk_iret X rfl dX12_runs_212) ?_
  refine zz_cons (k' := 214) rfl (zk_aload_n X dX12_runs_213 rfl rfl) ?_
  refine zz_cons (k' := 215) rfl (zk_iload_n X dX12_runs_214 rfl rfl) ?_
  refine zz_cons (k' := 216) rfl (zk_bipush X dX12_runs_215 (by decide) rfl) ?_
  refine zz_cons (k' := 217) rfl (zz_Ok_none _ _) ?_
  refine zz_cons (k' := 218) rfl (zk_callv X (zz_Cv_of (List.forall_mem_cons.mpr ⟨⟨(RX_10, zzT10, 50), yX12_viewed, cX12_viewed, 3, (some .int), 1, 23, rfl, kv_X12_204_10.1, (mm_X12_viewed Wd).1, by decide, by decide⟩, (fun _ h => absurd h List.not_mem_nil)⟩)) dX12_runs_217 rfl) ?_
  refine zz_cons (k' := 219) rfl (zz_Ok_none _ _) ?_
  refine zz_cons (k' := 220) rfl (zz_Ok_none _ _) ?_
  refine zz_cons (k' := 221) rfl (zk_aload_n X dX12_runs_220 rfl rfl) ?_
  refine zz_cons (k' := 222) rfl (zk_aload_n X dX12_runs_221 rfl rfl) ?_
  refine zz_cons (k' := 223) rfl (zk_getf X ff_X12_243 dX12_runs_222 rfl) ?_
  refine zz_cons (k' := 224) rfl (zz_Ok_none _ _) ?_
  refine zz_cons (k' := 225) rfl (zz_Ok_none _ _) ?_
  refine zz_cons (k' := 226) rfl (zk_iconst X dX12_runs_225 (by decide) rfl) ?_
  refine zz_cons (k' := 227) rfl (zk_callv X (zz_Cv_of (List.forall_mem_cons.mpr ⟨⟨(RX_10, zzT10, 50), yX12_viewed, cX12_viewed, 3, (some .int), 1, 23, rfl, kv_X12_204_10.1, (mm_X12_viewed Wd).1, by decide, by decide⟩, (fun _ h => absurd h List.not_mem_nil)⟩)) dX12_runs_226 rfl) ?_
  refine zz_cons (k' := 228) rfl (zz_Ok_none _ _) ?_
  refine zz_cons (k' := 229) rfl (zz_Ok_none _ _) ?_
  refine zz_cons (k' := 230) rfl (zk_calls X ks_X12_276 (mm_X12_need Wd).1 (by decide) dX12_runs_229 rfl) ?_
  refine zz_cons (k' := 231) rfl (zz_Ok_none _ _) ?_
  refine zz_cons (k' := 232) rfl (zz_Ok_none _ _) ?_
  refine zz_cons (k' := 233) rfl (zk_aload_n X dX12_runs_232 rfl rfl) ?_
  refine zz_cons (k' := 234) rfl (zk_iload_n X dX12_runs_233 rfl rfl) ?_
  refine zz_cons (k' := 235) rfl (zk_iconst X dX12_runs_234 (by decide) rfl) ?_
  refine zz_cons (k' := 236) rfl (zk_callv X (zz_Cv_of (List.forall_mem_cons.mpr ⟨⟨(RX_10, zzT10, 50), yX12_used, cX12_used, 7, (some .int), 3, 66, rfl, kv_X12_308_10.1, (mm_X12_used Wd).1, by decide, by decide⟩, (fun _ h => absurd h List.not_mem_nil)⟩)) dX12_runs_235 rfl) ?_
  refine zz_cons (k' := 237) rfl (zz_Ok_none _ _) ?_
  refine zz_cons (k' := 238) rfl (zz_Ok_none _ _) ?_
  refine zz_cons (k' := 239) rfl (zk_iadd X dX12_runs_238 rfl) ?_
  refine zz_cons (k' := 240) rfl (zk_icmp_lt X dX12_runs_239 (by decide) rfl) ?_
  refine zz_cons (k' := 241) rfl (zz_Ok_none _ _) ?_
  refine zz_cons (k' := 242) rfl (zz_Ok_none _ _) ?_
  refine zz_cons (k' := 243) rfl (zk_iconst X dX12_runs_242 (by decide) rfl) ?_
  refine zz_cons (k' := 244) rfl (zk_goto X dX12_runs_243 (by decide)) ?_
  refine zz_cons (k' := 245) rfl (zz_Ok_none _ _) ?_
  refine zz_cons (k' := 246) rfl (zz_Ok_none _ _) ?_
  refine zz_cons (k' := 247) rfl (zk_iconst X dX12_runs_246 (by decide) rfl) ?_
  refine zz_cons (k' := 248) rfl (zk_istore X dX12_runs_247 (by decide) rfl) ?_
  refine zz_cons (k' := 249) rfl (zz_Ok_none _ _) ?_
  refine zz_cons (k' := 250) rfl (zk_aload_n X dX12_runs_249 rfl rfl) ?_
  refine zz_cons (k' := 251) rfl (zk_aload_n X dX12_runs_250 rfl rfl) ?_
  refine zz_cons (k' := 252) rfl (zk_getf X ff_X12_243 dX12_runs_251 rfl) ?_
  refine zz_cons (k' := 253) rfl (zz_Ok_none _ _) ?_
  refine zz_cons (k' := 254) rfl (zz_Ok_none _ _) ?_
  refine zz_cons (k' := 255) rfl (zk_aload_n X dX12_runs_254 rfl rfl) ?_
  refine zz_cons (k' := 256) rfl (zk_lload_n X dX12_runs_255 rfl rfl) ?_
  refine zz_cons (k' := 257) rfl (zk_bipush X dX12_runs_256 (by decide) rfl) ?_
  refine zz_cons (k' := 258) rfl (zz_Ok_none _ _) ?_
  refine zz_cons (k' := 259) rfl (zk_iload X dX12_runs_258 rfl) ?_
  refine zz_cons (k' := 260) rfl (zz_Ok_none _ _) ?_
  refine zz_cons (k' := 261) rfl (zk_if_eq X dX12_runs_260 (by decide) rfl) ?_
  refine zz_cons (k' := 262) rfl (zz_Ok_none _ _) ?_
  refine zz_cons (k' := 263) rfl (zz_Ok_none _ _) ?_
  refine zz_cons (k' := 264) rfl (zk_iconst X dX12_runs_263 (by decide) rfl) ?_
  refine zz_cons (k' := 265) rfl (zk_goto X dX12_runs_264 (by decide)) ?_
  refine zz_cons (k' := 266) rfl (zz_Ok_none _ _) ?_
  refine zz_cons (k' := 267) rfl (zz_Ok_none _ _) ?_
  refine zz_cons (k' := 268) rfl (zk_iconst X dX12_runs_267 (by decide) rfl) ?_
  refine zz_cons (k' := 269) rfl (zk_callv X (zz_Cv_of (List.forall_mem_cons.mpr ⟨⟨(RX_10, zzT10, 50), yX12_with, cX12_with, 7, (some .long), 0, 0, rfl, kv_X12_150_10.1, (mm_X12_with Wd).1, by decide, by decide⟩, (fun _ h => absurd h List.not_mem_nil)⟩)) dX12_runs_268 rfl) ?_
  refine zz_cons (k' := 270) rfl (zz_Ok_none _ _) ?_
  refine zz_cons (k' := 271) rfl (zz_Ok_none _ _) ?_
  refine zz_cons (k' := 272) rfl (zk_aload_n X dX12_runs_271 rfl rfl) ?_
  refine zz_cons (k' := 273) rfl (zk_getf X ff_X12_32 dX12_runs_272 rfl) ?_
  refine zz_cons (k' := 274) rfl (zz_Ok_none _ _) ?_
  refine zz_cons (k' := 275) rfl (zz_Ok_none _ _) ?_
  refine zz_cons (k' := 276) rfl (zk_aload_n X dX12_runs_275 rfl rfl) ?_
  refine zz_cons (k' := 277) rfl (zk_getf X ff_X12_243 dX12_runs_276 rfl) ?_
  refine zz_cons (k' := 278) rfl (zz_Ok_none _ _) ?_
  refine zz_cons (k' := 279) rfl (zz_Ok_none _ _) ?_
  refine zz_cons (k' := 280) rfl (zk_lald X dX12_runs_279 rfl) ?_
  refine zz_cons (k' := 281) rfl (zk_callv X (zz_Cv_of (List.forall_mem_cons.mpr ⟨⟨(RX_10, zzT10, 50), yX12_writesIt, cX12_writesIt, 8, (some .boolean), 2, 52, rfl, kv_X12_261_10.1, (mm_X12_writesIt Wd).1, by decide, by decide⟩, (fun _ h => absurd h List.not_mem_nil)⟩)) dX12_runs_280 rfl) ?_
  refine zz_cons (k' := 282) rfl (zz_Ok_none _ _) ?_
  refine zz_cons (k' := 283) rfl (zz_Ok_none _ _) ?_
  refine zz_cons (k' := 284) rfl (zk_iret X rfl dX12_runs_283) ?_
  exact trivial
noncomputable def tX12_owned : List zzOp := [
  zo_pushI 0 1,
  zo_istore 1 2,
  zo_pushI 0 3,
  zo_istore 2 4,
  zo_iload 2 5,
  zo_aload 0 6,
  zo_getf zzSR (zz_kf [10] 5) 9,
  zo_none,
  zo_none,
  zo_icmp (fun x y => decide (y ≤ x)) 50 12,
  zo_none,
  zo_none,
  zo_iload 1 13,
  zo_aload 0 14,
  zo_iload 2 15,
  zo_callv zzSR (zz_cl [(10, fX12_isGoneThere)]) 1 18,
  zo_none,
  zo_none,
  zo_if (fun x => decide (¬ x = 0)) 41 21,
  zo_none,
  zo_none,
  zo_aload 0 22,
  zo_aload 0 23,
  zo_iload 2 24,
  zo_callv zzSR (zz_cl [(10, fX12_view)]) 1 27,
  zo_none,
  zo_none,
  zo_callv zzSR (zz_cl [(10, fX12_ownerIn)]) 1 30,
  zo_none,
  zo_none,
  zo_aload 0 31,
  zo_getf zzSR (zz_kf [10] 43) 34,
  zo_none,
  zo_none,
  zo_icmp (fun x y => decide (¬ x = y)) 41 37,
  zo_none,
  zo_none,
  zo_pushI 1 38,
  zo_goto 42,
  zo_none,
  zo_none,
  zo_pushI 0 42,
  zo_ii (fun x y => x + y) 43,
  zo_istore 1 44,
  zo_iinc 2 1 47,
  zo_none,
  zo_none,
  zo_goto 4,
  zo_none,
  zo_none,
  zo_iload 1 51,
  zo_iret false]
set_option maxRecDepth 100000 in
theorem tl_X12_owned : ∀ pc, zz_Tl (tX12_owned.getD pc zo_none) := by
  refine zz_Tl_mem ?_
  unfold tX12_owned
  refine List.forall_mem_cons.mpr ⟨(zo_pushI_tl _ _), ?_⟩
  refine List.forall_mem_cons.mpr ⟨(zo_istore_tl _ _), ?_⟩
  refine List.forall_mem_cons.mpr ⟨(zo_pushI_tl _ _), ?_⟩
  refine List.forall_mem_cons.mpr ⟨(zo_istore_tl _ _), ?_⟩
  refine List.forall_mem_cons.mpr ⟨(zo_iload_tl _ _), ?_⟩
  refine List.forall_mem_cons.mpr ⟨(zo_aload_tl _ _), ?_⟩
  refine List.forall_mem_cons.mpr ⟨(zo_getf_tl _ _ _), ?_⟩
  refine List.forall_mem_cons.mpr ⟨zo_none_tl, ?_⟩
  refine List.forall_mem_cons.mpr ⟨zo_none_tl, ?_⟩
  refine List.forall_mem_cons.mpr ⟨(zo_icmp_tl _ _ _), ?_⟩
  refine List.forall_mem_cons.mpr ⟨zo_none_tl, ?_⟩
  refine List.forall_mem_cons.mpr ⟨zo_none_tl, ?_⟩
  refine List.forall_mem_cons.mpr ⟨(zo_iload_tl _ _), ?_⟩
  refine List.forall_mem_cons.mpr ⟨(zo_aload_tl _ _), ?_⟩
  refine List.forall_mem_cons.mpr ⟨(zo_iload_tl _ _), ?_⟩
  refine List.forall_mem_cons.mpr ⟨(zo_callv_tl _ _ _ _), ?_⟩
  refine List.forall_mem_cons.mpr ⟨zo_none_tl, ?_⟩
  refine List.forall_mem_cons.mpr ⟨zo_none_tl, ?_⟩
  refine List.forall_mem_cons.mpr ⟨(zo_if_tl _ _ _), ?_⟩
  refine List.forall_mem_cons.mpr ⟨zo_none_tl, ?_⟩
  refine List.forall_mem_cons.mpr ⟨zo_none_tl, ?_⟩
  refine List.forall_mem_cons.mpr ⟨(zo_aload_tl _ _), ?_⟩
  refine List.forall_mem_cons.mpr ⟨(zo_aload_tl _ _), ?_⟩
  refine List.forall_mem_cons.mpr ⟨(zo_iload_tl _ _), ?_⟩
  refine List.forall_mem_cons.mpr ⟨(zo_callv_tl _ _ _ _), ?_⟩
  refine List.forall_mem_cons.mpr ⟨zo_none_tl, ?_⟩
  refine List.forall_mem_cons.mpr ⟨zo_none_tl, ?_⟩
  refine List.forall_mem_cons.mpr ⟨(zo_callv_tl _ _ _ _), ?_⟩
  refine List.forall_mem_cons.mpr ⟨zo_none_tl, ?_⟩
  refine List.forall_mem_cons.mpr ⟨zo_none_tl, ?_⟩
  refine List.forall_mem_cons.mpr ⟨(zo_aload_tl _ _), ?_⟩
  refine List.forall_mem_cons.mpr ⟨(zo_getf_tl _ _ _), ?_⟩
  refine List.forall_mem_cons.mpr ⟨zo_none_tl, ?_⟩
  refine List.forall_mem_cons.mpr ⟨zo_none_tl, ?_⟩
  refine List.forall_mem_cons.mpr ⟨(zo_icmp_tl _ _ _), ?_⟩
  refine List.forall_mem_cons.mpr ⟨zo_none_tl, ?_⟩
  refine List.forall_mem_cons.mpr ⟨zo_none_tl, ?_⟩
  refine List.forall_mem_cons.mpr ⟨(zo_pushI_tl _ _), ?_⟩
  refine List.forall_mem_cons.mpr ⟨(zo_goto_tl _), ?_⟩
  refine List.forall_mem_cons.mpr ⟨zo_none_tl, ?_⟩
  refine List.forall_mem_cons.mpr ⟨zo_none_tl, ?_⟩
  refine List.forall_mem_cons.mpr ⟨(zo_pushI_tl _ _), ?_⟩
  refine List.forall_mem_cons.mpr ⟨(zo_ii_tl _ _), ?_⟩
  refine List.forall_mem_cons.mpr ⟨(zo_istore_tl _ _), ?_⟩
  refine List.forall_mem_cons.mpr ⟨(zo_iinc_tl _ _ _), ?_⟩
  refine List.forall_mem_cons.mpr ⟨zo_none_tl, ?_⟩
  refine List.forall_mem_cons.mpr ⟨zo_none_tl, ?_⟩
  refine List.forall_mem_cons.mpr ⟨(zo_goto_tl _), ?_⟩
  refine List.forall_mem_cons.mpr ⟨zo_none_tl, ?_⟩
  refine List.forall_mem_cons.mpr ⟨zo_none_tl, ?_⟩
  refine List.forall_mem_cons.mpr ⟨(zo_iload_tl _ _), ?_⟩
  refine List.forall_mem_cons.mpr ⟨(zo_iret_tl _), ?_⟩
  exact fun _ h => absurd h List.not_mem_nil
noncomputable def fX12_owned : zzFn := zz_fn tX12_owned 3
set_option maxRecDepth 100000 in
set_option maxHeartbeats 4000000 in
theorem mm_X12_owned {l : Launch} {D : va_G} {cA : Nat → ClassId} {ad : Nat → Nat} {Ex : (Nat → Prop) → State → Heap → Prop} (Wd : zzWR l D cA ad Ex) : zz_Cn l D zzCl cA ad zzSR Ex yX12_owned cX12_owned 3 (some .int) 3 66 fX12_owned ∧ zz_Cx l D zzCl cA ad zzSR Ex yX12_owned cX12_owned 3 (some .int) 3 66 fX12_owned := by
  refine zz_meth (plainFor_of_name (by decide)) Wd.1 Wd.2.1 Wd.2.2 (fun p e R s m args below meth c rr X => ?_)
  unfold tX12_owned
  refine zz_cons (k' := 1) rfl (zk_iconst X dX12_owned_0 (by decide) rfl) ?_
  refine zz_cons (k' := 2) rfl (zk_istore_n X dX12_owned_1 rfl (by decide) rfl) ?_
  refine zz_cons (k' := 3) rfl (zk_iconst X dX12_owned_2 (by decide) rfl) ?_
  refine zz_cons (k' := 4) rfl (zk_istore_n X dX12_owned_3 rfl (by decide) rfl) ?_
  refine zz_cons (k' := 5) rfl (zk_iload_n X dX12_owned_4 rfl rfl) ?_
  refine zz_cons (k' := 6) rfl (zk_aload_n X dX12_owned_5 rfl rfl) ?_
  refine zz_cons (k' := 7) rfl (zk_getf X ff_X12_137 dX12_owned_6 rfl) ?_
  refine zz_cons (k' := 8) rfl (zz_Ok_none _ _) ?_
  refine zz_cons (k' := 9) rfl (zz_Ok_none _ _) ?_
  refine zz_cons (k' := 10) rfl (zk_icmp_ge X dX12_owned_9 (by decide) rfl) ?_
  refine zz_cons (k' := 11) rfl (zz_Ok_none _ _) ?_
  refine zz_cons (k' := 12) rfl (zz_Ok_none _ _) ?_
  refine zz_cons (k' := 13) rfl (zk_iload_n X dX12_owned_12 rfl rfl) ?_
  refine zz_cons (k' := 14) rfl (zk_aload_n X dX12_owned_13 rfl rfl) ?_
  refine zz_cons (k' := 15) rfl (zk_iload_n X dX12_owned_14 rfl rfl) ?_
  refine zz_cons (k' := 16) rfl (zk_callv X (zz_Cv_of (List.forall_mem_cons.mpr ⟨⟨(RX_10, zzT10, 50), yX12_isGoneThere, cX12_isGoneThere, 2, (some .boolean), 2, 45, rfl, kv_X12_211_10.1, (mm_X12_isGoneThere Wd).1, by decide, by decide⟩, (fun _ h => absurd h List.not_mem_nil)⟩)) dX12_owned_15 rfl) ?_
  refine zz_cons (k' := 17) rfl (zz_Ok_none _ _) ?_
  refine zz_cons (k' := 18) rfl (zz_Ok_none _ _) ?_
  refine zz_cons (k' := 19) rfl (zk_if_ne X dX12_owned_18 (by decide) rfl) ?_
  refine zz_cons (k' := 20) rfl (zz_Ok_none _ _) ?_
  refine zz_cons (k' := 21) rfl (zz_Ok_none _ _) ?_
  refine zz_cons (k' := 22) rfl (zk_aload_n X dX12_owned_21 rfl rfl) ?_
  refine zz_cons (k' := 23) rfl (zk_aload_n X dX12_owned_22 rfl rfl) ?_
  refine zz_cons (k' := 24) rfl (zk_iload_n X dX12_owned_23 rfl rfl) ?_
  refine zz_cons (k' := 25) rfl (zk_callv X (zz_Cv_of (List.forall_mem_cons.mpr ⟨⟨(RX_10, zzT10, 50), yX12_view, cX12_view, 2, (some .long), 0, 0, rfl, kv_X12_196_10.1, (mm_X12_view Wd).1, by decide, by decide⟩, (fun _ h => absurd h List.not_mem_nil)⟩)) dX12_owned_24 rfl) ?_
  refine zz_cons (k' := 26) rfl (zz_Ok_none _ _) ?_
  refine zz_cons (k' := 27) rfl (zz_Ok_none _ _) ?_
  refine zz_cons (k' := 28) rfl (zk_callv X (zz_Cv_of (List.forall_mem_cons.mpr ⟨⟨(RX_10, zzT10, 50), yX12_ownerIn, cX12_ownerIn, 3, (some .int), 1, 23, rfl, kv_X12_214_10.1, (mm_X12_ownerIn Wd).1, by decide, by decide⟩, (fun _ h => absurd h List.not_mem_nil)⟩)) dX12_owned_27 rfl) ?_
  refine zz_cons (k' := 29) rfl (zz_Ok_none _ _) ?_
  refine zz_cons (k' := 30) rfl (zz_Ok_none _ _) ?_
  refine zz_cons (k' := 31) rfl (zk_aload_n X dX12_owned_30 rfl rfl) ?_
  refine zz_cons (k' := 32) rfl (zk_getf X ff_X12_243 dX12_owned_31 rfl) ?_
  refine zz_cons (k' := 33) rfl (zz_Ok_none _ _) ?_
  refine zz_cons (k' := 34) rfl (zz_Ok_none _ _) ?_
  refine zz_cons (k' := 35) rfl (zk_icmp_ne X dX12_owned_34 (by decide) rfl) ?_
  refine zz_cons (k' := 36) rfl (zz_Ok_none _ _) ?_
  refine zz_cons (k' := 37) rfl (zz_Ok_none _ _) ?_
  refine zz_cons (k' := 38) rfl (zk_iconst X dX12_owned_37 (by decide) rfl) ?_
  refine zz_cons (k' := 39) rfl (zk_goto X dX12_owned_38 (by decide)) ?_
  refine zz_cons (k' := 40) rfl (zz_Ok_none _ _) ?_
  refine zz_cons (k' := 41) rfl (zz_Ok_none _ _) ?_
  refine zz_cons (k' := 42) rfl (zk_iconst X dX12_owned_41 (by decide) rfl) ?_
  refine zz_cons (k' := 43) rfl (zk_iadd X dX12_owned_42 rfl) ?_
  refine zz_cons (k' := 44) rfl (zk_istore_n X dX12_owned_43 rfl (by decide) rfl) ?_
  refine zz_cons (k' := 45) rfl (zk_iinc X dX12_owned_44 (by decide) (by decide) rfl) ?_
  refine zz_cons (k' := 46) rfl (zz_Ok_none _ _) ?_
  refine zz_cons (k' := 47) rfl (zz_Ok_none _ _) ?_
  refine zz_cons (k' := 48) rfl (zk_goto X dX12_owned_47 (by decide)) ?_
  refine zz_cons (k' := 49) rfl (zz_Ok_none _ _) ?_
  refine zz_cons (k' := 50) rfl (zz_Ok_none _ _) ?_
  refine zz_cons (k' := 51) rfl (zk_iload_n X dX12_owned_50 rfl rfl) ?_
  refine zz_cons (k' := 52) rfl (zk_iret X rfl dX12_owned_51) ?_
  exact trivial
noncomputable def tX12_passesOn : List zzOp := [
  zo_pushI 1 1,
  zo_istore 2 2,
  zo_pushI 0 3,
  zo_istore 3 4,
  zo_iload 3 5,
  zo_aload 0 6,
  zo_getf zzSR (zz_kf [10] 5) 9,
  zo_none,
  zo_none,
  zo_icmp (fun x y => decide (y ≤ x)) 143 12,
  zo_none,
  zo_none,
  zo_iload 2 13,
  zo_if (fun x => decide (x = 0)) 143 16,
  zo_none,
  zo_none,
  zo_aload 0 17,
  zo_iload 3 18,
  zo_callv zzSR (zz_cl [(10, fX12_isGoneThere)]) 1 21,
  zo_none,
  zo_none,
  zo_if (fun x => decide (¬ x = 0)) 44 24,
  zo_none,
  zo_none,
  zo_aload 0 25,
  zo_aload 0 26,
  zo_iload 3 27,
  zo_callv zzSR (zz_cl [(10, fX12_view)]) 1 30,
  zo_none,
  zo_none,
  zo_callv zzSR (zz_cl [(10, fX12_ownerIn)]) 1 33,
  zo_none,
  zo_none,
  zo_aload 0 34,
  zo_getf zzSR (zz_kf [10] 43) 37,
  zo_none,
  zo_none,
  zo_icmp (fun x y => decide (¬ x = y)) 44 40,
  zo_none,
  zo_none,
  zo_pushI 1 41,
  zo_goto 45,
  zo_none,
  zo_none,
  zo_pushI 0 45,
  zo_istore 4 47,
  zo_none,
  zo_iload 4 49,
  zo_none,
  zo_if (fun x => decide (x = 0)) 71 52,
  zo_none,
  zo_none,
  zo_iload 1 53,
  zo_pushI 3 54,
  zo_icmp (fun x y => decide (x = y)) 67 57,
  zo_none,
  zo_none,
  zo_aload 0 58,
  zo_iload 3 59,
  zo_pushI 13 61,
  zo_none,
  zo_callv zzSR (zz_cl [(10, fX12_viewed)]) 2 64,
  zo_none,
  zo_none,
  zo_if (fun x => decide (¬ x = 0)) 71 67,
  zo_none,
  zo_none,
  zo_pushI 1 68,
  zo_goto 72,
  zo_none,
  zo_none,
  zo_pushI 0 72,
  zo_istore 5 74,
  zo_none,
  zo_iload 1 75,
  zo_pushI 3 76,
  zo_icmp (fun x y => decide (¬ x = y)) 95 79,
  zo_none,
  zo_none,
  zo_aload 0 80,
  zo_aload 0 81,
  zo_getf zzSR (zz_kf [10] 7) 84,
  zo_none,
  zo_none,
  zo_iload 3 85,
  zo_lald zzSR 86,
  zo_pushI 11 88,
  zo_none,
  zo_pushI 0 89,
  zo_callv zzSR (zz_cl [(10, fX12_with)]) 3 92,
  zo_none,
  zo_none,
  zo_goto 108,
  zo_none,
  zo_none,
  zo_aload 0 96,
  zo_aload 0 97,
  zo_getf zzSR (zz_kf [10] 7) 100,
  zo_none,
  zo_none,
  zo_iload 3 101,
  zo_lald zzSR 102,
  zo_pushI 13 104,
  zo_none,
  zo_pushI 1 105,
  zo_callv zzSR (zz_cl [(10, fX12_with)]) 3 108,
  zo_none,
  zo_none,
  zo_lstore 6 110,
  zo_none,
  zo_iload 5 112,
  zo_none,
  zo_if (fun x => decide (x = 0)) 131 115,
  zo_none,
  zo_none,
  zo_aload 0 116,
  zo_iload 3 117,
  zo_lload 6 119,
  zo_none,
  zo_aload 0 120,
  zo_getf zzSR (zz_kf [10] 8) 123,
  zo_none,
  zo_none,
  zo_iload 3 124,
  zo_lald zzSR 125,
  zo_callv zzSR (zz_cl [(10, fX12_writesIt)]) 3 128,
  zo_none,
  zo_none,
  zo_if (fun x => decide (x = 0)) 135 131,
  zo_none,
  zo_none,
  zo_pushI 1 132,
  zo_goto 136,
  zo_none,
  zo_none,
  zo_pushI 0 136,
  zo_istore 2 137,
  zo_iinc 3 1 140,
  zo_none,
  zo_none,
  zo_goto 4,
  zo_none,
  zo_none,
  zo_iload 2 144,
  zo_iret true]
set_option maxRecDepth 100000 in
theorem tl_X12_passesOn : ∀ pc, zz_Tl (tX12_passesOn.getD pc zo_none) := by
  refine zz_Tl_mem ?_
  unfold tX12_passesOn
  refine List.forall_mem_cons.mpr ⟨(zo_pushI_tl _ _), ?_⟩
  refine List.forall_mem_cons.mpr ⟨(zo_istore_tl _ _), ?_⟩
  refine List.forall_mem_cons.mpr ⟨(zo_pushI_tl _ _), ?_⟩
  refine List.forall_mem_cons.mpr ⟨(zo_istore_tl _ _), ?_⟩
  refine List.forall_mem_cons.mpr ⟨(zo_iload_tl _ _), ?_⟩
  refine List.forall_mem_cons.mpr ⟨(zo_aload_tl _ _), ?_⟩
  refine List.forall_mem_cons.mpr ⟨(zo_getf_tl _ _ _), ?_⟩
  refine List.forall_mem_cons.mpr ⟨zo_none_tl, ?_⟩
  refine List.forall_mem_cons.mpr ⟨zo_none_tl, ?_⟩
  refine List.forall_mem_cons.mpr ⟨(zo_icmp_tl _ _ _), ?_⟩
  refine List.forall_mem_cons.mpr ⟨zo_none_tl, ?_⟩
  refine List.forall_mem_cons.mpr ⟨zo_none_tl, ?_⟩
  refine List.forall_mem_cons.mpr ⟨(zo_iload_tl _ _), ?_⟩
  refine List.forall_mem_cons.mpr ⟨(zo_if_tl _ _ _), ?_⟩
  refine List.forall_mem_cons.mpr ⟨zo_none_tl, ?_⟩
  refine List.forall_mem_cons.mpr ⟨zo_none_tl, ?_⟩
  refine List.forall_mem_cons.mpr ⟨(zo_aload_tl _ _), ?_⟩
  refine List.forall_mem_cons.mpr ⟨(zo_iload_tl _ _), ?_⟩
  refine List.forall_mem_cons.mpr ⟨(zo_callv_tl _ _ _ _), ?_⟩
  refine List.forall_mem_cons.mpr ⟨zo_none_tl, ?_⟩
  refine List.forall_mem_cons.mpr ⟨zo_none_tl, ?_⟩
  refine List.forall_mem_cons.mpr ⟨(zo_if_tl _ _ _), ?_⟩
  refine List.forall_mem_cons.mpr ⟨zo_none_tl, ?_⟩
  refine List.forall_mem_cons.mpr ⟨zo_none_tl, ?_⟩
  refine List.forall_mem_cons.mpr ⟨(zo_aload_tl _ _), ?_⟩
  refine List.forall_mem_cons.mpr ⟨(zo_aload_tl _ _), ?_⟩
  refine List.forall_mem_cons.mpr ⟨(zo_iload_tl _ _), ?_⟩
  refine List.forall_mem_cons.mpr ⟨(zo_callv_tl _ _ _ _), ?_⟩
  refine List.forall_mem_cons.mpr ⟨zo_none_tl, ?_⟩
  refine List.forall_mem_cons.mpr ⟨zo_none_tl, ?_⟩
  refine List.forall_mem_cons.mpr ⟨(zo_callv_tl _ _ _ _), ?_⟩
  refine List.forall_mem_cons.mpr ⟨zo_none_tl, ?_⟩
  refine List.forall_mem_cons.mpr ⟨zo_none_tl, ?_⟩
  refine List.forall_mem_cons.mpr ⟨(zo_aload_tl _ _), ?_⟩
  refine List.forall_mem_cons.mpr ⟨(zo_getf_tl _ _ _), ?_⟩
  refine List.forall_mem_cons.mpr ⟨zo_none_tl, ?_⟩
  refine List.forall_mem_cons.mpr ⟨zo_none_tl, ?_⟩
  refine List.forall_mem_cons.mpr ⟨(zo_icmp_tl _ _ _), ?_⟩
  refine List.forall_mem_cons.mpr ⟨zo_none_tl, ?_⟩
  refine List.forall_mem_cons.mpr ⟨zo_none_tl, ?_⟩
  refine List.forall_mem_cons.mpr ⟨(zo_pushI_tl _ _), ?_⟩
  refine List.forall_mem_cons.mpr ⟨(zo_goto_tl _), ?_⟩
  refine List.forall_mem_cons.mpr ⟨zo_none_tl, ?_⟩
  refine List.forall_mem_cons.mpr ⟨zo_none_tl, ?_⟩
  refine List.forall_mem_cons.mpr ⟨(zo_pushI_tl _ _), ?_⟩
  refine List.forall_mem_cons.mpr ⟨(zo_istore_tl _ _), ?_⟩
  refine List.forall_mem_cons.mpr ⟨zo_none_tl, ?_⟩
  refine List.forall_mem_cons.mpr ⟨(zo_iload_tl _ _), ?_⟩
  refine List.forall_mem_cons.mpr ⟨zo_none_tl, ?_⟩
  refine List.forall_mem_cons.mpr ⟨(zo_if_tl _ _ _), ?_⟩
  refine List.forall_mem_cons.mpr ⟨zo_none_tl, ?_⟩
  refine List.forall_mem_cons.mpr ⟨zo_none_tl, ?_⟩
  refine List.forall_mem_cons.mpr ⟨(zo_iload_tl _ _), ?_⟩
  refine List.forall_mem_cons.mpr ⟨(zo_pushI_tl _ _), ?_⟩
  refine List.forall_mem_cons.mpr ⟨(zo_icmp_tl _ _ _), ?_⟩
  refine List.forall_mem_cons.mpr ⟨zo_none_tl, ?_⟩
  refine List.forall_mem_cons.mpr ⟨zo_none_tl, ?_⟩
  refine List.forall_mem_cons.mpr ⟨(zo_aload_tl _ _), ?_⟩
  refine List.forall_mem_cons.mpr ⟨(zo_iload_tl _ _), ?_⟩
  refine List.forall_mem_cons.mpr ⟨(zo_pushI_tl _ _), ?_⟩
  refine List.forall_mem_cons.mpr ⟨zo_none_tl, ?_⟩
  refine List.forall_mem_cons.mpr ⟨(zo_callv_tl _ _ _ _), ?_⟩
  refine List.forall_mem_cons.mpr ⟨zo_none_tl, ?_⟩
  refine List.forall_mem_cons.mpr ⟨zo_none_tl, ?_⟩
  refine List.forall_mem_cons.mpr ⟨(zo_if_tl _ _ _), ?_⟩
  refine List.forall_mem_cons.mpr ⟨zo_none_tl, ?_⟩
  refine List.forall_mem_cons.mpr ⟨zo_none_tl, ?_⟩
  refine List.forall_mem_cons.mpr ⟨(zo_pushI_tl _ _), ?_⟩
  refine List.forall_mem_cons.mpr ⟨(zo_goto_tl _), ?_⟩
  refine List.forall_mem_cons.mpr ⟨zo_none_tl, ?_⟩
  refine List.forall_mem_cons.mpr ⟨zo_none_tl, ?_⟩
  refine List.forall_mem_cons.mpr ⟨(zo_pushI_tl _ _), ?_⟩
  refine List.forall_mem_cons.mpr ⟨(zo_istore_tl _ _), ?_⟩
  refine List.forall_mem_cons.mpr ⟨zo_none_tl, ?_⟩
  refine List.forall_mem_cons.mpr ⟨(zo_iload_tl _ _), ?_⟩
  refine List.forall_mem_cons.mpr ⟨(zo_pushI_tl _ _), ?_⟩
  refine List.forall_mem_cons.mpr ⟨(zo_icmp_tl _ _ _), ?_⟩
  refine List.forall_mem_cons.mpr ⟨zo_none_tl, ?_⟩
  refine List.forall_mem_cons.mpr ⟨zo_none_tl, ?_⟩
  refine List.forall_mem_cons.mpr ⟨(zo_aload_tl _ _), ?_⟩
  refine List.forall_mem_cons.mpr ⟨(zo_aload_tl _ _), ?_⟩
  refine List.forall_mem_cons.mpr ⟨(zo_getf_tl _ _ _), ?_⟩
  refine List.forall_mem_cons.mpr ⟨zo_none_tl, ?_⟩
  refine List.forall_mem_cons.mpr ⟨zo_none_tl, ?_⟩
  refine List.forall_mem_cons.mpr ⟨(zo_iload_tl _ _), ?_⟩
  refine List.forall_mem_cons.mpr ⟨(zo_lald_tl _ _), ?_⟩
  refine List.forall_mem_cons.mpr ⟨(zo_pushI_tl _ _), ?_⟩
  refine List.forall_mem_cons.mpr ⟨zo_none_tl, ?_⟩
  refine List.forall_mem_cons.mpr ⟨(zo_pushI_tl _ _), ?_⟩
  refine List.forall_mem_cons.mpr ⟨(zo_callv_tl _ _ _ _), ?_⟩
  refine List.forall_mem_cons.mpr ⟨zo_none_tl, ?_⟩
  refine List.forall_mem_cons.mpr ⟨zo_none_tl, ?_⟩
  refine List.forall_mem_cons.mpr ⟨(zo_goto_tl _), ?_⟩
  refine List.forall_mem_cons.mpr ⟨zo_none_tl, ?_⟩
  refine List.forall_mem_cons.mpr ⟨zo_none_tl, ?_⟩
  refine List.forall_mem_cons.mpr ⟨(zo_aload_tl _ _), ?_⟩
  refine List.forall_mem_cons.mpr ⟨(zo_aload_tl _ _), ?_⟩
  refine List.forall_mem_cons.mpr ⟨(zo_getf_tl _ _ _), ?_⟩
  refine List.forall_mem_cons.mpr ⟨zo_none_tl, ?_⟩
  refine List.forall_mem_cons.mpr ⟨zo_none_tl, ?_⟩
  refine List.forall_mem_cons.mpr ⟨(zo_iload_tl _ _), ?_⟩
  refine List.forall_mem_cons.mpr ⟨(zo_lald_tl _ _), ?_⟩
  refine List.forall_mem_cons.mpr ⟨(zo_pushI_tl _ _), ?_⟩
  refine List.forall_mem_cons.mpr ⟨zo_none_tl, ?_⟩
  refine List.forall_mem_cons.mpr ⟨(zo_pushI_tl _ _), ?_⟩
  refine List.forall_mem_cons.mpr ⟨(zo_callv_tl _ _ _ _), ?_⟩
  refine List.forall_mem_cons.mpr ⟨zo_none_tl, ?_⟩
  refine List.forall_mem_cons.mpr ⟨zo_none_tl, ?_⟩
  refine List.forall_mem_cons.mpr ⟨(zo_lstore_tl _ _), ?_⟩
  refine List.forall_mem_cons.mpr ⟨zo_none_tl, ?_⟩
  refine List.forall_mem_cons.mpr ⟨(zo_iload_tl _ _), ?_⟩
  refine List.forall_mem_cons.mpr ⟨zo_none_tl, ?_⟩
  refine List.forall_mem_cons.mpr ⟨(zo_if_tl _ _ _), ?_⟩
  refine List.forall_mem_cons.mpr ⟨zo_none_tl, ?_⟩
  refine List.forall_mem_cons.mpr ⟨zo_none_tl, ?_⟩
  refine List.forall_mem_cons.mpr ⟨(zo_aload_tl _ _), ?_⟩
  refine List.forall_mem_cons.mpr ⟨(zo_iload_tl _ _), ?_⟩
  refine List.forall_mem_cons.mpr ⟨(zo_lload_tl _ _), ?_⟩
  refine List.forall_mem_cons.mpr ⟨zo_none_tl, ?_⟩
  refine List.forall_mem_cons.mpr ⟨(zo_aload_tl _ _), ?_⟩
  refine List.forall_mem_cons.mpr ⟨(zo_getf_tl _ _ _), ?_⟩
  refine List.forall_mem_cons.mpr ⟨zo_none_tl, ?_⟩
  refine List.forall_mem_cons.mpr ⟨zo_none_tl, ?_⟩
  refine List.forall_mem_cons.mpr ⟨(zo_iload_tl _ _), ?_⟩
  refine List.forall_mem_cons.mpr ⟨(zo_lald_tl _ _), ?_⟩
  refine List.forall_mem_cons.mpr ⟨(zo_callv_tl _ _ _ _), ?_⟩
  refine List.forall_mem_cons.mpr ⟨zo_none_tl, ?_⟩
  refine List.forall_mem_cons.mpr ⟨zo_none_tl, ?_⟩
  refine List.forall_mem_cons.mpr ⟨(zo_if_tl _ _ _), ?_⟩
  refine List.forall_mem_cons.mpr ⟨zo_none_tl, ?_⟩
  refine List.forall_mem_cons.mpr ⟨zo_none_tl, ?_⟩
  refine List.forall_mem_cons.mpr ⟨(zo_pushI_tl _ _), ?_⟩
  refine List.forall_mem_cons.mpr ⟨(zo_goto_tl _), ?_⟩
  refine List.forall_mem_cons.mpr ⟨zo_none_tl, ?_⟩
  refine List.forall_mem_cons.mpr ⟨zo_none_tl, ?_⟩
  refine List.forall_mem_cons.mpr ⟨(zo_pushI_tl _ _), ?_⟩
  refine List.forall_mem_cons.mpr ⟨(zo_istore_tl _ _), ?_⟩
  refine List.forall_mem_cons.mpr ⟨(zo_iinc_tl _ _ _), ?_⟩
  refine List.forall_mem_cons.mpr ⟨zo_none_tl, ?_⟩
  refine List.forall_mem_cons.mpr ⟨zo_none_tl, ?_⟩
  refine List.forall_mem_cons.mpr ⟨(zo_goto_tl _), ?_⟩
  refine List.forall_mem_cons.mpr ⟨zo_none_tl, ?_⟩
  refine List.forall_mem_cons.mpr ⟨zo_none_tl, ?_⟩
  refine List.forall_mem_cons.mpr ⟨(zo_iload_tl _ _), ?_⟩
  refine List.forall_mem_cons.mpr ⟨(zo_iret_tl _), ?_⟩
  exact fun _ h => absurd h List.not_mem_nil
noncomputable def fX12_passesOn : zzFn := zz_fn tX12_passesOn 8
set_option maxRecDepth 100000 in
set_option maxHeartbeats 4000000 in
theorem mm_X12_passesOn {l : Launch} {D : va_G} {cA : Nat → ClassId} {ad : Nat → Nat} {Ex : (Nat → Prop) → State → Heap → Prop} (Wd : zzWR l D cA ad Ex) : zz_Cn l D zzCl cA ad zzSR Ex yX12_passesOn cX12_passesOn 8 (some .boolean) 3 79 fX12_passesOn ∧ zz_Cx l D zzCl cA ad zzSR Ex yX12_passesOn cX12_passesOn 8 (some .boolean) 3 79 fX12_passesOn := by
  refine zz_meth (plainFor_of_name (by decide)) Wd.1 Wd.2.1 Wd.2.2 (fun p e R s m args below meth c rr X => ?_)
  unfold tX12_passesOn
  refine zz_cons (k' := 1) rfl (zk_iconst X dX12_passesOn_0 (by decide) rfl) ?_
  refine zz_cons (k' := 2) rfl (zk_istore_n X dX12_passesOn_1 rfl (by decide) rfl) ?_
  refine zz_cons (k' := 3) rfl (zk_iconst X dX12_passesOn_2 (by decide) rfl) ?_
  refine zz_cons (k' := 4) rfl (zk_istore_n X dX12_passesOn_3 rfl (by decide) rfl) ?_
  refine zz_cons (k' := 5) rfl (zk_iload_n X dX12_passesOn_4 rfl rfl) ?_
  refine zz_cons (k' := 6) rfl (zk_aload_n X dX12_passesOn_5 rfl rfl) ?_
  refine zz_cons (k' := 7) rfl (zk_getf X ff_X12_137 dX12_passesOn_6 rfl) ?_
  refine zz_cons (k' := 8) rfl (zz_Ok_none _ _) ?_
  refine zz_cons (k' := 9) rfl (zz_Ok_none _ _) ?_
  refine zz_cons (k' := 10) rfl (zk_icmp_ge X dX12_passesOn_9 (by decide) rfl) ?_
  refine zz_cons (k' := 11) rfl (zz_Ok_none _ _) ?_
  refine zz_cons (k' := 12) rfl (zz_Ok_none _ _) ?_
  refine zz_cons (k' := 13) rfl (zk_iload_n X dX12_passesOn_12 rfl rfl) ?_
  refine zz_cons (k' := 14) rfl (zk_if_eq X dX12_passesOn_13 (by decide) rfl) ?_
  refine zz_cons (k' := 15) rfl (zz_Ok_none _ _) ?_
  refine zz_cons (k' := 16) rfl (zz_Ok_none _ _) ?_
  refine zz_cons (k' := 17) rfl (zk_aload_n X dX12_passesOn_16 rfl rfl) ?_
  refine zz_cons (k' := 18) rfl (zk_iload_n X dX12_passesOn_17 rfl rfl) ?_
  refine zz_cons (k' := 19) rfl (zk_callv X (zz_Cv_of (List.forall_mem_cons.mpr ⟨⟨(RX_10, zzT10, 50), yX12_isGoneThere, cX12_isGoneThere, 2, (some .boolean), 2, 45, rfl, kv_X12_211_10.1, (mm_X12_isGoneThere Wd).1, by decide, by decide⟩, (fun _ h => absurd h List.not_mem_nil)⟩)) dX12_passesOn_18 rfl) ?_
  refine zz_cons (k' := 20) rfl (zz_Ok_none _ _) ?_
  refine zz_cons (k' := 21) rfl (zz_Ok_none _ _) ?_
  refine zz_cons (k' := 22) rfl (zk_if_ne X dX12_passesOn_21 (by decide) rfl) ?_
  refine zz_cons (k' := 23) rfl (zz_Ok_none _ _) ?_
  refine zz_cons (k' := 24) rfl (zz_Ok_none _ _) ?_
  refine zz_cons (k' := 25) rfl (zk_aload_n X dX12_passesOn_24 rfl rfl) ?_
  refine zz_cons (k' := 26) rfl (zk_aload_n X dX12_passesOn_25 rfl rfl) ?_
  refine zz_cons (k' := 27) rfl (zk_iload_n X dX12_passesOn_26 rfl rfl) ?_
  refine zz_cons (k' := 28) rfl (zk_callv X (zz_Cv_of (List.forall_mem_cons.mpr ⟨⟨(RX_10, zzT10, 50), yX12_view, cX12_view, 2, (some .long), 0, 0, rfl, kv_X12_196_10.1, (mm_X12_view Wd).1, by decide, by decide⟩, (fun _ h => absurd h List.not_mem_nil)⟩)) dX12_passesOn_27 rfl) ?_
  refine zz_cons (k' := 29) rfl (zz_Ok_none _ _) ?_
  refine zz_cons (k' := 30) rfl (zz_Ok_none _ _) ?_
  refine zz_cons (k' := 31) rfl (zk_callv X (zz_Cv_of (List.forall_mem_cons.mpr ⟨⟨(RX_10, zzT10, 50), yX12_ownerIn, cX12_ownerIn, 3, (some .int), 1, 23, rfl, kv_X12_214_10.1, (mm_X12_ownerIn Wd).1, by decide, by decide⟩, (fun _ h => absurd h List.not_mem_nil)⟩)) dX12_passesOn_30 rfl) ?_
  refine zz_cons (k' := 32) rfl (zz_Ok_none _ _) ?_
  refine zz_cons (k' := 33) rfl (zz_Ok_none _ _) ?_
  refine zz_cons (k' := 34) rfl (zk_aload_n X dX12_passesOn_33 rfl rfl) ?_
  refine zz_cons (k' := 35) rfl (zk_getf X ff_X12_243 dX12_passesOn_34 rfl) ?_
  refine zz_cons (k' := 36) rfl (zz_Ok_none _ _) ?_
  refine zz_cons (k' := 37) rfl (zz_Ok_none _ _) ?_
  refine zz_cons (k' := 38) rfl (zk_icmp_ne X dX12_passesOn_37 (by decide) rfl) ?_
  refine zz_cons (k' := 39) rfl (zz_Ok_none _ _) ?_
  refine zz_cons (k' := 40) rfl (zz_Ok_none _ _) ?_
  refine zz_cons (k' := 41) rfl (zk_iconst X dX12_passesOn_40 (by decide) rfl) ?_
  refine zz_cons (k' := 42) rfl (zk_goto X dX12_passesOn_41 (by decide)) ?_
  refine zz_cons (k' := 43) rfl (zz_Ok_none _ _) ?_
  refine zz_cons (k' := 44) rfl (zz_Ok_none _ _) ?_
  refine zz_cons (k' := 45) rfl (zk_iconst X dX12_passesOn_44 (by decide) rfl) ?_
  refine zz_cons (k' := 46) rfl (zk_istore X dX12_passesOn_45 (by decide) rfl) ?_
  refine zz_cons (k' := 47) rfl (zz_Ok_none _ _) ?_
  refine zz_cons (k' := 48) rfl (zk_iload X dX12_passesOn_47 rfl) ?_
  refine zz_cons (k' := 49) rfl (zz_Ok_none _ _) ?_
  refine zz_cons (k' := 50) rfl (zk_if_eq X dX12_passesOn_49 (by decide) rfl) ?_
  refine zz_cons (k' := 51) rfl (zz_Ok_none _ _) ?_
  refine zz_cons (k' := 52) rfl (zz_Ok_none _ _) ?_
  refine zz_cons (k' := 53) rfl (zk_iload_n X dX12_passesOn_52 rfl rfl) ?_
  refine zz_cons (k' := 54) rfl (zk_iconst X dX12_passesOn_53 (by decide) rfl) ?_
  refine zz_cons (k' := 55) rfl (zk_icmp_eq X dX12_passesOn_54 (by decide) rfl) ?_
  refine zz_cons (k' := 56) rfl (zz_Ok_none _ _) ?_
  refine zz_cons (k' := 57) rfl (zz_Ok_none _ _) ?_
  refine zz_cons (k' := 58) rfl (zk_aload_n X dX12_passesOn_57 rfl rfl) ?_
  refine zz_cons (k' := 59) rfl (zk_iload_n X dX12_passesOn_58 rfl rfl) ?_
  refine zz_cons (k' := 60) rfl (zk_bipush X dX12_passesOn_59 (by decide) rfl) ?_
  refine zz_cons (k' := 61) rfl (zz_Ok_none _ _) ?_
  refine zz_cons (k' := 62) rfl (zk_callv X (zz_Cv_of (List.forall_mem_cons.mpr ⟨⟨(RX_10, zzT10, 50), yX12_viewed, cX12_viewed, 3, (some .int), 1, 23, rfl, kv_X12_204_10.1, (mm_X12_viewed Wd).1, by decide, by decide⟩, (fun _ h => absurd h List.not_mem_nil)⟩)) dX12_passesOn_61 rfl) ?_
  refine zz_cons (k' := 63) rfl (zz_Ok_none _ _) ?_
  refine zz_cons (k' := 64) rfl (zz_Ok_none _ _) ?_
  refine zz_cons (k' := 65) rfl (zk_if_ne X dX12_passesOn_64 (by decide) rfl) ?_
  refine zz_cons (k' := 66) rfl (zz_Ok_none _ _) ?_
  refine zz_cons (k' := 67) rfl (zz_Ok_none _ _) ?_
  refine zz_cons (k' := 68) rfl (zk_iconst X dX12_passesOn_67 (by decide) rfl) ?_
  refine zz_cons (k' := 69) rfl (zk_goto X dX12_passesOn_68 (by decide)) ?_
  refine zz_cons (k' := 70) rfl (zz_Ok_none _ _) ?_
  refine zz_cons (k' := 71) rfl (zz_Ok_none _ _) ?_
  refine zz_cons (k' := 72) rfl (zk_iconst X dX12_passesOn_71 (by decide) rfl) ?_
  refine zz_cons (k' := 73) rfl (zk_istore X dX12_passesOn_72 (by decide) rfl) ?_
  refine zz_cons (k' := 74) rfl (zz_Ok_none _ _) ?_
  refine zz_cons (k' := 75) rfl (zk_iload_n X dX12_passesOn_74 rfl rfl) ?_
  refine zz_cons (k' := 76) rfl (zk_iconst X dX12_passesOn_75 (by decide) rfl) ?_
  refine zz_cons (k' := 77) rfl (zk_icmp_ne X dX12_passesOn_76 (by decide) rfl) ?_
  refine zz_cons (k' := 78) rfl (zz_Ok_none _ _) ?_
  refine zz_cons (k' := 79) rfl (zz_Ok_none _ _) ?_
  refine zz_cons (k' := 80) rfl (zk_aload_n X dX12_passesOn_79 rfl rfl) ?_
  refine zz_cons (k' := 81) rfl (zk_aload_n X dX12_passesOn_80 rfl rfl) ?_
  refine zz_cons (k' := 82) rfl (zk_getf X ff_X12_28 dX12_passesOn_81 rfl) ?_
  refine zz_cons (k' := 83) rfl (zz_Ok_none _ _) ?_
  refine zz_cons (k' := 84) rfl (zz_Ok_none _ _) ?_
  refine zz_cons (k' := 85) rfl (zk_iload_n X dX12_passesOn_84 rfl rfl) ?_
  refine zz_cons (k' := 86) rfl (zk_lald X dX12_passesOn_85 rfl) ?_
  refine zz_cons (k' := 87) rfl (zk_bipush X dX12_passesOn_86 (by decide) rfl) ?_
  refine zz_cons (k' := 88) rfl (zz_Ok_none _ _) ?_
  refine zz_cons (k' := 89) rfl (zk_iconst X dX12_passesOn_88 (by decide) rfl) ?_
  refine zz_cons (k' := 90) rfl (zk_callv X (zz_Cv_of (List.forall_mem_cons.mpr ⟨⟨(RX_10, zzT10, 50), yX12_with, cX12_with, 7, (some .long), 0, 0, rfl, kv_X12_150_10.1, (mm_X12_with Wd).1, by decide, by decide⟩, (fun _ h => absurd h List.not_mem_nil)⟩)) dX12_passesOn_89 rfl) ?_
  refine zz_cons (k' := 91) rfl (zz_Ok_none _ _) ?_
  refine zz_cons (k' := 92) rfl (zz_Ok_none _ _) ?_
  refine zz_cons (k' := 93) rfl (zk_goto X dX12_passesOn_92 (by decide)) ?_
  refine zz_cons (k' := 94) rfl (zz_Ok_none _ _) ?_
  refine zz_cons (k' := 95) rfl (zz_Ok_none _ _) ?_
  refine zz_cons (k' := 96) rfl (zk_aload_n X dX12_passesOn_95 rfl rfl) ?_
  refine zz_cons (k' := 97) rfl (zk_aload_n X dX12_passesOn_96 rfl rfl) ?_
  refine zz_cons (k' := 98) rfl (zk_getf X ff_X12_28 dX12_passesOn_97 rfl) ?_
  refine zz_cons (k' := 99) rfl (zz_Ok_none _ _) ?_
  refine zz_cons (k' := 100) rfl (zz_Ok_none _ _) ?_
  refine zz_cons (k' := 101) rfl (zk_iload_n X dX12_passesOn_100 rfl rfl) ?_
  refine zz_cons (k' := 102) rfl (zk_lald X dX12_passesOn_101 rfl) ?_
  refine zz_cons (k' := 103) rfl (zk_bipush X dX12_passesOn_102 (by decide) rfl) ?_
  refine zz_cons (k' := 104) rfl (zz_Ok_none _ _) ?_
  refine zz_cons (k' := 105) rfl (zk_iconst X dX12_passesOn_104 (by decide) rfl) ?_
  refine zz_cons (k' := 106) rfl (zk_callv X (zz_Cv_of (List.forall_mem_cons.mpr ⟨⟨(RX_10, zzT10, 50), yX12_with, cX12_with, 7, (some .long), 0, 0, rfl, kv_X12_150_10.1, (mm_X12_with Wd).1, by decide, by decide⟩, (fun _ h => absurd h List.not_mem_nil)⟩)) dX12_passesOn_105 rfl) ?_
  refine zz_cons (k' := 107) rfl (zz_Ok_none _ _) ?_
  refine zz_cons (k' := 108) rfl (zz_Ok_none _ _) ?_
  refine zz_cons (k' := 109) rfl (zk_lstore X dX12_passesOn_108 (by decide) rfl) ?_
  refine zz_cons (k' := 110) rfl (zz_Ok_none _ _) ?_
  refine zz_cons (k' := 111) rfl (zk_iload X dX12_passesOn_110 rfl) ?_
  refine zz_cons (k' := 112) rfl (zz_Ok_none _ _) ?_
  refine zz_cons (k' := 113) rfl (zk_if_eq X dX12_passesOn_112 (by decide) rfl) ?_
  refine zz_cons (k' := 114) rfl (zz_Ok_none _ _) ?_
  refine zz_cons (k' := 115) rfl (zz_Ok_none _ _) ?_
  refine zz_cons (k' := 116) rfl (zk_aload_n X dX12_passesOn_115 rfl rfl) ?_
  refine zz_cons (k' := 117) rfl (zk_iload_n X dX12_passesOn_116 rfl rfl) ?_
  refine zz_cons (k' := 118) rfl (zk_lload X dX12_passesOn_117 rfl) ?_
  refine zz_cons (k' := 119) rfl (zz_Ok_none _ _) ?_
  refine zz_cons (k' := 120) rfl (zk_aload_n X dX12_passesOn_119 rfl rfl) ?_
  refine zz_cons (k' := 121) rfl (zk_getf X ff_X12_32 dX12_passesOn_120 rfl) ?_
  refine zz_cons (k' := 122) rfl (zz_Ok_none _ _) ?_
  refine zz_cons (k' := 123) rfl (zz_Ok_none _ _) ?_
  refine zz_cons (k' := 124) rfl (zk_iload_n X dX12_passesOn_123 rfl rfl) ?_
  refine zz_cons (k' := 125) rfl (zk_lald X dX12_passesOn_124 rfl) ?_
  refine zz_cons (k' := 126) rfl (zk_callv X (zz_Cv_of (List.forall_mem_cons.mpr ⟨⟨(RX_10, zzT10, 50), yX12_writesIt, cX12_writesIt, 8, (some .boolean), 2, 52, rfl, kv_X12_261_10.1, (mm_X12_writesIt Wd).1, by decide, by decide⟩, (fun _ h => absurd h List.not_mem_nil)⟩)) dX12_passesOn_125 rfl) ?_
  refine zz_cons (k' := 127) rfl (zz_Ok_none _ _) ?_
  refine zz_cons (k' := 128) rfl (zz_Ok_none _ _) ?_
  refine zz_cons (k' := 129) rfl (zk_if_eq X dX12_passesOn_128 (by decide) rfl) ?_
  refine zz_cons (k' := 130) rfl (zz_Ok_none _ _) ?_
  refine zz_cons (k' := 131) rfl (zz_Ok_none _ _) ?_
  refine zz_cons (k' := 132) rfl (zk_iconst X dX12_passesOn_131 (by decide) rfl) ?_
  refine zz_cons (k' := 133) rfl (zk_goto X dX12_passesOn_132 (by decide)) ?_
  refine zz_cons (k' := 134) rfl (zz_Ok_none _ _) ?_
  refine zz_cons (k' := 135) rfl (zz_Ok_none _ _) ?_
  refine zz_cons (k' := 136) rfl (zk_iconst X dX12_passesOn_135 (by decide) rfl) ?_
  refine zz_cons (k' := 137) rfl (zk_istore_n X dX12_passesOn_136 rfl (by decide) rfl) ?_
  refine zz_cons (k' := 138) rfl (zk_iinc X dX12_passesOn_137 (by decide) (by decide) rfl) ?_
  refine zz_cons (k' := 139) rfl (zz_Ok_none _ _) ?_
  refine zz_cons (k' := 140) rfl (zz_Ok_none _ _) ?_
  refine zz_cons (k' := 141) rfl (zk_goto X dX12_passesOn_140 (by decide)) ?_
  refine zz_cons (k' := 142) rfl (zz_Ok_none _ _) ?_
  refine zz_cons (k' := 143) rfl (zz_Ok_none _ _) ?_
  refine zz_cons (k' := 144) rfl (zk_iload_n X dX12_passesOn_143 rfl rfl) ?_
  refine zz_cons (k' := 145) rfl (zk_iret X rfl dX12_passesOn_144) ?_
  exact trivial
end

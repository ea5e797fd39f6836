section
noncomputable def tX12_isCurrent : List zzOp := [
  zo_aload 0 1,
  zo_getf zzSR (zz_kf [10] 9) 4,
  zo_none,
  zo_none,
  zo_iload 1 5,
  zo_iald zzSR zzSTR 6,
  zo_aload 0 7,
  zo_getf zzSR (zz_kf [10] 36) 10,
  zo_none,
  zo_none,
  zo_pushI 60 12,
  zo_none,
  zo_aload 0 13,
  zo_getf zzSR (zz_kf [10] 42) 16,
  zo_none,
  zo_none,
  zo_ii (fun x y => x * y) 17,
  zo_iload 1 18,
  zo_ii (fun x y => x + y) 19,
  zo_iald zzSR zzSTR 20,
  zo_icmp (fun x y => decide (¬ x = y)) 27 23,
  zo_none,
  zo_none,
  zo_pushI 1 24,
  zo_goto 28,
  zo_none,
  zo_none,
  zo_pushI 0 28,
  zo_iret true]
set_option maxRecDepth 100000 in
theorem tl_X12_isCurrent : ∀ pc, zz_Tl (tX12_isCurrent.getD pc zo_none) := by
  refine zz_Tl_mem ?_
  unfold tX12_isCurrent
  refine List.forall_mem_cons.mpr ⟨(zo_aload_tl _ _), ?_⟩
  refine List.forall_mem_cons.mpr ⟨(zo_getf_tl _ _ _), ?_⟩
  refine List.forall_mem_cons.mpr ⟨zo_none_tl, ?_⟩
  refine List.forall_mem_cons.mpr ⟨zo_none_tl, ?_⟩
  refine List.forall_mem_cons.mpr ⟨(zo_iload_tl _ _), ?_⟩
  refine List.forall_mem_cons.mpr ⟨(zo_iald_tl _ _ _), ?_⟩
  refine List.forall_mem_cons.mpr ⟨(zo_aload_tl _ _), ?_⟩
  refine List.forall_mem_cons.mpr ⟨(zo_getf_tl _ _ _), ?_⟩
  refine List.forall_mem_cons.mpr ⟨zo_none_tl, ?_⟩
  refine List.forall_mem_cons.mpr ⟨zo_none_tl, ?_⟩
  refine List.forall_mem_cons.mpr ⟨(zo_pushI_tl _ _), ?_⟩
  refine List.forall_mem_cons.mpr ⟨zo_none_tl, ?_⟩
  refine List.forall_mem_cons.mpr ⟨(zo_aload_tl _ _), ?_⟩
  refine List.forall_mem_cons.mpr ⟨(zo_getf_tl _ _ _), ?_⟩
  refine List.forall_mem_cons.mpr ⟨zo_none_tl, ?_⟩
  refine List.forall_mem_cons.mpr ⟨zo_none_tl, ?_⟩
  refine List.forall_mem_cons.mpr ⟨(zo_ii_tl _ _), ?_⟩
  refine List.forall_mem_cons.mpr ⟨(zo_iload_tl _ _), ?_⟩
  refine List.forall_mem_cons.mpr ⟨(zo_ii_tl _ _), ?_⟩
  refine List.forall_mem_cons.mpr ⟨(zo_iald_tl _ _ _), ?_⟩
  refine List.forall_mem_cons.mpr ⟨(zo_icmp_tl _ _ _), ?_⟩
  refine List.forall_mem_cons.mpr ⟨zo_none_tl, ?_⟩
  refine List.forall_mem_cons.mpr ⟨zo_none_tl, ?_⟩
  refine List.forall_mem_cons.mpr ⟨(zo_pushI_tl _ _), ?_⟩
  refine List.forall_mem_cons.mpr ⟨(zo_goto_tl _), ?_⟩
  refine List.forall_mem_cons.mpr ⟨zo_none_tl, ?_⟩
  refine List.forall_mem_cons.mpr ⟨zo_none_tl, ?_⟩
  refine List.forall_mem_cons.mpr ⟨(zo_pushI_tl _ _), ?_⟩
  refine List.forall_mem_cons.mpr ⟨(zo_iret_tl _), ?_⟩
  exact fun _ h => absurd h List.not_mem_nil
noncomputable def fX12_isCurrent : zzFn := zz_fn tX12_isCurrent 2
noncomputable def tX12_writesIt : List zzOp := [
  zo_aload 0 1,
  zo_getf zzSR (zz_kf [10] 14) 4,
  zo_none,
  zo_none,
  zo_istore 6 6,
  zo_none,
  zo_aload 0 7,
  zo_iload 1 8,
  zo_callv zzSR (zz_cl [(10, fX12_isCurrent)]) 1 11,
  zo_none,
  zo_none,
  zo_if (fun x => decide (x = 0)) 30 14,
  zo_none,
  zo_none,
  zo_aload 0 15,
  zo_iload 1 16,
  zo_lload 2 17,
  zo_lload 4 19,
  zo_none,
  zo_pushI 0 20,
  zo_callv zzSR (zz_cl [(10, fX12_puts)]) 4 23,
  zo_none,
  zo_none,
  zo_if (fun x => decide (x = 0)) 30 26,
  zo_none,
  zo_none,
  zo_pushI 1 27,
  zo_goto 31,
  zo_none,
  zo_none,
  zo_pushI 0 31,
  zo_istore 7 33,
  zo_none,
  zo_aload 0 34,
  zo_iload 6 36,
  zo_none,
  zo_callv zzSR (zz_cl [(10, fX12_wrote)]) 1 39,
  zo_none,
  zo_none,
  zo_iload 7 41,
  zo_none,
  zo_iret true]
set_option maxRecDepth 100000 in
theorem tl_X12_writesIt : ∀ pc, zz_Tl (tX12_writesIt.getD pc zo_none) := by
  refine zz_Tl_mem ?_
  unfold tX12_writesIt
  refine List.forall_mem_cons.mpr ⟨(zo_aload_tl _ _), ?_⟩
  refine List.forall_mem_cons.mpr ⟨(zo_getf_tl _ _ _), ?_⟩
  refine List.forall_mem_cons.mpr ⟨zo_none_tl, ?_⟩
  refine List.forall_mem_cons.mpr ⟨zo_none_tl, ?_⟩
  refine List.forall_mem_cons.mpr ⟨(zo_istore_tl _ _), ?_⟩
  refine List.forall_mem_cons.mpr ⟨zo_none_tl, ?_⟩
  refine List.forall_mem_cons.mpr ⟨(zo_aload_tl _ _), ?_⟩
  refine List.forall_mem_cons.mpr ⟨(zo_iload_tl _ _), ?_⟩
  refine List.forall_mem_cons.mpr ⟨(zo_callv_tl _ _ _ _), ?_⟩
  refine List.forall_mem_cons.mpr ⟨zo_none_tl, ?_⟩
  refine List.forall_mem_cons.mpr ⟨zo_none_tl, ?_⟩
  refine List.forall_mem_cons.mpr ⟨(zo_if_tl _ _ _), ?_⟩
  refine List.forall_mem_cons.mpr ⟨zo_none_tl, ?_⟩
  refine List.forall_mem_cons.mpr ⟨zo_none_tl, ?_⟩
  refine List.forall_mem_cons.mpr ⟨(zo_aload_tl _ _), ?_⟩
  refine List.forall_mem_cons.mpr ⟨(zo_iload_tl _ _), ?_⟩
  refine List.forall_mem_cons.mpr ⟨(zo_lload_tl _ _), ?_⟩
  refine List.forall_mem_cons.mpr ⟨(zo_lload_tl _ _), ?_⟩
  refine List.forall_mem_cons.mpr ⟨zo_none_tl, ?_⟩
  refine List.forall_mem_cons.mpr ⟨(zo_pushI_tl _ _), ?_⟩
  refine List.forall_mem_cons.mpr ⟨(zo_callv_tl _ _ _ _), ?_⟩
  refine List.forall_mem_cons.mpr ⟨zo_none_tl, ?_⟩
  refine List.forall_mem_cons.mpr ⟨zo_none_tl, ?_⟩
  refine List.forall_mem_cons.mpr ⟨(zo_if_tl _ _ _), ?_⟩
  refine List.forall_mem_cons.mpr ⟨zo_none_tl, ?_⟩
  refine List.forall_mem_cons.mpr ⟨zo_none_tl, ?_⟩
  refine List.forall_mem_cons.mpr ⟨(zo_pushI_tl _ _), ?_⟩
  refine List.forall_mem_cons.mpr ⟨(zo_goto_tl _), ?_⟩
  refine List.forall_mem_cons.mpr ⟨zo_none_tl, ?_⟩
  refine List.forall_mem_cons.mpr ⟨zo_none_tl, ?_⟩
  refine List.forall_mem_cons.mpr ⟨(zo_pushI_tl _ _), ?_⟩
  refine List.forall_mem_cons.mpr ⟨(zo_istore_tl _ _), ?_⟩
  refine List.forall_mem_cons.mpr ⟨zo_none_tl, ?_⟩
  refine List.forall_mem_cons.mpr ⟨(zo_aload_tl _ _), ?_⟩
  refine List.forall_mem_cons.mpr ⟨(zo_iload_tl _ _), ?_⟩
  refine List.forall_mem_cons.mpr ⟨zo_none_tl, ?_⟩
  refine List.forall_mem_cons.mpr ⟨(zo_callv_tl _ _ _ _), ?_⟩
  refine List.forall_mem_cons.mpr ⟨zo_none_tl, ?_⟩
  refine List.forall_mem_cons.mpr ⟨zo_none_tl, ?_⟩
  refine List.forall_mem_cons.mpr ⟨(zo_iload_tl _ _), ?_⟩
  refine List.forall_mem_cons.mpr ⟨zo_none_tl, ?_⟩
  refine List.forall_mem_cons.mpr ⟨(zo_iret_tl _), ?_⟩
  exact fun _ h => absurd h List.not_mem_nil
noncomputable def fX12_writesIt : zzFn := zz_fn tX12_writesIt 8
noncomputable def tX12_wants : List zzOp := [
  zo_aload 0 1,
  zo_getf zzSR (zz_kf [10] 14) 4,
  zo_none,
  zo_none,
  zo_istore 3 5,
  zo_aload 0 6,
  zo_iload 1 7,
  zo_callv zzSR (zz_cl [(10, fX12_isCurrent)]) 1 10,
  zo_none,
  zo_none,
  zo_if (fun x => decide (x = 0)) 28 13,
  zo_none,
  zo_none,
  zo_aload 0 14,
  zo_pushI 4 15,
  zo_iload 1 16,
  zo_pushI 0 17,
  zo_iload 2 18,
  zo_callv zzSR (zz_cl [(10, fX12_applies)]) 4 21,
  zo_none,
  zo_none,
  zo_if (fun x => decide (x = 0)) 28 24,
  zo_none,
  zo_none,
  zo_pushI 1 25,
  zo_goto 29,
  zo_none,
  zo_none,
  zo_pushI 0 29,
  zo_istore 4 31,
  zo_none,
  zo_aload 0 32,
  zo_iload 3 33,
  zo_callv zzSR (zz_cl [(10, fX12_wrote)]) 1 36,
  zo_none,
  zo_none,
  zo_iload 4 38,
  zo_none,
  zo_iret true]
set_option maxRecDepth 100000 in
theorem tl_X12_wants : ∀ pc, zz_Tl (tX12_wants.getD pc zo_none) := by
  refine zz_Tl_mem ?_
  unfold tX12_wants
  refine List.forall_mem_cons.mpr ⟨(zo_aload_tl _ _), ?_⟩
  refine List.forall_mem_cons.mpr ⟨(zo_getf_tl _ _ _), ?_⟩
  refine List.forall_mem_cons.mpr ⟨zo_none_tl, ?_⟩
  refine List.forall_mem_cons.mpr ⟨zo_none_tl, ?_⟩
  refine List.forall_mem_cons.mpr ⟨(zo_istore_tl _ _), ?_⟩
  refine List.forall_mem_cons.mpr ⟨(zo_aload_tl _ _), ?_⟩
  refine List.forall_mem_cons.mpr ⟨(zo_iload_tl _ _), ?_⟩
  refine List.forall_mem_cons.mpr ⟨(zo_callv_tl _ _ _ _), ?_⟩
  refine List.forall_mem_cons.mpr ⟨zo_none_tl, ?_⟩
  refine List.forall_mem_cons.mpr ⟨zo_none_tl, ?_⟩
  refine List.forall_mem_cons.mpr ⟨(zo_if_tl _ _ _), ?_⟩
  refine List.forall_mem_cons.mpr ⟨zo_none_tl, ?_⟩
  refine List.forall_mem_cons.mpr ⟨zo_none_tl, ?_⟩
  refine List.forall_mem_cons.mpr ⟨(zo_aload_tl _ _), ?_⟩
  refine List.forall_mem_cons.mpr ⟨(zo_pushI_tl _ _), ?_⟩
  refine List.forall_mem_cons.mpr ⟨(zo_iload_tl _ _), ?_⟩
  refine List.forall_mem_cons.mpr ⟨(zo_pushI_tl _ _), ?_⟩
  refine List.forall_mem_cons.mpr ⟨(zo_iload_tl _ _), ?_⟩
  refine List.forall_mem_cons.mpr ⟨(zo_callv_tl _ _ _ _), ?_⟩
  refine List.forall_mem_cons.mpr ⟨zo_none_tl, ?_⟩
  refine List.forall_mem_cons.mpr ⟨zo_none_tl, ?_⟩
  refine List.forall_mem_cons.mpr ⟨(zo_if_tl _ _ _), ?_⟩
  refine List.forall_mem_cons.mpr ⟨zo_none_tl, ?_⟩
  refine List.forall_mem_cons.mpr ⟨zo_none_tl, ?_⟩
  refine List.forall_mem_cons.mpr ⟨(zo_pushI_tl _ _), ?_⟩
  refine List.forall_mem_cons.mpr ⟨(zo_goto_tl _), ?_⟩
  refine List.forall_mem_cons.mpr ⟨zo_none_tl, ?_⟩
  refine List.forall_mem_cons.mpr ⟨zo_none_tl, ?_⟩
  refine List.forall_mem_cons.mpr ⟨(zo_pushI_tl _ _), ?_⟩
  refine List.forall_mem_cons.mpr ⟨(zo_istore_tl _ _), ?_⟩
  refine List.forall_mem_cons.mpr ⟨zo_none_tl, ?_⟩
  refine List.forall_mem_cons.mpr ⟨(zo_aload_tl _ _), ?_⟩
  refine List.forall_mem_cons.mpr ⟨(zo_iload_tl _ _), ?_⟩
  refine List.forall_mem_cons.mpr ⟨(zo_callv_tl _ _ _ _), ?_⟩
  refine List.forall_mem_cons.mpr ⟨zo_none_tl, ?_⟩
  refine List.forall_mem_cons.mpr ⟨zo_none_tl, ?_⟩
  refine List.forall_mem_cons.mpr ⟨(zo_iload_tl _ _), ?_⟩
  refine List.forall_mem_cons.mpr ⟨zo_none_tl, ?_⟩
  refine List.forall_mem_cons.mpr ⟨(zo_iret_tl _), ?_⟩
  exact fun _ h => absurd h List.not_mem_nil
noncomputable def fX12_wants : zzFn := zz_fn tX12_wants 5
noncomputable def tX12_deletes : List zzOp := [
  zo_aload 0 1,
  zo_iload 1 2,
  zo_aload 0 3,
  zo_iload 1 4,
  zo_aload 0 5,
  zo_getf zzSR (zz_kf [10] 7) 8,
  zo_none,
  zo_none,
  zo_iload 1 9,
  zo_lald zzSR 10,
  zo_pushI 2 11,
  zo_callv zzSR (zz_cl [(10, fX12_deleted)]) 3 14,
  zo_none,
  zo_none,
  zo_aload 0 15,
  zo_getf zzSR (zz_kf [10] 8) 18,
  zo_none,
  zo_none,
  zo_iload 1 19,
  zo_lald zzSR 20,
  zo_callv zzSR (zz_cl [(10, fX12_writesIt)]) 3 23,
  zo_none,
  zo_none,
  zo_iret true]
set_option maxRecDepth 100000 in
theorem tl_X12_deletes : ∀ pc, zz_Tl (tX12_deletes.getD pc zo_none) := by
  refine zz_Tl_mem ?_
  unfold tX12_deletes
  refine List.forall_mem_cons.mpr ⟨(zo_aload_tl _ _), ?_⟩
  refine List.forall_mem_cons.mpr ⟨(zo_iload_tl _ _), ?_⟩
  refine List.forall_mem_cons.mpr ⟨(zo_aload_tl _ _), ?_⟩
  refine List.forall_mem_cons.mpr ⟨(zo_iload_tl _ _), ?_⟩
  refine List.forall_mem_cons.mpr ⟨(zo_aload_tl _ _), ?_⟩
  refine List.forall_mem_cons.mpr ⟨(zo_getf_tl _ _ _), ?_⟩
  refine List.forall_mem_cons.mpr ⟨zo_none_tl, ?_⟩
  refine List.forall_mem_cons.mpr ⟨zo_none_tl, ?_⟩
  refine List.forall_mem_cons.mpr ⟨(zo_iload_tl _ _), ?_⟩
  refine List.forall_mem_cons.mpr ⟨(zo_lald_tl _ _), ?_⟩
  refine List.forall_mem_cons.mpr ⟨(zo_pushI_tl _ _), ?_⟩
  refine List.forall_mem_cons.mpr ⟨(zo_callv_tl _ _ _ _), ?_⟩
  refine List.forall_mem_cons.mpr ⟨zo_none_tl, ?_⟩
  refine List.forall_mem_cons.mpr ⟨zo_none_tl, ?_⟩
  refine List.forall_mem_cons.mpr ⟨(zo_aload_tl _ _), ?_⟩
  refine List.forall_mem_cons.mpr ⟨(zo_getf_tl _ _ _), ?_⟩
  refine List.forall_mem_cons.mpr ⟨zo_none_tl, ?_⟩
  refine List.forall_mem_cons.mpr ⟨zo_none_tl, ?_⟩
  refine List.forall_mem_cons.mpr ⟨(zo_iload_tl _ _), ?_⟩
  refine List.forall_mem_cons.mpr ⟨(zo_lald_tl _ _), ?_⟩
  refine List.forall_mem_cons.mpr ⟨(zo_callv_tl _ _ _ _), ?_⟩
  refine List.forall_mem_cons.mpr ⟨zo_none_tl, ?_⟩
  refine List.forall_mem_cons.mpr ⟨zo_none_tl, ?_⟩
  refine List.forall_mem_cons.mpr ⟨(zo_iret_tl _), ?_⟩
  exact fun _ h => absurd h List.not_mem_nil
noncomputable def fX12_deletes : zzFn := zz_fn tX12_deletes 2
noncomputable def tX12_makesOne : List zzOp := [
  zo_aload 0 1,
  zo_getf zzSR (zz_kf [10] 14) 4,
  zo_none,
  zo_none,
  zo_istore 4 6,
  zo_none,
  zo_aload 0 7,
  zo_pushI 4 8,
  zo_iload 1 9,
  zo_iload 2 10,
  zo_iload 3 11,
  zo_callv zzSR (zz_cl [(10, fX12_makes)]) 4 14,
  zo_none,
  zo_none,
  zo_pushI (-1) 15,
  zo_icmp (fun x y => decide (x = y)) 22 18,
  zo_none,
  zo_none,
  zo_pushI 1 19,
  zo_goto 23,
  zo_none,
  zo_none,
  zo_pushI 0 23,
  zo_istore 5 25,
  zo_none,
  zo_aload 0 26,
  zo_iload 4 28,
  zo_none,
  zo_callv zzSR (zz_cl [(10, fX12_wrote)]) 1 31,
  zo_none,
  zo_none,
  zo_iload 5 33,
  zo_none,
  zo_iret true]
set_option maxRecDepth 100000 in
theorem tl_X12_makesOne : ∀ pc, zz_Tl (tX12_makesOne.getD pc zo_none) := by
  refine zz_Tl_mem ?_
  unfold tX12_makesOne
  refine List.forall_mem_cons.mpr ⟨(zo_aload_tl _ _), ?_⟩
  refine List.forall_mem_cons.mpr ⟨(zo_getf_tl _ _ _), ?_⟩
  refine List.forall_mem_cons.mpr ⟨zo_none_tl, ?_⟩
  refine List.forall_mem_cons.mpr ⟨zo_none_tl, ?_⟩
  refine List.forall_mem_cons.mpr ⟨(zo_istore_tl _ _), ?_⟩
  refine List.forall_mem_cons.mpr ⟨zo_none_tl, ?_⟩
  refine List.forall_mem_cons.mpr ⟨(zo_aload_tl _ _), ?_⟩
  refine List.forall_mem_cons.mpr ⟨(zo_pushI_tl _ _), ?_⟩
  refine List.forall_mem_cons.mpr ⟨(zo_iload_tl _ _), ?_⟩
  refine List.forall_mem_cons.mpr ⟨(zo_iload_tl _ _), ?_⟩
  refine List.forall_mem_cons.mpr ⟨(zo_iload_tl _ _), ?_⟩
  refine List.forall_mem_cons.mpr ⟨(zo_callv_tl _ _ _ _), ?_⟩
  refine List.forall_mem_cons.mpr ⟨zo_none_tl, ?_⟩
  refine List.forall_mem_cons.mpr ⟨zo_none_tl, ?_⟩
  refine List.forall_mem_cons.mpr ⟨(zo_pushI_tl _ _), ?_⟩
  refine List.forall_mem_cons.mpr ⟨(zo_icmp_tl _ _ _), ?_⟩
  refine List.forall_mem_cons.mpr ⟨zo_none_tl, ?_⟩
  refine List.forall_mem_cons.mpr ⟨zo_none_tl, ?_⟩
  refine List.forall_mem_cons.mpr ⟨(zo_pushI_tl _ _), ?_⟩
  refine List.forall_mem_cons.mpr ⟨(zo_goto_tl _), ?_⟩
  refine List.forall_mem_cons.mpr ⟨zo_none_tl, ?_⟩
  refine List.forall_mem_cons.mpr ⟨zo_none_tl, ?_⟩
  refine List.forall_mem_cons.mpr ⟨(zo_pushI_tl _ _), ?_⟩
  refine List.forall_mem_cons.mpr ⟨(zo_istore_tl _ _), ?_⟩
  refine List.forall_mem_cons.mpr ⟨zo_none_tl, ?_⟩
  refine List.forall_mem_cons.mpr ⟨(zo_aload_tl _ _), ?_⟩
  refine List.forall_mem_cons.mpr ⟨(zo_iload_tl _ _), ?_⟩
  refine List.forall_mem_cons.mpr ⟨zo_none_tl, ?_⟩
  refine List.forall_mem_cons.mpr ⟨(zo_callv_tl _ _ _ _), ?_⟩
  refine List.forall_mem_cons.mpr ⟨zo_none_tl, ?_⟩
  refine List.forall_mem_cons.mpr ⟨zo_none_tl, ?_⟩
  refine List.forall_mem_cons.mpr ⟨(zo_iload_tl _ _), ?_⟩
  refine List.forall_mem_cons.mpr ⟨zo_none_tl, ?_⟩
  refine List.forall_mem_cons.mpr ⟨(zo_iret_tl _), ?_⟩
  exact fun _ h => absurd h List.not_mem_nil
noncomputable def fX12_makesOne : zzFn := zz_fn tX12_makesOne 6
noncomputable def tX12_isOwned : List zzOp := [
  zo_aload 0 1,
  zo_iload 1 2,
  zo_iload 2 3,
  zo_callv zzSR (zz_cl [(10, fX12_stays)]) 2 6,
  zo_none,
  zo_none,
  zo_if (fun x => decide (x = 0)) 26 9,
  zo_none,
  zo_none,
  zo_aload 0 10,
  zo_aload 0 11,
  zo_iload 1 12,
  zo_callv zzSR (zz_cl [(10, fX12_view)]) 1 15,
  zo_none,
  zo_none,
  zo_callv zzSR (zz_cl [(10, fX12_ownerIn)]) 1 18,
  zo_none,
  zo_none,
  zo_iload 3 19,
  zo_icmp (fun x y => decide (¬ x = y)) 26 22,
  zo_none,
  zo_none,
  zo_pushI 1 23,
  zo_goto 27,
  zo_none,
  zo_none,
  zo_pushI 0 27,
  zo_iret true]
set_option maxRecDepth 100000 in
theorem tl_X12_isOwned : ∀ pc, zz_Tl (tX12_isOwned.getD pc zo_none) := by
  refine zz_Tl_mem ?_
  unfold tX12_isOwned
  refine List.forall_mem_cons.mpr ⟨(zo_aload_tl _ _), ?_⟩
  refine List.forall_mem_cons.mpr ⟨(zo_iload_tl _ _), ?_⟩
  refine List.forall_mem_cons.mpr ⟨(zo_iload_tl _ _), ?_⟩
  refine List.forall_mem_cons.mpr ⟨(zo_callv_tl _ _ _ _), ?_⟩
  refine List.forall_mem_cons.mpr ⟨zo_none_tl, ?_⟩
  refine List.forall_mem_cons.mpr ⟨zo_none_tl, ?_⟩
  refine List.forall_mem_cons.mpr ⟨(zo_if_tl _ _ _), ?_⟩
  refine List.forall_mem_cons.mpr ⟨zo_none_tl, ?_⟩
  refine List.forall_mem_cons.mpr ⟨zo_none_tl, ?_⟩
  refine List.forall_mem_cons.mpr ⟨(zo_aload_tl _ _), ?_⟩
  refine List.forall_mem_cons.mpr ⟨(zo_aload_tl _ _), ?_⟩
  refine List.forall_mem_cons.mpr ⟨(zo_iload_tl _ _), ?_⟩
  refine List.forall_mem_cons.mpr ⟨(zo_callv_tl _ _ _ _), ?_⟩
  refine List.forall_mem_cons.mpr ⟨zo_none_tl, ?_⟩
  refine List.forall_mem_cons.mpr ⟨zo_none_tl, ?_⟩
  refine List.forall_mem_cons.mpr ⟨(zo_callv_tl _ _ _ _), ?_⟩
  refine List.forall_mem_cons.mpr ⟨zo_none_tl, ?_⟩
  refine List.forall_mem_cons.mpr ⟨zo_none_tl, ?_⟩
  refine List.forall_mem_cons.mpr ⟨(zo_iload_tl _ _), ?_⟩
  refine List.forall_mem_cons.mpr ⟨(zo_icmp_tl _ _ _), ?_⟩
  refine List.forall_mem_cons.mpr ⟨zo_none_tl, ?_⟩
  refine List.forall_mem_cons.mpr ⟨zo_none_tl, ?_⟩
  refine List.forall_mem_cons.mpr ⟨(zo_pushI_tl _ _), ?_⟩
  refine List.forall_mem_cons.mpr ⟨(zo_goto_tl _), ?_⟩
  refine List.forall_mem_cons.mpr ⟨zo_none_tl, ?_⟩
  refine List.forall_mem_cons.mpr ⟨zo_none_tl, ?_⟩
  refine List.forall_mem_cons.mpr ⟨(zo_pushI_tl _ _), ?_⟩
  refine List.forall_mem_cons.mpr ⟨(zo_iret_tl _), ?_⟩
  exact fun _ h => absurd h List.not_mem_nil
noncomputable def fX12_isOwned : zzFn := zz_fn tX12_isOwned 4
noncomputable def tX12_pods : List zzOp := [
  zo_pushI 0 1,
  zo_istore 3 2,
  zo_pushI 0 3,
  zo_istore 4 5,
  zo_none,
  zo_iload 4 7,
  zo_none,
  zo_aload 0 8,
  zo_getf zzSR (zz_kf [10] 5) 11,
  zo_none,
  zo_none,
  zo_icmp (fun x y => decide (y ≤ x)) 55 14,
  zo_none,
  zo_none,
  zo_iload 3 15,
  zo_aload 0 16,
  zo_iload 4 18,
  zo_none,
  zo_pushI 2 19,
  zo_iload 1 20,
  zo_callv zzSR (zz_cl [(10, fX12_isOwned)]) 3 23,
  zo_none,
  zo_none,
  zo_if (fun x => decide (x = 0)) 46 26,
  zo_none,
  zo_none,
  zo_iload 2 27,
  zo_aload 0 28,
  zo_iload 4 30,
  zo_none,
  zo_pushI 16 32,
  zo_none,
  zo_callv zzSR (zz_cl [(10, fX12_viewed)]) 2 35,
  zo_none,
  zo_none,
  zo_ii (fun x y => x >>> (y &&& 31)) 36,
  zo_pushI 1 37,
  zo_ii (fun x y => x &&& y) 38,
  zo_pushI 1 39,
  zo_icmp (fun x y => decide (¬ x = y)) 46 42,
  zo_none,
  zo_none,
  zo_pushI 1 43,
  zo_goto 47,
  zo_none,
  zo_none,
  zo_pushI 0 47,
  zo_ii (fun x y => x + y) 48,
  zo_istore 3 49,
  zo_iinc 4 1 52,
  zo_none,
  zo_none,
  zo_goto 5,
  zo_none,
  zo_none,
  zo_iload 3 56,
  zo_iret false]
set_option maxRecDepth 100000 in
theorem tl_X12_pods : ∀ pc, zz_Tl (tX12_pods.getD pc zo_none) := by
  refine zz_Tl_mem ?_
  unfold tX12_pods
  refine List.forall_mem_cons.mpr ⟨(zo_pushI_tl _ _), ?_⟩
  refine List.forall_mem_cons.mpr ⟨(zo_istore_tl _ _), ?_⟩
  refine List.forall_mem_cons.mpr ⟨(zo_pushI_tl _ _), ?_⟩
  refine List.forall_mem_cons.mpr ⟨(zo_istore_tl _ _), ?_⟩
  refine List.forall_mem_cons.mpr ⟨zo_none_tl, ?_⟩
  refine List.forall_mem_cons.mpr ⟨(zo_iload_tl _ _), ?_⟩
  refine List.forall_mem_cons.mpr ⟨zo_none_tl, ?_⟩
  refine List.forall_mem_cons.mpr ⟨(zo_aload_tl _ _), ?_⟩
  refine List.forall_mem_cons.mpr ⟨(zo_getf_tl _ _ _), ?_⟩
  refine List.forall_mem_cons.mpr ⟨zo_none_tl, ?_⟩
  refine List.forall_mem_cons.mpr ⟨zo_none_tl, ?_⟩
  refine List.forall_mem_cons.mpr ⟨(zo_icmp_tl _ _ _), ?_⟩
  refine List.forall_mem_cons.mpr ⟨zo_none_tl, ?_⟩
  refine List.forall_mem_cons.mpr ⟨zo_none_tl, ?_⟩
  refine List.forall_mem_cons.mpr ⟨(zo_iload_tl _ _), ?_⟩
  refine List.forall_mem_cons.mpr ⟨(zo_aload_tl _ _), ?_⟩
  refine List.forall_mem_cons.mpr ⟨(zo_iload_tl _ _), ?_⟩
  refine List.forall_mem_cons.mpr ⟨zo_none_tl, ?_⟩
  refine List.forall_mem_cons.mpr ⟨(zo_pushI_tl _ _), ?_⟩
  refine List.forall_mem_cons.mpr ⟨(zo_iload_tl _ _), ?_⟩
  refine List.forall_mem_cons.mpr ⟨(zo_callv_tl _ _ _ _), ?_⟩
  refine List.forall_mem_cons.mpr ⟨zo_none_tl, ?_⟩
  refine List.forall_mem_cons.mpr ⟨zo_none_tl, ?_⟩
  refine List.forall_mem_cons.mpr ⟨(zo_if_tl _ _ _), ?_⟩
  refine List.forall_mem_cons.mpr ⟨zo_none_tl, ?_⟩
  refine List.forall_mem_cons.mpr ⟨zo_none_tl, ?_⟩
  refine List.forall_mem_cons.mpr ⟨(zo_iload_tl _ _), ?_⟩
  refine List.forall_mem_cons.mpr ⟨(zo_aload_tl _ _), ?_⟩
  refine List.forall_mem_cons.mpr ⟨(zo_iload_tl _ _), ?_⟩
  refine List.forall_mem_cons.mpr ⟨zo_none_tl, ?_⟩
  refine List.forall_mem_cons.mpr ⟨(zo_pushI_tl _ _), ?_⟩
  refine List.forall_mem_cons.mpr ⟨zo_none_tl, ?_⟩
  refine List.forall_mem_cons.mpr ⟨(zo_callv_tl _ _ _ _), ?_⟩
  refine List.forall_mem_cons.mpr ⟨zo_none_tl, ?_⟩
  refine List.forall_mem_cons.mpr ⟨zo_none_tl, ?_⟩
  refine List.forall_mem_cons.mpr ⟨(zo_ii_tl _ _), ?_⟩
  refine List.forall_mem_cons.mpr ⟨(zo_pushI_tl _ _), ?_⟩
  refine List.forall_mem_cons.mpr ⟨(zo_ii_tl _ _), ?_⟩
  refine List.forall_mem_cons.mpr ⟨(zo_pushI_tl _ _), ?_⟩
  refine List.forall_mem_cons.mpr ⟨(zo_icmp_tl _ _ _), ?_⟩
  refine List.forall_mem_cons.mpr ⟨zo_none_tl, ?_⟩
  refine List.forall_mem_cons.mpr ⟨zo_none_tl, ?_⟩
  refine List.forall_mem_cons.mpr ⟨(zo_pushI_tl _ _), ?_⟩
  refine List.forall_mem_cons.mpr ⟨(zo_goto_tl _), ?_⟩
  refine List.forall_mem_cons.mpr ⟨zo_none_tl, ?_⟩
  refine List.forall_mem_cons.mpr ⟨zo_none_tl, ?_⟩
  refine List.forall_mem_cons.mpr ⟨(zo_pushI_tl _ _), ?_⟩
  refine List.forall_mem_cons.mpr ⟨(zo_ii_tl _ _), ?_⟩
  refine List.forall_mem_cons.mpr ⟨(zo_istore_tl _ _), ?_⟩
  refine List.forall_mem_cons.mpr ⟨(zo_iinc_tl _ _ _), ?_⟩
  refine List.forall_mem_cons.mpr ⟨zo_none_tl, ?_⟩
  refine List.forall_mem_cons.mpr ⟨zo_none_tl, ?_⟩
  refine List.forall_mem_cons.mpr ⟨(zo_goto_tl _), ?_⟩
  refine List.forall_mem_cons.mpr ⟨zo_none_tl, ?_⟩
  refine List.forall_mem_cons.mpr ⟨zo_none_tl, ?_⟩
  refine List.forall_mem_cons.mpr ⟨(zo_iload_tl _ _), ?_⟩
  refine List.forall_mem_cons.mpr ⟨(zo_iret_tl _), ?_⟩
  exact fun _ h => absurd h List.not_mem_nil
noncomputable def fX12_pods : zzFn := zz_fn tX12_pods 5
noncomputable def tX12_need : List zzOp := [
  zo_pushI 1 1,
  zo_iload 0 2,
  zo_pushI 3 3,
  zo_iid (fun x y => x - x / y * y) 4,
  zo_ii (fun x y => x + y) 5,
  zo_iret false]
set_option maxRecDepth 100000 in
theorem tl_X12_need : ∀ pc, zz_Tl (tX12_need.getD pc zo_none) := by
  refine zz_Tl_mem ?_
  unfold tX12_need
  refine List.forall_mem_cons.mpr ⟨(zo_pushI_tl _ _), ?_⟩
  refine List.forall_mem_cons.mpr ⟨(zo_iload_tl _ _), ?_⟩
  refine List.forall_mem_cons.mpr ⟨(zo_pushI_tl _ _), ?_⟩
  refine List.forall_mem_cons.mpr ⟨(zo_iid_tl _ _), ?_⟩
  refine List.forall_mem_cons.mpr ⟨(zo_ii_tl _ _), ?_⟩
  refine List.forall_mem_cons.mpr ⟨(zo_iret_tl _), ?_⟩
  exact fun _ h => absurd h List.not_mem_nil
noncomputable def fX12_need : zzFn := zz_fn tX12_need 1
noncomputable def tX12_used : List zzOp := [
  zo_pushI 0 1,
  zo_istore 3 2,
  zo_pushI 0 3,
  zo_istore 4 5,
  zo_none,
  zo_iload 4 7,
  zo_none,
  zo_aload 0 8,
  zo_getf zzSR (zz_kf [10] 5) 11,
  zo_none,
  zo_none,
  zo_icmp (fun x y => decide (y ≤ x)) 122 14,
  zo_none,
  zo_none,
  zo_aload 0 15,
  zo_iload 4 17,
  zo_none,
  zo_callv zzSR (zz_cl [(10, fX12_isGoneThere)]) 1 20,
  zo_none,
  zo_none,
  zo_if (fun x => decide (¬ x = 0)) 52 23,
  zo_none,
  zo_none,
  zo_aload 0 24,
  zo_getf zzSR (zz_kf [10] 6) 27,
  zo_none,
  zo_none,
  zo_iload 4 29,
  zo_none,
  zo_iald zzSR zzSTR 30,
  zo_pushI 2 31,
  zo_icmp (fun x y => decide (¬ x = y)) 52 34,
  zo_none,
  zo_none,
  zo_aload 0 35,
  zo_iload 4 37,
  zo_none,
  zo_pushI 15 39,
  zo_none,
  zo_callv zzSR (zz_cl [(10, fX12_viewed)]) 2 42,
  zo_none,
  zo_none,
  zo_iload 1 43,
  zo_pushI 1 44,
  zo_ii (fun x y => x + y) 45,
  zo_icmp (fun x y => decide (¬ x = y)) 52 48,
  zo_none,
  zo_none,
  zo_pushI 1 49,
  zo_goto 53,
  zo_none,
  zo_none,
  zo_pushI 0 53,
  zo_istore 5 55,
  zo_none,
  zo_iload 5 57,
  zo_none,
  zo_if (fun x => decide (x = 0)) 91 60,
  zo_none,
  zo_none,
  zo_aload 0 61,
  zo_iload 4 63,
  zo_none,
  zo_pushI 16 65,
  zo_none,
  zo_callv zzSR (zz_cl [(10, fX12_viewed)]) 2 68,
  zo_none,
  zo_none,
  zo_pushI 1 69,
  zo_icmp (fun x y => decide (x = y)) 87 72,
  zo_none,
  zo_none,
  zo_iload 2 73,
  zo_if (fun x => decide (¬ x = 0)) 91 76,
  zo_none,
  zo_none,
  zo_aload 0 77,
  zo_iload 4 79,
  zo_none,
  zo_pushI 16 81,
  zo_none,
  zo_callv zzSR (zz_cl [(10, fX12_viewed)]) 2 84,
  zo_none,
  zo_none,
  zo_if (fun x => decide (¬ x = 0)) 91 87,
  zo_none,
  zo_none,
  zo_pushI 1 88,
  zo_goto 92,
  zo_none,
  zo_none,
  zo_pushI 0 92,
  zo_istore 6 94,
  zo_none,
  zo_iload 3 95,
  zo_iload 6 97,
  zo_none,
  zo_if (fun x => decide (x = 0)) 113 100,
  zo_none,
  zo_none,
  zo_aload 0 101,
  zo_iload 4 103,
  zo_none,
  zo_pushI 1 104,
  zo_callv zzSR (zz_cl [(10, fX12_viewed)]) 2 107,
  zo_none,
  zo_none,
  zo_calls fX12_need 1 110,
  zo_none,
  zo_none,
  zo_goto 114,
  zo_none,
  zo_none,
  zo_pushI 0 114,
  zo_ii (fun x y => x + y) 115,
  zo_istore 3 116,
  zo_iinc 4 1 119,
  zo_none,
  zo_none,
  zo_goto 5,
  zo_none,
  zo_none,
  zo_iload 3 123,
  zo_iret false]
set_option maxRecDepth 100000 in
theorem tl_X12_used : ∀ pc, zz_Tl (tX12_used.getD pc zo_none) := by
  refine zz_Tl_mem ?_
  unfold tX12_used
  refine List.forall_mem_cons.mpr ⟨(zo_pushI_tl _ _), ?_⟩
  refine List.forall_mem_cons.mpr ⟨(zo_istore_tl _ _), ?_⟩
  refine List.forall_mem_cons.mpr ⟨(zo_pushI_tl _ _), ?_⟩
  refine List.forall_mem_cons.mpr ⟨(zo_istore_tl _ _), ?_⟩
  refine List.forall_mem_cons.mpr ⟨zo_none_tl, ?_⟩
  refine List.forall_mem_cons.mpr ⟨(zo_iload_tl _ _), ?_⟩
  refine List.forall_mem_cons.mpr ⟨zo_none_tl, ?_⟩
  refine List.forall_mem_cons.mpr ⟨(zo_aload_tl _ _), ?_⟩
  refine List.forall_mem_cons.mpr ⟨(zo_getf_tl _ _ _), ?_⟩
  refine List.forall_mem_cons.mpr ⟨zo_none_tl, ?_⟩
  refine List.forall_mem_cons.mpr ⟨zo_none_tl, ?_⟩
  refine List.forall_mem_cons.mpr ⟨(zo_icmp_tl _ _ _), ?_⟩
  refine List.forall_mem_cons.mpr ⟨zo_none_tl, ?_⟩
  refine List.forall_mem_cons.mpr ⟨zo_none_tl, ?_⟩
  refine List.forall_mem_cons.mpr ⟨(zo_aload_tl _ _), ?_⟩
  refine List.forall_mem_cons.mpr ⟨(zo_iload_tl _ _), ?_⟩
  refine List.forall_mem_cons.mpr ⟨zo_none_tl, ?_⟩
  refine List.forall_mem_cons.mpr ⟨(zo_callv_tl _ _ _ _), ?_⟩
  refine List.forall_mem_cons.mpr ⟨zo_none_tl, ?_⟩
  refine List.forall_mem_cons.mpr ⟨zo_none_tl, ?_⟩
  refine List.forall_mem_cons.mpr ⟨(zo_if_tl _ _ _), ?_⟩
  refine List.forall_mem_cons.mpr ⟨zo_none_tl, ?_⟩
  refine List.forall_mem_cons.mpr ⟨zo_none_tl, ?_⟩
  refine List.forall_mem_cons.mpr ⟨(zo_aload_tl _ _), ?_⟩
  refine List.forall_mem_cons.mpr ⟨(zo_getf_tl _ _ _), ?_⟩
  refine List.forall_mem_cons.mpr ⟨zo_none_tl, ?_⟩
  refine List.forall_mem_cons.mpr ⟨zo_none_tl, ?_⟩
  refine List.forall_mem_cons.mpr ⟨(zo_iload_tl _ _), ?_⟩
  refine List.forall_mem_cons.mpr ⟨zo_none_tl, ?_⟩
  refine List.forall_mem_cons.mpr ⟨(zo_iald_tl _ _ _), ?_⟩
  refine List.forall_mem_cons.mpr ⟨(zo_pushI_tl _ _), ?_⟩
  refine List.forall_mem_cons.mpr ⟨(zo_icmp_tl _ _ _), ?_⟩
  refine List.forall_mem_cons.mpr ⟨zo_none_tl, ?_⟩
  refine List.forall_mem_cons.mpr ⟨zo_none_tl, ?_⟩
  refine List.forall_mem_cons.mpr ⟨(zo_aload_tl _ _), ?_⟩
  refine List.forall_mem_cons.mpr ⟨(zo_iload_tl _ _), ?_⟩
  refine List.forall_mem_cons.mpr ⟨zo_none_tl, ?_⟩
  refine List.forall_mem_cons.mpr ⟨(zo_pushI_tl _ _), ?_⟩
  refine List.forall_mem_cons.mpr ⟨zo_none_tl, ?_⟩
  refine List.forall_mem_cons.mpr ⟨(zo_callv_tl _ _ _ _), ?_⟩
  refine List.forall_mem_cons.mpr ⟨zo_none_tl, ?_⟩
  refine List.forall_mem_cons.mpr ⟨zo_none_tl, ?_⟩
  refine List.forall_mem_cons.mpr ⟨(zo_iload_tl _ _), ?_⟩
  refine List.forall_mem_cons.mpr ⟨(zo_pushI_tl _ _), ?_⟩
  refine List.forall_mem_cons.mpr ⟨(zo_ii_tl _ _), ?_⟩
  refine List.forall_mem_cons.mpr ⟨(zo_icmp_tl _ _ _), ?_⟩
  refine List.forall_mem_cons.mpr ⟨zo_none_tl, ?_⟩
  refine List.forall_mem_cons.mpr ⟨zo_none_tl, ?_⟩
  refine List.forall_mem_cons.mpr ⟨(zo_pushI_tl _ _), ?_⟩
  refine List.forall_mem_cons.mpr ⟨(zo_goto_tl _), ?_⟩
  refine List.forall_mem_cons.mpr ⟨zo_none_tl, ?_⟩
  refine List.forall_mem_cons.mpr ⟨zo_none_tl, ?_⟩
  refine List.forall_mem_cons.mpr ⟨(zo_pushI_tl _ _), ?_⟩
  refine List.forall_mem_cons.mpr ⟨(zo_istore_tl _ _), ?_⟩
  refine List.forall_mem_cons.mpr ⟨zo_none_tl, ?_⟩
  refine List.forall_mem_cons.mpr ⟨(zo_iload_tl _ _), ?_⟩
  refine List.forall_mem_cons.mpr ⟨zo_none_tl, ?_⟩
  refine List.forall_mem_cons.mpr ⟨(zo_if_tl _ _ _), ?_⟩
  refine List.forall_mem_cons.mpr ⟨zo_none_tl, ?_⟩
  refine List.forall_mem_cons.mpr ⟨zo_none_tl, ?_⟩
  refine List.forall_mem_cons.mpr ⟨(zo_aload_tl _ _), ?_⟩
  refine List.forall_mem_cons.mpr ⟨(zo_iload_tl _ _), ?_⟩
  refine List.forall_mem_cons.mpr ⟨zo_none_tl, ?_⟩
  refine List.forall_mem_cons.mpr ⟨(zo_pushI_tl _ _), ?_⟩
  refine List.forall_mem_cons.mpr ⟨zo_none_tl, ?_⟩
  refine List.forall_mem_cons.mpr ⟨(zo_callv_tl _ _ _ _), ?_⟩
  refine List.forall_mem_cons.mpr ⟨zo_none_tl, ?_⟩
  refine List.forall_mem_cons.mpr ⟨zo_none_tl, ?_⟩
  refine List.forall_mem_cons.mpr ⟨(zo_pushI_tl _ _), ?_⟩
  refine List.forall_mem_cons.mpr ⟨(zo_icmp_tl _ _ _), ?_⟩
  refine List.forall_mem_cons.mpr ⟨zo_none_tl, ?_⟩
  refine List.forall_mem_cons.mpr ⟨zo_none_tl, ?_⟩
  refine List.forall_mem_cons.mpr ⟨(zo_iload_tl _ _), ?_⟩
  refine List.forall_mem_cons.mpr ⟨(zo_if_tl _ _ _), ?_⟩
  refine List.forall_mem_cons.mpr ⟨zo_none_tl, ?_⟩
  refine List.forall_mem_cons.mpr ⟨zo_none_tl, ?_⟩
  refine List.forall_mem_cons.mpr ⟨(zo_aload_tl _ _), ?_⟩
  refine List.forall_mem_cons.mpr ⟨(zo_iload_tl _ _), ?_⟩
  refine List.forall_mem_cons.mpr ⟨zo_none_tl, ?_⟩
  refine List.forall_mem_cons.mpr ⟨(zo_pushI_tl _ _), ?_⟩
  refine List.forall_mem_cons.mpr ⟨zo_none_tl, ?_⟩
  refine List.forall_mem_cons.mpr ⟨(zo_callv_tl _ _ _ _), ?_⟩
  refine List.forall_mem_cons.mpr ⟨zo_none_tl, ?_⟩
  refine List.forall_mem_cons.mpr ⟨zo_none_tl, ?_⟩
  refine List.forall_mem_cons.mpr ⟨(zo_if_tl _ _ _), ?_⟩
  refine List.forall_mem_cons.mpr ⟨zo_none_tl, ?_⟩
  refine List.forall_mem_cons.mpr ⟨zo_none_tl, ?_⟩
  refine List.forall_mem_cons.mpr ⟨(zo_pushI_tl _ _), ?_⟩
  refine List.forall_mem_cons.mpr ⟨(zo_goto_tl _), ?_⟩
  refine List.forall_mem_cons.mpr ⟨zo_none_tl, ?_⟩
  refine List.forall_mem_cons.mpr ⟨zo_none_tl, ?_⟩
  refine List.forall_mem_cons.mpr ⟨(zo_pushI_tl _ _), ?_⟩
  refine List.forall_mem_cons.mpr ⟨(zo_istore_tl _ _), ?_⟩
  refine List.forall_mem_cons.mpr ⟨zo_none_tl, ?_⟩
  refine List.forall_mem_cons.mpr ⟨(zo_iload_tl _ _), ?_⟩
  refine List.forall_mem_cons.mpr ⟨(zo_iload_tl _ _), ?_⟩
  refine List.forall_mem_cons.mpr ⟨zo_none_tl, ?_⟩
  refine List.forall_mem_cons.mpr ⟨(zo_if_tl _ _ _), ?_⟩
  refine List.forall_mem_cons.mpr ⟨zo_none_tl, ?_⟩
  refine List.forall_mem_cons.mpr ⟨zo_none_tl, ?_⟩
  refine List.forall_mem_cons.mpr ⟨(zo_aload_tl _ _), ?_⟩
  refine List.forall_mem_cons.mpr ⟨(zo_iload_tl _ _), ?_⟩
  refine List.forall_mem_cons.mpr ⟨zo_none_tl, ?_⟩
  refine List.forall_mem_cons.mpr ⟨(zo_pushI_tl _ _), ?_⟩
  refine List.forall_mem_cons.mpr ⟨(zo_callv_tl _ _ _ _), ?_⟩
  refine List.forall_mem_cons.mpr ⟨zo_none_tl, ?_⟩
  refine List.forall_mem_cons.mpr ⟨zo_none_tl, ?_⟩
  refine List.forall_mem_cons.mpr ⟨(zo_calls_tl _ _ _), ?_⟩
  refine List.forall_mem_cons.mpr ⟨zo_none_tl, ?_⟩
  refine List.forall_mem_cons.mpr ⟨zo_none_tl, ?_⟩
  refine List.forall_mem_cons.mpr ⟨(zo_goto_tl _), ?_⟩
  refine List.forall_mem_cons.mpr ⟨zo_none_tl, ?_⟩
  refine List.forall_mem_cons.mpr ⟨zo_none_tl, ?_⟩
  refine List.forall_mem_cons.mpr ⟨(zo_pushI_tl _ _), ?_⟩
  refine List.forall_mem_cons.mpr ⟨(zo_ii_tl _ _), ?_⟩
  refine List.forall_mem_cons.mpr ⟨(zo_istore_tl _ _), ?_⟩
  refine List.forall_mem_cons.mpr ⟨(zo_iinc_tl _ _ _), ?_⟩
  refine List.forall_mem_cons.mpr ⟨zo_none_tl, ?_⟩
  refine List.forall_mem_cons.mpr ⟨zo_none_tl, ?_⟩
  refine List.forall_mem_cons.mpr ⟨(zo_goto_tl _), ?_⟩
  refine List.forall_mem_cons.mpr ⟨zo_none_tl, ?_⟩
  refine List.forall_mem_cons.mpr ⟨zo_none_tl, ?_⟩
  refine List.forall_mem_cons.mpr ⟨(zo_iload_tl _ _), ?_⟩
  refine List.forall_mem_cons.mpr ⟨(zo_iret_tl _), ?_⟩
  exact fun _ h => absurd h List.not_mem_nil
noncomputable def fX12_used : zzFn := zz_fn tX12_used 7
noncomputable def tX12_setOf : List zzOp := [
  zo_pushI (-1) 1,
  zo_istore 4 3,
  zo_none,
  zo_aload 0 4,
  zo_getf zzSR (zz_kf [10] 5) 7,
  zo_none,
  zo_none,
  zo_pushI 1 8,
  zo_ii (fun x y => x - y) 9,
  zo_istore 5 11,
  zo_none,
  zo_iload 5 13,
  zo_none,
  zo_if (fun x => decide (x < 0)) 101 16,
  zo_none,
  zo_none,
  zo_aload 0 17,
  zo_iload 5 19,
  zo_none,
  zo_pushI 1 20,
  zo_iload 1 21,
  zo_callv zzSR (zz_cl [(10, fX12_isOwned)]) 3 24,
  zo_none,
  zo_none,
  zo_if (fun x => decide (x = 0)) 37 27,
  zo_none,
  zo_none,
  zo_iload 5 29,
  zo_none,
  zo_iload 3 30,
  zo_icmp (fun x y => decide (x = y)) 37 33,
  zo_none,
  zo_none,
  zo_pushI 1 34,
  zo_goto 38,
  zo_none,
  zo_none,
  zo_pushI 0 38,
  zo_istore 6 40,
  zo_none,
  zo_iload 6 42,
  zo_none,
  zo_if (fun x => decide (x = 0)) 78 45,
  zo_none,
  zo_none,
  zo_iload 2 46,
  zo_pushI (-1) 47,
  zo_icmp (fun x y => decide (¬ x = y)) 63 50,
  zo_none,
  zo_none,
  zo_aload 0 51,
  zo_iload 5 53,
  zo_none,
  zo_pushI 0 54,
  zo_callv zzSR (zz_cl [(10, fX12_viewed)]) 2 57,
  zo_none,
  zo_none,
  zo_if (fun x => decide (x ≤ 0)) 78 60,
  zo_none,
  zo_none,
  zo_goto 74,
  zo_none,
  zo_none,
  zo_aload 0 64,
  zo_iload 5 66,
  zo_none,
  zo_pushI 1 67,
  zo_callv zzSR (zz_cl [(10, fX12_viewed)]) 2 70,
  zo_none,
  zo_none,
  zo_iload 2 71,
  zo_icmp (fun x y => decide (¬ x = y)) 78 74,
  zo_none,
  zo_none,
  zo_pushI 1 75,
  zo_goto 79,
  zo_none,
  zo_none,
  zo_pushI 0 79,
  zo_istore 7 81,
  zo_none,
  zo_iload 7 83,
  zo_none,
  zo_if (fun x => decide (x = 0)) 91 86,
  zo_none,
  zo_none,
  zo_iload 5 88,
  zo_none,
  zo_goto 93,
  zo_none,
  zo_none,
  zo_iload 4 93,
  zo_none,
  zo_istore 4 95,
  zo_none,
  zo_iinc 5 (-1) 98,
  zo_none,
  zo_none,
  zo_goto 11,
  zo_none,
  zo_none,
  zo_iload 4 103,
  zo_none,
  zo_iret false]
set_option maxRecDepth 100000 in
theorem tl_X12_setOf : ∀ pc, zz_Tl (tX12_setOf.getD pc zo_none) := by
  refine zz_Tl_mem ?_
  unfold tX12_setOf
  refine List.forall_mem_cons.mpr ⟨(zo_pushI_tl _ _), ?_⟩
  refine List.forall_mem_cons.mpr ⟨(zo_istore_tl _ _), ?_⟩
  refine List.forall_mem_cons.mpr ⟨zo_none_tl, ?_⟩
  refine List.forall_mem_cons.mpr ⟨(zo_aload_tl _ _), ?_⟩
  refine List.forall_mem_cons.mpr ⟨(zo_getf_tl _ _ _), ?_⟩
  refine List.forall_mem_cons.mpr ⟨zo_none_tl, ?_⟩
  refine List.forall_mem_cons.mpr ⟨zo_none_tl, ?_⟩
  refine List.forall_mem_cons.mpr ⟨(zo_pushI_tl _ _), ?_⟩
  refine List.forall_mem_cons.mpr ⟨(zo_ii_tl _ _), ?_⟩
  refine List.forall_mem_cons.mpr ⟨(zo_istore_tl _ _), ?_⟩
  refine List.forall_mem_cons.mpr ⟨zo_none_tl, ?_⟩
  refine List.forall_mem_cons.mpr ⟨(zo_iload_tl _ _), ?_⟩
  refine List.forall_mem_cons.mpr ⟨zo_none_tl, ?_⟩
  refine List.forall_mem_cons.mpr ⟨(zo_if_tl _ _ _), ?_⟩
  refine List.forall_mem_cons.mpr ⟨zo_none_tl, ?_⟩
  refine List.forall_mem_cons.mpr ⟨zo_none_tl, ?_⟩
  refine List.forall_mem_cons.mpr ⟨(zo_aload_tl _ _), ?_⟩
  refine List.forall_mem_cons.mpr ⟨(zo_iload_tl _ _), ?_⟩
  refine List.forall_mem_cons.mpr ⟨zo_none_tl, ?_⟩
  refine List.forall_mem_cons.mpr ⟨(zo_pushI_tl _ _), ?_⟩
  refine List.forall_mem_cons.mpr ⟨(zo_iload_tl _ _), ?_⟩
  refine List.forall_mem_cons.mpr ⟨(zo_callv_tl _ _ _ _), ?_⟩
  refine List.forall_mem_cons.mpr ⟨zo_none_tl, ?_⟩
  refine List.forall_mem_cons.mpr ⟨zo_none_tl, ?_⟩
  refine List.forall_mem_cons.mpr ⟨(zo_if_tl _ _ _), ?_⟩
  refine List.forall_mem_cons.mpr ⟨zo_none_tl, ?_⟩
  refine List.forall_mem_cons.mpr ⟨zo_none_tl, ?_⟩
  refine List.forall_mem_cons.mpr ⟨(zo_iload_tl _ _), ?_⟩
  refine List.forall_mem_cons.mpr ⟨zo_none_tl, ?_⟩
  refine List.forall_mem_cons.mpr ⟨(zo_iload_tl _ _), ?_⟩
  refine List.forall_mem_cons.mpr ⟨(zo_icmp_tl _ _ _), ?_⟩
  refine List.forall_mem_cons.mpr ⟨zo_none_tl, ?_⟩
  refine List.forall_mem_cons.mpr ⟨zo_none_tl, ?_⟩
  refine List.forall_mem_cons.mpr ⟨(zo_pushI_tl _ _), ?_⟩
  refine List.forall_mem_cons.mpr ⟨(zo_goto_tl _), ?_⟩
  refine List.forall_mem_cons.mpr ⟨zo_none_tl, ?_⟩
  refine List.forall_mem_cons.mpr ⟨zo_none_tl, ?_⟩
  refine List.forall_mem_cons.mpr ⟨(zo_pushI_tl _ _), ?_⟩
  refine List.forall_mem_cons.mpr ⟨(zo_istore_tl _ _), ?_⟩
  refine List.forall_mem_cons.mpr ⟨zo_none_tl, ?_⟩
  refine List.forall_mem_cons.mpr ⟨(zo_iload_tl _ _), ?_⟩
  refine List.forall_mem_cons.mpr ⟨zo_none_tl, ?_⟩
  refine List.forall_mem_cons.mpr ⟨(zo_if_tl _ _ _), ?_⟩
  refine List.forall_mem_cons.mpr ⟨zo_none_tl, ?_⟩
  refine List.forall_mem_cons.mpr ⟨zo_none_tl, ?_⟩
  refine List.forall_mem_cons.mpr ⟨(zo_iload_tl _ _), ?_⟩
  refine List.forall_mem_cons.mpr ⟨(zo_pushI_tl _ _), ?_⟩
  refine List.forall_mem_cons.mpr ⟨(zo_icmp_tl _ _ _), ?_⟩
  refine List.forall_mem_cons.mpr ⟨zo_none_tl, ?_⟩
  refine List.forall_mem_cons.mpr ⟨zo_none_tl, ?_⟩
  refine List.forall_mem_cons.mpr ⟨(zo_aload_tl _ _), ?_⟩
  refine List.forall_mem_cons.mpr ⟨(zo_iload_tl _ _), ?_⟩
  refine List.forall_mem_cons.mpr ⟨zo_none_tl, ?_⟩
  refine List.forall_mem_cons.mpr ⟨(zo_pushI_tl _ _), ?_⟩
  refine List.forall_mem_cons.mpr ⟨(zo_callv_tl _ _ _ _), ?_⟩
  refine List.forall_mem_cons.mpr ⟨zo_none_tl, ?_⟩
  refine List.forall_mem_cons.mpr ⟨zo_none_tl, ?_⟩
  refine List.forall_mem_cons.mpr ⟨(zo_if_tl _ _ _), ?_⟩
  refine List.forall_mem_cons.mpr ⟨zo_none_tl, ?_⟩
  refine List.forall_mem_cons.mpr ⟨zo_none_tl, ?_⟩
  refine List.forall_mem_cons.mpr ⟨(zo_goto_tl _), ?_⟩
  refine List.forall_mem_cons.mpr ⟨zo_none_tl, ?_⟩
  refine List.forall_mem_cons.mpr ⟨zo_none_tl, ?_⟩
  refine List.forall_mem_cons.mpr ⟨(zo_aload_tl _ _), ?_⟩
  refine List.forall_mem_cons.mpr ⟨(zo_iload_tl _ _), ?_⟩
  refine List.forall_mem_cons.mpr ⟨zo_none_tl, ?_⟩
  refine List.forall_mem_cons.mpr ⟨(zo_pushI_tl _ _), ?_⟩
  refine List.forall_mem_cons.mpr ⟨(zo_callv_tl _ _ _ _), ?_⟩
  refine List.forall_mem_cons.mpr ⟨zo_none_tl, ?_⟩
  refine List.forall_mem_cons.mpr ⟨zo_none_tl, ?_⟩
  refine List.forall_mem_cons.mpr ⟨(zo_iload_tl _ _), ?_⟩
  refine List.forall_mem_cons.mpr ⟨(zo_icmp_tl _ _ _), ?_⟩
  refine List.forall_mem_cons.mpr ⟨zo_none_tl, ?_⟩
  refine List.forall_mem_cons.mpr ⟨zo_none_tl, ?_⟩
  refine List.forall_mem_cons.mpr ⟨(zo_pushI_tl _ _), ?_⟩
  refine List.forall_mem_cons.mpr ⟨(zo_goto_tl _), ?_⟩
  refine List.forall_mem_cons.mpr ⟨zo_none_tl, ?_⟩
  refine List.forall_mem_cons.mpr ⟨zo_none_tl, ?_⟩
  refine List.forall_mem_cons.mpr ⟨(zo_pushI_tl _ _), ?_⟩
  refine List.forall_mem_cons.mpr ⟨(zo_istore_tl _ _), ?_⟩
  refine List.forall_mem_cons.mpr ⟨zo_none_tl, ?_⟩
  refine List.forall_mem_cons.mpr ⟨(zo_iload_tl _ _), ?_⟩
  refine List.forall_mem_cons.mpr ⟨zo_none_tl, ?_⟩
  refine List.forall_mem_cons.mpr ⟨(zo_if_tl _ _ _), ?_⟩
  refine List.forall_mem_cons.mpr ⟨zo_none_tl, ?_⟩
  refine List.forall_mem_cons.mpr ⟨zo_none_tl, ?_⟩
  refine List.forall_mem_cons.mpr ⟨(zo_iload_tl _ _), ?_⟩
  refine List.forall_mem_cons.mpr ⟨zo_none_tl, ?_⟩
  refine List.forall_mem_cons.mpr ⟨(zo_goto_tl _), ?_⟩
  refine List.forall_mem_cons.mpr ⟨zo_none_tl, ?_⟩
  refine List.forall_mem_cons.mpr ⟨zo_none_tl, ?_⟩
  refine List.forall_mem_cons.mpr ⟨(zo_iload_tl _ _), ?_⟩
  refine List.forall_mem_cons.mpr ⟨zo_none_tl, ?_⟩
  refine List.forall_mem_cons.mpr ⟨(zo_istore_tl _ _), ?_⟩
  refine List.forall_mem_cons.mpr ⟨zo_none_tl, ?_⟩
  refine List.forall_mem_cons.mpr ⟨(zo_iinc_tl _ _ _), ?_⟩
  refine List.forall_mem_cons.mpr ⟨zo_none_tl, ?_⟩
  refine List.forall_mem_cons.mpr ⟨zo_none_tl, ?_⟩
  refine List.forall_mem_cons.mpr ⟨(zo_goto_tl _), ?_⟩
  refine List.forall_mem_cons.mpr ⟨zo_none_tl, ?_⟩
  refine List.forall_mem_cons.mpr ⟨zo_none_tl, ?_⟩
  refine List.forall_mem_cons.mpr ⟨(zo_iload_tl _ _), ?_⟩
  refine List.forall_mem_cons.mpr ⟨zo_none_tl, ?_⟩
  refine List.forall_mem_cons.mpr ⟨(zo_iret_tl _), ?_⟩
  exact fun _ h => absurd h List.not_mem_nil
noncomputable def fX12_setOf : zzFn := zz_fn tX12_setOf 8
noncomputable def tX12_together : List zzOp := [
  zo_pushI 0 1,
  zo_istore 3 2,
  zo_pushI 0 3,
  zo_istore 4 5,
  zo_none,
  zo_iload 4 7,
  zo_none,
  zo_aload 0 8,
  zo_getf zzSR (zz_kf [10] 5) 11,
  zo_none,
  zo_none,
  zo_icmp (fun x y => decide (y ≤ x)) 55 14,
  zo_none,
  zo_none,
  zo_aload 0 15,
  zo_iload 4 17,
  zo_none,
  zo_pushI 1 18,
  zo_iload 1 19,
  zo_callv zzSR (zz_cl [(10, fX12_isOwned)]) 3 22,
  zo_none,
  zo_none,
  zo_if (fun x => decide (x = 0)) 49 25,
  zo_none,
  zo_none,
  zo_iload 3 26,
  zo_iload 2 27,
  zo_if (fun x => decide (x = 0)) 40 30,
  zo_none,
  zo_none,
  zo_aload 0 31,
  zo_iload 4 33,
  zo_none,
  zo_pushI 2 34,
  zo_callv zzSR (zz_cl [(10, fX12_pods)]) 2 37,
  zo_none,
  zo_none,
  zo_goto 47,
  zo_none,
  zo_none,
  zo_aload 0 41,
  zo_iload 4 43,
  zo_none,
  zo_pushI 0 44,
  zo_callv zzSR (zz_cl [(10, fX12_viewed)]) 2 47,
  zo_none,
  zo_none,
  zo_ii (fun x y => x + y) 48,
  zo_istore 3 49,
  zo_iinc 4 1 52,
  zo_none,
  zo_none,
  zo_goto 5,
  zo_none,
  zo_none,
  zo_iload 3 56,
  zo_iret false]
set_option maxRecDepth 100000 in
theorem tl_X12_together : ∀ pc, zz_Tl (tX12_together.getD pc zo_none) := by
  refine zz_Tl_mem ?_
  unfold tX12_together
  refine List.forall_mem_cons.mpr ⟨(zo_pushI_tl _ _), ?_⟩
  refine List.forall_mem_cons.mpr ⟨(zo_istore_tl _ _), ?_⟩
  refine List.forall_mem_cons.mpr ⟨(zo_pushI_tl _ _), ?_⟩
  refine List.forall_mem_cons.mpr ⟨(zo_istore_tl _ _), ?_⟩
  refine List.forall_mem_cons.mpr ⟨zo_none_tl, ?_⟩
  refine List.forall_mem_cons.mpr ⟨(zo_iload_tl _ _), ?_⟩
  refine List.forall_mem_cons.mpr ⟨zo_none_tl, ?_⟩
  refine List.forall_mem_cons.mpr ⟨(zo_aload_tl _ _), ?_⟩
  refine List.forall_mem_cons.mpr ⟨(zo_getf_tl _ _ _), ?_⟩
  refine List.forall_mem_cons.mpr ⟨zo_none_tl, ?_⟩
  refine List.forall_mem_cons.mpr ⟨zo_none_tl, ?_⟩
  refine List.forall_mem_cons.mpr ⟨(zo_icmp_tl _ _ _), ?_⟩
  refine List.forall_mem_cons.mpr ⟨zo_none_tl, ?_⟩
  refine List.forall_mem_cons.mpr ⟨zo_none_tl, ?_⟩
  refine List.forall_mem_cons.mpr ⟨(zo_aload_tl _ _), ?_⟩
  refine List.forall_mem_cons.mpr ⟨(zo_iload_tl _ _), ?_⟩
  refine List.forall_mem_cons.mpr ⟨zo_none_tl, ?_⟩
  refine List.forall_mem_cons.mpr ⟨(zo_pushI_tl _ _), ?_⟩
  refine List.forall_mem_cons.mpr ⟨(zo_iload_tl _ _), ?_⟩
  refine List.forall_mem_cons.mpr ⟨(zo_callv_tl _ _ _ _), ?_⟩
  refine List.forall_mem_cons.mpr ⟨zo_none_tl, ?_⟩
  refine List.forall_mem_cons.mpr ⟨zo_none_tl, ?_⟩
  refine List.forall_mem_cons.mpr ⟨(zo_if_tl _ _ _), ?_⟩
  refine List.forall_mem_cons.mpr ⟨zo_none_tl, ?_⟩
  refine List.forall_mem_cons.mpr ⟨zo_none_tl, ?_⟩
  refine List.forall_mem_cons.mpr ⟨(zo_iload_tl _ _), ?_⟩
  refine List.forall_mem_cons.mpr ⟨(zo_iload_tl _ _), ?_⟩
  refine List.forall_mem_cons.mpr ⟨(zo_if_tl _ _ _), ?_⟩
  refine List.forall_mem_cons.mpr ⟨zo_none_tl, ?_⟩
  refine List.forall_mem_cons.mpr ⟨zo_none_tl, ?_⟩
  refine List.forall_mem_cons.mpr ⟨(zo_aload_tl _ _), ?_⟩
  refine List.forall_mem_cons.mpr ⟨(zo_iload_tl _ _), ?_⟩
  refine List.forall_mem_cons.mpr ⟨zo_none_tl, ?_⟩
  refine List.forall_mem_cons.mpr ⟨(zo_pushI_tl _ _), ?_⟩
  refine List.forall_mem_cons.mpr ⟨(zo_callv_tl _ _ _ _), ?_⟩
  refine List.forall_mem_cons.mpr ⟨zo_none_tl, ?_⟩
  refine List.forall_mem_cons.mpr ⟨zo_none_tl, ?_⟩
  refine List.forall_mem_cons.mpr ⟨(zo_goto_tl _), ?_⟩
  refine List.forall_mem_cons.mpr ⟨zo_none_tl, ?_⟩
  refine List.forall_mem_cons.mpr ⟨zo_none_tl, ?_⟩
  refine List.forall_mem_cons.mpr ⟨(zo_aload_tl _ _), ?_⟩
  refine List.forall_mem_cons.mpr ⟨(zo_iload_tl _ _), ?_⟩
  refine List.forall_mem_cons.mpr ⟨zo_none_tl, ?_⟩
  refine List.forall_mem_cons.mpr ⟨(zo_pushI_tl _ _), ?_⟩
  refine List.forall_mem_cons.mpr ⟨(zo_callv_tl _ _ _ _), ?_⟩
  refine List.forall_mem_cons.mpr ⟨zo_none_tl, ?_⟩
  refine List.forall_mem_cons.mpr ⟨zo_none_tl, ?_⟩
  refine List.forall_mem_cons.mpr ⟨(zo_ii_tl _ _), ?_⟩
  refine List.forall_mem_cons.mpr ⟨(zo_istore_tl _ _), ?_⟩
  refine List.forall_mem_cons.mpr ⟨(zo_iinc_tl _ _ _), ?_⟩
  refine List.forall_mem_cons.mpr ⟨zo_none_tl, ?_⟩
  refine List.forall_mem_cons.mpr ⟨zo_none_tl, ?_⟩
  refine List.forall_mem_cons.mpr ⟨(zo_goto_tl _), ?_⟩
  refine List.forall_mem_cons.mpr ⟨zo_none_tl, ?_⟩
  refine List.forall_mem_cons.mpr ⟨zo_none_tl, ?_⟩
  refine List.forall_mem_cons.mpr ⟨(zo_iload_tl _ _), ?_⟩
  refine List.forall_mem_cons.mpr ⟨(zo_iret_tl _), ?_⟩
  exact fun _ h => absurd h List.not_mem_nil
noncomputable def fX12_together : zzFn := zz_fn tX12_together 5
noncomputable def tX12_lessens : List zzOp := [
  zo_aload 0 1,
  zo_iload 1 2,
  zo_pushI 0 3,
  zo_callv zzSR (zz_cl [(10, fX12_viewed)]) 2 6,
  zo_none,
  zo_none,
  zo_istore 3 7,
  zo_aload 0 8,
  zo_iload 1 9,
  zo_pushI 2 10,
  zo_callv zzSR (zz_cl [(10, fX12_pods)]) 2 13,
  zo_none,
  zo_none,
  zo_istore 4 15,
  zo_none,
  zo_iload 3 16,
  zo_iload 4 18,
  zo_none,
  zo_icmp (fun x y => decide (x ≤ y)) 29 21,
  zo_none,
  zo_none,
  zo_aload 0 22,
  zo_iload 1 23,
  zo_iload 4 25,
  zo_none,
  zo_callv zzSR (zz_cl [(10, fX12_wants)]) 2 28,
  zo_none,
  zo_none,
  zo_iret true,
  zo_iload 2 30,
  zo_if (fun x => decide (x ≤ 0)) 53 33,
  zo_none,
  zo_none,
  zo_aload 0 34,
  zo_iload 1 35,
  zo_iload 2 36,
  zo_iload 3 37,
  zo_icmp (fun x y => decide (y ≤ x)) 46 40,
  zo_none,
  zo_none,
  zo_iload 3 41,
  zo_iload 2 42,
  zo_ii (fun x y => x - y) 43,
  zo_goto 47,
  zo_none,
  zo_none,
  zo_pushI 0 47,
  zo_callv zzSR (zz_cl [(10, fX12_wants)]) 2 50,
  zo_none,
  zo_none,
  zo_if (fun x => decide (x = 0)) 57 53,
  zo_none,
  zo_none,
  zo_pushI 1 54,
  zo_goto 58,
  zo_none,
  zo_none,
  zo_pushI 0 58,
  zo_iret true]
set_option maxRecDepth 100000 in
theorem tl_X12_lessens : ∀ pc, zz_Tl (tX12_lessens.getD pc zo_none) := by
  refine zz_Tl_mem ?_
  unfold tX12_lessens
  refine List.forall_mem_cons.mpr ⟨(zo_aload_tl _ _), ?_⟩
  refine List.forall_mem_cons.mpr ⟨(zo_iload_tl _ _), ?_⟩
  refine List.forall_mem_cons.mpr ⟨(zo_pushI_tl _ _), ?_⟩
  refine List.forall_mem_cons.mpr ⟨(zo_callv_tl _ _ _ _), ?_⟩
  refine List.forall_mem_cons.mpr ⟨zo_none_tl, ?_⟩
  refine List.forall_mem_cons.mpr ⟨zo_none_tl, ?_⟩
  refine List.forall_mem_cons.mpr ⟨(zo_istore_tl _ _), ?_⟩
  refine List.forall_mem_cons.mpr ⟨(zo_aload_tl _ _), ?_⟩
  refine List.forall_mem_cons.mpr ⟨(zo_iload_tl _ _), ?_⟩
  refine List.forall_mem_cons.mpr ⟨(zo_pushI_tl _ _), ?_⟩
  refine List.forall_mem_cons.mpr ⟨(zo_callv_tl _ _ _ _), ?_⟩
  refine List.forall_mem_cons.mpr ⟨zo_none_tl, ?_⟩
  refine List.forall_mem_cons.mpr ⟨zo_none_tl, ?_⟩
  refine List.forall_mem_cons.mpr ⟨(zo_istore_tl _ _), ?_⟩
  refine List.forall_mem_cons.mpr ⟨zo_none_tl, ?_⟩
  refine List.forall_mem_cons.mpr ⟨(zo_iload_tl _ _), ?_⟩
  refine List.forall_mem_cons.mpr ⟨(zo_iload_tl _ _), ?_⟩
  refine List.forall_mem_cons.mpr ⟨zo_none_tl, ?_⟩
  refine List.forall_mem_cons.mpr ⟨(zo_icmp_tl _ _ _), ?_⟩
  refine List.forall_mem_cons.mpr ⟨zo_none_tl, ?_⟩
  refine List.forall_mem_cons.mpr ⟨zo_none_tl, ?_⟩
  refine List.forall_mem_cons.mpr ⟨(zo_aload_tl _ _), ?_⟩
  refine List.forall_mem_cons.mpr ⟨(zo_iload_tl _ _), ?_⟩
  refine List.forall_mem_cons.mpr ⟨(zo_iload_tl _ _), ?_⟩
  refine List.forall_mem_cons.mpr ⟨zo_none_tl, ?_⟩
  refine List.forall_mem_cons.mpr ⟨(zo_callv_tl _ _ _ _), ?_⟩
  refine List.forall_mem_cons.mpr ⟨zo_none_tl, ?_⟩
  refine List.forall_mem_cons.mpr ⟨zo_none_tl, ?_⟩
  refine List.forall_mem_cons.mpr ⟨(zo_iret_tl _), ?_⟩
  refine List.forall_mem_cons.mpr ⟨(zo_iload_tl _ _), ?_⟩
  refine List.forall_mem_cons.mpr ⟨(zo_if_tl _ _ _), ?_⟩
  refine List.forall_mem_cons.mpr ⟨zo_none_tl, ?_⟩
  refine List.forall_mem_cons.mpr ⟨zo_none_tl, ?_⟩
  refine List.forall_mem_cons.mpr ⟨(zo_aload_tl _ _), ?_⟩
  refine List.forall_mem_cons.mpr ⟨(zo_iload_tl _ _), ?_⟩
  refine List.forall_mem_cons.mpr ⟨(zo_iload_tl _ _), ?_⟩
  refine List.forall_mem_cons.mpr ⟨(zo_iload_tl _ _), ?_⟩
  refine List.forall_mem_cons.mpr ⟨(zo_icmp_tl _ _ _), ?_⟩
  refine List.forall_mem_cons.mpr ⟨zo_none_tl, ?_⟩
  refine List.forall_mem_cons.mpr ⟨zo_none_tl, ?_⟩
  refine List.forall_mem_cons.mpr ⟨(zo_iload_tl _ _), ?_⟩
  refine List.forall_mem_cons.mpr ⟨(zo_iload_tl _ _), ?_⟩
  refine List.forall_mem_cons.mpr ⟨(zo_ii_tl _ _), ?_⟩
  refine List.forall_mem_cons.mpr ⟨(zo_goto_tl _), ?_⟩
  refine List.forall_mem_cons.mpr ⟨zo_none_tl, ?_⟩
  refine List.forall_mem_cons.mpr ⟨zo_none_tl, ?_⟩
  refine List.forall_mem_cons.mpr ⟨(zo_pushI_tl _ _), ?_⟩
  refine List.forall_mem_cons.mpr ⟨(zo_callv_tl _ _ _ _), ?_⟩
  refine List.forall_mem_cons.mpr ⟨zo_none_tl, ?_⟩
  refine List.forall_mem_cons.mpr ⟨zo_none_tl, ?_⟩
  refine List.forall_mem_cons.mpr ⟨(zo_if_tl _ _ _), ?_⟩
  refine List.forall_mem_cons.mpr ⟨zo_none_tl, ?_⟩
  refine List.forall_mem_cons.mpr ⟨zo_none_tl, ?_⟩
  refine List.forall_mem_cons.mpr ⟨(zo_pushI_tl _ _), ?_⟩
  refine List.forall_mem_cons.mpr ⟨(zo_goto_tl _), ?_⟩
  refine List.forall_mem_cons.mpr ⟨zo_none_tl, ?_⟩
  refine List.forall_mem_cons.mpr ⟨zo_none_tl, ?_⟩
  refine List.forall_mem_cons.mpr ⟨(zo_pushI_tl _ _), ?_⟩
  refine List.forall_mem_cons.mpr ⟨(zo_iret_tl _), ?_⟩
  exact fun _ h => absurd h List.not_mem_nil
noncomputable def fX12_lessens : zzFn := zz_fn tX12_lessens 5
noncomputable def tX12_deploys : List zzOp := [
  zo_aload 0 1,
  zo_aload 0 2,
  zo_getf zzSR (zz_kf [10] 43) 5,
  zo_none,
  zo_none,
  zo_pushI 0 6,
  zo_callv zzSR (zz_cl [(10, fX12_stays)]) 2 9,
  zo_none,
  zo_none,
  zo_if (fun x => decide (x = 0)) 25 12,
  zo_none,
  zo_none,
  zo_aload 0 13,
  zo_aload 0 14,
  zo_getf zzSR (zz_kf [10] 43) 17,
  zo_none,
  zo_none,
  zo_pushI 4 18,
  zo_callv zzSR (zz_cl [(10, fX12_viewed)]) 2 21,
  zo_none,
  zo_none,
  zo_pushI 1 22,
  zo_icmp (fun x y => decide (¬ x = y)) 27 25,
  zo_none,
  zo_none,
  zo_pushI 1 26,
  zo_iret true,
  zo_aload 0 28,
  zo_aload 0 29,
  zo_getf zzSR (zz_kf [10] 43) 32,
  zo_none,
  zo_none,
  zo_pushI 0 33,
  zo_callv zzSR (zz_cl [(10, fX12_viewed)]) 2 36,
  zo_none,
  zo_none,
  zo_istore 1 37,
  zo_aload 0 38,
  zo_aload 0 39,
  zo_getf zzSR (zz_kf [10] 43) 42,
  zo_none,
  zo_none,
  zo_aload 0 43,
  zo_aload 0 44,
  zo_getf zzSR (zz_kf [10] 43) 47,
  zo_none,
  zo_none,
  zo_pushI 1 48,
  zo_callv zzSR (zz_cl [(10, fX12_viewed)]) 2 51,
  zo_none,
  zo_none,
  zo_pushI (-1) 52,
  zo_callv zzSR (zz_cl [(10, fX12_setOf)]) 3 55,
  zo_none,
  zo_none,
  zo_istore 2 56,
  zo_iload 2 57,
  zo_pushI (-1) 58,
  zo_icmp (fun x y => decide (¬ x = y)) 80 61,
  zo_none,
  zo_none,
  zo_aload 0 62,
  zo_pushI 1 63,
  zo_aload 0 64,
  zo_getf zzSR (zz_kf [10] 43) 67,
  zo_none,
  zo_none,
  zo_aload 0 68,
  zo_aload 0 69,
  zo_getf zzSR (zz_kf [10] 43) 72,
  zo_none,
  zo_none,
  zo_pushI 1 73,
  zo_callv zzSR (zz_cl [(10, fX12_viewed)]) 2 76,
  zo_none,
  zo_none,
  zo_callv zzSR (zz_cl [(10, fX12_makesOne)]) 3 79,
  zo_none,
  zo_none,
  zo_iret true,
  zo_aload 0 81,
  zo_iload 2 82,
  zo_pushI 0 83,
  zo_callv zzSR (zz_cl [(10, fX12_viewed)]) 2 86,
  zo_none,
  zo_none,
  zo_iload 1 87,
  zo_icmp (fun x y => decide (x ≤ y)) 97 90,
  zo_none,
  zo_none,
  zo_aload 0 91,
  zo_iload 2 92,
  zo_iload 1 93,
  zo_callv zzSR (zz_cl [(10, fX12_wants)]) 2 96,
  zo_none,
  zo_none,
  zo_iret true,
  zo_iload 1 98,
  zo_aload 0 99,
  zo_aload 0 100,
  zo_getf zzSR (zz_kf [10] 43) 103,
  zo_none,
  zo_none,
  zo_pushI 2 104,
  zo_callv zzSR (zz_cl [(10, fX12_viewed)]) 2 107,
  zo_none,
  zo_none,
  zo_ii (fun x y => x + y) 108,
  zo_aload 0 109,
  zo_aload 0 110,
  zo_getf zzSR (zz_kf [10] 43) 113,
  zo_none,
  zo_none,
  zo_pushI 0 114,
  zo_callv zzSR (zz_cl [(10, fX12_together)]) 2 117,
  zo_none,
  zo_none,
  zo_ii (fun x y => x - y) 118,
  zo_istore 3 119,
  zo_aload 0 120,
  zo_iload 2 121,
  zo_pushI 0 122,
  zo_callv zzSR (zz_cl [(10, fX12_viewed)]) 2 125,
  zo_none,
  zo_none,
  zo_iload 1 126,
  zo_icmp (fun x y => decide (y ≤ x)) 168 129,
  zo_none,
  zo_none,
  zo_iload 3 130,
  zo_if (fun x => decide (x ≤ 0)) 168 133,
  zo_none,
  zo_none,
  zo_iload 1 134,
  zo_aload 0 135,
  zo_iload 2 136,
  zo_pushI 0 137,
  zo_callv zzSR (zz_cl [(10, fX12_viewed)]) 2 140,
  zo_none,
  zo_none,
  zo_ii (fun x y => x - y) 141,
  zo_istore 4 143,
  zo_none,
  zo_aload 0 144,
  zo_iload 2 145,
  zo_aload 0 146,
  zo_iload 2 147,
  zo_pushI 0 148,
  zo_callv zzSR (zz_cl [(10, fX12_viewed)]) 2 151,
  zo_none,
  zo_none,
  zo_iload 4 153,
  zo_none,
  zo_iload 3 154,
  zo_icmp (fun x y => decide (y ≤ x)) 162 157,
  zo_none,
  zo_none,
  zo_iload 4 159,
  zo_none,
  zo_goto 163,
  zo_none,
  zo_none,
  zo_iload 3 163,
  zo_ii (fun x y => x + y) 164,
  zo_callv zzSR (zz_cl [(10, fX12_wants)]) 2 167,
  zo_none,
  zo_none,
  zo_iret true,
  zo_aload 0 169,
  zo_aload 0 170,
  zo_getf zzSR (zz_kf [10] 43) 173,
  zo_none,
  zo_none,
  zo_pushI (-1) 174,
  zo_iload 2 175,
  zo_callv zzSR (zz_cl [(10, fX12_setOf)]) 3 178,
  zo_none,
  zo_none,
  zo_istore 4 180,
  zo_none,
  zo_iload 4 182,
  zo_none,
  zo_pushI (-1) 183,
  zo_icmp (fun x y => decide (x = y)) 216 186,
  zo_none,
  zo_none,
  zo_aload 0 187,
  zo_iload 4 189,
  zo_none,
  zo_aload 0 190,
  zo_aload 0 191,
  zo_getf zzSR (zz_kf [10] 43) 194,
  zo_none,
  zo_none,
  zo_pushI 1 195,
  zo_callv zzSR (zz_cl [(10, fX12_together)]) 2 198,
  zo_none,
  zo_none,
  zo_iload 1 199,
  zo_ii (fun x y => x - y) 200,
  zo_aload 0 201,
  zo_aload 0 202,
  zo_getf zzSR (zz_kf [10] 43) 205,
  zo_none,
  zo_none,
  zo_pushI 3 206,
  zo_callv zzSR (zz_cl [(10, fX12_viewed)]) 2 209,
  zo_none,
  zo_none,
  zo_ii (fun x y => x + y) 210,
  zo_callv zzSR (zz_cl [(10, fX12_lessens)]) 2 213,
  zo_none,
  zo_none,
  zo_if (fun x => decide (x = 0)) 220 216,
  zo_none,
  zo_none,
  zo_pushI 1 217,
  zo_goto 221,
  zo_none,
  zo_none,
  zo_pushI 0 221,
  zo_iret true]
set_option maxRecDepth 100000 in
theorem tl_X12_deploys : ∀ pc, zz_Tl (tX12_deploys.getD pc zo_none) := by
  refine zz_Tl_mem ?_
  unfold tX12_deploys
  refine List.forall_mem_cons.mpr ⟨(zo_aload_tl _ _), ?_⟩
  refine List.forall_mem_cons.mpr ⟨(zo_aload_tl _ _), ?_⟩
  refine List.forall_mem_cons.mpr ⟨(zo_getf_tl _ _ _), ?_⟩
  refine List.forall_mem_cons.mpr ⟨zo_none_tl, ?_⟩
  refine List.forall_mem_cons.mpr ⟨zo_none_tl, ?_⟩
  refine List.forall_mem_cons.mpr ⟨(zo_pushI_tl _ _), ?_⟩
  refine List.forall_mem_cons.mpr ⟨(zo_callv_tl _ _ _ _), ?_⟩
  refine List.forall_mem_cons.mpr ⟨zo_none_tl, ?_⟩
  refine List.forall_mem_cons.mpr ⟨zo_none_tl, ?_⟩
  refine List.forall_mem_cons.mpr ⟨(zo_if_tl _ _ _), ?_⟩
  refine List.forall_mem_cons.mpr ⟨zo_none_tl, ?_⟩
  refine List.forall_mem_cons.mpr ⟨zo_none_tl, ?_⟩
  refine List.forall_mem_cons.mpr ⟨(zo_aload_tl _ _), ?_⟩
  refine List.forall_mem_cons.mpr ⟨(zo_aload_tl _ _), ?_⟩
  refine List.forall_mem_cons.mpr ⟨(zo_getf_tl _ _ _), ?_⟩
  refine List.forall_mem_cons.mpr ⟨zo_none_tl, ?_⟩
  refine List.forall_mem_cons.mpr ⟨zo_none_tl, ?_⟩
  refine List.forall_mem_cons.mpr ⟨(zo_pushI_tl _ _), ?_⟩
  refine List.forall_mem_cons.mpr ⟨(zo_callv_tl _ _ _ _), ?_⟩
  refine List.forall_mem_cons.mpr ⟨zo_none_tl, ?_⟩
  refine List.forall_mem_cons.mpr ⟨zo_none_tl, ?_⟩
  refine List.forall_mem_cons.mpr ⟨(zo_pushI_tl _ _), ?_⟩
  refine List.forall_mem_cons.mpr ⟨(zo_icmp_tl _ _ _), ?_⟩
  refine List.forall_mem_cons.mpr ⟨zo_none_tl, ?_⟩
  refine List.forall_mem_cons.mpr ⟨zo_none_tl, ?_⟩
  refine List.forall_mem_cons.mpr ⟨(zo_pushI_tl _ _), ?_⟩
  refine List.forall_mem_cons.mpr ⟨(zo_iret_tl _), ?_⟩
  refine List.forall_mem_cons.mpr ⟨(zo_aload_tl _ _), ?_⟩
  refine List.forall_mem_cons.mpr ⟨(zo_aload_tl _ _), ?_⟩
  refine List.forall_mem_cons.mpr ⟨(zo_getf_tl _ _ _), ?_⟩
  refine List.forall_mem_cons.mpr ⟨zo_none_tl, ?_⟩
  refine List.forall_mem_cons.mpr ⟨zo_none_tl, ?_⟩
  refine List.forall_mem_cons.mpr ⟨(zo_pushI_tl _ _), ?_⟩
  refine List.forall_mem_cons.mpr ⟨(zo_callv_tl _ _ _ _), ?_⟩
  refine List.forall_mem_cons.mpr ⟨zo_none_tl, ?_⟩
  refine List.forall_mem_cons.mpr ⟨zo_none_tl, ?_⟩
  refine List.forall_mem_cons.mpr ⟨(zo_istore_tl _ _), ?_⟩
  refine List.forall_mem_cons.mpr ⟨(zo_aload_tl _ _), ?_⟩
  refine List.forall_mem_cons.mpr ⟨(zo_aload_tl _ _), ?_⟩
  refine List.forall_mem_cons.mpr ⟨(zo_getf_tl _ _ _), ?_⟩
  refine List.forall_mem_cons.mpr ⟨zo_none_tl, ?_⟩
  refine List.forall_mem_cons.mpr ⟨zo_none_tl, ?_⟩
  refine List.forall_mem_cons.mpr ⟨(zo_aload_tl _ _), ?_⟩
  refine List.forall_mem_cons.mpr ⟨(zo_aload_tl _ _), ?_⟩
  refine List.forall_mem_cons.mpr ⟨(zo_getf_tl _ _ _), ?_⟩
  refine List.forall_mem_cons.mpr ⟨zo_none_tl, ?_⟩
  refine List.forall_mem_cons.mpr ⟨zo_none_tl, ?_⟩
  refine List.forall_mem_cons.mpr ⟨(zo_pushI_tl _ _), ?_⟩
  refine List.forall_mem_cons.mpr ⟨(zo_callv_tl _ _ _ _), ?_⟩
  refine List.forall_mem_cons.mpr ⟨zo_none_tl, ?_⟩
  refine List.forall_mem_cons.mpr ⟨zo_none_tl, ?_⟩
  refine List.forall_mem_cons.mpr ⟨(zo_pushI_tl _ _), ?_⟩
  refine List.forall_mem_cons.mpr ⟨(zo_callv_tl _ _ _ _), ?_⟩
  refine List.forall_mem_cons.mpr ⟨zo_none_tl, ?_⟩
  refine List.forall_mem_cons.mpr ⟨zo_none_tl, ?_⟩
  refine List.forall_mem_cons.mpr ⟨(zo_istore_tl _ _), ?_⟩
  refine List.forall_mem_cons.mpr ⟨(zo_iload_tl _ _), ?_⟩
  refine List.forall_mem_cons.mpr ⟨(zo_pushI_tl _ _), ?_⟩
  refine List.forall_mem_cons.mpr ⟨(zo_icmp_tl _ _ _), ?_⟩
  refine List.forall_mem_cons.mpr ⟨zo_none_tl, ?_⟩
  refine List.forall_mem_cons.mpr ⟨zo_none_tl, ?_⟩
  refine List.forall_mem_cons.mpr ⟨(zo_aload_tl _ _), ?_⟩
  refine List.forall_mem_cons.mpr ⟨(zo_pushI_tl _ _), ?_⟩
  refine List.forall_mem_cons.mpr ⟨(zo_aload_tl _ _), ?_⟩
  refine List.forall_mem_cons.mpr ⟨(zo_getf_tl _ _ _), ?_⟩
  refine List.forall_mem_cons.mpr ⟨zo_none_tl, ?_⟩
  refine List.forall_mem_cons.mpr ⟨zo_none_tl, ?_⟩
  refine List.forall_mem_cons.mpr ⟨(zo_aload_tl _ _), ?_⟩
  refine List.forall_mem_cons.mpr ⟨(zo_aload_tl _ _), ?_⟩
  refine List.forall_mem_cons.mpr ⟨(zo_getf_tl _ _ _), ?_⟩
  refine List.forall_mem_cons.mpr ⟨zo_none_tl, ?_⟩
  refine List.forall_mem_cons.mpr ⟨zo_none_tl, ?_⟩
  refine List.forall_mem_cons.mpr ⟨(zo_pushI_tl _ _), ?_⟩
  refine List.forall_mem_cons.mpr ⟨(zo_callv_tl _ _ _ _), ?_⟩
  refine List.forall_mem_cons.mpr ⟨zo_none_tl, ?_⟩
  refine List.forall_mem_cons.mpr ⟨zo_none_tl, ?_⟩
  refine List.forall_mem_cons.mpr ⟨(zo_callv_tl _ _ _ _), ?_⟩
  refine List.forall_mem_cons.mpr ⟨zo_none_tl, ?_⟩
  refine List.forall_mem_cons.mpr ⟨zo_none_tl, ?_⟩
  refine List.forall_mem_cons.mpr ⟨(zo_iret_tl _), ?_⟩
  refine List.forall_mem_cons.mpr ⟨(zo_aload_tl _ _), ?_⟩
  refine List.forall_mem_cons.mpr ⟨(zo_iload_tl _ _), ?_⟩
  refine List.forall_mem_cons.mpr ⟨(zo_pushI_tl _ _), ?_⟩
  refine List.forall_mem_cons.mpr ⟨(zo_callv_tl _ _ _ _), ?_⟩
  refine List.forall_mem_cons.mpr ⟨zo_none_tl, ?_⟩
  refine List.forall_mem_cons.mpr ⟨zo_none_tl, ?_⟩
  refine List.forall_mem_cons.mpr ⟨(zo_iload_tl _ _), ?_⟩
  refine List.forall_mem_cons.mpr ⟨(zo_icmp_tl _ _ _), ?_⟩
  refine List.forall_mem_cons.mpr ⟨zo_none_tl, ?_⟩
  refine List.forall_mem_cons.mpr ⟨zo_none_tl, ?_⟩
  refine List.forall_mem_cons.mpr ⟨(zo_aload_tl _ _), ?_⟩
  refine List.forall_mem_cons.mpr ⟨(zo_iload_tl _ _), ?_⟩
  refine List.forall_mem_cons.mpr ⟨(zo_iload_tl _ _), ?_⟩
  refine List.forall_mem_cons.mpr ⟨(zo_callv_tl _ _ _ _), ?_⟩
  refine List.forall_mem_cons.mpr ⟨zo_none_tl, ?_⟩
  refine List.forall_mem_cons.mpr ⟨zo_none_tl, ?_⟩
  refine List.forall_mem_cons.mpr ⟨(zo_iret_tl _), ?_⟩
  refine List.forall_mem_cons.mpr ⟨(zo_iload_tl _ _), ?_⟩
  refine List.forall_mem_cons.mpr ⟨(zo_aload_tl _ _), ?_⟩
  refine List.forall_mem_cons.mpr ⟨(zo_aload_tl _ _), ?_⟩
  refine List.forall_mem_cons.mpr ⟨(zo_getf_tl _ _ _), ?_⟩
  refine List.forall_mem_cons.mpr ⟨zo_none_tl, ?_⟩
  refine List.forall_mem_cons.mpr ⟨zo_none_tl, ?_⟩
  refine List.forall_mem_cons.mpr ⟨(zo_pushI_tl _ _), ?_⟩
  refine List.forall_mem_cons.mpr ⟨(zo_callv_tl _ _ _ _), ?_⟩
  refine List.forall_mem_cons.mpr ⟨zo_none_tl, ?_⟩
  refine List.forall_mem_cons.mpr ⟨zo_none_tl, ?_⟩
  refine List.forall_mem_cons.mpr ⟨(zo_ii_tl _ _), ?_⟩
  refine List.forall_mem_cons.mpr ⟨(zo_aload_tl _ _), ?_⟩
  refine List.forall_mem_cons.mpr ⟨(zo_aload_tl _ _), ?_⟩
  refine List.forall_mem_cons.mpr ⟨(zo_getf_tl _ _ _), ?_⟩
  refine List.forall_mem_cons.mpr ⟨zo_none_tl, ?_⟩
  refine List.forall_mem_cons.mpr ⟨zo_none_tl, ?_⟩
  refine List.forall_mem_cons.mpr ⟨(zo_pushI_tl _ _), ?_⟩
  refine List.forall_mem_cons.mpr ⟨(zo_callv_tl _ _ _ _), ?_⟩
  refine List.forall_mem_cons.mpr ⟨zo_none_tl, ?_⟩
  refine List.forall_mem_cons.mpr ⟨zo_none_tl, ?_⟩
  refine List.forall_mem_cons.mpr ⟨(zo_ii_tl _ _), ?_⟩
  refine List.forall_mem_cons.mpr ⟨(zo_istore_tl _ _), ?_⟩
  refine List.forall_mem_cons.mpr ⟨(zo_aload_tl _ _), ?_⟩
  refine List.forall_mem_cons.mpr ⟨(zo_iload_tl _ _), ?_⟩
  refine List.forall_mem_cons.mpr ⟨(zo_pushI_tl _ _), ?_⟩
  refine List.forall_mem_cons.mpr ⟨(zo_callv_tl _ _ _ _), ?_⟩
  refine List.forall_mem_cons.mpr ⟨zo_none_tl, ?_⟩
  refine List.forall_mem_cons.mpr ⟨zo_none_tl, ?_⟩
  refine List.forall_mem_cons.mpr ⟨(zo_iload_tl _ _), ?_⟩
  refine List.forall_mem_cons.mpr ⟨(zo_icmp_tl _ _ _), ?_⟩
  refine List.forall_mem_cons.mpr ⟨zo_none_tl, ?_⟩
  refine List.forall_mem_cons.mpr ⟨zo_none_tl, ?_⟩
  refine List.forall_mem_cons.mpr ⟨(zo_iload_tl _ _), ?_⟩
  refine List.forall_mem_cons.mpr ⟨(zo_if_tl _ _ _), ?_⟩
  refine List.forall_mem_cons.mpr ⟨zo_none_tl, ?_⟩
  refine List.forall_mem_cons.mpr ⟨zo_none_tl, ?_⟩
  refine List.forall_mem_cons.mpr ⟨(zo_iload_tl _ _), ?_⟩
  refine List.forall_mem_cons.mpr ⟨(zo_aload_tl _ _), ?_⟩
  refine List.forall_mem_cons.mpr ⟨(zo_iload_tl _ _), ?_⟩
  refine List.forall_mem_cons.mpr ⟨(zo_pushI_tl _ _), ?_⟩
  refine List.forall_mem_cons.mpr ⟨(zo_callv_tl _ _ _ _), ?_⟩
  refine List.forall_mem_cons.mpr ⟨zo_none_tl, ?_⟩
  refine List.forall_mem_cons.mpr ⟨zo_none_tl, ?_⟩
  refine List.forall_mem_cons.mpr ⟨(zo_ii_tl _ _), ?_⟩
  refine List.forall_mem_cons.mpr ⟨(zo_istore_tl _ _), ?_⟩
  refine List.forall_mem_cons.mpr ⟨zo_none_tl, ?_⟩
  refine List.forall_mem_cons.mpr ⟨(zo_aload_tl _ _), ?_⟩
  refine List.forall_mem_cons.mpr ⟨(zo_iload_tl _ _), ?_⟩
  refine List.forall_mem_cons.mpr ⟨(zo_aload_tl _ _), ?_⟩
  refine List.forall_mem_cons.mpr ⟨(zo_iload_tl _ _), ?_⟩
  refine List.forall_mem_cons.mpr ⟨(zo_pushI_tl _ _), ?_⟩
  refine List.forall_mem_cons.mpr ⟨(zo_callv_tl _ _ _ _), ?_⟩
  refine List.forall_mem_cons.mpr ⟨zo_none_tl, ?_⟩
  refine List.forall_mem_cons.mpr ⟨zo_none_tl, ?_⟩
  refine List.forall_mem_cons.mpr ⟨(zo_iload_tl _ _), ?_⟩
  refine List.forall_mem_cons.mpr ⟨zo_none_tl, ?_⟩
  refine List.forall_mem_cons.mpr ⟨(zo_iload_tl _ _), ?_⟩
  refine List.forall_mem_cons.mpr ⟨(zo_icmp_tl _ _ _), ?_⟩
  refine List.forall_mem_cons.mpr ⟨zo_none_tl, ?_⟩
  refine List.forall_mem_cons.mpr ⟨zo_none_tl, ?_⟩
  refine List.forall_mem_cons.mpr ⟨(zo_iload_tl _ _), ?_⟩
  refine List.forall_mem_cons.mpr ⟨zo_none_tl, ?_⟩
  refine List.forall_mem_cons.mpr ⟨(zo_goto_tl _), ?_⟩
  refine List.forall_mem_cons.mpr ⟨zo_none_tl, ?_⟩
  refine List.forall_mem_cons.mpr ⟨zo_none_tl, ?_⟩
  refine List.forall_mem_cons.mpr ⟨(zo_iload_tl _ _), ?_⟩
  refine List.forall_mem_cons.mpr ⟨(zo_ii_tl _ _), ?_⟩
  refine List.forall_mem_cons.mpr ⟨(zo_callv_tl _ _ _ _), ?_⟩
  refine List.forall_mem_cons.mpr ⟨zo_none_tl, ?_⟩
  refine List.forall_mem_cons.mpr ⟨zo_none_tl, ?_⟩
  refine List.forall_mem_cons.mpr ⟨(zo_iret_tl _), ?_⟩
  refine List.forall_mem_cons.mpr ⟨(zo_aload_tl _ _), ?_⟩
  refine List.forall_mem_cons.mpr ⟨(zo_aload_tl _ _), ?_⟩
  refine List.forall_mem_cons.mpr ⟨(zo_getf_tl _ _ _), ?_⟩
  refine List.forall_mem_cons.mpr ⟨zo_none_tl, ?_⟩
  refine List.forall_mem_cons.mpr ⟨zo_none_tl, ?_⟩
  refine List.forall_mem_cons.mpr ⟨(zo_pushI_tl _ _), ?_⟩
  refine List.forall_mem_cons.mpr ⟨(zo_iload_tl _ _), ?_⟩
  refine List.forall_mem_cons.mpr ⟨(zo_callv_tl _ _ _ _), ?_⟩
  refine List.forall_mem_cons.mpr ⟨zo_none_tl, ?_⟩
  refine List.forall_mem_cons.mpr ⟨zo_none_tl, ?_⟩
  refine List.forall_mem_cons.mpr ⟨(zo_istore_tl _ _), ?_⟩
  refine List.forall_mem_cons.mpr ⟨zo_none_tl, ?_⟩
  refine List.forall_mem_cons.mpr ⟨(zo_iload_tl _ _), ?_⟩
  refine List.forall_mem_cons.mpr ⟨zo_none_tl, ?_⟩
  refine List.forall_mem_cons.mpr ⟨(zo_pushI_tl _ _), ?_⟩
  refine List.forall_mem_cons.mpr ⟨(zo_icmp_tl _ _ _), ?_⟩
  refine List.forall_mem_cons.mpr ⟨zo_none_tl, ?_⟩
  refine List.forall_mem_cons.mpr ⟨zo_none_tl, ?_⟩
  refine List.forall_mem_cons.mpr ⟨(zo_aload_tl _ _), ?_⟩
  refine List.forall_mem_cons.mpr ⟨(zo_iload_tl _ _), ?_⟩
  refine List.forall_mem_cons.mpr ⟨zo_none_tl, ?_⟩
  refine List.forall_mem_cons.mpr ⟨(zo_aload_tl _ _), ?_⟩
  refine List.forall_mem_cons.mpr ⟨(zo_aload_tl _ _), ?_⟩
  refine List.forall_mem_cons.mpr ⟨(zo_getf_tl _ _ _), ?_⟩
  refine List.forall_mem_cons.mpr ⟨zo_none_tl, ?_⟩
  refine List.forall_mem_cons.mpr ⟨zo_none_tl, ?_⟩
  refine List.forall_mem_cons.mpr ⟨(zo_pushI_tl _ _), ?_⟩
  refine List.forall_mem_cons.mpr ⟨(zo_callv_tl _ _ _ _), ?_⟩
  refine List.forall_mem_cons.mpr ⟨zo_none_tl, ?_⟩
  refine List.forall_mem_cons.mpr ⟨zo_none_tl, ?_⟩
  refine List.forall_mem_cons.mpr ⟨(zo_iload_tl _ _), ?_⟩
  refine List.forall_mem_cons.mpr ⟨(zo_ii_tl _ _), ?_⟩
  refine List.forall_mem_cons.mpr ⟨(zo_aload_tl _ _), ?_⟩
  refine List.forall_mem_cons.mpr ⟨(zo_aload_tl _ _), ?_⟩
  refine List.forall_mem_cons.mpr ⟨(zo_getf_tl _ _ _), ?_⟩
  refine List.forall_mem_cons.mpr ⟨zo_none_tl, ?_⟩
  refine List.forall_mem_cons.mpr ⟨zo_none_tl, ?_⟩
  refine List.forall_mem_cons.mpr ⟨(zo_pushI_tl _ _), ?_⟩
  refine List.forall_mem_cons.mpr ⟨(zo_callv_tl _ _ _ _), ?_⟩
  refine List.forall_mem_cons.mpr ⟨zo_none_tl, ?_⟩
  refine List.forall_mem_cons.mpr ⟨zo_none_tl, ?_⟩
  refine List.forall_mem_cons.mpr ⟨(zo_ii_tl _ _), ?_⟩
  refine List.forall_mem_cons.mpr ⟨(zo_callv_tl _ _ _ _), ?_⟩
  refine List.forall_mem_cons.mpr ⟨zo_none_tl, ?_⟩
  refine List.forall_mem_cons.mpr ⟨zo_none_tl, ?_⟩
  refine List.forall_mem_cons.mpr ⟨(zo_if_tl _ _ _), ?_⟩
  refine List.forall_mem_cons.mpr ⟨zo_none_tl, ?_⟩
  refine List.forall_mem_cons.mpr ⟨zo_none_tl, ?_⟩
  refine List.forall_mem_cons.mpr ⟨(zo_pushI_tl _ _), ?_⟩
  refine List.forall_mem_cons.mpr ⟨(zo_goto_tl _), ?_⟩
  refine List.forall_mem_cons.mpr ⟨zo_none_tl, ?_⟩
  refine List.forall_mem_cons.mpr ⟨zo_none_tl, ?_⟩
  refine List.forall_mem_cons.mpr ⟨(zo_pushI_tl _ _), ?_⟩
  refine List.forall_mem_cons.mpr ⟨(zo_iret_tl _), ?_⟩
  exact fun _ h => absurd h List.not_mem_nil
noncomputable def fX12_deploys : zzFn := zz_fn tX12_deploys 5
noncomputable def tX12_podOf : List zzOp := [
  zo_pushI (-1) 1,
  zo_istore 3 2,
  zo_pushI 0 3,
  zo_istore 4 5,
  zo_none,
  zo_pushI 0 6,
  zo_istore 5 8,
  zo_none,
  zo_iload 5 10,
  zo_none,
  zo_aload 0 11,
  zo_getf zzSR (zz_kf [10] 5) 14,
  zo_none,
  zo_none,
  zo_icmp (fun x y => decide (y ≤ x)) 160 17,
  zo_none,
  zo_none,
  zo_aload 0 18,
  zo_iload 5 20,
  zo_none,
  zo_pushI 2 21,
  zo_iload 1 22,
  zo_callv zzSR (zz_cl [(10, fX12_isOwned)]) 3 25,
  zo_none,
  zo_none,
  zo_if (fun x => decide (x = 0)) 154 28,
  zo_none,
  zo_none,
  zo_aload 0 29,
  zo_iload 5 31,
  zo_none,
  zo_pushI 15 33,
  zo_none,
  zo_callv zzSR (zz_cl [(10, fX12_viewed)]) 2 36,
  zo_none,
  zo_none,
  zo_if (fun x => decide (¬ x = 0)) 43 39,
  zo_none,
  zo_none,
  zo_pushI 3 40,
  zo_goto 59,
  zo_none,
  zo_none,
  zo_aload 0 44,
  zo_iload 5 46,
  zo_none,
  zo_pushI 16 48,
  zo_none,
  zo_callv zzSR (zz_cl [(10, fX12_viewed)]) 2 51,
  zo_none,
  zo_none,
  zo_if (fun x => decide (¬ x = 0)) 58 54,
  zo_none,
  zo_none,
  zo_pushI 2 55,
  zo_goto 59,
  zo_none,
  zo_none,
  zo_pushI 1 59,
  zo_istore 6 61,
  zo_none,
  zo_aload 0 62,
  zo_iload 5 64,
  zo_none,
  zo_pushI 16 66,
  zo_none,
  zo_callv zzSR (zz_cl [(10, fX12_viewed)]) 2 69,
  zo_none,
  zo_none,
  zo_pushI 2 70,
  zo_icmp (fun x y => decide (x = y)) 85 73,
  zo_none,
  zo_none,
  zo_aload 0 74,
  zo_iload 5 76,
  zo_none,
  zo_pushI 16 78,
  zo_none,
  zo_callv zzSR (zz_cl [(10, fX12_viewed)]) 2 81,
  zo_none,
  zo_none,
  zo_pushI 3 82,
  zo_icmp (fun x y => decide (¬ x = y)) 89 85,
  zo_none,
  zo_none,
  zo_pushI 1 86,
  zo_goto 90,
  zo_none,
  zo_none,
  zo_pushI 0 90,
  zo_istore 7 92,
  zo_none,
  zo_iload 2 93,
  zo_if (fun x => decide (¬ x = 0)) 114 96,
  zo_none,
  zo_none,
  zo_iload 7 98,
  zo_none,
  zo_if (fun x => decide (x = 0)) 110 101,
  zo_none,
  zo_none,
  zo_iload 3 102,
  zo_pushI (-1) 103,
  zo_icmp (fun x y => decide (¬ x = y)) 110 106,
  zo_none,
  zo_none,
  zo_pushI 1 107,
  zo_goto 126,
  zo_none,
  zo_none,
  zo_pushI 0 111,
  zo_goto 126,
  zo_none,
  zo_none,
  zo_iload 6 116,
  zo_none,
  zo_iload 4 118,
  zo_none,
  zo_icmp (fun x y => decide (x < y)) 125 121,
  zo_none,
  zo_none,
  zo_pushI 1 122,
  zo_goto 126,
  zo_none,
  zo_none,
  zo_pushI 0 126,
  zo_istore 8 128,
  zo_none,
  zo_iload 8 130,
  zo_none,
  zo_if (fun x => decide (x = 0)) 138 133,
  zo_none,
  zo_none,
  zo_iload 5 135,
  zo_none,
  zo_goto 139,
  zo_none,
  zo_none,
  zo_iload 3 139,
  zo_istore 3 140,
  zo_iload 8 142,
  zo_none,
  zo_if (fun x => decide (x = 0)) 150 145,
  zo_none,
  zo_none,
  zo_iload 6 147,
  zo_none,
  zo_goto 152,
  zo_none,
  zo_none,
  zo_iload 4 152,
  zo_none,
  zo_istore 4 154,
  zo_none,
  zo_iinc 5 1 157,
  zo_none,
  zo_none,
  zo_goto 8,
  zo_none,
  zo_none,
  zo_iload 3 161,
  zo_iret false]
set_option maxRecDepth 100000 in
theorem tl_X12_podOf : ∀ pc, zz_Tl (tX12_podOf.getD pc zo_none) := by
  refine zz_Tl_mem ?_
  unfold tX12_podOf
  refine List.forall_mem_cons.mpr ⟨(zo_pushI_tl _ _), ?_⟩
  refine List.forall_mem_cons.mpr ⟨(zo_istore_tl _ _), ?_⟩
  refine List.forall_mem_cons.mpr ⟨(zo_pushI_tl _ _), ?_⟩
  refine List.forall_mem_cons.mpr ⟨(zo_istore_tl _ _), ?_⟩
  refine List.forall_mem_cons.mpr ⟨zo_none_tl, ?_⟩
  refine List.forall_mem_cons.mpr ⟨(zo_pushI_tl _ _), ?_⟩
  refine List.forall_mem_cons.mpr ⟨(zo_istore_tl _ _), ?_⟩
  refine List.forall_mem_cons.mpr ⟨zo_none_tl, ?_⟩
  refine List.forall_mem_cons.mpr ⟨(zo_iload_tl _ _), ?_⟩
  refine List.forall_mem_cons.mpr ⟨zo_none_tl, ?_⟩
  refine List.forall_mem_cons.mpr ⟨(zo_aload_tl _ _), ?_⟩
  refine List.forall_mem_cons.mpr ⟨(zo_getf_tl _ _ _), ?_⟩
  refine List.forall_mem_cons.mpr ⟨zo_none_tl, ?_⟩
  refine List.forall_mem_cons.mpr ⟨zo_none_tl, ?_⟩
  refine List.forall_mem_cons.mpr ⟨(zo_icmp_tl _ _ _), ?_⟩
  refine List.forall_mem_cons.mpr ⟨zo_none_tl, ?_⟩
  refine List.forall_mem_cons.mpr ⟨zo_none_tl, ?_⟩
  refine List.forall_mem_cons.mpr ⟨(zo_aload_tl _ _), ?_⟩
  refine List.forall_mem_cons.mpr ⟨(zo_iload_tl _ _), ?_⟩
  refine List.forall_mem_cons.mpr ⟨zo_none_tl, ?_⟩
  refine List.forall_mem_cons.mpr ⟨(zo_pushI_tl _ _), ?_⟩
  refine List.forall_mem_cons.mpr ⟨(zo_iload_tl _ _), ?_⟩
  refine List.forall_mem_cons.mpr ⟨(zo_callv_tl _ _ _ _), ?_⟩
  refine List.forall_mem_cons.mpr ⟨zo_none_tl, ?_⟩
  refine List.forall_mem_cons.mpr ⟨zo_none_tl, ?_⟩
  refine List.forall_mem_cons.mpr ⟨(zo_if_tl _ _ _), ?_⟩
  refine List.forall_mem_cons.mpr ⟨zo_none_tl, ?_⟩
  refine List.forall_mem_cons.mpr ⟨zo_none_tl, ?_⟩
  refine List.forall_mem_cons.mpr ⟨(zo_aload_tl _ _), ?_⟩
  refine List.forall_mem_cons.mpr ⟨(zo_iload_tl _ _), ?_⟩
  refine List.forall_mem_cons.mpr ⟨zo_none_tl, ?_⟩
  refine List.forall_mem_cons.mpr ⟨(zo_pushI_tl _ _), ?_⟩
  refine List.forall_mem_cons.mpr ⟨zo_none_tl, ?_⟩
  refine List.forall_mem_cons.mpr ⟨(zo_callv_tl _ _ _ _), ?_⟩
  refine List.forall_mem_cons.mpr ⟨zo_none_tl, ?_⟩
  refine List.forall_mem_cons.mpr ⟨zo_none_tl, ?_⟩
  refine List.forall_mem_cons.mpr ⟨(zo_if_tl _ _ _), ?_⟩
  refine List.forall_mem_cons.mpr ⟨zo_none_tl, ?_⟩
  refine List.forall_mem_cons.mpr ⟨zo_none_tl, ?_⟩
  refine List.forall_mem_cons.mpr ⟨(zo_pushI_tl _ _), ?_⟩
  refine List.forall_mem_cons.mpr ⟨(zo_goto_tl _), ?_⟩
  refine List.forall_mem_cons.mpr ⟨zo_none_tl, ?_⟩
  refine List.forall_mem_cons.mpr ⟨zo_none_tl, ?_⟩
  refine List.forall_mem_cons.mpr ⟨(zo_aload_tl _ _), ?_⟩
  refine List.forall_mem_cons.mpr ⟨(zo_iload_tl _ _), ?_⟩
  refine List.forall_mem_cons.mpr ⟨zo_none_tl, ?_⟩
  refine List.forall_mem_cons.mpr ⟨(zo_pushI_tl _ _), ?_⟩
  refine List.forall_mem_cons.mpr ⟨zo_none_tl, ?_⟩
  refine List.forall_mem_cons.mpr ⟨(zo_callv_tl _ _ _ _), ?_⟩
  refine List.forall_mem_cons.mpr ⟨zo_none_tl, ?_⟩
  refine List.forall_mem_cons.mpr ⟨zo_none_tl, ?_⟩
  refine List.forall_mem_cons.mpr ⟨(zo_if_tl _ _ _), ?_⟩
  refine List.forall_mem_cons.mpr ⟨zo_none_tl, ?_⟩
  refine List.forall_mem_cons.mpr ⟨zo_none_tl, ?_⟩
  refine List.forall_mem_cons.mpr ⟨(zo_pushI_tl _ _), ?_⟩
  refine List.forall_mem_cons.mpr ⟨(zo_goto_tl _), ?_⟩
  refine List.forall_mem_cons.mpr ⟨zo_none_tl, ?_⟩
  refine List.forall_mem_cons.mpr ⟨zo_none_tl, ?_⟩
  refine List.forall_mem_cons.mpr ⟨(zo_pushI_tl _ _), ?_⟩
  refine List.forall_mem_cons.mpr ⟨(zo_istore_tl _ _), ?_⟩
  refine List.forall_mem_cons.mpr ⟨zo_none_tl, ?_⟩
  refine List.forall_mem_cons.mpr ⟨(zo_aload_tl _ _), ?_⟩
  refine List.forall_mem_cons.mpr ⟨(zo_iload_tl _ _), ?_⟩
  refine List.forall_mem_cons.mpr ⟨zo_none_tl, ?_⟩
  refine List.forall_mem_cons.mpr ⟨(zo_pushI_tl _ _), ?_⟩
  refine List.forall_mem_cons.mpr ⟨zo_none_tl, ?_⟩
  refine List.forall_mem_cons.mpr ⟨(zo_callv_tl _ _ _ _), ?_⟩
  refine List.forall_mem_cons.mpr ⟨zo_none_tl, ?_⟩
  refine List.forall_mem_cons.mpr ⟨zo_none_tl, ?_⟩
  refine List.forall_mem_cons.mpr ⟨(zo_pushI_tl _ _), ?_⟩
  refine List.forall_mem_cons.mpr ⟨(zo_icmp_tl _ _ _), ?_⟩
  refine List.forall_mem_cons.mpr ⟨zo_none_tl, ?_⟩
  refine List.forall_mem_cons.mpr ⟨zo_none_tl, ?_⟩
  refine List.forall_mem_cons.mpr ⟨(zo_aload_tl _ _), ?_⟩
  refine List.forall_mem_cons.mpr ⟨(zo_iload_tl _ _), ?_⟩
  refine List.forall_mem_cons.mpr ⟨zo_none_tl, ?_⟩
  refine List.forall_mem_cons.mpr ⟨(zo_pushI_tl _ _), ?_⟩
  refine List.forall_mem_cons.mpr ⟨zo_none_tl, ?_⟩
  refine List.forall_mem_cons.mpr ⟨(zo_callv_tl _ _ _ _), ?_⟩
  refine List.forall_mem_cons.mpr ⟨zo_none_tl, ?_⟩
  refine List.forall_mem_cons.mpr ⟨zo_none_tl, ?_⟩
  refine List.forall_mem_cons.mpr ⟨(zo_pushI_tl _ _), ?_⟩
  refine List.forall_mem_cons.mpr ⟨(zo_icmp_tl _ _ _), ?_⟩
  refine List.forall_mem_cons.mpr ⟨zo_none_tl, ?_⟩
  refine List.forall_mem_cons.mpr ⟨zo_none_tl, ?_⟩
  refine List.forall_mem_cons.mpr ⟨(zo_pushI_tl _ _), ?_⟩
  refine List.forall_mem_cons.mpr ⟨(zo_goto_tl _), ?_⟩
  refine List.forall_mem_cons.mpr ⟨zo_none_tl, ?_⟩
  refine List.forall_mem_cons.mpr ⟨zo_none_tl, ?_⟩
  refine List.forall_mem_cons.mpr ⟨(zo_pushI_tl _ _), ?_⟩
  refine List.forall_mem_cons.mpr ⟨(zo_istore_tl _ _), ?_⟩
  refine List.forall_mem_cons.mpr ⟨zo_none_tl, ?_⟩
  refine List.forall_mem_cons.mpr ⟨(zo_iload_tl _ _), ?_⟩
  refine List.forall_mem_cons.mpr ⟨(zo_if_tl _ _ _), ?_⟩
  refine List.forall_mem_cons.mpr ⟨zo_none_tl, ?_⟩
  refine List.forall_mem_cons.mpr ⟨zo_none_tl, ?_⟩
  refine List.forall_mem_cons.mpr ⟨(zo_iload_tl _ _), ?_⟩
  refine List.forall_mem_cons.mpr ⟨zo_none_tl, ?_⟩
  refine List.forall_mem_cons.mpr ⟨(zo_if_tl _ _ _), ?_⟩
  refine List.forall_mem_cons.mpr ⟨zo_none_tl, ?_⟩
  refine List.forall_mem_cons.mpr ⟨zo_none_tl, ?_⟩
  refine List.forall_mem_cons.mpr ⟨(zo_iload_tl _ _), ?_⟩
  refine List.forall_mem_cons.mpr ⟨(zo_pushI_tl _ _), ?_⟩
  refine List.forall_mem_cons.mpr ⟨(zo_icmp_tl _ _ _), ?_⟩
  refine List.forall_mem_cons.mpr ⟨zo_none_tl, ?_⟩
  refine List.forall_mem_cons.mpr ⟨zo_none_tl, ?_⟩
  refine List.forall_mem_cons.mpr ⟨(zo_pushI_tl _ _), ?_⟩
  refine List.forall_mem_cons.mpr ⟨(zo_goto_tl _), ?_⟩
  refine List.forall_mem_cons.mpr ⟨zo_none_tl, ?_⟩
  refine List.forall_mem_cons.mpr ⟨zo_none_tl, ?_⟩
  refine List.forall_mem_cons.mpr ⟨(zo_pushI_tl _ _), ?_⟩
  refine List.forall_mem_cons.mpr ⟨(zo_goto_tl _), ?_⟩
  refine List.forall_mem_cons.mpr ⟨zo_none_tl, ?_⟩
  refine List.forall_mem_cons.mpr ⟨zo_none_tl, ?_⟩
  refine List.forall_mem_cons.mpr ⟨(zo_iload_tl _ _), ?_⟩
  refine List.forall_mem_cons.mpr ⟨zo_none_tl, ?_⟩
  refine List.forall_mem_cons.mpr ⟨(zo_iload_tl _ _), ?_⟩
  refine List.forall_mem_cons.mpr ⟨zo_none_tl, ?_⟩
  refine List.forall_mem_cons.mpr ⟨(zo_icmp_tl _ _ _), ?_⟩
  refine List.forall_mem_cons.mpr ⟨zo_none_tl, ?_⟩
  refine List.forall_mem_cons.mpr ⟨zo_none_tl, ?_⟩
  refine List.forall_mem_cons.mpr ⟨(zo_pushI_tl _ _), ?_⟩
  refine List.forall_mem_cons.mpr ⟨(zo_goto_tl _), ?_⟩
  refine List.forall_mem_cons.mpr ⟨zo_none_tl, ?_⟩
  refine List.forall_mem_cons.mpr ⟨zo_none_tl, ?_⟩
  refine List.forall_mem_cons.mpr ⟨(zo_pushI_tl _ _), ?_⟩
  refine List.forall_mem_cons.mpr ⟨(zo_istore_tl _ _), ?_⟩
  refine List.forall_mem_cons.mpr ⟨zo_none_tl, ?_⟩
  refine List.forall_mem_cons.mpr ⟨(zo_iload_tl _ _), ?_⟩
  refine List.forall_mem_cons.mpr ⟨zo_none_tl, ?_⟩
  refine List.forall_mem_cons.mpr ⟨(zo_if_tl _ _ _), ?_⟩
  refine List.forall_mem_cons.mpr ⟨zo_none_tl, ?_⟩
  refine List.forall_mem_cons.mpr ⟨zo_none_tl, ?_⟩
  refine List.forall_mem_cons.mpr ⟨(zo_iload_tl _ _), ?_⟩
  refine List.forall_mem_cons.mpr ⟨zo_none_tl, ?_⟩
  refine List.forall_mem_cons.mpr ⟨(zo_goto_tl _), ?_⟩
  refine List.forall_mem_cons.mpr ⟨zo_none_tl, ?_⟩
  refine List.forall_mem_cons.mpr ⟨zo_none_tl, ?_⟩
  refine List.forall_mem_cons.mpr ⟨(zo_iload_tl _ _), ?_⟩
  refine List.forall_mem_cons.mpr ⟨(zo_istore_tl _ _), ?_⟩
  refine List.forall_mem_cons.mpr ⟨(zo_iload_tl _ _), ?_⟩
  refine List.forall_mem_cons.mpr ⟨zo_none_tl, ?_⟩
  refine List.forall_mem_cons.mpr ⟨(zo_if_tl _ _ _), ?_⟩
  refine List.forall_mem_cons.mpr ⟨zo_none_tl, ?_⟩
  refine List.forall_mem_cons.mpr ⟨zo_none_tl, ?_⟩
  refine List.forall_mem_cons.mpr ⟨(zo_iload_tl _ _), ?_⟩
  refine List.forall_mem_cons.mpr ⟨zo_none_tl, ?_⟩
  refine List.forall_mem_cons.mpr ⟨(zo_goto_tl _), ?_⟩
  refine List.forall_mem_cons.mpr ⟨zo_none_tl, ?_⟩
  refine List.forall_mem_cons.mpr ⟨zo_none_tl, ?_⟩
  refine List.forall_mem_cons.mpr ⟨(zo_iload_tl _ _), ?_⟩
  refine List.forall_mem_cons.mpr ⟨zo_none_tl, ?_⟩
  refine List.forall_mem_cons.mpr ⟨(zo_istore_tl _ _), ?_⟩
  refine List.forall_mem_cons.mpr ⟨zo_none_tl, ?_⟩
  refine List.forall_mem_cons.mpr ⟨(zo_iinc_tl _ _ _), ?_⟩
  refine List.forall_mem_cons.mpr ⟨zo_none_tl, ?_⟩
  refine List.forall_mem_cons.mpr ⟨zo_none_tl, ?_⟩
  refine List.forall_mem_cons.mpr ⟨(zo_goto_tl _), ?_⟩
  refine List.forall_mem_cons.mpr ⟨zo_none_tl, ?_⟩
  refine List.forall_mem_cons.mpr ⟨zo_none_tl, ?_⟩
  refine List.forall_mem_cons.mpr ⟨(zo_iload_tl _ _), ?_⟩
  refine List.forall_mem_cons.mpr ⟨(zo_iret_tl _), ?_⟩
  exact fun _ h => absurd h List.not_mem_nil
noncomputable def fX12_podOf : zzFn := zz_fn tX12_podOf 9
noncomputable def tX12_replicates : List zzOp := [
  zo_aload 0 1,
  zo_aload 0 2,
  zo_getf zzSR (zz_kf [10] 43) 5,
  zo_none,
  zo_none,
  zo_pushI 1 6,
  zo_callv zzSR (zz_cl [(10, fX12_stays)]) 2 9,
  zo_none,
  zo_none,
  zo_if (fun x => decide (¬ x = 0)) 14 12,
  zo_none,
  zo_none,
  zo_pushI 1 13,
  zo_iret true,
  zo_aload 0 15,
  zo_aload 0 16,
  zo_getf zzSR (zz_kf [10] 43) 19,
  zo_none,
  zo_none,
  zo_pushI 0 20,
  zo_callv zzSR (zz_cl [(10, fX12_podOf)]) 2 23,
  zo_none,
  zo_none,
  zo_istore 1 24,
  zo_iload 1 25,
  zo_pushI (-1) 26,
  zo_icmp (fun x y => decide (x = y)) 35 29,
  zo_none,
  zo_none,
  zo_aload 0 30,
  zo_iload 1 31,
  zo_callv zzSR (zz_cl [(10, fX12_deletes)]) 1 34,
  zo_none,
  zo_none,
  zo_iret true,
  zo_aload 0 36,
  zo_aload 0 37,
  zo_getf zzSR (zz_kf [10] 43) 40,
  zo_none,
  zo_none,
  zo_pushI 15 42,
  zo_none,
  zo_callv zzSR (zz_cl [(10, fX12_pods)]) 2 45,
  zo_none,
  zo_none,
  zo_istore 2 46,
  zo_aload 0 47,
  zo_aload 0 48,
  zo_getf zzSR (zz_kf [10] 43) 51,
  zo_none,
  zo_none,
  zo_pushI 0 52,
  zo_callv zzSR (zz_cl [(10, fX12_viewed)]) 2 55,
  zo_none,
  zo_none,
  zo_istore 3 56,
  zo_iload 2 57,
  zo_iload 3 58,
  zo_icmp (fun x y => decide (y ≤ x)) 80 61,
  zo_none,
  zo_none,
  zo_aload 0 62,
  zo_pushI 2 63,
  zo_aload 0 64,
  zo_getf zzSR (zz_kf [10] 43) 67,
  zo_none,
  zo_none,
  zo_aload 0 68,
  zo_aload 0 69,
  zo_getf zzSR (zz_kf [10] 43) 72,
  zo_none,
  zo_none,
  zo_pushI 1 73,
  zo_callv zzSR (zz_cl [(10, fX12_viewed)]) 2 76,
  zo_none,
  zo_none,
  zo_callv zzSR (zz_cl [(10, fX12_makesOne)]) 3 79,
  zo_none,
  zo_none,
  zo_iret true,
  zo_iload 2 81,
  zo_iload 3 82,
  zo_icmp (fun x y => decide (x = y)) 101 85,
  zo_none,
  zo_none,
  zo_aload 0 86,
  zo_aload 0 87,
  zo_aload 0 88,
  zo_getf zzSR (zz_kf [10] 43) 91,
  zo_none,
  zo_none,
  zo_pushI 1 92,
  zo_callv zzSR (zz_cl [(10, fX12_podOf)]) 2 95,
  zo_none,
  zo_none,
  zo_callv zzSR (zz_cl [(10, fX12_deletes)]) 1 98,
  zo_none,
  zo_none,
  zo_if (fun x => decide (x = 0)) 105 101,
  zo_none,
  zo_none,
  zo_pushI 1 102,
  zo_goto 106,
  zo_none,
  zo_none,
  zo_pushI 0 106,
  zo_iret true]
set_option maxRecDepth 100000 in
theorem tl_X12_replicates : ∀ pc, zz_Tl (tX12_replicates.getD pc zo_none) := by
  refine zz_Tl_mem ?_
  unfold tX12_replicates
  refine List.forall_mem_cons.mpr ⟨(zo_aload_tl _ _), ?_⟩
  refine List.forall_mem_cons.mpr ⟨(zo_aload_tl _ _), ?_⟩
  refine List.forall_mem_cons.mpr ⟨(zo_getf_tl _ _ _), ?_⟩
  refine List.forall_mem_cons.mpr ⟨zo_none_tl, ?_⟩
  refine List.forall_mem_cons.mpr ⟨zo_none_tl, ?_⟩
  refine List.forall_mem_cons.mpr ⟨(zo_pushI_tl _ _), ?_⟩
  refine List.forall_mem_cons.mpr ⟨(zo_callv_tl _ _ _ _), ?_⟩
  refine List.forall_mem_cons.mpr ⟨zo_none_tl, ?_⟩
  refine List.forall_mem_cons.mpr ⟨zo_none_tl, ?_⟩
  refine List.forall_mem_cons.mpr ⟨(zo_if_tl _ _ _), ?_⟩
  refine List.forall_mem_cons.mpr ⟨zo_none_tl, ?_⟩
  refine List.forall_mem_cons.mpr ⟨zo_none_tl, ?_⟩
  refine List.forall_mem_cons.mpr ⟨(zo_pushI_tl _ _), ?_⟩
  refine List.forall_mem_cons.mpr ⟨(zo_iret_tl _), ?_⟩
  refine List.forall_mem_cons.mpr ⟨(zo_aload_tl _ _), ?_⟩
  refine List.forall_mem_cons.mpr ⟨(zo_aload_tl _ _), ?_⟩
  refine List.forall_mem_cons.mpr ⟨(zo_getf_tl _ _ _), ?_⟩
  refine List.forall_mem_cons.mpr ⟨zo_none_tl, ?_⟩
  refine List.forall_mem_cons.mpr ⟨zo_none_tl, ?_⟩
  refine List.forall_mem_cons.mpr ⟨(zo_pushI_tl _ _), ?_⟩
  refine List.forall_mem_cons.mpr ⟨(zo_callv_tl _ _ _ _), ?_⟩
  refine List.forall_mem_cons.mpr ⟨zo_none_tl, ?_⟩
  refine List.forall_mem_cons.mpr ⟨zo_none_tl, ?_⟩
  refine List.forall_mem_cons.mpr ⟨(zo_istore_tl _ _), ?_⟩
  refine List.forall_mem_cons.mpr ⟨(zo_iload_tl _ _), ?_⟩
  refine List.forall_mem_cons.mpr ⟨(zo_pushI_tl _ _), ?_⟩
  refine List.forall_mem_cons.mpr ⟨(zo_icmp_tl _ _ _), ?_⟩
  refine List.forall_mem_cons.mpr ⟨zo_none_tl, ?_⟩
  refine List.forall_mem_cons.mpr ⟨zo_none_tl, ?_⟩
  refine List.forall_mem_cons.mpr ⟨(zo_aload_tl _ _), ?_⟩
  refine List.forall_mem_cons.mpr ⟨(zo_iload_tl _ _), ?_⟩
  refine List.forall_mem_cons.mpr ⟨(zo_callv_tl _ _ _ _), ?_⟩
  refine List.forall_mem_cons.mpr ⟨zo_none_tl, ?_⟩
  refine List.forall_mem_cons.mpr ⟨zo_none_tl, ?_⟩
  refine List.forall_mem_cons.mpr ⟨(zo_iret_tl _), ?_⟩
  refine List.forall_mem_cons.mpr ⟨(zo_aload_tl _ _), ?_⟩
  refine List.forall_mem_cons.mpr ⟨(zo_aload_tl _ _), ?_⟩
  refine List.forall_mem_cons.mpr ⟨(zo_getf_tl _ _ _), ?_⟩
  refine List.forall_mem_cons.mpr ⟨zo_none_tl, ?_⟩
  refine List.forall_mem_cons.mpr ⟨zo_none_tl, ?_⟩
  refine List.forall_mem_cons.mpr ⟨(zo_pushI_tl _ _), ?_⟩
  refine List.forall_mem_cons.mpr ⟨zo_none_tl, ?_⟩
  refine List.forall_mem_cons.mpr ⟨(zo_callv_tl _ _ _ _), ?_⟩
  refine List.forall_mem_cons.mpr ⟨zo_none_tl, ?_⟩
  refine List.forall_mem_cons.mpr ⟨zo_none_tl, ?_⟩
  refine List.forall_mem_cons.mpr ⟨(zo_istore_tl _ _), ?_⟩
  refine List.forall_mem_cons.mpr ⟨(zo_aload_tl _ _), ?_⟩
  refine List.forall_mem_cons.mpr ⟨(zo_aload_tl _ _), ?_⟩
  refine List.forall_mem_cons.mpr ⟨(zo_getf_tl _ _ _), ?_⟩
  refine List.forall_mem_cons.mpr ⟨zo_none_tl, ?_⟩
  refine List.forall_mem_cons.mpr ⟨zo_none_tl, ?_⟩
  refine List.forall_mem_cons.mpr ⟨(zo_pushI_tl _ _), ?_⟩
  refine List.forall_mem_cons.mpr ⟨(zo_callv_tl _ _ _ _), ?_⟩
  refine List.forall_mem_cons.mpr ⟨zo_none_tl, ?_⟩
  refine List.forall_mem_cons.mpr ⟨zo_none_tl, ?_⟩
  refine List.forall_mem_cons.mpr ⟨(zo_istore_tl _ _), ?_⟩
  refine List.forall_mem_cons.mpr ⟨(zo_iload_tl _ _), ?_⟩
  refine List.forall_mem_cons.mpr ⟨(zo_iload_tl _ _), ?_⟩
  refine List.forall_mem_cons.mpr ⟨(zo_icmp_tl _ _ _), ?_⟩
  refine List.forall_mem_cons.mpr ⟨zo_none_tl, ?_⟩
  refine List.forall_mem_cons.mpr ⟨zo_none_tl, ?_⟩
  refine List.forall_mem_cons.mpr ⟨(zo_aload_tl _ _), ?_⟩
  refine List.forall_mem_cons.mpr ⟨(zo_pushI_tl _ _), ?_⟩
  refine List.forall_mem_cons.mpr ⟨(zo_aload_tl _ _), ?_⟩
  refine List.forall_mem_cons.mpr ⟨(zo_getf_tl _ _ _), ?_⟩
  refine List.forall_mem_cons.mpr ⟨zo_none_tl, ?_⟩
  refine List.forall_mem_cons.mpr ⟨zo_none_tl, ?_⟩
  refine List.forall_mem_cons.mpr ⟨(zo_aload_tl _ _), ?_⟩
  refine List.forall_mem_cons.mpr ⟨(zo_aload_tl _ _), ?_⟩
  refine List.forall_mem_cons.mpr ⟨(zo_getf_tl _ _ _), ?_⟩
  refine List.forall_mem_cons.mpr ⟨zo_none_tl, ?_⟩
  refine List.forall_mem_cons.mpr ⟨zo_none_tl, ?_⟩
  refine List.forall_mem_cons.mpr ⟨(zo_pushI_tl _ _), ?_⟩
  refine List.forall_mem_cons.mpr ⟨(zo_callv_tl _ _ _ _), ?_⟩
  refine List.forall_mem_cons.mpr ⟨zo_none_tl, ?_⟩
  refine List.forall_mem_cons.mpr ⟨zo_none_tl, ?_⟩
  refine List.forall_mem_cons.mpr ⟨(zo_callv_tl _ _ _ _), ?_⟩
  refine List.forall_mem_cons.mpr ⟨zo_none_tl, ?_⟩
  refine List.forall_mem_cons.mpr ⟨zo_none_tl, ?_⟩
  refine List.forall_mem_cons.mpr ⟨(zo_iret_tl _), ?_⟩
  refine List.forall_mem_cons.mpr ⟨(zo_iload_tl _ _), ?_⟩
  refine List.forall_mem_cons.mpr ⟨(zo_iload_tl _ _), ?_⟩
  refine List.forall_mem_cons.mpr ⟨(zo_icmp_tl _ _ _), ?_⟩
  refine List.forall_mem_cons.mpr ⟨zo_none_tl, ?_⟩
  refine List.forall_mem_cons.mpr ⟨zo_none_tl, ?_⟩
  refine List.forall_mem_cons.mpr ⟨(zo_aload_tl _ _), ?_⟩
  refine List.forall_mem_cons.mpr ⟨(zo_aload_tl _ _), ?_⟩
  refine List.forall_mem_cons.mpr ⟨(zo_aload_tl _ _), ?_⟩
  refine List.forall_mem_cons.mpr ⟨(zo_getf_tl _ _ _), ?_⟩
  refine List.forall_mem_cons.mpr ⟨zo_none_tl, ?_⟩
  refine List.forall_mem_cons.mpr ⟨zo_none_tl, ?_⟩
  refine List.forall_mem_cons.mpr ⟨(zo_pushI_tl _ _), ?_⟩
  refine List.forall_mem_cons.mpr ⟨(zo_callv_tl _ _ _ _), ?_⟩
  refine List.forall_mem_cons.mpr ⟨zo_none_tl, ?_⟩
  refine List.forall_mem_cons.mpr ⟨zo_none_tl, ?_⟩
  refine List.forall_mem_cons.mpr ⟨(zo_callv_tl _ _ _ _), ?_⟩
  refine List.forall_mem_cons.mpr ⟨zo_none_tl, ?_⟩
  refine List.forall_mem_cons.mpr ⟨zo_none_tl, ?_⟩
  refine List.forall_mem_cons.mpr ⟨(zo_if_tl _ _ _), ?_⟩
  refine List.forall_mem_cons.mpr ⟨zo_none_tl, ?_⟩
  refine List.forall_mem_cons.mpr ⟨zo_none_tl, ?_⟩
  refine List.forall_mem_cons.mpr ⟨(zo_pushI_tl _ _), ?_⟩
  refine List.forall_mem_cons.mpr ⟨(zo_goto_tl _), ?_⟩
  refine List.forall_mem_cons.mpr ⟨zo_none_tl, ?_⟩
  refine List.forall_mem_cons.mpr ⟨zo_none_tl, ?_⟩
  refine List.forall_mem_cons.mpr ⟨(zo_pushI_tl _ _), ?_⟩
  refine List.forall_mem_cons.mpr ⟨(zo_iret_tl _), ?_⟩
  exact fun _ h => absurd h List.not_mem_nil
noncomputable def fX12_replicates : zzFn := zz_fn tX12_replicates 4
noncomputable def tX12_doesJobs : List zzOp := [
  zo_aload 0 1,
  zo_aload 0 2,
  zo_getf zzSR (zz_kf [10] 43) 5,
  zo_none,
  zo_none,
  zo_pushI 3 6,
  zo_callv zzSR (zz_cl [(10, fX12_stays)]) 2 9,
  zo_none,
  zo_none,
  zo_if (fun x => decide (¬ x = 0)) 14 12,
  zo_none,
  zo_none,
  zo_pushI 1 13,
  zo_iret true,
  zo_aload 0 15,
  zo_aload 0 16,
  zo_getf zzSR (zz_kf [10] 43) 19,
  zo_none,
  zo_none,
  zo_pushI 3 20,
  zo_callv zzSR (zz_cl [(10, fX12_pods)]) 2 23,
  zo_none,
  zo_none,
  zo_istore 1 24,
  zo_iload 1 25,
  zo_aload 0 26,
  zo_aload 0 27,
  zo_getf zzSR (zz_kf [10] 43) 30,
  zo_none,
  zo_none,
  zo_pushI 4 31,
  zo_callv zzSR (zz_cl [(10, fX12_pods)]) 2 34,
  zo_none,
  zo_none,
  zo_ii (fun x y => x + y) 35,
  zo_aload 0 36,
  zo_aload 0 37,
  zo_getf zzSR (zz_kf [10] 43) 40,
  zo_none,
  zo_none,
  zo_pushI 0 41,
  zo_callv zzSR (zz_cl [(10, fX12_viewed)]) 2 44,
  zo_none,
  zo_none,
  zo_icmp (fun x y => decide (y ≤ x)) 65 47,
  zo_none,
  zo_none,
  zo_iload 1 48,
  zo_aload 0 49,
  zo_aload 0 50,
  zo_getf zzSR (zz_kf [10] 43) 53,
  zo_none,
  zo_none,
  zo_pushI 10 55,
  zo_none,
  zo_callv zzSR (zz_cl [(10, fX12_viewed)]) 2 58,
  zo_none,
  zo_none,
  zo_icmp (fun x y => decide (y ≤ x)) 65 61,
  zo_none,
  zo_none,
  zo_pushI 1 62,
  zo_goto 66,
  zo_none,
  zo_none,
  zo_pushI 0 66,
  zo_istore 2 67,
  zo_iload 2 68,
  zo_if (fun x => decide (x = 0)) 92 71,
  zo_none,
  zo_none,
  zo_aload 0 72,
  zo_pushI 2 73,
  zo_aload 0 74,
  zo_getf zzSR (zz_kf [10] 43) 77,
  zo_none,
  zo_none,
  zo_aload 0 78,
  zo_aload 0 79,
  zo_getf zzSR (zz_kf [10] 43) 82,
  zo_none,
  zo_none,
  zo_pushI 1 83,
  zo_callv zzSR (zz_cl [(10, fX12_viewed)]) 2 86,
  zo_none,
  zo_none,
  zo_callv zzSR (zz_cl [(10, fX12_makesOne)]) 3 89,
  zo_none,
  zo_none,
  zo_if (fun x => decide (x = 0)) 96 92,
  zo_none,
  zo_none,
  zo_pushI 1 93,
  zo_goto 97,
  zo_none,
  zo_none,
  zo_pushI 0 97,
  zo_iret true]
set_option maxRecDepth 100000 in
theorem tl_X12_doesJobs : ∀ pc, zz_Tl (tX12_doesJobs.getD pc zo_none) := by
  refine zz_Tl_mem ?_
  unfold tX12_doesJobs
  refine List.forall_mem_cons.mpr ⟨(zo_aload_tl _ _), ?_⟩
  refine List.forall_mem_cons.mpr ⟨(zo_aload_tl _ _), ?_⟩
  refine List.forall_mem_cons.mpr ⟨(zo_getf_tl _ _ _), ?_⟩
  refine List.forall_mem_cons.mpr ⟨zo_none_tl, ?_⟩
  refine List.forall_mem_cons.mpr ⟨zo_none_tl, ?_⟩
  refine List.forall_mem_cons.mpr ⟨(zo_pushI_tl _ _), ?_⟩
  refine List.forall_mem_cons.mpr ⟨(zo_callv_tl _ _ _ _), ?_⟩
  refine List.forall_mem_cons.mpr ⟨zo_none_tl, ?_⟩
  refine List.forall_mem_cons.mpr ⟨zo_none_tl, ?_⟩
  refine List.forall_mem_cons.mpr ⟨(zo_if_tl _ _ _), ?_⟩
  refine List.forall_mem_cons.mpr ⟨zo_none_tl, ?_⟩
  refine List.forall_mem_cons.mpr ⟨zo_none_tl, ?_⟩
  refine List.forall_mem_cons.mpr ⟨(zo_pushI_tl _ _), ?_⟩
  refine List.forall_mem_cons.mpr ⟨(zo_iret_tl _), ?_⟩
  refine List.forall_mem_cons.mpr ⟨(zo_aload_tl _ _), ?_⟩
  refine List.forall_mem_cons.mpr ⟨(zo_aload_tl _ _), ?_⟩
  refine List.forall_mem_cons.mpr ⟨(zo_getf_tl _ _ _), ?_⟩
  refine List.forall_mem_cons.mpr ⟨zo_none_tl, ?_⟩
  refine List.forall_mem_cons.mpr ⟨zo_none_tl, ?_⟩
  refine List.forall_mem_cons.mpr ⟨(zo_pushI_tl _ _), ?_⟩
  refine List.forall_mem_cons.mpr ⟨(zo_callv_tl _ _ _ _), ?_⟩
  refine List.forall_mem_cons.mpr ⟨zo_none_tl, ?_⟩
  refine List.forall_mem_cons.mpr ⟨zo_none_tl, ?_⟩
  refine List.forall_mem_cons.mpr ⟨(zo_istore_tl _ _), ?_⟩
  refine List.forall_mem_cons.mpr ⟨(zo_iload_tl _ _), ?_⟩
  refine List.forall_mem_cons.mpr ⟨(zo_aload_tl _ _), ?_⟩
  refine List.forall_mem_cons.mpr ⟨(zo_aload_tl _ _), ?_⟩
  refine List.forall_mem_cons.mpr ⟨(zo_getf_tl _ _ _), ?_⟩
  refine List.forall_mem_cons.mpr ⟨zo_none_tl, ?_⟩
  refine List.forall_mem_cons.mpr ⟨zo_none_tl, ?_⟩
  refine List.forall_mem_cons.mpr ⟨(zo_pushI_tl _ _), ?_⟩
  refine List.forall_mem_cons.mpr ⟨(zo_callv_tl _ _ _ _), ?_⟩
  refine List.forall_mem_cons.mpr ⟨zo_none_tl, ?_⟩
  refine List.forall_mem_cons.mpr ⟨zo_none_tl, ?_⟩
  refine List.forall_mem_cons.mpr ⟨(zo_ii_tl _ _), ?_⟩
  refine List.forall_mem_cons.mpr ⟨(zo_aload_tl _ _), ?_⟩
  refine List.forall_mem_cons.mpr ⟨(zo_aload_tl _ _), ?_⟩
  refine List.forall_mem_cons.mpr ⟨(zo_getf_tl _ _ _), ?_⟩
  refine List.forall_mem_cons.mpr ⟨zo_none_tl, ?_⟩
  refine List.forall_mem_cons.mpr ⟨zo_none_tl, ?_⟩
  refine List.forall_mem_cons.mpr ⟨(zo_pushI_tl _ _), ?_⟩
  refine List.forall_mem_cons.mpr ⟨(zo_callv_tl _ _ _ _), ?_⟩
  refine List.forall_mem_cons.mpr ⟨zo_none_tl, ?_⟩
  refine List.forall_mem_cons.mpr ⟨zo_none_tl, ?_⟩
  refine List.forall_mem_cons.mpr ⟨(zo_icmp_tl _ _ _), ?_⟩
  refine List.forall_mem_cons.mpr ⟨zo_none_tl, ?_⟩
  refine List.forall_mem_cons.mpr ⟨zo_none_tl, ?_⟩
  refine List.forall_mem_cons.mpr ⟨(zo_iload_tl _ _), ?_⟩
  refine List.forall_mem_cons.mpr ⟨(zo_aload_tl _ _), ?_⟩
  refine List.forall_mem_cons.mpr ⟨(zo_aload_tl _ _), ?_⟩
  refine List.forall_mem_cons.mpr ⟨(zo_getf_tl _ _ _), ?_⟩
  refine List.forall_mem_cons.mpr ⟨zo_none_tl, ?_⟩
  refine List.forall_mem_cons.mpr ⟨zo_none_tl, ?_⟩
  refine List.forall_mem_cons.mpr ⟨(zo_pushI_tl _ _), ?_⟩
  refine List.forall_mem_cons.mpr ⟨zo_none_tl, ?_⟩
  refine List.forall_mem_cons.mpr ⟨(zo_callv_tl _ _ _ _), ?_⟩
  refine List.forall_mem_cons.mpr ⟨zo_none_tl, ?_⟩
  refine List.forall_mem_cons.mpr ⟨zo_none_tl, ?_⟩
  refine List.forall_mem_cons.mpr ⟨(zo_icmp_tl _ _ _), ?_⟩
  refine List.forall_mem_cons.mpr ⟨zo_none_tl, ?_⟩
  refine List.forall_mem_cons.mpr ⟨zo_none_tl, ?_⟩
  refine List.forall_mem_cons.mpr ⟨(zo_pushI_tl _ _), ?_⟩
  refine List.forall_mem_cons.mpr ⟨(zo_goto_tl _), ?_⟩
  refine List.forall_mem_cons.mpr ⟨zo_none_tl, ?_⟩
  refine List.forall_mem_cons.mpr ⟨zo_none_tl, ?_⟩
  refine List.forall_mem_cons.mpr ⟨(zo_pushI_tl _ _), ?_⟩
  refine List.forall_mem_cons.mpr ⟨(zo_istore_tl _ _), ?_⟩
  refine List.forall_mem_cons.mpr ⟨(zo_iload_tl _ _), ?_⟩
  refine List.forall_mem_cons.mpr ⟨(zo_if_tl _ _ _), ?_⟩
  refine List.forall_mem_cons.mpr ⟨zo_none_tl, ?_⟩
  refine List.forall_mem_cons.mpr ⟨zo_none_tl, ?_⟩
  refine List.forall_mem_cons.mpr ⟨(zo_aload_tl _ _), ?_⟩
  refine List.forall_mem_cons.mpr ⟨(zo_pushI_tl _ _), ?_⟩
  refine List.forall_mem_cons.mpr ⟨(zo_aload_tl _ _), ?_⟩
  refine List.forall_mem_cons.mpr ⟨(zo_getf_tl _ _ _), ?_⟩
  refine List.forall_mem_cons.mpr ⟨zo_none_tl, ?_⟩
  refine List.forall_mem_cons.mpr ⟨zo_none_tl, ?_⟩
  refine List.forall_mem_cons.mpr ⟨(zo_aload_tl _ _), ?_⟩
  refine List.forall_mem_cons.mpr ⟨(zo_aload_tl _ _), ?_⟩
  refine List.forall_mem_cons.mpr ⟨(zo_getf_tl _ _ _), ?_⟩
  refine List.forall_mem_cons.mpr ⟨zo_none_tl, ?_⟩
  refine List.forall_mem_cons.mpr ⟨zo_none_tl, ?_⟩
  refine List.forall_mem_cons.mpr ⟨(zo_pushI_tl _ _), ?_⟩
  refine List.forall_mem_cons.mpr ⟨(zo_callv_tl _ _ _ _), ?_⟩
  refine List.forall_mem_cons.mpr ⟨zo_none_tl, ?_⟩
  refine List.forall_mem_cons.mpr ⟨zo_none_tl, ?_⟩
  refine List.forall_mem_cons.mpr ⟨(zo_callv_tl _ _ _ _), ?_⟩
  refine List.forall_mem_cons.mpr ⟨zo_none_tl, ?_⟩
  refine List.forall_mem_cons.mpr ⟨zo_none_tl, ?_⟩
  refine List.forall_mem_cons.mpr ⟨(zo_if_tl _ _ _), ?_⟩
  refine List.forall_mem_cons.mpr ⟨zo_none_tl, ?_⟩
  refine List.forall_mem_cons.mpr ⟨zo_none_tl, ?_⟩
  refine List.forall_mem_cons.mpr ⟨(zo_pushI_tl _ _), ?_⟩
  refine List.forall_mem_cons.mpr ⟨(zo_goto_tl _), ?_⟩
  refine List.forall_mem_cons.mpr ⟨zo_none_tl, ?_⟩
  refine List.forall_mem_cons.mpr ⟨zo_none_tl, ?_⟩
  refine List.forall_mem_cons.mpr ⟨(zo_pushI_tl _ _), ?_⟩
  refine List.forall_mem_cons.mpr ⟨(zo_iret_tl _), ?_⟩
  exact fun _ h => absurd h List.not_mem_nil
noncomputable def fX12_doesJobs : zzFn := zz_fn tX12_doesJobs 3
noncomputable def tX12_isUsable : List zzOp := [
  zo_aload 0 1,
  zo_iload 1 2,
  zo_pushI 4 3,
  zo_callv zzSR (zz_cl [(10, fX12_stays)]) 2 6,
  zo_none,
  zo_none,
  zo_if (fun x => decide (x = 0)) 34 9,
  zo_none,
  zo_none,
  zo_aload 0 10,
  zo_iload 1 11,
  zo_pushI 14 13,
  zo_none,
  zo_callv zzSR (zz_cl [(10, fX12_viewed)]) 2 16,
  zo_none,
  zo_none,
  zo_pushI 1 17,
  zo_icmp (fun x y => decide (¬ x = y)) 34 20,
  zo_none,
  zo_none,
  zo_aload 0 21,
  zo_iload 1 22,
  zo_pushI 9 24,
  zo_none,
  zo_callv zzSR (zz_cl [(10, fX12_viewed)]) 2 27,
  zo_none,
  zo_none,
  zo_if (fun x => decide (¬ x = 0)) 34 30,
  zo_none,
  zo_none,
  zo_pushI 1 31,
  zo_goto 35,
  zo_none,
  zo_none,
  zo_pushI 0 35,
  zo_iret true]
set_option maxRecDepth 100000 in
theorem tl_X12_isUsable : ∀ pc, zz_Tl (tX12_isUsable.getD pc zo_none) := by
  refine zz_Tl_mem ?_
  unfold tX12_isUsable
  refine List.forall_mem_cons.mpr ⟨(zo_aload_tl _ _), ?_⟩
  refine List.forall_mem_cons.mpr ⟨(zo_iload_tl _ _), ?_⟩
  refine List.forall_mem_cons.mpr ⟨(zo_pushI_tl _ _), ?_⟩
  refine List.forall_mem_cons.mpr ⟨(zo_callv_tl _ _ _ _), ?_⟩
  refine List.forall_mem_cons.mpr ⟨zo_none_tl, ?_⟩
  refine List.forall_mem_cons.mpr ⟨zo_none_tl, ?_⟩
  refine List.forall_mem_cons.mpr ⟨(zo_if_tl _ _ _), ?_⟩
  refine List.forall_mem_cons.mpr ⟨zo_none_tl, ?_⟩
  refine List.forall_mem_cons.mpr ⟨zo_none_tl, ?_⟩
  refine List.forall_mem_cons.mpr ⟨(zo_aload_tl _ _), ?_⟩
  refine List.forall_mem_cons.mpr ⟨(zo_iload_tl _ _), ?_⟩
  refine List.forall_mem_cons.mpr ⟨(zo_pushI_tl _ _), ?_⟩
  refine List.forall_mem_cons.mpr ⟨zo_none_tl, ?_⟩
  refine List.forall_mem_cons.mpr ⟨(zo_callv_tl _ _ _ _), ?_⟩
  refine List.forall_mem_cons.mpr ⟨zo_none_tl, ?_⟩
  refine List.forall_mem_cons.mpr ⟨zo_none_tl, ?_⟩
  refine List.forall_mem_cons.mpr ⟨(zo_pushI_tl _ _), ?_⟩
  refine List.forall_mem_cons.mpr ⟨(zo_icmp_tl _ _ _), ?_⟩
  refine List.forall_mem_cons.mpr ⟨zo_none_tl, ?_⟩
  refine List.forall_mem_cons.mpr ⟨zo_none_tl, ?_⟩
  refine List.forall_mem_cons.mpr ⟨(zo_aload_tl _ _), ?_⟩
  refine List.forall_mem_cons.mpr ⟨(zo_iload_tl _ _), ?_⟩
  refine List.forall_mem_cons.mpr ⟨(zo_pushI_tl _ _), ?_⟩
  refine List.forall_mem_cons.mpr ⟨zo_none_tl, ?_⟩
  refine List.forall_mem_cons.mpr ⟨(zo_callv_tl _ _ _ _), ?_⟩
  refine List.forall_mem_cons.mpr ⟨zo_none_tl, ?_⟩
  refine List.forall_mem_cons.mpr ⟨zo_none_tl, ?_⟩
  refine List.forall_mem_cons.mpr ⟨(zo_if_tl _ _ _), ?_⟩
  refine List.forall_mem_cons.mpr ⟨zo_none_tl, ?_⟩
  refine List.forall_mem_cons.mpr ⟨zo_none_tl, ?_⟩
  refine List.forall_mem_cons.mpr ⟨(zo_pushI_tl _ _), ?_⟩
  refine List.forall_mem_cons.mpr ⟨(zo_goto_tl _), ?_⟩
  refine List.forall_mem_cons.mpr ⟨zo_none_tl, ?_⟩
  refine List.forall_mem_cons.mpr ⟨zo_none_tl, ?_⟩
  refine List.forall_mem_cons.mpr ⟨(zo_pushI_tl _ _), ?_⟩
  refine List.forall_mem_cons.mpr ⟨(zo_iret_tl _), ?_⟩
  exact fun _ h => absurd h List.not_mem_nil
noncomputable def fX12_isUsable : zzFn := zz_fn tX12_isUsable 2
noncomputable def tX12_zoned : List zzOp := [
  zo_pushI 0 1,
  zo_istore 3 2,
  zo_pushI 0 3,
  zo_istore 4 5,
  zo_none,
  zo_iload 4 7,
  zo_none,
  zo_aload 0 8,
  zo_getf zzSR (zz_kf [10] 5) 11,
  zo_none,
  zo_none,
  zo_icmp (fun x y => decide (y ≤ x)) 135 14,
  zo_none,
  zo_none,
  zo_aload 0 15,
  zo_iload 4 17,
  zo_none,
  zo_callv zzSR (zz_cl [(10, fX12_isGoneThere)]) 1 20,
  zo_none,
  zo_none,
  zo_if (fun x => decide (¬ x = 0)) 71 23,
  zo_none,
  zo_none,
  zo_aload 0 24,
  zo_getf zzSR (zz_kf [10] 6) 27,
  zo_none,
  zo_none,
  zo_iload 4 29,
  zo_none,
  zo_iald zzSR zzSTR 30,
  zo_pushI 2 31,
  zo_icmp (fun x y => decide (¬ x = y)) 71 34,
  zo_none,
  zo_none,
  zo_aload 0 35,
  zo_iload 4 37,
  zo_none,
  zo_pushI 15 39,
  zo_none,
  zo_callv zzSR (zz_cl [(10, fX12_viewed)]) 2 42,
  zo_none,
  zo_none,
  zo_if (fun x => decide (x ≤ 0)) 71 45,
  zo_none,
  zo_none,
  zo_aload 0 46,
  zo_aload 0 47,
  zo_iload 4 49,
  zo_none,
  zo_callv zzSR (zz_cl [(10, fX12_view)]) 1 52,
  zo_none,
  zo_none,
  zo_callv zzSR (zz_cl [(10, fX12_ownerIn)]) 1 55,
  zo_none,
  zo_none,
  zo_aload 0 56,
  zo_aload 0 57,
  zo_iload 1 58,
  zo_callv zzSR (zz_cl [(10, fX12_view)]) 1 61,
  zo_none,
  zo_none,
  zo_callv zzSR (zz_cl [(10, fX12_ownerIn)]) 1 64,
  zo_none,
  zo_none,
  zo_icmp (fun x y => decide (¬ x = y)) 71 67,
  zo_none,
  zo_none,
  zo_pushI 1 68,
  zo_goto 72,
  zo_none,
  zo_none,
  zo_pushI 0 72,
  zo_istore 5 74,
  zo_none,
  zo_iload 5 76,
  zo_none,
  zo_if (fun x => decide (x = 0)) 92 79,
  zo_none,
  zo_none,
  zo_aload 0 80,
  zo_iload 4 82,
  zo_none,
  zo_pushI 15 84,
  zo_none,
  zo_callv zzSR (zz_cl [(10, fX12_viewed)]) 2 87,
  zo_none,
  zo_none,
  zo_pushI 1 88,
  zo_ii (fun x y => x - y) 89,
  zo_goto 93,
  zo_none,
  zo_none,
  zo_pushI (-1) 93,
  zo_istore 6 95,
  zo_none,
  zo_iload 3 96,
  zo_iload 5 98,
  zo_none,
  zo_if (fun x => decide (x = 0)) 126 101,
  zo_none,
  zo_none,
  zo_aload 0 102,
  zo_iload 6 104,
  zo_none,
  zo_callv zzSR (zz_cl [(10, fX12_isGoneThere)]) 1 107,
  zo_none,
  zo_none,
  zo_if (fun x => decide (¬ x = 0)) 126 110,
  zo_none,
  zo_none,
  zo_aload 0 111,
  zo_iload 6 113,
  zo_none,
  zo_pushI 8 115,
  zo_none,
  zo_callv zzSR (zz_cl [(10, fX12_viewed)]) 2 118,
  zo_none,
  zo_none,
  zo_iload 2 119,
  zo_icmp (fun x y => decide (¬ x = y)) 126 122,
  zo_none,
  zo_none,
  zo_pushI 1 123,
  zo_goto 127,
  zo_none,
  zo_none,
  zo_pushI 0 127,
  zo_ii (fun x y => x + y) 128,
  zo_istore 3 129,
  zo_iinc 4 1 132,
  zo_none,
  zo_none,
  zo_goto 5,
  zo_none,
  zo_none,
  zo_iload 3 136,
  zo_iret false]
set_option maxRecDepth 100000 in
theorem tl_X12_zoned : ∀ pc, zz_Tl (tX12_zoned.getD pc zo_none) := by
  refine zz_Tl_mem ?_
  unfold tX12_zoned
  refine List.forall_mem_cons.mpr ⟨(zo_pushI_tl _ _), ?_⟩
  refine List.forall_mem_cons.mpr ⟨(zo_istore_tl _ _), ?_⟩
  refine List.forall_mem_cons.mpr ⟨(zo_pushI_tl _ _), ?_⟩
  refine List.forall_mem_cons.mpr ⟨(zo_istore_tl _ _), ?_⟩
  refine List.forall_mem_cons.mpr ⟨zo_none_tl, ?_⟩
  refine List.forall_mem_cons.mpr ⟨(zo_iload_tl _ _), ?_⟩
  refine List.forall_mem_cons.mpr ⟨zo_none_tl, ?_⟩
  refine List.forall_mem_cons.mpr ⟨(zo_aload_tl _ _), ?_⟩
  refine List.forall_mem_cons.mpr ⟨(zo_getf_tl _ _ _), ?_⟩
  refine List.forall_mem_cons.mpr ⟨zo_none_tl, ?_⟩
  refine List.forall_mem_cons.mpr ⟨zo_none_tl, ?_⟩
  refine List.forall_mem_cons.mpr ⟨(zo_icmp_tl _ _ _), ?_⟩
  refine List.forall_mem_cons.mpr ⟨zo_none_tl, ?_⟩
  refine List.forall_mem_cons.mpr ⟨zo_none_tl, ?_⟩
  refine List.forall_mem_cons.mpr ⟨(zo_aload_tl _ _), ?_⟩
  refine List.forall_mem_cons.mpr ⟨(zo_iload_tl _ _), ?_⟩
  refine List.forall_mem_cons.mpr ⟨zo_none_tl, ?_⟩
  refine List.forall_mem_cons.mpr ⟨(zo_callv_tl _ _ _ _), ?_⟩
  refine List.forall_mem_cons.mpr ⟨zo_none_tl, ?_⟩
  refine List.forall_mem_cons.mpr ⟨zo_none_tl, ?_⟩
  refine List.forall_mem_cons.mpr ⟨(zo_if_tl _ _ _), ?_⟩
  refine List.forall_mem_cons.mpr ⟨zo_none_tl, ?_⟩
  refine List.forall_mem_cons.mpr ⟨zo_none_tl, ?_⟩
  refine List.forall_mem_cons.mpr ⟨(zo_aload_tl _ _), ?_⟩
  refine List.forall_mem_cons.mpr ⟨(zo_getf_tl _ _ _), ?_⟩
  refine List.forall_mem_cons.mpr ⟨zo_none_tl, ?_⟩
  refine List.forall_mem_cons.mpr ⟨zo_none_tl, ?_⟩
  refine List.forall_mem_cons.mpr ⟨(zo_iload_tl _ _), ?_⟩
  refine List.forall_mem_cons.mpr ⟨zo_none_tl, ?_⟩
  refine List.forall_mem_cons.mpr ⟨(zo_iald_tl _ _ _), ?_⟩
  refine List.forall_mem_cons.mpr ⟨(zo_pushI_tl _ _), ?_⟩
  refine List.forall_mem_cons.mpr ⟨(zo_icmp_tl _ _ _), ?_⟩
  refine List.forall_mem_cons.mpr ⟨zo_none_tl, ?_⟩
  refine List.forall_mem_cons.mpr ⟨zo_none_tl, ?_⟩
  refine List.forall_mem_cons.mpr ⟨(zo_aload_tl _ _), ?_⟩
  refine List.forall_mem_cons.mpr ⟨(zo_iload_tl _ _), ?_⟩
  refine List.forall_mem_cons.mpr ⟨zo_none_tl, ?_⟩
  refine List.forall_mem_cons.mpr ⟨(zo_pushI_tl _ _), ?_⟩
  refine List.forall_mem_cons.mpr ⟨zo_none_tl, ?_⟩
  refine List.forall_mem_cons.mpr ⟨(zo_callv_tl _ _ _ _), ?_⟩
  refine List.forall_mem_cons.mpr ⟨zo_none_tl, ?_⟩
  refine List.forall_mem_cons.mpr ⟨zo_none_tl, ?_⟩
  refine List.forall_mem_cons.mpr ⟨(zo_if_tl _ _ _), ?_⟩
  refine List.forall_mem_cons.mpr ⟨zo_none_tl, ?_⟩
  refine List.forall_mem_cons.mpr ⟨zo_none_tl, ?_⟩
  refine List.forall_mem_cons.mpr ⟨(zo_aload_tl _ _), ?_⟩
  refine List.forall_mem_cons.mpr ⟨(zo_aload_tl _ _), ?_⟩
  refine List.forall_mem_cons.mpr ⟨(zo_iload_tl _ _), ?_⟩
  refine List.forall_mem_cons.mpr ⟨zo_none_tl, ?_⟩
  refine List.forall_mem_cons.mpr ⟨(zo_callv_tl _ _ _ _), ?_⟩
  refine List.forall_mem_cons.mpr ⟨zo_none_tl, ?_⟩
  refine List.forall_mem_cons.mpr ⟨zo_none_tl, ?_⟩
  refine List.forall_mem_cons.mpr ⟨(zo_callv_tl _ _ _ _), ?_⟩
  refine List.forall_mem_cons.mpr ⟨zo_none_tl, ?_⟩
  refine List.forall_mem_cons.mpr ⟨zo_none_tl, ?_⟩
  refine List.forall_mem_cons.mpr ⟨(zo_aload_tl _ _), ?_⟩
  refine List.forall_mem_cons.mpr ⟨(zo_aload_tl _ _), ?_⟩
  refine List.forall_mem_cons.mpr ⟨(zo_iload_tl _ _), ?_⟩
  refine List.forall_mem_cons.mpr ⟨(zo_callv_tl _ _ _ _), ?_⟩
  refine List.forall_mem_cons.mpr ⟨zo_none_tl, ?_⟩
  refine List.forall_mem_cons.mpr ⟨zo_none_tl, ?_⟩
  refine List.forall_mem_cons.mpr ⟨(zo_callv_tl _ _ _ _), ?_⟩
  refine List.forall_mem_cons.mpr ⟨zo_none_tl, ?_⟩
  refine List.forall_mem_cons.mpr ⟨zo_none_tl, ?_⟩
  refine List.forall_mem_cons.mpr ⟨(zo_icmp_tl _ _ _), ?_⟩
  refine List.forall_mem_cons.mpr ⟨zo_none_tl, ?_⟩
  refine List.forall_mem_cons.mpr ⟨zo_none_tl, ?_⟩
  refine List.forall_mem_cons.mpr ⟨(zo_pushI_tl _ _), ?_⟩
  refine List.forall_mem_cons.mpr ⟨(zo_goto_tl _), ?_⟩
  refine List.forall_mem_cons.mpr ⟨zo_none_tl, ?_⟩
  refine List.forall_mem_cons.mpr ⟨zo_none_tl, ?_⟩
  refine List.forall_mem_cons.mpr ⟨(zo_pushI_tl _ _), ?_⟩
  refine List.forall_mem_cons.mpr ⟨(zo_istore_tl _ _), ?_⟩
  refine List.forall_mem_cons.mpr ⟨zo_none_tl, ?_⟩
  refine List.forall_mem_cons.mpr ⟨(zo_iload_tl _ _), ?_⟩
  refine List.forall_mem_cons.mpr ⟨zo_none_tl, ?_⟩
  refine List.forall_mem_cons.mpr ⟨(zo_if_tl _ _ _), ?_⟩
  refine List.forall_mem_cons.mpr ⟨zo_none_tl, ?_⟩
  refine List.forall_mem_cons.mpr ⟨zo_none_tl, ?_⟩
  refine List.forall_mem_cons.mpr ⟨(zo_aload_tl _ _), ?_⟩
  refine List.forall_mem_cons.mpr ⟨(zo_iload_tl _ _), ?_⟩
  refine List.forall_mem_cons.mpr ⟨zo_none_tl, ?_⟩
  refine List.forall_mem_cons.mpr ⟨(zo_pushI_tl _ _), ?_⟩
  refine List.forall_mem_cons.mpr ⟨zo_none_tl, ?_⟩
  refine List.forall_mem_cons.mpr ⟨(zo_callv_tl _ _ _ _), ?_⟩
  refine List.forall_mem_cons.mpr ⟨zo_none_tl, ?_⟩
  refine List.forall_mem_cons.mpr ⟨zo_none_tl, ?_⟩
  refine List.forall_mem_cons.mpr ⟨(zo_pushI_tl _ _), ?_⟩
  refine List.forall_mem_cons.mpr ⟨(zo_ii_tl _ _), ?_⟩
  refine List.forall_mem_cons.mpr ⟨(zo_goto_tl _), ?_⟩
  refine List.forall_mem_cons.mpr ⟨zo_none_tl, ?_⟩
  refine List.forall_mem_cons.mpr ⟨zo_none_tl, ?_⟩
  refine List.forall_mem_cons.mpr ⟨(zo_pushI_tl _ _), ?_⟩
  refine List.forall_mem_cons.mpr ⟨(zo_istore_tl _ _), ?_⟩
  refine List.forall_mem_cons.mpr ⟨zo_none_tl, ?_⟩
  refine List.forall_mem_cons.mpr ⟨(zo_iload_tl _ _), ?_⟩
  refine List.forall_mem_cons.mpr ⟨(zo_iload_tl _ _), ?_⟩
  refine List.forall_mem_cons.mpr ⟨zo_none_tl, ?_⟩
  refine List.forall_mem_cons.mpr ⟨(zo_if_tl _ _ _), ?_⟩
  refine List.forall_mem_cons.mpr ⟨zo_none_tl, ?_⟩
  refine List.forall_mem_cons.mpr ⟨zo_none_tl, ?_⟩
  refine List.forall_mem_cons.mpr ⟨(zo_aload_tl _ _), ?_⟩
  refine List.forall_mem_cons.mpr ⟨(zo_iload_tl _ _), ?_⟩
  refine List.forall_mem_cons.mpr ⟨zo_none_tl, ?_⟩
  refine List.forall_mem_cons.mpr ⟨(zo_callv_tl _ _ _ _), ?_⟩
  refine List.forall_mem_cons.mpr ⟨zo_none_tl, ?_⟩
  refine List.forall_mem_cons.mpr ⟨zo_none_tl, ?_⟩
  refine List.forall_mem_cons.mpr ⟨(zo_if_tl _ _ _), ?_⟩
  refine List.forall_mem_cons.mpr ⟨zo_none_tl, ?_⟩
  refine List.forall_mem_cons.mpr ⟨zo_none_tl, ?_⟩
  refine List.forall_mem_cons.mpr ⟨(zo_aload_tl _ _), ?_⟩
  refine List.forall_mem_cons.mpr ⟨(zo_iload_tl _ _), ?_⟩
  refine List.forall_mem_cons.mpr ⟨zo_none_tl, ?_⟩
  refine List.forall_mem_cons.mpr ⟨(zo_pushI_tl _ _), ?_⟩
  refine List.forall_mem_cons.mpr ⟨zo_none_tl, ?_⟩
  refine List.forall_mem_cons.mpr ⟨(zo_callv_tl _ _ _ _), ?_⟩
  refine List.forall_mem_cons.mpr ⟨zo_none_tl, ?_⟩
  refine List.forall_mem_cons.mpr ⟨zo_none_tl, ?_⟩
  refine List.forall_mem_cons.mpr ⟨(zo_iload_tl _ _), ?_⟩
  refine List.forall_mem_cons.mpr ⟨(zo_icmp_tl _ _ _), ?_⟩
  refine List.forall_mem_cons.mpr ⟨zo_none_tl, ?_⟩
  refine List.forall_mem_cons.mpr ⟨zo_none_tl, ?_⟩
  refine List.forall_mem_cons.mpr ⟨(zo_pushI_tl _ _), ?_⟩
  refine List.forall_mem_cons.mpr ⟨(zo_goto_tl _), ?_⟩
  refine List.forall_mem_cons.mpr ⟨zo_none_tl, ?_⟩
  refine List.forall_mem_cons.mpr ⟨zo_none_tl, ?_⟩
  refine List.forall_mem_cons.mpr ⟨(zo_pushI_tl _ _), ?_⟩
  refine List.forall_mem_cons.mpr ⟨(zo_ii_tl _ _), ?_⟩
  refine List.forall_mem_cons.mpr ⟨(zo_istore_tl _ _), ?_⟩
  refine List.forall_mem_cons.mpr ⟨(zo_iinc_tl _ _ _), ?_⟩
  refine List.forall_mem_cons.mpr ⟨zo_none_tl, ?_⟩
  refine List.forall_mem_cons.mpr ⟨zo_none_tl, ?_⟩
  refine List.forall_mem_cons.mpr ⟨(zo_goto_tl _), ?_⟩
  refine List.forall_mem_cons.mpr ⟨zo_none_tl, ?_⟩
  refine List.forall_mem_cons.mpr ⟨zo_none_tl, ?_⟩
  refine List.forall_mem_cons.mpr ⟨(zo_iload_tl _ _), ?_⟩
  refine List.forall_mem_cons.mpr ⟨(zo_iret_tl _), ?_⟩
  exact fun _ h => absurd h List.not_mem_nil
noncomputable def fX12_zoned : zzFn := zz_fn tX12_zoned 7
noncomputable def tX12_nodeFor : List zzOp := [
  zo_pushI (-1) 1,
  zo_istore 2 2,
  zo_pushI 0 3,
  zo_istore 3 4,
  zo_pushI 0 5,
  zo_istore 4 7,
  zo_none,
  zo_pushI 0 8,
  zo_istore 5 10,
  zo_none,
  zo_iload 5 12,
  zo_none,
  zo_aload 0 13,
  zo_getf zzSR (zz_kf [10] 5) 16,
  zo_none,
  zo_none,
  zo_icmp (fun x y => decide (y ≤ x)) 163 19,
  zo_none,
  zo_none,
  zo_aload 0 20,
  zo_iload 5 22,
  zo_none,
  zo_callv zzSR (zz_cl [(10, fX12_isUsable)]) 1 25,
  zo_none,
  zo_none,
  zo_if (fun x => decide (x = 0)) 47 28,
  zo_none,
  zo_none,
  zo_aload 0 29,
  zo_iload 5 31,
  zo_none,
  zo_pushI 7 33,
  zo_none,
  zo_callv zzSR (zz_cl [(10, fX12_viewed)]) 2 36,
  zo_none,
  zo_none,
  zo_aload 0 37,
  zo_iload 5 39,
  zo_none,
  zo_pushI 0 40,
  zo_callv zzSR (zz_cl [(10, fX12_used)]) 2 43,
  zo_none,
  zo_none,
  zo_ii (fun x y => x - y) 44,
  zo_goto 48,
  zo_none,
  zo_none,
  zo_pushI 0 48,
  zo_istore 6 50,
  zo_none,
  zo_aload 0 51,
  zo_iload 5 53,
  zo_none,
  zo_callv zzSR (zz_cl [(10, fX12_isUsable)]) 1 56,
  zo_none,
  zo_none,
  zo_if (fun x => decide (x = 0)) 157 59,
  zo_none,
  zo_none,
  zo_iload 6 61,
  zo_none,
  zo_aload 0 62,
  zo_iload 1 63,
  zo_pushI 1 64,
  zo_callv zzSR (zz_cl [(10, fX12_viewed)]) 2 67,
  zo_none,
  zo_none,
  zo_calls fX12_need 1 70,
  zo_none,
  zo_none,
  zo_icmp (fun x y => decide (x < y)) 157 73,
  zo_none,
  zo_none,
  zo_aload 0 74,
  zo_iload 1 75,
  zo_aload 0 76,
  zo_iload 5 78,
  zo_none,
  zo_pushI 8 80,
  zo_none,
  zo_callv zzSR (zz_cl [(10, fX12_viewed)]) 2 83,
  zo_none,
  zo_none,
  zo_callv zzSR (zz_cl [(10, fX12_zoned)]) 2 86,
  zo_none,
  zo_none,
  zo_istore 7 88,
  zo_none,
  zo_iload 2 89,
  zo_pushI (-1) 90,
  zo_icmp (fun x y => decide (x = y)) 112 93,
  zo_none,
  zo_none,
  zo_iload 7 95,
  zo_none,
  zo_iload 3 96,
  zo_icmp (fun x y => decide (x < y)) 112 99,
  zo_none,
  zo_none,
  zo_iload 7 101,
  zo_none,
  zo_iload 3 102,
  zo_icmp (fun x y => decide (¬ x = y)) 116 105,
  zo_none,
  zo_none,
  zo_iload 6 107,
  zo_none,
  zo_iload 4 109,
  zo_none,
  zo_icmp (fun x y => decide (x ≤ y)) 116 112,
  zo_none,
  zo_none,
  zo_pushI 1 113,
  zo_goto 117,
  zo_none,
  zo_none,
  zo_pushI 0 117,
  zo_istore 8 119,
  zo_none,
  zo_iload 8 121,
  zo_none,
  zo_if (fun x => decide (x = 0)) 129 124,
  zo_none,
  zo_none,
  zo_iload 5 126,
  zo_none,
  zo_goto 130,
  zo_none,
  zo_none,
  zo_iload 2 130,
  zo_istore 2 131,
  zo_iload 8 133,
  zo_none,
  zo_if (fun x => decide (x = 0)) 141 136,
  zo_none,
  zo_none,
  zo_iload 7 138,
  zo_none,
  zo_goto 142,
  zo_none,
  zo_none,
  zo_iload 3 142,
  zo_istore 3 143,
  zo_iload 8 145,
  zo_none,
  zo_if (fun x => decide (x = 0)) 153 148,
  zo_none,
  zo_none,
  zo_iload 6 150,
  zo_none,
  zo_goto 155,
  zo_none,
  zo_none,
  zo_iload 4 155,
  zo_none,
  zo_istore 4 157,
  zo_none,
  zo_iinc 5 1 160,
  zo_none,
  zo_none,
  zo_goto 10,
  zo_none,
  zo_none,
  zo_iload 2 164,
  zo_iret false]
set_option maxRecDepth 100000 in
theorem tl_X12_nodeFor : ∀ pc, zz_Tl (tX12_nodeFor.getD pc zo_none) := by
  refine zz_Tl_mem ?_
  unfold tX12_nodeFor
  refine List.forall_mem_cons.mpr ⟨(zo_pushI_tl _ _), ?_⟩
  refine List.forall_mem_cons.mpr ⟨(zo_istore_tl _ _), ?_⟩
  refine List.forall_mem_cons.mpr ⟨(zo_pushI_tl _ _), ?_⟩
  refine List.forall_mem_cons.mpr ⟨(zo_istore_tl _ _), ?_⟩
  refine List.forall_mem_cons.mpr ⟨(zo_pushI_tl _ _), ?_⟩
  refine List.forall_mem_cons.mpr ⟨(zo_istore_tl _ _), ?_⟩
  refine List.forall_mem_cons.mpr ⟨zo_none_tl, ?_⟩
  refine List.forall_mem_cons.mpr ⟨(zo_pushI_tl _ _), ?_⟩
  refine List.forall_mem_cons.mpr ⟨(zo_istore_tl _ _), ?_⟩
  refine List.forall_mem_cons.mpr ⟨zo_none_tl, ?_⟩
  refine List.forall_mem_cons.mpr ⟨(zo_iload_tl _ _), ?_⟩
  refine List.forall_mem_cons.mpr ⟨zo_none_tl, ?_⟩
  refine List.forall_mem_cons.mpr ⟨(zo_aload_tl _ _), ?_⟩
  refine List.forall_mem_cons.mpr ⟨(zo_getf_tl _ _ _), ?_⟩
  refine List.forall_mem_cons.mpr ⟨zo_none_tl, ?_⟩
  refine List.forall_mem_cons.mpr ⟨zo_none_tl, ?_⟩
  refine List.forall_mem_cons.mpr ⟨(zo_icmp_tl _ _ _), ?_⟩
  refine List.forall_mem_cons.mpr ⟨zo_none_tl, ?_⟩
  refine List.forall_mem_cons.mpr ⟨zo_none_tl, ?_⟩
  refine List.forall_mem_cons.mpr ⟨(zo_aload_tl _ _), ?_⟩
  refine List.forall_mem_cons.mpr ⟨(zo_iload_tl _ _), ?_⟩
  refine List.forall_mem_cons.mpr ⟨zo_none_tl, ?_⟩
  refine List.forall_mem_cons.mpr ⟨(zo_callv_tl _ _ _ _), ?_⟩
  refine List.forall_mem_cons.mpr ⟨zo_none_tl, ?_⟩
  refine List.forall_mem_cons.mpr ⟨zo_none_tl, ?_⟩
  refine List.forall_mem_cons.mpr ⟨(zo_if_tl _ _ _), ?_⟩
  refine List.forall_mem_cons.mpr ⟨zo_none_tl, ?_⟩
  refine List.forall_mem_cons.mpr ⟨zo_none_tl, ?_⟩
  refine List.forall_mem_cons.mpr ⟨(zo_aload_tl _ _), ?_⟩
  refine List.forall_mem_cons.mpr ⟨(zo_iload_tl _ _), ?_⟩
  refine List.forall_mem_cons.mpr ⟨zo_none_tl, ?_⟩
  refine List.forall_mem_cons.mpr ⟨(zo_pushI_tl _ _), ?_⟩
  refine List.forall_mem_cons.mpr ⟨zo_none_tl, ?_⟩
  refine List.forall_mem_cons.mpr ⟨(zo_callv_tl _ _ _ _), ?_⟩
  refine List.forall_mem_cons.mpr ⟨zo_none_tl, ?_⟩
  refine List.forall_mem_cons.mpr ⟨zo_none_tl, ?_⟩
  refine List.forall_mem_cons.mpr ⟨(zo_aload_tl _ _), ?_⟩
  refine List.forall_mem_cons.mpr ⟨(zo_iload_tl _ _), ?_⟩
  refine List.forall_mem_cons.mpr ⟨zo_none_tl, ?_⟩
  refine List.forall_mem_cons.mpr ⟨(zo_pushI_tl _ _), ?_⟩
  refine List.forall_mem_cons.mpr ⟨(zo_callv_tl _ _ _ _), ?_⟩
  refine List.forall_mem_cons.mpr ⟨zo_none_tl, ?_⟩
  refine List.forall_mem_cons.mpr ⟨zo_none_tl, ?_⟩
  refine List.forall_mem_cons.mpr ⟨(zo_ii_tl _ _), ?_⟩
  refine List.forall_mem_cons.mpr ⟨(zo_goto_tl _), ?_⟩
  refine List.forall_mem_cons.mpr ⟨zo_none_tl, ?_⟩
  refine List.forall_mem_cons.mpr ⟨zo_none_tl, ?_⟩
  refine List.forall_mem_cons.mpr ⟨(zo_pushI_tl _ _), ?_⟩
  refine List.forall_mem_cons.mpr ⟨(zo_istore_tl _ _), ?_⟩
  refine List.forall_mem_cons.mpr ⟨zo_none_tl, ?_⟩
  refine List.forall_mem_cons.mpr ⟨(zo_aload_tl _ _), ?_⟩
  refine List.forall_mem_cons.mpr ⟨(zo_iload_tl _ _), ?_⟩
  refine List.forall_mem_cons.mpr ⟨zo_none_tl, ?_⟩
  refine List.forall_mem_cons.mpr ⟨(zo_callv_tl _ _ _ _), ?_⟩
  refine List.forall_mem_cons.mpr ⟨zo_none_tl, ?_⟩
  refine List.forall_mem_cons.mpr ⟨zo_none_tl, ?_⟩
  refine List.forall_mem_cons.mpr ⟨(zo_if_tl _ _ _), ?_⟩
  refine List.forall_mem_cons.mpr ⟨zo_none_tl, ?_⟩
  refine List.forall_mem_cons.mpr ⟨zo_none_tl, ?_⟩
  refine List.forall_mem_cons.mpr ⟨(zo_iload_tl _ _), ?_⟩
  refine List.forall_mem_cons.mpr ⟨zo_none_tl, ?_⟩
  refine List.forall_mem_cons.mpr ⟨(zo_aload_tl _ _), ?_⟩
  refine List.forall_mem_cons.mpr ⟨(zo_iload_tl _ _), ?_⟩
  refine List.forall_mem_cons.mpr ⟨(zo_pushI_tl _ _), ?_⟩
  refine List.forall_mem_cons.mpr ⟨(zo_callv_tl _ _ _ _), ?_⟩
  refine List.forall_mem_cons.mpr ⟨zo_none_tl, ?_⟩
  refine List.forall_mem_cons.mpr ⟨zo_none_tl, ?_⟩
  refine List.forall_mem_cons.mpr ⟨(zo_calls_tl _ _ _), ?_⟩
  refine List.forall_mem_cons.mpr ⟨zo_none_tl, ?_⟩
  refine List.forall_mem_cons.mpr ⟨zo_none_tl, ?_⟩
  refine List.forall_mem_cons.mpr ⟨(zo_icmp_tl _ _ _), ?_⟩
  refine List.forall_mem_cons.mpr ⟨zo_none_tl, ?_⟩
  refine List.forall_mem_cons.mpr ⟨zo_none_tl, ?_⟩
  refine List.forall_mem_cons.mpr ⟨(zo_aload_tl _ _), ?_⟩
  refine List.forall_mem_cons.mpr ⟨(zo_iload_tl _ _), ?_⟩
  refine List.forall_mem_cons.mpr ⟨(zo_aload_tl _ _), ?_⟩
  refine List.forall_mem_cons.mpr ⟨(zo_iload_tl _ _), ?_⟩
  refine List.forall_mem_cons.mpr ⟨zo_none_tl, ?_⟩
  refine List.forall_mem_cons.mpr ⟨(zo_pushI_tl _ _), ?_⟩
  refine List.forall_mem_cons.mpr ⟨zo_none_tl, ?_⟩
  refine List.forall_mem_cons.mpr ⟨(zo_callv_tl _ _ _ _), ?_⟩
  refine List.forall_mem_cons.mpr ⟨zo_none_tl, ?_⟩
  refine List.forall_mem_cons.mpr ⟨zo_none_tl, ?_⟩
  refine List.forall_mem_cons.mpr ⟨(zo_callv_tl _ _ _ _), ?_⟩
  refine List.forall_mem_cons.mpr ⟨zo_none_tl, ?_⟩
  refine List.forall_mem_cons.mpr ⟨zo_none_tl, ?_⟩
  refine List.forall_mem_cons.mpr ⟨(zo_istore_tl _ _), ?_⟩
  refine List.forall_mem_cons.mpr ⟨zo_none_tl, ?_⟩
  refine List.forall_mem_cons.mpr ⟨(zo_iload_tl _ _), ?_⟩
  refine List.forall_mem_cons.mpr ⟨(zo_pushI_tl _ _), ?_⟩
  refine List.forall_mem_cons.mpr ⟨(zo_icmp_tl _ _ _), ?_⟩
  refine List.forall_mem_cons.mpr ⟨zo_none_tl, ?_⟩
  refine List.forall_mem_cons.mpr ⟨zo_none_tl, ?_⟩
  refine List.forall_mem_cons.mpr ⟨(zo_iload_tl _ _), ?_⟩
  refine List.forall_mem_cons.mpr ⟨zo_none_tl, ?_⟩
  refine List.forall_mem_cons.mpr ⟨(zo_iload_tl _ _), ?_⟩
  refine List.forall_mem_cons.mpr ⟨(zo_icmp_tl _ _ _), ?_⟩
  refine List.forall_mem_cons.mpr ⟨zo_none_tl, ?_⟩
  refine List.forall_mem_cons.mpr ⟨zo_none_tl, ?_⟩
  refine List.forall_mem_cons.mpr ⟨(zo_iload_tl _ _), ?_⟩
  refine List.forall_mem_cons.mpr ⟨zo_none_tl, ?_⟩
  refine List.forall_mem_cons.mpr ⟨(zo_iload_tl _ _), ?_⟩
  refine List.forall_mem_cons.mpr ⟨(zo_icmp_tl _ _ _), ?_⟩
  refine List.forall_mem_cons.mpr ⟨zo_none_tl, ?_⟩
  refine List.forall_mem_cons.mpr ⟨zo_none_tl, ?_⟩
  refine List.forall_mem_cons.mpr ⟨(zo_iload_tl _ _), ?_⟩
  refine List.forall_mem_cons.mpr ⟨zo_none_tl, ?_⟩
  refine List.forall_mem_cons.mpr ⟨(zo_iload_tl _ _), ?_⟩
  refine List.forall_mem_cons.mpr ⟨zo_none_tl, ?_⟩
  refine List.forall_mem_cons.mpr ⟨(zo_icmp_tl _ _ _), ?_⟩
  refine List.forall_mem_cons.mpr ⟨zo_none_tl, ?_⟩
  refine List.forall_mem_cons.mpr ⟨zo_none_tl, ?_⟩
  refine List.forall_mem_cons.mpr ⟨(zo_pushI_tl _ _), ?_⟩
  refine List.forall_mem_cons.mpr ⟨(zo_goto_tl _), ?_⟩
  refine List.forall_mem_cons.mpr ⟨zo_none_tl, ?_⟩
  refine List.forall_mem_cons.mpr ⟨zo_none_tl, ?_⟩
  refine List.forall_mem_cons.mpr ⟨(zo_pushI_tl _ _), ?_⟩
  refine List.forall_mem_cons.mpr ⟨(zo_istore_tl _ _), ?_⟩
  refine List.forall_mem_cons.mpr ⟨zo_none_tl, ?_⟩
  refine List.forall_mem_cons.mpr ⟨(zo_iload_tl _ _), ?_⟩
  refine List.forall_mem_cons.mpr ⟨zo_none_tl, ?_⟩
  refine List.forall_mem_cons.mpr ⟨(zo_if_tl _ _ _), ?_⟩
  refine List.forall_mem_cons.mpr ⟨zo_none_tl, ?_⟩
  refine List.forall_mem_cons.mpr ⟨zo_none_tl, ?_⟩
  refine List.forall_mem_cons.mpr ⟨(zo_iload_tl _ _), ?_⟩
  refine List.forall_mem_cons.mpr ⟨zo_none_tl, ?_⟩
  refine List.forall_mem_cons.mpr ⟨(zo_goto_tl _), ?_⟩
  refine List.forall_mem_cons.mpr ⟨zo_none_tl, ?_⟩
  refine List.forall_mem_cons.mpr ⟨zo_none_tl, ?_⟩
  refine List.forall_mem_cons.mpr ⟨(zo_iload_tl _ _), ?_⟩
  refine List.forall_mem_cons.mpr ⟨(zo_istore_tl _ _), ?_⟩
  refine List.forall_mem_cons.mpr ⟨(zo_iload_tl _ _), ?_⟩
  refine List.forall_mem_cons.mpr ⟨zo_none_tl, ?_⟩
  refine List.forall_mem_cons.mpr ⟨(zo_if_tl _ _ _), ?_⟩
  refine List.forall_mem_cons.mpr ⟨zo_none_tl, ?_⟩
  refine List.forall_mem_cons.mpr ⟨zo_none_tl, ?_⟩
  refine List.forall_mem_cons.mpr ⟨(zo_iload_tl _ _), ?_⟩
  refine List.forall_mem_cons.mpr ⟨zo_none_tl, ?_⟩
  refine List.forall_mem_cons.mpr ⟨(zo_goto_tl _), ?_⟩
  refine List.forall_mem_cons.mpr ⟨zo_none_tl, ?_⟩
  refine List.forall_mem_cons.mpr ⟨zo_none_tl, ?_⟩
  refine List.forall_mem_cons.mpr ⟨(zo_iload_tl _ _), ?_⟩
  refine List.forall_mem_cons.mpr ⟨(zo_istore_tl _ _), ?_⟩
  refine List.forall_mem_cons.mpr ⟨(zo_iload_tl _ _), ?_⟩
  refine List.forall_mem_cons.mpr ⟨zo_none_tl, ?_⟩
  refine List.forall_mem_cons.mpr ⟨(zo_if_tl _ _ _), ?_⟩
  refine List.forall_mem_cons.mpr ⟨zo_none_tl, ?_⟩
  refine List.forall_mem_cons.mpr ⟨zo_none_tl, ?_⟩
  refine List.forall_mem_cons.mpr ⟨(zo_iload_tl _ _), ?_⟩
  refine List.forall_mem_cons.mpr ⟨zo_none_tl, ?_⟩
  refine List.forall_mem_cons.mpr ⟨(zo_goto_tl _), ?_⟩
  refine List.forall_mem_cons.mpr ⟨zo_none_tl, ?_⟩
  refine List.forall_mem_cons.mpr ⟨zo_none_tl, ?_⟩
  refine List.forall_mem_cons.mpr ⟨(zo_iload_tl _ _), ?_⟩
  refine List.forall_mem_cons.mpr ⟨zo_none_tl, ?_⟩
  refine List.forall_mem_cons.mpr ⟨(zo_istore_tl _ _), ?_⟩
  refine List.forall_mem_cons.mpr ⟨zo_none_tl, ?_⟩
  refine List.forall_mem_cons.mpr ⟨(zo_iinc_tl _ _ _), ?_⟩
  refine List.forall_mem_cons.mpr ⟨zo_none_tl, ?_⟩
  refine List.forall_mem_cons.mpr ⟨zo_none_tl, ?_⟩
  refine List.forall_mem_cons.mpr ⟨(zo_goto_tl _), ?_⟩
  refine List.forall_mem_cons.mpr ⟨zo_none_tl, ?_⟩
  refine List.forall_mem_cons.mpr ⟨zo_none_tl, ?_⟩
  refine List.forall_mem_cons.mpr ⟨(zo_iload_tl _ _), ?_⟩
  refine List.forall_mem_cons.mpr ⟨(zo_iret_tl _), ?_⟩
  exact fun _ h => absurd h List.not_mem_nil
noncomputable def fX12_nodeFor : zzFn := zz_fn tX12_nodeFor 9
noncomputable def tX12_laysVictims : List zzOp := [
  zo_aload 0 1,
  zo_iload 1 2,
  zo_pushI 1 3,
  zo_callv zzSR (zz_cl [(10, fX12_viewed)]) 2 6,
  zo_none,
  zo_none,
  zo_pushI 4 7,
  zo_iid (fun x y => x / y) 8,
  zo_istore 3 9,
  zo_aload 0 10,
  zo_iload 1 11,
  zo_pushI 1 12,
  zo_callv zzSR (zz_cl [(10, fX12_viewed)]) 2 15,
  zo_none,
  zo_none,
  zo_calls fX12_need 1 18,
  zo_none,
  zo_none,
  zo_aload 0 19,
  zo_iload 2 20,
  zo_pushI 7 22,
  zo_none,
  zo_callv zzSR (zz_cl [(10, fX12_viewed)]) 2 25,
  zo_none,
  zo_none,
  zo_ii (fun x y => x - y) 26,
  zo_aload 0 27,
  zo_iload 2 28,
  zo_pushI 0 29,
  zo_callv zzSR (zz_cl [(10, fX12_used)]) 2 32,
  zo_none,
  zo_none,
  zo_ii (fun x y => x + y) 33,
  zo_istore 4 35,
  zo_none,
  zo_pushI 0 36,
  zo_istore 5 38,
  zo_none,
  zo_pushI 0 39,
  zo_istore 6 41,
  zo_none,
  zo_iload 6 43,
  zo_none,
  zo_iload 3 44,
  zo_icmp (fun x y => decide (y ≤ x)) 166 47,
  zo_none,
  zo_none,
  zo_aload 0 48,
  zo_getf zzSR (zz_kf [10] 5) 51,
  zo_none,
  zo_none,
  zo_pushI 1 52,
  zo_ii (fun x y => x - y) 53,
  zo_istore 7 55,
  zo_none,
  zo_iload 7 57,
  zo_none,
  zo_if (fun x => decide (x < 0)) 160 60,
  zo_none,
  zo_none,
  zo_iload 4 62,
  zo_none,
  zo_if (fun x => decide (x ≤ 0)) 160 65,
  zo_none,
  zo_none,
  zo_aload 0 66,
  zo_iload 7 68,
  zo_none,
  zo_pushI 2 69,
  zo_callv zzSR (zz_cl [(10, fX12_stays)]) 2 72,
  zo_none,
  zo_none,
  zo_if (fun x => decide (x = 0)) 119 75,
  zo_none,
  zo_none,
  zo_aload 0 76,
  zo_iload 7 78,
  zo_none,
  zo_pushI 15 80,
  zo_none,
  zo_callv zzSR (zz_cl [(10, fX12_viewed)]) 2 83,
  zo_none,
  zo_none,
  zo_iload 2 84,
  zo_pushI 1 85,
  zo_ii (fun x y => x + y) 86,
  zo_icmp (fun x y => decide (¬ x = y)) 119 89,
  zo_none,
  zo_none,
  zo_aload 0 90,
  zo_iload 7 92,
  zo_none,
  zo_pushI 16 94,
  zo_none,
  zo_callv zzSR (zz_cl [(10, fX12_viewed)]) 2 97,
  zo_none,
  zo_none,
  zo_pushI 1 98,
  zo_icmp (fun x y => decide (y < x)) 119 101,
  zo_none,
  zo_none,
  zo_aload 0 102,
  zo_iload 7 104,
  zo_none,
  zo_pushI 1 105,
  zo_callv zzSR (zz_cl [(10, fX12_viewed)]) 2 108,
  zo_none,
  zo_none,
  zo_pushI 4 109,
  zo_iid (fun x y => x / y) 110,
  zo_iload 6 112,
  zo_none,
  zo_icmp (fun x y => decide (¬ x = y)) 119 115,
  zo_none,
  zo_none,
  zo_pushI 1 116,
  zo_goto 120,
  zo_none,
  zo_none,
  zo_pushI 0 120,
  zo_istore 8 122,
  zo_none,
  zo_iload 8 124,
  zo_none,
  zo_if (fun x => decide (x = 0)) 154 127,
  zo_none,
  zo_none,
  zo_aload 0 128,
  zo_getf zzSR (zz_kf [10] 44) 131,
  zo_none,
  zo_none,
  zo_iload 5 133,
  zo_none,
  zo_iload 7 135,
  zo_none,
  zo_iast zzSR 136,
  zo_iinc 5 1 139,
  zo_none,
  zo_none,
  zo_iload 4 141,
  zo_none,
  zo_aload 0 142,
  zo_iload 7 144,
  zo_none,
  zo_pushI 1 145,
  zo_callv zzSR (zz_cl [(10, fX12_viewed)]) 2 148,
  zo_none,
  zo_none,
  zo_calls fX12_need 1 151,
  zo_none,
  zo_none,
  zo_ii (fun x y => x - y) 152,
  zo_istore 4 154,
  zo_none,
  zo_iinc 7 (-1) 157,
  zo_none,
  zo_none,
  zo_goto 55,
  zo_none,
  zo_none,
  zo_iinc 6 1 163,
  zo_none,
  zo_none,
  zo_goto 41,
  zo_none,
  zo_none,
  zo_iload 4 168,
  zo_none,
  zo_if (fun x => decide (x ≤ 0)) 175 171,
  zo_none,
  zo_none,
  zo_pushI (-1) 172,
  zo_goto 177,
  zo_none,
  zo_none,
  zo_iload 5 177,
  zo_none,
  zo_iret false]
set_option maxRecDepth 100000 in
theorem tl_X12_laysVictims : ∀ pc, zz_Tl (tX12_laysVictims.getD pc zo_none) := by
  refine zz_Tl_mem ?_
  unfold tX12_laysVictims
  refine List.forall_mem_cons.mpr ⟨(zo_aload_tl _ _), ?_⟩
  refine List.forall_mem_cons.mpr ⟨(zo_iload_tl _ _), ?_⟩
  refine List.forall_mem_cons.mpr ⟨(zo_pushI_tl _ _), ?_⟩
  refine List.forall_mem_cons.mpr ⟨(zo_callv_tl _ _ _ _), ?_⟩
  refine List.forall_mem_cons.mpr ⟨zo_none_tl, ?_⟩
  refine List.forall_mem_cons.mpr ⟨zo_none_tl, ?_⟩
  refine List.forall_mem_cons.mpr ⟨(zo_pushI_tl _ _), ?_⟩
  refine List.forall_mem_cons.mpr ⟨(zo_iid_tl _ _), ?_⟩
  refine List.forall_mem_cons.mpr ⟨(zo_istore_tl _ _), ?_⟩
  refine List.forall_mem_cons.mpr ⟨(zo_aload_tl _ _), ?_⟩
  refine List.forall_mem_cons.mpr ⟨(zo_iload_tl _ _), ?_⟩
  refine List.forall_mem_cons.mpr ⟨(zo_pushI_tl _ _), ?_⟩
  refine List.forall_mem_cons.mpr ⟨(zo_callv_tl _ _ _ _), ?_⟩
  refine List.forall_mem_cons.mpr ⟨zo_none_tl, ?_⟩
  refine List.forall_mem_cons.mpr ⟨zo_none_tl, ?_⟩
  refine List.forall_mem_cons.mpr ⟨(zo_calls_tl _ _ _), ?_⟩
  refine List.forall_mem_cons.mpr ⟨zo_none_tl, ?_⟩
  refine List.forall_mem_cons.mpr ⟨zo_none_tl, ?_⟩
  refine List.forall_mem_cons.mpr ⟨(zo_aload_tl _ _), ?_⟩
  refine List.forall_mem_cons.mpr ⟨(zo_iload_tl _ _), ?_⟩
  refine List.forall_mem_cons.mpr ⟨(zo_pushI_tl _ _), ?_⟩
  refine List.forall_mem_cons.mpr ⟨zo_none_tl, ?_⟩
  refine List.forall_mem_cons.mpr ⟨(zo_callv_tl _ _ _ _), ?_⟩
  refine List.forall_mem_cons.mpr ⟨zo_none_tl, ?_⟩
  refine List.forall_mem_cons.mpr ⟨zo_none_tl, ?_⟩
  refine List.forall_mem_cons.mpr ⟨(zo_ii_tl _ _), ?_⟩
  refine List.forall_mem_cons.mpr ⟨(zo_aload_tl _ _), ?_⟩
  refine List.forall_mem_cons.mpr ⟨(zo_iload_tl _ _), ?_⟩
  refine List.forall_mem_cons.mpr ⟨(zo_pushI_tl _ _), ?_⟩
  refine List.forall_mem_cons.mpr ⟨(zo_callv_tl _ _ _ _), ?_⟩
  refine List.forall_mem_cons.mpr ⟨zo_none_tl, ?_⟩
  refine List.forall_mem_cons.mpr ⟨zo_none_tl, ?_⟩
  refine List.forall_mem_cons.mpr ⟨(zo_ii_tl _ _), ?_⟩
  refine List.forall_mem_cons.mpr ⟨(zo_istore_tl _ _), ?_⟩
  refine List.forall_mem_cons.mpr ⟨zo_none_tl, ?_⟩
  refine List.forall_mem_cons.mpr ⟨(zo_pushI_tl _ _), ?_⟩
  refine List.forall_mem_cons.mpr ⟨(zo_istore_tl _ _), ?_⟩
  refine List.forall_mem_cons.mpr ⟨zo_none_tl, ?_⟩
  refine List.forall_mem_cons.mpr ⟨(zo_pushI_tl _ _), ?_⟩
  refine List.forall_mem_cons.mpr ⟨(zo_istore_tl _ _), ?_⟩
  refine List.forall_mem_cons.mpr ⟨zo_none_tl, ?_⟩
  refine List.forall_mem_cons.mpr ⟨(zo_iload_tl _ _), ?_⟩
  refine List.forall_mem_cons.mpr ⟨zo_none_tl, ?_⟩
  refine List.forall_mem_cons.mpr ⟨(zo_iload_tl _ _), ?_⟩
  refine List.forall_mem_cons.mpr ⟨(zo_icmp_tl _ _ _), ?_⟩
  refine List.forall_mem_cons.mpr ⟨zo_none_tl, ?_⟩
  refine List.forall_mem_cons.mpr ⟨zo_none_tl, ?_⟩
  refine List.forall_mem_cons.mpr ⟨(zo_aload_tl _ _), ?_⟩
  refine List.forall_mem_cons.mpr ⟨(zo_getf_tl _ _ _), ?_⟩
  refine List.forall_mem_cons.mpr ⟨zo_none_tl, ?_⟩
  refine List.forall_mem_cons.mpr ⟨zo_none_tl, ?_⟩
  refine List.forall_mem_cons.mpr ⟨(zo_pushI_tl _ _), ?_⟩
  refine List.forall_mem_cons.mpr ⟨(zo_ii_tl _ _), ?_⟩
  refine List.forall_mem_cons.mpr ⟨(zo_istore_tl _ _), ?_⟩
  refine List.forall_mem_cons.mpr ⟨zo_none_tl, ?_⟩
  refine List.forall_mem_cons.mpr ⟨(zo_iload_tl _ _), ?_⟩
  refine List.forall_mem_cons.mpr ⟨zo_none_tl, ?_⟩
  refine List.forall_mem_cons.mpr ⟨(zo_if_tl _ _ _), ?_⟩
  refine List.forall_mem_cons.mpr ⟨zo_none_tl, ?_⟩
  refine List.forall_mem_cons.mpr ⟨zo_none_tl, ?_⟩
  refine List.forall_mem_cons.mpr ⟨(zo_iload_tl _ _), ?_⟩
  refine List.forall_mem_cons.mpr ⟨zo_none_tl, ?_⟩
  refine List.forall_mem_cons.mpr ⟨(zo_if_tl _ _ _), ?_⟩
  refine List.forall_mem_cons.mpr ⟨zo_none_tl, ?_⟩
  refine List.forall_mem_cons.mpr ⟨zo_none_tl, ?_⟩
  refine List.forall_mem_cons.mpr ⟨(zo_aload_tl _ _), ?_⟩
  refine List.forall_mem_cons.mpr ⟨(zo_iload_tl _ _), ?_⟩
  refine List.forall_mem_cons.mpr ⟨zo_none_tl, ?_⟩
  refine List.forall_mem_cons.mpr ⟨(zo_pushI_tl _ _), ?_⟩
  refine List.forall_mem_cons.mpr ⟨(zo_callv_tl _ _ _ _), ?_⟩
  refine List.forall_mem_cons.mpr ⟨zo_none_tl, ?_⟩
  refine List.forall_mem_cons.mpr ⟨zo_none_tl, ?_⟩
  refine List.forall_mem_cons.mpr ⟨(zo_if_tl _ _ _), ?_⟩
  refine List.forall_mem_cons.mpr ⟨zo_none_tl, ?_⟩
  refine List.forall_mem_cons.mpr ⟨zo_none_tl, ?_⟩
  refine List.forall_mem_cons.mpr ⟨(zo_aload_tl _ _), ?_⟩
  refine List.forall_mem_cons.mpr ⟨(zo_iload_tl _ _), ?_⟩
  refine List.forall_mem_cons.mpr ⟨zo_none_tl, ?_⟩
  refine List.forall_mem_cons.mpr ⟨(zo_pushI_tl _ _), ?_⟩
  refine List.forall_mem_cons.mpr ⟨zo_none_tl, ?_⟩
  refine List.forall_mem_cons.mpr ⟨(zo_callv_tl _ _ _ _), ?_⟩
  refine List.forall_mem_cons.mpr ⟨zo_none_tl, ?_⟩
  refine List.forall_mem_cons.mpr ⟨zo_none_tl, ?_⟩
  refine List.forall_mem_cons.mpr ⟨(zo_iload_tl _ _), ?_⟩
  refine List.forall_mem_cons.mpr ⟨(zo_pushI_tl _ _), ?_⟩
  refine List.forall_mem_cons.mpr ⟨(zo_ii_tl _ _), ?_⟩
  refine List.forall_mem_cons.mpr ⟨(zo_icmp_tl _ _ _), ?_⟩
  refine List.forall_mem_cons.mpr ⟨zo_none_tl, ?_⟩
  refine List.forall_mem_cons.mpr ⟨zo_none_tl, ?_⟩
  refine List.forall_mem_cons.mpr ⟨(zo_aload_tl _ _), ?_⟩
  refine List.forall_mem_cons.mpr ⟨(zo_iload_tl _ _), ?_⟩
  refine List.forall_mem_cons.mpr ⟨zo_none_tl, ?_⟩
  refine List.forall_mem_cons.mpr ⟨(zo_pushI_tl _ _), ?_⟩
  refine List.forall_mem_cons.mpr ⟨zo_none_tl, ?_⟩
  refine List.forall_mem_cons.mpr ⟨(zo_callv_tl _ _ _ _), ?_⟩
  refine List.forall_mem_cons.mpr ⟨zo_none_tl, ?_⟩
  refine List.forall_mem_cons.mpr ⟨zo_none_tl, ?_⟩
  refine List.forall_mem_cons.mpr ⟨(zo_pushI_tl _ _), ?_⟩
  refine List.forall_mem_cons.mpr ⟨(zo_icmp_tl _ _ _), ?_⟩
  refine List.forall_mem_cons.mpr ⟨zo_none_tl, ?_⟩
  refine List.forall_mem_cons.mpr ⟨zo_none_tl, ?_⟩
  refine List.forall_mem_cons.mpr ⟨(zo_aload_tl _ _), ?_⟩
  refine List.forall_mem_cons.mpr ⟨(zo_iload_tl _ _), ?_⟩
  refine List.forall_mem_cons.mpr ⟨zo_none_tl, ?_⟩
  refine List.forall_mem_cons.mpr ⟨(zo_pushI_tl _ _), ?_⟩
  refine List.forall_mem_cons.mpr ⟨(zo_callv_tl _ _ _ _), ?_⟩
  refine List.forall_mem_cons.mpr ⟨zo_none_tl, ?_⟩
  refine List.forall_mem_cons.mpr ⟨zo_none_tl, ?_⟩
  refine List.forall_mem_cons.mpr ⟨(zo_pushI_tl _ _), ?_⟩
  refine List.forall_mem_cons.mpr ⟨(zo_iid_tl _ _), ?_⟩
  refine List.forall_mem_cons.mpr ⟨(zo_iload_tl _ _), ?_⟩
  refine List.forall_mem_cons.mpr ⟨zo_none_tl, ?_⟩
  refine List.forall_mem_cons.mpr ⟨(zo_icmp_tl _ _ _), ?_⟩
  refine List.forall_mem_cons.mpr ⟨zo_none_tl, ?_⟩
  refine List.forall_mem_cons.mpr ⟨zo_none_tl, ?_⟩
  refine List.forall_mem_cons.mpr ⟨(zo_pushI_tl _ _), ?_⟩
  refine List.forall_mem_cons.mpr ⟨(zo_goto_tl _), ?_⟩
  refine List.forall_mem_cons.mpr ⟨zo_none_tl, ?_⟩
  refine List.forall_mem_cons.mpr ⟨zo_none_tl, ?_⟩
  refine List.forall_mem_cons.mpr ⟨(zo_pushI_tl _ _), ?_⟩
  refine List.forall_mem_cons.mpr ⟨(zo_istore_tl _ _), ?_⟩
  refine List.forall_mem_cons.mpr ⟨zo_none_tl, ?_⟩
  refine List.forall_mem_cons.mpr ⟨(zo_iload_tl _ _), ?_⟩
  refine List.forall_mem_cons.mpr ⟨zo_none_tl, ?_⟩
  refine List.forall_mem_cons.mpr ⟨(zo_if_tl _ _ _), ?_⟩
  refine List.forall_mem_cons.mpr ⟨zo_none_tl, ?_⟩
  refine List.forall_mem_cons.mpr ⟨zo_none_tl, ?_⟩
  refine List.forall_mem_cons.mpr ⟨(zo_aload_tl _ _), ?_⟩
  refine List.forall_mem_cons.mpr ⟨(zo_getf_tl _ _ _), ?_⟩
  refine List.forall_mem_cons.mpr ⟨zo_none_tl, ?_⟩
  refine List.forall_mem_cons.mpr ⟨zo_none_tl, ?_⟩
  refine List.forall_mem_cons.mpr ⟨(zo_iload_tl _ _), ?_⟩
  refine List.forall_mem_cons.mpr ⟨zo_none_tl, ?_⟩
  refine List.forall_mem_cons.mpr ⟨(zo_iload_tl _ _), ?_⟩
  refine List.forall_mem_cons.mpr ⟨zo_none_tl, ?_⟩
  refine List.forall_mem_cons.mpr ⟨(zo_iast_tl _ _), ?_⟩
  refine List.forall_mem_cons.mpr ⟨(zo_iinc_tl _ _ _), ?_⟩
  refine List.forall_mem_cons.mpr ⟨zo_none_tl, ?_⟩
  refine List.forall_mem_cons.mpr ⟨zo_none_tl, ?_⟩
  refine List.forall_mem_cons.mpr ⟨(zo_iload_tl _ _), ?_⟩
  refine List.forall_mem_cons.mpr ⟨zo_none_tl, ?_⟩
  refine List.forall_mem_cons.mpr ⟨(zo_aload_tl _ _), ?_⟩
  refine List.forall_mem_cons.mpr ⟨(zo_iload_tl _ _), ?_⟩
  refine List.forall_mem_cons.mpr ⟨zo_none_tl, ?_⟩
  refine List.forall_mem_cons.mpr ⟨(zo_pushI_tl _ _), ?_⟩
  refine List.forall_mem_cons.mpr ⟨(zo_callv_tl _ _ _ _), ?_⟩
  refine List.forall_mem_cons.mpr ⟨zo_none_tl, ?_⟩
  refine List.forall_mem_cons.mpr ⟨zo_none_tl, ?_⟩
  refine List.forall_mem_cons.mpr ⟨(zo_calls_tl _ _ _), ?_⟩
  refine List.forall_mem_cons.mpr ⟨zo_none_tl, ?_⟩
  refine List.forall_mem_cons.mpr ⟨zo_none_tl, ?_⟩
  refine List.forall_mem_cons.mpr ⟨(zo_ii_tl _ _), ?_⟩
  refine List.forall_mem_cons.mpr ⟨(zo_istore_tl _ _), ?_⟩
  refine List.forall_mem_cons.mpr ⟨zo_none_tl, ?_⟩
  refine List.forall_mem_cons.mpr ⟨(zo_iinc_tl _ _ _), ?_⟩
  refine List.forall_mem_cons.mpr ⟨zo_none_tl, ?_⟩
  refine List.forall_mem_cons.mpr ⟨zo_none_tl, ?_⟩
  refine List.forall_mem_cons.mpr ⟨(zo_goto_tl _), ?_⟩
  refine List.forall_mem_cons.mpr ⟨zo_none_tl, ?_⟩
  refine List.forall_mem_cons.mpr ⟨zo_none_tl, ?_⟩
  refine List.forall_mem_cons.mpr ⟨(zo_iinc_tl _ _ _), ?_⟩
  refine List.forall_mem_cons.mpr ⟨zo_none_tl, ?_⟩
  refine List.forall_mem_cons.mpr ⟨zo_none_tl, ?_⟩
  refine List.forall_mem_cons.mpr ⟨(zo_goto_tl _), ?_⟩
  refine List.forall_mem_cons.mpr ⟨zo_none_tl, ?_⟩
  refine List.forall_mem_cons.mpr ⟨zo_none_tl, ?_⟩
  refine List.forall_mem_cons.mpr ⟨(zo_iload_tl _ _), ?_⟩
  refine List.forall_mem_cons.mpr ⟨zo_none_tl, ?_⟩
  refine List.forall_mem_cons.mpr ⟨(zo_if_tl _ _ _), ?_⟩
  refine List.forall_mem_cons.mpr ⟨zo_none_tl, ?_⟩
  refine List.forall_mem_cons.mpr ⟨zo_none_tl, ?_⟩
  refine List.forall_mem_cons.mpr ⟨(zo_pushI_tl _ _), ?_⟩
  refine List.forall_mem_cons.mpr ⟨(zo_goto_tl _), ?_⟩
  refine List.forall_mem_cons.mpr ⟨zo_none_tl, ?_⟩
  refine List.forall_mem_cons.mpr ⟨zo_none_tl, ?_⟩
  refine List.forall_mem_cons.mpr ⟨(zo_iload_tl _ _), ?_⟩
  refine List.forall_mem_cons.mpr ⟨zo_none_tl, ?_⟩
  refine List.forall_mem_cons.mpr ⟨(zo_iret_tl _), ?_⟩
  exact fun _ h => absurd h List.not_mem_nil
noncomputable def fX12_laysVictims : zzFn := zz_fn tX12_laysVictims 9
noncomputable def tX12_preempts : List zzOp := [
  zo_pushI (-1) 1,
  zo_istore 2 2,
  zo_pushI 0 3,
  zo_istore 3 4,
  zo_iload 3 5,
  zo_aload 0 6,
  zo_getf zzSR (zz_kf [10] 5) 9,
  zo_none,
  zo_none,
  zo_icmp (fun x y => decide (y ≤ x)) 88 12,
  zo_none,
  zo_none,
  zo_aload 0 13,
  zo_iload 3 14,
  zo_callv zzSR (zz_cl [(10, fX12_isUsable)]) 1 17,
  zo_none,
  zo_none,
  zo_if (fun x => decide (x = 0)) 29 20,
  zo_none,
  zo_none,
  zo_aload 0 21,
  zo_iload 1 22,
  zo_iload 3 23,
  zo_callv zzSR (zz_cl [(10, fX12_laysVictims)]) 2 26,
  zo_none,
  zo_none,
  zo_goto 30,
  zo_none,
  zo_none,
  zo_pushI (-1) 30,
  zo_istore 4 32,
  zo_none,
  zo_iload 4 34,
  zo_none,
  zo_pushI (-1) 35,
  zo_icmp (fun x y => decide (x = y)) 82 38,
  zo_none,
  zo_none,
  zo_iload 2 39,
  zo_pushI (-1) 40,
  zo_icmp (fun x y => decide (x = y)) 49 43,
  zo_none,
  zo_none,
  zo_iload 4 45,
  zo_none,
  zo_iload 2 46,
  zo_icmp (fun x y => decide (y ≤ x)) 82 49,
  zo_none,
  zo_none,
  zo_iload 4 51,
  zo_none,
  zo_istore 2 52,
  zo_pushI 0 53,
  zo_istore 5 55,
  zo_none,
  zo_iload 5 57,
  zo_none,
  zo_iload 4 59,
  zo_none,
  zo_icmp (fun x y => decide (y ≤ x)) 82 62,
  zo_none,
  zo_none,
  zo_aload 0 63,
  zo_getf zzSR (zz_kf [10] 45) 66,
  zo_none,
  zo_none,
  zo_iload 5 68,
  zo_none,
  zo_aload 0 69,
  zo_getf zzSR (zz_kf [10] 44) 72,
  zo_none,
  zo_none,
  zo_iload 5 74,
  zo_none,
  zo_iald zzSR zzSTR 75,
  zo_iast zzSR 76,
  zo_iinc 5 1 79,
  zo_none,
  zo_none,
  zo_goto 55,
  zo_none,
  zo_none,
  zo_iinc 3 1 85,
  zo_none,
  zo_none,
  zo_goto 4,
  zo_none,
  zo_none,
  zo_pushI 1 89,
  zo_istore 3 90,
  zo_pushI 0 91,
  zo_istore 4 93,
  zo_none,
  zo_iload 4 95,
  zo_none,
  zo_iload 2 96,
  zo_icmp (fun x y => decide (y ≤ x)) 121 99,
  zo_none,
  zo_none,
  zo_iload 3 100,
  zo_if (fun x => decide (x = 0)) 121 103,
  zo_none,
  zo_none,
  zo_aload 0 104,
  zo_aload 0 105,
  zo_getf zzSR (zz_kf [10] 45) 108,
  zo_none,
  zo_none,
  zo_iload 4 110,
  zo_none,
  zo_iald zzSR zzSTR 111,
  zo_callv zzSR (zz_cl [(10, fX12_deletes)]) 1 114,
  zo_none,
  zo_none,
  zo_istore 3 115,
  zo_iinc 4 1 118,
  zo_none,
  zo_none,
  zo_goto 93,
  zo_none,
  zo_none,
  zo_ret]
set_option maxRecDepth 100000 in
theorem tl_X12_preempts : ∀ pc, zz_Tl (tX12_preempts.getD pc zo_none) := by
  refine zz_Tl_mem ?_
  unfold tX12_preempts
  refine List.forall_mem_cons.mpr ⟨(zo_pushI_tl _ _), ?_⟩
  refine List.forall_mem_cons.mpr ⟨(zo_istore_tl _ _), ?_⟩
  refine List.forall_mem_cons.mpr ⟨(zo_pushI_tl _ _), ?_⟩
  refine List.forall_mem_cons.mpr ⟨(zo_istore_tl _ _), ?_⟩
  refine List.forall_mem_cons.mpr ⟨(zo_iload_tl _ _), ?_⟩
  refine List.forall_mem_cons.mpr ⟨(zo_aload_tl _ _), ?_⟩
  refine List.forall_mem_cons.mpr ⟨(zo_getf_tl _ _ _), ?_⟩
  refine List.forall_mem_cons.mpr ⟨zo_none_tl, ?_⟩
  refine List.forall_mem_cons.mpr ⟨zo_none_tl, ?_⟩
  refine List.forall_mem_cons.mpr ⟨(zo_icmp_tl _ _ _), ?_⟩
  refine List.forall_mem_cons.mpr ⟨zo_none_tl, ?_⟩
  refine List.forall_mem_cons.mpr ⟨zo_none_tl, ?_⟩
  refine List.forall_mem_cons.mpr ⟨(zo_aload_tl _ _), ?_⟩
  refine List.forall_mem_cons.mpr ⟨(zo_iload_tl _ _), ?_⟩
  refine List.forall_mem_cons.mpr ⟨(zo_callv_tl _ _ _ _), ?_⟩
  refine List.forall_mem_cons.mpr ⟨zo_none_tl, ?_⟩
  refine List.forall_mem_cons.mpr ⟨zo_none_tl, ?_⟩
  refine List.forall_mem_cons.mpr ⟨(zo_if_tl _ _ _), ?_⟩
  refine List.forall_mem_cons.mpr ⟨zo_none_tl, ?_⟩
  refine List.forall_mem_cons.mpr ⟨zo_none_tl, ?_⟩
  refine List.forall_mem_cons.mpr ⟨(zo_aload_tl _ _), ?_⟩
  refine List.forall_mem_cons.mpr ⟨(zo_iload_tl _ _), ?_⟩
  refine List.forall_mem_cons.mpr ⟨(zo_iload_tl _ _), ?_⟩
  refine List.forall_mem_cons.mpr ⟨(zo_callv_tl _ _ _ _), ?_⟩
  refine List.forall_mem_cons.mpr ⟨zo_none_tl, ?_⟩
  refine List.forall_mem_cons.mpr ⟨zo_none_tl, ?_⟩
  refine List.forall_mem_cons.mpr ⟨(zo_goto_tl _), ?_⟩
  refine List.forall_mem_cons.mpr ⟨zo_none_tl, ?_⟩
  refine List.forall_mem_cons.mpr ⟨zo_none_tl, ?_⟩
  refine List.forall_mem_cons.mpr ⟨(zo_pushI_tl _ _), ?_⟩
  refine List.forall_mem_cons.mpr ⟨(zo_istore_tl _ _), ?_⟩
  refine List.forall_mem_cons.mpr ⟨zo_none_tl, ?_⟩
  refine List.forall_mem_cons.mpr ⟨(zo_iload_tl _ _), ?_⟩
  refine List.forall_mem_cons.mpr ⟨zo_none_tl, ?_⟩
  refine List.forall_mem_cons.mpr ⟨(zo_pushI_tl _ _), ?_⟩
  refine List.forall_mem_cons.mpr ⟨(zo_icmp_tl _ _ _), ?_⟩
  refine List.forall_mem_cons.mpr ⟨zo_none_tl, ?_⟩
  refine List.forall_mem_cons.mpr ⟨zo_none_tl, ?_⟩
  refine List.forall_mem_cons.mpr ⟨(zo_iload_tl _ _), ?_⟩
  refine List.forall_mem_cons.mpr ⟨(zo_pushI_tl _ _), ?_⟩
  refine List.forall_mem_cons.mpr ⟨(zo_icmp_tl _ _ _), ?_⟩
  refine List.forall_mem_cons.mpr ⟨zo_none_tl, ?_⟩
  refine List.forall_mem_cons.mpr ⟨zo_none_tl, ?_⟩
  refine List.forall_mem_cons.mpr ⟨(zo_iload_tl _ _), ?_⟩
  refine List.forall_mem_cons.mpr ⟨zo_none_tl, ?_⟩
  refine List.forall_mem_cons.mpr ⟨(zo_iload_tl _ _), ?_⟩
  refine List.forall_mem_cons.mpr ⟨(zo_icmp_tl _ _ _), ?_⟩
  refine List.forall_mem_cons.mpr ⟨zo_none_tl, ?_⟩
  refine List.forall_mem_cons.mpr ⟨zo_none_tl, ?_⟩
  refine List.forall_mem_cons.mpr ⟨(zo_iload_tl _ _), ?_⟩
  refine List.forall_mem_cons.mpr ⟨zo_none_tl, ?_⟩
  refine List.forall_mem_cons.mpr ⟨(zo_istore_tl _ _), ?_⟩
  refine List.forall_mem_cons.mpr ⟨(zo_pushI_tl _ _), ?_⟩
  refine List.forall_mem_cons.mpr ⟨(zo_istore_tl _ _), ?_⟩
  refine List.forall_mem_cons.mpr ⟨zo_none_tl, ?_⟩
  refine List.forall_mem_cons.mpr ⟨(zo_iload_tl _ _), ?_⟩
  refine List.forall_mem_cons.mpr ⟨zo_none_tl, ?_⟩
  refine List.forall_mem_cons.mpr ⟨(zo_iload_tl _ _), ?_⟩
  refine List.forall_mem_cons.mpr ⟨zo_none_tl, ?_⟩
  refine List.forall_mem_cons.mpr ⟨(zo_icmp_tl _ _ _), ?_⟩
  refine List.forall_mem_cons.mpr ⟨zo_none_tl, ?_⟩
  refine List.forall_mem_cons.mpr ⟨zo_none_tl, ?_⟩
  refine List.forall_mem_cons.mpr ⟨(zo_aload_tl _ _), ?_⟩
  refine List.forall_mem_cons.mpr ⟨(zo_getf_tl _ _ _), ?_⟩
  refine List.forall_mem_cons.mpr ⟨zo_none_tl, ?_⟩
  refine List.forall_mem_cons.mpr ⟨zo_none_tl, ?_⟩
  refine List.forall_mem_cons.mpr ⟨(zo_iload_tl _ _), ?_⟩
  refine List.forall_mem_cons.mpr ⟨zo_none_tl, ?_⟩
  refine List.forall_mem_cons.mpr ⟨(zo_aload_tl _ _), ?_⟩
  refine List.forall_mem_cons.mpr ⟨(zo_getf_tl _ _ _), ?_⟩
  refine List.forall_mem_cons.mpr ⟨zo_none_tl, ?_⟩
  refine List.forall_mem_cons.mpr ⟨zo_none_tl, ?_⟩
  refine List.forall_mem_cons.mpr ⟨(zo_iload_tl _ _), ?_⟩
  refine List.forall_mem_cons.mpr ⟨zo_none_tl, ?_⟩
  refine List.forall_mem_cons.mpr ⟨(zo_iald_tl _ _ _), ?_⟩
  refine List.forall_mem_cons.mpr ⟨(zo_iast_tl _ _), ?_⟩
  refine List.forall_mem_cons.mpr ⟨(zo_iinc_tl _ _ _), ?_⟩
  refine List.forall_mem_cons.mpr ⟨zo_none_tl, ?_⟩
  refine List.forall_mem_cons.mpr ⟨zo_none_tl, ?_⟩
  refine List.forall_mem_cons.mpr ⟨(zo_goto_tl _), ?_⟩
  refine List.forall_mem_cons.mpr ⟨zo_none_tl, ?_⟩
  refine List.forall_mem_cons.mpr ⟨zo_none_tl, ?_⟩
  refine List.forall_mem_cons.mpr ⟨(zo_iinc_tl _ _ _), ?_⟩
  refine List.forall_mem_cons.mpr ⟨zo_none_tl, ?_⟩
  refine List.forall_mem_cons.mpr ⟨zo_none_tl, ?_⟩
  refine List.forall_mem_cons.mpr ⟨(zo_goto_tl _), ?_⟩
  refine List.forall_mem_cons.mpr ⟨zo_none_tl, ?_⟩
  refine List.forall_mem_cons.mpr ⟨zo_none_tl, ?_⟩
  refine List.forall_mem_cons.mpr ⟨(zo_pushI_tl _ _), ?_⟩
  refine List.forall_mem_cons.mpr ⟨(zo_istore_tl _ _), ?_⟩
  refine List.forall_mem_cons.mpr ⟨(zo_pushI_tl _ _), ?_⟩
  refine List.forall_mem_cons.mpr ⟨(zo_istore_tl _ _), ?_⟩
  refine List.forall_mem_cons.mpr ⟨zo_none_tl, ?_⟩
  refine List.forall_mem_cons.mpr ⟨(zo_iload_tl _ _), ?_⟩
  refine List.forall_mem_cons.mpr ⟨zo_none_tl, ?_⟩
  refine List.forall_mem_cons.mpr ⟨(zo_iload_tl _ _), ?_⟩
  refine List.forall_mem_cons.mpr ⟨(zo_icmp_tl _ _ _), ?_⟩
  refine List.forall_mem_cons.mpr ⟨zo_none_tl, ?_⟩
  refine List.forall_mem_cons.mpr ⟨zo_none_tl, ?_⟩
  refine List.forall_mem_cons.mpr ⟨(zo_iload_tl _ _), ?_⟩
  refine List.forall_mem_cons.mpr ⟨(zo_if_tl _ _ _), ?_⟩
  refine List.forall_mem_cons.mpr ⟨zo_none_tl, ?_⟩
  refine List.forall_mem_cons.mpr ⟨zo_none_tl, ?_⟩
  refine List.forall_mem_cons.mpr ⟨(zo_aload_tl _ _), ?_⟩
  refine List.forall_mem_cons.mpr ⟨(zo_aload_tl _ _), ?_⟩
  refine List.forall_mem_cons.mpr ⟨(zo_getf_tl _ _ _), ?_⟩
  refine List.forall_mem_cons.mpr ⟨zo_none_tl, ?_⟩
  refine List.forall_mem_cons.mpr ⟨zo_none_tl, ?_⟩
  refine List.forall_mem_cons.mpr ⟨(zo_iload_tl _ _), ?_⟩
  refine List.forall_mem_cons.mpr ⟨zo_none_tl, ?_⟩
  refine List.forall_mem_cons.mpr ⟨(zo_iald_tl _ _ _), ?_⟩
  refine List.forall_mem_cons.mpr ⟨(zo_callv_tl _ _ _ _), ?_⟩
  refine List.forall_mem_cons.mpr ⟨zo_none_tl, ?_⟩
  refine List.forall_mem_cons.mpr ⟨zo_none_tl, ?_⟩
  refine List.forall_mem_cons.mpr ⟨(zo_istore_tl _ _), ?_⟩
  refine List.forall_mem_cons.mpr ⟨(zo_iinc_tl _ _ _), ?_⟩
  refine List.forall_mem_cons.mpr ⟨zo_none_tl, ?_⟩
  refine List.forall_mem_cons.mpr ⟨zo_none_tl, ?_⟩
  refine List.forall_mem_cons.mpr ⟨(zo_goto_tl _), ?_⟩
  refine List.forall_mem_cons.mpr ⟨zo_none_tl, ?_⟩
  refine List.forall_mem_cons.mpr ⟨zo_none_tl, ?_⟩
  refine List.forall_mem_cons.mpr ⟨(zo_ret_tl), ?_⟩
  exact fun _ h => absurd h List.not_mem_nil
noncomputable def fX12_preempts : zzFn := zz_fn tX12_preempts 6
noncomputable def tX12_schedules : List zzOp := [
  zo_aload 0 1,
  zo_aload 0 2,
  zo_getf zzSR (zz_kf [10] 43) 5,
  zo_none,
  zo_none,
  zo_pushI 2 6,
  zo_callv zzSR (zz_cl [(10, fX12_stays)]) 2 9,
  zo_none,
  zo_none,
  zo_if (fun x => decide (x = 0)) 38 12,
  zo_none,
  zo_none,
  zo_aload 0 13,
  zo_aload 0 14,
  zo_getf zzSR (zz_kf [10] 43) 17,
  zo_none,
  zo_none,
  zo_pushI 16 19,
  zo_none,
  zo_callv zzSR (zz_cl [(10, fX12_viewed)]) 2 22,
  zo_none,
  zo_none,
  zo_if (fun x => decide (¬ x = 0)) 38 25,
  zo_none,
  zo_none,
  zo_aload 0 26,
  zo_aload 0 27,
  zo_getf zzSR (zz_kf [10] 43) 30,
  zo_none,
  zo_none,
  zo_pushI 15 32,
  zo_none,
  zo_callv zzSR (zz_cl [(10, fX12_viewed)]) 2 35,
  zo_none,
  zo_none,
  zo_if (fun x => decide (x ≤ 0)) 40 38,
  zo_none,
  zo_none,
  zo_pushI 1 39,
  zo_iret true,
  zo_aload 0 41,
  zo_aload 0 42,
  zo_getf zzSR (zz_kf [10] 43) 45,
  zo_none,
  zo_none,
  zo_callv zzSR (zz_cl [(10, fX12_nodeFor)]) 1 48,
  zo_none,
  zo_none,
  zo_istore 1 49,
  zo_iload 1 50,
  zo_pushI (-1) 51,
  zo_icmp (fun x y => decide (x = y)) 90 54,
  zo_none,
  zo_none,
  zo_aload 0 55,
  zo_aload 0 56,
  zo_getf zzSR (zz_kf [10] 43) 59,
  zo_none,
  zo_none,
  zo_aload 0 60,
  zo_aload 0 61,
  zo_getf zzSR (zz_kf [10] 7) 64,
  zo_none,
  zo_none,
  zo_aload 0 65,
  zo_getf zzSR (zz_kf [10] 43) 68,
  zo_none,
  zo_none,
  zo_lald zzSR 69,
  zo_pushI 15 71,
  zo_none,
  zo_iload 1 72,
  zo_pushI 1 73,
  zo_ii (fun x y => x + y) 74,
  zo_callv zzSR (zz_cl [(10, fX12_with)]) 3 77,
  zo_none,
  zo_none,
  zo_aload 0 78,
  zo_getf zzSR (zz_kf [10] 8) 81,
  zo_none,
  zo_none,
  zo_aload 0 82,
  zo_getf zzSR (zz_kf [10] 43) 85,
  zo_none,
  zo_none,
  zo_lald zzSR 86,
  zo_callv zzSR (zz_cl [(10, fX12_writesIt)]) 3 89,
  zo_none,
  zo_none,
  zo_iret true,
  zo_aload 0 91,
  zo_aload 0 92,
  zo_getf zzSR (zz_kf [10] 43) 95,
  zo_none,
  zo_none,
  zo_callv zzSR (zz_cl [(10, fX12_preempts)]) 1 98,
  zo_none,
  zo_none,
  zo_pushI 0 99,
  zo_iret true]
set_option maxRecDepth 100000 in
theorem tl_X12_schedules : ∀ pc, zz_Tl (tX12_schedules.getD pc zo_none) := by
  refine zz_Tl_mem ?_
  unfold tX12_schedules
  refine List.forall_mem_cons.mpr ⟨(zo_aload_tl _ _), ?_⟩
  refine List.forall_mem_cons.mpr ⟨(zo_aload_tl _ _), ?_⟩
  refine List.forall_mem_cons.mpr ⟨(zo_getf_tl _ _ _), ?_⟩
  refine List.forall_mem_cons.mpr ⟨zo_none_tl, ?_⟩
  refine List.forall_mem_cons.mpr ⟨zo_none_tl, ?_⟩
  refine List.forall_mem_cons.mpr ⟨(zo_pushI_tl _ _), ?_⟩
  refine List.forall_mem_cons.mpr ⟨(zo_callv_tl _ _ _ _), ?_⟩
  refine List.forall_mem_cons.mpr ⟨zo_none_tl, ?_⟩
  refine List.forall_mem_cons.mpr ⟨zo_none_tl, ?_⟩
  refine List.forall_mem_cons.mpr ⟨(zo_if_tl _ _ _), ?_⟩
  refine List.forall_mem_cons.mpr ⟨zo_none_tl, ?_⟩
  refine List.forall_mem_cons.mpr ⟨zo_none_tl, ?_⟩
  refine List.forall_mem_cons.mpr ⟨(zo_aload_tl _ _), ?_⟩
  refine List.forall_mem_cons.mpr ⟨(zo_aload_tl _ _), ?_⟩
  refine List.forall_mem_cons.mpr ⟨(zo_getf_tl _ _ _), ?_⟩
  refine List.forall_mem_cons.mpr ⟨zo_none_tl, ?_⟩
  refine List.forall_mem_cons.mpr ⟨zo_none_tl, ?_⟩
  refine List.forall_mem_cons.mpr ⟨(zo_pushI_tl _ _), ?_⟩
  refine List.forall_mem_cons.mpr ⟨zo_none_tl, ?_⟩
  refine List.forall_mem_cons.mpr ⟨(zo_callv_tl _ _ _ _), ?_⟩
  refine List.forall_mem_cons.mpr ⟨zo_none_tl, ?_⟩
  refine List.forall_mem_cons.mpr ⟨zo_none_tl, ?_⟩
  refine List.forall_mem_cons.mpr ⟨(zo_if_tl _ _ _), ?_⟩
  refine List.forall_mem_cons.mpr ⟨zo_none_tl, ?_⟩
  refine List.forall_mem_cons.mpr ⟨zo_none_tl, ?_⟩
  refine List.forall_mem_cons.mpr ⟨(zo_aload_tl _ _), ?_⟩
  refine List.forall_mem_cons.mpr ⟨(zo_aload_tl _ _), ?_⟩
  refine List.forall_mem_cons.mpr ⟨(zo_getf_tl _ _ _), ?_⟩
  refine List.forall_mem_cons.mpr ⟨zo_none_tl, ?_⟩
  refine List.forall_mem_cons.mpr ⟨zo_none_tl, ?_⟩
  refine List.forall_mem_cons.mpr ⟨(zo_pushI_tl _ _), ?_⟩
  refine List.forall_mem_cons.mpr ⟨zo_none_tl, ?_⟩
  refine List.forall_mem_cons.mpr ⟨(zo_callv_tl _ _ _ _), ?_⟩
  refine List.forall_mem_cons.mpr ⟨zo_none_tl, ?_⟩
  refine List.forall_mem_cons.mpr ⟨zo_none_tl, ?_⟩
  refine List.forall_mem_cons.mpr ⟨(zo_if_tl _ _ _), ?_⟩
  refine List.forall_mem_cons.mpr ⟨zo_none_tl, ?_⟩
  refine List.forall_mem_cons.mpr ⟨zo_none_tl, ?_⟩
  refine List.forall_mem_cons.mpr ⟨(zo_pushI_tl _ _), ?_⟩
  refine List.forall_mem_cons.mpr ⟨(zo_iret_tl _), ?_⟩
  refine List.forall_mem_cons.mpr ⟨(zo_aload_tl _ _), ?_⟩
  refine List.forall_mem_cons.mpr ⟨(zo_aload_tl _ _), ?_⟩
  refine List.forall_mem_cons.mpr ⟨(zo_getf_tl _ _ _), ?_⟩
  refine List.forall_mem_cons.mpr ⟨zo_none_tl, ?_⟩
  refine List.forall_mem_cons.mpr ⟨zo_none_tl, ?_⟩
  refine List.forall_mem_cons.mpr ⟨(zo_callv_tl _ _ _ _), ?_⟩
  refine List.forall_mem_cons.mpr ⟨zo_none_tl, ?_⟩
  refine List.forall_mem_cons.mpr ⟨zo_none_tl, ?_⟩
  refine List.forall_mem_cons.mpr ⟨(zo_istore_tl _ _), ?_⟩
  refine List.forall_mem_cons.mpr ⟨(zo_iload_tl _ _), ?_⟩
  refine List.forall_mem_cons.mpr ⟨(zo_pushI_tl _ _), ?_⟩
  refine List.forall_mem_cons.mpr ⟨(zo_icmp_tl _ _ _), ?_⟩
  refine List.forall_mem_cons.mpr ⟨zo_none_tl, ?_⟩
  refine List.forall_mem_cons.mpr ⟨zo_none_tl, ?_⟩
  refine List.forall_mem_cons.mpr ⟨(zo_aload_tl _ _), ?_⟩
  refine List.forall_mem_cons.mpr ⟨(zo_aload_tl _ _), ?_⟩
  refine List.forall_mem_cons.mpr ⟨(zo_getf_tl _ _ _), ?_⟩
  refine List.forall_mem_cons.mpr ⟨zo_none_tl, ?_⟩
  refine List.forall_mem_cons.mpr ⟨zo_none_tl, ?_⟩
  refine List.forall_mem_cons.mpr ⟨(zo_aload_tl _ _), ?_⟩
  refine List.forall_mem_cons.mpr ⟨(zo_aload_tl _ _), ?_⟩
  refine List.forall_mem_cons.mpr ⟨(zo_getf_tl _ _ _), ?_⟩
  refine List.forall_mem_cons.mpr ⟨zo_none_tl, ?_⟩
  refine List.forall_mem_cons.mpr ⟨zo_none_tl, ?_⟩
  refine List.forall_mem_cons.mpr ⟨(zo_aload_tl _ _), ?_⟩
  refine List.forall_mem_cons.mpr ⟨(zo_getf_tl _ _ _), ?_⟩
  refine List.forall_mem_cons.mpr ⟨zo_none_tl, ?_⟩
  refine List.forall_mem_cons.mpr ⟨zo_none_tl, ?_⟩
  refine List.forall_mem_cons.mpr ⟨(zo_lald_tl _ _), ?_⟩
  refine List.forall_mem_cons.mpr ⟨(zo_pushI_tl _ _), ?_⟩
  refine List.forall_mem_cons.mpr ⟨zo_none_tl, ?_⟩
  refine List.forall_mem_cons.mpr ⟨(zo_iload_tl _ _), ?_⟩
  refine List.forall_mem_cons.mpr ⟨(zo_pushI_tl _ _), ?_⟩
  refine List.forall_mem_cons.mpr ⟨(zo_ii_tl _ _), ?_⟩
  refine List.forall_mem_cons.mpr ⟨(zo_callv_tl _ _ _ _), ?_⟩
  refine List.forall_mem_cons.mpr ⟨zo_none_tl, ?_⟩
  refine List.forall_mem_cons.mpr ⟨zo_none_tl, ?_⟩
  refine List.forall_mem_cons.mpr ⟨(zo_aload_tl _ _), ?_⟩
  refine List.forall_mem_cons.mpr ⟨(zo_getf_tl _ _ _), ?_⟩
  refine List.forall_mem_cons.mpr ⟨zo_none_tl, ?_⟩
  refine List.forall_mem_cons.mpr ⟨zo_none_tl, ?_⟩
  refine List.forall_mem_cons.mpr ⟨(zo_aload_tl _ _), ?_⟩
  refine List.forall_mem_cons.mpr ⟨(zo_getf_tl _ _ _), ?_⟩
  refine List.forall_mem_cons.mpr ⟨zo_none_tl, ?_⟩
  refine List.forall_mem_cons.mpr ⟨zo_none_tl, ?_⟩
  refine List.forall_mem_cons.mpr ⟨(zo_lald_tl _ _), ?_⟩
  refine List.forall_mem_cons.mpr ⟨(zo_callv_tl _ _ _ _), ?_⟩
  refine List.forall_mem_cons.mpr ⟨zo_none_tl, ?_⟩
  refine List.forall_mem_cons.mpr ⟨zo_none_tl, ?_⟩
  refine List.forall_mem_cons.mpr ⟨(zo_iret_tl _), ?_⟩
  refine List.forall_mem_cons.mpr ⟨(zo_aload_tl _ _), ?_⟩
  refine List.forall_mem_cons.mpr ⟨(zo_aload_tl _ _), ?_⟩
  refine List.forall_mem_cons.mpr ⟨(zo_getf_tl _ _ _), ?_⟩
  refine List.forall_mem_cons.mpr ⟨zo_none_tl, ?_⟩
  refine List.forall_mem_cons.mpr ⟨zo_none_tl, ?_⟩
  refine List.forall_mem_cons.mpr ⟨(zo_callv_tl _ _ _ _), ?_⟩
  refine List.forall_mem_cons.mpr ⟨zo_none_tl, ?_⟩
  refine List.forall_mem_cons.mpr ⟨zo_none_tl, ?_⟩
  refine List.forall_mem_cons.mpr ⟨(zo_pushI_tl _ _), ?_⟩
  refine List.forall_mem_cons.mpr ⟨(zo_iret_tl _), ?_⟩
  exact fun _ h => absurd h List.not_mem_nil
noncomputable def fX12_schedules : zzFn := zz_fn tX12_schedules 2
noncomputable def tX12_runs : List zzOp := [
  zo_aload 0 1,
  zo_aload 0 2,
  zo_getf zzSR (zz_kf [10] 43) 5,
  zo_none,
  zo_none,
  zo_callv zzSR (zz_cl [(10, fX12_isGoneThere)]) 1 8,
  zo_none,
  zo_none,
  zo_if (fun x => decide (¬ x = 0)) 37 11,
  zo_none,
  zo_none,
  zo_aload 0 12,
  zo_getf zzSR (zz_kf [10] 6) 15,
  zo_none,
  zo_none,
  zo_aload 0 16,
  zo_getf zzSR (zz_kf [10] 43) 19,
  zo_none,
  zo_none,
  zo_iald zzSR zzSTR 20,
  zo_pushI 2 21,
  zo_icmp (fun x y => decide (¬ x = y)) 37 24,
  zo_none,
  zo_none,
  zo_aload 0 25,
  zo_aload 0 26,
  zo_getf zzSR (zz_kf [10] 43) 29,
  zo_none,
  zo_none,
  zo_pushI 15 31,
  zo_none,
  zo_callv zzSR (zz_cl [(10, fX12_viewed)]) 2 34,
  zo_none,
  zo_none,
  zo_if (fun x => decide (¬ x = 0)) 39 37,
  zo_none,
  zo_none,
  zo_pushI 1 38,
  zo_iret true,
  zo_aload 0 40,
  zo_getf zzSR (zz_kf [10] 7) 43,
  zo_none,
  zo_none,
  zo_aload 0 44,
  zo_getf zzSR (zz_kf [10] 43) 47,
  zo_none,
  zo_none,
  zo_lald zzSR 48,
  zo_lstore 1 49,
  zo_aload 0 50,
  zo_aload 0 51,
  zo_getf zzSR (zz_kf [10] 43) 54,
  zo_none,
  zo_none,
  zo_pushI 15 56,
  zo_none,
  zo_callv zzSR (zz_cl [(10, fX12_viewed)]) 2 59,
  zo_none,
  zo_none,
  zo_pushI 1 60,
  zo_ii (fun x y => x - y) 61,
  zo_istore 3 62,
  zo_aload 0 63,
  zo_aload 0 64,
  zo_getf zzSR (zz_kf [10] 43) 67,
  zo_none,
  zo_none,
  zo_pushI 16 69,
  zo_none,
  zo_callv zzSR (zz_cl [(10, fX12_viewed)]) 2 72,
  zo_none,
  zo_none,
  zo_istore 4 74,
  zo_none,
  zo_aload 0 75,
  zo_aload 0 76,
  zo_getf zzSR (zz_kf [10] 43) 79,
  zo_none,
  zo_none,
  zo_pushI 13 81,
  zo_none,
  zo_callv zzSR (zz_cl [(10, fX12_viewed)]) 2 84,
  zo_none,
  zo_none,
  zo_if (fun x => decide (x = 0)) 133 87,
  zo_none,
  zo_none,
  zo_aload 0 88,
  zo_lload 1 89,
  zo_pushI 15 91,
  zo_none,
  zo_pushI 0 92,
  zo_callv zzSR (zz_cl [(10, fX12_with)]) 3 95,
  zo_none,
  zo_none,
  zo_lstore 1 96,
  zo_aload 0 97,
  zo_aload 0 98,
  zo_getf zzSR (zz_kf [10] 43) 101,
  zo_none,
  zo_none,
  zo_aload 0 102,
  zo_lload 1 103,
  zo_pushI 12 105,
  zo_none,
  zo_callv zzSR (zz_cl [(10, fX12_get)]) 2 108,
  zo_none,
  zo_none,
  zo_if (fun x => decide (¬ x = 0)) 119 111,
  zo_none,
  zo_none,
  zo_aload 0 112,
  zo_lload 1 113,
  zo_callv zzSR (zz_cl [(10, fX12_gone)]) 1 116,
  zo_none,
  zo_none,
  zo_goto 120,
  zo_none,
  zo_none,
  zo_lload 1 120,
  zo_aload 0 121,
  zo_getf zzSR (zz_kf [10] 8) 124,
  zo_none,
  zo_none,
  zo_aload 0 125,
  zo_getf zzSR (zz_kf [10] 43) 128,
  zo_none,
  zo_none,
  zo_lald zzSR 129,
  zo_callv zzSR (zz_cl [(10, fX12_writesIt)]) 3 132,
  zo_none,
  zo_none,
  zo_iret true,
  zo_aload 0 134,
  zo_iload 3 135,
  zo_callv zzSR (zz_cl [(10, fX12_isGoneThere)]) 1 138,
  zo_none,
  zo_none,
  zo_if (fun x => decide (¬ x = 0)) 162 141,
  zo_none,
  zo_none,
  zo_aload 0 142,
  zo_iload 3 143,
  zo_pushI 14 145,
  zo_none,
  zo_callv zzSR (zz_cl [(10, fX12_viewed)]) 2 148,
  zo_none,
  zo_none,
  zo_if (fun x => decide (x = 0)) 162 151,
  zo_none,
  zo_none,
  zo_aload 0 152,
  zo_iload 3 153,
  zo_pushI 9 155,
  zo_none,
  zo_callv zzSR (zz_cl [(10, fX12_viewed)]) 2 158,
  zo_none,
  zo_none,
  zo_pushI 1 159,
  zo_icmp (fun x y => decide (¬ x = y)) 166 162,
  zo_none,
  zo_none,
  zo_pushI 1 163,
  zo_goto 167,
  zo_none,
  zo_none,
  zo_pushI 0 167,
  zo_istore 5 169,
  zo_none,
  zo_iload 5 171,
  zo_none,
  zo_if (fun x => decide (x = 0)) 206 174,
  zo_none,
  zo_none,
  zo_iload 4 176,
  zo_none,
  zo_pushI 1 177,
  zo_icmp (fun x y => decide (y < x)) 206 180,
  zo_none,
  zo_none,
  zo_aload 0 181,
  zo_aload 0 182,
  zo_getf zzSR (zz_kf [10] 43) 185,
  zo_none,
  zo_none,
  zo_aload 0 186,
  zo_lload 1 187,
  zo_pushI 16 189,
  zo_none,
  zo_pushI 3 190,
  zo_callv zzSR (zz_cl [(10, fX12_with)]) 3 193,
  zo_none,
  zo_none,
  zo_aload 0 194,
  zo_getf zzSR (zz_kf [10] 8) 197,
  zo_none,
  zo_none,
  zo_aload 0 198,
  zo_getf zzSR (zz_kf [10] 43) 201,
  zo_none,
  zo_none,
  zo_lald zzSR 202,
  zo_callv zzSR (zz_cl [(10, fX12_writesIt)]) 3 205,
  zo_none,
  zo_none,
  zo_iret true,
  zo_iload 4 208,
  zo_none,
  zo_if (fun x => decide (x = 0)) 213 211,
  zo_none,
  zo_none,
  zo_pushI 1 212,
  zo_iret true,
  zo_aload 0 214,
  zo_iload 3 215,
  zo_pushI 7 217,
  zo_none,
  zo_callv zzSR (zz_cl [(10, fX12_viewed)]) 2 220,
  zo_none,
  zo_none,
  zo_aload 0 221,
  zo_aload 0 222,
  zo_getf zzSR (zz_kf [10] 43) 225,
  zo_none,
  zo_none,
  zo_pushI 1 226,
  zo_callv zzSR (zz_cl [(10, fX12_viewed)]) 2 229,
  zo_none,
  zo_none,
  zo_calls fX12_need 1 232,
  zo_none,
  zo_none,
  zo_aload 0 233,
  zo_iload 3 234,
  zo_pushI 1 235,
  zo_callv zzSR (zz_cl [(10, fX12_used)]) 2 238,
  zo_none,
  zo_none,
  zo_ii (fun x y => x + y) 239,
  zo_icmp (fun x y => decide (x < y)) 246 242,
  zo_none,
  zo_none,
  zo_pushI 1 243,
  zo_goto 247,
  zo_none,
  zo_none,
  zo_pushI 0 247,
  zo_istore 6 249,
  zo_none,
  zo_aload 0 250,
  zo_aload 0 251,
  zo_getf zzSR (zz_kf [10] 43) 254,
  zo_none,
  zo_none,
  zo_aload 0 255,
  zo_lload 1 256,
  zo_pushI 16 258,
  zo_none,
  zo_iload 6 260,
  zo_none,
  zo_if (fun x => decide (x = 0)) 267 263,
  zo_none,
  zo_none,
  zo_pushI 1 264,
  zo_goto 268,
  zo_none,
  zo_none,
  zo_pushI 3 268,
  zo_callv zzSR (zz_cl [(10, fX12_with)]) 3 271,
  zo_none,
  zo_none,
  zo_aload 0 272,
  zo_getf zzSR (zz_kf [10] 8) 275,
  zo_none,
  zo_none,
  zo_aload 0 276,
  zo_getf zzSR (zz_kf [10] 43) 279,
  zo_none,
  zo_none,
  zo_lald zzSR 280,
  zo_callv zzSR (zz_cl [(10, fX12_writesIt)]) 3 283,
  zo_none,
  zo_none,
  zo_iret true]
set_option maxRecDepth 100000 in
theorem tl_X12_runs : ∀ pc, zz_Tl (tX12_runs.getD pc zo_none) := by
  refine zz_Tl_mem ?_
  unfold tX12_runs
  refine List.forall_mem_cons.mpr ⟨(zo_aload_tl _ _), ?_⟩
  refine List.forall_mem_cons.mpr ⟨(zo_aload_tl _ _), ?_⟩
  refine List.forall_mem_cons.mpr ⟨(zo_getf_tl _ _ _), ?_⟩
  refine List.forall_mem_cons.mpr ⟨zo_none_tl, ?_⟩
  refine List.forall_mem_cons.mpr ⟨zo_none_tl, ?_⟩
  refine List.forall_mem_cons.mpr ⟨(zo_callv_tl _ _ _ _), ?_⟩
  refine List.forall_mem_cons.mpr ⟨zo_none_tl, ?_⟩
  refine List.forall_mem_cons.mpr ⟨zo_none_tl, ?_⟩
  refine List.forall_mem_cons.mpr ⟨(zo_if_tl _ _ _), ?_⟩
  refine List.forall_mem_cons.mpr ⟨zo_none_tl, ?_⟩
  refine List.forall_mem_cons.mpr ⟨zo_none_tl, ?_⟩
  refine List.forall_mem_cons.mpr ⟨(zo_aload_tl _ _), ?_⟩
  refine List.forall_mem_cons.mpr ⟨(zo_getf_tl _ _ _), ?_⟩
  refine List.forall_mem_cons.mpr ⟨zo_none_tl, ?_⟩
  refine List.forall_mem_cons.mpr ⟨zo_none_tl, ?_⟩
  refine List.forall_mem_cons.mpr ⟨(zo_aload_tl _ _), ?_⟩
  refine List.forall_mem_cons.mpr ⟨(zo_getf_tl _ _ _), ?_⟩
  refine List.forall_mem_cons.mpr ⟨zo_none_tl, ?_⟩
  refine List.forall_mem_cons.mpr ⟨zo_none_tl, ?_⟩
  refine List.forall_mem_cons.mpr ⟨(zo_iald_tl _ _ _), ?_⟩
  refine List.forall_mem_cons.mpr ⟨(zo_pushI_tl _ _), ?_⟩
  refine List.forall_mem_cons.mpr ⟨(zo_icmp_tl _ _ _), ?_⟩
  refine List.forall_mem_cons.mpr ⟨zo_none_tl, ?_⟩
  refine List.forall_mem_cons.mpr ⟨zo_none_tl, ?_⟩
  refine List.forall_mem_cons.mpr ⟨(zo_aload_tl _ _), ?_⟩
  refine List.forall_mem_cons.mpr ⟨(zo_aload_tl _ _), ?_⟩
  refine List.forall_mem_cons.mpr ⟨(zo_getf_tl _ _ _), ?_⟩
  refine List.forall_mem_cons.mpr ⟨zo_none_tl, ?_⟩
  refine List.forall_mem_cons.mpr ⟨zo_none_tl, ?_⟩
  refine List.forall_mem_cons.mpr ⟨(zo_pushI_tl _ _), ?_⟩
  refine List.forall_mem_cons.mpr ⟨zo_none_tl, ?_⟩
  refine List.forall_mem_cons.mpr ⟨(zo_callv_tl _ _ _ _), ?_⟩
  refine List.forall_mem_cons.mpr ⟨zo_none_tl, ?_⟩
  refine List.forall_mem_cons.mpr ⟨zo_none_tl, ?_⟩
  refine List.forall_mem_cons.mpr ⟨(zo_if_tl _ _ _), ?_⟩
  refine List.forall_mem_cons.mpr ⟨zo_none_tl, ?_⟩
  refine List.forall_mem_cons.mpr ⟨zo_none_tl, ?_⟩
  refine List.forall_mem_cons.mpr ⟨(zo_pushI_tl _ _), ?_⟩
  refine List.forall_mem_cons.mpr ⟨(zo_iret_tl _), ?_⟩
  refine List.forall_mem_cons.mpr ⟨(zo_aload_tl _ _), ?_⟩
  refine List.forall_mem_cons.mpr ⟨(zo_getf_tl _ _ _), ?_⟩
  refine List.forall_mem_cons.mpr ⟨zo_none_tl, ?_⟩
  refine List.forall_mem_cons.mpr ⟨zo_none_tl, ?_⟩
  refine List.forall_mem_cons.mpr ⟨(zo_aload_tl _ _), ?_⟩
  refine List.forall_mem_cons.mpr ⟨(zo_getf_tl _ _ _), ?_⟩
  refine List.forall_mem_cons.mpr ⟨zo_none_tl, ?_⟩
  refine List.forall_mem_cons.mpr ⟨zo_none_tl, ?_⟩
  refine List.forall_mem_cons.mpr ⟨(zo_lald_tl _ _), ?_⟩
  refine List.forall_mem_cons.mpr ⟨(zo_lstore_tl _ _), ?_⟩
  refine List.forall_mem_cons.mpr ⟨(zo_aload_tl _ _), ?_⟩
  refine List.forall_mem_cons.mpr ⟨(zo_aload_tl _ _), ?_⟩
  refine List.forall_mem_cons.mpr ⟨(zo_getf_tl _ _ _), ?_⟩
  refine List.forall_mem_cons.mpr ⟨zo_none_tl, ?_⟩
  refine List.forall_mem_cons.mpr ⟨zo_none_tl, ?_⟩
  refine List.forall_mem_cons.mpr ⟨(zo_pushI_tl _ _), ?_⟩
  refine List.forall_mem_cons.mpr ⟨zo_none_tl, ?_⟩
  refine List.forall_mem_cons.mpr ⟨(zo_callv_tl _ _ _ _), ?_⟩
  refine List.forall_mem_cons.mpr ⟨zo_none_tl, ?_⟩
  refine List.forall_mem_cons.mpr ⟨zo_none_tl, ?_⟩
  refine List.forall_mem_cons.mpr ⟨(zo_pushI_tl _ _), ?_⟩
  refine List.forall_mem_cons.mpr ⟨(zo_ii_tl _ _), ?_⟩
  refine List.forall_mem_cons.mpr ⟨(zo_istore_tl _ _), ?_⟩
  refine List.forall_mem_cons.mpr ⟨(zo_aload_tl _ _), ?_⟩
  refine List.forall_mem_cons.mpr ⟨(zo_aload_tl _ _), ?_⟩
  refine List.forall_mem_cons.mpr ⟨(zo_getf_tl _ _ _), ?_⟩
  refine List.forall_mem_cons.mpr ⟨zo_none_tl, ?_⟩
  refine List.forall_mem_cons.mpr ⟨zo_none_tl, ?_⟩
  refine List.forall_mem_cons.mpr ⟨(zo_pushI_tl _ _), ?_⟩
  refine List.forall_mem_cons.mpr ⟨zo_none_tl, ?_⟩
  refine List.forall_mem_cons.mpr ⟨(zo_callv_tl _ _ _ _), ?_⟩
  refine List.forall_mem_cons.mpr ⟨zo_none_tl, ?_⟩
  refine List.forall_mem_cons.mpr ⟨zo_none_tl, ?_⟩
  refine List.forall_mem_cons.mpr ⟨(zo_istore_tl _ _), ?_⟩
  refine List.forall_mem_cons.mpr ⟨zo_none_tl, ?_⟩
  refine List.forall_mem_cons.mpr ⟨(zo_aload_tl _ _), ?_⟩
  refine List.forall_mem_cons.mpr ⟨(zo_aload_tl _ _), ?_⟩
  refine List.forall_mem_cons.mpr ⟨(zo_getf_tl _ _ _), ?_⟩
  refine List.forall_mem_cons.mpr ⟨zo_none_tl, ?_⟩
  refine List.forall_mem_cons.mpr ⟨zo_none_tl, ?_⟩
  refine List.forall_mem_cons.mpr ⟨(zo_pushI_tl _ _), ?_⟩
  refine List.forall_mem_cons.mpr ⟨zo_none_tl, ?_⟩
  refine List.forall_mem_cons.mpr ⟨(zo_callv_tl _ _ _ _), ?_⟩
  refine List.forall_mem_cons.mpr ⟨zo_none_tl, ?_⟩
  refine List.forall_mem_cons.mpr ⟨zo_none_tl, ?_⟩
  refine List.forall_mem_cons.mpr ⟨(zo_if_tl _ _ _), ?_⟩
  refine List.forall_mem_cons.mpr ⟨zo_none_tl, ?_⟩
  refine List.forall_mem_cons.mpr ⟨zo_none_tl, ?_⟩
  refine List.forall_mem_cons.mpr ⟨(zo_aload_tl _ _), ?_⟩
  refine List.forall_mem_cons.mpr ⟨(zo_lload_tl _ _), ?_⟩
  refine List.forall_mem_cons.mpr ⟨(zo_pushI_tl _ _), ?_⟩
  refine List.forall_mem_cons.mpr ⟨zo_none_tl, ?_⟩
  refine List.forall_mem_cons.mpr ⟨(zo_pushI_tl _ _), ?_⟩
  refine List.forall_mem_cons.mpr ⟨(zo_callv_tl _ _ _ _), ?_⟩
  refine List.forall_mem_cons.mpr ⟨zo_none_tl, ?_⟩
  refine List.forall_mem_cons.mpr ⟨zo_none_tl, ?_⟩
  refine List.forall_mem_cons.mpr ⟨(zo_lstore_tl _ _), ?_⟩
  refine List.forall_mem_cons.mpr ⟨(zo_aload_tl _ _), ?_⟩
  refine List.forall_mem_cons.mpr ⟨(zo_aload_tl _ _), ?_⟩
  refine List.forall_mem_cons.mpr ⟨(zo_getf_tl _ _ _), ?_⟩
  refine List.forall_mem_cons.mpr ⟨zo_none_tl, ?_⟩
  refine List.forall_mem_cons.mpr ⟨zo_none_tl, ?_⟩
  refine List.forall_mem_cons.mpr ⟨(zo_aload_tl _ _), ?_⟩
  refine List.forall_mem_cons.mpr ⟨(zo_lload_tl _ _), ?_⟩
  refine List.forall_mem_cons.mpr ⟨(zo_pushI_tl _ _), ?_⟩
  refine List.forall_mem_cons.mpr ⟨zo_none_tl, ?_⟩
  refine List.forall_mem_cons.mpr ⟨(zo_callv_tl _ _ _ _), ?_⟩
  refine List.forall_mem_cons.mpr ⟨zo_none_tl, ?_⟩
  refine List.forall_mem_cons.mpr ⟨zo_none_tl, ?_⟩
  refine List.forall_mem_cons.mpr ⟨(zo_if_tl _ _ _), ?_⟩
  refine List.forall_mem_cons.mpr ⟨zo_none_tl, ?_⟩
  refine List.forall_mem_cons.mpr ⟨zo_none_tl, ?_⟩
  refine List.forall_mem_cons.mpr ⟨(zo_aload_tl _ _), ?_⟩
  refine List.forall_mem_cons.mpr ⟨(zo_lload_tl _ _), ?_⟩
  refine List.forall_mem_cons.mpr ⟨(zo_callv_tl _ _ _ _), ?_⟩
  refine List.forall_mem_cons.mpr ⟨zo_none_tl, ?_⟩
  refine List.forall_mem_cons.mpr ⟨zo_none_tl, ?_⟩
  refine List.forall_mem_cons.mpr ⟨(zo_goto_tl _), ?_⟩
  refine List.forall_mem_cons.mpr ⟨zo_none_tl, ?_⟩
  refine List.forall_mem_cons.mpr ⟨zo_none_tl, ?_⟩
  refine List.forall_mem_cons.mpr ⟨(zo_lload_tl _ _), ?_⟩
  refine List.forall_mem_cons.mpr ⟨(zo_aload_tl _ _), ?_⟩
  refine List.forall_mem_cons.mpr ⟨(zo_getf_tl _ _ _), ?_⟩
  refine List.forall_mem_cons.mpr ⟨zo_none_tl, ?_⟩
  refine List.forall_mem_cons.mpr ⟨zo_none_tl, ?_⟩
  refine List.forall_mem_cons.mpr ⟨(zo_aload_tl _ _), ?_⟩
  refine List.forall_mem_cons.mpr ⟨(zo_getf_tl _ _ _), ?_⟩
  refine List.forall_mem_cons.mpr ⟨zo_none_tl, ?_⟩
  refine List.forall_mem_cons.mpr ⟨zo_none_tl, ?_⟩
  refine List.forall_mem_cons.mpr ⟨(zo_lald_tl _ _), ?_⟩
  refine List.forall_mem_cons.mpr ⟨(zo_callv_tl _ _ _ _), ?_⟩
  refine List.forall_mem_cons.mpr ⟨zo_none_tl, ?_⟩
  refine List.forall_mem_cons.mpr ⟨zo_none_tl, ?_⟩
  refine List.forall_mem_cons.mpr ⟨(zo_iret_tl _), ?_⟩
  refine List.forall_mem_cons.mpr ⟨(zo_aload_tl _ _), ?_⟩
  refine List.forall_mem_cons.mpr ⟨(zo_iload_tl _ _), ?_⟩
  refine List.forall_mem_cons.mpr ⟨(zo_callv_tl _ _ _ _), ?_⟩
  refine List.forall_mem_cons.mpr ⟨zo_none_tl, ?_⟩
  refine List.forall_mem_cons.mpr ⟨zo_none_tl, ?_⟩
  refine List.forall_mem_cons.mpr ⟨(zo_if_tl _ _ _), ?_⟩
  refine List.forall_mem_cons.mpr ⟨zo_none_tl, ?_⟩
  refine List.forall_mem_cons.mpr ⟨zo_none_tl, ?_⟩
  refine List.forall_mem_cons.mpr ⟨(zo_aload_tl _ _), ?_⟩
  refine List.forall_mem_cons.mpr ⟨(zo_iload_tl _ _), ?_⟩
  refine List.forall_mem_cons.mpr ⟨(zo_pushI_tl _ _), ?_⟩
  refine List.forall_mem_cons.mpr ⟨zo_none_tl, ?_⟩
  refine List.forall_mem_cons.mpr ⟨(zo_callv_tl _ _ _ _), ?_⟩
  refine List.forall_mem_cons.mpr ⟨zo_none_tl, ?_⟩
  refine List.forall_mem_cons.mpr ⟨zo_none_tl, ?_⟩
  refine List.forall_mem_cons.mpr ⟨(zo_if_tl _ _ _), ?_⟩
  refine List.forall_mem_cons.mpr ⟨zo_none_tl, ?_⟩
  refine List.forall_mem_cons.mpr ⟨zo_none_tl, ?_⟩
  refine List.forall_mem_cons.mpr ⟨(zo_aload_tl _ _), ?_⟩
  refine List.forall_mem_cons.mpr ⟨(zo_iload_tl _ _), ?_⟩
  refine List.forall_mem_cons.mpr ⟨(zo_pushI_tl _ _), ?_⟩
  refine List.forall_mem_cons.mpr ⟨zo_none_tl, ?_⟩
  refine List.forall_mem_cons.mpr ⟨(zo_callv_tl _ _ _ _), ?_⟩
  refine List.forall_mem_cons.mpr ⟨zo_none_tl, ?_⟩
  refine List.forall_mem_cons.mpr ⟨zo_none_tl, ?_⟩
  refine List.forall_mem_cons.mpr ⟨(zo_pushI_tl _ _), ?_⟩
  refine List.forall_mem_cons.mpr ⟨(zo_icmp_tl _ _ _), ?_⟩
  refine List.forall_mem_cons.mpr ⟨zo_none_tl, ?_⟩
  refine List.forall_mem_cons.mpr ⟨zo_none_tl, ?_⟩
  refine List.forall_mem_cons.mpr ⟨(zo_pushI_tl _ _), ?_⟩
  refine List.forall_mem_cons.mpr ⟨(zo_goto_tl _), ?_⟩
  refine List.forall_mem_cons.mpr ⟨zo_none_tl, ?_⟩
  refine List.forall_mem_cons.mpr ⟨zo_none_tl, ?_⟩
  refine List.forall_mem_cons.mpr ⟨(zo_pushI_tl _ _), ?_⟩
  refine List.forall_mem_cons.mpr ⟨(zo_istore_tl _ _), ?_⟩
  refine List.forall_mem_cons.mpr ⟨zo_none_tl, ?_⟩
  refine List.forall_mem_cons.mpr ⟨(zo_iload_tl _ _), ?_⟩
  refine List.forall_mem_cons.mpr ⟨zo_none_tl, ?_⟩
  refine List.forall_mem_cons.mpr ⟨(zo_if_tl _ _ _), ?_⟩
  refine List.forall_mem_cons.mpr ⟨zo_none_tl, ?_⟩
  refine List.forall_mem_cons.mpr ⟨zo_none_tl, ?_⟩
  refine List.forall_mem_cons.mpr ⟨(zo_iload_tl _ _), ?_⟩
  refine List.forall_mem_cons.mpr ⟨zo_none_tl, ?_⟩
  refine List.forall_mem_cons.mpr ⟨(zo_pushI_tl _ _), ?_⟩
  refine List.forall_mem_cons.mpr ⟨(zo_icmp_tl _ _ _), ?_⟩
  refine List.forall_mem_cons.mpr ⟨zo_none_tl, ?_⟩
  refine List.forall_mem_cons.mpr ⟨zo_none_tl, ?_⟩
  refine List.forall_mem_cons.mpr ⟨(zo_aload_tl _ _), ?_⟩
  refine List.forall_mem_cons.mpr ⟨(zo_aload_tl _ _), ?_⟩
  refine List.forall_mem_cons.mpr ⟨(zo_getf_tl _ _ _), ?_⟩
  refine List.forall_mem_cons.mpr ⟨zo_none_tl, ?_⟩
  refine List.forall_mem_cons.mpr ⟨zo_none_tl, ?_⟩
  refine List.forall_mem_cons.mpr ⟨(zo_aload_tl _ _), ?_⟩
  refine List.forall_mem_cons.mpr ⟨(zo_lload_tl _ _), ?_⟩
  refine List.forall_mem_cons.mpr ⟨(zo_pushI_tl _ _), ?_⟩
  refine List.forall_mem_cons.mpr ⟨zo_none_tl, ?_⟩
  refine List.forall_mem_cons.mpr ⟨(zo_pushI_tl _ _), ?_⟩
  refine List.forall_mem_cons.mpr ⟨(zo_callv_tl _ _ _ _), ?_⟩
  refine List.forall_mem_cons.mpr ⟨zo_none_tl, ?_⟩
  refine List.forall_mem_cons.mpr ⟨zo_none_tl, ?_⟩
  refine List.forall_mem_cons.mpr ⟨(zo_aload_tl _ _), ?_⟩
  refine List.forall_mem_cons.mpr ⟨(zo_getf_tl _ _ _), ?_⟩
  refine List.forall_mem_cons.mpr ⟨zo_none_tl, ?_⟩
  refine List.forall_mem_cons.mpr ⟨zo_none_tl, ?_⟩
  refine List.forall_mem_cons.mpr ⟨(zo_aload_tl _ _), ?_⟩
  refine List.forall_mem_cons.mpr ⟨(zo_getf_tl _ _ _), ?_⟩
  refine List.forall_mem_cons.mpr ⟨zo_none_tl, ?_⟩
  refine List.forall_mem_cons.mpr ⟨zo_none_tl, ?_⟩
  refine List.forall_mem_cons.mpr ⟨(zo_lald_tl _ _), ?_⟩
  refine List.forall_mem_cons.mpr ⟨(zo_callv_tl _ _ _ _), ?_⟩
  refine List.forall_mem_cons.mpr ⟨zo_none_tl, ?_⟩
  refine List.forall_mem_cons.mpr ⟨zo_none_tl, ?_⟩
  refine List.forall_mem_cons.mpr ⟨(zo_iret_tl _), ?_⟩
  refine List.forall_mem_cons.mpr ⟨(zo_iload_tl _ _), ?_⟩
  refine List.forall_mem_cons.mpr ⟨zo_none_tl, ?_⟩
  refine List.forall_mem_cons.mpr ⟨(zo_if_tl _ _ _), ?_⟩
  refine List.forall_mem_cons.mpr ⟨zo_none_tl, ?_⟩
  refine List.forall_mem_cons.mpr ⟨zo_none_tl, ?_⟩
  refine List.forall_mem_cons.mpr ⟨(zo_pushI_tl _ _), ?_⟩
  refine List.forall_mem_cons.mpr ⟨(zo_iret_tl _), ?_⟩
  refine List.forall_mem_cons.mpr ⟨(zo_aload_tl _ _), ?_⟩
  refine List.forall_mem_cons.mpr ⟨(zo_iload_tl _ _), ?_⟩
  refine List.forall_mem_cons.mpr ⟨(zo_pushI_tl _ _), ?_⟩
  refine List.forall_mem_cons.mpr ⟨zo_none_tl, ?_⟩
  refine List.forall_mem_cons.mpr ⟨(zo_callv_tl _ _ _ _), ?_⟩
  refine List.forall_mem_cons.mpr ⟨zo_none_tl, ?_⟩
  refine List.forall_mem_cons.mpr ⟨zo_none_tl, ?_⟩
  refine List.forall_mem_cons.mpr ⟨(zo_aload_tl _ _), ?_⟩
  refine List.forall_mem_cons.mpr ⟨(zo_aload_tl _ _), ?_⟩
  refine List.forall_mem_cons.mpr ⟨(zo_getf_tl _ _ _), ?_⟩
  refine List.forall_mem_cons.mpr ⟨zo_none_tl, ?_⟩
  refine List.forall_mem_cons.mpr ⟨zo_none_tl, ?_⟩
  refine List.forall_mem_cons.mpr ⟨(zo_pushI_tl _ _), ?_⟩
  refine List.forall_mem_cons.mpr ⟨(zo_callv_tl _ _ _ _), ?_⟩
  refine List.forall_mem_cons.mpr ⟨zo_none_tl, ?_⟩
  refine List.forall_mem_cons.mpr ⟨zo_none_tl, ?_⟩
  refine List.forall_mem_cons.mpr ⟨(zo_calls_tl _ _ _), ?_⟩
  refine List.forall_mem_cons.mpr ⟨zo_none_tl, ?_⟩
  refine List.forall_mem_cons.mpr ⟨zo_none_tl, ?_⟩
  refine List.forall_mem_cons.mpr ⟨(zo_aload_tl _ _), ?_⟩
  refine List.forall_mem_cons.mpr ⟨(zo_iload_tl _ _), ?_⟩
  refine List.forall_mem_cons.mpr ⟨(zo_pushI_tl _ _), ?_⟩
  refine List.forall_mem_cons.mpr ⟨(zo_callv_tl _ _ _ _), ?_⟩
  refine List.forall_mem_cons.mpr ⟨zo_none_tl, ?_⟩
  refine List.forall_mem_cons.mpr ⟨zo_none_tl, ?_⟩
  refine List.forall_mem_cons.mpr ⟨(zo_ii_tl _ _), ?_⟩
  refine List.forall_mem_cons.mpr ⟨(zo_icmp_tl _ _ _), ?_⟩
  refine List.forall_mem_cons.mpr ⟨zo_none_tl, ?_⟩
  refine List.forall_mem_cons.mpr ⟨zo_none_tl, ?_⟩
  refine List.forall_mem_cons.mpr ⟨(zo_pushI_tl _ _), ?_⟩
  refine List.forall_mem_cons.mpr ⟨(zo_goto_tl _), ?_⟩
  refine List.forall_mem_cons.mpr ⟨zo_none_tl, ?_⟩
  refine List.forall_mem_cons.mpr ⟨zo_none_tl, ?_⟩
  refine List.forall_mem_cons.mpr ⟨(zo_pushI_tl _ _), ?_⟩
  refine List.forall_mem_cons.mpr ⟨(zo_istore_tl _ _), ?_⟩
  refine List.forall_mem_cons.mpr ⟨zo_none_tl, ?_⟩
  refine List.forall_mem_cons.mpr ⟨(zo_aload_tl _ _), ?_⟩
  refine List.forall_mem_cons.mpr ⟨(zo_aload_tl _ _), ?_⟩
  refine List.forall_mem_cons.mpr ⟨(zo_getf_tl _ _ _), ?_⟩
  refine List.forall_mem_cons.mpr ⟨zo_none_tl, ?_⟩
  refine List.forall_mem_cons.mpr ⟨zo_none_tl, ?_⟩
  refine List.forall_mem_cons.mpr ⟨(zo_aload_tl _ _), ?_⟩
  refine List.forall_mem_cons.mpr ⟨(zo_lload_tl _ _), ?_⟩
  refine List.forall_mem_cons.mpr ⟨(zo_pushI_tl _ _), ?_⟩
  refine List.forall_mem_cons.mpr ⟨zo_none_tl, ?_⟩
  refine List.forall_mem_cons.mpr ⟨(zo_iload_tl _ _), ?_⟩
  refine List.forall_mem_cons.mpr ⟨zo_none_tl, ?_⟩
  refine List.forall_mem_cons.mpr ⟨(zo_if_tl _ _ _), ?_⟩
  refine List.forall_mem_cons.mpr ⟨zo_none_tl, ?_⟩
  refine List.forall_mem_cons.mpr ⟨zo_none_tl, ?_⟩
  refine List.forall_mem_cons.mpr ⟨(zo_pushI_tl _ _), ?_⟩
  refine List.forall_mem_cons.mpr ⟨(zo_goto_tl _), ?_⟩
  refine List.forall_mem_cons.mpr ⟨zo_none_tl, ?_⟩
  refine List.forall_mem_cons.mpr ⟨zo_none_tl, ?_⟩
  refine List.forall_mem_cons.mpr ⟨(zo_pushI_tl _ _), ?_⟩
  refine List.forall_mem_cons.mpr ⟨(zo_callv_tl _ _ _ _), ?_⟩
  refine List.forall_mem_cons.mpr ⟨zo_none_tl, ?_⟩
  refine List.forall_mem_cons.mpr ⟨zo_none_tl, ?_⟩
  refine List.forall_mem_cons.mpr ⟨(zo_aload_tl _ _), ?_⟩
  refine List.forall_mem_cons.mpr ⟨(zo_getf_tl _ _ _), ?_⟩
  refine List.forall_mem_cons.mpr ⟨zo_none_tl, ?_⟩
  refine List.forall_mem_cons.mpr ⟨zo_none_tl, ?_⟩
  refine List.forall_mem_cons.mpr ⟨(zo_aload_tl _ _), ?_⟩
  refine List.forall_mem_cons.mpr ⟨(zo_getf_tl _ _ _), ?_⟩
  refine List.forall_mem_cons.mpr ⟨zo_none_tl, ?_⟩
  refine List.forall_mem_cons.mpr ⟨zo_none_tl, ?_⟩
  refine List.forall_mem_cons.mpr ⟨(zo_lald_tl _ _), ?_⟩
  refine List.forall_mem_cons.mpr ⟨(zo_callv_tl _ _ _ _), ?_⟩
  refine List.forall_mem_cons.mpr ⟨zo_none_tl, ?_⟩
  refine List.forall_mem_cons.mpr ⟨zo_none_tl, ?_⟩
  refine List.forall_mem_cons.mpr ⟨(zo_iret_tl _), ?_⟩
  exact fun _ h => absurd h List.not_mem_nil
noncomputable def fX12_runs : zzFn := zz_fn tX12_runs 7
noncomputable def tX12_owned : List zzOp := [
  zo_pushI 0 1,
  zo_istore 1 2,
  zo_pushI 0 3,
  zo_istore 2 4,
  zo_iload 2 5,
  zo_aload 0 6,
  zo_getf zzSR (zz_kf [10] 5) 9,
  zo_none,
  zo_none,
  zo_icmp (fun x y => decide (y ≤ x)) 50 12,
  zo_none,
  zo_none,
  zo_iload 1 13,
  zo_aload 0 14,
  zo_iload 2 15,
  zo_callv zzSR (zz_cl [(10, fX12_isGoneThere)]) 1 18,
  zo_none,
  zo_none,
  zo_if (fun x => decide (¬ x = 0)) 41 21,
  zo_none,
  zo_none,
  zo_aload 0 22,
  zo_aload 0 23,
  zo_iload 2 24,
  zo_callv zzSR (zz_cl [(10, fX12_view)]) 1 27,
  zo_none,
  zo_none,
  zo_callv zzSR (zz_cl [(10, fX12_ownerIn)]) 1 30,
  zo_none,
  zo_none,
  zo_aload 0 31,
  zo_getf zzSR (zz_kf [10] 43) 34,
  zo_none,
  zo_none,
  zo_icmp (fun x y => decide (¬ x = y)) 41 37,
  zo_none,
  zo_none,
  zo_pushI 1 38,
  zo_goto 42,
  zo_none,
  zo_none,
  zo_pushI 0 42,
  zo_ii (fun x y => x + y) 43,
  zo_istore 1 44,
  zo_iinc 2 1 47,
  zo_none,
  zo_none,
  zo_goto 4,
  zo_none,
  zo_none,
  zo_iload 1 51,
  zo_iret false]
set_option maxRecDepth 100000 in
theorem tl_X12_owned : ∀ pc, zz_Tl (tX12_owned.getD pc zo_none) := by
  refine zz_Tl_mem ?_
  unfold tX12_owned
  refine List.forall_mem_cons.mpr ⟨(zo_pushI_tl _ _), ?_⟩
  refine List.forall_mem_cons.mpr ⟨(zo_istore_tl _ _), ?_⟩
  refine List.forall_mem_cons.mpr ⟨(zo_pushI_tl _ _), ?_⟩
  refine List.forall_mem_cons.mpr ⟨(zo_istore_tl _ _), ?_⟩
  refine List.forall_mem_cons.mpr ⟨(zo_iload_tl _ _), ?_⟩
  refine List.forall_mem_cons.mpr ⟨(zo_aload_tl _ _), ?_⟩
  refine List.forall_mem_cons.mpr ⟨(zo_getf_tl _ _ _), ?_⟩
  refine List.forall_mem_cons.mpr ⟨zo_none_tl, ?_⟩
  refine List.forall_mem_cons.mpr ⟨zo_none_tl, ?_⟩
  refine List.forall_mem_cons.mpr ⟨(zo_icmp_tl _ _ _), ?_⟩
  refine List.forall_mem_cons.mpr ⟨zo_none_tl, ?_⟩
  refine List.forall_mem_cons.mpr ⟨zo_none_tl, ?_⟩
  refine List.forall_mem_cons.mpr ⟨(zo_iload_tl _ _), ?_⟩
  refine List.forall_mem_cons.mpr ⟨(zo_aload_tl _ _), ?_⟩
  refine List.forall_mem_cons.mpr ⟨(zo_iload_tl _ _), ?_⟩
  refine List.forall_mem_cons.mpr ⟨(zo_callv_tl _ _ _ _), ?_⟩
  refine List.forall_mem_cons.mpr ⟨zo_none_tl, ?_⟩
  refine List.forall_mem_cons.mpr ⟨zo_none_tl, ?_⟩
  refine List.forall_mem_cons.mpr ⟨(zo_if_tl _ _ _), ?_⟩
  refine List.forall_mem_cons.mpr ⟨zo_none_tl, ?_⟩
  refine List.forall_mem_cons.mpr ⟨zo_none_tl, ?_⟩
  refine List.forall_mem_cons.mpr ⟨(zo_aload_tl _ _), ?_⟩
  refine List.forall_mem_cons.mpr ⟨(zo_aload_tl _ _), ?_⟩
  refine List.forall_mem_cons.mpr ⟨(zo_iload_tl _ _), ?_⟩
  refine List.forall_mem_cons.mpr ⟨(zo_callv_tl _ _ _ _), ?_⟩
  refine List.forall_mem_cons.mpr ⟨zo_none_tl, ?_⟩
  refine List.forall_mem_cons.mpr ⟨zo_none_tl, ?_⟩
  refine List.forall_mem_cons.mpr ⟨(zo_callv_tl _ _ _ _), ?_⟩
  refine List.forall_mem_cons.mpr ⟨zo_none_tl, ?_⟩
  refine List.forall_mem_cons.mpr ⟨zo_none_tl, ?_⟩
  refine List.forall_mem_cons.mpr ⟨(zo_aload_tl _ _), ?_⟩
  refine List.forall_mem_cons.mpr ⟨(zo_getf_tl _ _ _), ?_⟩
  refine List.forall_mem_cons.mpr ⟨zo_none_tl, ?_⟩
  refine List.forall_mem_cons.mpr ⟨zo_none_tl, ?_⟩
  refine List.forall_mem_cons.mpr ⟨(zo_icmp_tl _ _ _), ?_⟩
  refine List.forall_mem_cons.mpr ⟨zo_none_tl, ?_⟩
  refine List.forall_mem_cons.mpr ⟨zo_none_tl, ?_⟩
  refine List.forall_mem_cons.mpr ⟨(zo_pushI_tl _ _), ?_⟩
  refine List.forall_mem_cons.mpr ⟨(zo_goto_tl _), ?_⟩
  refine List.forall_mem_cons.mpr ⟨zo_none_tl, ?_⟩
  refine List.forall_mem_cons.mpr ⟨zo_none_tl, ?_⟩
  refine List.forall_mem_cons.mpr ⟨(zo_pushI_tl _ _), ?_⟩
  refine List.forall_mem_cons.mpr ⟨(zo_ii_tl _ _), ?_⟩
  refine List.forall_mem_cons.mpr ⟨(zo_istore_tl _ _), ?_⟩
  refine List.forall_mem_cons.mpr ⟨(zo_iinc_tl _ _ _), ?_⟩
  refine List.forall_mem_cons.mpr ⟨zo_none_tl, ?_⟩
  refine List.forall_mem_cons.mpr ⟨zo_none_tl, ?_⟩
  refine List.forall_mem_cons.mpr ⟨(zo_goto_tl _), ?_⟩
  refine List.forall_mem_cons.mpr ⟨zo_none_tl, ?_⟩
  refine List.forall_mem_cons.mpr ⟨zo_none_tl, ?_⟩
  refine List.forall_mem_cons.mpr ⟨(zo_iload_tl _ _), ?_⟩
  refine List.forall_mem_cons.mpr ⟨(zo_iret_tl _), ?_⟩
  exact fun _ h => absurd h List.not_mem_nil
noncomputable def fX12_owned : zzFn := zz_fn tX12_owned 3
noncomputable def tX12_passesOn : List zzOp := [
  zo_pushI 1 1,
  zo_istore 2 2,
  zo_pushI 0 3,
  zo_istore 3 4,
  zo_iload 3 5,
  zo_aload 0 6,
  zo_getf zzSR (zz_kf [10] 5) 9,
  zo_none,
  zo_none,
  zo_icmp (fun x y => decide (y ≤ x)) 143 12,
  zo_none,
  zo_none,
  zo_iload 2 13,
  zo_if (fun x => decide (x = 0)) 143 16,
  zo_none,
  zo_none,
  zo_aload 0 17,
  zo_iload 3 18,
  zo_callv zzSR (zz_cl [(10, fX12_isGoneThere)]) 1 21,
  zo_none,
  zo_none,
  zo_if (fun x => decide (¬ x = 0)) 44 24,
  zo_none,
  zo_none,
  zo_aload 0 25,
  zo_aload 0 26,
  zo_iload 3 27,
  zo_callv zzSR (zz_cl [(10, fX12_view)]) 1 30,
  zo_none,
  zo_none,
  zo_callv zzSR (zz_cl [(10, fX12_ownerIn)]) 1 33,
  zo_none,
  zo_none,
  zo_aload 0 34,
  zo_getf zzSR (zz_kf [10] 43) 37,
  zo_none,
  zo_none,
  zo_icmp (fun x y => decide (¬ x = y)) 44 40,
  zo_none,
  zo_none,
  zo_pushI 1 41,
  zo_goto 45,
  zo_none,
  zo_none,
  zo_pushI 0 45,
  zo_istore 4 47,
  zo_none,
  zo_iload 4 49,
  zo_none,
  zo_if (fun x => decide (x = 0)) 71 52,
  zo_none,
  zo_none,
  zo_iload 1 53,
  zo_pushI 3 54,
  zo_icmp (fun x y => decide (x = y)) 67 57,
  zo_none,
  zo_none,
  zo_aload 0 58,
  zo_iload 3 59,
  zo_pushI 13 61,
  zo_none,
  zo_callv zzSR (zz_cl [(10, fX12_viewed)]) 2 64,
  zo_none,
  zo_none,
  zo_if (fun x => decide (¬ x = 0)) 71 67,
  zo_none,
  zo_none,
  zo_pushI 1 68,
  zo_goto 72,
  zo_none,
  zo_none,
  zo_pushI 0 72,
  zo_istore 5 74,
  zo_none,
  zo_iload 1 75,
  zo_pushI 3 76,
  zo_icmp (fun x y => decide (¬ x = y)) 95 79,
  zo_none,
  zo_none,
  zo_aload 0 80,
  zo_aload 0 81,
  zo_getf zzSR (zz_kf [10] 7) 84,
  zo_none,
  zo_none,
  zo_iload 3 85,
  zo_lald zzSR 86,
  zo_pushI 11 88,
  zo_none,
  zo_pushI 0 89,
  zo_callv zzSR (zz_cl [(10, fX12_with)]) 3 92,
  zo_none,
  zo_none,
  zo_goto 108,
  zo_none,
  zo_none,
  zo_aload 0 96,
  zo_aload 0 97,
  zo_getf zzSR (zz_kf [10] 7) 100,
  zo_none,
  zo_none,
  zo_iload 3 101,
  zo_lald zzSR 102,
  zo_pushI 13 104,
  zo_none,
  zo_pushI 1 105,
  zo_callv zzSR (zz_cl [(10, fX12_with)]) 3 108,
  zo_none,
  zo_none,
  zo_lstore 6 110,
  zo_none,
  zo_iload 5 112,
  zo_none,
  zo_if (fun x => decide (x = 0)) 131 115,
  zo_none,
  zo_none,
  zo_aload 0 116,
  zo_iload 3 117,
  zo_lload 6 119,
  zo_none,
  zo_aload 0 120,
  zo_getf zzSR (zz_kf [10] 8) 123,
  zo_none,
  zo_none,
  zo_iload 3 124,
  zo_lald zzSR 125,
  zo_callv zzSR (zz_cl [(10, fX12_writesIt)]) 3 128,
  zo_none,
  zo_none,
  zo_if (fun x => decide (x = 0)) 135 131,
  zo_none,
  zo_none,
  zo_pushI 1 132,
  zo_goto 136,
  zo_none,
  zo_none,
  zo_pushI 0 136,
  zo_istore 2 137,
  zo_iinc 3 1 140,
  zo_none,
  zo_none,
  zo_goto 4,
  zo_none,
  zo_none,
  zo_iload 2 144,
  zo_iret true]
set_option maxRecDepth 100000 in
theorem tl_X12_passesOn : ∀ pc, zz_Tl (tX12_passesOn.getD pc zo_none) := by
  refine zz_Tl_mem ?_
  unfold tX12_passesOn
  refine List.forall_mem_cons.mpr ⟨(zo_pushI_tl _ _), ?_⟩
  refine List.forall_mem_cons.mpr ⟨(zo_istore_tl _ _), ?_⟩
  refine List.forall_mem_cons.mpr ⟨(zo_pushI_tl _ _), ?_⟩
  refine List.forall_mem_cons.mpr ⟨(zo_istore_tl _ _), ?_⟩
  refine List.forall_mem_cons.mpr ⟨(zo_iload_tl _ _), ?_⟩
  refine List.forall_mem_cons.mpr ⟨(zo_aload_tl _ _), ?_⟩
  refine List.forall_mem_cons.mpr ⟨(zo_getf_tl _ _ _), ?_⟩
  refine List.forall_mem_cons.mpr ⟨zo_none_tl, ?_⟩
  refine List.forall_mem_cons.mpr ⟨zo_none_tl, ?_⟩
  refine List.forall_mem_cons.mpr ⟨(zo_icmp_tl _ _ _), ?_⟩
  refine List.forall_mem_cons.mpr ⟨zo_none_tl, ?_⟩
  refine List.forall_mem_cons.mpr ⟨zo_none_tl, ?_⟩
  refine List.forall_mem_cons.mpr ⟨(zo_iload_tl _ _), ?_⟩
  refine List.forall_mem_cons.mpr ⟨(zo_if_tl _ _ _), ?_⟩
  refine List.forall_mem_cons.mpr ⟨zo_none_tl, ?_⟩
  refine List.forall_mem_cons.mpr ⟨zo_none_tl, ?_⟩
  refine List.forall_mem_cons.mpr ⟨(zo_aload_tl _ _), ?_⟩
  refine List.forall_mem_cons.mpr ⟨(zo_iload_tl _ _), ?_⟩
  refine List.forall_mem_cons.mpr ⟨(zo_callv_tl _ _ _ _), ?_⟩
  refine List.forall_mem_cons.mpr ⟨zo_none_tl, ?_⟩
  refine List.forall_mem_cons.mpr ⟨zo_none_tl, ?_⟩
  refine List.forall_mem_cons.mpr ⟨(zo_if_tl _ _ _), ?_⟩
  refine List.forall_mem_cons.mpr ⟨zo_none_tl, ?_⟩
  refine List.forall_mem_cons.mpr ⟨zo_none_tl, ?_⟩
  refine List.forall_mem_cons.mpr ⟨(zo_aload_tl _ _), ?_⟩
  refine List.forall_mem_cons.mpr ⟨(zo_aload_tl _ _), ?_⟩
  refine List.forall_mem_cons.mpr ⟨(zo_iload_tl _ _), ?_⟩
  refine List.forall_mem_cons.mpr ⟨(zo_callv_tl _ _ _ _), ?_⟩
  refine List.forall_mem_cons.mpr ⟨zo_none_tl, ?_⟩
  refine List.forall_mem_cons.mpr ⟨zo_none_tl, ?_⟩
  refine List.forall_mem_cons.mpr ⟨(zo_callv_tl _ _ _ _), ?_⟩
  refine List.forall_mem_cons.mpr ⟨zo_none_tl, ?_⟩
  refine List.forall_mem_cons.mpr ⟨zo_none_tl, ?_⟩
  refine List.forall_mem_cons.mpr ⟨(zo_aload_tl _ _), ?_⟩
  refine List.forall_mem_cons.mpr ⟨(zo_getf_tl _ _ _), ?_⟩
  refine List.forall_mem_cons.mpr ⟨zo_none_tl, ?_⟩
  refine List.forall_mem_cons.mpr ⟨zo_none_tl, ?_⟩
  refine List.forall_mem_cons.mpr ⟨(zo_icmp_tl _ _ _), ?_⟩
  refine List.forall_mem_cons.mpr ⟨zo_none_tl, ?_⟩
  refine List.forall_mem_cons.mpr ⟨zo_none_tl, ?_⟩
  refine List.forall_mem_cons.mpr ⟨(zo_pushI_tl _ _), ?_⟩
  refine List.forall_mem_cons.mpr ⟨(zo_goto_tl _), ?_⟩
  refine List.forall_mem_cons.mpr ⟨zo_none_tl, ?_⟩
  refine List.forall_mem_cons.mpr ⟨zo_none_tl, ?_⟩
  refine List.forall_mem_cons.mpr ⟨(zo_pushI_tl _ _), ?_⟩
  refine List.forall_mem_cons.mpr ⟨(zo_istore_tl _ _), ?_⟩
  refine List.forall_mem_cons.mpr ⟨zo_none_tl, ?_⟩
  refine List.forall_mem_cons.mpr ⟨(zo_iload_tl _ _), ?_⟩
  refine List.forall_mem_cons.mpr ⟨zo_none_tl, ?_⟩
  refine List.forall_mem_cons.mpr ⟨(zo_if_tl _ _ _), ?_⟩
  refine List.forall_mem_cons.mpr ⟨zo_none_tl, ?_⟩
  refine List.forall_mem_cons.mpr ⟨zo_none_tl, ?_⟩
  refine List.forall_mem_cons.mpr ⟨(zo_iload_tl _ _), ?_⟩
  refine List.forall_mem_cons.mpr ⟨(zo_pushI_tl _ _), ?_⟩
  refine List.forall_mem_cons.mpr ⟨(zo_icmp_tl _ _ _), ?_⟩
  refine List.forall_mem_cons.mpr ⟨zo_none_tl, ?_⟩
  refine List.forall_mem_cons.mpr ⟨zo_none_tl, ?_⟩
  refine List.forall_mem_cons.mpr ⟨(zo_aload_tl _ _), ?_⟩
  refine List.forall_mem_cons.mpr ⟨(zo_iload_tl _ _), ?_⟩
  refine List.forall_mem_cons.mpr ⟨(zo_pushI_tl _ _), ?_⟩
  refine List.forall_mem_cons.mpr ⟨zo_none_tl, ?_⟩
  refine List.forall_mem_cons.mpr ⟨(zo_callv_tl _ _ _ _), ?_⟩
  refine List.forall_mem_cons.mpr ⟨zo_none_tl, ?_⟩
  refine List.forall_mem_cons.mpr ⟨zo_none_tl, ?_⟩
  refine List.forall_mem_cons.mpr ⟨(zo_if_tl _ _ _), ?_⟩
  refine List.forall_mem_cons.mpr ⟨zo_none_tl, ?_⟩
  refine List.forall_mem_cons.mpr ⟨zo_none_tl, ?_⟩
  refine List.forall_mem_cons.mpr ⟨(zo_pushI_tl _ _), ?_⟩
  refine List.forall_mem_cons.mpr ⟨(zo_goto_tl _), ?_⟩
  refine List.forall_mem_cons.mpr ⟨zo_none_tl, ?_⟩
  refine List.forall_mem_cons.mpr ⟨zo_none_tl, ?_⟩
  refine List.forall_mem_cons.mpr ⟨(zo_pushI_tl _ _), ?_⟩
  refine List.forall_mem_cons.mpr ⟨(zo_istore_tl _ _), ?_⟩
  refine List.forall_mem_cons.mpr ⟨zo_none_tl, ?_⟩
  refine List.forall_mem_cons.mpr ⟨(zo_iload_tl _ _), ?_⟩
  refine List.forall_mem_cons.mpr ⟨(zo_pushI_tl _ _), ?_⟩
  refine List.forall_mem_cons.mpr ⟨(zo_icmp_tl _ _ _), ?_⟩
  refine List.forall_mem_cons.mpr ⟨zo_none_tl, ?_⟩
  refine List.forall_mem_cons.mpr ⟨zo_none_tl, ?_⟩
  refine List.forall_mem_cons.mpr ⟨(zo_aload_tl _ _), ?_⟩
  refine List.forall_mem_cons.mpr ⟨(zo_aload_tl _ _), ?_⟩
  refine List.forall_mem_cons.mpr ⟨(zo_getf_tl _ _ _), ?_⟩
  refine List.forall_mem_cons.mpr ⟨zo_none_tl, ?_⟩
  refine List.forall_mem_cons.mpr ⟨zo_none_tl, ?_⟩
  refine List.forall_mem_cons.mpr ⟨(zo_iload_tl _ _), ?_⟩
  refine List.forall_mem_cons.mpr ⟨(zo_lald_tl _ _), ?_⟩
  refine List.forall_mem_cons.mpr ⟨(zo_pushI_tl _ _), ?_⟩
  refine List.forall_mem_cons.mpr ⟨zo_none_tl, ?_⟩
  refine List.forall_mem_cons.mpr ⟨(zo_pushI_tl _ _), ?_⟩
  refine List.forall_mem_cons.mpr ⟨(zo_callv_tl _ _ _ _), ?_⟩
  refine List.forall_mem_cons.mpr ⟨zo_none_tl, ?_⟩
  refine List.forall_mem_cons.mpr ⟨zo_none_tl, ?_⟩
  refine List.forall_mem_cons.mpr ⟨(zo_goto_tl _), ?_⟩
  refine List.forall_mem_cons.mpr ⟨zo_none_tl, ?_⟩
  refine List.forall_mem_cons.mpr ⟨zo_none_tl, ?_⟩
  refine List.forall_mem_cons.mpr ⟨(zo_aload_tl _ _), ?_⟩
  refine List.forall_mem_cons.mpr ⟨(zo_aload_tl _ _), ?_⟩
  refine List.forall_mem_cons.mpr ⟨(zo_getf_tl _ _ _), ?_⟩
  refine List.forall_mem_cons.mpr ⟨zo_none_tl, ?_⟩
  refine List.forall_mem_cons.mpr ⟨zo_none_tl, ?_⟩
  refine List.forall_mem_cons.mpr ⟨(zo_iload_tl _ _), ?_⟩
  refine List.forall_mem_cons.mpr ⟨(zo_lald_tl _ _), ?_⟩
  refine List.forall_mem_cons.mpr ⟨(zo_pushI_tl _ _), ?_⟩
  refine List.forall_mem_cons.mpr ⟨zo_none_tl, ?_⟩
  refine List.forall_mem_cons.mpr ⟨(zo_pushI_tl _ _), ?_⟩
  refine List.forall_mem_cons.mpr ⟨(zo_callv_tl _ _ _ _), ?_⟩
  refine List.forall_mem_cons.mpr ⟨zo_none_tl, ?_⟩
  refine List.forall_mem_cons.mpr ⟨zo_none_tl, ?_⟩
  refine List.forall_mem_cons.mpr ⟨(zo_lstore_tl _ _), ?_⟩
  refine List.forall_mem_cons.mpr ⟨zo_none_tl, ?_⟩
  refine List.forall_mem_cons.mpr ⟨(zo_iload_tl _ _), ?_⟩
  refine List.forall_mem_cons.mpr ⟨zo_none_tl, ?_⟩
  refine List.forall_mem_cons.mpr ⟨(zo_if_tl _ _ _), ?_⟩
  refine List.forall_mem_cons.mpr ⟨zo_none_tl, ?_⟩
  refine List.forall_mem_cons.mpr ⟨zo_none_tl, ?_⟩
  refine List.forall_mem_cons.mpr ⟨(zo_aload_tl _ _), ?_⟩
  refine List.forall_mem_cons.mpr ⟨(zo_iload_tl _ _), ?_⟩
  refine List.forall_mem_cons.mpr ⟨(zo_lload_tl _ _), ?_⟩
  refine List.forall_mem_cons.mpr ⟨zo_none_tl, ?_⟩
  refine List.forall_mem_cons.mpr ⟨(zo_aload_tl _ _), ?_⟩
  refine List.forall_mem_cons.mpr ⟨(zo_getf_tl _ _ _), ?_⟩
  refine List.forall_mem_cons.mpr ⟨zo_none_tl, ?_⟩
  refine List.forall_mem_cons.mpr ⟨zo_none_tl, ?_⟩
  refine List.forall_mem_cons.mpr ⟨(zo_iload_tl _ _), ?_⟩
  refine List.forall_mem_cons.mpr ⟨(zo_lald_tl _ _), ?_⟩
  refine List.forall_mem_cons.mpr ⟨(zo_callv_tl _ _ _ _), ?_⟩
  refine List.forall_mem_cons.mpr ⟨zo_none_tl, ?_⟩
  refine List.forall_mem_cons.mpr ⟨zo_none_tl, ?_⟩
  refine List.forall_mem_cons.mpr ⟨(zo_if_tl _ _ _), ?_⟩
  refine List.forall_mem_cons.mpr ⟨zo_none_tl, ?_⟩
  refine List.forall_mem_cons.mpr ⟨zo_none_tl, ?_⟩
  refine List.forall_mem_cons.mpr ⟨(zo_pushI_tl _ _), ?_⟩
  refine List.forall_mem_cons.mpr ⟨(zo_goto_tl _), ?_⟩
  refine List.forall_mem_cons.mpr ⟨zo_none_tl, ?_⟩
  refine List.forall_mem_cons.mpr ⟨zo_none_tl, ?_⟩
  refine List.forall_mem_cons.mpr ⟨(zo_pushI_tl _ _), ?_⟩
  refine List.forall_mem_cons.mpr ⟨(zo_istore_tl _ _), ?_⟩
  refine List.forall_mem_cons.mpr ⟨(zo_iinc_tl _ _ _), ?_⟩
  refine List.forall_mem_cons.mpr ⟨zo_none_tl, ?_⟩
  refine List.forall_mem_cons.mpr ⟨zo_none_tl, ?_⟩
  refine List.forall_mem_cons.mpr ⟨(zo_goto_tl _), ?_⟩
  refine List.forall_mem_cons.mpr ⟨zo_none_tl, ?_⟩
  refine List.forall_mem_cons.mpr ⟨zo_none_tl, ?_⟩
  refine List.forall_mem_cons.mpr ⟨(zo_iload_tl _ _), ?_⟩
  refine List.forall_mem_cons.mpr ⟨(zo_iret_tl _), ?_⟩
  exact fun _ h => absurd h List.not_mem_nil
noncomputable def fX12_passesOn : zzFn := zz_fn tX12_passesOn 8
end

section
noncomputable def tX12_seen : List zzOp := [
  zo_aload 0 1,
  zo_iload 1 2,
  zo_callv zzSR (zz_cl [(10, fX12_asks)]) 1 5,
  zo_none,
  zo_none,
  zo_if (fun x => decide (x = 0)) 17 8,
  zo_none,
  zo_none,
  zo_aload 0 9,
  zo_getf zzSR (zz_kf [10] 32) 12,
  zo_none,
  zo_none,
  zo_iload 1 13,
  zo_iald zzSR zzSTR 14,
  zo_goto 18,
  zo_none,
  zo_none,
  zo_pushI 0 18,
  zo_iret false]
set_option maxRecDepth 100000 in
theorem tl_X12_seen : ∀ pc, zz_Tl (tX12_seen.getD pc zo_none) := by
  refine zz_Tl_mem ?_
  unfold tX12_seen
  refine List.forall_mem_cons.mpr ⟨(zo_aload_tl _ _), ?_⟩
  refine List.forall_mem_cons.mpr ⟨(zo_iload_tl _ _), ?_⟩
  refine List.forall_mem_cons.mpr ⟨(zo_callv_tl _ _ _ _), ?_⟩
  refine List.forall_mem_cons.mpr ⟨zo_none_tl, ?_⟩
  refine List.forall_mem_cons.mpr ⟨zo_none_tl, ?_⟩
  refine List.forall_mem_cons.mpr ⟨(zo_if_tl _ _ _), ?_⟩
  refine List.forall_mem_cons.mpr ⟨zo_none_tl, ?_⟩
  refine List.forall_mem_cons.mpr ⟨zo_none_tl, ?_⟩
  refine List.forall_mem_cons.mpr ⟨(zo_aload_tl _ _), ?_⟩
  refine List.forall_mem_cons.mpr ⟨(zo_getf_tl _ _ _), ?_⟩
  refine List.forall_mem_cons.mpr ⟨zo_none_tl, ?_⟩
  refine List.forall_mem_cons.mpr ⟨zo_none_tl, ?_⟩
  refine List.forall_mem_cons.mpr ⟨(zo_iload_tl _ _), ?_⟩
  refine List.forall_mem_cons.mpr ⟨(zo_iald_tl _ _ _), ?_⟩
  refine List.forall_mem_cons.mpr ⟨(zo_goto_tl _), ?_⟩
  refine List.forall_mem_cons.mpr ⟨zo_none_tl, ?_⟩
  refine List.forall_mem_cons.mpr ⟨zo_none_tl, ?_⟩
  refine List.forall_mem_cons.mpr ⟨(zo_pushI_tl _ _), ?_⟩
  refine List.forall_mem_cons.mpr ⟨(zo_iret_tl _), ?_⟩
  exact fun _ h => absurd h List.not_mem_nil
noncomputable def fX12_seen : zzFn := zz_fn tX12_seen 2
noncomputable def tX12_queued : List zzOp := [
  zo_aload 0 1,
  zo_iload 1 2,
  zo_callv zzSR (zz_cl [(10, fX12_asks)]) 1 5,
  zo_none,
  zo_none,
  zo_if (fun x => decide (x = 0)) 24 8,
  zo_none,
  zo_none,
  zo_aload 0 9,
  zo_iload 2 10,
  zo_if (fun x => decide (x < 0)) 17 13,
  zo_none,
  zo_none,
  zo_pushI 0 14,
  zo_goto 18,
  zo_none,
  zo_none,
  zo_pushI 2 18,
  zo_callv zzSR (zz_cl [(10, fX12_goes)]) 1 21,
  zo_none,
  zo_none,
  zo_if (fun x => decide (¬ x = 0)) 26 24,
  zo_none,
  zo_none,
  zo_pushI 0 25,
  zo_iret false,
  zo_iload 2 27,
  zo_aload 0 28,
  zo_getf zzSR (zz_kf [10] 37) 31,
  zo_none,
  zo_none,
  zo_iload 1 32,
  zo_iald zzSR zzSTR 33,
  zo_icmp (fun x y => decide (y ≤ x)) 50 36,
  zo_none,
  zo_none,
  zo_aload 0 37,
  zo_getf zzSR (zz_kf [10] 38) 40,
  zo_none,
  zo_none,
  zo_pushI 60 42,
  zo_none,
  zo_iload 1 43,
  zo_ii (fun x y => x * y) 44,
  zo_iload 2 45,
  zo_ii (fun x y => x + y) 46,
  zo_iald zzSR zzSTR 47,
  zo_goto 51,
  zo_none,
  zo_none,
  zo_pushI (-1) 51,
  zo_iret false]
set_option maxRecDepth 100000 in
theorem tl_X12_queued : ∀ pc, zz_Tl (tX12_queued.getD pc zo_none) := by
  refine zz_Tl_mem ?_
  unfold tX12_queued
  refine List.forall_mem_cons.mpr ⟨(zo_aload_tl _ _), ?_⟩
  refine List.forall_mem_cons.mpr ⟨(zo_iload_tl _ _), ?_⟩
  refine List.forall_mem_cons.mpr ⟨(zo_callv_tl _ _ _ _), ?_⟩
  refine List.forall_mem_cons.mpr ⟨zo_none_tl, ?_⟩
  refine List.forall_mem_cons.mpr ⟨zo_none_tl, ?_⟩
  refine List.forall_mem_cons.mpr ⟨(zo_if_tl _ _ _), ?_⟩
  refine List.forall_mem_cons.mpr ⟨zo_none_tl, ?_⟩
  refine List.forall_mem_cons.mpr ⟨zo_none_tl, ?_⟩
  refine List.forall_mem_cons.mpr ⟨(zo_aload_tl _ _), ?_⟩
  refine List.forall_mem_cons.mpr ⟨(zo_iload_tl _ _), ?_⟩
  refine List.forall_mem_cons.mpr ⟨(zo_if_tl _ _ _), ?_⟩
  refine List.forall_mem_cons.mpr ⟨zo_none_tl, ?_⟩
  refine List.forall_mem_cons.mpr ⟨zo_none_tl, ?_⟩
  refine List.forall_mem_cons.mpr ⟨(zo_pushI_tl _ _), ?_⟩
  refine List.forall_mem_cons.mpr ⟨(zo_goto_tl _), ?_⟩
  refine List.forall_mem_cons.mpr ⟨zo_none_tl, ?_⟩
  refine List.forall_mem_cons.mpr ⟨zo_none_tl, ?_⟩
  refine List.forall_mem_cons.mpr ⟨(zo_pushI_tl _ _), ?_⟩
  refine List.forall_mem_cons.mpr ⟨(zo_callv_tl _ _ _ _), ?_⟩
  refine List.forall_mem_cons.mpr ⟨zo_none_tl, ?_⟩
  refine List.forall_mem_cons.mpr ⟨zo_none_tl, ?_⟩
  refine List.forall_mem_cons.mpr ⟨(zo_if_tl _ _ _), ?_⟩
  refine List.forall_mem_cons.mpr ⟨zo_none_tl, ?_⟩
  refine List.forall_mem_cons.mpr ⟨zo_none_tl, ?_⟩
  refine List.forall_mem_cons.mpr ⟨(zo_pushI_tl _ _), ?_⟩
  refine List.forall_mem_cons.mpr ⟨(zo_iret_tl _), ?_⟩
  refine List.forall_mem_cons.mpr ⟨(zo_iload_tl _ _), ?_⟩
  refine List.forall_mem_cons.mpr ⟨(zo_aload_tl _ _), ?_⟩
  refine List.forall_mem_cons.mpr ⟨(zo_getf_tl _ _ _), ?_⟩
  refine List.forall_mem_cons.mpr ⟨zo_none_tl, ?_⟩
  refine List.forall_mem_cons.mpr ⟨zo_none_tl, ?_⟩
  refine List.forall_mem_cons.mpr ⟨(zo_iload_tl _ _), ?_⟩
  refine List.forall_mem_cons.mpr ⟨(zo_iald_tl _ _ _), ?_⟩
  refine List.forall_mem_cons.mpr ⟨(zo_icmp_tl _ _ _), ?_⟩
  refine List.forall_mem_cons.mpr ⟨zo_none_tl, ?_⟩
  refine List.forall_mem_cons.mpr ⟨zo_none_tl, ?_⟩
  refine List.forall_mem_cons.mpr ⟨(zo_aload_tl _ _), ?_⟩
  refine List.forall_mem_cons.mpr ⟨(zo_getf_tl _ _ _), ?_⟩
  refine List.forall_mem_cons.mpr ⟨zo_none_tl, ?_⟩
  refine List.forall_mem_cons.mpr ⟨zo_none_tl, ?_⟩
  refine List.forall_mem_cons.mpr ⟨(zo_pushI_tl _ _), ?_⟩
  refine List.forall_mem_cons.mpr ⟨zo_none_tl, ?_⟩
  refine List.forall_mem_cons.mpr ⟨(zo_iload_tl _ _), ?_⟩
  refine List.forall_mem_cons.mpr ⟨(zo_ii_tl _ _), ?_⟩
  refine List.forall_mem_cons.mpr ⟨(zo_iload_tl _ _), ?_⟩
  refine List.forall_mem_cons.mpr ⟨(zo_ii_tl _ _), ?_⟩
  refine List.forall_mem_cons.mpr ⟨(zo_iald_tl _ _ _), ?_⟩
  refine List.forall_mem_cons.mpr ⟨(zo_goto_tl _), ?_⟩
  refine List.forall_mem_cons.mpr ⟨zo_none_tl, ?_⟩
  refine List.forall_mem_cons.mpr ⟨zo_none_tl, ?_⟩
  refine List.forall_mem_cons.mpr ⟨(zo_pushI_tl _ _), ?_⟩
  refine List.forall_mem_cons.mpr ⟨(zo_iret_tl _), ?_⟩
  exact fun _ h => absurd h List.not_mem_nil
noncomputable def fX12_queued : zzFn := zz_fn tX12_queued 3
noncomputable def tX12_failures : List zzOp := [
  zo_aload 0 1,
  zo_iload 1 2,
  zo_callv zzSR (zz_cl [(10, fX12_asks)]) 1 5,
  zo_none,
  zo_none,
  zo_if (fun x => decide (x = 0)) 42 8,
  zo_none,
  zo_none,
  zo_aload 0 9,
  zo_aload 0 10,
  zo_iload 2 11,
  zo_callv zzSR (zz_cl [(10, fX12_isObject)]) 1 14,
  zo_none,
  zo_none,
  zo_if (fun x => decide (x = 0)) 21 17,
  zo_none,
  zo_none,
  zo_pushI 0 18,
  zo_goto 22,
  zo_none,
  zo_none,
  zo_pushI 2 22,
  zo_callv zzSR (zz_cl [(10, fX12_goes)]) 1 25,
  zo_none,
  zo_none,
  zo_if (fun x => decide (x = 0)) 42 28,
  zo_none,
  zo_none,
  zo_aload 0 29,
  zo_getf zzSR (zz_kf [10] 39) 32,
  zo_none,
  zo_none,
  zo_pushI 60 34,
  zo_none,
  zo_iload 1 35,
  zo_ii (fun x y => x * y) 36,
  zo_iload 2 37,
  zo_ii (fun x y => x + y) 38,
  zo_iald zzSR zzSTR 39,
  zo_goto 43,
  zo_none,
  zo_none,
  zo_pushI 0 43,
  zo_iret false]
set_option maxRecDepth 100000 in
theorem tl_X12_failures : ∀ pc, zz_Tl (tX12_failures.getD pc zo_none) := by
  refine zz_Tl_mem ?_
  unfold tX12_failures
  refine List.forall_mem_cons.mpr ⟨(zo_aload_tl _ _), ?_⟩
  refine List.forall_mem_cons.mpr ⟨(zo_iload_tl _ _), ?_⟩
  refine List.forall_mem_cons.mpr ⟨(zo_callv_tl _ _ _ _), ?_⟩
  refine List.forall_mem_cons.mpr ⟨zo_none_tl, ?_⟩
  refine List.forall_mem_cons.mpr ⟨zo_none_tl, ?_⟩
  refine List.forall_mem_cons.mpr ⟨(zo_if_tl _ _ _), ?_⟩
  refine List.forall_mem_cons.mpr ⟨zo_none_tl, ?_⟩
  refine List.forall_mem_cons.mpr ⟨zo_none_tl, ?_⟩
  refine List.forall_mem_cons.mpr ⟨(zo_aload_tl _ _), ?_⟩
  refine List.forall_mem_cons.mpr ⟨(zo_aload_tl _ _), ?_⟩
  refine List.forall_mem_cons.mpr ⟨(zo_iload_tl _ _), ?_⟩
  refine List.forall_mem_cons.mpr ⟨(zo_callv_tl _ _ _ _), ?_⟩
  refine List.forall_mem_cons.mpr ⟨zo_none_tl, ?_⟩
  refine List.forall_mem_cons.mpr ⟨zo_none_tl, ?_⟩
  refine List.forall_mem_cons.mpr ⟨(zo_if_tl _ _ _), ?_⟩
  refine List.forall_mem_cons.mpr ⟨zo_none_tl, ?_⟩
  refine List.forall_mem_cons.mpr ⟨zo_none_tl, ?_⟩
  refine List.forall_mem_cons.mpr ⟨(zo_pushI_tl _ _), ?_⟩
  refine List.forall_mem_cons.mpr ⟨(zo_goto_tl _), ?_⟩
  refine List.forall_mem_cons.mpr ⟨zo_none_tl, ?_⟩
  refine List.forall_mem_cons.mpr ⟨zo_none_tl, ?_⟩
  refine List.forall_mem_cons.mpr ⟨(zo_pushI_tl _ _), ?_⟩
  refine List.forall_mem_cons.mpr ⟨(zo_callv_tl _ _ _ _), ?_⟩
  refine List.forall_mem_cons.mpr ⟨zo_none_tl, ?_⟩
  refine List.forall_mem_cons.mpr ⟨zo_none_tl, ?_⟩
  refine List.forall_mem_cons.mpr ⟨(zo_if_tl _ _ _), ?_⟩
  refine List.forall_mem_cons.mpr ⟨zo_none_tl, ?_⟩
  refine List.forall_mem_cons.mpr ⟨zo_none_tl, ?_⟩
  refine List.forall_mem_cons.mpr ⟨(zo_aload_tl _ _), ?_⟩
  refine List.forall_mem_cons.mpr ⟨(zo_getf_tl _ _ _), ?_⟩
  refine List.forall_mem_cons.mpr ⟨zo_none_tl, ?_⟩
  refine List.forall_mem_cons.mpr ⟨zo_none_tl, ?_⟩
  refine List.forall_mem_cons.mpr ⟨(zo_pushI_tl _ _), ?_⟩
  refine List.forall_mem_cons.mpr ⟨zo_none_tl, ?_⟩
  refine List.forall_mem_cons.mpr ⟨(zo_iload_tl _ _), ?_⟩
  refine List.forall_mem_cons.mpr ⟨(zo_ii_tl _ _), ?_⟩
  refine List.forall_mem_cons.mpr ⟨(zo_iload_tl _ _), ?_⟩
  refine List.forall_mem_cons.mpr ⟨(zo_ii_tl _ _), ?_⟩
  refine List.forall_mem_cons.mpr ⟨(zo_iald_tl _ _ _), ?_⟩
  refine List.forall_mem_cons.mpr ⟨(zo_goto_tl _), ?_⟩
  refine List.forall_mem_cons.mpr ⟨zo_none_tl, ?_⟩
  refine List.forall_mem_cons.mpr ⟨zo_none_tl, ?_⟩
  refine List.forall_mem_cons.mpr ⟨(zo_pushI_tl _ _), ?_⟩
  refine List.forall_mem_cons.mpr ⟨(zo_iret_tl _), ?_⟩
  exact fun _ h => absurd h List.not_mem_nil
noncomputable def fX12_failures : zzFn := zz_fn tX12_failures 3
noncomputable def tX12_believed : List zzOp := [
  zo_aload 0 1,
  zo_iload 1 2,
  zo_callv zzSR (zz_cl [(10, fX12_asks)]) 1 5,
  zo_none,
  zo_none,
  zo_if (fun x => decide (x = 0)) 54 8,
  zo_none,
  zo_none,
  zo_aload 0 9,
  zo_aload 0 10,
  zo_iload 2 11,
  zo_callv zzSR (zz_cl [(10, fX12_isObject)]) 1 14,
  zo_none,
  zo_none,
  zo_if (fun x => decide (x = 0)) 21 17,
  zo_none,
  zo_none,
  zo_pushI 0 18,
  zo_goto 22,
  zo_none,
  zo_none,
  zo_pushI 2 22,
  zo_callv zzSR (zz_cl [(10, fX12_goes)]) 1 25,
  zo_none,
  zo_none,
  zo_if (fun x => decide (x = 0)) 54 28,
  zo_none,
  zo_none,
  zo_aload 0 29,
  zo_aload 0 30,
  zo_aload 0 31,
  zo_getf zzSR (zz_kf [10] 6) 34,
  zo_none,
  zo_none,
  zo_iload 2 35,
  zo_iald zzSR zzSTR 36,
  zo_iload 3 37,
  zo_callv zzSR (zz_cl [(10, fX12_hasField)]) 2 40,
  zo_none,
  zo_none,
  zo_if (fun x => decide (x = 0)) 47 43,
  zo_none,
  zo_none,
  zo_pushI 0 44,
  zo_goto 48,
  zo_none,
  zo_none,
  zo_pushI 1 48,
  zo_callv zzSR (zz_cl [(10, fX12_goes)]) 1 51,
  zo_none,
  zo_none,
  zo_if (fun x => decide (¬ x = 0)) 56 54,
  zo_none,
  zo_none,
  zo_pushI 0 55,
  zo_iret false,
  zo_aload 0 57,
  zo_getf zzSR (zz_kf [10] 33) 60,
  zo_none,
  zo_none,
  zo_pushI 60 62,
  zo_none,
  zo_iload 1 63,
  zo_ii (fun x y => x * y) 64,
  zo_iload 2 65,
  zo_ii (fun x y => x + y) 66,
  zo_zald zzSR 67,
  zo_if (fun x => decide (x = 0)) 89 70,
  zo_none,
  zo_none,
  zo_aload 0 71,
  zo_aload 0 72,
  zo_getf zzSR (zz_kf [10] 34) 75,
  zo_none,
  zo_none,
  zo_pushI 60 77,
  zo_none,
  zo_iload 1 78,
  zo_ii (fun x y => x * y) 79,
  zo_iload 2 80,
  zo_ii (fun x y => x + y) 81,
  zo_lald zzSR 82,
  zo_iload 3 83,
  zo_callv zzSR (zz_cl [(10, fX12_get)]) 2 86,
  zo_none,
  zo_none,
  zo_goto 90,
  zo_none,
  zo_none,
  zo_pushI (-1) 90,
  zo_iret false]
set_option maxRecDepth 100000 in
theorem tl_X12_believed : ∀ pc, zz_Tl (tX12_believed.getD pc zo_none) := by
  refine zz_Tl_mem ?_
  unfold tX12_believed
  refine List.forall_mem_cons.mpr ⟨(zo_aload_tl _ _), ?_⟩
  refine List.forall_mem_cons.mpr ⟨(zo_iload_tl _ _), ?_⟩
  refine List.forall_mem_cons.mpr ⟨(zo_callv_tl _ _ _ _), ?_⟩
  refine List.forall_mem_cons.mpr ⟨zo_none_tl, ?_⟩
  refine List.forall_mem_cons.mpr ⟨zo_none_tl, ?_⟩
  refine List.forall_mem_cons.mpr ⟨(zo_if_tl _ _ _), ?_⟩
  refine List.forall_mem_cons.mpr ⟨zo_none_tl, ?_⟩
  refine List.forall_mem_cons.mpr ⟨zo_none_tl, ?_⟩
  refine List.forall_mem_cons.mpr ⟨(zo_aload_tl _ _), ?_⟩
  refine List.forall_mem_cons.mpr ⟨(zo_aload_tl _ _), ?_⟩
  refine List.forall_mem_cons.mpr ⟨(zo_iload_tl _ _), ?_⟩
  refine List.forall_mem_cons.mpr ⟨(zo_callv_tl _ _ _ _), ?_⟩
  refine List.forall_mem_cons.mpr ⟨zo_none_tl, ?_⟩
  refine List.forall_mem_cons.mpr ⟨zo_none_tl, ?_⟩
  refine List.forall_mem_cons.mpr ⟨(zo_if_tl _ _ _), ?_⟩
  refine List.forall_mem_cons.mpr ⟨zo_none_tl, ?_⟩
  refine List.forall_mem_cons.mpr ⟨zo_none_tl, ?_⟩
  refine List.forall_mem_cons.mpr ⟨(zo_pushI_tl _ _), ?_⟩
  refine List.forall_mem_cons.mpr ⟨(zo_goto_tl _), ?_⟩
  refine List.forall_mem_cons.mpr ⟨zo_none_tl, ?_⟩
  refine List.forall_mem_cons.mpr ⟨zo_none_tl, ?_⟩
  refine List.forall_mem_cons.mpr ⟨(zo_pushI_tl _ _), ?_⟩
  refine List.forall_mem_cons.mpr ⟨(zo_callv_tl _ _ _ _), ?_⟩
  refine List.forall_mem_cons.mpr ⟨zo_none_tl, ?_⟩
  refine List.forall_mem_cons.mpr ⟨zo_none_tl, ?_⟩
  refine List.forall_mem_cons.mpr ⟨(zo_if_tl _ _ _), ?_⟩
  refine List.forall_mem_cons.mpr ⟨zo_none_tl, ?_⟩
  refine List.forall_mem_cons.mpr ⟨zo_none_tl, ?_⟩
  refine List.forall_mem_cons.mpr ⟨(zo_aload_tl _ _), ?_⟩
  refine List.forall_mem_cons.mpr ⟨(zo_aload_tl _ _), ?_⟩
  refine List.forall_mem_cons.mpr ⟨(zo_aload_tl _ _), ?_⟩
  refine List.forall_mem_cons.mpr ⟨(zo_getf_tl _ _ _), ?_⟩
  refine List.forall_mem_cons.mpr ⟨zo_none_tl, ?_⟩
  refine List.forall_mem_cons.mpr ⟨zo_none_tl, ?_⟩
  refine List.forall_mem_cons.mpr ⟨(zo_iload_tl _ _), ?_⟩
  refine List.forall_mem_cons.mpr ⟨(zo_iald_tl _ _ _), ?_⟩
  refine List.forall_mem_cons.mpr ⟨(zo_iload_tl _ _), ?_⟩
  refine List.forall_mem_cons.mpr ⟨(zo_callv_tl _ _ _ _), ?_⟩
  refine List.forall_mem_cons.mpr ⟨zo_none_tl, ?_⟩
  refine List.forall_mem_cons.mpr ⟨zo_none_tl, ?_⟩
  refine List.forall_mem_cons.mpr ⟨(zo_if_tl _ _ _), ?_⟩
  refine List.forall_mem_cons.mpr ⟨zo_none_tl, ?_⟩
  refine List.forall_mem_cons.mpr ⟨zo_none_tl, ?_⟩
  refine List.forall_mem_cons.mpr ⟨(zo_pushI_tl _ _), ?_⟩
  refine List.forall_mem_cons.mpr ⟨(zo_goto_tl _), ?_⟩
  refine List.forall_mem_cons.mpr ⟨zo_none_tl, ?_⟩
  refine List.forall_mem_cons.mpr ⟨zo_none_tl, ?_⟩
  refine List.forall_mem_cons.mpr ⟨(zo_pushI_tl _ _), ?_⟩
  refine List.forall_mem_cons.mpr ⟨(zo_callv_tl _ _ _ _), ?_⟩
  refine List.forall_mem_cons.mpr ⟨zo_none_tl, ?_⟩
  refine List.forall_mem_cons.mpr ⟨zo_none_tl, ?_⟩
  refine List.forall_mem_cons.mpr ⟨(zo_if_tl _ _ _), ?_⟩
  refine List.forall_mem_cons.mpr ⟨zo_none_tl, ?_⟩
  refine List.forall_mem_cons.mpr ⟨zo_none_tl, ?_⟩
  refine List.forall_mem_cons.mpr ⟨(zo_pushI_tl _ _), ?_⟩
  refine List.forall_mem_cons.mpr ⟨(zo_iret_tl _), ?_⟩
  refine List.forall_mem_cons.mpr ⟨(zo_aload_tl _ _), ?_⟩
  refine List.forall_mem_cons.mpr ⟨(zo_getf_tl _ _ _), ?_⟩
  refine List.forall_mem_cons.mpr ⟨zo_none_tl, ?_⟩
  refine List.forall_mem_cons.mpr ⟨zo_none_tl, ?_⟩
  refine List.forall_mem_cons.mpr ⟨(zo_pushI_tl _ _), ?_⟩
  refine List.forall_mem_cons.mpr ⟨zo_none_tl, ?_⟩
  refine List.forall_mem_cons.mpr ⟨(zo_iload_tl _ _), ?_⟩
  refine List.forall_mem_cons.mpr ⟨(zo_ii_tl _ _), ?_⟩
  refine List.forall_mem_cons.mpr ⟨(zo_iload_tl _ _), ?_⟩
  refine List.forall_mem_cons.mpr ⟨(zo_ii_tl _ _), ?_⟩
  refine List.forall_mem_cons.mpr ⟨(zo_zald_tl _ _), ?_⟩
  refine List.forall_mem_cons.mpr ⟨(zo_if_tl _ _ _), ?_⟩
  refine List.forall_mem_cons.mpr ⟨zo_none_tl, ?_⟩
  refine List.forall_mem_cons.mpr ⟨zo_none_tl, ?_⟩
  refine List.forall_mem_cons.mpr ⟨(zo_aload_tl _ _), ?_⟩
  refine List.forall_mem_cons.mpr ⟨(zo_aload_tl _ _), ?_⟩
  refine List.forall_mem_cons.mpr ⟨(zo_getf_tl _ _ _), ?_⟩
  refine List.forall_mem_cons.mpr ⟨zo_none_tl, ?_⟩
  refine List.forall_mem_cons.mpr ⟨zo_none_tl, ?_⟩
  refine List.forall_mem_cons.mpr ⟨(zo_pushI_tl _ _), ?_⟩
  refine List.forall_mem_cons.mpr ⟨zo_none_tl, ?_⟩
  refine List.forall_mem_cons.mpr ⟨(zo_iload_tl _ _), ?_⟩
  refine List.forall_mem_cons.mpr ⟨(zo_ii_tl _ _), ?_⟩
  refine List.forall_mem_cons.mpr ⟨(zo_iload_tl _ _), ?_⟩
  refine List.forall_mem_cons.mpr ⟨(zo_ii_tl _ _), ?_⟩
  refine List.forall_mem_cons.mpr ⟨(zo_lald_tl _ _), ?_⟩
  refine List.forall_mem_cons.mpr ⟨(zo_iload_tl _ _), ?_⟩
  refine List.forall_mem_cons.mpr ⟨(zo_callv_tl _ _ _ _), ?_⟩
  refine List.forall_mem_cons.mpr ⟨zo_none_tl, ?_⟩
  refine List.forall_mem_cons.mpr ⟨zo_none_tl, ?_⟩
  refine List.forall_mem_cons.mpr ⟨(zo_goto_tl _), ?_⟩
  refine List.forall_mem_cons.mpr ⟨zo_none_tl, ?_⟩
  refine List.forall_mem_cons.mpr ⟨zo_none_tl, ?_⟩
  refine List.forall_mem_cons.mpr ⟨(zo_pushI_tl _ _), ?_⟩
  refine List.forall_mem_cons.mpr ⟨(zo_iret_tl _), ?_⟩
  exact fun _ h => absurd h List.not_mem_nil
noncomputable def fX12_believed : zzFn := zz_fn tX12_believed 4
noncomputable def tX12_isSettled : List zzOp := [
  zo_aload 0 1,
  zo_pushI 0 2,
  zo_putf zzSR (zz_kf [10] 49) false 5,
  zo_none,
  zo_none,
  zo_pushI 1 6,
  zo_istore 1 7,
  zo_pushI 0 8,
  zo_istore 2 9,
  zo_iload 2 10,
  zo_pushI 8 12,
  zo_none,
  zo_icmp (fun x y => decide (y ≤ x)) 53 15,
  zo_none,
  zo_none,
  zo_iload 1 16,
  zo_if (fun x => decide (x = 0)) 45 19,
  zo_none,
  zo_none,
  zo_aload 0 20,
  zo_getf zzSR (zz_kf [10] 32) 23,
  zo_none,
  zo_none,
  zo_iload 2 24,
  zo_iald zzSR zzSTR 25,
  zo_aload 0 26,
  zo_getf zzSR (zz_kf [10] 14) 29,
  zo_none,
  zo_none,
  zo_icmp (fun x y => decide (¬ x = y)) 45 32,
  zo_none,
  zo_none,
  zo_aload 0 33,
  zo_getf zzSR (zz_kf [10] 37) 36,
  zo_none,
  zo_none,
  zo_iload 2 37,
  zo_iald zzSR zzSTR 38,
  zo_if (fun x => decide (¬ x = 0)) 45 41,
  zo_none,
  zo_none,
  zo_pushI 1 42,
  zo_goto 46,
  zo_none,
  zo_none,
  zo_pushI 0 46,
  zo_istore 1 47,
  zo_iinc 2 1 50,
  zo_none,
  zo_none,
  zo_goto 9,
  zo_none,
  zo_none,
  zo_iload 1 54,
  zo_iret true]
set_option maxRecDepth 100000 in
theorem tl_X12_isSettled : ∀ pc, zz_Tl (tX12_isSettled.getD pc zo_none) := by
  refine zz_Tl_mem ?_
  unfold tX12_isSettled
  refine List.forall_mem_cons.mpr ⟨(zo_aload_tl _ _), ?_⟩
  refine List.forall_mem_cons.mpr ⟨(zo_pushI_tl _ _), ?_⟩
  refine List.forall_mem_cons.mpr ⟨(zo_putf_tl _ _ _ _), ?_⟩
  refine List.forall_mem_cons.mpr ⟨zo_none_tl, ?_⟩
  refine List.forall_mem_cons.mpr ⟨zo_none_tl, ?_⟩
  refine List.forall_mem_cons.mpr ⟨(zo_pushI_tl _ _), ?_⟩
  refine List.forall_mem_cons.mpr ⟨(zo_istore_tl _ _), ?_⟩
  refine List.forall_mem_cons.mpr ⟨(zo_pushI_tl _ _), ?_⟩
  refine List.forall_mem_cons.mpr ⟨(zo_istore_tl _ _), ?_⟩
  refine List.forall_mem_cons.mpr ⟨(zo_iload_tl _ _), ?_⟩
  refine List.forall_mem_cons.mpr ⟨(zo_pushI_tl _ _), ?_⟩
  refine List.forall_mem_cons.mpr ⟨zo_none_tl, ?_⟩
  refine List.forall_mem_cons.mpr ⟨(zo_icmp_tl _ _ _), ?_⟩
  refine List.forall_mem_cons.mpr ⟨zo_none_tl, ?_⟩
  refine List.forall_mem_cons.mpr ⟨zo_none_tl, ?_⟩
  refine List.forall_mem_cons.mpr ⟨(zo_iload_tl _ _), ?_⟩
  refine List.forall_mem_cons.mpr ⟨(zo_if_tl _ _ _), ?_⟩
  refine List.forall_mem_cons.mpr ⟨zo_none_tl, ?_⟩
  refine List.forall_mem_cons.mpr ⟨zo_none_tl, ?_⟩
  refine List.forall_mem_cons.mpr ⟨(zo_aload_tl _ _), ?_⟩
  refine List.forall_mem_cons.mpr ⟨(zo_getf_tl _ _ _), ?_⟩
  refine List.forall_mem_cons.mpr ⟨zo_none_tl, ?_⟩
  refine List.forall_mem_cons.mpr ⟨zo_none_tl, ?_⟩
  refine List.forall_mem_cons.mpr ⟨(zo_iload_tl _ _), ?_⟩
  refine List.forall_mem_cons.mpr ⟨(zo_iald_tl _ _ _), ?_⟩
  refine List.forall_mem_cons.mpr ⟨(zo_aload_tl _ _), ?_⟩
  refine List.forall_mem_cons.mpr ⟨(zo_getf_tl _ _ _), ?_⟩
  refine List.forall_mem_cons.mpr ⟨zo_none_tl, ?_⟩
  refine List.forall_mem_cons.mpr ⟨zo_none_tl, ?_⟩
  refine List.forall_mem_cons.mpr ⟨(zo_icmp_tl _ _ _), ?_⟩
  refine List.forall_mem_cons.mpr ⟨zo_none_tl, ?_⟩
  refine List.forall_mem_cons.mpr ⟨zo_none_tl, ?_⟩
  refine List.forall_mem_cons.mpr ⟨(zo_aload_tl _ _), ?_⟩
  refine List.forall_mem_cons.mpr ⟨(zo_getf_tl _ _ _), ?_⟩
  refine List.forall_mem_cons.mpr ⟨zo_none_tl, ?_⟩
  refine List.forall_mem_cons.mpr ⟨zo_none_tl, ?_⟩
  refine List.forall_mem_cons.mpr ⟨(zo_iload_tl _ _), ?_⟩
  refine List.forall_mem_cons.mpr ⟨(zo_iald_tl _ _ _), ?_⟩
  refine List.forall_mem_cons.mpr ⟨(zo_if_tl _ _ _), ?_⟩
  refine List.forall_mem_cons.mpr ⟨zo_none_tl, ?_⟩
  refine List.forall_mem_cons.mpr ⟨zo_none_tl, ?_⟩
  refine List.forall_mem_cons.mpr ⟨(zo_pushI_tl _ _), ?_⟩
  refine List.forall_mem_cons.mpr ⟨(zo_goto_tl _), ?_⟩
  refine List.forall_mem_cons.mpr ⟨zo_none_tl, ?_⟩
  refine List.forall_mem_cons.mpr ⟨zo_none_tl, ?_⟩
  refine List.forall_mem_cons.mpr ⟨(zo_pushI_tl _ _), ?_⟩
  refine List.forall_mem_cons.mpr ⟨(zo_istore_tl _ _), ?_⟩
  refine List.forall_mem_cons.mpr ⟨(zo_iinc_tl _ _ _), ?_⟩
  refine List.forall_mem_cons.mpr ⟨zo_none_tl, ?_⟩
  refine List.forall_mem_cons.mpr ⟨zo_none_tl, ?_⟩
  refine List.forall_mem_cons.mpr ⟨(zo_goto_tl _), ?_⟩
  refine List.forall_mem_cons.mpr ⟨zo_none_tl, ?_⟩
  refine List.forall_mem_cons.mpr ⟨zo_none_tl, ?_⟩
  refine List.forall_mem_cons.mpr ⟨(zo_iload_tl _ _), ?_⟩
  refine List.forall_mem_cons.mpr ⟨(zo_iret_tl _), ?_⟩
  exact fun _ h => absurd h List.not_mem_nil
noncomputable def fX12_isSettled : zzFn := zz_fn tX12_isSettled 3
noncomputable def tX12_isReader : List zzOp := [
  zo_iload 0 1,
  zo_pushI 0 2,
  zo_pushI 3 3,
  zo_calls fX12_isIn 3 6,
  zo_none,
  zo_none,
  zo_iret true]
set_option maxRecDepth 100000 in
theorem tl_X12_isReader : ∀ pc, zz_Tl (tX12_isReader.getD pc zo_none) := by
  refine zz_Tl_mem ?_
  unfold tX12_isReader
  refine List.forall_mem_cons.mpr ⟨(zo_iload_tl _ _), ?_⟩
  refine List.forall_mem_cons.mpr ⟨(zo_pushI_tl _ _), ?_⟩
  refine List.forall_mem_cons.mpr ⟨(zo_pushI_tl _ _), ?_⟩
  refine List.forall_mem_cons.mpr ⟨(zo_calls_tl _ _ _), ?_⟩
  refine List.forall_mem_cons.mpr ⟨zo_none_tl, ?_⟩
  refine List.forall_mem_cons.mpr ⟨zo_none_tl, ?_⟩
  refine List.forall_mem_cons.mpr ⟨(zo_iret_tl _), ?_⟩
  exact fun _ h => absurd h List.not_mem_nil
noncomputable def fX12_isReader : zzFn := zz_fn tX12_isReader 1
noncomputable def tX12_watch : List zzOp := [
  zo_aload 0 1,
  zo_iload 1 2,
  zo_calls fX12_isReader 1 5,
  zo_none,
  zo_none,
  zo_if (fun x => decide (x = 0)) 20 8,
  zo_none,
  zo_none,
  zo_iload 2 9,
  zo_pushI 0 10,
  zo_aload 0 11,
  zo_getf zzSR (zz_kf [10] 14) 14,
  zo_none,
  zo_none,
  zo_calls fX12_isIn 3 17,
  zo_none,
  zo_none,
  zo_if (fun x => decide (¬ x = 0)) 24 20,
  zo_none,
  zo_none,
  zo_pushI 1 21,
  zo_goto 37,
  zo_none,
  zo_none,
  zo_iload 2 25,
  zo_aload 0 26,
  zo_getf zzSR (zz_kf [10] 15) 29,
  zo_none,
  zo_none,
  zo_icmp (fun x y => decide (y ≤ x)) 36 32,
  zo_none,
  zo_none,
  zo_pushI 2 33,
  zo_goto 37,
  zo_none,
  zo_none,
  zo_pushI 0 37,
  zo_callv zzSR (zz_cl [(10, fX12_goes)]) 1 40,
  zo_none,
  zo_none,
  zo_if (fun x => decide (¬ x = 0)) 45 43,
  zo_none,
  zo_none,
  zo_pushI 0 44,
  zo_iret false,
  zo_aload 0 46,
  zo_getf zzSR (zz_kf [10] 46) 49,
  zo_none,
  zo_none,
  zo_iload 1 50,
  zo_iload 2 51,
  zo_iast zzSR 52,
  zo_aload 0 53,
  zo_getf zzSR (zz_kf [10] 14) 56,
  zo_none,
  zo_none,
  zo_iload 2 57,
  zo_ii (fun x y => x - y) 58,
  zo_iret false]
set_option maxRecDepth 100000 in
theorem tl_X12_watch : ∀ pc, zz_Tl (tX12_watch.getD pc zo_none) := by
  refine zz_Tl_mem ?_
  unfold tX12_watch
  refine List.forall_mem_cons.mpr ⟨(zo_aload_tl _ _), ?_⟩
  refine List.forall_mem_cons.mpr ⟨(zo_iload_tl _ _), ?_⟩
  refine List.forall_mem_cons.mpr ⟨(zo_calls_tl _ _ _), ?_⟩
  refine List.forall_mem_cons.mpr ⟨zo_none_tl, ?_⟩
  refine List.forall_mem_cons.mpr ⟨zo_none_tl, ?_⟩
  refine List.forall_mem_cons.mpr ⟨(zo_if_tl _ _ _), ?_⟩
  refine List.forall_mem_cons.mpr ⟨zo_none_tl, ?_⟩
  refine List.forall_mem_cons.mpr ⟨zo_none_tl, ?_⟩
  refine List.forall_mem_cons.mpr ⟨(zo_iload_tl _ _), ?_⟩
  refine List.forall_mem_cons.mpr ⟨(zo_pushI_tl _ _), ?_⟩
  refine List.forall_mem_cons.mpr ⟨(zo_aload_tl _ _), ?_⟩
  refine List.forall_mem_cons.mpr ⟨(zo_getf_tl _ _ _), ?_⟩
  refine List.forall_mem_cons.mpr ⟨zo_none_tl, ?_⟩
  refine List.forall_mem_cons.mpr ⟨zo_none_tl, ?_⟩
  refine List.forall_mem_cons.mpr ⟨(zo_calls_tl _ _ _), ?_⟩
  refine List.forall_mem_cons.mpr ⟨zo_none_tl, ?_⟩
  refine List.forall_mem_cons.mpr ⟨zo_none_tl, ?_⟩
  refine List.forall_mem_cons.mpr ⟨(zo_if_tl _ _ _), ?_⟩
  refine List.forall_mem_cons.mpr ⟨zo_none_tl, ?_⟩
  refine List.forall_mem_cons.mpr ⟨zo_none_tl, ?_⟩
  refine List.forall_mem_cons.mpr ⟨(zo_pushI_tl _ _), ?_⟩
  refine List.forall_mem_cons.mpr ⟨(zo_goto_tl _), ?_⟩
  refine List.forall_mem_cons.mpr ⟨zo_none_tl, ?_⟩
  refine List.forall_mem_cons.mpr ⟨zo_none_tl, ?_⟩
  refine List.forall_mem_cons.mpr ⟨(zo_iload_tl _ _), ?_⟩
  refine List.forall_mem_cons.mpr ⟨(zo_aload_tl _ _), ?_⟩
  refine List.forall_mem_cons.mpr ⟨(zo_getf_tl _ _ _), ?_⟩
  refine List.forall_mem_cons.mpr ⟨zo_none_tl, ?_⟩
  refine List.forall_mem_cons.mpr ⟨zo_none_tl, ?_⟩
  refine List.forall_mem_cons.mpr ⟨(zo_icmp_tl _ _ _), ?_⟩
  refine List.forall_mem_cons.mpr ⟨zo_none_tl, ?_⟩
  refine List.forall_mem_cons.mpr ⟨zo_none_tl, ?_⟩
  refine List.forall_mem_cons.mpr ⟨(zo_pushI_tl _ _), ?_⟩
  refine List.forall_mem_cons.mpr ⟨(zo_goto_tl _), ?_⟩
  refine List.forall_mem_cons.mpr ⟨zo_none_tl, ?_⟩
  refine List.forall_mem_cons.mpr ⟨zo_none_tl, ?_⟩
  refine List.forall_mem_cons.mpr ⟨(zo_pushI_tl _ _), ?_⟩
  refine List.forall_mem_cons.mpr ⟨(zo_callv_tl _ _ _ _), ?_⟩
  refine List.forall_mem_cons.mpr ⟨zo_none_tl, ?_⟩
  refine List.forall_mem_cons.mpr ⟨zo_none_tl, ?_⟩
  refine List.forall_mem_cons.mpr ⟨(zo_if_tl _ _ _), ?_⟩
  refine List.forall_mem_cons.mpr ⟨zo_none_tl, ?_⟩
  refine List.forall_mem_cons.mpr ⟨zo_none_tl, ?_⟩
  refine List.forall_mem_cons.mpr ⟨(zo_pushI_tl _ _), ?_⟩
  refine List.forall_mem_cons.mpr ⟨(zo_iret_tl _), ?_⟩
  refine List.forall_mem_cons.mpr ⟨(zo_aload_tl _ _), ?_⟩
  refine List.forall_mem_cons.mpr ⟨(zo_getf_tl _ _ _), ?_⟩
  refine List.forall_mem_cons.mpr ⟨zo_none_tl, ?_⟩
  refine List.forall_mem_cons.mpr ⟨zo_none_tl, ?_⟩
  refine List.forall_mem_cons.mpr ⟨(zo_iload_tl _ _), ?_⟩
  refine List.forall_mem_cons.mpr ⟨(zo_iload_tl _ _), ?_⟩
  refine List.forall_mem_cons.mpr ⟨(zo_iast_tl _ _), ?_⟩
  refine List.forall_mem_cons.mpr ⟨(zo_aload_tl _ _), ?_⟩
  refine List.forall_mem_cons.mpr ⟨(zo_getf_tl _ _ _), ?_⟩
  refine List.forall_mem_cons.mpr ⟨zo_none_tl, ?_⟩
  refine List.forall_mem_cons.mpr ⟨zo_none_tl, ?_⟩
  refine List.forall_mem_cons.mpr ⟨(zo_iload_tl _ _), ?_⟩
  refine List.forall_mem_cons.mpr ⟨(zo_ii_tl _ _), ?_⟩
  refine List.forall_mem_cons.mpr ⟨(zo_iret_tl _), ?_⟩
  exact fun _ h => absurd h List.not_mem_nil
noncomputable def fX12_watch : zzFn := zz_fn tX12_watch 3
noncomputable def tX12_next : List zzOp := [
  zo_aload 0 1,
  zo_iload 1 2,
  zo_calls fX12_isReader 1 5,
  zo_none,
  zo_none,
  zo_if (fun x => decide (¬ x = 0)) 12 8,
  zo_none,
  zo_none,
  zo_pushI 1 9,
  zo_goto 13,
  zo_none,
  zo_none,
  zo_pushI 0 13,
  zo_callv zzSR (zz_cl [(10, fX12_goes)]) 1 16,
  zo_none,
  zo_none,
  zo_if (fun x => decide (x = 0)) 44 19,
  zo_none,
  zo_none,
  zo_aload 0 20,
  zo_aload 0 21,
  zo_getf zzSR (zz_kf [10] 46) 24,
  zo_none,
  zo_none,
  zo_iload 1 25,
  zo_iald zzSR zzSTR 26,
  zo_aload 0 27,
  zo_getf zzSR (zz_kf [10] 15) 30,
  zo_none,
  zo_none,
  zo_icmp (fun x y => decide (y ≤ x)) 37 33,
  zo_none,
  zo_none,
  zo_pushI 2 34,
  zo_goto 38,
  zo_none,
  zo_none,
  zo_pushI 0 38,
  zo_callv zzSR (zz_cl [(10, fX12_goes)]) 1 41,
  zo_none,
  zo_none,
  zo_if (fun x => decide (¬ x = 0)) 46 44,
  zo_none,
  zo_none,
  zo_pushI 0 45,
  zo_iret false,
  zo_aload 0 47,
  zo_getf zzSR (zz_kf [10] 46) 50,
  zo_none,
  zo_none,
  zo_iload 1 51,
  zo_iald zzSR zzSTR 52,
  zo_aload 0 53,
  zo_getf zzSR (zz_kf [10] 14) 56,
  zo_none,
  zo_none,
  zo_icmp (fun x y => decide (¬ x = y)) 61 59,
  zo_none,
  zo_none,
  zo_pushI (-1) 60,
  zo_iret false,
  zo_aload 0 62,
  zo_getf zzSR (zz_kf [10] 46) 65,
  zo_none,
  zo_none,
  zo_iload 1 66,
  zo_dup2 67,
  zo_iald zzSR zzSTR 68,
  zo_pushI 1 69,
  zo_ii (fun x y => x + y) 70,
  zo_iast zzSR 71,
  zo_aload 0 72,
  zo_getf zzSR (zz_kf [10] 16) 75,
  zo_none,
  zo_none,
  zo_aload 0 76,
  zo_getf zzSR (zz_kf [10] 46) 79,
  zo_none,
  zo_none,
  zo_iload 1 80,
  zo_iald zzSR zzSTR 81,
  zo_iald zzSR zzSTR 82,
  zo_iret false]
set_option maxRecDepth 100000 in
theorem tl_X12_next : ∀ pc, zz_Tl (tX12_next.getD pc zo_none) := by
  refine zz_Tl_mem ?_
  unfold tX12_next
  refine List.forall_mem_cons.mpr ⟨(zo_aload_tl _ _), ?_⟩
  refine List.forall_mem_cons.mpr ⟨(zo_iload_tl _ _), ?_⟩
  refine List.forall_mem_cons.mpr ⟨(zo_calls_tl _ _ _), ?_⟩
  refine List.forall_mem_cons.mpr ⟨zo_none_tl, ?_⟩
  refine List.forall_mem_cons.mpr ⟨zo_none_tl, ?_⟩
  refine List.forall_mem_cons.mpr ⟨(zo_if_tl _ _ _), ?_⟩
  refine List.forall_mem_cons.mpr ⟨zo_none_tl, ?_⟩
  refine List.forall_mem_cons.mpr ⟨zo_none_tl, ?_⟩
  refine List.forall_mem_cons.mpr ⟨(zo_pushI_tl _ _), ?_⟩
  refine List.forall_mem_cons.mpr ⟨(zo_goto_tl _), ?_⟩
  refine List.forall_mem_cons.mpr ⟨zo_none_tl, ?_⟩
  refine List.forall_mem_cons.mpr ⟨zo_none_tl, ?_⟩
  refine List.forall_mem_cons.mpr ⟨(zo_pushI_tl _ _), ?_⟩
  refine List.forall_mem_cons.mpr ⟨(zo_callv_tl _ _ _ _), ?_⟩
  refine List.forall_mem_cons.mpr ⟨zo_none_tl, ?_⟩
  refine List.forall_mem_cons.mpr ⟨zo_none_tl, ?_⟩
  refine List.forall_mem_cons.mpr ⟨(zo_if_tl _ _ _), ?_⟩
  refine List.forall_mem_cons.mpr ⟨zo_none_tl, ?_⟩
  refine List.forall_mem_cons.mpr ⟨zo_none_tl, ?_⟩
  refine List.forall_mem_cons.mpr ⟨(zo_aload_tl _ _), ?_⟩
  refine List.forall_mem_cons.mpr ⟨(zo_aload_tl _ _), ?_⟩
  refine List.forall_mem_cons.mpr ⟨(zo_getf_tl _ _ _), ?_⟩
  refine List.forall_mem_cons.mpr ⟨zo_none_tl, ?_⟩
  refine List.forall_mem_cons.mpr ⟨zo_none_tl, ?_⟩
  refine List.forall_mem_cons.mpr ⟨(zo_iload_tl _ _), ?_⟩
  refine List.forall_mem_cons.mpr ⟨(zo_iald_tl _ _ _), ?_⟩
  refine List.forall_mem_cons.mpr ⟨(zo_aload_tl _ _), ?_⟩
  refine List.forall_mem_cons.mpr ⟨(zo_getf_tl _ _ _), ?_⟩
  refine List.forall_mem_cons.mpr ⟨zo_none_tl, ?_⟩
  refine List.forall_mem_cons.mpr ⟨zo_none_tl, ?_⟩
  refine List.forall_mem_cons.mpr ⟨(zo_icmp_tl _ _ _), ?_⟩
  refine List.forall_mem_cons.mpr ⟨zo_none_tl, ?_⟩
  refine List.forall_mem_cons.mpr ⟨zo_none_tl, ?_⟩
  refine List.forall_mem_cons.mpr ⟨(zo_pushI_tl _ _), ?_⟩
  refine List.forall_mem_cons.mpr ⟨(zo_goto_tl _), ?_⟩
  refine List.forall_mem_cons.mpr ⟨zo_none_tl, ?_⟩
  refine List.forall_mem_cons.mpr ⟨zo_none_tl, ?_⟩
  refine List.forall_mem_cons.mpr ⟨(zo_pushI_tl _ _), ?_⟩
  refine List.forall_mem_cons.mpr ⟨(zo_callv_tl _ _ _ _), ?_⟩
  refine List.forall_mem_cons.mpr ⟨zo_none_tl, ?_⟩
  refine List.forall_mem_cons.mpr ⟨zo_none_tl, ?_⟩
  refine List.forall_mem_cons.mpr ⟨(zo_if_tl _ _ _), ?_⟩
  refine List.forall_mem_cons.mpr ⟨zo_none_tl, ?_⟩
  refine List.forall_mem_cons.mpr ⟨zo_none_tl, ?_⟩
  refine List.forall_mem_cons.mpr ⟨(zo_pushI_tl _ _), ?_⟩
  refine List.forall_mem_cons.mpr ⟨(zo_iret_tl _), ?_⟩
  refine List.forall_mem_cons.mpr ⟨(zo_aload_tl _ _), ?_⟩
  refine List.forall_mem_cons.mpr ⟨(zo_getf_tl _ _ _), ?_⟩
  refine List.forall_mem_cons.mpr ⟨zo_none_tl, ?_⟩
  refine List.forall_mem_cons.mpr ⟨zo_none_tl, ?_⟩
  refine List.forall_mem_cons.mpr ⟨(zo_iload_tl _ _), ?_⟩
  refine List.forall_mem_cons.mpr ⟨(zo_iald_tl _ _ _), ?_⟩
  refine List.forall_mem_cons.mpr ⟨(zo_aload_tl _ _), ?_⟩
  refine List.forall_mem_cons.mpr ⟨(zo_getf_tl _ _ _), ?_⟩
  refine List.forall_mem_cons.mpr ⟨zo_none_tl, ?_⟩
  refine List.forall_mem_cons.mpr ⟨zo_none_tl, ?_⟩
  refine List.forall_mem_cons.mpr ⟨(zo_icmp_tl _ _ _), ?_⟩
  refine List.forall_mem_cons.mpr ⟨zo_none_tl, ?_⟩
  refine List.forall_mem_cons.mpr ⟨zo_none_tl, ?_⟩
  refine List.forall_mem_cons.mpr ⟨(zo_pushI_tl _ _), ?_⟩
  refine List.forall_mem_cons.mpr ⟨(zo_iret_tl _), ?_⟩
  refine List.forall_mem_cons.mpr ⟨(zo_aload_tl _ _), ?_⟩
  refine List.forall_mem_cons.mpr ⟨(zo_getf_tl _ _ _), ?_⟩
  refine List.forall_mem_cons.mpr ⟨zo_none_tl, ?_⟩
  refine List.forall_mem_cons.mpr ⟨zo_none_tl, ?_⟩
  refine List.forall_mem_cons.mpr ⟨(zo_iload_tl _ _), ?_⟩
  refine List.forall_mem_cons.mpr ⟨(zo_dup2_tl _), ?_⟩
  refine List.forall_mem_cons.mpr ⟨(zo_iald_tl _ _ _), ?_⟩
  refine List.forall_mem_cons.mpr ⟨(zo_pushI_tl _ _), ?_⟩
  refine List.forall_mem_cons.mpr ⟨(zo_ii_tl _ _), ?_⟩
  refine List.forall_mem_cons.mpr ⟨(zo_iast_tl _ _), ?_⟩
  refine List.forall_mem_cons.mpr ⟨(zo_aload_tl _ _), ?_⟩
  refine List.forall_mem_cons.mpr ⟨(zo_getf_tl _ _ _), ?_⟩
  refine List.forall_mem_cons.mpr ⟨zo_none_tl, ?_⟩
  refine List.forall_mem_cons.mpr ⟨zo_none_tl, ?_⟩
  refine List.forall_mem_cons.mpr ⟨(zo_aload_tl _ _), ?_⟩
  refine List.forall_mem_cons.mpr ⟨(zo_getf_tl _ _ _), ?_⟩
  refine List.forall_mem_cons.mpr ⟨zo_none_tl, ?_⟩
  refine List.forall_mem_cons.mpr ⟨zo_none_tl, ?_⟩
  refine List.forall_mem_cons.mpr ⟨(zo_iload_tl _ _), ?_⟩
  refine List.forall_mem_cons.mpr ⟨(zo_iald_tl _ _ _), ?_⟩
  refine List.forall_mem_cons.mpr ⟨(zo_iald_tl _ _ _), ?_⟩
  refine List.forall_mem_cons.mpr ⟨(zo_iret_tl _), ?_⟩
  exact fun _ h => absurd h List.not_mem_nil
noncomputable def fX12_next : zzFn := zz_fn tX12_next 2
noncomputable def tX12_list : List zzOp := [
  zo_aload 0 1,
  zo_iload 1 2,
  zo_calls fX12_isReader 1 5,
  zo_none,
  zo_none,
  zo_if (fun x => decide (x = 0)) 12 8,
  zo_none,
  zo_none,
  zo_pushI 0 9,
  zo_goto 13,
  zo_none,
  zo_none,
  zo_pushI 1 13,
  zo_callv zzSR (zz_cl [(10, fX12_goes)]) 1 16,
  zo_none,
  zo_none,
  zo_if (fun x => decide (¬ x = 0)) 21 19,
  zo_none,
  zo_none,
  zo_pushI 0 20,
  zo_iret false,
  zo_aload 0 22,
  zo_getf zzSR (zz_kf [10] 46) 25,
  zo_none,
  zo_none,
  zo_iload 1 26,
  zo_aload 0 27,
  zo_getf zzSR (zz_kf [10] 14) 30,
  zo_none,
  zo_none,
  zo_iast zzSR 31,
  zo_pushI 0 32,
  zo_istore 2 33,
  zo_pushI 0 34,
  zo_istore 3 35,
  zo_iload 3 36,
  zo_aload 0 37,
  zo_getf zzSR (zz_kf [10] 5) 40,
  zo_none,
  zo_none,
  zo_icmp (fun x y => decide (y ≤ x)) 65 43,
  zo_none,
  zo_none,
  zo_iload 2 44,
  zo_aload 0 45,
  zo_iload 3 46,
  zo_callv zzSR (zz_cl [(10, fX12_isGone)]) 1 49,
  zo_none,
  zo_none,
  zo_if (fun x => decide (x = 0)) 56 52,
  zo_none,
  zo_none,
  zo_pushI 0 53,
  zo_goto 57,
  zo_none,
  zo_none,
  zo_pushI 1 57,
  zo_ii (fun x y => x + y) 58,
  zo_istore 2 59,
  zo_iinc 3 1 62,
  zo_none,
  zo_none,
  zo_goto 35,
  zo_none,
  zo_none,
  zo_iload 2 66,
  zo_iret false]
set_option maxRecDepth 100000 in
theorem tl_X12_list : ∀ pc, zz_Tl (tX12_list.getD pc zo_none) := by
  refine zz_Tl_mem ?_
  unfold tX12_list
  refine List.forall_mem_cons.mpr ⟨(zo_aload_tl _ _), ?_⟩
  refine List.forall_mem_cons.mpr ⟨(zo_iload_tl _ _), ?_⟩
  refine List.forall_mem_cons.mpr ⟨(zo_calls_tl _ _ _), ?_⟩
  refine List.forall_mem_cons.mpr ⟨zo_none_tl, ?_⟩
  refine List.forall_mem_cons.mpr ⟨zo_none_tl, ?_⟩
  refine List.forall_mem_cons.mpr ⟨(zo_if_tl _ _ _), ?_⟩
  refine List.forall_mem_cons.mpr ⟨zo_none_tl, ?_⟩
  refine List.forall_mem_cons.mpr ⟨zo_none_tl, ?_⟩
  refine List.forall_mem_cons.mpr ⟨(zo_pushI_tl _ _), ?_⟩
  refine List.forall_mem_cons.mpr ⟨(zo_goto_tl _), ?_⟩
  refine List.forall_mem_cons.mpr ⟨zo_none_tl, ?_⟩
  refine List.forall_mem_cons.mpr ⟨zo_none_tl, ?_⟩
  refine List.forall_mem_cons.mpr ⟨(zo_pushI_tl _ _), ?_⟩
  refine List.forall_mem_cons.mpr ⟨(zo_callv_tl _ _ _ _), ?_⟩
  refine List.forall_mem_cons.mpr ⟨zo_none_tl, ?_⟩
  refine List.forall_mem_cons.mpr ⟨zo_none_tl, ?_⟩
  refine List.forall_mem_cons.mpr ⟨(zo_if_tl _ _ _), ?_⟩
  refine List.forall_mem_cons.mpr ⟨zo_none_tl, ?_⟩
  refine List.forall_mem_cons.mpr ⟨zo_none_tl, ?_⟩
  refine List.forall_mem_cons.mpr ⟨(zo_pushI_tl _ _), ?_⟩
  refine List.forall_mem_cons.mpr ⟨(zo_iret_tl _), ?_⟩
  refine List.forall_mem_cons.mpr ⟨(zo_aload_tl _ _), ?_⟩
  refine List.forall_mem_cons.mpr ⟨(zo_getf_tl _ _ _), ?_⟩
  refine List.forall_mem_cons.mpr ⟨zo_none_tl, ?_⟩
  refine List.forall_mem_cons.mpr ⟨zo_none_tl, ?_⟩
  refine List.forall_mem_cons.mpr ⟨(zo_iload_tl _ _), ?_⟩
  refine List.forall_mem_cons.mpr ⟨(zo_aload_tl _ _), ?_⟩
  refine List.forall_mem_cons.mpr ⟨(zo_getf_tl _ _ _), ?_⟩
  refine List.forall_mem_cons.mpr ⟨zo_none_tl, ?_⟩
  refine List.forall_mem_cons.mpr ⟨zo_none_tl, ?_⟩
  refine List.forall_mem_cons.mpr ⟨(zo_iast_tl _ _), ?_⟩
  refine List.forall_mem_cons.mpr ⟨(zo_pushI_tl _ _), ?_⟩
  refine List.forall_mem_cons.mpr ⟨(zo_istore_tl _ _), ?_⟩
  refine List.forall_mem_cons.mpr ⟨(zo_pushI_tl _ _), ?_⟩
  refine List.forall_mem_cons.mpr ⟨(zo_istore_tl _ _), ?_⟩
  refine List.forall_mem_cons.mpr ⟨(zo_iload_tl _ _), ?_⟩
  refine List.forall_mem_cons.mpr ⟨(zo_aload_tl _ _), ?_⟩
  refine List.forall_mem_cons.mpr ⟨(zo_getf_tl _ _ _), ?_⟩
  refine List.forall_mem_cons.mpr ⟨zo_none_tl, ?_⟩
  refine List.forall_mem_cons.mpr ⟨zo_none_tl, ?_⟩
  refine List.forall_mem_cons.mpr ⟨(zo_icmp_tl _ _ _), ?_⟩
  refine List.forall_mem_cons.mpr ⟨zo_none_tl, ?_⟩
  refine List.forall_mem_cons.mpr ⟨zo_none_tl, ?_⟩
  refine List.forall_mem_cons.mpr ⟨(zo_iload_tl _ _), ?_⟩
  refine List.forall_mem_cons.mpr ⟨(zo_aload_tl _ _), ?_⟩
  refine List.forall_mem_cons.mpr ⟨(zo_iload_tl _ _), ?_⟩
  refine List.forall_mem_cons.mpr ⟨(zo_callv_tl _ _ _ _), ?_⟩
  refine List.forall_mem_cons.mpr ⟨zo_none_tl, ?_⟩
  refine List.forall_mem_cons.mpr ⟨zo_none_tl, ?_⟩
  refine List.forall_mem_cons.mpr ⟨(zo_if_tl _ _ _), ?_⟩
  refine List.forall_mem_cons.mpr ⟨zo_none_tl, ?_⟩
  refine List.forall_mem_cons.mpr ⟨zo_none_tl, ?_⟩
  refine List.forall_mem_cons.mpr ⟨(zo_pushI_tl _ _), ?_⟩
  refine List.forall_mem_cons.mpr ⟨(zo_goto_tl _), ?_⟩
  refine List.forall_mem_cons.mpr ⟨zo_none_tl, ?_⟩
  refine List.forall_mem_cons.mpr ⟨zo_none_tl, ?_⟩
  refine List.forall_mem_cons.mpr ⟨(zo_pushI_tl _ _), ?_⟩
  refine List.forall_mem_cons.mpr ⟨(zo_ii_tl _ _), ?_⟩
  refine List.forall_mem_cons.mpr ⟨(zo_istore_tl _ _), ?_⟩
  refine List.forall_mem_cons.mpr ⟨(zo_iinc_tl _ _ _), ?_⟩
  refine List.forall_mem_cons.mpr ⟨zo_none_tl, ?_⟩
  refine List.forall_mem_cons.mpr ⟨zo_none_tl, ?_⟩
  refine List.forall_mem_cons.mpr ⟨(zo_goto_tl _), ?_⟩
  refine List.forall_mem_cons.mpr ⟨zo_none_tl, ?_⟩
  refine List.forall_mem_cons.mpr ⟨zo_none_tl, ?_⟩
  refine List.forall_mem_cons.mpr ⟨(zo_iload_tl _ _), ?_⟩
  refine List.forall_mem_cons.mpr ⟨(zo_iret_tl _), ?_⟩
  exact fun _ h => absurd h List.not_mem_nil
noncomputable def fX12_list : zzFn := zz_fn tX12_list 4
noncomputable def tX12_compact : List zzOp := [
  zo_aload 0 1,
  zo_iload 1 2,
  zo_pushI 0 3,
  zo_aload 0 4,
  zo_getf zzSR (zz_kf [10] 14) 7,
  zo_none,
  zo_none,
  zo_calls fX12_isIn 3 10,
  zo_none,
  zo_none,
  zo_if (fun x => decide (x = 0)) 17 13,
  zo_none,
  zo_none,
  zo_pushI 0 14,
  zo_goto 18,
  zo_none,
  zo_none,
  zo_pushI 1 18,
  zo_callv zzSR (zz_cl [(10, fX12_goes)]) 1 21,
  zo_none,
  zo_none,
  zo_if (fun x => decide (¬ x = 0)) 26 24,
  zo_none,
  zo_none,
  zo_pushI 0 25,
  zo_iret false,
  zo_aload 0 27,
  zo_iload 1 28,
  zo_aload 0 29,
  zo_getf zzSR (zz_kf [10] 15) 32,
  zo_none,
  zo_none,
  zo_icmp (fun x y => decide (x ≤ y)) 39 35,
  zo_none,
  zo_none,
  zo_iload 1 36,
  zo_goto 43,
  zo_none,
  zo_none,
  zo_aload 0 40,
  zo_getf zzSR (zz_kf [10] 15) 43,
  zo_none,
  zo_none,
  zo_putf zzSR (zz_kf [10] 15) false 46,
  zo_none,
  zo_none,
  zo_aload 0 47,
  zo_getf zzSR (zz_kf [10] 15) 50,
  zo_none,
  zo_none,
  zo_iret false]
set_option maxRecDepth 100000 in
theorem tl_X12_compact : ∀ pc, zz_Tl (tX12_compact.getD pc zo_none) := by
  refine zz_Tl_mem ?_
  unfold tX12_compact
  refine List.forall_mem_cons.mpr ⟨(zo_aload_tl _ _), ?_⟩
  refine List.forall_mem_cons.mpr ⟨(zo_iload_tl _ _), ?_⟩
  refine List.forall_mem_cons.mpr ⟨(zo_pushI_tl _ _), ?_⟩
  refine List.forall_mem_cons.mpr ⟨(zo_aload_tl _ _), ?_⟩
  refine List.forall_mem_cons.mpr ⟨(zo_getf_tl _ _ _), ?_⟩
  refine List.forall_mem_cons.mpr ⟨zo_none_tl, ?_⟩
  refine List.forall_mem_cons.mpr ⟨zo_none_tl, ?_⟩
  refine List.forall_mem_cons.mpr ⟨(zo_calls_tl _ _ _), ?_⟩
  refine List.forall_mem_cons.mpr ⟨zo_none_tl, ?_⟩
  refine List.forall_mem_cons.mpr ⟨zo_none_tl, ?_⟩
  refine List.forall_mem_cons.mpr ⟨(zo_if_tl _ _ _), ?_⟩
  refine List.forall_mem_cons.mpr ⟨zo_none_tl, ?_⟩
  refine List.forall_mem_cons.mpr ⟨zo_none_tl, ?_⟩
  refine List.forall_mem_cons.mpr ⟨(zo_pushI_tl _ _), ?_⟩
  refine List.forall_mem_cons.mpr ⟨(zo_goto_tl _), ?_⟩
  refine List.forall_mem_cons.mpr ⟨zo_none_tl, ?_⟩
  refine List.forall_mem_cons.mpr ⟨zo_none_tl, ?_⟩
  refine List.forall_mem_cons.mpr ⟨(zo_pushI_tl _ _), ?_⟩
  refine List.forall_mem_cons.mpr ⟨(zo_callv_tl _ _ _ _), ?_⟩
  refine List.forall_mem_cons.mpr ⟨zo_none_tl, ?_⟩
  refine List.forall_mem_cons.mpr ⟨zo_none_tl, ?_⟩
  refine List.forall_mem_cons.mpr ⟨(zo_if_tl _ _ _), ?_⟩
  refine List.forall_mem_cons.mpr ⟨zo_none_tl, ?_⟩
  refine List.forall_mem_cons.mpr ⟨zo_none_tl, ?_⟩
  refine List.forall_mem_cons.mpr ⟨(zo_pushI_tl _ _), ?_⟩
  refine List.forall_mem_cons.mpr ⟨(zo_iret_tl _), ?_⟩
  refine List.forall_mem_cons.mpr ⟨(zo_aload_tl _ _), ?_⟩
  refine List.forall_mem_cons.mpr ⟨(zo_iload_tl _ _), ?_⟩
  refine List.forall_mem_cons.mpr ⟨(zo_aload_tl _ _), ?_⟩
  refine List.forall_mem_cons.mpr ⟨(zo_getf_tl _ _ _), ?_⟩
  refine List.forall_mem_cons.mpr ⟨zo_none_tl, ?_⟩
  refine List.forall_mem_cons.mpr ⟨zo_none_tl, ?_⟩
  refine List.forall_mem_cons.mpr ⟨(zo_icmp_tl _ _ _), ?_⟩
  refine List.forall_mem_cons.mpr ⟨zo_none_tl, ?_⟩
  refine List.forall_mem_cons.mpr ⟨zo_none_tl, ?_⟩
  refine List.forall_mem_cons.mpr ⟨(zo_iload_tl _ _), ?_⟩
  refine List.forall_mem_cons.mpr ⟨(zo_goto_tl _), ?_⟩
  refine List.forall_mem_cons.mpr ⟨zo_none_tl, ?_⟩
  refine List.forall_mem_cons.mpr ⟨zo_none_tl, ?_⟩
  refine List.forall_mem_cons.mpr ⟨(zo_aload_tl _ _), ?_⟩
  refine List.forall_mem_cons.mpr ⟨(zo_getf_tl _ _ _), ?_⟩
  refine List.forall_mem_cons.mpr ⟨zo_none_tl, ?_⟩
  refine List.forall_mem_cons.mpr ⟨zo_none_tl, ?_⟩
  refine List.forall_mem_cons.mpr ⟨(zo_putf_tl _ _ _ _), ?_⟩
  refine List.forall_mem_cons.mpr ⟨zo_none_tl, ?_⟩
  refine List.forall_mem_cons.mpr ⟨zo_none_tl, ?_⟩
  refine List.forall_mem_cons.mpr ⟨(zo_aload_tl _ _), ?_⟩
  refine List.forall_mem_cons.mpr ⟨(zo_getf_tl _ _ _), ?_⟩
  refine List.forall_mem_cons.mpr ⟨zo_none_tl, ?_⟩
  refine List.forall_mem_cons.mpr ⟨zo_none_tl, ?_⟩
  refine List.forall_mem_cons.mpr ⟨(zo_iret_tl _), ?_⟩
  exact fun _ h => absurd h List.not_mem_nil
noncomputable def fX12_compact : zzFn := zz_fn tX12_compact 2
noncomputable def tX12_tick : List zzOp := [
  zo_aload 0 1,
  zo_iload 1 2,
  zo_pushI 1 3,
  zo_pushI 100 5,
  zo_none,
  zo_calls fX12_isIn 3 8,
  zo_none,
  zo_none,
  zo_if (fun x => decide (¬ x = 0)) 15 11,
  zo_none,
  zo_none,
  zo_pushI 1 12,
  zo_goto 32,
  zo_none,
  zo_none,
  zo_aload 0 16,
  zo_getf zzSR (zz_kf [10] 48) 19,
  zo_none,
  zo_none,
  zo_iload 1 20,
  zo_ii (fun x y => x + y) 21,
  zo_pushI 10000 24,
  zo_none,
  zo_none,
  zo_icmp (fun x y => decide (x ≤ y)) 31 27,
  zo_none,
  zo_none,
  zo_pushI 2 28,
  zo_goto 32,
  zo_none,
  zo_none,
  zo_pushI 0 32,
  zo_callv zzSR (zz_cl [(10, fX12_goes)]) 1 35,
  zo_none,
  zo_none,
  zo_if (fun x => decide (¬ x = 0)) 40 38,
  zo_none,
  zo_none,
  zo_pushI 0 39,
  zo_iret false,
  zo_pushI 0 41,
  zo_istore 2 42,
  zo_iload 2 43,
  zo_iload 1 44,
  zo_icmp (fun x y => decide (y ≤ x)) 160 47,
  zo_none,
  zo_none,
  zo_aload 0 48,
  zo_dup 49,
  zo_getf zzSR (zz_kf [10] 48) 52,
  zo_none,
  zo_none,
  zo_pushI 1 53,
  zo_ii (fun x y => x + y) 54,
  zo_putf zzSR (zz_kf [10] 48) false 57,
  zo_none,
  zo_none,
  zo_pushI 0 58,
  zo_istore 3 59,
  zo_iload 3 60,
  zo_aload 0 61,
  zo_getf zzSR (zz_kf [10] 5) 64,
  zo_none,
  zo_none,
  zo_icmp (fun x y => decide (y ≤ x)) 154 67,
  zo_none,
  zo_none,
  zo_aload 0 68,
  zo_getf zzSR (zz_kf [10] 6) 71,
  zo_none,
  zo_none,
  zo_iload 3 72,
  zo_iald zzSR zzSTR 73,
  zo_pushI 4 74,
  zo_icmp (fun x y => decide (¬ x = y)) 105 77,
  zo_none,
  zo_none,
  zo_aload 0 78,
  zo_iload 3 79,
  zo_callv zzSR (zz_cl [(10, fX12_isGone)]) 1 82,
  zo_none,
  zo_none,
  zo_if (fun x => decide (¬ x = 0)) 105 85,
  zo_none,
  zo_none,
  zo_aload 0 86,
  zo_getf zzSR (zz_kf [10] 48) 89,
  zo_none,
  zo_none,
  zo_aload 0 90,
  zo_getf zzSR (zz_kf [10] 11) 93,
  zo_none,
  zo_none,
  zo_iload 3 94,
  zo_iald zzSR zzSTR 95,
  zo_ii (fun x y => x - y) 96,
  zo_pushI 20 98,
  zo_none,
  zo_icmp (fun x y => decide (x ≤ y)) 105 101,
  zo_none,
  zo_none,
  zo_pushI 1 102,
  zo_goto 106,
  zo_none,
  zo_none,
  zo_pushI 0 106,
  zo_istore 4 108,
  zo_none,
  zo_iload 4 110,
  zo_none,
  zo_if (fun x => decide (x = 0)) 145 113,
  zo_none,
  zo_none,
  zo_aload 0 114,
  zo_iload 3 115,
  zo_aload 0 116,
  zo_aload 0 117,
  zo_getf zzSR (zz_kf [10] 7) 120,
  zo_none,
  zo_none,
  zo_iload 3 121,
  zo_lald zzSR 122,
  zo_pushI 14 124,
  zo_none,
  zo_pushI 0 125,
  zo_callv zzSR (zz_cl [(10, fX12_with)]) 3 128,
  zo_none,
  zo_none,
  zo_aload 0 129,
  zo_getf zzSR (zz_kf [10] 8) 132,
  zo_none,
  zo_none,
  zo_iload 3 133,
  zo_lald zzSR 134,
  zo_pushI 0 135,
  zo_callv zzSR (zz_cl [(10, fX12_puts)]) 4 138,
  zo_none,
  zo_none,
  zo_if (fun x => decide (x = 0)) 145 141,
  zo_none,
  zo_none,
  zo_pushI 1 142,
  zo_goto 146,
  zo_none,
  zo_none,
  zo_pushI 0 146,
  zo_istore 5 148,
  zo_none,
  zo_iinc 3 1 151,
  zo_none,
  zo_none,
  zo_goto 59,
  zo_none,
  zo_none,
  zo_iinc 2 1 157,
  zo_none,
  zo_none,
  zo_goto 42,
  zo_none,
  zo_none,
  zo_aload 0 161,
  zo_getf zzSR (zz_kf [10] 48) 164,
  zo_none,
  zo_none,
  zo_iret false]
set_option maxRecDepth 100000 in
theorem tl_X12_tick : ∀ pc, zz_Tl (tX12_tick.getD pc zo_none) := by
  refine zz_Tl_mem ?_
  unfold tX12_tick
  refine List.forall_mem_cons.mpr ⟨(zo_aload_tl _ _), ?_⟩
  refine List.forall_mem_cons.mpr ⟨(zo_iload_tl _ _), ?_⟩
  refine List.forall_mem_cons.mpr ⟨(zo_pushI_tl _ _), ?_⟩
  refine List.forall_mem_cons.mpr ⟨(zo_pushI_tl _ _), ?_⟩
  refine List.forall_mem_cons.mpr ⟨zo_none_tl, ?_⟩
  refine List.forall_mem_cons.mpr ⟨(zo_calls_tl _ _ _), ?_⟩
  refine List.forall_mem_cons.mpr ⟨zo_none_tl, ?_⟩
  refine List.forall_mem_cons.mpr ⟨zo_none_tl, ?_⟩
  refine List.forall_mem_cons.mpr ⟨(zo_if_tl _ _ _), ?_⟩
  refine List.forall_mem_cons.mpr ⟨zo_none_tl, ?_⟩
  refine List.forall_mem_cons.mpr ⟨zo_none_tl, ?_⟩
  refine List.forall_mem_cons.mpr ⟨(zo_pushI_tl _ _), ?_⟩
  refine List.forall_mem_cons.mpr ⟨(zo_goto_tl _), ?_⟩
  refine List.forall_mem_cons.mpr ⟨zo_none_tl, ?_⟩
  refine List.forall_mem_cons.mpr ⟨zo_none_tl, ?_⟩
  refine List.forall_mem_cons.mpr ⟨(zo_aload_tl _ _), ?_⟩
  refine List.forall_mem_cons.mpr ⟨(zo_getf_tl _ _ _), ?_⟩
  refine List.forall_mem_cons.mpr ⟨zo_none_tl, ?_⟩
  refine List.forall_mem_cons.mpr ⟨zo_none_tl, ?_⟩
  refine List.forall_mem_cons.mpr ⟨(zo_iload_tl _ _), ?_⟩
  refine List.forall_mem_cons.mpr ⟨(zo_ii_tl _ _), ?_⟩
  refine List.forall_mem_cons.mpr ⟨(zo_pushI_tl _ _), ?_⟩
  refine List.forall_mem_cons.mpr ⟨zo_none_tl, ?_⟩
  refine List.forall_mem_cons.mpr ⟨zo_none_tl, ?_⟩
  refine List.forall_mem_cons.mpr ⟨(zo_icmp_tl _ _ _), ?_⟩
  refine List.forall_mem_cons.mpr ⟨zo_none_tl, ?_⟩
  refine List.forall_mem_cons.mpr ⟨zo_none_tl, ?_⟩
  refine List.forall_mem_cons.mpr ⟨(zo_pushI_tl _ _), ?_⟩
  refine List.forall_mem_cons.mpr ⟨(zo_goto_tl _), ?_⟩
  refine List.forall_mem_cons.mpr ⟨zo_none_tl, ?_⟩
  refine List.forall_mem_cons.mpr ⟨zo_none_tl, ?_⟩
  refine List.forall_mem_cons.mpr ⟨(zo_pushI_tl _ _), ?_⟩
  refine List.forall_mem_cons.mpr ⟨(zo_callv_tl _ _ _ _), ?_⟩
  refine List.forall_mem_cons.mpr ⟨zo_none_tl, ?_⟩
  refine List.forall_mem_cons.mpr ⟨zo_none_tl, ?_⟩
  refine List.forall_mem_cons.mpr ⟨(zo_if_tl _ _ _), ?_⟩
  refine List.forall_mem_cons.mpr ⟨zo_none_tl, ?_⟩
  refine List.forall_mem_cons.mpr ⟨zo_none_tl, ?_⟩
  refine List.forall_mem_cons.mpr ⟨(zo_pushI_tl _ _), ?_⟩
  refine List.forall_mem_cons.mpr ⟨(zo_iret_tl _), ?_⟩
  refine List.forall_mem_cons.mpr ⟨(zo_pushI_tl _ _), ?_⟩
  refine List.forall_mem_cons.mpr ⟨(zo_istore_tl _ _), ?_⟩
  refine List.forall_mem_cons.mpr ⟨(zo_iload_tl _ _), ?_⟩
  refine List.forall_mem_cons.mpr ⟨(zo_iload_tl _ _), ?_⟩
  refine List.forall_mem_cons.mpr ⟨(zo_icmp_tl _ _ _), ?_⟩
  refine List.forall_mem_cons.mpr ⟨zo_none_tl, ?_⟩
  refine List.forall_mem_cons.mpr ⟨zo_none_tl, ?_⟩
  refine List.forall_mem_cons.mpr ⟨(zo_aload_tl _ _), ?_⟩
  refine List.forall_mem_cons.mpr ⟨(zo_dup_tl _), ?_⟩
  refine List.forall_mem_cons.mpr ⟨(zo_getf_tl _ _ _), ?_⟩
  refine List.forall_mem_cons.mpr ⟨zo_none_tl, ?_⟩
  refine List.forall_mem_cons.mpr ⟨zo_none_tl, ?_⟩
  refine List.forall_mem_cons.mpr ⟨(zo_pushI_tl _ _), ?_⟩
  refine List.forall_mem_cons.mpr ⟨(zo_ii_tl _ _), ?_⟩
  refine List.forall_mem_cons.mpr ⟨(zo_putf_tl _ _ _ _), ?_⟩
  refine List.forall_mem_cons.mpr ⟨zo_none_tl, ?_⟩
  refine List.forall_mem_cons.mpr ⟨zo_none_tl, ?_⟩
  refine List.forall_mem_cons.mpr ⟨(zo_pushI_tl _ _), ?_⟩
  refine List.forall_mem_cons.mpr ⟨(zo_istore_tl _ _), ?_⟩
  refine List.forall_mem_cons.mpr ⟨(zo_iload_tl _ _), ?_⟩
  refine List.forall_mem_cons.mpr ⟨(zo_aload_tl _ _), ?_⟩
  refine List.forall_mem_cons.mpr ⟨(zo_getf_tl _ _ _), ?_⟩
  refine List.forall_mem_cons.mpr ⟨zo_none_tl, ?_⟩
  refine List.forall_mem_cons.mpr ⟨zo_none_tl, ?_⟩
  refine List.forall_mem_cons.mpr ⟨(zo_icmp_tl _ _ _), ?_⟩
  refine List.forall_mem_cons.mpr ⟨zo_none_tl, ?_⟩
  refine List.forall_mem_cons.mpr ⟨zo_none_tl, ?_⟩
  refine List.forall_mem_cons.mpr ⟨(zo_aload_tl _ _), ?_⟩
  refine List.forall_mem_cons.mpr ⟨(zo_getf_tl _ _ _), ?_⟩
  refine List.forall_mem_cons.mpr ⟨zo_none_tl, ?_⟩
  refine List.forall_mem_cons.mpr ⟨zo_none_tl, ?_⟩
  refine List.forall_mem_cons.mpr ⟨(zo_iload_tl _ _), ?_⟩
  refine List.forall_mem_cons.mpr ⟨(zo_iald_tl _ _ _), ?_⟩
  refine List.forall_mem_cons.mpr ⟨(zo_pushI_tl _ _), ?_⟩
  refine List.forall_mem_cons.mpr ⟨(zo_icmp_tl _ _ _), ?_⟩
  refine List.forall_mem_cons.mpr ⟨zo_none_tl, ?_⟩
  refine List.forall_mem_cons.mpr ⟨zo_none_tl, ?_⟩
  refine List.forall_mem_cons.mpr ⟨(zo_aload_tl _ _), ?_⟩
  refine List.forall_mem_cons.mpr ⟨(zo_iload_tl _ _), ?_⟩
  refine List.forall_mem_cons.mpr ⟨(zo_callv_tl _ _ _ _), ?_⟩
  refine List.forall_mem_cons.mpr ⟨zo_none_tl, ?_⟩
  refine List.forall_mem_cons.mpr ⟨zo_none_tl, ?_⟩
  refine List.forall_mem_cons.mpr ⟨(zo_if_tl _ _ _), ?_⟩
  refine List.forall_mem_cons.mpr ⟨zo_none_tl, ?_⟩
  refine List.forall_mem_cons.mpr ⟨zo_none_tl, ?_⟩
  refine List.forall_mem_cons.mpr ⟨(zo_aload_tl _ _), ?_⟩
  refine List.forall_mem_cons.mpr ⟨(zo_getf_tl _ _ _), ?_⟩
  refine List.forall_mem_cons.mpr ⟨zo_none_tl, ?_⟩
  refine List.forall_mem_cons.mpr ⟨zo_none_tl, ?_⟩
  refine List.forall_mem_cons.mpr ⟨(zo_aload_tl _ _), ?_⟩
  refine List.forall_mem_cons.mpr ⟨(zo_getf_tl _ _ _), ?_⟩
  refine List.forall_mem_cons.mpr ⟨zo_none_tl, ?_⟩
  refine List.forall_mem_cons.mpr ⟨zo_none_tl, ?_⟩
  refine List.forall_mem_cons.mpr ⟨(zo_iload_tl _ _), ?_⟩
  refine List.forall_mem_cons.mpr ⟨(zo_iald_tl _ _ _), ?_⟩
  refine List.forall_mem_cons.mpr ⟨(zo_ii_tl _ _), ?_⟩
  refine List.forall_mem_cons.mpr ⟨(zo_pushI_tl _ _), ?_⟩
  refine List.forall_mem_cons.mpr ⟨zo_none_tl, ?_⟩
  refine List.forall_mem_cons.mpr ⟨(zo_icmp_tl _ _ _), ?_⟩
  refine List.forall_mem_cons.mpr ⟨zo_none_tl, ?_⟩
  refine List.forall_mem_cons.mpr ⟨zo_none_tl, ?_⟩
  refine List.forall_mem_cons.mpr ⟨(zo_pushI_tl _ _), ?_⟩
  refine List.forall_mem_cons.mpr ⟨(zo_goto_tl _), ?_⟩
  refine List.forall_mem_cons.mpr ⟨zo_none_tl, ?_⟩
  refine List.forall_mem_cons.mpr ⟨zo_none_tl, ?_⟩
  refine List.forall_mem_cons.mpr ⟨(zo_pushI_tl _ _), ?_⟩
  refine List.forall_mem_cons.mpr ⟨(zo_istore_tl _ _), ?_⟩
  refine List.forall_mem_cons.mpr ⟨zo_none_tl, ?_⟩
  refine List.forall_mem_cons.mpr ⟨(zo_iload_tl _ _), ?_⟩
  refine List.forall_mem_cons.mpr ⟨zo_none_tl, ?_⟩
  refine List.forall_mem_cons.mpr ⟨(zo_if_tl _ _ _), ?_⟩
  refine List.forall_mem_cons.mpr ⟨zo_none_tl, ?_⟩
  refine List.forall_mem_cons.mpr ⟨zo_none_tl, ?_⟩
  refine List.forall_mem_cons.mpr ⟨(zo_aload_tl _ _), ?_⟩
  refine List.forall_mem_cons.mpr ⟨(zo_iload_tl _ _), ?_⟩
  refine List.forall_mem_cons.mpr ⟨(zo_aload_tl _ _), ?_⟩
  refine List.forall_mem_cons.mpr ⟨(zo_aload_tl _ _), ?_⟩
  refine List.forall_mem_cons.mpr ⟨(zo_getf_tl _ _ _), ?_⟩
  refine List.forall_mem_cons.mpr ⟨zo_none_tl, ?_⟩
  refine List.forall_mem_cons.mpr ⟨zo_none_tl, ?_⟩
  refine List.forall_mem_cons.mpr ⟨(zo_iload_tl _ _), ?_⟩
  refine List.forall_mem_cons.mpr ⟨(zo_lald_tl _ _), ?_⟩
  refine List.forall_mem_cons.mpr ⟨(zo_pushI_tl _ _), ?_⟩
  refine List.forall_mem_cons.mpr ⟨zo_none_tl, ?_⟩
  refine List.forall_mem_cons.mpr ⟨(zo_pushI_tl _ _), ?_⟩
  refine List.forall_mem_cons.mpr ⟨(zo_callv_tl _ _ _ _), ?_⟩
  refine List.forall_mem_cons.mpr ⟨zo_none_tl, ?_⟩
  refine List.forall_mem_cons.mpr ⟨zo_none_tl, ?_⟩
  refine List.forall_mem_cons.mpr ⟨(zo_aload_tl _ _), ?_⟩
  refine List.forall_mem_cons.mpr ⟨(zo_getf_tl _ _ _), ?_⟩
  refine List.forall_mem_cons.mpr ⟨zo_none_tl, ?_⟩
  refine List.forall_mem_cons.mpr ⟨zo_none_tl, ?_⟩
  refine List.forall_mem_cons.mpr ⟨(zo_iload_tl _ _), ?_⟩
  refine List.forall_mem_cons.mpr ⟨(zo_lald_tl _ _), ?_⟩
  refine List.forall_mem_cons.mpr ⟨(zo_pushI_tl _ _), ?_⟩
  refine List.forall_mem_cons.mpr ⟨(zo_callv_tl _ _ _ _), ?_⟩
  refine List.forall_mem_cons.mpr ⟨zo_none_tl, ?_⟩
  refine List.forall_mem_cons.mpr ⟨zo_none_tl, ?_⟩
  refine List.forall_mem_cons.mpr ⟨(zo_if_tl _ _ _), ?_⟩
  refine List.forall_mem_cons.mpr ⟨zo_none_tl, ?_⟩
  refine List.forall_mem_cons.mpr ⟨zo_none_tl, ?_⟩
  refine List.forall_mem_cons.mpr ⟨(zo_pushI_tl _ _), ?_⟩
  refine List.forall_mem_cons.mpr ⟨(zo_goto_tl _), ?_⟩
  refine List.forall_mem_cons.mpr ⟨zo_none_tl, ?_⟩
  refine List.forall_mem_cons.mpr ⟨zo_none_tl, ?_⟩
  refine List.forall_mem_cons.mpr ⟨(zo_pushI_tl _ _), ?_⟩
  refine List.forall_mem_cons.mpr ⟨(zo_istore_tl _ _), ?_⟩
  refine List.forall_mem_cons.mpr ⟨zo_none_tl, ?_⟩
  refine List.forall_mem_cons.mpr ⟨(zo_iinc_tl _ _ _), ?_⟩
  refine List.forall_mem_cons.mpr ⟨zo_none_tl, ?_⟩
  refine List.forall_mem_cons.mpr ⟨zo_none_tl, ?_⟩
  refine List.forall_mem_cons.mpr ⟨(zo_goto_tl _), ?_⟩
  refine List.forall_mem_cons.mpr ⟨zo_none_tl, ?_⟩
  refine List.forall_mem_cons.mpr ⟨zo_none_tl, ?_⟩
  refine List.forall_mem_cons.mpr ⟨(zo_iinc_tl _ _ _), ?_⟩
  refine List.forall_mem_cons.mpr ⟨zo_none_tl, ?_⟩
  refine List.forall_mem_cons.mpr ⟨zo_none_tl, ?_⟩
  refine List.forall_mem_cons.mpr ⟨(zo_goto_tl _), ?_⟩
  refine List.forall_mem_cons.mpr ⟨zo_none_tl, ?_⟩
  refine List.forall_mem_cons.mpr ⟨zo_none_tl, ?_⟩
  refine List.forall_mem_cons.mpr ⟨(zo_aload_tl _ _), ?_⟩
  refine List.forall_mem_cons.mpr ⟨(zo_getf_tl _ _ _), ?_⟩
  refine List.forall_mem_cons.mpr ⟨zo_none_tl, ?_⟩
  refine List.forall_mem_cons.mpr ⟨zo_none_tl, ?_⟩
  refine List.forall_mem_cons.mpr ⟨(zo_iret_tl _), ?_⟩
  exact fun _ h => absurd h List.not_mem_nil
noncomputable def fX12_tick : zzFn := zz_fn tX12_tick 6
noncomputable def tX12_beat : List zzOp := [
  zo_aload 0 1,
  zo_aload 0 2,
  zo_iload 1 3,
  zo_callv zzSR (zz_cl [(10, fX12_isObject)]) 1 6,
  zo_none,
  zo_none,
  zo_if (fun x => decide (¬ x = 0)) 13 9,
  zo_none,
  zo_none,
  zo_pushI 1 10,
  zo_goto 28,
  zo_none,
  zo_none,
  zo_aload 0 14,
  zo_getf zzSR (zz_kf [10] 6) 17,
  zo_none,
  zo_none,
  zo_iload 1 18,
  zo_iald zzSR zzSTR 19,
  zo_pushI 4 20,
  zo_icmp (fun x y => decide (¬ x = y)) 27 23,
  zo_none,
  zo_none,
  zo_pushI 0 24,
  zo_goto 28,
  zo_none,
  zo_none,
  zo_pushI 2 28,
  zo_callv zzSR (zz_cl [(10, fX12_goes)]) 1 31,
  zo_none,
  zo_none,
  zo_if (fun x => decide (¬ x = 0)) 36 34,
  zo_none,
  zo_none,
  zo_pushI 0 35,
  zo_iret true,
  zo_aload 0 37,
  zo_aload 0 38,
  zo_getf zzSR (zz_kf [10] 7) 41,
  zo_none,
  zo_none,
  zo_iload 1 42,
  zo_lald zzSR 43,
  zo_pushI 14 45,
  zo_none,
  zo_callv zzSR (zz_cl [(10, fX12_get)]) 2 48,
  zo_none,
  zo_none,
  zo_pushI 1 49,
  zo_icmp (fun x y => decide (¬ x = y)) 56 52,
  zo_none,
  zo_none,
  zo_pushI 1 53,
  zo_goto 57,
  zo_none,
  zo_none,
  zo_pushI 0 57,
  zo_istore 2 58,
  zo_aload 0 59,
  zo_iload 1 60,
  zo_callv zzSR (zz_cl [(10, fX12_isGone)]) 1 63,
  zo_none,
  zo_none,
  zo_if (fun x => decide (¬ x = 0)) 94 66,
  zo_none,
  zo_none,
  zo_aload 0 67,
  zo_iload 1 68,
  zo_aload 0 69,
  zo_aload 0 70,
  zo_getf zzSR (zz_kf [10] 7) 73,
  zo_none,
  zo_none,
  zo_iload 1 74,
  zo_lald zzSR 75,
  zo_pushI 14 77,
  zo_none,
  zo_pushI 1 78,
  zo_callv zzSR (zz_cl [(10, fX12_with)]) 3 81,
  zo_none,
  zo_none,
  zo_aload 0 82,
  zo_getf zzSR (zz_kf [10] 8) 85,
  zo_none,
  zo_none,
  zo_iload 1 86,
  zo_lald zzSR 87,
  zo_pushI 0 88,
  zo_callv zzSR (zz_cl [(10, fX12_puts)]) 4 91,
  zo_none,
  zo_none,
  zo_if (fun x => decide (¬ x = 0)) 98 94,
  zo_none,
  zo_none,
  zo_pushI 1 95,
  zo_goto 99,
  zo_none,
  zo_none,
  zo_pushI 0 99,
  zo_istore 3 100,
  zo_aload 0 101,
  zo_iload 3 102,
  zo_if (fun x => decide (x = 0)) 109 105,
  zo_none,
  zo_none,
  zo_pushI 3 106,
  zo_goto 110,
  zo_none,
  zo_none,
  zo_pushI 0 110,
  zo_callv zzSR (zz_cl [(10, fX12_goes)]) 1 113,
  zo_none,
  zo_none,
  zo_if (fun x => decide (¬ x = 0)) 118 116,
  zo_none,
  zo_none,
  zo_pushI 0 117,
  zo_iret true,
  zo_aload 0 119,
  zo_getf zzSR (zz_kf [10] 11) 122,
  zo_none,
  zo_none,
  zo_iload 1 123,
  zo_aload 0 124,
  zo_getf zzSR (zz_kf [10] 48) 127,
  zo_none,
  zo_none,
  zo_iast zzSR 128,
  zo_iload 2 129,
  zo_iret true]
set_option maxRecDepth 100000 in
theorem tl_X12_beat : ∀ pc, zz_Tl (tX12_beat.getD pc zo_none) := by
  refine zz_Tl_mem ?_
  unfold tX12_beat
  refine List.forall_mem_cons.mpr ⟨(zo_aload_tl _ _), ?_⟩
  refine List.forall_mem_cons.mpr ⟨(zo_aload_tl _ _), ?_⟩
  refine List.forall_mem_cons.mpr ⟨(zo_iload_tl _ _), ?_⟩
  refine List.forall_mem_cons.mpr ⟨(zo_callv_tl _ _ _ _), ?_⟩
  refine List.forall_mem_cons.mpr ⟨zo_none_tl, ?_⟩
  refine List.forall_mem_cons.mpr ⟨zo_none_tl, ?_⟩
  refine List.forall_mem_cons.mpr ⟨(zo_if_tl _ _ _), ?_⟩
  refine List.forall_mem_cons.mpr ⟨zo_none_tl, ?_⟩
  refine List.forall_mem_cons.mpr ⟨zo_none_tl, ?_⟩
  refine List.forall_mem_cons.mpr ⟨(zo_pushI_tl _ _), ?_⟩
  refine List.forall_mem_cons.mpr ⟨(zo_goto_tl _), ?_⟩
  refine List.forall_mem_cons.mpr ⟨zo_none_tl, ?_⟩
  refine List.forall_mem_cons.mpr ⟨zo_none_tl, ?_⟩
  refine List.forall_mem_cons.mpr ⟨(zo_aload_tl _ _), ?_⟩
  refine List.forall_mem_cons.mpr ⟨(zo_getf_tl _ _ _), ?_⟩
  refine List.forall_mem_cons.mpr ⟨zo_none_tl, ?_⟩
  refine List.forall_mem_cons.mpr ⟨zo_none_tl, ?_⟩
  refine List.forall_mem_cons.mpr ⟨(zo_iload_tl _ _), ?_⟩
  refine List.forall_mem_cons.mpr ⟨(zo_iald_tl _ _ _), ?_⟩
  refine List.forall_mem_cons.mpr ⟨(zo_pushI_tl _ _), ?_⟩
  refine List.forall_mem_cons.mpr ⟨(zo_icmp_tl _ _ _), ?_⟩
  refine List.forall_mem_cons.mpr ⟨zo_none_tl, ?_⟩
  refine List.forall_mem_cons.mpr ⟨zo_none_tl, ?_⟩
  refine List.forall_mem_cons.mpr ⟨(zo_pushI_tl _ _), ?_⟩
  refine List.forall_mem_cons.mpr ⟨(zo_goto_tl _), ?_⟩
  refine List.forall_mem_cons.mpr ⟨zo_none_tl, ?_⟩
  refine List.forall_mem_cons.mpr ⟨zo_none_tl, ?_⟩
  refine List.forall_mem_cons.mpr ⟨(zo_pushI_tl _ _), ?_⟩
  refine List.forall_mem_cons.mpr ⟨(zo_callv_tl _ _ _ _), ?_⟩
  refine List.forall_mem_cons.mpr ⟨zo_none_tl, ?_⟩
  refine List.forall_mem_cons.mpr ⟨zo_none_tl, ?_⟩
  refine List.forall_mem_cons.mpr ⟨(zo_if_tl _ _ _), ?_⟩
  refine List.forall_mem_cons.mpr ⟨zo_none_tl, ?_⟩
  refine List.forall_mem_cons.mpr ⟨zo_none_tl, ?_⟩
  refine List.forall_mem_cons.mpr ⟨(zo_pushI_tl _ _), ?_⟩
  refine List.forall_mem_cons.mpr ⟨(zo_iret_tl _), ?_⟩
  refine List.forall_mem_cons.mpr ⟨(zo_aload_tl _ _), ?_⟩
  refine List.forall_mem_cons.mpr ⟨(zo_aload_tl _ _), ?_⟩
  refine List.forall_mem_cons.mpr ⟨(zo_getf_tl _ _ _), ?_⟩
  refine List.forall_mem_cons.mpr ⟨zo_none_tl, ?_⟩
  refine List.forall_mem_cons.mpr ⟨zo_none_tl, ?_⟩
  refine List.forall_mem_cons.mpr ⟨(zo_iload_tl _ _), ?_⟩
  refine List.forall_mem_cons.mpr ⟨(zo_lald_tl _ _), ?_⟩
  refine List.forall_mem_cons.mpr ⟨(zo_pushI_tl _ _), ?_⟩
  refine List.forall_mem_cons.mpr ⟨zo_none_tl, ?_⟩
  refine List.forall_mem_cons.mpr ⟨(zo_callv_tl _ _ _ _), ?_⟩
  refine List.forall_mem_cons.mpr ⟨zo_none_tl, ?_⟩
  refine List.forall_mem_cons.mpr ⟨zo_none_tl, ?_⟩
  refine List.forall_mem_cons.mpr ⟨(zo_pushI_tl _ _), ?_⟩
  refine List.forall_mem_cons.mpr ⟨(zo_icmp_tl _ _ _), ?_⟩
  refine List.forall_mem_cons.mpr ⟨zo_none_tl, ?_⟩
  refine List.forall_mem_cons.mpr ⟨zo_none_tl, ?_⟩
  refine List.forall_mem_cons.mpr ⟨(zo_pushI_tl _ _), ?_⟩
  refine List.forall_mem_cons.mpr ⟨(zo_goto_tl _), ?_⟩
  refine List.forall_mem_cons.mpr ⟨zo_none_tl, ?_⟩
  refine List.forall_mem_cons.mpr ⟨zo_none_tl, ?_⟩
  refine List.forall_mem_cons.mpr ⟨(zo_pushI_tl _ _), ?_⟩
  refine List.forall_mem_cons.mpr ⟨(zo_istore_tl _ _), ?_⟩
  refine List.forall_mem_cons.mpr ⟨(zo_aload_tl _ _), ?_⟩
  refine List.forall_mem_cons.mpr ⟨(zo_iload_tl _ _), ?_⟩
  refine List.forall_mem_cons.mpr ⟨(zo_callv_tl _ _ _ _), ?_⟩
  refine List.forall_mem_cons.mpr ⟨zo_none_tl, ?_⟩
  refine List.forall_mem_cons.mpr ⟨zo_none_tl, ?_⟩
  refine List.forall_mem_cons.mpr ⟨(zo_if_tl _ _ _), ?_⟩
  refine List.forall_mem_cons.mpr ⟨zo_none_tl, ?_⟩
  refine List.forall_mem_cons.mpr ⟨zo_none_tl, ?_⟩
  refine List.forall_mem_cons.mpr ⟨(zo_aload_tl _ _), ?_⟩
  refine List.forall_mem_cons.mpr ⟨(zo_iload_tl _ _), ?_⟩
  refine List.forall_mem_cons.mpr ⟨(zo_aload_tl _ _), ?_⟩
  refine List.forall_mem_cons.mpr ⟨(zo_aload_tl _ _), ?_⟩
  refine List.forall_mem_cons.mpr ⟨(zo_getf_tl _ _ _), ?_⟩
  refine List.forall_mem_cons.mpr ⟨zo_none_tl, ?_⟩
  refine List.forall_mem_cons.mpr ⟨zo_none_tl, ?_⟩
  refine List.forall_mem_cons.mpr ⟨(zo_iload_tl _ _), ?_⟩
  refine List.forall_mem_cons.mpr ⟨(zo_lald_tl _ _), ?_⟩
  refine List.forall_mem_cons.mpr ⟨(zo_pushI_tl _ _), ?_⟩
  refine List.forall_mem_cons.mpr ⟨zo_none_tl, ?_⟩
  refine List.forall_mem_cons.mpr ⟨(zo_pushI_tl _ _), ?_⟩
  refine List.forall_mem_cons.mpr ⟨(zo_callv_tl _ _ _ _), ?_⟩
  refine List.forall_mem_cons.mpr ⟨zo_none_tl, ?_⟩
  refine List.forall_mem_cons.mpr ⟨zo_none_tl, ?_⟩
  refine List.forall_mem_cons.mpr ⟨(zo_aload_tl _ _), ?_⟩
  refine List.forall_mem_cons.mpr ⟨(zo_getf_tl _ _ _), ?_⟩
  refine List.forall_mem_cons.mpr ⟨zo_none_tl, ?_⟩
  refine List.forall_mem_cons.mpr ⟨zo_none_tl, ?_⟩
  refine List.forall_mem_cons.mpr ⟨(zo_iload_tl _ _), ?_⟩
  refine List.forall_mem_cons.mpr ⟨(zo_lald_tl _ _), ?_⟩
  refine List.forall_mem_cons.mpr ⟨(zo_pushI_tl _ _), ?_⟩
  refine List.forall_mem_cons.mpr ⟨(zo_callv_tl _ _ _ _), ?_⟩
  refine List.forall_mem_cons.mpr ⟨zo_none_tl, ?_⟩
  refine List.forall_mem_cons.mpr ⟨zo_none_tl, ?_⟩
  refine List.forall_mem_cons.mpr ⟨(zo_if_tl _ _ _), ?_⟩
  refine List.forall_mem_cons.mpr ⟨zo_none_tl, ?_⟩
  refine List.forall_mem_cons.mpr ⟨zo_none_tl, ?_⟩
  refine List.forall_mem_cons.mpr ⟨(zo_pushI_tl _ _), ?_⟩
  refine List.forall_mem_cons.mpr ⟨(zo_goto_tl _), ?_⟩
  refine List.forall_mem_cons.mpr ⟨zo_none_tl, ?_⟩
  refine List.forall_mem_cons.mpr ⟨zo_none_tl, ?_⟩
  refine List.forall_mem_cons.mpr ⟨(zo_pushI_tl _ _), ?_⟩
  refine List.forall_mem_cons.mpr ⟨(zo_istore_tl _ _), ?_⟩
  refine List.forall_mem_cons.mpr ⟨(zo_aload_tl _ _), ?_⟩
  refine List.forall_mem_cons.mpr ⟨(zo_iload_tl _ _), ?_⟩
  refine List.forall_mem_cons.mpr ⟨(zo_if_tl _ _ _), ?_⟩
  refine List.forall_mem_cons.mpr ⟨zo_none_tl, ?_⟩
  refine List.forall_mem_cons.mpr ⟨zo_none_tl, ?_⟩
  refine List.forall_mem_cons.mpr ⟨(zo_pushI_tl _ _), ?_⟩
  refine List.forall_mem_cons.mpr ⟨(zo_goto_tl _), ?_⟩
  refine List.forall_mem_cons.mpr ⟨zo_none_tl, ?_⟩
  refine List.forall_mem_cons.mpr ⟨zo_none_tl, ?_⟩
  refine List.forall_mem_cons.mpr ⟨(zo_pushI_tl _ _), ?_⟩
  refine List.forall_mem_cons.mpr ⟨(zo_callv_tl _ _ _ _), ?_⟩
  refine List.forall_mem_cons.mpr ⟨zo_none_tl, ?_⟩
  refine List.forall_mem_cons.mpr ⟨zo_none_tl, ?_⟩
  refine List.forall_mem_cons.mpr ⟨(zo_if_tl _ _ _), ?_⟩
  refine List.forall_mem_cons.mpr ⟨zo_none_tl, ?_⟩
  refine List.forall_mem_cons.mpr ⟨zo_none_tl, ?_⟩
  refine List.forall_mem_cons.mpr ⟨(zo_pushI_tl _ _), ?_⟩
  refine List.forall_mem_cons.mpr ⟨(zo_iret_tl _), ?_⟩
  refine List.forall_mem_cons.mpr ⟨(zo_aload_tl _ _), ?_⟩
  refine List.forall_mem_cons.mpr ⟨(zo_getf_tl _ _ _), ?_⟩
  refine List.forall_mem_cons.mpr ⟨zo_none_tl, ?_⟩
  refine List.forall_mem_cons.mpr ⟨zo_none_tl, ?_⟩
  refine List.forall_mem_cons.mpr ⟨(zo_iload_tl _ _), ?_⟩
  refine List.forall_mem_cons.mpr ⟨(zo_aload_tl _ _), ?_⟩
  refine List.forall_mem_cons.mpr ⟨(zo_getf_tl _ _ _), ?_⟩
  refine List.forall_mem_cons.mpr ⟨zo_none_tl, ?_⟩
  refine List.forall_mem_cons.mpr ⟨zo_none_tl, ?_⟩
  refine List.forall_mem_cons.mpr ⟨(zo_iast_tl _ _), ?_⟩
  refine List.forall_mem_cons.mpr ⟨(zo_iload_tl _ _), ?_⟩
  refine List.forall_mem_cons.mpr ⟨(zo_iret_tl _), ?_⟩
  exact fun _ h => absurd h List.not_mem_nil
noncomputable def fX12_beat : zzFn := zz_fn tX12_beat 4
noncomputable def tX12_wish : List zzOp := [
  zo_aload 0 1,
  zo_aload 0 2,
  zo_iload 1 3,
  zo_callv zzSR (zz_cl [(10, fX12_isObject)]) 1 6,
  zo_none,
  zo_none,
  zo_if (fun x => decide (¬ x = 0)) 13 9,
  zo_none,
  zo_none,
  zo_pushI 1 10,
  zo_goto 37,
  zo_none,
  zo_none,
  zo_aload 0 14,
  zo_getf zzSR (zz_kf [10] 6) 17,
  zo_none,
  zo_none,
  zo_iload 1 18,
  zo_iald zzSR zzSTR 19,
  zo_if (fun x => decide (¬ x = 0)) 36 22,
  zo_none,
  zo_none,
  zo_iload 2 23,
  zo_pushI (-1) 24,
  zo_pushI 9 26,
  zo_none,
  zo_calls fX12_isIn 3 29,
  zo_none,
  zo_none,
  zo_if (fun x => decide (x = 0)) 36 32,
  zo_none,
  zo_none,
  zo_pushI 0 33,
  zo_goto 37,
  zo_none,
  zo_none,
  zo_pushI 2 37,
  zo_callv zzSR (zz_cl [(10, fX12_goes)]) 1 40,
  zo_none,
  zo_none,
  zo_if (fun x => decide (¬ x = 0)) 45 43,
  zo_none,
  zo_none,
  zo_pushI 0 44,
  zo_iret false,
  zo_aload 0 46,
  zo_getf zzSR (zz_kf [10] 12) 49,
  zo_none,
  zo_none,
  zo_iload 1 50,
  zo_iald zzSR zzSTR 51,
  zo_istore 3 52,
  zo_aload 0 53,
  zo_getf zzSR (zz_kf [10] 12) 56,
  zo_none,
  zo_none,
  zo_iload 1 57,
  zo_iload 2 58,
  zo_iast zzSR 59,
  zo_iload 3 60,
  zo_iret false]
set_option maxRecDepth 100000 in
theorem tl_X12_wish : ∀ pc, zz_Tl (tX12_wish.getD pc zo_none) := by
  refine zz_Tl_mem ?_
  unfold tX12_wish
  refine List.forall_mem_cons.mpr ⟨(zo_aload_tl _ _), ?_⟩
  refine List.forall_mem_cons.mpr ⟨(zo_aload_tl _ _), ?_⟩
  refine List.forall_mem_cons.mpr ⟨(zo_iload_tl _ _), ?_⟩
  refine List.forall_mem_cons.mpr ⟨(zo_callv_tl _ _ _ _), ?_⟩
  refine List.forall_mem_cons.mpr ⟨zo_none_tl, ?_⟩
  refine List.forall_mem_cons.mpr ⟨zo_none_tl, ?_⟩
  refine List.forall_mem_cons.mpr ⟨(zo_if_tl _ _ _), ?_⟩
  refine List.forall_mem_cons.mpr ⟨zo_none_tl, ?_⟩
  refine List.forall_mem_cons.mpr ⟨zo_none_tl, ?_⟩
  refine List.forall_mem_cons.mpr ⟨(zo_pushI_tl _ _), ?_⟩
  refine List.forall_mem_cons.mpr ⟨(zo_goto_tl _), ?_⟩
  refine List.forall_mem_cons.mpr ⟨zo_none_tl, ?_⟩
  refine List.forall_mem_cons.mpr ⟨zo_none_tl, ?_⟩
  refine List.forall_mem_cons.mpr ⟨(zo_aload_tl _ _), ?_⟩
  refine List.forall_mem_cons.mpr ⟨(zo_getf_tl _ _ _), ?_⟩
  refine List.forall_mem_cons.mpr ⟨zo_none_tl, ?_⟩
  refine List.forall_mem_cons.mpr ⟨zo_none_tl, ?_⟩
  refine List.forall_mem_cons.mpr ⟨(zo_iload_tl _ _), ?_⟩
  refine List.forall_mem_cons.mpr ⟨(zo_iald_tl _ _ _), ?_⟩
  refine List.forall_mem_cons.mpr ⟨(zo_if_tl _ _ _), ?_⟩
  refine List.forall_mem_cons.mpr ⟨zo_none_tl, ?_⟩
  refine List.forall_mem_cons.mpr ⟨zo_none_tl, ?_⟩
  refine List.forall_mem_cons.mpr ⟨(zo_iload_tl _ _), ?_⟩
  refine List.forall_mem_cons.mpr ⟨(zo_pushI_tl _ _), ?_⟩
  refine List.forall_mem_cons.mpr ⟨(zo_pushI_tl _ _), ?_⟩
  refine List.forall_mem_cons.mpr ⟨zo_none_tl, ?_⟩
  refine List.forall_mem_cons.mpr ⟨(zo_calls_tl _ _ _), ?_⟩
  refine List.forall_mem_cons.mpr ⟨zo_none_tl, ?_⟩
  refine List.forall_mem_cons.mpr ⟨zo_none_tl, ?_⟩
  refine List.forall_mem_cons.mpr ⟨(zo_if_tl _ _ _), ?_⟩
  refine List.forall_mem_cons.mpr ⟨zo_none_tl, ?_⟩
  refine List.forall_mem_cons.mpr ⟨zo_none_tl, ?_⟩
  refine List.forall_mem_cons.mpr ⟨(zo_pushI_tl _ _), ?_⟩
  refine List.forall_mem_cons.mpr ⟨(zo_goto_tl _), ?_⟩
  refine List.forall_mem_cons.mpr ⟨zo_none_tl, ?_⟩
  refine List.forall_mem_cons.mpr ⟨zo_none_tl, ?_⟩
  refine List.forall_mem_cons.mpr ⟨(zo_pushI_tl _ _), ?_⟩
  refine List.forall_mem_cons.mpr ⟨(zo_callv_tl _ _ _ _), ?_⟩
  refine List.forall_mem_cons.mpr ⟨zo_none_tl, ?_⟩
  refine List.forall_mem_cons.mpr ⟨zo_none_tl, ?_⟩
  refine List.forall_mem_cons.mpr ⟨(zo_if_tl _ _ _), ?_⟩
  refine List.forall_mem_cons.mpr ⟨zo_none_tl, ?_⟩
  refine List.forall_mem_cons.mpr ⟨zo_none_tl, ?_⟩
  refine List.forall_mem_cons.mpr ⟨(zo_pushI_tl _ _), ?_⟩
  refine List.forall_mem_cons.mpr ⟨(zo_iret_tl _), ?_⟩
  refine List.forall_mem_cons.mpr ⟨(zo_aload_tl _ _), ?_⟩
  refine List.forall_mem_cons.mpr ⟨(zo_getf_tl _ _ _), ?_⟩
  refine List.forall_mem_cons.mpr ⟨zo_none_tl, ?_⟩
  refine List.forall_mem_cons.mpr ⟨zo_none_tl, ?_⟩
  refine List.forall_mem_cons.mpr ⟨(zo_iload_tl _ _), ?_⟩
  refine List.forall_mem_cons.mpr ⟨(zo_iald_tl _ _ _), ?_⟩
  refine List.forall_mem_cons.mpr ⟨(zo_istore_tl _ _), ?_⟩
  refine List.forall_mem_cons.mpr ⟨(zo_aload_tl _ _), ?_⟩
  refine List.forall_mem_cons.mpr ⟨(zo_getf_tl _ _ _), ?_⟩
  refine List.forall_mem_cons.mpr ⟨zo_none_tl, ?_⟩
  refine List.forall_mem_cons.mpr ⟨zo_none_tl, ?_⟩
  refine List.forall_mem_cons.mpr ⟨(zo_iload_tl _ _), ?_⟩
  refine List.forall_mem_cons.mpr ⟨(zo_iload_tl _ _), ?_⟩
  refine List.forall_mem_cons.mpr ⟨(zo_iast_tl _ _), ?_⟩
  refine List.forall_mem_cons.mpr ⟨(zo_iload_tl _ _), ?_⟩
  refine List.forall_mem_cons.mpr ⟨(zo_iret_tl _), ?_⟩
  exact fun _ h => absurd h List.not_mem_nil
noncomputable def fX12_wish : zzFn := zz_fn tX12_wish 4
noncomputable def tX12_hub : List zzOp := [
  zo_aload 0 1,
  zo_pushI 0 2,
  zo_putf zzSR (zz_kf [10] 49) false 5,
  zo_none,
  zo_none,
  zo_aload 0 6,
  zo_iload 1 7,
  zo_putf zzSR (zz_kf [10] 47) true 10,
  zo_none,
  zo_none,
  zo_aload 0 11,
  zo_getf zzSR (zz_kf [10] 14) 14,
  zo_none,
  zo_none,
  zo_istore 2 15,
  zo_pushI 0 16,
  zo_istore 3 17,
  zo_iload 3 18,
  zo_aload 0 19,
  zo_getf zzSR (zz_kf [10] 5) 22,
  zo_none,
  zo_none,
  zo_icmp (fun x y => decide (y ≤ x)) 100 25,
  zo_none,
  zo_none,
  zo_aload 0 26,
  zo_getf zzSR (zz_kf [10] 47) 29,
  zo_none,
  zo_none,
  zo_if (fun x => decide (¬ x = 0)) 100 32,
  zo_none,
  zo_none,
  zo_aload 0 33,
  zo_getf zzSR (zz_kf [10] 6) 36,
  zo_none,
  zo_none,
  zo_iload 3 37,
  zo_iald zzSR zzSTR 38,
  zo_if (fun x => decide (¬ x = 0)) 63 41,
  zo_none,
  zo_none,
  zo_aload 0 42,
  zo_getf zzSR (zz_kf [10] 12) 45,
  zo_none,
  zo_none,
  zo_iload 3 46,
  zo_iald zzSR zzSTR 47,
  zo_pushI (-1) 48,
  zo_icmp (fun x y => decide (x = y)) 63 51,
  zo_none,
  zo_none,
  zo_aload 0 52,
  zo_iload 3 53,
  zo_callv zzSR (zz_cl [(10, fX12_isGone)]) 1 56,
  zo_none,
  zo_none,
  zo_if (fun x => decide (¬ x = 0)) 63 59,
  zo_none,
  zo_none,
  zo_pushI 1 60,
  zo_goto 64,
  zo_none,
  zo_none,
  zo_pushI 0 64,
  zo_istore 4 66,
  zo_none,
  zo_iload 4 68,
  zo_none,
  zo_if (fun x => decide (x = 0)) 91 71,
  zo_none,
  zo_none,
  zo_aload 0 72,
  zo_pushI 5 73,
  zo_iload 3 74,
  zo_pushI 1 75,
  zo_aload 0 76,
  zo_getf zzSR (zz_kf [10] 12) 79,
  zo_none,
  zo_none,
  zo_iload 3 80,
  zo_iald zzSR zzSTR 81,
  zo_callv zzSR (zz_cl [(10, fX12_applies)]) 4 84,
  zo_none,
  zo_none,
  zo_if (fun x => decide (x = 0)) 91 87,
  zo_none,
  zo_none,
  zo_pushI 1 88,
  zo_goto 92,
  zo_none,
  zo_none,
  zo_pushI 0 92,
  zo_istore 5 94,
  zo_none,
  zo_iinc 3 1 97,
  zo_none,
  zo_none,
  zo_goto 17,
  zo_none,
  zo_none,
  zo_aload 0 101,
  zo_getf zzSR (zz_kf [10] 14) 104,
  zo_none,
  zo_none,
  zo_iload 2 105,
  zo_ii (fun x y => x - y) 106,
  zo_iret false]
set_option maxRecDepth 100000 in
theorem tl_X12_hub : ∀ pc, zz_Tl (tX12_hub.getD pc zo_none) := by
  refine zz_Tl_mem ?_
  unfold tX12_hub
  refine List.forall_mem_cons.mpr ⟨(zo_aload_tl _ _), ?_⟩
  refine List.forall_mem_cons.mpr ⟨(zo_pushI_tl _ _), ?_⟩
  refine List.forall_mem_cons.mpr ⟨(zo_putf_tl _ _ _ _), ?_⟩
  refine List.forall_mem_cons.mpr ⟨zo_none_tl, ?_⟩
  refine List.forall_mem_cons.mpr ⟨zo_none_tl, ?_⟩
  refine List.forall_mem_cons.mpr ⟨(zo_aload_tl _ _), ?_⟩
  refine List.forall_mem_cons.mpr ⟨(zo_iload_tl _ _), ?_⟩
  refine List.forall_mem_cons.mpr ⟨(zo_putf_tl _ _ _ _), ?_⟩
  refine List.forall_mem_cons.mpr ⟨zo_none_tl, ?_⟩
  refine List.forall_mem_cons.mpr ⟨zo_none_tl, ?_⟩
  refine List.forall_mem_cons.mpr ⟨(zo_aload_tl _ _), ?_⟩
  refine List.forall_mem_cons.mpr ⟨(zo_getf_tl _ _ _), ?_⟩
  refine List.forall_mem_cons.mpr ⟨zo_none_tl, ?_⟩
  refine List.forall_mem_cons.mpr ⟨zo_none_tl, ?_⟩
  refine List.forall_mem_cons.mpr ⟨(zo_istore_tl _ _), ?_⟩
  refine List.forall_mem_cons.mpr ⟨(zo_pushI_tl _ _), ?_⟩
  refine List.forall_mem_cons.mpr ⟨(zo_istore_tl _ _), ?_⟩
  refine List.forall_mem_cons.mpr ⟨(zo_iload_tl _ _), ?_⟩
  refine List.forall_mem_cons.mpr ⟨(zo_aload_tl _ _), ?_⟩
  refine List.forall_mem_cons.mpr ⟨(zo_getf_tl _ _ _), ?_⟩
  refine List.forall_mem_cons.mpr ⟨zo_none_tl, ?_⟩
  refine List.forall_mem_cons.mpr ⟨zo_none_tl, ?_⟩
  refine List.forall_mem_cons.mpr ⟨(zo_icmp_tl _ _ _), ?_⟩
  refine List.forall_mem_cons.mpr ⟨zo_none_tl, ?_⟩
  refine List.forall_mem_cons.mpr ⟨zo_none_tl, ?_⟩
  refine List.forall_mem_cons.mpr ⟨(zo_aload_tl _ _), ?_⟩
  refine List.forall_mem_cons.mpr ⟨(zo_getf_tl _ _ _), ?_⟩
  refine List.forall_mem_cons.mpr ⟨zo_none_tl, ?_⟩
  refine List.forall_mem_cons.mpr ⟨zo_none_tl, ?_⟩
  refine List.forall_mem_cons.mpr ⟨(zo_if_tl _ _ _), ?_⟩
  refine List.forall_mem_cons.mpr ⟨zo_none_tl, ?_⟩
  refine List.forall_mem_cons.mpr ⟨zo_none_tl, ?_⟩
  refine List.forall_mem_cons.mpr ⟨(zo_aload_tl _ _), ?_⟩
  refine List.forall_mem_cons.mpr ⟨(zo_getf_tl _ _ _), ?_⟩
  refine List.forall_mem_cons.mpr ⟨zo_none_tl, ?_⟩
  refine List.forall_mem_cons.mpr ⟨zo_none_tl, ?_⟩
  refine List.forall_mem_cons.mpr ⟨(zo_iload_tl _ _), ?_⟩
  refine List.forall_mem_cons.mpr ⟨(zo_iald_tl _ _ _), ?_⟩
  refine List.forall_mem_cons.mpr ⟨(zo_if_tl _ _ _), ?_⟩
  refine List.forall_mem_cons.mpr ⟨zo_none_tl, ?_⟩
  refine List.forall_mem_cons.mpr ⟨zo_none_tl, ?_⟩
  refine List.forall_mem_cons.mpr ⟨(zo_aload_tl _ _), ?_⟩
  refine List.forall_mem_cons.mpr ⟨(zo_getf_tl _ _ _), ?_⟩
  refine List.forall_mem_cons.mpr ⟨zo_none_tl, ?_⟩
  refine List.forall_mem_cons.mpr ⟨zo_none_tl, ?_⟩
  refine List.forall_mem_cons.mpr ⟨(zo_iload_tl _ _), ?_⟩
  refine List.forall_mem_cons.mpr ⟨(zo_iald_tl _ _ _), ?_⟩
  refine List.forall_mem_cons.mpr ⟨(zo_pushI_tl _ _), ?_⟩
  refine List.forall_mem_cons.mpr ⟨(zo_icmp_tl _ _ _), ?_⟩
  refine List.forall_mem_cons.mpr ⟨zo_none_tl, ?_⟩
  refine List.forall_mem_cons.mpr ⟨zo_none_tl, ?_⟩
  refine List.forall_mem_cons.mpr ⟨(zo_aload_tl _ _), ?_⟩
  refine List.forall_mem_cons.mpr ⟨(zo_iload_tl _ _), ?_⟩
  refine List.forall_mem_cons.mpr ⟨(zo_callv_tl _ _ _ _), ?_⟩
  refine List.forall_mem_cons.mpr ⟨zo_none_tl, ?_⟩
  refine List.forall_mem_cons.mpr ⟨zo_none_tl, ?_⟩
  refine List.forall_mem_cons.mpr ⟨(zo_if_tl _ _ _), ?_⟩
  refine List.forall_mem_cons.mpr ⟨zo_none_tl, ?_⟩
  refine List.forall_mem_cons.mpr ⟨zo_none_tl, ?_⟩
  refine List.forall_mem_cons.mpr ⟨(zo_pushI_tl _ _), ?_⟩
  refine List.forall_mem_cons.mpr ⟨(zo_goto_tl _), ?_⟩
  refine List.forall_mem_cons.mpr ⟨zo_none_tl, ?_⟩
  refine List.forall_mem_cons.mpr ⟨zo_none_tl, ?_⟩
  refine List.forall_mem_cons.mpr ⟨(zo_pushI_tl _ _), ?_⟩
  refine List.forall_mem_cons.mpr ⟨(zo_istore_tl _ _), ?_⟩
  refine List.forall_mem_cons.mpr ⟨zo_none_tl, ?_⟩
  refine List.forall_mem_cons.mpr ⟨(zo_iload_tl _ _), ?_⟩
  refine List.forall_mem_cons.mpr ⟨zo_none_tl, ?_⟩
  refine List.forall_mem_cons.mpr ⟨(zo_if_tl _ _ _), ?_⟩
  refine List.forall_mem_cons.mpr ⟨zo_none_tl, ?_⟩
  refine List.forall_mem_cons.mpr ⟨zo_none_tl, ?_⟩
  refine List.forall_mem_cons.mpr ⟨(zo_aload_tl _ _), ?_⟩
  refine List.forall_mem_cons.mpr ⟨(zo_pushI_tl _ _), ?_⟩
  refine List.forall_mem_cons.mpr ⟨(zo_iload_tl _ _), ?_⟩
  refine List.forall_mem_cons.mpr ⟨(zo_pushI_tl _ _), ?_⟩
  refine List.forall_mem_cons.mpr ⟨(zo_aload_tl _ _), ?_⟩
  refine List.forall_mem_cons.mpr ⟨(zo_getf_tl _ _ _), ?_⟩
  refine List.forall_mem_cons.mpr ⟨zo_none_tl, ?_⟩
  refine List.forall_mem_cons.mpr ⟨zo_none_tl, ?_⟩
  refine List.forall_mem_cons.mpr ⟨(zo_iload_tl _ _), ?_⟩
  refine List.forall_mem_cons.mpr ⟨(zo_iald_tl _ _ _), ?_⟩
  refine List.forall_mem_cons.mpr ⟨(zo_callv_tl _ _ _ _), ?_⟩
  refine List.forall_mem_cons.mpr ⟨zo_none_tl, ?_⟩
  refine List.forall_mem_cons.mpr ⟨zo_none_tl, ?_⟩
  refine List.forall_mem_cons.mpr ⟨(zo_if_tl _ _ _), ?_⟩
  refine List.forall_mem_cons.mpr ⟨zo_none_tl, ?_⟩
  refine List.forall_mem_cons.mpr ⟨zo_none_tl, ?_⟩
  refine List.forall_mem_cons.mpr ⟨(zo_pushI_tl _ _), ?_⟩
  refine List.forall_mem_cons.mpr ⟨(zo_goto_tl _), ?_⟩
  refine List.forall_mem_cons.mpr ⟨zo_none_tl, ?_⟩
  refine List.forall_mem_cons.mpr ⟨zo_none_tl, ?_⟩
  refine List.forall_mem_cons.mpr ⟨(zo_pushI_tl _ _), ?_⟩
  refine List.forall_mem_cons.mpr ⟨(zo_istore_tl _ _), ?_⟩
  refine List.forall_mem_cons.mpr ⟨zo_none_tl, ?_⟩
  refine List.forall_mem_cons.mpr ⟨(zo_iinc_tl _ _ _), ?_⟩
  refine List.forall_mem_cons.mpr ⟨zo_none_tl, ?_⟩
  refine List.forall_mem_cons.mpr ⟨zo_none_tl, ?_⟩
  refine List.forall_mem_cons.mpr ⟨(zo_goto_tl _), ?_⟩
  refine List.forall_mem_cons.mpr ⟨zo_none_tl, ?_⟩
  refine List.forall_mem_cons.mpr ⟨zo_none_tl, ?_⟩
  refine List.forall_mem_cons.mpr ⟨(zo_aload_tl _ _), ?_⟩
  refine List.forall_mem_cons.mpr ⟨(zo_getf_tl _ _ _), ?_⟩
  refine List.forall_mem_cons.mpr ⟨zo_none_tl, ?_⟩
  refine List.forall_mem_cons.mpr ⟨zo_none_tl, ?_⟩
  refine List.forall_mem_cons.mpr ⟨(zo_iload_tl _ _), ?_⟩
  refine List.forall_mem_cons.mpr ⟨(zo_ii_tl _ _), ?_⟩
  refine List.forall_mem_cons.mpr ⟨(zo_iret_tl _), ?_⟩
  exact fun _ h => absurd h List.not_mem_nil
noncomputable def fX12_hub : zzFn := zz_fn tX12_hub 6
noncomputable def tX12_objects : List zzOp := [
  zo_aload 0 1,
  zo_pushI 0 2,
  zo_putf zzSR (zz_kf [10] 49) false 5,
  zo_none,
  zo_none,
  zo_aload 0 6,
  zo_getf zzSR (zz_kf [10] 5) 9,
  zo_none,
  zo_none,
  zo_iret false]
set_option maxRecDepth 100000 in
theorem tl_X12_objects : ∀ pc, zz_Tl (tX12_objects.getD pc zo_none) := by
  refine zz_Tl_mem ?_
  unfold tX12_objects
  refine List.forall_mem_cons.mpr ⟨(zo_aload_tl _ _), ?_⟩
  refine List.forall_mem_cons.mpr ⟨(zo_pushI_tl _ _), ?_⟩
  refine List.forall_mem_cons.mpr ⟨(zo_putf_tl _ _ _ _), ?_⟩
  refine List.forall_mem_cons.mpr ⟨zo_none_tl, ?_⟩
  refine List.forall_mem_cons.mpr ⟨zo_none_tl, ?_⟩
  refine List.forall_mem_cons.mpr ⟨(zo_aload_tl _ _), ?_⟩
  refine List.forall_mem_cons.mpr ⟨(zo_getf_tl _ _ _), ?_⟩
  refine List.forall_mem_cons.mpr ⟨zo_none_tl, ?_⟩
  refine List.forall_mem_cons.mpr ⟨zo_none_tl, ?_⟩
  refine List.forall_mem_cons.mpr ⟨(zo_iret_tl _), ?_⟩
  exact fun _ h => absurd h List.not_mem_nil
noncomputable def fX12_objects : zzFn := zz_fn tX12_objects 1
noncomputable def tX12_version : List zzOp := [
  zo_aload 0 1,
  zo_pushI 0 2,
  zo_putf zzSR (zz_kf [10] 49) false 5,
  zo_none,
  zo_none,
  zo_aload 0 6,
  zo_getf zzSR (zz_kf [10] 14) 9,
  zo_none,
  zo_none,
  zo_iret false]
set_option maxRecDepth 100000 in
theorem tl_X12_version : ∀ pc, zz_Tl (tX12_version.getD pc zo_none) := by
  refine zz_Tl_mem ?_
  unfold tX12_version
  refine List.forall_mem_cons.mpr ⟨(zo_aload_tl _ _), ?_⟩
  refine List.forall_mem_cons.mpr ⟨(zo_pushI_tl _ _), ?_⟩
  refine List.forall_mem_cons.mpr ⟨(zo_putf_tl _ _ _ _), ?_⟩
  refine List.forall_mem_cons.mpr ⟨zo_none_tl, ?_⟩
  refine List.forall_mem_cons.mpr ⟨zo_none_tl, ?_⟩
  refine List.forall_mem_cons.mpr ⟨(zo_aload_tl _ _), ?_⟩
  refine List.forall_mem_cons.mpr ⟨(zo_getf_tl _ _ _), ?_⟩
  refine List.forall_mem_cons.mpr ⟨zo_none_tl, ?_⟩
  refine List.forall_mem_cons.mpr ⟨zo_none_tl, ?_⟩
  refine List.forall_mem_cons.mpr ⟨(zo_iret_tl _), ?_⟩
  exact fun _ h => absurd h List.not_mem_nil
noncomputable def fX12_version : zzFn := zz_fn tX12_version 1
noncomputable def tX12_asksObject : List zzOp := [
  zo_aload 0 1,
  zo_aload 0 2,
  zo_iload 1 3,
  zo_callv zzSR (zz_cl [(10, fX12_isObject)]) 1 6,
  zo_none,
  zo_none,
  zo_if (fun x => decide (x = 0)) 13 9,
  zo_none,
  zo_none,
  zo_pushI 0 10,
  zo_goto 14,
  zo_none,
  zo_none,
  zo_pushI 1 14,
  zo_callv zzSR (zz_cl [(10, fX12_goes)]) 1 17,
  zo_none,
  zo_none,
  zo_iret true]
set_option maxRecDepth 100000 in
theorem tl_X12_asksObject : ∀ pc, zz_Tl (tX12_asksObject.getD pc zo_none) := by
  refine zz_Tl_mem ?_
  unfold tX12_asksObject
  refine List.forall_mem_cons.mpr ⟨(zo_aload_tl _ _), ?_⟩
  refine List.forall_mem_cons.mpr ⟨(zo_aload_tl _ _), ?_⟩
  refine List.forall_mem_cons.mpr ⟨(zo_iload_tl _ _), ?_⟩
  refine List.forall_mem_cons.mpr ⟨(zo_callv_tl _ _ _ _), ?_⟩
  refine List.forall_mem_cons.mpr ⟨zo_none_tl, ?_⟩
  refine List.forall_mem_cons.mpr ⟨zo_none_tl, ?_⟩
  refine List.forall_mem_cons.mpr ⟨(zo_if_tl _ _ _), ?_⟩
  refine List.forall_mem_cons.mpr ⟨zo_none_tl, ?_⟩
  refine List.forall_mem_cons.mpr ⟨zo_none_tl, ?_⟩
  refine List.forall_mem_cons.mpr ⟨(zo_pushI_tl _ _), ?_⟩
  refine List.forall_mem_cons.mpr ⟨(zo_goto_tl _), ?_⟩
  refine List.forall_mem_cons.mpr ⟨zo_none_tl, ?_⟩
  refine List.forall_mem_cons.mpr ⟨zo_none_tl, ?_⟩
  refine List.forall_mem_cons.mpr ⟨(zo_pushI_tl _ _), ?_⟩
  refine List.forall_mem_cons.mpr ⟨(zo_callv_tl _ _ _ _), ?_⟩
  refine List.forall_mem_cons.mpr ⟨zo_none_tl, ?_⟩
  refine List.forall_mem_cons.mpr ⟨zo_none_tl, ?_⟩
  refine List.forall_mem_cons.mpr ⟨(zo_iret_tl _), ?_⟩
  exact fun _ h => absurd h List.not_mem_nil
noncomputable def fX12_asksObject : zzFn := zz_fn tX12_asksObject 2
noncomputable def tX12_asksOf : List zzOp := [
  zo_aload 0 1,
  zo_aload 0 2,
  zo_iload 1 3,
  zo_callv zzSR (zz_cl [(10, fX12_isObject)]) 1 6,
  zo_none,
  zo_none,
  zo_if (fun x => decide (¬ x = 0)) 13 9,
  zo_none,
  zo_none,
  zo_pushI 1 10,
  zo_goto 28,
  zo_none,
  zo_none,
  zo_aload 0 14,
  zo_getf zzSR (zz_kf [10] 6) 17,
  zo_none,
  zo_none,
  zo_iload 1 18,
  zo_iald zzSR zzSTR 19,
  zo_iload 2 20,
  zo_icmp (fun x y => decide (¬ x = y)) 27 23,
  zo_none,
  zo_none,
  zo_pushI 0 24,
  zo_goto 28,
  zo_none,
  zo_none,
  zo_pushI 2 28,
  zo_callv zzSR (zz_cl [(10, fX12_goes)]) 1 31,
  zo_none,
  zo_none,
  zo_iret true]
set_option maxRecDepth 100000 in
theorem tl_X12_asksOf : ∀ pc, zz_Tl (tX12_asksOf.getD pc zo_none) := by
  refine zz_Tl_mem ?_
  unfold tX12_asksOf
  refine List.forall_mem_cons.mpr ⟨(zo_aload_tl _ _), ?_⟩
  refine List.forall_mem_cons.mpr ⟨(zo_aload_tl _ _), ?_⟩
  refine List.forall_mem_cons.mpr ⟨(zo_iload_tl _ _), ?_⟩
  refine List.forall_mem_cons.mpr ⟨(zo_callv_tl _ _ _ _), ?_⟩
  refine List.forall_mem_cons.mpr ⟨zo_none_tl, ?_⟩
  refine List.forall_mem_cons.mpr ⟨zo_none_tl, ?_⟩
  refine List.forall_mem_cons.mpr ⟨(zo_if_tl _ _ _), ?_⟩
  refine List.forall_mem_cons.mpr ⟨zo_none_tl, ?_⟩
  refine List.forall_mem_cons.mpr ⟨zo_none_tl, ?_⟩
  refine List.forall_mem_cons.mpr ⟨(zo_pushI_tl _ _), ?_⟩
  refine List.forall_mem_cons.mpr ⟨(zo_goto_tl _), ?_⟩
  refine List.forall_mem_cons.mpr ⟨zo_none_tl, ?_⟩
  refine List.forall_mem_cons.mpr ⟨zo_none_tl, ?_⟩
  refine List.forall_mem_cons.mpr ⟨(zo_aload_tl _ _), ?_⟩
  refine List.forall_mem_cons.mpr ⟨(zo_getf_tl _ _ _), ?_⟩
  refine List.forall_mem_cons.mpr ⟨zo_none_tl, ?_⟩
  refine List.forall_mem_cons.mpr ⟨zo_none_tl, ?_⟩
  refine List.forall_mem_cons.mpr ⟨(zo_iload_tl _ _), ?_⟩
  refine List.forall_mem_cons.mpr ⟨(zo_iald_tl _ _ _), ?_⟩
  refine List.forall_mem_cons.mpr ⟨(zo_iload_tl _ _), ?_⟩
  refine List.forall_mem_cons.mpr ⟨(zo_icmp_tl _ _ _), ?_⟩
  refine List.forall_mem_cons.mpr ⟨zo_none_tl, ?_⟩
  refine List.forall_mem_cons.mpr ⟨zo_none_tl, ?_⟩
  refine List.forall_mem_cons.mpr ⟨(zo_pushI_tl _ _), ?_⟩
  refine List.forall_mem_cons.mpr ⟨(zo_goto_tl _), ?_⟩
  refine List.forall_mem_cons.mpr ⟨zo_none_tl, ?_⟩
  refine List.forall_mem_cons.mpr ⟨zo_none_tl, ?_⟩
  refine List.forall_mem_cons.mpr ⟨(zo_pushI_tl _ _), ?_⟩
  refine List.forall_mem_cons.mpr ⟨(zo_callv_tl _ _ _ _), ?_⟩
  refine List.forall_mem_cons.mpr ⟨zo_none_tl, ?_⟩
  refine List.forall_mem_cons.mpr ⟨zo_none_tl, ?_⟩
  refine List.forall_mem_cons.mpr ⟨(zo_iret_tl _), ?_⟩
  exact fun _ h => absurd h List.not_mem_nil
noncomputable def fX12_asksOf : zzFn := zz_fn tX12_asksOf 3
noncomputable def tX12_asksField : List zzOp := [
  zo_aload 0 1,
  zo_aload 0 2,
  zo_iload 1 3,
  zo_callv zzSR (zz_cl [(10, fX12_isObject)]) 1 6,
  zo_none,
  zo_none,
  zo_if (fun x => decide (¬ x = 0)) 13 9,
  zo_none,
  zo_none,
  zo_pushI 1 10,
  zo_goto 32,
  zo_none,
  zo_none,
  zo_aload 0 14,
  zo_aload 0 15,
  zo_getf zzSR (zz_kf [10] 6) 18,
  zo_none,
  zo_none,
  zo_iload 1 19,
  zo_iald zzSR zzSTR 20,
  zo_iload 2 21,
  zo_callv zzSR (zz_cl [(10, fX12_hasField)]) 2 24,
  zo_none,
  zo_none,
  zo_if (fun x => decide (x = 0)) 31 27,
  zo_none,
  zo_none,
  zo_pushI 0 28,
  zo_goto 32,
  zo_none,
  zo_none,
  zo_pushI 2 32,
  zo_callv zzSR (zz_cl [(10, fX12_goes)]) 1 35,
  zo_none,
  zo_none,
  zo_iret true]
set_option maxRecDepth 100000 in
theorem tl_X12_asksField : ∀ pc, zz_Tl (tX12_asksField.getD pc zo_none) := by
  refine zz_Tl_mem ?_
  unfold tX12_asksField
  refine List.forall_mem_cons.mpr ⟨(zo_aload_tl _ _), ?_⟩
  refine List.forall_mem_cons.mpr ⟨(zo_aload_tl _ _), ?_⟩
  refine List.forall_mem_cons.mpr ⟨(zo_iload_tl _ _), ?_⟩
  refine List.forall_mem_cons.mpr ⟨(zo_callv_tl _ _ _ _), ?_⟩
  refine List.forall_mem_cons.mpr ⟨zo_none_tl, ?_⟩
  refine List.forall_mem_cons.mpr ⟨zo_none_tl, ?_⟩
  refine List.forall_mem_cons.mpr ⟨(zo_if_tl _ _ _), ?_⟩
  refine List.forall_mem_cons.mpr ⟨zo_none_tl, ?_⟩
  refine List.forall_mem_cons.mpr ⟨zo_none_tl, ?_⟩
  refine List.forall_mem_cons.mpr ⟨(zo_pushI_tl _ _), ?_⟩
  refine List.forall_mem_cons.mpr ⟨(zo_goto_tl _), ?_⟩
  refine List.forall_mem_cons.mpr ⟨zo_none_tl, ?_⟩
  refine List.forall_mem_cons.mpr ⟨zo_none_tl, ?_⟩
  refine List.forall_mem_cons.mpr ⟨(zo_aload_tl _ _), ?_⟩
  refine List.forall_mem_cons.mpr ⟨(zo_aload_tl _ _), ?_⟩
  refine List.forall_mem_cons.mpr ⟨(zo_getf_tl _ _ _), ?_⟩
  refine List.forall_mem_cons.mpr ⟨zo_none_tl, ?_⟩
  refine List.forall_mem_cons.mpr ⟨zo_none_tl, ?_⟩
  refine List.forall_mem_cons.mpr ⟨(zo_iload_tl _ _), ?_⟩
  refine List.forall_mem_cons.mpr ⟨(zo_iald_tl _ _ _), ?_⟩
  refine List.forall_mem_cons.mpr ⟨(zo_iload_tl _ _), ?_⟩
  refine List.forall_mem_cons.mpr ⟨(zo_callv_tl _ _ _ _), ?_⟩
  refine List.forall_mem_cons.mpr ⟨zo_none_tl, ?_⟩
  refine List.forall_mem_cons.mpr ⟨zo_none_tl, ?_⟩
  refine List.forall_mem_cons.mpr ⟨(zo_if_tl _ _ _), ?_⟩
  refine List.forall_mem_cons.mpr ⟨zo_none_tl, ?_⟩
  refine List.forall_mem_cons.mpr ⟨zo_none_tl, ?_⟩
  refine List.forall_mem_cons.mpr ⟨(zo_pushI_tl _ _), ?_⟩
  refine List.forall_mem_cons.mpr ⟨(zo_goto_tl _), ?_⟩
  refine List.forall_mem_cons.mpr ⟨zo_none_tl, ?_⟩
  refine List.forall_mem_cons.mpr ⟨zo_none_tl, ?_⟩
  refine List.forall_mem_cons.mpr ⟨(zo_pushI_tl _ _), ?_⟩
  refine List.forall_mem_cons.mpr ⟨(zo_callv_tl _ _ _ _), ?_⟩
  refine List.forall_mem_cons.mpr ⟨zo_none_tl, ?_⟩
  refine List.forall_mem_cons.mpr ⟨zo_none_tl, ?_⟩
  refine List.forall_mem_cons.mpr ⟨(zo_iret_tl _), ?_⟩
  exact fun _ h => absurd h List.not_mem_nil
noncomputable def fX12_asksField : zzFn := zz_fn tX12_asksField 3
noncomputable def tX12_kindOf : List zzOp := [
  zo_aload 0 1,
  zo_iload 1 2,
  zo_callv zzSR (zz_cl [(10, fX12_asksObject)]) 1 5,
  zo_none,
  zo_none,
  zo_if (fun x => decide (x = 0)) 17 8,
  zo_none,
  zo_none,
  zo_aload 0 9,
  zo_getf zzSR (zz_kf [10] 6) 12,
  zo_none,
  zo_none,
  zo_iload 1 13,
  zo_iald zzSR zzSTR 14,
  zo_goto 18,
  zo_none,
  zo_none,
  zo_pushI 0 18,
  zo_iret false]
set_option maxRecDepth 100000 in
theorem tl_X12_kindOf : ∀ pc, zz_Tl (tX12_kindOf.getD pc zo_none) := by
  refine zz_Tl_mem ?_
  unfold tX12_kindOf
  refine List.forall_mem_cons.mpr ⟨(zo_aload_tl _ _), ?_⟩
  refine List.forall_mem_cons.mpr ⟨(zo_iload_tl _ _), ?_⟩
  refine List.forall_mem_cons.mpr ⟨(zo_callv_tl _ _ _ _), ?_⟩
  refine List.forall_mem_cons.mpr ⟨zo_none_tl, ?_⟩
  refine List.forall_mem_cons.mpr ⟨zo_none_tl, ?_⟩
  refine List.forall_mem_cons.mpr ⟨(zo_if_tl _ _ _), ?_⟩
  refine List.forall_mem_cons.mpr ⟨zo_none_tl, ?_⟩
  refine List.forall_mem_cons.mpr ⟨zo_none_tl, ?_⟩
  refine List.forall_mem_cons.mpr ⟨(zo_aload_tl _ _), ?_⟩
  refine List.forall_mem_cons.mpr ⟨(zo_getf_tl _ _ _), ?_⟩
  refine List.forall_mem_cons.mpr ⟨zo_none_tl, ?_⟩
  refine List.forall_mem_cons.mpr ⟨zo_none_tl, ?_⟩
  refine List.forall_mem_cons.mpr ⟨(zo_iload_tl _ _), ?_⟩
  refine List.forall_mem_cons.mpr ⟨(zo_iald_tl _ _ _), ?_⟩
  refine List.forall_mem_cons.mpr ⟨(zo_goto_tl _), ?_⟩
  refine List.forall_mem_cons.mpr ⟨zo_none_tl, ?_⟩
  refine List.forall_mem_cons.mpr ⟨zo_none_tl, ?_⟩
  refine List.forall_mem_cons.mpr ⟨(zo_pushI_tl _ _), ?_⟩
  refine List.forall_mem_cons.mpr ⟨(zo_iret_tl _), ?_⟩
  exact fun _ h => absurd h List.not_mem_nil
noncomputable def fX12_kindOf : zzFn := zz_fn tX12_kindOf 2
noncomputable def tX12_field : List zzOp := [
  zo_aload 0 1,
  zo_iload 1 2,
  zo_iload 2 3,
  zo_callv zzSR (zz_cl [(10, fX12_asksField)]) 2 6,
  zo_none,
  zo_none,
  zo_if (fun x => decide (x = 0)) 23 9,
  zo_none,
  zo_none,
  zo_aload 0 10,
  zo_aload 0 11,
  zo_getf zzSR (zz_kf [10] 7) 14,
  zo_none,
  zo_none,
  zo_iload 1 15,
  zo_lald zzSR 16,
  zo_iload 2 17,
  zo_callv zzSR (zz_cl [(10, fX12_get)]) 2 20,
  zo_none,
  zo_none,
  zo_goto 24,
  zo_none,
  zo_none,
  zo_pushI 0 24,
  zo_iret false]
set_option maxRecDepth 100000 in
theorem tl_X12_field : ∀ pc, zz_Tl (tX12_field.getD pc zo_none) := by
  refine zz_Tl_mem ?_
  unfold tX12_field
  refine List.forall_mem_cons.mpr ⟨(zo_aload_tl _ _), ?_⟩
  refine List.forall_mem_cons.mpr ⟨(zo_iload_tl _ _), ?_⟩
  refine List.forall_mem_cons.mpr ⟨(zo_iload_tl _ _), ?_⟩
  refine List.forall_mem_cons.mpr ⟨(zo_callv_tl _ _ _ _), ?_⟩
  refine List.forall_mem_cons.mpr ⟨zo_none_tl, ?_⟩
  refine List.forall_mem_cons.mpr ⟨zo_none_tl, ?_⟩
  refine List.forall_mem_cons.mpr ⟨(zo_if_tl _ _ _), ?_⟩
  refine List.forall_mem_cons.mpr ⟨zo_none_tl, ?_⟩
  refine List.forall_mem_cons.mpr ⟨zo_none_tl, ?_⟩
  refine List.forall_mem_cons.mpr ⟨(zo_aload_tl _ _), ?_⟩
  refine List.forall_mem_cons.mpr ⟨(zo_aload_tl _ _), ?_⟩
  refine List.forall_mem_cons.mpr ⟨(zo_getf_tl _ _ _), ?_⟩
  refine List.forall_mem_cons.mpr ⟨zo_none_tl, ?_⟩
  refine List.forall_mem_cons.mpr ⟨zo_none_tl, ?_⟩
  refine List.forall_mem_cons.mpr ⟨(zo_iload_tl _ _), ?_⟩
  refine List.forall_mem_cons.mpr ⟨(zo_lald_tl _ _), ?_⟩
  refine List.forall_mem_cons.mpr ⟨(zo_iload_tl _ _), ?_⟩
  refine List.forall_mem_cons.mpr ⟨(zo_callv_tl _ _ _ _), ?_⟩
  refine List.forall_mem_cons.mpr ⟨zo_none_tl, ?_⟩
  refine List.forall_mem_cons.mpr ⟨zo_none_tl, ?_⟩
  refine List.forall_mem_cons.mpr ⟨(zo_goto_tl _), ?_⟩
  refine List.forall_mem_cons.mpr ⟨zo_none_tl, ?_⟩
  refine List.forall_mem_cons.mpr ⟨zo_none_tl, ?_⟩
  refine List.forall_mem_cons.mpr ⟨(zo_pushI_tl _ _), ?_⟩
  refine List.forall_mem_cons.mpr ⟨(zo_iret_tl _), ?_⟩
  exact fun _ h => absurd h List.not_mem_nil
noncomputable def fX12_field : zzFn := zz_fn tX12_field 3
noncomputable def tX12_managerOf : List zzOp := [
  zo_aload 0 1,
  zo_iload 1 2,
  zo_iload 2 3,
  zo_callv zzSR (zz_cl [(10, fX12_asksField)]) 2 6,
  zo_none,
  zo_none,
  zo_if (fun x => decide (x = 0)) 23 9,
  zo_none,
  zo_none,
  zo_aload 0 10,
  zo_getf zzSR (zz_kf [10] 10) 13,
  zo_none,
  zo_none,
  zo_pushI 11 15,
  zo_none,
  zo_iload 1 16,
  zo_ii (fun x y => x * y) 17,
  zo_iload 2 18,
  zo_ii (fun x y => x + y) 19,
  zo_iald zzSR zzSTR 20,
  zo_goto 24,
  zo_none,
  zo_none,
  zo_pushI 0 24,
  zo_iret false]
set_option maxRecDepth 100000 in
theorem tl_X12_managerOf : ∀ pc, zz_Tl (tX12_managerOf.getD pc zo_none) := by
  refine zz_Tl_mem ?_
  unfold tX12_managerOf
  refine List.forall_mem_cons.mpr ⟨(zo_aload_tl _ _), ?_⟩
  refine List.forall_mem_cons.mpr ⟨(zo_iload_tl _ _), ?_⟩
  refine List.forall_mem_cons.mpr ⟨(zo_iload_tl _ _), ?_⟩
  refine List.forall_mem_cons.mpr ⟨(zo_callv_tl _ _ _ _), ?_⟩
  refine List.forall_mem_cons.mpr ⟨zo_none_tl, ?_⟩
  refine List.forall_mem_cons.mpr ⟨zo_none_tl, ?_⟩
  refine List.forall_mem_cons.mpr ⟨(zo_if_tl _ _ _), ?_⟩
  refine List.forall_mem_cons.mpr ⟨zo_none_tl, ?_⟩
  refine List.forall_mem_cons.mpr ⟨zo_none_tl, ?_⟩
  refine List.forall_mem_cons.mpr ⟨(zo_aload_tl _ _), ?_⟩
  refine List.forall_mem_cons.mpr ⟨(zo_getf_tl _ _ _), ?_⟩
  refine List.forall_mem_cons.mpr ⟨zo_none_tl, ?_⟩
  refine List.forall_mem_cons.mpr ⟨zo_none_tl, ?_⟩
  refine List.forall_mem_cons.mpr ⟨(zo_pushI_tl _ _), ?_⟩
  refine List.forall_mem_cons.mpr ⟨zo_none_tl, ?_⟩
  refine List.forall_mem_cons.mpr ⟨(zo_iload_tl _ _), ?_⟩
  refine List.forall_mem_cons.mpr ⟨(zo_ii_tl _ _), ?_⟩
  refine List.forall_mem_cons.mpr ⟨(zo_iload_tl _ _), ?_⟩
  refine List.forall_mem_cons.mpr ⟨(zo_ii_tl _ _), ?_⟩
  refine List.forall_mem_cons.mpr ⟨(zo_iald_tl _ _ _), ?_⟩
  refine List.forall_mem_cons.mpr ⟨(zo_goto_tl _), ?_⟩
  refine List.forall_mem_cons.mpr ⟨zo_none_tl, ?_⟩
  refine List.forall_mem_cons.mpr ⟨zo_none_tl, ?_⟩
  refine List.forall_mem_cons.mpr ⟨(zo_pushI_tl _ _), ?_⟩
  refine List.forall_mem_cons.mpr ⟨(zo_iret_tl _), ?_⟩
  exact fun _ h => absurd h List.not_mem_nil
noncomputable def fX12_managerOf : zzFn := zz_fn tX12_managerOf 3
noncomputable def tX12_budget : List zzOp := [
  zo_aload 0 1,
  zo_iload 1 2,
  zo_pushI 0 3,
  zo_callv zzSR (zz_cl [(10, fX12_asksOf)]) 2 6,
  zo_none,
  zo_none,
  zo_if (fun x => decide (x = 0)) 38 9,
  zo_none,
  zo_none,
  zo_pushI 10 11,
  zo_none,
  zo_aload 0 12,
  zo_aload 0 13,
  zo_getf zzSR (zz_kf [10] 7) 16,
  zo_none,
  zo_none,
  zo_iload 1 17,
  zo_lald zzSR 18,
  zo_pushI 2 19,
  zo_callv zzSR (zz_cl [(10, fX12_get)]) 2 22,
  zo_none,
  zo_none,
  zo_ii (fun x y => x * y) 23,
  zo_aload 0 24,
  zo_aload 0 25,
  zo_getf zzSR (zz_kf [10] 7) 28,
  zo_none,
  zo_none,
  zo_iload 1 29,
  zo_lald zzSR 30,
  zo_pushI 3 31,
  zo_callv zzSR (zz_cl [(10, fX12_get)]) 2 34,
  zo_none,
  zo_none,
  zo_ii (fun x y => x + y) 35,
  zo_goto 39,
  zo_none,
  zo_none,
  zo_pushI 0 39,
  zo_iret false]
set_option maxRecDepth 100000 in
theorem tl_X12_budget : ∀ pc, zz_Tl (tX12_budget.getD pc zo_none) := by
  refine zz_Tl_mem ?_
  unfold tX12_budget
  refine List.forall_mem_cons.mpr ⟨(zo_aload_tl _ _), ?_⟩
  refine List.forall_mem_cons.mpr ⟨(zo_iload_tl _ _), ?_⟩
  refine List.forall_mem_cons.mpr ⟨(zo_pushI_tl _ _), ?_⟩
  refine List.forall_mem_cons.mpr ⟨(zo_callv_tl _ _ _ _), ?_⟩
  refine List.forall_mem_cons.mpr ⟨zo_none_tl, ?_⟩
  refine List.forall_mem_cons.mpr ⟨zo_none_tl, ?_⟩
  refine List.forall_mem_cons.mpr ⟨(zo_if_tl _ _ _), ?_⟩
  refine List.forall_mem_cons.mpr ⟨zo_none_tl, ?_⟩
  refine List.forall_mem_cons.mpr ⟨zo_none_tl, ?_⟩
  refine List.forall_mem_cons.mpr ⟨(zo_pushI_tl _ _), ?_⟩
  refine List.forall_mem_cons.mpr ⟨zo_none_tl, ?_⟩
  refine List.forall_mem_cons.mpr ⟨(zo_aload_tl _ _), ?_⟩
  refine List.forall_mem_cons.mpr ⟨(zo_aload_tl _ _), ?_⟩
  refine List.forall_mem_cons.mpr ⟨(zo_getf_tl _ _ _), ?_⟩
  refine List.forall_mem_cons.mpr ⟨zo_none_tl, ?_⟩
  refine List.forall_mem_cons.mpr ⟨zo_none_tl, ?_⟩
  refine List.forall_mem_cons.mpr ⟨(zo_iload_tl _ _), ?_⟩
  refine List.forall_mem_cons.mpr ⟨(zo_lald_tl _ _), ?_⟩
  refine List.forall_mem_cons.mpr ⟨(zo_pushI_tl _ _), ?_⟩
  refine List.forall_mem_cons.mpr ⟨(zo_callv_tl _ _ _ _), ?_⟩
  refine List.forall_mem_cons.mpr ⟨zo_none_tl, ?_⟩
  refine List.forall_mem_cons.mpr ⟨zo_none_tl, ?_⟩
  refine List.forall_mem_cons.mpr ⟨(zo_ii_tl _ _), ?_⟩
  refine List.forall_mem_cons.mpr ⟨(zo_aload_tl _ _), ?_⟩
  refine List.forall_mem_cons.mpr ⟨(zo_aload_tl _ _), ?_⟩
  refine List.forall_mem_cons.mpr ⟨(zo_getf_tl _ _ _), ?_⟩
  refine List.forall_mem_cons.mpr ⟨zo_none_tl, ?_⟩
  refine List.forall_mem_cons.mpr ⟨zo_none_tl, ?_⟩
  refine List.forall_mem_cons.mpr ⟨(zo_iload_tl _ _), ?_⟩
  refine List.forall_mem_cons.mpr ⟨(zo_lald_tl _ _), ?_⟩
  refine List.forall_mem_cons.mpr ⟨(zo_pushI_tl _ _), ?_⟩
  refine List.forall_mem_cons.mpr ⟨(zo_callv_tl _ _ _ _), ?_⟩
  refine List.forall_mem_cons.mpr ⟨zo_none_tl, ?_⟩
  refine List.forall_mem_cons.mpr ⟨zo_none_tl, ?_⟩
  refine List.forall_mem_cons.mpr ⟨(zo_ii_tl _ _), ?_⟩
  refine List.forall_mem_cons.mpr ⟨(zo_goto_tl _), ?_⟩
  refine List.forall_mem_cons.mpr ⟨zo_none_tl, ?_⟩
  refine List.forall_mem_cons.mpr ⟨zo_none_tl, ?_⟩
  refine List.forall_mem_cons.mpr ⟨(zo_pushI_tl _ _), ?_⟩
  refine List.forall_mem_cons.mpr ⟨(zo_iret_tl _), ?_⟩
  exact fun _ h => absurd h List.not_mem_nil
noncomputable def fX12_budget : zzFn := zz_fn tX12_budget 2
noncomputable def tX12_versionOf : List zzOp := [
  zo_aload 0 1,
  zo_iload 1 2,
  zo_callv zzSR (zz_cl [(10, fX12_asksObject)]) 1 5,
  zo_none,
  zo_none,
  zo_if (fun x => decide (x = 0)) 17 8,
  zo_none,
  zo_none,
  zo_aload 0 9,
  zo_getf zzSR (zz_kf [10] 9) 12,
  zo_none,
  zo_none,
  zo_iload 1 13,
  zo_iald zzSR zzSTR 14,
  zo_goto 18,
  zo_none,
  zo_none,
  zo_pushI 0 18,
  zo_iret false]
set_option maxRecDepth 100000 in
theorem tl_X12_versionOf : ∀ pc, zz_Tl (tX12_versionOf.getD pc zo_none) := by
  refine zz_Tl_mem ?_
  unfold tX12_versionOf
  refine List.forall_mem_cons.mpr ⟨(zo_aload_tl _ _), ?_⟩
  refine List.forall_mem_cons.mpr ⟨(zo_iload_tl _ _), ?_⟩
  refine List.forall_mem_cons.mpr ⟨(zo_callv_tl _ _ _ _), ?_⟩
  refine List.forall_mem_cons.mpr ⟨zo_none_tl, ?_⟩
  refine List.forall_mem_cons.mpr ⟨zo_none_tl, ?_⟩
  refine List.forall_mem_cons.mpr ⟨(zo_if_tl _ _ _), ?_⟩
  refine List.forall_mem_cons.mpr ⟨zo_none_tl, ?_⟩
  refine List.forall_mem_cons.mpr ⟨zo_none_tl, ?_⟩
  refine List.forall_mem_cons.mpr ⟨(zo_aload_tl _ _), ?_⟩
  refine List.forall_mem_cons.mpr ⟨(zo_getf_tl _ _ _), ?_⟩
  refine List.forall_mem_cons.mpr ⟨zo_none_tl, ?_⟩
  refine List.forall_mem_cons.mpr ⟨zo_none_tl, ?_⟩
  refine List.forall_mem_cons.mpr ⟨(zo_iload_tl _ _), ?_⟩
  refine List.forall_mem_cons.mpr ⟨(zo_iald_tl _ _ _), ?_⟩
  refine List.forall_mem_cons.mpr ⟨(zo_goto_tl _), ?_⟩
  refine List.forall_mem_cons.mpr ⟨zo_none_tl, ?_⟩
  refine List.forall_mem_cons.mpr ⟨zo_none_tl, ?_⟩
  refine List.forall_mem_cons.mpr ⟨(zo_pushI_tl _ _), ?_⟩
  refine List.forall_mem_cons.mpr ⟨(zo_iret_tl _), ?_⟩
  exact fun _ h => absurd h List.not_mem_nil
noncomputable def fX12_versionOf : zzFn := zz_fn tX12_versionOf 2
noncomputable def tX12_goingOf : List zzOp := [
  zo_aload 0 1,
  zo_iload 1 2,
  zo_callv zzSR (zz_cl [(10, fX12_asksObject)]) 1 5,
  zo_none,
  zo_none,
  zo_if (fun x => decide (x = 0)) 23 8,
  zo_none,
  zo_none,
  zo_aload 0 9,
  zo_aload 0 10,
  zo_getf zzSR (zz_kf [10] 7) 13,
  zo_none,
  zo_none,
  zo_iload 1 14,
  zo_lald zzSR 15,
  zo_pushI 13 17,
  zo_none,
  zo_callv zzSR (zz_cl [(10, fX12_get)]) 2 20,
  zo_none,
  zo_none,
  zo_goto 24,
  zo_none,
  zo_none,
  zo_pushI 0 24,
  zo_iret false]
set_option maxRecDepth 100000 in
theorem tl_X12_goingOf : ∀ pc, zz_Tl (tX12_goingOf.getD pc zo_none) := by
  refine zz_Tl_mem ?_
  unfold tX12_goingOf
  refine List.forall_mem_cons.mpr ⟨(zo_aload_tl _ _), ?_⟩
  refine List.forall_mem_cons.mpr ⟨(zo_iload_tl _ _), ?_⟩
  refine List.forall_mem_cons.mpr ⟨(zo_callv_tl _ _ _ _), ?_⟩
  refine List.forall_mem_cons.mpr ⟨zo_none_tl, ?_⟩
  refine List.forall_mem_cons.mpr ⟨zo_none_tl, ?_⟩
  refine List.forall_mem_cons.mpr ⟨(zo_if_tl _ _ _), ?_⟩
  refine List.forall_mem_cons.mpr ⟨zo_none_tl, ?_⟩
  refine List.forall_mem_cons.mpr ⟨zo_none_tl, ?_⟩
  refine List.forall_mem_cons.mpr ⟨(zo_aload_tl _ _), ?_⟩
  refine List.forall_mem_cons.mpr ⟨(zo_aload_tl _ _), ?_⟩
  refine List.forall_mem_cons.mpr ⟨(zo_getf_tl _ _ _), ?_⟩
  refine List.forall_mem_cons.mpr ⟨zo_none_tl, ?_⟩
  refine List.forall_mem_cons.mpr ⟨zo_none_tl, ?_⟩
  refine List.forall_mem_cons.mpr ⟨(zo_iload_tl _ _), ?_⟩
  refine List.forall_mem_cons.mpr ⟨(zo_lald_tl _ _), ?_⟩
  refine List.forall_mem_cons.mpr ⟨(zo_pushI_tl _ _), ?_⟩
  refine List.forall_mem_cons.mpr ⟨zo_none_tl, ?_⟩
  refine List.forall_mem_cons.mpr ⟨(zo_callv_tl _ _ _ _), ?_⟩
  refine List.forall_mem_cons.mpr ⟨zo_none_tl, ?_⟩
  refine List.forall_mem_cons.mpr ⟨zo_none_tl, ?_⟩
  refine List.forall_mem_cons.mpr ⟨(zo_goto_tl _), ?_⟩
  refine List.forall_mem_cons.mpr ⟨zo_none_tl, ?_⟩
  refine List.forall_mem_cons.mpr ⟨zo_none_tl, ?_⟩
  refine List.forall_mem_cons.mpr ⟨(zo_pushI_tl _ _), ?_⟩
  refine List.forall_mem_cons.mpr ⟨(zo_iret_tl _), ?_⟩
  exact fun _ h => absurd h List.not_mem_nil
noncomputable def fX12_goingOf : zzFn := zz_fn tX12_goingOf 2
noncomputable def tX12_ownerOf : List zzOp := [
  zo_aload 0 1,
  zo_iload 1 2,
  zo_callv zzSR (zz_cl [(10, fX12_asksObject)]) 1 5,
  zo_none,
  zo_none,
  zo_if (fun x => decide (x = 0)) 21 8,
  zo_none,
  zo_none,
  zo_aload 0 9,
  zo_aload 0 10,
  zo_getf zzSR (zz_kf [10] 7) 13,
  zo_none,
  zo_none,
  zo_iload 1 14,
  zo_lald zzSR 15,
  zo_callv zzSR (zz_cl [(10, fX12_ownerIn)]) 1 18,
  zo_none,
  zo_none,
  zo_goto 22,
  zo_none,
  zo_none,
  zo_pushI 0 22,
  zo_iret false]
set_option maxRecDepth 100000 in
theorem tl_X12_ownerOf : ∀ pc, zz_Tl (tX12_ownerOf.getD pc zo_none) := by
  refine zz_Tl_mem ?_
  unfold tX12_ownerOf
  refine List.forall_mem_cons.mpr ⟨(zo_aload_tl _ _), ?_⟩
  refine List.forall_mem_cons.mpr ⟨(zo_iload_tl _ _), ?_⟩
  refine List.forall_mem_cons.mpr ⟨(zo_callv_tl _ _ _ _), ?_⟩
  refine List.forall_mem_cons.mpr ⟨zo_none_tl, ?_⟩
  refine List.forall_mem_cons.mpr ⟨zo_none_tl, ?_⟩
  refine List.forall_mem_cons.mpr ⟨(zo_if_tl _ _ _), ?_⟩
  refine List.forall_mem_cons.mpr ⟨zo_none_tl, ?_⟩
  refine List.forall_mem_cons.mpr ⟨zo_none_tl, ?_⟩
  refine List.forall_mem_cons.mpr ⟨(zo_aload_tl _ _), ?_⟩
  refine List.forall_mem_cons.mpr ⟨(zo_aload_tl _ _), ?_⟩
  refine List.forall_mem_cons.mpr ⟨(zo_getf_tl _ _ _), ?_⟩
  refine List.forall_mem_cons.mpr ⟨zo_none_tl, ?_⟩
  refine List.forall_mem_cons.mpr ⟨zo_none_tl, ?_⟩
  refine List.forall_mem_cons.mpr ⟨(zo_iload_tl _ _), ?_⟩
  refine List.forall_mem_cons.mpr ⟨(zo_lald_tl _ _), ?_⟩
  refine List.forall_mem_cons.mpr ⟨(zo_callv_tl _ _ _ _), ?_⟩
  refine List.forall_mem_cons.mpr ⟨zo_none_tl, ?_⟩
  refine List.forall_mem_cons.mpr ⟨zo_none_tl, ?_⟩
  refine List.forall_mem_cons.mpr ⟨(zo_goto_tl _), ?_⟩
  refine List.forall_mem_cons.mpr ⟨zo_none_tl, ?_⟩
  refine List.forall_mem_cons.mpr ⟨zo_none_tl, ?_⟩
  refine List.forall_mem_cons.mpr ⟨(zo_pushI_tl _ _), ?_⟩
  refine List.forall_mem_cons.mpr ⟨(zo_iret_tl _), ?_⟩
  exact fun _ h => absurd h List.not_mem_nil
noncomputable def fX12_ownerOf : zzFn := zz_fn tX12_ownerOf 2
noncomputable def tX12_phaseOf : List zzOp := [
  zo_aload 0 1,
  zo_iload 1 2,
  zo_pushI 2 3,
  zo_callv zzSR (zz_cl [(10, fX12_asksOf)]) 2 6,
  zo_none,
  zo_none,
  zo_if (fun x => decide (x = 0)) 24 9,
  zo_none,
  zo_none,
  zo_aload 0 10,
  zo_aload 0 11,
  zo_getf zzSR (zz_kf [10] 7) 14,
  zo_none,
  zo_none,
  zo_iload 1 15,
  zo_lald zzSR 16,
  zo_pushI 16 18,
  zo_none,
  zo_callv zzSR (zz_cl [(10, fX12_get)]) 2 21,
  zo_none,
  zo_none,
  zo_goto 25,
  zo_none,
  zo_none,
  zo_pushI 0 25,
  zo_iret false]
set_option maxRecDepth 100000 in
theorem tl_X12_phaseOf : ∀ pc, zz_Tl (tX12_phaseOf.getD pc zo_none) := by
  refine zz_Tl_mem ?_
  unfold tX12_phaseOf
  refine List.forall_mem_cons.mpr ⟨(zo_aload_tl _ _), ?_⟩
  refine List.forall_mem_cons.mpr ⟨(zo_iload_tl _ _), ?_⟩
  refine List.forall_mem_cons.mpr ⟨(zo_pushI_tl _ _), ?_⟩
  refine List.forall_mem_cons.mpr ⟨(zo_callv_tl _ _ _ _), ?_⟩
  refine List.forall_mem_cons.mpr ⟨zo_none_tl, ?_⟩
  refine List.forall_mem_cons.mpr ⟨zo_none_tl, ?_⟩
  refine List.forall_mem_cons.mpr ⟨(zo_if_tl _ _ _), ?_⟩
  refine List.forall_mem_cons.mpr ⟨zo_none_tl, ?_⟩
  refine List.forall_mem_cons.mpr ⟨zo_none_tl, ?_⟩
  refine List.forall_mem_cons.mpr ⟨(zo_aload_tl _ _), ?_⟩
  refine List.forall_mem_cons.mpr ⟨(zo_aload_tl _ _), ?_⟩
  refine List.forall_mem_cons.mpr ⟨(zo_getf_tl _ _ _), ?_⟩
  refine List.forall_mem_cons.mpr ⟨zo_none_tl, ?_⟩
  refine List.forall_mem_cons.mpr ⟨zo_none_tl, ?_⟩
  refine List.forall_mem_cons.mpr ⟨(zo_iload_tl _ _), ?_⟩
  refine List.forall_mem_cons.mpr ⟨(zo_lald_tl _ _), ?_⟩
  refine List.forall_mem_cons.mpr ⟨(zo_pushI_tl _ _), ?_⟩
  refine List.forall_mem_cons.mpr ⟨zo_none_tl, ?_⟩
  refine List.forall_mem_cons.mpr ⟨(zo_callv_tl _ _ _ _), ?_⟩
  refine List.forall_mem_cons.mpr ⟨zo_none_tl, ?_⟩
  refine List.forall_mem_cons.mpr ⟨zo_none_tl, ?_⟩
  refine List.forall_mem_cons.mpr ⟨(zo_goto_tl _), ?_⟩
  refine List.forall_mem_cons.mpr ⟨zo_none_tl, ?_⟩
  refine List.forall_mem_cons.mpr ⟨zo_none_tl, ?_⟩
  refine List.forall_mem_cons.mpr ⟨(zo_pushI_tl _ _), ?_⟩
  refine List.forall_mem_cons.mpr ⟨(zo_iret_tl _), ?_⟩
  exact fun _ h => absurd h List.not_mem_nil
noncomputable def fX12_phaseOf : zzFn := zz_fn tX12_phaseOf 2
noncomputable def tX12_placeOf : List zzOp := [
  zo_aload 0 1,
  zo_iload 1 2,
  zo_pushI 2 3,
  zo_callv zzSR (zz_cl [(10, fX12_asksOf)]) 2 6,
  zo_none,
  zo_none,
  zo_if (fun x => decide (x = 0)) 26 9,
  zo_none,
  zo_none,
  zo_aload 0 10,
  zo_aload 0 11,
  zo_getf zzSR (zz_kf [10] 7) 14,
  zo_none,
  zo_none,
  zo_iload 1 15,
  zo_lald zzSR 16,
  zo_pushI 15 18,
  zo_none,
  zo_callv zzSR (zz_cl [(10, fX12_get)]) 2 21,
  zo_none,
  zo_none,
  zo_pushI 1 22,
  zo_ii (fun x y => x - y) 23,
  zo_goto 27,
  zo_none,
  zo_none,
  zo_pushI 0 27,
  zo_iret false]
set_option maxRecDepth 100000 in
theorem tl_X12_placeOf : ∀ pc, zz_Tl (tX12_placeOf.getD pc zo_none) := by
  refine zz_Tl_mem ?_
  unfold tX12_placeOf
  refine List.forall_mem_cons.mpr ⟨(zo_aload_tl _ _), ?_⟩
  refine List.forall_mem_cons.mpr ⟨(zo_iload_tl _ _), ?_⟩
  refine List.forall_mem_cons.mpr ⟨(zo_pushI_tl _ _), ?_⟩
  refine List.forall_mem_cons.mpr ⟨(zo_callv_tl _ _ _ _), ?_⟩
  refine List.forall_mem_cons.mpr ⟨zo_none_tl, ?_⟩
  refine List.forall_mem_cons.mpr ⟨zo_none_tl, ?_⟩
  refine List.forall_mem_cons.mpr ⟨(zo_if_tl _ _ _), ?_⟩
  refine List.forall_mem_cons.mpr ⟨zo_none_tl, ?_⟩
  refine List.forall_mem_cons.mpr ⟨zo_none_tl, ?_⟩
  refine List.forall_mem_cons.mpr ⟨(zo_aload_tl _ _), ?_⟩
  refine List.forall_mem_cons.mpr ⟨(zo_aload_tl _ _), ?_⟩
  refine List.forall_mem_cons.mpr ⟨(zo_getf_tl _ _ _), ?_⟩
  refine List.forall_mem_cons.mpr ⟨zo_none_tl, ?_⟩
  refine List.forall_mem_cons.mpr ⟨zo_none_tl, ?_⟩
  refine List.forall_mem_cons.mpr ⟨(zo_iload_tl _ _), ?_⟩
  refine List.forall_mem_cons.mpr ⟨(zo_lald_tl _ _), ?_⟩
  refine List.forall_mem_cons.mpr ⟨(zo_pushI_tl _ _), ?_⟩
  refine List.forall_mem_cons.mpr ⟨zo_none_tl, ?_⟩
  refine List.forall_mem_cons.mpr ⟨(zo_callv_tl _ _ _ _), ?_⟩
  refine List.forall_mem_cons.mpr ⟨zo_none_tl, ?_⟩
  refine List.forall_mem_cons.mpr ⟨zo_none_tl, ?_⟩
  refine List.forall_mem_cons.mpr ⟨(zo_pushI_tl _ _), ?_⟩
  refine List.forall_mem_cons.mpr ⟨(zo_ii_tl _ _), ?_⟩
  refine List.forall_mem_cons.mpr ⟨(zo_goto_tl _), ?_⟩
  refine List.forall_mem_cons.mpr ⟨zo_none_tl, ?_⟩
  refine List.forall_mem_cons.mpr ⟨zo_none_tl, ?_⟩
  refine List.forall_mem_cons.mpr ⟨(zo_pushI_tl _ _), ?_⟩
  refine List.forall_mem_cons.mpr ⟨(zo_iret_tl _), ?_⟩
  exact fun _ h => absurd h List.not_mem_nil
noncomputable def fX12_placeOf : zzFn := zz_fn tX12_placeOf 2
noncomputable def tX12_isReady : List zzOp := [
  zo_aload 0 1,
  zo_iload 1 2,
  zo_pushI 4 3,
  zo_callv zzSR (zz_cl [(10, fX12_asksOf)]) 2 6,
  zo_none,
  zo_none,
  zo_if (fun x => decide (x = 0)) 29 9,
  zo_none,
  zo_none,
  zo_aload 0 10,
  zo_aload 0 11,
  zo_getf zzSR (zz_kf [10] 7) 14,
  zo_none,
  zo_none,
  zo_iload 1 15,
  zo_lald zzSR 16,
  zo_pushI 14 18,
  zo_none,
  zo_callv zzSR (zz_cl [(10, fX12_get)]) 2 21,
  zo_none,
  zo_none,
  zo_pushI 1 22,
  zo_icmp (fun x y => decide (¬ x = y)) 29 25,
  zo_none,
  zo_none,
  zo_pushI 1 26,
  zo_goto 30,
  zo_none,
  zo_none,
  zo_pushI 0 30,
  zo_iret true]
set_option maxRecDepth 100000 in
theorem tl_X12_isReady : ∀ pc, zz_Tl (tX12_isReady.getD pc zo_none) := by
  refine zz_Tl_mem ?_
  unfold tX12_isReady
  refine List.forall_mem_cons.mpr ⟨(zo_aload_tl _ _), ?_⟩
  refine List.forall_mem_cons.mpr ⟨(zo_iload_tl _ _), ?_⟩
  refine List.forall_mem_cons.mpr ⟨(zo_pushI_tl _ _), ?_⟩
  refine List.forall_mem_cons.mpr ⟨(zo_callv_tl _ _ _ _), ?_⟩
  refine List.forall_mem_cons.mpr ⟨zo_none_tl, ?_⟩
  refine List.forall_mem_cons.mpr ⟨zo_none_tl, ?_⟩
  refine List.forall_mem_cons.mpr ⟨(zo_if_tl _ _ _), ?_⟩
  refine List.forall_mem_cons.mpr ⟨zo_none_tl, ?_⟩
  refine List.forall_mem_cons.mpr ⟨zo_none_tl, ?_⟩
  refine List.forall_mem_cons.mpr ⟨(zo_aload_tl _ _), ?_⟩
  refine List.forall_mem_cons.mpr ⟨(zo_aload_tl _ _), ?_⟩
  refine List.forall_mem_cons.mpr ⟨(zo_getf_tl _ _ _), ?_⟩
  refine List.forall_mem_cons.mpr ⟨zo_none_tl, ?_⟩
  refine List.forall_mem_cons.mpr ⟨zo_none_tl, ?_⟩
  refine List.forall_mem_cons.mpr ⟨(zo_iload_tl _ _), ?_⟩
  refine List.forall_mem_cons.mpr ⟨(zo_lald_tl _ _), ?_⟩
  refine List.forall_mem_cons.mpr ⟨(zo_pushI_tl _ _), ?_⟩
  refine List.forall_mem_cons.mpr ⟨zo_none_tl, ?_⟩
  refine List.forall_mem_cons.mpr ⟨(zo_callv_tl _ _ _ _), ?_⟩
  refine List.forall_mem_cons.mpr ⟨zo_none_tl, ?_⟩
  refine List.forall_mem_cons.mpr ⟨zo_none_tl, ?_⟩
  refine List.forall_mem_cons.mpr ⟨(zo_pushI_tl _ _), ?_⟩
  refine List.forall_mem_cons.mpr ⟨(zo_icmp_tl _ _ _), ?_⟩
  refine List.forall_mem_cons.mpr ⟨zo_none_tl, ?_⟩
  refine List.forall_mem_cons.mpr ⟨zo_none_tl, ?_⟩
  refine List.forall_mem_cons.mpr ⟨(zo_pushI_tl _ _), ?_⟩
  refine List.forall_mem_cons.mpr ⟨(zo_goto_tl _), ?_⟩
  refine List.forall_mem_cons.mpr ⟨zo_none_tl, ?_⟩
  refine List.forall_mem_cons.mpr ⟨zo_none_tl, ?_⟩
  refine List.forall_mem_cons.mpr ⟨(zo_pushI_tl _ _), ?_⟩
  refine List.forall_mem_cons.mpr ⟨(zo_iret_tl _), ?_⟩
  exact fun _ h => absurd h List.not_mem_nil
noncomputable def fX12_isReady : zzFn := zz_fn tX12_isReady 2
noncomputable def tX12_isBehind : List zzOp := [
  zo_aload 0 1,
  zo_iload 1 2,
  zo_callv zzSR (zz_cl [(10, fX12_isObject)]) 1 5,
  zo_none,
  zo_none,
  zo_if (fun x => decide (x = 0)) 20 8,
  zo_none,
  zo_none,
  zo_aload 0 9,
  zo_iload 2 10,
  zo_callv zzSR (zz_cl [(10, fX12_isObject)]) 1 13,
  zo_none,
  zo_none,
  zo_if (fun x => decide (x = 0)) 20 16,
  zo_none,
  zo_none,
  zo_pushI 1 17,
  zo_goto 21,
  zo_none,
  zo_none,
  zo_pushI 0 21,
  zo_istore 3 22,
  zo_aload 0 23,
  zo_iload 3 24,
  zo_if (fun x => decide (¬ x = 0)) 31 27,
  zo_none,
  zo_none,
  zo_pushI 1 28,
  zo_goto 46,
  zo_none,
  zo_none,
  zo_aload 0 32,
  zo_getf zzSR (zz_kf [10] 6) 35,
  zo_none,
  zo_none,
  zo_iload 1 36,
  zo_iald zzSR zzSTR 37,
  zo_pushI 5 38,
  zo_icmp (fun x y => decide (¬ x = y)) 45 41,
  zo_none,
  zo_none,
  zo_pushI 0 42,
  zo_goto 46,
  zo_none,
  zo_none,
  zo_pushI 2 46,
  zo_callv zzSR (zz_cl [(10, fX12_goes)]) 1 49,
  zo_none,
  zo_none,
  zo_if (fun x => decide (x = 0)) 69 52,
  zo_none,
  zo_none,
  zo_aload 0 53,
  zo_getf zzSR (zz_kf [10] 8) 56,
  zo_none,
  zo_none,
  zo_iload 1 57,
  zo_lald zzSR 58,
  zo_iload 2 59,
  zo_calls fX12_isOf 2 62,
  zo_none,
  zo_none,
  zo_if (fun x => decide (x = 0)) 69 65,
  zo_none,
  zo_none,
  zo_pushI 1 66,
  zo_goto 70,
  zo_none,
  zo_none,
  zo_pushI 0 70,
  zo_iret true]
set_option maxRecDepth 100000 in
theorem tl_X12_isBehind : ∀ pc, zz_Tl (tX12_isBehind.getD pc zo_none) := by
  refine zz_Tl_mem ?_
  unfold tX12_isBehind
  refine List.forall_mem_cons.mpr ⟨(zo_aload_tl _ _), ?_⟩
  refine List.forall_mem_cons.mpr ⟨(zo_iload_tl _ _), ?_⟩
  refine List.forall_mem_cons.mpr ⟨(zo_callv_tl _ _ _ _), ?_⟩
  refine List.forall_mem_cons.mpr ⟨zo_none_tl, ?_⟩
  refine List.forall_mem_cons.mpr ⟨zo_none_tl, ?_⟩
  refine List.forall_mem_cons.mpr ⟨(zo_if_tl _ _ _), ?_⟩
  refine List.forall_mem_cons.mpr ⟨zo_none_tl, ?_⟩
  refine List.forall_mem_cons.mpr ⟨zo_none_tl, ?_⟩
  refine List.forall_mem_cons.mpr ⟨(zo_aload_tl _ _), ?_⟩
  refine List.forall_mem_cons.mpr ⟨(zo_iload_tl _ _), ?_⟩
  refine List.forall_mem_cons.mpr ⟨(zo_callv_tl _ _ _ _), ?_⟩
  refine List.forall_mem_cons.mpr ⟨zo_none_tl, ?_⟩
  refine List.forall_mem_cons.mpr ⟨zo_none_tl, ?_⟩
  refine List.forall_mem_cons.mpr ⟨(zo_if_tl _ _ _), ?_⟩
  refine List.forall_mem_cons.mpr ⟨zo_none_tl, ?_⟩
  refine List.forall_mem_cons.mpr ⟨zo_none_tl, ?_⟩
  refine List.forall_mem_cons.mpr ⟨(zo_pushI_tl _ _), ?_⟩
  refine List.forall_mem_cons.mpr ⟨(zo_goto_tl _), ?_⟩
  refine List.forall_mem_cons.mpr ⟨zo_none_tl, ?_⟩
  refine List.forall_mem_cons.mpr ⟨zo_none_tl, ?_⟩
  refine List.forall_mem_cons.mpr ⟨(zo_pushI_tl _ _), ?_⟩
  refine List.forall_mem_cons.mpr ⟨(zo_istore_tl _ _), ?_⟩
  refine List.forall_mem_cons.mpr ⟨(zo_aload_tl _ _), ?_⟩
  refine List.forall_mem_cons.mpr ⟨(zo_iload_tl _ _), ?_⟩
  refine List.forall_mem_cons.mpr ⟨(zo_if_tl _ _ _), ?_⟩
  refine List.forall_mem_cons.mpr ⟨zo_none_tl, ?_⟩
  refine List.forall_mem_cons.mpr ⟨zo_none_tl, ?_⟩
  refine List.forall_mem_cons.mpr ⟨(zo_pushI_tl _ _), ?_⟩
  refine List.forall_mem_cons.mpr ⟨(zo_goto_tl _), ?_⟩
  refine List.forall_mem_cons.mpr ⟨zo_none_tl, ?_⟩
  refine List.forall_mem_cons.mpr ⟨zo_none_tl, ?_⟩
  refine List.forall_mem_cons.mpr ⟨(zo_aload_tl _ _), ?_⟩
  refine List.forall_mem_cons.mpr ⟨(zo_getf_tl _ _ _), ?_⟩
  refine List.forall_mem_cons.mpr ⟨zo_none_tl, ?_⟩
  refine List.forall_mem_cons.mpr ⟨zo_none_tl, ?_⟩
  refine List.forall_mem_cons.mpr ⟨(zo_iload_tl _ _), ?_⟩
  refine List.forall_mem_cons.mpr ⟨(zo_iald_tl _ _ _), ?_⟩
  refine List.forall_mem_cons.mpr ⟨(zo_pushI_tl _ _), ?_⟩
  refine List.forall_mem_cons.mpr ⟨(zo_icmp_tl _ _ _), ?_⟩
  refine List.forall_mem_cons.mpr ⟨zo_none_tl, ?_⟩
  refine List.forall_mem_cons.mpr ⟨zo_none_tl, ?_⟩
  refine List.forall_mem_cons.mpr ⟨(zo_pushI_tl _ _), ?_⟩
  refine List.forall_mem_cons.mpr ⟨(zo_goto_tl _), ?_⟩
  refine List.forall_mem_cons.mpr ⟨zo_none_tl, ?_⟩
  refine List.forall_mem_cons.mpr ⟨zo_none_tl, ?_⟩
  refine List.forall_mem_cons.mpr ⟨(zo_pushI_tl _ _), ?_⟩
  refine List.forall_mem_cons.mpr ⟨(zo_callv_tl _ _ _ _), ?_⟩
  refine List.forall_mem_cons.mpr ⟨zo_none_tl, ?_⟩
  refine List.forall_mem_cons.mpr ⟨zo_none_tl, ?_⟩
  refine List.forall_mem_cons.mpr ⟨(zo_if_tl _ _ _), ?_⟩
  refine List.forall_mem_cons.mpr ⟨zo_none_tl, ?_⟩
  refine List.forall_mem_cons.mpr ⟨zo_none_tl, ?_⟩
  refine List.forall_mem_cons.mpr ⟨(zo_aload_tl _ _), ?_⟩
  refine List.forall_mem_cons.mpr ⟨(zo_getf_tl _ _ _), ?_⟩
  refine List.forall_mem_cons.mpr ⟨zo_none_tl, ?_⟩
  refine List.forall_mem_cons.mpr ⟨zo_none_tl, ?_⟩
  refine List.forall_mem_cons.mpr ⟨(zo_iload_tl _ _), ?_⟩
  refine List.forall_mem_cons.mpr ⟨(zo_lald_tl _ _), ?_⟩
  refine List.forall_mem_cons.mpr ⟨(zo_iload_tl _ _), ?_⟩
  refine List.forall_mem_cons.mpr ⟨(zo_calls_tl _ _ _), ?_⟩
  refine List.forall_mem_cons.mpr ⟨zo_none_tl, ?_⟩
  refine List.forall_mem_cons.mpr ⟨zo_none_tl, ?_⟩
  refine List.forall_mem_cons.mpr ⟨(zo_if_tl _ _ _), ?_⟩
  refine List.forall_mem_cons.mpr ⟨zo_none_tl, ?_⟩
  refine List.forall_mem_cons.mpr ⟨zo_none_tl, ?_⟩
  refine List.forall_mem_cons.mpr ⟨(zo_pushI_tl _ _), ?_⟩
  refine List.forall_mem_cons.mpr ⟨(zo_goto_tl _), ?_⟩
  refine List.forall_mem_cons.mpr ⟨zo_none_tl, ?_⟩
  refine List.forall_mem_cons.mpr ⟨zo_none_tl, ?_⟩
  refine List.forall_mem_cons.mpr ⟨(zo_pushI_tl _ _), ?_⟩
  refine List.forall_mem_cons.mpr ⟨(zo_iret_tl _), ?_⟩
  exact fun _ h => absurd h List.not_mem_nil
noncomputable def fX12_isBehind : zzFn := zz_fn tX12_isBehind 4
noncomputable def tX12_isSetOf : List zzOp := [
  zo_iload 1 1,
  zo_pushI (-1) 2,
  zo_icmp (fun x y => decide (x = y)) 48 5,
  zo_none,
  zo_none,
  zo_aload 0 6,
  zo_getf zzSR (zz_kf [10] 6) 9,
  zo_none,
  zo_none,
  zo_iload 1 10,
  zo_iald zzSR zzSTR 11,
  zo_pushI 1 12,
  zo_icmp (fun x y => decide (¬ x = y)) 48 15,
  zo_none,
  zo_none,
  zo_aload 0 16,
  zo_aload 0 17,
  zo_getf zzSR (zz_kf [10] 7) 20,
  zo_none,
  zo_none,
  zo_iload 1 21,
  zo_lald zzSR 22,
  zo_pushI 13 24,
  zo_none,
  zo_callv zzSR (zz_cl [(10, fX12_get)]) 2 27,
  zo_none,
  zo_none,
  zo_if (fun x => decide (¬ x = 0)) 48 30,
  zo_none,
  zo_none,
  zo_aload 0 31,
  zo_aload 0 32,
  zo_getf zzSR (zz_kf [10] 7) 35,
  zo_none,
  zo_none,
  zo_iload 1 36,
  zo_lald zzSR 37,
  zo_callv zzSR (zz_cl [(10, fX12_ownerIn)]) 1 40,
  zo_none,
  zo_none,
  zo_iload 2 41,
  zo_icmp (fun x y => decide (¬ x = y)) 48 44,
  zo_none,
  zo_none,
  zo_pushI 1 45,
  zo_goto 49,
  zo_none,
  zo_none,
  zo_pushI 0 49,
  zo_iret true]
set_option maxRecDepth 100000 in
theorem tl_X12_isSetOf : ∀ pc, zz_Tl (tX12_isSetOf.getD pc zo_none) := by
  refine zz_Tl_mem ?_
  unfold tX12_isSetOf
  refine List.forall_mem_cons.mpr ⟨(zo_iload_tl _ _), ?_⟩
  refine List.forall_mem_cons.mpr ⟨(zo_pushI_tl _ _), ?_⟩
  refine List.forall_mem_cons.mpr ⟨(zo_icmp_tl _ _ _), ?_⟩
  refine List.forall_mem_cons.mpr ⟨zo_none_tl, ?_⟩
  refine List.forall_mem_cons.mpr ⟨zo_none_tl, ?_⟩
  refine List.forall_mem_cons.mpr ⟨(zo_aload_tl _ _), ?_⟩
  refine List.forall_mem_cons.mpr ⟨(zo_getf_tl _ _ _), ?_⟩
  refine List.forall_mem_cons.mpr ⟨zo_none_tl, ?_⟩
  refine List.forall_mem_cons.mpr ⟨zo_none_tl, ?_⟩
  refine List.forall_mem_cons.mpr ⟨(zo_iload_tl _ _), ?_⟩
  refine List.forall_mem_cons.mpr ⟨(zo_iald_tl _ _ _), ?_⟩
  refine List.forall_mem_cons.mpr ⟨(zo_pushI_tl _ _), ?_⟩
  refine List.forall_mem_cons.mpr ⟨(zo_icmp_tl _ _ _), ?_⟩
  refine List.forall_mem_cons.mpr ⟨zo_none_tl, ?_⟩
  refine List.forall_mem_cons.mpr ⟨zo_none_tl, ?_⟩
  refine List.forall_mem_cons.mpr ⟨(zo_aload_tl _ _), ?_⟩
  refine List.forall_mem_cons.mpr ⟨(zo_aload_tl _ _), ?_⟩
  refine List.forall_mem_cons.mpr ⟨(zo_getf_tl _ _ _), ?_⟩
  refine List.forall_mem_cons.mpr ⟨zo_none_tl, ?_⟩
  refine List.forall_mem_cons.mpr ⟨zo_none_tl, ?_⟩
  refine List.forall_mem_cons.mpr ⟨(zo_iload_tl _ _), ?_⟩
  refine List.forall_mem_cons.mpr ⟨(zo_lald_tl _ _), ?_⟩
  refine List.forall_mem_cons.mpr ⟨(zo_pushI_tl _ _), ?_⟩
  refine List.forall_mem_cons.mpr ⟨zo_none_tl, ?_⟩
  refine List.forall_mem_cons.mpr ⟨(zo_callv_tl _ _ _ _), ?_⟩
  refine List.forall_mem_cons.mpr ⟨zo_none_tl, ?_⟩
  refine List.forall_mem_cons.mpr ⟨zo_none_tl, ?_⟩
  refine List.forall_mem_cons.mpr ⟨(zo_if_tl _ _ _), ?_⟩
  refine List.forall_mem_cons.mpr ⟨zo_none_tl, ?_⟩
  refine List.forall_mem_cons.mpr ⟨zo_none_tl, ?_⟩
  refine List.forall_mem_cons.mpr ⟨(zo_aload_tl _ _), ?_⟩
  refine List.forall_mem_cons.mpr ⟨(zo_aload_tl _ _), ?_⟩
  refine List.forall_mem_cons.mpr ⟨(zo_getf_tl _ _ _), ?_⟩
  refine List.forall_mem_cons.mpr ⟨zo_none_tl, ?_⟩
  refine List.forall_mem_cons.mpr ⟨zo_none_tl, ?_⟩
  refine List.forall_mem_cons.mpr ⟨(zo_iload_tl _ _), ?_⟩
  refine List.forall_mem_cons.mpr ⟨(zo_lald_tl _ _), ?_⟩
  refine List.forall_mem_cons.mpr ⟨(zo_callv_tl _ _ _ _), ?_⟩
  refine List.forall_mem_cons.mpr ⟨zo_none_tl, ?_⟩
  refine List.forall_mem_cons.mpr ⟨zo_none_tl, ?_⟩
  refine List.forall_mem_cons.mpr ⟨(zo_iload_tl _ _), ?_⟩
  refine List.forall_mem_cons.mpr ⟨(zo_icmp_tl _ _ _), ?_⟩
  refine List.forall_mem_cons.mpr ⟨zo_none_tl, ?_⟩
  refine List.forall_mem_cons.mpr ⟨zo_none_tl, ?_⟩
  refine List.forall_mem_cons.mpr ⟨(zo_pushI_tl _ _), ?_⟩
  refine List.forall_mem_cons.mpr ⟨(zo_goto_tl _), ?_⟩
  refine List.forall_mem_cons.mpr ⟨zo_none_tl, ?_⟩
  refine List.forall_mem_cons.mpr ⟨zo_none_tl, ?_⟩
  refine List.forall_mem_cons.mpr ⟨(zo_pushI_tl _ _), ?_⟩
  refine List.forall_mem_cons.mpr ⟨(zo_iret_tl _), ?_⟩
  exact fun _ h => absurd h List.not_mem_nil
noncomputable def fX12_isSetOf : zzFn := zz_fn tX12_isSetOf 3
noncomputable def tX12_latestOf : List zzOp := [
  zo_pushI (-1) 1,
  zo_istore 2 2,
  zo_aload 0 3,
  zo_getf zzSR (zz_kf [10] 5) 6,
  zo_none,
  zo_none,
  zo_pushI 1 7,
  zo_ii (fun x y => x - y) 8,
  zo_istore 3 9,
  zo_iload 3 10,
  zo_if (fun x => decide (x < 0)) 71 13,
  zo_none,
  zo_none,
  zo_aload 0 14,
  zo_iload 3 15,
  zo_iload 1 16,
  zo_callv zzSR (zz_cl [(10, fX12_isSetOf)]) 2 19,
  zo_none,
  zo_none,
  zo_if (fun x => decide (x = 0)) 51 22,
  zo_none,
  zo_none,
  zo_aload 0 23,
  zo_aload 0 24,
  zo_getf zzSR (zz_kf [10] 7) 27,
  zo_none,
  zo_none,
  zo_iload 3 28,
  zo_lald zzSR 29,
  zo_pushI 1 30,
  zo_callv zzSR (zz_cl [(10, fX12_get)]) 2 33,
  zo_none,
  zo_none,
  zo_aload 0 34,
  zo_aload 0 35,
  zo_getf zzSR (zz_kf [10] 7) 38,
  zo_none,
  zo_none,
  zo_iload 1 39,
  zo_lald zzSR 40,
  zo_pushI 1 41,
  zo_callv zzSR (zz_cl [(10, fX12_get)]) 2 44,
  zo_none,
  zo_none,
  zo_icmp (fun x y => decide (¬ x = y)) 51 47,
  zo_none,
  zo_none,
  zo_pushI 1 48,
  zo_goto 52,
  zo_none,
  zo_none,
  zo_pushI 0 52,
  zo_istore 4 54,
  zo_none,
  zo_iload 4 56,
  zo_none,
  zo_if (fun x => decide (x = 0)) 63 59,
  zo_none,
  zo_none,
  zo_iload 3 60,
  zo_goto 64,
  zo_none,
  zo_none,
  zo_iload 2 64,
  zo_istore 2 65,
  zo_iinc 3 (-1) 68,
  zo_none,
  zo_none,
  zo_goto 9,
  zo_none,
  zo_none,
  zo_iload 2 72,
  zo_iret false]
set_option maxRecDepth 100000 in
theorem tl_X12_latestOf : ∀ pc, zz_Tl (tX12_latestOf.getD pc zo_none) := by
  refine zz_Tl_mem ?_
  unfold tX12_latestOf
  refine List.forall_mem_cons.mpr ⟨(zo_pushI_tl _ _), ?_⟩
  refine List.forall_mem_cons.mpr ⟨(zo_istore_tl _ _), ?_⟩
  refine List.forall_mem_cons.mpr ⟨(zo_aload_tl _ _), ?_⟩
  refine List.forall_mem_cons.mpr ⟨(zo_getf_tl _ _ _), ?_⟩
  refine List.forall_mem_cons.mpr ⟨zo_none_tl, ?_⟩
  refine List.forall_mem_cons.mpr ⟨zo_none_tl, ?_⟩
  refine List.forall_mem_cons.mpr ⟨(zo_pushI_tl _ _), ?_⟩
  refine List.forall_mem_cons.mpr ⟨(zo_ii_tl _ _), ?_⟩
  refine List.forall_mem_cons.mpr ⟨(zo_istore_tl _ _), ?_⟩
  refine List.forall_mem_cons.mpr ⟨(zo_iload_tl _ _), ?_⟩
  refine List.forall_mem_cons.mpr ⟨(zo_if_tl _ _ _), ?_⟩
  refine List.forall_mem_cons.mpr ⟨zo_none_tl, ?_⟩
  refine List.forall_mem_cons.mpr ⟨zo_none_tl, ?_⟩
  refine List.forall_mem_cons.mpr ⟨(zo_aload_tl _ _), ?_⟩
  refine List.forall_mem_cons.mpr ⟨(zo_iload_tl _ _), ?_⟩
  refine List.forall_mem_cons.mpr ⟨(zo_iload_tl _ _), ?_⟩
  refine List.forall_mem_cons.mpr ⟨(zo_callv_tl _ _ _ _), ?_⟩
  refine List.forall_mem_cons.mpr ⟨zo_none_tl, ?_⟩
  refine List.forall_mem_cons.mpr ⟨zo_none_tl, ?_⟩
  refine List.forall_mem_cons.mpr ⟨(zo_if_tl _ _ _), ?_⟩
  refine List.forall_mem_cons.mpr ⟨zo_none_tl, ?_⟩
  refine List.forall_mem_cons.mpr ⟨zo_none_tl, ?_⟩
  refine List.forall_mem_cons.mpr ⟨(zo_aload_tl _ _), ?_⟩
  refine List.forall_mem_cons.mpr ⟨(zo_aload_tl _ _), ?_⟩
  refine List.forall_mem_cons.mpr ⟨(zo_getf_tl _ _ _), ?_⟩
  refine List.forall_mem_cons.mpr ⟨zo_none_tl, ?_⟩
  refine List.forall_mem_cons.mpr ⟨zo_none_tl, ?_⟩
  refine List.forall_mem_cons.mpr ⟨(zo_iload_tl _ _), ?_⟩
  refine List.forall_mem_cons.mpr ⟨(zo_lald_tl _ _), ?_⟩
  refine List.forall_mem_cons.mpr ⟨(zo_pushI_tl _ _), ?_⟩
  refine List.forall_mem_cons.mpr ⟨(zo_callv_tl _ _ _ _), ?_⟩
  refine List.forall_mem_cons.mpr ⟨zo_none_tl, ?_⟩
  refine List.forall_mem_cons.mpr ⟨zo_none_tl, ?_⟩
  refine List.forall_mem_cons.mpr ⟨(zo_aload_tl _ _), ?_⟩
  refine List.forall_mem_cons.mpr ⟨(zo_aload_tl _ _), ?_⟩
  refine List.forall_mem_cons.mpr ⟨(zo_getf_tl _ _ _), ?_⟩
  refine List.forall_mem_cons.mpr ⟨zo_none_tl, ?_⟩
  refine List.forall_mem_cons.mpr ⟨zo_none_tl, ?_⟩
  refine List.forall_mem_cons.mpr ⟨(zo_iload_tl _ _), ?_⟩
  refine List.forall_mem_cons.mpr ⟨(zo_lald_tl _ _), ?_⟩
  refine List.forall_mem_cons.mpr ⟨(zo_pushI_tl _ _), ?_⟩
  refine List.forall_mem_cons.mpr ⟨(zo_callv_tl _ _ _ _), ?_⟩
  refine List.forall_mem_cons.mpr ⟨zo_none_tl, ?_⟩
  refine List.forall_mem_cons.mpr ⟨zo_none_tl, ?_⟩
  refine List.forall_mem_cons.mpr ⟨(zo_icmp_tl _ _ _), ?_⟩
  refine List.forall_mem_cons.mpr ⟨zo_none_tl, ?_⟩
  refine List.forall_mem_cons.mpr ⟨zo_none_tl, ?_⟩
  refine List.forall_mem_cons.mpr ⟨(zo_pushI_tl _ _), ?_⟩
  refine List.forall_mem_cons.mpr ⟨(zo_goto_tl _), ?_⟩
  refine List.forall_mem_cons.mpr ⟨zo_none_tl, ?_⟩
  refine List.forall_mem_cons.mpr ⟨zo_none_tl, ?_⟩
  refine List.forall_mem_cons.mpr ⟨(zo_pushI_tl _ _), ?_⟩
  refine List.forall_mem_cons.mpr ⟨(zo_istore_tl _ _), ?_⟩
  refine List.forall_mem_cons.mpr ⟨zo_none_tl, ?_⟩
  refine List.forall_mem_cons.mpr ⟨(zo_iload_tl _ _), ?_⟩
  refine List.forall_mem_cons.mpr ⟨zo_none_tl, ?_⟩
  refine List.forall_mem_cons.mpr ⟨(zo_if_tl _ _ _), ?_⟩
  refine List.forall_mem_cons.mpr ⟨zo_none_tl, ?_⟩
  refine List.forall_mem_cons.mpr ⟨zo_none_tl, ?_⟩
  refine List.forall_mem_cons.mpr ⟨(zo_iload_tl _ _), ?_⟩
  refine List.forall_mem_cons.mpr ⟨(zo_goto_tl _), ?_⟩
  refine List.forall_mem_cons.mpr ⟨zo_none_tl, ?_⟩
  refine List.forall_mem_cons.mpr ⟨zo_none_tl, ?_⟩
  refine List.forall_mem_cons.mpr ⟨(zo_iload_tl _ _), ?_⟩
  refine List.forall_mem_cons.mpr ⟨(zo_istore_tl _ _), ?_⟩
  refine List.forall_mem_cons.mpr ⟨(zo_iinc_tl _ _ _), ?_⟩
  refine List.forall_mem_cons.mpr ⟨zo_none_tl, ?_⟩
  refine List.forall_mem_cons.mpr ⟨zo_none_tl, ?_⟩
  refine List.forall_mem_cons.mpr ⟨(zo_goto_tl _), ?_⟩
  refine List.forall_mem_cons.mpr ⟨zo_none_tl, ?_⟩
  refine List.forall_mem_cons.mpr ⟨zo_none_tl, ?_⟩
  refine List.forall_mem_cons.mpr ⟨(zo_iload_tl _ _), ?_⟩
  refine List.forall_mem_cons.mpr ⟨(zo_iret_tl _), ?_⟩
  exact fun _ h => absurd h List.not_mem_nil
noncomputable def fX12_latestOf : zzFn := zz_fn tX12_latestOf 5
noncomputable def tX12_running : List zzOp := [
  zo_aload 0 1,
  zo_iload 1 2,
  zo_pushI 0 3,
  zo_callv zzSR (zz_cl [(10, fX12_asksOf)]) 2 6,
  zo_none,
  zo_none,
  zo_if (fun x => decide (¬ x = 0)) 11 9,
  zo_none,
  zo_none,
  zo_pushI 0 10,
  zo_iret false,
  zo_aload 0 12,
  zo_iload 1 13,
  zo_callv zzSR (zz_cl [(10, fX12_latestOf)]) 1 16,
  zo_none,
  zo_none,
  zo_istore 3 17,
  zo_pushI 0 18,
  zo_istore 4 20,
  zo_none,
  zo_pushI 0 21,
  zo_istore 5 23,
  zo_none,
  zo_iload 5 25,
  zo_none,
  zo_aload 0 26,
  zo_getf zzSR (zz_kf [10] 5) 29,
  zo_none,
  zo_none,
  zo_icmp (fun x y => decide (y ≤ x)) 137 32,
  zo_none,
  zo_none,
  zo_aload 0 33,
  zo_aload 0 34,
  zo_getf zzSR (zz_kf [10] 7) 37,
  zo_none,
  zo_none,
  zo_iload 5 39,
  zo_none,
  zo_lald zzSR 40,
  zo_callv zzSR (zz_cl [(10, fX12_ownerIn)]) 1 43,
  zo_none,
  zo_none,
  zo_istore 6 45,
  zo_none,
  zo_aload 0 46,
  zo_getf zzSR (zz_kf [10] 6) 49,
  zo_none,
  zo_none,
  zo_iload 5 51,
  zo_none,
  zo_iald zzSR zzSTR 52,
  zo_pushI 2 53,
  zo_icmp (fun x y => decide (¬ x = y)) 93 56,
  zo_none,
  zo_none,
  zo_aload 0 57,
  zo_aload 0 58,
  zo_getf zzSR (zz_kf [10] 7) 61,
  zo_none,
  zo_none,
  zo_iload 5 63,
  zo_none,
  zo_lald zzSR 64,
  zo_pushI 13 66,
  zo_none,
  zo_callv zzSR (zz_cl [(10, fX12_get)]) 2 69,
  zo_none,
  zo_none,
  zo_if (fun x => decide (¬ x = 0)) 93 72,
  zo_none,
  zo_none,
  zo_aload 0 73,
  zo_aload 0 74,
  zo_getf zzSR (zz_kf [10] 7) 77,
  zo_none,
  zo_none,
  zo_iload 5 79,
  zo_none,
  zo_lald zzSR 80,
  zo_pushI 16 82,
  zo_none,
  zo_callv zzSR (zz_cl [(10, fX12_get)]) 2 85,
  zo_none,
  zo_none,
  zo_pushI 1 86,
  zo_icmp (fun x y => decide (¬ x = y)) 93 89,
  zo_none,
  zo_none,
  zo_pushI 1 90,
  zo_goto 94,
  zo_none,
  zo_none,
  zo_pushI 0 94,
  zo_istore 7 96,
  zo_none,
  zo_iload 4 98,
  zo_none,
  zo_iload 7 100,
  zo_none,
  zo_if (fun x => decide (x = 0)) 127 103,
  zo_none,
  zo_none,
  zo_aload 0 104,
  zo_iload 6 106,
  zo_none,
  zo_iload 1 107,
  zo_callv zzSR (zz_cl [(10, fX12_isSetOf)]) 2 110,
  zo_none,
  zo_none,
  zo_if (fun x => decide (x = 0)) 127 113,
  zo_none,
  zo_none,
  zo_iload 2 114,
  zo_if (fun x => decide (x = 0)) 123 117,
  zo_none,
  zo_none,
  zo_iload 6 119,
  zo_none,
  zo_iload 3 120,
  zo_icmp (fun x y => decide (¬ x = y)) 127 123,
  zo_none,
  zo_none,
  zo_pushI 1 124,
  zo_goto 128,
  zo_none,
  zo_none,
  zo_pushI 0 128,
  zo_ii (fun x y => x + y) 129,
  zo_istore 4 131,
  zo_none,
  zo_iinc 5 1 134,
  zo_none,
  zo_none,
  zo_goto 23,
  zo_none,
  zo_none,
  zo_iload 4 139,
  zo_none,
  zo_iret false]
set_option maxRecDepth 100000 in
theorem tl_X12_running : ∀ pc, zz_Tl (tX12_running.getD pc zo_none) := by
  refine zz_Tl_mem ?_
  unfold tX12_running
  refine List.forall_mem_cons.mpr ⟨(zo_aload_tl _ _), ?_⟩
  refine List.forall_mem_cons.mpr ⟨(zo_iload_tl _ _), ?_⟩
  refine List.forall_mem_cons.mpr ⟨(zo_pushI_tl _ _), ?_⟩
  refine List.forall_mem_cons.mpr ⟨(zo_callv_tl _ _ _ _), ?_⟩
  refine List.forall_mem_cons.mpr ⟨zo_none_tl, ?_⟩
  refine List.forall_mem_cons.mpr ⟨zo_none_tl, ?_⟩
  refine List.forall_mem_cons.mpr ⟨(zo_if_tl _ _ _), ?_⟩
  refine List.forall_mem_cons.mpr ⟨zo_none_tl, ?_⟩
  refine List.forall_mem_cons.mpr ⟨zo_none_tl, ?_⟩
  refine List.forall_mem_cons.mpr ⟨(zo_pushI_tl _ _), ?_⟩
  refine List.forall_mem_cons.mpr ⟨(zo_iret_tl _), ?_⟩
  refine List.forall_mem_cons.mpr ⟨(zo_aload_tl _ _), ?_⟩
  refine List.forall_mem_cons.mpr ⟨(zo_iload_tl _ _), ?_⟩
  refine List.forall_mem_cons.mpr ⟨(zo_callv_tl _ _ _ _), ?_⟩
  refine List.forall_mem_cons.mpr ⟨zo_none_tl, ?_⟩
  refine List.forall_mem_cons.mpr ⟨zo_none_tl, ?_⟩
  refine List.forall_mem_cons.mpr ⟨(zo_istore_tl _ _), ?_⟩
  refine List.forall_mem_cons.mpr ⟨(zo_pushI_tl _ _), ?_⟩
  refine List.forall_mem_cons.mpr ⟨(zo_istore_tl _ _), ?_⟩
  refine List.forall_mem_cons.mpr ⟨zo_none_tl, ?_⟩
  refine List.forall_mem_cons.mpr ⟨(zo_pushI_tl _ _), ?_⟩
  refine List.forall_mem_cons.mpr ⟨(zo_istore_tl _ _), ?_⟩
  refine List.forall_mem_cons.mpr ⟨zo_none_tl, ?_⟩
  refine List.forall_mem_cons.mpr ⟨(zo_iload_tl _ _), ?_⟩
  refine List.forall_mem_cons.mpr ⟨zo_none_tl, ?_⟩
  refine List.forall_mem_cons.mpr ⟨(zo_aload_tl _ _), ?_⟩
  refine List.forall_mem_cons.mpr ⟨(zo_getf_tl _ _ _), ?_⟩
  refine List.forall_mem_cons.mpr ⟨zo_none_tl, ?_⟩
  refine List.forall_mem_cons.mpr ⟨zo_none_tl, ?_⟩
  refine List.forall_mem_cons.mpr ⟨(zo_icmp_tl _ _ _), ?_⟩
  refine List.forall_mem_cons.mpr ⟨zo_none_tl, ?_⟩
  refine List.forall_mem_cons.mpr ⟨zo_none_tl, ?_⟩
  refine List.forall_mem_cons.mpr ⟨(zo_aload_tl _ _), ?_⟩
  refine List.forall_mem_cons.mpr ⟨(zo_aload_tl _ _), ?_⟩
  refine List.forall_mem_cons.mpr ⟨(zo_getf_tl _ _ _), ?_⟩
  refine List.forall_mem_cons.mpr ⟨zo_none_tl, ?_⟩
  refine List.forall_mem_cons.mpr ⟨zo_none_tl, ?_⟩
  refine List.forall_mem_cons.mpr ⟨(zo_iload_tl _ _), ?_⟩
  refine List.forall_mem_cons.mpr ⟨zo_none_tl, ?_⟩
  refine List.forall_mem_cons.mpr ⟨(zo_lald_tl _ _), ?_⟩
  refine List.forall_mem_cons.mpr ⟨(zo_callv_tl _ _ _ _), ?_⟩
  refine List.forall_mem_cons.mpr ⟨zo_none_tl, ?_⟩
  refine List.forall_mem_cons.mpr ⟨zo_none_tl, ?_⟩
  refine List.forall_mem_cons.mpr ⟨(zo_istore_tl _ _), ?_⟩
  refine List.forall_mem_cons.mpr ⟨zo_none_tl, ?_⟩
  refine List.forall_mem_cons.mpr ⟨(zo_aload_tl _ _), ?_⟩
  refine List.forall_mem_cons.mpr ⟨(zo_getf_tl _ _ _), ?_⟩
  refine List.forall_mem_cons.mpr ⟨zo_none_tl, ?_⟩
  refine List.forall_mem_cons.mpr ⟨zo_none_tl, ?_⟩
  refine List.forall_mem_cons.mpr ⟨(zo_iload_tl _ _), ?_⟩
  refine List.forall_mem_cons.mpr ⟨zo_none_tl, ?_⟩
  refine List.forall_mem_cons.mpr ⟨(zo_iald_tl _ _ _), ?_⟩
  refine List.forall_mem_cons.mpr ⟨(zo_pushI_tl _ _), ?_⟩
  refine List.forall_mem_cons.mpr ⟨(zo_icmp_tl _ _ _), ?_⟩
  refine List.forall_mem_cons.mpr ⟨zo_none_tl, ?_⟩
  refine List.forall_mem_cons.mpr ⟨zo_none_tl, ?_⟩
  refine List.forall_mem_cons.mpr ⟨(zo_aload_tl _ _), ?_⟩
  refine List.forall_mem_cons.mpr ⟨(zo_aload_tl _ _), ?_⟩
  refine List.forall_mem_cons.mpr ⟨(zo_getf_tl _ _ _), ?_⟩
  refine List.forall_mem_cons.mpr ⟨zo_none_tl, ?_⟩
  refine List.forall_mem_cons.mpr ⟨zo_none_tl, ?_⟩
  refine List.forall_mem_cons.mpr ⟨(zo_iload_tl _ _), ?_⟩
  refine List.forall_mem_cons.mpr ⟨zo_none_tl, ?_⟩
  refine List.forall_mem_cons.mpr ⟨(zo_lald_tl _ _), ?_⟩
  refine List.forall_mem_cons.mpr ⟨(zo_pushI_tl _ _), ?_⟩
  refine List.forall_mem_cons.mpr ⟨zo_none_tl, ?_⟩
  refine List.forall_mem_cons.mpr ⟨(zo_callv_tl _ _ _ _), ?_⟩
  refine List.forall_mem_cons.mpr ⟨zo_none_tl, ?_⟩
  refine List.forall_mem_cons.mpr ⟨zo_none_tl, ?_⟩
  refine List.forall_mem_cons.mpr ⟨(zo_if_tl _ _ _), ?_⟩
  refine List.forall_mem_cons.mpr ⟨zo_none_tl, ?_⟩
  refine List.forall_mem_cons.mpr ⟨zo_none_tl, ?_⟩
  refine List.forall_mem_cons.mpr ⟨(zo_aload_tl _ _), ?_⟩
  refine List.forall_mem_cons.mpr ⟨(zo_aload_tl _ _), ?_⟩
  refine List.forall_mem_cons.mpr ⟨(zo_getf_tl _ _ _), ?_⟩
  refine List.forall_mem_cons.mpr ⟨zo_none_tl, ?_⟩
  refine List.forall_mem_cons.mpr ⟨zo_none_tl, ?_⟩
  refine List.forall_mem_cons.mpr ⟨(zo_iload_tl _ _), ?_⟩
  refine List.forall_mem_cons.mpr ⟨zo_none_tl, ?_⟩
  refine List.forall_mem_cons.mpr ⟨(zo_lald_tl _ _), ?_⟩
  refine List.forall_mem_cons.mpr ⟨(zo_pushI_tl _ _), ?_⟩
  refine List.forall_mem_cons.mpr ⟨zo_none_tl, ?_⟩
  refine List.forall_mem_cons.mpr ⟨(zo_callv_tl _ _ _ _), ?_⟩
  refine List.forall_mem_cons.mpr ⟨zo_none_tl, ?_⟩
  refine List.forall_mem_cons.mpr ⟨zo_none_tl, ?_⟩
  refine List.forall_mem_cons.mpr ⟨(zo_pushI_tl _ _), ?_⟩
  refine List.forall_mem_cons.mpr ⟨(zo_icmp_tl _ _ _), ?_⟩
  refine List.forall_mem_cons.mpr ⟨zo_none_tl, ?_⟩
  refine List.forall_mem_cons.mpr ⟨zo_none_tl, ?_⟩
  refine List.forall_mem_cons.mpr ⟨(zo_pushI_tl _ _), ?_⟩
  refine List.forall_mem_cons.mpr ⟨(zo_goto_tl _), ?_⟩
  refine List.forall_mem_cons.mpr ⟨zo_none_tl, ?_⟩
  refine List.forall_mem_cons.mpr ⟨zo_none_tl, ?_⟩
  refine List.forall_mem_cons.mpr ⟨(zo_pushI_tl _ _), ?_⟩
  refine List.forall_mem_cons.mpr ⟨(zo_istore_tl _ _), ?_⟩
  refine List.forall_mem_cons.mpr ⟨zo_none_tl, ?_⟩
  refine List.forall_mem_cons.mpr ⟨(zo_iload_tl _ _), ?_⟩
  refine List.forall_mem_cons.mpr ⟨zo_none_tl, ?_⟩
  refine List.forall_mem_cons.mpr ⟨(zo_iload_tl _ _), ?_⟩
  refine List.forall_mem_cons.mpr ⟨zo_none_tl, ?_⟩
  refine List.forall_mem_cons.mpr ⟨(zo_if_tl _ _ _), ?_⟩
  refine List.forall_mem_cons.mpr ⟨zo_none_tl, ?_⟩
  refine List.forall_mem_cons.mpr ⟨zo_none_tl, ?_⟩
  refine List.forall_mem_cons.mpr ⟨(zo_aload_tl _ _), ?_⟩
  refine List.forall_mem_cons.mpr ⟨(zo_iload_tl _ _), ?_⟩
  refine List.forall_mem_cons.mpr ⟨zo_none_tl, ?_⟩
  refine List.forall_mem_cons.mpr ⟨(zo_iload_tl _ _), ?_⟩
  refine List.forall_mem_cons.mpr ⟨(zo_callv_tl _ _ _ _), ?_⟩
  refine List.forall_mem_cons.mpr ⟨zo_none_tl, ?_⟩
  refine List.forall_mem_cons.mpr ⟨zo_none_tl, ?_⟩
  refine List.forall_mem_cons.mpr ⟨(zo_if_tl _ _ _), ?_⟩
  refine List.forall_mem_cons.mpr ⟨zo_none_tl, ?_⟩
  refine List.forall_mem_cons.mpr ⟨zo_none_tl, ?_⟩
  refine List.forall_mem_cons.mpr ⟨(zo_iload_tl _ _), ?_⟩
  refine List.forall_mem_cons.mpr ⟨(zo_if_tl _ _ _), ?_⟩
  refine List.forall_mem_cons.mpr ⟨zo_none_tl, ?_⟩
  refine List.forall_mem_cons.mpr ⟨zo_none_tl, ?_⟩
  refine List.forall_mem_cons.mpr ⟨(zo_iload_tl _ _), ?_⟩
  refine List.forall_mem_cons.mpr ⟨zo_none_tl, ?_⟩
  refine List.forall_mem_cons.mpr ⟨(zo_iload_tl _ _), ?_⟩
  refine List.forall_mem_cons.mpr ⟨(zo_icmp_tl _ _ _), ?_⟩
  refine List.forall_mem_cons.mpr ⟨zo_none_tl, ?_⟩
  refine List.forall_mem_cons.mpr ⟨zo_none_tl, ?_⟩
  refine List.forall_mem_cons.mpr ⟨(zo_pushI_tl _ _), ?_⟩
  refine List.forall_mem_cons.mpr ⟨(zo_goto_tl _), ?_⟩
  refine List.forall_mem_cons.mpr ⟨zo_none_tl, ?_⟩
  refine List.forall_mem_cons.mpr ⟨zo_none_tl, ?_⟩
  refine List.forall_mem_cons.mpr ⟨(zo_pushI_tl _ _), ?_⟩
  refine List.forall_mem_cons.mpr ⟨(zo_ii_tl _ _), ?_⟩
  refine List.forall_mem_cons.mpr ⟨(zo_istore_tl _ _), ?_⟩
  refine List.forall_mem_cons.mpr ⟨zo_none_tl, ?_⟩
  refine List.forall_mem_cons.mpr ⟨(zo_iinc_tl _ _ _), ?_⟩
  refine List.forall_mem_cons.mpr ⟨zo_none_tl, ?_⟩
  refine List.forall_mem_cons.mpr ⟨zo_none_tl, ?_⟩
  refine List.forall_mem_cons.mpr ⟨(zo_goto_tl _), ?_⟩
  refine List.forall_mem_cons.mpr ⟨zo_none_tl, ?_⟩
  refine List.forall_mem_cons.mpr ⟨zo_none_tl, ?_⟩
  refine List.forall_mem_cons.mpr ⟨(zo_iload_tl _ _), ?_⟩
  refine List.forall_mem_cons.mpr ⟨zo_none_tl, ?_⟩
  refine List.forall_mem_cons.mpr ⟨(zo_iret_tl _), ?_⟩
  exact fun _ h => absurd h List.not_mem_nil
noncomputable def fX12_running : zzFn := zz_fn tX12_running 8
noncomputable def tX12_objectOf : List zzOp := [
  zo_aload 0 1,
  zo_iload 1 2,
  zo_pushI 1 3,
  zo_aload 0 4,
  zo_getf zzSR (zz_kf [10] 14) 7,
  zo_none,
  zo_none,
  zo_calls fX12_isIn 3 10,
  zo_none,
  zo_none,
  zo_if (fun x => decide (x = 0)) 17 13,
  zo_none,
  zo_none,
  zo_pushI 0 14,
  zo_goto 18,
  zo_none,
  zo_none,
  zo_pushI 1 18,
  zo_callv zzSR (zz_cl [(10, fX12_goes)]) 1 21,
  zo_none,
  zo_none,
  zo_if (fun x => decide (x = 0)) 33 24,
  zo_none,
  zo_none,
  zo_aload 0 25,
  zo_getf zzSR (zz_kf [10] 16) 28,
  zo_none,
  zo_none,
  zo_iload 1 29,
  zo_iald zzSR zzSTR 30,
  zo_goto 34,
  zo_none,
  zo_none,
  zo_pushI 0 34,
  zo_iret false]
set_option maxRecDepth 100000 in
theorem tl_X12_objectOf : ∀ pc, zz_Tl (tX12_objectOf.getD pc zo_none) := by
  refine zz_Tl_mem ?_
  unfold tX12_objectOf
  refine List.forall_mem_cons.mpr ⟨(zo_aload_tl _ _), ?_⟩
  refine List.forall_mem_cons.mpr ⟨(zo_iload_tl _ _), ?_⟩
  refine List.forall_mem_cons.mpr ⟨(zo_pushI_tl _ _), ?_⟩
  refine List.forall_mem_cons.mpr ⟨(zo_aload_tl _ _), ?_⟩
  refine List.forall_mem_cons.mpr ⟨(zo_getf_tl _ _ _), ?_⟩
  refine List.forall_mem_cons.mpr ⟨zo_none_tl, ?_⟩
  refine List.forall_mem_cons.mpr ⟨zo_none_tl, ?_⟩
  refine List.forall_mem_cons.mpr ⟨(zo_calls_tl _ _ _), ?_⟩
  refine List.forall_mem_cons.mpr ⟨zo_none_tl, ?_⟩
  refine List.forall_mem_cons.mpr ⟨zo_none_tl, ?_⟩
  refine List.forall_mem_cons.mpr ⟨(zo_if_tl _ _ _), ?_⟩
  refine List.forall_mem_cons.mpr ⟨zo_none_tl, ?_⟩
  refine List.forall_mem_cons.mpr ⟨zo_none_tl, ?_⟩
  refine List.forall_mem_cons.mpr ⟨(zo_pushI_tl _ _), ?_⟩
  refine List.forall_mem_cons.mpr ⟨(zo_goto_tl _), ?_⟩
  refine List.forall_mem_cons.mpr ⟨zo_none_tl, ?_⟩
  refine List.forall_mem_cons.mpr ⟨zo_none_tl, ?_⟩
  refine List.forall_mem_cons.mpr ⟨(zo_pushI_tl _ _), ?_⟩
  refine List.forall_mem_cons.mpr ⟨(zo_callv_tl _ _ _ _), ?_⟩
  refine List.forall_mem_cons.mpr ⟨zo_none_tl, ?_⟩
  refine List.forall_mem_cons.mpr ⟨zo_none_tl, ?_⟩
  refine List.forall_mem_cons.mpr ⟨(zo_if_tl _ _ _), ?_⟩
  refine List.forall_mem_cons.mpr ⟨zo_none_tl, ?_⟩
  refine List.forall_mem_cons.mpr ⟨zo_none_tl, ?_⟩
  refine List.forall_mem_cons.mpr ⟨(zo_aload_tl _ _), ?_⟩
  refine List.forall_mem_cons.mpr ⟨(zo_getf_tl _ _ _), ?_⟩
  refine List.forall_mem_cons.mpr ⟨zo_none_tl, ?_⟩
  refine List.forall_mem_cons.mpr ⟨zo_none_tl, ?_⟩
  refine List.forall_mem_cons.mpr ⟨(zo_iload_tl _ _), ?_⟩
  refine List.forall_mem_cons.mpr ⟨(zo_iald_tl _ _ _), ?_⟩
  refine List.forall_mem_cons.mpr ⟨(zo_goto_tl _), ?_⟩
  refine List.forall_mem_cons.mpr ⟨zo_none_tl, ?_⟩
  refine List.forall_mem_cons.mpr ⟨zo_none_tl, ?_⟩
  refine List.forall_mem_cons.mpr ⟨(zo_pushI_tl _ _), ?_⟩
  refine List.forall_mem_cons.mpr ⟨(zo_iret_tl _), ?_⟩
  exact fun _ h => absurd h List.not_mem_nil
noncomputable def fX12_objectOf : zzFn := zz_fn tX12_objectOf 2
end

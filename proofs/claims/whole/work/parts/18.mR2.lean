section
noncomputable def tX12_collects : List zzOp := [
  zo_aload 0 1,
  zo_aload 0 2,
  zo_getf zzSR (zz_kf [10] 43) 5,
  zo_none,
  zo_none,
  zo_callv zzSR (zz_cl [(10, fX12_isGoneThere)]) 1 8,
  zo_none,
  zo_none,
  zo_if (fun x => decide (x = 0)) 13 11,
  zo_none,
  zo_none,
  zo_pushI 1 12,
  zo_iret true,
  zo_aload 0 14,
  zo_aload 0 15,
  zo_getf zzSR (zz_kf [10] 43) 18,
  zo_none,
  zo_none,
  zo_pushI 13 20,
  zo_none,
  zo_callv zzSR (zz_cl [(10, fX12_viewed)]) 2 23,
  zo_none,
  zo_none,
  zo_istore 1 24,
  zo_iload 1 25,
  zo_if (fun x => decide (¬ x = 0)) 92 28,
  zo_none,
  zo_none,
  zo_aload 0 29,
  zo_aload 0 30,
  zo_aload 0 31,
  zo_getf zzSR (zz_kf [10] 43) 34,
  zo_none,
  zo_none,
  zo_callv zzSR (zz_cl [(10, fX12_view)]) 1 37,
  zo_none,
  zo_none,
  zo_callv zzSR (zz_cl [(10, fX12_ownerIn)]) 1 40,
  zo_none,
  zo_none,
  zo_istore 2 41,
  zo_iload 2 42,
  zo_pushI (-1) 43,
  zo_icmp (fun x y => decide (x = y)) 69 46,
  zo_none,
  zo_none,
  zo_aload 0 47,
  zo_iload 2 48,
  zo_callv zzSR (zz_cl [(10, fX12_isSeen)]) 1 51,
  zo_none,
  zo_none,
  zo_if (fun x => decide (x = 0)) 69 54,
  zo_none,
  zo_none,
  zo_aload 0 55,
  zo_iload 2 56,
  zo_pushI 13 58,
  zo_none,
  zo_callv zzSR (zz_cl [(10, fX12_viewed)]) 2 61,
  zo_none,
  zo_none,
  zo_pushI 4 62,
  zo_icmp (fun x y => decide (¬ x = y)) 69 65,
  zo_none,
  zo_none,
  zo_pushI 1 66,
  zo_goto 70,
  zo_none,
  zo_none,
  zo_pushI 0 70,
  zo_istore 3 71,
  zo_iload 3 72,
  zo_if (fun x => decide (x = 0)) 86 75,
  zo_none,
  zo_none,
  zo_aload 0 76,
  zo_aload 0 77,
  zo_getf zzSR (zz_kf [10] 43) 80,
  zo_none,
  zo_none,
  zo_callv zzSR (zz_cl [(10, fX12_deletes)]) 1 83,
  zo_none,
  zo_none,
  zo_if (fun x => decide (x = 0)) 90 86,
  zo_none,
  zo_none,
  zo_pushI 1 87,
  zo_goto 91,
  zo_none,
  zo_none,
  zo_pushI 0 91,
  zo_iret true,
  zo_iload 1 93,
  zo_pushI 2 94,
  zo_icmp (fun x y => decide (x = y)) 110 97,
  zo_none,
  zo_none,
  zo_aload 0 98,
  zo_callv zzSR (zz_cl [(10, fX12_owned)]) 0 101,
  zo_none,
  zo_none,
  zo_if (fun x => decide (x ≤ 0)) 110 104,
  zo_none,
  zo_none,
  zo_aload 0 105,
  zo_iload 1 106,
  zo_callv zzSR (zz_cl [(10, fX12_passesOn)]) 1 109,
  zo_none,
  zo_none,
  zo_iret true,
  zo_aload 0 111,
  zo_aload 0 112,
  zo_getf zzSR (zz_kf [10] 43) 115,
  zo_none,
  zo_none,
  zo_pushI 12 117,
  zo_none,
  zo_callv zzSR (zz_cl [(10, fX12_viewed)]) 2 120,
  zo_none,
  zo_none,
  zo_pushI 1 121,
  zo_icmp (fun x y => decide (x = y)) 150 124,
  zo_none,
  zo_none,
  zo_aload 0 125,
  zo_getf zzSR (zz_kf [10] 6) 128,
  zo_none,
  zo_none,
  zo_aload 0 129,
  zo_getf zzSR (zz_kf [10] 43) 132,
  zo_none,
  zo_none,
  zo_iald zzSR zzSTR 133,
  zo_pushI 2 134,
  zo_icmp (fun x y => decide (¬ x = y)) 154 137,
  zo_none,
  zo_none,
  zo_aload 0 138,
  zo_aload 0 139,
  zo_getf zzSR (zz_kf [10] 43) 142,
  zo_none,
  zo_none,
  zo_pushI 15 144,
  zo_none,
  zo_callv zzSR (zz_cl [(10, fX12_viewed)]) 2 147,
  zo_none,
  zo_none,
  zo_if (fun x => decide (x ≤ 0)) 154 150,
  zo_none,
  zo_none,
  zo_pushI 1 151,
  zo_goto 155,
  zo_none,
  zo_none,
  zo_pushI 0 155,
  zo_istore 2 156,
  zo_iload 2 157,
  zo_if (fun x => decide (¬ x = 0)) 193 160,
  zo_none,
  zo_none,
  zo_aload 0 161,
  zo_aload 0 162,
  zo_getf zzSR (zz_kf [10] 43) 165,
  zo_none,
  zo_none,
  zo_aload 0 166,
  zo_aload 0 167,
  zo_getf zzSR (zz_kf [10] 7) 170,
  zo_none,
  zo_none,
  zo_aload 0 171,
  zo_getf zzSR (zz_kf [10] 43) 174,
  zo_none,
  zo_none,
  zo_lald zzSR 175,
  zo_callv zzSR (zz_cl [(10, fX12_gone)]) 1 178,
  zo_none,
  zo_none,
  zo_aload 0 179,
  zo_getf zzSR (zz_kf [10] 8) 182,
  zo_none,
  zo_none,
  zo_aload 0 183,
  zo_getf zzSR (zz_kf [10] 43) 186,
  zo_none,
  zo_none,
  zo_lald zzSR 187,
  zo_callv zzSR (zz_cl [(10, fX12_writesIt)]) 3 190,
  zo_none,
  zo_none,
  zo_if (fun x => decide (x = 0)) 197 193,
  zo_none,
  zo_none,
  zo_pushI 1 194,
  zo_goto 198,
  zo_none,
  zo_none,
  zo_pushI 0 198,
  zo_iret true]
set_option maxRecDepth 100000 in
theorem tl_X12_collects : ∀ pc, zz_Tl (tX12_collects.getD pc zo_none) := by
  refine zz_Tl_mem ?_
  unfold tX12_collects
  refine List.forall_mem_cons.mpr ⟨(zo_aload_tl _ _), ?_⟩
  refine List.forall_mem_cons.mpr ⟨(zo_aload_tl _ _), ?_⟩
  refine List.forall_mem_cons.mpr ⟨(zo_getf_tl _ _ _), ?_⟩
  refine List.forall_mem_cons.mpr ⟨zo_none_tl, ?_⟩
  refine List.forall_mem_cons.mpr ⟨zo_none_tl, ?_⟩
  refine List.forall_mem_cons.mpr ⟨(zo_callv_tl _ _ _ _), ?_⟩
  refine List.forall_mem_cons.mpr ⟨zo_none_tl, ?_⟩
  refine List.forall_mem_cons.mpr ⟨zo_none_tl, ?_⟩
  refine List.forall_mem_cons.mpr ⟨(zo_if_tl _ _ _), ?_⟩
  refine List.forall_mem_cons.mpr ⟨zo_none_tl, ?_⟩
  refine List.forall_mem_cons.mpr ⟨zo_none_tl, ?_⟩
  refine List.forall_mem_cons.mpr ⟨(zo_pushI_tl _ _), ?_⟩
  refine List.forall_mem_cons.mpr ⟨(zo_iret_tl _), ?_⟩
  refine List.forall_mem_cons.mpr ⟨(zo_aload_tl _ _), ?_⟩
  refine List.forall_mem_cons.mpr ⟨(zo_aload_tl _ _), ?_⟩
  refine List.forall_mem_cons.mpr ⟨(zo_getf_tl _ _ _), ?_⟩
  refine List.forall_mem_cons.mpr ⟨zo_none_tl, ?_⟩
  refine List.forall_mem_cons.mpr ⟨zo_none_tl, ?_⟩
  refine List.forall_mem_cons.mpr ⟨(zo_pushI_tl _ _), ?_⟩
  refine List.forall_mem_cons.mpr ⟨zo_none_tl, ?_⟩
  refine List.forall_mem_cons.mpr ⟨(zo_callv_tl _ _ _ _), ?_⟩
  refine List.forall_mem_cons.mpr ⟨zo_none_tl, ?_⟩
  refine List.forall_mem_cons.mpr ⟨zo_none_tl, ?_⟩
  refine List.forall_mem_cons.mpr ⟨(zo_istore_tl _ _), ?_⟩
  refine List.forall_mem_cons.mpr ⟨(zo_iload_tl _ _), ?_⟩
  refine List.forall_mem_cons.mpr ⟨(zo_if_tl _ _ _), ?_⟩
  refine List.forall_mem_cons.mpr ⟨zo_none_tl, ?_⟩
  refine List.forall_mem_cons.mpr ⟨zo_none_tl, ?_⟩
  refine List.forall_mem_cons.mpr ⟨(zo_aload_tl _ _), ?_⟩
  refine List.forall_mem_cons.mpr ⟨(zo_aload_tl _ _), ?_⟩
  refine List.forall_mem_cons.mpr ⟨(zo_aload_tl _ _), ?_⟩
  refine List.forall_mem_cons.mpr ⟨(zo_getf_tl _ _ _), ?_⟩
  refine List.forall_mem_cons.mpr ⟨zo_none_tl, ?_⟩
  refine List.forall_mem_cons.mpr ⟨zo_none_tl, ?_⟩
  refine List.forall_mem_cons.mpr ⟨(zo_callv_tl _ _ _ _), ?_⟩
  refine List.forall_mem_cons.mpr ⟨zo_none_tl, ?_⟩
  refine List.forall_mem_cons.mpr ⟨zo_none_tl, ?_⟩
  refine List.forall_mem_cons.mpr ⟨(zo_callv_tl _ _ _ _), ?_⟩
  refine List.forall_mem_cons.mpr ⟨zo_none_tl, ?_⟩
  refine List.forall_mem_cons.mpr ⟨zo_none_tl, ?_⟩
  refine List.forall_mem_cons.mpr ⟨(zo_istore_tl _ _), ?_⟩
  refine List.forall_mem_cons.mpr ⟨(zo_iload_tl _ _), ?_⟩
  refine List.forall_mem_cons.mpr ⟨(zo_pushI_tl _ _), ?_⟩
  refine List.forall_mem_cons.mpr ⟨(zo_icmp_tl _ _ _), ?_⟩
  refine List.forall_mem_cons.mpr ⟨zo_none_tl, ?_⟩
  refine List.forall_mem_cons.mpr ⟨zo_none_tl, ?_⟩
  refine List.forall_mem_cons.mpr ⟨(zo_aload_tl _ _), ?_⟩
  refine List.forall_mem_cons.mpr ⟨(zo_iload_tl _ _), ?_⟩
  refine List.forall_mem_cons.mpr ⟨(zo_callv_tl _ _ _ _), ?_⟩
  refine List.forall_mem_cons.mpr ⟨zo_none_tl, ?_⟩
  refine List.forall_mem_cons.mpr ⟨zo_none_tl, ?_⟩
  refine List.forall_mem_cons.mpr ⟨(zo_if_tl _ _ _), ?_⟩
  refine List.forall_mem_cons.mpr ⟨zo_none_tl, ?_⟩
  refine List.forall_mem_cons.mpr ⟨zo_none_tl, ?_⟩
  refine List.forall_mem_cons.mpr ⟨(zo_aload_tl _ _), ?_⟩
  refine List.forall_mem_cons.mpr ⟨(zo_iload_tl _ _), ?_⟩
  refine List.forall_mem_cons.mpr ⟨(zo_pushI_tl _ _), ?_⟩
  refine List.forall_mem_cons.mpr ⟨zo_none_tl, ?_⟩
  refine List.forall_mem_cons.mpr ⟨(zo_callv_tl _ _ _ _), ?_⟩
  refine List.forall_mem_cons.mpr ⟨zo_none_tl, ?_⟩
  refine List.forall_mem_cons.mpr ⟨zo_none_tl, ?_⟩
  refine List.forall_mem_cons.mpr ⟨(zo_pushI_tl _ _), ?_⟩
  refine List.forall_mem_cons.mpr ⟨(zo_icmp_tl _ _ _), ?_⟩
  refine List.forall_mem_cons.mpr ⟨zo_none_tl, ?_⟩
  refine List.forall_mem_cons.mpr ⟨zo_none_tl, ?_⟩
  refine List.forall_mem_cons.mpr ⟨(zo_pushI_tl _ _), ?_⟩
  refine List.forall_mem_cons.mpr ⟨(zo_goto_tl _), ?_⟩
  refine List.forall_mem_cons.mpr ⟨zo_none_tl, ?_⟩
  refine List.forall_mem_cons.mpr ⟨zo_none_tl, ?_⟩
  refine List.forall_mem_cons.mpr ⟨(zo_pushI_tl _ _), ?_⟩
  refine List.forall_mem_cons.mpr ⟨(zo_istore_tl _ _), ?_⟩
  refine List.forall_mem_cons.mpr ⟨(zo_iload_tl _ _), ?_⟩
  refine List.forall_mem_cons.mpr ⟨(zo_if_tl _ _ _), ?_⟩
  refine List.forall_mem_cons.mpr ⟨zo_none_tl, ?_⟩
  refine List.forall_mem_cons.mpr ⟨zo_none_tl, ?_⟩
  refine List.forall_mem_cons.mpr ⟨(zo_aload_tl _ _), ?_⟩
  refine List.forall_mem_cons.mpr ⟨(zo_aload_tl _ _), ?_⟩
  refine List.forall_mem_cons.mpr ⟨(zo_getf_tl _ _ _), ?_⟩
  refine List.forall_mem_cons.mpr ⟨zo_none_tl, ?_⟩
  refine List.forall_mem_cons.mpr ⟨zo_none_tl, ?_⟩
  refine List.forall_mem_cons.mpr ⟨(zo_callv_tl _ _ _ _), ?_⟩
  refine List.forall_mem_cons.mpr ⟨zo_none_tl, ?_⟩
  refine List.forall_mem_cons.mpr ⟨zo_none_tl, ?_⟩
  refine List.forall_mem_cons.mpr ⟨(zo_if_tl _ _ _), ?_⟩
  refine List.forall_mem_cons.mpr ⟨zo_none_tl, ?_⟩
  refine List.forall_mem_cons.mpr ⟨zo_none_tl, ?_⟩
  refine List.forall_mem_cons.mpr ⟨(zo_pushI_tl _ _), ?_⟩
  refine List.forall_mem_cons.mpr ⟨(zo_goto_tl _), ?_⟩
  refine List.forall_mem_cons.mpr ⟨zo_none_tl, ?_⟩
  refine List.forall_mem_cons.mpr ⟨zo_none_tl, ?_⟩
  refine List.forall_mem_cons.mpr ⟨(zo_pushI_tl _ _), ?_⟩
  refine List.forall_mem_cons.mpr ⟨(zo_iret_tl _), ?_⟩
  refine List.forall_mem_cons.mpr ⟨(zo_iload_tl _ _), ?_⟩
  refine List.forall_mem_cons.mpr ⟨(zo_pushI_tl _ _), ?_⟩
  refine List.forall_mem_cons.mpr ⟨(zo_icmp_tl _ _ _), ?_⟩
  refine List.forall_mem_cons.mpr ⟨zo_none_tl, ?_⟩
  refine List.forall_mem_cons.mpr ⟨zo_none_tl, ?_⟩
  refine List.forall_mem_cons.mpr ⟨(zo_aload_tl _ _), ?_⟩
  refine List.forall_mem_cons.mpr ⟨(zo_callv_tl _ _ _ _), ?_⟩
  refine List.forall_mem_cons.mpr ⟨zo_none_tl, ?_⟩
  refine List.forall_mem_cons.mpr ⟨zo_none_tl, ?_⟩
  refine List.forall_mem_cons.mpr ⟨(zo_if_tl _ _ _), ?_⟩
  refine List.forall_mem_cons.mpr ⟨zo_none_tl, ?_⟩
  refine List.forall_mem_cons.mpr ⟨zo_none_tl, ?_⟩
  refine List.forall_mem_cons.mpr ⟨(zo_aload_tl _ _), ?_⟩
  refine List.forall_mem_cons.mpr ⟨(zo_iload_tl _ _), ?_⟩
  refine List.forall_mem_cons.mpr ⟨(zo_callv_tl _ _ _ _), ?_⟩
  refine List.forall_mem_cons.mpr ⟨zo_none_tl, ?_⟩
  refine List.forall_mem_cons.mpr ⟨zo_none_tl, ?_⟩
  refine List.forall_mem_cons.mpr ⟨(zo_iret_tl _), ?_⟩
  refine List.forall_mem_cons.mpr ⟨(zo_aload_tl _ _), ?_⟩
  refine List.forall_mem_cons.mpr ⟨(zo_aload_tl _ _), ?_⟩
  refine List.forall_mem_cons.mpr ⟨(zo_getf_tl _ _ _), ?_⟩
  refine List.forall_mem_cons.mpr ⟨zo_none_tl, ?_⟩
  refine List.forall_mem_cons.mpr ⟨zo_none_tl, ?_⟩
  refine List.forall_mem_cons.mpr ⟨(zo_pushI_tl _ _), ?_⟩
  refine List.forall_mem_cons.mpr ⟨zo_none_tl, ?_⟩
  refine List.forall_mem_cons.mpr ⟨(zo_callv_tl _ _ _ _), ?_⟩
  refine List.forall_mem_cons.mpr ⟨zo_none_tl, ?_⟩
  refine List.forall_mem_cons.mpr ⟨zo_none_tl, ?_⟩
  refine List.forall_mem_cons.mpr ⟨(zo_pushI_tl _ _), ?_⟩
  refine List.forall_mem_cons.mpr ⟨(zo_icmp_tl _ _ _), ?_⟩
  refine List.forall_mem_cons.mpr ⟨zo_none_tl, ?_⟩
  refine List.forall_mem_cons.mpr ⟨zo_none_tl, ?_⟩
  refine List.forall_mem_cons.mpr ⟨(zo_aload_tl _ _), ?_⟩
  refine List.forall_mem_cons.mpr ⟨(zo_getf_tl _ _ _), ?_⟩
  refine List.forall_mem_cons.mpr ⟨zo_none_tl, ?_⟩
  refine List.forall_mem_cons.mpr ⟨zo_none_tl, ?_⟩
  refine List.forall_mem_cons.mpr ⟨(zo_aload_tl _ _), ?_⟩
  refine List.forall_mem_cons.mpr ⟨(zo_getf_tl _ _ _), ?_⟩
  refine List.forall_mem_cons.mpr ⟨zo_none_tl, ?_⟩
  refine List.forall_mem_cons.mpr ⟨zo_none_tl, ?_⟩
  refine List.forall_mem_cons.mpr ⟨(zo_iald_tl _ _ _), ?_⟩
  refine List.forall_mem_cons.mpr ⟨(zo_pushI_tl _ _), ?_⟩
  refine List.forall_mem_cons.mpr ⟨(zo_icmp_tl _ _ _), ?_⟩
  refine List.forall_mem_cons.mpr ⟨zo_none_tl, ?_⟩
  refine List.forall_mem_cons.mpr ⟨zo_none_tl, ?_⟩
  refine List.forall_mem_cons.mpr ⟨(zo_aload_tl _ _), ?_⟩
  refine List.forall_mem_cons.mpr ⟨(zo_aload_tl _ _), ?_⟩
  refine List.forall_mem_cons.mpr ⟨(zo_getf_tl _ _ _), ?_⟩
  refine List.forall_mem_cons.mpr ⟨zo_none_tl, ?_⟩
  refine List.forall_mem_cons.mpr ⟨zo_none_tl, ?_⟩
  refine List.forall_mem_cons.mpr ⟨(zo_pushI_tl _ _), ?_⟩
  refine List.forall_mem_cons.mpr ⟨zo_none_tl, ?_⟩
  refine List.forall_mem_cons.mpr ⟨(zo_callv_tl _ _ _ _), ?_⟩
  refine List.forall_mem_cons.mpr ⟨zo_none_tl, ?_⟩
  refine List.forall_mem_cons.mpr ⟨zo_none_tl, ?_⟩
  refine List.forall_mem_cons.mpr ⟨(zo_if_tl _ _ _), ?_⟩
  refine List.forall_mem_cons.mpr ⟨zo_none_tl, ?_⟩
  refine List.forall_mem_cons.mpr ⟨zo_none_tl, ?_⟩
  refine List.forall_mem_cons.mpr ⟨(zo_pushI_tl _ _), ?_⟩
  refine List.forall_mem_cons.mpr ⟨(zo_goto_tl _), ?_⟩
  refine List.forall_mem_cons.mpr ⟨zo_none_tl, ?_⟩
  refine List.forall_mem_cons.mpr ⟨zo_none_tl, ?_⟩
  refine List.forall_mem_cons.mpr ⟨(zo_pushI_tl _ _), ?_⟩
  refine List.forall_mem_cons.mpr ⟨(zo_istore_tl _ _), ?_⟩
  refine List.forall_mem_cons.mpr ⟨(zo_iload_tl _ _), ?_⟩
  refine List.forall_mem_cons.mpr ⟨(zo_if_tl _ _ _), ?_⟩
  refine List.forall_mem_cons.mpr ⟨zo_none_tl, ?_⟩
  refine List.forall_mem_cons.mpr ⟨zo_none_tl, ?_⟩
  refine List.forall_mem_cons.mpr ⟨(zo_aload_tl _ _), ?_⟩
  refine List.forall_mem_cons.mpr ⟨(zo_aload_tl _ _), ?_⟩
  refine List.forall_mem_cons.mpr ⟨(zo_getf_tl _ _ _), ?_⟩
  refine List.forall_mem_cons.mpr ⟨zo_none_tl, ?_⟩
  refine List.forall_mem_cons.mpr ⟨zo_none_tl, ?_⟩
  refine List.forall_mem_cons.mpr ⟨(zo_aload_tl _ _), ?_⟩
  refine List.forall_mem_cons.mpr ⟨(zo_aload_tl _ _), ?_⟩
  refine List.forall_mem_cons.mpr ⟨(zo_getf_tl _ _ _), ?_⟩
  refine List.forall_mem_cons.mpr ⟨zo_none_tl, ?_⟩
  refine List.forall_mem_cons.mpr ⟨zo_none_tl, ?_⟩
  refine List.forall_mem_cons.mpr ⟨(zo_aload_tl _ _), ?_⟩
  refine List.forall_mem_cons.mpr ⟨(zo_getf_tl _ _ _), ?_⟩
  refine List.forall_mem_cons.mpr ⟨zo_none_tl, ?_⟩
  refine List.forall_mem_cons.mpr ⟨zo_none_tl, ?_⟩
  refine List.forall_mem_cons.mpr ⟨(zo_lald_tl _ _), ?_⟩
  refine List.forall_mem_cons.mpr ⟨(zo_callv_tl _ _ _ _), ?_⟩
  refine List.forall_mem_cons.mpr ⟨zo_none_tl, ?_⟩
  refine List.forall_mem_cons.mpr ⟨zo_none_tl, ?_⟩
  refine List.forall_mem_cons.mpr ⟨(zo_aload_tl _ _), ?_⟩
  refine List.forall_mem_cons.mpr ⟨(zo_getf_tl _ _ _), ?_⟩
  refine List.forall_mem_cons.mpr ⟨zo_none_tl, ?_⟩
  refine List.forall_mem_cons.mpr ⟨zo_none_tl, ?_⟩
  refine List.forall_mem_cons.mpr ⟨(zo_aload_tl _ _), ?_⟩
  refine List.forall_mem_cons.mpr ⟨(zo_getf_tl _ _ _), ?_⟩
  refine List.forall_mem_cons.mpr ⟨zo_none_tl, ?_⟩
  refine List.forall_mem_cons.mpr ⟨zo_none_tl, ?_⟩
  refine List.forall_mem_cons.mpr ⟨(zo_lald_tl _ _), ?_⟩
  refine List.forall_mem_cons.mpr ⟨(zo_callv_tl _ _ _ _), ?_⟩
  refine List.forall_mem_cons.mpr ⟨zo_none_tl, ?_⟩
  refine List.forall_mem_cons.mpr ⟨zo_none_tl, ?_⟩
  refine List.forall_mem_cons.mpr ⟨(zo_if_tl _ _ _), ?_⟩
  refine List.forall_mem_cons.mpr ⟨zo_none_tl, ?_⟩
  refine List.forall_mem_cons.mpr ⟨zo_none_tl, ?_⟩
  refine List.forall_mem_cons.mpr ⟨(zo_pushI_tl _ _), ?_⟩
  refine List.forall_mem_cons.mpr ⟨(zo_goto_tl _), ?_⟩
  refine List.forall_mem_cons.mpr ⟨zo_none_tl, ?_⟩
  refine List.forall_mem_cons.mpr ⟨zo_none_tl, ?_⟩
  refine List.forall_mem_cons.mpr ⟨(zo_pushI_tl _ _), ?_⟩
  refine List.forall_mem_cons.mpr ⟨(zo_iret_tl _), ?_⟩
  exact fun _ h => absurd h List.not_mem_nil
noncomputable def fX12_collects : zzFn := zz_fn tX12_collects 4
set_option maxRecDepth 100000 in
set_option maxHeartbeats 4000000 in
theorem mm_X12_collects {l : Launch} {D : va_G} {cA : Nat → ClassId} {ad : Nat → Nat} {Ex : (Nat → Prop) → State → Heap → Prop} (Wd : zzWR l D cA ad Ex) : zz_Cn l D zzCl cA ad zzSR Ex yX12_collects cX12_collects 4 (some .boolean) 4 106 fX12_collects ∧ zz_Cx l D zzCl cA ad zzSR Ex yX12_collects cX12_collects 4 (some .boolean) 4 106 fX12_collects := by
  refine zz_meth (plainFor_of_name (by decide)) Wd.1 Wd.2.1 Wd.2.2 (fun p e R s m args below meth c rr X => ?_)
  unfold tX12_collects
  refine zz_cons (k' := 1) rfl (zk_aload_n X dX12_collects_0 rfl rfl) ?_
  refine zz_cons (k' := 2) rfl (zk_aload_n X dX12_collects_1 rfl rfl) ?_
  refine zz_cons (k' := 3) rfl (zk_getf X ff_X12_243 dX12_collects_2 rfl) ?_
  refine zz_cons (k' := 4) rfl (zz_Ok_none _ _) ?_
  refine zz_cons (k' := 5) rfl (zz_Ok_none _ _) ?_
  refine zz_cons (k' := 6) rfl (zk_callv X (zz_Cv_of (List.forall_mem_cons.mpr ⟨⟨(RX_10, zzT10, 50), yX12_isGoneThere, cX12_isGoneThere, 2, (some .boolean), 2, 45, rfl, kv_X12_211_10.1, (mm_X12_isGoneThere Wd).1, by decide, by decide⟩, (fun _ h => absurd h List.not_mem_nil)⟩)) dX12_collects_5 rfl) ?_
  refine zz_cons (k' := 7) rfl (zz_Ok_none _ _) ?_
  refine zz_cons (k' := 8) rfl (zz_Ok_none _ _) ?_
  refine zz_cons (k' := 9) rfl (zk_if_eq X dX12_collects_8 (by decide) rfl) ?_
  refine zz_cons (k' := 10) rfl (zz_Ok_none _ _) ?_
  refine zz_cons (k' := 11) rfl (zz_Ok_none _ _) ?_
  refine zz_cons (k' := 12) rfl (zk_iconst X dX12_collects_11 (by decide) rfl) ?_
  refine zz_cons (k' := 13) rfl (zk_iret X rfl dX12_collects_12) ?_
  refine zz_cons (k' := 14) rfl (zk_aload_n X dX12_collects_13 rfl rfl) ?_
  refine zz_cons (k' := 15) rfl (zk_aload_n X dX12_collects_14 rfl rfl) ?_
  refine zz_cons (k' := 16) rfl (zk_getf X ff_X12_243 dX12_collects_15 rfl) ?_
  refine zz_cons (k' := 17) rfl (zz_Ok_none _ _) ?_
  refine zz_cons (k' := 18) rfl (zz_Ok_none _ _) ?_
  refine zz_cons (k' := 19) rfl (zk_bipush X dX12_collects_18 (by decide) rfl) ?_
  refine zz_cons (k' := 20) rfl (zz_Ok_none _ _) ?_
  refine zz_cons (k' := 21) rfl (zk_callv X (zz_Cv_of (List.forall_mem_cons.mpr ⟨⟨(RX_10, zzT10, 50), yX12_viewed, cX12_viewed, 3, (some .int), 1, 23, rfl, kv_X12_204_10.1, (mm_X12_viewed Wd).1, by decide, by decide⟩, (fun _ h => absurd h List.not_mem_nil)⟩)) dX12_collects_20 rfl) ?_
  refine zz_cons (k' := 22) rfl (zz_Ok_none _ _) ?_
  refine zz_cons (k' := 23) rfl (zz_Ok_none _ _) ?_
  refine zz_cons (k' := 24) rfl (zk_istore_n X dX12_collects_23 rfl (by decide) rfl) ?_
  refine zz_cons (k' := 25) rfl (zk_iload_n X dX12_collects_24 rfl rfl) ?_
  refine zz_cons (k' := 26) rfl (zk_if_ne X dX12_collects_25 (by decide) rfl) ?_
  refine zz_cons (k' := 27) rfl (zz_Ok_none _ _) ?_
  refine zz_cons (k' := 28) rfl (zz_Ok_none _ _) ?_
  refine zz_cons (k' := 29) rfl (zk_aload_n X dX12_collects_28 rfl rfl) ?_
  refine zz_cons (k' := 30) rfl (zk_aload_n X dX12_collects_29 rfl rfl) ?_
  refine zz_cons (k' := 31) rfl (zk_aload_n X dX12_collects_30 rfl rfl) ?_
  refine zz_cons (k' := 32) rfl (zk_getf X ff_X12_243 dX12_collects_31 rfl) ?_
  refine zz_cons (k' := 33) rfl (zz_Ok_none _ _) ?_
  refine zz_cons (k' := 34) rfl (zz_Ok_none _ _) ?_
  refine zz_cons (k' := 35) rfl (zk_callv X (zz_Cv_of (List.forall_mem_cons.mpr ⟨⟨(RX_10, zzT10, 50), yX12_view, cX12_view, 2, (some .long), 0, 0, rfl, kv_X12_196_10.1, (mm_X12_view Wd).1, by decide, by decide⟩, (fun _ h => absurd h List.not_mem_nil)⟩)) dX12_collects_34 rfl) ?_
  refine zz_cons (k' := 36) rfl (zz_Ok_none _ _) ?_
  refine zz_cons (k' := 37) rfl (zz_Ok_none _ _) ?_
  refine zz_cons (k' := 38) rfl (zk_callv X (zz_Cv_of (List.forall_mem_cons.mpr ⟨⟨(RX_10, zzT10, 50), yX12_ownerIn, cX12_ownerIn, 3, (some .int), 1, 23, rfl, kv_X12_214_10.1, (mm_X12_ownerIn Wd).1, by decide, by decide⟩, (fun _ h => absurd h List.not_mem_nil)⟩)) dX12_collects_37 rfl) ?_
  refine zz_cons (k' := 39) rfl (zz_Ok_none _ _) ?_
  refine zz_cons (k' := 40) rfl (zz_Ok_none _ _) ?_
  refine zz_cons (k' := 41) rfl (zk_istore_n X dX12_collects_40 rfl (by decide) rfl) ?_
  refine zz_cons (k' := 42) rfl (zk_iload_n X dX12_collects_41 rfl rfl) ?_
  refine zz_cons (k' := 43) rfl (zk_iconst X dX12_collects_42 (by decide) rfl) ?_
  refine zz_cons (k' := 44) rfl (zk_icmp_eq X dX12_collects_43 (by decide) rfl) ?_
  refine zz_cons (k' := 45) rfl (zz_Ok_none _ _) ?_
  refine zz_cons (k' := 46) rfl (zz_Ok_none _ _) ?_
  refine zz_cons (k' := 47) rfl (zk_aload_n X dX12_collects_46 rfl rfl) ?_
  refine zz_cons (k' := 48) rfl (zk_iload_n X dX12_collects_47 rfl rfl) ?_
  refine zz_cons (k' := 49) rfl (zk_callv X (zz_Cv_of (List.forall_mem_cons.mpr ⟨⟨(RX_10, zzT10, 50), yX12_isSeen, cX12_isSeen, 2, (some .boolean), 0, 0, rfl, kv_X12_200_10.1, (mm_X12_isSeen Wd).1, by decide, by decide⟩, (fun _ h => absurd h List.not_mem_nil)⟩)) dX12_collects_48 rfl) ?_
  refine zz_cons (k' := 50) rfl (zz_Ok_none _ _) ?_
  refine zz_cons (k' := 51) rfl (zz_Ok_none _ _) ?_
  refine zz_cons (k' := 52) rfl (zk_if_eq X dX12_collects_51 (by decide) rfl) ?_
  refine zz_cons (k' := 53) rfl (zz_Ok_none _ _) ?_
  refine zz_cons (k' := 54) rfl (zz_Ok_none _ _) ?_
  refine zz_cons (k' := 55) rfl (zk_aload_n X dX12_collects_54 rfl rfl) ?_
  refine zz_cons (k' := 56) rfl (zk_iload_n X dX12_collects_55 rfl rfl) ?_
  refine zz_cons (k' := 57) rfl (zk_bipush X dX12_collects_56 (by decide) rfl) ?_
  refine zz_cons (k' := 58) rfl (zz_Ok_none _ _) ?_
  refine zz_cons (k' := 59) rfl (zk_callv X (zz_Cv_of (List.forall_mem_cons.mpr ⟨⟨(RX_10, zzT10, 50), yX12_viewed, cX12_viewed, 3, (some .int), 1, 23, rfl, kv_X12_204_10.1, (mm_X12_viewed Wd).1, by decide, by decide⟩, (fun _ h => absurd h List.not_mem_nil)⟩)) dX12_collects_58 rfl) ?_
  refine zz_cons (k' := 60) rfl (zz_Ok_none _ _) ?_
  refine zz_cons (k' := 61) rfl (zz_Ok_none _ _) ?_
  refine zz_cons (k' := 62) rfl (zk_iconst X dX12_collects_61 (by decide) rfl) ?_
  refine zz_cons (k' := 63) rfl (zk_icmp_ne X dX12_collects_62 (by decide) rfl) ?_
  refine zz_cons (k' := 64) rfl (zz_Ok_none _ _) ?_
  refine zz_cons (k' := 65) rfl (zz_Ok_none _ _) ?_
  refine zz_cons (k' := 66) rfl (zk_iconst X dX12_collects_65 (by decide) rfl) ?_
  refine zz_cons (k' := 67) rfl (zk_goto X dX12_collects_66 (by decide)) ?_
  refine zz_cons (k' := 68) rfl (zz_Ok_none _ _) ?_
  refine zz_cons (k' := 69) rfl (zz_Ok_none _ _) ?_
  refine zz_cons (k' := 70) rfl (zk_iconst X dX12_collects_69 (by decide) rfl) ?_
  refine zz_cons (k' := 71) rfl (zk_istore_n X dX12_collects_70 rfl (by decide) rfl) ?_
  refine zz_cons (k' := 72) rfl (zk_iload_n X dX12_collects_71 rfl rfl) ?_
  refine zz_cons (k' := 73) rfl (zk_if_eq X dX12_collects_72 (by decide) rfl) ?_
  refine zz_cons (k' := 74) rfl (zz_Ok_none _ _) ?_
  refine zz_cons (k' := 75) rfl (zz_Ok_none _ _) ?_
  refine zz_cons (k' := 76) rfl (zk_aload_n X dX12_collects_75 rfl rfl) ?_
  refine zz_cons (k' := 77) rfl (zk_aload_n X dX12_collects_76 rfl rfl) ?_
  refine zz_cons (k' := 78) rfl (zk_getf X ff_X12_243 dX12_collects_77 rfl) ?_
  refine zz_cons (k' := 79) rfl (zz_Ok_none _ _) ?_
  refine zz_cons (k' := 80) rfl (zz_Ok_none _ _) ?_
  refine zz_cons (k' := 81) rfl (zk_callv X (zz_Cv_of (List.forall_mem_cons.mpr ⟨⟨(RX_10, zzT10, 50), yX12_deletes, cX12_deletes, 2, (some .boolean), 3, 79, rfl, kv_X12_302_10.1, (mm_X12_deletes Wd).1, by decide, by decide⟩, (fun _ h => absurd h List.not_mem_nil)⟩)) dX12_collects_80 rfl) ?_
  refine zz_cons (k' := 82) rfl (zz_Ok_none _ _) ?_
  refine zz_cons (k' := 83) rfl (zz_Ok_none _ _) ?_
  refine zz_cons (k' := 84) rfl (zk_if_eq X dX12_collects_83 (by decide) rfl) ?_
  refine zz_cons (k' := 85) rfl (zz_Ok_none _ _) ?_
  refine zz_cons (k' := 86) rfl (zz_Ok_none _ _) ?_
  refine zz_cons (k' := 87) rfl (zk_iconst X dX12_collects_86 (by decide) rfl) ?_
  refine zz_cons (k' := 88) rfl (zk_goto X dX12_collects_87 (by decide)) ?_
  refine zz_cons (k' := 89) rfl (zz_Ok_none _ _) ?_
  refine zz_cons (k' := 90) rfl (zz_Ok_none _ _) ?_
  refine zz_cons (k' := 91) rfl (zk_iconst X dX12_collects_90 (by decide) rfl) ?_
  refine zz_cons (k' := 92) rfl (zk_iret X rfl dX12_collects_91) ?_
  refine zz_cons (k' := 93) rfl (zk_iload_n X dX12_collects_92 rfl rfl) ?_
  refine zz_cons (k' := 94) rfl (zk_iconst X dX12_collects_93 (by decide) rfl) ?_
  refine zz_cons (k' := 95) rfl (zk_icmp_eq X dX12_collects_94 (by decide) rfl) ?_
  refine zz_cons (k' := 96) rfl (zz_Ok_none _ _) ?_
  refine zz_cons (k' := 97) rfl (zz_Ok_none _ _) ?_
  refine zz_cons (k' := 98) rfl (zk_aload_n X dX12_collects_97 rfl rfl) ?_
  refine zz_cons (k' := 99) rfl (zk_callv X (zz_Cv_of (List.forall_mem_cons.mpr ⟨⟨(RX_10, zzT10, 50), yX12_owned, cX12_owned, 3, (some .int), 3, 66, rfl, kv_X12_323_10.1, (mm_X12_owned Wd).1, by decide, by decide⟩, (fun _ h => absurd h List.not_mem_nil)⟩)) dX12_collects_98 rfl) ?_
  refine zz_cons (k' := 100) rfl (zz_Ok_none _ _) ?_
  refine zz_cons (k' := 101) rfl (zz_Ok_none _ _) ?_
  refine zz_cons (k' := 102) rfl (zk_if_le X dX12_collects_101 (by decide) rfl) ?_
  refine zz_cons (k' := 103) rfl (zz_Ok_none _ _) ?_
  refine zz_cons (k' := 104) rfl (zz_Ok_none _ _) ?_
  refine zz_cons (k' := 105) rfl (zk_aload_n X dX12_collects_104 rfl rfl) ?_
  refine zz_cons (k' := 106) rfl (zk_iload_n X dX12_collects_105 rfl rfl) ?_
  refine zz_cons (k' := 107) rfl (zk_callv X (zz_Cv_of (List.forall_mem_cons.mpr ⟨⟨(RX_10, zzT10, 50), yX12_passesOn, cX12_passesOn, 8, (some .boolean), 3, 79, rfl, kv_X12_326_10.1, (mm_X12_passesOn Wd).1, by decide, by decide⟩, (fun _ h => absurd h List.not_mem_nil)⟩)) dX12_collects_106 rfl) ?_
  refine zz_cons (k' := 108) rfl (zz_Ok_none _ _) ?_
  refine zz_cons (k' := 109) rfl (zz_Ok_none _ _) ?_
  refine zz_cons (k' := 110) rfl (zk_iret X rfl dX12_collects_109) ?_
  refine zz_cons (k' := 111) rfl (zk_aload_n X dX12_collects_110 rfl rfl) ?_
  refine zz_cons (k' := 112) rfl (zk_aload_n X dX12_collects_111 rfl rfl) ?_
  refine zz_cons (k' := 113) rfl (zk_getf X ff_X12_243 dX12_collects_112 rfl) ?_
  refine zz_cons (k' := 114) rfl (zz_Ok_none _ _) ?_
  refine zz_cons (k' := 115) rfl (zz_Ok_none _ _) ?_
  refine zz_cons (k' := 116) rfl (zk_bipush X dX12_collects_115 (by decide) rfl) ?_
  refine zz_cons (k' := 117) rfl (zz_Ok_none _ _) ?_
  refine zz_cons (k' := 118) rfl (zk_callv X (zz_Cv_of (List.forall_mem_cons.mpr ⟨⟨(RX_10, zzT10, 50), yX12_viewed, cX12_viewed, 3, (some .int), 1, 23, rfl, kv_X12_204_10.1, (mm_X12_viewed Wd).1, by decide, by decide⟩, (fun _ h => absurd h List.not_mem_nil)⟩)) dX12_collects_117 rfl) ?_
  refine zz_cons (k' := 119) rfl (zz_Ok_none _ _) ?_
  refine zz_cons (k' := 120) rfl (zz_Ok_none _ _) ?_
  refine zz_cons (k' := 121) rfl (zk_iconst X dX12_collects_120 (by decide) rfl) ?_
  refine zz_cons (k' := 122) rfl (zk_icmp_eq X dX12_collects_121 (by decide) rfl) ?_
  refine zz_cons (k' := 123) rfl (zz_Ok_none _ _) ?_
  refine zz_cons (k' := 124) rfl (zz_Ok_none _ _) ?_
  refine zz_cons (k' := 125) rfl (zk_aload_n X dX12_collects_124 rfl rfl) ?_
  refine zz_cons (k' := 126) rfl (zk_getf X ff_X12_25 dX12_collects_125 rfl) ?_
  refine zz_cons (k' := 127) rfl (zz_Ok_none _ _) ?_
  refine zz_cons (k' := 128) rfl (zz_Ok_none _ _) ?_
  refine zz_cons (k' := 129) rfl (zk_aload_n X dX12_collects_128 rfl rfl) ?_
  refine zz_cons (k' := 130) rfl (zk_getf X ff_X12_243 dX12_collects_129 rfl) ?_
  refine zz_cons (k' := 131) rfl (zz_Ok_none _ _) ?_
  refine zz_cons (k' := 132) rfl (zz_Ok_none _ _) ?_
  refine zz_cons (k' := 133) rfl (zk_iald X (zzWR_st Wd) dX12_collects_132 rfl) ?_
  refine zz_cons (k' := 134) rfl (zk_iconst X dX12_collects_133 (by decide) rfl) ?_
  refine zz_cons (k' := 135) rfl (zk_icmp_ne X dX12_collects_134 (by decide) rfl) ?_
  refine zz_cons (k' := 136) rfl (zz_Ok_none _ _) ?_
  refine zz_cons (k' := 137) rfl (zz_Ok_none _ _) ?_
  refine zz_cons (k' := 138) rfl (zk_aload_n X dX12_collects_137 rfl rfl) ?_
  refine zz_cons (k' := 139) rfl (zk_aload_n X dX12_collects_138 rfl rfl) ?_
  refine zz_cons (k' := 140) rfl (zk_getf X ff_X12_243 dX12_collects_139 rfl) ?_
  refine zz_cons (k' := 141) rfl (zz_Ok_none _ _) ?_
  refine zz_cons (k' := 142) rfl (zz_Ok_none _ _) ?_
  refine zz_cons (k' := 143) rfl (zk_bipush X dX12_collects_142 (by decide) rfl) ?_
  refine zz_cons (k' := 144) rfl (zz_Ok_none _ _) ?_
  refine zz_cons (k' := 145) rfl (zk_callv X (zz_Cv_of (List.forall_mem_cons.mpr ⟨⟨(RX_10, zzT10, 50), yX12_viewed, cX12_viewed, 3, (some .int), 1, 23, rfl, kv_X12_204_10.1, (mm_X12_viewed Wd).1, by decide, by decide⟩, (fun _ h => absurd h List.not_mem_nil)⟩)) dX12_collects_144 rfl) ?_
  refine zz_cons (k' := 146) rfl (zz_Ok_none _ _) ?_
  refine zz_cons (k' := 147) rfl (zz_Ok_none _ _) ?_
  refine zz_cons (k' := 148) rfl (zk_if_le X dX12_collects_147 (by decide) rfl) ?_
  refine zz_cons (k' := 149) rfl (zz_Ok_none _ _) ?_
  refine zz_cons (k' := 150) rfl (zz_Ok_none _ _) ?_
  refine zz_cons (k' := 151) rfl (zk_iconst X dX12_collects_150 (by decide) rfl) ?_
  refine zz_cons (k' := 152) rfl (zk_goto X dX12_collects_151 (by decide)) ?_
  refine zz_cons (k' := 153) rfl (zz_Ok_none _ _) ?_
  refine zz_cons (k' := 154) rfl (zz_Ok_none _ _) ?_
  refine zz_cons (k' := 155) rfl (zk_iconst X dX12_collects_154 (by decide) rfl) ?_
  refine zz_cons (k' := 156) rfl (zk_istore_n X dX12_collects_155 rfl (by decide) rfl) ?_
  refine zz_cons (k' := 157) rfl (zk_iload_n X dX12_collects_156 rfl rfl) ?_
  refine zz_cons (k' := 158) rfl (zk_if_ne X dX12_collects_157 (by decide) rfl) ?_
  refine zz_cons (k' := 159) rfl (zz_Ok_none _ _) ?_
  refine zz_cons (k' := 160) rfl (zz_Ok_none _ _) ?_
  refine zz_cons (k' := 161) rfl (zk_aload_n X dX12_collects_160 rfl rfl) ?_
  refine zz_cons (k' := 162) rfl (zk_aload_n X dX12_collects_161 rfl rfl) ?_
  refine zz_cons (k' := 163) rfl (zk_getf X ff_X12_243 dX12_collects_162 rfl) ?_
  refine zz_cons (k' := 164) rfl (zz_Ok_none _ _) ?_
  refine zz_cons (k' := 165) rfl (zz_Ok_none _ _) ?_
  refine zz_cons (k' := 166) rfl (zk_aload_n X dX12_collects_165 rfl rfl) ?_
  refine zz_cons (k' := 167) rfl (zk_aload_n X dX12_collects_166 rfl rfl) ?_
  refine zz_cons (k' := 168) rfl (zk_getf X ff_X12_28 dX12_collects_167 rfl) ?_
  refine zz_cons (k' := 169) rfl (zz_Ok_none _ _) ?_
  refine zz_cons (k' := 170) rfl (zz_Ok_none _ _) ?_
  refine zz_cons (k' := 171) rfl (zk_aload_n X dX12_collects_170 rfl rfl) ?_
  refine zz_cons (k' := 172) rfl (zk_getf X ff_X12_243 dX12_collects_171 rfl) ?_
  refine zz_cons (k' := 173) rfl (zz_Ok_none _ _) ?_
  refine zz_cons (k' := 174) rfl (zz_Ok_none _ _) ?_
  refine zz_cons (k' := 175) rfl (zk_lald X dX12_collects_174 rfl) ?_
  refine zz_cons (k' := 176) rfl (zk_callv X (zz_Cv_of (List.forall_mem_cons.mpr ⟨⟨(RX_10, zzT10, 50), yX12_gone, cX12_gone, 3, (some .long), 1, 26, rfl, kv_X12_189_10.1, (mm_X12_gone Wd).1, by decide, by decide⟩, (fun _ h => absurd h List.not_mem_nil)⟩)) dX12_collects_175 rfl) ?_
  refine zz_cons (k' := 177) rfl (zz_Ok_none _ _) ?_
  refine zz_cons (k' := 178) rfl (zz_Ok_none _ _) ?_
  refine zz_cons (k' := 179) rfl (zk_aload_n X dX12_collects_178 rfl rfl) ?_
  refine zz_cons (k' := 180) rfl (zk_getf X ff_X12_32 dX12_collects_179 rfl) ?_
  refine zz_cons (k' := 181) rfl (zz_Ok_none _ _) ?_
  refine zz_cons (k' := 182) rfl (zz_Ok_none _ _) ?_
  refine zz_cons (k' := 183) rfl (zk_aload_n X dX12_collects_182 rfl rfl) ?_
  refine zz_cons (k' := 184) rfl (zk_getf X ff_X12_243 dX12_collects_183 rfl) ?_
  refine zz_cons (k' := 185) rfl (zz_Ok_none _ _) ?_
  refine zz_cons (k' := 186) rfl (zz_Ok_none _ _) ?_
  refine zz_cons (k' := 187) rfl (zk_lald X dX12_collects_186 rfl) ?_
  refine zz_cons (k' := 188) rfl (zk_callv X (zz_Cv_of (List.forall_mem_cons.mpr ⟨⟨(RX_10, zzT10, 50), yX12_writesIt, cX12_writesIt, 8, (some .boolean), 2, 52, rfl, kv_X12_261_10.1, (mm_X12_writesIt Wd).1, by decide, by decide⟩, (fun _ h => absurd h List.not_mem_nil)⟩)) dX12_collects_187 rfl) ?_
  refine zz_cons (k' := 189) rfl (zz_Ok_none _ _) ?_
  refine zz_cons (k' := 190) rfl (zz_Ok_none _ _) ?_
  refine zz_cons (k' := 191) rfl (zk_if_eq X dX12_collects_190 (by decide) rfl) ?_
  refine zz_cons (k' := 192) rfl (zz_Ok_none _ _) ?_
  refine zz_cons (k' := 193) rfl (zz_Ok_none _ _) ?_
  refine zz_cons (k' := 194) rfl (zk_iconst X dX12_collects_193 (by decide) rfl) ?_
  refine zz_cons (k' := 195) rfl (zk_goto X dX12_collects_194 (by decide)) ?_
  refine zz_cons (k' := 196) rfl (zz_Ok_none _ _) ?_
  refine zz_cons (k' := 197) rfl (zz_Ok_none _ _) ?_
  refine zz_cons (k' := 198) rfl (zk_iconst X dX12_collects_197 (by decide) rfl) ?_
  refine zz_cons (k' := 199) rfl (zk_iret X rfl dX12_collects_198) ?_
  exact trivial
noncomputable def tX12_routes : List zzOp := [
  zo_aload 0 1,
  zo_aload 0 2,
  zo_getf zzSR (zz_kf [10] 43) 5,
  zo_none,
  zo_none,
  zo_pushI 5 6,
  zo_callv zzSR (zz_cl [(10, fX12_stays)]) 2 9,
  zo_none,
  zo_none,
  zo_if (fun x => decide (¬ x = 0)) 14 12,
  zo_none,
  zo_none,
  zo_pushI 1 13,
  zo_iret true,
  zo_pushL 0 15,
  zo_lstore 1 16,
  zo_pushI 0 17,
  zo_istore 3 18,
  zo_iload 3 19,
  zo_aload 0 20,
  zo_getf zzSR (zz_kf [10] 5) 23,
  zo_none,
  zo_none,
  zo_icmp (fun x y => decide (y ≤ x)) 92 26,
  zo_none,
  zo_none,
  zo_aload 0 27,
  zo_iload 3 28,
  zo_pushI 2 29,
  zo_callv zzSR (zz_cl [(10, fX12_stays)]) 2 32,
  zo_none,
  zo_none,
  zo_if (fun x => decide (x = 0)) 68 35,
  zo_none,
  zo_none,
  zo_aload 0 36,
  zo_iload 3 37,
  zo_pushI 16 39,
  zo_none,
  zo_callv zzSR (zz_cl [(10, fX12_viewed)]) 2 42,
  zo_none,
  zo_none,
  zo_pushI 1 43,
  zo_icmp (fun x y => decide (¬ x = y)) 68 46,
  zo_none,
  zo_none,
  zo_aload 0 47,
  zo_iload 3 48,
  zo_pushI 1 49,
  zo_callv zzSR (zz_cl [(10, fX12_viewed)]) 2 52,
  zo_none,
  zo_none,
  zo_aload 0 53,
  zo_aload 0 54,
  zo_getf zzSR (zz_kf [10] 43) 57,
  zo_none,
  zo_none,
  zo_pushI 1 58,
  zo_callv zzSR (zz_cl [(10, fX12_viewed)]) 2 61,
  zo_none,
  zo_none,
  zo_icmp (fun x y => decide (¬ x = y)) 68 64,
  zo_none,
  zo_none,
  zo_pushI 1 65,
  zo_goto 69,
  zo_none,
  zo_none,
  zo_pushI 0 69,
  zo_istore 4 71,
  zo_none,
  zo_lload 1 72,
  zo_iload 4 74,
  zo_none,
  zo_if (fun x => decide (x = 0)) 83 77,
  zo_none,
  zo_none,
  zo_pushL 1 78,
  zo_iload 3 79,
  zo_li (fun x y => x <<< (y.toInt64 &&& 63)) 80,
  zo_goto 84,
  zo_none,
  zo_none,
  zo_pushL 0 84,
  zo_ll (fun x y => x ||| y) 85,
  zo_lstore 1 86,
  zo_iinc 3 1 89,
  zo_none,
  zo_none,
  zo_goto 18,
  zo_none,
  zo_none,
  zo_lload 1 93,
  zo_aload 0 94,
  zo_getf zzSR (zz_kf [10] 35) 97,
  zo_none,
  zo_none,
  zo_pushI 60 99,
  zo_none,
  zo_aload 0 100,
  zo_getf zzSR (zz_kf [10] 42) 103,
  zo_none,
  zo_none,
  zo_ii (fun x y => x * y) 104,
  zo_aload 0 105,
  zo_getf zzSR (zz_kf [10] 43) 108,
  zo_none,
  zo_none,
  zo_ii (fun x y => x + y) 109,
  zo_lald zzSR 110,
  zo_lcmp 111,
  zo_if (fun x => decide (x = 0)) 135 114,
  zo_none,
  zo_none,
  zo_aload 0 115,
  zo_aload 0 116,
  zo_getf zzSR (zz_kf [10] 43) 119,
  zo_none,
  zo_none,
  zo_aload 0 120,
  zo_getf zzSR (zz_kf [10] 7) 123,
  zo_none,
  zo_none,
  zo_aload 0 124,
  zo_getf zzSR (zz_kf [10] 43) 127,
  zo_none,
  zo_none,
  zo_lald zzSR 128,
  zo_lload 1 129,
  zo_callv zzSR (zz_cl [(10, fX12_writesIt)]) 3 132,
  zo_none,
  zo_none,
  zo_if (fun x => decide (x = 0)) 139 135,
  zo_none,
  zo_none,
  zo_pushI 1 136,
  zo_goto 140,
  zo_none,
  zo_none,
  zo_pushI 0 140,
  zo_iret true]
set_option maxRecDepth 100000 in
theorem tl_X12_routes : ∀ pc, zz_Tl (tX12_routes.getD pc zo_none) := by
  refine zz_Tl_mem ?_
  unfold tX12_routes
  refine List.forall_mem_cons.mpr ⟨(zo_aload_tl _ _), ?_⟩
  refine List.forall_mem_cons.mpr ⟨(zo_aload_tl _ _), ?_⟩
  refine List.forall_mem_cons.mpr ⟨(zo_getf_tl _ _ _), ?_⟩
  refine List.forall_mem_cons.mpr ⟨zo_none_tl, ?_⟩
  refine List.forall_mem_cons.mpr ⟨zo_none_tl, ?_⟩
  refine List.forall_mem_cons.mpr ⟨(zo_pushI_tl _ _), ?_⟩
  refine List.forall_mem_cons.mpr ⟨(zo_callv_tl _ _ _ _), ?_⟩
  refine List.forall_mem_cons.mpr ⟨zo_none_tl, ?_⟩
  refine List.forall_mem_cons.mpr ⟨zo_none_tl, ?_⟩
  refine List.forall_mem_cons.mpr ⟨(zo_if_tl _ _ _), ?_⟩
  refine List.forall_mem_cons.mpr ⟨zo_none_tl, ?_⟩
  refine List.forall_mem_cons.mpr ⟨zo_none_tl, ?_⟩
  refine List.forall_mem_cons.mpr ⟨(zo_pushI_tl _ _), ?_⟩
  refine List.forall_mem_cons.mpr ⟨(zo_iret_tl _), ?_⟩
  refine List.forall_mem_cons.mpr ⟨(zo_pushL_tl _ _), ?_⟩
  refine List.forall_mem_cons.mpr ⟨(zo_lstore_tl _ _), ?_⟩
  refine List.forall_mem_cons.mpr ⟨(zo_pushI_tl _ _), ?_⟩
  refine List.forall_mem_cons.mpr ⟨(zo_istore_tl _ _), ?_⟩
  refine List.forall_mem_cons.mpr ⟨(zo_iload_tl _ _), ?_⟩
  refine List.forall_mem_cons.mpr ⟨(zo_aload_tl _ _), ?_⟩
  refine List.forall_mem_cons.mpr ⟨(zo_getf_tl _ _ _), ?_⟩
  refine List.forall_mem_cons.mpr ⟨zo_none_tl, ?_⟩
  refine List.forall_mem_cons.mpr ⟨zo_none_tl, ?_⟩
  refine List.forall_mem_cons.mpr ⟨(zo_icmp_tl _ _ _), ?_⟩
  refine List.forall_mem_cons.mpr ⟨zo_none_tl, ?_⟩
  refine List.forall_mem_cons.mpr ⟨zo_none_tl, ?_⟩
  refine List.forall_mem_cons.mpr ⟨(zo_aload_tl _ _), ?_⟩
  refine List.forall_mem_cons.mpr ⟨(zo_iload_tl _ _), ?_⟩
  refine List.forall_mem_cons.mpr ⟨(zo_pushI_tl _ _), ?_⟩
  refine List.forall_mem_cons.mpr ⟨(zo_callv_tl _ _ _ _), ?_⟩
  refine List.forall_mem_cons.mpr ⟨zo_none_tl, ?_⟩
  refine List.forall_mem_cons.mpr ⟨zo_none_tl, ?_⟩
  refine List.forall_mem_cons.mpr ⟨(zo_if_tl _ _ _), ?_⟩
  refine List.forall_mem_cons.mpr ⟨zo_none_tl, ?_⟩
  refine List.forall_mem_cons.mpr ⟨zo_none_tl, ?_⟩
  refine List.forall_mem_cons.mpr ⟨(zo_aload_tl _ _), ?_⟩
  refine List.forall_mem_cons.mpr ⟨(zo_iload_tl _ _), ?_⟩
  refine List.forall_mem_cons.mpr ⟨(zo_pushI_tl _ _), ?_⟩
  refine List.forall_mem_cons.mpr ⟨zo_none_tl, ?_⟩
  refine List.forall_mem_cons.mpr ⟨(zo_callv_tl _ _ _ _), ?_⟩
  refine List.forall_mem_cons.mpr ⟨zo_none_tl, ?_⟩
  refine List.forall_mem_cons.mpr ⟨zo_none_tl, ?_⟩
  refine List.forall_mem_cons.mpr ⟨(zo_pushI_tl _ _), ?_⟩
  refine List.forall_mem_cons.mpr ⟨(zo_icmp_tl _ _ _), ?_⟩
  refine List.forall_mem_cons.mpr ⟨zo_none_tl, ?_⟩
  refine List.forall_mem_cons.mpr ⟨zo_none_tl, ?_⟩
  refine List.forall_mem_cons.mpr ⟨(zo_aload_tl _ _), ?_⟩
  refine List.forall_mem_cons.mpr ⟨(zo_iload_tl _ _), ?_⟩
  refine List.forall_mem_cons.mpr ⟨(zo_pushI_tl _ _), ?_⟩
  refine List.forall_mem_cons.mpr ⟨(zo_callv_tl _ _ _ _), ?_⟩
  refine List.forall_mem_cons.mpr ⟨zo_none_tl, ?_⟩
  refine List.forall_mem_cons.mpr ⟨zo_none_tl, ?_⟩
  refine List.forall_mem_cons.mpr ⟨(zo_aload_tl _ _), ?_⟩
  refine List.forall_mem_cons.mpr ⟨(zo_aload_tl _ _), ?_⟩
  refine List.forall_mem_cons.mpr ⟨(zo_getf_tl _ _ _), ?_⟩
  refine List.forall_mem_cons.mpr ⟨zo_none_tl, ?_⟩
  refine List.forall_mem_cons.mpr ⟨zo_none_tl, ?_⟩
  refine List.forall_mem_cons.mpr ⟨(zo_pushI_tl _ _), ?_⟩
  refine List.forall_mem_cons.mpr ⟨(zo_callv_tl _ _ _ _), ?_⟩
  refine List.forall_mem_cons.mpr ⟨zo_none_tl, ?_⟩
  refine List.forall_mem_cons.mpr ⟨zo_none_tl, ?_⟩
  refine List.forall_mem_cons.mpr ⟨(zo_icmp_tl _ _ _), ?_⟩
  refine List.forall_mem_cons.mpr ⟨zo_none_tl, ?_⟩
  refine List.forall_mem_cons.mpr ⟨zo_none_tl, ?_⟩
  refine List.forall_mem_cons.mpr ⟨(zo_pushI_tl _ _), ?_⟩
  refine List.forall_mem_cons.mpr ⟨(zo_goto_tl _), ?_⟩
  refine List.forall_mem_cons.mpr ⟨zo_none_tl, ?_⟩
  refine List.forall_mem_cons.mpr ⟨zo_none_tl, ?_⟩
  refine List.forall_mem_cons.mpr ⟨(zo_pushI_tl _ _), ?_⟩
  refine List.forall_mem_cons.mpr ⟨(zo_istore_tl _ _), ?_⟩
  refine List.forall_mem_cons.mpr ⟨zo_none_tl, ?_⟩
  refine List.forall_mem_cons.mpr ⟨(zo_lload_tl _ _), ?_⟩
  refine List.forall_mem_cons.mpr ⟨(zo_iload_tl _ _), ?_⟩
  refine List.forall_mem_cons.mpr ⟨zo_none_tl, ?_⟩
  refine List.forall_mem_cons.mpr ⟨(zo_if_tl _ _ _), ?_⟩
  refine List.forall_mem_cons.mpr ⟨zo_none_tl, ?_⟩
  refine List.forall_mem_cons.mpr ⟨zo_none_tl, ?_⟩
  refine List.forall_mem_cons.mpr ⟨(zo_pushL_tl _ _), ?_⟩
  refine List.forall_mem_cons.mpr ⟨(zo_iload_tl _ _), ?_⟩
  refine List.forall_mem_cons.mpr ⟨(zo_li_tl _ _), ?_⟩
  refine List.forall_mem_cons.mpr ⟨(zo_goto_tl _), ?_⟩
  refine List.forall_mem_cons.mpr ⟨zo_none_tl, ?_⟩
  refine List.forall_mem_cons.mpr ⟨zo_none_tl, ?_⟩
  refine List.forall_mem_cons.mpr ⟨(zo_pushL_tl _ _), ?_⟩
  refine List.forall_mem_cons.mpr ⟨(zo_ll_tl _ _), ?_⟩
  refine List.forall_mem_cons.mpr ⟨(zo_lstore_tl _ _), ?_⟩
  refine List.forall_mem_cons.mpr ⟨(zo_iinc_tl _ _ _), ?_⟩
  refine List.forall_mem_cons.mpr ⟨zo_none_tl, ?_⟩
  refine List.forall_mem_cons.mpr ⟨zo_none_tl, ?_⟩
  refine List.forall_mem_cons.mpr ⟨(zo_goto_tl _), ?_⟩
  refine List.forall_mem_cons.mpr ⟨zo_none_tl, ?_⟩
  refine List.forall_mem_cons.mpr ⟨zo_none_tl, ?_⟩
  refine List.forall_mem_cons.mpr ⟨(zo_lload_tl _ _), ?_⟩
  refine List.forall_mem_cons.mpr ⟨(zo_aload_tl _ _), ?_⟩
  refine List.forall_mem_cons.mpr ⟨(zo_getf_tl _ _ _), ?_⟩
  refine List.forall_mem_cons.mpr ⟨zo_none_tl, ?_⟩
  refine List.forall_mem_cons.mpr ⟨zo_none_tl, ?_⟩
  refine List.forall_mem_cons.mpr ⟨(zo_pushI_tl _ _), ?_⟩
  refine List.forall_mem_cons.mpr ⟨zo_none_tl, ?_⟩
  refine List.forall_mem_cons.mpr ⟨(zo_aload_tl _ _), ?_⟩
  refine List.forall_mem_cons.mpr ⟨(zo_getf_tl _ _ _), ?_⟩
  refine List.forall_mem_cons.mpr ⟨zo_none_tl, ?_⟩
  refine List.forall_mem_cons.mpr ⟨zo_none_tl, ?_⟩
  refine List.forall_mem_cons.mpr ⟨(zo_ii_tl _ _), ?_⟩
  refine List.forall_mem_cons.mpr ⟨(zo_aload_tl _ _), ?_⟩
  refine List.forall_mem_cons.mpr ⟨(zo_getf_tl _ _ _), ?_⟩
  refine List.forall_mem_cons.mpr ⟨zo_none_tl, ?_⟩
  refine List.forall_mem_cons.mpr ⟨zo_none_tl, ?_⟩
  refine List.forall_mem_cons.mpr ⟨(zo_ii_tl _ _), ?_⟩
  refine List.forall_mem_cons.mpr ⟨(zo_lald_tl _ _), ?_⟩
  refine List.forall_mem_cons.mpr ⟨(zo_lcmp_tl _), ?_⟩
  refine List.forall_mem_cons.mpr ⟨(zo_if_tl _ _ _), ?_⟩
  refine List.forall_mem_cons.mpr ⟨zo_none_tl, ?_⟩
  refine List.forall_mem_cons.mpr ⟨zo_none_tl, ?_⟩
  refine List.forall_mem_cons.mpr ⟨(zo_aload_tl _ _), ?_⟩
  refine List.forall_mem_cons.mpr ⟨(zo_aload_tl _ _), ?_⟩
  refine List.forall_mem_cons.mpr ⟨(zo_getf_tl _ _ _), ?_⟩
  refine List.forall_mem_cons.mpr ⟨zo_none_tl, ?_⟩
  refine List.forall_mem_cons.mpr ⟨zo_none_tl, ?_⟩
  refine List.forall_mem_cons.mpr ⟨(zo_aload_tl _ _), ?_⟩
  refine List.forall_mem_cons.mpr ⟨(zo_getf_tl _ _ _), ?_⟩
  refine List.forall_mem_cons.mpr ⟨zo_none_tl, ?_⟩
  refine List.forall_mem_cons.mpr ⟨zo_none_tl, ?_⟩
  refine List.forall_mem_cons.mpr ⟨(zo_aload_tl _ _), ?_⟩
  refine List.forall_mem_cons.mpr ⟨(zo_getf_tl _ _ _), ?_⟩
  refine List.forall_mem_cons.mpr ⟨zo_none_tl, ?_⟩
  refine List.forall_mem_cons.mpr ⟨zo_none_tl, ?_⟩
  refine List.forall_mem_cons.mpr ⟨(zo_lald_tl _ _), ?_⟩
  refine List.forall_mem_cons.mpr ⟨(zo_lload_tl _ _), ?_⟩
  refine List.forall_mem_cons.mpr ⟨(zo_callv_tl _ _ _ _), ?_⟩
  refine List.forall_mem_cons.mpr ⟨zo_none_tl, ?_⟩
  refine List.forall_mem_cons.mpr ⟨zo_none_tl, ?_⟩
  refine List.forall_mem_cons.mpr ⟨(zo_if_tl _ _ _), ?_⟩
  refine List.forall_mem_cons.mpr ⟨zo_none_tl, ?_⟩
  refine List.forall_mem_cons.mpr ⟨zo_none_tl, ?_⟩
  refine List.forall_mem_cons.mpr ⟨(zo_pushI_tl _ _), ?_⟩
  refine List.forall_mem_cons.mpr ⟨(zo_goto_tl _), ?_⟩
  refine List.forall_mem_cons.mpr ⟨zo_none_tl, ?_⟩
  refine List.forall_mem_cons.mpr ⟨zo_none_tl, ?_⟩
  refine List.forall_mem_cons.mpr ⟨(zo_pushI_tl _ _), ?_⟩
  refine List.forall_mem_cons.mpr ⟨(zo_iret_tl _), ?_⟩
  exact fun _ h => absurd h List.not_mem_nil
noncomputable def fX12_routes : zzFn := zz_fn tX12_routes 5
set_option maxRecDepth 100000 in
set_option maxHeartbeats 4000000 in
theorem mm_X12_routes {l : Launch} {D : va_G} {cA : Nat → ClassId} {ad : Nat → Nat} {Ex : (Nat → Prop) → State → Heap → Prop} (Wd : zzWR l D cA ad Ex) : zz_Cn l D zzCl cA ad zzSR Ex yX12_routes cX12_routes 5 (some .boolean) 3 79 fX12_routes ∧ zz_Cx l D zzCl cA ad zzSR Ex yX12_routes cX12_routes 5 (some .boolean) 3 79 fX12_routes := by
  refine zz_meth (plainFor_of_name (by decide)) Wd.1 Wd.2.1 Wd.2.2 (fun p e R s m args below meth c rr X => ?_)
  unfold tX12_routes
  refine zz_cons (k' := 1) rfl (zk_aload_n X dX12_routes_0 rfl rfl) ?_
  refine zz_cons (k' := 2) rfl (zk_aload_n X dX12_routes_1 rfl rfl) ?_
  refine zz_cons (k' := 3) rfl (zk_getf X ff_X12_243 dX12_routes_2 rfl) ?_
  refine zz_cons (k' := 4) rfl (zz_Ok_none _ _) ?_
  refine zz_cons (k' := 5) rfl (zz_Ok_none _ _) ?_
  refine zz_cons (k' := 6) rfl (zk_iconst X dX12_routes_5 (by decide) rfl) ?_
  refine zz_cons (k' := 7) rfl (zk_callv X (zz_Cv_of (List.forall_mem_cons.mpr ⟨⟨(RX_10, zzT10, 50), yX12_stays, cX12_stays, 3, (some .boolean), 2, 45, rfl, kv_X12_269_10.1, (mm_X12_stays Wd).1, by decide, by decide⟩, (fun _ h => absurd h List.not_mem_nil)⟩)) dX12_routes_6 rfl) ?_
  refine zz_cons (k' := 8) rfl (zz_Ok_none _ _) ?_
  refine zz_cons (k' := 9) rfl (zz_Ok_none _ _) ?_
  refine zz_cons (k' := 10) rfl (zk_if_ne X dX12_routes_9 (by decide) rfl) ?_
  refine zz_cons (k' := 11) rfl (zz_Ok_none _ _) ?_
  refine zz_cons (k' := 12) rfl (zz_Ok_none _ _) ?_
  refine zz_cons (k' := 13) rfl (zk_iconst X dX12_routes_12 (by decide) rfl) ?_
  refine zz_cons (k' := 14) rfl (zk_iret X rfl dX12_routes_13) ?_
  refine zz_cons (k' := 15) rfl (zk_lconst X dX12_routes_14 (by decide) rfl) ?_
  refine zz_cons (k' := 16) rfl (zk_lstore_n X dX12_routes_15 rfl (by decide) rfl) ?_
  refine zz_cons (k' := 17) rfl (zk_iconst X dX12_routes_16 (by decide) rfl) ?_
  refine zz_cons (k' := 18) rfl (zk_istore_n X dX12_routes_17 rfl (by decide) rfl) ?_
  refine zz_cons (k' := 19) rfl (zk_iload_n X dX12_routes_18 rfl rfl) ?_
  refine zz_cons (k' := 20) rfl (zk_aload_n X dX12_routes_19 rfl rfl) ?_
  refine zz_cons (k' := 21) rfl (zk_getf X ff_X12_137 dX12_routes_20 rfl) ?_
  refine zz_cons (k' := 22) rfl (zz_Ok_none _ _) ?_
  refine zz_cons (k' := 23) rfl (zz_Ok_none _ _) ?_
  refine zz_cons (k' := 24) rfl (zk_icmp_ge X dX12_routes_23 (by decide) rfl) ?_
  refine zz_cons (k' := 25) rfl (zz_Ok_none _ _) ?_
  refine zz_cons (k' := 26) rfl (zz_Ok_none _ _) ?_
  refine zz_cons (k' := 27) rfl (zk_aload_n X dX12_routes_26 rfl rfl) ?_
  refine zz_cons (k' := 28) rfl (zk_iload_n X dX12_routes_27 rfl rfl) ?_
  refine zz_cons (k' := 29) rfl (zk_iconst X dX12_routes_28 (by decide) rfl) ?_
  refine zz_cons (k' := 30) rfl (zk_callv X (zz_Cv_of (List.forall_mem_cons.mpr ⟨⟨(RX_10, zzT10, 50), yX12_stays, cX12_stays, 3, (some .boolean), 2, 45, rfl, kv_X12_269_10.1, (mm_X12_stays Wd).1, by decide, by decide⟩, (fun _ h => absurd h List.not_mem_nil)⟩)) dX12_routes_29 rfl) ?_
  refine zz_cons (k' := 31) rfl (zz_Ok_none _ _) ?_
  refine zz_cons (k' := 32) rfl (zz_Ok_none _ _) ?_
  refine zz_cons (k' := 33) rfl (zk_if_eq X dX12_routes_32 (by decide) rfl) ?_
  refine zz_cons (k' := 34) rfl (zz_Ok_none _ _) ?_
  refine zz_cons (k' := 35) rfl (zz_Ok_none _ _) ?_
  refine zz_cons (k' := 36) rfl (zk_aload_n X dX12_routes_35 rfl rfl) ?_
  refine zz_cons (k' := 37) rfl (zk_iload_n X dX12_routes_36 rfl rfl) ?_
  refine zz_cons (k' := 38) rfl (zk_bipush X dX12_routes_37 (by decide) rfl) ?_
  refine zz_cons (k' := 39) rfl (zz_Ok_none _ _) ?_
  refine zz_cons (k' := 40) rfl (zk_callv X (zz_Cv_of (List.forall_mem_cons.mpr ⟨⟨(RX_10, zzT10, 50), yX12_viewed, cX12_viewed, 3, (some .int), 1, 23, rfl, kv_X12_204_10.1, (mm_X12_viewed Wd).1, by decide, by decide⟩, (fun _ h => absurd h List.not_mem_nil)⟩)) dX12_routes_39 rfl) ?_
  refine zz_cons (k' := 41) rfl (zz_Ok_none _ _) ?_
  refine zz_cons (k' := 42) rfl (zz_Ok_none _ _) ?_
  refine zz_cons (k' := 43) rfl (zk_iconst X dX12_routes_42 (by decide) rfl) ?_
  refine zz_cons (k' := 44) rfl (zk_icmp_ne X dX12_routes_43 (by decide) rfl) ?_
  refine zz_cons (k' := 45) rfl (zz_Ok_none _ _) ?_
  refine zz_cons (k' := 46) rfl (zz_Ok_none _ _) ?_
  refine zz_cons (k' := 47) rfl (zk_aload_n X dX12_routes_46 rfl rfl) ?_
  refine zz_cons (k' := 48) rfl (zk_iload_n X dX12_routes_47 rfl rfl) ?_
  refine zz_cons (k' := 49) rfl (zk_iconst X dX12_routes_48 (by decide) rfl) ?_
  refine zz_cons (k' := 50) rfl (zk_callv X (zz_Cv_of (List.forall_mem_cons.mpr ⟨⟨(RX_10, zzT10, 50), yX12_viewed, cX12_viewed, 3, (some .int), 1, 23, rfl, kv_X12_204_10.1, (mm_X12_viewed Wd).1, by decide, by decide⟩, (fun _ h => absurd h List.not_mem_nil)⟩)) dX12_routes_49 rfl) ?_
  refine zz_cons (k' := 51) rfl (zz_Ok_none _ _) ?_
  refine zz_cons (k' := 52) rfl (zz_Ok_none _ _) ?_
  refine zz_cons (k' := 53) rfl (zk_aload_n X dX12_routes_52 rfl rfl) ?_
  refine zz_cons (k' := 54) rfl (zk_aload_n X dX12_routes_53 rfl rfl) ?_
  refine zz_cons (k' := 55) rfl (zk_getf X ff_X12_243 dX12_routes_54 rfl) ?_
  refine zz_cons (k' := 56) rfl (zz_Ok_none _ _) ?_
  refine zz_cons (k' := 57) rfl (zz_Ok_none _ _) ?_
  refine zz_cons (k' := 58) rfl (zk_iconst X dX12_routes_57 (by decide) rfl) ?_
  refine zz_cons (k' := 59) rfl (zk_callv X (zz_Cv_of (List.forall_mem_cons.mpr ⟨⟨(RX_10, zzT10, 50), yX12_viewed, cX12_viewed, 3, (some .int), 1, 23, rfl, kv_X12_204_10.1, (mm_X12_viewed Wd).1, by decide, by decide⟩, (fun _ h => absurd h List.not_mem_nil)⟩)) dX12_routes_58 rfl) ?_
  refine zz_cons (k' := 60) rfl (zz_Ok_none _ _) ?_
  refine zz_cons (k' := 61) rfl (zz_Ok_none _ _) ?_
  refine zz_cons (k' := 62) rfl (zk_icmp_ne X dX12_routes_61 (by decide) rfl) ?_
  refine zz_cons (k' := 63) rfl (zz_Ok_none _ _) ?_
  refine zz_cons (k' := 64) rfl (zz_Ok_none _ _) ?_
  refine zz_cons (k' := 65) rfl (zk_iconst X dX12_routes_64 (by decide) rfl) ?_
  refine zz_cons (k' := 66) rfl (zk_goto X dX12_routes_65 (by decide)) ?_
  refine zz_cons (k' := 67) rfl (zz_Ok_none _ _) ?_
  refine zz_cons (k' := 68) rfl (zz_Ok_none _ _) ?_
  refine zz_cons (k' := 69) rfl (zk_iconst X dX12_routes_68 (by decide) rfl) ?_
  refine zz_cons (k' := 70) rfl (zk_istore X dX12_routes_69 (by decide) rfl) ?_
  refine zz_cons (k' := 71) rfl (zz_Ok_none _ _) ?_
  refine zz_cons (k' := 72) rfl (zk_lload_n X dX12_routes_71 rfl rfl) ?_
  refine zz_cons (k' := 73) rfl (zk_iload X dX12_routes_72 rfl) ?_
  refine zz_cons (k' := 74) rfl (zz_Ok_none _ _) ?_
  refine zz_cons (k' := 75) rfl (zk_if_eq X dX12_routes_74 (by decide) rfl) ?_
  refine zz_cons (k' := 76) rfl (zz_Ok_none _ _) ?_
  refine zz_cons (k' := 77) rfl (zz_Ok_none _ _) ?_
  refine zz_cons (k' := 78) rfl (zk_lconst X dX12_routes_77 (by decide) rfl) ?_
  refine zz_cons (k' := 79) rfl (zk_iload_n X dX12_routes_78 rfl rfl) ?_
  refine zz_cons (k' := 80) rfl (zk_lshl X dX12_routes_79 rfl) ?_
  refine zz_cons (k' := 81) rfl (zk_goto X dX12_routes_80 (by decide)) ?_
  refine zz_cons (k' := 82) rfl (zz_Ok_none _ _) ?_
  refine zz_cons (k' := 83) rfl (zz_Ok_none _ _) ?_
  refine zz_cons (k' := 84) rfl (zk_lconst X dX12_routes_83 (by decide) rfl) ?_
  refine zz_cons (k' := 85) rfl (zk_lor X dX12_routes_84 rfl) ?_
  refine zz_cons (k' := 86) rfl (zk_lstore_n X dX12_routes_85 rfl (by decide) rfl) ?_
  refine zz_cons (k' := 87) rfl (zk_iinc X dX12_routes_86 (by decide) (by decide) rfl) ?_
  refine zz_cons (k' := 88) rfl (zz_Ok_none _ _) ?_
  refine zz_cons (k' := 89) rfl (zz_Ok_none _ _) ?_
  refine zz_cons (k' := 90) rfl (zk_goto X dX12_routes_89 (by decide)) ?_
  refine zz_cons (k' := 91) rfl (zz_Ok_none _ _) ?_
  refine zz_cons (k' := 92) rfl (zz_Ok_none _ _) ?_
  refine zz_cons (k' := 93) rfl (zk_lload_n X dX12_routes_92 rfl rfl) ?_
  refine zz_cons (k' := 94) rfl (zk_aload_n X dX12_routes_93 rfl rfl) ?_
  refine zz_cons (k' := 95) rfl (zk_getf X ff_X12_100 dX12_routes_94 rfl) ?_
  refine zz_cons (k' := 96) rfl (zz_Ok_none _ _) ?_
  refine zz_cons (k' := 97) rfl (zz_Ok_none _ _) ?_
  refine zz_cons (k' := 98) rfl (zk_bipush X dX12_routes_97 (by decide) rfl) ?_
  refine zz_cons (k' := 99) rfl (zz_Ok_none _ _) ?_
  refine zz_cons (k' := 100) rfl (zk_aload_n X dX12_routes_99 rfl rfl) ?_
  refine zz_cons (k' := 101) rfl (zk_getf X ff_X12_193 dX12_routes_100 rfl) ?_
  refine zz_cons (k' := 102) rfl (zz_Ok_none _ _) ?_
  refine zz_cons (k' := 103) rfl (zz_Ok_none _ _) ?_
  refine zz_cons (k' := 104) rfl (zk_imul X dX12_routes_103 rfl) ?_
  refine zz_cons (k' := 105) rfl (zk_aload_n X dX12_routes_104 rfl rfl) ?_
  refine zz_cons (k' := 106) rfl (zk_getf X ff_X12_243 dX12_routes_105 rfl) ?_
  refine zz_cons (k' := 107) rfl (zz_Ok_none _ _) ?_
  refine zz_cons (k' := 108) rfl (zz_Ok_none _ _) ?_
  refine zz_cons (k' := 109) rfl (zk_iadd X dX12_routes_108 rfl) ?_
  refine zz_cons (k' := 110) rfl (zk_lald X dX12_routes_109 rfl) ?_
  refine zz_cons (k' := 111) rfl (zk_lcmp X dX12_routes_110 rfl) ?_
  refine zz_cons (k' := 112) rfl (zk_if_eq X dX12_routes_111 (by decide) rfl) ?_
  refine zz_cons (k' := 113) rfl (zz_Ok_none _ _) ?_
  refine zz_cons (k' := 114) rfl (zz_Ok_none _ _) ?_
  refine zz_cons (k' := 115) rfl (zk_aload_n X dX12_routes_114 rfl rfl) ?_
  refine zz_cons (k' := 116) rfl (zk_aload_n X dX12_routes_115 rfl rfl) ?_
  refine zz_cons (k' := 117) rfl (zk_getf X ff_X12_243 dX12_routes_116 rfl) ?_
  refine zz_cons (k' := 118) rfl (zz_Ok_none _ _) ?_
  refine zz_cons (k' := 119) rfl (zz_Ok_none _ _) ?_
  refine zz_cons (k' := 120) rfl (zk_aload_n X dX12_routes_119 rfl rfl) ?_
  refine zz_cons (k' := 121) rfl (zk_getf X ff_X12_28 dX12_routes_120 rfl) ?_
  refine zz_cons (k' := 122) rfl (zz_Ok_none _ _) ?_
  refine zz_cons (k' := 123) rfl (zz_Ok_none _ _) ?_
  refine zz_cons (k' := 124) rfl (zk_aload_n X dX12_routes_123 rfl rfl) ?_
  refine zz_cons (k' := 125) rfl (zk_getf X ff_X12_243 dX12_routes_124 rfl) ?_
  refine zz_cons (k' := 126) rfl (zz_Ok_none _ _) ?_
  refine zz_cons (k' := 127) rfl (zz_Ok_none _ _) ?_
  refine zz_cons (k' := 128) rfl (zk_lald X dX12_routes_127 rfl) ?_
  refine zz_cons (k' := 129) rfl (zk_lload_n X dX12_routes_128 rfl rfl) ?_
  refine zz_cons (k' := 130) rfl (zk_callv X (zz_Cv_of (List.forall_mem_cons.mpr ⟨⟨(RX_10, zzT10, 50), yX12_writesIt, cX12_writesIt, 8, (some .boolean), 2, 52, rfl, kv_X12_261_10.1, (mm_X12_writesIt Wd).1, by decide, by decide⟩, (fun _ h => absurd h List.not_mem_nil)⟩)) dX12_routes_129 rfl) ?_
  refine zz_cons (k' := 131) rfl (zz_Ok_none _ _) ?_
  refine zz_cons (k' := 132) rfl (zz_Ok_none _ _) ?_
  refine zz_cons (k' := 133) rfl (zk_if_eq X dX12_routes_132 (by decide) rfl) ?_
  refine zz_cons (k' := 134) rfl (zz_Ok_none _ _) ?_
  refine zz_cons (k' := 135) rfl (zz_Ok_none _ _) ?_
  refine zz_cons (k' := 136) rfl (zk_iconst X dX12_routes_135 (by decide) rfl) ?_
  refine zz_cons (k' := 137) rfl (zk_goto X dX12_routes_136 (by decide)) ?_
  refine zz_cons (k' := 138) rfl (zz_Ok_none _ _) ?_
  refine zz_cons (k' := 139) rfl (zz_Ok_none _ _) ?_
  refine zz_cons (k' := 140) rfl (zk_iconst X dX12_routes_139 (by decide) rfl) ?_
  refine zz_cons (k' := 141) rfl (zk_iret X rfl dX12_routes_140) ?_
  exact trivial
noncomputable def tX12_shouldWant : List zzOp := [
  zo_aload 0 1,
  zo_aload 0 2,
  zo_getf zzSR (zz_kf [10] 43) 5,
  zo_none,
  zo_none,
  zo_pushI 6 7,
  zo_none,
  zo_callv zzSR (zz_cl [(10, fX12_viewed)]) 2 10,
  zo_none,
  zo_none,
  zo_pushI 9 12,
  zo_none,
  zo_ii (fun x y => x + y) 13,
  zo_pushI 10 15,
  zo_none,
  zo_iid (fun x y => x / y) 16,
  zo_istore 1 17,
  zo_iload 1 18,
  zo_pushI 1 19,
  zo_icmp (fun x y => decide (y ≤ x)) 26 22,
  zo_none,
  zo_none,
  zo_pushI 1 23,
  zo_goto 27,
  zo_none,
  zo_none,
  zo_iload 1 27,
  zo_istore 2 28,
  zo_iload 2 29,
  zo_aload 0 30,
  zo_aload 0 31,
  zo_getf zzSR (zz_kf [10] 43) 34,
  zo_none,
  zo_none,
  zo_pushI 5 35,
  zo_callv zzSR (zz_cl [(10, fX12_viewed)]) 2 38,
  zo_none,
  zo_none,
  zo_icmp (fun x y => decide (y ≤ x)) 45 41,
  zo_none,
  zo_none,
  zo_iload 2 42,
  zo_goto 54,
  zo_none,
  zo_none,
  zo_aload 0 46,
  zo_aload 0 47,
  zo_getf zzSR (zz_kf [10] 43) 50,
  zo_none,
  zo_none,
  zo_pushI 5 51,
  zo_callv zzSR (zz_cl [(10, fX12_viewed)]) 2 54,
  zo_none,
  zo_none,
  zo_iret false]
set_option maxRecDepth 100000 in
theorem tl_X12_shouldWant : ∀ pc, zz_Tl (tX12_shouldWant.getD pc zo_none) := by
  refine zz_Tl_mem ?_
  unfold tX12_shouldWant
  refine List.forall_mem_cons.mpr ⟨(zo_aload_tl _ _), ?_⟩
  refine List.forall_mem_cons.mpr ⟨(zo_aload_tl _ _), ?_⟩
  refine List.forall_mem_cons.mpr ⟨(zo_getf_tl _ _ _), ?_⟩
  refine List.forall_mem_cons.mpr ⟨zo_none_tl, ?_⟩
  refine List.forall_mem_cons.mpr ⟨zo_none_tl, ?_⟩
  refine List.forall_mem_cons.mpr ⟨(zo_pushI_tl _ _), ?_⟩
  refine List.forall_mem_cons.mpr ⟨zo_none_tl, ?_⟩
  refine List.forall_mem_cons.mpr ⟨(zo_callv_tl _ _ _ _), ?_⟩
  refine List.forall_mem_cons.mpr ⟨zo_none_tl, ?_⟩
  refine List.forall_mem_cons.mpr ⟨zo_none_tl, ?_⟩
  refine List.forall_mem_cons.mpr ⟨(zo_pushI_tl _ _), ?_⟩
  refine List.forall_mem_cons.mpr ⟨zo_none_tl, ?_⟩
  refine List.forall_mem_cons.mpr ⟨(zo_ii_tl _ _), ?_⟩
  refine List.forall_mem_cons.mpr ⟨(zo_pushI_tl _ _), ?_⟩
  refine List.forall_mem_cons.mpr ⟨zo_none_tl, ?_⟩
  refine List.forall_mem_cons.mpr ⟨(zo_iid_tl _ _), ?_⟩
  refine List.forall_mem_cons.mpr ⟨(zo_istore_tl _ _), ?_⟩
  refine List.forall_mem_cons.mpr ⟨(zo_iload_tl _ _), ?_⟩
  refine List.forall_mem_cons.mpr ⟨(zo_pushI_tl _ _), ?_⟩
  refine List.forall_mem_cons.mpr ⟨(zo_icmp_tl _ _ _), ?_⟩
  refine List.forall_mem_cons.mpr ⟨zo_none_tl, ?_⟩
  refine List.forall_mem_cons.mpr ⟨zo_none_tl, ?_⟩
  refine List.forall_mem_cons.mpr ⟨(zo_pushI_tl _ _), ?_⟩
  refine List.forall_mem_cons.mpr ⟨(zo_goto_tl _), ?_⟩
  refine List.forall_mem_cons.mpr ⟨zo_none_tl, ?_⟩
  refine List.forall_mem_cons.mpr ⟨zo_none_tl, ?_⟩
  refine List.forall_mem_cons.mpr ⟨(zo_iload_tl _ _), ?_⟩
  refine List.forall_mem_cons.mpr ⟨(zo_istore_tl _ _), ?_⟩
  refine List.forall_mem_cons.mpr ⟨(zo_iload_tl _ _), ?_⟩
  refine List.forall_mem_cons.mpr ⟨(zo_aload_tl _ _), ?_⟩
  refine List.forall_mem_cons.mpr ⟨(zo_aload_tl _ _), ?_⟩
  refine List.forall_mem_cons.mpr ⟨(zo_getf_tl _ _ _), ?_⟩
  refine List.forall_mem_cons.mpr ⟨zo_none_tl, ?_⟩
  refine List.forall_mem_cons.mpr ⟨zo_none_tl, ?_⟩
  refine List.forall_mem_cons.mpr ⟨(zo_pushI_tl _ _), ?_⟩
  refine List.forall_mem_cons.mpr ⟨(zo_callv_tl _ _ _ _), ?_⟩
  refine List.forall_mem_cons.mpr ⟨zo_none_tl, ?_⟩
  refine List.forall_mem_cons.mpr ⟨zo_none_tl, ?_⟩
  refine List.forall_mem_cons.mpr ⟨(zo_icmp_tl _ _ _), ?_⟩
  refine List.forall_mem_cons.mpr ⟨zo_none_tl, ?_⟩
  refine List.forall_mem_cons.mpr ⟨zo_none_tl, ?_⟩
  refine List.forall_mem_cons.mpr ⟨(zo_iload_tl _ _), ?_⟩
  refine List.forall_mem_cons.mpr ⟨(zo_goto_tl _), ?_⟩
  refine List.forall_mem_cons.mpr ⟨zo_none_tl, ?_⟩
  refine List.forall_mem_cons.mpr ⟨zo_none_tl, ?_⟩
  refine List.forall_mem_cons.mpr ⟨(zo_aload_tl _ _), ?_⟩
  refine List.forall_mem_cons.mpr ⟨(zo_aload_tl _ _), ?_⟩
  refine List.forall_mem_cons.mpr ⟨(zo_getf_tl _ _ _), ?_⟩
  refine List.forall_mem_cons.mpr ⟨zo_none_tl, ?_⟩
  refine List.forall_mem_cons.mpr ⟨zo_none_tl, ?_⟩
  refine List.forall_mem_cons.mpr ⟨(zo_pushI_tl _ _), ?_⟩
  refine List.forall_mem_cons.mpr ⟨(zo_callv_tl _ _ _ _), ?_⟩
  refine List.forall_mem_cons.mpr ⟨zo_none_tl, ?_⟩
  refine List.forall_mem_cons.mpr ⟨zo_none_tl, ?_⟩
  refine List.forall_mem_cons.mpr ⟨(zo_iret_tl _), ?_⟩
  exact fun _ h => absurd h List.not_mem_nil
noncomputable def fX12_shouldWant : zzFn := zz_fn tX12_shouldWant 3
set_option maxRecDepth 100000 in
set_option maxHeartbeats 4000000 in
theorem mm_X12_shouldWant {l : Launch} {D : va_G} {cA : Nat → ClassId} {ad : Nat → Nat} {Ex : (Nat → Prop) → State → Heap → Prop} (Wd : zzWR l D cA ad Ex) : zz_Cn l D zzCl cA ad zzSR Ex yX12_shouldWant cX12_shouldWant 3 (some .int) 2 45 fX12_shouldWant ∧ zz_Cx l D zzCl cA ad zzSR Ex yX12_shouldWant cX12_shouldWant 3 (some .int) 2 45 fX12_shouldWant := by
  refine zz_meth (plainFor_of_name (by decide)) Wd.1 Wd.2.1 Wd.2.2 (fun p e R s m args below meth c rr X => ?_)
  unfold tX12_shouldWant
  refine zz_cons (k' := 1) rfl (zk_aload_n X dX12_shouldWant_0 rfl rfl) ?_
  refine zz_cons (k' := 2) rfl (zk_aload_n X dX12_shouldWant_1 rfl rfl) ?_
  refine zz_cons (k' := 3) rfl (zk_getf X ff_X12_243 dX12_shouldWant_2 rfl) ?_
  refine zz_cons (k' := 4) rfl (zz_Ok_none _ _) ?_
  refine zz_cons (k' := 5) rfl (zz_Ok_none _ _) ?_
  refine zz_cons (k' := 6) rfl (zk_bipush X dX12_shouldWant_5 (by decide) rfl) ?_
  refine zz_cons (k' := 7) rfl (zz_Ok_none _ _) ?_
  refine zz_cons (k' := 8) rfl (zk_callv X (zz_Cv_of (List.forall_mem_cons.mpr ⟨⟨(RX_10, zzT10, 50), yX12_viewed, cX12_viewed, 3, (some .int), 1, 23, rfl, kv_X12_204_10.1, (mm_X12_viewed Wd).1, by decide, by decide⟩, (fun _ h => absurd h List.not_mem_nil)⟩)) dX12_shouldWant_7 rfl) ?_
  refine zz_cons (k' := 9) rfl (zz_Ok_none _ _) ?_
  refine zz_cons (k' := 10) rfl (zz_Ok_none _ _) ?_
  refine zz_cons (k' := 11) rfl (zk_bipush X dX12_shouldWant_10 (by decide) rfl) ?_
  refine zz_cons (k' := 12) rfl (zz_Ok_none _ _) ?_
  refine zz_cons (k' := 13) rfl (zk_iadd X dX12_shouldWant_12 rfl) ?_
  refine zz_cons (k' := 14) rfl (zk_bipush X dX12_shouldWant_13 (by decide) rfl) ?_
  refine zz_cons (k' := 15) rfl (zz_Ok_none _ _) ?_
  refine zz_cons (k' := 16) rfl (zk_idiv X dX12_shouldWant_15 rfl) ?_
  refine zz_cons (k' := 17) rfl (zk_istore_n X dX12_shouldWant_16 rfl (by decide) rfl) ?_
  refine zz_cons (k' := 18) rfl (zk_iload_n X dX12_shouldWant_17 rfl rfl) ?_
  refine zz_cons (k' := 19) rfl (zk_iconst X dX12_shouldWant_18 (by decide) rfl) ?_
  refine zz_cons (k' := 20) rfl (zk_icmp_ge X dX12_shouldWant_19 (by decide) rfl) ?_
  refine zz_cons (k' := 21) rfl (zz_Ok_none _ _) ?_
  refine zz_cons (k' := 22) rfl (zz_Ok_none _ _) ?_
  refine zz_cons (k' := 23) rfl (zk_iconst X dX12_shouldWant_22 (by decide) rfl) ?_
  refine zz_cons (k' := 24) rfl (zk_goto X dX12_shouldWant_23 (by decide)) ?_
  refine zz_cons (k' := 25) rfl (zz_Ok_none _ _) ?_
  refine zz_cons (k' := 26) rfl (zz_Ok_none _ _) ?_
  refine zz_cons (k' := 27) rfl (zk_iload_n X dX12_shouldWant_26 rfl rfl) ?_
  refine zz_cons (k' := 28) rfl (zk_istore_n X dX12_shouldWant_27 rfl (by decide) rfl) ?_
  refine zz_cons (k' := 29) rfl (zk_iload_n X dX12_shouldWant_28 rfl rfl) ?_
  refine zz_cons (k' := 30) rfl (zk_aload_n X dX12_shouldWant_29 rfl rfl) ?_
  refine zz_cons (k' := 31) rfl (zk_aload_n X dX12_shouldWant_30 rfl rfl) ?_
  refine zz_cons (k' := 32) rfl (zk_getf X ff_X12_243 dX12_shouldWant_31 rfl) ?_
  refine zz_cons (k' := 33) rfl (zz_Ok_none _ _) ?_
  refine zz_cons (k' := 34) rfl (zz_Ok_none _ _) ?_
  refine zz_cons (k' := 35) rfl (zk_iconst X dX12_shouldWant_34 (by decide) rfl) ?_
  refine zz_cons (k' := 36) rfl (zk_callv X (zz_Cv_of (List.forall_mem_cons.mpr ⟨⟨(RX_10, zzT10, 50), yX12_viewed, cX12_viewed, 3, (some .int), 1, 23, rfl, kv_X12_204_10.1, (mm_X12_viewed Wd).1, by decide, by decide⟩, (fun _ h => absurd h List.not_mem_nil)⟩)) dX12_shouldWant_35 rfl) ?_
  refine zz_cons (k' := 37) rfl (zz_Ok_none _ _) ?_
  refine zz_cons (k' := 38) rfl (zz_Ok_none _ _) ?_
  refine zz_cons (k' := 39) rfl (zk_icmp_ge X dX12_shouldWant_38 (by decide) rfl) ?_
  refine zz_cons (k' := 40) rfl (zz_Ok_none _ _) ?_
  refine zz_cons (k' := 41) rfl (zz_Ok_none _ _) ?_
  refine zz_cons (k' := 42) rfl (zk_iload_n X dX12_shouldWant_41 rfl rfl) ?_
  refine zz_cons (k' := 43) rfl (zk_goto X dX12_shouldWant_42 (by decide)) ?_
  refine zz_cons (k' := 44) rfl (zz_Ok_none _ _) ?_
  refine zz_cons (k' := 45) rfl (zz_Ok_none _ _) ?_
  refine zz_cons (k' := 46) rfl (zk_aload_n X dX12_shouldWant_45 rfl rfl) ?_
  refine zz_cons (k' := 47) rfl (zk_aload_n X dX12_shouldWant_46 rfl rfl) ?_
  refine zz_cons (k' := 48) rfl (zk_getf X ff_X12_243 dX12_shouldWant_47 rfl) ?_
  refine zz_cons (k' := 49) rfl (zz_Ok_none _ _) ?_
  refine zz_cons (k' := 50) rfl (zz_Ok_none _ _) ?_
  refine zz_cons (k' := 51) rfl (zk_iconst X dX12_shouldWant_50 (by decide) rfl) ?_
  refine zz_cons (k' := 52) rfl (zk_callv X (zz_Cv_of (List.forall_mem_cons.mpr ⟨⟨(RX_10, zzT10, 50), yX12_viewed, cX12_viewed, 3, (some .int), 1, 23, rfl, kv_X12_204_10.1, (mm_X12_viewed Wd).1, by decide, by decide⟩, (fun _ h => absurd h List.not_mem_nil)⟩)) dX12_shouldWant_51 rfl) ?_
  refine zz_cons (k' := 53) rfl (zz_Ok_none _ _) ?_
  refine zz_cons (k' := 54) rfl (zz_Ok_none _ _) ?_
  refine zz_cons (k' := 55) rfl (zk_iret X rfl dX12_shouldWant_54) ?_
  exact trivial
noncomputable def tX12_isEarly : List zzOp := [
  zo_aload 0 1,
  zo_getf zzSR (zz_kf [10] 42) 4,
  zo_none,
  zo_none,
  zo_pushI 7 6,
  zo_none,
  zo_icmp (fun x y => decide (¬ x = y)) 37 9,
  zo_none,
  zo_none,
  zo_aload 0 10,
  zo_aload 0 11,
  zo_getf zzSR (zz_kf [10] 43) 14,
  zo_none,
  zo_none,
  zo_pushI 0 15,
  zo_callv zzSR (zz_cl [(10, fX12_stays)]) 2 18,
  zo_none,
  zo_none,
  zo_if (fun x => decide (x = 0)) 37 21,
  zo_none,
  zo_none,
  zo_aload 0 22,
  zo_aload 0 23,
  zo_getf zzSR (zz_kf [10] 43) 26,
  zo_none,
  zo_none,
  zo_pushI 5 27,
  zo_callv zzSR (zz_cl [(10, fX12_viewed)]) 2 30,
  zo_none,
  zo_none,
  zo_if (fun x => decide (x ≤ 0)) 37 33,
  zo_none,
  zo_none,
  zo_pushI 1 34,
  zo_goto 38,
  zo_none,
  zo_none,
  zo_pushI 0 38,
  zo_istore 1 39,
  zo_iload 1 40,
  zo_if (fun x => decide (x = 0)) 95 43,
  zo_none,
  zo_none,
  zo_aload 0 44,
  zo_aload 0 45,
  zo_getf zzSR (zz_kf [10] 43) 48,
  zo_none,
  zo_none,
  zo_pushI 0 49,
  zo_callv zzSR (zz_cl [(10, fX12_viewed)]) 2 52,
  zo_none,
  zo_none,
  zo_aload 0 53,
  zo_callv zzSR (zz_cl [(10, fX12_shouldWant)]) 0 56,
  zo_none,
  zo_none,
  zo_icmp (fun x y => decide (x ≤ y)) 95 59,
  zo_none,
  zo_none,
  zo_aload 0 60,
  zo_getf zzSR (zz_kf [10] 13) 63,
  zo_none,
  zo_none,
  zo_aload 0 64,
  zo_getf zzSR (zz_kf [10] 43) 67,
  zo_none,
  zo_none,
  zo_iald zzSR zzSTR 68,
  zo_pushI (-1) 69,
  zo_icmp (fun x y => decide (x = y)) 95 72,
  zo_none,
  zo_none,
  zo_aload 0 73,
  zo_getf zzSR (zz_kf [10] 48) 76,
  zo_none,
  zo_none,
  zo_aload 0 77,
  zo_getf zzSR (zz_kf [10] 13) 80,
  zo_none,
  zo_none,
  zo_aload 0 81,
  zo_getf zzSR (zz_kf [10] 43) 84,
  zo_none,
  zo_none,
  zo_iald zzSR zzSTR 85,
  zo_ii (fun x y => x - y) 86,
  zo_pushI 10 88,
  zo_none,
  zo_icmp (fun x y => decide (y ≤ x)) 95 91,
  zo_none,
  zo_none,
  zo_pushI 1 92,
  zo_goto 96,
  zo_none,
  zo_none,
  zo_pushI 0 96,
  zo_iret true]
set_option maxRecDepth 100000 in
theorem tl_X12_isEarly : ∀ pc, zz_Tl (tX12_isEarly.getD pc zo_none) := by
  refine zz_Tl_mem ?_
  unfold tX12_isEarly
  refine List.forall_mem_cons.mpr ⟨(zo_aload_tl _ _), ?_⟩
  refine List.forall_mem_cons.mpr ⟨(zo_getf_tl _ _ _), ?_⟩
  refine List.forall_mem_cons.mpr ⟨zo_none_tl, ?_⟩
  refine List.forall_mem_cons.mpr ⟨zo_none_tl, ?_⟩
  refine List.forall_mem_cons.mpr ⟨(zo_pushI_tl _ _), ?_⟩
  refine List.forall_mem_cons.mpr ⟨zo_none_tl, ?_⟩
  refine List.forall_mem_cons.mpr ⟨(zo_icmp_tl _ _ _), ?_⟩
  refine List.forall_mem_cons.mpr ⟨zo_none_tl, ?_⟩
  refine List.forall_mem_cons.mpr ⟨zo_none_tl, ?_⟩
  refine List.forall_mem_cons.mpr ⟨(zo_aload_tl _ _), ?_⟩
  refine List.forall_mem_cons.mpr ⟨(zo_aload_tl _ _), ?_⟩
  refine List.forall_mem_cons.mpr ⟨(zo_getf_tl _ _ _), ?_⟩
  refine List.forall_mem_cons.mpr ⟨zo_none_tl, ?_⟩
  refine List.forall_mem_cons.mpr ⟨zo_none_tl, ?_⟩
  refine List.forall_mem_cons.mpr ⟨(zo_pushI_tl _ _), ?_⟩
  refine List.forall_mem_cons.mpr ⟨(zo_callv_tl _ _ _ _), ?_⟩
  refine List.forall_mem_cons.mpr ⟨zo_none_tl, ?_⟩
  refine List.forall_mem_cons.mpr ⟨zo_none_tl, ?_⟩
  refine List.forall_mem_cons.mpr ⟨(zo_if_tl _ _ _), ?_⟩
  refine List.forall_mem_cons.mpr ⟨zo_none_tl, ?_⟩
  refine List.forall_mem_cons.mpr ⟨zo_none_tl, ?_⟩
  refine List.forall_mem_cons.mpr ⟨(zo_aload_tl _ _), ?_⟩
  refine List.forall_mem_cons.mpr ⟨(zo_aload_tl _ _), ?_⟩
  refine List.forall_mem_cons.mpr ⟨(zo_getf_tl _ _ _), ?_⟩
  refine List.forall_mem_cons.mpr ⟨zo_none_tl, ?_⟩
  refine List.forall_mem_cons.mpr ⟨zo_none_tl, ?_⟩
  refine List.forall_mem_cons.mpr ⟨(zo_pushI_tl _ _), ?_⟩
  refine List.forall_mem_cons.mpr ⟨(zo_callv_tl _ _ _ _), ?_⟩
  refine List.forall_mem_cons.mpr ⟨zo_none_tl, ?_⟩
  refine List.forall_mem_cons.mpr ⟨zo_none_tl, ?_⟩
  refine List.forall_mem_cons.mpr ⟨(zo_if_tl _ _ _), ?_⟩
  refine List.forall_mem_cons.mpr ⟨zo_none_tl, ?_⟩
  refine List.forall_mem_cons.mpr ⟨zo_none_tl, ?_⟩
  refine List.forall_mem_cons.mpr ⟨(zo_pushI_tl _ _), ?_⟩
  refine List.forall_mem_cons.mpr ⟨(zo_goto_tl _), ?_⟩
  refine List.forall_mem_cons.mpr ⟨zo_none_tl, ?_⟩
  refine List.forall_mem_cons.mpr ⟨zo_none_tl, ?_⟩
  refine List.forall_mem_cons.mpr ⟨(zo_pushI_tl _ _), ?_⟩
  refine List.forall_mem_cons.mpr ⟨(zo_istore_tl _ _), ?_⟩
  refine List.forall_mem_cons.mpr ⟨(zo_iload_tl _ _), ?_⟩
  refine List.forall_mem_cons.mpr ⟨(zo_if_tl _ _ _), ?_⟩
  refine List.forall_mem_cons.mpr ⟨zo_none_tl, ?_⟩
  refine List.forall_mem_cons.mpr ⟨zo_none_tl, ?_⟩
  refine List.forall_mem_cons.mpr ⟨(zo_aload_tl _ _), ?_⟩
  refine List.forall_mem_cons.mpr ⟨(zo_aload_tl _ _), ?_⟩
  refine List.forall_mem_cons.mpr ⟨(zo_getf_tl _ _ _), ?_⟩
  refine List.forall_mem_cons.mpr ⟨zo_none_tl, ?_⟩
  refine List.forall_mem_cons.mpr ⟨zo_none_tl, ?_⟩
  refine List.forall_mem_cons.mpr ⟨(zo_pushI_tl _ _), ?_⟩
  refine List.forall_mem_cons.mpr ⟨(zo_callv_tl _ _ _ _), ?_⟩
  refine List.forall_mem_cons.mpr ⟨zo_none_tl, ?_⟩
  refine List.forall_mem_cons.mpr ⟨zo_none_tl, ?_⟩
  refine List.forall_mem_cons.mpr ⟨(zo_aload_tl _ _), ?_⟩
  refine List.forall_mem_cons.mpr ⟨(zo_callv_tl _ _ _ _), ?_⟩
  refine List.forall_mem_cons.mpr ⟨zo_none_tl, ?_⟩
  refine List.forall_mem_cons.mpr ⟨zo_none_tl, ?_⟩
  refine List.forall_mem_cons.mpr ⟨(zo_icmp_tl _ _ _), ?_⟩
  refine List.forall_mem_cons.mpr ⟨zo_none_tl, ?_⟩
  refine List.forall_mem_cons.mpr ⟨zo_none_tl, ?_⟩
  refine List.forall_mem_cons.mpr ⟨(zo_aload_tl _ _), ?_⟩
  refine List.forall_mem_cons.mpr ⟨(zo_getf_tl _ _ _), ?_⟩
  refine List.forall_mem_cons.mpr ⟨zo_none_tl, ?_⟩
  refine List.forall_mem_cons.mpr ⟨zo_none_tl, ?_⟩
  refine List.forall_mem_cons.mpr ⟨(zo_aload_tl _ _), ?_⟩
  refine List.forall_mem_cons.mpr ⟨(zo_getf_tl _ _ _), ?_⟩
  refine List.forall_mem_cons.mpr ⟨zo_none_tl, ?_⟩
  refine List.forall_mem_cons.mpr ⟨zo_none_tl, ?_⟩
  refine List.forall_mem_cons.mpr ⟨(zo_iald_tl _ _ _), ?_⟩
  refine List.forall_mem_cons.mpr ⟨(zo_pushI_tl _ _), ?_⟩
  refine List.forall_mem_cons.mpr ⟨(zo_icmp_tl _ _ _), ?_⟩
  refine List.forall_mem_cons.mpr ⟨zo_none_tl, ?_⟩
  refine List.forall_mem_cons.mpr ⟨zo_none_tl, ?_⟩
  refine List.forall_mem_cons.mpr ⟨(zo_aload_tl _ _), ?_⟩
  refine List.forall_mem_cons.mpr ⟨(zo_getf_tl _ _ _), ?_⟩
  refine List.forall_mem_cons.mpr ⟨zo_none_tl, ?_⟩
  refine List.forall_mem_cons.mpr ⟨zo_none_tl, ?_⟩
  refine List.forall_mem_cons.mpr ⟨(zo_aload_tl _ _), ?_⟩
  refine List.forall_mem_cons.mpr ⟨(zo_getf_tl _ _ _), ?_⟩
  refine List.forall_mem_cons.mpr ⟨zo_none_tl, ?_⟩
  refine List.forall_mem_cons.mpr ⟨zo_none_tl, ?_⟩
  refine List.forall_mem_cons.mpr ⟨(zo_aload_tl _ _), ?_⟩
  refine List.forall_mem_cons.mpr ⟨(zo_getf_tl _ _ _), ?_⟩
  refine List.forall_mem_cons.mpr ⟨zo_none_tl, ?_⟩
  refine List.forall_mem_cons.mpr ⟨zo_none_tl, ?_⟩
  refine List.forall_mem_cons.mpr ⟨(zo_iald_tl _ _ _), ?_⟩
  refine List.forall_mem_cons.mpr ⟨(zo_ii_tl _ _), ?_⟩
  refine List.forall_mem_cons.mpr ⟨(zo_pushI_tl _ _), ?_⟩
  refine List.forall_mem_cons.mpr ⟨zo_none_tl, ?_⟩
  refine List.forall_mem_cons.mpr ⟨(zo_icmp_tl _ _ _), ?_⟩
  refine List.forall_mem_cons.mpr ⟨zo_none_tl, ?_⟩
  refine List.forall_mem_cons.mpr ⟨zo_none_tl, ?_⟩
  refine List.forall_mem_cons.mpr ⟨(zo_pushI_tl _ _), ?_⟩
  refine List.forall_mem_cons.mpr ⟨(zo_goto_tl _), ?_⟩
  refine List.forall_mem_cons.mpr ⟨zo_none_tl, ?_⟩
  refine List.forall_mem_cons.mpr ⟨zo_none_tl, ?_⟩
  refine List.forall_mem_cons.mpr ⟨(zo_pushI_tl _ _), ?_⟩
  refine List.forall_mem_cons.mpr ⟨(zo_iret_tl _), ?_⟩
  exact fun _ h => absurd h List.not_mem_nil
noncomputable def fX12_isEarly : zzFn := zz_fn tX12_isEarly 2
set_option maxRecDepth 100000 in
set_option maxHeartbeats 4000000 in
theorem mm_X12_isEarly {l : Launch} {D : va_G} {cA : Nat → ClassId} {ad : Nat → Nat} {Ex : (Nat → Prop) → State → Heap → Prop} (Wd : zzWR l D cA ad Ex) : zz_Cn l D zzCl cA ad zzSR Ex yX12_isEarly cX12_isEarly 2 (some .boolean) 3 67 fX12_isEarly ∧ zz_Cx l D zzCl cA ad zzSR Ex yX12_isEarly cX12_isEarly 2 (some .boolean) 3 67 fX12_isEarly := by
  refine zz_meth (plainFor_of_name (by decide)) Wd.1 Wd.2.1 Wd.2.2 (fun p e R s m args below meth c rr X => ?_)
  unfold tX12_isEarly
  refine zz_cons (k' := 1) rfl (zk_aload_n X dX12_isEarly_0 rfl rfl) ?_
  refine zz_cons (k' := 2) rfl (zk_getf X ff_X12_193 dX12_isEarly_1 rfl) ?_
  refine zz_cons (k' := 3) rfl (zz_Ok_none _ _) ?_
  refine zz_cons (k' := 4) rfl (zz_Ok_none _ _) ?_
  refine zz_cons (k' := 5) rfl (zk_bipush X dX12_isEarly_4 (by decide) rfl) ?_
  refine zz_cons (k' := 6) rfl (zz_Ok_none _ _) ?_
  refine zz_cons (k' := 7) rfl (zk_icmp_ne X dX12_isEarly_6 (by decide) rfl) ?_
  refine zz_cons (k' := 8) rfl (zz_Ok_none _ _) ?_
  refine zz_cons (k' := 9) rfl (zz_Ok_none _ _) ?_
  refine zz_cons (k' := 10) rfl (zk_aload_n X dX12_isEarly_9 rfl rfl) ?_
  refine zz_cons (k' := 11) rfl (zk_aload_n X dX12_isEarly_10 rfl rfl) ?_
  refine zz_cons (k' := 12) rfl (zk_getf X ff_X12_243 dX12_isEarly_11 rfl) ?_
  refine zz_cons (k' := 13) rfl (zz_Ok_none _ _) ?_
  refine zz_cons (k' := 14) rfl (zz_Ok_none _ _) ?_
  refine zz_cons (k' := 15) rfl (zk_iconst X dX12_isEarly_14 (by decide) rfl) ?_
  refine zz_cons (k' := 16) rfl (zk_callv X (zz_Cv_of (List.forall_mem_cons.mpr ⟨⟨(RX_10, zzT10, 50), yX12_stays, cX12_stays, 3, (some .boolean), 2, 45, rfl, kv_X12_269_10.1, (mm_X12_stays Wd).1, by decide, by decide⟩, (fun _ h => absurd h List.not_mem_nil)⟩)) dX12_isEarly_15 rfl) ?_
  refine zz_cons (k' := 17) rfl (zz_Ok_none _ _) ?_
  refine zz_cons (k' := 18) rfl (zz_Ok_none _ _) ?_
  refine zz_cons (k' := 19) rfl (zk_if_eq X dX12_isEarly_18 (by decide) rfl) ?_
  refine zz_cons (k' := 20) rfl (zz_Ok_none _ _) ?_
  refine zz_cons (k' := 21) rfl (zz_Ok_none _ _) ?_
  refine zz_cons (k' := 22) rfl (zk_aload_n X dX12_isEarly_21 rfl rfl) ?_
  refine zz_cons (k' := 23) rfl (zk_aload_n X dX12_isEarly_22 rfl rfl) ?_
  refine zz_cons (k' := 24) rfl (zk_getf X ff_X12_243 dX12_isEarly_23 rfl) ?_
  refine zz_cons (k' := 25) rfl (zz_Ok_none _ _) ?_
  refine zz_cons (k' := 26) rfl (zz_Ok_none _ _) ?_
  refine zz_cons (k' := 27) rfl (zk_iconst X dX12_isEarly_26 (by decide) rfl) ?_
  refine zz_cons (k' := 28) rfl (zk_callv X (zz_Cv_of (List.forall_mem_cons.mpr ⟨⟨(RX_10, zzT10, 50), yX12_viewed, cX12_viewed, 3, (some .int), 1, 23, rfl, kv_X12_204_10.1, (mm_X12_viewed Wd).1, by decide, by decide⟩, (fun _ h => absurd h List.not_mem_nil)⟩)) dX12_isEarly_27 rfl) ?_
  refine zz_cons (k' := 29) rfl (zz_Ok_none _ _) ?_
  refine zz_cons (k' := 30) rfl (zz_Ok_none _ _) ?_
  refine zz_cons (k' := 31) rfl (zk_if_le X dX12_isEarly_30 (by decide) rfl) ?_
  refine zz_cons (k' := 32) rfl (zz_Ok_none _ _) ?_
  refine zz_cons (k' := 33) rfl (zz_Ok_none _ _) ?_
  refine zz_cons (k' := 34) rfl (zk_iconst X dX12_isEarly_33 (by decide) rfl) ?_
  refine zz_cons (k' := 35) rfl (zk_goto X dX12_isEarly_34 (by decide)) ?_
  refine zz_cons (k' := 36) rfl (zz_Ok_none _ _) ?_
  refine zz_cons (k' := 37) rfl (zz_Ok_none _ _) ?_
  refine zz_cons (k' := 38) rfl (zk_iconst X dX12_isEarly_37 (by decide) rfl) ?_
  refine zz_cons (k' := 39) rfl (zk_istore_n X dX12_isEarly_38 rfl (by decide) rfl) ?_
  refine zz_cons (k' := 40) rfl (zk_iload_n X dX12_isEarly_39 rfl rfl) ?_
  refine zz_cons (k' := 41) rfl (zk_if_eq X dX12_isEarly_40 (by decide) rfl) ?_
  refine zz_cons (k' := 42) rfl (zz_Ok_none _ _) ?_
  refine zz_cons (k' := 43) rfl (zz_Ok_none _ _) ?_
  refine zz_cons (k' := 44) rfl (zk_aload_n X dX12_isEarly_43 rfl rfl) ?_
  refine zz_cons (k' := 45) rfl (zk_aload_n X dX12_isEarly_44 rfl rfl) ?_
  refine zz_cons (k' := 46) rfl (zk_getf X ff_X12_243 dX12_isEarly_45 rfl) ?_
  refine zz_cons (k' := 47) rfl (zz_Ok_none _ _) ?_
  refine zz_cons (k' := 48) rfl (zz_Ok_none _ _) ?_
  refine zz_cons (k' := 49) rfl (zk_iconst X dX12_isEarly_48 (by decide) rfl) ?_
  refine zz_cons (k' := 50) rfl (zk_callv X (zz_Cv_of (List.forall_mem_cons.mpr ⟨⟨(RX_10, zzT10, 50), yX12_viewed, cX12_viewed, 3, (some .int), 1, 23, rfl, kv_X12_204_10.1, (mm_X12_viewed Wd).1, by decide, by decide⟩, (fun _ h => absurd h List.not_mem_nil)⟩)) dX12_isEarly_49 rfl) ?_
  refine zz_cons (k' := 51) rfl (zz_Ok_none _ _) ?_
  refine zz_cons (k' := 52) rfl (zz_Ok_none _ _) ?_
  refine zz_cons (k' := 53) rfl (zk_aload_n X dX12_isEarly_52 rfl rfl) ?_
  refine zz_cons (k' := 54) rfl (zk_callv X (zz_Cv_of (List.forall_mem_cons.mpr ⟨⟨(RX_10, zzT10, 50), yX12_shouldWant, cX12_shouldWant, 3, (some .int), 2, 45, rfl, kv_X12_329_10.1, (mm_X12_shouldWant Wd).1, by decide, by decide⟩, (fun _ h => absurd h List.not_mem_nil)⟩)) dX12_isEarly_53 rfl) ?_
  refine zz_cons (k' := 55) rfl (zz_Ok_none _ _) ?_
  refine zz_cons (k' := 56) rfl (zz_Ok_none _ _) ?_
  refine zz_cons (k' := 57) rfl (zk_icmp_le X dX12_isEarly_56 (by decide) rfl) ?_
  refine zz_cons (k' := 58) rfl (zz_Ok_none _ _) ?_
  refine zz_cons (k' := 59) rfl (zz_Ok_none _ _) ?_
  refine zz_cons (k' := 60) rfl (zk_aload_n X dX12_isEarly_59 rfl rfl) ?_
  refine zz_cons (k' := 61) rfl (zk_getf X ff_X12_47 dX12_isEarly_60 rfl) ?_
  refine zz_cons (k' := 62) rfl (zz_Ok_none _ _) ?_
  refine zz_cons (k' := 63) rfl (zz_Ok_none _ _) ?_
  refine zz_cons (k' := 64) rfl (zk_aload_n X dX12_isEarly_63 rfl rfl) ?_
  refine zz_cons (k' := 65) rfl (zk_getf X ff_X12_243 dX12_isEarly_64 rfl) ?_
  refine zz_cons (k' := 66) rfl (zz_Ok_none _ _) ?_
  refine zz_cons (k' := 67) rfl (zz_Ok_none _ _) ?_
  refine zz_cons (k' := 68) rfl (zk_iald X (zzWR_st Wd) dX12_isEarly_67 rfl) ?_
  refine zz_cons (k' := 69) rfl (zk_iconst X dX12_isEarly_68 (by decide) rfl) ?_
  refine zz_cons (k' := 70) rfl (zk_icmp_eq X dX12_isEarly_69 (by decide) rfl) ?_
  refine zz_cons (k' := 71) rfl (zz_Ok_none _ _) ?_
  refine zz_cons (k' := 72) rfl (zz_Ok_none _ _) ?_
  refine zz_cons (k' := 73) rfl (zk_aload_n X dX12_isEarly_72 rfl rfl) ?_
  refine zz_cons (k' := 74) rfl (zk_getf X ff_X12_182 dX12_isEarly_73 rfl) ?_
  refine zz_cons (k' := 75) rfl (zz_Ok_none _ _) ?_
  refine zz_cons (k' := 76) rfl (zz_Ok_none _ _) ?_
  refine zz_cons (k' := 77) rfl (zk_aload_n X dX12_isEarly_76 rfl rfl) ?_
  refine zz_cons (k' := 78) rfl (zk_getf X ff_X12_47 dX12_isEarly_77 rfl) ?_
  refine zz_cons (k' := 79) rfl (zz_Ok_none _ _) ?_
  refine zz_cons (k' := 80) rfl (zz_Ok_none _ _) ?_
  refine zz_cons (k' := 81) rfl (zk_aload_n X dX12_isEarly_80 rfl rfl) ?_
  refine zz_cons (k' := 82) rfl (zk_getf X ff_X12_243 dX12_isEarly_81 rfl) ?_
  refine zz_cons (k' := 83) rfl (zz_Ok_none _ _) ?_
  refine zz_cons (k' := 84) rfl (zz_Ok_none _ _) ?_
  refine zz_cons (k' := 85) rfl (zk_iald X (zzWR_st Wd) dX12_isEarly_84 rfl) ?_
  refine zz_cons (k' := 86) rfl (zk_isub X dX12_isEarly_85 rfl) ?_
  refine zz_cons (k' := 87) rfl (zk_bipush X dX12_isEarly_86 (by decide) rfl) ?_
  refine zz_cons (k' := 88) rfl (zz_Ok_none _ _) ?_
  refine zz_cons (k' := 89) rfl (zk_icmp_ge X dX12_isEarly_88 (by decide) rfl) ?_
  refine zz_cons (k' := 90) rfl (zz_Ok_none _ _) ?_
  refine zz_cons (k' := 91) rfl (zz_Ok_none _ _) ?_
  refine zz_cons (k' := 92) rfl (zk_iconst X dX12_isEarly_91 (by decide) rfl) ?_
  refine zz_cons (k' := 93) rfl (zk_goto X dX12_isEarly_92 (by decide)) ?_
  refine zz_cons (k' := 94) rfl (zz_Ok_none _ _) ?_
  refine zz_cons (k' := 95) rfl (zz_Ok_none _ _) ?_
  refine zz_cons (k' := 96) rfl (zk_iconst X dX12_isEarly_95 (by decide) rfl) ?_
  refine zz_cons (k' := 97) rfl (zk_iret X rfl dX12_isEarly_96) ?_
  exact trivial
noncomputable def tX12_scales : List zzOp := [
  zo_aload 0 1,
  zo_aload 0 2,
  zo_getf zzSR (zz_kf [10] 43) 5,
  zo_none,
  zo_none,
  zo_pushI 0 6,
  zo_callv zzSR (zz_cl [(10, fX12_stays)]) 2 9,
  zo_none,
  zo_none,
  zo_if (fun x => decide (x = 0)) 40 12,
  zo_none,
  zo_none,
  zo_aload 0 13,
  zo_aload 0 14,
  zo_getf zzSR (zz_kf [10] 43) 17,
  zo_none,
  zo_none,
  zo_pushI 5 18,
  zo_callv zzSR (zz_cl [(10, fX12_viewed)]) 2 21,
  zo_none,
  zo_none,
  zo_if (fun x => decide (x = 0)) 40 24,
  zo_none,
  zo_none,
  zo_aload 0 25,
  zo_aload 0 26,
  zo_getf zzSR (zz_kf [10] 43) 29,
  zo_none,
  zo_none,
  zo_pushI 0 30,
  zo_callv zzSR (zz_cl [(10, fX12_viewed)]) 2 33,
  zo_none,
  zo_none,
  zo_aload 0 34,
  zo_callv zzSR (zz_cl [(10, fX12_shouldWant)]) 0 37,
  zo_none,
  zo_none,
  zo_icmp (fun x y => decide (¬ x = y)) 42 40,
  zo_none,
  zo_none,
  zo_pushI 1 41,
  zo_iret true,
  zo_aload 0 43,
  zo_getf zzSR (zz_kf [10] 14) 46,
  zo_none,
  zo_none,
  zo_istore 1 47,
  zo_aload 0 48,
  zo_aload 0 49,
  zo_getf zzSR (zz_kf [10] 43) 52,
  zo_none,
  zo_none,
  zo_aload 0 53,
  zo_callv zzSR (zz_cl [(10, fX12_shouldWant)]) 0 56,
  zo_none,
  zo_none,
  zo_callv zzSR (zz_cl [(10, fX12_wants)]) 2 59,
  zo_none,
  zo_none,
  zo_istore 2 60,
  zo_aload 0 61,
  zo_getf zzSR (zz_kf [10] 13) 64,
  zo_none,
  zo_none,
  zo_aload 0 65,
  zo_getf zzSR (zz_kf [10] 43) 68,
  zo_none,
  zo_none,
  zo_aload 0 69,
  zo_getf zzSR (zz_kf [10] 14) 72,
  zo_none,
  zo_none,
  zo_iload 1 73,
  zo_icmp (fun x y => decide (x ≤ y)) 83 76,
  zo_none,
  zo_none,
  zo_aload 0 77,
  zo_getf zzSR (zz_kf [10] 48) 80,
  zo_none,
  zo_none,
  zo_goto 92,
  zo_none,
  zo_none,
  zo_aload 0 84,
  zo_getf zzSR (zz_kf [10] 13) 87,
  zo_none,
  zo_none,
  zo_aload 0 88,
  zo_getf zzSR (zz_kf [10] 43) 91,
  zo_none,
  zo_none,
  zo_iald zzSR zzSTR 92,
  zo_iast zzSR 93,
  zo_iload 2 94,
  zo_iret true]
set_option maxRecDepth 100000 in
theorem tl_X12_scales : ∀ pc, zz_Tl (tX12_scales.getD pc zo_none) := by
  refine zz_Tl_mem ?_
  unfold tX12_scales
  refine List.forall_mem_cons.mpr ⟨(zo_aload_tl _ _), ?_⟩
  refine List.forall_mem_cons.mpr ⟨(zo_aload_tl _ _), ?_⟩
  refine List.forall_mem_cons.mpr ⟨(zo_getf_tl _ _ _), ?_⟩
  refine List.forall_mem_cons.mpr ⟨zo_none_tl, ?_⟩
  refine List.forall_mem_cons.mpr ⟨zo_none_tl, ?_⟩
  refine List.forall_mem_cons.mpr ⟨(zo_pushI_tl _ _), ?_⟩
  refine List.forall_mem_cons.mpr ⟨(zo_callv_tl _ _ _ _), ?_⟩
  refine List.forall_mem_cons.mpr ⟨zo_none_tl, ?_⟩
  refine List.forall_mem_cons.mpr ⟨zo_none_tl, ?_⟩
  refine List.forall_mem_cons.mpr ⟨(zo_if_tl _ _ _), ?_⟩
  refine List.forall_mem_cons.mpr ⟨zo_none_tl, ?_⟩
  refine List.forall_mem_cons.mpr ⟨zo_none_tl, ?_⟩
  refine List.forall_mem_cons.mpr ⟨(zo_aload_tl _ _), ?_⟩
  refine List.forall_mem_cons.mpr ⟨(zo_aload_tl _ _), ?_⟩
  refine List.forall_mem_cons.mpr ⟨(zo_getf_tl _ _ _), ?_⟩
  refine List.forall_mem_cons.mpr ⟨zo_none_tl, ?_⟩
  refine List.forall_mem_cons.mpr ⟨zo_none_tl, ?_⟩
  refine List.forall_mem_cons.mpr ⟨(zo_pushI_tl _ _), ?_⟩
  refine List.forall_mem_cons.mpr ⟨(zo_callv_tl _ _ _ _), ?_⟩
  refine List.forall_mem_cons.mpr ⟨zo_none_tl, ?_⟩
  refine List.forall_mem_cons.mpr ⟨zo_none_tl, ?_⟩
  refine List.forall_mem_cons.mpr ⟨(zo_if_tl _ _ _), ?_⟩
  refine List.forall_mem_cons.mpr ⟨zo_none_tl, ?_⟩
  refine List.forall_mem_cons.mpr ⟨zo_none_tl, ?_⟩
  refine List.forall_mem_cons.mpr ⟨(zo_aload_tl _ _), ?_⟩
  refine List.forall_mem_cons.mpr ⟨(zo_aload_tl _ _), ?_⟩
  refine List.forall_mem_cons.mpr ⟨(zo_getf_tl _ _ _), ?_⟩
  refine List.forall_mem_cons.mpr ⟨zo_none_tl, ?_⟩
  refine List.forall_mem_cons.mpr ⟨zo_none_tl, ?_⟩
  refine List.forall_mem_cons.mpr ⟨(zo_pushI_tl _ _), ?_⟩
  refine List.forall_mem_cons.mpr ⟨(zo_callv_tl _ _ _ _), ?_⟩
  refine List.forall_mem_cons.mpr ⟨zo_none_tl, ?_⟩
  refine List.forall_mem_cons.mpr ⟨zo_none_tl, ?_⟩
  refine List.forall_mem_cons.mpr ⟨(zo_aload_tl _ _), ?_⟩
  refine List.forall_mem_cons.mpr ⟨(zo_callv_tl _ _ _ _), ?_⟩
  refine List.forall_mem_cons.mpr ⟨zo_none_tl, ?_⟩
  refine List.forall_mem_cons.mpr ⟨zo_none_tl, ?_⟩
  refine List.forall_mem_cons.mpr ⟨(zo_icmp_tl _ _ _), ?_⟩
  refine List.forall_mem_cons.mpr ⟨zo_none_tl, ?_⟩
  refine List.forall_mem_cons.mpr ⟨zo_none_tl, ?_⟩
  refine List.forall_mem_cons.mpr ⟨(zo_pushI_tl _ _), ?_⟩
  refine List.forall_mem_cons.mpr ⟨(zo_iret_tl _), ?_⟩
  refine List.forall_mem_cons.mpr ⟨(zo_aload_tl _ _), ?_⟩
  refine List.forall_mem_cons.mpr ⟨(zo_getf_tl _ _ _), ?_⟩
  refine List.forall_mem_cons.mpr ⟨zo_none_tl, ?_⟩
  refine List.forall_mem_cons.mpr ⟨zo_none_tl, ?_⟩
  refine List.forall_mem_cons.mpr ⟨(zo_istore_tl _ _), ?_⟩
  refine List.forall_mem_cons.mpr ⟨(zo_aload_tl _ _), ?_⟩
  refine List.forall_mem_cons.mpr ⟨(zo_aload_tl _ _), ?_⟩
  refine List.forall_mem_cons.mpr ⟨(zo_getf_tl _ _ _), ?_⟩
  refine List.forall_mem_cons.mpr ⟨zo_none_tl, ?_⟩
  refine List.forall_mem_cons.mpr ⟨zo_none_tl, ?_⟩
  refine List.forall_mem_cons.mpr ⟨(zo_aload_tl _ _), ?_⟩
  refine List.forall_mem_cons.mpr ⟨(zo_callv_tl _ _ _ _), ?_⟩
  refine List.forall_mem_cons.mpr ⟨zo_none_tl, ?_⟩
  refine List.forall_mem_cons.mpr ⟨zo_none_tl, ?_⟩
  refine List.forall_mem_cons.mpr ⟨(zo_callv_tl _ _ _ _), ?_⟩
  refine List.forall_mem_cons.mpr ⟨zo_none_tl, ?_⟩
  refine List.forall_mem_cons.mpr ⟨zo_none_tl, ?_⟩
  refine List.forall_mem_cons.mpr ⟨(zo_istore_tl _ _), ?_⟩
  refine List.forall_mem_cons.mpr ⟨(zo_aload_tl _ _), ?_⟩
  refine List.forall_mem_cons.mpr ⟨(zo_getf_tl _ _ _), ?_⟩
  refine List.forall_mem_cons.mpr ⟨zo_none_tl, ?_⟩
  refine List.forall_mem_cons.mpr ⟨zo_none_tl, ?_⟩
  refine List.forall_mem_cons.mpr ⟨(zo_aload_tl _ _), ?_⟩
  refine List.forall_mem_cons.mpr ⟨(zo_getf_tl _ _ _), ?_⟩
  refine List.forall_mem_cons.mpr ⟨zo_none_tl, ?_⟩
  refine List.forall_mem_cons.mpr ⟨zo_none_tl, ?_⟩
  refine List.forall_mem_cons.mpr ⟨(zo_aload_tl _ _), ?_⟩
  refine List.forall_mem_cons.mpr ⟨(zo_getf_tl _ _ _), ?_⟩
  refine List.forall_mem_cons.mpr ⟨zo_none_tl, ?_⟩
  refine List.forall_mem_cons.mpr ⟨zo_none_tl, ?_⟩
  refine List.forall_mem_cons.mpr ⟨(zo_iload_tl _ _), ?_⟩
  refine List.forall_mem_cons.mpr ⟨(zo_icmp_tl _ _ _), ?_⟩
  refine List.forall_mem_cons.mpr ⟨zo_none_tl, ?_⟩
  refine List.forall_mem_cons.mpr ⟨zo_none_tl, ?_⟩
  refine List.forall_mem_cons.mpr ⟨(zo_aload_tl _ _), ?_⟩
  refine List.forall_mem_cons.mpr ⟨(zo_getf_tl _ _ _), ?_⟩
  refine List.forall_mem_cons.mpr ⟨zo_none_tl, ?_⟩
  refine List.forall_mem_cons.mpr ⟨zo_none_tl, ?_⟩
  refine List.forall_mem_cons.mpr ⟨(zo_goto_tl _), ?_⟩
  refine List.forall_mem_cons.mpr ⟨zo_none_tl, ?_⟩
  refine List.forall_mem_cons.mpr ⟨zo_none_tl, ?_⟩
  refine List.forall_mem_cons.mpr ⟨(zo_aload_tl _ _), ?_⟩
  refine List.forall_mem_cons.mpr ⟨(zo_getf_tl _ _ _), ?_⟩
  refine List.forall_mem_cons.mpr ⟨zo_none_tl, ?_⟩
  refine List.forall_mem_cons.mpr ⟨zo_none_tl, ?_⟩
  refine List.forall_mem_cons.mpr ⟨(zo_aload_tl _ _), ?_⟩
  refine List.forall_mem_cons.mpr ⟨(zo_getf_tl _ _ _), ?_⟩
  refine List.forall_mem_cons.mpr ⟨zo_none_tl, ?_⟩
  refine List.forall_mem_cons.mpr ⟨zo_none_tl, ?_⟩
  refine List.forall_mem_cons.mpr ⟨(zo_iald_tl _ _ _), ?_⟩
  refine List.forall_mem_cons.mpr ⟨(zo_iast_tl _ _), ?_⟩
  refine List.forall_mem_cons.mpr ⟨(zo_iload_tl _ _), ?_⟩
  refine List.forall_mem_cons.mpr ⟨(zo_iret_tl _), ?_⟩
  exact fun _ h => absurd h List.not_mem_nil
noncomputable def fX12_scales : zzFn := zz_fn tX12_scales 3
set_option maxRecDepth 100000 in
set_option maxHeartbeats 4000000 in
theorem mm_X12_scales {l : Launch} {D : va_G} {cA : Nat → ClassId} {ad : Nat → Nat} {Ex : (Nat → Prop) → State → Heap → Prop} (Wd : zzWR l D cA ad Ex) : zz_Cn l D zzCl cA ad zzSR Ex yX12_scales cX12_scales 3 (some .boolean) 4 108 fX12_scales ∧ zz_Cx l D zzCl cA ad zzSR Ex yX12_scales cX12_scales 3 (some .boolean) 4 108 fX12_scales := by
  refine zz_meth (plainFor_of_name (by decide)) Wd.1 Wd.2.1 Wd.2.2 (fun p e R s m args below meth c rr X => ?_)
  unfold tX12_scales
  refine zz_cons (k' := 1) rfl (zk_aload_n X dX12_scales_0 rfl rfl) ?_
  refine zz_cons (k' := 2) rfl (zk_aload_n X dX12_scales_1 rfl rfl) ?_
  refine zz_cons (k' := 3) rfl (zk_getf X ff_X12_243 dX12_scales_2 rfl) ?_
  refine zz_cons (k' := 4) rfl (zz_Ok_none _ _) ?_
  refine zz_cons (k' := 5) rfl (zz_Ok_none _ _) ?_
  refine zz_cons (k' := 6) rfl (zk_iconst X dX12_scales_5 (by decide) rfl) ?_
  refine zz_cons (k' := 7) rfl (zk_callv X (zz_Cv_of (List.forall_mem_cons.mpr ⟨⟨(RX_10, zzT10, 50), yX12_stays, cX12_stays, 3, (some .boolean), 2, 45, rfl, kv_X12_269_10.1, (mm_X12_stays Wd).1, by decide, by decide⟩, (fun _ h => absurd h List.not_mem_nil)⟩)) dX12_scales_6 rfl) ?_
  refine zz_cons (k' := 8) rfl (zz_Ok_none _ _) ?_
  refine zz_cons (k' := 9) rfl (zz_Ok_none _ _) ?_
  refine zz_cons (k' := 10) rfl (zk_if_eq X dX12_scales_9 (by decide) rfl) ?_
  refine zz_cons (k' := 11) rfl (zz_Ok_none _ _) ?_
  refine zz_cons (k' := 12) rfl (zz_Ok_none _ _) ?_
  refine zz_cons (k' := 13) rfl (zk_aload_n X dX12_scales_12 rfl rfl) ?_
  refine zz_cons (k' := 14) rfl (zk_aload_n X dX12_scales_13 rfl rfl) ?_
  refine zz_cons (k' := 15) rfl (zk_getf X ff_X12_243 dX12_scales_14 rfl) ?_
  refine zz_cons (k' := 16) rfl (zz_Ok_none _ _) ?_
  refine zz_cons (k' := 17) rfl (zz_Ok_none _ _) ?_
  refine zz_cons (k' := 18) rfl (zk_iconst X dX12_scales_17 (by decide) rfl) ?_
  refine zz_cons (k' := 19) rfl (zk_callv X (zz_Cv_of (List.forall_mem_cons.mpr ⟨⟨(RX_10, zzT10, 50), yX12_viewed, cX12_viewed, 3, (some .int), 1, 23, rfl, kv_X12_204_10.1, (mm_X12_viewed Wd).1, by decide, by decide⟩, (fun _ h => absurd h List.not_mem_nil)⟩)) dX12_scales_18 rfl) ?_
  refine zz_cons (k' := 20) rfl (zz_Ok_none _ _) ?_
  refine zz_cons (k' := 21) rfl (zz_Ok_none _ _) ?_
  refine zz_cons (k' := 22) rfl (zk_if_eq X dX12_scales_21 (by decide) rfl) ?_
  refine zz_cons (k' := 23) rfl (zz_Ok_none _ _) ?_
  refine zz_cons (k' := 24) rfl (zz_Ok_none _ _) ?_
  refine zz_cons (k' := 25) rfl (zk_aload_n X dX12_scales_24 rfl rfl) ?_
  refine zz_cons (k' := 26) rfl (zk_aload_n X dX12_scales_25 rfl rfl) ?_
  refine zz_cons (k' := 27) rfl (zk_getf X ff_X12_243 dX12_scales_26 rfl) ?_
  refine zz_cons (k' := 28) rfl (zz_Ok_none _ _) ?_
  refine zz_cons (k' := 29) rfl (zz_Ok_none _ _) ?_
  refine zz_cons (k' := 30) rfl (zk_iconst X dX12_scales_29 (by decide) rfl) ?_
  refine zz_cons (k' := 31) rfl (zk_callv X (zz_Cv_of (List.forall_mem_cons.mpr ⟨⟨(RX_10, zzT10, 50), yX12_viewed, cX12_viewed, 3, (some .int), 1, 23, rfl, kv_X12_204_10.1, (mm_X12_viewed Wd).1, by decide, by decide⟩, (fun _ h => absurd h List.not_mem_nil)⟩)) dX12_scales_30 rfl) ?_
  refine zz_cons (k' := 32) rfl (zz_Ok_none _ _) ?_
  refine zz_cons (k' := 33) rfl (zz_Ok_none _ _) ?_
  refine zz_cons (k' := 34) rfl (zk_aload_n X dX12_scales_33 rfl rfl) ?_
  refine zz_cons (k' := 35) rfl (zk_callv X (zz_Cv_of (List.forall_mem_cons.mpr ⟨⟨(RX_10, zzT10, 50), yX12_shouldWant, cX12_shouldWant, 3, (some .int), 2, 45, rfl, kv_X12_329_10.1, (mm_X12_shouldWant Wd).1, by decide, by decide⟩, (fun _ h => absurd h List.not_mem_nil)⟩)) dX12_scales_34 rfl) ?_
  refine zz_cons (k' := 36) rfl (zz_Ok_none _ _) ?_
  refine zz_cons (k' := 37) rfl (zz_Ok_none _ _) ?_
  refine zz_cons (k' := 38) rfl (zk_icmp_ne X dX12_scales_37 (by decide) rfl) ?_
  refine zz_cons (k' := 39) rfl (zz_Ok_none _ _) ?_
  refine zz_cons (k' := 40) rfl (zz_Ok_none _ _) ?_
  refine zz_cons (k' := 41) rfl (zk_iconst X dX12_scales_40 (by decide) rfl) ?_
  refine zz_cons (k' := 42) rfl (zk_iret X rfl dX12_scales_41) ?_
  refine zz_cons (k' := 43) rfl (zk_aload_n X dX12_scales_42 rfl rfl) ?_
  refine zz_cons (k' := 44) rfl (zk_getf X ff_X12_154 dX12_scales_43 rfl) ?_
  refine zz_cons (k' := 45) rfl (zz_Ok_none _ _) ?_
  refine zz_cons (k' := 46) rfl (zz_Ok_none _ _) ?_
  refine zz_cons (k' := 47) rfl (zk_istore_n X dX12_scales_46 rfl (by decide) rfl) ?_
  refine zz_cons (k' := 48) rfl (zk_aload_n X dX12_scales_47 rfl rfl) ?_
  refine zz_cons (k' := 49) rfl (zk_aload_n X dX12_scales_48 rfl rfl) ?_
  refine zz_cons (k' := 50) rfl (zk_getf X ff_X12_243 dX12_scales_49 rfl) ?_
  refine zz_cons (k' := 51) rfl (zz_Ok_none _ _) ?_
  refine zz_cons (k' := 52) rfl (zz_Ok_none _ _) ?_
  refine zz_cons (k' := 53) rfl (zk_aload_n X dX12_scales_52 rfl rfl) ?_
  refine zz_cons (k' := 54) rfl (zk_callv X (zz_Cv_of (List.forall_mem_cons.mpr ⟨⟨(RX_10, zzT10, 50), yX12_shouldWant, cX12_shouldWant, 3, (some .int), 2, 45, rfl, kv_X12_329_10.1, (mm_X12_shouldWant Wd).1, by decide, by decide⟩, (fun _ h => absurd h List.not_mem_nil)⟩)) dX12_scales_53 rfl) ?_
  refine zz_cons (k' := 55) rfl (zz_Ok_none _ _) ?_
  refine zz_cons (k' := 56) rfl (zz_Ok_none _ _) ?_
  refine zz_cons (k' := 57) rfl (zk_callv X (zz_Cv_of (List.forall_mem_cons.mpr ⟨⟨(RX_10, zzT10, 50), yX12_wants, cX12_wants, 5, (some .boolean), 3, 84, rfl, kv_X12_289_10.1, (mm_X12_wants Wd).1, by decide, by decide⟩, (fun _ h => absurd h List.not_mem_nil)⟩)) dX12_scales_56 rfl) ?_
  refine zz_cons (k' := 58) rfl (zz_Ok_none _ _) ?_
  refine zz_cons (k' := 59) rfl (zz_Ok_none _ _) ?_
  refine zz_cons (k' := 60) rfl (zk_istore_n X dX12_scales_59 rfl (by decide) rfl) ?_
  refine zz_cons (k' := 61) rfl (zk_aload_n X dX12_scales_60 rfl rfl) ?_
  refine zz_cons (k' := 62) rfl (zk_getf X ff_X12_47 dX12_scales_61 rfl) ?_
  refine zz_cons (k' := 63) rfl (zz_Ok_none _ _) ?_
  refine zz_cons (k' := 64) rfl (zz_Ok_none _ _) ?_
  refine zz_cons (k' := 65) rfl (zk_aload_n X dX12_scales_64 rfl rfl) ?_
  refine zz_cons (k' := 66) rfl (zk_getf X ff_X12_243 dX12_scales_65 rfl) ?_
  refine zz_cons (k' := 67) rfl (zz_Ok_none _ _) ?_
  refine zz_cons (k' := 68) rfl (zz_Ok_none _ _) ?_
  refine zz_cons (k' := 69) rfl (zk_aload_n X dX12_scales_68 rfl rfl) ?_
  refine zz_cons (k' := 70) rfl (zk_getf X ff_X12_154 dX12_scales_69 rfl) ?_
  refine zz_cons (k' := 71) rfl (zz_Ok_none _ _) ?_
  refine zz_cons (k' := 72) rfl (zz_Ok_none _ _) ?_
  refine zz_cons (k' := 73) rfl (zk_iload_n X dX12_scales_72 rfl rfl) ?_
  refine zz_cons (k' := 74) rfl (zk_icmp_le X dX12_scales_73 (by decide) rfl) ?_
  refine zz_cons (k' := 75) rfl (zz_Ok_none _ _) ?_
  refine zz_cons (k' := 76) rfl (zz_Ok_none _ _) ?_
  refine zz_cons (k' := 77) rfl (zk_aload_n X dX12_scales_76 rfl rfl) ?_
  refine zz_cons (k' := 78) rfl (zk_getf X ff_X12_182 dX12_scales_77 rfl) ?_
  refine zz_cons (k' := 79) rfl (zz_Ok_none _ _) ?_
  refine zz_cons (k' := 80) rfl (zz_Ok_none _ _) ?_
  refine zz_cons (k' := 81) rfl (zk_goto X dX12_scales_80 (by decide)) ?_
  refine zz_cons (k' := 82) rfl (zz_Ok_none _ _) ?_
  refine zz_cons (k' := 83) rfl (zz_Ok_none _ _) ?_
  refine zz_cons (k' := 84) rfl (zk_aload_n X dX12_scales_83 rfl rfl) ?_
  refine zz_cons (k' := 85) rfl (zk_getf X ff_X12_47 dX12_scales_84 rfl) ?_
  refine zz_cons (k' := 86) rfl (zz_Ok_none _ _) ?_
  refine zz_cons (k' := 87) rfl (zz_Ok_none _ _) ?_
  refine zz_cons (k' := 88) rfl (zk_aload_n X dX12_scales_87 rfl rfl) ?_
  refine zz_cons (k' := 89) rfl (zk_getf X ff_X12_243 dX12_scales_88 rfl) ?_
  refine zz_cons (k' := 90) rfl (zz_Ok_none _ _) ?_
  refine zz_cons (k' := 91) rfl (zz_Ok_none _ _) ?_
  refine zz_cons (k' := 92) rfl (zk_iald X (zzWR_st Wd) dX12_scales_91 rfl) ?_
  refine zz_cons (k' := 93) rfl (zk_iast X dX12_scales_92 rfl) ?_
  refine zz_cons (k' := 94) rfl (zk_iload_n X dX12_scales_93 rfl rfl) ?_
  refine zz_cons (k' := 95) rfl (zk_iret X rfl dX12_scales_94) ?_
  exact trivial
noncomputable def tX12_does : List zzOp := [
  zo_aload 0 1,
  zo_getf zzSR (zz_kf [10] 42) 4,
  zo_none,
  zo_none,
  zo_if (fun x => decide (¬ x = 0)) 14 7,
  zo_none,
  zo_none,
  zo_aload 0 8,
  zo_callv zzSR (zz_cl [(10, fX12_deploys)]) 0 11,
  zo_none,
  zo_none,
  zo_goto 109,
  zo_none,
  zo_none,
  zo_aload 0 15,
  zo_getf zzSR (zz_kf [10] 42) 18,
  zo_none,
  zo_none,
  zo_pushI 1 19,
  zo_icmp (fun x y => decide (¬ x = y)) 29 22,
  zo_none,
  zo_none,
  zo_aload 0 23,
  zo_callv zzSR (zz_cl [(10, fX12_replicates)]) 0 26,
  zo_none,
  zo_none,
  zo_goto 109,
  zo_none,
  zo_none,
  zo_aload 0 30,
  zo_getf zzSR (zz_kf [10] 42) 33,
  zo_none,
  zo_none,
  zo_pushI 2 34,
  zo_icmp (fun x y => decide (¬ x = y)) 44 37,
  zo_none,
  zo_none,
  zo_aload 0 38,
  zo_callv zzSR (zz_cl [(10, fX12_doesJobs)]) 0 41,
  zo_none,
  zo_none,
  zo_goto 109,
  zo_none,
  zo_none,
  zo_aload 0 45,
  zo_getf zzSR (zz_kf [10] 42) 48,
  zo_none,
  zo_none,
  zo_pushI 3 49,
  zo_icmp (fun x y => decide (¬ x = y)) 59 52,
  zo_none,
  zo_none,
  zo_aload 0 53,
  zo_callv zzSR (zz_cl [(10, fX12_schedules)]) 0 56,
  zo_none,
  zo_none,
  zo_goto 109,
  zo_none,
  zo_none,
  zo_aload 0 60,
  zo_getf zzSR (zz_kf [10] 42) 63,
  zo_none,
  zo_none,
  zo_pushI 4 64,
  zo_icmp (fun x y => decide (¬ x = y)) 74 67,
  zo_none,
  zo_none,
  zo_aload 0 68,
  zo_callv zzSR (zz_cl [(10, fX12_runs)]) 0 71,
  zo_none,
  zo_none,
  zo_goto 109,
  zo_none,
  zo_none,
  zo_aload 0 75,
  zo_getf zzSR (zz_kf [10] 42) 78,
  zo_none,
  zo_none,
  zo_pushI 5 79,
  zo_icmp (fun x y => decide (¬ x = y)) 89 82,
  zo_none,
  zo_none,
  zo_aload 0 83,
  zo_callv zzSR (zz_cl [(10, fX12_collects)]) 0 86,
  zo_none,
  zo_none,
  zo_goto 109,
  zo_none,
  zo_none,
  zo_aload 0 90,
  zo_getf zzSR (zz_kf [10] 42) 93,
  zo_none,
  zo_none,
  zo_pushI 6 95,
  zo_none,
  zo_icmp (fun x y => decide (¬ x = y)) 105 98,
  zo_none,
  zo_none,
  zo_aload 0 99,
  zo_callv zzSR (zz_cl [(10, fX12_routes)]) 0 102,
  zo_none,
  zo_none,
  zo_goto 109,
  zo_none,
  zo_none,
  zo_aload 0 106,
  zo_callv zzSR (zz_cl [(10, fX12_scales)]) 0 109,
  zo_none,
  zo_none,
  zo_iret true]
set_option maxRecDepth 100000 in
theorem tl_X12_does : ∀ pc, zz_Tl (tX12_does.getD pc zo_none) := by
  refine zz_Tl_mem ?_
  unfold tX12_does
  refine List.forall_mem_cons.mpr ⟨(zo_aload_tl _ _), ?_⟩
  refine List.forall_mem_cons.mpr ⟨(zo_getf_tl _ _ _), ?_⟩
  refine List.forall_mem_cons.mpr ⟨zo_none_tl, ?_⟩
  refine List.forall_mem_cons.mpr ⟨zo_none_tl, ?_⟩
  refine List.forall_mem_cons.mpr ⟨(zo_if_tl _ _ _), ?_⟩
  refine List.forall_mem_cons.mpr ⟨zo_none_tl, ?_⟩
  refine List.forall_mem_cons.mpr ⟨zo_none_tl, ?_⟩
  refine List.forall_mem_cons.mpr ⟨(zo_aload_tl _ _), ?_⟩
  refine List.forall_mem_cons.mpr ⟨(zo_callv_tl _ _ _ _), ?_⟩
  refine List.forall_mem_cons.mpr ⟨zo_none_tl, ?_⟩
  refine List.forall_mem_cons.mpr ⟨zo_none_tl, ?_⟩
  refine List.forall_mem_cons.mpr ⟨(zo_goto_tl _), ?_⟩
  refine List.forall_mem_cons.mpr ⟨zo_none_tl, ?_⟩
  refine List.forall_mem_cons.mpr ⟨zo_none_tl, ?_⟩
  refine List.forall_mem_cons.mpr ⟨(zo_aload_tl _ _), ?_⟩
  refine List.forall_mem_cons.mpr ⟨(zo_getf_tl _ _ _), ?_⟩
  refine List.forall_mem_cons.mpr ⟨zo_none_tl, ?_⟩
  refine List.forall_mem_cons.mpr ⟨zo_none_tl, ?_⟩
  refine List.forall_mem_cons.mpr ⟨(zo_pushI_tl _ _), ?_⟩
  refine List.forall_mem_cons.mpr ⟨(zo_icmp_tl _ _ _), ?_⟩
  refine List.forall_mem_cons.mpr ⟨zo_none_tl, ?_⟩
  refine List.forall_mem_cons.mpr ⟨zo_none_tl, ?_⟩
  refine List.forall_mem_cons.mpr ⟨(zo_aload_tl _ _), ?_⟩
  refine List.forall_mem_cons.mpr ⟨(zo_callv_tl _ _ _ _), ?_⟩
  refine List.forall_mem_cons.mpr ⟨zo_none_tl, ?_⟩
  refine List.forall_mem_cons.mpr ⟨zo_none_tl, ?_⟩
  refine List.forall_mem_cons.mpr ⟨(zo_goto_tl _), ?_⟩
  refine List.forall_mem_cons.mpr ⟨zo_none_tl, ?_⟩
  refine List.forall_mem_cons.mpr ⟨zo_none_tl, ?_⟩
  refine List.forall_mem_cons.mpr ⟨(zo_aload_tl _ _), ?_⟩
  refine List.forall_mem_cons.mpr ⟨(zo_getf_tl _ _ _), ?_⟩
  refine List.forall_mem_cons.mpr ⟨zo_none_tl, ?_⟩
  refine List.forall_mem_cons.mpr ⟨zo_none_tl, ?_⟩
  refine List.forall_mem_cons.mpr ⟨(zo_pushI_tl _ _), ?_⟩
  refine List.forall_mem_cons.mpr ⟨(zo_icmp_tl _ _ _), ?_⟩
  refine List.forall_mem_cons.mpr ⟨zo_none_tl, ?_⟩
  refine List.forall_mem_cons.mpr ⟨zo_none_tl, ?_⟩
  refine List.forall_mem_cons.mpr ⟨(zo_aload_tl _ _), ?_⟩
  refine List.forall_mem_cons.mpr ⟨(zo_callv_tl _ _ _ _), ?_⟩
  refine List.forall_mem_cons.mpr ⟨zo_none_tl, ?_⟩
  refine List.forall_mem_cons.mpr ⟨zo_none_tl, ?_⟩
  refine List.forall_mem_cons.mpr ⟨(zo_goto_tl _), ?_⟩
  refine List.forall_mem_cons.mpr ⟨zo_none_tl, ?_⟩
  refine List.forall_mem_cons.mpr ⟨zo_none_tl, ?_⟩
  refine List.forall_mem_cons.mpr ⟨(zo_aload_tl _ _), ?_⟩
  refine List.forall_mem_cons.mpr ⟨(zo_getf_tl _ _ _), ?_⟩
  refine List.forall_mem_cons.mpr ⟨zo_none_tl, ?_⟩
  refine List.forall_mem_cons.mpr ⟨zo_none_tl, ?_⟩
  refine List.forall_mem_cons.mpr ⟨(zo_pushI_tl _ _), ?_⟩
  refine List.forall_mem_cons.mpr ⟨(zo_icmp_tl _ _ _), ?_⟩
  refine List.forall_mem_cons.mpr ⟨zo_none_tl, ?_⟩
  refine List.forall_mem_cons.mpr ⟨zo_none_tl, ?_⟩
  refine List.forall_mem_cons.mpr ⟨(zo_aload_tl _ _), ?_⟩
  refine List.forall_mem_cons.mpr ⟨(zo_callv_tl _ _ _ _), ?_⟩
  refine List.forall_mem_cons.mpr ⟨zo_none_tl, ?_⟩
  refine List.forall_mem_cons.mpr ⟨zo_none_tl, ?_⟩
  refine List.forall_mem_cons.mpr ⟨(zo_goto_tl _), ?_⟩
  refine List.forall_mem_cons.mpr ⟨zo_none_tl, ?_⟩
  refine List.forall_mem_cons.mpr ⟨zo_none_tl, ?_⟩
  refine List.forall_mem_cons.mpr ⟨(zo_aload_tl _ _), ?_⟩
  refine List.forall_mem_cons.mpr ⟨(zo_getf_tl _ _ _), ?_⟩
  refine List.forall_mem_cons.mpr ⟨zo_none_tl, ?_⟩
  refine List.forall_mem_cons.mpr ⟨zo_none_tl, ?_⟩
  refine List.forall_mem_cons.mpr ⟨(zo_pushI_tl _ _), ?_⟩
  refine List.forall_mem_cons.mpr ⟨(zo_icmp_tl _ _ _), ?_⟩
  refine List.forall_mem_cons.mpr ⟨zo_none_tl, ?_⟩
  refine List.forall_mem_cons.mpr ⟨zo_none_tl, ?_⟩
  refine List.forall_mem_cons.mpr ⟨(zo_aload_tl _ _), ?_⟩
  refine List.forall_mem_cons.mpr ⟨(zo_callv_tl _ _ _ _), ?_⟩
  refine List.forall_mem_cons.mpr ⟨zo_none_tl, ?_⟩
  refine List.forall_mem_cons.mpr ⟨zo_none_tl, ?_⟩
  refine List.forall_mem_cons.mpr ⟨(zo_goto_tl _), ?_⟩
  refine List.forall_mem_cons.mpr ⟨zo_none_tl, ?_⟩
  refine List.forall_mem_cons.mpr ⟨zo_none_tl, ?_⟩
  refine List.forall_mem_cons.mpr ⟨(zo_aload_tl _ _), ?_⟩
  refine List.forall_mem_cons.mpr ⟨(zo_getf_tl _ _ _), ?_⟩
  refine List.forall_mem_cons.mpr ⟨zo_none_tl, ?_⟩
  refine List.forall_mem_cons.mpr ⟨zo_none_tl, ?_⟩
  refine List.forall_mem_cons.mpr ⟨(zo_pushI_tl _ _), ?_⟩
  refine List.forall_mem_cons.mpr ⟨(zo_icmp_tl _ _ _), ?_⟩
  refine List.forall_mem_cons.mpr ⟨zo_none_tl, ?_⟩
  refine List.forall_mem_cons.mpr ⟨zo_none_tl, ?_⟩
  refine List.forall_mem_cons.mpr ⟨(zo_aload_tl _ _), ?_⟩
  refine List.forall_mem_cons.mpr ⟨(zo_callv_tl _ _ _ _), ?_⟩
  refine List.forall_mem_cons.mpr ⟨zo_none_tl, ?_⟩
  refine List.forall_mem_cons.mpr ⟨zo_none_tl, ?_⟩
  refine List.forall_mem_cons.mpr ⟨(zo_goto_tl _), ?_⟩
  refine List.forall_mem_cons.mpr ⟨zo_none_tl, ?_⟩
  refine List.forall_mem_cons.mpr ⟨zo_none_tl, ?_⟩
  refine List.forall_mem_cons.mpr ⟨(zo_aload_tl _ _), ?_⟩
  refine List.forall_mem_cons.mpr ⟨(zo_getf_tl _ _ _), ?_⟩
  refine List.forall_mem_cons.mpr ⟨zo_none_tl, ?_⟩
  refine List.forall_mem_cons.mpr ⟨zo_none_tl, ?_⟩
  refine List.forall_mem_cons.mpr ⟨(zo_pushI_tl _ _), ?_⟩
  refine List.forall_mem_cons.mpr ⟨zo_none_tl, ?_⟩
  refine List.forall_mem_cons.mpr ⟨(zo_icmp_tl _ _ _), ?_⟩
  refine List.forall_mem_cons.mpr ⟨zo_none_tl, ?_⟩
  refine List.forall_mem_cons.mpr ⟨zo_none_tl, ?_⟩
  refine List.forall_mem_cons.mpr ⟨(zo_aload_tl _ _), ?_⟩
  refine List.forall_mem_cons.mpr ⟨(zo_callv_tl _ _ _ _), ?_⟩
  refine List.forall_mem_cons.mpr ⟨zo_none_tl, ?_⟩
  refine List.forall_mem_cons.mpr ⟨zo_none_tl, ?_⟩
  refine List.forall_mem_cons.mpr ⟨(zo_goto_tl _), ?_⟩
  refine List.forall_mem_cons.mpr ⟨zo_none_tl, ?_⟩
  refine List.forall_mem_cons.mpr ⟨zo_none_tl, ?_⟩
  refine List.forall_mem_cons.mpr ⟨(zo_aload_tl _ _), ?_⟩
  refine List.forall_mem_cons.mpr ⟨(zo_callv_tl _ _ _ _), ?_⟩
  refine List.forall_mem_cons.mpr ⟨zo_none_tl, ?_⟩
  refine List.forall_mem_cons.mpr ⟨zo_none_tl, ?_⟩
  refine List.forall_mem_cons.mpr ⟨(zo_iret_tl _), ?_⟩
  exact fun _ h => absurd h List.not_mem_nil
noncomputable def fX12_does : zzFn := zz_fn tX12_does 1
set_option maxRecDepth 100000 in
set_option maxHeartbeats 4000000 in
theorem mm_X12_does {l : Launch} {D : va_G} {cA : Nat → ClassId} {ad : Nat → Nat} {Ex : (Nat → Prop) → State → Heap → Prop} (Wd : zzWR l D cA ad Ex) : zz_Cn l D zzCl cA ad zzSR Ex yX12_does cX12_does 1 (some .boolean) 7 166 fX12_does ∧ zz_Cx l D zzCl cA ad zzSR Ex yX12_does cX12_does 1 (some .boolean) 7 166 fX12_does := by
  refine zz_meth (plainFor_of_name (by decide)) Wd.1 Wd.2.1 Wd.2.2 (fun p e R s m args below meth c rr X => ?_)
  unfold tX12_does
  refine zz_cons (k' := 1) rfl (zk_aload_n X dX12_does_0 rfl rfl) ?_
  refine zz_cons (k' := 2) rfl (zk_getf X ff_X12_193 dX12_does_1 rfl) ?_
  refine zz_cons (k' := 3) rfl (zz_Ok_none _ _) ?_
  refine zz_cons (k' := 4) rfl (zz_Ok_none _ _) ?_
  refine zz_cons (k' := 5) rfl (zk_if_ne X dX12_does_4 (by decide) rfl) ?_
  refine zz_cons (k' := 6) rfl (zz_Ok_none _ _) ?_
  refine zz_cons (k' := 7) rfl (zz_Ok_none _ _) ?_
  refine zz_cons (k' := 8) rfl (zk_aload_n X dX12_does_7 rfl rfl) ?_
  refine zz_cons (k' := 9) rfl (zk_callv X (zz_Cv_of (List.forall_mem_cons.mpr ⟨⟨(RX_10, zzT10, 50), yX12_deploys, cX12_deploys, 5, (some .boolean), 6, 138, rfl, kv_X12_332_10.1, (mm_X12_deploys Wd).1, by decide, by decide⟩, (fun _ h => absurd h List.not_mem_nil)⟩)) dX12_does_8 rfl) ?_
  refine zz_cons (k' := 10) rfl (zz_Ok_none _ _) ?_
  refine zz_cons (k' := 11) rfl (zz_Ok_none _ _) ?_
  refine zz_cons (k' := 12) rfl (zk_goto X dX12_does_11 (by decide)) ?_
  refine zz_cons (k' := 13) rfl (zz_Ok_none _ _) ?_
  refine zz_cons (k' := 14) rfl (zz_Ok_none _ _) ?_
  refine zz_cons (k' := 15) rfl (zk_aload_n X dX12_does_14 rfl rfl) ?_
  refine zz_cons (k' := 16) rfl (zk_getf X ff_X12_193 dX12_does_15 rfl) ?_
  refine zz_cons (k' := 17) rfl (zz_Ok_none _ _) ?_
  refine zz_cons (k' := 18) rfl (zz_Ok_none _ _) ?_
  refine zz_cons (k' := 19) rfl (zk_iconst X dX12_does_18 (by decide) rfl) ?_
  refine zz_cons (k' := 20) rfl (zk_icmp_ne X dX12_does_19 (by decide) rfl) ?_
  refine zz_cons (k' := 21) rfl (zz_Ok_none _ _) ?_
  refine zz_cons (k' := 22) rfl (zz_Ok_none _ _) ?_
  refine zz_cons (k' := 23) rfl (zk_aload_n X dX12_does_22 rfl rfl) ?_
  refine zz_cons (k' := 24) rfl (zk_callv X (zz_Cv_of (List.forall_mem_cons.mpr ⟨⟨(RX_10, zzT10, 50), yX12_replicates, cX12_replicates, 4, (some .boolean), 5, 118, rfl, kv_X12_335_10.1, (mm_X12_replicates Wd).1, by decide, by decide⟩, (fun _ h => absurd h List.not_mem_nil)⟩)) dX12_does_23 rfl) ?_
  refine zz_cons (k' := 25) rfl (zz_Ok_none _ _) ?_
  refine zz_cons (k' := 26) rfl (zz_Ok_none _ _) ?_
  refine zz_cons (k' := 27) rfl (zk_goto X dX12_does_26 (by decide)) ?_
  refine zz_cons (k' := 28) rfl (zz_Ok_none _ _) ?_
  refine zz_cons (k' := 29) rfl (zz_Ok_none _ _) ?_
  refine zz_cons (k' := 30) rfl (zk_aload_n X dX12_does_29 rfl rfl) ?_
  refine zz_cons (k' := 31) rfl (zk_getf X ff_X12_193 dX12_does_30 rfl) ?_
  refine zz_cons (k' := 32) rfl (zz_Ok_none _ _) ?_
  refine zz_cons (k' := 33) rfl (zz_Ok_none _ _) ?_
  refine zz_cons (k' := 34) rfl (zk_iconst X dX12_does_33 (by decide) rfl) ?_
  refine zz_cons (k' := 35) rfl (zk_icmp_ne X dX12_does_34 (by decide) rfl) ?_
  refine zz_cons (k' := 36) rfl (zz_Ok_none _ _) ?_
  refine zz_cons (k' := 37) rfl (zz_Ok_none _ _) ?_
  refine zz_cons (k' := 38) rfl (zk_aload_n X dX12_does_37 rfl rfl) ?_
  refine zz_cons (k' := 39) rfl (zk_callv X (zz_Cv_of (List.forall_mem_cons.mpr ⟨⟨(RX_10, zzT10, 50), yX12_doesJobs, cX12_doesJobs, 3, (some .boolean), 5, 114, rfl, kv_X12_338_10.1, (mm_X12_doesJobs Wd).1, by decide, by decide⟩, (fun _ h => absurd h List.not_mem_nil)⟩)) dX12_does_38 rfl) ?_
  refine zz_cons (k' := 40) rfl (zz_Ok_none _ _) ?_
  refine zz_cons (k' := 41) rfl (zz_Ok_none _ _) ?_
  refine zz_cons (k' := 42) rfl (zk_goto X dX12_does_41 (by decide)) ?_
  refine zz_cons (k' := 43) rfl (zz_Ok_none _ _) ?_
  refine zz_cons (k' := 44) rfl (zz_Ok_none _ _) ?_
  refine zz_cons (k' := 45) rfl (zk_aload_n X dX12_does_44 rfl rfl) ?_
  refine zz_cons (k' := 46) rfl (zk_getf X ff_X12_193 dX12_does_45 rfl) ?_
  refine zz_cons (k' := 47) rfl (zz_Ok_none _ _) ?_
  refine zz_cons (k' := 48) rfl (zz_Ok_none _ _) ?_
  refine zz_cons (k' := 49) rfl (zk_iconst X dX12_does_48 (by decide) rfl) ?_
  refine zz_cons (k' := 50) rfl (zk_icmp_ne X dX12_does_49 (by decide) rfl) ?_
  refine zz_cons (k' := 51) rfl (zz_Ok_none _ _) ?_
  refine zz_cons (k' := 52) rfl (zz_Ok_none _ _) ?_
  refine zz_cons (k' := 53) rfl (zk_aload_n X dX12_does_52 rfl rfl) ?_
  refine zz_cons (k' := 54) rfl (zk_callv X (zz_Cv_of (List.forall_mem_cons.mpr ⟨⟨(RX_10, zzT10, 50), yX12_schedules, cX12_schedules, 2, (some .boolean), 6, 145, rfl, kv_X12_341_10.1, (mm_X12_schedules Wd).1, by decide, by decide⟩, (fun _ h => absurd h List.not_mem_nil)⟩)) dX12_does_53 rfl) ?_
  refine zz_cons (k' := 55) rfl (zz_Ok_none _ _) ?_
  refine zz_cons (k' := 56) rfl (zz_Ok_none _ _) ?_
  refine zz_cons (k' := 57) rfl (zk_goto X dX12_does_56 (by decide)) ?_
  refine zz_cons (k' := 58) rfl (zz_Ok_none _ _) ?_
  refine zz_cons (k' := 59) rfl (zz_Ok_none _ _) ?_
  refine zz_cons (k' := 60) rfl (zk_aload_n X dX12_does_59 rfl rfl) ?_
  refine zz_cons (k' := 61) rfl (zk_getf X ff_X12_193 dX12_does_60 rfl) ?_
  refine zz_cons (k' := 62) rfl (zz_Ok_none _ _) ?_
  refine zz_cons (k' := 63) rfl (zz_Ok_none _ _) ?_
  refine zz_cons (k' := 64) rfl (zk_iconst X dX12_does_63 (by decide) rfl) ?_
  refine zz_cons (k' := 65) rfl (zk_icmp_ne X dX12_does_64 (by decide) rfl) ?_
  refine zz_cons (k' := 66) rfl (zz_Ok_none _ _) ?_
  refine zz_cons (k' := 67) rfl (zz_Ok_none _ _) ?_
  refine zz_cons (k' := 68) rfl (zk_aload_n X dX12_does_67 rfl rfl) ?_
  refine zz_cons (k' := 69) rfl (zk_callv X (zz_Cv_of (List.forall_mem_cons.mpr ⟨⟨(RX_10, zzT10, 50), yX12_runs, cX12_runs, 7, (some .boolean), 4, 92, rfl, kv_X12_344_10.1, (mm_X12_runs Wd).1, by decide, by decide⟩, (fun _ h => absurd h List.not_mem_nil)⟩)) dX12_does_68 rfl) ?_
  refine zz_cons (k' := 70) rfl (zz_Ok_none _ _) ?_
  refine zz_cons (k' := 71) rfl (zz_Ok_none _ _) ?_
  refine zz_cons (k' := 72) rfl (zk_goto X dX12_does_71 (by decide)) ?_
  refine zz_cons (k' := 73) rfl (zz_Ok_none _ _) ?_
  refine zz_cons (k' := 74) rfl (zz_Ok_none _ _) ?_
  refine zz_cons (k' := 75) rfl (zk_aload_n X dX12_does_74 rfl rfl) ?_
  refine zz_cons (k' := 76) rfl (zk_getf X ff_X12_193 dX12_does_75 rfl) ?_
  refine zz_cons (k' := 77) rfl (zz_Ok_none _ _) ?_
  refine zz_cons (k' := 78) rfl (zz_Ok_none _ _) ?_
  refine zz_cons (k' := 79) rfl (zk_iconst X dX12_does_78 (by decide) rfl) ?_
  refine zz_cons (k' := 80) rfl (zk_icmp_ne X dX12_does_79 (by decide) rfl) ?_
  refine zz_cons (k' := 81) rfl (zz_Ok_none _ _) ?_
  refine zz_cons (k' := 82) rfl (zz_Ok_none _ _) ?_
  refine zz_cons (k' := 83) rfl (zk_aload_n X dX12_does_82 rfl rfl) ?_
  refine zz_cons (k' := 84) rfl (zk_callv X (zz_Cv_of (List.forall_mem_cons.mpr ⟨⟨(RX_10, zzT10, 50), yX12_collects, cX12_collects, 4, (some .boolean), 4, 106, rfl, kv_X12_347_10.1, (mm_X12_collects Wd).1, by decide, by decide⟩, (fun _ h => absurd h List.not_mem_nil)⟩)) dX12_does_83 rfl) ?_
  refine zz_cons (k' := 85) rfl (zz_Ok_none _ _) ?_
  refine zz_cons (k' := 86) rfl (zz_Ok_none _ _) ?_
  refine zz_cons (k' := 87) rfl (zk_goto X dX12_does_86 (by decide)) ?_
  refine zz_cons (k' := 88) rfl (zz_Ok_none _ _) ?_
  refine zz_cons (k' := 89) rfl (zz_Ok_none _ _) ?_
  refine zz_cons (k' := 90) rfl (zk_aload_n X dX12_does_89 rfl rfl) ?_
  refine zz_cons (k' := 91) rfl (zk_getf X ff_X12_193 dX12_does_90 rfl) ?_
  refine zz_cons (k' := 92) rfl (zz_Ok_none _ _) ?_
  refine zz_cons (k' := 93) rfl (zz_Ok_none _ _) ?_
  refine zz_cons (k' := 94) rfl (zk_bipush X dX12_does_93 (by decide) rfl) ?_
  refine zz_cons (k' := 95) rfl (zz_Ok_none _ _) ?_
  refine zz_cons (k' := 96) rfl (zk_icmp_ne X dX12_does_95 (by decide) rfl) ?_
  refine zz_cons (k' := 97) rfl (zz_Ok_none _ _) ?_
  refine zz_cons (k' := 98) rfl (zz_Ok_none _ _) ?_
  refine zz_cons (k' := 99) rfl (zk_aload_n X dX12_does_98 rfl rfl) ?_
  refine zz_cons (k' := 100) rfl (zk_callv X (zz_Cv_of (List.forall_mem_cons.mpr ⟨⟨(RX_10, zzT10, 50), yX12_routes, cX12_routes, 5, (some .boolean), 3, 79, rfl, kv_X12_350_10.1, (mm_X12_routes Wd).1, by decide, by decide⟩, (fun _ h => absurd h List.not_mem_nil)⟩)) dX12_does_99 rfl) ?_
  refine zz_cons (k' := 101) rfl (zz_Ok_none _ _) ?_
  refine zz_cons (k' := 102) rfl (zz_Ok_none _ _) ?_
  refine zz_cons (k' := 103) rfl (zk_goto X dX12_does_102 (by decide)) ?_
  refine zz_cons (k' := 104) rfl (zz_Ok_none _ _) ?_
  refine zz_cons (k' := 105) rfl (zz_Ok_none _ _) ?_
  refine zz_cons (k' := 106) rfl (zk_aload_n X dX12_does_105 rfl rfl) ?_
  refine zz_cons (k' := 107) rfl (zk_callv X (zz_Cv_of (List.forall_mem_cons.mpr ⟨⟨(RX_10, zzT10, 50), yX12_scales, cX12_scales, 3, (some .boolean), 4, 108, rfl, kv_X12_353_10.1, (mm_X12_scales Wd).1, by decide, by decide⟩, (fun _ h => absurd h List.not_mem_nil)⟩)) dX12_does_106 rfl) ?_
  refine zz_cons (k' := 108) rfl (zz_Ok_none _ _) ?_
  refine zz_cons (k' := 109) rfl (zz_Ok_none _ _) ?_
  refine zz_cons (k' := 110) rfl (zk_iret X rfl dX12_does_109) ?_
  exact trivial
noncomputable def tX12_takesOut : List zzOp := [
  zo_aload 0 1,
  zo_getf zzSR (zz_kf [10] 37) 4,
  zo_none,
  zo_none,
  zo_aload 0 5,
  zo_getf zzSR (zz_kf [10] 42) 8,
  zo_none,
  zo_none,
  zo_dup2 9,
  zo_iald zzSR zzSTR 10,
  zo_pushI 1 11,
  zo_ii (fun x y => x - y) 12,
  zo_iast zzSR 13,
  zo_iload 1 14,
  zo_istore 2 15,
  zo_iload 2 16,
  zo_pushI 60 18,
  zo_none,
  zo_aload 0 19,
  zo_getf zzSR (zz_kf [10] 42) 22,
  zo_none,
  zo_none,
  zo_ii (fun x y => x * y) 23,
  zo_aload 0 24,
  zo_getf zzSR (zz_kf [10] 37) 27,
  zo_none,
  zo_none,
  zo_aload 0 28,
  zo_getf zzSR (zz_kf [10] 42) 31,
  zo_none,
  zo_none,
  zo_iald zzSR zzSTR 32,
  zo_ii (fun x y => x + y) 33,
  zo_icmp (fun x y => decide (y ≤ x)) 56 36,
  zo_none,
  zo_none,
  zo_aload 0 37,
  zo_getf zzSR (zz_kf [10] 38) 40,
  zo_none,
  zo_none,
  zo_iload 2 41,
  zo_aload 0 42,
  zo_getf zzSR (zz_kf [10] 38) 45,
  zo_none,
  zo_none,
  zo_iload 2 46,
  zo_pushI 1 47,
  zo_ii (fun x y => x + y) 48,
  zo_iald zzSR zzSTR 49,
  zo_iast zzSR 50,
  zo_iinc 2 1 53,
  zo_none,
  zo_none,
  zo_goto 15,
  zo_none,
  zo_none,
  zo_ret]
set_option maxRecDepth 100000 in
theorem tl_X12_takesOut : ∀ pc, zz_Tl (tX12_takesOut.getD pc zo_none) := by
  refine zz_Tl_mem ?_
  unfold tX12_takesOut
  refine List.forall_mem_cons.mpr ⟨(zo_aload_tl _ _), ?_⟩
  refine List.forall_mem_cons.mpr ⟨(zo_getf_tl _ _ _), ?_⟩
  refine List.forall_mem_cons.mpr ⟨zo_none_tl, ?_⟩
  refine List.forall_mem_cons.mpr ⟨zo_none_tl, ?_⟩
  refine List.forall_mem_cons.mpr ⟨(zo_aload_tl _ _), ?_⟩
  refine List.forall_mem_cons.mpr ⟨(zo_getf_tl _ _ _), ?_⟩
  refine List.forall_mem_cons.mpr ⟨zo_none_tl, ?_⟩
  refine List.forall_mem_cons.mpr ⟨zo_none_tl, ?_⟩
  refine List.forall_mem_cons.mpr ⟨(zo_dup2_tl _), ?_⟩
  refine List.forall_mem_cons.mpr ⟨(zo_iald_tl _ _ _), ?_⟩
  refine List.forall_mem_cons.mpr ⟨(zo_pushI_tl _ _), ?_⟩
  refine List.forall_mem_cons.mpr ⟨(zo_ii_tl _ _), ?_⟩
  refine List.forall_mem_cons.mpr ⟨(zo_iast_tl _ _), ?_⟩
  refine List.forall_mem_cons.mpr ⟨(zo_iload_tl _ _), ?_⟩
  refine List.forall_mem_cons.mpr ⟨(zo_istore_tl _ _), ?_⟩
  refine List.forall_mem_cons.mpr ⟨(zo_iload_tl _ _), ?_⟩
  refine List.forall_mem_cons.mpr ⟨(zo_pushI_tl _ _), ?_⟩
  refine List.forall_mem_cons.mpr ⟨zo_none_tl, ?_⟩
  refine List.forall_mem_cons.mpr ⟨(zo_aload_tl _ _), ?_⟩
  refine List.forall_mem_cons.mpr ⟨(zo_getf_tl _ _ _), ?_⟩
  refine List.forall_mem_cons.mpr ⟨zo_none_tl, ?_⟩
  refine List.forall_mem_cons.mpr ⟨zo_none_tl, ?_⟩
  refine List.forall_mem_cons.mpr ⟨(zo_ii_tl _ _), ?_⟩
  refine List.forall_mem_cons.mpr ⟨(zo_aload_tl _ _), ?_⟩
  refine List.forall_mem_cons.mpr ⟨(zo_getf_tl _ _ _), ?_⟩
  refine List.forall_mem_cons.mpr ⟨zo_none_tl, ?_⟩
  refine List.forall_mem_cons.mpr ⟨zo_none_tl, ?_⟩
  refine List.forall_mem_cons.mpr ⟨(zo_aload_tl _ _), ?_⟩
  refine List.forall_mem_cons.mpr ⟨(zo_getf_tl _ _ _), ?_⟩
  refine List.forall_mem_cons.mpr ⟨zo_none_tl, ?_⟩
  refine List.forall_mem_cons.mpr ⟨zo_none_tl, ?_⟩
  refine List.forall_mem_cons.mpr ⟨(zo_iald_tl _ _ _), ?_⟩
  refine List.forall_mem_cons.mpr ⟨(zo_ii_tl _ _), ?_⟩
  refine List.forall_mem_cons.mpr ⟨(zo_icmp_tl _ _ _), ?_⟩
  refine List.forall_mem_cons.mpr ⟨zo_none_tl, ?_⟩
  refine List.forall_mem_cons.mpr ⟨zo_none_tl, ?_⟩
  refine List.forall_mem_cons.mpr ⟨(zo_aload_tl _ _), ?_⟩
  refine List.forall_mem_cons.mpr ⟨(zo_getf_tl _ _ _), ?_⟩
  refine List.forall_mem_cons.mpr ⟨zo_none_tl, ?_⟩
  refine List.forall_mem_cons.mpr ⟨zo_none_tl, ?_⟩
  refine List.forall_mem_cons.mpr ⟨(zo_iload_tl _ _), ?_⟩
  refine List.forall_mem_cons.mpr ⟨(zo_aload_tl _ _), ?_⟩
  refine List.forall_mem_cons.mpr ⟨(zo_getf_tl _ _ _), ?_⟩
  refine List.forall_mem_cons.mpr ⟨zo_none_tl, ?_⟩
  refine List.forall_mem_cons.mpr ⟨zo_none_tl, ?_⟩
  refine List.forall_mem_cons.mpr ⟨(zo_iload_tl _ _), ?_⟩
  refine List.forall_mem_cons.mpr ⟨(zo_pushI_tl _ _), ?_⟩
  refine List.forall_mem_cons.mpr ⟨(zo_ii_tl _ _), ?_⟩
  refine List.forall_mem_cons.mpr ⟨(zo_iald_tl _ _ _), ?_⟩
  refine List.forall_mem_cons.mpr ⟨(zo_iast_tl _ _), ?_⟩
  refine List.forall_mem_cons.mpr ⟨(zo_iinc_tl _ _ _), ?_⟩
  refine List.forall_mem_cons.mpr ⟨zo_none_tl, ?_⟩
  refine List.forall_mem_cons.mpr ⟨zo_none_tl, ?_⟩
  refine List.forall_mem_cons.mpr ⟨(zo_goto_tl _), ?_⟩
  refine List.forall_mem_cons.mpr ⟨zo_none_tl, ?_⟩
  refine List.forall_mem_cons.mpr ⟨zo_none_tl, ?_⟩
  refine List.forall_mem_cons.mpr ⟨(zo_ret_tl), ?_⟩
  exact fun _ h => absurd h List.not_mem_nil
noncomputable def fX12_takesOut : zzFn := zz_fn tX12_takesOut 3
set_option maxRecDepth 100000 in
set_option maxHeartbeats 4000000 in
theorem mm_X12_takesOut {l : Launch} {D : va_G} {cA : Nat → ClassId} {ad : Nat → Nat} {Ex : (Nat → Prop) → State → Heap → Prop} (Wd : zzWR l D cA ad Ex) : zz_Cn l D zzCl cA ad zzSR Ex yX12_takesOut cX12_takesOut 3 none 0 0 fX12_takesOut ∧ zz_Cx l D zzCl cA ad zzSR Ex yX12_takesOut cX12_takesOut 3 none 0 0 fX12_takesOut := by
  refine zz_meth (plainFor_of_name (by decide)) Wd.1 Wd.2.1 Wd.2.2 (fun p e R s m args below meth c rr X => ?_)
  unfold tX12_takesOut
  refine zz_cons (k' := 1) rfl (zk_aload_n X dX12_takesOut_0 rfl rfl) ?_
  refine zz_cons (k' := 2) rfl (zk_getf X ff_X12_106 dX12_takesOut_1 rfl) ?_
  refine zz_cons (k' := 3) rfl (zz_Ok_none _ _) ?_
  refine zz_cons (k' := 4) rfl (zz_Ok_none _ _) ?_
  refine zz_cons (k' := 5) rfl (zk_aload_n X dX12_takesOut_4 rfl rfl) ?_
  refine zz_cons (k' := 6) rfl (zk_getf X ff_X12_193 dX12_takesOut_5 rfl) ?_
  refine zz_cons (k' := 7) rfl (zz_Ok_none _ _) ?_
  refine zz_cons (k' := 8) rfl (zz_Ok_none _ _) ?_
  refine zz_cons (k' := 9) rfl (zk_dup2 X dX12_takesOut_8 rfl) ?_
  refine zz_cons (k' := 10) rfl (zk_iald X (zzWR_st Wd) dX12_takesOut_9 rfl) ?_
  refine zz_cons (k' := 11) rfl (zk_iconst X dX12_takesOut_10 (by decide) rfl) ?_
  refine zz_cons (k' := 12) rfl (zk_isub X dX12_takesOut_11 rfl) ?_
  refine zz_cons (k' := 13) rfl (zk_iast X dX12_takesOut_12 rfl) ?_
  refine zz_cons (k' := 14) rfl (zk_iload_n X dX12_takesOut_13 rfl rfl) ?_
  refine zz_cons (k' := 15) rfl (zk_istore_n X dX12_takesOut_14 rfl (by decide) rfl) ?_
  refine zz_cons (k' := 16) rfl (zk_iload_n X dX12_takesOut_15 rfl rfl) ?_
  refine zz_cons (k' := 17) rfl (zk_bipush X dX12_takesOut_16 (by decide) rfl) ?_
  refine zz_cons (k' := 18) rfl (zz_Ok_none _ _) ?_
  refine zz_cons (k' := 19) rfl (zk_aload_n X dX12_takesOut_18 rfl rfl) ?_
  refine zz_cons (k' := 20) rfl (zk_getf X ff_X12_193 dX12_takesOut_19 rfl) ?_
  refine zz_cons (k' := 21) rfl (zz_Ok_none _ _) ?_
  refine zz_cons (k' := 22) rfl (zz_Ok_none _ _) ?_
  refine zz_cons (k' := 23) rfl (zk_imul X dX12_takesOut_22 rfl) ?_
  refine zz_cons (k' := 24) rfl (zk_aload_n X dX12_takesOut_23 rfl rfl) ?_
  refine zz_cons (k' := 25) rfl (zk_getf X ff_X12_106 dX12_takesOut_24 rfl) ?_
  refine zz_cons (k' := 26) rfl (zz_Ok_none _ _) ?_
  refine zz_cons (k' := 27) rfl (zz_Ok_none _ _) ?_
  refine zz_cons (k' := 28) rfl (zk_aload_n X dX12_takesOut_27 rfl rfl) ?_
  refine zz_cons (k' := 29) rfl (zk_getf X ff_X12_193 dX12_takesOut_28 rfl) ?_
  refine zz_cons (k' := 30) rfl (zz_Ok_none _ _) ?_
  refine zz_cons (k' := 31) rfl (zz_Ok_none _ _) ?_
  refine zz_cons (k' := 32) rfl (zk_iald X (zzWR_st Wd) dX12_takesOut_31 rfl) ?_
  refine zz_cons (k' := 33) rfl (zk_iadd X dX12_takesOut_32 rfl) ?_
  refine zz_cons (k' := 34) rfl (zk_icmp_ge X dX12_takesOut_33 (by decide) rfl) ?_
  refine zz_cons (k' := 35) rfl (zz_Ok_none _ _) ?_
  refine zz_cons (k' := 36) rfl (zz_Ok_none _ _) ?_
  refine zz_cons (k' := 37) rfl (zk_aload_n X dX12_takesOut_36 rfl rfl) ?_
  refine zz_cons (k' := 38) rfl (zk_getf X ff_X12_109 dX12_takesOut_37 rfl) ?_
  refine zz_cons (k' := 39) rfl (zz_Ok_none _ _) ?_
  refine zz_cons (k' := 40) rfl (zz_Ok_none _ _) ?_
  refine zz_cons (k' := 41) rfl (zk_iload_n X dX12_takesOut_40 rfl rfl) ?_
  refine zz_cons (k' := 42) rfl (zk_aload_n X dX12_takesOut_41 rfl rfl) ?_
  refine zz_cons (k' := 43) rfl (zk_getf X ff_X12_109 dX12_takesOut_42 rfl) ?_
  refine zz_cons (k' := 44) rfl (zz_Ok_none _ _) ?_
  refine zz_cons (k' := 45) rfl (zz_Ok_none _ _) ?_
  refine zz_cons (k' := 46) rfl (zk_iload_n X dX12_takesOut_45 rfl rfl) ?_
  refine zz_cons (k' := 47) rfl (zk_iconst X dX12_takesOut_46 (by decide) rfl) ?_
  refine zz_cons (k' := 48) rfl (zk_iadd X dX12_takesOut_47 rfl) ?_
  refine zz_cons (k' := 49) rfl (zk_iald X (zzWR_st Wd) dX12_takesOut_48 rfl) ?_
  refine zz_cons (k' := 50) rfl (zk_iast X dX12_takesOut_49 rfl) ?_
  refine zz_cons (k' := 51) rfl (zk_iinc X dX12_takesOut_50 (by decide) (by decide) rfl) ?_
  refine zz_cons (k' := 52) rfl (zz_Ok_none _ _) ?_
  refine zz_cons (k' := 53) rfl (zz_Ok_none _ _) ?_
  refine zz_cons (k' := 54) rfl (zk_goto X dX12_takesOut_53 (by decide)) ?_
  refine zz_cons (k' := 55) rfl (zz_Ok_none _ _) ?_
  refine zz_cons (k' := 56) rfl (zz_Ok_none _ _) ?_
  refine zz_cons (k' := 57) rfl (zk_ret X rfl dX12_takesOut_56) ?_
  exact trivial
noncomputable def tX12_putsBack : List zzOp := [
  zo_aload 0 1,
  zo_getf zzSR (zz_kf [10] 38) 4,
  zo_none,
  zo_none,
  zo_pushI 60 6,
  zo_none,
  zo_aload 0 7,
  zo_getf zzSR (zz_kf [10] 42) 10,
  zo_none,
  zo_none,
  zo_ii (fun x y => x * y) 11,
  zo_aload 0 12,
  zo_getf zzSR (zz_kf [10] 37) 15,
  zo_none,
  zo_none,
  zo_aload 0 16,
  zo_getf zzSR (zz_kf [10] 42) 19,
  zo_none,
  zo_none,
  zo_iald zzSR zzSTR 20,
  zo_ii (fun x y => x + y) 21,
  zo_aload 0 22,
  zo_getf zzSR (zz_kf [10] 43) 25,
  zo_none,
  zo_none,
  zo_iast zzSR 26,
  zo_aload 0 27,
  zo_getf zzSR (zz_kf [10] 37) 30,
  zo_none,
  zo_none,
  zo_aload 0 31,
  zo_getf zzSR (zz_kf [10] 42) 34,
  zo_none,
  zo_none,
  zo_dup2 35,
  zo_iald zzSR zzSTR 36,
  zo_pushI 1 37,
  zo_ii (fun x y => x + y) 38,
  zo_iast zzSR 39,
  zo_ret]
set_option maxRecDepth 100000 in
theorem tl_X12_putsBack : ∀ pc, zz_Tl (tX12_putsBack.getD pc zo_none) := by
  refine zz_Tl_mem ?_
  unfold tX12_putsBack
  refine List.forall_mem_cons.mpr ⟨(zo_aload_tl _ _), ?_⟩
  refine List.forall_mem_cons.mpr ⟨(zo_getf_tl _ _ _), ?_⟩
  refine List.forall_mem_cons.mpr ⟨zo_none_tl, ?_⟩
  refine List.forall_mem_cons.mpr ⟨zo_none_tl, ?_⟩
  refine List.forall_mem_cons.mpr ⟨(zo_pushI_tl _ _), ?_⟩
  refine List.forall_mem_cons.mpr ⟨zo_none_tl, ?_⟩
  refine List.forall_mem_cons.mpr ⟨(zo_aload_tl _ _), ?_⟩
  refine List.forall_mem_cons.mpr ⟨(zo_getf_tl _ _ _), ?_⟩
  refine List.forall_mem_cons.mpr ⟨zo_none_tl, ?_⟩
  refine List.forall_mem_cons.mpr ⟨zo_none_tl, ?_⟩
  refine List.forall_mem_cons.mpr ⟨(zo_ii_tl _ _), ?_⟩
  refine List.forall_mem_cons.mpr ⟨(zo_aload_tl _ _), ?_⟩
  refine List.forall_mem_cons.mpr ⟨(zo_getf_tl _ _ _), ?_⟩
  refine List.forall_mem_cons.mpr ⟨zo_none_tl, ?_⟩
  refine List.forall_mem_cons.mpr ⟨zo_none_tl, ?_⟩
  refine List.forall_mem_cons.mpr ⟨(zo_aload_tl _ _), ?_⟩
  refine List.forall_mem_cons.mpr ⟨(zo_getf_tl _ _ _), ?_⟩
  refine List.forall_mem_cons.mpr ⟨zo_none_tl, ?_⟩
  refine List.forall_mem_cons.mpr ⟨zo_none_tl, ?_⟩
  refine List.forall_mem_cons.mpr ⟨(zo_iald_tl _ _ _), ?_⟩
  refine List.forall_mem_cons.mpr ⟨(zo_ii_tl _ _), ?_⟩
  refine List.forall_mem_cons.mpr ⟨(zo_aload_tl _ _), ?_⟩
  refine List.forall_mem_cons.mpr ⟨(zo_getf_tl _ _ _), ?_⟩
  refine List.forall_mem_cons.mpr ⟨zo_none_tl, ?_⟩
  refine List.forall_mem_cons.mpr ⟨zo_none_tl, ?_⟩
  refine List.forall_mem_cons.mpr ⟨(zo_iast_tl _ _), ?_⟩
  refine List.forall_mem_cons.mpr ⟨(zo_aload_tl _ _), ?_⟩
  refine List.forall_mem_cons.mpr ⟨(zo_getf_tl _ _ _), ?_⟩
  refine List.forall_mem_cons.mpr ⟨zo_none_tl, ?_⟩
  refine List.forall_mem_cons.mpr ⟨zo_none_tl, ?_⟩
  refine List.forall_mem_cons.mpr ⟨(zo_aload_tl _ _), ?_⟩
  refine List.forall_mem_cons.mpr ⟨(zo_getf_tl _ _ _), ?_⟩
  refine List.forall_mem_cons.mpr ⟨zo_none_tl, ?_⟩
  refine List.forall_mem_cons.mpr ⟨zo_none_tl, ?_⟩
  refine List.forall_mem_cons.mpr ⟨(zo_dup2_tl _), ?_⟩
  refine List.forall_mem_cons.mpr ⟨(zo_iald_tl _ _ _), ?_⟩
  refine List.forall_mem_cons.mpr ⟨(zo_pushI_tl _ _), ?_⟩
  refine List.forall_mem_cons.mpr ⟨(zo_ii_tl _ _), ?_⟩
  refine List.forall_mem_cons.mpr ⟨(zo_iast_tl _ _), ?_⟩
  refine List.forall_mem_cons.mpr ⟨(zo_ret_tl), ?_⟩
  exact fun _ h => absurd h List.not_mem_nil
noncomputable def fX12_putsBack : zzFn := zz_fn tX12_putsBack 1
set_option maxRecDepth 100000 in
set_option maxHeartbeats 4000000 in
theorem mm_X12_putsBack {l : Launch} {D : va_G} {cA : Nat → ClassId} {ad : Nat → Nat} {Ex : (Nat → Prop) → State → Heap → Prop} (Wd : zzWR l D cA ad Ex) : zz_Cn l D zzCl cA ad zzSR Ex yX12_putsBack cX12_putsBack 1 none 0 0 fX12_putsBack ∧ zz_Cx l D zzCl cA ad zzSR Ex yX12_putsBack cX12_putsBack 1 none 0 0 fX12_putsBack := by
  refine zz_meth (plainFor_of_name (by decide)) Wd.1 Wd.2.1 Wd.2.2 (fun p e R s m args below meth c rr X => ?_)
  unfold tX12_putsBack
  refine zz_cons (k' := 1) rfl (zk_aload_n X dX12_putsBack_0 rfl rfl) ?_
  refine zz_cons (k' := 2) rfl (zk_getf X ff_X12_109 dX12_putsBack_1 rfl) ?_
  refine zz_cons (k' := 3) rfl (zz_Ok_none _ _) ?_
  refine zz_cons (k' := 4) rfl (zz_Ok_none _ _) ?_
  refine zz_cons (k' := 5) rfl (zk_bipush X dX12_putsBack_4 (by decide) rfl) ?_
  refine zz_cons (k' := 6) rfl (zz_Ok_none _ _) ?_
  refine zz_cons (k' := 7) rfl (zk_aload_n X dX12_putsBack_6 rfl rfl) ?_
  refine zz_cons (k' := 8) rfl (zk_getf X ff_X12_193 dX12_putsBack_7 rfl) ?_
  refine zz_cons (k' := 9) rfl (zz_Ok_none _ _) ?_
  refine zz_cons (k' := 10) rfl (zz_Ok_none _ _) ?_
  refine zz_cons (k' := 11) rfl (zk_imul X dX12_putsBack_10 rfl) ?_
  refine zz_cons (k' := 12) rfl (zk_aload_n X dX12_putsBack_11 rfl rfl) ?_
  refine zz_cons (k' := 13) rfl (zk_getf X ff_X12_106 dX12_putsBack_12 rfl) ?_
  refine zz_cons (k' := 14) rfl (zz_Ok_none _ _) ?_
  refine zz_cons (k' := 15) rfl (zz_Ok_none _ _) ?_
  refine zz_cons (k' := 16) rfl (zk_aload_n X dX12_putsBack_15 rfl rfl) ?_
  refine zz_cons (k' := 17) rfl (zk_getf X ff_X12_193 dX12_putsBack_16 rfl) ?_
  refine zz_cons (k' := 18) rfl (zz_Ok_none _ _) ?_
  refine zz_cons (k' := 19) rfl (zz_Ok_none _ _) ?_
  refine zz_cons (k' := 20) rfl (zk_iald X (zzWR_st Wd) dX12_putsBack_19 rfl) ?_
  refine zz_cons (k' := 21) rfl (zk_iadd X dX12_putsBack_20 rfl) ?_
  refine zz_cons (k' := 22) rfl (zk_aload_n X dX12_putsBack_21 rfl rfl) ?_
  refine zz_cons (k' := 23) rfl (zk_getf X ff_X12_243 dX12_putsBack_22 rfl) ?_
  refine zz_cons (k' := 24) rfl (zz_Ok_none _ _) ?_
  refine zz_cons (k' := 25) rfl (zz_Ok_none _ _) ?_
  refine zz_cons (k' := 26) rfl (zk_iast X dX12_putsBack_25 rfl) ?_
  refine zz_cons (k' := 27) rfl (zk_aload_n X dX12_putsBack_26 rfl rfl) ?_
  refine zz_cons (k' := 28) rfl (zk_getf X ff_X12_106 dX12_putsBack_27 rfl) ?_
  refine zz_cons (k' := 29) rfl (zz_Ok_none _ _) ?_
  refine zz_cons (k' := 30) rfl (zz_Ok_none _ _) ?_
  refine zz_cons (k' := 31) rfl (zk_aload_n X dX12_putsBack_30 rfl rfl) ?_
  refine zz_cons (k' := 32) rfl (zk_getf X ff_X12_193 dX12_putsBack_31 rfl) ?_
  refine zz_cons (k' := 33) rfl (zz_Ok_none _ _) ?_
  refine zz_cons (k' := 34) rfl (zz_Ok_none _ _) ?_
  refine zz_cons (k' := 35) rfl (zk_dup2 X dX12_putsBack_34 rfl) ?_
  refine zz_cons (k' := 36) rfl (zk_iald X (zzWR_st Wd) dX12_putsBack_35 rfl) ?_
  refine zz_cons (k' := 37) rfl (zk_iconst X dX12_putsBack_36 (by decide) rfl) ?_
  refine zz_cons (k' := 38) rfl (zk_iadd X dX12_putsBack_37 rfl) ?_
  refine zz_cons (k' := 39) rfl (zk_iast X dX12_putsBack_38 rfl) ?_
  refine zz_cons (k' := 40) rfl (zk_ret X rfl dX12_putsBack_39) ?_
  exact trivial
noncomputable def tX12_works : List zzOp := [
  zo_pushI 60 2,
  zo_none,
  zo_aload 0 3,
  zo_getf zzSR (zz_kf [10] 42) 6,
  zo_none,
  zo_none,
  zo_ii (fun x y => x * y) 7,
  zo_istore 1 8,
  zo_iload 1 9,
  zo_pushI 60 11,
  zo_none,
  zo_aload 0 12,
  zo_getf zzSR (zz_kf [10] 42) 15,
  zo_none,
  zo_none,
  zo_ii (fun x y => x * y) 16,
  zo_aload 0 17,
  zo_getf zzSR (zz_kf [10] 37) 20,
  zo_none,
  zo_none,
  zo_aload 0 21,
  zo_getf zzSR (zz_kf [10] 42) 24,
  zo_none,
  zo_none,
  zo_iald zzSR zzSTR 25,
  zo_ii (fun x y => x + y) 26,
  zo_icmp (fun x y => decide (y ≤ x)) 61 29,
  zo_none,
  zo_none,
  zo_aload 0 30,
  zo_getf zzSR (zz_kf [10] 40) 33,
  zo_none,
  zo_none,
  zo_pushI 60 35,
  zo_none,
  zo_aload 0 36,
  zo_getf zzSR (zz_kf [10] 42) 39,
  zo_none,
  zo_none,
  zo_ii (fun x y => x * y) 40,
  zo_aload 0 41,
  zo_getf zzSR (zz_kf [10] 38) 44,
  zo_none,
  zo_none,
  zo_iload 1 45,
  zo_iald zzSR zzSTR 46,
  zo_ii (fun x y => x + y) 47,
  zo_iald zzSR zzSTR 48,
  zo_aload 0 49,
  zo_getf zzSR (zz_kf [10] 48) 52,
  zo_none,
  zo_none,
  zo_icmp (fun x y => decide (x ≤ y)) 61 55,
  zo_none,
  zo_none,
  zo_iinc 1 1 58,
  zo_none,
  zo_none,
  zo_goto 8,
  zo_none,
  zo_none,
  zo_iload 1 62,
  zo_pushI 60 64,
  zo_none,
  zo_aload 0 65,
  zo_getf zzSR (zz_kf [10] 42) 68,
  zo_none,
  zo_none,
  zo_ii (fun x y => x * y) 69,
  zo_aload 0 70,
  zo_getf zzSR (zz_kf [10] 37) 73,
  zo_none,
  zo_none,
  zo_aload 0 74,
  zo_getf zzSR (zz_kf [10] 42) 77,
  zo_none,
  zo_none,
  zo_iald zzSR zzSTR 78,
  zo_ii (fun x y => x + y) 79,
  zo_icmp (fun x y => decide (¬ x = y)) 84 82,
  zo_none,
  zo_none,
  zo_pushI 0 83,
  zo_iret false,
  zo_aload 0 85,
  zo_aload 0 86,
  zo_getf zzSR (zz_kf [10] 38) 89,
  zo_none,
  zo_none,
  zo_iload 1 90,
  zo_iald zzSR zzSTR 91,
  zo_putf zzSR (zz_kf [10] 43) false 94,
  zo_none,
  zo_none,
  zo_pushI 60 96,
  zo_none,
  zo_aload 0 97,
  zo_getf zzSR (zz_kf [10] 42) 100,
  zo_none,
  zo_none,
  zo_ii (fun x y => x * y) 101,
  zo_aload 0 102,
  zo_getf zzSR (zz_kf [10] 43) 105,
  zo_none,
  zo_none,
  zo_ii (fun x y => x + y) 106,
  zo_istore 2 107,
  zo_aload 0 108,
  zo_iload 1 109,
  zo_callv zzSR (zz_cl [(10, fX12_takesOut)]) 1 112,
  zo_none,
  zo_none,
  zo_aload 0 113,
  zo_getf zzSR (zz_kf [10] 41) 116,
  zo_none,
  zo_none,
  zo_iload 2 117,
  zo_iald zzSR zzSTR 118,
  zo_aload 0 119,
  zo_getf zzSR (zz_kf [10] 32) 122,
  zo_none,
  zo_none,
  zo_aload 0 123,
  zo_getf zzSR (zz_kf [10] 42) 126,
  zo_none,
  zo_none,
  zo_iald zzSR zzSTR 127,
  zo_icmp (fun x y => decide (y < x)) 137 130,
  zo_none,
  zo_none,
  zo_aload 0 131,
  zo_callv zzSR (zz_cl [(10, fX12_isEarly)]) 0 134,
  zo_none,
  zo_none,
  zo_if (fun x => decide (x = 0)) 188 137,
  zo_none,
  zo_none,
  zo_aload 0 138,
  zo_getf zzSR (zz_kf [10] 40) 141,
  zo_none,
  zo_none,
  zo_iload 2 142,
  zo_aload 0 143,
  zo_getf zzSR (zz_kf [10] 41) 146,
  zo_none,
  zo_none,
  zo_iload 2 147,
  zo_iald zzSR zzSTR 148,
  zo_aload 0 149,
  zo_getf zzSR (zz_kf [10] 32) 152,
  zo_none,
  zo_none,
  zo_aload 0 153,
  zo_getf zzSR (zz_kf [10] 42) 156,
  zo_none,
  zo_none,
  zo_iald zzSR zzSTR 157,
  zo_icmp (fun x y => decide (x ≤ y)) 169 160,
  zo_none,
  zo_none,
  zo_aload 0 161,
  zo_getf zzSR (zz_kf [10] 40) 164,
  zo_none,
  zo_none,
  zo_iload 2 165,
  zo_iald zzSR zzSTR 166,
  zo_goto 181,
  zo_none,
  zo_none,
  zo_aload 0 170,
  zo_getf zzSR (zz_kf [10] 13) 173,
  zo_none,
  zo_none,
  zo_aload 0 174,
  zo_getf zzSR (zz_kf [10] 43) 177,
  zo_none,
  zo_none,
  zo_iald zzSR zzSTR 178,
  zo_pushI 10 180,
  zo_none,
  zo_ii (fun x y => x + y) 181,
  zo_iast zzSR 182,
  zo_aload 0 183,
  zo_callv zzSR (zz_cl [(10, fX12_putsBack)]) 0 186,
  zo_none,
  zo_none,
  zo_pushI 2 187,
  zo_iret false,
  zo_aload 0 189,
  zo_callv zzSR (zz_cl [(10, fX12_does)]) 0 192,
  zo_none,
  zo_none,
  zo_if (fun x => decide (x = 0)) 204 195,
  zo_none,
  zo_none,
  zo_aload 0 196,
  zo_getf zzSR (zz_kf [10] 39) 199,
  zo_none,
  zo_none,
  zo_iload 2 200,
  zo_pushI 0 201,
  zo_iast zzSR 202,
  zo_pushI 1 203,
  zo_iret false,
  zo_aload 0 205,
  zo_getf zzSR (zz_kf [10] 40) 208,
  zo_none,
  zo_none,
  zo_iload 2 209,
  zo_aload 0 210,
  zo_getf zzSR (zz_kf [10] 48) 213,
  zo_none,
  zo_none,
  zo_aload 0 214,
  zo_getf zzSR (zz_kf [10] 39) 217,
  zo_none,
  zo_none,
  zo_iload 2 218,
  zo_iald zzSR zzSTR 219,
  zo_pushI 3 220,
  zo_icmp (fun x y => decide (x ≤ y)) 228 223,
  zo_none,
  zo_none,
  zo_pushI 16 225,
  zo_none,
  zo_goto 236,
  zo_none,
  zo_none,
  zo_pushI 1 229,
  zo_aload 0 230,
  zo_getf zzSR (zz_kf [10] 39) 233,
  zo_none,
  zo_none,
  zo_iload 2 234,
  zo_iald zzSR zzSTR 235,
  zo_ii (fun x y => x <<< (y &&& 31)) 236,
  zo_ii (fun x y => x + y) 237,
  zo_iast zzSR 238,
  zo_aload 0 239,
  zo_getf zzSR (zz_kf [10] 39) 242,
  zo_none,
  zo_none,
  zo_iload 2 243,
  zo_dup2 244,
  zo_iald zzSR zzSTR 245,
  zo_pushI 1 246,
  zo_ii (fun x y => x + y) 247,
  zo_iast zzSR 248,
  zo_aload 0 249,
  zo_callv zzSR (zz_cl [(10, fX12_putsBack)]) 0 252,
  zo_none,
  zo_none,
  zo_pushI 3 253,
  zo_iret false]
set_option maxRecDepth 100000 in
theorem tl_X12_works : ∀ pc, zz_Tl (tX12_works.getD pc zo_none) := by
  refine zz_Tl_mem ?_
  unfold tX12_works
  refine List.forall_mem_cons.mpr ⟨(zo_pushI_tl _ _), ?_⟩
  refine List.forall_mem_cons.mpr ⟨zo_none_tl, ?_⟩
  refine List.forall_mem_cons.mpr ⟨(zo_aload_tl _ _), ?_⟩
  refine List.forall_mem_cons.mpr ⟨(zo_getf_tl _ _ _), ?_⟩
  refine List.forall_mem_cons.mpr ⟨zo_none_tl, ?_⟩
  refine List.forall_mem_cons.mpr ⟨zo_none_tl, ?_⟩
  refine List.forall_mem_cons.mpr ⟨(zo_ii_tl _ _), ?_⟩
  refine List.forall_mem_cons.mpr ⟨(zo_istore_tl _ _), ?_⟩
  refine List.forall_mem_cons.mpr ⟨(zo_iload_tl _ _), ?_⟩
  refine List.forall_mem_cons.mpr ⟨(zo_pushI_tl _ _), ?_⟩
  refine List.forall_mem_cons.mpr ⟨zo_none_tl, ?_⟩
  refine List.forall_mem_cons.mpr ⟨(zo_aload_tl _ _), ?_⟩
  refine List.forall_mem_cons.mpr ⟨(zo_getf_tl _ _ _), ?_⟩
  refine List.forall_mem_cons.mpr ⟨zo_none_tl, ?_⟩
  refine List.forall_mem_cons.mpr ⟨zo_none_tl, ?_⟩
  refine List.forall_mem_cons.mpr ⟨(zo_ii_tl _ _), ?_⟩
  refine List.forall_mem_cons.mpr ⟨(zo_aload_tl _ _), ?_⟩
  refine List.forall_mem_cons.mpr ⟨(zo_getf_tl _ _ _), ?_⟩
  refine List.forall_mem_cons.mpr ⟨zo_none_tl, ?_⟩
  refine List.forall_mem_cons.mpr ⟨zo_none_tl, ?_⟩
  refine List.forall_mem_cons.mpr ⟨(zo_aload_tl _ _), ?_⟩
  refine List.forall_mem_cons.mpr ⟨(zo_getf_tl _ _ _), ?_⟩
  refine List.forall_mem_cons.mpr ⟨zo_none_tl, ?_⟩
  refine List.forall_mem_cons.mpr ⟨zo_none_tl, ?_⟩
  refine List.forall_mem_cons.mpr ⟨(zo_iald_tl _ _ _), ?_⟩
  refine List.forall_mem_cons.mpr ⟨(zo_ii_tl _ _), ?_⟩
  refine List.forall_mem_cons.mpr ⟨(zo_icmp_tl _ _ _), ?_⟩
  refine List.forall_mem_cons.mpr ⟨zo_none_tl, ?_⟩
  refine List.forall_mem_cons.mpr ⟨zo_none_tl, ?_⟩
  refine List.forall_mem_cons.mpr ⟨(zo_aload_tl _ _), ?_⟩
  refine List.forall_mem_cons.mpr ⟨(zo_getf_tl _ _ _), ?_⟩
  refine List.forall_mem_cons.mpr ⟨zo_none_tl, ?_⟩
  refine List.forall_mem_cons.mpr ⟨zo_none_tl, ?_⟩
  refine List.forall_mem_cons.mpr ⟨(zo_pushI_tl _ _), ?_⟩
  refine List.forall_mem_cons.mpr ⟨zo_none_tl, ?_⟩
  refine List.forall_mem_cons.mpr ⟨(zo_aload_tl _ _), ?_⟩
  refine List.forall_mem_cons.mpr ⟨(zo_getf_tl _ _ _), ?_⟩
  refine List.forall_mem_cons.mpr ⟨zo_none_tl, ?_⟩
  refine List.forall_mem_cons.mpr ⟨zo_none_tl, ?_⟩
  refine List.forall_mem_cons.mpr ⟨(zo_ii_tl _ _), ?_⟩
  refine List.forall_mem_cons.mpr ⟨(zo_aload_tl _ _), ?_⟩
  refine List.forall_mem_cons.mpr ⟨(zo_getf_tl _ _ _), ?_⟩
  refine List.forall_mem_cons.mpr ⟨zo_none_tl, ?_⟩
  refine List.forall_mem_cons.mpr ⟨zo_none_tl, ?_⟩
  refine List.forall_mem_cons.mpr ⟨(zo_iload_tl _ _), ?_⟩
  refine List.forall_mem_cons.mpr ⟨(zo_iald_tl _ _ _), ?_⟩
  refine List.forall_mem_cons.mpr ⟨(zo_ii_tl _ _), ?_⟩
  refine List.forall_mem_cons.mpr ⟨(zo_iald_tl _ _ _), ?_⟩
  refine List.forall_mem_cons.mpr ⟨(zo_aload_tl _ _), ?_⟩
  refine List.forall_mem_cons.mpr ⟨(zo_getf_tl _ _ _), ?_⟩
  refine List.forall_mem_cons.mpr ⟨zo_none_tl, ?_⟩
  refine List.forall_mem_cons.mpr ⟨zo_none_tl, ?_⟩
  refine List.forall_mem_cons.mpr ⟨(zo_icmp_tl _ _ _), ?_⟩
  refine List.forall_mem_cons.mpr ⟨zo_none_tl, ?_⟩
  refine List.forall_mem_cons.mpr ⟨zo_none_tl, ?_⟩
  refine List.forall_mem_cons.mpr ⟨(zo_iinc_tl _ _ _), ?_⟩
  refine List.forall_mem_cons.mpr ⟨zo_none_tl, ?_⟩
  refine List.forall_mem_cons.mpr ⟨zo_none_tl, ?_⟩
  refine List.forall_mem_cons.mpr ⟨(zo_goto_tl _), ?_⟩
  refine List.forall_mem_cons.mpr ⟨zo_none_tl, ?_⟩
  refine List.forall_mem_cons.mpr ⟨zo_none_tl, ?_⟩
  refine List.forall_mem_cons.mpr ⟨(zo_iload_tl _ _), ?_⟩
  refine List.forall_mem_cons.mpr ⟨(zo_pushI_tl _ _), ?_⟩
  refine List.forall_mem_cons.mpr ⟨zo_none_tl, ?_⟩
  refine List.forall_mem_cons.mpr ⟨(zo_aload_tl _ _), ?_⟩
  refine List.forall_mem_cons.mpr ⟨(zo_getf_tl _ _ _), ?_⟩
  refine List.forall_mem_cons.mpr ⟨zo_none_tl, ?_⟩
  refine List.forall_mem_cons.mpr ⟨zo_none_tl, ?_⟩
  refine List.forall_mem_cons.mpr ⟨(zo_ii_tl _ _), ?_⟩
  refine List.forall_mem_cons.mpr ⟨(zo_aload_tl _ _), ?_⟩
  refine List.forall_mem_cons.mpr ⟨(zo_getf_tl _ _ _), ?_⟩
  refine List.forall_mem_cons.mpr ⟨zo_none_tl, ?_⟩
  refine List.forall_mem_cons.mpr ⟨zo_none_tl, ?_⟩
  refine List.forall_mem_cons.mpr ⟨(zo_aload_tl _ _), ?_⟩
  refine List.forall_mem_cons.mpr ⟨(zo_getf_tl _ _ _), ?_⟩
  refine List.forall_mem_cons.mpr ⟨zo_none_tl, ?_⟩
  refine List.forall_mem_cons.mpr ⟨zo_none_tl, ?_⟩
  refine List.forall_mem_cons.mpr ⟨(zo_iald_tl _ _ _), ?_⟩
  refine List.forall_mem_cons.mpr ⟨(zo_ii_tl _ _), ?_⟩
  refine List.forall_mem_cons.mpr ⟨(zo_icmp_tl _ _ _), ?_⟩
  refine List.forall_mem_cons.mpr ⟨zo_none_tl, ?_⟩
  refine List.forall_mem_cons.mpr ⟨zo_none_tl, ?_⟩
  refine List.forall_mem_cons.mpr ⟨(zo_pushI_tl _ _), ?_⟩
  refine List.forall_mem_cons.mpr ⟨(zo_iret_tl _), ?_⟩
  refine List.forall_mem_cons.mpr ⟨(zo_aload_tl _ _), ?_⟩
  refine List.forall_mem_cons.mpr ⟨(zo_aload_tl _ _), ?_⟩
  refine List.forall_mem_cons.mpr ⟨(zo_getf_tl _ _ _), ?_⟩
  refine List.forall_mem_cons.mpr ⟨zo_none_tl, ?_⟩
  refine List.forall_mem_cons.mpr ⟨zo_none_tl, ?_⟩
  refine List.forall_mem_cons.mpr ⟨(zo_iload_tl _ _), ?_⟩
  refine List.forall_mem_cons.mpr ⟨(zo_iald_tl _ _ _), ?_⟩
  refine List.forall_mem_cons.mpr ⟨(zo_putf_tl _ _ _ _), ?_⟩
  refine List.forall_mem_cons.mpr ⟨zo_none_tl, ?_⟩
  refine List.forall_mem_cons.mpr ⟨zo_none_tl, ?_⟩
  refine List.forall_mem_cons.mpr ⟨(zo_pushI_tl _ _), ?_⟩
  refine List.forall_mem_cons.mpr ⟨zo_none_tl, ?_⟩
  refine List.forall_mem_cons.mpr ⟨(zo_aload_tl _ _), ?_⟩
  refine List.forall_mem_cons.mpr ⟨(zo_getf_tl _ _ _), ?_⟩
  refine List.forall_mem_cons.mpr ⟨zo_none_tl, ?_⟩
  refine List.forall_mem_cons.mpr ⟨zo_none_tl, ?_⟩
  refine List.forall_mem_cons.mpr ⟨(zo_ii_tl _ _), ?_⟩
  refine List.forall_mem_cons.mpr ⟨(zo_aload_tl _ _), ?_⟩
  refine List.forall_mem_cons.mpr ⟨(zo_getf_tl _ _ _), ?_⟩
  refine List.forall_mem_cons.mpr ⟨zo_none_tl, ?_⟩
  refine List.forall_mem_cons.mpr ⟨zo_none_tl, ?_⟩
  refine List.forall_mem_cons.mpr ⟨(zo_ii_tl _ _), ?_⟩
  refine List.forall_mem_cons.mpr ⟨(zo_istore_tl _ _), ?_⟩
  refine List.forall_mem_cons.mpr ⟨(zo_aload_tl _ _), ?_⟩
  refine List.forall_mem_cons.mpr ⟨(zo_iload_tl _ _), ?_⟩
  refine List.forall_mem_cons.mpr ⟨(zo_callv_tl _ _ _ _), ?_⟩
  refine List.forall_mem_cons.mpr ⟨zo_none_tl, ?_⟩
  refine List.forall_mem_cons.mpr ⟨zo_none_tl, ?_⟩
  refine List.forall_mem_cons.mpr ⟨(zo_aload_tl _ _), ?_⟩
  refine List.forall_mem_cons.mpr ⟨(zo_getf_tl _ _ _), ?_⟩
  refine List.forall_mem_cons.mpr ⟨zo_none_tl, ?_⟩
  refine List.forall_mem_cons.mpr ⟨zo_none_tl, ?_⟩
  refine List.forall_mem_cons.mpr ⟨(zo_iload_tl _ _), ?_⟩
  refine List.forall_mem_cons.mpr ⟨(zo_iald_tl _ _ _), ?_⟩
  refine List.forall_mem_cons.mpr ⟨(zo_aload_tl _ _), ?_⟩
  refine List.forall_mem_cons.mpr ⟨(zo_getf_tl _ _ _), ?_⟩
  refine List.forall_mem_cons.mpr ⟨zo_none_tl, ?_⟩
  refine List.forall_mem_cons.mpr ⟨zo_none_tl, ?_⟩
  refine List.forall_mem_cons.mpr ⟨(zo_aload_tl _ _), ?_⟩
  refine List.forall_mem_cons.mpr ⟨(zo_getf_tl _ _ _), ?_⟩
  refine List.forall_mem_cons.mpr ⟨zo_none_tl, ?_⟩
  refine List.forall_mem_cons.mpr ⟨zo_none_tl, ?_⟩
  refine List.forall_mem_cons.mpr ⟨(zo_iald_tl _ _ _), ?_⟩
  refine List.forall_mem_cons.mpr ⟨(zo_icmp_tl _ _ _), ?_⟩
  refine List.forall_mem_cons.mpr ⟨zo_none_tl, ?_⟩
  refine List.forall_mem_cons.mpr ⟨zo_none_tl, ?_⟩
  refine List.forall_mem_cons.mpr ⟨(zo_aload_tl _ _), ?_⟩
  refine List.forall_mem_cons.mpr ⟨(zo_callv_tl _ _ _ _), ?_⟩
  refine List.forall_mem_cons.mpr ⟨zo_none_tl, ?_⟩
  refine List.forall_mem_cons.mpr ⟨zo_none_tl, ?_⟩
  refine List.forall_mem_cons.mpr ⟨(zo_if_tl _ _ _), ?_⟩
  refine List.forall_mem_cons.mpr ⟨zo_none_tl, ?_⟩
  refine List.forall_mem_cons.mpr ⟨zo_none_tl, ?_⟩
  refine List.forall_mem_cons.mpr ⟨(zo_aload_tl _ _), ?_⟩
  refine List.forall_mem_cons.mpr ⟨(zo_getf_tl _ _ _), ?_⟩
  refine List.forall_mem_cons.mpr ⟨zo_none_tl, ?_⟩
  refine List.forall_mem_cons.mpr ⟨zo_none_tl, ?_⟩
  refine List.forall_mem_cons.mpr ⟨(zo_iload_tl _ _), ?_⟩
  refine List.forall_mem_cons.mpr ⟨(zo_aload_tl _ _), ?_⟩
  refine List.forall_mem_cons.mpr ⟨(zo_getf_tl _ _ _), ?_⟩
  refine List.forall_mem_cons.mpr ⟨zo_none_tl, ?_⟩
  refine List.forall_mem_cons.mpr ⟨zo_none_tl, ?_⟩
  refine List.forall_mem_cons.mpr ⟨(zo_iload_tl _ _), ?_⟩
  refine List.forall_mem_cons.mpr ⟨(zo_iald_tl _ _ _), ?_⟩
  refine List.forall_mem_cons.mpr ⟨(zo_aload_tl _ _), ?_⟩
  refine List.forall_mem_cons.mpr ⟨(zo_getf_tl _ _ _), ?_⟩
  refine List.forall_mem_cons.mpr ⟨zo_none_tl, ?_⟩
  refine List.forall_mem_cons.mpr ⟨zo_none_tl, ?_⟩
  refine List.forall_mem_cons.mpr ⟨(zo_aload_tl _ _), ?_⟩
  refine List.forall_mem_cons.mpr ⟨(zo_getf_tl _ _ _), ?_⟩
  refine List.forall_mem_cons.mpr ⟨zo_none_tl, ?_⟩
  refine List.forall_mem_cons.mpr ⟨zo_none_tl, ?_⟩
  refine List.forall_mem_cons.mpr ⟨(zo_iald_tl _ _ _), ?_⟩
  refine List.forall_mem_cons.mpr ⟨(zo_icmp_tl _ _ _), ?_⟩
  refine List.forall_mem_cons.mpr ⟨zo_none_tl, ?_⟩
  refine List.forall_mem_cons.mpr ⟨zo_none_tl, ?_⟩
  refine List.forall_mem_cons.mpr ⟨(zo_aload_tl _ _), ?_⟩
  refine List.forall_mem_cons.mpr ⟨(zo_getf_tl _ _ _), ?_⟩
  refine List.forall_mem_cons.mpr ⟨zo_none_tl, ?_⟩
  refine List.forall_mem_cons.mpr ⟨zo_none_tl, ?_⟩
  refine List.forall_mem_cons.mpr ⟨(zo_iload_tl _ _), ?_⟩
  refine List.forall_mem_cons.mpr ⟨(zo_iald_tl _ _ _), ?_⟩
  refine List.forall_mem_cons.mpr ⟨(zo_goto_tl _), ?_⟩
  refine List.forall_mem_cons.mpr ⟨zo_none_tl, ?_⟩
  refine List.forall_mem_cons.mpr ⟨zo_none_tl, ?_⟩
  refine List.forall_mem_cons.mpr ⟨(zo_aload_tl _ _), ?_⟩
  refine List.forall_mem_cons.mpr ⟨(zo_getf_tl _ _ _), ?_⟩
  refine List.forall_mem_cons.mpr ⟨zo_none_tl, ?_⟩
  refine List.forall_mem_cons.mpr ⟨zo_none_tl, ?_⟩
  refine List.forall_mem_cons.mpr ⟨(zo_aload_tl _ _), ?_⟩
  refine List.forall_mem_cons.mpr ⟨(zo_getf_tl _ _ _), ?_⟩
  refine List.forall_mem_cons.mpr ⟨zo_none_tl, ?_⟩
  refine List.forall_mem_cons.mpr ⟨zo_none_tl, ?_⟩
  refine List.forall_mem_cons.mpr ⟨(zo_iald_tl _ _ _), ?_⟩
  refine List.forall_mem_cons.mpr ⟨(zo_pushI_tl _ _), ?_⟩
  refine List.forall_mem_cons.mpr ⟨zo_none_tl, ?_⟩
  refine List.forall_mem_cons.mpr ⟨(zo_ii_tl _ _), ?_⟩
  refine List.forall_mem_cons.mpr ⟨(zo_iast_tl _ _), ?_⟩
  refine List.forall_mem_cons.mpr ⟨(zo_aload_tl _ _), ?_⟩
  refine List.forall_mem_cons.mpr ⟨(zo_callv_tl _ _ _ _), ?_⟩
  refine List.forall_mem_cons.mpr ⟨zo_none_tl, ?_⟩
  refine List.forall_mem_cons.mpr ⟨zo_none_tl, ?_⟩
  refine List.forall_mem_cons.mpr ⟨(zo_pushI_tl _ _), ?_⟩
  refine List.forall_mem_cons.mpr ⟨(zo_iret_tl _), ?_⟩
  refine List.forall_mem_cons.mpr ⟨(zo_aload_tl _ _), ?_⟩
  refine List.forall_mem_cons.mpr ⟨(zo_callv_tl _ _ _ _), ?_⟩
  refine List.forall_mem_cons.mpr ⟨zo_none_tl, ?_⟩
  refine List.forall_mem_cons.mpr ⟨zo_none_tl, ?_⟩
  refine List.forall_mem_cons.mpr ⟨(zo_if_tl _ _ _), ?_⟩
  refine List.forall_mem_cons.mpr ⟨zo_none_tl, ?_⟩
  refine List.forall_mem_cons.mpr ⟨zo_none_tl, ?_⟩
  refine List.forall_mem_cons.mpr ⟨(zo_aload_tl _ _), ?_⟩
  refine List.forall_mem_cons.mpr ⟨(zo_getf_tl _ _ _), ?_⟩
  refine List.forall_mem_cons.mpr ⟨zo_none_tl, ?_⟩
  refine List.forall_mem_cons.mpr ⟨zo_none_tl, ?_⟩
  refine List.forall_mem_cons.mpr ⟨(zo_iload_tl _ _), ?_⟩
  refine List.forall_mem_cons.mpr ⟨(zo_pushI_tl _ _), ?_⟩
  refine List.forall_mem_cons.mpr ⟨(zo_iast_tl _ _), ?_⟩
  refine List.forall_mem_cons.mpr ⟨(zo_pushI_tl _ _), ?_⟩
  refine List.forall_mem_cons.mpr ⟨(zo_iret_tl _), ?_⟩
  refine List.forall_mem_cons.mpr ⟨(zo_aload_tl _ _), ?_⟩
  refine List.forall_mem_cons.mpr ⟨(zo_getf_tl _ _ _), ?_⟩
  refine List.forall_mem_cons.mpr ⟨zo_none_tl, ?_⟩
  refine List.forall_mem_cons.mpr ⟨zo_none_tl, ?_⟩
  refine List.forall_mem_cons.mpr ⟨(zo_iload_tl _ _), ?_⟩
  refine List.forall_mem_cons.mpr ⟨(zo_aload_tl _ _), ?_⟩
  refine List.forall_mem_cons.mpr ⟨(zo_getf_tl _ _ _), ?_⟩
  refine List.forall_mem_cons.mpr ⟨zo_none_tl, ?_⟩
  refine List.forall_mem_cons.mpr ⟨zo_none_tl, ?_⟩
  refine List.forall_mem_cons.mpr ⟨(zo_aload_tl _ _), ?_⟩
  refine List.forall_mem_cons.mpr ⟨(zo_getf_tl _ _ _), ?_⟩
  refine List.forall_mem_cons.mpr ⟨zo_none_tl, ?_⟩
  refine List.forall_mem_cons.mpr ⟨zo_none_tl, ?_⟩
  refine List.forall_mem_cons.mpr ⟨(zo_iload_tl _ _), ?_⟩
  refine List.forall_mem_cons.mpr ⟨(zo_iald_tl _ _ _), ?_⟩
  refine List.forall_mem_cons.mpr ⟨(zo_pushI_tl _ _), ?_⟩
  refine List.forall_mem_cons.mpr ⟨(zo_icmp_tl _ _ _), ?_⟩
  refine List.forall_mem_cons.mpr ⟨zo_none_tl, ?_⟩
  refine List.forall_mem_cons.mpr ⟨zo_none_tl, ?_⟩
  refine List.forall_mem_cons.mpr ⟨(zo_pushI_tl _ _), ?_⟩
  refine List.forall_mem_cons.mpr ⟨zo_none_tl, ?_⟩
  refine List.forall_mem_cons.mpr ⟨(zo_goto_tl _), ?_⟩
  refine List.forall_mem_cons.mpr ⟨zo_none_tl, ?_⟩
  refine List.forall_mem_cons.mpr ⟨zo_none_tl, ?_⟩
  refine List.forall_mem_cons.mpr ⟨(zo_pushI_tl _ _), ?_⟩
  refine List.forall_mem_cons.mpr ⟨(zo_aload_tl _ _), ?_⟩
  refine List.forall_mem_cons.mpr ⟨(zo_getf_tl _ _ _), ?_⟩
  refine List.forall_mem_cons.mpr ⟨zo_none_tl, ?_⟩
  refine List.forall_mem_cons.mpr ⟨zo_none_tl, ?_⟩
  refine List.forall_mem_cons.mpr ⟨(zo_iload_tl _ _), ?_⟩
  refine List.forall_mem_cons.mpr ⟨(zo_iald_tl _ _ _), ?_⟩
  refine List.forall_mem_cons.mpr ⟨(zo_ii_tl _ _), ?_⟩
  refine List.forall_mem_cons.mpr ⟨(zo_ii_tl _ _), ?_⟩
  refine List.forall_mem_cons.mpr ⟨(zo_iast_tl _ _), ?_⟩
  refine List.forall_mem_cons.mpr ⟨(zo_aload_tl _ _), ?_⟩
  refine List.forall_mem_cons.mpr ⟨(zo_getf_tl _ _ _), ?_⟩
  refine List.forall_mem_cons.mpr ⟨zo_none_tl, ?_⟩
  refine List.forall_mem_cons.mpr ⟨zo_none_tl, ?_⟩
  refine List.forall_mem_cons.mpr ⟨(zo_iload_tl _ _), ?_⟩
  refine List.forall_mem_cons.mpr ⟨(zo_dup2_tl _), ?_⟩
  refine List.forall_mem_cons.mpr ⟨(zo_iald_tl _ _ _), ?_⟩
  refine List.forall_mem_cons.mpr ⟨(zo_pushI_tl _ _), ?_⟩
  refine List.forall_mem_cons.mpr ⟨(zo_ii_tl _ _), ?_⟩
  refine List.forall_mem_cons.mpr ⟨(zo_iast_tl _ _), ?_⟩
  refine List.forall_mem_cons.mpr ⟨(zo_aload_tl _ _), ?_⟩
  refine List.forall_mem_cons.mpr ⟨(zo_callv_tl _ _ _ _), ?_⟩
  refine List.forall_mem_cons.mpr ⟨zo_none_tl, ?_⟩
  refine List.forall_mem_cons.mpr ⟨zo_none_tl, ?_⟩
  refine List.forall_mem_cons.mpr ⟨(zo_pushI_tl _ _), ?_⟩
  refine List.forall_mem_cons.mpr ⟨(zo_iret_tl _), ?_⟩
  exact fun _ h => absurd h List.not_mem_nil
noncomputable def fX12_works : zzFn := zz_fn tX12_works 3
set_option maxRecDepth 100000 in
set_option maxHeartbeats 4000000 in
theorem mm_X12_works {l : Launch} {D : va_G} {cA : Nat → ClassId} {ad : Nat → Nat} {Ex : (Nat → Prop) → State → Heap → Prop} (Wd : zzWR l D cA ad Ex) : zz_Cn l D zzCl cA ad zzSR Ex yX12_works cX12_works 3 (some .int) 8 186 fX12_works ∧ zz_Cx l D zzCl cA ad zzSR Ex yX12_works cX12_works 3 (some .int) 8 186 fX12_works := by
  refine zz_meth (plainFor_of_name (by decide)) Wd.1 Wd.2.1 Wd.2.2 (fun p e R s m args below meth c rr X => ?_)
  unfold tX12_works
  refine zz_cons (k' := 1) rfl (zk_bipush X dX12_works_0 (by decide) rfl) ?_
  refine zz_cons (k' := 2) rfl (zz_Ok_none _ _) ?_
  refine zz_cons (k' := 3) rfl (zk_aload_n X dX12_works_2 rfl rfl) ?_
  refine zz_cons (k' := 4) rfl (zk_getf X ff_X12_193 dX12_works_3 rfl) ?_
  refine zz_cons (k' := 5) rfl (zz_Ok_none _ _) ?_
  refine zz_cons (k' := 6) rfl (zz_Ok_none _ _) ?_
  refine zz_cons (k' := 7) rfl (zk_imul X dX12_works_6 rfl) ?_
  refine zz_cons (k' := 8) rfl (zk_istore_n X dX12_works_7 rfl (by decide) rfl) ?_
  refine zz_cons (k' := 9) rfl (zk_iload_n X dX12_works_8 rfl rfl) ?_
  refine zz_cons (k' := 10) rfl (zk_bipush X dX12_works_9 (by decide) rfl) ?_
  refine zz_cons (k' := 11) rfl (zz_Ok_none _ _) ?_
  refine zz_cons (k' := 12) rfl (zk_aload_n X dX12_works_11 rfl rfl) ?_
  refine zz_cons (k' := 13) rfl (zk_getf X ff_X12_193 dX12_works_12 rfl) ?_
  refine zz_cons (k' := 14) rfl (zz_Ok_none _ _) ?_
  refine zz_cons (k' := 15) rfl (zz_Ok_none _ _) ?_
  refine zz_cons (k' := 16) rfl (zk_imul X dX12_works_15 rfl) ?_
  refine zz_cons (k' := 17) rfl (zk_aload_n X dX12_works_16 rfl rfl) ?_
  refine zz_cons (k' := 18) rfl (zk_getf X ff_X12_106 dX12_works_17 rfl) ?_
  refine zz_cons (k' := 19) rfl (zz_Ok_none _ _) ?_
  refine zz_cons (k' := 20) rfl (zz_Ok_none _ _) ?_
  refine zz_cons (k' := 21) rfl (zk_aload_n X dX12_works_20 rfl rfl) ?_
  refine zz_cons (k' := 22) rfl (zk_getf X ff_X12_193 dX12_works_21 rfl) ?_
  refine zz_cons (k' := 23) rfl (zz_Ok_none _ _) ?_
  refine zz_cons (k' := 24) rfl (zz_Ok_none _ _) ?_
  refine zz_cons (k' := 25) rfl (zk_iald X (zzWR_st Wd) dX12_works_24 rfl) ?_
  refine zz_cons (k' := 26) rfl (zk_iadd X dX12_works_25 rfl) ?_
  refine zz_cons (k' := 27) rfl (zk_icmp_ge X dX12_works_26 (by decide) rfl) ?_
  refine zz_cons (k' := 28) rfl (zz_Ok_none _ _) ?_
  refine zz_cons (k' := 29) rfl (zz_Ok_none _ _) ?_
  refine zz_cons (k' := 30) rfl (zk_aload_n X dX12_works_29 rfl rfl) ?_
  refine zz_cons (k' := 31) rfl (zk_getf X ff_X12_115 dX12_works_30 rfl) ?_
  refine zz_cons (k' := 32) rfl (zz_Ok_none _ _) ?_
  refine zz_cons (k' := 33) rfl (zz_Ok_none _ _) ?_
  refine zz_cons (k' := 34) rfl (zk_bipush X dX12_works_33 (by decide) rfl) ?_
  refine zz_cons (k' := 35) rfl (zz_Ok_none _ _) ?_
  refine zz_cons (k' := 36) rfl (zk_aload_n X dX12_works_35 rfl rfl) ?_
  refine zz_cons (k' := 37) rfl (zk_getf X ff_X12_193 dX12_works_36 rfl) ?_
  refine zz_cons (k' := 38) rfl (zz_Ok_none _ _) ?_
  refine zz_cons (k' := 39) rfl (zz_Ok_none _ _) ?_
  refine zz_cons (k' := 40) rfl (zk_imul X dX12_works_39 rfl) ?_
  refine zz_cons (k' := 41) rfl (zk_aload_n X dX12_works_40 rfl rfl) ?_
  refine zz_cons (k' := 42) rfl (zk_getf X ff_X12_109 dX12_works_41 rfl) ?_
  refine zz_cons (k' := 43) rfl (zz_Ok_none _ _) ?_
  refine zz_cons (k' := 44) rfl (zz_Ok_none _ _) ?_
  refine zz_cons (k' := 45) rfl (zk_iload_n X dX12_works_44 rfl rfl) ?_
  refine zz_cons (k' := 46) rfl (zk_iald X (zzWR_st Wd) dX12_works_45 rfl) ?_
  refine zz_cons (k' := 47) rfl (zk_iadd X dX12_works_46 rfl) ?_
  refine zz_cons (k' := 48) rfl (zk_iald X (zzWR_st Wd) dX12_works_47 rfl) ?_
  refine zz_cons (k' := 49) rfl (zk_aload_n X dX12_works_48 rfl rfl) ?_
  refine zz_cons (k' := 50) rfl (zk_getf X ff_X12_182 dX12_works_49 rfl) ?_
  refine zz_cons (k' := 51) rfl (zz_Ok_none _ _) ?_
  refine zz_cons (k' := 52) rfl (zz_Ok_none _ _) ?_
  refine zz_cons (k' := 53) rfl (zk_icmp_le X dX12_works_52 (by decide) rfl) ?_
  refine zz_cons (k' := 54) rfl (zz_Ok_none _ _) ?_
  refine zz_cons (k' := 55) rfl (zz_Ok_none _ _) ?_
  refine zz_cons (k' := 56) rfl (zk_iinc X dX12_works_55 (by decide) (by decide) rfl) ?_
  refine zz_cons (k' := 57) rfl (zz_Ok_none _ _) ?_
  refine zz_cons (k' := 58) rfl (zz_Ok_none _ _) ?_
  refine zz_cons (k' := 59) rfl (zk_goto X dX12_works_58 (by decide)) ?_
  refine zz_cons (k' := 60) rfl (zz_Ok_none _ _) ?_
  refine zz_cons (k' := 61) rfl (zz_Ok_none _ _) ?_
  refine zz_cons (k' := 62) rfl (zk_iload_n X dX12_works_61 rfl rfl) ?_
  refine zz_cons (k' := 63) rfl (zk_bipush X dX12_works_62 (by decide) rfl) ?_
  refine zz_cons (k' := 64) rfl (zz_Ok_none _ _) ?_
  refine zz_cons (k' := 65) rfl (zk_aload_n X dX12_works_64 rfl rfl) ?_
  refine zz_cons (k' := 66) rfl (zk_getf X ff_X12_193 dX12_works_65 rfl) ?_
  refine zz_cons (k' := 67) rfl (zz_Ok_none _ _) ?_
  refine zz_cons (k' := 68) rfl (zz_Ok_none _ _) ?_
  refine zz_cons (k' := 69) rfl (zk_imul X dX12_works_68 rfl) ?_
  refine zz_cons (k' := 70) rfl (zk_aload_n X dX12_works_69 rfl rfl) ?_
  refine zz_cons (k' := 71) rfl (zk_getf X ff_X12_106 dX12_works_70 rfl) ?_
  refine zz_cons (k' := 72) rfl (zz_Ok_none _ _) ?_
  refine zz_cons (k' := 73) rfl (zz_Ok_none _ _) ?_
  refine zz_cons (k' := 74) rfl (zk_aload_n X dX12_works_73 rfl rfl) ?_
  refine zz_cons (k' := 75) rfl (zk_getf X ff_X12_193 dX12_works_74 rfl) ?_
  refine zz_cons (k' := 76) rfl (zz_Ok_none _ _) ?_
  refine zz_cons (k' := 77) rfl (zz_Ok_none _ _) ?_
  refine zz_cons (k' := 78) rfl (zk_iald X (zzWR_st Wd) dX12_works_77 rfl) ?_
  refine zz_cons (k' := 79) rfl (zk_iadd X dX12_works_78 rfl) ?_
  refine zz_cons (k' := 80) rfl (zk_icmp_ne X dX12_works_79 (by decide) rfl) ?_
  refine zz_cons (k' := 81) rfl (zz_Ok_none _ _) ?_
  refine zz_cons (k' := 82) rfl (zz_Ok_none _ _) ?_
  refine zz_cons (k' := 83) rfl (zk_iconst X dX12_works_82 (by decide) rfl) ?_
  refine zz_cons (k' := 84) rfl (zk_iret X rfl dX12_works_83) ?_
  refine zz_cons (k' := 85) rfl (zk_aload_n X dX12_works_84 rfl rfl) ?_
  refine zz_cons (k' := 86) rfl (zk_aload_n X dX12_works_85 rfl rfl) ?_
  refine zz_cons (k' := 87) rfl (zk_getf X ff_X12_109 dX12_works_86 rfl) ?_
  refine zz_cons (k' := 88) rfl (zz_Ok_none _ _) ?_
  refine zz_cons (k' := 89) rfl (zz_Ok_none _ _) ?_
  refine zz_cons (k' := 90) rfl (zk_iload_n X dX12_works_89 rfl rfl) ?_
  refine zz_cons (k' := 91) rfl (zk_iald X (zzWR_st Wd) dX12_works_90 rfl) ?_
  refine zz_cons (k' := 92) rfl (zk_putf X ff_X12_243 fp_10_43 dX12_works_91 rfl) ?_
  refine zz_cons (k' := 93) rfl (zz_Ok_none _ _) ?_
  refine zz_cons (k' := 94) rfl (zz_Ok_none _ _) ?_
  refine zz_cons (k' := 95) rfl (zk_bipush X dX12_works_94 (by decide) rfl) ?_
  refine zz_cons (k' := 96) rfl (zz_Ok_none _ _) ?_
  refine zz_cons (k' := 97) rfl (zk_aload_n X dX12_works_96 rfl rfl) ?_
  refine zz_cons (k' := 98) rfl (zk_getf X ff_X12_193 dX12_works_97 rfl) ?_
  refine zz_cons (k' := 99) rfl (zz_Ok_none _ _) ?_
  refine zz_cons (k' := 100) rfl (zz_Ok_none _ _) ?_
  refine zz_cons (k' := 101) rfl (zk_imul X dX12_works_100 rfl) ?_
  refine zz_cons (k' := 102) rfl (zk_aload_n X dX12_works_101 rfl rfl) ?_
  refine zz_cons (k' := 103) rfl (zk_getf X ff_X12_243 dX12_works_102 rfl) ?_
  refine zz_cons (k' := 104) rfl (zz_Ok_none _ _) ?_
  refine zz_cons (k' := 105) rfl (zz_Ok_none _ _) ?_
  refine zz_cons (k' := 106) rfl (zk_iadd X dX12_works_105 rfl) ?_
  refine zz_cons (k' := 107) rfl (zk_istore_n X dX12_works_106 rfl (by decide) rfl) ?_
  refine zz_cons (k' := 108) rfl (zk_aload_n X dX12_works_107 rfl rfl) ?_
  refine zz_cons (k' := 109) rfl (zk_iload_n X dX12_works_108 rfl rfl) ?_
  refine zz_cons (k' := 110) rfl (zk_callv X (zz_Cv_of (List.forall_mem_cons.mpr ⟨⟨(RX_10, zzT10, 50), yX12_takesOut, cX12_takesOut, 3, none, 0, 0, rfl, kv_X12_356_10.1, (mm_X12_takesOut Wd).1, by decide, by decide⟩, (fun _ h => absurd h List.not_mem_nil)⟩)) dX12_works_109 rfl) ?_
  refine zz_cons (k' := 111) rfl (zz_Ok_none _ _) ?_
  refine zz_cons (k' := 112) rfl (zz_Ok_none _ _) ?_
  refine zz_cons (k' := 113) rfl (zk_aload_n X dX12_works_112 rfl rfl) ?_
  refine zz_cons (k' := 114) rfl (zk_getf X ff_X12_118 dX12_works_113 rfl) ?_
  refine zz_cons (k' := 115) rfl (zz_Ok_none _ _) ?_
  refine zz_cons (k' := 116) rfl (zz_Ok_none _ _) ?_
  refine zz_cons (k' := 117) rfl (zk_iload_n X dX12_works_116 rfl rfl) ?_
  refine zz_cons (k' := 118) rfl (zk_iald X (zzWR_st Wd) dX12_works_117 rfl) ?_
  refine zz_cons (k' := 119) rfl (zk_aload_n X dX12_works_118 rfl rfl) ?_
  refine zz_cons (k' := 120) rfl (zk_getf X ff_X12_90 dX12_works_119 rfl) ?_
  refine zz_cons (k' := 121) rfl (zz_Ok_none _ _) ?_
  refine zz_cons (k' := 122) rfl (zz_Ok_none _ _) ?_
  refine zz_cons (k' := 123) rfl (zk_aload_n X dX12_works_122 rfl rfl) ?_
  refine zz_cons (k' := 124) rfl (zk_getf X ff_X12_193 dX12_works_123 rfl) ?_
  refine zz_cons (k' := 125) rfl (zz_Ok_none _ _) ?_
  refine zz_cons (k' := 126) rfl (zz_Ok_none _ _) ?_
  refine zz_cons (k' := 127) rfl (zk_iald X (zzWR_st Wd) dX12_works_126 rfl) ?_
  refine zz_cons (k' := 128) rfl (zk_icmp_gt X dX12_works_127 (by decide) rfl) ?_
  refine zz_cons (k' := 129) rfl (zz_Ok_none _ _) ?_
  refine zz_cons (k' := 130) rfl (zz_Ok_none _ _) ?_
  refine zz_cons (k' := 131) rfl (zk_aload_n X dX12_works_130 rfl rfl) ?_
  refine zz_cons (k' := 132) rfl (zk_callv X (zz_Cv_of (List.forall_mem_cons.mpr ⟨⟨(RX_10, zzT10, 50), yX12_isEarly, cX12_isEarly, 2, (some .boolean), 3, 67, rfl, kv_X12_359_10.1, (mm_X12_isEarly Wd).1, by decide, by decide⟩, (fun _ h => absurd h List.not_mem_nil)⟩)) dX12_works_131 rfl) ?_
  refine zz_cons (k' := 133) rfl (zz_Ok_none _ _) ?_
  refine zz_cons (k' := 134) rfl (zz_Ok_none _ _) ?_
  refine zz_cons (k' := 135) rfl (zk_if_eq X dX12_works_134 (by decide) rfl) ?_
  refine zz_cons (k' := 136) rfl (zz_Ok_none _ _) ?_
  refine zz_cons (k' := 137) rfl (zz_Ok_none _ _) ?_
  refine zz_cons (k' := 138) rfl (zk_aload_n X dX12_works_137 rfl rfl) ?_
  refine zz_cons (k' := 139) rfl (zk_getf X ff_X12_115 dX12_works_138 rfl) ?_
  refine zz_cons (k' := 140) rfl (zz_Ok_none _ _) ?_
  refine zz_cons (k' := 141) rfl (zz_Ok_none _ _) ?_
  refine zz_cons (k' := 142) rfl (zk_iload_n X dX12_works_141 rfl rfl) ?_
  refine zz_cons (k' := 143) rfl (zk_aload_n X dX12_works_142 rfl rfl) ?_
  refine zz_cons (k' := 144) rfl (zk_getf X ff_X12_118 dX12_works_143 rfl) ?_
  refine zz_cons (k' := 145) rfl (zz_Ok_none _ _) ?_
  refine zz_cons (k' := 146) rfl (zz_Ok_none _ _) ?_
  refine zz_cons (k' := 147) rfl (zk_iload_n X dX12_works_146 rfl rfl) ?_
  refine zz_cons (k' := 148) rfl (zk_iald X (zzWR_st Wd) dX12_works_147 rfl) ?_
  refine zz_cons (k' := 149) rfl (zk_aload_n X dX12_works_148 rfl rfl) ?_
  refine zz_cons (k' := 150) rfl (zk_getf X ff_X12_90 dX12_works_149 rfl) ?_
  refine zz_cons (k' := 151) rfl (zz_Ok_none _ _) ?_
  refine zz_cons (k' := 152) rfl (zz_Ok_none _ _) ?_
  refine zz_cons (k' := 153) rfl (zk_aload_n X dX12_works_152 rfl rfl) ?_
  refine zz_cons (k' := 154) rfl (zk_getf X ff_X12_193 dX12_works_153 rfl) ?_
  refine zz_cons (k' := 155) rfl (zz_Ok_none _ _) ?_
  refine zz_cons (k' := 156) rfl (zz_Ok_none _ _) ?_
  refine zz_cons (k' := 157) rfl (zk_iald X (zzWR_st Wd) dX12_works_156 rfl) ?_
  refine zz_cons (k' := 158) rfl (zk_icmp_le X dX12_works_157 (by decide) rfl) ?_
  refine zz_cons (k' := 159) rfl (zz_Ok_none _ _) ?_
  refine zz_cons (k' := 160) rfl (zz_Ok_none _ _) ?_
  refine zz_cons (k' := 161) rfl (zk_aload_n X dX12_works_160 rfl rfl) ?_
  refine zz_cons (k' := 162) rfl (zk_getf X ff_X12_115 dX12_works_161 rfl) ?_
  refine zz_cons (k' := 163) rfl (zz_Ok_none _ _) ?_
  refine zz_cons (k' := 164) rfl (zz_Ok_none _ _) ?_
  refine zz_cons (k' := 165) rfl (zk_iload_n X dX12_works_164 rfl rfl) ?_
  refine zz_cons (k' := 166) rfl (zk_iald X (zzWR_st Wd) dX12_works_165 rfl) ?_
  refine zz_cons (k' := 167) rfl (zk_goto X dX12_works_166 (by decide)) ?_
  refine zz_cons (k' := 168) rfl (zz_Ok_none _ _) ?_
  refine zz_cons (k' := 169) rfl (zz_Ok_none _ _) ?_
  refine zz_cons (k' := 170) rfl (zk_aload_n X dX12_works_169 rfl rfl) ?_
  refine zz_cons (k' := 171) rfl (zk_getf X ff_X12_47 dX12_works_170 rfl) ?_
  refine zz_cons (k' := 172) rfl (zz_Ok_none _ _) ?_
  refine zz_cons (k' := 173) rfl (zz_Ok_none _ _) ?_
  refine zz_cons (k' := 174) rfl (zk_aload_n X dX12_works_173 rfl rfl) ?_
  refine zz_cons (k' := 175) rfl (zk_getf X ff_X12_243 dX12_works_174 rfl) ?_
  refine zz_cons (k' := 176) rfl (zz_Ok_none _ _) ?_
  refine zz_cons (k' := 177) rfl (zz_Ok_none _ _) ?_
  refine zz_cons (k' := 178) rfl (zk_iald X (zzWR_st Wd) dX12_works_177 rfl) ?_
  refine zz_cons (k' := 179) rfl (zk_bipush X dX12_works_178 (by decide) rfl) ?_
  refine zz_cons (k' := 180) rfl (zz_Ok_none _ _) ?_
  refine zz_cons (k' := 181) rfl (zk_iadd X dX12_works_180 rfl) ?_
  refine zz_cons (k' := 182) rfl (zk_iast X dX12_works_181 rfl) ?_
  refine zz_cons (k' := 183) rfl (zk_aload_n X dX12_works_182 rfl rfl) ?_
  refine zz_cons (k' := 184) rfl (zk_callv X (zz_Cv_of (List.forall_mem_cons.mpr ⟨⟨(RX_10, zzT10, 50), yX12_putsBack, cX12_putsBack, 1, none, 0, 0, rfl, kv_X12_362_10.1, (mm_X12_putsBack Wd).1, by decide, by decide⟩, (fun _ h => absurd h List.not_mem_nil)⟩)) dX12_works_183 rfl) ?_
  refine zz_cons (k' := 185) rfl (zz_Ok_none _ _) ?_
  refine zz_cons (k' := 186) rfl (zz_Ok_none _ _) ?_
  refine zz_cons (k' := 187) rfl (zk_iconst X dX12_works_186 (by decide) rfl) ?_
  refine zz_cons (k' := 188) rfl (zk_iret X rfl dX12_works_187) ?_
  refine zz_cons (k' := 189) rfl (zk_aload_n X dX12_works_188 rfl rfl) ?_
  refine zz_cons (k' := 190) rfl (zk_callv X (zz_Cv_of (List.forall_mem_cons.mpr ⟨⟨(RX_10, zzT10, 50), yX12_does, cX12_does, 1, (some .boolean), 7, 166, rfl, kv_X12_365_10.1, (mm_X12_does Wd).1, by decide, by decide⟩, (fun _ h => absurd h List.not_mem_nil)⟩)) dX12_works_189 rfl) ?_
  refine zz_cons (k' := 191) rfl (zz_Ok_none _ _) ?_
  refine zz_cons (k' := 192) rfl (zz_Ok_none _ _) ?_
  refine zz_cons (k' := 193) rfl (zk_if_eq X dX12_works_192 (by decide) rfl) ?_
  refine zz_cons (k' := 194) rfl (zz_Ok_none _ _) ?_
  refine zz_cons (k' := 195) rfl (zz_Ok_none _ _) ?_
  refine zz_cons (k' := 196) rfl (zk_aload_n X dX12_works_195 rfl rfl) ?_
  refine zz_cons (k' := 197) rfl (zk_getf X ff_X12_112 dX12_works_196 rfl) ?_
  refine zz_cons (k' := 198) rfl (zz_Ok_none _ _) ?_
  refine zz_cons (k' := 199) rfl (zz_Ok_none _ _) ?_
  refine zz_cons (k' := 200) rfl (zk_iload_n X dX12_works_199 rfl rfl) ?_
  refine zz_cons (k' := 201) rfl (zk_iconst X dX12_works_200 (by decide) rfl) ?_
  refine zz_cons (k' := 202) rfl (zk_iast X dX12_works_201 rfl) ?_
  refine zz_cons (k' := 203) rfl (zk_iconst X dX12_works_202 (by decide) rfl) ?_
  refine zz_cons (k' := 204) rfl (zk_iret X rfl dX12_works_203) ?_
  refine zz_cons (k' := 205) rfl (zk_aload_n X dX12_works_204 rfl rfl) ?_
  refine zz_cons (k' := 206) rfl (zk_getf X ff_X12_115 dX12_works_205 rfl) ?_
  refine zz_cons (k' := 207) rfl (zz_Ok_none _ _) ?_
  refine zz_cons (k' := 208) rfl (zz_Ok_none _ _) ?_
  refine zz_cons (k' := 209) rfl (zk_iload_n X dX12_works_208 rfl rfl) ?_
  refine zz_cons (k' := 210) rfl (zk_aload_n X dX12_works_209 rfl rfl) ?_
  refine zz_cons (k' := 211) rfl (zk_getf X ff_X12_182 dX12_works_210 rfl) ?_
  refine zz_cons (k' := 212) rfl (zz_Ok_none _ _) ?_
  refine zz_cons (k' := 213) rfl (zz_Ok_none _ _) ?_
  refine zz_cons (k' := 214) rfl (zk_aload_n X dX12_works_213 rfl rfl) ?_
  refine zz_cons (k' := 215) rfl (zk_getf X ff_X12_112 dX12_works_214 rfl) ?_
  refine zz_cons (k' := 216) rfl (zz_Ok_none _ _) ?_
  refine zz_cons (k' := 217) rfl (zz_Ok_none _ _) ?_
  refine zz_cons (k' := 218) rfl (zk_iload_n X dX12_works_217 rfl rfl) ?_
  refine zz_cons (k' := 219) rfl (zk_iald X (zzWR_st Wd) dX12_works_218 rfl) ?_
  refine zz_cons (k' := 220) rfl (zk_iconst X dX12_works_219 (by decide) rfl) ?_
  refine zz_cons (k' := 221) rfl (zk_icmp_le X dX12_works_220 (by decide) rfl) ?_
  refine zz_cons (k' := 222) rfl (zz_Ok_none _ _) ?_
  refine zz_cons (k' := 223) rfl (zz_Ok_none _ _) ?_
  refine zz_cons (k' := 224) rfl (zk_bipush X dX12_works_223 (by decide) rfl) ?_
  refine zz_cons (k' := 225) rfl (zz_Ok_none _ _) ?_
  refine zz_cons (k' := 226) rfl (zk_goto X dX12_works_225 (by decide)) ?_
  refine zz_cons (k' := 227) rfl (zz_Ok_none _ _) ?_
  refine zz_cons (k' := 228) rfl (zz_Ok_none _ _) ?_
  refine zz_cons (k' := 229) rfl (zk_iconst X dX12_works_228 (by decide) rfl) ?_
  refine zz_cons (k' := 230) rfl (zk_aload_n X dX12_works_229 rfl rfl) ?_
  refine zz_cons (k' := 231) rfl (zk_getf X ff_X12_112 dX12_works_230 rfl) ?_
  refine zz_cons (k' := 232) rfl (zz_Ok_none _ _) ?_
  refine zz_cons (k' := 233) rfl (zz_Ok_none _ _) ?_
  refine zz_cons (k' := 234) rfl (zk_iload_n X dX12_works_233 rfl rfl) ?_
  refine zz_cons (k' := 235) rfl (zk_iald X (zzWR_st Wd) dX12_works_234 rfl) ?_
  refine zz_cons (k' := 236) rfl (zk_ishl X dX12_works_235 rfl) ?_
  refine zz_cons (k' := 237) rfl (zk_iadd X dX12_works_236 rfl) ?_
  refine zz_cons (k' := 238) rfl (zk_iast X dX12_works_237 rfl) ?_
  refine zz_cons (k' := 239) rfl (zk_aload_n X dX12_works_238 rfl rfl) ?_
  refine zz_cons (k' := 240) rfl (zk_getf X ff_X12_112 dX12_works_239 rfl) ?_
  refine zz_cons (k' := 241) rfl (zz_Ok_none _ _) ?_
  refine zz_cons (k' := 242) rfl (zz_Ok_none _ _) ?_
  refine zz_cons (k' := 243) rfl (zk_iload_n X dX12_works_242 rfl rfl) ?_
  refine zz_cons (k' := 244) rfl (zk_dup2 X dX12_works_243 rfl) ?_
  refine zz_cons (k' := 245) rfl (zk_iald X (zzWR_st Wd) dX12_works_244 rfl) ?_
  refine zz_cons (k' := 246) rfl (zk_iconst X dX12_works_245 (by decide) rfl) ?_
  refine zz_cons (k' := 247) rfl (zk_iadd X dX12_works_246 rfl) ?_
  refine zz_cons (k' := 248) rfl (zk_iast X dX12_works_247 rfl) ?_
  refine zz_cons (k' := 249) rfl (zk_aload_n X dX12_works_248 rfl rfl) ?_
  refine zz_cons (k' := 250) rfl (zk_callv X (zz_Cv_of (List.forall_mem_cons.mpr ⟨⟨(RX_10, zzT10, 50), yX12_putsBack, cX12_putsBack, 1, none, 0, 0, rfl, kv_X12_362_10.1, (mm_X12_putsBack Wd).1, by decide, by decide⟩, (fun _ h => absurd h List.not_mem_nil)⟩)) dX12_works_249 rfl) ?_
  refine zz_cons (k' := 251) rfl (zz_Ok_none _ _) ?_
  refine zz_cons (k' := 252) rfl (zz_Ok_none _ _) ?_
  refine zz_cons (k' := 253) rfl (zk_iconst X dX12_works_252 (by decide) rfl) ?_
  refine zz_cons (k' := 254) rfl (zk_iret X rfl dX12_works_253) ?_
  exact trivial
noncomputable def tX12_isManager : List zzOp := [
  zo_iload 0 1,
  zo_pushI 0 2,
  zo_pushI 3 3,
  zo_calls fX12_isIn 3 6,
  zo_none,
  zo_none,
  zo_iret true]
set_option maxRecDepth 100000 in
theorem tl_X12_isManager : ∀ pc, zz_Tl (tX12_isManager.getD pc zo_none) := by
  refine zz_Tl_mem ?_
  unfold tX12_isManager
  refine List.forall_mem_cons.mpr ⟨(zo_iload_tl _ _), ?_⟩
  refine List.forall_mem_cons.mpr ⟨(zo_pushI_tl _ _), ?_⟩
  refine List.forall_mem_cons.mpr ⟨(zo_pushI_tl _ _), ?_⟩
  refine List.forall_mem_cons.mpr ⟨(zo_calls_tl _ _ _), ?_⟩
  refine List.forall_mem_cons.mpr ⟨zo_none_tl, ?_⟩
  refine List.forall_mem_cons.mpr ⟨zo_none_tl, ?_⟩
  refine List.forall_mem_cons.mpr ⟨(zo_iret_tl _), ?_⟩
  exact fun _ h => absurd h List.not_mem_nil
noncomputable def fX12_isManager : zzFn := zz_fn tX12_isManager 1
set_option maxRecDepth 100000 in
set_option maxHeartbeats 4000000 in
theorem mm_X12_isManager {l : Launch} {D : va_G} {cA : Nat → ClassId} {ad : Nat → Nat} {Ex : (Nat → Prop) → State → Heap → Prop} (Wd : zzWR l D cA ad Ex) : zz_Cn l D zzCl cA ad zzSR Ex yX12_isManager cX12_isManager 1 (some .boolean) 1 22 fX12_isManager ∧ zz_Cx l D zzCl cA ad zzSR Ex yX12_isManager cX12_isManager 1 (some .boolean) 1 22 fX12_isManager := by
  refine zz_meth (plainFor_of_name (by decide)) Wd.1 Wd.2.1 Wd.2.2 (fun p e R s m args below meth c rr X => ?_)
  unfold tX12_isManager
  refine zz_cons (k' := 1) rfl (zk_iload_n X dX12_isManager_0 rfl rfl) ?_
  refine zz_cons (k' := 2) rfl (zk_iconst X dX12_isManager_1 (by decide) rfl) ?_
  refine zz_cons (k' := 3) rfl (zk_iconst X dX12_isManager_2 (by decide) rfl) ?_
  refine zz_cons (k' := 4) rfl (zk_calls X ks_X12_140 (mm_X12_isIn Wd).1 (by decide) dX12_isManager_3 rfl) ?_
  refine zz_cons (k' := 5) rfl (zz_Ok_none _ _) ?_
  refine zz_cons (k' := 6) rfl (zz_Ok_none _ _) ?_
  refine zz_cons (k' := 7) rfl (zk_iret X rfl dX12_isManager_6) ?_
  exact trivial
noncomputable def tX12_make : List zzOp := [
  zo_aload 0 1,
  zo_iload 1 2,
  zo_calls fX12_isManager 1 5,
  zo_none,
  zo_none,
  zo_if (fun x => decide (x = 0)) 19 8,
  zo_none,
  zo_none,
  zo_iload 2 9,
  zo_calls fX12_isKind 1 12,
  zo_none,
  zo_none,
  zo_if (fun x => decide (x = 0)) 19 15,
  zo_none,
  zo_none,
  zo_pushI 0 16,
  zo_goto 20,
  zo_none,
  zo_none,
  zo_pushI 1 20,
  zo_callv zzSR (zz_cl [(10, fX12_goes)]) 1 23,
  zo_none,
  zo_none,
  zo_if (fun x => decide (¬ x = 0)) 28 26,
  zo_none,
  zo_none,
  zo_pushI 0 27,
  zo_iret false,
  zo_aload 0 29,
  zo_iload 1 30,
  zo_iload 2 31,
  zo_pushI (-1) 32,
  zo_pushI 0 33,
  zo_callv zzSR (zz_cl [(10, fX12_makes)]) 4 36,
  zo_none,
  zo_none,
  zo_istore 3 37,
  zo_aload 0 38,
  zo_iload 3 39,
  zo_pushI (-1) 40,
  zo_icmp (fun x y => decide (¬ x = y)) 47 43,
  zo_none,
  zo_none,
  zo_pushI 2 44,
  zo_goto 48,
  zo_none,
  zo_none,
  zo_pushI 0 48,
  zo_callv zzSR (zz_cl [(10, fX12_goes)]) 1 51,
  zo_none,
  zo_none,
  zo_if (fun x => decide (x = 0)) 58 54,
  zo_none,
  zo_none,
  zo_iload 3 55,
  zo_goto 59,
  zo_none,
  zo_none,
  zo_pushI 0 59,
  zo_iret false]
set_option maxRecDepth 100000 in
theorem tl_X12_make : ∀ pc, zz_Tl (tX12_make.getD pc zo_none) := by
  refine zz_Tl_mem ?_
  unfold tX12_make
  refine List.forall_mem_cons.mpr ⟨(zo_aload_tl _ _), ?_⟩
  refine List.forall_mem_cons.mpr ⟨(zo_iload_tl _ _), ?_⟩
  refine List.forall_mem_cons.mpr ⟨(zo_calls_tl _ _ _), ?_⟩
  refine List.forall_mem_cons.mpr ⟨zo_none_tl, ?_⟩
  refine List.forall_mem_cons.mpr ⟨zo_none_tl, ?_⟩
  refine List.forall_mem_cons.mpr ⟨(zo_if_tl _ _ _), ?_⟩
  refine List.forall_mem_cons.mpr ⟨zo_none_tl, ?_⟩
  refine List.forall_mem_cons.mpr ⟨zo_none_tl, ?_⟩
  refine List.forall_mem_cons.mpr ⟨(zo_iload_tl _ _), ?_⟩
  refine List.forall_mem_cons.mpr ⟨(zo_calls_tl _ _ _), ?_⟩
  refine List.forall_mem_cons.mpr ⟨zo_none_tl, ?_⟩
  refine List.forall_mem_cons.mpr ⟨zo_none_tl, ?_⟩
  refine List.forall_mem_cons.mpr ⟨(zo_if_tl _ _ _), ?_⟩
  refine List.forall_mem_cons.mpr ⟨zo_none_tl, ?_⟩
  refine List.forall_mem_cons.mpr ⟨zo_none_tl, ?_⟩
  refine List.forall_mem_cons.mpr ⟨(zo_pushI_tl _ _), ?_⟩
  refine List.forall_mem_cons.mpr ⟨(zo_goto_tl _), ?_⟩
  refine List.forall_mem_cons.mpr ⟨zo_none_tl, ?_⟩
  refine List.forall_mem_cons.mpr ⟨zo_none_tl, ?_⟩
  refine List.forall_mem_cons.mpr ⟨(zo_pushI_tl _ _), ?_⟩
  refine List.forall_mem_cons.mpr ⟨(zo_callv_tl _ _ _ _), ?_⟩
  refine List.forall_mem_cons.mpr ⟨zo_none_tl, ?_⟩
  refine List.forall_mem_cons.mpr ⟨zo_none_tl, ?_⟩
  refine List.forall_mem_cons.mpr ⟨(zo_if_tl _ _ _), ?_⟩
  refine List.forall_mem_cons.mpr ⟨zo_none_tl, ?_⟩
  refine List.forall_mem_cons.mpr ⟨zo_none_tl, ?_⟩
  refine List.forall_mem_cons.mpr ⟨(zo_pushI_tl _ _), ?_⟩
  refine List.forall_mem_cons.mpr ⟨(zo_iret_tl _), ?_⟩
  refine List.forall_mem_cons.mpr ⟨(zo_aload_tl _ _), ?_⟩
  refine List.forall_mem_cons.mpr ⟨(zo_iload_tl _ _), ?_⟩
  refine List.forall_mem_cons.mpr ⟨(zo_iload_tl _ _), ?_⟩
  refine List.forall_mem_cons.mpr ⟨(zo_pushI_tl _ _), ?_⟩
  refine List.forall_mem_cons.mpr ⟨(zo_pushI_tl _ _), ?_⟩
  refine List.forall_mem_cons.mpr ⟨(zo_callv_tl _ _ _ _), ?_⟩
  refine List.forall_mem_cons.mpr ⟨zo_none_tl, ?_⟩
  refine List.forall_mem_cons.mpr ⟨zo_none_tl, ?_⟩
  refine List.forall_mem_cons.mpr ⟨(zo_istore_tl _ _), ?_⟩
  refine List.forall_mem_cons.mpr ⟨(zo_aload_tl _ _), ?_⟩
  refine List.forall_mem_cons.mpr ⟨(zo_iload_tl _ _), ?_⟩
  refine List.forall_mem_cons.mpr ⟨(zo_pushI_tl _ _), ?_⟩
  refine List.forall_mem_cons.mpr ⟨(zo_icmp_tl _ _ _), ?_⟩
  refine List.forall_mem_cons.mpr ⟨zo_none_tl, ?_⟩
  refine List.forall_mem_cons.mpr ⟨zo_none_tl, ?_⟩
  refine List.forall_mem_cons.mpr ⟨(zo_pushI_tl _ _), ?_⟩
  refine List.forall_mem_cons.mpr ⟨(zo_goto_tl _), ?_⟩
  refine List.forall_mem_cons.mpr ⟨zo_none_tl, ?_⟩
  refine List.forall_mem_cons.mpr ⟨zo_none_tl, ?_⟩
  refine List.forall_mem_cons.mpr ⟨(zo_pushI_tl _ _), ?_⟩
  refine List.forall_mem_cons.mpr ⟨(zo_callv_tl _ _ _ _), ?_⟩
  refine List.forall_mem_cons.mpr ⟨zo_none_tl, ?_⟩
  refine List.forall_mem_cons.mpr ⟨zo_none_tl, ?_⟩
  refine List.forall_mem_cons.mpr ⟨(zo_if_tl _ _ _), ?_⟩
  refine List.forall_mem_cons.mpr ⟨zo_none_tl, ?_⟩
  refine List.forall_mem_cons.mpr ⟨zo_none_tl, ?_⟩
  refine List.forall_mem_cons.mpr ⟨(zo_iload_tl _ _), ?_⟩
  refine List.forall_mem_cons.mpr ⟨(zo_goto_tl _), ?_⟩
  refine List.forall_mem_cons.mpr ⟨zo_none_tl, ?_⟩
  refine List.forall_mem_cons.mpr ⟨zo_none_tl, ?_⟩
  refine List.forall_mem_cons.mpr ⟨(zo_pushI_tl _ _), ?_⟩
  refine List.forall_mem_cons.mpr ⟨(zo_iret_tl _), ?_⟩
  exact fun _ h => absurd h List.not_mem_nil
noncomputable def fX12_make : zzFn := zz_fn tX12_make 4
set_option maxRecDepth 100000 in
set_option maxHeartbeats 4000000 in
theorem mm_X12_make {l : Launch} {D : va_G} {cA : Nat → ClassId} {ad : Nat → Nat} {Ex : (Nat → Prop) → State → Heap → Prop} (Wd : zzWR l D cA ad Ex) : zz_Cn l D zzCl cA ad zzSR Ex yX12_make cX12_make 4 (some .int) 3 85 fX12_make ∧ zz_Cx l D zzCl cA ad zzSR Ex yX12_make cX12_make 4 (some .int) 3 85 fX12_make := by
  refine zz_meth (plainFor_of_name (by decide)) Wd.1 Wd.2.1 Wd.2.2 (fun p e R s m args below meth c rr X => ?_)
  unfold tX12_make
  refine zz_cons (k' := 1) rfl (zk_aload_n X dX12_make_0 rfl rfl) ?_
  refine zz_cons (k' := 2) rfl (zk_iload_n X dX12_make_1 rfl rfl) ?_
  refine zz_cons (k' := 3) rfl (zk_calls X ks_X12_368 (mm_X12_isManager Wd).1 (by decide) dX12_make_2 rfl) ?_
  refine zz_cons (k' := 4) rfl (zz_Ok_none _ _) ?_
  refine zz_cons (k' := 5) rfl (zz_Ok_none _ _) ?_
  refine zz_cons (k' := 6) rfl (zk_if_eq X dX12_make_5 (by decide) rfl) ?_
  refine zz_cons (k' := 7) rfl (zz_Ok_none _ _) ?_
  refine zz_cons (k' := 8) rfl (zz_Ok_none _ _) ?_
  refine zz_cons (k' := 9) rfl (zk_iload_n X dX12_make_8 rfl rfl) ?_
  refine zz_cons (k' := 10) rfl (zk_calls X ks_X12_371 (mm_X12_isKind Wd).1 (by decide) dX12_make_9 rfl) ?_
  refine zz_cons (k' := 11) rfl (zz_Ok_none _ _) ?_
  refine zz_cons (k' := 12) rfl (zz_Ok_none _ _) ?_
  refine zz_cons (k' := 13) rfl (zk_if_eq X dX12_make_12 (by decide) rfl) ?_
  refine zz_cons (k' := 14) rfl (zz_Ok_none _ _) ?_
  refine zz_cons (k' := 15) rfl (zz_Ok_none _ _) ?_
  refine zz_cons (k' := 16) rfl (zk_iconst X dX12_make_15 (by decide) rfl) ?_
  refine zz_cons (k' := 17) rfl (zk_goto X dX12_make_16 (by decide)) ?_
  refine zz_cons (k' := 18) rfl (zz_Ok_none _ _) ?_
  refine zz_cons (k' := 19) rfl (zz_Ok_none _ _) ?_
  refine zz_cons (k' := 20) rfl (zk_iconst X dX12_make_19 (by decide) rfl) ?_
  refine zz_cons (k' := 21) rfl (zk_callv X (zz_Cv_of (List.forall_mem_cons.mpr ⟨⟨(RX_10, zzT10, 50), yX12_goes, cX12_goes, 2, (some .boolean), 0, 0, rfl, kv_X12_374_10.1, (mm_X12_goes Wd).1, by decide, by decide⟩, (fun _ h => absurd h List.not_mem_nil)⟩)) dX12_make_20 rfl) ?_
  refine zz_cons (k' := 22) rfl (zz_Ok_none _ _) ?_
  refine zz_cons (k' := 23) rfl (zz_Ok_none _ _) ?_
  refine zz_cons (k' := 24) rfl (zk_if_ne X dX12_make_23 (by decide) rfl) ?_
  refine zz_cons (k' := 25) rfl (zz_Ok_none _ _) ?_
  refine zz_cons (k' := 26) rfl (zz_Ok_none _ _) ?_
  refine zz_cons (k' := 27) rfl (zk_iconst X dX12_make_26 (by decide) rfl) ?_
  refine zz_cons (k' := 28) rfl (zk_iret X rfl dX12_make_27) ?_
  refine zz_cons (k' := 29) rfl (zk_aload_n X dX12_make_28 rfl rfl) ?_
  refine zz_cons (k' := 30) rfl (zk_iload_n X dX12_make_29 rfl rfl) ?_
  refine zz_cons (k' := 31) rfl (zk_iload_n X dX12_make_30 rfl rfl) ?_
  refine zz_cons (k' := 32) rfl (zk_iconst X dX12_make_31 (by decide) rfl) ?_
  refine zz_cons (k' := 33) rfl (zk_iconst X dX12_make_32 (by decide) rfl) ?_
  refine zz_cons (k' := 34) rfl (zk_callv X (zz_Cv_of (List.forall_mem_cons.mpr ⟨⟨(RX_10, zzT10, 50), yX12_makes, cX12_makes, 9, (some .int), 2, 57, rfl, kv_X12_265_10.1, (mm_X12_makes Wd).1, by decide, by decide⟩, (fun _ h => absurd h List.not_mem_nil)⟩)) dX12_make_33 rfl) ?_
  refine zz_cons (k' := 35) rfl (zz_Ok_none _ _) ?_
  refine zz_cons (k' := 36) rfl (zz_Ok_none _ _) ?_
  refine zz_cons (k' := 37) rfl (zk_istore_n X dX12_make_36 rfl (by decide) rfl) ?_
  refine zz_cons (k' := 38) rfl (zk_aload_n X dX12_make_37 rfl rfl) ?_
  refine zz_cons (k' := 39) rfl (zk_iload_n X dX12_make_38 rfl rfl) ?_
  refine zz_cons (k' := 40) rfl (zk_iconst X dX12_make_39 (by decide) rfl) ?_
  refine zz_cons (k' := 41) rfl (zk_icmp_ne X dX12_make_40 (by decide) rfl) ?_
  refine zz_cons (k' := 42) rfl (zz_Ok_none _ _) ?_
  refine zz_cons (k' := 43) rfl (zz_Ok_none _ _) ?_
  refine zz_cons (k' := 44) rfl (zk_iconst X dX12_make_43 (by decide) rfl) ?_
  refine zz_cons (k' := 45) rfl (zk_goto X dX12_make_44 (by decide)) ?_
  refine zz_cons (k' := 46) rfl (zz_Ok_none _ _) ?_
  refine zz_cons (k' := 47) rfl (zz_Ok_none _ _) ?_
  refine zz_cons (k' := 48) rfl (zk_iconst X dX12_make_47 (by decide) rfl) ?_
  refine zz_cons (k' := 49) rfl (zk_callv X (zz_Cv_of (List.forall_mem_cons.mpr ⟨⟨(RX_10, zzT10, 50), yX12_goes, cX12_goes, 2, (some .boolean), 0, 0, rfl, kv_X12_374_10.1, (mm_X12_goes Wd).1, by decide, by decide⟩, (fun _ h => absurd h List.not_mem_nil)⟩)) dX12_make_48 rfl) ?_
  refine zz_cons (k' := 50) rfl (zz_Ok_none _ _) ?_
  refine zz_cons (k' := 51) rfl (zz_Ok_none _ _) ?_
  refine zz_cons (k' := 52) rfl (zk_if_eq X dX12_make_51 (by decide) rfl) ?_
  refine zz_cons (k' := 53) rfl (zz_Ok_none _ _) ?_
  refine zz_cons (k' := 54) rfl (zz_Ok_none _ _) ?_
  refine zz_cons (k' := 55) rfl (zk_iload_n X dX12_make_54 rfl rfl) ?_
  refine zz_cons (k' := 56) rfl (zk_goto X dX12_make_55 (by decide)) ?_
  refine zz_cons (k' := 57) rfl (zz_Ok_none _ _) ?_
  refine zz_cons (k' := 58) rfl (zz_Ok_none _ _) ?_
  refine zz_cons (k' := 59) rfl (zk_iconst X dX12_make_58 (by decide) rfl) ?_
  refine zz_cons (k' := 60) rfl (zk_iret X rfl dX12_make_59) ?_
  exact trivial
noncomputable def tX12_isGone : List zzOp := [
  zo_aload 0 1,
  zo_aload 0 2,
  zo_getf zzSR (zz_kf [10] 7) 5,
  zo_none,
  zo_none,
  zo_iload 1 6,
  zo_lald zzSR 7,
  zo_pushI 13 9,
  zo_none,
  zo_callv zzSR (zz_cl [(10, fX12_get)]) 2 12,
  zo_none,
  zo_none,
  zo_pushI 4 13,
  zo_icmp (fun x y => decide (¬ x = y)) 20 16,
  zo_none,
  zo_none,
  zo_pushI 1 17,
  zo_goto 21,
  zo_none,
  zo_none,
  zo_pushI 0 21,
  zo_iret true]
set_option maxRecDepth 100000 in
theorem tl_X12_isGone : ∀ pc, zz_Tl (tX12_isGone.getD pc zo_none) := by
  refine zz_Tl_mem ?_
  unfold tX12_isGone
  refine List.forall_mem_cons.mpr ⟨(zo_aload_tl _ _), ?_⟩
  refine List.forall_mem_cons.mpr ⟨(zo_aload_tl _ _), ?_⟩
  refine List.forall_mem_cons.mpr ⟨(zo_getf_tl _ _ _), ?_⟩
  refine List.forall_mem_cons.mpr ⟨zo_none_tl, ?_⟩
  refine List.forall_mem_cons.mpr ⟨zo_none_tl, ?_⟩
  refine List.forall_mem_cons.mpr ⟨(zo_iload_tl _ _), ?_⟩
  refine List.forall_mem_cons.mpr ⟨(zo_lald_tl _ _), ?_⟩
  refine List.forall_mem_cons.mpr ⟨(zo_pushI_tl _ _), ?_⟩
  refine List.forall_mem_cons.mpr ⟨zo_none_tl, ?_⟩
  refine List.forall_mem_cons.mpr ⟨(zo_callv_tl _ _ _ _), ?_⟩
  refine List.forall_mem_cons.mpr ⟨zo_none_tl, ?_⟩
  refine List.forall_mem_cons.mpr ⟨zo_none_tl, ?_⟩
  refine List.forall_mem_cons.mpr ⟨(zo_pushI_tl _ _), ?_⟩
  refine List.forall_mem_cons.mpr ⟨(zo_icmp_tl _ _ _), ?_⟩
  refine List.forall_mem_cons.mpr ⟨zo_none_tl, ?_⟩
  refine List.forall_mem_cons.mpr ⟨zo_none_tl, ?_⟩
  refine List.forall_mem_cons.mpr ⟨(zo_pushI_tl _ _), ?_⟩
  refine List.forall_mem_cons.mpr ⟨(zo_goto_tl _), ?_⟩
  refine List.forall_mem_cons.mpr ⟨zo_none_tl, ?_⟩
  refine List.forall_mem_cons.mpr ⟨zo_none_tl, ?_⟩
  refine List.forall_mem_cons.mpr ⟨(zo_pushI_tl _ _), ?_⟩
  refine List.forall_mem_cons.mpr ⟨(zo_iret_tl _), ?_⟩
  exact fun _ h => absurd h List.not_mem_nil
noncomputable def fX12_isGone : zzFn := zz_fn tX12_isGone 2
set_option maxRecDepth 100000 in
set_option maxHeartbeats 4000000 in
theorem mm_X12_isGone {l : Launch} {D : va_G} {cA : Nat → ClassId} {ad : Nat → Nat} {Ex : (Nat → Prop) → State → Heap → Prop} (Wd : zzWR l D cA ad Ex) : zz_Cn l D zzCl cA ad zzSR Ex yX12_isGone cX12_isGone 2 (some .boolean) 1 23 fX12_isGone ∧ zz_Cx l D zzCl cA ad zzSR Ex yX12_isGone cX12_isGone 2 (some .boolean) 1 23 fX12_isGone := by
  refine zz_meth (plainFor_of_name (by decide)) Wd.1 Wd.2.1 Wd.2.2 (fun p e R s m args below meth c rr X => ?_)
  unfold tX12_isGone
  refine zz_cons (k' := 1) rfl (zk_aload_n X dX12_isGone_0 rfl rfl) ?_
  refine zz_cons (k' := 2) rfl (zk_aload_n X dX12_isGone_1 rfl rfl) ?_
  refine zz_cons (k' := 3) rfl (zk_getf X ff_X12_28 dX12_isGone_2 rfl) ?_
  refine zz_cons (k' := 4) rfl (zz_Ok_none _ _) ?_
  refine zz_cons (k' := 5) rfl (zz_Ok_none _ _) ?_
  refine zz_cons (k' := 6) rfl (zk_iload_n X dX12_isGone_5 rfl rfl) ?_
  refine zz_cons (k' := 7) rfl (zk_lald X dX12_isGone_6 rfl) ?_
  refine zz_cons (k' := 8) rfl (zk_bipush X dX12_isGone_7 (by decide) rfl) ?_
  refine zz_cons (k' := 9) rfl (zz_Ok_none _ _) ?_
  refine zz_cons (k' := 10) rfl (zk_callv X (zz_Cv_of (List.forall_mem_cons.mpr ⟨⟨(RX_10, zzT10, 50), yX12_get, cX12_get, 4, (some .int), 0, 0, rfl, kv_X12_146_10.1, (mm_X12_get Wd).1, by decide, by decide⟩, (fun _ h => absurd h List.not_mem_nil)⟩)) dX12_isGone_9 rfl) ?_
  refine zz_cons (k' := 11) rfl (zz_Ok_none _ _) ?_
  refine zz_cons (k' := 12) rfl (zz_Ok_none _ _) ?_
  refine zz_cons (k' := 13) rfl (zk_iconst X dX12_isGone_12 (by decide) rfl) ?_
  refine zz_cons (k' := 14) rfl (zk_icmp_ne X dX12_isGone_13 (by decide) rfl) ?_
  refine zz_cons (k' := 15) rfl (zz_Ok_none _ _) ?_
  refine zz_cons (k' := 16) rfl (zz_Ok_none _ _) ?_
  refine zz_cons (k' := 17) rfl (zk_iconst X dX12_isGone_16 (by decide) rfl) ?_
  refine zz_cons (k' := 18) rfl (zk_goto X dX12_isGone_17 (by decide)) ?_
  refine zz_cons (k' := 19) rfl (zz_Ok_none _ _) ?_
  refine zz_cons (k' := 20) rfl (zz_Ok_none _ _) ?_
  refine zz_cons (k' := 21) rfl (zk_iconst X dX12_isGone_20 (by decide) rfl) ?_
  refine zz_cons (k' := 22) rfl (zk_iret X rfl dX12_isGone_21) ?_
  exact trivial
noncomputable def tX12_apply : List zzOp := [
  zo_aload 0 1,
  zo_aload 0 2,
  zo_iload 2 3,
  zo_callv zzSR (zz_cl [(10, fX12_isObject)]) 1 6,
  zo_none,
  zo_none,
  zo_if (fun x => decide (x = 0)) 13 9,
  zo_none,
  zo_none,
  zo_pushI 0 10,
  zo_goto 14,
  zo_none,
  zo_none,
  zo_pushI 1 14,
  zo_callv zzSR (zz_cl [(10, fX12_goes)]) 1 17,
  zo_none,
  zo_none,
  zo_if (fun x => decide (x = 0)) 63 20,
  zo_none,
  zo_none,
  zo_aload 0 21,
  zo_iload 1 22,
  zo_calls fX12_isManager 1 25,
  zo_none,
  zo_none,
  zo_if (fun x => decide (x = 0)) 56 28,
  zo_none,
  zo_none,
  zo_aload 0 29,
  zo_aload 0 30,
  zo_getf zzSR (zz_kf [10] 6) 33,
  zo_none,
  zo_none,
  zo_iload 2 34,
  zo_iald zzSR zzSTR 35,
  zo_iload 3 36,
  zo_callv zzSR (zz_cl [(10, fX12_hasField)]) 2 39,
  zo_none,
  zo_none,
  zo_if (fun x => decide (x = 0)) 56 42,
  zo_none,
  zo_none,
  zo_aload 0 43,
  zo_iload 3 44,
  zo_iload 4 46,
  zo_none,
  zo_callv zzSR (zz_cl [(10, fX12_isValue)]) 2 49,
  zo_none,
  zo_none,
  zo_if (fun x => decide (x = 0)) 56 52,
  zo_none,
  zo_none,
  zo_pushI 0 53,
  zo_goto 57,
  zo_none,
  zo_none,
  zo_pushI 2 57,
  zo_callv zzSR (zz_cl [(10, fX12_goes)]) 1 60,
  zo_none,
  zo_none,
  zo_if (fun x => decide (¬ x = 0)) 65 63,
  zo_none,
  zo_none,
  zo_pushI 0 64,
  zo_iret false,
  zo_aload 0 66,
  zo_iload 2 67,
  zo_callv zzSR (zz_cl [(10, fX12_isGone)]) 1 70,
  zo_none,
  zo_none,
  zo_if (fun x => decide (¬ x = 0)) 110 73,
  zo_none,
  zo_none,
  zo_iload 5 75,
  zo_none,
  zo_pushI (-1) 76,
  zo_icmp (fun x y => decide (x = y)) 90 79,
  zo_none,
  zo_none,
  zo_iload 5 81,
  zo_none,
  zo_aload 0 82,
  zo_getf zzSR (zz_kf [10] 9) 85,
  zo_none,
  zo_none,
  zo_iload 2 86,
  zo_iald zzSR zzSTR 87,
  zo_icmp (fun x y => decide (¬ x = y)) 110 90,
  zo_none,
  zo_none,
  zo_iload 6 92,
  zo_none,
  zo_if (fun x => decide (¬ x = 0)) 114 95,
  zo_none,
  zo_none,
  zo_aload 0 96,
  zo_getf zzSR (zz_kf [10] 10) 99,
  zo_none,
  zo_none,
  zo_pushI 11 101,
  zo_none,
  zo_iload 2 102,
  zo_ii (fun x y => x * y) 103,
  zo_iload 3 104,
  zo_ii (fun x y => x + y) 105,
  zo_iald zzSR zzSTR 106,
  zo_iload 1 107,
  zo_icmp (fun x y => decide (x = y)) 114 110,
  zo_none,
  zo_none,
  zo_pushI 1 111,
  zo_goto 115,
  zo_none,
  zo_none,
  zo_pushI 0 115,
  zo_istore 7 117,
  zo_none,
  zo_aload 0 118,
  zo_iload 7 120,
  zo_none,
  zo_if (fun x => decide (¬ x = 0)) 135 123,
  zo_none,
  zo_none,
  zo_aload 0 124,
  zo_iload 1 125,
  zo_iload 2 126,
  zo_iload 3 127,
  zo_iload 4 129,
  zo_none,
  zo_callv zzSR (zz_cl [(10, fX12_applies)]) 4 132,
  zo_none,
  zo_none,
  zo_if (fun x => decide (¬ x = 0)) 139 135,
  zo_none,
  zo_none,
  zo_pushI 3 136,
  zo_goto 140,
  zo_none,
  zo_none,
  zo_pushI 0 140,
  zo_callv zzSR (zz_cl [(10, fX12_goes)]) 1 143,
  zo_none,
  zo_none,
  zo_if (fun x => decide (x = 0)) 155 146,
  zo_none,
  zo_none,
  zo_aload 0 147,
  zo_getf zzSR (zz_kf [10] 9) 150,
  zo_none,
  zo_none,
  zo_iload 2 151,
  zo_iald zzSR zzSTR 152,
  zo_goto 156,
  zo_none,
  zo_none,
  zo_pushI 0 156,
  zo_iret false]
set_option maxRecDepth 100000 in
theorem tl_X12_apply : ∀ pc, zz_Tl (tX12_apply.getD pc zo_none) := by
  refine zz_Tl_mem ?_
  unfold tX12_apply
  refine List.forall_mem_cons.mpr ⟨(zo_aload_tl _ _), ?_⟩
  refine List.forall_mem_cons.mpr ⟨(zo_aload_tl _ _), ?_⟩
  refine List.forall_mem_cons.mpr ⟨(zo_iload_tl _ _), ?_⟩
  refine List.forall_mem_cons.mpr ⟨(zo_callv_tl _ _ _ _), ?_⟩
  refine List.forall_mem_cons.mpr ⟨zo_none_tl, ?_⟩
  refine List.forall_mem_cons.mpr ⟨zo_none_tl, ?_⟩
  refine List.forall_mem_cons.mpr ⟨(zo_if_tl _ _ _), ?_⟩
  refine List.forall_mem_cons.mpr ⟨zo_none_tl, ?_⟩
  refine List.forall_mem_cons.mpr ⟨zo_none_tl, ?_⟩
  refine List.forall_mem_cons.mpr ⟨(zo_pushI_tl _ _), ?_⟩
  refine List.forall_mem_cons.mpr ⟨(zo_goto_tl _), ?_⟩
  refine List.forall_mem_cons.mpr ⟨zo_none_tl, ?_⟩
  refine List.forall_mem_cons.mpr ⟨zo_none_tl, ?_⟩
  refine List.forall_mem_cons.mpr ⟨(zo_pushI_tl _ _), ?_⟩
  refine List.forall_mem_cons.mpr ⟨(zo_callv_tl _ _ _ _), ?_⟩
  refine List.forall_mem_cons.mpr ⟨zo_none_tl, ?_⟩
  refine List.forall_mem_cons.mpr ⟨zo_none_tl, ?_⟩
  refine List.forall_mem_cons.mpr ⟨(zo_if_tl _ _ _), ?_⟩
  refine List.forall_mem_cons.mpr ⟨zo_none_tl, ?_⟩
  refine List.forall_mem_cons.mpr ⟨zo_none_tl, ?_⟩
  refine List.forall_mem_cons.mpr ⟨(zo_aload_tl _ _), ?_⟩
  refine List.forall_mem_cons.mpr ⟨(zo_iload_tl _ _), ?_⟩
  refine List.forall_mem_cons.mpr ⟨(zo_calls_tl _ _ _), ?_⟩
  refine List.forall_mem_cons.mpr ⟨zo_none_tl, ?_⟩
  refine List.forall_mem_cons.mpr ⟨zo_none_tl, ?_⟩
  refine List.forall_mem_cons.mpr ⟨(zo_if_tl _ _ _), ?_⟩
  refine List.forall_mem_cons.mpr ⟨zo_none_tl, ?_⟩
  refine List.forall_mem_cons.mpr ⟨zo_none_tl, ?_⟩
  refine List.forall_mem_cons.mpr ⟨(zo_aload_tl _ _), ?_⟩
  refine List.forall_mem_cons.mpr ⟨(zo_aload_tl _ _), ?_⟩
  refine List.forall_mem_cons.mpr ⟨(zo_getf_tl _ _ _), ?_⟩
  refine List.forall_mem_cons.mpr ⟨zo_none_tl, ?_⟩
  refine List.forall_mem_cons.mpr ⟨zo_none_tl, ?_⟩
  refine List.forall_mem_cons.mpr ⟨(zo_iload_tl _ _), ?_⟩
  refine List.forall_mem_cons.mpr ⟨(zo_iald_tl _ _ _), ?_⟩
  refine List.forall_mem_cons.mpr ⟨(zo_iload_tl _ _), ?_⟩
  refine List.forall_mem_cons.mpr ⟨(zo_callv_tl _ _ _ _), ?_⟩
  refine List.forall_mem_cons.mpr ⟨zo_none_tl, ?_⟩
  refine List.forall_mem_cons.mpr ⟨zo_none_tl, ?_⟩
  refine List.forall_mem_cons.mpr ⟨(zo_if_tl _ _ _), ?_⟩
  refine List.forall_mem_cons.mpr ⟨zo_none_tl, ?_⟩
  refine List.forall_mem_cons.mpr ⟨zo_none_tl, ?_⟩
  refine List.forall_mem_cons.mpr ⟨(zo_aload_tl _ _), ?_⟩
  refine List.forall_mem_cons.mpr ⟨(zo_iload_tl _ _), ?_⟩
  refine List.forall_mem_cons.mpr ⟨(zo_iload_tl _ _), ?_⟩
  refine List.forall_mem_cons.mpr ⟨zo_none_tl, ?_⟩
  refine List.forall_mem_cons.mpr ⟨(zo_callv_tl _ _ _ _), ?_⟩
  refine List.forall_mem_cons.mpr ⟨zo_none_tl, ?_⟩
  refine List.forall_mem_cons.mpr ⟨zo_none_tl, ?_⟩
  refine List.forall_mem_cons.mpr ⟨(zo_if_tl _ _ _), ?_⟩
  refine List.forall_mem_cons.mpr ⟨zo_none_tl, ?_⟩
  refine List.forall_mem_cons.mpr ⟨zo_none_tl, ?_⟩
  refine List.forall_mem_cons.mpr ⟨(zo_pushI_tl _ _), ?_⟩
  refine List.forall_mem_cons.mpr ⟨(zo_goto_tl _), ?_⟩
  refine List.forall_mem_cons.mpr ⟨zo_none_tl, ?_⟩
  refine List.forall_mem_cons.mpr ⟨zo_none_tl, ?_⟩
  refine List.forall_mem_cons.mpr ⟨(zo_pushI_tl _ _), ?_⟩
  refine List.forall_mem_cons.mpr ⟨(zo_callv_tl _ _ _ _), ?_⟩
  refine List.forall_mem_cons.mpr ⟨zo_none_tl, ?_⟩
  refine List.forall_mem_cons.mpr ⟨zo_none_tl, ?_⟩
  refine List.forall_mem_cons.mpr ⟨(zo_if_tl _ _ _), ?_⟩
  refine List.forall_mem_cons.mpr ⟨zo_none_tl, ?_⟩
  refine List.forall_mem_cons.mpr ⟨zo_none_tl, ?_⟩
  refine List.forall_mem_cons.mpr ⟨(zo_pushI_tl _ _), ?_⟩
  refine List.forall_mem_cons.mpr ⟨(zo_iret_tl _), ?_⟩
  refine List.forall_mem_cons.mpr ⟨(zo_aload_tl _ _), ?_⟩
  refine List.forall_mem_cons.mpr ⟨(zo_iload_tl _ _), ?_⟩
  refine List.forall_mem_cons.mpr ⟨(zo_callv_tl _ _ _ _), ?_⟩
  refine List.forall_mem_cons.mpr ⟨zo_none_tl, ?_⟩
  refine List.forall_mem_cons.mpr ⟨zo_none_tl, ?_⟩
  refine List.forall_mem_cons.mpr ⟨(zo_if_tl _ _ _), ?_⟩
  refine List.forall_mem_cons.mpr ⟨zo_none_tl, ?_⟩
  refine List.forall_mem_cons.mpr ⟨zo_none_tl, ?_⟩
  refine List.forall_mem_cons.mpr ⟨(zo_iload_tl _ _), ?_⟩
  refine List.forall_mem_cons.mpr ⟨zo_none_tl, ?_⟩
  refine List.forall_mem_cons.mpr ⟨(zo_pushI_tl _ _), ?_⟩
  refine List.forall_mem_cons.mpr ⟨(zo_icmp_tl _ _ _), ?_⟩
  refine List.forall_mem_cons.mpr ⟨zo_none_tl, ?_⟩
  refine List.forall_mem_cons.mpr ⟨zo_none_tl, ?_⟩
  refine List.forall_mem_cons.mpr ⟨(zo_iload_tl _ _), ?_⟩
  refine List.forall_mem_cons.mpr ⟨zo_none_tl, ?_⟩
  refine List.forall_mem_cons.mpr ⟨(zo_aload_tl _ _), ?_⟩
  refine List.forall_mem_cons.mpr ⟨(zo_getf_tl _ _ _), ?_⟩
  refine List.forall_mem_cons.mpr ⟨zo_none_tl, ?_⟩
  refine List.forall_mem_cons.mpr ⟨zo_none_tl, ?_⟩
  refine List.forall_mem_cons.mpr ⟨(zo_iload_tl _ _), ?_⟩
  refine List.forall_mem_cons.mpr ⟨(zo_iald_tl _ _ _), ?_⟩
  refine List.forall_mem_cons.mpr ⟨(zo_icmp_tl _ _ _), ?_⟩
  refine List.forall_mem_cons.mpr ⟨zo_none_tl, ?_⟩
  refine List.forall_mem_cons.mpr ⟨zo_none_tl, ?_⟩
  refine List.forall_mem_cons.mpr ⟨(zo_iload_tl _ _), ?_⟩
  refine List.forall_mem_cons.mpr ⟨zo_none_tl, ?_⟩
  refine List.forall_mem_cons.mpr ⟨(zo_if_tl _ _ _), ?_⟩
  refine List.forall_mem_cons.mpr ⟨zo_none_tl, ?_⟩
  refine List.forall_mem_cons.mpr ⟨zo_none_tl, ?_⟩
  refine List.forall_mem_cons.mpr ⟨(zo_aload_tl _ _), ?_⟩
  refine List.forall_mem_cons.mpr ⟨(zo_getf_tl _ _ _), ?_⟩
  refine List.forall_mem_cons.mpr ⟨zo_none_tl, ?_⟩
  refine List.forall_mem_cons.mpr ⟨zo_none_tl, ?_⟩
  refine List.forall_mem_cons.mpr ⟨(zo_pushI_tl _ _), ?_⟩
  refine List.forall_mem_cons.mpr ⟨zo_none_tl, ?_⟩
  refine List.forall_mem_cons.mpr ⟨(zo_iload_tl _ _), ?_⟩
  refine List.forall_mem_cons.mpr ⟨(zo_ii_tl _ _), ?_⟩
  refine List.forall_mem_cons.mpr ⟨(zo_iload_tl _ _), ?_⟩
  refine List.forall_mem_cons.mpr ⟨(zo_ii_tl _ _), ?_⟩
  refine List.forall_mem_cons.mpr ⟨(zo_iald_tl _ _ _), ?_⟩
  refine List.forall_mem_cons.mpr ⟨(zo_iload_tl _ _), ?_⟩
  refine List.forall_mem_cons.mpr ⟨(zo_icmp_tl _ _ _), ?_⟩
  refine List.forall_mem_cons.mpr ⟨zo_none_tl, ?_⟩
  refine List.forall_mem_cons.mpr ⟨zo_none_tl, ?_⟩
  refine List.forall_mem_cons.mpr ⟨(zo_pushI_tl _ _), ?_⟩
  refine List.forall_mem_cons.mpr ⟨(zo_goto_tl _), ?_⟩
  refine List.forall_mem_cons.mpr ⟨zo_none_tl, ?_⟩
  refine List.forall_mem_cons.mpr ⟨zo_none_tl, ?_⟩
  refine List.forall_mem_cons.mpr ⟨(zo_pushI_tl _ _), ?_⟩
  refine List.forall_mem_cons.mpr ⟨(zo_istore_tl _ _), ?_⟩
  refine List.forall_mem_cons.mpr ⟨zo_none_tl, ?_⟩
  refine List.forall_mem_cons.mpr ⟨(zo_aload_tl _ _), ?_⟩
  refine List.forall_mem_cons.mpr ⟨(zo_iload_tl _ _), ?_⟩
  refine List.forall_mem_cons.mpr ⟨zo_none_tl, ?_⟩
  refine List.forall_mem_cons.mpr ⟨(zo_if_tl _ _ _), ?_⟩
  refine List.forall_mem_cons.mpr ⟨zo_none_tl, ?_⟩
  refine List.forall_mem_cons.mpr ⟨zo_none_tl, ?_⟩
  refine List.forall_mem_cons.mpr ⟨(zo_aload_tl _ _), ?_⟩
  refine List.forall_mem_cons.mpr ⟨(zo_iload_tl _ _), ?_⟩
  refine List.forall_mem_cons.mpr ⟨(zo_iload_tl _ _), ?_⟩
  refine List.forall_mem_cons.mpr ⟨(zo_iload_tl _ _), ?_⟩
  refine List.forall_mem_cons.mpr ⟨(zo_iload_tl _ _), ?_⟩
  refine List.forall_mem_cons.mpr ⟨zo_none_tl, ?_⟩
  refine List.forall_mem_cons.mpr ⟨(zo_callv_tl _ _ _ _), ?_⟩
  refine List.forall_mem_cons.mpr ⟨zo_none_tl, ?_⟩
  refine List.forall_mem_cons.mpr ⟨zo_none_tl, ?_⟩
  refine List.forall_mem_cons.mpr ⟨(zo_if_tl _ _ _), ?_⟩
  refine List.forall_mem_cons.mpr ⟨zo_none_tl, ?_⟩
  refine List.forall_mem_cons.mpr ⟨zo_none_tl, ?_⟩
  refine List.forall_mem_cons.mpr ⟨(zo_pushI_tl _ _), ?_⟩
  refine List.forall_mem_cons.mpr ⟨(zo_goto_tl _), ?_⟩
  refine List.forall_mem_cons.mpr ⟨zo_none_tl, ?_⟩
  refine List.forall_mem_cons.mpr ⟨zo_none_tl, ?_⟩
  refine List.forall_mem_cons.mpr ⟨(zo_pushI_tl _ _), ?_⟩
  refine List.forall_mem_cons.mpr ⟨(zo_callv_tl _ _ _ _), ?_⟩
  refine List.forall_mem_cons.mpr ⟨zo_none_tl, ?_⟩
  refine List.forall_mem_cons.mpr ⟨zo_none_tl, ?_⟩
  refine List.forall_mem_cons.mpr ⟨(zo_if_tl _ _ _), ?_⟩
  refine List.forall_mem_cons.mpr ⟨zo_none_tl, ?_⟩
  refine List.forall_mem_cons.mpr ⟨zo_none_tl, ?_⟩
  refine List.forall_mem_cons.mpr ⟨(zo_aload_tl _ _), ?_⟩
  refine List.forall_mem_cons.mpr ⟨(zo_getf_tl _ _ _), ?_⟩
  refine List.forall_mem_cons.mpr ⟨zo_none_tl, ?_⟩
  refine List.forall_mem_cons.mpr ⟨zo_none_tl, ?_⟩
  refine List.forall_mem_cons.mpr ⟨(zo_iload_tl _ _), ?_⟩
  refine List.forall_mem_cons.mpr ⟨(zo_iald_tl _ _ _), ?_⟩
  refine List.forall_mem_cons.mpr ⟨(zo_goto_tl _), ?_⟩
  refine List.forall_mem_cons.mpr ⟨zo_none_tl, ?_⟩
  refine List.forall_mem_cons.mpr ⟨zo_none_tl, ?_⟩
  refine List.forall_mem_cons.mpr ⟨(zo_pushI_tl _ _), ?_⟩
  refine List.forall_mem_cons.mpr ⟨(zo_iret_tl _), ?_⟩
  exact fun _ h => absurd h List.not_mem_nil
noncomputable def fX12_apply : zzFn := zz_fn tX12_apply 8
set_option maxRecDepth 100000 in
set_option maxHeartbeats 4000000 in
theorem mm_X12_apply {l : Launch} {D : va_G} {cA : Nat → ClassId} {ad : Nat → Nat} {Ex : (Nat → Prop) → State → Heap → Prop} (Wd : zzWR l D cA ad Ex) : zz_Cn l D zzCl cA ad zzSR Ex yX12_apply cX12_apply 8 (some .int) 3 84 fX12_apply ∧ zz_Cx l D zzCl cA ad zzSR Ex yX12_apply cX12_apply 8 (some .int) 3 84 fX12_apply := by
  refine zz_meth (plainFor_of_name (by decide)) Wd.1 Wd.2.1 Wd.2.2 (fun p e R s m args below meth c rr X => ?_)
  unfold tX12_apply
  refine zz_cons (k' := 1) rfl (zk_aload_n X dX12_apply_0 rfl rfl) ?_
  refine zz_cons (k' := 2) rfl (zk_aload_n X dX12_apply_1 rfl rfl) ?_
  refine zz_cons (k' := 3) rfl (zk_iload_n X dX12_apply_2 rfl rfl) ?_
  refine zz_cons (k' := 4) rfl (zk_callv X (zz_Cv_of (List.forall_mem_cons.mpr ⟨⟨(RX_10, zzT10, 50), yX12_isObject, cX12_isObject, 2, (some .boolean), 1, 22, rfl, kv_X12_377_10.1, (mm_X12_isObject Wd).1, by decide, by decide⟩, (fun _ h => absurd h List.not_mem_nil)⟩)) dX12_apply_3 rfl) ?_
  refine zz_cons (k' := 5) rfl (zz_Ok_none _ _) ?_
  refine zz_cons (k' := 6) rfl (zz_Ok_none _ _) ?_
  refine zz_cons (k' := 7) rfl (zk_if_eq X dX12_apply_6 (by decide) rfl) ?_
  refine zz_cons (k' := 8) rfl (zz_Ok_none _ _) ?_
  refine zz_cons (k' := 9) rfl (zz_Ok_none _ _) ?_
  refine zz_cons (k' := 10) rfl (zk_iconst X dX12_apply_9 (by decide) rfl) ?_
  refine zz_cons (k' := 11) rfl (zk_goto X dX12_apply_10 (by decide)) ?_
  refine zz_cons (k' := 12) rfl (zz_Ok_none _ _) ?_
  refine zz_cons (k' := 13) rfl (zz_Ok_none _ _) ?_
  refine zz_cons (k' := 14) rfl (zk_iconst X dX12_apply_13 (by decide) rfl) ?_
  refine zz_cons (k' := 15) rfl (zk_callv X (zz_Cv_of (List.forall_mem_cons.mpr ⟨⟨(RX_10, zzT10, 50), yX12_goes, cX12_goes, 2, (some .boolean), 0, 0, rfl, kv_X12_374_10.1, (mm_X12_goes Wd).1, by decide, by decide⟩, (fun _ h => absurd h List.not_mem_nil)⟩)) dX12_apply_14 rfl) ?_
  refine zz_cons (k' := 16) rfl (zz_Ok_none _ _) ?_
  refine zz_cons (k' := 17) rfl (zz_Ok_none _ _) ?_
  refine zz_cons (k' := 18) rfl (zk_if_eq X dX12_apply_17 (by decide) rfl) ?_
  refine zz_cons (k' := 19) rfl (zz_Ok_none _ _) ?_
  refine zz_cons (k' := 20) rfl (zz_Ok_none _ _) ?_
  refine zz_cons (k' := 21) rfl (zk_aload_n X dX12_apply_20 rfl rfl) ?_
  refine zz_cons (k' := 22) rfl (zk_iload_n X dX12_apply_21 rfl rfl) ?_
  refine zz_cons (k' := 23) rfl (zk_calls X ks_X12_368 (mm_X12_isManager Wd).1 (by decide) dX12_apply_22 rfl) ?_
  refine zz_cons (k' := 24) rfl (zz_Ok_none _ _) ?_
  refine zz_cons (k' := 25) rfl (zz_Ok_none _ _) ?_
  refine zz_cons (k' := 26) rfl (zk_if_eq X dX12_apply_25 (by decide) rfl) ?_
  refine zz_cons (k' := 27) rfl (zz_Ok_none _ _) ?_
  refine zz_cons (k' := 28) rfl (zz_Ok_none _ _) ?_
  refine zz_cons (k' := 29) rfl (zk_aload_n X dX12_apply_28 rfl rfl) ?_
  refine zz_cons (k' := 30) rfl (zk_aload_n X dX12_apply_29 rfl rfl) ?_
  refine zz_cons (k' := 31) rfl (zk_getf X ff_X12_25 dX12_apply_30 rfl) ?_
  refine zz_cons (k' := 32) rfl (zz_Ok_none _ _) ?_
  refine zz_cons (k' := 33) rfl (zz_Ok_none _ _) ?_
  refine zz_cons (k' := 34) rfl (zk_iload_n X dX12_apply_33 rfl rfl) ?_
  refine zz_cons (k' := 35) rfl (zk_iald X (zzWR_st Wd) dX12_apply_34 rfl) ?_
  refine zz_cons (k' := 36) rfl (zk_iload_n X dX12_apply_35 rfl rfl) ?_
  refine zz_cons (k' := 37) rfl (zk_callv X (zz_Cv_of (List.forall_mem_cons.mpr ⟨⟨(RX_10, zzT10, 50), yX12_hasField, cX12_hasField, 3, (some .boolean), 1, 22, rfl, kv_X12_380_10.1, (mm_X12_hasField Wd).1, by decide, by decide⟩, (fun _ h => absurd h List.not_mem_nil)⟩)) dX12_apply_36 rfl) ?_
  refine zz_cons (k' := 38) rfl (zz_Ok_none _ _) ?_
  refine zz_cons (k' := 39) rfl (zz_Ok_none _ _) ?_
  refine zz_cons (k' := 40) rfl (zk_if_eq X dX12_apply_39 (by decide) rfl) ?_
  refine zz_cons (k' := 41) rfl (zz_Ok_none _ _) ?_
  refine zz_cons (k' := 42) rfl (zz_Ok_none _ _) ?_
  refine zz_cons (k' := 43) rfl (zk_aload_n X dX12_apply_42 rfl rfl) ?_
  refine zz_cons (k' := 44) rfl (zk_iload_n X dX12_apply_43 rfl rfl) ?_
  refine zz_cons (k' := 45) rfl (zk_iload X dX12_apply_44 rfl) ?_
  refine zz_cons (k' := 46) rfl (zz_Ok_none _ _) ?_
  refine zz_cons (k' := 47) rfl (zk_callv X (zz_Cv_of (List.forall_mem_cons.mpr ⟨⟨(RX_10, zzT10, 50), yX12_isValue, cX12_isValue, 3, (some .boolean), 1, 22, rfl, kv_X12_383_10.1, (mm_X12_isValue Wd).1, by decide, by decide⟩, (fun _ h => absurd h List.not_mem_nil)⟩)) dX12_apply_46 rfl) ?_
  refine zz_cons (k' := 48) rfl (zz_Ok_none _ _) ?_
  refine zz_cons (k' := 49) rfl (zz_Ok_none _ _) ?_
  refine zz_cons (k' := 50) rfl (zk_if_eq X dX12_apply_49 (by decide) rfl) ?_
  refine zz_cons (k' := 51) rfl (zz_Ok_none _ _) ?_
  refine zz_cons (k' := 52) rfl (zz_Ok_none _ _) ?_
  refine zz_cons (k' := 53) rfl (zk_iconst X dX12_apply_52 (by decide) rfl) ?_
  refine zz_cons (k' := 54) rfl (zk_goto X dX12_apply_53 (by decide)) ?_
  refine zz_cons (k' := 55) rfl (zz_Ok_none _ _) ?_
  refine zz_cons (k' := 56) rfl (zz_Ok_none _ _) ?_
  refine zz_cons (k' := 57) rfl (zk_iconst X dX12_apply_56 (by decide) rfl) ?_
  refine zz_cons (k' := 58) rfl (zk_callv X (zz_Cv_of (List.forall_mem_cons.mpr ⟨⟨(RX_10, zzT10, 50), yX12_goes, cX12_goes, 2, (some .boolean), 0, 0, rfl, kv_X12_374_10.1, (mm_X12_goes Wd).1, by decide, by decide⟩, (fun _ h => absurd h List.not_mem_nil)⟩)) dX12_apply_57 rfl) ?_
  refine zz_cons (k' := 59) rfl (zz_Ok_none _ _) ?_
  refine zz_cons (k' := 60) rfl (zz_Ok_none _ _) ?_
  refine zz_cons (k' := 61) rfl (zk_if_ne X dX12_apply_60 (by decide) rfl) ?_
  refine zz_cons (k' := 62) rfl (zz_Ok_none _ _) ?_
  refine zz_cons (k' := 63) rfl (zz_Ok_none _ _) ?_
  refine zz_cons (k' := 64) rfl (zk_iconst X dX12_apply_63 (by decide) rfl) ?_
  refine zz_cons (k' := 65) rfl (zk_iret X rfl dX12_apply_64) ?_
  refine zz_cons (k' := 66) rfl (zk_aload_n X dX12_apply_65 rfl rfl) ?_
  refine zz_cons (k' := 67) rfl (zk_iload_n X dX12_apply_66 rfl rfl) ?_
  refine zz_cons (k' := 68) rfl (zk_callv X (zz_Cv_of (List.forall_mem_cons.mpr ⟨⟨(RX_10, zzT10, 50), yX12_isGone, cX12_isGone, 2, (some .boolean), 1, 23, rfl, kv_X12_386_10.1, (mm_X12_isGone Wd).1, by decide, by decide⟩, (fun _ h => absurd h List.not_mem_nil)⟩)) dX12_apply_67 rfl) ?_
  refine zz_cons (k' := 69) rfl (zz_Ok_none _ _) ?_
  refine zz_cons (k' := 70) rfl (zz_Ok_none _ _) ?_
  refine zz_cons (k' := 71) rfl (zk_if_ne X dX12_apply_70 (by decide) rfl) ?_
  refine zz_cons (k' := 72) rfl (zz_Ok_none _ _) ?_
  refine zz_cons (k' := 73) rfl (zz_Ok_none _ _) ?_
  refine zz_cons (k' := 74) rfl (zk_iload X dX12_apply_73 rfl) ?_
  refine zz_cons (k' := 75) rfl (zz_Ok_none _ _) ?_
  refine zz_cons (k' := 76) rfl (zk_iconst X dX12_apply_75 (by decide) rfl) ?_
  refine zz_cons (k' := 77) rfl (zk_icmp_eq X dX12_apply_76 (by decide) rfl) ?_
  refine zz_cons (k' := 78) rfl (zz_Ok_none _ _) ?_
  refine zz_cons (k' := 79) rfl (zz_Ok_none _ _) ?_
  refine zz_cons (k' := 80) rfl (zk_iload X dX12_apply_79 rfl) ?_
  refine zz_cons (k' := 81) rfl (zz_Ok_none _ _) ?_
  refine zz_cons (k' := 82) rfl (zk_aload_n X dX12_apply_81 rfl rfl) ?_
  refine zz_cons (k' := 83) rfl (zk_getf X ff_X12_35 dX12_apply_82 rfl) ?_
  refine zz_cons (k' := 84) rfl (zz_Ok_none _ _) ?_
  refine zz_cons (k' := 85) rfl (zz_Ok_none _ _) ?_
  refine zz_cons (k' := 86) rfl (zk_iload_n X dX12_apply_85 rfl rfl) ?_
  refine zz_cons (k' := 87) rfl (zk_iald X (zzWR_st Wd) dX12_apply_86 rfl) ?_
  refine zz_cons (k' := 88) rfl (zk_icmp_ne X dX12_apply_87 (by decide) rfl) ?_
  refine zz_cons (k' := 89) rfl (zz_Ok_none _ _) ?_
  refine zz_cons (k' := 90) rfl (zz_Ok_none _ _) ?_
  refine zz_cons (k' := 91) rfl (zk_iload X dX12_apply_90 rfl) ?_
  refine zz_cons (k' := 92) rfl (zz_Ok_none _ _) ?_
  refine zz_cons (k' := 93) rfl (zk_if_ne X dX12_apply_92 (by decide) rfl) ?_
  refine zz_cons (k' := 94) rfl (zz_Ok_none _ _) ?_
  refine zz_cons (k' := 95) rfl (zz_Ok_none _ _) ?_
  refine zz_cons (k' := 96) rfl (zk_aload_n X dX12_apply_95 rfl rfl) ?_
  refine zz_cons (k' := 97) rfl (zk_getf X ff_X12_38 dX12_apply_96 rfl) ?_
  refine zz_cons (k' := 98) rfl (zz_Ok_none _ _) ?_
  refine zz_cons (k' := 99) rfl (zz_Ok_none _ _) ?_
  refine zz_cons (k' := 100) rfl (zk_bipush X dX12_apply_99 (by decide) rfl) ?_
  refine zz_cons (k' := 101) rfl (zz_Ok_none _ _) ?_
  refine zz_cons (k' := 102) rfl (zk_iload_n X dX12_apply_101 rfl rfl) ?_
  refine zz_cons (k' := 103) rfl (zk_imul X dX12_apply_102 rfl) ?_
  refine zz_cons (k' := 104) rfl (zk_iload_n X dX12_apply_103 rfl rfl) ?_
  refine zz_cons (k' := 105) rfl (zk_iadd X dX12_apply_104 rfl) ?_
  refine zz_cons (k' := 106) rfl (zk_iald X (zzWR_st Wd) dX12_apply_105 rfl) ?_
  refine zz_cons (k' := 107) rfl (zk_iload_n X dX12_apply_106 rfl rfl) ?_
  refine zz_cons (k' := 108) rfl (zk_icmp_eq X dX12_apply_107 (by decide) rfl) ?_
  refine zz_cons (k' := 109) rfl (zz_Ok_none _ _) ?_
  refine zz_cons (k' := 110) rfl (zz_Ok_none _ _) ?_
  refine zz_cons (k' := 111) rfl (zk_iconst X dX12_apply_110 (by decide) rfl) ?_
  refine zz_cons (k' := 112) rfl (zk_goto X dX12_apply_111 (by decide)) ?_
  refine zz_cons (k' := 113) rfl (zz_Ok_none _ _) ?_
  refine zz_cons (k' := 114) rfl (zz_Ok_none _ _) ?_
  refine zz_cons (k' := 115) rfl (zk_iconst X dX12_apply_114 (by decide) rfl) ?_
  refine zz_cons (k' := 116) rfl (zk_istore X dX12_apply_115 (by decide) rfl) ?_
  refine zz_cons (k' := 117) rfl (zz_Ok_none _ _) ?_
  refine zz_cons (k' := 118) rfl (zk_aload_n X dX12_apply_117 rfl rfl) ?_
  refine zz_cons (k' := 119) rfl (zk_iload X dX12_apply_118 rfl) ?_
  refine zz_cons (k' := 120) rfl (zz_Ok_none _ _) ?_
  refine zz_cons (k' := 121) rfl (zk_if_ne X dX12_apply_120 (by decide) rfl) ?_
  refine zz_cons (k' := 122) rfl (zz_Ok_none _ _) ?_
  refine zz_cons (k' := 123) rfl (zz_Ok_none _ _) ?_
  refine zz_cons (k' := 124) rfl (zk_aload_n X dX12_apply_123 rfl rfl) ?_
  refine zz_cons (k' := 125) rfl (zk_iload_n X dX12_apply_124 rfl rfl) ?_
  refine zz_cons (k' := 126) rfl (zk_iload_n X dX12_apply_125 rfl rfl) ?_
  refine zz_cons (k' := 127) rfl (zk_iload_n X dX12_apply_126 rfl rfl) ?_
  refine zz_cons (k' := 128) rfl (zk_iload X dX12_apply_127 rfl) ?_
  refine zz_cons (k' := 129) rfl (zz_Ok_none _ _) ?_
  refine zz_cons (k' := 130) rfl (zk_callv X (zz_Cv_of (List.forall_mem_cons.mpr ⟨⟨(RX_10, zzT10, 50), yX12_applies, cX12_applies, 8, (some .boolean), 2, 57, rfl, kv_X12_253_10.1, (mm_X12_applies Wd).1, by decide, by decide⟩, (fun _ h => absurd h List.not_mem_nil)⟩)) dX12_apply_129 rfl) ?_
  refine zz_cons (k' := 131) rfl (zz_Ok_none _ _) ?_
  refine zz_cons (k' := 132) rfl (zz_Ok_none _ _) ?_
  refine zz_cons (k' := 133) rfl (zk_if_ne X dX12_apply_132 (by decide) rfl) ?_
  refine zz_cons (k' := 134) rfl (zz_Ok_none _ _) ?_
  refine zz_cons (k' := 135) rfl (zz_Ok_none _ _) ?_
  refine zz_cons (k' := 136) rfl (zk_iconst X dX12_apply_135 (by decide) rfl) ?_
  refine zz_cons (k' := 137) rfl (zk_goto X dX12_apply_136 (by decide)) ?_
  refine zz_cons (k' := 138) rfl (zz_Ok_none _ _) ?_
  refine zz_cons (k' := 139) rfl (zz_Ok_none _ _) ?_
  refine zz_cons (k' := 140) rfl (zk_iconst X dX12_apply_139 (by decide) rfl) ?_
  refine zz_cons (k' := 141) rfl (zk_callv X (zz_Cv_of (List.forall_mem_cons.mpr ⟨⟨(RX_10, zzT10, 50), yX12_goes, cX12_goes, 2, (some .boolean), 0, 0, rfl, kv_X12_374_10.1, (mm_X12_goes Wd).1, by decide, by decide⟩, (fun _ h => absurd h List.not_mem_nil)⟩)) dX12_apply_140 rfl) ?_
  refine zz_cons (k' := 142) rfl (zz_Ok_none _ _) ?_
  refine zz_cons (k' := 143) rfl (zz_Ok_none _ _) ?_
  refine zz_cons (k' := 144) rfl (zk_if_eq X dX12_apply_143 (by decide) rfl) ?_
  refine zz_cons (k' := 145) rfl (zz_Ok_none _ _) ?_
  refine zz_cons (k' := 146) rfl (zz_Ok_none _ _) ?_
  refine zz_cons (k' := 147) rfl (zk_aload_n X dX12_apply_146 rfl rfl) ?_
  refine zz_cons (k' := 148) rfl (zk_getf X ff_X12_35 dX12_apply_147 rfl) ?_
  refine zz_cons (k' := 149) rfl (zz_Ok_none _ _) ?_
  refine zz_cons (k' := 150) rfl (zz_Ok_none _ _) ?_
  refine zz_cons (k' := 151) rfl (zk_iload_n X dX12_apply_150 rfl rfl) ?_
  refine zz_cons (k' := 152) rfl (zk_iald X (zzWR_st Wd) dX12_apply_151 rfl) ?_
  refine zz_cons (k' := 153) rfl (zk_goto X dX12_apply_152 (by decide)) ?_
  refine zz_cons (k' := 154) rfl (zz_Ok_none _ _) ?_
  refine zz_cons (k' := 155) rfl (zz_Ok_none _ _) ?_
  refine zz_cons (k' := 156) rfl (zk_iconst X dX12_apply_155 (by decide) rfl) ?_
  refine zz_cons (k' := 157) rfl (zk_iret X rfl dX12_apply_156) ?_
  exact trivial
noncomputable def tX12_applyBudget : List zzOp := [
  zo_aload 0 1,
  zo_aload 0 2,
  zo_iload 2 3,
  zo_callv zzSR (zz_cl [(10, fX12_isObject)]) 1 6,
  zo_none,
  zo_none,
  zo_if (fun x => decide (x = 0)) 13 9,
  zo_none,
  zo_none,
  zo_pushI 0 10,
  zo_goto 14,
  zo_none,
  zo_none,
  zo_pushI 1 14,
  zo_callv zzSR (zz_cl [(10, fX12_goes)]) 1 17,
  zo_none,
  zo_none,
  zo_if (fun x => decide (¬ x = 0)) 22 20,
  zo_none,
  zo_none,
  zo_pushI 0 21,
  zo_iret false,
  zo_iload 1 23,
  zo_calls fX12_isManager 1 26,
  zo_none,
  zo_none,
  zo_if (fun x => decide (x = 0)) 70 29,
  zo_none,
  zo_none,
  zo_aload 0 30,
  zo_getf zzSR (zz_kf [10] 6) 33,
  zo_none,
  zo_none,
  zo_iload 2 34,
  zo_iald zzSR zzSTR 35,
  zo_if (fun x => decide (¬ x = 0)) 70 38,
  zo_none,
  zo_none,
  zo_iload 3 39,
  zo_if (fun x => decide (x < 0)) 70 42,
  zo_none,
  zo_none,
  zo_aload 0 43,
  zo_pushI 2 44,
  zo_iload 3 45,
  zo_pushI 10 47,
  zo_none,
  zo_iid (fun x y => x / y) 48,
  zo_callv zzSR (zz_cl [(10, fX12_isValue)]) 2 51,
  zo_none,
  zo_none,
  zo_if (fun x => decide (x = 0)) 70 54,
  zo_none,
  zo_none,
  zo_aload 0 55,
  zo_pushI 3 56,
  zo_iload 3 57,
  zo_pushI 10 59,
  zo_none,
  zo_iid (fun x y => x - x / y * y) 60,
  zo_callv zzSR (zz_cl [(10, fX12_isValue)]) 2 63,
  zo_none,
  zo_none,
  zo_if (fun x => decide (x = 0)) 70 66,
  zo_none,
  zo_none,
  zo_pushI 1 67,
  zo_goto 71,
  zo_none,
  zo_none,
  zo_pushI 0 71,
  zo_istore 5 73,
  zo_none,
  zo_aload 0 74,
  zo_iload 5 76,
  zo_none,
  zo_if (fun x => decide (x = 0)) 83 79,
  zo_none,
  zo_none,
  zo_pushI 0 80,
  zo_goto 84,
  zo_none,
  zo_none,
  zo_pushI 2 84,
  zo_callv zzSR (zz_cl [(10, fX12_goes)]) 1 87,
  zo_none,
  zo_none,
  zo_if (fun x => decide (¬ x = 0)) 92 90,
  zo_none,
  zo_none,
  zo_pushI 0 91,
  zo_iret false,
  zo_pushI 11 94,
  zo_none,
  zo_iload 2 95,
  zo_ii (fun x y => x * y) 96,
  zo_istore 6 98,
  zo_none,
  zo_aload 0 99,
  zo_getf zzSR (zz_kf [10] 10) 102,
  zo_none,
  zo_none,
  zo_iload 6 104,
  zo_none,
  zo_pushI 2 105,
  zo_ii (fun x y => x + y) 106,
  zo_iald zzSR zzSTR 107,
  zo_iload 1 108,
  zo_icmp (fun x y => decide (¬ x = y)) 124 111,
  zo_none,
  zo_none,
  zo_aload 0 112,
  zo_getf zzSR (zz_kf [10] 10) 115,
  zo_none,
  zo_none,
  zo_iload 6 117,
  zo_none,
  zo_pushI 3 118,
  zo_ii (fun x y => x + y) 119,
  zo_iald zzSR zzSTR 120,
  zo_iload 1 121,
  zo_icmp (fun x y => decide (x = y)) 128 124,
  zo_none,
  zo_none,
  zo_pushI 1 125,
  zo_goto 129,
  zo_none,
  zo_none,
  zo_pushI 0 129,
  zo_istore 7 131,
  zo_none,
  zo_aload 0 132,
  zo_pushI 0 133,
  zo_aload 0 134,
  zo_aload 0 135,
  zo_aload 0 136,
  zo_getf zzSR (zz_kf [10] 7) 139,
  zo_none,
  zo_none,
  zo_iload 2 140,
  zo_lald zzSR 141,
  zo_pushI 2 142,
  zo_iload 3 143,
  zo_pushI 10 145,
  zo_none,
  zo_iid (fun x y => x / y) 146,
  zo_callv zzSR (zz_cl [(10, fX12_with)]) 3 149,
  zo_none,
  zo_none,
  zo_pushI 3 150,
  zo_iload 3 151,
  zo_pushI 10 153,
  zo_none,
  zo_iid (fun x y => x - x / y * y) 154,
  zo_callv zzSR (zz_cl [(10, fX12_with)]) 3 157,
  zo_none,
  zo_none,
  zo_callv zzSR (zz_cl [(10, fX12_admitted)]) 2 160,
  zo_none,
  zo_none,
  zo_lstore 8 162,
  zo_none,
  zo_aload 0 163,
  zo_iload 2 164,
  zo_callv zzSR (zz_cl [(10, fX12_isGone)]) 1 167,
  zo_none,
  zo_none,
  zo_if (fun x => decide (¬ x = 0)) 187 170,
  zo_none,
  zo_none,
  zo_iload 7 172,
  zo_none,
  zo_if (fun x => decide (x = 0)) 180 175,
  zo_none,
  zo_none,
  zo_iload 4 177,
  zo_none,
  zo_if (fun x => decide (x = 0)) 187 180,
  zo_none,
  zo_none,
  zo_aload 0 181,
  zo_getf zzSR (zz_kf [10] 31) 184,
  zo_none,
  zo_none,
  zo_if (fun x => decide (x = 0)) 191 187,
  zo_none,
  zo_none,
  zo_pushI 1 188,
  zo_goto 192,
  zo_none,
  zo_none,
  zo_pushI 0 192,
  zo_istore 10 194,
  zo_none,
  zo_aload 0 195,
  zo_iload 10 197,
  zo_none,
  zo_if (fun x => decide (¬ x = 0)) 218 200,
  zo_none,
  zo_none,
  zo_aload 0 201,
  zo_iload 2 202,
  zo_lload 8 204,
  zo_none,
  zo_aload 0 205,
  zo_getf zzSR (zz_kf [10] 8) 208,
  zo_none,
  zo_none,
  zo_iload 2 209,
  zo_lald zzSR 210,
  zo_iload 7 212,
  zo_none,
  zo_callv zzSR (zz_cl [(10, fX12_puts)]) 4 215,
  zo_none,
  zo_none,
  zo_if (fun x => decide (¬ x = 0)) 222 218,
  zo_none,
  zo_none,
  zo_pushI 3 219,
  zo_goto 223,
  zo_none,
  zo_none,
  zo_pushI 0 223,
  zo_callv zzSR (zz_cl [(10, fX12_goes)]) 1 226,
  zo_none,
  zo_none,
  zo_if (fun x => decide (¬ x = 0)) 231 229,
  zo_none,
  zo_none,
  zo_pushI 0 230,
  zo_iret false,
  zo_aload 0 232,
  zo_getf zzSR (zz_kf [10] 10) 235,
  zo_none,
  zo_none,
  zo_iload 6 237,
  zo_none,
  zo_pushI 2 238,
  zo_ii (fun x y => x + y) 239,
  zo_iload 1 240,
  zo_iast zzSR 241,
  zo_aload 0 242,
  zo_getf zzSR (zz_kf [10] 10) 245,
  zo_none,
  zo_none,
  zo_iload 6 247,
  zo_none,
  zo_pushI 3 248,
  zo_ii (fun x y => x + y) 249,
  zo_iload 1 250,
  zo_iast zzSR 251,
  zo_aload 0 252,
  zo_getf zzSR (zz_kf [10] 9) 255,
  zo_none,
  zo_none,
  zo_iload 2 256,
  zo_iald zzSR zzSTR 257,
  zo_iret false]
set_option maxRecDepth 100000 in
theorem tl_X12_applyBudget : ∀ pc, zz_Tl (tX12_applyBudget.getD pc zo_none) := by
  refine zz_Tl_mem ?_
  unfold tX12_applyBudget
  refine List.forall_mem_cons.mpr ⟨(zo_aload_tl _ _), ?_⟩
  refine List.forall_mem_cons.mpr ⟨(zo_aload_tl _ _), ?_⟩
  refine List.forall_mem_cons.mpr ⟨(zo_iload_tl _ _), ?_⟩
  refine List.forall_mem_cons.mpr ⟨(zo_callv_tl _ _ _ _), ?_⟩
  refine List.forall_mem_cons.mpr ⟨zo_none_tl, ?_⟩
  refine List.forall_mem_cons.mpr ⟨zo_none_tl, ?_⟩
  refine List.forall_mem_cons.mpr ⟨(zo_if_tl _ _ _), ?_⟩
  refine List.forall_mem_cons.mpr ⟨zo_none_tl, ?_⟩
  refine List.forall_mem_cons.mpr ⟨zo_none_tl, ?_⟩
  refine List.forall_mem_cons.mpr ⟨(zo_pushI_tl _ _), ?_⟩
  refine List.forall_mem_cons.mpr ⟨(zo_goto_tl _), ?_⟩
  refine List.forall_mem_cons.mpr ⟨zo_none_tl, ?_⟩
  refine List.forall_mem_cons.mpr ⟨zo_none_tl, ?_⟩
  refine List.forall_mem_cons.mpr ⟨(zo_pushI_tl _ _), ?_⟩
  refine List.forall_mem_cons.mpr ⟨(zo_callv_tl _ _ _ _), ?_⟩
  refine List.forall_mem_cons.mpr ⟨zo_none_tl, ?_⟩
  refine List.forall_mem_cons.mpr ⟨zo_none_tl, ?_⟩
  refine List.forall_mem_cons.mpr ⟨(zo_if_tl _ _ _), ?_⟩
  refine List.forall_mem_cons.mpr ⟨zo_none_tl, ?_⟩
  refine List.forall_mem_cons.mpr ⟨zo_none_tl, ?_⟩
  refine List.forall_mem_cons.mpr ⟨(zo_pushI_tl _ _), ?_⟩
  refine List.forall_mem_cons.mpr ⟨(zo_iret_tl _), ?_⟩
  refine List.forall_mem_cons.mpr ⟨(zo_iload_tl _ _), ?_⟩
  refine List.forall_mem_cons.mpr ⟨(zo_calls_tl _ _ _), ?_⟩
  refine List.forall_mem_cons.mpr ⟨zo_none_tl, ?_⟩
  refine List.forall_mem_cons.mpr ⟨zo_none_tl, ?_⟩
  refine List.forall_mem_cons.mpr ⟨(zo_if_tl _ _ _), ?_⟩
  refine List.forall_mem_cons.mpr ⟨zo_none_tl, ?_⟩
  refine List.forall_mem_cons.mpr ⟨zo_none_tl, ?_⟩
  refine List.forall_mem_cons.mpr ⟨(zo_aload_tl _ _), ?_⟩
  refine List.forall_mem_cons.mpr ⟨(zo_getf_tl _ _ _), ?_⟩
  refine List.forall_mem_cons.mpr ⟨zo_none_tl, ?_⟩
  refine List.forall_mem_cons.mpr ⟨zo_none_tl, ?_⟩
  refine List.forall_mem_cons.mpr ⟨(zo_iload_tl _ _), ?_⟩
  refine List.forall_mem_cons.mpr ⟨(zo_iald_tl _ _ _), ?_⟩
  refine List.forall_mem_cons.mpr ⟨(zo_if_tl _ _ _), ?_⟩
  refine List.forall_mem_cons.mpr ⟨zo_none_tl, ?_⟩
  refine List.forall_mem_cons.mpr ⟨zo_none_tl, ?_⟩
  refine List.forall_mem_cons.mpr ⟨(zo_iload_tl _ _), ?_⟩
  refine List.forall_mem_cons.mpr ⟨(zo_if_tl _ _ _), ?_⟩
  refine List.forall_mem_cons.mpr ⟨zo_none_tl, ?_⟩
  refine List.forall_mem_cons.mpr ⟨zo_none_tl, ?_⟩
  refine List.forall_mem_cons.mpr ⟨(zo_aload_tl _ _), ?_⟩
  refine List.forall_mem_cons.mpr ⟨(zo_pushI_tl _ _), ?_⟩
  refine List.forall_mem_cons.mpr ⟨(zo_iload_tl _ _), ?_⟩
  refine List.forall_mem_cons.mpr ⟨(zo_pushI_tl _ _), ?_⟩
  refine List.forall_mem_cons.mpr ⟨zo_none_tl, ?_⟩
  refine List.forall_mem_cons.mpr ⟨(zo_iid_tl _ _), ?_⟩
  refine List.forall_mem_cons.mpr ⟨(zo_callv_tl _ _ _ _), ?_⟩
  refine List.forall_mem_cons.mpr ⟨zo_none_tl, ?_⟩
  refine List.forall_mem_cons.mpr ⟨zo_none_tl, ?_⟩
  refine List.forall_mem_cons.mpr ⟨(zo_if_tl _ _ _), ?_⟩
  refine List.forall_mem_cons.mpr ⟨zo_none_tl, ?_⟩
  refine List.forall_mem_cons.mpr ⟨zo_none_tl, ?_⟩
  refine List.forall_mem_cons.mpr ⟨(zo_aload_tl _ _), ?_⟩
  refine List.forall_mem_cons.mpr ⟨(zo_pushI_tl _ _), ?_⟩
  refine List.forall_mem_cons.mpr ⟨(zo_iload_tl _ _), ?_⟩
  refine List.forall_mem_cons.mpr ⟨(zo_pushI_tl _ _), ?_⟩
  refine List.forall_mem_cons.mpr ⟨zo_none_tl, ?_⟩
  refine List.forall_mem_cons.mpr ⟨(zo_iid_tl _ _), ?_⟩
  refine List.forall_mem_cons.mpr ⟨(zo_callv_tl _ _ _ _), ?_⟩
  refine List.forall_mem_cons.mpr ⟨zo_none_tl, ?_⟩
  refine List.forall_mem_cons.mpr ⟨zo_none_tl, ?_⟩
  refine List.forall_mem_cons.mpr ⟨(zo_if_tl _ _ _), ?_⟩
  refine List.forall_mem_cons.mpr ⟨zo_none_tl, ?_⟩
  refine List.forall_mem_cons.mpr ⟨zo_none_tl, ?_⟩
  refine List.forall_mem_cons.mpr ⟨(zo_pushI_tl _ _), ?_⟩
  refine List.forall_mem_cons.mpr ⟨(zo_goto_tl _), ?_⟩
  refine List.forall_mem_cons.mpr ⟨zo_none_tl, ?_⟩
  refine List.forall_mem_cons.mpr ⟨zo_none_tl, ?_⟩
  refine List.forall_mem_cons.mpr ⟨(zo_pushI_tl _ _), ?_⟩
  refine List.forall_mem_cons.mpr ⟨(zo_istore_tl _ _), ?_⟩
  refine List.forall_mem_cons.mpr ⟨zo_none_tl, ?_⟩
  refine List.forall_mem_cons.mpr ⟨(zo_aload_tl _ _), ?_⟩
  refine List.forall_mem_cons.mpr ⟨(zo_iload_tl _ _), ?_⟩
  refine List.forall_mem_cons.mpr ⟨zo_none_tl, ?_⟩
  refine List.forall_mem_cons.mpr ⟨(zo_if_tl _ _ _), ?_⟩
  refine List.forall_mem_cons.mpr ⟨zo_none_tl, ?_⟩
  refine List.forall_mem_cons.mpr ⟨zo_none_tl, ?_⟩
  refine List.forall_mem_cons.mpr ⟨(zo_pushI_tl _ _), ?_⟩
  refine List.forall_mem_cons.mpr ⟨(zo_goto_tl _), ?_⟩
  refine List.forall_mem_cons.mpr ⟨zo_none_tl, ?_⟩
  refine List.forall_mem_cons.mpr ⟨zo_none_tl, ?_⟩
  refine List.forall_mem_cons.mpr ⟨(zo_pushI_tl _ _), ?_⟩
  refine List.forall_mem_cons.mpr ⟨(zo_callv_tl _ _ _ _), ?_⟩
  refine List.forall_mem_cons.mpr ⟨zo_none_tl, ?_⟩
  refine List.forall_mem_cons.mpr ⟨zo_none_tl, ?_⟩
  refine List.forall_mem_cons.mpr ⟨(zo_if_tl _ _ _), ?_⟩
  refine List.forall_mem_cons.mpr ⟨zo_none_tl, ?_⟩
  refine List.forall_mem_cons.mpr ⟨zo_none_tl, ?_⟩
  refine List.forall_mem_cons.mpr ⟨(zo_pushI_tl _ _), ?_⟩
  refine List.forall_mem_cons.mpr ⟨(zo_iret_tl _), ?_⟩
  refine List.forall_mem_cons.mpr ⟨(zo_pushI_tl _ _), ?_⟩
  refine List.forall_mem_cons.mpr ⟨zo_none_tl, ?_⟩
  refine List.forall_mem_cons.mpr ⟨(zo_iload_tl _ _), ?_⟩
  refine List.forall_mem_cons.mpr ⟨(zo_ii_tl _ _), ?_⟩
  refine List.forall_mem_cons.mpr ⟨(zo_istore_tl _ _), ?_⟩
  refine List.forall_mem_cons.mpr ⟨zo_none_tl, ?_⟩
  refine List.forall_mem_cons.mpr ⟨(zo_aload_tl _ _), ?_⟩
  refine List.forall_mem_cons.mpr ⟨(zo_getf_tl _ _ _), ?_⟩
  refine List.forall_mem_cons.mpr ⟨zo_none_tl, ?_⟩
  refine List.forall_mem_cons.mpr ⟨zo_none_tl, ?_⟩
  refine List.forall_mem_cons.mpr ⟨(zo_iload_tl _ _), ?_⟩
  refine List.forall_mem_cons.mpr ⟨zo_none_tl, ?_⟩
  refine List.forall_mem_cons.mpr ⟨(zo_pushI_tl _ _), ?_⟩
  refine List.forall_mem_cons.mpr ⟨(zo_ii_tl _ _), ?_⟩
  refine List.forall_mem_cons.mpr ⟨(zo_iald_tl _ _ _), ?_⟩
  refine List.forall_mem_cons.mpr ⟨(zo_iload_tl _ _), ?_⟩
  refine List.forall_mem_cons.mpr ⟨(zo_icmp_tl _ _ _), ?_⟩
  refine List.forall_mem_cons.mpr ⟨zo_none_tl, ?_⟩
  refine List.forall_mem_cons.mpr ⟨zo_none_tl, ?_⟩
  refine List.forall_mem_cons.mpr ⟨(zo_aload_tl _ _), ?_⟩
  refine List.forall_mem_cons.mpr ⟨(zo_getf_tl _ _ _), ?_⟩
  refine List.forall_mem_cons.mpr ⟨zo_none_tl, ?_⟩
  refine List.forall_mem_cons.mpr ⟨zo_none_tl, ?_⟩
  refine List.forall_mem_cons.mpr ⟨(zo_iload_tl _ _), ?_⟩
  refine List.forall_mem_cons.mpr ⟨zo_none_tl, ?_⟩
  refine List.forall_mem_cons.mpr ⟨(zo_pushI_tl _ _), ?_⟩
  refine List.forall_mem_cons.mpr ⟨(zo_ii_tl _ _), ?_⟩
  refine List.forall_mem_cons.mpr ⟨(zo_iald_tl _ _ _), ?_⟩
  refine List.forall_mem_cons.mpr ⟨(zo_iload_tl _ _), ?_⟩
  refine List.forall_mem_cons.mpr ⟨(zo_icmp_tl _ _ _), ?_⟩
  refine List.forall_mem_cons.mpr ⟨zo_none_tl, ?_⟩
  refine List.forall_mem_cons.mpr ⟨zo_none_tl, ?_⟩
  refine List.forall_mem_cons.mpr ⟨(zo_pushI_tl _ _), ?_⟩
  refine List.forall_mem_cons.mpr ⟨(zo_goto_tl _), ?_⟩
  refine List.forall_mem_cons.mpr ⟨zo_none_tl, ?_⟩
  refine List.forall_mem_cons.mpr ⟨zo_none_tl, ?_⟩
  refine List.forall_mem_cons.mpr ⟨(zo_pushI_tl _ _), ?_⟩
  refine List.forall_mem_cons.mpr ⟨(zo_istore_tl _ _), ?_⟩
  refine List.forall_mem_cons.mpr ⟨zo_none_tl, ?_⟩
  refine List.forall_mem_cons.mpr ⟨(zo_aload_tl _ _), ?_⟩
  refine List.forall_mem_cons.mpr ⟨(zo_pushI_tl _ _), ?_⟩
  refine List.forall_mem_cons.mpr ⟨(zo_aload_tl _ _), ?_⟩
  refine List.forall_mem_cons.mpr ⟨(zo_aload_tl _ _), ?_⟩
  refine List.forall_mem_cons.mpr ⟨(zo_aload_tl _ _), ?_⟩
  refine List.forall_mem_cons.mpr ⟨(zo_getf_tl _ _ _), ?_⟩
  refine List.forall_mem_cons.mpr ⟨zo_none_tl, ?_⟩
  refine List.forall_mem_cons.mpr ⟨zo_none_tl, ?_⟩
  refine List.forall_mem_cons.mpr ⟨(zo_iload_tl _ _), ?_⟩
  refine List.forall_mem_cons.mpr ⟨(zo_lald_tl _ _), ?_⟩
  refine List.forall_mem_cons.mpr ⟨(zo_pushI_tl _ _), ?_⟩
  refine List.forall_mem_cons.mpr ⟨(zo_iload_tl _ _), ?_⟩
  refine List.forall_mem_cons.mpr ⟨(zo_pushI_tl _ _), ?_⟩
  refine List.forall_mem_cons.mpr ⟨zo_none_tl, ?_⟩
  refine List.forall_mem_cons.mpr ⟨(zo_iid_tl _ _), ?_⟩
  refine List.forall_mem_cons.mpr ⟨(zo_callv_tl _ _ _ _), ?_⟩
  refine List.forall_mem_cons.mpr ⟨zo_none_tl, ?_⟩
  refine List.forall_mem_cons.mpr ⟨zo_none_tl, ?_⟩
  refine List.forall_mem_cons.mpr ⟨(zo_pushI_tl _ _), ?_⟩
  refine List.forall_mem_cons.mpr ⟨(zo_iload_tl _ _), ?_⟩
  refine List.forall_mem_cons.mpr ⟨(zo_pushI_tl _ _), ?_⟩
  refine List.forall_mem_cons.mpr ⟨zo_none_tl, ?_⟩
  refine List.forall_mem_cons.mpr ⟨(zo_iid_tl _ _), ?_⟩
  refine List.forall_mem_cons.mpr ⟨(zo_callv_tl _ _ _ _), ?_⟩
  refine List.forall_mem_cons.mpr ⟨zo_none_tl, ?_⟩
  refine List.forall_mem_cons.mpr ⟨zo_none_tl, ?_⟩
  refine List.forall_mem_cons.mpr ⟨(zo_callv_tl _ _ _ _), ?_⟩
  refine List.forall_mem_cons.mpr ⟨zo_none_tl, ?_⟩
  refine List.forall_mem_cons.mpr ⟨zo_none_tl, ?_⟩
  refine List.forall_mem_cons.mpr ⟨(zo_lstore_tl _ _), ?_⟩
  refine List.forall_mem_cons.mpr ⟨zo_none_tl, ?_⟩
  refine List.forall_mem_cons.mpr ⟨(zo_aload_tl _ _), ?_⟩
  refine List.forall_mem_cons.mpr ⟨(zo_iload_tl _ _), ?_⟩
  refine List.forall_mem_cons.mpr ⟨(zo_callv_tl _ _ _ _), ?_⟩
  refine List.forall_mem_cons.mpr ⟨zo_none_tl, ?_⟩
  refine List.forall_mem_cons.mpr ⟨zo_none_tl, ?_⟩
  refine List.forall_mem_cons.mpr ⟨(zo_if_tl _ _ _), ?_⟩
  refine List.forall_mem_cons.mpr ⟨zo_none_tl, ?_⟩
  refine List.forall_mem_cons.mpr ⟨zo_none_tl, ?_⟩
  refine List.forall_mem_cons.mpr ⟨(zo_iload_tl _ _), ?_⟩
  refine List.forall_mem_cons.mpr ⟨zo_none_tl, ?_⟩
  refine List.forall_mem_cons.mpr ⟨(zo_if_tl _ _ _), ?_⟩
  refine List.forall_mem_cons.mpr ⟨zo_none_tl, ?_⟩
  refine List.forall_mem_cons.mpr ⟨zo_none_tl, ?_⟩
  refine List.forall_mem_cons.mpr ⟨(zo_iload_tl _ _), ?_⟩
  refine List.forall_mem_cons.mpr ⟨zo_none_tl, ?_⟩
  refine List.forall_mem_cons.mpr ⟨(zo_if_tl _ _ _), ?_⟩
  refine List.forall_mem_cons.mpr ⟨zo_none_tl, ?_⟩
  refine List.forall_mem_cons.mpr ⟨zo_none_tl, ?_⟩
  refine List.forall_mem_cons.mpr ⟨(zo_aload_tl _ _), ?_⟩
  refine List.forall_mem_cons.mpr ⟨(zo_getf_tl _ _ _), ?_⟩
  refine List.forall_mem_cons.mpr ⟨zo_none_tl, ?_⟩
  refine List.forall_mem_cons.mpr ⟨zo_none_tl, ?_⟩
  refine List.forall_mem_cons.mpr ⟨(zo_if_tl _ _ _), ?_⟩
  refine List.forall_mem_cons.mpr ⟨zo_none_tl, ?_⟩
  refine List.forall_mem_cons.mpr ⟨zo_none_tl, ?_⟩
  refine List.forall_mem_cons.mpr ⟨(zo_pushI_tl _ _), ?_⟩
  refine List.forall_mem_cons.mpr ⟨(zo_goto_tl _), ?_⟩
  refine List.forall_mem_cons.mpr ⟨zo_none_tl, ?_⟩
  refine List.forall_mem_cons.mpr ⟨zo_none_tl, ?_⟩
  refine List.forall_mem_cons.mpr ⟨(zo_pushI_tl _ _), ?_⟩
  refine List.forall_mem_cons.mpr ⟨(zo_istore_tl _ _), ?_⟩
  refine List.forall_mem_cons.mpr ⟨zo_none_tl, ?_⟩
  refine List.forall_mem_cons.mpr ⟨(zo_aload_tl _ _), ?_⟩
  refine List.forall_mem_cons.mpr ⟨(zo_iload_tl _ _), ?_⟩
  refine List.forall_mem_cons.mpr ⟨zo_none_tl, ?_⟩
  refine List.forall_mem_cons.mpr ⟨(zo_if_tl _ _ _), ?_⟩
  refine List.forall_mem_cons.mpr ⟨zo_none_tl, ?_⟩
  refine List.forall_mem_cons.mpr ⟨zo_none_tl, ?_⟩
  refine List.forall_mem_cons.mpr ⟨(zo_aload_tl _ _), ?_⟩
  refine List.forall_mem_cons.mpr ⟨(zo_iload_tl _ _), ?_⟩
  refine List.forall_mem_cons.mpr ⟨(zo_lload_tl _ _), ?_⟩
  refine List.forall_mem_cons.mpr ⟨zo_none_tl, ?_⟩
  refine List.forall_mem_cons.mpr ⟨(zo_aload_tl _ _), ?_⟩
  refine List.forall_mem_cons.mpr ⟨(zo_getf_tl _ _ _), ?_⟩
  refine List.forall_mem_cons.mpr ⟨zo_none_tl, ?_⟩
  refine List.forall_mem_cons.mpr ⟨zo_none_tl, ?_⟩
  refine List.forall_mem_cons.mpr ⟨(zo_iload_tl _ _), ?_⟩
  refine List.forall_mem_cons.mpr ⟨(zo_lald_tl _ _), ?_⟩
  refine List.forall_mem_cons.mpr ⟨(zo_iload_tl _ _), ?_⟩
  refine List.forall_mem_cons.mpr ⟨zo_none_tl, ?_⟩
  refine List.forall_mem_cons.mpr ⟨(zo_callv_tl _ _ _ _), ?_⟩
  refine List.forall_mem_cons.mpr ⟨zo_none_tl, ?_⟩
  refine List.forall_mem_cons.mpr ⟨zo_none_tl, ?_⟩
  refine List.forall_mem_cons.mpr ⟨(zo_if_tl _ _ _), ?_⟩
  refine List.forall_mem_cons.mpr ⟨zo_none_tl, ?_⟩
  refine List.forall_mem_cons.mpr ⟨zo_none_tl, ?_⟩
  refine List.forall_mem_cons.mpr ⟨(zo_pushI_tl _ _), ?_⟩
  refine List.forall_mem_cons.mpr ⟨(zo_goto_tl _), ?_⟩
  refine List.forall_mem_cons.mpr ⟨zo_none_tl, ?_⟩
  refine List.forall_mem_cons.mpr ⟨zo_none_tl, ?_⟩
  refine List.forall_mem_cons.mpr ⟨(zo_pushI_tl _ _), ?_⟩
  refine List.forall_mem_cons.mpr ⟨(zo_callv_tl _ _ _ _), ?_⟩
  refine List.forall_mem_cons.mpr ⟨zo_none_tl, ?_⟩
  refine List.forall_mem_cons.mpr ⟨zo_none_tl, ?_⟩
  refine List.forall_mem_cons.mpr ⟨(zo_if_tl _ _ _), ?_⟩
  refine List.forall_mem_cons.mpr ⟨zo_none_tl, ?_⟩
  refine List.forall_mem_cons.mpr ⟨zo_none_tl, ?_⟩
  refine List.forall_mem_cons.mpr ⟨(zo_pushI_tl _ _), ?_⟩
  refine List.forall_mem_cons.mpr ⟨(zo_iret_tl _), ?_⟩
  refine List.forall_mem_cons.mpr ⟨(zo_aload_tl _ _), ?_⟩
  refine List.forall_mem_cons.mpr ⟨(zo_getf_tl _ _ _), ?_⟩
  refine List.forall_mem_cons.mpr ⟨zo_none_tl, ?_⟩
  refine List.forall_mem_cons.mpr ⟨zo_none_tl, ?_⟩
  refine List.forall_mem_cons.mpr ⟨(zo_iload_tl _ _), ?_⟩
  refine List.forall_mem_cons.mpr ⟨zo_none_tl, ?_⟩
  refine List.forall_mem_cons.mpr ⟨(zo_pushI_tl _ _), ?_⟩
  refine List.forall_mem_cons.mpr ⟨(zo_ii_tl _ _), ?_⟩
  refine List.forall_mem_cons.mpr ⟨(zo_iload_tl _ _), ?_⟩
  refine List.forall_mem_cons.mpr ⟨(zo_iast_tl _ _), ?_⟩
  refine List.forall_mem_cons.mpr ⟨(zo_aload_tl _ _), ?_⟩
  refine List.forall_mem_cons.mpr ⟨(zo_getf_tl _ _ _), ?_⟩
  refine List.forall_mem_cons.mpr ⟨zo_none_tl, ?_⟩
  refine List.forall_mem_cons.mpr ⟨zo_none_tl, ?_⟩
  refine List.forall_mem_cons.mpr ⟨(zo_iload_tl _ _), ?_⟩
  refine List.forall_mem_cons.mpr ⟨zo_none_tl, ?_⟩
  refine List.forall_mem_cons.mpr ⟨(zo_pushI_tl _ _), ?_⟩
  refine List.forall_mem_cons.mpr ⟨(zo_ii_tl _ _), ?_⟩
  refine List.forall_mem_cons.mpr ⟨(zo_iload_tl _ _), ?_⟩
  refine List.forall_mem_cons.mpr ⟨(zo_iast_tl _ _), ?_⟩
  refine List.forall_mem_cons.mpr ⟨(zo_aload_tl _ _), ?_⟩
  refine List.forall_mem_cons.mpr ⟨(zo_getf_tl _ _ _), ?_⟩
  refine List.forall_mem_cons.mpr ⟨zo_none_tl, ?_⟩
  refine List.forall_mem_cons.mpr ⟨zo_none_tl, ?_⟩
  refine List.forall_mem_cons.mpr ⟨(zo_iload_tl _ _), ?_⟩
  refine List.forall_mem_cons.mpr ⟨(zo_iald_tl _ _ _), ?_⟩
  refine List.forall_mem_cons.mpr ⟨(zo_iret_tl _), ?_⟩
  exact fun _ h => absurd h List.not_mem_nil
noncomputable def fX12_applyBudget : zzFn := zz_fn tX12_applyBudget 11
set_option maxRecDepth 100000 in
set_option maxHeartbeats 4000000 in
theorem mm_X12_applyBudget {l : Launch} {D : va_G} {cA : Nat → ClassId} {ad : Nat → Nat} {Ex : (Nat → Prop) → State → Heap → Prop} (Wd : zzWR l D cA ad Ex) : zz_Cn l D zzCl cA ad zzSR Ex yX12_applyBudget cX12_applyBudget 11 (some .int) 2 57 fX12_applyBudget ∧ zz_Cx l D zzCl cA ad zzSR Ex yX12_applyBudget cX12_applyBudget 11 (some .int) 2 57 fX12_applyBudget := by
  refine zz_meth (plainFor_of_name (by decide)) Wd.1 Wd.2.1 Wd.2.2 (fun p e R s m args below meth c rr X => ?_)
  unfold tX12_applyBudget
  refine zz_cons (k' := 1) rfl (zk_aload_n X dX12_applyBudget_0 rfl rfl) ?_
  refine zz_cons (k' := 2) rfl (zk_aload_n X dX12_applyBudget_1 rfl rfl) ?_
  refine zz_cons (k' := 3) rfl (zk_iload_n X dX12_applyBudget_2 rfl rfl) ?_
  refine zz_cons (k' := 4) rfl (zk_callv X (zz_Cv_of (List.forall_mem_cons.mpr ⟨⟨(RX_10, zzT10, 50), yX12_isObject, cX12_isObject, 2, (some .boolean), 1, 22, rfl, kv_X12_377_10.1, (mm_X12_isObject Wd).1, by decide, by decide⟩, (fun _ h => absurd h List.not_mem_nil)⟩)) dX12_applyBudget_3 rfl) ?_
  refine zz_cons (k' := 5) rfl (zz_Ok_none _ _) ?_
  refine zz_cons (k' := 6) rfl (zz_Ok_none _ _) ?_
  refine zz_cons (k' := 7) rfl (zk_if_eq X dX12_applyBudget_6 (by decide) rfl) ?_
  refine zz_cons (k' := 8) rfl (zz_Ok_none _ _) ?_
  refine zz_cons (k' := 9) rfl (zz_Ok_none _ _) ?_
  refine zz_cons (k' := 10) rfl (zk_iconst X dX12_applyBudget_9 (by decide) rfl) ?_
  refine zz_cons (k' := 11) rfl (zk_goto X dX12_applyBudget_10 (by decide)) ?_
  refine zz_cons (k' := 12) rfl (zz_Ok_none _ _) ?_
  refine zz_cons (k' := 13) rfl (zz_Ok_none _ _) ?_
  refine zz_cons (k' := 14) rfl (zk_iconst X dX12_applyBudget_13 (by decide) rfl) ?_
  refine zz_cons (k' := 15) rfl (zk_callv X (zz_Cv_of (List.forall_mem_cons.mpr ⟨⟨(RX_10, zzT10, 50), yX12_goes, cX12_goes, 2, (some .boolean), 0, 0, rfl, kv_X12_374_10.1, (mm_X12_goes Wd).1, by decide, by decide⟩, (fun _ h => absurd h List.not_mem_nil)⟩)) dX12_applyBudget_14 rfl) ?_
  refine zz_cons (k' := 16) rfl (zz_Ok_none _ _) ?_
  refine zz_cons (k' := 17) rfl (zz_Ok_none _ _) ?_
  refine zz_cons (k' := 18) rfl (zk_if_ne X dX12_applyBudget_17 (by decide) rfl) ?_
  refine zz_cons (k' := 19) rfl (zz_Ok_none _ _) ?_
  refine zz_cons (k' := 20) rfl (zz_Ok_none _ _) ?_
  refine zz_cons (k' := 21) rfl (zk_iconst X dX12_applyBudget_20 (by decide) rfl) ?_
  refine zz_cons (k' := 22) rfl (zk_iret X rfl dX12_applyBudget_21) ?_
  refine zz_cons (k' := 23) rfl (zk_iload_n X dX12_applyBudget_22 rfl rfl) ?_
  refine zz_cons (k' := 24) rfl (zk_calls X ks_X12_368 (mm_X12_isManager Wd).1 (by decide) dX12_applyBudget_23 rfl) ?_
  refine zz_cons (k' := 25) rfl (zz_Ok_none _ _) ?_
  refine zz_cons (k' := 26) rfl (zz_Ok_none _ _) ?_
  refine zz_cons (k' := 27) rfl (zk_if_eq X dX12_applyBudget_26 (by decide) rfl) ?_
  refine zz_cons (k' := 28) rfl (zz_Ok_none _ _) ?_
  refine zz_cons (k' := 29) rfl (zz_Ok_none _ _) ?_
  refine zz_cons (k' := 30) rfl (zk_aload_n X dX12_applyBudget_29 rfl rfl) ?_
  refine zz_cons (k' := 31) rfl (zk_getf X ff_X12_25 dX12_applyBudget_30 rfl) ?_
  refine zz_cons (k' := 32) rfl (zz_Ok_none _ _) ?_
  refine zz_cons (k' := 33) rfl (zz_Ok_none _ _) ?_
  refine zz_cons (k' := 34) rfl (zk_iload_n X dX12_applyBudget_33 rfl rfl) ?_
  refine zz_cons (k' := 35) rfl (zk_iald X (zzWR_st Wd) dX12_applyBudget_34 rfl) ?_
  refine zz_cons (k' := 36) rfl (zk_if_ne X dX12_applyBudget_35 (by decide) rfl) ?_
  refine zz_cons (k' := 37) rfl (zz_Ok_none _ _) ?_
  refine zz_cons (k' := 38) rfl (zz_Ok_none _ _) ?_
  refine zz_cons (k' := 39) rfl (zk_iload_n X dX12_applyBudget_38 rfl rfl) ?_
  refine zz_cons (k' := 40) rfl (zk_if_lt X dX12_applyBudget_39 (by decide) rfl) ?_
  refine zz_cons (k' := 41) rfl (zz_Ok_none _ _) ?_
  refine zz_cons (k' := 42) rfl (zz_Ok_none _ _) ?_
  refine zz_cons (k' := 43) rfl (zk_aload_n X dX12_applyBudget_42 rfl rfl) ?_
  refine zz_cons (k' := 44) rfl (zk_iconst X dX12_applyBudget_43 (by decide) rfl) ?_
  refine zz_cons (k' := 45) rfl (zk_iload_n X dX12_applyBudget_44 rfl rfl) ?_
  refine zz_cons (k' := 46) rfl (zk_bipush X dX12_applyBudget_45 (by decide) rfl) ?_
  refine zz_cons (k' := 47) rfl (zz_Ok_none _ _) ?_
  refine zz_cons (k' := 48) rfl (zk_idiv X dX12_applyBudget_47 rfl) ?_
  refine zz_cons (k' := 49) rfl (zk_callv X (zz_Cv_of (List.forall_mem_cons.mpr ⟨⟨(RX_10, zzT10, 50), yX12_isValue, cX12_isValue, 3, (some .boolean), 1, 22, rfl, kv_X12_383_10.1, (mm_X12_isValue Wd).1, by decide, by decide⟩, (fun _ h => absurd h List.not_mem_nil)⟩)) dX12_applyBudget_48 rfl) ?_
  refine zz_cons (k' := 50) rfl (zz_Ok_none _ _) ?_
  refine zz_cons (k' := 51) rfl (zz_Ok_none _ _) ?_
  refine zz_cons (k' := 52) rfl (zk_if_eq X dX12_applyBudget_51 (by decide) rfl) ?_
  refine zz_cons (k' := 53) rfl (zz_Ok_none _ _) ?_
  refine zz_cons (k' := 54) rfl (zz_Ok_none _ _) ?_
  refine zz_cons (k' := 55) rfl (zk_aload_n X dX12_applyBudget_54 rfl rfl) ?_
  refine zz_cons (k' := 56) rfl (zk_iconst X dX12_applyBudget_55 (by decide) rfl) ?_
  refine zz_cons (k' := 57) rfl (zk_iload_n X dX12_applyBudget_56 rfl rfl) ?_
  refine zz_cons (k' := 58) rfl (zk_bipush X dX12_applyBudget_57 (by decide) rfl) ?_
  refine zz_cons (k' := 59) rfl (zz_Ok_none _ _) ?_
  refine zz_cons (k' := 60) rfl (zk_irem X dX12_applyBudget_59 rfl) ?_
  refine zz_cons (k' := 61) rfl (zk_callv X (zz_Cv_of (List.forall_mem_cons.mpr ⟨⟨(RX_10, zzT10, 50), yX12_isValue, cX12_isValue, 3, (some .boolean), 1, 22, rfl, kv_X12_383_10.1, (mm_X12_isValue Wd).1, by decide, by decide⟩, (fun _ h => absurd h List.not_mem_nil)⟩)) dX12_applyBudget_60 rfl) ?_
  refine zz_cons (k' := 62) rfl (zz_Ok_none _ _) ?_
  refine zz_cons (k' := 63) rfl (zz_Ok_none _ _) ?_
  refine zz_cons (k' := 64) rfl (zk_if_eq X dX12_applyBudget_63 (by decide) rfl) ?_
  refine zz_cons (k' := 65) rfl (zz_Ok_none _ _) ?_
  refine zz_cons (k' := 66) rfl (zz_Ok_none _ _) ?_
  refine zz_cons (k' := 67) rfl (zk_iconst X dX12_applyBudget_66 (by decide) rfl) ?_
  refine zz_cons (k' := 68) rfl (zk_goto X dX12_applyBudget_67 (by decide)) ?_
  refine zz_cons (k' := 69) rfl (zz_Ok_none _ _) ?_
  refine zz_cons (k' := 70) rfl (zz_Ok_none _ _) ?_
  refine zz_cons (k' := 71) rfl (zk_iconst X dX12_applyBudget_70 (by decide) rfl) ?_
  refine zz_cons (k' := 72) rfl (zk_istore X dX12_applyBudget_71 (by decide) rfl) ?_
  refine zz_cons (k' := 73) rfl (zz_Ok_none _ _) ?_
  refine zz_cons (k' := 74) rfl (zk_aload_n X dX12_applyBudget_73 rfl rfl) ?_
  refine zz_cons (k' := 75) rfl (zk_iload X dX12_applyBudget_74 rfl) ?_
  refine zz_cons (k' := 76) rfl (zz_Ok_none _ _) ?_
  refine zz_cons (k' := 77) rfl (zk_if_eq X dX12_applyBudget_76 (by decide) rfl) ?_
  refine zz_cons (k' := 78) rfl (zz_Ok_none _ _) ?_
  refine zz_cons (k' := 79) rfl (zz_Ok_none _ _) ?_
  refine zz_cons (k' := 80) rfl (zk_iconst X dX12_applyBudget_79 (by decide) rfl) ?_
  refine zz_cons (k' := 81) rfl (zk_goto X dX12_applyBudget_80 (by decide)) ?_
  refine zz_cons (k' := 82) rfl (zz_Ok_none _ _) ?_
  refine zz_cons (k' := 83) rfl (zz_Ok_none _ _) ?_
  refine zz_cons (k' := 84) rfl (zk_iconst X dX12_applyBudget_83 (by decide) rfl) ?_
  refine zz_cons (k' := 85) rfl (zk_callv X (zz_Cv_of (List.forall_mem_cons.mpr ⟨⟨(RX_10, zzT10, 50), yX12_goes, cX12_goes, 2, (some .boolean), 0, 0, rfl, kv_X12_374_10.1, (mm_X12_goes Wd).1, by decide, by decide⟩, (fun _ h => absurd h List.not_mem_nil)⟩)) dX12_applyBudget_84 rfl) ?_
  refine zz_cons (k' := 86) rfl (zz_Ok_none _ _) ?_
  refine zz_cons (k' := 87) rfl (zz_Ok_none _ _) ?_
  refine zz_cons (k' := 88) rfl (zk_if_ne X dX12_applyBudget_87 (by decide) rfl) ?_
  refine zz_cons (k' := 89) rfl (zz_Ok_none _ _) ?_
  refine zz_cons (k' := 90) rfl (zz_Ok_none _ _) ?_
  refine zz_cons (k' := 91) rfl (zk_iconst X dX12_applyBudget_90 (by decide) rfl) ?_
  refine zz_cons (k' := 92) rfl (zk_iret X rfl dX12_applyBudget_91) ?_
  refine zz_cons (k' := 93) rfl (zk_bipush X dX12_applyBudget_92 (by decide) rfl) ?_
  refine zz_cons (k' := 94) rfl (zz_Ok_none _ _) ?_
  refine zz_cons (k' := 95) rfl (zk_iload_n X dX12_applyBudget_94 rfl rfl) ?_
  refine zz_cons (k' := 96) rfl (zk_imul X dX12_applyBudget_95 rfl) ?_
  refine zz_cons (k' := 97) rfl (zk_istore X dX12_applyBudget_96 (by decide) rfl) ?_
  refine zz_cons (k' := 98) rfl (zz_Ok_none _ _) ?_
  refine zz_cons (k' := 99) rfl (zk_aload_n X dX12_applyBudget_98 rfl rfl) ?_
  refine zz_cons (k' := 100) rfl (zk_getf X ff_X12_38 dX12_applyBudget_99 rfl) ?_
  refine zz_cons (k' := 101) rfl (zz_Ok_none _ _) ?_
  refine zz_cons (k' := 102) rfl (zz_Ok_none _ _) ?_
  refine zz_cons (k' := 103) rfl (zk_iload X dX12_applyBudget_102 rfl) ?_
  refine zz_cons (k' := 104) rfl (zz_Ok_none _ _) ?_
  refine zz_cons (k' := 105) rfl (zk_iconst X dX12_applyBudget_104 (by decide) rfl) ?_
  refine zz_cons (k' := 106) rfl (zk_iadd X dX12_applyBudget_105 rfl) ?_
  refine zz_cons (k' := 107) rfl (zk_iald X (zzWR_st Wd) dX12_applyBudget_106 rfl) ?_
  refine zz_cons (k' := 108) rfl (zk_iload_n X dX12_applyBudget_107 rfl rfl) ?_
  refine zz_cons (k' := 109) rfl (zk_icmp_ne X dX12_applyBudget_108 (by decide) rfl) ?_
  refine zz_cons (k' := 110) rfl (zz_Ok_none _ _) ?_
  refine zz_cons (k' := 111) rfl (zz_Ok_none _ _) ?_
  refine zz_cons (k' := 112) rfl (zk_aload_n X dX12_applyBudget_111 rfl rfl) ?_
  refine zz_cons (k' := 113) rfl (zk_getf X ff_X12_38 dX12_applyBudget_112 rfl) ?_
  refine zz_cons (k' := 114) rfl (zz_Ok_none _ _) ?_
  refine zz_cons (k' := 115) rfl (zz_Ok_none _ _) ?_
  refine zz_cons (k' := 116) rfl (zk_iload X dX12_applyBudget_115 rfl) ?_
  refine zz_cons (k' := 117) rfl (zz_Ok_none _ _) ?_
  refine zz_cons (k' := 118) rfl (zk_iconst X dX12_applyBudget_117 (by decide) rfl) ?_
  refine zz_cons (k' := 119) rfl (zk_iadd X dX12_applyBudget_118 rfl) ?_
  refine zz_cons (k' := 120) rfl (zk_iald X (zzWR_st Wd) dX12_applyBudget_119 rfl) ?_
  refine zz_cons (k' := 121) rfl (zk_iload_n X dX12_applyBudget_120 rfl rfl) ?_
  refine zz_cons (k' := 122) rfl (zk_icmp_eq X dX12_applyBudget_121 (by decide) rfl) ?_
  refine zz_cons (k' := 123) rfl (zz_Ok_none _ _) ?_
  refine zz_cons (k' := 124) rfl (zz_Ok_none _ _) ?_
  refine zz_cons (k' := 125) rfl (zk_iconst X dX12_applyBudget_124 (by decide) rfl) ?_
  refine zz_cons (k' := 126) rfl (zk_goto X dX12_applyBudget_125 (by decide)) ?_
  refine zz_cons (k' := 127) rfl (zz_Ok_none _ _) ?_
  refine zz_cons (k' := 128) rfl (zz_Ok_none _ _) ?_
  refine zz_cons (k' := 129) rfl (zk_iconst X dX12_applyBudget_128 (by decide) rfl) ?_
  refine zz_cons (k' := 130) rfl (zk_istore X dX12_applyBudget_129 (by decide) rfl) ?_
  refine zz_cons (k' := 131) rfl (zz_Ok_none _ _) ?_
  refine zz_cons (k' := 132) rfl (zk_aload_n X dX12_applyBudget_131 rfl rfl) ?_
  refine zz_cons (k' := 133) rfl (zk_iconst X dX12_applyBudget_132 (by decide) rfl) ?_
  refine zz_cons (k' := 134) rfl (zk_aload_n X dX12_applyBudget_133 rfl rfl) ?_
  refine zz_cons (k' := 135) rfl (zk_aload_n X dX12_applyBudget_134 rfl rfl) ?_
  refine zz_cons (k' := 136) rfl (zk_aload_n X dX12_applyBudget_135 rfl rfl) ?_
  refine zz_cons (k' := 137) rfl (zk_getf X ff_X12_28 dX12_applyBudget_136 rfl) ?_
  refine zz_cons (k' := 138) rfl (zz_Ok_none _ _) ?_
  refine zz_cons (k' := 139) rfl (zz_Ok_none _ _) ?_
  refine zz_cons (k' := 140) rfl (zk_iload_n X dX12_applyBudget_139 rfl rfl) ?_
  refine zz_cons (k' := 141) rfl (zk_lald X dX12_applyBudget_140 rfl) ?_
  refine zz_cons (k' := 142) rfl (zk_iconst X dX12_applyBudget_141 (by decide) rfl) ?_
  refine zz_cons (k' := 143) rfl (zk_iload_n X dX12_applyBudget_142 rfl rfl) ?_
  refine zz_cons (k' := 144) rfl (zk_bipush X dX12_applyBudget_143 (by decide) rfl) ?_
  refine zz_cons (k' := 145) rfl (zz_Ok_none _ _) ?_
  refine zz_cons (k' := 146) rfl (zk_idiv X dX12_applyBudget_145 rfl) ?_
  refine zz_cons (k' := 147) rfl (zk_callv X (zz_Cv_of (List.forall_mem_cons.mpr ⟨⟨(RX_10, zzT10, 50), yX12_with, cX12_with, 7, (some .long), 0, 0, rfl, kv_X12_150_10.1, (mm_X12_with Wd).1, by decide, by decide⟩, (fun _ h => absurd h List.not_mem_nil)⟩)) dX12_applyBudget_146 rfl) ?_
  refine zz_cons (k' := 148) rfl (zz_Ok_none _ _) ?_
  refine zz_cons (k' := 149) rfl (zz_Ok_none _ _) ?_
  refine zz_cons (k' := 150) rfl (zk_iconst X dX12_applyBudget_149 (by decide) rfl) ?_
  refine zz_cons (k' := 151) rfl (zk_iload_n X dX12_applyBudget_150 rfl rfl) ?_
  refine zz_cons (k' := 152) rfl (zk_bipush X dX12_applyBudget_151 (by decide) rfl) ?_
  refine zz_cons (k' := 153) rfl (zz_Ok_none _ _) ?_
  refine zz_cons (k' := 154) rfl (zk_irem X dX12_applyBudget_153 rfl) ?_
  refine zz_cons (k' := 155) rfl (zk_callv X (zz_Cv_of (List.forall_mem_cons.mpr ⟨⟨(RX_10, zzT10, 50), yX12_with, cX12_with, 7, (some .long), 0, 0, rfl, kv_X12_150_10.1, (mm_X12_with Wd).1, by decide, by decide⟩, (fun _ h => absurd h List.not_mem_nil)⟩)) dX12_applyBudget_154 rfl) ?_
  refine zz_cons (k' := 156) rfl (zz_Ok_none _ _) ?_
  refine zz_cons (k' := 157) rfl (zz_Ok_none _ _) ?_
  refine zz_cons (k' := 158) rfl (zk_callv X (zz_Cv_of (List.forall_mem_cons.mpr ⟨⟨(RX_10, zzT10, 50), yX12_admitted, cX12_admitted, 12, (some .long), 1, 26, rfl, kv_X12_175_10.1, (mm_X12_admitted Wd).1, by decide, by decide⟩, (fun _ h => absurd h List.not_mem_nil)⟩)) dX12_applyBudget_157 rfl) ?_
  refine zz_cons (k' := 159) rfl (zz_Ok_none _ _) ?_
  refine zz_cons (k' := 160) rfl (zz_Ok_none _ _) ?_
  refine zz_cons (k' := 161) rfl (zk_lstore X dX12_applyBudget_160 (by decide) rfl) ?_
  refine zz_cons (k' := 162) rfl (zz_Ok_none _ _) ?_
  refine zz_cons (k' := 163) rfl (zk_aload_n X dX12_applyBudget_162 rfl rfl) ?_
  refine zz_cons (k' := 164) rfl (zk_iload_n X dX12_applyBudget_163 rfl rfl) ?_
  refine zz_cons (k' := 165) rfl (zk_callv X (zz_Cv_of (List.forall_mem_cons.mpr ⟨⟨(RX_10, zzT10, 50), yX12_isGone, cX12_isGone, 2, (some .boolean), 1, 23, rfl, kv_X12_386_10.1, (mm_X12_isGone Wd).1, by decide, by decide⟩, (fun _ h => absurd h List.not_mem_nil)⟩)) dX12_applyBudget_164 rfl) ?_
  refine zz_cons (k' := 166) rfl (zz_Ok_none _ _) ?_
  refine zz_cons (k' := 167) rfl (zz_Ok_none _ _) ?_
  refine zz_cons (k' := 168) rfl (zk_if_ne X dX12_applyBudget_167 (by decide) rfl) ?_
  refine zz_cons (k' := 169) rfl (zz_Ok_none _ _) ?_
  refine zz_cons (k' := 170) rfl (zz_Ok_none _ _) ?_
  refine zz_cons (k' := 171) rfl (zk_iload X dX12_applyBudget_170 rfl) ?_
  refine zz_cons (k' := 172) rfl (zz_Ok_none _ _) ?_
  refine zz_cons (k' := 173) rfl (zk_if_eq X dX12_applyBudget_172 (by decide) rfl) ?_
  refine zz_cons (k' := 174) rfl (zz_Ok_none _ _) ?_
  refine zz_cons (k' := 175) rfl (zz_Ok_none _ _) ?_
  refine zz_cons (k' := 176) rfl (zk_iload X dX12_applyBudget_175 rfl) ?_
  refine zz_cons (k' := 177) rfl (zz_Ok_none _ _) ?_
  refine zz_cons (k' := 178) rfl (zk_if_eq X dX12_applyBudget_177 (by decide) rfl) ?_
  refine zz_cons (k' := 179) rfl (zz_Ok_none _ _) ?_
  refine zz_cons (k' := 180) rfl (zz_Ok_none _ _) ?_
  refine zz_cons (k' := 181) rfl (zk_aload_n X dX12_applyBudget_180 rfl rfl) ?_
  refine zz_cons (k' := 182) rfl (zk_getf X ff_X12_168 dX12_applyBudget_181 rfl) ?_
  refine zz_cons (k' := 183) rfl (zz_Ok_none _ _) ?_
  refine zz_cons (k' := 184) rfl (zz_Ok_none _ _) ?_
  refine zz_cons (k' := 185) rfl (zk_if_eq X dX12_applyBudget_184 (by decide) rfl) ?_
  refine zz_cons (k' := 186) rfl (zz_Ok_none _ _) ?_
  refine zz_cons (k' := 187) rfl (zz_Ok_none _ _) ?_
  refine zz_cons (k' := 188) rfl (zk_iconst X dX12_applyBudget_187 (by decide) rfl) ?_
  refine zz_cons (k' := 189) rfl (zk_goto X dX12_applyBudget_188 (by decide)) ?_
  refine zz_cons (k' := 190) rfl (zz_Ok_none _ _) ?_
  refine zz_cons (k' := 191) rfl (zz_Ok_none _ _) ?_
  refine zz_cons (k' := 192) rfl (zk_iconst X dX12_applyBudget_191 (by decide) rfl) ?_
  refine zz_cons (k' := 193) rfl (zk_istore X dX12_applyBudget_192 (by decide) rfl) ?_
  refine zz_cons (k' := 194) rfl (zz_Ok_none _ _) ?_
  refine zz_cons (k' := 195) rfl (zk_aload_n X dX12_applyBudget_194 rfl rfl) ?_
  refine zz_cons (k' := 196) rfl (zk_iload X dX12_applyBudget_195 rfl) ?_
  refine zz_cons (k' := 197) rfl (zz_Ok_none _ _) ?_
  refine zz_cons (k' := 198) rfl (zk_if_ne X dX12_applyBudget_197 (by decide) rfl) ?_
  refine zz_cons (k' := 199) rfl (zz_Ok_none _ _) ?_
  refine zz_cons (k' := 200) rfl (zz_Ok_none _ _) ?_
  refine zz_cons (k' := 201) rfl (zk_aload_n X dX12_applyBudget_200 rfl rfl) ?_
  refine zz_cons (k' := 202) rfl (zk_iload_n X dX12_applyBudget_201 rfl rfl) ?_
  refine zz_cons (k' := 203) rfl (zk_lload X dX12_applyBudget_202 rfl) ?_
  refine zz_cons (k' := 204) rfl (zz_Ok_none _ _) ?_
  refine zz_cons (k' := 205) rfl (zk_aload_n X dX12_applyBudget_204 rfl rfl) ?_
  refine zz_cons (k' := 206) rfl (zk_getf X ff_X12_32 dX12_applyBudget_205 rfl) ?_
  refine zz_cons (k' := 207) rfl (zz_Ok_none _ _) ?_
  refine zz_cons (k' := 208) rfl (zz_Ok_none _ _) ?_
  refine zz_cons (k' := 209) rfl (zk_iload_n X dX12_applyBudget_208 rfl rfl) ?_
  refine zz_cons (k' := 210) rfl (zk_lald X dX12_applyBudget_209 rfl) ?_
  refine zz_cons (k' := 211) rfl (zk_iload X dX12_applyBudget_210 rfl) ?_
  refine zz_cons (k' := 212) rfl (zz_Ok_none _ _) ?_
  refine zz_cons (k' := 213) rfl (zk_callv X (zz_Cv_of (List.forall_mem_cons.mpr ⟨⟨(RX_10, zzT10, 50), yX12_puts, cX12_puts, 8, (some .boolean), 1, 25, rfl, kv_X12_185_10.1, (mm_X12_puts Wd).1, by decide, by decide⟩, (fun _ h => absurd h List.not_mem_nil)⟩)) dX12_applyBudget_212 rfl) ?_
  refine zz_cons (k' := 214) rfl (zz_Ok_none _ _) ?_
  refine zz_cons (k' := 215) rfl (zz_Ok_none _ _) ?_
  refine zz_cons (k' := 216) rfl (zk_if_ne X dX12_applyBudget_215 (by decide) rfl) ?_
  refine zz_cons (k' := 217) rfl (zz_Ok_none _ _) ?_
  refine zz_cons (k' := 218) rfl (zz_Ok_none _ _) ?_
  refine zz_cons (k' := 219) rfl (zk_iconst X dX12_applyBudget_218 (by decide) rfl) ?_
  refine zz_cons (k' := 220) rfl (zk_goto X dX12_applyBudget_219 (by decide)) ?_
  refine zz_cons (k' := 221) rfl (zz_Ok_none _ _) ?_
  refine zz_cons (k' := 222) rfl (zz_Ok_none _ _) ?_
  refine zz_cons (k' := 223) rfl (zk_iconst X dX12_applyBudget_222 (by decide) rfl) ?_
  refine zz_cons (k' := 224) rfl (zk_callv X (zz_Cv_of (List.forall_mem_cons.mpr ⟨⟨(RX_10, zzT10, 50), yX12_goes, cX12_goes, 2, (some .boolean), 0, 0, rfl, kv_X12_374_10.1, (mm_X12_goes Wd).1, by decide, by decide⟩, (fun _ h => absurd h List.not_mem_nil)⟩)) dX12_applyBudget_223 rfl) ?_
  refine zz_cons (k' := 225) rfl (zz_Ok_none _ _) ?_
  refine zz_cons (k' := 226) rfl (zz_Ok_none _ _) ?_
  refine zz_cons (k' := 227) rfl (zk_if_ne X dX12_applyBudget_226 (by decide) rfl) ?_
  refine zz_cons (k' := 228) rfl (zz_Ok_none _ _) ?_
  refine zz_cons (k' := 229) rfl (zz_Ok_none _ _) ?_
  refine zz_cons (k' := 230) rfl (zk_iconst X dX12_applyBudget_229 (by decide) rfl) ?_
  refine zz_cons (k' := 231) rfl (zk_iret X rfl dX12_applyBudget_230) ?_
  refine zz_cons (k' := 232) rfl (zk_aload_n X dX12_applyBudget_231 rfl rfl) ?_
  refine zz_cons (k' := 233) rfl (zk_getf X ff_X12_38 dX12_applyBudget_232 rfl) ?_
  refine zz_cons (k' := 234) rfl (zz_Ok_none _ _) ?_
  refine zz_cons (k' := 235) rfl (zz_Ok_none _ _) ?_
  refine zz_cons (k' := 236) rfl (zk_iload X dX12_applyBudget_235 rfl) ?_
  refine zz_cons (k' := 237) rfl (zz_Ok_none _ _) ?_
  refine zz_cons (k' := 238) rfl (zk_iconst X dX12_applyBudget_237 (by decide) rfl) ?_
  refine zz_cons (k' := 239) rfl (zk_iadd X dX12_applyBudget_238 rfl) ?_
  refine zz_cons (k' := 240) rfl (zk_iload_n X dX12_applyBudget_239 rfl rfl) ?_
  refine zz_cons (k' := 241) rfl (zk_iast X dX12_applyBudget_240 rfl) ?_
  refine zz_cons (k' := 242) rfl (zk_aload_n X dX12_applyBudget_241 rfl rfl) ?_
  refine zz_cons (k' := 243) rfl (zk_getf X ff_X12_38 dX12_applyBudget_242 rfl) ?_
  refine zz_cons (k' := 244) rfl (zz_Ok_none _ _) ?_
  refine zz_cons (k' := 245) rfl (zz_Ok_none _ _) ?_
  refine zz_cons (k' := 246) rfl (zk_iload X dX12_applyBudget_245 rfl) ?_
  refine zz_cons (k' := 247) rfl (zz_Ok_none _ _) ?_
  refine zz_cons (k' := 248) rfl (zk_iconst X dX12_applyBudget_247 (by decide) rfl) ?_
  refine zz_cons (k' := 249) rfl (zk_iadd X dX12_applyBudget_248 rfl) ?_
  refine zz_cons (k' := 250) rfl (zk_iload_n X dX12_applyBudget_249 rfl rfl) ?_
  refine zz_cons (k' := 251) rfl (zk_iast X dX12_applyBudget_250 rfl) ?_
  refine zz_cons (k' := 252) rfl (zk_aload_n X dX12_applyBudget_251 rfl rfl) ?_
  refine zz_cons (k' := 253) rfl (zk_getf X ff_X12_35 dX12_applyBudget_252 rfl) ?_
  refine zz_cons (k' := 254) rfl (zz_Ok_none _ _) ?_
  refine zz_cons (k' := 255) rfl (zz_Ok_none _ _) ?_
  refine zz_cons (k' := 256) rfl (zk_iload_n X dX12_applyBudget_255 rfl rfl) ?_
  refine zz_cons (k' := 257) rfl (zk_iald X (zzWR_st Wd) dX12_applyBudget_256 rfl) ?_
  refine zz_cons (k' := 258) rfl (zk_iret X rfl dX12_applyBudget_257) ?_
  exact trivial
noncomputable def tX12_delete : List zzOp := [
  zo_aload 0 1,
  zo_aload 0 2,
  zo_iload 1 3,
  zo_callv zzSR (zz_cl [(10, fX12_isObject)]) 1 6,
  zo_none,
  zo_none,
  zo_if (fun x => decide (¬ x = 0)) 13 9,
  zo_none,
  zo_none,
  zo_pushI 1 10,
  zo_goto 27,
  zo_none,
  zo_none,
  zo_iload 2 14,
  zo_pushI 1 15,
  zo_pushI 3 16,
  zo_calls fX12_isIn 3 19,
  zo_none,
  zo_none,
  zo_if (fun x => decide (x = 0)) 26 22,
  zo_none,
  zo_none,
  zo_pushI 0 23,
  zo_goto 27,
  zo_none,
  zo_none,
  zo_pushI 2 27,
  zo_callv zzSR (zz_cl [(10, fX12_goes)]) 1 30,
  zo_none,
  zo_none,
  zo_if (fun x => decide (¬ x = 0)) 35 33,
  zo_none,
  zo_none,
  zo_pushI 0 34,
  zo_iret false,
  zo_aload 0 36,
  zo_aload 0 37,
  zo_getf zzSR (zz_kf [10] 7) 40,
  zo_none,
  zo_none,
  zo_iload 1 41,
  zo_lald zzSR 42,
  zo_pushI 13 44,
  zo_none,
  zo_callv zzSR (zz_cl [(10, fX12_get)]) 2 47,
  zo_none,
  zo_none,
  zo_if (fun x => decide (¬ x = 0)) 77 50,
  zo_none,
  zo_none,
  zo_aload 0 51,
  zo_iload 1 52,
  zo_aload 0 53,
  zo_iload 1 54,
  zo_aload 0 55,
  zo_getf zzSR (zz_kf [10] 7) 58,
  zo_none,
  zo_none,
  zo_iload 1 59,
  zo_lald zzSR 60,
  zo_iload 2 61,
  zo_callv zzSR (zz_cl [(10, fX12_deleted)]) 3 64,
  zo_none,
  zo_none,
  zo_aload 0 65,
  zo_getf zzSR (zz_kf [10] 8) 68,
  zo_none,
  zo_none,
  zo_iload 1 69,
  zo_lald zzSR 70,
  zo_pushI 0 71,
  zo_callv zzSR (zz_cl [(10, fX12_puts)]) 4 74,
  zo_none,
  zo_none,
  zo_if (fun x => decide (¬ x = 0)) 81 77,
  zo_none,
  zo_none,
  zo_pushI 1 78,
  zo_goto 82,
  zo_none,
  zo_none,
  zo_pushI 0 82,
  zo_istore 3 83,
  zo_aload 0 84,
  zo_iload 3 85,
  zo_if (fun x => decide (x = 0)) 92 88,
  zo_none,
  zo_none,
  zo_pushI 3 89,
  zo_goto 93,
  zo_none,
  zo_none,
  zo_pushI 0 93,
  zo_callv zzSR (zz_cl [(10, fX12_goes)]) 1 96,
  zo_none,
  zo_none,
  zo_if (fun x => decide (x = 0)) 114 99,
  zo_none,
  zo_none,
  zo_aload 0 100,
  zo_aload 0 101,
  zo_getf zzSR (zz_kf [10] 7) 104,
  zo_none,
  zo_none,
  zo_iload 1 105,
  zo_lald zzSR 106,
  zo_pushI 13 108,
  zo_none,
  zo_callv zzSR (zz_cl [(10, fX12_get)]) 2 111,
  zo_none,
  zo_none,
  zo_goto 115,
  zo_none,
  zo_none,
  zo_pushI 0 115,
  zo_iret false]
set_option maxRecDepth 100000 in
theorem tl_X12_delete : ∀ pc, zz_Tl (tX12_delete.getD pc zo_none) := by
  refine zz_Tl_mem ?_
  unfold tX12_delete
  refine List.forall_mem_cons.mpr ⟨(zo_aload_tl _ _), ?_⟩
  refine List.forall_mem_cons.mpr ⟨(zo_aload_tl _ _), ?_⟩
  refine List.forall_mem_cons.mpr ⟨(zo_iload_tl _ _), ?_⟩
  refine List.forall_mem_cons.mpr ⟨(zo_callv_tl _ _ _ _), ?_⟩
  refine List.forall_mem_cons.mpr ⟨zo_none_tl, ?_⟩
  refine List.forall_mem_cons.mpr ⟨zo_none_tl, ?_⟩
  refine List.forall_mem_cons.mpr ⟨(zo_if_tl _ _ _), ?_⟩
  refine List.forall_mem_cons.mpr ⟨zo_none_tl, ?_⟩
  refine List.forall_mem_cons.mpr ⟨zo_none_tl, ?_⟩
  refine List.forall_mem_cons.mpr ⟨(zo_pushI_tl _ _), ?_⟩
  refine List.forall_mem_cons.mpr ⟨(zo_goto_tl _), ?_⟩
  refine List.forall_mem_cons.mpr ⟨zo_none_tl, ?_⟩
  refine List.forall_mem_cons.mpr ⟨zo_none_tl, ?_⟩
  refine List.forall_mem_cons.mpr ⟨(zo_iload_tl _ _), ?_⟩
  refine List.forall_mem_cons.mpr ⟨(zo_pushI_tl _ _), ?_⟩
  refine List.forall_mem_cons.mpr ⟨(zo_pushI_tl _ _), ?_⟩
  refine List.forall_mem_cons.mpr ⟨(zo_calls_tl _ _ _), ?_⟩
  refine List.forall_mem_cons.mpr ⟨zo_none_tl, ?_⟩
  refine List.forall_mem_cons.mpr ⟨zo_none_tl, ?_⟩
  refine List.forall_mem_cons.mpr ⟨(zo_if_tl _ _ _), ?_⟩
  refine List.forall_mem_cons.mpr ⟨zo_none_tl, ?_⟩
  refine List.forall_mem_cons.mpr ⟨zo_none_tl, ?_⟩
  refine List.forall_mem_cons.mpr ⟨(zo_pushI_tl _ _), ?_⟩
  refine List.forall_mem_cons.mpr ⟨(zo_goto_tl _), ?_⟩
  refine List.forall_mem_cons.mpr ⟨zo_none_tl, ?_⟩
  refine List.forall_mem_cons.mpr ⟨zo_none_tl, ?_⟩
  refine List.forall_mem_cons.mpr ⟨(zo_pushI_tl _ _), ?_⟩
  refine List.forall_mem_cons.mpr ⟨(zo_callv_tl _ _ _ _), ?_⟩
  refine List.forall_mem_cons.mpr ⟨zo_none_tl, ?_⟩
  refine List.forall_mem_cons.mpr ⟨zo_none_tl, ?_⟩
  refine List.forall_mem_cons.mpr ⟨(zo_if_tl _ _ _), ?_⟩
  refine List.forall_mem_cons.mpr ⟨zo_none_tl, ?_⟩
  refine List.forall_mem_cons.mpr ⟨zo_none_tl, ?_⟩
  refine List.forall_mem_cons.mpr ⟨(zo_pushI_tl _ _), ?_⟩
  refine List.forall_mem_cons.mpr ⟨(zo_iret_tl _), ?_⟩
  refine List.forall_mem_cons.mpr ⟨(zo_aload_tl _ _), ?_⟩
  refine List.forall_mem_cons.mpr ⟨(zo_aload_tl _ _), ?_⟩
  refine List.forall_mem_cons.mpr ⟨(zo_getf_tl _ _ _), ?_⟩
  refine List.forall_mem_cons.mpr ⟨zo_none_tl, ?_⟩
  refine List.forall_mem_cons.mpr ⟨zo_none_tl, ?_⟩
  refine List.forall_mem_cons.mpr ⟨(zo_iload_tl _ _), ?_⟩
  refine List.forall_mem_cons.mpr ⟨(zo_lald_tl _ _), ?_⟩
  refine List.forall_mem_cons.mpr ⟨(zo_pushI_tl _ _), ?_⟩
  refine List.forall_mem_cons.mpr ⟨zo_none_tl, ?_⟩
  refine List.forall_mem_cons.mpr ⟨(zo_callv_tl _ _ _ _), ?_⟩
  refine List.forall_mem_cons.mpr ⟨zo_none_tl, ?_⟩
  refine List.forall_mem_cons.mpr ⟨zo_none_tl, ?_⟩
  refine List.forall_mem_cons.mpr ⟨(zo_if_tl _ _ _), ?_⟩
  refine List.forall_mem_cons.mpr ⟨zo_none_tl, ?_⟩
  refine List.forall_mem_cons.mpr ⟨zo_none_tl, ?_⟩
  refine List.forall_mem_cons.mpr ⟨(zo_aload_tl _ _), ?_⟩
  refine List.forall_mem_cons.mpr ⟨(zo_iload_tl _ _), ?_⟩
  refine List.forall_mem_cons.mpr ⟨(zo_aload_tl _ _), ?_⟩
  refine List.forall_mem_cons.mpr ⟨(zo_iload_tl _ _), ?_⟩
  refine List.forall_mem_cons.mpr ⟨(zo_aload_tl _ _), ?_⟩
  refine List.forall_mem_cons.mpr ⟨(zo_getf_tl _ _ _), ?_⟩
  refine List.forall_mem_cons.mpr ⟨zo_none_tl, ?_⟩
  refine List.forall_mem_cons.mpr ⟨zo_none_tl, ?_⟩
  refine List.forall_mem_cons.mpr ⟨(zo_iload_tl _ _), ?_⟩
  refine List.forall_mem_cons.mpr ⟨(zo_lald_tl _ _), ?_⟩
  refine List.forall_mem_cons.mpr ⟨(zo_iload_tl _ _), ?_⟩
  refine List.forall_mem_cons.mpr ⟨(zo_callv_tl _ _ _ _), ?_⟩
  refine List.forall_mem_cons.mpr ⟨zo_none_tl, ?_⟩
  refine List.forall_mem_cons.mpr ⟨zo_none_tl, ?_⟩
  refine List.forall_mem_cons.mpr ⟨(zo_aload_tl _ _), ?_⟩
  refine List.forall_mem_cons.mpr ⟨(zo_getf_tl _ _ _), ?_⟩
  refine List.forall_mem_cons.mpr ⟨zo_none_tl, ?_⟩
  refine List.forall_mem_cons.mpr ⟨zo_none_tl, ?_⟩
  refine List.forall_mem_cons.mpr ⟨(zo_iload_tl _ _), ?_⟩
  refine List.forall_mem_cons.mpr ⟨(zo_lald_tl _ _), ?_⟩
  refine List.forall_mem_cons.mpr ⟨(zo_pushI_tl _ _), ?_⟩
  refine List.forall_mem_cons.mpr ⟨(zo_callv_tl _ _ _ _), ?_⟩
  refine List.forall_mem_cons.mpr ⟨zo_none_tl, ?_⟩
  refine List.forall_mem_cons.mpr ⟨zo_none_tl, ?_⟩
  refine List.forall_mem_cons.mpr ⟨(zo_if_tl _ _ _), ?_⟩
  refine List.forall_mem_cons.mpr ⟨zo_none_tl, ?_⟩
  refine List.forall_mem_cons.mpr ⟨zo_none_tl, ?_⟩
  refine List.forall_mem_cons.mpr ⟨(zo_pushI_tl _ _), ?_⟩
  refine List.forall_mem_cons.mpr ⟨(zo_goto_tl _), ?_⟩
  refine List.forall_mem_cons.mpr ⟨zo_none_tl, ?_⟩
  refine List.forall_mem_cons.mpr ⟨zo_none_tl, ?_⟩
  refine List.forall_mem_cons.mpr ⟨(zo_pushI_tl _ _), ?_⟩
  refine List.forall_mem_cons.mpr ⟨(zo_istore_tl _ _), ?_⟩
  refine List.forall_mem_cons.mpr ⟨(zo_aload_tl _ _), ?_⟩
  refine List.forall_mem_cons.mpr ⟨(zo_iload_tl _ _), ?_⟩
  refine List.forall_mem_cons.mpr ⟨(zo_if_tl _ _ _), ?_⟩
  refine List.forall_mem_cons.mpr ⟨zo_none_tl, ?_⟩
  refine List.forall_mem_cons.mpr ⟨zo_none_tl, ?_⟩
  refine List.forall_mem_cons.mpr ⟨(zo_pushI_tl _ _), ?_⟩
  refine List.forall_mem_cons.mpr ⟨(zo_goto_tl _), ?_⟩
  refine List.forall_mem_cons.mpr ⟨zo_none_tl, ?_⟩
  refine List.forall_mem_cons.mpr ⟨zo_none_tl, ?_⟩
  refine List.forall_mem_cons.mpr ⟨(zo_pushI_tl _ _), ?_⟩
  refine List.forall_mem_cons.mpr ⟨(zo_callv_tl _ _ _ _), ?_⟩
  refine List.forall_mem_cons.mpr ⟨zo_none_tl, ?_⟩
  refine List.forall_mem_cons.mpr ⟨zo_none_tl, ?_⟩
  refine List.forall_mem_cons.mpr ⟨(zo_if_tl _ _ _), ?_⟩
  refine List.forall_mem_cons.mpr ⟨zo_none_tl, ?_⟩
  refine List.forall_mem_cons.mpr ⟨zo_none_tl, ?_⟩
  refine List.forall_mem_cons.mpr ⟨(zo_aload_tl _ _), ?_⟩
  refine List.forall_mem_cons.mpr ⟨(zo_aload_tl _ _), ?_⟩
  refine List.forall_mem_cons.mpr ⟨(zo_getf_tl _ _ _), ?_⟩
  refine List.forall_mem_cons.mpr ⟨zo_none_tl, ?_⟩
  refine List.forall_mem_cons.mpr ⟨zo_none_tl, ?_⟩
  refine List.forall_mem_cons.mpr ⟨(zo_iload_tl _ _), ?_⟩
  refine List.forall_mem_cons.mpr ⟨(zo_lald_tl _ _), ?_⟩
  refine List.forall_mem_cons.mpr ⟨(zo_pushI_tl _ _), ?_⟩
  refine List.forall_mem_cons.mpr ⟨zo_none_tl, ?_⟩
  refine List.forall_mem_cons.mpr ⟨(zo_callv_tl _ _ _ _), ?_⟩
  refine List.forall_mem_cons.mpr ⟨zo_none_tl, ?_⟩
  refine List.forall_mem_cons.mpr ⟨zo_none_tl, ?_⟩
  refine List.forall_mem_cons.mpr ⟨(zo_goto_tl _), ?_⟩
  refine List.forall_mem_cons.mpr ⟨zo_none_tl, ?_⟩
  refine List.forall_mem_cons.mpr ⟨zo_none_tl, ?_⟩
  refine List.forall_mem_cons.mpr ⟨(zo_pushI_tl _ _), ?_⟩
  refine List.forall_mem_cons.mpr ⟨(zo_iret_tl _), ?_⟩
  exact fun _ h => absurd h List.not_mem_nil
noncomputable def fX12_delete : zzFn := zz_fn tX12_delete 4
set_option maxRecDepth 100000 in
set_option maxHeartbeats 4000000 in
theorem mm_X12_delete {l : Launch} {D : va_G} {cA : Nat → ClassId} {ad : Nat → Nat} {Ex : (Nat → Prop) → State → Heap → Prop} (Wd : zzWR l D cA ad Ex) : zz_Cn l D zzCl cA ad zzSR Ex yX12_delete cX12_delete 4 (some .int) 3 73 fX12_delete ∧ zz_Cx l D zzCl cA ad zzSR Ex yX12_delete cX12_delete 4 (some .int) 3 73 fX12_delete := by
  refine zz_meth (plainFor_of_name (by decide)) Wd.1 Wd.2.1 Wd.2.2 (fun p e R s m args below meth c rr X => ?_)
  unfold tX12_delete
  refine zz_cons (k' := 1) rfl (zk_aload_n X dX12_delete_0 rfl rfl) ?_
  refine zz_cons (k' := 2) rfl (zk_aload_n X dX12_delete_1 rfl rfl) ?_
  refine zz_cons (k' := 3) rfl (zk_iload_n X dX12_delete_2 rfl rfl) ?_
  refine zz_cons (k' := 4) rfl (zk_callv X (zz_Cv_of (List.forall_mem_cons.mpr ⟨⟨(RX_10, zzT10, 50), yX12_isObject, cX12_isObject, 2, (some .boolean), 1, 22, rfl, kv_X12_377_10.1, (mm_X12_isObject Wd).1, by decide, by decide⟩, (fun _ h => absurd h List.not_mem_nil)⟩)) dX12_delete_3 rfl) ?_
  refine zz_cons (k' := 5) rfl (zz_Ok_none _ _) ?_
  refine zz_cons (k' := 6) rfl (zz_Ok_none _ _) ?_
  refine zz_cons (k' := 7) rfl (zk_if_ne X dX12_delete_6 (by decide) rfl) ?_
  refine zz_cons (k' := 8) rfl (zz_Ok_none _ _) ?_
  refine zz_cons (k' := 9) rfl (zz_Ok_none _ _) ?_
  refine zz_cons (k' := 10) rfl (zk_iconst X dX12_delete_9 (by decide) rfl) ?_
  refine zz_cons (k' := 11) rfl (zk_goto X dX12_delete_10 (by decide)) ?_
  refine zz_cons (k' := 12) rfl (zz_Ok_none _ _) ?_
  refine zz_cons (k' := 13) rfl (zz_Ok_none _ _) ?_
  refine zz_cons (k' := 14) rfl (zk_iload_n X dX12_delete_13 rfl rfl) ?_
  refine zz_cons (k' := 15) rfl (zk_iconst X dX12_delete_14 (by decide) rfl) ?_
  refine zz_cons (k' := 16) rfl (zk_iconst X dX12_delete_15 (by decide) rfl) ?_
  refine zz_cons (k' := 17) rfl (zk_calls X ks_X12_140 (mm_X12_isIn Wd).1 (by decide) dX12_delete_16 rfl) ?_
  refine zz_cons (k' := 18) rfl (zz_Ok_none _ _) ?_
  refine zz_cons (k' := 19) rfl (zz_Ok_none _ _) ?_
  refine zz_cons (k' := 20) rfl (zk_if_eq X dX12_delete_19 (by decide) rfl) ?_
  refine zz_cons (k' := 21) rfl (zz_Ok_none _ _) ?_
  refine zz_cons (k' := 22) rfl (zz_Ok_none _ _) ?_
  refine zz_cons (k' := 23) rfl (zk_iconst X dX12_delete_22 (by decide) rfl) ?_
  refine zz_cons (k' := 24) rfl (zk_goto X dX12_delete_23 (by decide)) ?_
  refine zz_cons (k' := 25) rfl (zz_Ok_none _ _) ?_
  refine zz_cons (k' := 26) rfl (zz_Ok_none _ _) ?_
  refine zz_cons (k' := 27) rfl (zk_iconst X dX12_delete_26 (by decide) rfl) ?_
  refine zz_cons (k' := 28) rfl (zk_callv X (zz_Cv_of (List.forall_mem_cons.mpr ⟨⟨(RX_10, zzT10, 50), yX12_goes, cX12_goes, 2, (some .boolean), 0, 0, rfl, kv_X12_374_10.1, (mm_X12_goes Wd).1, by decide, by decide⟩, (fun _ h => absurd h List.not_mem_nil)⟩)) dX12_delete_27 rfl) ?_
  refine zz_cons (k' := 29) rfl (zz_Ok_none _ _) ?_
  refine zz_cons (k' := 30) rfl (zz_Ok_none _ _) ?_
  refine zz_cons (k' := 31) rfl (zk_if_ne X dX12_delete_30 (by decide) rfl) ?_
  refine zz_cons (k' := 32) rfl (zz_Ok_none _ _) ?_
  refine zz_cons (k' := 33) rfl (zz_Ok_none _ _) ?_
  refine zz_cons (k' := 34) rfl (zk_iconst X dX12_delete_33 (by decide) rfl) ?_
  refine zz_cons (k' := 35) rfl (zk_iret X rfl dX12_delete_34) ?_
  refine zz_cons (k' := 36) rfl (zk_aload_n X dX12_delete_35 rfl rfl) ?_
  refine zz_cons (k' := 37) rfl (zk_aload_n X dX12_delete_36 rfl rfl) ?_
  refine zz_cons (k' := 38) rfl (zk_getf X ff_X12_28 dX12_delete_37 rfl) ?_
  refine zz_cons (k' := 39) rfl (zz_Ok_none _ _) ?_
  refine zz_cons (k' := 40) rfl (zz_Ok_none _ _) ?_
  refine zz_cons (k' := 41) rfl (zk_iload_n X dX12_delete_40 rfl rfl) ?_
  refine zz_cons (k' := 42) rfl (zk_lald X dX12_delete_41 rfl) ?_
  refine zz_cons (k' := 43) rfl (zk_bipush X dX12_delete_42 (by decide) rfl) ?_
  refine zz_cons (k' := 44) rfl (zz_Ok_none _ _) ?_
  refine zz_cons (k' := 45) rfl (zk_callv X (zz_Cv_of (List.forall_mem_cons.mpr ⟨⟨(RX_10, zzT10, 50), yX12_get, cX12_get, 4, (some .int), 0, 0, rfl, kv_X12_146_10.1, (mm_X12_get Wd).1, by decide, by decide⟩, (fun _ h => absurd h List.not_mem_nil)⟩)) dX12_delete_44 rfl) ?_
  refine zz_cons (k' := 46) rfl (zz_Ok_none _ _) ?_
  refine zz_cons (k' := 47) rfl (zz_Ok_none _ _) ?_
  refine zz_cons (k' := 48) rfl (zk_if_ne X dX12_delete_47 (by decide) rfl) ?_
  refine zz_cons (k' := 49) rfl (zz_Ok_none _ _) ?_
  refine zz_cons (k' := 50) rfl (zz_Ok_none _ _) ?_
  refine zz_cons (k' := 51) rfl (zk_aload_n X dX12_delete_50 rfl rfl) ?_
  refine zz_cons (k' := 52) rfl (zk_iload_n X dX12_delete_51 rfl rfl) ?_
  refine zz_cons (k' := 53) rfl (zk_aload_n X dX12_delete_52 rfl rfl) ?_
  refine zz_cons (k' := 54) rfl (zk_iload_n X dX12_delete_53 rfl rfl) ?_
  refine zz_cons (k' := 55) rfl (zk_aload_n X dX12_delete_54 rfl rfl) ?_
  refine zz_cons (k' := 56) rfl (zk_getf X ff_X12_28 dX12_delete_55 rfl) ?_
  refine zz_cons (k' := 57) rfl (zz_Ok_none _ _) ?_
  refine zz_cons (k' := 58) rfl (zz_Ok_none _ _) ?_
  refine zz_cons (k' := 59) rfl (zk_iload_n X dX12_delete_58 rfl rfl) ?_
  refine zz_cons (k' := 60) rfl (zk_lald X dX12_delete_59 rfl) ?_
  refine zz_cons (k' := 61) rfl (zk_iload_n X dX12_delete_60 rfl rfl) ?_
  refine zz_cons (k' := 62) rfl (zk_callv X (zz_Cv_of (List.forall_mem_cons.mpr ⟨⟨(RX_10, zzT10, 50), yX12_deleted, cX12_deleted, 6, (some .long), 2, 48, rfl, kv_X12_257_10.1, (mm_X12_deleted Wd).1, by decide, by decide⟩, (fun _ h => absurd h List.not_mem_nil)⟩)) dX12_delete_61 rfl) ?_
  refine zz_cons (k' := 63) rfl (zz_Ok_none _ _) ?_
  refine zz_cons (k' := 64) rfl (zz_Ok_none _ _) ?_
  refine zz_cons (k' := 65) rfl (zk_aload_n X dX12_delete_64 rfl rfl) ?_
  refine zz_cons (k' := 66) rfl (zk_getf X ff_X12_32 dX12_delete_65 rfl) ?_
  refine zz_cons (k' := 67) rfl (zz_Ok_none _ _) ?_
  refine zz_cons (k' := 68) rfl (zz_Ok_none _ _) ?_
  refine zz_cons (k' := 69) rfl (zk_iload_n X dX12_delete_68 rfl rfl) ?_
  refine zz_cons (k' := 70) rfl (zk_lald X dX12_delete_69 rfl) ?_
  refine zz_cons (k' := 71) rfl (zk_iconst X dX12_delete_70 (by decide) rfl) ?_
  refine zz_cons (k' := 72) rfl (zk_callv X (zz_Cv_of (List.forall_mem_cons.mpr ⟨⟨(RX_10, zzT10, 50), yX12_puts, cX12_puts, 8, (some .boolean), 1, 25, rfl, kv_X12_185_10.1, (mm_X12_puts Wd).1, by decide, by decide⟩, (fun _ h => absurd h List.not_mem_nil)⟩)) dX12_delete_71 rfl) ?_
  refine zz_cons (k' := 73) rfl (zz_Ok_none _ _) ?_
  refine zz_cons (k' := 74) rfl (zz_Ok_none _ _) ?_
  refine zz_cons (k' := 75) rfl (zk_if_ne X dX12_delete_74 (by decide) rfl) ?_
  refine zz_cons (k' := 76) rfl (zz_Ok_none _ _) ?_
  refine zz_cons (k' := 77) rfl (zz_Ok_none _ _) ?_
  refine zz_cons (k' := 78) rfl (zk_iconst X dX12_delete_77 (by decide) rfl) ?_
  refine zz_cons (k' := 79) rfl (zk_goto X dX12_delete_78 (by decide)) ?_
  refine zz_cons (k' := 80) rfl (zz_Ok_none _ _) ?_
  refine zz_cons (k' := 81) rfl (zz_Ok_none _ _) ?_
  refine zz_cons (k' := 82) rfl (zk_iconst X dX12_delete_81 (by decide) rfl) ?_
  refine zz_cons (k' := 83) rfl (zk_istore_n X dX12_delete_82 rfl (by decide) rfl) ?_
  refine zz_cons (k' := 84) rfl (zk_aload_n X dX12_delete_83 rfl rfl) ?_
  refine zz_cons (k' := 85) rfl (zk_iload_n X dX12_delete_84 rfl rfl) ?_
  refine zz_cons (k' := 86) rfl (zk_if_eq X dX12_delete_85 (by decide) rfl) ?_
  refine zz_cons (k' := 87) rfl (zz_Ok_none _ _) ?_
  refine zz_cons (k' := 88) rfl (zz_Ok_none _ _) ?_
  refine zz_cons (k' := 89) rfl (zk_iconst X dX12_delete_88 (by decide) rfl) ?_
  refine zz_cons (k' := 90) rfl (zk_goto X dX12_delete_89 (by decide)) ?_
  refine zz_cons (k' := 91) rfl (zz_Ok_none _ _) ?_
  refine zz_cons (k' := 92) rfl (zz_Ok_none _ _) ?_
  refine zz_cons (k' := 93) rfl (zk_iconst X dX12_delete_92 (by decide) rfl) ?_
  refine zz_cons (k' := 94) rfl (zk_callv X (zz_Cv_of (List.forall_mem_cons.mpr ⟨⟨(RX_10, zzT10, 50), yX12_goes, cX12_goes, 2, (some .boolean), 0, 0, rfl, kv_X12_374_10.1, (mm_X12_goes Wd).1, by decide, by decide⟩, (fun _ h => absurd h List.not_mem_nil)⟩)) dX12_delete_93 rfl) ?_
  refine zz_cons (k' := 95) rfl (zz_Ok_none _ _) ?_
  refine zz_cons (k' := 96) rfl (zz_Ok_none _ _) ?_
  refine zz_cons (k' := 97) rfl (zk_if_eq X dX12_delete_96 (by decide) rfl) ?_
  refine zz_cons (k' := 98) rfl (zz_Ok_none _ _) ?_
  refine zz_cons (k' := 99) rfl (zz_Ok_none _ _) ?_
  refine zz_cons (k' := 100) rfl (zk_aload_n X dX12_delete_99 rfl rfl) ?_
  refine zz_cons (k' := 101) rfl (zk_aload_n X dX12_delete_100 rfl rfl) ?_
  refine zz_cons (k' := 102) rfl (zk_getf X ff_X12_28 dX12_delete_101 rfl) ?_
  refine zz_cons (k' := 103) rfl (zz_Ok_none _ _) ?_
  refine zz_cons (k' := 104) rfl (zz_Ok_none _ _) ?_
  refine zz_cons (k' := 105) rfl (zk_iload_n X dX12_delete_104 rfl rfl) ?_
  refine zz_cons (k' := 106) rfl (zk_lald X dX12_delete_105 rfl) ?_
  refine zz_cons (k' := 107) rfl (zk_bipush X dX12_delete_106 (by decide) rfl) ?_
  refine zz_cons (k' := 108) rfl (zz_Ok_none _ _) ?_
  refine zz_cons (k' := 109) rfl (zk_callv X (zz_Cv_of (List.forall_mem_cons.mpr ⟨⟨(RX_10, zzT10, 50), yX12_get, cX12_get, 4, (some .int), 0, 0, rfl, kv_X12_146_10.1, (mm_X12_get Wd).1, by decide, by decide⟩, (fun _ h => absurd h List.not_mem_nil)⟩)) dX12_delete_108 rfl) ?_
  refine zz_cons (k' := 110) rfl (zz_Ok_none _ _) ?_
  refine zz_cons (k' := 111) rfl (zz_Ok_none _ _) ?_
  refine zz_cons (k' := 112) rfl (zk_goto X dX12_delete_111 (by decide)) ?_
  refine zz_cons (k' := 113) rfl (zz_Ok_none _ _) ?_
  refine zz_cons (k' := 114) rfl (zz_Ok_none _ _) ?_
  refine zz_cons (k' := 115) rfl (zk_iconst X dX12_delete_114 (by decide) rfl) ?_
  refine zz_cons (k' := 116) rfl (zk_iret X rfl dX12_delete_115) ?_
  exact trivial
noncomputable def tX12_hold : List zzOp := [
  zo_aload 0 1,
  zo_aload 0 2,
  zo_iload 1 3,
  zo_callv zzSR (zz_cl [(10, fX12_isObject)]) 1 6,
  zo_none,
  zo_none,
  zo_if (fun x => decide (x = 0)) 13 9,
  zo_none,
  zo_none,
  zo_pushI 0 10,
  zo_goto 14,
  zo_none,
  zo_none,
  zo_pushI 1 14,
  zo_callv zzSR (zz_cl [(10, fX12_goes)]) 1 17,
  zo_none,
  zo_none,
  zo_if (fun x => decide (¬ x = 0)) 22 20,
  zo_none,
  zo_none,
  zo_pushI 0 21,
  zo_iret true,
  zo_aload 0 23,
  zo_aload 0 24,
  zo_getf zzSR (zz_kf [10] 7) 27,
  zo_none,
  zo_none,
  zo_iload 1 28,
  zo_lald zzSR 29,
  zo_pushI 12 31,
  zo_none,
  zo_callv zzSR (zz_cl [(10, fX12_get)]) 2 34,
  zo_none,
  zo_none,
  zo_pushI 1 35,
  zo_icmp (fun x y => decide (¬ x = y)) 42 38,
  zo_none,
  zo_none,
  zo_pushI 1 39,
  zo_goto 43,
  zo_none,
  zo_none,
  zo_pushI 0 43,
  zo_istore 3 44,
  zo_aload 0 45,
  zo_iload 1 46,
  zo_callv zzSR (zz_cl [(10, fX12_isGone)]) 1 49,
  zo_none,
  zo_none,
  zo_if (fun x => decide (¬ x = 0)) 88 52,
  zo_none,
  zo_none,
  zo_aload 0 53,
  zo_iload 1 54,
  zo_aload 0 55,
  zo_aload 0 56,
  zo_getf zzSR (zz_kf [10] 7) 59,
  zo_none,
  zo_none,
  zo_iload 1 60,
  zo_lald zzSR 61,
  zo_pushI 12 63,
  zo_none,
  zo_iload 2 64,
  zo_if (fun x => decide (x = 0)) 71 67,
  zo_none,
  zo_none,
  zo_pushI 1 68,
  zo_goto 72,
  zo_none,
  zo_none,
  zo_pushI 0 72,
  zo_callv zzSR (zz_cl [(10, fX12_with)]) 3 75,
  zo_none,
  zo_none,
  zo_aload 0 76,
  zo_getf zzSR (zz_kf [10] 8) 79,
  zo_none,
  zo_none,
  zo_iload 1 80,
  zo_lald zzSR 81,
  zo_pushI 0 82,
  zo_callv zzSR (zz_cl [(10, fX12_puts)]) 4 85,
  zo_none,
  zo_none,
  zo_if (fun x => decide (¬ x = 0)) 92 88,
  zo_none,
  zo_none,
  zo_pushI 1 89,
  zo_goto 93,
  zo_none,
  zo_none,
  zo_pushI 0 93,
  zo_istore 4 95,
  zo_none,
  zo_aload 0 96,
  zo_iload 4 98,
  zo_none,
  zo_if (fun x => decide (x = 0)) 105 101,
  zo_none,
  zo_none,
  zo_pushI 2 102,
  zo_goto 106,
  zo_none,
  zo_none,
  zo_pushI 0 106,
  zo_callv zzSR (zz_cl [(10, fX12_goes)]) 1 109,
  zo_none,
  zo_none,
  zo_if (fun x => decide (x = 0)) 120 112,
  zo_none,
  zo_none,
  zo_iload 3 113,
  zo_if (fun x => decide (x = 0)) 120 116,
  zo_none,
  zo_none,
  zo_pushI 1 117,
  zo_goto 121,
  zo_none,
  zo_none,
  zo_pushI 0 121,
  zo_iret true]
set_option maxRecDepth 100000 in
theorem tl_X12_hold : ∀ pc, zz_Tl (tX12_hold.getD pc zo_none) := by
  refine zz_Tl_mem ?_
  unfold tX12_hold
  refine List.forall_mem_cons.mpr ⟨(zo_aload_tl _ _), ?_⟩
  refine List.forall_mem_cons.mpr ⟨(zo_aload_tl _ _), ?_⟩
  refine List.forall_mem_cons.mpr ⟨(zo_iload_tl _ _), ?_⟩
  refine List.forall_mem_cons.mpr ⟨(zo_callv_tl _ _ _ _), ?_⟩
  refine List.forall_mem_cons.mpr ⟨zo_none_tl, ?_⟩
  refine List.forall_mem_cons.mpr ⟨zo_none_tl, ?_⟩
  refine List.forall_mem_cons.mpr ⟨(zo_if_tl _ _ _), ?_⟩
  refine List.forall_mem_cons.mpr ⟨zo_none_tl, ?_⟩
  refine List.forall_mem_cons.mpr ⟨zo_none_tl, ?_⟩
  refine List.forall_mem_cons.mpr ⟨(zo_pushI_tl _ _), ?_⟩
  refine List.forall_mem_cons.mpr ⟨(zo_goto_tl _), ?_⟩
  refine List.forall_mem_cons.mpr ⟨zo_none_tl, ?_⟩
  refine List.forall_mem_cons.mpr ⟨zo_none_tl, ?_⟩
  refine List.forall_mem_cons.mpr ⟨(zo_pushI_tl _ _), ?_⟩
  refine List.forall_mem_cons.mpr ⟨(zo_callv_tl _ _ _ _), ?_⟩
  refine List.forall_mem_cons.mpr ⟨zo_none_tl, ?_⟩
  refine List.forall_mem_cons.mpr ⟨zo_none_tl, ?_⟩
  refine List.forall_mem_cons.mpr ⟨(zo_if_tl _ _ _), ?_⟩
  refine List.forall_mem_cons.mpr ⟨zo_none_tl, ?_⟩
  refine List.forall_mem_cons.mpr ⟨zo_none_tl, ?_⟩
  refine List.forall_mem_cons.mpr ⟨(zo_pushI_tl _ _), ?_⟩
  refine List.forall_mem_cons.mpr ⟨(zo_iret_tl _), ?_⟩
  refine List.forall_mem_cons.mpr ⟨(zo_aload_tl _ _), ?_⟩
  refine List.forall_mem_cons.mpr ⟨(zo_aload_tl _ _), ?_⟩
  refine List.forall_mem_cons.mpr ⟨(zo_getf_tl _ _ _), ?_⟩
  refine List.forall_mem_cons.mpr ⟨zo_none_tl, ?_⟩
  refine List.forall_mem_cons.mpr ⟨zo_none_tl, ?_⟩
  refine List.forall_mem_cons.mpr ⟨(zo_iload_tl _ _), ?_⟩
  refine List.forall_mem_cons.mpr ⟨(zo_lald_tl _ _), ?_⟩
  refine List.forall_mem_cons.mpr ⟨(zo_pushI_tl _ _), ?_⟩
  refine List.forall_mem_cons.mpr ⟨zo_none_tl, ?_⟩
  refine List.forall_mem_cons.mpr ⟨(zo_callv_tl _ _ _ _), ?_⟩
  refine List.forall_mem_cons.mpr ⟨zo_none_tl, ?_⟩
  refine List.forall_mem_cons.mpr ⟨zo_none_tl, ?_⟩
  refine List.forall_mem_cons.mpr ⟨(zo_pushI_tl _ _), ?_⟩
  refine List.forall_mem_cons.mpr ⟨(zo_icmp_tl _ _ _), ?_⟩
  refine List.forall_mem_cons.mpr ⟨zo_none_tl, ?_⟩
  refine List.forall_mem_cons.mpr ⟨zo_none_tl, ?_⟩
  refine List.forall_mem_cons.mpr ⟨(zo_pushI_tl _ _), ?_⟩
  refine List.forall_mem_cons.mpr ⟨(zo_goto_tl _), ?_⟩
  refine List.forall_mem_cons.mpr ⟨zo_none_tl, ?_⟩
  refine List.forall_mem_cons.mpr ⟨zo_none_tl, ?_⟩
  refine List.forall_mem_cons.mpr ⟨(zo_pushI_tl _ _), ?_⟩
  refine List.forall_mem_cons.mpr ⟨(zo_istore_tl _ _), ?_⟩
  refine List.forall_mem_cons.mpr ⟨(zo_aload_tl _ _), ?_⟩
  refine List.forall_mem_cons.mpr ⟨(zo_iload_tl _ _), ?_⟩
  refine List.forall_mem_cons.mpr ⟨(zo_callv_tl _ _ _ _), ?_⟩
  refine List.forall_mem_cons.mpr ⟨zo_none_tl, ?_⟩
  refine List.forall_mem_cons.mpr ⟨zo_none_tl, ?_⟩
  refine List.forall_mem_cons.mpr ⟨(zo_if_tl _ _ _), ?_⟩
  refine List.forall_mem_cons.mpr ⟨zo_none_tl, ?_⟩
  refine List.forall_mem_cons.mpr ⟨zo_none_tl, ?_⟩
  refine List.forall_mem_cons.mpr ⟨(zo_aload_tl _ _), ?_⟩
  refine List.forall_mem_cons.mpr ⟨(zo_iload_tl _ _), ?_⟩
  refine List.forall_mem_cons.mpr ⟨(zo_aload_tl _ _), ?_⟩
  refine List.forall_mem_cons.mpr ⟨(zo_aload_tl _ _), ?_⟩
  refine List.forall_mem_cons.mpr ⟨(zo_getf_tl _ _ _), ?_⟩
  refine List.forall_mem_cons.mpr ⟨zo_none_tl, ?_⟩
  refine List.forall_mem_cons.mpr ⟨zo_none_tl, ?_⟩
  refine List.forall_mem_cons.mpr ⟨(zo_iload_tl _ _), ?_⟩
  refine List.forall_mem_cons.mpr ⟨(zo_lald_tl _ _), ?_⟩
  refine List.forall_mem_cons.mpr ⟨(zo_pushI_tl _ _), ?_⟩
  refine List.forall_mem_cons.mpr ⟨zo_none_tl, ?_⟩
  refine List.forall_mem_cons.mpr ⟨(zo_iload_tl _ _), ?_⟩
  refine List.forall_mem_cons.mpr ⟨(zo_if_tl _ _ _), ?_⟩
  refine List.forall_mem_cons.mpr ⟨zo_none_tl, ?_⟩
  refine List.forall_mem_cons.mpr ⟨zo_none_tl, ?_⟩
  refine List.forall_mem_cons.mpr ⟨(zo_pushI_tl _ _), ?_⟩
  refine List.forall_mem_cons.mpr ⟨(zo_goto_tl _), ?_⟩
  refine List.forall_mem_cons.mpr ⟨zo_none_tl, ?_⟩
  refine List.forall_mem_cons.mpr ⟨zo_none_tl, ?_⟩
  refine List.forall_mem_cons.mpr ⟨(zo_pushI_tl _ _), ?_⟩
  refine List.forall_mem_cons.mpr ⟨(zo_callv_tl _ _ _ _), ?_⟩
  refine List.forall_mem_cons.mpr ⟨zo_none_tl, ?_⟩
  refine List.forall_mem_cons.mpr ⟨zo_none_tl, ?_⟩
  refine List.forall_mem_cons.mpr ⟨(zo_aload_tl _ _), ?_⟩
  refine List.forall_mem_cons.mpr ⟨(zo_getf_tl _ _ _), ?_⟩
  refine List.forall_mem_cons.mpr ⟨zo_none_tl, ?_⟩
  refine List.forall_mem_cons.mpr ⟨zo_none_tl, ?_⟩
  refine List.forall_mem_cons.mpr ⟨(zo_iload_tl _ _), ?_⟩
  refine List.forall_mem_cons.mpr ⟨(zo_lald_tl _ _), ?_⟩
  refine List.forall_mem_cons.mpr ⟨(zo_pushI_tl _ _), ?_⟩
  refine List.forall_mem_cons.mpr ⟨(zo_callv_tl _ _ _ _), ?_⟩
  refine List.forall_mem_cons.mpr ⟨zo_none_tl, ?_⟩
  refine List.forall_mem_cons.mpr ⟨zo_none_tl, ?_⟩
  refine List.forall_mem_cons.mpr ⟨(zo_if_tl _ _ _), ?_⟩
  refine List.forall_mem_cons.mpr ⟨zo_none_tl, ?_⟩
  refine List.forall_mem_cons.mpr ⟨zo_none_tl, ?_⟩
  refine List.forall_mem_cons.mpr ⟨(zo_pushI_tl _ _), ?_⟩
  refine List.forall_mem_cons.mpr ⟨(zo_goto_tl _), ?_⟩
  refine List.forall_mem_cons.mpr ⟨zo_none_tl, ?_⟩
  refine List.forall_mem_cons.mpr ⟨zo_none_tl, ?_⟩
  refine List.forall_mem_cons.mpr ⟨(zo_pushI_tl _ _), ?_⟩
  refine List.forall_mem_cons.mpr ⟨(zo_istore_tl _ _), ?_⟩
  refine List.forall_mem_cons.mpr ⟨zo_none_tl, ?_⟩
  refine List.forall_mem_cons.mpr ⟨(zo_aload_tl _ _), ?_⟩
  refine List.forall_mem_cons.mpr ⟨(zo_iload_tl _ _), ?_⟩
  refine List.forall_mem_cons.mpr ⟨zo_none_tl, ?_⟩
  refine List.forall_mem_cons.mpr ⟨(zo_if_tl _ _ _), ?_⟩
  refine List.forall_mem_cons.mpr ⟨zo_none_tl, ?_⟩
  refine List.forall_mem_cons.mpr ⟨zo_none_tl, ?_⟩
  refine List.forall_mem_cons.mpr ⟨(zo_pushI_tl _ _), ?_⟩
  refine List.forall_mem_cons.mpr ⟨(zo_goto_tl _), ?_⟩
  refine List.forall_mem_cons.mpr ⟨zo_none_tl, ?_⟩
  refine List.forall_mem_cons.mpr ⟨zo_none_tl, ?_⟩
  refine List.forall_mem_cons.mpr ⟨(zo_pushI_tl _ _), ?_⟩
  refine List.forall_mem_cons.mpr ⟨(zo_callv_tl _ _ _ _), ?_⟩
  refine List.forall_mem_cons.mpr ⟨zo_none_tl, ?_⟩
  refine List.forall_mem_cons.mpr ⟨zo_none_tl, ?_⟩
  refine List.forall_mem_cons.mpr ⟨(zo_if_tl _ _ _), ?_⟩
  refine List.forall_mem_cons.mpr ⟨zo_none_tl, ?_⟩
  refine List.forall_mem_cons.mpr ⟨zo_none_tl, ?_⟩
  refine List.forall_mem_cons.mpr ⟨(zo_iload_tl _ _), ?_⟩
  refine List.forall_mem_cons.mpr ⟨(zo_if_tl _ _ _), ?_⟩
  refine List.forall_mem_cons.mpr ⟨zo_none_tl, ?_⟩
  refine List.forall_mem_cons.mpr ⟨zo_none_tl, ?_⟩
  refine List.forall_mem_cons.mpr ⟨(zo_pushI_tl _ _), ?_⟩
  refine List.forall_mem_cons.mpr ⟨(zo_goto_tl _), ?_⟩
  refine List.forall_mem_cons.mpr ⟨zo_none_tl, ?_⟩
  refine List.forall_mem_cons.mpr ⟨zo_none_tl, ?_⟩
  refine List.forall_mem_cons.mpr ⟨(zo_pushI_tl _ _), ?_⟩
  refine List.forall_mem_cons.mpr ⟨(zo_iret_tl _), ?_⟩
  exact fun _ h => absurd h List.not_mem_nil
noncomputable def fX12_hold : zzFn := zz_fn tX12_hold 5
set_option maxRecDepth 100000 in
set_option maxHeartbeats 4000000 in
theorem mm_X12_hold {l : Launch} {D : va_G} {cA : Nat → ClassId} {ad : Nat → Nat} {Ex : (Nat → Prop) → State → Heap → Prop} (Wd : zzWR l D cA ad Ex) : zz_Cn l D zzCl cA ad zzSR Ex yX12_hold cX12_hold 5 (some .boolean) 2 52 fX12_hold ∧ zz_Cx l D zzCl cA ad zzSR Ex yX12_hold cX12_hold 5 (some .boolean) 2 52 fX12_hold := by
  refine zz_meth (plainFor_of_name (by decide)) Wd.1 Wd.2.1 Wd.2.2 (fun p e R s m args below meth c rr X => ?_)
  unfold tX12_hold
  refine zz_cons (k' := 1) rfl (zk_aload_n X dX12_hold_0 rfl rfl) ?_
  refine zz_cons (k' := 2) rfl (zk_aload_n X dX12_hold_1 rfl rfl) ?_
  refine zz_cons (k' := 3) rfl (zk_iload_n X dX12_hold_2 rfl rfl) ?_
  refine zz_cons (k' := 4) rfl (zk_callv X (zz_Cv_of (List.forall_mem_cons.mpr ⟨⟨(RX_10, zzT10, 50), yX12_isObject, cX12_isObject, 2, (some .boolean), 1, 22, rfl, kv_X12_377_10.1, (mm_X12_isObject Wd).1, by decide, by decide⟩, (fun _ h => absurd h List.not_mem_nil)⟩)) dX12_hold_3 rfl) ?_
  refine zz_cons (k' := 5) rfl (zz_Ok_none _ _) ?_
  refine zz_cons (k' := 6) rfl (zz_Ok_none _ _) ?_
  refine zz_cons (k' := 7) rfl (zk_if_eq X dX12_hold_6 (by decide) rfl) ?_
  refine zz_cons (k' := 8) rfl (zz_Ok_none _ _) ?_
  refine zz_cons (k' := 9) rfl (zz_Ok_none _ _) ?_
  refine zz_cons (k' := 10) rfl (zk_iconst X dX12_hold_9 (by decide) rfl) ?_
  refine zz_cons (k' := 11) rfl (zk_goto X dX12_hold_10 (by decide)) ?_
  refine zz_cons (k' := 12) rfl (zz_Ok_none _ _) ?_
  refine zz_cons (k' := 13) rfl (zz_Ok_none _ _) ?_
  refine zz_cons (k' := 14) rfl (zk_iconst X dX12_hold_13 (by decide) rfl) ?_
  refine zz_cons (k' := 15) rfl (zk_callv X (zz_Cv_of (List.forall_mem_cons.mpr ⟨⟨(RX_10, zzT10, 50), yX12_goes, cX12_goes, 2, (some .boolean), 0, 0, rfl, kv_X12_374_10.1, (mm_X12_goes Wd).1, by decide, by decide⟩, (fun _ h => absurd h List.not_mem_nil)⟩)) dX12_hold_14 rfl) ?_
  refine zz_cons (k' := 16) rfl (zz_Ok_none _ _) ?_
  refine zz_cons (k' := 17) rfl (zz_Ok_none _ _) ?_
  refine zz_cons (k' := 18) rfl (zk_if_ne X dX12_hold_17 (by decide) rfl) ?_
  refine zz_cons (k' := 19) rfl (zz_Ok_none _ _) ?_
  refine zz_cons (k' := 20) rfl (zz_Ok_none _ _) ?_
  refine zz_cons (k' := 21) rfl (zk_iconst X dX12_hold_20 (by decide) rfl) ?_
  refine zz_cons (k' := 22) rfl (zk_iret X rfl dX12_hold_21) ?_
  refine zz_cons (k' := 23) rfl (zk_aload_n X dX12_hold_22 rfl rfl) ?_
  refine zz_cons (k' := 24) rfl (zk_aload_n X dX12_hold_23 rfl rfl) ?_
  refine zz_cons (k' := 25) rfl (zk_getf X ff_X12_28 dX12_hold_24 rfl) ?_
  refine zz_cons (k' := 26) rfl (zz_Ok_none _ _) ?_
  refine zz_cons (k' := 27) rfl (zz_Ok_none _ _) ?_
  refine zz_cons (k' := 28) rfl (zk_iload_n X dX12_hold_27 rfl rfl) ?_
  refine zz_cons (k' := 29) rfl (zk_lald X dX12_hold_28 rfl) ?_
  refine zz_cons (k' := 30) rfl (zk_bipush X dX12_hold_29 (by decide) rfl) ?_
  refine zz_cons (k' := 31) rfl (zz_Ok_none _ _) ?_
  refine zz_cons (k' := 32) rfl (zk_callv X (zz_Cv_of (List.forall_mem_cons.mpr ⟨⟨(RX_10, zzT10, 50), yX12_get, cX12_get, 4, (some .int), 0, 0, rfl, kv_X12_146_10.1, (mm_X12_get Wd).1, by decide, by decide⟩, (fun _ h => absurd h List.not_mem_nil)⟩)) dX12_hold_31 rfl) ?_
  refine zz_cons (k' := 33) rfl (zz_Ok_none _ _) ?_
  refine zz_cons (k' := 34) rfl (zz_Ok_none _ _) ?_
  refine zz_cons (k' := 35) rfl (zk_iconst X dX12_hold_34 (by decide) rfl) ?_
  refine zz_cons (k' := 36) rfl (zk_icmp_ne X dX12_hold_35 (by decide) rfl) ?_
  refine zz_cons (k' := 37) rfl (zz_Ok_none _ _) ?_
  refine zz_cons (k' := 38) rfl (zz_Ok_none _ _) ?_
  refine zz_cons (k' := 39) rfl (zk_iconst X dX12_hold_38 (by decide) rfl) ?_
  refine zz_cons (k' := 40) rfl (zk_goto X dX12_hold_39 (by decide)) ?_
  refine zz_cons (k' := 41) rfl (zz_Ok_none _ _) ?_
  refine zz_cons (k' := 42) rfl (zz_Ok_none _ _) ?_
  refine zz_cons (k' := 43) rfl (zk_iconst X dX12_hold_42 (by decide) rfl) ?_
  refine zz_cons (k' := 44) rfl (zk_istore_n X dX12_hold_43 rfl (by decide) rfl) ?_
  refine zz_cons (k' := 45) rfl (zk_aload_n X dX12_hold_44 rfl rfl) ?_
  refine zz_cons (k' := 46) rfl (zk_iload_n X dX12_hold_45 rfl rfl) ?_
  refine zz_cons (k' := 47) rfl (zk_callv X (zz_Cv_of (List.forall_mem_cons.mpr ⟨⟨(RX_10, zzT10, 50), yX12_isGone, cX12_isGone, 2, (some .boolean), 1, 23, rfl, kv_X12_386_10.1, (mm_X12_isGone Wd).1, by decide, by decide⟩, (fun _ h => absurd h List.not_mem_nil)⟩)) dX12_hold_46 rfl) ?_
  refine zz_cons (k' := 48) rfl (zz_Ok_none _ _) ?_
  refine zz_cons (k' := 49) rfl (zz_Ok_none _ _) ?_
  refine zz_cons (k' := 50) rfl (zk_if_ne X dX12_hold_49 (by decide) rfl) ?_
  refine zz_cons (k' := 51) rfl (zz_Ok_none _ _) ?_
  refine zz_cons (k' := 52) rfl (zz_Ok_none _ _) ?_
  refine zz_cons (k' := 53) rfl (zk_aload_n X dX12_hold_52 rfl rfl) ?_
  refine zz_cons (k' := 54) rfl (zk_iload_n X dX12_hold_53 rfl rfl) ?_
  refine zz_cons (k' := 55) rfl (zk_aload_n X dX12_hold_54 rfl rfl) ?_
  refine zz_cons (k' := 56) rfl (zk_aload_n X dX12_hold_55 rfl rfl) ?_
  refine zz_cons (k' := 57) rfl (zk_getf X ff_X12_28 dX12_hold_56 rfl) ?_
  refine zz_cons (k' := 58) rfl (zz_Ok_none _ _) ?_
  refine zz_cons (k' := 59) rfl (zz_Ok_none _ _) ?_
  refine zz_cons (k' := 60) rfl (zk_iload_n X dX12_hold_59 rfl rfl) ?_
  refine zz_cons (k' := 61) rfl (zk_lald X dX12_hold_60 rfl) ?_
  refine zz_cons (k' := 62) rfl (zk_bipush X dX12_hold_61 (by decide) rfl) ?_
  refine zz_cons (k' := 63) rfl (zz_Ok_none _ _) ?_
  refine zz_cons (k' := 64) rfl (zk_iload_n X dX12_hold_63 rfl rfl) ?_
  refine zz_cons (k' := 65) rfl (zk_if_eq X dX12_hold_64 (by decide) rfl) ?_
  refine zz_cons (k' := 66) rfl (zz_Ok_none _ _) ?_
  refine zz_cons (k' := 67) rfl (zz_Ok_none _ _) ?_
  refine zz_cons (k' := 68) rfl (zk_iconst X dX12_hold_67 (by decide) rfl) ?_
  refine zz_cons (k' := 69) rfl (zk_goto X dX12_hold_68 (by decide)) ?_
  refine zz_cons (k' := 70) rfl (zz_Ok_none _ _) ?_
  refine zz_cons (k' := 71) rfl (zz_Ok_none _ _) ?_
  refine zz_cons (k' := 72) rfl (zk_iconst X dX12_hold_71 (by decide) rfl) ?_
  refine zz_cons (k' := 73) rfl (zk_callv X (zz_Cv_of (List.forall_mem_cons.mpr ⟨⟨(RX_10, zzT10, 50), yX12_with, cX12_with, 7, (some .long), 0, 0, rfl, kv_X12_150_10.1, (mm_X12_with Wd).1, by decide, by decide⟩, (fun _ h => absurd h List.not_mem_nil)⟩)) dX12_hold_72 rfl) ?_
  refine zz_cons (k' := 74) rfl (zz_Ok_none _ _) ?_
  refine zz_cons (k' := 75) rfl (zz_Ok_none _ _) ?_
  refine zz_cons (k' := 76) rfl (zk_aload_n X dX12_hold_75 rfl rfl) ?_
  refine zz_cons (k' := 77) rfl (zk_getf X ff_X12_32 dX12_hold_76 rfl) ?_
  refine zz_cons (k' := 78) rfl (zz_Ok_none _ _) ?_
  refine zz_cons (k' := 79) rfl (zz_Ok_none _ _) ?_
  refine zz_cons (k' := 80) rfl (zk_iload_n X dX12_hold_79 rfl rfl) ?_
  refine zz_cons (k' := 81) rfl (zk_lald X dX12_hold_80 rfl) ?_
  refine zz_cons (k' := 82) rfl (zk_iconst X dX12_hold_81 (by decide) rfl) ?_
  refine zz_cons (k' := 83) rfl (zk_callv X (zz_Cv_of (List.forall_mem_cons.mpr ⟨⟨(RX_10, zzT10, 50), yX12_puts, cX12_puts, 8, (some .boolean), 1, 25, rfl, kv_X12_185_10.1, (mm_X12_puts Wd).1, by decide, by decide⟩, (fun _ h => absurd h List.not_mem_nil)⟩)) dX12_hold_82 rfl) ?_
  refine zz_cons (k' := 84) rfl (zz_Ok_none _ _) ?_
  refine zz_cons (k' := 85) rfl (zz_Ok_none _ _) ?_
  refine zz_cons (k' := 86) rfl (zk_if_ne X dX12_hold_85 (by decide) rfl) ?_
  refine zz_cons (k' := 87) rfl (zz_Ok_none _ _) ?_
  refine zz_cons (k' := 88) rfl (zz_Ok_none _ _) ?_
  refine zz_cons (k' := 89) rfl (zk_iconst X dX12_hold_88 (by decide) rfl) ?_
  refine zz_cons (k' := 90) rfl (zk_goto X dX12_hold_89 (by decide)) ?_
  refine zz_cons (k' := 91) rfl (zz_Ok_none _ _) ?_
  refine zz_cons (k' := 92) rfl (zz_Ok_none _ _) ?_
  refine zz_cons (k' := 93) rfl (zk_iconst X dX12_hold_92 (by decide) rfl) ?_
  refine zz_cons (k' := 94) rfl (zk_istore X dX12_hold_93 (by decide) rfl) ?_
  refine zz_cons (k' := 95) rfl (zz_Ok_none _ _) ?_
  refine zz_cons (k' := 96) rfl (zk_aload_n X dX12_hold_95 rfl rfl) ?_
  refine zz_cons (k' := 97) rfl (zk_iload X dX12_hold_96 rfl) ?_
  refine zz_cons (k' := 98) rfl (zz_Ok_none _ _) ?_
  refine zz_cons (k' := 99) rfl (zk_if_eq X dX12_hold_98 (by decide) rfl) ?_
  refine zz_cons (k' := 100) rfl (zz_Ok_none _ _) ?_
  refine zz_cons (k' := 101) rfl (zz_Ok_none _ _) ?_
  refine zz_cons (k' := 102) rfl (zk_iconst X dX12_hold_101 (by decide) rfl) ?_
  refine zz_cons (k' := 103) rfl (zk_goto X dX12_hold_102 (by decide)) ?_
  refine zz_cons (k' := 104) rfl (zz_Ok_none _ _) ?_
  refine zz_cons (k' := 105) rfl (zz_Ok_none _ _) ?_
  refine zz_cons (k' := 106) rfl (zk_iconst X dX12_hold_105 (by decide) rfl) ?_
  refine zz_cons (k' := 107) rfl (zk_callv X (zz_Cv_of (List.forall_mem_cons.mpr ⟨⟨(RX_10, zzT10, 50), yX12_goes, cX12_goes, 2, (some .boolean), 0, 0, rfl, kv_X12_374_10.1, (mm_X12_goes Wd).1, by decide, by decide⟩, (fun _ h => absurd h List.not_mem_nil)⟩)) dX12_hold_106 rfl) ?_
  refine zz_cons (k' := 108) rfl (zz_Ok_none _ _) ?_
  refine zz_cons (k' := 109) rfl (zz_Ok_none _ _) ?_
  refine zz_cons (k' := 110) rfl (zk_if_eq X dX12_hold_109 (by decide) rfl) ?_
  refine zz_cons (k' := 111) rfl (zz_Ok_none _ _) ?_
  refine zz_cons (k' := 112) rfl (zz_Ok_none _ _) ?_
  refine zz_cons (k' := 113) rfl (zk_iload_n X dX12_hold_112 rfl rfl) ?_
  refine zz_cons (k' := 114) rfl (zk_if_eq X dX12_hold_113 (by decide) rfl) ?_
  refine zz_cons (k' := 115) rfl (zz_Ok_none _ _) ?_
  refine zz_cons (k' := 116) rfl (zz_Ok_none _ _) ?_
  refine zz_cons (k' := 117) rfl (zk_iconst X dX12_hold_116 (by decide) rfl) ?_
  refine zz_cons (k' := 118) rfl (zk_goto X dX12_hold_117 (by decide)) ?_
  refine zz_cons (k' := 119) rfl (zz_Ok_none _ _) ?_
  refine zz_cons (k' := 120) rfl (zz_Ok_none _ _) ?_
  refine zz_cons (k' := 121) rfl (zk_iconst X dX12_hold_120 (by decide) rfl) ?_
  refine zz_cons (k' := 122) rfl (zk_iret X rfl dX12_hold_121) ?_
  exact trivial
noncomputable def tX12_finish : List zzOp := [
  zo_aload 0 1,
  zo_aload 0 2,
  zo_iload 1 3,
  zo_callv zzSR (zz_cl [(10, fX12_isObject)]) 1 6,
  zo_none,
  zo_none,
  zo_if (fun x => decide (¬ x = 0)) 13 9,
  zo_none,
  zo_none,
  zo_pushI 1 10,
  zo_goto 28,
  zo_none,
  zo_none,
  zo_aload 0 14,
  zo_getf zzSR (zz_kf [10] 6) 17,
  zo_none,
  zo_none,
  zo_iload 1 18,
  zo_iald zzSR zzSTR 19,
  zo_pushI 2 20,
  zo_icmp (fun x y => decide (¬ x = y)) 27 23,
  zo_none,
  zo_none,
  zo_pushI 0 24,
  zo_goto 28,
  zo_none,
  zo_none,
  zo_pushI 2 28,
  zo_callv zzSR (zz_cl [(10, fX12_goes)]) 1 31,
  zo_none,
  zo_none,
  zo_if (fun x => decide (¬ x = 0)) 36 34,
  zo_none,
  zo_none,
  zo_pushI 0 35,
  zo_iret false,
  zo_aload 0 37,
  zo_iload 1 38,
  zo_callv zzSR (zz_cl [(10, fX12_isGone)]) 1 41,
  zo_none,
  zo_none,
  zo_if (fun x => decide (¬ x = 0)) 96 44,
  zo_none,
  zo_none,
  zo_aload 0 45,
  zo_aload 0 46,
  zo_getf zzSR (zz_kf [10] 7) 49,
  zo_none,
  zo_none,
  zo_iload 1 50,
  zo_lald zzSR 51,
  zo_pushI 16 53,
  zo_none,
  zo_callv zzSR (zz_cl [(10, fX12_get)]) 2 56,
  zo_none,
  zo_none,
  zo_pushI 1 57,
  zo_icmp (fun x y => decide (¬ x = y)) 96 60,
  zo_none,
  zo_none,
  zo_aload 0 61,
  zo_iload 1 62,
  zo_aload 0 63,
  zo_aload 0 64,
  zo_getf zzSR (zz_kf [10] 7) 67,
  zo_none,
  zo_none,
  zo_iload 1 68,
  zo_lald zzSR 69,
  zo_pushI 16 71,
  zo_none,
  zo_iload 2 72,
  zo_if (fun x => decide (x = 0)) 79 75,
  zo_none,
  zo_none,
  zo_pushI 2 76,
  zo_goto 80,
  zo_none,
  zo_none,
  zo_pushI 3 80,
  zo_callv zzSR (zz_cl [(10, fX12_with)]) 3 83,
  zo_none,
  zo_none,
  zo_aload 0 84,
  zo_getf zzSR (zz_kf [10] 8) 87,
  zo_none,
  zo_none,
  zo_iload 1 88,
  zo_lald zzSR 89,
  zo_pushI 0 90,
  zo_callv zzSR (zz_cl [(10, fX12_puts)]) 4 93,
  zo_none,
  zo_none,
  zo_if (fun x => decide (¬ x = 0)) 100 96,
  zo_none,
  zo_none,
  zo_pushI 1 97,
  zo_goto 101,
  zo_none,
  zo_none,
  zo_pushI 0 101,
  zo_istore 3 102,
  zo_aload 0 103,
  zo_iload 3 104,
  zo_if (fun x => decide (x = 0)) 111 107,
  zo_none,
  zo_none,
  zo_pushI 3 108,
  zo_goto 112,
  zo_none,
  zo_none,
  zo_pushI 0 112,
  zo_callv zzSR (zz_cl [(10, fX12_goes)]) 1 115,
  zo_none,
  zo_none,
  zo_if (fun x => decide (x = 0)) 127 118,
  zo_none,
  zo_none,
  zo_aload 0 119,
  zo_getf zzSR (zz_kf [10] 9) 122,
  zo_none,
  zo_none,
  zo_iload 1 123,
  zo_iald zzSR zzSTR 124,
  zo_goto 128,
  zo_none,
  zo_none,
  zo_pushI 0 128,
  zo_iret false]
set_option maxRecDepth 100000 in
theorem tl_X12_finish : ∀ pc, zz_Tl (tX12_finish.getD pc zo_none) := by
  refine zz_Tl_mem ?_
  unfold tX12_finish
  refine List.forall_mem_cons.mpr ⟨(zo_aload_tl _ _), ?_⟩
  refine List.forall_mem_cons.mpr ⟨(zo_aload_tl _ _), ?_⟩
  refine List.forall_mem_cons.mpr ⟨(zo_iload_tl _ _), ?_⟩
  refine List.forall_mem_cons.mpr ⟨(zo_callv_tl _ _ _ _), ?_⟩
  refine List.forall_mem_cons.mpr ⟨zo_none_tl, ?_⟩
  refine List.forall_mem_cons.mpr ⟨zo_none_tl, ?_⟩
  refine List.forall_mem_cons.mpr ⟨(zo_if_tl _ _ _), ?_⟩
  refine List.forall_mem_cons.mpr ⟨zo_none_tl, ?_⟩
  refine List.forall_mem_cons.mpr ⟨zo_none_tl, ?_⟩
  refine List.forall_mem_cons.mpr ⟨(zo_pushI_tl _ _), ?_⟩
  refine List.forall_mem_cons.mpr ⟨(zo_goto_tl _), ?_⟩
  refine List.forall_mem_cons.mpr ⟨zo_none_tl, ?_⟩
  refine List.forall_mem_cons.mpr ⟨zo_none_tl, ?_⟩
  refine List.forall_mem_cons.mpr ⟨(zo_aload_tl _ _), ?_⟩
  refine List.forall_mem_cons.mpr ⟨(zo_getf_tl _ _ _), ?_⟩
  refine List.forall_mem_cons.mpr ⟨zo_none_tl, ?_⟩
  refine List.forall_mem_cons.mpr ⟨zo_none_tl, ?_⟩
  refine List.forall_mem_cons.mpr ⟨(zo_iload_tl _ _), ?_⟩
  refine List.forall_mem_cons.mpr ⟨(zo_iald_tl _ _ _), ?_⟩
  refine List.forall_mem_cons.mpr ⟨(zo_pushI_tl _ _), ?_⟩
  refine List.forall_mem_cons.mpr ⟨(zo_icmp_tl _ _ _), ?_⟩
  refine List.forall_mem_cons.mpr ⟨zo_none_tl, ?_⟩
  refine List.forall_mem_cons.mpr ⟨zo_none_tl, ?_⟩
  refine List.forall_mem_cons.mpr ⟨(zo_pushI_tl _ _), ?_⟩
  refine List.forall_mem_cons.mpr ⟨(zo_goto_tl _), ?_⟩
  refine List.forall_mem_cons.mpr ⟨zo_none_tl, ?_⟩
  refine List.forall_mem_cons.mpr ⟨zo_none_tl, ?_⟩
  refine List.forall_mem_cons.mpr ⟨(zo_pushI_tl _ _), ?_⟩
  refine List.forall_mem_cons.mpr ⟨(zo_callv_tl _ _ _ _), ?_⟩
  refine List.forall_mem_cons.mpr ⟨zo_none_tl, ?_⟩
  refine List.forall_mem_cons.mpr ⟨zo_none_tl, ?_⟩
  refine List.forall_mem_cons.mpr ⟨(zo_if_tl _ _ _), ?_⟩
  refine List.forall_mem_cons.mpr ⟨zo_none_tl, ?_⟩
  refine List.forall_mem_cons.mpr ⟨zo_none_tl, ?_⟩
  refine List.forall_mem_cons.mpr ⟨(zo_pushI_tl _ _), ?_⟩
  refine List.forall_mem_cons.mpr ⟨(zo_iret_tl _), ?_⟩
  refine List.forall_mem_cons.mpr ⟨(zo_aload_tl _ _), ?_⟩
  refine List.forall_mem_cons.mpr ⟨(zo_iload_tl _ _), ?_⟩
  refine List.forall_mem_cons.mpr ⟨(zo_callv_tl _ _ _ _), ?_⟩
  refine List.forall_mem_cons.mpr ⟨zo_none_tl, ?_⟩
  refine List.forall_mem_cons.mpr ⟨zo_none_tl, ?_⟩
  refine List.forall_mem_cons.mpr ⟨(zo_if_tl _ _ _), ?_⟩
  refine List.forall_mem_cons.mpr ⟨zo_none_tl, ?_⟩
  refine List.forall_mem_cons.mpr ⟨zo_none_tl, ?_⟩
  refine List.forall_mem_cons.mpr ⟨(zo_aload_tl _ _), ?_⟩
  refine List.forall_mem_cons.mpr ⟨(zo_aload_tl _ _), ?_⟩
  refine List.forall_mem_cons.mpr ⟨(zo_getf_tl _ _ _), ?_⟩
  refine List.forall_mem_cons.mpr ⟨zo_none_tl, ?_⟩
  refine List.forall_mem_cons.mpr ⟨zo_none_tl, ?_⟩
  refine List.forall_mem_cons.mpr ⟨(zo_iload_tl _ _), ?_⟩
  refine List.forall_mem_cons.mpr ⟨(zo_lald_tl _ _), ?_⟩
  refine List.forall_mem_cons.mpr ⟨(zo_pushI_tl _ _), ?_⟩
  refine List.forall_mem_cons.mpr ⟨zo_none_tl, ?_⟩
  refine List.forall_mem_cons.mpr ⟨(zo_callv_tl _ _ _ _), ?_⟩
  refine List.forall_mem_cons.mpr ⟨zo_none_tl, ?_⟩
  refine List.forall_mem_cons.mpr ⟨zo_none_tl, ?_⟩
  refine List.forall_mem_cons.mpr ⟨(zo_pushI_tl _ _), ?_⟩
  refine List.forall_mem_cons.mpr ⟨(zo_icmp_tl _ _ _), ?_⟩
  refine List.forall_mem_cons.mpr ⟨zo_none_tl, ?_⟩
  refine List.forall_mem_cons.mpr ⟨zo_none_tl, ?_⟩
  refine List.forall_mem_cons.mpr ⟨(zo_aload_tl _ _), ?_⟩
  refine List.forall_mem_cons.mpr ⟨(zo_iload_tl _ _), ?_⟩
  refine List.forall_mem_cons.mpr ⟨(zo_aload_tl _ _), ?_⟩
  refine List.forall_mem_cons.mpr ⟨(zo_aload_tl _ _), ?_⟩
  refine List.forall_mem_cons.mpr ⟨(zo_getf_tl _ _ _), ?_⟩
  refine List.forall_mem_cons.mpr ⟨zo_none_tl, ?_⟩
  refine List.forall_mem_cons.mpr ⟨zo_none_tl, ?_⟩
  refine List.forall_mem_cons.mpr ⟨(zo_iload_tl _ _), ?_⟩
  refine List.forall_mem_cons.mpr ⟨(zo_lald_tl _ _), ?_⟩
  refine List.forall_mem_cons.mpr ⟨(zo_pushI_tl _ _), ?_⟩
  refine List.forall_mem_cons.mpr ⟨zo_none_tl, ?_⟩
  refine List.forall_mem_cons.mpr ⟨(zo_iload_tl _ _), ?_⟩
  refine List.forall_mem_cons.mpr ⟨(zo_if_tl _ _ _), ?_⟩
  refine List.forall_mem_cons.mpr ⟨zo_none_tl, ?_⟩
  refine List.forall_mem_cons.mpr ⟨zo_none_tl, ?_⟩
  refine List.forall_mem_cons.mpr ⟨(zo_pushI_tl _ _), ?_⟩
  refine List.forall_mem_cons.mpr ⟨(zo_goto_tl _), ?_⟩
  refine List.forall_mem_cons.mpr ⟨zo_none_tl, ?_⟩
  refine List.forall_mem_cons.mpr ⟨zo_none_tl, ?_⟩
  refine List.forall_mem_cons.mpr ⟨(zo_pushI_tl _ _), ?_⟩
  refine List.forall_mem_cons.mpr ⟨(zo_callv_tl _ _ _ _), ?_⟩
  refine List.forall_mem_cons.mpr ⟨zo_none_tl, ?_⟩
  refine List.forall_mem_cons.mpr ⟨zo_none_tl, ?_⟩
  refine List.forall_mem_cons.mpr ⟨(zo_aload_tl _ _), ?_⟩
  refine List.forall_mem_cons.mpr ⟨(zo_getf_tl _ _ _), ?_⟩
  refine List.forall_mem_cons.mpr ⟨zo_none_tl, ?_⟩
  refine List.forall_mem_cons.mpr ⟨zo_none_tl, ?_⟩
  refine List.forall_mem_cons.mpr ⟨(zo_iload_tl _ _), ?_⟩
  refine List.forall_mem_cons.mpr ⟨(zo_lald_tl _ _), ?_⟩
  refine List.forall_mem_cons.mpr ⟨(zo_pushI_tl _ _), ?_⟩
  refine List.forall_mem_cons.mpr ⟨(zo_callv_tl _ _ _ _), ?_⟩
  refine List.forall_mem_cons.mpr ⟨zo_none_tl, ?_⟩
  refine List.forall_mem_cons.mpr ⟨zo_none_tl, ?_⟩
  refine List.forall_mem_cons.mpr ⟨(zo_if_tl _ _ _), ?_⟩
  refine List.forall_mem_cons.mpr ⟨zo_none_tl, ?_⟩
  refine List.forall_mem_cons.mpr ⟨zo_none_tl, ?_⟩
  refine List.forall_mem_cons.mpr ⟨(zo_pushI_tl _ _), ?_⟩
  refine List.forall_mem_cons.mpr ⟨(zo_goto_tl _), ?_⟩
  refine List.forall_mem_cons.mpr ⟨zo_none_tl, ?_⟩
  refine List.forall_mem_cons.mpr ⟨zo_none_tl, ?_⟩
  refine List.forall_mem_cons.mpr ⟨(zo_pushI_tl _ _), ?_⟩
  refine List.forall_mem_cons.mpr ⟨(zo_istore_tl _ _), ?_⟩
  refine List.forall_mem_cons.mpr ⟨(zo_aload_tl _ _), ?_⟩
  refine List.forall_mem_cons.mpr ⟨(zo_iload_tl _ _), ?_⟩
  refine List.forall_mem_cons.mpr ⟨(zo_if_tl _ _ _), ?_⟩
  refine List.forall_mem_cons.mpr ⟨zo_none_tl, ?_⟩
  refine List.forall_mem_cons.mpr ⟨zo_none_tl, ?_⟩
  refine List.forall_mem_cons.mpr ⟨(zo_pushI_tl _ _), ?_⟩
  refine List.forall_mem_cons.mpr ⟨(zo_goto_tl _), ?_⟩
  refine List.forall_mem_cons.mpr ⟨zo_none_tl, ?_⟩
  refine List.forall_mem_cons.mpr ⟨zo_none_tl, ?_⟩
  refine List.forall_mem_cons.mpr ⟨(zo_pushI_tl _ _), ?_⟩
  refine List.forall_mem_cons.mpr ⟨(zo_callv_tl _ _ _ _), ?_⟩
  refine List.forall_mem_cons.mpr ⟨zo_none_tl, ?_⟩
  refine List.forall_mem_cons.mpr ⟨zo_none_tl, ?_⟩
  refine List.forall_mem_cons.mpr ⟨(zo_if_tl _ _ _), ?_⟩
  refine List.forall_mem_cons.mpr ⟨zo_none_tl, ?_⟩
  refine List.forall_mem_cons.mpr ⟨zo_none_tl, ?_⟩
  refine List.forall_mem_cons.mpr ⟨(zo_aload_tl _ _), ?_⟩
  refine List.forall_mem_cons.mpr ⟨(zo_getf_tl _ _ _), ?_⟩
  refine List.forall_mem_cons.mpr ⟨zo_none_tl, ?_⟩
  refine List.forall_mem_cons.mpr ⟨zo_none_tl, ?_⟩
  refine List.forall_mem_cons.mpr ⟨(zo_iload_tl _ _), ?_⟩
  refine List.forall_mem_cons.mpr ⟨(zo_iald_tl _ _ _), ?_⟩
  refine List.forall_mem_cons.mpr ⟨(zo_goto_tl _), ?_⟩
  refine List.forall_mem_cons.mpr ⟨zo_none_tl, ?_⟩
  refine List.forall_mem_cons.mpr ⟨zo_none_tl, ?_⟩
  refine List.forall_mem_cons.mpr ⟨(zo_pushI_tl _ _), ?_⟩
  refine List.forall_mem_cons.mpr ⟨(zo_iret_tl _), ?_⟩
  exact fun _ h => absurd h List.not_mem_nil
noncomputable def fX12_finish : zzFn := zz_fn tX12_finish 4
set_option maxRecDepth 100000 in
set_option maxHeartbeats 4000000 in
theorem mm_X12_finish {l : Launch} {D : va_G} {cA : Nat → ClassId} {ad : Nat → Nat} {Ex : (Nat → Prop) → State → Heap → Prop} (Wd : zzWR l D cA ad Ex) : zz_Cn l D zzCl cA ad zzSR Ex yX12_finish cX12_finish 4 (some .int) 2 52 fX12_finish ∧ zz_Cx l D zzCl cA ad zzSR Ex yX12_finish cX12_finish 4 (some .int) 2 52 fX12_finish := by
  refine zz_meth (plainFor_of_name (by decide)) Wd.1 Wd.2.1 Wd.2.2 (fun p e R s m args below meth c rr X => ?_)
  unfold tX12_finish
  refine zz_cons (k' := 1) rfl (zk_aload_n X dX12_finish_0 rfl rfl) ?_
  refine zz_cons (k' := 2) rfl (zk_aload_n X dX12_finish_1 rfl rfl) ?_
  refine zz_cons (k' := 3) rfl (zk_iload_n X dX12_finish_2 rfl rfl) ?_
  refine zz_cons (k' := 4) rfl (zk_callv X (zz_Cv_of (List.forall_mem_cons.mpr ⟨⟨(RX_10, zzT10, 50), yX12_isObject, cX12_isObject, 2, (some .boolean), 1, 22, rfl, kv_X12_377_10.1, (mm_X12_isObject Wd).1, by decide, by decide⟩, (fun _ h => absurd h List.not_mem_nil)⟩)) dX12_finish_3 rfl) ?_
  refine zz_cons (k' := 5) rfl (zz_Ok_none _ _) ?_
  refine zz_cons (k' := 6) rfl (zz_Ok_none _ _) ?_
  refine zz_cons (k' := 7) rfl (zk_if_ne X dX12_finish_6 (by decide) rfl) ?_
  refine zz_cons (k' := 8) rfl (zz_Ok_none _ _) ?_
  refine zz_cons (k' := 9) rfl (zz_Ok_none _ _) ?_
  refine zz_cons (k' := 10) rfl (zk_iconst X dX12_finish_9 (by decide) rfl) ?_
  refine zz_cons (k' := 11) rfl (zk_goto X dX12_finish_10 (by decide)) ?_
  refine zz_cons (k' := 12) rfl (zz_Ok_none _ _) ?_
  refine zz_cons (k' := 13) rfl (zz_Ok_none _ _) ?_
  refine zz_cons (k' := 14) rfl (zk_aload_n X dX12_finish_13 rfl rfl) ?_
  refine zz_cons (k' := 15) rfl (zk_getf X ff_X12_25 dX12_finish_14 rfl) ?_
  refine zz_cons (k' := 16) rfl (zz_Ok_none _ _) ?_
  refine zz_cons (k' := 17) rfl (zz_Ok_none _ _) ?_
  refine zz_cons (k' := 18) rfl (zk_iload_n X dX12_finish_17 rfl rfl) ?_
  refine zz_cons (k' := 19) rfl (zk_iald X (zzWR_st Wd) dX12_finish_18 rfl) ?_
  refine zz_cons (k' := 20) rfl (zk_iconst X dX12_finish_19 (by decide) rfl) ?_
  refine zz_cons (k' := 21) rfl (zk_icmp_ne X dX12_finish_20 (by decide) rfl) ?_
  refine zz_cons (k' := 22) rfl (zz_Ok_none _ _) ?_
  refine zz_cons (k' := 23) rfl (zz_Ok_none _ _) ?_
  refine zz_cons (k' := 24) rfl (zk_iconst X dX12_finish_23 (by decide) rfl) ?_
  refine zz_cons (k' := 25) rfl (zk_goto X dX12_finish_24 (by decide)) ?_
  refine zz_cons (k' := 26) rfl (zz_Ok_none _ _) ?_
  refine zz_cons (k' := 27) rfl (zz_Ok_none _ _) ?_
  refine zz_cons (k' := 28) rfl (zk_iconst X dX12_finish_27 (by decide) rfl) ?_
  refine zz_cons (k' := 29) rfl (zk_callv X (zz_Cv_of (List.forall_mem_cons.mpr ⟨⟨(RX_10, zzT10, 50), yX12_goes, cX12_goes, 2, (some .boolean), 0, 0, rfl, kv_X12_374_10.1, (mm_X12_goes Wd).1, by decide, by decide⟩, (fun _ h => absurd h List.not_mem_nil)⟩)) dX12_finish_28 rfl) ?_
  refine zz_cons (k' := 30) rfl (zz_Ok_none _ _) ?_
  refine zz_cons (k' := 31) rfl (zz_Ok_none _ _) ?_
  refine zz_cons (k' := 32) rfl (zk_if_ne X dX12_finish_31 (by decide) rfl) ?_
  refine zz_cons (k' := 33) rfl (zz_Ok_none _ _) ?_
  refine zz_cons (k' := 34) rfl (zz_Ok_none _ _) ?_
  refine zz_cons (k' := 35) rfl (zk_iconst X dX12_finish_34 (by decide) rfl) ?_
  refine zz_cons (k' := 36) rfl (zk_iret X rfl dX12_finish_35) ?_
  refine zz_cons (k' := 37) rfl (zk_aload_n X dX12_finish_36 rfl rfl) ?_
  refine zz_cons (k' := 38) rfl (zk_iload_n X dX12_finish_37 rfl rfl) ?_
  refine zz_cons (k' := 39) rfl (zk_callv X (zz_Cv_of (List.forall_mem_cons.mpr ⟨⟨(RX_10, zzT10, 50), yX12_isGone, cX12_isGone, 2, (some .boolean), 1, 23, rfl, kv_X12_386_10.1, (mm_X12_isGone Wd).1, by decide, by decide⟩, (fun _ h => absurd h List.not_mem_nil)⟩)) dX12_finish_38 rfl) ?_
  refine zz_cons (k' := 40) rfl (zz_Ok_none _ _) ?_
  refine zz_cons (k' := 41) rfl (zz_Ok_none _ _) ?_
  refine zz_cons (k' := 42) rfl (zk_if_ne X dX12_finish_41 (by decide) rfl) ?_
  refine zz_cons (k' := 43) rfl (zz_Ok_none _ _) ?_
  refine zz_cons (k' := 44) rfl (zz_Ok_none _ _) ?_
  refine zz_cons (k' := 45) rfl (zk_aload_n X dX12_finish_44 rfl rfl) ?_
  refine zz_cons (k' := 46) rfl (zk_aload_n X dX12_finish_45 rfl rfl) ?_
  refine zz_cons (k' := 47) rfl (zk_getf X ff_X12_28 dX12_finish_46 rfl) ?_
  refine zz_cons (k' := 48) rfl (zz_Ok_none _ _) ?_
  refine zz_cons (k' := 49) rfl (zz_Ok_none _ _) ?_
  refine zz_cons (k' := 50) rfl (zk_iload_n X dX12_finish_49 rfl rfl) ?_
  refine zz_cons (k' := 51) rfl (zk_lald X dX12_finish_50 rfl) ?_
  refine zz_cons (k' := 52) rfl (zk_bipush X dX12_finish_51 (by decide) rfl) ?_
  refine zz_cons (k' := 53) rfl (zz_Ok_none _ _) ?_
  refine zz_cons (k' := 54) rfl (zk_callv X (zz_Cv_of (List.forall_mem_cons.mpr ⟨⟨(RX_10, zzT10, 50), yX12_get, cX12_get, 4, (some .int), 0, 0, rfl, kv_X12_146_10.1, (mm_X12_get Wd).1, by decide, by decide⟩, (fun _ h => absurd h List.not_mem_nil)⟩)) dX12_finish_53 rfl) ?_
  refine zz_cons (k' := 55) rfl (zz_Ok_none _ _) ?_
  refine zz_cons (k' := 56) rfl (zz_Ok_none _ _) ?_
  refine zz_cons (k' := 57) rfl (zk_iconst X dX12_finish_56 (by decide) rfl) ?_
  refine zz_cons (k' := 58) rfl (zk_icmp_ne X dX12_finish_57 (by decide) rfl) ?_
  refine zz_cons (k' := 59) rfl (zz_Ok_none _ _) ?_
  refine zz_cons (k' := 60) rfl (zz_Ok_none _ _) ?_
  refine zz_cons (k' := 61) rfl (zk_aload_n X dX12_finish_60 rfl rfl) ?_
  refine zz_cons (k' := 62) rfl (zk_iload_n X dX12_finish_61 rfl rfl) ?_
  refine zz_cons (k' := 63) rfl (zk_aload_n X dX12_finish_62 rfl rfl) ?_
  refine zz_cons (k' := 64) rfl (zk_aload_n X dX12_finish_63 rfl rfl) ?_
  refine zz_cons (k' := 65) rfl (zk_getf X ff_X12_28 dX12_finish_64 rfl) ?_
  refine zz_cons (k' := 66) rfl (zz_Ok_none _ _) ?_
  refine zz_cons (k' := 67) rfl (zz_Ok_none _ _) ?_
  refine zz_cons (k' := 68) rfl (zk_iload_n X dX12_finish_67 rfl rfl) ?_
  refine zz_cons (k' := 69) rfl (zk_lald X dX12_finish_68 rfl) ?_
  refine zz_cons (k' := 70) rfl (zk_bipush X dX12_finish_69 (by decide) rfl) ?_
  refine zz_cons (k' := 71) rfl (zz_Ok_none _ _) ?_
  refine zz_cons (k' := 72) rfl (zk_iload_n X dX12_finish_71 rfl rfl) ?_
  refine zz_cons (k' := 73) rfl (zk_if_eq X dX12_finish_72 (by decide) rfl) ?_
  refine zz_cons (k' := 74) rfl (zz_Ok_none _ _) ?_
  refine zz_cons (k' := 75) rfl (zz_Ok_none _ _) ?_
  refine zz_cons (k' := 76) rfl (zk_iconst X dX12_finish_75 (by decide) rfl) ?_
  refine zz_cons (k' := 77) rfl (zk_goto X dX12_finish_76 (by decide)) ?_
  refine zz_cons (k' := 78) rfl (zz_Ok_none _ _) ?_
  refine zz_cons (k' := 79) rfl (zz_Ok_none _ _) ?_
  refine zz_cons (k' := 80) rfl (zk_iconst X dX12_finish_79 (by decide) rfl) ?_
  refine zz_cons (k' := 81) rfl (zk_callv X (zz_Cv_of (List.forall_mem_cons.mpr ⟨⟨(RX_10, zzT10, 50), yX12_with, cX12_with, 7, (some .long), 0, 0, rfl, kv_X12_150_10.1, (mm_X12_with Wd).1, by decide, by decide⟩, (fun _ h => absurd h List.not_mem_nil)⟩)) dX12_finish_80 rfl) ?_
  refine zz_cons (k' := 82) rfl (zz_Ok_none _ _) ?_
  refine zz_cons (k' := 83) rfl (zz_Ok_none _ _) ?_
  refine zz_cons (k' := 84) rfl (zk_aload_n X dX12_finish_83 rfl rfl) ?_
  refine zz_cons (k' := 85) rfl (zk_getf X ff_X12_32 dX12_finish_84 rfl) ?_
  refine zz_cons (k' := 86) rfl (zz_Ok_none _ _) ?_
  refine zz_cons (k' := 87) rfl (zz_Ok_none _ _) ?_
  refine zz_cons (k' := 88) rfl (zk_iload_n X dX12_finish_87 rfl rfl) ?_
  refine zz_cons (k' := 89) rfl (zk_lald X dX12_finish_88 rfl) ?_
  refine zz_cons (k' := 90) rfl (zk_iconst X dX12_finish_89 (by decide) rfl) ?_
  refine zz_cons (k' := 91) rfl (zk_callv X (zz_Cv_of (List.forall_mem_cons.mpr ⟨⟨(RX_10, zzT10, 50), yX12_puts, cX12_puts, 8, (some .boolean), 1, 25, rfl, kv_X12_185_10.1, (mm_X12_puts Wd).1, by decide, by decide⟩, (fun _ h => absurd h List.not_mem_nil)⟩)) dX12_finish_90 rfl) ?_
  refine zz_cons (k' := 92) rfl (zz_Ok_none _ _) ?_
  refine zz_cons (k' := 93) rfl (zz_Ok_none _ _) ?_
  refine zz_cons (k' := 94) rfl (zk_if_ne X dX12_finish_93 (by decide) rfl) ?_
  refine zz_cons (k' := 95) rfl (zz_Ok_none _ _) ?_
  refine zz_cons (k' := 96) rfl (zz_Ok_none _ _) ?_
  refine zz_cons (k' := 97) rfl (zk_iconst X dX12_finish_96 (by decide) rfl) ?_
  refine zz_cons (k' := 98) rfl (zk_goto X dX12_finish_97 (by decide)) ?_
  refine zz_cons (k' := 99) rfl (zz_Ok_none _ _) ?_
  refine zz_cons (k' := 100) rfl (zz_Ok_none _ _) ?_
  refine zz_cons (k' := 101) rfl (zk_iconst X dX12_finish_100 (by decide) rfl) ?_
  refine zz_cons (k' := 102) rfl (zk_istore_n X dX12_finish_101 rfl (by decide) rfl) ?_
  refine zz_cons (k' := 103) rfl (zk_aload_n X dX12_finish_102 rfl rfl) ?_
  refine zz_cons (k' := 104) rfl (zk_iload_n X dX12_finish_103 rfl rfl) ?_
  refine zz_cons (k' := 105) rfl (zk_if_eq X dX12_finish_104 (by decide) rfl) ?_
  refine zz_cons (k' := 106) rfl (zz_Ok_none _ _) ?_
  refine zz_cons (k' := 107) rfl (zz_Ok_none _ _) ?_
  refine zz_cons (k' := 108) rfl (zk_iconst X dX12_finish_107 (by decide) rfl) ?_
  refine zz_cons (k' := 109) rfl (zk_goto X dX12_finish_108 (by decide)) ?_
  refine zz_cons (k' := 110) rfl (zz_Ok_none _ _) ?_
  refine zz_cons (k' := 111) rfl (zz_Ok_none _ _) ?_
  refine zz_cons (k' := 112) rfl (zk_iconst X dX12_finish_111 (by decide) rfl) ?_
  refine zz_cons (k' := 113) rfl (zk_callv X (zz_Cv_of (List.forall_mem_cons.mpr ⟨⟨(RX_10, zzT10, 50), yX12_goes, cX12_goes, 2, (some .boolean), 0, 0, rfl, kv_X12_374_10.1, (mm_X12_goes Wd).1, by decide, by decide⟩, (fun _ h => absurd h List.not_mem_nil)⟩)) dX12_finish_112 rfl) ?_
  refine zz_cons (k' := 114) rfl (zz_Ok_none _ _) ?_
  refine zz_cons (k' := 115) rfl (zz_Ok_none _ _) ?_
  refine zz_cons (k' := 116) rfl (zk_if_eq X dX12_finish_115 (by decide) rfl) ?_
  refine zz_cons (k' := 117) rfl (zz_Ok_none _ _) ?_
  refine zz_cons (k' := 118) rfl (zz_Ok_none _ _) ?_
  refine zz_cons (k' := 119) rfl (zk_aload_n X dX12_finish_118 rfl rfl) ?_
  refine zz_cons (k' := 120) rfl (zk_getf X ff_X12_35 dX12_finish_119 rfl) ?_
  refine zz_cons (k' := 121) rfl (zz_Ok_none _ _) ?_
  refine zz_cons (k' := 122) rfl (zz_Ok_none _ _) ?_
  refine zz_cons (k' := 123) rfl (zk_iload_n X dX12_finish_122 rfl rfl) ?_
  refine zz_cons (k' := 124) rfl (zk_iald X (zzWR_st Wd) dX12_finish_123 rfl) ?_
  refine zz_cons (k' := 125) rfl (zk_goto X dX12_finish_124 (by decide)) ?_
  refine zz_cons (k' := 126) rfl (zz_Ok_none _ _) ?_
  refine zz_cons (k' := 127) rfl (zz_Ok_none _ _) ?_
  refine zz_cons (k' := 128) rfl (zk_iconst X dX12_finish_127 (by decide) rfl) ?_
  refine zz_cons (k' := 129) rfl (zk_iret X rfl dX12_finish_128) ?_
  exact trivial
noncomputable def tX12_rule : List zzOp := [
  zo_iload 1 1,
  zo_calls fX12_isKind 1 4,
  zo_none,
  zo_none,
  zo_if (fun x => decide (x = 0)) 47 7,
  zo_none,
  zo_none,
  zo_aload 0 8,
  zo_iload 1 9,
  zo_iload 2 10,
  zo_callv zzSR (zz_cl [(10, fX12_hasField)]) 2 13,
  zo_none,
  zo_none,
  zo_if (fun x => decide (x = 0)) 47 16,
  zo_none,
  zo_none,
  zo_iload 3 17,
  zo_iload 4 19,
  zo_none,
  zo_icmp (fun x y => decide (y < x)) 47 22,
  zo_none,
  zo_none,
  zo_aload 0 23,
  zo_iload 1 24,
  zo_iload 5 26,
  zo_none,
  zo_callv zzSR (zz_cl [(10, fX12_hasField)]) 2 29,
  zo_none,
  zo_none,
  zo_if (fun x => decide (x = 0)) 47 32,
  zo_none,
  zo_none,
  zo_aload 0 33,
  zo_iload 5 35,
  zo_none,
  zo_iload 6 37,
  zo_none,
  zo_callv zzSR (zz_cl [(10, fX12_isValue)]) 2 40,
  zo_none,
  zo_none,
  zo_if (fun x => decide (x = 0)) 47 43,
  zo_none,
  zo_none,
  zo_pushI 1 44,
  zo_goto 48,
  zo_none,
  zo_none,
  zo_pushI 0 48,
  zo_istore 7 50,
  zo_none,
  zo_aload 0 51,
  zo_iload 7 53,
  zo_none,
  zo_if (fun x => decide (¬ x = 0)) 60 56,
  zo_none,
  zo_none,
  zo_pushI 1 57,
  zo_goto 74,
  zo_none,
  zo_none,
  zo_aload 0 61,
  zo_getf zzSR (zz_kf [10] 19) 64,
  zo_none,
  zo_none,
  zo_pushI 8 66,
  zo_none,
  zo_icmp (fun x y => decide (¬ x = y)) 73 69,
  zo_none,
  zo_none,
  zo_pushI 2 70,
  zo_goto 74,
  zo_none,
  zo_none,
  zo_pushI 0 74,
  zo_callv zzSR (zz_cl [(10, fX12_goes)]) 1 77,
  zo_none,
  zo_none,
  zo_if (fun x => decide (¬ x = 0)) 82 80,
  zo_none,
  zo_none,
  zo_pushI 0 81,
  zo_iret false,
  zo_aload 0 83,
  zo_getf zzSR (zz_kf [10] 20) 86,
  zo_none,
  zo_none,
  zo_aload 0 87,
  zo_getf zzSR (zz_kf [10] 19) 90,
  zo_none,
  zo_none,
  zo_iload 1 91,
  zo_iast zzSR 92,
  zo_aload 0 93,
  zo_getf zzSR (zz_kf [10] 21) 96,
  zo_none,
  zo_none,
  zo_aload 0 97,
  zo_getf zzSR (zz_kf [10] 19) 100,
  zo_none,
  zo_none,
  zo_iload 2 101,
  zo_iast zzSR 102,
  zo_aload 0 103,
  zo_getf zzSR (zz_kf [10] 22) 106,
  zo_none,
  zo_none,
  zo_aload 0 107,
  zo_getf zzSR (zz_kf [10] 19) 110,
  zo_none,
  zo_none,
  zo_iload 3 111,
  zo_iast zzSR 112,
  zo_aload 0 113,
  zo_getf zzSR (zz_kf [10] 23) 116,
  zo_none,
  zo_none,
  zo_aload 0 117,
  zo_getf zzSR (zz_kf [10] 19) 120,
  zo_none,
  zo_none,
  zo_iload 4 122,
  zo_none,
  zo_iast zzSR 123,
  zo_aload 0 124,
  zo_getf zzSR (zz_kf [10] 24) 127,
  zo_none,
  zo_none,
  zo_aload 0 128,
  zo_getf zzSR (zz_kf [10] 19) 131,
  zo_none,
  zo_none,
  zo_iload 5 133,
  zo_none,
  zo_iast zzSR 134,
  zo_aload 0 135,
  zo_getf zzSR (zz_kf [10] 25) 138,
  zo_none,
  zo_none,
  zo_aload 0 139,
  zo_getf zzSR (zz_kf [10] 19) 142,
  zo_none,
  zo_none,
  zo_iload 6 144,
  zo_none,
  zo_iast zzSR 145,
  zo_aload 0 146,
  zo_dup 147,
  zo_getf zzSR (zz_kf [10] 19) 150,
  zo_none,
  zo_none,
  zo_pushI 1 151,
  zo_ii (fun x y => x + y) 152,
  zo_putf zzSR (zz_kf [10] 19) false 155,
  zo_none,
  zo_none,
  zo_aload 0 156,
  zo_getf zzSR (zz_kf [10] 19) 159,
  zo_none,
  zo_none,
  zo_iret false]
set_option maxRecDepth 100000 in
theorem tl_X12_rule : ∀ pc, zz_Tl (tX12_rule.getD pc zo_none) := by
  refine zz_Tl_mem ?_
  unfold tX12_rule
  refine List.forall_mem_cons.mpr ⟨(zo_iload_tl _ _), ?_⟩
  refine List.forall_mem_cons.mpr ⟨(zo_calls_tl _ _ _), ?_⟩
  refine List.forall_mem_cons.mpr ⟨zo_none_tl, ?_⟩
  refine List.forall_mem_cons.mpr ⟨zo_none_tl, ?_⟩
  refine List.forall_mem_cons.mpr ⟨(zo_if_tl _ _ _), ?_⟩
  refine List.forall_mem_cons.mpr ⟨zo_none_tl, ?_⟩
  refine List.forall_mem_cons.mpr ⟨zo_none_tl, ?_⟩
  refine List.forall_mem_cons.mpr ⟨(zo_aload_tl _ _), ?_⟩
  refine List.forall_mem_cons.mpr ⟨(zo_iload_tl _ _), ?_⟩
  refine List.forall_mem_cons.mpr ⟨(zo_iload_tl _ _), ?_⟩
  refine List.forall_mem_cons.mpr ⟨(zo_callv_tl _ _ _ _), ?_⟩
  refine List.forall_mem_cons.mpr ⟨zo_none_tl, ?_⟩
  refine List.forall_mem_cons.mpr ⟨zo_none_tl, ?_⟩
  refine List.forall_mem_cons.mpr ⟨(zo_if_tl _ _ _), ?_⟩
  refine List.forall_mem_cons.mpr ⟨zo_none_tl, ?_⟩
  refine List.forall_mem_cons.mpr ⟨zo_none_tl, ?_⟩
  refine List.forall_mem_cons.mpr ⟨(zo_iload_tl _ _), ?_⟩
  refine List.forall_mem_cons.mpr ⟨(zo_iload_tl _ _), ?_⟩
  refine List.forall_mem_cons.mpr ⟨zo_none_tl, ?_⟩
  refine List.forall_mem_cons.mpr ⟨(zo_icmp_tl _ _ _), ?_⟩
  refine List.forall_mem_cons.mpr ⟨zo_none_tl, ?_⟩
  refine List.forall_mem_cons.mpr ⟨zo_none_tl, ?_⟩
  refine List.forall_mem_cons.mpr ⟨(zo_aload_tl _ _), ?_⟩
  refine List.forall_mem_cons.mpr ⟨(zo_iload_tl _ _), ?_⟩
  refine List.forall_mem_cons.mpr ⟨(zo_iload_tl _ _), ?_⟩
  refine List.forall_mem_cons.mpr ⟨zo_none_tl, ?_⟩
  refine List.forall_mem_cons.mpr ⟨(zo_callv_tl _ _ _ _), ?_⟩
  refine List.forall_mem_cons.mpr ⟨zo_none_tl, ?_⟩
  refine List.forall_mem_cons.mpr ⟨zo_none_tl, ?_⟩
  refine List.forall_mem_cons.mpr ⟨(zo_if_tl _ _ _), ?_⟩
  refine List.forall_mem_cons.mpr ⟨zo_none_tl, ?_⟩
  refine List.forall_mem_cons.mpr ⟨zo_none_tl, ?_⟩
  refine List.forall_mem_cons.mpr ⟨(zo_aload_tl _ _), ?_⟩
  refine List.forall_mem_cons.mpr ⟨(zo_iload_tl _ _), ?_⟩
  refine List.forall_mem_cons.mpr ⟨zo_none_tl, ?_⟩
  refine List.forall_mem_cons.mpr ⟨(zo_iload_tl _ _), ?_⟩
  refine List.forall_mem_cons.mpr ⟨zo_none_tl, ?_⟩
  refine List.forall_mem_cons.mpr ⟨(zo_callv_tl _ _ _ _), ?_⟩
  refine List.forall_mem_cons.mpr ⟨zo_none_tl, ?_⟩
  refine List.forall_mem_cons.mpr ⟨zo_none_tl, ?_⟩
  refine List.forall_mem_cons.mpr ⟨(zo_if_tl _ _ _), ?_⟩
  refine List.forall_mem_cons.mpr ⟨zo_none_tl, ?_⟩
  refine List.forall_mem_cons.mpr ⟨zo_none_tl, ?_⟩
  refine List.forall_mem_cons.mpr ⟨(zo_pushI_tl _ _), ?_⟩
  refine List.forall_mem_cons.mpr ⟨(zo_goto_tl _), ?_⟩
  refine List.forall_mem_cons.mpr ⟨zo_none_tl, ?_⟩
  refine List.forall_mem_cons.mpr ⟨zo_none_tl, ?_⟩
  refine List.forall_mem_cons.mpr ⟨(zo_pushI_tl _ _), ?_⟩
  refine List.forall_mem_cons.mpr ⟨(zo_istore_tl _ _), ?_⟩
  refine List.forall_mem_cons.mpr ⟨zo_none_tl, ?_⟩
  refine List.forall_mem_cons.mpr ⟨(zo_aload_tl _ _), ?_⟩
  refine List.forall_mem_cons.mpr ⟨(zo_iload_tl _ _), ?_⟩
  refine List.forall_mem_cons.mpr ⟨zo_none_tl, ?_⟩
  refine List.forall_mem_cons.mpr ⟨(zo_if_tl _ _ _), ?_⟩
  refine List.forall_mem_cons.mpr ⟨zo_none_tl, ?_⟩
  refine List.forall_mem_cons.mpr ⟨zo_none_tl, ?_⟩
  refine List.forall_mem_cons.mpr ⟨(zo_pushI_tl _ _), ?_⟩
  refine List.forall_mem_cons.mpr ⟨(zo_goto_tl _), ?_⟩
  refine List.forall_mem_cons.mpr ⟨zo_none_tl, ?_⟩
  refine List.forall_mem_cons.mpr ⟨zo_none_tl, ?_⟩
  refine List.forall_mem_cons.mpr ⟨(zo_aload_tl _ _), ?_⟩
  refine List.forall_mem_cons.mpr ⟨(zo_getf_tl _ _ _), ?_⟩
  refine List.forall_mem_cons.mpr ⟨zo_none_tl, ?_⟩
  refine List.forall_mem_cons.mpr ⟨zo_none_tl, ?_⟩
  refine List.forall_mem_cons.mpr ⟨(zo_pushI_tl _ _), ?_⟩
  refine List.forall_mem_cons.mpr ⟨zo_none_tl, ?_⟩
  refine List.forall_mem_cons.mpr ⟨(zo_icmp_tl _ _ _), ?_⟩
  refine List.forall_mem_cons.mpr ⟨zo_none_tl, ?_⟩
  refine List.forall_mem_cons.mpr ⟨zo_none_tl, ?_⟩
  refine List.forall_mem_cons.mpr ⟨(zo_pushI_tl _ _), ?_⟩
  refine List.forall_mem_cons.mpr ⟨(zo_goto_tl _), ?_⟩
  refine List.forall_mem_cons.mpr ⟨zo_none_tl, ?_⟩
  refine List.forall_mem_cons.mpr ⟨zo_none_tl, ?_⟩
  refine List.forall_mem_cons.mpr ⟨(zo_pushI_tl _ _), ?_⟩
  refine List.forall_mem_cons.mpr ⟨(zo_callv_tl _ _ _ _), ?_⟩
  refine List.forall_mem_cons.mpr ⟨zo_none_tl, ?_⟩
  refine List.forall_mem_cons.mpr ⟨zo_none_tl, ?_⟩
  refine List.forall_mem_cons.mpr ⟨(zo_if_tl _ _ _), ?_⟩
  refine List.forall_mem_cons.mpr ⟨zo_none_tl, ?_⟩
  refine List.forall_mem_cons.mpr ⟨zo_none_tl, ?_⟩
  refine List.forall_mem_cons.mpr ⟨(zo_pushI_tl _ _), ?_⟩
  refine List.forall_mem_cons.mpr ⟨(zo_iret_tl _), ?_⟩
  refine List.forall_mem_cons.mpr ⟨(zo_aload_tl _ _), ?_⟩
  refine List.forall_mem_cons.mpr ⟨(zo_getf_tl _ _ _), ?_⟩
  refine List.forall_mem_cons.mpr ⟨zo_none_tl, ?_⟩
  refine List.forall_mem_cons.mpr ⟨zo_none_tl, ?_⟩
  refine List.forall_mem_cons.mpr ⟨(zo_aload_tl _ _), ?_⟩
  refine List.forall_mem_cons.mpr ⟨(zo_getf_tl _ _ _), ?_⟩
  refine List.forall_mem_cons.mpr ⟨zo_none_tl, ?_⟩
  refine List.forall_mem_cons.mpr ⟨zo_none_tl, ?_⟩
  refine List.forall_mem_cons.mpr ⟨(zo_iload_tl _ _), ?_⟩
  refine List.forall_mem_cons.mpr ⟨(zo_iast_tl _ _), ?_⟩
  refine List.forall_mem_cons.mpr ⟨(zo_aload_tl _ _), ?_⟩
  refine List.forall_mem_cons.mpr ⟨(zo_getf_tl _ _ _), ?_⟩
  refine List.forall_mem_cons.mpr ⟨zo_none_tl, ?_⟩
  refine List.forall_mem_cons.mpr ⟨zo_none_tl, ?_⟩
  refine List.forall_mem_cons.mpr ⟨(zo_aload_tl _ _), ?_⟩
  refine List.forall_mem_cons.mpr ⟨(zo_getf_tl _ _ _), ?_⟩
  refine List.forall_mem_cons.mpr ⟨zo_none_tl, ?_⟩
  refine List.forall_mem_cons.mpr ⟨zo_none_tl, ?_⟩
  refine List.forall_mem_cons.mpr ⟨(zo_iload_tl _ _), ?_⟩
  refine List.forall_mem_cons.mpr ⟨(zo_iast_tl _ _), ?_⟩
  refine List.forall_mem_cons.mpr ⟨(zo_aload_tl _ _), ?_⟩
  refine List.forall_mem_cons.mpr ⟨(zo_getf_tl _ _ _), ?_⟩
  refine List.forall_mem_cons.mpr ⟨zo_none_tl, ?_⟩
  refine List.forall_mem_cons.mpr ⟨zo_none_tl, ?_⟩
  refine List.forall_mem_cons.mpr ⟨(zo_aload_tl _ _), ?_⟩
  refine List.forall_mem_cons.mpr ⟨(zo_getf_tl _ _ _), ?_⟩
  refine List.forall_mem_cons.mpr ⟨zo_none_tl, ?_⟩
  refine List.forall_mem_cons.mpr ⟨zo_none_tl, ?_⟩
  refine List.forall_mem_cons.mpr ⟨(zo_iload_tl _ _), ?_⟩
  refine List.forall_mem_cons.mpr ⟨(zo_iast_tl _ _), ?_⟩
  refine List.forall_mem_cons.mpr ⟨(zo_aload_tl _ _), ?_⟩
  refine List.forall_mem_cons.mpr ⟨(zo_getf_tl _ _ _), ?_⟩
  refine List.forall_mem_cons.mpr ⟨zo_none_tl, ?_⟩
  refine List.forall_mem_cons.mpr ⟨zo_none_tl, ?_⟩
  refine List.forall_mem_cons.mpr ⟨(zo_aload_tl _ _), ?_⟩
  refine List.forall_mem_cons.mpr ⟨(zo_getf_tl _ _ _), ?_⟩
  refine List.forall_mem_cons.mpr ⟨zo_none_tl, ?_⟩
  refine List.forall_mem_cons.mpr ⟨zo_none_tl, ?_⟩
  refine List.forall_mem_cons.mpr ⟨(zo_iload_tl _ _), ?_⟩
  refine List.forall_mem_cons.mpr ⟨zo_none_tl, ?_⟩
  refine List.forall_mem_cons.mpr ⟨(zo_iast_tl _ _), ?_⟩
  refine List.forall_mem_cons.mpr ⟨(zo_aload_tl _ _), ?_⟩
  refine List.forall_mem_cons.mpr ⟨(zo_getf_tl _ _ _), ?_⟩
  refine List.forall_mem_cons.mpr ⟨zo_none_tl, ?_⟩
  refine List.forall_mem_cons.mpr ⟨zo_none_tl, ?_⟩
  refine List.forall_mem_cons.mpr ⟨(zo_aload_tl _ _), ?_⟩
  refine List.forall_mem_cons.mpr ⟨(zo_getf_tl _ _ _), ?_⟩
  refine List.forall_mem_cons.mpr ⟨zo_none_tl, ?_⟩
  refine List.forall_mem_cons.mpr ⟨zo_none_tl, ?_⟩
  refine List.forall_mem_cons.mpr ⟨(zo_iload_tl _ _), ?_⟩
  refine List.forall_mem_cons.mpr ⟨zo_none_tl, ?_⟩
  refine List.forall_mem_cons.mpr ⟨(zo_iast_tl _ _), ?_⟩
  refine List.forall_mem_cons.mpr ⟨(zo_aload_tl _ _), ?_⟩
  refine List.forall_mem_cons.mpr ⟨(zo_getf_tl _ _ _), ?_⟩
  refine List.forall_mem_cons.mpr ⟨zo_none_tl, ?_⟩
  refine List.forall_mem_cons.mpr ⟨zo_none_tl, ?_⟩
  refine List.forall_mem_cons.mpr ⟨(zo_aload_tl _ _), ?_⟩
  refine List.forall_mem_cons.mpr ⟨(zo_getf_tl _ _ _), ?_⟩
  refine List.forall_mem_cons.mpr ⟨zo_none_tl, ?_⟩
  refine List.forall_mem_cons.mpr ⟨zo_none_tl, ?_⟩
  refine List.forall_mem_cons.mpr ⟨(zo_iload_tl _ _), ?_⟩
  refine List.forall_mem_cons.mpr ⟨zo_none_tl, ?_⟩
  refine List.forall_mem_cons.mpr ⟨(zo_iast_tl _ _), ?_⟩
  refine List.forall_mem_cons.mpr ⟨(zo_aload_tl _ _), ?_⟩
  refine List.forall_mem_cons.mpr ⟨(zo_dup_tl _), ?_⟩
  refine List.forall_mem_cons.mpr ⟨(zo_getf_tl _ _ _), ?_⟩
  refine List.forall_mem_cons.mpr ⟨zo_none_tl, ?_⟩
  refine List.forall_mem_cons.mpr ⟨zo_none_tl, ?_⟩
  refine List.forall_mem_cons.mpr ⟨(zo_pushI_tl _ _), ?_⟩
  refine List.forall_mem_cons.mpr ⟨(zo_ii_tl _ _), ?_⟩
  refine List.forall_mem_cons.mpr ⟨(zo_putf_tl _ _ _ _), ?_⟩
  refine List.forall_mem_cons.mpr ⟨zo_none_tl, ?_⟩
  refine List.forall_mem_cons.mpr ⟨zo_none_tl, ?_⟩
  refine List.forall_mem_cons.mpr ⟨(zo_aload_tl _ _), ?_⟩
  refine List.forall_mem_cons.mpr ⟨(zo_getf_tl _ _ _), ?_⟩
  refine List.forall_mem_cons.mpr ⟨zo_none_tl, ?_⟩
  refine List.forall_mem_cons.mpr ⟨zo_none_tl, ?_⟩
  refine List.forall_mem_cons.mpr ⟨(zo_iret_tl _), ?_⟩
  exact fun _ h => absurd h List.not_mem_nil
noncomputable def fX12_rule : zzFn := zz_fn tX12_rule 8
set_option maxRecDepth 100000 in
set_option maxHeartbeats 4000000 in
theorem mm_X12_rule {l : Launch} {D : va_G} {cA : Nat → ClassId} {ad : Nat → Nat} {Ex : (Nat → Prop) → State → Heap → Prop} (Wd : zzWR l D cA ad Ex) : zz_Cn l D zzCl cA ad zzSR Ex yX12_rule cX12_rule 8 (some .int) 2 44 fX12_rule ∧ zz_Cx l D zzCl cA ad zzSR Ex yX12_rule cX12_rule 8 (some .int) 2 44 fX12_rule := by
  refine zz_meth (plainFor_of_name (by decide)) Wd.1 Wd.2.1 Wd.2.2 (fun p e R s m args below meth c rr X => ?_)
  unfold tX12_rule
  refine zz_cons (k' := 1) rfl (zk_iload_n X dX12_rule_0 rfl rfl) ?_
  refine zz_cons (k' := 2) rfl (zk_calls X ks_X12_371 (mm_X12_isKind Wd).1 (by decide) dX12_rule_1 rfl) ?_
  refine zz_cons (k' := 3) rfl (zz_Ok_none _ _) ?_
  refine zz_cons (k' := 4) rfl (zz_Ok_none _ _) ?_
  refine zz_cons (k' := 5) rfl (zk_if_eq X dX12_rule_4 (by decide) rfl) ?_
  refine zz_cons (k' := 6) rfl (zz_Ok_none _ _) ?_
  refine zz_cons (k' := 7) rfl (zz_Ok_none _ _) ?_
  refine zz_cons (k' := 8) rfl (zk_aload_n X dX12_rule_7 rfl rfl) ?_
  refine zz_cons (k' := 9) rfl (zk_iload_n X dX12_rule_8 rfl rfl) ?_
  refine zz_cons (k' := 10) rfl (zk_iload_n X dX12_rule_9 rfl rfl) ?_
  refine zz_cons (k' := 11) rfl (zk_callv X (zz_Cv_of (List.forall_mem_cons.mpr ⟨⟨(RX_10, zzT10, 50), yX12_hasField, cX12_hasField, 3, (some .boolean), 1, 22, rfl, kv_X12_380_10.1, (mm_X12_hasField Wd).1, by decide, by decide⟩, (fun _ h => absurd h List.not_mem_nil)⟩)) dX12_rule_10 rfl) ?_
  refine zz_cons (k' := 12) rfl (zz_Ok_none _ _) ?_
  refine zz_cons (k' := 13) rfl (zz_Ok_none _ _) ?_
  refine zz_cons (k' := 14) rfl (zk_if_eq X dX12_rule_13 (by decide) rfl) ?_
  refine zz_cons (k' := 15) rfl (zz_Ok_none _ _) ?_
  refine zz_cons (k' := 16) rfl (zz_Ok_none _ _) ?_
  refine zz_cons (k' := 17) rfl (zk_iload_n X dX12_rule_16 rfl rfl) ?_
  refine zz_cons (k' := 18) rfl (zk_iload X dX12_rule_17 rfl) ?_
  refine zz_cons (k' := 19) rfl (zz_Ok_none _ _) ?_
  refine zz_cons (k' := 20) rfl (zk_icmp_gt X dX12_rule_19 (by decide) rfl) ?_
  refine zz_cons (k' := 21) rfl (zz_Ok_none _ _) ?_
  refine zz_cons (k' := 22) rfl (zz_Ok_none _ _) ?_
  refine zz_cons (k' := 23) rfl (zk_aload_n X dX12_rule_22 rfl rfl) ?_
  refine zz_cons (k' := 24) rfl (zk_iload_n X dX12_rule_23 rfl rfl) ?_
  refine zz_cons (k' := 25) rfl (zk_iload X dX12_rule_24 rfl) ?_
  refine zz_cons (k' := 26) rfl (zz_Ok_none _ _) ?_
  refine zz_cons (k' := 27) rfl (zk_callv X (zz_Cv_of (List.forall_mem_cons.mpr ⟨⟨(RX_10, zzT10, 50), yX12_hasField, cX12_hasField, 3, (some .boolean), 1, 22, rfl, kv_X12_380_10.1, (mm_X12_hasField Wd).1, by decide, by decide⟩, (fun _ h => absurd h List.not_mem_nil)⟩)) dX12_rule_26 rfl) ?_
  refine zz_cons (k' := 28) rfl (zz_Ok_none _ _) ?_
  refine zz_cons (k' := 29) rfl (zz_Ok_none _ _) ?_
  refine zz_cons (k' := 30) rfl (zk_if_eq X dX12_rule_29 (by decide) rfl) ?_
  refine zz_cons (k' := 31) rfl (zz_Ok_none _ _) ?_
  refine zz_cons (k' := 32) rfl (zz_Ok_none _ _) ?_
  refine zz_cons (k' := 33) rfl (zk_aload_n X dX12_rule_32 rfl rfl) ?_
  refine zz_cons (k' := 34) rfl (zk_iload X dX12_rule_33 rfl) ?_
  refine zz_cons (k' := 35) rfl (zz_Ok_none _ _) ?_
  refine zz_cons (k' := 36) rfl (zk_iload X dX12_rule_35 rfl) ?_
  refine zz_cons (k' := 37) rfl (zz_Ok_none _ _) ?_
  refine zz_cons (k' := 38) rfl (zk_callv X (zz_Cv_of (List.forall_mem_cons.mpr ⟨⟨(RX_10, zzT10, 50), yX12_isValue, cX12_isValue, 3, (some .boolean), 1, 22, rfl, kv_X12_383_10.1, (mm_X12_isValue Wd).1, by decide, by decide⟩, (fun _ h => absurd h List.not_mem_nil)⟩)) dX12_rule_37 rfl) ?_
  refine zz_cons (k' := 39) rfl (zz_Ok_none _ _) ?_
  refine zz_cons (k' := 40) rfl (zz_Ok_none _ _) ?_
  refine zz_cons (k' := 41) rfl (zk_if_eq X dX12_rule_40 (by decide) rfl) ?_
  refine zz_cons (k' := 42) rfl (zz_Ok_none _ _) ?_
  refine zz_cons (k' := 43) rfl (zz_Ok_none _ _) ?_
  refine zz_cons (k' := 44) rfl (zk_iconst X dX12_rule_43 (by decide) rfl) ?_
  refine zz_cons (k' := 45) rfl (zk_goto X dX12_rule_44 (by decide)) ?_
  refine zz_cons (k' := 46) rfl (zz_Ok_none _ _) ?_
  refine zz_cons (k' := 47) rfl (zz_Ok_none _ _) ?_
  refine zz_cons (k' := 48) rfl (zk_iconst X dX12_rule_47 (by decide) rfl) ?_
  refine zz_cons (k' := 49) rfl (zk_istore X dX12_rule_48 (by decide) rfl) ?_
  refine zz_cons (k' := 50) rfl (zz_Ok_none _ _) ?_
  refine zz_cons (k' := 51) rfl (zk_aload_n X dX12_rule_50 rfl rfl) ?_
  refine zz_cons (k' := 52) rfl (zk_iload X dX12_rule_51 rfl) ?_
  refine zz_cons (k' := 53) rfl (zz_Ok_none _ _) ?_
  refine zz_cons (k' := 54) rfl (zk_if_ne X dX12_rule_53 (by decide) rfl) ?_
  refine zz_cons (k' := 55) rfl (zz_Ok_none _ _) ?_
  refine zz_cons (k' := 56) rfl (zz_Ok_none _ _) ?_
  refine zz_cons (k' := 57) rfl (zk_iconst X dX12_rule_56 (by decide) rfl) ?_
  refine zz_cons (k' := 58) rfl (zk_goto X dX12_rule_57 (by decide)) ?_
  refine zz_cons (k' := 59) rfl (zz_Ok_none _ _) ?_
  refine zz_cons (k' := 60) rfl (zz_Ok_none _ _) ?_
  refine zz_cons (k' := 61) rfl (zk_aload_n X dX12_rule_60 rfl rfl) ?_
  refine zz_cons (k' := 62) rfl (zk_getf X ff_X12_165 dX12_rule_61 rfl) ?_
  refine zz_cons (k' := 63) rfl (zz_Ok_none _ _) ?_
  refine zz_cons (k' := 64) rfl (zz_Ok_none _ _) ?_
  refine zz_cons (k' := 65) rfl (zk_bipush X dX12_rule_64 (by decide) rfl) ?_
  refine zz_cons (k' := 66) rfl (zz_Ok_none _ _) ?_
  refine zz_cons (k' := 67) rfl (zk_icmp_ne X dX12_rule_66 (by decide) rfl) ?_
  refine zz_cons (k' := 68) rfl (zz_Ok_none _ _) ?_
  refine zz_cons (k' := 69) rfl (zz_Ok_none _ _) ?_
  refine zz_cons (k' := 70) rfl (zk_iconst X dX12_rule_69 (by decide) rfl) ?_
  refine zz_cons (k' := 71) rfl (zk_goto X dX12_rule_70 (by decide)) ?_
  refine zz_cons (k' := 72) rfl (zz_Ok_none _ _) ?_
  refine zz_cons (k' := 73) rfl (zz_Ok_none _ _) ?_
  refine zz_cons (k' := 74) rfl (zk_iconst X dX12_rule_73 (by decide) rfl) ?_
  refine zz_cons (k' := 75) rfl (zk_callv X (zz_Cv_of (List.forall_mem_cons.mpr ⟨⟨(RX_10, zzT10, 50), yX12_goes, cX12_goes, 2, (some .boolean), 0, 0, rfl, kv_X12_374_10.1, (mm_X12_goes Wd).1, by decide, by decide⟩, (fun _ h => absurd h List.not_mem_nil)⟩)) dX12_rule_74 rfl) ?_
  refine zz_cons (k' := 76) rfl (zz_Ok_none _ _) ?_
  refine zz_cons (k' := 77) rfl (zz_Ok_none _ _) ?_
  refine zz_cons (k' := 78) rfl (zk_if_ne X dX12_rule_77 (by decide) rfl) ?_
  refine zz_cons (k' := 79) rfl (zz_Ok_none _ _) ?_
  refine zz_cons (k' := 80) rfl (zz_Ok_none _ _) ?_
  refine zz_cons (k' := 81) rfl (zk_iconst X dX12_rule_80 (by decide) rfl) ?_
  refine zz_cons (k' := 82) rfl (zk_iret X rfl dX12_rule_81) ?_
  refine zz_cons (k' := 83) rfl (zk_aload_n X dX12_rule_82 rfl rfl) ?_
  refine zz_cons (k' := 84) rfl (zk_getf X ff_X12_59 dX12_rule_83 rfl) ?_
  refine zz_cons (k' := 85) rfl (zz_Ok_none _ _) ?_
  refine zz_cons (k' := 86) rfl (zz_Ok_none _ _) ?_
  refine zz_cons (k' := 87) rfl (zk_aload_n X dX12_rule_86 rfl rfl) ?_
  refine zz_cons (k' := 88) rfl (zk_getf X ff_X12_165 dX12_rule_87 rfl) ?_
  refine zz_cons (k' := 89) rfl (zz_Ok_none _ _) ?_
  refine zz_cons (k' := 90) rfl (zz_Ok_none _ _) ?_
  refine zz_cons (k' := 91) rfl (zk_iload_n X dX12_rule_90 rfl rfl) ?_
  refine zz_cons (k' := 92) rfl (zk_iast X dX12_rule_91 rfl) ?_
  refine zz_cons (k' := 93) rfl (zk_aload_n X dX12_rule_92 rfl rfl) ?_
  refine zz_cons (k' := 94) rfl (zk_getf X ff_X12_62 dX12_rule_93 rfl) ?_
  refine zz_cons (k' := 95) rfl (zz_Ok_none _ _) ?_
  refine zz_cons (k' := 96) rfl (zz_Ok_none _ _) ?_
  refine zz_cons (k' := 97) rfl (zk_aload_n X dX12_rule_96 rfl rfl) ?_
  refine zz_cons (k' := 98) rfl (zk_getf X ff_X12_165 dX12_rule_97 rfl) ?_
  refine zz_cons (k' := 99) rfl (zz_Ok_none _ _) ?_
  refine zz_cons (k' := 100) rfl (zz_Ok_none _ _) ?_
  refine zz_cons (k' := 101) rfl (zk_iload_n X dX12_rule_100 rfl rfl) ?_
  refine zz_cons (k' := 102) rfl (zk_iast X dX12_rule_101 rfl) ?_
  refine zz_cons (k' := 103) rfl (zk_aload_n X dX12_rule_102 rfl rfl) ?_
  refine zz_cons (k' := 104) rfl (zk_getf X ff_X12_65 dX12_rule_103 rfl) ?_
  refine zz_cons (k' := 105) rfl (zz_Ok_none _ _) ?_
  refine zz_cons (k' := 106) rfl (zz_Ok_none _ _) ?_
  refine zz_cons (k' := 107) rfl (zk_aload_n X dX12_rule_106 rfl rfl) ?_
  refine zz_cons (k' := 108) rfl (zk_getf X ff_X12_165 dX12_rule_107 rfl) ?_
  refine zz_cons (k' := 109) rfl (zz_Ok_none _ _) ?_
  refine zz_cons (k' := 110) rfl (zz_Ok_none _ _) ?_
  refine zz_cons (k' := 111) rfl (zk_iload_n X dX12_rule_110 rfl rfl) ?_
  refine zz_cons (k' := 112) rfl (zk_iast X dX12_rule_111 rfl) ?_
  refine zz_cons (k' := 113) rfl (zk_aload_n X dX12_rule_112 rfl rfl) ?_
  refine zz_cons (k' := 114) rfl (zk_getf X ff_X12_68 dX12_rule_113 rfl) ?_
  refine zz_cons (k' := 115) rfl (zz_Ok_none _ _) ?_
  refine zz_cons (k' := 116) rfl (zz_Ok_none _ _) ?_
  refine zz_cons (k' := 117) rfl (zk_aload_n X dX12_rule_116 rfl rfl) ?_
  refine zz_cons (k' := 118) rfl (zk_getf X ff_X12_165 dX12_rule_117 rfl) ?_
  refine zz_cons (k' := 119) rfl (zz_Ok_none _ _) ?_
  refine zz_cons (k' := 120) rfl (zz_Ok_none _ _) ?_
  refine zz_cons (k' := 121) rfl (zk_iload X dX12_rule_120 rfl) ?_
  refine zz_cons (k' := 122) rfl (zz_Ok_none _ _) ?_
  refine zz_cons (k' := 123) rfl (zk_iast X dX12_rule_122 rfl) ?_
  refine zz_cons (k' := 124) rfl (zk_aload_n X dX12_rule_123 rfl rfl) ?_
  refine zz_cons (k' := 125) rfl (zk_getf X ff_X12_71 dX12_rule_124 rfl) ?_
  refine zz_cons (k' := 126) rfl (zz_Ok_none _ _) ?_
  refine zz_cons (k' := 127) rfl (zz_Ok_none _ _) ?_
  refine zz_cons (k' := 128) rfl (zk_aload_n X dX12_rule_127 rfl rfl) ?_
  refine zz_cons (k' := 129) rfl (zk_getf X ff_X12_165 dX12_rule_128 rfl) ?_
  refine zz_cons (k' := 130) rfl (zz_Ok_none _ _) ?_
  refine zz_cons (k' := 131) rfl (zz_Ok_none _ _) ?_
  refine zz_cons (k' := 132) rfl (zk_iload X dX12_rule_131 rfl) ?_
  refine zz_cons (k' := 133) rfl (zz_Ok_none _ _) ?_
  refine zz_cons (k' := 134) rfl (zk_iast X dX12_rule_133 rfl) ?_
  refine zz_cons (k' := 135) rfl (zk_aload_n X dX12_rule_134 rfl rfl) ?_
  refine zz_cons (k' := 136) rfl (zk_getf X ff_X12_74 dX12_rule_135 rfl) ?_
  refine zz_cons (k' := 137) rfl (zz_Ok_none _ _) ?_
  refine zz_cons (k' := 138) rfl (zz_Ok_none _ _) ?_
  refine zz_cons (k' := 139) rfl (zk_aload_n X dX12_rule_138 rfl rfl) ?_
  refine zz_cons (k' := 140) rfl (zk_getf X ff_X12_165 dX12_rule_139 rfl) ?_
  refine zz_cons (k' := 141) rfl (zz_Ok_none _ _) ?_
  refine zz_cons (k' := 142) rfl (zz_Ok_none _ _) ?_
  refine zz_cons (k' := 143) rfl (zk_iload X dX12_rule_142 rfl) ?_
  refine zz_cons (k' := 144) rfl (zz_Ok_none _ _) ?_
  refine zz_cons (k' := 145) rfl (zk_iast X dX12_rule_144 rfl) ?_
  refine zz_cons (k' := 146) rfl (zk_aload_n X dX12_rule_145 rfl rfl) ?_
  refine zz_cons (k' := 147) rfl (zk_dup X dX12_rule_146 rfl) ?_
  refine zz_cons (k' := 148) rfl (zk_getf X ff_X12_165 dX12_rule_147 rfl) ?_
  refine zz_cons (k' := 149) rfl (zz_Ok_none _ _) ?_
  refine zz_cons (k' := 150) rfl (zz_Ok_none _ _) ?_
  refine zz_cons (k' := 151) rfl (zk_iconst X dX12_rule_150 (by decide) rfl) ?_
  refine zz_cons (k' := 152) rfl (zk_iadd X dX12_rule_151 rfl) ?_
  refine zz_cons (k' := 153) rfl (zk_putf X ff_X12_165 fp_10_19 dX12_rule_152 rfl) ?_
  refine zz_cons (k' := 154) rfl (zz_Ok_none _ _) ?_
  refine zz_cons (k' := 155) rfl (zz_Ok_none _ _) ?_
  refine zz_cons (k' := 156) rfl (zk_aload_n X dX12_rule_155 rfl rfl) ?_
  refine zz_cons (k' := 157) rfl (zk_getf X ff_X12_165 dX12_rule_156 rfl) ?_
  refine zz_cons (k' := 158) rfl (zz_Ok_none _ _) ?_
  refine zz_cons (k' := 159) rfl (zz_Ok_none _ _) ?_
  refine zz_cons (k' := 160) rfl (zk_iret X rfl dX12_rule_159) ?_
  exact trivial
noncomputable def tX12_check : List zzOp := [
  zo_aload 0 1,
  zo_iload 1 2,
  zo_calls fX12_isKind 1 5,
  zo_none,
  zo_none,
  zo_if (fun x => decide (x = 0)) 17 8,
  zo_none,
  zo_none,
  zo_aload 0 9,
  zo_iload 1 10,
  zo_iload 2 11,
  zo_callv zzSR (zz_cl [(10, fX12_hasField)]) 2 14,
  zo_none,
  zo_none,
  zo_if (fun x => decide (¬ x = 0)) 21 17,
  zo_none,
  zo_none,
  zo_pushI 1 18,
  zo_goto 35,
  zo_none,
  zo_none,
  zo_aload 0 22,
  zo_getf zzSR (zz_kf [10] 26) 25,
  zo_none,
  zo_none,
  zo_pushI 8 27,
  zo_none,
  zo_icmp (fun x y => decide (¬ x = y)) 34 30,
  zo_none,
  zo_none,
  zo_pushI 2 31,
  zo_goto 35,
  zo_none,
  zo_none,
  zo_pushI 0 35,
  zo_callv zzSR (zz_cl [(10, fX12_goes)]) 1 38,
  zo_none,
  zo_none,
  zo_if (fun x => decide (¬ x = 0)) 43 41,
  zo_none,
  zo_none,
  zo_pushI 0 42,
  zo_iret false,
  zo_aload 0 44,
  zo_getf zzSR (zz_kf [10] 27) 47,
  zo_none,
  zo_none,
  zo_aload 0 48,
  zo_getf zzSR (zz_kf [10] 26) 51,
  zo_none,
  zo_none,
  zo_iload 1 52,
  zo_iast zzSR 53,
  zo_aload 0 54,
  zo_getf zzSR (zz_kf [10] 28) 57,
  zo_none,
  zo_none,
  zo_aload 0 58,
  zo_getf zzSR (zz_kf [10] 26) 61,
  zo_none,
  zo_none,
  zo_iload 2 62,
  zo_iast zzSR 63,
  zo_aload 0 64,
  zo_getf zzSR (zz_kf [10] 29) 67,
  zo_none,
  zo_none,
  zo_aload 0 68,
  zo_getf zzSR (zz_kf [10] 26) 71,
  zo_none,
  zo_none,
  zo_iload 3 72,
  zo_iast zzSR 73,
  zo_aload 0 74,
  zo_dup 75,
  zo_getf zzSR (zz_kf [10] 26) 78,
  zo_none,
  zo_none,
  zo_pushI 1 79,
  zo_ii (fun x y => x + y) 80,
  zo_putf zzSR (zz_kf [10] 26) false 83,
  zo_none,
  zo_none,
  zo_aload 0 84,
  zo_getf zzSR (zz_kf [10] 26) 87,
  zo_none,
  zo_none,
  zo_iret false]
set_option maxRecDepth 100000 in
theorem tl_X12_check : ∀ pc, zz_Tl (tX12_check.getD pc zo_none) := by
  refine zz_Tl_mem ?_
  unfold tX12_check
  refine List.forall_mem_cons.mpr ⟨(zo_aload_tl _ _), ?_⟩
  refine List.forall_mem_cons.mpr ⟨(zo_iload_tl _ _), ?_⟩
  refine List.forall_mem_cons.mpr ⟨(zo_calls_tl _ _ _), ?_⟩
  refine List.forall_mem_cons.mpr ⟨zo_none_tl, ?_⟩
  refine List.forall_mem_cons.mpr ⟨zo_none_tl, ?_⟩
  refine List.forall_mem_cons.mpr ⟨(zo_if_tl _ _ _), ?_⟩
  refine List.forall_mem_cons.mpr ⟨zo_none_tl, ?_⟩
  refine List.forall_mem_cons.mpr ⟨zo_none_tl, ?_⟩
  refine List.forall_mem_cons.mpr ⟨(zo_aload_tl _ _), ?_⟩
  refine List.forall_mem_cons.mpr ⟨(zo_iload_tl _ _), ?_⟩
  refine List.forall_mem_cons.mpr ⟨(zo_iload_tl _ _), ?_⟩
  refine List.forall_mem_cons.mpr ⟨(zo_callv_tl _ _ _ _), ?_⟩
  refine List.forall_mem_cons.mpr ⟨zo_none_tl, ?_⟩
  refine List.forall_mem_cons.mpr ⟨zo_none_tl, ?_⟩
  refine List.forall_mem_cons.mpr ⟨(zo_if_tl _ _ _), ?_⟩
  refine List.forall_mem_cons.mpr ⟨zo_none_tl, ?_⟩
  refine List.forall_mem_cons.mpr ⟨zo_none_tl, ?_⟩
  refine List.forall_mem_cons.mpr ⟨(zo_pushI_tl _ _), ?_⟩
  refine List.forall_mem_cons.mpr ⟨(zo_goto_tl _), ?_⟩
  refine List.forall_mem_cons.mpr ⟨zo_none_tl, ?_⟩
  refine List.forall_mem_cons.mpr ⟨zo_none_tl, ?_⟩
  refine List.forall_mem_cons.mpr ⟨(zo_aload_tl _ _), ?_⟩
  refine List.forall_mem_cons.mpr ⟨(zo_getf_tl _ _ _), ?_⟩
  refine List.forall_mem_cons.mpr ⟨zo_none_tl, ?_⟩
  refine List.forall_mem_cons.mpr ⟨zo_none_tl, ?_⟩
  refine List.forall_mem_cons.mpr ⟨(zo_pushI_tl _ _), ?_⟩
  refine List.forall_mem_cons.mpr ⟨zo_none_tl, ?_⟩
  refine List.forall_mem_cons.mpr ⟨(zo_icmp_tl _ _ _), ?_⟩
  refine List.forall_mem_cons.mpr ⟨zo_none_tl, ?_⟩
  refine List.forall_mem_cons.mpr ⟨zo_none_tl, ?_⟩
  refine List.forall_mem_cons.mpr ⟨(zo_pushI_tl _ _), ?_⟩
  refine List.forall_mem_cons.mpr ⟨(zo_goto_tl _), ?_⟩
  refine List.forall_mem_cons.mpr ⟨zo_none_tl, ?_⟩
  refine List.forall_mem_cons.mpr ⟨zo_none_tl, ?_⟩
  refine List.forall_mem_cons.mpr ⟨(zo_pushI_tl _ _), ?_⟩
  refine List.forall_mem_cons.mpr ⟨(zo_callv_tl _ _ _ _), ?_⟩
  refine List.forall_mem_cons.mpr ⟨zo_none_tl, ?_⟩
  refine List.forall_mem_cons.mpr ⟨zo_none_tl, ?_⟩
  refine List.forall_mem_cons.mpr ⟨(zo_if_tl _ _ _), ?_⟩
  refine List.forall_mem_cons.mpr ⟨zo_none_tl, ?_⟩
  refine List.forall_mem_cons.mpr ⟨zo_none_tl, ?_⟩
  refine List.forall_mem_cons.mpr ⟨(zo_pushI_tl _ _), ?_⟩
  refine List.forall_mem_cons.mpr ⟨(zo_iret_tl _), ?_⟩
  refine List.forall_mem_cons.mpr ⟨(zo_aload_tl _ _), ?_⟩
  refine List.forall_mem_cons.mpr ⟨(zo_getf_tl _ _ _), ?_⟩
  refine List.forall_mem_cons.mpr ⟨zo_none_tl, ?_⟩
  refine List.forall_mem_cons.mpr ⟨zo_none_tl, ?_⟩
  refine List.forall_mem_cons.mpr ⟨(zo_aload_tl _ _), ?_⟩
  refine List.forall_mem_cons.mpr ⟨(zo_getf_tl _ _ _), ?_⟩
  refine List.forall_mem_cons.mpr ⟨zo_none_tl, ?_⟩
  refine List.forall_mem_cons.mpr ⟨zo_none_tl, ?_⟩
  refine List.forall_mem_cons.mpr ⟨(zo_iload_tl _ _), ?_⟩
  refine List.forall_mem_cons.mpr ⟨(zo_iast_tl _ _), ?_⟩
  refine List.forall_mem_cons.mpr ⟨(zo_aload_tl _ _), ?_⟩
  refine List.forall_mem_cons.mpr ⟨(zo_getf_tl _ _ _), ?_⟩
  refine List.forall_mem_cons.mpr ⟨zo_none_tl, ?_⟩
  refine List.forall_mem_cons.mpr ⟨zo_none_tl, ?_⟩
  refine List.forall_mem_cons.mpr ⟨(zo_aload_tl _ _), ?_⟩
  refine List.forall_mem_cons.mpr ⟨(zo_getf_tl _ _ _), ?_⟩
  refine List.forall_mem_cons.mpr ⟨zo_none_tl, ?_⟩
  refine List.forall_mem_cons.mpr ⟨zo_none_tl, ?_⟩
  refine List.forall_mem_cons.mpr ⟨(zo_iload_tl _ _), ?_⟩
  refine List.forall_mem_cons.mpr ⟨(zo_iast_tl _ _), ?_⟩
  refine List.forall_mem_cons.mpr ⟨(zo_aload_tl _ _), ?_⟩
  refine List.forall_mem_cons.mpr ⟨(zo_getf_tl _ _ _), ?_⟩
  refine List.forall_mem_cons.mpr ⟨zo_none_tl, ?_⟩
  refine List.forall_mem_cons.mpr ⟨zo_none_tl, ?_⟩
  refine List.forall_mem_cons.mpr ⟨(zo_aload_tl _ _), ?_⟩
  refine List.forall_mem_cons.mpr ⟨(zo_getf_tl _ _ _), ?_⟩
  refine List.forall_mem_cons.mpr ⟨zo_none_tl, ?_⟩
  refine List.forall_mem_cons.mpr ⟨zo_none_tl, ?_⟩
  refine List.forall_mem_cons.mpr ⟨(zo_iload_tl _ _), ?_⟩
  refine List.forall_mem_cons.mpr ⟨(zo_iast_tl _ _), ?_⟩
  refine List.forall_mem_cons.mpr ⟨(zo_aload_tl _ _), ?_⟩
  refine List.forall_mem_cons.mpr ⟨(zo_dup_tl _), ?_⟩
  refine List.forall_mem_cons.mpr ⟨(zo_getf_tl _ _ _), ?_⟩
  refine List.forall_mem_cons.mpr ⟨zo_none_tl, ?_⟩
  refine List.forall_mem_cons.mpr ⟨zo_none_tl, ?_⟩
  refine List.forall_mem_cons.mpr ⟨(zo_pushI_tl _ _), ?_⟩
  refine List.forall_mem_cons.mpr ⟨(zo_ii_tl _ _), ?_⟩
  refine List.forall_mem_cons.mpr ⟨(zo_putf_tl _ _ _ _), ?_⟩
  refine List.forall_mem_cons.mpr ⟨zo_none_tl, ?_⟩
  refine List.forall_mem_cons.mpr ⟨zo_none_tl, ?_⟩
  refine List.forall_mem_cons.mpr ⟨(zo_aload_tl _ _), ?_⟩
  refine List.forall_mem_cons.mpr ⟨(zo_getf_tl _ _ _), ?_⟩
  refine List.forall_mem_cons.mpr ⟨zo_none_tl, ?_⟩
  refine List.forall_mem_cons.mpr ⟨zo_none_tl, ?_⟩
  refine List.forall_mem_cons.mpr ⟨(zo_iret_tl _), ?_⟩
  exact fun _ h => absurd h List.not_mem_nil
noncomputable def fX12_check : zzFn := zz_fn tX12_check 4
set_option maxRecDepth 100000 in
set_option maxHeartbeats 4000000 in
theorem mm_X12_check {l : Launch} {D : va_G} {cA : Nat → ClassId} {ad : Nat → Nat} {Ex : (Nat → Prop) → State → Heap → Prop} (Wd : zzWR l D cA ad Ex) : zz_Cn l D zzCl cA ad zzSR Ex yX12_check cX12_check 4 (some .int) 2 44 fX12_check ∧ zz_Cx l D zzCl cA ad zzSR Ex yX12_check cX12_check 4 (some .int) 2 44 fX12_check := by
  refine zz_meth (plainFor_of_name (by decide)) Wd.1 Wd.2.1 Wd.2.2 (fun p e R s m args below meth c rr X => ?_)
  unfold tX12_check
  refine zz_cons (k' := 1) rfl (zk_aload_n X dX12_check_0 rfl rfl) ?_
  refine zz_cons (k' := 2) rfl (zk_iload_n X dX12_check_1 rfl rfl) ?_
  refine zz_cons (k' := 3) rfl (zk_calls X ks_X12_371 (mm_X12_isKind Wd).1 (by decide) dX12_check_2 rfl) ?_
  refine zz_cons (k' := 4) rfl (zz_Ok_none _ _) ?_
  refine zz_cons (k' := 5) rfl (zz_Ok_none _ _) ?_
  refine zz_cons (k' := 6) rfl (zk_if_eq X dX12_check_5 (by decide) rfl) ?_
  refine zz_cons (k' := 7) rfl (zz_Ok_none _ _) ?_
  refine zz_cons (k' := 8) rfl (zz_Ok_none _ _) ?_
  refine zz_cons (k' := 9) rfl (zk_aload_n X dX12_check_8 rfl rfl) ?_
  refine zz_cons (k' := 10) rfl (zk_iload_n X dX12_check_9 rfl rfl) ?_
  refine zz_cons (k' := 11) rfl (zk_iload_n X dX12_check_10 rfl rfl) ?_
  refine zz_cons (k' := 12) rfl (zk_callv X (zz_Cv_of (List.forall_mem_cons.mpr ⟨⟨(RX_10, zzT10, 50), yX12_hasField, cX12_hasField, 3, (some .boolean), 1, 22, rfl, kv_X12_380_10.1, (mm_X12_hasField Wd).1, by decide, by decide⟩, (fun _ h => absurd h List.not_mem_nil)⟩)) dX12_check_11 rfl) ?_
  refine zz_cons (k' := 13) rfl (zz_Ok_none _ _) ?_
  refine zz_cons (k' := 14) rfl (zz_Ok_none _ _) ?_
  refine zz_cons (k' := 15) rfl (zk_if_ne X dX12_check_14 (by decide) rfl) ?_
  refine zz_cons (k' := 16) rfl (zz_Ok_none _ _) ?_
  refine zz_cons (k' := 17) rfl (zz_Ok_none _ _) ?_
  refine zz_cons (k' := 18) rfl (zk_iconst X dX12_check_17 (by decide) rfl) ?_
  refine zz_cons (k' := 19) rfl (zk_goto X dX12_check_18 (by decide)) ?_
  refine zz_cons (k' := 20) rfl (zz_Ok_none _ _) ?_
  refine zz_cons (k' := 21) rfl (zz_Ok_none _ _) ?_
  refine zz_cons (k' := 22) rfl (zk_aload_n X dX12_check_21 rfl rfl) ?_
  refine zz_cons (k' := 23) rfl (zk_getf X ff_X12_172 dX12_check_22 rfl) ?_
  refine zz_cons (k' := 24) rfl (zz_Ok_none _ _) ?_
  refine zz_cons (k' := 25) rfl (zz_Ok_none _ _) ?_
  refine zz_cons (k' := 26) rfl (zk_bipush X dX12_check_25 (by decide) rfl) ?_
  refine zz_cons (k' := 27) rfl (zz_Ok_none _ _) ?_
  refine zz_cons (k' := 28) rfl (zk_icmp_ne X dX12_check_27 (by decide) rfl) ?_
  refine zz_cons (k' := 29) rfl (zz_Ok_none _ _) ?_
  refine zz_cons (k' := 30) rfl (zz_Ok_none _ _) ?_
  refine zz_cons (k' := 31) rfl (zk_iconst X dX12_check_30 (by decide) rfl) ?_
  refine zz_cons (k' := 32) rfl (zk_goto X dX12_check_31 (by decide)) ?_
  refine zz_cons (k' := 33) rfl (zz_Ok_none _ _) ?_
  refine zz_cons (k' := 34) rfl (zz_Ok_none _ _) ?_
  refine zz_cons (k' := 35) rfl (zk_iconst X dX12_check_34 (by decide) rfl) ?_
  refine zz_cons (k' := 36) rfl (zk_callv X (zz_Cv_of (List.forall_mem_cons.mpr ⟨⟨(RX_10, zzT10, 50), yX12_goes, cX12_goes, 2, (some .boolean), 0, 0, rfl, kv_X12_374_10.1, (mm_X12_goes Wd).1, by decide, by decide⟩, (fun _ h => absurd h List.not_mem_nil)⟩)) dX12_check_35 rfl) ?_
  refine zz_cons (k' := 37) rfl (zz_Ok_none _ _) ?_
  refine zz_cons (k' := 38) rfl (zz_Ok_none _ _) ?_
  refine zz_cons (k' := 39) rfl (zk_if_ne X dX12_check_38 (by decide) rfl) ?_
  refine zz_cons (k' := 40) rfl (zz_Ok_none _ _) ?_
  refine zz_cons (k' := 41) rfl (zz_Ok_none _ _) ?_
  refine zz_cons (k' := 42) rfl (zk_iconst X dX12_check_41 (by decide) rfl) ?_
  refine zz_cons (k' := 43) rfl (zk_iret X rfl dX12_check_42) ?_
  refine zz_cons (k' := 44) rfl (zk_aload_n X dX12_check_43 rfl rfl) ?_
  refine zz_cons (k' := 45) rfl (zk_getf X ff_X12_77 dX12_check_44 rfl) ?_
  refine zz_cons (k' := 46) rfl (zz_Ok_none _ _) ?_
  refine zz_cons (k' := 47) rfl (zz_Ok_none _ _) ?_
  refine zz_cons (k' := 48) rfl (zk_aload_n X dX12_check_47 rfl rfl) ?_
  refine zz_cons (k' := 49) rfl (zk_getf X ff_X12_172 dX12_check_48 rfl) ?_
  refine zz_cons (k' := 50) rfl (zz_Ok_none _ _) ?_
  refine zz_cons (k' := 51) rfl (zz_Ok_none _ _) ?_
  refine zz_cons (k' := 52) rfl (zk_iload_n X dX12_check_51 rfl rfl) ?_
  refine zz_cons (k' := 53) rfl (zk_iast X dX12_check_52 rfl) ?_
  refine zz_cons (k' := 54) rfl (zk_aload_n X dX12_check_53 rfl rfl) ?_
  refine zz_cons (k' := 55) rfl (zk_getf X ff_X12_80 dX12_check_54 rfl) ?_
  refine zz_cons (k' := 56) rfl (zz_Ok_none _ _) ?_
  refine zz_cons (k' := 57) rfl (zz_Ok_none _ _) ?_
  refine zz_cons (k' := 58) rfl (zk_aload_n X dX12_check_57 rfl rfl) ?_
  refine zz_cons (k' := 59) rfl (zk_getf X ff_X12_172 dX12_check_58 rfl) ?_
  refine zz_cons (k' := 60) rfl (zz_Ok_none _ _) ?_
  refine zz_cons (k' := 61) rfl (zz_Ok_none _ _) ?_
  refine zz_cons (k' := 62) rfl (zk_iload_n X dX12_check_61 rfl rfl) ?_
  refine zz_cons (k' := 63) rfl (zk_iast X dX12_check_62 rfl) ?_
  refine zz_cons (k' := 64) rfl (zk_aload_n X dX12_check_63 rfl rfl) ?_
  refine zz_cons (k' := 65) rfl (zk_getf X ff_X12_83 dX12_check_64 rfl) ?_
  refine zz_cons (k' := 66) rfl (zz_Ok_none _ _) ?_
  refine zz_cons (k' := 67) rfl (zz_Ok_none _ _) ?_
  refine zz_cons (k' := 68) rfl (zk_aload_n X dX12_check_67 rfl rfl) ?_
  refine zz_cons (k' := 69) rfl (zk_getf X ff_X12_172 dX12_check_68 rfl) ?_
  refine zz_cons (k' := 70) rfl (zz_Ok_none _ _) ?_
  refine zz_cons (k' := 71) rfl (zz_Ok_none _ _) ?_
  refine zz_cons (k' := 72) rfl (zk_iload_n X dX12_check_71 rfl rfl) ?_
  refine zz_cons (k' := 73) rfl (zk_iast X dX12_check_72 rfl) ?_
  refine zz_cons (k' := 74) rfl (zk_aload_n X dX12_check_73 rfl rfl) ?_
  refine zz_cons (k' := 75) rfl (zk_dup X dX12_check_74 rfl) ?_
  refine zz_cons (k' := 76) rfl (zk_getf X ff_X12_172 dX12_check_75 rfl) ?_
  refine zz_cons (k' := 77) rfl (zz_Ok_none _ _) ?_
  refine zz_cons (k' := 78) rfl (zz_Ok_none _ _) ?_
  refine zz_cons (k' := 79) rfl (zk_iconst X dX12_check_78 (by decide) rfl) ?_
  refine zz_cons (k' := 80) rfl (zk_iadd X dX12_check_79 rfl) ?_
  refine zz_cons (k' := 81) rfl (zk_putf X ff_X12_172 fp_10_26 dX12_check_80 rfl) ?_
  refine zz_cons (k' := 82) rfl (zz_Ok_none _ _) ?_
  refine zz_cons (k' := 83) rfl (zz_Ok_none _ _) ?_
  refine zz_cons (k' := 84) rfl (zk_aload_n X dX12_check_83 rfl rfl) ?_
  refine zz_cons (k' := 85) rfl (zk_getf X ff_X12_172 dX12_check_84 rfl) ?_
  refine zz_cons (k' := 86) rfl (zz_Ok_none _ _) ?_
  refine zz_cons (k' := 87) rfl (zz_Ok_none _ _) ?_
  refine zz_cons (k' := 88) rfl (zk_iret X rfl dX12_check_87) ?_
  exact trivial
noncomputable def tX12_clear : List zzOp := [
  zo_aload 0 1,
  zo_pushI 0 2,
  zo_putf zzSR (zz_kf [10] 49) false 5,
  zo_none,
  zo_none,
  zo_aload 0 6,
  zo_getf zzSR (zz_kf [10] 19) 9,
  zo_none,
  zo_none,
  zo_aload 0 10,
  zo_getf zzSR (zz_kf [10] 26) 13,
  zo_none,
  zo_none,
  zo_ii (fun x y => x + y) 14,
  zo_istore 1 15,
  zo_aload 0 16,
  zo_pushI 0 17,
  zo_putf zzSR (zz_kf [10] 19) false 20,
  zo_none,
  zo_none,
  zo_aload 0 21,
  zo_pushI 0 22,
  zo_putf zzSR (zz_kf [10] 26) false 25,
  zo_none,
  zo_none,
  zo_iload 1 26,
  zo_iret false]
set_option maxRecDepth 100000 in
theorem tl_X12_clear : ∀ pc, zz_Tl (tX12_clear.getD pc zo_none) := by
  refine zz_Tl_mem ?_
  unfold tX12_clear
  refine List.forall_mem_cons.mpr ⟨(zo_aload_tl _ _), ?_⟩
  refine List.forall_mem_cons.mpr ⟨(zo_pushI_tl _ _), ?_⟩
  refine List.forall_mem_cons.mpr ⟨(zo_putf_tl _ _ _ _), ?_⟩
  refine List.forall_mem_cons.mpr ⟨zo_none_tl, ?_⟩
  refine List.forall_mem_cons.mpr ⟨zo_none_tl, ?_⟩
  refine List.forall_mem_cons.mpr ⟨(zo_aload_tl _ _), ?_⟩
  refine List.forall_mem_cons.mpr ⟨(zo_getf_tl _ _ _), ?_⟩
  refine List.forall_mem_cons.mpr ⟨zo_none_tl, ?_⟩
  refine List.forall_mem_cons.mpr ⟨zo_none_tl, ?_⟩
  refine List.forall_mem_cons.mpr ⟨(zo_aload_tl _ _), ?_⟩
  refine List.forall_mem_cons.mpr ⟨(zo_getf_tl _ _ _), ?_⟩
  refine List.forall_mem_cons.mpr ⟨zo_none_tl, ?_⟩
  refine List.forall_mem_cons.mpr ⟨zo_none_tl, ?_⟩
  refine List.forall_mem_cons.mpr ⟨(zo_ii_tl _ _), ?_⟩
  refine List.forall_mem_cons.mpr ⟨(zo_istore_tl _ _), ?_⟩
  refine List.forall_mem_cons.mpr ⟨(zo_aload_tl _ _), ?_⟩
  refine List.forall_mem_cons.mpr ⟨(zo_pushI_tl _ _), ?_⟩
  refine List.forall_mem_cons.mpr ⟨(zo_putf_tl _ _ _ _), ?_⟩
  refine List.forall_mem_cons.mpr ⟨zo_none_tl, ?_⟩
  refine List.forall_mem_cons.mpr ⟨zo_none_tl, ?_⟩
  refine List.forall_mem_cons.mpr ⟨(zo_aload_tl _ _), ?_⟩
  refine List.forall_mem_cons.mpr ⟨(zo_pushI_tl _ _), ?_⟩
  refine List.forall_mem_cons.mpr ⟨(zo_putf_tl _ _ _ _), ?_⟩
  refine List.forall_mem_cons.mpr ⟨zo_none_tl, ?_⟩
  refine List.forall_mem_cons.mpr ⟨zo_none_tl, ?_⟩
  refine List.forall_mem_cons.mpr ⟨(zo_iload_tl _ _), ?_⟩
  refine List.forall_mem_cons.mpr ⟨(zo_iret_tl _), ?_⟩
  exact fun _ h => absurd h List.not_mem_nil
noncomputable def fX12_clear : zzFn := zz_fn tX12_clear 2
set_option maxRecDepth 100000 in
set_option maxHeartbeats 4000000 in
theorem mm_X12_clear {l : Launch} {D : va_G} {cA : Nat → ClassId} {ad : Nat → Nat} {Ex : (Nat → Prop) → State → Heap → Prop} (Wd : zzWR l D cA ad Ex) : zz_Cn l D zzCl cA ad zzSR Ex yX12_clear cX12_clear 2 (some .int) 0 0 fX12_clear ∧ zz_Cx l D zzCl cA ad zzSR Ex yX12_clear cX12_clear 2 (some .int) 0 0 fX12_clear := by
  refine zz_meth (plainFor_of_name (by decide)) Wd.1 Wd.2.1 Wd.2.2 (fun p e R s m args below meth c rr X => ?_)
  unfold tX12_clear
  refine zz_cons (k' := 1) rfl (zk_aload_n X dX12_clear_0 rfl rfl) ?_
  refine zz_cons (k' := 2) rfl (zk_iconst X dX12_clear_1 (by decide) rfl) ?_
  refine zz_cons (k' := 3) rfl (zk_putf X ff_X12_134 fp_10_49 dX12_clear_2 rfl) ?_
  refine zz_cons (k' := 4) rfl (zz_Ok_none _ _) ?_
  refine zz_cons (k' := 5) rfl (zz_Ok_none _ _) ?_
  refine zz_cons (k' := 6) rfl (zk_aload_n X dX12_clear_5 rfl rfl) ?_
  refine zz_cons (k' := 7) rfl (zk_getf X ff_X12_165 dX12_clear_6 rfl) ?_
  refine zz_cons (k' := 8) rfl (zz_Ok_none _ _) ?_
  refine zz_cons (k' := 9) rfl (zz_Ok_none _ _) ?_
  refine zz_cons (k' := 10) rfl (zk_aload_n X dX12_clear_9 rfl rfl) ?_
  refine zz_cons (k' := 11) rfl (zk_getf X ff_X12_172 dX12_clear_10 rfl) ?_
  refine zz_cons (k' := 12) rfl (zz_Ok_none _ _) ?_
  refine zz_cons (k' := 13) rfl (zz_Ok_none _ _) ?_
  refine zz_cons (k' := 14) rfl (zk_iadd X dX12_clear_13 rfl) ?_
  refine zz_cons (k' := 15) rfl (zk_istore_n X dX12_clear_14 rfl (by decide) rfl) ?_
  refine zz_cons (k' := 16) rfl (zk_aload_n X dX12_clear_15 rfl rfl) ?_
  refine zz_cons (k' := 17) rfl (zk_iconst X dX12_clear_16 (by decide) rfl) ?_
  refine zz_cons (k' := 18) rfl (zk_putf X ff_X12_165 fp_10_19 dX12_clear_17 rfl) ?_
  refine zz_cons (k' := 19) rfl (zz_Ok_none _ _) ?_
  refine zz_cons (k' := 20) rfl (zz_Ok_none _ _) ?_
  refine zz_cons (k' := 21) rfl (zk_aload_n X dX12_clear_20 rfl rfl) ?_
  refine zz_cons (k' := 22) rfl (zk_iconst X dX12_clear_21 (by decide) rfl) ?_
  refine zz_cons (k' := 23) rfl (zk_putf X ff_X12_172 fp_10_26 dX12_clear_22 rfl) ?_
  refine zz_cons (k' := 24) rfl (zz_Ok_none _ _) ?_
  refine zz_cons (k' := 25) rfl (zz_Ok_none _ _) ?_
  refine zz_cons (k' := 26) rfl (zk_iload_n X dX12_clear_25 rfl rfl) ?_
  refine zz_cons (k' := 27) rfl (zk_iret X rfl dX12_clear_26) ?_
  exact trivial
noncomputable def tX12_quota : List zzOp := [
  zo_aload 0 1,
  zo_iload 1 2,
  zo_pushI 0 3,
  zo_pushI 60 5,
  zo_none,
  zo_calls fX12_isIn 3 8,
  zo_none,
  zo_none,
  zo_if (fun x => decide (x = 0)) 15 11,
  zo_none,
  zo_none,
  zo_pushI 0 12,
  zo_goto 16,
  zo_none,
  zo_none,
  zo_pushI 1 16,
  zo_callv zzSR (zz_cl [(10, fX12_goes)]) 1 19,
  zo_none,
  zo_none,
  zo_if (fun x => decide (¬ x = 0)) 24 22,
  zo_none,
  zo_none,
  zo_pushI 0 23,
  zo_iret false,
  zo_aload 0 25,
  zo_getf zzSR (zz_kf [10] 30) 28,
  zo_none,
  zo_none,
  zo_istore 2 29,
  zo_aload 0 30,
  zo_iload 1 31,
  zo_putf zzSR (zz_kf [10] 30) false 34,
  zo_none,
  zo_none,
  zo_iload 2 35,
  zo_iret false]
set_option maxRecDepth 100000 in
theorem tl_X12_quota : ∀ pc, zz_Tl (tX12_quota.getD pc zo_none) := by
  refine zz_Tl_mem ?_
  unfold tX12_quota
  refine List.forall_mem_cons.mpr ⟨(zo_aload_tl _ _), ?_⟩
  refine List.forall_mem_cons.mpr ⟨(zo_iload_tl _ _), ?_⟩
  refine List.forall_mem_cons.mpr ⟨(zo_pushI_tl _ _), ?_⟩
  refine List.forall_mem_cons.mpr ⟨(zo_pushI_tl _ _), ?_⟩
  refine List.forall_mem_cons.mpr ⟨zo_none_tl, ?_⟩
  refine List.forall_mem_cons.mpr ⟨(zo_calls_tl _ _ _), ?_⟩
  refine List.forall_mem_cons.mpr ⟨zo_none_tl, ?_⟩
  refine List.forall_mem_cons.mpr ⟨zo_none_tl, ?_⟩
  refine List.forall_mem_cons.mpr ⟨(zo_if_tl _ _ _), ?_⟩
  refine List.forall_mem_cons.mpr ⟨zo_none_tl, ?_⟩
  refine List.forall_mem_cons.mpr ⟨zo_none_tl, ?_⟩
  refine List.forall_mem_cons.mpr ⟨(zo_pushI_tl _ _), ?_⟩
  refine List.forall_mem_cons.mpr ⟨(zo_goto_tl _), ?_⟩
  refine List.forall_mem_cons.mpr ⟨zo_none_tl, ?_⟩
  refine List.forall_mem_cons.mpr ⟨zo_none_tl, ?_⟩
  refine List.forall_mem_cons.mpr ⟨(zo_pushI_tl _ _), ?_⟩
  refine List.forall_mem_cons.mpr ⟨(zo_callv_tl _ _ _ _), ?_⟩
  refine List.forall_mem_cons.mpr ⟨zo_none_tl, ?_⟩
  refine List.forall_mem_cons.mpr ⟨zo_none_tl, ?_⟩
  refine List.forall_mem_cons.mpr ⟨(zo_if_tl _ _ _), ?_⟩
  refine List.forall_mem_cons.mpr ⟨zo_none_tl, ?_⟩
  refine List.forall_mem_cons.mpr ⟨zo_none_tl, ?_⟩
  refine List.forall_mem_cons.mpr ⟨(zo_pushI_tl _ _), ?_⟩
  refine List.forall_mem_cons.mpr ⟨(zo_iret_tl _), ?_⟩
  refine List.forall_mem_cons.mpr ⟨(zo_aload_tl _ _), ?_⟩
  refine List.forall_mem_cons.mpr ⟨(zo_getf_tl _ _ _), ?_⟩
  refine List.forall_mem_cons.mpr ⟨zo_none_tl, ?_⟩
  refine List.forall_mem_cons.mpr ⟨zo_none_tl, ?_⟩
  refine List.forall_mem_cons.mpr ⟨(zo_istore_tl _ _), ?_⟩
  refine List.forall_mem_cons.mpr ⟨(zo_aload_tl _ _), ?_⟩
  refine List.forall_mem_cons.mpr ⟨(zo_iload_tl _ _), ?_⟩
  refine List.forall_mem_cons.mpr ⟨(zo_putf_tl _ _ _ _), ?_⟩
  refine List.forall_mem_cons.mpr ⟨zo_none_tl, ?_⟩
  refine List.forall_mem_cons.mpr ⟨zo_none_tl, ?_⟩
  refine List.forall_mem_cons.mpr ⟨(zo_iload_tl _ _), ?_⟩
  refine List.forall_mem_cons.mpr ⟨(zo_iret_tl _), ?_⟩
  exact fun _ h => absurd h List.not_mem_nil
noncomputable def fX12_quota : zzFn := zz_fn tX12_quota 3
set_option maxRecDepth 100000 in
set_option maxHeartbeats 4000000 in
theorem mm_X12_quota {l : Launch} {D : va_G} {cA : Nat → ClassId} {ad : Nat → Nat} {Ex : (Nat → Prop) → State → Heap → Prop} (Wd : zzWR l D cA ad Ex) : zz_Cn l D zzCl cA ad zzSR Ex yX12_quota cX12_quota 3 (some .int) 1 22 fX12_quota ∧ zz_Cx l D zzCl cA ad zzSR Ex yX12_quota cX12_quota 3 (some .int) 1 22 fX12_quota := by
  refine zz_meth (plainFor_of_name (by decide)) Wd.1 Wd.2.1 Wd.2.2 (fun p e R s m args below meth c rr X => ?_)
  unfold tX12_quota
  refine zz_cons (k' := 1) rfl (zk_aload_n X dX12_quota_0 rfl rfl) ?_
  refine zz_cons (k' := 2) rfl (zk_iload_n X dX12_quota_1 rfl rfl) ?_
  refine zz_cons (k' := 3) rfl (zk_iconst X dX12_quota_2 (by decide) rfl) ?_
  refine zz_cons (k' := 4) rfl (zk_bipush X dX12_quota_3 (by decide) rfl) ?_
  refine zz_cons (k' := 5) rfl (zz_Ok_none _ _) ?_
  refine zz_cons (k' := 6) rfl (zk_calls X ks_X12_140 (mm_X12_isIn Wd).1 (by decide) dX12_quota_5 rfl) ?_
  refine zz_cons (k' := 7) rfl (zz_Ok_none _ _) ?_
  refine zz_cons (k' := 8) rfl (zz_Ok_none _ _) ?_
  refine zz_cons (k' := 9) rfl (zk_if_eq X dX12_quota_8 (by decide) rfl) ?_
  refine zz_cons (k' := 10) rfl (zz_Ok_none _ _) ?_
  refine zz_cons (k' := 11) rfl (zz_Ok_none _ _) ?_
  refine zz_cons (k' := 12) rfl (zk_iconst X dX12_quota_11 (by decide) rfl) ?_
  refine zz_cons (k' := 13) rfl (zk_goto X dX12_quota_12 (by decide)) ?_
  refine zz_cons (k' := 14) rfl (zz_Ok_none _ _) ?_
  refine zz_cons (k' := 15) rfl (zz_Ok_none _ _) ?_
  refine zz_cons (k' := 16) rfl (zk_iconst X dX12_quota_15 (by decide) rfl) ?_
  refine zz_cons (k' := 17) rfl (zk_callv X (zz_Cv_of (List.forall_mem_cons.mpr ⟨⟨(RX_10, zzT10, 50), yX12_goes, cX12_goes, 2, (some .boolean), 0, 0, rfl, kv_X12_374_10.1, (mm_X12_goes Wd).1, by decide, by decide⟩, (fun _ h => absurd h List.not_mem_nil)⟩)) dX12_quota_16 rfl) ?_
  refine zz_cons (k' := 18) rfl (zz_Ok_none _ _) ?_
  refine zz_cons (k' := 19) rfl (zz_Ok_none _ _) ?_
  refine zz_cons (k' := 20) rfl (zk_if_ne X dX12_quota_19 (by decide) rfl) ?_
  refine zz_cons (k' := 21) rfl (zz_Ok_none _ _) ?_
  refine zz_cons (k' := 22) rfl (zz_Ok_none _ _) ?_
  refine zz_cons (k' := 23) rfl (zk_iconst X dX12_quota_22 (by decide) rfl) ?_
  refine zz_cons (k' := 24) rfl (zk_iret X rfl dX12_quota_23) ?_
  refine zz_cons (k' := 25) rfl (zk_aload_n X dX12_quota_24 rfl rfl) ?_
  refine zz_cons (k' := 26) rfl (zk_getf X ff_X12_86 dX12_quota_25 rfl) ?_
  refine zz_cons (k' := 27) rfl (zz_Ok_none _ _) ?_
  refine zz_cons (k' := 28) rfl (zz_Ok_none _ _) ?_
  refine zz_cons (k' := 29) rfl (zk_istore_n X dX12_quota_28 rfl (by decide) rfl) ?_
  refine zz_cons (k' := 30) rfl (zk_aload_n X dX12_quota_29 rfl rfl) ?_
  refine zz_cons (k' := 31) rfl (zk_iload_n X dX12_quota_30 rfl rfl) ?_
  refine zz_cons (k' := 32) rfl (zk_putf X ff_X12_86 fp_10_30 dX12_quota_31 rfl) ?_
  refine zz_cons (k' := 33) rfl (zz_Ok_none _ _) ?_
  refine zz_cons (k' := 34) rfl (zz_Ok_none _ _) ?_
  refine zz_cons (k' := 35) rfl (zk_iload_n X dX12_quota_34 rfl rfl) ?_
  refine zz_cons (k' := 36) rfl (zk_iret X rfl dX12_quota_35) ?_
  exact trivial
noncomputable def tX12_isController : List zzOp := [
  zo_iload 0 1,
  zo_pushI 0 2,
  zo_pushI 7 4,
  zo_none,
  zo_calls fX12_isIn 3 7,
  zo_none,
  zo_none,
  zo_iret true]
set_option maxRecDepth 100000 in
theorem tl_X12_isController : ∀ pc, zz_Tl (tX12_isController.getD pc zo_none) := by
  refine zz_Tl_mem ?_
  unfold tX12_isController
  refine List.forall_mem_cons.mpr ⟨(zo_iload_tl _ _), ?_⟩
  refine List.forall_mem_cons.mpr ⟨(zo_pushI_tl _ _), ?_⟩
  refine List.forall_mem_cons.mpr ⟨(zo_pushI_tl _ _), ?_⟩
  refine List.forall_mem_cons.mpr ⟨zo_none_tl, ?_⟩
  refine List.forall_mem_cons.mpr ⟨(zo_calls_tl _ _ _), ?_⟩
  refine List.forall_mem_cons.mpr ⟨zo_none_tl, ?_⟩
  refine List.forall_mem_cons.mpr ⟨zo_none_tl, ?_⟩
  refine List.forall_mem_cons.mpr ⟨(zo_iret_tl _), ?_⟩
  exact fun _ h => absurd h List.not_mem_nil
noncomputable def fX12_isController : zzFn := zz_fn tX12_isController 1
set_option maxRecDepth 100000 in
set_option maxHeartbeats 4000000 in
theorem mm_X12_isController {l : Launch} {D : va_G} {cA : Nat → ClassId} {ad : Nat → Nat} {Ex : (Nat → Prop) → State → Heap → Prop} (Wd : zzWR l D cA ad Ex) : zz_Cn l D zzCl cA ad zzSR Ex yX12_isController cX12_isController 1 (some .boolean) 1 22 fX12_isController ∧ zz_Cx l D zzCl cA ad zzSR Ex yX12_isController cX12_isController 1 (some .boolean) 1 22 fX12_isController := by
  refine zz_meth (plainFor_of_name (by decide)) Wd.1 Wd.2.1 Wd.2.2 (fun p e R s m args below meth c rr X => ?_)
  unfold tX12_isController
  refine zz_cons (k' := 1) rfl (zk_iload_n X dX12_isController_0 rfl rfl) ?_
  refine zz_cons (k' := 2) rfl (zk_iconst X dX12_isController_1 (by decide) rfl) ?_
  refine zz_cons (k' := 3) rfl (zk_bipush X dX12_isController_2 (by decide) rfl) ?_
  refine zz_cons (k' := 4) rfl (zz_Ok_none _ _) ?_
  refine zz_cons (k' := 5) rfl (zk_calls X ks_X12_140 (mm_X12_isIn Wd).1 (by decide) dX12_isController_4 rfl) ?_
  refine zz_cons (k' := 6) rfl (zz_Ok_none _ _) ?_
  refine zz_cons (k' := 7) rfl (zz_Ok_none _ _) ?_
  refine zz_cons (k' := 8) rfl (zk_iret X rfl dX12_isController_7) ?_
  exact trivial
noncomputable def tX12_asks : List zzOp := [
  zo_aload 0 1,
  zo_iload 1 2,
  zo_calls fX12_isController 1 5,
  zo_none,
  zo_none,
  zo_if (fun x => decide (x = 0)) 12 8,
  zo_none,
  zo_none,
  zo_pushI 0 9,
  zo_goto 13,
  zo_none,
  zo_none,
  zo_pushI 1 13,
  zo_callv zzSR (zz_cl [(10, fX12_goes)]) 1 16,
  zo_none,
  zo_none,
  zo_iret true]
set_option maxRecDepth 100000 in
theorem tl_X12_asks : ∀ pc, zz_Tl (tX12_asks.getD pc zo_none) := by
  refine zz_Tl_mem ?_
  unfold tX12_asks
  refine List.forall_mem_cons.mpr ⟨(zo_aload_tl _ _), ?_⟩
  refine List.forall_mem_cons.mpr ⟨(zo_iload_tl _ _), ?_⟩
  refine List.forall_mem_cons.mpr ⟨(zo_calls_tl _ _ _), ?_⟩
  refine List.forall_mem_cons.mpr ⟨zo_none_tl, ?_⟩
  refine List.forall_mem_cons.mpr ⟨zo_none_tl, ?_⟩
  refine List.forall_mem_cons.mpr ⟨(zo_if_tl _ _ _), ?_⟩
  refine List.forall_mem_cons.mpr ⟨zo_none_tl, ?_⟩
  refine List.forall_mem_cons.mpr ⟨zo_none_tl, ?_⟩
  refine List.forall_mem_cons.mpr ⟨(zo_pushI_tl _ _), ?_⟩
  refine List.forall_mem_cons.mpr ⟨(zo_goto_tl _), ?_⟩
  refine List.forall_mem_cons.mpr ⟨zo_none_tl, ?_⟩
  refine List.forall_mem_cons.mpr ⟨zo_none_tl, ?_⟩
  refine List.forall_mem_cons.mpr ⟨(zo_pushI_tl _ _), ?_⟩
  refine List.forall_mem_cons.mpr ⟨(zo_callv_tl _ _ _ _), ?_⟩
  refine List.forall_mem_cons.mpr ⟨zo_none_tl, ?_⟩
  refine List.forall_mem_cons.mpr ⟨zo_none_tl, ?_⟩
  refine List.forall_mem_cons.mpr ⟨(zo_iret_tl _), ?_⟩
  exact fun _ h => absurd h List.not_mem_nil
noncomputable def fX12_asks : zzFn := zz_fn tX12_asks 2
set_option maxRecDepth 100000 in
set_option maxHeartbeats 4000000 in
theorem mm_X12_asks {l : Launch} {D : va_G} {cA : Nat → ClassId} {ad : Nat → Nat} {Ex : (Nat → Prop) → State → Heap → Prop} (Wd : zzWR l D cA ad Ex) : zz_Cn l D zzCl cA ad zzSR Ex yX12_asks cX12_asks 2 (some .boolean) 2 42 fX12_asks ∧ zz_Cx l D zzCl cA ad zzSR Ex yX12_asks cX12_asks 2 (some .boolean) 2 42 fX12_asks := by
  refine zz_meth (plainFor_of_name (by decide)) Wd.1 Wd.2.1 Wd.2.2 (fun p e R s m args below meth c rr X => ?_)
  unfold tX12_asks
  refine zz_cons (k' := 1) rfl (zk_aload_n X dX12_asks_0 rfl rfl) ?_
  refine zz_cons (k' := 2) rfl (zk_iload_n X dX12_asks_1 rfl rfl) ?_
  refine zz_cons (k' := 3) rfl (zk_calls X ks_X12_389 (mm_X12_isController Wd).1 (by decide) dX12_asks_2 rfl) ?_
  refine zz_cons (k' := 4) rfl (zz_Ok_none _ _) ?_
  refine zz_cons (k' := 5) rfl (zz_Ok_none _ _) ?_
  refine zz_cons (k' := 6) rfl (zk_if_eq X dX12_asks_5 (by decide) rfl) ?_
  refine zz_cons (k' := 7) rfl (zz_Ok_none _ _) ?_
  refine zz_cons (k' := 8) rfl (zz_Ok_none _ _) ?_
  refine zz_cons (k' := 9) rfl (zk_iconst X dX12_asks_8 (by decide) rfl) ?_
  refine zz_cons (k' := 10) rfl (zk_goto X dX12_asks_9 (by decide)) ?_
  refine zz_cons (k' := 11) rfl (zz_Ok_none _ _) ?_
  refine zz_cons (k' := 12) rfl (zz_Ok_none _ _) ?_
  refine zz_cons (k' := 13) rfl (zk_iconst X dX12_asks_12 (by decide) rfl) ?_
  refine zz_cons (k' := 14) rfl (zk_callv X (zz_Cv_of (List.forall_mem_cons.mpr ⟨⟨(RX_10, zzT10, 50), yX12_goes, cX12_goes, 2, (some .boolean), 0, 0, rfl, kv_X12_374_10.1, (mm_X12_goes Wd).1, by decide, by decide⟩, (fun _ h => absurd h List.not_mem_nil)⟩)) dX12_asks_13 rfl) ?_
  refine zz_cons (k' := 15) rfl (zz_Ok_none _ _) ?_
  refine zz_cons (k' := 16) rfl (zz_Ok_none _ _) ?_
  refine zz_cons (k' := 17) rfl (zk_iret X rfl dX12_asks_16) ?_
  exact trivial
noncomputable def tX12_see : List zzOp := [
  zo_aload 0 1,
  zo_iload 1 2,
  zo_calls fX12_isController 1 5,
  zo_none,
  zo_none,
  zo_if (fun x => decide (x = 0)) 23 8,
  zo_none,
  zo_none,
  zo_iload 2 9,
  zo_pushI 1 10,
  zo_pushI 400 13,
  zo_none,
  zo_none,
  zo_calls fX12_isIn 3 16,
  zo_none,
  zo_none,
  zo_if (fun x => decide (x = 0)) 23 19,
  zo_none,
  zo_none,
  zo_pushI 0 20,
  zo_goto 24,
  zo_none,
  zo_none,
  zo_pushI 1 24,
  zo_callv zzSR (zz_cl [(10, fX12_goes)]) 1 27,
  zo_none,
  zo_none,
  zo_if (fun x => decide (¬ x = 0)) 32 30,
  zo_none,
  zo_none,
  zo_pushI 0 31,
  zo_iret false,
  zo_aload 0 33,
  zo_iload 1 34,
  zo_putf zzSR (zz_kf [10] 42) false 37,
  zo_none,
  zo_none,
  zo_aload 0 38,
  zo_iload 2 39,
  zo_callv zzSR (zz_cl [(10, fX12_sees)]) 1 42,
  zo_none,
  zo_none,
  zo_iret false]
set_option maxRecDepth 100000 in
theorem tl_X12_see : ∀ pc, zz_Tl (tX12_see.getD pc zo_none) := by
  refine zz_Tl_mem ?_
  unfold tX12_see
  refine List.forall_mem_cons.mpr ⟨(zo_aload_tl _ _), ?_⟩
  refine List.forall_mem_cons.mpr ⟨(zo_iload_tl _ _), ?_⟩
  refine List.forall_mem_cons.mpr ⟨(zo_calls_tl _ _ _), ?_⟩
  refine List.forall_mem_cons.mpr ⟨zo_none_tl, ?_⟩
  refine List.forall_mem_cons.mpr ⟨zo_none_tl, ?_⟩
  refine List.forall_mem_cons.mpr ⟨(zo_if_tl _ _ _), ?_⟩
  refine List.forall_mem_cons.mpr ⟨zo_none_tl, ?_⟩
  refine List.forall_mem_cons.mpr ⟨zo_none_tl, ?_⟩
  refine List.forall_mem_cons.mpr ⟨(zo_iload_tl _ _), ?_⟩
  refine List.forall_mem_cons.mpr ⟨(zo_pushI_tl _ _), ?_⟩
  refine List.forall_mem_cons.mpr ⟨(zo_pushI_tl _ _), ?_⟩
  refine List.forall_mem_cons.mpr ⟨zo_none_tl, ?_⟩
  refine List.forall_mem_cons.mpr ⟨zo_none_tl, ?_⟩
  refine List.forall_mem_cons.mpr ⟨(zo_calls_tl _ _ _), ?_⟩
  refine List.forall_mem_cons.mpr ⟨zo_none_tl, ?_⟩
  refine List.forall_mem_cons.mpr ⟨zo_none_tl, ?_⟩
  refine List.forall_mem_cons.mpr ⟨(zo_if_tl _ _ _), ?_⟩
  refine List.forall_mem_cons.mpr ⟨zo_none_tl, ?_⟩
  refine List.forall_mem_cons.mpr ⟨zo_none_tl, ?_⟩
  refine List.forall_mem_cons.mpr ⟨(zo_pushI_tl _ _), ?_⟩
  refine List.forall_mem_cons.mpr ⟨(zo_goto_tl _), ?_⟩
  refine List.forall_mem_cons.mpr ⟨zo_none_tl, ?_⟩
  refine List.forall_mem_cons.mpr ⟨zo_none_tl, ?_⟩
  refine List.forall_mem_cons.mpr ⟨(zo_pushI_tl _ _), ?_⟩
  refine List.forall_mem_cons.mpr ⟨(zo_callv_tl _ _ _ _), ?_⟩
  refine List.forall_mem_cons.mpr ⟨zo_none_tl, ?_⟩
  refine List.forall_mem_cons.mpr ⟨zo_none_tl, ?_⟩
  refine List.forall_mem_cons.mpr ⟨(zo_if_tl _ _ _), ?_⟩
  refine List.forall_mem_cons.mpr ⟨zo_none_tl, ?_⟩
  refine List.forall_mem_cons.mpr ⟨zo_none_tl, ?_⟩
  refine List.forall_mem_cons.mpr ⟨(zo_pushI_tl _ _), ?_⟩
  refine List.forall_mem_cons.mpr ⟨(zo_iret_tl _), ?_⟩
  refine List.forall_mem_cons.mpr ⟨(zo_aload_tl _ _), ?_⟩
  refine List.forall_mem_cons.mpr ⟨(zo_iload_tl _ _), ?_⟩
  refine List.forall_mem_cons.mpr ⟨(zo_putf_tl _ _ _ _), ?_⟩
  refine List.forall_mem_cons.mpr ⟨zo_none_tl, ?_⟩
  refine List.forall_mem_cons.mpr ⟨zo_none_tl, ?_⟩
  refine List.forall_mem_cons.mpr ⟨(zo_aload_tl _ _), ?_⟩
  refine List.forall_mem_cons.mpr ⟨(zo_iload_tl _ _), ?_⟩
  refine List.forall_mem_cons.mpr ⟨(zo_callv_tl _ _ _ _), ?_⟩
  refine List.forall_mem_cons.mpr ⟨zo_none_tl, ?_⟩
  refine List.forall_mem_cons.mpr ⟨zo_none_tl, ?_⟩
  refine List.forall_mem_cons.mpr ⟨(zo_iret_tl _), ?_⟩
  exact fun _ h => absurd h List.not_mem_nil
noncomputable def fX12_see : zzFn := zz_fn tX12_see 3
set_option maxRecDepth 100000 in
set_option maxHeartbeats 4000000 in
theorem mm_X12_see {l : Launch} {D : va_G} {cA : Nat → ClassId} {ad : Nat → Nat} {Ex : (Nat → Prop) → State → Heap → Prop} (Wd : zzWR l D cA ad Ex) : zz_Cn l D zzCl cA ad zzSR Ex yX12_see cX12_see 3 (some .int) 7 167 fX12_see ∧ zz_Cx l D zzCl cA ad zzSR Ex yX12_see cX12_see 3 (some .int) 7 167 fX12_see := by
  refine zz_meth (plainFor_of_name (by decide)) Wd.1 Wd.2.1 Wd.2.2 (fun p e R s m args below meth c rr X => ?_)
  unfold tX12_see
  refine zz_cons (k' := 1) rfl (zk_aload_n X dX12_see_0 rfl rfl) ?_
  refine zz_cons (k' := 2) rfl (zk_iload_n X dX12_see_1 rfl rfl) ?_
  refine zz_cons (k' := 3) rfl (zk_calls X ks_X12_389 (mm_X12_isController Wd).1 (by decide) dX12_see_2 rfl) ?_
  refine zz_cons (k' := 4) rfl (zz_Ok_none _ _) ?_
  refine zz_cons (k' := 5) rfl (zz_Ok_none _ _) ?_
  refine zz_cons (k' := 6) rfl (zk_if_eq X dX12_see_5 (by decide) rfl) ?_
  refine zz_cons (k' := 7) rfl (zz_Ok_none _ _) ?_
  refine zz_cons (k' := 8) rfl (zz_Ok_none _ _) ?_
  refine zz_cons (k' := 9) rfl (zk_iload_n X dX12_see_8 rfl rfl) ?_
  refine zz_cons (k' := 10) rfl (zk_iconst X dX12_see_9 (by decide) rfl) ?_
  refine zz_cons (k' := 11) rfl (zk_sipush X dX12_see_10 (by decide) rfl) ?_
  refine zz_cons (k' := 12) rfl (zz_Ok_none _ _) ?_
  refine zz_cons (k' := 13) rfl (zz_Ok_none _ _) ?_
  refine zz_cons (k' := 14) rfl (zk_calls X ks_X12_140 (mm_X12_isIn Wd).1 (by decide) dX12_see_13 rfl) ?_
  refine zz_cons (k' := 15) rfl (zz_Ok_none _ _) ?_
  refine zz_cons (k' := 16) rfl (zz_Ok_none _ _) ?_
  refine zz_cons (k' := 17) rfl (zk_if_eq X dX12_see_16 (by decide) rfl) ?_
  refine zz_cons (k' := 18) rfl (zz_Ok_none _ _) ?_
  refine zz_cons (k' := 19) rfl (zz_Ok_none _ _) ?_
  refine zz_cons (k' := 20) rfl (zk_iconst X dX12_see_19 (by decide) rfl) ?_
  refine zz_cons (k' := 21) rfl (zk_goto X dX12_see_20 (by decide)) ?_
  refine zz_cons (k' := 22) rfl (zz_Ok_none _ _) ?_
  refine zz_cons (k' := 23) rfl (zz_Ok_none _ _) ?_
  refine zz_cons (k' := 24) rfl (zk_iconst X dX12_see_23 (by decide) rfl) ?_
  refine zz_cons (k' := 25) rfl (zk_callv X (zz_Cv_of (List.forall_mem_cons.mpr ⟨⟨(RX_10, zzT10, 50), yX12_goes, cX12_goes, 2, (some .boolean), 0, 0, rfl, kv_X12_374_10.1, (mm_X12_goes Wd).1, by decide, by decide⟩, (fun _ h => absurd h List.not_mem_nil)⟩)) dX12_see_24 rfl) ?_
  refine zz_cons (k' := 26) rfl (zz_Ok_none _ _) ?_
  refine zz_cons (k' := 27) rfl (zz_Ok_none _ _) ?_
  refine zz_cons (k' := 28) rfl (zk_if_ne X dX12_see_27 (by decide) rfl) ?_
  refine zz_cons (k' := 29) rfl (zz_Ok_none _ _) ?_
  refine zz_cons (k' := 30) rfl (zz_Ok_none _ _) ?_
  refine zz_cons (k' := 31) rfl (zk_iconst X dX12_see_30 (by decide) rfl) ?_
  refine zz_cons (k' := 32) rfl (zk_iret X rfl dX12_see_31) ?_
  refine zz_cons (k' := 33) rfl (zk_aload_n X dX12_see_32 rfl rfl) ?_
  refine zz_cons (k' := 34) rfl (zk_iload_n X dX12_see_33 rfl rfl) ?_
  refine zz_cons (k' := 35) rfl (zk_putf X ff_X12_193 fp_10_42 dX12_see_34 rfl) ?_
  refine zz_cons (k' := 36) rfl (zz_Ok_none _ _) ?_
  refine zz_cons (k' := 37) rfl (zz_Ok_none _ _) ?_
  refine zz_cons (k' := 38) rfl (zk_aload_n X dX12_see_37 rfl rfl) ?_
  refine zz_cons (k' := 39) rfl (zk_iload_n X dX12_see_38 rfl rfl) ?_
  refine zz_cons (k' := 40) rfl (zk_callv X (zz_Cv_of (List.forall_mem_cons.mpr ⟨⟨(RX_10, zzT10, 50), yX12_sees, cX12_sees, 4, (some .int), 6, 144, rfl, kv_X12_392_10.1, (mm_X12_sees Wd).1, by decide, by decide⟩, (fun _ h => absurd h List.not_mem_nil)⟩)) dX12_see_39 rfl) ?_
  refine zz_cons (k' := 41) rfl (zz_Ok_none _ _) ?_
  refine zz_cons (k' := 42) rfl (zz_Ok_none _ _) ?_
  refine zz_cons (k' := 43) rfl (zk_iret X rfl dX12_see_42) ?_
  exact trivial
noncomputable def tX12_work : List zzOp := [
  zo_aload 0 1,
  zo_iload 1 2,
  zo_callv zzSR (zz_cl [(10, fX12_asks)]) 1 5,
  zo_none,
  zo_none,
  zo_if (fun x => decide (¬ x = 0)) 10 8,
  zo_none,
  zo_none,
  zo_pushI 0 9,
  zo_iret false,
  zo_aload 0 11,
  zo_iload 1 12,
  zo_putf zzSR (zz_kf [10] 42) false 15,
  zo_none,
  zo_none,
  zo_aload 0 16,
  zo_callv zzSR (zz_cl [(10, fX12_works)]) 0 19,
  zo_none,
  zo_none,
  zo_iret false]
set_option maxRecDepth 100000 in
theorem tl_X12_work : ∀ pc, zz_Tl (tX12_work.getD pc zo_none) := by
  refine zz_Tl_mem ?_
  unfold tX12_work
  refine List.forall_mem_cons.mpr ⟨(zo_aload_tl _ _), ?_⟩
  refine List.forall_mem_cons.mpr ⟨(zo_iload_tl _ _), ?_⟩
  refine List.forall_mem_cons.mpr ⟨(zo_callv_tl _ _ _ _), ?_⟩
  refine List.forall_mem_cons.mpr ⟨zo_none_tl, ?_⟩
  refine List.forall_mem_cons.mpr ⟨zo_none_tl, ?_⟩
  refine List.forall_mem_cons.mpr ⟨(zo_if_tl _ _ _), ?_⟩
  refine List.forall_mem_cons.mpr ⟨zo_none_tl, ?_⟩
  refine List.forall_mem_cons.mpr ⟨zo_none_tl, ?_⟩
  refine List.forall_mem_cons.mpr ⟨(zo_pushI_tl _ _), ?_⟩
  refine List.forall_mem_cons.mpr ⟨(zo_iret_tl _), ?_⟩
  refine List.forall_mem_cons.mpr ⟨(zo_aload_tl _ _), ?_⟩
  refine List.forall_mem_cons.mpr ⟨(zo_iload_tl _ _), ?_⟩
  refine List.forall_mem_cons.mpr ⟨(zo_putf_tl _ _ _ _), ?_⟩
  refine List.forall_mem_cons.mpr ⟨zo_none_tl, ?_⟩
  refine List.forall_mem_cons.mpr ⟨zo_none_tl, ?_⟩
  refine List.forall_mem_cons.mpr ⟨(zo_aload_tl _ _), ?_⟩
  refine List.forall_mem_cons.mpr ⟨(zo_callv_tl _ _ _ _), ?_⟩
  refine List.forall_mem_cons.mpr ⟨zo_none_tl, ?_⟩
  refine List.forall_mem_cons.mpr ⟨zo_none_tl, ?_⟩
  refine List.forall_mem_cons.mpr ⟨(zo_iret_tl _), ?_⟩
  exact fun _ h => absurd h List.not_mem_nil
noncomputable def fX12_work : zzFn := zz_fn tX12_work 2
set_option maxRecDepth 100000 in
set_option maxHeartbeats 4000000 in
theorem mm_X12_work {l : Launch} {D : va_G} {cA : Nat → ClassId} {ad : Nat → Nat} {Ex : (Nat → Prop) → State → Heap → Prop} (Wd : zzWR l D cA ad Ex) : zz_Cn l D zzCl cA ad zzSR Ex yX12_work cX12_work 2 (some .int) 9 208 fX12_work ∧ zz_Cx l D zzCl cA ad zzSR Ex yX12_work cX12_work 2 (some .int) 9 208 fX12_work := by
  refine zz_meth (plainFor_of_name (by decide)) Wd.1 Wd.2.1 Wd.2.2 (fun p e R s m args below meth c rr X => ?_)
  unfold tX12_work
  refine zz_cons (k' := 1) rfl (zk_aload_n X dX12_work_0 rfl rfl) ?_
  refine zz_cons (k' := 2) rfl (zk_iload_n X dX12_work_1 rfl rfl) ?_
  refine zz_cons (k' := 3) rfl (zk_callv X (zz_Cv_of (List.forall_mem_cons.mpr ⟨⟨(RX_10, zzT10, 50), yX12_asks, cX12_asks, 2, (some .boolean), 2, 42, rfl, kv_X12_395_10.1, (mm_X12_asks Wd).1, by decide, by decide⟩, (fun _ h => absurd h List.not_mem_nil)⟩)) dX12_work_2 rfl) ?_
  refine zz_cons (k' := 4) rfl (zz_Ok_none _ _) ?_
  refine zz_cons (k' := 5) rfl (zz_Ok_none _ _) ?_
  refine zz_cons (k' := 6) rfl (zk_if_ne X dX12_work_5 (by decide) rfl) ?_
  refine zz_cons (k' := 7) rfl (zz_Ok_none _ _) ?_
  refine zz_cons (k' := 8) rfl (zz_Ok_none _ _) ?_
  refine zz_cons (k' := 9) rfl (zk_iconst X dX12_work_8 (by decide) rfl) ?_
  refine zz_cons (k' := 10) rfl (zk_iret X rfl dX12_work_9) ?_
  refine zz_cons (k' := 11) rfl (zk_aload_n X dX12_work_10 rfl rfl) ?_
  refine zz_cons (k' := 12) rfl (zk_iload_n X dX12_work_11 rfl rfl) ?_
  refine zz_cons (k' := 13) rfl (zk_putf X ff_X12_193 fp_10_42 dX12_work_12 rfl) ?_
  refine zz_cons (k' := 14) rfl (zz_Ok_none _ _) ?_
  refine zz_cons (k' := 15) rfl (zz_Ok_none _ _) ?_
  refine zz_cons (k' := 16) rfl (zk_aload_n X dX12_work_15 rfl rfl) ?_
  refine zz_cons (k' := 17) rfl (zk_callv X (zz_Cv_of (List.forall_mem_cons.mpr ⟨⟨(RX_10, zzT10, 50), yX12_works, cX12_works, 3, (some .int), 8, 186, rfl, kv_X12_398_10.1, (mm_X12_works Wd).1, by decide, by decide⟩, (fun _ h => absurd h List.not_mem_nil)⟩)) dX12_work_16 rfl) ?_
  refine zz_cons (k' := 18) rfl (zz_Ok_none _ _) ?_
  refine zz_cons (k' := 19) rfl (zz_Ok_none _ _) ?_
  refine zz_cons (k' := 20) rfl (zk_iret X rfl dX12_work_19) ?_
  exact trivial
noncomputable def tX12_turn : List zzOp := [
  zo_aload 0 1,
  zo_iload 1 2,
  zo_pushI 1 3,
  zo_pushI 10 5,
  zo_none,
  zo_calls fX12_isIn 3 8,
  zo_none,
  zo_none,
  zo_if (fun x => decide (x = 0)) 15 11,
  zo_none,
  zo_none,
  zo_pushI 0 12,
  zo_goto 16,
  zo_none,
  zo_none,
  zo_pushI 1 16,
  zo_callv zzSR (zz_cl [(10, fX12_goes)]) 1 19,
  zo_none,
  zo_none,
  zo_if (fun x => decide (¬ x = 0)) 24 22,
  zo_none,
  zo_none,
  zo_pushI 0 23,
  zo_iret false,
  zo_aload 0 25,
  zo_getf zzSR (zz_kf [10] 14) 28,
  zo_none,
  zo_none,
  zo_istore 2 29,
  zo_pushI 0 30,
  zo_istore 3 31,
  zo_iload 3 32,
  zo_iload 1 33,
  zo_pushI 8 35,
  zo_none,
  zo_ii (fun x y => x * y) 36,
  zo_icmp (fun x y => decide (y ≤ x)) 98 39,
  zo_none,
  zo_none,
  zo_aload 0 40,
  zo_iload 3 41,
  zo_pushI 8 43,
  zo_none,
  zo_iid (fun x y => x - x / y * y) 44,
  zo_putf zzSR (zz_kf [10] 42) false 47,
  zo_none,
  zo_none,
  zo_aload 0 48,
  zo_pushI 400 51,
  zo_none,
  zo_none,
  zo_callv zzSR (zz_cl [(10, fX12_sees)]) 1 54,
  zo_none,
  zo_none,
  zo_istore 4 56,
  zo_none,
  zo_aload 0 57,
  zo_getf zzSR (zz_kf [10] 37) 60,
  zo_none,
  zo_none,
  zo_aload 0 61,
  zo_getf zzSR (zz_kf [10] 42) 64,
  zo_none,
  zo_none,
  zo_iald zzSR zzSTR 65,
  zo_istore 5 67,
  zo_none,
  zo_pushI 0 68,
  zo_istore 6 70,
  zo_none,
  zo_iload 6 72,
  zo_none,
  zo_iload 5 74,
  zo_none,
  zo_icmp (fun x y => decide (y ≤ x)) 92 77,
  zo_none,
  zo_none,
  zo_iload 4 79,
  zo_none,
  zo_aload 0 80,
  zo_callv zzSR (zz_cl [(10, fX12_works)]) 0 83,
  zo_none,
  zo_none,
  zo_ii (fun x y => x + y) 84,
  zo_istore 4 86,
  zo_none,
  zo_iinc 6 1 89,
  zo_none,
  zo_none,
  zo_goto 70,
  zo_none,
  zo_none,
  zo_iinc 3 1 95,
  zo_none,
  zo_none,
  zo_goto 31,
  zo_none,
  zo_none,
  zo_aload 0 99,
  zo_getf zzSR (zz_kf [10] 14) 102,
  zo_none,
  zo_none,
  zo_iload 2 103,
  zo_ii (fun x y => x - y) 104,
  zo_iret false]
set_option maxRecDepth 100000 in
theorem tl_X12_turn : ∀ pc, zz_Tl (tX12_turn.getD pc zo_none) := by
  refine zz_Tl_mem ?_
  unfold tX12_turn
  refine List.forall_mem_cons.mpr ⟨(zo_aload_tl _ _), ?_⟩
  refine List.forall_mem_cons.mpr ⟨(zo_iload_tl _ _), ?_⟩
  refine List.forall_mem_cons.mpr ⟨(zo_pushI_tl _ _), ?_⟩
  refine List.forall_mem_cons.mpr ⟨(zo_pushI_tl _ _), ?_⟩
  refine List.forall_mem_cons.mpr ⟨zo_none_tl, ?_⟩
  refine List.forall_mem_cons.mpr ⟨(zo_calls_tl _ _ _), ?_⟩
  refine List.forall_mem_cons.mpr ⟨zo_none_tl, ?_⟩
  refine List.forall_mem_cons.mpr ⟨zo_none_tl, ?_⟩
  refine List.forall_mem_cons.mpr ⟨(zo_if_tl _ _ _), ?_⟩
  refine List.forall_mem_cons.mpr ⟨zo_none_tl, ?_⟩
  refine List.forall_mem_cons.mpr ⟨zo_none_tl, ?_⟩
  refine List.forall_mem_cons.mpr ⟨(zo_pushI_tl _ _), ?_⟩
  refine List.forall_mem_cons.mpr ⟨(zo_goto_tl _), ?_⟩
  refine List.forall_mem_cons.mpr ⟨zo_none_tl, ?_⟩
  refine List.forall_mem_cons.mpr ⟨zo_none_tl, ?_⟩
  refine List.forall_mem_cons.mpr ⟨(zo_pushI_tl _ _), ?_⟩
  refine List.forall_mem_cons.mpr ⟨(zo_callv_tl _ _ _ _), ?_⟩
  refine List.forall_mem_cons.mpr ⟨zo_none_tl, ?_⟩
  refine List.forall_mem_cons.mpr ⟨zo_none_tl, ?_⟩
  refine List.forall_mem_cons.mpr ⟨(zo_if_tl _ _ _), ?_⟩
  refine List.forall_mem_cons.mpr ⟨zo_none_tl, ?_⟩
  refine List.forall_mem_cons.mpr ⟨zo_none_tl, ?_⟩
  refine List.forall_mem_cons.mpr ⟨(zo_pushI_tl _ _), ?_⟩
  refine List.forall_mem_cons.mpr ⟨(zo_iret_tl _), ?_⟩
  refine List.forall_mem_cons.mpr ⟨(zo_aload_tl _ _), ?_⟩
  refine List.forall_mem_cons.mpr ⟨(zo_getf_tl _ _ _), ?_⟩
  refine List.forall_mem_cons.mpr ⟨zo_none_tl, ?_⟩
  refine List.forall_mem_cons.mpr ⟨zo_none_tl, ?_⟩
  refine List.forall_mem_cons.mpr ⟨(zo_istore_tl _ _), ?_⟩
  refine List.forall_mem_cons.mpr ⟨(zo_pushI_tl _ _), ?_⟩
  refine List.forall_mem_cons.mpr ⟨(zo_istore_tl _ _), ?_⟩
  refine List.forall_mem_cons.mpr ⟨(zo_iload_tl _ _), ?_⟩
  refine List.forall_mem_cons.mpr ⟨(zo_iload_tl _ _), ?_⟩
  refine List.forall_mem_cons.mpr ⟨(zo_pushI_tl _ _), ?_⟩
  refine List.forall_mem_cons.mpr ⟨zo_none_tl, ?_⟩
  refine List.forall_mem_cons.mpr ⟨(zo_ii_tl _ _), ?_⟩
  refine List.forall_mem_cons.mpr ⟨(zo_icmp_tl _ _ _), ?_⟩
  refine List.forall_mem_cons.mpr ⟨zo_none_tl, ?_⟩
  refine List.forall_mem_cons.mpr ⟨zo_none_tl, ?_⟩
  refine List.forall_mem_cons.mpr ⟨(zo_aload_tl _ _), ?_⟩
  refine List.forall_mem_cons.mpr ⟨(zo_iload_tl _ _), ?_⟩
  refine List.forall_mem_cons.mpr ⟨(zo_pushI_tl _ _), ?_⟩
  refine List.forall_mem_cons.mpr ⟨zo_none_tl, ?_⟩
  refine List.forall_mem_cons.mpr ⟨(zo_iid_tl _ _), ?_⟩
  refine List.forall_mem_cons.mpr ⟨(zo_putf_tl _ _ _ _), ?_⟩
  refine List.forall_mem_cons.mpr ⟨zo_none_tl, ?_⟩
  refine List.forall_mem_cons.mpr ⟨zo_none_tl, ?_⟩
  refine List.forall_mem_cons.mpr ⟨(zo_aload_tl _ _), ?_⟩
  refine List.forall_mem_cons.mpr ⟨(zo_pushI_tl _ _), ?_⟩
  refine List.forall_mem_cons.mpr ⟨zo_none_tl, ?_⟩
  refine List.forall_mem_cons.mpr ⟨zo_none_tl, ?_⟩
  refine List.forall_mem_cons.mpr ⟨(zo_callv_tl _ _ _ _), ?_⟩
  refine List.forall_mem_cons.mpr ⟨zo_none_tl, ?_⟩
  refine List.forall_mem_cons.mpr ⟨zo_none_tl, ?_⟩
  refine List.forall_mem_cons.mpr ⟨(zo_istore_tl _ _), ?_⟩
  refine List.forall_mem_cons.mpr ⟨zo_none_tl, ?_⟩
  refine List.forall_mem_cons.mpr ⟨(zo_aload_tl _ _), ?_⟩
  refine List.forall_mem_cons.mpr ⟨(zo_getf_tl _ _ _), ?_⟩
  refine List.forall_mem_cons.mpr ⟨zo_none_tl, ?_⟩
  refine List.forall_mem_cons.mpr ⟨zo_none_tl, ?_⟩
  refine List.forall_mem_cons.mpr ⟨(zo_aload_tl _ _), ?_⟩
  refine List.forall_mem_cons.mpr ⟨(zo_getf_tl _ _ _), ?_⟩
  refine List.forall_mem_cons.mpr ⟨zo_none_tl, ?_⟩
  refine List.forall_mem_cons.mpr ⟨zo_none_tl, ?_⟩
  refine List.forall_mem_cons.mpr ⟨(zo_iald_tl _ _ _), ?_⟩
  refine List.forall_mem_cons.mpr ⟨(zo_istore_tl _ _), ?_⟩
  refine List.forall_mem_cons.mpr ⟨zo_none_tl, ?_⟩
  refine List.forall_mem_cons.mpr ⟨(zo_pushI_tl _ _), ?_⟩
  refine List.forall_mem_cons.mpr ⟨(zo_istore_tl _ _), ?_⟩
  refine List.forall_mem_cons.mpr ⟨zo_none_tl, ?_⟩
  refine List.forall_mem_cons.mpr ⟨(zo_iload_tl _ _), ?_⟩
  refine List.forall_mem_cons.mpr ⟨zo_none_tl, ?_⟩
  refine List.forall_mem_cons.mpr ⟨(zo_iload_tl _ _), ?_⟩
  refine List.forall_mem_cons.mpr ⟨zo_none_tl, ?_⟩
  refine List.forall_mem_cons.mpr ⟨(zo_icmp_tl _ _ _), ?_⟩
  refine List.forall_mem_cons.mpr ⟨zo_none_tl, ?_⟩
  refine List.forall_mem_cons.mpr ⟨zo_none_tl, ?_⟩
  refine List.forall_mem_cons.mpr ⟨(zo_iload_tl _ _), ?_⟩
  refine List.forall_mem_cons.mpr ⟨zo_none_tl, ?_⟩
  refine List.forall_mem_cons.mpr ⟨(zo_aload_tl _ _), ?_⟩
  refine List.forall_mem_cons.mpr ⟨(zo_callv_tl _ _ _ _), ?_⟩
  refine List.forall_mem_cons.mpr ⟨zo_none_tl, ?_⟩
  refine List.forall_mem_cons.mpr ⟨zo_none_tl, ?_⟩
  refine List.forall_mem_cons.mpr ⟨(zo_ii_tl _ _), ?_⟩
  refine List.forall_mem_cons.mpr ⟨(zo_istore_tl _ _), ?_⟩
  refine List.forall_mem_cons.mpr ⟨zo_none_tl, ?_⟩
  refine List.forall_mem_cons.mpr ⟨(zo_iinc_tl _ _ _), ?_⟩
  refine List.forall_mem_cons.mpr ⟨zo_none_tl, ?_⟩
  refine List.forall_mem_cons.mpr ⟨zo_none_tl, ?_⟩
  refine List.forall_mem_cons.mpr ⟨(zo_goto_tl _), ?_⟩
  refine List.forall_mem_cons.mpr ⟨zo_none_tl, ?_⟩
  refine List.forall_mem_cons.mpr ⟨zo_none_tl, ?_⟩
  refine List.forall_mem_cons.mpr ⟨(zo_iinc_tl _ _ _), ?_⟩
  refine List.forall_mem_cons.mpr ⟨zo_none_tl, ?_⟩
  refine List.forall_mem_cons.mpr ⟨zo_none_tl, ?_⟩
  refine List.forall_mem_cons.mpr ⟨(zo_goto_tl _), ?_⟩
  refine List.forall_mem_cons.mpr ⟨zo_none_tl, ?_⟩
  refine List.forall_mem_cons.mpr ⟨zo_none_tl, ?_⟩
  refine List.forall_mem_cons.mpr ⟨(zo_aload_tl _ _), ?_⟩
  refine List.forall_mem_cons.mpr ⟨(zo_getf_tl _ _ _), ?_⟩
  refine List.forall_mem_cons.mpr ⟨zo_none_tl, ?_⟩
  refine List.forall_mem_cons.mpr ⟨zo_none_tl, ?_⟩
  refine List.forall_mem_cons.mpr ⟨(zo_iload_tl _ _), ?_⟩
  refine List.forall_mem_cons.mpr ⟨(zo_ii_tl _ _), ?_⟩
  refine List.forall_mem_cons.mpr ⟨(zo_iret_tl _), ?_⟩
  exact fun _ h => absurd h List.not_mem_nil
noncomputable def fX12_turn : zzFn := zz_fn tX12_turn 7
set_option maxRecDepth 100000 in
set_option maxHeartbeats 4000000 in
theorem mm_X12_turn {l : Launch} {D : va_G} {cA : Nat → ClassId} {ad : Nat → Nat} {Ex : (Nat → Prop) → State → Heap → Prop} (Wd : zzWR l D cA ad Ex) : zz_Cn l D zzCl cA ad zzSR Ex yX12_turn cX12_turn 7 (some .int) 9 208 fX12_turn ∧ zz_Cx l D zzCl cA ad zzSR Ex yX12_turn cX12_turn 7 (some .int) 9 208 fX12_turn := by
  refine zz_meth (plainFor_of_name (by decide)) Wd.1 Wd.2.1 Wd.2.2 (fun p e R s m args below meth c rr X => ?_)
  unfold tX12_turn
  refine zz_cons (k' := 1) rfl (zk_aload_n X dX12_turn_0 rfl rfl) ?_
  refine zz_cons (k' := 2) rfl (zk_iload_n X dX12_turn_1 rfl rfl) ?_
  refine zz_cons (k' := 3) rfl (zk_iconst X dX12_turn_2 (by decide) rfl) ?_
  refine zz_cons (k' := 4) rfl (zk_bipush X dX12_turn_3 (by decide) rfl) ?_
  refine zz_cons (k' := 5) rfl (zz_Ok_none _ _) ?_
  refine zz_cons (k' := 6) rfl (zk_calls X ks_X12_140 (mm_X12_isIn Wd).1 (by decide) dX12_turn_5 rfl) ?_
  refine zz_cons (k' := 7) rfl (zz_Ok_none _ _) ?_
  refine zz_cons (k' := 8) rfl (zz_Ok_none _ _) ?_
  refine zz_cons (k' := 9) rfl (zk_if_eq X dX12_turn_8 (by decide) rfl) ?_
  refine zz_cons (k' := 10) rfl (zz_Ok_none _ _) ?_
  refine zz_cons (k' := 11) rfl (zz_Ok_none _ _) ?_
  refine zz_cons (k' := 12) rfl (zk_iconst X dX12_turn_11 (by decide) rfl) ?_
  refine zz_cons (k' := 13) rfl (zk_goto X dX12_turn_12 (by decide)) ?_
  refine zz_cons (k' := 14) rfl (zz_Ok_none _ _) ?_
  refine zz_cons (k' := 15) rfl (zz_Ok_none _ _) ?_
  refine zz_cons (k' := 16) rfl (zk_iconst X dX12_turn_15 (by decide) rfl) ?_
  refine zz_cons (k' := 17) rfl (zk_callv X (zz_Cv_of (List.forall_mem_cons.mpr ⟨⟨(RX_10, zzT10, 50), yX12_goes, cX12_goes, 2, (some .boolean), 0, 0, rfl, kv_X12_374_10.1, (mm_X12_goes Wd).1, by decide, by decide⟩, (fun _ h => absurd h List.not_mem_nil)⟩)) dX12_turn_16 rfl) ?_
  refine zz_cons (k' := 18) rfl (zz_Ok_none _ _) ?_
  refine zz_cons (k' := 19) rfl (zz_Ok_none _ _) ?_
  refine zz_cons (k' := 20) rfl (zk_if_ne X dX12_turn_19 (by decide) rfl) ?_
  refine zz_cons (k' := 21) rfl (zz_Ok_none _ _) ?_
  refine zz_cons (k' := 22) rfl (zz_Ok_none _ _) ?_
  refine zz_cons (k' := 23) rfl (zk_iconst X dX12_turn_22 (by decide) rfl) ?_
  refine zz_cons (k' := 24) rfl (zk_iret X rfl dX12_turn_23) ?_
  refine zz_cons (k' := 25) rfl (zk_aload_n X dX12_turn_24 rfl rfl) ?_
  refine zz_cons (k' := 26) rfl (zk_getf X ff_X12_154 dX12_turn_25 rfl) ?_
  refine zz_cons (k' := 27) rfl (zz_Ok_none _ _) ?_
  refine zz_cons (k' := 28) rfl (zz_Ok_none _ _) ?_
  refine zz_cons (k' := 29) rfl (zk_istore_n X dX12_turn_28 rfl (by decide) rfl) ?_
  refine zz_cons (k' := 30) rfl (zk_iconst X dX12_turn_29 (by decide) rfl) ?_
  refine zz_cons (k' := 31) rfl (zk_istore_n X dX12_turn_30 rfl (by decide) rfl) ?_
  refine zz_cons (k' := 32) rfl (zk_iload_n X dX12_turn_31 rfl rfl) ?_
  refine zz_cons (k' := 33) rfl (zk_iload_n X dX12_turn_32 rfl rfl) ?_
  refine zz_cons (k' := 34) rfl (zk_bipush X dX12_turn_33 (by decide) rfl) ?_
  refine zz_cons (k' := 35) rfl (zz_Ok_none _ _) ?_
  refine zz_cons (k' := 36) rfl (zk_imul X dX12_turn_35 rfl) ?_
  refine zz_cons (k' := 37) rfl (zk_icmp_ge X dX12_turn_36 (by decide) rfl) ?_
  refine zz_cons (k' := 38) rfl (zz_Ok_none _ _) ?_
  refine zz_cons (k' := 39) rfl (zz_Ok_none _ _) ?_
  refine zz_cons (k' := 40) rfl (zk_aload_n X dX12_turn_39 rfl rfl) ?_
  refine zz_cons (k' := 41) rfl (zk_iload_n X dX12_turn_40 rfl rfl) ?_
  refine zz_cons (k' := 42) rfl (zk_bipush X dX12_turn_41 (by decide) rfl) ?_
  refine zz_cons (k' := 43) rfl (zz_Ok_none _ _) ?_
  refine zz_cons (k' := 44) rfl (zk_irem X dX12_turn_43 rfl) ?_
  refine zz_cons (k' := 45) rfl (zk_putf X ff_X12_193 fp_10_42 dX12_turn_44 rfl) ?_
  refine zz_cons (k' := 46) rfl (zz_Ok_none _ _) ?_
  refine zz_cons (k' := 47) rfl (zz_Ok_none _ _) ?_
  refine zz_cons (k' := 48) rfl (zk_aload_n X dX12_turn_47 rfl rfl) ?_
  refine zz_cons (k' := 49) rfl (zk_sipush X dX12_turn_48 (by decide) rfl) ?_
  refine zz_cons (k' := 50) rfl (zz_Ok_none _ _) ?_
  refine zz_cons (k' := 51) rfl (zz_Ok_none _ _) ?_
  refine zz_cons (k' := 52) rfl (zk_callv X (zz_Cv_of (List.forall_mem_cons.mpr ⟨⟨(RX_10, zzT10, 50), yX12_sees, cX12_sees, 4, (some .int), 6, 144, rfl, kv_X12_392_10.1, (mm_X12_sees Wd).1, by decide, by decide⟩, (fun _ h => absurd h List.not_mem_nil)⟩)) dX12_turn_51 rfl) ?_
  refine zz_cons (k' := 53) rfl (zz_Ok_none _ _) ?_
  refine zz_cons (k' := 54) rfl (zz_Ok_none _ _) ?_
  refine zz_cons (k' := 55) rfl (zk_istore X dX12_turn_54 (by decide) rfl) ?_
  refine zz_cons (k' := 56) rfl (zz_Ok_none _ _) ?_
  refine zz_cons (k' := 57) rfl (zk_aload_n X dX12_turn_56 rfl rfl) ?_
  refine zz_cons (k' := 58) rfl (zk_getf X ff_X12_106 dX12_turn_57 rfl) ?_
  refine zz_cons (k' := 59) rfl (zz_Ok_none _ _) ?_
  refine zz_cons (k' := 60) rfl (zz_Ok_none _ _) ?_
  refine zz_cons (k' := 61) rfl (zk_aload_n X dX12_turn_60 rfl rfl) ?_
  refine zz_cons (k' := 62) rfl (zk_getf X ff_X12_193 dX12_turn_61 rfl) ?_
  refine zz_cons (k' := 63) rfl (zz_Ok_none _ _) ?_
  refine zz_cons (k' := 64) rfl (zz_Ok_none _ _) ?_
  refine zz_cons (k' := 65) rfl (zk_iald X (zzWR_st Wd) dX12_turn_64 rfl) ?_
  refine zz_cons (k' := 66) rfl (zk_istore X dX12_turn_65 (by decide) rfl) ?_
  refine zz_cons (k' := 67) rfl (zz_Ok_none _ _) ?_
  refine zz_cons (k' := 68) rfl (zk_iconst X dX12_turn_67 (by decide) rfl) ?_
  refine zz_cons (k' := 69) rfl (zk_istore X dX12_turn_68 (by decide) rfl) ?_
  refine zz_cons (k' := 70) rfl (zz_Ok_none _ _) ?_
  refine zz_cons (k' := 71) rfl (zk_iload X dX12_turn_70 rfl) ?_
  refine zz_cons (k' := 72) rfl (zz_Ok_none _ _) ?_
  refine zz_cons (k' := 73) rfl (zk_iload X dX12_turn_72 rfl) ?_
  refine zz_cons (k' := 74) rfl (zz_Ok_none _ _) ?_
  refine zz_cons (k' := 75) rfl (zk_icmp_ge X dX12_turn_74 (by decide) rfl) ?_
  refine zz_cons (k' := 76) rfl (zz_Ok_none _ _) ?_
  refine zz_cons (k' := 77) rfl (zz_Ok_none _ _) ?_
  refine zz_cons (k' := 78) rfl (zk_iload X dX12_turn_77 rfl) ?_
  refine zz_cons (k' := 79) rfl (zz_Ok_none _ _) ?_
  refine zz_cons (k' := 80) rfl (zk_aload_n X dX12_turn_79 rfl rfl) ?_
  refine zz_cons (k' := 81) rfl (zk_callv X (zz_Cv_of (List.forall_mem_cons.mpr ⟨⟨(RX_10, zzT10, 50), yX12_works, cX12_works, 3, (some .int), 8, 186, rfl, kv_X12_398_10.1, (mm_X12_works Wd).1, by decide, by decide⟩, (fun _ h => absurd h List.not_mem_nil)⟩)) dX12_turn_80 rfl) ?_
  refine zz_cons (k' := 82) rfl (zz_Ok_none _ _) ?_
  refine zz_cons (k' := 83) rfl (zz_Ok_none _ _) ?_
  refine zz_cons (k' := 84) rfl (zk_iadd X dX12_turn_83 rfl) ?_
  refine zz_cons (k' := 85) rfl (zk_istore X dX12_turn_84 (by decide) rfl) ?_
  refine zz_cons (k' := 86) rfl (zz_Ok_none _ _) ?_
  refine zz_cons (k' := 87) rfl (zk_iinc X dX12_turn_86 (by decide) (by decide) rfl) ?_
  refine zz_cons (k' := 88) rfl (zz_Ok_none _ _) ?_
  refine zz_cons (k' := 89) rfl (zz_Ok_none _ _) ?_
  refine zz_cons (k' := 90) rfl (zk_goto X dX12_turn_89 (by decide)) ?_
  refine zz_cons (k' := 91) rfl (zz_Ok_none _ _) ?_
  refine zz_cons (k' := 92) rfl (zz_Ok_none _ _) ?_
  refine zz_cons (k' := 93) rfl (zk_iinc X dX12_turn_92 (by decide) (by decide) rfl) ?_
  refine zz_cons (k' := 94) rfl (zz_Ok_none _ _) ?_
  refine zz_cons (k' := 95) rfl (zz_Ok_none _ _) ?_
  refine zz_cons (k' := 96) rfl (zk_goto X dX12_turn_95 (by decide)) ?_
  refine zz_cons (k' := 97) rfl (zz_Ok_none _ _) ?_
  refine zz_cons (k' := 98) rfl (zz_Ok_none _ _) ?_
  refine zz_cons (k' := 99) rfl (zk_aload_n X dX12_turn_98 rfl rfl) ?_
  refine zz_cons (k' := 100) rfl (zk_getf X ff_X12_154 dX12_turn_99 rfl) ?_
  refine zz_cons (k' := 101) rfl (zz_Ok_none _ _) ?_
  refine zz_cons (k' := 102) rfl (zz_Ok_none _ _) ?_
  refine zz_cons (k' := 103) rfl (zk_iload_n X dX12_turn_102 rfl rfl) ?_
  refine zz_cons (k' := 104) rfl (zk_isub X dX12_turn_103 rfl) ?_
  refine zz_cons (k' := 105) rfl (zk_iret X rfl dX12_turn_104) ?_
  exact trivial
end

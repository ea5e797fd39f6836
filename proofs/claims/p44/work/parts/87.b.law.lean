section
noncomputable def tL_areVersions : List lzOp := [
  lo_aload 0 1,
  lo_pushI 12 3,
  lo_none,
  lo_pushI 0 4,
  lo_pushI 0 5,
  lo_pushI 0 6,
  lo_calls fL_of 5 1 2 9,
  lo_none,
  lo_none,
  lo_pushI (-1271) 12,
  lo_none,
  lo_none,
  lo_icmp (fun x y => decide (¬ x = y)) 39 15,
  lo_none,
  lo_none,
  lo_aload 0 16,
  lo_pushI 12 18,
  lo_none,
  lo_aload 0 19,
  lo_callv fX11_version 0 2 22,
  lo_none,
  lo_none,
  lo_pushI 1 23,
  lo_ii (fun x y => x + y) 24,
  lo_pushI 0 25,
  lo_pushI 0 26,
  lo_calls fL_of 5 1 2 29,
  lo_none,
  lo_none,
  lo_pushI (-1271) 32,
  lo_none,
  lo_none,
  lo_icmp (fun x y => decide (¬ x = y)) 39 35,
  lo_none,
  lo_none,
  lo_pushI 1 36,
  lo_goto 40,
  lo_none,
  lo_none,
  lo_pushI 0 40,
  lo_istore 2 41,
  lo_pushI 0 42,
  lo_istore 3 43,
  lo_iload 3 44,
  lo_aload 0 45,
  lo_callv fX11_objects 0 2 48,
  lo_none,
  lo_none,
  lo_icmp (fun x y => decide (y ≤ x)) 61 51,
  lo_none,
  lo_none,
  lo_aload 1 52,
  lo_iload 3 53,
  lo_pushI 0 54,
  lo_iast zzSC 55,
  lo_iinc 3 1 58,
  lo_none,
  lo_none,
  lo_goto 43,
  lo_none,
  lo_none,
  lo_pushI 1 62,
  lo_istore 3 63,
  lo_iload 3 64,
  lo_aload 0 65,
  lo_callv fX11_version 0 2 68,
  lo_none,
  lo_none,
  lo_icmp (fun x y => decide (y < x)) 89 71,
  lo_none,
  lo_none,
  lo_iload 2 72,
  lo_if (fun x => decide (x = 0)) 89 75,
  lo_none,
  lo_none,
  lo_aload 1 76,
  lo_aload 0 77,
  lo_iload 3 78,
  lo_callv fX11_objectOf 1 2 81,
  lo_none,
  lo_none,
  lo_iload 3 82,
  lo_iast zzSC 83,
  lo_iinc 3 1 86,
  lo_none,
  lo_none,
  lo_goto 63,
  lo_none,
  lo_none,
  lo_pushI 0 90,
  lo_istore 3 91,
  lo_iload 3 92,
  lo_aload 0 93,
  lo_callv fX11_objects 0 2 96,
  lo_none,
  lo_none,
  lo_icmp (fun x y => decide (y ≤ x)) 132 99,
  lo_none,
  lo_none,
  lo_iload 2 100,
  lo_if (fun x => decide (x = 0)) 132 103,
  lo_none,
  lo_none,
  lo_aload 1 104,
  lo_iload 3 105,
  lo_iald zzSC zzSTC 106,
  lo_if (fun x => decide (x ≤ 0)) 124 109,
  lo_none,
  lo_none,
  lo_aload 0 110,
  lo_iload 3 111,
  lo_callv fX11_versionOf 1 2 114,
  lo_none,
  lo_none,
  lo_aload 1 115,
  lo_iload 3 116,
  lo_iald zzSC zzSTC 117,
  lo_icmp (fun x y => decide (¬ x = y)) 124 120,
  lo_none,
  lo_none,
  lo_pushI 1 121,
  lo_goto 125,
  lo_none,
  lo_none,
  lo_pushI 0 125,
  lo_istore 2 126,
  lo_iinc 3 1 129,
  lo_none,
  lo_none,
  lo_goto 91,
  lo_none,
  lo_none,
  lo_iload 2 133,
  lo_iret 2 true]
set_option maxRecDepth 100000 in
theorem tl_L_areVersions : ∀ pc, lz_Tl (tL_areVersions.getD pc lo_none) := by
  refine lz_Tl_mem ?_
  unfold tL_areVersions
  refine List.forall_mem_cons.mpr ⟨(lo_aload_tl _ _), ?_⟩
  refine List.forall_mem_cons.mpr ⟨(lo_pushI_tl _ _), ?_⟩
  refine List.forall_mem_cons.mpr ⟨lo_none_tl, ?_⟩
  refine List.forall_mem_cons.mpr ⟨(lo_pushI_tl _ _), ?_⟩
  refine List.forall_mem_cons.mpr ⟨(lo_pushI_tl _ _), ?_⟩
  refine List.forall_mem_cons.mpr ⟨(lo_pushI_tl _ _), ?_⟩
  refine List.forall_mem_cons.mpr ⟨(lo_calls_tl _ _ _ _ _), ?_⟩
  refine List.forall_mem_cons.mpr ⟨lo_none_tl, ?_⟩
  refine List.forall_mem_cons.mpr ⟨lo_none_tl, ?_⟩
  refine List.forall_mem_cons.mpr ⟨(lo_pushI_tl _ _), ?_⟩
  refine List.forall_mem_cons.mpr ⟨lo_none_tl, ?_⟩
  refine List.forall_mem_cons.mpr ⟨lo_none_tl, ?_⟩
  refine List.forall_mem_cons.mpr ⟨(lo_icmp_tl _ _ _), ?_⟩
  refine List.forall_mem_cons.mpr ⟨lo_none_tl, ?_⟩
  refine List.forall_mem_cons.mpr ⟨lo_none_tl, ?_⟩
  refine List.forall_mem_cons.mpr ⟨(lo_aload_tl _ _), ?_⟩
  refine List.forall_mem_cons.mpr ⟨(lo_pushI_tl _ _), ?_⟩
  refine List.forall_mem_cons.mpr ⟨lo_none_tl, ?_⟩
  refine List.forall_mem_cons.mpr ⟨(lo_aload_tl _ _), ?_⟩
  refine List.forall_mem_cons.mpr ⟨(lo_callv_tl _ _ _ _), ?_⟩
  refine List.forall_mem_cons.mpr ⟨lo_none_tl, ?_⟩
  refine List.forall_mem_cons.mpr ⟨lo_none_tl, ?_⟩
  refine List.forall_mem_cons.mpr ⟨(lo_pushI_tl _ _), ?_⟩
  refine List.forall_mem_cons.mpr ⟨(lo_ii_tl _ _), ?_⟩
  refine List.forall_mem_cons.mpr ⟨(lo_pushI_tl _ _), ?_⟩
  refine List.forall_mem_cons.mpr ⟨(lo_pushI_tl _ _), ?_⟩
  refine List.forall_mem_cons.mpr ⟨(lo_calls_tl _ _ _ _ _), ?_⟩
  refine List.forall_mem_cons.mpr ⟨lo_none_tl, ?_⟩
  refine List.forall_mem_cons.mpr ⟨lo_none_tl, ?_⟩
  refine List.forall_mem_cons.mpr ⟨(lo_pushI_tl _ _), ?_⟩
  refine List.forall_mem_cons.mpr ⟨lo_none_tl, ?_⟩
  refine List.forall_mem_cons.mpr ⟨lo_none_tl, ?_⟩
  refine List.forall_mem_cons.mpr ⟨(lo_icmp_tl _ _ _), ?_⟩
  refine List.forall_mem_cons.mpr ⟨lo_none_tl, ?_⟩
  refine List.forall_mem_cons.mpr ⟨lo_none_tl, ?_⟩
  refine List.forall_mem_cons.mpr ⟨(lo_pushI_tl _ _), ?_⟩
  refine List.forall_mem_cons.mpr ⟨(lo_goto_tl _), ?_⟩
  refine List.forall_mem_cons.mpr ⟨lo_none_tl, ?_⟩
  refine List.forall_mem_cons.mpr ⟨lo_none_tl, ?_⟩
  refine List.forall_mem_cons.mpr ⟨(lo_pushI_tl _ _), ?_⟩
  refine List.forall_mem_cons.mpr ⟨(lo_istore_tl _ _), ?_⟩
  refine List.forall_mem_cons.mpr ⟨(lo_pushI_tl _ _), ?_⟩
  refine List.forall_mem_cons.mpr ⟨(lo_istore_tl _ _), ?_⟩
  refine List.forall_mem_cons.mpr ⟨(lo_iload_tl _ _), ?_⟩
  refine List.forall_mem_cons.mpr ⟨(lo_aload_tl _ _), ?_⟩
  refine List.forall_mem_cons.mpr ⟨(lo_callv_tl _ _ _ _), ?_⟩
  refine List.forall_mem_cons.mpr ⟨lo_none_tl, ?_⟩
  refine List.forall_mem_cons.mpr ⟨lo_none_tl, ?_⟩
  refine List.forall_mem_cons.mpr ⟨(lo_icmp_tl _ _ _), ?_⟩
  refine List.forall_mem_cons.mpr ⟨lo_none_tl, ?_⟩
  refine List.forall_mem_cons.mpr ⟨lo_none_tl, ?_⟩
  refine List.forall_mem_cons.mpr ⟨(lo_aload_tl _ _), ?_⟩
  refine List.forall_mem_cons.mpr ⟨(lo_iload_tl _ _), ?_⟩
  refine List.forall_mem_cons.mpr ⟨(lo_pushI_tl _ _), ?_⟩
  refine List.forall_mem_cons.mpr ⟨(lo_iast_tl _ _), ?_⟩
  refine List.forall_mem_cons.mpr ⟨(lo_iinc_tl _ _ _), ?_⟩
  refine List.forall_mem_cons.mpr ⟨lo_none_tl, ?_⟩
  refine List.forall_mem_cons.mpr ⟨lo_none_tl, ?_⟩
  refine List.forall_mem_cons.mpr ⟨(lo_goto_tl _), ?_⟩
  refine List.forall_mem_cons.mpr ⟨lo_none_tl, ?_⟩
  refine List.forall_mem_cons.mpr ⟨lo_none_tl, ?_⟩
  refine List.forall_mem_cons.mpr ⟨(lo_pushI_tl _ _), ?_⟩
  refine List.forall_mem_cons.mpr ⟨(lo_istore_tl _ _), ?_⟩
  refine List.forall_mem_cons.mpr ⟨(lo_iload_tl _ _), ?_⟩
  refine List.forall_mem_cons.mpr ⟨(lo_aload_tl _ _), ?_⟩
  refine List.forall_mem_cons.mpr ⟨(lo_callv_tl _ _ _ _), ?_⟩
  refine List.forall_mem_cons.mpr ⟨lo_none_tl, ?_⟩
  refine List.forall_mem_cons.mpr ⟨lo_none_tl, ?_⟩
  refine List.forall_mem_cons.mpr ⟨(lo_icmp_tl _ _ _), ?_⟩
  refine List.forall_mem_cons.mpr ⟨lo_none_tl, ?_⟩
  refine List.forall_mem_cons.mpr ⟨lo_none_tl, ?_⟩
  refine List.forall_mem_cons.mpr ⟨(lo_iload_tl _ _), ?_⟩
  refine List.forall_mem_cons.mpr ⟨(lo_if_tl _ _ _), ?_⟩
  refine List.forall_mem_cons.mpr ⟨lo_none_tl, ?_⟩
  refine List.forall_mem_cons.mpr ⟨lo_none_tl, ?_⟩
  refine List.forall_mem_cons.mpr ⟨(lo_aload_tl _ _), ?_⟩
  refine List.forall_mem_cons.mpr ⟨(lo_aload_tl _ _), ?_⟩
  refine List.forall_mem_cons.mpr ⟨(lo_iload_tl _ _), ?_⟩
  refine List.forall_mem_cons.mpr ⟨(lo_callv_tl _ _ _ _), ?_⟩
  refine List.forall_mem_cons.mpr ⟨lo_none_tl, ?_⟩
  refine List.forall_mem_cons.mpr ⟨lo_none_tl, ?_⟩
  refine List.forall_mem_cons.mpr ⟨(lo_iload_tl _ _), ?_⟩
  refine List.forall_mem_cons.mpr ⟨(lo_iast_tl _ _), ?_⟩
  refine List.forall_mem_cons.mpr ⟨(lo_iinc_tl _ _ _), ?_⟩
  refine List.forall_mem_cons.mpr ⟨lo_none_tl, ?_⟩
  refine List.forall_mem_cons.mpr ⟨lo_none_tl, ?_⟩
  refine List.forall_mem_cons.mpr ⟨(lo_goto_tl _), ?_⟩
  refine List.forall_mem_cons.mpr ⟨lo_none_tl, ?_⟩
  refine List.forall_mem_cons.mpr ⟨lo_none_tl, ?_⟩
  refine List.forall_mem_cons.mpr ⟨(lo_pushI_tl _ _), ?_⟩
  refine List.forall_mem_cons.mpr ⟨(lo_istore_tl _ _), ?_⟩
  refine List.forall_mem_cons.mpr ⟨(lo_iload_tl _ _), ?_⟩
  refine List.forall_mem_cons.mpr ⟨(lo_aload_tl _ _), ?_⟩
  refine List.forall_mem_cons.mpr ⟨(lo_callv_tl _ _ _ _), ?_⟩
  refine List.forall_mem_cons.mpr ⟨lo_none_tl, ?_⟩
  refine List.forall_mem_cons.mpr ⟨lo_none_tl, ?_⟩
  refine List.forall_mem_cons.mpr ⟨(lo_icmp_tl _ _ _), ?_⟩
  refine List.forall_mem_cons.mpr ⟨lo_none_tl, ?_⟩
  refine List.forall_mem_cons.mpr ⟨lo_none_tl, ?_⟩
  refine List.forall_mem_cons.mpr ⟨(lo_iload_tl _ _), ?_⟩
  refine List.forall_mem_cons.mpr ⟨(lo_if_tl _ _ _), ?_⟩
  refine List.forall_mem_cons.mpr ⟨lo_none_tl, ?_⟩
  refine List.forall_mem_cons.mpr ⟨lo_none_tl, ?_⟩
  refine List.forall_mem_cons.mpr ⟨(lo_aload_tl _ _), ?_⟩
  refine List.forall_mem_cons.mpr ⟨(lo_iload_tl _ _), ?_⟩
  refine List.forall_mem_cons.mpr ⟨(lo_iald_tl _ _ _), ?_⟩
  refine List.forall_mem_cons.mpr ⟨(lo_if_tl _ _ _), ?_⟩
  refine List.forall_mem_cons.mpr ⟨lo_none_tl, ?_⟩
  refine List.forall_mem_cons.mpr ⟨lo_none_tl, ?_⟩
  refine List.forall_mem_cons.mpr ⟨(lo_aload_tl _ _), ?_⟩
  refine List.forall_mem_cons.mpr ⟨(lo_iload_tl _ _), ?_⟩
  refine List.forall_mem_cons.mpr ⟨(lo_callv_tl _ _ _ _), ?_⟩
  refine List.forall_mem_cons.mpr ⟨lo_none_tl, ?_⟩
  refine List.forall_mem_cons.mpr ⟨lo_none_tl, ?_⟩
  refine List.forall_mem_cons.mpr ⟨(lo_aload_tl _ _), ?_⟩
  refine List.forall_mem_cons.mpr ⟨(lo_iload_tl _ _), ?_⟩
  refine List.forall_mem_cons.mpr ⟨(lo_iald_tl _ _ _), ?_⟩
  refine List.forall_mem_cons.mpr ⟨(lo_icmp_tl _ _ _), ?_⟩
  refine List.forall_mem_cons.mpr ⟨lo_none_tl, ?_⟩
  refine List.forall_mem_cons.mpr ⟨lo_none_tl, ?_⟩
  refine List.forall_mem_cons.mpr ⟨(lo_pushI_tl _ _), ?_⟩
  refine List.forall_mem_cons.mpr ⟨(lo_goto_tl _), ?_⟩
  refine List.forall_mem_cons.mpr ⟨lo_none_tl, ?_⟩
  refine List.forall_mem_cons.mpr ⟨lo_none_tl, ?_⟩
  refine List.forall_mem_cons.mpr ⟨(lo_pushI_tl _ _), ?_⟩
  refine List.forall_mem_cons.mpr ⟨(lo_istore_tl _ _), ?_⟩
  refine List.forall_mem_cons.mpr ⟨(lo_iinc_tl _ _ _), ?_⟩
  refine List.forall_mem_cons.mpr ⟨lo_none_tl, ?_⟩
  refine List.forall_mem_cons.mpr ⟨lo_none_tl, ?_⟩
  refine List.forall_mem_cons.mpr ⟨(lo_goto_tl _), ?_⟩
  refine List.forall_mem_cons.mpr ⟨lo_none_tl, ?_⟩
  refine List.forall_mem_cons.mpr ⟨lo_none_tl, ?_⟩
  refine List.forall_mem_cons.mpr ⟨(lo_iload_tl _ _), ?_⟩
  refine List.forall_mem_cons.mpr ⟨(lo_iret_tl _ _), ?_⟩
  exact fun _ h => absurd h List.not_mem_nil
noncomputable def fL_areVersions : lzFn := lz_fn tL_areVersions 4
set_option maxRecDepth 100000 in
set_option maxHeartbeats 4000000 in
theorem mm_L_areVersions {l : Launch} {D : va_G} {cA : Nat → ClassId} {ad : Nat → Nat} {Ex : (Nat → Prop) → State → Heap → Prop} {sc : List Int32} (Wd : lzWd l D cA ad Ex sc) : lz_C l D zzCl cA ad zzSC Ex yL_areVersions (Cond.code yL_areVersions cL_areVersions 4 (some .boolean)) 9 153 2 fL_areVersions := by
  refine lz_meth (plainFor_of_name (by decide)) Wd.1.2.1 Wd.1.2.2.1 (fun p e R s m args below meth c rr X => ?_)
  unfold tL_areVersions
  refine lz_cons (k' := 1) rfl (lk_aload_n X dL_areVersions_0 rfl rfl) ?_
  refine lz_cons (k' := 2) rfl (lk_bipush X dL_areVersions_1 (by decide) rfl) ?_
  refine lz_cons (k' := 3) rfl (lz_Ok_none _ _) ?_
  refine lz_cons (k' := 4) rfl (lk_iconst X dL_areVersions_3 (by decide) rfl) ?_
  refine lz_cons (k' := 5) rfl (lk_iconst X dL_areVersions_4 (by decide) rfl) ?_
  refine lz_cons (k' := 6) rfl (lk_iconst X dL_areVersions_5 (by decide) rfl) ?_
  refine lz_cons (k' := 7) rfl (lk_calls X kl_141 (mm_L_of Wd) (by decide) dL_areVersions_6 rfl) ?_
  refine lz_cons (k' := 8) rfl (lz_Ok_none _ _) ?_
  refine lz_cons (k' := 9) rfl (lz_Ok_none _ _) ?_
  refine lz_cons (k' := 10) rfl (lk_sipush X dL_areVersions_9 (by decide) rfl) ?_
  refine lz_cons (k' := 11) rfl (lz_Ok_none _ _) ?_
  refine lz_cons (k' := 12) rfl (lz_Ok_none _ _) ?_
  refine lz_cons (k' := 13) rfl (lk_icmp_ne X dL_areVersions_12 (by decide) rfl) ?_
  refine lz_cons (k' := 14) rfl (lz_Ok_none _ _) ?_
  refine lz_cons (k' := 15) rfl (lz_Ok_none _ _) ?_
  refine lz_cons (k' := 16) rfl (lk_aload_n X dL_areVersions_15 rfl rfl) ?_
  refine lz_cons (k' := 17) rfl (lk_bipush X dL_areVersions_16 (by decide) rfl) ?_
  refine lz_cons (k' := 18) rfl (lz_Ok_none _ _) ?_
  refine lz_cons (k' := 19) rfl (lk_aload_n X dL_areVersions_18 rfl rfl) ?_
  refine lz_cons (k' := 20) rfl (lk_callv X kc_151 (mm_X11_version Wd.1) (by decide) dL_areVersions_19 rfl) ?_
  refine lz_cons (k' := 21) rfl (lz_Ok_none _ _) ?_
  refine lz_cons (k' := 22) rfl (lz_Ok_none _ _) ?_
  refine lz_cons (k' := 23) rfl (lk_iconst X dL_areVersions_22 (by decide) rfl) ?_
  refine lz_cons (k' := 24) rfl (lk_iadd X dL_areVersions_23 rfl) ?_
  refine lz_cons (k' := 25) rfl (lk_iconst X dL_areVersions_24 (by decide) rfl) ?_
  refine lz_cons (k' := 26) rfl (lk_iconst X dL_areVersions_25 (by decide) rfl) ?_
  refine lz_cons (k' := 27) rfl (lk_calls X kl_141 (mm_L_of Wd) (by decide) dL_areVersions_26 rfl) ?_
  refine lz_cons (k' := 28) rfl (lz_Ok_none _ _) ?_
  refine lz_cons (k' := 29) rfl (lz_Ok_none _ _) ?_
  refine lz_cons (k' := 30) rfl (lk_sipush X dL_areVersions_29 (by decide) rfl) ?_
  refine lz_cons (k' := 31) rfl (lz_Ok_none _ _) ?_
  refine lz_cons (k' := 32) rfl (lz_Ok_none _ _) ?_
  refine lz_cons (k' := 33) rfl (lk_icmp_ne X dL_areVersions_32 (by decide) rfl) ?_
  refine lz_cons (k' := 34) rfl (lz_Ok_none _ _) ?_
  refine lz_cons (k' := 35) rfl (lz_Ok_none _ _) ?_
  refine lz_cons (k' := 36) rfl (lk_iconst X dL_areVersions_35 (by decide) rfl) ?_
  refine lz_cons (k' := 37) rfl (lk_goto X dL_areVersions_36 (by decide)) ?_
  refine lz_cons (k' := 38) rfl (lz_Ok_none _ _) ?_
  refine lz_cons (k' := 39) rfl (lz_Ok_none _ _) ?_
  refine lz_cons (k' := 40) rfl (lk_iconst X dL_areVersions_39 (by decide) rfl) ?_
  refine lz_cons (k' := 41) rfl (lk_istore_n X dL_areVersions_40 rfl (by decide) rfl) ?_
  refine lz_cons (k' := 42) rfl (lk_iconst X dL_areVersions_41 (by decide) rfl) ?_
  refine lz_cons (k' := 43) rfl (lk_istore_n X dL_areVersions_42 rfl (by decide) rfl) ?_
  refine lz_cons (k' := 44) rfl (lk_iload_n X dL_areVersions_43 rfl rfl) ?_
  refine lz_cons (k' := 45) rfl (lk_aload_n X dL_areVersions_44 rfl rfl) ?_
  refine lz_cons (k' := 46) rfl (lk_callv X kc_155 (mm_X11_objects Wd.1) (by decide) dL_areVersions_45 rfl) ?_
  refine lz_cons (k' := 47) rfl (lz_Ok_none _ _) ?_
  refine lz_cons (k' := 48) rfl (lz_Ok_none _ _) ?_
  refine lz_cons (k' := 49) rfl (lk_icmp_ge X dL_areVersions_48 (by decide) rfl) ?_
  refine lz_cons (k' := 50) rfl (lz_Ok_none _ _) ?_
  refine lz_cons (k' := 51) rfl (lz_Ok_none _ _) ?_
  refine lz_cons (k' := 52) rfl (lk_aload_n X dL_areVersions_51 rfl rfl) ?_
  refine lz_cons (k' := 53) rfl (lk_iload_n X dL_areVersions_52 rfl rfl) ?_
  refine lz_cons (k' := 54) rfl (lk_iconst X dL_areVersions_53 (by decide) rfl) ?_
  refine lz_cons (k' := 55) rfl (lk_iast X dL_areVersions_54 rfl) ?_
  refine lz_cons (k' := 56) rfl (lk_iinc X dL_areVersions_55 (by decide) (by decide) rfl) ?_
  refine lz_cons (k' := 57) rfl (lz_Ok_none _ _) ?_
  refine lz_cons (k' := 58) rfl (lz_Ok_none _ _) ?_
  refine lz_cons (k' := 59) rfl (lk_goto X dL_areVersions_58 (by decide)) ?_
  refine lz_cons (k' := 60) rfl (lz_Ok_none _ _) ?_
  refine lz_cons (k' := 61) rfl (lz_Ok_none _ _) ?_
  refine lz_cons (k' := 62) rfl (lk_iconst X dL_areVersions_61 (by decide) rfl) ?_
  refine lz_cons (k' := 63) rfl (lk_istore_n X dL_areVersions_62 rfl (by decide) rfl) ?_
  refine lz_cons (k' := 64) rfl (lk_iload_n X dL_areVersions_63 rfl rfl) ?_
  refine lz_cons (k' := 65) rfl (lk_aload_n X dL_areVersions_64 rfl rfl) ?_
  refine lz_cons (k' := 66) rfl (lk_callv X kc_151 (mm_X11_version Wd.1) (by decide) dL_areVersions_65 rfl) ?_
  refine lz_cons (k' := 67) rfl (lz_Ok_none _ _) ?_
  refine lz_cons (k' := 68) rfl (lz_Ok_none _ _) ?_
  refine lz_cons (k' := 69) rfl (lk_icmp_gt X dL_areVersions_68 (by decide) rfl) ?_
  refine lz_cons (k' := 70) rfl (lz_Ok_none _ _) ?_
  refine lz_cons (k' := 71) rfl (lz_Ok_none _ _) ?_
  refine lz_cons (k' := 72) rfl (lk_iload_n X dL_areVersions_71 rfl rfl) ?_
  refine lz_cons (k' := 73) rfl (lk_if_eq X dL_areVersions_72 (by decide) rfl) ?_
  refine lz_cons (k' := 74) rfl (lz_Ok_none _ _) ?_
  refine lz_cons (k' := 75) rfl (lz_Ok_none _ _) ?_
  refine lz_cons (k' := 76) rfl (lk_aload_n X dL_areVersions_75 rfl rfl) ?_
  refine lz_cons (k' := 77) rfl (lk_aload_n X dL_areVersions_76 rfl rfl) ?_
  refine lz_cons (k' := 78) rfl (lk_iload_n X dL_areVersions_77 rfl rfl) ?_
  refine lz_cons (k' := 79) rfl (lk_callv X kc_120 (mm_X11_objectOf Wd.1) (by decide) dL_areVersions_78 rfl) ?_
  refine lz_cons (k' := 80) rfl (lz_Ok_none _ _) ?_
  refine lz_cons (k' := 81) rfl (lz_Ok_none _ _) ?_
  refine lz_cons (k' := 82) rfl (lk_iload_n X dL_areVersions_81 rfl rfl) ?_
  refine lz_cons (k' := 83) rfl (lk_iast X dL_areVersions_82 rfl) ?_
  refine lz_cons (k' := 84) rfl (lk_iinc X dL_areVersions_83 (by decide) (by decide) rfl) ?_
  refine lz_cons (k' := 85) rfl (lz_Ok_none _ _) ?_
  refine lz_cons (k' := 86) rfl (lz_Ok_none _ _) ?_
  refine lz_cons (k' := 87) rfl (lk_goto X dL_areVersions_86 (by decide)) ?_
  refine lz_cons (k' := 88) rfl (lz_Ok_none _ _) ?_
  refine lz_cons (k' := 89) rfl (lz_Ok_none _ _) ?_
  refine lz_cons (k' := 90) rfl (lk_iconst X dL_areVersions_89 (by decide) rfl) ?_
  refine lz_cons (k' := 91) rfl (lk_istore_n X dL_areVersions_90 rfl (by decide) rfl) ?_
  refine lz_cons (k' := 92) rfl (lk_iload_n X dL_areVersions_91 rfl rfl) ?_
  refine lz_cons (k' := 93) rfl (lk_aload_n X dL_areVersions_92 rfl rfl) ?_
  refine lz_cons (k' := 94) rfl (lk_callv X kc_155 (mm_X11_objects Wd.1) (by decide) dL_areVersions_93 rfl) ?_
  refine lz_cons (k' := 95) rfl (lz_Ok_none _ _) ?_
  refine lz_cons (k' := 96) rfl (lz_Ok_none _ _) ?_
  refine lz_cons (k' := 97) rfl (lk_icmp_ge X dL_areVersions_96 (by decide) rfl) ?_
  refine lz_cons (k' := 98) rfl (lz_Ok_none _ _) ?_
  refine lz_cons (k' := 99) rfl (lz_Ok_none _ _) ?_
  refine lz_cons (k' := 100) rfl (lk_iload_n X dL_areVersions_99 rfl rfl) ?_
  refine lz_cons (k' := 101) rfl (lk_if_eq X dL_areVersions_100 (by decide) rfl) ?_
  refine lz_cons (k' := 102) rfl (lz_Ok_none _ _) ?_
  refine lz_cons (k' := 103) rfl (lz_Ok_none _ _) ?_
  refine lz_cons (k' := 104) rfl (lk_aload_n X dL_areVersions_103 rfl rfl) ?_
  refine lz_cons (k' := 105) rfl (lk_iload_n X dL_areVersions_104 rfl rfl) ?_
  refine lz_cons (k' := 106) rfl (lk_iald X (zzWC_st Wd.1) dL_areVersions_105 rfl) ?_
  refine lz_cons (k' := 107) rfl (lk_if_le X dL_areVersions_106 (by decide) rfl) ?_
  refine lz_cons (k' := 108) rfl (lz_Ok_none _ _) ?_
  refine lz_cons (k' := 109) rfl (lz_Ok_none _ _) ?_
  refine lz_cons (k' := 110) rfl (lk_aload_n X dL_areVersions_109 rfl rfl) ?_
  refine lz_cons (k' := 111) rfl (lk_iload_n X dL_areVersions_110 rfl rfl) ?_
  refine lz_cons (k' := 112) rfl (lk_callv X kc_95 (mm_X11_versionOf Wd.1) (by decide) dL_areVersions_111 rfl) ?_
  refine lz_cons (k' := 113) rfl (lz_Ok_none _ _) ?_
  refine lz_cons (k' := 114) rfl (lz_Ok_none _ _) ?_
  refine lz_cons (k' := 115) rfl (lk_aload_n X dL_areVersions_114 rfl rfl) ?_
  refine lz_cons (k' := 116) rfl (lk_iload_n X dL_areVersions_115 rfl rfl) ?_
  refine lz_cons (k' := 117) rfl (lk_iald X (zzWC_st Wd.1) dL_areVersions_116 rfl) ?_
  refine lz_cons (k' := 118) rfl (lk_icmp_ne X dL_areVersions_117 (by decide) rfl) ?_
  refine lz_cons (k' := 119) rfl (lz_Ok_none _ _) ?_
  refine lz_cons (k' := 120) rfl (lz_Ok_none _ _) ?_
  refine lz_cons (k' := 121) rfl (lk_iconst X dL_areVersions_120 (by decide) rfl) ?_
  refine lz_cons (k' := 122) rfl (lk_goto X dL_areVersions_121 (by decide)) ?_
  refine lz_cons (k' := 123) rfl (lz_Ok_none _ _) ?_
  refine lz_cons (k' := 124) rfl (lz_Ok_none _ _) ?_
  refine lz_cons (k' := 125) rfl (lk_iconst X dL_areVersions_124 (by decide) rfl) ?_
  refine lz_cons (k' := 126) rfl (lk_istore_n X dL_areVersions_125 rfl (by decide) rfl) ?_
  refine lz_cons (k' := 127) rfl (lk_iinc X dL_areVersions_126 (by decide) (by decide) rfl) ?_
  refine lz_cons (k' := 128) rfl (lz_Ok_none _ _) ?_
  refine lz_cons (k' := 129) rfl (lz_Ok_none _ _) ?_
  refine lz_cons (k' := 130) rfl (lk_goto X dL_areVersions_129 (by decide)) ?_
  refine lz_cons (k' := 131) rfl (lz_Ok_none _ _) ?_
  refine lz_cons (k' := 132) rfl (lz_Ok_none _ _) ?_
  refine lz_cons (k' := 133) rfl (lk_iload_n X dL_areVersions_132 rfl rfl) ?_
  refine lz_cons (k' := 134) rfl (lk_iret X rfl dL_areVersions_133) ?_
  exact trivial
noncomputable def tL_areQueues : List lzOp := [
  lo_pushI 1 1,
  lo_istore 1 2,
  lo_pushI 1 3,
  lo_istore 2 4,
  lo_pushI 0 5,
  lo_istore 3 6,
  lo_iload 3 7,
  lo_pushI 8 9,
  lo_none,
  lo_icmp (fun x y => decide (y ≤ x)) 284 12,
  lo_none,
  lo_none,
  lo_iload 1 13,
  lo_if (fun x => decide (x = 0)) 284 16,
  lo_none,
  lo_none,
  lo_pushL 0 17,
  lo_lstore 4 19,
  lo_none,
  lo_pushI 0 20,
  lo_istore 6 22,
  lo_none,
  lo_iload 1 23,
  lo_if (fun x => decide (x = 0)) 148 26,
  lo_none,
  lo_none,
  lo_aload 0 27,
  lo_iload 3 28,
  lo_iload 6 30,
  lo_none,
  lo_callv fX11_queued 2 0 33,
  lo_none,
  lo_none,
  lo_if (fun x => decide (x < 0)) 148 36,
  lo_none,
  lo_none,
  lo_aload 0 37,
  lo_iload 3 38,
  lo_iload 6 40,
  lo_none,
  lo_callv fX11_queued 2 0 43,
  lo_none,
  lo_none,
  lo_istore 7 45,
  lo_none,
  lo_iload 3 46,
  lo_if (fun x => decide (x = 0)) 55 49,
  lo_none,
  lo_none,
  lo_iload 3 50,
  lo_pushI 7 52,
  lo_none,
  lo_icmp (fun x y => decide (¬ x = y)) 59 55,
  lo_none,
  lo_none,
  lo_pushI 0 56,
  lo_goto 102,
  lo_none,
  lo_none,
  lo_iload 3 60,
  lo_pushI 1 61,
  lo_icmp (fun x y => decide (¬ x = y)) 68 64,
  lo_none,
  lo_none,
  lo_pushI 1 65,
  lo_goto 102,
  lo_none,
  lo_none,
  lo_iload 3 69,
  lo_pushI 2 70,
  lo_icmp (fun x y => decide (¬ x = y)) 77 73,
  lo_none,
  lo_none,
  lo_pushI 3 74,
  lo_goto 102,
  lo_none,
  lo_none,
  lo_iload 3 78,
  lo_pushI 6 80,
  lo_none,
  lo_icmp (fun x y => decide (¬ x = y)) 87 83,
  lo_none,
  lo_none,
  lo_pushI 5 84,
  lo_goto 102,
  lo_none,
  lo_none,
  lo_iload 3 88,
  lo_pushI 5 89,
  lo_icmp (fun x y => decide (¬ x = y)) 101 92,
  lo_none,
  lo_none,
  lo_aload 0 93,
  lo_iload 7 95,
  lo_none,
  lo_callv fX11_kindOf 1 0 98,
  lo_none,
  lo_none,
  lo_goto 102,
  lo_none,
  lo_none,
  lo_pushI 2 102,
  lo_istore 8 104,
  lo_none,
  lo_lload 4 106,
  lo_none,
  lo_iload 7 108,
  lo_none,
  lo_li (fun x y => x >>> (y.toInt64 &&& 63)) 109,
  lo_pushL 1 110,
  lo_ll (fun x y => x &&& y) 111,
  lo_pushL 0 112,
  lo_lcmp 113,
  lo_if (fun x => decide (¬ x = 0)) 131 116,
  lo_none,
  lo_none,
  lo_aload 0 117,
  lo_iload 7 119,
  lo_none,
  lo_callv fX11_kindOf 1 0 122,
  lo_none,
  lo_none,
  lo_iload 8 124,
  lo_none,
  lo_icmp (fun x y => decide (¬ x = y)) 131 127,
  lo_none,
  lo_none,
  lo_pushI 1 128,
  lo_goto 132,
  lo_none,
  lo_none,
  lo_pushI 0 132,
  lo_istore 1 133,
  lo_lload 4 135,
  lo_none,
  lo_pushL 1 136,
  lo_iload 7 138,
  lo_none,
  lo_li (fun x y => x <<< (y.toInt64 &&& 63)) 139,
  lo_ll (fun x y => x ||| y) 140,
  lo_lstore 4 142,
  lo_none,
  lo_iinc 6 1 145,
  lo_none,
  lo_none,
  lo_goto 22,
  lo_none,
  lo_none,
  lo_iload 2 149,
  lo_if (fun x => decide (x = 0)) 173 152,
  lo_none,
  lo_none,
  lo_iload 6 154,
  lo_none,
  lo_if (fun x => decide (¬ x = 0)) 173 157,
  lo_none,
  lo_none,
  lo_aload 0 158,
  lo_iload 3 159,
  lo_callv fX11_seen 1 0 162,
  lo_none,
  lo_none,
  lo_aload 0 163,
  lo_callv fX11_version 0 0 166,
  lo_none,
  lo_none,
  lo_icmp (fun x y => decide (¬ x = y)) 173 169,
  lo_none,
  lo_none,
  lo_pushI 1 170,
  lo_goto 174,
  lo_none,
  lo_none,
  lo_pushI 0 174,
  lo_istore 2 175,
  lo_iload 1 176,
  lo_if (fun x => decide (x = 0)) 216 179,
  lo_none,
  lo_none,
  lo_aload 0 180,
  lo_iload 3 181,
  lo_iload 6 183,
  lo_none,
  lo_pushI 1 184,
  lo_ii (fun x y => x + y) 185,
  lo_callv fX11_queued 2 0 188,
  lo_none,
  lo_none,
  lo_pushI (-1) 189,
  lo_icmp (fun x y => decide (¬ x = y)) 216 192,
  lo_none,
  lo_none,
  lo_aload 0 193,
  lo_iload 3 194,
  lo_callv fX11_seen 1 0 197,
  lo_none,
  lo_none,
  lo_if (fun x => decide (x < 0)) 216 200,
  lo_none,
  lo_none,
  lo_aload 0 201,
  lo_iload 3 202,
  lo_callv fX11_seen 1 0 205,
  lo_none,
  lo_none,
  lo_aload 0 206,
  lo_callv fX11_version 0 0 209,
  lo_none,
  lo_none,
  lo_icmp (fun x y => decide (y < x)) 216 212,
  lo_none,
  lo_none,
  lo_pushI 1 213,
  lo_goto 217,
  lo_none,
  lo_none,
  lo_pushI 0 217,
  lo_istore 1 218,
  lo_pushI 0 219,
  lo_istore 7 221,
  lo_none,
  lo_iload 7 223,
  lo_none,
  lo_aload 0 224,
  lo_callv fX11_objects 0 0 227,
  lo_none,
  lo_none,
  lo_icmp (fun x y => decide (y ≤ x)) 278 230,
  lo_none,
  lo_none,
  lo_iload 1 231,
  lo_if (fun x => decide (x = 0)) 278 234,
  lo_none,
  lo_none,
  lo_aload 0 235,
  lo_iload 3 236,
  lo_iload 7 238,
  lo_none,
  lo_callv fX11_failures 2 0 241,
  lo_none,
  lo_none,
  lo_if (fun x => decide (x < 0)) 270 244,
  lo_none,
  lo_none,
  lo_aload 0 245,
  lo_iload 3 246,
  lo_iload 7 248,
  lo_none,
  lo_callv fX11_failures 2 0 251,
  lo_none,
  lo_none,
  lo_if (fun x => decide (x = 0)) 266 254,
  lo_none,
  lo_none,
  lo_lload 4 256,
  lo_none,
  lo_iload 7 258,
  lo_none,
  lo_li (fun x y => x >>> (y.toInt64 &&& 63)) 259,
  lo_pushL 1 260,
  lo_ll (fun x y => x &&& y) 261,
  lo_pushL 1 262,
  lo_lcmp 263,
  lo_if (fun x => decide (¬ x = 0)) 270 266,
  lo_none,
  lo_none,
  lo_pushI 1 267,
  lo_goto 271,
  lo_none,
  lo_none,
  lo_pushI 0 271,
  lo_istore 1 272,
  lo_iinc 7 1 275,
  lo_none,
  lo_none,
  lo_goto 221,
  lo_none,
  lo_none,
  lo_iinc 3 1 281,
  lo_none,
  lo_none,
  lo_goto 6,
  lo_none,
  lo_none,
  lo_iload 1 285,
  lo_if (fun x => decide (x = 0)) 300 288,
  lo_none,
  lo_none,
  lo_aload 0 289,
  lo_callv fX11_isSettled 0 0 292,
  lo_none,
  lo_none,
  lo_iload 2 293,
  lo_icmp (fun x y => decide (¬ x = y)) 300 296,
  lo_none,
  lo_none,
  lo_pushI 1 297,
  lo_goto 301,
  lo_none,
  lo_none,
  lo_pushI 0 301,
  lo_iret 0 true]
set_option maxRecDepth 100000 in
theorem tl_L_areQueues : ∀ pc, lz_Tl (tL_areQueues.getD pc lo_none) := by
  refine lz_Tl_mem ?_
  unfold tL_areQueues
  refine List.forall_mem_cons.mpr ⟨(lo_pushI_tl _ _), ?_⟩
  refine List.forall_mem_cons.mpr ⟨(lo_istore_tl _ _), ?_⟩
  refine List.forall_mem_cons.mpr ⟨(lo_pushI_tl _ _), ?_⟩
  refine List.forall_mem_cons.mpr ⟨(lo_istore_tl _ _), ?_⟩
  refine List.forall_mem_cons.mpr ⟨(lo_pushI_tl _ _), ?_⟩
  refine List.forall_mem_cons.mpr ⟨(lo_istore_tl _ _), ?_⟩
  refine List.forall_mem_cons.mpr ⟨(lo_iload_tl _ _), ?_⟩
  refine List.forall_mem_cons.mpr ⟨(lo_pushI_tl _ _), ?_⟩
  refine List.forall_mem_cons.mpr ⟨lo_none_tl, ?_⟩
  refine List.forall_mem_cons.mpr ⟨(lo_icmp_tl _ _ _), ?_⟩
  refine List.forall_mem_cons.mpr ⟨lo_none_tl, ?_⟩
  refine List.forall_mem_cons.mpr ⟨lo_none_tl, ?_⟩
  refine List.forall_mem_cons.mpr ⟨(lo_iload_tl _ _), ?_⟩
  refine List.forall_mem_cons.mpr ⟨(lo_if_tl _ _ _), ?_⟩
  refine List.forall_mem_cons.mpr ⟨lo_none_tl, ?_⟩
  refine List.forall_mem_cons.mpr ⟨lo_none_tl, ?_⟩
  refine List.forall_mem_cons.mpr ⟨(lo_pushL_tl _ _), ?_⟩
  refine List.forall_mem_cons.mpr ⟨(lo_lstore_tl _ _), ?_⟩
  refine List.forall_mem_cons.mpr ⟨lo_none_tl, ?_⟩
  refine List.forall_mem_cons.mpr ⟨(lo_pushI_tl _ _), ?_⟩
  refine List.forall_mem_cons.mpr ⟨(lo_istore_tl _ _), ?_⟩
  refine List.forall_mem_cons.mpr ⟨lo_none_tl, ?_⟩
  refine List.forall_mem_cons.mpr ⟨(lo_iload_tl _ _), ?_⟩
  refine List.forall_mem_cons.mpr ⟨(lo_if_tl _ _ _), ?_⟩
  refine List.forall_mem_cons.mpr ⟨lo_none_tl, ?_⟩
  refine List.forall_mem_cons.mpr ⟨lo_none_tl, ?_⟩
  refine List.forall_mem_cons.mpr ⟨(lo_aload_tl _ _), ?_⟩
  refine List.forall_mem_cons.mpr ⟨(lo_iload_tl _ _), ?_⟩
  refine List.forall_mem_cons.mpr ⟨(lo_iload_tl _ _), ?_⟩
  refine List.forall_mem_cons.mpr ⟨lo_none_tl, ?_⟩
  refine List.forall_mem_cons.mpr ⟨(lo_callv_tl _ _ _ _), ?_⟩
  refine List.forall_mem_cons.mpr ⟨lo_none_tl, ?_⟩
  refine List.forall_mem_cons.mpr ⟨lo_none_tl, ?_⟩
  refine List.forall_mem_cons.mpr ⟨(lo_if_tl _ _ _), ?_⟩
  refine List.forall_mem_cons.mpr ⟨lo_none_tl, ?_⟩
  refine List.forall_mem_cons.mpr ⟨lo_none_tl, ?_⟩
  refine List.forall_mem_cons.mpr ⟨(lo_aload_tl _ _), ?_⟩
  refine List.forall_mem_cons.mpr ⟨(lo_iload_tl _ _), ?_⟩
  refine List.forall_mem_cons.mpr ⟨(lo_iload_tl _ _), ?_⟩
  refine List.forall_mem_cons.mpr ⟨lo_none_tl, ?_⟩
  refine List.forall_mem_cons.mpr ⟨(lo_callv_tl _ _ _ _), ?_⟩
  refine List.forall_mem_cons.mpr ⟨lo_none_tl, ?_⟩
  refine List.forall_mem_cons.mpr ⟨lo_none_tl, ?_⟩
  refine List.forall_mem_cons.mpr ⟨(lo_istore_tl _ _), ?_⟩
  refine List.forall_mem_cons.mpr ⟨lo_none_tl, ?_⟩
  refine List.forall_mem_cons.mpr ⟨(lo_iload_tl _ _), ?_⟩
  refine List.forall_mem_cons.mpr ⟨(lo_if_tl _ _ _), ?_⟩
  refine List.forall_mem_cons.mpr ⟨lo_none_tl, ?_⟩
  refine List.forall_mem_cons.mpr ⟨lo_none_tl, ?_⟩
  refine List.forall_mem_cons.mpr ⟨(lo_iload_tl _ _), ?_⟩
  refine List.forall_mem_cons.mpr ⟨(lo_pushI_tl _ _), ?_⟩
  refine List.forall_mem_cons.mpr ⟨lo_none_tl, ?_⟩
  refine List.forall_mem_cons.mpr ⟨(lo_icmp_tl _ _ _), ?_⟩
  refine List.forall_mem_cons.mpr ⟨lo_none_tl, ?_⟩
  refine List.forall_mem_cons.mpr ⟨lo_none_tl, ?_⟩
  refine List.forall_mem_cons.mpr ⟨(lo_pushI_tl _ _), ?_⟩
  refine List.forall_mem_cons.mpr ⟨(lo_goto_tl _), ?_⟩
  refine List.forall_mem_cons.mpr ⟨lo_none_tl, ?_⟩
  refine List.forall_mem_cons.mpr ⟨lo_none_tl, ?_⟩
  refine List.forall_mem_cons.mpr ⟨(lo_iload_tl _ _), ?_⟩
  refine List.forall_mem_cons.mpr ⟨(lo_pushI_tl _ _), ?_⟩
  refine List.forall_mem_cons.mpr ⟨(lo_icmp_tl _ _ _), ?_⟩
  refine List.forall_mem_cons.mpr ⟨lo_none_tl, ?_⟩
  refine List.forall_mem_cons.mpr ⟨lo_none_tl, ?_⟩
  refine List.forall_mem_cons.mpr ⟨(lo_pushI_tl _ _), ?_⟩
  refine List.forall_mem_cons.mpr ⟨(lo_goto_tl _), ?_⟩
  refine List.forall_mem_cons.mpr ⟨lo_none_tl, ?_⟩
  refine List.forall_mem_cons.mpr ⟨lo_none_tl, ?_⟩
  refine List.forall_mem_cons.mpr ⟨(lo_iload_tl _ _), ?_⟩
  refine List.forall_mem_cons.mpr ⟨(lo_pushI_tl _ _), ?_⟩
  refine List.forall_mem_cons.mpr ⟨(lo_icmp_tl _ _ _), ?_⟩
  refine List.forall_mem_cons.mpr ⟨lo_none_tl, ?_⟩
  refine List.forall_mem_cons.mpr ⟨lo_none_tl, ?_⟩
  refine List.forall_mem_cons.mpr ⟨(lo_pushI_tl _ _), ?_⟩
  refine List.forall_mem_cons.mpr ⟨(lo_goto_tl _), ?_⟩
  refine List.forall_mem_cons.mpr ⟨lo_none_tl, ?_⟩
  refine List.forall_mem_cons.mpr ⟨lo_none_tl, ?_⟩
  refine List.forall_mem_cons.mpr ⟨(lo_iload_tl _ _), ?_⟩
  refine List.forall_mem_cons.mpr ⟨(lo_pushI_tl _ _), ?_⟩
  refine List.forall_mem_cons.mpr ⟨lo_none_tl, ?_⟩
  refine List.forall_mem_cons.mpr ⟨(lo_icmp_tl _ _ _), ?_⟩
  refine List.forall_mem_cons.mpr ⟨lo_none_tl, ?_⟩
  refine List.forall_mem_cons.mpr ⟨lo_none_tl, ?_⟩
  refine List.forall_mem_cons.mpr ⟨(lo_pushI_tl _ _), ?_⟩
  refine List.forall_mem_cons.mpr ⟨(lo_goto_tl _), ?_⟩
  refine List.forall_mem_cons.mpr ⟨lo_none_tl, ?_⟩
  refine List.forall_mem_cons.mpr ⟨lo_none_tl, ?_⟩
  refine List.forall_mem_cons.mpr ⟨(lo_iload_tl _ _), ?_⟩
  refine List.forall_mem_cons.mpr ⟨(lo_pushI_tl _ _), ?_⟩
  refine List.forall_mem_cons.mpr ⟨(lo_icmp_tl _ _ _), ?_⟩
  refine List.forall_mem_cons.mpr ⟨lo_none_tl, ?_⟩
  refine List.forall_mem_cons.mpr ⟨lo_none_tl, ?_⟩
  refine List.forall_mem_cons.mpr ⟨(lo_aload_tl _ _), ?_⟩
  refine List.forall_mem_cons.mpr ⟨(lo_iload_tl _ _), ?_⟩
  refine List.forall_mem_cons.mpr ⟨lo_none_tl, ?_⟩
  refine List.forall_mem_cons.mpr ⟨(lo_callv_tl _ _ _ _), ?_⟩
  refine List.forall_mem_cons.mpr ⟨lo_none_tl, ?_⟩
  refine List.forall_mem_cons.mpr ⟨lo_none_tl, ?_⟩
  refine List.forall_mem_cons.mpr ⟨(lo_goto_tl _), ?_⟩
  refine List.forall_mem_cons.mpr ⟨lo_none_tl, ?_⟩
  refine List.forall_mem_cons.mpr ⟨lo_none_tl, ?_⟩
  refine List.forall_mem_cons.mpr ⟨(lo_pushI_tl _ _), ?_⟩
  refine List.forall_mem_cons.mpr ⟨(lo_istore_tl _ _), ?_⟩
  refine List.forall_mem_cons.mpr ⟨lo_none_tl, ?_⟩
  refine List.forall_mem_cons.mpr ⟨(lo_lload_tl _ _), ?_⟩
  refine List.forall_mem_cons.mpr ⟨lo_none_tl, ?_⟩
  refine List.forall_mem_cons.mpr ⟨(lo_iload_tl _ _), ?_⟩
  refine List.forall_mem_cons.mpr ⟨lo_none_tl, ?_⟩
  refine List.forall_mem_cons.mpr ⟨(lo_li_tl _ _), ?_⟩
  refine List.forall_mem_cons.mpr ⟨(lo_pushL_tl _ _), ?_⟩
  refine List.forall_mem_cons.mpr ⟨(lo_ll_tl _ _), ?_⟩
  refine List.forall_mem_cons.mpr ⟨(lo_pushL_tl _ _), ?_⟩
  refine List.forall_mem_cons.mpr ⟨(lo_lcmp_tl _), ?_⟩
  refine List.forall_mem_cons.mpr ⟨(lo_if_tl _ _ _), ?_⟩
  refine List.forall_mem_cons.mpr ⟨lo_none_tl, ?_⟩
  refine List.forall_mem_cons.mpr ⟨lo_none_tl, ?_⟩
  refine List.forall_mem_cons.mpr ⟨(lo_aload_tl _ _), ?_⟩
  refine List.forall_mem_cons.mpr ⟨(lo_iload_tl _ _), ?_⟩
  refine List.forall_mem_cons.mpr ⟨lo_none_tl, ?_⟩
  refine List.forall_mem_cons.mpr ⟨(lo_callv_tl _ _ _ _), ?_⟩
  refine List.forall_mem_cons.mpr ⟨lo_none_tl, ?_⟩
  refine List.forall_mem_cons.mpr ⟨lo_none_tl, ?_⟩
  refine List.forall_mem_cons.mpr ⟨(lo_iload_tl _ _), ?_⟩
  refine List.forall_mem_cons.mpr ⟨lo_none_tl, ?_⟩
  refine List.forall_mem_cons.mpr ⟨(lo_icmp_tl _ _ _), ?_⟩
  refine List.forall_mem_cons.mpr ⟨lo_none_tl, ?_⟩
  refine List.forall_mem_cons.mpr ⟨lo_none_tl, ?_⟩
  refine List.forall_mem_cons.mpr ⟨(lo_pushI_tl _ _), ?_⟩
  refine List.forall_mem_cons.mpr ⟨(lo_goto_tl _), ?_⟩
  refine List.forall_mem_cons.mpr ⟨lo_none_tl, ?_⟩
  refine List.forall_mem_cons.mpr ⟨lo_none_tl, ?_⟩
  refine List.forall_mem_cons.mpr ⟨(lo_pushI_tl _ _), ?_⟩
  refine List.forall_mem_cons.mpr ⟨(lo_istore_tl _ _), ?_⟩
  refine List.forall_mem_cons.mpr ⟨(lo_lload_tl _ _), ?_⟩
  refine List.forall_mem_cons.mpr ⟨lo_none_tl, ?_⟩
  refine List.forall_mem_cons.mpr ⟨(lo_pushL_tl _ _), ?_⟩
  refine List.forall_mem_cons.mpr ⟨(lo_iload_tl _ _), ?_⟩
  refine List.forall_mem_cons.mpr ⟨lo_none_tl, ?_⟩
  refine List.forall_mem_cons.mpr ⟨(lo_li_tl _ _), ?_⟩
  refine List.forall_mem_cons.mpr ⟨(lo_ll_tl _ _), ?_⟩
  refine List.forall_mem_cons.mpr ⟨(lo_lstore_tl _ _), ?_⟩
  refine List.forall_mem_cons.mpr ⟨lo_none_tl, ?_⟩
  refine List.forall_mem_cons.mpr ⟨(lo_iinc_tl _ _ _), ?_⟩
  refine List.forall_mem_cons.mpr ⟨lo_none_tl, ?_⟩
  refine List.forall_mem_cons.mpr ⟨lo_none_tl, ?_⟩
  refine List.forall_mem_cons.mpr ⟨(lo_goto_tl _), ?_⟩
  refine List.forall_mem_cons.mpr ⟨lo_none_tl, ?_⟩
  refine List.forall_mem_cons.mpr ⟨lo_none_tl, ?_⟩
  refine List.forall_mem_cons.mpr ⟨(lo_iload_tl _ _), ?_⟩
  refine List.forall_mem_cons.mpr ⟨(lo_if_tl _ _ _), ?_⟩
  refine List.forall_mem_cons.mpr ⟨lo_none_tl, ?_⟩
  refine List.forall_mem_cons.mpr ⟨lo_none_tl, ?_⟩
  refine List.forall_mem_cons.mpr ⟨(lo_iload_tl _ _), ?_⟩
  refine List.forall_mem_cons.mpr ⟨lo_none_tl, ?_⟩
  refine List.forall_mem_cons.mpr ⟨(lo_if_tl _ _ _), ?_⟩
  refine List.forall_mem_cons.mpr ⟨lo_none_tl, ?_⟩
  refine List.forall_mem_cons.mpr ⟨lo_none_tl, ?_⟩
  refine List.forall_mem_cons.mpr ⟨(lo_aload_tl _ _), ?_⟩
  refine List.forall_mem_cons.mpr ⟨(lo_iload_tl _ _), ?_⟩
  refine List.forall_mem_cons.mpr ⟨(lo_callv_tl _ _ _ _), ?_⟩
  refine List.forall_mem_cons.mpr ⟨lo_none_tl, ?_⟩
  refine List.forall_mem_cons.mpr ⟨lo_none_tl, ?_⟩
  refine List.forall_mem_cons.mpr ⟨(lo_aload_tl _ _), ?_⟩
  refine List.forall_mem_cons.mpr ⟨(lo_callv_tl _ _ _ _), ?_⟩
  refine List.forall_mem_cons.mpr ⟨lo_none_tl, ?_⟩
  refine List.forall_mem_cons.mpr ⟨lo_none_tl, ?_⟩
  refine List.forall_mem_cons.mpr ⟨(lo_icmp_tl _ _ _), ?_⟩
  refine List.forall_mem_cons.mpr ⟨lo_none_tl, ?_⟩
  refine List.forall_mem_cons.mpr ⟨lo_none_tl, ?_⟩
  refine List.forall_mem_cons.mpr ⟨(lo_pushI_tl _ _), ?_⟩
  refine List.forall_mem_cons.mpr ⟨(lo_goto_tl _), ?_⟩
  refine List.forall_mem_cons.mpr ⟨lo_none_tl, ?_⟩
  refine List.forall_mem_cons.mpr ⟨lo_none_tl, ?_⟩
  refine List.forall_mem_cons.mpr ⟨(lo_pushI_tl _ _), ?_⟩
  refine List.forall_mem_cons.mpr ⟨(lo_istore_tl _ _), ?_⟩
  refine List.forall_mem_cons.mpr ⟨(lo_iload_tl _ _), ?_⟩
  refine List.forall_mem_cons.mpr ⟨(lo_if_tl _ _ _), ?_⟩
  refine List.forall_mem_cons.mpr ⟨lo_none_tl, ?_⟩
  refine List.forall_mem_cons.mpr ⟨lo_none_tl, ?_⟩
  refine List.forall_mem_cons.mpr ⟨(lo_aload_tl _ _), ?_⟩
  refine List.forall_mem_cons.mpr ⟨(lo_iload_tl _ _), ?_⟩
  refine List.forall_mem_cons.mpr ⟨(lo_iload_tl _ _), ?_⟩
  refine List.forall_mem_cons.mpr ⟨lo_none_tl, ?_⟩
  refine List.forall_mem_cons.mpr ⟨(lo_pushI_tl _ _), ?_⟩
  refine List.forall_mem_cons.mpr ⟨(lo_ii_tl _ _), ?_⟩
  refine List.forall_mem_cons.mpr ⟨(lo_callv_tl _ _ _ _), ?_⟩
  refine List.forall_mem_cons.mpr ⟨lo_none_tl, ?_⟩
  refine List.forall_mem_cons.mpr ⟨lo_none_tl, ?_⟩
  refine List.forall_mem_cons.mpr ⟨(lo_pushI_tl _ _), ?_⟩
  refine List.forall_mem_cons.mpr ⟨(lo_icmp_tl _ _ _), ?_⟩
  refine List.forall_mem_cons.mpr ⟨lo_none_tl, ?_⟩
  refine List.forall_mem_cons.mpr ⟨lo_none_tl, ?_⟩
  refine List.forall_mem_cons.mpr ⟨(lo_aload_tl _ _), ?_⟩
  refine List.forall_mem_cons.mpr ⟨(lo_iload_tl _ _), ?_⟩
  refine List.forall_mem_cons.mpr ⟨(lo_callv_tl _ _ _ _), ?_⟩
  refine List.forall_mem_cons.mpr ⟨lo_none_tl, ?_⟩
  refine List.forall_mem_cons.mpr ⟨lo_none_tl, ?_⟩
  refine List.forall_mem_cons.mpr ⟨(lo_if_tl _ _ _), ?_⟩
  refine List.forall_mem_cons.mpr ⟨lo_none_tl, ?_⟩
  refine List.forall_mem_cons.mpr ⟨lo_none_tl, ?_⟩
  refine List.forall_mem_cons.mpr ⟨(lo_aload_tl _ _), ?_⟩
  refine List.forall_mem_cons.mpr ⟨(lo_iload_tl _ _), ?_⟩
  refine List.forall_mem_cons.mpr ⟨(lo_callv_tl _ _ _ _), ?_⟩
  refine List.forall_mem_cons.mpr ⟨lo_none_tl, ?_⟩
  refine List.forall_mem_cons.mpr ⟨lo_none_tl, ?_⟩
  refine List.forall_mem_cons.mpr ⟨(lo_aload_tl _ _), ?_⟩
  refine List.forall_mem_cons.mpr ⟨(lo_callv_tl _ _ _ _), ?_⟩
  refine List.forall_mem_cons.mpr ⟨lo_none_tl, ?_⟩
  refine List.forall_mem_cons.mpr ⟨lo_none_tl, ?_⟩
  refine List.forall_mem_cons.mpr ⟨(lo_icmp_tl _ _ _), ?_⟩
  refine List.forall_mem_cons.mpr ⟨lo_none_tl, ?_⟩
  refine List.forall_mem_cons.mpr ⟨lo_none_tl, ?_⟩
  refine List.forall_mem_cons.mpr ⟨(lo_pushI_tl _ _), ?_⟩
  refine List.forall_mem_cons.mpr ⟨(lo_goto_tl _), ?_⟩
  refine List.forall_mem_cons.mpr ⟨lo_none_tl, ?_⟩
  refine List.forall_mem_cons.mpr ⟨lo_none_tl, ?_⟩
  refine List.forall_mem_cons.mpr ⟨(lo_pushI_tl _ _), ?_⟩
  refine List.forall_mem_cons.mpr ⟨(lo_istore_tl _ _), ?_⟩
  refine List.forall_mem_cons.mpr ⟨(lo_pushI_tl _ _), ?_⟩
  refine List.forall_mem_cons.mpr ⟨(lo_istore_tl _ _), ?_⟩
  refine List.forall_mem_cons.mpr ⟨lo_none_tl, ?_⟩
  refine List.forall_mem_cons.mpr ⟨(lo_iload_tl _ _), ?_⟩
  refine List.forall_mem_cons.mpr ⟨lo_none_tl, ?_⟩
  refine List.forall_mem_cons.mpr ⟨(lo_aload_tl _ _), ?_⟩
  refine List.forall_mem_cons.mpr ⟨(lo_callv_tl _ _ _ _), ?_⟩
  refine List.forall_mem_cons.mpr ⟨lo_none_tl, ?_⟩
  refine List.forall_mem_cons.mpr ⟨lo_none_tl, ?_⟩
  refine List.forall_mem_cons.mpr ⟨(lo_icmp_tl _ _ _), ?_⟩
  refine List.forall_mem_cons.mpr ⟨lo_none_tl, ?_⟩
  refine List.forall_mem_cons.mpr ⟨lo_none_tl, ?_⟩
  refine List.forall_mem_cons.mpr ⟨(lo_iload_tl _ _), ?_⟩
  refine List.forall_mem_cons.mpr ⟨(lo_if_tl _ _ _), ?_⟩
  refine List.forall_mem_cons.mpr ⟨lo_none_tl, ?_⟩
  refine List.forall_mem_cons.mpr ⟨lo_none_tl, ?_⟩
  refine List.forall_mem_cons.mpr ⟨(lo_aload_tl _ _), ?_⟩
  refine List.forall_mem_cons.mpr ⟨(lo_iload_tl _ _), ?_⟩
  refine List.forall_mem_cons.mpr ⟨(lo_iload_tl _ _), ?_⟩
  refine List.forall_mem_cons.mpr ⟨lo_none_tl, ?_⟩
  refine List.forall_mem_cons.mpr ⟨(lo_callv_tl _ _ _ _), ?_⟩
  refine List.forall_mem_cons.mpr ⟨lo_none_tl, ?_⟩
  refine List.forall_mem_cons.mpr ⟨lo_none_tl, ?_⟩
  refine List.forall_mem_cons.mpr ⟨(lo_if_tl _ _ _), ?_⟩
  refine List.forall_mem_cons.mpr ⟨lo_none_tl, ?_⟩
  refine List.forall_mem_cons.mpr ⟨lo_none_tl, ?_⟩
  refine List.forall_mem_cons.mpr ⟨(lo_aload_tl _ _), ?_⟩
  refine List.forall_mem_cons.mpr ⟨(lo_iload_tl _ _), ?_⟩
  refine List.forall_mem_cons.mpr ⟨(lo_iload_tl _ _), ?_⟩
  refine List.forall_mem_cons.mpr ⟨lo_none_tl, ?_⟩
  refine List.forall_mem_cons.mpr ⟨(lo_callv_tl _ _ _ _), ?_⟩
  refine List.forall_mem_cons.mpr ⟨lo_none_tl, ?_⟩
  refine List.forall_mem_cons.mpr ⟨lo_none_tl, ?_⟩
  refine List.forall_mem_cons.mpr ⟨(lo_if_tl _ _ _), ?_⟩
  refine List.forall_mem_cons.mpr ⟨lo_none_tl, ?_⟩
  refine List.forall_mem_cons.mpr ⟨lo_none_tl, ?_⟩
  refine List.forall_mem_cons.mpr ⟨(lo_lload_tl _ _), ?_⟩
  refine List.forall_mem_cons.mpr ⟨lo_none_tl, ?_⟩
  refine List.forall_mem_cons.mpr ⟨(lo_iload_tl _ _), ?_⟩
  refine List.forall_mem_cons.mpr ⟨lo_none_tl, ?_⟩
  refine List.forall_mem_cons.mpr ⟨(lo_li_tl _ _), ?_⟩
  refine List.forall_mem_cons.mpr ⟨(lo_pushL_tl _ _), ?_⟩
  refine List.forall_mem_cons.mpr ⟨(lo_ll_tl _ _), ?_⟩
  refine List.forall_mem_cons.mpr ⟨(lo_pushL_tl _ _), ?_⟩
  refine List.forall_mem_cons.mpr ⟨(lo_lcmp_tl _), ?_⟩
  refine List.forall_mem_cons.mpr ⟨(lo_if_tl _ _ _), ?_⟩
  refine List.forall_mem_cons.mpr ⟨lo_none_tl, ?_⟩
  refine List.forall_mem_cons.mpr ⟨lo_none_tl, ?_⟩
  refine List.forall_mem_cons.mpr ⟨(lo_pushI_tl _ _), ?_⟩
  refine List.forall_mem_cons.mpr ⟨(lo_goto_tl _), ?_⟩
  refine List.forall_mem_cons.mpr ⟨lo_none_tl, ?_⟩
  refine List.forall_mem_cons.mpr ⟨lo_none_tl, ?_⟩
  refine List.forall_mem_cons.mpr ⟨(lo_pushI_tl _ _), ?_⟩
  refine List.forall_mem_cons.mpr ⟨(lo_istore_tl _ _), ?_⟩
  refine List.forall_mem_cons.mpr ⟨(lo_iinc_tl _ _ _), ?_⟩
  refine List.forall_mem_cons.mpr ⟨lo_none_tl, ?_⟩
  refine List.forall_mem_cons.mpr ⟨lo_none_tl, ?_⟩
  refine List.forall_mem_cons.mpr ⟨(lo_goto_tl _), ?_⟩
  refine List.forall_mem_cons.mpr ⟨lo_none_tl, ?_⟩
  refine List.forall_mem_cons.mpr ⟨lo_none_tl, ?_⟩
  refine List.forall_mem_cons.mpr ⟨(lo_iinc_tl _ _ _), ?_⟩
  refine List.forall_mem_cons.mpr ⟨lo_none_tl, ?_⟩
  refine List.forall_mem_cons.mpr ⟨lo_none_tl, ?_⟩
  refine List.forall_mem_cons.mpr ⟨(lo_goto_tl _), ?_⟩
  refine List.forall_mem_cons.mpr ⟨lo_none_tl, ?_⟩
  refine List.forall_mem_cons.mpr ⟨lo_none_tl, ?_⟩
  refine List.forall_mem_cons.mpr ⟨(lo_iload_tl _ _), ?_⟩
  refine List.forall_mem_cons.mpr ⟨(lo_if_tl _ _ _), ?_⟩
  refine List.forall_mem_cons.mpr ⟨lo_none_tl, ?_⟩
  refine List.forall_mem_cons.mpr ⟨lo_none_tl, ?_⟩
  refine List.forall_mem_cons.mpr ⟨(lo_aload_tl _ _), ?_⟩
  refine List.forall_mem_cons.mpr ⟨(lo_callv_tl _ _ _ _), ?_⟩
  refine List.forall_mem_cons.mpr ⟨lo_none_tl, ?_⟩
  refine List.forall_mem_cons.mpr ⟨lo_none_tl, ?_⟩
  refine List.forall_mem_cons.mpr ⟨(lo_iload_tl _ _), ?_⟩
  refine List.forall_mem_cons.mpr ⟨(lo_icmp_tl _ _ _), ?_⟩
  refine List.forall_mem_cons.mpr ⟨lo_none_tl, ?_⟩
  refine List.forall_mem_cons.mpr ⟨lo_none_tl, ?_⟩
  refine List.forall_mem_cons.mpr ⟨(lo_pushI_tl _ _), ?_⟩
  refine List.forall_mem_cons.mpr ⟨(lo_goto_tl _), ?_⟩
  refine List.forall_mem_cons.mpr ⟨lo_none_tl, ?_⟩
  refine List.forall_mem_cons.mpr ⟨lo_none_tl, ?_⟩
  refine List.forall_mem_cons.mpr ⟨(lo_pushI_tl _ _), ?_⟩
  refine List.forall_mem_cons.mpr ⟨(lo_iret_tl _ _), ?_⟩
  exact fun _ h => absurd h List.not_mem_nil
noncomputable def fL_areQueues : lzFn := lz_fn tL_areQueues 9
set_option maxRecDepth 100000 in
set_option maxHeartbeats 4000000 in
theorem mm_L_areQueues {l : Launch} {D : va_G} {cA : Nat → ClassId} {ad : Nat → Nat} {Ex : (Nat → Prop) → State → Heap → Prop} {sc : List Int32} (Wd : lzWd l D cA ad Ex sc) : lz_C l D zzCl cA ad zzSC Ex yL_areQueues (Cond.code yL_areQueues cL_areQueues 9 (some .boolean)) 8 126 0 fL_areQueues := by
  refine lz_meth (plainFor_of_name (by decide)) Wd.1.2.1 Wd.1.2.2.1 (fun p e R s m args below meth c rr X => ?_)
  unfold tL_areQueues
  refine lz_cons (k' := 1) rfl (lk_iconst X dL_areQueues_0 (by decide) rfl) ?_
  refine lz_cons (k' := 2) rfl (lk_istore_n X dL_areQueues_1 rfl (by decide) rfl) ?_
  refine lz_cons (k' := 3) rfl (lk_iconst X dL_areQueues_2 (by decide) rfl) ?_
  refine lz_cons (k' := 4) rfl (lk_istore_n X dL_areQueues_3 rfl (by decide) rfl) ?_
  refine lz_cons (k' := 5) rfl (lk_iconst X dL_areQueues_4 (by decide) rfl) ?_
  refine lz_cons (k' := 6) rfl (lk_istore_n X dL_areQueues_5 rfl (by decide) rfl) ?_
  refine lz_cons (k' := 7) rfl (lk_iload_n X dL_areQueues_6 rfl rfl) ?_
  refine lz_cons (k' := 8) rfl (lk_bipush X dL_areQueues_7 (by decide) rfl) ?_
  refine lz_cons (k' := 9) rfl (lz_Ok_none _ _) ?_
  refine lz_cons (k' := 10) rfl (lk_icmp_ge X dL_areQueues_9 (by decide) rfl) ?_
  refine lz_cons (k' := 11) rfl (lz_Ok_none _ _) ?_
  refine lz_cons (k' := 12) rfl (lz_Ok_none _ _) ?_
  refine lz_cons (k' := 13) rfl (lk_iload_n X dL_areQueues_12 rfl rfl) ?_
  refine lz_cons (k' := 14) rfl (lk_if_eq X dL_areQueues_13 (by decide) rfl) ?_
  refine lz_cons (k' := 15) rfl (lz_Ok_none _ _) ?_
  refine lz_cons (k' := 16) rfl (lz_Ok_none _ _) ?_
  refine lz_cons (k' := 17) rfl (lk_lconst X dL_areQueues_16 (by decide) rfl) ?_
  refine lz_cons (k' := 18) rfl (lk_lstore X dL_areQueues_17 (by decide) rfl) ?_
  refine lz_cons (k' := 19) rfl (lz_Ok_none _ _) ?_
  refine lz_cons (k' := 20) rfl (lk_iconst X dL_areQueues_19 (by decide) rfl) ?_
  refine lz_cons (k' := 21) rfl (lk_istore X dL_areQueues_20 (by decide) rfl) ?_
  refine lz_cons (k' := 22) rfl (lz_Ok_none _ _) ?_
  refine lz_cons (k' := 23) rfl (lk_iload_n X dL_areQueues_22 rfl rfl) ?_
  refine lz_cons (k' := 24) rfl (lk_if_eq X dL_areQueues_23 (by decide) rfl) ?_
  refine lz_cons (k' := 25) rfl (lz_Ok_none _ _) ?_
  refine lz_cons (k' := 26) rfl (lz_Ok_none _ _) ?_
  refine lz_cons (k' := 27) rfl (lk_aload_n X dL_areQueues_26 rfl rfl) ?_
  refine lz_cons (k' := 28) rfl (lk_iload_n X dL_areQueues_27 rfl rfl) ?_
  refine lz_cons (k' := 29) rfl (lk_iload X dL_areQueues_28 rfl) ?_
  refine lz_cons (k' := 30) rfl (lz_Ok_none _ _) ?_
  refine lz_cons (k' := 31) rfl (lk_callv X kc_126 (mm_X11_queued Wd.1) (by decide) dL_areQueues_30 rfl) ?_
  refine lz_cons (k' := 32) rfl (lz_Ok_none _ _) ?_
  refine lz_cons (k' := 33) rfl (lz_Ok_none _ _) ?_
  refine lz_cons (k' := 34) rfl (lk_if_lt X dL_areQueues_33 (by decide) rfl) ?_
  refine lz_cons (k' := 35) rfl (lz_Ok_none _ _) ?_
  refine lz_cons (k' := 36) rfl (lz_Ok_none _ _) ?_
  refine lz_cons (k' := 37) rfl (lk_aload_n X dL_areQueues_36 rfl rfl) ?_
  refine lz_cons (k' := 38) rfl (lk_iload_n X dL_areQueues_37 rfl rfl) ?_
  refine lz_cons (k' := 39) rfl (lk_iload X dL_areQueues_38 rfl) ?_
  refine lz_cons (k' := 40) rfl (lz_Ok_none _ _) ?_
  refine lz_cons (k' := 41) rfl (lk_callv X kc_126 (mm_X11_queued Wd.1) (by decide) dL_areQueues_40 rfl) ?_
  refine lz_cons (k' := 42) rfl (lz_Ok_none _ _) ?_
  refine lz_cons (k' := 43) rfl (lz_Ok_none _ _) ?_
  refine lz_cons (k' := 44) rfl (lk_istore X dL_areQueues_43 (by decide) rfl) ?_
  refine lz_cons (k' := 45) rfl (lz_Ok_none _ _) ?_
  refine lz_cons (k' := 46) rfl (lk_iload_n X dL_areQueues_45 rfl rfl) ?_
  refine lz_cons (k' := 47) rfl (lk_if_eq X dL_areQueues_46 (by decide) rfl) ?_
  refine lz_cons (k' := 48) rfl (lz_Ok_none _ _) ?_
  refine lz_cons (k' := 49) rfl (lz_Ok_none _ _) ?_
  refine lz_cons (k' := 50) rfl (lk_iload_n X dL_areQueues_49 rfl rfl) ?_
  refine lz_cons (k' := 51) rfl (lk_bipush X dL_areQueues_50 (by decide) rfl) ?_
  refine lz_cons (k' := 52) rfl (lz_Ok_none _ _) ?_
  refine lz_cons (k' := 53) rfl (lk_icmp_ne X dL_areQueues_52 (by decide) rfl) ?_
  refine lz_cons (k' := 54) rfl (lz_Ok_none _ _) ?_
  refine lz_cons (k' := 55) rfl (lz_Ok_none _ _) ?_
  refine lz_cons (k' := 56) rfl (lk_iconst X dL_areQueues_55 (by decide) rfl) ?_
  refine lz_cons (k' := 57) rfl (lk_goto X dL_areQueues_56 (by decide)) ?_
  refine lz_cons (k' := 58) rfl (lz_Ok_none _ _) ?_
  refine lz_cons (k' := 59) rfl (lz_Ok_none _ _) ?_
  refine lz_cons (k' := 60) rfl (lk_iload_n X dL_areQueues_59 rfl rfl) ?_
  refine lz_cons (k' := 61) rfl (lk_iconst X dL_areQueues_60 (by decide) rfl) ?_
  refine lz_cons (k' := 62) rfl (lk_icmp_ne X dL_areQueues_61 (by decide) rfl) ?_
  refine lz_cons (k' := 63) rfl (lz_Ok_none _ _) ?_
  refine lz_cons (k' := 64) rfl (lz_Ok_none _ _) ?_
  refine lz_cons (k' := 65) rfl (lk_iconst X dL_areQueues_64 (by decide) rfl) ?_
  refine lz_cons (k' := 66) rfl (lk_goto X dL_areQueues_65 (by decide)) ?_
  refine lz_cons (k' := 67) rfl (lz_Ok_none _ _) ?_
  refine lz_cons (k' := 68) rfl (lz_Ok_none _ _) ?_
  refine lz_cons (k' := 69) rfl (lk_iload_n X dL_areQueues_68 rfl rfl) ?_
  refine lz_cons (k' := 70) rfl (lk_iconst X dL_areQueues_69 (by decide) rfl) ?_
  refine lz_cons (k' := 71) rfl (lk_icmp_ne X dL_areQueues_70 (by decide) rfl) ?_
  refine lz_cons (k' := 72) rfl (lz_Ok_none _ _) ?_
  refine lz_cons (k' := 73) rfl (lz_Ok_none _ _) ?_
  refine lz_cons (k' := 74) rfl (lk_iconst X dL_areQueues_73 (by decide) rfl) ?_
  refine lz_cons (k' := 75) rfl (lk_goto X dL_areQueues_74 (by decide)) ?_
  refine lz_cons (k' := 76) rfl (lz_Ok_none _ _) ?_
  refine lz_cons (k' := 77) rfl (lz_Ok_none _ _) ?_
  refine lz_cons (k' := 78) rfl (lk_iload_n X dL_areQueues_77 rfl rfl) ?_
  refine lz_cons (k' := 79) rfl (lk_bipush X dL_areQueues_78 (by decide) rfl) ?_
  refine lz_cons (k' := 80) rfl (lz_Ok_none _ _) ?_
  refine lz_cons (k' := 81) rfl (lk_icmp_ne X dL_areQueues_80 (by decide) rfl) ?_
  refine lz_cons (k' := 82) rfl (lz_Ok_none _ _) ?_
  refine lz_cons (k' := 83) rfl (lz_Ok_none _ _) ?_
  refine lz_cons (k' := 84) rfl (lk_iconst X dL_areQueues_83 (by decide) rfl) ?_
  refine lz_cons (k' := 85) rfl (lk_goto X dL_areQueues_84 (by decide)) ?_
  refine lz_cons (k' := 86) rfl (lz_Ok_none _ _) ?_
  refine lz_cons (k' := 87) rfl (lz_Ok_none _ _) ?_
  refine lz_cons (k' := 88) rfl (lk_iload_n X dL_areQueues_87 rfl rfl) ?_
  refine lz_cons (k' := 89) rfl (lk_iconst X dL_areQueues_88 (by decide) rfl) ?_
  refine lz_cons (k' := 90) rfl (lk_icmp_ne X dL_areQueues_89 (by decide) rfl) ?_
  refine lz_cons (k' := 91) rfl (lz_Ok_none _ _) ?_
  refine lz_cons (k' := 92) rfl (lz_Ok_none _ _) ?_
  refine lz_cons (k' := 93) rfl (lk_aload_n X dL_areQueues_92 rfl rfl) ?_
  refine lz_cons (k' := 94) rfl (lk_iload X dL_areQueues_93 rfl) ?_
  refine lz_cons (k' := 95) rfl (lz_Ok_none _ _) ?_
  refine lz_cons (k' := 96) rfl (lk_callv X kc_83 (mm_X11_kindOf Wd.1) (by decide) dL_areQueues_95 rfl) ?_
  refine lz_cons (k' := 97) rfl (lz_Ok_none _ _) ?_
  refine lz_cons (k' := 98) rfl (lz_Ok_none _ _) ?_
  refine lz_cons (k' := 99) rfl (lk_goto X dL_areQueues_98 (by decide)) ?_
  refine lz_cons (k' := 100) rfl (lz_Ok_none _ _) ?_
  refine lz_cons (k' := 101) rfl (lz_Ok_none _ _) ?_
  refine lz_cons (k' := 102) rfl (lk_iconst X dL_areQueues_101 (by decide) rfl) ?_
  refine lz_cons (k' := 103) rfl (lk_istore X dL_areQueues_102 (by decide) rfl) ?_
  refine lz_cons (k' := 104) rfl (lz_Ok_none _ _) ?_
  refine lz_cons (k' := 105) rfl (lk_lload X dL_areQueues_104 rfl) ?_
  refine lz_cons (k' := 106) rfl (lz_Ok_none _ _) ?_
  refine lz_cons (k' := 107) rfl (lk_iload X dL_areQueues_106 rfl) ?_
  refine lz_cons (k' := 108) rfl (lz_Ok_none _ _) ?_
  refine lz_cons (k' := 109) rfl (lk_lshr X dL_areQueues_108 rfl) ?_
  refine lz_cons (k' := 110) rfl (lk_lconst X dL_areQueues_109 (by decide) rfl) ?_
  refine lz_cons (k' := 111) rfl (lk_land X dL_areQueues_110 rfl) ?_
  refine lz_cons (k' := 112) rfl (lk_lconst X dL_areQueues_111 (by decide) rfl) ?_
  refine lz_cons (k' := 113) rfl (lk_lcmp X dL_areQueues_112 rfl) ?_
  refine lz_cons (k' := 114) rfl (lk_if_ne X dL_areQueues_113 (by decide) rfl) ?_
  refine lz_cons (k' := 115) rfl (lz_Ok_none _ _) ?_
  refine lz_cons (k' := 116) rfl (lz_Ok_none _ _) ?_
  refine lz_cons (k' := 117) rfl (lk_aload_n X dL_areQueues_116 rfl rfl) ?_
  refine lz_cons (k' := 118) rfl (lk_iload X dL_areQueues_117 rfl) ?_
  refine lz_cons (k' := 119) rfl (lz_Ok_none _ _) ?_
  refine lz_cons (k' := 120) rfl (lk_callv X kc_83 (mm_X11_kindOf Wd.1) (by decide) dL_areQueues_119 rfl) ?_
  refine lz_cons (k' := 121) rfl (lz_Ok_none _ _) ?_
  refine lz_cons (k' := 122) rfl (lz_Ok_none _ _) ?_
  refine lz_cons (k' := 123) rfl (lk_iload X dL_areQueues_122 rfl) ?_
  refine lz_cons (k' := 124) rfl (lz_Ok_none _ _) ?_
  refine lz_cons (k' := 125) rfl (lk_icmp_ne X dL_areQueues_124 (by decide) rfl) ?_
  refine lz_cons (k' := 126) rfl (lz_Ok_none _ _) ?_
  refine lz_cons (k' := 127) rfl (lz_Ok_none _ _) ?_
  refine lz_cons (k' := 128) rfl (lk_iconst X dL_areQueues_127 (by decide) rfl) ?_
  refine lz_cons (k' := 129) rfl (lk_goto X dL_areQueues_128 (by decide)) ?_
  refine lz_cons (k' := 130) rfl (lz_Ok_none _ _) ?_
  refine lz_cons (k' := 131) rfl (lz_Ok_none _ _) ?_
  refine lz_cons (k' := 132) rfl (lk_iconst X dL_areQueues_131 (by decide) rfl) ?_
  refine lz_cons (k' := 133) rfl (lk_istore_n X dL_areQueues_132 rfl (by decide) rfl) ?_
  refine lz_cons (k' := 134) rfl (lk_lload X dL_areQueues_133 rfl) ?_
  refine lz_cons (k' := 135) rfl (lz_Ok_none _ _) ?_
  refine lz_cons (k' := 136) rfl (lk_lconst X dL_areQueues_135 (by decide) rfl) ?_
  refine lz_cons (k' := 137) rfl (lk_iload X dL_areQueues_136 rfl) ?_
  refine lz_cons (k' := 138) rfl (lz_Ok_none _ _) ?_
  refine lz_cons (k' := 139) rfl (lk_lshl X dL_areQueues_138 rfl) ?_
  refine lz_cons (k' := 140) rfl (lk_lor X dL_areQueues_139 rfl) ?_
  refine lz_cons (k' := 141) rfl (lk_lstore X dL_areQueues_140 (by decide) rfl) ?_
  refine lz_cons (k' := 142) rfl (lz_Ok_none _ _) ?_
  refine lz_cons (k' := 143) rfl (lk_iinc X dL_areQueues_142 (by decide) (by decide) rfl) ?_
  refine lz_cons (k' := 144) rfl (lz_Ok_none _ _) ?_
  refine lz_cons (k' := 145) rfl (lz_Ok_none _ _) ?_
  refine lz_cons (k' := 146) rfl (lk_goto X dL_areQueues_145 (by decide)) ?_
  refine lz_cons (k' := 147) rfl (lz_Ok_none _ _) ?_
  refine lz_cons (k' := 148) rfl (lz_Ok_none _ _) ?_
  refine lz_cons (k' := 149) rfl (lk_iload_n X dL_areQueues_148 rfl rfl) ?_
  refine lz_cons (k' := 150) rfl (lk_if_eq X dL_areQueues_149 (by decide) rfl) ?_
  refine lz_cons (k' := 151) rfl (lz_Ok_none _ _) ?_
  refine lz_cons (k' := 152) rfl (lz_Ok_none _ _) ?_
  refine lz_cons (k' := 153) rfl (lk_iload X dL_areQueues_152 rfl) ?_
  refine lz_cons (k' := 154) rfl (lz_Ok_none _ _) ?_
  refine lz_cons (k' := 155) rfl (lk_if_ne X dL_areQueues_154 (by decide) rfl) ?_
  refine lz_cons (k' := 156) rfl (lz_Ok_none _ _) ?_
  refine lz_cons (k' := 157) rfl (lz_Ok_none _ _) ?_
  refine lz_cons (k' := 158) rfl (lk_aload_n X dL_areQueues_157 rfl rfl) ?_
  refine lz_cons (k' := 159) rfl (lk_iload_n X dL_areQueues_158 rfl rfl) ?_
  refine lz_cons (k' := 160) rfl (lk_callv X kc_123 (mm_X11_seen Wd.1) (by decide) dL_areQueues_159 rfl) ?_
  refine lz_cons (k' := 161) rfl (lz_Ok_none _ _) ?_
  refine lz_cons (k' := 162) rfl (lz_Ok_none _ _) ?_
  refine lz_cons (k' := 163) rfl (lk_aload_n X dL_areQueues_162 rfl rfl) ?_
  refine lz_cons (k' := 164) rfl (lk_callv X kc_151 (mm_X11_version Wd.1) (by decide) dL_areQueues_163 rfl) ?_
  refine lz_cons (k' := 165) rfl (lz_Ok_none _ _) ?_
  refine lz_cons (k' := 166) rfl (lz_Ok_none _ _) ?_
  refine lz_cons (k' := 167) rfl (lk_icmp_ne X dL_areQueues_166 (by decide) rfl) ?_
  refine lz_cons (k' := 168) rfl (lz_Ok_none _ _) ?_
  refine lz_cons (k' := 169) rfl (lz_Ok_none _ _) ?_
  refine lz_cons (k' := 170) rfl (lk_iconst X dL_areQueues_169 (by decide) rfl) ?_
  refine lz_cons (k' := 171) rfl (lk_goto X dL_areQueues_170 (by decide)) ?_
  refine lz_cons (k' := 172) rfl (lz_Ok_none _ _) ?_
  refine lz_cons (k' := 173) rfl (lz_Ok_none _ _) ?_
  refine lz_cons (k' := 174) rfl (lk_iconst X dL_areQueues_173 (by decide) rfl) ?_
  refine lz_cons (k' := 175) rfl (lk_istore_n X dL_areQueues_174 rfl (by decide) rfl) ?_
  refine lz_cons (k' := 176) rfl (lk_iload_n X dL_areQueues_175 rfl rfl) ?_
  refine lz_cons (k' := 177) rfl (lk_if_eq X dL_areQueues_176 (by decide) rfl) ?_
  refine lz_cons (k' := 178) rfl (lz_Ok_none _ _) ?_
  refine lz_cons (k' := 179) rfl (lz_Ok_none _ _) ?_
  refine lz_cons (k' := 180) rfl (lk_aload_n X dL_areQueues_179 rfl rfl) ?_
  refine lz_cons (k' := 181) rfl (lk_iload_n X dL_areQueues_180 rfl rfl) ?_
  refine lz_cons (k' := 182) rfl (lk_iload X dL_areQueues_181 rfl) ?_
  refine lz_cons (k' := 183) rfl (lz_Ok_none _ _) ?_
  refine lz_cons (k' := 184) rfl (lk_iconst X dL_areQueues_183 (by decide) rfl) ?_
  refine lz_cons (k' := 185) rfl (lk_iadd X dL_areQueues_184 rfl) ?_
  refine lz_cons (k' := 186) rfl (lk_callv X kc_126 (mm_X11_queued Wd.1) (by decide) dL_areQueues_185 rfl) ?_
  refine lz_cons (k' := 187) rfl (lz_Ok_none _ _) ?_
  refine lz_cons (k' := 188) rfl (lz_Ok_none _ _) ?_
  refine lz_cons (k' := 189) rfl (lk_iconst X dL_areQueues_188 (by decide) rfl) ?_
  refine lz_cons (k' := 190) rfl (lk_icmp_ne X dL_areQueues_189 (by decide) rfl) ?_
  refine lz_cons (k' := 191) rfl (lz_Ok_none _ _) ?_
  refine lz_cons (k' := 192) rfl (lz_Ok_none _ _) ?_
  refine lz_cons (k' := 193) rfl (lk_aload_n X dL_areQueues_192 rfl rfl) ?_
  refine lz_cons (k' := 194) rfl (lk_iload_n X dL_areQueues_193 rfl rfl) ?_
  refine lz_cons (k' := 195) rfl (lk_callv X kc_123 (mm_X11_seen Wd.1) (by decide) dL_areQueues_194 rfl) ?_
  refine lz_cons (k' := 196) rfl (lz_Ok_none _ _) ?_
  refine lz_cons (k' := 197) rfl (lz_Ok_none _ _) ?_
  refine lz_cons (k' := 198) rfl (lk_if_lt X dL_areQueues_197 (by decide) rfl) ?_
  refine lz_cons (k' := 199) rfl (lz_Ok_none _ _) ?_
  refine lz_cons (k' := 200) rfl (lz_Ok_none _ _) ?_
  refine lz_cons (k' := 201) rfl (lk_aload_n X dL_areQueues_200 rfl rfl) ?_
  refine lz_cons (k' := 202) rfl (lk_iload_n X dL_areQueues_201 rfl rfl) ?_
  refine lz_cons (k' := 203) rfl (lk_callv X kc_123 (mm_X11_seen Wd.1) (by decide) dL_areQueues_202 rfl) ?_
  refine lz_cons (k' := 204) rfl (lz_Ok_none _ _) ?_
  refine lz_cons (k' := 205) rfl (lz_Ok_none _ _) ?_
  refine lz_cons (k' := 206) rfl (lk_aload_n X dL_areQueues_205 rfl rfl) ?_
  refine lz_cons (k' := 207) rfl (lk_callv X kc_151 (mm_X11_version Wd.1) (by decide) dL_areQueues_206 rfl) ?_
  refine lz_cons (k' := 208) rfl (lz_Ok_none _ _) ?_
  refine lz_cons (k' := 209) rfl (lz_Ok_none _ _) ?_
  refine lz_cons (k' := 210) rfl (lk_icmp_gt X dL_areQueues_209 (by decide) rfl) ?_
  refine lz_cons (k' := 211) rfl (lz_Ok_none _ _) ?_
  refine lz_cons (k' := 212) rfl (lz_Ok_none _ _) ?_
  refine lz_cons (k' := 213) rfl (lk_iconst X dL_areQueues_212 (by decide) rfl) ?_
  refine lz_cons (k' := 214) rfl (lk_goto X dL_areQueues_213 (by decide)) ?_
  refine lz_cons (k' := 215) rfl (lz_Ok_none _ _) ?_
  refine lz_cons (k' := 216) rfl (lz_Ok_none _ _) ?_
  refine lz_cons (k' := 217) rfl (lk_iconst X dL_areQueues_216 (by decide) rfl) ?_
  refine lz_cons (k' := 218) rfl (lk_istore_n X dL_areQueues_217 rfl (by decide) rfl) ?_
  refine lz_cons (k' := 219) rfl (lk_iconst X dL_areQueues_218 (by decide) rfl) ?_
  refine lz_cons (k' := 220) rfl (lk_istore X dL_areQueues_219 (by decide) rfl) ?_
  refine lz_cons (k' := 221) rfl (lz_Ok_none _ _) ?_
  refine lz_cons (k' := 222) rfl (lk_iload X dL_areQueues_221 rfl) ?_
  refine lz_cons (k' := 223) rfl (lz_Ok_none _ _) ?_
  refine lz_cons (k' := 224) rfl (lk_aload_n X dL_areQueues_223 rfl rfl) ?_
  refine lz_cons (k' := 225) rfl (lk_callv X kc_155 (mm_X11_objects Wd.1) (by decide) dL_areQueues_224 rfl) ?_
  refine lz_cons (k' := 226) rfl (lz_Ok_none _ _) ?_
  refine lz_cons (k' := 227) rfl (lz_Ok_none _ _) ?_
  refine lz_cons (k' := 228) rfl (lk_icmp_ge X dL_areQueues_227 (by decide) rfl) ?_
  refine lz_cons (k' := 229) rfl (lz_Ok_none _ _) ?_
  refine lz_cons (k' := 230) rfl (lz_Ok_none _ _) ?_
  refine lz_cons (k' := 231) rfl (lk_iload_n X dL_areQueues_230 rfl rfl) ?_
  refine lz_cons (k' := 232) rfl (lk_if_eq X dL_areQueues_231 (by decide) rfl) ?_
  refine lz_cons (k' := 233) rfl (lz_Ok_none _ _) ?_
  refine lz_cons (k' := 234) rfl (lz_Ok_none _ _) ?_
  refine lz_cons (k' := 235) rfl (lk_aload_n X dL_areQueues_234 rfl rfl) ?_
  refine lz_cons (k' := 236) rfl (lk_iload_n X dL_areQueues_235 rfl rfl) ?_
  refine lz_cons (k' := 237) rfl (lk_iload X dL_areQueues_236 rfl) ?_
  refine lz_cons (k' := 238) rfl (lz_Ok_none _ _) ?_
  refine lz_cons (k' := 239) rfl (lk_callv X kc_129 (mm_X11_failures Wd.1) (by decide) dL_areQueues_238 rfl) ?_
  refine lz_cons (k' := 240) rfl (lz_Ok_none _ _) ?_
  refine lz_cons (k' := 241) rfl (lz_Ok_none _ _) ?_
  refine lz_cons (k' := 242) rfl (lk_if_lt X dL_areQueues_241 (by decide) rfl) ?_
  refine lz_cons (k' := 243) rfl (lz_Ok_none _ _) ?_
  refine lz_cons (k' := 244) rfl (lz_Ok_none _ _) ?_
  refine lz_cons (k' := 245) rfl (lk_aload_n X dL_areQueues_244 rfl rfl) ?_
  refine lz_cons (k' := 246) rfl (lk_iload_n X dL_areQueues_245 rfl rfl) ?_
  refine lz_cons (k' := 247) rfl (lk_iload X dL_areQueues_246 rfl) ?_
  refine lz_cons (k' := 248) rfl (lz_Ok_none _ _) ?_
  refine lz_cons (k' := 249) rfl (lk_callv X kc_129 (mm_X11_failures Wd.1) (by decide) dL_areQueues_248 rfl) ?_
  refine lz_cons (k' := 250) rfl (lz_Ok_none _ _) ?_
  refine lz_cons (k' := 251) rfl (lz_Ok_none _ _) ?_
  refine lz_cons (k' := 252) rfl (lk_if_eq X dL_areQueues_251 (by decide) rfl) ?_
  refine lz_cons (k' := 253) rfl (lz_Ok_none _ _) ?_
  refine lz_cons (k' := 254) rfl (lz_Ok_none _ _) ?_
  refine lz_cons (k' := 255) rfl (lk_lload X dL_areQueues_254 rfl) ?_
  refine lz_cons (k' := 256) rfl (lz_Ok_none _ _) ?_
  refine lz_cons (k' := 257) rfl (lk_iload X dL_areQueues_256 rfl) ?_
  refine lz_cons (k' := 258) rfl (lz_Ok_none _ _) ?_
  refine lz_cons (k' := 259) rfl (lk_lshr X dL_areQueues_258 rfl) ?_
  refine lz_cons (k' := 260) rfl (lk_lconst X dL_areQueues_259 (by decide) rfl) ?_
  refine lz_cons (k' := 261) rfl (lk_land X dL_areQueues_260 rfl) ?_
  refine lz_cons (k' := 262) rfl (lk_lconst X dL_areQueues_261 (by decide) rfl) ?_
  refine lz_cons (k' := 263) rfl (lk_lcmp X dL_areQueues_262 rfl) ?_
  refine lz_cons (k' := 264) rfl (lk_if_ne X dL_areQueues_263 (by decide) rfl) ?_
  refine lz_cons (k' := 265) rfl (lz_Ok_none _ _) ?_
  refine lz_cons (k' := 266) rfl (lz_Ok_none _ _) ?_
  refine lz_cons (k' := 267) rfl (lk_iconst X dL_areQueues_266 (by decide) rfl) ?_
  refine lz_cons (k' := 268) rfl (lk_goto X dL_areQueues_267 (by decide)) ?_
  refine lz_cons (k' := 269) rfl (lz_Ok_none _ _) ?_
  refine lz_cons (k' := 270) rfl (lz_Ok_none _ _) ?_
  refine lz_cons (k' := 271) rfl (lk_iconst X dL_areQueues_270 (by decide) rfl) ?_
  refine lz_cons (k' := 272) rfl (lk_istore_n X dL_areQueues_271 rfl (by decide) rfl) ?_
  refine lz_cons (k' := 273) rfl (lk_iinc X dL_areQueues_272 (by decide) (by decide) rfl) ?_
  refine lz_cons (k' := 274) rfl (lz_Ok_none _ _) ?_
  refine lz_cons (k' := 275) rfl (lz_Ok_none _ _) ?_
  refine lz_cons (k' := 276) rfl (lk_goto X dL_areQueues_275 (by decide)) ?_
  refine lz_cons (k' := 277) rfl (lz_Ok_none _ _) ?_
  refine lz_cons (k' := 278) rfl (lz_Ok_none _ _) ?_
  refine lz_cons (k' := 279) rfl (lk_iinc X dL_areQueues_278 (by decide) (by decide) rfl) ?_
  refine lz_cons (k' := 280) rfl (lz_Ok_none _ _) ?_
  refine lz_cons (k' := 281) rfl (lz_Ok_none _ _) ?_
  refine lz_cons (k' := 282) rfl (lk_goto X dL_areQueues_281 (by decide)) ?_
  refine lz_cons (k' := 283) rfl (lz_Ok_none _ _) ?_
  refine lz_cons (k' := 284) rfl (lz_Ok_none _ _) ?_
  refine lz_cons (k' := 285) rfl (lk_iload_n X dL_areQueues_284 rfl rfl) ?_
  refine lz_cons (k' := 286) rfl (lk_if_eq X dL_areQueues_285 (by decide) rfl) ?_
  refine lz_cons (k' := 287) rfl (lz_Ok_none _ _) ?_
  refine lz_cons (k' := 288) rfl (lz_Ok_none _ _) ?_
  refine lz_cons (k' := 289) rfl (lk_aload_n X dL_areQueues_288 rfl rfl) ?_
  refine lz_cons (k' := 290) rfl (lk_callv X kc_164 (mm_X11_isSettled Wd.1) (by decide) dL_areQueues_289 rfl) ?_
  refine lz_cons (k' := 291) rfl (lz_Ok_none _ _) ?_
  refine lz_cons (k' := 292) rfl (lz_Ok_none _ _) ?_
  refine lz_cons (k' := 293) rfl (lk_iload_n X dL_areQueues_292 rfl rfl) ?_
  refine lz_cons (k' := 294) rfl (lk_icmp_ne X dL_areQueues_293 (by decide) rfl) ?_
  refine lz_cons (k' := 295) rfl (lz_Ok_none _ _) ?_
  refine lz_cons (k' := 296) rfl (lz_Ok_none _ _) ?_
  refine lz_cons (k' := 297) rfl (lk_iconst X dL_areQueues_296 (by decide) rfl) ?_
  refine lz_cons (k' := 298) rfl (lk_goto X dL_areQueues_297 (by decide)) ?_
  refine lz_cons (k' := 299) rfl (lz_Ok_none _ _) ?_
  refine lz_cons (k' := 300) rfl (lz_Ok_none _ _) ?_
  refine lz_cons (k' := 301) rfl (lk_iconst X dL_areQueues_300 (by decide) rfl) ?_
  refine lz_cons (k' := 302) rfl (lk_iret X rfl dL_areQueues_301) ?_
  exact trivial
end

section
noncomputable def tL_dice (sc : List Int32) : List lzOp := [
  lo_iload 1 1,
  lo_aload 0 2,
  lo_alen (zzSTC ++ [sc]) 3,
  lo_icmp (fun x y => decide (y ≤ x)) 12 6,
  lo_none,
  lo_none,
  lo_aload 0 7,
  lo_iload 1 8,
  lo_iald zzSC (zzSTC ++ [sc]) 9,
  lo_goto 32,
  lo_none,
  lo_none,
  lo_pushI (953160567) 14,
  lo_none,
  lo_iload 1 15,
  lo_pushI 337 18,
  lo_none,
  lo_none,
  lo_ii (fun x y => x + y) 19,
  lo_ii (fun x y => x * y) 20,
  lo_pushI 729 23,
  lo_none,
  lo_none,
  lo_iload 1 24,
  lo_ii (fun x y => x * y) 25,
  lo_iload 1 26,
  lo_ii (fun x y => x * y) 27,
  lo_ii (fun x y => x + y) 28,
  lo_pushI 229 31,
  lo_none,
  lo_none,
  lo_ii (fun x y => x + y) 32,
  lo_pushI (2147483647) 34,
  lo_none,
  lo_ii (fun x y => x &&& y) 35,
  lo_iret 0 false]
set_option maxRecDepth 100000 in
theorem tl_L_dice (sc : List Int32) : ∀ pc, lz_Tl ((tL_dice sc).getD pc lo_none) := by
  refine lz_Tl_mem ?_
  unfold tL_dice
  refine List.forall_mem_cons.mpr ⟨(lo_iload_tl _ _), ?_⟩
  refine List.forall_mem_cons.mpr ⟨(lo_aload_tl _ _), ?_⟩
  refine List.forall_mem_cons.mpr ⟨(lo_alen_tl _ _), ?_⟩
  refine List.forall_mem_cons.mpr ⟨(lo_icmp_tl _ _ _), ?_⟩
  refine List.forall_mem_cons.mpr ⟨lo_none_tl, ?_⟩
  refine List.forall_mem_cons.mpr ⟨lo_none_tl, ?_⟩
  refine List.forall_mem_cons.mpr ⟨(lo_aload_tl _ _), ?_⟩
  refine List.forall_mem_cons.mpr ⟨(lo_iload_tl _ _), ?_⟩
  refine List.forall_mem_cons.mpr ⟨(lo_iald_tl _ _ _), ?_⟩
  refine List.forall_mem_cons.mpr ⟨(lo_goto_tl _), ?_⟩
  refine List.forall_mem_cons.mpr ⟨lo_none_tl, ?_⟩
  refine List.forall_mem_cons.mpr ⟨lo_none_tl, ?_⟩
  refine List.forall_mem_cons.mpr ⟨(lo_pushI_tl _ _), ?_⟩
  refine List.forall_mem_cons.mpr ⟨lo_none_tl, ?_⟩
  refine List.forall_mem_cons.mpr ⟨(lo_iload_tl _ _), ?_⟩
  refine List.forall_mem_cons.mpr ⟨(lo_pushI_tl _ _), ?_⟩
  refine List.forall_mem_cons.mpr ⟨lo_none_tl, ?_⟩
  refine List.forall_mem_cons.mpr ⟨lo_none_tl, ?_⟩
  refine List.forall_mem_cons.mpr ⟨(lo_ii_tl _ _), ?_⟩
  refine List.forall_mem_cons.mpr ⟨(lo_ii_tl _ _), ?_⟩
  refine List.forall_mem_cons.mpr ⟨(lo_pushI_tl _ _), ?_⟩
  refine List.forall_mem_cons.mpr ⟨lo_none_tl, ?_⟩
  refine List.forall_mem_cons.mpr ⟨lo_none_tl, ?_⟩
  refine List.forall_mem_cons.mpr ⟨(lo_iload_tl _ _), ?_⟩
  refine List.forall_mem_cons.mpr ⟨(lo_ii_tl _ _), ?_⟩
  refine List.forall_mem_cons.mpr ⟨(lo_iload_tl _ _), ?_⟩
  refine List.forall_mem_cons.mpr ⟨(lo_ii_tl _ _), ?_⟩
  refine List.forall_mem_cons.mpr ⟨(lo_ii_tl _ _), ?_⟩
  refine List.forall_mem_cons.mpr ⟨(lo_pushI_tl _ _), ?_⟩
  refine List.forall_mem_cons.mpr ⟨lo_none_tl, ?_⟩
  refine List.forall_mem_cons.mpr ⟨lo_none_tl, ?_⟩
  refine List.forall_mem_cons.mpr ⟨(lo_ii_tl _ _), ?_⟩
  refine List.forall_mem_cons.mpr ⟨(lo_pushI_tl _ _), ?_⟩
  refine List.forall_mem_cons.mpr ⟨lo_none_tl, ?_⟩
  refine List.forall_mem_cons.mpr ⟨(lo_ii_tl _ _), ?_⟩
  refine List.forall_mem_cons.mpr ⟨(lo_iret_tl _ _), ?_⟩
  exact fun _ h => absurd h List.not_mem_nil
noncomputable def fL_dice (sc : List Int32) : lzFn := lz_fn (tL_dice sc) 2
set_option maxRecDepth 100000 in
set_option maxHeartbeats 4000000 in
theorem mm_L_dice {l : Launch} {D : va_G} {cA : Nat → ClassId} {ad : Nat → Nat} {Ex : (Nat → Prop) → State → Heap → Prop} {sc : List Int32} (Wd : lzWd l D cA ad Ex sc) : lz_C l D zzCl cA ad zzSC Ex yL_dice (Cond.code yL_dice cL_dice 2 (some .int)) 0 0 0 (fL_dice sc) := by
  refine lz_meth (plainFor_of_name (by decide)) Wd.1.2.1 Wd.1.2.2.1 (fun p e R s m args below meth c rr X => ?_)
  unfold tL_dice
  refine lz_cons (k' := 1) rfl (lk_iload_n X dL_dice_0 rfl rfl) ?_
  refine lz_cons (k' := 2) rfl (lk_aload_n X dL_dice_1 rfl rfl) ?_
  refine lz_cons (k' := 3) rfl (lk_alen X Wd.2.2 dL_dice_2 rfl) ?_
  refine lz_cons (k' := 4) rfl (lk_icmp_ge X dL_dice_3 (by decide) rfl) ?_
  refine lz_cons (k' := 5) rfl (lz_Ok_none _ _) ?_
  refine lz_cons (k' := 6) rfl (lz_Ok_none _ _) ?_
  refine lz_cons (k' := 7) rfl (lk_aload_n X dL_dice_6 rfl rfl) ?_
  refine lz_cons (k' := 8) rfl (lk_iload_n X dL_dice_7 rfl rfl) ?_
  refine lz_cons (k' := 9) rfl (lk_iald X Wd.2.2 dL_dice_8 rfl) ?_
  refine lz_cons (k' := 10) rfl (lk_goto X dL_dice_9 (by decide)) ?_
  refine lz_cons (k' := 11) rfl (lz_Ok_none _ _) ?_
  refine lz_cons (k' := 12) rfl (lz_Ok_none _ _) ?_
  refine lz_cons (k' := 13) rfl (lk_ldc X (zz_at 546 (by decide +kernel)) dL_dice_12 rfl) ?_
  refine lz_cons (k' := 14) rfl (lz_Ok_none _ _) ?_
  refine lz_cons (k' := 15) rfl (lk_iload_n X dL_dice_14 rfl rfl) ?_
  refine lz_cons (k' := 16) rfl (lk_sipush X dL_dice_15 (by decide) rfl) ?_
  refine lz_cons (k' := 17) rfl (lz_Ok_none _ _) ?_
  refine lz_cons (k' := 18) rfl (lz_Ok_none _ _) ?_
  refine lz_cons (k' := 19) rfl (lk_iadd X dL_dice_18 rfl) ?_
  refine lz_cons (k' := 20) rfl (lk_imul X dL_dice_19 rfl) ?_
  refine lz_cons (k' := 21) rfl (lk_sipush X dL_dice_20 (by decide) rfl) ?_
  refine lz_cons (k' := 22) rfl (lz_Ok_none _ _) ?_
  refine lz_cons (k' := 23) rfl (lz_Ok_none _ _) ?_
  refine lz_cons (k' := 24) rfl (lk_iload_n X dL_dice_23 rfl rfl) ?_
  refine lz_cons (k' := 25) rfl (lk_imul X dL_dice_24 rfl) ?_
  refine lz_cons (k' := 26) rfl (lk_iload_n X dL_dice_25 rfl rfl) ?_
  refine lz_cons (k' := 27) rfl (lk_imul X dL_dice_26 rfl) ?_
  refine lz_cons (k' := 28) rfl (lk_iadd X dL_dice_27 rfl) ?_
  refine lz_cons (k' := 29) rfl (lk_sipush X dL_dice_28 (by decide) rfl) ?_
  refine lz_cons (k' := 30) rfl (lz_Ok_none _ _) ?_
  refine lz_cons (k' := 31) rfl (lz_Ok_none _ _) ?_
  refine lz_cons (k' := 32) rfl (lk_iadd X dL_dice_31 rfl) ?_
  refine lz_cons (k' := 33) rfl (lk_ldc X (zz_at 547 (by decide +kernel)) dL_dice_32 rfl) ?_
  refine lz_cons (k' := 34) rfl (lz_Ok_none _ _) ?_
  refine lz_cons (k' := 35) rfl (lk_iand X dL_dice_34 rfl) ?_
  refine lz_cons (k' := 36) rfl (lk_iret X rfl dL_dice_35) ?_
  exact trivial
noncomputable def tL_act : List lzOp := [
  lo_iload 1 1,
  lo_if (fun x => decide (¬ x = 0)) 13 4,
  lo_none,
  lo_none,
  lo_aload 0 5,
  lo_iload 2 6,
  lo_iload 3 7,
  lo_callh fX11_make hcA 2 1 10,
  lo_none,
  lo_none,
  lo_goto 335,
  lo_none,
  lo_none,
  lo_iload 1 14,
  lo_pushI 1 15,
  lo_icmp (fun x y => decide (¬ x = y)) 44 18,
  lo_none,
  lo_none,
  lo_aload 0 19,
  lo_iload 2 20,
  lo_iload 3 21,
  lo_iload 4 23,
  lo_none,
  lo_iload 5 25,
  lo_none,
  lo_iload 6 27,
  lo_none,
  lo_iload 7 29,
  lo_none,
  lo_pushI 1 30,
  lo_icmp (fun x y => decide (¬ x = y)) 37 33,
  lo_none,
  lo_none,
  lo_pushI 1 34,
  lo_goto 38,
  lo_none,
  lo_none,
  lo_pushI 0 38,
  lo_callh fX11_apply hcA 6 1 41,
  lo_none,
  lo_none,
  lo_goto 335,
  lo_none,
  lo_none,
  lo_iload 1 45,
  lo_pushI 2 46,
  lo_icmp (fun x y => decide (¬ x = y)) 71 49,
  lo_none,
  lo_none,
  lo_aload 0 50,
  lo_iload 2 51,
  lo_iload 3 52,
  lo_iload 4 54,
  lo_none,
  lo_iload 5 56,
  lo_none,
  lo_pushI 1 57,
  lo_icmp (fun x y => decide (¬ x = y)) 64 60,
  lo_none,
  lo_none,
  lo_pushI 1 61,
  lo_goto 65,
  lo_none,
  lo_none,
  lo_pushI 0 65,
  lo_callh fX11_applyBudget hcA 4 1 68,
  lo_none,
  lo_none,
  lo_goto 335,
  lo_none,
  lo_none,
  lo_iload 1 72,
  lo_pushI 3 73,
  lo_icmp (fun x y => decide (¬ x = y)) 85 76,
  lo_none,
  lo_none,
  lo_aload 0 77,
  lo_iload 2 78,
  lo_iload 3 79,
  lo_callh fX11_delete hcA 2 1 82,
  lo_none,
  lo_none,
  lo_goto 335,
  lo_none,
  lo_none,
  lo_iload 1 86,
  lo_pushI 4 87,
  lo_icmp (fun x y => decide (¬ x = y)) 116 90,
  lo_none,
  lo_none,
  lo_aload 0 91,
  lo_iload 2 92,
  lo_iload 3 93,
  lo_pushI 1 94,
  lo_icmp (fun x y => decide (¬ x = y)) 101 97,
  lo_none,
  lo_none,
  lo_pushI 1 98,
  lo_goto 102,
  lo_none,
  lo_none,
  lo_pushI 0 102,
  lo_callh fX11_hold hcA 2 1 105,
  lo_none,
  lo_none,
  lo_if (fun x => decide (x = 0)) 112 108,
  lo_none,
  lo_none,
  lo_pushI 1 109,
  lo_goto 335,
  lo_none,
  lo_none,
  lo_pushI 0 113,
  lo_goto 335,
  lo_none,
  lo_none,
  lo_iload 1 117,
  lo_pushI 5 118,
  lo_icmp (fun x y => decide (¬ x = y)) 139 121,
  lo_none,
  lo_none,
  lo_aload 0 122,
  lo_iload 2 123,
  lo_iload 3 124,
  lo_pushI 1 125,
  lo_icmp (fun x y => decide (¬ x = y)) 132 128,
  lo_none,
  lo_none,
  lo_pushI 1 129,
  lo_goto 133,
  lo_none,
  lo_none,
  lo_pushI 0 133,
  lo_callh fX11_finish hcA 2 1 136,
  lo_none,
  lo_none,
  lo_goto 335,
  lo_none,
  lo_none,
  lo_iload 1 140,
  lo_pushI 6 142,
  lo_none,
  lo_icmp (fun x y => decide (¬ x = y)) 162 145,
  lo_none,
  lo_none,
  lo_aload 0 146,
  lo_iload 2 147,
  lo_iload 3 148,
  lo_iload 4 150,
  lo_none,
  lo_iload 5 152,
  lo_none,
  lo_iload 6 154,
  lo_none,
  lo_iload 7 156,
  lo_none,
  lo_callh fX11_rule hcA 6 1 159,
  lo_none,
  lo_none,
  lo_goto 335,
  lo_none,
  lo_none,
  lo_iload 1 163,
  lo_pushI 7 165,
  lo_none,
  lo_icmp (fun x y => decide (¬ x = y)) 179 168,
  lo_none,
  lo_none,
  lo_aload 0 169,
  lo_iload 2 170,
  lo_iload 3 171,
  lo_iload 4 173,
  lo_none,
  lo_callh fX11_check hcA 3 1 176,
  lo_none,
  lo_none,
  lo_goto 335,
  lo_none,
  lo_none,
  lo_iload 1 180,
  lo_pushI 8 182,
  lo_none,
  lo_icmp (fun x y => decide (¬ x = y)) 193 185,
  lo_none,
  lo_none,
  lo_aload 0 186,
  lo_iload 2 187,
  lo_callh fX11_quota hcA 1 1 190,
  lo_none,
  lo_none,
  lo_goto 335,
  lo_none,
  lo_none,
  lo_iload 1 194,
  lo_pushI 9 196,
  lo_none,
  lo_icmp (fun x y => decide (¬ x = y)) 208 199,
  lo_none,
  lo_none,
  lo_aload 0 200,
  lo_iload 2 201,
  lo_iload 3 202,
  lo_callh fX11_see hcA 2 1 205,
  lo_none,
  lo_none,
  lo_goto 335,
  lo_none,
  lo_none,
  lo_iload 1 209,
  lo_pushI 10 211,
  lo_none,
  lo_icmp (fun x y => decide (¬ x = y)) 222 214,
  lo_none,
  lo_none,
  lo_aload 0 215,
  lo_iload 2 216,
  lo_callh fX11_work hcA 1 1 219,
  lo_none,
  lo_none,
  lo_goto 335,
  lo_none,
  lo_none,
  lo_iload 1 223,
  lo_pushI 11 225,
  lo_none,
  lo_icmp (fun x y => decide (¬ x = y)) 236 228,
  lo_none,
  lo_none,
  lo_aload 0 229,
  lo_iload 2 230,
  lo_callh fX11_turn hcA 1 1 233,
  lo_none,
  lo_none,
  lo_goto 335,
  lo_none,
  lo_none,
  lo_iload 1 237,
  lo_pushI 12 239,
  lo_none,
  lo_icmp (fun x y => decide (¬ x = y)) 251 242,
  lo_none,
  lo_none,
  lo_aload 0 243,
  lo_iload 2 244,
  lo_iload 3 245,
  lo_callh fX11_watch hcA 2 1 248,
  lo_none,
  lo_none,
  lo_goto 335,
  lo_none,
  lo_none,
  lo_iload 1 252,
  lo_pushI 13 254,
  lo_none,
  lo_icmp (fun x y => decide (¬ x = y)) 265 257,
  lo_none,
  lo_none,
  lo_aload 0 258,
  lo_iload 2 259,
  lo_callh fX11_next hcA 1 1 262,
  lo_none,
  lo_none,
  lo_goto 335,
  lo_none,
  lo_none,
  lo_iload 1 266,
  lo_pushI 14 268,
  lo_none,
  lo_icmp (fun x y => decide (¬ x = y)) 279 271,
  lo_none,
  lo_none,
  lo_aload 0 272,
  lo_iload 2 273,
  lo_callh fX11_compact hcA 1 1 276,
  lo_none,
  lo_none,
  lo_goto 335,
  lo_none,
  lo_none,
  lo_iload 1 280,
  lo_pushI 15 282,
  lo_none,
  lo_icmp (fun x y => decide (¬ x = y)) 293 285,
  lo_none,
  lo_none,
  lo_aload 0 286,
  lo_iload 2 287,
  lo_callh fX11_tick hcA 1 1 290,
  lo_none,
  lo_none,
  lo_goto 335,
  lo_none,
  lo_none,
  lo_iload 1 294,
  lo_pushI 16 296,
  lo_none,
  lo_icmp (fun x y => decide (¬ x = y)) 315 299,
  lo_none,
  lo_none,
  lo_aload 0 300,
  lo_iload 2 301,
  lo_callh fX11_beat hcA 1 1 304,
  lo_none,
  lo_none,
  lo_if (fun x => decide (x = 0)) 311 307,
  lo_none,
  lo_none,
  lo_pushI 1 308,
  lo_goto 335,
  lo_none,
  lo_none,
  lo_pushI 0 312,
  lo_goto 335,
  lo_none,
  lo_none,
  lo_iload 1 316,
  lo_pushI 17 318,
  lo_none,
  lo_icmp (fun x y => decide (¬ x = y)) 330 321,
  lo_none,
  lo_none,
  lo_aload 0 322,
  lo_iload 2 323,
  lo_iload 3 324,
  lo_callh fX11_wish hcA 2 1 327,
  lo_none,
  lo_none,
  lo_goto 335,
  lo_none,
  lo_none,
  lo_aload 0 331,
  lo_iload 2 332,
  lo_callh fX11_list hcA 1 1 335,
  lo_none,
  lo_none,
  lo_iret 1 false,
  lo_none,
  lo_none,
  lo_none,
  lo_none,
  lo_none,
  lo_none,
  lo_none,
  lo_none,
  lo_none,
  lo_none,
  lo_none,
  lo_none,
  lo_none,
  lo_none,
  lo_none,
  lo_none,
  lo_none,
  lo_none]
set_option maxRecDepth 100000 in
theorem tl_L_act : ∀ pc, lz_Tl (tL_act.getD pc lo_none) := by
  refine lz_Tl_mem ?_
  unfold tL_act
  refine List.forall_mem_cons.mpr ⟨(lo_iload_tl _ _), ?_⟩
  refine List.forall_mem_cons.mpr ⟨(lo_if_tl _ _ _), ?_⟩
  refine List.forall_mem_cons.mpr ⟨lo_none_tl, ?_⟩
  refine List.forall_mem_cons.mpr ⟨lo_none_tl, ?_⟩
  refine List.forall_mem_cons.mpr ⟨(lo_aload_tl _ _), ?_⟩
  refine List.forall_mem_cons.mpr ⟨(lo_iload_tl _ _), ?_⟩
  refine List.forall_mem_cons.mpr ⟨(lo_iload_tl _ _), ?_⟩
  refine List.forall_mem_cons.mpr ⟨(lo_callh_tl _ _ _ _ _), ?_⟩
  refine List.forall_mem_cons.mpr ⟨lo_none_tl, ?_⟩
  refine List.forall_mem_cons.mpr ⟨lo_none_tl, ?_⟩
  refine List.forall_mem_cons.mpr ⟨(lo_goto_tl _), ?_⟩
  refine List.forall_mem_cons.mpr ⟨lo_none_tl, ?_⟩
  refine List.forall_mem_cons.mpr ⟨lo_none_tl, ?_⟩
  refine List.forall_mem_cons.mpr ⟨(lo_iload_tl _ _), ?_⟩
  refine List.forall_mem_cons.mpr ⟨(lo_pushI_tl _ _), ?_⟩
  refine List.forall_mem_cons.mpr ⟨(lo_icmp_tl _ _ _), ?_⟩
  refine List.forall_mem_cons.mpr ⟨lo_none_tl, ?_⟩
  refine List.forall_mem_cons.mpr ⟨lo_none_tl, ?_⟩
  refine List.forall_mem_cons.mpr ⟨(lo_aload_tl _ _), ?_⟩
  refine List.forall_mem_cons.mpr ⟨(lo_iload_tl _ _), ?_⟩
  refine List.forall_mem_cons.mpr ⟨(lo_iload_tl _ _), ?_⟩
  refine List.forall_mem_cons.mpr ⟨(lo_iload_tl _ _), ?_⟩
  refine List.forall_mem_cons.mpr ⟨lo_none_tl, ?_⟩
  refine List.forall_mem_cons.mpr ⟨(lo_iload_tl _ _), ?_⟩
  refine List.forall_mem_cons.mpr ⟨lo_none_tl, ?_⟩
  refine List.forall_mem_cons.mpr ⟨(lo_iload_tl _ _), ?_⟩
  refine List.forall_mem_cons.mpr ⟨lo_none_tl, ?_⟩
  refine List.forall_mem_cons.mpr ⟨(lo_iload_tl _ _), ?_⟩
  refine List.forall_mem_cons.mpr ⟨lo_none_tl, ?_⟩
  refine List.forall_mem_cons.mpr ⟨(lo_pushI_tl _ _), ?_⟩
  refine List.forall_mem_cons.mpr ⟨(lo_icmp_tl _ _ _), ?_⟩
  refine List.forall_mem_cons.mpr ⟨lo_none_tl, ?_⟩
  refine List.forall_mem_cons.mpr ⟨lo_none_tl, ?_⟩
  refine List.forall_mem_cons.mpr ⟨(lo_pushI_tl _ _), ?_⟩
  refine List.forall_mem_cons.mpr ⟨(lo_goto_tl _), ?_⟩
  refine List.forall_mem_cons.mpr ⟨lo_none_tl, ?_⟩
  refine List.forall_mem_cons.mpr ⟨lo_none_tl, ?_⟩
  refine List.forall_mem_cons.mpr ⟨(lo_pushI_tl _ _), ?_⟩
  refine List.forall_mem_cons.mpr ⟨(lo_callh_tl _ _ _ _ _), ?_⟩
  refine List.forall_mem_cons.mpr ⟨lo_none_tl, ?_⟩
  refine List.forall_mem_cons.mpr ⟨lo_none_tl, ?_⟩
  refine List.forall_mem_cons.mpr ⟨(lo_goto_tl _), ?_⟩
  refine List.forall_mem_cons.mpr ⟨lo_none_tl, ?_⟩
  refine List.forall_mem_cons.mpr ⟨lo_none_tl, ?_⟩
  refine List.forall_mem_cons.mpr ⟨(lo_iload_tl _ _), ?_⟩
  refine List.forall_mem_cons.mpr ⟨(lo_pushI_tl _ _), ?_⟩
  refine List.forall_mem_cons.mpr ⟨(lo_icmp_tl _ _ _), ?_⟩
  refine List.forall_mem_cons.mpr ⟨lo_none_tl, ?_⟩
  refine List.forall_mem_cons.mpr ⟨lo_none_tl, ?_⟩
  refine List.forall_mem_cons.mpr ⟨(lo_aload_tl _ _), ?_⟩
  refine List.forall_mem_cons.mpr ⟨(lo_iload_tl _ _), ?_⟩
  refine List.forall_mem_cons.mpr ⟨(lo_iload_tl _ _), ?_⟩
  refine List.forall_mem_cons.mpr ⟨(lo_iload_tl _ _), ?_⟩
  refine List.forall_mem_cons.mpr ⟨lo_none_tl, ?_⟩
  refine List.forall_mem_cons.mpr ⟨(lo_iload_tl _ _), ?_⟩
  refine List.forall_mem_cons.mpr ⟨lo_none_tl, ?_⟩
  refine List.forall_mem_cons.mpr ⟨(lo_pushI_tl _ _), ?_⟩
  refine List.forall_mem_cons.mpr ⟨(lo_icmp_tl _ _ _), ?_⟩
  refine List.forall_mem_cons.mpr ⟨lo_none_tl, ?_⟩
  refine List.forall_mem_cons.mpr ⟨lo_none_tl, ?_⟩
  refine List.forall_mem_cons.mpr ⟨(lo_pushI_tl _ _), ?_⟩
  refine List.forall_mem_cons.mpr ⟨(lo_goto_tl _), ?_⟩
  refine List.forall_mem_cons.mpr ⟨lo_none_tl, ?_⟩
  refine List.forall_mem_cons.mpr ⟨lo_none_tl, ?_⟩
  refine List.forall_mem_cons.mpr ⟨(lo_pushI_tl _ _), ?_⟩
  refine List.forall_mem_cons.mpr ⟨(lo_callh_tl _ _ _ _ _), ?_⟩
  refine List.forall_mem_cons.mpr ⟨lo_none_tl, ?_⟩
  refine List.forall_mem_cons.mpr ⟨lo_none_tl, ?_⟩
  refine List.forall_mem_cons.mpr ⟨(lo_goto_tl _), ?_⟩
  refine List.forall_mem_cons.mpr ⟨lo_none_tl, ?_⟩
  refine List.forall_mem_cons.mpr ⟨lo_none_tl, ?_⟩
  refine List.forall_mem_cons.mpr ⟨(lo_iload_tl _ _), ?_⟩
  refine List.forall_mem_cons.mpr ⟨(lo_pushI_tl _ _), ?_⟩
  refine List.forall_mem_cons.mpr ⟨(lo_icmp_tl _ _ _), ?_⟩
  refine List.forall_mem_cons.mpr ⟨lo_none_tl, ?_⟩
  refine List.forall_mem_cons.mpr ⟨lo_none_tl, ?_⟩
  refine List.forall_mem_cons.mpr ⟨(lo_aload_tl _ _), ?_⟩
  refine List.forall_mem_cons.mpr ⟨(lo_iload_tl _ _), ?_⟩
  refine List.forall_mem_cons.mpr ⟨(lo_iload_tl _ _), ?_⟩
  refine List.forall_mem_cons.mpr ⟨(lo_callh_tl _ _ _ _ _), ?_⟩
  refine List.forall_mem_cons.mpr ⟨lo_none_tl, ?_⟩
  refine List.forall_mem_cons.mpr ⟨lo_none_tl, ?_⟩
  refine List.forall_mem_cons.mpr ⟨(lo_goto_tl _), ?_⟩
  refine List.forall_mem_cons.mpr ⟨lo_none_tl, ?_⟩
  refine List.forall_mem_cons.mpr ⟨lo_none_tl, ?_⟩
  refine List.forall_mem_cons.mpr ⟨(lo_iload_tl _ _), ?_⟩
  refine List.forall_mem_cons.mpr ⟨(lo_pushI_tl _ _), ?_⟩
  refine List.forall_mem_cons.mpr ⟨(lo_icmp_tl _ _ _), ?_⟩
  refine List.forall_mem_cons.mpr ⟨lo_none_tl, ?_⟩
  refine List.forall_mem_cons.mpr ⟨lo_none_tl, ?_⟩
  refine List.forall_mem_cons.mpr ⟨(lo_aload_tl _ _), ?_⟩
  refine List.forall_mem_cons.mpr ⟨(lo_iload_tl _ _), ?_⟩
  refine List.forall_mem_cons.mpr ⟨(lo_iload_tl _ _), ?_⟩
  refine List.forall_mem_cons.mpr ⟨(lo_pushI_tl _ _), ?_⟩
  refine List.forall_mem_cons.mpr ⟨(lo_icmp_tl _ _ _), ?_⟩
  refine List.forall_mem_cons.mpr ⟨lo_none_tl, ?_⟩
  refine List.forall_mem_cons.mpr ⟨lo_none_tl, ?_⟩
  refine List.forall_mem_cons.mpr ⟨(lo_pushI_tl _ _), ?_⟩
  refine List.forall_mem_cons.mpr ⟨(lo_goto_tl _), ?_⟩
  refine List.forall_mem_cons.mpr ⟨lo_none_tl, ?_⟩
  refine List.forall_mem_cons.mpr ⟨lo_none_tl, ?_⟩
  refine List.forall_mem_cons.mpr ⟨(lo_pushI_tl _ _), ?_⟩
  refine List.forall_mem_cons.mpr ⟨(lo_callh_tl _ _ _ _ _), ?_⟩
  refine List.forall_mem_cons.mpr ⟨lo_none_tl, ?_⟩
  refine List.forall_mem_cons.mpr ⟨lo_none_tl, ?_⟩
  refine List.forall_mem_cons.mpr ⟨(lo_if_tl _ _ _), ?_⟩
  refine List.forall_mem_cons.mpr ⟨lo_none_tl, ?_⟩
  refine List.forall_mem_cons.mpr ⟨lo_none_tl, ?_⟩
  refine List.forall_mem_cons.mpr ⟨(lo_pushI_tl _ _), ?_⟩
  refine List.forall_mem_cons.mpr ⟨(lo_goto_tl _), ?_⟩
  refine List.forall_mem_cons.mpr ⟨lo_none_tl, ?_⟩
  refine List.forall_mem_cons.mpr ⟨lo_none_tl, ?_⟩
  refine List.forall_mem_cons.mpr ⟨(lo_pushI_tl _ _), ?_⟩
  refine List.forall_mem_cons.mpr ⟨(lo_goto_tl _), ?_⟩
  refine List.forall_mem_cons.mpr ⟨lo_none_tl, ?_⟩
  refine List.forall_mem_cons.mpr ⟨lo_none_tl, ?_⟩
  refine List.forall_mem_cons.mpr ⟨(lo_iload_tl _ _), ?_⟩
  refine List.forall_mem_cons.mpr ⟨(lo_pushI_tl _ _), ?_⟩
  refine List.forall_mem_cons.mpr ⟨(lo_icmp_tl _ _ _), ?_⟩
  refine List.forall_mem_cons.mpr ⟨lo_none_tl, ?_⟩
  refine List.forall_mem_cons.mpr ⟨lo_none_tl, ?_⟩
  refine List.forall_mem_cons.mpr ⟨(lo_aload_tl _ _), ?_⟩
  refine List.forall_mem_cons.mpr ⟨(lo_iload_tl _ _), ?_⟩
  refine List.forall_mem_cons.mpr ⟨(lo_iload_tl _ _), ?_⟩
  refine List.forall_mem_cons.mpr ⟨(lo_pushI_tl _ _), ?_⟩
  refine List.forall_mem_cons.mpr ⟨(lo_icmp_tl _ _ _), ?_⟩
  refine List.forall_mem_cons.mpr ⟨lo_none_tl, ?_⟩
  refine List.forall_mem_cons.mpr ⟨lo_none_tl, ?_⟩
  refine List.forall_mem_cons.mpr ⟨(lo_pushI_tl _ _), ?_⟩
  refine List.forall_mem_cons.mpr ⟨(lo_goto_tl _), ?_⟩
  refine List.forall_mem_cons.mpr ⟨lo_none_tl, ?_⟩
  refine List.forall_mem_cons.mpr ⟨lo_none_tl, ?_⟩
  refine List.forall_mem_cons.mpr ⟨(lo_pushI_tl _ _), ?_⟩
  refine List.forall_mem_cons.mpr ⟨(lo_callh_tl _ _ _ _ _), ?_⟩
  refine List.forall_mem_cons.mpr ⟨lo_none_tl, ?_⟩
  refine List.forall_mem_cons.mpr ⟨lo_none_tl, ?_⟩
  refine List.forall_mem_cons.mpr ⟨(lo_goto_tl _), ?_⟩
  refine List.forall_mem_cons.mpr ⟨lo_none_tl, ?_⟩
  refine List.forall_mem_cons.mpr ⟨lo_none_tl, ?_⟩
  refine List.forall_mem_cons.mpr ⟨(lo_iload_tl _ _), ?_⟩
  refine List.forall_mem_cons.mpr ⟨(lo_pushI_tl _ _), ?_⟩
  refine List.forall_mem_cons.mpr ⟨lo_none_tl, ?_⟩
  refine List.forall_mem_cons.mpr ⟨(lo_icmp_tl _ _ _), ?_⟩
  refine List.forall_mem_cons.mpr ⟨lo_none_tl, ?_⟩
  refine List.forall_mem_cons.mpr ⟨lo_none_tl, ?_⟩
  refine List.forall_mem_cons.mpr ⟨(lo_aload_tl _ _), ?_⟩
  refine List.forall_mem_cons.mpr ⟨(lo_iload_tl _ _), ?_⟩
  refine List.forall_mem_cons.mpr ⟨(lo_iload_tl _ _), ?_⟩
  refine List.forall_mem_cons.mpr ⟨(lo_iload_tl _ _), ?_⟩
  refine List.forall_mem_cons.mpr ⟨lo_none_tl, ?_⟩
  refine List.forall_mem_cons.mpr ⟨(lo_iload_tl _ _), ?_⟩
  refine List.forall_mem_cons.mpr ⟨lo_none_tl, ?_⟩
  refine List.forall_mem_cons.mpr ⟨(lo_iload_tl _ _), ?_⟩
  refine List.forall_mem_cons.mpr ⟨lo_none_tl, ?_⟩
  refine List.forall_mem_cons.mpr ⟨(lo_iload_tl _ _), ?_⟩
  refine List.forall_mem_cons.mpr ⟨lo_none_tl, ?_⟩
  refine List.forall_mem_cons.mpr ⟨(lo_callh_tl _ _ _ _ _), ?_⟩
  refine List.forall_mem_cons.mpr ⟨lo_none_tl, ?_⟩
  refine List.forall_mem_cons.mpr ⟨lo_none_tl, ?_⟩
  refine List.forall_mem_cons.mpr ⟨(lo_goto_tl _), ?_⟩
  refine List.forall_mem_cons.mpr ⟨lo_none_tl, ?_⟩
  refine List.forall_mem_cons.mpr ⟨lo_none_tl, ?_⟩
  refine List.forall_mem_cons.mpr ⟨(lo_iload_tl _ _), ?_⟩
  refine List.forall_mem_cons.mpr ⟨(lo_pushI_tl _ _), ?_⟩
  refine List.forall_mem_cons.mpr ⟨lo_none_tl, ?_⟩
  refine List.forall_mem_cons.mpr ⟨(lo_icmp_tl _ _ _), ?_⟩
  refine List.forall_mem_cons.mpr ⟨lo_none_tl, ?_⟩
  refine List.forall_mem_cons.mpr ⟨lo_none_tl, ?_⟩
  refine List.forall_mem_cons.mpr ⟨(lo_aload_tl _ _), ?_⟩
  refine List.forall_mem_cons.mpr ⟨(lo_iload_tl _ _), ?_⟩
  refine List.forall_mem_cons.mpr ⟨(lo_iload_tl _ _), ?_⟩
  refine List.forall_mem_cons.mpr ⟨(lo_iload_tl _ _), ?_⟩
  refine List.forall_mem_cons.mpr ⟨lo_none_tl, ?_⟩
  refine List.forall_mem_cons.mpr ⟨(lo_callh_tl _ _ _ _ _), ?_⟩
  refine List.forall_mem_cons.mpr ⟨lo_none_tl, ?_⟩
  refine List.forall_mem_cons.mpr ⟨lo_none_tl, ?_⟩
  refine List.forall_mem_cons.mpr ⟨(lo_goto_tl _), ?_⟩
  refine List.forall_mem_cons.mpr ⟨lo_none_tl, ?_⟩
  refine List.forall_mem_cons.mpr ⟨lo_none_tl, ?_⟩
  refine List.forall_mem_cons.mpr ⟨(lo_iload_tl _ _), ?_⟩
  refine List.forall_mem_cons.mpr ⟨(lo_pushI_tl _ _), ?_⟩
  refine List.forall_mem_cons.mpr ⟨lo_none_tl, ?_⟩
  refine List.forall_mem_cons.mpr ⟨(lo_icmp_tl _ _ _), ?_⟩
  refine List.forall_mem_cons.mpr ⟨lo_none_tl, ?_⟩
  refine List.forall_mem_cons.mpr ⟨lo_none_tl, ?_⟩
  refine List.forall_mem_cons.mpr ⟨(lo_aload_tl _ _), ?_⟩
  refine List.forall_mem_cons.mpr ⟨(lo_iload_tl _ _), ?_⟩
  refine List.forall_mem_cons.mpr ⟨(lo_callh_tl _ _ _ _ _), ?_⟩
  refine List.forall_mem_cons.mpr ⟨lo_none_tl, ?_⟩
  refine List.forall_mem_cons.mpr ⟨lo_none_tl, ?_⟩
  refine List.forall_mem_cons.mpr ⟨(lo_goto_tl _), ?_⟩
  refine List.forall_mem_cons.mpr ⟨lo_none_tl, ?_⟩
  refine List.forall_mem_cons.mpr ⟨lo_none_tl, ?_⟩
  refine List.forall_mem_cons.mpr ⟨(lo_iload_tl _ _), ?_⟩
  refine List.forall_mem_cons.mpr ⟨(lo_pushI_tl _ _), ?_⟩
  refine List.forall_mem_cons.mpr ⟨lo_none_tl, ?_⟩
  refine List.forall_mem_cons.mpr ⟨(lo_icmp_tl _ _ _), ?_⟩
  refine List.forall_mem_cons.mpr ⟨lo_none_tl, ?_⟩
  refine List.forall_mem_cons.mpr ⟨lo_none_tl, ?_⟩
  refine List.forall_mem_cons.mpr ⟨(lo_aload_tl _ _), ?_⟩
  refine List.forall_mem_cons.mpr ⟨(lo_iload_tl _ _), ?_⟩
  refine List.forall_mem_cons.mpr ⟨(lo_iload_tl _ _), ?_⟩
  refine List.forall_mem_cons.mpr ⟨(lo_callh_tl _ _ _ _ _), ?_⟩
  refine List.forall_mem_cons.mpr ⟨lo_none_tl, ?_⟩
  refine List.forall_mem_cons.mpr ⟨lo_none_tl, ?_⟩
  refine List.forall_mem_cons.mpr ⟨(lo_goto_tl _), ?_⟩
  refine List.forall_mem_cons.mpr ⟨lo_none_tl, ?_⟩
  refine List.forall_mem_cons.mpr ⟨lo_none_tl, ?_⟩
  refine List.forall_mem_cons.mpr ⟨(lo_iload_tl _ _), ?_⟩
  refine List.forall_mem_cons.mpr ⟨(lo_pushI_tl _ _), ?_⟩
  refine List.forall_mem_cons.mpr ⟨lo_none_tl, ?_⟩
  refine List.forall_mem_cons.mpr ⟨(lo_icmp_tl _ _ _), ?_⟩
  refine List.forall_mem_cons.mpr ⟨lo_none_tl, ?_⟩
  refine List.forall_mem_cons.mpr ⟨lo_none_tl, ?_⟩
  refine List.forall_mem_cons.mpr ⟨(lo_aload_tl _ _), ?_⟩
  refine List.forall_mem_cons.mpr ⟨(lo_iload_tl _ _), ?_⟩
  refine List.forall_mem_cons.mpr ⟨(lo_callh_tl _ _ _ _ _), ?_⟩
  refine List.forall_mem_cons.mpr ⟨lo_none_tl, ?_⟩
  refine List.forall_mem_cons.mpr ⟨lo_none_tl, ?_⟩
  refine List.forall_mem_cons.mpr ⟨(lo_goto_tl _), ?_⟩
  refine List.forall_mem_cons.mpr ⟨lo_none_tl, ?_⟩
  refine List.forall_mem_cons.mpr ⟨lo_none_tl, ?_⟩
  refine List.forall_mem_cons.mpr ⟨(lo_iload_tl _ _), ?_⟩
  refine List.forall_mem_cons.mpr ⟨(lo_pushI_tl _ _), ?_⟩
  refine List.forall_mem_cons.mpr ⟨lo_none_tl, ?_⟩
  refine List.forall_mem_cons.mpr ⟨(lo_icmp_tl _ _ _), ?_⟩
  refine List.forall_mem_cons.mpr ⟨lo_none_tl, ?_⟩
  refine List.forall_mem_cons.mpr ⟨lo_none_tl, ?_⟩
  refine List.forall_mem_cons.mpr ⟨(lo_aload_tl _ _), ?_⟩
  refine List.forall_mem_cons.mpr ⟨(lo_iload_tl _ _), ?_⟩
  refine List.forall_mem_cons.mpr ⟨(lo_callh_tl _ _ _ _ _), ?_⟩
  refine List.forall_mem_cons.mpr ⟨lo_none_tl, ?_⟩
  refine List.forall_mem_cons.mpr ⟨lo_none_tl, ?_⟩
  refine List.forall_mem_cons.mpr ⟨(lo_goto_tl _), ?_⟩
  refine List.forall_mem_cons.mpr ⟨lo_none_tl, ?_⟩
  refine List.forall_mem_cons.mpr ⟨lo_none_tl, ?_⟩
  refine List.forall_mem_cons.mpr ⟨(lo_iload_tl _ _), ?_⟩
  refine List.forall_mem_cons.mpr ⟨(lo_pushI_tl _ _), ?_⟩
  refine List.forall_mem_cons.mpr ⟨lo_none_tl, ?_⟩
  refine List.forall_mem_cons.mpr ⟨(lo_icmp_tl _ _ _), ?_⟩
  refine List.forall_mem_cons.mpr ⟨lo_none_tl, ?_⟩
  refine List.forall_mem_cons.mpr ⟨lo_none_tl, ?_⟩
  refine List.forall_mem_cons.mpr ⟨(lo_aload_tl _ _), ?_⟩
  refine List.forall_mem_cons.mpr ⟨(lo_iload_tl _ _), ?_⟩
  refine List.forall_mem_cons.mpr ⟨(lo_iload_tl _ _), ?_⟩
  refine List.forall_mem_cons.mpr ⟨(lo_callh_tl _ _ _ _ _), ?_⟩
  refine List.forall_mem_cons.mpr ⟨lo_none_tl, ?_⟩
  refine List.forall_mem_cons.mpr ⟨lo_none_tl, ?_⟩
  refine List.forall_mem_cons.mpr ⟨(lo_goto_tl _), ?_⟩
  refine List.forall_mem_cons.mpr ⟨lo_none_tl, ?_⟩
  refine List.forall_mem_cons.mpr ⟨lo_none_tl, ?_⟩
  refine List.forall_mem_cons.mpr ⟨(lo_iload_tl _ _), ?_⟩
  refine List.forall_mem_cons.mpr ⟨(lo_pushI_tl _ _), ?_⟩
  refine List.forall_mem_cons.mpr ⟨lo_none_tl, ?_⟩
  refine List.forall_mem_cons.mpr ⟨(lo_icmp_tl _ _ _), ?_⟩
  refine List.forall_mem_cons.mpr ⟨lo_none_tl, ?_⟩
  refine List.forall_mem_cons.mpr ⟨lo_none_tl, ?_⟩
  refine List.forall_mem_cons.mpr ⟨(lo_aload_tl _ _), ?_⟩
  refine List.forall_mem_cons.mpr ⟨(lo_iload_tl _ _), ?_⟩
  refine List.forall_mem_cons.mpr ⟨(lo_callh_tl _ _ _ _ _), ?_⟩
  refine List.forall_mem_cons.mpr ⟨lo_none_tl, ?_⟩
  refine List.forall_mem_cons.mpr ⟨lo_none_tl, ?_⟩
  refine List.forall_mem_cons.mpr ⟨(lo_goto_tl _), ?_⟩
  refine List.forall_mem_cons.mpr ⟨lo_none_tl, ?_⟩
  refine List.forall_mem_cons.mpr ⟨lo_none_tl, ?_⟩
  refine List.forall_mem_cons.mpr ⟨(lo_iload_tl _ _), ?_⟩
  refine List.forall_mem_cons.mpr ⟨(lo_pushI_tl _ _), ?_⟩
  refine List.forall_mem_cons.mpr ⟨lo_none_tl, ?_⟩
  refine List.forall_mem_cons.mpr ⟨(lo_icmp_tl _ _ _), ?_⟩
  refine List.forall_mem_cons.mpr ⟨lo_none_tl, ?_⟩
  refine List.forall_mem_cons.mpr ⟨lo_none_tl, ?_⟩
  refine List.forall_mem_cons.mpr ⟨(lo_aload_tl _ _), ?_⟩
  refine List.forall_mem_cons.mpr ⟨(lo_iload_tl _ _), ?_⟩
  refine List.forall_mem_cons.mpr ⟨(lo_callh_tl _ _ _ _ _), ?_⟩
  refine List.forall_mem_cons.mpr ⟨lo_none_tl, ?_⟩
  refine List.forall_mem_cons.mpr ⟨lo_none_tl, ?_⟩
  refine List.forall_mem_cons.mpr ⟨(lo_goto_tl _), ?_⟩
  refine List.forall_mem_cons.mpr ⟨lo_none_tl, ?_⟩
  refine List.forall_mem_cons.mpr ⟨lo_none_tl, ?_⟩
  refine List.forall_mem_cons.mpr ⟨(lo_iload_tl _ _), ?_⟩
  refine List.forall_mem_cons.mpr ⟨(lo_pushI_tl _ _), ?_⟩
  refine List.forall_mem_cons.mpr ⟨lo_none_tl, ?_⟩
  refine List.forall_mem_cons.mpr ⟨(lo_icmp_tl _ _ _), ?_⟩
  refine List.forall_mem_cons.mpr ⟨lo_none_tl, ?_⟩
  refine List.forall_mem_cons.mpr ⟨lo_none_tl, ?_⟩
  refine List.forall_mem_cons.mpr ⟨(lo_aload_tl _ _), ?_⟩
  refine List.forall_mem_cons.mpr ⟨(lo_iload_tl _ _), ?_⟩
  refine List.forall_mem_cons.mpr ⟨(lo_callh_tl _ _ _ _ _), ?_⟩
  refine List.forall_mem_cons.mpr ⟨lo_none_tl, ?_⟩
  refine List.forall_mem_cons.mpr ⟨lo_none_tl, ?_⟩
  refine List.forall_mem_cons.mpr ⟨(lo_goto_tl _), ?_⟩
  refine List.forall_mem_cons.mpr ⟨lo_none_tl, ?_⟩
  refine List.forall_mem_cons.mpr ⟨lo_none_tl, ?_⟩
  refine List.forall_mem_cons.mpr ⟨(lo_iload_tl _ _), ?_⟩
  refine List.forall_mem_cons.mpr ⟨(lo_pushI_tl _ _), ?_⟩
  refine List.forall_mem_cons.mpr ⟨lo_none_tl, ?_⟩
  refine List.forall_mem_cons.mpr ⟨(lo_icmp_tl _ _ _), ?_⟩
  refine List.forall_mem_cons.mpr ⟨lo_none_tl, ?_⟩
  refine List.forall_mem_cons.mpr ⟨lo_none_tl, ?_⟩
  refine List.forall_mem_cons.mpr ⟨(lo_aload_tl _ _), ?_⟩
  refine List.forall_mem_cons.mpr ⟨(lo_iload_tl _ _), ?_⟩
  refine List.forall_mem_cons.mpr ⟨(lo_callh_tl _ _ _ _ _), ?_⟩
  refine List.forall_mem_cons.mpr ⟨lo_none_tl, ?_⟩
  refine List.forall_mem_cons.mpr ⟨lo_none_tl, ?_⟩
  refine List.forall_mem_cons.mpr ⟨(lo_if_tl _ _ _), ?_⟩
  refine List.forall_mem_cons.mpr ⟨lo_none_tl, ?_⟩
  refine List.forall_mem_cons.mpr ⟨lo_none_tl, ?_⟩
  refine List.forall_mem_cons.mpr ⟨(lo_pushI_tl _ _), ?_⟩
  refine List.forall_mem_cons.mpr ⟨(lo_goto_tl _), ?_⟩
  refine List.forall_mem_cons.mpr ⟨lo_none_tl, ?_⟩
  refine List.forall_mem_cons.mpr ⟨lo_none_tl, ?_⟩
  refine List.forall_mem_cons.mpr ⟨(lo_pushI_tl _ _), ?_⟩
  refine List.forall_mem_cons.mpr ⟨(lo_goto_tl _), ?_⟩
  refine List.forall_mem_cons.mpr ⟨lo_none_tl, ?_⟩
  refine List.forall_mem_cons.mpr ⟨lo_none_tl, ?_⟩
  refine List.forall_mem_cons.mpr ⟨(lo_iload_tl _ _), ?_⟩
  refine List.forall_mem_cons.mpr ⟨(lo_pushI_tl _ _), ?_⟩
  refine List.forall_mem_cons.mpr ⟨lo_none_tl, ?_⟩
  refine List.forall_mem_cons.mpr ⟨(lo_icmp_tl _ _ _), ?_⟩
  refine List.forall_mem_cons.mpr ⟨lo_none_tl, ?_⟩
  refine List.forall_mem_cons.mpr ⟨lo_none_tl, ?_⟩
  refine List.forall_mem_cons.mpr ⟨(lo_aload_tl _ _), ?_⟩
  refine List.forall_mem_cons.mpr ⟨(lo_iload_tl _ _), ?_⟩
  refine List.forall_mem_cons.mpr ⟨(lo_iload_tl _ _), ?_⟩
  refine List.forall_mem_cons.mpr ⟨(lo_callh_tl _ _ _ _ _), ?_⟩
  refine List.forall_mem_cons.mpr ⟨lo_none_tl, ?_⟩
  refine List.forall_mem_cons.mpr ⟨lo_none_tl, ?_⟩
  refine List.forall_mem_cons.mpr ⟨(lo_goto_tl _), ?_⟩
  refine List.forall_mem_cons.mpr ⟨lo_none_tl, ?_⟩
  refine List.forall_mem_cons.mpr ⟨lo_none_tl, ?_⟩
  refine List.forall_mem_cons.mpr ⟨(lo_aload_tl _ _), ?_⟩
  refine List.forall_mem_cons.mpr ⟨(lo_iload_tl _ _), ?_⟩
  refine List.forall_mem_cons.mpr ⟨(lo_callh_tl _ _ _ _ _), ?_⟩
  refine List.forall_mem_cons.mpr ⟨lo_none_tl, ?_⟩
  refine List.forall_mem_cons.mpr ⟨lo_none_tl, ?_⟩
  refine List.forall_mem_cons.mpr ⟨(lo_iret_tl _ _), ?_⟩
  refine List.forall_mem_cons.mpr ⟨lo_none_tl, ?_⟩
  refine List.forall_mem_cons.mpr ⟨lo_none_tl, ?_⟩
  refine List.forall_mem_cons.mpr ⟨lo_none_tl, ?_⟩
  refine List.forall_mem_cons.mpr ⟨lo_none_tl, ?_⟩
  refine List.forall_mem_cons.mpr ⟨lo_none_tl, ?_⟩
  refine List.forall_mem_cons.mpr ⟨lo_none_tl, ?_⟩
  refine List.forall_mem_cons.mpr ⟨lo_none_tl, ?_⟩
  refine List.forall_mem_cons.mpr ⟨lo_none_tl, ?_⟩
  refine List.forall_mem_cons.mpr ⟨lo_none_tl, ?_⟩
  refine List.forall_mem_cons.mpr ⟨lo_none_tl, ?_⟩
  refine List.forall_mem_cons.mpr ⟨lo_none_tl, ?_⟩
  refine List.forall_mem_cons.mpr ⟨lo_none_tl, ?_⟩
  refine List.forall_mem_cons.mpr ⟨lo_none_tl, ?_⟩
  refine List.forall_mem_cons.mpr ⟨lo_none_tl, ?_⟩
  refine List.forall_mem_cons.mpr ⟨lo_none_tl, ?_⟩
  refine List.forall_mem_cons.mpr ⟨lo_none_tl, ?_⟩
  refine List.forall_mem_cons.mpr ⟨lo_none_tl, ?_⟩
  refine List.forall_mem_cons.mpr ⟨lo_none_tl, ?_⟩
  exact fun _ h => absurd h List.not_mem_nil
noncomputable def fL_act : lzFn := lz_fn tL_act 9
set_option maxRecDepth 100000 in
set_option maxHeartbeats 4000000 in
theorem mm_L_act {l : Launch} {D : va_G} {cA : Nat → ClassId} {ad : Nat → Nat} {Ex : (Nat → Prop) → State → Heap → Prop} {sc : List Int32} (Wd : lzWd l D cA ad Ex sc) : lz_C l D zzCl cA ad zzSC Ex yL_act (Cond.codeWith yL_act cL_act 9 (some .int) [(0, 335, 336, 77), (0, 335, 342, 79), (0, 335, 348, 81)]) 8 193 1 fL_act := by
  refine lz_methW (by decide) Wd.1.2.1 Wd.1.2.2.1 (fun p e R s m args below meth c rr X hT => ?_)
  unfold tL_act
  refine lz_cons (k' := 1) rfl (lk_iload_n X dL_act_0 rfl rfl) ?_
  refine lz_cons (k' := 2) rfl (lk_if_ne X dL_act_1 (by decide) rfl) ?_
  refine lz_cons (k' := 3) rfl (lz_Ok_none _ _) ?_
  refine lz_cons (k' := 4) rfl (lz_Ok_none _ _) ?_
  refine lz_cons (k' := 5) rfl (lk_aload_n X dL_act_4 rfl rfl) ?_
  refine lz_cons (k' := 6) rfl (lk_iload_n X dL_act_5 rfl rfl) ?_
  refine lz_cons (k' := 7) rfl (lk_iload_n X dL_act_6 rfl rfl) ?_
  refine lz_cons (k' := 8) rfl (lk_callh X hT Wd.2.1 rfl kc_9 (mm_X11_make Wd.1) (by decide) (lz_hdA rfl rfl rfl) dL_act_7 rfl) ?_
  refine lz_cons (k' := 9) rfl (lz_Ok_none _ _) ?_
  refine lz_cons (k' := 10) rfl (lz_Ok_none _ _) ?_
  refine lz_cons (k' := 11) rfl (lk_goto X dL_act_10 (by decide)) ?_
  refine lz_cons (k' := 12) rfl (lz_Ok_none _ _) ?_
  refine lz_cons (k' := 13) rfl (lz_Ok_none _ _) ?_
  refine lz_cons (k' := 14) rfl (lk_iload_n X dL_act_13 rfl rfl) ?_
  refine lz_cons (k' := 15) rfl (lk_iconst X dL_act_14 (by decide) rfl) ?_
  refine lz_cons (k' := 16) rfl (lk_icmp_ne X dL_act_15 (by decide) rfl) ?_
  refine lz_cons (k' := 17) rfl (lz_Ok_none _ _) ?_
  refine lz_cons (k' := 18) rfl (lz_Ok_none _ _) ?_
  refine lz_cons (k' := 19) rfl (lk_aload_n X dL_act_18 rfl rfl) ?_
  refine lz_cons (k' := 20) rfl (lk_iload_n X dL_act_19 rfl rfl) ?_
  refine lz_cons (k' := 21) rfl (lk_iload_n X dL_act_20 rfl rfl) ?_
  refine lz_cons (k' := 22) rfl (lk_iload X dL_act_21 rfl) ?_
  refine lz_cons (k' := 23) rfl (lz_Ok_none _ _) ?_
  refine lz_cons (k' := 24) rfl (lk_iload X dL_act_23 rfl) ?_
  refine lz_cons (k' := 25) rfl (lz_Ok_none _ _) ?_
  refine lz_cons (k' := 26) rfl (lk_iload X dL_act_25 rfl) ?_
  refine lz_cons (k' := 27) rfl (lz_Ok_none _ _) ?_
  refine lz_cons (k' := 28) rfl (lk_iload X dL_act_27 rfl) ?_
  refine lz_cons (k' := 29) rfl (lz_Ok_none _ _) ?_
  refine lz_cons (k' := 30) rfl (lk_iconst X dL_act_29 (by decide) rfl) ?_
  refine lz_cons (k' := 31) rfl (lk_icmp_ne X dL_act_30 (by decide) rfl) ?_
  refine lz_cons (k' := 32) rfl (lz_Ok_none _ _) ?_
  refine lz_cons (k' := 33) rfl (lz_Ok_none _ _) ?_
  refine lz_cons (k' := 34) rfl (lk_iconst X dL_act_33 (by decide) rfl) ?_
  refine lz_cons (k' := 35) rfl (lk_goto X dL_act_34 (by decide)) ?_
  refine lz_cons (k' := 36) rfl (lz_Ok_none _ _) ?_
  refine lz_cons (k' := 37) rfl (lz_Ok_none _ _) ?_
  refine lz_cons (k' := 38) rfl (lk_iconst X dL_act_37 (by decide) rfl) ?_
  refine lz_cons (k' := 39) rfl (lk_callh X hT Wd.2.1 rfl kc_15 (mm_X11_apply Wd.1) (by decide) (lz_hdA rfl rfl rfl) dL_act_38 rfl) ?_
  refine lz_cons (k' := 40) rfl (lz_Ok_none _ _) ?_
  refine lz_cons (k' := 41) rfl (lz_Ok_none _ _) ?_
  refine lz_cons (k' := 42) rfl (lk_goto X dL_act_41 (by decide)) ?_
  refine lz_cons (k' := 43) rfl (lz_Ok_none _ _) ?_
  refine lz_cons (k' := 44) rfl (lz_Ok_none _ _) ?_
  refine lz_cons (k' := 45) rfl (lk_iload_n X dL_act_44 rfl rfl) ?_
  refine lz_cons (k' := 46) rfl (lk_iconst X dL_act_45 (by decide) rfl) ?_
  refine lz_cons (k' := 47) rfl (lk_icmp_ne X dL_act_46 (by decide) rfl) ?_
  refine lz_cons (k' := 48) rfl (lz_Ok_none _ _) ?_
  refine lz_cons (k' := 49) rfl (lz_Ok_none _ _) ?_
  refine lz_cons (k' := 50) rfl (lk_aload_n X dL_act_49 rfl rfl) ?_
  refine lz_cons (k' := 51) rfl (lk_iload_n X dL_act_50 rfl rfl) ?_
  refine lz_cons (k' := 52) rfl (lk_iload_n X dL_act_51 rfl rfl) ?_
  refine lz_cons (k' := 53) rfl (lk_iload X dL_act_52 rfl) ?_
  refine lz_cons (k' := 54) rfl (lz_Ok_none _ _) ?_
  refine lz_cons (k' := 55) rfl (lk_iload X dL_act_54 rfl) ?_
  refine lz_cons (k' := 56) rfl (lz_Ok_none _ _) ?_
  refine lz_cons (k' := 57) rfl (lk_iconst X dL_act_56 (by decide) rfl) ?_
  refine lz_cons (k' := 58) rfl (lk_icmp_ne X dL_act_57 (by decide) rfl) ?_
  refine lz_cons (k' := 59) rfl (lz_Ok_none _ _) ?_
  refine lz_cons (k' := 60) rfl (lz_Ok_none _ _) ?_
  refine lz_cons (k' := 61) rfl (lk_iconst X dL_act_60 (by decide) rfl) ?_
  refine lz_cons (k' := 62) rfl (lk_goto X dL_act_61 (by decide)) ?_
  refine lz_cons (k' := 63) rfl (lz_Ok_none _ _) ?_
  refine lz_cons (k' := 64) rfl (lz_Ok_none _ _) ?_
  refine lz_cons (k' := 65) rfl (lk_iconst X dL_act_64 (by decide) rfl) ?_
  refine lz_cons (k' := 66) rfl (lk_callh X hT Wd.2.1 rfl kc_19 (mm_X11_applyBudget Wd.1) (by decide) (lz_hdA rfl rfl rfl) dL_act_65 rfl) ?_
  refine lz_cons (k' := 67) rfl (lz_Ok_none _ _) ?_
  refine lz_cons (k' := 68) rfl (lz_Ok_none _ _) ?_
  refine lz_cons (k' := 69) rfl (lk_goto X dL_act_68 (by decide)) ?_
  refine lz_cons (k' := 70) rfl (lz_Ok_none _ _) ?_
  refine lz_cons (k' := 71) rfl (lz_Ok_none _ _) ?_
  refine lz_cons (k' := 72) rfl (lk_iload_n X dL_act_71 rfl rfl) ?_
  refine lz_cons (k' := 73) rfl (lk_iconst X dL_act_72 (by decide) rfl) ?_
  refine lz_cons (k' := 74) rfl (lk_icmp_ne X dL_act_73 (by decide) rfl) ?_
  refine lz_cons (k' := 75) rfl (lz_Ok_none _ _) ?_
  refine lz_cons (k' := 76) rfl (lz_Ok_none _ _) ?_
  refine lz_cons (k' := 77) rfl (lk_aload_n X dL_act_76 rfl rfl) ?_
  refine lz_cons (k' := 78) rfl (lk_iload_n X dL_act_77 rfl rfl) ?_
  refine lz_cons (k' := 79) rfl (lk_iload_n X dL_act_78 rfl rfl) ?_
  refine lz_cons (k' := 80) rfl (lk_callh X hT Wd.2.1 rfl kc_23 (mm_X11_delete Wd.1) (by decide) (lz_hdA rfl rfl rfl) dL_act_79 rfl) ?_
  refine lz_cons (k' := 81) rfl (lz_Ok_none _ _) ?_
  refine lz_cons (k' := 82) rfl (lz_Ok_none _ _) ?_
  refine lz_cons (k' := 83) rfl (lk_goto X dL_act_82 (by decide)) ?_
  refine lz_cons (k' := 84) rfl (lz_Ok_none _ _) ?_
  refine lz_cons (k' := 85) rfl (lz_Ok_none _ _) ?_
  refine lz_cons (k' := 86) rfl (lk_iload_n X dL_act_85 rfl rfl) ?_
  refine lz_cons (k' := 87) rfl (lk_iconst X dL_act_86 (by decide) rfl) ?_
  refine lz_cons (k' := 88) rfl (lk_icmp_ne X dL_act_87 (by decide) rfl) ?_
  refine lz_cons (k' := 89) rfl (lz_Ok_none _ _) ?_
  refine lz_cons (k' := 90) rfl (lz_Ok_none _ _) ?_
  refine lz_cons (k' := 91) rfl (lk_aload_n X dL_act_90 rfl rfl) ?_
  refine lz_cons (k' := 92) rfl (lk_iload_n X dL_act_91 rfl rfl) ?_
  refine lz_cons (k' := 93) rfl (lk_iload_n X dL_act_92 rfl rfl) ?_
  refine lz_cons (k' := 94) rfl (lk_iconst X dL_act_93 (by decide) rfl) ?_
  refine lz_cons (k' := 95) rfl (lk_icmp_ne X dL_act_94 (by decide) rfl) ?_
  refine lz_cons (k' := 96) rfl (lz_Ok_none _ _) ?_
  refine lz_cons (k' := 97) rfl (lz_Ok_none _ _) ?_
  refine lz_cons (k' := 98) rfl (lk_iconst X dL_act_97 (by decide) rfl) ?_
  refine lz_cons (k' := 99) rfl (lk_goto X dL_act_98 (by decide)) ?_
  refine lz_cons (k' := 100) rfl (lz_Ok_none _ _) ?_
  refine lz_cons (k' := 101) rfl (lz_Ok_none _ _) ?_
  refine lz_cons (k' := 102) rfl (lk_iconst X dL_act_101 (by decide) rfl) ?_
  refine lz_cons (k' := 103) rfl (lk_callh X hT Wd.2.1 rfl kc_26 (mm_X11_hold Wd.1) (by decide) (lz_hdA rfl rfl rfl) dL_act_102 rfl) ?_
  refine lz_cons (k' := 104) rfl (lz_Ok_none _ _) ?_
  refine lz_cons (k' := 105) rfl (lz_Ok_none _ _) ?_
  refine lz_cons (k' := 106) rfl (lk_if_eq X dL_act_105 (by decide) rfl) ?_
  refine lz_cons (k' := 107) rfl (lz_Ok_none _ _) ?_
  refine lz_cons (k' := 108) rfl (lz_Ok_none _ _) ?_
  refine lz_cons (k' := 109) rfl (lk_iconst X dL_act_108 (by decide) rfl) ?_
  refine lz_cons (k' := 110) rfl (lk_goto X dL_act_109 (by decide)) ?_
  refine lz_cons (k' := 111) rfl (lz_Ok_none _ _) ?_
  refine lz_cons (k' := 112) rfl (lz_Ok_none _ _) ?_
  refine lz_cons (k' := 113) rfl (lk_iconst X dL_act_112 (by decide) rfl) ?_
  refine lz_cons (k' := 114) rfl (lk_goto X dL_act_113 (by decide)) ?_
  refine lz_cons (k' := 115) rfl (lz_Ok_none _ _) ?_
  refine lz_cons (k' := 116) rfl (lz_Ok_none _ _) ?_
  refine lz_cons (k' := 117) rfl (lk_iload_n X dL_act_116 rfl rfl) ?_
  refine lz_cons (k' := 118) rfl (lk_iconst X dL_act_117 (by decide) rfl) ?_
  refine lz_cons (k' := 119) rfl (lk_icmp_ne X dL_act_118 (by decide) rfl) ?_
  refine lz_cons (k' := 120) rfl (lz_Ok_none _ _) ?_
  refine lz_cons (k' := 121) rfl (lz_Ok_none _ _) ?_
  refine lz_cons (k' := 122) rfl (lk_aload_n X dL_act_121 rfl rfl) ?_
  refine lz_cons (k' := 123) rfl (lk_iload_n X dL_act_122 rfl rfl) ?_
  refine lz_cons (k' := 124) rfl (lk_iload_n X dL_act_123 rfl rfl) ?_
  refine lz_cons (k' := 125) rfl (lk_iconst X dL_act_124 (by decide) rfl) ?_
  refine lz_cons (k' := 126) rfl (lk_icmp_ne X dL_act_125 (by decide) rfl) ?_
  refine lz_cons (k' := 127) rfl (lz_Ok_none _ _) ?_
  refine lz_cons (k' := 128) rfl (lz_Ok_none _ _) ?_
  refine lz_cons (k' := 129) rfl (lk_iconst X dL_act_128 (by decide) rfl) ?_
  refine lz_cons (k' := 130) rfl (lk_goto X dL_act_129 (by decide)) ?_
  refine lz_cons (k' := 131) rfl (lz_Ok_none _ _) ?_
  refine lz_cons (k' := 132) rfl (lz_Ok_none _ _) ?_
  refine lz_cons (k' := 133) rfl (lk_iconst X dL_act_132 (by decide) rfl) ?_
  refine lz_cons (k' := 134) rfl (lk_callh X hT Wd.2.1 rfl kc_30 (mm_X11_finish Wd.1) (by decide) (lz_hdA rfl rfl rfl) dL_act_133 rfl) ?_
  refine lz_cons (k' := 135) rfl (lz_Ok_none _ _) ?_
  refine lz_cons (k' := 136) rfl (lz_Ok_none _ _) ?_
  refine lz_cons (k' := 137) rfl (lk_goto X dL_act_136 (by decide)) ?_
  refine lz_cons (k' := 138) rfl (lz_Ok_none _ _) ?_
  refine lz_cons (k' := 139) rfl (lz_Ok_none _ _) ?_
  refine lz_cons (k' := 140) rfl (lk_iload_n X dL_act_139 rfl rfl) ?_
  refine lz_cons (k' := 141) rfl (lk_bipush X dL_act_140 (by decide) rfl) ?_
  refine lz_cons (k' := 142) rfl (lz_Ok_none _ _) ?_
  refine lz_cons (k' := 143) rfl (lk_icmp_ne X dL_act_142 (by decide) rfl) ?_
  refine lz_cons (k' := 144) rfl (lz_Ok_none _ _) ?_
  refine lz_cons (k' := 145) rfl (lz_Ok_none _ _) ?_
  refine lz_cons (k' := 146) rfl (lk_aload_n X dL_act_145 rfl rfl) ?_
  refine lz_cons (k' := 147) rfl (lk_iload_n X dL_act_146 rfl rfl) ?_
  refine lz_cons (k' := 148) rfl (lk_iload_n X dL_act_147 rfl rfl) ?_
  refine lz_cons (k' := 149) rfl (lk_iload X dL_act_148 rfl) ?_
  refine lz_cons (k' := 150) rfl (lz_Ok_none _ _) ?_
  refine lz_cons (k' := 151) rfl (lk_iload X dL_act_150 rfl) ?_
  refine lz_cons (k' := 152) rfl (lz_Ok_none _ _) ?_
  refine lz_cons (k' := 153) rfl (lk_iload X dL_act_152 rfl) ?_
  refine lz_cons (k' := 154) rfl (lz_Ok_none _ _) ?_
  refine lz_cons (k' := 155) rfl (lk_iload X dL_act_154 rfl) ?_
  refine lz_cons (k' := 156) rfl (lz_Ok_none _ _) ?_
  refine lz_cons (k' := 157) rfl (lk_callh X hT Wd.2.1 rfl kc_34 (mm_X11_rule Wd.1) (by decide) (lz_hdA rfl rfl rfl) dL_act_156 rfl) ?_
  refine lz_cons (k' := 158) rfl (lz_Ok_none _ _) ?_
  refine lz_cons (k' := 159) rfl (lz_Ok_none _ _) ?_
  refine lz_cons (k' := 160) rfl (lk_goto X dL_act_159 (by decide)) ?_
  refine lz_cons (k' := 161) rfl (lz_Ok_none _ _) ?_
  refine lz_cons (k' := 162) rfl (lz_Ok_none _ _) ?_
  refine lz_cons (k' := 163) rfl (lk_iload_n X dL_act_162 rfl rfl) ?_
  refine lz_cons (k' := 164) rfl (lk_bipush X dL_act_163 (by decide) rfl) ?_
  refine lz_cons (k' := 165) rfl (lz_Ok_none _ _) ?_
  refine lz_cons (k' := 166) rfl (lk_icmp_ne X dL_act_165 (by decide) rfl) ?_
  refine lz_cons (k' := 167) rfl (lz_Ok_none _ _) ?_
  refine lz_cons (k' := 168) rfl (lz_Ok_none _ _) ?_
  refine lz_cons (k' := 169) rfl (lk_aload_n X dL_act_168 rfl rfl) ?_
  refine lz_cons (k' := 170) rfl (lk_iload_n X dL_act_169 rfl rfl) ?_
  refine lz_cons (k' := 171) rfl (lk_iload_n X dL_act_170 rfl rfl) ?_
  refine lz_cons (k' := 172) rfl (lk_iload X dL_act_171 rfl) ?_
  refine lz_cons (k' := 173) rfl (lz_Ok_none _ _) ?_
  refine lz_cons (k' := 174) rfl (lk_callh X hT Wd.2.1 rfl kc_38 (mm_X11_check Wd.1) (by decide) (lz_hdA rfl rfl rfl) dL_act_173 rfl) ?_
  refine lz_cons (k' := 175) rfl (lz_Ok_none _ _) ?_
  refine lz_cons (k' := 176) rfl (lz_Ok_none _ _) ?_
  refine lz_cons (k' := 177) rfl (lk_goto X dL_act_176 (by decide)) ?_
  refine lz_cons (k' := 178) rfl (lz_Ok_none _ _) ?_
  refine lz_cons (k' := 179) rfl (lz_Ok_none _ _) ?_
  refine lz_cons (k' := 180) rfl (lk_iload_n X dL_act_179 rfl rfl) ?_
  refine lz_cons (k' := 181) rfl (lk_bipush X dL_act_180 (by decide) rfl) ?_
  refine lz_cons (k' := 182) rfl (lz_Ok_none _ _) ?_
  refine lz_cons (k' := 183) rfl (lk_icmp_ne X dL_act_182 (by decide) rfl) ?_
  refine lz_cons (k' := 184) rfl (lz_Ok_none _ _) ?_
  refine lz_cons (k' := 185) rfl (lz_Ok_none _ _) ?_
  refine lz_cons (k' := 186) rfl (lk_aload_n X dL_act_185 rfl rfl) ?_
  refine lz_cons (k' := 187) rfl (lk_iload_n X dL_act_186 rfl rfl) ?_
  refine lz_cons (k' := 188) rfl (lk_callh X hT Wd.2.1 rfl kc_42 (mm_X11_quota Wd.1) (by decide) (lz_hdA rfl rfl rfl) dL_act_187 rfl) ?_
  refine lz_cons (k' := 189) rfl (lz_Ok_none _ _) ?_
  refine lz_cons (k' := 190) rfl (lz_Ok_none _ _) ?_
  refine lz_cons (k' := 191) rfl (lk_goto X dL_act_190 (by decide)) ?_
  refine lz_cons (k' := 192) rfl (lz_Ok_none _ _) ?_
  refine lz_cons (k' := 193) rfl (lz_Ok_none _ _) ?_
  refine lz_cons (k' := 194) rfl (lk_iload_n X dL_act_193 rfl rfl) ?_
  refine lz_cons (k' := 195) rfl (lk_bipush X dL_act_194 (by decide) rfl) ?_
  refine lz_cons (k' := 196) rfl (lz_Ok_none _ _) ?_
  refine lz_cons (k' := 197) rfl (lk_icmp_ne X dL_act_196 (by decide) rfl) ?_
  refine lz_cons (k' := 198) rfl (lz_Ok_none _ _) ?_
  refine lz_cons (k' := 199) rfl (lz_Ok_none _ _) ?_
  refine lz_cons (k' := 200) rfl (lk_aload_n X dL_act_199 rfl rfl) ?_
  refine lz_cons (k' := 201) rfl (lk_iload_n X dL_act_200 rfl rfl) ?_
  refine lz_cons (k' := 202) rfl (lk_iload_n X dL_act_201 rfl rfl) ?_
  refine lz_cons (k' := 203) rfl (lk_callh X hT Wd.2.1 rfl kc_46 (mm_X11_see Wd.1) (by decide) (lz_hdA rfl rfl rfl) dL_act_202 rfl) ?_
  refine lz_cons (k' := 204) rfl (lz_Ok_none _ _) ?_
  refine lz_cons (k' := 205) rfl (lz_Ok_none _ _) ?_
  refine lz_cons (k' := 206) rfl (lk_goto X dL_act_205 (by decide)) ?_
  refine lz_cons (k' := 207) rfl (lz_Ok_none _ _) ?_
  refine lz_cons (k' := 208) rfl (lz_Ok_none _ _) ?_
  refine lz_cons (k' := 209) rfl (lk_iload_n X dL_act_208 rfl rfl) ?_
  refine lz_cons (k' := 210) rfl (lk_bipush X dL_act_209 (by decide) rfl) ?_
  refine lz_cons (k' := 211) rfl (lz_Ok_none _ _) ?_
  refine lz_cons (k' := 212) rfl (lk_icmp_ne X dL_act_211 (by decide) rfl) ?_
  refine lz_cons (k' := 213) rfl (lz_Ok_none _ _) ?_
  refine lz_cons (k' := 214) rfl (lz_Ok_none _ _) ?_
  refine lz_cons (k' := 215) rfl (lk_aload_n X dL_act_214 rfl rfl) ?_
  refine lz_cons (k' := 216) rfl (lk_iload_n X dL_act_215 rfl rfl) ?_
  refine lz_cons (k' := 217) rfl (lk_callh X hT Wd.2.1 rfl kc_49 (mm_X11_work Wd.1) (by decide) (lz_hdA rfl rfl rfl) dL_act_216 rfl) ?_
  refine lz_cons (k' := 218) rfl (lz_Ok_none _ _) ?_
  refine lz_cons (k' := 219) rfl (lz_Ok_none _ _) ?_
  refine lz_cons (k' := 220) rfl (lk_goto X dL_act_219 (by decide)) ?_
  refine lz_cons (k' := 221) rfl (lz_Ok_none _ _) ?_
  refine lz_cons (k' := 222) rfl (lz_Ok_none _ _) ?_
  refine lz_cons (k' := 223) rfl (lk_iload_n X dL_act_222 rfl rfl) ?_
  refine lz_cons (k' := 224) rfl (lk_bipush X dL_act_223 (by decide) rfl) ?_
  refine lz_cons (k' := 225) rfl (lz_Ok_none _ _) ?_
  refine lz_cons (k' := 226) rfl (lk_icmp_ne X dL_act_225 (by decide) rfl) ?_
  refine lz_cons (k' := 227) rfl (lz_Ok_none _ _) ?_
  refine lz_cons (k' := 228) rfl (lz_Ok_none _ _) ?_
  refine lz_cons (k' := 229) rfl (lk_aload_n X dL_act_228 rfl rfl) ?_
  refine lz_cons (k' := 230) rfl (lk_iload_n X dL_act_229 rfl rfl) ?_
  refine lz_cons (k' := 231) rfl (lk_callh X hT Wd.2.1 rfl kc_52 (mm_X11_turn Wd.1) (by decide) (lz_hdA rfl rfl rfl) dL_act_230 rfl) ?_
  refine lz_cons (k' := 232) rfl (lz_Ok_none _ _) ?_
  refine lz_cons (k' := 233) rfl (lz_Ok_none _ _) ?_
  refine lz_cons (k' := 234) rfl (lk_goto X dL_act_233 (by decide)) ?_
  refine lz_cons (k' := 235) rfl (lz_Ok_none _ _) ?_
  refine lz_cons (k' := 236) rfl (lz_Ok_none _ _) ?_
  refine lz_cons (k' := 237) rfl (lk_iload_n X dL_act_236 rfl rfl) ?_
  refine lz_cons (k' := 238) rfl (lk_bipush X dL_act_237 (by decide) rfl) ?_
  refine lz_cons (k' := 239) rfl (lz_Ok_none _ _) ?_
  refine lz_cons (k' := 240) rfl (lk_icmp_ne X dL_act_239 (by decide) rfl) ?_
  refine lz_cons (k' := 241) rfl (lz_Ok_none _ _) ?_
  refine lz_cons (k' := 242) rfl (lz_Ok_none _ _) ?_
  refine lz_cons (k' := 243) rfl (lk_aload_n X dL_act_242 rfl rfl) ?_
  refine lz_cons (k' := 244) rfl (lk_iload_n X dL_act_243 rfl rfl) ?_
  refine lz_cons (k' := 245) rfl (lk_iload_n X dL_act_244 rfl rfl) ?_
  refine lz_cons (k' := 246) rfl (lk_callh X hT Wd.2.1 rfl kc_55 (mm_X11_watch Wd.1) (by decide) (lz_hdA rfl rfl rfl) dL_act_245 rfl) ?_
  refine lz_cons (k' := 247) rfl (lz_Ok_none _ _) ?_
  refine lz_cons (k' := 248) rfl (lz_Ok_none _ _) ?_
  refine lz_cons (k' := 249) rfl (lk_goto X dL_act_248 (by decide)) ?_
  refine lz_cons (k' := 250) rfl (lz_Ok_none _ _) ?_
  refine lz_cons (k' := 251) rfl (lz_Ok_none _ _) ?_
  refine lz_cons (k' := 252) rfl (lk_iload_n X dL_act_251 rfl rfl) ?_
  refine lz_cons (k' := 253) rfl (lk_bipush X dL_act_252 (by decide) rfl) ?_
  refine lz_cons (k' := 254) rfl (lz_Ok_none _ _) ?_
  refine lz_cons (k' := 255) rfl (lk_icmp_ne X dL_act_254 (by decide) rfl) ?_
  refine lz_cons (k' := 256) rfl (lz_Ok_none _ _) ?_
  refine lz_cons (k' := 257) rfl (lz_Ok_none _ _) ?_
  refine lz_cons (k' := 258) rfl (lk_aload_n X dL_act_257 rfl rfl) ?_
  refine lz_cons (k' := 259) rfl (lk_iload_n X dL_act_258 rfl rfl) ?_
  refine lz_cons (k' := 260) rfl (lk_callh X hT Wd.2.1 rfl kc_58 (mm_X11_next Wd.1) (by decide) (lz_hdA rfl rfl rfl) dL_act_259 rfl) ?_
  refine lz_cons (k' := 261) rfl (lz_Ok_none _ _) ?_
  refine lz_cons (k' := 262) rfl (lz_Ok_none _ _) ?_
  refine lz_cons (k' := 263) rfl (lk_goto X dL_act_262 (by decide)) ?_
  refine lz_cons (k' := 264) rfl (lz_Ok_none _ _) ?_
  refine lz_cons (k' := 265) rfl (lz_Ok_none _ _) ?_
  refine lz_cons (k' := 266) rfl (lk_iload_n X dL_act_265 rfl rfl) ?_
  refine lz_cons (k' := 267) rfl (lk_bipush X dL_act_266 (by decide) rfl) ?_
  refine lz_cons (k' := 268) rfl (lz_Ok_none _ _) ?_
  refine lz_cons (k' := 269) rfl (lk_icmp_ne X dL_act_268 (by decide) rfl) ?_
  refine lz_cons (k' := 270) rfl (lz_Ok_none _ _) ?_
  refine lz_cons (k' := 271) rfl (lz_Ok_none _ _) ?_
  refine lz_cons (k' := 272) rfl (lk_aload_n X dL_act_271 rfl rfl) ?_
  refine lz_cons (k' := 273) rfl (lk_iload_n X dL_act_272 rfl rfl) ?_
  refine lz_cons (k' := 274) rfl (lk_callh X hT Wd.2.1 rfl kc_61 (mm_X11_compact Wd.1) (by decide) (lz_hdA rfl rfl rfl) dL_act_273 rfl) ?_
  refine lz_cons (k' := 275) rfl (lz_Ok_none _ _) ?_
  refine lz_cons (k' := 276) rfl (lz_Ok_none _ _) ?_
  refine lz_cons (k' := 277) rfl (lk_goto X dL_act_276 (by decide)) ?_
  refine lz_cons (k' := 278) rfl (lz_Ok_none _ _) ?_
  refine lz_cons (k' := 279) rfl (lz_Ok_none _ _) ?_
  refine lz_cons (k' := 280) rfl (lk_iload_n X dL_act_279 rfl rfl) ?_
  refine lz_cons (k' := 281) rfl (lk_bipush X dL_act_280 (by decide) rfl) ?_
  refine lz_cons (k' := 282) rfl (lz_Ok_none _ _) ?_
  refine lz_cons (k' := 283) rfl (lk_icmp_ne X dL_act_282 (by decide) rfl) ?_
  refine lz_cons (k' := 284) rfl (lz_Ok_none _ _) ?_
  refine lz_cons (k' := 285) rfl (lz_Ok_none _ _) ?_
  refine lz_cons (k' := 286) rfl (lk_aload_n X dL_act_285 rfl rfl) ?_
  refine lz_cons (k' := 287) rfl (lk_iload_n X dL_act_286 rfl rfl) ?_
  refine lz_cons (k' := 288) rfl (lk_callh X hT Wd.2.1 rfl kc_64 (mm_X11_tick Wd.1) (by decide) (lz_hdA rfl rfl rfl) dL_act_287 rfl) ?_
  refine lz_cons (k' := 289) rfl (lz_Ok_none _ _) ?_
  refine lz_cons (k' := 290) rfl (lz_Ok_none _ _) ?_
  refine lz_cons (k' := 291) rfl (lk_goto X dL_act_290 (by decide)) ?_
  refine lz_cons (k' := 292) rfl (lz_Ok_none _ _) ?_
  refine lz_cons (k' := 293) rfl (lz_Ok_none _ _) ?_
  refine lz_cons (k' := 294) rfl (lk_iload_n X dL_act_293 rfl rfl) ?_
  refine lz_cons (k' := 295) rfl (lk_bipush X dL_act_294 (by decide) rfl) ?_
  refine lz_cons (k' := 296) rfl (lz_Ok_none _ _) ?_
  refine lz_cons (k' := 297) rfl (lk_icmp_ne X dL_act_296 (by decide) rfl) ?_
  refine lz_cons (k' := 298) rfl (lz_Ok_none _ _) ?_
  refine lz_cons (k' := 299) rfl (lz_Ok_none _ _) ?_
  refine lz_cons (k' := 300) rfl (lk_aload_n X dL_act_299 rfl rfl) ?_
  refine lz_cons (k' := 301) rfl (lk_iload_n X dL_act_300 rfl rfl) ?_
  refine lz_cons (k' := 302) rfl (lk_callh X hT Wd.2.1 rfl kc_67 (mm_X11_beat Wd.1) (by decide) (lz_hdA rfl rfl rfl) dL_act_301 rfl) ?_
  refine lz_cons (k' := 303) rfl (lz_Ok_none _ _) ?_
  refine lz_cons (k' := 304) rfl (lz_Ok_none _ _) ?_
  refine lz_cons (k' := 305) rfl (lk_if_eq X dL_act_304 (by decide) rfl) ?_
  refine lz_cons (k' := 306) rfl (lz_Ok_none _ _) ?_
  refine lz_cons (k' := 307) rfl (lz_Ok_none _ _) ?_
  refine lz_cons (k' := 308) rfl (lk_iconst X dL_act_307 (by decide) rfl) ?_
  refine lz_cons (k' := 309) rfl (lk_goto X dL_act_308 (by decide)) ?_
  refine lz_cons (k' := 310) rfl (lz_Ok_none _ _) ?_
  refine lz_cons (k' := 311) rfl (lz_Ok_none _ _) ?_
  refine lz_cons (k' := 312) rfl (lk_iconst X dL_act_311 (by decide) rfl) ?_
  refine lz_cons (k' := 313) rfl (lk_goto X dL_act_312 (by decide)) ?_
  refine lz_cons (k' := 314) rfl (lz_Ok_none _ _) ?_
  refine lz_cons (k' := 315) rfl (lz_Ok_none _ _) ?_
  refine lz_cons (k' := 316) rfl (lk_iload_n X dL_act_315 rfl rfl) ?_
  refine lz_cons (k' := 317) rfl (lk_bipush X dL_act_316 (by decide) rfl) ?_
  refine lz_cons (k' := 318) rfl (lz_Ok_none _ _) ?_
  refine lz_cons (k' := 319) rfl (lk_icmp_ne X dL_act_318 (by decide) rfl) ?_
  refine lz_cons (k' := 320) rfl (lz_Ok_none _ _) ?_
  refine lz_cons (k' := 321) rfl (lz_Ok_none _ _) ?_
  refine lz_cons (k' := 322) rfl (lk_aload_n X dL_act_321 rfl rfl) ?_
  refine lz_cons (k' := 323) rfl (lk_iload_n X dL_act_322 rfl rfl) ?_
  refine lz_cons (k' := 324) rfl (lk_iload_n X dL_act_323 rfl rfl) ?_
  refine lz_cons (k' := 325) rfl (lk_callh X hT Wd.2.1 rfl kc_71 (mm_X11_wish Wd.1) (by decide) (lz_hdA rfl rfl rfl) dL_act_324 rfl) ?_
  refine lz_cons (k' := 326) rfl (lz_Ok_none _ _) ?_
  refine lz_cons (k' := 327) rfl (lz_Ok_none _ _) ?_
  refine lz_cons (k' := 328) rfl (lk_goto X dL_act_327 (by decide)) ?_
  refine lz_cons (k' := 329) rfl (lz_Ok_none _ _) ?_
  refine lz_cons (k' := 330) rfl (lz_Ok_none _ _) ?_
  refine lz_cons (k' := 331) rfl (lk_aload_n X dL_act_330 rfl rfl) ?_
  refine lz_cons (k' := 332) rfl (lk_iload_n X dL_act_331 rfl rfl) ?_
  refine lz_cons (k' := 333) rfl (lk_callh X hT Wd.2.1 rfl kc_74 (mm_X11_list Wd.1) (by decide) (lz_hdA rfl rfl rfl) dL_act_332 rfl) ?_
  refine lz_cons (k' := 334) rfl (lz_Ok_none _ _) ?_
  refine lz_cons (k' := 335) rfl (lz_Ok_none _ _) ?_
  refine lz_cons (k' := 336) rfl (lk_iret X rfl dL_act_335) ?_
  refine lz_cons (k' := 337) rfl (lz_Ok_none _ _) ?_
  refine lz_cons (k' := 338) rfl (lz_Ok_none _ _) ?_
  refine lz_cons (k' := 339) rfl (lz_Ok_none _ _) ?_
  refine lz_cons (k' := 340) rfl (lz_Ok_none _ _) ?_
  refine lz_cons (k' := 341) rfl (lz_Ok_none _ _) ?_
  refine lz_cons (k' := 342) rfl (lz_Ok_none _ _) ?_
  refine lz_cons (k' := 343) rfl (lz_Ok_none _ _) ?_
  refine lz_cons (k' := 344) rfl (lz_Ok_none _ _) ?_
  refine lz_cons (k' := 345) rfl (lz_Ok_none _ _) ?_
  refine lz_cons (k' := 346) rfl (lz_Ok_none _ _) ?_
  refine lz_cons (k' := 347) rfl (lz_Ok_none _ _) ?_
  refine lz_cons (k' := 348) rfl (lz_Ok_none _ _) ?_
  refine lz_cons (k' := 349) rfl (lz_Ok_none _ _) ?_
  refine lz_cons (k' := 350) rfl (lz_Ok_none _ _) ?_
  refine lz_cons (k' := 351) rfl (lz_Ok_none _ _) ?_
  refine lz_cons (k' := 352) rfl (lz_Ok_none _ _) ?_
  refine lz_cons (k' := 353) rfl (lz_Ok_none _ _) ?_
  refine lz_cons (k' := 354) rfl (lz_Ok_none _ _) ?_
  exact trivial
noncomputable def tL_of : List lzOp := [
  lo_iload 1 1,
  lo_if (fun x => decide (¬ x = 0)) 12 4,
  lo_none,
  lo_none,
  lo_aload 0 5,
  lo_iload 2 6,
  lo_callh fX11_kindOf hcO 1 1 9,
  lo_none,
  lo_none,
  lo_goto 256,
  lo_none,
  lo_none,
  lo_iload 1 13,
  lo_pushI 1 14,
  lo_icmp (fun x y => decide (¬ x = y)) 26 17,
  lo_none,
  lo_none,
  lo_aload 0 18,
  lo_iload 2 19,
  lo_iload 3 20,
  lo_callh fX11_field hcO 2 1 23,
  lo_none,
  lo_none,
  lo_goto 256,
  lo_none,
  lo_none,
  lo_iload 1 27,
  lo_pushI 2 28,
  lo_icmp (fun x y => decide (¬ x = y)) 40 31,
  lo_none,
  lo_none,
  lo_aload 0 32,
  lo_iload 2 33,
  lo_iload 3 34,
  lo_callh fX11_managerOf hcO 2 1 37,
  lo_none,
  lo_none,
  lo_goto 256,
  lo_none,
  lo_none,
  lo_iload 1 41,
  lo_pushI 3 42,
  lo_icmp (fun x y => decide (¬ x = y)) 53 45,
  lo_none,
  lo_none,
  lo_aload 0 46,
  lo_iload 2 47,
  lo_callh fX11_budget hcO 1 1 50,
  lo_none,
  lo_none,
  lo_goto 256,
  lo_none,
  lo_none,
  lo_iload 1 54,
  lo_pushI 4 55,
  lo_icmp (fun x y => decide (¬ x = y)) 66 58,
  lo_none,
  lo_none,
  lo_aload 0 59,
  lo_iload 2 60,
  lo_callh fX11_versionOf hcO 1 1 63,
  lo_none,
  lo_none,
  lo_goto 256,
  lo_none,
  lo_none,
  lo_iload 1 67,
  lo_pushI 5 68,
  lo_icmp (fun x y => decide (¬ x = y)) 79 71,
  lo_none,
  lo_none,
  lo_aload 0 72,
  lo_iload 2 73,
  lo_callh fX11_goingOf hcO 1 1 76,
  lo_none,
  lo_none,
  lo_goto 256,
  lo_none,
  lo_none,
  lo_iload 1 80,
  lo_pushI 6 82,
  lo_none,
  lo_icmp (fun x y => decide (¬ x = y)) 93 85,
  lo_none,
  lo_none,
  lo_aload 0 86,
  lo_iload 2 87,
  lo_callh fX11_ownerOf hcO 1 1 90,
  lo_none,
  lo_none,
  lo_goto 256,
  lo_none,
  lo_none,
  lo_iload 1 94,
  lo_pushI 7 96,
  lo_none,
  lo_icmp (fun x y => decide (¬ x = y)) 107 99,
  lo_none,
  lo_none,
  lo_aload 0 100,
  lo_iload 2 101,
  lo_callh fX11_phaseOf hcO 1 1 104,
  lo_none,
  lo_none,
  lo_goto 256,
  lo_none,
  lo_none,
  lo_iload 1 108,
  lo_pushI 8 110,
  lo_none,
  lo_icmp (fun x y => decide (¬ x = y)) 121 113,
  lo_none,
  lo_none,
  lo_aload 0 114,
  lo_iload 2 115,
  lo_callh fX11_placeOf hcO 1 1 118,
  lo_none,
  lo_none,
  lo_goto 256,
  lo_none,
  lo_none,
  lo_iload 1 122,
  lo_pushI 9 124,
  lo_none,
  lo_icmp (fun x y => decide (¬ x = y)) 143 127,
  lo_none,
  lo_none,
  lo_aload 0 128,
  lo_iload 2 129,
  lo_callh fX11_isReady hcO 1 1 132,
  lo_none,
  lo_none,
  lo_if (fun x => decide (x = 0)) 139 135,
  lo_none,
  lo_none,
  lo_pushI 1 136,
  lo_goto 256,
  lo_none,
  lo_none,
  lo_pushI 0 140,
  lo_goto 256,
  lo_none,
  lo_none,
  lo_iload 1 144,
  lo_pushI 10 146,
  lo_none,
  lo_icmp (fun x y => decide (¬ x = y)) 166 149,
  lo_none,
  lo_none,
  lo_aload 0 150,
  lo_iload 2 151,
  lo_iload 3 152,
  lo_callh fX11_isBehind hcO 2 1 155,
  lo_none,
  lo_none,
  lo_if (fun x => decide (x = 0)) 162 158,
  lo_none,
  lo_none,
  lo_pushI 1 159,
  lo_goto 256,
  lo_none,
  lo_none,
  lo_pushI 0 163,
  lo_goto 256,
  lo_none,
  lo_none,
  lo_iload 1 167,
  lo_pushI 11 169,
  lo_none,
  lo_icmp (fun x y => decide (¬ x = y)) 190 172,
  lo_none,
  lo_none,
  lo_aload 0 173,
  lo_iload 2 174,
  lo_iload 3 175,
  lo_pushI 1 176,
  lo_icmp (fun x y => decide (¬ x = y)) 183 179,
  lo_none,
  lo_none,
  lo_pushI 1 180,
  lo_goto 184,
  lo_none,
  lo_none,
  lo_pushI 0 184,
  lo_callh fX11_running hcO 2 1 187,
  lo_none,
  lo_none,
  lo_goto 256,
  lo_none,
  lo_none,
  lo_iload 1 191,
  lo_pushI 12 193,
  lo_none,
  lo_icmp (fun x y => decide (¬ x = y)) 204 196,
  lo_none,
  lo_none,
  lo_aload 0 197,
  lo_iload 2 198,
  lo_callh fX11_objectOf hcO 1 1 201,
  lo_none,
  lo_none,
  lo_goto 256,
  lo_none,
  lo_none,
  lo_iload 1 205,
  lo_pushI 13 207,
  lo_none,
  lo_icmp (fun x y => decide (¬ x = y)) 218 210,
  lo_none,
  lo_none,
  lo_aload 0 211,
  lo_iload 2 212,
  lo_callh fX11_seen hcO 1 1 215,
  lo_none,
  lo_none,
  lo_goto 256,
  lo_none,
  lo_none,
  lo_iload 1 219,
  lo_pushI 14 221,
  lo_none,
  lo_icmp (fun x y => decide (¬ x = y)) 233 224,
  lo_none,
  lo_none,
  lo_aload 0 225,
  lo_iload 2 226,
  lo_iload 3 227,
  lo_callh fX11_queued hcO 2 1 230,
  lo_none,
  lo_none,
  lo_goto 256,
  lo_none,
  lo_none,
  lo_iload 1 234,
  lo_pushI 15 236,
  lo_none,
  lo_icmp (fun x y => decide (¬ x = y)) 248 239,
  lo_none,
  lo_none,
  lo_aload 0 240,
  lo_iload 2 241,
  lo_iload 3 242,
  lo_callh fX11_failures hcO 2 1 245,
  lo_none,
  lo_none,
  lo_goto 256,
  lo_none,
  lo_none,
  lo_aload 0 249,
  lo_iload 2 250,
  lo_iload 3 251,
  lo_iload 4 253,
  lo_none,
  lo_callh fX11_believed hcO 3 1 256,
  lo_none,
  lo_none,
  lo_iret 1 false,
  lo_none,
  lo_none,
  lo_none,
  lo_none,
  lo_none,
  lo_none,
  lo_none,
  lo_none,
  lo_none,
  lo_none,
  lo_none,
  lo_none]
set_option maxRecDepth 100000 in
theorem tl_L_of : ∀ pc, lz_Tl (tL_of.getD pc lo_none) := by
  refine lz_Tl_mem ?_
  unfold tL_of
  refine List.forall_mem_cons.mpr ⟨(lo_iload_tl _ _), ?_⟩
  refine List.forall_mem_cons.mpr ⟨(lo_if_tl _ _ _), ?_⟩
  refine List.forall_mem_cons.mpr ⟨lo_none_tl, ?_⟩
  refine List.forall_mem_cons.mpr ⟨lo_none_tl, ?_⟩
  refine List.forall_mem_cons.mpr ⟨(lo_aload_tl _ _), ?_⟩
  refine List.forall_mem_cons.mpr ⟨(lo_iload_tl _ _), ?_⟩
  refine List.forall_mem_cons.mpr ⟨(lo_callh_tl _ _ _ _ _), ?_⟩
  refine List.forall_mem_cons.mpr ⟨lo_none_tl, ?_⟩
  refine List.forall_mem_cons.mpr ⟨lo_none_tl, ?_⟩
  refine List.forall_mem_cons.mpr ⟨(lo_goto_tl _), ?_⟩
  refine List.forall_mem_cons.mpr ⟨lo_none_tl, ?_⟩
  refine List.forall_mem_cons.mpr ⟨lo_none_tl, ?_⟩
  refine List.forall_mem_cons.mpr ⟨(lo_iload_tl _ _), ?_⟩
  refine List.forall_mem_cons.mpr ⟨(lo_pushI_tl _ _), ?_⟩
  refine List.forall_mem_cons.mpr ⟨(lo_icmp_tl _ _ _), ?_⟩
  refine List.forall_mem_cons.mpr ⟨lo_none_tl, ?_⟩
  refine List.forall_mem_cons.mpr ⟨lo_none_tl, ?_⟩
  refine List.forall_mem_cons.mpr ⟨(lo_aload_tl _ _), ?_⟩
  refine List.forall_mem_cons.mpr ⟨(lo_iload_tl _ _), ?_⟩
  refine List.forall_mem_cons.mpr ⟨(lo_iload_tl _ _), ?_⟩
  refine List.forall_mem_cons.mpr ⟨(lo_callh_tl _ _ _ _ _), ?_⟩
  refine List.forall_mem_cons.mpr ⟨lo_none_tl, ?_⟩
  refine List.forall_mem_cons.mpr ⟨lo_none_tl, ?_⟩
  refine List.forall_mem_cons.mpr ⟨(lo_goto_tl _), ?_⟩
  refine List.forall_mem_cons.mpr ⟨lo_none_tl, ?_⟩
  refine List.forall_mem_cons.mpr ⟨lo_none_tl, ?_⟩
  refine List.forall_mem_cons.mpr ⟨(lo_iload_tl _ _), ?_⟩
  refine List.forall_mem_cons.mpr ⟨(lo_pushI_tl _ _), ?_⟩
  refine List.forall_mem_cons.mpr ⟨(lo_icmp_tl _ _ _), ?_⟩
  refine List.forall_mem_cons.mpr ⟨lo_none_tl, ?_⟩
  refine List.forall_mem_cons.mpr ⟨lo_none_tl, ?_⟩
  refine List.forall_mem_cons.mpr ⟨(lo_aload_tl _ _), ?_⟩
  refine List.forall_mem_cons.mpr ⟨(lo_iload_tl _ _), ?_⟩
  refine List.forall_mem_cons.mpr ⟨(lo_iload_tl _ _), ?_⟩
  refine List.forall_mem_cons.mpr ⟨(lo_callh_tl _ _ _ _ _), ?_⟩
  refine List.forall_mem_cons.mpr ⟨lo_none_tl, ?_⟩
  refine List.forall_mem_cons.mpr ⟨lo_none_tl, ?_⟩
  refine List.forall_mem_cons.mpr ⟨(lo_goto_tl _), ?_⟩
  refine List.forall_mem_cons.mpr ⟨lo_none_tl, ?_⟩
  refine List.forall_mem_cons.mpr ⟨lo_none_tl, ?_⟩
  refine List.forall_mem_cons.mpr ⟨(lo_iload_tl _ _), ?_⟩
  refine List.forall_mem_cons.mpr ⟨(lo_pushI_tl _ _), ?_⟩
  refine List.forall_mem_cons.mpr ⟨(lo_icmp_tl _ _ _), ?_⟩
  refine List.forall_mem_cons.mpr ⟨lo_none_tl, ?_⟩
  refine List.forall_mem_cons.mpr ⟨lo_none_tl, ?_⟩
  refine List.forall_mem_cons.mpr ⟨(lo_aload_tl _ _), ?_⟩
  refine List.forall_mem_cons.mpr ⟨(lo_iload_tl _ _), ?_⟩
  refine List.forall_mem_cons.mpr ⟨(lo_callh_tl _ _ _ _ _), ?_⟩
  refine List.forall_mem_cons.mpr ⟨lo_none_tl, ?_⟩
  refine List.forall_mem_cons.mpr ⟨lo_none_tl, ?_⟩
  refine List.forall_mem_cons.mpr ⟨(lo_goto_tl _), ?_⟩
  refine List.forall_mem_cons.mpr ⟨lo_none_tl, ?_⟩
  refine List.forall_mem_cons.mpr ⟨lo_none_tl, ?_⟩
  refine List.forall_mem_cons.mpr ⟨(lo_iload_tl _ _), ?_⟩
  refine List.forall_mem_cons.mpr ⟨(lo_pushI_tl _ _), ?_⟩
  refine List.forall_mem_cons.mpr ⟨(lo_icmp_tl _ _ _), ?_⟩
  refine List.forall_mem_cons.mpr ⟨lo_none_tl, ?_⟩
  refine List.forall_mem_cons.mpr ⟨lo_none_tl, ?_⟩
  refine List.forall_mem_cons.mpr ⟨(lo_aload_tl _ _), ?_⟩
  refine List.forall_mem_cons.mpr ⟨(lo_iload_tl _ _), ?_⟩
  refine List.forall_mem_cons.mpr ⟨(lo_callh_tl _ _ _ _ _), ?_⟩
  refine List.forall_mem_cons.mpr ⟨lo_none_tl, ?_⟩
  refine List.forall_mem_cons.mpr ⟨lo_none_tl, ?_⟩
  refine List.forall_mem_cons.mpr ⟨(lo_goto_tl _), ?_⟩
  refine List.forall_mem_cons.mpr ⟨lo_none_tl, ?_⟩
  refine List.forall_mem_cons.mpr ⟨lo_none_tl, ?_⟩
  refine List.forall_mem_cons.mpr ⟨(lo_iload_tl _ _), ?_⟩
  refine List.forall_mem_cons.mpr ⟨(lo_pushI_tl _ _), ?_⟩
  refine List.forall_mem_cons.mpr ⟨(lo_icmp_tl _ _ _), ?_⟩
  refine List.forall_mem_cons.mpr ⟨lo_none_tl, ?_⟩
  refine List.forall_mem_cons.mpr ⟨lo_none_tl, ?_⟩
  refine List.forall_mem_cons.mpr ⟨(lo_aload_tl _ _), ?_⟩
  refine List.forall_mem_cons.mpr ⟨(lo_iload_tl _ _), ?_⟩
  refine List.forall_mem_cons.mpr ⟨(lo_callh_tl _ _ _ _ _), ?_⟩
  refine List.forall_mem_cons.mpr ⟨lo_none_tl, ?_⟩
  refine List.forall_mem_cons.mpr ⟨lo_none_tl, ?_⟩
  refine List.forall_mem_cons.mpr ⟨(lo_goto_tl _), ?_⟩
  refine List.forall_mem_cons.mpr ⟨lo_none_tl, ?_⟩
  refine List.forall_mem_cons.mpr ⟨lo_none_tl, ?_⟩
  refine List.forall_mem_cons.mpr ⟨(lo_iload_tl _ _), ?_⟩
  refine List.forall_mem_cons.mpr ⟨(lo_pushI_tl _ _), ?_⟩
  refine List.forall_mem_cons.mpr ⟨lo_none_tl, ?_⟩
  refine List.forall_mem_cons.mpr ⟨(lo_icmp_tl _ _ _), ?_⟩
  refine List.forall_mem_cons.mpr ⟨lo_none_tl, ?_⟩
  refine List.forall_mem_cons.mpr ⟨lo_none_tl, ?_⟩
  refine List.forall_mem_cons.mpr ⟨(lo_aload_tl _ _), ?_⟩
  refine List.forall_mem_cons.mpr ⟨(lo_iload_tl _ _), ?_⟩
  refine List.forall_mem_cons.mpr ⟨(lo_callh_tl _ _ _ _ _), ?_⟩
  refine List.forall_mem_cons.mpr ⟨lo_none_tl, ?_⟩
  refine List.forall_mem_cons.mpr ⟨lo_none_tl, ?_⟩
  refine List.forall_mem_cons.mpr ⟨(lo_goto_tl _), ?_⟩
  refine List.forall_mem_cons.mpr ⟨lo_none_tl, ?_⟩
  refine List.forall_mem_cons.mpr ⟨lo_none_tl, ?_⟩
  refine List.forall_mem_cons.mpr ⟨(lo_iload_tl _ _), ?_⟩
  refine List.forall_mem_cons.mpr ⟨(lo_pushI_tl _ _), ?_⟩
  refine List.forall_mem_cons.mpr ⟨lo_none_tl, ?_⟩
  refine List.forall_mem_cons.mpr ⟨(lo_icmp_tl _ _ _), ?_⟩
  refine List.forall_mem_cons.mpr ⟨lo_none_tl, ?_⟩
  refine List.forall_mem_cons.mpr ⟨lo_none_tl, ?_⟩
  refine List.forall_mem_cons.mpr ⟨(lo_aload_tl _ _), ?_⟩
  refine List.forall_mem_cons.mpr ⟨(lo_iload_tl _ _), ?_⟩
  refine List.forall_mem_cons.mpr ⟨(lo_callh_tl _ _ _ _ _), ?_⟩
  refine List.forall_mem_cons.mpr ⟨lo_none_tl, ?_⟩
  refine List.forall_mem_cons.mpr ⟨lo_none_tl, ?_⟩
  refine List.forall_mem_cons.mpr ⟨(lo_goto_tl _), ?_⟩
  refine List.forall_mem_cons.mpr ⟨lo_none_tl, ?_⟩
  refine List.forall_mem_cons.mpr ⟨lo_none_tl, ?_⟩
  refine List.forall_mem_cons.mpr ⟨(lo_iload_tl _ _), ?_⟩
  refine List.forall_mem_cons.mpr ⟨(lo_pushI_tl _ _), ?_⟩
  refine List.forall_mem_cons.mpr ⟨lo_none_tl, ?_⟩
  refine List.forall_mem_cons.mpr ⟨(lo_icmp_tl _ _ _), ?_⟩
  refine List.forall_mem_cons.mpr ⟨lo_none_tl, ?_⟩
  refine List.forall_mem_cons.mpr ⟨lo_none_tl, ?_⟩
  refine List.forall_mem_cons.mpr ⟨(lo_aload_tl _ _), ?_⟩
  refine List.forall_mem_cons.mpr ⟨(lo_iload_tl _ _), ?_⟩
  refine List.forall_mem_cons.mpr ⟨(lo_callh_tl _ _ _ _ _), ?_⟩
  refine List.forall_mem_cons.mpr ⟨lo_none_tl, ?_⟩
  refine List.forall_mem_cons.mpr ⟨lo_none_tl, ?_⟩
  refine List.forall_mem_cons.mpr ⟨(lo_goto_tl _), ?_⟩
  refine List.forall_mem_cons.mpr ⟨lo_none_tl, ?_⟩
  refine List.forall_mem_cons.mpr ⟨lo_none_tl, ?_⟩
  refine List.forall_mem_cons.mpr ⟨(lo_iload_tl _ _), ?_⟩
  refine List.forall_mem_cons.mpr ⟨(lo_pushI_tl _ _), ?_⟩
  refine List.forall_mem_cons.mpr ⟨lo_none_tl, ?_⟩
  refine List.forall_mem_cons.mpr ⟨(lo_icmp_tl _ _ _), ?_⟩
  refine List.forall_mem_cons.mpr ⟨lo_none_tl, ?_⟩
  refine List.forall_mem_cons.mpr ⟨lo_none_tl, ?_⟩
  refine List.forall_mem_cons.mpr ⟨(lo_aload_tl _ _), ?_⟩
  refine List.forall_mem_cons.mpr ⟨(lo_iload_tl _ _), ?_⟩
  refine List.forall_mem_cons.mpr ⟨(lo_callh_tl _ _ _ _ _), ?_⟩
  refine List.forall_mem_cons.mpr ⟨lo_none_tl, ?_⟩
  refine List.forall_mem_cons.mpr ⟨lo_none_tl, ?_⟩
  refine List.forall_mem_cons.mpr ⟨(lo_if_tl _ _ _), ?_⟩
  refine List.forall_mem_cons.mpr ⟨lo_none_tl, ?_⟩
  refine List.forall_mem_cons.mpr ⟨lo_none_tl, ?_⟩
  refine List.forall_mem_cons.mpr ⟨(lo_pushI_tl _ _), ?_⟩
  refine List.forall_mem_cons.mpr ⟨(lo_goto_tl _), ?_⟩
  refine List.forall_mem_cons.mpr ⟨lo_none_tl, ?_⟩
  refine List.forall_mem_cons.mpr ⟨lo_none_tl, ?_⟩
  refine List.forall_mem_cons.mpr ⟨(lo_pushI_tl _ _), ?_⟩
  refine List.forall_mem_cons.mpr ⟨(lo_goto_tl _), ?_⟩
  refine List.forall_mem_cons.mpr ⟨lo_none_tl, ?_⟩
  refine List.forall_mem_cons.mpr ⟨lo_none_tl, ?_⟩
  refine List.forall_mem_cons.mpr ⟨(lo_iload_tl _ _), ?_⟩
  refine List.forall_mem_cons.mpr ⟨(lo_pushI_tl _ _), ?_⟩
  refine List.forall_mem_cons.mpr ⟨lo_none_tl, ?_⟩
  refine List.forall_mem_cons.mpr ⟨(lo_icmp_tl _ _ _), ?_⟩
  refine List.forall_mem_cons.mpr ⟨lo_none_tl, ?_⟩
  refine List.forall_mem_cons.mpr ⟨lo_none_tl, ?_⟩
  refine List.forall_mem_cons.mpr ⟨(lo_aload_tl _ _), ?_⟩
  refine List.forall_mem_cons.mpr ⟨(lo_iload_tl _ _), ?_⟩
  refine List.forall_mem_cons.mpr ⟨(lo_iload_tl _ _), ?_⟩
  refine List.forall_mem_cons.mpr ⟨(lo_callh_tl _ _ _ _ _), ?_⟩
  refine List.forall_mem_cons.mpr ⟨lo_none_tl, ?_⟩
  refine List.forall_mem_cons.mpr ⟨lo_none_tl, ?_⟩
  refine List.forall_mem_cons.mpr ⟨(lo_if_tl _ _ _), ?_⟩
  refine List.forall_mem_cons.mpr ⟨lo_none_tl, ?_⟩
  refine List.forall_mem_cons.mpr ⟨lo_none_tl, ?_⟩
  refine List.forall_mem_cons.mpr ⟨(lo_pushI_tl _ _), ?_⟩
  refine List.forall_mem_cons.mpr ⟨(lo_goto_tl _), ?_⟩
  refine List.forall_mem_cons.mpr ⟨lo_none_tl, ?_⟩
  refine List.forall_mem_cons.mpr ⟨lo_none_tl, ?_⟩
  refine List.forall_mem_cons.mpr ⟨(lo_pushI_tl _ _), ?_⟩
  refine List.forall_mem_cons.mpr ⟨(lo_goto_tl _), ?_⟩
  refine List.forall_mem_cons.mpr ⟨lo_none_tl, ?_⟩
  refine List.forall_mem_cons.mpr ⟨lo_none_tl, ?_⟩
  refine List.forall_mem_cons.mpr ⟨(lo_iload_tl _ _), ?_⟩
  refine List.forall_mem_cons.mpr ⟨(lo_pushI_tl _ _), ?_⟩
  refine List.forall_mem_cons.mpr ⟨lo_none_tl, ?_⟩
  refine List.forall_mem_cons.mpr ⟨(lo_icmp_tl _ _ _), ?_⟩
  refine List.forall_mem_cons.mpr ⟨lo_none_tl, ?_⟩
  refine List.forall_mem_cons.mpr ⟨lo_none_tl, ?_⟩
  refine List.forall_mem_cons.mpr ⟨(lo_aload_tl _ _), ?_⟩
  refine List.forall_mem_cons.mpr ⟨(lo_iload_tl _ _), ?_⟩
  refine List.forall_mem_cons.mpr ⟨(lo_iload_tl _ _), ?_⟩
  refine List.forall_mem_cons.mpr ⟨(lo_pushI_tl _ _), ?_⟩
  refine List.forall_mem_cons.mpr ⟨(lo_icmp_tl _ _ _), ?_⟩
  refine List.forall_mem_cons.mpr ⟨lo_none_tl, ?_⟩
  refine List.forall_mem_cons.mpr ⟨lo_none_tl, ?_⟩
  refine List.forall_mem_cons.mpr ⟨(lo_pushI_tl _ _), ?_⟩
  refine List.forall_mem_cons.mpr ⟨(lo_goto_tl _), ?_⟩
  refine List.forall_mem_cons.mpr ⟨lo_none_tl, ?_⟩
  refine List.forall_mem_cons.mpr ⟨lo_none_tl, ?_⟩
  refine List.forall_mem_cons.mpr ⟨(lo_pushI_tl _ _), ?_⟩
  refine List.forall_mem_cons.mpr ⟨(lo_callh_tl _ _ _ _ _), ?_⟩
  refine List.forall_mem_cons.mpr ⟨lo_none_tl, ?_⟩
  refine List.forall_mem_cons.mpr ⟨lo_none_tl, ?_⟩
  refine List.forall_mem_cons.mpr ⟨(lo_goto_tl _), ?_⟩
  refine List.forall_mem_cons.mpr ⟨lo_none_tl, ?_⟩
  refine List.forall_mem_cons.mpr ⟨lo_none_tl, ?_⟩
  refine List.forall_mem_cons.mpr ⟨(lo_iload_tl _ _), ?_⟩
  refine List.forall_mem_cons.mpr ⟨(lo_pushI_tl _ _), ?_⟩
  refine List.forall_mem_cons.mpr ⟨lo_none_tl, ?_⟩
  refine List.forall_mem_cons.mpr ⟨(lo_icmp_tl _ _ _), ?_⟩
  refine List.forall_mem_cons.mpr ⟨lo_none_tl, ?_⟩
  refine List.forall_mem_cons.mpr ⟨lo_none_tl, ?_⟩
  refine List.forall_mem_cons.mpr ⟨(lo_aload_tl _ _), ?_⟩
  refine List.forall_mem_cons.mpr ⟨(lo_iload_tl _ _), ?_⟩
  refine List.forall_mem_cons.mpr ⟨(lo_callh_tl _ _ _ _ _), ?_⟩
  refine List.forall_mem_cons.mpr ⟨lo_none_tl, ?_⟩
  refine List.forall_mem_cons.mpr ⟨lo_none_tl, ?_⟩
  refine List.forall_mem_cons.mpr ⟨(lo_goto_tl _), ?_⟩
  refine List.forall_mem_cons.mpr ⟨lo_none_tl, ?_⟩
  refine List.forall_mem_cons.mpr ⟨lo_none_tl, ?_⟩
  refine List.forall_mem_cons.mpr ⟨(lo_iload_tl _ _), ?_⟩
  refine List.forall_mem_cons.mpr ⟨(lo_pushI_tl _ _), ?_⟩
  refine List.forall_mem_cons.mpr ⟨lo_none_tl, ?_⟩
  refine List.forall_mem_cons.mpr ⟨(lo_icmp_tl _ _ _), ?_⟩
  refine List.forall_mem_cons.mpr ⟨lo_none_tl, ?_⟩
  refine List.forall_mem_cons.mpr ⟨lo_none_tl, ?_⟩
  refine List.forall_mem_cons.mpr ⟨(lo_aload_tl _ _), ?_⟩
  refine List.forall_mem_cons.mpr ⟨(lo_iload_tl _ _), ?_⟩
  refine List.forall_mem_cons.mpr ⟨(lo_callh_tl _ _ _ _ _), ?_⟩
  refine List.forall_mem_cons.mpr ⟨lo_none_tl, ?_⟩
  refine List.forall_mem_cons.mpr ⟨lo_none_tl, ?_⟩
  refine List.forall_mem_cons.mpr ⟨(lo_goto_tl _), ?_⟩
  refine List.forall_mem_cons.mpr ⟨lo_none_tl, ?_⟩
  refine List.forall_mem_cons.mpr ⟨lo_none_tl, ?_⟩
  refine List.forall_mem_cons.mpr ⟨(lo_iload_tl _ _), ?_⟩
  refine List.forall_mem_cons.mpr ⟨(lo_pushI_tl _ _), ?_⟩
  refine List.forall_mem_cons.mpr ⟨lo_none_tl, ?_⟩
  refine List.forall_mem_cons.mpr ⟨(lo_icmp_tl _ _ _), ?_⟩
  refine List.forall_mem_cons.mpr ⟨lo_none_tl, ?_⟩
  refine List.forall_mem_cons.mpr ⟨lo_none_tl, ?_⟩
  refine List.forall_mem_cons.mpr ⟨(lo_aload_tl _ _), ?_⟩
  refine List.forall_mem_cons.mpr ⟨(lo_iload_tl _ _), ?_⟩
  refine List.forall_mem_cons.mpr ⟨(lo_iload_tl _ _), ?_⟩
  refine List.forall_mem_cons.mpr ⟨(lo_callh_tl _ _ _ _ _), ?_⟩
  refine List.forall_mem_cons.mpr ⟨lo_none_tl, ?_⟩
  refine List.forall_mem_cons.mpr ⟨lo_none_tl, ?_⟩
  refine List.forall_mem_cons.mpr ⟨(lo_goto_tl _), ?_⟩
  refine List.forall_mem_cons.mpr ⟨lo_none_tl, ?_⟩
  refine List.forall_mem_cons.mpr ⟨lo_none_tl, ?_⟩
  refine List.forall_mem_cons.mpr ⟨(lo_iload_tl _ _), ?_⟩
  refine List.forall_mem_cons.mpr ⟨(lo_pushI_tl _ _), ?_⟩
  refine List.forall_mem_cons.mpr ⟨lo_none_tl, ?_⟩
  refine List.forall_mem_cons.mpr ⟨(lo_icmp_tl _ _ _), ?_⟩
  refine List.forall_mem_cons.mpr ⟨lo_none_tl, ?_⟩
  refine List.forall_mem_cons.mpr ⟨lo_none_tl, ?_⟩
  refine List.forall_mem_cons.mpr ⟨(lo_aload_tl _ _), ?_⟩
  refine List.forall_mem_cons.mpr ⟨(lo_iload_tl _ _), ?_⟩
  refine List.forall_mem_cons.mpr ⟨(lo_iload_tl _ _), ?_⟩
  refine List.forall_mem_cons.mpr ⟨(lo_callh_tl _ _ _ _ _), ?_⟩
  refine List.forall_mem_cons.mpr ⟨lo_none_tl, ?_⟩
  refine List.forall_mem_cons.mpr ⟨lo_none_tl, ?_⟩
  refine List.forall_mem_cons.mpr ⟨(lo_goto_tl _), ?_⟩
  refine List.forall_mem_cons.mpr ⟨lo_none_tl, ?_⟩
  refine List.forall_mem_cons.mpr ⟨lo_none_tl, ?_⟩
  refine List.forall_mem_cons.mpr ⟨(lo_aload_tl _ _), ?_⟩
  refine List.forall_mem_cons.mpr ⟨(lo_iload_tl _ _), ?_⟩
  refine List.forall_mem_cons.mpr ⟨(lo_iload_tl _ _), ?_⟩
  refine List.forall_mem_cons.mpr ⟨(lo_iload_tl _ _), ?_⟩
  refine List.forall_mem_cons.mpr ⟨lo_none_tl, ?_⟩
  refine List.forall_mem_cons.mpr ⟨(lo_callh_tl _ _ _ _ _), ?_⟩
  refine List.forall_mem_cons.mpr ⟨lo_none_tl, ?_⟩
  refine List.forall_mem_cons.mpr ⟨lo_none_tl, ?_⟩
  refine List.forall_mem_cons.mpr ⟨(lo_iret_tl _ _), ?_⟩
  refine List.forall_mem_cons.mpr ⟨lo_none_tl, ?_⟩
  refine List.forall_mem_cons.mpr ⟨lo_none_tl, ?_⟩
  refine List.forall_mem_cons.mpr ⟨lo_none_tl, ?_⟩
  refine List.forall_mem_cons.mpr ⟨lo_none_tl, ?_⟩
  refine List.forall_mem_cons.mpr ⟨lo_none_tl, ?_⟩
  refine List.forall_mem_cons.mpr ⟨lo_none_tl, ?_⟩
  refine List.forall_mem_cons.mpr ⟨lo_none_tl, ?_⟩
  refine List.forall_mem_cons.mpr ⟨lo_none_tl, ?_⟩
  refine List.forall_mem_cons.mpr ⟨lo_none_tl, ?_⟩
  refine List.forall_mem_cons.mpr ⟨lo_none_tl, ?_⟩
  refine List.forall_mem_cons.mpr ⟨lo_none_tl, ?_⟩
  refine List.forall_mem_cons.mpr ⟨lo_none_tl, ?_⟩
  exact fun _ h => absurd h List.not_mem_nil
noncomputable def fL_of : lzFn := lz_fn tL_of 6
set_option maxRecDepth 100000 in
set_option maxHeartbeats 4000000 in
theorem mm_L_of {l : Launch} {D : va_G} {cA : Nat → ClassId} {ad : Nat → Nat} {Ex : (Nat → Prop) → State → Heap → Prop} {sc : List Int32} (Wd : lzWd l D cA ad Ex sc) : lz_C l D zzCl cA ad zzSC Ex yL_of (Cond.codeWith yL_of cL_of 6 (some .int) [(0, 256, 257, 77), (0, 256, 263, 79)]) 8 128 1 fL_of := by
  refine lz_methW (by decide) Wd.1.2.1 Wd.1.2.2.1 (fun p e R s m args below meth c rr X hT => ?_)
  unfold tL_of
  refine lz_cons (k' := 1) rfl (lk_iload_n X dL_of_0 rfl rfl) ?_
  refine lz_cons (k' := 2) rfl (lk_if_ne X dL_of_1 (by decide) rfl) ?_
  refine lz_cons (k' := 3) rfl (lz_Ok_none _ _) ?_
  refine lz_cons (k' := 4) rfl (lz_Ok_none _ _) ?_
  refine lz_cons (k' := 5) rfl (lk_aload_n X dL_of_4 rfl rfl) ?_
  refine lz_cons (k' := 6) rfl (lk_iload_n X dL_of_5 rfl rfl) ?_
  refine lz_cons (k' := 7) rfl (lk_callh X hT Wd.2.1 rfl kc_83 (mm_X11_kindOf Wd.1) (by decide) (lz_hdO rfl rfl) dL_of_6 rfl) ?_
  refine lz_cons (k' := 8) rfl (lz_Ok_none _ _) ?_
  refine lz_cons (k' := 9) rfl (lz_Ok_none _ _) ?_
  refine lz_cons (k' := 10) rfl (lk_goto X dL_of_9 (by decide)) ?_
  refine lz_cons (k' := 11) rfl (lz_Ok_none _ _) ?_
  refine lz_cons (k' := 12) rfl (lz_Ok_none _ _) ?_
  refine lz_cons (k' := 13) rfl (lk_iload_n X dL_of_12 rfl rfl) ?_
  refine lz_cons (k' := 14) rfl (lk_iconst X dL_of_13 (by decide) rfl) ?_
  refine lz_cons (k' := 15) rfl (lk_icmp_ne X dL_of_14 (by decide) rfl) ?_
  refine lz_cons (k' := 16) rfl (lz_Ok_none _ _) ?_
  refine lz_cons (k' := 17) rfl (lz_Ok_none _ _) ?_
  refine lz_cons (k' := 18) rfl (lk_aload_n X dL_of_17 rfl rfl) ?_
  refine lz_cons (k' := 19) rfl (lk_iload_n X dL_of_18 rfl rfl) ?_
  refine lz_cons (k' := 20) rfl (lk_iload_n X dL_of_19 rfl rfl) ?_
  refine lz_cons (k' := 21) rfl (lk_callh X hT Wd.2.1 rfl kc_86 (mm_X11_field Wd.1) (by decide) (lz_hdO rfl rfl) dL_of_20 rfl) ?_
  refine lz_cons (k' := 22) rfl (lz_Ok_none _ _) ?_
  refine lz_cons (k' := 23) rfl (lz_Ok_none _ _) ?_
  refine lz_cons (k' := 24) rfl (lk_goto X dL_of_23 (by decide)) ?_
  refine lz_cons (k' := 25) rfl (lz_Ok_none _ _) ?_
  refine lz_cons (k' := 26) rfl (lz_Ok_none _ _) ?_
  refine lz_cons (k' := 27) rfl (lk_iload_n X dL_of_26 rfl rfl) ?_
  refine lz_cons (k' := 28) rfl (lk_iconst X dL_of_27 (by decide) rfl) ?_
  refine lz_cons (k' := 29) rfl (lk_icmp_ne X dL_of_28 (by decide) rfl) ?_
  refine lz_cons (k' := 30) rfl (lz_Ok_none _ _) ?_
  refine lz_cons (k' := 31) rfl (lz_Ok_none _ _) ?_
  refine lz_cons (k' := 32) rfl (lk_aload_n X dL_of_31 rfl rfl) ?_
  refine lz_cons (k' := 33) rfl (lk_iload_n X dL_of_32 rfl rfl) ?_
  refine lz_cons (k' := 34) rfl (lk_iload_n X dL_of_33 rfl rfl) ?_
  refine lz_cons (k' := 35) rfl (lk_callh X hT Wd.2.1 rfl kc_89 (mm_X11_managerOf Wd.1) (by decide) (lz_hdO rfl rfl) dL_of_34 rfl) ?_
  refine lz_cons (k' := 36) rfl (lz_Ok_none _ _) ?_
  refine lz_cons (k' := 37) rfl (lz_Ok_none _ _) ?_
  refine lz_cons (k' := 38) rfl (lk_goto X dL_of_37 (by decide)) ?_
  refine lz_cons (k' := 39) rfl (lz_Ok_none _ _) ?_
  refine lz_cons (k' := 40) rfl (lz_Ok_none _ _) ?_
  refine lz_cons (k' := 41) rfl (lk_iload_n X dL_of_40 rfl rfl) ?_
  refine lz_cons (k' := 42) rfl (lk_iconst X dL_of_41 (by decide) rfl) ?_
  refine lz_cons (k' := 43) rfl (lk_icmp_ne X dL_of_42 (by decide) rfl) ?_
  refine lz_cons (k' := 44) rfl (lz_Ok_none _ _) ?_
  refine lz_cons (k' := 45) rfl (lz_Ok_none _ _) ?_
  refine lz_cons (k' := 46) rfl (lk_aload_n X dL_of_45 rfl rfl) ?_
  refine lz_cons (k' := 47) rfl (lk_iload_n X dL_of_46 rfl rfl) ?_
  refine lz_cons (k' := 48) rfl (lk_callh X hT Wd.2.1 rfl kc_92 (mm_X11_budget Wd.1) (by decide) (lz_hdO rfl rfl) dL_of_47 rfl) ?_
  refine lz_cons (k' := 49) rfl (lz_Ok_none _ _) ?_
  refine lz_cons (k' := 50) rfl (lz_Ok_none _ _) ?_
  refine lz_cons (k' := 51) rfl (lk_goto X dL_of_50 (by decide)) ?_
  refine lz_cons (k' := 52) rfl (lz_Ok_none _ _) ?_
  refine lz_cons (k' := 53) rfl (lz_Ok_none _ _) ?_
  refine lz_cons (k' := 54) rfl (lk_iload_n X dL_of_53 rfl rfl) ?_
  refine lz_cons (k' := 55) rfl (lk_iconst X dL_of_54 (by decide) rfl) ?_
  refine lz_cons (k' := 56) rfl (lk_icmp_ne X dL_of_55 (by decide) rfl) ?_
  refine lz_cons (k' := 57) rfl (lz_Ok_none _ _) ?_
  refine lz_cons (k' := 58) rfl (lz_Ok_none _ _) ?_
  refine lz_cons (k' := 59) rfl (lk_aload_n X dL_of_58 rfl rfl) ?_
  refine lz_cons (k' := 60) rfl (lk_iload_n X dL_of_59 rfl rfl) ?_
  refine lz_cons (k' := 61) rfl (lk_callh X hT Wd.2.1 rfl kc_95 (mm_X11_versionOf Wd.1) (by decide) (lz_hdO rfl rfl) dL_of_60 rfl) ?_
  refine lz_cons (k' := 62) rfl (lz_Ok_none _ _) ?_
  refine lz_cons (k' := 63) rfl (lz_Ok_none _ _) ?_
  refine lz_cons (k' := 64) rfl (lk_goto X dL_of_63 (by decide)) ?_
  refine lz_cons (k' := 65) rfl (lz_Ok_none _ _) ?_
  refine lz_cons (k' := 66) rfl (lz_Ok_none _ _) ?_
  refine lz_cons (k' := 67) rfl (lk_iload_n X dL_of_66 rfl rfl) ?_
  refine lz_cons (k' := 68) rfl (lk_iconst X dL_of_67 (by decide) rfl) ?_
  refine lz_cons (k' := 69) rfl (lk_icmp_ne X dL_of_68 (by decide) rfl) ?_
  refine lz_cons (k' := 70) rfl (lz_Ok_none _ _) ?_
  refine lz_cons (k' := 71) rfl (lz_Ok_none _ _) ?_
  refine lz_cons (k' := 72) rfl (lk_aload_n X dL_of_71 rfl rfl) ?_
  refine lz_cons (k' := 73) rfl (lk_iload_n X dL_of_72 rfl rfl) ?_
  refine lz_cons (k' := 74) rfl (lk_callh X hT Wd.2.1 rfl kc_98 (mm_X11_goingOf Wd.1) (by decide) (lz_hdO rfl rfl) dL_of_73 rfl) ?_
  refine lz_cons (k' := 75) rfl (lz_Ok_none _ _) ?_
  refine lz_cons (k' := 76) rfl (lz_Ok_none _ _) ?_
  refine lz_cons (k' := 77) rfl (lk_goto X dL_of_76 (by decide)) ?_
  refine lz_cons (k' := 78) rfl (lz_Ok_none _ _) ?_
  refine lz_cons (k' := 79) rfl (lz_Ok_none _ _) ?_
  refine lz_cons (k' := 80) rfl (lk_iload_n X dL_of_79 rfl rfl) ?_
  refine lz_cons (k' := 81) rfl (lk_bipush X dL_of_80 (by decide) rfl) ?_
  refine lz_cons (k' := 82) rfl (lz_Ok_none _ _) ?_
  refine lz_cons (k' := 83) rfl (lk_icmp_ne X dL_of_82 (by decide) rfl) ?_
  refine lz_cons (k' := 84) rfl (lz_Ok_none _ _) ?_
  refine lz_cons (k' := 85) rfl (lz_Ok_none _ _) ?_
  refine lz_cons (k' := 86) rfl (lk_aload_n X dL_of_85 rfl rfl) ?_
  refine lz_cons (k' := 87) rfl (lk_iload_n X dL_of_86 rfl rfl) ?_
  refine lz_cons (k' := 88) rfl (lk_callh X hT Wd.2.1 rfl kc_101 (mm_X11_ownerOf Wd.1) (by decide) (lz_hdO rfl rfl) dL_of_87 rfl) ?_
  refine lz_cons (k' := 89) rfl (lz_Ok_none _ _) ?_
  refine lz_cons (k' := 90) rfl (lz_Ok_none _ _) ?_
  refine lz_cons (k' := 91) rfl (lk_goto X dL_of_90 (by decide)) ?_
  refine lz_cons (k' := 92) rfl (lz_Ok_none _ _) ?_
  refine lz_cons (k' := 93) rfl (lz_Ok_none _ _) ?_
  refine lz_cons (k' := 94) rfl (lk_iload_n X dL_of_93 rfl rfl) ?_
  refine lz_cons (k' := 95) rfl (lk_bipush X dL_of_94 (by decide) rfl) ?_
  refine lz_cons (k' := 96) rfl (lz_Ok_none _ _) ?_
  refine lz_cons (k' := 97) rfl (lk_icmp_ne X dL_of_96 (by decide) rfl) ?_
  refine lz_cons (k' := 98) rfl (lz_Ok_none _ _) ?_
  refine lz_cons (k' := 99) rfl (lz_Ok_none _ _) ?_
  refine lz_cons (k' := 100) rfl (lk_aload_n X dL_of_99 rfl rfl) ?_
  refine lz_cons (k' := 101) rfl (lk_iload_n X dL_of_100 rfl rfl) ?_
  refine lz_cons (k' := 102) rfl (lk_callh X hT Wd.2.1 rfl kc_104 (mm_X11_phaseOf Wd.1) (by decide) (lz_hdO rfl rfl) dL_of_101 rfl) ?_
  refine lz_cons (k' := 103) rfl (lz_Ok_none _ _) ?_
  refine lz_cons (k' := 104) rfl (lz_Ok_none _ _) ?_
  refine lz_cons (k' := 105) rfl (lk_goto X dL_of_104 (by decide)) ?_
  refine lz_cons (k' := 106) rfl (lz_Ok_none _ _) ?_
  refine lz_cons (k' := 107) rfl (lz_Ok_none _ _) ?_
  refine lz_cons (k' := 108) rfl (lk_iload_n X dL_of_107 rfl rfl) ?_
  refine lz_cons (k' := 109) rfl (lk_bipush X dL_of_108 (by decide) rfl) ?_
  refine lz_cons (k' := 110) rfl (lz_Ok_none _ _) ?_
  refine lz_cons (k' := 111) rfl (lk_icmp_ne X dL_of_110 (by decide) rfl) ?_
  refine lz_cons (k' := 112) rfl (lz_Ok_none _ _) ?_
  refine lz_cons (k' := 113) rfl (lz_Ok_none _ _) ?_
  refine lz_cons (k' := 114) rfl (lk_aload_n X dL_of_113 rfl rfl) ?_
  refine lz_cons (k' := 115) rfl (lk_iload_n X dL_of_114 rfl rfl) ?_
  refine lz_cons (k' := 116) rfl (lk_callh X hT Wd.2.1 rfl kc_107 (mm_X11_placeOf Wd.1) (by decide) (lz_hdO rfl rfl) dL_of_115 rfl) ?_
  refine lz_cons (k' := 117) rfl (lz_Ok_none _ _) ?_
  refine lz_cons (k' := 118) rfl (lz_Ok_none _ _) ?_
  refine lz_cons (k' := 119) rfl (lk_goto X dL_of_118 (by decide)) ?_
  refine lz_cons (k' := 120) rfl (lz_Ok_none _ _) ?_
  refine lz_cons (k' := 121) rfl (lz_Ok_none _ _) ?_
  refine lz_cons (k' := 122) rfl (lk_iload_n X dL_of_121 rfl rfl) ?_
  refine lz_cons (k' := 123) rfl (lk_bipush X dL_of_122 (by decide) rfl) ?_
  refine lz_cons (k' := 124) rfl (lz_Ok_none _ _) ?_
  refine lz_cons (k' := 125) rfl (lk_icmp_ne X dL_of_124 (by decide) rfl) ?_
  refine lz_cons (k' := 126) rfl (lz_Ok_none _ _) ?_
  refine lz_cons (k' := 127) rfl (lz_Ok_none _ _) ?_
  refine lz_cons (k' := 128) rfl (lk_aload_n X dL_of_127 rfl rfl) ?_
  refine lz_cons (k' := 129) rfl (lk_iload_n X dL_of_128 rfl rfl) ?_
  refine lz_cons (k' := 130) rfl (lk_callh X hT Wd.2.1 rfl kc_110 (mm_X11_isReady Wd.1) (by decide) (lz_hdO rfl rfl) dL_of_129 rfl) ?_
  refine lz_cons (k' := 131) rfl (lz_Ok_none _ _) ?_
  refine lz_cons (k' := 132) rfl (lz_Ok_none _ _) ?_
  refine lz_cons (k' := 133) rfl (lk_if_eq X dL_of_132 (by decide) rfl) ?_
  refine lz_cons (k' := 134) rfl (lz_Ok_none _ _) ?_
  refine lz_cons (k' := 135) rfl (lz_Ok_none _ _) ?_
  refine lz_cons (k' := 136) rfl (lk_iconst X dL_of_135 (by decide) rfl) ?_
  refine lz_cons (k' := 137) rfl (lk_goto X dL_of_136 (by decide)) ?_
  refine lz_cons (k' := 138) rfl (lz_Ok_none _ _) ?_
  refine lz_cons (k' := 139) rfl (lz_Ok_none _ _) ?_
  refine lz_cons (k' := 140) rfl (lk_iconst X dL_of_139 (by decide) rfl) ?_
  refine lz_cons (k' := 141) rfl (lk_goto X dL_of_140 (by decide)) ?_
  refine lz_cons (k' := 142) rfl (lz_Ok_none _ _) ?_
  refine lz_cons (k' := 143) rfl (lz_Ok_none _ _) ?_
  refine lz_cons (k' := 144) rfl (lk_iload_n X dL_of_143 rfl rfl) ?_
  refine lz_cons (k' := 145) rfl (lk_bipush X dL_of_144 (by decide) rfl) ?_
  refine lz_cons (k' := 146) rfl (lz_Ok_none _ _) ?_
  refine lz_cons (k' := 147) rfl (lk_icmp_ne X dL_of_146 (by decide) rfl) ?_
  refine lz_cons (k' := 148) rfl (lz_Ok_none _ _) ?_
  refine lz_cons (k' := 149) rfl (lz_Ok_none _ _) ?_
  refine lz_cons (k' := 150) rfl (lk_aload_n X dL_of_149 rfl rfl) ?_
  refine lz_cons (k' := 151) rfl (lk_iload_n X dL_of_150 rfl rfl) ?_
  refine lz_cons (k' := 152) rfl (lk_iload_n X dL_of_151 rfl rfl) ?_
  refine lz_cons (k' := 153) rfl (lk_callh X hT Wd.2.1 rfl kc_113 (mm_X11_isBehind Wd.1) (by decide) (lz_hdO rfl rfl) dL_of_152 rfl) ?_
  refine lz_cons (k' := 154) rfl (lz_Ok_none _ _) ?_
  refine lz_cons (k' := 155) rfl (lz_Ok_none _ _) ?_
  refine lz_cons (k' := 156) rfl (lk_if_eq X dL_of_155 (by decide) rfl) ?_
  refine lz_cons (k' := 157) rfl (lz_Ok_none _ _) ?_
  refine lz_cons (k' := 158) rfl (lz_Ok_none _ _) ?_
  refine lz_cons (k' := 159) rfl (lk_iconst X dL_of_158 (by decide) rfl) ?_
  refine lz_cons (k' := 160) rfl (lk_goto X dL_of_159 (by decide)) ?_
  refine lz_cons (k' := 161) rfl (lz_Ok_none _ _) ?_
  refine lz_cons (k' := 162) rfl (lz_Ok_none _ _) ?_
  refine lz_cons (k' := 163) rfl (lk_iconst X dL_of_162 (by decide) rfl) ?_
  refine lz_cons (k' := 164) rfl (lk_goto X dL_of_163 (by decide)) ?_
  refine lz_cons (k' := 165) rfl (lz_Ok_none _ _) ?_
  refine lz_cons (k' := 166) rfl (lz_Ok_none _ _) ?_
  refine lz_cons (k' := 167) rfl (lk_iload_n X dL_of_166 rfl rfl) ?_
  refine lz_cons (k' := 168) rfl (lk_bipush X dL_of_167 (by decide) rfl) ?_
  refine lz_cons (k' := 169) rfl (lz_Ok_none _ _) ?_
  refine lz_cons (k' := 170) rfl (lk_icmp_ne X dL_of_169 (by decide) rfl) ?_
  refine lz_cons (k' := 171) rfl (lz_Ok_none _ _) ?_
  refine lz_cons (k' := 172) rfl (lz_Ok_none _ _) ?_
  refine lz_cons (k' := 173) rfl (lk_aload_n X dL_of_172 rfl rfl) ?_
  refine lz_cons (k' := 174) rfl (lk_iload_n X dL_of_173 rfl rfl) ?_
  refine lz_cons (k' := 175) rfl (lk_iload_n X dL_of_174 rfl rfl) ?_
  refine lz_cons (k' := 176) rfl (lk_iconst X dL_of_175 (by decide) rfl) ?_
  refine lz_cons (k' := 177) rfl (lk_icmp_ne X dL_of_176 (by decide) rfl) ?_
  refine lz_cons (k' := 178) rfl (lz_Ok_none _ _) ?_
  refine lz_cons (k' := 179) rfl (lz_Ok_none _ _) ?_
  refine lz_cons (k' := 180) rfl (lk_iconst X dL_of_179 (by decide) rfl) ?_
  refine lz_cons (k' := 181) rfl (lk_goto X dL_of_180 (by decide)) ?_
  refine lz_cons (k' := 182) rfl (lz_Ok_none _ _) ?_
  refine lz_cons (k' := 183) rfl (lz_Ok_none _ _) ?_
  refine lz_cons (k' := 184) rfl (lk_iconst X dL_of_183 (by decide) rfl) ?_
  refine lz_cons (k' := 185) rfl (lk_callh X hT Wd.2.1 rfl kc_117 (mm_X11_running Wd.1) (by decide) (lz_hdO rfl rfl) dL_of_184 rfl) ?_
  refine lz_cons (k' := 186) rfl (lz_Ok_none _ _) ?_
  refine lz_cons (k' := 187) rfl (lz_Ok_none _ _) ?_
  refine lz_cons (k' := 188) rfl (lk_goto X dL_of_187 (by decide)) ?_
  refine lz_cons (k' := 189) rfl (lz_Ok_none _ _) ?_
  refine lz_cons (k' := 190) rfl (lz_Ok_none _ _) ?_
  refine lz_cons (k' := 191) rfl (lk_iload_n X dL_of_190 rfl rfl) ?_
  refine lz_cons (k' := 192) rfl (lk_bipush X dL_of_191 (by decide) rfl) ?_
  refine lz_cons (k' := 193) rfl (lz_Ok_none _ _) ?_
  refine lz_cons (k' := 194) rfl (lk_icmp_ne X dL_of_193 (by decide) rfl) ?_
  refine lz_cons (k' := 195) rfl (lz_Ok_none _ _) ?_
  refine lz_cons (k' := 196) rfl (lz_Ok_none _ _) ?_
  refine lz_cons (k' := 197) rfl (lk_aload_n X dL_of_196 rfl rfl) ?_
  refine lz_cons (k' := 198) rfl (lk_iload_n X dL_of_197 rfl rfl) ?_
  refine lz_cons (k' := 199) rfl (lk_callh X hT Wd.2.1 rfl kc_120 (mm_X11_objectOf Wd.1) (by decide) (lz_hdO rfl rfl) dL_of_198 rfl) ?_
  refine lz_cons (k' := 200) rfl (lz_Ok_none _ _) ?_
  refine lz_cons (k' := 201) rfl (lz_Ok_none _ _) ?_
  refine lz_cons (k' := 202) rfl (lk_goto X dL_of_201 (by decide)) ?_
  refine lz_cons (k' := 203) rfl (lz_Ok_none _ _) ?_
  refine lz_cons (k' := 204) rfl (lz_Ok_none _ _) ?_
  refine lz_cons (k' := 205) rfl (lk_iload_n X dL_of_204 rfl rfl) ?_
  refine lz_cons (k' := 206) rfl (lk_bipush X dL_of_205 (by decide) rfl) ?_
  refine lz_cons (k' := 207) rfl (lz_Ok_none _ _) ?_
  refine lz_cons (k' := 208) rfl (lk_icmp_ne X dL_of_207 (by decide) rfl) ?_
  refine lz_cons (k' := 209) rfl (lz_Ok_none _ _) ?_
  refine lz_cons (k' := 210) rfl (lz_Ok_none _ _) ?_
  refine lz_cons (k' := 211) rfl (lk_aload_n X dL_of_210 rfl rfl) ?_
  refine lz_cons (k' := 212) rfl (lk_iload_n X dL_of_211 rfl rfl) ?_
  refine lz_cons (k' := 213) rfl (lk_callh X hT Wd.2.1 rfl kc_123 (mm_X11_seen Wd.1) (by decide) (lz_hdO rfl rfl) dL_of_212 rfl) ?_
  refine lz_cons (k' := 214) rfl (lz_Ok_none _ _) ?_
  refine lz_cons (k' := 215) rfl (lz_Ok_none _ _) ?_
  refine lz_cons (k' := 216) rfl (lk_goto X dL_of_215 (by decide)) ?_
  refine lz_cons (k' := 217) rfl (lz_Ok_none _ _) ?_
  refine lz_cons (k' := 218) rfl (lz_Ok_none _ _) ?_
  refine lz_cons (k' := 219) rfl (lk_iload_n X dL_of_218 rfl rfl) ?_
  refine lz_cons (k' := 220) rfl (lk_bipush X dL_of_219 (by decide) rfl) ?_
  refine lz_cons (k' := 221) rfl (lz_Ok_none _ _) ?_
  refine lz_cons (k' := 222) rfl (lk_icmp_ne X dL_of_221 (by decide) rfl) ?_
  refine lz_cons (k' := 223) rfl (lz_Ok_none _ _) ?_
  refine lz_cons (k' := 224) rfl (lz_Ok_none _ _) ?_
  refine lz_cons (k' := 225) rfl (lk_aload_n X dL_of_224 rfl rfl) ?_
  refine lz_cons (k' := 226) rfl (lk_iload_n X dL_of_225 rfl rfl) ?_
  refine lz_cons (k' := 227) rfl (lk_iload_n X dL_of_226 rfl rfl) ?_
  refine lz_cons (k' := 228) rfl (lk_callh X hT Wd.2.1 rfl kc_126 (mm_X11_queued Wd.1) (by decide) (lz_hdO rfl rfl) dL_of_227 rfl) ?_
  refine lz_cons (k' := 229) rfl (lz_Ok_none _ _) ?_
  refine lz_cons (k' := 230) rfl (lz_Ok_none _ _) ?_
  refine lz_cons (k' := 231) rfl (lk_goto X dL_of_230 (by decide)) ?_
  refine lz_cons (k' := 232) rfl (lz_Ok_none _ _) ?_
  refine lz_cons (k' := 233) rfl (lz_Ok_none _ _) ?_
  refine lz_cons (k' := 234) rfl (lk_iload_n X dL_of_233 rfl rfl) ?_
  refine lz_cons (k' := 235) rfl (lk_bipush X dL_of_234 (by decide) rfl) ?_
  refine lz_cons (k' := 236) rfl (lz_Ok_none _ _) ?_
  refine lz_cons (k' := 237) rfl (lk_icmp_ne X dL_of_236 (by decide) rfl) ?_
  refine lz_cons (k' := 238) rfl (lz_Ok_none _ _) ?_
  refine lz_cons (k' := 239) rfl (lz_Ok_none _ _) ?_
  refine lz_cons (k' := 240) rfl (lk_aload_n X dL_of_239 rfl rfl) ?_
  refine lz_cons (k' := 241) rfl (lk_iload_n X dL_of_240 rfl rfl) ?_
  refine lz_cons (k' := 242) rfl (lk_iload_n X dL_of_241 rfl rfl) ?_
  refine lz_cons (k' := 243) rfl (lk_callh X hT Wd.2.1 rfl kc_129 (mm_X11_failures Wd.1) (by decide) (lz_hdO rfl rfl) dL_of_242 rfl) ?_
  refine lz_cons (k' := 244) rfl (lz_Ok_none _ _) ?_
  refine lz_cons (k' := 245) rfl (lz_Ok_none _ _) ?_
  refine lz_cons (k' := 246) rfl (lk_goto X dL_of_245 (by decide)) ?_
  refine lz_cons (k' := 247) rfl (lz_Ok_none _ _) ?_
  refine lz_cons (k' := 248) rfl (lz_Ok_none _ _) ?_
  refine lz_cons (k' := 249) rfl (lk_aload_n X dL_of_248 rfl rfl) ?_
  refine lz_cons (k' := 250) rfl (lk_iload_n X dL_of_249 rfl rfl) ?_
  refine lz_cons (k' := 251) rfl (lk_iload_n X dL_of_250 rfl rfl) ?_
  refine lz_cons (k' := 252) rfl (lk_iload X dL_of_251 rfl) ?_
  refine lz_cons (k' := 253) rfl (lz_Ok_none _ _) ?_
  refine lz_cons (k' := 254) rfl (lk_callh X hT Wd.2.1 rfl kc_132 (mm_X11_believed Wd.1) (by decide) (lz_hdO rfl rfl) dL_of_253 rfl) ?_
  refine lz_cons (k' := 255) rfl (lz_Ok_none _ _) ?_
  refine lz_cons (k' := 256) rfl (lz_Ok_none _ _) ?_
  refine lz_cons (k' := 257) rfl (lk_iret X rfl dL_of_256) ?_
  refine lz_cons (k' := 258) rfl (lz_Ok_none _ _) ?_
  refine lz_cons (k' := 259) rfl (lz_Ok_none _ _) ?_
  refine lz_cons (k' := 260) rfl (lz_Ok_none _ _) ?_
  refine lz_cons (k' := 261) rfl (lz_Ok_none _ _) ?_
  refine lz_cons (k' := 262) rfl (lz_Ok_none _ _) ?_
  refine lz_cons (k' := 263) rfl (lz_Ok_none _ _) ?_
  refine lz_cons (k' := 264) rfl (lz_Ok_none _ _) ?_
  refine lz_cons (k' := 265) rfl (lz_Ok_none _ _) ?_
  refine lz_cons (k' := 266) rfl (lz_Ok_none _ _) ?_
  refine lz_cons (k' := 267) rfl (lz_Ok_none _ _) ?_
  refine lz_cons (k' := 268) rfl (lz_Ok_none _ _) ?_
  refine lz_cons (k' := 269) rfl (lz_Ok_none _ _) ?_
  exact trivial
noncomputable def tL_like : List lzOp := [
  lo_aload 0 1,
  lo_iload 1 2,
  lo_callv fX11_kindOf 1 22 5,
  lo_none,
  lo_none,
  lo_i2l 6,
  lo_pushL (7) 9,
  lo_none,
  lo_none,
  lo_aload 0 10,
  lo_iload 1 11,
  lo_callv fX11_goingOf 1 22 14,
  lo_none,
  lo_none,
  lo_i2l 15,
  lo_ll (fun x y => x * y) 16,
  lo_ll (fun x y => x + y) 17,
  lo_pushL (61) 20,
  lo_none,
  lo_none,
  lo_aload 0 21,
  lo_iload 1 22,
  lo_callv fX11_ownerOf 1 22 25,
  lo_none,
  lo_none,
  lo_i2l 26,
  lo_ll (fun x y => x * y) 27,
  lo_ll (fun x y => x + y) 28,
  lo_lstore 2 29,
  lo_pushI 0 30,
  lo_istore 4 32,
  lo_none,
  lo_iload 4 34,
  lo_none,
  lo_pushI 11 36,
  lo_none,
  lo_icmp (fun x y => decide (y ≤ x)) 77 39,
  lo_none,
  lo_none,
  lo_pushL (1000003) 42,
  lo_none,
  lo_none,
  lo_lload 2 43,
  lo_ll (fun x y => x * y) 44,
  lo_aload 0 45,
  lo_pushI 1 46,
  lo_iload 1 47,
  lo_iload 4 49,
  lo_none,
  lo_pushI 0 50,
  lo_calls fL_of 5 1 22 53,
  lo_none,
  lo_none,
  lo_i2l 54,
  lo_ll (fun x y => x + y) 55,
  lo_pushL (31) 58,
  lo_none,
  lo_none,
  lo_aload 0 59,
  lo_pushI 2 60,
  lo_iload 1 61,
  lo_iload 4 63,
  lo_none,
  lo_pushI 0 64,
  lo_calls fL_of 5 1 22 67,
  lo_none,
  lo_none,
  lo_i2l 68,
  lo_ll (fun x y => x * y) 69,
  lo_ll (fun x y => x + y) 70,
  lo_lstore 2 71,
  lo_iinc 4 1 74,
  lo_none,
  lo_none,
  lo_goto 32,
  lo_none,
  lo_none,
  lo_aload 0 78,
  lo_iload 1 79,
  lo_callv fX11_kindOf 1 22 82,
  lo_none,
  lo_none,
  lo_pushI 2 83,
  lo_icmp (fun x y => decide (¬ x = y)) 112 86,
  lo_none,
  lo_none,
  lo_pushL (31) 89,
  lo_none,
  lo_none,
  lo_lload 2 90,
  lo_ll (fun x y => x * y) 91,
  lo_aload 0 92,
  lo_iload 1 93,
  lo_callv fX11_phaseOf 1 22 96,
  lo_none,
  lo_none,
  lo_i2l 97,
  lo_ll (fun x y => x + y) 98,
  lo_pushL (7) 101,
  lo_none,
  lo_none,
  lo_aload 0 102,
  lo_iload 1 103,
  lo_callv fX11_placeOf 1 22 106,
  lo_none,
  lo_none,
  lo_i2l 107,
  lo_ll (fun x y => x * y) 108,
  lo_ll (fun x y => x + y) 109,
  lo_goto 138,
  lo_none,
  lo_none,
  lo_aload 0 113,
  lo_iload 1 114,
  lo_callv fX11_kindOf 1 22 117,
  lo_none,
  lo_none,
  lo_pushI 4 118,
  lo_icmp (fun x y => decide (¬ x = y)) 137 121,
  lo_none,
  lo_none,
  lo_aload 0 122,
  lo_iload 1 123,
  lo_callv fX11_isReady 1 22 126,
  lo_none,
  lo_none,
  lo_if (fun x => decide (x = 0)) 137 129,
  lo_none,
  lo_none,
  lo_lload 2 130,
  lo_pushL (5) 133,
  lo_none,
  lo_none,
  lo_ll (fun x y => x + y) 134,
  lo_goto 138,
  lo_none,
  lo_none,
  lo_lload 2 138,
  lo_lret 22]
set_option maxRecDepth 100000 in
theorem tl_L_like : ∀ pc, lz_Tl (tL_like.getD pc lo_none) := by
  refine lz_Tl_mem ?_
  unfold tL_like
  refine List.forall_mem_cons.mpr ⟨(lo_aload_tl _ _), ?_⟩
  refine List.forall_mem_cons.mpr ⟨(lo_iload_tl _ _), ?_⟩
  refine List.forall_mem_cons.mpr ⟨(lo_callv_tl _ _ _ _), ?_⟩
  refine List.forall_mem_cons.mpr ⟨lo_none_tl, ?_⟩
  refine List.forall_mem_cons.mpr ⟨lo_none_tl, ?_⟩
  refine List.forall_mem_cons.mpr ⟨(lo_i2l_tl _), ?_⟩
  refine List.forall_mem_cons.mpr ⟨(lo_pushL_tl _ _), ?_⟩
  refine List.forall_mem_cons.mpr ⟨lo_none_tl, ?_⟩
  refine List.forall_mem_cons.mpr ⟨lo_none_tl, ?_⟩
  refine List.forall_mem_cons.mpr ⟨(lo_aload_tl _ _), ?_⟩
  refine List.forall_mem_cons.mpr ⟨(lo_iload_tl _ _), ?_⟩
  refine List.forall_mem_cons.mpr ⟨(lo_callv_tl _ _ _ _), ?_⟩
  refine List.forall_mem_cons.mpr ⟨lo_none_tl, ?_⟩
  refine List.forall_mem_cons.mpr ⟨lo_none_tl, ?_⟩
  refine List.forall_mem_cons.mpr ⟨(lo_i2l_tl _), ?_⟩
  refine List.forall_mem_cons.mpr ⟨(lo_ll_tl _ _), ?_⟩
  refine List.forall_mem_cons.mpr ⟨(lo_ll_tl _ _), ?_⟩
  refine List.forall_mem_cons.mpr ⟨(lo_pushL_tl _ _), ?_⟩
  refine List.forall_mem_cons.mpr ⟨lo_none_tl, ?_⟩
  refine List.forall_mem_cons.mpr ⟨lo_none_tl, ?_⟩
  refine List.forall_mem_cons.mpr ⟨(lo_aload_tl _ _), ?_⟩
  refine List.forall_mem_cons.mpr ⟨(lo_iload_tl _ _), ?_⟩
  refine List.forall_mem_cons.mpr ⟨(lo_callv_tl _ _ _ _), ?_⟩
  refine List.forall_mem_cons.mpr ⟨lo_none_tl, ?_⟩
  refine List.forall_mem_cons.mpr ⟨lo_none_tl, ?_⟩
  refine List.forall_mem_cons.mpr ⟨(lo_i2l_tl _), ?_⟩
  refine List.forall_mem_cons.mpr ⟨(lo_ll_tl _ _), ?_⟩
  refine List.forall_mem_cons.mpr ⟨(lo_ll_tl _ _), ?_⟩
  refine List.forall_mem_cons.mpr ⟨(lo_lstore_tl _ _), ?_⟩
  refine List.forall_mem_cons.mpr ⟨(lo_pushI_tl _ _), ?_⟩
  refine List.forall_mem_cons.mpr ⟨(lo_istore_tl _ _), ?_⟩
  refine List.forall_mem_cons.mpr ⟨lo_none_tl, ?_⟩
  refine List.forall_mem_cons.mpr ⟨(lo_iload_tl _ _), ?_⟩
  refine List.forall_mem_cons.mpr ⟨lo_none_tl, ?_⟩
  refine List.forall_mem_cons.mpr ⟨(lo_pushI_tl _ _), ?_⟩
  refine List.forall_mem_cons.mpr ⟨lo_none_tl, ?_⟩
  refine List.forall_mem_cons.mpr ⟨(lo_icmp_tl _ _ _), ?_⟩
  refine List.forall_mem_cons.mpr ⟨lo_none_tl, ?_⟩
  refine List.forall_mem_cons.mpr ⟨lo_none_tl, ?_⟩
  refine List.forall_mem_cons.mpr ⟨(lo_pushL_tl _ _), ?_⟩
  refine List.forall_mem_cons.mpr ⟨lo_none_tl, ?_⟩
  refine List.forall_mem_cons.mpr ⟨lo_none_tl, ?_⟩
  refine List.forall_mem_cons.mpr ⟨(lo_lload_tl _ _), ?_⟩
  refine List.forall_mem_cons.mpr ⟨(lo_ll_tl _ _), ?_⟩
  refine List.forall_mem_cons.mpr ⟨(lo_aload_tl _ _), ?_⟩
  refine List.forall_mem_cons.mpr ⟨(lo_pushI_tl _ _), ?_⟩
  refine List.forall_mem_cons.mpr ⟨(lo_iload_tl _ _), ?_⟩
  refine List.forall_mem_cons.mpr ⟨(lo_iload_tl _ _), ?_⟩
  refine List.forall_mem_cons.mpr ⟨lo_none_tl, ?_⟩
  refine List.forall_mem_cons.mpr ⟨(lo_pushI_tl _ _), ?_⟩
  refine List.forall_mem_cons.mpr ⟨(lo_calls_tl _ _ _ _ _), ?_⟩
  refine List.forall_mem_cons.mpr ⟨lo_none_tl, ?_⟩
  refine List.forall_mem_cons.mpr ⟨lo_none_tl, ?_⟩
  refine List.forall_mem_cons.mpr ⟨(lo_i2l_tl _), ?_⟩
  refine List.forall_mem_cons.mpr ⟨(lo_ll_tl _ _), ?_⟩
  refine List.forall_mem_cons.mpr ⟨(lo_pushL_tl _ _), ?_⟩
  refine List.forall_mem_cons.mpr ⟨lo_none_tl, ?_⟩
  refine List.forall_mem_cons.mpr ⟨lo_none_tl, ?_⟩
  refine List.forall_mem_cons.mpr ⟨(lo_aload_tl _ _), ?_⟩
  refine List.forall_mem_cons.mpr ⟨(lo_pushI_tl _ _), ?_⟩
  refine List.forall_mem_cons.mpr ⟨(lo_iload_tl _ _), ?_⟩
  refine List.forall_mem_cons.mpr ⟨(lo_iload_tl _ _), ?_⟩
  refine List.forall_mem_cons.mpr ⟨lo_none_tl, ?_⟩
  refine List.forall_mem_cons.mpr ⟨(lo_pushI_tl _ _), ?_⟩
  refine List.forall_mem_cons.mpr ⟨(lo_calls_tl _ _ _ _ _), ?_⟩
  refine List.forall_mem_cons.mpr ⟨lo_none_tl, ?_⟩
  refine List.forall_mem_cons.mpr ⟨lo_none_tl, ?_⟩
  refine List.forall_mem_cons.mpr ⟨(lo_i2l_tl _), ?_⟩
  refine List.forall_mem_cons.mpr ⟨(lo_ll_tl _ _), ?_⟩
  refine List.forall_mem_cons.mpr ⟨(lo_ll_tl _ _), ?_⟩
  refine List.forall_mem_cons.mpr ⟨(lo_lstore_tl _ _), ?_⟩
  refine List.forall_mem_cons.mpr ⟨(lo_iinc_tl _ _ _), ?_⟩
  refine List.forall_mem_cons.mpr ⟨lo_none_tl, ?_⟩
  refine List.forall_mem_cons.mpr ⟨lo_none_tl, ?_⟩
  refine List.forall_mem_cons.mpr ⟨(lo_goto_tl _), ?_⟩
  refine List.forall_mem_cons.mpr ⟨lo_none_tl, ?_⟩
  refine List.forall_mem_cons.mpr ⟨lo_none_tl, ?_⟩
  refine List.forall_mem_cons.mpr ⟨(lo_aload_tl _ _), ?_⟩
  refine List.forall_mem_cons.mpr ⟨(lo_iload_tl _ _), ?_⟩
  refine List.forall_mem_cons.mpr ⟨(lo_callv_tl _ _ _ _), ?_⟩
  refine List.forall_mem_cons.mpr ⟨lo_none_tl, ?_⟩
  refine List.forall_mem_cons.mpr ⟨lo_none_tl, ?_⟩
  refine List.forall_mem_cons.mpr ⟨(lo_pushI_tl _ _), ?_⟩
  refine List.forall_mem_cons.mpr ⟨(lo_icmp_tl _ _ _), ?_⟩
  refine List.forall_mem_cons.mpr ⟨lo_none_tl, ?_⟩
  refine List.forall_mem_cons.mpr ⟨lo_none_tl, ?_⟩
  refine List.forall_mem_cons.mpr ⟨(lo_pushL_tl _ _), ?_⟩
  refine List.forall_mem_cons.mpr ⟨lo_none_tl, ?_⟩
  refine List.forall_mem_cons.mpr ⟨lo_none_tl, ?_⟩
  refine List.forall_mem_cons.mpr ⟨(lo_lload_tl _ _), ?_⟩
  refine List.forall_mem_cons.mpr ⟨(lo_ll_tl _ _), ?_⟩
  refine List.forall_mem_cons.mpr ⟨(lo_aload_tl _ _), ?_⟩
  refine List.forall_mem_cons.mpr ⟨(lo_iload_tl _ _), ?_⟩
  refine List.forall_mem_cons.mpr ⟨(lo_callv_tl _ _ _ _), ?_⟩
  refine List.forall_mem_cons.mpr ⟨lo_none_tl, ?_⟩
  refine List.forall_mem_cons.mpr ⟨lo_none_tl, ?_⟩
  refine List.forall_mem_cons.mpr ⟨(lo_i2l_tl _), ?_⟩
  refine List.forall_mem_cons.mpr ⟨(lo_ll_tl _ _), ?_⟩
  refine List.forall_mem_cons.mpr ⟨(lo_pushL_tl _ _), ?_⟩
  refine List.forall_mem_cons.mpr ⟨lo_none_tl, ?_⟩
  refine List.forall_mem_cons.mpr ⟨lo_none_tl, ?_⟩
  refine List.forall_mem_cons.mpr ⟨(lo_aload_tl _ _), ?_⟩
  refine List.forall_mem_cons.mpr ⟨(lo_iload_tl _ _), ?_⟩
  refine List.forall_mem_cons.mpr ⟨(lo_callv_tl _ _ _ _), ?_⟩
  refine List.forall_mem_cons.mpr ⟨lo_none_tl, ?_⟩
  refine List.forall_mem_cons.mpr ⟨lo_none_tl, ?_⟩
  refine List.forall_mem_cons.mpr ⟨(lo_i2l_tl _), ?_⟩
  refine List.forall_mem_cons.mpr ⟨(lo_ll_tl _ _), ?_⟩
  refine List.forall_mem_cons.mpr ⟨(lo_ll_tl _ _), ?_⟩
  refine List.forall_mem_cons.mpr ⟨(lo_goto_tl _), ?_⟩
  refine List.forall_mem_cons.mpr ⟨lo_none_tl, ?_⟩
  refine List.forall_mem_cons.mpr ⟨lo_none_tl, ?_⟩
  refine List.forall_mem_cons.mpr ⟨(lo_aload_tl _ _), ?_⟩
  refine List.forall_mem_cons.mpr ⟨(lo_iload_tl _ _), ?_⟩
  refine List.forall_mem_cons.mpr ⟨(lo_callv_tl _ _ _ _), ?_⟩
  refine List.forall_mem_cons.mpr ⟨lo_none_tl, ?_⟩
  refine List.forall_mem_cons.mpr ⟨lo_none_tl, ?_⟩
  refine List.forall_mem_cons.mpr ⟨(lo_pushI_tl _ _), ?_⟩
  refine List.forall_mem_cons.mpr ⟨(lo_icmp_tl _ _ _), ?_⟩
  refine List.forall_mem_cons.mpr ⟨lo_none_tl, ?_⟩
  refine List.forall_mem_cons.mpr ⟨lo_none_tl, ?_⟩
  refine List.forall_mem_cons.mpr ⟨(lo_aload_tl _ _), ?_⟩
  refine List.forall_mem_cons.mpr ⟨(lo_iload_tl _ _), ?_⟩
  refine List.forall_mem_cons.mpr ⟨(lo_callv_tl _ _ _ _), ?_⟩
  refine List.forall_mem_cons.mpr ⟨lo_none_tl, ?_⟩
  refine List.forall_mem_cons.mpr ⟨lo_none_tl, ?_⟩
  refine List.forall_mem_cons.mpr ⟨(lo_if_tl _ _ _), ?_⟩
  refine List.forall_mem_cons.mpr ⟨lo_none_tl, ?_⟩
  refine List.forall_mem_cons.mpr ⟨lo_none_tl, ?_⟩
  refine List.forall_mem_cons.mpr ⟨(lo_lload_tl _ _), ?_⟩
  refine List.forall_mem_cons.mpr ⟨(lo_pushL_tl _ _), ?_⟩
  refine List.forall_mem_cons.mpr ⟨lo_none_tl, ?_⟩
  refine List.forall_mem_cons.mpr ⟨lo_none_tl, ?_⟩
  refine List.forall_mem_cons.mpr ⟨(lo_ll_tl _ _), ?_⟩
  refine List.forall_mem_cons.mpr ⟨(lo_goto_tl _), ?_⟩
  refine List.forall_mem_cons.mpr ⟨lo_none_tl, ?_⟩
  refine List.forall_mem_cons.mpr ⟨lo_none_tl, ?_⟩
  refine List.forall_mem_cons.mpr ⟨(lo_lload_tl _ _), ?_⟩
  refine List.forall_mem_cons.mpr ⟨(lo_lret_tl _), ?_⟩
  exact fun _ h => absurd h List.not_mem_nil
noncomputable def fL_like : lzFn := lz_fn tL_like 5
set_option maxRecDepth 100000 in
set_option maxHeartbeats 4000000 in
theorem mm_L_like {l : Launch} {D : va_G} {cA : Nat → ClassId} {ad : Nat → Nat} {Ex : (Nat → Prop) → State → Heap → Prop} {sc : List Int32} (Wd : lzWd l D cA ad Ex sc) : lz_C l D zzCl cA ad zzSC Ex yL_like (Cond.code yL_like cL_like 5 (some .long)) 9 153 22 fL_like := by
  refine lz_meth (plainFor_of_name (by decide)) Wd.1.2.1 Wd.1.2.2.1 (fun p e R s m args below meth c rr X => ?_)
  unfold tL_like
  refine lz_cons (k' := 1) rfl (lk_aload_n X dL_like_0 rfl rfl) ?_
  refine lz_cons (k' := 2) rfl (lk_iload_n X dL_like_1 rfl rfl) ?_
  refine lz_cons (k' := 3) rfl (lk_callv X kc_83 (mm_X11_kindOf Wd.1) (by decide) dL_like_2 rfl) ?_
  refine lz_cons (k' := 4) rfl (lz_Ok_none _ _) ?_
  refine lz_cons (k' := 5) rfl (lz_Ok_none _ _) ?_
  refine lz_cons (k' := 6) rfl (lk_i2l X dL_like_5 rfl) ?_
  refine lz_cons (k' := 7) rfl (lk_ldc2 X (zz_at 1345 (by decide +kernel)) dL_like_6 rfl) ?_
  refine lz_cons (k' := 8) rfl (lz_Ok_none _ _) ?_
  refine lz_cons (k' := 9) rfl (lz_Ok_none _ _) ?_
  refine lz_cons (k' := 10) rfl (lk_aload_n X dL_like_9 rfl rfl) ?_
  refine lz_cons (k' := 11) rfl (lk_iload_n X dL_like_10 rfl rfl) ?_
  refine lz_cons (k' := 12) rfl (lk_callv X kc_98 (mm_X11_goingOf Wd.1) (by decide) dL_like_11 rfl) ?_
  refine lz_cons (k' := 13) rfl (lz_Ok_none _ _) ?_
  refine lz_cons (k' := 14) rfl (lz_Ok_none _ _) ?_
  refine lz_cons (k' := 15) rfl (lk_i2l X dL_like_14 rfl) ?_
  refine lz_cons (k' := 16) rfl (lk_lmul X dL_like_15 rfl) ?_
  refine lz_cons (k' := 17) rfl (lk_ladd X dL_like_16 rfl) ?_
  refine lz_cons (k' := 18) rfl (lk_ldc2 X (zz_at 1346 (by decide +kernel)) dL_like_17 rfl) ?_
  refine lz_cons (k' := 19) rfl (lz_Ok_none _ _) ?_
  refine lz_cons (k' := 20) rfl (lz_Ok_none _ _) ?_
  refine lz_cons (k' := 21) rfl (lk_aload_n X dL_like_20 rfl rfl) ?_
  refine lz_cons (k' := 22) rfl (lk_iload_n X dL_like_21 rfl rfl) ?_
  refine lz_cons (k' := 23) rfl (lk_callv X kc_101 (mm_X11_ownerOf Wd.1) (by decide) dL_like_22 rfl) ?_
  refine lz_cons (k' := 24) rfl (lz_Ok_none _ _) ?_
  refine lz_cons (k' := 25) rfl (lz_Ok_none _ _) ?_
  refine lz_cons (k' := 26) rfl (lk_i2l X dL_like_25 rfl) ?_
  refine lz_cons (k' := 27) rfl (lk_lmul X dL_like_26 rfl) ?_
  refine lz_cons (k' := 28) rfl (lk_ladd X dL_like_27 rfl) ?_
  refine lz_cons (k' := 29) rfl (lk_lstore_n X dL_like_28 rfl (by decide) rfl) ?_
  refine lz_cons (k' := 30) rfl (lk_iconst X dL_like_29 (by decide) rfl) ?_
  refine lz_cons (k' := 31) rfl (lk_istore X dL_like_30 (by decide) rfl) ?_
  refine lz_cons (k' := 32) rfl (lz_Ok_none _ _) ?_
  refine lz_cons (k' := 33) rfl (lk_iload X dL_like_32 rfl) ?_
  refine lz_cons (k' := 34) rfl (lz_Ok_none _ _) ?_
  refine lz_cons (k' := 35) rfl (lk_bipush X dL_like_34 (by decide) rfl) ?_
  refine lz_cons (k' := 36) rfl (lz_Ok_none _ _) ?_
  refine lz_cons (k' := 37) rfl (lk_icmp_ge X dL_like_36 (by decide) rfl) ?_
  refine lz_cons (k' := 38) rfl (lz_Ok_none _ _) ?_
  refine lz_cons (k' := 39) rfl (lz_Ok_none _ _) ?_
  refine lz_cons (k' := 40) rfl (lk_ldc2 X (zz_at 1341 (by decide +kernel)) dL_like_39 rfl) ?_
  refine lz_cons (k' := 41) rfl (lz_Ok_none _ _) ?_
  refine lz_cons (k' := 42) rfl (lz_Ok_none _ _) ?_
  refine lz_cons (k' := 43) rfl (lk_lload_n X dL_like_42 rfl rfl) ?_
  refine lz_cons (k' := 44) rfl (lk_lmul X dL_like_43 rfl) ?_
  refine lz_cons (k' := 45) rfl (lk_aload_n X dL_like_44 rfl rfl) ?_
  refine lz_cons (k' := 46) rfl (lk_iconst X dL_like_45 (by decide) rfl) ?_
  refine lz_cons (k' := 47) rfl (lk_iload_n X dL_like_46 rfl rfl) ?_
  refine lz_cons (k' := 48) rfl (lk_iload X dL_like_47 rfl) ?_
  refine lz_cons (k' := 49) rfl (lz_Ok_none _ _) ?_
  refine lz_cons (k' := 50) rfl (lk_iconst X dL_like_49 (by decide) rfl) ?_
  refine lz_cons (k' := 51) rfl (lk_calls X kl_141 (mm_L_of Wd) (by decide) dL_like_50 rfl) ?_
  refine lz_cons (k' := 52) rfl (lz_Ok_none _ _) ?_
  refine lz_cons (k' := 53) rfl (lz_Ok_none _ _) ?_
  refine lz_cons (k' := 54) rfl (lk_i2l X dL_like_53 rfl) ?_
  refine lz_cons (k' := 55) rfl (lk_ladd X dL_like_54 rfl) ?_
  refine lz_cons (k' := 56) rfl (lk_ldc2 X (zz_at 1340 (by decide +kernel)) dL_like_55 rfl) ?_
  refine lz_cons (k' := 57) rfl (lz_Ok_none _ _) ?_
  refine lz_cons (k' := 58) rfl (lz_Ok_none _ _) ?_
  refine lz_cons (k' := 59) rfl (lk_aload_n X dL_like_58 rfl rfl) ?_
  refine lz_cons (k' := 60) rfl (lk_iconst X dL_like_59 (by decide) rfl) ?_
  refine lz_cons (k' := 61) rfl (lk_iload_n X dL_like_60 rfl rfl) ?_
  refine lz_cons (k' := 62) rfl (lk_iload X dL_like_61 rfl) ?_
  refine lz_cons (k' := 63) rfl (lz_Ok_none _ _) ?_
  refine lz_cons (k' := 64) rfl (lk_iconst X dL_like_63 (by decide) rfl) ?_
  refine lz_cons (k' := 65) rfl (lk_calls X kl_141 (mm_L_of Wd) (by decide) dL_like_64 rfl) ?_
  refine lz_cons (k' := 66) rfl (lz_Ok_none _ _) ?_
  refine lz_cons (k' := 67) rfl (lz_Ok_none _ _) ?_
  refine lz_cons (k' := 68) rfl (lk_i2l X dL_like_67 rfl) ?_
  refine lz_cons (k' := 69) rfl (lk_lmul X dL_like_68 rfl) ?_
  refine lz_cons (k' := 70) rfl (lk_ladd X dL_like_69 rfl) ?_
  refine lz_cons (k' := 71) rfl (lk_lstore_n X dL_like_70 rfl (by decide) rfl) ?_
  refine lz_cons (k' := 72) rfl (lk_iinc X dL_like_71 (by decide) (by decide) rfl) ?_
  refine lz_cons (k' := 73) rfl (lz_Ok_none _ _) ?_
  refine lz_cons (k' := 74) rfl (lz_Ok_none _ _) ?_
  refine lz_cons (k' := 75) rfl (lk_goto X dL_like_74 (by decide)) ?_
  refine lz_cons (k' := 76) rfl (lz_Ok_none _ _) ?_
  refine lz_cons (k' := 77) rfl (lz_Ok_none _ _) ?_
  refine lz_cons (k' := 78) rfl (lk_aload_n X dL_like_77 rfl rfl) ?_
  refine lz_cons (k' := 79) rfl (lk_iload_n X dL_like_78 rfl rfl) ?_
  refine lz_cons (k' := 80) rfl (lk_callv X kc_83 (mm_X11_kindOf Wd.1) (by decide) dL_like_79 rfl) ?_
  refine lz_cons (k' := 81) rfl (lz_Ok_none _ _) ?_
  refine lz_cons (k' := 82) rfl (lz_Ok_none _ _) ?_
  refine lz_cons (k' := 83) rfl (lk_iconst X dL_like_82 (by decide) rfl) ?_
  refine lz_cons (k' := 84) rfl (lk_icmp_ne X dL_like_83 (by decide) rfl) ?_
  refine lz_cons (k' := 85) rfl (lz_Ok_none _ _) ?_
  refine lz_cons (k' := 86) rfl (lz_Ok_none _ _) ?_
  refine lz_cons (k' := 87) rfl (lk_ldc2 X (zz_at 1340 (by decide +kernel)) dL_like_86 rfl) ?_
  refine lz_cons (k' := 88) rfl (lz_Ok_none _ _) ?_
  refine lz_cons (k' := 89) rfl (lz_Ok_none _ _) ?_
  refine lz_cons (k' := 90) rfl (lk_lload_n X dL_like_89 rfl rfl) ?_
  refine lz_cons (k' := 91) rfl (lk_lmul X dL_like_90 rfl) ?_
  refine lz_cons (k' := 92) rfl (lk_aload_n X dL_like_91 rfl rfl) ?_
  refine lz_cons (k' := 93) rfl (lk_iload_n X dL_like_92 rfl rfl) ?_
  refine lz_cons (k' := 94) rfl (lk_callv X kc_104 (mm_X11_phaseOf Wd.1) (by decide) dL_like_93 rfl) ?_
  refine lz_cons (k' := 95) rfl (lz_Ok_none _ _) ?_
  refine lz_cons (k' := 96) rfl (lz_Ok_none _ _) ?_
  refine lz_cons (k' := 97) rfl (lk_i2l X dL_like_96 rfl) ?_
  refine lz_cons (k' := 98) rfl (lk_ladd X dL_like_97 rfl) ?_
  refine lz_cons (k' := 99) rfl (lk_ldc2 X (zz_at 1345 (by decide +kernel)) dL_like_98 rfl) ?_
  refine lz_cons (k' := 100) rfl (lz_Ok_none _ _) ?_
  refine lz_cons (k' := 101) rfl (lz_Ok_none _ _) ?_
  refine lz_cons (k' := 102) rfl (lk_aload_n X dL_like_101 rfl rfl) ?_
  refine lz_cons (k' := 103) rfl (lk_iload_n X dL_like_102 rfl rfl) ?_
  refine lz_cons (k' := 104) rfl (lk_callv X kc_107 (mm_X11_placeOf Wd.1) (by decide) dL_like_103 rfl) ?_
  refine lz_cons (k' := 105) rfl (lz_Ok_none _ _) ?_
  refine lz_cons (k' := 106) rfl (lz_Ok_none _ _) ?_
  refine lz_cons (k' := 107) rfl (lk_i2l X dL_like_106 rfl) ?_
  refine lz_cons (k' := 108) rfl (lk_lmul X dL_like_107 rfl) ?_
  refine lz_cons (k' := 109) rfl (lk_ladd X dL_like_108 rfl) ?_
  refine lz_cons (k' := 110) rfl (lk_goto X dL_like_109 (by decide)) ?_
  refine lz_cons (k' := 111) rfl (lz_Ok_none _ _) ?_
  refine lz_cons (k' := 112) rfl (lz_Ok_none _ _) ?_
  refine lz_cons (k' := 113) rfl (lk_aload_n X dL_like_112 rfl rfl) ?_
  refine lz_cons (k' := 114) rfl (lk_iload_n X dL_like_113 rfl rfl) ?_
  refine lz_cons (k' := 115) rfl (lk_callv X kc_83 (mm_X11_kindOf Wd.1) (by decide) dL_like_114 rfl) ?_
  refine lz_cons (k' := 116) rfl (lz_Ok_none _ _) ?_
  refine lz_cons (k' := 117) rfl (lz_Ok_none _ _) ?_
  refine lz_cons (k' := 118) rfl (lk_iconst X dL_like_117 (by decide) rfl) ?_
  refine lz_cons (k' := 119) rfl (lk_icmp_ne X dL_like_118 (by decide) rfl) ?_
  refine lz_cons (k' := 120) rfl (lz_Ok_none _ _) ?_
  refine lz_cons (k' := 121) rfl (lz_Ok_none _ _) ?_
  refine lz_cons (k' := 122) rfl (lk_aload_n X dL_like_121 rfl rfl) ?_
  refine lz_cons (k' := 123) rfl (lk_iload_n X dL_like_122 rfl rfl) ?_
  refine lz_cons (k' := 124) rfl (lk_callv X kc_110 (mm_X11_isReady Wd.1) (by decide) dL_like_123 rfl) ?_
  refine lz_cons (k' := 125) rfl (lz_Ok_none _ _) ?_
  refine lz_cons (k' := 126) rfl (lz_Ok_none _ _) ?_
  refine lz_cons (k' := 127) rfl (lk_if_eq X dL_like_126 (by decide) rfl) ?_
  refine lz_cons (k' := 128) rfl (lz_Ok_none _ _) ?_
  refine lz_cons (k' := 129) rfl (lz_Ok_none _ _) ?_
  refine lz_cons (k' := 130) rfl (lk_lload_n X dL_like_129 rfl rfl) ?_
  refine lz_cons (k' := 131) rfl (lk_ldc2 X (zz_at 1347 (by decide +kernel)) dL_like_130 rfl) ?_
  refine lz_cons (k' := 132) rfl (lz_Ok_none _ _) ?_
  refine lz_cons (k' := 133) rfl (lz_Ok_none _ _) ?_
  refine lz_cons (k' := 134) rfl (lk_ladd X dL_like_133 rfl) ?_
  refine lz_cons (k' := 135) rfl (lk_goto X dL_like_134 (by decide)) ?_
  refine lz_cons (k' := 136) rfl (lz_Ok_none _ _) ?_
  refine lz_cons (k' := 137) rfl (lz_Ok_none _ _) ?_
  refine lz_cons (k' := 138) rfl (lk_lload_n X dL_like_137 rfl rfl) ?_
  refine lz_cons (k' := 139) rfl (lk_lret X rfl dL_like_138) ?_
  exact trivial
noncomputable def tL_all : List lzOp := [
  lo_aload 0 1,
  lo_callv fX11_version 0 1320 4,
  lo_none,
  lo_none,
  lo_i2l 5,
  lo_pushL (31) 8,
  lo_none,
  lo_none,
  lo_aload 0 9,
  lo_callv fX11_objects 0 1320 12,
  lo_none,
  lo_none,
  lo_i2l 13,
  lo_ll (fun x y => x * y) 14,
  lo_ll (fun x y => x + y) 15,
  lo_lstore 1 16,
  lo_pushI 0 17,
  lo_istore 3 18,
  lo_iload 3 19,
  lo_aload 0 20,
  lo_callv fX11_objects 0 1320 23,
  lo_none,
  lo_none,
  lo_icmp (fun x y => decide (y ≤ x)) 55 26,
  lo_none,
  lo_none,
  lo_pushL (1000003) 29,
  lo_none,
  lo_none,
  lo_lload 1 30,
  lo_ll (fun x y => x * y) 31,
  lo_aload 0 32,
  lo_iload 3 33,
  lo_calls fL_like 2 22 1320 36,
  lo_none,
  lo_none,
  lo_ll (fun x y => x + y) 37,
  lo_pushL (7) 40,
  lo_none,
  lo_none,
  lo_aload 0 41,
  lo_iload 3 42,
  lo_callv fX11_versionOf 1 1320 45,
  lo_none,
  lo_none,
  lo_i2l 46,
  lo_ll (fun x y => x * y) 47,
  lo_ll (fun x y => x + y) 48,
  lo_lstore 1 49,
  lo_iinc 3 1 52,
  lo_none,
  lo_none,
  lo_goto 18,
  lo_none,
  lo_none,
  lo_pushI 0 56,
  lo_istore 3 57,
  lo_iload 3 58,
  lo_pushI 8 60,
  lo_none,
  lo_icmp (fun x y => decide (y ≤ x)) 106 63,
  lo_none,
  lo_none,
  lo_pushL (31) 66,
  lo_none,
  lo_none,
  lo_lload 1 67,
  lo_ll (fun x y => x * y) 68,
  lo_aload 0 69,
  lo_iload 3 70,
  lo_callv fX11_seen 1 1320 73,
  lo_none,
  lo_none,
  lo_i2l 74,
  lo_ll (fun x y => x + y) 75,
  lo_pushL (7) 78,
  lo_none,
  lo_none,
  lo_aload 0 79,
  lo_iload 3 80,
  lo_pushI 0 81,
  lo_callv fX11_queued 2 1320 84,
  lo_none,
  lo_none,
  lo_i2l 85,
  lo_ll (fun x y => x * y) 86,
  lo_ll (fun x y => x + y) 87,
  lo_pushL (3) 90,
  lo_none,
  lo_none,
  lo_aload 0 91,
  lo_iload 3 92,
  lo_pushI 2 93,
  lo_callv fX11_queued 2 1320 96,
  lo_none,
  lo_none,
  lo_i2l 97,
  lo_ll (fun x y => x * y) 98,
  lo_ll (fun x y => x + y) 99,
  lo_lstore 1 100,
  lo_iinc 3 1 103,
  lo_none,
  lo_none,
  lo_goto 57,
  lo_none,
  lo_none,
  lo_lload 1 107,
  lo_lret 1320]
set_option maxRecDepth 100000 in
theorem tl_L_all : ∀ pc, lz_Tl (tL_all.getD pc lo_none) := by
  refine lz_Tl_mem ?_
  unfold tL_all
  refine List.forall_mem_cons.mpr ⟨(lo_aload_tl _ _), ?_⟩
  refine List.forall_mem_cons.mpr ⟨(lo_callv_tl _ _ _ _), ?_⟩
  refine List.forall_mem_cons.mpr ⟨lo_none_tl, ?_⟩
  refine List.forall_mem_cons.mpr ⟨lo_none_tl, ?_⟩
  refine List.forall_mem_cons.mpr ⟨(lo_i2l_tl _), ?_⟩
  refine List.forall_mem_cons.mpr ⟨(lo_pushL_tl _ _), ?_⟩
  refine List.forall_mem_cons.mpr ⟨lo_none_tl, ?_⟩
  refine List.forall_mem_cons.mpr ⟨lo_none_tl, ?_⟩
  refine List.forall_mem_cons.mpr ⟨(lo_aload_tl _ _), ?_⟩
  refine List.forall_mem_cons.mpr ⟨(lo_callv_tl _ _ _ _), ?_⟩
  refine List.forall_mem_cons.mpr ⟨lo_none_tl, ?_⟩
  refine List.forall_mem_cons.mpr ⟨lo_none_tl, ?_⟩
  refine List.forall_mem_cons.mpr ⟨(lo_i2l_tl _), ?_⟩
  refine List.forall_mem_cons.mpr ⟨(lo_ll_tl _ _), ?_⟩
  refine List.forall_mem_cons.mpr ⟨(lo_ll_tl _ _), ?_⟩
  refine List.forall_mem_cons.mpr ⟨(lo_lstore_tl _ _), ?_⟩
  refine List.forall_mem_cons.mpr ⟨(lo_pushI_tl _ _), ?_⟩
  refine List.forall_mem_cons.mpr ⟨(lo_istore_tl _ _), ?_⟩
  refine List.forall_mem_cons.mpr ⟨(lo_iload_tl _ _), ?_⟩
  refine List.forall_mem_cons.mpr ⟨(lo_aload_tl _ _), ?_⟩
  refine List.forall_mem_cons.mpr ⟨(lo_callv_tl _ _ _ _), ?_⟩
  refine List.forall_mem_cons.mpr ⟨lo_none_tl, ?_⟩
  refine List.forall_mem_cons.mpr ⟨lo_none_tl, ?_⟩
  refine List.forall_mem_cons.mpr ⟨(lo_icmp_tl _ _ _), ?_⟩
  refine List.forall_mem_cons.mpr ⟨lo_none_tl, ?_⟩
  refine List.forall_mem_cons.mpr ⟨lo_none_tl, ?_⟩
  refine List.forall_mem_cons.mpr ⟨(lo_pushL_tl _ _), ?_⟩
  refine List.forall_mem_cons.mpr ⟨lo_none_tl, ?_⟩
  refine List.forall_mem_cons.mpr ⟨lo_none_tl, ?_⟩
  refine List.forall_mem_cons.mpr ⟨(lo_lload_tl _ _), ?_⟩
  refine List.forall_mem_cons.mpr ⟨(lo_ll_tl _ _), ?_⟩
  refine List.forall_mem_cons.mpr ⟨(lo_aload_tl _ _), ?_⟩
  refine List.forall_mem_cons.mpr ⟨(lo_iload_tl _ _), ?_⟩
  refine List.forall_mem_cons.mpr ⟨(lo_calls_tl _ _ _ _ _), ?_⟩
  refine List.forall_mem_cons.mpr ⟨lo_none_tl, ?_⟩
  refine List.forall_mem_cons.mpr ⟨lo_none_tl, ?_⟩
  refine List.forall_mem_cons.mpr ⟨(lo_ll_tl _ _), ?_⟩
  refine List.forall_mem_cons.mpr ⟨(lo_pushL_tl _ _), ?_⟩
  refine List.forall_mem_cons.mpr ⟨lo_none_tl, ?_⟩
  refine List.forall_mem_cons.mpr ⟨lo_none_tl, ?_⟩
  refine List.forall_mem_cons.mpr ⟨(lo_aload_tl _ _), ?_⟩
  refine List.forall_mem_cons.mpr ⟨(lo_iload_tl _ _), ?_⟩
  refine List.forall_mem_cons.mpr ⟨(lo_callv_tl _ _ _ _), ?_⟩
  refine List.forall_mem_cons.mpr ⟨lo_none_tl, ?_⟩
  refine List.forall_mem_cons.mpr ⟨lo_none_tl, ?_⟩
  refine List.forall_mem_cons.mpr ⟨(lo_i2l_tl _), ?_⟩
  refine List.forall_mem_cons.mpr ⟨(lo_ll_tl _ _), ?_⟩
  refine List.forall_mem_cons.mpr ⟨(lo_ll_tl _ _), ?_⟩
  refine List.forall_mem_cons.mpr ⟨(lo_lstore_tl _ _), ?_⟩
  refine List.forall_mem_cons.mpr ⟨(lo_iinc_tl _ _ _), ?_⟩
  refine List.forall_mem_cons.mpr ⟨lo_none_tl, ?_⟩
  refine List.forall_mem_cons.mpr ⟨lo_none_tl, ?_⟩
  refine List.forall_mem_cons.mpr ⟨(lo_goto_tl _), ?_⟩
  refine List.forall_mem_cons.mpr ⟨lo_none_tl, ?_⟩
  refine List.forall_mem_cons.mpr ⟨lo_none_tl, ?_⟩
  refine List.forall_mem_cons.mpr ⟨(lo_pushI_tl _ _), ?_⟩
  refine List.forall_mem_cons.mpr ⟨(lo_istore_tl _ _), ?_⟩
  refine List.forall_mem_cons.mpr ⟨(lo_iload_tl _ _), ?_⟩
  refine List.forall_mem_cons.mpr ⟨(lo_pushI_tl _ _), ?_⟩
  refine List.forall_mem_cons.mpr ⟨lo_none_tl, ?_⟩
  refine List.forall_mem_cons.mpr ⟨(lo_icmp_tl _ _ _), ?_⟩
  refine List.forall_mem_cons.mpr ⟨lo_none_tl, ?_⟩
  refine List.forall_mem_cons.mpr ⟨lo_none_tl, ?_⟩
  refine List.forall_mem_cons.mpr ⟨(lo_pushL_tl _ _), ?_⟩
  refine List.forall_mem_cons.mpr ⟨lo_none_tl, ?_⟩
  refine List.forall_mem_cons.mpr ⟨lo_none_tl, ?_⟩
  refine List.forall_mem_cons.mpr ⟨(lo_lload_tl _ _), ?_⟩
  refine List.forall_mem_cons.mpr ⟨(lo_ll_tl _ _), ?_⟩
  refine List.forall_mem_cons.mpr ⟨(lo_aload_tl _ _), ?_⟩
  refine List.forall_mem_cons.mpr ⟨(lo_iload_tl _ _), ?_⟩
  refine List.forall_mem_cons.mpr ⟨(lo_callv_tl _ _ _ _), ?_⟩
  refine List.forall_mem_cons.mpr ⟨lo_none_tl, ?_⟩
  refine List.forall_mem_cons.mpr ⟨lo_none_tl, ?_⟩
  refine List.forall_mem_cons.mpr ⟨(lo_i2l_tl _), ?_⟩
  refine List.forall_mem_cons.mpr ⟨(lo_ll_tl _ _), ?_⟩
  refine List.forall_mem_cons.mpr ⟨(lo_pushL_tl _ _), ?_⟩
  refine List.forall_mem_cons.mpr ⟨lo_none_tl, ?_⟩
  refine List.forall_mem_cons.mpr ⟨lo_none_tl, ?_⟩
  refine List.forall_mem_cons.mpr ⟨(lo_aload_tl _ _), ?_⟩
  refine List.forall_mem_cons.mpr ⟨(lo_iload_tl _ _), ?_⟩
  refine List.forall_mem_cons.mpr ⟨(lo_pushI_tl _ _), ?_⟩
  refine List.forall_mem_cons.mpr ⟨(lo_callv_tl _ _ _ _), ?_⟩
  refine List.forall_mem_cons.mpr ⟨lo_none_tl, ?_⟩
  refine List.forall_mem_cons.mpr ⟨lo_none_tl, ?_⟩
  refine List.forall_mem_cons.mpr ⟨(lo_i2l_tl _), ?_⟩
  refine List.forall_mem_cons.mpr ⟨(lo_ll_tl _ _), ?_⟩
  refine List.forall_mem_cons.mpr ⟨(lo_ll_tl _ _), ?_⟩
  refine List.forall_mem_cons.mpr ⟨(lo_pushL_tl _ _), ?_⟩
  refine List.forall_mem_cons.mpr ⟨lo_none_tl, ?_⟩
  refine List.forall_mem_cons.mpr ⟨lo_none_tl, ?_⟩
  refine List.forall_mem_cons.mpr ⟨(lo_aload_tl _ _), ?_⟩
  refine List.forall_mem_cons.mpr ⟨(lo_iload_tl _ _), ?_⟩
  refine List.forall_mem_cons.mpr ⟨(lo_pushI_tl _ _), ?_⟩
  refine List.forall_mem_cons.mpr ⟨(lo_callv_tl _ _ _ _), ?_⟩
  refine List.forall_mem_cons.mpr ⟨lo_none_tl, ?_⟩
  refine List.forall_mem_cons.mpr ⟨lo_none_tl, ?_⟩
  refine List.forall_mem_cons.mpr ⟨(lo_i2l_tl _), ?_⟩
  refine List.forall_mem_cons.mpr ⟨(lo_ll_tl _ _), ?_⟩
  refine List.forall_mem_cons.mpr ⟨(lo_ll_tl _ _), ?_⟩
  refine List.forall_mem_cons.mpr ⟨(lo_lstore_tl _ _), ?_⟩
  refine List.forall_mem_cons.mpr ⟨(lo_iinc_tl _ _ _), ?_⟩
  refine List.forall_mem_cons.mpr ⟨lo_none_tl, ?_⟩
  refine List.forall_mem_cons.mpr ⟨lo_none_tl, ?_⟩
  refine List.forall_mem_cons.mpr ⟨(lo_goto_tl _), ?_⟩
  refine List.forall_mem_cons.mpr ⟨lo_none_tl, ?_⟩
  refine List.forall_mem_cons.mpr ⟨lo_none_tl, ?_⟩
  refine List.forall_mem_cons.mpr ⟨(lo_lload_tl _ _), ?_⟩
  refine List.forall_mem_cons.mpr ⟨(lo_lret_tl _), ?_⟩
  exact fun _ h => absurd h List.not_mem_nil
noncomputable def fL_all : lzFn := lz_fn tL_all 4
set_option maxRecDepth 100000 in
set_option maxHeartbeats 4000000 in
theorem mm_L_all {l : Launch} {D : va_G} {cA : Nat → ClassId} {ad : Nat → Nat} {Ex : (Nat → Prop) → State → Heap → Prop} {sc : List Int32} (Wd : lzWd l D cA ad Ex sc) : lz_C l D zzCl cA ad zzSC Ex yL_all (Cond.code yL_all cL_all 4 (some .long)) 10 177 1320 fL_all := by
  refine lz_meth (plainFor_of_name (by decide)) Wd.1.2.1 Wd.1.2.2.1 (fun p e R s m args below meth c rr X => ?_)
  unfold tL_all
  refine lz_cons (k' := 1) rfl (lk_aload_n X dL_all_0 rfl rfl) ?_
  refine lz_cons (k' := 2) rfl (lk_callv X kc_151 (mm_X11_version Wd.1) (by decide) dL_all_1 rfl) ?_
  refine lz_cons (k' := 3) rfl (lz_Ok_none _ _) ?_
  refine lz_cons (k' := 4) rfl (lz_Ok_none _ _) ?_
  refine lz_cons (k' := 5) rfl (lk_i2l X dL_all_4 rfl) ?_
  refine lz_cons (k' := 6) rfl (lk_ldc2 X (zz_at 1340 (by decide +kernel)) dL_all_5 rfl) ?_
  refine lz_cons (k' := 7) rfl (lz_Ok_none _ _) ?_
  refine lz_cons (k' := 8) rfl (lz_Ok_none _ _) ?_
  refine lz_cons (k' := 9) rfl (lk_aload_n X dL_all_8 rfl rfl) ?_
  refine lz_cons (k' := 10) rfl (lk_callv X kc_155 (mm_X11_objects Wd.1) (by decide) dL_all_9 rfl) ?_
  refine lz_cons (k' := 11) rfl (lz_Ok_none _ _) ?_
  refine lz_cons (k' := 12) rfl (lz_Ok_none _ _) ?_
  refine lz_cons (k' := 13) rfl (lk_i2l X dL_all_12 rfl) ?_
  refine lz_cons (k' := 14) rfl (lk_lmul X dL_all_13 rfl) ?_
  refine lz_cons (k' := 15) rfl (lk_ladd X dL_all_14 rfl) ?_
  refine lz_cons (k' := 16) rfl (lk_lstore_n X dL_all_15 rfl (by decide) rfl) ?_
  refine lz_cons (k' := 17) rfl (lk_iconst X dL_all_16 (by decide) rfl) ?_
  refine lz_cons (k' := 18) rfl (lk_istore_n X dL_all_17 rfl (by decide) rfl) ?_
  refine lz_cons (k' := 19) rfl (lk_iload_n X dL_all_18 rfl rfl) ?_
  refine lz_cons (k' := 20) rfl (lk_aload_n X dL_all_19 rfl rfl) ?_
  refine lz_cons (k' := 21) rfl (lk_callv X kc_155 (mm_X11_objects Wd.1) (by decide) dL_all_20 rfl) ?_
  refine lz_cons (k' := 22) rfl (lz_Ok_none _ _) ?_
  refine lz_cons (k' := 23) rfl (lz_Ok_none _ _) ?_
  refine lz_cons (k' := 24) rfl (lk_icmp_ge X dL_all_23 (by decide) rfl) ?_
  refine lz_cons (k' := 25) rfl (lz_Ok_none _ _) ?_
  refine lz_cons (k' := 26) rfl (lz_Ok_none _ _) ?_
  refine lz_cons (k' := 27) rfl (lk_ldc2 X (zz_at 1341 (by decide +kernel)) dL_all_26 rfl) ?_
  refine lz_cons (k' := 28) rfl (lz_Ok_none _ _) ?_
  refine lz_cons (k' := 29) rfl (lz_Ok_none _ _) ?_
  refine lz_cons (k' := 30) rfl (lk_lload_n X dL_all_29 rfl rfl) ?_
  refine lz_cons (k' := 31) rfl (lk_lmul X dL_all_30 rfl) ?_
  refine lz_cons (k' := 32) rfl (lk_aload_n X dL_all_31 rfl rfl) ?_
  refine lz_cons (k' := 33) rfl (lk_iload_n X dL_all_32 rfl rfl) ?_
  refine lz_cons (k' := 34) rfl (lk_calls X kl_158 (mm_L_like Wd) (by decide) dL_all_33 rfl) ?_
  refine lz_cons (k' := 35) rfl (lz_Ok_none _ _) ?_
  refine lz_cons (k' := 36) rfl (lz_Ok_none _ _) ?_
  refine lz_cons (k' := 37) rfl (lk_ladd X dL_all_36 rfl) ?_
  refine lz_cons (k' := 38) rfl (lk_ldc2 X (zz_at 1345 (by decide +kernel)) dL_all_37 rfl) ?_
  refine lz_cons (k' := 39) rfl (lz_Ok_none _ _) ?_
  refine lz_cons (k' := 40) rfl (lz_Ok_none _ _) ?_
  refine lz_cons (k' := 41) rfl (lk_aload_n X dL_all_40 rfl rfl) ?_
  refine lz_cons (k' := 42) rfl (lk_iload_n X dL_all_41 rfl rfl) ?_
  refine lz_cons (k' := 43) rfl (lk_callv X kc_95 (mm_X11_versionOf Wd.1) (by decide) dL_all_42 rfl) ?_
  refine lz_cons (k' := 44) rfl (lz_Ok_none _ _) ?_
  refine lz_cons (k' := 45) rfl (lz_Ok_none _ _) ?_
  refine lz_cons (k' := 46) rfl (lk_i2l X dL_all_45 rfl) ?_
  refine lz_cons (k' := 47) rfl (lk_lmul X dL_all_46 rfl) ?_
  refine lz_cons (k' := 48) rfl (lk_ladd X dL_all_47 rfl) ?_
  refine lz_cons (k' := 49) rfl (lk_lstore_n X dL_all_48 rfl (by decide) rfl) ?_
  refine lz_cons (k' := 50) rfl (lk_iinc X dL_all_49 (by decide) (by decide) rfl) ?_
  refine lz_cons (k' := 51) rfl (lz_Ok_none _ _) ?_
  refine lz_cons (k' := 52) rfl (lz_Ok_none _ _) ?_
  refine lz_cons (k' := 53) rfl (lk_goto X dL_all_52 (by decide)) ?_
  refine lz_cons (k' := 54) rfl (lz_Ok_none _ _) ?_
  refine lz_cons (k' := 55) rfl (lz_Ok_none _ _) ?_
  refine lz_cons (k' := 56) rfl (lk_iconst X dL_all_55 (by decide) rfl) ?_
  refine lz_cons (k' := 57) rfl (lk_istore_n X dL_all_56 rfl (by decide) rfl) ?_
  refine lz_cons (k' := 58) rfl (lk_iload_n X dL_all_57 rfl rfl) ?_
  refine lz_cons (k' := 59) rfl (lk_bipush X dL_all_58 (by decide) rfl) ?_
  refine lz_cons (k' := 60) rfl (lz_Ok_none _ _) ?_
  refine lz_cons (k' := 61) rfl (lk_icmp_ge X dL_all_60 (by decide) rfl) ?_
  refine lz_cons (k' := 62) rfl (lz_Ok_none _ _) ?_
  refine lz_cons (k' := 63) rfl (lz_Ok_none _ _) ?_
  refine lz_cons (k' := 64) rfl (lk_ldc2 X (zz_at 1340 (by decide +kernel)) dL_all_63 rfl) ?_
  refine lz_cons (k' := 65) rfl (lz_Ok_none _ _) ?_
  refine lz_cons (k' := 66) rfl (lz_Ok_none _ _) ?_
  refine lz_cons (k' := 67) rfl (lk_lload_n X dL_all_66 rfl rfl) ?_
  refine lz_cons (k' := 68) rfl (lk_lmul X dL_all_67 rfl) ?_
  refine lz_cons (k' := 69) rfl (lk_aload_n X dL_all_68 rfl rfl) ?_
  refine lz_cons (k' := 70) rfl (lk_iload_n X dL_all_69 rfl rfl) ?_
  refine lz_cons (k' := 71) rfl (lk_callv X kc_123 (mm_X11_seen Wd.1) (by decide) dL_all_70 rfl) ?_
  refine lz_cons (k' := 72) rfl (lz_Ok_none _ _) ?_
  refine lz_cons (k' := 73) rfl (lz_Ok_none _ _) ?_
  refine lz_cons (k' := 74) rfl (lk_i2l X dL_all_73 rfl) ?_
  refine lz_cons (k' := 75) rfl (lk_ladd X dL_all_74 rfl) ?_
  refine lz_cons (k' := 76) rfl (lk_ldc2 X (zz_at 1345 (by decide +kernel)) dL_all_75 rfl) ?_
  refine lz_cons (k' := 77) rfl (lz_Ok_none _ _) ?_
  refine lz_cons (k' := 78) rfl (lz_Ok_none _ _) ?_
  refine lz_cons (k' := 79) rfl (lk_aload_n X dL_all_78 rfl rfl) ?_
  refine lz_cons (k' := 80) rfl (lk_iload_n X dL_all_79 rfl rfl) ?_
  refine lz_cons (k' := 81) rfl (lk_iconst X dL_all_80 (by decide) rfl) ?_
  refine lz_cons (k' := 82) rfl (lk_callv X kc_126 (mm_X11_queued Wd.1) (by decide) dL_all_81 rfl) ?_
  refine lz_cons (k' := 83) rfl (lz_Ok_none _ _) ?_
  refine lz_cons (k' := 84) rfl (lz_Ok_none _ _) ?_
  refine lz_cons (k' := 85) rfl (lk_i2l X dL_all_84 rfl) ?_
  refine lz_cons (k' := 86) rfl (lk_lmul X dL_all_85 rfl) ?_
  refine lz_cons (k' := 87) rfl (lk_ladd X dL_all_86 rfl) ?_
  refine lz_cons (k' := 88) rfl (lk_ldc2 X (zz_at 1348 (by decide +kernel)) dL_all_87 rfl) ?_
  refine lz_cons (k' := 89) rfl (lz_Ok_none _ _) ?_
  refine lz_cons (k' := 90) rfl (lz_Ok_none _ _) ?_
  refine lz_cons (k' := 91) rfl (lk_aload_n X dL_all_90 rfl rfl) ?_
  refine lz_cons (k' := 92) rfl (lk_iload_n X dL_all_91 rfl rfl) ?_
  refine lz_cons (k' := 93) rfl (lk_iconst X dL_all_92 (by decide) rfl) ?_
  refine lz_cons (k' := 94) rfl (lk_callv X kc_126 (mm_X11_queued Wd.1) (by decide) dL_all_93 rfl) ?_
  refine lz_cons (k' := 95) rfl (lz_Ok_none _ _) ?_
  refine lz_cons (k' := 96) rfl (lz_Ok_none _ _) ?_
  refine lz_cons (k' := 97) rfl (lk_i2l X dL_all_96 rfl) ?_
  refine lz_cons (k' := 98) rfl (lk_lmul X dL_all_97 rfl) ?_
  refine lz_cons (k' := 99) rfl (lk_ladd X dL_all_98 rfl) ?_
  refine lz_cons (k' := 100) rfl (lk_lstore_n X dL_all_99 rfl (by decide) rfl) ?_
  refine lz_cons (k' := 101) rfl (lk_iinc X dL_all_100 (by decide) (by decide) rfl) ?_
  refine lz_cons (k' := 102) rfl (lz_Ok_none _ _) ?_
  refine lz_cons (k' := 103) rfl (lz_Ok_none _ _) ?_
  refine lz_cons (k' := 104) rfl (lk_goto X dL_all_103 (by decide)) ?_
  refine lz_cons (k' := 105) rfl (lz_Ok_none _ _) ?_
  refine lz_cons (k' := 106) rfl (lz_Ok_none _ _) ?_
  refine lz_cons (k' := 107) rfl (lk_lload_n X dL_all_106 rfl rfl) ?_
  refine lz_cons (k' := 108) rfl (lk_lret X rfl dL_all_107) ?_
  exact trivial
end

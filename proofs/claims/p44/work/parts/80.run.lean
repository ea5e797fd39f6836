section
/-! isBehind and running, in both -/
theorem b32_and (x y : Int32) (i : Nat) : b32 (x &&& y) i = (b32 x i && b32 y i) := by
  unfold b32
  rw [Int32.toBitVec_and, BitVec.getLsbD_and]
theorem sh_smod32 : ∀ p : Fin 32, (zn p.1 &&& 31).toBitVec.smod 32 = BitVec.ofNat 32 p.1 := by decide
theorem b32_shr (x : Int32) {p : Nat} (hp : p < 32) : b32 (x >>> (zn p &&& 31)) 0 = b32 x p := by
  unfold b32
  rw [Int32.toBitVec_shiftRight, sh_smod32 ⟨p, hp⟩, BitVec.getLsbD_sshiftRight', BitVec.toNat_ofNat, Nat.mod_eq_of_lt (by omega), if_pos (by omega), decide_eq_false (by omega)]
  rfl
theorem and1_I (z : Int32) : (z &&& 1 = 1) = (b32 z 0 = true) := by
  refine propext ⟨fun h => ?_, fun h => b32_ext fun i hi => ?_⟩
  · have e : b32 (z &&& 1) 0 = b32 1 0 := congrArg (fun w => b32 w 0) h
    rw [b32_and, show b32 1 0 = true from by decide, Bool.and_true] at e
    exact e
  · rw [b32_and]
    by_cases q : i = 0
    · rw [q, h]; rfl
    · have k : ∀ i : Fin 32, i.1 ≠ 0 → b32 1 i.1 = false := by decide
      rw [k ⟨i, hi⟩ q, Bool.and_false]
theorem and1_L (z : Int64) : (z &&& 1 = 1) = (bit z 0 = true) := by
  refine propext ⟨fun h => ?_, fun h => bit_ext fun i hi => ?_⟩
  · have e : bit (z &&& 1) 0 = bit 1 0 := congrArg (fun w => bit w 0) h
    rw [bit_and, show bit 1 0 = true from by decide, Bool.and_true] at e
    exact e
  · rw [bit_and]
    by_cases q : i = 0
    · rw [q, h]; rfl
    · have k : ∀ i : Fin 64, i.1 ≠ 0 → bit 1 i.1 = false := by decide
      rw [k ⟨i, hi⟩ q, Bool.and_false]
theorem mod30 : ∀ p : Fin 60, zn p.1 - zn p.1 / 30 * 30 = zn (p.1 % 30) := by decide +kernel
section
variable {M R : zzMd}
theorem c_isBehind (H : Rel (nz M) R) (x y : Int32) : zAg (cdl [2, 0, 1]) (fX11_isBehind [.ref 0, .int x, .int y] M) (fX12_isBehind [.ref 0, .int x, .int y] R) := by
  rw [s_X11_isBehind, s_X12_isBehind]
  rcases h_obj H x with ⟨h1, h2⟩ | ⟨o, rfl, ho, h1, h2⟩
  · refine zAg_x (M' := M) (R' := zz_sI R 0 49 1) (e := 2) (v := 0) ?_ ?_ (Rel_49 H) sI_e (by decide)
    · (simp only [e_X11_isBehind, zo_iload, zo_lload, zo_aload, zo_istore, zo_lstore, zo_astore, zo_iinc, zo_pushI, zo_pushL, zo_null, zo_ii, zo_iid, zo_ll, zo_li, zo_lcmp, zo_i2l, zo_l2i, zo_dup, zo_dup2, zo_pop, zo_goto, zo_if, zo_icmp, zo_ifnull, zo_gets, zo_mm, zo_throw, zo_ret, zo_aret, zo_lret, q_iret_f, q_iret_1, q_iret_0, q_iret_b, q_c8_0, q_c8_1, q_c8_2, q_c8_3, q_c8_4, q_set_0, q_set_1i, q_set_1r, q_set_1n, q_set_1N, q_set_s, q_set_1j, q_bk_v, q_bk_n, q_if, zb_ite, cond_true, cond_false, List.getElem?_cons_zero, List.getElem?_cons_succ, Nat.reduceAdd, q_bx_v, q_bx_n, q_bx_x, h1, if_true, if_false, zb_eq0, zb_eq1, zn_1, not_true_eq_false, not_false_eq_true, ite_true, ite_false, if_true, if_false, q_iret_0, q_iret_1, decide_true, decide_false, decide_not, zb_t, zb_f, z10, z01, cond_true, cond_false, Bool.and_true, Bool.true_and, Bool.and_false, Bool.false_and, Bool.not_true, Bool.not_false, true_and, and_true, false_and, and_false, true_or, or_true, false_or, or_false, Bool.true_eq_false, Bool.false_eq_true, eq_self, reduceCtorEq, Bool.or_true, Bool.true_or, Bool.or_false, Bool.false_or])
    · (simp only [e_X12_isBehind, zo_iload, zo_lload, zo_aload, zo_istore, zo_lstore, zo_astore, zo_iinc, zo_pushI, zo_pushL, zo_null, zo_ii, zo_iid, zo_ll, zo_li, zo_lcmp, zo_i2l, zo_l2i, zo_dup, zo_dup2, zo_pop, zo_goto, zo_if, zo_icmp, zo_ifnull, zo_gets, zo_mm, zo_throw, zo_ret, zo_aret, zo_lret, q_iret_f, q_iret_1, q_iret_0, q_iret_b, q_c8_0, q_c8_1, q_c8_2, q_c8_3, q_c8_4, q_set_0, q_set_1i, q_set_1r, q_set_1n, q_set_1N, q_set_s, q_set_1j, q_bk_v, q_bk_n, q_if, zb_ite, cond_true, cond_false, List.getElem?_cons_zero, List.getElem?_cons_succ, Nat.reduceAdd, q_set_1l, q_set2_0, q_set2_1i, q_set2_1r, q_set2_1n, q_set2_s, h2, r_goes1, if_true, if_false, zb_eq0, zb_eq1, zn_1, not_true_eq_false, not_false_eq_true, ite_true, ite_false, if_true, if_false, q_iret_0, q_iret_1, decide_true, decide_false, decide_not, zb_t, zb_f, z10, z01, cond_true, cond_false, Bool.and_true, Bool.true_and, Bool.and_false, Bool.false_and, Bool.not_true, Bool.not_false, true_and, and_true, false_and, and_false, true_or, or_true, false_or, or_false, Bool.true_eq_false, Bool.false_eq_true, eq_self, reduceCtorEq, Bool.or_true, Bool.true_or, Bool.or_false, Bool.false_or])
  rcases h_obj H y with ⟨k1, k2⟩ | ⟨p, rfl, hp, k1, k2⟩
  · refine zAg_x (M' := M) (R' := zz_sI R 0 49 1) (e := 2) (v := 0) ?_ ?_ (Rel_49 H) sI_e (by decide)
    · (simp only [e_X11_isBehind, zo_iload, zo_lload, zo_aload, zo_istore, zo_lstore, zo_astore, zo_iinc, zo_pushI, zo_pushL, zo_null, zo_ii, zo_iid, zo_ll, zo_li, zo_lcmp, zo_i2l, zo_l2i, zo_dup, zo_dup2, zo_pop, zo_goto, zo_if, zo_icmp, zo_ifnull, zo_gets, zo_mm, zo_throw, zo_ret, zo_aret, zo_lret, q_iret_f, q_iret_1, q_iret_0, q_iret_b, q_c8_0, q_c8_1, q_c8_2, q_c8_3, q_c8_4, q_set_0, q_set_1i, q_set_1r, q_set_1n, q_set_1N, q_set_s, q_set_1j, q_bk_v, q_bk_n, q_if, zb_ite, cond_true, cond_false, List.getElem?_cons_zero, List.getElem?_cons_succ, Nat.reduceAdd, q_bx_v, q_bx_n, q_bx_x, h1, k1, if_true, if_false, zb_eq0, zb_eq1, zn_1, not_true_eq_false, not_false_eq_true, ite_true, ite_false, if_true, if_false, q_iret_0, q_iret_1, decide_true, decide_false, decide_not, zb_t, zb_f, z10, z01, cond_true, cond_false, Bool.and_true, Bool.true_and, Bool.and_false, Bool.false_and, Bool.not_true, Bool.not_false, true_and, and_true, false_and, and_false, true_or, or_true, false_or, or_false, Bool.true_eq_false, Bool.false_eq_true, eq_self, reduceCtorEq, Bool.or_true, Bool.true_or, Bool.or_false, Bool.false_or])
    · (simp only [e_X12_isBehind, zo_iload, zo_lload, zo_aload, zo_istore, zo_lstore, zo_astore, zo_iinc, zo_pushI, zo_pushL, zo_null, zo_ii, zo_iid, zo_ll, zo_li, zo_lcmp, zo_i2l, zo_l2i, zo_dup, zo_dup2, zo_pop, zo_goto, zo_if, zo_icmp, zo_ifnull, zo_gets, zo_mm, zo_throw, zo_ret, zo_aret, zo_lret, q_iret_f, q_iret_1, q_iret_0, q_iret_b, q_c8_0, q_c8_1, q_c8_2, q_c8_3, q_c8_4, q_set_0, q_set_1i, q_set_1r, q_set_1n, q_set_1N, q_set_s, q_set_1j, q_bk_v, q_bk_n, q_if, zb_ite, cond_true, cond_false, List.getElem?_cons_zero, List.getElem?_cons_succ, Nat.reduceAdd, q_set_1l, q_set2_0, q_set2_1i, q_set2_1r, q_set2_1n, q_set2_s, h2, k2, r_goes1, if_true, if_false, zb_eq0, zb_eq1, zn_1, not_true_eq_false, not_false_eq_true, ite_true, ite_false, if_true, if_false, q_iret_0, q_iret_1, decide_true, decide_false, decide_not, zb_t, zb_f, z10, z01, cond_true, cond_false, Bool.and_true, Bool.true_and, Bool.and_false, Bool.false_and, Bool.not_true, Bool.not_false, true_and, and_true, false_and, and_false, true_or, or_true, false_or, or_false, Bool.true_eq_false, Bool.false_eq_true, eq_self, reduceCtorEq, Bool.or_true, Bool.true_or, Bool.or_false, Bool.false_or])
  have hk := sp_reqK (k := 5) (h_rd H ho).1
  obtain ⟨⟨b1, x1⟩, -⟩ := r_kind H.1 (o := o) ho
  by_cases d0 : R.1 6 o = 5
  · rw [decide_eq_true d0, cond_true] at hk
    have H0 : Rel (nz M) (zz_sI R 0 49 0) := Rel_49 H
    have h49 : (zz_sI R 0 49 0).1 0 49 = 0 := sI_e
    have hg := r_goes0 R
    generalize zz_sI R 0 49 0 = R0 at *
    have p60 : p < 60 := lt_n60 H.1 (o := p) hp
    obtain ⟨-, ⟨c2, -, -⟩, -, -, -⟩ := rl_cur H0.1 (o := o) ho
    have em := mod30 ⟨p, p60⟩
    have z30 : ((30 : Int32) = 0) = False := eq_false (by decide)
    have ho' := r_isOf (R0.2 8 o) (zn p) R0
    have tL : ((R0.2 8 o >>> ((zn p).toInt64 &&& 63)) &&& 1 = 1) = (bit (R0.2 8 o) p = true) := by
      rw [and1_L, bit_shr _ (by omega)]
      rfl
    have eL : decide ((R0.2 8 o >>> ((zn p).toInt64 &&& 63)) &&& 1 = 1) = bit (R0.2 8 o) p := by
      cases hq : bit (R0.2 8 o) p
      · exact decide_eq_false fun z => by
          rw [tL, hq] at z
          cases z
      · exact decide_eq_true (by rw [tL, hq])
    rw [eL] at ho'
    refine zAg_v (M' := M) (R' := R0) (v := zb (bit (R0.2 8 o) p)) ?_ ?_ H0 h49
    · by_cases dp : p < 30
      · have l : ((30 : Int32) ≤ zn p) = False := zn_le (a := 30) (b := p) (by decide) (by omega) ▸ eq_false (by omega)
        have hr : fX10_read [.ref 1, .int (zn o), .int 30] M = some (.inl (some (.int (row (nz M) o 30))), M) := h_read H0 ho (s := 30) (by decide)
        have em' : zn p - zn p / 30 * 30 = zn p := em.trans (congrArg zn (Nat.mod_eq_of_lt dp))
        have t : (row (nz M) o 30 >>> (zn p &&& 31) &&& 1 = 1) = (bit (R0.2 8 o) p = true) := by
          rw [and1_I, b32_shr _ (by omega), (c2 p dp).1]
        cases hb : bit (R0.2 8 o) p
        · rw [hb] at t
          have t' : (row (nz M) o 30 >>> (zn p &&& 31) &&& 1 = 1) = False := t.trans (eq_false Bool.false_ne_true)
          (simp only [e_X11_isBehind, zo_iload, zo_lload, zo_aload, zo_istore, zo_lstore, zo_astore, zo_iinc, zo_pushI, zo_pushL, zo_null, zo_ii, zo_iid, zo_ll, zo_li, zo_lcmp, zo_i2l, zo_l2i, zo_dup, zo_dup2, zo_pop, zo_goto, zo_if, zo_icmp, zo_ifnull, zo_gets, zo_mm, zo_throw, zo_ret, zo_aret, zo_lret, q_iret_f, q_iret_1, q_iret_0, q_iret_b, q_c8_0, q_c8_1, q_c8_2, q_c8_3, q_c8_4, q_set_0, q_set_1i, q_set_1r, q_set_1n, q_set_1N, q_set_s, q_set_1j, q_bk_v, q_bk_n, q_if, zb_ite, cond_true, cond_false, List.getElem?_cons_zero, List.getElem?_cons_succ, Nat.reduceAdd, q_bx_v, q_bx_n, q_bx_x, h1, k1, hk, l, hr, z30, em', t', if_true, if_false, zb_eq0, zb_eq1, zn_1, not_true_eq_false, not_false_eq_true, ite_true, ite_false, if_true, if_false, q_iret_0, q_iret_1, decide_true, decide_false, decide_not, zb_t, zb_f, z10, z01, cond_true, cond_false, Bool.and_true, Bool.true_and, Bool.and_false, Bool.false_and, Bool.not_true, Bool.not_false, true_and, and_true, false_and, and_false, true_or, or_true, false_or, or_false, Bool.true_eq_false, Bool.false_eq_true, eq_self, reduceCtorEq, Bool.or_true, Bool.true_or, Bool.or_false, Bool.false_or])
        · rw [hb] at t
          have t' : (row (nz M) o 30 >>> (zn p &&& 31) &&& 1 = 1) = True := t.trans (eq_true rfl)
          (simp only [e_X11_isBehind, zo_iload, zo_lload, zo_aload, zo_istore, zo_lstore, zo_astore, zo_iinc, zo_pushI, zo_pushL, zo_null, zo_ii, zo_iid, zo_ll, zo_li, zo_lcmp, zo_i2l, zo_l2i, zo_dup, zo_dup2, zo_pop, zo_goto, zo_if, zo_icmp, zo_ifnull, zo_gets, zo_mm, zo_throw, zo_ret, zo_aret, zo_lret, q_iret_f, q_iret_1, q_iret_0, q_iret_b, q_c8_0, q_c8_1, q_c8_2, q_c8_3, q_c8_4, q_set_0, q_set_1i, q_set_1r, q_set_1n, q_set_1N, q_set_s, q_set_1j, q_bk_v, q_bk_n, q_if, zb_ite, cond_true, cond_false, List.getElem?_cons_zero, List.getElem?_cons_succ, Nat.reduceAdd, q_bx_v, q_bx_n, q_bx_x, h1, k1, hk, l, hr, z30, em', t', if_true, if_false, zb_eq0, zb_eq1, zn_1, not_true_eq_false, not_false_eq_true, ite_true, ite_false, if_true, if_false, q_iret_0, q_iret_1, decide_true, decide_false, decide_not, zb_t, zb_f, z10, z01, cond_true, cond_false, Bool.and_true, Bool.true_and, Bool.and_false, Bool.false_and, Bool.not_true, Bool.not_false, true_and, and_true, false_and, and_false, true_or, or_true, false_or, or_false, Bool.true_eq_false, Bool.false_eq_true, eq_self, reduceCtorEq, Bool.or_true, Bool.true_or, Bool.or_false, Bool.false_or])
      · have l : ((30 : Int32) ≤ zn p) = True := zn_le (a := 30) (b := p) (by decide) (by omega) ▸ eq_true (by omega)
        have hr : fX10_read [.ref 1, .int (zn o), .int 31] M = some (.inl (some (.int (row (nz M) o 31))), M) := h_read H0 ho (s := 31) (by decide)
        have em' : zn p - zn p / 30 * 30 = zn (p - 30) := em.trans (congrArg zn (show p % 30 = p - 30 by omega))
        have t : (row (nz M) o 31 >>> (zn (p - 30) &&& 31) &&& 1 = 1) = (bit (R0.2 8 o) p = true) := by
          have c := (c2 (p - 30) (by omega)).2
          rw [show 30 + (p - 30) = p by omega] at c
          rw [and1_I, b32_shr _ (by omega), c]
        cases hb : bit (R0.2 8 o) p
        · rw [hb] at t
          have t' : (row (nz M) o 31 >>> (zn (p - 30) &&& 31) &&& 1 = 1) = False := t.trans (eq_false Bool.false_ne_true)
          (simp only [e_X11_isBehind, zo_iload, zo_lload, zo_aload, zo_istore, zo_lstore, zo_astore, zo_iinc, zo_pushI, zo_pushL, zo_null, zo_ii, zo_iid, zo_ll, zo_li, zo_lcmp, zo_i2l, zo_l2i, zo_dup, zo_dup2, zo_pop, zo_goto, zo_if, zo_icmp, zo_ifnull, zo_gets, zo_mm, zo_throw, zo_ret, zo_aret, zo_lret, q_iret_f, q_iret_1, q_iret_0, q_iret_b, q_c8_0, q_c8_1, q_c8_2, q_c8_3, q_c8_4, q_set_0, q_set_1i, q_set_1r, q_set_1n, q_set_1N, q_set_s, q_set_1j, q_bk_v, q_bk_n, q_if, zb_ite, cond_true, cond_false, List.getElem?_cons_zero, List.getElem?_cons_succ, Nat.reduceAdd, q_bx_v, q_bx_n, q_bx_x, h1, k1, hk, l, hr, z30, em', t', if_true, if_false, zb_eq0, zb_eq1, zn_1, not_true_eq_false, not_false_eq_true, ite_true, ite_false, if_true, if_false, q_iret_0, q_iret_1, decide_true, decide_false, decide_not, zb_t, zb_f, z10, z01, cond_true, cond_false, Bool.and_true, Bool.true_and, Bool.and_false, Bool.false_and, Bool.not_true, Bool.not_false, true_and, and_true, false_and, and_false, true_or, or_true, false_or, or_false, Bool.true_eq_false, Bool.false_eq_true, eq_self, reduceCtorEq, Bool.or_true, Bool.true_or, Bool.or_false, Bool.false_or])
        · rw [hb] at t
          have t' : (row (nz M) o 31 >>> (zn (p - 30) &&& 31) &&& 1 = 1) = True := t.trans (eq_true rfl)
          (simp only [e_X11_isBehind, zo_iload, zo_lload, zo_aload, zo_istore, zo_lstore, zo_astore, zo_iinc, zo_pushI, zo_pushL, zo_null, zo_ii, zo_iid, zo_ll, zo_li, zo_lcmp, zo_i2l, zo_l2i, zo_dup, zo_dup2, zo_pop, zo_goto, zo_if, zo_icmp, zo_ifnull, zo_gets, zo_mm, zo_throw, zo_ret, zo_aret, zo_lret, q_iret_f, q_iret_1, q_iret_0, q_iret_b, q_c8_0, q_c8_1, q_c8_2, q_c8_3, q_c8_4, q_set_0, q_set_1i, q_set_1r, q_set_1n, q_set_1N, q_set_s, q_set_1j, q_bk_v, q_bk_n, q_if, zb_ite, cond_true, cond_false, List.getElem?_cons_zero, List.getElem?_cons_succ, Nat.reduceAdd, q_bx_v, q_bx_n, q_bx_x, h1, k1, hk, l, hr, z30, em', t', if_true, if_false, zb_eq0, zb_eq1, zn_1, not_true_eq_false, not_false_eq_true, ite_true, ite_false, if_true, if_false, q_iret_0, q_iret_1, decide_true, decide_false, decide_not, zb_t, zb_f, z10, z01, cond_true, cond_false, Bool.and_true, Bool.true_and, Bool.and_false, Bool.false_and, Bool.not_true, Bool.not_false, true_and, and_true, false_and, and_false, true_or, or_true, false_or, or_false, Bool.true_eq_false, Bool.false_eq_true, eq_self, reduceCtorEq, Bool.or_true, Bool.true_or, Bool.or_false, Bool.false_or])
    · cases hb : bit (R0.2 8 o) p
      · rw [hb] at ho'
        (simp only [e_X12_isBehind, zo_iload, zo_lload, zo_aload, zo_istore, zo_lstore, zo_astore, zo_iinc, zo_pushI, zo_pushL, zo_null, zo_ii, zo_iid, zo_ll, zo_li, zo_lcmp, zo_i2l, zo_l2i, zo_dup, zo_dup2, zo_pop, zo_goto, zo_if, zo_icmp, zo_ifnull, zo_gets, zo_mm, zo_throw, zo_ret, zo_aret, zo_lret, q_iret_f, q_iret_1, q_iret_0, q_iret_b, q_c8_0, q_c8_1, q_c8_2, q_c8_3, q_c8_4, q_set_0, q_set_1i, q_set_1r, q_set_1n, q_set_1N, q_set_s, q_set_1j, q_bk_v, q_bk_n, q_if, zb_ite, cond_true, cond_false, List.getElem?_cons_zero, List.getElem?_cons_succ, Nat.reduceAdd, q_set_1l, q_set2_0, q_set2_1i, q_set2_1r, q_set2_1n, q_set2_s, h2, k2, b1, x1, q_aR, d0, hg, ho', if_true, if_false, zb_eq0, zb_eq1, zn_1, not_true_eq_false, not_false_eq_true, ite_true, ite_false, if_true, if_false, q_iret_0, q_iret_1, decide_true, decide_false, decide_not, zb_t, zb_f, z10, z01, cond_true, cond_false, Bool.and_true, Bool.true_and, Bool.and_false, Bool.false_and, Bool.not_true, Bool.not_false, true_and, and_true, false_and, and_false, true_or, or_true, false_or, or_false, Bool.true_eq_false, Bool.false_eq_true, eq_self, reduceCtorEq, Bool.or_true, Bool.true_or, Bool.or_false, Bool.false_or])
      · rw [hb] at ho'
        (simp only [e_X12_isBehind, zo_iload, zo_lload, zo_aload, zo_istore, zo_lstore, zo_astore, zo_iinc, zo_pushI, zo_pushL, zo_null, zo_ii, zo_iid, zo_ll, zo_li, zo_lcmp, zo_i2l, zo_l2i, zo_dup, zo_dup2, zo_pop, zo_goto, zo_if, zo_icmp, zo_ifnull, zo_gets, zo_mm, zo_throw, zo_ret, zo_aret, zo_lret, q_iret_f, q_iret_1, q_iret_0, q_iret_b, q_c8_0, q_c8_1, q_c8_2, q_c8_3, q_c8_4, q_set_0, q_set_1i, q_set_1r, q_set_1n, q_set_1N, q_set_s, q_set_1j, q_bk_v, q_bk_n, q_if, zb_ite, cond_true, cond_false, List.getElem?_cons_zero, List.getElem?_cons_succ, Nat.reduceAdd, q_set_1l, q_set2_0, q_set2_1i, q_set2_1r, q_set2_1n, q_set2_s, h2, k2, b1, x1, q_aR, d0, hg, ho', if_true, if_false, zb_eq0, zb_eq1, zn_1, not_true_eq_false, not_false_eq_true, ite_true, ite_false, if_true, if_false, q_iret_0, q_iret_1, decide_true, decide_false, decide_not, zb_t, zb_f, z10, z01, cond_true, cond_false, Bool.and_true, Bool.true_and, Bool.and_false, Bool.false_and, Bool.not_true, Bool.not_false, true_and, and_true, false_and, and_false, true_or, or_true, false_or, or_false, Bool.true_eq_false, Bool.false_eq_true, eq_self, reduceCtorEq, Bool.or_true, Bool.true_or, Bool.or_false, Bool.false_or])
  · rw [decide_eq_false d0, cond_false] at hk
    refine zAg_x (M' := M) (R' := zz_sI R 0 49 2) (e := 0) (v := 0) ?_ ?_ (Rel_49 H) sI_e (by decide)
    · (simp only [e_X11_isBehind, zo_iload, zo_lload, zo_aload, zo_istore, zo_lstore, zo_astore, zo_iinc, zo_pushI, zo_pushL, zo_null, zo_ii, zo_iid, zo_ll, zo_li, zo_lcmp, zo_i2l, zo_l2i, zo_dup, zo_dup2, zo_pop, zo_goto, zo_if, zo_icmp, zo_ifnull, zo_gets, zo_mm, zo_throw, zo_ret, zo_aret, zo_lret, q_iret_f, q_iret_1, q_iret_0, q_iret_b, q_c8_0, q_c8_1, q_c8_2, q_c8_3, q_c8_4, q_set_0, q_set_1i, q_set_1r, q_set_1n, q_set_1N, q_set_s, q_set_1j, q_bk_v, q_bk_n, q_if, zb_ite, cond_true, cond_false, List.getElem?_cons_zero, List.getElem?_cons_succ, Nat.reduceAdd, q_bx_v, q_bx_n, q_bx_x, h1, k1, hk, if_true, if_false, zb_eq0, zb_eq1, zn_1, not_true_eq_false, not_false_eq_true, ite_true, ite_false, if_true, if_false, q_iret_0, q_iret_1, decide_true, decide_false, decide_not, zb_t, zb_f, z10, z01, cond_true, cond_false, Bool.and_true, Bool.true_and, Bool.and_false, Bool.false_and, Bool.not_true, Bool.not_false, true_and, and_true, false_and, and_false, true_or, or_true, false_or, or_false, Bool.true_eq_false, Bool.false_eq_true, eq_self, reduceCtorEq, Bool.or_true, Bool.true_or, Bool.or_false, Bool.false_or])
    · (simp only [e_X12_isBehind, zo_iload, zo_lload, zo_aload, zo_istore, zo_lstore, zo_astore, zo_iinc, zo_pushI, zo_pushL, zo_null, zo_ii, zo_iid, zo_ll, zo_li, zo_lcmp, zo_i2l, zo_l2i, zo_dup, zo_dup2, zo_pop, zo_goto, zo_if, zo_icmp, zo_ifnull, zo_gets, zo_mm, zo_throw, zo_ret, zo_aret, zo_lret, q_iret_f, q_iret_1, q_iret_0, q_iret_b, q_c8_0, q_c8_1, q_c8_2, q_c8_3, q_c8_4, q_set_0, q_set_1i, q_set_1r, q_set_1n, q_set_1N, q_set_s, q_set_1j, q_bk_v, q_bk_n, q_if, zb_ite, cond_true, cond_false, List.getElem?_cons_zero, List.getElem?_cons_succ, Nat.reduceAdd, q_set_1l, q_set2_0, q_set2_1i, q_set2_1r, q_set2_1n, q_set2_s, h2, k2, b1, x1, q_aR, d0, r_goes2, if_true, if_false, zb_eq0, zb_eq1, zn_1, not_true_eq_false, not_false_eq_true, ite_true, ite_false, if_true, if_false, q_iret_0, q_iret_1, decide_true, decide_false, decide_not, zb_t, zb_f, z10, z01, cond_true, cond_false, Bool.and_true, Bool.true_and, Bool.and_false, Bool.false_and, Bool.not_true, Bool.not_false, true_and, and_true, false_and, and_false, true_or, or_true, false_or, or_false, Bool.true_eq_false, Bool.false_eq_true, eq_self, reduceCtorEq, Bool.or_true, Bool.true_or, Bool.or_false, Bool.false_or])
end
/-! counting by owners -/
def anyB : Nat → (Nat → Bool) → Bool
  | 0, _ => false
  | n + 1, P => anyB n P || P n
theorem anyB_s (n : Nat) (P : Nat → Bool) : anyB (n + 1) P = (anyB n P || P n) := rfl
theorem anyB_f {P : Nat → Bool} : ∀ {n : Nat}, (∀ i, i < n → P i = false) → anyB n P = false
  | 0, _ => rfl
  | n + 1, h => by rw [anyB_s, anyB_f fun i hi => h i (Nat.lt_succ_of_lt hi), h n (Nat.lt_succ_self n)]; rfl
theorem anyB_t {P : Nat → Bool} {k : Nat} (hk : P k = true) : ∀ {n : Nat}, k < n → anyB n P = true
  | 0, h => absurd h (Nat.not_lt_zero k)
  | n + 1, h => by
    rw [anyB_s]
    rcases Nat.lt_or_eq_of_le (Nat.le_of_lt_succ h) with q | q
    · rw [anyB_t hk q]; rfl
    · rw [← q, hk, Bool.or_true]
theorem zcnt_or2 {P Q : Nat → Bool} : ∀ {n : Nat}, (∀ i, i < n → P i = true → Q i = false) → zcnt n (fun i => P i || Q i) = zcnt n P + zcnt n Q
  | 0, _ => rfl
  | n + 1, h => by
    have h1 := zcnt_or2 (P := P) (Q := Q) (n := n) fun i hi => h i (Nat.lt_succ_of_lt hi)
    have h2 := h n (Nat.lt_succ_self n)
    rw [zcnt_s, zcnt_s, zcnt_s, h1]
    cases e : P n
    · cases Q n <;> simp only [Bool.false_or, cond_true, cond_false] <;> omega
    · rw [h2 e]
      simp only [Bool.or_false, cond_true, cond_false]
      omega
theorem zsum_own (n : Nat) (S U : Nat → Bool) (w : Nat → Int32) : ∀ m, m ≤ 60 → zsum m (fun s => bif S s then zn (zcnt n fun p => U p && decide (w p = zn s)) else 0) = zn (zcnt n fun p => U p && anyB m fun s => S s && decide (w p = zn s))
  | 0, _ => by
    have e : (zcnt n fun p => U p && anyB 0 fun s => S s && decide (w p = zn s)) = zcnt n fun _ => false := zcnt_congr fun i _ => Bool.and_false _
    have e2 : ∀ n, zcnt n (fun _ => false) = 0 := fun n => by
      induction n with
      | zero => rfl
      | succ n ih => rw [zcnt_s, ih]; rfl
    rw [e, e2]
    rfl
  | m + 1, h => by
    rw [zsum_s, zsum_own n S U w m (by omega)]
    cases hS : S m
    · rw [cond_false, Int32.add_zero]
      refine congrArg zn (zcnt_congr fun i _ => ?_)
      rw [anyB_s, hS, Bool.false_and, Bool.or_false]
    · rw [cond_true, zn_add, ← zcnt_or2]
      · refine congrArg zn (zcnt_congr fun i _ => ?_)
        rw [anyB_s, hS, Bool.true_and]
        cases U i <;> simp only [Bool.false_and, Bool.true_and, Bool.or_false]
      · intro i _ hi
        cases hU : U i
        · rw [Bool.false_and]
        · rw [hU, Bool.true_and] at hi
          rw [Bool.true_and]
          refine decide_eq_false fun z => ?_
          have : anyB m (fun s => S s && decide (w i = zn s)) = false := anyB_f fun s hs => by
            have : ¬ w i = zn s := fun y => by
              have := (zn_inj (a := m) (b := s) (by omega) (by omega)).mp (z.symm.trans y)
              omega
            rw [decide_eq_false this, Bool.and_false]
          rw [this] at hi
          cases hi
/-! a loop downwards that keeps the last one that it meets -/
def lF (P : Nat → Bool) (n : Nat) : Nat → Int32
  | 0 => -1
  | k + 1 => bif P (n - 1 - k) then zn (n - 1 - k) else lF P n k
theorem lF_s (P : Nat → Bool) (n k : Nat) : lF P n (k + 1) = bif P (n - 1 - k) then zn (n - 1 - k) else lF P n k := rfl
theorem lF_none {P : Nat → Bool} {n : Nat} (h : ∀ i, i < n → P i = false) : ∀ k, k ≤ n → lF P n k = -1
  | 0, _ => rfl
  | k + 1, hk => by rw [lF_s, h _ (by omega), cond_false, lF_none h k (by omega)]
theorem lF_some {P : Nat → Bool} {n q : Nat} (hq : q < n) (h1 : P q = true) (h2 : ∀ i, i < q → P i = false) : ∀ k, n - q ≤ k → k ≤ n → lF P n k = zn q
  | 0, h, _ => by omega
  | k + 1, h, hk => by
    rw [lF_s]
    by_cases e : n - 1 - k = q
    · rw [e, h1, cond_true]
    · rw [h2 _ (by omega), cond_false, lF_some hq h1 h2 k (by omega) (by omega)]
theorem lF_fst (P : Nat → Bool) (n : Nat) : lF P n n = zoi (zfst n P) := by
  cases h : zfst n P with
  | none => exact lF_none (zfst_no h) n (Nat.le_refl n)
  | some q =>
    obtain ⟨a, b, c⟩ := zfst_some h
    exact lF_some a b c n (Nat.sub_le _ _) (Nat.le_refl n)
section
variable {A R : zzMd}
def sP (A R : zzMd) (d w : Int32) : Bool := decide (¬ w = -1) && (decide (R.1 6 (zz_ix w) = 1) && (decide (row A (zz_ix w) 25 = 0) && decide (row A (zz_ix w) 24 = d)))
theorem sP_m1 (A R : zzMd) (d : Int32) : sP A R d (-1) = false := rfl
theorem sP_n (A R : zzMd) (d : Int32) {s : Nat} (hs : s < 60) : sP A R d (zn s) = (decide (R.1 6 s = 1) && (decide (row A s 25 = 0) && decide (row A s 24 = d))) := by
  unfold sP
  rw [zn_ix (by omega), decide_eq_true (show ¬ zn s = -1 from (zn_m1 (by omega)).mp), Bool.true_and]
theorem r_isSetOf (H : Rl0 A R) (d : Int32) {w : Int32} (hw : w = -1 ∨ ∃ s, s < nv A 1 ∧ w = zn s) : fX12_isSetOf [.ref 0, .int w, .int d] R = some (.inl (some (.int (zb (sP A R d w)))), R) := by
  rw [s_X12_isSetOf]
  rcases hw with rfl | ⟨s, hs, rfl⟩
  · rw [sP_m1]
    (simp only [e_X12_isSetOf, zo_iload, zo_lload, zo_aload, zo_istore, zo_lstore, zo_astore, zo_iinc, zo_pushI, zo_pushL, zo_null, zo_ii, zo_iid, zo_ll, zo_li, zo_lcmp, zo_i2l, zo_l2i, zo_dup, zo_dup2, zo_pop, zo_goto, zo_if, zo_icmp, zo_ifnull, zo_gets, zo_mm, zo_throw, zo_ret, zo_aret, zo_lret, q_iret_f, q_iret_1, q_iret_0, q_iret_b, q_c8_0, q_c8_1, q_c8_2, q_c8_3, q_c8_4, q_set_0, q_set_1i, q_set_1r, q_set_1n, q_set_1N, q_set_s, q_set_1j, q_bk_v, q_bk_n, q_if, zb_ite, cond_true, cond_false, List.getElem?_cons_zero, List.getElem?_cons_succ, Nat.reduceAdd, q_set_1l, q_set2_0, q_set2_1i, q_set2_1r, q_set2_1n, q_set2_s, if_true, if_false, zb_eq0, zb_eq1, zn_1, not_true_eq_false, not_false_eq_true, ite_true, ite_false, if_true, if_false, q_iret_0, q_iret_1, decide_true, decide_false, decide_not, zb_t, zb_f, z10, z01, cond_true, cond_false, Bool.and_true, Bool.true_and, Bool.and_false, Bool.false_and, Bool.not_true, Bool.not_false, true_and, and_true, false_and, and_false, true_or, or_true, false_or, or_false, Bool.true_eq_false, Bool.false_eq_true, eq_self, reduceCtorEq, Bool.or_true, Bool.true_or, Bool.or_false, Bool.false_or])
  · have h60 := lt_n60 H hs
    rw [sP_n A R d h60]
    have m : (zn s = -1) = False := zn_m1 (by omega)
    obtain ⟨-, -, g13, -, -, -, gw, -⟩ := h_get H hs
    obtain ⟨b1, x1⟩ := kinds_o s h60
    by_cases d1 : R.1 6 s = 1
    · by_cases d2 : row A s 25 = 0
      · by_cases d3 : row A s 24 = d <;> (simp only [e_X12_isSetOf, zo_iload, zo_lload, zo_aload, zo_istore, zo_lstore, zo_astore, zo_iinc, zo_pushI, zo_pushL, zo_null, zo_ii, zo_iid, zo_ll, zo_li, zo_lcmp, zo_i2l, zo_l2i, zo_dup, zo_dup2, zo_pop, zo_goto, zo_if, zo_icmp, zo_ifnull, zo_gets, zo_mm, zo_throw, zo_ret, zo_aret, zo_lret, q_iret_f, q_iret_1, q_iret_0, q_iret_b, q_c8_0, q_c8_1, q_c8_2, q_c8_3, q_c8_4, q_set_0, q_set_1i, q_set_1r, q_set_1n, q_set_1N, q_set_s, q_set_1j, q_bk_v, q_bk_n, q_if, zb_ite, cond_true, cond_false, List.getElem?_cons_zero, List.getElem?_cons_succ, Nat.reduceAdd, q_set_1l, q_set2_0, q_set2_1i, q_set2_1r, q_set2_1n, q_set2_s, m, b1, x1, q_aR, d1, g13, d2, gw, d3, if_true, if_false, zb_eq0, zb_eq1, zn_1, not_true_eq_false, not_false_eq_true, ite_true, ite_false, if_true, if_false, q_iret_0, q_iret_1, decide_true, decide_false, decide_not, zb_t, zb_f, z10, z01, cond_true, cond_false, Bool.and_true, Bool.true_and, Bool.and_false, Bool.false_and, Bool.not_true, Bool.not_false, true_and, and_true, false_and, and_false, true_or, or_true, false_or, or_false, Bool.true_eq_false, Bool.false_eq_true, eq_self, reduceCtorEq, Bool.or_true, Bool.true_or, Bool.or_false, Bool.false_or])
      · (simp only [e_X12_isSetOf, zo_iload, zo_lload, zo_aload, zo_istore, zo_lstore, zo_astore, zo_iinc, zo_pushI, zo_pushL, zo_null, zo_ii, zo_iid, zo_ll, zo_li, zo_lcmp, zo_i2l, zo_l2i, zo_dup, zo_dup2, zo_pop, zo_goto, zo_if, zo_icmp, zo_ifnull, zo_gets, zo_mm, zo_throw, zo_ret, zo_aret, zo_lret, q_iret_f, q_iret_1, q_iret_0, q_iret_b, q_c8_0, q_c8_1, q_c8_2, q_c8_3, q_c8_4, q_set_0, q_set_1i, q_set_1r, q_set_1n, q_set_1N, q_set_s, q_set_1j, q_bk_v, q_bk_n, q_if, zb_ite, cond_true, cond_false, List.getElem?_cons_zero, List.getElem?_cons_succ, Nat.reduceAdd, q_set_1l, q_set2_0, q_set2_1i, q_set2_1r, q_set2_1n, q_set2_s, m, b1, x1, q_aR, d1, g13, d2, if_true, if_false, zb_eq0, zb_eq1, zn_1, not_true_eq_false, not_false_eq_true, ite_true, ite_false, if_true, if_false, q_iret_0, q_iret_1, decide_true, decide_false, decide_not, zb_t, zb_f, z10, z01, cond_true, cond_false, Bool.and_true, Bool.true_and, Bool.and_false, Bool.false_and, Bool.not_true, Bool.not_false, true_and, and_true, false_and, and_false, true_or, or_true, false_or, or_false, Bool.true_eq_false, Bool.false_eq_true, eq_self, reduceCtorEq, Bool.or_true, Bool.true_or, Bool.or_false, Bool.false_or])
    · (simp only [e_X12_isSetOf, zo_iload, zo_lload, zo_aload, zo_istore, zo_lstore, zo_astore, zo_iinc, zo_pushI, zo_pushL, zo_null, zo_ii, zo_iid, zo_ll, zo_li, zo_lcmp, zo_i2l, zo_l2i, zo_dup, zo_dup2, zo_pop, zo_goto, zo_if, zo_icmp, zo_ifnull, zo_gets, zo_mm, zo_throw, zo_ret, zo_aret, zo_lret, q_iret_f, q_iret_1, q_iret_0, q_iret_b, q_c8_0, q_c8_1, q_c8_2, q_c8_3, q_c8_4, q_set_0, q_set_1i, q_set_1r, q_set_1n, q_set_1N, q_set_s, q_set_1j, q_bk_v, q_bk_n, q_if, zb_ite, cond_true, cond_false, List.getElem?_cons_zero, List.getElem?_cons_succ, Nat.reduceAdd, q_set_1l, q_set2_0, q_set2_1i, q_set2_1r, q_set2_1n, q_set2_s, m, b1, x1, q_aR, d1, if_true, if_false, zb_eq0, zb_eq1, zn_1, not_true_eq_false, not_false_eq_true, ite_true, ite_false, if_true, if_false, q_iret_0, q_iret_1, decide_true, decide_false, decide_not, zb_t, zb_f, z10, z01, cond_true, cond_false, Bool.and_true, Bool.true_and, Bool.and_false, Bool.false_and, Bool.not_true, Bool.not_false, true_and, and_true, false_and, and_false, true_or, or_true, false_or, or_false, Bool.true_eq_false, Bool.false_eq_true, eq_self, reduceCtorEq, Bool.or_true, Bool.true_or, Bool.or_false, Bool.false_or])
def lP (A R : zzMd) (o i : Nat) : Bool := sP A R (zn o) (zn i) && decide (row A i 1 = row A o 1)
theorem r_latestOf (H : Rl0 A R) {o : Nat} (ho : o < nv A 1) : fX12_latestOf [.ref 0, .int (zn o)] R = some (.inl (some (.int (zoi (zfst (nv A 1) (lP A R o))))), R) := by
  have hn := rl_n60 H
  have h5 : R.1 0 5 = zn (nv A 1) := H.2.1.1.2
  have main : ∀ k, k ≤ nv A 1 → ∃ j, zz_ev tX12_latestOf 9 [some (.ref 0), some (.int (zn o)), some (.int (-1)), some (.int (zn (nv A 1) - 1)), none] [] R = zz_ev tX12_latestOf 9 [some (.ref 0), some (.int (zn o)), some (.int (lF (lP A R o) (nv A 1) k)), some (.int (zn (nv A 1 - k) - 1)), j] [] R := by
    intro k
    induction k with
    | zero => exact fun _ => ⟨none, rfl⟩
    | succ k ih =>
      intro hk
      obtain ⟨j, e⟩ := ih (by omega)
      have hs : nv A 1 - 1 - k < nv A 1 := by omega
      have ec : zn (nv A 1 - k) - 1 = zn (nv A 1 - 1 - k) := (zn_sub (a := nv A 1 - k) (b := 1) (by omega)).trans (congrArg zn (by omega))
      have ed : zn (nv A 1 - 1 - k) + -1 = zn (nv A 1 - (k + 1)) - 1 := by
        rw [Int32.sub_eq_add_neg, show nv A 1 - (k + 1) = nv A 1 - 1 - k by omega]
      rw [ec] at e
      rw [lF_s]
      have hi := r_isSetOf H (zn o) (w := zn (nv A 1 - 1 - k)) (Or.inr ⟨_, hs, rfl⟩)
      have g1 : fX12_get [.ref 0, .long (R.2 7 (nv A 1 - 1 - k)), .int 1] R = some (.inl (some (.int (row A (nv A 1 - 1 - k) 1))), R) := (h_get H hs).1 1 (by decide)
      have g2 : fX12_get [.ref 0, .long (R.2 7 o), .int 1] R = some (.inl (some (.int (row A o 1))), R) := (h_get H ho).1 1 (by decide)
      obtain ⟨b1, x1⟩ := kinds_o _ (lt_n60 H hs)
      obtain ⟨b2, x2⟩ := kinds_o o (lt_n60 H ho)
      have l0 : (zn (nv A 1 - 1 - k) < 0) = False := zn_lt0 (by omega)
      have eP : lP A R o (nv A 1 - 1 - k) = (sP A R (zn o) (zn (nv A 1 - 1 - k)) && decide (row A (nv A 1 - 1 - k) 1 = row A o 1)) := rfl
      rw [eP]
      generalize lF (lP A R o) (nv A 1) k = f at *
      generalize zn (nv A 1 - (k + 1)) - 1 = c' at *
      clear eP
      generalize nv A 1 - 1 - k = i at *
      cases dS : sP A R (zn o) (zn i)
      · rw [dS] at hi
        refine ⟨some (.int 0), e.trans ?_⟩
        rw [Bool.false_and, cond_false]
        (rw [e_X12_latestOf_9]; simp only [e_X12_latestOf, zo_iload, zo_lload, zo_aload, zo_istore, zo_lstore, zo_astore, zo_iinc, zo_pushI, zo_pushL, zo_null, zo_ii, zo_iid, zo_ll, zo_li, zo_lcmp, zo_i2l, zo_l2i, zo_dup, zo_dup2, zo_pop, zo_goto, zo_if, zo_icmp, zo_ifnull, zo_gets, zo_mm, zo_throw, zo_ret, zo_aret, zo_lret, q_iret_f, q_iret_1, q_iret_0, q_iret_b, q_c8_0, q_c8_1, q_c8_2, q_c8_3, q_c8_4, q_set_0, q_set_1i, q_set_1r, q_set_1n, q_set_1N, q_set_s, q_set_1j, q_bk_v, q_bk_n, q_if, zb_ite, cond_true, cond_false, List.getElem?_cons_zero, List.getElem?_cons_succ, Nat.reduceAdd, q_set_1l, q_set2_0, q_set2_1i, q_set2_1r, q_set2_1n, q_set2_s, l0, hi, ed, if_true, if_false, zb_eq0, zb_eq1, zn_1, not_true_eq_false, not_false_eq_true, ite_true, ite_false, if_true, if_false, q_iret_0, q_iret_1, decide_true, decide_false, decide_not, zb_t, zb_f, z10, z01, cond_true, cond_false, Bool.and_true, Bool.true_and, Bool.and_false, Bool.false_and, Bool.not_true, Bool.not_false, true_and, and_true, false_and, and_false, true_or, or_true, false_or, or_false, Bool.true_eq_false, Bool.false_eq_true, eq_self, reduceCtorEq, Bool.or_true, Bool.true_or, Bool.or_false, Bool.false_or])
      · rw [dS] at hi
        by_cases d : row A i 1 = row A o 1
        · refine ⟨some (.int 1), e.trans ?_⟩
          rw [decide_eq_true d]
          (rw [e_X12_latestOf_9]; simp only [e_X12_latestOf, zo_iload, zo_lload, zo_aload, zo_istore, zo_lstore, zo_astore, zo_iinc, zo_pushI, zo_pushL, zo_null, zo_ii, zo_iid, zo_ll, zo_li, zo_lcmp, zo_i2l, zo_l2i, zo_dup, zo_dup2, zo_pop, zo_goto, zo_if, zo_icmp, zo_ifnull, zo_gets, zo_mm, zo_throw, zo_ret, zo_aret, zo_lret, q_iret_f, q_iret_1, q_iret_0, q_iret_b, q_c8_0, q_c8_1, q_c8_2, q_c8_3, q_c8_4, q_set_0, q_set_1i, q_set_1r, q_set_1n, q_set_1N, q_set_s, q_set_1j, q_bk_v, q_bk_n, q_if, zb_ite, cond_true, cond_false, List.getElem?_cons_zero, List.getElem?_cons_succ, Nat.reduceAdd, q_set_1l, q_set2_0, q_set2_1i, q_set2_1r, q_set2_1n, q_set2_s, l0, hi, b1, x1, b2, x2, q_aR, g1, g2, d, ed, if_true, if_false, zb_eq0, zb_eq1, zn_1, not_true_eq_false, not_false_eq_true, ite_true, ite_false, if_true, if_false, q_iret_0, q_iret_1, decide_true, decide_false, decide_not, zb_t, zb_f, z10, z01, cond_true, cond_false, Bool.and_true, Bool.true_and, Bool.and_false, Bool.false_and, Bool.not_true, Bool.not_false, true_and, and_true, false_and, and_false, true_or, or_true, false_or, or_false, Bool.true_eq_false, Bool.false_eq_true, eq_self, reduceCtorEq, Bool.or_true, Bool.true_or, Bool.or_false, Bool.false_or])
        · refine ⟨some (.int 0), e.trans ?_⟩
          rw [decide_eq_false d]
          (rw [e_X12_latestOf_9]; simp only [e_X12_latestOf, zo_iload, zo_lload, zo_aload, zo_istore, zo_lstore, zo_astore, zo_iinc, zo_pushI, zo_pushL, zo_null, zo_ii, zo_iid, zo_ll, zo_li, zo_lcmp, zo_i2l, zo_l2i, zo_dup, zo_dup2, zo_pop, zo_goto, zo_if, zo_icmp, zo_ifnull, zo_gets, zo_mm, zo_throw, zo_ret, zo_aret, zo_lret, q_iret_f, q_iret_1, q_iret_0, q_iret_b, q_c8_0, q_c8_1, q_c8_2, q_c8_3, q_c8_4, q_set_0, q_set_1i, q_set_1r, q_set_1n, q_set_1N, q_set_s, q_set_1j, q_bk_v, q_bk_n, q_if, zb_ite, cond_true, cond_false, List.getElem?_cons_zero, List.getElem?_cons_succ, Nat.reduceAdd, q_set_1l, q_set2_0, q_set2_1i, q_set2_1r, q_set2_1n, q_set2_s, l0, hi, b1, x1, b2, x2, q_aR, g1, g2, d, ed, if_true, if_false, zb_eq0, zb_eq1, zn_1, not_true_eq_false, not_false_eq_true, ite_true, ite_false, if_true, if_false, q_iret_0, q_iret_1, decide_true, decide_false, decide_not, zb_t, zb_f, z10, z01, cond_true, cond_false, Bool.and_true, Bool.true_and, Bool.and_false, Bool.false_and, Bool.not_true, Bool.not_false, true_and, and_true, false_and, and_false, true_or, or_true, false_or, or_false, Bool.true_eq_false, Bool.false_eq_true, eq_self, reduceCtorEq, Bool.or_true, Bool.true_or, Bool.or_false, Bool.false_or])
  obtain ⟨j, e⟩ := main _ (Nat.le_refl _)
  rw [lF_fst, Nat.sub_self, show zn 0 - 1 = -1 from rfl] at e
  rw [s_X12_latestOf]
  have s1 : zz_ev tX12_latestOf 0 [some (.ref 0), some (.int (zn o)), none, none, none] [] R = zz_ev tX12_latestOf 9 [some (.ref 0), some (.int (zn o)), some (.int (-1)), some (.int (zn (nv A 1) - 1)), none] [] R := by
    (simp only [e_X12_latestOf, zo_iload, zo_lload, zo_aload, zo_istore, zo_lstore, zo_astore, zo_iinc, zo_pushI, zo_pushL, zo_null, zo_ii, zo_iid, zo_ll, zo_li, zo_lcmp, zo_i2l, zo_l2i, zo_dup, zo_dup2, zo_pop, zo_goto, zo_if, zo_icmp, zo_ifnull, zo_gets, zo_mm, zo_throw, zo_ret, zo_aret, zo_lret, q_iret_f, q_iret_1, q_iret_0, q_iret_b, q_c8_0, q_c8_1, q_c8_2, q_c8_3, q_c8_4, q_set_0, q_set_1i, q_set_1r, q_set_1n, q_set_1N, q_set_s, q_set_1j, q_bk_v, q_bk_n, q_if, zb_ite, cond_true, cond_false, List.getElem?_cons_zero, List.getElem?_cons_succ, Nat.reduceAdd, q_set_1l, q_set2_0, q_set2_1i, q_set2_1r, q_set2_1n, q_set2_s, h5, if_true, if_false, zb_eq0, zb_eq1, zn_1, not_true_eq_false, not_false_eq_true, ite_true, ite_false, if_true, if_false, q_iret_0, q_iret_1, decide_true, decide_false, decide_not, zb_t, zb_f, z10, z01, cond_true, cond_false, Bool.and_true, Bool.true_and, Bool.and_false, Bool.false_and, Bool.not_true, Bool.not_false, true_and, and_true, false_and, and_false, true_or, or_true, false_or, or_false, Bool.true_eq_false, Bool.false_eq_true, eq_self, reduceCtorEq, Bool.or_true, Bool.true_or, Bool.or_false, Bool.false_or])
  have l0 : ((-1 : Int32) < 0) = True := eq_true (by decide)
  rw [s1, e]
  (rw [e_X12_latestOf_9]; simp only [e_X12_latestOf, zo_iload, zo_lload, zo_aload, zo_istore, zo_lstore, zo_astore, zo_iinc, zo_pushI, zo_pushL, zo_null, zo_ii, zo_iid, zo_ll, zo_li, zo_lcmp, zo_i2l, zo_l2i, zo_dup, zo_dup2, zo_pop, zo_goto, zo_if, zo_icmp, zo_ifnull, zo_gets, zo_mm, zo_throw, zo_ret, zo_aret, zo_lret, q_iret_f, q_iret_1, q_iret_0, q_iret_b, q_c8_0, q_c8_1, q_c8_2, q_c8_3, q_c8_4, q_set_0, q_set_1i, q_set_1r, q_set_1n, q_set_1N, q_set_s, q_set_1j, q_bk_v, q_bk_n, q_if, zb_ite, cond_true, cond_false, List.getElem?_cons_zero, List.getElem?_cons_succ, Nat.reduceAdd, q_set_1l, q_set2_0, q_set2_1i, q_set2_1r, q_set2_1n, q_set2_s, l0, if_true, if_false, zb_eq0, zb_eq1, zn_1, not_true_eq_false, not_false_eq_true, ite_true, ite_false, if_true, if_false, q_iret_0, q_iret_1, decide_true, decide_false, decide_not, zb_t, zb_f, z10, z01, cond_true, cond_false, Bool.and_true, Bool.true_and, Bool.and_false, Bool.false_and, Bool.not_true, Bool.not_false, true_and, and_true, false_and, and_false, true_or, or_true, false_or, or_false, Bool.true_eq_false, Bool.false_eq_true, eq_self, reduceCtorEq, Bool.or_true, Bool.true_or, Bool.or_false, Bool.false_or])
/-- which PODs run for a DEPLOY -/
def pP (A R : zzMd) (i : Nat) : Bool := decide (R.1 6 i = 2) && (decide (row A i 25 = 0) && decide (row A i 29 = 1))
def qP (A R : zzMd) (o : Nat) (lt l : Int32) (i : Nat) : Bool := pP A R i && (sP A R (zn o) (row A i 24) && (decide (lt = 0) || decide (row A i 24 = l)))
theorem own_cc (H : Rl0 A R) {i : Nat} (hi : i < nv A 1) : row A i 24 = -1 ∨ ∃ s, s < nv A 1 ∧ row A i 24 = zn s := by
  obtain ⟨-, -, ⟨-, -, g2, -⟩, g22, -⟩ := rl_cur H hi
  rcases g2 with g | ⟨w, w1, w2⟩
  · exact Or.inl g
  · rw [g22, zn_ix (by have := lt_n60 H hi; omega)] at w2
    exact Or.inr ⟨w, by omega, w1⟩
theorem l_running (H : Rl0 A R) {o : Nat} (ho : o < nv A 1) (lt l : Int32) : ∀ i, i ≤ nv A 1 → ∃ j6 j7, zz_ev tX12_running 23 [some (.ref 0), some (.int (zn o)), some (.int lt), some (.int l), some (.int 0), some (.int 0), none, none] [] R = zz_ev tX12_running 23 [some (.ref 0), some (.int (zn o)), some (.int lt), some (.int l), some (.int (zn (zcnt i (qP A R o lt l)))), some (.int (zn i)), j6, j7] [] R := by
  have hn := rl_n60 H
  have h5 : R.1 0 5 = zn (nv A 1) := H.2.1.1.2
  intro i
  induction i with
  | zero => exact fun _ => ⟨none, none, rfl⟩
  | succ i ih =>
    intro hi
    obtain ⟨j6, j7, e⟩ := ih (by omega)
    have hs : i < nv A 1 := by omega
    have lh : (zn (nv A 1) ≤ zn i) = False := zk_in hs hn
    obtain ⟨-, -, g13, -, -, g16, gw, -⟩ := h_get H hs
    obtain ⟨b1, x1⟩ := kinds_o i (lt_n60 H hs)
    have hset := r_isSetOf H (zn o) (own_cc H hs)
    rw [zcnt_s, show qP A R o lt l i = ((decide (R.1 6 i = 2) && (decide (row A i 25 = 0) && decide (row A i 29 = 1))) && (sP A R (zn o) (row A i 24) && (decide (lt = 0) || decide (row A i 24 = l)))) from rfl]
    generalize zcnt i (qP A R o lt l) = z at *
    by_cases d1 : R.1 6 i = 2
    · by_cases d2 : row A i 25 = 0
      · by_cases d3 : row A i 29 = 1
        · rw [decide_eq_true d1, decide_eq_true d2, decide_eq_true d3]
          cases dS : sP A R (zn o) (row A i 24)
          · rw [dS] at hset
            refine ⟨some (.int (row A i 24)), some (.int 1), e.trans ?_⟩
            (rw [e_X12_running_23]; simp only [e_X12_running, zo_iload, zo_lload, zo_aload, zo_istore, zo_lstore, zo_astore, zo_iinc, zo_pushI, zo_pushL, zo_null, zo_ii, zo_iid, zo_ll, zo_li, zo_lcmp, zo_i2l, zo_l2i, zo_dup, zo_dup2, zo_pop, zo_goto, zo_if, zo_icmp, zo_ifnull, zo_gets, zo_mm, zo_throw, zo_ret, zo_aret, zo_lret, q_iret_f, q_iret_1, q_iret_0, q_iret_b, q_c8_0, q_c8_1, q_c8_2, q_c8_3, q_c8_4, q_set_0, q_set_1i, q_set_1r, q_set_1n, q_set_1N, q_set_s, q_set_1j, q_bk_v, q_bk_n, q_if, zb_ite, cond_true, cond_false, List.getElem?_cons_zero, List.getElem?_cons_succ, Nat.reduceAdd, q_set_1l, q_set2_0, q_set2_1i, q_set2_1r, q_set2_1n, q_set2_s, h5, lh, b1, x1, q_aR, gw, d1, g13, d2, g16, d3, hset, Int32.add_zero, Nat.add_zero, if_true, if_false, zb_eq0, zb_eq1, zn_1, not_true_eq_false, not_false_eq_true, ite_true, ite_false, if_true, if_false, q_iret_0, q_iret_1, decide_true, decide_false, decide_not, zb_t, zb_f, z10, z01, cond_true, cond_false, Bool.and_true, Bool.true_and, Bool.and_false, Bool.false_and, Bool.not_true, Bool.not_false, true_and, and_true, false_and, and_false, true_or, or_true, false_or, or_false, Bool.true_eq_false, Bool.false_eq_true, eq_self, reduceCtorEq, Bool.or_true, Bool.true_or, Bool.or_false, Bool.false_or])
          · rw [dS] at hset
            by_cases d4 : lt = 0
            · refine ⟨some (.int (row A i 24)), some (.int 1), e.trans ?_⟩
              (rw [e_X12_running_23]; simp only [e_X12_running, zo_iload, zo_lload, zo_aload, zo_istore, zo_lstore, zo_astore, zo_iinc, zo_pushI, zo_pushL, zo_null, zo_ii, zo_iid, zo_ll, zo_li, zo_lcmp, zo_i2l, zo_l2i, zo_dup, zo_dup2, zo_pop, zo_goto, zo_if, zo_icmp, zo_ifnull, zo_gets, zo_mm, zo_throw, zo_ret, zo_aret, zo_lret, q_iret_f, q_iret_1, q_iret_0, q_iret_b, q_c8_0, q_c8_1, q_c8_2, q_c8_3, q_c8_4, q_set_0, q_set_1i, q_set_1r, q_set_1n, q_set_1N, q_set_s, q_set_1j, q_bk_v, q_bk_n, q_if, zb_ite, cond_true, cond_false, List.getElem?_cons_zero, List.getElem?_cons_succ, Nat.reduceAdd, q_set_1l, q_set2_0, q_set2_1i, q_set2_1r, q_set2_1n, q_set2_s, h5, lh, b1, x1, q_aR, gw, d1, g13, d2, g16, d3, hset, d4, if_true, if_false, zb_eq0, zb_eq1, zn_1, not_true_eq_false, not_false_eq_true, ite_true, ite_false, if_true, if_false, q_iret_0, q_iret_1, decide_true, decide_false, decide_not, zb_t, zb_f, z10, z01, cond_true, cond_false, Bool.and_true, Bool.true_and, Bool.and_false, Bool.false_and, Bool.not_true, Bool.not_false, true_and, and_true, false_and, and_false, true_or, or_true, false_or, or_false, Bool.true_eq_false, Bool.false_eq_true, eq_self, reduceCtorEq, Bool.or_true, Bool.true_or, Bool.or_false, Bool.false_or])
            · by_cases d5 : row A i 24 = l
              · refine ⟨some (.int (row A i 24)), some (.int 1), e.trans ?_⟩
                have d5' := eq_true d5
                (rw [e_X12_running_23]; simp only [e_X12_running, zo_iload, zo_lload, zo_aload, zo_istore, zo_lstore, zo_astore, zo_iinc, zo_pushI, zo_pushL, zo_null, zo_ii, zo_iid, zo_ll, zo_li, zo_lcmp, zo_i2l, zo_l2i, zo_dup, zo_dup2, zo_pop, zo_goto, zo_if, zo_icmp, zo_ifnull, zo_gets, zo_mm, zo_throw, zo_ret, zo_aret, zo_lret, q_iret_f, q_iret_1, q_iret_0, q_iret_b, q_c8_0, q_c8_1, q_c8_2, q_c8_3, q_c8_4, q_set_0, q_set_1i, q_set_1r, q_set_1n, q_set_1N, q_set_s, q_set_1j, q_bk_v, q_bk_n, q_if, zb_ite, cond_true, cond_false, List.getElem?_cons_zero, List.getElem?_cons_succ, Nat.reduceAdd, q_set_1l, q_set2_0, q_set2_1i, q_set2_1r, q_set2_1n, q_set2_s, h5, lh, b1, x1, q_aR, gw, d1, g13, d2, g16, d3, hset, d4, d5', if_true, if_false, zb_eq0, zb_eq1, zn_1, not_true_eq_false, not_false_eq_true, ite_true, ite_false, if_true, if_false, q_iret_0, q_iret_1, decide_true, decide_false, decide_not, zb_t, zb_f, z10, z01, cond_true, cond_false, Bool.and_true, Bool.true_and, Bool.and_false, Bool.false_and, Bool.not_true, Bool.not_false, true_and, and_true, false_and, and_false, true_or, or_true, false_or, or_false, Bool.true_eq_false, Bool.false_eq_true, eq_self, reduceCtorEq, Bool.or_true, Bool.true_or, Bool.or_false, Bool.false_or])
              · refine ⟨some (.int (row A i 24)), some (.int 1), e.trans ?_⟩
                (rw [e_X12_running_23]; simp only [e_X12_running, zo_iload, zo_lload, zo_aload, zo_istore, zo_lstore, zo_astore, zo_iinc, zo_pushI, zo_pushL, zo_null, zo_ii, zo_iid, zo_ll, zo_li, zo_lcmp, zo_i2l, zo_l2i, zo_dup, zo_dup2, zo_pop, zo_goto, zo_if, zo_icmp, zo_ifnull, zo_gets, zo_mm, zo_throw, zo_ret, zo_aret, zo_lret, q_iret_f, q_iret_1, q_iret_0, q_iret_b, q_c8_0, q_c8_1, q_c8_2, q_c8_3, q_c8_4, q_set_0, q_set_1i, q_set_1r, q_set_1n, q_set_1N, q_set_s, q_set_1j, q_bk_v, q_bk_n, q_if, zb_ite, cond_true, cond_false, List.getElem?_cons_zero, List.getElem?_cons_succ, Nat.reduceAdd, q_set_1l, q_set2_0, q_set2_1i, q_set2_1r, q_set2_1n, q_set2_s, h5, lh, b1, x1, q_aR, gw, d1, g13, d2, g16, d3, hset, d4, d5, Int32.add_zero, Nat.add_zero, if_true, if_false, zb_eq0, zb_eq1, zn_1, not_true_eq_false, not_false_eq_true, ite_true, ite_false, if_true, if_false, q_iret_0, q_iret_1, decide_true, decide_false, decide_not, zb_t, zb_f, z10, z01, cond_true, cond_false, Bool.and_true, Bool.true_and, Bool.and_false, Bool.false_and, Bool.not_true, Bool.not_false, true_and, and_true, false_and, and_false, true_or, or_true, false_or, or_false, Bool.true_eq_false, Bool.false_eq_true, eq_self, reduceCtorEq, Bool.or_true, Bool.true_or, Bool.or_false, Bool.false_or])
        · rw [decide_eq_false d3]
          refine ⟨some (.int (row A i 24)), some (.int 0), e.trans ?_⟩
          (rw [e_X12_running_23]; simp only [e_X12_running, zo_iload, zo_lload, zo_aload, zo_istore, zo_lstore, zo_astore, zo_iinc, zo_pushI, zo_pushL, zo_null, zo_ii, zo_iid, zo_ll, zo_li, zo_lcmp, zo_i2l, zo_l2i, zo_dup, zo_dup2, zo_pop, zo_goto, zo_if, zo_icmp, zo_ifnull, zo_gets, zo_mm, zo_throw, zo_ret, zo_aret, zo_lret, q_iret_f, q_iret_1, q_iret_0, q_iret_b, q_c8_0, q_c8_1, q_c8_2, q_c8_3, q_c8_4, q_set_0, q_set_1i, q_set_1r, q_set_1n, q_set_1N, q_set_s, q_set_1j, q_bk_v, q_bk_n, q_if, zb_ite, cond_true, cond_false, List.getElem?_cons_zero, List.getElem?_cons_succ, Nat.reduceAdd, q_set_1l, q_set2_0, q_set2_1i, q_set2_1r, q_set2_1n, q_set2_s, h5, lh, b1, x1, q_aR, gw, d1, g13, d2, g16, d3, Int32.add_zero, Nat.add_zero, if_true, if_false, zb_eq0, zb_eq1, zn_1, not_true_eq_false, not_false_eq_true, ite_true, ite_false, if_true, if_false, q_iret_0, q_iret_1, decide_true, decide_false, decide_not, zb_t, zb_f, z10, z01, cond_true, cond_false, Bool.and_true, Bool.true_and, Bool.and_false, Bool.false_and, Bool.not_true, Bool.not_false, true_and, and_true, false_and, and_false, true_or, or_true, false_or, or_false, Bool.true_eq_false, Bool.false_eq_true, eq_self, reduceCtorEq, Bool.or_true, Bool.true_or, Bool.or_false, Bool.false_or])
      · rw [decide_eq_false d2]
        refine ⟨some (.int (row A i 24)), some (.int 0), e.trans ?_⟩
        (rw [e_X12_running_23]; simp only [e_X12_running, zo_iload, zo_lload, zo_aload, zo_istore, zo_lstore, zo_astore, zo_iinc, zo_pushI, zo_pushL, zo_null, zo_ii, zo_iid, zo_ll, zo_li, zo_lcmp, zo_i2l, zo_l2i, zo_dup, zo_dup2, zo_pop, zo_goto, zo_if, zo_icmp, zo_ifnull, zo_gets, zo_mm, zo_throw, zo_ret, zo_aret, zo_lret, q_iret_f, q_iret_1, q_iret_0, q_iret_b, q_c8_0, q_c8_1, q_c8_2, q_c8_3, q_c8_4, q_set_0, q_set_1i, q_set_1r, q_set_1n, q_set_1N, q_set_s, q_set_1j, q_bk_v, q_bk_n, q_if, zb_ite, cond_true, cond_false, List.getElem?_cons_zero, List.getElem?_cons_succ, Nat.reduceAdd, q_set_1l, q_set2_0, q_set2_1i, q_set2_1r, q_set2_1n, q_set2_s, h5, lh, b1, x1, q_aR, gw, d1, g13, d2, Int32.add_zero, Nat.add_zero, if_true, if_false, zb_eq0, zb_eq1, zn_1, not_true_eq_false, not_false_eq_true, ite_true, ite_false, if_true, if_false, q_iret_0, q_iret_1, decide_true, decide_false, decide_not, zb_t, zb_f, z10, z01, cond_true, cond_false, Bool.and_true, Bool.true_and, Bool.and_false, Bool.false_and, Bool.not_true, Bool.not_false, true_and, and_true, false_and, and_false, true_or, or_true, false_or, or_false, Bool.true_eq_false, Bool.false_eq_true, eq_self, reduceCtorEq, Bool.or_true, Bool.true_or, Bool.or_false, Bool.false_or])
    · rw [decide_eq_false d1]
      refine ⟨some (.int (row A i 24)), some (.int 0), e.trans ?_⟩
      (rw [e_X12_running_23]; simp only [e_X12_running, zo_iload, zo_lload, zo_aload, zo_istore, zo_lstore, zo_astore, zo_iinc, zo_pushI, zo_pushL, zo_null, zo_ii, zo_iid, zo_ll, zo_li, zo_lcmp, zo_i2l, zo_l2i, zo_dup, zo_dup2, zo_pop, zo_goto, zo_if, zo_icmp, zo_ifnull, zo_gets, zo_mm, zo_throw, zo_ret, zo_aret, zo_lret, q_iret_f, q_iret_1, q_iret_0, q_iret_b, q_c8_0, q_c8_1, q_c8_2, q_c8_3, q_c8_4, q_set_0, q_set_1i, q_set_1r, q_set_1n, q_set_1N, q_set_s, q_set_1j, q_bk_v, q_bk_n, q_if, zb_ite, cond_true, cond_false, List.getElem?_cons_zero, List.getElem?_cons_succ, Nat.reduceAdd, q_set_1l, q_set2_0, q_set2_1i, q_set2_1r, q_set2_1n, q_set2_s, h5, lh, b1, x1, q_aR, gw, d1, Int32.add_zero, Nat.add_zero, if_true, if_false, zb_eq0, zb_eq1, zn_1, not_true_eq_false, not_false_eq_true, ite_true, ite_false, if_true, if_false, q_iret_0, q_iret_1, decide_true, decide_false, decide_not, zb_t, zb_f, z10, z01, cond_true, cond_false, Bool.and_true, Bool.true_and, Bool.and_false, Bool.false_and, Bool.not_true, Bool.not_false, true_and, and_true, false_and, and_false, true_or, or_true, false_or, or_false, Bool.true_eq_false, Bool.false_eq_true, eq_self, reduceCtorEq, Bool.or_true, Bool.true_or, Bool.or_false, Bool.false_or])
theorem own_row (H : Rl0 A R) {i : Nat} (hi : i < nv A 1) (k w : Int32) : owned A 1 (zn i) k w = (decide (row A i 24 = w) && (decide (R.1 6 i = k) && decide (row A i 25 = 0))) := by
  have h60 := lt_n60 H hi
  unfold owned
  rw [show rd A 1 (zn i) 24 = row A i 24 from rd_row (k := 24) h60 (by decide), show rd A 1 (zn i) 23 = row A i 23 from rd_row (k := 23) h60 (by decide), show rd A 1 (zn i) 25 = row A i 25 from rd_row (k := 25) h60 (by decide), (rl_cur H hi).2.2.2.2]
  by_cases c1 : row A i 24 = w <;> by_cases c2 : R.1 6 i = k <;> by_cases c3 : row A i 25 = 0 <;> simp [c1, c2, c3]
theorem own_set (H : Rl0 A R) {i : Nat} (hi : i < nv A 1) (o : Nat) : owned A 1 (zn i) 1 (zn o) = sP A R (zn o) (zn i) := by
  rw [own_row H hi, sP_n A R _ (lt_n60 H hi)]
  by_cases c1 : row A i 24 = zn o <;> by_cases c2 : R.1 6 i = 1 <;> by_cases c3 : row A i 25 = 0 <;> simp [c1, c2, c3]
theorem own_pod (H : Rl0 A R) {i : Nat} (hi : i < nv A 1) (w : Int32) : (owned A 1 (zn i) 2 w && decide (rd A 1 (zn i) 29 = 1)) = (pP A R i && decide (row A i 24 = w)) := by
  have h60 := lt_n60 H hi
  rw [own_row H hi, show rd A 1 (zn i) 29 = row A i 29 from rd_row (k := 29) h60 (by decide)]
  unfold pP
  by_cases c1 : row A i 24 = w <;> by_cases c2 : R.1 6 i = 2 <;> by_cases c3 : row A i 25 = 0 <;> by_cases c4 : row A i 29 = 1 <;> simp [c1, c2, c3, c4]
/-- the newest SET -/
theorem new_set (H : Rl0 A R) {o : Nat} (ho : o < nv A 1) : newSet A 1 (nv A 1) (zn o) = zfst (nv A 1) (lP A R o) := zfst_congr fun i hi => by
  show (owned A 1 (zn i) 1 (zn o) && decide (rd A 1 (zn i) 1 = rd A 1 (zn o) 1)) = (sP A R (zn o) (zn i) && decide (row A i 1 = row A o 1))
  rw [own_set H hi, show rd A 1 (zn i) 1 = row A i 1 from rd_row (k := 1) (lt_n60 H hi) (by decide), show rd A 1 (zn o) 1 = row A o 1 from rd_row (k := 1) (lt_n60 H ho) (by decide)]
theorem cnt_latest (H : Rl0 A R) {o : Nat} {lt : Int32} (hl : ¬ lt = 0) : cntRun A 1 (nv A 1) (zoi (zfst (nv A 1) (lP A R o))) = zcnt (nv A 1) (qP A R o lt (zoi (zfst (nv A 1) (lP A R o)))) := by
  cases h : zfst (nv A 1) (lP A R o) with
  | none =>
    show (if (-1 : Int32) = -1 then 0 else _) = zcnt (nv A 1) (qP A R o lt (-1))
    rw [if_pos rfl]
    have e : zcnt (nv A 1) (qP A R o lt (-1)) = zcnt (nv A 1) (fun _ => false) := zcnt_congr fun i hi => by
      show (pP A R i && (sP A R (zn o) (row A i 24) && (decide (lt = 0) || decide (row A i 24 = -1)))) = false
      rw [decide_eq_false hl, Bool.false_or]
      by_cases d : row A i 24 = -1
      · rw [d, sP_m1, Bool.false_and, Bool.and_false]
      · rw [decide_eq_false d, Bool.and_false, Bool.and_false]
    have e2 : ∀ n, zcnt n (fun _ => false) = 0 := fun n => by
      induction n with
      | zero => rfl
      | succ n ih => rw [zcnt_s, ih]; rfl
    rw [e, e2]
  | some q =>
    obtain ⟨a, b, -⟩ := zfst_some h
    have hs : sP A R (zn o) (zn q) = true := (Bool.and_eq_true_iff.mp b).1
    show (if zn q = -1 then 0 else zcnt (nv A 1) fun i => owned A 1 (zn i) 2 (zn q) && decide (rd A 1 (zn i) 29 = 1)) = zcnt (nv A 1) (qP A R o lt (zn q))
    rw [if_neg (zn_m1 (by have := lt_n60 H a; omega)).mp]
    refine zcnt_congr fun i hi => ?_
    show (owned A 1 (zn i) 2 (zn q) && decide (rd A 1 (zn i) 29 = 1)) = (pP A R i && (sP A R (zn o) (row A i 24) && (decide (lt = 0) || decide (row A i 24 = zn q))))
    rw [own_pod H hi, decide_eq_false hl, Bool.false_or]
    by_cases d : row A i 24 = zn q
    · rw [d, hs, Bool.true_and]
    · rw [decide_eq_false d, Bool.and_false, Bool.and_false, Bool.and_false]
theorem cnt_all (H : Rl0 A R) {o : Nat} (l : Int32) : (zsum (nv A 1) fun i => bif owned A 1 (zn i) 1 (zn o) then zn (cntRun A 1 (nv A 1) (zn i)) else 0) = zn (zcnt (nv A 1) (qP A R o 0 l)) := by
  have hn := rl_n60 H
  have e1 : (zsum (nv A 1) fun i => bif owned A 1 (zn i) 1 (zn o) then zn (cntRun A 1 (nv A 1) (zn i)) else 0) = zsum (nv A 1) fun s => bif sP A R (zn o) (zn s) then zn (zcnt (nv A 1) fun p => pP A R p && decide (row A p 24 = zn s)) else 0 := zsum_congr fun s hs => by
    rw [own_set H hs]
    have e : cntRun A 1 (nv A 1) (zn s) = zcnt (nv A 1) fun p => pP A R p && decide (row A p 24 = zn s) := by
      show (if zn s = -1 then 0 else zcnt (nv A 1) fun i => owned A 1 (zn i) 2 (zn s) && decide (rd A 1 (zn i) 29 = 1)) = _
      rw [if_neg (zn_m1 (by omega)).mp]
      exact zcnt_congr fun i hi => own_pod H hi _
    rw [e]
  rw [e1, zsum_own (nv A 1) (fun s => sP A R (zn o) (zn s)) (pP A R) (fun p => row A p 24) (nv A 1) hn]
  refine congrArg zn (zcnt_congr fun i hi => ?_)
  show (pP A R i && anyB (nv A 1) fun s => sP A R (zn o) (zn s) && decide (row A i 24 = zn s)) = (pP A R i && (sP A R (zn o) (row A i 24) && (decide ((0 : Int32) = 0) || decide (row A i 24 = l))))
  rw [show decide ((0 : Int32) = 0) = true from rfl, Bool.true_or, Bool.and_true]
  refine congrArg (pP A R i && ·) ?_
  rcases own_cc H hi with d | ⟨s, hs, d⟩
  · rw [d, sP_m1]
    refine anyB_f fun s hs => ?_
    rw [decide_eq_false (fun z => (zn_m1 (k := s) (by omega)).mp z.symm), Bool.and_false]
  · rw [d]
    cases h : sP A R (zn o) (zn s)
    · refine anyB_f fun s' hs' => ?_
      by_cases q : s = s'
      · rw [← q, h, Bool.false_and]
      · rw [decide_eq_false (fun z => q ((zn_inj (a := s) (b := s') (by omega) (by omega)).mp z)), Bool.and_false]
    · refine anyB_t (k := s) ?_ hs
      rw [h, decide_eq_true rfl]; rfl
end
section
variable {M R : zzMd}
theorem c_running (H : Rel (nz M) R) (x p : Int32) : zAg (cdl [2, 0, 1]) (fX11_running [.ref 0, .int x, .int p] M) (fX12_running [.ref 0, .int x, .int p] R) := by
  rw [s_X11_running, s_X12_running]
  rcases h_obj H x with ⟨h1, h2⟩ | ⟨o, rfl, ho, h1, h2⟩
  · have h3 := r_asksK0 (k := 0) h2
    refine zAg_x (M' := M) (R' := zz_sI R 0 49 1) (e := 2) (v := 0) ?_ ?_ (Rel_49 H) sI_e (by decide)
    · (simp only [e_X11_running, zo_iload, zo_lload, zo_aload, zo_istore, zo_lstore, zo_astore, zo_iinc, zo_pushI, zo_pushL, zo_null, zo_ii, zo_iid, zo_ll, zo_li, zo_lcmp, zo_i2l, zo_l2i, zo_dup, zo_dup2, zo_pop, zo_goto, zo_if, zo_icmp, zo_ifnull, zo_gets, zo_mm, zo_throw, zo_ret, zo_aret, zo_lret, q_iret_f, q_iret_1, q_iret_0, q_iret_b, q_c8_0, q_c8_1, q_c8_2, q_c8_3, q_c8_4, q_set_0, q_set_1i, q_set_1r, q_set_1n, q_set_1N, q_set_s, q_set_1j, q_bk_v, q_bk_n, q_if, zb_ite, cond_true, cond_false, List.getElem?_cons_zero, List.getElem?_cons_succ, Nat.reduceAdd, q_bx_v, q_bx_n, q_bx_x, h1, if_true, if_false, zb_eq0, zb_eq1, zn_1, not_true_eq_false, not_false_eq_true, ite_true, ite_false, if_true, if_false, q_iret_0, q_iret_1, decide_true, decide_false, decide_not, zb_t, zb_f, z10, z01, cond_true, cond_false, Bool.and_true, Bool.true_and, Bool.and_false, Bool.false_and, Bool.not_true, Bool.not_false, true_and, and_true, false_and, and_false, true_or, or_true, false_or, or_false, Bool.true_eq_false, Bool.false_eq_true, eq_self, reduceCtorEq, Bool.or_true, Bool.true_or, Bool.or_false, Bool.false_or])
    · (simp only [e_X12_running, zo_iload, zo_lload, zo_aload, zo_istore, zo_lstore, zo_astore, zo_iinc, zo_pushI, zo_pushL, zo_null, zo_ii, zo_iid, zo_ll, zo_li, zo_lcmp, zo_i2l, zo_l2i, zo_dup, zo_dup2, zo_pop, zo_goto, zo_if, zo_icmp, zo_ifnull, zo_gets, zo_mm, zo_throw, zo_ret, zo_aret, zo_lret, q_iret_f, q_iret_1, q_iret_0, q_iret_b, q_c8_0, q_c8_1, q_c8_2, q_c8_3, q_c8_4, q_set_0, q_set_1i, q_set_1r, q_set_1n, q_set_1N, q_set_s, q_set_1j, q_bk_v, q_bk_n, q_if, zb_ite, cond_true, cond_false, List.getElem?_cons_zero, List.getElem?_cons_succ, Nat.reduceAdd, q_set_1l, q_set2_0, q_set2_1i, q_set2_1r, q_set2_1n, q_set2_s, h3, if_true, if_false, zb_eq0, zb_eq1, zn_1, not_true_eq_false, not_false_eq_true, ite_true, ite_false, if_true, if_false, q_iret_0, q_iret_1, decide_true, decide_false, decide_not, zb_t, zb_f, z10, z01, cond_true, cond_false, Bool.and_true, Bool.true_and, Bool.and_false, Bool.false_and, Bool.not_true, Bool.not_false, true_and, and_true, false_and, and_false, true_or, or_true, false_or, or_false, Bool.true_eq_false, Bool.false_eq_true, eq_self, reduceCtorEq, Bool.or_true, Bool.true_or, Bool.or_false, Bool.false_or])
  have hk := sp_reqK (k := 0) (h_rd H ho).1
  by_cases d : R.1 6 o = 0
  · have h3 := r_asksK1 H.1 ho h2 d
    rw [decide_eq_true d, cond_true] at hk
    have H0 : Rel M (zz_sI R 0 49 0) := Rel_nz.mp (Rel_49 H)
    have h49 : (zz_sI R 0 49 0).1 0 49 = 0 := sI_e
    generalize zz_sI R 0 49 0 = R0 at *
    have hl := r_latestOf H0.1 ho
    have hn := rl_n60 H0.1
    have h5 : R0.1 0 5 = zn (nv M 1) := H0.1.2.1.1.2
    have W1 := zIC_1 H0.1.1.2
    have lh : (zn (nv M 1) ≤ zn (nv M 1)) = True := zk_out hn
    obtain ⟨j6, j7, e⟩ := l_running H0.1 ho p (zoi (zfst (nv M 1) (lP M R0 o))) _ (Nat.le_refl _)
    refine zAg_v (M' := M) (R' := R0) (v := zn (zcnt (nv M 1) (qP M R0 o p (zoi (zfst (nv M 1) (lP M R0 o)))))) ?_ ?_ (Rel_nz.mpr H0) h49
    · by_cases dp : p = 0
      · have ha := sp_countRunningOfAll W1 (zn o)
        rw [cnt_all H0.1 (zoi (zfst (nv M 1) (lP M R0 o)))] at ha
        subst dp
        (simp only [e_X11_running, zo_iload, zo_lload, zo_aload, zo_istore, zo_lstore, zo_astore, zo_iinc, zo_pushI, zo_pushL, zo_null, zo_ii, zo_iid, zo_ll, zo_li, zo_lcmp, zo_i2l, zo_l2i, zo_dup, zo_dup2, zo_pop, zo_goto, zo_if, zo_icmp, zo_ifnull, zo_gets, zo_mm, zo_throw, zo_ret, zo_aret, zo_lret, q_iret_f, q_iret_1, q_iret_0, q_iret_b, q_c8_0, q_c8_1, q_c8_2, q_c8_3, q_c8_4, q_set_0, q_set_1i, q_set_1r, q_set_1n, q_set_1N, q_set_s, q_set_1j, q_bk_v, q_bk_n, q_if, zb_ite, cond_true, cond_false, List.getElem?_cons_zero, List.getElem?_cons_succ, Nat.reduceAdd, q_bx_v, q_bx_n, q_bx_x, h1, hk, ha, if_true, if_false, zb_eq0, zb_eq1, zn_1, not_true_eq_false, not_false_eq_true, ite_true, ite_false, if_true, if_false, q_iret_0, q_iret_1, decide_true, decide_false, decide_not, zb_t, zb_f, z10, z01, cond_true, cond_false, Bool.and_true, Bool.true_and, Bool.and_false, Bool.false_and, Bool.not_true, Bool.not_false, true_and, and_true, false_and, and_false, true_or, or_true, false_or, or_false, Bool.true_eq_false, Bool.false_eq_true, eq_self, reduceCtorEq, Bool.or_true, Bool.true_or, Bool.or_false, Bool.false_or])
      · have ha := sp_newSetOf W1 (zn o)
        rw [new_set H0.1 ho] at ha
        have hb := sp_countRunning W1 (zoi (zfst (nv M 1) (lP M R0 o)))
        rw [cnt_latest H0.1 dp] at hb
        (simp only [e_X11_running, zo_iload, zo_lload, zo_aload, zo_istore, zo_lstore, zo_astore, zo_iinc, zo_pushI, zo_pushL, zo_null, zo_ii, zo_iid, zo_ll, zo_li, zo_lcmp, zo_i2l, zo_l2i, zo_dup, zo_dup2, zo_pop, zo_goto, zo_if, zo_icmp, zo_ifnull, zo_gets, zo_mm, zo_throw, zo_ret, zo_aret, zo_lret, q_iret_f, q_iret_1, q_iret_0, q_iret_b, q_c8_0, q_c8_1, q_c8_2, q_c8_3, q_c8_4, q_set_0, q_set_1i, q_set_1r, q_set_1n, q_set_1N, q_set_s, q_set_1j, q_bk_v, q_bk_n, q_if, zb_ite, cond_true, cond_false, List.getElem?_cons_zero, List.getElem?_cons_succ, Nat.reduceAdd, q_bx_v, q_bx_n, q_bx_x, h1, hk, dp, ha, hb, if_true, if_false, zb_eq0, zb_eq1, zn_1, not_true_eq_false, not_false_eq_true, ite_true, ite_false, if_true, if_false, q_iret_0, q_iret_1, decide_true, decide_false, decide_not, zb_t, zb_f, z10, z01, cond_true, cond_false, Bool.and_true, Bool.true_and, Bool.and_false, Bool.false_and, Bool.not_true, Bool.not_false, true_and, and_true, false_and, and_false, true_or, or_true, false_or, or_false, Bool.true_eq_false, Bool.false_eq_true, eq_self, reduceCtorEq, Bool.or_true, Bool.true_or, Bool.or_false, Bool.false_or])
    · have s1 : zz_ev tX12_running 0 [some (.ref 0), some (.int (zn o)), some (.int p), none, none, none, none, none] [] R = zz_ev tX12_running 23 [some (.ref 0), some (.int (zn o)), some (.int p), some (.int (zoi (zfst (nv M 1) (lP M R0 o)))), some (.int 0), some (.int 0), none, none] [] R0 := by
        (simp only [e_X12_running, zo_iload, zo_lload, zo_aload, zo_istore, zo_lstore, zo_astore, zo_iinc, zo_pushI, zo_pushL, zo_null, zo_ii, zo_iid, zo_ll, zo_li, zo_lcmp, zo_i2l, zo_l2i, zo_dup, zo_dup2, zo_pop, zo_goto, zo_if, zo_icmp, zo_ifnull, zo_gets, zo_mm, zo_throw, zo_ret, zo_aret, zo_lret, q_iret_f, q_iret_1, q_iret_0, q_iret_b, q_c8_0, q_c8_1, q_c8_2, q_c8_3, q_c8_4, q_set_0, q_set_1i, q_set_1r, q_set_1n, q_set_1N, q_set_s, q_set_1j, q_bk_v, q_bk_n, q_if, zb_ite, cond_true, cond_false, List.getElem?_cons_zero, List.getElem?_cons_succ, Nat.reduceAdd, q_set_1l, q_set2_0, q_set2_1i, q_set2_1r, q_set2_1n, q_set2_s, h3, hl, if_true, if_false, zb_eq0, zb_eq1, zn_1, not_true_eq_false, not_false_eq_true, ite_true, ite_false, if_true, if_false, q_iret_0, q_iret_1, decide_true, decide_false, decide_not, zb_t, zb_f, z10, z01, cond_true, cond_false, Bool.and_true, Bool.true_and, Bool.and_false, Bool.false_and, Bool.not_true, Bool.not_false, true_and, and_true, false_and, and_false, true_or, or_true, false_or, or_false, Bool.true_eq_false, Bool.false_eq_true, eq_self, reduceCtorEq, Bool.or_true, Bool.true_or, Bool.or_false, Bool.false_or])
      rw [s1, e]
      (rw [e_X12_running_23]; simp only [e_X12_running, zo_iload, zo_lload, zo_aload, zo_istore, zo_lstore, zo_astore, zo_iinc, zo_pushI, zo_pushL, zo_null, zo_ii, zo_iid, zo_ll, zo_li, zo_lcmp, zo_i2l, zo_l2i, zo_dup, zo_dup2, zo_pop, zo_goto, zo_if, zo_icmp, zo_ifnull, zo_gets, zo_mm, zo_throw, zo_ret, zo_aret, zo_lret, q_iret_f, q_iret_1, q_iret_0, q_iret_b, q_c8_0, q_c8_1, q_c8_2, q_c8_3, q_c8_4, q_set_0, q_set_1i, q_set_1r, q_set_1n, q_set_1N, q_set_s, q_set_1j, q_bk_v, q_bk_n, q_if, zb_ite, cond_true, cond_false, List.getElem?_cons_zero, List.getElem?_cons_succ, Nat.reduceAdd, q_set_1l, q_set2_0, q_set2_1i, q_set2_1r, q_set2_1n, q_set2_s, h5, lh, if_true, if_false, zb_eq0, zb_eq1, zn_1, not_true_eq_false, not_false_eq_true, ite_true, ite_false, if_true, if_false, q_iret_0, q_iret_1, decide_true, decide_false, decide_not, zb_t, zb_f, z10, z01, cond_true, cond_false, Bool.and_true, Bool.true_and, Bool.and_false, Bool.false_and, Bool.not_true, Bool.not_false, true_and, and_true, false_and, and_false, true_or, or_true, false_or, or_false, Bool.true_eq_false, Bool.false_eq_true, eq_self, reduceCtorEq, Bool.or_true, Bool.true_or, Bool.or_false, Bool.false_or])
  · have h3 := r_asksK2 H.1 ho h2 d
    rw [decide_eq_false d, cond_false] at hk
    refine zAg_x (M' := M) (R' := zz_sI R 0 49 2) (e := 0) (v := 0) ?_ ?_ (Rel_49 H) sI_e (by decide)
    · (simp only [e_X11_running, zo_iload, zo_lload, zo_aload, zo_istore, zo_lstore, zo_astore, zo_iinc, zo_pushI, zo_pushL, zo_null, zo_ii, zo_iid, zo_ll, zo_li, zo_lcmp, zo_i2l, zo_l2i, zo_dup, zo_dup2, zo_pop, zo_goto, zo_if, zo_icmp, zo_ifnull, zo_gets, zo_mm, zo_throw, zo_ret, zo_aret, zo_lret, q_iret_f, q_iret_1, q_iret_0, q_iret_b, q_c8_0, q_c8_1, q_c8_2, q_c8_3, q_c8_4, q_set_0, q_set_1i, q_set_1r, q_set_1n, q_set_1N, q_set_s, q_set_1j, q_bk_v, q_bk_n, q_if, zb_ite, cond_true, cond_false, List.getElem?_cons_zero, List.getElem?_cons_succ, Nat.reduceAdd, q_bx_v, q_bx_n, q_bx_x, h1, hk, if_true, if_false, zb_eq0, zb_eq1, zn_1, not_true_eq_false, not_false_eq_true, ite_true, ite_false, if_true, if_false, q_iret_0, q_iret_1, decide_true, decide_false, decide_not, zb_t, zb_f, z10, z01, cond_true, cond_false, Bool.and_true, Bool.true_and, Bool.and_false, Bool.false_and, Bool.not_true, Bool.not_false, true_and, and_true, false_and, and_false, true_or, or_true, false_or, or_false, Bool.true_eq_false, Bool.false_eq_true, eq_self, reduceCtorEq, Bool.or_true, Bool.true_or, Bool.or_false, Bool.false_or])
    · (simp only [e_X12_running, zo_iload, zo_lload, zo_aload, zo_istore, zo_lstore, zo_astore, zo_iinc, zo_pushI, zo_pushL, zo_null, zo_ii, zo_iid, zo_ll, zo_li, zo_lcmp, zo_i2l, zo_l2i, zo_dup, zo_dup2, zo_pop, zo_goto, zo_if, zo_icmp, zo_ifnull, zo_gets, zo_mm, zo_throw, zo_ret, zo_aret, zo_lret, q_iret_f, q_iret_1, q_iret_0, q_iret_b, q_c8_0, q_c8_1, q_c8_2, q_c8_3, q_c8_4, q_set_0, q_set_1i, q_set_1r, q_set_1n, q_set_1N, q_set_s, q_set_1j, q_bk_v, q_bk_n, q_if, zb_ite, cond_true, cond_false, List.getElem?_cons_zero, List.getElem?_cons_succ, Nat.reduceAdd, q_set_1l, q_set2_0, q_set2_1i, q_set2_1r, q_set2_1n, q_set2_s, h3, if_true, if_false, zb_eq0, zb_eq1, zn_1, not_true_eq_false, not_false_eq_true, ite_true, ite_false, if_true, if_false, q_iret_0, q_iret_1, decide_true, decide_false, decide_not, zb_t, zb_f, z10, z01, cond_true, cond_false, Bool.and_true, Bool.true_and, Bool.and_false, Bool.false_and, Bool.not_true, Bool.not_false, true_and, and_true, false_and, and_false, true_or, or_true, false_or, or_false, Bool.true_eq_false, Bool.false_eq_true, eq_self, reduceCtorEq, Bool.or_true, Bool.true_or, Bool.or_false, Bool.false_or])
end
end

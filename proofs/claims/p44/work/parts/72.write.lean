section
/-! the calls that write, in both -/
section
variable {M R : zzMd}
theorem held_enc {A : zzMd} (H : Rl0 A R) {o v : Nat} (ho : o < nv A 1) (hv : v ≤ 1) : encR (wt (R.2 7 o) 12 (zn v)) (dOw (dUp (row A o) 26 (zn v))) ∧ goodD (dOw (dUp (row A o) 26 (zn v))) := by
  obtain ⟨c1, c2, c3, c4, c5⟩ := rl_cur H ho
  obtain ⟨gF, g1, g2, g3, g4, g5, g6, g7, g8⟩ := c3
  have e : dOw (dUp (row A o) 26 (zn v)) = dUp (row A o) 26 (zn v) := dOw_good fun z => (g8 z).1
  rw [e]
  have s1 := enc_wv (k := 12) (a := v) (u := zn v) (v := zn v) (by decide) (Nat.lt_of_lt_of_le (show v < 2 by omega) (by decide)) rfl (Int32.add_zero _).symm c1
  refine ⟨s1, fun f hf => ?_, g1, g2, g3, ?_, g5, g6, g7, g8⟩
  · show ∃ a, (if f = 26 then zn v else row A o f) = zn a ∧ _
    rw [if_neg (by omega)]
    exact gF f hf
  · show zn v = 0 ∨ zn v = 1
    rcases v with _ | _ | v
    · exact Or.inl rfl
    · exact Or.inr rfl
    · omega
theorem ready_enc {A : zzMd} (H : Rl0 A R) {o v : Nat} (ho : o < nv A 1) (hv : v ≤ 1) : encR (wt (R.2 7 o) 14 (zn v)) (dOw (dUp (row A o) 27 (zn v))) ∧ goodD (dOw (dUp (row A o) 27 (zn v))) := by
  obtain ⟨c1, c2, c3, c4, c5⟩ := rl_cur H ho
  obtain ⟨gF, g1, g2, g3, g4, g5, g6, g7, g8⟩ := c3
  have e : dOw (dUp (row A o) 27 (zn v)) = dUp (row A o) 27 (zn v) := dOw_good fun z => (g8 z).1
  rw [e]
  have s1 := enc_wv (k := 14) (a := v) (u := zn v) (v := zn v) (by decide) (Nat.lt_of_lt_of_le (show v < 2 by omega) (by decide)) rfl (Int32.add_zero _).symm c1
  refine ⟨s1, fun f hf => ?_, g1, g2, g3, g4, ?_, g6, g7, g8⟩
  · show ∃ a, (if f = 27 then zn v else row A o f) = zn a ∧ _
    rw [if_neg (by omega)]
    exact gF f hf
  · show zn v = 0 ∨ zn v = 1
    rcases v with _ | _ | v
    · exact Or.inl rfl
    · exact Or.inr rfl
    · omega
/-- one slot is changed, in both -/
theorem h_chg (H : Rel (nz M) R) {o s k v : Nat} (ho : o < nv M 1) (hs : 22 < s) (hs2 : s < 30) (hs3 : s ≠ 23) (hk : k < 17) (he : encR (wt (R.2 7 o) k (zn v)) (dOw (dUp (row (nz M) o) s (zn v))) ∧ goodD (dOw (dUp (row (nz M) o) s (zn v)))) :
    ∃ M' R' b, fX9_change [.ref 1, .int (zn o), .int (zn s), .int (zn v)] M = some (.inl (some (.int (zb b))), M') ∧ fX12_with [.ref 0, .long (R.2 7 o), .int (zn k), .int (zn v)] R = some (.inl (some (.long (wt (R.2 7 o) k (zn v)))), R) ∧
      fX12_puts [.ref 0, .int (zn o), .long (wt (R.2 7 o) k (zn v)), .long (R.2 8 o), .int 0] R = some (.inl (some (.int (zb b))), R') ∧ Rel (nz M') R' ∧ nv M' 1 = nv M 1 ∧ (∀ k, k ≠ 14 → R'.1 0 k = R.1 0 k) := by
  obtain ⟨W, -, -, hn, -⟩ := h_nv H
  obtain ⟨M', a1, a2⟩ := sp_change W (o := o) (by omega) (k := s) (by omega) (zn v)
  obtain ⟨c1, c2, c3, c4, c5⟩ := rl_cur H.1 (o := o) ho
  obtain ⟨R', p1, p2, p3, p4, p5⟩ := Rel_ch H ho (D := dUp (row (nz M) o) s (zn v)) he.2 ((if_neg (by omega)).trans c4) ((if_neg (by omega)).trans c5) he.1 (encB_c c2 (if_neg (by omega)) (if_neg (by omega))) fun f hf => if_neg (by omega)
  refine ⟨M', R', _, a1, r_with H.1.1.1 hk _ _, p1, ?_, ?_, p4⟩
  · rw [a2]; exact p2
  · have : nv (nz M') 1 = nv (nz M) 1 := by rw [a2]; exact p5
    exact this
theorem c_hold (H : Rel (nz M) R) (x p : Int32) : zAg (cdl [0, 2, 1]) (fX11_hold [.ref 0, .int x, .int p] M) (fX12_hold [.ref 0, .int x, .int p] R) := by
  rw [s_X11_hold, s_X12_hold]
  rcases h_obj H x with ⟨h1, h2⟩ | ⟨o, rfl, ho, h1, h2⟩
  · refine zAg_x (M' := M) (R' := zz_sI R 0 49 1) (e := 2) (v := 0) ?_ ?_ (Rel_49 H) sI_e (by decide)
    · (simp only [e_X11_hold, zo_iload, zo_lload, zo_aload, zo_istore, zo_lstore, zo_astore, zo_iinc, zo_pushI, zo_pushL, zo_null, zo_ii, zo_iid, zo_ll, zo_li, zo_lcmp, zo_i2l, zo_l2i, zo_dup, zo_dup2, zo_pop, zo_goto, zo_if, zo_icmp, zo_ifnull, zo_gets, zo_mm, zo_throw, zo_ret, zo_aret, zo_lret, q_iret_f, q_iret_1, q_iret_0, q_iret_b, q_c8_0, q_c8_1, q_c8_2, q_c8_3, q_c8_4, q_set_0, q_set_1i, q_set_1r, q_set_1n, q_set_1N, q_set_s, q_set_1j, q_bk_v, q_bk_n, q_if, zb_ite, cond_true, cond_false, List.getElem?_cons_zero, List.getElem?_cons_succ, Nat.reduceAdd, q_bx_v, q_bx_n, q_bx_x, h1, if_true, if_false, zb_eq0, zb_eq1, zn_1, not_true_eq_false, not_false_eq_true, ite_true, ite_false, if_true, if_false, q_iret_0, q_iret_1, decide_true, decide_false, decide_not, zb_t, zb_f, z10, z01, cond_true, cond_false, Bool.and_true, Bool.true_and, Bool.and_false, Bool.false_and, Bool.not_true, Bool.not_false, true_and, and_true, false_and, and_false, true_or, or_true, false_or, or_false, Bool.true_eq_false, Bool.false_eq_true, eq_self, reduceCtorEq, Bool.or_true, Bool.true_or, Bool.or_false, Bool.false_or])
    · (simp only [e_X12_hold, zo_iload, zo_lload, zo_aload, zo_istore, zo_lstore, zo_astore, zo_iinc, zo_pushI, zo_pushL, zo_null, zo_ii, zo_iid, zo_ll, zo_li, zo_lcmp, zo_i2l, zo_l2i, zo_dup, zo_dup2, zo_pop, zo_goto, zo_if, zo_icmp, zo_ifnull, zo_gets, zo_mm, zo_throw, zo_ret, zo_aret, zo_lret, q_iret_f, q_iret_1, q_iret_0, q_iret_b, q_c8_0, q_c8_1, q_c8_2, q_c8_3, q_c8_4, q_set_0, q_set_1i, q_set_1r, q_set_1n, q_set_1N, q_set_s, q_set_1j, q_bk_v, q_bk_n, q_if, zb_ite, cond_true, cond_false, List.getElem?_cons_zero, List.getElem?_cons_succ, Nat.reduceAdd, q_set_1l, q_set2_0, q_set2_1i, q_set2_1r, q_set2_1n, q_set2_s, h2, r_goes1, if_true, if_false, zb_eq0, zb_eq1, zn_1, not_true_eq_false, not_false_eq_true, ite_true, ite_false, if_true, if_false, q_iret_0, q_iret_1, decide_true, decide_false, decide_not, zb_t, zb_f, z10, z01, cond_true, cond_false, Bool.and_true, Bool.true_and, Bool.and_false, Bool.false_and, Bool.not_true, Bool.not_false, true_and, and_true, false_and, and_false, true_or, or_true, false_or, or_false, Bool.true_eq_false, Bool.false_eq_true, eq_self, reduceCtorEq, Bool.or_true, Bool.true_or, Bool.or_false, Bool.false_or])
  · have H0 : Rel (nz M) (zz_sI R 0 49 0) := Rel_49 H
    have hg0 := r_goes0 R
    obtain ⟨w23, w24, w25, w26, w27, w28, w29, wg⟩ := h_rd H0 ho
    obtain ⟨gf, g12, g13, g14, g15, g16, gw, gg⟩ := h_get H0.1 (o := o) ho
    obtain ⟨⟨b1, x1⟩, -⟩ := r_kind H0.1 (o := o) ho
    generalize zz_sI R 0 49 0 = R0 at *
    by_cases d : row (nz M) o 25 = 4
    · refine zAg_x (M' := M) (R' := zz_sI R0 0 49 2) (e := 1) (v := 0) ?_ ?_ (Rel_49 H0) sI_e (by decide)
      · by_cases e : row (nz M) o 26 = 1 <;> (simp only [e_X11_hold, zo_iload, zo_lload, zo_aload, zo_istore, zo_lstore, zo_astore, zo_iinc, zo_pushI, zo_pushL, zo_null, zo_ii, zo_iid, zo_ll, zo_li, zo_lcmp, zo_i2l, zo_l2i, zo_dup, zo_dup2, zo_pop, zo_goto, zo_if, zo_icmp, zo_ifnull, zo_gets, zo_mm, zo_throw, zo_ret, zo_aret, zo_lret, q_iret_f, q_iret_1, q_iret_0, q_iret_b, q_c8_0, q_c8_1, q_c8_2, q_c8_3, q_c8_4, q_set_0, q_set_1i, q_set_1r, q_set_1n, q_set_1N, q_set_s, q_set_1j, q_bk_v, q_bk_n, q_if, zb_ite, cond_true, cond_false, List.getElem?_cons_zero, List.getElem?_cons_succ, Nat.reduceAdd, q_bx_v, q_bx_n, q_bx_x, h1, w26, e, wg, d, if_true, if_false, zb_eq0, zb_eq1, zn_1, not_true_eq_false, not_false_eq_true, ite_true, ite_false, if_true, if_false, q_iret_0, q_iret_1, decide_true, decide_false, decide_not, zb_t, zb_f, z10, z01, cond_true, cond_false, Bool.and_true, Bool.true_and, Bool.and_false, Bool.false_and, Bool.not_true, Bool.not_false, true_and, and_true, false_and, and_false, true_or, or_true, false_or, or_false, Bool.true_eq_false, Bool.false_eq_true, eq_self, reduceCtorEq, Bool.or_true, Bool.true_or, Bool.or_false, Bool.false_or])
      · by_cases e : row (nz M) o 26 = 1 <;> (simp only [e_X12_hold, zo_iload, zo_lload, zo_aload, zo_istore, zo_lstore, zo_astore, zo_iinc, zo_pushI, zo_pushL, zo_null, zo_ii, zo_iid, zo_ll, zo_li, zo_lcmp, zo_i2l, zo_l2i, zo_dup, zo_dup2, zo_pop, zo_goto, zo_if, zo_icmp, zo_ifnull, zo_gets, zo_mm, zo_throw, zo_ret, zo_aret, zo_lret, q_iret_f, q_iret_1, q_iret_0, q_iret_b, q_c8_0, q_c8_1, q_c8_2, q_c8_3, q_c8_4, q_set_0, q_set_1i, q_set_1r, q_set_1n, q_set_1N, q_set_s, q_set_1j, q_bk_v, q_bk_n, q_if, zb_ite, cond_true, cond_false, List.getElem?_cons_zero, List.getElem?_cons_succ, Nat.reduceAdd, q_set_1l, q_set2_0, q_set2_1i, q_set2_1r, q_set2_1n, q_set2_s, h2, hg0, b1, x1, q_aR, g12, e, gg, d, r_goes2, if_true, if_false, zb_eq0, zb_eq1, zn_1, not_true_eq_false, not_false_eq_true, ite_true, ite_false, if_true, if_false, q_iret_0, q_iret_1, decide_true, decide_false, decide_not, zb_t, zb_f, z10, z01, cond_true, cond_false, Bool.and_true, Bool.true_and, Bool.and_false, Bool.false_and, Bool.not_true, Bool.not_false, true_and, and_true, false_and, and_false, true_or, or_true, false_or, or_false, Bool.true_eq_false, Bool.false_eq_true, eq_self, reduceCtorEq, Bool.or_true, Bool.true_or, Bool.or_false, Bool.false_or])
    · have hp : ∃ v, v ≤ 1 ∧ (if p = 0 then (0 : Int32) else 1) = zn v := by
        by_cases q : p = 0
        · exact ⟨0, by decide, if_pos q⟩
        · exact ⟨1, by decide, if_neg q⟩
      obtain ⟨v, v1, hv⟩ := hp
      obtain ⟨M1, R1, b, e1, e2, e3, e4, -, -⟩ := h_chg H0 ho (s := 26) (k := 12) (v := v) (by decide) (by decide) (by decide) (by decide) (held_enc H0.1 ho v1)
      rw [← hv] at e1 e2 e3
      have e1' : fX9_change [.ref 1, .int (zn o), .int 26, .int (if p = 0 then 0 else 1)] M = _ := e1
      have e2' : fX12_with [.ref 0, .long (R0.2 7 o), .int 12, .int (if p = 0 then 0 else 1)] R0 = _ := e2
      clear e1 e2
      cases b
      · simp only [zb_f] at e1' e3
        refine zAg_x (M' := M1) (R' := zz_sI R1 0 49 2) (e := 1) (v := 0) ?_ ?_ (Rel_49 e4) sI_e (by decide)
        · by_cases q : p = 0 <;> simp only [q, if_true, if_false] at e1' <;> by_cases e : row (nz M) o 26 = 1 <;> (simp only [e_X11_hold, zo_iload, zo_lload, zo_aload, zo_istore, zo_lstore, zo_astore, zo_iinc, zo_pushI, zo_pushL, zo_null, zo_ii, zo_iid, zo_ll, zo_li, zo_lcmp, zo_i2l, zo_l2i, zo_dup, zo_dup2, zo_pop, zo_goto, zo_if, zo_icmp, zo_ifnull, zo_gets, zo_mm, zo_throw, zo_ret, zo_aret, zo_lret, q_iret_f, q_iret_1, q_iret_0, q_iret_b, q_c8_0, q_c8_1, q_c8_2, q_c8_3, q_c8_4, q_set_0, q_set_1i, q_set_1r, q_set_1n, q_set_1N, q_set_s, q_set_1j, q_bk_v, q_bk_n, q_if, zb_ite, cond_true, cond_false, List.getElem?_cons_zero, List.getElem?_cons_succ, Nat.reduceAdd, q_bx_v, q_bx_n, q_bx_x, h1, w26, e, wg, d, q, e1', if_true, if_false, zb_eq0, zb_eq1, zn_1, not_true_eq_false, not_false_eq_true, ite_true, ite_false, if_true, if_false, q_iret_0, q_iret_1, decide_true, decide_false, decide_not, zb_t, zb_f, z10, z01, cond_true, cond_false, Bool.and_true, Bool.true_and, Bool.and_false, Bool.false_and, Bool.not_true, Bool.not_false, true_and, and_true, false_and, and_false, true_or, or_true, false_or, or_false, Bool.true_eq_false, Bool.false_eq_true, eq_self, reduceCtorEq, Bool.or_true, Bool.true_or, Bool.or_false, Bool.false_or])
        · by_cases q : p = 0 <;> simp only [q, if_true, if_false] at e2' e3 <;> by_cases e : row (nz M) o 26 = 1 <;> (simp only [e_X12_hold, zo_iload, zo_lload, zo_aload, zo_istore, zo_lstore, zo_astore, zo_iinc, zo_pushI, zo_pushL, zo_null, zo_ii, zo_iid, zo_ll, zo_li, zo_lcmp, zo_i2l, zo_l2i, zo_dup, zo_dup2, zo_pop, zo_goto, zo_if, zo_icmp, zo_ifnull, zo_gets, zo_mm, zo_throw, zo_ret, zo_aret, zo_lret, q_iret_f, q_iret_1, q_iret_0, q_iret_b, q_c8_0, q_c8_1, q_c8_2, q_c8_3, q_c8_4, q_set_0, q_set_1i, q_set_1r, q_set_1n, q_set_1N, q_set_s, q_set_1j, q_bk_v, q_bk_n, q_if, zb_ite, cond_true, cond_false, List.getElem?_cons_zero, List.getElem?_cons_succ, Nat.reduceAdd, q_set_1l, q_set2_0, q_set2_1i, q_set2_1r, q_set2_1n, q_set2_s, h2, hg0, b1, x1, q_aR, g12, e, gg, d, q, e2', e3, r_goes2, if_true, if_false, zb_eq0, zb_eq1, zn_1, not_true_eq_false, not_false_eq_true, ite_true, ite_false, if_true, if_false, q_iret_0, q_iret_1, decide_true, decide_false, decide_not, zb_t, zb_f, z10, z01, cond_true, cond_false, Bool.and_true, Bool.true_and, Bool.and_false, Bool.false_and, Bool.not_true, Bool.not_false, true_and, and_true, false_and, and_false, true_or, or_true, false_or, or_false, Bool.true_eq_false, Bool.false_eq_true, eq_self, reduceCtorEq, Bool.or_true, Bool.true_or, Bool.or_false, Bool.false_or])
      · simp only [zb_t] at e1' e3
        refine zAg_v (M' := M1) (R' := zz_sI R1 0 49 0) (v := zb (decide (row (nz M) o 26 = 1))) ?_ ?_ (Rel_49 e4) sI_e
        · by_cases q : p = 0 <;> simp only [q, if_true, if_false] at e1' <;> by_cases e : row (nz M) o 26 = 1 <;> (simp only [e_X11_hold, zo_iload, zo_lload, zo_aload, zo_istore, zo_lstore, zo_astore, zo_iinc, zo_pushI, zo_pushL, zo_null, zo_ii, zo_iid, zo_ll, zo_li, zo_lcmp, zo_i2l, zo_l2i, zo_dup, zo_dup2, zo_pop, zo_goto, zo_if, zo_icmp, zo_ifnull, zo_gets, zo_mm, zo_throw, zo_ret, zo_aret, zo_lret, q_iret_f, q_iret_1, q_iret_0, q_iret_b, q_c8_0, q_c8_1, q_c8_2, q_c8_3, q_c8_4, q_set_0, q_set_1i, q_set_1r, q_set_1n, q_set_1N, q_set_s, q_set_1j, q_bk_v, q_bk_n, q_if, zb_ite, cond_true, cond_false, List.getElem?_cons_zero, List.getElem?_cons_succ, Nat.reduceAdd, q_bx_v, q_bx_n, q_bx_x, h1, w26, e, wg, d, q, e1', if_true, if_false, zb_eq0, zb_eq1, zn_1, not_true_eq_false, not_false_eq_true, ite_true, ite_false, if_true, if_false, q_iret_0, q_iret_1, decide_true, decide_false, decide_not, zb_t, zb_f, z10, z01, cond_true, cond_false, Bool.and_true, Bool.true_and, Bool.and_false, Bool.false_and, Bool.not_true, Bool.not_false, true_and, and_true, false_and, and_false, true_or, or_true, false_or, or_false, Bool.true_eq_false, Bool.false_eq_true, eq_self, reduceCtorEq, Bool.or_true, Bool.true_or, Bool.or_false, Bool.false_or])
        · by_cases q : p = 0 <;> simp only [q, if_true, if_false] at e2' e3 <;> by_cases e : row (nz M) o 26 = 1 <;> (simp only [e_X12_hold, zo_iload, zo_lload, zo_aload, zo_istore, zo_lstore, zo_astore, zo_iinc, zo_pushI, zo_pushL, zo_null, zo_ii, zo_iid, zo_ll, zo_li, zo_lcmp, zo_i2l, zo_l2i, zo_dup, zo_dup2, zo_pop, zo_goto, zo_if, zo_icmp, zo_ifnull, zo_gets, zo_mm, zo_throw, zo_ret, zo_aret, zo_lret, q_iret_f, q_iret_1, q_iret_0, q_iret_b, q_c8_0, q_c8_1, q_c8_2, q_c8_3, q_c8_4, q_set_0, q_set_1i, q_set_1r, q_set_1n, q_set_1N, q_set_s, q_set_1j, q_bk_v, q_bk_n, q_if, zb_ite, cond_true, cond_false, List.getElem?_cons_zero, List.getElem?_cons_succ, Nat.reduceAdd, q_set_1l, q_set2_0, q_set2_1i, q_set2_1r, q_set2_1n, q_set2_s, h2, hg0, b1, x1, q_aR, g12, e, gg, d, q, e2', e3, r_goes0, if_true, if_false, zb_eq0, zb_eq1, zn_1, not_true_eq_false, not_false_eq_true, ite_true, ite_false, if_true, if_false, q_iret_0, q_iret_1, decide_true, decide_false, decide_not, zb_t, zb_f, z10, z01, cond_true, cond_false, Bool.and_true, Bool.true_and, Bool.and_false, Bool.false_and, Bool.not_true, Bool.not_false, true_and, and_true, false_and, and_false, true_or, or_true, false_or, or_false, Bool.true_eq_false, Bool.false_eq_true, eq_self, reduceCtorEq, Bool.or_true, Bool.true_or, Bool.or_false, Bool.false_or])
end
end

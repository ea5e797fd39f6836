section
/-! what nobody changes comes to rest -/
section
variable {A B R : zzMd}
/-- the time goes on by d at most; the log goes on; readers, the log's beginning, the law's arrays stay -/
def Ft (d : Nat) (A B : zzMd) : Prop := (∀ t, A.1 1 7 = zn t → ∃ s, s ≤ d ∧ B.1 1 7 = zn (t + s)) ∧ B.1 1 8 = A.1 1 8 ∧ (∀ k, B.1 12 k = A.1 12 k) ∧ (∀ k, B.1 73 k = A.1 73 k) ∧ (∀ k, B.1 74 k = A.1 74 k) ∧ ve A 1 ≤ ve B 1
theorem Ft_refl (A : zzMd) : Ft 0 A A := ⟨fun t h => ⟨0, Nat.le_refl _, h⟩, rfl, fun _ => rfl, fun _ => rfl, fun _ => rfl, Nat.le_refl _⟩
theorem Ft_trans {d e : Nat} {C : zzMd} (h : Ft d A B) (g : Ft e B C) : Ft (d + e) A C := by
  obtain ⟨h1, h2, h3, h4, h5, h6⟩ := h
  obtain ⟨g1, g2, g3, g4, g5, g6⟩ := g
  refine ⟨fun t ht => ?_, g2.trans h2, fun k => (g3 k).trans (h3 k), fun k => (g4 k).trans (h4 k), fun k => (g5 k).trans (h5 k), Nat.le_trans h6 g6⟩
  obtain ⟨s, s1, s2⟩ := h1 t ht
  obtain ⟨u, u1, u2⟩ := g1 _ s2
  exact ⟨s + u, Nat.add_le_add s1 u1, by rw [← Nat.add_assoc]; exact u2⟩
theorem Ft_up {d e : Nat} (h : Ft d A B) (l : d ≤ e) : Ft e A B := ⟨fun t ht => by
  obtain ⟨s, s1, s2⟩ := h.1 t ht
  exact ⟨s, Nat.le_trans s1 l, s2⟩, h.2⟩
theorem Ft_of (h : Fr A B) (l : ve A 1 ≤ ve B 1) : Ft 0 A B := ⟨fun t ht => ⟨0, Nat.le_refl _, h.1.trans ht⟩, h.2.1, h.2.2.1, h.2.2.2.1, h.2.2.2.2, l⟩
theorem now_t (HR : Rl0 A R) : A.1 1 7 = zn (now A) ∧ now A ≤ 10000 := ⟨HR.2.2.2.2.2.1.1, HR.2.2.2.2.2.1.2.1⟩
theorem wr_ok (A : zzMd) (o : Nat) (D : Nat → Int32) (h : ve A 1 < 400) : (aWr A o D).1 = true ∧ ve (aWr A o D).2 1 ≤ ve A 1 + 1 := by
  rcases WR_wr A o D with ⟨e, -⟩ | ⟨-, e⟩ | ⟨e1, e2, e3, -⟩
  · rw [e]; exact ⟨rfl, Nat.le_succ _⟩
  · omega
  · rw [e2, put_ve e3]; exact ⟨e1, Nat.le_refl _⟩
/-- a beat -/
theorem bt_o (H : Iv A) {o : Nat} (ho : o < nv A 1) (hk : row A o 23 = 4) (hg : ¬ row A o 25 = 4) (hv : ve A 1 < 400) : kW fX11_beat [.ref 0, .int (zn o)] A (zb (decide (row A o 27 = 1))) (aBt A o) ∧ Iv (aBt A o) ∧ Ft 0 A (aBt A o) ∧ ve (aBt A o) 1 ≤ ve A 1 + 1 ∧ nv (aBt A o) 1 = nv A 1 ∧ row (aBt A o) o 27 = 1 ∧ (row A o 27 = 1 → ve (aBt A o) 1 = ve A 1) ∧ (¬ row A o 27 = 1 → ve (aBt A o) 1 = ve A 1 + 1) := by
  have H' := H
  obtain ⟨hA, ⟨R, HR⟩, I⟩ := H'
  obtain ⟨w1, w2⟩ := wr_ok A o (dUp (row A o) 27 1) hv
  have g := g_beat hA HR ho hk hg w1
  have h60 : o < 60 := lt_n60 HR.1 ho
  have e : dOw (dUp (row A o) 27 1) = dUp (row A o) 27 1 := dOw_good fun z => by
    rw [dUp_n (by decide)] at z
    exact absurd z hg
  refine ⟨g, Iv_g H (kW_e g) (c_beat (Rel_at hA HR) (zn o)) (II_bt I ho), Ft_of (Fr_trans (Fr_Wr A o _) (Fr_of fun a b h => sI_a (by omega))) (ve_wr A o _), w2, nvp_Wr _ I.1 ho, ?_, fun h => ?_, fun h => ?_⟩
  · have : row (aWr A o (dUp (row A o) 27 1)).2 o 27 = dOw (dUp (row A o) 27 1) 27 := WR_row (WR_wr A o _) I.1.1 h60 w1 (by decide)
    exact this.trans (by rw [e]; exact dUp_e)
  · have hs : ∀ s, s < 32 → dOw (dUp (row A o) 27 1) s = row A o s := fun s _ => by
      rw [e]
      by_cases q : s = 27
      · rw [q, dUp_e, h]
      · rw [dUp_n q]
    show ve (aWr A o (dUp (row A o) 27 1)).2 1 = _
    rcases WR_wr A o (dUp (row A o) 27 1) with ⟨z, -⟩ | ⟨-, z⟩ | ⟨-, -, -, z⟩
    · rw [z]
    · omega
    · exact absurd hs z
  · exact (WR_ev (WR_wr A o (dUp (row A o) 27 1)) h60 (by rw [e, dUp_n (by decide)]; exact (Lg_cur I.1.1 ho).1) w1 (fun z => h (by
      have := z 27 (by decide)
      rw [e, dUp_e] at this
      exact this.symm))).1
theorem r_4 (H : Iv A) (hv : ve A 1 ≤ 330) : ∀ i, i ≤ nv A 1 → ∃ B n, n ≤ i ∧ lz_ev tL_isAtRest 4 [some (.ref 0), some (.int 1), some (.int 0), none, none, none, none, none, none] [] (A, 0) = lz_ev tL_isAtRest 4 [some (.ref 0), some (.int 1), some (.int (zn i)), none, none, none, none, none, none] [] (B, n) ∧ Iv B ∧ Ft 0 A B ∧ ve B 1 ≤ ve A 1 + i ∧ nv B 1 = nv A 1 := by
  intro i
  induction i with
  | zero => exact fun _ => ⟨A, 0, Nat.le_refl _, rfl, H, Ft_refl A, Nat.le_refl _, rfl⟩
  | succ i ih =>
    intro hi
    obtain ⟨B, n, hn, e, HB, F, vb, nb⟩ := ih (by omega)
    have n60 : nv A 1 ≤ 60 := (Lg_n60 H.2.2.1.1).1
    have HB' := HB
    obtain ⟨hB, ⟨R, HR⟩, I⟩ := HB'
    have hx : i < nv B 1 := by omega
    have o0 := kV_e (g_objects hB HR)
    have o1 := kV_e (g_kindOf hB HR hx)
    have o2 := kV_e (g_goingOf hB HR hx)
    have l : (zn (nv B 1) ≤ zn i) = False := zn_le (a := nv B 1) (b := i) (by omega) (by omega) ▸ eq_false (by omega)
    have f1 : (n ≤ 84) = True := eq_true (by omega)
    have f2 : (n + 1 ≤ 84) = True := eq_true (by omega)
    by_cases c4 : row B i 23 = 4
    · by_cases cg : row B i 25 = 4
      · refine ⟨B, n, by omega, e.trans ?_, HB, F, by omega, nb⟩
        clear e ih HR I F
        (rw [e_L_isAtRest_4]; simp (decide := true) only [e_L_isAtRest_p0, e_L_isAtRest_p1, lo_iload, lo_lload, lo_aload, lo_istore, lo_lstore, lo_iinc, lo_pushI, lo_pushL, lo_ii, lo_iid, lo_ll, lo_li, lo_lcmp, lo_i2l, lo_dup2, lo_goto, lo_if, lo_icmp, lq_iret_f, lq_iret_1, lq_iret_0, lq_iret_b, lq_lret, lq_bs, lq_bv, lq_bhv, lq_bhx, q_c8_0, q_c8_1, q_c8_2, q_c8_3, q_c8_4, q_set_0, q_set_1i, q_set_1r, q_set_1n, q_set_1N, q_set_s, q_set_1j, q_set_1l, q_set2_0, q_set2_1i, q_set2_1r, q_set2_1n, q_set2_s, q_if, zb_ite, cond_true, cond_false, List.getElem?_cons_zero, List.getElem?_cons_succ, Nat.reduceAdd, l, f1, o0, o1, o2, c4, cg, Int32.reduceLT, Int32.reduceLE, Nat.reduceLeDiff, Nat.zero_le, Nat.le_refl, Nat.zero_add, if_true, if_false, zb_eq0, zb_eq1, zn_1, not_true_eq_false, not_false_eq_true, ite_true, ite_false, if_true, if_false, q_iret_0, q_iret_1, decide_true, decide_false, decide_not, zb_t, zb_f, z10, z01, cond_true, cond_false, Bool.and_true, Bool.true_and, Bool.and_false, Bool.false_and, Bool.not_true, Bool.not_false, true_and, and_true, false_and, and_false, true_or, or_true, false_or, or_false, Bool.true_eq_false, Bool.false_eq_true, eq_self, reduceCtorEq, Bool.or_true, Bool.true_or, Bool.or_false, Bool.false_or])
      · obtain ⟨g1, g2, g3, g4, g5, -⟩ := bt_o HB hx c4 cg (by omega)
        have a1 := va_beat (b := 0) (c := 0) (d := 0) (e := 0) (f := 0) (kW_e g1)
        refine ⟨aBt B i, n + 1, by omega, e.trans ?_, g2, Ft_trans F g3, by omega, by omega⟩
        clear e ih HR I F g1 g2 g3 g4 g5
        generalize aBt B i = C at *
        cases hb : decide (row B i 27 = 1)
        · rw [hb] at a1
          simp only [zb_f] at a1
          (rw [e_L_isAtRest_4]; simp (decide := true) only [e_L_isAtRest_p0, e_L_isAtRest_p1, lo_iload, lo_lload, lo_aload, lo_istore, lo_lstore, lo_iinc, lo_pushI, lo_pushL, lo_ii, lo_iid, lo_ll, lo_li, lo_lcmp, lo_i2l, lo_dup2, lo_goto, lo_if, lo_icmp, lq_iret_f, lq_iret_1, lq_iret_0, lq_iret_b, lq_lret, lq_bs, lq_bv, lq_bhv, lq_bhx, q_c8_0, q_c8_1, q_c8_2, q_c8_3, q_c8_4, q_set_0, q_set_1i, q_set_1r, q_set_1n, q_set_1N, q_set_s, q_set_1j, q_set_1l, q_set2_0, q_set2_1i, q_set2_1r, q_set2_1n, q_set2_s, q_if, zb_ite, cond_true, cond_false, List.getElem?_cons_zero, List.getElem?_cons_succ, Nat.reduceAdd, l, f1, f2, o0, o1, o2, c4, cg, a1, Int32.reduceLT, Int32.reduceLE, Nat.reduceLeDiff, Nat.zero_le, Nat.le_refl, Nat.zero_add, if_true, if_false, zb_eq0, zb_eq1, zn_1, not_true_eq_false, not_false_eq_true, ite_true, ite_false, if_true, if_false, q_iret_0, q_iret_1, decide_true, decide_false, decide_not, zb_t, zb_f, z10, z01, cond_true, cond_false, Bool.and_true, Bool.true_and, Bool.and_false, Bool.false_and, Bool.not_true, Bool.not_false, true_and, and_true, false_and, and_false, true_or, or_true, false_or, or_false, Bool.true_eq_false, Bool.false_eq_true, eq_self, reduceCtorEq, Bool.or_true, Bool.true_or, Bool.or_false, Bool.false_or])
        · rw [hb] at a1
          simp only [zb_t] at a1
          (rw [e_L_isAtRest_4]; simp (decide := true) only [e_L_isAtRest_p0, e_L_isAtRest_p1, lo_iload, lo_lload, lo_aload, lo_istore, lo_lstore, lo_iinc, lo_pushI, lo_pushL, lo_ii, lo_iid, lo_ll, lo_li, lo_lcmp, lo_i2l, lo_dup2, lo_goto, lo_if, lo_icmp, lq_iret_f, lq_iret_1, lq_iret_0, lq_iret_b, lq_lret, lq_bs, lq_bv, lq_bhv, lq_bhx, q_c8_0, q_c8_1, q_c8_2, q_c8_3, q_c8_4, q_set_0, q_set_1i, q_set_1r, q_set_1n, q_set_1N, q_set_s, q_set_1j, q_set_1l, q_set2_0, q_set2_1i, q_set2_1r, q_set2_1n, q_set2_s, q_if, zb_ite, cond_true, cond_false, List.getElem?_cons_zero, List.getElem?_cons_succ, Nat.reduceAdd, l, f1, f2, o0, o1, o2, c4, cg, a1, Int32.reduceLT, Int32.reduceLE, Nat.reduceLeDiff, Nat.zero_le, Nat.le_refl, Nat.zero_add, if_true, if_false, zb_eq0, zb_eq1, zn_1, not_true_eq_false, not_false_eq_true, ite_true, ite_false, if_true, if_false, q_iret_0, q_iret_1, decide_true, decide_false, decide_not, zb_t, zb_f, z10, z01, cond_true, cond_false, Bool.and_true, Bool.true_and, Bool.and_false, Bool.false_and, Bool.not_true, Bool.not_false, true_and, and_true, false_and, and_false, true_or, or_true, false_or, or_false, Bool.true_eq_false, Bool.false_eq_true, eq_self, reduceCtorEq, Bool.or_true, Bool.true_or, Bool.or_false, Bool.false_or])
    · refine ⟨B, n, by omega, e.trans ?_, HB, F, by omega, nb⟩
      clear e ih HR I F
      (rw [e_L_isAtRest_4]; simp (decide := true) only [e_L_isAtRest_p0, e_L_isAtRest_p1, lo_iload, lo_lload, lo_aload, lo_istore, lo_lstore, lo_iinc, lo_pushI, lo_pushL, lo_ii, lo_iid, lo_ll, lo_li, lo_lcmp, lo_i2l, lo_dup2, lo_goto, lo_if, lo_icmp, lq_iret_f, lq_iret_1, lq_iret_0, lq_iret_b, lq_lret, lq_bs, lq_bv, lq_bhv, lq_bhx, q_c8_0, q_c8_1, q_c8_2, q_c8_3, q_c8_4, q_set_0, q_set_1i, q_set_1r, q_set_1n, q_set_1N, q_set_s, q_set_1j, q_set_1l, q_set2_0, q_set2_1i, q_set2_1r, q_set2_1n, q_set2_s, q_if, zb_ite, cond_true, cond_false, List.getElem?_cons_zero, List.getElem?_cons_succ, Nat.reduceAdd, l, f1, o0, o1, c4, Int32.reduceLT, Int32.reduceLE, Nat.reduceLeDiff, Nat.zero_le, Nat.le_refl, Nat.zero_add, if_true, if_false, zb_eq0, zb_eq1, zn_1, not_true_eq_false, not_false_eq_true, ite_true, ite_false, if_true, if_false, q_iret_0, q_iret_1, decide_true, decide_false, decide_not, zb_t, zb_f, z10, z01, cond_true, cond_false, Bool.and_true, Bool.true_and, Bool.and_false, Bool.false_and, Bool.not_true, Bool.not_false, true_and, and_true, false_and, and_false, true_or, or_true, false_or, or_false, Bool.true_eq_false, Bool.false_eq_true, eq_self, reduceCtorEq, Bool.or_true, Bool.true_or, Bool.or_false, Bool.false_or])
/-- a tick -/
theorem tk_o (H : Iv A) {n : Nat} (n1 : 1 ≤ n) (n2 : n ≤ 100) {t : Nat} (ht : A.1 1 7 = zn t) (h1 : t + n ≤ 10000) : kW fX11_tick [.ref 0, .int (zn n)] A (zn (t + n)) (aTicks A n) ∧ Iv (aTicks A n) ∧ Ft n A (aTicks A n) := by
  have H' := H
  obtain ⟨hA, ⟨R, HR⟩, I⟩ := H'
  have hn : now A = t := by
    have := congrArg zz_ix ht
    rw [zn_ix (by omega)] at this
    exact this
  have g := g_tick hA HR n1 n2 (by rw [hn]; exact h1)
  obtain ⟨i1, i2, i3, i4, i5, i6, i7⟩ := II_ticks I n
  have g' := g
  rw [i2 t ht] at g'
  exact ⟨g', Iv_g H (kW_e g) (c_tick (Rel_at hA HR) (zn n)) i1, fun u hu => ⟨n, Nat.le_refl _, i2 u hu⟩, i3, i4, i5, i6, i7⟩
theorem r_65 : ∀ d, d ≤ 12 → ∀ (A : zzMd) (n t : Nat) (b : Int32), Iv A → A.1 1 7 = zn t → t + d ≤ 10000 → n + 2 * d ≤ 84 → ∃ B n' b' j3, lz_ev tL_isAtRest 65 [some (.ref 0), some (.int 1), some (.int b), some (.int (zn (12 - d))), none, none, none, none, none] [] (A, n) = lz_ev tL_isAtRest 146 [some (.ref 0), some (.int 1), some (.int b'), some (.int j3), none, none, none, none, none] [] (B, n') ∧ n' ≤ 84 ∧ Iv B ∧ Ft d A B := by
  intro d
  induction d with
  | zero =>
    intro _ A n t b H ht h1 h2
    have l : ((12 : Int32) ≤ zn 12) = True := eq_true (by decide)
    refine ⟨A, n, b, zn 12, ?_, by omega, H, Ft_refl A⟩
    show lz_ev tL_isAtRest 65 [some (.ref 0), some (.int 1), some (.int b), some (.int (zn 12)), none, none, none, none, none] [] (A, n) = _
    generalize hZ : lz_ev tL_isAtRest 146 [some (.ref 0), some (.int 1), some (.int b), some (.int (zn 12)), none, none, none, none, none] [] (A, n) = Z
    clear H
    (rw [e_L_isAtRest_65]; simp (decide := true) only [e_L_isAtRest_p0, e_L_isAtRest_p1, lo_iload, lo_lload, lo_aload, lo_istore, lo_lstore, lo_iinc, lo_pushI, lo_pushL, lo_ii, lo_iid, lo_ll, lo_li, lo_lcmp, lo_i2l, lo_dup2, lo_goto, lo_if, lo_icmp, lq_iret_f, lq_iret_1, lq_iret_0, lq_iret_b, lq_lret, lq_bs, lq_bv, lq_bhv, lq_bhx, q_c8_0, q_c8_1, q_c8_2, q_c8_3, q_c8_4, q_set_0, q_set_1i, q_set_1r, q_set_1n, q_set_1N, q_set_s, q_set_1j, q_set_1l, q_set2_0, q_set2_1i, q_set2_1r, q_set2_1n, q_set2_s, q_if, zb_ite, cond_true, cond_false, List.getElem?_cons_zero, List.getElem?_cons_succ, Nat.reduceAdd, ↓hZ, l, Int32.reduceLT, Int32.reduceLE, Nat.reduceLeDiff, Nat.zero_le, Nat.le_refl, Nat.zero_add, if_true, if_false, zb_eq0, zb_eq1, zn_1, not_true_eq_false, not_false_eq_true, ite_true, ite_false, if_true, if_false, q_iret_0, q_iret_1, decide_true, decide_false, decide_not, zb_t, zb_f, z10, z01, cond_true, cond_false, Bool.and_true, Bool.true_and, Bool.and_false, Bool.false_and, Bool.not_true, Bool.not_false, true_and, and_true, false_and, and_false, true_or, or_true, false_or, or_false, Bool.true_eq_false, Bool.false_eq_true, eq_self, reduceCtorEq, Bool.or_true, Bool.true_or, Bool.or_false, Bool.false_or])
  | succ d ih =>
    intro hd A n t b H ht h1 h2
    have H' := H
    obtain ⟨hA, ⟨R, HR⟩, I⟩ := H'
    have n4 := (Lg_n60 I.1.1).2.1
    have e13 := (Lg_n60 I.1.1).2.2.2
    have o0 := kV_e (g_version hA HR)
    have l : ((12 : Int32) ≤ zn (12 - (d + 1))) = False := zn_le (a := 12) (b := 12 - (d + 1)) (by decide) (by omega) ▸ eq_false (by omega)
    have f1 : (n ≤ 84) = True := eq_true (by omega)
    by_cases hb : b = zn (ve A 1)
    · refine ⟨A, n, b, zn (12 - (d + 1)), ?_, by omega, H, Ft_up (Ft_refl A) (Nat.zero_le _)⟩
      rw [hb]
      generalize hZ : lz_ev tL_isAtRest 146 [some (.ref 0), some (.int 1), some (.int (zn (ve A 1))), some (.int (zn (12 - (d + 1)))), none, none, none, none, none] [] (A, n) = Z
      clear H HR I ih
      (rw [e_L_isAtRest_65]; simp (decide := true) only [e_L_isAtRest_p0, e_L_isAtRest_p1, lo_iload, lo_lload, lo_aload, lo_istore, lo_lstore, lo_iinc, lo_pushI, lo_pushL, lo_ii, lo_iid, lo_ll, lo_li, lo_lcmp, lo_i2l, lo_dup2, lo_goto, lo_if, lo_icmp, lq_iret_f, lq_iret_1, lq_iret_0, lq_iret_b, lq_lret, lq_bs, lq_bv, lq_bhv, lq_bhx, q_c8_0, q_c8_1, q_c8_2, q_c8_3, q_c8_4, q_set_0, q_set_1i, q_set_1r, q_set_1n, q_set_1N, q_set_s, q_set_1j, q_set_1l, q_set2_0, q_set2_1i, q_set2_1r, q_set2_1n, q_set2_s, q_if, zb_ite, cond_true, cond_false, List.getElem?_cons_zero, List.getElem?_cons_succ, Nat.reduceAdd, ↓hZ, l, f1, o0, Int32.reduceLT, Int32.reduceLE, Nat.reduceLeDiff, Nat.zero_le, Nat.le_refl, Nat.zero_add, if_true, if_false, zb_eq0, zb_eq1, zn_1, not_true_eq_false, not_false_eq_true, ite_true, ite_false, if_true, if_false, q_iret_0, q_iret_1, decide_true, decide_false, decide_not, zb_t, zb_f, z10, z01, cond_true, cond_false, Bool.and_true, Bool.true_and, Bool.and_false, Bool.false_and, Bool.not_true, Bool.not_false, true_and, and_true, false_and, and_false, true_or, or_true, false_or, or_false, Bool.true_eq_false, Bool.false_eq_true, eq_self, reduceCtorEq, Bool.or_true, Bool.true_or, Bool.or_false, Bool.false_or])
    · by_cases hl : 330 ≤ ve A 1
      · have l3 : ((330 : Int32) ≤ zn (ve A 1)) = True := zn_le (a := 330) (b := ve A 1) (by decide) (by omega) ▸ eq_true hl
        refine ⟨A, n, b, zn (12 - (d + 1)), ?_, by omega, H, Ft_up (Ft_refl A) (Nat.zero_le _)⟩
        generalize hZ : lz_ev tL_isAtRest 146 [some (.ref 0), some (.int 1), some (.int b), some (.int (zn (12 - (d + 1)))), none, none, none, none, none] [] (A, n) = Z
        clear H HR I ih
        (rw [e_L_isAtRest_65]; simp (decide := true) only [e_L_isAtRest_p0, e_L_isAtRest_p1, lo_iload, lo_lload, lo_aload, lo_istore, lo_lstore, lo_iinc, lo_pushI, lo_pushL, lo_ii, lo_iid, lo_ll, lo_li, lo_lcmp, lo_i2l, lo_dup2, lo_goto, lo_if, lo_icmp, lq_iret_f, lq_iret_1, lq_iret_0, lq_iret_b, lq_lret, lq_bs, lq_bv, lq_bhv, lq_bhx, q_c8_0, q_c8_1, q_c8_2, q_c8_3, q_c8_4, q_set_0, q_set_1i, q_set_1r, q_set_1n, q_set_1N, q_set_s, q_set_1j, q_set_1l, q_set2_0, q_set2_1i, q_set2_1r, q_set2_1n, q_set2_s, q_if, zb_ite, cond_true, cond_false, List.getElem?_cons_zero, List.getElem?_cons_succ, Nat.reduceAdd, ↓hZ, l, f1, o0, hb, l3, Int32.reduceLT, Int32.reduceLE, Nat.reduceLeDiff, Nat.zero_le, Nat.le_refl, Nat.zero_add, if_true, if_false, zb_eq0, zb_eq1, zn_1, not_true_eq_false, not_false_eq_true, ite_true, ite_false, if_true, if_false, q_iret_0, q_iret_1, decide_true, decide_false, decide_not, zb_t, zb_f, z10, z01, cond_true, cond_false, Bool.and_true, Bool.true_and, Bool.and_false, Bool.false_and, Bool.not_true, Bool.not_false, true_and, and_true, false_and, and_false, true_or, or_true, false_or, or_false, Bool.true_eq_false, Bool.false_eq_true, eq_self, reduceCtorEq, Bool.or_true, Bool.true_or, Bool.or_false, Bool.false_or])
      · have l3 : ((330 : Int32) ≤ zn (ve A 1)) = False := zn_le (a := 330) (b := ve A 1) (by decide) (by omega) ▸ eq_false hl
        obtain ⟨g1, H1⟩ := g_turn H (n := 2) (by decide) (by decide)
        obtain ⟨-, Fr1, v1⟩ := turn_o H 2
        have F1 := Ft_of Fr1 v1
        have H1' := H1
        obtain ⟨hA1, ⟨R1, HR1⟩, I1⟩ := H1'
        obtain ⟨s, s1, s2⟩ := F1.1 t ht
        have s0 : s = 0 := by omega
        rw [s0, Nat.add_zero] at s2
        rw [e13, (Lg_n60 I1.1.1).2.2.2] at g1
        have a1 : fL_act [.ref 0, .int 11, .int 2, .int 0, .int 0, .int 0, .int 0, .int 0] A = _ := va_turn (b := 0) (c := 0) (d := 0) (e := 0) (f := 0) (kW_e g1)
        have o1 := kV_e (g_version hA1 HR1)
        obtain ⟨g2, H2, F2⟩ := tk_o H1 (n := 1) (by decide) (by decide) s2 (by omega)
        have a2 : fL_act [.ref 0, .int 15, .int 1, .int 0, .int 0, .int 0, .int 0, .int 0] (aTurn A 2) = _ := va_tick (b := 0) (c := 0) (d := 0) (e := 0) (f := 0) (kW_e g2)
        have l4 : (zn (t + 1) ≤ 0) = False := zn_le (a := t + 1) (b := 0) (by omega) (by decide) ▸ eq_false (by omega)
        have f2 : (n + 1 ≤ 84) = True := eq_true (by omega)
        have f3 : (n + 1 + 1 ≤ 84) = True := eq_true (by omega)
        obtain ⟨u, u1, u2⟩ := F2.1 t s2
        have us : ∃ t', t' ≤ t + 1 ∧ (aTicks (aTurn A 2) 1).1 1 7 = zn t' := ⟨t + u, by omega, u2⟩
        obtain ⟨t', t1, t2⟩ := us
        obtain ⟨B, n', b', j3, e, hn', HB, FB⟩ := ih (by omega) (aTicks (aTurn A 2) 1) (n + 1 + 1) t' (zn (ve A 1)) H2 t2 (by omega) (by omega)
        refine ⟨B, n', b', j3, Eq.trans ?_ e, hn', HB, Ft_up (Ft_trans (Ft_trans F1 F2) FB) (by omega)⟩
        clear e ih HB FB F2 H2 H1 HR1 I1 H HR I g1 g2 F1 Fr1 u2 t2 s2 ht e13
        rw [show 12 - d = 12 - (d + 1) + 1 by omega]
        generalize 12 - (d + 1) = j at *
        generalize aTicks (aTurn A 2) 1 = C at *
        generalize aTurn A 2 = D at *
        (rw [e_L_isAtRest_65]; simp (decide := true) only [e_L_isAtRest_p0, e_L_isAtRest_p1, lo_iload, lo_lload, lo_aload, lo_istore, lo_lstore, lo_iinc, lo_pushI, lo_pushL, lo_ii, lo_iid, lo_ll, lo_li, lo_lcmp, lo_i2l, lo_dup2, lo_goto, lo_if, lo_icmp, lq_iret_f, lq_iret_1, lq_iret_0, lq_iret_b, lq_lret, lq_bs, lq_bv, lq_bhv, lq_bhx, q_c8_0, q_c8_1, q_c8_2, q_c8_3, q_c8_4, q_set_0, q_set_1i, q_set_1r, q_set_1n, q_set_1N, q_set_s, q_set_1j, q_set_1l, q_set2_0, q_set2_1i, q_set2_1r, q_set2_1n, q_set2_s, q_if, zb_ite, cond_true, cond_false, List.getElem?_cons_zero, List.getElem?_cons_succ, Nat.reduceAdd, l, f1, f2, f3, o0, o1, hb, l3, a1, a2, l4, Int32.reduceLT, Int32.reduceLE, Nat.reduceLeDiff, Nat.zero_le, Nat.le_refl, Nat.zero_add, if_true, if_false, zb_eq0, zb_eq1, zn_1, not_true_eq_false, not_false_eq_true, ite_true, ite_false, if_true, if_false, q_iret_0, q_iret_1, decide_true, decide_false, decide_not, zb_t, zb_f, z10, z01, cond_true, cond_false, Bool.and_true, Bool.true_and, Bool.and_false, Bool.false_and, Bool.not_true, Bool.not_false, true_and, and_true, false_and, and_false, true_or, or_true, false_or, or_false, Bool.true_eq_false, Bool.false_eq_true, eq_self, reduceCtorEq, Bool.or_true, Bool.true_or, Bool.or_false, Bool.false_or])
/-! at rest: what is so then -/
def isP (A : zzMd) (p : Nat) : Bool := decide (row A p 23 = 2 ∧ row A p 25 = 0)
def opP (A : zzMd) (k p : Nat) : Bool := podP A k p && !decide (2 ≤ row A p 29)
theorem i_1 (H : Iv A) {p n : Nat} (hp : p < nv A 1) (hn : n ≤ 84) (b k t m o : Int32) (j8 : Option Value) : lz_ev tL_isAtRest 197 [some (.ref 0), some (.int 1), some (.int b), some (.int k), some (.int t), some (.int m), some (.int o), some (.int (zn p)), j8] [] (A, n) = lz_ev tL_isAtRest 230 [some (.ref 0), some (.int 1), some (.int b), some (.int k), some (.int t), some (.int m), some (.int o), some (.int (zn p)), j8] [.int (zb (isP A p))] (A, n) := by
  obtain ⟨hA, ⟨R, HR⟩, -⟩ := H
  have n60 := rl_n60 HR.1
  have o0 := kV_e (g_objects hA HR)
  have o1 := kV_e (g_kindOf hA HR hp)
  have o2 := kV_e (g_goingOf hA HR hp)
  have l : (zn (nv A 1) ≤ zn p) = False := zn_le (a := nv A 1) (b := p) (by omega) (by omega) ▸ eq_false (by omega)
  have f1 : (n ≤ 84) = True := eq_true hn
  unfold isP
  generalize hF : (fun x : Int32 => lz_ev tL_isAtRest 230 [some (.ref 0), some (.int 1), some (.int b), some (.int k), some (.int t), some (.int m), some (.int o), some (.int (zn p)), j8] [.int x] (A, n)) = F
  have hF' : ∀ x : Int32, lz_ev tL_isAtRest 230 [some (.ref 0), some (.int 1), some (.int b), some (.int k), some (.int t), some (.int m), some (.int o), some (.int (zn p)), j8] [.int x] (A, n) = F x := fun x => congrFun hF x
  clear hF HR
  rw [hF']
  by_cases c1 : row A p 23 = 2
  · by_cases c2 : row A p 25 = 0
    · rw [decide_eq_true (show row A p 23 = 2 ∧ row A p 25 = 0 from ⟨c1, c2⟩)]
      (rw [e_L_isAtRest_197]; simp (decide := true) only [e_L_isAtRest_p0, e_L_isAtRest_p1, lo_iload, lo_lload, lo_aload, lo_istore, lo_lstore, lo_iinc, lo_pushI, lo_pushL, lo_ii, lo_iid, lo_ll, lo_li, lo_lcmp, lo_i2l, lo_dup2, lo_goto, lo_if, lo_icmp, lq_iret_f, lq_iret_1, lq_iret_0, lq_iret_b, lq_lret, lq_bs, lq_bv, lq_bhv, lq_bhx, q_c8_0, q_c8_1, q_c8_2, q_c8_3, q_c8_4, q_set_0, q_set_1i, q_set_1r, q_set_1n, q_set_1N, q_set_s, q_set_1j, q_set_1l, q_set2_0, q_set2_1i, q_set2_1r, q_set2_1n, q_set2_s, q_if, zb_ite, cond_true, cond_false, List.getElem?_cons_zero, List.getElem?_cons_succ, Nat.reduceAdd, ↓hF', l, f1, o0, o1, o2, c1, c2, Int32.reduceLT, Int32.reduceLE, Nat.reduceLeDiff, Nat.zero_le, Nat.le_refl, Nat.zero_add, if_true, if_false, zb_eq0, zb_eq1, zn_1, not_true_eq_false, not_false_eq_true, ite_true, ite_false, if_true, if_false, q_iret_0, q_iret_1, decide_true, decide_false, decide_not, zb_t, zb_f, z10, z01, cond_true, cond_false, Bool.and_true, Bool.true_and, Bool.and_false, Bool.false_and, Bool.not_true, Bool.not_false, true_and, and_true, false_and, and_false, true_or, or_true, false_or, or_false, Bool.true_eq_false, Bool.false_eq_true, eq_self, reduceCtorEq, Bool.or_true, Bool.true_or, Bool.or_false, Bool.false_or])
    · rw [decide_eq_false (show ¬ (row A p 23 = 2 ∧ row A p 25 = 0) from fun z => c2 z.2)]
      (rw [e_L_isAtRest_197]; simp (decide := true) only [e_L_isAtRest_p0, e_L_isAtRest_p1, lo_iload, lo_lload, lo_aload, lo_istore, lo_lstore, lo_iinc, lo_pushI, lo_pushL, lo_ii, lo_iid, lo_ll, lo_li, lo_lcmp, lo_i2l, lo_dup2, lo_goto, lo_if, lo_icmp, lq_iret_f, lq_iret_1, lq_iret_0, lq_iret_b, lq_lret, lq_bs, lq_bv, lq_bhv, lq_bhx, q_c8_0, q_c8_1, q_c8_2, q_c8_3, q_c8_4, q_set_0, q_set_1i, q_set_1r, q_set_1n, q_set_1N, q_set_s, q_set_1j, q_set_1l, q_set2_0, q_set2_1i, q_set2_1r, q_set2_1n, q_set2_s, q_if, zb_ite, cond_true, cond_false, List.getElem?_cons_zero, List.getElem?_cons_succ, Nat.reduceAdd, ↓hF', l, f1, o0, o1, o2, c1, c2, Int32.reduceLT, Int32.reduceLE, Nat.reduceLeDiff, Nat.zero_le, Nat.le_refl, Nat.zero_add, if_true, if_false, zb_eq0, zb_eq1, zn_1, not_true_eq_false, not_false_eq_true, ite_true, ite_false, if_true, if_false, q_iret_0, q_iret_1, decide_true, decide_false, decide_not, zb_t, zb_f, z10, z01, cond_true, cond_false, Bool.and_true, Bool.true_and, Bool.and_false, Bool.false_and, Bool.not_true, Bool.not_false, true_and, and_true, false_and, and_false, true_or, or_true, false_or, or_false, Bool.true_eq_false, Bool.false_eq_true, eq_self, reduceCtorEq, Bool.or_true, Bool.true_or, Bool.or_false, Bool.false_or])
  · rw [decide_eq_false (show ¬ (row A p 23 = 2 ∧ row A p 25 = 0) from fun z => c1 z.1)]
    (rw [e_L_isAtRest_197]; simp (decide := true) only [e_L_isAtRest_p0, e_L_isAtRest_p1, lo_iload, lo_lload, lo_aload, lo_istore, lo_lstore, lo_iinc, lo_pushI, lo_pushL, lo_ii, lo_iid, lo_ll, lo_li, lo_lcmp, lo_i2l, lo_dup2, lo_goto, lo_if, lo_icmp, lq_iret_f, lq_iret_1, lq_iret_0, lq_iret_b, lq_lret, lq_bs, lq_bv, lq_bhv, lq_bhx, q_c8_0, q_c8_1, q_c8_2, q_c8_3, q_c8_4, q_set_0, q_set_1i, q_set_1r, q_set_1n, q_set_1N, q_set_s, q_set_1j, q_set_1l, q_set2_0, q_set2_1i, q_set2_1r, q_set2_1n, q_set2_s, q_if, zb_ite, cond_true, cond_false, List.getElem?_cons_zero, List.getElem?_cons_succ, Nat.reduceAdd, ↓hF', l, f1, o0, o1, c1, Int32.reduceLT, Int32.reduceLE, Nat.reduceLeDiff, Nat.zero_le, Nat.le_refl, Nat.zero_add, if_true, if_false, zb_eq0, zb_eq1, zn_1, not_true_eq_false, not_false_eq_true, ite_true, ite_false, if_true, if_false, q_iret_0, q_iret_1, decide_true, decide_false, decide_not, zb_t, zb_f, z10, z01, cond_true, cond_false, Bool.and_true, Bool.true_and, Bool.and_false, Bool.false_and, Bool.not_true, Bool.not_false, true_and, and_true, false_and, and_false, true_or, or_true, false_or, or_false, Bool.true_eq_false, Bool.false_eq_true, eq_self, reduceCtorEq, Bool.or_true, Bool.true_or, Bool.or_false, Bool.false_or])
theorem i_2 (H : Iv A) {p k n m o : Nat} (hp : p < nv A 1) (hn : n ≤ 84) (b t : Int32) (j8 : Option Value) : lz_ev tL_isAtRest 230 [some (.ref 0), some (.int 1), some (.int b), some (.int (zn k)), some (.int t), some (.int (zn m)), some (.int (zn o)), some (.int (zn p)), j8] [.int (zb (isP A p))] (A, n) = lz_ev tL_isAtRest 290 [some (.ref 0), some (.int 1), some (.int b), some (.int (zn k)), some (.int t), some (.int (zn (m + (bif podP A k p then 1 else 0)))), some (.int (zn o)), some (.int (zn p)), some (.int (zb (isP A p)))] [.int (zn (o + (bif opP A k p then 1 else 0)))] (A, n) := by
  obtain ⟨hA, ⟨R, HR⟩, -⟩ := H
  have o3 := kV_e (g_ownerOf hA HR hp)
  have f1 : (n ≤ 84) = True := eq_true hn
  unfold opP
  generalize hF : (fun (x y z : Int32) => lz_ev tL_isAtRest 290 [some (.ref 0), some (.int 1), some (.int b), some (.int (zn k)), some (.int t), some (.int x), some (.int (zn o)), some (.int (zn p)), some (.int z)] [.int y] (A, n)) = F
  have hF' : ∀ x y z : Int32, lz_ev tL_isAtRest 290 [some (.ref 0), some (.int 1), some (.int b), some (.int (zn k)), some (.int t), some (.int x), some (.int (zn o)), some (.int (zn p)), some (.int z)] [.int y] (A, n) = F x y z := fun x y z => congrFun (congrFun (congrFun hF x) y) z
  clear hF
  rw [hF']
  by_cases c : row A p 23 = 2 ∧ row A p 25 = 0
  · have hi : isP A p = true := decide_eq_true c
    have o4 := kV_e (g_phaseOf hA HR hp c.1)
    clear HR
    by_cases c3 : row A p 24 = zn k
    · have hq : podP A k p = true := decide_eq_true ⟨c3, c⟩
      rw [hi, hq]
      by_cases c4 : 2 ≤ row A p 29
      · rw [decide_eq_true c4]
        (simp (decide := true) only [e_L_isAtRest_p0, e_L_isAtRest_p1, lo_iload, lo_lload, lo_aload, lo_istore, lo_lstore, lo_iinc, lo_pushI, lo_pushL, lo_ii, lo_iid, lo_ll, lo_li, lo_lcmp, lo_i2l, lo_dup2, lo_goto, lo_if, lo_icmp, lq_iret_f, lq_iret_1, lq_iret_0, lq_iret_b, lq_lret, lq_bs, lq_bv, lq_bhv, lq_bhx, q_c8_0, q_c8_1, q_c8_2, q_c8_3, q_c8_4, q_set_0, q_set_1i, q_set_1r, q_set_1n, q_set_1N, q_set_s, q_set_1j, q_set_1l, q_set2_0, q_set2_1i, q_set2_1r, q_set2_1n, q_set2_s, q_if, zb_ite, cond_true, cond_false, List.getElem?_cons_zero, List.getElem?_cons_succ, Nat.reduceAdd, ↓hF', f1, o3, o4, c3, c4, Int32.add_zero, Nat.add_zero, Int32.reduceLT, Int32.reduceLE, Nat.reduceLeDiff, Nat.zero_le, Nat.le_refl, Nat.zero_add, if_true, if_false, zb_eq0, zb_eq1, zn_1, not_true_eq_false, not_false_eq_true, ite_true, ite_false, if_true, if_false, q_iret_0, q_iret_1, decide_true, decide_false, decide_not, zb_t, zb_f, z10, z01, cond_true, cond_false, Bool.and_true, Bool.true_and, Bool.and_false, Bool.false_and, Bool.not_true, Bool.not_false, true_and, and_true, false_and, and_false, true_or, or_true, false_or, or_false, Bool.true_eq_false, Bool.false_eq_true, eq_self, reduceCtorEq, Bool.or_true, Bool.true_or, Bool.or_false, Bool.false_or])
      · rw [decide_eq_false c4]
        (simp (decide := true) only [e_L_isAtRest_p0, e_L_isAtRest_p1, lo_iload, lo_lload, lo_aload, lo_istore, lo_lstore, lo_iinc, lo_pushI, lo_pushL, lo_ii, lo_iid, lo_ll, lo_li, lo_lcmp, lo_i2l, lo_dup2, lo_goto, lo_if, lo_icmp, lq_iret_f, lq_iret_1, lq_iret_0, lq_iret_b, lq_lret, lq_bs, lq_bv, lq_bhv, lq_bhx, q_c8_0, q_c8_1, q_c8_2, q_c8_3, q_c8_4, q_set_0, q_set_1i, q_set_1r, q_set_1n, q_set_1N, q_set_s, q_set_1j, q_set_1l, q_set2_0, q_set2_1i, q_set2_1r, q_set2_1n, q_set2_s, q_if, zb_ite, cond_true, cond_false, List.getElem?_cons_zero, List.getElem?_cons_succ, Nat.reduceAdd, ↓hF', f1, o3, o4, c3, c4, Int32.add_zero, Nat.add_zero, Int32.reduceLT, Int32.reduceLE, Nat.reduceLeDiff, Nat.zero_le, Nat.le_refl, Nat.zero_add, if_true, if_false, zb_eq0, zb_eq1, zn_1, not_true_eq_false, not_false_eq_true, ite_true, ite_false, if_true, if_false, q_iret_0, q_iret_1, decide_true, decide_false, decide_not, zb_t, zb_f, z10, z01, cond_true, cond_false, Bool.and_true, Bool.true_and, Bool.and_false, Bool.false_and, Bool.not_true, Bool.not_false, true_and, and_true, false_and, and_false, true_or, or_true, false_or, or_false, Bool.true_eq_false, Bool.false_eq_true, eq_self, reduceCtorEq, Bool.or_true, Bool.true_or, Bool.or_false, Bool.false_or])
    · have hq : podP A k p = false := decide_eq_false fun z => c3 z.1
      rw [hi, hq]
      (simp (decide := true) only [e_L_isAtRest_p0, e_L_isAtRest_p1, lo_iload, lo_lload, lo_aload, lo_istore, lo_lstore, lo_iinc, lo_pushI, lo_pushL, lo_ii, lo_iid, lo_ll, lo_li, lo_lcmp, lo_i2l, lo_dup2, lo_goto, lo_if, lo_icmp, lq_iret_f, lq_iret_1, lq_iret_0, lq_iret_b, lq_lret, lq_bs, lq_bv, lq_bhv, lq_bhx, q_c8_0, q_c8_1, q_c8_2, q_c8_3, q_c8_4, q_set_0, q_set_1i, q_set_1r, q_set_1n, q_set_1N, q_set_s, q_set_1j, q_set_1l, q_set2_0, q_set2_1i, q_set2_1r, q_set2_1n, q_set2_s, q_if, zb_ite, cond_true, cond_false, List.getElem?_cons_zero, List.getElem?_cons_succ, Nat.reduceAdd, ↓hF', f1, o3, c3, Int32.add_zero, Nat.add_zero, Int32.reduceLT, Int32.reduceLE, Nat.reduceLeDiff, Nat.zero_le, Nat.le_refl, Nat.zero_add, if_true, if_false, zb_eq0, zb_eq1, zn_1, not_true_eq_false, not_false_eq_true, ite_true, ite_false, if_true, if_false, q_iret_0, q_iret_1, decide_true, decide_false, decide_not, zb_t, zb_f, z10, z01, cond_true, cond_false, Bool.and_true, Bool.true_and, Bool.and_false, Bool.false_and, Bool.not_true, Bool.not_false, true_and, and_true, false_and, and_false, true_or, or_true, false_or, or_false, Bool.true_eq_false, Bool.false_eq_true, eq_self, reduceCtorEq, Bool.or_true, Bool.true_or, Bool.or_false, Bool.false_or])
  · have hi : isP A p = false := decide_eq_false c
    have hq : podP A k p = false := decide_eq_false fun z => c z.2
    rw [hi, hq]
    clear HR
    (simp (decide := true) only [e_L_isAtRest_p0, e_L_isAtRest_p1, lo_iload, lo_lload, lo_aload, lo_istore, lo_lstore, lo_iinc, lo_pushI, lo_pushL, lo_ii, lo_iid, lo_ll, lo_li, lo_lcmp, lo_i2l, lo_dup2, lo_goto, lo_if, lo_icmp, lq_iret_f, lq_iret_1, lq_iret_0, lq_iret_b, lq_lret, lq_bs, lq_bv, lq_bhv, lq_bhx, q_c8_0, q_c8_1, q_c8_2, q_c8_3, q_c8_4, q_set_0, q_set_1i, q_set_1r, q_set_1n, q_set_1N, q_set_s, q_set_1j, q_set_1l, q_set2_0, q_set2_1i, q_set2_1r, q_set2_1n, q_set2_s, q_if, zb_ite, cond_true, cond_false, List.getElem?_cons_zero, List.getElem?_cons_succ, Nat.reduceAdd, ↓hF', f1, Int32.add_zero, Nat.add_zero, Int32.reduceLT, Int32.reduceLE, Nat.reduceLeDiff, Nat.zero_le, Nat.le_refl, Nat.zero_add, if_true, if_false, zb_eq0, zb_eq1, zn_1, not_true_eq_false, not_false_eq_true, ite_true, ite_false, if_true, if_false, q_iret_0, q_iret_1, decide_true, decide_false, decide_not, zb_t, zb_f, z10, z01, cond_true, cond_false, Bool.and_true, Bool.true_and, Bool.and_false, Bool.false_and, Bool.not_true, Bool.not_false, true_and, and_true, false_and, and_false, true_or, or_true, false_or, or_false, Bool.true_eq_false, Bool.false_eq_true, eq_self, reduceCtorEq, Bool.or_true, Bool.true_or, Bool.or_false, Bool.false_or])
theorem i_3 (H : Iv A) (S : allst A) {p k n : Nat} (hk : k < nv A 1) (hp : p < nv A 1) (hn : n ≤ 84) (b m o o' : Int32) : lz_ev tL_isAtRest 290 [some (.ref 0), some (.int 1), some (.int b), some (.int (zn k)), some (.int (row A k 23)), some (.int m), some (.int o), some (.int (zn p)), some (.int (zb (isP A p)))] [.int o'] (A, n) = lz_ev tL_isAtRest 197 [some (.ref 0), some (.int 1), some (.int b), some (.int (zn k)), some (.int (row A k 23)), some (.int m), some (.int o'), some (.int (zn (p + 1))), some (.int (zb (isP A p)))] [] (A, n) := by
  obtain ⟨hA, ⟨R, HR⟩, I⟩ := H
  have f1 : (n ≤ 84) = True := eq_true hn
  by_cases c5 : row A k 23 = 5
  · have o1 := kV_e (g_goingOf hA HR hk)
    obtain ⟨q, q1, q2⟩ := (cur_good HR.1 hk).1.2.2.2.1
    by_cases cg : row A k 25 = 0
    · have hb := rest6 I S hk c5 cg hp
      have o2 := kV_e (g_isBehind hA HR hk hp c5)
      have o3 := kV_e (g_field hA HR hk (j := 1) (by rw [c5]; decide) (by decide))
      have o3' : lz_g fX11_field [.ref 0, .int (zn k), .int 1] A = _ := o3
      rw [hb] at o2
      unfold behP at o2
      clear o3
      by_cases c : row A p 23 = 2 ∧ row A p 25 = 0
      · have hi : isP A p = true := decide_eq_true c
        have o4 := kV_e (g_phaseOf hA HR hp c.1)
        have o5 := kV_e (g_field hA HR hp (j := 1) (by rw [c.1]; decide) (by decide))
        have o5' : lz_g fX11_field [.ref 0, .int (zn p), .int 1] A = _ := o5
        rw [decide_eq_true c] at o2
        rw [hi]
        clear o5 HR I
        by_cases d1 : row A p 29 = 1
        · by_cases d2 : row A p 1 = row A k 1
          · rw [decide_eq_true d1, decide_eq_true d2] at o2
            simp only [Bool.and_self, zb_t] at o2
            (simp (decide := true) only [e_L_isAtRest_p0, e_L_isAtRest_p1, lo_iload, lo_lload, lo_aload, lo_istore, lo_lstore, lo_iinc, lo_pushI, lo_pushL, lo_ii, lo_iid, lo_ll, lo_li, lo_lcmp, lo_i2l, lo_dup2, lo_goto, lo_if, lo_icmp, lq_iret_f, lq_iret_1, lq_iret_0, lq_iret_b, lq_lret, lq_bs, lq_bv, lq_bhv, lq_bhx, q_c8_0, q_c8_1, q_c8_2, q_c8_3, q_c8_4, q_set_0, q_set_1i, q_set_1r, q_set_1n, q_set_1N, q_set_s, q_set_1j, q_set_1l, q_set2_0, q_set2_1i, q_set2_1r, q_set2_1n, q_set2_s, q_if, zb_ite, cond_true, cond_false, List.getElem?_cons_zero, List.getElem?_cons_succ, Nat.reduceAdd, f1, c5, cg, o1, o2, o3', o4, o5', d1, d2, Int32.reduceLT, Int32.reduceLE, Nat.reduceLeDiff, Nat.zero_le, Nat.le_refl, Nat.zero_add, if_true, if_false, zb_eq0, zb_eq1, zn_1, not_true_eq_false, not_false_eq_true, ite_true, ite_false, if_true, if_false, q_iret_0, q_iret_1, decide_true, decide_false, decide_not, zb_t, zb_f, z10, z01, cond_true, cond_false, Bool.and_true, Bool.true_and, Bool.and_false, Bool.false_and, Bool.not_true, Bool.not_false, true_and, and_true, false_and, and_false, true_or, or_true, false_or, or_false, Bool.true_eq_false, Bool.false_eq_true, eq_self, reduceCtorEq, Bool.or_true, Bool.true_or, Bool.or_false, Bool.false_or])
          · rw [decide_eq_true d1, decide_eq_false d2] at o2
            simp only [Bool.and_false, zb_f] at o2
            (simp (decide := true) only [e_L_isAtRest_p0, e_L_isAtRest_p1, lo_iload, lo_lload, lo_aload, lo_istore, lo_lstore, lo_iinc, lo_pushI, lo_pushL, lo_ii, lo_iid, lo_ll, lo_li, lo_lcmp, lo_i2l, lo_dup2, lo_goto, lo_if, lo_icmp, lq_iret_f, lq_iret_1, lq_iret_0, lq_iret_b, lq_lret, lq_bs, lq_bv, lq_bhv, lq_bhx, q_c8_0, q_c8_1, q_c8_2, q_c8_3, q_c8_4, q_set_0, q_set_1i, q_set_1r, q_set_1n, q_set_1N, q_set_s, q_set_1j, q_set_1l, q_set2_0, q_set2_1i, q_set2_1r, q_set2_1n, q_set2_s, q_if, zb_ite, cond_true, cond_false, List.getElem?_cons_zero, List.getElem?_cons_succ, Nat.reduceAdd, f1, c5, cg, o1, o2, o3', o4, o5', d1, d2, Int32.reduceLT, Int32.reduceLE, Nat.reduceLeDiff, Nat.zero_le, Nat.le_refl, Nat.zero_add, if_true, if_false, zb_eq0, zb_eq1, zn_1, not_true_eq_false, not_false_eq_true, ite_true, ite_false, if_true, if_false, q_iret_0, q_iret_1, decide_true, decide_false, decide_not, zb_t, zb_f, z10, z01, cond_true, cond_false, Bool.and_true, Bool.true_and, Bool.and_false, Bool.false_and, Bool.not_true, Bool.not_false, true_and, and_true, false_and, and_false, true_or, or_true, false_or, or_false, Bool.true_eq_false, Bool.false_eq_true, eq_self, reduceCtorEq, Bool.or_true, Bool.true_or, Bool.or_false, Bool.false_or])
        · rw [decide_eq_false d1] at o2
          simp only [Bool.false_and, Bool.and_false, zb_f] at o2
          (simp (decide := true) only [e_L_isAtRest_p0, e_L_isAtRest_p1, lo_iload, lo_lload, lo_aload, lo_istore, lo_lstore, lo_iinc, lo_pushI, lo_pushL, lo_ii, lo_iid, lo_ll, lo_li, lo_lcmp, lo_i2l, lo_dup2, lo_goto, lo_if, lo_icmp, lq_iret_f, lq_iret_1, lq_iret_0, lq_iret_b, lq_lret, lq_bs, lq_bv, lq_bhv, lq_bhx, q_c8_0, q_c8_1, q_c8_2, q_c8_3, q_c8_4, q_set_0, q_set_1i, q_set_1r, q_set_1n, q_set_1N, q_set_s, q_set_1j, q_set_1l, q_set2_0, q_set2_1i, q_set2_1r, q_set2_1n, q_set2_s, q_if, zb_ite, cond_true, cond_false, List.getElem?_cons_zero, List.getElem?_cons_succ, Nat.reduceAdd, f1, c5, cg, o1, o2, o4, d1, Int32.reduceLT, Int32.reduceLE, Nat.reduceLeDiff, Nat.zero_le, Nat.le_refl, Nat.zero_add, if_true, if_false, zb_eq0, zb_eq1, zn_1, not_true_eq_false, not_false_eq_true, ite_true, ite_false, if_true, if_false, q_iret_0, q_iret_1, decide_true, decide_false, decide_not, zb_t, zb_f, z10, z01, cond_true, cond_false, Bool.and_true, Bool.true_and, Bool.and_false, Bool.false_and, Bool.not_true, Bool.not_false, true_and, and_true, false_and, and_false, true_or, or_true, false_or, or_false, Bool.true_eq_false, Bool.false_eq_true, eq_self, reduceCtorEq, Bool.or_true, Bool.true_or, Bool.or_false, Bool.false_or])
      · have hi : isP A p = false := decide_eq_false c
        rw [decide_eq_false c] at o2
        simp only [Bool.false_and, zb_f] at o2
        rw [hi]
        clear HR I
        (simp (decide := true) only [e_L_isAtRest_p0, e_L_isAtRest_p1, lo_iload, lo_lload, lo_aload, lo_istore, lo_lstore, lo_iinc, lo_pushI, lo_pushL, lo_ii, lo_iid, lo_ll, lo_li, lo_lcmp, lo_i2l, lo_dup2, lo_goto, lo_if, lo_icmp, lq_iret_f, lq_iret_1, lq_iret_0, lq_iret_b, lq_lret, lq_bs, lq_bv, lq_bhv, lq_bhx, q_c8_0, q_c8_1, q_c8_2, q_c8_3, q_c8_4, q_set_0, q_set_1i, q_set_1r, q_set_1n, q_set_1N, q_set_s, q_set_1j, q_set_1l, q_set2_0, q_set2_1i, q_set2_1r, q_set2_1n, q_set2_s, q_if, zb_ite, cond_true, cond_false, List.getElem?_cons_zero, List.getElem?_cons_succ, Nat.reduceAdd, f1, c5, cg, o1, o2, Int32.reduceLT, Int32.reduceLE, Nat.reduceLeDiff, Nat.zero_le, Nat.le_refl, Nat.zero_add, if_true, if_false, zb_eq0, zb_eq1, zn_1, not_true_eq_false, not_false_eq_true, ite_true, ite_false, if_true, if_false, q_iret_0, q_iret_1, decide_true, decide_false, decide_not, zb_t, zb_f, z10, z01, cond_true, cond_false, Bool.and_true, Bool.true_and, Bool.and_false, Bool.false_and, Bool.not_true, Bool.not_false, true_and, and_true, false_and, and_false, true_or, or_true, false_or, or_false, Bool.true_eq_false, Bool.false_eq_true, eq_self, reduceCtorEq, Bool.or_true, Bool.true_or, Bool.or_false, Bool.false_or])
    · have lq : ((0 : Int32) < zn q) = True := by
        rw [show (0 : Int32) = zn 0 from rfl, zn_lt (a := 0) (b := q) (by decide) (by omega)]
        exact eq_true (Nat.pos_of_ne_zero fun z => cg (by rw [q2, z]; rfl))
      rw [q2] at o1
      clear HR I
      generalize zb (isP A p) = x
      (simp (decide := true) only [e_L_isAtRest_p0, e_L_isAtRest_p1, lo_iload, lo_lload, lo_aload, lo_istore, lo_lstore, lo_iinc, lo_pushI, lo_pushL, lo_ii, lo_iid, lo_ll, lo_li, lo_lcmp, lo_i2l, lo_dup2, lo_goto, lo_if, lo_icmp, lq_iret_f, lq_iret_1, lq_iret_0, lq_iret_b, lq_lret, lq_bs, lq_bv, lq_bhv, lq_bhx, q_c8_0, q_c8_1, q_c8_2, q_c8_3, q_c8_4, q_set_0, q_set_1i, q_set_1r, q_set_1n, q_set_1N, q_set_s, q_set_1j, q_set_1l, q_set2_0, q_set2_1i, q_set2_1r, q_set2_1n, q_set2_s, q_if, zb_ite, cond_true, cond_false, List.getElem?_cons_zero, List.getElem?_cons_succ, Nat.reduceAdd, f1, c5, o1, lq, Int32.reduceLT, Int32.reduceLE, Nat.reduceLeDiff, Nat.zero_le, Nat.le_refl, Nat.zero_add, if_true, if_false, zb_eq0, zb_eq1, zn_1, not_true_eq_false, not_false_eq_true, ite_true, ite_false, if_true, if_false, q_iret_0, q_iret_1, decide_true, decide_false, decide_not, zb_t, zb_f, z10, z01, cond_true, cond_false, Bool.and_true, Bool.true_and, Bool.and_false, Bool.false_and, Bool.not_true, Bool.not_false, true_and, and_true, false_and, and_false, true_or, or_true, false_or, or_false, Bool.true_eq_false, Bool.false_eq_true, eq_self, reduceCtorEq, Bool.or_true, Bool.true_or, Bool.or_false, Bool.false_or])
  · generalize zb (isP A p) = x
    clear HR I
    (simp (decide := true) only [e_L_isAtRest_p0, e_L_isAtRest_p1, lo_iload, lo_lload, lo_aload, lo_istore, lo_lstore, lo_iinc, lo_pushI, lo_pushL, lo_ii, lo_iid, lo_ll, lo_li, lo_lcmp, lo_i2l, lo_dup2, lo_goto, lo_if, lo_icmp, lq_iret_f, lq_iret_1, lq_iret_0, lq_iret_b, lq_lret, lq_bs, lq_bv, lq_bhv, lq_bhx, q_c8_0, q_c8_1, q_c8_2, q_c8_3, q_c8_4, q_set_0, q_set_1i, q_set_1r, q_set_1n, q_set_1N, q_set_s, q_set_1j, q_set_1l, q_set2_0, q_set2_1i, q_set2_1r, q_set2_1n, q_set2_s, q_if, zb_ite, cond_true, cond_false, List.getElem?_cons_zero, List.getElem?_cons_succ, Nat.reduceAdd, f1, c5, Int32.reduceLT, Int32.reduceLE, Nat.reduceLeDiff, Nat.zero_le, Nat.le_refl, Nat.zero_add, if_true, if_false, zb_eq0, zb_eq1, zn_1, not_true_eq_false, not_false_eq_true, ite_true, ite_false, if_true, if_false, q_iret_0, q_iret_1, decide_true, decide_false, decide_not, zb_t, zb_f, z10, z01, cond_true, cond_false, Bool.and_true, Bool.true_and, Bool.and_false, Bool.false_and, Bool.not_true, Bool.not_false, true_and, and_true, false_and, and_false, true_or, or_true, false_or, or_false, Bool.true_eq_false, Bool.false_eq_true, eq_self, reduceCtorEq, Bool.or_true, Bool.true_or, Bool.or_false, Bool.false_or])
theorem r_197 (H : Iv A) (S : allst A) {k n : Nat} (hk : k < nv A 1) (hn : n ≤ 84) (b : Int32) (j8 : Option Value) : ∀ p, p ≤ nv A 1 → ∃ j8', lz_ev tL_isAtRest 197 [some (.ref 0), some (.int 1), some (.int b), some (.int (zn k)), some (.int (row A k 23)), some (.int 0), some (.int 0), some (.int 0), j8] [] (A, n) = lz_ev tL_isAtRest 197 [some (.ref 0), some (.int 1), some (.int b), some (.int (zn k)), some (.int (row A k 23)), some (.int (zn (zcnt p (podP A k)))), some (.int (zn (zcnt p (opP A k)))), some (.int (zn p)), j8'] [] (A, n) := by
  intro p
  induction p with
  | zero => exact fun _ => ⟨j8, rfl⟩
  | succ p ih =>
    intro hp
    obtain ⟨j8', e⟩ := ih (by omega)
    exact ⟨_, e.trans ((i_1 H (by omega) hn _ _ _ _ _ _).trans ((i_2 H (by omega) hn _ _ _).trans (i_3 H S hk (by omega) hn _ _ _ _)))⟩
end
end

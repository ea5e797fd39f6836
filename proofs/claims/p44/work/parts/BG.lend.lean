section
/-! the law's loop: the end of an iteration -/
section
variable {A B R : zzMd}
theorem LI_73 {least : Int32} {t : Nat} (H : LI A least t) (W : W73 A B) : LI B least t := ⟨W.1, (W.2.1 1 7 (by decide)).trans H.2.1, (W.2.1 1 8 (by decide)).trans H.2.2.1, fun r hr => by rw [W.2.2 r, W.2.1 12 r (by decide)]; exact H.2.2.2 r hr⟩
set_option maxRecDepth 100000 in
set_option maxHeartbeats 2000000 in
theorem it_end (sc : List Int32) {least : Int32} {t m i X : Nat} (H : LI A least t) (hi : i < 110) (hX : X < 2147483648) (hm : m + 4922 ≤ 727906) (v how many ob kind ver : Int32) (j14 j15 j16 j17 j18 j19 j20 : Option Value) : ∃ B m', lz_ev (tL_law sc) 1715 (lw least 1 (zn i) (zn X) v how many ob kind ver j14 j15 j16 j17 j18 j19 j20) [] (A, m) = lz_ev (tL_law sc) 53 (lw least 1 (zn (i + 1)) (zn X) v how many ob kind ver j14 j15 j16 j17 j18 j19 j20) [] (B, m') ∧ LI B least t ∧ m' ≤ m + 1322 + (if i % 25 = 0 then 3600 else 0) := by
  have m3 : zn i - zn i / 3 * 3 = zn (i % 3) := zn_md (X := i) (d := 3) (by omega) (by decide)
  have m2 : zn i - zn i / 2 * 2 = zn (i % 2) := zn_md (X := i) (d := 2) (by omega) (by decide)
  have m25 : zn i - zn i / 25 * 25 = zn (i % 25) := zn_md (X := i) (d := 25) (by omega) (by decide)
  have d3 : zn X / 3 = zn (X / 3) := zn_dv (X := X) (d := 3) hX (by decide)
  have hx3 : X / 3 < 2147483648 := Nat.lt_of_le_of_lt (Nat.div_le_self _ _) hX
  have p3 : i % 3 < 3 := Nat.mod_lt _ (by decide)
  have p2 : i % 2 < 2 := Nat.mod_lt _ (by decide)
  have p25 : i % 25 < 25 := Nat.mod_lt _ (by decide)
  generalize i % 3 = a at *
  generalize i % 2 = b at *
  generalize i % 25 = c at *
  generalize X / 3 = y at *
  have z : ∀ k, k < 100 → ((0 : Int32) < zn k) = (0 < k) := fun k hk => zn_lt (a := 0) (b := k) (by decide) (by omega)
  have za := z a (by omega)
  have zb' := z b (by omega)
  have zc := z c (by omega)
  clear z
  obtain ⟨B, e1, W⟩ := w_areVersions H.1
  have HB := LI_73 H W
  have e2 := w_areObjects HB.1
  have e3 := w_areQueues HB.1
  have e4 := w_isRefused HB.1 hx3
  have g3 := w_areQueues H.1
  have g4 := w_isRefused H.1 hx3
  have f2 : (m + 2 ≤ 727906) = True := eq_true (by omega)
  have f3 : (m + 2 + 1320 ≤ 727906) = True := eq_true (by omega)
  have f4 : (m + 2 + 1320 + 3600 ≤ 727906) = True := eq_true (by omega)
  have f5 : (m + 3600 ≤ 727906) = True := eq_true (by omega)
  have f0 : (m ≤ 727906) = True := eq_true (by omega)
  clear W
  by_cases ha : a = 0
  · have za := za.trans (eq_false (by omega))
    by_cases hb : b = 0
    · have zb' := zb'.trans (eq_false (by omega))
      by_cases hc : c = 0
      · have zc := zc.trans (eq_false (by omega))
        · refine ⟨B, m + 2 + 1320 + 3600, ?_, HB, by rw [if_pos hc]; omega⟩
          unfold lw
          clear H HB hi hX hm
          (simp (decide := true) only [e_L_law_p0 sc, e_L_law_p1 sc, e_L_law_p2 sc, e_L_law_p3 sc, e_L_law_p4 sc, e_L_law_p5 sc, e_L_law_p6 sc, lo_iload, lo_lload, lo_aload, lo_istore, lo_lstore, lo_iinc, lo_pushI, lo_pushL, lo_ii, lo_iid, lo_ll, lo_li, lo_lcmp, lo_i2l, lo_dup2, lo_goto, lo_if, lo_icmp, lq_iret_f, lq_iret_1, lq_iret_0, lq_iret_b, lq_lret, lq_bs, lq_bv, lq_bhv, lq_bhx, q_c8_0, q_c8_1, q_c8_2, q_c8_3, q_c8_4, q_set_0, q_set_1i, q_set_1r, q_set_1n, q_set_1N, q_set_s, q_set_1j, q_set_1l, q_set2_0, q_set2_1i, q_set2_1r, q_set2_1n, q_set2_s, q_if, zb_ite, cond_true, cond_false, List.getElem?_cons_zero, List.getElem?_cons_succ, Nat.reduceAdd, e1, e2, e3, e4, za, zb', zc, m3, m2, m25, d3, f0, f2, f3, f4, f5, Nat.add_zero, Int32.reduceLT, Int32.reduceLE, Nat.reduceLeDiff, Nat.zero_le, Nat.le_refl, Nat.zero_add, if_true, if_false, zb_eq0, zb_eq1, zn_1, not_true_eq_false, not_false_eq_true, ite_true, ite_false, if_true, if_false, q_iret_0, q_iret_1, decide_true, decide_false, decide_not, zb_t, zb_f, z10, z01, cond_true, cond_false, Bool.and_true, Bool.true_and, Bool.and_false, Bool.false_and, Bool.not_true, Bool.not_false, true_and, and_true, false_and, and_false, true_or, or_true, false_or, or_false, Bool.true_eq_false, Bool.false_eq_true, eq_self, reduceCtorEq, Bool.or_true, Bool.true_or, Bool.or_false, Bool.false_or])
      · have zc := zc.trans (eq_true (by omega))
        · refine ⟨B, m + 2 + 1320, ?_, HB, by rw [if_neg (show ¬ c = 0 from hc)]; omega⟩
          unfold lw
          clear H HB hi hX hm
          (simp (decide := true) only [e_L_law_p0 sc, e_L_law_p1 sc, e_L_law_p2 sc, e_L_law_p3 sc, e_L_law_p4 sc, e_L_law_p5 sc, e_L_law_p6 sc, lo_iload, lo_lload, lo_aload, lo_istore, lo_lstore, lo_iinc, lo_pushI, lo_pushL, lo_ii, lo_iid, lo_ll, lo_li, lo_lcmp, lo_i2l, lo_dup2, lo_goto, lo_if, lo_icmp, lq_iret_f, lq_iret_1, lq_iret_0, lq_iret_b, lq_lret, lq_bs, lq_bv, lq_bhv, lq_bhx, q_c8_0, q_c8_1, q_c8_2, q_c8_3, q_c8_4, q_set_0, q_set_1i, q_set_1r, q_set_1n, q_set_1N, q_set_s, q_set_1j, q_set_1l, q_set2_0, q_set2_1i, q_set2_1r, q_set2_1n, q_set2_s, q_if, zb_ite, cond_true, cond_false, List.getElem?_cons_zero, List.getElem?_cons_succ, Nat.reduceAdd, e1, e2, e3, za, zb', zc, m3, m2, m25, d3, f0, f2, f3, f4, f5, Nat.add_zero, Int32.reduceLT, Int32.reduceLE, Nat.reduceLeDiff, Nat.zero_le, Nat.le_refl, Nat.zero_add, if_true, if_false, zb_eq0, zb_eq1, zn_1, not_true_eq_false, not_false_eq_true, ite_true, ite_false, if_true, if_false, q_iret_0, q_iret_1, decide_true, decide_false, decide_not, zb_t, zb_f, z10, z01, cond_true, cond_false, Bool.and_true, Bool.true_and, Bool.and_false, Bool.false_and, Bool.not_true, Bool.not_false, true_and, and_true, false_and, and_false, true_or, or_true, false_or, or_false, Bool.true_eq_false, Bool.false_eq_true, eq_self, reduceCtorEq, Bool.or_true, Bool.true_or, Bool.or_false, Bool.false_or])
    · have zb' := zb'.trans (eq_true (by omega))
      by_cases hc : c = 0
      · have zc := zc.trans (eq_false (by omega))
        · refine ⟨B, m + 2 + 1320 + 3600, ?_, HB, by rw [if_pos hc]; omega⟩
          unfold lw
          clear H HB hi hX hm
          (simp (decide := true) only [e_L_law_p0 sc, e_L_law_p1 sc, e_L_law_p2 sc, e_L_law_p3 sc, e_L_law_p4 sc, e_L_law_p5 sc, e_L_law_p6 sc, lo_iload, lo_lload, lo_aload, lo_istore, lo_lstore, lo_iinc, lo_pushI, lo_pushL, lo_ii, lo_iid, lo_ll, lo_li, lo_lcmp, lo_i2l, lo_dup2, lo_goto, lo_if, lo_icmp, lq_iret_f, lq_iret_1, lq_iret_0, lq_iret_b, lq_lret, lq_bs, lq_bv, lq_bhv, lq_bhx, q_c8_0, q_c8_1, q_c8_2, q_c8_3, q_c8_4, q_set_0, q_set_1i, q_set_1r, q_set_1n, q_set_1N, q_set_s, q_set_1j, q_set_1l, q_set2_0, q_set2_1i, q_set2_1r, q_set2_1n, q_set2_s, q_if, zb_ite, cond_true, cond_false, List.getElem?_cons_zero, List.getElem?_cons_succ, Nat.reduceAdd, e1, e2, e4, za, zb', zc, m3, m2, m25, d3, f0, f2, f3, f4, f5, Nat.add_zero, Int32.reduceLT, Int32.reduceLE, Nat.reduceLeDiff, Nat.zero_le, Nat.le_refl, Nat.zero_add, if_true, if_false, zb_eq0, zb_eq1, zn_1, not_true_eq_false, not_false_eq_true, ite_true, ite_false, if_true, if_false, q_iret_0, q_iret_1, decide_true, decide_false, decide_not, zb_t, zb_f, z10, z01, cond_true, cond_false, Bool.and_true, Bool.true_and, Bool.and_false, Bool.false_and, Bool.not_true, Bool.not_false, true_and, and_true, false_and, and_false, true_or, or_true, false_or, or_false, Bool.true_eq_false, Bool.false_eq_true, eq_self, reduceCtorEq, Bool.or_true, Bool.true_or, Bool.or_false, Bool.false_or])
      · have zc := zc.trans (eq_true (by omega))
        · refine ⟨B, m + 2 + 1320, ?_, HB, by rw [if_neg (show ¬ c = 0 from hc)]; omega⟩
          unfold lw
          clear H HB hi hX hm
          (simp (decide := true) only [e_L_law_p0 sc, e_L_law_p1 sc, e_L_law_p2 sc, e_L_law_p3 sc, e_L_law_p4 sc, e_L_law_p5 sc, e_L_law_p6 sc, lo_iload, lo_lload, lo_aload, lo_istore, lo_lstore, lo_iinc, lo_pushI, lo_pushL, lo_ii, lo_iid, lo_ll, lo_li, lo_lcmp, lo_i2l, lo_dup2, lo_goto, lo_if, lo_icmp, lq_iret_f, lq_iret_1, lq_iret_0, lq_iret_b, lq_lret, lq_bs, lq_bv, lq_bhv, lq_bhx, q_c8_0, q_c8_1, q_c8_2, q_c8_3, q_c8_4, q_set_0, q_set_1i, q_set_1r, q_set_1n, q_set_1N, q_set_s, q_set_1j, q_set_1l, q_set2_0, q_set2_1i, q_set2_1r, q_set2_1n, q_set2_s, q_if, zb_ite, cond_true, cond_false, List.getElem?_cons_zero, List.getElem?_cons_succ, Nat.reduceAdd, e1, e2, za, zb', zc, m3, m2, m25, d3, f0, f2, f3, f4, f5, Nat.add_zero, Int32.reduceLT, Int32.reduceLE, Nat.reduceLeDiff, Nat.zero_le, Nat.le_refl, Nat.zero_add, if_true, if_false, zb_eq0, zb_eq1, zn_1, not_true_eq_false, not_false_eq_true, ite_true, ite_false, if_true, if_false, q_iret_0, q_iret_1, decide_true, decide_false, decide_not, zb_t, zb_f, z10, z01, cond_true, cond_false, Bool.and_true, Bool.true_and, Bool.and_false, Bool.false_and, Bool.not_true, Bool.not_false, true_and, and_true, false_and, and_false, true_or, or_true, false_or, or_false, Bool.true_eq_false, Bool.false_eq_true, eq_self, reduceCtorEq, Bool.or_true, Bool.true_or, Bool.or_false, Bool.false_or])
  · have za := za.trans (eq_true (by omega))
    by_cases hb : b = 0
    · have zb' := zb'.trans (eq_false (by omega))
      by_cases hc : c = 0
      · have zc := zc.trans (eq_false (by omega))
        · refine ⟨A, m + 3600, ?_, H, by rw [if_pos hc]; omega⟩
          unfold lw
          clear H HB hi hX hm
          (simp (decide := true) only [e_L_law_p0 sc, e_L_law_p1 sc, e_L_law_p2 sc, e_L_law_p3 sc, e_L_law_p4 sc, e_L_law_p5 sc, e_L_law_p6 sc, lo_iload, lo_lload, lo_aload, lo_istore, lo_lstore, lo_iinc, lo_pushI, lo_pushL, lo_ii, lo_iid, lo_ll, lo_li, lo_lcmp, lo_i2l, lo_dup2, lo_goto, lo_if, lo_icmp, lq_iret_f, lq_iret_1, lq_iret_0, lq_iret_b, lq_lret, lq_bs, lq_bv, lq_bhv, lq_bhx, q_c8_0, q_c8_1, q_c8_2, q_c8_3, q_c8_4, q_set_0, q_set_1i, q_set_1r, q_set_1n, q_set_1N, q_set_s, q_set_1j, q_set_1l, q_set2_0, q_set2_1i, q_set2_1r, q_set2_1n, q_set2_s, q_if, zb_ite, cond_true, cond_false, List.getElem?_cons_zero, List.getElem?_cons_succ, Nat.reduceAdd, g3, g4, za, zb', zc, m3, m2, m25, d3, f0, f2, f3, f4, f5, Nat.add_zero, Int32.reduceLT, Int32.reduceLE, Nat.reduceLeDiff, Nat.zero_le, Nat.le_refl, Nat.zero_add, if_true, if_false, zb_eq0, zb_eq1, zn_1, not_true_eq_false, not_false_eq_true, ite_true, ite_false, if_true, if_false, q_iret_0, q_iret_1, decide_true, decide_false, decide_not, zb_t, zb_f, z10, z01, cond_true, cond_false, Bool.and_true, Bool.true_and, Bool.and_false, Bool.false_and, Bool.not_true, Bool.not_false, true_and, and_true, false_and, and_false, true_or, or_true, false_or, or_false, Bool.true_eq_false, Bool.false_eq_true, eq_self, reduceCtorEq, Bool.or_true, Bool.true_or, Bool.or_false, Bool.false_or])
      · have zc := zc.trans (eq_true (by omega))
        · refine ⟨A, m, ?_, H, by rw [if_neg (show ¬ c = 0 from hc)]; omega⟩
          unfold lw
          clear H HB hi hX hm
          (simp (decide := true) only [e_L_law_p0 sc, e_L_law_p1 sc, e_L_law_p2 sc, e_L_law_p3 sc, e_L_law_p4 sc, e_L_law_p5 sc, e_L_law_p6 sc, lo_iload, lo_lload, lo_aload, lo_istore, lo_lstore, lo_iinc, lo_pushI, lo_pushL, lo_ii, lo_iid, lo_ll, lo_li, lo_lcmp, lo_i2l, lo_dup2, lo_goto, lo_if, lo_icmp, lq_iret_f, lq_iret_1, lq_iret_0, lq_iret_b, lq_lret, lq_bs, lq_bv, lq_bhv, lq_bhx, q_c8_0, q_c8_1, q_c8_2, q_c8_3, q_c8_4, q_set_0, q_set_1i, q_set_1r, q_set_1n, q_set_1N, q_set_s, q_set_1j, q_set_1l, q_set2_0, q_set2_1i, q_set2_1r, q_set2_1n, q_set2_s, q_if, zb_ite, cond_true, cond_false, List.getElem?_cons_zero, List.getElem?_cons_succ, Nat.reduceAdd, g3, za, zb', zc, m3, m2, m25, d3, f0, f2, f3, f4, f5, Nat.add_zero, Int32.reduceLT, Int32.reduceLE, Nat.reduceLeDiff, Nat.zero_le, Nat.le_refl, Nat.zero_add, if_true, if_false, zb_eq0, zb_eq1, zn_1, not_true_eq_false, not_false_eq_true, ite_true, ite_false, if_true, if_false, q_iret_0, q_iret_1, decide_true, decide_false, decide_not, zb_t, zb_f, z10, z01, cond_true, cond_false, Bool.and_true, Bool.true_and, Bool.and_false, Bool.false_and, Bool.not_true, Bool.not_false, true_and, and_true, false_and, and_false, true_or, or_true, false_or, or_false, Bool.true_eq_false, Bool.false_eq_true, eq_self, reduceCtorEq, Bool.or_true, Bool.true_or, Bool.or_false, Bool.false_or])
    · have zb' := zb'.trans (eq_true (by omega))
      by_cases hc : c = 0
      · have zc := zc.trans (eq_false (by omega))
        · refine ⟨A, m + 3600, ?_, H, by rw [if_pos hc]; omega⟩
          unfold lw
          clear H HB hi hX hm
          (simp (decide := true) only [e_L_law_p0 sc, e_L_law_p1 sc, e_L_law_p2 sc, e_L_law_p3 sc, e_L_law_p4 sc, e_L_law_p5 sc, e_L_law_p6 sc, lo_iload, lo_lload, lo_aload, lo_istore, lo_lstore, lo_iinc, lo_pushI, lo_pushL, lo_ii, lo_iid, lo_ll, lo_li, lo_lcmp, lo_i2l, lo_dup2, lo_goto, lo_if, lo_icmp, lq_iret_f, lq_iret_1, lq_iret_0, lq_iret_b, lq_lret, lq_bs, lq_bv, lq_bhv, lq_bhx, q_c8_0, q_c8_1, q_c8_2, q_c8_3, q_c8_4, q_set_0, q_set_1i, q_set_1r, q_set_1n, q_set_1N, q_set_s, q_set_1j, q_set_1l, q_set2_0, q_set2_1i, q_set2_1r, q_set2_1n, q_set2_s, q_if, zb_ite, cond_true, cond_false, List.getElem?_cons_zero, List.getElem?_cons_succ, Nat.reduceAdd, g4, za, zb', zc, m3, m2, m25, d3, f0, f2, f3, f4, f5, Nat.add_zero, Int32.reduceLT, Int32.reduceLE, Nat.reduceLeDiff, Nat.zero_le, Nat.le_refl, Nat.zero_add, if_true, if_false, zb_eq0, zb_eq1, zn_1, not_true_eq_false, not_false_eq_true, ite_true, ite_false, if_true, if_false, q_iret_0, q_iret_1, decide_true, decide_false, decide_not, zb_t, zb_f, z10, z01, cond_true, cond_false, Bool.and_true, Bool.true_and, Bool.and_false, Bool.false_and, Bool.not_true, Bool.not_false, true_and, and_true, false_and, and_false, true_or, or_true, false_or, or_false, Bool.true_eq_false, Bool.false_eq_true, eq_self, reduceCtorEq, Bool.or_true, Bool.true_or, Bool.or_false, Bool.false_or])
      · have zc := zc.trans (eq_true (by omega))
        · refine ⟨A, m, ?_, H, by rw [if_neg (show ¬ c = 0 from hc)]; omega⟩
          unfold lw
          clear H HB hi hX hm
          (simp (decide := true) only [e_L_law_p0 sc, e_L_law_p1 sc, e_L_law_p2 sc, e_L_law_p3 sc, e_L_law_p4 sc, e_L_law_p5 sc, e_L_law_p6 sc, lo_iload, lo_lload, lo_aload, lo_istore, lo_lstore, lo_iinc, lo_pushI, lo_pushL, lo_ii, lo_iid, lo_ll, lo_li, lo_lcmp, lo_i2l, lo_dup2, lo_goto, lo_if, lo_icmp, lq_iret_f, lq_iret_1, lq_iret_0, lq_iret_b, lq_lret, lq_bs, lq_bv, lq_bhv, lq_bhx, q_c8_0, q_c8_1, q_c8_2, q_c8_3, q_c8_4, q_set_0, q_set_1i, q_set_1r, q_set_1n, q_set_1N, q_set_s, q_set_1j, q_set_1l, q_set2_0, q_set2_1i, q_set2_1r, q_set2_1n, q_set2_s, q_if, zb_ite, cond_true, cond_false, List.getElem?_cons_zero, List.getElem?_cons_succ, Nat.reduceAdd, za, zb', zc, m3, m2, m25, d3, f0, f2, f3, f4, f5, Nat.add_zero, Int32.reduceLT, Int32.reduceLE, Nat.reduceLeDiff, Nat.zero_le, Nat.le_refl, Nat.zero_add, if_true, if_false, zb_eq0, zb_eq1, zn_1, not_true_eq_false, not_false_eq_true, ite_true, ite_false, if_true, if_false, q_iret_0, q_iret_1, decide_true, decide_false, decide_not, zb_t, zb_f, z10, z01, cond_true, cond_false, Bool.and_true, Bool.true_and, Bool.and_false, Bool.false_and, Bool.not_true, Bool.not_false, true_and, and_true, false_and, and_false, true_or, or_true, false_or, or_false, Bool.true_eq_false, Bool.false_eq_true, eq_self, reduceCtorEq, Bool.or_true, Bool.true_or, Bool.or_false, Bool.false_or])
end
end

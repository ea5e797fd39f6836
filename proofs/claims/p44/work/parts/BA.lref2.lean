section
/-! isRefused, all of it -/
section
variable {A R : zzMd}
theorem l_841_1 (H : Iv A) {X r : Nat} (hX : X < 2147483648) (hr : r < 30) (m30 : zn X - zn X / 30 * 30 = zn r) (N E : Int32) {F : Int32} (hF : F < 0 ∨ 4 ≤ F) (was : Int64) {n : Nat} (hn : n ≤ 1400) : ∀ k, k ≤ nv A 1 → ∃ n' i10 i11 i12, n' ≤ n + 15 * k ∧ lz_ev tL_isRefused 841 [some (.ref 0), some (.int (zn X)), some (.int 1), some (.int N), some (.int E), some (.int F), some (.long was), none, some (.int 1), some (.int 0), none, none, none] [] (A, n) = lz_ev tL_isRefused 841 [some (.ref 0), some (.int (zn X)), some (.int 1), some (.int N), some (.int E), some (.int F), some (.long was), none, some (.int 1), some (.int (zn k)), i10, i11, i12] [] (A, n') := by
  intro k
  have n60 : nv A 1 ≤ 60 := (Lg_n60 H.2.2.1.1).1
  induction k with
  | zero => exact fun _ => ⟨n, none, none, none, Nat.le_refl _, rfl⟩
  | succ k ih =>
    intro hk
    obtain ⟨m, i10, i11, i12, hm, e⟩ := ih (by omega)
    obtain ⟨m', k10, k11, k12, hm', e'⟩ := f_841_1 H hX hr m30 N E hF was (k := k) (n := m) (by omega) (by omega) i10 i11 i12
    exact ⟨m', k10, k11, k12, by omega, e.trans e'⟩
theorem l_841_0 (H : Iv A) {X r : Nat} (hX : X < 2147483648) (hr : r < 30) (m30 : zn X - zn X / 30 * 30 = zn r) (N E : Int32) {F : Int32} (hF : F < 0 ∨ 4 ≤ F) (was : Int64) {n : Nat} (hn : n ≤ 1400) : ∀ k, k ≤ nv A 1 → ∃ n' i10 i11 i12, n' ≤ n + 15 * k ∧ lz_ev tL_isRefused 841 [some (.ref 0), some (.int (zn X)), some (.int 0), some (.int N), some (.int E), some (.int F), some (.long was), none, some (.int 1), some (.int 0), none, none, none] [] (A, n) = lz_ev tL_isRefused 841 [some (.ref 0), some (.int (zn X)), some (.int 0), some (.int N), some (.int E), some (.int F), some (.long was), none, some (.int 1), some (.int (zn k)), i10, i11, i12] [] (A, n') := by
  intro k
  have n60 : nv A 1 ≤ 60 := (Lg_n60 H.2.2.1.1).1
  induction k with
  | zero => exact fun _ => ⟨n, none, none, none, Nat.le_refl _, rfl⟩
  | succ k ih =>
    intro hk
    obtain ⟨m, i10, i11, i12, hm, e⟩ := ih (by omega)
    obtain ⟨m', k10, k11, k12, hm', e'⟩ := f_841_0 H hX hr m30 N E hF was (k := k) (n := m) (by omega) (by omega) i10 i11 i12
    exact ⟨m', k10, k11, k12, by omega, e.trans e'⟩
set_option maxRecDepth 100000 in
set_option maxHeartbeats 8000000 in
theorem w_isRefused (H : Iv A) {X : Nat} (hX : X < 2147483648) : fL_isRefused [.ref 0, .int (zn X)] A = some (some (.int 1), A) := by
  have H' := H
  obtain ⟨hA, ⟨R, HR⟩, I⟩ := H'
  have n60 := rl_n60 HR.1
  have v4 := (Lg_n60 I.1.1).2.1
  obtain ⟨was, aw⟩ := w_all H
  have lx : (lg_cmp was was = 0) = True := by rw [lc_0]; exact eq_true rfl
  have m2 : zn X - zn X / 2 * 2 = zn (X % 2) := zn_md (X := X) (d := 2) hX (by decide)
  have m30 : zn X - zn X / 30 * 30 = zn (X % 30) := zn_md (X := X) (d := 30) hX (by decide)
  have hr : X % 30 < 30 := Nat.mod_lt _ (by decide)
  have h2 : X % 2 < 2 := Nat.mod_lt _ (by decide)
  generalize X % 30 = r at *
  generalize X % 2 = b at *
  have o0 := kV_e (g_objects hA HR)
  have ov := kV_e (g_version hA HR)
  have rr : zn r < zn (r + 1) := (zn_lt (a := r) (b := r + 1) (by omega) (by omega)).mpr (by omega)
  obtain ⟨z1, z2, z3, z4, -, -, -, -, -, -, -, z12, z13⟩ := lo_dec ⟨r, hr⟩
  have l12 : ((12 : Int32) ≤ zn 12) = True := eq_true (by decide)
  have lk : (zn (nv A 1) ≤ zn (nv A 1)) = True := zk_ge n60 (by decide)
  have hb : b = 0 ∨ b = 1 := by omega
  rcases hb with rfl | rfl
  · skip
    have m2 : zn X - zn X / 2 * 2 = 0 := m2
    obtain ⟨a1, a2, a3, a4, a5, a6, a7, a8, a9, a10, a11, a12, a13, a14, a15, a16, a17, a18, a19, a20, a21, a22, a23, a24, a25⟩ := rf_a H (N := (-1 - zn r)) (E := (-1 - zn r)) (F := (-1 - zn r)) (S := (-1 - zn r)) (Q := (-1 - zn r)) (Z := (0 - zn r)) (T := (0 - zn r)) (V := (-1 - zn r)) (U := (0 - zn r)) (r := r) (Or.inl z1) (Or.inl z1) (Or.inl z1) (Or.inl z1) z3 z4 (Or.inl z1) (Or.inl z2) (Or.inl z2) (Or.inl z1) (Or.inl z2) rr
    obtain ⟨b1, b2, b3, b4, b5, b6⟩ := rf_b H (N := (-1 - zn r)) (E := (-1 - zn r)) (P := (-1 - zn r)) (Or.inl z1) (Or.inl z1) z1
    have s1 : lz_ev tL_isRefused 0 [some (.ref 0), some (.int (zn X)), none, none, none, none, none, none, none, none, none, none, none] [] (A, 0) = lz_ev tL_isRefused 688 [some (.ref 0), some (.int (zn X)), some (.int 1), some (.int (-1 - zn r)), some (.int (-1 - zn r)), some (.int (-1 - zn r)), some (.long was), none, some (.int 1), some (.int 0), none, none, none] [] (A, 1345) := by
      clear H HR I
      (simp (decide := true) only [e_L_isRefused_p0, e_L_isRefused_p1, e_L_isRefused_p2, e_L_isRefused_p3, e_L_isRefused_p4, e_L_isRefused_p5, lo_iload, lo_lload, lo_aload, lo_istore, lo_lstore, lo_iinc, lo_pushI, lo_pushL, lo_ii, lo_iid, lo_ll, lo_li, lo_lcmp, lo_i2l, lo_dup2, lo_goto, lo_if, lo_icmp, lq_iret_f, lq_iret_1, lq_iret_0, lq_iret_b, lq_lret, lq_bs, lq_bv, lq_bhv, lq_bhx, q_c8_0, q_c8_1, q_c8_2, q_c8_3, q_c8_4, q_set_0, q_set_1i, q_set_1r, q_set_1n, q_set_1N, q_set_s, q_set_1j, q_set_1l, q_set2_0, q_set2_1i, q_set2_1r, q_set2_1n, q_set2_s, q_if, zb_ite, cond_true, cond_false, List.getElem?_cons_zero, List.getElem?_cons_succ, Nat.reduceAdd, c8_6, m2, m30, o0, ov, aw, a1, a2, a3, a4, a5, a6, a7, a8, a9, a10, a11, a12, a13, a14, a15, a16, a17, a18, a19, a20, a21, a22, a23, a24, a25, Int32.reduceLT, Int32.reduceLE, Nat.reduceLeDiff, Nat.zero_le, Nat.le_refl, Nat.zero_add, if_true, if_false, zb_eq0, zb_eq1, zn_1, not_true_eq_false, not_false_eq_true, ite_true, ite_false, if_true, if_false, q_iret_0, q_iret_1, decide_true, decide_false, decide_not, zb_t, zb_f, z10, z01, cond_true, cond_false, Bool.and_true, Bool.true_and, Bool.and_false, Bool.false_and, Bool.not_true, Bool.not_false, true_and, and_true, false_and, and_false, true_or, or_true, false_or, or_false, Bool.true_eq_false, Bool.false_eq_true, eq_self, reduceCtorEq, Bool.or_true, Bool.true_or, Bool.or_false, Bool.false_or])
    clear a1 a2 a3 a4 a5 a6 a7 a8 a9 a10 a11 a12 a13 a14 a15 a16 a17 a18 a19 a20 a21 a22 a23 a24 a25
    have s2 := f_688 H (Or.inl z1) (zn X) 1 (-1 - zn r) (-1 - zn r) was (n := 1345) (by decide) 12 (Nat.le_refl _)
    have s3 : lz_ev tL_isRefused 688 [some (.ref 0), some (.int (zn X)), some (.int 1), some (.int (-1 - zn r)), some (.int (-1 - zn r)), some (.int (-1 - zn r)), some (.long was), none, some (.int 1), some (.int (zn 12)), none, none, none] [] (A, 1345 + 12) = lz_ev tL_isRefused 841 [some (.ref 0), some (.int (zn X)), some (.int 1), some (.int (-1 - zn r)), some (.int (-1 - zn r)), some (.int (-1 - zn r)), some (.long was), none, some (.int 1), some (.int 0), none, none, none] [] (A, 1363) := by
      clear H HR I s1 s2
      (rw [e_L_isRefused_688]; simp (decide := true) only [e_L_isRefused_p0, e_L_isRefused_p1, e_L_isRefused_p2, e_L_isRefused_p3, e_L_isRefused_p4, e_L_isRefused_p5, lo_iload, lo_lload, lo_aload, lo_istore, lo_lstore, lo_iinc, lo_pushI, lo_pushL, lo_ii, lo_iid, lo_ll, lo_li, lo_lcmp, lo_i2l, lo_dup2, lo_goto, lo_if, lo_icmp, lq_iret_f, lq_iret_1, lq_iret_0, lq_iret_b, lq_lret, lq_bs, lq_bv, lq_bhv, lq_bhx, q_c8_0, q_c8_1, q_c8_2, q_c8_3, q_c8_4, q_set_0, q_set_1i, q_set_1r, q_set_1n, q_set_1N, q_set_s, q_set_1j, q_set_1l, q_set2_0, q_set2_1i, q_set2_1r, q_set2_1n, q_set2_s, q_if, zb_ite, cond_true, cond_false, List.getElem?_cons_zero, List.getElem?_cons_succ, Nat.reduceAdd, l12, m30, b1, b2, b3, b4, b5, b6, Int32.reduceLT, Int32.reduceLE, Nat.reduceLeDiff, Nat.zero_le, Nat.le_refl, Nat.zero_add, if_true, if_false, zb_eq0, zb_eq1, zn_1, not_true_eq_false, not_false_eq_true, ite_true, ite_false, if_true, if_false, q_iret_0, q_iret_1, decide_true, decide_false, decide_not, zb_t, zb_f, z10, z01, cond_true, cond_false, Bool.and_true, Bool.true_and, Bool.and_false, Bool.false_and, Bool.not_true, Bool.not_false, true_and, and_true, false_and, and_false, true_or, or_true, false_or, or_false, Bool.true_eq_false, Bool.false_eq_true, eq_self, reduceCtorEq, Bool.or_true, Bool.true_or, Bool.or_false, Bool.false_or])
    obtain ⟨n', i10, i11, i12, hn, s4⟩ := l_841_1 H hX hr m30 (-1 - zn r) (-1 - zn r) (F := (-1 - zn r)) (Or.inl z1) was (n := 1363) (by decide) (nv A 1) (Nat.le_refl _)
    have f1 : (n' ≤ 3600) = True := eq_true (by omega)
    have f2 : (n' + 1320 ≤ 3600) = True := eq_true (by omega)
    have s5 : lz_ev tL_isRefused 841 [some (.ref 0), some (.int (zn X)), some (.int 1), some (.int (-1 - zn r)), some (.int (-1 - zn r)), some (.int (-1 - zn r)), some (.long was), none, some (.int 1), some (.int (zn (nv A 1))), i10, i11, i12] [] (A, n') = some (some (.int 1), (A, n' + 1320)) := by
      clear H HR I s1 s2 s3 s4
      (rw [e_L_isRefused_841]; simp (decide := true) only [e_L_isRefused_p0, e_L_isRefused_p1, e_L_isRefused_p2, e_L_isRefused_p3, e_L_isRefused_p4, e_L_isRefused_p5, lo_iload, lo_lload, lo_aload, lo_istore, lo_lstore, lo_iinc, lo_pushI, lo_pushL, lo_ii, lo_iid, lo_ll, lo_li, lo_lcmp, lo_i2l, lo_dup2, lo_goto, lo_if, lo_icmp, lq_iret_f, lq_iret_1, lq_iret_0, lq_iret_b, lq_lret, lq_bs, lq_bv, lq_bhv, lq_bhx, q_c8_0, q_c8_1, q_c8_2, q_c8_3, q_c8_4, q_set_0, q_set_1i, q_set_1r, q_set_1n, q_set_1N, q_set_s, q_set_1j, q_set_1l, q_set2_0, q_set2_1i, q_set2_1r, q_set2_1n, q_set2_s, q_if, zb_ite, cond_true, cond_false, List.getElem?_cons_zero, List.getElem?_cons_succ, Nat.reduceAdd, lk, f1, f2, o0, aw, lx, Int32.reduceLT, Int32.reduceLE, Nat.reduceLeDiff, Nat.zero_le, Nat.le_refl, Nat.zero_add, if_true, if_false, zb_eq0, zb_eq1, zn_1, not_true_eq_false, not_false_eq_true, ite_true, ite_false, if_true, if_false, q_iret_0, q_iret_1, decide_true, decide_false, decide_not, zb_t, zb_f, z10, z01, cond_true, cond_false, Bool.and_true, Bool.true_and, Bool.and_false, Bool.false_and, Bool.not_true, Bool.not_false, true_and, and_true, false_and, and_false, true_or, or_true, false_or, or_false, Bool.true_eq_false, Bool.false_eq_true, eq_self, reduceCtorEq, Bool.or_true, Bool.true_or, Bool.or_false, Bool.false_or])
    exact s_L_isRefused _ _ (s1.trans (s2.trans (s3.trans (s4.trans s5))))
  · skip
    have hN : zn (nv A 1) + zn r < 0 ∨ zn (nv A 1) ≤ zn (nv A 1) + zn r := Or.inr (by
      rw [zn_add]
      exact (zn_le (a := nv A 1) (b := nv A 1 + r) (by omega) (by omega)).mpr (Nat.le_add_right _ _))
    have hV : zn (ve A 1 + 1) < 0 ∨ zn (ve A 1) < zn (ve A 1 + 1) := Or.inr ((zn_lt (a := ve A 1) (b := ve A 1 + 1) (by omega) (by omega)).mpr (by omega))
    have m2 : zn X - zn X / 2 * 2 = 1 := m2
    obtain ⟨a1, a2, a3, a4, a5, a6, a7, a8, a9, a10, a11, a12, a13, a14, a15, a16, a17, a18, a19, a20, a21, a22, a23, a24, a25⟩ := rf_a H (N := (zn (nv A 1) + zn r)) (E := (8 + zn r)) (F := (4 + zn r)) (S := 6) (Q := 61) (Z := 401) (T := 11) (V := (zn (ve A 1 + 1))) (U := 101) (r := r) hN (Or.inr z12) (Or.inr z13) (Or.inr (by decide)) (by decide) (by decide) (Or.inr (by decide)) (Or.inr (by decide)) (Or.inr (by decide)) hV (Or.inr (by decide)) rr
    obtain ⟨b1, b2, b3, b4, b5, b6⟩ := rf_b H (N := (zn (nv A 1) + zn r)) (E := (8 + zn r)) (P := (-1 - zn r)) hN (Or.inr z12) z1
    have s1 : lz_ev tL_isRefused 0 [some (.ref 0), some (.int (zn X)), none, none, none, none, none, none, none, none, none, none, none] [] (A, 0) = lz_ev tL_isRefused 688 [some (.ref 0), some (.int (zn X)), some (.int 0), some (.int (zn (nv A 1) + zn r)), some (.int (8 + zn r)), some (.int (4 + zn r)), some (.long was), none, some (.int 1), some (.int 0), none, none, none] [] (A, 1345) := by
      clear H HR I
      (simp (decide := true) only [e_L_isRefused_p0, e_L_isRefused_p1, e_L_isRefused_p2, e_L_isRefused_p3, e_L_isRefused_p4, e_L_isRefused_p5, lo_iload, lo_lload, lo_aload, lo_istore, lo_lstore, lo_iinc, lo_pushI, lo_pushL, lo_ii, lo_iid, lo_ll, lo_li, lo_lcmp, lo_i2l, lo_dup2, lo_goto, lo_if, lo_icmp, lq_iret_f, lq_iret_1, lq_iret_0, lq_iret_b, lq_lret, lq_bs, lq_bv, lq_bhv, lq_bhx, q_c8_0, q_c8_1, q_c8_2, q_c8_3, q_c8_4, q_set_0, q_set_1i, q_set_1r, q_set_1n, q_set_1N, q_set_s, q_set_1j, q_set_1l, q_set2_0, q_set2_1i, q_set2_1r, q_set2_1n, q_set2_s, q_if, zb_ite, cond_true, cond_false, List.getElem?_cons_zero, List.getElem?_cons_succ, Nat.reduceAdd, c8_6, m2, m30, o0, ov, aw, a1, a2, a3, a4, a5, a6, a7, a8, a9, a10, a11, a12, a13, a14, a15, a16, a17, a18, a19, a20, a21, a22, a23, a24, a25, Int32.reduceLT, Int32.reduceLE, Nat.reduceLeDiff, Nat.zero_le, Nat.le_refl, Nat.zero_add, if_true, if_false, zb_eq0, zb_eq1, zn_1, not_true_eq_false, not_false_eq_true, ite_true, ite_false, if_true, if_false, q_iret_0, q_iret_1, decide_true, decide_false, decide_not, zb_t, zb_f, z10, z01, cond_true, cond_false, Bool.and_true, Bool.true_and, Bool.and_false, Bool.false_and, Bool.not_true, Bool.not_false, true_and, and_true, false_and, and_false, true_or, or_true, false_or, or_false, Bool.true_eq_false, Bool.false_eq_true, eq_self, reduceCtorEq, Bool.or_true, Bool.true_or, Bool.or_false, Bool.false_or])
    clear a1 a2 a3 a4 a5 a6 a7 a8 a9 a10 a11 a12 a13 a14 a15 a16 a17 a18 a19 a20 a21 a22 a23 a24 a25
    have s2 := f_688 H hN (zn X) 0 (8 + zn r) (4 + zn r) was (n := 1345) (by decide) 12 (Nat.le_refl _)
    have s3 : lz_ev tL_isRefused 688 [some (.ref 0), some (.int (zn X)), some (.int 0), some (.int (zn (nv A 1) + zn r)), some (.int (8 + zn r)), some (.int (4 + zn r)), some (.long was), none, some (.int 1), some (.int (zn 12)), none, none, none] [] (A, 1345 + 12) = lz_ev tL_isRefused 841 [some (.ref 0), some (.int (zn X)), some (.int 0), some (.int (zn (nv A 1) + zn r)), some (.int (8 + zn r)), some (.int (4 + zn r)), some (.long was), none, some (.int 1), some (.int 0), none, none, none] [] (A, 1363) := by
      clear H HR I s1 s2
      (rw [e_L_isRefused_688]; simp (decide := true) only [e_L_isRefused_p0, e_L_isRefused_p1, e_L_isRefused_p2, e_L_isRefused_p3, e_L_isRefused_p4, e_L_isRefused_p5, lo_iload, lo_lload, lo_aload, lo_istore, lo_lstore, lo_iinc, lo_pushI, lo_pushL, lo_ii, lo_iid, lo_ll, lo_li, lo_lcmp, lo_i2l, lo_dup2, lo_goto, lo_if, lo_icmp, lq_iret_f, lq_iret_1, lq_iret_0, lq_iret_b, lq_lret, lq_bs, lq_bv, lq_bhv, lq_bhx, q_c8_0, q_c8_1, q_c8_2, q_c8_3, q_c8_4, q_set_0, q_set_1i, q_set_1r, q_set_1n, q_set_1N, q_set_s, q_set_1j, q_set_1l, q_set2_0, q_set2_1i, q_set2_1r, q_set2_1n, q_set2_s, q_if, zb_ite, cond_true, cond_false, List.getElem?_cons_zero, List.getElem?_cons_succ, Nat.reduceAdd, l12, m30, b1, b2, b3, b4, b5, b6, Int32.reduceLT, Int32.reduceLE, Nat.reduceLeDiff, Nat.zero_le, Nat.le_refl, Nat.zero_add, if_true, if_false, zb_eq0, zb_eq1, zn_1, not_true_eq_false, not_false_eq_true, ite_true, ite_false, if_true, if_false, q_iret_0, q_iret_1, decide_true, decide_false, decide_not, zb_t, zb_f, z10, z01, cond_true, cond_false, Bool.and_true, Bool.true_and, Bool.and_false, Bool.false_and, Bool.not_true, Bool.not_false, true_and, and_true, false_and, and_false, true_or, or_true, false_or, or_false, Bool.true_eq_false, Bool.false_eq_true, eq_self, reduceCtorEq, Bool.or_true, Bool.true_or, Bool.or_false, Bool.false_or])
    obtain ⟨n', i10, i11, i12, hn, s4⟩ := l_841_0 H hX hr m30 (zn (nv A 1) + zn r) (8 + zn r) (F := (4 + zn r)) (Or.inr z13) was (n := 1363) (by decide) (nv A 1) (Nat.le_refl _)
    have f1 : (n' ≤ 3600) = True := eq_true (by omega)
    have f2 : (n' + 1320 ≤ 3600) = True := eq_true (by omega)
    have s5 : lz_ev tL_isRefused 841 [some (.ref 0), some (.int (zn X)), some (.int 0), some (.int (zn (nv A 1) + zn r)), some (.int (8 + zn r)), some (.int (4 + zn r)), some (.long was), none, some (.int 1), some (.int (zn (nv A 1))), i10, i11, i12] [] (A, n') = some (some (.int 1), (A, n' + 1320)) := by
      clear H HR I s1 s2 s3 s4
      (rw [e_L_isRefused_841]; simp (decide := true) only [e_L_isRefused_p0, e_L_isRefused_p1, e_L_isRefused_p2, e_L_isRefused_p3, e_L_isRefused_p4, e_L_isRefused_p5, lo_iload, lo_lload, lo_aload, lo_istore, lo_lstore, lo_iinc, lo_pushI, lo_pushL, lo_ii, lo_iid, lo_ll, lo_li, lo_lcmp, lo_i2l, lo_dup2, lo_goto, lo_if, lo_icmp, lq_iret_f, lq_iret_1, lq_iret_0, lq_iret_b, lq_lret, lq_bs, lq_bv, lq_bhv, lq_bhx, q_c8_0, q_c8_1, q_c8_2, q_c8_3, q_c8_4, q_set_0, q_set_1i, q_set_1r, q_set_1n, q_set_1N, q_set_s, q_set_1j, q_set_1l, q_set2_0, q_set2_1i, q_set2_1r, q_set2_1n, q_set2_s, q_if, zb_ite, cond_true, cond_false, List.getElem?_cons_zero, List.getElem?_cons_succ, Nat.reduceAdd, lk, f1, f2, o0, aw, lx, Int32.reduceLT, Int32.reduceLE, Nat.reduceLeDiff, Nat.zero_le, Nat.le_refl, Nat.zero_add, if_true, if_false, zb_eq0, zb_eq1, zn_1, not_true_eq_false, not_false_eq_true, ite_true, ite_false, if_true, if_false, q_iret_0, q_iret_1, decide_true, decide_false, decide_not, zb_t, zb_f, z10, z01, cond_true, cond_false, Bool.and_true, Bool.true_and, Bool.and_false, Bool.false_and, Bool.not_true, Bool.not_false, true_and, and_true, false_and, and_false, true_or, or_true, false_or, or_false, Bool.true_eq_false, Bool.false_eq_true, eq_self, reduceCtorEq, Bool.or_true, Bool.true_or, Bool.or_false, Bool.false_or])
    exact s_L_isRefused _ _ (s1.trans (s2.trans (s3.trans (s4.trans s5))))
end
end

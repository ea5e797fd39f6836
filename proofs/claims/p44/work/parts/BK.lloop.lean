section
/-! the law's loop -/
section
variable {A B R : zzMd}
set_option maxHeartbeats 2000000 in
theorem disp (sc : List Int32) {least : Int32} {t m V hw : Nat} (H : LI A least t) (hV : V < 2147483648) (hh : hw < 32) (hv : ve A 1 < 300) (hm : m + 2641 ≤ 727906) (h12 : t + 12 ≤ 10000) (ni x ob kd : Int32) (hob : 0 < nv A 1 → ob = zn (V % nv A 1) ∧ kd = row A (V % nv A 1) 23) (j13 j14 j15 j16 j17 j18 j19 j20 : Option Value) : Bd sc ni x (zn V) (zn hw) (zn (nv A 1)) ob kd (zn (ve A 1)) m t (lz_ev (tL_law sc) 140 [some (.ref 1004), some (.ref 0), some (.ref 73), some (.ref 74), some (.int least), some (.int 1), some (.int ni), some (.int x), some (.int (zn V)), some (.int (zn hw)), some (.int (zn (nv A 1))), some (.int ob), some (.int kd), j13, j14, j15, j16, j17, j18, j19, j20] [.int (zn (ve A 1))] (A, m)) := by
  have n60 : nv A 1 ≤ 60 := by
    obtain ⟨⟨_, ⟨R, HR⟩, _⟩, -⟩ := H
    exact rl_n60 HR.1
  by_cases n3 : nv A 1 < 3
  · rw [di_n sc least ni x ob kd (zn (ve A 1)) j13 j14 j15 j16 j17 j18 j19 j20 (A, m) n60 n3]
    exact b_make sc H hV (by omega) hv hm ni x (zn hw) ob kd j14 j15 j16 j17 j18 j19 j20
  have n3' : 3 ≤ nv A 1 := by omega
  obtain ⟨e1, e2⟩ := hob (by omega)
  have ho : V % nv A 1 < nv A 1 := Nat.mod_lt _ (by omega)
  have m3 : zn V - zn V / 3 * 3 = zn (V % 3) := zn_md (X := V) (d := 3) hV (by decide)
  have l3 : V % 3 < 3 := Nat.mod_lt _ (by decide)
  subst e1
  subst e2
  generalize V % nv A 1 = o at *
  generalize V % 3 = u at *
  rcases (show hw < 3 ∨ (3 ≤ hw ∧ hw ≤ 8) ∨ hw = 9 ∨ hw = 10 ∨ hw = 11 ∨ hw = 12 ∨ hw = 13 ∨ hw = 14 ∨ hw = 15 ∨ hw = 16 ∨ hw = 17 ∨ (18 ≤ hw ∧ hw ≤ 24) ∨ 25 ≤ hw by omega) with c | c | c | c | c | c | c | c | c | c | c | c | c
  · by_cases n16 : nv A 1 < 16
    · rw [di_m sc least ni x (zn o) (row A o 23) (zn (ve A 1)) j13 j14 j15 j16 j17 j18 j19 j20 (A, m) n60 (by omega) (by omega) n3' n16]
      exact b_make sc H hV n16 hv hm ni x (zn hw) (zn o) (row A o 23) j14 j15 j16 j17 j18 j19 j20
    · rw [di_a sc least ni x (zn o) (row A o 23) (zn (ve A 1)) j13 j14 j15 j16 j17 j18 j19 j20 (A, m) n60 (by omega) (by omega) n3' (by omega)]
      exact b_apply sc H hV ho hv hm ni x (zn hw) j14 j15 j16 j17 j18 j19 j20
  · rw [di_b sc least ni x (zn o) (row A o 23) (zn (ve A 1)) j13 j14 j15 j16 j17 j18 j19 j20 (A, m) n60 (by omega) (by omega) n3']
    exact b_apply sc H hV ho hv hm ni x (zn hw) j14 j15 j16 j17 j18 j19 j20
  · rw [di_9 sc least ni x (zn o) (row A o 23) (zn (ve A 1)) j13 j14 j15 j16 j17 j18 j19 j20 (A, m) n60 (by omega) (by omega) n3']
    exact b_del sc H hV ho hv hm ni x (zn hw) j14 j15 j16 j17 j18 j19 j20
  · rw [di_10 sc least ni x (zn o) (row A o 23) (zn (ve A 1)) j13 j14 j15 j16 j17 j18 j19 j20 (A, m) n60 (by omega) (by omega) n3']
    exact b_hold sc H hV ho hv hm ni x (zn hw) j14 j15 j16 j17 j18 j19 j20
  · by_cases k2 : row A o 23 = 2
    · rw [di_11 sc least ni x (zn o) (row A o 23) (zn (ve A 1)) j13 j14 j15 j16 j17 j18 j19 j20 (A, m) n60 (by omega) (by omega) n3' (eq_true k2)]
      exact b_fin sc H hV ho hv hm ni x (zn hw) j14 j15 j16 j17 j18 j19 j20 k2
    · rw [di_11n sc least ni x (zn o) (row A o 23) (zn (ve A 1)) j13 j14 j15 j16 j17 j18 j19 j20 (A, m) n60 (by omega) (by omega) n3' (eq_false k2)]
      exact b_see sc H hV ho hv hm ni x (zn hw) j14 j15 j16 j17 j18 j19 j20
  · rw [di_12 sc least ni x (zn o) (row A o 23) (zn (ve A 1)) j13 j14 j15 j16 j17 j18 j19 j20 (A, m) n60 (by omega) (by omega) n3']
    exact b_rest sc H hV ho hv hm ni x (zn hw) j14 j15 j16 j17 j18 j19 j20 h12
  · rw [di_13 sc least ni x (zn o) (row A o 23) (zn (ve A 1)) j13 j14 j15 j16 j17 j18 j19 j20 (A, m) n60 (by omega) (by omega) n3']
    exact b_next sc H hV ho hv hm ni x (zn hw) j14 j15 j16 j17 j18 j19 j20
  · rw [di_14 sc least ni x (zn o) (row A o 23) (zn (ve A 1)) j13 j14 j15 j16 j17 j18 j19 j20 (A, m) n60 (by omega) (by omega) n3']
    exact b_watch sc H hV ho hv hm ni x (zn hw) j14 j15 j16 j17 j18 j19 j20
  · by_cases u0 : u = 0
    · rw [di_15 sc least ni x (zn o) (row A o 23) (zn (ve A 1)) j13 j14 j15 j16 j17 j18 j19 j20 (A, m) n60 (by omega) (by omega) n3' (m3.trans (by rw [u0]; rfl))]
      exact b_comp sc H hV ho hv hm ni x (zn hw) j14 j15 j16 j17 j18 j19 j20
    · rw [di_15n sc least ni x (zn o) (row A o 23) (zn (ve A 1)) j13 j14 j15 j16 j17 j18 j19 j20 (A, m) n60 (by omega) (by omega) n3' u m3 ((zn_inj (a := u) (b := 0) (by omega) (by decide)).trans (eq_false u0))]
      exact b_list sc H hV ho hv hm ni x (zn hw) j14 j15 j16 j17 j18 j19 j20
  · rw [di_16 sc least ni x (zn o) (row A o 23) (zn (ve A 1)) j13 j14 j15 j16 j17 j18 j19 j20 (A, m) n60 (by omega) (by omega) n3']
    exact b_tick sc H hV ho hv hm ni x (zn hw) j14 j15 j16 j17 j18 j19 j20 h12
  · by_cases k4 : row A o 23 = 4
    · rw [di_17 sc least ni x (zn o) (row A o 23) (zn (ve A 1)) j13 j14 j15 j16 j17 j18 j19 j20 (A, m) n60 (by omega) (by omega) n3' (eq_true k4)]
      exact b_beat sc H hV ho hv hm ni x (zn hw) j14 j15 j16 j17 j18 j19 j20 k4
    · rw [di_17n sc least ni x (zn o) (row A o 23) (zn (ve A 1)) j13 j14 j15 j16 j17 j18 j19 j20 (A, m) n60 (by omega) (by omega) n3' (eq_false k4)]
      exact b_see sc H hV ho hv hm ni x (zn hw) j14 j15 j16 j17 j18 j19 j20
  · rw [di_18 sc least ni x (zn o) (row A o 23) (zn (ve A 1)) j13 j14 j15 j16 j17 j18 j19 j20 (A, m) n60 (by omega) (by omega) n3']
    exact b_see sc H hV ho hv hm ni x (zn hw) j14 j15 j16 j17 j18 j19 j20
  · rw [di_25 sc least ni x (zn o) (row A o 23) (zn (ve A 1)) j13 j14 j15 j16 j17 j18 j19 j20 (A, m) n60 (by omega) (by omega) n3']
    exact b_work sc H hV ho hv hm ni x (zn hw) j14 j15 j16 j17 j18 j19 j20
set_option maxRecDepth 100000 in
set_option maxHeartbeats 2000000 in
theorem l_end (sc : List Int32) {least : Int32} {t m : Nat} (H : LI A least t) (hm : m + 1322 ≤ 727906) (ni : Int32) (j7 j8 j9 j10 j11 j12 j13 j14 j15 j16 j17 j18 j19 j20 : Option Value) : ∃ B m', lz_ev (tL_law sc) 1788 [some (.ref 1004), some (.ref 0), some (.ref 73), some (.ref 74), some (.int least), some (.int 1), some (.int ni), j7, j8, j9, j10, j11, j12, j13, j14, j15, j16, j17, j18, j19, j20] [] (A, m) = some (some (.int 1), (B, m')) := by
  obtain ⟨B, e1, W⟩ := w_areVersions H.1
  have HB := LI_73 H W
  have e2 := w_areObjects HB.1
  have e3 := w_areQueues HB.1
  have f0 : (m ≤ 727906) = True := eq_true (by omega)
  have f2 : (m + 2 ≤ 727906) = True := eq_true (by omega)
  have f3 : (m + 2 + 1320 ≤ 727906) = True := eq_true (by omega)
  refine ⟨B, m + 2 + 1320, ?_⟩
  clear H HB W hm
  (simp (decide := true) only [e_L_law_p0 sc, e_L_law_p1 sc, e_L_law_p2 sc, e_L_law_p3 sc, e_L_law_p4 sc, e_L_law_p5 sc, e_L_law_p6 sc, lo_iload, lo_lload, lo_aload, lo_istore, lo_lstore, lo_iinc, lo_pushI, lo_pushL, lo_ii, lo_iid, lo_ll, lo_li, lo_lcmp, lo_i2l, lo_dup2, lo_goto, lo_if, lo_icmp, lq_iret_f, lq_iret_1, lq_iret_0, lq_iret_b, lq_lret, lq_bs, lq_bv, lq_bhv, lq_bhx, q_c8_0, q_c8_1, q_c8_2, q_c8_3, q_c8_4, q_set_0, q_set_1i, q_set_1r, q_set_1n, q_set_1N, q_set_s, q_set_1j, q_set_1l, q_set2_0, q_set2_1i, q_set2_1r, q_set2_1n, q_set2_s, q_if, zb_ite, cond_true, cond_false, List.getElem?_cons_zero, List.getElem?_cons_succ, Nat.reduceAdd, e1, e2, e3, f0, f2, f3, Nat.add_zero, Int32.reduceLT, Int32.reduceLE, Nat.reduceLeDiff, Nat.zero_le, Nat.le_refl, Nat.zero_add, if_true, if_false, zb_eq0, zb_eq1, zn_1, not_true_eq_false, not_false_eq_true, ite_true, ite_false, if_true, if_false, q_iret_0, q_iret_1, decide_true, decide_false, decide_not, zb_t, zb_f, z10, z01, cond_true, cond_false, Bool.and_true, Bool.true_and, Bool.and_false, Bool.false_and, Bool.not_true, Bool.not_false, true_and, and_true, false_and, and_false, true_or, or_true, false_or, or_false, Bool.true_eq_false, Bool.false_eq_true, eq_self, reduceCtorEq, Bool.or_true, Bool.true_or, Bool.or_false, Bool.false_or])
set_option maxRecDepth 100000 in
set_option maxHeartbeats 2000000 in
theorem l_out (sc : List Int32) {least : Int32} {t m i : Nat} (H : LI A least t) (hm : m ≤ 727906) (hi : i ≤ 110) (h : i = 110 ∨ (i < 110 ∧ 300 ≤ ve A 1)) (j7 j8 j9 j10 j11 j12 j13 j14 j15 j16 j17 j18 j19 j20 : Option Value) : lz_ev (tL_law sc) 53 [some (.ref 1004), some (.ref 0), some (.ref 73), some (.ref 74), some (.int least), some (.int 1), some (.int (zn i)), j7, j8, j9, j10, j11, j12, j13, j14, j15, j16, j17, j18, j19, j20] [] (A, m) = lz_ev (tL_law sc) 1788 [some (.ref 1004), some (.ref 0), some (.ref 73), some (.ref 74), some (.int least), some (.int 1), some (.int (zn i)), j7, j8, j9, j10, j11, j12, j13, j14, j15, j16, j17, j18, j19, j20] [] (A, m) := by
  obtain ⟨⟨hA, ⟨R, HR⟩, I⟩, -⟩ := H
  have v4 := (Lg_n60 I.1.1).2.1
  have f0 : (m ≤ 727906) = True := eq_true hm
  have o1 := kV_e (g_version hA HR)
  generalize hZ : lz_ev (tL_law sc) 1788 [some (.ref 1004), some (.ref 0), some (.ref 73), some (.ref 74), some (.int least), some (.int 1), some (.int (zn i)), j7, j8, j9, j10, j11, j12, j13, j14, j15, j16, j17, j18, j19, j20] [] (A, m) = Z
  rcases h with h | ⟨h1, h2⟩
  · have c1 : ((110 : Int32) ≤ zn i) = True := (zn_le (a := 110) (b := i) (by decide) (by omega)).trans (eq_true (by omega))
    clear HR I h hi v4
    (rw [e_L_law_53]; simp (decide := true) only [e_L_law_p0 sc, e_L_law_p1 sc, e_L_law_p2 sc, e_L_law_p3 sc, e_L_law_p4 sc, e_L_law_p5 sc, e_L_law_p6 sc, lo_iload, lo_lload, lo_aload, lo_istore, lo_lstore, lo_iinc, lo_pushI, lo_pushL, lo_ii, lo_iid, lo_ll, lo_li, lo_lcmp, lo_i2l, lo_dup2, lo_goto, lo_if, lo_icmp, lq_iret_f, lq_iret_1, lq_iret_0, lq_iret_b, lq_lret, lq_bs, lq_bv, lq_bhv, lq_bhx, q_c8_0, q_c8_1, q_c8_2, q_c8_3, q_c8_4, q_set_0, q_set_1i, q_set_1r, q_set_1n, q_set_1N, q_set_s, q_set_1j, q_set_1l, q_set2_0, q_set2_1i, q_set2_1r, q_set2_1n, q_set2_s, q_if, zb_ite, cond_true, cond_false, List.getElem?_cons_zero, List.getElem?_cons_succ, Nat.reduceAdd, ↓hZ, c1, f0, Int32.reduceLT, Int32.reduceLE, Nat.reduceLeDiff, Nat.zero_le, Nat.le_refl, Nat.zero_add, if_true, if_false, zb_eq0, zb_eq1, zn_1, not_true_eq_false, not_false_eq_true, ite_true, ite_false, if_true, if_false, q_iret_0, q_iret_1, decide_true, decide_false, decide_not, zb_t, zb_f, z10, z01, cond_true, cond_false, Bool.and_true, Bool.true_and, Bool.and_false, Bool.false_and, Bool.not_true, Bool.not_false, true_and, and_true, false_and, and_false, true_or, or_true, false_or, or_false, Bool.true_eq_false, Bool.false_eq_true, eq_self, reduceCtorEq, Bool.or_true, Bool.true_or, Bool.or_false, Bool.false_or])
  · have c1 : ((110 : Int32) ≤ zn i) = False := (zn_le (a := 110) (b := i) (by decide) (by omega)).trans (eq_false (by omega))
    have c2 : ((300 : Int32) ≤ zn (ve A 1)) = True := (zn_le (a := 300) (b := ve A 1) (by decide) (by omega)).trans (eq_true (by omega))
    clear HR I h1 h2 hi v4
    (rw [e_L_law_53]; simp (decide := true) only [e_L_law_p0 sc, e_L_law_p1 sc, e_L_law_p2 sc, e_L_law_p3 sc, e_L_law_p4 sc, e_L_law_p5 sc, e_L_law_p6 sc, lo_iload, lo_lload, lo_aload, lo_istore, lo_lstore, lo_iinc, lo_pushI, lo_pushL, lo_ii, lo_iid, lo_ll, lo_li, lo_lcmp, lo_i2l, lo_dup2, lo_goto, lo_if, lo_icmp, lq_iret_f, lq_iret_1, lq_iret_0, lq_iret_b, lq_lret, lq_bs, lq_bv, lq_bhv, lq_bhx, q_c8_0, q_c8_1, q_c8_2, q_c8_3, q_c8_4, q_set_0, q_set_1i, q_set_1r, q_set_1n, q_set_1N, q_set_s, q_set_1j, q_set_1l, q_set2_0, q_set2_1i, q_set2_1r, q_set2_1n, q_set2_s, q_if, zb_ite, cond_true, cond_false, List.getElem?_cons_zero, List.getElem?_cons_succ, Nat.reduceAdd, ↓hZ, o1, c1, c2, f0, Int32.reduceLT, Int32.reduceLE, Nat.reduceLeDiff, Nat.zero_le, Nat.le_refl, Nat.zero_add, if_true, if_false, zb_eq0, zb_eq1, zn_1, not_true_eq_false, not_false_eq_true, ite_true, ite_false, if_true, if_false, q_iret_0, q_iret_1, decide_true, decide_false, decide_not, zb_t, zb_f, z10, z01, cond_true, cond_false, Bool.and_true, Bool.true_and, Bool.and_false, Bool.false_and, Bool.not_true, Bool.not_false, true_and, and_true, false_and, and_false, true_or, or_true, false_or, or_false, Bool.true_eq_false, Bool.false_eq_true, eq_self, reduceCtorEq, Bool.or_true, Bool.true_or, Bool.or_false, Bool.false_or])
set_option maxRecDepth 100000 in
theorem l_ar {i m m1 m2 : Nat} (hm : m ≤ 12000 + 3963 * i + 3600 * ((i + 24) / 25)) (h1 : m1 ≤ m + 2641) (h2 : m2 ≤ m1 + 1322 + (if i % 25 = 0 then 3600 else 0)) : m2 ≤ 12000 + 3963 * (i + 1) + 3600 * ((i + 1 + 24) / 25) := by
  have e1 : (i + 1 + 24) / 25 = i / 25 + 1 := by omega
  rw [e1]
  clear e1
  by_cases c : i % 25 = 0
  · have e2 : (i + 24) / 25 = i / 25 := by clear hm h1 h2; omega
    rw [if_pos c] at h2
    rw [e2] at hm
    clear e2 c
    generalize i / 25 = q at *
    omega
  · have e2 : (i + 24) / 25 = i / 25 + 1 := by clear hm h1 h2; omega
    rw [if_neg c] at h2
    rw [e2] at hm
    clear e2 c
    generalize i / 25 = q at *
    omega
set_option maxHeartbeats 2000000 in
theorem l_53 (sc : List Int32) (hl : sc.length < 2147483648) : ∀ (d i : Nat), i + d = 110 → ∀ (A : zzMd) (m : Nat) (least : Int32) (t : Nat) (j7 j8 j9 j10 j11 j12 j13 j14 j15 j16 j17 j18 j19 j20 : Option Value), LI A least t → t ≤ 12 * i → m ≤ 12000 + 3963 * i + 3600 * ((i + 24) / 25) → ∃ B m', lz_ev (tL_law sc) 53 [some (.ref 1004), some (.ref 0), some (.ref 73), some (.ref 74), some (.int least), some (.int 1), some (.int (zn i)), j7, j8, j9, j10, j11, j12, j13, j14, j15, j16, j17, j18, j19, j20] [] (A, m) = some (some (.int 1), (B, m')) := by
  intro d
  induction d with
  | zero =>
    intro i hi A m least t j7 j8 j9 j10 j11 j12 j13 j14 j15 j16 j17 j18 j19 j20 H ht hm
    rw [l_out sc H (by omega) (by omega) (Or.inl (by omega)) j7 j8 j9 j10 j11 j12 j13 j14 j15 j16 j17 j18 j19 j20]
    exact l_end sc H (by omega) (zn i) j7 j8 j9 j10 j11 j12 j13 j14 j15 j16 j17 j18 j19 j20
  | succ d ih =>
    intro i hi A m least t j7 j8 j9 j10 j11 j12 j13 j14 j15 j16 j17 j18 j19 j20 H ht hm
    have hm1 : m ≤ 600000 := by omega
    by_cases hv : ve A 1 < 300
    · obtain ⟨X, ob, kd, hX, hob, e⟩ := d_140 sc hl (i := i) (m := m) H (by omega) hv (by omega) j7 j8 j9 j10 j11 j12 j13 j14 j15 j16 j17 j18 j19 j20
      rw [e]
      obtain ⟨B, m1, least1, t1, a14, a15, a16, a17, a18, a19, a20, e1, H1, ht1, hm2⟩ := disp sc (V := X / 32) (hw := X % 32) (m := m) H (Nat.lt_of_le_of_lt (Nat.div_le_self _ _) hX) (Nat.mod_lt _ (by decide)) hv (by omega) (by omega) (zn i) (zn X) ob kd hob j13 j14 j15 j16 j17 j18 j19 j20
      rw [e1]
      obtain ⟨C, m2, e2, H2, hm3⟩ := it_end sc (i := i) (X := X) (m := m1) H1 (by omega) hX (by omega) (zn (X / 32)) (zn (X % 32)) (zn (nv A 1)) ob kd (zn (ve A 1)) a14 a15 a16 a17 a18 a19 a20
      rw [e2]
      unfold lw
      exact ih (i + 1) (by omega) C m2 least1 t1 _ _ _ _ _ _ _ _ _ _ _ _ _ _ H2 (by omega) (l_ar hm hm2 hm3)
    · rw [l_out sc H (by omega) (by omega) (Or.inr ⟨by omega, by omega⟩) j7 j8 j9 j10 j11 j12 j13 j14 j15 j16 j17 j18 j19 j20]
      exact l_end sc H (by omega) (zn i) j7 j8 j9 j10 j11 j12 j13 j14 j15 j16 j17 j18 j19 j20
end
end

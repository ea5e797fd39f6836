section
/-! the law's loop: readers -/
section
variable {A B R : zzMd}
theorem now_18 (HR : Rl0 A R) : ∃ q, q ≤ ve A 1 ∧ A.1 1 8 = zn q := by
  obtain ⟨q, q1, q2, -⟩ := HR.2.2.2.2.2.2.1
  exact ⟨q, q1, q2⟩
theorem rd_12 (HR : Rl0 A R) {r : Nat} (hr : r < 4) : ∃ k, k ≤ ve A 1 ∧ A.1 12 r = zn k := by
  obtain ⟨k, k1, k2, -⟩ := HR.2.2.2.2.2.2.2.2.1 r hr
  exact ⟨k, k1, k2⟩
/-- a reader's number in both -/
theorem LI_12 {least : Int32} {t : Nat} {r : Nat} {x : Int32} (H : LI A least t) (HB : Iv (zz_sI A 12 r x)) : LI (zz_sI (zz_sI A 12 r x) 74 r x) least t := by
  refine ⟨Iv_73 HB (Or.inr rfl), (sI_a (by decide)).trans ((sI_a (by decide)).trans H.2.1), (sI_a (by decide)).trans ((sI_a (by decide)).trans H.2.2.1), fun p hp => ?_⟩
  by_cases e : p = r
  · rw [e, sI_e, sI_a (by decide), sI_e]
  · rw [sI_b e, sI_b e, sI_b e, sI_b e]; exact H.2.2.2 p hp
theorem LI_74 {least : Int32} {t : Nat} {r : Nat} {x : Int32} (H : LI A least t) (hr : r < 4) (hx : A.1 12 r = x) : LI (zz_sI A 74 r x) least t := by
  refine ⟨Iv_73 H.1 (Or.inr rfl), (sI_a (by decide)).trans H.2.1, (sI_a (by decide)).trans H.2.2.1, fun p hp => ?_⟩
  by_cases e : p = r
  · rw [e, sI_e, sI_a (by decide), hx]
  · rw [sI_b e, sI_b e]; exact H.2.2.2 p hp
set_option maxRecDepth 100000 in
set_option maxHeartbeats 2000000 in
theorem b_comp (sc : List Int32) {least : Int32} {t m V ob : Nat} (H : LI A least t) (hV : V < 2147483648) (ho : ob < nv A 1) (hv : ve A 1 < 300) (hm : m + 2641 ≤ 727906) (ni x how : Int32) (j14 j15 j16 j17 j18 j19 j20 : Option Value) : Bd sc ni x (zn V) how (zn (nv A 1)) (zn ob) (row A ob 23) (zn (ve A 1)) m t (lz_ev (tL_law sc) 1257 (lw least 1 ni x (zn V) how (zn (nv A 1)) (zn ob) (row A ob 23) (zn (ve A 1)) j14 j15 j16 j17 j18 j19 j20) [] (A, m)) := by
  have H0 := H
  obtain ⟨HI, ht, h8, h74⟩ := H0
  have HI' := HI
  obtain ⟨hA, ⟨R, HR⟩, I⟩ := HI'
  have n60 := rl_n60 HR.1
  have f0 : (m ≤ 727906) = True := eq_true (by omega)
  have f1 : (m + 1 ≤ 727906) = True := eq_true (by omega)
  have f2 : (m + 1 + 1 ≤ 727906) = True := eq_true (by omega)
  have v4 := (Lg_n60 I.1.1).2.1
  obtain ⟨q, q1, q2⟩ := now_18 HR.1
  have lq : least = zn q := h8.symm.trans q2
  subst lq
  have d4 : zn V / 4 = zn (V / 4) := zn_dv (X := V) (d := 4) hV (by decide)
  have hy : V / 4 < 2147483648 := Nat.lt_of_le_of_lt (Nat.div_le_self _ _) hV
  have mv : zn (V / 4) - zn (V / 4) / zn (ve A 1 + 1) * zn (ve A 1 + 1) = zn (V / 4 % (ve A 1 + 1)) := zn_md (X := V / 4) (d := ve A 1 + 1) hy (by omega)
  have z0 : (zn (ve A 1 + 1) = 0) = False := (zn_inj (a := ve A 1 + 1) (b := 0) (by omega) (by decide)).trans (eq_false (by omega))
  have hf : V / 4 % (ve A 1 + 1) ≤ ve A 1 := Nat.le_of_lt_succ (Nat.mod_lt _ (Nat.succ_pos _))
  generalize V / 4 % (ve A 1 + 1) = f at *
  generalize V / 4 = y at *
  have g := g_compact hA HR hf q2 q1
  have a1 : fL_act [.ref 0, .int 14, .int (zn f), .int 0, .int 0, .int 0, .int 0, .int 0] A = _ := va_compact (b := 0) (c := 0) (d := 0) (e := 0) (f := 0) (kW_e g)
  have IB := (II_sI I (Rel_18 HR (k := Nat.max q f) (Nat.max_le.mpr ⟨q1, hf⟩)).1.1.2 (x := zn (Nat.max q f)) (Or.inr (Or.inr (Or.inr ⟨rfl, Or.inr rfl⟩)))).1
  have HB : Iv (zz_sI A 1 8 (zn (Nat.max q f))) := Iv_g HI (kW_e g) (c_compact (Rel_at hA HR) (zn f)) IB
  have HL : LI (zz_sI A 1 8 (zn (Nat.max q f))) (zn (Nat.max q f)) t := ⟨HB, (sI_b (by decide)).trans ht, sI_e, fun r hr => by rw [sI_a (by decide), sI_a (by decide)]; exact h74 r hr⟩
  have lc : (zn f ≤ zn q) = (f ≤ q) := zn_le (a := f) (b := q) (by omega) (by omega)
  refine ⟨zz_sI A 1 8 (zn (Nat.max q f)), m + 1, zn (Nat.max q f), t, some (.int (zn f)), j15, j16, j17, j18, j19, j20, ?_, HL, by omega, by omega⟩
  clear HL HB IB g H HI HR I q2 h8 h74 hy
  generalize zz_sI A 1 8 (zn (Nat.max q f)) = B at *
  by_cases c : f ≤ q
  · have e : Nat.max q f = q := Nat.max_eq_left c
    rw [e] at a1 ⊢
    have lt : (zn f ≤ zn q) = True := eq_true (lc.mpr c)
    unfold lw
    generalize hZ : lz_ev (tL_law sc) 1715 [some (.ref 1004), some (.ref 0), some (.ref 73), some (.ref 74), some (.int (zn q)), some (.int 1), some (.int ni), some (.int x), some (.int (zn V)), some (.int how), some (.int (zn (nv A 1))), some (.int (zn ob)), some (.int (row A ob 23)), some (.int (zn (ve A 1))), some (.int (zn f)), j15, j16, j17, j18, j19, j20] [] (B, m + 1) = Z
    (simp (decide := true) only [e_L_law_p0 sc, e_L_law_p1 sc, e_L_law_p2 sc, e_L_law_p3 sc, e_L_law_p4 sc, e_L_law_p5 sc, e_L_law_p6 sc, lo_iload, lo_lload, lo_aload, lo_istore, lo_lstore, lo_iinc, lo_pushI, lo_pushL, lo_ii, lo_iid, lo_ll, lo_li, lo_lcmp, lo_i2l, lo_dup2, lo_goto, lo_if, lo_icmp, lq_iret_f, lq_iret_1, lq_iret_0, lq_iret_b, lq_lret, lq_bs, lq_bv, lq_bhv, lq_bhx, q_c8_0, q_c8_1, q_c8_2, q_c8_3, q_c8_4, q_set_0, q_set_1i, q_set_1r, q_set_1n, q_set_1N, q_set_s, q_set_1j, q_set_1l, q_set2_0, q_set2_1i, q_set2_1r, q_set2_1n, q_set2_s, q_if, zb_ite, cond_true, cond_false, List.getElem?_cons_zero, List.getElem?_cons_succ, Nat.reduceAdd, ↓hZ, a1, lt, d4, mv, z0, f0, f1, Int32.reduceLT, Int32.reduceLE, Nat.reduceLeDiff, Nat.zero_le, Nat.le_refl, Nat.zero_add, if_true, if_false, zb_eq0, zb_eq1, zn_1, not_true_eq_false, not_false_eq_true, ite_true, ite_false, if_true, if_false, q_iret_0, q_iret_1, decide_true, decide_false, decide_not, zb_t, zb_f, z10, z01, cond_true, cond_false, Bool.and_true, Bool.true_and, Bool.and_false, Bool.false_and, Bool.not_true, Bool.not_false, true_and, and_true, false_and, and_false, true_or, or_true, false_or, or_false, Bool.true_eq_false, Bool.false_eq_true, eq_self, reduceCtorEq, Bool.or_true, Bool.true_or, Bool.or_false, Bool.false_or])
  · have lt : (zn f ≤ zn q) = False := lc.trans (eq_false c)
    have e : Nat.max q f = f := Nat.max_eq_right (by omega)
    rw [e] at a1 ⊢
    unfold lw
    generalize hZ : lz_ev (tL_law sc) 1715 [some (.ref 1004), some (.ref 0), some (.ref 73), some (.ref 74), some (.int (zn f)), some (.int 1), some (.int ni), some (.int x), some (.int (zn V)), some (.int how), some (.int (zn (nv A 1))), some (.int (zn ob)), some (.int (row A ob 23)), some (.int (zn (ve A 1))), some (.int (zn f)), j15, j16, j17, j18, j19, j20] [] (B, m + 1) = Z
    (simp (decide := true) only [e_L_law_p0 sc, e_L_law_p1 sc, e_L_law_p2 sc, e_L_law_p3 sc, e_L_law_p4 sc, e_L_law_p5 sc, e_L_law_p6 sc, lo_iload, lo_lload, lo_aload, lo_istore, lo_lstore, lo_iinc, lo_pushI, lo_pushL, lo_ii, lo_iid, lo_ll, lo_li, lo_lcmp, lo_i2l, lo_dup2, lo_goto, lo_if, lo_icmp, lq_iret_f, lq_iret_1, lq_iret_0, lq_iret_b, lq_lret, lq_bs, lq_bv, lq_bhv, lq_bhx, q_c8_0, q_c8_1, q_c8_2, q_c8_3, q_c8_4, q_set_0, q_set_1i, q_set_1r, q_set_1n, q_set_1N, q_set_s, q_set_1j, q_set_1l, q_set2_0, q_set2_1i, q_set2_1r, q_set2_1n, q_set2_s, q_if, zb_ite, cond_true, cond_false, List.getElem?_cons_zero, List.getElem?_cons_succ, Nat.reduceAdd, ↓hZ, a1, lt, d4, mv, z0, f0, f1, Int32.reduceLT, Int32.reduceLE, Nat.reduceLeDiff, Nat.zero_le, Nat.le_refl, Nat.zero_add, if_true, if_false, zb_eq0, zb_eq1, zn_1, not_true_eq_false, not_false_eq_true, ite_true, ite_false, if_true, if_false, q_iret_0, q_iret_1, decide_true, decide_false, decide_not, zb_t, zb_f, z10, z01, cond_true, cond_false, Bool.and_true, Bool.true_and, Bool.and_false, Bool.false_and, Bool.not_true, Bool.not_false, true_and, and_true, false_and, and_false, true_or, or_true, false_or, or_false, Bool.true_eq_false, Bool.false_eq_true, eq_self, reduceCtorEq, Bool.or_true, Bool.true_or, Bool.or_false, Bool.false_or])
set_option maxRecDepth 100000 in
set_option maxHeartbeats 2000000 in
theorem b_next (sc : List Int32) {least : Int32} {t m V ob : Nat} (H : LI A least t) (hV : V < 2147483648) (ho : ob < nv A 1) (hv : ve A 1 < 300) (hm : m + 2641 ≤ 727906) (ni x how : Int32) (j14 j15 j16 j17 j18 j19 j20 : Option Value) : Bd sc ni x (zn V) how (zn (nv A 1)) (zn ob) (row A ob 23) (zn (ve A 1)) m t (lz_ev (tL_law sc) 1063 (lw least 1 ni x (zn V) how (zn (nv A 1)) (zn ob) (row A ob 23) (zn (ve A 1)) j14 j15 j16 j17 j18 j19 j20) [] (A, m)) := by
  have H0 := H
  obtain ⟨HI, ht, h8, h74⟩ := H0
  have HI' := HI
  obtain ⟨hA, ⟨R, HR⟩, I⟩ := HI'
  have n60 := rl_n60 HR.1
  have f0 : (m ≤ 727906) = True := eq_true (by omega)
  have f1 : (m + 1 ≤ 727906) = True := eq_true (by omega)
  have f2 : (m + 1 + 1 ≤ 727906) = True := eq_true (by omega)
  have m4 : zn V - zn V / 4 * 4 = zn (V % 4) := zn_md (X := V) (d := 4) hV (by decide)
  have hr : V % 4 < 4 := Nat.mod_lt _ (by decide)
  generalize V % 4 = r at *
  have v4 := (Lg_n60 I.1.1).2.1
  obtain ⟨q, q1, q2⟩ := now_18 HR.1
  have lq : least = zn q := h8.symm.trans q2
  subst lq
  obtain ⟨k, k1, k2⟩ := rd_12 HR.1 hr
  have k74 : A.1 74 r = zn k := (h74 r hr).trans k2
  have bi : zz_inb (zn r) 4 = true := zn_inT hr (by decide)
  have xi : zz_ix (zn r) = r := zn_ix (by omega)
  have g := g_next hA HR hr k2 k1 q2 q1
  have l1 : (zn q ≤ zn k) = (q ≤ k) := zn_le (a := q) (b := k) (by omega) (by omega)
  have l2 : (zn k = zn (ve A 1)) = (k = ve A 1) := zn_inj (a := k) (b := ve A 1) (by omega) (by omega)
  by_cases c1 : k = ve A 1
  · rw [if_pos c1] at g
    have a1 : fL_act [.ref 0, .int 13, .int (zn r), .int 0, .int 0, .int 0, .int 0, .int 0] A = some (some (.int (-1)), A) := va_next g
    have t1 : (zn q ≤ zn k) = True := l1.trans (eq_true (by omega))
    have t2 : (zn k = zn (ve A 1)) = True := l2.trans (eq_true c1)
    refine ⟨zz_sI A 74 r (zn k), m + 1, zn q, t, some (.int (zn r)), some (.int (-1)), j16, j17, j18, j19, j20, ?_, LI_74 H hr k2, by omega, by omega⟩
    clear H HI HR I l1 l2 g c1
    unfold lw
    generalize hZ : lz_ev (tL_law sc) 1715 [some (.ref 1004), some (.ref 0), some (.ref 73), some (.ref 74), some (.int (zn q)), some (.int 1), some (.int ni), some (.int x), some (.int (zn V)), some (.int how), some (.int (zn (nv A 1))), some (.int (zn ob)), some (.int (row A ob 23)), some (.int (zn (ve A 1))), some (.int (zn r)), some (.int (-1)), j16, j17, j18, j19, j20] [] (zz_sI A 74 r (zn k), m + 1) = Z
    (simp (decide := true) only [e_L_law_p0 sc, e_L_law_p1 sc, e_L_law_p2 sc, e_L_law_p3 sc, e_L_law_p4 sc, e_L_law_p5 sc, e_L_law_p6 sc, lo_iload, lo_lload, lo_aload, lo_istore, lo_lstore, lo_iinc, lo_pushI, lo_pushL, lo_ii, lo_iid, lo_ll, lo_li, lo_lcmp, lo_i2l, lo_dup2, lo_goto, lo_if, lo_icmp, lq_iret_f, lq_iret_1, lq_iret_0, lq_iret_b, lq_lret, lq_bs, lq_bv, lq_bhv, lq_bhx, q_c8_0, q_c8_1, q_c8_2, q_c8_3, q_c8_4, q_set_0, q_set_1i, q_set_1r, q_set_1n, q_set_1N, q_set_s, q_set_1j, q_set_1l, q_set2_0, q_set2_1i, q_set2_1r, q_set2_1n, q_set2_s, q_if, zb_ite, cond_true, cond_false, List.getElem?_cons_zero, List.getElem?_cons_succ, Nat.reduceAdd, ↓hZ, a1, t1, t2, m4, lo_iald, lo_iast, sC74, dd74, bi, xi, k74, f0, f1, Int32.add_zero, Int32.reduceLT, Int32.reduceLE, Nat.reduceLeDiff, Nat.zero_le, Nat.le_refl, Nat.zero_add, if_true, if_false, zb_eq0, zb_eq1, zn_1, not_true_eq_false, not_false_eq_true, ite_true, ite_false, if_true, if_false, q_iret_0, q_iret_1, decide_true, decide_false, decide_not, zb_t, zb_f, z10, z01, cond_true, cond_false, Bool.and_true, Bool.true_and, Bool.and_false, Bool.false_and, Bool.not_true, Bool.not_false, true_and, and_true, false_and, and_false, true_or, or_true, false_or, or_false, Bool.true_eq_false, Bool.false_eq_true, eq_self, reduceCtorEq, Bool.or_true, Bool.true_or, Bool.or_false, Bool.false_or])
  · rw [if_neg c1] at g
    have t2 : (zn k = zn (ve A 1)) = False := l2.trans (eq_false c1)
    by_cases c2 : k < q
    · rw [if_pos c2] at g
      have a1 : fL_act [.ref 0, .int 13, .int (zn r), .int 0, .int 0, .int 0, .int 0, .int 0] A = some (some (.int (-1273)), A) := xa_next g rfl
      have t1 : (zn q ≤ zn k) = False := l1.trans (eq_false (by omega))
      refine ⟨zz_sI A 74 r (zn k), m + 1, zn q, t, some (.int (zn r)), some (.int (-1273)), j16, j17, j18, j19, j20, ?_, LI_74 H hr k2, by omega, by omega⟩
      clear H HI HR I l1 l2 g
      unfold lw
      generalize hZ : lz_ev (tL_law sc) 1715 [some (.ref 1004), some (.ref 0), some (.ref 73), some (.ref 74), some (.int (zn q)), some (.int 1), some (.int ni), some (.int x), some (.int (zn V)), some (.int how), some (.int (zn (nv A 1))), some (.int (zn ob)), some (.int (row A ob 23)), some (.int (zn (ve A 1))), some (.int (zn r)), some (.int (-1273)), j16, j17, j18, j19, j20] [] (zz_sI A 74 r (zn k), m + 1) = Z
      (simp (decide := true) only [e_L_law_p0 sc, e_L_law_p1 sc, e_L_law_p2 sc, e_L_law_p3 sc, e_L_law_p4 sc, e_L_law_p5 sc, e_L_law_p6 sc, lo_iload, lo_lload, lo_aload, lo_istore, lo_lstore, lo_iinc, lo_pushI, lo_pushL, lo_ii, lo_iid, lo_ll, lo_li, lo_lcmp, lo_i2l, lo_dup2, lo_goto, lo_if, lo_icmp, lq_iret_f, lq_iret_1, lq_iret_0, lq_iret_b, lq_lret, lq_bs, lq_bv, lq_bhv, lq_bhx, q_c8_0, q_c8_1, q_c8_2, q_c8_3, q_c8_4, q_set_0, q_set_1i, q_set_1r, q_set_1n, q_set_1N, q_set_s, q_set_1j, q_set_1l, q_set2_0, q_set2_1i, q_set2_1r, q_set2_1n, q_set2_s, q_if, zb_ite, cond_true, cond_false, List.getElem?_cons_zero, List.getElem?_cons_succ, Nat.reduceAdd, ↓hZ, a1, t1, t2, m4, lo_iald, lo_iast, sC74, dd74, bi, xi, k74, f0, f1, Int32.add_zero, Int32.reduceLT, Int32.reduceLE, Nat.reduceLeDiff, Nat.zero_le, Nat.le_refl, Nat.zero_add, if_true, if_false, zb_eq0, zb_eq1, zn_1, not_true_eq_false, not_false_eq_true, ite_true, ite_false, if_true, if_false, q_iret_0, q_iret_1, decide_true, decide_false, decide_not, zb_t, zb_f, z10, z01, cond_true, cond_false, Bool.and_true, Bool.true_and, Bool.and_false, Bool.false_and, Bool.not_true, Bool.not_false, true_and, and_true, false_and, and_false, true_or, or_true, false_or, or_false, Bool.true_eq_false, Bool.false_eq_true, eq_self, reduceCtorEq, Bool.or_true, Bool.true_or, Bool.or_false, Bool.false_or])
    · rw [if_neg c2] at g
      have a1 : fL_act [.ref 0, .int 13, .int (zn r), .int 0, .int 0, .int 0, .int 0, .int 0] A = some (some (.int (zn (obj A (k + 1)))), zz_sI A 12 r (zn (k + 1))) := va_next g
      have t1 : (zn q ≤ zn k) = True := l1.trans (eq_true (by omega))
      have o1 := kV_e (g_objectOf hA HR (k := k + 1) (by omega) (by omega))
      have ol := obj_lt I.1.1 (k := k + 1) (by omega) (by omega)
      have IB := (II_sI I (x := zn (k + 1)) (a := 12) (k := r) (zIC_eqv (fun a b _ h1 _ _ _ _ => sI_a h1) I.1.1.1) (Or.inl rfl)).1
      have HB : Iv (zz_sI A 12 r (zn (k + 1))) := Iv_g HI g (c_next (Rel_at hA HR) (zn r)) IB
      have HL := LI_12 H HB
      have kB : (zz_sI A 12 r (zn (k + 1))).1 74 r = zn k := (sI_a (by decide)).trans k74
      have l0 : (zn (obj A (k + 1)) < 0) = False := zn_lt0 (by omega)
      refine ⟨zz_sI (zz_sI A 12 r (zn (k + 1))) 74 r (zn (k + 1)), m + 1, zn q, t, some (.int (zn r)), some (.int (zn (obj A (k + 1)))), j16, j17, j18, j19, j20, ?_, HL, by omega, by omega⟩
      clear HL HB IB H HI HR I l1 l2 g ol
      generalize obj A (k + 1) = w at *
      generalize zz_sI A 12 r (zn (k + 1)) = B at *
      unfold lw
      generalize hZ : lz_ev (tL_law sc) 1715 [some (.ref 1004), some (.ref 0), some (.ref 73), some (.ref 74), some (.int (zn q)), some (.int 1), some (.int ni), some (.int x), some (.int (zn V)), some (.int how), some (.int (zn (nv A 1))), some (.int (zn ob)), some (.int (row A ob 23)), some (.int (zn (ve A 1))), some (.int (zn r)), some (.int (zn w)), j16, j17, j18, j19, j20] [] (zz_sI B 74 r (zn (k + 1)), m + 1) = Z
      (simp (decide := true) only [e_L_law_p0 sc, e_L_law_p1 sc, e_L_law_p2 sc, e_L_law_p3 sc, e_L_law_p4 sc, e_L_law_p5 sc, e_L_law_p6 sc, lo_iload, lo_lload, lo_aload, lo_istore, lo_lstore, lo_iinc, lo_pushI, lo_pushL, lo_ii, lo_iid, lo_ll, lo_li, lo_lcmp, lo_i2l, lo_dup2, lo_goto, lo_if, lo_icmp, lq_iret_f, lq_iret_1, lq_iret_0, lq_iret_b, lq_lret, lq_bs, lq_bv, lq_bhv, lq_bhx, q_c8_0, q_c8_1, q_c8_2, q_c8_3, q_c8_4, q_set_0, q_set_1i, q_set_1r, q_set_1n, q_set_1N, q_set_s, q_set_1j, q_set_1l, q_set2_0, q_set2_1i, q_set2_1r, q_set2_1n, q_set2_s, q_if, zb_ite, cond_true, cond_false, List.getElem?_cons_zero, List.getElem?_cons_succ, Nat.reduceAdd, ↓hZ, a1, o1, t1, t2, m4, lo_iald, lo_iast, sC74, dd74, bi, xi, k74, kB, l0, f0, f1, Int32.reduceLT, Int32.reduceLE, Nat.reduceLeDiff, Nat.zero_le, Nat.le_refl, Nat.zero_add, if_true, if_false, zb_eq0, zb_eq1, zn_1, not_true_eq_false, not_false_eq_true, ite_true, ite_false, if_true, if_false, q_iret_0, q_iret_1, decide_true, decide_false, decide_not, zb_t, zb_f, z10, z01, cond_true, cond_false, Bool.and_true, Bool.true_and, Bool.and_false, Bool.false_and, Bool.not_true, Bool.not_false, true_and, and_true, false_and, and_false, true_or, or_true, false_or, or_false, Bool.true_eq_false, Bool.false_eq_true, eq_self, reduceCtorEq, Bool.or_true, Bool.true_or, Bool.or_false, Bool.false_or])
set_option maxRecDepth 100000 in
set_option maxHeartbeats 2000000 in
theorem b_watch (sc : List Int32) {least : Int32} {t m V ob : Nat} (H : LI A least t) (hV : V < 2147483648) (ho : ob < nv A 1) (hv : ve A 1 < 300) (hm : m + 2641 ≤ 727906) (ni x how : Int32) (j14 j15 j16 j17 j18 j19 j20 : Option Value) : Bd sc ni x (zn V) how (zn (nv A 1)) (zn ob) (row A ob 23) (zn (ve A 1)) m t (lz_ev (tL_law sc) 1161 (lw least 1 ni x (zn V) how (zn (nv A 1)) (zn ob) (row A ob 23) (zn (ve A 1)) j14 j15 j16 j17 j18 j19 j20) [] (A, m)) := by
  have H0 := H
  obtain ⟨HI, ht, h8, h74⟩ := H0
  have HI' := HI
  obtain ⟨hA, ⟨R, HR⟩, I⟩ := HI'
  have n60 := rl_n60 HR.1
  have f0 : (m ≤ 727906) = True := eq_true (by omega)
  have f1 : (m + 1 ≤ 727906) = True := eq_true (by omega)
  have f2 : (m + 1 + 1 ≤ 727906) = True := eq_true (by omega)
  have m4 : zn V - zn V / 4 * 4 = zn (V % 4) := zn_md (X := V) (d := 4) hV (by decide)
  have hr : V % 4 < 4 := Nat.mod_lt _ (by decide)
  generalize V % 4 = r at *
  have v4 := (Lg_n60 I.1.1).2.1
  obtain ⟨q, q1, q2⟩ := now_18 HR.1
  have lq : least = zn q := h8.symm.trans q2
  subst lq
  obtain ⟨k, k1, k2⟩ := rd_12 HR.1 hr
  have k74 : A.1 74 r = zn k := (h74 r hr).trans k2
  have bi : zz_inb (zn r) 4 = true := zn_inT hr (by decide)
  have xi : zz_ix (zn r) = r := zn_ix (by omega)
  have d4 : zn V / 4 = zn (V / 4) := zn_dv (X := V) (d := 4) hV (by decide)
  have hy : V / 4 < 2147483648 := Nat.lt_of_le_of_lt (Nat.div_le_self _ _) hV
  have mv : zn (V / 4) - zn (V / 4) / zn (ve A 1 + 1) * zn (ve A 1 + 1) = zn (V / 4 % (ve A 1 + 1)) := zn_md (X := V / 4) (d := ve A 1 + 1) hy (by omega)
  have z0 : (zn (ve A 1 + 1) = 0) = False := (zn_inj (a := ve A 1 + 1) (b := 0) (by omega) (by decide)).trans (eq_false (by omega))
  have hf : V / 4 % (ve A 1 + 1) ≤ ve A 1 := Nat.le_of_lt_succ (Nat.mod_lt _ (Nat.succ_pos _))
  generalize V / 4 % (ve A 1 + 1) = f at *
  generalize V / 4 = y at *
  rw [d4] at m4
  have g := g_watch hA HR hr hf q2 q1
  have l1 : (zn q ≤ zn f) = (q ≤ f) := zn_le (a := q) (b := f) (by omega) (by omega)
  by_cases c : q ≤ f
  · rw [if_pos c] at g
    have a1 : fL_act [.ref 0, .int 12, .int (zn r), .int (zn f), .int 0, .int 0, .int 0, .int 0] A = some (some (.int (zn (ve A 1) - zn f)), zz_sI A 12 r (zn f)) := va_watch g
    have t1 : (zn q ≤ zn f) = True := l1.trans (eq_true c)
    have IB := (II_sI I (x := zn f) (a := 12) (k := r) (zIC_eqv (fun a b _ h1 _ _ _ _ => sI_a h1) I.1.1.1) (Or.inl rfl)).1
    have HB : Iv (zz_sI A 12 r (zn f)) := Iv_g HI g (c_watch (Rel_at hA HR) (zn r) (zn f)) IB
    have HL := LI_12 H HB
    refine ⟨zz_sI (zz_sI A 12 r (zn f)) 74 r (zn f), m + 1, zn q, t, some (.int (zn r)), some (.int (zn f)), j16, j17, j18, j19, j20, ?_, HL, by omega, by omega⟩
    clear HL HB IB H HI HR I l1 g hy
    generalize zz_sI A 12 r (zn f) = B at *
    unfold lw
    generalize hZ : lz_ev (tL_law sc) 1715 [some (.ref 1004), some (.ref 0), some (.ref 73), some (.ref 74), some (.int (zn q)), some (.int 1), some (.int ni), some (.int x), some (.int (zn V)), some (.int how), some (.int (zn (nv A 1))), some (.int (zn ob)), some (.int (row A ob 23)), some (.int (zn (ve A 1))), some (.int (zn r)), some (.int (zn f)), j16, j17, j18, j19, j20] [] (zz_sI B 74 r (zn f), m + 1) = Z
    (simp (decide := true) only [e_L_law_p0 sc, e_L_law_p1 sc, e_L_law_p2 sc, e_L_law_p3 sc, e_L_law_p4 sc, e_L_law_p5 sc, e_L_law_p6 sc, lo_iload, lo_lload, lo_aload, lo_istore, lo_lstore, lo_iinc, lo_pushI, lo_pushL, lo_ii, lo_iid, lo_ll, lo_li, lo_lcmp, lo_i2l, lo_dup2, lo_goto, lo_if, lo_icmp, lq_iret_f, lq_iret_1, lq_iret_0, lq_iret_b, lq_lret, lq_bs, lq_bv, lq_bhv, lq_bhx, q_c8_0, q_c8_1, q_c8_2, q_c8_3, q_c8_4, q_set_0, q_set_1i, q_set_1r, q_set_1n, q_set_1N, q_set_s, q_set_1j, q_set_1l, q_set2_0, q_set2_1i, q_set2_1r, q_set2_1n, q_set2_s, q_if, zb_ite, cond_true, cond_false, List.getElem?_cons_zero, List.getElem?_cons_succ, Nat.reduceAdd, ↓hZ, a1, t1, m4, d4, mv, z0, lo_iald, lo_iast, sC74, dd74, bi, xi, f0, f1, Int32.reduceLT, Int32.reduceLE, Nat.reduceLeDiff, Nat.zero_le, Nat.le_refl, Nat.zero_add, if_true, if_false, zb_eq0, zb_eq1, zn_1, not_true_eq_false, not_false_eq_true, ite_true, ite_false, if_true, if_false, q_iret_0, q_iret_1, decide_true, decide_false, decide_not, zb_t, zb_f, z10, z01, cond_true, cond_false, Bool.and_true, Bool.true_and, Bool.and_false, Bool.false_and, Bool.not_true, Bool.not_false, true_and, and_true, false_and, and_false, true_or, or_true, false_or, or_false, Bool.true_eq_false, Bool.false_eq_true, eq_self, reduceCtorEq, Bool.or_true, Bool.true_or, Bool.or_false, Bool.false_or])
  · rw [if_neg c] at g
    have a1 : fL_act [.ref 0, .int 12, .int (zn r), .int (zn f), .int 0, .int 0, .int 0, .int 0] A = some (some (.int (-1273)), A) := xa_watch g rfl
    have t1 : (zn q ≤ zn f) = False := l1.trans (eq_false c)
    refine ⟨zz_sI A 74 r (zn k), m + 1, zn q, t, some (.int (zn r)), some (.int (zn f)), j16, j17, j18, j19, j20, ?_, LI_74 H hr k2, by omega, by omega⟩
    clear H HI HR I l1 g hy
    unfold lw
    generalize hZ : lz_ev (tL_law sc) 1715 [some (.ref 1004), some (.ref 0), some (.ref 73), some (.ref 74), some (.int (zn q)), some (.int 1), some (.int ni), some (.int x), some (.int (zn V)), some (.int how), some (.int (zn (nv A 1))), some (.int (zn ob)), some (.int (row A ob 23)), some (.int (zn (ve A 1))), some (.int (zn r)), some (.int (zn f)), j16, j17, j18, j19, j20] [] (zz_sI A 74 r (zn k), m + 1) = Z
    (simp (decide := true) only [e_L_law_p0 sc, e_L_law_p1 sc, e_L_law_p2 sc, e_L_law_p3 sc, e_L_law_p4 sc, e_L_law_p5 sc, e_L_law_p6 sc, lo_iload, lo_lload, lo_aload, lo_istore, lo_lstore, lo_iinc, lo_pushI, lo_pushL, lo_ii, lo_iid, lo_ll, lo_li, lo_lcmp, lo_i2l, lo_dup2, lo_goto, lo_if, lo_icmp, lq_iret_f, lq_iret_1, lq_iret_0, lq_iret_b, lq_lret, lq_bs, lq_bv, lq_bhv, lq_bhx, q_c8_0, q_c8_1, q_c8_2, q_c8_3, q_c8_4, q_set_0, q_set_1i, q_set_1r, q_set_1n, q_set_1N, q_set_s, q_set_1j, q_set_1l, q_set2_0, q_set2_1i, q_set2_1r, q_set2_1n, q_set2_s, q_if, zb_ite, cond_true, cond_false, List.getElem?_cons_zero, List.getElem?_cons_succ, Nat.reduceAdd, ↓hZ, a1, t1, m4, d4, mv, z0, lo_iald, lo_iast, sC74, dd74, bi, xi, k74, f0, f1, Int32.reduceLT, Int32.reduceLE, Nat.reduceLeDiff, Nat.zero_le, Nat.le_refl, Nat.zero_add, if_true, if_false, zb_eq0, zb_eq1, zn_1, not_true_eq_false, not_false_eq_true, ite_true, ite_false, if_true, if_false, q_iret_0, q_iret_1, decide_true, decide_false, decide_not, zb_t, zb_f, z10, z01, cond_true, cond_false, Bool.and_true, Bool.true_and, Bool.and_false, Bool.false_and, Bool.not_true, Bool.not_false, true_and, and_true, false_and, and_false, true_or, or_true, false_or, or_false, Bool.true_eq_false, Bool.false_eq_true, eq_self, reduceCtorEq, Bool.or_true, Bool.true_or, Bool.or_false, Bool.false_or])
end
end

section
/-! the law's loop: more branches -/
section
variable {A B R : zzMd}
set_option maxRecDepth 100000 in
set_option maxHeartbeats 2000000 in
theorem b_hold (sc : List Int32) {least : Int32} {t m V ob : Nat} (H : LI A least t) (hV : V < 2147483648) (ho : ob < nv A 1) (hv : ve A 1 < 300) (hm : m + 2641 ≤ 727906) (ni x how : Int32) (j14 j15 j16 j17 j18 j19 j20 : Option Value) : Bd sc ni x (zn V) how (zn (nv A 1)) (zn ob) (row A ob 23) (zn (ve A 1)) m t (lz_ev (tL_law sc) 832 (lw least 1 ni x (zn V) how (zn (nv A 1)) (zn ob) (row A ob 23) (zn (ve A 1)) j14 j15 j16 j17 j18 j19 j20) [] (A, m)) := by
  have H0 := H
  obtain ⟨HI, ht, h8, h74⟩ := H0
  have HI' := HI
  obtain ⟨hA, ⟨R, HR⟩, I⟩ := HI'
  have n60 := rl_n60 HR.1
  have f0 : (m ≤ 727906) = True := eq_true (by omega)
  have f1 : (m + 1 ≤ 727906) = True := eq_true (by omega)
  have f2 : (m + 1 + 1 ≤ 727906) = True := eq_true (by omega)
  have d60 : zn V / 60 = zn (V / 60) := zn_dv (X := V) (d := 60) hV (by decide)
  have h60 : V / 60 < 2147483648 := Nat.lt_of_le_of_lt (Nat.div_le_self _ _) hV
  have m3 : zn (V / 60) - zn (V / 60) / 3 * 3 = zn (V / 60 % 3) := zn_md (X := V / 60) (d := 3) h60 (by decide)
  have h3 : V / 60 % 3 < 3 := Nat.mod_lt _ (by decide)
  generalize V / 60 % 3 = u at *
  generalize V / 60 = y at *
  have m2 : zn u / 2 = zn (u / 2) := zn_dv (X := u) (d := 2) (by omega) (by decide)
  have h2 : u / 2 < 2 := by omega
  generalize u / 2 = b at *
  have o1 := kV_e (g_goingOf hA HR ho)
  have s60 : ob < 60 := by omega
  by_cases hg : row A ob 25 = 4
  · have a1 : fL_act [.ref 0, .int 4, .int (zn ob), .int (zn b), .int 0, .int 0, .int 0, .int 0] A = some (some (.int (-1273)), A) := xa_hold (kX_e (g_holdX hA HR ho hg _)) rfl
    refine ⟨A, m + 1, least, t, some (.int (-1273)), j15, j16, j17, j18, j19, j20, ?_, H, by omega, by omega⟩
    unfold lw
    generalize hZ : lz_ev (tL_law sc) 1715 [some (.ref 1004), some (.ref 0), some (.ref 73), some (.ref 74), some (.int least), some (.int 1), some (.int ni), some (.int x), some (.int (zn V)), some (.int how), some (.int (zn (nv A 1))), some (.int (zn ob)), some (.int (row A ob 23)), some (.int (zn (ve A 1))), some (.int (-1273)), j15, j16, j17, j18, j19, j20] [] (A, m + 1) = Z
    clear H HI HR I
    (simp (decide := true) only [e_L_law_p0 sc, e_L_law_p1 sc, e_L_law_p2 sc, e_L_law_p3 sc, e_L_law_p4 sc, e_L_law_p5 sc, e_L_law_p6 sc, lo_iload, lo_lload, lo_aload, lo_istore, lo_lstore, lo_iinc, lo_pushI, lo_pushL, lo_ii, lo_iid, lo_ll, lo_li, lo_lcmp, lo_i2l, lo_dup2, lo_goto, lo_if, lo_icmp, lq_iret_f, lq_iret_1, lq_iret_0, lq_iret_b, lq_lret, lq_bs, lq_bv, lq_bhv, lq_bhx, q_c8_0, q_c8_1, q_c8_2, q_c8_3, q_c8_4, q_set_0, q_set_1i, q_set_1r, q_set_1n, q_set_1N, q_set_s, q_set_1j, q_set_1l, q_set2_0, q_set2_1i, q_set2_1r, q_set2_1n, q_set2_s, q_if, zb_ite, cond_true, cond_false, List.getElem?_cons_zero, List.getElem?_cons_succ, Nat.reduceAdd, ↓hZ, a1, o1, hg, d60, m3, m2, f0, f1, Int32.reduceLT, Int32.reduceLE, Nat.reduceLeDiff, Nat.zero_le, Nat.le_refl, Nat.zero_add, if_true, if_false, zb_eq0, zb_eq1, zn_1, not_true_eq_false, not_false_eq_true, ite_true, ite_false, if_true, if_false, q_iret_0, q_iret_1, decide_true, decide_false, decide_not, zb_t, zb_f, z10, z01, cond_true, cond_false, Bool.and_true, Bool.true_and, Bool.and_false, Bool.false_and, Bool.not_true, Bool.not_false, true_and, and_true, false_and, and_false, true_or, or_true, false_or, or_false, Bool.true_eq_false, Bool.false_eq_true, eq_self, reduceCtorEq, Bool.or_true, Bool.true_or, Bool.or_false, Bool.false_or])
  · have st : ∀ {D : zzMd}, Iv D → ob < nv D 1 → ¬ row D ob 25 = 4 → ve D 1 < 400 → ∃ E, fL_act [.ref 0, .int 4, .int (zn ob), .int (zn b), .int 0, .int 0, .int 0, .int 0] D = some (some (.int (zb (decide (row D ob 26 = 1)))), E) ∧ Iv E ∧ Fr D E ∧ nv E 1 = nv D 1 ∧ ve E 1 ≤ ve D 1 + 1 ∧ row E ob 25 = row D ob 25 ∧ row E ob 26 = zn b := fun {D} HD od gd vd => by
      have HD' := HD
      obtain ⟨hD, ⟨RD, HRD⟩, ID⟩ := HD'
      obtain ⟨w1, w2⟩ := wr_ok D ob (dUp (row D ob) 26 (zb (decide (zn b = 1)))) vd
      have g := g_hold hD HRD od gd (decide (zn b = 1))
      have w1' : (aCh D ob 26 (zb (decide (zn b = 1)))).1 = true := w1
      rw [w1', cond_true] at g
      have WR0 := WR_wr D ob (dUp (row D ob) 26 (zb (decide (zn b = 1))))
      refine ⟨_, va_hold g, Iv_g HD g (c_hold (Rel_at hD HRD) (zn ob) _) (II_hold ID od _), Fr_Wr D ob _, nvp_Wr _ ID.1 od, w2, ?_, ?_⟩
      · exact (WR_row WR0 ID.1.1 s60 w1 (by decide)).trans ((dOw_n (by decide)).trans (dUp_n (by decide)))
      · refine (WR_row WR0 ID.1.1 s60 w1 (by decide)).trans ((dOw_n (by decide)).trans (dUp_e.trans ?_))
        have : b = 0 ∨ b = 1 := by omega
        rcases this with rfl | rfl
        · rfl
        · rfl
    obtain ⟨B, a1, HB, F1, n1, v1, r1, -⟩ := st HI ho hg (by omega)
    obtain ⟨B', a1', HB', F1', n1', v1', r1', r2'⟩ := st HI ho hg (by omega)
    have eBB : B' = B := by
      rw [a1] at a1'
      injection a1' with h
      injection h with _ h2
      exact h2.symm
    rw [eBB] at r2'
    obtain ⟨C, a2, HC, F2, -⟩ := st HB (by omega) (by rw [r1]; exact hg) (by omega)
    have e26 : zb (decide (row B ob 26 = 1)) = zn b := by
      rw [r2']
      have : b = 0 ∨ b = 1 := by omega
      rcases this with rfl | rfl
      · rfl
      · rfl
    rw [e26] at a2
    have tn : (zb (decide (row A ob 26 = 1)) = -1273) = False := by
      cases decide (row A ob 26 = 1)
      · exact eq_false (by decide)
      · exact eq_false (by decide)
    refine ⟨C, m + 1 + 1, least, t, some (.int (zb (decide (row A ob 26 = 1)))), j15, j16, j17, j18, j19, j20, ?_, LI_Fr H HC (Fr_trans F1 F2), by omega, by omega⟩
    clear st a1' HB' F1' n1' v1' r1' r2' eBB e26 H HI HR I HB HC F1 F2 n1 v1 r1
    generalize zb (decide (row A ob 26 = 1)) = told at *
    unfold lw
    generalize hZ : lz_ev (tL_law sc) 1715 [some (.ref 1004), some (.ref 0), some (.ref 73), some (.ref 74), some (.int least), some (.int 1), some (.int ni), some (.int x), some (.int (zn V)), some (.int how), some (.int (zn (nv A 1))), some (.int (zn ob)), some (.int (row A ob 23)), some (.int (zn (ve A 1))), some (.int told), j15, j16, j17, j18, j19, j20] [] (C, m + 1 + 1) = Z
    (simp (decide := true) only [e_L_law_p0 sc, e_L_law_p1 sc, e_L_law_p2 sc, e_L_law_p3 sc, e_L_law_p4 sc, e_L_law_p5 sc, e_L_law_p6 sc, lo_iload, lo_lload, lo_aload, lo_istore, lo_lstore, lo_iinc, lo_pushI, lo_pushL, lo_ii, lo_iid, lo_ll, lo_li, lo_lcmp, lo_i2l, lo_dup2, lo_goto, lo_if, lo_icmp, lq_iret_f, lq_iret_1, lq_iret_0, lq_iret_b, lq_lret, lq_bs, lq_bv, lq_bhv, lq_bhx, q_c8_0, q_c8_1, q_c8_2, q_c8_3, q_c8_4, q_set_0, q_set_1i, q_set_1r, q_set_1n, q_set_1N, q_set_s, q_set_1j, q_set_1l, q_set2_0, q_set2_1i, q_set2_1r, q_set2_1n, q_set2_s, q_if, zb_ite, cond_true, cond_false, List.getElem?_cons_zero, List.getElem?_cons_succ, Nat.reduceAdd, ↓hZ, a1, a2, o1, tn, d60, m3, m2, f0, f1, f2, Int32.reduceLT, Int32.reduceLE, Nat.reduceLeDiff, Nat.zero_le, Nat.le_refl, Nat.zero_add, if_true, if_false, zb_eq0, zb_eq1, zn_1, not_true_eq_false, not_false_eq_true, ite_true, ite_false, if_true, if_false, q_iret_0, q_iret_1, decide_true, decide_false, decide_not, zb_t, zb_f, z10, z01, cond_true, cond_false, Bool.and_true, Bool.true_and, Bool.and_false, Bool.false_and, Bool.not_true, Bool.not_false, true_and, and_true, false_and, and_false, true_or, or_true, false_or, or_false, Bool.true_eq_false, Bool.false_eq_true, eq_self, reduceCtorEq, Bool.or_true, Bool.true_or, Bool.or_false, Bool.false_or])
set_option maxRecDepth 100000 in
set_option maxHeartbeats 2000000 in
theorem b_fin (sc : List Int32) {least : Int32} {t m V ob : Nat} (H : LI A least t) (hV : V < 2147483648) (ho : ob < nv A 1) (hv : ve A 1 < 300) (hm : m + 2641 ≤ 727906) (ni x how : Int32) (j14 j15 j16 j17 j18 j19 j20 : Option Value) (hk : row A ob 23 = 2) : Bd sc ni x (zn V) how (zn (nv A 1)) (zn ob) (row A ob 23) (zn (ve A 1)) m t (lz_ev (tL_law sc) 935 (lw least 1 ni x (zn V) how (zn (nv A 1)) (zn ob) (row A ob 23) (zn (ve A 1)) j14 j15 j16 j17 j18 j19 j20) [] (A, m)) := by
  have H0 := H
  obtain ⟨HI, ht, h8, h74⟩ := H0
  have HI' := HI
  obtain ⟨hA, ⟨R, HR⟩, I⟩ := HI'
  have n60 := rl_n60 HR.1
  have f0 : (m ≤ 727906) = True := eq_true (by omega)
  have f1 : (m + 1 ≤ 727906) = True := eq_true (by omega)
  have f2 : (m + 1 + 1 ≤ 727906) = True := eq_true (by omega)
  have d60 : zn V / 60 = zn (V / 60) := zn_dv (X := V) (d := 60) hV (by decide)
  have h60 : V / 60 < 2147483648 := Nat.lt_of_le_of_lt (Nat.div_le_self _ _) hV
  have m2 : zn (V / 60) - zn (V / 60) / 2 * 2 = zn (V / 60 % 2) := zn_md (X := V / 60) (d := 2) h60 (by decide)
  have h2 : V / 60 % 2 < 2 := Nat.mod_lt _ (by decide)
  generalize V / 60 % 2 = u at *
  generalize V / 60 = y at *
  have o1 := kV_e (g_goingOf hA HR ho)
  have o2 := kV_e (g_phaseOf hA HR ho hk)
  have s60 : ob < 60 := by omega
  obtain ⟨q, q1, q2⟩ := (cur_good HR.1 ho).1.2.2.2.1
  by_cases hc : ¬ row A ob 25 = 4 ∧ row A ob 29 = 1
  · obtain ⟨hg, hr⟩ := hc
    have q4 : q < 4 := Nat.lt_of_le_of_ne q1 fun z => hg (by rw [q2, z]; rfl)
    have l4 : ((4 : Int32) ≤ zn q) = False := zk_lt (n := 4) q4 (Nat.le_refl _) (by decide)
    have ph : ∃ p : Int32, (bif decide (zn u = 1) then (2 : Int32) else 3) = p ∧ 3 - zn u = p ∧ ¬ p = 1 := by
      have : u = 0 ∨ u = 1 := by omega
      rcases this with rfl | rfl
      · exact ⟨3, rfl, by decide, by decide⟩
      · exact ⟨2, rfl, by decide, by decide⟩
    obtain ⟨p, p1, p2, p3⟩ := ph
    have g := g_finish hA HR ho hk hg hr (decide (zn u = 1))
    rw [p1] at g
    obtain ⟨w1, -⟩ := wr_ok A ob (dUp (row A ob) 29 p) (by omega)
    have w1' : (aCh A ob 29 p).1 = true := w1
    rw [w1', cond_true] at g
    have WR0 := WR_wr A ob (dUp (row A ob) 29 p)
    have d29 : dOw (dUp (row A ob) 29 p) 29 = p := (dOw_n (by decide)).trans dUp_e
    have r29 : row (aCh A ob 29 p).2 ob 29 = p := (WR_row WR0 I.1.1 s60 w1 (by decide)).trans d29
    have r23 : row (aCh A ob 29 p).2 ob 23 = 2 := (WR_row WR0 I.1.1 s60 w1 (by decide)).trans ((dOw_n (by decide)).trans ((dUp_n (by decide)).trans hk))
    have ev := WR_ev WR0 s60 (by rw [dOw_n (by decide), dUp_n (by decide)]; exact (Lg_cur I.1.1 ho).1) w1 (fun z => p3 (by
      have := z 29 (by decide)
      rw [d29, hr] at this
      exact this))
    have e15 : (aCh A ob 29 p).2.1 15 ob = zn (ve A 1 + 1) := by
      show (aWr A ob (dUp (row A ob) 29 p)).2.1 15 ob = _
      rw [ev.2.2.2.1, put_15, if_pos rfl]
    rw [e15] at g
    have HB : Iv (aCh A ob 29 p).2 := Iv_g HI g (c_finish (Rel_at hA HR) (zn ob) _) (II_fin I ho hk hr p)
    have F : Fr A (aCh A ob 29 p).2 := Fr_Wr A ob _
    have nB : nv (aCh A ob 29 p).2 1 = nv A 1 := nvp_Wr _ I.1 ho
    generalize (aCh A ob 29 p).2 = B at *
    have a1 : fL_act [.ref 0, .int 5, .int (zn ob), .int (zn u), .int 0, .int 0, .int 0, .int 0] A = some (some (.int (zn (ve A 1 + 1))), B) := va_finish g
    have HB' := HB
    obtain ⟨hB, ⟨R', HR'⟩, I'⟩ := HB'
    have o3 := kV_e (g_phaseOf hB HR' (o := ob) (by omega) r23)
    rw [r29] at o3
    rw [q2] at o1
    refine ⟨B, m + 1, least, t, some (.int 1), some (.int (zn (ve A 1 + 1))), j16, j17, j18, j19, j20, ?_, LI_Fr H HB F, by omega, by omega⟩
    clear H HI HR HR' I I' HB F WR0 ev g w1 w1' e15 d29
    unfold lw
    generalize hZ : lz_ev (tL_law sc) 1715 [some (.ref 1004), some (.ref 0), some (.ref 73), some (.ref 74), some (.int least), some (.int 1), some (.int ni), some (.int x), some (.int (zn V)), some (.int how), some (.int (zn (nv A 1))), some (.int (zn ob)), some (.int (row A ob 23)), some (.int (zn (ve A 1))), some (.int 1), some (.int (zn (ve A 1 + 1))), j16, j17, j18, j19, j20] [] (B, m + 1) = Z
    (simp (decide := true) only [e_L_law_p0 sc, e_L_law_p1 sc, e_L_law_p2 sc, e_L_law_p3 sc, e_L_law_p4 sc, e_L_law_p5 sc, e_L_law_p6 sc, lo_iload, lo_lload, lo_aload, lo_istore, lo_lstore, lo_iinc, lo_pushI, lo_pushL, lo_ii, lo_iid, lo_ll, lo_li, lo_lcmp, lo_i2l, lo_dup2, lo_goto, lo_if, lo_icmp, lq_iret_f, lq_iret_1, lq_iret_0, lq_iret_b, lq_lret, lq_bs, lq_bv, lq_bhv, lq_bhx, q_c8_0, q_c8_1, q_c8_2, q_c8_3, q_c8_4, q_set_0, q_set_1i, q_set_1r, q_set_1n, q_set_1N, q_set_s, q_set_1j, q_set_1l, q_set2_0, q_set2_1i, q_set2_1r, q_set2_1n, q_set2_s, q_if, zb_ite, cond_true, cond_false, List.getElem?_cons_zero, List.getElem?_cons_succ, Nat.reduceAdd, ↓hZ, a1, o1, o2, o3, l4, hr, p2, d60, m2, f0, f1, Int32.reduceLT, Int32.reduceLE, Nat.reduceLeDiff, Nat.zero_le, Nat.le_refl, Nat.zero_add, if_true, if_false, zb_eq0, zb_eq1, zn_1, not_true_eq_false, not_false_eq_true, ite_true, ite_false, if_true, if_false, q_iret_0, q_iret_1, decide_true, decide_false, decide_not, zb_t, zb_f, z10, z01, cond_true, cond_false, Bool.and_true, Bool.true_and, Bool.and_false, Bool.false_and, Bool.not_true, Bool.not_false, true_and, and_true, false_and, and_false, true_or, or_true, false_or, or_false, Bool.true_eq_false, Bool.false_eq_true, eq_self, reduceCtorEq, Bool.or_true, Bool.true_or, Bool.or_false, Bool.false_or])
  · have a1 : fL_act [.ref 0, .int 5, .int (zn ob), .int (zn u), .int 0, .int 0, .int 0, .int 0] A = some (some (.int (-1273)), A) := xa_finish (kX_e (g_finishX hA HR ho hk (by
      by_cases z : row A ob 25 = 4
      · exact Or.inl z
      · exact Or.inr fun y => hc ⟨z, y⟩) _)) rfl
    refine ⟨A, m + 1, least, t, some (.int 0), some (.int (-1273)), j16, j17, j18, j19, j20, ?_, H, by omega, by omega⟩
    unfold lw
    generalize hZ : lz_ev (tL_law sc) 1715 [some (.ref 1004), some (.ref 0), some (.ref 73), some (.ref 74), some (.int least), some (.int 1), some (.int ni), some (.int x), some (.int (zn V)), some (.int how), some (.int (zn (nv A 1))), some (.int (zn ob)), some (.int (row A ob 23)), some (.int (zn (ve A 1))), some (.int 0), some (.int (-1273)), j16, j17, j18, j19, j20] [] (A, m + 1) = Z
    by_cases z : row A ob 25 = 4
    · rw [z] at o1
      clear H HI HR I hc
      (simp (decide := true) only [e_L_law_p0 sc, e_L_law_p1 sc, e_L_law_p2 sc, e_L_law_p3 sc, e_L_law_p4 sc, e_L_law_p5 sc, e_L_law_p6 sc, lo_iload, lo_lload, lo_aload, lo_istore, lo_lstore, lo_iinc, lo_pushI, lo_pushL, lo_ii, lo_iid, lo_ll, lo_li, lo_lcmp, lo_i2l, lo_dup2, lo_goto, lo_if, lo_icmp, lq_iret_f, lq_iret_1, lq_iret_0, lq_iret_b, lq_lret, lq_bs, lq_bv, lq_bhv, lq_bhx, q_c8_0, q_c8_1, q_c8_2, q_c8_3, q_c8_4, q_set_0, q_set_1i, q_set_1r, q_set_1n, q_set_1N, q_set_s, q_set_1j, q_set_1l, q_set2_0, q_set2_1i, q_set2_1r, q_set2_1n, q_set2_s, q_if, zb_ite, cond_true, cond_false, List.getElem?_cons_zero, List.getElem?_cons_succ, Nat.reduceAdd, ↓hZ, a1, o1, d60, m2, f0, f1, Int32.reduceLT, Int32.reduceLE, Nat.reduceLeDiff, Nat.zero_le, Nat.le_refl, Nat.zero_add, if_true, if_false, zb_eq0, zb_eq1, zn_1, not_true_eq_false, not_false_eq_true, ite_true, ite_false, if_true, if_false, q_iret_0, q_iret_1, decide_true, decide_false, decide_not, zb_t, zb_f, z10, z01, cond_true, cond_false, Bool.and_true, Bool.true_and, Bool.and_false, Bool.false_and, Bool.not_true, Bool.not_false, true_and, and_true, false_and, and_false, true_or, or_true, false_or, or_false, Bool.true_eq_false, Bool.false_eq_true, eq_self, reduceCtorEq, Bool.or_true, Bool.true_or, Bool.or_false, Bool.false_or])
    · have z2 : ¬ row A ob 29 = 1 := fun y => hc ⟨z, y⟩
      have q4 : q < 4 := Nat.lt_of_le_of_ne q1 fun y => z (by rw [q2, y]; rfl)
      have l4 : ((4 : Int32) ≤ zn q) = False := zk_lt (n := 4) q4 (Nat.le_refl _) (by decide)
      rw [q2] at o1
      clear H HI HR I hc
      (simp (decide := true) only [e_L_law_p0 sc, e_L_law_p1 sc, e_L_law_p2 sc, e_L_law_p3 sc, e_L_law_p4 sc, e_L_law_p5 sc, e_L_law_p6 sc, lo_iload, lo_lload, lo_aload, lo_istore, lo_lstore, lo_iinc, lo_pushI, lo_pushL, lo_ii, lo_iid, lo_ll, lo_li, lo_lcmp, lo_i2l, lo_dup2, lo_goto, lo_if, lo_icmp, lq_iret_f, lq_iret_1, lq_iret_0, lq_iret_b, lq_lret, lq_bs, lq_bv, lq_bhv, lq_bhx, q_c8_0, q_c8_1, q_c8_2, q_c8_3, q_c8_4, q_set_0, q_set_1i, q_set_1r, q_set_1n, q_set_1N, q_set_s, q_set_1j, q_set_1l, q_set2_0, q_set2_1i, q_set2_1r, q_set2_1n, q_set2_s, q_if, zb_ite, cond_true, cond_false, List.getElem?_cons_zero, List.getElem?_cons_succ, Nat.reduceAdd, ↓hZ, a1, o1, o2, l4, z2, d60, m2, f0, f1, Int32.reduceLT, Int32.reduceLE, Nat.reduceLeDiff, Nat.zero_le, Nat.le_refl, Nat.zero_add, if_true, if_false, zb_eq0, zb_eq1, zn_1, not_true_eq_false, not_false_eq_true, ite_true, ite_false, if_true, if_false, q_iret_0, q_iret_1, decide_true, decide_false, decide_not, zb_t, zb_f, z10, z01, cond_true, cond_false, Bool.and_true, Bool.true_and, Bool.and_false, Bool.false_and, Bool.not_true, Bool.not_false, true_and, and_true, false_and, and_false, true_or, or_true, false_or, or_false, Bool.true_eq_false, Bool.false_eq_true, eq_self, reduceCtorEq, Bool.or_true, Bool.true_or, Bool.or_false, Bool.false_or])
set_option maxRecDepth 100000 in
set_option maxHeartbeats 2000000 in
theorem b_beat (sc : List Int32) {least : Int32} {t m V ob : Nat} (H : LI A least t) (hV : V < 2147483648) (ho : ob < nv A 1) (hv : ve A 1 < 300) (hm : m + 2641 ≤ 727906) (ni x how : Int32) (j14 j15 j16 j17 j18 j19 j20 : Option Value) (hk : row A ob 23 = 4) : Bd sc ni x (zn V) how (zn (nv A 1)) (zn ob) (row A ob 23) (zn (ve A 1)) m t (lz_ev (tL_law sc) 1456 (lw least 1 ni x (zn V) how (zn (nv A 1)) (zn ob) (row A ob 23) (zn (ve A 1)) j14 j15 j16 j17 j18 j19 j20) [] (A, m)) := by
  have H0 := H
  obtain ⟨HI, ht, h8, h74⟩ := H0
  have HI' := HI
  obtain ⟨hA, ⟨R, HR⟩, I⟩ := HI'
  have n60 := rl_n60 HR.1
  have f0 : (m ≤ 727906) = True := eq_true (by omega)
  have f1 : (m + 1 ≤ 727906) = True := eq_true (by omega)
  have f2 : (m + 1 + 1 ≤ 727906) = True := eq_true (by omega)
  have o1 := kV_e (g_goingOf hA HR ho)
  have o2 := kV_e (g_isReady hA HR ho hk)
  by_cases hg : row A ob 25 = 4
  · have a1 : fL_act [.ref 0, .int 16, .int (zn ob), .int 0, .int 0, .int 0, .int 0, .int 0] A = some (some (.int (-1273)), A) := xa_beat (kX_e (g_beatX hA HR ho hk hg)) rfl
    have o3 := kV_e (g_version hA HR)
    refine ⟨A, m + 1, least, t, some (.int 1), some (.int (zb (decide (row A ob 27 = 1)))), j16, j17, j18, j19, j20, ?_, H, by omega, by omega⟩
    generalize decide (row A ob 27 = 1) = c at *
    unfold lw
    generalize hZ : lz_ev (tL_law sc) 1715 [some (.ref 1004), some (.ref 0), some (.ref 73), some (.ref 74), some (.int least), some (.int 1), some (.int ni), some (.int x), some (.int (zn V)), some (.int how), some (.int (zn (nv A 1))), some (.int (zn ob)), some (.int (row A ob 23)), some (.int (zn (ve A 1))), some (.int 1), some (.int (zb c)), j16, j17, j18, j19, j20] [] (A, m + 1) = Z
    clear H HI HR I
    cases c
    · simp only [zb_f] at o2 hZ
      (simp (decide := true) only [e_L_law_p0 sc, e_L_law_p1 sc, e_L_law_p2 sc, e_L_law_p3 sc, e_L_law_p4 sc, e_L_law_p5 sc, e_L_law_p6 sc, lo_iload, lo_lload, lo_aload, lo_istore, lo_lstore, lo_iinc, lo_pushI, lo_pushL, lo_ii, lo_iid, lo_ll, lo_li, lo_lcmp, lo_i2l, lo_dup2, lo_goto, lo_if, lo_icmp, lq_iret_f, lq_iret_1, lq_iret_0, lq_iret_b, lq_lret, lq_bs, lq_bv, lq_bhv, lq_bhx, q_c8_0, q_c8_1, q_c8_2, q_c8_3, q_c8_4, q_set_0, q_set_1i, q_set_1r, q_set_1n, q_set_1N, q_set_s, q_set_1j, q_set_1l, q_set2_0, q_set2_1i, q_set2_1r, q_set2_1n, q_set2_s, q_if, zb_ite, cond_true, cond_false, List.getElem?_cons_zero, List.getElem?_cons_succ, Nat.reduceAdd, ↓hZ, a1, o1, o2, o3, hg, f0, f1, Int32.add_zero, Int32.reduceLT, Int32.reduceLE, Nat.reduceLeDiff, Nat.zero_le, Nat.le_refl, Nat.zero_add, if_true, if_false, zb_eq0, zb_eq1, zn_1, not_true_eq_false, not_false_eq_true, ite_true, ite_false, if_true, if_false, q_iret_0, q_iret_1, decide_true, decide_false, decide_not, zb_t, zb_f, z10, z01, cond_true, cond_false, Bool.and_true, Bool.true_and, Bool.and_false, Bool.false_and, Bool.not_true, Bool.not_false, true_and, and_true, false_and, and_false, true_or, or_true, false_or, or_false, Bool.true_eq_false, Bool.false_eq_true, eq_self, reduceCtorEq, Bool.or_true, Bool.true_or, Bool.or_false, Bool.false_or])
    · simp only [zb_t] at o2 hZ
      (simp (decide := true) only [e_L_law_p0 sc, e_L_law_p1 sc, e_L_law_p2 sc, e_L_law_p3 sc, e_L_law_p4 sc, e_L_law_p5 sc, e_L_law_p6 sc, lo_iload, lo_lload, lo_aload, lo_istore, lo_lstore, lo_iinc, lo_pushI, lo_pushL, lo_ii, lo_iid, lo_ll, lo_li, lo_lcmp, lo_i2l, lo_dup2, lo_goto, lo_if, lo_icmp, lq_iret_f, lq_iret_1, lq_iret_0, lq_iret_b, lq_lret, lq_bs, lq_bv, lq_bhv, lq_bhx, q_c8_0, q_c8_1, q_c8_2, q_c8_3, q_c8_4, q_set_0, q_set_1i, q_set_1r, q_set_1n, q_set_1N, q_set_s, q_set_1j, q_set_1l, q_set2_0, q_set2_1i, q_set2_1r, q_set2_1n, q_set2_s, q_if, zb_ite, cond_true, cond_false, List.getElem?_cons_zero, List.getElem?_cons_succ, Nat.reduceAdd, ↓hZ, a1, o1, o2, o3, hg, f0, f1, Int32.add_zero, Int32.reduceLT, Int32.reduceLE, Nat.reduceLeDiff, Nat.zero_le, Nat.le_refl, Nat.zero_add, if_true, if_false, zb_eq0, zb_eq1, zn_1, not_true_eq_false, not_false_eq_true, ite_true, ite_false, if_true, if_false, q_iret_0, q_iret_1, decide_true, decide_false, decide_not, zb_t, zb_f, z10, z01, cond_true, cond_false, Bool.and_true, Bool.true_and, Bool.and_false, Bool.false_and, Bool.not_true, Bool.not_false, true_and, and_true, false_and, and_false, true_or, or_true, false_or, or_false, Bool.true_eq_false, Bool.false_eq_true, eq_self, reduceCtorEq, Bool.or_true, Bool.true_or, Bool.or_false, Bool.false_or])
  · obtain ⟨g1, HB, F, -, nB, r27, e1, e2⟩ := bt_o HI ho hk hg (by omega)
    have a1 := va_beat (b := 0) (c := 0) (d := 0) (e := 0) (f := 0) (kW_e g1)
    have k4 : row (aBt A ob) ob 23 = 4 := by
      obtain ⟨w1, -⟩ := wr_ok A ob (dUp (row A ob) 27 1) (by omega)
      show row (aWr A ob (dUp (row A ob) 27 1)).2 ob 23 = 4
      exact (WR_row (WR_wr A ob _) I.1.1 (by omega) w1 (by decide)).trans ((dOw_n (by decide)).trans ((dUp_n (by decide)).trans hk))
    have FB : Fr A (aBt A ob) := by
      unfold aBt
      exact Fr_trans (Fr_Wr A ob (dUp (row A ob) 27 1)) (Fr_of fun a b h => sI_a (by omega))
    have FL := LI_Fr H HB FB
    generalize aBt A ob = B at *
    have HB' := HB
    obtain ⟨hB, ⟨R', HR'⟩, I'⟩ := HB'
    have o3 := kV_e (g_version hB HR')
    have o4 := kV_e (g_isReady hB HR' (o := ob) (by omega) k4)
    rw [decide_eq_true r27] at o4
    simp only [zb_t] at o4
    refine ⟨B, m + 1, least, t, some (.int 0), some (.int (zb (decide (row A ob 27 = 1)))), j16, j17, j18, j19, j20, ?_, FL, by omega, by omega⟩
    by_cases c : row A ob 27 = 1
    · rw [e1 c] at o3
      rw [decide_eq_true c] at a1 o2 ⊢
      simp only [zb_t] at a1 o2 ⊢
      unfold lw
      generalize hZ : lz_ev (tL_law sc) 1715 [some (.ref 1004), some (.ref 0), some (.ref 73), some (.ref 74), some (.int least), some (.int 1), some (.int ni), some (.int x), some (.int (zn V)), some (.int how), some (.int (zn (nv A 1))), some (.int (zn ob)), some (.int (row A ob 23)), some (.int (zn (ve A 1))), some (.int 0), some (.int 1), j16, j17, j18, j19, j20] [] (B, m + 1) = Z
      clear H HI HR HR' I I' HB F FB FL e1 e2 g1
      (simp (decide := true) only [e_L_law_p0 sc, e_L_law_p1 sc, e_L_law_p2 sc, e_L_law_p3 sc, e_L_law_p4 sc, e_L_law_p5 sc, e_L_law_p6 sc, lo_iload, lo_lload, lo_aload, lo_istore, lo_lstore, lo_iinc, lo_pushI, lo_pushL, lo_ii, lo_iid, lo_ll, lo_li, lo_lcmp, lo_i2l, lo_dup2, lo_goto, lo_if, lo_icmp, lq_iret_f, lq_iret_1, lq_iret_0, lq_iret_b, lq_lret, lq_bs, lq_bv, lq_bhv, lq_bhx, q_c8_0, q_c8_1, q_c8_2, q_c8_3, q_c8_4, q_set_0, q_set_1i, q_set_1r, q_set_1n, q_set_1N, q_set_s, q_set_1j, q_set_1l, q_set2_0, q_set2_1i, q_set2_1r, q_set2_1n, q_set2_s, q_if, zb_ite, cond_true, cond_false, List.getElem?_cons_zero, List.getElem?_cons_succ, Nat.reduceAdd, ↓hZ, a1, o1, o2, o3, o4, hg, f0, f1, Int32.add_zero, Int32.reduceLT, Int32.reduceLE, Nat.reduceLeDiff, Nat.zero_le, Nat.le_refl, Nat.zero_add, if_true, if_false, zb_eq0, zb_eq1, zn_1, not_true_eq_false, not_false_eq_true, ite_true, ite_false, if_true, if_false, q_iret_0, q_iret_1, decide_true, decide_false, decide_not, zb_t, zb_f, z10, z01, cond_true, cond_false, Bool.and_true, Bool.true_and, Bool.and_false, Bool.false_and, Bool.not_true, Bool.not_false, true_and, and_true, false_and, and_false, true_or, or_true, false_or, or_false, Bool.true_eq_false, Bool.false_eq_true, eq_self, reduceCtorEq, Bool.or_true, Bool.true_or, Bool.or_false, Bool.false_or])
    · rw [e2 c] at o3
      rw [decide_eq_false c] at a1 o2 ⊢
      simp only [zb_f] at a1 o2 ⊢
      unfold lw
      generalize hZ : lz_ev (tL_law sc) 1715 [some (.ref 1004), some (.ref 0), some (.ref 73), some (.ref 74), some (.int least), some (.int 1), some (.int ni), some (.int x), some (.int (zn V)), some (.int how), some (.int (zn (nv A 1))), some (.int (zn ob)), some (.int (row A ob 23)), some (.int (zn (ve A 1))), some (.int 0), some (.int 0), j16, j17, j18, j19, j20] [] (B, m + 1) = Z
      clear H HI HR HR' I I' HB F FB FL e1 e2 g1
      (simp (decide := true) only [e_L_law_p0 sc, e_L_law_p1 sc, e_L_law_p2 sc, e_L_law_p3 sc, e_L_law_p4 sc, e_L_law_p5 sc, e_L_law_p6 sc, lo_iload, lo_lload, lo_aload, lo_istore, lo_lstore, lo_iinc, lo_pushI, lo_pushL, lo_ii, lo_iid, lo_ll, lo_li, lo_lcmp, lo_i2l, lo_dup2, lo_goto, lo_if, lo_icmp, lq_iret_f, lq_iret_1, lq_iret_0, lq_iret_b, lq_lret, lq_bs, lq_bv, lq_bhv, lq_bhx, q_c8_0, q_c8_1, q_c8_2, q_c8_3, q_c8_4, q_set_0, q_set_1i, q_set_1r, q_set_1n, q_set_1N, q_set_s, q_set_1j, q_set_1l, q_set2_0, q_set2_1i, q_set2_1r, q_set2_1n, q_set2_s, q_if, zb_ite, cond_true, cond_false, List.getElem?_cons_zero, List.getElem?_cons_succ, Nat.reduceAdd, ↓hZ, a1, o1, o2, o3, o4, hg, f0, f1, Int32.reduceLT, Int32.reduceLE, Nat.reduceLeDiff, Nat.zero_le, Nat.le_refl, Nat.zero_add, if_true, if_false, zb_eq0, zb_eq1, zn_1, not_true_eq_false, not_false_eq_true, ite_true, ite_false, if_true, if_false, q_iret_0, q_iret_1, decide_true, decide_false, decide_not, zb_t, zb_f, z10, z01, cond_true, cond_false, Bool.and_true, Bool.true_and, Bool.and_false, Bool.false_and, Bool.not_true, Bool.not_false, true_and, and_true, false_and, and_false, true_or, or_true, false_or, or_false, Bool.true_eq_false, Bool.false_eq_true, eq_self, reduceCtorEq, Bool.or_true, Bool.true_or, Bool.or_false, Bool.false_or])
end
end

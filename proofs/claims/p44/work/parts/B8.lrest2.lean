section
/-! at rest: all of it -/
section
variable {A B R : zzMd}
theorem open_eq (I : II A) (HR : Rl0 A R) (S : allst A) {k : Nat} (hk : k < nv A 1) (h1 : row A k 23 = 1) (h2 : row A k 25 = 0) : zcnt (nv A 1) (opP A k) = zcnt (nv A 1) (podP A k) := zcnt_congr fun i hi => by
  unfold opP
  cases hp : podP A k i
  · rfl
  · obtain ⟨a, b⟩ := (rest1 I S hk h1 h2).2 i hi hp
    obtain ⟨h, g1, g2⟩ := (cur_good HR hi).1.2.2.2.2.2.2.2.1
    have hl : ¬ (2 : Int32) ≤ row A i 29 := by
      rw [g2] at a b ⊢
      rw [show (2 : Int32) = zn 2 from rfl, zn_le (a := 2) (b := h) (by decide) (by omega)]
      intro z
      have : h = 2 ∨ h = 3 := by omega
      rcases this with rfl | rfl
      · exact a rfl
      · exact b rfl
    rw [decide_eq_false hl]; rfl
theorem r_475 (H : Iv A) (S : allst A) {k n : Nat} (hk : k < nv A 1) (hn : n ≤ 84) (b t m o s : Int32) (j8 : Option Value) : lz_ev tL_isAtRest 475 [some (.ref 0), some (.int 1), some (.int b), some (.int (zn k)), some (.int t), some (.int m), some (.int o), some (.int s), j8] [.int 1] (A, n) = lz_ev tL_isAtRest 169 [some (.ref 0), some (.int 1), some (.int b), some (.int (zn (k + 1))), some (.int t), some (.int m), some (.int o), some (.int s), j8] [] (A, n) := by
  obtain ⟨hA, ⟨R, HR⟩, I⟩ := H
  have n60 := rl_n60 HR.1
  have f1 : (n ≤ 84) = True := eq_true hn
  have o1 := kV_e (g_goingOf hA HR hk)
  have o2 := kV_e (g_ownerOf hA HR hk)
  rcases (JJ_cur I.1 hk).1 with e | ⟨w, w1, w2, -⟩
  · rw [e] at o2
    clear HR I
    (simp (decide := true) only [e_L_isAtRest_p0, e_L_isAtRest_p1, lo_iload, lo_lload, lo_aload, lo_istore, lo_lstore, lo_iinc, lo_pushI, lo_pushL, lo_ii, lo_iid, lo_ll, lo_li, lo_lcmp, lo_i2l, lo_dup2, lo_goto, lo_if, lo_icmp, lq_iret_f, lq_iret_1, lq_iret_0, lq_iret_b, lq_lret, lq_bs, lq_bv, lq_bhv, lq_bhx, q_c8_0, q_c8_1, q_c8_2, q_c8_3, q_c8_4, q_set_0, q_set_1i, q_set_1r, q_set_1n, q_set_1N, q_set_s, q_set_1j, q_set_1l, q_set2_0, q_set2_1i, q_set2_1r, q_set2_1n, q_set2_s, q_if, zb_ite, cond_true, cond_false, List.getElem?_cons_zero, List.getElem?_cons_succ, Nat.reduceAdd, f1, o2, Int32.reduceLT, Int32.reduceLE, Nat.reduceLeDiff, Nat.zero_le, Nat.le_refl, Nat.zero_add, if_true, if_false, zb_eq0, zb_eq1, zn_1, not_true_eq_false, not_false_eq_true, ite_true, ite_false, if_true, if_false, q_iret_0, q_iret_1, decide_true, decide_false, decide_not, zb_t, zb_f, z10, z01, cond_true, cond_false, Bool.and_true, Bool.true_and, Bool.and_false, Bool.false_and, Bool.not_true, Bool.not_false, true_and, and_true, false_and, and_false, true_or, or_true, false_or, or_false, Bool.true_eq_false, Bool.false_eq_true, eq_self, reduceCtorEq, Bool.or_true, Bool.true_or, Bool.or_false, Bool.false_or])
  · have o3 := kV_e (g_goingOf hA HR w1)
    rw [w2] at o2
    have l0 : (zn w < 0) = False := zn_lt0 (by omega)
    obtain ⟨q, q1, q2⟩ := (cur_good HR.1 hk).1.2.2.2.1
    obtain ⟨u, u1, u2⟩ := (cur_good HR.1 w1).1.2.2.2.1
    rw [u2] at o3
    by_cases c : u < 4
    · have l4 : (zn u < 4) = True := zn_lt (a := u) (b := 4) (by omega) (by decide) ▸ eq_true c
      clear HR I
      (simp (decide := true) only [e_L_isAtRest_p0, e_L_isAtRest_p1, lo_iload, lo_lload, lo_aload, lo_istore, lo_lstore, lo_iinc, lo_pushI, lo_pushL, lo_ii, lo_iid, lo_ll, lo_li, lo_lcmp, lo_i2l, lo_dup2, lo_goto, lo_if, lo_icmp, lq_iret_f, lq_iret_1, lq_iret_0, lq_iret_b, lq_lret, lq_bs, lq_bv, lq_bhv, lq_bhx, q_c8_0, q_c8_1, q_c8_2, q_c8_3, q_c8_4, q_set_0, q_set_1i, q_set_1r, q_set_1n, q_set_1N, q_set_s, q_set_1j, q_set_1l, q_set2_0, q_set2_1i, q_set2_1r, q_set2_1n, q_set2_s, q_if, zb_ite, cond_true, cond_false, List.getElem?_cons_zero, List.getElem?_cons_succ, Nat.reduceAdd, f1, o2, o3, l0, l4, Int32.reduceLT, Int32.reduceLE, Nat.reduceLeDiff, Nat.zero_le, Nat.le_refl, Nat.zero_add, if_true, if_false, zb_eq0, zb_eq1, zn_1, not_true_eq_false, not_false_eq_true, ite_true, ite_false, if_true, if_false, q_iret_0, q_iret_1, decide_true, decide_false, decide_not, zb_t, zb_f, z10, z01, cond_true, cond_false, Bool.and_true, Bool.true_and, Bool.and_false, Bool.false_and, Bool.not_true, Bool.not_false, true_and, and_true, false_and, and_false, true_or, or_true, false_or, or_false, Bool.true_eq_false, Bool.false_eq_true, eq_self, reduceCtorEq, Bool.or_true, Bool.true_or, Bool.or_false, Bool.false_or])
    · have l4 : (zn u < 4) = False := zn_lt (a := u) (b := 4) (by omega) (by decide) ▸ eq_false c
      have cg : ¬ row A k 25 = 0 := fun z => by
        rcases rest5 I S hk z with e | ⟨w', v1, v2, v3⟩
        · rw [e] at w2
          exact zn60 rfl (show w < 60 by omega) w2.symm
        · have ew : w = w' := (zn_inj (a := w) (b := w') (by omega) (by omega)).mp (w2.symm.trans v2)
          rw [← ew, u2] at v3
          exact v3 (by rw [show u = 4 by omega]; rfl)
      have lq : (zn q ≤ 0) = False := zn_le (a := q) (b := 0) (by omega) (by decide) ▸ eq_false (fun z => cg (by rw [q2, show q = 0 by omega]; rfl))
      rw [q2] at o1
      clear HR I
      (simp (decide := true) only [e_L_isAtRest_p0, e_L_isAtRest_p1, lo_iload, lo_lload, lo_aload, lo_istore, lo_lstore, lo_iinc, lo_pushI, lo_pushL, lo_ii, lo_iid, lo_ll, lo_li, lo_lcmp, lo_i2l, lo_dup2, lo_goto, lo_if, lo_icmp, lq_iret_f, lq_iret_1, lq_iret_0, lq_iret_b, lq_lret, lq_bs, lq_bv, lq_bhv, lq_bhx, q_c8_0, q_c8_1, q_c8_2, q_c8_3, q_c8_4, q_set_0, q_set_1i, q_set_1r, q_set_1n, q_set_1N, q_set_s, q_set_1j, q_set_1l, q_set2_0, q_set2_1i, q_set2_1r, q_set2_1n, q_set2_s, q_if, zb_ite, cond_true, cond_false, List.getElem?_cons_zero, List.getElem?_cons_succ, Nat.reduceAdd, f1, o1, o2, o3, l0, l4, lq, Int32.reduceLT, Int32.reduceLE, Nat.reduceLeDiff, Nat.zero_le, Nat.le_refl, Nat.zero_add, if_true, if_false, zb_eq0, zb_eq1, zn_1, not_true_eq_false, not_false_eq_true, ite_true, ite_false, if_true, if_false, q_iret_0, q_iret_1, decide_true, decide_false, decide_not, zb_t, zb_f, z10, z01, cond_true, cond_false, Bool.and_true, Bool.true_and, Bool.and_false, Bool.false_and, Bool.not_true, Bool.not_false, true_and, and_true, false_and, and_false, true_or, or_true, false_or, or_false, Bool.true_eq_false, Bool.false_eq_true, eq_self, reduceCtorEq, Bool.or_true, Bool.true_or, Bool.or_false, Bool.false_or])
theorem r_368 (H : Iv A) (S : allst A) {k n : Nat} (hk : k < nv A 1) (hn : n ≤ 84) (b : Int32) (j8 : Option Value) : ∃ s, lz_ev tL_isAtRest 197 [some (.ref 0), some (.int 1), some (.int b), some (.int (zn k)), some (.int (row A k 23)), some (.int (zn (zcnt (nv A 1) (podP A k)))), some (.int (zn (zcnt (nv A 1) (opP A k)))), some (.int (zn (nv A 1))), j8] [] (A, n) = lz_ev tL_isAtRest 475 [some (.ref 0), some (.int 1), some (.int b), some (.int (zn k)), some (.int (row A k 23)), some (.int (zn (zcnt (nv A 1) (podP A k)))), some (.int (zn (zcnt (nv A 1) (opP A k)))), some (.int s), j8] [.int 1] (A, n) := by
  obtain ⟨hA, ⟨R, HR⟩, I⟩ := H
  have n60 := rl_n60 HR.1
  have f1 : (n ≤ 84) = True := eq_true hn
  have o0 := kV_e (g_objects hA HR)
  have o1 := kV_e (g_goingOf hA HR hk)
  have l : (zn (nv A 1) ≤ zn (nv A 1)) = True := zk_ge n60 (by decide)
  by_cases cg : row A k 25 = 0
  · refine ⟨1, ?_⟩
    by_cases c1 : row A k 23 = 1
    · have r1 := (rest1 I S hk c1 cg).1
      have r2 := open_eq I HR.1 S hk c1 cg
      have o2 : lz_g fX11_field [.ref 0, .int (zn k), .int 0] A = _ := kV_e (g_field hA HR hk (j := 0) (by rw [c1]; decide) (by decide))
      rw [r2, r1]
      generalize hZ : lz_ev tL_isAtRest 475 [some (.ref 0), some (.int 1), some (.int b), some (.int (zn k)), some (.int (row A k 23)), some (.int (row A k 0)), some (.int (row A k 0)), some (.int 1), j8] [.int 1] (A, n) = Z
      clear HR I r1 r2
      rw [c1] at hZ ⊢
      (rw [e_L_isAtRest_197]; simp (decide := true) only [e_L_isAtRest_p0, e_L_isAtRest_p1, lo_iload, lo_lload, lo_aload, lo_istore, lo_lstore, lo_iinc, lo_pushI, lo_pushL, lo_ii, lo_iid, lo_ll, lo_li, lo_lcmp, lo_i2l, lo_dup2, lo_goto, lo_if, lo_icmp, lq_iret_f, lq_iret_1, lq_iret_0, lq_iret_b, lq_lret, lq_bs, lq_bv, lq_bhv, lq_bhx, q_c8_0, q_c8_1, q_c8_2, q_c8_3, q_c8_4, q_set_0, q_set_1i, q_set_1r, q_set_1n, q_set_1N, q_set_s, q_set_1j, q_set_1l, q_set2_0, q_set2_1i, q_set2_1r, q_set2_1n, q_set2_s, q_if, zb_ite, cond_true, cond_false, List.getElem?_cons_zero, List.getElem?_cons_succ, Nat.reduceAdd, ↓hZ, l, f1, o0, o1, o2, cg, Int32.reduceLT, Int32.reduceLE, Nat.reduceLeDiff, Nat.zero_le, Nat.le_refl, Nat.zero_add, if_true, if_false, zb_eq0, zb_eq1, zn_1, not_true_eq_false, not_false_eq_true, ite_true, ite_false, if_true, if_false, q_iret_0, q_iret_1, decide_true, decide_false, decide_not, zb_t, zb_f, z10, z01, cond_true, cond_false, Bool.and_true, Bool.true_and, Bool.and_false, Bool.false_and, Bool.not_true, Bool.not_false, true_and, and_true, false_and, and_false, true_or, or_true, false_or, or_false, Bool.true_eq_false, Bool.false_eq_true, eq_self, reduceCtorEq, Bool.or_true, Bool.true_or, Bool.or_false, Bool.false_or])
    · by_cases c0 : row A k 23 = 0
      · have o2 : lz_g fX11_field [.ref 0, .int (zn k), .int 0] A = _ := kV_e (g_field hA HR hk (j := 0) (by rw [c0]; decide) (by decide))
        have o4 : lz_g fX11_field [.ref 0, .int (zn k), .int 4] A = _ := kV_e (g_field hA HR hk (j := 4) (by rw [c0]; decide) (by decide))
        have o5 : lz_g fX11_field [.ref 0, .int (zn k), .int 5] A = _ := kV_e (g_field hA HR hk (j := 5) (by rw [c0]; decide) (by decide))
        have r7 := rest7 I HR.1 S hk c0 cg
        generalize zn (zcnt (nv A 1) (podP A k)) = x
        generalize zn (zcnt (nv A 1) (opP A k)) = y
        generalize hZ : lz_ev tL_isAtRest 475 [some (.ref 0), some (.int 1), some (.int b), some (.int (zn k)), some (.int (row A k 23)), some (.int x), some (.int y), some (.int 1), j8] [.int 1] (A, n) = Z
        clear HR I
        rw [c0] at hZ ⊢
        by_cases d4 : row A k 4 = 1
        · (rw [e_L_isAtRest_197]; simp (decide := true) only [e_L_isAtRest_p0, e_L_isAtRest_p1, lo_iload, lo_lload, lo_aload, lo_istore, lo_lstore, lo_iinc, lo_pushI, lo_pushL, lo_ii, lo_iid, lo_ll, lo_li, lo_lcmp, lo_i2l, lo_dup2, lo_goto, lo_if, lo_icmp, lq_iret_f, lq_iret_1, lq_iret_0, lq_iret_b, lq_lret, lq_bs, lq_bv, lq_bhv, lq_bhx, q_c8_0, q_c8_1, q_c8_2, q_c8_3, q_c8_4, q_set_0, q_set_1i, q_set_1r, q_set_1n, q_set_1N, q_set_s, q_set_1j, q_set_1l, q_set2_0, q_set2_1i, q_set2_1r, q_set2_1n, q_set2_s, q_if, zb_ite, cond_true, cond_false, List.getElem?_cons_zero, List.getElem?_cons_succ, Nat.reduceAdd, ↓hZ, l, f1, o0, o1, o4, d4, cg, Int32.reduceLT, Int32.reduceLE, Nat.reduceLeDiff, Nat.zero_le, Nat.le_refl, Nat.zero_add, if_true, if_false, zb_eq0, zb_eq1, zn_1, not_true_eq_false, not_false_eq_true, ite_true, ite_false, if_true, if_false, q_iret_0, q_iret_1, decide_true, decide_false, decide_not, zb_t, zb_f, z10, z01, cond_true, cond_false, Bool.and_true, Bool.true_and, Bool.and_false, Bool.false_and, Bool.not_true, Bool.not_false, true_and, and_true, false_and, and_false, true_or, or_true, false_or, or_false, Bool.true_eq_false, Bool.false_eq_true, eq_self, reduceCtorEq, Bool.or_true, Bool.true_or, Bool.or_false, Bool.false_or])
        · by_cases d5 : row A k 5 = 0
          · (rw [e_L_isAtRest_197]; simp (decide := true) only [e_L_isAtRest_p0, e_L_isAtRest_p1, lo_iload, lo_lload, lo_aload, lo_istore, lo_lstore, lo_iinc, lo_pushI, lo_pushL, lo_ii, lo_iid, lo_ll, lo_li, lo_lcmp, lo_i2l, lo_dup2, lo_goto, lo_if, lo_icmp, lq_iret_f, lq_iret_1, lq_iret_0, lq_iret_b, lq_lret, lq_bs, lq_bv, lq_bhv, lq_bhx, q_c8_0, q_c8_1, q_c8_2, q_c8_3, q_c8_4, q_set_0, q_set_1i, q_set_1r, q_set_1n, q_set_1N, q_set_s, q_set_1j, q_set_1l, q_set2_0, q_set2_1i, q_set2_1r, q_set2_1n, q_set2_s, q_if, zb_ite, cond_true, cond_false, List.getElem?_cons_zero, List.getElem?_cons_succ, Nat.reduceAdd, ↓hZ, l, f1, o0, o1, o4, o5, d4, d5, cg, Int32.reduceLT, Int32.reduceLE, Nat.reduceLeDiff, Nat.zero_le, Nat.le_refl, Nat.zero_add, if_true, if_false, zb_eq0, zb_eq1, zn_1, not_true_eq_false, not_false_eq_true, ite_true, ite_false, if_true, if_false, q_iret_0, q_iret_1, decide_true, decide_false, decide_not, zb_t, zb_f, z10, z01, cond_true, cond_false, Bool.and_true, Bool.true_and, Bool.and_false, Bool.false_and, Bool.not_true, Bool.not_false, true_and, and_true, false_and, and_false, true_or, or_true, false_or, or_false, Bool.true_eq_false, Bool.false_eq_true, eq_self, reduceCtorEq, Bool.or_true, Bool.true_or, Bool.or_false, Bool.false_or])
          · obtain ⟨p1, p2⟩ := r7 d5
            have l1 : (row A k 0 < 1) = False := eq_false (Int32.not_lt.mpr p1)
            have l2 : (row A k 5 < row A k 0) = False := eq_false (Int32.not_lt.mpr p2)
            (rw [e_L_isAtRest_197]; simp (decide := true) only [e_L_isAtRest_p0, e_L_isAtRest_p1, lo_iload, lo_lload, lo_aload, lo_istore, lo_lstore, lo_iinc, lo_pushI, lo_pushL, lo_ii, lo_iid, lo_ll, lo_li, lo_lcmp, lo_i2l, lo_dup2, lo_goto, lo_if, lo_icmp, lq_iret_f, lq_iret_1, lq_iret_0, lq_iret_b, lq_lret, lq_bs, lq_bv, lq_bhv, lq_bhx, q_c8_0, q_c8_1, q_c8_2, q_c8_3, q_c8_4, q_set_0, q_set_1i, q_set_1r, q_set_1n, q_set_1N, q_set_s, q_set_1j, q_set_1l, q_set2_0, q_set2_1i, q_set2_1r, q_set2_1n, q_set2_s, q_if, zb_ite, cond_true, cond_false, List.getElem?_cons_zero, List.getElem?_cons_succ, Nat.reduceAdd, ↓hZ, l, f1, o0, o1, o2, o4, o5, d4, d5, l1, l2, cg, Int32.reduceLT, Int32.reduceLE, Nat.reduceLeDiff, Nat.zero_le, Nat.le_refl, Nat.zero_add, if_true, if_false, zb_eq0, zb_eq1, zn_1, not_true_eq_false, not_false_eq_true, ite_true, ite_false, if_true, if_false, q_iret_0, q_iret_1, decide_true, decide_false, decide_not, zb_t, zb_f, z10, z01, cond_true, cond_false, Bool.and_true, Bool.true_and, Bool.and_false, Bool.false_and, Bool.not_true, Bool.not_false, true_and, and_true, false_and, and_false, true_or, or_true, false_or, or_false, Bool.true_eq_false, Bool.false_eq_true, eq_self, reduceCtorEq, Bool.or_true, Bool.true_or, Bool.or_false, Bool.false_or])
      · generalize zn (zcnt (nv A 1) (podP A k)) = x
        generalize zn (zcnt (nv A 1) (opP A k)) = y
        generalize hZ : lz_ev tL_isAtRest 475 [some (.ref 0), some (.int 1), some (.int b), some (.int (zn k)), some (.int (row A k 23)), some (.int x), some (.int y), some (.int 1), j8] [.int 1] (A, n) = Z
        clear HR I
        (rw [e_L_isAtRest_197]; simp (decide := true) only [e_L_isAtRest_p0, e_L_isAtRest_p1, lo_iload, lo_lload, lo_aload, lo_istore, lo_lstore, lo_iinc, lo_pushI, lo_pushL, lo_ii, lo_iid, lo_ll, lo_li, lo_lcmp, lo_i2l, lo_dup2, lo_goto, lo_if, lo_icmp, lq_iret_f, lq_iret_1, lq_iret_0, lq_iret_b, lq_lret, lq_bs, lq_bv, lq_bhv, lq_bhx, q_c8_0, q_c8_1, q_c8_2, q_c8_3, q_c8_4, q_set_0, q_set_1i, q_set_1r, q_set_1n, q_set_1N, q_set_s, q_set_1j, q_set_1l, q_set2_0, q_set2_1i, q_set2_1r, q_set2_1n, q_set2_s, q_if, zb_ite, cond_true, cond_false, List.getElem?_cons_zero, List.getElem?_cons_succ, Nat.reduceAdd, ↓hZ, l, f1, o0, o1, c0, c1, cg, Int32.reduceLT, Int32.reduceLE, Nat.reduceLeDiff, Nat.zero_le, Nat.le_refl, Nat.zero_add, if_true, if_false, zb_eq0, zb_eq1, zn_1, not_true_eq_false, not_false_eq_true, ite_true, ite_false, if_true, if_false, q_iret_0, q_iret_1, decide_true, decide_false, decide_not, zb_t, zb_f, z10, z01, cond_true, cond_false, Bool.and_true, Bool.true_and, Bool.and_false, Bool.false_and, Bool.not_true, Bool.not_false, true_and, and_true, false_and, and_false, true_or, or_true, false_or, or_false, Bool.true_eq_false, Bool.false_eq_true, eq_self, reduceCtorEq, Bool.or_true, Bool.true_or, Bool.or_false, Bool.false_or])
  · refine ⟨0, ?_⟩
    generalize zn (zcnt (nv A 1) (podP A k)) = x
    generalize zn (zcnt (nv A 1) (opP A k)) = y
    generalize hZ : lz_ev tL_isAtRest 475 [some (.ref 0), some (.int 1), some (.int b), some (.int (zn k)), some (.int (row A k 23)), some (.int x), some (.int y), some (.int 0), j8] [.int 1] (A, n) = Z
    clear HR I
    by_cases c1 : row A k 23 = 1
    · rw [c1] at hZ ⊢
      (rw [e_L_isAtRest_197]; simp (decide := true) only [e_L_isAtRest_p0, e_L_isAtRest_p1, lo_iload, lo_lload, lo_aload, lo_istore, lo_lstore, lo_iinc, lo_pushI, lo_pushL, lo_ii, lo_iid, lo_ll, lo_li, lo_lcmp, lo_i2l, lo_dup2, lo_goto, lo_if, lo_icmp, lq_iret_f, lq_iret_1, lq_iret_0, lq_iret_b, lq_lret, lq_bs, lq_bv, lq_bhv, lq_bhx, q_c8_0, q_c8_1, q_c8_2, q_c8_3, q_c8_4, q_set_0, q_set_1i, q_set_1r, q_set_1n, q_set_1N, q_set_s, q_set_1j, q_set_1l, q_set2_0, q_set2_1i, q_set2_1r, q_set2_1n, q_set2_s, q_if, zb_ite, cond_true, cond_false, List.getElem?_cons_zero, List.getElem?_cons_succ, Nat.reduceAdd, ↓hZ, l, f1, o0, o1, cg, Int32.reduceLT, Int32.reduceLE, Nat.reduceLeDiff, Nat.zero_le, Nat.le_refl, Nat.zero_add, if_true, if_false, zb_eq0, zb_eq1, zn_1, not_true_eq_false, not_false_eq_true, ite_true, ite_false, if_true, if_false, q_iret_0, q_iret_1, decide_true, decide_false, decide_not, zb_t, zb_f, z10, z01, cond_true, cond_false, Bool.and_true, Bool.true_and, Bool.and_false, Bool.false_and, Bool.not_true, Bool.not_false, true_and, and_true, false_and, and_false, true_or, or_true, false_or, or_false, Bool.true_eq_false, Bool.false_eq_true, eq_self, reduceCtorEq, Bool.or_true, Bool.true_or, Bool.or_false, Bool.false_or])
    · by_cases c0 : row A k 23 = 0
      · rw [c0] at hZ ⊢
        (rw [e_L_isAtRest_197]; simp (decide := true) only [e_L_isAtRest_p0, e_L_isAtRest_p1, lo_iload, lo_lload, lo_aload, lo_istore, lo_lstore, lo_iinc, lo_pushI, lo_pushL, lo_ii, lo_iid, lo_ll, lo_li, lo_lcmp, lo_i2l, lo_dup2, lo_goto, lo_if, lo_icmp, lq_iret_f, lq_iret_1, lq_iret_0, lq_iret_b, lq_lret, lq_bs, lq_bv, lq_bhv, lq_bhx, q_c8_0, q_c8_1, q_c8_2, q_c8_3, q_c8_4, q_set_0, q_set_1i, q_set_1r, q_set_1n, q_set_1N, q_set_s, q_set_1j, q_set_1l, q_set2_0, q_set2_1i, q_set2_1r, q_set2_1n, q_set2_s, q_if, zb_ite, cond_true, cond_false, List.getElem?_cons_zero, List.getElem?_cons_succ, Nat.reduceAdd, ↓hZ, l, f1, o0, o1, cg, Int32.reduceLT, Int32.reduceLE, Nat.reduceLeDiff, Nat.zero_le, Nat.le_refl, Nat.zero_add, if_true, if_false, zb_eq0, zb_eq1, zn_1, not_true_eq_false, not_false_eq_true, ite_true, ite_false, if_true, if_false, q_iret_0, q_iret_1, decide_true, decide_false, decide_not, zb_t, zb_f, z10, z01, cond_true, cond_false, Bool.and_true, Bool.true_and, Bool.and_false, Bool.false_and, Bool.not_true, Bool.not_false, true_and, and_true, false_and, and_false, true_or, or_true, false_or, or_false, Bool.true_eq_false, Bool.false_eq_true, eq_self, reduceCtorEq, Bool.or_true, Bool.true_or, Bool.or_false, Bool.false_or])
      · (rw [e_L_isAtRest_197]; simp (decide := true) only [e_L_isAtRest_p0, e_L_isAtRest_p1, lo_iload, lo_lload, lo_aload, lo_istore, lo_lstore, lo_iinc, lo_pushI, lo_pushL, lo_ii, lo_iid, lo_ll, lo_li, lo_lcmp, lo_i2l, lo_dup2, lo_goto, lo_if, lo_icmp, lq_iret_f, lq_iret_1, lq_iret_0, lq_iret_b, lq_lret, lq_bs, lq_bv, lq_bhv, lq_bhx, q_c8_0, q_c8_1, q_c8_2, q_c8_3, q_c8_4, q_set_0, q_set_1i, q_set_1r, q_set_1n, q_set_1N, q_set_s, q_set_1j, q_set_1l, q_set2_0, q_set2_1i, q_set2_1r, q_set2_1n, q_set2_s, q_if, zb_ite, cond_true, cond_false, List.getElem?_cons_zero, List.getElem?_cons_succ, Nat.reduceAdd, ↓hZ, l, f1, o0, o1, c0, c1, cg, Int32.reduceLT, Int32.reduceLE, Nat.reduceLeDiff, Nat.zero_le, Nat.le_refl, Nat.zero_add, if_true, if_false, zb_eq0, zb_eq1, zn_1, not_true_eq_false, not_false_eq_true, ite_true, ite_false, if_true, if_false, q_iret_0, q_iret_1, decide_true, decide_false, decide_not, zb_t, zb_f, z10, z01, cond_true, cond_false, Bool.and_true, Bool.true_and, Bool.and_false, Bool.false_and, Bool.not_true, Bool.not_false, true_and, and_true, false_and, and_false, true_or, or_true, false_or, or_false, Bool.true_eq_false, Bool.false_eq_true, eq_self, reduceCtorEq, Bool.or_true, Bool.true_or, Bool.or_false, Bool.false_or])
theorem r_169 (H : Iv A) (S : allst A) {n : Nat} (hn : n ≤ 84) (b : Int32) (j4 j5 j6 j7 j8 : Option Value) : ∀ k, k ≤ nv A 1 → ∃ i4 i5 i6 i7 i8, lz_ev tL_isAtRest 169 [some (.ref 0), some (.int 1), some (.int b), some (.int 0), j4, j5, j6, j7, j8] [] (A, n) = lz_ev tL_isAtRest 169 [some (.ref 0), some (.int 1), some (.int b), some (.int (zn k)), i4, i5, i6, i7, i8] [] (A, n) := by
  intro k
  induction k with
  | zero => exact fun _ => ⟨j4, j5, j6, j7, j8, rfl⟩
  | succ k ih =>
    intro hk
    obtain ⟨i4, i5, i6, i7, i8, e⟩ := ih (by omega)
    have H' := H
    obtain ⟨hA, ⟨R, HR⟩, I⟩ := H'
    have n60 := rl_n60 HR.1
    have f1 : (n ≤ 84) = True := eq_true hn
    have o0 := kV_e (g_objects hA HR)
    have o1 := kV_e (g_kindOf hA HR (o := k) (by omega))
    have l : (zn (nv A 1) ≤ zn k) = False := zn_le (a := nv A 1) (b := k) (by omega) (by omega) ▸ eq_false (by omega)
    have s1 : lz_ev tL_isAtRest 169 [some (.ref 0), some (.int 1), some (.int b), some (.int (zn k)), i4, i5, i6, i7, i8] [] (A, n) = lz_ev tL_isAtRest 197 [some (.ref 0), some (.int 1), some (.int b), some (.int (zn k)), some (.int (row A k 23)), some (.int 0), some (.int 0), some (.int 0), i8] [] (A, n) := by
      clear e ih HR I
      (rw [e_L_isAtRest_169]; simp (decide := true) only [e_L_isAtRest_p0, e_L_isAtRest_p1, lo_iload, lo_lload, lo_aload, lo_istore, lo_lstore, lo_iinc, lo_pushI, lo_pushL, lo_ii, lo_iid, lo_ll, lo_li, lo_lcmp, lo_i2l, lo_dup2, lo_goto, lo_if, lo_icmp, lq_iret_f, lq_iret_1, lq_iret_0, lq_iret_b, lq_lret, lq_bs, lq_bv, lq_bhv, lq_bhx, q_c8_0, q_c8_1, q_c8_2, q_c8_3, q_c8_4, q_set_0, q_set_1i, q_set_1r, q_set_1n, q_set_1N, q_set_s, q_set_1j, q_set_1l, q_set2_0, q_set2_1i, q_set2_1r, q_set2_1n, q_set2_s, q_if, zb_ite, cond_true, cond_false, List.getElem?_cons_zero, List.getElem?_cons_succ, Nat.reduceAdd, l, f1, o0, o1, Int32.reduceLT, Int32.reduceLE, Nat.reduceLeDiff, Nat.zero_le, Nat.le_refl, Nat.zero_add, if_true, if_false, zb_eq0, zb_eq1, zn_1, not_true_eq_false, not_false_eq_true, ite_true, ite_false, if_true, if_false, q_iret_0, q_iret_1, decide_true, decide_false, decide_not, zb_t, zb_f, z10, z01, cond_true, cond_false, Bool.and_true, Bool.true_and, Bool.and_false, Bool.false_and, Bool.not_true, Bool.not_false, true_and, and_true, false_and, and_false, true_or, or_true, false_or, or_false, Bool.true_eq_false, Bool.false_eq_true, eq_self, reduceCtorEq, Bool.or_true, Bool.true_or, Bool.or_false, Bool.false_or])
    obtain ⟨k8, s2⟩ := r_197 H S (k := k) (by omega) hn b i8 (nv A 1) (Nat.le_refl _)
    obtain ⟨s, s3⟩ := r_368 H S (k := k) (by omega) hn b k8
    exact ⟨_, _, _, _, _, e.trans (s1.trans (s2.trans (s3.trans (r_475 H S (by omega) hn _ _ _ _ _ _))))⟩
theorem r_146 (H : Iv A) {n : Nat} (hn : n ≤ 84) (b j3 : Int32) : lz_ev tL_isAtRest 146 [some (.ref 0), some (.int 1), some (.int b), some (.int j3), none, none, none, none, none] [] (A, n) = some (some (.int 1), (A, n)) := by
  have H' := H
  obtain ⟨hA, ⟨R, HR⟩, I⟩ := H'
  have n60 := rl_n60 HR.1
  have f1 : (n ≤ 84) = True := eq_true hn
  have o0 := kV_e (g_version hA HR)
  have o1 := kV_e (g_isSettled hA HR)
  by_cases c : b = zn (ve A 1)
  · rw [c]
    cases hs : zall 8 (stc A)
    · rw [hs] at o1
      simp only [zb_f] at o1
      clear HR I H
      (simp (decide := true) only [e_L_isAtRest_p0, e_L_isAtRest_p1, lo_iload, lo_lload, lo_aload, lo_istore, lo_lstore, lo_iinc, lo_pushI, lo_pushL, lo_ii, lo_iid, lo_ll, lo_li, lo_lcmp, lo_i2l, lo_dup2, lo_goto, lo_if, lo_icmp, lq_iret_f, lq_iret_1, lq_iret_0, lq_iret_b, lq_lret, lq_bs, lq_bv, lq_bhv, lq_bhx, q_c8_0, q_c8_1, q_c8_2, q_c8_3, q_c8_4, q_set_0, q_set_1i, q_set_1r, q_set_1n, q_set_1N, q_set_s, q_set_1j, q_set_1l, q_set2_0, q_set2_1i, q_set2_1r, q_set2_1n, q_set2_s, q_if, zb_ite, cond_true, cond_false, List.getElem?_cons_zero, List.getElem?_cons_succ, Nat.reduceAdd, f1, o0, o1, Int32.reduceLT, Int32.reduceLE, Nat.reduceLeDiff, Nat.zero_le, Nat.le_refl, Nat.zero_add, if_true, if_false, zb_eq0, zb_eq1, zn_1, not_true_eq_false, not_false_eq_true, ite_true, ite_false, if_true, if_false, q_iret_0, q_iret_1, decide_true, decide_false, decide_not, zb_t, zb_f, z10, z01, cond_true, cond_false, Bool.and_true, Bool.true_and, Bool.and_false, Bool.false_and, Bool.not_true, Bool.not_false, true_and, and_true, false_and, and_false, true_or, or_true, false_or, or_false, Bool.true_eq_false, Bool.false_eq_true, eq_self, reduceCtorEq, Bool.or_true, Bool.true_or, Bool.or_false, Bool.false_or])
    · have S := allst_of hs
      rw [hs] at o1
      simp only [zb_t] at o1
      obtain ⟨i4, i5, i6, i7, i8, e⟩ := r_169 H S hn (zn (ve A 1)) none none none none none (nv A 1) (Nat.le_refl _)
      have o2 := kV_e (g_objects hA HR)
      have l : (zn (nv A 1) ≤ zn (nv A 1)) = True := zk_ge n60 (by decide)
      have s1 : lz_ev tL_isAtRest 146 [some (.ref 0), some (.int 1), some (.int (zn (ve A 1))), some (.int j3), none, none, none, none, none] [] (A, n) = lz_ev tL_isAtRest 169 [some (.ref 0), some (.int 1), some (.int (zn (ve A 1))), some (.int 0), none, none, none, none, none] [] (A, n) := by
        clear HR I H e
        (simp (decide := true) only [e_L_isAtRest_p0, e_L_isAtRest_p1, lo_iload, lo_lload, lo_aload, lo_istore, lo_lstore, lo_iinc, lo_pushI, lo_pushL, lo_ii, lo_iid, lo_ll, lo_li, lo_lcmp, lo_i2l, lo_dup2, lo_goto, lo_if, lo_icmp, lq_iret_f, lq_iret_1, lq_iret_0, lq_iret_b, lq_lret, lq_bs, lq_bv, lq_bhv, lq_bhx, q_c8_0, q_c8_1, q_c8_2, q_c8_3, q_c8_4, q_set_0, q_set_1i, q_set_1r, q_set_1n, q_set_1N, q_set_s, q_set_1j, q_set_1l, q_set2_0, q_set2_1i, q_set2_1r, q_set2_1n, q_set2_s, q_if, zb_ite, cond_true, cond_false, List.getElem?_cons_zero, List.getElem?_cons_succ, Nat.reduceAdd, f1, o0, o1, Int32.reduceLT, Int32.reduceLE, Nat.reduceLeDiff, Nat.zero_le, Nat.le_refl, Nat.zero_add, if_true, if_false, zb_eq0, zb_eq1, zn_1, not_true_eq_false, not_false_eq_true, ite_true, ite_false, if_true, if_false, q_iret_0, q_iret_1, decide_true, decide_false, decide_not, zb_t, zb_f, z10, z01, cond_true, cond_false, Bool.and_true, Bool.true_and, Bool.and_false, Bool.false_and, Bool.not_true, Bool.not_false, true_and, and_true, false_and, and_false, true_or, or_true, false_or, or_false, Bool.true_eq_false, Bool.false_eq_true, eq_self, reduceCtorEq, Bool.or_true, Bool.true_or, Bool.or_false, Bool.false_or])
      refine s1.trans (e.trans ?_)
      clear HR I H e s1
      (rw [e_L_isAtRest_169]; simp (decide := true) only [e_L_isAtRest_p0, e_L_isAtRest_p1, lo_iload, lo_lload, lo_aload, lo_istore, lo_lstore, lo_iinc, lo_pushI, lo_pushL, lo_ii, lo_iid, lo_ll, lo_li, lo_lcmp, lo_i2l, lo_dup2, lo_goto, lo_if, lo_icmp, lq_iret_f, lq_iret_1, lq_iret_0, lq_iret_b, lq_lret, lq_bs, lq_bv, lq_bhv, lq_bhx, q_c8_0, q_c8_1, q_c8_2, q_c8_3, q_c8_4, q_set_0, q_set_1i, q_set_1r, q_set_1n, q_set_1N, q_set_s, q_set_1j, q_set_1l, q_set2_0, q_set2_1i, q_set2_1r, q_set2_1n, q_set2_s, q_if, zb_ite, cond_true, cond_false, List.getElem?_cons_zero, List.getElem?_cons_succ, Nat.reduceAdd, f1, l, o2, Int32.reduceLT, Int32.reduceLE, Nat.reduceLeDiff, Nat.zero_le, Nat.le_refl, Nat.zero_add, if_true, if_false, zb_eq0, zb_eq1, zn_1, not_true_eq_false, not_false_eq_true, ite_true, ite_false, if_true, if_false, q_iret_0, q_iret_1, decide_true, decide_false, decide_not, zb_t, zb_f, z10, z01, cond_true, cond_false, Bool.and_true, Bool.true_and, Bool.and_false, Bool.false_and, Bool.not_true, Bool.not_false, true_and, and_true, false_and, and_false, true_or, or_true, false_or, or_false, Bool.true_eq_false, Bool.false_eq_true, eq_self, reduceCtorEq, Bool.or_true, Bool.true_or, Bool.or_false, Bool.false_or])
  · clear HR I H
    (simp (decide := true) only [e_L_isAtRest_p0, e_L_isAtRest_p1, lo_iload, lo_lload, lo_aload, lo_istore, lo_lstore, lo_iinc, lo_pushI, lo_pushL, lo_ii, lo_iid, lo_ll, lo_li, lo_lcmp, lo_i2l, lo_dup2, lo_goto, lo_if, lo_icmp, lq_iret_f, lq_iret_1, lq_iret_0, lq_iret_b, lq_lret, lq_bs, lq_bv, lq_bhv, lq_bhx, q_c8_0, q_c8_1, q_c8_2, q_c8_3, q_c8_4, q_set_0, q_set_1i, q_set_1r, q_set_1n, q_set_1N, q_set_s, q_set_1j, q_set_1l, q_set2_0, q_set2_1i, q_set2_1r, q_set2_1n, q_set2_s, q_if, zb_ite, cond_true, cond_false, List.getElem?_cons_zero, List.getElem?_cons_succ, Nat.reduceAdd, f1, o0, c, Int32.reduceLT, Int32.reduceLE, Nat.reduceLeDiff, Nat.zero_le, Nat.le_refl, Nat.zero_add, if_true, if_false, zb_eq0, zb_eq1, zn_1, not_true_eq_false, not_false_eq_true, ite_true, ite_false, if_true, if_false, q_iret_0, q_iret_1, decide_true, decide_false, decide_not, zb_t, zb_f, z10, z01, cond_true, cond_false, Bool.and_true, Bool.true_and, Bool.and_false, Bool.false_and, Bool.not_true, Bool.not_false, true_and, and_true, false_and, and_false, true_or, or_true, false_or, or_false, Bool.true_eq_false, Bool.false_eq_true, eq_self, reduceCtorEq, Bool.or_true, Bool.true_or, Bool.or_false, Bool.false_or])
theorem w_isAtRest (H : Iv A) (hv : ve A 1 ≤ 330) {t : Nat} (ht : A.1 1 7 = zn t) (h1 : t + 12 ≤ 10000) : ∃ B, fL_isAtRest [.ref 0] A = some (some (.int 1), B) ∧ Iv B ∧ Ft 12 A B := by
  obtain ⟨B1, n1, hn1, e1, H1, F1, -, nb⟩ := r_4 H hv (nv A 1) (Nat.le_refl _)
  have n60 : nv A 1 ≤ 60 := (Lg_n60 H.2.2.1.1).1
  obtain ⟨s, s1, s2⟩ := F1.1 t ht
  have s0 : s = 0 := by omega
  rw [s0, Nat.add_zero] at s2
  obtain ⟨B2, n2, b2, j3, e2, hn2, H2, F2⟩ := r_65 12 (Nat.le_refl _) B1 n1 t (-1) H1 s2 h1 (by omega)
  have e2 : lz_ev tL_isAtRest 65 [some (.ref 0), some (.int 1), some (.int (-1)), some (.int 0), none, none, none, none, none] [] (B1, n1) = _ := e2
  have e3 := r_146 H2 hn2 b2 j3
  have p1 : lz_ev tL_isAtRest 0 [some (.ref 0), none, none, none, none, none, none, none, none] [] (A, 0) = lz_ev tL_isAtRest 4 [some (.ref 0), some (.int 1), some (.int 0), none, none, none, none, none, none] [] (A, 0) := by
    clear e1 e2 e3
    (simp (decide := true) only [e_L_isAtRest_p0, e_L_isAtRest_p1, lo_iload, lo_lload, lo_aload, lo_istore, lo_lstore, lo_iinc, lo_pushI, lo_pushL, lo_ii, lo_iid, lo_ll, lo_li, lo_lcmp, lo_i2l, lo_dup2, lo_goto, lo_if, lo_icmp, lq_iret_f, lq_iret_1, lq_iret_0, lq_iret_b, lq_lret, lq_bs, lq_bv, lq_bhv, lq_bhx, q_c8_0, q_c8_1, q_c8_2, q_c8_3, q_c8_4, q_set_0, q_set_1i, q_set_1r, q_set_1n, q_set_1N, q_set_s, q_set_1j, q_set_1l, q_set2_0, q_set2_1i, q_set2_1r, q_set2_1n, q_set2_s, q_if, zb_ite, cond_true, cond_false, List.getElem?_cons_zero, List.getElem?_cons_succ, Nat.reduceAdd, Int32.reduceLT, Int32.reduceLE, Nat.reduceLeDiff, Nat.zero_le, Nat.le_refl, Nat.zero_add, if_true, if_false, zb_eq0, zb_eq1, zn_1, not_true_eq_false, not_false_eq_true, ite_true, ite_false, if_true, if_false, q_iret_0, q_iret_1, decide_true, decide_false, decide_not, zb_t, zb_f, z10, z01, cond_true, cond_false, Bool.and_true, Bool.true_and, Bool.and_false, Bool.false_and, Bool.not_true, Bool.not_false, true_and, and_true, false_and, and_false, true_or, or_true, false_or, or_false, Bool.true_eq_false, Bool.false_eq_true, eq_self, reduceCtorEq, Bool.or_true, Bool.true_or, Bool.or_false, Bool.false_or])
  have H1' := H1
  obtain ⟨hB1, ⟨R1, HR1⟩, -⟩ := H1'
  have o0 := kV_e (g_objects hB1 HR1)
  rw [nb] at o0
  have l : (zn (nv A 1) ≤ zn (nv A 1)) = True := zk_ge n60 (by decide)
  have f1 : (n1 ≤ 84) = True := eq_true (by omega)
  have p2 : lz_ev tL_isAtRest 4 [some (.ref 0), some (.int 1), some (.int (zn (nv A 1))), none, none, none, none, none, none] [] (B1, n1) = lz_ev tL_isAtRest 65 [some (.ref 0), some (.int 1), some (.int (-1)), some (.int 0), none, none, none, none, none] [] (B1, n1) := by
    clear e1 e2 e3 p1 HR1 H1 H2 F1 F2 H
    (rw [e_L_isAtRest_4]; simp (decide := true) only [e_L_isAtRest_p0, e_L_isAtRest_p1, lo_iload, lo_lload, lo_aload, lo_istore, lo_lstore, lo_iinc, lo_pushI, lo_pushL, lo_ii, lo_iid, lo_ll, lo_li, lo_lcmp, lo_i2l, lo_dup2, lo_goto, lo_if, lo_icmp, lq_iret_f, lq_iret_1, lq_iret_0, lq_iret_b, lq_lret, lq_bs, lq_bv, lq_bhv, lq_bhx, q_c8_0, q_c8_1, q_c8_2, q_c8_3, q_c8_4, q_set_0, q_set_1i, q_set_1r, q_set_1n, q_set_1N, q_set_s, q_set_1j, q_set_1l, q_set2_0, q_set2_1i, q_set2_1r, q_set2_1n, q_set2_s, q_if, zb_ite, cond_true, cond_false, List.getElem?_cons_zero, List.getElem?_cons_succ, Nat.reduceAdd, f1, l, o0, Int32.reduceLT, Int32.reduceLE, Nat.reduceLeDiff, Nat.zero_le, Nat.le_refl, Nat.zero_add, if_true, if_false, zb_eq0, zb_eq1, zn_1, not_true_eq_false, not_false_eq_true, ite_true, ite_false, if_true, if_false, q_iret_0, q_iret_1, decide_true, decide_false, decide_not, zb_t, zb_f, z10, z01, cond_true, cond_false, Bool.and_true, Bool.true_and, Bool.and_false, Bool.false_and, Bool.not_true, Bool.not_false, true_and, and_true, false_and, and_false, true_or, or_true, false_or, or_false, Bool.true_eq_false, Bool.false_eq_true, eq_self, reduceCtorEq, Bool.or_true, Bool.true_or, Bool.or_false, Bool.false_or])
  exact ⟨B2, s_L_isAtRest _ (p1.trans (e1.trans (p2.trans (e2.trans e3)))), H2, by
    have := Ft_trans F1 F2
    rw [Nat.zero_add] at this
    exact this⟩
end
end

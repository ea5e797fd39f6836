section
/-! COLLECTOR, in both: the whole -/
section
variable {A R : zzMd} {c o : Nat}
theorem r_writesNo (H : rKy A R c o) {b : Nat} (hb : b < nv A 1) (u : utd A c b = false) (x y : Int64) : actTo A (false, A) c o R (fX12_writesIt [.ref 0, .int (zn b), .long x, .long y] R) := by
  have h14 := H.1.1.2.1.1.1
  have h13 := H.1.1.1.2.1.2.2.1
  have hi := r_isCurrent H.1 hb
  unfold actTo
  rw [s_X12_writesIt, h13]
  rw [u] at hi
  obtain ⟨R', e1, e2, e3⟩ := r_wrote H (e := ve A 1) (Nat.le_refl _)
  refine ⟨R', ?_, e2, e3⟩
  (simp only [e_X12_writesIt, zo_iload, zo_lload, zo_aload, zo_istore, zo_lstore, zo_astore, zo_iinc, zo_pushI, zo_pushL, zo_null, zo_ii, zo_iid, zo_ll, zo_li, zo_lcmp, zo_i2l, zo_l2i, zo_dup, zo_dup2, zo_pop, zo_goto, zo_if, zo_icmp, zo_ifnull, zo_gets, zo_mm, zo_throw, zo_ret, zo_aret, zo_lret, q_iret_f, q_iret_1, q_iret_0, q_iret_b, q_c8_0, q_c8_1, q_c8_2, q_c8_3, q_c8_4, q_set_0, q_set_1i, q_set_1r, q_set_1n, q_set_1N, q_set_s, q_set_1j, q_bk_v, q_bk_n, q_if, zb_ite, cond_true, cond_false, List.getElem?_cons_zero, List.getElem?_cons_succ, Nat.reduceAdd, q_set_1l, q_set2_0, q_set2_1i, q_set2_1r, q_set2_1n, q_set2_s, h14, hi, e1, if_true, if_false, zb_eq0, zb_eq1, zn_1, not_true_eq_false, not_false_eq_true, ite_true, ite_false, if_true, if_false, q_iret_0, q_iret_1, decide_true, decide_false, decide_not, zb_t, zb_f, z10, z01, cond_true, cond_false, Bool.and_true, Bool.true_and, Bool.and_false, Bool.false_and, Bool.not_true, Bool.not_false, true_and, and_true, false_and, and_false, true_or, or_true, false_or, or_false, Bool.true_eq_false, Bool.false_eq_true, eq_self, reduceCtorEq, Bool.or_true, Bool.true_or, Bool.or_false, Bool.false_or])
theorem go4_enc (H : Rl0 A R) {i : Nat} (hb : i < nv A 1) (h28 : row A i 28 = -1) : encR (wt (wt (R.2 7 i) 13 4) 11 0) (dOw (dUp (row A i) 25 4)) ∧ goodD (dOw (dUp (row A i) 25 4)) := by
  obtain ⟨c1, c2, c3, c4, c5⟩ := rl_cur H hb
  obtain ⟨gF, g1, g2, g3, g4, g5, g6, g7, g8⟩ := c3
  have e : dOw (dUp (row A i) 25 4) = dUp (dUp (row A i) 25 4) 24 (-1) := if_pos rfl
  rw [e]
  have s1 := enc_wv (k := 13) (a := 4) (u := 4) (v := 4) (by decide) (by decide) rfl (by decide) c1
  have s2 := enc_wv (k := 11) (a := 0) (u := 0) (v := -1) (by decide) (by decide) rfl (by decide) s1
  refine ⟨s2, fun f hf => ?_, g1, Or.inl rfl, ⟨4, by decide, rfl⟩, g4, g5, g6, g7, fun z => ⟨rfl, h28⟩⟩
  show ∃ a, (if f = 24 then (-1 : Int32) else if f = 25 then 4 else row A i f) = zn a ∧ _
  rw [if_neg (by omega), if_neg (by omega)]
  exact gF f hf
set_option maxHeartbeats 4000000 in
theorem r_collects (H : rKy A R 5 o) : srvTo A (dS5 A A o) 5 o (fX12_collects [.ref 0] R) := by
  have h60 := H.2.2.2
  have h43 := H.2.2.1
  obtain ⟨b1, x1⟩ := kinds_o o h60
  have hg := r_goneT H.1 h60
  have hvw := r_view H.1 h60
  simp only [Nat.reduceAdd] at hg
  have n40 : ((4 : Int32) = 0) = False := eq_false (by decide)
  rw [s_X12_collects]
  unfold dS5
  cases d1 : gone A 8 (zn o)
  · have d1' : ¬ rd A 8 (zn o) 25 = 4 := of_decide_eq_false d1
    rw [decide_eq_false d1', cond_false]
    have hs : o < nv A 8 := seen_of H.1 h60 d1
    have hon : o < nv A 1 := Nat.lt_of_lt_of_le hs (rv_nv H.1)
    have ho := r_ownerV H.1 (o := o) hs
    simp only [Nat.reduceAdd] at ho
    obtain ⟨V, v12, v13, v14, v15, v16⟩ := r_vw H.1 (o := o) hs
    simp only [Nat.reduceAdd] at v12 v13 v15
    obtain ⟨-, -, g, g22, g23⟩ := rv_row H.1 (o := o) hs
    simp only [Nat.reduceAdd] at g g22 g23
    by_cases d2 : rd A 8 (zn o) 25 = 0
    · rw [decide_eq_true d2, cond_true]
      rcases g.2.2.1 with w0 | ⟨w, w1, w2⟩
      · have w0' : rd A 8 (zn o) 24 = -1 := w0
        rw [decide_eq_true w0']
        have e : zz_ev tX12_collects 0 [some (.ref 0), none, none, none] [] R = some (.inl (some (.int 1)), R) := by
          (simp only [e_X12_collects, zo_iload, zo_lload, zo_aload, zo_istore, zo_lstore, zo_astore, zo_iinc, zo_pushI, zo_pushL, zo_null, zo_ii, zo_iid, zo_ll, zo_li, zo_lcmp, zo_i2l, zo_l2i, zo_dup, zo_dup2, zo_pop, zo_goto, zo_if, zo_icmp, zo_ifnull, zo_gets, zo_mm, zo_throw, zo_ret, zo_aret, zo_lret, q_iret_f, q_iret_1, q_iret_0, q_iret_b, q_c8_0, q_c8_1, q_c8_2, q_c8_3, q_c8_4, q_set_0, q_set_1i, q_set_1r, q_set_1n, q_set_1N, q_set_s, q_set_1j, q_bk_v, q_bk_n, q_if, zb_ite, cond_true, cond_false, List.getElem?_cons_zero, List.getElem?_cons_succ, Nat.reduceAdd, q_set_1l, q_set2_0, q_set2_1i, q_set2_1r, q_set2_1n, q_set2_s, h43, hg, d1, v13, d2, hvw, ho, w0', if_true, if_false, zb_eq0, zb_eq1, zn_1, not_true_eq_false, not_false_eq_true, ite_true, ite_false, if_true, if_false, q_iret_0, q_iret_1, decide_true, decide_false, decide_not, zb_t, zb_f, z10, z01, cond_true, cond_false, Bool.and_true, Bool.true_and, Bool.and_false, Bool.false_and, Bool.not_true, Bool.not_false, true_and, and_true, false_and, and_false, true_or, or_true, false_or, or_false, Bool.true_eq_false, Bool.false_eq_true, eq_self, reduceCtorEq, Bool.or_true, Bool.true_or, Bool.or_false, Bool.false_or])
        rw [e]
        exact srv_no H
      · have w1' : rd A 8 (zn o) 24 = zn w := w1
        have g22' : rd A 8 (zn o) 22 = zn o := g22
        have w2' : w < zz_ix (rd A 8 (zn o) 22) := w2
        rw [g22', zn_ix (by omega)] at w2'
        have hw60 : w < 60 := by omega
        have hws : w < nv A 8 := by omega
        have wm : (zn w = -1) = False := zn_m1 (k := w) (by omega)
        rw [w1'] at ho ⊢
        rw [decide_eq_false wm.mp]
        have hsn := r_isSeen H.1 hw60
        simp only [Nat.reduceAdd] at hsn
        rw [decide_eq_true hws] at hsn
        have u13 := (r_vw H.1 (o := w) hws).2.2.1
        simp only [Nat.reduceAdd] at u13
        by_cases d3 : rd A 8 (zn w) 25 = 4
        · have d3' : gone A 8 (zn w) = true := decide_eq_true d3
          rw [d3']
          simp only [Bool.not_false, Bool.and_self, cond_true]
          refine srv_act (R := R) ?_
          obtain ⟨R', e1, e2, e3⟩ := r_deletes H hon
          refine ⟨R', ?_, e2, e3⟩
          clear e2
          generalize aRem A 5 o = P at e1 ⊢
          cases hp : P.1 <;> rw [hp] at e1
          · simp only [zb_f] at e1
            (simp only [e_X12_collects, zo_iload, zo_lload, zo_aload, zo_istore, zo_lstore, zo_astore, zo_iinc, zo_pushI, zo_pushL, zo_null, zo_ii, zo_iid, zo_ll, zo_li, zo_lcmp, zo_i2l, zo_l2i, zo_dup, zo_dup2, zo_pop, zo_goto, zo_if, zo_icmp, zo_ifnull, zo_gets, zo_mm, zo_throw, zo_ret, zo_aret, zo_lret, q_iret_f, q_iret_1, q_iret_0, q_iret_b, q_c8_0, q_c8_1, q_c8_2, q_c8_3, q_c8_4, q_set_0, q_set_1i, q_set_1r, q_set_1n, q_set_1N, q_set_s, q_set_1j, q_bk_v, q_bk_n, q_if, zb_ite, cond_true, cond_false, List.getElem?_cons_zero, List.getElem?_cons_succ, Nat.reduceAdd, q_set_1l, q_set2_0, q_set2_1i, q_set2_1r, q_set2_1n, q_set2_s, h43, hg, d1, v13, d2, hvw, ho, wm, hsn, u13, d3, e1, if_true, if_false, zb_eq0, zb_eq1, zn_1, not_true_eq_false, not_false_eq_true, ite_true, ite_false, if_true, if_false, q_iret_0, q_iret_1, decide_true, decide_false, decide_not, zb_t, zb_f, z10, z01, cond_true, cond_false, Bool.and_true, Bool.true_and, Bool.and_false, Bool.false_and, Bool.not_true, Bool.not_false, true_and, and_true, false_and, and_false, true_or, or_true, false_or, or_false, Bool.true_eq_false, Bool.false_eq_true, eq_self, reduceCtorEq, Bool.or_true, Bool.true_or, Bool.or_false, Bool.false_or])
          · simp only [zb_t] at e1
            (simp only [e_X12_collects, zo_iload, zo_lload, zo_aload, zo_istore, zo_lstore, zo_astore, zo_iinc, zo_pushI, zo_pushL, zo_null, zo_ii, zo_iid, zo_ll, zo_li, zo_lcmp, zo_i2l, zo_l2i, zo_dup, zo_dup2, zo_pop, zo_goto, zo_if, zo_icmp, zo_ifnull, zo_gets, zo_mm, zo_throw, zo_ret, zo_aret, zo_lret, q_iret_f, q_iret_1, q_iret_0, q_iret_b, q_c8_0, q_c8_1, q_c8_2, q_c8_3, q_c8_4, q_set_0, q_set_1i, q_set_1r, q_set_1n, q_set_1N, q_set_s, q_set_1j, q_bk_v, q_bk_n, q_if, zb_ite, cond_true, cond_false, List.getElem?_cons_zero, List.getElem?_cons_succ, Nat.reduceAdd, q_set_1l, q_set2_0, q_set2_1i, q_set2_1r, q_set2_1n, q_set2_s, h43, hg, d1, v13, d2, hvw, ho, wm, hsn, u13, d3, e1, if_true, if_false, zb_eq0, zb_eq1, zn_1, not_true_eq_false, not_false_eq_true, ite_true, ite_false, if_true, if_false, q_iret_0, q_iret_1, decide_true, decide_false, decide_not, zb_t, zb_f, z10, z01, cond_true, cond_false, Bool.and_true, Bool.true_and, Bool.and_false, Bool.false_and, Bool.not_true, Bool.not_false, true_and, and_true, false_and, and_false, true_or, or_true, false_or, or_false, Bool.true_eq_false, Bool.false_eq_true, eq_self, reduceCtorEq, Bool.or_true, Bool.true_or, Bool.or_false, Bool.false_or])
        · have d3' : gone A 8 (zn w) = false := decide_eq_false d3
          rw [d3']
          have e : zz_ev tX12_collects 0 [some (.ref 0), none, none, none] [] R = some (.inl (some (.int 1)), R) := by
            (simp only [e_X12_collects, zo_iload, zo_lload, zo_aload, zo_istore, zo_lstore, zo_astore, zo_iinc, zo_pushI, zo_pushL, zo_null, zo_ii, zo_iid, zo_ll, zo_li, zo_lcmp, zo_i2l, zo_l2i, zo_dup, zo_dup2, zo_pop, zo_goto, zo_if, zo_icmp, zo_ifnull, zo_gets, zo_mm, zo_throw, zo_ret, zo_aret, zo_lret, q_iret_f, q_iret_1, q_iret_0, q_iret_b, q_c8_0, q_c8_1, q_c8_2, q_c8_3, q_c8_4, q_set_0, q_set_1i, q_set_1r, q_set_1n, q_set_1N, q_set_s, q_set_1j, q_bk_v, q_bk_n, q_if, zb_ite, cond_true, cond_false, List.getElem?_cons_zero, List.getElem?_cons_succ, Nat.reduceAdd, q_set_1l, q_set2_0, q_set2_1i, q_set2_1r, q_set2_1n, q_set2_s, h43, hg, d1, v13, d2, hvw, ho, wm, hsn, u13, d3, if_true, if_false, zb_eq0, zb_eq1, zn_1, not_true_eq_false, not_false_eq_true, ite_true, ite_false, if_true, if_false, q_iret_0, q_iret_1, decide_true, decide_false, decide_not, zb_t, zb_f, z10, z01, cond_true, cond_false, Bool.and_true, Bool.true_and, Bool.and_false, Bool.false_and, Bool.not_true, Bool.not_false, true_and, and_true, false_and, and_false, true_or, or_true, false_or, or_false, Bool.true_eq_false, Bool.false_eq_true, eq_self, reduceCtorEq, Bool.or_true, Bool.true_or, Bool.or_false, Bool.false_or])
          rw [e, Bool.and_false, cond_false]
          exact srv_no H
    · rw [decide_eq_false d2, cond_false]
      have hcnt := r_ownCount H
      have hown := r_ownSome H
      have cle : ∀ k, (zn (zcnt k fun i => decide (rd A 8 (zn i) 24 = zn o)) ≤ 0) = (¬ 0 < zcnt k fun i => decide (rd A 8 (zn i) 24 = zn o)) → True := fun _ _ => trivial
      have hcl : zcnt (nv A 1) (fun i => decide (rd A 8 (zn i) 24 = zn o)) ≤ nv A 1 := zcnt_le _ _
      have hn := rl_n60 H.1.1
      generalize zcnt (nv A 1) (fun i => decide (rd A 8 (zn i) 24 = zn o)) = k at hcnt hown hcl
      clear cle
      have kle : (zn k ≤ 0) = ¬ 0 < k := by
        have := zn_le (a := k) (b := 0) (by omega) (by decide)
        rw [show (zn 0 : Int32) = 0 from rfl] at this
        rw [this]
        exact propext ⟨fun z => by omega, fun z => by omega⟩
      have tail : zz_ev tX12_collects 0 [some (.ref 0), none, none, none] [] R = zz_ev tX12_collects 110 [some (.ref 0), some (.int (rd A 8 (zn o) 25)), none, none] [] R → srvTo A (bif kept A 8 (zn o) then (1, A) else oc2 (aSet A 5 o 25 4)) 5 o (zz_ev tX12_collects 0 [some (.ref 0), none, none, none] [] R) := fun e110 => by
        rw [e110]
        clear e110
        have hkept : kept A 8 (zn o) = (decide (rd A 8 (zn o) 26 = 1) || decide (R.1 6 o = 2 ∧ 0 < rd A 8 (zn o) 28 + 1)) := by
          unfold kept
          rcases g.2.2.2.2.2.2.1 with z | ⟨p, z1, z2, z3⟩
          · have z' : rd A 8 (zn o) 28 = -1 := z
            rw [z']
            by_cases q : rd A 8 (zn o) 26 = 1
            · simp only [q, not_true_eq_false, not_false_eq_true, ite_true, ite_false, if_true, if_false, q_iret_0, q_iret_1, decide_true, decide_false, decide_not, zb_t, zb_f, z10, z01, cond_true, cond_false, Bool.and_true, Bool.true_and, Bool.and_false, Bool.false_and, Bool.not_true, Bool.not_false, true_and, and_true, false_and, and_false, true_or, or_true, false_or, or_false, Bool.true_eq_false, Bool.false_eq_true, eq_self, reduceCtorEq, Bool.or_true, Bool.true_or, Bool.or_false, Bool.false_or]
            · simp only [q, show ((0 : Int32) < -1 + 1) = False from eq_false (by decide), not_true_eq_false, not_false_eq_true, ite_true, ite_false, if_true, if_false, q_iret_0, q_iret_1, decide_true, decide_false, decide_not, zb_t, zb_f, z10, z01, cond_true, cond_false, Bool.and_true, Bool.true_and, Bool.and_false, Bool.false_and, Bool.not_true, Bool.not_false, true_and, and_true, false_and, and_false, true_or, or_true, false_or, or_false, Bool.true_eq_false, Bool.false_eq_true, eq_self, reduceCtorEq, Bool.or_true, Bool.true_or, Bool.or_false, Bool.false_or]
          · have z2' : rd A 8 (zn o) 28 = zn p := z2
            have z3' : rd A 8 (zn o) 23 = 2 := z3
            rw [g23] at z3'
            have a1 : ¬ zn p = -1 := (zn_m1 (k := p) (by omega)).mp
            have a2 : (0 : Int32) < zn p + 1 := by
              rw [zn_1]
              have := zn_lt (a := 0) (b := p + 1) (by decide) (by omega)
              rw [show (zn 0 : Int32) = 0 from rfl] at this
              rw [this]; omega
            rw [z2', decide_eq_true (show rd A 8 (zn o) 26 = 1 ∨ ¬ zn p = -1 from Or.inr a1), decide_eq_true (show R.1 6 o = 2 ∧ 0 < zn p + 1 from ⟨z3', a2⟩), Bool.or_true]
        rw [hkept]
        by_cases k1 : rd A 8 (zn o) 26 = 1
        · rw [decide_eq_true k1, Bool.true_or, cond_true]
          have e : zz_ev tX12_collects 110 [some (.ref 0), some (.int (rd A 8 (zn o) 25)), none, none] [] R = some (.inl (some (.int 1)), R) := by
            (simp only [e_X12_collects, zo_iload, zo_lload, zo_aload, zo_istore, zo_lstore, zo_astore, zo_iinc, zo_pushI, zo_pushL, zo_null, zo_ii, zo_iid, zo_ll, zo_li, zo_lcmp, zo_i2l, zo_l2i, zo_dup, zo_dup2, zo_pop, zo_goto, zo_if, zo_icmp, zo_ifnull, zo_gets, zo_mm, zo_throw, zo_ret, zo_aret, zo_lret, q_iret_f, q_iret_1, q_iret_0, q_iret_b, q_c8_0, q_c8_1, q_c8_2, q_c8_3, q_c8_4, q_set_0, q_set_1i, q_set_1r, q_set_1n, q_set_1N, q_set_s, q_set_1j, q_bk_v, q_bk_n, q_if, zb_ite, cond_true, cond_false, List.getElem?_cons_zero, List.getElem?_cons_succ, Nat.reduceAdd, q_set_1l, q_set2_0, q_set2_1i, q_set2_1r, q_set2_1n, q_set2_s, h43, v12, k1, if_true, if_false, zb_eq0, zb_eq1, zn_1, not_true_eq_false, not_false_eq_true, ite_true, ite_false, if_true, if_false, q_iret_0, q_iret_1, decide_true, decide_false, decide_not, zb_t, zb_f, z10, z01, cond_true, cond_false, Bool.and_true, Bool.true_and, Bool.and_false, Bool.false_and, Bool.not_true, Bool.not_false, true_and, and_true, false_and, and_false, true_or, or_true, false_or, or_false, Bool.true_eq_false, Bool.false_eq_true, eq_self, reduceCtorEq, Bool.or_true, Bool.true_or, Bool.or_false, Bool.false_or])
          rw [e]
          exact srv_no H
        · rw [decide_eq_false k1, Bool.false_or]
          have fin : ∀ (P : Prop) [Decidable P], ¬ P → (P ↔ (R.1 6 o = 2 ∧ 0 < rd A 8 (zn o) 28 + 1)) → srvTo A (oc2 (aSet A 5 o 25 4)) 5 o (fX12_writesIt [.ref 0, .int (zn o), .long (wt (wt (R.2 7 o) 13 4) 11 0), .long (R.2 8 o)] R) := fun P _ hP hq => by
            refine srv_act (R := R) ?_
            unfold aSet
            rw [show rd A (3 + 5) (zn o) (zn 25) = rd A 8 (zn o) 25 from rfl, decide_eq_false d1', cond_false]
            cases u : utd A 5 o
            · exact r_writesNo H hon u _ _
            · have u28 : rd A 8 (zn o) 28 = row A o 28 := utd_row H.1 hon u (s := 28) (by decide)
              have r28 : row A o 28 = -1 := by
                rcases g.2.2.2.2.2.2.1 with z | ⟨p, z1, z2, z3⟩
                · rw [← u28]; exact z
                · exfalso
                  have z2' : rd A 8 (zn o) 28 = zn p := z2
                  have z3' : rd A 8 (zn o) 23 = 2 := z3
                  rw [g23] at z3'
                  refine hP (hq.mpr ⟨z3', ?_⟩)
                  rw [z2', zn_1]
                  have := zn_lt (a := 0) (b := p + 1) (by decide) (by omega)
                  rw [show (zn 0 : Int32) = 0 from rfl] at this
                  rw [this]; omega
              obtain ⟨c1, c2, c3, c4, c5⟩ := rl_cur H.1.1 hon
              obtain ⟨e1, e2⟩ := go4_enc H.1.1 hon r28
              have := r_writesIt H hon (D := dUp (row A o) 25 4) e2 c4 c5 e1 (encB_c c2 rfl rfl) fun f hf => if_neg (by omega)
              rw [u] at this
              exact this
          have hgn := r_gone H.1.1.1.1 (R.2 7 o)
          by_cases k2 : R.1 6 o = 2
          · by_cases k3 : 0 < rd A 8 (zn o) 28 + 1
            · rw [decide_eq_true ⟨k2, k3⟩, cond_true]
              have k3' : (rd A 8 (zn o) 28 + 1 ≤ 0) = False := eq_false (Int32.not_le.mpr k3)
              have e : zz_ev tX12_collects 110 [some (.ref 0), some (.int (rd A 8 (zn o) 25)), none, none] [] R = some (.inl (some (.int 1)), R) := by
                (simp only [e_X12_collects, zo_iload, zo_lload, zo_aload, zo_istore, zo_lstore, zo_astore, zo_iinc, zo_pushI, zo_pushL, zo_null, zo_ii, zo_iid, zo_ll, zo_li, zo_lcmp, zo_i2l, zo_l2i, zo_dup, zo_dup2, zo_pop, zo_goto, zo_if, zo_icmp, zo_ifnull, zo_gets, zo_mm, zo_throw, zo_ret, zo_aret, zo_lret, q_iret_f, q_iret_1, q_iret_0, q_iret_b, q_c8_0, q_c8_1, q_c8_2, q_c8_3, q_c8_4, q_set_0, q_set_1i, q_set_1r, q_set_1n, q_set_1N, q_set_s, q_set_1j, q_bk_v, q_bk_n, q_if, zb_ite, cond_true, cond_false, List.getElem?_cons_zero, List.getElem?_cons_succ, Nat.reduceAdd, q_set_1l, q_set2_0, q_set2_1i, q_set2_1r, q_set2_1n, q_set2_s, h43, v12, k1, b1, x1, q_aR, k2, v15, k3', if_true, if_false, zb_eq0, zb_eq1, zn_1, not_true_eq_false, not_false_eq_true, ite_true, ite_false, if_true, if_false, q_iret_0, q_iret_1, decide_true, decide_false, decide_not, zb_t, zb_f, z10, z01, cond_true, cond_false, Bool.and_true, Bool.true_and, Bool.and_false, Bool.false_and, Bool.not_true, Bool.not_false, true_and, and_true, false_and, and_false, true_or, or_true, false_or, or_false, Bool.true_eq_false, Bool.false_eq_true, eq_self, reduceCtorEq, Bool.or_true, Bool.true_or, Bool.or_false, Bool.false_or])
              rw [e]
              exact srv_no H
            · rw [decide_eq_false fun z => k3 z.2, cond_false]
              have k3' : (rd A 8 (zn o) 28 + 1 ≤ 0) = True := eq_true (Int32.not_lt.mp k3)
              obtain ⟨R', b, e1, e2, e3⟩ := fin False not_false ⟨False.elim, fun z => k3 z.2⟩
              refine ⟨R', b, ?_, e2, e3⟩
              cases b
              · simp only [zb_f] at e1
                (simp only [e_X12_collects, zo_iload, zo_lload, zo_aload, zo_istore, zo_lstore, zo_astore, zo_iinc, zo_pushI, zo_pushL, zo_null, zo_ii, zo_iid, zo_ll, zo_li, zo_lcmp, zo_i2l, zo_l2i, zo_dup, zo_dup2, zo_pop, zo_goto, zo_if, zo_icmp, zo_ifnull, zo_gets, zo_mm, zo_throw, zo_ret, zo_aret, zo_lret, q_iret_f, q_iret_1, q_iret_0, q_iret_b, q_c8_0, q_c8_1, q_c8_2, q_c8_3, q_c8_4, q_set_0, q_set_1i, q_set_1r, q_set_1n, q_set_1N, q_set_s, q_set_1j, q_bk_v, q_bk_n, q_if, zb_ite, cond_true, cond_false, List.getElem?_cons_zero, List.getElem?_cons_succ, Nat.reduceAdd, q_set_1l, q_set2_0, q_set2_1i, q_set2_1r, q_set2_1n, q_set2_s, h43, v12, k1, b1, x1, q_aR, k2, v15, k3', hgn, e1, if_true, if_false, zb_eq0, zb_eq1, zn_1, not_true_eq_false, not_false_eq_true, ite_true, ite_false, if_true, if_false, q_iret_0, q_iret_1, decide_true, decide_false, decide_not, zb_t, zb_f, z10, z01, cond_true, cond_false, Bool.and_true, Bool.true_and, Bool.and_false, Bool.false_and, Bool.not_true, Bool.not_false, true_and, and_true, false_and, and_false, true_or, or_true, false_or, or_false, Bool.true_eq_false, Bool.false_eq_true, eq_self, reduceCtorEq, Bool.or_true, Bool.true_or, Bool.or_false, Bool.false_or])
              · simp only [zb_t] at e1
                (simp only [e_X12_collects, zo_iload, zo_lload, zo_aload, zo_istore, zo_lstore, zo_astore, zo_iinc, zo_pushI, zo_pushL, zo_null, zo_ii, zo_iid, zo_ll, zo_li, zo_lcmp, zo_i2l, zo_l2i, zo_dup, zo_dup2, zo_pop, zo_goto, zo_if, zo_icmp, zo_ifnull, zo_gets, zo_mm, zo_throw, zo_ret, zo_aret, zo_lret, q_iret_f, q_iret_1, q_iret_0, q_iret_b, q_c8_0, q_c8_1, q_c8_2, q_c8_3, q_c8_4, q_set_0, q_set_1i, q_set_1r, q_set_1n, q_set_1N, q_set_s, q_set_1j, q_bk_v, q_bk_n, q_if, zb_ite, cond_true, cond_false, List.getElem?_cons_zero, List.getElem?_cons_succ, Nat.reduceAdd, q_set_1l, q_set2_0, q_set2_1i, q_set2_1r, q_set2_1n, q_set2_s, h43, v12, k1, b1, x1, q_aR, k2, v15, k3', hgn, e1, if_true, if_false, zb_eq0, zb_eq1, zn_1, not_true_eq_false, not_false_eq_true, ite_true, ite_false, if_true, if_false, q_iret_0, q_iret_1, decide_true, decide_false, decide_not, zb_t, zb_f, z10, z01, cond_true, cond_false, Bool.and_true, Bool.true_and, Bool.and_false, Bool.false_and, Bool.not_true, Bool.not_false, true_and, and_true, false_and, and_false, true_or, or_true, false_or, or_false, Bool.true_eq_false, Bool.false_eq_true, eq_self, reduceCtorEq, Bool.or_true, Bool.true_or, Bool.or_false, Bool.false_or])
          · rw [decide_eq_false fun z => k2 z.1, cond_false]
            obtain ⟨R', b, e1, e2, e3⟩ := fin False not_false ⟨False.elim, fun z => k2 z.1⟩
            refine ⟨R', b, ?_, e2, e3⟩
            cases b
            · simp only [zb_f] at e1
              (simp only [e_X12_collects, zo_iload, zo_lload, zo_aload, zo_istore, zo_lstore, zo_astore, zo_iinc, zo_pushI, zo_pushL, zo_null, zo_ii, zo_iid, zo_ll, zo_li, zo_lcmp, zo_i2l, zo_l2i, zo_dup, zo_dup2, zo_pop, zo_goto, zo_if, zo_icmp, zo_ifnull, zo_gets, zo_mm, zo_throw, zo_ret, zo_aret, zo_lret, q_iret_f, q_iret_1, q_iret_0, q_iret_b, q_c8_0, q_c8_1, q_c8_2, q_c8_3, q_c8_4, q_set_0, q_set_1i, q_set_1r, q_set_1n, q_set_1N, q_set_s, q_set_1j, q_bk_v, q_bk_n, q_if, zb_ite, cond_true, cond_false, List.getElem?_cons_zero, List.getElem?_cons_succ, Nat.reduceAdd, q_set_1l, q_set2_0, q_set2_1i, q_set2_1r, q_set2_1n, q_set2_s, h43, v12, k1, b1, x1, q_aR, k2, hgn, e1, if_true, if_false, zb_eq0, zb_eq1, zn_1, not_true_eq_false, not_false_eq_true, ite_true, ite_false, if_true, if_false, q_iret_0, q_iret_1, decide_true, decide_false, decide_not, zb_t, zb_f, z10, z01, cond_true, cond_false, Bool.and_true, Bool.true_and, Bool.and_false, Bool.false_and, Bool.not_true, Bool.not_false, true_and, and_true, false_and, and_false, true_or, or_true, false_or, or_false, Bool.true_eq_false, Bool.false_eq_true, eq_self, reduceCtorEq, Bool.or_true, Bool.true_or, Bool.or_false, Bool.false_or])
            · simp only [zb_t] at e1
              (simp only [e_X12_collects, zo_iload, zo_lload, zo_aload, zo_istore, zo_lstore, zo_astore, zo_iinc, zo_pushI, zo_pushL, zo_null, zo_ii, zo_iid, zo_ll, zo_li, zo_lcmp, zo_i2l, zo_l2i, zo_dup, zo_dup2, zo_pop, zo_goto, zo_if, zo_icmp, zo_ifnull, zo_gets, zo_mm, zo_throw, zo_ret, zo_aret, zo_lret, q_iret_f, q_iret_1, q_iret_0, q_iret_b, q_c8_0, q_c8_1, q_c8_2, q_c8_3, q_c8_4, q_set_0, q_set_1i, q_set_1r, q_set_1n, q_set_1N, q_set_s, q_set_1j, q_bk_v, q_bk_n, q_if, zb_ite, cond_true, cond_false, List.getElem?_cons_zero, List.getElem?_cons_succ, Nat.reduceAdd, q_set_1l, q_set2_0, q_set2_1i, q_set2_1r, q_set2_1n, q_set2_s, h43, v12, k1, b1, x1, q_aR, k2, hgn, e1, if_true, if_false, zb_eq0, zb_eq1, zn_1, not_true_eq_false, not_false_eq_true, ite_true, ite_false, if_true, if_false, q_iret_0, q_iret_1, decide_true, decide_false, decide_not, zb_t, zb_f, z10, z01, cond_true, cond_false, Bool.and_true, Bool.true_and, Bool.and_false, Bool.false_and, Bool.not_true, Bool.not_false, true_and, and_true, false_and, and_false, true_or, or_true, false_or, or_false, Bool.true_eq_false, Bool.false_eq_true, eq_self, reduceCtorEq, Bool.or_true, Bool.true_or, Bool.or_false, Bool.false_or])
      by_cases d3 : rd A 8 (zn o) 25 = 2
      · rw [decide_eq_true d3, Bool.not_true, Bool.false_and, cond_false]
        refine tail ?_
        generalize hZ : zz_ev tX12_collects 110 [some (.ref 0), some (.int (rd A 8 (zn o) 25)), none, none] [] R = Z
        have n20 : ((2 : Int32) = 0) = False := eq_false (by decide)
        rw [d3] at hZ
        (simp only [e_X12_collects, zo_iload, zo_lload, zo_aload, zo_istore, zo_lstore, zo_astore, zo_iinc, zo_pushI, zo_pushL, zo_null, zo_ii, zo_iid, zo_ll, zo_li, zo_lcmp, zo_i2l, zo_l2i, zo_dup, zo_dup2, zo_pop, zo_goto, zo_if, zo_icmp, zo_ifnull, zo_gets, zo_mm, zo_throw, zo_ret, zo_aret, zo_lret, q_iret_f, q_iret_1, q_iret_0, q_iret_b, q_c8_0, q_c8_1, q_c8_2, q_c8_3, q_c8_4, q_set_0, q_set_1i, q_set_1r, q_set_1n, q_set_1N, q_set_s, q_set_1j, q_bk_v, q_bk_n, q_if, zb_ite, cond_true, cond_false, List.getElem?_cons_zero, List.getElem?_cons_succ, Nat.reduceAdd, q_set_1l, q_set2_0, q_set2_1i, q_set2_1r, q_set2_1n, q_set2_s, ↓hZ, h43, hg, d1, v13, d3, n20, if_true, if_false, zb_eq0, zb_eq1, zn_1, not_true_eq_false, not_false_eq_true, ite_true, ite_false, if_true, if_false, q_iret_0, q_iret_1, decide_true, decide_false, decide_not, zb_t, zb_f, z10, z01, cond_true, cond_false, Bool.and_true, Bool.true_and, Bool.and_false, Bool.false_and, Bool.not_true, Bool.not_false, true_and, and_true, false_and, and_false, true_or, or_true, false_or, or_false, Bool.true_eq_false, Bool.false_eq_true, eq_self, reduceCtorEq, Bool.or_true, Bool.true_or, Bool.or_false, Bool.false_or])
      · by_cases d4 : 0 < k
        · rw [← hown, decide_eq_true d4, decide_eq_false d3]
          simp only [Bool.not_false, Bool.and_self, cond_true]
          have k0 : (zn k ≤ 0) = False := kle.trans (eq_false (not_not_intro d4))
          obtain ⟨q, q4, hq⟩ := g.2.2.2.1
          have hq' : rd A 8 (zn o) 25 = zn q := hq
          have hm : rd A 8 (zn o) 25 = 1 ∨ rd A 8 (zn o) 25 = 3 := by
            rcases q with _ | _ | _ | _ | _ | q
            · exact absurd hq' d2
            · exact Or.inl hq'
            · exact absurd hq' d3
            · exact Or.inr hq'
            · exact absurd hq' d1'
            · omega
          obtain ⟨S, e1, e2⟩ := r_passesOn H hm
          have ep : (bif decide (rd A 8 (zn o) 25 = 1) then oc2 (acts (actD A o) (nv A 8) A) else oc2 (acts (actO A o) (nv A 8) A)) = oc2 (acts (Pa (rd A 8 (zn o) 25) A o) (nv A 8) A) := by
            rcases hm with z | z
            · rw [z, decide_eq_true rfl, cond_true, show Pa 1 A o = actD A o from funext fun i => funext fun M => if_neg (by decide)]
            · rw [z, decide_eq_false (by decide), cond_false, show Pa 3 A o = actO A o from funext fun i => funext fun M => if_pos rfl]
          rw [ep]
          refine ⟨S, (acts (Pa (rd A 8 (zn o) 25) A o) (nv A 8) A).1, ?_, rfl, e2⟩
          clear tail ep e2
          generalize (acts (Pa (rd A 8 (zn o) 25) A o) (nv A 8) A).1 = bb at e1 ⊢
          (simp only [e_X12_collects, zo_iload, zo_lload, zo_aload, zo_istore, zo_lstore, zo_astore, zo_iinc, zo_pushI, zo_pushL, zo_null, zo_ii, zo_iid, zo_ll, zo_li, zo_lcmp, zo_i2l, zo_l2i, zo_dup, zo_dup2, zo_pop, zo_goto, zo_if, zo_icmp, zo_ifnull, zo_gets, zo_mm, zo_throw, zo_ret, zo_aret, zo_lret, q_iret_f, q_iret_1, q_iret_0, q_iret_b, q_c8_0, q_c8_1, q_c8_2, q_c8_3, q_c8_4, q_set_0, q_set_1i, q_set_1r, q_set_1n, q_set_1N, q_set_s, q_set_1j, q_bk_v, q_bk_n, q_if, zb_ite, cond_true, cond_false, List.getElem?_cons_zero, List.getElem?_cons_succ, Nat.reduceAdd, q_set_1l, q_set2_0, q_set2_1i, q_set2_1r, q_set2_1n, q_set2_s, h43, hg, d1, v13, d2, d3, hcnt, k0, e1, if_true, if_false, zb_eq0, zb_eq1, zn_1, not_true_eq_false, not_false_eq_true, ite_true, ite_false, if_true, if_false, q_iret_0, q_iret_1, decide_true, decide_false, decide_not, zb_t, zb_f, z10, z01, cond_true, cond_false, Bool.and_true, Bool.true_and, Bool.and_false, Bool.false_and, Bool.not_true, Bool.not_false, true_and, and_true, false_and, and_false, true_or, or_true, false_or, or_false, Bool.true_eq_false, Bool.false_eq_true, eq_self, reduceCtorEq, Bool.or_true, Bool.true_or, Bool.or_false, Bool.false_or])
        · rw [← hown, decide_eq_false d4, Bool.and_false, cond_false]
          have k0 : (zn k ≤ 0) = True := kle.trans (eq_true d4)
          refine tail ?_
          generalize hZ : zz_ev tX12_collects 110 [some (.ref 0), some (.int (rd A 8 (zn o) 25)), none, none] [] R = Z
          (simp only [e_X12_collects, zo_iload, zo_lload, zo_aload, zo_istore, zo_lstore, zo_astore, zo_iinc, zo_pushI, zo_pushL, zo_null, zo_ii, zo_iid, zo_ll, zo_li, zo_lcmp, zo_i2l, zo_l2i, zo_dup, zo_dup2, zo_pop, zo_goto, zo_if, zo_icmp, zo_ifnull, zo_gets, zo_mm, zo_throw, zo_ret, zo_aret, zo_lret, q_iret_f, q_iret_1, q_iret_0, q_iret_b, q_c8_0, q_c8_1, q_c8_2, q_c8_3, q_c8_4, q_set_0, q_set_1i, q_set_1r, q_set_1n, q_set_1N, q_set_s, q_set_1j, q_bk_v, q_bk_n, q_if, zb_ite, cond_true, cond_false, List.getElem?_cons_zero, List.getElem?_cons_succ, Nat.reduceAdd, q_set_1l, q_set2_0, q_set2_1i, q_set2_1r, q_set2_1n, q_set2_s, ↓hZ, h43, hg, d1, v13, d2, d3, hcnt, k0, if_true, if_false, zb_eq0, zb_eq1, zn_1, not_true_eq_false, not_false_eq_true, ite_true, ite_false, if_true, if_false, q_iret_0, q_iret_1, decide_true, decide_false, decide_not, zb_t, zb_f, z10, z01, cond_true, cond_false, Bool.and_true, Bool.true_and, Bool.and_false, Bool.false_and, Bool.not_true, Bool.not_false, true_and, and_true, false_and, and_false, true_or, or_true, false_or, or_false, Bool.true_eq_false, Bool.false_eq_true, eq_self, reduceCtorEq, Bool.or_true, Bool.true_or, Bool.or_false, Bool.false_or])
  · have d1' : rd A 8 (zn o) 25 = 4 := of_decide_eq_true d1
    rw [decide_eq_true d1', cond_true]
    have e : zz_ev tX12_collects 0 [some (.ref 0), none, none, none] [] R = some (.inl (some (.int 1)), R) := by
      (simp only [e_X12_collects, zo_iload, zo_lload, zo_aload, zo_istore, zo_lstore, zo_astore, zo_iinc, zo_pushI, zo_pushL, zo_null, zo_ii, zo_iid, zo_ll, zo_li, zo_lcmp, zo_i2l, zo_l2i, zo_dup, zo_dup2, zo_pop, zo_goto, zo_if, zo_icmp, zo_ifnull, zo_gets, zo_mm, zo_throw, zo_ret, zo_aret, zo_lret, q_iret_f, q_iret_1, q_iret_0, q_iret_b, q_c8_0, q_c8_1, q_c8_2, q_c8_3, q_c8_4, q_set_0, q_set_1i, q_set_1r, q_set_1n, q_set_1N, q_set_s, q_set_1j, q_bk_v, q_bk_n, q_if, zb_ite, cond_true, cond_false, List.getElem?_cons_zero, List.getElem?_cons_succ, Nat.reduceAdd, q_set_1l, q_set2_0, q_set2_1i, q_set2_1r, q_set2_1n, q_set2_s, h43, hg, d1, if_true, if_false, zb_eq0, zb_eq1, zn_1, not_true_eq_false, not_false_eq_true, ite_true, ite_false, if_true, if_false, q_iret_0, q_iret_1, decide_true, decide_false, decide_not, zb_t, zb_f, z10, z01, cond_true, cond_false, Bool.and_true, Bool.true_and, Bool.and_false, Bool.false_and, Bool.not_true, Bool.not_false, true_and, and_true, false_and, and_false, true_or, or_true, false_or, or_false, Bool.true_eq_false, Bool.false_eq_true, eq_self, reduceCtorEq, Bool.or_true, Bool.true_or, Bool.or_false, Bool.false_or])
    rw [e]
    exact srv_no H
end
end

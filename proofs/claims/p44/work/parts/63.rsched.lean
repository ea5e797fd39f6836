section
/-! SCHEDULER, in both: the place -/
section
variable {A R : zzMd} {c o : Nat}
theorem r_usable (H : rAt A R 3) (h60 : o < 60) : fX12_isUsable [.ref 0, .int (zn o)] R = some (.inl (some (.int (zb (opn A (zn o))))), R) := by
  have hs := r_stays H h60 4
  simp only [Nat.reduceAdd] at hs
  rw [s_X12_isUsable]
  unfold opn
  cases d1 : stay A 6 (zn o) 4
  · (simp only [e_X12_isUsable, zo_iload, zo_lload, zo_aload, zo_istore, zo_lstore, zo_astore, zo_iinc, zo_pushI, zo_pushL, zo_null, zo_ii, zo_iid, zo_ll, zo_li, zo_lcmp, zo_i2l, zo_l2i, zo_dup, zo_dup2, zo_pop, zo_goto, zo_if, zo_icmp, zo_ifnull, zo_gets, zo_mm, zo_throw, zo_ret, zo_aret, zo_lret, q_iret_f, q_iret_1, q_iret_0, q_iret_b, q_c8_0, q_c8_1, q_c8_2, q_c8_3, q_c8_4, q_set_0, q_set_1i, q_set_1r, q_set_1n, q_set_1N, q_set_s, q_set_1j, q_bk_v, q_bk_n, q_if, zb_ite, cond_true, cond_false, List.getElem?_cons_zero, List.getElem?_cons_succ, Nat.reduceAdd, q_set_1l, q_set2_0, q_set2_1i, q_set2_1r, q_set2_1n, q_set2_s, hs, d1, if_true, if_false, zb_eq0, zb_eq1, zn_1, not_true_eq_false, not_false_eq_true, ite_true, ite_false, if_true, if_false, q_iret_0, q_iret_1, decide_true, decide_false, decide_not, zb_t, zb_f, z10, z01, cond_true, cond_false, Bool.and_true, Bool.true_and, Bool.and_false, Bool.false_and, Bool.not_true, Bool.not_false, true_and, and_true, false_and, and_false, true_or, or_true, false_or, or_false, Bool.true_eq_false, Bool.false_eq_true, eq_self, reduceCtorEq, Bool.or_true, Bool.true_or, Bool.or_false, Bool.false_or])
  · obtain ⟨V, -, -, v14, -, -⟩ := r_vw H (seen_stay H h60 d1)
    have v9 : fX12_viewed [.ref 0, .int (zn o), .int 9] R = some (.inl (some (.int (rd A 6 (zn o) 9))), R) := V 9 (by decide)
    simp only [Nat.reduceAdd] at v14
    by_cases d2 : rd A 6 (zn o) 27 = 1
    · by_cases d3 : rd A 6 (zn o) 9 = 0 <;> (simp only [e_X12_isUsable, zo_iload, zo_lload, zo_aload, zo_istore, zo_lstore, zo_astore, zo_iinc, zo_pushI, zo_pushL, zo_null, zo_ii, zo_iid, zo_ll, zo_li, zo_lcmp, zo_i2l, zo_l2i, zo_dup, zo_dup2, zo_pop, zo_goto, zo_if, zo_icmp, zo_ifnull, zo_gets, zo_mm, zo_throw, zo_ret, zo_aret, zo_lret, q_iret_f, q_iret_1, q_iret_0, q_iret_b, q_c8_0, q_c8_1, q_c8_2, q_c8_3, q_c8_4, q_set_0, q_set_1i, q_set_1r, q_set_1n, q_set_1N, q_set_s, q_set_1j, q_bk_v, q_bk_n, q_if, zb_ite, cond_true, cond_false, List.getElem?_cons_zero, List.getElem?_cons_succ, Nat.reduceAdd, q_set_1l, q_set2_0, q_set2_1i, q_set2_1r, q_set2_1n, q_set2_s, hs, d1, v14, d2, v9, d3, if_true, if_false, zb_eq0, zb_eq1, zn_1, not_true_eq_false, not_false_eq_true, ite_true, ite_false, if_true, if_false, q_iret_0, q_iret_1, decide_true, decide_false, decide_not, zb_t, zb_f, z10, z01, cond_true, cond_false, Bool.and_true, Bool.true_and, Bool.and_false, Bool.false_and, Bool.not_true, Bool.not_false, true_and, and_true, false_and, and_false, true_or, or_true, false_or, or_false, Bool.true_eq_false, Bool.false_eq_true, eq_self, reduceCtorEq, Bool.or_true, Bool.true_or, Bool.or_false, Bool.false_or])
    · (simp only [e_X12_isUsable, zo_iload, zo_lload, zo_aload, zo_istore, zo_lstore, zo_astore, zo_iinc, zo_pushI, zo_pushL, zo_null, zo_ii, zo_iid, zo_ll, zo_li, zo_lcmp, zo_i2l, zo_l2i, zo_dup, zo_dup2, zo_pop, zo_goto, zo_if, zo_icmp, zo_ifnull, zo_gets, zo_mm, zo_throw, zo_ret, zo_aret, zo_lret, q_iret_f, q_iret_1, q_iret_0, q_iret_b, q_c8_0, q_c8_1, q_c8_2, q_c8_3, q_c8_4, q_set_0, q_set_1i, q_set_1r, q_set_1n, q_set_1N, q_set_s, q_set_1j, q_bk_v, q_bk_n, q_if, zb_ite, cond_true, cond_false, List.getElem?_cons_zero, List.getElem?_cons_succ, Nat.reduceAdd, q_set_1l, q_set2_0, q_set2_1i, q_set2_1r, q_set2_1n, q_set2_s, hs, d1, v14, d2, if_true, if_false, zb_eq0, zb_eq1, zn_1, not_true_eq_false, not_false_eq_true, ite_true, ite_false, if_true, if_false, q_iret_0, q_iret_1, decide_true, decide_false, decide_not, zb_t, zb_f, z10, z01, cond_true, cond_false, Bool.and_true, Bool.true_and, Bool.and_false, Bool.false_and, Bool.not_true, Bool.not_false, true_and, and_true, false_and, and_false, true_or, or_true, false_or, or_false, Bool.true_eq_false, Bool.false_eq_true, eq_self, reduceCtorEq, Bool.or_true, Bool.true_or, Bool.or_false, Bool.false_or])
theorem opn_seen (H : rAt A R 3) (h60 : o < 60) (h : opn A (zn o) = true) : o < nv A 6 := by
  unfold opn at h
  rw [Bool.and_eq_true] at h
  exact seen_stay H h60 h.1
theorem r_used0 (H : rAt A R 3) {p : Nat} (hp : p < 60) : fX12_used [.ref 0, .int (zn p), .int 0] R = some (.inl (some (.int (usN A (nv A 6) p))), R) := by
  have h := r_used H (zn p) false
  simp only [Nat.reduceAdd, zb_f] at h
  rw [h]
  unfold usN
  rw [zsum_ext (show nv A 6 ≤ nv A 1 from rv_nv H) fun i a b => by
    have := bUs_un H (x := zn p) (fl := false) (i := i) (lt_n60 H.1 b) (by simp only [Nat.reduceAdd]; omega)
    simp only [Nat.reduceAdd] at this
    rw [this]; rfl]
  rw [zsum_congr fun i hi => by
    have hi' : i < nv A (3 + 3) := hi
    have h60 : i < 60 := Nat.lt_of_lt_of_le hi' (rv_n60 H)
    obtain ⟨-, -, g, -, g23⟩ := rv_row H hi'
    have g28 := g.2.2.2.2.2.2.1
    obtain ⟨q, q3, q29⟩ := g.2.2.2.2.2.2.2.1
    simp only [Nat.reduceAdd] at g23 g28 q29
    have : bUs A R 6 (zn p) false i = usP A i p := by
      unfold bUs usP
      have e9 : rd A 6 (zn i) 29 = zn q := q29
      have hph : (decide (rd A 6 (zn i) 29 = 1) || (!false && decide (rd A 6 (zn i) 29 = 0))) = (!decide (rd A 6 (zn i) 29 = 2) && !decide (rd A 6 (zn i) 29 = 3)) := by
        rw [e9]
        rcases q with _ | _ | _ | _ | q
        · rfl
        · rfl
        · rfl
        · rfl
        · omega
      rw [hph]
      rcases g28 with e | ⟨p', -, -, e⟩
      · have e' : rd A 6 (zn i) 28 = -1 := e
        have e2 : ¬ (-1 : Int32) = zn p := fun z => (zn_m1 (k := p) (by omega)).mp z.symm
        rw [e', decide_eq_false e2]
        simp
      · have e' : rd A 6 (zn i) 23 = 2 := e
        rw [← g23, e']
        cases gone A 6 (zn i) <;> cases decide (rd A 6 (zn i) 28 = zn p) <;> simp
    rw [this]]
theorem r_zoned (H : rAt A R 3) (ho : o < nv A 6) {z : Nat} (hz : z < 3) : fX12_zoned [.ref 0, .int (zn o), .int (zn z)] R = some (.inl (some (.int (mtN A (rd A 6 (zn o) 24) (nv A 6) z))), R) := by
  have hn := rl_n60 H.1
  have n5 := H.1.2.1.1.2
  have ho60 : o < 60 := Nat.lt_of_lt_of_le ho (rv_n60 H)
  have hvo := r_view H ho60
  have hoo := r_ownerV H (o := o) ho
  simp only [Nat.reduceAdd] at hoo
  unfold mtN
  generalize rd A 6 (zn o) 24 = w at hoo ⊢
  have ev : zcnt (nv A 6) (mtP A w z) = zcnt (nv A 1) (mtP A w z) := (zcnt_ext (show nv A 6 ≤ nv A 1 from rv_nv H) fun i h1 h2 => by
    have := ((gP H (lt_n60 H.1 h2)).1 (by simp only [Nat.reduceAdd]; omega)).1
    simp only [Nat.reduceAdd] at this
    unfold mtP
    rw [this]
    simp).symm
  rw [ev]
  have main : ∀ n, n ≤ nv A 1 → ∃ (j5 j6 : Option Int32), fX12_zoned [.ref 0, .int (zn o), .int (zn z)] R = zz_ev tX12_zoned 5 [some (.ref 0), some (.int (zn o)), some (.int (zn z)), some (.int (zn (zcnt n (mtP A w z)))), some (.int (zn n)), zj j5, zj j6] [] R := by
    intro n
    induction n with
    | zero =>
      intro _
      refine ⟨none, none, ?_⟩
      rw [s_X12_zoned]
      (simp only [e_X12_zoned, zo_iload, zo_lload, zo_aload, zo_istore, zo_lstore, zo_astore, zo_iinc, zo_pushI, zo_pushL, zo_null, zo_ii, zo_iid, zo_ll, zo_li, zo_lcmp, zo_i2l, zo_l2i, zo_dup, zo_dup2, zo_pop, zo_goto, zo_if, zo_icmp, zo_ifnull, zo_gets, zo_mm, zo_throw, zo_ret, zo_aret, zo_lret, q_iret_f, q_iret_1, q_iret_0, q_iret_b, q_c8_0, q_c8_1, q_c8_2, q_c8_3, q_c8_4, q_set_0, q_set_1i, q_set_1r, q_set_1n, q_set_1N, q_set_s, q_set_1j, q_bk_v, q_bk_n, q_if, zb_ite, cond_true, cond_false, List.getElem?_cons_zero, List.getElem?_cons_succ, Nat.reduceAdd, q_set_1l, q_set2_0, q_set2_1i, q_set2_1r, q_set2_1n, q_set2_s, if_true, if_false, zb_eq0, zb_eq1, zn_1, not_true_eq_false, not_false_eq_true, ite_true, ite_false, if_true, if_false, q_iret_0, q_iret_1, decide_true, decide_false, decide_not, zb_t, zb_f, z10, z01, cond_true, cond_false, Bool.and_true, Bool.true_and, Bool.and_false, Bool.false_and, Bool.not_true, Bool.not_false, true_and, and_true, false_and, and_false, true_or, or_true, false_or, or_false, Bool.true_eq_false, Bool.false_eq_true, eq_self, reduceCtorEq, Bool.or_true, Bool.true_or, Bool.or_false, Bool.false_or])
      rfl
    | succ n ih =>
      intro hn1
      obtain ⟨j5, j6, e1⟩ := ih (by omega)
      have h60 := lt_n60 H.1 (show n < nv A 1 by omega)
      have hc := zk_in (i := n) (n := nv A 1) (by omega) hn
      obtain ⟨b1, x1⟩ := kinds_o n h60
      have hg := r_goneT H h60
      have hv := r_view H h60
      simp only [Nat.reduceAdd] at hg
      rw [e1, zcnt_s]
      generalize zcnt n (mtP A w z) = sm
      unfold mtP
      have gp := gP H h60
      simp only [Nat.reduceAdd] at gp
      cases d1 : gone A 6 (zn n)
      · have hsn : n < nv A 6 := seen_of H h60 d1
        have hoi := r_ownerV H (o := n) hsn
        obtain ⟨-, -, g, -, g23⟩ := rv_row H (o := n) hsn
        have g28 := g.2.2.2.2.2.2.1
        simp only [Nat.reduceAdd] at hoi g23 g28
        obtain ⟨-, -, -, -, v15, -⟩ := r_vw H (o := n) hsn
        simp only [Nat.reduceAdd] at v15
        rcases g28 with e | ⟨p, hp, ep, e23⟩
        · have e' : rd A 6 (zn n) 28 = -1 := e
          rw [e'] at v15 ⊢
          have c0 : ((-1 : Int32) + 1 ≤ 0) = True := eq_true (by decide)
          by_cases d2 : R.1 6 n = 2
          · refine ⟨some 0, some (-1), ?_⟩
            (rw [e_X12_zoned_5]; simp only [e_X12_zoned, zo_iload, zo_lload, zo_aload, zo_istore, zo_lstore, zo_astore, zo_iinc, zo_pushI, zo_pushL, zo_null, zo_ii, zo_iid, zo_ll, zo_li, zo_lcmp, zo_i2l, zo_l2i, zo_dup, zo_dup2, zo_pop, zo_goto, zo_if, zo_icmp, zo_ifnull, zo_gets, zo_mm, zo_throw, zo_ret, zo_aret, zo_lret, q_iret_f, q_iret_1, q_iret_0, q_iret_b, q_c8_0, q_c8_1, q_c8_2, q_c8_3, q_c8_4, q_set_0, q_set_1i, q_set_1r, q_set_1n, q_set_1N, q_set_s, q_set_1j, q_bk_v, q_bk_n, q_if, zb_ite, cond_true, cond_false, List.getElem?_cons_zero, List.getElem?_cons_succ, Nat.reduceAdd, q_set_1l, q_set2_0, q_set2_1i, q_set2_1r, q_set2_1n, q_set2_s, n5, hc, hg, d1, b1, x1, q_aR, d2, v15, c0, zj_some, Nat.add_zero, Int32.add_zero, if_true, if_false, zb_eq0, zb_eq1, zn_1, not_true_eq_false, not_false_eq_true, ite_true, ite_false, if_true, if_false, q_iret_0, q_iret_1, decide_true, decide_false, decide_not, zb_t, zb_f, z10, z01, cond_true, cond_false, Bool.and_true, Bool.true_and, Bool.and_false, Bool.false_and, Bool.not_true, Bool.not_false, true_and, and_true, false_and, and_false, true_or, or_true, false_or, or_false, Bool.true_eq_false, Bool.false_eq_true, eq_self, reduceCtorEq, Bool.or_true, Bool.true_or, Bool.or_false, Bool.false_or])
          · refine ⟨some 0, some (-1), ?_⟩
            (rw [e_X12_zoned_5]; simp only [e_X12_zoned, zo_iload, zo_lload, zo_aload, zo_istore, zo_lstore, zo_astore, zo_iinc, zo_pushI, zo_pushL, zo_null, zo_ii, zo_iid, zo_ll, zo_li, zo_lcmp, zo_i2l, zo_l2i, zo_dup, zo_dup2, zo_pop, zo_goto, zo_if, zo_icmp, zo_ifnull, zo_gets, zo_mm, zo_throw, zo_ret, zo_aret, zo_lret, q_iret_f, q_iret_1, q_iret_0, q_iret_b, q_c8_0, q_c8_1, q_c8_2, q_c8_3, q_c8_4, q_set_0, q_set_1i, q_set_1r, q_set_1n, q_set_1N, q_set_s, q_set_1j, q_bk_v, q_bk_n, q_if, zb_ite, cond_true, cond_false, List.getElem?_cons_zero, List.getElem?_cons_succ, Nat.reduceAdd, q_set_1l, q_set2_0, q_set2_1i, q_set2_1r, q_set2_1n, q_set2_s, n5, hc, hg, d1, b1, x1, q_aR, d2, zj_some, Nat.add_zero, Int32.add_zero, if_true, if_false, zb_eq0, zb_eq1, zn_1, not_true_eq_false, not_false_eq_true, ite_true, ite_false, if_true, if_false, q_iret_0, q_iret_1, decide_true, decide_false, decide_not, zb_t, zb_f, z10, z01, cond_true, cond_false, Bool.and_true, Bool.true_and, Bool.and_false, Bool.false_and, Bool.not_true, Bool.not_false, true_and, and_true, false_and, and_false, true_or, or_true, false_or, or_false, Bool.true_eq_false, Bool.false_eq_true, eq_self, reduceCtorEq, Bool.or_true, Bool.true_or, Bool.or_false, Bool.false_or])
        · have ep' : rd A 6 (zn n) 28 = zn p := ep
          have e23' : rd A 6 (zn n) 23 = 2 := e23
          rw [g23] at e23'
          rw [ep', zn_1] at v15
          rw [ep']
          have pm : (zn p = -1) = False := zn_m1 (k := p) (by omega)
          have c0 : (zn (p + 1) ≤ 0) = False := by
            have := zn_le (a := p + 1) (b := 0) (by omega) (by decide)
            rw [show (zn 0 : Int32) = 0 from rfl] at this
            rw [this]; exact eq_false (by omega)
          have cs : zn (p + 1) - 1 = zn p := zn_sub (b := 1) (by omega)
          have hgp := r_goneT H hp
          simp only [Nat.reduceAdd] at hgp
          by_cases d3 : rd A 6 (zn n) 24 = w
          · cases d4 : gone A 6 (zn p)
            · have hsp : p < nv A 6 := seen_of H hp d4
              have v8 : fX12_viewed [.ref 0, .int (zn p), .int 8] R = some (.inl (some (.int (rd A 6 (zn p) 8))), R) := (r_vw H (o := p) hsp).1 8 (by decide)
              obtain ⟨q, q1, q2, q3⟩ := fld H (i := p) (f := 8) hsp (by decide)
              have q1' : rd A 6 (zn p) 8 = zn q := q1
              have q3' : q ≤ 2 := q3
              have hzo : zo A (zn p) = zn q := by
                unfold zo
                rw [q1', if_neg (zn_lt0 (by omega)).mp, if_pos (of_eq_true (zn_lt (a := q) (b := 3) (by omega) (by decide) ▸ eq_true (by omega)))]
              rw [q1'] at v8
              rw [hzo]
              by_cases d5 : zn q = zn z
              · refine ⟨some 1, some (zn p), ?_⟩
                (rw [e_X12_zoned_5]; simp only [e_X12_zoned, zo_iload, zo_lload, zo_aload, zo_istore, zo_lstore, zo_astore, zo_iinc, zo_pushI, zo_pushL, zo_null, zo_ii, zo_iid, zo_ll, zo_li, zo_lcmp, zo_i2l, zo_l2i, zo_dup, zo_dup2, zo_pop, zo_goto, zo_if, zo_icmp, zo_ifnull, zo_gets, zo_mm, zo_throw, zo_ret, zo_aret, zo_lret, q_iret_f, q_iret_1, q_iret_0, q_iret_b, q_c8_0, q_c8_1, q_c8_2, q_c8_3, q_c8_4, q_set_0, q_set_1i, q_set_1r, q_set_1n, q_set_1N, q_set_s, q_set_1j, q_bk_v, q_bk_n, q_if, zb_ite, cond_true, cond_false, List.getElem?_cons_zero, List.getElem?_cons_succ, Nat.reduceAdd, q_set_1l, q_set2_0, q_set2_1i, q_set2_1r, q_set2_1n, q_set2_s, n5, hc, hg, d1, b1, x1, q_aR, e23', v15, c0, hv, hoi, hvo, hoo, d3, cs, hgp, d4, v8, d5, pm, zj_some, if_true, if_false, zb_eq0, zb_eq1, zn_1, not_true_eq_false, not_false_eq_true, ite_true, ite_false, if_true, if_false, q_iret_0, q_iret_1, decide_true, decide_false, decide_not, zb_t, zb_f, z10, z01, cond_true, cond_false, Bool.and_true, Bool.true_and, Bool.and_false, Bool.false_and, Bool.not_true, Bool.not_false, true_and, and_true, false_and, and_false, true_or, or_true, false_or, or_false, Bool.true_eq_false, Bool.false_eq_true, eq_self, reduceCtorEq, Bool.or_true, Bool.true_or, Bool.or_false, Bool.false_or])
              · refine ⟨some 1, some (zn p), ?_⟩
                (rw [e_X12_zoned_5]; simp only [e_X12_zoned, zo_iload, zo_lload, zo_aload, zo_istore, zo_lstore, zo_astore, zo_iinc, zo_pushI, zo_pushL, zo_null, zo_ii, zo_iid, zo_ll, zo_li, zo_lcmp, zo_i2l, zo_l2i, zo_dup, zo_dup2, zo_pop, zo_goto, zo_if, zo_icmp, zo_ifnull, zo_gets, zo_mm, zo_throw, zo_ret, zo_aret, zo_lret, q_iret_f, q_iret_1, q_iret_0, q_iret_b, q_c8_0, q_c8_1, q_c8_2, q_c8_3, q_c8_4, q_set_0, q_set_1i, q_set_1r, q_set_1n, q_set_1N, q_set_s, q_set_1j, q_bk_v, q_bk_n, q_if, zb_ite, cond_true, cond_false, List.getElem?_cons_zero, List.getElem?_cons_succ, Nat.reduceAdd, q_set_1l, q_set2_0, q_set2_1i, q_set2_1r, q_set2_1n, q_set2_s, n5, hc, hg, d1, b1, x1, q_aR, e23', v15, c0, hv, hoi, hvo, hoo, d3, cs, hgp, d4, v8, d5, pm, zj_some, Nat.add_zero, Int32.add_zero, if_true, if_false, zb_eq0, zb_eq1, zn_1, not_true_eq_false, not_false_eq_true, ite_true, ite_false, if_true, if_false, q_iret_0, q_iret_1, decide_true, decide_false, decide_not, zb_t, zb_f, z10, z01, cond_true, cond_false, Bool.and_true, Bool.true_and, Bool.and_false, Bool.false_and, Bool.not_true, Bool.not_false, true_and, and_true, false_and, and_false, true_or, or_true, false_or, or_false, Bool.true_eq_false, Bool.false_eq_true, eq_self, reduceCtorEq, Bool.or_true, Bool.true_or, Bool.or_false, Bool.false_or])
            · refine ⟨some 1, some (zn p), ?_⟩
              (rw [e_X12_zoned_5]; simp only [e_X12_zoned, zo_iload, zo_lload, zo_aload, zo_istore, zo_lstore, zo_astore, zo_iinc, zo_pushI, zo_pushL, zo_null, zo_ii, zo_iid, zo_ll, zo_li, zo_lcmp, zo_i2l, zo_l2i, zo_dup, zo_dup2, zo_pop, zo_goto, zo_if, zo_icmp, zo_ifnull, zo_gets, zo_mm, zo_throw, zo_ret, zo_aret, zo_lret, q_iret_f, q_iret_1, q_iret_0, q_iret_b, q_c8_0, q_c8_1, q_c8_2, q_c8_3, q_c8_4, q_set_0, q_set_1i, q_set_1r, q_set_1n, q_set_1N, q_set_s, q_set_1j, q_bk_v, q_bk_n, q_if, zb_ite, cond_true, cond_false, List.getElem?_cons_zero, List.getElem?_cons_succ, Nat.reduceAdd, q_set_1l, q_set2_0, q_set2_1i, q_set2_1r, q_set2_1n, q_set2_s, n5, hc, hg, d1, b1, x1, q_aR, e23', v15, c0, hv, hoi, hvo, hoo, d3, cs, hgp, d4, pm, zj_some, Nat.add_zero, Int32.add_zero, if_true, if_false, zb_eq0, zb_eq1, zn_1, not_true_eq_false, not_false_eq_true, ite_true, ite_false, if_true, if_false, q_iret_0, q_iret_1, decide_true, decide_false, decide_not, zb_t, zb_f, z10, z01, cond_true, cond_false, Bool.and_true, Bool.true_and, Bool.and_false, Bool.false_and, Bool.not_true, Bool.not_false, true_and, and_true, false_and, and_false, true_or, or_true, false_or, or_false, Bool.true_eq_false, Bool.false_eq_true, eq_self, reduceCtorEq, Bool.or_true, Bool.true_or, Bool.or_false, Bool.false_or])
          · refine ⟨some 0, some (-1), ?_⟩
            (rw [e_X12_zoned_5]; simp only [e_X12_zoned, zo_iload, zo_lload, zo_aload, zo_istore, zo_lstore, zo_astore, zo_iinc, zo_pushI, zo_pushL, zo_null, zo_ii, zo_iid, zo_ll, zo_li, zo_lcmp, zo_i2l, zo_l2i, zo_dup, zo_dup2, zo_pop, zo_goto, zo_if, zo_icmp, zo_ifnull, zo_gets, zo_mm, zo_throw, zo_ret, zo_aret, zo_lret, q_iret_f, q_iret_1, q_iret_0, q_iret_b, q_c8_0, q_c8_1, q_c8_2, q_c8_3, q_c8_4, q_set_0, q_set_1i, q_set_1r, q_set_1n, q_set_1N, q_set_s, q_set_1j, q_bk_v, q_bk_n, q_if, zb_ite, cond_true, cond_false, List.getElem?_cons_zero, List.getElem?_cons_succ, Nat.reduceAdd, q_set_1l, q_set2_0, q_set2_1i, q_set2_1r, q_set2_1n, q_set2_s, n5, hc, hg, d1, b1, x1, q_aR, e23', v15, c0, hv, hoi, hvo, hoo, d3, pm, zj_some, Nat.add_zero, Int32.add_zero, if_true, if_false, zb_eq0, zb_eq1, zn_1, not_true_eq_false, not_false_eq_true, ite_true, ite_false, if_true, if_false, q_iret_0, q_iret_1, decide_true, decide_false, decide_not, zb_t, zb_f, z10, z01, cond_true, cond_false, Bool.and_true, Bool.true_and, Bool.and_false, Bool.false_and, Bool.not_true, Bool.not_false, true_and, and_true, false_and, and_false, true_or, or_true, false_or, or_false, Bool.true_eq_false, Bool.false_eq_true, eq_self, reduceCtorEq, Bool.or_true, Bool.true_or, Bool.or_false, Bool.false_or])
      · refine ⟨some 0, some (-1), ?_⟩
        (rw [e_X12_zoned_5]; simp only [e_X12_zoned, zo_iload, zo_lload, zo_aload, zo_istore, zo_lstore, zo_astore, zo_iinc, zo_pushI, zo_pushL, zo_null, zo_ii, zo_iid, zo_ll, zo_li, zo_lcmp, zo_i2l, zo_l2i, zo_dup, zo_dup2, zo_pop, zo_goto, zo_if, zo_icmp, zo_ifnull, zo_gets, zo_mm, zo_throw, zo_ret, zo_aret, zo_lret, q_iret_f, q_iret_1, q_iret_0, q_iret_b, q_c8_0, q_c8_1, q_c8_2, q_c8_3, q_c8_4, q_set_0, q_set_1i, q_set_1r, q_set_1n, q_set_1N, q_set_s, q_set_1j, q_bk_v, q_bk_n, q_if, zb_ite, cond_true, cond_false, List.getElem?_cons_zero, List.getElem?_cons_succ, Nat.reduceAdd, q_set_1l, q_set2_0, q_set2_1i, q_set2_1r, q_set2_1n, q_set2_s, n5, hc, hg, d1, zj_some, Nat.add_zero, Int32.add_zero, if_true, if_false, zb_eq0, zb_eq1, zn_1, not_true_eq_false, not_false_eq_true, ite_true, ite_false, if_true, if_false, q_iret_0, q_iret_1, decide_true, decide_false, decide_not, zb_t, zb_f, z10, z01, cond_true, cond_false, Bool.and_true, Bool.true_and, Bool.and_false, Bool.false_and, Bool.not_true, Bool.not_false, true_and, and_true, false_and, and_false, true_or, or_true, false_or, or_false, Bool.true_eq_false, Bool.false_eq_true, eq_self, reduceCtorEq, Bool.or_true, Bool.true_or, Bool.or_false, Bool.false_or])
  obtain ⟨j5, j6, e1⟩ := main (nv A 1) (Nat.le_refl _)
  rw [e1]
  have hc := zk_out hn
  (rw [e_X12_zoned_5]; simp only [e_X12_zoned, zo_iload, zo_lload, zo_aload, zo_istore, zo_lstore, zo_astore, zo_iinc, zo_pushI, zo_pushL, zo_null, zo_ii, zo_iid, zo_ll, zo_li, zo_lcmp, zo_i2l, zo_l2i, zo_dup, zo_dup2, zo_pop, zo_goto, zo_if, zo_icmp, zo_ifnull, zo_gets, zo_mm, zo_throw, zo_ret, zo_aret, zo_lret, q_iret_f, q_iret_1, q_iret_0, q_iret_b, q_c8_0, q_c8_1, q_c8_2, q_c8_3, q_c8_4, q_set_0, q_set_1i, q_set_1r, q_set_1n, q_set_1N, q_set_s, q_set_1j, q_bk_v, q_bk_n, q_if, zb_ite, cond_true, cond_false, List.getElem?_cons_zero, List.getElem?_cons_succ, Nat.reduceAdd, q_set_1l, q_set2_0, q_set2_1i, q_set2_1r, q_set2_1n, q_set2_s, n5, hc, if_true, if_false, zb_eq0, zb_eq1, zn_1, not_true_eq_false, not_false_eq_true, ite_true, ite_false, if_true, if_false, q_iret_0, q_iret_1, decide_true, decide_false, decide_not, zb_t, zb_f, z10, z01, cond_true, cond_false, Bool.and_true, Bool.true_and, Bool.and_false, Bool.false_and, Bool.not_true, Bool.not_false, true_and, and_true, false_and, and_false, true_or, or_true, false_or, or_false, Bool.true_eq_false, Bool.false_eq_true, eq_self, reduceCtorEq, Bool.or_true, Bool.true_or, Bool.or_false, Bool.false_or])
/-! the best NODE -/
def bF (A : zzMd) (w : Int32) : Option Nat → Int32
  | none => 0
  | some k => mtN A w (nv A 6) (zz_ix (zo A (zn k)))
def bL (A : zzMd) : Option Nat → Int32
  | none => 0
  | some k => lft A k
theorem sub_0 (x y : Int32) : (x - y = 0) = (y = x) := propext ⟨fun h => by
  have := Int32.sub_add_cancel x y
  rw [h, Int32.zero_add] at this
  exact this, fun h => by rw [h, Int32.sub_self]⟩
theorem zsub_pos {a b : Nat} (ha : a < 1000000) (hb : b < 1000000) : ((0 : Int32) < zn b - zn a) = (zn a < zn b) := by
  have l := zn_lt (a := a) (b := b) (by omega) (by omega)
  rw [l]
  by_cases h : a < b
  · rw [zn_sub (by omega)]
    have := zn_lt (a := 0) (b := b - a) (by decide) (by omega)
    rw [show (zn 0 : Int32) = 0 from rfl] at this
    rw [this]
    exact propext ⟨fun _ => h, fun _ => by omega⟩
  · have := of_eq_true (zn_subneg (a := b) (b := a) (by omega) ha)
    exact propext ⟨fun z => absurd this (Int32.not_le.mpr z), fun z => absurd z h⟩
theorem r_nodeFor (H : rAt A R 3) (ho : o < nv A 6) : fX12_nodeFor [.ref 0, .int (zn o)] R = some (.inl (some (.int (zoi (bst A (rd A 6 (zn o) 24) (znd (rd A 6 (zn o) 1)) (nv A 6))))), R) := by
  have hn := rl_n60 H.1
  have n5 := H.1.2.1.1.2
  have ho60 : o < 60 := Nat.lt_of_lt_of_le ho (rv_n60 H)
  have v1 : fX12_viewed [.ref 0, .int (zn o), .int 1] R = some (.inl (some (.int (rd A 6 (zn o) 1))), R) := (r_vw H (o := o) ho).1 1 (by decide)
  have hnd : fX12_need [.int (rd A 6 (zn o) 1)] R = _ := r_need (rd A 6 (zn o) 1) R
  have hzn : ∀ z, z < 3 → fX12_zoned [.ref 0, .int (zn o), .int (zn z)] R = _ := fun z hz => r_zoned H ho hz
  generalize rd A 6 (zn o) 24 = w at hzn ⊢
  generalize znd (rd A 6 (zn o) 1) = nd at hnd ⊢
  have ev : ∀ n, nv A 6 ≤ n → n ≤ nv A 1 → bst A w nd n = bst A w nd (nv A 6) := by
    intro n
    induction n with
    | zero => intro h _; rw [Nat.le_zero.mp h]
    | succ n ih =>
      intro h1 h2
      rcases Nat.lt_or_eq_of_le h1 with h | h
      · have : opn A (zn n) = false := by
          cases q : opn A (zn n)
          · rfl
          · exact absurd (opn_seen H (lt_n60 H.1 (show n < nv A 1 by omega)) q) (by omega)
        rw [bst_s, this, Bool.false_and, cond_false]
        exact ih (by omega) (by omega)
      · rw [← h]
  have hmt : ∀ z, ∃ a, mtN A w (nv A 6) z = zn a ∧ a ≤ 60 := fun z => ⟨_, rfl, Nat.le_trans (zcnt_le _ _) (rv_n60 H)⟩
  have main : ∀ n, n ≤ nv A 1 → ∃ (j6 j7 j8 : Option Int32), fX12_nodeFor [.ref 0, .int (zn o)] R = zz_ev tX12_nodeFor 10 [some (.ref 0), some (.int (zn o)), some (.int (zoi (bst A w nd n))), some (.int (bF A w (bst A w nd n))), some (.int (bL A (bst A w nd n))), some (.int (zn n)), zj j6, zj j7, zj j8] [] R := by
    intro n
    induction n with
    | zero =>
      intro _
      refine ⟨none, none, none, ?_⟩
      rw [s_X12_nodeFor]
      (simp only [e_X12_nodeFor, zo_iload, zo_lload, zo_aload, zo_istore, zo_lstore, zo_astore, zo_iinc, zo_pushI, zo_pushL, zo_null, zo_ii, zo_iid, zo_ll, zo_li, zo_lcmp, zo_i2l, zo_l2i, zo_dup, zo_dup2, zo_pop, zo_goto, zo_if, zo_icmp, zo_ifnull, zo_gets, zo_mm, zo_throw, zo_ret, zo_aret, zo_lret, q_iret_f, q_iret_1, q_iret_0, q_iret_b, q_c8_0, q_c8_1, q_c8_2, q_c8_3, q_c8_4, q_set_0, q_set_1i, q_set_1r, q_set_1n, q_set_1N, q_set_s, q_set_1j, q_bk_v, q_bk_n, q_if, zb_ite, cond_true, cond_false, List.getElem?_cons_zero, List.getElem?_cons_succ, Nat.reduceAdd, q_set_1l, q_set2_0, q_set2_1i, q_set2_1r, q_set2_1n, q_set2_s, if_true, if_false, zb_eq0, zb_eq1, zn_1, not_true_eq_false, not_false_eq_true, ite_true, ite_false, if_true, if_false, q_iret_0, q_iret_1, decide_true, decide_false, decide_not, zb_t, zb_f, z10, z01, cond_true, cond_false, Bool.and_true, Bool.true_and, Bool.and_false, Bool.false_and, Bool.not_true, Bool.not_false, true_and, and_true, false_and, and_false, true_or, or_true, false_or, or_false, Bool.true_eq_false, Bool.false_eq_true, eq_self, reduceCtorEq, Bool.or_true, Bool.true_or, Bool.or_false, Bool.false_or])
      rfl
    | succ n ih =>
      intro hn1
      obtain ⟨j6, j7, j8, e1⟩ := ih (by omega)
      have h60 := lt_n60 H.1 (show n < nv A 1 by omega)
      have hc := zk_in (i := n) (n := nv A 1) (by omega) hn
      have hu := r_usable H h60
      rw [e1, bst_s]
      generalize hbb : bst A w nd n = b
      cases d1 : opn A (zn n)
      · refine ⟨some 0, j7, j8, ?_⟩
        rw [Bool.false_and, cond_false]
        (rw [e_X12_nodeFor_10]; simp only [e_X12_nodeFor, zo_iload, zo_lload, zo_aload, zo_istore, zo_lstore, zo_astore, zo_iinc, zo_pushI, zo_pushL, zo_null, zo_ii, zo_iid, zo_ll, zo_li, zo_lcmp, zo_i2l, zo_l2i, zo_dup, zo_dup2, zo_pop, zo_goto, zo_if, zo_icmp, zo_ifnull, zo_gets, zo_mm, zo_throw, zo_ret, zo_aret, zo_lret, q_iret_f, q_iret_1, q_iret_0, q_iret_b, q_c8_0, q_c8_1, q_c8_2, q_c8_3, q_c8_4, q_set_0, q_set_1i, q_set_1r, q_set_1n, q_set_1N, q_set_s, q_set_1j, q_bk_v, q_bk_n, q_if, zb_ite, cond_true, cond_false, List.getElem?_cons_zero, List.getElem?_cons_succ, Nat.reduceAdd, q_set_1l, q_set2_0, q_set2_1i, q_set2_1r, q_set2_1n, q_set2_s, n5, hc, hu, d1, zj_some, if_true, if_false, zb_eq0, zb_eq1, zn_1, not_true_eq_false, not_false_eq_true, ite_true, ite_false, if_true, if_false, q_iret_0, q_iret_1, decide_true, decide_false, decide_not, zb_t, zb_f, z10, z01, cond_true, cond_false, Bool.and_true, Bool.true_and, Bool.and_false, Bool.false_and, Bool.not_true, Bool.not_false, true_and, and_true, false_and, and_false, true_or, or_true, false_or, or_false, Bool.true_eq_false, Bool.false_eq_true, eq_self, reduceCtorEq, Bool.or_true, Bool.true_or, Bool.or_false, Bool.false_or])
      · have hsn := opn_seen H h60 d1
        have v7 : fX12_viewed [.ref 0, .int (zn n), .int 7] R = some (.inl (some (.int (rd A 6 (zn n) 7))), R) := (r_vw H (o := n) hsn).1 7 (by decide)
        have v8 : fX12_viewed [.ref 0, .int (zn n), .int 8] R = some (.inl (some (.int (rd A 6 (zn n) 8))), R) := (r_vw H (o := n) hsn).1 8 (by decide)
        have hus := r_used0 H h60
        have el : rd A 6 (zn n) 7 - usN A (nv A 6) n = lft A n := rfl
        by_cases d2 : lft A n < nd
        · refine ⟨some (lft A n), j7, j8, ?_⟩
          rw [decide_eq_true d2, Bool.not_true, Bool.false_and, Bool.and_false, cond_false]
          (rw [e_X12_nodeFor_10]; simp only [e_X12_nodeFor, zo_iload, zo_lload, zo_aload, zo_istore, zo_lstore, zo_astore, zo_iinc, zo_pushI, zo_pushL, zo_null, zo_ii, zo_iid, zo_ll, zo_li, zo_lcmp, zo_i2l, zo_l2i, zo_dup, zo_dup2, zo_pop, zo_goto, zo_if, zo_icmp, zo_ifnull, zo_gets, zo_mm, zo_throw, zo_ret, zo_aret, zo_lret, q_iret_f, q_iret_1, q_iret_0, q_iret_b, q_c8_0, q_c8_1, q_c8_2, q_c8_3, q_c8_4, q_set_0, q_set_1i, q_set_1r, q_set_1n, q_set_1N, q_set_s, q_set_1j, q_bk_v, q_bk_n, q_if, zb_ite, cond_true, cond_false, List.getElem?_cons_zero, List.getElem?_cons_succ, Nat.reduceAdd, q_set_1l, q_set2_0, q_set2_1i, q_set2_1r, q_set2_1n, q_set2_s, n5, hc, hu, d1, v7, hus, el, v1, hnd, d2, zj_some, if_true, if_false, zb_eq0, zb_eq1, zn_1, not_true_eq_false, not_false_eq_true, ite_true, ite_false, if_true, if_false, q_iret_0, q_iret_1, decide_true, decide_false, decide_not, zb_t, zb_f, z10, z01, cond_true, cond_false, Bool.and_true, Bool.true_and, Bool.and_false, Bool.false_and, Bool.not_true, Bool.not_false, true_and, and_true, false_and, and_false, true_or, or_true, false_or, or_false, Bool.true_eq_false, Bool.false_eq_true, eq_self, reduceCtorEq, Bool.or_true, Bool.true_or, Bool.or_false, Bool.false_or])
        · rw [decide_eq_false d2, Bool.not_false, Bool.true_and, Bool.true_and]
          obtain ⟨q, q1, q2, q3⟩ := fld H (i := n) (f := 8) hsn (by decide)
          have q1' : rd A 6 (zn n) 8 = zn q := q1
          have q3' : q ≤ 2 := q3
          have hzo : zo A (zn n) = zn q := by
            unfold zo
            rw [q1', if_neg (zn_lt0 (by omega)).mp, if_pos (of_eq_true (zn_lt (a := q) (b := 3) (by omega) (by decide) ▸ eq_true (by omega)))]
          rw [q1'] at v8
          have hz := hzn q (by omega)
          obtain ⟨a, ha, ha60⟩ := hmt q
          rw [ha] at hz
          have eF : bF A w (some n) = zn a := by
            show mtN A w (nv A 6) (zz_ix (zo A (zn n))) = zn a
            rw [hzo, zn_ix (by omega), ha]
          have eL : bL A (some n) = lft A n := rfl
          have eO : zoi (some n) = zn n := rfl
          cases b with
          | none =>
            refine ⟨some (lft A n), some (zn a), some 1, ?_⟩
            show _ = zz_ev tX12_nodeFor 10 [some (.ref 0), some (.int (zn o)), some (.int (zoi (some n))), some (.int (bF A w (some n))), some (.int (bL A (some n))), some (.int (zn (n + 1))), zj (some (lft A n)), zj (some (zn a)), zj (some 1)] [] R
            have eO2 : zoi none = -1 := rfl
            (rw [e_X12_nodeFor_10]; simp only [e_X12_nodeFor, zo_iload, zo_lload, zo_aload, zo_istore, zo_lstore, zo_astore, zo_iinc, zo_pushI, zo_pushL, zo_null, zo_ii, zo_iid, zo_ll, zo_li, zo_lcmp, zo_i2l, zo_l2i, zo_dup, zo_dup2, zo_pop, zo_goto, zo_if, zo_icmp, zo_ifnull, zo_gets, zo_mm, zo_throw, zo_ret, zo_aret, zo_lret, q_iret_f, q_iret_1, q_iret_0, q_iret_b, q_c8_0, q_c8_1, q_c8_2, q_c8_3, q_c8_4, q_set_0, q_set_1i, q_set_1r, q_set_1n, q_set_1N, q_set_s, q_set_1j, q_bk_v, q_bk_n, q_if, zb_ite, cond_true, cond_false, List.getElem?_cons_zero, List.getElem?_cons_succ, Nat.reduceAdd, q_set_1l, q_set2_0, q_set2_1i, q_set2_1r, q_set2_1n, q_set2_s, n5, hc, hu, d1, v7, hus, el, v1, hnd, d2, v8, hz, eO2, eF, eL, eO, zj_some, if_true, if_false, zb_eq0, zb_eq1, zn_1, not_true_eq_false, not_false_eq_true, ite_true, ite_false, if_true, if_false, q_iret_0, q_iret_1, decide_true, decide_false, decide_not, zb_t, zb_f, z10, z01, cond_true, cond_false, Bool.and_true, Bool.true_and, Bool.and_false, Bool.false_and, Bool.not_true, Bool.not_false, true_and, and_true, false_and, and_false, true_or, or_true, false_or, or_false, Bool.true_eq_false, Bool.false_eq_true, eq_self, reduceCtorEq, Bool.or_true, Bool.true_or, Bool.or_false, Bool.false_or])
          | some k =>
            have hk : k < n := bst_lt hbb
            have km : (zn k = -1) = False := zn_m1 (k := k) (by omega)
            have eO2 : zoi (some k) = zn k := rfl
            obtain ⟨b, hb, hb60⟩ := hmt (zz_ix (zo A (zn k)))
            have eF2 : bF A w (some k) = zn b := hb
            have eL2 : bL A (some k) = lft A k := rfl
            have ef : few A w n k = zn b - zn a := by
              unfold few
              rw [hb, hzo, zn_ix (by omega), ha]
            have e0 := zsub_pos (a := a) (b := b) (by omega) (by omega)
            have e2 := sub_0 (zn b) (zn a)
            have eb : btr A w n k = (decide (zn a < zn b) || (decide (zn a = zn b) && !decide (lft A n ≤ lft A k))) := by
              unfold btr
              rw [ef]
              simp only [e0, e2]
            dsimp only
            rw [eb]
            by_cases d3 : zn a < zn b
            · refine ⟨some (lft A n), some (zn a), some 1, ?_⟩
              rw [decide_eq_true d3, Bool.true_or, cond_true]
              (rw [e_X12_nodeFor_10]; simp only [e_X12_nodeFor, zo_iload, zo_lload, zo_aload, zo_istore, zo_lstore, zo_astore, zo_iinc, zo_pushI, zo_pushL, zo_null, zo_ii, zo_iid, zo_ll, zo_li, zo_lcmp, zo_i2l, zo_l2i, zo_dup, zo_dup2, zo_pop, zo_goto, zo_if, zo_icmp, zo_ifnull, zo_gets, zo_mm, zo_throw, zo_ret, zo_aret, zo_lret, q_iret_f, q_iret_1, q_iret_0, q_iret_b, q_c8_0, q_c8_1, q_c8_2, q_c8_3, q_c8_4, q_set_0, q_set_1i, q_set_1r, q_set_1n, q_set_1N, q_set_s, q_set_1j, q_bk_v, q_bk_n, q_if, zb_ite, cond_true, cond_false, List.getElem?_cons_zero, List.getElem?_cons_succ, Nat.reduceAdd, q_set_1l, q_set2_0, q_set2_1i, q_set2_1r, q_set2_1n, q_set2_s, n5, hc, hu, d1, v7, hus, el, v1, hnd, d2, v8, hz, eO2, km, eF2, d3, eF, eL, eO, zj_some, if_true, if_false, zb_eq0, zb_eq1, zn_1, not_true_eq_false, not_false_eq_true, ite_true, ite_false, if_true, if_false, q_iret_0, q_iret_1, decide_true, decide_false, decide_not, zb_t, zb_f, z10, z01, cond_true, cond_false, Bool.and_true, Bool.true_and, Bool.and_false, Bool.false_and, Bool.not_true, Bool.not_false, true_and, and_true, false_and, and_false, true_or, or_true, false_or, or_false, Bool.true_eq_false, Bool.false_eq_true, eq_self, reduceCtorEq, Bool.or_true, Bool.true_or, Bool.or_false, Bool.false_or])
            · rw [decide_eq_false d3, Bool.false_or]
              by_cases d4 : zn a = zn b
              · have d3' : (zn b < zn b) = False := eq_false fun z => d3 (by rw [d4]; exact z)
                by_cases d5 : lft A n ≤ lft A k
                · refine ⟨some (lft A n), some (zn a), some 0, ?_⟩
                  rw [decide_eq_true d5, Bool.not_true, Bool.and_false, cond_false]
                  (rw [e_X12_nodeFor_10]; simp only [e_X12_nodeFor, zo_iload, zo_lload, zo_aload, zo_istore, zo_lstore, zo_astore, zo_iinc, zo_pushI, zo_pushL, zo_null, zo_ii, zo_iid, zo_ll, zo_li, zo_lcmp, zo_i2l, zo_l2i, zo_dup, zo_dup2, zo_pop, zo_goto, zo_if, zo_icmp, zo_ifnull, zo_gets, zo_mm, zo_throw, zo_ret, zo_aret, zo_lret, q_iret_f, q_iret_1, q_iret_0, q_iret_b, q_c8_0, q_c8_1, q_c8_2, q_c8_3, q_c8_4, q_set_0, q_set_1i, q_set_1r, q_set_1n, q_set_1N, q_set_s, q_set_1j, q_bk_v, q_bk_n, q_if, zb_ite, cond_true, cond_false, List.getElem?_cons_zero, List.getElem?_cons_succ, Nat.reduceAdd, q_set_1l, q_set2_0, q_set2_1i, q_set2_1r, q_set2_1n, q_set2_s, n5, hc, hu, d1, v7, hus, el, v1, hnd, d2, v8, hz, eO2, km, eF2, d3', d4, eL2, d5, zj_some, if_true, if_false, zb_eq0, zb_eq1, zn_1, not_true_eq_false, not_false_eq_true, ite_true, ite_false, if_true, if_false, q_iret_0, q_iret_1, decide_true, decide_false, decide_not, zb_t, zb_f, z10, z01, cond_true, cond_false, Bool.and_true, Bool.true_and, Bool.and_false, Bool.false_and, Bool.not_true, Bool.not_false, true_and, and_true, false_and, and_false, true_or, or_true, false_or, or_false, Bool.true_eq_false, Bool.false_eq_true, eq_self, reduceCtorEq, Bool.or_true, Bool.true_or, Bool.or_false, Bool.false_or])
                · refine ⟨some (lft A n), some (zn a), some 1, ?_⟩
                  rw [decide_eq_false d5, decide_eq_true d4, Bool.not_false, Bool.true_and, cond_true]
                  (rw [e_X12_nodeFor_10]; simp only [e_X12_nodeFor, zo_iload, zo_lload, zo_aload, zo_istore, zo_lstore, zo_astore, zo_iinc, zo_pushI, zo_pushL, zo_null, zo_ii, zo_iid, zo_ll, zo_li, zo_lcmp, zo_i2l, zo_l2i, zo_dup, zo_dup2, zo_pop, zo_goto, zo_if, zo_icmp, zo_ifnull, zo_gets, zo_mm, zo_throw, zo_ret, zo_aret, zo_lret, q_iret_f, q_iret_1, q_iret_0, q_iret_b, q_c8_0, q_c8_1, q_c8_2, q_c8_3, q_c8_4, q_set_0, q_set_1i, q_set_1r, q_set_1n, q_set_1N, q_set_s, q_set_1j, q_bk_v, q_bk_n, q_if, zb_ite, cond_true, cond_false, List.getElem?_cons_zero, List.getElem?_cons_succ, Nat.reduceAdd, q_set_1l, q_set2_0, q_set2_1i, q_set2_1r, q_set2_1n, q_set2_s, n5, hc, hu, d1, v7, hus, el, v1, hnd, d2, v8, hz, eO2, km, eF2, d3', d4, eL2, d5, eF, eL, eO, zj_some, if_true, if_false, zb_eq0, zb_eq1, zn_1, not_true_eq_false, not_false_eq_true, ite_true, ite_false, if_true, if_false, q_iret_0, q_iret_1, decide_true, decide_false, decide_not, zb_t, zb_f, z10, z01, cond_true, cond_false, Bool.and_true, Bool.true_and, Bool.and_false, Bool.false_and, Bool.not_true, Bool.not_false, true_and, and_true, false_and, and_false, true_or, or_true, false_or, or_false, Bool.true_eq_false, Bool.false_eq_true, eq_self, reduceCtorEq, Bool.or_true, Bool.true_or, Bool.or_false, Bool.false_or])
              · refine ⟨some (lft A n), some (zn a), some 0, ?_⟩
                rw [decide_eq_false d4, Bool.false_and, cond_false]
                (rw [e_X12_nodeFor_10]; simp only [e_X12_nodeFor, zo_iload, zo_lload, zo_aload, zo_istore, zo_lstore, zo_astore, zo_iinc, zo_pushI, zo_pushL, zo_null, zo_ii, zo_iid, zo_ll, zo_li, zo_lcmp, zo_i2l, zo_l2i, zo_dup, zo_dup2, zo_pop, zo_goto, zo_if, zo_icmp, zo_ifnull, zo_gets, zo_mm, zo_throw, zo_ret, zo_aret, zo_lret, q_iret_f, q_iret_1, q_iret_0, q_iret_b, q_c8_0, q_c8_1, q_c8_2, q_c8_3, q_c8_4, q_set_0, q_set_1i, q_set_1r, q_set_1n, q_set_1N, q_set_s, q_set_1j, q_bk_v, q_bk_n, q_if, zb_ite, cond_true, cond_false, List.getElem?_cons_zero, List.getElem?_cons_succ, Nat.reduceAdd, q_set_1l, q_set2_0, q_set2_1i, q_set2_1r, q_set2_1n, q_set2_s, n5, hc, hu, d1, v7, hus, el, v1, hnd, d2, v8, hz, eO2, km, eF2, d3, d4, eL2, zj_some, if_true, if_false, zb_eq0, zb_eq1, zn_1, not_true_eq_false, not_false_eq_true, ite_true, ite_false, if_true, if_false, q_iret_0, q_iret_1, decide_true, decide_false, decide_not, zb_t, zb_f, z10, z01, cond_true, cond_false, Bool.and_true, Bool.true_and, Bool.and_false, Bool.false_and, Bool.not_true, Bool.not_false, true_and, and_true, false_and, and_false, true_or, or_true, false_or, or_false, Bool.true_eq_false, Bool.false_eq_true, eq_self, reduceCtorEq, Bool.or_true, Bool.true_or, Bool.or_false, Bool.false_or])
  obtain ⟨j6, j7, j8, e1⟩ := main (nv A 1) (Nat.le_refl _)
  rw [e1, ev (nv A 1) (rv_nv H) (Nat.le_refl _)]
  have hc := zk_out hn
  (rw [e_X12_nodeFor_10]; simp only [e_X12_nodeFor, zo_iload, zo_lload, zo_aload, zo_istore, zo_lstore, zo_astore, zo_iinc, zo_pushI, zo_pushL, zo_null, zo_ii, zo_iid, zo_ll, zo_li, zo_lcmp, zo_i2l, zo_l2i, zo_dup, zo_dup2, zo_pop, zo_goto, zo_if, zo_icmp, zo_ifnull, zo_gets, zo_mm, zo_throw, zo_ret, zo_aret, zo_lret, q_iret_f, q_iret_1, q_iret_0, q_iret_b, q_c8_0, q_c8_1, q_c8_2, q_c8_3, q_c8_4, q_set_0, q_set_1i, q_set_1r, q_set_1n, q_set_1N, q_set_s, q_set_1j, q_bk_v, q_bk_n, q_if, zb_ite, cond_true, cond_false, List.getElem?_cons_zero, List.getElem?_cons_succ, Nat.reduceAdd, q_set_1l, q_set2_0, q_set2_1i, q_set2_1r, q_set2_1n, q_set2_s, n5, hc, if_true, if_false, zb_eq0, zb_eq1, zn_1, not_true_eq_false, not_false_eq_true, ite_true, ite_false, if_true, if_false, q_iret_0, q_iret_1, decide_true, decide_false, decide_not, zb_t, zb_f, z10, z01, cond_true, cond_false, Bool.and_true, Bool.true_and, Bool.and_false, Bool.false_and, Bool.not_true, Bool.not_false, true_and, and_true, false_and, and_false, true_or, or_true, false_or, or_false, Bool.true_eq_false, Bool.false_eq_true, eq_self, reduceCtorEq, Bool.or_true, Bool.true_or, Bool.or_false, Bool.false_or])
end
end

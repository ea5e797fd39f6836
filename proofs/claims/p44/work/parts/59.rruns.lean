section
/-! RUNNER, in both -/
section
variable {A R : zzMd} {c o : Nat}
def bUs (A R : zzMd) (v : Nat) (x : Int32) (fl : Bool) (i : Nat) : Bool := (!gone A v (zn i) && (decide (R.1 6 i = 2) && decide (rd A v (zn i) 28 = x))) && (decide (rd A v (zn i) 29 = 1) || (!fl && decide (rd A v (zn i) 29 = 0)))
theorem r_used (H : rAt A R c) (x : Int32) (fl : Bool) : fX12_used [.ref 0, .int x, .int (zb fl)] R = some (.inl (some (.int (zsum (nv A 1) fun i => bif bUs A R (3 + c) x fl i then znd (rd A (3 + c) (zn i) 1) else 0))), R) := by
  have hn := rl_n60 H.1
  have n5 := H.1.2.1.1.2
  have main : ∀ n, n ≤ nv A 1 → ∃ (j5 j6 : Option Int32), fX12_used [.ref 0, .int x, .int (zb fl)] R = zz_ev tX12_used 5 [some (.ref 0), some (.int x), some (.int (zb fl)), some (.int (zsum n fun i => bif bUs A R (3 + c) x fl i then znd (rd A (3 + c) (zn i) 1) else 0)), some (.int (zn n)), zj j5, zj j6] [] R := by
    intro n
    induction n with
    | zero =>
      intro _
      refine ⟨none, none, ?_⟩
      rw [s_X12_used]
      (simp only [e_X12_used, zo_iload, zo_lload, zo_aload, zo_istore, zo_lstore, zo_astore, zo_iinc, zo_pushI, zo_pushL, zo_null, zo_ii, zo_iid, zo_ll, zo_li, zo_lcmp, zo_i2l, zo_l2i, zo_dup, zo_dup2, zo_pop, zo_goto, zo_if, zo_icmp, zo_ifnull, zo_gets, zo_mm, zo_throw, zo_ret, zo_aret, zo_lret, q_iret_f, q_iret_1, q_iret_0, q_iret_b, q_c8_0, q_c8_1, q_c8_2, q_c8_3, q_c8_4, q_set_0, q_set_1i, q_set_1r, q_set_1n, q_set_1N, q_set_s, q_set_1j, q_bk_v, q_bk_n, q_if, zb_ite, cond_true, cond_false, List.getElem?_cons_zero, List.getElem?_cons_succ, Nat.reduceAdd, q_set_1l, q_set2_0, q_set2_1i, q_set2_1r, q_set2_1n, q_set2_s, if_true, if_false, zb_eq0, zb_eq1, zn_1, not_true_eq_false, not_false_eq_true, ite_true, ite_false, if_true, if_false, q_iret_0, q_iret_1, decide_true, decide_false, decide_not, zb_t, zb_f, z10, z01, cond_true, cond_false, Bool.and_true, Bool.true_and, Bool.and_false, Bool.false_and, Bool.not_true, Bool.not_false, true_and, and_true, false_and, and_false, true_or, or_true, false_or, or_false, Bool.true_eq_false, Bool.false_eq_true, eq_self, reduceCtorEq, Bool.or_true, Bool.true_or, Bool.or_false, Bool.false_or])
      rfl
    | succ n ih =>
      intro hn1
      obtain ⟨j5, j6, e1⟩ := ih (by omega)
      have h60 := lt_n60 H.1 (show n < nv A 1 by omega)
      have hc := zk_in (i := n) (n := nv A 1) (by omega) hn
      obtain ⟨b1, x1⟩ := kinds_o n h60
      have hg := r_goneT H h60
      rw [e1, zsum_s]
      generalize (zsum n fun i => bif bUs A R (3 + c) x fl i then znd (rd A (3 + c) (zn i) 1) else 0) = sm
      unfold bUs
      cases d1 : gone A (3 + c) (zn n)
      · obtain ⟨V, -, -, -, v15, v16⟩ := r_vw H (seen_of H h60 d1)
        have v1 : fX12_viewed [.ref 0, .int (zn n), .int 1] R = some (.inl (some (.int (rd A (3 + c) (zn n) 1))), R) := V 1 (by decide)
        have hnd := fun t => r_need t R
        by_cases d2 : R.1 6 n = 2
        · by_cases d3 : rd A (3 + c) (zn n) 28 = x
          · have d3' : (rd A (3 + c) (zn n) 28 + 1 = x + 1) = True := eq_true (by rw [d3])
            by_cases d4 : rd A (3 + c) (zn n) 29 = 1
            · refine ⟨some 1, some 1, ?_⟩
              (rw [e_X12_used_5]; simp only [e_X12_used, zo_iload, zo_lload, zo_aload, zo_istore, zo_lstore, zo_astore, zo_iinc, zo_pushI, zo_pushL, zo_null, zo_ii, zo_iid, zo_ll, zo_li, zo_lcmp, zo_i2l, zo_l2i, zo_dup, zo_dup2, zo_pop, zo_goto, zo_if, zo_icmp, zo_ifnull, zo_gets, zo_mm, zo_throw, zo_ret, zo_aret, zo_lret, q_iret_f, q_iret_1, q_iret_0, q_iret_b, q_c8_0, q_c8_1, q_c8_2, q_c8_3, q_c8_4, q_set_0, q_set_1i, q_set_1r, q_set_1n, q_set_1N, q_set_s, q_set_1j, q_bk_v, q_bk_n, q_if, zb_ite, cond_true, cond_false, List.getElem?_cons_zero, List.getElem?_cons_succ, Nat.reduceAdd, q_set_1l, q_set2_0, q_set2_1i, q_set2_1r, q_set2_1n, q_set2_s, n5, hc, hg, d1, b1, x1, q_aR, d2, v15, d3, d3', v16, d4, v1, hnd, zj_some, if_true, if_false, zb_eq0, zb_eq1, zn_1, not_true_eq_false, not_false_eq_true, ite_true, ite_false, if_true, if_false, q_iret_0, q_iret_1, decide_true, decide_false, decide_not, zb_t, zb_f, z10, z01, cond_true, cond_false, Bool.and_true, Bool.true_and, Bool.and_false, Bool.false_and, Bool.not_true, Bool.not_false, true_and, and_true, false_and, and_false, true_or, or_true, false_or, or_false, Bool.true_eq_false, Bool.false_eq_true, eq_self, reduceCtorEq, Bool.or_true, Bool.true_or, Bool.or_false, Bool.false_or])
            · cases fl
              · by_cases d5 : rd A (3 + c) (zn n) 29 = 0
                · refine ⟨some 1, some 1, ?_⟩
                  have n01 : ((0 : Int32) = 1) = False := eq_false (by decide)
                  (rw [e_X12_used_5]; simp only [e_X12_used, zo_iload, zo_lload, zo_aload, zo_istore, zo_lstore, zo_astore, zo_iinc, zo_pushI, zo_pushL, zo_null, zo_ii, zo_iid, zo_ll, zo_li, zo_lcmp, zo_i2l, zo_l2i, zo_dup, zo_dup2, zo_pop, zo_goto, zo_if, zo_icmp, zo_ifnull, zo_gets, zo_mm, zo_throw, zo_ret, zo_aret, zo_lret, q_iret_f, q_iret_1, q_iret_0, q_iret_b, q_c8_0, q_c8_1, q_c8_2, q_c8_3, q_c8_4, q_set_0, q_set_1i, q_set_1r, q_set_1n, q_set_1N, q_set_s, q_set_1j, q_bk_v, q_bk_n, q_if, zb_ite, cond_true, cond_false, List.getElem?_cons_zero, List.getElem?_cons_succ, Nat.reduceAdd, q_set_1l, q_set2_0, q_set2_1i, q_set2_1r, q_set2_1n, q_set2_s, n5, hc, hg, d1, b1, x1, q_aR, d2, v15, d3, d3', v16, d5, n01, v1, hnd, zj_some, if_true, if_false, zb_eq0, zb_eq1, zn_1, not_true_eq_false, not_false_eq_true, ite_true, ite_false, if_true, if_false, q_iret_0, q_iret_1, decide_true, decide_false, decide_not, zb_t, zb_f, z10, z01, cond_true, cond_false, Bool.and_true, Bool.true_and, Bool.and_false, Bool.false_and, Bool.not_true, Bool.not_false, true_and, and_true, false_and, and_false, true_or, or_true, false_or, or_false, Bool.true_eq_false, Bool.false_eq_true, eq_self, reduceCtorEq, Bool.or_true, Bool.true_or, Bool.or_false, Bool.false_or])
                · refine ⟨some 1, some 0, ?_⟩
                  (rw [e_X12_used_5]; simp only [e_X12_used, zo_iload, zo_lload, zo_aload, zo_istore, zo_lstore, zo_astore, zo_iinc, zo_pushI, zo_pushL, zo_null, zo_ii, zo_iid, zo_ll, zo_li, zo_lcmp, zo_i2l, zo_l2i, zo_dup, zo_dup2, zo_pop, zo_goto, zo_if, zo_icmp, zo_ifnull, zo_gets, zo_mm, zo_throw, zo_ret, zo_aret, zo_lret, q_iret_f, q_iret_1, q_iret_0, q_iret_b, q_c8_0, q_c8_1, q_c8_2, q_c8_3, q_c8_4, q_set_0, q_set_1i, q_set_1r, q_set_1n, q_set_1N, q_set_s, q_set_1j, q_bk_v, q_bk_n, q_if, zb_ite, cond_true, cond_false, List.getElem?_cons_zero, List.getElem?_cons_succ, Nat.reduceAdd, q_set_1l, q_set2_0, q_set2_1i, q_set2_1r, q_set2_1n, q_set2_s, n5, hc, hg, d1, b1, x1, q_aR, d2, v15, d3, d3', v16, d4, d5, zj_some, Int32.add_zero, if_true, if_false, zb_eq0, zb_eq1, zn_1, not_true_eq_false, not_false_eq_true, ite_true, ite_false, if_true, if_false, q_iret_0, q_iret_1, decide_true, decide_false, decide_not, zb_t, zb_f, z10, z01, cond_true, cond_false, Bool.and_true, Bool.true_and, Bool.and_false, Bool.false_and, Bool.not_true, Bool.not_false, true_and, and_true, false_and, and_false, true_or, or_true, false_or, or_false, Bool.true_eq_false, Bool.false_eq_true, eq_self, reduceCtorEq, Bool.or_true, Bool.true_or, Bool.or_false, Bool.false_or])
              · refine ⟨some 1, some 0, ?_⟩
                (rw [e_X12_used_5]; simp only [e_X12_used, zo_iload, zo_lload, zo_aload, zo_istore, zo_lstore, zo_astore, zo_iinc, zo_pushI, zo_pushL, zo_null, zo_ii, zo_iid, zo_ll, zo_li, zo_lcmp, zo_i2l, zo_l2i, zo_dup, zo_dup2, zo_pop, zo_goto, zo_if, zo_icmp, zo_ifnull, zo_gets, zo_mm, zo_throw, zo_ret, zo_aret, zo_lret, q_iret_f, q_iret_1, q_iret_0, q_iret_b, q_c8_0, q_c8_1, q_c8_2, q_c8_3, q_c8_4, q_set_0, q_set_1i, q_set_1r, q_set_1n, q_set_1N, q_set_s, q_set_1j, q_bk_v, q_bk_n, q_if, zb_ite, cond_true, cond_false, List.getElem?_cons_zero, List.getElem?_cons_succ, Nat.reduceAdd, q_set_1l, q_set2_0, q_set2_1i, q_set2_1r, q_set2_1n, q_set2_s, n5, hc, hg, d1, b1, x1, q_aR, d2, v15, d3, d3', v16, d4, zj_some, Int32.add_zero, if_true, if_false, zb_eq0, zb_eq1, zn_1, not_true_eq_false, not_false_eq_true, ite_true, ite_false, if_true, if_false, q_iret_0, q_iret_1, decide_true, decide_false, decide_not, zb_t, zb_f, z10, z01, cond_true, cond_false, Bool.and_true, Bool.true_and, Bool.and_false, Bool.false_and, Bool.not_true, Bool.not_false, true_and, and_true, false_and, and_false, true_or, or_true, false_or, or_false, Bool.true_eq_false, Bool.false_eq_true, eq_self, reduceCtorEq, Bool.or_true, Bool.true_or, Bool.or_false, Bool.false_or])
          · have d3' : (rd A (3 + c) (zn n) 28 + 1 = x + 1) = False := by rw [p1_inj]; exact eq_false d3
            refine ⟨some 0, some 0, ?_⟩
            (rw [e_X12_used_5]; simp only [e_X12_used, zo_iload, zo_lload, zo_aload, zo_istore, zo_lstore, zo_astore, zo_iinc, zo_pushI, zo_pushL, zo_null, zo_ii, zo_iid, zo_ll, zo_li, zo_lcmp, zo_i2l, zo_l2i, zo_dup, zo_dup2, zo_pop, zo_goto, zo_if, zo_icmp, zo_ifnull, zo_gets, zo_mm, zo_throw, zo_ret, zo_aret, zo_lret, q_iret_f, q_iret_1, q_iret_0, q_iret_b, q_c8_0, q_c8_1, q_c8_2, q_c8_3, q_c8_4, q_set_0, q_set_1i, q_set_1r, q_set_1n, q_set_1N, q_set_s, q_set_1j, q_bk_v, q_bk_n, q_if, zb_ite, cond_true, cond_false, List.getElem?_cons_zero, List.getElem?_cons_succ, Nat.reduceAdd, q_set_1l, q_set2_0, q_set2_1i, q_set2_1r, q_set2_1n, q_set2_s, n5, hc, hg, d1, b1, x1, q_aR, d2, v15, d3, d3', zj_some, Int32.add_zero, if_true, if_false, zb_eq0, zb_eq1, zn_1, not_true_eq_false, not_false_eq_true, ite_true, ite_false, if_true, if_false, q_iret_0, q_iret_1, decide_true, decide_false, decide_not, zb_t, zb_f, z10, z01, cond_true, cond_false, Bool.and_true, Bool.true_and, Bool.and_false, Bool.false_and, Bool.not_true, Bool.not_false, true_and, and_true, false_and, and_false, true_or, or_true, false_or, or_false, Bool.true_eq_false, Bool.false_eq_true, eq_self, reduceCtorEq, Bool.or_true, Bool.true_or, Bool.or_false, Bool.false_or])
        · refine ⟨some 0, some 0, ?_⟩
          (rw [e_X12_used_5]; simp only [e_X12_used, zo_iload, zo_lload, zo_aload, zo_istore, zo_lstore, zo_astore, zo_iinc, zo_pushI, zo_pushL, zo_null, zo_ii, zo_iid, zo_ll, zo_li, zo_lcmp, zo_i2l, zo_l2i, zo_dup, zo_dup2, zo_pop, zo_goto, zo_if, zo_icmp, zo_ifnull, zo_gets, zo_mm, zo_throw, zo_ret, zo_aret, zo_lret, q_iret_f, q_iret_1, q_iret_0, q_iret_b, q_c8_0, q_c8_1, q_c8_2, q_c8_3, q_c8_4, q_set_0, q_set_1i, q_set_1r, q_set_1n, q_set_1N, q_set_s, q_set_1j, q_bk_v, q_bk_n, q_if, zb_ite, cond_true, cond_false, List.getElem?_cons_zero, List.getElem?_cons_succ, Nat.reduceAdd, q_set_1l, q_set2_0, q_set2_1i, q_set2_1r, q_set2_1n, q_set2_s, n5, hc, hg, d1, b1, x1, q_aR, d2, zj_some, Int32.add_zero, if_true, if_false, zb_eq0, zb_eq1, zn_1, not_true_eq_false, not_false_eq_true, ite_true, ite_false, if_true, if_false, q_iret_0, q_iret_1, decide_true, decide_false, decide_not, zb_t, zb_f, z10, z01, cond_true, cond_false, Bool.and_true, Bool.true_and, Bool.and_false, Bool.false_and, Bool.not_true, Bool.not_false, true_and, and_true, false_and, and_false, true_or, or_true, false_or, or_false, Bool.true_eq_false, Bool.false_eq_true, eq_self, reduceCtorEq, Bool.or_true, Bool.true_or, Bool.or_false, Bool.false_or])
      · refine ⟨some 0, some 0, ?_⟩
        (rw [e_X12_used_5]; simp only [e_X12_used, zo_iload, zo_lload, zo_aload, zo_istore, zo_lstore, zo_astore, zo_iinc, zo_pushI, zo_pushL, zo_null, zo_ii, zo_iid, zo_ll, zo_li, zo_lcmp, zo_i2l, zo_l2i, zo_dup, zo_dup2, zo_pop, zo_goto, zo_if, zo_icmp, zo_ifnull, zo_gets, zo_mm, zo_throw, zo_ret, zo_aret, zo_lret, q_iret_f, q_iret_1, q_iret_0, q_iret_b, q_c8_0, q_c8_1, q_c8_2, q_c8_3, q_c8_4, q_set_0, q_set_1i, q_set_1r, q_set_1n, q_set_1N, q_set_s, q_set_1j, q_bk_v, q_bk_n, q_if, zb_ite, cond_true, cond_false, List.getElem?_cons_zero, List.getElem?_cons_succ, Nat.reduceAdd, q_set_1l, q_set2_0, q_set2_1i, q_set2_1r, q_set2_1n, q_set2_s, n5, hc, hg, d1, zj_some, Int32.add_zero, if_true, if_false, zb_eq0, zb_eq1, zn_1, not_true_eq_false, not_false_eq_true, ite_true, ite_false, if_true, if_false, q_iret_0, q_iret_1, decide_true, decide_false, decide_not, zb_t, zb_f, z10, z01, cond_true, cond_false, Bool.and_true, Bool.true_and, Bool.and_false, Bool.false_and, Bool.not_true, Bool.not_false, true_and, and_true, false_and, and_false, true_or, or_true, false_or, or_false, Bool.true_eq_false, Bool.false_eq_true, eq_self, reduceCtorEq, Bool.or_true, Bool.true_or, Bool.or_false, Bool.false_or])
  obtain ⟨j5, j6, e1⟩ := main (nv A 1) (Nat.le_refl _)
  rw [e1]
  have hc := zk_out hn
  (rw [e_X12_used_5]; simp only [e_X12_used, zo_iload, zo_lload, zo_aload, zo_istore, zo_lstore, zo_astore, zo_iinc, zo_pushI, zo_pushL, zo_null, zo_ii, zo_iid, zo_ll, zo_li, zo_lcmp, zo_i2l, zo_l2i, zo_dup, zo_dup2, zo_pop, zo_goto, zo_if, zo_icmp, zo_ifnull, zo_gets, zo_mm, zo_throw, zo_ret, zo_aret, zo_lret, q_iret_f, q_iret_1, q_iret_0, q_iret_b, q_c8_0, q_c8_1, q_c8_2, q_c8_3, q_c8_4, q_set_0, q_set_1i, q_set_1r, q_set_1n, q_set_1N, q_set_s, q_set_1j, q_bk_v, q_bk_n, q_if, zb_ite, cond_true, cond_false, List.getElem?_cons_zero, List.getElem?_cons_succ, Nat.reduceAdd, q_set_1l, q_set2_0, q_set2_1i, q_set2_1r, q_set2_1n, q_set2_s, n5, hc, if_true, if_false, zb_eq0, zb_eq1, zn_1, not_true_eq_false, not_false_eq_true, ite_true, ite_false, if_true, if_false, q_iret_0, q_iret_1, decide_true, decide_false, decide_not, zb_t, zb_f, z10, z01, cond_true, cond_false, Bool.and_true, Bool.true_and, Bool.and_false, Bool.false_and, Bool.not_true, Bool.not_false, true_and, and_true, false_and, and_false, true_or, or_true, false_or, or_false, Bool.true_eq_false, Bool.false_eq_true, eq_self, reduceCtorEq, Bool.or_true, Bool.true_or, Bool.or_false, Bool.false_or])
theorem bUs_un (H : rAt A R c) {x : Int32} {fl : Bool} {i : Nat} (hi : i < 60) (h : ¬ i < nv A (3 + c)) : bUs A R (3 + c) x fl i = false := by
  unfold bUs
  rw [((gP H hi).1 h).1]
  rfl
theorem r_used1 (H : rAt A R 4) {p : Nat} (hp : p < 60) : fX12_used [.ref 0, .int (zn p), .int 1] R = some (.inl (some (.int (runN A (zn p)))), R) := by
  have h := r_used H (zn p) true
  simp only [Nat.reduceAdd, zb_t] at h
  rw [h]
  unfold runN
  rw [zsum_ext (show nv A 7 ≤ nv A 1 from rv_nv H) fun i a b => by
    have := bUs_un H (x := zn p) (fl := true) (i := i) (lt_n60 H.1 b) (by simp only [Nat.reduceAdd]; omega)
    simp only [Nat.reduceAdd] at this
    rw [this]; rfl]
  rw [zsum_congr fun i hi => by
    have hi' : i < nv A (3 + 4) := hi
    have h60 : i < 60 := Nat.lt_of_lt_of_le hi' (rv_n60 H)
    obtain ⟨-, -, g, -, g23⟩ := rv_row H hi'
    have g28 := g.2.2.2.2.2.2.1
    simp only [Nat.reduceAdd] at g23 g28
    have : bUs A R 7 (zn p) true i = (decide (rd A 7 (zn i) 28 = zn p) && (decide (rd A 7 (zn i) 29 = 1) && !gone A 7 (zn i))) := by
      unfold bUs
      rcases g28 with e | ⟨p', -, -, e⟩
      · have e' : rd A 7 (zn i) 28 = -1 := e
        have e2 : ¬ (-1 : Int32) = zn p := fun z => (zn_m1 (k := p) (by omega)).mp z.symm
        rw [e', decide_eq_false e2]
        simp
      · have e' : rd A 7 (zn i) 23 = 2 := e
        rw [← g23, e']
        cases gone A 7 (zn i) <;> cases decide (rd A 7 (zn i) 28 = zn p) <;> cases decide (rd A 7 (zn i) 29 = 1) <;> rfl
    rw [this]]
/-- what a controller has seen is what is -/
theorem utd_row (H : rAt A R c) {b : Nat} (hb : b < nv A 1) (u : utd A c b = true) {s : Nat} (hs : s < 32) : rd A (3 + c) (zn b) (zn s) = row A b s := by
  have h60 := lt_n60 H.1 hb
  have u' := of_decide_eq_true u
  rw [((H.1.2.2.1 c H.2.2).1.2 b h60).1, H.1.2.1.2.2.2.1.2 b h60] at u'
  have h1 : lastV (obj A) (ve A (3 + c)) b ≤ ve A (3 + c) := lastV_le b _
  have h2 : lastV (obj A) (ve A 1) b ≤ ve A 1 := lastV_le b _
  have he := rl_e4 H.1
  have hv := rv_ve H
  rw [zn_inj (by omega) (by omega)] at u'
  rw [rd_lg H.2.2 (H.1.2.2.1 c H.2.2).1 h60 hs, u', row_lg H.1.2.1 h60]
theorem phase_enc (H : Rl0 A R) {b h : Nat} (hb : b < nv A 1) (hh : h ≤ 3) : encR (wt (R.2 7 b) 16 (zn h)) (dOw (dUp (row A b) 29 (zn h))) ∧ goodD (dOw (dUp (row A b) 29 (zn h))) := by
  obtain ⟨c1, c2, c3, c4, c5⟩ := rl_cur H hb
  obtain ⟨gF, g1, g2, g3, g4, g5, g6, g7, g8⟩ := c3
  have e : dOw (dUp (row A b) 29 (zn h)) = dUp (row A b) 29 (zn h) := dOw_good fun z => (g8 z).1
  rw [e]
  have s1 := enc_wv (k := 16) (a := h) (u := zn h) (v := zn h) (by decide) (show h < 4 by omega) rfl (Int32.add_zero _).symm c1
  refine ⟨s1, fun f hf => ?_, g1, g2, g3, g4, g5, g6, ⟨h, hh, rfl⟩, g8⟩
  show ∃ a, (if f = 29 then zn h else row A b f) = zn a ∧ _
  rw [if_neg (by omega)]
  exact gF f hf
theorem r_phase (H : rKy A R c o) {b h : Nat} (hb : b < nv A 1) (hh : h ≤ 3) : actTo A (bif utd A c b then aCh A b 29 (zn h) else (false, A)) c o R (fX12_writesIt [.ref 0, .int (zn b), .long (wt (R.2 7 b) 16 (zn h)), .long (R.2 8 b)] R) := by
  obtain ⟨c1, c2, c3, c4, c5⟩ := rl_cur H.1.1 hb
  obtain ⟨e1, e2⟩ := phase_enc H.1.1 hb hh
  exact r_writesIt H hb (D := dUp (row A b) 29 (zn h)) e2 c4 c5 e1 (encB_c c2 rfl rfl) fun f hf => if_neg (by omega)
def clrD (A : zzMd) (o : Nat) : Nat → Int32 := dUp (dUp (row A o) 28 (-1)) 25 (if row A o 26 = 1 then row A o 25 else 4)
theorem clr_enc (H : Rl0 A R) (hb : o < nv A 1) : encR (bif decide (row A o 26 = 0) then wt (wt (wt (R.2 7 o) 15 0) 13 4) 11 0 else wt (R.2 7 o) 15 0) (dOw (clrD A o)) ∧ goodD (dOw (clrD A o)) := by
  obtain ⟨c1, c2, c3, c4, c5⟩ := rl_cur H hb
  obtain ⟨gF, g1, g2, g3, g4, g5, g6, g7, g8⟩ := c3
  have s1 := enc_wv (k := 15) (a := 0) (u := 0) (v := -1) (by decide) (by decide) rfl (by decide) c1
  unfold clrD
  rcases g4 with d | d
  · rw [d, decide_eq_true rfl, cond_true, if_neg (by decide)]
    have s2 := enc_wv (k := 13) (a := 4) (u := 4) (v := 4) (by decide) (by decide) rfl (by decide) s1
    have s3 := enc_wv (k := 11) (a := 0) (u := 0) (v := -1) (by decide) (by decide) rfl (by decide) s2
    have e : dOw (dUp (dUp (row A o) 28 (-1)) 25 4) = dUp (dUp (dUp (row A o) 28 (-1)) 25 4) 24 (-1) := if_pos rfl
    rw [e]
    refine ⟨s3, fun f hf => ?_, g1, Or.inl rfl, ⟨4, by decide, rfl⟩, Or.inl d, g5, Or.inl rfl, g7, fun _ => ⟨rfl, rfl⟩⟩
    show ∃ a, (if f = 24 then (-1 : Int32) else if f = 25 then 4 else if f = 28 then -1 else row A o f) = zn a ∧ _
    rw [if_neg (by omega), if_neg (by omega), if_neg (by omega)]
    exact gF f hf
  · rw [d, decide_eq_false (by decide), cond_false, if_pos rfl]
    have e0 : dUp (dUp (row A o) 28 (-1)) 25 (row A o 25) = dUp (row A o) 28 (-1) := by
      funext s
      unfold dUp
      by_cases q : s = 25
      · rw [if_pos q, q, if_neg (by decide)]
      · rw [if_neg q]
    rw [e0]
    have e : dOw (dUp (row A o) 28 (-1)) = dUp (row A o) 28 (-1) := dOw_good fun z => (g8 z).1
    rw [e]
    refine ⟨s1, fun f hf => ?_, g1, g2, g3, Or.inr d, g5, Or.inl rfl, g7, fun z => ⟨(g8 z).1, rfl⟩⟩
    show ∃ a, (if f = 28 then (-1 : Int32) else row A o f) = zn a ∧ _
    rw [if_neg (by omega)]
    exact gF f hf
set_option maxHeartbeats 4000000 in
theorem r_runs (H : rKy A R 4 o) : srvTo A (dS4 A A o) 4 o (fX12_runs [.ref 0] R) := by
  have h60 := H.2.2.2
  have h43 := H.2.2.1
  obtain ⟨b1, x1⟩ := kinds_o o h60
  have hg := r_goneT H.1 h60
  simp only [Nat.reduceAdd] at hg
  rw [s_X12_runs]
  unfold dS4
  have gp := gP H.1 h60
  simp only [Nat.reduceAdd] at gp
  by_cases hseen : o < nv A 7
  · obtain ⟨k23, -⟩ := gp.2 hseen
    have hon : o < nv A 1 := Nat.lt_of_lt_of_le hseen (rv_nv H.1)
    obtain ⟨V, v12, v13, v14, v15, v16⟩ := r_vw H.1 (o := o) hseen
    simp only [Nat.reduceAdd] at v12 v13 v14 v15 v16
    have v1 : fX12_viewed [.ref 0, .int (zn o), .int 1] R = some (.inl (some (.int (rd A 7 (zn o) 1))), R) := V 1 (by decide)
    cases d1 : gone A 7 (zn o)
    · rw [k23]
      by_cases d2 : R.1 6 o = 2
      · by_cases d3 : rd A 7 (zn o) 28 = -1
        · rw [decide_eq_true d3]
          have d3' : (rd A 7 (zn o) 28 + 1 = 0) = True := by rw [p1_eq]; exact eq_true d3
          have e : zz_ev tX12_runs 0 [some (.ref 0), none, none, none, none, none, none] [] R = some (.inl (some (.int 1)), R) := by
            (simp only [e_X12_runs, zo_iload, zo_lload, zo_aload, zo_istore, zo_lstore, zo_astore, zo_iinc, zo_pushI, zo_pushL, zo_null, zo_ii, zo_iid, zo_ll, zo_li, zo_lcmp, zo_i2l, zo_l2i, zo_dup, zo_dup2, zo_pop, zo_goto, zo_if, zo_icmp, zo_ifnull, zo_gets, zo_mm, zo_throw, zo_ret, zo_aret, zo_lret, q_iret_f, q_iret_1, q_iret_0, q_iret_b, q_c8_0, q_c8_1, q_c8_2, q_c8_3, q_c8_4, q_set_0, q_set_1i, q_set_1r, q_set_1n, q_set_1N, q_set_s, q_set_1j, q_bk_v, q_bk_n, q_if, zb_ite, cond_true, cond_false, List.getElem?_cons_zero, List.getElem?_cons_succ, Nat.reduceAdd, q_set_1l, q_set2_0, q_set2_1i, q_set2_1r, q_set2_1n, q_set2_s, h43, hg, d1, b1, x1, q_aR, d2, v15, d3', if_true, if_false, zb_eq0, zb_eq1, zn_1, not_true_eq_false, not_false_eq_true, ite_true, ite_false, if_true, if_false, q_iret_0, q_iret_1, decide_true, decide_false, decide_not, zb_t, zb_f, z10, z01, cond_true, cond_false, Bool.and_true, Bool.true_and, Bool.and_false, Bool.false_and, Bool.not_true, Bool.not_false, true_and, and_true, false_and, and_false, true_or, or_true, false_or, or_false, Bool.true_eq_false, Bool.false_eq_true, eq_self, reduceCtorEq, Bool.or_true, Bool.true_or, Bool.or_false, Bool.false_or])
          simp only [d2, not_true_eq_false, not_false_eq_true, ite_true, ite_false, if_true, if_false, q_iret_0, q_iret_1, decide_true, decide_false, decide_not, zb_t, zb_f, z10, z01, cond_true, cond_false, Bool.and_true, Bool.true_and, Bool.and_false, Bool.false_and, Bool.not_true, Bool.not_false, true_and, and_true, false_and, and_false, true_or, or_true, false_or, or_false, Bool.true_eq_false, Bool.false_eq_true, eq_self, reduceCtorEq, Bool.or_true, Bool.true_or, Bool.or_false, Bool.false_or]
          rw [e]
          exact srv_no H
        · have d3' : (rd A 7 (zn o) 28 + 1 = 0) = False := by rw [p1_eq]; exact eq_false d3
          have esub : rd A 7 (zn o) 28 + 1 - 1 = rd A 7 (zn o) 28 := Int32.add_sub_cancel _ _
          obtain ⟨-, -, g, -, -⟩ := rv_row H.1 (o := o) hseen
          obtain ⟨p, p1, p2, -⟩ := g.2.2.2.2.2.2.1.resolve_left d3
          have p2' : rd A 7 (zn o) 28 = zn p := p2
          rw [decide_eq_true d2, decide_eq_false d3]
          simp only [Bool.not_false, Bool.and_self, cond_true]
          have s84 : zz_ev tX12_runs 0 [some (.ref 0), none, none, none, none, none, none] [] R = zz_ev tX12_runs 84 [some (.ref 0), some (.long (R.2 7 o)), none, some (.int (zn p)), some (.int (rd A 7 (zn o) 29)), none, none] [.int (rd A 7 (zn o) 25)] R := by
            rw [p2', zn_1] at d3' esub v15
            generalize hZ : zz_ev tX12_runs 84 [some (.ref 0), some (.long (R.2 7 o)), none, some (.int (zn p)), some (.int (rd A 7 (zn o) 29)), none, none] [.int (rd A 7 (zn o) 25)] R = Z
            (simp only [e_X12_runs, zo_iload, zo_lload, zo_aload, zo_istore, zo_lstore, zo_astore, zo_iinc, zo_pushI, zo_pushL, zo_null, zo_ii, zo_iid, zo_ll, zo_li, zo_lcmp, zo_i2l, zo_l2i, zo_dup, zo_dup2, zo_pop, zo_goto, zo_if, zo_icmp, zo_ifnull, zo_gets, zo_mm, zo_throw, zo_ret, zo_aret, zo_lret, q_iret_f, q_iret_1, q_iret_0, q_iret_b, q_c8_0, q_c8_1, q_c8_2, q_c8_3, q_c8_4, q_set_0, q_set_1i, q_set_1r, q_set_1n, q_set_1N, q_set_s, q_set_1j, q_bk_v, q_bk_n, q_if, zb_ite, cond_true, cond_false, List.getElem?_cons_zero, List.getElem?_cons_succ, Nat.reduceAdd, q_set_1l, q_set2_0, q_set2_1i, q_set2_1r, q_set2_1n, q_set2_s, ↓hZ, h43, hg, d1, b1, x1, q_aR, d2, v15, d3', esub, v16, v13, if_true, if_false, zb_eq0, zb_eq1, zn_1, not_true_eq_false, not_false_eq_true, ite_true, ite_false, if_true, if_false, q_iret_0, q_iret_1, decide_true, decide_false, decide_not, zb_t, zb_f, z10, z01, cond_true, cond_false, Bool.and_true, Bool.true_and, Bool.and_false, Bool.false_and, Bool.not_true, Bool.not_false, true_and, and_true, false_and, and_false, true_or, or_true, false_or, or_false, Bool.true_eq_false, Bool.false_eq_true, eq_self, reduceCtorEq, Bool.or_true, Bool.true_or, Bool.or_false, Bool.false_or])
          rw [s84]
          clear s84
          by_cases d4 : rd A 7 (zn o) 25 = 0
          · rw [decide_eq_true d4]
            simp only [Bool.not_true, cond_false]
            rw [p2']
            -- lost
            have hgp := r_goneT H.1 p1
            simp only [Nat.reduceAdd] at hgp
            have s171 : zz_ev tX12_runs 84 [some (.ref 0), some (.long (R.2 7 o)), none, some (.int (zn p)), some (.int (rd A 7 (zn o) 29)), none, none] [.int (rd A 7 (zn o) 25)] R =
                zz_ev tX12_runs 171 [some (.ref 0), some (.long (R.2 7 o)), none, some (.int (zn p)), some (.int (rd A 7 (zn o) 29)), some (.int (zb (lostN A (zn p)))), none] [.int (zb (lostN A (zn p)))] R := by
              unfold lostN
              generalize rd A 7 (zn o) 29 = ph
              generalize hZ : (fun b : Int32 => zz_ev tX12_runs 171 [some (.ref 0), some (.long (R.2 7 o)), none, some (.int (zn p)), some (.int ph), some (.int b), none] [.int b] R) = Z
              have hZ' : ∀ b : Int32, zz_ev tX12_runs 171 [some (.ref 0), some (.long (R.2 7 o)), none, some (.int (zn p)), some (.int ph), some (.int b), none] [.int b] R = Z b := fun b => by rw [← hZ]
              rw [hZ']
              clear hZ
              cases e1 : gone A 7 (zn p)
              · obtain ⟨V2, -, -, w14, -, -⟩ := r_vw H.1 (o := p) (seen_of H.1 p1 e1)
                simp only [Nat.reduceAdd] at w14
                have w9 : fX12_viewed [.ref 0, .int (zn p), .int 9] R = some (.inl (some (.int (rd A 7 (zn p) 9))), R) := V2 9 (by decide)
                by_cases e2 : rd A 7 (zn p) 27 = 0
                · (simp only [e_X12_runs, zo_iload, zo_lload, zo_aload, zo_istore, zo_lstore, zo_astore, zo_iinc, zo_pushI, zo_pushL, zo_null, zo_ii, zo_iid, zo_ll, zo_li, zo_lcmp, zo_i2l, zo_l2i, zo_dup, zo_dup2, zo_pop, zo_goto, zo_if, zo_icmp, zo_ifnull, zo_gets, zo_mm, zo_throw, zo_ret, zo_aret, zo_lret, q_iret_f, q_iret_1, q_iret_0, q_iret_b, q_c8_0, q_c8_1, q_c8_2, q_c8_3, q_c8_4, q_set_0, q_set_1i, q_set_1r, q_set_1n, q_set_1N, q_set_s, q_set_1j, q_bk_v, q_bk_n, q_if, zb_ite, cond_true, cond_false, List.getElem?_cons_zero, List.getElem?_cons_succ, Nat.reduceAdd, q_set_1l, q_set2_0, q_set2_1i, q_set2_1r, q_set2_1n, q_set2_s, ↓hZ', d4, hgp, e1, w14, e2, if_true, if_false, zb_eq0, zb_eq1, zn_1, not_true_eq_false, not_false_eq_true, ite_true, ite_false, if_true, if_false, q_iret_0, q_iret_1, decide_true, decide_false, decide_not, zb_t, zb_f, z10, z01, cond_true, cond_false, Bool.and_true, Bool.true_and, Bool.and_false, Bool.false_and, Bool.not_true, Bool.not_false, true_and, and_true, false_and, and_false, true_or, or_true, false_or, or_false, Bool.true_eq_false, Bool.false_eq_true, eq_self, reduceCtorEq, Bool.or_true, Bool.true_or, Bool.or_false, Bool.false_or])
                · by_cases e3 : rd A 7 (zn p) 9 = 1 <;> (simp only [e_X12_runs, zo_iload, zo_lload, zo_aload, zo_istore, zo_lstore, zo_astore, zo_iinc, zo_pushI, zo_pushL, zo_null, zo_ii, zo_iid, zo_ll, zo_li, zo_lcmp, zo_i2l, zo_l2i, zo_dup, zo_dup2, zo_pop, zo_goto, zo_if, zo_icmp, zo_ifnull, zo_gets, zo_mm, zo_throw, zo_ret, zo_aret, zo_lret, q_iret_f, q_iret_1, q_iret_0, q_iret_b, q_c8_0, q_c8_1, q_c8_2, q_c8_3, q_c8_4, q_set_0, q_set_1i, q_set_1r, q_set_1n, q_set_1N, q_set_s, q_set_1j, q_bk_v, q_bk_n, q_if, zb_ite, cond_true, cond_false, List.getElem?_cons_zero, List.getElem?_cons_succ, Nat.reduceAdd, q_set_1l, q_set2_0, q_set2_1i, q_set2_1r, q_set2_1n, q_set2_s, ↓hZ', d4, hgp, e1, w14, e2, w9, e3, if_true, if_false, zb_eq0, zb_eq1, zn_1, not_true_eq_false, not_false_eq_true, ite_true, ite_false, if_true, if_false, q_iret_0, q_iret_1, decide_true, decide_false, decide_not, zb_t, zb_f, z10, z01, cond_true, cond_false, Bool.and_true, Bool.true_and, Bool.and_false, Bool.false_and, Bool.not_true, Bool.not_false, true_and, and_true, false_and, and_false, true_or, or_true, false_or, or_false, Bool.true_eq_false, Bool.false_eq_true, eq_self, reduceCtorEq, Bool.or_true, Bool.true_or, Bool.or_false, Bool.false_or])
              · (simp only [e_X12_runs, zo_iload, zo_lload, zo_aload, zo_istore, zo_lstore, zo_astore, zo_iinc, zo_pushI, zo_pushL, zo_null, zo_ii, zo_iid, zo_ll, zo_li, zo_lcmp, zo_i2l, zo_l2i, zo_dup, zo_dup2, zo_pop, zo_goto, zo_if, zo_icmp, zo_ifnull, zo_gets, zo_mm, zo_throw, zo_ret, zo_aret, zo_lret, q_iret_f, q_iret_1, q_iret_0, q_iret_b, q_c8_0, q_c8_1, q_c8_2, q_c8_3, q_c8_4, q_set_0, q_set_1i, q_set_1r, q_set_1n, q_set_1N, q_set_s, q_set_1j, q_bk_v, q_bk_n, q_if, zb_ite, cond_true, cond_false, List.getElem?_cons_zero, List.getElem?_cons_succ, Nat.reduceAdd, q_set_1l, q_set2_0, q_set2_1i, q_set2_1r, q_set2_1n, q_set2_s, ↓hZ', d4, hgp, e1, if_true, if_false, zb_eq0, zb_eq1, zn_1, not_true_eq_false, not_false_eq_true, ite_true, ite_false, if_true, if_false, q_iret_0, q_iret_1, decide_true, decide_false, decide_not, zb_t, zb_f, z10, z01, cond_true, cond_false, Bool.and_true, Bool.true_and, Bool.and_false, Bool.false_and, Bool.not_true, Bool.not_false, true_and, and_true, false_and, and_false, true_or, or_true, false_or, or_false, Bool.true_eq_false, Bool.false_eq_true, eq_self, reduceCtorEq, Bool.or_true, Bool.true_or, Bool.or_false, Bool.false_or])
            rw [s171]
            clear s171
            obtain ⟨h, hh3, hh⟩ := g.2.2.2.2.2.2.2.1
            have hh' : rd A 7 (zn o) 29 = zn h := hh
            rw [hh']
            have z0 : (zn h = 0) = (h = 0) := zn_inj (a := h) (b := 0) (by omega) (by decide)
            have z1 : (zn h = 1) = (h = 1) := zn_inj (a := h) (b := 1) (by omega) (by decide)
            have l1 : ((1 : Int32) < zn h) = (1 < h) := zn_lt (a := 1) (b := h) (by decide) (by omega)
            have w16 : ∀ v, fX12_with [.ref 0, .long (R.2 7 o), .int 16, .int v] R = some (.inl (some (.long (wt (R.2 7 o) 16 v))), R) := fun v => r_with H.1.1.1.1 (k := 16) (by decide) _ v
            have set3 : ∀ k, k ≤ 3 → h ≠ k → actTo A (aSet A 4 o 29 (zn k)) 4 o R (fX12_writesIt [.ref 0, .int (zn o), .long (wt (R.2 7 o) 16 (zn k)), .long (R.2 8 o)] R) := fun k hk hne => by
              have := r_phase H hon hk
              unfold aSet
              rw [show rd A (3 + 4) (zn o) (zn 29) = zn h from hh', decide_eq_false (by rw [zn_inj (by omega) (by omega)]; exact hne)]
              exact this
            cases dl : lostN A (zn p)
            · simp only [Bool.false_and, cond_false]
              by_cases d5 : h = 0
              · subst d5
                rw [decide_eq_true (show (zn 0 : Int32) = 0 from rfl), cond_true]
                have hsp : p < nv A 7 := by
                  unfold lostN at dl
                  have : gone A (3 + 4) (zn p) = false := (Bool.or_eq_false_iff.mp dl).1
                  exact seen_of H.1 p1 this
                have w7 : fX12_viewed [.ref 0, .int (zn p), .int 7] R = some (.inl (some (.int (rd A 7 (zn p) 7))), R) := (r_vw H.1 (o := p) hsp).1 7 (by decide)
                have hu := r_used1 H.1 p1
                have hnd := fun t => r_need t R
                have zz0 : ((zn 0 : Int32) = 0) = True := eq_true rfl
                by_cases d6 : rd A 7 (zn p) 7 < znd (rd A 7 (zn o) 1) + runN A (zn p)
                · rw [if_pos d6]
                  refine srv_act (R := R) ?_
                  obtain ⟨R', e1, e2, e3⟩ := set3 3 (by decide) (by decide)
                  have e1' : fX12_writesIt [.ref 0, .int (zn o), .long (wt (R.2 7 o) 16 3), .long (R.2 8 o)] R = some (.inl (some (.int (zb (aSet A 4 o 29 3).1))), R') := e1
                  refine ⟨R', ?_, e2, e3⟩
                  clear e1
                  (simp only [e_X12_runs, zo_iload, zo_lload, zo_aload, zo_istore, zo_lstore, zo_astore, zo_iinc, zo_pushI, zo_pushL, zo_null, zo_ii, zo_iid, zo_ll, zo_li, zo_lcmp, zo_i2l, zo_l2i, zo_dup, zo_dup2, zo_pop, zo_goto, zo_if, zo_icmp, zo_ifnull, zo_gets, zo_mm, zo_throw, zo_ret, zo_aret, zo_lret, q_iret_f, q_iret_1, q_iret_0, q_iret_b, q_c8_0, q_c8_1, q_c8_2, q_c8_3, q_c8_4, q_set_0, q_set_1i, q_set_1r, q_set_1n, q_set_1N, q_set_s, q_set_1j, q_bk_v, q_bk_n, q_if, zb_ite, cond_true, cond_false, List.getElem?_cons_zero, List.getElem?_cons_succ, Nat.reduceAdd, q_set_1l, q_set2_0, q_set2_1i, q_set2_1r, q_set2_1n, q_set2_s, zz0, w7, h43, v1, hnd, hu, d6, w16, b1, x1, q_aR, e1', if_true, if_false, zb_eq0, zb_eq1, zn_1, not_true_eq_false, not_false_eq_true, ite_true, ite_false, if_true, if_false, q_iret_0, q_iret_1, decide_true, decide_false, decide_not, zb_t, zb_f, z10, z01, cond_true, cond_false, Bool.and_true, Bool.true_and, Bool.and_false, Bool.false_and, Bool.not_true, Bool.not_false, true_and, and_true, false_and, and_false, true_or, or_true, false_or, or_false, Bool.true_eq_false, Bool.false_eq_true, eq_self, reduceCtorEq, Bool.or_true, Bool.true_or, Bool.or_false, Bool.false_or])
                · rw [if_neg d6]
                  refine srv_act (R := R) ?_
                  obtain ⟨R', e1, e2, e3⟩ := set3 1 (by decide) (by decide)
                  have e1' : fX12_writesIt [.ref 0, .int (zn o), .long (wt (R.2 7 o) 16 1), .long (R.2 8 o)] R = some (.inl (some (.int (zb (aSet A 4 o 29 1).1))), R') := e1
                  refine ⟨R', ?_, e2, e3⟩
                  clear e1
                  (simp only [e_X12_runs, zo_iload, zo_lload, zo_aload, zo_istore, zo_lstore, zo_astore, zo_iinc, zo_pushI, zo_pushL, zo_null, zo_ii, zo_iid, zo_ll, zo_li, zo_lcmp, zo_i2l, zo_l2i, zo_dup, zo_dup2, zo_pop, zo_goto, zo_if, zo_icmp, zo_ifnull, zo_gets, zo_mm, zo_throw, zo_ret, zo_aret, zo_lret, q_iret_f, q_iret_1, q_iret_0, q_iret_b, q_c8_0, q_c8_1, q_c8_2, q_c8_3, q_c8_4, q_set_0, q_set_1i, q_set_1r, q_set_1n, q_set_1N, q_set_s, q_set_1j, q_bk_v, q_bk_n, q_if, zb_ite, cond_true, cond_false, List.getElem?_cons_zero, List.getElem?_cons_succ, Nat.reduceAdd, q_set_1l, q_set2_0, q_set2_1i, q_set2_1r, q_set2_1n, q_set2_s, zz0, w7, h43, v1, hnd, hu, d6, w16, b1, x1, q_aR, e1', if_true, if_false, zb_eq0, zb_eq1, zn_1, not_true_eq_false, not_false_eq_true, ite_true, ite_false, if_true, if_false, q_iret_0, q_iret_1, decide_true, decide_false, decide_not, zb_t, zb_f, z10, z01, cond_true, cond_false, Bool.and_true, Bool.true_and, Bool.and_false, Bool.false_and, Bool.not_true, Bool.not_false, true_and, and_true, false_and, and_false, true_or, or_true, false_or, or_false, Bool.true_eq_false, Bool.false_eq_true, eq_self, reduceCtorEq, Bool.or_true, Bool.true_or, Bool.or_false, Bool.false_or])
              · have d5' : (zn h = 0) = False := by rw [z0]; exact eq_false d5
                rw [decide_eq_false d5'.mp, cond_false]
                have e : zz_ev tX12_runs 171 [some (.ref 0), some (.long (R.2 7 o)), none, some (.int (zn p)), some (.int (zn h)), some (.int (zb false)), none] [.int (zb false)] R = some (.inl (some (.int 1)), R) := by
                  (simp only [e_X12_runs, zo_iload, zo_lload, zo_aload, zo_istore, zo_lstore, zo_astore, zo_iinc, zo_pushI, zo_pushL, zo_null, zo_ii, zo_iid, zo_ll, zo_li, zo_lcmp, zo_i2l, zo_l2i, zo_dup, zo_dup2, zo_pop, zo_goto, zo_if, zo_icmp, zo_ifnull, zo_gets, zo_mm, zo_throw, zo_ret, zo_aret, zo_lret, q_iret_f, q_iret_1, q_iret_0, q_iret_b, q_c8_0, q_c8_1, q_c8_2, q_c8_3, q_c8_4, q_set_0, q_set_1i, q_set_1r, q_set_1n, q_set_1N, q_set_s, q_set_1j, q_bk_v, q_bk_n, q_if, zb_ite, cond_true, cond_false, List.getElem?_cons_zero, List.getElem?_cons_succ, Nat.reduceAdd, q_set_1l, q_set2_0, q_set2_1i, q_set2_1r, q_set2_1n, q_set2_s, d5', if_true, if_false, zb_eq0, zb_eq1, zn_1, not_true_eq_false, not_false_eq_true, ite_true, ite_false, if_true, if_false, q_iret_0, q_iret_1, decide_true, decide_false, decide_not, zb_t, zb_f, z10, z01, cond_true, cond_false, Bool.and_true, Bool.true_and, Bool.and_false, Bool.false_and, Bool.not_true, Bool.not_false, true_and, and_true, false_and, and_false, true_or, or_true, false_or, or_false, Bool.true_eq_false, Bool.false_eq_true, eq_self, reduceCtorEq, Bool.or_true, Bool.true_or, Bool.or_false, Bool.false_or])
                rw [e]
                exact srv_no H
            · by_cases d5 : h ≤ 1
              · have d5' : ((1 : Int32) < zn h) = False := by rw [l1]; exact eq_false (by omega)
                have eb : (true && (decide (zn h = 0) || decide (zn h = 1))) = true := by
                  simp only [z0, z1]
                  by_cases q : h = 0
                  · rw [decide_eq_true q]; rfl
                  · rw [decide_eq_true (show h = 1 by omega)]; simp
                rw [eb, cond_true]
                refine srv_act (R := R) ?_
                obtain ⟨R', e1, e2, e3⟩ := set3 3 (by decide) (by omega)
                have e1' : fX12_writesIt [.ref 0, .int (zn o), .long (wt (R.2 7 o) 16 3), .long (R.2 8 o)] R = some (.inl (some (.int (zb (aSet A 4 o 29 3).1))), R') := e1
                refine ⟨R', ?_, e2, e3⟩
                clear e1
                (simp only [e_X12_runs, zo_iload, zo_lload, zo_aload, zo_istore, zo_lstore, zo_astore, zo_iinc, zo_pushI, zo_pushL, zo_null, zo_ii, zo_iid, zo_ll, zo_li, zo_lcmp, zo_i2l, zo_l2i, zo_dup, zo_dup2, zo_pop, zo_goto, zo_if, zo_icmp, zo_ifnull, zo_gets, zo_mm, zo_throw, zo_ret, zo_aret, zo_lret, q_iret_f, q_iret_1, q_iret_0, q_iret_b, q_c8_0, q_c8_1, q_c8_2, q_c8_3, q_c8_4, q_set_0, q_set_1i, q_set_1r, q_set_1n, q_set_1N, q_set_s, q_set_1j, q_bk_v, q_bk_n, q_if, zb_ite, cond_true, cond_false, List.getElem?_cons_zero, List.getElem?_cons_succ, Nat.reduceAdd, q_set_1l, q_set2_0, q_set2_1i, q_set2_1r, q_set2_1n, q_set2_s, d5', h43, w16, b1, x1, q_aR, e1', if_true, if_false, zb_eq0, zb_eq1, zn_1, not_true_eq_false, not_false_eq_true, ite_true, ite_false, if_true, if_false, q_iret_0, q_iret_1, decide_true, decide_false, decide_not, zb_t, zb_f, z10, z01, cond_true, cond_false, Bool.and_true, Bool.true_and, Bool.and_false, Bool.false_and, Bool.not_true, Bool.not_false, true_and, and_true, false_and, and_false, true_or, or_true, false_or, or_false, Bool.true_eq_false, Bool.false_eq_true, eq_self, reduceCtorEq, Bool.or_true, Bool.true_or, Bool.or_false, Bool.false_or])
              · have d5' : ((1 : Int32) < zn h) = True := by rw [l1]; exact eq_true (by omega)
                have d6' : (zn h = 0) = False := by rw [z0]; exact eq_false (by omega)
                have d7' : (zn h = 1) = False := by rw [z1]; exact eq_false (by omega)
                rw [decide_eq_false d6'.mp, decide_eq_false d7'.mp]
                simp only [Bool.or_self, Bool.and_false, cond_false]
                have e : zz_ev tX12_runs 171 [some (.ref 0), some (.long (R.2 7 o)), none, some (.int (zn p)), some (.int (zn h)), some (.int (zb true)), none] [.int (zb true)] R = some (.inl (some (.int 1)), R) := by
                  (simp only [e_X12_runs, zo_iload, zo_lload, zo_aload, zo_istore, zo_lstore, zo_astore, zo_iinc, zo_pushI, zo_pushL, zo_null, zo_ii, zo_iid, zo_ll, zo_li, zo_lcmp, zo_i2l, zo_l2i, zo_dup, zo_dup2, zo_pop, zo_goto, zo_if, zo_icmp, zo_ifnull, zo_gets, zo_mm, zo_throw, zo_ret, zo_aret, zo_lret, q_iret_f, q_iret_1, q_iret_0, q_iret_b, q_c8_0, q_c8_1, q_c8_2, q_c8_3, q_c8_4, q_set_0, q_set_1i, q_set_1r, q_set_1n, q_set_1N, q_set_s, q_set_1j, q_bk_v, q_bk_n, q_if, zb_ite, cond_true, cond_false, List.getElem?_cons_zero, List.getElem?_cons_succ, Nat.reduceAdd, q_set_1l, q_set2_0, q_set2_1i, q_set2_1r, q_set2_1n, q_set2_s, d5', d6', if_true, if_false, zb_eq0, zb_eq1, zn_1, not_true_eq_false, not_false_eq_true, ite_true, ite_false, if_true, if_false, q_iret_0, q_iret_1, decide_true, decide_false, decide_not, zb_t, zb_f, z10, z01, cond_true, cond_false, Bool.and_true, Bool.true_and, Bool.and_false, Bool.false_and, Bool.not_true, Bool.not_false, true_and, and_true, false_and, and_false, true_or, or_true, false_or, or_false, Bool.true_eq_false, Bool.false_eq_true, eq_self, reduceCtorEq, Bool.or_true, Bool.true_or, Bool.or_false, Bool.false_or])
                rw [e]
                exact srv_no H
          · rw [decide_eq_false d4]
            simp only [Bool.not_false, cond_true]
            refine srv_act (R := R) ?_
            obtain ⟨c1, c2, c3, c4, c5⟩ := rl_cur H.1.1 hon
            obtain ⟨f1, f2⟩ := clr_enc H.1.1 hon
            have hw := r_writesIt H hon (D := clrD A o) (y := R.2 8 o) f2 c4 c5 f1 (encB_c c2 rfl rfl) fun f hf => by
              show (if 11 + f = 25 then _ else if 11 + f = 28 then _ else row A o (11 + f)) = _
              rw [if_neg (by omega), if_neg (by omega)]
            have ec : aClr A A o = (bif utd A 4 o then aWr A o (clrD A o) else (false, A)) := by
              unfold aClr aCh2 clrD
              cases u : utd A 4 o
              · rw [cond_false, cond_false]
              · have r26 : rd A 7 (zn o) 26 = row A o 26 := utd_row H.1 hon u (s := 26) (by decide)
                have r25 : rd A 7 (zn o) 25 = row A o 25 := utd_row H.1 hon u (s := 25) (by decide)
                rw [cond_true, cond_true, r26, r25]
            rw [ec]
            obtain ⟨R', e1, e2, e3⟩ := hw
            refine ⟨R', ?_, e2, e3⟩
            have w15 : ∀ x v, fX12_with [.ref 0, .long x, .int 15, .int v] R = some (.inl (some (.long (wt x 15 v))), R) := fun x v => r_with H.1.1.1.1 (k := 15) (by decide) x v
            have g12 : fX12_get [.ref 0, .long (wt (R.2 7 o) 15 0), .int 12] R = some (.inl (some (.int (row A o 26))), R) := by
              have h1 := r_get H.1.1.1.1 (k := 12) (by decide) (wt (R.2 7 o) 15 0)
              rw [show wt (R.2 7 o) 15 0 = wt (R.2 7 o) 15 (zn 0) from rfl, gt_wt' (R.2 7 o) (k := 15) (j := 12) (a := 0) (by decide) (by decide) (by decide) (by decide), c1.2 12 (by decide)] at h1
              have e0 : vl (row A o) 12 = row A o 26 := Int32.add_zero _
              rw [e0] at h1
              exact h1
            have hgn := r_gone H.1.1.1.1 (wt (R.2 7 o) 15 0)
            generalize (bif utd A 4 o then aWr A o (clrD A o) else (false, A)) = P at e1 ⊢
            by_cases d5 : row A o 26 = 0
            · rw [decide_eq_true d5, cond_true] at e1
              (simp only [e_X12_runs, zo_iload, zo_lload, zo_aload, zo_istore, zo_lstore, zo_astore, zo_iinc, zo_pushI, zo_pushL, zo_null, zo_ii, zo_iid, zo_ll, zo_li, zo_lcmp, zo_i2l, zo_l2i, zo_dup, zo_dup2, zo_pop, zo_goto, zo_if, zo_icmp, zo_ifnull, zo_gets, zo_mm, zo_throw, zo_ret, zo_aret, zo_lret, q_iret_f, q_iret_1, q_iret_0, q_iret_b, q_c8_0, q_c8_1, q_c8_2, q_c8_3, q_c8_4, q_set_0, q_set_1i, q_set_1r, q_set_1n, q_set_1N, q_set_s, q_set_1j, q_bk_v, q_bk_n, q_if, zb_ite, cond_true, cond_false, List.getElem?_cons_zero, List.getElem?_cons_succ, Nat.reduceAdd, q_set_1l, q_set2_0, q_set2_1i, q_set2_1r, q_set2_1n, q_set2_s, d4, w15, h43, g12, d5, hgn, b1, x1, q_aR, e1, if_true, if_false, zb_eq0, zb_eq1, zn_1, not_true_eq_false, not_false_eq_true, ite_true, ite_false, if_true, if_false, q_iret_0, q_iret_1, decide_true, decide_false, decide_not, zb_t, zb_f, z10, z01, cond_true, cond_false, Bool.and_true, Bool.true_and, Bool.and_false, Bool.false_and, Bool.not_true, Bool.not_false, true_and, and_true, false_and, and_false, true_or, or_true, false_or, or_false, Bool.true_eq_false, Bool.false_eq_true, eq_self, reduceCtorEq, Bool.or_true, Bool.true_or, Bool.or_false, Bool.false_or])
            · rw [decide_eq_false d5, cond_false] at e1
              (simp only [e_X12_runs, zo_iload, zo_lload, zo_aload, zo_istore, zo_lstore, zo_astore, zo_iinc, zo_pushI, zo_pushL, zo_null, zo_ii, zo_iid, zo_ll, zo_li, zo_lcmp, zo_i2l, zo_l2i, zo_dup, zo_dup2, zo_pop, zo_goto, zo_if, zo_icmp, zo_ifnull, zo_gets, zo_mm, zo_throw, zo_ret, zo_aret, zo_lret, q_iret_f, q_iret_1, q_iret_0, q_iret_b, q_c8_0, q_c8_1, q_c8_2, q_c8_3, q_c8_4, q_set_0, q_set_1i, q_set_1r, q_set_1n, q_set_1N, q_set_s, q_set_1j, q_bk_v, q_bk_n, q_if, zb_ite, cond_true, cond_false, List.getElem?_cons_zero, List.getElem?_cons_succ, Nat.reduceAdd, q_set_1l, q_set2_0, q_set2_1i, q_set2_1r, q_set2_1n, q_set2_s, d4, w15, h43, g12, d5, b1, x1, q_aR, e1, if_true, if_false, zb_eq0, zb_eq1, zn_1, not_true_eq_false, not_false_eq_true, ite_true, ite_false, if_true, if_false, q_iret_0, q_iret_1, decide_true, decide_false, decide_not, zb_t, zb_f, z10, z01, cond_true, cond_false, Bool.and_true, Bool.true_and, Bool.and_false, Bool.false_and, Bool.not_true, Bool.not_false, true_and, and_true, false_and, and_false, true_or, or_true, false_or, or_false, Bool.true_eq_false, Bool.false_eq_true, eq_self, reduceCtorEq, Bool.or_true, Bool.true_or, Bool.or_false, Bool.false_or])
      · rw [decide_eq_false d2]
        have e : zz_ev tX12_runs 0 [some (.ref 0), none, none, none, none, none, none] [] R = some (.inl (some (.int 1)), R) := by
          (simp only [e_X12_runs, zo_iload, zo_lload, zo_aload, zo_istore, zo_lstore, zo_astore, zo_iinc, zo_pushI, zo_pushL, zo_null, zo_ii, zo_iid, zo_ll, zo_li, zo_lcmp, zo_i2l, zo_l2i, zo_dup, zo_dup2, zo_pop, zo_goto, zo_if, zo_icmp, zo_ifnull, zo_gets, zo_mm, zo_throw, zo_ret, zo_aret, zo_lret, q_iret_f, q_iret_1, q_iret_0, q_iret_b, q_c8_0, q_c8_1, q_c8_2, q_c8_3, q_c8_4, q_set_0, q_set_1i, q_set_1r, q_set_1n, q_set_1N, q_set_s, q_set_1j, q_bk_v, q_bk_n, q_if, zb_ite, cond_true, cond_false, List.getElem?_cons_zero, List.getElem?_cons_succ, Nat.reduceAdd, q_set_1l, q_set2_0, q_set2_1i, q_set2_1r, q_set2_1n, q_set2_s, h43, hg, d1, b1, x1, q_aR, d2, if_true, if_false, zb_eq0, zb_eq1, zn_1, not_true_eq_false, not_false_eq_true, ite_true, ite_false, if_true, if_false, q_iret_0, q_iret_1, decide_true, decide_false, decide_not, zb_t, zb_f, z10, z01, cond_true, cond_false, Bool.and_true, Bool.true_and, Bool.and_false, Bool.false_and, Bool.not_true, Bool.not_false, true_and, and_true, false_and, and_false, true_or, or_true, false_or, or_false, Bool.true_eq_false, Bool.false_eq_true, eq_self, reduceCtorEq, Bool.or_true, Bool.true_or, Bool.or_false, Bool.false_or])
        rw [e]
        exact srv_no H
    · have e : zz_ev tX12_runs 0 [some (.ref 0), none, none, none, none, none, none] [] R = some (.inl (some (.int 1)), R) := by
        (simp only [e_X12_runs, zo_iload, zo_lload, zo_aload, zo_istore, zo_lstore, zo_astore, zo_iinc, zo_pushI, zo_pushL, zo_null, zo_ii, zo_iid, zo_ll, zo_li, zo_lcmp, zo_i2l, zo_l2i, zo_dup, zo_dup2, zo_pop, zo_goto, zo_if, zo_icmp, zo_ifnull, zo_gets, zo_mm, zo_throw, zo_ret, zo_aret, zo_lret, q_iret_f, q_iret_1, q_iret_0, q_iret_b, q_c8_0, q_c8_1, q_c8_2, q_c8_3, q_c8_4, q_set_0, q_set_1i, q_set_1r, q_set_1n, q_set_1N, q_set_s, q_set_1j, q_bk_v, q_bk_n, q_if, zb_ite, cond_true, cond_false, List.getElem?_cons_zero, List.getElem?_cons_succ, Nat.reduceAdd, q_set_1l, q_set2_0, q_set2_1i, q_set2_1r, q_set2_1n, q_set2_s, h43, hg, d1, if_true, if_false, zb_eq0, zb_eq1, zn_1, not_true_eq_false, not_false_eq_true, ite_true, ite_false, if_true, if_false, q_iret_0, q_iret_1, decide_true, decide_false, decide_not, zb_t, zb_f, z10, z01, cond_true, cond_false, Bool.and_true, Bool.true_and, Bool.and_false, Bool.false_and, Bool.not_true, Bool.not_false, true_and, and_true, false_and, and_false, true_or, or_true, false_or, or_false, Bool.true_eq_false, Bool.false_eq_true, eq_self, reduceCtorEq, Bool.or_true, Bool.true_or, Bool.or_false, Bool.false_or])
      simp only [Bool.not_true, Bool.false_and, Bool.and_false, cond_false]
      rw [e]
      exact srv_no H
  · obtain ⟨d1, k23, -⟩ := gp.1 hseen
    rw [d1] at hg
    have e : zz_ev tX12_runs 0 [some (.ref 0), none, none, none, none, none, none] [] R = some (.inl (some (.int 1)), R) := by
      (simp only [e_X12_runs, zo_iload, zo_lload, zo_aload, zo_istore, zo_lstore, zo_astore, zo_iinc, zo_pushI, zo_pushL, zo_null, zo_ii, zo_iid, zo_ll, zo_li, zo_lcmp, zo_i2l, zo_l2i, zo_dup, zo_dup2, zo_pop, zo_goto, zo_if, zo_icmp, zo_ifnull, zo_gets, zo_mm, zo_throw, zo_ret, zo_aret, zo_lret, q_iret_f, q_iret_1, q_iret_0, q_iret_b, q_c8_0, q_c8_1, q_c8_2, q_c8_3, q_c8_4, q_set_0, q_set_1i, q_set_1r, q_set_1n, q_set_1N, q_set_s, q_set_1j, q_bk_v, q_bk_n, q_if, zb_ite, cond_true, cond_false, List.getElem?_cons_zero, List.getElem?_cons_succ, Nat.reduceAdd, q_set_1l, q_set2_0, q_set2_1i, q_set2_1r, q_set2_1n, q_set2_s, h43, hg, if_true, if_false, zb_eq0, zb_eq1, zn_1, not_true_eq_false, not_false_eq_true, ite_true, ite_false, if_true, if_false, q_iret_0, q_iret_1, decide_true, decide_false, decide_not, zb_t, zb_f, z10, z01, cond_true, cond_false, Bool.and_true, Bool.true_and, Bool.and_false, Bool.false_and, Bool.not_true, Bool.not_false, true_and, and_true, false_and, and_false, true_or, or_true, false_or, or_false, Bool.true_eq_false, Bool.false_eq_true, eq_self, reduceCtorEq, Bool.or_true, Bool.true_or, Bool.or_false, Bool.false_or])
    rw [k23, decide_eq_false (show ¬ (-1 : Int32) = 2 by decide)]
    simp only [Bool.false_and, cond_false]
    rw [e]
    exact srv_no H
end
end

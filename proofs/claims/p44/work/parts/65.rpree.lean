section
/-! SCHEDULER, in both: preempting -/
section
variable {A R : zzMd} {c o : Nat}
theorem rnk_lo (H : rAt A R 3) (ho : o < nv A 6) : ∃ t, rnk A (zn o) = zn t ∧ t ≤ 2 := by
  obtain ⟨t, t1, -, t3⟩ := fld H (i := o) (f := 1) ho (by decide)
  have t1' : rd A 6 (zn o) 1 = zn t := t1
  have t3' : t ≤ 9 := t3
  have key : ∀ t : Fin 10, (zn t.1 : Int32) / 4 = zn (t.1 / 4) := by decide
  refine ⟨t / 4, ?_, by omega⟩
  unfold rnk
  rw [t1']
  exact key ⟨t, by omega⟩
theorem sub_sub_add (a b c : Int32) : a - b + c = a - (b - c) := by
  rw [Int32.sub_eq_add_neg a (b - c), Int32.neg_sub, Int32.sub_eq_add_neg, Int32.sub_eq_add_neg, Int32.add_assoc, Int32.add_comm (-b) c]
theorem r_lays (H : rAt A R 3) (ho : o < nv A 6) {k : Nat} (hk : k < nv A 6) (V : Nat → Int32) : fX12_laysVictims [.ref 0, .int (zn o), .int (zn k)] (setQ R 36 V) = some (.inl (some (.int (cv A o k V).1)), setQ R 36 (cv A o k V).2) := by
  have H36 : ∀ V, rAt A (setQ R 36 V) 3 := fun V => rAt_Q (Or.inl rfl) H
  have hk60 : k < 60 := Nat.lt_of_lt_of_le hk (rv_n60 H)
  obtain ⟨t, t1, t2⟩ := rnk_lo H ho
  have hn := rl_n60 H.1
  unfold cv
  rw [t1, zn_ix (by omega)]
  have n40 : ((4 : Int32) = 0) = False := eq_false (by decide)
  have er : rd A 6 (zn o) 1 / 4 = zn t := t1
  have v1 : fX12_viewed [.ref 0, .int (zn o), .int 1] (setQ R 36 V) = some (.inl (some (.int (rd A 6 (zn o) 1))), setQ R 36 V) := (r_vw (H36 V) (o := o) ho).1 1 (by decide)
  have v7 : fX12_viewed [.ref 0, .int (zn k), .int 7] (setQ R 36 V) = some (.inl (some (.int (rd A 6 (zn k) 7))), setQ R 36 V) := (r_vw (H36 V) (o := k) hk).1 7 (by decide)
  have hnd := r_need (rd A 6 (zn o) 1) (setQ R 36 V)
  have hus := r_used0 (H36 V) hk60
  have el : znd (rd A 6 (zn o) 1) - rd A 6 (zn k) 7 + usN A (nv A 6) k = znd (rd A 6 (zn o) 1) - lft A k := sub_sub_add _ _ _
  generalize hs0 : (znd (rd A 6 (zn o) 1) - lft A k, 0, V) = s0
  have e0 : s0.2.1 = 0 := by rw [← hs0]
  have main : ∀ r, r ≤ t → ∃ (j7 j8 : Option Int32), fX12_laysVictims [.ref 0, .int (zn o), .int (zn k)] (setQ R 36 V) = zz_ev tX12_laysVictims 41 [some (.ref 0), some (.int (zn o)), some (.int (zn k)), some (.int (zn t)), some (.int (vout A (zn k) (nv A 1) r s0).1), some (.int (zn (vout A (zn k) (nv A 1) r s0).2.1)), some (.int (zn r)), zj j7, zj j8] [] (setQ R 36 (vout A (zn k) (nv A 1) r s0).2.2) := by
    intro r
    induction r with
    | zero =>
      intro _
      refine ⟨none, none, ?_⟩
      rw [show vout A (zn k) (nv A 1) 0 s0 = s0 from rfl, ← hs0]
      rw [s_X12_laysVictims]
      (simp only [e_X12_laysVictims, zo_iload, zo_lload, zo_aload, zo_istore, zo_lstore, zo_astore, zo_iinc, zo_pushI, zo_pushL, zo_null, zo_ii, zo_iid, zo_ll, zo_li, zo_lcmp, zo_i2l, zo_l2i, zo_dup, zo_dup2, zo_pop, zo_goto, zo_if, zo_icmp, zo_ifnull, zo_gets, zo_mm, zo_throw, zo_ret, zo_aret, zo_lret, q_iret_f, q_iret_1, q_iret_0, q_iret_b, q_c8_0, q_c8_1, q_c8_2, q_c8_3, q_c8_4, q_set_0, q_set_1i, q_set_1r, q_set_1n, q_set_1N, q_set_s, q_set_1j, q_bk_v, q_bk_n, q_if, zb_ite, cond_true, cond_false, List.getElem?_cons_zero, List.getElem?_cons_succ, Nat.reduceAdd, q_set_1l, q_set2_0, q_set2_1i, q_set2_1r, q_set2_1n, q_set2_s, v1, n40, er, hnd, v7, hus, el, if_true, if_false, zb_eq0, zb_eq1, zn_1, not_true_eq_false, not_false_eq_true, ite_true, ite_false, if_true, if_false, q_iret_0, q_iret_1, decide_true, decide_false, decide_not, zb_t, zb_f, z10, z01, cond_true, cond_false, Bool.and_true, Bool.true_and, Bool.and_false, Bool.false_and, Bool.not_true, Bool.not_false, true_and, and_true, false_and, and_false, true_or, or_true, false_or, or_false, Bool.true_eq_false, Bool.false_eq_true, eq_self, reduceCtorEq, Bool.or_true, Bool.true_or, Bool.or_false, Bool.false_or])
      rfl
    | succ r ih =>
      intro hr
      obtain ⟨j7, j8, e1⟩ := ih (by omega)
      have hI := vout_inv (A := A) (nd := zn k) (n := nv A 1) e0 r (by omega)
      rw [e1, vout_s]
      generalize vout A (zn k) (nv A 1) r s0 = s at hI ⊢
      obtain ⟨x, j8', hx⟩ := r_vin H ho hk60 (zn t) (r := r) (by omega) (nv A 1) s j8 (Nat.le_refl _) hI
      generalize vin A (zn k) (zn r) (nv A 1) s = s' at hx ⊢
      refine ⟨some x, j8', ?_⟩
      have hc : (zn t ≤ zn r) = False := zn_le (a := t) (b := r) (by omega) (by omega) ▸ eq_false (by omega)
      have n5 := (H36 s.2.2).1.2.1.1.2
      have es : zn (nv A 1) - 1 = zn (nv A 1) + -1 := Int32.sub_eq_add_neg _ _
      have s1 : zz_ev tX12_laysVictims 41 [some (.ref 0), some (.int (zn o)), some (.int (zn k)), some (.int (zn t)), some (.int s.1), some (.int (zn s.2.1)), some (.int (zn r)), zj j7, zj j8] [] (setQ R 36 s.2.2) = zz_ev tX12_laysVictims 55 [some (.ref 0), some (.int (zn o)), some (.int (zn k)), some (.int (zn t)), some (.int s.1), some (.int (zn s.2.1)), some (.int (zn r)), some (.int (zn (nv A 1) + -1)), zj j8] [] (setQ R 36 s.2.2) := by
        (rw [e_X12_laysVictims_41]; simp only [e_X12_laysVictims, zo_iload, zo_lload, zo_aload, zo_istore, zo_lstore, zo_astore, zo_iinc, zo_pushI, zo_pushL, zo_null, zo_ii, zo_iid, zo_ll, zo_li, zo_lcmp, zo_i2l, zo_l2i, zo_dup, zo_dup2, zo_pop, zo_goto, zo_if, zo_icmp, zo_ifnull, zo_gets, zo_mm, zo_throw, zo_ret, zo_aret, zo_lret, q_iret_f, q_iret_1, q_iret_0, q_iret_b, q_c8_0, q_c8_1, q_c8_2, q_c8_3, q_c8_4, q_set_0, q_set_1i, q_set_1r, q_set_1n, q_set_1N, q_set_s, q_set_1j, q_bk_v, q_bk_n, q_if, zb_ite, cond_true, cond_false, List.getElem?_cons_zero, List.getElem?_cons_succ, Nat.reduceAdd, q_set_1l, q_set2_0, q_set2_1i, q_set2_1r, q_set2_1n, q_set2_s, hc, n5, es, if_true, if_false, zb_eq0, zb_eq1, zn_1, not_true_eq_false, not_false_eq_true, ite_true, ite_false, if_true, if_false, q_iret_0, q_iret_1, decide_true, decide_false, decide_not, zb_t, zb_f, z10, z01, cond_true, cond_false, Bool.and_true, Bool.true_and, Bool.and_false, Bool.false_and, Bool.not_true, Bool.not_false, true_and, and_true, false_and, and_false, true_or, or_true, false_or, or_false, Bool.true_eq_false, Bool.false_eq_true, eq_self, reduceCtorEq, Bool.or_true, Bool.true_or, Bool.or_false, Bool.false_or])
      have s2 : zz_ev tX12_laysVictims 160 [some (.ref 0), some (.int (zn o)), some (.int (zn k)), some (.int (zn t)), some (.int s'.1), some (.int (zn s'.2.1)), some (.int (zn r)), some (.int x), zj j8'] [] (setQ R 36 s'.2.2) = zz_ev tX12_laysVictims 41 [some (.ref 0), some (.int (zn o)), some (.int (zn k)), some (.int (zn t)), some (.int s'.1), some (.int (zn s'.2.1)), some (.int (zn (r + 1))), zj (some x), zj j8'] [] (setQ R 36 s'.2.2) := by
        (simp only [e_X12_laysVictims, zo_iload, zo_lload, zo_aload, zo_istore, zo_lstore, zo_astore, zo_iinc, zo_pushI, zo_pushL, zo_null, zo_ii, zo_iid, zo_ll, zo_li, zo_lcmp, zo_i2l, zo_l2i, zo_dup, zo_dup2, zo_pop, zo_goto, zo_if, zo_icmp, zo_ifnull, zo_gets, zo_mm, zo_throw, zo_ret, zo_aret, zo_lret, q_iret_f, q_iret_1, q_iret_0, q_iret_b, q_c8_0, q_c8_1, q_c8_2, q_c8_3, q_c8_4, q_set_0, q_set_1i, q_set_1r, q_set_1n, q_set_1N, q_set_s, q_set_1j, q_bk_v, q_bk_n, q_if, zb_ite, cond_true, cond_false, List.getElem?_cons_zero, List.getElem?_cons_succ, Nat.reduceAdd, q_set_1l, q_set2_0, q_set2_1i, q_set2_1r, q_set2_1n, q_set2_s, zj_some, if_true, if_false, zb_eq0, zb_eq1, zn_1, not_true_eq_false, not_false_eq_true, ite_true, ite_false, if_true, if_false, q_iret_0, q_iret_1, decide_true, decide_false, decide_not, zb_t, zb_f, z10, z01, cond_true, cond_false, Bool.and_true, Bool.true_and, Bool.and_false, Bool.false_and, Bool.not_true, Bool.not_false, true_and, and_true, false_and, and_false, true_or, or_true, false_or, or_false, Bool.true_eq_false, Bool.false_eq_true, eq_self, reduceCtorEq, Bool.or_true, Bool.true_or, Bool.or_false, Bool.false_or])
      exact s1.trans (hx.trans s2)
  obtain ⟨j7, j8, e1⟩ := main t (Nat.le_refl _)
  rw [e1, vout_ext H]
  generalize vout A (zn k) (nv A 6) t s0 = s
  have hc : (zn t ≤ zn t) = True := eq_true (Int32.le_refl _)
  by_cases c1 : s.1 ≤ 0
  · rw [if_pos c1]
    (rw [e_X12_laysVictims_41]; simp only [e_X12_laysVictims, zo_iload, zo_lload, zo_aload, zo_istore, zo_lstore, zo_astore, zo_iinc, zo_pushI, zo_pushL, zo_null, zo_ii, zo_iid, zo_ll, zo_li, zo_lcmp, zo_i2l, zo_l2i, zo_dup, zo_dup2, zo_pop, zo_goto, zo_if, zo_icmp, zo_ifnull, zo_gets, zo_mm, zo_throw, zo_ret, zo_aret, zo_lret, q_iret_f, q_iret_1, q_iret_0, q_iret_b, q_c8_0, q_c8_1, q_c8_2, q_c8_3, q_c8_4, q_set_0, q_set_1i, q_set_1r, q_set_1n, q_set_1N, q_set_s, q_set_1j, q_bk_v, q_bk_n, q_if, zb_ite, cond_true, cond_false, List.getElem?_cons_zero, List.getElem?_cons_succ, Nat.reduceAdd, q_set_1l, q_set2_0, q_set2_1i, q_set2_1r, q_set2_1n, q_set2_s, hc, c1, if_true, if_false, zb_eq0, zb_eq1, zn_1, not_true_eq_false, not_false_eq_true, ite_true, ite_false, if_true, if_false, q_iret_0, q_iret_1, decide_true, decide_false, decide_not, zb_t, zb_f, z10, z01, cond_true, cond_false, Bool.and_true, Bool.true_and, Bool.and_false, Bool.false_and, Bool.not_true, Bool.not_false, true_and, and_true, false_and, and_false, true_or, or_true, false_or, or_false, Bool.true_eq_false, Bool.false_eq_true, eq_self, reduceCtorEq, Bool.or_true, Bool.true_or, Bool.or_false, Bool.false_or])
  · rw [if_neg c1]
    (rw [e_X12_laysVictims_41]; simp only [e_X12_laysVictims, zo_iload, zo_lload, zo_aload, zo_istore, zo_lstore, zo_astore, zo_iinc, zo_pushI, zo_pushL, zo_null, zo_ii, zo_iid, zo_ll, zo_li, zo_lcmp, zo_i2l, zo_l2i, zo_dup, zo_dup2, zo_pop, zo_goto, zo_if, zo_icmp, zo_ifnull, zo_gets, zo_mm, zo_throw, zo_ret, zo_aret, zo_lret, q_iret_f, q_iret_1, q_iret_0, q_iret_b, q_c8_0, q_c8_1, q_c8_2, q_c8_3, q_c8_4, q_set_0, q_set_1i, q_set_1r, q_set_1n, q_set_1N, q_set_s, q_set_1j, q_bk_v, q_bk_n, q_if, zb_ite, cond_true, cond_false, List.getElem?_cons_zero, List.getElem?_cons_succ, Nat.reduceAdd, q_set_1l, q_set2_0, q_set2_1i, q_set2_1r, q_set2_1n, q_set2_s, hc, c1, if_true, if_false, zb_eq0, zb_eq1, zn_1, not_true_eq_false, not_false_eq_true, ite_true, ite_false, if_true, if_false, q_iret_0, q_iret_1, decide_true, decide_false, decide_not, zb_t, zb_f, z10, z01, cond_true, cond_false, Bool.and_true, Bool.true_and, Bool.and_false, Bool.false_and, Bool.not_true, Bool.not_false, true_and, and_true, false_and, and_false, true_or, or_true, false_or, or_false, Bool.true_eq_false, Bool.false_eq_true, eq_self, reduceCtorEq, Bool.or_true, Bool.true_or, Bool.or_false, Bool.false_or])
/-! what was laid before does not matter -/
def sV (s t : Int32 × Nat × (Nat → Int32)) : Prop := s.1 = t.1 ∧ s.2.1 = t.2.1 ∧ ∀ j, j < s.2.1 → s.2.2 j = t.2.2 j
theorem sV_vin (nd r : Int32) : ∀ (q : Nat) (s t : Int32 × Nat × (Nat → Int32)), sV s t → sV (vin A nd r q s) (vin A nd r q t)
  | 0, _, _, h => h
  | q + 1, s, t, h => by
    obtain ⟨h1, h2, h3⟩ := h
    unfold vin
    rw [← h1]
    by_cases c : s.1 ≤ 0
    · rw [if_pos c, if_pos c]; exact ⟨h1, h2, h3⟩
    · rw [if_neg c, if_neg c]
      cases vic A (zn q) nd && decide (rnk A (zn q) = r)
      · exact sV_vin nd r q _ _ ⟨h1, h2, h3⟩
      · refine sV_vin nd r q _ _ ⟨rfl, congrArg (· + 1) h2, fun j hj => ?_⟩
        show (if j = s.2.1 then zn q else s.2.2 j) = (if j = t.2.1 then zn q else t.2.2 j)
        rw [← h2]
        by_cases e : j = s.2.1
        · rw [if_pos e, if_pos e]
        · rw [if_neg e, if_neg e]
          have hj' : j < s.2.1 + 1 := hj
          exact h3 j (by omega)
theorem sV_vout (nd : Int32) (n : Nat) {s t : Int32 × Nat × (Nat → Int32)} (h : sV s t) (r : Nat) : sV (vout A nd n r s) (vout A nd n r t) := by
  induction r with
  | zero => exact h
  | succ r ih =>
    rw [vout_s, vout_s]
    exact sV_vin nd (zn r) n _ _ ih
theorem cv_ind (hn : nv A 6 ≤ 60) {k : Nat} (hR : zz_ix (rnk A (zn o)) ≤ 60) (V U : Nat → Int32) : (cv A o k V).1 = (cv A o k U).1 ∧ ((cv A o k V).1 = -1 ∨ ∃ m, m ≤ 60 ∧ (cv A o k V).1 = zn m ∧ ∀ j, j < m → (cv A o k V).2 j = (cv A o k U).2 j ∧ ∃ p, p < nv A 6 ∧ (cv A o k V).2 j = zn p) := by
  have h := sV_vout (A := A) (zn k) (nv A 6) (s := (znd (rd A 6 (zn o) 1) - lft A k, 0, V)) (t := (znd (rd A 6 (zn o) 1) - lft A k, 0, U)) ⟨rfl, rfl, fun j hj => absurd hj (Nat.not_lt_zero j)⟩ (zz_ix (rnk A (zn o)))
  have hI := vout_inv (A := A) (nd := zn k) (n := nv A 6) (s := (znd (rd A 6 (zn o) 1) - lft A k, 0, V)) rfl (zz_ix (rnk A (zn o))) (by omega)
  unfold cv
  generalize vout A (zn k) (nv A 6) (zz_ix (rnk A (zn o))) (znd (rd A 6 (zn o) 1) - lft A k, 0, V) = s at h hI ⊢
  generalize vout A (zn k) (nv A 6) (zz_ix (rnk A (zn o))) (znd (rd A 6 (zn o) 1) - lft A k, 0, U) = t at h ⊢
  obtain ⟨h1, h2, h3⟩ := h
  rw [← h1, ← h2]
  by_cases c1 : s.1 ≤ 0
  · rw [if_pos c1]
    exact ⟨rfl, Or.inr ⟨s.2.1, Nat.le_trans hI.1 (Nat.le_trans (vK_le _ _ _ _) hn), rfl, fun j hj => ⟨h3 j hj, hI.2 j hj⟩⟩⟩
  · rw [if_neg c1]
    exact ⟨rfl, Or.inl rfl⟩
theorem pst_ind (hn : nv A 6 ≤ 60) (hR : zz_ix (rnk A (zn o)) ≤ 60) (V U : Nat → Int32) : ∀ n, (pst A o n V).1 = (pst A o n U).1 ∧ (pst A o n V).2.1 = (pst A o n U).2.1
  | 0 => ⟨rfl, rfl⟩
  | n + 1 => by
    obtain ⟨h1, h2⟩ := pst_ind hn hR V U n
    rw [pst_s, pst_s]
    cases opn A (zn n)
    · exact ⟨h1, h2⟩
    · have e := (cv_ind (A := A) (o := o) hn (k := n) hR (pst A o n V).2.2 (pst A o n U).2.2).1
      rw [cond_true, cond_true, e, h2]
      cases !decide ((cv A o n (pst A o n U).2.2).1 = -1) && !decide ((pst A o n U).2.1 ≤ (cv A o n (pst A o n U).2.2).1)
      · exact ⟨h1, rfl⟩
      · exact ⟨rfl, rfl⟩
/-- what is found: none, or the victims of one NODE -/
theorem pst_found (hn : nv A 6 ≤ 60) (hR : zz_ix (rnk A (zn o)) ≤ 60) (V : Nat → Int32) : ∀ n, (pst A o n V).1 = -1 ∧ (pst A o n V).2.1 = 61 ∨ ∃ k m, k < n ∧ (pst A o n V).1 = zn k ∧ m ≤ 60 ∧ (pst A o n V).2.1 = zn m ∧ ∀ U, (cv A o k U).1 = zn m
  | 0 => Or.inl ⟨rfl, rfl⟩
  | n + 1 => by
    have ih := pst_found hn hR V n
    have up : (pst A o n V).1 = -1 ∧ (pst A o n V).2.1 = 61 ∨ ∃ k m, k < n + 1 ∧ (pst A o n V).1 = zn k ∧ m ≤ 60 ∧ (pst A o n V).2.1 = zn m ∧ ∀ U, (cv A o k U).1 = zn m := ih.imp id fun ⟨k, m, h1, h2⟩ => ⟨k, m, Nat.lt_succ_of_lt h1, h2⟩
    rw [pst_s]
    cases opn A (zn n)
    · exact up
    · cases e : !decide ((cv A o n (pst A o n V).2.2).1 = -1) && !decide ((pst A o n V).2.1 ≤ (cv A o n (pst A o n V).2.2).1)
      · exact up
      · rw [Bool.and_eq_true] at e
        have e1 : ¬ (cv A o n (pst A o n V).2.2).1 = -1 := by simpa using e.1
        obtain ⟨-, f⟩ := cv_ind (A := A) (o := o) hn (k := n) hR (pst A o n V).2.2 V
        obtain ⟨m, m1, m2, -⟩ := f.resolve_left e1
        exact Or.inr ⟨n, m, Nat.lt_succ_self n, rfl, m1, m2, fun U => ((cv_ind (A := A) (o := o) hn (k := n) hR U (pst A o n V).2.2).1).trans m2⟩
end
end

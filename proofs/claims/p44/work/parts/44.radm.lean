section
/-! the reference: rules and checks -/
theorem Rl0_scr {A R R' : zzMd} (H : Rl0 A R) (h0 : ∀ b, b ≠ 31 → b ≠ 42 → b ≠ 43 → b ≠ 49 → R'.1 0 b = R.1 0 b) (h1 : ∀ a b, a ≠ 0 → a ≠ 10 → a ≠ 36 → a ≠ 37 → R'.1 a b = R.1 a b) (h2 : R'.2 = R.2) : Rl0 A R' := by
  obtain ⟨⟨⟨k1, k2, k3⟩, W⟩, ⟨⟨L1, L2⟩, L3, L4, L5, L7⟩, VQ, S, ⟨⟨s1, s2, s3, s4⟩, s5, s6⟩, t1, ⟨k, t2, t3, t4⟩, t5, t6, t7, t8, t9⟩ := H
  have g : ∀ a b, a ≠ 0 → a ≠ 10 → a < 36 → R'.1 a b = R.1 a b := fun a b x1 x2 x3 => h1 a b x1 x2 (by omega) (by omega)
  refine ⟨⟨⟨fun k hk => ?_, fun f hf => ?_, fun t ht => ?_⟩, W⟩, ⟨⟨?_, ?_⟩, fun k a b => ?_, L4, L5, fun b hb => ?_⟩, fun c hc => ?_, fun b hb => ?_, ⟨⟨?_, ?_, ?_, s4⟩, fun i hi => ?_, fun i hi => ?_⟩, ?_, ⟨k, t2, t3, ?_⟩, fun b hb => ?_, fun r hr => ?_, fun b hb => ?_, ?_, t9⟩
  · rw [g 1 k (by decide) (by decide) (by decide), g 2 k (by decide) (by decide) (by decide)]; exact k1 k hk
  · rw [g 3 f (by decide) (by decide) (by decide), g 4 f (by decide) (by decide) (by decide)]; exact k2 f hf
  · rw [g 5 t (by decide) (by decide) (by decide)]; exact k3 t ht
  · rw [h0 14 (by decide) (by decide) (by decide) (by decide)]; exact L1
  · rw [h0 5 (by decide) (by decide) (by decide) (by decide)]; exact L2
  · have z := L3 k a b
    unfold RRow at z ⊢
    rw [g 6 _ (by decide) (by decide) (by decide), g 14 _ (by decide) (by decide) (by decide), h2]
    exact z
  · rw [g 9 _ (by decide) (by decide) (by decide), h2]; exact L7 b hb
  · obtain ⟨z1, z2⟩ := VQ c hc
    unfold RV at z1 ⊢
    unfold RQ RQo at z2 ⊢
    simp only [g 26 _ (by decide) (by decide) (by decide), g 27 _ (by decide) (by decide) (by decide), g 30 _ (by decide) (by decide) (by decide), g 31 _ (by decide) (by decide) (by decide), g 32 _ (by decide) (by decide) (by decide), g 33 _ (by decide) (by decide) (by decide), g 34 _ (by decide) (by decide) (by decide), g 35 _ (by decide) (by decide) (by decide), h2]
    exact ⟨z1, z2⟩
  · rw [g 13 _ (by decide) (by decide) (by decide)]; exact S b hb
  · rw [h0 19 (by decide) (by decide) (by decide) (by decide)]; exact s1
  · rw [h0 26 (by decide) (by decide) (by decide) (by decide)]; exact s2
  · rw [h0 30 (by decide) (by decide) (by decide) (by decide)]; exact s3
  · rw [g 17 _ (by decide) (by decide) (by decide), g 18 _ (by decide) (by decide) (by decide), g 19 _ (by decide) (by decide) (by decide), g 20 _ (by decide) (by decide) (by decide), g 21 _ (by decide) (by decide) (by decide), g 22 _ (by decide) (by decide) (by decide)]
    exact s5 i hi
  · rw [g 23 _ (by decide) (by decide) (by decide), g 24 _ (by decide) (by decide) (by decide), g 25 _ (by decide) (by decide) (by decide)]
    exact s6 i hi
  · rw [h0 48 (by decide) (by decide) (by decide) (by decide)]; exact t1
  · rw [h0 15 (by decide) (by decide) (by decide) (by decide)]; exact t4
  · rw [g 11 _ (by decide) (by decide) (by decide)]; exact t5 b hb
  · rw [h1 38 _ (by decide) (by decide) (by decide) (by decide)]; exact t6 r hr
  · rw [g 12 _ (by decide) (by decide) (by decide), g 6 _ (by decide) (by decide) (by decide)]; exact t7 b hb
  · rw [h0 47 (by decide) (by decide) (by decide) (by decide)]; exact t8
theorem Rl0_31 {A R : zzMd} {b : Nat} {x : Int32} (hb : b = 31 ∨ b = 42 ∨ b = 43 ∨ b = 49) (H : Rl0 A R) : Rl0 A (zz_sI R 0 b x) :=
  Rl0_scr H (fun k h1 h2 h3 h4 => if_neg (by omega)) (fun a k h1 _ _ _ => if_neg (fun z => h1 z.1)) rfl
theorem RK_31 {R : zzMd} {b : Nat} {x : Int32} (K : RK R) : RK (zz_sI R 0 b x) := K
/-! rules, step by step -/
theorem ruleStep_hi {A : zzMd} (hA : zAd A) {i : Nat} (hi : i < nr A) (D : Nat → Int32) {s : Nat} (hs : 11 ≤ s) : ruleStep A i D s = D s := by
  obtain ⟨-, -, hR, -⟩ := hA
  obtain ⟨-, -, t2⟩ := hR i hi
  unfold ruleStep
  split
  · exact if_neg (by omega)
  · rfl
theorem rulesK_hi {A : zzMd} (hA : zAd A) (D : Nat → Int32) {s : Nat} (hs : 11 ≤ s) : ∀ i, i ≤ nr A → zfold i (ruleStep A) D s = D s
  | 0, _ => rfl
  | i + 1, h => by rw [zfold_s, ruleStep_hi hA (by omega) _ hs]; exact rulesK_hi hA D hs i (by omega)
theorem sl_11 : ∀ k : Fin 11, sl k.1 = k.1 ∧ of1 k.1 = 0 ∧ k.1 < 17 ∧ mostF k.1 < 2 ^ wL k.1 := by decide
theorem sl_hi : ∀ k : Fin 17, 11 ≤ k.1 → 11 ≤ sl k.1 := by decide
theorem vl_lo (D : Nat → Int32) {k : Nat} (hk : k < 11) : vl D k = D k := by
  obtain ⟨h1, h2, -⟩ := sl_11 ⟨k, hk⟩
  unfold vl
  simp only at h1 h2
  rw [h1, h2, Int32.add_zero]
theorem enc_f {x : Int64} {D : Nat → Int32} {f a : Nat} (hf : f < 11) (ha : a ≤ mostF f) (h : encR x D) : encR (wt x f (zn a)) (dUp D f (zn a)) := by
  obtain ⟨h1, h2, h3, h4⟩ := sl_11 ⟨f, hf⟩
  simp only at h1 h2 h3 h4
  have := enc_wt (k := f) h3 (Nat.lt_of_le_of_lt ha h4) h
  rw [h1, h2, Int32.sub_zero] at this
  exact this
theorem goodF_up {D : Nat → Int32} {f a : Nat} (hf : f < 11) (h1 : leastF f ≤ a) (h2 : a ≤ mostF f) (h : goodF D) : goodF (dUp D f (zn a)) := fun k hk => by
  unfold dUp
  by_cases c : k = f
  · rw [if_pos c, c]; exact ⟨a, rfl, h1, h2⟩
  · rw [if_neg c]; exact h k hk
def zjl (x : Option Int64) : Option Value := match x with
  | some x => some (.long x)
  | none => none
theorem zjl_some (x : Int64) : zjl (some x) = some (.long x) := rfl
theorem zjl_none : zjl none = none := rfl
section
variable {A R : zzMd}
/-- one rule -/
theorem r_rule1 (K : RK R) (hA : zAd A) (HA : RA A R) {i : Nat} (hi : i < nr A) {D : Nat → Int32} {x : Int64} (gD : goodF D) (eD : encR x D) :
    goodF (ruleStep A i D) ∧ ∃ x', encR x' (ruleStep A i D) ∧ ∀ (n0 bf : Int64) (t : Nat) (j : Option Int32), zz_ev tX12_admitted 28 [some (.ref 0), some (.int (D 23)), some (.long n0), none, some (.long x), none, some (.int 1), some (.int (zn t)), some (.long bf), none, some (.int (zn i)), zj j] [] R =
      zz_ev tX12_admitted 28 [some (.ref 0), some (.int (D 23)), some (.long n0), none, some (.long x'), none, some (.int 1), some (.int (zn t)), some (.long bf), none, some (.int (zn (i + 1))), zj (some (zb (decide (rP A i 0 = D 23 ∧ ¬ D (zz_ix (rP A i 1)) < rP A i 2 ∧ ¬ rP A i 3 < D (zz_ix (rP A i 1))))))] [] R := by
  obtain ⟨⟨hr, hr8⟩, -, hR, -⟩ := hA
  obtain ⟨⟨f1, f2⟩, t1, t2⟩ := hR i hi
  obtain ⟨⟨n1, -⟩, h5, -⟩ := HA
  obtain ⟨⟨q0, q1, q2, q3, q4, q5⟩, a, w1, w2, w3⟩ := h5 i hi
  have hc := zk_lt hi hr8 (by decide)
  have b0 : zz_inb (zn i) 8 = true := zn_inT (by omega) (by decide)
  have x0 : zz_ix (zn i) = i := zn_ix (by omega)
  have hg := r_get K (k := zz_ix (rP A i 1)) (by omega) x
  rw [← f1, eD.2 _ (by omega), vl_lo D f2] at hg
  have hw := r_with K (k := zz_ix (rP A i 4)) (by omega) x (rP A i 5)
  rw [← t1] at hw
  have hin := r_isIn (D (zz_ix (rP A i 1))) (rP A i 2) (rP A i 3) R
  unfold ruleStep
  by_cases c1 : rP A i 0 = D 23 ∧ ¬ D (zz_ix (rP A i 1)) < rP A i 2 ∧ ¬ rP A i 3 < D (zz_ix (rP A i 1))
  · rw [if_pos c1]
    obtain ⟨d1, d2, d3⟩ := c1
    refine ⟨by rw [w1]; exact goodF_up t2 w2 w3 gD, wt x (zz_ix (rP A i 4)) (rP A i 5), by rw [w1]; exact enc_f t2 w3 eD, fun n0 bf t j => ?_⟩
    have cc : (decide (rP A i 0 = D 23 ∧ ¬ D (zz_ix (rP A i 1)) < rP A i 2 ∧ ¬ rP A i 3 < D (zz_ix (rP A i 1)))) = true := decide_eq_true ⟨d1, d2, d3⟩
    rw [cc]
    (rw [e_X12_admitted_28]; simp only [e_X12_admitted, zo_iload, zo_lload, zo_aload, zo_istore, zo_lstore, zo_astore, zo_iinc, zo_pushI, zo_pushL, zo_null, zo_ii, zo_iid, zo_ll, zo_li, zo_lcmp, zo_i2l, zo_l2i, zo_dup, zo_dup2, zo_pop, zo_goto, zo_if, zo_icmp, zo_ifnull, zo_gets, zo_mm, zo_throw, zo_ret, zo_aret, zo_lret, q_iret_f, q_iret_1, q_iret_0, q_iret_b, q_c8_0, q_c8_1, q_c8_2, q_c8_3, q_c8_4, q_set_0, q_set_1i, q_set_1r, q_set_1n, q_set_1N, q_set_s, q_set_1j, q_bk_v, q_bk_n, q_if, zb_ite, cond_true, cond_false, List.getElem?_cons_zero, List.getElem?_cons_succ, Nat.reduceAdd, q_set_1l, q_set2_0, q_set2_1i, q_set2_1r, q_set2_1n, q_set2_s, n1, hc, b0, x0, q_aR, q0, q1, q2, q3, q4, q5, d1, d2, d3, hg, hin, hw, zj_some, if_true, if_false, zb_eq0, zb_eq1, zn_1, not_true_eq_false, not_false_eq_true, ite_true, ite_false, if_true, if_false, q_iret_0, q_iret_1, decide_true, decide_false, decide_not, zb_t, zb_f, z10, z01, cond_true, cond_false, Bool.and_true, Bool.true_and, Bool.and_false, Bool.false_and, Bool.not_true, Bool.not_false, true_and, and_true, false_and, and_false, true_or, or_true, false_or, or_false, Bool.true_eq_false, Bool.false_eq_true, eq_self, reduceCtorEq, Bool.or_true, Bool.true_or, Bool.or_false, Bool.false_or])
  · rw [if_neg c1]
    refine ⟨gD, x, eD, fun n0 bf t j => ?_⟩
    have cc : (decide (rP A i 0 = D 23 ∧ ¬ D (zz_ix (rP A i 1)) < rP A i 2 ∧ ¬ rP A i 3 < D (zz_ix (rP A i 1)))) = false := decide_eq_false c1
    rw [cc]
    by_cases d1 : rP A i 0 = D 23
    · by_cases d2 : D (zz_ix (rP A i 1)) < rP A i 2
      · (rw [e_X12_admitted_28]; simp only [e_X12_admitted, zo_iload, zo_lload, zo_aload, zo_istore, zo_lstore, zo_astore, zo_iinc, zo_pushI, zo_pushL, zo_null, zo_ii, zo_iid, zo_ll, zo_li, zo_lcmp, zo_i2l, zo_l2i, zo_dup, zo_dup2, zo_pop, zo_goto, zo_if, zo_icmp, zo_ifnull, zo_gets, zo_mm, zo_throw, zo_ret, zo_aret, zo_lret, q_iret_f, q_iret_1, q_iret_0, q_iret_b, q_c8_0, q_c8_1, q_c8_2, q_c8_3, q_c8_4, q_set_0, q_set_1i, q_set_1r, q_set_1n, q_set_1N, q_set_s, q_set_1j, q_bk_v, q_bk_n, q_if, zb_ite, cond_true, cond_false, List.getElem?_cons_zero, List.getElem?_cons_succ, Nat.reduceAdd, q_set_1l, q_set2_0, q_set2_1i, q_set2_1r, q_set2_1n, q_set2_s, n1, hc, b0, x0, q_aR, q0, q1, q2, q3, d1, d2, hg, hin, zj_some, if_true, if_false, zb_eq0, zb_eq1, zn_1, not_true_eq_false, not_false_eq_true, ite_true, ite_false, if_true, if_false, q_iret_0, q_iret_1, decide_true, decide_false, decide_not, zb_t, zb_f, z10, z01, cond_true, cond_false, Bool.and_true, Bool.true_and, Bool.and_false, Bool.false_and, Bool.not_true, Bool.not_false, true_and, and_true, false_and, and_false, true_or, or_true, false_or, or_false, Bool.true_eq_false, Bool.false_eq_true, eq_self, reduceCtorEq, Bool.or_true, Bool.true_or, Bool.or_false, Bool.false_or])
      · by_cases d3 : rP A i 3 < D (zz_ix (rP A i 1))
        · (rw [e_X12_admitted_28]; simp only [e_X12_admitted, zo_iload, zo_lload, zo_aload, zo_istore, zo_lstore, zo_astore, zo_iinc, zo_pushI, zo_pushL, zo_null, zo_ii, zo_iid, zo_ll, zo_li, zo_lcmp, zo_i2l, zo_l2i, zo_dup, zo_dup2, zo_pop, zo_goto, zo_if, zo_icmp, zo_ifnull, zo_gets, zo_mm, zo_throw, zo_ret, zo_aret, zo_lret, q_iret_f, q_iret_1, q_iret_0, q_iret_b, q_c8_0, q_c8_1, q_c8_2, q_c8_3, q_c8_4, q_set_0, q_set_1i, q_set_1r, q_set_1n, q_set_1N, q_set_s, q_set_1j, q_bk_v, q_bk_n, q_if, zb_ite, cond_true, cond_false, List.getElem?_cons_zero, List.getElem?_cons_succ, Nat.reduceAdd, q_set_1l, q_set2_0, q_set2_1i, q_set2_1r, q_set2_1n, q_set2_s, n1, hc, b0, x0, q_aR, q0, q1, q2, q3, d1, d2, d3, hg, hin, zj_some, if_true, if_false, zb_eq0, zb_eq1, zn_1, not_true_eq_false, not_false_eq_true, ite_true, ite_false, if_true, if_false, q_iret_0, q_iret_1, decide_true, decide_false, decide_not, zb_t, zb_f, z10, z01, cond_true, cond_false, Bool.and_true, Bool.true_and, Bool.and_false, Bool.false_and, Bool.not_true, Bool.not_false, true_and, and_true, false_and, and_false, true_or, or_true, false_or, or_false, Bool.true_eq_false, Bool.false_eq_true, eq_self, reduceCtorEq, Bool.or_true, Bool.true_or, Bool.or_false, Bool.false_or])
        · exact absurd ⟨d1, d2, d3⟩ c1
    · (rw [e_X12_admitted_28]; simp only [e_X12_admitted, zo_iload, zo_lload, zo_aload, zo_istore, zo_lstore, zo_astore, zo_iinc, zo_pushI, zo_pushL, zo_null, zo_ii, zo_iid, zo_ll, zo_li, zo_lcmp, zo_i2l, zo_l2i, zo_dup, zo_dup2, zo_pop, zo_goto, zo_if, zo_icmp, zo_ifnull, zo_gets, zo_mm, zo_throw, zo_ret, zo_aret, zo_lret, q_iret_f, q_iret_1, q_iret_0, q_iret_b, q_c8_0, q_c8_1, q_c8_2, q_c8_3, q_c8_4, q_set_0, q_set_1i, q_set_1r, q_set_1n, q_set_1N, q_set_s, q_set_1j, q_bk_v, q_bk_n, q_if, zb_ite, cond_true, cond_false, List.getElem?_cons_zero, List.getElem?_cons_succ, Nat.reduceAdd, q_set_1l, q_set2_0, q_set2_1i, q_set2_1r, q_set2_1n, q_set2_s, n1, hc, b0, x0, q_aR, q0, d1, zj_some, if_true, if_false, zb_eq0, zb_eq1, zn_1, not_true_eq_false, not_false_eq_true, ite_true, ite_false, if_true, if_false, q_iret_0, q_iret_1, decide_true, decide_false, decide_not, zb_t, zb_f, z10, z01, cond_true, cond_false, Bool.and_true, Bool.true_and, Bool.and_false, Bool.false_and, Bool.not_true, Bool.not_false, true_and, and_true, false_and, and_false, true_or, or_true, false_or, or_false, Bool.true_eq_false, Bool.false_eq_true, eq_self, reduceCtorEq, Bool.or_true, Bool.true_or, Bool.or_false, Bool.false_or])
theorem r_rulesK (K : RK R) (hA : zAd A) (HA : RA A R) {D : Nat → Int32} {x : Int64} (gD : goodF D) (eD : encR x D) (n0 bf : Int64) (t : Nat) (j : Option Int32) : ∀ i, i ≤ nr A →
    goodF (zfold i (ruleStep A) D) ∧ ∃ x' j', encR x' (zfold i (ruleStep A) D) ∧ zz_ev tX12_admitted 28 [some (.ref 0), some (.int (D 23)), some (.long n0), none, some (.long x), none, some (.int 1), some (.int (zn t)), some (.long bf), none, some (.int (zn 0)), zj j] [] R =
      zz_ev tX12_admitted 28 [some (.ref 0), some (.int (D 23)), some (.long n0), none, some (.long x'), none, some (.int 1), some (.int (zn t)), some (.long bf), none, some (.int (zn i)), zj j'] [] R
  | 0, _ => ⟨gD, x, j, eD, rfl⟩
  | i + 1, h => by
    obtain ⟨g1, x1, j1, e1, s1⟩ := r_rulesK K hA HA gD eD n0 bf t j i (by omega)
    have hi : i < nr A := by omega
    obtain ⟨g2, x2, e2, s2⟩ := r_rule1 K hA HA hi g1 e1
    rw [rulesK_hi hA D (s := 23) (by decide) i (by omega)] at s2
    rw [zfold_s]
    exact ⟨g2, x2, _, e2, s1.trans (s2 n0 bf t j1)⟩
theorem same11_enc {D : Nat → Int32} {x x' : Int64} (hA : zAd A) (eD : encR x D) (e2 : encR x' (rules A D)) : (x' = x) ↔ same11 D (rules A D) = true := by
  rw [enc_eq e2 eD]
  unfold same11
  rw [zall_iff]
  refine ⟨fun h f hf => ?_, fun h k hk => ?_⟩
  · obtain ⟨h1, -, h3, -⟩ := sl_11 ⟨f, hf⟩
    simp only at h1 h3
    have := h f h3
    rw [h1] at this
    exact decide_eq_true this
  · by_cases c : k < 11
    · rw [(sl_11 ⟨k, c⟩).1]; exact of_decide_eq_true (h k c)
    · exact rulesK_hi hA D (sl_hi ⟨k, hk⟩ (by show 11 ≤ k; omega)) _ (Nat.le_refl _)
/-- the turns of the rules -/
theorem r_turns (K : RK R) (hA : zAd A) (HA : RA A R) (n0 : Int64) : ∀ (k t : Nat), k + t = 6 → ∀ {D : Nat → Int32} (E : Nat → Int32) {x : Int64}, goodF D → encR x D → ∀ (j8 : Option Int64) (j10 j11 : Option Int32),
    goodF (settle A k D E).2.1 ∧ (∀ s, 11 ≤ s → (settle A k D E).2.1 s = D s) ∧ ∃ x' j8' j10' j11' t', encR x' (settle A k D E).2.1 ∧
      zz_ev tX12_admitted 9 [some (.ref 0), some (.int (D 23)), some (.long n0), none, some (.long x), none, some (.int 1), some (.int (zn t)), zjl j8, none, zj j10, zj j11] [] R =
      zz_ev tX12_admitted 148 [some (.ref 0), some (.int (D 23)), some (.long n0), none, some (.long x'), none, some (.int (zb (!(settle A k D E).1))), some (.int t'), zjl j8', none, zj j10', zj j11'] [.ref 0] R
  | 0, t, ht, D, E, x, gD, eD, j8, j10, j11 => by
    refine ⟨gD, fun _ _ => rfl, x, j8, j10, j11, zn t, eD, ?_⟩
    have hc : ((6 : Int32) ≤ zn t) = True := by
      rw [show t = 6 by omega]
      exact eq_true (by decide)
    show _ = zz_ev tX12_admitted 148 [some (.ref 0), some (.int (D 23)), some (.long n0), none, some (.long x), none, some (.int 1), some (.int (zn t)), zjl j8, none, zj j10, zj j11] [.ref 0] R
    generalize hZ : zz_ev tX12_admitted 148 [some (.ref 0), some (.int (D 23)), some (.long n0), none, some (.long x), none, some (.int 1), some (.int (zn t)), zjl j8, none, zj j10, zj j11] [.ref 0] R = Z
    rw [e_X12_admitted_9]
    (simp only [e_X12_admitted, zo_iload, zo_lload, zo_aload, zo_istore, zo_lstore, zo_astore, zo_iinc, zo_pushI, zo_pushL, zo_null, zo_ii, zo_iid, zo_ll, zo_li, zo_lcmp, zo_i2l, zo_l2i, zo_dup, zo_dup2, zo_pop, zo_goto, zo_if, zo_icmp, zo_ifnull, zo_gets, zo_mm, zo_throw, zo_ret, zo_aret, zo_lret, q_iret_f, q_iret_1, q_iret_0, q_iret_b, q_c8_0, q_c8_1, q_c8_2, q_c8_3, q_c8_4, q_set_0, q_set_1i, q_set_1r, q_set_1n, q_set_1N, q_set_s, q_set_1j, q_bk_v, q_bk_n, q_if, zb_ite, cond_true, cond_false, List.getElem?_cons_zero, List.getElem?_cons_succ, Nat.reduceAdd, q_set_1l, q_set2_0, q_set2_1i, q_set2_1r, q_set2_1n, q_set2_s, ↓hZ, hc, if_true, if_false, zb_eq0, zb_eq1, zn_1, not_true_eq_false, not_false_eq_true, ite_true, ite_false, if_true, if_false, q_iret_0, q_iret_1, decide_true, decide_false, decide_not, zb_t, zb_f, z10, z01, cond_true, cond_false, Bool.and_true, Bool.true_and, Bool.and_false, Bool.false_and, Bool.not_true, Bool.not_false, true_and, and_true, false_and, and_false, true_or, or_true, false_or, or_false, Bool.true_eq_false, Bool.false_eq_true, eq_self, reduceCtorEq, Bool.or_true, Bool.true_or, Bool.or_false, Bool.false_or])
  | k + 1, t, ht, D, E, x, gD, eD, j8, j10, j11 => by
    obtain ⟨g1, x1, j1, e1, s1⟩ := r_rulesK K hA HA gD eD n0 x t j11 (nr A) (Nat.le_refl _)
    have er : zfold (nr A) (ruleStep A) D = rules A D := rfl
    rw [er] at g1 e1
    have hc : ((6 : Int32) ≤ zn t) = False := zk_lt (n := 6) (by omega) (Nat.le_refl 6) (by decide)
    have a1 : zz_ev tX12_admitted 9 [some (.ref 0), some (.int (D 23)), some (.long n0), none, some (.long x), none, some (.int 1), some (.int (zn t)), zjl j8, none, zj j10, zj j11] [] R =
        zz_ev tX12_admitted 28 [some (.ref 0), some (.int (D 23)), some (.long n0), none, some (.long x), none, some (.int 1), some (.int (zn t)), some (.long x), none, some (.int (zn 0)), zj j11] [] R := by
      generalize hZ : zz_ev tX12_admitted 28 [some (.ref 0), some (.int (D 23)), some (.long n0), none, some (.long x), none, some (.int 1), some (.int (zn t)), some (.long x), none, some (.int (zn 0)), zj j11] [] R = Z
      rw [show (zn 0 : Int32) = 0 from rfl] at hZ
      rw [e_X12_admitted_9]
      (simp only [e_X12_admitted, zo_iload, zo_lload, zo_aload, zo_istore, zo_lstore, zo_astore, zo_iinc, zo_pushI, zo_pushL, zo_null, zo_ii, zo_iid, zo_ll, zo_li, zo_lcmp, zo_i2l, zo_l2i, zo_dup, zo_dup2, zo_pop, zo_goto, zo_if, zo_icmp, zo_ifnull, zo_gets, zo_mm, zo_throw, zo_ret, zo_aret, zo_lret, q_iret_f, q_iret_1, q_iret_0, q_iret_b, q_c8_0, q_c8_1, q_c8_2, q_c8_3, q_c8_4, q_set_0, q_set_1i, q_set_1r, q_set_1n, q_set_1N, q_set_s, q_set_1j, q_bk_v, q_bk_n, q_if, zb_ite, cond_true, cond_false, List.getElem?_cons_zero, List.getElem?_cons_succ, Nat.reduceAdd, q_set_1l, q_set2_0, q_set2_1i, q_set2_1r, q_set2_1n, q_set2_s, hc, if_true, if_false, zb_eq0, zb_eq1, zn_1, not_true_eq_false, not_false_eq_true, ite_true, ite_false, if_true, if_false, q_iret_0, q_iret_1, decide_true, decide_false, decide_not, zb_t, zb_f, z10, z01, cond_true, cond_false, Bool.and_true, Bool.true_and, Bool.and_false, Bool.false_and, Bool.not_true, Bool.not_false, true_and, and_true, false_and, and_false, true_or, or_true, false_or, or_false, Bool.true_eq_false, Bool.false_eq_true, eq_self, reduceCtorEq, Bool.or_true, Bool.true_or, Bool.or_false, Bool.false_or])
      exact hZ
    have hrn := (hA.1.2)
    have n1 := HA.1.1
    have hc2 : (zn (nr A) ≤ zn (nr A)) = True := zk_ge hrn (by decide)
    have sm := same11_enc hA eD e1
    have a2 : zz_ev tX12_admitted 28 [some (.ref 0), some (.int (D 23)), some (.long n0), none, some (.long x1), none, some (.int 1), some (.int (zn t)), some (.long x), none, some (.int (zn (nr A))), zj j1] [] R =
        zz_ev tX12_admitted 9 [some (.ref 0), some (.int (D 23)), some (.long n0), none, some (.long x1), none, some (.int (zb (!same11 D (rules A D)))), some (.int (zn (t + 1))), zjl (some x), none, zj (some (zn (nr A))), zj j1] [] R := by
      by_cases c : x1 = x
      · rw [sm.mp c]
        (rw [e_X12_admitted_28]; simp only [e_X12_admitted, zo_iload, zo_lload, zo_aload, zo_istore, zo_lstore, zo_astore, zo_iinc, zo_pushI, zo_pushL, zo_null, zo_ii, zo_iid, zo_ll, zo_li, zo_lcmp, zo_i2l, zo_l2i, zo_dup, zo_dup2, zo_pop, zo_goto, zo_if, zo_icmp, zo_ifnull, zo_gets, zo_mm, zo_throw, zo_ret, zo_aret, zo_lret, q_iret_f, q_iret_1, q_iret_0, q_iret_b, q_c8_0, q_c8_1, q_c8_2, q_c8_3, q_c8_4, q_set_0, q_set_1i, q_set_1r, q_set_1n, q_set_1N, q_set_s, q_set_1j, q_bk_v, q_bk_n, q_if, zb_ite, cond_true, cond_false, List.getElem?_cons_zero, List.getElem?_cons_succ, Nat.reduceAdd, q_set_1l, q_set2_0, q_set2_1i, q_set2_1r, q_set2_1n, q_set2_s, n1, hc2, lc_0, c, zjl_some, zj_some, if_true, if_false, zb_eq0, zb_eq1, zn_1, not_true_eq_false, not_false_eq_true, ite_true, ite_false, if_true, if_false, q_iret_0, q_iret_1, decide_true, decide_false, decide_not, zb_t, zb_f, z10, z01, cond_true, cond_false, Bool.and_true, Bool.true_and, Bool.and_false, Bool.false_and, Bool.not_true, Bool.not_false, true_and, and_true, false_and, and_false, true_or, or_true, false_or, or_false, Bool.true_eq_false, Bool.false_eq_true, eq_self, reduceCtorEq, Bool.or_true, Bool.true_or, Bool.or_false, Bool.false_or])
      · have c' : same11 D (rules A D) = false := by
          cases q : same11 D (rules A D)
          · rfl
          · exact absurd (sm.mpr q) c
        rw [c']
        (rw [e_X12_admitted_28]; simp only [e_X12_admitted, zo_iload, zo_lload, zo_aload, zo_istore, zo_lstore, zo_astore, zo_iinc, zo_pushI, zo_pushL, zo_null, zo_ii, zo_iid, zo_ll, zo_li, zo_lcmp, zo_i2l, zo_l2i, zo_dup, zo_dup2, zo_pop, zo_goto, zo_if, zo_icmp, zo_ifnull, zo_gets, zo_mm, zo_throw, zo_ret, zo_aret, zo_lret, q_iret_f, q_iret_1, q_iret_0, q_iret_b, q_c8_0, q_c8_1, q_c8_2, q_c8_3, q_c8_4, q_set_0, q_set_1i, q_set_1r, q_set_1n, q_set_1N, q_set_s, q_set_1j, q_bk_v, q_bk_n, q_if, zb_ite, cond_true, cond_false, List.getElem?_cons_zero, List.getElem?_cons_succ, Nat.reduceAdd, q_set_1l, q_set2_0, q_set2_1i, q_set2_1r, q_set2_1n, q_set2_s, n1, hc2, lc_0, c, zjl_some, zj_some, if_true, if_false, zb_eq0, zb_eq1, zn_1, not_true_eq_false, not_false_eq_true, ite_true, ite_false, if_true, if_false, q_iret_0, q_iret_1, decide_true, decide_false, decide_not, zb_t, zb_f, z10, z01, cond_true, cond_false, Bool.and_true, Bool.true_and, Bool.and_false, Bool.false_and, Bool.not_true, Bool.not_false, true_and, and_true, false_and, and_false, true_or, or_true, false_or, or_false, Bool.true_eq_false, Bool.false_eq_true, eq_self, reduceCtorEq, Bool.or_true, Bool.true_or, Bool.or_false, Bool.false_or])
    have s0 := a1.trans (s1.trans a2)
    have hD23 : rules A D 23 = D 23 := rulesK_hi hA D (by decide) _ (Nat.le_refl _)
    unfold settle
    cases c : same11 D (rules A D)
    · rw [c] at s0
      obtain ⟨g2, h2, x2, j8', j10', j11', t', e2, s2⟩ := r_turns K hA HA n0 k (t + 1) (by omega) (fun s => if s < 11 then D s else E s) g1 e1 (some x) (some (zn (nr A))) j1
      rw [hD23] at s2
      exact ⟨g2, fun s hs => (h2 s hs).trans (rulesK_hi hA D hs _ (Nat.le_refl _)), x2, j8', j10', j11', t', e2, s0.trans s2⟩
    · rw [c] at s0
      refine ⟨g1, fun s hs => rulesK_hi hA D hs _ (Nat.le_refl _), x1, some x, some (zn (nr A)), j1, zn (t + 1), e1, s0.trans ?_⟩
      show zz_ev tX12_admitted 9 [some (.ref 0), some (.int (D 23)), some (.long n0), none, some (.long x1), none, some (.int (zb false)), some (.int (zn (t + 1))), zjl (some x), none, zj (some (zn (nr A))), zj j1] [] R = zz_ev tX12_admitted 148 [some (.ref 0), some (.int (D 23)), some (.long n0), none, some (.long x1), none, some (.int (zb false)), some (.int (zn (t + 1))), zjl (some x), none, zj (some (zn (nr A))), zj j1] [.ref 0] R
      generalize hZ : zz_ev tX12_admitted 148 [some (.ref 0), some (.int (D 23)), some (.long n0), none, some (.long x1), none, some (.int (zb false)), some (.int (zn (t + 1))), zjl (some x), none, zj (some (zn (nr A))), zj j1] [.ref 0] R = Z
      rw [zb_f] at hZ ⊢
      rw [e_X12_admitted_9]
      (simp only [e_X12_admitted, zo_iload, zo_lload, zo_aload, zo_istore, zo_lstore, zo_astore, zo_iinc, zo_pushI, zo_pushL, zo_null, zo_ii, zo_iid, zo_ll, zo_li, zo_lcmp, zo_i2l, zo_l2i, zo_dup, zo_dup2, zo_pop, zo_goto, zo_if, zo_icmp, zo_ifnull, zo_gets, zo_mm, zo_throw, zo_ret, zo_aret, zo_lret, q_iret_f, q_iret_1, q_iret_0, q_iret_b, q_c8_0, q_c8_1, q_c8_2, q_c8_3, q_c8_4, q_set_0, q_set_1i, q_set_1r, q_set_1n, q_set_1N, q_set_s, q_set_1j, q_bk_v, q_bk_n, q_if, zb_ite, cond_true, cond_false, List.getElem?_cons_zero, List.getElem?_cons_succ, Nat.reduceAdd, q_set_1l, q_set2_0, q_set2_1i, q_set2_1r, q_set2_1n, q_set2_s, ↓hZ, if_true, if_false, zb_eq0, zb_eq1, zn_1, not_true_eq_false, not_false_eq_true, ite_true, ite_false, if_true, if_false, q_iret_0, q_iret_1, decide_true, decide_false, decide_not, zb_t, zb_f, z10, z01, cond_true, cond_false, Bool.and_true, Bool.true_and, Bool.and_false, Bool.false_and, Bool.not_true, Bool.not_false, true_and, and_true, false_and, and_false, true_or, or_true, false_or, or_false, Bool.true_eq_false, Bool.false_eq_true, eq_self, reduceCtorEq, Bool.or_true, Bool.true_or, Bool.or_false, Bool.false_or])
/-- the checks -/
theorem r_checks (K : RK R) (hA : zAd A) (HA : RA A R) {D : Nat → Int32} {x : Int64} (eD : encR x D) (n0 : Int64) (g : Bool) (t' : Int32) (j10 j11 : Option Int32) (j9 : Option Value) (b0 : Bool) :
    zz_ev tX12_admitted 186 [some (.ref 0), some (.int (D 23)), some (.long n0), none, some (.long x), none, some (.int (zb g)), some (.int t'), some (.int (zn 0)), j9, zj j10, zj j11] [] (zz_sI R 0 31 (zb b0)) =
      some (.inl (some (.long x)), zz_sI R 0 31 (zb (b0 || !zall (nc A) fun i => !decide (cP A i 0 = D 23 ∧ ¬ D (zz_ix (cP A i 1)) ≤ cP A i 2)))) := by
  obtain ⟨-, ⟨hr, hr8⟩, -, hR⟩ := hA
  obtain ⟨⟨-, n2, -⟩, -, h6⟩ := HA
  have lp := zl_go (E := fun i => zz_ev tX12_admitted 186 [some (.ref 0), some (.int (D 23)), some (.long n0), none, some (.long x), none, some (.int (zb g)), some (.int t'), some (.int (zn i)), j9, zj j10, zj j11] [] (zz_sI R 0 31 (zb (b0 || !zall i fun i => !decide (cP A i 0 = D 23 ∧ ¬ D (zz_ix (cP A i 1)) ≤ cP A i 2))))) (nc A) (fun i hi => by
    obtain ⟨f1, f2⟩ := hR i hi
    obtain ⟨q0, q1, q2⟩ := h6 i hi
    have hc := zk_lt hi hr8 (by decide)
    have b1 : zz_inb (zn i) 8 = true := zn_inT (by omega) (by decide)
    have x1 : zz_ix (zn i) = i := zn_ix (by omega)
    rw [zall_s]
    generalize (zall i fun i => !decide (cP A i 0 = D 23 ∧ ¬ D (zz_ix (cP A i 1)) ≤ cP A i 2)) = z
    have hg := r_get (R := zz_sI R 0 31 (zb (b0 || !z))) K (k := zz_ix (cP A i 1)) (by omega) x
    rw [← f1, eD.2 _ (by omega), vl_lo D f2] at hg
    have n26 : (zz_sI R 0 31 (zb (b0 || !z))).1 0 26 = zn (nc A) := n2
    have n31 : (zz_sI R 0 31 (zb (b0 || !z))).1 0 31 = zb (b0 || !z) := by rw [sI_1, if_pos ⟨rfl, rfl⟩]
    have m1 : ∀ a b, a ≠ 0 → (zz_sI R 0 31 (zb (b0 || !z))).1 a b = R.1 a b := fun a b h => if_neg (fun y => h y.1)
    have m23 := (m1 23 i (by decide)).trans q0
    have m24 := (m1 24 i (by decide)).trans q1
    have m25 := (m1 25 i (by decide)).trans q2
    have ss : ∀ v, zz_sI (zz_sI R 0 31 (zb (b0 || !z))) 0 31 v = zz_sI R 0 31 v := fun v => Prod.ext (funext fun a => funext fun b => by
      rw [sI_1, sI_1, sI_1]
      by_cases q : a = 0 ∧ b = 31
      · rw [if_pos q, if_pos q]
      · rw [if_neg q, if_neg q, if_neg q]) rfl
    have o1 : zz_b01 (1 : Int32) = true := rfl
    have o0 : zz_b01 (0 : Int32) = true := rfl
    generalize zz_sI R 0 31 (zb (b0 || !z)) = S at *
    cases c : (b0 || !z)
    · rw [c] at n31
      obtain ⟨e1, e2⟩ := (Bool.or_eq_false_iff).mp c
      have e3 : z = true := by simpa using e2
      subst e1
      subst e3
      by_cases d1 : cP A i 0 = D 23
      · by_cases d2 : D (zz_ix (cP A i 1)) ≤ cP A i 2
        · have cc : (false || !(true && !decide (cP A i 0 = D 23 ∧ ¬ D (zz_ix (cP A i 1)) ≤ cP A i 2))) = false := by simp [d2]
          rw [cc]
          (rw [e_X12_admitted_186]; simp only [e_X12_admitted, zo_iload, zo_lload, zo_aload, zo_istore, zo_lstore, zo_astore, zo_iinc, zo_pushI, zo_pushL, zo_null, zo_ii, zo_iid, zo_ll, zo_li, zo_lcmp, zo_i2l, zo_l2i, zo_dup, zo_dup2, zo_pop, zo_goto, zo_if, zo_icmp, zo_ifnull, zo_gets, zo_mm, zo_throw, zo_ret, zo_aret, zo_lret, q_iret_f, q_iret_1, q_iret_0, q_iret_b, q_c8_0, q_c8_1, q_c8_2, q_c8_3, q_c8_4, q_set_0, q_set_1i, q_set_1r, q_set_1n, q_set_1N, q_set_s, q_set_1j, q_bk_v, q_bk_n, q_if, zb_ite, cond_true, cond_false, List.getElem?_cons_zero, List.getElem?_cons_succ, Nat.reduceAdd, q_set_1l, q_set2_0, q_set2_1i, q_set2_1r, q_set2_1n, q_set2_s, n26, hc, n31, b1, x1, q_aR, m23, m24, m25, hg, d1, d2, ss, o0, zb_f, if_true, if_false, zb_eq0, zb_eq1, zn_1, not_true_eq_false, not_false_eq_true, ite_true, ite_false, if_true, if_false, q_iret_0, q_iret_1, decide_true, decide_false, decide_not, zb_t, zb_f, z10, z01, cond_true, cond_false, Bool.and_true, Bool.true_and, Bool.and_false, Bool.false_and, Bool.not_true, Bool.not_false, true_and, and_true, false_and, and_false, true_or, or_true, false_or, or_false, Bool.true_eq_false, Bool.false_eq_true, eq_self, reduceCtorEq, Bool.or_true, Bool.true_or, Bool.or_false, Bool.false_or])
        · have cc : (false || !(true && !decide (cP A i 0 = D 23 ∧ ¬ D (zz_ix (cP A i 1)) ≤ cP A i 2))) = true := by simp [d1, d2]
          rw [cc]
          (rw [e_X12_admitted_186]; simp only [e_X12_admitted, zo_iload, zo_lload, zo_aload, zo_istore, zo_lstore, zo_astore, zo_iinc, zo_pushI, zo_pushL, zo_null, zo_ii, zo_iid, zo_ll, zo_li, zo_lcmp, zo_i2l, zo_l2i, zo_dup, zo_dup2, zo_pop, zo_goto, zo_if, zo_icmp, zo_ifnull, zo_gets, zo_mm, zo_throw, zo_ret, zo_aret, zo_lret, q_iret_f, q_iret_1, q_iret_0, q_iret_b, q_c8_0, q_c8_1, q_c8_2, q_c8_3, q_c8_4, q_set_0, q_set_1i, q_set_1r, q_set_1n, q_set_1N, q_set_s, q_set_1j, q_bk_v, q_bk_n, q_if, zb_ite, cond_true, cond_false, List.getElem?_cons_zero, List.getElem?_cons_succ, Nat.reduceAdd, q_set_1l, q_set2_0, q_set2_1i, q_set2_1r, q_set2_1n, q_set2_s, n26, hc, n31, b1, x1, q_aR, m23, m24, m25, hg, d1, d2, ss, o1, zb_t, if_true, if_false, zb_eq0, zb_eq1, zn_1, not_true_eq_false, not_false_eq_true, ite_true, ite_false, if_true, if_false, q_iret_0, q_iret_1, decide_true, decide_false, decide_not, zb_t, zb_f, z10, z01, cond_true, cond_false, Bool.and_true, Bool.true_and, Bool.and_false, Bool.false_and, Bool.not_true, Bool.not_false, true_and, and_true, false_and, and_false, true_or, or_true, false_or, or_false, Bool.true_eq_false, Bool.false_eq_true, eq_self, reduceCtorEq, Bool.or_true, Bool.true_or, Bool.or_false, Bool.false_or])
      · have cc : (false || !(true && !decide (cP A i 0 = D 23 ∧ ¬ D (zz_ix (cP A i 1)) ≤ cP A i 2))) = false := by simp [d1]
        rw [cc]
        (rw [e_X12_admitted_186]; simp only [e_X12_admitted, zo_iload, zo_lload, zo_aload, zo_istore, zo_lstore, zo_astore, zo_iinc, zo_pushI, zo_pushL, zo_null, zo_ii, zo_iid, zo_ll, zo_li, zo_lcmp, zo_i2l, zo_l2i, zo_dup, zo_dup2, zo_pop, zo_goto, zo_if, zo_icmp, zo_ifnull, zo_gets, zo_mm, zo_throw, zo_ret, zo_aret, zo_lret, q_iret_f, q_iret_1, q_iret_0, q_iret_b, q_c8_0, q_c8_1, q_c8_2, q_c8_3, q_c8_4, q_set_0, q_set_1i, q_set_1r, q_set_1n, q_set_1N, q_set_s, q_set_1j, q_bk_v, q_bk_n, q_if, zb_ite, cond_true, cond_false, List.getElem?_cons_zero, List.getElem?_cons_succ, Nat.reduceAdd, q_set_1l, q_set2_0, q_set2_1i, q_set2_1r, q_set2_1n, q_set2_s, n26, hc, n31, b1, x1, q_aR, m23, d1, ss, o0, zb_f, if_true, if_false, zb_eq0, zb_eq1, zn_1, not_true_eq_false, not_false_eq_true, ite_true, ite_false, if_true, if_false, q_iret_0, q_iret_1, decide_true, decide_false, decide_not, zb_t, zb_f, z10, z01, cond_true, cond_false, Bool.and_true, Bool.true_and, Bool.and_false, Bool.false_and, Bool.not_true, Bool.not_false, true_and, and_true, false_and, and_false, true_or, or_true, false_or, or_false, Bool.true_eq_false, Bool.false_eq_true, eq_self, reduceCtorEq, Bool.or_true, Bool.true_or, Bool.or_false, Bool.false_or])
    · rw [c] at n31
      have cc : (b0 || !(z && !decide (cP A i 0 = D 23 ∧ ¬ D (zz_ix (cP A i 1)) ≤ cP A i 2))) = true := by
        rcases (Bool.or_eq_true _ _).mp c with e1 | e1
        · rw [e1]; rfl
        · have e3 : z = false := by simpa using e1
          rw [e3]; simp
      rw [cc]
      (rw [e_X12_admitted_186]; simp only [e_X12_admitted, zo_iload, zo_lload, zo_aload, zo_istore, zo_lstore, zo_astore, zo_iinc, zo_pushI, zo_pushL, zo_null, zo_ii, zo_iid, zo_ll, zo_li, zo_lcmp, zo_i2l, zo_l2i, zo_dup, zo_dup2, zo_pop, zo_goto, zo_if, zo_icmp, zo_ifnull, zo_gets, zo_mm, zo_throw, zo_ret, zo_aret, zo_lret, q_iret_f, q_iret_1, q_iret_0, q_iret_b, q_c8_0, q_c8_1, q_c8_2, q_c8_3, q_c8_4, q_set_0, q_set_1i, q_set_1r, q_set_1n, q_set_1N, q_set_s, q_set_1j, q_bk_v, q_bk_n, q_if, zb_ite, cond_true, cond_false, List.getElem?_cons_zero, List.getElem?_cons_succ, Nat.reduceAdd, q_set_1l, q_set2_0, q_set2_1i, q_set2_1r, q_set2_1n, q_set2_s, n26, hc, n31, ss, o1, zb_t, if_true, if_false, zb_eq0, zb_eq1, zn_1, not_true_eq_false, not_false_eq_true, ite_true, ite_false, if_true, if_false, q_iret_0, q_iret_1, decide_true, decide_false, decide_not, zb_t, zb_f, z10, z01, cond_true, cond_false, Bool.and_true, Bool.true_and, Bool.and_false, Bool.false_and, Bool.not_true, Bool.not_false, true_and, and_true, false_and, and_false, true_or, or_true, false_or, or_false, Bool.true_eq_false, Bool.false_eq_true, eq_self, reduceCtorEq, Bool.or_true, Bool.true_or, Bool.or_false, Bool.false_or]))
  have e0 : (b0 || !zall 0 fun i => !decide (cP A i 0 = D 23 ∧ ¬ D (zz_ix (cP A i 1)) ≤ cP A i 2)) = b0 := Bool.or_false b0
  rw [e0] at lp
  refine (show _ = _ from lp).trans ?_
  have n26 : (zz_sI R 0 31 (zb (b0 || !zall (nc A) fun i => !decide (cP A i 0 = D 23 ∧ ¬ D (zz_ix (cP A i 1)) ≤ cP A i 2)))).1 0 26 = zn (nc A) := n2
  generalize zz_sI R 0 31 (zb (b0 || !zall (nc A) fun i => !decide (cP A i 0 = D 23 ∧ ¬ D (zz_ix (cP A i 1)) ≤ cP A i 2))) = S at n26 ⊢
  have hc := zk_ge hr8 (by decide)
  (rw [e_X12_admitted_186]; simp only [e_X12_admitted, zo_iload, zo_lload, zo_aload, zo_istore, zo_lstore, zo_astore, zo_iinc, zo_pushI, zo_pushL, zo_null, zo_ii, zo_iid, zo_ll, zo_li, zo_lcmp, zo_i2l, zo_l2i, zo_dup, zo_dup2, zo_pop, zo_goto, zo_if, zo_icmp, zo_ifnull, zo_gets, zo_mm, zo_throw, zo_ret, zo_aret, zo_lret, q_iret_f, q_iret_1, q_iret_0, q_iret_b, q_c8_0, q_c8_1, q_c8_2, q_c8_3, q_c8_4, q_set_0, q_set_1i, q_set_1r, q_set_1n, q_set_1N, q_set_s, q_set_1j, q_bk_v, q_bk_n, q_if, zb_ite, cond_true, cond_false, List.getElem?_cons_zero, List.getElem?_cons_succ, Nat.reduceAdd, q_set_1l, q_set2_0, q_set2_1i, q_set2_1r, q_set2_1n, q_set2_s, n26, hc, if_true, if_false, zb_eq0, zb_eq1, zn_1, not_true_eq_false, not_false_eq_true, ite_true, ite_false, if_true, if_false, q_iret_0, q_iret_1, decide_true, decide_false, decide_not, zb_t, zb_f, z10, z01, cond_true, cond_false, Bool.and_true, Bool.true_and, Bool.and_false, Bool.false_and, Bool.not_true, Bool.not_false, true_and, and_true, false_and, and_false, true_or, or_true, false_or, or_false, Bool.true_eq_false, Bool.false_eq_true, eq_self, reduceCtorEq, Bool.or_true, Bool.true_or, Bool.or_false, Bool.false_or])
theorem zn_add0 {a b : Nat} (ha : a < 1000000) (hb : b < 1000000) : (zn a + zn b = 0) = (zn a = 0 ∧ zn b = 0) := by
  have e0 : (0 : Int32) = zn 0 := rfl
  rw [zn_add, e0, zn_inj (by omega) (by omega), zn_inj (by omega) (by omega), zn_inj (by omega) (by omega)]
  exact propext ⟨fun h => by omega, fun h => by omega⟩
theorem r_admitted (K : RK R) (hA : zAd A) (HA : RA A R) {D : Nat → Int32} {x : Int64} (gD : goodF D) (eD : encR x D) :
    goodF (settled A D).2 ∧ (∀ s, 11 ≤ s → (settled A D).2 s = D s) ∧ ∃ x', encR x' (settled A D).2 ∧
      fX12_admitted [.ref 0, .int (D 23), .long x] R = some (.inl (some (.long x')), zz_sI R 0 31 (zb (!((settled A D).1 && allowed A (settled A D).2)))) := by
  obtain ⟨g1, h1, x', j8, j10, j11, t', e1, s1⟩ := r_turns K hA HA x 6 0 rfl D gD eD none none none
  refine ⟨g1, h1, x', e1, ?_⟩
  have st : fX12_admitted [.ref 0, .int (D 23), .long x] R = zz_ev tX12_admitted 9 [some (.ref 0), some (.int (D 23)), some (.long x), none, some (.long x), none, some (.int 1), some (.int (zn 0)), zjl none, none, zj none, zj none] [] R := by
    rw [s_X12_admitted]
    (simp only [e_X12_admitted, zo_iload, zo_lload, zo_aload, zo_istore, zo_lstore, zo_astore, zo_iinc, zo_pushI, zo_pushL, zo_null, zo_ii, zo_iid, zo_ll, zo_li, zo_lcmp, zo_i2l, zo_l2i, zo_dup, zo_dup2, zo_pop, zo_goto, zo_if, zo_icmp, zo_ifnull, zo_gets, zo_mm, zo_throw, zo_ret, zo_aret, zo_lret, q_iret_f, q_iret_1, q_iret_0, q_iret_b, q_c8_0, q_c8_1, q_c8_2, q_c8_3, q_c8_4, q_set_0, q_set_1i, q_set_1r, q_set_1n, q_set_1N, q_set_s, q_set_1j, q_bk_v, q_bk_n, q_if, zb_ite, cond_true, cond_false, List.getElem?_cons_zero, List.getElem?_cons_succ, Nat.reduceAdd, q_set_1l, q_set2_0, q_set2_1i, q_set2_1r, q_set2_1n, q_set2_s, if_true, if_false, zb_eq0, zb_eq1, zn_1, not_true_eq_false, not_false_eq_true, ite_true, ite_false, if_true, if_false, q_iret_0, q_iret_1, decide_true, decide_false, decide_not, zb_t, zb_f, z10, z01, cond_true, cond_false, Bool.and_true, Bool.true_and, Bool.and_false, Bool.false_and, Bool.not_true, Bool.not_false, true_and, and_true, false_and, and_false, true_or, or_true, false_or, or_false, Bool.true_eq_false, Bool.false_eq_true, eq_self, reduceCtorEq, Bool.or_true, Bool.true_or, Bool.or_false, Bool.false_or])
    rfl
  rw [st, s1]
  have hD23 := h1 23 (by decide)
  unfold settled at hD23 ⊢
  simp only at hD23 ⊢
  generalize settle A 6 D D = q at g1 h1 e1 hD23 ⊢
  have c2 := r_checks K hA HA e1 x (!q.1) t' j10 j11
  rw [hD23] at c2
  have hg2 : fX12_get [.ref 0, .long x', .int 2] R = _ := r_get K (k := 2) (by decide) x'
  have hg3 : fX12_get [.ref 0, .long x', .int 3] R = _ := r_get K (k := 3) (by decide) x'
  rw [e1.2 2 (by decide), vl_lo _ (by decide)] at hg2
  rw [e1.2 3 (by decide), vl_lo _ (by decide)] at hg3
  obtain ⟨a2, w2, -, w2'⟩ := g1 2 (by decide)
  obtain ⟨a3, w3, -, w3'⟩ := g1 3 (by decide)
  have m2 : mostF 2 = 2 := rfl
  have m3 : mostF 3 = 2 := rfl
  have hz : (q.2.1 2 + q.2.1 3 = 0) = (q.2.1 2 = 0 ∧ q.2.1 3 = 0) := by rw [w2, w3]; exact zn_add0 (by omega) (by omega)
  have o1 : zz_b01 (1 : Int32) = true := rfl
  have o0 : zz_b01 (0 : Int32) = true := rfl
  have fin : ∀ (b : Bool) (j9 : Option Value), zz_ev tX12_admitted 186 [some (.ref 0), some (.int (D 23)), some (.long x), none, some (.long x'), none, some (.int (zb (!q.1))), some (.int t'), some (.int 0), j9, zj j10, zj j11] [] (zz_sI R 0 31 (zb b)) =
      some (.inl (some (.long x')), zz_sI R 0 31 (zb (b || !zall (nc A) fun i => !decide (cP A i 0 = D 23 ∧ ¬ q.2.1 (zz_ix (cP A i 1)) ≤ cP A i 2)))) := fun b j9 => c2 j9 b
  have f1 := fin true
  have f0 := fin false
  rw [zb_t] at f1
  rw [zb_f] at f0
  unfold allowed
  rw [hD23]
  generalize (zall (nc A) fun i => !decide (cP A i 0 = D 23 ∧ ¬ q.2.1 (zz_ix (cP A i 1)) ≤ cP A i 2)) = z at *
  clear fin c2 s1 st
  cases c : q.1
  · simp only [c, Bool.not_false, zb_t] at f1 f0 ⊢
    cases j8 with
    | none => (simp only [e_X12_admitted, zo_iload, zo_lload, zo_aload, zo_istore, zo_lstore, zo_astore, zo_iinc, zo_pushI, zo_pushL, zo_null, zo_ii, zo_iid, zo_ll, zo_li, zo_lcmp, zo_i2l, zo_l2i, zo_dup, zo_dup2, zo_pop, zo_goto, zo_if, zo_icmp, zo_ifnull, zo_gets, zo_mm, zo_throw, zo_ret, zo_aret, zo_lret, q_iret_f, q_iret_1, q_iret_0, q_iret_b, q_c8_0, q_c8_1, q_c8_2, q_c8_3, q_c8_4, q_set_0, q_set_1i, q_set_1r, q_set_1n, q_set_1N, q_set_s, q_set_1j, q_bk_v, q_bk_n, q_if, zb_ite, cond_true, cond_false, List.getElem?_cons_zero, List.getElem?_cons_succ, Nat.reduceAdd, q_set_1l, q_set2_0, q_set2_1i, q_set2_1r, q_set2_1n, q_set2_s, o1, zjl_none, f1, if_true, if_false, zb_eq0, zb_eq1, zn_1, not_true_eq_false, not_false_eq_true, ite_true, ite_false, if_true, if_false, q_iret_0, q_iret_1, decide_true, decide_false, decide_not, zb_t, zb_f, z10, z01, cond_true, cond_false, Bool.and_true, Bool.true_and, Bool.and_false, Bool.false_and, Bool.not_true, Bool.not_false, true_and, and_true, false_and, and_false, true_or, or_true, false_or, or_false, Bool.true_eq_false, Bool.false_eq_true, eq_self, reduceCtorEq, Bool.or_true, Bool.true_or, Bool.or_false, Bool.false_or])
    | some y => (simp only [e_X12_admitted, zo_iload, zo_lload, zo_aload, zo_istore, zo_lstore, zo_astore, zo_iinc, zo_pushI, zo_pushL, zo_null, zo_ii, zo_iid, zo_ll, zo_li, zo_lcmp, zo_i2l, zo_l2i, zo_dup, zo_dup2, zo_pop, zo_goto, zo_if, zo_icmp, zo_ifnull, zo_gets, zo_mm, zo_throw, zo_ret, zo_aret, zo_lret, q_iret_f, q_iret_1, q_iret_0, q_iret_b, q_c8_0, q_c8_1, q_c8_2, q_c8_3, q_c8_4, q_set_0, q_set_1i, q_set_1r, q_set_1n, q_set_1N, q_set_s, q_set_1j, q_bk_v, q_bk_n, q_if, zb_ite, cond_true, cond_false, List.getElem?_cons_zero, List.getElem?_cons_succ, Nat.reduceAdd, q_set_1l, q_set2_0, q_set2_1i, q_set2_1r, q_set2_1n, q_set2_s, o1, zjl_some, f1, if_true, if_false, zb_eq0, zb_eq1, zn_1, not_true_eq_false, not_false_eq_true, ite_true, ite_false, if_true, if_false, q_iret_0, q_iret_1, decide_true, decide_false, decide_not, zb_t, zb_f, z10, z01, cond_true, cond_false, Bool.and_true, Bool.true_and, Bool.and_false, Bool.false_and, Bool.not_true, Bool.not_false, true_and, and_true, false_and, and_false, true_or, or_true, false_or, or_false, Bool.true_eq_false, Bool.false_eq_true, eq_self, reduceCtorEq, Bool.or_true, Bool.true_or, Bool.or_false, Bool.false_or])
  · simp only [c, Bool.not_true, zb_f] at f1 f0 ⊢
    by_cases d1 : D 23 = 0
    · by_cases d2 : q.2.1 2 = 0 ∧ q.2.1 3 = 0
      · have d3 : q.2.1 2 + q.2.1 3 = 0 := hz.mpr d2
        obtain ⟨d4, d5⟩ := d2
        simp only [d1] at f1 hg2 hg3 ⊢
        cases j8 with
        | none => ((simp only [e_X12_admitted, zo_iload, zo_lload, zo_aload, zo_istore, zo_lstore, zo_astore, zo_iinc, zo_pushI, zo_pushL, zo_null, zo_ii, zo_iid, zo_ll, zo_li, zo_lcmp, zo_i2l, zo_l2i, zo_dup, zo_dup2, zo_pop, zo_goto, zo_if, zo_icmp, zo_ifnull, zo_gets, zo_mm, zo_throw, zo_ret, zo_aret, zo_lret, q_iret_f, q_iret_1, q_iret_0, q_iret_b, q_c8_0, q_c8_1, q_c8_2, q_c8_3, q_c8_4, q_set_0, q_set_1i, q_set_1r, q_set_1n, q_set_1N, q_set_s, q_set_1j, q_bk_v, q_bk_n, q_if, zb_ite, cond_true, cond_false, List.getElem?_cons_zero, List.getElem?_cons_succ, Nat.reduceAdd, q_set_1l, q_set2_0, q_set2_1i, q_set2_1r, q_set2_1n, q_set2_s, o1, zjl_none, hg2, hg3, d3, f1, if_true, if_false, zb_eq0, zb_eq1, zn_1, not_true_eq_false, not_false_eq_true, ite_true, ite_false, if_true, if_false, q_iret_0, q_iret_1, decide_true, decide_false, decide_not, zb_t, zb_f, z10, z01, cond_true, cond_false, Bool.and_true, Bool.true_and, Bool.and_false, Bool.false_and, Bool.not_true, Bool.not_false, true_and, and_true, false_and, and_false, true_or, or_true, false_or, or_false, Bool.true_eq_false, Bool.false_eq_true, eq_self, reduceCtorEq, Bool.or_true, Bool.true_or, Bool.or_false, Bool.false_or]); simp [d4, d5, zb_t])
        | some y => ((simp only [e_X12_admitted, zo_iload, zo_lload, zo_aload, zo_istore, zo_lstore, zo_astore, zo_iinc, zo_pushI, zo_pushL, zo_null, zo_ii, zo_iid, zo_ll, zo_li, zo_lcmp, zo_i2l, zo_l2i, zo_dup, zo_dup2, zo_pop, zo_goto, zo_if, zo_icmp, zo_ifnull, zo_gets, zo_mm, zo_throw, zo_ret, zo_aret, zo_lret, q_iret_f, q_iret_1, q_iret_0, q_iret_b, q_c8_0, q_c8_1, q_c8_2, q_c8_3, q_c8_4, q_set_0, q_set_1i, q_set_1r, q_set_1n, q_set_1N, q_set_s, q_set_1j, q_bk_v, q_bk_n, q_if, zb_ite, cond_true, cond_false, List.getElem?_cons_zero, List.getElem?_cons_succ, Nat.reduceAdd, q_set_1l, q_set2_0, q_set2_1i, q_set2_1r, q_set2_1n, q_set2_s, o1, zjl_some, hg2, hg3, d3, f1, if_true, if_false, zb_eq0, zb_eq1, zn_1, not_true_eq_false, not_false_eq_true, ite_true, ite_false, if_true, if_false, q_iret_0, q_iret_1, decide_true, decide_false, decide_not, zb_t, zb_f, z10, z01, cond_true, cond_false, Bool.and_true, Bool.true_and, Bool.and_false, Bool.false_and, Bool.not_true, Bool.not_false, true_and, and_true, false_and, and_false, true_or, or_true, false_or, or_false, Bool.true_eq_false, Bool.false_eq_true, eq_self, reduceCtorEq, Bool.or_true, Bool.true_or, Bool.or_false, Bool.false_or]); simp [d4, d5, zb_t])
      · have d3 : ¬ q.2.1 2 + q.2.1 3 = 0 := fun h => d2 (hz.mp h)
        have d4 : (!decide (D 23 = 0 ∧ q.2.1 2 = 0 ∧ q.2.1 3 = 0) && z) = z := by
          rw [decide_eq_false (fun h => d2 h.2)]; rfl
        rw [d4]
        simp only [d1] at f0 hg2 hg3 ⊢
        cases j8 with
        | none => ((simp only [e_X12_admitted, zo_iload, zo_lload, zo_aload, zo_istore, zo_lstore, zo_astore, zo_iinc, zo_pushI, zo_pushL, zo_null, zo_ii, zo_iid, zo_ll, zo_li, zo_lcmp, zo_i2l, zo_l2i, zo_dup, zo_dup2, zo_pop, zo_goto, zo_if, zo_icmp, zo_ifnull, zo_gets, zo_mm, zo_throw, zo_ret, zo_aret, zo_lret, q_iret_f, q_iret_1, q_iret_0, q_iret_b, q_c8_0, q_c8_1, q_c8_2, q_c8_3, q_c8_4, q_set_0, q_set_1i, q_set_1r, q_set_1n, q_set_1N, q_set_s, q_set_1j, q_bk_v, q_bk_n, q_if, zb_ite, cond_true, cond_false, List.getElem?_cons_zero, List.getElem?_cons_succ, Nat.reduceAdd, q_set_1l, q_set2_0, q_set2_1i, q_set2_1r, q_set2_1n, q_set2_s, o0, zjl_none, hg2, hg3, d3, f0, if_true, if_false, zb_eq0, zb_eq1, zn_1, not_true_eq_false, not_false_eq_true, ite_true, ite_false, if_true, if_false, q_iret_0, q_iret_1, decide_true, decide_false, decide_not, zb_t, zb_f, z10, z01, cond_true, cond_false, Bool.and_true, Bool.true_and, Bool.and_false, Bool.false_and, Bool.not_true, Bool.not_false, true_and, and_true, false_and, and_false, true_or, or_true, false_or, or_false, Bool.true_eq_false, Bool.false_eq_true, eq_self, reduceCtorEq, Bool.or_true, Bool.true_or, Bool.or_false, Bool.false_or]))
        | some y => ((simp only [e_X12_admitted, zo_iload, zo_lload, zo_aload, zo_istore, zo_lstore, zo_astore, zo_iinc, zo_pushI, zo_pushL, zo_null, zo_ii, zo_iid, zo_ll, zo_li, zo_lcmp, zo_i2l, zo_l2i, zo_dup, zo_dup2, zo_pop, zo_goto, zo_if, zo_icmp, zo_ifnull, zo_gets, zo_mm, zo_throw, zo_ret, zo_aret, zo_lret, q_iret_f, q_iret_1, q_iret_0, q_iret_b, q_c8_0, q_c8_1, q_c8_2, q_c8_3, q_c8_4, q_set_0, q_set_1i, q_set_1r, q_set_1n, q_set_1N, q_set_s, q_set_1j, q_bk_v, q_bk_n, q_if, zb_ite, cond_true, cond_false, List.getElem?_cons_zero, List.getElem?_cons_succ, Nat.reduceAdd, q_set_1l, q_set2_0, q_set2_1i, q_set2_1r, q_set2_1n, q_set2_s, o0, zjl_some, hg2, hg3, d3, f0, if_true, if_false, zb_eq0, zb_eq1, zn_1, not_true_eq_false, not_false_eq_true, ite_true, ite_false, if_true, if_false, q_iret_0, q_iret_1, decide_true, decide_false, decide_not, zb_t, zb_f, z10, z01, cond_true, cond_false, Bool.and_true, Bool.true_and, Bool.and_false, Bool.false_and, Bool.not_true, Bool.not_false, true_and, and_true, false_and, and_false, true_or, or_true, false_or, or_false, Bool.true_eq_false, Bool.false_eq_true, eq_self, reduceCtorEq, Bool.or_true, Bool.true_or, Bool.or_false, Bool.false_or]))
    · have d4 : (!decide (D 23 = 0 ∧ q.2.1 2 = 0 ∧ q.2.1 3 = 0) && z) = z := by
        rw [decide_eq_false (fun h => d1 h.1)]; rfl
      rw [d4]
      cases j8 with
      | none => ((simp only [e_X12_admitted, zo_iload, zo_lload, zo_aload, zo_istore, zo_lstore, zo_astore, zo_iinc, zo_pushI, zo_pushL, zo_null, zo_ii, zo_iid, zo_ll, zo_li, zo_lcmp, zo_i2l, zo_l2i, zo_dup, zo_dup2, zo_pop, zo_goto, zo_if, zo_icmp, zo_ifnull, zo_gets, zo_mm, zo_throw, zo_ret, zo_aret, zo_lret, q_iret_f, q_iret_1, q_iret_0, q_iret_b, q_c8_0, q_c8_1, q_c8_2, q_c8_3, q_c8_4, q_set_0, q_set_1i, q_set_1r, q_set_1n, q_set_1N, q_set_s, q_set_1j, q_bk_v, q_bk_n, q_if, zb_ite, cond_true, cond_false, List.getElem?_cons_zero, List.getElem?_cons_succ, Nat.reduceAdd, q_set_1l, q_set2_0, q_set2_1i, q_set2_1r, q_set2_1n, q_set2_s, o0, zjl_none, d1, f0, if_true, if_false, zb_eq0, zb_eq1, zn_1, not_true_eq_false, not_false_eq_true, ite_true, ite_false, if_true, if_false, q_iret_0, q_iret_1, decide_true, decide_false, decide_not, zb_t, zb_f, z10, z01, cond_true, cond_false, Bool.and_true, Bool.true_and, Bool.and_false, Bool.false_and, Bool.not_true, Bool.not_false, true_and, and_true, false_and, and_false, true_or, or_true, false_or, or_false, Bool.true_eq_false, Bool.false_eq_true, eq_self, reduceCtorEq, Bool.or_true, Bool.true_or, Bool.or_false, Bool.false_or]))
      | some y => ((simp only [e_X12_admitted, zo_iload, zo_lload, zo_aload, zo_istore, zo_lstore, zo_astore, zo_iinc, zo_pushI, zo_pushL, zo_null, zo_ii, zo_iid, zo_ll, zo_li, zo_lcmp, zo_i2l, zo_l2i, zo_dup, zo_dup2, zo_pop, zo_goto, zo_if, zo_icmp, zo_ifnull, zo_gets, zo_mm, zo_throw, zo_ret, zo_aret, zo_lret, q_iret_f, q_iret_1, q_iret_0, q_iret_b, q_c8_0, q_c8_1, q_c8_2, q_c8_3, q_c8_4, q_set_0, q_set_1i, q_set_1r, q_set_1n, q_set_1N, q_set_s, q_set_1j, q_bk_v, q_bk_n, q_if, zb_ite, cond_true, cond_false, List.getElem?_cons_zero, List.getElem?_cons_succ, Nat.reduceAdd, q_set_1l, q_set2_0, q_set2_1i, q_set2_1r, q_set2_1n, q_set2_s, o0, zjl_some, d1, f0, if_true, if_false, zb_eq0, zb_eq1, zn_1, not_true_eq_false, not_false_eq_true, ite_true, ite_false, if_true, if_false, q_iret_0, q_iret_1, decide_true, decide_false, decide_not, zb_t, zb_f, z10, z01, cond_true, cond_false, Bool.and_true, Bool.true_and, Bool.and_false, Bool.false_and, Bool.not_true, Bool.not_false, true_and, and_true, false_and, and_false, true_or, or_true, false_or, or_false, Bool.true_eq_false, Bool.false_eq_true, eq_self, reduceCtorEq, Bool.or_true, Bool.true_or, Bool.or_false, Bool.false_or]))
end
end

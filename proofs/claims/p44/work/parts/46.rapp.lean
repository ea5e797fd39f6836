section
/-! the reference: deleting, applying, making -/
theorem sI_a {M : zzMd} {i k a b : Nat} {x : Int32} (h : a ≠ i) : (zz_sI M i k x).1 a b = M.1 a b := if_neg (fun z => h z.1)
theorem sI_b {M : zzMd} {i k a b : Nat} {x : Int32} (h : b ≠ k) : (zz_sI M i k x).1 a b = M.1 a b := if_neg (fun z => h z.2)
theorem sI_e {M : zzMd} {i k : Nat} {x : Int32} : (zz_sI M i k x).1 i k = x := if_pos ⟨rfl, rfl⟩
section
variable {A R : zzMd}
def delW (x : Int64) (kd m : Int32) : Int64 := bif decide (m = 2) && (decide (gt x 12 = 0) && (!decide (kd = 2) || decide (gt x 15 = 0))) then wt (wt x 13 4) 11 0 else wt x 13 m
theorem r_deleted (K : RK R) {o : Nat} (ho : o < 60) (x : Int64) (m : Int32) : fX12_deleted [.ref 0, .int (zn o), .long x, .int m] R = some (.inl (some (.long (delW x (R.1 6 o) m))), R) := by
  have b1 : zz_inb (zn o) 60 = true := zn_inT ho (by decide)
  have x1 : zz_ix (zn o) = o := zn_ix (by omega)
  have h12 : fX12_get [.ref 0, .long x, .int 12] R = _ := r_get K (k := 12) (by decide) x
  have h15 : fX12_get [.ref 0, .long x, .int 15] R = _ := r_get K (k := 15) (by decide) x
  have hg := r_gone K x
  have hw : ∀ m, fX12_with [.ref 0, .long x, .int 13, .int m] R = some (.inl (some (.long (wt x 13 m))), R) := fun m => r_with K (k := 13) (by decide) x m
  rw [s_X12_deleted]
  unfold delW
  by_cases c1 : m = 2
  · by_cases c2 : gt x 12 = 0
    · by_cases c3 : R.1 6 o = 2
      · by_cases c4 : gt x 15 = 0 <;> (simp only [e_X12_deleted, zo_iload, zo_lload, zo_aload, zo_istore, zo_lstore, zo_astore, zo_iinc, zo_pushI, zo_pushL, zo_null, zo_ii, zo_iid, zo_ll, zo_li, zo_lcmp, zo_i2l, zo_l2i, zo_dup, zo_dup2, zo_pop, zo_goto, zo_if, zo_icmp, zo_ifnull, zo_gets, zo_mm, zo_throw, zo_ret, zo_aret, zo_lret, q_iret_f, q_iret_1, q_iret_0, q_iret_b, q_c8_0, q_c8_1, q_c8_2, q_c8_3, q_c8_4, q_set_0, q_set_1i, q_set_1r, q_set_1n, q_set_1N, q_set_s, q_set_1j, q_bk_v, q_bk_n, q_if, zb_ite, cond_true, cond_false, List.getElem?_cons_zero, List.getElem?_cons_succ, Nat.reduceAdd, q_set_1l, q_set2_0, q_set2_1i, q_set2_1r, q_set2_1n, q_set2_s, b1, x1, q_aR, h12, h15, hg, hw, c1, c2, c3, c4, if_true, if_false, zb_eq0, zb_eq1, zn_1, not_true_eq_false, not_false_eq_true, ite_true, ite_false, if_true, if_false, q_iret_0, q_iret_1, decide_true, decide_false, decide_not, zb_t, zb_f, z10, z01, cond_true, cond_false, Bool.and_true, Bool.true_and, Bool.and_false, Bool.false_and, Bool.not_true, Bool.not_false, true_and, and_true, false_and, and_false, true_or, or_true, false_or, or_false, Bool.true_eq_false, Bool.false_eq_true, eq_self, reduceCtorEq, Bool.or_true, Bool.true_or, Bool.or_false, Bool.false_or])
      · (simp only [e_X12_deleted, zo_iload, zo_lload, zo_aload, zo_istore, zo_lstore, zo_astore, zo_iinc, zo_pushI, zo_pushL, zo_null, zo_ii, zo_iid, zo_ll, zo_li, zo_lcmp, zo_i2l, zo_l2i, zo_dup, zo_dup2, zo_pop, zo_goto, zo_if, zo_icmp, zo_ifnull, zo_gets, zo_mm, zo_throw, zo_ret, zo_aret, zo_lret, q_iret_f, q_iret_1, q_iret_0, q_iret_b, q_c8_0, q_c8_1, q_c8_2, q_c8_3, q_c8_4, q_set_0, q_set_1i, q_set_1r, q_set_1n, q_set_1N, q_set_s, q_set_1j, q_bk_v, q_bk_n, q_if, zb_ite, cond_true, cond_false, List.getElem?_cons_zero, List.getElem?_cons_succ, Nat.reduceAdd, q_set_1l, q_set2_0, q_set2_1i, q_set2_1r, q_set2_1n, q_set2_s, b1, x1, q_aR, h12, h15, hg, hw, c1, c2, c3, if_true, if_false, zb_eq0, zb_eq1, zn_1, not_true_eq_false, not_false_eq_true, ite_true, ite_false, if_true, if_false, q_iret_0, q_iret_1, decide_true, decide_false, decide_not, zb_t, zb_f, z10, z01, cond_true, cond_false, Bool.and_true, Bool.true_and, Bool.and_false, Bool.false_and, Bool.not_true, Bool.not_false, true_and, and_true, false_and, and_false, true_or, or_true, false_or, or_false, Bool.true_eq_false, Bool.false_eq_true, eq_self, reduceCtorEq, Bool.or_true, Bool.true_or, Bool.or_false, Bool.false_or])
    · (simp only [e_X12_deleted, zo_iload, zo_lload, zo_aload, zo_istore, zo_lstore, zo_astore, zo_iinc, zo_pushI, zo_pushL, zo_null, zo_ii, zo_iid, zo_ll, zo_li, zo_lcmp, zo_i2l, zo_l2i, zo_dup, zo_dup2, zo_pop, zo_goto, zo_if, zo_icmp, zo_ifnull, zo_gets, zo_mm, zo_throw, zo_ret, zo_aret, zo_lret, q_iret_f, q_iret_1, q_iret_0, q_iret_b, q_c8_0, q_c8_1, q_c8_2, q_c8_3, q_c8_4, q_set_0, q_set_1i, q_set_1r, q_set_1n, q_set_1N, q_set_s, q_set_1j, q_bk_v, q_bk_n, q_if, zb_ite, cond_true, cond_false, List.getElem?_cons_zero, List.getElem?_cons_succ, Nat.reduceAdd, q_set_1l, q_set2_0, q_set2_1i, q_set2_1r, q_set2_1n, q_set2_s, h12, hg, hw, c1, c2, if_true, if_false, zb_eq0, zb_eq1, zn_1, not_true_eq_false, not_false_eq_true, ite_true, ite_false, if_true, if_false, q_iret_0, q_iret_1, decide_true, decide_false, decide_not, zb_t, zb_f, z10, z01, cond_true, cond_false, Bool.and_true, Bool.true_and, Bool.and_false, Bool.false_and, Bool.not_true, Bool.not_false, true_and, and_true, false_and, and_false, true_or, or_true, false_or, or_false, Bool.true_eq_false, Bool.false_eq_true, eq_self, reduceCtorEq, Bool.or_true, Bool.true_or, Bool.or_false, Bool.false_or])
  · (simp only [e_X12_deleted, zo_iload, zo_lload, zo_aload, zo_istore, zo_lstore, zo_astore, zo_iinc, zo_pushI, zo_pushL, zo_null, zo_ii, zo_iid, zo_ll, zo_li, zo_lcmp, zo_i2l, zo_l2i, zo_dup, zo_dup2, zo_pop, zo_goto, zo_if, zo_icmp, zo_ifnull, zo_gets, zo_mm, zo_throw, zo_ret, zo_aret, zo_lret, q_iret_f, q_iret_1, q_iret_0, q_iret_b, q_c8_0, q_c8_1, q_c8_2, q_c8_3, q_c8_4, q_set_0, q_set_1i, q_set_1r, q_set_1n, q_set_1N, q_set_s, q_set_1j, q_bk_v, q_bk_n, q_if, zb_ite, cond_true, cond_false, List.getElem?_cons_zero, List.getElem?_cons_succ, Nat.reduceAdd, q_set_1l, q_set2_0, q_set2_1i, q_set2_1r, q_set2_1n, q_set2_s, hg, hw, c1, if_true, if_false, zb_eq0, zb_eq1, zn_1, not_true_eq_false, not_false_eq_true, ite_true, ite_false, if_true, if_false, q_iret_0, q_iret_1, decide_true, decide_false, decide_not, zb_t, zb_f, z10, z01, cond_true, cond_false, Bool.and_true, Bool.true_and, Bool.and_false, Bool.false_and, Bool.not_true, Bool.not_false, true_and, and_true, false_and, and_false, true_or, or_true, false_or, or_false, Bool.true_eq_false, Bool.false_eq_true, eq_self, reduceCtorEq, Bool.or_true, Bool.true_or, Bool.or_false, Bool.false_or])
theorem kept_row (H : Rl0 A R) {o : Nat} (ho : o < 60) : kept A 1 (zn o) = decide (row A o 26 = 1 ∨ ¬ row A o 28 = -1) := by
  unfold kept
  rw [show rd A 1 (zn o) 26 = row A o 26 from rd_row (k := 26) ho (by decide), show rd A 1 (zn o) 28 = row A o 28 from rd_row (k := 28) ho (by decide)]
def goD (A : zzMd) (o : Nat) (m : Int32) : Nat → Int32 := dUp (row A o) 25 (if m = 2 ∧ kept A 1 (zn o) = false then 4 else m)
theorem goodS_up {D : Nat → Int32} {k : Nat} {v : Int32} (hk : 11 ≤ k ∧ k < 22 ∨ 30 ≤ k) (h : goodD D) : goodD (dUp D k v) := by
  have e : ∀ s, s ≠ k → dUp D k v s = D s := fun s hs => if_neg hs
  obtain ⟨h1, h2⟩ := h
  refine ⟨fun f hf => ?_, ?_⟩
  · rw [e f (by omega)]; exact h1 f hf
  · unfold goodS at h2 ⊢
    rw [e 22 (by omega), e 23 (by omega), e 24 (by omega), e 25 (by omega), e 26 (by omega), e 27 (by omega), e 28 (by omega), e 29 (by omega)]
    exact h2
theorem p1_eq (x : Int32) : (x + 1 = 0) = (x = -1) := by
  refine propext ⟨fun h => ?_, fun h => by rw [h]; rfl⟩
  have := congrArg (· - 1) h
  simpa using this
theorem go_enc (H : Rl0 A R) {o : Nat} (ho : o < nv A 1) {q : Nat} (h1 : 1 ≤ q) (h3 : q ≤ 3) : encR (delW (R.2 7 o) (R.1 6 o) (zn q)) (dOw (goD A o (zn q))) ∧ goodD (dOw (goD A o (zn q))) := by
  obtain ⟨c1, c2, c3, c4, c5⟩ := rl_cur H ho
  have hn := rl_n60 H
  have hk := kept_row H (o := o) (by omega)
  obtain ⟨gF, g1, g2, g3, g4, g5, g6, g7, g8⟩ := c3
  have e12 : gt (R.2 7 o) 12 = row A o 26 := (c1.2 12 (by decide)).trans (Int32.add_zero _)
  have e15 : gt (R.2 7 o) 15 = row A o 28 + 1 := c1.2 15 (by decide)
  have q2 : (zn q = 2) = (q = 2) := zn_inj (a := q) (b := 2) (by omega) (by decide)
  have q4 : zn q ≠ 4 := by
    have : (zn q = 4) = (q = 4) := zn_inj (a := q) (b := 4) (by omega) (by decide)
    rw [Ne, this]; omega
  have at1 : (decide (zn q = 2) && (decide (gt (R.2 7 o) 12 = 0) && (!decide (R.1 6 o = 2) || decide (gt (R.2 7 o) 15 = 0)))) = decide (zn q = 2 ∧ kept A 1 (zn o) = false) := by
    rw [e12, e15, hk, ← c5]
    simp only [p1_eq]
    by_cases d1 : zn q = 2
    · rcases g4 with d2 | d2
      · rw [d2]
        by_cases d3 : row A o 28 = -1
        · simp [d1, d3]
        · have d4 : row A o 23 = 2 := by
            rcases g6 with e | ⟨p, -, -, e⟩
            · exact absurd e d3
            · exact e
          simp [d1, d3, d4]
      · rw [d2]; simp [d1]
    · simp [d1]
  unfold delW goD
  rw [at1]
  by_cases d : zn q = 2 ∧ kept A 1 (zn o) = false
  · rw [decide_eq_true d, cond_true, if_pos d]
    have d28 : row A o 28 = -1 := by
      have := d.2
      rw [hk] at this
      have := of_decide_eq_false this
      exact Decidable.byContradiction fun z => this (Or.inr z)
    have s1 := enc_wt (k := 13) (a := 4) (by decide) (by decide) c1
    have s2 := enc_wt (k := 11) (a := 0) (by decide) (by decide) s1
    have e : dOw (dUp (row A o) 25 4) = dUp (dUp (row A o) 25 4) 24 (-1) := if_pos rfl
    rw [e]
    refine ⟨enc_c s2 fun k hk => rfl, fun f hf => ?_, g1, Or.inl rfl, ⟨4, by decide, rfl⟩, g4, g5, g6, g7, fun _ => ⟨rfl, d28⟩⟩
    show ∃ a, (if f = 24 then (-1 : Int32) else if f = 25 then 4 else row A o f) = zn a ∧ _
    rw [if_neg (by omega), if_neg (by omega)]
    exact gF f hf
  · rw [decide_eq_false d, cond_false, if_neg d]
    have s1 := enc_wt (k := 13) (a := q) (by decide) (show q < 8 by omega) c1
    have e : dOw (dUp (row A o) 25 (zn q)) = dUp (row A o) 25 (zn q) := dOw_good fun h => absurd h q4
    rw [e]
    refine ⟨enc_c s1 fun k hk => ?_, fun f hf => ?_, g1, g2, ⟨q, by omega, rfl⟩, g4, g5, g6, g7, fun h => absurd h q4⟩
    · show dUp (row A o) 25 (zn q) (sl k) = dUp (row A o) 25 (zn q - 0) (sl k)
      rw [Int32.sub_zero]
    · show ∃ a, (if f = 25 then zn q else row A o f) = zn a ∧ _
      rw [if_neg (by omega)]
      exact gF f hf
theorem Rel_go (H : Rel A R) {o : Nat} (ho : o < nv A 1) {q : Nat} (h1 : 1 ≤ q) (h3 : q ≤ 3) :
    ∃ R', fX12_puts [.ref 0, .int (zn o), .long (delW (R.2 7 o) (R.1 6 o) (zn q)), .long (R.2 8 o), .int 0] R = some (.inl (some (.int (zb (aGo A o (zn q)).1))), R') ∧ Rel (aGo A o (zn q)).2 R' ∧ (∀ a k, a ≠ 0 → a ≠ 9 → a ≠ 14 → R'.1 a k = R.1 a k) ∧ (∀ k, k ≠ 14 → R'.1 0 k = R.1 0 k) ∧ nv (aGo A o (zn q)).2 1 = nv A 1 := by
  obtain ⟨c1, c2, c3, c4, c5⟩ := rl_cur H.1 ho
  obtain ⟨e1, e2⟩ := go_enc H.1 ho h1 h3
  exact Rel_ch H ho e2 c4 c5 e1 (encB_c c2 rfl rfl) fun f hf => if_neg (by omega)
theorem lt_n60 (H : Rl0 A R) {o : Nat} (ho : o < nv A 1) : o < 60 := Nat.lt_of_lt_of_le ho (rl_n60 H)
/-- applying a field -/
theorem Rel_ap (H : Rel A R) {o : Nat} (ho : o < nv A 1) {f a : Nat} (hf : f < 11) (hF : hasF (row A o 23) (zn f) = true) (h1 : leastF f ≤ a) (h2 : a ≤ mostF f) (m : Int32) :
    ∃ R', fX12_applies [.ref 0, .int m, .int (zn o), .int (zn f), .int (zn a)] R = some (.inl (some (.int (zb (aAp A m o (zn f) (zn a)).1))), R') ∧ Rel (aAp A m o (zn f) (zn a)).2 R' ∧ (∀ a k, a ≠ 0 → a ≠ 9 → a ≠ 14 → a ≠ 10 → R'.1 a k = R.1 a k) ∧ (∀ k, k ≠ 14 → k ≠ 31 → R'.1 0 k = R.1 0 k) ∧ nv (aAp A m o (zn f) (zn a)).2 1 = nv A 1 := by
  have h60 := lt_n60 H.1 ho
  obtain ⟨c1, c2, c3, c4, c5⟩ := rl_cur H.1 ho
  have K := H.1.1.1
  have b1 : zz_inb (zn o) 60 = true := zn_inT h60 (by decide)
  have x1 : zz_ix (zn o) = o := zn_ix (by omega)
  have xf : zz_ix (zn f) = f := zn_ix (by omega)
  have em : zn (11 * o) + zn f = zn (11 * o + f) := zn_add _ _
  have e11 : (11 : Int32) * zn o = zn (11 * o) := zn_mul 11 o
  have b2 : zz_inb (zn (11 * o + f)) 660 = true := zn_inT (by omega) (by decide)
  have x2 : zz_ix (zn (11 * o + f)) = 11 * o + f := zn_ix (by omega)
  have hw := r_with K (k := f) (by omega) (R.2 7 o) (zn a)
  have eD : encR (wt (R.2 7 o) f (zn a)) (dUp (dUp (row A o) f (zn a)) (11 + f) m) := by
    refine enc_c (enc_f hf h2 c1) fun k hk => if_neg ?_
    have key : ∀ k : Fin 17, ∀ f : Fin 11, sl k.1 ≠ 11 + f.1 := by decide
    exact key ⟨k, hk⟩ ⟨f, hf⟩
  have gU : goodD (dUp (dUp (row A o) f (zn a)) (11 + f) m) := by
    refine goodS_up (Or.inl (by omega)) ⟨goodF_up hf h1 h2 c3.1, ?_⟩
    have e : ∀ s, 11 ≤ s → dUp (row A o) f (zn a) s = row A o s := fun s hs => if_neg (by omega)
    have h2 := c3.2
    unfold goodS at h2 ⊢
    rw [e 22 (by omega), e 23 (by omega), e 24 (by omega), e 25 (by omega), e 26 (by omega), e 27 (by omega), e 28 (by omega), e 29 (by omega)]
    exact h2
  have e23 : dUp (dUp (row A o) f (zn a)) (11 + f) m 23 = R.1 6 o := by
    show (if 23 = 11 + f then m else if 23 = f then zn a else row A o 23) = R.1 6 o
    rw [if_neg (by omega), if_neg (by omega)]; exact c5
  obtain ⟨g1, g2, x', e1, ha⟩ := r_admitted K H.1.1.2.2.1 H.1.2.2.2.2.1 gU.1 eD
  rw [e23] at ha
  have gD' : goodD (settled A (dUp (dUp (row A o) f (zn a)) (11 + f) m)).2 := by
    refine ⟨g1, ?_⟩
    have h2 := gU.2
    unfold goodS at h2 ⊢
    rw [g2 22 (by omega), g2 23 (by omega), g2 24 (by omega), g2 25 (by omega), g2 26 (by omega), g2 27 (by omega), g2 28 (by omega), g2 29 (by omega)]
    exact h2
  have hlow : ∀ s, 11 ≤ s → s ≠ 11 + f → (settled A (dUp (dUp (row A o) f (zn a)) (11 + f) m)).2 s = row A o s := fun s hs hne => by
    rw [g2 s hs]
    show (if s = 11 + f then m else if s = f then zn a else row A o s) = _
    rw [if_neg hne, if_neg (by omega)]
  have hmf : (settled A (dUp (dUp (row A o) f (zn a)) (11 + f) m)).2 (11 + f) = m := by rw [g2 _ (by omega)]; exact if_pos rfl
  have hman := rman_row H.1 H.2 ho hf
  have R31 : Rl0 A (zz_sI R 0 31 (zb (!((settled A (dUp (dUp (row A o) f (zn a)) (11 + f) m)).1 && allowed A (settled A (dUp (dUp (row A o) f (zn a)) (11 + f) m)).2)))) := Rl0_31 (Or.inl rfl) H.1
  have n31 : ∀ b : Bool, (zz_sI R 0 31 (zb b)).1 0 31 = zb b := fun b => by rw [sI_1, if_pos ⟨rfl, rfl⟩]
  have m1 : ∀ (b : Bool) a k, a ≠ 0 → (zz_sI R 0 31 (zb b)).1 a k = R.1 a k := fun b a k h => if_neg (fun y => h y.1)
  have m0 : ∀ (b : Bool) k, k ≠ 31 → (zz_sI R 0 31 (zb b)).1 0 k = R.1 0 k := fun b k h => if_neg (fun y => h y.2)
  have eA : aAp A m o (zn f) (zn a) = aAd A o (dUp (dUp (row A o) f (zn a)) (11 + f) m) := by
    unfold aAp
    rw [hF, xf]; rfl
  rw [eA]
  unfold aAd
  rw [s_X12_applies]
  cases hc : (settled A (dUp (dUp (row A o) f (zn a)) (11 + f) m)).1 && allowed A (settled A (dUp (dUp (row A o) f (zn a)) (11 + f) m)).2
  · rw [hc] at ha R31
    simp only [Bool.not_false] at ha R31
    have ha' : fX12_admitted [.ref 0, .int (R.1 6 o), .long (wt (R.2 7 o) f (zn a))] R = _ := ha
    have n31' := n31 true
    have mm := m1 true 10 (11 * o + f) (by decide)
    refine ⟨zz_sI R 0 31 (zb true), ?_, ⟨R31, fun q hq f' hf' => by rw [m1 true 10 _ (by decide)]; exact H.2 q hq f' hf'⟩, fun a k h _ _ _ => m1 true a k h, fun k _ h => m0 true k h, rfl⟩
    simp only [cond_false]
    generalize zz_sI R 0 31 (zb true) = S at *
    by_cases d : S.1 10 (11 * o + f) = m <;> (simp only [e_X12_applies, zo_iload, zo_lload, zo_aload, zo_istore, zo_lstore, zo_astore, zo_iinc, zo_pushI, zo_pushL, zo_null, zo_ii, zo_iid, zo_ll, zo_li, zo_lcmp, zo_i2l, zo_l2i, zo_dup, zo_dup2, zo_pop, zo_goto, zo_if, zo_icmp, zo_ifnull, zo_gets, zo_mm, zo_throw, zo_ret, zo_aret, zo_lret, q_iret_f, q_iret_1, q_iret_0, q_iret_b, q_c8_0, q_c8_1, q_c8_2, q_c8_3, q_c8_4, q_set_0, q_set_1i, q_set_1r, q_set_1n, q_set_1N, q_set_s, q_set_1j, q_bk_v, q_bk_n, q_if, zb_ite, cond_true, cond_false, List.getElem?_cons_zero, List.getElem?_cons_succ, Nat.reduceAdd, q_set_1l, q_set2_0, q_set2_1i, q_set2_1r, q_set2_1n, q_set2_s, b1, x1, q_aR, hw, ha', e11, em, b2, x2, d, n31', if_true, if_false, zb_eq0, zb_eq1, zn_1, not_true_eq_false, not_false_eq_true, ite_true, ite_false, if_true, if_false, q_iret_0, q_iret_1, decide_true, decide_false, decide_not, zb_t, zb_f, z10, z01, cond_true, cond_false, Bool.and_true, Bool.true_and, Bool.and_false, Bool.false_and, Bool.not_true, Bool.not_false, true_and, and_true, false_and, and_false, true_or, or_true, false_or, or_false, Bool.true_eq_false, Bool.false_eq_true, eq_self, reduceCtorEq, Bool.or_true, Bool.true_or, Bool.or_false, Bool.false_or])
  · rw [hc] at ha R31
    simp only [Bool.not_true] at ha R31
    simp only [cond_true]
    have n31' := n31 false
    have mm := m1 false 10 (11 * o + f) (by decide)
    have hwr := Rl0_wr R31 ho (D := (settled A (dUp (dUp (row A o) f (zn a)) (11 + f) m)).2) (x := x') (y := R.2 8 o) (b := !decide (R.1 10 (11 * o + f) = m)) gD' ((hlow 22 (by decide) (by omega)).trans c4) ((hlow 23 (by decide) (by omega)).trans c5) e1
      (encB_c c2 (hlow 30 (by decide) (by omega)) (hlow 31 (by decide) (by omega))) (by
        rw [hman]
        constructor
        · intro h f' hf'
          have h' : row A o (11 + f) = m := by simpa using h
          by_cases e : f' = f
          · rw [e, hmf, h']
          · exact hlow _ (by omega) (by omega)
        · intro h
          have := h f hf
          rw [hmf] at this
          simp [this])
    obtain ⟨R', p1, p2, p3, p4, p5, p6⟩ := hwr
    have m8 : (zz_sI R 0 31 (zb false)).2 = R.2 := rfl
    cases hres : (aWr A o (settled A (dUp (dUp (row A o) f (zn a)) (11 + f) m)).2).1
    · refine ⟨R', ?_, ⟨p2, rman_of p2 fun q f' hq hf' => ?_⟩, fun a k h1 h2 h3 _ => (p3 a k h1 h2 h3).trans (m1 false a k h1), fun k h1 h2 => (p4 k h1).trans (m0 false k h2), p5⟩
      · rw [hres] at p1
        generalize zz_sI R 0 31 (zb false) = S at *
        by_cases d : R.1 10 (11 * o + f) = m
        · rw [decide_eq_true d] at p1
          simp only [Bool.not_true, zb_f] at p1
          (simp only [e_X12_applies, zo_iload, zo_lload, zo_aload, zo_istore, zo_lstore, zo_astore, zo_iinc, zo_pushI, zo_pushL, zo_null, zo_ii, zo_iid, zo_ll, zo_li, zo_lcmp, zo_i2l, zo_l2i, zo_dup, zo_dup2, zo_pop, zo_goto, zo_if, zo_icmp, zo_ifnull, zo_gets, zo_mm, zo_throw, zo_ret, zo_aret, zo_lret, q_iret_f, q_iret_1, q_iret_0, q_iret_b, q_c8_0, q_c8_1, q_c8_2, q_c8_3, q_c8_4, q_set_0, q_set_1i, q_set_1r, q_set_1n, q_set_1N, q_set_s, q_set_1j, q_bk_v, q_bk_n, q_if, zb_ite, cond_true, cond_false, List.getElem?_cons_zero, List.getElem?_cons_succ, Nat.reduceAdd, q_set_1l, q_set2_0, q_set2_1i, q_set2_1r, q_set2_1n, q_set2_s, b1, x1, q_aR, hw, ha, e11, em, b2, x2, mm, d, n31', m8, p1, if_true, if_false, zb_eq0, zb_eq1, zn_1, not_true_eq_false, not_false_eq_true, ite_true, ite_false, if_true, if_false, q_iret_0, q_iret_1, decide_true, decide_false, decide_not, zb_t, zb_f, z10, z01, cond_true, cond_false, Bool.and_true, Bool.true_and, Bool.and_false, Bool.false_and, Bool.not_true, Bool.not_false, true_and, and_true, false_and, and_false, true_or, or_true, false_or, or_false, Bool.true_eq_false, Bool.false_eq_true, eq_self, reduceCtorEq, Bool.or_true, Bool.true_or, Bool.or_false, Bool.false_or])
        · rw [decide_eq_false d] at p1
          simp only [Bool.not_false, zb_t, zb_f] at p1
          (simp only [e_X12_applies, zo_iload, zo_lload, zo_aload, zo_istore, zo_lstore, zo_astore, zo_iinc, zo_pushI, zo_pushL, zo_null, zo_ii, zo_iid, zo_ll, zo_li, zo_lcmp, zo_i2l, zo_l2i, zo_dup, zo_dup2, zo_pop, zo_goto, zo_if, zo_icmp, zo_ifnull, zo_gets, zo_mm, zo_throw, zo_ret, zo_aret, zo_lret, q_iret_f, q_iret_1, q_iret_0, q_iret_b, q_c8_0, q_c8_1, q_c8_2, q_c8_3, q_c8_4, q_set_0, q_set_1i, q_set_1r, q_set_1n, q_set_1N, q_set_s, q_set_1j, q_bk_v, q_bk_n, q_if, zb_ite, cond_true, cond_false, List.getElem?_cons_zero, List.getElem?_cons_succ, Nat.reduceAdd, q_set_1l, q_set2_0, q_set2_1i, q_set2_1r, q_set2_1n, q_set2_s, b1, x1, q_aR, hw, ha, e11, em, b2, x2, mm, d, n31', m8, p1, if_true, if_false, zb_eq0, zb_eq1, zn_1, not_true_eq_false, not_false_eq_true, ite_true, ite_false, if_true, if_false, q_iret_0, q_iret_1, decide_true, decide_false, decide_not, zb_t, zb_f, z10, z01, cond_true, cond_false, Bool.and_true, Bool.true_and, Bool.and_false, Bool.false_and, Bool.not_true, Bool.not_false, true_and, and_true, false_and, and_false, true_or, or_true, false_or, or_false, Bool.true_eq_false, Bool.false_eq_true, eq_self, reduceCtorEq, Bool.or_true, Bool.true_or, Bool.or_false, Bool.false_or])
      · rw [p5] at hq
        rw [p3 10 _ (by decide) (by decide) (by decide), m1 false 10 _ (by decide), rman_row H.1 H.2 hq hf', p6 q hq _ (by omega), if_neg (by rw [hres]; simp)]
    · refine ⟨zz_sI R' 10 (11 * o + f) m, ?_, ?_⟩
      · rw [hres] at p1
        generalize zz_sI R 0 31 (zb false) = S at *
        by_cases d : R.1 10 (11 * o + f) = m
        · rw [decide_eq_true d] at p1
          simp only [Bool.not_true, zb_f] at p1
          (simp only [e_X12_applies, zo_iload, zo_lload, zo_aload, zo_istore, zo_lstore, zo_astore, zo_iinc, zo_pushI, zo_pushL, zo_null, zo_ii, zo_iid, zo_ll, zo_li, zo_lcmp, zo_i2l, zo_l2i, zo_dup, zo_dup2, zo_pop, zo_goto, zo_if, zo_icmp, zo_ifnull, zo_gets, zo_mm, zo_throw, zo_ret, zo_aret, zo_lret, q_iret_f, q_iret_1, q_iret_0, q_iret_b, q_c8_0, q_c8_1, q_c8_2, q_c8_3, q_c8_4, q_set_0, q_set_1i, q_set_1r, q_set_1n, q_set_1N, q_set_s, q_set_1j, q_bk_v, q_bk_n, q_if, zb_ite, cond_true, cond_false, List.getElem?_cons_zero, List.getElem?_cons_succ, Nat.reduceAdd, q_set_1l, q_set2_0, q_set2_1i, q_set2_1r, q_set2_1n, q_set2_s, b1, x1, q_aR, hw, ha, e11, em, b2, x2, mm, d, n31', m8, p1, if_true, if_false, zb_eq0, zb_eq1, zn_1, not_true_eq_false, not_false_eq_true, ite_true, ite_false, if_true, if_false, q_iret_0, q_iret_1, decide_true, decide_false, decide_not, zb_t, zb_f, z10, z01, cond_true, cond_false, Bool.and_true, Bool.true_and, Bool.and_false, Bool.false_and, Bool.not_true, Bool.not_false, true_and, and_true, false_and, and_false, true_or, or_true, false_or, or_false, Bool.true_eq_false, Bool.false_eq_true, eq_self, reduceCtorEq, Bool.or_true, Bool.true_or, Bool.or_false, Bool.false_or])
        · rw [decide_eq_false d] at p1
          simp only [Bool.not_false, zb_t] at p1
          (simp only [e_X12_applies, zo_iload, zo_lload, zo_aload, zo_istore, zo_lstore, zo_astore, zo_iinc, zo_pushI, zo_pushL, zo_null, zo_ii, zo_iid, zo_ll, zo_li, zo_lcmp, zo_i2l, zo_l2i, zo_dup, zo_dup2, zo_pop, zo_goto, zo_if, zo_icmp, zo_ifnull, zo_gets, zo_mm, zo_throw, zo_ret, zo_aret, zo_lret, q_iret_f, q_iret_1, q_iret_0, q_iret_b, q_c8_0, q_c8_1, q_c8_2, q_c8_3, q_c8_4, q_set_0, q_set_1i, q_set_1r, q_set_1n, q_set_1N, q_set_s, q_set_1j, q_bk_v, q_bk_n, q_if, zb_ite, cond_true, cond_false, List.getElem?_cons_zero, List.getElem?_cons_succ, Nat.reduceAdd, q_set_1l, q_set2_0, q_set2_1i, q_set2_1r, q_set2_1n, q_set2_s, b1, x1, q_aR, hw, ha, e11, em, b2, x2, mm, d, n31', m8, p1, if_true, if_false, zb_eq0, zb_eq1, zn_1, not_true_eq_false, not_false_eq_true, ite_true, ite_false, if_true, if_false, q_iret_0, q_iret_1, decide_true, decide_false, decide_not, zb_t, zb_f, z10, z01, cond_true, cond_false, Bool.and_true, Bool.true_and, Bool.and_false, Bool.false_and, Bool.not_true, Bool.not_false, true_and, and_true, false_and, and_false, true_or, or_true, false_or, or_false, Bool.true_eq_false, Bool.false_eq_true, eq_self, reduceCtorEq, Bool.or_true, Bool.true_or, Bool.or_false, Bool.false_or])
      · have hz : Rl0 (aWr A o (settled A (dUp (dUp (row A o) f (zn a)) (11 + f) m)).2).2 (zz_sI R' 10 (11 * o + f) m) :=
          Rl0_scr p2 (fun b _ _ _ _ => sI_a (by decide)) (fun a b _ h _ _ => sI_a h) rfl
        refine ⟨⟨hz, rman_of hz fun q f' hq hf' => ?_⟩, fun a k h1 h2 h3 h4 => ?_, fun k h1 h2 => ?_, p5⟩
        · rw [p5] at hq
          have hr := p6 q hq (11 + f') (by omega)
          rw [hr]
          by_cases e1 : q = o
          · rw [if_pos ⟨e1, hres⟩]
            by_cases e2 : f' = f
            · rw [e1, e2, sI_e, hmf]
            · rw [sI_b (by omega), hlow _ (by omega) (by omega), p3 10 _ (by decide) (by decide) (by decide), m1 false 10 _ (by decide), rman_row H.1 H.2 hq hf', e1]
          · rw [if_neg (fun z => e1 z.1), sI_b (by omega), p3 10 _ (by decide) (by decide) (by decide), m1 false 10 _ (by decide), rman_row H.1 H.2 hq hf']
        · rw [sI_a h4, p3 a k h1 h2 h3, m1 false a k h1]
        · rw [sI_a (by decide), p4 k h1, m0 false k h2]
end
end

section
/-! what a controller's serving leaves of the log -/
def KJ (B A : zzMd) : Prop := JJ A ∧ Xt B A
section
variable {A B : zzMd} {c : Nat}
theorem Xt_rd (H : JJ B) (X : Xt B A) (hc : c < 8) (x s : Int32) : rd A (3 + c) x s = rd B (3 + c) x s := by
  unfold rd
  by_cases h : x < 0 ∨ 60 ≤ x ∨ s < 0 ∨ 32 ≤ s
  · rw [if_pos h, if_pos h]
  · rw [if_neg h, if_neg h, zcL hc]
    have h1 : ¬ x < 0 := fun z => h (Or.inl z)
    have h2 : ¬ 60 ≤ x := fun z => h (Or.inr (Or.inl z))
    have h3 : ¬ s < 0 := fun z => h (Or.inr (Or.inr (Or.inl z)))
    have h4 : ¬ 32 ≤ s := fun z => h (Or.inr (Or.inr (Or.inr z)))
    have hx := (zi_nat h1 h2).2
    obtain ⟨e4, l4⟩ := zi_rng h3 h4
    have l4 : (zz_ix s : Int) < 32 := l4
    obtain ⟨v1, -, v3⟩ := H.1.2.2.2.2.2 c hc
    have e := (X.2.2.1 c hc (zz_ix x)).2.1
    have n := (Lg_n60 H.1).2.1
    have hl := lastV_le (f := obj B) (zz_ix x) (ve B (3 + c))
    rw [e, v3 _ hx, zn_ix (by omega)]
    exact (X.2.1 _ (by omega)).2 (zz_ix s) (by omega)
theorem Xt_nv (X : Xt B A) (hc : c < 8) : nv A (3 + c) = nv B (3 + c) ∧ ve A (3 + c) = ve B (3 + c) := by
  unfold nv ve
  rw [(X.2.2.1 c hc 2).1, (X.2.2.1 c hc 3).1]
  exact ⟨rfl, rfl⟩
theorem KJ_c (h : KJ B A) {C : zzMd} (p : JJ C ∧ Xt A C) : KJ B C := ⟨p.1, Xt_trans h.2 p.2⟩
theorem vw_lt (H : JJ B) (hc : c < 8) {o : Nat} (h60 : o < 60) {s : Nat} (hs : s < 32) (h : ¬ rd B (3 + c) (zn o) (zn s) = if s = 25 then 4 else -1) : o < nv B (3 + c) := Decidable.byContradiction fun q => h (vw_un H.1 hc q h60 hs)
theorem KJ_lt (H : JJ B) (K : KJ B A) (hc : c < 8) {o : Nat} (ho : o < nv B (3 + c)) : o < nv A 1 := Nat.lt_of_lt_of_le (vw_row H.1 hc ho).1 K.2.1.2
theorem KJ_kind (H : JJ B) (K : KJ B A) (hc : c < 8) {o : Nat} (ho : o < nv B (3 + c)) : row A o 23 = rd B (3 + c) (zn o) 23 := by
  rw [K.2.2.2.2 o (vw_row H.1 hc ho).1, vw_kind H.1 hc ho]
theorem KJ_utd (H : JJ B) (K : KJ B A) (hc : c < 8) {o : Nat} (h60 : o < 60) (u : utd A c o = true) {s : Nat} (hs : s < 32) : row A o s = rd B (3 + c) (zn o) (zn s) := by
  rw [← Xt_rd H K.2 hc, utd_rw K.1.1 hc h60 u hs]
theorem s_want (H : JJ B) (K : KJ B A) (hc : c < 8) {o : Nat} (ho : o < nv B (3 + c)) (x : Int32) : KJ B (aWant A c o x).2 := by
  unfold aWant
  cases decide (rd A (3 + c) (zn o) 0 = x)
  · cases utd A c o
    · exact K
    · exact KJ_c K (J_Ap K.1 (KJ_lt H K hc ho) (f := 0) (m := 4) (by decide) x (by decide))
  · exact K
theorem s_rem (H : JJ B) (K : KJ B A) (hc : c < 8) {o : Nat} (ho : o < nv B (3 + c)) : KJ B (aRem A c o).2 := by
  unfold aRem
  cases utd A c o
  · exact K
  · refine KJ_c K (J_wr K.1 (KJ_lt H K hc ho) (ok_25 K.1 (KJ_lt H K hc ho) ?_))
    by_cases q : (2 : Int32) = 2 ∧ kept A 1 (zn o) = false
    · rw [if_pos q]; decide
    · rw [if_neg q]; decide
theorem s_set (H : JJ B) (K : KJ B A) (hc : c < 8) {o k : Nat} {x : Int32} (ho : o < nv B (3 + c)) (ok : utd A c o = true → okD A o (dOw (dUp (row A o) k x))) : KJ B (aSet A c o k x).2 := by
  unfold aSet
  cases decide (rd A (3 + c) (zn o) (zn k) = x)
  · cases u : utd A c o
    · exact K
    · exact KJ_c K (J_wr K.1 (KJ_lt H K hc ho) (ok u))
  · exact K
theorem s_mk (H : JJ B) (K : KJ B A) (hc : c < 8) {o k : Nat} (ho : o < nv B (3 + c)) (hk : (zn k = 1 ∧ rd B (3 + c) (zn o) 23 = 0) ∨ (zn k = 2 ∧ (rd B (3 + c) (zn o) 23 = 1 ∨ rd B (3 + c) (zn o) 23 = 3))) : KJ B (aMk A c o (zn k)).2 := by
  have e := KJ_kind H K hc ho
  exact KJ_c K (J_Open K.1 (m := 4) (k := k) (w := zn o) (rd A (3 + c) (zn o) 1) (by decide) (Or.inr ⟨o, KJ_lt H K hc ho, rfl, by rw [e]; exact hk⟩))
theorem stay_s {k : Int32} {v : Nat} {x : Int32} (h : stay A v x k = true) : rd A v x 23 = k ∧ rd A v x 25 = 0 := of_decide_eq_true h
theorem owned_s {k w : Int32} {v : Nat} {x : Int32} (h : owned A v x k w = true) : rd A v x 24 = w ∧ rd A v x 23 = k ∧ rd A v x 25 = 0 := of_decide_eq_true h
theorem stay_lt (H : JJ B) (hc : c < 8) {o : Nat} (h60 : o < 60) {k : Int32} (h : stay B (3 + c) (zn o) k = true) : o < nv B (3 + c) :=
  vw_lt H hc h60 (s := 25) (by decide) (by
    have := (stay_s h).2
    rw [show rd B (3 + c) (zn o) (zn 25) = 0 from this]; decide)
/-- each controller's serving -/
theorem KS0 (H : JJ B) {o : Nat} (h60 : o < 60) : KJ B (dS0 B B o).2 := by
  have K : KJ B B := ⟨H, Xt_refl B⟩
  have hc : 0 < 8 := by decide
  unfold dS0
  cases c1 : stay B 3 (zn o) 0
  · exact K
  cases !decide (rd B 3 (zn o) 4 = 1)
  · exact K
  have ho := stay_lt H hc h60 c1
  have k1 := (stay_s c1).1
  cases c3 : newSet B 3 (nv B 3) (zn o) with
  | none => exact s_mk H K hc (k := 1) ho (Or.inl ⟨rfl, k1⟩)
  | some s =>
    have s1 : s < nv B (3 + 0) := newSet_lt c3
    show KJ B (dS0b B B o s).2
    unfold dS0b
    cases !decide (rd B 3 (zn s) 0 ≤ rd B 3 (zn o) 0)
    · cases !decide (rd B 3 (zn o) 0 ≤ rd B 3 (zn s) 0) && !decide (rd B 3 (zn o) 0 + rd B 3 (zn o) 2 - wTog B (zn o) ≤ 0)
      · cases c6 : otSet B (zn o) (zn s) with
        | none => simp only [cond_false, c6]; exact K
        | some t =>
          simp only [cond_false, c6]
          exact s_want H K hc (zfst_some c6).1 _
      · exact s_want H K hc s1 _
    · exact s_want H K hc s1 _
theorem KS1 (H : JJ B) (hc : c < 8) {o : Nat} (h60 : o < 60) (h0 : stay B (3 + c) (zn o) (B.1 (3 + c) 5) = true → 0 ≤ (rd B (3 + c) (zn o) 0).toInt) (hk : B.1 (3 + c) 5 = 1 ∨ B.1 (3 + c) 5 = 3) : KJ B (dS1 B B c o).2 := by
  have K : KJ B B := ⟨H, Xt_refl B⟩
  unfold dS1
  cases c0 : stay B (3 + c) (zn o) (B.1 (3 + c) 5)
  · exact K
  have h0 := h0 c0
  have ho := stay_lt H hc h60 c0
  have k1 := (stay_s c0).1
  have hk2 : rd B (3 + c) (zn o) 23 = 1 ∨ rd B (3 + c) (zn o) 23 = 3 := by rw [k1]; exact hk
  have mk : KJ B (aMk B c o 2).2 := s_mk H K hc (k := 2) ho (Or.inr ⟨rfl, hk2⟩)
  cases decide (B.1 (3 + c) 5 = 1)
  · show KJ B (dJob B B c o).2
    unfold dJob
    cases !decide (rd B (3 + c) (zn o) 0 ≤ zn (dnP B (3 + c) (zn o) (nv B (3 + c))) + zn (acP B (3 + c) (zn o) (nv B (3 + c)))) && !decide (rd B (3 + c) (zn o) 10 ≤ zn (acP B (3 + c) (zn o) (nv B (3 + c))))
    · exact K
    · exact mk
  · show KJ B (dSet B B c o).2
    unfold dSet
    cases c1 : ovP B (3 + c) (zn o) with
    | some p => exact s_rem H K hc (zfst_some c1).1
    | none =>
      cases !decide (rd B (3 + c) (zn o) 0 ≤ zn (cntP B (3 + c) (zn o)))
      · by_cases c3 : zn (cntP B (3 + c) (zn o)) ≤ rd B (3 + c) (zn o) 0
        · simp only [decide_eq_true c3, Bool.not_true, cond_false]; exact K
        · simp only [decide_eq_false c3, Bool.not_false, cond_true, cond_false]
          refine s_rem H K hc ?_
          rcases ptm_in B (3 + c) (zn o) (nv B (3 + c)) with ⟨-, q⟩ | ⟨k, q1, q2⟩
          · refine absurd ?_ c3
            rw [show cntP B (3 + c) (zn o) = 0 from q, Int32.le_iff_toInt_le]
            exact h0
          · have := (H.1.1.2.2 c hc).1.2.1.2
            rw [q2, zn_ix (by omega)]; exact q1
      · exact mk
theorem cond_cs {α : Type} {b : Bool} {x y z : α} (h : (bif b then x else y) = z) : (b = true ∧ x = z) ∨ (b = false ∧ y = z) := by
  cases b
  · exact Or.inr ⟨rfl, h⟩
  · exact Or.inl ⟨rfl, h⟩
theorem bst_op {w nd : Int32} : ∀ {n k : Nat}, bst A w nd n = some k → opn A (zn k) = true
  | 0, _, h => by cases h
  | n + 1, k, h => by
    rw [bst_s] at h
    rcases cond_cs h with ⟨c, h⟩ | ⟨-, h⟩
    · cases h
      exact (Bool.and_eq_true_iff.mp c).1
    · exact bst_op h
theorem cv_nv {o k : Nat} (hn : nv A 6 ≤ 60) (hR2 : zz_ix (rnk A (zn o)) ≤ 60) (V : Nat → Int32) : (cv A o k V).1 = -1 ∨ ∃ m, m ≤ 60 ∧ (cv A o k V).1 = zn m ∧ ∀ j, j < m → ∃ p, p < nv A 6 ∧ (cv A o k V).2 j = zn p := by
  unfold cv
  have hI := vout_inv (A := A) (nd := zn k) (n := nv A 6) (s := (znd (rd A 6 (zn o) 1) - lft A k, 0, V)) rfl (zz_ix (rnk A (zn o))) (by omega)
  generalize vout A (zn k) (nv A 6) (zz_ix (rnk A (zn o))) (znd (rd A 6 (zn o) 1) - lft A k, 0, V) = s at hI ⊢
  by_cases c1 : s.1 ≤ 0
  · rw [if_pos c1]
    refine Or.inr ⟨s.2.1, Nat.le_trans hI.1 (Nat.le_trans (vK_le _ _ _ _) hn), rfl, fun j hj => ?_⟩
    obtain ⟨p, hp, e⟩ := hI.2 j hj
    exact ⟨p, hp, e⟩
  · rw [if_neg c1]; exact Or.inl rfl
theorem pre_nv {o : Nat} (hn : nv A 6 ≤ 60) (hR2 : zz_ix (rnk A (zn o)) ≤ 60) (V : Nat → Int32) : (pre A o V).1 = -1 ∨ ∃ m, m ≤ 60 ∧ (pre A o V).1 = zn m ∧ ∀ j, j < m → ∃ p, p < nv A 6 ∧ (pre A o V).2 j = zn p := by
  unfold pre
  by_cases c1 : (pst A o (nv A 6) V).1 = -1
  · rw [if_pos c1]; exact Or.inr ⟨0, by decide, rfl, fun j hj => absurd hj (Nat.not_lt_zero j)⟩
  · rw [if_neg c1]; exact cv_nv hn hR2 _
theorem JJ_V {V : Nat → Int32} (H : JJ A) : JJ (setV A V) := by
  obtain ⟨⟨a, l2, l3, l4, l5, l6⟩, c⟩ := H
  refine ⟨⟨zIC_V71.mpr a, l2, l3, l4, l5, fun d hd => ?_⟩, c⟩
  obtain ⟨v1, v2, v3⟩ := l6 d hd
  have f0 : ∀ p q, p ≠ 71 → (setV A V).1 p q = A.1 p q := fun p q h => if_neg h
  have f1 : ve (setV A V) (3 + d) = ve A (3 + d) := by unfold ve; rw [f0 _ _ (by omega)]
  have f2 : nv (setV A V) (3 + d) = nv A (3 + d) := by unfold nv; rw [f0 _ _ (by omega)]
  rw [f1, f2]
  exact ⟨v1, v2, fun q hq => (f0 _ _ (by omega)).trans (v3 q hq)⟩
theorem Xt_V {V : Nat → Int32} : Xt A (setV A V) := by
  have f0 : ∀ p q, p ≠ 71 → (setV A V).1 p q = A.1 p q := fun p q h => if_neg h
  obtain ⟨a, b, c, d⟩ := Xt_refl A
  exact ⟨a, b, fun k hk q => ⟨f0 _ _ (by omega), f0 _ _ (by omega), f0 _ _ (by omega), f0 _ _ (by omega)⟩, d⟩
theorem KS3 (H : JJ B) {o : Nat} (h60 : o < 60) (hR2 : zz_ix (rnk B (zn o)) ≤ 60) : KJ B (dS3 B B o).2 := by
  have K : KJ B B := ⟨H, Xt_refl B⟩
  have hc : 3 < 8 := by decide
  have hn : nv B 6 ≤ 60 := (H.1.1.2.2 3 hc).1.2.1.2
  unfold dS3
  cases c1 : wops B 6 (zn o)
  · exact K
  have c1' := c1
  unfold wops at c1'
  have st := (Bool.and_eq_true_iff.mp c1').1
  have ho : o < nv B (3 + 3) := stay_lt H hc h60 st
  cases c2 : bst B (rd B 6 (zn o) 24) (znd (rd B 6 (zn o) 1)) (nv B 6) with
  | some k =>
    have k1 := bst_lt c2
    have k2 := bst_op c2
    unfold opn at k2
    have k3 := (stay_s (Bool.and_eq_true_iff.mp k2).1).1
    have k4 : row B k 23 = 4 := (vw_kind H.1 hc (o := k) k1).symm.trans k3
    exact s_set H K hc ho fun _ => ok_28 H (KJ_lt H K hc ho) (KJ_lt H K hc k1) k4
  | none =>
    refine acts_inv (I := KJ B) (fun j hj A hA => ?_) (show KJ B (setV B _) from ⟨JJ_V H, Xt_V⟩)
    have hin := pre_nv (A := B) (o := o) hn hR2 (B.1 71)
    unfold cntV at hj
    rcases hin with h1 | ⟨m, m1, m2, m3⟩
    · rw [if_pos h1] at hj; exact absurd hj (Nat.not_lt_zero j)
    · rw [m2, if_neg (by rw [zn_m1 (by omega)]; exact fun z => z), zn_ix (by omega)] at hj
      obtain ⟨p, p1, p2⟩ := m3 j hj
      rw [p2, zn_ix (by omega)]
      exact s_rem H hA hc p1
theorem KS4 (H : JJ B) {o : Nat} (h60 : o < 60) : KJ B (dS4 B B o).2 := by
  have K : KJ B B := ⟨H, Xt_refl B⟩
  have hc : 4 < 8 := by decide
  unfold dS4
  cases c1 : decide (rd B 7 (zn o) 23 = 2) && (!gone B 7 (zn o) && !decide (rd B 7 (zn o) 28 = -1))
  · exact K
  obtain ⟨d1, d2⟩ := Bool.and_eq_true_iff.mp c1
  obtain ⟨d2, d3⟩ := Bool.and_eq_true_iff.mp d2
  have d1 := of_decide_eq_true d1
  have d3 : ¬ rd B 7 (zn o) 28 = -1 := fun z => by rw [decide_eq_true z] at d3; cases d3
  have ho : o < nv B (3 + 4) := vw_lt H hc h60 (s := 28) (by decide) (by rw [if_neg (by decide)]; exact d3)
  have set : ∀ v, KJ B (aSet B 4 o 29 v).2 := fun v => s_set H K hc ho fun u => ok_29 H (KJ_lt H K hc ho) v (Or.inl (by rw [KJ_utd H K hc h60 u (by decide)]; exact d3))
  cases c2 : !decide (rd B 7 (zn o) 25 = 0)
  · cases lostN B (rd B 7 (zn o) 28) && (decide (rd B 7 (zn o) 29 = 0) || decide (rd B 7 (zn o) 29 = 1))
    · cases decide (rd B 7 (zn o) 29 = 0)
      · exact K
      · exact set _
    · exact set _
  · have d4 : ¬ rd B 7 (zn o) 25 = 0 := fun z => by rw [decide_eq_true z] at c2; cases c2
    show KJ B (aClr B B o).2
    unfold aClr
    cases utd B 4 o
    · exact K
    · refine KJ_c K (J_wr H (KJ_lt H K hc ho) (ok_2825 H (KJ_lt H K hc ho) ?_))
      by_cases q : rd B 7 (zn o) 26 = 1
      · rw [if_pos q]; exact d4
      · rw [if_neg q]; decide
theorem KS5 (H : JJ B) {o : Nat} (h60 : o < 60) : KJ B (dS5 B B o).2 := by
  have K : KJ B B := ⟨H, Xt_refl B⟩
  have hc : 5 < 8 := by decide
  unfold dS5
  by_cases c0 : rd B 8 (zn o) 25 = 4
  · rw [decide_eq_true c0]; exact K
  rw [decide_eq_false c0]
  have ho : o < nv B (3 + 5) := vw_lt H hc h60 (s := 25) (by decide) (by rw [if_pos rfl]; exact c0)
  cases decide (rd B 8 (zn o) 25 = 0)
  · cases !decide (rd B 8 (zn o) 25 = 2) && own1 B (zn o)
    · cases kept B 8 (zn o)
      · exact s_set H K hc ho fun _ => ok_25 H (KJ_lt H K hc ho) (by decide)
      · exact K
    · cases decide (rd B 8 (zn o) 25 = 1)
      · refine acts_inv (I := KJ B) (fun i hi A hA => ?_) K
        unfold actO
        cases decide (rd B 8 (zn i) 24 = zn o)
        · exact hA
        · exact s_set H hA hc hi fun _ => ok_24 hA.1 (KJ_lt H hA hc hi)
      · refine acts_inv (I := KJ B) (fun i hi A hA => ?_) K
        unfold actD
        cases decide (rd B 8 (zn i) 24 = zn o) && decide (rd B 8 (zn i) 25 = 0)
        · exact hA
        · exact s_set H hA hc hi fun _ => ok_25 hA.1 (KJ_lt H hA hc hi) (by decide)
  · cases !decide (rd B 8 (zn o) 24 = -1) && gone B 8 (rd B 8 (zn o) 24)
    · exact K
    · exact s_rem H K hc ho
theorem KS6 (H : JJ B) {o : Nat} (h60 : o < 60) : KJ B (dS6 B B o).2 := by
  have K : KJ B B := ⟨H, Xt_refl B⟩
  have hc : 6 < 8 := by decide
  unfold dS6
  cases c1 : stay B 9 (zn o) 5 && !(decide (pLow B o = rd B 9 (zn o) 30) && decide (pHigh B o = rd B 9 (zn o) 31))
  · exact K
  have ho : o < nv B (3 + 6) := stay_lt H hc h60 (Bool.and_eq_true_iff.mp c1).1
  show KJ B (bif utd B 6 o then aCh2 B o 30 (pLow B o) 31 (pHigh B o) else (false, B)).2
  cases utd B 6 o
  · exact K
  · exact KJ_c K (J_wr H (KJ_lt H K hc ho) (ok_30 H (KJ_lt H K hc ho) _ _))
theorem KJ_o {a k : Nat} {x : Int32} (h : KJ B A) (W : zIC (zz_sI A a k x)) (ha : a = 67 ∨ a = 72 ∨ ∃ c, c < 8 ∧ (a = 24 + 6 * c ∨ a = 25 + 6 * c ∨ a = 26 + 6 * c)) : KJ B (zz_sI A a k x) := by
  have hne : ∀ b, b ≤ 23 ∨ (∃ c, c < 8 ∧ (b = 21 + 6 * c ∨ b = 22 + 6 * c ∨ b = 23 + 6 * c)) → b ≠ a := fun b h => by
    rcases ha with h1 | h1 | ⟨c, h2, h1⟩ <;> rcases h with h3 | ⟨c', h4, h3⟩ <;> omega
  have g : ∀ b q, (b ≤ 23 ∨ (∃ c, c < 8 ∧ (b = 21 + 6 * c ∨ b = 22 + 6 * c ∨ b = 23 + 6 * c))) → (zz_sI A a k x).1 b q = A.1 b q := fun b q h => sI_a (hne b h)
  obtain ⟨⟨⟨-, l2, l3, l4, l5, l6⟩, j2, j3, j4⟩, x1, x2, x3, x4⟩ := h
  have g14 : (zz_sI A a k x).1 14 = A.1 14 := funext fun q => g 14 q (Or.inl (by decide))
  have g15 : (zz_sI A a k x).1 15 = A.1 15 := funext fun q => g 15 q (Or.inl (by decide))
  have g1 : (zz_sI A a k x).1 1 = A.1 1 := funext fun q => g 1 q (Or.inl (by decide))
  have g2 : (zz_sI A a k x).1 2 = A.1 2 := funext fun q => g 2 q (Or.inl (by decide))
  have o1 : obj (zz_sI A a k x) = obj A := by funext i; unfold obj; rw [g14]
  have o2 : lg (zz_sI A a k x) = lg A := by funext i s; unfold lg; rw [g14]
  have o3 : row (zz_sI A a k x) = row A := by funext i s; unfold row lv; rw [g14, g15]
  have o4 : ∀ v, v ≤ 23 → ve (zz_sI A a k x) v = ve A v ∧ nv (zz_sI A a k x) v = nv A v := fun v hv => by unfold ve nv; rw [g v 3 (Or.inl hv), g v 2 (Or.inl hv)]; exact ⟨rfl, rfl⟩
  have o5 : nr (zz_sI A a k x) = nr A ∧ nc (zz_sI A a k x) = nc A := by unfold nr nc; rw [g2]; exact ⟨rfl, rfl⟩
  have o6 : jrow (zz_sI A a k x) = jrow A := by funext D; unfold jrow; rw [(o4 1 (by decide)).2, o3]
  refine ⟨⟨⟨W, ?_, ?_, ?_, ?_, fun c hc => ?_⟩, by rw [o5.1, o5.2]; exact j2, ?_, ?_⟩, by rw [(o4 1 (by decide)).1, (o4 1 (by decide)).2]; exact x1, ?_, fun c hc b => ?_, ?_⟩
  · rw [(o4 1 (by decide)).1, o1, o2]; exact l2
  · rw [o2]; exact l3
  · rw [(o4 1 (by decide)).1, (o4 1 (by decide)).2, o1, g15]; exact l4
  · rw [(o4 1 (by decide)).1, o1, o2]; exact l5
  · rw [(o4 1 (by decide)).1, (o4 (3 + c) (by omega)).1, (o4 (3 + c) (by omega)).2, o1]
    obtain ⟨a1, a2, a3⟩ := l6 c hc
    exact ⟨a1, a2, fun o ho => (g _ _ (Or.inr ⟨c, hc, Or.inl rfl⟩)).trans (a3 o ho)⟩
  · rw [(o4 1 (by decide)).1, o2, o6]; exact j3
  · rw [(o4 1 (by decide)).1, o1, o2]; exact j4
  · rw [o1, o2]; exact x2
  · obtain ⟨a1, a2, a3, a4⟩ := x3 c hc b
    exact ⟨(g _ _ (Or.inl (by omega))).trans a1, (g _ _ (Or.inr ⟨c, hc, Or.inl rfl⟩)).trans a2, (g _ _ (Or.inr ⟨c, hc, Or.inr (Or.inl rfl)⟩)).trans a3, (g _ _ (Or.inr ⟨c, hc, Or.inr (Or.inr rfl)⟩)).trans a4⟩
  · rw [o3]; exact x4
theorem KS7 (H : JJ B) {o : Nat} (h60 : o < 60) : KJ B (dS7 B B o).2 := by
  have K : KJ B B := ⟨H, Xt_refl B⟩
  have hc : 7 < 8 := by decide
  unfold dS7
  cases c1 : stay B 10 (zn o) 0 && decide (0 < rd B 10 (zn o) 5)
  · exact K
  have ho : o < nv B (3 + 7) := stay_lt H hc h60 (Bool.and_eq_true_iff.mp c1).1
  cases !decide (rd B 10 (zn o) 0 ≤ goalS B o) && earlyS B o
  · show KJ B (aScal (aWant B 7 o (goalS B o)) (B.1 1 3) o).2
    unfold aScal
    have h1 := s_want H K hc ho (goalS B o)
    cases decide ((aWant B 7 o (goalS B o)).2.1 1 3 ≤ B.1 1 3)
    · exact KJ_o h1 ((zIC_72 (by decide)).mpr h1.1.1.1) (Or.inr (Or.inl rfl))
    · exact h1
  · exact KJ_o K (zIC_fdw (c := 7) (by decide) (Or.inr (Or.inl rfl)) H.1.1) (Or.inl rfl)
theorem KSv (H : JJ B) (hc : c < 8) {o : Nat} (h60 : o < 60) (hS : zSv c B o) (hk : B.1 (3 + c) 5 = okd c) : KJ B (dSv c B B o).2 := by
  obtain ⟨h0, hR, -⟩ := hS
  rcases zc8 hc with rfl | rfl | rfl | rfl | rfl | rfl | rfl | rfl
  · exact KS0 H h60
  · exact KS1 H (by decide) h60 h0 (Or.inl hk)
  · exact KS1 H (by decide) h60 h0 (Or.inr hk)
  · exact KS3 H h60 hR.2
  · exact KS4 H h60
  · exact KS5 H h60
  · exact KS6 H h60
  · exact KS7 H h60
end
end

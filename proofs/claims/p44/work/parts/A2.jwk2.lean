section
/-! a controller works once: all of it -/
section
variable {A B T R : zzMd} {c : Nat}
/-- what a serving may leave: no new object, or one, by one event -/
def NS (T A : zzMd) : Prop := nv A 1 = nv T 1 ∨ (nv A 1 = nv T 1 + 1 ∧ ve A 1 = ve T 1 + 1)
theorem nvp_Wr {o : Nat} (D : Nat → Int32) (H : JJ A) (ho : o < nv A 1) : nv (aWr A o D).2 1 = nv A 1 := nv_Wr D ho (Lg_n60 H.1).1
theorem nvp_Ap {o : Nat} {m f x : Int32} (H : JJ A) (ho : o < nv A 1) : nv (aAp A m o f x).2 1 = nv A 1 := by
  unfold aAp
  cases hasF (row A o 23) f
  · rfl
  · show nv (aAd A o _).2 1 = nv A 1
    rw [Ad_0 H]
    by_cases h : dUp (dUp (row A o) (zz_ix f) x) (11 + zz_ix f) m 23 = 0 ∧ dUp (dUp (row A o) (zz_ix f) x) (11 + zz_ix f) m 2 = 0 ∧ dUp (dUp (row A o) (zz_ix f) x) (11 + zz_ix f) m 3 = 0
    · rw [if_pos h]
    · rw [if_neg h]; exact nvp_Wr _ H ho
def KN (B A : zzMd) : Prop := KJ B A ∧ nv A 1 = nv B 1
theorem n_want (H : JJ B) (K : KN B A) (hc : c < 8) {o : Nat} (ho : o < nv B (3 + c)) (x : Int32) : KN B (aWant A c o x).2 := by
  refine ⟨s_want H K.1 hc ho x, ?_⟩
  unfold aWant
  cases decide (rd A (3 + c) (zn o) 0 = x)
  · cases utd A c o
    · exact K.2
    · exact (nvp_Ap K.1.1 (KJ_lt H K.1 hc ho)).trans K.2
  · exact K.2
theorem n_rem (H : JJ B) (K : KN B A) (hc : c < 8) {o : Nat} (ho : o < nv B (3 + c)) : KN B (aRem A c o).2 := by
  refine ⟨s_rem H K.1 hc ho, ?_⟩
  unfold aRem
  cases utd A c o
  · exact K.2
  · exact (nvp_Wr _ K.1.1 (KJ_lt H K.1 hc ho)).trans K.2
theorem n_set (H : JJ B) (K : KN B A) (hc : c < 8) {o k : Nat} {x : Int32} (ho : o < nv B (3 + c)) : nv (aSet A c o k x).2 1 = nv B 1 := by
  unfold aSet
  cases decide (rd A (3 + c) (zn o) (zn k) = x)
  · cases utd A c o
    · exact K.2
    · exact (nvp_Wr _ K.1.1 (KJ_lt H K.1 hc ho)).trans K.2
  · exact K.2
theorem n_mk (H : JJ B) (hc : c < 8) {o k : Nat} (ho : o < nv B (3 + c)) (hk : (zn k = 1 ∧ rd B (3 + c) (zn o) 23 = 0) ∨ (zn k = 2 ∧ (rd B (3 + c) (zn o) 23 = 1 ∨ rd B (3 + c) (zn o) 23 = 3))) : NS B (aMk B c o (zn k)).2 := by
  have K : KJ B B := ⟨H, Xt_refl B⟩
  have e := KJ_kind H K hc ho
  have hn := (Lg_n60 H.1).1
  show NS B (aOpen B 4 (zn k) (zn o) (rd B (3 + c) (zn o) 1)).2
  rcases Open_0 H (m := 4) (k := k) (w := zn o) (rd B (3 + c) (zn o) 1) (by decide) (Or.inr ⟨o, KJ_lt H K hc ho, rfl, by rw [e]; exact hk⟩) with ⟨q, -⟩ | ⟨q, h6, he⟩
  · have q' : aOpen B 4 (zn k) (zn o) (rd B (3 + c) (zn o) 1) = (-1, B) := q
    rw [q']; exact Or.inl rfl
  · have q' : aOpen B 4 (zn k) (zn o) (rd B (3 + c) (zn o) 1) = _ := q
    rw [q']
    refine Or.inr ⟨?_, ?_⟩
    · show nv (put B (nv B 1) (dNew (zn 4) (zn k) (zn o) (rd B (3 + c) (zn o) 1) (nv B 1))) 1 = _
      rw [put_nv h6 hn]
      exact Nat.max_eq_right (Nat.le_succ _)
    · show ve (put B (nv B 1) (dNew (zn 4) (zn k) (zn o) (rd B (3 + c) (zn o) 1) (nv B 1))) 1 = _
      rw [put_ve he]
theorem NS1 (H : JJ B) (hc : c < 8) {o : Nat} (h60 : o < 60) (h0 : stay B (3 + c) (zn o) (B.1 (3 + c) 5) = true → 0 ≤ (rd B (3 + c) (zn o) 0).toInt) (hk : B.1 (3 + c) 5 = 1 ∨ B.1 (3 + c) 5 = 3) : NS B (dS1 B B c o).2 := by
  have K : KN B B := ⟨⟨H, Xt_refl B⟩, rfl⟩
  have z : NS B B := Or.inl rfl
  unfold dS1
  cases c0 : stay B (3 + c) (zn o) (B.1 (3 + c) 5)
  · exact z
  have h0 := h0 c0
  have ho := stay_lt H hc h60 c0
  have k1 := (stay_s c0).1
  have hk2 : rd B (3 + c) (zn o) 23 = 1 ∨ rd B (3 + c) (zn o) 23 = 3 := by rw [k1]; exact hk
  have mk : NS B (aMk B c o 2).2 := n_mk H hc (k := 2) ho (Or.inr ⟨rfl, hk2⟩)
  cases decide (B.1 (3 + c) 5 = 1)
  · show NS B (dJob B B c o).2
    unfold dJob
    cases !decide (rd B (3 + c) (zn o) 0 ≤ zn (dnP B (3 + c) (zn o) (nv B (3 + c))) + zn (acP B (3 + c) (zn o) (nv B (3 + c)))) && !decide (rd B (3 + c) (zn o) 10 ≤ zn (acP B (3 + c) (zn o) (nv B (3 + c))))
    · exact z
    · exact mk
  · show NS B (dSet B B c o).2
    unfold dSet
    cases c1 : ovP B (3 + c) (zn o) with
    | some p => exact Or.inl (n_rem H K hc (zfst_some c1).1).2
    | none =>
      cases !decide (rd B (3 + c) (zn o) 0 ≤ zn (cntP B (3 + c) (zn o)))
      · by_cases c3 : zn (cntP B (3 + c) (zn o)) ≤ rd B (3 + c) (zn o) 0
        · simp only [decide_eq_true c3, Bool.not_true, cond_false]; exact z
        · simp only [decide_eq_false c3, Bool.not_false, cond_true, cond_false]
          refine Or.inl (n_rem H K hc ?_).2
          rcases ptm_in B (3 + c) (zn o) (nv B (3 + c)) with ⟨-, q⟩ | ⟨k, q1, q2⟩
          · refine absurd ?_ c3
            rw [show cntP B (3 + c) (zn o) = 0 from q, Int32.le_iff_toInt_le]
            exact h0
          · have := (H.1.1.2.2 c hc).1.2.1.2
            rw [q2, zn_ix (by omega)]; exact q1
      · exact mk
theorem out1 (c o : Nat) (T : zzMd) : (dS1 T T c o).1 = 1 ∨ (dS1 T T c o).1 = 3 ∨ ((dS1 T T c o).1 = 2 ∧ (dS1 T T c o).2 = zz_sI T 67 o (T.1 72 o + 10)) := by
  have q' : ∀ p : Bool × zzMd, (oc2 p).1 = 1 ∨ (oc2 p).1 = 3 ∨ ((oc2 p).1 = 2 ∧ (oc2 p).2 = zz_sI T 67 o (T.1 72 o + 10)) := fun p => by
    obtain ⟨b, X⟩ := p
    cases b
    · exact Or.inr (Or.inl rfl)
    · exact Or.inl rfl
  unfold dS1
  cases stay T (3 + c) (zn o) (T.1 (3 + c) 5)
  · exact Or.inl rfl
  · cases decide (T.1 (3 + c) 5 = 1)
    · show (dJob T T c o).1 = 1 ∨ (dJob T T c o).1 = 3 ∨ ((dJob T T c o).1 = 2 ∧ (dJob T T c o).2 = _)
      unfold dJob
      cases !decide (rd T (3 + c) (zn o) 0 ≤ zn (dnP T (3 + c) (zn o) (nv T (3 + c))) + zn (acP T (3 + c) (zn o) (nv T (3 + c)))) && !decide (rd T (3 + c) (zn o) 10 ≤ zn (acP T (3 + c) (zn o) (nv T (3 + c))))
      · exact Or.inl rfl
      · exact q' _
    · show (dSet T T c o).1 = 1 ∨ (dSet T T c o).1 = 3 ∨ ((dSet T T c o).1 = 2 ∧ (dSet T T c o).2 = _)
      unfold dSet
      cases ovP T (3 + c) (zn o) with
      | some p => exact q' _
      | none =>
        cases !decide (rd T (3 + c) (zn o) 0 ≤ zn (cntP T (3 + c) (zn o)))
        · cases !decide (zn (cntP T (3 + c) (zn o)) ≤ rd T (3 + c) (zn o) 0)
          · exact Or.inl rfl
          · exact q' _
        · exact q' _
theorem NS_Sv (H : JJ B) (hc : c < 8) {o : Nat} (h60 : o < 60) (hS : zSv c B o) (hk : B.1 (3 + c) 5 = okd c) : NS B (dSv c B B o).2 := by
  have K : KN B B := ⟨⟨H, Xt_refl B⟩, rfl⟩
  have z : NS B B := Or.inl rfl
  obtain ⟨h0, hR, -⟩ := hS
  rcases zc8 hc with rfl | rfl | rfl | rfl | rfl | rfl | rfl | rfl
  · show NS B (dS0 B B o).2
    unfold dS0
    cases c1 : stay B 3 (zn o) 0
    · exact z
    cases !decide (rd B 3 (zn o) 4 = 1)
    · exact z
    have ho := stay_lt (c := 0) H (by decide) h60 c1
    cases c3 : newSet B 3 (nv B 3) (zn o) with
    | none => exact n_mk H (k := 1) (by decide) ho (Or.inl ⟨rfl, (stay_s c1).1⟩)
    | some s =>
      have s1 : s < nv B (3 + 0) := newSet_lt c3
      refine Or.inl ?_
      show nv (dS0b B B o s).2 1 = nv B 1
      unfold dS0b
      cases !decide (rd B 3 (zn s) 0 ≤ rd B 3 (zn o) 0)
      · cases !decide (rd B 3 (zn o) 0 ≤ rd B 3 (zn s) 0) && !decide (rd B 3 (zn o) 0 + rd B 3 (zn o) 2 - wTog B (zn o) ≤ 0)
        · cases c6 : otSet B (zn o) (zn s) with
          | none => simp only [cond_false, c6]
          | some t =>
            simp only [cond_false, c6]
            exact (n_want (c := 0) H K (by decide) (zfst_some c6).1 _).2
        · exact (n_want (c := 0) H K (by decide) s1 _).2
      · exact (n_want (c := 0) H K (by decide) s1 _).2
  · exact NS1 H (by decide) h60 h0 (Or.inl hk)
  · exact NS1 H (by decide) h60 h0 (Or.inr hk)
  · show NS B (dS3 B B o).2
    have hn : nv B 6 ≤ 60 := (H.1.1.2.2 3 (by decide)).1.2.1.2
    unfold dS3
    cases c1 : wops B 6 (zn o)
    · exact z
    have c1' := c1
    unfold wops at c1'
    have ho : o < nv B (3 + 3) := stay_lt (c := 3) H (by decide) h60 (Bool.and_eq_true_iff.mp c1').1
    cases c2 : bst B (rd B 6 (zn o) 24) (znd (rd B 6 (zn o) 1)) (nv B 6) with
    | some k => exact Or.inl (n_set (c := 3) H K (by decide) ho)
    | none =>
      refine Or.inl (acts_inv (I := KN B) (fun j hj A hA => ?_) (show KN B (setV B _) from ⟨⟨JJ_V H, Xt_V⟩, rfl⟩)).2
      have hin := pre_nv (A := B) (o := o) hn hR.2 (B.1 71)
      unfold cntV at hj
      rcases hin with h1 | ⟨m, m1, m2, m3⟩
      · rw [if_pos h1] at hj; exact absurd hj (Nat.not_lt_zero j)
      · rw [m2, if_neg (by rw [zn_m1 (by omega)]; exact fun z => z), zn_ix (by omega)] at hj
        obtain ⟨p, p1, p2⟩ := m3 j hj
        rw [p2, zn_ix (by omega)]
        exact n_rem (c := 3) H hA (by decide) p1
  · show NS B (dS4 B B o).2
    unfold dS4
    cases c1 : decide (rd B 7 (zn o) 23 = 2) && (!gone B 7 (zn o) && !decide (rd B 7 (zn o) 28 = -1))
    · exact z
    obtain ⟨d1, d2⟩ := Bool.and_eq_true_iff.mp c1
    have d1 := of_decide_eq_true d1
    have ho : o < nv B (3 + 4) := vw_lt (c := 4) H (by decide) h60 (s := 23) (by decide) (by rw [if_neg (by decide)]; exact fun z => absurd (d1.symm.trans z) (by decide))
    cases !decide (rd B 7 (zn o) 25 = 0)
    · cases lostN B (rd B 7 (zn o) 28) && (decide (rd B 7 (zn o) 29 = 0) || decide (rd B 7 (zn o) 29 = 1))
      · cases decide (rd B 7 (zn o) 29 = 0)
        · exact z
        · exact Or.inl (n_set (c := 4) H K (by decide) ho)
      · exact Or.inl (n_set (c := 4) H K (by decide) ho)
    · show NS B (aClr B B o).2
      unfold aClr
      cases utd B 4 o
      · exact z
      · exact Or.inl (nvp_Wr _ H (KJ_lt (c := 4) H K.1 (by decide) ho))
  · show NS B (dS5 B B o).2
    unfold dS5
    by_cases c0 : rd B 8 (zn o) 25 = 4
    · rw [decide_eq_true c0]; exact z
    rw [decide_eq_false c0]
    have ho : o < nv B (3 + 5) := vw_lt (c := 5) H (by decide) h60 (s := 25) (by decide) (by rw [if_pos rfl]; exact c0)
    cases decide (rd B 8 (zn o) 25 = 0)
    · cases !decide (rd B 8 (zn o) 25 = 2) && own1 B (zn o)
      · cases kept B 8 (zn o)
        · exact Or.inl (n_set (c := 5) H K (by decide) ho)
        · exact z
      · cases decide (rd B 8 (zn o) 25 = 1)
        · refine Or.inl (acts_inv (I := KN B) (fun i hi A hA => ?_) K).2
          unfold actO
          cases decide (rd B 8 (zn i) 24 = zn o)
          · exact hA
          · exact ⟨s_set (c := 5) H hA.1 (by decide) hi fun _ => ok_24 hA.1.1 (KJ_lt (c := 5) H hA.1 (by decide) hi), n_set (c := 5) H hA (by decide) hi⟩
        · refine Or.inl (acts_inv (I := KN B) (fun i hi A hA => ?_) K).2
          unfold actD
          cases decide (rd B 8 (zn i) 24 = zn o) && decide (rd B 8 (zn i) 25 = 0)
          · exact hA
          · exact ⟨s_set (c := 5) H hA.1 (by decide) hi fun _ => ok_25 hA.1.1 (KJ_lt (c := 5) H hA.1 (by decide) hi) (by decide), n_set (c := 5) H hA (by decide) hi⟩
    · cases !decide (rd B 8 (zn o) 24 = -1) && gone B 8 (rd B 8 (zn o) 24)
      · exact z
      · exact Or.inl (n_rem (c := 5) H K (by decide) ho).2
  · show NS B (dS6 B B o).2
    unfold dS6
    cases c1 : stay B 9 (zn o) 5 && !(decide (pLow B o = rd B 9 (zn o) 30) && decide (pHigh B o = rd B 9 (zn o) 31))
    · exact z
    have ho : o < nv B (3 + 6) := stay_lt (c := 6) H (by decide) h60 (Bool.and_eq_true_iff.mp c1).1
    show NS B (bif utd B 6 o then aCh2 B o 30 (pLow B o) 31 (pHigh B o) else (false, B)).2
    cases utd B 6 o
    · exact z
    · exact Or.inl (nvp_Wr _ H (KJ_lt (c := 6) H K.1 (by decide) ho))
  · show NS B (dS7 B B o).2
    unfold dS7
    cases c1 : stay B 10 (zn o) 0 && decide (0 < rd B 10 (zn o) 5)
    · exact z
    have ho : o < nv B (3 + 7) := stay_lt (c := 7) H (by decide) h60 (Bool.and_eq_true_iff.mp c1).1
    cases !decide (rd B 10 (zn o) 0 ≤ goalS B o) && earlyS B o
    · have h1 := (n_want (c := 7) H K (by decide) ho (goalS B o)).2
      refine Or.inl ?_
      show nv (aScal (aWant B 7 o (goalS B o)) (B.1 1 3) o).2 1 = nv B 1
      unfold aScal
      cases decide ((aWant B 7 o (goalS B o)).2.1 1 3 ≤ B.1 1 3)
      · exact h1
      · exact h1
    · exact Or.inl rfl
/-- what a serving answers; PUT_OFF: nothing was written -/
theorem out_Sv (hc : c < 8) (o : Nat) (T : zzMd) : (dSv c T T o).1 = 1 ∨ (dSv c T T o).1 = 3 ∨ ((dSv c T T o).1 = 2 ∧ (dSv c T T o).2 = zz_sI T 67 o (T.1 72 o + 10)) := by
  have q : ∀ p : Bool × zzMd, (oc2 p).1 = 1 ∨ (oc2 p).1 = 3 := fun p => by
    obtain ⟨b, X⟩ := p
    cases b
    · exact Or.inr rfl
    · exact Or.inl rfl
  have q' : ∀ p : Bool × zzMd, (oc2 p).1 = 1 ∨ (oc2 p).1 = 3 ∨ ((oc2 p).1 = 2 ∧ (oc2 p).2 = zz_sI T 67 o (T.1 72 o + 10)) := fun p => (q p).imp id Or.inl
  rcases zc8 hc with rfl | rfl | rfl | rfl | rfl | rfl | rfl | rfl
  · show (dS0 T T o).1 = 1 ∨ (dS0 T T o).1 = 3 ∨ ((dS0 T T o).1 = 2 ∧ (dS0 T T o).2 = _)
    unfold dS0
    cases stay T 3 (zn o) 0 && !decide (rd T 3 (zn o) 4 = 1)
    · exact Or.inl rfl
    · cases newSet T 3 (nv T 3) (zn o) with
      | none => exact q' _
      | some s =>
        show (dS0b T T o s).1 = 1 ∨ (dS0b T T o s).1 = 3 ∨ ((dS0b T T o s).1 = 2 ∧ (dS0b T T o s).2 = _)
        unfold dS0b
        cases !decide (rd T 3 (zn s) 0 ≤ rd T 3 (zn o) 0)
        · cases !decide (rd T 3 (zn o) 0 ≤ rd T 3 (zn s) 0) && !decide (rd T 3 (zn o) 0 + rd T 3 (zn o) 2 - wTog T (zn o) ≤ 0)
          · cases otSet T (zn o) (zn s) with
            | none => exact Or.inl rfl
            | some t => exact q' _
          · exact q' _
        · exact q' _
  · exact out1 1 o T
  · exact out1 2 o T
  · show (dS3 T T o).1 = 1 ∨ (dS3 T T o).1 = 3 ∨ ((dS3 T T o).1 = 2 ∧ (dS3 T T o).2 = _)
    unfold dS3
    cases wops T 6 (zn o)
    · exact Or.inl rfl
    · cases bst T (rd T 6 (zn o) 24) (znd (rd T 6 (zn o) 1)) (nv T 6) with
      | some k => exact q' _
      | none => exact Or.inr (Or.inl rfl)
  · show (dS4 T T o).1 = 1 ∨ (dS4 T T o).1 = 3 ∨ ((dS4 T T o).1 = 2 ∧ (dS4 T T o).2 = _)
    unfold dS4
    cases decide (rd T 7 (zn o) 23 = 2) && (!gone T 7 (zn o) && !decide (rd T 7 (zn o) 28 = -1))
    · exact Or.inl rfl
    · cases !decide (rd T 7 (zn o) 25 = 0)
      · cases lostN T (rd T 7 (zn o) 28) && (decide (rd T 7 (zn o) 29 = 0) || decide (rd T 7 (zn o) 29 = 1))
        · cases decide (rd T 7 (zn o) 29 = 0)
          · exact Or.inl rfl
          · exact q' _
        · exact q' _
      · exact q' _
  · show (dS5 T T o).1 = 1 ∨ (dS5 T T o).1 = 3 ∨ ((dS5 T T o).1 = 2 ∧ (dS5 T T o).2 = _)
    unfold dS5
    cases decide (rd T 8 (zn o) 25 = 4)
    · cases decide (rd T 8 (zn o) 25 = 0)
      · cases !decide (rd T 8 (zn o) 25 = 2) && own1 T (zn o)
        · cases kept T 8 (zn o)
          · exact q' _
          · exact Or.inl rfl
        · cases decide (rd T 8 (zn o) 25 = 1)
          · exact q' _
          · exact q' _
      · cases !decide (rd T 8 (zn o) 24 = -1) && gone T 8 (rd T 8 (zn o) 24)
        · exact Or.inl rfl
        · exact q' _
    · exact Or.inl rfl
  · show (dS6 T T o).1 = 1 ∨ (dS6 T T o).1 = 3 ∨ ((dS6 T T o).1 = 2 ∧ (dS6 T T o).2 = _)
    unfold dS6
    cases stay T 9 (zn o) 5 && !(decide (pLow T o = rd T 9 (zn o) 30) && decide (pHigh T o = rd T 9 (zn o) 31))
    · exact Or.inl rfl
    · exact q' _
  · show (dS7 T T o).1 = 1 ∨ (dS7 T T o).1 = 3 ∨ ((dS7 T T o).1 = 2 ∧ (dS7 T T o).2 = _)
    unfold dS7
    cases stay T 10 (zn o) 0 && decide (0 < rd T 10 (zn o) 5)
    · exact Or.inl rfl
    · cases !decide (rd T 10 (zn o) 0 ≤ goalS T o) && earlyS T o
      · exact (q (aWant T 7 o (goalS T o))).imp id Or.inl
      · exact Or.inr (Or.inr ⟨rfl, rfl⟩)
/-- a work: what it leaves, and what it tells -/
theorem II_work (H : II A) (HR : Rel A R) (hc : c < 8) : II (aWork A c).2 ∧ (((aWork A c).1 = 0 ∧ (aWork A c).2 = A) ∨ (qn A c ≠ 0 ∧ ((aWork A c).1 = 1 ∨ (aWork A c).1 = 3 ∨ ((aWork A c).1 = 2 ∧ ve (aWork A c).2 1 = ve A 1 ∧ nv (aWork A c).2 1 = nv A 1)) ∧ ve A 1 ≤ ve (aWork A c).2 1 ∧ NS A (aWork A c).2)) := by
  have Q := QI_of HR.1 hc
  unfold aWork
  cases c1 : zfst (qn A c) (kdue A c) with
  | none => exact ⟨H, Or.inl ⟨rfl, rfl⟩⟩
  | some p =>
    obtain ⟨p1, p2, -⟩ := zfst_some c1
    have h60 : qk A c p < 60 := Q.2.1 p p1
    have H2 : Rel A (zz_sI R 0 42 (zn c)) := Rel_42 HR
    have ht := Rl0_take (A := A) (R := zz_sI R 0 42 (zn c)) ⟨H2.1, sI_e, hc⟩ p1 p2
    have hS : zSv c (aTk A c p) (qk A c p) := zSv_of ht.1.1 hc h60
    have W : zIC (aTk A c p) := ht.1.1.1.2
    have own : (aTk A c p).1 (3 + c) 5 = okd c := ht.1.1.2.2.2.2.2.2.2.2.2.2.2 c hc
    have JT : JJ (aTk A c p) := by
      refine JJ_see H.1 hc (Tk_S p) ht.1.1
    have tk1 : ve (aTk A c p) 1 = ve A 1 ∧ nv (aTk A c p) 1 = nv A 1 := by
      unfold ve nv
      rw [Tk_same p _ _ (Or.inl (by omega)) (by omega) (by omega), Tk_same p _ _ (Or.inl (by omega)) (by omega) (by omega)]
      exact ⟨rfl, rfl⟩
    have hq0 : qn A c ≠ 0 := by omega
    show II (aWork1 (aTk A c p) c (qk A c p)).2 ∧ (_ ∨ (_ ∧ ((aWork1 (aTk A c p) c (qk A c p)).1 = 1 ∨ (aWork1 (aTk A c p) c (qk A c p)).1 = 3 ∨ ((aWork1 (aTk A c p) c (qk A c p)).1 = 2 ∧ ve (aWork1 (aTk A c p) c (qk A c p)).2 1 = ve A 1 ∧ nv (aWork1 (aTk A c p) c (qk A c p)).2 1 = nv A 1)) ∧ ve A 1 ≤ ve (aWork1 (aTk A c p) c (qk A c p)).2 1 ∧ NS A (aWork1 (aTk A c p) c (qk A c p)).2))
    generalize hT : aTk A c p = T at *
    generalize ho : qk A c p = o at *
    -- the ends, by what was served
    have tail : ∀ (F : zzMd) (out v : Int32), KJ T F → NS T F → (∀ d, d < 8 → ∀ q, F.1 (24 + 6 * d) q = T.1 (24 + 6 * d) q) → (out = 1 → pend F c o ∨ sat T c o) → (out = 1 ∨ out = 3 ∨ (out = 2 ∧ ve F 1 = ve A 1 ∧ nv F 1 = nv A 1)) →
        II (aEnd F c o out v).2 ∧ (((aEnd F c o out v).1 = 1 ∨ (aEnd F c o out v).1 = 3 ∨ ((aEnd F c o out v).1 = 2 ∧ ve (aEnd F c o out v).2 1 = ve A 1 ∧ nv (aEnd F c o out v).2 1 = nv A 1)) ∧ ve A 1 ≤ ve (aEnd F c o out v).2 1 ∧ NS A (aEnd F c o out v).2) := by
      intro F out v K N hf hl hout
      unfold aEnd
      -- behind the note of the latest write
      have hF2 : ∃ F2, F2 = (bif decide (F.1 1 3 ≤ v) then F else zz_sI F (26 + 6 * c) o (F.1 1 3)) ∧ KJ T F2 ∧ (∀ d, d < 8 → ∀ q, F2.1 (24 + 6 * d) q = T.1 (24 + 6 * d) q) ∧ (pend F c o → pend F2 c o) ∧ ve F2 1 = ve F 1 ∧ nv F2 1 = nv F 1 := by
        cases decide (F.1 1 3 ≤ v)
        · refine ⟨_, rfl, KJ_o K (zIC_fdw hc (Or.inr (Or.inr rfl)) K.1.1.1) (Or.inr (Or.inr ⟨c, hc, Or.inr (Or.inr rfl)⟩)), fun d hd q => (sI_a (by omega)).trans (hf d hd q), pend_72 (by omega) hc, ?_, ?_⟩
          · unfold ve; rw [cond_false, sI_a (by omega)]
          · unfold nv; rw [cond_false, sI_a (by omega)]
        · exact ⟨F, rfl, K, hf, id, rfl, rfl⟩
      obtain ⟨F2, e2, K2, hf2, pd, v2, n2⟩ := hF2
      rw [← e2]
      have NF : ∀ X : zzMd, ve X 1 = ve F2 1 → nv X 1 = nv F2 1 → ve A 1 ≤ ve X 1 ∧ NS A X := fun X x1 x2 => by
        refine ⟨?_, ?_⟩
        · rw [x1, v2, ← tk1.1]; exact K.2.1.1
        · unfold NS at N ⊢
          rw [x1, x2, v2, n2, ← tk1.1, ← tk1.2]; exact N
      by_cases o1 : out = 1
      · rw [decide_eq_true o1, cond_true]
        have K3 : KJ T (zz_sI F2 (24 + 6 * c) o 0) := KJ_o K2 (zIC_fdw hc (Or.inl rfl) K2.1.1.1) (Or.inr (Or.inr ⟨c, hc, Or.inl rfl⟩))
        have x1 : ve (zz_sI F2 (24 + 6 * c) o 0) 1 = ve F2 1 := by unfold ve; rw [sI_a (by omega)]
        have x2 : nv (zz_sI F2 (24 + 6 * c) o 0) 1 = nv F2 1 := by unfold nv; rw [sI_a (by omega)]
        refine ⟨?_, Or.inl rfl, NF _ x1 x2⟩
        have e := (II_end (c := c) (p := p) H Q hc p1 (F := zz_sI F2 (24 + 6 * c) o 0) (by rw [hT]; exact K3) (fun d hd q hq => by
          rw [hT]
          by_cases z : d = c
          · subst z
            have : q ≠ o := by rcases hq with h | h
                               · exact absurd rfl h
                               · rw [ho] at h; exact h
            rw [sI_b this]; exact hf2 d hd q
          · rw [sI_a (by omega)]; exact hf2 d hd q)).1
        rw [ho, hT] at e
        exact e ((hl o1).imp (fun z => pend_72 (by omega) hc (pd z)) id) sI_e
      · rw [decide_eq_false o1, cond_false]
        by_cases o3 : out = 3
        · rw [decide_eq_true o3, cond_true]
          have K3 : KJ T (aFail F2 c o) := by
            unfold aFail
            exact KJ_o (KJ_o K2 (zIC_fdw hc (Or.inl rfl) K2.1.1.1) (Or.inr (Or.inr ⟨c, hc, Or.inl rfl⟩))) (zIC_fdw hc (Or.inr (Or.inl rfl)) (zIC_fdw hc (Or.inl rfl) K2.1.1.1)) (Or.inr (Or.inr ⟨c, hc, Or.inr (Or.inl rfl)⟩))
          have e := (II_end (c := c) (p := p) H Q hc p1 (F := aFail F2 c o) (by rw [hT]; exact K3) (fun d hd q hq => by
            rw [hT]
            unfold aFail
            rw [sI_a (by omega)]
            by_cases z : d = c
            · subst z
              have : q ≠ o := by rcases hq with h | h
                                 · exact absurd rfl h
                                 · rw [ho] at h; exact h
              rw [sI_b this]; exact hf2 d hd q
            · rw [sI_a (by omega)]; exact hf2 d hd q)).2
          rw [ho] at e
          refine ⟨e, Or.inr (Or.inl o3), NF _ ?_ ?_⟩
          · unfold ve; rw [Enq_o _ (Or.inl (by omega)) (by omega) (by omega)]; unfold aFail; rw [sI_a (by omega), sI_a (by omega)]
          · unfold nv; rw [Enq_o _ (Or.inl (by omega)) (by omega) (by omega)]; unfold aFail; rw [sI_a (by omega), sI_a (by omega)]
        · rw [decide_eq_false o3, cond_false]
          have e := (II_end (c := c) (p := p) H Q hc p1 (F := F2) (by rw [hT]; exact K2) (fun d hd q _ => by rw [hT]; exact hf2 d hd q)).2
          rw [ho] at e
          have x1 : ve (aEnq F2 c (zn o)) 1 = ve F2 1 := by unfold ve; rw [Enq_o _ (Or.inl (by omega)) (by omega) (by omega)]
          have x2 : nv (aEnq F2 c (zn o)) 1 = nv F2 1 := by unfold nv; rw [Enq_o _ (Or.inl (by omega)) (by omega) (by omega)]
          obtain ⟨y, y1, y2⟩ := (hout.resolve_left o1).resolve_left o3
          exact ⟨e, Or.inr (Or.inr ⟨y, by rw [x1, v2]; exact y1, by rw [x2, n2]; exact y2⟩), NF _ x1 x2⟩
    unfold aWork1
    by_cases c2 : T.1 (26 + 6 * c) o ≤ T.1 (3 + c) 3
    · rw [decide_eq_true c2, cond_true]
      have K := KSv JT hc h60 hS own
      have N := NS_Sv JT hc h60 hS own
      obtain ⟨t1, t2⟩ := tail (dSv c T T o).2 (dSv c T T o).1 (T.1 1 3) K N (fun d hd q => KQ_Sv hc _ q (by omega) (by omega) (by omega) (by omega) (by omega) (by omega) (by omega)) (fun z => leftS JT hc h60 own hS.1 z) ((out_Sv hc o T).imp id fun z => z.imp id fun ⟨a, b⟩ => ⟨a, by rw [b]; unfold ve; rw [sI_a (by decide)]; exact tk1.1, by rw [b]; unfold nv; rw [sI_a (by decide)]; exact tk1.2⟩)
      exact ⟨t1, Or.inr ⟨hq0, t2⟩⟩
    · rw [decide_eq_false c2, cond_false]
      obtain ⟨t1, t2⟩ := tail T 2 (T.1 1 3) ⟨JT, Xt_refl T⟩ (Or.inl rfl) (fun _ _ _ => rfl) (fun z => absurd z (by decide)) (Or.inr (Or.inr ⟨rfl, tk1⟩))
      exact ⟨t1, Or.inr ⟨hq0, t2⟩⟩
end
end

section
/-! the number of objects does not fall while a controller serves -/
def NI (n : Nat) (A : zzMd) : Prop := zIC A ∧ n ≤ nv A 1
theorem NI_k {n0 : Nat} {A : zzMd} {a k : Nat} {x : Int32} (h1 : a ≠ 1) (W : zIC (zz_sI A a k x)) (h : NI n0 A) : NI n0 (zz_sI A a k x) := ⟨W, by rw [nv_sI (Ne.symm h1)]; exact h.2⟩
theorem NI_Wr {n0 : Nat} {A : zzMd} {o : Nat} {D : Nat → Int32} (ho : o < 60) (h : NI n0 A) : NI n0 (aWr A o D).2 := by
  refine ⟨zIC_Wr ho h.1, ?_⟩
  have h2 := h.2
  unfold aWr put
  cases zall 32 fun s => decide (dOw D s = row A o s)
  · cases decide (400 ≤ ve A 1)
    · show n0 ≤ zz_ix ((tkIn (logSet A (ve A 1 + 1) (dOw D)) 1 o (ve A 1 + 1)).1 1 2)
      rw [tk_1, if_neg (fun z => absurd z.2 (by decide)), if_pos ⟨rfl, rfl⟩]
      have e : nv (logSet A (ve A 1 + 1) (dOw D)) 1 = nv A 1 := congrArg zz_ix (show (if (1 : Nat) = 14 ∧ (ve A 1 + 1) * 32 ≤ 2 ∧ 2 < (ve A 1 + 1) * 32 + 32 then dOw D (2 - (ve A 1 + 1) * 32) else A.1 1 2) = A.1 1 2 from if_neg fun z => absurd z.1 (by decide))
      have h60 := h.1.1.2.1.2
      have m1 : nv A 1 ≤ Nat.max (nv A 1) (o + 1) := Nat.le_max_left _ _
      have m2 : Nat.max (nv A 1) (o + 1) ≤ 60 := Nat.max_le.mpr ⟨h60, ho⟩
      rw [e, zn_ix (by omega)]
      omega
    · exact h2
  · exact h2
theorem NI_Ad {n0 : Nat} {A : zzMd} {o : Nat} {D : Nat → Int32} (ho : o < 60) (h : NI n0 A) : NI n0 (aAd A o D).2 := by
  unfold aAd
  cases (settled A D).1 && allowed A (settled A D).2
  · exact h
  · exact NI_Wr ho h
theorem NI_Ap {n0 : Nat} {A : zzMd} {m : Int32} {o : Nat} {f x : Int32} (ho : o < 60) (h : NI n0 A) : NI n0 (aAp A m o f x).2 := by
  unfold aAp
  cases hasF (row A o 23) f
  · exact h
  · exact NI_Ad ho h
theorem NI_Want {n0 : Nat} {A : zzMd} {c o : Nat} {x : Int32} (ho : o < 60) (h : NI n0 A) : NI n0 (aWant A c o x).2 := by
  unfold aWant
  cases decide (rd A (3 + c) (zn o) 0 = x) <;> cases utd A c o
  · exact h
  · exact NI_Ap ho h
  · exact h
  · exact h
theorem NI_Set {n0 : Nat} {A : zzMd} {c o k : Nat} {x : Int32} (ho : o < 60) (h : NI n0 A) : NI n0 (aSet A c o k x).2 := by
  unfold aSet
  cases decide (rd A (3 + c) (zn o) (zn k) = x) <;> cases utd A c o
  · exact h
  · exact NI_Wr ho h
  · exact h
  · exact h
theorem NI_Rem {n0 : Nat} {A : zzMd} {c o : Nat} (ho : o < 60) (h : NI n0 A) : NI n0 (aRem A c o).2 := by
  unfold aRem
  cases utd A c o
  · exact h
  · exact NI_Wr ho h
theorem NI_Open {n0 : Nat} {A : zzMd} {m k w t : Int32} (h : NI n0 A) : NI n0 (aOpen A m k w t).2 := by
  unfold aOpen
  by_cases h1 : 60 ≤ nv A 1 ∨ k = 2 ∧ ¬ zn (liveP A) < A.1 2 5
  · rw [if_pos h1]; exact h
  · rw [if_neg h1]
    have hn : nv A 1 < 60 := Nat.lt_of_not_le fun q => h1 (Or.inl q)
    have h2 := NI_Ad (o := nv A 1) (D := dNew m k w t (nv A 1)) hn h
    cases (aAd A (nv A 1) (dNew m k w t (nv A 1))).1
    · exact h2
    · exact NI_k (by decide) (zIC_16.mpr h2.1) h2
theorem NI_Mk {n0 : Nat} {A : zzMd} {c o : Nat} {k : Int32} (h : NI n0 A) : NI n0 (aMk A c o k).2 := NI_Open h
theorem NI_S0 {n0 : Nat} {A B : zzMd} {o : Nat} (ho : o < 60) (hn : nv B 3 ≤ 60) (h : NI n0 A) : NI n0 (dS0 B A o).2 := by
  unfold dS0
  cases stay B 3 (zn o) 0 && !decide (rd B 3 (zn o) 4 = 1)
  · exact h
  · cases c3 : newSet B 3 (nv B 3) (zn o) with
    | none => exact NI_Mk h
    | some s =>
      have s1 : s < 60 := Nat.lt_of_lt_of_le (newSet_lt c3) hn
      show NI n0 (dS0b B A o s).2
      unfold dS0b
      cases !decide (rd B 3 (zn s) 0 ≤ rd B 3 (zn o) 0)
      · cases !decide (rd B 3 (zn o) 0 ≤ rd B 3 (zn s) 0) && !decide (rd B 3 (zn o) 0 + rd B 3 (zn o) 2 - wTog B (zn o) ≤ 0)
        · cases c6 : otSet B (zn o) (zn s) with
          | none => simp only [cond_false, cond_true, c6]; exact h
          | some t =>
            simp only [cond_false, cond_true, c6]
            exact NI_Want (Nat.lt_of_lt_of_le (zfst_some c6).1 hn) h
        · exact NI_Want s1 h
      · exact NI_Want s1 h
theorem NI_S1 {n0 : Nat} {A B : zzMd} {c o : Nat} (hn : nv B (3 + c) ≤ 60) (h0 : stay B (3 + c) (zn o) (B.1 (3 + c) 5) = true → 0 ≤ (rd B (3 + c) (zn o) 0).toInt) (h : NI n0 A) : NI n0 (dS1 B A c o).2 := by
  unfold dS1
  cases c0 : stay B (3 + c) (zn o) (B.1 (3 + c) 5)
  · exact h
  have h0 := h0 c0
  cases decide (B.1 (3 + c) 5 = 1)
  · show NI n0 (dJob B A c o).2
    unfold dJob
    cases !decide (rd B (3 + c) (zn o) 0 ≤ zn (dnP B (3 + c) (zn o) (nv B (3 + c))) + zn (acP B (3 + c) (zn o) (nv B (3 + c)))) && !decide (rd B (3 + c) (zn o) 10 ≤ zn (acP B (3 + c) (zn o) (nv B (3 + c))))
    · exact h
    · exact NI_Mk h
  · show NI n0 (dSet B A c o).2
    unfold dSet
    cases c1 : ovP B (3 + c) (zn o) with
    | some p => exact NI_Rem (Nat.lt_of_lt_of_le (zfst_some c1).1 hn) h
    | none =>
      cases !decide (rd B (3 + c) (zn o) 0 ≤ zn (cntP B (3 + c) (zn o)))
      · by_cases c3 : zn (cntP B (3 + c) (zn o)) ≤ rd B (3 + c) (zn o) 0
        · simp only [decide_eq_true c3, Bool.not_true, cond_false]; exact h
        · simp only [decide_eq_false c3, Bool.not_false, cond_true, cond_false]
          refine NI_Rem ?_ h
          rcases ptm_in B (3 + c) (zn o) (nv B (3 + c)) with ⟨-, q⟩ | ⟨k, q1, q2⟩
          · refine absurd ?_ c3
            rw [show cntP B (3 + c) (zn o) = 0 from q, Int32.le_iff_toInt_le]
            exact h0
          · rw [q2, zn_ix (by omega)]; omega
      · exact NI_Mk h
theorem NI_S3 {n0 : Nat} {A B : zzMd} {o : Nat} (ho : o < 60) (hn : nv B 6 ≤ 60) (hR2 : zz_ix (rnk B (zn o)) ≤ 60) (h : NI n0 A) : NI n0 (dS3 B A o).2 := by
  unfold dS3
  cases wops B 6 (zn o)
  · exact h
  · cases c2 : bst B (rd B 6 (zn o) 24) (znd (rd B 6 (zn o) 1)) (nv B 6) with
    | some k => exact NI_Set ho h
    | none =>
      refine acts_inv (I := NI n0) (fun j hj A hA => ?_) (show NI n0 (setV A _) from ⟨zIC_V71.mpr h.1, h.2⟩)
      have hin := pre_in (M := B) (o := o) hn hR2 (B.1 71)
      unfold cntV at hj
      rcases hin with h1 | ⟨m, m1, m2, m3⟩
      · rw [if_pos h1] at hj; exact absurd hj (Nat.not_lt_zero j)
      · rw [m2, if_neg (by rw [zn_m1 (by omega)]; exact fun z => z), zn_ix (by omega)] at hj
        obtain ⟨p, p1, p2⟩ := m3 j hj
        rw [p2, zn_ix (by omega)]
        exact NI_Rem p1 hA
theorem NI_S4 {n0 : Nat} {A B : zzMd} {o : Nat} (ho : o < 60) (h : NI n0 A) : NI n0 (dS4 B A o).2 := by
  unfold dS4
  cases decide (rd B 7 (zn o) 23 = 2) && (!gone B 7 (zn o) && !decide (rd B 7 (zn o) 28 = -1))
  · exact h
  cases !decide (rd B 7 (zn o) 25 = 0)
  · cases lostN B (rd B 7 (zn o) 28) && (decide (rd B 7 (zn o) 29 = 0) || decide (rd B 7 (zn o) 29 = 1))
    · cases decide (rd B 7 (zn o) 29 = 0)
      · exact h
      · exact NI_Set ho h
    · exact NI_Set ho h
  · show NI n0 (aClr B A o).2
    unfold aClr
    cases utd A 4 o
    · exact h
    · exact NI_Wr ho h
theorem NI_S5 {n0 : Nat} {A B : zzMd} {o : Nat} (ho : o < 60) (hn : nv B 8 ≤ 60) (h : NI n0 A) : NI n0 (dS5 B A o).2 := by
  unfold dS5
  cases decide (rd B 8 (zn o) 25 = 4)
  · cases decide (rd B 8 (zn o) 25 = 0)
    · cases !decide (rd B 8 (zn o) 25 = 2) && own1 B (zn o)
      · cases kept B 8 (zn o)
        · exact NI_Set ho h
        · exact h
      · cases decide (rd B 8 (zn o) 25 = 1)
        · refine acts_inv (I := NI n0) (fun i hi A hA => ?_) h
          unfold actO
          cases decide (rd B 8 (zn i) 24 = zn o)
          · exact hA
          · exact NI_Set (by omega) hA
        · refine acts_inv (I := NI n0) (fun i hi A hA => ?_) h
          unfold actD
          cases decide (rd B 8 (zn i) 24 = zn o) && decide (rd B 8 (zn i) 25 = 0)
          · exact hA
          · exact NI_Set (by omega) hA
    · cases !decide (rd B 8 (zn o) 24 = -1) && gone B 8 (rd B 8 (zn o) 24)
      · exact h
      · exact NI_Rem ho h
  · exact h
theorem NI_S6 {n0 : Nat} {A B : zzMd} {o : Nat} (ho : o < 60) (h : NI n0 A) : NI n0 (dS6 B A o).2 := by
  unfold dS6
  cases stay B 9 (zn o) 5 && !(decide (pLow B o = rd B 9 (zn o) 30) && decide (pHigh B o = rd B 9 (zn o) 31))
  · exact h
  · show NI n0 (bif utd A 6 o then aCh2 A o 30 (pLow B o) 31 (pHigh B o) else (false, A)).2
    cases utd A 6 o
    · exact h
    · exact NI_Wr ho h
theorem NI_S7 {n0 : Nat} {A B : zzMd} {o : Nat} (ho : o < 60) (h : NI n0 A) : NI n0 (dS7 B A o).2 := by
  unfold dS7
  cases stay B 10 (zn o) 0 && decide (0 < rd B 10 (zn o) 5)
  · exact h
  · cases !decide (rd B 10 (zn o) 0 ≤ goalS B o) && earlyS A o
    · show NI n0 (aScal (aWant A 7 o (goalS B o)) (A.1 1 3) o).2
      unfold aScal
      have h1 := NI_Want (c := 7) (x := goalS B o) ho h
      cases decide ((aWant A 7 o (goalS B o)).2.1 1 3 ≤ A.1 1 3)
      · exact NI_k (by decide) ((zIC_72 (by decide)).mpr h1.1) h1
      · exact h1
    · exact NI_k (by decide) (zIC_fdw (c := 7) (by decide) (Or.inr (Or.inl rfl)) h.1) h
theorem NI_Sv {n0 : Nat} {A B : zzMd} {c o : Nat} (hc : c < 8) (ho : o < 60) (hn : nv B (3 + c) ≤ 60) (h0 : stay B (3 + c) (zn o) (B.1 (3 + c) 5) = true → 0 ≤ (rd B (3 + c) (zn o) 0).toInt) (hR : c = 3 → zz_ix (rnk B (zn o)) ≤ 60) (W : NI n0 A) : NI n0 (dSv c B A o).2 := by
  rcases zc8 hc with rfl | rfl | rfl | rfl | rfl | rfl | rfl | rfl
  · exact NI_S0 ho hn W
  · exact NI_S1 hn h0 W
  · exact NI_S1 hn h0 W
  · exact NI_S3 ho hn (hR rfl) W
  · exact NI_S4 ho W
  · exact NI_S5 ho hn W
  · exact NI_S6 ho W
  · exact NI_S7 ho W
end

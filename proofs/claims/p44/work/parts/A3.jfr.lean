section
/-! what stays while a controller serves: whatever writes, and some numbers of its own, leave -/
def Cl (I : zzMd → Prop) : Prop := (∀ A o D, I A → I (aWr A o D).2) ∧ (∀ A a k x, a = 16 ∨ a = 67 ∨ a = 72 → I A → I (zz_sI A a k x)) ∧ ∀ A V, I A → I (setV A V)
section
variable {A B : zzMd} {c o : Nat} {I : zzMd → Prop}
theorem cl_Ad {D : Nat → Int32} (C : Cl I) (h : I A) : I (aAd A o D).2 := by
  unfold aAd
  cases (settled A D).1 && allowed A (settled A D).2
  · exact h
  · exact C.1 _ _ _ h
theorem cl_Ap {m f x : Int32} (C : Cl I) (h : I A) : I (aAp A m o f x).2 := by
  unfold aAp
  cases hasF (row A o 23) f
  · exact h
  · exact cl_Ad C h
theorem cl_Want {x : Int32} (C : Cl I) (h : I A) : I (aWant A c o x).2 := by
  unfold aWant
  cases decide (rd A (3 + c) (zn o) 0 = x) <;> cases utd A c o
  · exact h
  · exact cl_Ap C h
  · exact h
  · exact h
theorem cl_Set {k : Nat} {x : Int32} (C : Cl I) (h : I A) : I (aSet A c o k x).2 := by
  unfold aSet
  cases decide (rd A (3 + c) (zn o) (zn k) = x) <;> cases utd A c o
  · exact h
  · exact C.1 _ _ _ h
  · exact h
  · exact h
theorem cl_Rem (C : Cl I) (h : I A) : I (aRem A c o).2 := by
  unfold aRem
  cases utd A c o
  · exact h
  · exact C.1 _ _ _ h
theorem cl_Open {m k w t : Int32} (C : Cl I) (h : I A) : I (aOpen A m k w t).2 := by
  unfold aOpen
  by_cases h1 : 60 ≤ nv A 1 ∨ k = 2 ∧ ¬ zn (liveP A) < A.1 2 5
  · rw [if_pos h1]; exact h
  · rw [if_neg h1]
    have h2 := cl_Ad (o := nv A 1) (D := dNew m k w t (nv A 1)) C h
    cases (aAd A (nv A 1) (dNew m k w t (nv A 1))).1
    · exact h2
    · exact C.2.1 _ _ _ _ (Or.inl rfl) h2
theorem cl_S1 (C : Cl I) (h : I A) : I (dS1 B A c o).2 := by
  unfold dS1
  cases stay B (3 + c) (zn o) (B.1 (3 + c) 5)
  · exact h
  cases decide (B.1 (3 + c) 5 = 1)
  · show I (dJob B A c o).2
    unfold dJob
    cases !decide (rd B (3 + c) (zn o) 0 ≤ zn (dnP B (3 + c) (zn o) (nv B (3 + c))) + zn (acP B (3 + c) (zn o) (nv B (3 + c)))) && !decide (rd B (3 + c) (zn o) 10 ≤ zn (acP B (3 + c) (zn o) (nv B (3 + c))))
    · exact h
    · exact cl_Open C h
  · show I (dSet B A c o).2
    unfold dSet
    cases ovP B (3 + c) (zn o) with
    | some p => exact cl_Rem C h
    | none =>
      cases !decide (rd B (3 + c) (zn o) 0 ≤ zn (cntP B (3 + c) (zn o)))
      · cases !decide (zn (cntP B (3 + c) (zn o)) ≤ rd B (3 + c) (zn o) 0)
        · exact h
        · exact cl_Rem C h
      · exact cl_Open C h
theorem Cl_Sv (C : Cl I) (hc : c < 8) (h : I A) : I (dSv c B A o).2 := by
  rcases zc8 hc with rfl | rfl | rfl | rfl | rfl | rfl | rfl | rfl
  · show I (dS0 B A o).2
    unfold dS0
    cases stay B 3 (zn o) 0 && !decide (rd B 3 (zn o) 4 = 1)
    · exact h
    · cases newSet B 3 (nv B 3) (zn o) with
      | none => exact cl_Open C h
      | some s =>
        show I (dS0b B A o s).2
        unfold dS0b
        cases !decide (rd B 3 (zn s) 0 ≤ rd B 3 (zn o) 0)
        · cases !decide (rd B 3 (zn o) 0 ≤ rd B 3 (zn s) 0) && !decide (rd B 3 (zn o) 0 + rd B 3 (zn o) 2 - wTog B (zn o) ≤ 0)
          · cases otSet B (zn o) (zn s) with
            | none => exact h
            | some t => exact cl_Want C h
          · exact cl_Want C h
        · exact cl_Want C h
  · exact cl_S1 C h
  · exact cl_S1 C h
  · show I (dS3 B A o).2
    unfold dS3
    cases wops B 6 (zn o)
    · exact h
    · cases bst B (rd B 6 (zn o) 24) (znd (rd B 6 (zn o) 1)) (nv B 6) with
      | some k => exact cl_Set C h
      | none => exact acts_inv (I := I) (fun j hj A hA => cl_Rem C hA) (C.2.2 _ _ h)
  · show I (dS4 B A o).2
    unfold dS4
    cases decide (rd B 7 (zn o) 23 = 2) && (!gone B 7 (zn o) && !decide (rd B 7 (zn o) 28 = -1))
    · exact h
    · cases !decide (rd B 7 (zn o) 25 = 0)
      · cases lostN B (rd B 7 (zn o) 28) && (decide (rd B 7 (zn o) 29 = 0) || decide (rd B 7 (zn o) 29 = 1))
        · cases decide (rd B 7 (zn o) 29 = 0)
          · exact h
          · exact cl_Set C h
        · exact cl_Set C h
      · show I (aClr B A o).2
        unfold aClr
        cases utd A 4 o
        · exact h
        · exact C.1 _ _ _ h
  · show I (dS5 B A o).2
    unfold dS5
    cases decide (rd B 8 (zn o) 25 = 4)
    · cases decide (rd B 8 (zn o) 25 = 0)
      · cases !decide (rd B 8 (zn o) 25 = 2) && own1 B (zn o)
        · cases kept B 8 (zn o)
          · exact cl_Set C h
          · exact h
        · cases decide (rd B 8 (zn o) 25 = 1)
          · refine acts_inv (I := I) (fun i hi A hA => ?_) h
            unfold actO
            cases decide (rd B 8 (zn i) 24 = zn o)
            · exact hA
            · exact cl_Set C hA
          · refine acts_inv (I := I) (fun i hi A hA => ?_) h
            unfold actD
            cases decide (rd B 8 (zn i) 24 = zn o) && decide (rd B 8 (zn i) 25 = 0)
            · exact hA
            · exact cl_Set C hA
      · cases !decide (rd B 8 (zn o) 24 = -1) && gone B 8 (rd B 8 (zn o) 24)
        · exact h
        · exact cl_Rem C h
    · exact h
  · show I (dS6 B A o).2
    unfold dS6
    cases stay B 9 (zn o) 5 && !(decide (pLow B o = rd B 9 (zn o) 30) && decide (pHigh B o = rd B 9 (zn o) 31))
    · exact h
    · show I (bif utd A 6 o then aCh2 A o 30 (pLow B o) 31 (pHigh B o) else (false, A)).2
      cases utd A 6 o
      · exact h
      · exact C.1 _ _ _ h
  · show I (dS7 B A o).2
    unfold dS7
    cases stay B 10 (zn o) 0 && decide (0 < rd B 10 (zn o) 5)
    · exact h
    · cases !decide (rd B 10 (zn o) 0 ≤ goalS B o) && earlyS A o
      · show I (aScal (aWant A 7 o (goalS B o)) (A.1 1 3) o).2
        unfold aScal
        have h1 := cl_Want (c := 7) (o := o) (x := goalS B o) C h
        cases decide ((aWant A 7 o (goalS B o)).2.1 1 3 ≤ A.1 1 3)
        · exact C.2.1 _ _ _ _ (Or.inr (Or.inr rfl)) h1
        · exact h1
      · exact C.2.1 _ _ _ _ (Or.inr (Or.inl rfl)) h
/-- the time, the log's beginning, readers, the law's arrays -/
def Fr (A B : zzMd) : Prop := B.1 1 7 = A.1 1 7 ∧ B.1 1 8 = A.1 1 8 ∧ (∀ k, B.1 12 k = A.1 12 k) ∧ (∀ k, B.1 73 k = A.1 73 k) ∧ ∀ k, B.1 74 k = A.1 74 k
theorem Fr_refl (A : zzMd) : Fr A A := ⟨rfl, rfl, fun _ => rfl, fun _ => rfl, fun _ => rfl⟩
theorem Fr_trans {C : zzMd} (h : Fr A B) (g : Fr B C) : Fr A C := ⟨g.1.trans h.1, g.2.1.trans h.2.1, fun k => (g.2.2.1 k).trans (h.2.2.1 k), fun k => (g.2.2.2.1 k).trans (h.2.2.2.1 k), fun k => (g.2.2.2.2 k).trans (h.2.2.2.2 k)⟩
theorem Fr_of (h : ∀ a b, (a = 1 ∧ (b = 7 ∨ b = 8)) ∨ a = 12 ∨ a = 73 ∨ a = 74 → B.1 a b = A.1 a b) : Fr A B := ⟨h 1 7 (by omega), h 1 8 (by omega), fun k => h 12 k (by omega), fun k => h 73 k (by omega), fun k => h 74 k (by omega)⟩
theorem Fr_Wr (A : zzMd) (o : Nat) (D : Nat → Int32) : Fr A (aWr A o D).2 := Fr_of fun a b h => Wr_o (by omega) (by omega) (by omega)
theorem Cl_Fr (T : zzMd) : Cl (Fr T) := ⟨fun A o D h => Fr_trans h (Fr_Wr A o D), fun A a k x ha h => Fr_trans h (Fr_of fun p q hp => sI_a (by omega)), fun A V h => Fr_trans h (Fr_of fun p q hp => if_neg (by omega))⟩
theorem Fr_See (hc : c < 8) (S : zSee c A B) : Fr A B := Fr_of fun a b h => S a b (Or.inl (by omega)) (by omega) (by omega) (by omega)
theorem Fr_work (A : zzMd) (hc : c < 8) : Fr A (aWork A c).2 := by
  unfold aWork
  cases zfst (qn A c) (kdue A c) with
  | none => exact Fr_refl A
  | some p =>
    refine Fr_trans (Fr_See hc (Tk_S p)) ?_
    show Fr (aTk A c p) (aWork1 (aTk A c p) c (qk A c p)).2
    generalize aTk A c p = T
    generalize qk A c p = o
    have en : ∀ F out v, Fr T F → Fr T (aEnd F c o out v).2 := fun F out v h => by
      have h2 : Fr T (bif decide (F.1 1 3 ≤ v) then F else zz_sI F (26 + 6 * c) o (F.1 1 3)) := by
        cases decide (F.1 1 3 ≤ v)
        · exact Fr_trans h (Fr_of fun p q hp => sI_a (by omega))
        · exact h
      unfold aEnd
      generalize (bif decide (F.1 1 3 ≤ v) then F else zz_sI F (26 + 6 * c) o (F.1 1 3)) = G at h2
      cases decide (out = 1)
      · have h3 : Fr T (bif decide (out = 3) then aFail G c o else G) := by
          cases decide (out = 3)
          · exact h2
          · unfold aFail
            exact Fr_trans h2 (Fr_of fun p q hp => by rw [cond_true, sI_a (by omega), sI_a (by omega)])
        exact Fr_trans h3 (Fr_See hc (Enq_See _))
      · exact Fr_trans h2 (Fr_of fun p q hp => sI_a (by omega))
    unfold aWork1
    cases decide (T.1 (26 + 6 * c) o ≤ T.1 (3 + c) 3)
    · exact en T 2 _ (Fr_refl T)
    · exact en _ _ _ (Cl_Sv (Cl_Fr T) hc (Fr_refl T))
theorem Fr_look {R : zzMd} (H : II A) (HR : Rel A R) (hc : c < 8) (m : Nat) : Fr A (aLook A c m) := Fr_See hc (II_look H HR hc m).2.2.1
end
end

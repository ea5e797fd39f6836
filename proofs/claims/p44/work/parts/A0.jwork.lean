section
/-! all that holds of a controller; seeing, listing anew, working -/
def FQ (A : zzMd) (c : Nat) : Prop := ∀ o, o < 60 → A.1 (24 + 6 * c) o = 0 ∨ inQ A c o
def CC (A : zzMd) (c : Nat) : Prop := JQ A c ∧ KQk A c ∧ FQ A c
/-- what holds between calls, but for the relation -/
def II (A : zzMd) : Prop := JJ A ∧ ∀ c, c < 8 → CC A c
section
variable {A B R : zzMd} {c : Nat}
theorem inQ_60 (Q : QI A c) {k : Nat} (h : inQ A c k) : k < 60 := by
  obtain ⟨p, p1, p2⟩ := h
  rw [← p2]; exact Q.2.1 p p1
/-- what a controller sees: the other numbers stay -/
theorem CC_other {d : Nat} (hc : c < 8) (hd : d < 8) (hne : d ≠ c) (S : zSee c A B) (h : CC A d) : CC B d := by
  have g : ∀ a b, a ≠ 3 + c → a ≠ 21 + 6 * c → a ≠ 22 + 6 * c → a ≠ 23 + 6 * c → B.1 a b = A.1 a b := fun a b x1 x2 x3 x4 => S a b (Or.inl x1) x2 x3 x4
  have g14 : B.1 14 = A.1 14 := funext fun q => g 14 q (by omega) (by omega) (by omega) (by omega)
  have g15 : B.1 15 = A.1 15 := funext fun q => g 15 q (by omega) (by omega) (by omega) (by omega)
  have o1 : obj B = obj A := by funext i; unfold obj; rw [g14]
  have o2 : lg B = lg A := by funext i s; unfold lg; rw [g14]
  have o3 : row B = row A := by funext i s; unfold row lv; rw [g14, g15]
  have o4 : ve B 1 = ve A 1 ∧ nv B 1 = nv A 1 := by unfold ve nv; rw [g 1 3 (by omega) (by omega) (by omega) (by omega), g 1 2 (by omega) (by omega) (by omega) (by omega)]; exact ⟨rfl, rfl⟩
  have o5 : ve B (3 + d) = ve A (3 + d) ∧ nv B (3 + d) = nv A (3 + d) := by unfold ve nv; rw [g (3 + d) 3 (by omega) (by omega) (by omega) (by omega), g (3 + d) 2 (by omega) (by omega) (by omega) (by omega)]; exact ⟨rfl, rfl⟩
  have q := (QI_c (A := A) (B := B) (c := d) (fun b => g _ _ (by omega) (by omega) (by omega) (by omega)) (fun b => g _ _ (by omega) (by omega) (by omega) (by omega)) (g _ _ (by omega) (by omega) (by omega) (by omega))).2
  have r : ∀ x s, rd B (3 + d) x s = rd A (3 + d) x s := fun x s => by
    unfold rd
    rw [zcL hd, g14, g (21 + 6 * d) _ (by omega) (by omega) (by omega) (by omega)]
  obtain ⟨h1, h2, h3⟩ := h
  refine ⟨fun k hk => ?_, fun k hk => ?_, fun o ho => ?_⟩
  · rcases h1 k hk with a | ⟨e, e1, e2, e3⟩ | a
    · exact Or.inl ((q k).mpr a)
    · exact Or.inr (Or.inl ⟨e, by rw [o5.1]; exact e1, by rw [o4.1]; exact e2, by rw [o1, o2]; exact e3⟩)
    · exact Or.inr (Or.inr (by rw [sat_c r o5.2]; exact a))
  · rw [o4.2, o3]; exact h2 k ((q k).mp hk)
  · rw [g (24 + 6 * d) o (by omega) (by omega) (by omega) (by omega)]
    exact (h3 o ho).imp id fun z => (q o).mpr z
theorem CC_self (hc : c < 8) (S : zSee c A B) (Q : QI A c) (m : ∀ k, inQ A c k → inQ B c k) (j : JQ B c) (only : ∀ k, k < 60 → inQ B c k → inQ A c k ∨ (k < nv A 1 ∧ kok c (row A k 23))) (QB : QI B c) (h : CC A c) : CC B c := by
  have g : ∀ a b, a ≠ 3 + c → a ≠ 21 + 6 * c → a ≠ 22 + 6 * c → a ≠ 23 + 6 * c → B.1 a b = A.1 a b := fun a b x1 x2 x3 x4 => S a b (Or.inl x1) x2 x3 x4
  have g14 : B.1 14 = A.1 14 := funext fun q => g 14 q (by omega) (by omega) (by omega) (by omega)
  have g15 : B.1 15 = A.1 15 := funext fun q => g 15 q (by omega) (by omega) (by omega) (by omega)
  have o3 : row B = row A := by funext i s; unfold row lv; rw [g14, g15]
  have o4 : nv B 1 = nv A 1 := by unfold nv; rw [g 1 2 (by omega) (by omega) (by omega) (by omega)]
  refine ⟨j, fun k hk => ?_, fun o ho => ?_⟩
  · rw [o4, o3]
    exact (only k (inQ_60 QB hk) hk).elim (h.2.1 k) id
  · rw [g (24 + 6 * c) o (by omega) (by omega) (by omega) (by omega)]
    exact (h.2.2 o ho).imp id (m o)
theorem mono_next (Q : QI A c) (hc : c < 8) (o : Nat) : QI (aNext A c o) c ∧ ∀ k, inQ A c k → inQ (aNext A c o) c k := by
  rw [Next_eq]
  obtain ⟨tq1, tq2⟩ := tkE_QI (A := A) (e := ve A (3 + c) + 1) (o := o) hc
  obtain ⟨Q1, m1, -⟩ := Own_Q (tq1.mpr Q) (zn o)
  obtain ⟨Q2, m2, -⟩ := QO_Q Q1 hc (zn o) (oW (tkE A c (ve A (3 + c) + 1) o) A c o)
  exact ⟨Q2, fun k h => m2 k (m1 k ((tq2 k).mpr h))⟩
/-- what a view is, in the log's words, of what Rel says -/
theorem JJ_see (H : JJ A) (hc : c < 8) (S : zSee c A B) (HB : Rl0 B R) : JJ B := by
  have g14 : B.1 14 = A.1 14 := funext fun q => S 14 q (Or.inl (by omega)) (by omega) (by omega) (by omega)
  have o1 : obj B = obj A := by funext i; unfold obj; rw [g14]
  have o4 : ve B 1 = ve A 1 := by unfold ve; rw [S 1 3 (Or.inl (by omega)) (by omega) (by omega) (by omega)]
  have V := (HB.2.2.1 c hc).1
  refine JJ_view H hc HB.1.2 (fun a b x1 x2 x3 x4 => S a b x1 x2 x3 x4) ?_
  rw [← o1, ← o4]
  exact ⟨V.1.1, V.1.2.2, fun o ho => (V.2 o ho).1⟩
theorem II_next (H : II A) (HR : Rel A R) (hc : c < 8) (hlt : ve A (3 + c) < ve A 1) : II (aNext A c (obj A (ve A (3 + c) + 1))) ∧ (∃ R', Rel (aNext A c (obj A (ve A (3 + c) + 1))) R') ∧ zSee c A (aNext A c (obj A (ve A (3 + c) + 1))) ∧ ve (aNext A c (obj A (ve A (3 + c) + 1))) (3 + c) = ve A (3 + c) + 1 := by
  have H2 : Rel A (zz_sI R 0 42 (zn c)) := Rel_42 HR
  obtain ⟨R1, -, r2, r3⟩ := r_seesOne (A := A) (R := zz_sI R 0 42 (zn c)) (c := c) ⟨H2.1, sI_e, hc⟩ hlt
  have Q := QI_of HR.1 hc
  have own : A.1 (3 + c) 5 = okd c := HR.1.2.2.2.2.2.2.2.2.2.2.2 c hc
  have W := HR.1.1.2
  have L := H.1.1
  have h60 : obj A (ve A (3 + c) + 1) < 60 := (zLg_of HR.1 _ (by omega) (by omega)).2
  have h4 : ve A (3 + c) < 400 := by have := (Lg_n60 L).2.1; omega
  obtain ⟨-, S, sv⟩ := zSee_Next W hc h60 h4
  obtain ⟨QB, m⟩ := mono_next Q hc (obj A (ve A (3 + c) + 1))
  have HB := r2.1
  refine ⟨⟨JJ_see H.1 hc S HB, fun d hd => ?_⟩, ?_, S, sv⟩
  · by_cases q : d = c
    · subst q
      exact CC_self hc S Q m (JQ_see H.1 Q own hc hlt (H.2 d hc).1) (fun k hk h => keys_see H.1 Q own hc hlt hk h) QB (H.2 d hc)
    · exact CC_other hc hd q S (H.2 d hd)
  · exact ⟨R1, r2.1, RMan_c H2.2 (fun b => S 14 b (Or.inl (by omega)) (by omega) (by omega) (by omega)) (S 1 2 (Or.inl (by omega)) (by omega) (by omega) (by omega)) (S 1 3 (Or.inl (by omega)) (by omega) (by omega) (by omega)) fun b => r3 10 b (by decide) (by decide) (by decide) (by decide) (by decide) (by decide)⟩
theorem II_nexts (H : II A) (HR : Rel A R) (hc : c < 8) : ∀ n, n ≤ ve A 1 - ve A (3 + c) → II (aNexts A c n) ∧ (∃ R', Rel (aNexts A c n) R') ∧ zSee c A (aNexts A c n) ∧ ve (aNexts A c n) (3 + c) = ve A (3 + c) + n ∧ ve (aNexts A c n) 1 = ve A 1
  | 0, _ => ⟨H, ⟨R, HR⟩, zSee_refl _ _, rfl, rfl⟩
  | n + 1, hn => by
    obtain ⟨I1, ⟨R1, HR1⟩, S1, v1, v2⟩ := II_nexts H HR hc n (by omega)
    rw [aNexts_s]
    obtain ⟨I2, HR2, S2, w1⟩ := II_next I1 HR1 hc (by omega)
    refine ⟨I2, HR2, zSee_trans S1 S2, by omega, ?_⟩
    rw [ve_See hc S2, v2]
theorem II_rel (H : II A) (HR : Rel A R) (hc : c < 8) : II (aRel A c) ∧ (∃ R', Rel (aRel A c) R') ∧ zSee c A (aRel A c) ∧ ve (aRel A c) (3 + c) = ve A 1 := by
  have H2 : Rel A (zz_sI R 0 42 (zn c)) := Rel_42 HR
  obtain ⟨R1, -, r2, r3⟩ := r_lists (A := A) (R := zz_sI R 0 42 (zn c)) (c := c) ⟨H2.1, sI_e, hc⟩
  have Q := QI_of HR.1 hc
  have own : A.1 (3 + c) 5 = okd c := HR.1.2.2.2.2.2.2.2.2.2.2.2 c hc
  obtain ⟨-, S⟩ := Rel_inv HR.1.1.2 hc
  obtain ⟨n1, n2, n3, n4, n5⟩ := TA_n H.1.1 hc
  have QB : QI (aRel A c) c := (eqs_Q (n3.mpr Q) _).1
  have m : ∀ k, inQ A c k → inQ (aRel A c) c k := fun k h => (eqs_Q (n3.mpr Q) _).2 k ((n4 k).mpr h)
  obtain ⟨j, only⟩ := JQ_rel H.1 Q own hc
  refine ⟨⟨JJ_see H.1 hc S r2.1, fun d hd => ?_⟩, ⟨R1, r2.1, RMan_c H2.2 (fun b => S 14 b (Or.inl (by omega)) (by omega) (by omega) (by omega)) (S 1 2 (Or.inl (by omega)) (by omega) (by omega) (by omega)) (S 1 3 (Or.inl (by omega)) (by omega) (by omega) (by omega)) fun b => r3 10 b (by decide) (by decide) (by decide) (by decide) (by decide) (by decide)⟩, S, ?_⟩
  · by_cases q : d = c
    · subst q
      exact CC_self hc S Q m j only QB (H.2 d hc)
    · exact CC_other hc hd q S (H.2 d hd)
  · rw [← n2]
    exact congrArg zz_ix (eqs_S (c := c) (A := aTA A c) (P := relP c) (nv (aTA A c) (3 + c)) (3 + c) 3 (Or.inr (by decide)) (by omega) (by omega))
/-- seeing -/
theorem II_look (H : II A) (HR : Rel A R) (hc : c < 8) (m : Nat) : II (aLook A c m) ∧ (∃ R', Rel (aLook A c m) R') ∧ zSee c A (aLook A c m) ∧ ve (aLook A c m) (3 + c) = if A.1 (3 + c) 3 < A.1 1 8 then ve A 1 else ve A (3 + c) + min m (ve A 1 - ve A (3 + c)) := by
  unfold aLook
  by_cases d : A.1 (3 + c) 3 < A.1 1 8
  · rw [decide_eq_true d, if_pos d]
    exact II_rel H HR hc
  · rw [decide_eq_false d, if_neg d]
    obtain ⟨a1, a2, a3, a4, -⟩ := II_nexts H HR hc (min m (ve A 1 - ve A (3 + c))) (Nat.min_le_right _ _)
    exact ⟨a1, a2, a3, a4⟩
/-! working -/
theorem II_X (H : II A) (J : JJ B) (X : Xt A B) (hf : ∀ c, c < 8 → ∀ o, B.1 (24 + 6 * c) o = A.1 (24 + 6 * c) o) : II B := by
  refine ⟨J, fun c hc => ?_⟩
  obtain ⟨h1, h2, h3⟩ := H.2 c hc
  refine ⟨JQ_X H.1 X hc h1, fun k hk => ?_, fun o ho => ?_⟩
  · obtain ⟨a, b⟩ := h2 k ((inQ_X X hc k).2.mp hk)
    exact ⟨Nat.lt_of_lt_of_le a X.1.2, by rw [X.2.2.2 k a]; exact b⟩
  · rw [hf c hc]
    exact (h3 o ho).imp id fun z => (inQ_X X hc o).2.mpr z
end
end

section
/-! a controller works once -/
section
variable {A B T R : zzMd} {c : Nat}
theorem Tk_q (Q : QI A c) {p : Nat} (hp : p < qn A c) : qn (aTk A c p) c = qn A c - 1 ∧ ∀ i, i < qn A c - 1 → qk (aTk A c p) c i = qk A c (if p ≤ i then i + 1 else i) := by
  refine ⟨?_, fun i hi => ?_⟩
  · show zz_ix ((aTk A c p).1 (3 + c) 11) = _
    have := Q.1.2
    rw [aTk_1, if_neg (by omega), if_pos ⟨rfl, rfl⟩, zn_ix (by omega)]
  · unfold qk
    rw [aTk_1, if_neg (by omega), if_neg (by omega)]
    by_cases h : p ≤ i
    · rw [if_pos ⟨rfl, h, by omega⟩, if_pos h, show p + 1 + (i - p) = i + 1 by omega]
    · rw [if_neg (by omega), if_neg h]
theorem Tk_in (Q : QI A c) {p : Nat} (hp : p < qn A c) (k : Nat) : inQ (aTk A c p) c k ↔ inQ A c k ∧ k ≠ qk A c p := by
  obtain ⟨e1, e2⟩ := Tk_q Q hp
  constructor
  · rintro ⟨i, i1, i2⟩
    rw [e1] at i1
    rw [e2 i i1] at i2
    refine ⟨⟨_, ?_, i2⟩, fun z => ?_⟩
    · by_cases h : p ≤ i
      · rw [if_pos h]; omega
      · rw [if_neg h]; omega
    · rw [z] at i2
      by_cases h : p ≤ i
      · rw [if_pos h] at i2; have := Q.2.2.1 _ _ (by omega) hp i2; omega
      · rw [if_neg h] at i2; have := Q.2.2.1 _ _ (by omega) hp i2; omega
  · rintro ⟨⟨i, i1, i2⟩, h⟩
    have hne : i ≠ p := fun z => h (by rw [← i2, z])
    by_cases q : i < p
    · exact ⟨i, by rw [e1]; omega, by rw [e2 i (by omega), if_neg (by omega)]; exact i2⟩
    · exact ⟨i - 1, by rw [e1]; omega, by rw [e2 (i - 1) (by omega), if_pos (by omega), show i - 1 + 1 = i by omega]; exact i2⟩
theorem QI_Tk (Q : QI A c) {p : Nat} (hp : p < qn A c) : QI (aTk A c p) c := by
  obtain ⟨e1, e2⟩ := Tk_q Q hp
  have tin := Tk_in Q hp
  obtain ⟨q1, q2, q3, q4⟩ := Q
  refine ⟨⟨?_, by rw [e1]; omega⟩, fun i hi => ?_, fun i j hi hj e => ?_, fun o ho => ?_⟩
  · rw [e1, aTk_1, if_neg (by omega), if_pos ⟨rfl, rfl⟩]
  · rw [e1] at hi
    rw [e2 i hi]
    refine q2 _ ?_
    by_cases h : p ≤ i
    · rw [if_pos h]; omega
    · rw [if_neg h]; omega
  · rw [e1] at hi hj
    rw [e2 i hi, e2 j hj] at e
    by_cases h : p ≤ i <;> by_cases g : p ≤ j
    · rw [if_pos h, if_pos g] at e; have := q3 _ _ (by omega) (by omega) e; omega
    · rw [if_pos h, if_neg g] at e; have := q3 _ _ (by omega) (by omega) e; omega
    · rw [if_neg h, if_pos g] at e; have := q3 _ _ (by omega) (by omega) e; omega
    · rw [if_neg h, if_neg g] at e; exact q3 _ _ (by omega) (by omega) e
  · by_cases h : o = qk A c p
    · refine Or.inr ⟨?_, fun z => ((tin o).mp z).2 h⟩
      rw [aTk_1, if_pos ⟨rfl, h⟩]
    · have f : (aTk A c p).1 (23 + 6 * c) o = A.1 (23 + 6 * c) o := by
        rw [aTk_1, if_neg (fun z => h z.2), if_neg (by omega), if_neg (by omega)]
      rw [f]
      rcases q4 o ho with ⟨a, b⟩ | ⟨a, b⟩
      · exact Or.inl ⟨a, (tin o).mpr ⟨b, h⟩⟩
      · exact Or.inr ⟨a, fun z => b ((tin o).mp z).1⟩
theorem Tk_S (p : Nat) : zSee c A (aTk A c p) := fun a b h1 h2 h3 h4 => by
  rw [aTk_1, if_neg (fun z => h4 z.1), if_neg (fun z => by omega), if_neg (fun z => h3 z.1)]
theorem Enq_See (x : Int32) : zSee c A (aEnq A c x) := zSee_S (zSame_Enq A c x)
theorem JJ_Enq (H : JJ A) (hc : c < 8) (x : Int32) : JJ (aEnq A c x) := by
  refine JJ_view H hc (zIC_Enq hc x H.1.1) (fun a b x1 x2 x3 x4 => Enq_See x a b x1 x2 x3 x4) ?_
  have e : ∀ b, b ≠ 11 → (aEnq A c x).1 (3 + c) b = A.1 (3 + c) b := fun b h => Enq_o x (Or.inr h) (by omega) (by omega)
  obtain ⟨v1, v2, v3⟩ := H.1.2.2.2.2.2 c hc
  have f1 : ve (aEnq A c x) (3 + c) = ve A (3 + c) ∧ nv (aEnq A c x) (3 + c) = nv A (3 + c) := by unfold ve nv; rw [e 3 (by decide), e 2 (by decide)]; exact ⟨rfl, rfl⟩
  rw [f1.1, f1.2]
  exact ⟨v1, v2, fun o ho => (Enq_o x (Or.inl (by omega)) (by omega) (by omega)).trans (v3 o ho)⟩
/-- pend and sat under what changes queues alone -/
theorem ps_S (hc : c < 8) (S : zSame c A B) {k : Nat} : (pend A c k → pend B c k) ∧ (sat A c k → sat B c k) := by
  have g14 : B.1 14 = A.1 14 := funext fun q => S 14 q (Or.inl (by omega)) (by omega) (by omega)
  have o1 : obj B = obj A := by funext i; unfold obj; rw [g14]
  have o2 : lg B = lg A := by funext i s; unfold lg; rw [g14]
  have o4 : ve B 1 = ve A 1 := by unfold ve; rw [S 1 3 (Or.inl (by omega)) (by omega) (by omega)]
  have o5 : ve B (3 + c) = ve A (3 + c) := by unfold ve; rw [S _ 3 (Or.inr (by decide)) (by omega) (by omega)]
  refine ⟨fun ⟨e, e1, e2, e3⟩ => ⟨e, by rw [o5]; exact e1, by rw [o4]; exact e2, by rw [o1, o2]; exact e3⟩, fun h => ?_⟩
  rw [sat_c (fun x s => rd_S hc S x s) (nv_S S)]
  exact h
theorem Tk_same (p : Nat) : zSame c A (aTk A c p) := fun a b h1 h2 h3 => by
  rw [aTk_1, if_neg (fun z => h3 z.1), if_neg (fun z => by omega), if_neg (fun z => h2 z.1)]
/-- the end of a work -/
theorem II_end (H : II A) (Q : QI A c) (hc : c < 8) {p : Nat} (hp : p < qn A c) {F : zzMd} (K : KJ (aTk A c p) F) (hf : ∀ d, d < 8 → ∀ o, d ≠ c ∨ o ≠ qk A c p → F.1 (24 + 6 * d) o = (aTk A c p).1 (24 + 6 * d) o) :
    ((pend F c (qk A c p) ∨ sat (aTk A c p) c (qk A c p)) → F.1 (24 + 6 * c) (qk A c p) = 0 → II F) ∧ II (aEnq F c (zn (qk A c p))) := by
  obtain ⟨JF, X⟩ := K
  have W : zIC (aTk A c p) := zIC_Tk hc hp H.1.1.1
  have JT : JJ (aTk A c p) := by
    refine JJ_view H.1 hc W (fun a b x1 x2 x3 x4 => Tk_S p a b x1 x2 x3 x4) ?_
    obtain ⟨v1, v2, v3⟩ := H.1.1.2.2.2.2.2 c hc
    have e : ∀ b, b ≠ 11 → (aTk A c p).1 (3 + c) b = A.1 (3 + c) b := fun b h => Tk_same p _ _ (Or.inr h) (by omega) (by omega)
    have f1 : ve (aTk A c p) (3 + c) = ve A (3 + c) ∧ nv (aTk A c p) (3 + c) = nv A (3 + c) := by unfold ve nv; rw [e 3 (by decide), e 2 (by decide)]; exact ⟨rfl, rfl⟩
    rw [f1.1, f1.2]
    exact ⟨v1, v2, fun o ho => (Tk_same p _ _ (Or.inl (by omega)) (by omega) (by omega)).trans (v3 o ho)⟩
  have h60 : qk A c p < 60 := Q.2.1 p hp
  have QT : QI (aTk A c p) c := QI_Tk Q hp
  have tin := Tk_in Q hp
  obtain ⟨j, kk, ff⟩ := H.2 c hc
  have QF : QI F c := (inQ_X X hc 0).1.mpr QT
  have fin := fun k => (inQ_X X hc k).2
  have oth : ∀ d, d < 8 → d ≠ c → CC F d := fun d hd q => by
    have h1 := CC_other hc hd q (Tk_S p) (H.2 d hd)
    obtain ⟨a1, a2, a3⟩ := h1
    refine ⟨JQ_X JT X hd a1, fun k hk => ?_, fun o ho => ?_⟩
    · obtain ⟨a, b⟩ := a2 k ((inQ_X X hd k).2.mp hk)
      exact ⟨Nat.lt_of_lt_of_le a X.1.2, by rw [X.2.2.2 k a]; exact b⟩
    · rw [hf d hd o (Or.inl q)]
      exact (a3 o ho).imp id fun z => (inQ_X X hd o).2.mpr z
  -- pend and sat of the other keys
  have ps : ∀ k, k < 60 → k ≠ qk A c p → inQ F c k ∨ pend F c k ∨ sat F c k := fun k hk hne => by
    rcases j k hk with a | a | a
    · exact Or.inl ((fin k).mpr ((tin k).mpr ⟨a, hne⟩))
    · exact Or.inr (Or.inl (pend_X X hc ((ps_S hc (Tk_same p)).1 a)))
    · refine Or.inr (Or.inr ?_)
      rw [sat_c (fun x s => Xt_rd JT X hc x s) (Xt_nv X hc).1]
      exact (ps_S hc (Tk_same p)).2 a
  have rT : nv (aTk A c p) 1 = nv A 1 ∧ ∀ k, row (aTk A c p) k 23 = row A k 23 := by
    refine ⟨?_, fun k => ?_⟩
    · unfold nv; rw [Tk_same p _ _ (Or.inl (by omega)) (by omega) (by omega)]
    · unfold row lv; rw [Tk_same p 14 _ (Or.inl (by omega)) (by omega) (by omega), Tk_same p 15 _ (Or.inl (by omega)) (by omega) (by omega)]
  have kF : ∀ k, inQ A c k → k < nv F 1 ∧ kok c (row F k 23) := fun k hk => by
    obtain ⟨a, b⟩ := kk k hk
    have a' : k < nv (aTk A c p) 1 := by rw [rT.1]; exact a
    exact ⟨Nat.lt_of_lt_of_le a' X.1.2, by rw [X.2.2.2 k a', rT.2]; exact b⟩
  have fl : ∀ o, o < 60 → o ≠ qk A c p → F.1 (24 + 6 * c) o = 0 ∨ inQ F c o := fun o ho hne => by
    rw [hf c hc o (Or.inr hne), Tk_same p _ _ (Or.inl (by omega)) (by omega) (by omega)]
    exact (ff o ho).imp id fun z => (fin o).mpr ((tin o).mpr ⟨z, hne⟩)
  refine ⟨fun hl h0 => ⟨JF, fun d hd => ?_⟩, ⟨JJ_Enq JF hc _, fun d hd => ?_⟩⟩
  · by_cases q : d = c
    · subst q
      refine ⟨fun k hk => ?_, fun k hk => kF k ((tin k).mp ((fin k).mp hk)).1, fun o ho => ?_⟩
      · by_cases hne : k = qk A d p
        · subst hne
          rcases hl with a | a
          · exact Or.inr (Or.inl a)
          · refine Or.inr (Or.inr ?_)
            rw [sat_c (fun x s => Xt_rd JT X hc x s) (Xt_nv X hc).1]
            exact a
        · exact ps k hk hne
      · by_cases hne : o = qk A d p
        · rw [hne]; exact Or.inl h0
        · exact fl o ho hne
    · exact oth d hd q
  · by_cases q : d = c
    · subst q
      have S := zSame_Enq F d (zn (qk A d p))
      refine ⟨fun k hk => ?_, fun k hk => ?_, fun o ho => ?_⟩
      · by_cases hne : k = qk A d p
        · rw [hne]; exact Or.inl (inQ_self QF h60)
        · rcases ps k hk hne with a | a | a
          · exact Or.inl (inQ_mono QF a)
          · exact Or.inr (Or.inl ((ps_S hc S).1 a))
          · exact Or.inr (Or.inr ((ps_S hc S).2 a))
      · have rE : nv (aEnq F d (zn (qk A d p))) 1 = nv F 1 ∧ row (aEnq F d (zn (qk A d p))) k 23 = row F k 23 := by
          refine ⟨?_, ?_⟩
          · unfold nv; rw [S _ _ (Or.inl (by omega)) (by omega) (by omega)]
          · unfold row lv; rw [S 14 _ (Or.inl (by omega)) (by omega) (by omega), S 15 _ (Or.inl (by omega)) (by omega) (by omega)]
        rw [rE.1, rE.2]
        rcases Enq_only QF hk with a | a
        · exact kF k ((tin k).mp ((fin k).mp a)).1
        · have hk6 := inQ_60 (QI_Enq _ QF) hk
          have : qk A d p = k := (zn_inj (a := qk A d p) (b := k) (by omega) (by omega)).mp a
          exact kF k ⟨p, hp, this⟩
      · rw [S _ _ (Or.inl (by omega)) (by omega) (by omega)]
        by_cases hne : o = qk A d p
        · rw [hne]; exact Or.inr (inQ_self QF h60)
        · exact (fl o ho hne).imp id fun z => inQ_mono QF z
    · exact CC_other hc hd q (Enq_See _) (oth d hd q)
end
end

section
/-! a controller's queue by itself: keys come once, and who is marked is in it -/
def QI (A : zzMd) (c : Nat) : Prop := (A.1 (3 + c) 11 = zn (qn A c) ∧ qn A c ≤ 60) ∧ (∀ p, p < qn A c → qk A c p < 60) ∧ (∀ p q, p < qn A c → q < qn A c → qk A c p = qk A c q → p = q) ∧ ∀ o, o < 60 → (A.1 (23 + 6 * c) o = 1 ∧ inQ A c o) ∨ (A.1 (23 + 6 * c) o = 0 ∧ ¬ inQ A c o)
section
variable {A R : zzMd} {c : Nat}
theorem QI_of (H : Rl0 A R) (hc : c < 8) : QI A c := by
  obtain ⟨q1, q2, q3, q4⟩ := (H.2.2.1 c hc).2
  have hn := rl_n60 H
  exact ⟨((H.1.2.2.2 c hc).2).1, fun p hp => by have := (q2 p hp).2; omega, q3, fun o ho => (q4 o ho).1⟩
theorem QI_60 (Q : QI A c) {o : Nat} (ho : o < 60) (hn : ¬ inQ A c o) : qn A c < 60 := by
  obtain ⟨q1, q2, q3, q4⟩ := Q
  have := pigeon 60 (qn A c + 1) (fun p => if p < qn A c then qk A c p else o) (fun p hp => by
    show (if p < qn A c then qk A c p else o) < 60
    by_cases h : p < qn A c
    · rw [if_pos h]; exact q2 p h
    · rw [if_neg h]; exact ho) (fun p q hp hq e => by
    have e' : (if p < qn A c then qk A c p else o) = (if q < qn A c then qk A c q else o) := e
    by_cases h1 : p < qn A c
    · rw [if_pos h1] at e'
      by_cases h2 : q < qn A c
      · rw [if_pos h2] at e'; exact q3 p q h1 h2 e'
      · rw [if_neg h2] at e'; exact absurd ⟨p, h1, e'⟩ hn
    · rw [if_neg h1] at e'
      by_cases h2 : q < qn A c
      · rw [if_pos h2] at e'; exact absurd ⟨q, h2, e'.symm⟩ hn
      · omega)
  omega
theorem QI_no (Q : QI A c) {o : Nat} (ho : o < 60) : enqNo A c (zn o) ↔ inQ A c o := by
  have Q' := Q
  obtain ⟨z1, -⟩ := Q
  have hq := z1.1
  have q4 := Q'.2.2.2 o ho
  unfold enqNo
  rw [zn_ix (k := o) (by omega)]
  constructor
  · rintro (h | h | h | h)
    · exact ((zn_lt0 (o := o) (by omega)).mp h).elim
    · exact ((zo_60 ho).mp h).elim
    · by_cases w : inQ A c o
      · exact w
      · have h6 := QI_60 Q' ho w
        rw [hq, show ((60 : Int32) ≤ zn (qn A c)) = False from zo_60 h6] at h
        exact h.elim
    · rcases q4 with ⟨-, w⟩ | ⟨w, -⟩
      · exact w
      · exact absurd w h
  · intro w
    rcases q4 with ⟨z, -⟩ | ⟨-, z⟩
    · refine Or.inr (Or.inr (Or.inr ?_))
      rw [z]; decide
    · exact absurd w z
theorem Enq_no {x : Int32} (h : enqNo A c x) : aEnq A c x = A := by
  unfold aEnq
  rw [if_pos h]
theorem enq_x {x : Int32} (Q : QI A c) (hn : ¬ enqNo A c x) : x = zn (zz_ix x) ∧ zz_ix x < 60 ∧ qn A c < 60 := by
  have h1 : ¬ x < 0 := fun z => hn (Or.inl z)
  have h2 : ¬ 60 ≤ x := fun z => hn (Or.inr (Or.inl z))
  obtain ⟨a, b⟩ := zi_nat h1 h2
  refine ⟨a, b, ?_⟩
  rw [a] at hn
  exact QI_60 Q b (fun w => hn ((QI_no Q b).mpr w))
theorem inQ_mono {x : Int32} (Q : QI A c) {k : Nat} (h : inQ A c k) : inQ (aEnq A c x) c k := by
  by_cases hn : enqNo A c x
  · rw [Enq_no hn]; exact h
  · obtain ⟨e, h60, hq⟩ := enq_x Q hn
    rw [e] at hn ⊢
    obtain ⟨w1, w2, w3⟩ := Enq_q hq h60 hn
    obtain ⟨p, p1, p2⟩ := h
    exact ⟨p, by rw [w1]; omega, (w2 p p1).trans p2⟩
theorem inQ_self (Q : QI A c) {k : Nat} (hk : k < 60) : inQ (aEnq A c (zn k)) c k := by
  by_cases hn : enqNo A c (zn k)
  · rw [Enq_no hn]; exact (QI_no Q hk).mp hn
  · have hq := (enq_x Q hn).2.2
    obtain ⟨w1, w2, w3⟩ := Enq_q hq hk hn
    exact ⟨qn A c, by rw [w1]; omega, w3⟩
theorem inQ_iff {x : Int32} (Q : QI A c) (hn : ¬ enqNo A c x) (k : Nat) : inQ (aEnq A c x) c k ↔ inQ A c k ∨ k = zz_ix x := by
  obtain ⟨e, h60, hq⟩ := enq_x Q hn
  have hn' := hn
  rw [e] at hn'
  obtain ⟨w1, w2, w3⟩ := Enq_q hq h60 hn'
  rw [← e] at w1 w2 w3
  constructor
  · rintro ⟨p, p1, p2⟩
    rw [w1] at p1
    by_cases h : p < qn A c
    · exact Or.inl ⟨p, h, (w2 p h).symm.trans p2⟩
    · have : p = qn A c := by omega
      rw [this, w3] at p2
      exact Or.inr p2.symm
  · rintro (⟨p, p1, p2⟩ | h)
    · exact ⟨p, by rw [w1]; omega, (w2 p p1).trans p2⟩
    · exact ⟨qn A c, by rw [w1]; omega, by rw [w3, h]⟩
theorem QI_Enq (x : Int32) (Q : QI A c) : QI (aEnq A c x) c := by
  by_cases hn : enqNo A c x
  · rw [Enq_no hn]; exact Q
  · obtain ⟨e, h60, hq⟩ := enq_x Q hn
    have hn' := hn
    rw [e] at hn'
    obtain ⟨w1, w2, w3⟩ := Enq_q hq h60 hn'
    rw [← e] at w1 w2 w3
    have hnin : ¬ inQ A c (zz_ix x) := fun w => hn' ((QI_no Q h60).mpr w)
    have iff := inQ_iff Q hn
    obtain ⟨q1, q2, q3, q4⟩ := Q
    refine ⟨⟨?_, by rw [w1]; omega⟩, fun p hp => ?_, fun p q hp hq' e' => ?_, fun o ho => ?_⟩
    · rw [w1, Enq_1 hn, if_pos ⟨rfl, rfl⟩]
    · rw [w1] at hp
      by_cases h : p < qn A c
      · rw [w2 p h]; exact q2 p h
      · rw [show p = qn A c by omega, w3]; exact h60
    · rw [w1] at hp hq'
      by_cases h1 : p < qn A c
      · rw [w2 p h1] at e'
        by_cases h2 : q < qn A c
        · rw [w2 q h2] at e'; exact q3 p q h1 h2 e'
        · rw [show q = qn A c by omega, w3] at e'; exact absurd ⟨p, h1, e'⟩ hnin
      · rw [show p = qn A c by omega, w3] at e'
        by_cases h2 : q < qn A c
        · rw [w2 q h2] at e'; exact absurd ⟨q, h2, e'.symm⟩ hnin
        · omega
    · by_cases h : o = zz_ix x
      · refine Or.inl ⟨?_, (iff o).mpr (Or.inr h)⟩
        rw [Enq_1 hn, if_neg (by omega), if_neg (by omega), if_pos ⟨rfl, h⟩]
      · have f : (aEnq A c x).1 (23 + 6 * c) o = A.1 (23 + 6 * c) o := by
          rw [Enq_1 hn, if_neg (by omega), if_neg (by omega), if_neg (fun z => h z.2)]
        rw [f]
        rcases q4 o ho with ⟨a, b⟩ | ⟨a, b⟩
        · exact Or.inl ⟨a, (iff o).mpr (Or.inl b)⟩
        · exact Or.inr ⟨a, fun z => ((iff o).mp z).elim b h⟩
theorem QI_c {B : zzMd} (h1 : ∀ b, B.1 (22 + 6 * c) b = A.1 (22 + 6 * c) b) (h2 : ∀ b, B.1 (23 + 6 * c) b = A.1 (23 + 6 * c) b) (h3 : B.1 (3 + c) 11 = A.1 (3 + c) 11) : (QI B c ↔ QI A c) ∧ ∀ k, inQ B c k ↔ inQ A c k := by
  have e1 : qn B c = qn A c := by unfold qn; rw [h3]
  have e2 : ∀ p, qk B c p = qk A c p := fun p => by unfold qk; rw [h1]
  have e3 : ∀ k, inQ B c k ↔ inQ A c k := fun k => by
    unfold inQ
    rw [e1]
    exact ⟨fun ⟨p, a, b⟩ => ⟨p, a, (e2 p).symm.trans b⟩, fun ⟨p, a, b⟩ => ⟨p, a, (e2 p).trans b⟩⟩
  refine ⟨?_, e3⟩
  unfold QI
  simp only [e1, e2, h2, h3, e3]
/-- many keys come -/
theorem eqs_Q {P : zzMd → Nat → Bool} (Q : QI A c) : ∀ n, QI (eqs P c n A) c ∧ (∀ k, inQ A c k → inQ (eqs P c n A) c k)
  | 0 => ⟨Q, fun _ h => h⟩
  | n + 1 => by
    obtain ⟨Q1, h1⟩ := eqs_Q (P := P) Q n
    rw [eqs_s]
    cases P (eqs P c n A) n
    · exact ⟨Q1, h1⟩
    · exact ⟨QI_Enq _ Q1, fun k h => inQ_mono Q1 (h1 k h)⟩
theorem eqs_S {P : zzMd → Nat → Bool} : ∀ n, zSame c A (eqs P c n A)
  | 0 => zSame_refl _ _
  | n + 1 => by
    rw [eqs_s]
    cases P (eqs P c n A) n
    · exact eqs_S n
    · exact zSame_trans (eqs_S n) (zSame_Enq _ _ _)
theorem eqs_in {P : zzMd → Nat → Bool} (Q : QI A c) {n k : Nat} (hk : k < n) (hn : n ≤ 60) (hP : ∀ D, zSame c A D → P D k = true) : inQ (eqs P c n A) c k := by
  induction n with
  | zero => omega
  | succ n ih =>
    have Q1 := (eqs_Q (P := P) Q n).1
    rw [eqs_s]
    by_cases h : k < n
    · have h1 := ih h (by omega)
      cases P (eqs P c n A) n
      · exact h1
      · exact inQ_mono Q1 h1
    · have e : k = n := by omega
      subst e
      rw [hP _ (eqs_S k), cond_true]
      exact inQ_self Q1 (by omega)
/-- which keys come -/
theorem eqs_only {P : zzMd → Nat → Bool} (Q : QI A c) {k : Nat} : ∀ n, n ≤ 60 → inQ (eqs P c n A) c k → inQ A c k ∨ (k < n ∧ ∃ D, zSame c A D ∧ P D k = true)
  | 0, _, h => Or.inl h
  | n + 1, hn, h => by
    have Q1 := (eqs_Q (P := P) Q n).1
    rw [eqs_s] at h
    cases hp : P (eqs P c n A) n
    · rw [hp] at h
      exact (eqs_only Q n (by omega) h).imp id fun ⟨a, b⟩ => ⟨by omega, b⟩
    · rw [hp, cond_true] at h
      by_cases hno : enqNo (eqs P c n A) c (zn n)
      · rw [Enq_no hno] at h
        exact (eqs_only Q n (by omega) h).imp id fun ⟨a, b⟩ => ⟨by omega, b⟩
      · rcases (inQ_iff Q1 hno k).mp h with h1 | h1
        · exact (eqs_only Q n (by omega) h1).imp id fun ⟨a, b⟩ => ⟨by omega, b⟩
        · rw [zn_ix (by omega)] at h1
          subst h1
          exact Or.inr ⟨by omega, _, eqs_S _, hp⟩
theorem Enq_only {x : Int32} (Q : QI A c) {k : Nat} (h : inQ (aEnq A c x) c k) : inQ A c k ∨ x = zn k := by
  by_cases hn : enqNo A c x
  · rw [Enq_no hn] at h; exact Or.inl h
  · rcases (inQ_iff Q hn k).mp h with h1 | h1
    · exact Or.inl h1
    · rw [h1]; exact Or.inr (enq_x Q hn).1
end
end

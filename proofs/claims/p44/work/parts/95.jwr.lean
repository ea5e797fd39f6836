section
/-! what writes leave -/
def Xt (A B : zzMd) : Prop := (ve A 1 ≤ ve B 1 ∧ nv A 1 ≤ nv B 1) ∧ (∀ k, k ≤ ve A 1 → obj B k = obj A k ∧ ∀ s, s < 32 → lg B k s = lg A k s) ∧
  (∀ c, c < 8 → ∀ b, B.1 (3 + c) b = A.1 (3 + c) b ∧ B.1 (21 + 6 * c) b = A.1 (21 + 6 * c) b ∧ B.1 (22 + 6 * c) b = A.1 (22 + 6 * c) b ∧ B.1 (23 + 6 * c) b = A.1 (23 + 6 * c) b) ∧ ∀ w, w < nv A 1 → row B w 23 = row A w 23
theorem Xt_refl (A : zzMd) : Xt A A := ⟨⟨Nat.le_refl _, Nat.le_refl _⟩, fun _ _ => ⟨rfl, fun _ _ => rfl⟩, fun _ _ _ => ⟨rfl, rfl, rfl, rfl⟩, fun _ _ => rfl⟩
theorem Xt_trans {A B C : zzMd} (h : Xt A B) (g : Xt B C) : Xt A C := by
  obtain ⟨⟨a1, a2⟩, a3, a4, a5⟩ := h
  obtain ⟨⟨b1, b2⟩, b3, b4, b5⟩ := g
  refine ⟨⟨Nat.le_trans a1 b1, Nat.le_trans a2 b2⟩, fun k hk => ?_, fun c hc b => ?_, fun w hw => (b5 w (Nat.lt_of_lt_of_le hw a2)).trans (a5 w hw)⟩
  · obtain ⟨c1, c2⟩ := a3 k hk
    obtain ⟨d1, d2⟩ := b3 k (Nat.le_trans hk a1)
    exact ⟨d1.trans c1, fun s hs => (d2 s hs).trans (c2 s hs)⟩
  · obtain ⟨c1, c2, c3, c4⟩ := a4 c hc b
    obtain ⟨d1, d2, d3, d4⟩ := b4 c hc b
    exact ⟨d1.trans c1, d2.trans c2, d3.trans c3, d4.trans c4⟩
section
variable {A R : zzMd}
theorem Xt_put (H : JJ A) {o : Nat} {D : Nat → Int32} (he : ve A 1 < 400) (h60 : o < 60) (dk : o < nv A 1 → D 23 = row A o 23) : Xt A (put A o D) := by
  have hn := (Lg_n60 H.1).1
  refine ⟨⟨by rw [put_ve he]; omega, by rw [put_nv h60 hn]; exact Nat.le_max_left _ _⟩, fun k hk => ⟨put_obj o D hk, fun s hs => put_lg o D hk hs⟩, fun c hc b => ⟨put_o (by omega) (by omega) (by omega), put_o (by omega) (by omega) (by omega), put_o (by omega) (by omega) (by omega), put_o (by omega) (by omega) (by omega)⟩, fun w hw => ?_⟩
  rw [put_row H.1 he h60 (by omega) (by decide)]
  by_cases q : w = o
  · rw [if_pos q, q]; rw [q] at hw; exact dk hw
  · rw [if_neg q]
/-- a write's ends: nothing was another one; an event more; the log is full -/
def WR (A : zzMd) (o : Nat) (D : Nat → Int32) (p : Bool × zzMd) : Prop :=
  (p = (true, A) ∧ ∀ s, s < 32 → D s = row A o s) ∨ (p = (false, A) ∧ 400 ≤ ve A 1) ∨
  (p.1 = true ∧ p.2 = put A o D ∧ ve A 1 < 400 ∧ ¬ ∀ s, s < 32 → D s = row A o s)
theorem WR_wr (A : zzMd) (o : Nat) (D : Nat → Int32) : WR A o (dOw D) (aWr A o D) := by
  unfold aWr WR
  cases h : zall 32 fun s => decide (dOw D s = row A o s)
  · have h1 : ¬ ∀ s, s < 32 → dOw D s = row A o s := fun z => by
      rw [zall_iff.mpr fun s hs => decide_eq_true (z s hs)] at h
      cases h
    rw [cond_false]
    by_cases q : 400 ≤ ve A 1
    · rw [decide_eq_true q]; exact Or.inr (Or.inl ⟨rfl, q⟩)
    · rw [decide_eq_false q]; exact Or.inr (Or.inr ⟨rfl, rfl, by omega, h1⟩)
  · exact Or.inl ⟨rfl, fun s hs => of_decide_eq_true (zall_iff.mp h s hs)⟩
theorem WR_J {o : Nat} {D : Nat → Int32} {p : Bool × zzMd} (w : WR A o D p) (H : JJ A) (ho : o ≤ nv A 1) (h60 : o < 60) (ok : okD A o D) : JJ p.2 ∧ Xt A p.2 := by
  rcases w with ⟨rfl, -⟩ | ⟨rfl, -⟩ | ⟨-, e, he, -⟩
  · exact ⟨H, Xt_refl A⟩
  · exact ⟨H, Xt_refl A⟩
  · rw [e]; exact ⟨JJ_put H he ho h60 ok, Xt_put H he h60 fun h => (ok.2.1 h).1⟩
/-- what passes is so then -/
theorem WR_row {o : Nat} {D : Nat → Int32} {p : Bool × zzMd} (w : WR A o D p) (L : Lg A) (h60 : o < 60) (t : p.1 = true) {s : Nat} (hs : s < 32) : row p.2 o s = D s := by
  rcases w with ⟨rfl, e⟩ | ⟨rfl, -⟩ | ⟨-, e, he, -⟩
  · exact (e s hs).symm
  · cases t
  · rw [e, put_row L he h60 h60 hs, if_pos rfl]
/-- what passes and is another one is an event -/
theorem WR_ev {o : Nat} {D : Nat → Int32} {p : Bool × zzMd} (w : WR A o D p) (h60 : o < 60) (d22 : D 22 = zn o) (t : p.1 = true) (hne : ¬ ∀ s, s < 32 → D s = row A o s) : ve p.2 1 = ve A 1 + 1 ∧ obj p.2 (ve A 1 + 1) = o ∧ (∀ s, s < 32 → lg p.2 (ve A 1 + 1) s = D s) ∧ p.2 = put A o D ∧ ve A 1 < 400 := by
  rcases w with ⟨rfl, e⟩ | ⟨rfl, -⟩ | ⟨-, e, he, -⟩
  · exact absurd e hne
  · cases t
  · rw [e]; exact ⟨put_ve he, put_objN d22 h60, fun s hs => put_lgN o D hs, rfl, he⟩
/-! drafts -/
theorem dUp_e {D : Nat → Int32} {k : Nat} {x : Int32} : dUp D k x k = x := if_pos rfl
theorem dUp_n {D : Nat → Int32} {k s : Nat} {x : Int32} (h : s ≠ k) : dUp D k x s = D s := if_neg h
theorem dOw_n {D : Nat → Int32} {s : Nat} (h : s ≠ 24) : dOw D s = D s := by
  unfold dOw
  by_cases c : D 25 = 4
  · rw [if_pos c]; exact dUp_n h
  · rw [if_neg c]
theorem dOw_24 {D : Nat → Int32} : dOw D 24 = if D 25 = 4 then -1 else D 24 := by
  unfold dOw
  by_cases c : D 25 = 4
  · rw [if_pos c, if_pos c]; exact dUp_e
  · rw [if_neg c, if_neg c]
theorem ok_up (H : JJ A) {o : Nat} (ho : o < nv A 1) {E : Nat → Int32} (e22 : E 22 = row A o 22) (e23 : E 23 = row A o 23) (e24 : E 24 = row A o 24 ∨ E 24 = -1) (pl : E 28 = -1 ∨ ∃ p, p < nv A 1 ∧ E 28 = zn p ∧ row A p 23 = 4)
    (ph : E 23 = 2 → E 29 = 0 ∨ ¬ E 28 = -1 ∨ ¬ E 25 = 0) (bd : E 23 = 0 → ¬ (E 2 = 0 ∧ E 3 = 0)) (mg : ∀ f, f < 11 → ∃ a, a ≤ 5 ∧ E (11 + f) = zn a) : okD A o (dOw E) := by
  obtain ⟨j1, -⟩ := JJ_cur H ho
  have e : ∀ s, s ≠ 24 → dOw E s = E s := fun s h => dOw_n h
  have f24 : dOw E 24 = row A o 24 ∨ dOw E 24 = -1 := by
    rw [dOw_24]
    by_cases c : E 25 = 4
    · rw [if_pos c]; exact Or.inr rfl
    · rw [if_neg c]; exact e24
  refine ⟨(e 22 (by decide)).trans (e22.trans (Lg_cur H.1 ho).1), fun _ => ⟨(e 23 (by decide)).trans e23, f24⟩, ?_, ?_, ?_, ?_, fun f hf => ?_⟩
  · rcases f24 with a | a
    · rw [a, e 23 (by decide), e23]; exact j1
    · exact Or.inl a
  · rw [e 28 (by decide)]; exact pl
  · rw [e 23 (by decide), e 29 (by decide), e 28 (by decide), e 25 (by decide)]; exact ph
  · rw [e 23 (by decide), e 2 (by decide), e 3 (by decide)]; exact bd
  · rw [e (11 + f) (by omega)]; exact mg f hf
/-- one slot, which says nothing of owner, place, phase, budget -/
theorem ok_s (H : JJ A) {o k : Nat} (ho : o < nv A 1) (hk : k = 26 ∨ k = 27 ∨ k = 30 ∨ k = 31) (v : Int32) : okD A o (dOw (dUp (row A o) k v)) := by
  obtain ⟨j1, j2, j3, j4, j5⟩ := JJ_cur H ho
  have e : ∀ s, s < 26 ∨ s = 28 ∨ s = 29 → dUp (row A o) k v s = row A o s := fun s h => dUp_n (by omega)
  refine ok_up H ho (e 22 (by omega)) (e 23 (by omega)) (Or.inl (e 24 (by omega))) ?_ ?_ ?_ fun f hf => ?_
  · rw [e 28 (by omega)]; exact j2
  · rw [e 23 (by omega), e 29 (by omega), e 28 (by omega), e 25 (by omega)]; exact j3
  · rw [e 23 (by omega), e 2 (by omega), e 3 (by omega)]; exact j4
  · rw [e (11 + f) (by omega)]; exact j5 f hf
theorem ok_30 (H : JJ A) {o : Nat} (ho : o < nv A 1) (x y : Int32) : okD A o (dOw (dUp (dUp (row A o) 30 x) 31 y)) := by
  obtain ⟨j1, j2, j3, j4, j5⟩ := JJ_cur H ho
  have e : ∀ s, s < 30 → dUp (dUp (row A o) 30 x) 31 y s = row A o s := fun s h => by rw [dUp_n (by omega), dUp_n (by omega)]
  refine ok_up H ho (e 22 (by omega)) (e 23 (by omega)) (Or.inl (e 24 (by omega))) ?_ ?_ ?_ fun f hf => ?_
  · rw [e 28 (by omega)]; exact j2
  · rw [e 23 (by omega), e 29 (by omega), e 28 (by omega), e 25 (by omega)]; exact j3
  · rw [e 23 (by omega), e 2 (by omega), e 3 (by omega)]; exact j4
  · rw [e (11 + f) (by omega)]; exact j5 f hf
theorem ok_29 (H : JJ A) {o : Nat} (ho : o < nv A 1) (v : Int32) (hp : ¬ row A o 28 = -1 ∨ ¬ row A o 25 = 0) : okD A o (dOw (dUp (row A o) 29 v)) := by
  obtain ⟨j1, j2, j3, j4, j5⟩ := JJ_cur H ho
  have e : ∀ s, s ≠ 29 → dUp (row A o) 29 v s = row A o s := fun s h => dUp_n h
  refine ok_up H ho (e 22 (by omega)) (e 23 (by omega)) (Or.inl (e 24 (by omega))) ?_ (fun _ => Or.inr ?_) ?_ fun f hf => ?_
  · rw [e 28 (by omega)]; exact j2
  · rw [e 28 (by omega), e 25 (by omega)]; exact hp
  · rw [e 23 (by omega), e 2 (by omega), e 3 (by omega)]; exact j4
  · rw [e (11 + f) (by omega)]; exact j5 f hf
/-- going -/
theorem ok_25 (H : JJ A) {o : Nat} (ho : o < nv A 1) {v : Int32} (h0 : ¬ v = 0) : okD A o (dOw (dUp (row A o) 25 v)) := by
  obtain ⟨j1, j2, j3, j4, j5⟩ := JJ_cur H ho
  have e : ∀ s, s ≠ 25 → dUp (row A o) 25 v s = row A o s := fun s h => dUp_n h
  refine ok_up H ho (e 22 (by omega)) (e 23 (by omega)) (Or.inl (e 24 (by omega))) ?_ (fun _ => Or.inr (Or.inr (by rw [dUp_e]; exact h0))) ?_ fun f hf => ?_
  · rw [e 28 (by omega)]; exact j2
  · rw [e 23 (by omega), e 2 (by omega), e 3 (by omega)]; exact j4
  · rw [e (11 + f) (by omega)]; exact j5 f hf
theorem ok_24 (H : JJ A) {o : Nat} (ho : o < nv A 1) : okD A o (dOw (dUp (row A o) 24 (-1))) := by
  obtain ⟨j1, j2, j3, j4, j5⟩ := JJ_cur H ho
  have e : ∀ s, s ≠ 24 → dUp (row A o) 24 (-1) s = row A o s := fun s h => dUp_n h
  refine ok_up H ho (e 22 (by omega)) (e 23 (by omega)) (Or.inr dUp_e) ?_ ?_ ?_ fun f hf => ?_
  · rw [e 28 (by omega)]; exact j2
  · rw [e 23 (by omega), e 29 (by omega), e 28 (by omega), e 25 (by omega)]; exact j3
  · rw [e 23 (by omega), e 2 (by omega), e 3 (by omega)]; exact j4
  · rw [e (11 + f) (by omega)]; exact j5 f hf
theorem ok_28 (H : JJ A) {o : Nat} (ho : o < nv A 1) {p : Nat} (hp : p < nv A 1) (hk : row A p 23 = 4) : okD A o (dOw (dUp (row A o) 28 (zn p))) := by
  obtain ⟨j1, j2, j3, j4, j5⟩ := JJ_cur H ho
  have hn := (Lg_n60 H.1).1
  have np : ¬ zn p = -1 := (zn_m1 (k := p) (by omega)).mp
  have e : ∀ s, s ≠ 28 → dUp (row A o) 28 (zn p) s = row A o s := fun s h => dUp_n h
  refine ok_up H ho (e 22 (by omega)) (e 23 (by omega)) (Or.inl (e 24 (by omega))) (Or.inr ⟨p, hp, dUp_e, hk⟩) (fun _ => Or.inr (Or.inl (by rw [dUp_e]; exact np))) ?_ fun f hf => ?_
  · rw [e 23 (by omega), e 2 (by omega), e 3 (by omega)]; exact j4
  · rw [e (11 + f) (by omega)]; exact j5 f hf
/-- a place is cleared -/
theorem ok_2825 (H : JJ A) {o : Nat} (ho : o < nv A 1) {v : Int32} (h0 : ¬ v = 0) : okD A o (dOw (dUp (dUp (row A o) 28 (-1)) 25 v)) := by
  obtain ⟨j1, j2, j3, j4, j5⟩ := JJ_cur H ho
  have e : ∀ s, s ≠ 25 → s ≠ 28 → dUp (dUp (row A o) 28 (-1)) 25 v s = row A o s := fun s h1 h2 => by rw [dUp_n h1, dUp_n h2]
  refine ok_up H ho (e 22 (by omega) (by omega)) (e 23 (by omega) (by omega)) (Or.inl (e 24 (by omega) (by omega))) (Or.inl (by rw [dUp_n (by decide)]; exact dUp_e)) (fun _ => Or.inr (Or.inr (by rw [dUp_e]; exact h0))) ?_ fun f hf => ?_
  · rw [e 23 (by omega) (by omega), e 2 (by omega) (by omega), e 3 (by omega) (by omega)]; exact j4
  · rw [e (11 + f) (by omega) (by omega)]; exact j5 f hf
/-- a field is applied -/
theorem ok_f (H : JJ A) {o : Nat} (ho : o < nv A 1) {f m : Nat} (hf : f < 11) (x : Int32) (hm : m ≤ 5) (bd : row A o 23 = 0 → ¬ (dUp (row A o) f x 2 = 0 ∧ dUp (row A o) f x 3 = 0)) : okD A o (dOw (dUp (dUp (row A o) f x) (11 + f) (zn m))) := by
  obtain ⟨j1, j2, j3, j4, j5⟩ := JJ_cur H ho
  have e : ∀ s, 22 ≤ s → dUp (dUp (row A o) f x) (11 + f) (zn m) s = row A o s := fun s h => by rw [dUp_n (by omega), dUp_n (by omega)]
  refine ok_up H ho (e 22 (by decide)) (e 23 (by decide)) (Or.inl (e 24 (by decide))) ?_ ?_ ?_ fun i hi => ?_
  · rw [e 28 (by decide)]; exact j2
  · rw [e 23 (by decide), e 29 (by decide), e 28 (by decide), e 25 (by decide)]; exact j3
  · rw [e 23 (by decide), dUp_n (show 2 ≠ 11 + f by omega), dUp_n (show 3 ≠ 11 + f by omega)]; exact bd
  · by_cases q : i = f
    · rw [q, dUp_e]; exact ⟨m, hm, rfl⟩
    · rw [dUp_n (by omega), dUp_n (by omega)]; exact j5 i hi
/-- no rules, no checks -/
theorem settled_0 (h : nr A = 0) (D : Nat → Int32) : settled A D = (true, D) := by
  have e : rules A D = D := by unfold rules; rw [h]; rfl
  have s : same11 D D = true := zall_iff.mpr fun i _ => decide_eq_true rfl
  unfold settled settle
  rw [e, s]; rfl
theorem allowed_0 (h : nc A = 0) (D : Nat → Int32) : allowed A D = !decide (D 23 = 0 ∧ D 2 = 0 ∧ D 3 = 0) := by
  unfold allowed
  rw [h, show zall 0 (fun i => !decide (cP A i 0 = D 23 ∧ ¬ D (zz_ix (cP A i 1)) ≤ cP A i 2)) = true from rfl, Bool.and_true]
theorem Ad_0 (H : JJ A) (o : Nat) (D : Nat → Int32) : aAd A o D = if D 23 = 0 ∧ D 2 = 0 ∧ D 3 = 0 then (false, A) else aWr A o D := by
  unfold aAd
  rw [settled_0 H.2.1.1, allowed_0 H.2.1.2]
  show (bif true && !decide (D 23 = 0 ∧ D 2 = 0 ∧ D 3 = 0) then aWr A o D else (false, A)) = _
  by_cases h : D 23 = 0 ∧ D 2 = 0 ∧ D 3 = 0
  · rw [decide_eq_true h, if_pos h]; rfl
  · rw [decide_eq_false h, if_neg h]; rfl
/-- applying a field: it is not refused but for a budget of 0, or a full log -/
theorem Ap_0 (H : JJ A) {o : Nat} (ho : o < nv A 1) {f m : Nat} (hf : f < 11) (hF : hasF (row A o 23) (zn f) = true) (x : Int32) (hm : m ≤ 5) :
    (row A o 23 = 0 ∧ (f = 2 ∨ f = 3) ∧ aAp A (zn m) o (zn f) x = (false, A)) ∨ (okD A o (dOw (dUp (dUp (row A o) f x) (11 + f) (zn m))) ∧ aAp A (zn m) o (zn f) x = aWr A o (dUp (dUp (row A o) f x) (11 + f) (zn m))) := by
  have e : aAp A (zn m) o (zn f) x = aAd A o (dUp (dUp (row A o) f x) (11 + f) (zn m)) := by
    unfold aAp
    rw [hF, zn_ix (k := f) (by omega)]; rfl
  have j4 := (JJ_cur H ho).2.2.2.1
  rw [e, Ad_0 H, dUp_n (show 23 ≠ 11 + f by omega), dUp_n (show 23 ≠ f by omega), dUp_n (show 2 ≠ 11 + f by omega), dUp_n (show 3 ≠ 11 + f by omega)]
  by_cases h : row A o 23 = 0 ∧ dUp (row A o) f x 2 = 0 ∧ dUp (row A o) f x 3 = 0
  · rw [if_pos h]
    refine Or.inl ⟨h.1, Decidable.byContradiction fun q => ?_, rfl⟩
    have q2 : 2 ≠ f := fun z => q (Or.inl z.symm)
    have q3 : 3 ≠ f := fun z => q (Or.inr z.symm)
    rw [dUp_n q2, dUp_n q3] at h
    exact j4 h.1 h.2
  · rw [if_neg h]
    exact Or.inr ⟨ok_f H ho hf x hm fun z => fun y => h ⟨z, y⟩, rfl⟩
theorem J_Ap (H : JJ A) {o : Nat} (ho : o < nv A 1) {f m : Nat} (hf : f < 11) (x : Int32) (hm : m ≤ 5) : JJ (aAp A (zn m) o (zn f) x).2 ∧ Xt A (aAp A (zn m) o (zn f) x).2 := by
  cases hF : hasF (row A o 23) (zn f)
  · have e : aAp A (zn m) o (zn f) x = (false, A) := by unfold aAp; rw [hF]; rfl
    rw [e]; exact ⟨H, Xt_refl A⟩
  · rcases Ap_0 H ho hf hF x hm with ⟨-, -, e⟩ | ⟨ok, e⟩
    · rw [e]; exact ⟨H, Xt_refl A⟩
    · rw [e]
      have h60 : o < 60 := Nat.lt_of_lt_of_le ho (Lg_n60 H.1).1
      exact WR_J (WR_wr A o _) H (Nat.le_of_lt ho) h60 ok
theorem J_wr (H : JJ A) {o : Nat} (ho : o < nv A 1) {D : Nat → Int32} (ok : okD A o (dOw D)) : JJ (aWr A o D).2 ∧ Xt A (aWr A o D).2 :=
  WR_J (WR_wr A o D) H (Nat.le_of_lt ho) (Nat.lt_of_lt_of_le ho (Lg_n60 H.1).1) ok
/-- a new object -/
theorem ok_new (H : JJ A) {m k : Nat} {w : Int32} (t : Int32) (hm : m ≤ 5) (hw : w = -1 ∨ ∃ i, i < nv A 1 ∧ w = zn i ∧ ((zn k = 1 ∧ row A i 23 = 0) ∨ (zn k = 2 ∧ (row A i 23 = 1 ∨ row A i 23 = 3)))) : okD A (nv A 1) (dOw (dNew (zn m) (zn k) w t (nv A 1))) := by
  have e : dOw (dNew (zn m) (zn k) w t (nv A 1)) = dNew (zn m) (zn k) w t (nv A 1) := dOw_good fun z => absurd (show (0 : Int32) = 4 from z) (by decide)
  rw [e]
  refine ⟨rfl, fun h => absurd h (Nat.lt_irrefl _), hw, Or.inl rfl, fun _ => Or.inl rfl, fun _ z => absurd (show (1 : Int32) = 0 from z.1) (by decide), fun f hf => ⟨m, hm, ?_⟩⟩
  unfold dNew
  rw [if_neg (by omega), if_neg (by omega), if_neg (by omega), if_neg (by omega), if_pos (by omega)]
theorem J_16 {o : Nat} {x : Int32} (H : JJ A) : JJ (zz_sI A 16 o x) := by
  obtain ⟨⟨a, l2, l3, l4, l5, l6⟩, c⟩ := H
  refine ⟨⟨zIC_16.mpr a, l2, l3, l4, l5, fun d hd => ?_⟩, c⟩
  obtain ⟨v1, v2, v3⟩ := l6 d hd
  have f1 : ve (zz_sI A 16 o x) (3 + d) = ve A (3 + d) := by unfold ve; rw [sI_a (by omega)]
  have f2 : nv (zz_sI A 16 o x) (3 + d) = nv A (3 + d) := by unfold nv; rw [sI_a (by omega)]
  rw [f1, f2]
  exact ⟨v1, v2, fun q hq => (sI_a (by omega)).trans (v3 q hq)⟩
theorem Xt_16 {B : zzMd} {o : Nat} {x : Int32} (h : Xt A B) : Xt A (zz_sI B 16 o x) := by
  obtain ⟨a, b, c, d⟩ := h
  refine ⟨a, b, fun k hk q => ?_, d⟩
  obtain ⟨c1, c2, c3, c4⟩ := c k hk q
  exact ⟨(sI_a (by omega)).trans c1, (sI_a (by omega)).trans c2, (sI_a (by omega)).trans c3, (sI_a (by omega)).trans c4⟩
/-- what a new object's making leaves -/
theorem Open_0 (H : JJ A) {m k : Nat} {w : Int32} (t : Int32) (hm : m ≤ 5) (hw : w = -1 ∨ ∃ i, i < nv A 1 ∧ w = zn i ∧ ((zn k = 1 ∧ row A i 23 = 0) ∨ (zn k = 2 ∧ (row A i 23 = 1 ∨ row A i 23 = 3)))) :
    (aOpen A (zn m) (zn k) w t = (-1, A) ∧ (60 ≤ nv A 1 ∨ zn k = 2 ∨ 400 ≤ ve A 1)) ∨ (aOpen A (zn m) (zn k) w t = (zn (nv A 1), zz_sI (put A (nv A 1) (dNew (zn m) (zn k) w t (nv A 1))) 16 (nv A 1) (A.1 1 7)) ∧ nv A 1 < 60 ∧ ve A 1 < 400) := by
  unfold aOpen
  by_cases h : 60 ≤ nv A 1 ∨ zn k = 2 ∧ ¬ zn (liveP A) < A.1 2 5
  · rw [if_pos h]
    exact Or.inl ⟨rfl, h.elim Or.inl fun z => Or.inr (Or.inl z.1)⟩
  · rw [if_neg h, Ad_0 H, if_neg (fun z => absurd (show (1 : Int32) = 0 from z.2.1) (by decide))]
    have hn : nv A 1 < 60 := Nat.lt_of_not_le fun q => h (Or.inl q)
    have e : dOw (dNew (zn m) (zn k) w t (nv A 1)) = dNew (zn m) (zn k) w t (nv A 1) := dOw_good fun z => absurd (show (0 : Int32) = 4 from z) (by decide)
    have hwr := WR_wr A (nv A 1) (dNew (zn m) (zn k) w t (nv A 1))
    rw [e] at hwr
    rcases hwr with ⟨-, q⟩ | ⟨q, q2⟩ | ⟨q, q2, q3, -⟩
    · have := q 25 (by decide)
      rw [row_un H.1 (Nat.lt_irrefl _) hn (by decide), if_pos rfl] at this
      exact absurd (show (0 : Int32) = 4 from this) (by decide)
    · rw [q]; exact Or.inl ⟨rfl, Or.inr (Or.inr q2)⟩
    · rw [q, q2]; exact Or.inr ⟨rfl, hn, q3⟩
theorem J_Open (H : JJ A) {m k : Nat} {w : Int32} (t : Int32) (hm : m ≤ 5) (hw : w = -1 ∨ ∃ i, i < nv A 1 ∧ w = zn i ∧ ((zn k = 1 ∧ row A i 23 = 0) ∨ (zn k = 2 ∧ (row A i 23 = 1 ∨ row A i 23 = 3)))) : JJ (aOpen A (zn m) (zn k) w t).2 ∧ Xt A (aOpen A (zn m) (zn k) w t).2 := by
  rcases Open_0 H t hm hw with ⟨e, -⟩ | ⟨e, hn, he⟩
  · rw [e]; exact ⟨H, Xt_refl A⟩
  · rw [e]
    have ok := ok_new H t hm hw
    have eD : dOw (dNew (zn m) (zn k) w t (nv A 1)) = dNew (zn m) (zn k) w t (nv A 1) := dOw_good fun z => absurd (show (0 : Int32) = 4 from z) (by decide)
    rw [eD] at ok
    exact ⟨J_16 (JJ_put H he (Nat.le_refl _) hn ok), Xt_16 (Xt_put H he hn fun h => absurd h (Nat.lt_irrefl _))⟩
end
end

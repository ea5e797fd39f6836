section
/-! what writes leave -/
def Xt (A B : zzMd) : Prop := (ve A 1 ≤ ve B 1 ∧ nv A 1 ≤ nv B 1) ∧ (∀ k, k ≤ ve A 1 → obj B k = obj A k ∧ ∀ s, s < 32 → lg B k s = lg A k s) ∧
  (∀ c, c < 8 → ∀ b, B.1 (3 + c) b = A.1 (3 + c) b ∧ B.1 (21 + 6 * c) b = A.1 (21 + 6 * c) b ∧ B.1 (22 + 6 * c) b = A.1 (22 + 6 * c) b ∧ B.1 (23 + 6 * c) b = A.1 (23 + 6 * c) b) ∧ ∀ w, w < nv A 1 → row B w 23 = row A w 23
theorem Xt_refl (A : zzMd) : Xt A A := ⟨⟨Nat.le_refl _, Nat.le_refl _⟩, fun _ _ => ⟨rfl, fun _ _ => rfl⟩, fun _ _ _ => ⟨rfl, rfl, rfl, rfl⟩, fun _ _ => rfl⟩
theorem Xt_trans {A B C : zzMd} (h : Xt A B) (g : Xt B C) : Xt A C := by
  obtain ⟨⟨a1, a2⟩, a3, a4, a5⟩ := h
  obtain ⟨⟨b1, b2⟩, b3, b4, b5⟩ := g
  refine ⟨⟨Nat.le_trans a1 b1, Nat.le_trans a2 b2⟩, fun k hk => ?_, fun c hc b => ?_, fun w hw => (b5 w (Nat.lt_of_lt_of_le hw a2)).trans (a5 w hw)⟩
  · obtain ⟨c1, c2⟩ := a3 k hk
    obtain ⟨d1, d2⟩ := b3 k (Nat.le_trans hk a1)
    exact ⟨d1.trans c1, fun s hs => (d2 s hs).trans (c2 s hs)⟩
  · obtain ⟨c1, c2, c3, c4⟩ := a4 c hc b
    obtain ⟨d1, d2, d3, d4⟩ := b4 c hc b
    exact ⟨d1.trans c1, d2.trans c2, d3.trans c3, d4.trans c4⟩
section
variable {A R : zzMd}
theorem Xt_put (H : JJ A) {o : Nat} {D : Nat → Int32} (he : ve A 1 < 400) (h60 : o < 60) (dk : o < nv A 1 → D 23 = row A o 23) : Xt A (put A o D) := by
  have hn := (Lg_n60 H.1).1
  refine ⟨⟨by rw [put_ve he]; omega, by rw [put_nv h60 hn]; exact Nat.le_max_left _ _⟩, fun k hk => ⟨put_obj o D hk, fun s hs => put_lg o D hk hs⟩, fun c hc b => ⟨put_o (by omega) (by omega) (by omega), put_o (by omega) (by omega) (by omega), put_o (by omega) (by omega) (by omega), put_o (by omega) (by omega) (by omega)⟩, fun w hw => ?_⟩
  rw [put_row H.1 he h60 (by omega) (by decide)]
  by_cases q : w = o
  · rw [if_pos q, q]; rw [q] at hw; exact dk hw
  · rw [if_neg q]
/-- a write's ends: nothing was another one; an event more; the log is full -/
def WR (A : zzMd) (o : Nat) (D : Nat → Int32) (p : Bool × zzMd) : Prop :=
  (p = (true, A) ∧ ∀ s, s < 32 → D s = row A o s) ∨ (p = (false, A) ∧ 400 ≤ ve A 1) ∨
  (p.1 = true ∧ p.2 = put A o D ∧ ve A 1 < 400 ∧ ¬ ∀ s, s < 32 → D s = row A o s)
theorem WR_wr (A : zzMd) (o : Nat) (D : Nat → Int32) : WR A o (dOw D) (aWr A o D) := by
  unfold aWr WR
  cases h : zall 32 fun s => decide (dOw D s = row A o s)
  · have h1 : ¬ ∀ s, s < 32 → dOw D s = row A o s := fun z => by
      rw [zall_iff.mpr fun s hs => decide_eq_true (z s hs)] at h
      cases h
    rw [cond_false]
    by_cases q : 400 ≤ ve A 1
    · rw [decide_eq_true q]; exact Or.inr (Or.inl ⟨rfl, q⟩)
    · rw [decide_eq_false q]; exact Or.inr (Or.inr ⟨rfl, rfl, by omega, h1⟩)
  · exact Or.inl ⟨rfl, fun s hs => of_decide_eq_true (zall_iff.mp h s hs)⟩
theorem WR_J {o : Nat} {D : Nat → Int32} {p : Bool × zzMd} (w : WR A o D p) (H : JJ A) (ho : o ≤ nv A 1) (h60 : o < 60) (ok : okD A o D) : JJ p.2 ∧ Xt A p.2 := by
  rcases w with ⟨rfl, -⟩ | ⟨rfl, -⟩ | ⟨-, e, he, -⟩
  · exact ⟨H, Xt_refl A⟩
  · exact ⟨H, Xt_refl A⟩
  · rw [e]; exact ⟨JJ_put H he ho h60 ok, Xt_put H he h60 fun h => (ok.2.2.1 h).1⟩
/-- what passes is so then -/
theorem WR_row {o : Nat} {D : Nat → Int32} {p : Bool × zzMd} (w : WR A o D p) (L : Lg A) (h60 : o < 60) (t : p.1 = true) {s : Nat} (hs : s < 32) : row p.2 o s = D s := by
  rcases w with ⟨rfl, e⟩ | ⟨rfl, -⟩ | ⟨-, e, he, -⟩
  · exact (e s hs).symm
  · cases t
  · rw [e, put_row L he h60 h60 hs, if_pos rfl]
/-- what passes and is another one is an event -/
theorem WR_ev {o : Nat} {D : Nat → Int32} {p : Bool × zzMd} (w : WR A o D p) (h60 : o < 60) (d22 : D 22 = zn o) (t : p.1 = true) (hne : ¬ ∀ s, s < 32 → D s = row A o s) : ve p.2 1 = ve A 1 + 1 ∧ obj p.2 (ve A 1 + 1) = o ∧ (∀ s, s < 32 → lg p.2 (ve A 1 + 1) s = D s) ∧ p.2 = put A o D ∧ ve A 1 < 400 := by
  rcases w with ⟨rfl, e⟩ | ⟨rfl, -⟩ | ⟨-, e, he, -⟩
  · exact absurd e hne
  · cases t
  · rw [e]; exact ⟨put_ve he, put_objN d22 h60, fun s hs => put_lgN o D hs, rfl, he⟩
/-! drafts -/
theorem dUp_e {D : Nat → Int32} {k : Nat} {x : Int32} : dUp D k x k = x := if_pos rfl
theorem dUp_n {D : Nat → Int32} {k s : Nat} {x : Int32} (h : s ≠ k) : dUp D k x s = D s := if_neg h
theorem dOw_n {D : Nat → Int32} {s : Nat} (h : s ≠ 24) : dOw D s = D s := by
  unfold dOw
  by_cases c : D 25 = 4
  · rw [if_pos c]; exact dUp_n h
  · rw [if_neg c]
theorem dOw_24 {D : Nat → Int32} : dOw D 24 = if D 25 = 4 then -1 else D 24 := by
  unfold dOw
  by_cases c : D 25 = 4
  · rw [if_pos c, if_pos c]; exact dUp_e
  · rw [if_neg c, if_neg c]
theorem goodD_of {D E : Nat → Int32} (g : goodD D) (e22 : E 22 = D 22) (e23 : E 23 = D 23) (e24 : E 24 = D 24 ∨ E 24 = -1) (fF : goodF E) (e25 : ∃ q, q ≤ 4 ∧ E 25 = zn q) (e26 : E 26 = 0 ∨ E 26 = 1) (e27 : E 27 = 0 ∨ E 27 = 1)
    (e28 : E 28 = -1 ∨ ∃ p, p < 60 ∧ E 28 = zn p ∧ E 23 = 2) (e29 : ∃ h, h ≤ 3 ∧ E 29 = zn h) (gn : E 25 = 4 → E 24 = -1 ∧ E 28 = -1) : goodD E := by
  obtain ⟨g0, g1, g2, -⟩ := g
  refine ⟨fF, by rw [e23]; exact g1, ?_, e25, e26, e27, e28, e29, gn⟩
  rcases e24 with a | a
  · rw [a, e22]; exact g2
  · exact Or.inl a
theorem okD_of (H : JJ A) {o : Nat} (ho : o < nv A 1) {E : Nat → Int32} (e22 : E 22 = row A o 22) (e23 : E 23 = row A o 23) (e24 : E 24 = row A o 24 ∨ E 24 = -1) (gE : goodD E) (pl : E 28 = -1 ∨ ∃ p, p < nv A 1 ∧ E 28 = zn p ∧ row A p 23 = 4)
    (ph : E 23 = 2 → E 29 = 0 ∨ ¬ E 28 = -1 ∨ ¬ E 25 = 0) (bd : E 23 = 0 → ¬ (E 2 = 0 ∧ E 3 = 0)) (mg : ∀ f, f < 11 → ∃ a, a ≤ 5 ∧ E (11 + f) = zn a) : okD A o E := by
  obtain ⟨j1, -⟩ := JJ_cur H ho
  refine ⟨e22.trans (Lg_cur H.1 ho).2.1, gE, fun _ => ⟨e23, e24⟩, ?_, pl, ph, bd, mg⟩
  rcases e24 with a | a
  · rw [a, e23]; exact j1
  · exact Or.inl a
/-- one slot of held, ready, phase, behind -/
theorem ok_26 (H : JJ A) {o : Nat} (ho : o < nv A 1) {v : Int32} (hv : v = 0 ∨ v = 1) : okD A o (dOw (dUp (row A o) 26 v)) := by
  obtain ⟨g, -⟩ := Lg_cur H.1 ho
  obtain ⟨j1, j2, j3, j4, j5⟩ := JJ_cur H ho
  have gg := g
  obtain ⟨g0, g1, g2, g3, g4, g5, g6, g7, g8⟩ := gg
  rw [dOw_good (D := dUp (row A o) 26 v) fun z => (g8 z).1]
  exact okD_of H ho rfl rfl (Or.inl rfl) (goodD_of g rfl rfl (Or.inl rfl) (fun f hf => by rw [dUp_n (by omega)]; exact g0 f hf) g3 hv g5 g6 g7 g8) j2 j3 j4 (fun f hf => by rw [dUp_n (by omega)]; exact j5 f hf)
theorem ok_27 (H : JJ A) {o : Nat} (ho : o < nv A 1) {v : Int32} (hv : v = 0 ∨ v = 1) : okD A o (dOw (dUp (row A o) 27 v)) := by
  obtain ⟨g, -⟩ := Lg_cur H.1 ho
  obtain ⟨j1, j2, j3, j4, j5⟩ := JJ_cur H ho
  have gg := g
  obtain ⟨g0, g1, g2, g3, g4, g5, g6, g7, g8⟩ := gg
  rw [dOw_good (D := dUp (row A o) 27 v) fun z => (g8 z).1]
  exact okD_of H ho rfl rfl (Or.inl rfl) (goodD_of g rfl rfl (Or.inl rfl) (fun f hf => by rw [dUp_n (by omega)]; exact g0 f hf) g3 g4 hv g6 g7 g8) j2 j3 j4 (fun f hf => by rw [dUp_n (by omega)]; exact j5 f hf)
theorem ok_29 (H : JJ A) {o : Nat} (ho : o < nv A 1) {h : Nat} (hv : h ≤ 3) (hp : ¬ row A o 28 = -1 ∨ ¬ row A o 25 = 0) : okD A o (dOw (dUp (row A o) 29 (zn h))) := by
  obtain ⟨g, -⟩ := Lg_cur H.1 ho
  obtain ⟨j1, j2, j3, j4, j5⟩ := JJ_cur H ho
  have gg := g
  obtain ⟨g0, g1, g2, g3, g4, g5, g6, g7, g8⟩ := gg
  rw [dOw_good (D := dUp (row A o) 29 (zn h)) fun z => (g8 z).1]
  exact okD_of H ho rfl rfl (Or.inl rfl) (goodD_of g rfl rfl (Or.inl rfl) (fun f hf => by rw [dUp_n (by omega)]; exact g0 f hf) g3 g4 g5 g6 ⟨h, hv, rfl⟩ g8) j2 (fun _ => Or.inr hp) j4 (fun f hf => by rw [dUp_n (by omega)]; exact j5 f hf)
theorem ok_30 (H : JJ A) {o : Nat} (ho : o < nv A 1) (x y : Int32) : okD A o (dOw (dUp (dUp (row A o) 30 x) 31 y)) := by
  obtain ⟨g, -⟩ := Lg_cur H.1 ho
  obtain ⟨j1, j2, j3, j4, j5⟩ := JJ_cur H ho
  have gg := g
  obtain ⟨g0, g1, g2, g3, g4, g5, g6, g7, g8⟩ := gg
  rw [dOw_good (D := dUp (dUp (row A o) 30 x) 31 y) fun z => (g8 z).1]
  exact okD_of H ho rfl rfl (Or.inl rfl) (goodD_of g rfl rfl (Or.inl rfl) (fun f hf => by rw [dUp_n (by omega), dUp_n (by omega)]; exact g0 f hf) g3 g4 g5 g6 g7 g8) j2 j3 j4 (fun f hf => by rw [dUp_n (by omega), dUp_n (by omega)]; exact j5 f hf)
/-- going, and what is GONE has no owner -/
theorem ok_25 (H : JJ A) {o : Nat} (ho : o < nv A 1) {q : Nat} (hq : q ≤ 4) (h0 : 1 ≤ q) (h4 : q = 4 → row A o 28 = -1) : okD A o (dOw (dUp (row A o) 25 (zn q))) := by
  obtain ⟨g, -⟩ := Lg_cur H.1 ho
  obtain ⟨j1, j2, j3, j4, j5⟩ := JJ_cur H ho
  have gg := g
  obtain ⟨g0, g1, g2, g3, g4, g5, g6, g7, g8⟩ := gg
  have e : ∀ s, s ≠ 24 → s ≠ 25 → dOw (dUp (row A o) 25 (zn q)) s = row A o s := fun s h1 h2 => by rw [dOw_n h1, dUp_n h2]
  have e25 : dOw (dUp (row A o) 25 (zn q)) 25 = zn q := by rw [dOw_n (by decide)]; exact dUp_e
  have q4 : zn q = 4 → q = 4 := fun z => (zn_inj (a := q) (b := 4) (by omega) (by decide)).mp z
  have e24 : dOw (dUp (row A o) 25 (zn q)) 24 = row A o 24 ∨ dOw (dUp (row A o) 25 (zn q)) 24 = -1 := by
    rw [dOw_24]
    by_cases c : dUp (row A o) 25 (zn q) 25 = 4
    · rw [if_pos c]; exact Or.inr rfl
    · rw [if_neg c]; exact Or.inl rfl
  have gn : dOw (dUp (row A o) 25 (zn q)) 25 = 4 → dOw (dUp (row A o) 25 (zn q)) 24 = -1 ∧ dOw (dUp (row A o) 25 (zn q)) 28 = -1 := fun z => by
    rw [e25] at z
    refine ⟨?_, ?_⟩
    · rw [dOw_24, if_pos (show dUp (row A o) 25 (zn q) 25 = 4 from (dUp_e).trans z)]
    · rw [e 28 (by decide) (by decide)]; exact h4 (q4 z)
  have n0 : ¬ zn q = 0 := fun z => by
    have := (zn_inj (a := q) (b := 0) (by omega) (by decide)).mp z
    omega
  refine okD_of H ho (e 22 (by decide) (by decide)) (e 23 (by decide) (by decide)) e24 (goodD_of g (e 22 (by decide) (by decide)) (e 23 (by decide) (by decide)) e24 (fun f hf => by rw [e f (by omega) (by omega)]; exact g0 f hf) ⟨q, hq, e25⟩ ?_ ?_ ?_ ?_ gn) ?_ (fun _ => Or.inr (Or.inr (by rw [e25]; exact n0))) ?_ fun f hf => ?_
  · rw [e 26 (by decide) (by decide)]; exact g4
  · rw [e 27 (by decide) (by decide)]; exact g5
  · rw [e 28 (by decide) (by decide), e 23 (by decide) (by decide)]; exact g6
  · rw [e 29 (by decide) (by decide)]; exact g7
  · rw [e 28 (by decide) (by decide)]; exact j2
  · rw [e 23 (by decide) (by decide), e 2 (by decide) (by decide), e 3 (by decide) (by decide)]; exact j4
  · rw [e (11 + f) (by omega) (by omega)]; exact j5 f hf
theorem ok_24 (H : JJ A) {o : Nat} (ho : o < nv A 1) : okD A o (dOw (dUp (row A o) 24 (-1))) := by
  obtain ⟨g, -⟩ := Lg_cur H.1 ho
  obtain ⟨j1, j2, j3, j4, j5⟩ := JJ_cur H ho
  have gg := g
  obtain ⟨g0, g1, g2, g3, g4, g5, g6, g7, g8⟩ := gg
  rw [dOw_good (D := dUp (row A o) 24 (-1)) fun _ => dUp_e]
  exact okD_of H ho rfl rfl (Or.inr rfl) (goodD_of g rfl rfl (Or.inr rfl) (fun f hf => by rw [dUp_n (by omega)]; exact g0 f hf) g3 g4 g5 g6 g7 (fun z => ⟨rfl, (g8 z).2⟩)) j2 j3 j4 (fun f hf => by rw [dUp_n (by omega)]; exact j5 f hf)
theorem ok_28 (H : JJ A) {o : Nat} (ho : o < nv A 1) {p : Nat} (hp : p < nv A 1) (hk : row A p 23 = 4) (k2 : row A o 23 = 2) (hs : ¬ row A o 25 = 4) : okD A o (dOw (dUp (row A o) 28 (zn p))) := by
  obtain ⟨g, -⟩ := Lg_cur H.1 ho
  obtain ⟨j1, j2, j3, j4, j5⟩ := JJ_cur H ho
  have gg := g
  obtain ⟨g0, g1, g2, g3, g4, g5, g6, g7, g8⟩ := gg
  have hn := (Lg_n60 H.1).1
  have np : ¬ zn p = -1 := (zn_m1 (k := p) (by omega)).mp
  rw [dOw_good (D := dUp (row A o) 28 (zn p)) fun z => (g8 z).1]
  exact okD_of H ho rfl rfl (Or.inl rfl) (goodD_of g rfl rfl (Or.inl rfl) (fun f hf => by rw [dUp_n (by omega)]; exact g0 f hf) g3 g4 g5 (Or.inr ⟨p, by omega, rfl, k2⟩) g7 (fun z => absurd z hs)) (Or.inr ⟨p, hp, rfl, hk⟩) (fun _ => Or.inr (Or.inl np)) j4 (fun f hf => by rw [dUp_n (by omega)]; exact j5 f hf)
/-- a place is cleared -/
theorem ok_2825 (H : JJ A) {o : Nat} (ho : o < nv A 1) {q : Nat} (hq : q ≤ 4) (h0 : 1 ≤ q) : okD A o (dOw (dUp (dUp (row A o) 28 (-1)) 25 (zn q))) := by
  obtain ⟨g, -⟩ := Lg_cur H.1 ho
  obtain ⟨j1, j2, j3, j4, j5⟩ := JJ_cur H ho
  have gg := g
  obtain ⟨g0, g1, g2, g3, g4, g5, g6, g7, g8⟩ := gg
  have e : ∀ s, s ≠ 24 → s ≠ 25 → s ≠ 28 → dOw (dUp (dUp (row A o) 28 (-1)) 25 (zn q)) s = row A o s := fun s h1 h2 h3 => by rw [dOw_n h1, dUp_n h2, dUp_n h3]
  have e25 : dOw (dUp (dUp (row A o) 28 (-1)) 25 (zn q)) 25 = zn q := by rw [dOw_n (by decide)]; exact dUp_e
  have e28 : dOw (dUp (dUp (row A o) 28 (-1)) 25 (zn q)) 28 = -1 := by rw [dOw_n (by decide), dUp_n (by decide)]; exact dUp_e
  have e24 : dOw (dUp (dUp (row A o) 28 (-1)) 25 (zn q)) 24 = row A o 24 ∨ dOw (dUp (dUp (row A o) 28 (-1)) 25 (zn q)) 24 = -1 := by
    rw [dOw_24]
    by_cases c : dUp (dUp (row A o) 28 (-1)) 25 (zn q) 25 = 4
    · rw [if_pos c]; exact Or.inr rfl
    · rw [if_neg c]; exact Or.inl rfl
  have gn : dOw (dUp (dUp (row A o) 28 (-1)) 25 (zn q)) 25 = 4 → dOw (dUp (dUp (row A o) 28 (-1)) 25 (zn q)) 24 = -1 ∧ dOw (dUp (dUp (row A o) 28 (-1)) 25 (zn q)) 28 = -1 := fun z => by
    rw [e25] at z
    refine ⟨?_, e28⟩
    rw [dOw_24, if_pos (show dUp (dUp (row A o) 28 (-1)) 25 (zn q) 25 = 4 from (dUp_e).trans z)]
  have n0 : ¬ zn q = 0 := fun z => by
    have := (zn_inj (a := q) (b := 0) (by omega) (by decide)).mp z
    omega
  refine okD_of H ho (e 22 (by decide) (by decide) (by decide)) (e 23 (by decide) (by decide) (by decide)) e24 (goodD_of g (e 22 (by decide) (by decide) (by decide)) (e 23 (by decide) (by decide) (by decide)) e24 (fun f hf => by rw [e f (by omega) (by omega) (by omega)]; exact g0 f hf) ⟨q, hq, e25⟩ ?_ ?_ (Or.inl e28) ?_ gn) (Or.inl e28) (fun _ => Or.inr (Or.inr (by rw [e25]; exact n0))) ?_ fun f hf => ?_
  · rw [e 26 (by decide) (by decide) (by decide)]; exact g4
  · rw [e 27 (by decide) (by decide) (by decide)]; exact g5
  · rw [e 29 (by decide) (by decide) (by decide)]; exact g7
  · rw [e 23 (by decide) (by decide) (by decide), e 2 (by decide) (by decide) (by decide), e 3 (by decide) (by decide) (by decide)]; exact j4
  · rw [e (11 + f) (by omega) (by omega) (by omega)]; exact j5 f hf
/-- a field is applied -/
theorem ok_f (H : JJ A) {o : Nat} (ho : o < nv A 1) {f a m : Nat} (hf : f < 11) (l1 : leastF f ≤ a) (l2 : a ≤ mostF f) (hm : m ≤ 5) (bd : row A o 23 = 0 → ¬ (dUp (row A o) f (zn a) 2 = 0 ∧ dUp (row A o) f (zn a) 3 = 0)) : okD A o (dOw (dUp (dUp (row A o) f (zn a)) (11 + f) (zn m))) := by
  obtain ⟨g, -⟩ := Lg_cur H.1 ho
  obtain ⟨j1, j2, j3, j4, j5⟩ := JJ_cur H ho
  have gg := g
  obtain ⟨g0, g1, g2, g3, g4, g5, g6, g7, g8⟩ := gg
  have e : ∀ s, 22 ≤ s → dUp (dUp (row A o) f (zn a)) (11 + f) (zn m) s = row A o s := fun s h => by rw [dUp_n (by omega), dUp_n (by omega)]
  rw [dOw_good (D := dUp (dUp (row A o) f (zn a)) (11 + f) (zn m)) fun z => by rw [e 24 (by decide)]; rw [e 25 (by decide)] at z; exact (g8 z).1]
  refine okD_of H ho (e 22 (by decide)) (e 23 (by decide)) (Or.inl (e 24 (by decide))) (goodD_of g (e 22 (by decide)) (e 23 (by decide)) (Or.inl (e 24 (by decide))) (fun i hi => ?_) ?_ ?_ ?_ ?_ ?_ ?_) ?_ ?_ ?_ fun i hi => ?_
  · rw [dUp_n (by omega)]
    by_cases q : i = f
    · rw [q, dUp_e]; exact ⟨a, rfl, l1, l2⟩
    · rw [dUp_n q]; exact g0 i hi
  · rw [e 25 (by decide)]; exact g3
  · rw [e 26 (by decide)]; exact g4
  · rw [e 27 (by decide)]; exact g5
  · rw [e 28 (by decide), e 23 (by decide)]; exact g6
  · rw [e 29 (by decide)]; exact g7
  · rw [e 25 (by decide), e 24 (by decide), e 28 (by decide)]; exact g8
  · rw [e 28 (by decide)]; exact j2
  · rw [e 23 (by decide), e 29 (by decide), e 28 (by decide), e 25 (by decide)]; exact j3
  · rw [e 23 (by decide), dUp_n (show 2 ≠ 11 + f by omega), dUp_n (show 3 ≠ 11 + f by omega)]; exact bd
  · by_cases q : i = f
    · rw [q, dUp_e]; exact ⟨m, hm, rfl⟩
    · rw [dUp_n (by omega), dUp_n (by omega)]; exact j5 i hi
/-- no rules, no checks -/
theorem settled_0 (h : nr A = 0) (D : Nat → Int32) : settled A D = (true, D) := by
  have e : rules A D = D := by unfold rules; rw [h]; rfl
  have s : same11 D D = true := zall_iff.mpr fun i _ => decide_eq_true rfl
  unfold settled settle
  rw [e, s]; rfl
theorem allowed_0 (h : nc A = 0) (D : Nat → Int32) : allowed A D = !decide (D 23 = 0 ∧ D 2 = 0 ∧ D 3 = 0) := by
  unfold allowed
  rw [h, show zall 0 (fun i => !decide (cP A i 0 = D 23 ∧ ¬ D (zz_ix (cP A i 1)) ≤ cP A i 2)) = true from rfl, Bool.and_true]
theorem Ad_0 (H : JJ A) (o : Nat) (D : Nat → Int32) : aAd A o D = if D 23 = 0 ∧ D 2 = 0 ∧ D 3 = 0 then (false, A) else aWr A o D := by
  unfold aAd
  rw [settled_0 H.2.1.1, allowed_0 H.2.1.2]
  show (bif true && !decide (D 23 = 0 ∧ D 2 = 0 ∧ D 3 = 0) then aWr A o D else (false, A)) = _
  by_cases h : D 23 = 0 ∧ D 2 = 0 ∧ D 3 = 0
  · rw [decide_eq_true h, if_pos h]; rfl
  · rw [decide_eq_false h, if_neg h]; rfl
/-- applying a field: it is not refused but for a budget of 0, or a full log -/
theorem Ap_0 (H : JJ A) {o : Nat} (ho : o < nv A 1) {f a m : Nat} (hf : f < 11) (hF : hasF (row A o 23) (zn f) = true) (l1 : leastF f ≤ a) (l2 : a ≤ mostF f) (hm : m ≤ 5) :
    (row A o 23 = 0 ∧ (f = 2 ∨ f = 3) ∧ aAp A (zn m) o (zn f) (zn a) = (false, A)) ∨ (okD A o (dOw (dUp (dUp (row A o) f (zn a)) (11 + f) (zn m))) ∧ aAp A (zn m) o (zn f) (zn a) = aWr A o (dUp (dUp (row A o) f (zn a)) (11 + f) (zn m))) := by
  have e : aAp A (zn m) o (zn f) (zn a) = aAd A o (dUp (dUp (row A o) f (zn a)) (11 + f) (zn m)) := by
    unfold aAp
    rw [hF, zn_ix (k := f) (by omega)]; rfl
  have j4 := (JJ_cur H ho).2.2.2.1
  rw [e, Ad_0 H, dUp_n (show 23 ≠ 11 + f by omega), dUp_n (show 23 ≠ f by omega), dUp_n (show 2 ≠ 11 + f by omega), dUp_n (show 3 ≠ 11 + f by omega)]
  by_cases h : row A o 23 = 0 ∧ dUp (row A o) f (zn a) 2 = 0 ∧ dUp (row A o) f (zn a) 3 = 0
  · rw [if_pos h]
    refine Or.inl ⟨h.1, Decidable.byContradiction fun q => ?_, rfl⟩
    have q2 : 2 ≠ f := fun z => q (Or.inl z.symm)
    have q3 : 3 ≠ f := fun z => q (Or.inr z.symm)
    rw [dUp_n q2, dUp_n q3] at h
    exact j4 h.1 h.2
  · rw [if_neg h]
    exact Or.inr ⟨ok_f H ho hf l1 l2 hm fun z => fun y => h ⟨z, y⟩, rfl⟩
end
end

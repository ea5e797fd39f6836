section
/-! what a controller has done, or is to do, or will hear of -/
def pend (A : zzMd) (c k : Nat) : Prop := ∃ e, ve A (3 + c) < e ∧ e ≤ ve A 1 ∧ (obj A e = k ∨ (c = 1 ∧ lg A e 23 = 2 ∧ (lg A e 24 = zn k ∨ (lg A e 24 = -1 ∧ lg A (lastV (obj A) (e - 1) (obj A e)) 24 = zn k))))
def sat1 (A : zzMd) (k : Nat) : Prop := stay A 4 (zn k) 1 = true → ovP A 4 (zn k) = none ∧ zn (cntP A 4 (zn k)) = rd A 4 (zn k) 0
def sat5 (A : zzMd) (k : Nat) : Prop := rd A 8 (zn k) 25 = 0 → rd A 8 (zn k) 24 = -1 ∨ gone A 8 (rd A 8 (zn k) 24) = false
def sat6 (A : zzMd) (k : Nat) : Prop := stay A 9 (zn k) 5 = true → pLow A k = rd A 9 (zn k) 30 ∧ pHigh A k = rd A 9 (zn k) 31
def sat7 (A : zzMd) (k : Nat) : Prop := stay A 10 (zn k) 0 = true → 0 < rd A 10 (zn k) 5 → rd A 10 (zn k) 0 = goalS A k
def sat (A : zzMd) : Nat → Nat → Prop
  | 1, k => sat1 A k
  | 5, k => sat5 A k
  | 6, k => sat6 A k
  | 7, k => sat7 A k
  | _, _ => True
def JQ (A : zzMd) (c : Nat) : Prop := ∀ k, k < 60 → inQ A c k ∨ pend A c k ∨ sat A c k
section
variable {A B T : zzMd} {c : Nat}
theorem sat_c (hr : ∀ x s, rd B (3 + c) x s = rd A (3 + c) x s) (hn : nv B (3 + c) = nv A (3 + c)) (k : Nat) : sat B c k = sat A c k := by
  have e : rd B (3 + c) = rd A (3 + c) := funext fun x => funext fun s => hr x s
  rcases c with _ | _ | _ | _ | _ | _ | _ | _ | c
  · rfl
  · show sat1 B k = sat1 A k
    have e : rd B 4 = rd A 4 := e
    have hn : nv B 4 = nv A 4 := hn
    unfold sat1 stay ovP cntP owned
    simp only [e, hn]
  · rfl
  · rfl
  · rfl
  · show sat5 B k = sat5 A k
    have e : rd B 8 = rd A 8 := e
    unfold sat5 gone
    simp only [e]
  · show sat6 B k = sat6 A k
    have e : rd B 9 = rd A 9 := e
    have hn : nv B 9 = nv A 9 := hn
    unfold sat6 pLow pHigh pbs pbB stay
    simp only [e, hn]
  · show sat7 B k = sat7 A k
    have e : rd B 10 = rd A 10 := e
    unfold sat7 goalS stay
    simp only [e]
  · rfl
theorem pend_X (X : Xt A B) (hc : c < 8) {k : Nat} (h : pend A c k) : pend B c k := by
  obtain ⟨e, h1, h2, h3⟩ := h
  obtain ⟨x1, x2⟩ := X.2.1 e h2
  have hlv : lastV (obj B) (e - 1) (obj A e) = lastV (obj A) (e - 1) (obj A e) := lastV_c _ fun i _ i2 => (X.2.1 i (by omega)).1
  have hle : lastV (obj A) (e - 1) (obj A e) ≤ e - 1 := lastV_le _ _
  refine ⟨e, by rw [(Xt_nv X hc).2]; exact h1, Nat.le_trans h2 X.1.1, ?_⟩
  rw [x1, x2 23 (by decide), x2 24 (by decide), hlv, (X.2.1 _ (show lastV (obj A) (e - 1) (obj A e) ≤ ve A 1 by omega)).2 24 (by decide)]
  exact h3
theorem inQ_X (X : Xt A B) (hc : c < 8) (k : Nat) : (QI B c ↔ QI A c) ∧ (inQ B c k ↔ inQ A c k) := by
  obtain ⟨h1, h2⟩ := QI_c (A := A) (B := B) (c := c) (fun b => (X.2.2.1 c hc b).2.2.1) (fun b => (X.2.2.1 c hc b).2.2.2) (X.2.2.1 c hc 11).1
  exact ⟨h1, h2 k⟩
/-- what others write changes nothing of it -/
theorem JQ_X (H : JJ A) (X : Xt A B) (hc : c < 8) (h : JQ A c) : JQ B c := fun k hk => by
  rcases h k hk with a | a | a
  · exact Or.inl ((inQ_X X hc k).2.mpr a)
  · exact Or.inr (Or.inl (pend_X X hc a))
  · exact Or.inr (Or.inr (by rw [sat_c (fun x s => Xt_rd H X hc x s) (Xt_nv X hc).1]; exact a))
/-! a key that is left is done, or an event tells of it -/
/-- an event at the log's end -/
theorem pend_put {o : Nat} {D : Nat → Int32} {k : Nat} (H : JJ T) (hc : c < 8) (h60 : o < 60) (d22 : D 22 = zn o) (he : ve T 1 < 400) (h : o = k ∨ (c = 1 ∧ D 23 = 2 ∧ (D 24 = zn k ∨ (D 24 = -1 ∧ row T o 24 = zn k)))) : pend (put T o D) c k := by
  have v1 := (H.1.2.2.2.2.2 c hc).1
  have f1 : ve (put T o D) (3 + c) = ve T (3 + c) := by unfold ve; rw [put_o (by omega) (by omega) (by omega)]
  refine ⟨ve T 1 + 1, by rw [f1]; omega, by rw [put_ve he]; exact Nat.le_refl _, ?_⟩
  rw [put_objN d22 h60, put_lgN o D (by decide), put_lgN o D (by decide)]
  rcases h with h | ⟨h1, h2, h3⟩
  · exact Or.inl h
  · refine Or.inr ⟨h1, h2, h3.imp id fun ⟨a, b⟩ => ⟨a, ?_⟩⟩
    have hlv : lastV (obj (put T o D)) (ve T 1) o = lastV (obj T) (ve T 1) o := lastV_c _ fun i _ i2 => put_obj o D i2
    have hl := lastV_le (f := obj T) o (ve T 1)
    rw [Nat.add_sub_cancel, hlv, put_lg o D hl (by decide)]
    rw [← b]
    unfold row lg lv
    have := (Lg_n60 H.1).2.1
    rw [H.1.2.2.2.1.2 o h60, zn_ix (by omega)]
/-- a write that passes and is another one -/
theorem pend_wr {o : Nat} {D : Nat → Int32} {k : Nat} (H : JJ T) (hc : c < 8) (h60 : o < 60) (d22 : dOw D 22 = zn o) (t : (aWr T o D).1 = true) (hne : ¬ ∀ s, s < 32 → dOw D s = row T o s) (h : o = k ∨ (c = 1 ∧ dOw D 23 = 2 ∧ (dOw D 24 = zn k ∨ (dOw D 24 = -1 ∧ row T o 24 = zn k)))) : pend (aWr T o D).2 c k := by
  obtain ⟨-, -, -, e, he⟩ := WR_ev (WR_wr T o D) h60 d22 t hne
  rw [e]
  exact pend_put H hc h60 d22 he h
theorem oc_1 {b : Bool} (h : oc b = 1) : b = true := by
  cases b
  · exact absurd h (by decide)
  · rfl
theorem ptm_own (A : zzMd) (v : Nat) (w : Int32) : ∀ n k, n ≤ 60 → k < 60 → (ptm A v w n).1 = zn k → owned A v (zn k) 2 w = true
  | 0, k, _, hk, h => absurd h.symm (zn_m1 (k := k) (by omega)).mp
  | n + 1, k, hn, hk, h => by
    rw [ptm_s] at h
    cases c : owned A v (zn n) 2 w && !decide (rankP A v (zn n) < (ptm A v w n).2)
    · rw [c] at h
      exact ptm_own A v w n k (by omega) hk h
    · rw [c] at h
      have h : zn n = zn k := h
      rw [← h]
      exact (Bool.and_eq_true_iff.mp c).1
/-- removing what a SET owns -/
theorem pend_rem (H : JJ T) {k p : Nat} (hp : p < nv T 4) (hk : k < 60) (ow : owned T 4 (zn p) 2 (zn k) = true) (t : (aRem T 1 p).1 = true) : pend (aRem T 1 p).2 1 k := by
  have hc : 1 < 8 := by decide
  have hn : p < nv T 1 := (vw_row H.1 hc (o := p) hp).1
  have h60 : p < 60 := Nat.lt_of_lt_of_le hn (Lg_n60 H.1).1
  obtain ⟨o1, o2, o3⟩ := owned_s ow
  unfold aRem at t ⊢
  cases u : utd T 1 p
  · rw [u] at t; cases t
  · rw [u, cond_true] at t
    rw [cond_true]
    have g : ∀ s, s < 32 → row T p s = rd T 4 (zn p) (zn s) := fun s hs => (utd_rw H.1 hc h60 u hs).symm
    have g24 : row T p 24 = zn k := (g 24 (by decide)).trans o1
    have g25 : row T p 25 = 0 := (g 25 (by decide)).trans o3
    have g23 : row T p 23 = 2 := (g 23 (by decide)).trans o2
    unfold aGo at t ⊢
    have hv : ∃ v : Int32, (if (2 : Int32) = 2 ∧ kept T 1 (zn p) = false then (4 : Int32) else 2) = v ∧ ¬ v = 0 := by
      by_cases q : (2 : Int32) = 2 ∧ kept T 1 (zn p) = false
      · exact ⟨4, if_pos q, by decide⟩
      · exact ⟨2, if_neg q, by decide⟩
    obtain ⟨v, v1, v2⟩ := hv
    rw [v1] at t ⊢
    have d25 : dOw (dUp (row T p) 25 v) 25 = v := by rw [dOw_n (by decide)]; exact dUp_e
    refine pend_wr H hc h60 (by rw [dOw_n (by decide), dUp_n (by decide)]; exact (Lg_cur H.1 hn).1) t (fun z => ?_) (Or.inr ⟨rfl, ?_, ?_⟩)
    · have := z 25 (by decide)
      rw [d25, g25] at this
      exact v2 this
    · rw [dOw_n (by decide), dUp_n (by decide)]; exact g23
    · rw [dOw_24, dUp_n (by decide : 24 ≠ 25)]
      by_cases q : dUp (row T p) 25 v 25 = 4
      · rw [if_pos q]; exact Or.inr ⟨rfl, g24⟩
      · rw [if_neg q]; exact Or.inl g24
theorem pend_16 {o : Nat} {x : Int32} {k : Nat} (hc : c < 8) (h : pend A c k) : pend (zz_sI A 16 o x) c k := by
  have f1 : ve (zz_sI A 16 o x) (3 + c) = ve A (3 + c) := by unfold ve; rw [sI_a (by omega)]
  obtain ⟨e, h1, h2, h3⟩ := h
  exact ⟨e, by rw [f1]; exact h1, h2, h3⟩
theorem left1 (H : JJ T) {k : Nat} (hk : k < 60) (hown : T.1 4 5 = 1) (h0 : stay T 4 (zn k) (T.1 4 5) = true → 0 ≤ (rd T 4 (zn k) 0).toInt) (t : (dS1 T T 1 k).1 = 1) : pend (dS1 T T 1 k).2 1 k ∨ sat1 T k := by
  have hc : 1 < 8 := by decide
  unfold dS1 at t ⊢
  cases c0 : stay T (3 + 1) (zn k) (T.1 (3 + 1) 5)
  · refine Or.inr fun z => ?_
    have z' : stay T (3 + 1) (zn k) (T.1 (3 + 1) 5) = true := by rw [show T.1 (3 + 1) 5 = 1 from hown]; exact z
    rw [z'] at c0; cases c0
  rw [c0, cond_true, decide_eq_true (show T.1 (3 + 1) 5 = 1 from hown), cond_true] at t
  rw [cond_true, decide_eq_true (show T.1 (3 + 1) 5 = 1 from hown), cond_true]
  have hn60 : nv T 4 ≤ 60 := (H.1.1.2.2 1 hc).1.2.1.2
  unfold dSet at t ⊢
  cases c1 : ovP T (3 + 1) (zn k) with
  | some p =>
    simp only [c1] at t ⊢
    obtain ⟨p1, p2, -⟩ := zfst_some c1
    exact Or.inl (pend_rem H p1 hk (Bool.and_eq_true_iff.mp p2).1 (oc_1 t))
  | none =>
    simp only [c1] at t ⊢
    by_cases c2 : rd T (3 + 1) (zn k) 0 ≤ zn (cntP T (3 + 1) (zn k))
    · by_cases c3 : zn (cntP T (3 + 1) (zn k)) ≤ rd T (3 + 1) (zn k) 0
      · exact Or.inr fun _ => ⟨c1, Int32.le_antisymm c3 c2⟩
      · simp only [decide_eq_true c2, decide_eq_false c3, Bool.not_true, Bool.not_false, cond_true, cond_false] at t ⊢
        have k1 := (stay_s c0).2
        rcases ptm_in T (3 + 1) (zn k) (nv T (3 + 1)) with ⟨-, q⟩ | ⟨p, q1, q2⟩
        · refine absurd ?_ c3
          rw [show cntP T (3 + 1) (zn k) = 0 from q, Int32.le_iff_toInt_le]
          exact h0 c0
        · have q3 := ptm_own T (3 + 1) (zn k) (nv T (3 + 1)) p hn60 (Nat.lt_of_lt_of_le q1 hn60) q2
          rw [q2, zn_ix (by have := Nat.lt_of_lt_of_le q1 hn60; omega)] at t ⊢
          exact Or.inl (pend_rem H q1 hk q3 (oc_1 t))
    · simp only [decide_eq_false c2, Bool.not_false, cond_true] at t ⊢
      have ho := stay_lt H hc hk c0
      have hn : k < nv T 1 := (vw_row H.1 hc ho).1
      have k1 : row T k 23 = 1 := (vw_kind H.1 hc ho).symm.trans ((stay_s c0).1.trans hown)
      have t2 := oc_1 t
      refine Or.inl ?_
      unfold aMk at t2 ⊢
      rcases Open_0 H (m := 4) (k := 2) (w := zn k) (rd T (3 + 1) (zn k) 1) (by decide) (Or.inr ⟨k, hn, rfl, Or.inr ⟨rfl, Or.inl k1⟩⟩) with ⟨e, -⟩ | ⟨e, h6, he⟩
      · have e' : aOpen T 4 2 (zn k) (rd T (3 + 1) (zn k) 1) = (-1, T) := e
        rw [e'] at t2; exact absurd (show (!decide ((-1 : Int32) = -1)) = true from t2) (by decide)
      · have e' : aOpen T 4 2 (zn k) (rd T (3 + 1) (zn k) 1) = _ := e
        show pend (aOpen T 4 2 (zn k) (rd T (3 + 1) (zn k) 1)).2 1 k
        rw [e']
        exact pend_16 hc (pend_put H hc h6 rfl he (Or.inr ⟨rfl, rfl, Or.inl rfl⟩))
theorem left5 (H : JJ T) {k : Nat} (hk : k < 60) (t : (dS5 T T k).1 = 1) : pend (dS5 T T k).2 5 k ∨ sat5 T k := by
  have hc : 5 < 8 := by decide
  by_cases c0 : rd T 8 (zn k) 25 = 0
  · have n4 : ¬ rd T 8 (zn k) 25 = 4 := fun z => absurd (c0.symm.trans z) (by decide)
    unfold dS5 at t ⊢
    rw [decide_eq_false n4, cond_false, decide_eq_true c0, cond_true] at t ⊢
    by_cases c1 : rd T 8 (zn k) 24 = -1
    · exact Or.inr fun _ => Or.inl c1
    · cases c2 : gone T 8 (rd T 8 (zn k) 24)
      · exact Or.inr fun _ => Or.inr c2
      · rw [c2, decide_eq_false c1] at t
        rw [decide_eq_false c1]
        have t : (oc2 (aRem T 5 k)).1 = 1 := t
        show pend (oc2 (aRem T 5 k)).2 5 k ∨ _
        have t2 := oc_1 t
        have ho : k < nv T (3 + 5) := vw_lt H hc hk (s := 25) (by decide) (by rw [if_pos rfl]; exact n4)
        have hn := (vw_row H.1 hc ho).1
        show pend (aRem T 5 k).2 5 k ∨ _
        unfold aRem at t2 ⊢
        cases u : utd T 5 k
        · rw [u] at t2; cases t2
        · rw [u, cond_true] at t2
          rw [cond_true]
          have g25 : row T k 25 = 0 := (utd_rw H.1 hc hk u (s := 25) (by decide)).symm.trans c0
          unfold aGo at t2 ⊢
          have hv : ∃ v : Int32, (if (2 : Int32) = 2 ∧ kept T 1 (zn k) = false then (4 : Int32) else 2) = v ∧ ¬ v = 0 := by
            by_cases q : (2 : Int32) = 2 ∧ kept T 1 (zn k) = false
            · exact ⟨4, if_pos q, by decide⟩
            · exact ⟨2, if_neg q, by decide⟩
          obtain ⟨v, v1, v2⟩ := hv
          rw [v1] at t2 ⊢
          refine Or.inl (pend_wr H hc hk (by rw [dOw_n (by decide), dUp_n (by decide)]; exact (Lg_cur H.1 hn).1) t2 (fun z => ?_) (Or.inl rfl))
          have := z 25 (by decide)
          rw [dOw_n (by decide), dUp_e, g25] at this
          exact v2 this
  · exact Or.inr fun z => absurd z c0
theorem left6 (H : JJ T) {k : Nat} (hk : k < 60) (t : (dS6 T T k).1 = 1) : pend (dS6 T T k).2 6 k ∨ sat6 T k := by
  have hc : 6 < 8 := by decide
  by_cases c2 : pLow T k = rd T 9 (zn k) 30 ∧ pHigh T k = rd T 9 (zn k) 31
  · exact Or.inr fun _ => c2
  cases c1 : stay T 9 (zn k) 5
  · exact Or.inr fun z => by rw [z] at c1; cases c1
  unfold dS6 at t ⊢
  have e : (stay T 9 (zn k) 5 && !(decide (pLow T k = rd T 9 (zn k) 30) && decide (pHigh T k = rd T 9 (zn k) 31))) = true := by
    rw [c1, ← Bool.decide_and, decide_eq_false c2]; rfl
  rw [e, cond_true] at t ⊢
  have t2 := oc_1 t
  have ho : k < nv T (3 + 6) := stay_lt H hc hk c1
  have hn := (vw_row H.1 hc ho).1
  show pend (bif utd T 6 k then aCh2 T k 30 (pLow T k) 31 (pHigh T k) else (false, T)).2 6 k ∨ _
  cases u : utd T 6 k
  · rw [u] at t2; cases t2
  · rw [u, cond_true] at t2
    rw [cond_true]
    unfold aCh2 at t2 ⊢
    have g30 : row T k 30 = rd T 9 (zn k) 30 := (utd_rw H.1 hc hk u (s := 30) (by decide)).symm
    have g31 : row T k 31 = rd T 9 (zn k) 31 := (utd_rw H.1 hc hk u (s := 31) (by decide)).symm
    refine Or.inl (pend_wr H hc hk (by rw [dOw_n (by decide), dUp_n (by decide), dUp_n (by decide)]; exact (Lg_cur H.1 hn).1) t2 (fun z => c2 ⟨?_, ?_⟩) (Or.inl rfl))
    · have := z 30 (by decide)
      rw [dOw_n (by decide), dUp_n (by decide), dUp_e, g30] at this
      exact this
    · have := z 31 (by decide)
      rw [dOw_n (by decide), dUp_e, g31] at this
      exact this
theorem pend_72 {a o : Nat} {x : Int32} {k : Nat} (ha : 16 ≤ a) (hc : c < 8) (h : pend A c k) : pend (zz_sI A a o x) c k := by
  have f1 : ve (zz_sI A a o x) (3 + c) = ve A (3 + c) := by unfold ve; rw [sI_a (by omega)]
  have f2 : ve (zz_sI A a o x) 1 = ve A 1 := by unfold ve; rw [sI_a (by omega)]
  have f3 : (zz_sI A a o x).1 14 = A.1 14 := funext fun b => sI_a (by omega)
  have f4 : obj (zz_sI A a o x) = obj A := by funext i; unfold obj; rw [f3]
  have f5 : lg (zz_sI A a o x) = lg A := by funext i s; unfold lg; rw [f3]
  obtain ⟨e, h1, h2, h3⟩ := h
  exact ⟨e, by rw [f1]; exact h1, by rw [f2]; exact h2, by rw [f4, f5]; exact h3⟩
theorem left7 (H : JJ T) {k : Nat} (hk : k < 60) (t : (dS7 T T k).1 = 1) : pend (dS7 T T k).2 7 k ∨ sat7 T k := by
  have hc : 7 < 8 := by decide
  by_cases c2 : rd T 10 (zn k) 0 = goalS T k
  · exact Or.inr fun _ _ => c2
  cases c1 : stay T 10 (zn k) 0
  · exact Or.inr fun z => by rw [z] at c1; cases c1
  by_cases c3n : ¬ 0 < rd T 10 (zn k) 5
  · exact Or.inr fun _ z => absurd z c3n
  have c3 : 0 < rd T 10 (zn k) 5 := Decidable.byContradiction c3n
  unfold dS7 at t ⊢
  rw [c1, decide_eq_true c3, Bool.and_self, cond_true] at t ⊢
  cases c4 : !decide (rd T 10 (zn k) 0 ≤ goalS T k) && earlyS T k
  · rw [c4, cond_false] at t
    rw [cond_false]
    have t2 : (aWant T 7 k (goalS T k)).1 = true := oc_1 t
    have ho : k < nv T (3 + 7) := stay_lt H hc hk c1
    have hn := (vw_row H.1 hc ho).1
    have hp : pend (aWant T 7 k (goalS T k)).2 7 k := by
      unfold aWant at t2 ⊢
      rw [decide_eq_false (show ¬ rd T (3 + 7) (zn k) 0 = goalS T k from c2), cond_false] at t2 ⊢
      cases u : utd T 7 k
      · rw [u] at t2; cases t2
      · rw [u, cond_true] at t2
        rw [cond_true]
        have k0 : row T k 23 = 0 := (vw_kind H.1 hc ho).symm.trans (stay_s c1).1
        have hF : hasF (row T k 23) (zn 0) = true := by rw [k0]; decide
        have g0 : row T k 0 = rd T 10 (zn k) 0 := (utd_rw H.1 hc hk u (s := 0) (by decide)).symm
        rcases Ap_0 H hn (f := 0) (m := 4) (by decide) hF (goalS T k) (by decide) with ⟨-, q | q, -⟩ | ⟨ok, e⟩
        · cases q
        · cases q
        · have e' : aAp T 4 k 0 (goalS T k) = _ := e
          rw [e'] at t2 ⊢
          refine pend_wr H hc hk ok.1 t2 (fun z => c2 ?_) (Or.inl rfl)
          have := z 0 (by decide)
          rw [dOw_n (by decide), dUp_n (by decide), dUp_e, g0] at this
          exact this.symm
    refine Or.inl ?_
    show pend (bif decide ((aWant T 7 k (goalS T k)).2.1 1 3 ≤ T.1 1 3) then (aWant T 7 k (goalS T k)).2 else zz_sI (aWant T 7 k (goalS T k)).2 72 k ((aWant T 7 k (goalS T k)).2.1 1 7)) 7 k
    cases decide ((aWant T 7 k (goalS T k)).2.1 1 3 ≤ T.1 1 3)
    · exact pend_72 (by decide) hc hp
    · exact hp
  · rw [c4, cond_true] at t
    exact absurd (show (2 : Int32) = 1 from t) (by decide)
theorem leftS (H : JJ T) (hc : c < 8) {k : Nat} (hk : k < 60) (hown : T.1 (3 + c) 5 = okd c) (h0 : stay T (3 + c) (zn k) (T.1 (3 + c) 5) = true → 0 ≤ (rd T (3 + c) (zn k) 0).toInt) (t : (dSv c T T k).1 = 1) : pend (dSv c T T k).2 c k ∨ sat T c k := by
  rcases zc8 hc with rfl | rfl | rfl | rfl | rfl | rfl | rfl | rfl
  · exact Or.inr trivial
  · exact left1 H hk hown h0 t
  · exact Or.inr trivial
  · exact Or.inr trivial
  · exact Or.inr trivial
  · exact left5 H hk t
  · exact left6 H hk t
  · exact left7 H hk t
end
end

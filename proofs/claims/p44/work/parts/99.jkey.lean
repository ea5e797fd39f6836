section
/-! which keys come; a controller lists anew -/
section
variable {A B T : zzMd} {c e o : Nat}
theorem kok_w {w : Int32} (h : w < 0 ∨ 60 ≤ w) (A : zzMd) (v : Nat) (s : Int32) : rd A v w s = -1 := by
  unfold rd
  exact if_pos (h.elim Or.inl fun z => Or.inr (Or.inl z))
theorem w_nat (w : Int32) : (w < 0 ∨ 60 ≤ w) ∨ ∃ i, w = zn i ∧ i < 60 := by
  rcases in_cases 60 (by decide) w with (h | ⟨-, h⟩) | ⟨i, a, b⟩
  · exact Or.inl (Or.inl h)
  · exact Or.inl (Or.inr h)
  · exact Or.inr ⟨i, a, b⟩
/-- a key of which the view has a kind -/
theorem key_kind (H : JJ T) (hc : c < 8) {k : Nat} (hk : k < 60) {x : Int32} (h : rd T (3 + c) (zn k) 23 = x) (n : ¬ x = -1) : k < nv T 1 ∧ row T k 23 = x := by
  have hs : k < nv T (3 + c) := vw_lt H hc hk (s := 23) (by decide) (by rw [if_neg (by decide)]; exact fun z => n (h.symm.trans z))
  exact ⟨(vw_row H.1 hc hs).1, (vw_kind H.1 hc hs).symm.trans h⟩
/-- an owner's kind, out of the view -/
theorem own_kind2 (H : JJ T) (hc : c < 8) {i k : Nat} (hi : i < 60) (hk : k < 60) (h1 : rd T (3 + c) (zn i) 23 = 1) (h2 : rd T (3 + c) (zn i) 24 = zn k) : k < nv T 1 ∧ row T k 23 = 0 := by
  have hs : i < nv T (3 + c) := vw_lt H hc hi (s := 23) (by decide) (by rw [if_neg (by decide)]; exact fun z => absurd (h1.symm.trans z) (by decide))
  obtain ⟨-, j, j1, j2, j3, j4, j5⟩ := vw_row H.1 hc hs
  have := (H.1.2.2.2.2.2 c hc).1
  have n6 := (Lg_n60 H.1).1
  rcases (H.2.2.1 j j1 (by omega)).1 with x | ⟨w, w1, w2, w3⟩
  · exact absurd ((j5 24 (by decide)).symm.trans h2 |>.symm.trans x) (zn60 rfl hk)
  · have e : w = k := (zn_inj (a := w) (b := k) (by omega) (by omega)).mp (w2.symm.trans ((j5 24 (by decide)).symm.trans h2))
    rw [e] at w1 w3
    refine ⟨w1, ?_⟩
    rcases w3 with ⟨-, z⟩ | ⟨z, -⟩
    · exact z
    · have z1 : lg T j 23 = 1 := (j5 23 (by decide)).symm.trans h1
      exact absurd (z1.symm.trans z) (by decide)
theorem QO_only (Q : QI T c) (hc : c < 8) (tn : nv T (3 + c) ≤ 60) {x w : Int32} {k : Nat} (hk : k < 60) (h : inQ (aQO T c x w) c k) : inQ T c k ∨
    (c = 0 ∧ ((w = zn k ∧ rd T 3 x 23 = 1) ∨ (rd T 3 w 24 = zn k ∧ rd T 3 w 23 = 1))) ∨ ((c = 1 ∨ c = 2) ∧ w = zn k ∧ rd T (3 + c) w 23 = T.1 (3 + c) 5) ∨ ((c = 3 ∨ c = 4) ∧ rd T (3 + c) (zn k) 23 = 2) ∨ (c = 5 ∧ (w = zn k ∨ k < nv T 8)) ∨ (c = 6 ∧ rd T 9 (zn k) 23 = 5) := by
  rcases zc8 hc with rfl | rfl | rfl | rfl | rfl | rfl | rfl | rfl
  · have h : inQ (aQ0 T x w) 0 k := h
    unfold aQ0 at h
    by_cases c1 : rd T 3 x 23 = 1
    · rw [decide_eq_true c1, cond_true] at h
      by_cases c2 : rd T 3 x 23 = 2 ∧ rd T 3 w 23 = 1
      · exact absurd (c1.symm.trans c2.1) (by decide)
      · rw [decide_eq_false c2, cond_false] at h
        exact (Enq_only Q h).imp id fun z => Or.inl ⟨rfl, Or.inl ⟨z, c1⟩⟩
    · rw [decide_eq_false c1, cond_false] at h
      by_cases c2 : rd T 3 x 23 = 2 ∧ rd T 3 w 23 = 1
      · rw [decide_eq_true c2, cond_true] at h
        exact (Enq_only Q h).imp id fun z => Or.inl ⟨rfl, Or.inr ⟨z, c2.2⟩⟩
      · rw [decide_eq_false c2, cond_false] at h
        exact Or.inl h
  · have h : inQ (aQ1 T 1 x w) 1 k := h
    unfold aQ1 at h
    by_cases c1 : rd T (3 + 1) x 23 = 2 ∧ rd T (3 + 1) w 23 = T.1 (3 + 1) 5
    · rw [decide_eq_true c1, cond_true] at h
      exact (Enq_only Q h).imp id fun z => Or.inr (Or.inl ⟨Or.inl rfl, z, c1.2⟩)
    · rw [decide_eq_false c1, cond_false] at h
      exact Or.inl h
  · have h : inQ (aQ1 T 2 x w) 2 k := h
    unfold aQ1 at h
    by_cases c1 : rd T (3 + 2) x 23 = 2 ∧ rd T (3 + 2) w 23 = T.1 (3 + 2) 5
    · rw [decide_eq_true c1, cond_true] at h
      exact (Enq_only Q h).imp id fun z => Or.inr (Or.inl ⟨Or.inr rfl, z, c1.2⟩)
    · rw [decide_eq_false c1, cond_false] at h
      exact Or.inl h
  · have h : inQ (aQ3 T x) 3 k := h
    unfold aQ3 at h
    cases c1 : decide (rd T 6 x 23 = 4)
    · rw [c1] at h; exact Or.inl h
    · rw [c1, cond_true] at h
      refine (eqs_only Q _ tn h).imp id fun ⟨_, D, hD, p⟩ => Or.inr (Or.inr (Or.inl ⟨Or.inl rfl, ?_⟩))
      unfold wops at p
      have := (stay_s (Bool.and_eq_true_iff.mp p).1).1
      exact (rd_S (c := 3) hc hD (zn k) 23).symm.trans this
  · have h : inQ (aQ4 T x) 4 k := h
    unfold aQ4 at h
    cases c1 : decide (rd T 7 x 23 = 4)
    · rw [c1] at h; exact Or.inl h
    · rw [c1, cond_true] at h
      refine (eqs_only Q _ tn h).imp id fun ⟨_, D, hD, p⟩ => Or.inr (Or.inr (Or.inl ⟨Or.inr rfl, ?_⟩))
      exact (rd_S (c := 4) hc hD (zn k) 23).symm.trans (of_decide_eq_true p).1
  · have h : inQ (aQ5 T x w) 5 k := h
    unfold aQ5 at h
    rcases eqs_only (QI_Enq w Q) _ tn h with a | ⟨a, -⟩
    · exact (Enq_only Q a).imp id fun z => Or.inr (Or.inr (Or.inr (Or.inl ⟨rfl, Or.inl z⟩)))
    · exact Or.inr (Or.inr (Or.inr (Or.inr (Or.inl ⟨rfl, Or.inr a⟩))))
  · have h : inQ (aQ6 T x) 6 k := h
    unfold aQ6 at h
    cases c1 : decide (rd T 9 x 23 = 2)
    · rw [c1] at h; exact Or.inl h
    · rw [c1, cond_true] at h
      refine (eqs_only Q _ tn h).imp id fun ⟨_, D, hD, p⟩ => Or.inr (Or.inr (Or.inr (Or.inr ⟨rfl, ?_⟩)))
      exact (rd_S (c := 6) hc hD (zn k) 23).symm.trans (of_decide_eq_true (Bool.and_eq_true_iff.mp p).1)
  · exact Or.inl h
/-- a controller lists anew: the view is what is so now -/
theorem TA_view (L : Lg A) (hc : c < 8) (o : Nat) (h60 : o < 60) {s : Nat} (hs : s < 32) : rd (aTA A c) (3 + c) (zn o) (zn s) = row A o s := by
  have hn := (Lg_n60 L).2.1
  unfold rd
  have cnd : ¬ (zn o < 0 ∨ 60 ≤ zn o ∨ zn s < 0 ∨ 32 ≤ zn s) := fun z => z.elim (zn_lt0 (by omega)).mp (fun z => z.elim (zo_60 h60).mp (fun z => z.elim (zn_lt0 (by omega)).mp (zn_i32 hs).2.2.1.mp))
  rw [if_neg cnd, zcL hc, zn_ix (k := o) (by omega), zn_ix (k := s) (by omega), TA_1, if_neg (by omega), if_neg (by omega), if_neg (by omega), TA_1, if_neg (by omega), if_neg (by omega), if_pos ⟨rfl, by omega, by omega⟩, Nat.sub_zero, Nat.zero_add]
  rfl
theorem TA_n (L : Lg A) (hc : c < 8) : nv (aTA A c) (3 + c) = nv A 1 ∧ ve (aTA A c) (3 + c) = ve A 1 ∧ (QI (aTA A c) c ↔ QI A c) ∧ (∀ k, inQ (aTA A c) c k ↔ inQ A c k) ∧ (aTA A c).1 (3 + c) 5 = A.1 (3 + c) 5 := by
  have o : ∀ a b, a ≠ 3 + c ∨ b ≠ 2 ∧ b ≠ 3 → a ≠ 21 + 6 * c → (aTA A c).1 a b = A.1 a b := fun a b h1 h2 => by rw [TA_1, if_neg (by omega), if_neg (by omega), if_neg (by omega)]
  obtain ⟨q1, q2⟩ := QI_c (A := A) (B := aTA A c) (c := c) (fun b => o _ _ (Or.inl (by omega)) (by omega)) (fun b => o _ _ (Or.inl (by omega)) (by omega)) (o _ _ (Or.inr (by omega)) (by omega))
  refine ⟨?_, ?_, q1, q2, o _ _ (Or.inr (by omega)) (by omega)⟩
  · unfold nv
    rw [TA_1, if_neg (by omega), if_pos ⟨rfl, rfl⟩]
  · unfold ve
    rw [TA_1, if_pos ⟨rfl, rfl⟩]
theorem JQ_rel (H : JJ A) (Q : QI A c) (hown : A.1 (3 + c) 5 = okd c) (hc : c < 8) : JQ (aRel A c) c ∧ ∀ k, k < 60 → inQ (aRel A c) c k → inQ A c k ∨ (k < nv A 1 ∧ kok c (row A k 23)) := by
  obtain ⟨n1, n2, n3, n4, n5⟩ := TA_n H.1 hc
  have n6 := (Lg_n60 H.1).1
  have QT := n3.mpr Q
  have tv := fun o (h : o < 60) {s : Nat} (hs : s < 32) => TA_view H.1 hc o h hs
  have key : ∀ D k, zSame c (aTA A c) D → k < 60 → relP c D k = (!decide (row A k 25 = 4) && decide (okd c = -1 ∨ row A k 23 = okd c)) := fun D k S hk => by
    unfold relP gone ownKey
    rw [rd_S hc S, rd_S hc S, S _ _ (Or.inr (by decide)) (by omega) (by omega), n5, hown, show rd (aTA A c) (3 + c) (zn k) 25 = row A k 25 from tv k hk (by decide), show rd (aTA A c) (3 + c) (zn k) 23 = row A k 23 from tv k hk (by decide)]
  have S := eqs_S (c := c) (A := aTA A c) (P := relP c) (nv (aTA A c) (3 + c))
  have br : ∀ k s, k < 60 → s < 32 → rd (aRel A c) (3 + c) (zn k) (zn s) = row A k s := fun k s hk hs => (rd_S hc S _ _).trans (tv k hk hs)
  refine ⟨fun k hk => ?_, fun k hk h => ?_⟩
  · by_cases g : row A k 25 = 4
    · refine Or.inr (Or.inr ?_)
      have r25 : rd (aRel A c) (3 + c) (zn k) 25 = 4 := (br k 25 hk (by decide)).trans g
      rcases zc8 hc with rfl | rfl | rfl | rfl | rfl | rfl | rfl | rfl
      · trivial
      · exact fun z => absurd (r25.symm.trans (stay_s z).2) (by decide)
      · trivial
      · trivial
      · trivial
      · exact fun z => absurd (r25.symm.trans z) (by decide)
      · exact fun z => absurd (r25.symm.trans (stay_s z).2) (by decide)
      · exact fun z => absurd (r25.symm.trans (stay_s z).2) (by decide)
    · by_cases ok : okd c = -1 ∨ row A k 23 = okd c
      · refine Or.inl ?_
        have hkn : k < nv A 1 := Decidable.byContradiction fun q => g ((row_un H.1 q hk (by decide)).trans (if_pos rfl))
        refine eqs_in QT (by rw [n1]; exact hkn) (by rw [n1]; exact n6) fun D hD => ?_
        rw [key D k hD hk, decide_eq_false g, decide_eq_true ok]; rfl
      · refine Or.inr (Or.inr ?_)
        have r23 : rd (aRel A c) (3 + c) (zn k) 23 = row A k 23 := br k 23 hk (by decide)
        have nk : ¬ rd (aRel A c) (3 + c) (zn k) 23 = okd c := fun z => ok (Or.inr (r23.symm.trans z))
        have n1 : ¬ okd c = -1 := fun z => ok (Or.inl z)
        rcases zc8 hc with rfl | rfl | rfl | rfl | rfl | rfl | rfl | rfl
        · trivial
        · exact fun z => absurd (stay_s z).1 nk
        · trivial
        · trivial
        · trivial
        · exact absurd rfl n1
        · exact fun z => absurd (stay_s z).1 nk
        · exact fun z => absurd (stay_s z).1 nk
  · rcases eqs_only QT _ (by rw [n1]; exact n6) h with a | ⟨a, D, hD, p⟩
    · exact Or.inl ((n4 k).mp a)
    · rw [n1] at a
      rw [key D k hD hk] at p
      exact Or.inr ⟨a, of_decide_eq_true (p := okd c = -1 ∨ row A k 23 = okd c) (Bool.and_eq_true_iff.mp p).2⟩
/-- the keys that come by an event are of the controller's kind -/
theorem Own_only (Q : QI T c) {x : Int32} {k : Nat} (h : inQ (aOwn T c x) c k) : inQ T c k ∨ (x = zn k ∧ ownKey T c x = true) := by
  unfold aOwn at h
  cases p : ownKey T c x
  · rw [p] at h; exact Or.inl h
  · rw [p] at h; exact (Enq_only Q h).imp id fun z => ⟨z, rfl⟩
theorem keys_see (H : JJ A) (Q : QI A c) (hown : A.1 (3 + c) 5 = okd c) (hc : c < 8) (hlt : ve A (3 + c) < ve A 1) {k : Nat} (hk : k < 60) (h : inQ (aNext A c (obj A (ve A (3 + c) + 1))) c k) : inQ A c k ∨ (k < nv A 1 ∧ kok c (row A k 23)) := by
  have L := H.1
  have he4 := (Lg_n60 L).2.1
  generalize ho : obj A (ve A (3 + c) + 1) = o at h
  obtain ⟨r1, r2⟩ := L.2.1 (ve A (3 + c) + 1) (by omega) (by omega)
  obtain ⟨v1, v2, v3⟩ := L.2.2.2.2.2 c hc
  have hn6 : nv A (3 + c) ≤ 60 := (L.1.2.2 c hc).1.2.1.2
  have hon : o < nv A 1 := by
    rw [L.2.2.2.1.1, ← ho]
    refine Nat.lt_of_lt_of_le ?_ (numO_mono (f := obj A) (show ve A (3 + c) + 1 ≤ ve A 1 by omega))
    rw [numO_s]
    exact Nat.lt_of_lt_of_le (Nat.lt_succ_self _) (Nat.le_max_right _ _)
  have h60 : o < 60 := Nat.lt_of_lt_of_le hon (Lg_n60 L).1
  have n6 := (Lg_n60 L).1
  rw [Next_eq] at h
  generalize hT : tkE A c (ve A (3 + c) + 1) o = T at h
  have tr : ∀ q s, q < 60 → s < 32 → rd T (3 + c) (zn q) (zn s) = if q = o then lg A (ve A (3 + c) + 1) s else rd A (3 + c) (zn q) (zn s) := fun q s hq hs => by rw [← hT]; exact tkE_rd L hc h60 (by omega) hq hs
  have tn : nv T (3 + c) = Nat.max (nv A (3 + c)) (o + 1) := by rw [← hT]; exact tkE_nv hc h60 hn6
  have tn6 : nv T (3 + c) ≤ 60 := by rw [tn]; exact Nat.max_le.mpr ⟨hn6, by omega⟩
  obtain ⟨tq1, tq2⟩ := tkE_QI (A := A) (e := ve A (3 + c) + 1) (o := o) hc
  rw [hT] at tq1 tq2
  have QT : QI T c := tq1.mpr Q
  have t5 : T.1 (3 + c) 5 = okd c := by rw [← hT, tkE_o hc (Or.inr (by omega)) (by omega)]; exact hown
  -- the view with the event is a view of the same log
  have W : zIC T := by rw [← hT]; exact zIC_tk hc h60 (by omega) L.1
  have JT : JJ T := by
    refine JJ_view H hc W (fun a b x1 x2 x3 x4 => by rw [← hT]; exact tkE_o hc (x1.imp id fun z => ⟨z.1, z.2.1⟩) x2) ?_
    have e1 : ve T (3 + c) = ve A (3 + c) + 1 := by rw [← hT]; exact tkE_ve hc (by omega)
    rw [e1]
    refine ⟨by omega, ?_, fun q hq => ?_⟩
    · rw [tn, numO_s, ho, ← v2]
    · rw [← hT, tkE_1 hc, if_neg (by omega), if_neg (by omega), lastV_s, ho]
      by_cases z : q = o
      · rw [if_pos ⟨rfl, z⟩, if_pos z.symm]
      · rw [if_neg (fun y => z y.2), if_neg (fun y => z y.symm)]; exact v3 q hq
  have tg : ∀ a b, a ≠ 3 + c → a ≠ 21 + 6 * c → T.1 a b = A.1 a b := fun a b x1 x2 => by rw [← hT]; exact tkE_o hc (Or.inl x1) x2
  have trow : ∀ i, row T i 23 = row A i 23 := fun i => by unfold row lv; rw [tg 14 _ (by omega) (by omega), tg 15 _ (by omega) (by omega)]
  have tnv : nv T 1 = nv A 1 := by unfold nv; rw [tg 1 2 (by omega) (by omega)]
  have fin : ∀ {x : Int32}, rd T (3 + c) (zn k) 23 = x → ¬ x = -1 → kok c x → k < nv A 1 ∧ kok c (row A k 23) := fun {x} h1 h2 h3 => by
    obtain ⟨a, b⟩ := key_kind JT hc hk h1 h2
    rw [tnv] at a
    rw [trow] at b
    exact ⟨a, by rw [b]; exact h3⟩
  obtain ⟨Q1, m1, S1⟩ := Own_Q QT (zn o)
  have orr : ∀ x s, rd (aOwn T c (zn o)) (3 + c) x s = rd T (3 + c) x s := fun x s => rd_S hc S1 x s
  have on : nv (aOwn T c (zn o)) (3 + c) = nv T (3 + c) := nv_S S1
  have o5 : (aOwn T c (zn o)).1 (3 + c) 5 = okd c := (S1 _ _ (Or.inr (by decide)) (by omega) (by omega)).trans t5
  have w24 : oW T A c o = if lg A (ve A (3 + c) + 1) 24 = -1 then rd A (3 + c) (zn o) 24 else lg A (ve A (3 + c) + 1) 24 := by
    unfold oW
    rw [show rd T (3 + c) (zn o) 24 = lg A (ve A (3 + c) + 1) 24 from (tr o 24 h60 (by decide)).trans (if_pos rfl)]
  -- the owner that is told of, of an object of the kind x
  have wk : oW T A c o = zn k → k < nv A 1 ∧ (lg A (ve A (3 + c) + 1) 23 = 1 → row A k 23 = 0) := fun z => by
    rw [w24] at z
    by_cases q : lg A (ve A (3 + c) + 1) 24 = -1
    · rw [if_pos q] at z
      have hs : o < nv A (3 + c) := vw_lt H hc h60 (s := 24) (by decide) (by rw [if_neg (by decide)]; exact zn60 z hk)
      obtain ⟨-, j, j1, j2, j3, j4, j5⟩ := vw_row L hc hs
      rcases (H.2.2.1 j j1 (by omega)).1 with x | ⟨w, w1, w2, w3⟩
      · exact absurd (((j5 24 (by decide)).symm.trans z).symm.trans x) (zn60 rfl hk)
      · have e : w = k := (zn_inj (a := w) (b := k) (by omega) (by omega)).mp (w2.symm.trans ((j5 24 (by decide)).symm.trans z))
        rw [e] at w1 w3
        refine ⟨w1, fun y => ?_⟩
        rcases w3 with ⟨-, u⟩ | ⟨u, -⟩
        · exact u
        · have : lg A j 23 = lg A (ve A (3 + c) + 1) 23 := L.2.2.2.2.1 _ _ j1 (by omega) (by omega) (by omega) (by rw [j3, ho])
          exact absurd (y.symm.trans (this.symm.trans u)) (by decide)
    · rw [if_neg q] at z
      rcases (H.2.2.1 (ve A (3 + c) + 1) (by omega) (by omega)).1 with x | ⟨w, w1, w2, w3⟩
      · exact absurd x q
      · have e : w = k := (zn_inj (a := w) (b := k) (by omega) (by omega)).mp (w2.symm.trans z)
        rw [e] at w1 w3
        refine ⟨w1, fun y => ?_⟩
        rcases w3 with ⟨-, u⟩ | ⟨u, -⟩
        · exact u
        · exact absurd (y.symm.trans u) (by decide)
  rcases QO_only Q1 hc (by rw [on]; exact tn6) hk h with a | ⟨rfl, a⟩ | ⟨cc, a, b⟩ | ⟨cc, a⟩ | ⟨rfl, a⟩ | ⟨rfl, a⟩
  · rcases Own_only QT a with b | ⟨b, b2⟩
    · exact Or.inl ((tq2 k).mp b)
    · have e : o = k := (zn_inj (a := o) (b := k) (by omega) (by omega)).mp b
      subst e
      refine Or.inr ⟨hon, ?_⟩
      have kd : rd T (3 + c) (zn o) 23 = row A o 23 := ((tr o 23 h60 (by decide)).trans (if_pos rfl)).trans ((Lg_cur L hon).2 _ (by omega) (by omega) ho)
      have := of_decide_eq_true b2
      rw [t5, kd] at this
      exact this
  · rcases a with ⟨a1, a2⟩ | ⟨a1, a2⟩
    · obtain ⟨b1, b2⟩ := wk a1
      have e23 : rd (aOwn T 0 (zn o)) 3 (zn o) 23 = lg A (ve A (3 + 0) + 1) 23 := (orr _ _).trans ((tr o 23 h60 (by decide)).trans (if_pos rfl))
      exact Or.inr ⟨b1, Or.inr (b2 (e23.symm.trans a2))⟩
    · rcases w_nat (oW T A 0 o) with y | ⟨i, y, i6⟩
      · rw [kok_w y] at a2; exact absurd a2 (by decide)
      · rw [y] at a1 a2
        have b1 : rd T (3 + 0) (zn i) 23 = 1 := (orr (zn i) 23).symm.trans a2
        have b2 : rd T (3 + 0) (zn i) 24 = zn k := (orr (zn i) 24).symm.trans a1
        obtain ⟨u1, u2⟩ := own_kind2 JT hc i6 hk b1 b2
        rw [tnv] at u1
        rw [trow] at u2
        exact Or.inr ⟨u1, Or.inr u2⟩
  · have b' : rd T (3 + c) (zn k) 23 = okd c := by rw [← orr, ← a, b]; exact o5
    exact Or.inr (fin b' (by rcases cc with rfl | rfl <;> decide) (Or.inr rfl))
  · have a' : rd T (3 + c) (zn k) 23 = 2 := (orr _ _).symm.trans a
    exact Or.inr (fin a' (by decide) (by rcases cc with rfl | rfl <;> exact Or.inr rfl))
  · refine Or.inr ⟨?_, Or.inl rfl⟩
    rcases a with a | a
    · exact (wk a).1
    · have a : k < nv (aOwn T 5 (zn o)) (3 + 5) := a
      rw [on] at a
      have := (vw_row JT.1 hc a).1
      rw [tnv] at this
      exact this
  · have a' : rd T (3 + 6) (zn k) 23 = 5 := (orr _ _).symm.trans a
    exact Or.inr (fin a' (by decide) (Or.inr rfl))
end
end

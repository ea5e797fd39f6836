section
/-! a controller sees an event -/
def kok (c : Nat) (x : Int32) : Prop := okd c = -1 ∨ x = okd c
def KQk (A : zzMd) (c : Nat) : Prop := ∀ k, inQ A c k → k < nv A 1 ∧ kok c (row A k 23)
section
variable {A B T : zzMd} {c e o : Nat}
/-- the view behind the event e of the object o -/
def tkE (A : zzMd) (c e o : Nat) : zzMd := tkIn A (3 + c) o e
theorem tkE_1 (hc : c < 8) (a b : Nat) : (tkE A c e o).1 a b = if a = 3 + c ∧ b = 3 then zn e else if a = 3 + c ∧ b = 2 then zn (Nat.max (nv A (3 + c)) (o + 1)) else if a = 21 + 6 * c ∧ b = o then zn e else A.1 a b := by
  unfold tkE
  rw [tk_1, zcL hc]
theorem tkE_o (hc : c < 8) {a b : Nat} (h1 : a ≠ 3 + c ∨ b ≠ 2 ∧ b ≠ 3) (h2 : a ≠ 21 + 6 * c) : (tkE A c e o).1 a b = A.1 a b := by
  rw [tkE_1 hc, if_neg (by omega), if_neg (by omega), if_neg (by omega)]
theorem tkE_rd (H : Lg A) (hc : c < 8) (h60 : o < 60) (he : e ≤ ve A 1) {q s : Nat} (hq : q < 60) (hs : s < 32) : rd (tkE A c e o) (3 + c) (zn q) (zn s) = if q = o then lg A e s else rd A (3 + c) (zn q) (zn s) := by
  have hn := (Lg_n60 H).2.1
  unfold rd
  have cnd : ¬ (zn q < 0 ∨ 60 ≤ zn q ∨ zn s < 0 ∨ 32 ≤ zn s) := fun z => z.elim (zn_lt0 (by omega)).mp (fun z => z.elim (zo_60 hq).mp (fun z => z.elim (zn_lt0 (by omega)).mp (zn_i32 hs).2.2.1.mp))
  rw [if_neg cnd, if_neg cnd, zcL hc, zn_ix (k := q) (by omega), zn_ix (k := s) (by omega), tkE_o (a := 14) hc (Or.inl (by omega)) (by omega), tkE_1 hc, if_neg (by omega), if_neg (by omega)]
  by_cases h : q = o
  · rw [if_pos ⟨rfl, h⟩, if_pos h, zn_ix (by omega)]; rfl
  · rw [if_neg (fun z => h z.2), if_neg h]
theorem tkE_nv (hc : c < 8) (h60 : o < 60) (hn : nv A (3 + c) ≤ 60) : nv (tkE A c e o) (3 + c) = Nat.max (nv A (3 + c)) (o + 1) := by
  have hm : Nat.max (nv A (3 + c)) (o + 1) ≤ 60 := Nat.max_le.mpr ⟨hn, by omega⟩
  unfold nv
  rw [tkE_1 hc, if_neg (by omega), if_pos ⟨rfl, rfl⟩]
  exact zn_ix (by show Nat.max (nv A (3 + c)) (o + 1) < _; omega)
theorem tkE_ve (hc : c < 8) (he : e ≤ 400) : ve (tkE A c e o) (3 + c) = e := by
  unfold ve
  rw [tkE_1 hc, if_pos ⟨rfl, rfl⟩, zn_ix (by omega)]
theorem tkE_QI (hc : c < 8) : (QI (tkE A c e o) c ↔ QI A c) ∧ ∀ k, inQ (tkE A c e o) c k ↔ inQ A c k :=
  QI_c (fun b => tkE_o hc (Or.inl (by omega)) (by omega)) (fun b => tkE_o hc (Or.inl (by omega)) (by omega)) (tkE_o hc (Or.inr (by omega)) (by omega))
/-- which owner is told of -/
def oW (T A : zzMd) (c o : Nat) : Int32 := if rd T (3 + c) (zn o) 24 = -1 then rd A (3 + c) (zn o) 24 else rd T (3 + c) (zn o) 24
theorem Next_eq (A : zzMd) (c o : Nat) : aNext A c o = aQO (aOwn (tkE A c (ve A (3 + c) + 1) o) c (zn o)) c (zn o) (oW (tkE A c (ve A (3 + c) + 1) o) A c o) := rfl
/-- the queue only grows -/
theorem Own_Q (Q : QI T c) (x : Int32) : QI (aOwn T c x) c ∧ (∀ k, inQ T c k → inQ (aOwn T c x) c k) ∧ zSame c T (aOwn T c x) := by
  unfold aOwn
  cases ownKey T c x
  · exact ⟨Q, fun _ h => h, zSame_refl _ _⟩
  · exact ⟨QI_Enq _ Q, fun k h => inQ_mono Q h, zSame_Enq _ _ _⟩
theorem QO_Q (Q : QI T c) (hc : c < 8) (x w : Int32) : QI (aQO T c x w) c ∧ (∀ k, inQ T c k → inQ (aQO T c x w) c k) ∧ zSame c T (aQO T c x w) := by
  have z : QI T c ∧ (∀ k, inQ T c k → inQ T c k) ∧ zSame c T T := ⟨Q, fun _ h => h, zSame_refl _ _⟩
  have one : ∀ w, QI (aEnq T c w) c ∧ (∀ k, inQ T c k → inQ (aEnq T c w) c k) ∧ zSame c T (aEnq T c w) := fun w => ⟨QI_Enq _ Q, fun k h => inQ_mono Q h, zSame_Enq _ _ _⟩
  have all : ∀ P n, QI (eqs P c n T) c ∧ (∀ k, inQ T c k → inQ (eqs P c n T) c k) ∧ zSame c T (eqs P c n T) := fun P n => ⟨(eqs_Q Q n).1, (eqs_Q Q n).2, eqs_S n⟩
  rcases zc8 hc with rfl | rfl | rfl | rfl | rfl | rfl | rfl | rfl
  · show QI (aQ0 T x w) 0 ∧ (∀ k, inQ T 0 k → inQ (aQ0 T x w) 0 k) ∧ zSame 0 T (aQ0 T x w)
    unfold aQ0
    cases decide (rd T 3 x 23 = 2 ∧ rd T 3 w 23 = 1) <;> cases decide (rd T 3 x 23 = 1)
    · exact z
    · exact one w
    · exact one _
    · obtain ⟨a1, a2, a3⟩ := one w
      exact ⟨QI_Enq _ a1, fun k h => inQ_mono a1 (a2 k h), zSame_trans a3 (zSame_Enq _ _ _)⟩
  · show QI (aQ1 T 1 x w) 1 ∧ (∀ k, inQ T 1 k → inQ (aQ1 T 1 x w) 1 k) ∧ zSame 1 T (aQ1 T 1 x w)
    unfold aQ1
    cases decide (rd T (3 + 1) x 23 = 2 ∧ rd T (3 + 1) w 23 = T.1 (3 + 1) 5)
    · exact z
    · exact one w
  · show QI (aQ1 T 2 x w) 2 ∧ (∀ k, inQ T 2 k → inQ (aQ1 T 2 x w) 2 k) ∧ zSame 2 T (aQ1 T 2 x w)
    unfold aQ1
    cases decide (rd T (3 + 2) x 23 = 2 ∧ rd T (3 + 2) w 23 = T.1 (3 + 2) 5)
    · exact z
    · exact one w
  · show QI (aQ3 T x) 3 ∧ (∀ k, inQ T 3 k → inQ (aQ3 T x) 3 k) ∧ zSame 3 T (aQ3 T x)
    unfold aQ3
    cases decide (rd T 6 x 23 = 4)
    · exact z
    · exact all _ _
  · show QI (aQ4 T x) 4 ∧ (∀ k, inQ T 4 k → inQ (aQ4 T x) 4 k) ∧ zSame 4 T (aQ4 T x)
    unfold aQ4
    cases decide (rd T 7 x 23 = 4)
    · exact z
    · exact all _ _
  · show QI (aQ5 T x w) 5 ∧ (∀ k, inQ T 5 k → inQ (aQ5 T x w) 5 k) ∧ zSame 5 T (aQ5 T x w)
    unfold aQ5
    obtain ⟨a1, a2, a3⟩ := one w
    exact ⟨(eqs_Q a1 _).1, fun k h => (eqs_Q a1 _).2 k (a2 k h), zSame_trans a3 (eqs_S _)⟩
  · show QI (aQ6 T x) 6 ∧ (∀ k, inQ T 6 k → inQ (aQ6 T x) 6 k) ∧ zSame 6 T (aQ6 T x)
    unfold aQ6
    cases decide (rd T 9 x 23 = 2)
    · exact z
    · exact all _ _
  · exact z
/-- the log, and what was written, stay so in this -/
theorem JJ_view (H : JJ A) (hc : c < 8) (W : zIC B) (h1 : ∀ a b, a ≠ 3 + c ∨ b ≠ 2 ∧ b ≠ 3 ∧ b ≠ 11 → a ≠ 21 + 6 * c → a ≠ 22 + 6 * c → a ≠ 23 + 6 * c → B.1 a b = A.1 a b)
    (h2 : ve B (3 + c) ≤ ve A 1 ∧ nv B (3 + c) = numO (obj A) (ve B (3 + c)) ∧ ∀ o, o < 60 → B.1 (21 + 6 * c) o = zn (lastV (obj A) (ve B (3 + c)) o)) : JJ B := by
  obtain ⟨⟨-, l2, l3, l4, l5, l6⟩, j2, j3, j4⟩ := H
  have g : ∀ a b, a ≠ 3 + c → a ≠ 21 + 6 * c → a ≠ 22 + 6 * c → a ≠ 23 + 6 * c → B.1 a b = A.1 a b := fun a b x1 x2 x3 x4 => h1 a b (Or.inl x1) x2 x3 x4
  have g14 : B.1 14 = A.1 14 := funext fun q => g 14 q (by omega) (by omega) (by omega) (by omega)
  have g15 : B.1 15 = A.1 15 := funext fun q => g 15 q (by omega) (by omega) (by omega) (by omega)
  have o1 : obj B = obj A := by funext i; unfold obj; rw [g14]
  have o2 : lg B = lg A := by funext i s; unfold lg; rw [g14]
  have o3 : row B = row A := by funext i s; unfold row lv; rw [g14, g15]
  have o4 : ve B 1 = ve A 1 ∧ nv B 1 = nv A 1 := by unfold ve nv; rw [g 1 3 (by omega) (by omega) (by omega) (by omega), g 1 2 (by omega) (by omega) (by omega) (by omega)]; exact ⟨rfl, rfl⟩
  have o5 : nr B = nr A ∧ nc B = nc A := by unfold nr nc; rw [g 2 3 (by omega) (by omega) (by omega) (by omega), g 2 4 (by omega) (by omega) (by omega) (by omega)]; exact ⟨rfl, rfl⟩
  have o6 : jrow B = jrow A := by funext D; unfold jrow; rw [o4.2, o3]
  refine ⟨⟨W, by rw [o4.1, o1, o2]; exact l2, by rw [o2]; exact l3, by rw [o4.1, o4.2, o1, g15]; exact l4, by rw [o4.1, o1, o2]; exact l5, fun d hd => ?_⟩, by rw [o5.1, o5.2]; exact j2, by rw [o4.1, o2, o6]; exact j3, by rw [o4.1, o1, o2]; exact j4⟩
  rw [o4.1, o1]
  by_cases q : d = c
  · subst q; exact h2
  · have f1 : ve B (3 + d) = ve A (3 + d) ∧ nv B (3 + d) = nv A (3 + d) := by unfold ve nv; rw [g (3 + d) 3 (by omega) (by omega) (by omega) (by omega), g (3 + d) 2 (by omega) (by omega) (by omega) (by omega)]; exact ⟨rfl, rfl⟩
    obtain ⟨a1, a2, a3⟩ := l6 d hd
    rw [f1.1, f1.2]
    exact ⟨a1, a2, fun o ho => (g _ _ (by omega) (by omega) (by omega) (by omega)).trans (a3 o ho)⟩
/-- pbs over a longer stretch in which nothing more is behind -/
theorem pbs_eq {t u : Int32} {f m n : Nat} (h : ∀ i, pbB B u i = pbB A t i) (hx : ∀ i, f + m ≤ i → pbB B u i = false) (hmn : m ≤ n) : pbs B u f n = pbs A t f m := by
  have e : ∀ n, pbs B u f n = pbs A t f n := fun n => by
    induction n with
    | zero => rfl
    | succ n ih => rw [pbs_s, pbs_s, ih, h]
  obtain ⟨d, rfl⟩ : ∃ d, n = m + d := ⟨n - m, by omega⟩
  rw [e]
  clear hmn
  induction d with
  | zero => rfl
  | succ d ih =>
    rw [show m + (d + 1) = (m + d) + 1 from rfl, pbs_s, ← h, hx (f + (m + d)) (by omega)]
    exact ih
theorem zn60 {x : Int32} {k : Nat} (h : x = zn k) (hk : k < 60) : ¬ x = -1 := fun z => (zn_m1 (k := k) (by omega)).mp (h.symm.trans z)
/-- one event is seen: what was owed is so still -/
theorem JQ_see (H : JJ A) (Q : QI A c) (hown : A.1 (3 + c) 5 = okd c) (hc : c < 8) (hlt : ve A (3 + c) < ve A 1) (h : JQ A c) : JQ (aNext A c (obj A (ve A (3 + c) + 1))) c := by
  have L := H.1
  have he4 := (Lg_n60 L).2.1
  generalize ho : obj A (ve A (3 + c) + 1) = o
  obtain ⟨r1, r2⟩ := L.2.1 (ve A (3 + c) + 1) (by omega) (by omega)
  obtain ⟨v1, v2, v3⟩ := L.2.2.2.2.2 c hc
  have hn6 : nv A (3 + c) ≤ 60 := (L.1.2.2 c hc).1.2.1.2
  have hon : o < nv A 1 := by
    rw [L.2.2.2.1.1, ← ho]
    refine Nat.lt_of_lt_of_le ?_ (numO_mono (f := obj A) (show ve A (3 + c) + 1 ≤ ve A 1 by omega))
    rw [numO_s]
    exact Nat.lt_of_lt_of_le (Nat.lt_succ_self _) (Nat.le_max_right _ _)
  have h60 : o < 60 := Nat.lt_of_lt_of_le hon (Lg_n60 L).1
  rw [ho, Nat.add_sub_cancel, ← v2] at r1
  rw [Next_eq]
  generalize hT : tkE A c (ve A (3 + c) + 1) o = T
  have tr : ∀ q s, q < 60 → s < 32 → rd T (3 + c) (zn q) (zn s) = if q = o then lg A (ve A (3 + c) + 1) s else rd A (3 + c) (zn q) (zn s) := fun q s hq hs => by rw [← hT]; exact tkE_rd L hc h60 (by omega) hq hs
  have tn : nv T (3 + c) = Nat.max (nv A (3 + c)) (o + 1) := by rw [← hT]; exact tkE_nv hc h60 hn6
  have tn6 : nv T (3 + c) ≤ 60 := by rw [tn]; exact Nat.max_le.mpr ⟨hn6, by omega⟩
  have tna : nv A (3 + c) ≤ nv T (3 + c) := by rw [tn]; exact Nat.le_max_left _ _
  have ton : o < nv T (3 + c) := by rw [tn]; exact Nat.lt_of_lt_of_le (Nat.lt_succ_self _) (Nat.le_max_right _ _)
  have tv : ve T (3 + c) = ve A (3 + c) + 1 := by rw [← hT]; exact tkE_ve hc (by omega)
  obtain ⟨tq1, tq2⟩ := tkE_QI (A := A) (e := ve A (3 + c) + 1) (o := o) hc
  rw [hT] at tq1 tq2
  have QT : QI T c := tq1.mpr Q
  have t5 : T.1 (3 + c) 5 = okd c := by rw [← hT, tkE_o hc (Or.inr (by omega)) (by omega)]; exact hown
  have tob : ∀ i, obj T i = obj A i := fun i => by rw [← hT]; unfold obj; rw [tkE_o hc (Or.inl (by omega)) (by omega)]
  have tlg : ∀ i s, lg T i s = lg A i s := fun i s => by rw [← hT]; unfold lg; rw [tkE_o hc (Or.inl (by omega)) (by omega)]
  have tv1 : ve T 1 = ve A 1 := by rw [← hT]; unfold ve; rw [tkE_o hc (Or.inl (by omega)) (by omega)]
  obtain ⟨Q1, m1, S1⟩ := Own_Q QT (zn o)
  generalize hO : aOwn T c (zn o) = O at *
  generalize hw : oW T A c o = w
  obtain ⟨Q2, m2, S2⟩ := QO_Q Q1 hc (zn o) w
  have S := zSame_trans S1 S2
  generalize hB : aQO O c (zn o) w = B at *
  have br : ∀ x s, rd B (3 + c) x s = rd T (3 + c) x s := fun x s => rd_S hc S x s
  have orr : ∀ x s, rd O (3 + c) x s = rd T (3 + c) x s := fun x s => rd_S hc S1 x s
  have bn : nv B (3 + c) = nv T (3 + c) := nv_S S
  have on : nv O (3 + c) = nv T (3 + c) := nv_S S1
  have bg : ∀ a b, a ≠ 3 + c ∨ b ≠ 11 → a ≠ 22 + 6 * c → a ≠ 23 + 6 * c → B.1 a b = T.1 a b := S
  have bv : ve B (3 + c) = ve A (3 + c) + 1 := by rw [← tv]; unfold ve; rw [bg _ _ (Or.inr (by omega)) (by omega) (by omega)]
  have bv1 : ve B 1 = ve A 1 := by rw [← tv1]; unfold ve; rw [bg _ _ (Or.inl (by omega)) (by omega) (by omega)]
  have bob : obj B = obj A := by
    funext i
    rw [← tob i]; unfold obj; rw [bg _ _ (Or.inl (by omega)) (by omega) (by omega)]
  have blg : lg B = lg A := by
    funext i s
    rw [← tlg i s]; unfold lg; rw [bg _ _ (Or.inl (by omega)) (by omega) (by omega)]
  have mono : ∀ k, inQ A c k → inQ B c k := fun k hk => m2 k (m1 k ((tq2 k).mpr hk))
  have rB : ∀ q s, q < 60 → s < 32 → rd B (3 + c) (zn q) (zn s) = if q = o then lg A (ve A (3 + c) + 1) s else rd A (3 + c) (zn q) (zn s) := fun q s hq hs => (br _ _).trans (tr q s hq hs)
  have w24 : w = if lg A (ve A (3 + c) + 1) 24 = -1 then rd A (3 + c) (zn o) 24 else lg A (ve A (3 + c) + 1) 24 := by
    rw [← hw]
    unfold oW
    rw [show rd T (3 + c) (zn o) 24 = lg A (ve A (3 + c) + 1) 24 from (tr o 24 h60 (by decide)).trans (if_pos rfl)]
  -- the event's own object
  have own : inQ B c o ∨ sat B c o := by
    by_cases ok : ownKey T c (zn o) = true
    · refine Or.inl (m2 o ?_)
      rw [← hO]; unfold aOwn; rw [ok]
      exact inQ_self QT h60
    · refine Or.inr ?_
      have nk : ¬ rd B (3 + c) (zn o) 23 = okd c := fun z => ok (by unfold ownKey; rw [t5, ← br]; exact decide_eq_true (Or.inr z))
      have n1 : ¬ okd c = -1 := fun z => ok (by unfold ownKey; rw [t5]; exact decide_eq_true (Or.inl z))
      rcases zc8 hc with rfl | rfl | rfl | rfl | rfl | rfl | rfl | rfl
      · trivial
      · exact fun z => absurd (stay_s z).1 nk
      · trivial
      · trivial
      · trivial
      · exact absurd rfl n1
      · exact fun z => absurd (stay_s z).1 nk
      · exact fun z => absurd (stay_s z).1 nk
  -- for REPLICATOR: a POD's owner
  have pod : c = 1 → ∀ k, k < 60 → lg A (ve A (3 + c) + 1) 23 = 2 → w = zn k → inQ B c k ∨ sat B c k := by
    rintro rfl k hk k2 wk
    by_cases ks : rd T (3 + 1) (zn k) 23 = 1
    · refine Or.inl ?_
      rw [← hB]
      show inQ (aQ1 O 1 (zn o) w) 1 k
      unfold aQ1
      have c1 : rd O (3 + 1) (zn o) 23 = 2 ∧ rd O (3 + 1) w 23 = O.1 (3 + 1) 5 := by
        refine ⟨?_, ?_⟩
        · rw [orr, show rd T (3 + 1) (zn o) 23 = lg A (ve A (3 + 1) + 1) 23 from (tr o 23 h60 (by decide)).trans (if_pos rfl)]; exact k2
        · rw [orr, wk, ks, S1 _ _ (Or.inr (by decide)) (by decide) (by decide), t5]; rfl
      rw [decide_eq_true c1, wk]
      exact inQ_self Q1 hk
    · exact Or.inr fun z => absurd ((br _ _).symm.trans (stay_s z).1) ks
  have tch : ∀ k, k < 60 → (o = k ∨ (c = 1 ∧ lg A (ve A (3 + c) + 1) 23 = 2 ∧ (lg A (ve A (3 + c) + 1) 24 = zn k ∨ (lg A (ve A (3 + c) + 1) 24 = -1 ∧ rd A (3 + c) (zn o) 24 = zn k)))) → inQ B c k ∨ sat B c k := fun k hk h => by
    rcases h with rfl | ⟨c1, k2, z⟩
    · exact own
    · refine pod c1 k hk k2 ?_
      rw [w24]
      rcases z with z | ⟨z1, z2⟩
      · rw [if_neg (zn60 z hk)]; exact z
      · rw [if_pos z1]; exact z2
  intro k hk
  rcases h k hk with a | ⟨e, e1, e2, e3⟩ | a
  · exact Or.inl (mono k a)
  · by_cases q : e = ve A (3 + c) + 1
    · subst q
      rw [ho] at e3
      have lp : lg A (lastV (obj A) (ve A (3 + c) + 1 - 1) o) 24 = rd A (3 + c) (zn o) 24 := by
        rw [Nat.add_sub_cancel]
        exact (vw_rd L hc h60 (by decide : 24 < 32)).symm
      rw [lp] at e3
      exact (tch k hk e3).imp id Or.inr
    · exact Or.inr (Or.inl ⟨e, by rw [bv]; omega, by rw [bv1]; exact e2, by rw [bob, blg]; exact e3⟩)
  · by_cases hko : k = o
    · subst hko
      exact own.imp id Or.inr
    have rk : ∀ s, s < 32 → rd B (3 + c) (zn k) (zn s) = rd A (3 + c) (zn k) (zn s) := fun s hs => (rB k s hk hs).trans (if_neg hko)
    rcases zc8 hc with rfl | rfl | rfl | rfl | rfl | rfl | rfl | rfl
    · exact Or.inr (Or.inr trivial)
    · -- REPLICATOR
      by_cases t : lg A (ve A (3 + 1) + 1) 23 = 2 ∧ (lg A (ve A (3 + 1) + 1) 24 = zn k ∨ (lg A (ve A (3 + 1) + 1) 24 = -1 ∧ rd A (3 + 1) (zn o) 24 = zn k))
      · exact (tch k hk (Or.inr ⟨rfl, t⟩)).imp id Or.inr
      refine Or.inr (Or.inr fun st => ?_)
      have kd : ∀ {x : Int32}, rd A (3 + 1) (zn o) 23 = x → x ≠ -1 → lg A (ve A (3 + 1) + 1) 23 = x := fun {x} hx nx => by
        have hseen : o < nv A (3 + 1) := vw_lt H hc h60 (s := 23) (by decide) (by
          rw [if_neg (by decide)]; exact fun z => nx (hx.symm.trans z))
        rw [← hx, vw_kind L hc hseen]
        exact (Lg_cur L hon).2 _ (by omega) (by omega) ho
      have ow : ∀ i, i < 60 → owned B 4 (zn i) 2 (zn k) = owned A 4 (zn i) 2 (zn k) := fun i hi => by
        by_cases q : i = o
        · subst q
          have f1 : owned B 4 (zn i) 2 (zn k) = false := decide_eq_false fun ⟨z1, z2, z3⟩ => t ⟨by rw [← z2]; exact ((rB i 23 hi (by decide)).trans (if_pos rfl)).symm, Or.inl (by rw [← z1]; exact ((rB i 24 hi (by decide)).trans (if_pos rfl)).symm)⟩
          have f2 : owned A 4 (zn i) 2 (zn k) = false := decide_eq_false fun ⟨z1, z2, z3⟩ => by
            have hseen : i < nv A (3 + 1) := vw_lt H hc hi (s := 23) (by decide) (by
              rw [if_neg (by decide)]; exact fun z => absurd (z2.symm.trans z) (by decide))
            obtain ⟨-, j, j1, j2, j3, j4, j5⟩ := vw_row L hc hseen
            have e24 := H.2.2.2 j (ve A (3 + 1) + 1) j1 (by omega) (by omega) (by rw [j3, ho])
            rw [← j5 24 (by decide)] at e24
            have z1' : rd A (3 + 1) (zn i) (zn 24) = zn k := z1
            refine t ⟨kd z2 (by decide), ?_⟩
            rcases e24 with y | y
            · exact Or.inl (y.trans z1')
            · exact Or.inr ⟨y, z1⟩
          rw [f1, f2]
        · unfold owned
          rw [show rd B 4 (zn i) 24 = rd A 4 (zn i) 24 from (rB i 24 hi (by decide)).trans (if_neg q), show rd B 4 (zn i) 23 = rd A 4 (zn i) 23 from (rB i 23 hi (by decide)).trans (if_neg q), show rd B 4 (zn i) 25 = rd A 4 (zn i) 25 from (rB i 25 hi (by decide)).trans (if_neg q)]
      have ox : ∀ i, nv A 4 ≤ i → i < nv B 4 → owned B 4 (zn i) 2 (zn k) = false := fun i i1 i2 => by
        have i6 : i < 60 := by have : nv B 4 ≤ 60 := by rw [show nv B 4 = nv T 4 from bn]; exact tn6
                               omega
        rw [ow i i6]
        refine decide_eq_false fun ⟨z1, z2, z3⟩ => ?_
        have := vw_un L (c := 1) hc (o := i) (by show ¬ i < nv A 4; omega) i6 (s := 23) (by decide)
        rw [if_neg (by decide)] at this
        exact absurd (z2.symm.trans this) (by decide)
      have st' : stay A 4 (zn k) 1 = true := by
        unfold stay at st ⊢
        rw [← show rd B 4 (zn k) 23 = rd A 4 (zn k) 23 from rk 23 (by decide), ← show rd B 4 (zn k) 25 = rd A 4 (zn k) 25 from rk 25 (by decide)]
        exact st
      obtain ⟨s1, s2⟩ := a st'
      have bna : nv A 4 ≤ nv B 4 := by rw [show nv B 4 = nv T 4 from bn]; exact tna
      have b6 : nv B 4 ≤ 60 := by rw [show nv B 4 = nv T 4 from bn]; exact tn6
      refine ⟨?_, ?_⟩
      · unfold ovP at s1 ⊢
        refine zfst_non fun i hi => ?_
        by_cases q : i < nv A 4
        · have := zfst_no s1 i q
          rw [ow i (by omega)]
          cases f : owned A 4 (zn i) 2 (zn k)
          · rfl
          · rw [f, Bool.true_and] at this
            have io : i ≠ o := fun z => by
              subst z
              have g := ow i h60
              rw [f] at g
              obtain ⟨z1, z2, z3⟩ := owned_s g
              exact t ⟨by rw [← z2]; exact ((rB i 23 h60 (by decide)).trans (if_pos rfl)).symm, Or.inl (by rw [← z1]; exact ((rB i 24 h60 (by decide)).trans (if_pos rfl)).symm)⟩
            rw [Bool.true_and, show rd B 4 (zn i) 29 = rd A 4 (zn i) 29 from (rB i 29 (by omega) (by decide)).trans (if_neg io)]
            exact this
        · rw [ox i (by omega) hi]; rfl
      · have ec : cntP B 4 (zn k) = cntP A 4 (zn k) := by
          unfold cntP
          rw [zcnt_ext bna ox]
          exact zcnt_congr fun i hi => ow i (by omega)
        rw [ec, s2]
        exact (rk 0 (by decide)).symm
    · exact Or.inr (Or.inr trivial)
    · exact Or.inr (Or.inr trivial)
    · exact Or.inr (Or.inr trivial)
    · -- COLLECTOR
      by_cases q : rd A 8 (zn k) 24 = zn o
      · refine Or.inl ?_
        rw [← hB]
        show inQ (aQ5 O (zn o) w) 5 k
        unfold aQ5
        have hseen : k < nv A (3 + 5) := vw_lt H hc hk (s := 24) (by decide) (by
          rw [if_neg (by decide)]; exact zn60 q h60)
        have on8 : nv O 8 = nv T 8 := on
        have tna8 : nv A 8 ≤ nv T 8 := tna
        have tn68 : nv T 8 ≤ 60 := tn6
        have hseen' : k < nv A 8 := hseen
        refine eqs_in (QI_Enq _ Q1) (by rw [on8]; omega) (by rw [on8]; exact tn68) fun D hD => decide_eq_true ?_
        have r1 := rd_S hc hD (zn k) 24
        have r2 := rd_S (c := 5) hc (zSame_Enq O 5 w) (zn k) 24
        have r3 : rd D 8 (zn k) 24 = rd T 8 (zn k) 24 := r1.trans (r2.trans (orr _ _))
        rw [r3, show rd T 8 (zn k) 24 = rd A 8 (zn k) 24 from (tr k 24 hk (by decide)).trans (if_neg hko)]
        exact q
      · refine Or.inr (Or.inr fun z => ?_)
        have a' : sat5 A k := a
        rw [show rd B 8 (zn k) 25 = rd A 8 (zn k) 25 from rk 25 (by decide)] at z
        rw [show rd B 8 (zn k) 24 = rd A 8 (zn k) 24 from rk 24 (by decide)]
        rcases a' z with y | y
        · exact Or.inl y
        · -- the owner is another object than the event's
          have hseen : k < nv A (3 + 5) := vw_lt H hc hk (s := 25) (by decide) (by
            rw [if_pos rfl, show rd A (3 + 5) (zn k) (zn 25) = 0 from z]; decide)
          obtain ⟨-, j, j1, j2, j3, j4, j5⟩ := vw_row L hc hseen
          rcases (H.2.2.1 j j1 (by omega)).1 with x | ⟨x, x1, x2, -⟩
          · exact Or.inl ((j5 24 (by decide)).trans x)
          · have e24 : rd A 8 (zn k) 24 = zn x := (j5 24 (by decide)).trans x2
            have x6 : x < 60 := by have := (Lg_n60 L).1; omega
            have xo : x ≠ o := fun u => q (by rw [e24, u])
            refine Or.inr ?_
            rw [e24] at y ⊢
            unfold gone at y ⊢
            rw [show rd B 8 (zn x) 25 = rd A 8 (zn x) 25 from (rB x 25 x6 (by decide)).trans (if_neg xo)]
            exact y
    · -- ROUTER
      by_cases p2 : lg A (ve A (3 + 6) + 1) 23 = 2
      · by_cases st : stay B 9 (zn k) 5 = true
        · refine Or.inl ?_
          obtain ⟨k1, k2⟩ := stay_s st
          rw [← hB]
          show inQ (aQ6 O (zn o)) 6 k
          unfold aQ6
          rw [decide_eq_true (show rd O 9 (zn o) 23 = 2 from (orr _ _).trans (((tr o 23 h60 (by decide)).trans (if_pos rfl)).trans p2))]
          have kt : k < nv T (3 + 6) := Nat.lt_of_lt_of_le (vw_lt H hc hk (s := 23) (by decide) (by
            rw [if_neg (by decide), ← rk 23 (by decide), show rd B (3 + 6) (zn k) (zn 23) = 5 from k1]; decide)) tna
          have on9 : nv O 9 = nv T 9 := on
          have tn69 : nv T 9 ≤ 60 := tn6
          refine eqs_in Q1 (by rw [on9]; exact kt) (by rw [on9]; exact tn69) fun D hD => ?_
          have r0 : ∀ s, rd D 9 (zn k) s = rd B 9 (zn k) s := fun s => (rd_S hc hD (zn k) s).trans ((orr _ _).trans (br _ _).symm)
          unfold gone
          rw [r0, r0, k1, k2]
          rfl
        · exact Or.inr (Or.inr fun z => absurd z st)
      · refine Or.inr (Or.inr fun st => ?_)
        have st' : stay A 9 (zn k) 5 = true := by
          unfold stay at st ⊢
          rw [← show rd B 9 (zn k) 23 = rd A 9 (zn k) 23 from rk 23 (by decide), ← show rd B 9 (zn k) 25 = rd A 9 (zn k) 25 from rk 25 (by decide)]
          exact st
        obtain ⟨s1, s2⟩ := (show sat6 A k from a) st'
        have pb : ∀ t i, i < 60 → pbB B t i = pbB A t i := fun t i hi => by
          unfold pbB
          by_cases q : i = o
          · subst q
            have f1 : stay B 9 (zn i) 2 = false := decide_eq_false fun ⟨z1, z2⟩ => p2 (by rw [← z1]; exact ((rB i 23 hi (by decide)).trans (if_pos rfl)).symm)
            have f2 : stay A 9 (zn i) 2 = false := decide_eq_false fun ⟨z1, z2⟩ => by
              have hseen : i < nv A (3 + 6) := vw_lt H hc hi (s := 23) (by decide) (by
                rw [if_neg (by decide)]; exact fun z => absurd (z1.symm.trans z) (by decide))
              refine p2 ?_
              rw [(Lg_cur L hon).2 _ (by omega) (by omega) ho, ← vw_kind L hc hseen]
              exact z1
            rw [f1, f2]; rfl
          · have g : ∀ s, s < 32 → rd B 9 (zn i) (zn s) = rd A 9 (zn i) (zn s) := fun s hs => (rB i s hi hs).trans (if_neg q)
            unfold stay
            rw [show rd B 9 (zn i) 23 = rd A 9 (zn i) 23 from g 23 (by decide), show rd B 9 (zn i) 25 = rd A 9 (zn i) 25 from g 25 (by decide), show rd B 9 (zn i) 29 = rd A 9 (zn i) 29 from g 29 (by decide), show rd B 9 (zn i) 1 = rd A 9 (zn i) 1 from g 1 (by decide)]
        have un : ∀ t i, 60 ≤ i → i < 2147483648 → ∀ M, pbB M t i = false := fun t i h1 h2 M => by
          unfold pbB stay
          have : rd M 9 (zn i) 23 = -1 := if_pos (Or.inr (Or.inl (by
            rw [show (60 : Int32) = zn 60 from rfl, zn_le (a := 60) (b := i) (by decide) h2]; exact h1)))
          rw [this, decide_eq_false (fun z => absurd z.1 (by decide))]; rfl
        have px : ∀ t i, nv A 9 ≤ i → i < 60 → pbB B t i = false := fun t i h1 h2 => by
          rw [pb t i h2]
          unfold pbB stay
          have := vw_un L (c := 6) hc (o := i) (by show ¬ i < nv A 9; omega) h2 (s := 23) (by decide)
          rw [if_neg (by decide)] at this
          rw [show rd A 9 (zn i) 23 = -1 from this, decide_eq_false (fun z => absurd z.1 (by decide))]; rfl
        have bna : nv A 9 ≤ nv B 9 := by rw [show nv B 9 = nv T 9 from bn]; exact tna
        have bn60 : nv B 9 ≤ 60 := by rw [show nv B 9 = nv T 9 from bn]; exact tn6
        have k1 : rd B 9 (zn k) 1 = rd A 9 (zn k) 1 := rk 1 (by decide)
        have seg : ∀ t f, pbs B t f (min 30 (nv B 9 - f)) = pbs A t f (min 30 (nv A 9 - f)) := fun t f => by
          have e1 : ∀ n, f + n ≤ 60 → pbs B t f n = pbs A t f n := fun n => by
            induction n with
            | zero => exact fun _ => rfl
            | succ n ih => exact fun hn => by rw [pbs_s, pbs_s, ih (by omega), pb t (f + n) (by omega)]
          have e2 : ∀ d, f + (min 30 (nv A 9 - f) + d) ≤ 60 → min 30 (nv A 9 - f) + d ≤ 30 → pbs B t f (min 30 (nv A 9 - f) + d) = pbs B t f (min 30 (nv A 9 - f)) := fun d => by
            induction d with
            | zero => exact fun _ _ => rfl
            | succ d ih =>
              intro h1 h2
              rw [show min 30 (nv A 9 - f) + (d + 1) = (min 30 (nv A 9 - f) + d) + 1 from rfl, pbs_s, px t (f + (min 30 (nv A 9 - f) + d)) (by omega) (by omega)]
              exact ih (by omega) (by omega)
          by_cases hf : f ≤ nv B 9
          · have := e2 (min 30 (nv B 9 - f) - min 30 (nv A 9 - f)) (by omega) (by omega)
            rw [show min 30 (nv A 9 - f) + (min 30 (nv B 9 - f) - min 30 (nv A 9 - f)) = min 30 (nv B 9 - f) by omega] at this
            rw [this]
            exact e1 _ (by omega)
          · rw [show min 30 (nv B 9 - f) = 0 by omega, show min 30 (nv A 9 - f) = 0 by omega]; rfl
        refine ⟨?_, ?_⟩
        · unfold pLow at s1 ⊢
          rw [seg, k1, s1]
          exact (rk 30 (by decide)).symm
        · unfold pHigh at s2 ⊢
          rw [seg, k1, s2]
          exact (rk 31 (by decide)).symm
    · -- SCALER
      refine Or.inr (Or.inr ?_)
      have a' : sat7 A k := a
      have g : ∀ s, s < 32 → rd B 10 (zn k) (zn s) = rd A 10 (zn k) (zn s) := rk
      show sat7 B k
      unfold sat7 goalS stay at a' ⊢
      rw [show rd B 10 (zn k) 23 = rd A 10 (zn k) 23 from g 23 (by decide), show rd B 10 (zn k) 25 = rd A 10 (zn k) 25 from g 25 (by decide), show rd B 10 (zn k) 5 = rd A 10 (zn k) 5 from g 5 (by decide), show rd B 10 (zn k) 6 = rd A 10 (zn k) 6 from g 6 (by decide), show rd B 10 (zn k) 0 = rd A 10 (zn k) 0 from g 0 (by decide)]
      exact a'
end
end

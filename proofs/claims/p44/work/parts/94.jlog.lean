section
/-! the log by itself -/
theorem lastV_ge {f : Nat → Nat} {o : Nat} : ∀ {e j : Nat}, j ≤ e → 1 ≤ j → f j = o → j ≤ lastV f e o
  | 0, j, h1, h2, _ => by omega
  | e + 1, j, h1, h2, h3 => by
    rw [lastV_s]
    by_cases h : f (e + 1) = o
    · rw [if_pos h]; exact h1
    · rw [if_neg h]
      have : j ≠ e + 1 := fun z => h (z ▸ h3)
      exact lastV_ge (by omega) h2 h3
/-- an event's row, by the kinds of the objects that are known: owner, place, phase, budget, managers -/
def jrow (A : zzMd) (D : Nat → Int32) : Prop :=
  (D 24 = -1 ∨ ∃ w, w < nv A 1 ∧ D 24 = zn w ∧ ((D 23 = 1 ∧ row A w 23 = 0) ∨ (D 23 = 2 ∧ (row A w 23 = 1 ∨ row A w 23 = 3)))) ∧
  (D 28 = -1 ∨ ∃ p, p < nv A 1 ∧ D 28 = zn p ∧ row A p 23 = 4) ∧ (D 23 = 2 → D 29 = 0 ∨ ¬ D 28 = -1 ∨ ¬ D 25 = 0) ∧ (D 23 = 0 → ¬ (D 2 = 0 ∧ D 3 = 0)) ∧ ∀ f, f < 11 → ∃ a, a ≤ 5 ∧ D (11 + f) = zn a
def Lg (A : zzMd) : Prop := zIC A ∧ (∀ k, 1 ≤ k → k ≤ ve A 1 → obj A k ≤ numO (obj A) (k - 1) ∧ lg A k 22 = zn (obj A k)) ∧ (∀ s, s < 32 → lg A 0 s = if s = 25 then 4 else -1) ∧
  (nv A 1 = numO (obj A) (ve A 1) ∧ ∀ o, o < 60 → A.1 15 o = zn (lastV (obj A) (ve A 1) o)) ∧ (∀ j k, 1 ≤ j → j ≤ ve A 1 → 1 ≤ k → k ≤ ve A 1 → obj A j = obj A k → lg A j 23 = lg A k 23) ∧
  ∀ c, c < 8 → ve A (3 + c) ≤ ve A 1 ∧ nv A (3 + c) = numO (obj A) (ve A (3 + c)) ∧ ∀ o, o < 60 → A.1 (21 + 6 * c) o = zn (lastV (obj A) (ve A (3 + c)) o)
/-- all that the log keeps -/
def JJ (A : zzMd) : Prop := Lg A ∧ (nr A = 0 ∧ nc A = 0) ∧ (∀ k, 1 ≤ k → k ≤ ve A 1 → jrow A (lg A k)) ∧ ∀ j k, 1 ≤ j → j < k → k ≤ ve A 1 → obj A j = obj A k → lg A k 24 = lg A j 24 ∨ lg A k 24 = -1
section
variable {A R : zzMd}
theorem Lg_of (H : Rl0 A R) : Lg A := by
  refine ⟨H.1.2, fun k h1 h2 => ?_, H.2.1.2.2.1, H.2.1.2.2.2.1, fun j k h1 h2 h3 h4 e => ?_, fun c hc => ?_⟩
  · have r := H.2.1.2.1 k h1 h2
    exact ⟨r.1, r.2.1⟩
  · rw [(H.2.1.2.1 j h1 h2).2.2.2.1, (H.2.1.2.1 k h3 h4).2.2.2.1, e]
  · have V := (H.2.2.1 c hc).1
    exact ⟨V.1.1, V.1.2.2, fun o ho => (V.2 o ho).1⟩
theorem Lg_n60 (H : Lg A) : nv A 1 ≤ 60 ∧ ve A 1 ≤ 400 ∧ A.1 1 2 = zn (nv A 1) ∧ A.1 1 3 = zn (ve A 1) := ⟨H.1.1.2.1.2, H.1.1.2.2.2, H.1.1.2.1.1, H.1.1.2.2.1⟩
theorem Lg_lastV (H : Lg A) {e o : Nat} (he : e ≤ ve A 1) : lastV (obj A) e o ≠ 0 ↔ o < numO (obj A) e :=
  lastV_pos fun k hk => (H.2.1 (k + 1) (by omega) (by omega)).1
theorem Lg_row (H : Lg A) {o : Nat} (ho : o < nv A 1) : ∃ k, 1 ≤ k ∧ k ≤ ve A 1 ∧ obj A k = o ∧ (∀ s, row A o s = lg A k s) ∧ A.1 15 o = zn k ∧ lastV (obj A) (ve A 1) o = k := by
  have h60 : o < 60 := Nat.lt_of_lt_of_le ho (Lg_n60 H).1
  have ho2 := ho
  rw [H.2.2.2.1.1] at ho2
  have h1 := (Lg_lastV H (Nat.le_refl _)).mpr ho2
  have h2 := lastV_le (f := obj A) o (ve A 1)
  refine ⟨lastV (obj A) (ve A 1) o, by omega, h2, lastV_obj h1, fun s => ?_, H.2.2.2.1.2 o h60, rfl⟩
  unfold row lg lv
  have := (Lg_n60 H).2.1
  rw [H.2.2.2.1.2 o h60, zn_ix (by omega)]
theorem row_un (H : Lg A) {o : Nat} (ho : ¬ o < nv A 1) (h60 : o < 60) {s : Nat} (hs : s < 32) : row A o s = if s = 25 then 4 else -1 := by
  have ho2 := ho
  rw [H.2.2.2.1.1] at ho2
  have h1 : lastV (obj A) (ve A 1) o = 0 := Decidable.byContradiction fun q => ho2 ((Lg_lastV H (Nat.le_refl _)).mp q)
  unfold row lv
  rw [H.2.2.2.1.2 o h60, h1]
  exact H.2.2.1 s hs
theorem Lg_cur (H : Lg A) {o : Nat} (ho : o < nv A 1) : row A o 22 = zn o ∧ ∀ k, 1 ≤ k → k ≤ ve A 1 → obj A k = o → lg A k 23 = row A o 23 := by
  obtain ⟨k, k1, k2, k3, k4, -⟩ := Lg_row H ho
  have e : row A o = lg A k := funext k4
  rw [e]
  obtain ⟨a, b⟩ := H.2.1 k k1 k2
  exact ⟨by rw [b, k3], fun j j1 j2 j3 => H.2.2.2.2.1 j k j1 j2 k1 k2 (by rw [j3, k3])⟩
theorem JJ_cur (H : JJ A) {o : Nat} (ho : o < nv A 1) : jrow A (row A o) := by
  obtain ⟨k, k1, k2, k3, k4, -⟩ := Lg_row H.1 ho
  rw [show row A o = lg A k from funext k4]
  exact H.2.2.1 k k1 k2
/-- a controller's view is the log up to what it has seen -/
theorem vw_rd (H : Lg A) {c o s : Nat} (hc : c < 8) (ho : o < 60) (hs : s < 32) : rd A (3 + c) (zn o) (zn s) = lg A (lastV (obj A) (ve A (3 + c)) o) s := by
  obtain ⟨v1, v2, v3⟩ := H.2.2.2.2.2 c hc
  unfold rd lg
  rw [if_neg (fun z => z.elim (zn_lt0 (by omega)).mp (fun z => z.elim (zo_60 ho).mp (fun z => z.elim (zn_lt0 (by omega)).mp (zn_i32 hs).2.2.1.mp))), zn_ix (k := o) (by omega), zn_ix (k := s) (by omega), zcL hc, v3 o ho]
  have h1 : lastV (obj A) (ve A (3 + c)) o ≤ ve A (3 + c) := lastV_le o _
  have := (Lg_n60 H).2.1
  rw [zn_ix (by omega)]
theorem vw_un (H : Lg A) {c o s : Nat} (hc : c < 8) (ho : ¬ o < nv A (3 + c)) (h60 : o < 60) (hs : s < 32) : rd A (3 + c) (zn o) (zn s) = if s = 25 then 4 else -1 := by
  obtain ⟨v1, v2, v3⟩ := H.2.2.2.2.2 c hc
  rw [vw_rd H hc h60 hs]
  have : lastV (obj A) (ve A (3 + c)) o = 0 := Decidable.byContradiction fun q => ho (by rw [v2]; exact (Lg_lastV H v1).mp q)
  rw [this]
  exact H.2.2.1 s hs
theorem vw_row (H : Lg A) {c o : Nat} (hc : c < 8) (ho : o < nv A (3 + c)) : o < nv A 1 ∧ ∃ k, 1 ≤ k ∧ k ≤ ve A (3 + c) ∧ obj A k = o ∧ lastV (obj A) (ve A (3 + c)) o = k ∧ ∀ s, s < 32 → rd A (3 + c) (zn o) (zn s) = lg A k s := by
  obtain ⟨v1, v2, v3⟩ := H.2.2.2.2.2 c hc
  have ho2 := ho
  rw [v2] at ho2
  have h1 := (Lg_lastV H v1).mpr ho2
  have hn : o < nv A 1 := by
    rw [H.2.2.2.1.1]
    exact Nat.lt_of_lt_of_le ho2 (numO_mono v1)
  have h60 : o < 60 := Nat.lt_of_lt_of_le hn (Lg_n60 H).1
  exact ⟨hn, _, by omega, lastV_le o _, lastV_obj h1, rfl, fun s hs => vw_rd H hc h60 hs⟩
/-- .. whose kinds are so now, too -/
theorem vw_kind (H : Lg A) {c o : Nat} (hc : c < 8) (ho : o < nv A (3 + c)) : rd A (3 + c) (zn o) 23 = row A o 23 := by
  obtain ⟨hn, k, k1, k2, k3, k4, k5⟩ := vw_row H hc ho
  have v1 := (H.2.2.2.2.2 c hc).1
  exact (k5 23 (by decide)).trans ((Lg_cur H hn).2 k k1 (by omega) k3)
/-- what a controller has of an object is so now -/
theorem utd_rw (H : Lg A) {c o : Nat} (hc : c < 8) (h60 : o < 60) (u : utd A c o = true) {s : Nat} (hs : s < 32) : rd A (3 + c) (zn o) (zn s) = row A o s := by
  unfold utd at u
  have e := of_decide_eq_true u
  have := (Lg_n60 H).2.1
  have v3 := (H.2.2.2.2.2 c hc).2.2 o h60
  rw [vw_rd H hc h60 hs]
  unfold row lg lv
  rw [← e, v3, zn_ix]
  have h1 : lastV (obj A) (ve A (3 + c)) o ≤ ve A (3 + c) := lastV_le o _
  have := (H.2.2.2.2.2 c hc).1
  omega
/-! a write -/
theorem put_14 (o : Nat) (D : Nat → Int32) (b : Nat) : (put A o D).1 14 b = if (ve A 1 + 1) * 32 ≤ b ∧ b < (ve A 1 + 1) * 32 + 32 then D (b - (ve A 1 + 1) * 32) else A.1 14 b := by
  unfold put
  rw [tk_1, if_neg (fun z => absurd z.1 (by decide)), if_neg (fun z => absurd z.1 (by decide)), if_neg (fun z => absurd z.1 (by decide)), log_1]
  by_cases h : (ve A 1 + 1) * 32 ≤ b ∧ b < (ve A 1 + 1) * 32 + 32
  · rw [if_pos ⟨rfl, h⟩, if_pos h]
  · rw [if_neg (fun z => h z.2), if_neg h]
theorem put_lg (o : Nat) (D : Nat → Int32) {k s : Nat} (hk : k ≤ ve A 1) (hs : s < 32) : lg (put A o D) k s = lg A k s := by
  unfold lg
  rw [put_14, if_neg (by omega)]
theorem put_lgN (o : Nat) (D : Nat → Int32) {s : Nat} (hs : s < 32) : lg (put A o D) (ve A 1 + 1) s = D s := by
  unfold lg
  rw [put_14, if_pos (by omega), Nat.add_sub_cancel_left]
theorem put_obj (o : Nat) (D : Nat → Int32) {k : Nat} (hk : k ≤ ve A 1) : obj (put A o D) k = obj A k := congrArg zz_ix (put_lg o D hk (by decide : 22 < 32))
theorem put_objN {o : Nat} {D : Nat → Int32} (h : D 22 = zn o) (ho : o < 60) : obj (put A o D) (ve A 1 + 1) = o := by
  have := put_lgN (A := A) o D (by decide : 22 < 32)
  unfold obj
  rw [show (put A o D).1 14 ((ve A 1 + 1) * 32 + 22) = D 22 from this, h, zn_ix (by omega)]
theorem put_o {o : Nat} {D : Nat → Int32} {a b : Nat} (h1 : a = 1 → b ≠ 2 ∧ b ≠ 3) (h2 : a ≠ 14) (h3 : a ≠ 15) : (put A o D).1 a b = A.1 a b := by
  unfold put
  rw [tk_1, if_neg (fun z => (h1 z.1).2 z.2), if_neg (fun z => (h1 z.1).1 z.2), if_neg (fun z => h3 z.1)]
  exact if_neg (fun z => h2 z.1)
theorem put_ve {o : Nat} {D : Nat → Int32} (he : ve A 1 < 400) : ve (put A o D) 1 = ve A 1 + 1 := by
  have : (put A o D).1 1 3 = zn (ve A 1 + 1) := by
    unfold put
    rw [tk_1, if_pos ⟨rfl, rfl⟩]
  show zz_ix ((put A o D).1 1 3) = _
  rw [this, zn_ix (by omega)]
theorem put_nv {o : Nat} {D : Nat → Int32} (ho : o < 60) (hn : nv A 1 ≤ 60) : nv (put A o D) 1 = Nat.max (nv A 1) (o + 1) := by
  show nv (tkIn (logSet A (ve A 1 + 1) D) 1 o (ve A 1 + 1)) 1 = _
  have hm : Nat.max (nv A 1) (o + 1) ≤ 60 := Nat.max_le.mpr ⟨hn, by omega⟩
  rw [nv_tk1, show nv (logSet A (ve A 1 + 1) D) 1 = nv A 1 from rfl, zn_ix (by omega)]
theorem put_15 {o : Nat} {D : Nat → Int32} (q : Nat) : (put A o D).1 15 q = if q = o then zn (ve A 1 + 1) else A.1 15 q := by
  unfold put
  rw [tk_1, if_neg (fun z => absurd z.1 (by decide)), if_neg (fun z => absurd z.1 (by decide)), show latA 1 = 15 from rfl]
  by_cases h : q = o
  · rw [if_pos ⟨rfl, h⟩, if_pos h]
  · rw [if_neg (fun z => h z.2), if_neg h, log_1]
    exact if_neg (fun z => absurd z.1 (by decide))
/-- what may be written -/
def okD (A : zzMd) (o : Nat) (D : Nat → Int32) : Prop := D 22 = zn o ∧ (o < nv A 1 → D 23 = row A o 23 ∧ (D 24 = row A o 24 ∨ D 24 = -1)) ∧ jrow A D
theorem put_row {o : Nat} {D : Nat → Int32} (h : Lg A) (he : ve A 1 < 400) (ho : o < 60) {q s : Nat} (hq : q < 60) (hs : s < 32) : row (put A o D) q s = if q = o then D s else row A q s := by
  unfold row lv
  rw [put_15]
  by_cases e : q = o
  · rw [if_pos e, if_pos e, zn_ix (by omega)]
    exact put_lgN o D hs
  · rw [if_neg e, if_neg e]
    have h1 : zz_ix (A.1 15 q) ≤ ve A 1 := by
      rw [h.2.2.2.1.2 q hq, zn_ix (by have := lastV_le (f := obj A) q (ve A 1); omega)]
      exact lastV_le q _
    exact put_lg o D h1 hs
theorem jrow_up {B : zzMd} {D : Nat → Int32} (h1 : nv A 1 ≤ nv B 1) (h2 : ∀ w, w < nv A 1 → row B w 23 = row A w 23) (h : jrow A D) : jrow B D := by
  obtain ⟨a, b, c⟩ := h
  refine ⟨a.imp id fun ⟨w, w1, w2, w3⟩ => ⟨w, Nat.lt_of_lt_of_le w1 h1, w2, by rw [h2 w w1]; exact w3⟩, b.imp id fun ⟨w, w1, w2, w3⟩ => ⟨w, Nat.lt_of_lt_of_le w1 h1, w2, by rw [h2 w w1]; exact w3⟩, c⟩
theorem jrow_c {D E : Nat → Int32} (h : jrow A D) (e : eq32 E D) : jrow A E := by
  have g : ∀ s, s < 32 → E s = D s := e
  obtain ⟨a, b, c, d, f⟩ := h
  refine ⟨?_, ?_, ?_, ?_, fun i hi => ?_⟩
  · rw [g 24 (by decide), g 23 (by decide)]; exact a
  · rw [g 28 (by decide)]; exact b
  · rw [g 23 (by decide), g 29 (by decide), g 28 (by decide), g 25 (by decide)]; exact c
  · rw [g 23 (by decide), g 2 (by decide), g 3 (by decide)]; exact d
  · rw [g (11 + i) (by omega)]; exact f i hi
theorem JJ_put (H : JJ A) {o : Nat} {D : Nat → Int32} (he : ve A 1 < 400) (ho : o ≤ nv A 1) (h60 : o < 60) (ok : okD A o D) : JJ (put A o D) := by
  obtain ⟨L, N, J, S⟩ := H
  obtain ⟨d22, dk, jD⟩ := ok
  have hn := (Lg_n60 L).1
  have e1 : ve (put A o D) 1 = ve A 1 + 1 := put_ve he
  have e2 : nv (put A o D) 1 = Nat.max (nv A 1) (o + 1) := put_nv h60 hn
  have oN : obj (put A o D) (ve A 1 + 1) = o := put_objN d22 h60
  have nO : ∀ e, e ≤ ve A 1 → numO (obj (put A o D)) e = numO (obj A) e := fun e h => numO_c fun k _ h2 => put_obj o D (by omega)
  have lO : ∀ e q, e ≤ ve A 1 → lastV (obj (put A o D)) e q = lastV (obj A) e q := fun e q h => lastV_c q fun k _ h2 => put_obj o D (by omega)
  have kd : ∀ w, w < nv A 1 → row (put A o D) w 23 = row A w 23 := fun w hw => by
    rw [put_row L he h60 (by omega) (by decide)]
    by_cases q : w = o
    · rw [if_pos q, q]; rw [q] at hw; exact (dk hw).1
    · rw [if_neg q]
  have up : nv A 1 ≤ nv (put A o D) 1 := by rw [e2]; exact Nat.le_max_left _ _
  refine ⟨⟨zIC_put h60 he L.1, fun k k1 k2 => ?_, fun s hs => ?_, ⟨?_, fun q hq => ?_⟩, fun j k j1 j2 k1 k2 e => ?_, fun c hc => ?_⟩, ?_, fun k k1 k2 => ?_, fun j k j1 jk k2 e => ?_⟩
  · rw [e1] at k2
    by_cases h : k ≤ ve A 1
    · obtain ⟨a, b⟩ := L.2.1 k k1 h
      rw [put_obj o D h, put_lg o D h (by decide), nO (k - 1) (by omega)]
      exact ⟨a, b⟩
    · have hk : k = ve A 1 + 1 := by omega
      subst hk
      rw [oN, put_lgN o D (by decide), Nat.add_sub_cancel, nO _ (Nat.le_refl _), ← L.2.2.2.1.1]
      exact ⟨ho, d22⟩
  · rw [put_lg o D (Nat.zero_le _) hs]; exact L.2.2.1 s hs
  · rw [e1, e2, numO_s, oN, nO _ (Nat.le_refl _), L.2.2.2.1.1]
  · rw [put_15, e1, lastV_s, oN, lO _ _ (Nat.le_refl _)]
    by_cases h : q = o
    · rw [if_pos h, if_pos h.symm]
    · rw [if_neg h, if_neg (fun z => h z.symm)]; exact L.2.2.2.1.2 q hq
  · have hk : ∀ k, 1 ≤ k → k ≤ ve (put A o D) 1 → lg (put A o D) k 23 = if obj (put A o D) k < nv A 1 then row A (obj (put A o D) k) 23 else D 23 := fun k k1 k2 => by
      rw [e1] at k2
      by_cases h : k ≤ ve A 1
      · rw [put_lg o D h (by decide), put_obj o D h]
        have hl : obj A k < nv A 1 := by
          rw [L.2.2.2.1.1]
          refine Nat.lt_of_lt_of_le ?_ (numO_mono h)
          obtain ⟨k', rfl⟩ : ∃ k', k = k' + 1 := ⟨k - 1, by omega⟩
          rw [numO_s]
          exact Nat.lt_of_lt_of_le (Nat.lt_succ_self _) (Nat.le_max_right _ _)
        rw [if_pos hl]
        exact (Lg_cur L hl).2 k k1 h rfl
      · have hk : k = ve A 1 + 1 := by omega
        subst hk
        rw [oN, put_lgN o D (by decide)]
        by_cases h : o < nv A 1
        · rw [if_pos h]; exact (dk h).1
        · rw [if_neg h]
    rw [hk j j1 j2, hk k k1 k2, e]
  · obtain ⟨v1, v2, v3⟩ := L.2.2.2.2.2 c hc
    have f1 : ve (put A o D) (3 + c) = ve A (3 + c) := by unfold ve; rw [put_o (by omega) (by omega) (by omega)]
    have f2 : nv (put A o D) (3 + c) = nv A (3 + c) := by unfold nv; rw [put_o (by omega) (by omega) (by omega)]
    refine ⟨by rw [f1, e1]; omega, by rw [f1, f2, nO _ v1]; exact v2, fun q hq => ?_⟩
    rw [f1, lO _ _ v1, put_o (by omega) (by omega) (by omega)]
    exact v3 q hq
  · have n1 : nr (put A o D) = nr A := by unfold nr; rw [put_o (by decide) (by decide) (by decide)]
    have n2 : nc (put A o D) = nc A := by unfold nc; rw [put_o (by decide) (by decide) (by decide)]
    rw [n1, n2]; exact N
  · rw [e1] at k2
    by_cases h : k ≤ ve A 1
    · exact jrow_c (jrow_up up kd (J k k1 h)) fun s hs => put_lg o D h hs
    · have hk : k = ve A 1 + 1 := by omega
      subst hk
      exact jrow_c (jrow_up up kd jD) fun s hs => put_lgN o D hs
  · rw [e1] at k2
    by_cases h : k ≤ ve A 1
    · rw [put_obj o D h, put_obj o D (by omega)] at e
      rw [put_lg o D h (by decide), put_lg o D (show j ≤ ve A 1 by omega) (by decide)]
      exact S j k j1 jk h e
    · have hk : k = ve A 1 + 1 := by omega
      subst hk
      have hj : j ≤ ve A 1 := by omega
      rw [oN, put_obj o D hj] at e
      rw [put_lgN o D (by decide), put_lg o D hj (by decide)]
      have hl : o < nv A 1 := by
        rw [← e, L.2.2.2.1.1]
        refine Nat.lt_of_lt_of_le ?_ (numO_mono hj)
        obtain ⟨j', rfl⟩ : ∃ j', j = j' + 1 := ⟨j - 1, by omega⟩
        rw [numO_s]
        exact Nat.lt_of_lt_of_le (Nat.lt_succ_self _) (Nat.le_max_right _ _)
      obtain ⟨m, m1, m2, m3, m4, -, m5⟩ := Lg_row L hl
      have r24 := (dk hl).2
      rw [m4 24] at r24
      by_cases q : j = m
      · rw [q]; exact r24
      · have hjm : j < m := by
          have : j ≤ lastV (obj A) (ve A 1) o := lastV_ge hj j1 e
          omega
        rcases r24 with a | a
        · rw [a]; exact S j m j1 hjm m2 (by rw [e, m3])
        · exact Or.inr a
end
end

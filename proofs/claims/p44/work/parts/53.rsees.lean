section
/-! looking, in both -/
/-- a controller's view changes alone -/
theorem Rl0_v {A A' R R' : zzMd} {c : Nat} (hc : c < 8) (H : Rl0 A R) (W : zIC A')
    (hA : ∀ a b, a ≠ 3 + c ∨ b ≠ 2 ∧ b ≠ 3 → a ≠ 21 + 6 * c → A'.1 a b = A.1 a b)
    (hR : ∀ a b, a ≠ 26 ∨ b ≠ c → a ≠ 27 ∧ a ≠ 30 ∨ b < 60 * c ∨ 60 * c + 60 ≤ b → R'.1 a b = R.1 a b) (h2 : ∀ a b, a ≠ 28 ∧ a ≠ 29 ∨ b < 60 * c ∨ 60 * c + 60 ≤ b → R'.2 a b = R.2 a b) (V : RV A' R' c) : Rl0 A' R' := by
  obtain ⟨⟨⟨k1, k2, k3⟩, W0⟩, ⟨⟨L1, L2⟩, L3, L4, ⟨L5, L6⟩, L7⟩, VQ, S, ⟨⟨s1, s2, s3, s4⟩, s5, s6⟩, t1, ⟨k, t2, t3, t4⟩, t5, t6, t7, t8, t9⟩ := H
  have gA : ∀ a b, a ≤ 2 ∨ 11 ≤ a ∧ a ≤ 20 ∨ 69 ≤ a → A'.1 a b = A.1 a b := fun a b h => hA a b (Or.inl (by omega)) (by omega)
  have gR : ∀ a b, a ≠ 26 → a ≠ 27 → a ≠ 30 → R'.1 a b = R.1 a b := fun a b h1 h2 h3 => hR a b (Or.inl h1) (Or.inl ⟨h2, h3⟩)
  have gL : ∀ a b, a ≠ 28 → a ≠ 29 → R'.2 a b = R.2 a b := fun a b h1 h3 => h2 a b (Or.inl ⟨h1, h3⟩)
  have ev : ve A' 1 = ve A 1 := congrArg zz_ix (gA 1 3 (Or.inl (by decide)))
  have en : nv A' 1 = nv A 1 := congrArg zz_ix (gA 1 2 (Or.inl (by decide)))
  have eno : now A' = now A := congrArg zz_ix (gA 1 7 (Or.inl (by decide)))
  have eob : obj A' = obj A := funext fun k => congrArg zz_ix (gA 14 _ (Or.inr (Or.inl ⟨by decide, by decide⟩)))
  have elg : lg A' = lg A := funext fun k => funext fun s => gA 14 _ (Or.inr (Or.inl ⟨by decide, by decide⟩))
  refine ⟨⟨⟨fun k hk => ?_, fun f hf => ?_, fun t ht => ?_⟩, W⟩, ⟨⟨?_, ?_⟩, fun k a b => ?_, ?_, ⟨?_, fun b hb => ?_⟩, fun b hb => ?_⟩, fun d hd => ?_, fun b hb => ?_, ⟨⟨?_, ?_, ?_, ?_⟩, fun i hi => ?_, fun i hi => ?_⟩, ?_, ⟨k, ?_, ?_, ?_⟩, fun b hb => ?_, fun r hr => ?_, fun b hb => ?_, ?_, fun d hd => ?_⟩
  · rw [gR 1 k (by decide) (by decide) (by decide), gR 2 k (by decide) (by decide) (by decide)]; exact k1 k hk
  · rw [gR 3 f (by decide) (by decide) (by decide), gR 4 f (by decide) (by decide) (by decide)]; exact k2 f hf
  · rw [gR 5 t (by decide) (by decide) (by decide)]; exact k3 t ht
  · rw [gR 0 14 (by decide) (by decide) (by decide), ev]; exact L1
  · rw [gR 0 5 (by decide) (by decide) (by decide), en]; exact L2
  · rw [ev] at b
    have z := L3 k a b
    unfold RRow at z ⊢
    rw [eob, elg, gR 6 _ (by decide) (by decide) (by decide), gR 14 _ (by decide) (by decide) (by decide), gL 15 _ (by decide) (by decide), gL 16 _ (by decide) (by decide)]
    exact z
  · rw [elg]; exact L4
  · rw [en, ev, eob]; exact L5
  · rw [ev, eob, gA 15 b (Or.inr (Or.inl ⟨by decide, by decide⟩))]; exact L6 b hb
  · rw [en] at hb
    rw [ev, eob, gL 7 _ (by decide) (by decide), gL 8 _ (by decide) (by decide), gL 15 _ (by decide) (by decide), gL 16 _ (by decide) (by decide), gR 9 _ (by decide) (by decide) (by decide)]; exact L7 b hb
  · obtain ⟨z1, q1, q2, q3, q4⟩ := VQ d hd
    have xq : ∀ b, b ≠ 2 → b ≠ 3 → A'.1 (3 + d) b = A.1 (3 + d) b := fun b h1 h2 => hA _ b (Or.inr ⟨h1, h2⟩) (by omega)
    have xb : ∀ j b, 22 + 6 * d ≤ j → j ≤ 26 + 6 * d → A'.1 j b = A.1 j b := fun j b h1 h2 => hA _ b (Or.inl (by omega)) (by omega)
    have eqn : qn A' d = qn A d := congrArg zz_ix (xq 11 (by decide) (by decide))
    have eqk : qk A' d = qk A d := funext fun p => congrArg zz_ix (xb _ p (by omega) (by omega))
    have eiq : inQ A' d = inQ A d := funext fun b => by unfold inQ; rw [eqn, eqk]
    refine ⟨?_, ?_, fun p hp => ?_, ?_, fun b hb => ?_⟩
    · by_cases hdc : d = c
      · rw [hdc]; exact V
      · have x3 : ∀ b, A'.1 (3 + d) b = A.1 (3 + d) b := fun b => hA _ b (Or.inl (by omega)) (by omega)
        have xl : ∀ b, A'.1 (21 + 6 * d) b = A.1 (21 + 6 * d) b := fun b => hA _ b (Or.inl (by omega)) (by omega)
        have ev3 : ve A' (3 + d) = ve A (3 + d) := congrArg zz_ix (x3 3)
        have en3 : nv A' (3 + d) = nv A (3 + d) := congrArg zz_ix (x3 2)
        obtain ⟨⟨v1, v2, v3⟩, v4⟩ := z1
        refine ⟨⟨?_, ?_, ?_⟩, fun b hb => ?_⟩
        · rw [ev3, ev]; exact v1
        · rw [ev3, hR 26 d (Or.inr hdc) (Or.inl ⟨by decide, by decide⟩)]; exact v2
        · rw [ev3, en3, eob]; exact v3
        · have z := v4 b hb
          rw [ev3, en3, eob, xl, hR 27 _ (Or.inl (by decide)) (Or.inr (by omega)), hR 30 _ (Or.inl (by decide)) (Or.inr (by omega)), h2 28 _ (Or.inr (by omega)), h2 29 _ (Or.inr (by omega)), gL 15 _ (by decide) (by decide), gL 16 _ (by decide) (by decide)]
          exact z
    · rw [gR 31 d (by decide) (by decide) (by decide), eqn]; exact q1
    · rw [eqn] at hp
      rw [gR 32 _ (by decide) (by decide) (by decide), eqk, en]; exact q2 p hp
    · rw [eqn, eqk]; exact q3
    · have z := q4 b hb
      unfold RQo at z ⊢
      rw [xb (23 + 6 * d) b (by omega) (by omega), xb (24 + 6 * d) b (by omega) (by omega), xb (25 + 6 * d) b (by omega) (by omega), xb (26 + 6 * d) b (by omega) (by omega), gR 33 _ (by decide) (by decide) (by decide), gR 34 _ (by decide) (by decide) (by decide), gR 35 _ (by decide) (by decide) (by decide), eiq, eno, ev]
      exact z
  · rw [gR 13 b (by decide) (by decide) (by decide), gA 72 b (Or.inr (Or.inr (by decide))), eno]; exact S b hb
  · rw [gR 0 19 (by decide) (by decide) (by decide), show nr A' = nr A from congrArg zz_ix (gA 2 3 (Or.inl (by decide)))]; exact s1
  · rw [gR 0 26 (by decide) (by decide) (by decide), show nc A' = nc A from congrArg zz_ix (gA 2 4 (Or.inl (by decide)))]; exact s2
  · rw [gR 0 30 (by decide) (by decide) (by decide), gA 2 5 (Or.inl (by decide))]; exact s3
  · rw [gA 2 5 (Or.inl (by decide))]; exact s4
  · rw [show nr A' = nr A from congrArg zz_ix (gA 2 3 (Or.inl (by decide)))] at hi
    rw [show rP A' = rP A from funext fun i => funext fun k => gA 18 _ (Or.inr (Or.inl ⟨by decide, by decide⟩)), gR 17 _ (by decide) (by decide) (by decide), gR 18 _ (by decide) (by decide) (by decide), gR 19 _ (by decide) (by decide) (by decide), gR 20 _ (by decide) (by decide) (by decide), gR 21 _ (by decide) (by decide) (by decide), gR 22 _ (by decide) (by decide) (by decide)]
    exact s5 i hi
  · rw [show nc A' = nc A from congrArg zz_ix (gA 2 4 (Or.inl (by decide)))] at hi
    rw [show cP A' = cP A from funext fun i => funext fun k => gA 19 _ (Or.inr (Or.inl ⟨by decide, by decide⟩)), gR 23 _ (by decide) (by decide) (by decide), gR 24 _ (by decide) (by decide) (by decide), gR 25 _ (by decide) (by decide) (by decide)]
    exact s6 i hi
  · rw [eno, gA 1 7 (Or.inl (by decide)), gR 0 48 (by decide) (by decide) (by decide)]; exact t1
  · rw [ev]; exact t2
  · rw [gA 1 8 (Or.inl (by decide))]; exact t3
  · rw [gR 0 15 (by decide) (by decide) (by decide)]; exact t4
  · rw [en] at hb
    rw [eno, gA 16 b (Or.inr (Or.inl ⟨by decide, by decide⟩)), gR 11 _ (by decide) (by decide) (by decide)]; exact t5 b hb
  · rw [ev, gA 12 r (Or.inr (Or.inl ⟨by decide, by decide⟩)), gR 38 _ (by decide) (by decide) (by decide)]; exact t6 r hr
  · rw [en, gA 13 b (Or.inr (Or.inl ⟨by decide, by decide⟩)), gR 12 _ (by decide) (by decide) (by decide), gR 6 _ (by decide) (by decide) (by decide)]; exact t7 b hb
  · rw [gR 0 47 (by decide) (by decide) (by decide), gA 0 4 (Or.inl (by decide))]; exact t8
  · rw [show A'.1 (3 + d) 5 = A.1 (3 + d) 5 from hA _ 5 (Or.inr ⟨by decide, by decide⟩) (by omega)]; exact t9 d hd
section
variable {A R : zzMd} {c : Nat}
/-- what looking leaves -/
def sameV (R R' : zzMd) : Prop := ∀ a b, a ≠ 26 → a ≠ 27 → a ≠ 30 → a ≠ 31 → a ≠ 32 → a ≠ 34 → R'.1 a b = R.1 a b
theorem sameV_refl (R : zzMd) : sameV R R := fun _ _ _ _ _ _ _ _ => rfl
theorem sameV_trans {R S T : zzMd} (h : sameV R S) (h2 : sameV S T) : sameV R T := fun a b x1 x2 x3 x4 x5 x6 => (h2 a b x1 x2 x3 x4 x5 x6).trans (h a b x1 x2 x3 x4 x5 x6)
theorem sameV_R {R S : zzMd} (h : sameR R S) : sameV R S := fun a b _ _ _ x4 x5 x6 => h.1 a b x4 x5 x6
def rSee (R : zzMd) (c o k : Nat) : zzMd := zz_sI (zz_sI (zz_sL (zz_sL (zz_sI R 27 (60 * c + o) 1) 28 (60 * c + o) (R.2 15 k)) 29 (60 * c + o) (R.2 16 k)) 30 (60 * c + o) (zn k)) 26 c (zn k)
theorem rSee_1 (R : zzMd) (c o k a b : Nat) : (rSee R c o k).1 a b = if a = 26 ∧ b = c then zn k else if a = 30 ∧ b = 60 * c + o then zn k else if a = 27 ∧ b = 60 * c + o then 1 else R.1 a b := rfl
theorem rSee_2 (R : zzMd) (c o k a b : Nat) : (rSee R c o k).2 a b = if a = 29 ∧ b = 60 * c + o then R.2 16 k else if a = 28 ∧ b = 60 * c + o then R.2 15 k else R.2 a b := rfl
theorem see_next (H : rAt A R c) (h : ve A (3 + c) < ve A 1) : RRow A R (ve A (3 + c) + 1) ∧ obj A (ve A (3 + c) + 1) ≤ nv A (3 + c) ∧ obj A (ve A (3 + c) + 1) < nv A 1 := by
  have L := H.1.2.1
  have V := (H.1.2.2.1 c H.2.2).1
  have r := L.2.1 (ve A (3 + c) + 1) (by omega) (by omega)
  refine ⟨r, ?_, ?_⟩
  · rw [V.1.2.2]; exact r.1
  · rw [L.2.2.2.1.1]
    have : obj A (ve A (3 + c) + 1) < numO (obj A) (ve A (3 + c) + 1) := by
      rw [numO_s]; exact Nat.lt_of_lt_of_le (Nat.lt_succ_self _) (Nat.le_max_right _ _)
    exact Nat.lt_of_lt_of_le this (numO_mono (by omega))
theorem Rl0_see (H : rAt A R c) (h : ve A (3 + c) < ve A 1) : rAt (tkIn A (3 + c) (obj A (ve A (3 + c) + 1)) (ve A (3 + c) + 1)) (rSee R c (obj A (ve A (3 + c) + 1)) (ve A (3 + c) + 1)) c ∧
    nv (tkIn A (3 + c) (obj A (ve A (3 + c) + 1)) (ve A (3 + c) + 1)) (3 + c) = Nat.max (nv A (3 + c)) (obj A (ve A (3 + c) + 1) + 1) ∧
    rd (tkIn A (3 + c) (obj A (ve A (3 + c) + 1)) (ve A (3 + c) + 1)) (3 + c) (zn (obj A (ve A (3 + c) + 1))) 24 = lg A (ve A (3 + c) + 1) 24 := by
  obtain ⟨r, o1, o2⟩ := see_next H h
  have hc := H.2.2
  have h60 := lt_n60 H.1 o2
  have he := rl_e4 H.1
  have L := H.1.2.1
  obtain ⟨⟨v1, v2, v3⟩, v4⟩ := (H.1.2.2.1 c hc).1
  have hn6 := rv_n60 H
  generalize ho : obj A (ve A (3 + c) + 1) = o at *
  have hm : Nat.max (nv A (3 + c)) (o + 1) ≤ 60 := Nat.max_le.mpr ⟨hn6, by omega⟩
  have t1 : ∀ a b, (tkIn A (3 + c) o (ve A (3 + c) + 1)).1 a b = if a = 3 + c ∧ b = 3 then zn (ve A (3 + c) + 1) else if a = 3 + c ∧ b = 2 then zn (Nat.max (nv A (3 + c)) (o + 1)) else if a = 21 + 6 * c ∧ b = o then zn (ve A (3 + c) + 1) else A.1 a b := fun a b => by rw [tk_1, zcL hc]
  have ev : ve (tkIn A (3 + c) o (ve A (3 + c) + 1)) (3 + c) = ve A (3 + c) + 1 := (congrArg zz_ix ((t1 _ _).trans (if_pos ⟨rfl, rfl⟩))).trans (zn_ix (by omega))
  have en : nv (tkIn A (3 + c) o (ve A (3 + c) + 1)) (3 + c) = Nat.max (nv A (3 + c)) (o + 1) := (congrArg zz_ix ((t1 _ _).trans ((if_neg (by omega)).trans (if_pos ⟨rfl, rfl⟩)))).trans (zn_ix (by omega))
  have gA : ∀ a b, a ≠ 3 + c ∨ b ≠ 2 ∧ b ≠ 3 → a ≠ 21 + 6 * c → (tkIn A (3 + c) o (ve A (3 + c) + 1)).1 a b = A.1 a b := fun a b h1 h2 => by rw [t1, if_neg (by omega), if_neg (by omega), if_neg (by omega)]
  have eob : obj (tkIn A (3 + c) o (ve A (3 + c) + 1)) = obj A := funext fun k => congrArg zz_ix (gA 14 _ (Or.inl (by omega)) (by omega))
  have ev1 : ve (tkIn A (3 + c) o (ve A (3 + c) + 1)) 1 = ve A 1 := congrArg zz_ix (gA 1 3 (Or.inl (by omega)) (by omega))
  have elv : ∀ b, lastV (obj A) (ve A (3 + c) + 1) b = if b = o then ve A (3 + c) + 1 else lastV (obj A) (ve A (3 + c)) b := fun b => by
    rw [lastV_s, ho]
    by_cases q : o = b
    · rw [if_pos q, if_pos q.symm]
    · rw [if_neg q, if_neg (fun z => q z.symm)]
  have hV : RV (tkIn A (3 + c) o (ve A (3 + c) + 1)) (rSee R c o (ve A (3 + c) + 1)) c := by
    refine ⟨⟨?_, ?_, ?_⟩, fun b hb => ?_⟩
    · rw [ev, ev1]; omega
    · rw [rSee_1, if_pos ⟨rfl, rfl⟩, ev]
    · rw [en, ev, eob, numO_s, ho, ← v3]
    · have ft : (tkIn A (3 + c) o (ve A (3 + c) + 1)).1 (21 + 6 * c) b = if b = o then zn (ve A (3 + c) + 1) else A.1 (21 + 6 * c) b := by
        rw [t1, if_neg (by omega), if_neg (by omega)]
        by_cases q : b = o
        · rw [if_pos ⟨rfl, q⟩, if_pos q]
        · rw [if_neg (fun z => q z.2), if_neg q]
      have f27 : (rSee R c o (ve A (3 + c) + 1)).1 27 (60 * c + b) = if b = o then 1 else R.1 27 (60 * c + b) := by
        rw [rSee_1, if_neg (by omega), if_neg (by omega)]
        by_cases q : b = o
        · rw [if_pos ⟨rfl, by omega⟩, if_pos q]
        · rw [if_neg (by omega), if_neg q]
      have f30 : (rSee R c o (ve A (3 + c) + 1)).1 30 (60 * c + b) = if b = o then zn (ve A (3 + c) + 1) else R.1 30 (60 * c + b) := by
        rw [rSee_1, if_neg (by omega)]
        by_cases q : b = o
        · rw [if_pos ⟨rfl, by omega⟩, if_pos q]
        · rw [if_neg (by omega), if_neg (by omega), if_neg q]
      have f28 : (rSee R c o (ve A (3 + c) + 1)).2 28 (60 * c + b) = if b = o then R.2 15 (ve A (3 + c) + 1) else R.2 28 (60 * c + b) := by
        rw [rSee_2, if_neg (by omega)]
        by_cases q : b = o
        · rw [if_pos ⟨rfl, by omega⟩, if_pos q]
        · rw [if_neg (by omega), if_neg q]
      have f29 : (rSee R c o (ve A (3 + c) + 1)).2 29 (60 * c + b) = if b = o then R.2 16 (ve A (3 + c) + 1) else R.2 29 (60 * c + b) := by
        rw [rSee_2]
        by_cases q : b = o
        · rw [if_pos ⟨rfl, by omega⟩, if_pos q]
        · rw [if_neg (by omega), if_neg (by omega), if_neg q]
      have f15 : ∀ x, (rSee R c o (ve A (3 + c) + 1)).2 15 x = R.2 15 x := fun x => by rw [rSee_2, if_neg (by omega), if_neg (by omega)]
      have f16 : ∀ x, (rSee R c o (ve A (3 + c) + 1)).2 16 x = R.2 16 x := fun x => by rw [rSee_2, if_neg (by omega), if_neg (by omega)]
      rw [ev, eob, elv, en, ft, f27, f30, f28, f29, f15, f16]
      obtain ⟨w1, w2, w3, w4⟩ := v4 b hb
      by_cases q : b = o
      · have hlt : b < Nat.max (nv A (3 + c)) (o + 1) := Nat.lt_of_lt_of_le (by omega) (Nat.le_max_right _ _)
        simp only [if_pos q]
        rw [decide_eq_true hlt]
        refine ⟨?_, ?_, ?_, fun _ => ⟨?_, ?_⟩⟩ <;> first | trivial | rfl
      · have hiff : (b < Nat.max (nv A (3 + c)) (o + 1)) ↔ b < nv A (3 + c) := by
          constructor
          · intro z
            by_cases y : o < nv A (3 + c)
            · rw [show Nat.max (nv A (3 + c)) (o + 1) = nv A (3 + c) from Nat.max_eq_left y] at z; exact z
            · have : Nat.max (nv A (3 + c)) (o + 1) ≤ nv A (3 + c) + 1 := Nat.max_le.mpr ⟨by omega, by omega⟩
              omega
          · exact fun z => Nat.lt_of_lt_of_le z (Nat.le_max_left _ _)
        simp only [if_neg q]
        rw [decide_eq_decide.mpr hiff]
        exact ⟨w1, w2, w3, fun z => w4 (hiff.mp z)⟩
  have hR : Rl0 (tkIn A (3 + c) o (ve A (3 + c) + 1)) (rSee R c o (ve A (3 + c) + 1)) := Rl0_v hc H.1 (zIC_tk hc h60 (by omega) H.1.1.2) gA
    (fun a b h1 h2 => by rw [rSee_1, if_neg (by omega), if_neg (by omega), if_neg (by omega)]) (fun a b h1 => by rw [rSee_2, if_neg (by omega), if_neg (by omega)]) hV
  refine ⟨⟨hR, by rw [rSee_1, if_neg (by omega), if_neg (by omega), if_neg (by omega)]; exact H.2.1, hc⟩, en, ?_⟩
  have := rd_lg (s := 24) hc hV h60 (by decide)
  rw [ev, eob, elv, if_pos rfl] at this
  exact this.trans (gA 14 _ (Or.inl (by omega)) (by omega))
theorem r_seesOne (H : rAt A R c) (h : ve A (3 + c) < ve A 1) : ∃ R', fX12_seesOne [.ref 0] R = some (.inl (some (.int ((aNext A c (obj A (ve A (3 + c) + 1))).1 (3 + c) 11 - A.1 (3 + c) 11))), R') ∧ rAt (aNext A c (obj A (ve A (3 + c) + 1))) R' c ∧ sameV R R' := by
  obtain ⟨r, o1, o2⟩ := see_next H h
  obtain ⟨HB, enB, e24⟩ := Rl0_see H h
  have hc := H.2.2
  have h60 := lt_n60 H.1 o2
  have he := rl_e4 H.1
  obtain ⟨a1, a2⟩ := at_c H
  obtain ⟨b1, b2, b3⟩ := at_o H h60
  have bc : zz_inb (zn c) 8 = true := zn_inT hc (by decide)
  have xc : zz_ix (zn c) = c := zn_ix (by omega)
  have V := (H.1.2.2.1 c hc).1
  have v2 := V.1.2.1
  have bk : zz_inb (zn (ve A (3 + c) + 1)) 401 = true := zn_inT (by omega) (by decide)
  have xk : zz_ix (zn (ve A (3 + c) + 1)) = ve A (3 + c) + 1 := zn_ix (by omega)
  have r14 := r.2.2.2.2.1
  have rE := r.2.2.2.2.2.1
  have gr := r.2.2.1
  have r22 := r.2.1
  have hseen := (V.2 _ h60).2.1
  have q11 : (tkIn A (3 + c) (obj A (ve A (3 + c) + 1)) (ve A (3 + c) + 1)).1 (3 + c) 11 = A.1 (3 + c) 11 := by rw [tk_1, if_neg (by omega), if_neg (by omega), if_neg (by rw [zcL hc]; omega)]
  unfold aNext
  rw [e24, ← q11]
  have hk : ∀ w, wOk (tkIn A (3 + c) (obj A (ve A (3 + c) + 1)) (ve A (3 + c) + 1)) c w → comeTo (tkIn A (3 + c) (obj A (ve A (3 + c) + 1)) (ve A (3 + c) + 1)) (aQO (aOwn (tkIn A (3 + c) (obj A (ve A (3 + c) + 1)) (ve A (3 + c) + 1)) c (zn (obj A (ve A (3 + c) + 1)))) c (zn (obj A (ve A (3 + c) + 1))) w) c (rSee R c (obj A (ve A (3 + c) + 1)) (ve A (3 + c) + 1)) (fX12_keys [.ref 0, .int (zn (obj A (ve A (3 + c) + 1))), .int w] (rSee R c (obj A (ve A (3 + c) + 1)) (ve A (3 + c) + 1))) :=
    fun w hw => r_keys HB (by rw [enB]; exact Nat.lt_of_lt_of_le (Nat.lt_succ_self _) (Nat.le_max_right _ _)) hw
  have hwB : ∀ D : Nat → Int32, goodD D → D 22 = zn (obj A (ve A (3 + c) + 1)) → wOk (tkIn A (3 + c) (obj A (ve A (3 + c) + 1)) (ve A (3 + c) + 1)) c (D 24) := fun D g g22 => by
    rcases g.2.2.1 with e | ⟨u, e, hu⟩
    · exact Or.inl e
    · rw [g22, zn_ix (by omega)] at hu
      exact Or.inr ⟨u, e, by rw [enB]; exact Nat.lt_of_lt_of_le (Nat.lt_succ_of_lt hu) (Nat.le_max_right _ _)⟩
  have w24 := hwB _ gr r22
  have ow : fX12_ownerIn [.ref 0, .long (R.2 15 (ve A (3 + c) + 1))] R = some (.inl (some (.int (lg A (ve A (3 + c) + 1) 24))), R) := by
    have h1 := r_ownerIn H.1.1.1 (R.2 15 (ve A (3 + c) + 1))
    have h3 : gt (R.2 15 (ve A (3 + c) + 1)) 11 = lg A (ve A (3 + c) + 1) 24 + 1 := rE.2 11 (by decide)
    rw [h3, Int32.add_sub_cancel] at h1
    exact h1
  have wold : wOk (tkIn A (3 + c) (obj A (ve A (3 + c) + 1)) (ve A (3 + c) + 1)) c (rd A (3 + c) (zn (obj A (ve A (3 + c) + 1))) 24) := by
    by_cases q : obj A (ve A (3 + c) + 1) < nv A (3 + c)
    · obtain ⟨-, -, g, g22, -⟩ := rv_row H q
      exact hwB _ g g22
    · have := rv_un H (s := 24) h60 (by decide) q
      exact Or.inl this
  generalize tkIn A (3 + c) (obj A (ve A (3 + c) + 1)) (ve A (3 + c) + 1) = B at *
  have sv : sameV R (rSee R c (obj A (ve A (3 + c) + 1)) (ve A (3 + c) + 1)) := fun a b x1 x2 x3 _ _ _ => by rw [rSee_1, if_neg (by omega), if_neg (by omega), if_neg (by omega)]
  have owold : obj A (ve A (3 + c) + 1) < nv A (3 + c) → fX12_ownerIn [.ref 0, .long (R.2 28 (60 * c + obj A (ve A (3 + c) + 1)))] R = some (.inl (some (.int (rd A (3 + c) (zn (obj A (ve A (3 + c) + 1))) 24))), R) := fun q => r_ownerV H q
  have unold : ¬ obj A (ve A (3 + c) + 1) < nv A (3 + c) → rd A (3 + c) (zn (obj A (ve A (3 + c) + 1))) 24 = -1 := fun q => rv_un H (s := 24) h60 (by decide) q
  -- the run up to the call
  have run : fX12_seesOne [.ref 0] R = zz_backN (zz_ev tX12_seesOne) 128 [some (.ref 0), some (.int (zn (ve A (3 + c) + 1))), some (.int (zn (obj A (ve A (3 + c) + 1)))), some (.int (zn (60 * c + obj A (ve A (3 + c) + 1)))), some (.int (if lg A (ve A (3 + c) + 1) 24 = -1 then rd A (3 + c) (zn (obj A (ve A (3 + c) + 1))) 24 else lg A (ve A (3 + c) + 1) 24))] []
      (fX12_keys [.ref 0, .int (zn (obj A (ve A (3 + c) + 1))), .int (if lg A (ve A (3 + c) + 1) 24 = -1 then rd A (3 + c) (zn (obj A (ve A (3 + c) + 1))) 24 else lg A (ve A (3 + c) + 1) 24)] (rSee R c (obj A (ve A (3 + c) + 1)) (ve A (3 + c) + 1))) := by
    have z1 : zz_b01 (1 : Int32) = true := rfl
    rw [s_X12_seesOne]
    unfold rSee
    generalize obj A (ve A (3 + c) + 1) = o at *
    generalize hkk : ve A (3 + c) + 1 = k at *
    have m42 : ∀ v, (zz_sI R 27 (60 * c + o) v).1 0 42 = zn c := fun v => (sI_a (by decide)).trans a2
    have m42b : ∀ (M : zzMd) (v : Int32), M.1 0 42 = zn c → (zz_sI M 30 (60 * c + o) v).1 0 42 = zn c := fun M v hM => (sI_a (by decide)).trans hM
    have e60 : (60 : Int32) * zn c = zn (60 * c) := zn_mul 60 c
    by_cases d1 : lg A k 24 = -1
    · rw [if_pos d1]
      by_cases d2 : o < nv A (3 + c)
      · rw [decide_eq_true d2] at hseen
        have d3 := owold d2
        (simp only [e_X12_seesOne, zo_iload, zo_lload, zo_aload, zo_istore, zo_lstore, zo_astore, zo_iinc, zo_pushI, zo_pushL, zo_null, zo_ii, zo_iid, zo_ll, zo_li, zo_lcmp, zo_i2l, zo_l2i, zo_dup, zo_dup2, zo_pop, zo_goto, zo_if, zo_icmp, zo_ifnull, zo_gets, zo_mm, zo_throw, zo_ret, zo_aret, zo_lret, q_iret_f, q_iret_1, q_iret_0, q_iret_b, q_c8_0, q_c8_1, q_c8_2, q_c8_3, q_c8_4, q_set_0, q_set_1i, q_set_1r, q_set_1n, q_set_1N, q_set_s, q_set_1j, q_bk_v, q_bk_n, q_if, zb_ite, cond_true, cond_false, List.getElem?_cons_zero, List.getElem?_cons_succ, Nat.reduceAdd, q_set_1l, q_set2_0, q_set2_1i, q_set2_1r, q_set2_1n, q_set2_s, v2, a2, e60, hkk, bc, xc, zn_1, bk, xk, q_aR, r14, b1, b2, b3, ow, d1, hseen, d3, z1, sI_1, sL_1, sI_2, sL_2, Nat.reduceEqDiff, if_true, if_false, zb_eq0, zb_eq1, zn_1, not_true_eq_false, not_false_eq_true, ite_true, ite_false, if_true, if_false, q_iret_0, q_iret_1, decide_true, decide_false, decide_not, zb_t, zb_f, z10, z01, cond_true, cond_false, Bool.and_true, Bool.true_and, Bool.and_false, Bool.false_and, Bool.not_true, Bool.not_false, true_and, and_true, false_and, and_false, true_or, or_true, false_or, or_false, Bool.true_eq_false, Bool.false_eq_true, eq_self, reduceCtorEq, Bool.or_true, Bool.true_or, Bool.or_false, Bool.false_or])
      · rw [decide_eq_false d2] at hseen
        have d3 := unold d2
        rw [d3]
        (simp only [e_X12_seesOne, zo_iload, zo_lload, zo_aload, zo_istore, zo_lstore, zo_astore, zo_iinc, zo_pushI, zo_pushL, zo_null, zo_ii, zo_iid, zo_ll, zo_li, zo_lcmp, zo_i2l, zo_l2i, zo_dup, zo_dup2, zo_pop, zo_goto, zo_if, zo_icmp, zo_ifnull, zo_gets, zo_mm, zo_throw, zo_ret, zo_aret, zo_lret, q_iret_f, q_iret_1, q_iret_0, q_iret_b, q_c8_0, q_c8_1, q_c8_2, q_c8_3, q_c8_4, q_set_0, q_set_1i, q_set_1r, q_set_1n, q_set_1N, q_set_s, q_set_1j, q_bk_v, q_bk_n, q_if, zb_ite, cond_true, cond_false, List.getElem?_cons_zero, List.getElem?_cons_succ, Nat.reduceAdd, q_set_1l, q_set2_0, q_set2_1i, q_set2_1r, q_set2_1n, q_set2_s, v2, a2, e60, hkk, bc, xc, zn_1, bk, xk, q_aR, r14, b1, b2, b3, ow, d1, hseen, z1, sI_1, sL_1, sI_2, sL_2, Nat.reduceEqDiff, if_true, if_false, zb_eq0, zb_eq1, zn_1, not_true_eq_false, not_false_eq_true, ite_true, ite_false, if_true, if_false, q_iret_0, q_iret_1, decide_true, decide_false, decide_not, zb_t, zb_f, z10, z01, cond_true, cond_false, Bool.and_true, Bool.true_and, Bool.and_false, Bool.false_and, Bool.not_true, Bool.not_false, true_and, and_true, false_and, and_false, true_or, or_true, false_or, or_false, Bool.true_eq_false, Bool.false_eq_true, eq_self, reduceCtorEq, Bool.or_true, Bool.true_or, Bool.or_false, Bool.false_or])
    · rw [if_neg d1]
      (simp only [e_X12_seesOne, zo_iload, zo_lload, zo_aload, zo_istore, zo_lstore, zo_astore, zo_iinc, zo_pushI, zo_pushL, zo_null, zo_ii, zo_iid, zo_ll, zo_li, zo_lcmp, zo_i2l, zo_l2i, zo_dup, zo_dup2, zo_pop, zo_goto, zo_if, zo_icmp, zo_ifnull, zo_gets, zo_mm, zo_throw, zo_ret, zo_aret, zo_lret, q_iret_f, q_iret_1, q_iret_0, q_iret_b, q_c8_0, q_c8_1, q_c8_2, q_c8_3, q_c8_4, q_set_0, q_set_1i, q_set_1r, q_set_1n, q_set_1N, q_set_s, q_set_1j, q_bk_v, q_bk_n, q_if, zb_ite, cond_true, cond_false, List.getElem?_cons_zero, List.getElem?_cons_succ, Nat.reduceAdd, q_set_1l, q_set2_0, q_set2_1i, q_set2_1r, q_set2_1n, q_set2_s, v2, a2, e60, hkk, bc, xc, zn_1, bk, xk, q_aR, r14, b1, b2, b3, ow, d1, z1, sI_1, sL_1, sI_2, sL_2, Nat.reduceEqDiff, if_true, if_false, zb_eq0, zb_eq1, zn_1, not_true_eq_false, not_false_eq_true, ite_true, ite_false, if_true, if_false, q_iret_0, q_iret_1, decide_true, decide_false, decide_not, zb_t, zb_f, z10, z01, cond_true, cond_false, Bool.and_true, Bool.true_and, Bool.and_false, Bool.false_and, Bool.not_true, Bool.not_false, true_and, and_true, false_and, and_false, true_or, or_true, false_or, or_false, Bool.true_eq_false, Bool.false_eq_true, eq_self, reduceCtorEq, Bool.or_true, Bool.true_or, Bool.or_false, Bool.false_or])
  rw [run]
  have hw : wOk B c (if lg A (ve A (3 + c) + 1) 24 = -1 then rd A (3 + c) (zn (obj A (ve A (3 + c) + 1))) 24 else lg A (ve A (3 + c) + 1) 24) := by
    by_cases d1 : lg A (ve A (3 + c) + 1) 24 = -1
    · rw [if_pos d1]; exact wold
    · rw [if_neg d1]; exact w24
  obtain ⟨R', e1, e2, e3⟩ := hk _ hw
  refine ⟨R', ?_, e2, sameV_trans sv (sameV_R e3)⟩
  rw [e1]
  (simp only [e_X12_seesOne, zo_iload, zo_lload, zo_aload, zo_istore, zo_lstore, zo_astore, zo_iinc, zo_pushI, zo_pushL, zo_null, zo_ii, zo_iid, zo_ll, zo_li, zo_lcmp, zo_i2l, zo_l2i, zo_dup, zo_dup2, zo_pop, zo_goto, zo_if, zo_icmp, zo_ifnull, zo_gets, zo_mm, zo_throw, zo_ret, zo_aret, zo_lret, q_iret_f, q_iret_1, q_iret_0, q_iret_b, q_c8_0, q_c8_1, q_c8_2, q_c8_3, q_c8_4, q_set_0, q_set_1i, q_set_1r, q_set_1n, q_set_1N, q_set_s, q_set_1j, q_bk_v, q_bk_n, q_if, zb_ite, cond_true, cond_false, List.getElem?_cons_zero, List.getElem?_cons_succ, Nat.reduceAdd, q_set_1l, q_set2_0, q_set2_1i, q_set2_1r, q_set2_1n, q_set2_s, if_true, if_false, zb_eq0, zb_eq1, zn_1, not_true_eq_false, not_false_eq_true, ite_true, ite_false, if_true, if_false, q_iret_0, q_iret_1, decide_true, decide_false, decide_not, zb_t, zb_f, z10, z01, cond_true, cond_false, Bool.and_true, Bool.true_and, Bool.and_false, Bool.false_and, Bool.not_true, Bool.not_false, true_and, and_true, false_and, and_false, true_or, or_true, false_or, or_false, Bool.true_eq_false, Bool.false_eq_true, eq_self, reduceCtorEq, Bool.or_true, Bool.true_or, Bool.or_false, Bool.false_or])
end
end

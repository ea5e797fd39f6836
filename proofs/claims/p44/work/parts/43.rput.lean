section
/-! an event comes to the log of both -/
theorem encR_of {x y : Int64} {D E : Nat → Int32} (h : encR x D) (e : y = x) (q : eq32 E D) : encR y E := by subst e; exact enc_c32 h q
theorem encB_of {x y : Int64} {D E : Nat → Int32} (h : encB x D) (e : y = x) (q : eq32 E D) : encB y E := by subst e; exact encB_c h (q 30 (by decide)) (q 31 (by decide))
theorem Rl0_put {A R A' R' : zzMd} {o : Nat} {D : Nat → Int32} {x y : Int64} (H : Rl0 A R) (he : ve A 1 < 400) (ho : o ≤ nv A 1) (ho6 : o < 60) (WA : zIC A')
    (a14 : ∀ k s, k ≤ ve A 1 → s < 32 → A'.1 14 (k * 32 + s) = A.1 14 (k * 32 + s)) (a14n : ∀ s, s < 32 → A'.1 14 ((ve A 1 + 1) * 32 + s) = D s)
    (a15 : ∀ b, A'.1 15 b = if b = o then zn (ve A 1 + 1) else A.1 15 b) (a12 : A'.1 1 2 = zn (Nat.max (nv A 1) (o + 1))) (a13 : A'.1 1 3 = zn (ve A 1 + 1))
    (aO : ∀ a b, a ≠ 14 → a ≠ 15 → a ≠ 16 → (a = 1 → b ≠ 2 ∧ b ≠ 3) → A'.1 a b = A.1 a b) (a16 : ∀ b, b < nv A 1 → A'.1 16 b = A.1 16 b)
    (r0 : R'.1 0 14 = zn (ve A 1 + 1)) (r05 : R'.1 0 5 = zn (Nat.max (nv A 1) (o + 1))) (r0o : ∀ b, b ≠ 5 → b ≠ 14 → b ≠ 31 → b ≠ 49 → b ≠ 43 → b ≠ 42 → R'.1 0 b = R.1 0 b)
    (rO : ∀ a b, a ≠ 0 → a ≠ 6 → a ≠ 9 → a ≠ 10 → a ≠ 11 → a ≠ 14 → a ≠ 36 → a ≠ 37 → R'.1 a b = R.1 a b) (r6 : ∀ b, b ≠ o → R'.1 6 b = R.1 6 b) (r6o : R'.1 6 o = D 23) (hkd : o < nv A 1 → D 23 = R.1 6 o)
    (r11 : ∀ b, b < nv A 1 → R'.1 11 b = R.1 11 b) (hbt : ¬ o < nv A 1 → ∃ t, t ≤ now A ∧ A'.1 16 o = zn t ∧ R'.1 11 o = zn t)
    (r9 : ∀ b, R'.1 9 b = if b = o then zn (ve A 1 + 1) else R.1 9 b) (r14 : ∀ b, R'.1 14 b = if b = ve A 1 + 1 then zn o else R.1 14 b)
    (r7 : ∀ b, R'.2 7 b = if b = o then x else R.2 7 b) (r8 : ∀ b, R'.2 8 b = if b = o then y else R.2 8 b)
    (r15 : ∀ b, R'.2 15 b = if b = ve A 1 + 1 then x else R.2 15 b) (r16 : ∀ b, R'.2 16 b = if b = ve A 1 + 1 then y else R.2 16 b)
    (rL : ∀ a b, a ≠ 7 → a ≠ 8 → a ≠ 15 → a ≠ 16 → R'.2 a b = R.2 a b)
    (gD : goodD D) (d22 : D 22 = zn o) (eD : encR x D) (bD : encB y D) :
    Rl0 A' R' ∧ ve A' 1 = ve A 1 + 1 ∧ nv A' 1 = Nat.max (nv A 1) (o + 1) ∧ (∀ e', e' ≤ ve A 1 → lastV (obj A') e' = lastV (obj A) e') ∧ (∀ b, lastV (obj A') (ve A 1 + 1) b = if b = o then ve A 1 + 1 else lastV (obj A) (ve A 1) b) := by
  obtain ⟨⟨K, W⟩, L, VQ, S, RAA, MM⟩ := H
  have hn60 : nv A 1 ≤ 60 := W.1.2.1.2
  have m1 : nv A 1 ≤ Nat.max (nv A 1) (o + 1) := Nat.le_max_left _ _
  have m2 : o + 1 ≤ Nat.max (nv A 1) (o + 1) := Nat.le_max_right _ _
  have m3 : Nat.max (nv A 1) (o + 1) ≤ 60 := Nat.max_le.mpr ⟨hn60, by omega⟩
  have m4 : ∀ b, b < Nat.max (nv A 1) (o + 1) → b ≠ o → b < nv A 1 := fun b hb hne => by
    have : Nat.max (nv A 1) (o + 1) ≤ nv A 1 + 1 := Nat.max_le.mpr ⟨by omega, by omega⟩
    by_cases q : o < nv A 1
    · have : Nat.max (nv A 1) (o + 1) = nv A 1 := Nat.max_eq_left q
      omega
    · omega
  have ev : ve A' 1 = ve A 1 + 1 := (congrArg zz_ix a13).trans (zn_ix (by omega))
  have en : nv A' 1 = Nat.max (nv A 1) (o + 1) := (congrArg zz_ix a12).trans (zn_ix (by omega))
  have ob1 : ∀ k, k ≤ ve A 1 → obj A' k = obj A k := fun k hk => congrArg zz_ix (a14 k 22 hk (by decide))
  have ob2 : obj A' (ve A 1 + 1) = o := ((congrArg zz_ix (a14n 22 (by decide))).trans (congrArg zz_ix d22)).trans (zn_ix (by omega))
  have lv1 : ∀ e', e' ≤ ve A 1 → lastV (obj A') e' = lastV (obj A) e' := fun e' h => funext fun b => lastV_c b fun k _ h2 => ob1 k (by omega)
  have nu1 : ∀ e', e' ≤ ve A 1 → numO (obj A') e' = numO (obj A) e' := fun e' h => numO_c fun k _ h2 => ob1 k (by omega)
  have lv2 : ∀ b, lastV (obj A') (ve A 1 + 1) b = if b = o then ve A 1 + 1 else lastV (obj A) (ve A 1) b := fun b => by
    rw [lastV_s, ob2, lv1 _ (Nat.le_refl _)]
    by_cases q : o = b
    · rw [if_pos q, if_pos q.symm]
    · rw [if_neg q, if_neg (fun z => q z.symm)]
  have lg1 : ∀ k, k ≤ ve A 1 → eq32 (lg A' k) (lg A k) := fun k hk s hs => a14 k s hk hs
  have lg2 : eq32 (lg A' (ve A 1 + 1)) D := fun s hs => a14n s hs
  obtain ⟨⟨L1, L2⟩, L3, L4, ⟨L5, L6⟩, L7⟩ := L
  have nu2 : numO (obj A') (ve A 1 + 1) = Nat.max (nv A 1) (o + 1) := by rw [numO_s, ob2, nu1 _ (Nat.le_refl _), ← L5]
  have olt : ∀ k, 1 ≤ k → k ≤ ve A 1 → obj A k < nv A 1 := fun k h1 h2 => by
    rw [L5]
    refine Nat.lt_of_lt_of_le ?_ (numO_mono h2)
    obtain ⟨k', rfl⟩ : ∃ k', k = k' + 1 := ⟨k - 1, by omega⟩
    rw [numO_s]
    exact Nat.lt_of_lt_of_le (Nat.lt_succ_self _) (Nat.le_max_right _ _)
  have k6 : ∀ b, b < nv A 1 → R'.1 6 b = R.1 6 b := fun b hb => by
    by_cases q : b = o
    · rw [q, r6o, hkd (by omega)]
    · exact r6 b q
  have a17 : A'.1 1 7 = A.1 1 7 := aO 1 7 (by decide) (by decide) (by decide) (fun _ => ⟨by decide, by decide⟩)
  have a18 : A'.1 1 8 = A.1 1 8 := aO 1 8 (by decide) (by decide) (by decide) (fun _ => ⟨by decide, by decide⟩)
  have enow : now A' = now A := congrArg zz_ix a17
  refine ⟨⟨⟨?_, WA⟩, ⟨⟨?_, ?_⟩, ?_, ?_, ⟨?_, ?_⟩, ?_⟩, ?_, ?_, ?_, ?_⟩, ev, en, lv1, lv2⟩
  · obtain ⟨k1, k2, k3⟩ := K
    refine ⟨fun k hk => ?_, fun f hf => ?_, fun t ht => ?_⟩
    · rw [rO 1 k (by decide) (by decide) (by decide) (by decide) (by decide) (by decide) (by decide) (by decide), rO 2 k (by decide) (by decide) (by decide) (by decide) (by decide) (by decide) (by decide) (by decide)]
      exact k1 k hk
    · rw [rO 3 f (by decide) (by decide) (by decide) (by decide) (by decide) (by decide) (by decide) (by decide), rO 4 f (by decide) (by decide) (by decide) (by decide) (by decide) (by decide) (by decide) (by decide)]
      exact k2 f hf
    · rw [rO 5 t (by decide) (by decide) (by decide) (by decide) (by decide) (by decide) (by decide) (by decide)]
      exact k3 t ht
  · rw [r0, ev]
  · rw [r05, en]
  · intro k h1 h2
    rw [ev] at h2
    by_cases q : k ≤ ve A 1
    · obtain ⟨c1, c2, c3, c4, c5, c6, c7⟩ := L3 k h1 q
      refine ⟨?_, ?_, goodD_c c3 (lg1 k q), ?_, ?_, ?_, ?_⟩
      · rw [ob1 k q, nu1 _ (by omega)]; exact c1
      · rw [lg1 k q 22 (by decide), ob1 k q]; exact c2
      · rw [lg1 k q 23 (by decide), ob1 k q, k6 _ (olt k h1 q)]; exact c4
      · rw [r14, if_neg (by omega), ob1 k q]; exact c5
      · exact encR_of c6 (by rw [r15, if_neg (by omega)]) (lg1 k q)
      · exact encB_of c7 (by rw [r16, if_neg (by omega)]) (lg1 k q)
    · have hk : k = ve A 1 + 1 := by omega
      subst hk
      refine ⟨?_, ?_, goodD_c gD lg2, ?_, ?_, ?_, ?_⟩
      · rw [ob2, Nat.add_sub_cancel, nu1 _ (Nat.le_refl _), ← L5]; exact ho
      · rw [lg2 22 (by decide), ob2]; exact d22
      · rw [lg2 23 (by decide), ob2]; exact r6o.symm
      · rw [r14, if_pos rfl, ob2]
      · exact encR_of eD (by rw [r15, if_pos rfl]) lg2
      · exact encB_of bD (by rw [r16, if_pos rfl]) lg2
  · intro s hs
    rw [lg1 0 (Nat.zero_le _) s hs]
    exact L4 s hs
  · rw [en, ev, nu2]
  · intro b hb
    rw [a15, ev, lv2]
    by_cases q : b = o
    · rw [if_pos q, if_pos q]
    · rw [if_neg q, if_neg q]; exact L6 b hb
  · intro b hb
    rw [en] at hb
    rw [ev, lv2, r7, r8, r9]
    by_cases q : b = o
    · simp only [if_pos q]
      rw [r15, r16, if_pos rfl, if_pos rfl]
      exact ⟨rfl, rfl, by first | trivial | rfl⟩
    · simp only [if_neg q]
      have hl : lastV (obj A) (ve A 1) b ≤ ve A 1 := lastV_le b _
      rw [r15, r16, if_neg (by omega), if_neg (by omega)]
      exact L7 b (m4 b hb q)
  · intro c hc
    obtain ⟨⟨⟨v1, v2, v3⟩, v4⟩, q1, q2, q3, q4⟩ := VQ c hc
    have x3 : ∀ b, A'.1 (3 + c) b = A.1 (3 + c) b := fun b => aO _ b (by omega) (by omega) (by omega) (fun z => absurd z (by omega))
    have xb : ∀ j b, 21 + 6 * c ≤ j → A'.1 j b = A.1 j b := fun j b hj => aO _ b (by omega) (by omega) (by omega) (fun z => absurd z (by omega))
    have xr : ∀ a b, 26 ≤ a → a ≤ 35 → R'.1 a b = R.1 a b := fun a b h1 h2 => rO a b (by omega) (by omega) (by omega) (by omega) (by omega) (by omega) (by omega) (by omega)
    have ev3 : ve A' (3 + c) = ve A (3 + c) := congrArg zz_ix (x3 3)
    have en3 : nv A' (3 + c) = nv A (3 + c) := congrArg zz_ix (x3 2)
    have eqn : qn A' c = qn A c := congrArg zz_ix (x3 11)
    have eqk : ∀ p, qk A' c p = qk A c p := fun p => congrArg zz_ix (xb (22 + 6 * c) p (by omega))
    have eiq : ∀ b, inQ A' c b ↔ inQ A c b := fun b => by unfold inQ; simp only [eqn, eqk]
    refine ⟨⟨⟨?_, ?_, ?_⟩, fun b hb => ?_⟩, ?_, ?_, ?_, fun b hb => ?_⟩
    · rw [ev3, ev]; omega
    · rw [ev3, xr 26 _ (by decide) (by decide)]; exact v2
    · rw [ev3, en3, nu1 _ v1]; exact v3
    · obtain ⟨w1, w2, w3, w4⟩ := v4 b hb
      rw [ev3, en3, lv1 _ v1, xb _ _ (Nat.le_refl _), xr 27 _ (by decide) (by decide), xr 30 _ (by decide) (by decide), rL 28 _ (by decide) (by decide) (by decide) (by decide), rL 29 _ (by decide) (by decide) (by decide) (by decide)]
      refine ⟨w1, w2, w3, fun hq => ?_⟩
      have hl : lastV (obj A) (ve A (3 + c)) b ≤ ve A (3 + c) := lastV_le b _
      rw [r15, r16, if_neg (by omega), if_neg (by omega)]
      exact w4 hq
    · rw [xr 31 _ (by decide) (by decide), eqn]; exact q1
    · intro p hp
      rw [eqn] at hp
      rw [xr 32 _ (by decide) (by decide), eqk, en]
      exact ⟨(q2 p hp).1, Nat.lt_of_lt_of_le (q2 p hp).2 m1⟩
    · intro p q hp hq e
      rw [eqn] at hp hq
      rw [eqk, eqk] at e
      exact q3 p q hp hq e
    · have z := q4 b hb
      unfold RQo at z ⊢
      rw [xb (23 + 6 * c) b (by omega), xb (24 + 6 * c) b (by omega), xb (25 + 6 * c) b (by omega), xb (26 + 6 * c) b (by omega), xr 33 _ (by decide) (by decide), xr 34 _ (by decide) (by decide), xr 35 _ (by decide) (by decide), eiq, enow, ev]
      obtain ⟨z1, f, d, w, z2, z3, z4, ⟨z5, z6, z7⟩, z8⟩ := z
      exact ⟨z1, f, d, w, z2, z3, z4, ⟨z5, z6, by omega⟩, z8⟩
  · intro b hb
    rw [rO 13 b (by decide) (by decide) (by decide) (by decide) (by decide) (by decide) (by decide) (by decide), aO 72 b (by decide) (by decide) (by decide) (fun z => absurd z (by decide)), enow]
    exact S b hb
  · obtain ⟨⟨s1, s2, s3, s4⟩, s5, s6⟩ := RAA
    have y2 : ∀ b, A'.1 2 b = A.1 2 b := fun b => aO 2 b (by decide) (by decide) (by decide) (fun z => absurd z (by decide))
    have y18 : ∀ b, A'.1 18 b = A.1 18 b := fun b => aO 18 b (by decide) (by decide) (by decide) (fun z => absurd z (by decide))
    have y19 : ∀ b, A'.1 19 b = A.1 19 b := fun b => aO 19 b (by decide) (by decide) (by decide) (fun z => absurd z (by decide))
    have enr : nr A' = nr A := congrArg zz_ix (y2 3)
    have enc : nc A' = nc A := congrArg zz_ix (y2 4)
    have erP : rP A' = rP A := funext fun i => funext fun k => y18 _
    have ecP : cP A' = cP A := funext fun i => funext fun k => y19 _
    have xr : ∀ a b, 17 ≤ a → a ≤ 25 → R'.1 a b = R.1 a b := fun a b h1 h2 => rO a b (by omega) (by omega) (by omega) (by omega) (by omega) (by omega) (by omega) (by omega)
    unfold RA
    rw [enr, enc, erP, ecP, y2 5, r0o 19 (by decide) (by decide) (by decide) (by decide) (by decide) (by decide), r0o 26 (by decide) (by decide) (by decide) (by decide) (by decide) (by decide), r0o 30 (by decide) (by decide) (by decide) (by decide) (by decide) (by decide)]
    refine ⟨⟨s1, s2, s3, s4⟩, fun i hi => ?_, fun i hi => ?_⟩
    · rw [xr 17 i (by decide) (by decide), xr 18 i (by decide) (by decide), xr 19 i (by decide) (by decide), xr 20 i (by decide) (by decide), xr 21 i (by decide) (by decide), xr 22 i (by decide) (by decide)]
      exact s5 i hi
    · rw [xr 23 i (by decide) (by decide), xr 24 i (by decide) (by decide), xr 25 i (by decide) (by decide)]
      exact s6 i hi
  · obtain ⟨t1, ⟨k, t2, t3, t4⟩, t5, t6, t7, t8, t9⟩ := MM
    have o1 : ∀ a b, a ≠ 14 → a ≠ 15 → a ≠ 16 → a ≠ 1 → A'.1 a b = A.1 a b := fun a b h1 h2 h3 h4 => aO a b h1 h2 h3 (fun z => absurd z h4)
    refine ⟨?_, ⟨k, by omega, ?_, ?_⟩, ?_, ?_, ?_, ?_, ?_⟩
    · rw [enow, a17, r0o 48 (by decide) (by decide) (by decide) (by decide) (by decide) (by decide)]; exact t1
    · rw [a18]; exact t3
    · rw [r0o 15 (by decide) (by decide) (by decide) (by decide) (by decide) (by decide)]; exact t4
    · intro b hb
      rw [en] at hb
      rw [enow]
      by_cases q : b < nv A 1
      · rw [a16 b q, r11 b q]; exact t5 b q
      · by_cases q2 : b = o
        · rw [q2] at q ⊢; exact hbt q
        · exact absurd (m4 b hb q2) q
    · intro r hr
      obtain ⟨k, u1, u2, u3⟩ := t6 r hr
      exact ⟨k, by omega, by rw [o1 12 r (by decide) (by decide) (by decide) (by decide)]; exact u2, by rw [rO 38 r (by decide) (by decide) (by decide) (by decide) (by decide) (by decide) (by decide) (by decide)]; exact u3⟩
    · intro b hb
      rw [o1 13 b (by decide) (by decide) (by decide) (by decide), rO 12 b (by decide) (by decide) (by decide) (by decide) (by decide) (by decide) (by decide) (by decide), en]
      obtain ⟨u1, u2⟩ := t7 b hb
      refine ⟨u1, u2.imp id fun ⟨t, w1, w2, w3, w4⟩ => ⟨t, w1, w2, by omega, by rw [k6 b w3]; exact w4⟩⟩
    · rw [r0o 47 (by decide) (by decide) (by decide) (by decide) (by decide) (by decide), o1 0 4 (by decide) (by decide) (by decide) (by decide)]; exact t8
    · intro c hc
      rw [o1 (3 + c) 5 (by omega) (by omega) (by omega) (by omega)]
      exact t9 c hc
end

section
/-! the calls of admission and of readers, in both -/
theorem zIC_eqv {A B : zzMd} (h : ∀ a b, a ≠ 0 → a ≠ 12 → a ≠ 13 → a ≠ 16 → a ≠ 1 ∨ b < 4 → a ≠ 2 ∨ b ≠ 5 → B.1 a b = A.1 a b) (W : zIC A) : zIC B := by
  have k2 : ∀ c b, B.1 (21 + 6 * c) b = A.1 (21 + 6 * c) b := fun c b => h _ _ (by omega) (by omega) (by omega) (by omega) (Or.inl (by omega)) (Or.inl (by omega))
  have k3 : ∀ c b, c < 8 → B.1 (3 + c) b = A.1 (3 + c) b := fun c b hc => h _ _ (by omega) (by omega) (by omega) (by omega) (Or.inl (by omega)) (Or.inl (by omega))
  have k4 : ∀ c b, B.1 (22 + 6 * c) b = A.1 (22 + 6 * c) b := fun c b => h _ _ (by omega) (by omega) (by omega) (by omega) (Or.inl (by omega)) (Or.inl (by omega))
  have e12 : B.1 1 2 = A.1 1 2 := h _ _ (by omega) (by omega) (by omega) (by omega) (Or.inr (by omega)) (Or.inl (by omega))
  have e13 : B.1 1 3 = A.1 1 3 := h _ _ (by omega) (by omega) (by omega) (by omega) (Or.inr (by omega)) (Or.inl (by omega))
  have e23 : B.1 2 3 = A.1 2 3 := h _ _ (by omega) (by omega) (by omega) (by omega) (Or.inl (by omega)) (Or.inr (by omega))
  have e24 : B.1 2 4 = A.1 2 4 := h _ _ (by omega) (by omega) (by omega) (by omega) (Or.inl (by omega)) (Or.inr (by omega))
  have e15 : ∀ b, B.1 15 b = A.1 15 b := fun b => h _ _ (by omega) (by omega) (by omega) (by omega) (Or.inl (by omega)) (Or.inl (by omega))
  have e18 : ∀ b, B.1 18 b = A.1 18 b := fun b => h _ _ (by omega) (by omega) (by omega) (by omega) (Or.inl (by omega)) (Or.inl (by omega))
  have e19 : ∀ b, B.1 19 b = A.1 19 b := fun b => h _ _ (by omega) (by omega) (by omega) (by omega) (Or.inl (by omega)) (Or.inl (by omega))
  refine ⟨?_, ?_, fun c hc => ?_⟩
  · have w := W.1
    unfold zIV nv ve at w ⊢
    simp only [e12, e13, e15]
    exact w
  · have w := W.2.1
    unfold zAd nr nc rP cP at w ⊢
    simp only [e23, e24, e18, e19]
    exact w
  · have w := W.2.2 c hc
    unfold zIV zIQ nv ve qn qk at w ⊢
    simp only [k2, k3 c _ hc, k4]
    exact w
theorem zIC_ad {A B : zzMd} (h : ∀ a b, a ≠ 2 → a ≠ 18 → a ≠ 19 → B.1 a b = A.1 a b) (hA : zAd B) (W : zIC A) : zIC B := by
  have k2 : ∀ c b, B.1 (21 + 6 * c) b = A.1 (21 + 6 * c) b := fun c b => h _ _ (by omega) (by omega) (by omega)
  have k3 : ∀ c b, c < 8 → B.1 (3 + c) b = A.1 (3 + c) b := fun c b hc => h _ _ (by omega) (by omega) (by omega)
  have k4 : ∀ c b, B.1 (22 + 6 * c) b = A.1 (22 + 6 * c) b := fun c b => h _ _ (by omega) (by omega) (by omega)
  have e12 : B.1 1 2 = A.1 1 2 := h _ _ (by omega) (by omega) (by omega)
  have e13 : B.1 1 3 = A.1 1 3 := h _ _ (by omega) (by omega) (by omega)
  have e15 : ∀ b, B.1 15 b = A.1 15 b := fun b => h _ _ (by omega) (by omega) (by omega)
  refine ⟨?_, hA, fun c hc => ?_⟩
  · have w := W.1
    unfold zIV nv ve at w ⊢
    simp only [e12, e13, e15]
    exact w
  · have w := W.2.2 c hc
    unfold zIV zIQ nv ve qn qk at w ⊢
    simp only [k2, k3 c _ hc, k4]
    exact w
section
variable {A R : zzMd}
theorem Rel_12 (H : Rel A R) {r k : Nat} (hk : k ≤ ve A 1) : Rel (zz_sI A 12 r (zn k)) (zz_sI R 38 r (zn k)) := by
  have h := H.1.2.2.2.2.2
  refine ⟨Rl0_m H.1 (zIC_eqv (fun a b _ h1 _ _ _ _ => sI_a h1) H.1.1.2) (fun a b _ _ _ h1 _ _ _ _ _ _ => sI_a h1) (fun a b _ _ _ _ _ _ _ h1 _ => sI_a h1) rfl (Nat.le_refl _) H.1.2.2.2.1 H.1.2.2.2.2.1 ⟨h.1, h.2.1, h.2.2.1, fun b hb => ?_, h.2.2.2.2.1, h.2.2.2.2.2.1, fun c hc => (sI_a (by omega)).trans (h.2.2.2.2.2.2 c hc)⟩, RMan_c H.2 (fun _ => sI_a (by decide)) (sI_a (by decide)) (sI_a (by decide)) fun _ => sI_a (by decide)⟩
  by_cases e : b = r
  · rw [e, sI_e, sI_e]
    exact ⟨k, hk, rfl, rfl⟩
  · rw [sI_b e, sI_b e]
    exact h.2.2.2.1 b hb
theorem Rel_13 (H : Rel A R) {o : Nat} {x : Int32} (hx : x = -1 ∨ ∃ t, t ≤ 9 ∧ x = zn t ∧ o < nv A 1 ∧ R.1 6 o = 0) : Rel (zz_sI A 13 o x) (zz_sI R 12 o x) := by
  have h := H.1.2.2.2.2.2
  refine ⟨Rl0_m H.1 (zIC_eqv (fun a b _ _ h1 _ _ _ => sI_a h1) H.1.1.2) (fun a b _ _ _ _ h1 _ _ _ _ _ => sI_a h1) (fun a b _ _ _ h1 _ _ _ _ _ => sI_a h1) rfl (Nat.le_refl _) H.1.2.2.2.1 H.1.2.2.2.2.1 ⟨h.1, h.2.1, h.2.2.1, h.2.2.2.1, fun b hb => ?_, h.2.2.2.2.2.1, fun c hc => (sI_a (by omega)).trans (h.2.2.2.2.2.2 c hc)⟩, RMan_c H.2 (fun _ => sI_a (by decide)) (sI_a (by decide)) (sI_a (by decide)) fun _ => sI_a (by decide)⟩
  by_cases e : b = o
  · rw [e, sI_e, sI_e]
    exact ⟨rfl, hx⟩
  · rw [sI_b e, sI_b e]
    exact h.2.2.2.2.1 b hb
theorem Rel_18 (H : Rel A R) {k : Nat} (hk : k ≤ ve A 1) : Rel (zz_sI A 1 8 (zn k)) (zz_sI R 0 15 (zn k)) := by
  have h := H.1.2.2.2.2.2
  refine ⟨Rl0_m H.1 (zIC_eqv (fun a b _ _ _ _ h1 _ => if_neg (fun z => h1.elim (fun q => q z.1) (fun q => by have := z.2; omega))) H.1.1.2) (fun a b _ _ _ _ _ _ _ _ h1 _ => if_neg (fun z => h1.elim (fun q => q z.1) (fun q => q.2 z.2))) (fun a b _ _ _ _ _ _ _ _ h1 => if_neg (fun z => h1.elim (fun q => q z.1) (fun q => by have := z.2; omega))) rfl (Nat.le_refl _) H.1.2.2.2.1 H.1.2.2.2.2.1 ⟨h.1, ⟨k, hk, sI_e, sI_e⟩, h.2.2.1, h.2.2.2.1, h.2.2.2.2.1, h.2.2.2.2.2.1, fun c hc => (sI_a (by omega)).trans (h.2.2.2.2.2.2 c hc)⟩, RMan_c H.2 (fun _ => sI_a (by decide)) (sI_b (by decide)) (sI_b (by decide)) fun _ => sI_a (by decide)⟩
theorem Rel_25 (H : Rel A R) {q : Nat} (hq : q ≤ 60) : Rel (zz_sI A 2 5 (zn q)) (zz_sI R 0 30 (zn q)) := by
  have h := H.1.2.2.2.2.2
  have g := H.1.2.2.2.2.1
  exact ⟨Rl0_m H.1 (zIC_eqv (fun a b _ _ _ _ _ h1 => if_neg (fun z => h1.elim (fun q => q z.1) (fun q => q z.2))) H.1.1.2) (fun a b _ _ _ _ _ h1 _ _ _ _ => sI_a h1) (fun a b _ _ _ _ _ _ _ _ h1 => if_neg (fun z => h1.elim (fun q => q z.1) (fun q => by have := z.2; omega))) rfl (Nat.le_refl _) H.1.2.2.2.1 ⟨⟨g.1.1, g.1.2.1, sI_e.trans sI_e.symm, q, hq, sI_e⟩, g.2.1, g.2.2⟩ ⟨h.1, h.2.1, h.2.2.1, h.2.2.2.1, h.2.2.2.2.1, h.2.2.2.2.2.1, fun c hc => (sI_a (by omega)).trans (h.2.2.2.2.2.2 c hc)⟩, RMan_c H.2 (fun _ => sI_a (by decide)) (sI_a (by decide)) (sI_a (by decide)) fun _ => sI_a (by decide)⟩
theorem RM_a {A' R' : zzMd} (h : RM A R) (hA : ∀ a b, a ≠ 2 → a ≠ 18 → a ≠ 19 → A'.1 a b = A.1 a b) (hR : ∀ a b, a ≠ 0 ∨ b ≠ 19 ∧ b ≠ 26 → a < 17 ∨ 25 < a → R'.1 a b = R.1 a b) : RM A' R' := by
  obtain ⟨h1, ⟨k, k1, k2, k3⟩, h3, h4, h5, h6, h7⟩ := h
  have en : now A' = now A := congrArg zz_ix (hA 1 7 (by decide) (by decide) (by decide))
  have ev : ve A' 1 = ve A 1 := congrArg zz_ix (hA 1 3 (by decide) (by decide) (by decide))
  have env : nv A' 1 = nv A 1 := congrArg zz_ix (hA 1 2 (by decide) (by decide) (by decide))
  refine ⟨?_, ⟨k, ?_, ?_, ?_⟩, fun o ho => ?_, fun r hr => ?_, fun o ho => ?_, ?_, fun c hc => ?_⟩
  · rw [hA 1 7 (by decide) (by decide) (by decide), en, hR 0 48 (Or.inr (by decide)) (Or.inl (by decide))]; exact h1
  · rw [ev]; exact k1
  · rw [hA 1 8 (by decide) (by decide) (by decide)]; exact k2
  · rw [hR 0 15 (Or.inr (by decide)) (Or.inl (by decide))]; exact k3
  · rw [env] at ho
    rw [en, hA 16 o (by decide) (by decide) (by decide), hR 11 o (Or.inl (by decide)) (Or.inl (by decide))]; exact h3 o ho
  · rw [ev, hA 12 r (by decide) (by decide) (by decide), hR 38 r (Or.inl (by decide)) (Or.inr (by decide))]; exact h4 r hr
  · rw [env, hA 13 o (by decide) (by decide) (by decide), hR 12 o (Or.inl (by decide)) (Or.inl (by decide)), hR 6 o (Or.inl (by decide)) (Or.inl (by decide))]; exact h5 o ho
  · rw [hA 0 4 (by decide) (by decide) (by decide), hR 0 47 (Or.inr (by decide)) (Or.inl (by decide))]; exact h6
  · rw [hA (3 + c) 5 (by omega) (by omega) (by omega)]; exact h7 c hc
/-- what admission has, in both -/
theorem Rel_ad {A' R' : zzMd} (H : Rel A R) (hA : ∀ a b, a ≠ 2 → a ≠ 18 → a ≠ 19 → A'.1 a b = A.1 a b) (hR : ∀ a b, a ≠ 0 ∨ b ≠ 19 ∧ b ≠ 26 → a < 17 ∨ 25 < a → R'.1 a b = R.1 a b) (h2 : R'.2 = R.2) (hz : zAd A') (hra : RA A' R') : Rel A' R' := by
  have en : now A' = now A := congrArg zz_ix (hA 1 7 (by decide) (by decide) (by decide))
  refine ⟨Rl0_m H.1 (zIC_ad hA hz H.1.1.2) (fun a b _ _ _ _ _ h1 h3 h4 _ _ => hA a b h1 h3 h4) (fun a b _ _ _ _ h1 _ _ _ h3 => hR a b (by omega) h1) h2 (Nat.le_of_eq en.symm) (fun o ho => ?_) hra (RM_a H.1.2.2.2.2.2 hA hR), RMan_c H.2 (fun b => hA 14 b (by decide) (by decide) (by decide)) (hA 1 2 (by decide) (by decide) (by decide)) (hA 1 3 (by decide) (by decide) (by decide)) fun b => hR 10 b (Or.inl (by decide)) (Or.inl (by decide))⟩
  rw [en, hA 72 o (by decide) (by decide) (by decide), hR 13 o (Or.inl (by decide)) (Or.inl (by decide))]
  exact H.1.2.2.2.1 o ho
/-! rules -/
def aRule (A : zzMd) (n : Nat) (k f lo hi t v : Int32) : zzMd := zz_sI (zz_sI (zz_sI (zz_sI (zz_sI (zz_sI (zz_sI A 18 (n * 6) k) 18 (n * 6 + 1) f) 18 (n * 6 + 2) lo) 18 (n * 6 + 3) hi) 18 (n * 6 + 4) t) 18 (n * 6 + 5) v) 2 3 (zn (n + 1))
def rRule (R : zzMd) (n : Nat) (k f lo hi t v : Int32) : zzMd := zz_sI (zz_sI (zz_sI (zz_sI (zz_sI (zz_sI (zz_sI R 17 n k) 18 n f) 19 n lo) 20 n hi) 21 n t) 22 n v) 0 19 (zn (n + 1))
theorem aRule_1 (A : zzMd) (n : Nat) (k f lo hi t v : Int32) (a b : Nat) : (aRule A n k f lo hi t v).1 a b = if a = 2 ∧ b = 3 then zn (n + 1) else if a = 18 ∧ b = n * 6 + 5 then v else if a = 18 ∧ b = n * 6 + 4 then t else if a = 18 ∧ b = n * 6 + 3 then hi else if a = 18 ∧ b = n * 6 + 2 then lo else if a = 18 ∧ b = n * 6 + 1 then f else if a = 18 ∧ b = n * 6 then k else A.1 a b := rfl
theorem rRule_1 (R : zzMd) (n : Nat) (k f lo hi t v : Int32) (a b : Nat) : (rRule R n k f lo hi t v).1 a b = if a = 0 ∧ b = 19 then zn (n + 1) else if a = 22 ∧ b = n then v else if a = 21 ∧ b = n then t else if a = 20 ∧ b = n then hi else if a = 19 ∧ b = n then lo else if a = 18 ∧ b = n then f else if a = 17 ∧ b = n then k else R.1 a b := rfl
theorem Rel_rule (H : Rel A R) {n jf jt a : Nat} (hn : n = nr A) (hn8 : n < 8) (hf : jf < 11) (ht : jt < 11) (h1 : leastF jt ≤ a) (h2 : a ≤ mostF jt) (k lo hi : Int32) : Rel (aRule A n k (zn jf) lo hi (zn jt) (zn a)) (rRule R n k (zn jf) lo hi (zn jt) (zn a)) := by
  obtain ⟨⟨n1, n2⟩, ⟨n3, n4⟩, z1, z2⟩ := H.1.1.2.2.1
  obtain ⟨⟨g1, g2, g3⟩, g4, g5⟩ := H.1.2.2.2.2.1
  have hA : ∀ a' b, a' ≠ 2 → a' ≠ 18 → a' ≠ 19 → (aRule A n k (zn jf) lo hi (zn jt) (zn a)).1 a' b = A.1 a' b := fun a' b q1 q2 _ => by
    rw [aRule_1, if_neg (fun z => q1 z.1), if_neg (fun z => q2 z.1), if_neg (fun z => q2 z.1), if_neg (fun z => q2 z.1), if_neg (fun z => q2 z.1), if_neg (fun z => q2 z.1), if_neg (fun z => q2 z.1)]
  have hR : ∀ a' b, a' ≠ 0 ∨ b ≠ 19 ∧ b ≠ 26 → a' < 17 ∨ 25 < a' → (rRule R n k (zn jf) lo hi (zn jt) (zn a)).1 a' b = R.1 a' b := fun a' b q1 q2 => by
    rw [rRule_1, if_neg (by omega), if_neg (by omega), if_neg (by omega), if_neg (by omega), if_neg (by omega), if_neg (by omega), if_neg (by omega)]
  have enr : nr (aRule A n k (zn jf) lo hi (zn jt) (zn a)) = n + 1 := by
    show zz_ix (zn (n + 1)) = n + 1
    exact zn_ix (by omega)
  have enc : nc (aRule A n k (zn jf) lo hi (zn jt) (zn a)) = nc A := rfl
  have old : ∀ i j, i < n → j < 6 → rP (aRule A n k (zn jf) lo hi (zn jt) (zn a)) i j = rP A i j := fun i j hi hj => by
    unfold rP
    rw [aRule_1, if_neg (by omega), if_neg (by omega), if_neg (by omega), if_neg (by omega), if_neg (by omega), if_neg (by omega), if_neg (by omega)]
  have new0 : rP (aRule A n k (zn jf) lo hi (zn jt) (zn a)) n 0 = k := by
    unfold rP
    rw [aRule_1, if_neg (by omega), if_neg (by omega), if_neg (by omega), if_neg (by omega), if_neg (by omega), if_neg (by omega), if_pos (by omega)]
  have new1 : rP (aRule A n k (zn jf) lo hi (zn jt) (zn a)) n 1 = zn jf := by
    unfold rP
    rw [aRule_1, if_neg (by omega), if_neg (by omega), if_neg (by omega), if_neg (by omega), if_neg (by omega), if_pos (by omega)]
  have new2 : rP (aRule A n k (zn jf) lo hi (zn jt) (zn a)) n 2 = lo := by
    unfold rP
    rw [aRule_1, if_neg (by omega), if_neg (by omega), if_neg (by omega), if_neg (by omega), if_pos (by omega)]
  have new3 : rP (aRule A n k (zn jf) lo hi (zn jt) (zn a)) n 3 = hi := by
    unfold rP
    rw [aRule_1, if_neg (by omega), if_neg (by omega), if_neg (by omega), if_pos (by omega)]
  have new4 : rP (aRule A n k (zn jf) lo hi (zn jt) (zn a)) n 4 = zn jt := by
    unfold rP
    rw [aRule_1, if_neg (by omega), if_neg (by omega), if_pos (by omega)]
  have new5 : rP (aRule A n k (zn jf) lo hi (zn jt) (zn a)) n 5 = zn a := by
    unfold rP
    rw [aRule_1, if_neg (by omega), if_pos (by omega)]
  have oldR : ∀ a' i, 17 ≤ a' → i < n → (rRule R n k (zn jf) lo hi (zn jt) (zn a)).1 a' i = R.1 a' i := fun a' i q1 q2 => by
    rw [rRule_1, if_neg (by omega), if_neg (by omega), if_neg (by omega), if_neg (by omega), if_neg (by omega), if_neg (by omega), if_neg (by omega)]
  refine Rel_ad H hA hR rfl ⟨⟨?_, by rw [enr]; omega⟩, ⟨n3, n4⟩, fun i hi => ?_, z2⟩ ⟨⟨?_, g2, g3⟩, fun i hi => ?_, fun i hic => ?_⟩
  · rw [enr]; rfl
  · rw [enr] at hi
    rcases Nat.lt_or_eq_of_le (Nat.le_of_lt_succ hi) with q | q
    · rw [old i 1 q (by decide), old i 4 q (by decide)]
      exact z1 i (hn ▸ q)
    · rw [q, new1, new4, zn_ix (by omega), zn_ix (by omega)]
      exact ⟨⟨rfl, hf⟩, rfl, ht⟩
  · rw [enr]; rfl
  · rw [enr] at hi
    rcases Nat.lt_or_eq_of_le (Nat.le_of_lt_succ hi) with q | q
    · rw [old i 0 q (by decide), old i 1 q (by decide), old i 2 q (by decide), old i 3 q (by decide), old i 4 q (by decide), old i 5 q (by decide), oldR 17 i (by decide) q, oldR 18 i (by decide) q, oldR 19 i (by decide) q, oldR 20 i (by decide) q, oldR 21 i (by decide) q, oldR 22 i (by decide) q]
      exact g4 i (hn ▸ q)
    · rw [q, new0, new1, new2, new3, new4, new5]
      refine ⟨⟨?_, ?_, ?_, ?_, ?_, ?_⟩, a, rfl, by rw [zn_ix (by omega)]; exact h1, by rw [zn_ix (by omega)]; exact h2⟩
      · rw [rRule_1, if_neg (by omega), if_neg (by omega), if_neg (by omega), if_neg (by omega), if_neg (by omega), if_neg (by omega), if_pos (by omega)]
      · rw [rRule_1, if_neg (by omega), if_neg (by omega), if_neg (by omega), if_neg (by omega), if_neg (by omega), if_pos (by omega)]
      · rw [rRule_1, if_neg (by omega), if_neg (by omega), if_neg (by omega), if_neg (by omega), if_pos (by omega)]
      · rw [rRule_1, if_neg (by omega), if_neg (by omega), if_neg (by omega), if_pos (by omega)]
      · rw [rRule_1, if_neg (by omega), if_neg (by omega), if_pos (by omega)]
      · rw [rRule_1, if_neg (by omega), if_pos (by omega)]
  · have e : ∀ j, cP (aRule A n k (zn jf) lo hi (zn jt) (zn a)) i j = cP A i j := fun j => by
      unfold cP
      rw [aRule_1, if_neg (by omega), if_neg (by omega), if_neg (by omega), if_neg (by omega), if_neg (by omega), if_neg (by omega), if_neg (by omega)]
    rw [e, e, e]
    have eR : ∀ a', 23 ≤ a' → (rRule R n k (zn jf) lo hi (zn jt) (zn a)).1 a' i = R.1 a' i := fun a' q1 => by
      rw [rRule_1, if_neg (by omega), if_neg (by omega), if_neg (by omega), if_neg (by omega), if_neg (by omega), if_neg (by omega), if_neg (by omega)]
    rw [eR 23 (by decide), eR 24 (by decide), eR 25 (by decide)]
    exact g5 i hic
/-! checks -/
def aChk (A : zzMd) (n : Nat) (k f m : Int32) : zzMd := zz_sI (zz_sI (zz_sI (zz_sI A 19 (n * 3) k) 19 (n * 3 + 1) f) 19 (n * 3 + 2) m) 2 4 (zn (n + 1))
def rChk (R : zzMd) (n : Nat) (k f m : Int32) : zzMd := zz_sI (zz_sI (zz_sI (zz_sI R 23 n k) 24 n f) 25 n m) 0 26 (zn (n + 1))
theorem aChk_1 (A : zzMd) (n : Nat) (k f m : Int32) (a b : Nat) : (aChk A n k f m).1 a b = if a = 2 ∧ b = 4 then zn (n + 1) else if a = 19 ∧ b = n * 3 + 2 then m else if a = 19 ∧ b = n * 3 + 1 then f else if a = 19 ∧ b = n * 3 then k else A.1 a b := rfl
theorem rChk_1 (R : zzMd) (n : Nat) (k f m : Int32) (a b : Nat) : (rChk R n k f m).1 a b = if a = 0 ∧ b = 26 then zn (n + 1) else if a = 25 ∧ b = n then m else if a = 24 ∧ b = n then f else if a = 23 ∧ b = n then k else R.1 a b := rfl
theorem Rel_chk (H : Rel A R) {n jf : Nat} (hn : n = nc A) (hn8 : n < 8) (hf : jf < 11) (k m : Int32) : Rel (aChk A n k (zn jf) m) (rChk R n k (zn jf) m) := by
  obtain ⟨⟨n1, n2⟩, ⟨n3, n4⟩, z1, z2⟩ := H.1.1.2.2.1
  obtain ⟨⟨g1, g2, g3⟩, g4, g5⟩ := H.1.2.2.2.2.1
  have hA : ∀ a' b, a' ≠ 2 → a' ≠ 18 → a' ≠ 19 → (aChk A n k (zn jf) m).1 a' b = A.1 a' b := fun a' b q1 _ q2 => by
    rw [aChk_1, if_neg (fun z => q1 z.1), if_neg (fun z => q2 z.1), if_neg (fun z => q2 z.1), if_neg (fun z => q2 z.1)]
  have hR : ∀ a' b, a' ≠ 0 ∨ b ≠ 19 ∧ b ≠ 26 → a' < 17 ∨ 25 < a' → (rChk R n k (zn jf) m).1 a' b = R.1 a' b := fun a' b q1 q2 => by
    rw [rChk_1, if_neg (by omega), if_neg (by omega), if_neg (by omega), if_neg (by omega)]
  have enc : nc (aChk A n k (zn jf) m) = n + 1 := by
    show zz_ix (zn (n + 1)) = n + 1
    exact zn_ix (by omega)
  have oldC : ∀ i j, i < n → j < 3 → cP (aChk A n k (zn jf) m) i j = cP A i j := fun i j hi hj => by
    unfold cP
    rw [aChk_1, if_neg (by omega), if_neg (by omega), if_neg (by omega), if_neg (by omega)]
  have new0 : cP (aChk A n k (zn jf) m) n 0 = k := by
    unfold cP
    rw [aChk_1, if_neg (by omega), if_neg (by omega), if_neg (by omega), if_pos (by omega)]
  have new1 : cP (aChk A n k (zn jf) m) n 1 = zn jf := by
    unfold cP
    rw [aChk_1, if_neg (by omega), if_neg (by omega), if_pos (by omega)]
  have new2 : cP (aChk A n k (zn jf) m) n 2 = m := by
    unfold cP
    rw [aChk_1, if_neg (by omega), if_pos (by omega)]
  have oldP : ∀ i j, rP (aChk A n k (zn jf) m) i j = rP A i j := fun i j => by
    unfold rP
    rw [aChk_1, if_neg (by omega), if_neg (by omega), if_neg (by omega), if_neg (by omega)]
  have oldR : ∀ a' i, 17 ≤ a' → a' < 23 ∨ i < n → (rChk R n k (zn jf) m).1 a' i = R.1 a' i := fun a' i q1 q2 => by
    rw [rChk_1, if_neg (by omega), if_neg (by omega), if_neg (by omega), if_neg (by omega)]
  refine Rel_ad H hA hR rfl ⟨⟨n1, n2⟩, ⟨?_, by rw [enc]; omega⟩, fun i hi => ?_, fun i hi => ?_⟩ ⟨⟨g1, ?_, g3⟩, fun i hi => ?_, fun i hi => ?_⟩
  · rw [enc]; rfl
  · rw [oldP, oldP]
    exact z1 i hi
  · rw [enc] at hi
    rcases Nat.lt_or_eq_of_le (Nat.le_of_lt_succ hi) with q | q
    · rw [oldC i 1 q (by decide)]
      exact z2 i (hn ▸ q)
    · rw [q, new1, zn_ix (by omega)]
      exact ⟨rfl, hf⟩
  · rw [enc]; rfl
  · rw [oldP, oldP, oldP, oldP, oldP, oldP, oldR 17 i (by decide) (Or.inl (by decide)), oldR 18 i (by decide) (Or.inl (by decide)), oldR 19 i (by decide) (Or.inl (by decide)), oldR 20 i (by decide) (Or.inl (by decide)), oldR 21 i (by decide) (Or.inl (by decide)), oldR 22 i (by decide) (Or.inl (by decide))]
    exact g4 i hi
  · rw [enc] at hi
    rcases Nat.lt_or_eq_of_le (Nat.le_of_lt_succ hi) with q | q
    · rw [oldC i 0 q (by decide), oldC i 1 q (by decide), oldC i 2 q (by decide), oldR 23 i (by decide) (Or.inr q), oldR 24 i (by decide) (Or.inr q), oldR 25 i (by decide) (Or.inr q)]
      exact g5 i (hn ▸ q)
    · rw [q, new0, new1, new2]
      refine ⟨?_, ?_, ?_⟩
      · rw [rChk_1, if_neg (by omega), if_neg (by omega), if_neg (by omega), if_pos (by omega)]
      · rw [rChk_1, if_neg (by omega), if_neg (by omega), if_pos (by omega)]
      · rw [rChk_1, if_neg (by omega), if_pos (by omega)]
def aNul (A : zzMd) : zzMd := zz_sI (zz_sI A 2 3 0) 2 4 0
def rNul (R : zzMd) : zzMd := zz_sI (zz_sI R 0 19 0) 0 26 0
theorem Rel_clr (H : Rel A R) : Rel (aNul A) (rNul R) := by
  obtain ⟨⟨g1, g2, g3⟩, g4, g5⟩ := H.1.2.2.2.2.1
  refine Rel_ad H (fun a b q1 _ _ => (sI_a q1).trans (sI_a q1)) (fun a b q1 _ => ?_) rfl ⟨⟨rfl, Nat.zero_le _⟩, ⟨rfl, Nat.zero_le _⟩, fun i hi => ?_, fun i hi => ?_⟩ ⟨⟨rfl, rfl, g3⟩, fun i hi => ?_, fun i hi => ?_⟩
  · show (if a = 0 ∧ b = 26 then (0 : Int32) else if a = 0 ∧ b = 19 then 0 else R.1 a b) = R.1 a b
    rw [if_neg (by omega), if_neg (by omega)]
  · exact absurd (show i < 0 from hi) (Nat.not_lt_zero i)
  · exact absurd (show i < 0 from hi) (Nat.not_lt_zero i)
  · exact absurd (show i < 0 from hi) (Nat.not_lt_zero i)
  · exact absurd (show i < 0 from hi) (Nat.not_lt_zero i)
end
end

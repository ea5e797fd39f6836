section
/-! the reference at the start -/
def zR0 : zzMd := (fun a b => if a = 0 then (if b = 30 then 30 else 0) else if a = 1 then (if b < 17 then zn (pL b) else 0) else if a = 2 then (if b < 17 then zn (wL b) else 0) else if a = 3 then (if b < 11 then zn (leastF b) else 0) else if a = 4 then (if b < 11 then zn (mostF b) else 0) else if a = 5 then ([127, 3, 2, 1027, 896, 2] : List Int32).getD b 0 else if a = 12 ∨ a = 13 then fil 60 b else 0, fun _ _ => 0)
def flF (g : Nat → Int32) (i : Nat) : Nat → Int32 := fun b => if b < i then g b else 0
theorem zR0_z {i : Nat} (h : 5 < i ∧ i ≠ 12 ∧ i ≠ 13) : zR0.1 i = fun _ => 0 := by
  obtain ⟨h1, h2, h3⟩ := h
  funext b
  show (if i = 0 then (if b = 30 then 30 else 0) else if i = 1 then (if b < 17 then zn (pL b) else 0) else if i = 2 then (if b < 17 then zn (wL b) else 0) else if i = 3 then (if b < 11 then zn (leastF b) else 0) else if i = 4 then (if b < 11 then zn (mostF b) else 0) else if i = 5 then ([127, 3, 2, 1027, 896, 2] : List Int32).getD b 0 else if i = 12 ∨ i = 13 then fil 60 b else 0) = 0
  rw [if_neg (by omega), if_neg (by omega), if_neg (by omega), if_neg (by omega), if_neg (by omega), if_neg (by omega), if_neg (by omega)]
theorem zR0_0 : zR0.1 0 = fun b => if b = 30 then 30 else 0 := by
  funext b
  show (if 0 = 0 then (if b = 30 then 30 else 0) else if 0 = 1 then (if b < 17 then zn (pL b) else 0) else if 0 = 2 then (if b < 17 then zn (wL b) else 0) else if 0 = 3 then (if b < 11 then zn (leastF b) else 0) else if 0 = 4 then (if b < 11 then zn (mostF b) else 0) else if 0 = 5 then ([127, 3, 2, 1027, 896, 2] : List Int32).getD b 0 else if 0 = 12 ∨ 0 = 13 then fil 60 b else 0) = _
  rw [if_pos (by decide)]
theorem zR0_1 : zR0.1 1 = flF (fun b => zn (pL b)) 17 := by
  funext b
  show (if 1 = 0 then (if b = 30 then 30 else 0) else if 1 = 1 then (if b < 17 then zn (pL b) else 0) else if 1 = 2 then (if b < 17 then zn (wL b) else 0) else if 1 = 3 then (if b < 11 then zn (leastF b) else 0) else if 1 = 4 then (if b < 11 then zn (mostF b) else 0) else if 1 = 5 then ([127, 3, 2, 1027, 896, 2] : List Int32).getD b 0 else if 1 = 12 ∨ 1 = 13 then fil 60 b else 0) = _
  rw [if_neg (by decide), if_pos (by decide)]
  rfl
theorem zR0_2 : zR0.1 2 = flF (fun b => zn (wL b)) 17 := by
  funext b
  show (if 2 = 0 then (if b = 30 then 30 else 0) else if 2 = 1 then (if b < 17 then zn (pL b) else 0) else if 2 = 2 then (if b < 17 then zn (wL b) else 0) else if 2 = 3 then (if b < 11 then zn (leastF b) else 0) else if 2 = 4 then (if b < 11 then zn (mostF b) else 0) else if 2 = 5 then ([127, 3, 2, 1027, 896, 2] : List Int32).getD b 0 else if 2 = 12 ∨ 2 = 13 then fil 60 b else 0) = _
  rw [if_neg (by decide), if_neg (by decide), if_pos (by decide)]
  rfl
theorem zR0_3 : zR0.1 3 = flF (fun b => zn (leastF b)) 11 := by
  funext b
  show (if 3 = 0 then (if b = 30 then 30 else 0) else if 3 = 1 then (if b < 17 then zn (pL b) else 0) else if 3 = 2 then (if b < 17 then zn (wL b) else 0) else if 3 = 3 then (if b < 11 then zn (leastF b) else 0) else if 3 = 4 then (if b < 11 then zn (mostF b) else 0) else if 3 = 5 then ([127, 3, 2, 1027, 896, 2] : List Int32).getD b 0 else if 3 = 12 ∨ 3 = 13 then fil 60 b else 0) = _
  rw [if_neg (by decide), if_neg (by decide), if_neg (by decide), if_pos (by decide)]
  rfl
theorem zR0_4 : zR0.1 4 = flF (fun b => zn (mostF b)) 11 := by
  funext b
  show (if 4 = 0 then (if b = 30 then 30 else 0) else if 4 = 1 then (if b < 17 then zn (pL b) else 0) else if 4 = 2 then (if b < 17 then zn (wL b) else 0) else if 4 = 3 then (if b < 11 then zn (leastF b) else 0) else if 4 = 4 then (if b < 11 then zn (mostF b) else 0) else if 4 = 5 then ([127, 3, 2, 1027, 896, 2] : List Int32).getD b 0 else if 4 = 12 ∨ 4 = 13 then fil 60 b else 0) = _
  rw [if_neg (by decide), if_neg (by decide), if_neg (by decide), if_neg (by decide), if_pos (by decide)]
  rfl
theorem zR0_5 : zR0.1 5 = fun b => ([127, 3, 2, 1027, 896, 2] : List Int32).getD b 0 := by
  funext b
  show (if 5 = 0 then (if b = 30 then 30 else 0) else if 5 = 1 then (if b < 17 then zn (pL b) else 0) else if 5 = 2 then (if b < 17 then zn (wL b) else 0) else if 5 = 3 then (if b < 11 then zn (leastF b) else 0) else if 5 = 4 then (if b < 11 then zn (mostF b) else 0) else if 5 = 5 then ([127, 3, 2, 1027, 896, 2] : List Int32).getD b 0 else if 5 = 12 ∨ 5 = 13 then fil 60 b else 0) = _
  rw [if_neg (by decide), if_neg (by decide), if_neg (by decide), if_neg (by decide), if_neg (by decide), if_pos (by decide)]
theorem zR0_12 : zR0.1 12 = fil 60 := by
  funext b
  show (if 12 = 0 then (if b = 30 then 30 else 0) else if 12 = 1 then (if b < 17 then zn (pL b) else 0) else if 12 = 2 then (if b < 17 then zn (wL b) else 0) else if 12 = 3 then (if b < 11 then zn (leastF b) else 0) else if 12 = 4 then (if b < 11 then zn (mostF b) else 0) else if 12 = 5 then ([127, 3, 2, 1027, 896, 2] : List Int32).getD b 0 else if 12 = 12 ∨ 12 = 13 then fil 60 b else 0) = _
  rw [if_neg (by decide), if_neg (by decide), if_neg (by decide), if_neg (by decide), if_neg (by decide), if_neg (by decide), if_pos (by decide)]
theorem zR0_13 : zR0.1 13 = fil 60 := by
  funext b
  show (if 13 = 0 then (if b = 30 then 30 else 0) else if 13 = 1 then (if b < 17 then zn (pL b) else 0) else if 13 = 2 then (if b < 17 then zn (wL b) else 0) else if 13 = 3 then (if b < 11 then zn (leastF b) else 0) else if 13 = 4 then (if b < 11 then zn (mostF b) else 0) else if 13 = 5 then ([127, 3, 2, 1027, 896, 2] : List Int32).getD b 0 else if 13 = 12 ∨ 13 = 13 then fil 60 b else 0) = _
  rw [if_neg (by decide), if_neg (by decide), if_neg (by decide), if_neg (by decide), if_neg (by decide), if_neg (by decide), if_pos (by decide)]
end
section
/-! at the start both memories say the same -/
theorem zM0_0 {a b : Nat} (h : a ≠ 14 ∧ a ≠ 13 ∧ a ≠ 72 ∧ ¬ (a = 2 ∧ b = 5) ∧ ¬ (3 ≤ a ∧ a ≤ 10 ∧ b = 5)) : zM0.1 a b = 0 := by
  obtain ⟨h1, h2, h3, h4, h5⟩ := h
  show (if a = 14 then logI b else if a = 13 ∨ a = 72 then fil 60 b else if a = 2 ∧ b = 5 then 30 else if 3 ≤ a ∧ a ≤ 10 ∧ b = 5 then okd (a - 3) else 0) = 0
  rw [if_neg h1, if_neg (by omega), if_neg h4, if_neg h5]
theorem z0_n {x : Int32} (h : x = 0) : x = zn (zz_ix x) ∧ zz_ix x = 0 := by subst h; exact ⟨rfl, rfl⟩
theorem zM0_ve {v : Nat} (h : v ≠ 14 ∧ v ≠ 13 ∧ v ≠ 72) : (zM0.1 v 3 = zn (ve zM0 v) ∧ ve zM0 v = 0) ∧ (zM0.1 v 2 = zn (nv zM0 v) ∧ nv zM0 v = 0) :=
  ⟨z0_n (zM0_0 ⟨h.1, h.2.1, h.2.2, by omega, by omega⟩), z0_n (zM0_0 ⟨h.1, h.2.1, h.2.2, by omega, by omega⟩)⟩
theorem zM0_q {c : Nat} (hc : c < 8) : zM0.1 (3 + c) 11 = zn (qn zM0 c) ∧ qn zM0 c = 0 := z0_n (zM0_0 ⟨by omega, by omega, by omega, by omega, by omega⟩)
theorem zM0_now : zM0.1 1 7 = zn (now zM0) ∧ now zM0 = 0 := z0_n (zM0_0 ⟨by omega, by omega, by omega, by omega, by omega⟩)
theorem zM0_nr : zM0.1 2 3 = zn (nr zM0) ∧ nr zM0 = 0 := z0_n (zM0_0 ⟨by omega, by omega, by omega, by omega, by omega⟩)
theorem zM0_nc : zM0.1 2 4 = zn (nc zM0) ∧ nc zM0 = 0 := z0_n (zM0_0 ⟨by omega, by omega, by omega, by omega, by omega⟩)
theorem zM0_IV {v l : Nat} (hv : v ≠ 14 ∧ v ≠ 13 ∧ v ≠ 72) (hl : l ≠ 14 ∧ l ≠ 13 ∧ l ≠ 72 ∧ l ≠ 2 ∧ (l < 3 ∨ 10 < l)) : zIV zM0 v l := by
  obtain ⟨⟨e1, e2⟩, e3, e4⟩ := zM0_ve hv
  refine ⟨fun o ho => ?_, ⟨e3, by omega⟩, e1, by omega⟩
  obtain ⟨a, b⟩ := z0_n (x := zM0.1 l o) (zM0_0 ⟨hl.1, hl.2.1, hl.2.2.1, by omega, by omega⟩)
  exact ⟨a, by omega⟩
theorem zM0_C : zIC zM0 := by
  obtain ⟨a1, a2⟩ := zM0_nr
  obtain ⟨b1, b2⟩ := zM0_nc
  refine ⟨zM0_IV (by decide) (by decide), ⟨⟨a1, by omega⟩, ⟨b1, by omega⟩, fun i hi => absurd hi (by omega), fun i hi => absurd hi (by omega)⟩, fun c hc => ⟨zM0_IV (by omega) (by omega), ⟨(zM0_q hc).1, ?_⟩, fun p hp => absurd hp ?_⟩⟩
  · rw [(zM0_q hc).2]; omega
  · rw [(zM0_q hc).2]; omega
theorem zR0_at0 {b : Nat} (h : b ≠ 30) : zR0.1 0 b = 0 := by rw [zR0_0]; exact if_neg h
theorem Rel_0 : Rel zM0 zR0 := by
  obtain ⟨⟨e1, e2⟩, e3, e4⟩ := zM0_ve (v := 1) (by decide)
  obtain ⟨n1, n2⟩ := zM0_now
  have zz : ∀ {i b : Nat}, 5 < i ∧ i ≠ 12 ∧ i ≠ 13 → zR0.1 i b = 0 := fun h => congrFun (zR0_z h) _
  refine ⟨⟨⟨⟨fun k hk => ⟨?_, ?_⟩, fun f hf => ⟨?_, ?_⟩, fun t _ => ?_⟩, zM0_C⟩, ⟨⟨?_, ?_⟩, fun k h1 h2 => absurd h2 (by omega), fun s hs => ?_, ⟨?_, fun o ho => ?_⟩, fun o ho => absurd ho (by omega)⟩, fun c hc => ⟨⟨⟨?_, ?_, ?_⟩, fun o ho => ⟨?_, ?_, ?_, fun h => absurd h ?_⟩⟩, ⟨?_, fun p hp => absurd hp ?_, fun p q hp => absurd hp ?_, fun o ho => ?_⟩⟩, fun o ho => ⟨?_, Or.inl ?_⟩,
    ⟨⟨?_, ?_, ?_, 30, by omega, rfl⟩, fun i hi => absurd hi ?_, fun i hi => absurd hi ?_⟩, ⟨n1, by omega, ?_⟩, ⟨0, by omega, zM0_0 ⟨by omega, by omega, by omega, by omega, by omega⟩, zR0_at0 (by decide)⟩, fun o ho => absurd ho (by omega), fun r hr => ⟨0, by omega, zM0_0 ⟨by omega, by omega, by omega, by omega, by omega⟩, zz (by decide)⟩, fun o ho => ⟨?_, Or.inl ?_⟩, ⟨?_, Or.inl ?_⟩, fun c hc => ?_⟩, fun o ho => absurd ho (by omega)⟩
  · rw [zR0_1]; exact if_pos hk
  · rw [zR0_2]; exact if_pos hk
  · rw [zR0_3]; exact if_pos hf
  · rw [zR0_4]; exact if_pos hf
  · rw [zR0_5]
  · rw [e2]; exact zR0_at0 (by decide)
  · rw [e4]; exact zR0_at0 (by decide)
  · show (if (0 * 32 + s) = 25 then (4 : Int32) else if (0 * 32 + s) < 32 then -1 else 0) = if s = 25 then 4 else -1
    rw [Nat.zero_mul, Nat.zero_add, if_pos hs]
  · rw [e4, e2]; rfl
  · rw [e2]; exact zM0_0 ⟨by omega, by omega, by omega, by omega, by omega⟩
  · rw [(zM0_ve (v := 3 + c) (by omega)).1.2]; omega
  · rw [(zM0_ve (v := 3 + c) (by omega)).1.2]; exact zz (by decide)
  · rw [(zM0_ve (v := 3 + c) (by omega)).1.2, (zM0_ve (v := 3 + c) (by omega)).2.2]; rfl
  · rw [(zM0_ve (v := 3 + c) (by omega)).1.2]; exact zM0_0 ⟨by omega, by omega, by omega, by omega, by omega⟩
  · rw [(zM0_ve (v := 3 + c) (by omega)).2.2]; exact zz (by decide)
  · rw [(zM0_ve (v := 3 + c) (by omega)).1.2]; exact zz (by decide)
  · rw [(zM0_ve (v := 3 + c) (by omega)).2.2]; omega
  · rw [(zM0_q hc).2]; exact zz (by decide)
  · rw [(zM0_q hc).2]; omega
  · rw [(zM0_q hc).2]; omega
  · have hn : ¬ inQ zM0 c o := fun ⟨p, hp, _⟩ => absurd hp (by rw [(zM0_q hc).2]; omega)
    refine ⟨Or.inr ⟨zM0_0 ⟨by omega, by omega, by omega, by omega, by omega⟩, hn⟩, 0, 0, 0, ⟨zM0_0 ⟨by omega, by omega, by omega, by omega, by omega⟩, zz (by decide)⟩, zM0_0 ⟨by omega, by omega, by omega, by omega, by omega⟩, ⟨by omega, by omega⟩, ⟨zM0_0 ⟨by omega, by omega, by omega, by omega, by omega⟩, zz (by decide), by omega⟩, fun h => absurd h hn, fun _ => by omega⟩
  · rw [zR0_13]; rfl
  · exact if_pos ho
  · rw [zM0_nr.2]; exact zR0_at0 (by decide)
  · rw [zM0_nc.2]; exact zR0_at0 (by decide)
  · rw [zR0_0]; rfl
  · rw [zM0_nr.2]; omega
  · rw [zM0_nc.2]; omega
  · rw [n2]; exact zR0_at0 (by decide)
  · rw [zR0_12]; rfl
  · exact if_pos ho
  · rw [zR0_at0 (by decide)]; exact (zM0_0 ⟨by omega, by omega, by omega, by omega, by omega⟩).symm
  · exact zM0_0 ⟨by omega, by omega, by omega, by omega, by omega⟩
  · rcases zc8 hc with rfl | rfl | rfl | rfl | rfl | rfl | rfl | rfl <;> rfl
end

section
/-! the keys by controllers, in both -/
section
variable {A R : zzMd} {c : Nat}
theorem enq_m1 (A : zzMd) (c : Nat) : aEnq A c (-1) = A := by
  unfold aEnq
  rw [if_pos (show enqNo A c (-1) from Or.inl (by decide))]
theorem ct_refl (H : rAt A R c) : comeTo A A c R (some (.inl (some (.int 0)), R)) := ⟨R, by rw [dq_0], H, sameR_refl R⟩
/-- an owner as an event tells it: none, or an object that is seen -/
def wOk (A : zzMd) (c : Nat) (w : Int32) : Prop := w = -1 ∨ ∃ w', w = zn w' ∧ w' < nv A (3 + c)
theorem rd_m1 (A : zzMd) (v : Nat) (s : Int32) : rd A v (-1) s = -1 := if_pos (Or.inl (by decide))
theorem r_comesW (H : rAt A R c) {w : Int32} (hw : wOk A c w) (hn : ¬ w = -1) : ∃ R', fX12_comes [.ref 0, .int w] R = some (.inl (some (.int ((aEnq A c w).1 (3 + c) 11 - A.1 (3 + c) 11))), R') ∧ rAt (aEnq A c w) R' c ∧ sameR R R' := by
  obtain ⟨w', rfl, h⟩ := hw.resolve_left hn
  exact r_comes H (Nat.lt_of_lt_of_le h (rv_nv H))
theorem kind_w (H : rAt A R c) {w : Int32} (hw : wOk A c w) (hn : ¬ w = -1) : zz_inb w 60 = true ∧ R.1 6 (zz_ix w) = rd A (3 + c) w 23 ∧ fX12_isSeen [.ref 0, .int w] R = some (.inl (some (.int 1)), R) ∧ fX12_view [.ref 0, .int w] R = some (.inl (some (.long (R.2 28 (60 * c + zz_ix w)))), R) ∧
    fX12_ownerIn [.ref 0, .long (R.2 28 (60 * c + zz_ix w))] R = some (.inl (some (.int (rd A (3 + c) w 24))), R) ∧ wOk A c (rd A (3 + c) w 24) := by
  obtain ⟨w', rfl, h⟩ := hw.resolve_left hn
  have h60 := Nat.lt_of_lt_of_le h (rv_n60 H)
  obtain ⟨b1, x1⟩ := kinds_o w' h60
  have hs := r_isSeen H h60
  rw [decide_eq_true h] at hs
  rw [x1]
  obtain ⟨-, -, g, g22, g23⟩ := rv_row H h
  refine ⟨b1, g23.symm, hs, r_view H h60, r_ownerV H h, ?_⟩
  rcases g.2.2.1 with e | ⟨u, e, hu⟩
  · exact Or.inl e
  · have hu' : u < zz_ix (rd A (3 + c) (zn w') 22) := hu
    rw [g22, x1] at hu'
    exact Or.inr ⟨u, e, by omega⟩
theorem r_comesIf (H : rAt A R c) {w : Int32} (hw : wOk A c w) (k : Int32) (hk : ¬ k = -1) : comeTo A (bif decide (rd A (3 + c) w 23 = k) then aEnq A c w else A) c R (fX12_comesIf [.ref 0, .int w, .int k] R) := by
  rw [s_X12_comesIf]
  by_cases h : w = -1
  · rw [h, rd_m1, decide_eq_false (fun e => hk e.symm), cond_false]
    have e : zz_ev tX12_comesIf 0 [some (.ref 0), some (.int (-1)), some (.int k)] [] R = some (.inl (some (.int 0)), R) := by
      (simp only [e_X12_comesIf, zo_iload, zo_lload, zo_aload, zo_istore, zo_lstore, zo_astore, zo_iinc, zo_pushI, zo_pushL, zo_null, zo_ii, zo_iid, zo_ll, zo_li, zo_lcmp, zo_i2l, zo_l2i, zo_dup, zo_dup2, zo_pop, zo_goto, zo_if, zo_icmp, zo_ifnull, zo_gets, zo_mm, zo_throw, zo_ret, zo_aret, zo_lret, q_iret_f, q_iret_1, q_iret_0, q_iret_b, q_c8_0, q_c8_1, q_c8_2, q_c8_3, q_c8_4, q_set_0, q_set_1i, q_set_1r, q_set_1n, q_set_1N, q_set_s, q_set_1j, q_bk_v, q_bk_n, q_if, zb_ite, cond_true, cond_false, List.getElem?_cons_zero, List.getElem?_cons_succ, Nat.reduceAdd, q_set_1l, q_set2_0, q_set2_1i, q_set2_1r, q_set2_1n, q_set2_s, if_true, if_false, zb_eq0, zb_eq1, zn_1, not_true_eq_false, not_false_eq_true, ite_true, ite_false, if_true, if_false, q_iret_0, q_iret_1, decide_true, decide_false, decide_not, zb_t, zb_f, z10, z01, cond_true, cond_false, Bool.and_true, Bool.true_and, Bool.and_false, Bool.false_and, Bool.not_true, Bool.not_false, true_and, and_true, false_and, and_false, true_or, or_true, false_or, or_false, Bool.true_eq_false, Bool.false_eq_true, eq_self, reduceCtorEq, Bool.or_true, Bool.true_or, Bool.or_false, Bool.false_or])
    rw [e]
    exact ct_refl H
  · obtain ⟨b1, k6, -⟩ := kind_w H hw h
    by_cases d : rd A (3 + c) w 23 = k
    · rw [decide_eq_true d, cond_true]
      obtain ⟨R', e1, e2, e3⟩ := r_comesW H hw h
      refine ⟨R', ?_, e2, e3⟩
      (simp only [e_X12_comesIf, zo_iload, zo_lload, zo_aload, zo_istore, zo_lstore, zo_astore, zo_iinc, zo_pushI, zo_pushL, zo_null, zo_ii, zo_iid, zo_ll, zo_li, zo_lcmp, zo_i2l, zo_l2i, zo_dup, zo_dup2, zo_pop, zo_goto, zo_if, zo_icmp, zo_ifnull, zo_gets, zo_mm, zo_throw, zo_ret, zo_aret, zo_lret, q_iret_f, q_iret_1, q_iret_0, q_iret_b, q_c8_0, q_c8_1, q_c8_2, q_c8_3, q_c8_4, q_set_0, q_set_1i, q_set_1r, q_set_1n, q_set_1N, q_set_s, q_set_1j, q_bk_v, q_bk_n, q_if, zb_ite, cond_true, cond_false, List.getElem?_cons_zero, List.getElem?_cons_succ, Nat.reduceAdd, q_set_1l, q_set2_0, q_set2_1i, q_set2_1r, q_set2_1n, q_set2_s, h, b1, q_aR, k6, d, e1, if_true, if_false, zb_eq0, zb_eq1, zn_1, not_true_eq_false, not_false_eq_true, ite_true, ite_false, if_true, if_false, q_iret_0, q_iret_1, decide_true, decide_false, decide_not, zb_t, zb_f, z10, z01, cond_true, cond_false, Bool.and_true, Bool.true_and, Bool.and_false, Bool.false_and, Bool.not_true, Bool.not_false, true_and, and_true, false_and, and_false, true_or, or_true, false_or, or_false, Bool.true_eq_false, Bool.false_eq_true, eq_self, reduceCtorEq, Bool.or_true, Bool.true_or, Bool.or_false, Bool.false_or])
    · rw [decide_eq_false d, cond_false]
      have e : zz_ev tX12_comesIf 0 [some (.ref 0), some (.int w), some (.int k)] [] R = some (.inl (some (.int 0)), R) := by
        (simp only [e_X12_comesIf, zo_iload, zo_lload, zo_aload, zo_istore, zo_lstore, zo_astore, zo_iinc, zo_pushI, zo_pushL, zo_null, zo_ii, zo_iid, zo_ll, zo_li, zo_lcmp, zo_i2l, zo_l2i, zo_dup, zo_dup2, zo_pop, zo_goto, zo_if, zo_icmp, zo_ifnull, zo_gets, zo_mm, zo_throw, zo_ret, zo_aret, zo_lret, q_iret_f, q_iret_1, q_iret_0, q_iret_b, q_c8_0, q_c8_1, q_c8_2, q_c8_3, q_c8_4, q_set_0, q_set_1i, q_set_1r, q_set_1n, q_set_1N, q_set_s, q_set_1j, q_bk_v, q_bk_n, q_if, zb_ite, cond_true, cond_false, List.getElem?_cons_zero, List.getElem?_cons_succ, Nat.reduceAdd, q_set_1l, q_set2_0, q_set2_1i, q_set2_1r, q_set2_1n, q_set2_s, h, b1, q_aR, k6, d, if_true, if_false, zb_eq0, zb_eq1, zn_1, not_true_eq_false, not_false_eq_true, ite_true, ite_false, if_true, if_false, q_iret_0, q_iret_1, decide_true, decide_false, decide_not, zb_t, zb_f, z10, z01, cond_true, cond_false, Bool.and_true, Bool.true_and, Bool.and_false, Bool.false_and, Bool.not_true, Bool.not_false, true_and, and_true, false_and, and_false, true_or, or_true, false_or, or_false, Bool.true_eq_false, Bool.false_eq_true, eq_self, reduceCtorEq, Bool.or_true, Bool.true_or, Bool.or_false, Bool.false_or])
      rw [e]
      exact ct_refl H
theorem r_ownersOwner (H : rAt A R c) {w : Int32} (hw : wOk A c w) : fX12_ownersOwner [.ref 0, .int w] R = some (.inl (some (.int (bif decide (rd A (3 + c) w 23 = 1) then rd A (3 + c) w 24 else -1))), R) ∧ wOk A c (bif decide (rd A (3 + c) w 23 = 1) then rd A (3 + c) w 24 else -1) := by
  rw [s_X12_ownersOwner]
  by_cases h : w = -1
  · rw [h, rd_m1]
    refine ⟨?_, Or.inl rfl⟩
    have n1 : ((-1 : Int32) = 1) = False := eq_false (by decide)
    (simp only [e_X12_ownersOwner, zo_iload, zo_lload, zo_aload, zo_istore, zo_lstore, zo_astore, zo_iinc, zo_pushI, zo_pushL, zo_null, zo_ii, zo_iid, zo_ll, zo_li, zo_lcmp, zo_i2l, zo_l2i, zo_dup, zo_dup2, zo_pop, zo_goto, zo_if, zo_icmp, zo_ifnull, zo_gets, zo_mm, zo_throw, zo_ret, zo_aret, zo_lret, q_iret_f, q_iret_1, q_iret_0, q_iret_b, q_c8_0, q_c8_1, q_c8_2, q_c8_3, q_c8_4, q_set_0, q_set_1i, q_set_1r, q_set_1n, q_set_1N, q_set_s, q_set_1j, q_bk_v, q_bk_n, q_if, zb_ite, cond_true, cond_false, List.getElem?_cons_zero, List.getElem?_cons_succ, Nat.reduceAdd, q_set_1l, q_set2_0, q_set2_1i, q_set2_1r, q_set2_1n, q_set2_s, n1, if_true, if_false, zb_eq0, zb_eq1, zn_1, not_true_eq_false, not_false_eq_true, ite_true, ite_false, if_true, if_false, q_iret_0, q_iret_1, decide_true, decide_false, decide_not, zb_t, zb_f, z10, z01, cond_true, cond_false, Bool.and_true, Bool.true_and, Bool.and_false, Bool.false_and, Bool.not_true, Bool.not_false, true_and, and_true, false_and, and_false, true_or, or_true, false_or, or_false, Bool.true_eq_false, Bool.false_eq_true, eq_self, reduceCtorEq, Bool.or_true, Bool.true_or, Bool.or_false, Bool.false_or])
  · obtain ⟨b1, k6, k7, k8, k9, k10⟩ := kind_w H hw h
    by_cases d : rd A (3 + c) w 23 = 1
    · rw [decide_eq_true d, cond_true]
      refine ⟨?_, k10⟩
      (simp only [e_X12_ownersOwner, zo_iload, zo_lload, zo_aload, zo_istore, zo_lstore, zo_astore, zo_iinc, zo_pushI, zo_pushL, zo_null, zo_ii, zo_iid, zo_ll, zo_li, zo_lcmp, zo_i2l, zo_l2i, zo_dup, zo_dup2, zo_pop, zo_goto, zo_if, zo_icmp, zo_ifnull, zo_gets, zo_mm, zo_throw, zo_ret, zo_aret, zo_lret, q_iret_f, q_iret_1, q_iret_0, q_iret_b, q_c8_0, q_c8_1, q_c8_2, q_c8_3, q_c8_4, q_set_0, q_set_1i, q_set_1r, q_set_1n, q_set_1N, q_set_s, q_set_1j, q_bk_v, q_bk_n, q_if, zb_ite, cond_true, cond_false, List.getElem?_cons_zero, List.getElem?_cons_succ, Nat.reduceAdd, q_set_1l, q_set2_0, q_set2_1i, q_set2_1r, q_set2_1n, q_set2_s, h, b1, q_aR, k6, d, k7, k8, k9, if_true, if_false, zb_eq0, zb_eq1, zn_1, not_true_eq_false, not_false_eq_true, ite_true, ite_false, if_true, if_false, q_iret_0, q_iret_1, decide_true, decide_false, decide_not, zb_t, zb_f, z10, z01, cond_true, cond_false, Bool.and_true, Bool.true_and, Bool.and_false, Bool.false_and, Bool.not_true, Bool.not_false, true_and, and_true, false_and, and_false, true_or, or_true, false_or, or_false, Bool.true_eq_false, Bool.false_eq_true, eq_self, reduceCtorEq, Bool.or_true, Bool.true_or, Bool.or_false, Bool.false_or])
    · rw [decide_eq_false d, cond_false]
      refine ⟨?_, Or.inl rfl⟩
      (simp only [e_X12_ownersOwner, zo_iload, zo_lload, zo_aload, zo_istore, zo_lstore, zo_astore, zo_iinc, zo_pushI, zo_pushL, zo_null, zo_ii, zo_iid, zo_ll, zo_li, zo_lcmp, zo_i2l, zo_l2i, zo_dup, zo_dup2, zo_pop, zo_goto, zo_if, zo_icmp, zo_ifnull, zo_gets, zo_mm, zo_throw, zo_ret, zo_aret, zo_lret, q_iret_f, q_iret_1, q_iret_0, q_iret_b, q_c8_0, q_c8_1, q_c8_2, q_c8_3, q_c8_4, q_set_0, q_set_1i, q_set_1r, q_set_1n, q_set_1N, q_set_s, q_set_1j, q_bk_v, q_bk_n, q_if, zb_ite, cond_true, cond_false, List.getElem?_cons_zero, List.getElem?_cons_succ, Nat.reduceAdd, q_set_1l, q_set2_0, q_set2_1i, q_set2_1r, q_set2_1n, q_set2_s, h, b1, q_aR, k6, d, if_true, if_false, zb_eq0, zb_eq1, zn_1, not_true_eq_false, not_false_eq_true, ite_true, ite_false, if_true, if_false, q_iret_0, q_iret_1, decide_true, decide_false, decide_not, zb_t, zb_f, z10, z01, cond_true, cond_false, Bool.and_true, Bool.true_and, Bool.and_false, Bool.false_and, Bool.not_true, Bool.not_false, true_and, and_true, false_and, and_false, true_or, or_true, false_or, or_false, Bool.true_eq_false, Bool.false_eq_true, eq_self, reduceCtorEq, Bool.or_true, Bool.true_or, Bool.or_false, Bool.false_or])
/-- the controllers' numbers when keys come -/
theorem wOk_S {B : zzMd} (S : zSame c A B) {w : Int32} (hw : wOk A c w) : wOk B c w := hw.imp id fun ⟨w', h1, h2⟩ => ⟨w', h1, by rw [nv_S S]; exact h2⟩
theorem gP (H : rAt A R c) {i : Nat} (h60 : i < 60) : (¬ i < nv A (3 + c) → gone A (3 + c) (zn i) = true ∧ rd A (3 + c) (zn i) 23 = -1 ∧ rd A (3 + c) (zn i) 24 = -1) ∧
    (i < nv A (3 + c) → rd A (3 + c) (zn i) 23 = R.1 6 i ∧ (gone A (3 + c) (zn i) = true → rd A (3 + c) (zn i) 24 = -1 ∧ rd A (3 + c) (zn i) 28 = -1)) := by
  refine ⟨fun h => ⟨?_, rv_un H (s := 23) h60 (by decide) h, rv_un H (s := 24) h60 (by decide) h⟩, fun h => ?_⟩
  · have h2 : rd A (3 + c) (zn i) 25 = 4 := rv_un H (s := 25) h60 (by decide) h
    unfold gone
    rw [h2]; rfl
  · obtain ⟨-, -, g, -, g23⟩ := rv_row H h
    exact ⟨g23, fun hg => g.2.2.2.2.2.2.2.2 (of_decide_eq_true hg)⟩
theorem p1_inj (x y : Int32) : (x + 1 = y + 1) = (x = y) := propext (Int32.add_left_inj 1)
/-- the class's loop as long as the reference's -/
theorem eqs_nv {P : zzMd → Nat → Bool} (H : rAt A R c) (h : ∀ i D, i < nv A 1 → nv A (3 + c) ≤ i → zSame c A D → P D i = false) : eqs P c (nv A (3 + c)) A = eqs P c (nv A 1) A := by
  have key : ∀ n, nv A (3 + c) ≤ n → n ≤ nv A 1 → eqs P c n A = eqs P c (nv A (3 + c)) A := by
    intro n
    induction n with
    | zero => exact fun h1 _ => by rw [Nat.le_zero.mp h1]
    | succ n ih =>
      intro h1 h2
      rcases Nat.lt_or_eq_of_le h1 with h3 | h3
      · rw [eqs_s, h n _ (by omega) (by omega) (eqs_inv H.2.2 H.1.1.2 n).2]
        exact ih (by omega) (by omega)
      · rw [h3]
  exact (key _ (rv_nv H) (Nat.le_refl _)).symm
theorem un_S (H : rAt A R c) {i : Nat} {D : zzMd} (h60 : i < 60) (hn : nv A (3 + c) ≤ i) (S : zSame c A D) : gone D (3 + c) (zn i) = true ∧ rd D (3 + c) (zn i) 23 = -1 ∧ rd D (3 + c) (zn i) 24 = -1 := by
  have := (gP H h60).1 (by omega)
  unfold gone at this ⊢
  rw [rd_S' H.2.2 S]
  exact this
theorem r_all3 (H : rAt A R 5) {o : Nat} (ho : o < 60) : comeTo A (eqs (fun D i => decide (rd D 8 (zn i) 24 = zn o)) 5 (nv A 8) A) 5 R (fX12_comeAll [.ref 0, .int 3, .int (zn o)] R) := by
  rw [show nv A 8 = nv A (3 + 5) from rfl, eqs_nv H fun i D h1 h2 S => by
    have := (un_S H (lt_n60 H.1 h1) h2 S).2.2
    simp only [Nat.reduceAdd] at this
    rw [this]
    exact decide_eq_false fun e => (zn_m1 (k := o) (by omega)).mp e.symm]
  refine r_comeAll H 3 (by decide) (zn o) fun i D R' hi HD _ _ => ?_
  have h60 := lt_n60 H.1 hi
  show _ = bOwn D 8 i (zn o)
  unfold bOwn bIs
  obtain ⟨g1, g2⟩ := gP HD h60
  simp only [Nat.reduceAdd] at g1 g2
  cases hg : gone D 8 (zn i)
  · rfl
  · have e : rd D 8 (zn i) 24 = -1 := by
      by_cases q : i < nv D 8
      · exact ((g2 q).2 hg).1
      · exact (g1 q).2.2
    rw [e, decide_eq_false (fun z => (zn_m1 (k := o) (by omega)).mp z.symm)]
    rfl
theorem r_all1 (H : rAt A R 3) (x : Int32) : comeTo A (eqs (fun D i => wops D 6 (zn i)) 3 (nv A 6) A) 3 R (fX12_comeAll [.ref 0, .int 1, .int x] R) := by
  rw [show nv A 6 = nv A (3 + 3) from rfl, eqs_nv H fun i D h1 h2 S => by
    have := (un_S H (lt_n60 H.1 h1) h2 S).2.1
    simp only [Nat.reduceAdd] at this
    unfold wops stay
    rw [this]; rfl]
  refine r_comeAll H 1 (by decide) x fun i D R' hi HD _ _ => ?_
  have h60 := lt_n60 H.1 hi
  show _ = bFree D R' 6 i
  unfold bFree bPod bIs wops stay
  obtain ⟨g1, g2⟩ := gP HD h60
  simp only [Nat.reduceAdd] at g1 g2
  simp only [p1_eq]
  by_cases q : i < nv D 8 - nv D 8 + nv D 6
  · have q' : i < nv D 6 := by omega
    rw [(g2 q').1]
    unfold gone
    by_cases d : rd D 6 (zn i) 25 = 0
    · rw [d]; by_cases d2 : R'.1 6 i = 2 <;> simp [d2]
    · by_cases d2 : R'.1 6 i = 2 <;> simp [d, d2]
  · have q' : ¬ i < nv D 6 := by omega
    rw [(g1 q').1, (g1 q').2.1]
    rfl
theorem r_all2 (H : rAt A R 4) {o : Nat} (ho : o < 60) : comeTo A (eqs (fun D i => decide (rd D 7 (zn i) 23 = 2 ∧ rd D 7 (zn i) 28 = zn o)) 4 (nv A 7) A) 4 R (fX12_comeAll [.ref 0, .int 2, .int (zn o)] R) := by
  rw [show nv A 7 = nv A (3 + 4) from rfl, eqs_nv H fun i D h1 h2 S => by
    have := (un_S H (lt_n60 H.1 h1) h2 S).2.1
    simp only [Nat.reduceAdd] at this
    rw [this]; exact decide_eq_false fun z => absurd z.1 (by decide)]
  refine r_comeAll H 2 (by decide) (zn o) fun i D R' hi HD _ _ => ?_
  have h60 := lt_n60 H.1 hi
  show _ = bIts D R' 7 i (zn o)
  unfold bIts bPod bIs
  obtain ⟨g1, g2⟩ := gP HD h60
  simp only [Nat.reduceAdd] at g1 g2
  simp only [p1_inj]
  by_cases q : i < nv D 7
  · rw [(g2 q).1]
    cases hg : gone D 7 (zn i)
    · by_cases d2 : R'.1 6 i = 2 <;> simp [d2]
    · have e := ((g2 q).2 hg).2
      rw [e]
      have : ¬ (-1 : Int32) = zn o := fun z => (zn_m1 (k := o) (by omega)).mp z.symm
      simp [this]
  · rw [(g1 q).1, (g1 q).2.1]
    rfl
theorem r_all0 (H : rAt A R 6) (x : Int32) : comeTo A (eqs (fun D i => decide (rd D 9 (zn i) 23 = 5) && !gone D 9 (zn i)) 6 (nv A 9) A) 6 R (fX12_comeAll [.ref 0, .int 0, .int x] R) := by
  rw [show nv A 9 = nv A (3 + 6) from rfl, eqs_nv H fun i D h1 h2 S => by
    have := (un_S H (lt_n60 H.1 h1) h2 S).1
    simp only [Nat.reduceAdd] at this
    rw [this]; simp]
  refine r_comeAll H 0 (by decide) x fun i D R' hi HD _ _ => ?_
  have h60 := lt_n60 H.1 hi
  show _ = (bIs D 9 i && decide (R'.1 6 i = 5))
  unfold bIs
  obtain ⟨g1, g2⟩ := gP HD h60
  simp only [Nat.reduceAdd] at g1 g2
  by_cases q : i < nv D 9
  · rw [(g2 q).1, Bool.and_comm]
  · rw [(g1 q).1, (g1 q).2.1]
    rfl
/-- the keys besides the object's own -/
theorem r_keysTail (H : rAt A R c) (h5 : c ≠ 5) {o : Nat} (ho : o < nv A (3 + c)) {w : Int32} (hw : wOk A c w) (v : Int32) :
    ∃ R', zz_ev tX12_keys 62 [some (.ref 0), some (.int (zn o)), some (.int w), some (.int (rd A (3 + c) (zn o) 23)), some (.int v)] [] R = some (.inl (some (.int (v + ((aQO A c (zn o) w).1 (3 + c) 11 - A.1 (3 + c) 11)))), R') ∧ rAt (aQO A c (zn o) w) R' c ∧ sameR R R' := by
  have h := H.2.1
  have h60 := Nat.lt_of_lt_of_le ho (rv_n60 H)
  have n10 : ((1 : Int32) = 0) = False := eq_false (by decide)
  have n20 : ((2 : Int32) = 0) = False := eq_false (by decide)
  have n21 : ((2 : Int32) = 1) = False := eq_false (by decide)
  have n30 : ((3 : Int32) = 0) = False := eq_false (by decide)
  have n31 : ((3 : Int32) = 1) = False := eq_false (by decide)
  have n32 : ((3 : Int32) = 2) = False := eq_false (by decide)
  have n40 : ((4 : Int32) = 0) = False := eq_false (by decide)
  have n41 : ((4 : Int32) = 1) = False := eq_false (by decide)
  have n42 : ((4 : Int32) = 2) = False := eq_false (by decide)
  have n43 : ((4 : Int32) = 3) = False := eq_false (by decide)
  have n01 : ((0 : Int32) = 1) = False := eq_false (by decide)
  have n02 : ((0 : Int32) = 2) = False := eq_false (by decide)
  have n03 : ((0 : Int32) = 3) = False := eq_false (by decide)
  have n04 : ((0 : Int32) = 4) = False := eq_false (by decide)
  have n06 : ((0 : Int32) = 6) = False := eq_false (by decide)
  have n12 : ((1 : Int32) = 2) = False := eq_false (by decide)
  have n13 : ((1 : Int32) = 3) = False := eq_false (by decide)
  have n14 : ((1 : Int32) = 4) = False := eq_false (by decide)
  have n16 : ((1 : Int32) = 6) = False := eq_false (by decide)
  have n23 : ((2 : Int32) = 3) = False := eq_false (by decide)
  have n24 : ((2 : Int32) = 4) = False := eq_false (by decide)
  have n26 : ((2 : Int32) = 6) = False := eq_false (by decide)
  have n34 : ((3 : Int32) = 4) = False := eq_false (by decide)
  have n36 : ((3 : Int32) = 6) = False := eq_false (by decide)
  have n46 : ((4 : Int32) = 6) = False := eq_false (by decide)
  have n60 : ((6 : Int32) = 0) = False := eq_false (by decide)
  have n61 : ((6 : Int32) = 1) = False := eq_false (by decide)
  have n62 : ((6 : Int32) = 2) = False := eq_false (by decide)
  have n63 : ((6 : Int32) = 3) = False := eq_false (by decide)
  have n64 : ((6 : Int32) = 4) = False := eq_false (by decide)
  have n70 : ((7 : Int32) = 0) = False := eq_false (by decide)
  have n71 : ((7 : Int32) = 1) = False := eq_false (by decide)
  have n72 : ((7 : Int32) = 2) = False := eq_false (by decide)
  have n73 : ((7 : Int32) = 3) = False := eq_false (by decide)
  have n74 : ((7 : Int32) = 4) = False := eq_false (by decide)
  have n76 : ((7 : Int32) = 6) = False := eq_false (by decide)
  rcases zc8 H.2.2 with rfl | rfl | rfl | rfl | rfl | rfl | rfl | rfl
  · have e : R.1 0 42 = 0 := h
    rw [show aQO A 0 (zn o) w = aQ0 A (zn o) w from rfl]
    unfold aQ0
    by_cases d1 : rd A 3 (zn o) 23 = 1
    · have d2 : ¬ rd A 3 (zn o) 23 = 2 := by rw [d1]; decide
      have d3 : decide (rd A 3 (zn o) 23 = 2 ∧ rd A 3 w 23 = 1) = false := decide_eq_false fun z => d2 z.1
      rw [d3, decide_eq_true d1]
      simp only [cond_true, cond_false, Nat.reduceAdd]
      by_cases hn : w = -1
      · rw [hn, enq_m1, dq_0]
        refine ⟨R, ?_, H, sameR_refl R⟩
        (simp only [e_X12_keys, zo_iload, zo_lload, zo_aload, zo_istore, zo_lstore, zo_astore, zo_iinc, zo_pushI, zo_pushL, zo_null, zo_ii, zo_iid, zo_ll, zo_li, zo_lcmp, zo_i2l, zo_l2i, zo_dup, zo_dup2, zo_pop, zo_goto, zo_if, zo_icmp, zo_ifnull, zo_gets, zo_mm, zo_throw, zo_ret, zo_aret, zo_lret, q_iret_f, q_iret_1, q_iret_0, q_iret_b, q_c8_0, q_c8_1, q_c8_2, q_c8_3, q_c8_4, q_set_0, q_set_1i, q_set_1r, q_set_1n, q_set_1N, q_set_s, q_set_1j, q_bk_v, q_bk_n, q_if, zb_ite, cond_true, cond_false, List.getElem?_cons_zero, List.getElem?_cons_succ, Nat.reduceAdd, q_set_1l, q_set2_0, q_set2_1i, q_set2_1r, q_set2_1n, q_set2_s, e, d1, if_true, if_false, zb_eq0, zb_eq1, zn_1, not_true_eq_false, not_false_eq_true, ite_true, ite_false, if_true, if_false, q_iret_0, q_iret_1, decide_true, decide_false, decide_not, zb_t, zb_f, z10, z01, cond_true, cond_false, Bool.and_true, Bool.true_and, Bool.and_false, Bool.false_and, Bool.not_true, Bool.not_false, true_and, and_true, false_and, and_false, true_or, or_true, false_or, or_false, Bool.true_eq_false, Bool.false_eq_true, eq_self, reduceCtorEq, Bool.or_true, Bool.true_or, Bool.or_false, Bool.false_or])
      · obtain ⟨R', e1, e2, e3⟩ := r_comesW H hw hn
        refine ⟨R', ?_, e2, e3⟩
        (simp only [e_X12_keys, zo_iload, zo_lload, zo_aload, zo_istore, zo_lstore, zo_astore, zo_iinc, zo_pushI, zo_pushL, zo_null, zo_ii, zo_iid, zo_ll, zo_li, zo_lcmp, zo_i2l, zo_l2i, zo_dup, zo_dup2, zo_pop, zo_goto, zo_if, zo_icmp, zo_ifnull, zo_gets, zo_mm, zo_throw, zo_ret, zo_aret, zo_lret, q_iret_f, q_iret_1, q_iret_0, q_iret_b, q_c8_0, q_c8_1, q_c8_2, q_c8_3, q_c8_4, q_set_0, q_set_1i, q_set_1r, q_set_1n, q_set_1N, q_set_s, q_set_1j, q_bk_v, q_bk_n, q_if, zb_ite, cond_true, cond_false, List.getElem?_cons_zero, List.getElem?_cons_succ, Nat.reduceAdd, q_set_1l, q_set2_0, q_set2_1i, q_set2_1r, q_set2_1n, q_set2_s, e, d1, hn, e1, if_true, if_false, zb_eq0, zb_eq1, zn_1, not_true_eq_false, not_false_eq_true, ite_true, ite_false, if_true, if_false, q_iret_0, q_iret_1, decide_true, decide_false, decide_not, zb_t, zb_f, z10, z01, cond_true, cond_false, Bool.and_true, Bool.true_and, Bool.and_false, Bool.false_and, Bool.not_true, Bool.not_false, true_and, and_true, false_and, and_false, true_or, or_true, false_or, or_false, Bool.true_eq_false, Bool.false_eq_true, eq_self, reduceCtorEq, Bool.or_true, Bool.true_or, Bool.or_false, Bool.false_or])
    · rw [decide_eq_false d1]
      simp only [cond_false, Nat.reduceAdd]
      by_cases d2 : rd A 3 (zn o) 23 = 2
      · obtain ⟨f1, f2⟩ := r_ownersOwner H hw
        simp only [Nat.reduceAdd] at f1 f2
        by_cases d4 : rd A 3 w 23 = 1
        · rw [decide_eq_true (show rd A 3 (zn o) 23 = 2 ∧ rd A 3 w 23 = 1 from ⟨d2, d4⟩)]
          rw [decide_eq_true d4] at f1 f2
          simp only [cond_true] at f1 f2 ⊢
          by_cases hn : rd A 3 w 24 = -1
          · rw [hn, enq_m1, dq_0]
            refine ⟨R, ?_, H, sameR_refl R⟩
            (simp only [e_X12_keys, zo_iload, zo_lload, zo_aload, zo_istore, zo_lstore, zo_astore, zo_iinc, zo_pushI, zo_pushL, zo_null, zo_ii, zo_iid, zo_ll, zo_li, zo_lcmp, zo_i2l, zo_l2i, zo_dup, zo_dup2, zo_pop, zo_goto, zo_if, zo_icmp, zo_ifnull, zo_gets, zo_mm, zo_throw, zo_ret, zo_aret, zo_lret, q_iret_f, q_iret_1, q_iret_0, q_iret_b, q_c8_0, q_c8_1, q_c8_2, q_c8_3, q_c8_4, q_set_0, q_set_1i, q_set_1r, q_set_1n, q_set_1N, q_set_s, q_set_1j, q_bk_v, q_bk_n, q_if, zb_ite, cond_true, cond_false, List.getElem?_cons_zero, List.getElem?_cons_succ, Nat.reduceAdd, q_set_1l, q_set2_0, q_set2_1i, q_set2_1r, q_set2_1n, q_set2_s, e, d1, d2, n21, f1, hn, if_true, if_false, zb_eq0, zb_eq1, zn_1, not_true_eq_false, not_false_eq_true, ite_true, ite_false, if_true, if_false, q_iret_0, q_iret_1, decide_true, decide_false, decide_not, zb_t, zb_f, z10, z01, cond_true, cond_false, Bool.and_true, Bool.true_and, Bool.and_false, Bool.false_and, Bool.not_true, Bool.not_false, true_and, and_true, false_and, and_false, true_or, or_true, false_or, or_false, Bool.true_eq_false, Bool.false_eq_true, eq_self, reduceCtorEq, Bool.or_true, Bool.true_or, Bool.or_false, Bool.false_or])
          · obtain ⟨R', e1, e2, e3⟩ := r_comesW H f2 hn
            refine ⟨R', ?_, e2, e3⟩
            (simp only [e_X12_keys, zo_iload, zo_lload, zo_aload, zo_istore, zo_lstore, zo_astore, zo_iinc, zo_pushI, zo_pushL, zo_null, zo_ii, zo_iid, zo_ll, zo_li, zo_lcmp, zo_i2l, zo_l2i, zo_dup, zo_dup2, zo_pop, zo_goto, zo_if, zo_icmp, zo_ifnull, zo_gets, zo_mm, zo_throw, zo_ret, zo_aret, zo_lret, q_iret_f, q_iret_1, q_iret_0, q_iret_b, q_c8_0, q_c8_1, q_c8_2, q_c8_3, q_c8_4, q_set_0, q_set_1i, q_set_1r, q_set_1n, q_set_1N, q_set_s, q_set_1j, q_bk_v, q_bk_n, q_if, zb_ite, cond_true, cond_false, List.getElem?_cons_zero, List.getElem?_cons_succ, Nat.reduceAdd, q_set_1l, q_set2_0, q_set2_1i, q_set2_1r, q_set2_1n, q_set2_s, e, d1, d2, n21, f1, hn, e1, if_true, if_false, zb_eq0, zb_eq1, zn_1, not_true_eq_false, not_false_eq_true, ite_true, ite_false, if_true, if_false, q_iret_0, q_iret_1, decide_true, decide_false, decide_not, zb_t, zb_f, z10, z01, cond_true, cond_false, Bool.and_true, Bool.true_and, Bool.and_false, Bool.false_and, Bool.not_true, Bool.not_false, true_and, and_true, false_and, and_false, true_or, or_true, false_or, or_false, Bool.true_eq_false, Bool.false_eq_true, eq_self, reduceCtorEq, Bool.or_true, Bool.true_or, Bool.or_false, Bool.false_or])
        · rw [decide_eq_false (show ¬ (rd A 3 (zn o) 23 = 2 ∧ rd A 3 w 23 = 1) from fun z => d4 z.2)]
          rw [decide_eq_false d4] at f1 f2
          simp only [cond_false, dq_0] at f1 f2 ⊢
          refine ⟨R, ?_, H, sameR_refl R⟩
          (simp only [e_X12_keys, zo_iload, zo_lload, zo_aload, zo_istore, zo_lstore, zo_astore, zo_iinc, zo_pushI, zo_pushL, zo_null, zo_ii, zo_iid, zo_ll, zo_li, zo_lcmp, zo_i2l, zo_l2i, zo_dup, zo_dup2, zo_pop, zo_goto, zo_if, zo_icmp, zo_ifnull, zo_gets, zo_mm, zo_throw, zo_ret, zo_aret, zo_lret, q_iret_f, q_iret_1, q_iret_0, q_iret_b, q_c8_0, q_c8_1, q_c8_2, q_c8_3, q_c8_4, q_set_0, q_set_1i, q_set_1r, q_set_1n, q_set_1N, q_set_s, q_set_1j, q_bk_v, q_bk_n, q_if, zb_ite, cond_true, cond_false, List.getElem?_cons_zero, List.getElem?_cons_succ, Nat.reduceAdd, q_set_1l, q_set2_0, q_set2_1i, q_set2_1r, q_set2_1n, q_set2_s, e, d1, d2, n21, f1, if_true, if_false, zb_eq0, zb_eq1, zn_1, not_true_eq_false, not_false_eq_true, ite_true, ite_false, if_true, if_false, q_iret_0, q_iret_1, decide_true, decide_false, decide_not, zb_t, zb_f, z10, z01, cond_true, cond_false, Bool.and_true, Bool.true_and, Bool.and_false, Bool.false_and, Bool.not_true, Bool.not_false, true_and, and_true, false_and, and_false, true_or, or_true, false_or, or_false, Bool.true_eq_false, Bool.false_eq_true, eq_self, reduceCtorEq, Bool.or_true, Bool.true_or, Bool.or_false, Bool.false_or])
      · rw [decide_eq_false (show ¬ (rd A 3 (zn o) 23 = 2 ∧ rd A 3 w 23 = 1) from fun z => d2 z.1)]
        simp only [cond_false, dq_0]
        refine ⟨R, ?_, H, sameR_refl R⟩
        (simp only [e_X12_keys, zo_iload, zo_lload, zo_aload, zo_istore, zo_lstore, zo_astore, zo_iinc, zo_pushI, zo_pushL, zo_null, zo_ii, zo_iid, zo_ll, zo_li, zo_lcmp, zo_i2l, zo_l2i, zo_dup, zo_dup2, zo_pop, zo_goto, zo_if, zo_icmp, zo_ifnull, zo_gets, zo_mm, zo_throw, zo_ret, zo_aret, zo_lret, q_iret_f, q_iret_1, q_iret_0, q_iret_b, q_c8_0, q_c8_1, q_c8_2, q_c8_3, q_c8_4, q_set_0, q_set_1i, q_set_1r, q_set_1n, q_set_1N, q_set_s, q_set_1j, q_bk_v, q_bk_n, q_if, zb_ite, cond_true, cond_false, List.getElem?_cons_zero, List.getElem?_cons_succ, Nat.reduceAdd, q_set_1l, q_set2_0, q_set2_1i, q_set2_1r, q_set2_1n, q_set2_s, e, d1, d2, n01, n02, n03, n04, n06, Int32.add_zero, if_true, if_false, zb_eq0, zb_eq1, zn_1, not_true_eq_false, not_false_eq_true, ite_true, ite_false, if_true, if_false, q_iret_0, q_iret_1, decide_true, decide_false, decide_not, zb_t, zb_f, z10, z01, cond_true, cond_false, Bool.and_true, Bool.true_and, Bool.and_false, Bool.false_and, Bool.not_true, Bool.not_false, true_and, and_true, false_and, and_false, true_or, or_true, false_or, or_false, Bool.true_eq_false, Bool.false_eq_true, eq_self, reduceCtorEq, Bool.or_true, Bool.true_or, Bool.or_false, Bool.false_or])
  · have e : R.1 0 42 = 1 := h
    have hk : A.1 (3 + 1) 5 = 1 := okd_c H
    rw [show aQO A 1 (zn o) w = aQ1 A 1 (zn o) w from rfl]
    unfold aQ1
    rw [hk]
    by_cases d2 : rd A (3 + 1) (zn o) 23 = 2
    · obtain ⟨R', e1, e2, e3⟩ := r_comesIf H hw 1 (by decide)
      have ed : decide (rd A (3 + 1) (zn o) 23 = 2 ∧ rd A (3 + 1) w 23 = 1) = decide (rd A (3 + 1) w 23 = 1) := by simp [d2]
      rw [ed]
      refine ⟨R', ?_, e2, e3⟩
      (simp only [e_X12_keys, zo_iload, zo_lload, zo_aload, zo_istore, zo_lstore, zo_astore, zo_iinc, zo_pushI, zo_pushL, zo_null, zo_ii, zo_iid, zo_ll, zo_li, zo_lcmp, zo_i2l, zo_l2i, zo_dup, zo_dup2, zo_pop, zo_goto, zo_if, zo_icmp, zo_ifnull, zo_gets, zo_mm, zo_throw, zo_ret, zo_aret, zo_lret, q_iret_f, q_iret_1, q_iret_0, q_iret_b, q_c8_0, q_c8_1, q_c8_2, q_c8_3, q_c8_4, q_set_0, q_set_1i, q_set_1r, q_set_1n, q_set_1N, q_set_s, q_set_1j, q_bk_v, q_bk_n, q_if, zb_ite, cond_true, cond_false, List.getElem?_cons_zero, List.getElem?_cons_succ, Nat.reduceAdd, q_set_1l, q_set2_0, q_set2_1i, q_set2_1r, q_set2_1n, q_set2_s, e, n10, d2, e1, if_true, if_false, zb_eq0, zb_eq1, zn_1, not_true_eq_false, not_false_eq_true, ite_true, ite_false, if_true, if_false, q_iret_0, q_iret_1, decide_true, decide_false, decide_not, zb_t, zb_f, z10, z01, cond_true, cond_false, Bool.and_true, Bool.true_and, Bool.and_false, Bool.false_and, Bool.not_true, Bool.not_false, true_and, and_true, false_and, and_false, true_or, or_true, false_or, or_false, Bool.true_eq_false, Bool.false_eq_true, eq_self, reduceCtorEq, Bool.or_true, Bool.true_or, Bool.or_false, Bool.false_or])
    · rw [decide_eq_false (show ¬ (rd A (3 + 1) (zn o) 23 = 2 ∧ rd A (3 + 1) w 23 = 1) from fun z => d2 z.1), cond_false, dq_0]
      refine ⟨R, ?_, H, sameR_refl R⟩
      (simp only [e_X12_keys, zo_iload, zo_lload, zo_aload, zo_istore, zo_lstore, zo_astore, zo_iinc, zo_pushI, zo_pushL, zo_null, zo_ii, zo_iid, zo_ll, zo_li, zo_lcmp, zo_i2l, zo_l2i, zo_dup, zo_dup2, zo_pop, zo_goto, zo_if, zo_icmp, zo_ifnull, zo_gets, zo_mm, zo_throw, zo_ret, zo_aret, zo_lret, q_iret_f, q_iret_1, q_iret_0, q_iret_b, q_c8_0, q_c8_1, q_c8_2, q_c8_3, q_c8_4, q_set_0, q_set_1i, q_set_1r, q_set_1n, q_set_1N, q_set_s, q_set_1j, q_bk_v, q_bk_n, q_if, zb_ite, cond_true, cond_false, List.getElem?_cons_zero, List.getElem?_cons_succ, Nat.reduceAdd, q_set_1l, q_set2_0, q_set2_1i, q_set2_1r, q_set2_1n, q_set2_s, e, n10, n13, n14, n16, d2, Int32.add_zero, if_true, if_false, zb_eq0, zb_eq1, zn_1, not_true_eq_false, not_false_eq_true, ite_true, ite_false, if_true, if_false, q_iret_0, q_iret_1, decide_true, decide_false, decide_not, zb_t, zb_f, z10, z01, cond_true, cond_false, Bool.and_true, Bool.true_and, Bool.and_false, Bool.false_and, Bool.not_true, Bool.not_false, true_and, and_true, false_and, and_false, true_or, or_true, false_or, or_false, Bool.true_eq_false, Bool.false_eq_true, eq_self, reduceCtorEq, Bool.or_true, Bool.true_or, Bool.or_false, Bool.false_or])
  · have e : R.1 0 42 = 2 := h
    have hk : A.1 (3 + 2) 5 = 3 := okd_c H
    rw [show aQO A 2 (zn o) w = aQ1 A 2 (zn o) w from rfl]
    unfold aQ1
    rw [hk]
    by_cases d2 : rd A (3 + 2) (zn o) 23 = 2
    · obtain ⟨R', e1, e2, e3⟩ := r_comesIf H hw 3 (by decide)
      have ed : decide (rd A (3 + 2) (zn o) 23 = 2 ∧ rd A (3 + 2) w 23 = 3) = decide (rd A (3 + 2) w 23 = 3) := by simp [d2]
      rw [ed]
      refine ⟨R', ?_, e2, e3⟩
      (simp only [e_X12_keys, zo_iload, zo_lload, zo_aload, zo_istore, zo_lstore, zo_astore, zo_iinc, zo_pushI, zo_pushL, zo_null, zo_ii, zo_iid, zo_ll, zo_li, zo_lcmp, zo_i2l, zo_l2i, zo_dup, zo_dup2, zo_pop, zo_goto, zo_if, zo_icmp, zo_ifnull, zo_gets, zo_mm, zo_throw, zo_ret, zo_aret, zo_lret, q_iret_f, q_iret_1, q_iret_0, q_iret_b, q_c8_0, q_c8_1, q_c8_2, q_c8_3, q_c8_4, q_set_0, q_set_1i, q_set_1r, q_set_1n, q_set_1N, q_set_s, q_set_1j, q_bk_v, q_bk_n, q_if, zb_ite, cond_true, cond_false, List.getElem?_cons_zero, List.getElem?_cons_succ, Nat.reduceAdd, q_set_1l, q_set2_0, q_set2_1i, q_set2_1r, q_set2_1n, q_set2_s, e, n20, n21, d2, e1, if_true, if_false, zb_eq0, zb_eq1, zn_1, not_true_eq_false, not_false_eq_true, ite_true, ite_false, if_true, if_false, q_iret_0, q_iret_1, decide_true, decide_false, decide_not, zb_t, zb_f, z10, z01, cond_true, cond_false, Bool.and_true, Bool.true_and, Bool.and_false, Bool.false_and, Bool.not_true, Bool.not_false, true_and, and_true, false_and, and_false, true_or, or_true, false_or, or_false, Bool.true_eq_false, Bool.false_eq_true, eq_self, reduceCtorEq, Bool.or_true, Bool.true_or, Bool.or_false, Bool.false_or])
    · rw [decide_eq_false (show ¬ (rd A (3 + 2) (zn o) 23 = 2 ∧ rd A (3 + 2) w 23 = 3) from fun z => d2 z.1), cond_false, dq_0]
      refine ⟨R, ?_, H, sameR_refl R⟩
      (simp only [e_X12_keys, zo_iload, zo_lload, zo_aload, zo_istore, zo_lstore, zo_astore, zo_iinc, zo_pushI, zo_pushL, zo_null, zo_ii, zo_iid, zo_ll, zo_li, zo_lcmp, zo_i2l, zo_l2i, zo_dup, zo_dup2, zo_pop, zo_goto, zo_if, zo_icmp, zo_ifnull, zo_gets, zo_mm, zo_throw, zo_ret, zo_aret, zo_lret, q_iret_f, q_iret_1, q_iret_0, q_iret_b, q_c8_0, q_c8_1, q_c8_2, q_c8_3, q_c8_4, q_set_0, q_set_1i, q_set_1r, q_set_1n, q_set_1N, q_set_s, q_set_1j, q_bk_v, q_bk_n, q_if, zb_ite, cond_true, cond_false, List.getElem?_cons_zero, List.getElem?_cons_succ, Nat.reduceAdd, q_set_1l, q_set2_0, q_set2_1i, q_set2_1r, q_set2_1n, q_set2_s, e, n20, n21, n23, n24, n26, d2, Int32.add_zero, if_true, if_false, zb_eq0, zb_eq1, zn_1, not_true_eq_false, not_false_eq_true, ite_true, ite_false, if_true, if_false, q_iret_0, q_iret_1, decide_true, decide_false, decide_not, zb_t, zb_f, z10, z01, cond_true, cond_false, Bool.and_true, Bool.true_and, Bool.and_false, Bool.false_and, Bool.not_true, Bool.not_false, true_and, and_true, false_and, and_false, true_or, or_true, false_or, or_false, Bool.true_eq_false, Bool.false_eq_true, eq_self, reduceCtorEq, Bool.or_true, Bool.true_or, Bool.or_false, Bool.false_or])
  · have e : R.1 0 42 = 3 := h
    rw [show aQO A 3 (zn o) w = aQ3 A (zn o) from rfl]
    unfold aQ3
    simp only [Nat.reduceAdd]
    by_cases d2 : rd A 6 (zn o) 23 = 4
    · obtain ⟨R', e1, e2, e3⟩ := r_all1 H (zn o)
      rw [decide_eq_true d2, cond_true]
      refine ⟨R', ?_, e2, e3⟩
      (simp only [e_X12_keys, zo_iload, zo_lload, zo_aload, zo_istore, zo_lstore, zo_astore, zo_iinc, zo_pushI, zo_pushL, zo_null, zo_ii, zo_iid, zo_ll, zo_li, zo_lcmp, zo_i2l, zo_l2i, zo_dup, zo_dup2, zo_pop, zo_goto, zo_if, zo_icmp, zo_ifnull, zo_gets, zo_mm, zo_throw, zo_ret, zo_aret, zo_lret, q_iret_f, q_iret_1, q_iret_0, q_iret_b, q_c8_0, q_c8_1, q_c8_2, q_c8_3, q_c8_4, q_set_0, q_set_1i, q_set_1r, q_set_1n, q_set_1N, q_set_s, q_set_1j, q_bk_v, q_bk_n, q_if, zb_ite, cond_true, cond_false, List.getElem?_cons_zero, List.getElem?_cons_succ, Nat.reduceAdd, q_set_1l, q_set2_0, q_set2_1i, q_set2_1r, q_set2_1n, q_set2_s, e, n30, n31, n32, d2, e1, if_true, if_false, zb_eq0, zb_eq1, zn_1, not_true_eq_false, not_false_eq_true, ite_true, ite_false, if_true, if_false, q_iret_0, q_iret_1, decide_true, decide_false, decide_not, zb_t, zb_f, z10, z01, cond_true, cond_false, Bool.and_true, Bool.true_and, Bool.and_false, Bool.false_and, Bool.not_true, Bool.not_false, true_and, and_true, false_and, and_false, true_or, or_true, false_or, or_false, Bool.true_eq_false, Bool.false_eq_true, eq_self, reduceCtorEq, Bool.or_true, Bool.true_or, Bool.or_false, Bool.false_or])
    · rw [decide_eq_false d2, cond_false, dq_0]
      refine ⟨R, ?_, H, sameR_refl R⟩
      (simp only [e_X12_keys, zo_iload, zo_lload, zo_aload, zo_istore, zo_lstore, zo_astore, zo_iinc, zo_pushI, zo_pushL, zo_null, zo_ii, zo_iid, zo_ll, zo_li, zo_lcmp, zo_i2l, zo_l2i, zo_dup, zo_dup2, zo_pop, zo_goto, zo_if, zo_icmp, zo_ifnull, zo_gets, zo_mm, zo_throw, zo_ret, zo_aret, zo_lret, q_iret_f, q_iret_1, q_iret_0, q_iret_b, q_c8_0, q_c8_1, q_c8_2, q_c8_3, q_c8_4, q_set_0, q_set_1i, q_set_1r, q_set_1n, q_set_1N, q_set_s, q_set_1j, q_bk_v, q_bk_n, q_if, zb_ite, cond_true, cond_false, List.getElem?_cons_zero, List.getElem?_cons_succ, Nat.reduceAdd, q_set_1l, q_set2_0, q_set2_1i, q_set2_1r, q_set2_1n, q_set2_s, e, n30, n31, n32, n34, n36, d2, Int32.add_zero, if_true, if_false, zb_eq0, zb_eq1, zn_1, not_true_eq_false, not_false_eq_true, ite_true, ite_false, if_true, if_false, q_iret_0, q_iret_1, decide_true, decide_false, decide_not, zb_t, zb_f, z10, z01, cond_true, cond_false, Bool.and_true, Bool.true_and, Bool.and_false, Bool.false_and, Bool.not_true, Bool.not_false, true_and, and_true, false_and, and_false, true_or, or_true, false_or, or_false, Bool.true_eq_false, Bool.false_eq_true, eq_self, reduceCtorEq, Bool.or_true, Bool.true_or, Bool.or_false, Bool.false_or])
  · have e : R.1 0 42 = 4 := h
    rw [show aQO A 4 (zn o) w = aQ4 A (zn o) from rfl]
    unfold aQ4
    simp only [Nat.reduceAdd]
    by_cases d2 : rd A 7 (zn o) 23 = 4
    · obtain ⟨R', e1, e2, e3⟩ := r_all2 H h60
      rw [decide_eq_true d2, cond_true]
      refine ⟨R', ?_, e2, e3⟩
      (simp only [e_X12_keys, zo_iload, zo_lload, zo_aload, zo_istore, zo_lstore, zo_astore, zo_iinc, zo_pushI, zo_pushL, zo_null, zo_ii, zo_iid, zo_ll, zo_li, zo_lcmp, zo_i2l, zo_l2i, zo_dup, zo_dup2, zo_pop, zo_goto, zo_if, zo_icmp, zo_ifnull, zo_gets, zo_mm, zo_throw, zo_ret, zo_aret, zo_lret, q_iret_f, q_iret_1, q_iret_0, q_iret_b, q_c8_0, q_c8_1, q_c8_2, q_c8_3, q_c8_4, q_set_0, q_set_1i, q_set_1r, q_set_1n, q_set_1N, q_set_s, q_set_1j, q_bk_v, q_bk_n, q_if, zb_ite, cond_true, cond_false, List.getElem?_cons_zero, List.getElem?_cons_succ, Nat.reduceAdd, q_set_1l, q_set2_0, q_set2_1i, q_set2_1r, q_set2_1n, q_set2_s, e, n40, n41, n42, n43, d2, e1, if_true, if_false, zb_eq0, zb_eq1, zn_1, not_true_eq_false, not_false_eq_true, ite_true, ite_false, if_true, if_false, q_iret_0, q_iret_1, decide_true, decide_false, decide_not, zb_t, zb_f, z10, z01, cond_true, cond_false, Bool.and_true, Bool.true_and, Bool.and_false, Bool.false_and, Bool.not_true, Bool.not_false, true_and, and_true, false_and, and_false, true_or, or_true, false_or, or_false, Bool.true_eq_false, Bool.false_eq_true, eq_self, reduceCtorEq, Bool.or_true, Bool.true_or, Bool.or_false, Bool.false_or])
    · rw [decide_eq_false d2, cond_false, dq_0]
      refine ⟨R, ?_, H, sameR_refl R⟩
      (simp only [e_X12_keys, zo_iload, zo_lload, zo_aload, zo_istore, zo_lstore, zo_astore, zo_iinc, zo_pushI, zo_pushL, zo_null, zo_ii, zo_iid, zo_ll, zo_li, zo_lcmp, zo_i2l, zo_l2i, zo_dup, zo_dup2, zo_pop, zo_goto, zo_if, zo_icmp, zo_ifnull, zo_gets, zo_mm, zo_throw, zo_ret, zo_aret, zo_lret, q_iret_f, q_iret_1, q_iret_0, q_iret_b, q_c8_0, q_c8_1, q_c8_2, q_c8_3, q_c8_4, q_set_0, q_set_1i, q_set_1r, q_set_1n, q_set_1N, q_set_s, q_set_1j, q_bk_v, q_bk_n, q_if, zb_ite, cond_true, cond_false, List.getElem?_cons_zero, List.getElem?_cons_succ, Nat.reduceAdd, q_set_1l, q_set2_0, q_set2_1i, q_set2_1r, q_set2_1n, q_set2_s, e, n40, n41, n42, n43, n46, d2, Int32.add_zero, if_true, if_false, zb_eq0, zb_eq1, zn_1, not_true_eq_false, not_false_eq_true, ite_true, ite_false, if_true, if_false, q_iret_0, q_iret_1, decide_true, decide_false, decide_not, zb_t, zb_f, z10, z01, cond_true, cond_false, Bool.and_true, Bool.true_and, Bool.and_false, Bool.false_and, Bool.not_true, Bool.not_false, true_and, and_true, false_and, and_false, true_or, or_true, false_or, or_false, Bool.true_eq_false, Bool.false_eq_true, eq_self, reduceCtorEq, Bool.or_true, Bool.true_or, Bool.or_false, Bool.false_or])
  · exact absurd rfl h5
  · have e : R.1 0 42 = 6 := h
    rw [show aQO A 6 (zn o) w = aQ6 A (zn o) from rfl]
    unfold aQ6
    simp only [Nat.reduceAdd]
    by_cases d2 : rd A 9 (zn o) 23 = 2
    · obtain ⟨R', e1, e2, e3⟩ := r_all0 H (zn o)
      rw [decide_eq_true d2, cond_true]
      refine ⟨R', ?_, e2, e3⟩
      (simp only [e_X12_keys, zo_iload, zo_lload, zo_aload, zo_istore, zo_lstore, zo_astore, zo_iinc, zo_pushI, zo_pushL, zo_null, zo_ii, zo_iid, zo_ll, zo_li, zo_lcmp, zo_i2l, zo_l2i, zo_dup, zo_dup2, zo_pop, zo_goto, zo_if, zo_icmp, zo_ifnull, zo_gets, zo_mm, zo_throw, zo_ret, zo_aret, zo_lret, q_iret_f, q_iret_1, q_iret_0, q_iret_b, q_c8_0, q_c8_1, q_c8_2, q_c8_3, q_c8_4, q_set_0, q_set_1i, q_set_1r, q_set_1n, q_set_1N, q_set_s, q_set_1j, q_bk_v, q_bk_n, q_if, zb_ite, cond_true, cond_false, List.getElem?_cons_zero, List.getElem?_cons_succ, Nat.reduceAdd, q_set_1l, q_set2_0, q_set2_1i, q_set2_1r, q_set2_1n, q_set2_s, e, n60, n61, n62, n63, n64, d2, e1, if_true, if_false, zb_eq0, zb_eq1, zn_1, not_true_eq_false, not_false_eq_true, ite_true, ite_false, if_true, if_false, q_iret_0, q_iret_1, decide_true, decide_false, decide_not, zb_t, zb_f, z10, z01, cond_true, cond_false, Bool.and_true, Bool.true_and, Bool.and_false, Bool.false_and, Bool.not_true, Bool.not_false, true_and, and_true, false_and, and_false, true_or, or_true, false_or, or_false, Bool.true_eq_false, Bool.false_eq_true, eq_self, reduceCtorEq, Bool.or_true, Bool.true_or, Bool.or_false, Bool.false_or])
    · rw [decide_eq_false d2, cond_false, dq_0]
      refine ⟨R, ?_, H, sameR_refl R⟩
      (simp only [e_X12_keys, zo_iload, zo_lload, zo_aload, zo_istore, zo_lstore, zo_astore, zo_iinc, zo_pushI, zo_pushL, zo_null, zo_ii, zo_iid, zo_ll, zo_li, zo_lcmp, zo_i2l, zo_l2i, zo_dup, zo_dup2, zo_pop, zo_goto, zo_if, zo_icmp, zo_ifnull, zo_gets, zo_mm, zo_throw, zo_ret, zo_aret, zo_lret, q_iret_f, q_iret_1, q_iret_0, q_iret_b, q_c8_0, q_c8_1, q_c8_2, q_c8_3, q_c8_4, q_set_0, q_set_1i, q_set_1r, q_set_1n, q_set_1N, q_set_s, q_set_1j, q_bk_v, q_bk_n, q_if, zb_ite, cond_true, cond_false, List.getElem?_cons_zero, List.getElem?_cons_succ, Nat.reduceAdd, q_set_1l, q_set2_0, q_set2_1i, q_set2_1r, q_set2_1n, q_set2_s, e, n60, n61, n62, n63, n64, d2, Int32.add_zero, if_true, if_false, zb_eq0, zb_eq1, zn_1, not_true_eq_false, not_false_eq_true, ite_true, ite_false, if_true, if_false, q_iret_0, q_iret_1, decide_true, decide_false, decide_not, zb_t, zb_f, z10, z01, cond_true, cond_false, Bool.and_true, Bool.true_and, Bool.and_false, Bool.false_and, Bool.not_true, Bool.not_false, true_and, and_true, false_and, and_false, true_or, or_true, false_or, or_false, Bool.true_eq_false, Bool.false_eq_true, eq_self, reduceCtorEq, Bool.or_true, Bool.true_or, Bool.or_false, Bool.false_or])
  · have e : R.1 0 42 = 7 := h
    rw [show aQO A 7 (zn o) w = A from rfl, dq_0]
    refine ⟨R, ?_, H, sameR_refl R⟩
    (simp only [e_X12_keys, zo_iload, zo_lload, zo_aload, zo_istore, zo_lstore, zo_astore, zo_iinc, zo_pushI, zo_pushL, zo_null, zo_ii, zo_iid, zo_ll, zo_li, zo_lcmp, zo_i2l, zo_l2i, zo_dup, zo_dup2, zo_pop, zo_goto, zo_if, zo_icmp, zo_ifnull, zo_gets, zo_mm, zo_throw, zo_ret, zo_aret, zo_lret, q_iret_f, q_iret_1, q_iret_0, q_iret_b, q_c8_0, q_c8_1, q_c8_2, q_c8_3, q_c8_4, q_set_0, q_set_1i, q_set_1r, q_set_1n, q_set_1N, q_set_s, q_set_1j, q_bk_v, q_bk_n, q_if, zb_ite, cond_true, cond_false, List.getElem?_cons_zero, List.getElem?_cons_succ, Nat.reduceAdd, q_set_1l, q_set2_0, q_set2_1i, q_set2_1r, q_set2_1n, q_set2_s, e, n70, n71, n72, n73, n74, n76, Int32.add_zero, if_true, if_false, zb_eq0, zb_eq1, zn_1, not_true_eq_false, not_false_eq_true, ite_true, ite_false, if_true, if_false, q_iret_0, q_iret_1, decide_true, decide_false, decide_not, zb_t, zb_f, z10, z01, cond_true, cond_false, Bool.and_true, Bool.true_and, Bool.and_false, Bool.false_and, Bool.not_true, Bool.not_false, true_and, and_true, false_and, and_false, true_or, or_true, false_or, or_false, Bool.true_eq_false, Bool.false_eq_true, eq_self, reduceCtorEq, Bool.or_true, Bool.true_or, Bool.or_false, Bool.false_or])
theorem own_c (H : rAt A R c) {o : Nat} (h5 : c ≠ 5) : ownKey A c (zn o) = decide (rd A (3 + c) (zn o) 23 = okd c) := by
  unfold ownKey
  rw [okd_c H]
  have : okd c ≠ -1 := by
    have key : ∀ c : Fin 8, c.1 ≠ 5 → okd c.1 ≠ -1 := by decide
    exact key ⟨c, H.2.2⟩ h5
  simp [this]
theorem r_keys (H : rAt A R c) {o : Nat} (ho : o < nv A (3 + c)) {w : Int32} (hw : wOk A c w) : comeTo A (aQO (aOwn A c (zn o)) c (zn o) w) c R (fX12_keys [.ref 0, .int (zn o), .int w] R) := by
  have hon := Nat.lt_of_lt_of_le ho (rv_nv H)
  have h60 := Nat.lt_of_lt_of_le ho (rv_n60 H)
  obtain ⟨b1, x1⟩ := kinds_o o h60
  have k6 := (rv_row H ho).2.2.2.2.symm
  by_cases h5 : c = 5
  · subst h5
    have e : R.1 0 42 = 5 := H.2.1
    have ow : aOwn A 5 (zn o) = aEnq A 5 (zn o) := by
      unfold aOwn ownKey
      rw [show A.1 (3 + 5) 5 = -1 from okd_c H, decide_eq_true (Or.inl rfl)]
      rfl
    rw [ow]
    show comeTo A (aQ5 (aEnq A 5 (zn o)) (zn o) w) 5 R _
    unfold aQ5
    obtain ⟨R1, e1, H1, s1⟩ := r_comes H hon
    have nv1 : nv (aEnq A 5 (zn o)) 8 = nv (aEnq (aEnq A 5 (zn o)) 5 w) 8 := (nv_S (c := 5) (zSame_Enq (aEnq A 5 (zn o)) 5 w)).symm
    rw [nv1]
    have fin : ∀ {B S : zzMd} {u : Int32}, B = aEnq (aEnq A 5 (zn o)) 5 w → rAt B S 5 → sameR R S → (fX12_keys [.ref 0, .int (zn o), .int w] R = zz_ev tX12_keys 35 [some (.ref 0), some (.int (zn o)), some (.int w), some (.int (R.1 6 o)), none] [.int (((aEnq A 5 (zn o)).1 (3 + 5) 11 - A.1 (3 + 5) 11) + u)] S) → u = B.1 (3 + 5) 11 - (aEnq A 5 (zn o)).1 (3 + 5) 11 →
        comeTo A (eqs (fun D i => decide (rd D 8 (zn i) 24 = zn o)) 5 (nv B 8) B) 5 R (fX12_keys [.ref 0, .int (zn o), .int w] R) := by
      intro B S u hB HB sB hrun hu
      obtain ⟨R3, f1, f2, f3⟩ := r_all3 HB h60
      refine ⟨R3, ?_, f2, sameR_trans sB f3⟩
      rw [hrun, hu, dq_add]
      have ea := dq_add (A.1 (3 + 5) 11) (B.1 (3 + 5) 11) ((eqs (fun D i => decide (rd D 8 (zn i) 24 = zn o)) 5 (nv B 8) B).1 (3 + 5) 11)
      rw [← ea]
      clear hrun ea
      (simp only [e_X12_keys, zo_iload, zo_lload, zo_aload, zo_istore, zo_lstore, zo_astore, zo_iinc, zo_pushI, zo_pushL, zo_null, zo_ii, zo_iid, zo_ll, zo_li, zo_lcmp, zo_i2l, zo_l2i, zo_dup, zo_dup2, zo_pop, zo_goto, zo_if, zo_icmp, zo_ifnull, zo_gets, zo_mm, zo_throw, zo_ret, zo_aret, zo_lret, q_iret_f, q_iret_1, q_iret_0, q_iret_b, q_c8_0, q_c8_1, q_c8_2, q_c8_3, q_c8_4, q_set_0, q_set_1i, q_set_1r, q_set_1n, q_set_1N, q_set_s, q_set_1j, q_bk_v, q_bk_n, q_if, zb_ite, cond_true, cond_false, List.getElem?_cons_zero, List.getElem?_cons_succ, Nat.reduceAdd, q_set_1l, q_set2_0, q_set2_1i, q_set2_1r, q_set2_1n, q_set2_s, f1, if_true, if_false, zb_eq0, zb_eq1, zn_1, not_true_eq_false, not_false_eq_true, ite_true, ite_false, if_true, if_false, q_iret_0, q_iret_1, decide_true, decide_false, decide_not, zb_t, zb_f, z10, z01, cond_true, cond_false, Bool.and_true, Bool.true_and, Bool.and_false, Bool.false_and, Bool.not_true, Bool.not_false, true_and, and_true, false_and, and_false, true_or, or_true, false_or, or_false, Bool.true_eq_false, Bool.false_eq_true, eq_self, reduceCtorEq, Bool.or_true, Bool.true_or, Bool.or_false, Bool.false_or])
    by_cases hn : w = -1
    · have en : aEnq (aEnq A 5 (zn o)) 5 w = aEnq A 5 (zn o) := by rw [hn, enq_m1]
      rw [en]
      refine fin en.symm H1 s1 (u := 0) ?_ (dq_0 _).symm
      rw [s_X12_keys, hn]
      generalize hZ : zz_ev tX12_keys 35 [some (.ref 0), some (.int (zn o)), some (.int (-1)), some (.int (R.1 6 o)), none] [.int ((aEnq A 5 (zn o)).1 (3 + 5) 11 - A.1 (3 + 5) 11 + 0)] R1 = Z
      (simp only [e_X12_keys, zo_iload, zo_lload, zo_aload, zo_istore, zo_lstore, zo_astore, zo_iinc, zo_pushI, zo_pushL, zo_null, zo_ii, zo_iid, zo_ll, zo_li, zo_lcmp, zo_i2l, zo_l2i, zo_dup, zo_dup2, zo_pop, zo_goto, zo_if, zo_icmp, zo_ifnull, zo_gets, zo_mm, zo_throw, zo_ret, zo_aret, zo_lret, q_iret_f, q_iret_1, q_iret_0, q_iret_b, q_c8_0, q_c8_1, q_c8_2, q_c8_3, q_c8_4, q_set_0, q_set_1i, q_set_1r, q_set_1n, q_set_1N, q_set_s, q_set_1j, q_bk_v, q_bk_n, q_if, zb_ite, cond_true, cond_false, List.getElem?_cons_zero, List.getElem?_cons_succ, Nat.reduceAdd, q_set_1l, q_set2_0, q_set2_1i, q_set2_1r, q_set2_1n, q_set2_s, ↓hZ, b1, x1, q_aR, e, e1, if_true, if_false, zb_eq0, zb_eq1, zn_1, not_true_eq_false, not_false_eq_true, ite_true, ite_false, if_true, if_false, q_iret_0, q_iret_1, decide_true, decide_false, decide_not, zb_t, zb_f, z10, z01, cond_true, cond_false, Bool.and_true, Bool.true_and, Bool.and_false, Bool.false_and, Bool.not_true, Bool.not_false, true_and, and_true, false_and, and_false, true_or, or_true, false_or, or_false, Bool.true_eq_false, Bool.false_eq_true, eq_self, reduceCtorEq, Bool.or_true, Bool.true_or, Bool.or_false, Bool.false_or])
    · obtain ⟨R2, e2, H2, s2⟩ := r_comesW H1 (wOk_S (zSame_Enq A 5 (zn o)) hw) hn
      refine fin rfl H2 (sameR_trans s1 s2) ?_ rfl
      rw [s_X12_keys]
      generalize hZ : zz_ev tX12_keys 35 [some (.ref 0), some (.int (zn o)), some (.int w), some (.int (R.1 6 o)), none] [.int ((aEnq A 5 (zn o)).1 (3 + 5) 11 - A.1 (3 + 5) 11 + ((aEnq (aEnq A 5 (zn o)) 5 w).1 (3 + 5) 11 - (aEnq A 5 (zn o)).1 (3 + 5) 11))] R2 = Z
      (simp only [e_X12_keys, zo_iload, zo_lload, zo_aload, zo_istore, zo_lstore, zo_astore, zo_iinc, zo_pushI, zo_pushL, zo_null, zo_ii, zo_iid, zo_ll, zo_li, zo_lcmp, zo_i2l, zo_l2i, zo_dup, zo_dup2, zo_pop, zo_goto, zo_if, zo_icmp, zo_ifnull, zo_gets, zo_mm, zo_throw, zo_ret, zo_aret, zo_lret, q_iret_f, q_iret_1, q_iret_0, q_iret_b, q_c8_0, q_c8_1, q_c8_2, q_c8_3, q_c8_4, q_set_0, q_set_1i, q_set_1r, q_set_1n, q_set_1N, q_set_s, q_set_1j, q_bk_v, q_bk_n, q_if, zb_ite, cond_true, cond_false, List.getElem?_cons_zero, List.getElem?_cons_succ, Nat.reduceAdd, q_set_1l, q_set2_0, q_set2_1i, q_set2_1r, q_set2_1n, q_set2_s, ↓hZ, b1, x1, q_aR, e, e1, hn, e2, if_true, if_false, zb_eq0, zb_eq1, zn_1, not_true_eq_false, not_false_eq_true, ite_true, ite_false, if_true, if_false, q_iret_0, q_iret_1, decide_true, decide_false, decide_not, zb_t, zb_f, z10, z01, cond_true, cond_false, Bool.and_true, Bool.true_and, Bool.and_false, Bool.false_and, Bool.not_true, Bool.not_false, true_and, and_true, false_and, and_false, true_or, or_true, false_or, or_false, Bool.true_eq_false, Bool.false_eq_true, eq_self, reduceCtorEq, Bool.or_true, Bool.true_or, Bool.or_false, Bool.false_or])
  · have hok := r_ownKind H
    have hc5 : ¬ R.1 0 42 = 5 := by
      rw [H.2.1]
      have : (zn c = 5) = (c = 5) := zn_inj (a := c) (b := 5) (by have := H.2.2; omega) (by decide)
      rw [this]; exact h5
    have hS : zSame c A (aOwn A c (zn o)) := (Own_inv H.1.1.2 H.2.2 (zn o)).2
    have mid : ∃ R1, fX12_keys [.ref 0, .int (zn o), .int w] R = zz_ev tX12_keys 62 [some (.ref 0), some (.int (zn o)), some (.int w), some (.int (rd A (3 + c) (zn o) 23)), some (.int ((aOwn A c (zn o)).1 (3 + c) 11 - A.1 (3 + c) 11))] [] R1 ∧ rAt (aOwn A c (zn o)) R1 c ∧ sameR R R1 := by
      unfold aOwn
      rw [own_c H h5]
      by_cases d : rd A (3 + c) (zn o) 23 = okd c
      · rw [decide_eq_true d, cond_true]
        obtain ⟨R1, e1, H1, s1⟩ := r_comes H hon
        refine ⟨R1, ?_, H1, s1⟩
        rw [s_X12_keys]
        generalize (aEnq A c (zn o)).1 (3 + c) 11 - A.1 (3 + c) 11 = u at e1 ⊢
        (simp only [e_X12_keys, zo_iload, zo_lload, zo_aload, zo_istore, zo_lstore, zo_astore, zo_iinc, zo_pushI, zo_pushL, zo_null, zo_ii, zo_iid, zo_ll, zo_li, zo_lcmp, zo_i2l, zo_l2i, zo_dup, zo_dup2, zo_pop, zo_goto, zo_if, zo_icmp, zo_ifnull, zo_gets, zo_mm, zo_throw, zo_ret, zo_aret, zo_lret, q_iret_f, q_iret_1, q_iret_0, q_iret_b, q_c8_0, q_c8_1, q_c8_2, q_c8_3, q_c8_4, q_set_0, q_set_1i, q_set_1r, q_set_1n, q_set_1N, q_set_s, q_set_1j, q_bk_v, q_bk_n, q_if, zb_ite, cond_true, cond_false, List.getElem?_cons_zero, List.getElem?_cons_succ, Nat.reduceAdd, q_set_1l, q_set2_0, q_set2_1i, q_set2_1r, q_set2_1n, q_set2_s, b1, x1, q_aR, k6, hc5, hok, d, e1, if_true, if_false, zb_eq0, zb_eq1, zn_1, not_true_eq_false, not_false_eq_true, ite_true, ite_false, if_true, if_false, q_iret_0, q_iret_1, decide_true, decide_false, decide_not, zb_t, zb_f, z10, z01, cond_true, cond_false, Bool.and_true, Bool.true_and, Bool.and_false, Bool.false_and, Bool.not_true, Bool.not_false, true_and, and_true, false_and, and_false, true_or, or_true, false_or, or_false, Bool.true_eq_false, Bool.false_eq_true, eq_self, reduceCtorEq, Bool.or_true, Bool.true_or, Bool.or_false, Bool.false_or])
      · rw [decide_eq_false d, cond_false, dq_0]
        refine ⟨R, ?_, H, sameR_refl R⟩
        rw [s_X12_keys]
        (simp only [e_X12_keys, zo_iload, zo_lload, zo_aload, zo_istore, zo_lstore, zo_astore, zo_iinc, zo_pushI, zo_pushL, zo_null, zo_ii, zo_iid, zo_ll, zo_li, zo_lcmp, zo_i2l, zo_l2i, zo_dup, zo_dup2, zo_pop, zo_goto, zo_if, zo_icmp, zo_ifnull, zo_gets, zo_mm, zo_throw, zo_ret, zo_aret, zo_lret, q_iret_f, q_iret_1, q_iret_0, q_iret_b, q_c8_0, q_c8_1, q_c8_2, q_c8_3, q_c8_4, q_set_0, q_set_1i, q_set_1r, q_set_1n, q_set_1N, q_set_s, q_set_1j, q_bk_v, q_bk_n, q_if, zb_ite, cond_true, cond_false, List.getElem?_cons_zero, List.getElem?_cons_succ, Nat.reduceAdd, q_set_1l, q_set2_0, q_set2_1i, q_set2_1r, q_set2_1n, q_set2_s, b1, x1, q_aR, k6, hc5, hok, d, if_true, if_false, zb_eq0, zb_eq1, zn_1, not_true_eq_false, not_false_eq_true, ite_true, ite_false, if_true, if_false, q_iret_0, q_iret_1, decide_true, decide_false, decide_not, zb_t, zb_f, z10, z01, cond_true, cond_false, Bool.and_true, Bool.true_and, Bool.and_false, Bool.false_and, Bool.not_true, Bool.not_false, true_and, and_true, false_and, and_false, true_or, or_true, false_or, or_false, Bool.true_eq_false, Bool.false_eq_true, eq_self, reduceCtorEq, Bool.or_true, Bool.true_or, Bool.or_false, Bool.false_or])
    obtain ⟨R1, e1, H1, s1⟩ := mid
    obtain ⟨R2, e2, H2, s2⟩ := r_keysTail H1 h5 (o := o) (by rw [nv_S hS]; exact ho) (wOk_S hS hw) ((aOwn A c (zn o)).1 (3 + c) 11 - A.1 (3 + c) 11)
    rw [rd_S' H.2.2 hS, dq_add] at e2
    exact ⟨R2, e1.trans e2, H2, sameR_trans s1 s2⟩
end
end

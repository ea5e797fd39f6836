section
/-! the controllers: queues -/
theorem zc8 {c : Nat} (h : c < 8) : c = 0 ∨ c = 1 ∨ c = 2 ∨ c = 3 ∨ c = 4 ∨ c = 5 ∨ c = 6 ∨ c = 7 := by omega
theorem zcV {c : Nat} (h : c < 8) : zV (3 + c) := by
  rcases zc8 h with rfl | rfl | rfl | rfl | rfl | rfl | rfl | rfl <;> (unfold zV; omega)
theorem zcL {c : Nat} (h : c < 8) : latA (3 + c) = 21 + 6 * c := by
  rcases zc8 h with rfl | rfl | rfl | rfl | rfl | rfl | rfl | rfl <;> rfl
/-- a key comes to the queue -/
def enqNo (A : zzMd) (c : Nat) (x : Int32) : Prop := x < 0 ∨ 60 ≤ x ∨ 60 ≤ A.1 (3 + c) 11 ∨ ¬ A.1 (23 + 6 * c) (zz_ix x) = 0
noncomputable def aEnq (A : zzMd) (c : Nat) (x : Int32) : zzMd := @ite _ (enqNo A c x) (Classical.propDecidable _) A (zz_sI (zz_sI (zz_sI A (23 + 6 * c) (zz_ix x) 1) (22 + 6 * c) (qn A c) x) (3 + c) 11 (zn (qn A c + 1)))
theorem cdead {c : Nat} (h : c < 8) : dead (3 + c) = false ∧ dead (21 + 6 * c) = false ∧ dead (22 + 6 * c) = false ∧ dead (23 + 6 * c) = false ∧ dead (24 + 6 * c) = false ∧ dead (25 + 6 * c) = false ∧ dead (26 + 6 * c) = false := by
  rcases zc8 h with rfl | rfl | rfl | rfl | rfl | rfl | rfl | rfl <;> exact ⟨rfl, rfl, rfl, rfl, rfl, rfl, rfl⟩
theorem qn_nz {M : zzMd} {c : Nat} (h : c < 8) : qn (nz M) c = qn M c := by unfold qn; rw [nz_1 (cdead h).1]
theorem enqNo_nz {M : zzMd} {c : Nat} (h : c < 8) (x : Int32) : enqNo (nz M) c x ↔ enqNo M c x := by unfold enqNo; rw [nz_1 (cdead h).1, nz_1 (cdead h).2.2.2.1]
theorem nz_Enq {M : zzMd} {c : Nat} (h : c < 8) (x : Int32) : nz (aEnq M c x) = aEnq (nz M) c x := by
  obtain ⟨d1, d2, d3, d4, -⟩ := cdead h
  unfold aEnq
  by_cases hn : enqNo M c x
  · rw [if_pos hn, if_pos ((enqNo_nz h x).mpr hn)]
  · rw [if_neg hn, if_neg (fun z => hn ((enqNo_nz h x).mp z)), nz_sI d1, nz_sI d3, nz_sI d4, qn_nz h]
theorem zi_nat {x : Int32} (h1 : ¬ x < 0) (h2 : ¬ 60 ≤ x) : x = zn (zz_ix x) ∧ zz_ix x < 60 := by
  obtain ⟨a1, a2⟩ := zi_rng h1 h2
  have : (60 : Int32).toInt = 60 := rfl
  exact ⟨a1, by omega⟩
theorem sp_enqueue {M : zzMd} (W : zIC M) {c : Nat} (hc : c < 8) (x : Int32) : fX2_enqueue [.ref (3 + c), .int x] M = some (.inl none, aEnq M c x) := by
  obtain ⟨⟨q1, q2⟩, -⟩ := (W.2.2 c hc).2
  rw [s_X2_enqueue]
  unfold aEnq
  by_cases c1 : x < 0
  · rw [if_pos (show enqNo M c x from Or.inl c1)]
    rcases zc8 hc with rfl | rfl | rfl | rfl | rfl | rfl | rfl | rfl <;> (simp only [Nat.reduceAdd, Nat.reduceMul, Nat.mul_zero, Nat.add_zero] at *; simp only [e_X2_enqueue, zo_iload, zo_lload, zo_aload, zo_istore, zo_lstore, zo_astore, zo_iinc, zo_pushI, zo_pushL, zo_null, zo_ii, zo_iid, zo_ll, zo_li, zo_lcmp, zo_i2l, zo_l2i, zo_dup, zo_dup2, zo_pop, zo_goto, zo_if, zo_icmp, zo_ifnull, zo_gets, zo_mm, zo_throw, zo_ret, zo_aret, zo_lret, q_iret_f, q_iret_1, q_iret_0, q_iret_b, q_c8_0, q_c8_1, q_c8_2, q_c8_3, q_c8_4, q_set_0, q_set_1i, q_set_1r, q_set_1n, q_set_1N, q_set_s, q_set_1j, q_bk_v, q_bk_n, q_if, zb_ite, cond_true, cond_false, List.getElem?_cons_zero, List.getElem?_cons_succ, Nat.reduceAdd, c1, if_true, if_false, zb_eq0, zb_eq1, zn_1, not_true_eq_false, not_false_eq_true, ite_true, ite_false, if_true, if_false, q_iret_0, q_iret_1, decide_true, decide_false, decide_not, zb_t, zb_f, z10, z01, cond_true, cond_false, Bool.and_true, Bool.true_and, Bool.and_false, Bool.false_and, Bool.not_true, Bool.not_false, true_and, and_true, false_and, and_false, true_or, or_true, false_or, or_false, Bool.true_eq_false, Bool.false_eq_true, eq_self, reduceCtorEq])
  by_cases c2 : 60 ≤ x
  · rw [if_pos (show enqNo M c x from Or.inr (Or.inl c2))]
    rcases zc8 hc with rfl | rfl | rfl | rfl | rfl | rfl | rfl | rfl <;> (simp only [Nat.reduceAdd, Nat.reduceMul, Nat.mul_zero, Nat.add_zero] at *; simp only [e_X2_enqueue, zo_iload, zo_lload, zo_aload, zo_istore, zo_lstore, zo_astore, zo_iinc, zo_pushI, zo_pushL, zo_null, zo_ii, zo_iid, zo_ll, zo_li, zo_lcmp, zo_i2l, zo_l2i, zo_dup, zo_dup2, zo_pop, zo_goto, zo_if, zo_icmp, zo_ifnull, zo_gets, zo_mm, zo_throw, zo_ret, zo_aret, zo_lret, q_iret_f, q_iret_1, q_iret_0, q_iret_b, q_c8_0, q_c8_1, q_c8_2, q_c8_3, q_c8_4, q_set_0, q_set_1i, q_set_1r, q_set_1n, q_set_1N, q_set_s, q_set_1j, q_bk_v, q_bk_n, q_if, zb_ite, cond_true, cond_false, List.getElem?_cons_zero, List.getElem?_cons_succ, Nat.reduceAdd, c1, c2, if_true, if_false, zb_eq0, zb_eq1, zn_1, not_true_eq_false, not_false_eq_true, ite_true, ite_false, if_true, if_false, q_iret_0, q_iret_1, decide_true, decide_false, decide_not, zb_t, zb_f, z10, z01, cond_true, cond_false, Bool.and_true, Bool.true_and, Bool.and_false, Bool.false_and, Bool.not_true, Bool.not_false, true_and, and_true, false_and, and_false, true_or, or_true, false_or, or_false, Bool.true_eq_false, Bool.false_eq_true, eq_self, reduceCtorEq])
  obtain ⟨a1, a2⟩ := zi_nat c1 c2
  have i1 : zz_inb x 60 = true := by rw [a1]; exact zn_inT a2 (by decide)
  by_cases c3 : 60 ≤ M.1 (3 + c) 11
  · rw [if_pos (show enqNo M c x from Or.inr (Or.inr (Or.inl c3)))]
    rcases zc8 hc with rfl | rfl | rfl | rfl | rfl | rfl | rfl | rfl <;> (simp only [Nat.reduceAdd, Nat.reduceMul, Nat.mul_zero, Nat.add_zero] at *; simp only [e_X2_enqueue, zo_iload, zo_lload, zo_aload, zo_istore, zo_lstore, zo_astore, zo_iinc, zo_pushI, zo_pushL, zo_null, zo_ii, zo_iid, zo_ll, zo_li, zo_lcmp, zo_i2l, zo_l2i, zo_dup, zo_dup2, zo_pop, zo_goto, zo_if, zo_icmp, zo_ifnull, zo_gets, zo_mm, zo_throw, zo_ret, zo_aret, zo_lret, q_iret_f, q_iret_1, q_iret_0, q_iret_b, q_c8_0, q_c8_1, q_c8_2, q_c8_3, q_c8_4, q_set_0, q_set_1i, q_set_1r, q_set_1n, q_set_1N, q_set_s, q_set_1j, q_bk_v, q_bk_n, q_if, zb_ite, cond_true, cond_false, List.getElem?_cons_zero, List.getElem?_cons_succ, Nat.reduceAdd, c1, c2, c3, if_true, if_false, zb_eq0, zb_eq1, zn_1, not_true_eq_false, not_false_eq_true, ite_true, ite_false, if_true, if_false, q_iret_0, q_iret_1, decide_true, decide_false, decide_not, zb_t, zb_f, z10, z01, cond_true, cond_false, Bool.and_true, Bool.true_and, Bool.and_false, Bool.false_and, Bool.not_true, Bool.not_false, true_and, and_true, false_and, and_false, true_or, or_true, false_or, or_false, Bool.true_eq_false, Bool.false_eq_true, eq_self, reduceCtorEq])
  by_cases c4 : M.1 (23 + 6 * c) (zz_ix x) = 0
  · rw [if_neg (show ¬ enqNo M c x by rintro (a | a | a | a); exact c1 a; exact c2 a; exact c3 a; exact a c4)]
    have q3 : ¬ (60 : Int32) ≤ zn (qn M c) := by rw [← q1]; exact c3
    have q4 : qn M c < 60 := by
      have := zn_le (a := 60) (b := qn M c) (by decide) (by omega)
      rw [show (zn 60 : Int32) = 60 from rfl] at this
      rw [this] at q3
      omega
    have b1 : zz_inb (zn (qn M c)) 60 = true := zn_inT q4 (by decide)
    have x1 : zz_ix (zn (qn M c)) = qn M c := zn_ix (by omega)
    have z1 : zz_b01 (1 : Int32) = true := rfl
    have g : ∀ a y i k, (zz_sI (zz_sI M a i y) (a - 1) k x).1 = fun p q => if p = a - 1 ∧ q = k then x else if p = a ∧ q = i then y else M.1 p q := fun _ _ _ _ => rfl
    rcases zc8 hc with rfl | rfl | rfl | rfl | rfl | rfl | rfl | rfl <;> ((simp only [Nat.reduceAdd, Nat.reduceMul, Nat.mul_zero, Nat.add_zero] at *; simp only [e_X2_enqueue, zo_iload, zo_lload, zo_aload, zo_istore, zo_lstore, zo_astore, zo_iinc, zo_pushI, zo_pushL, zo_null, zo_ii, zo_iid, zo_ll, zo_li, zo_lcmp, zo_i2l, zo_l2i, zo_dup, zo_dup2, zo_pop, zo_goto, zo_if, zo_icmp, zo_ifnull, zo_gets, zo_mm, zo_throw, zo_ret, zo_aret, zo_lret, q_iret_f, q_iret_1, q_iret_0, q_iret_b, q_c8_0, q_c8_1, q_c8_2, q_c8_3, q_c8_4, q_set_0, q_set_1i, q_set_1r, q_set_1n, q_set_1N, q_set_s, q_set_1j, q_bk_v, q_bk_n, q_if, zb_ite, cond_true, cond_false, List.getElem?_cons_zero, List.getElem?_cons_succ, Nat.reduceAdd, c1, c2, c3, c4, i1, q_aC, z1, sI_1, q1, q3, b1, x1, Nat.reduceEqDiff, if_true, if_false, zb_eq0, zb_eq1, zn_1, not_true_eq_false, not_false_eq_true, ite_true, ite_false, if_true, if_false, q_iret_0, q_iret_1, decide_true, decide_false, decide_not, zb_t, zb_f, z10, z01, cond_true, cond_false, Bool.and_true, Bool.true_and, Bool.and_false, Bool.false_and, Bool.not_true, Bool.not_false, true_and, and_true, false_and, and_false, true_or, or_true, false_or, or_false, Bool.true_eq_false, Bool.false_eq_true, eq_self, reduceCtorEq]))
  · rw [if_pos (show enqNo M c x from Or.inr (Or.inr (Or.inr c4)))]
    rcases zc8 hc with rfl | rfl | rfl | rfl | rfl | rfl | rfl | rfl <;> (simp only [Nat.reduceAdd, Nat.reduceMul, Nat.mul_zero, Nat.add_zero] at *; simp only [e_X2_enqueue, zo_iload, zo_lload, zo_aload, zo_istore, zo_lstore, zo_astore, zo_iinc, zo_pushI, zo_pushL, zo_null, zo_ii, zo_iid, zo_ll, zo_li, zo_lcmp, zo_i2l, zo_l2i, zo_dup, zo_dup2, zo_pop, zo_goto, zo_if, zo_icmp, zo_ifnull, zo_gets, zo_mm, zo_throw, zo_ret, zo_aret, zo_lret, q_iret_f, q_iret_1, q_iret_0, q_iret_b, q_c8_0, q_c8_1, q_c8_2, q_c8_3, q_c8_4, q_set_0, q_set_1i, q_set_1r, q_set_1n, q_set_1N, q_set_s, q_set_1j, q_bk_v, q_bk_n, q_if, zb_ite, cond_true, cond_false, List.getElem?_cons_zero, List.getElem?_cons_succ, Nat.reduceAdd, c1, c2, c3, c4, i1, q_aC, if_true, if_false, zb_eq0, zb_eq1, zn_1, not_true_eq_false, not_false_eq_true, ite_true, ite_false, if_true, if_false, q_iret_0, q_iret_1, decide_true, decide_false, decide_not, zb_t, zb_f, z10, z01, cond_true, cond_false, Bool.and_true, Bool.true_and, Bool.and_false, Bool.false_and, Bool.not_true, Bool.not_false, true_and, and_true, false_and, and_false, true_or, or_true, false_or, or_false, Bool.true_eq_false, Bool.false_eq_true, eq_self, reduceCtorEq])
/-- the queue's state stays good -/
theorem zIC_q {A B : zzMd} {c : Nat} (hc : c < 8) (h : zIC A) (h1 : ∀ a b, a ≠ 3 + c ∨ b ≠ 11 → a ≠ 22 + 6 * c → a ≠ 23 + 6 * c → a ≠ 24 + 6 * c → a ≠ 25 + 6 * c → a ≠ 26 + 6 * c → B.1 a b = A.1 a b) (h2 : zIQ B c) : zIC B := by
  have k1 : ∀ a b, a ≠ 3 + c → a ≤ 2 ∨ a = 14 ∨ a = 15 ∨ a = 18 ∨ a = 19 → B.1 a b = A.1 a b := fun a b h3 h4 => h1 a b (Or.inl h3) (by omega) (by omega) (by omega) (by omega) (by omega)
  obtain ⟨a1, a2, a3⟩ := h
  refine ⟨?_, ?_, fun d hd => ?_⟩
  · unfold zIV nv ve at a1 ⊢
    simp only [k1 1 _ (by omega) (by omega), k1 15 _ (by omega) (by omega)]
    exact a1
  · unfold zAd nr nc rP cP at a2 ⊢
    simp only [k1 2 _ (by omega) (by omega), k1 18 _ (by omega) (by omega), k1 19 _ (by omega) (by omega)]
    exact a2
  · obtain ⟨b1, b2⟩ := a3 d hd
    have k2 : ∀ b, b ≠ 11 → B.1 (3 + d) b = A.1 (3 + d) b := fun b hb => h1 _ _ (Or.inr hb) (by omega) (by omega) (by omega) (by omega) (by omega)
    have k3 : ∀ b, B.1 (21 + 6 * d) b = A.1 (21 + 6 * d) b := fun b => h1 _ _ (Or.inl (by omega)) (by omega) (by omega) (by omega) (by omega) (by omega)
    refine ⟨?_, ?_⟩
    · unfold zIV nv ve at b1 ⊢
      simp only [k2 2 (by decide), k2 3 (by decide), k3]
      exact b1
    · by_cases hdc : d = c
      · rw [hdc]; exact h2
      · have k4 : ∀ b, B.1 (3 + d) b = A.1 (3 + d) b := fun b => h1 _ _ (Or.inl (by omega)) (by omega) (by omega) (by omega) (by omega) (by omega)
        have k5 : ∀ b, B.1 (22 + 6 * d) b = A.1 (22 + 6 * d) b := fun b => h1 _ _ (Or.inl (by omega)) (by omega) (by omega) (by omega) (by omega) (by omega)
        unfold zIQ qn qk at b2 ⊢
        simp only [k4, k5]
        exact b2
theorem enq_q {A : zzMd} {c : Nat} {x : Int32} (W : zIC A) (hc : c < 8) (hn : ¬ enqNo A c x) : x = zn (zz_ix x) ∧ zz_ix x < 60 ∧ qn A c < 60 := by
  have c1 : ¬ x < 0 := fun z => hn (Or.inl z)
  have c2 : ¬ 60 ≤ x := fun z => hn (Or.inr (Or.inl z))
  have c3 : ¬ 60 ≤ A.1 (3 + c) 11 := fun z => hn (Or.inr (Or.inr (Or.inl z)))
  obtain ⟨a1, a2⟩ := zi_nat c1 c2
  obtain ⟨⟨q1, q2⟩, -⟩ := (W.2.2 c hc).2
  refine ⟨a1, a2, ?_⟩
  have q3 : ¬ (60 : Int32) ≤ zn (qn A c) := by rw [← q1]; exact c3
  have := zn_le (a := 60) (b := qn A c) (by decide) (by omega)
  rw [show (zn 60 : Int32) = 60 from rfl] at this
  rw [this] at q3
  omega
theorem Enq_1 {A : zzMd} {c : Nat} {x : Int32} (hn : ¬ enqNo A c x) (a b : Nat) : (aEnq A c x).1 a b = if a = 3 + c ∧ b = 11 then zn (qn A c + 1) else if a = 22 + 6 * c ∧ b = qn A c then x else if a = 23 + 6 * c ∧ b = zz_ix x then 1 else A.1 a b := by
  unfold aEnq
  rw [if_neg hn]
  rfl
theorem zIC_Enq {A : zzMd} {c : Nat} (hc : c < 8) (x : Int32) (W : zIC A) : zIC (aEnq A c x) := by
  by_cases hn : enqNo A c x
  · unfold aEnq; rw [if_pos hn]; exact W
  · obtain ⟨e1, e2, e3⟩ := enq_q W hc hn
    refine zIC_q hc W (fun a b h1 h2 h3 _ _ _ => ?_) ?_
    · rw [Enq_1 hn, if_neg (fun z => h1.elim (fun q => q z.1) (fun q => q z.2)), if_neg (fun z => h2 z.1), if_neg (fun z => h3 z.1)]
    · obtain ⟨-, q3⟩ := (W.2.2 c hc).2
      have e4 : (aEnq A c x).1 (3 + c) 11 = zn (qn A c + 1) := by rw [Enq_1 hn, if_pos ⟨rfl, rfl⟩]
      have e5 : qn (aEnq A c x) c = qn A c + 1 := by unfold qn; rw [e4, zn_ix (by omega)]; rfl
      refine ⟨⟨by rw [e4, e5], by omega⟩, fun p hp => ?_⟩
      rw [e5] at hp
      unfold qk
      rw [Enq_1 hn, if_neg (by omega)]
      by_cases hpq : p = qn A c
      · rw [if_pos ⟨rfl, hpq⟩]
        exact ⟨e1, e2⟩
      · rw [if_neg (by omega), if_neg (by omega)]
        exact q3 p (by omega)
/-- what a queue's change leaves -/
theorem Enq_o {A : zzMd} {c : Nat} (x : Int32) {a b : Nat} (h1 : a ≠ 3 + c ∨ b ≠ 11) (h2 : a ≠ 22 + 6 * c) (h3 : a ≠ 23 + 6 * c) : (aEnq A c x).1 a b = A.1 a b := by
  by_cases hn : enqNo A c x
  · unfold aEnq; rw [if_pos hn]
  · rw [Enq_1 hn, if_neg (fun z => h1.elim (fun q => q z.1) (fun q => q z.2)), if_neg (fun z => h2 z.1), if_neg (fun z => h3 z.1)]
theorem sp_keyAt {M : zzMd} (W : zIC M) {c : Nat} (hc : c < 8) (x : Int32) : fX2_keyAt [.ref (3 + c), .int x] M = some (.inl (some (.int (if x < 0 ∨ M.1 (3 + c) 11 ≤ x then -1 else M.1 (22 + 6 * c) (zz_ix x)))), M) := by
  obtain ⟨⟨q1, q2⟩, -⟩ := (W.2.2 c hc).2
  rw [s_X2_keyAt]
  by_cases c1 : x < 0
  · rw [if_pos (Or.inl c1)]
    rcases zc8 hc with rfl | rfl | rfl | rfl | rfl | rfl | rfl | rfl <;> (simp only [Nat.reduceAdd, Nat.reduceMul, Nat.mul_zero, Nat.add_zero] at *; simp only [e_X2_keyAt, zo_iload, zo_lload, zo_aload, zo_istore, zo_lstore, zo_astore, zo_iinc, zo_pushI, zo_pushL, zo_null, zo_ii, zo_iid, zo_ll, zo_li, zo_lcmp, zo_i2l, zo_l2i, zo_dup, zo_dup2, zo_pop, zo_goto, zo_if, zo_icmp, zo_ifnull, zo_gets, zo_mm, zo_throw, zo_ret, zo_aret, zo_lret, q_iret_f, q_iret_1, q_iret_0, q_iret_b, q_c8_0, q_c8_1, q_c8_2, q_c8_3, q_c8_4, q_set_0, q_set_1i, q_set_1r, q_set_1n, q_set_1N, q_set_s, q_set_1j, q_bk_v, q_bk_n, q_if, zb_ite, cond_true, cond_false, List.getElem?_cons_zero, List.getElem?_cons_succ, Nat.reduceAdd, c1, if_true, if_false, zb_eq0, zb_eq1, zn_1, not_true_eq_false, not_false_eq_true, ite_true, ite_false, if_true, if_false, q_iret_0, q_iret_1, decide_true, decide_false, decide_not, zb_t, zb_f, z10, z01, cond_true, cond_false, Bool.and_true, Bool.true_and, Bool.and_false, Bool.false_and, Bool.not_true, Bool.not_false, true_and, and_true, false_and, and_false, true_or, or_true, false_or, or_false, Bool.true_eq_false, Bool.false_eq_true, eq_self, reduceCtorEq])
  by_cases c2 : M.1 (3 + c) 11 ≤ x
  · rw [if_pos (Or.inr c2)]
    rcases zc8 hc with rfl | rfl | rfl | rfl | rfl | rfl | rfl | rfl <;> (simp only [Nat.reduceAdd, Nat.reduceMul, Nat.mul_zero, Nat.add_zero] at *; simp only [e_X2_keyAt, zo_iload, zo_lload, zo_aload, zo_istore, zo_lstore, zo_astore, zo_iinc, zo_pushI, zo_pushL, zo_null, zo_ii, zo_iid, zo_ll, zo_li, zo_lcmp, zo_i2l, zo_l2i, zo_dup, zo_dup2, zo_pop, zo_goto, zo_if, zo_icmp, zo_ifnull, zo_gets, zo_mm, zo_throw, zo_ret, zo_aret, zo_lret, q_iret_f, q_iret_1, q_iret_0, q_iret_b, q_c8_0, q_c8_1, q_c8_2, q_c8_3, q_c8_4, q_set_0, q_set_1i, q_set_1r, q_set_1n, q_set_1N, q_set_s, q_set_1j, q_bk_v, q_bk_n, q_if, zb_ite, cond_true, cond_false, List.getElem?_cons_zero, List.getElem?_cons_succ, Nat.reduceAdd, c1, c2, if_true, if_false, zb_eq0, zb_eq1, zn_1, not_true_eq_false, not_false_eq_true, ite_true, ite_false, if_true, if_false, q_iret_0, q_iret_1, decide_true, decide_false, decide_not, zb_t, zb_f, z10, z01, cond_true, cond_false, Bool.and_true, Bool.true_and, Bool.and_false, Bool.false_and, Bool.not_true, Bool.not_false, true_and, and_true, false_and, and_false, true_or, or_true, false_or, or_false, Bool.true_eq_false, Bool.false_eq_true, eq_self, reduceCtorEq])
  rw [if_neg (by rintro (a | a); exact c1 a; exact c2 a)]
  have c3 : ¬ zn (qn M c) ≤ x := by rw [← q1]; exact c2
  obtain ⟨a1, a2⟩ := zi_rng c1 c3
  rw [zn_toInt (by omega)] at a2
  have i1 : zz_inb x 60 = true := by rw [a1]; exact zn_inT (by omega) (by decide)
  rcases zc8 hc with rfl | rfl | rfl | rfl | rfl | rfl | rfl | rfl <;> (simp only [Nat.reduceAdd, Nat.reduceMul, Nat.mul_zero, Nat.add_zero] at *; simp only [e_X2_keyAt, zo_iload, zo_lload, zo_aload, zo_istore, zo_lstore, zo_astore, zo_iinc, zo_pushI, zo_pushL, zo_null, zo_ii, zo_iid, zo_ll, zo_li, zo_lcmp, zo_i2l, zo_l2i, zo_dup, zo_dup2, zo_pop, zo_goto, zo_if, zo_icmp, zo_ifnull, zo_gets, zo_mm, zo_throw, zo_ret, zo_aret, zo_lret, q_iret_f, q_iret_1, q_iret_0, q_iret_b, q_c8_0, q_c8_1, q_c8_2, q_c8_3, q_c8_4, q_set_0, q_set_1i, q_set_1r, q_set_1n, q_set_1N, q_set_s, q_set_1j, q_bk_v, q_bk_n, q_if, zb_ite, cond_true, cond_false, List.getElem?_cons_zero, List.getElem?_cons_succ, Nat.reduceAdd, c1, c2, q_aC, i1, if_true, if_false, zb_eq0, zb_eq1, zn_1, not_true_eq_false, not_false_eq_true, ite_true, ite_false, if_true, if_false, q_iret_0, q_iret_1, decide_true, decide_false, decide_not, zb_t, zb_f, z10, z01, cond_true, cond_false, Bool.and_true, Bool.true_and, Bool.and_false, Bool.false_and, Bool.not_true, Bool.not_false, true_and, and_true, false_and, and_false, true_or, or_true, false_or, or_false, Bool.true_eq_false, Bool.false_eq_true, eq_self, reduceCtorEq])
def ownKey (A : zzMd) (c : Nat) (x : Int32) : Bool := decide (A.1 (3 + c) 5 = -1 ∨ rd A (3 + c) x 23 = A.1 (3 + c) 5)
theorem sp_isOwnKey {M : zzMd} (W : zIC M) {c : Nat} (hc : c < 8) (x : Int32) : fX2_isOwnKey [.ref (3 + c), .int x] M = some (.inl (some (.int (zb (ownKey M c x)))), M) := by
  have hr := fun x s => sp_read' (zIC_W (zcV hc) W) x s
  rw [s_X2_isOwnKey]
  unfold ownKey
  by_cases c1 : M.1 (3 + c) 5 = -1
  · rcases zc8 hc with rfl | rfl | rfl | rfl | rfl | rfl | rfl | rfl <;> (simp only [Nat.reduceAdd, Nat.reduceMul, Nat.mul_zero, Nat.add_zero] at *; simp only [e_X2_isOwnKey, zo_iload, zo_lload, zo_aload, zo_istore, zo_lstore, zo_astore, zo_iinc, zo_pushI, zo_pushL, zo_null, zo_ii, zo_iid, zo_ll, zo_li, zo_lcmp, zo_i2l, zo_l2i, zo_dup, zo_dup2, zo_pop, zo_goto, zo_if, zo_icmp, zo_ifnull, zo_gets, zo_mm, zo_throw, zo_ret, zo_aret, zo_lret, q_iret_f, q_iret_1, q_iret_0, q_iret_b, q_c8_0, q_c8_1, q_c8_2, q_c8_3, q_c8_4, q_set_0, q_set_1i, q_set_1r, q_set_1n, q_set_1N, q_set_s, q_set_1j, q_bk_v, q_bk_n, q_if, zb_ite, cond_true, cond_false, List.getElem?_cons_zero, List.getElem?_cons_succ, Nat.reduceAdd, c1, hr, if_true, if_false, zb_eq0, zb_eq1, zn_1, not_true_eq_false, not_false_eq_true, ite_true, ite_false, if_true, if_false, q_iret_0, q_iret_1, decide_true, decide_false, decide_not, zb_t, zb_f, z10, z01, cond_true, cond_false, Bool.and_true, Bool.true_and, Bool.and_false, Bool.false_and, Bool.not_true, Bool.not_false, true_and, and_true, false_and, and_false, true_or, or_true, false_or, or_false, Bool.true_eq_false, Bool.false_eq_true, eq_self, reduceCtorEq])
  · by_cases c2 : rd M (3 + c) x 23 = M.1 (3 + c) 5
    · rcases zc8 hc with rfl | rfl | rfl | rfl | rfl | rfl | rfl | rfl <;> (simp only [Nat.reduceAdd, Nat.reduceMul, Nat.mul_zero, Nat.add_zero] at *; simp only [e_X2_isOwnKey, zo_iload, zo_lload, zo_aload, zo_istore, zo_lstore, zo_astore, zo_iinc, zo_pushI, zo_pushL, zo_null, zo_ii, zo_iid, zo_ll, zo_li, zo_lcmp, zo_i2l, zo_l2i, zo_dup, zo_dup2, zo_pop, zo_goto, zo_if, zo_icmp, zo_ifnull, zo_gets, zo_mm, zo_throw, zo_ret, zo_aret, zo_lret, q_iret_f, q_iret_1, q_iret_0, q_iret_b, q_c8_0, q_c8_1, q_c8_2, q_c8_3, q_c8_4, q_set_0, q_set_1i, q_set_1r, q_set_1n, q_set_1N, q_set_s, q_set_1j, q_bk_v, q_bk_n, q_if, zb_ite, cond_true, cond_false, List.getElem?_cons_zero, List.getElem?_cons_succ, Nat.reduceAdd, c1, hr, c2, if_true, if_false, zb_eq0, zb_eq1, zn_1, not_true_eq_false, not_false_eq_true, ite_true, ite_false, if_true, if_false, q_iret_0, q_iret_1, decide_true, decide_false, decide_not, zb_t, zb_f, z10, z01, cond_true, cond_false, Bool.and_true, Bool.true_and, Bool.and_false, Bool.false_and, Bool.not_true, Bool.not_false, true_and, and_true, false_and, and_false, true_or, or_true, false_or, or_false, Bool.true_eq_false, Bool.false_eq_true, eq_self, reduceCtorEq])
    · rcases zc8 hc with rfl | rfl | rfl | rfl | rfl | rfl | rfl | rfl <;> (simp only [Nat.reduceAdd, Nat.reduceMul, Nat.mul_zero, Nat.add_zero] at *; simp only [e_X2_isOwnKey, zo_iload, zo_lload, zo_aload, zo_istore, zo_lstore, zo_astore, zo_iinc, zo_pushI, zo_pushL, zo_null, zo_ii, zo_iid, zo_ll, zo_li, zo_lcmp, zo_i2l, zo_l2i, zo_dup, zo_dup2, zo_pop, zo_goto, zo_if, zo_icmp, zo_ifnull, zo_gets, zo_mm, zo_throw, zo_ret, zo_aret, zo_lret, q_iret_f, q_iret_1, q_iret_0, q_iret_b, q_c8_0, q_c8_1, q_c8_2, q_c8_3, q_c8_4, q_set_0, q_set_1i, q_set_1r, q_set_1n, q_set_1N, q_set_s, q_set_1j, q_bk_v, q_bk_n, q_if, zb_ite, cond_true, cond_false, List.getElem?_cons_zero, List.getElem?_cons_succ, Nat.reduceAdd, c1, hr, c2, if_true, if_false, zb_eq0, zb_eq1, zn_1, not_true_eq_false, not_false_eq_true, ite_true, ite_false, if_true, if_false, q_iret_0, q_iret_1, decide_true, decide_false, decide_not, zb_t, zb_f, z10, z01, cond_true, cond_false, Bool.and_true, Bool.true_and, Bool.and_false, Bool.false_and, Bool.not_true, Bool.not_false, true_and, and_true, false_and, and_false, true_or, or_true, false_or, or_false, Bool.true_eq_false, Bool.false_eq_true, eq_self, reduceCtorEq])
/-- the first key whose time has come -/
def kdue (A : zzMd) (c p : Nat) : Bool := !decide (A.1 1 7 < A.1 (25 + 6 * c) (qk A c p))
def aTk (A : zzMd) (c p : Nat) : zzMd := zz_sI (zz_sI (zz_cpI A (22 + 6 * c) (p + 1) (22 + 6 * c) p (qn A c - p - 1)) (3 + c) 11 (zn (qn A c - 1))) (23 + 6 * c) (qk A c p) 0
theorem zn_sub {a b : Nat} (h : b ≤ a) : zn a - zn b = zn (a - b) := by
  have h1 := zn_add (a - b) b
  rw [Nat.sub_add_cancel h] at h1
  rw [← h1]
  simp
theorem sp_takeKey {M : zzMd} (W : zIC M) {c : Nat} (hc : c < 8) : fX2_takeKey [.ref (3 + c)] M = match zfst (qn M c) (kdue M c) with
    | some p => some (.inl (some (.int (zn (qk M c p)))), aTk M c p)
    | none => some (.inl (some (.int (-1))), M) := by
  obtain ⟨⟨q1, q2⟩, q3⟩ := (W.2.2 c hc).2
  obtain ⟨j, lp⟩ := zl_fstJ (E := fun i (j : Option Int32) => zz_ev tX2_takeKey 2 [some (.ref (3 + c)), some (.int (zn i)), zj j] [] M) (P := kdue M c) (r := fun p => some (.inl (some (.int (zn (qk M c p)))), aTk M c p)) (qn M c) (fun i hi j => by
    have hcc := zk_in hi q2
    obtain ⟨q4, q5⟩ := q3 i hi
    refine ⟨some (zn (qk M c i)), ?_⟩
    have b1 : zz_inb (zn i) 60 = true := zn_inT (by omega) (by decide)
    have x1 : zz_ix (zn i) = i := zn_ix (by omega)
    have b2 : zz_inb (zn (qk M c i)) 60 = true := zn_inT (by omega) (by decide)
    have x2 : zz_ix (zn (qk M c i)) = qk M c i := zn_ix (by omega)
    have x3 : zz_ix (zn (i + 1)) = i + 1 := zn_ix (by omega)
    have x4 : zz_ix (zn (qn M c - i - 1)) = qn M c - i - 1 := zn_ix (by omega)
    have e1 : zn (qn M c) - zn i = zn (qn M c - i) := zn_sub (by omega)
    have e2 : zn (qn M c - i) - 1 = zn (qn M c - i - 1) := zn_sub (b := 1) (by omega)
    have e3 : zn (qn M c) - 1 = zn (qn M c - 1) := zn_sub (b := 1) (by omega)
    have z1 : zz_b01 (0 : Int32) = true := rfl
    have hq : (0 ≤ (zn (i + 1)).toInt ∧ 0 ≤ (zn i).toInt ∧ 0 ≤ (zn (qn M c - i - 1)).toInt ∧ i + 1 + (qn M c - i - 1) ≤ 60 ∧ i + (qn M c - i - 1) ≤ 60) = True := eq_true (by
      rw [zn_toInt (by omega), zn_toInt (by omega), zn_toInt (by omega)]
      refine ⟨by omega, by omega, by omega, by omega, by omega⟩)
    have hcp : ∀ a s d n b, (zz_cpI M a s a d n).1 (3 + c) b = if 3 + c = a ∧ d ≤ b ∧ b < d + n then M.1 a (s + (b - d)) else M.1 (3 + c) b := fun _ _ _ _ _ => rfl
    unfold kdue aTk
    by_cases c1 : M.1 1 7 < M.1 (25 + 6 * c) (qk M c i) <;> rcases zc8 hc with rfl | rfl | rfl | rfl | rfl | rfl | rfl | rfl <;>
      (rw [e_X2_takeKey_2]; (simp only [Nat.reduceAdd, Nat.reduceMul, Nat.mul_zero, Nat.add_zero] at *; simp only [e_X2_takeKey, zo_iload, zo_lload, zo_aload, zo_istore, zo_lstore, zo_astore, zo_iinc, zo_pushI, zo_pushL, zo_null, zo_ii, zo_iid, zo_ll, zo_li, zo_lcmp, zo_i2l, zo_l2i, zo_dup, zo_dup2, zo_pop, zo_goto, zo_if, zo_icmp, zo_ifnull, zo_gets, zo_mm, zo_throw, zo_ret, zo_aret, zo_lret, q_iret_f, q_iret_1, q_iret_0, q_iret_b, q_c8_0, q_c8_1, q_c8_2, q_c8_3, q_c8_4, q_set_0, q_set_1i, q_set_1r, q_set_1n, q_set_1N, q_set_s, q_set_1j, q_bk_v, q_bk_n, q_if, zb_ite, cond_true, cond_false, List.getElem?_cons_zero, List.getElem?_cons_succ, Nat.reduceAdd, zj_some, q1, q_aC, hcc, q4, b1, x1, b2, x2, c1, e1, e2, e3, x3, x4, hq, hcp, Nat.reduceEqDiff, z1, if_true, if_false, zb_eq0, zb_eq1, zn_1, not_true_eq_false, not_false_eq_true, ite_true, ite_false, if_true, if_false, q_iret_0, q_iret_1, decide_true, decide_false, decide_not, zb_t, zb_f, z10, z01, cond_true, cond_false, Bool.and_true, Bool.true_and, Bool.and_false, Bool.false_and, Bool.not_true, Bool.not_false, true_and, and_true, false_and, and_false, true_or, or_true, false_or, or_false, Bool.true_eq_false, Bool.false_eq_true, eq_self, reduceCtorEq]))) none
  have st : fX2_takeKey [.ref (3 + c)] M = zz_ev tX2_takeKey 2 [some (.ref (3 + c)), some (.int (zn 0)), zj none] [] M := by
    rw [s_X2_takeKey]
    rcases zc8 hc with rfl | rfl | rfl | rfl | rfl | rfl | rfl | rfl <;> ((simp only [Nat.reduceAdd, Nat.reduceMul, Nat.mul_zero, Nat.add_zero] at *; simp only [e_X2_takeKey, zo_iload, zo_lload, zo_aload, zo_istore, zo_lstore, zo_astore, zo_iinc, zo_pushI, zo_pushL, zo_null, zo_ii, zo_iid, zo_ll, zo_li, zo_lcmp, zo_i2l, zo_l2i, zo_dup, zo_dup2, zo_pop, zo_goto, zo_if, zo_icmp, zo_ifnull, zo_gets, zo_mm, zo_throw, zo_ret, zo_aret, zo_lret, q_iret_f, q_iret_1, q_iret_0, q_iret_b, q_c8_0, q_c8_1, q_c8_2, q_c8_3, q_c8_4, q_set_0, q_set_1i, q_set_1r, q_set_1n, q_set_1N, q_set_s, q_set_1j, q_bk_v, q_bk_n, q_if, zb_ite, cond_true, cond_false, List.getElem?_cons_zero, List.getElem?_cons_succ, Nat.reduceAdd, if_true, if_false, zb_eq0, zb_eq1, zn_1, not_true_eq_false, not_false_eq_true, ite_true, ite_false, if_true, if_false, q_iret_0, q_iret_1, decide_true, decide_false, decide_not, zb_t, zb_f, z10, z01, cond_true, cond_false, Bool.and_true, Bool.true_and, Bool.and_false, Bool.false_and, Bool.not_true, Bool.not_false, true_and, and_true, false_and, and_false, true_or, or_true, false_or, or_false, Bool.true_eq_false, Bool.false_eq_true, eq_self, reduceCtorEq]); rfl)
  rw [st, lp]
  cases zfst (qn M c) (kdue M c) with
  | some p => rfl
  | none =>
    have hcc := zk_out q2
    show zz_ev tX2_takeKey 2 [some (.ref (3 + c)), some (.int (zn (qn M c))), zj j] [] M = some (.inl (some (.int (-1))), M)
    rcases zc8 hc with rfl | rfl | rfl | rfl | rfl | rfl | rfl | rfl <;> (rw [e_X2_takeKey_2]; (simp only [Nat.reduceAdd, Nat.reduceMul, Nat.mul_zero, Nat.add_zero] at *; simp only [e_X2_takeKey, zo_iload, zo_lload, zo_aload, zo_istore, zo_lstore, zo_astore, zo_iinc, zo_pushI, zo_pushL, zo_null, zo_ii, zo_iid, zo_ll, zo_li, zo_lcmp, zo_i2l, zo_l2i, zo_dup, zo_dup2, zo_pop, zo_goto, zo_if, zo_icmp, zo_ifnull, zo_gets, zo_mm, zo_throw, zo_ret, zo_aret, zo_lret, q_iret_f, q_iret_1, q_iret_0, q_iret_b, q_c8_0, q_c8_1, q_c8_2, q_c8_3, q_c8_4, q_set_0, q_set_1i, q_set_1r, q_set_1n, q_set_1N, q_set_s, q_set_1j, q_bk_v, q_bk_n, q_if, zb_ite, cond_true, cond_false, List.getElem?_cons_zero, List.getElem?_cons_succ, Nat.reduceAdd, q1, hcc, if_true, if_false, zb_eq0, zb_eq1, zn_1, not_true_eq_false, not_false_eq_true, ite_true, ite_false, if_true, if_false, q_iret_0, q_iret_1, decide_true, decide_false, decide_not, zb_t, zb_f, z10, z01, cond_true, cond_false, Bool.and_true, Bool.true_and, Bool.and_false, Bool.false_and, Bool.not_true, Bool.not_false, true_and, and_true, false_and, and_false, true_or, or_true, false_or, or_false, Bool.true_eq_false, Bool.false_eq_true, eq_self, reduceCtorEq]))
end

section
/-! a controller works once, in both -/
section
variable {A B R S : zzMd} {c o : Nat}
theorem Rl0_take (H : rAt A R c) {p : Nat} (hp : p < qn A c) (hd : kdue A c p = true) : rAt (aTk A c p) (rTk R c (qn A c) p (qn A c - 1)) c ∧ ¬ inQ (aTk A c p) c (qk A c p) := by
  have hc := H.2.2
  obtain ⟨q1, q2, q3, q4⟩ := rq_of H
  have hq := ((H.1.1.2.2.2 c hc).2).1
  have hn6 := rl_n60 H.1
  have e11 : (aTk A c p).1 (3 + c) 11 = zn (qn A c - 1) := by rw [aTk_1, if_neg (by omega), if_pos ⟨rfl, rfl⟩]
  have en : qn (aTk A c p) c = qn A c - 1 := by
    show zz_ix ((aTk A c p).1 (3 + c) 11) = _
    rw [e11]; exact zn_ix (by omega)
  have ek : ∀ i, i < qn A c - 1 → qk (aTk A c p) c i = qk A c (if p ≤ i then i + 1 else i) := fun i hi => by
    show zz_ix ((aTk A c p).1 (22 + 6 * c) i) = zz_ix (A.1 (22 + 6 * c) _)
    rw [aTk_1, if_neg (by omega), if_neg (by omega)]
    by_cases h1 : p ≤ i
    · rw [if_pos ⟨rfl, h1, by omega⟩, if_pos h1, show p + 1 + (i - p) = i + 1 by omega]
    · rw [if_neg (by omega), if_neg h1]
  have hin : ∀ b, inQ (aTk A c p) c b ↔ inQ A c b ∧ b ≠ qk A c p := fun b => by
    unfold inQ
    rw [en]
    constructor
    · rintro ⟨i, i1, i2⟩
      rw [ek i i1] at i2
      refine ⟨⟨if p ≤ i then i + 1 else i, by split <;> omega, i2⟩, fun z => ?_⟩
      have := q3 (if p ≤ i then i + 1 else i) p (by split <;> omega) hp (i2.trans z)
      revert this
      split <;> omega
    · rintro ⟨⟨i, i1, i2⟩, hne⟩
      have hip : i ≠ p := fun z => hne (by rw [← i2, z])
      rcases Nat.lt_or_gt_of_ne hip with h | h
      · exact ⟨i, by omega, by rw [ek i (by omega), if_neg (by omega)]; exact i2⟩
      · exact ⟨i - 1, by omega, by rw [ek (i - 1) (by omega), if_pos (by omega), show i - 1 + 1 = i by omega]; exact i2⟩
  have hA : ∀ a b, a ≠ 3 + c ∨ b ≠ 11 → a ≠ 22 + 6 * c → a ≠ 23 + 6 * c → (aTk A c p).1 a b = A.1 a b := fun a b h1 h2 h3 => by rw [aTk_1, if_neg (by omega), if_neg (by omega), if_neg (by omega)]
  have hR : ∀ a b, a ≠ 31 ∨ b ≠ c → a ≠ 32 ∨ b < 60 * c ∨ 60 * c + 60 ≤ b → (rTk R c (qn A c) p (qn A c - 1)).1 a b = R.1 a b := fun a b h1 h2 => by rw [rTk_1, if_neg (by omega), if_neg (by omega)]
  refine ⟨⟨Rl0_q hc H.1 (zIC_Tk hc hp H.1.1.2) (fun a b h1 h2 h3 _ _ _ => hA a b h1 h2 h3) (fun a b h1 h2 h3 => hR a b h1 (by omega)) rfl ⟨?_, fun i hi => ?_, fun i j hi hj e => ?_, fun b hb => ?_⟩, (hR _ _ (Or.inl (by decide)) (Or.inl (by decide))).trans H.2.1, hc⟩, fun z => ((hin _).mp z).2 rfl⟩
  · rw [en, rTk_1, if_pos ⟨rfl, rfl⟩]
  · rw [en] at hi
    rw [ek i hi, rTk_1, if_neg (by omega), show nv (aTk A c p) 1 = nv A 1 from congrArg zz_ix (hA _ _ (Or.inl (by omega)) (by omega) (by omega))]
    by_cases h1 : p ≤ i
    · rw [if_pos (by omega), if_pos h1]; exact q2 (i + 1) (by omega)
    · rw [if_neg (by omega), if_neg h1]; exact q2 i (by omega)
  · rw [en] at hi hj
    rw [ek i hi, ek j hj] at e
    have := q3 _ _ (by split <;> omega) (by split <;> omega) e
    revert this
    split <;> split <;> omega
  · obtain ⟨z1, f, d, w, z2, z3, z4, z5, z6, z7⟩ := q4 b hb
    have h60 : qk A c p < 60 := by have := (q2 p hp).2; omega
    have hnow : now (aTk A c p) = now A := congrArg zz_ix (hA _ _ (Or.inl (by omega)) (by omega) (by omega))
    have hve : ve (aTk A c p) 1 = ve A 1 := congrArg zz_ix (hA _ _ (Or.inl (by omega)) (by omega) (by omega))
    unfold RQo
    rw [hin, hA (24 + 6 * c) b (Or.inl (by omega)) (by omega) (by omega), hA (25 + 6 * c) b (Or.inl (by omega)) (by omega) (by omega), hA (26 + 6 * c) b (Or.inl (by omega)) (by omega) (by omega), hR 33 _ (Or.inl (by decide)) (Or.inl (by decide)), hR 34 _ (Or.inl (by decide)) (Or.inl (by decide)), hR 35 _ (Or.inl (by decide)) (Or.inl (by decide)), hnow, hve]
    have k23 : (aTk A c p).1 (23 + 6 * c) b = if b = qk A c p then 0 else A.1 (23 + 6 * c) b := by
      rw [aTk_1]
      by_cases e : b = qk A c p
      · rw [if_pos ⟨rfl, e⟩, if_pos e]
      · rw [if_neg (fun y => e y.2), if_neg (by omega), if_neg (by omega), if_neg e]
    rw [k23]
    by_cases e : b = qk A c p
    · rw [if_pos e]
      refine ⟨Or.inr ⟨rfl, fun y => y.2 e⟩, f, d, w, z2, z3, z4, z5, fun y => absurd e y.2, fun _ => ?_⟩
      unfold kdue at hd
      rw [← e, z3, H.1.2.2.2.2.2.1.1] at hd
      have hd' : ¬ zn (now A) < zn d := by simpa using hd
      have h10 := H.1.2.2.2.2.2.1.2.1
      rw [zn_lt (a := now A) (b := d) (by omega) (by omega)] at hd'
      omega
    · rw [if_neg e]
      refine ⟨?_, f, d, w, z2, z3, z4, z5, fun y => z6 y.1, fun y => z7 fun x => y ⟨x, e⟩⟩
      rcases z1 with ⟨y1, y2⟩ | ⟨y1, y2⟩
      · exact Or.inl ⟨y1, y2, e⟩
      · exact Or.inr ⟨y1, fun y => y2 y.1⟩
/-- put off by time -/
def erl (A : zzMd) (c o : Nat) : Bool := decide (c = 7) && ((stay A 10 (zn o) 0 && decide (0 < rd A 10 (zn o) 5)) && (!decide (rd A 10 (zn o) 0 ≤ goalS A o) && earlyS A o))
theorem r_isEarly (H : rKy A R c o) : fX12_isEarly [.ref 0] R = some (.inl (some (.int (zb (erl A c o)))), R) := by
  have hc := H.1.2.2
  have h42 := H.1.2.1
  have h43 := H.2.2.1
  have h60 := H.2.2.2
  rw [s_X12_isEarly]
  unfold erl
  by_cases hc7 : c = 7
  · subst hc7
    have hs := r_stays H.1 h60 0
    simp only [Nat.reduceAdd] at hs
    rw [decide_eq_true (show (7 : Nat) = 7 from rfl), Bool.true_and]
    have h42' : R.1 0 42 = 7 := h42
    cases d1 : stay A 10 (zn o) 0
    · (simp only [e_X12_isEarly, zo_iload, zo_lload, zo_aload, zo_istore, zo_lstore, zo_astore, zo_iinc, zo_pushI, zo_pushL, zo_null, zo_ii, zo_iid, zo_ll, zo_li, zo_lcmp, zo_i2l, zo_l2i, zo_dup, zo_dup2, zo_pop, zo_goto, zo_if, zo_icmp, zo_ifnull, zo_gets, zo_mm, zo_throw, zo_ret, zo_aret, zo_lret, q_iret_f, q_iret_1, q_iret_0, q_iret_b, q_c8_0, q_c8_1, q_c8_2, q_c8_3, q_c8_4, q_set_0, q_set_1i, q_set_1r, q_set_1n, q_set_1N, q_set_s, q_set_1j, q_bk_v, q_bk_n, q_if, zb_ite, cond_true, cond_false, List.getElem?_cons_zero, List.getElem?_cons_succ, Nat.reduceAdd, q_set_1l, q_set2_0, q_set2_1i, q_set2_1r, q_set2_1n, q_set2_s, h42', h43, hs, d1, if_true, if_false, zb_eq0, zb_eq1, zn_1, not_true_eq_false, not_false_eq_true, ite_true, ite_false, if_true, if_false, q_iret_0, q_iret_1, decide_true, decide_false, decide_not, zb_t, zb_f, z10, z01, cond_true, cond_false, Bool.and_true, Bool.true_and, Bool.and_false, Bool.false_and, Bool.not_true, Bool.not_false, true_and, and_true, false_and, and_false, true_or, or_true, false_or, or_false, Bool.true_eq_false, Bool.false_eq_true, eq_self, reduceCtorEq, Bool.or_true, Bool.true_or, Bool.or_false, Bool.false_or])
    · have hsn : o < nv A 10 := seen_stay H.1 h60 d1
      have V := (r_vw H.1 (o := o) hsn).1
      have v0 : fX12_viewed [.ref 0, .int (zn o), .int 0] R = some (.inl (some (.int (rd A 10 (zn o) 0))), R) := V 0 (by decide)
      have v5 : fX12_viewed [.ref 0, .int (zn o), .int 5] R = some (.inl (some (.int (rd A 10 (zn o) 5))), R) := V 5 (by decide)
      have hsw := r_shouldWant H hsn
      obtain ⟨b1, x1⟩ := kinds_o o h60
      have h13 := (H.1.1.2.2.2.1 o h60).1
      have h48 := H.1.1.2.2.2.2.2.1.2.2
      have h17 := H.1.1.2.2.2.2.2.1.1
      rw [← h17] at h48
      unfold earlyS
      by_cases d2 : 0 < rd A 10 (zn o) 5
      · have d2' : (rd A 10 (zn o) 5 ≤ 0) = False := eq_false (Int32.not_le.mpr d2)
        rw [decide_eq_true d2]
        by_cases d3 : rd A 10 (zn o) 0 ≤ goalS A o
        · rw [decide_eq_true d3]
          (simp only [e_X12_isEarly, zo_iload, zo_lload, zo_aload, zo_istore, zo_lstore, zo_astore, zo_iinc, zo_pushI, zo_pushL, zo_null, zo_ii, zo_iid, zo_ll, zo_li, zo_lcmp, zo_i2l, zo_l2i, zo_dup, zo_dup2, zo_pop, zo_goto, zo_if, zo_icmp, zo_ifnull, zo_gets, zo_mm, zo_throw, zo_ret, zo_aret, zo_lret, q_iret_f, q_iret_1, q_iret_0, q_iret_b, q_c8_0, q_c8_1, q_c8_2, q_c8_3, q_c8_4, q_set_0, q_set_1i, q_set_1r, q_set_1n, q_set_1N, q_set_s, q_set_1j, q_bk_v, q_bk_n, q_if, zb_ite, cond_true, cond_false, List.getElem?_cons_zero, List.getElem?_cons_succ, Nat.reduceAdd, q_set_1l, q_set2_0, q_set2_1i, q_set2_1r, q_set2_1n, q_set2_s, h42', h43, hs, d1, v5, d2', v0, hsw, d3, if_true, if_false, zb_eq0, zb_eq1, zn_1, not_true_eq_false, not_false_eq_true, ite_true, ite_false, if_true, if_false, q_iret_0, q_iret_1, decide_true, decide_false, decide_not, zb_t, zb_f, z10, z01, cond_true, cond_false, Bool.and_true, Bool.true_and, Bool.and_false, Bool.false_and, Bool.not_true, Bool.not_false, true_and, and_true, false_and, and_false, true_or, or_true, false_or, or_false, Bool.true_eq_false, Bool.false_eq_true, eq_self, reduceCtorEq, Bool.or_true, Bool.true_or, Bool.or_false, Bool.false_or])
        · rw [decide_eq_false d3]
          by_cases d4 : A.1 72 o = -1
          · (simp only [e_X12_isEarly, zo_iload, zo_lload, zo_aload, zo_istore, zo_lstore, zo_astore, zo_iinc, zo_pushI, zo_pushL, zo_null, zo_ii, zo_iid, zo_ll, zo_li, zo_lcmp, zo_i2l, zo_l2i, zo_dup, zo_dup2, zo_pop, zo_goto, zo_if, zo_icmp, zo_ifnull, zo_gets, zo_mm, zo_throw, zo_ret, zo_aret, zo_lret, q_iret_f, q_iret_1, q_iret_0, q_iret_b, q_c8_0, q_c8_1, q_c8_2, q_c8_3, q_c8_4, q_set_0, q_set_1i, q_set_1r, q_set_1n, q_set_1N, q_set_s, q_set_1j, q_bk_v, q_bk_n, q_if, zb_ite, cond_true, cond_false, List.getElem?_cons_zero, List.getElem?_cons_succ, Nat.reduceAdd, q_set_1l, q_set2_0, q_set2_1i, q_set2_1r, q_set2_1n, q_set2_s, h42', h43, hs, d1, v5, d2', v0, hsw, d3, b1, x1, q_aR, h13, d4, if_true, if_false, zb_eq0, zb_eq1, zn_1, not_true_eq_false, not_false_eq_true, ite_true, ite_false, if_true, if_false, q_iret_0, q_iret_1, decide_true, decide_false, decide_not, zb_t, zb_f, z10, z01, cond_true, cond_false, Bool.and_true, Bool.true_and, Bool.and_false, Bool.false_and, Bool.not_true, Bool.not_false, true_and, and_true, false_and, and_false, true_or, or_true, false_or, or_false, Bool.true_eq_false, Bool.false_eq_true, eq_self, reduceCtorEq, Bool.or_true, Bool.true_or, Bool.or_false, Bool.false_or])
          · by_cases d5 : 10 ≤ A.1 1 7 - A.1 72 o
            · (simp only [e_X12_isEarly, zo_iload, zo_lload, zo_aload, zo_istore, zo_lstore, zo_astore, zo_iinc, zo_pushI, zo_pushL, zo_null, zo_ii, zo_iid, zo_ll, zo_li, zo_lcmp, zo_i2l, zo_l2i, zo_dup, zo_dup2, zo_pop, zo_goto, zo_if, zo_icmp, zo_ifnull, zo_gets, zo_mm, zo_throw, zo_ret, zo_aret, zo_lret, q_iret_f, q_iret_1, q_iret_0, q_iret_b, q_c8_0, q_c8_1, q_c8_2, q_c8_3, q_c8_4, q_set_0, q_set_1i, q_set_1r, q_set_1n, q_set_1N, q_set_s, q_set_1j, q_bk_v, q_bk_n, q_if, zb_ite, cond_true, cond_false, List.getElem?_cons_zero, List.getElem?_cons_succ, Nat.reduceAdd, q_set_1l, q_set2_0, q_set2_1i, q_set2_1r, q_set2_1n, q_set2_s, h42', h43, hs, d1, v5, d2', v0, hsw, d3, b1, x1, q_aR, h13, d4, h48, d5, if_true, if_false, zb_eq0, zb_eq1, zn_1, not_true_eq_false, not_false_eq_true, ite_true, ite_false, if_true, if_false, q_iret_0, q_iret_1, decide_true, decide_false, decide_not, zb_t, zb_f, z10, z01, cond_true, cond_false, Bool.and_true, Bool.true_and, Bool.and_false, Bool.false_and, Bool.not_true, Bool.not_false, true_and, and_true, false_and, and_false, true_or, or_true, false_or, or_false, Bool.true_eq_false, Bool.false_eq_true, eq_self, reduceCtorEq, Bool.or_true, Bool.true_or, Bool.or_false, Bool.false_or])
            · (simp only [e_X12_isEarly, zo_iload, zo_lload, zo_aload, zo_istore, zo_lstore, zo_astore, zo_iinc, zo_pushI, zo_pushL, zo_null, zo_ii, zo_iid, zo_ll, zo_li, zo_lcmp, zo_i2l, zo_l2i, zo_dup, zo_dup2, zo_pop, zo_goto, zo_if, zo_icmp, zo_ifnull, zo_gets, zo_mm, zo_throw, zo_ret, zo_aret, zo_lret, q_iret_f, q_iret_1, q_iret_0, q_iret_b, q_c8_0, q_c8_1, q_c8_2, q_c8_3, q_c8_4, q_set_0, q_set_1i, q_set_1r, q_set_1n, q_set_1N, q_set_s, q_set_1j, q_bk_v, q_bk_n, q_if, zb_ite, cond_true, cond_false, List.getElem?_cons_zero, List.getElem?_cons_succ, Nat.reduceAdd, q_set_1l, q_set2_0, q_set2_1i, q_set2_1r, q_set2_1n, q_set2_s, h42', h43, hs, d1, v5, d2', v0, hsw, d3, b1, x1, q_aR, h13, d4, h48, d5, if_true, if_false, zb_eq0, zb_eq1, zn_1, not_true_eq_false, not_false_eq_true, ite_true, ite_false, if_true, if_false, q_iret_0, q_iret_1, decide_true, decide_false, decide_not, zb_t, zb_f, z10, z01, cond_true, cond_false, Bool.and_true, Bool.true_and, Bool.and_false, Bool.false_and, Bool.not_true, Bool.not_false, true_and, and_true, false_and, and_false, true_or, or_true, false_or, or_false, Bool.true_eq_false, Bool.false_eq_true, eq_self, reduceCtorEq, Bool.or_true, Bool.true_or, Bool.or_false, Bool.false_or])
      · have d2' : (rd A 10 (zn o) 5 ≤ 0) = True := eq_true (Int32.not_lt.mp d2)
        rw [decide_eq_false d2]
        (simp only [e_X12_isEarly, zo_iload, zo_lload, zo_aload, zo_istore, zo_lstore, zo_astore, zo_iinc, zo_pushI, zo_pushL, zo_null, zo_ii, zo_iid, zo_ll, zo_li, zo_lcmp, zo_i2l, zo_l2i, zo_dup, zo_dup2, zo_pop, zo_goto, zo_if, zo_icmp, zo_ifnull, zo_gets, zo_mm, zo_throw, zo_ret, zo_aret, zo_lret, q_iret_f, q_iret_1, q_iret_0, q_iret_b, q_c8_0, q_c8_1, q_c8_2, q_c8_3, q_c8_4, q_set_0, q_set_1i, q_set_1r, q_set_1n, q_set_1N, q_set_s, q_set_1j, q_bk_v, q_bk_n, q_if, zb_ite, cond_true, cond_false, List.getElem?_cons_zero, List.getElem?_cons_succ, Nat.reduceAdd, q_set_1l, q_set2_0, q_set2_1i, q_set2_1r, q_set2_1n, q_set2_s, h42', h43, hs, d1, v5, d2', if_true, if_false, zb_eq0, zb_eq1, zn_1, not_true_eq_false, not_false_eq_true, ite_true, ite_false, if_true, if_false, q_iret_0, q_iret_1, decide_true, decide_false, decide_not, zb_t, zb_f, z10, z01, cond_true, cond_false, Bool.and_true, Bool.true_and, Bool.and_false, Bool.false_and, Bool.not_true, Bool.not_false, true_and, and_true, false_and, and_false, true_or, or_true, false_or, or_false, Bool.true_eq_false, Bool.false_eq_true, eq_self, reduceCtorEq, Bool.or_true, Bool.true_or, Bool.or_false, Bool.false_or])
  · have h7 : (zn c = 7) = False := by
      have := zn_inj (a := c) (b := 7) (by omega) (by decide)
      rw [show (zn 7 : Int32) = 7 from rfl] at this
      rw [this]; exact eq_false hc7
    rw [decide_eq_false hc7, Bool.false_and]
    (simp only [e_X12_isEarly, zo_iload, zo_lload, zo_aload, zo_istore, zo_lstore, zo_astore, zo_iinc, zo_pushI, zo_pushL, zo_null, zo_ii, zo_iid, zo_ll, zo_li, zo_lcmp, zo_i2l, zo_l2i, zo_dup, zo_dup2, zo_pop, zo_goto, zo_if, zo_icmp, zo_ifnull, zo_gets, zo_mm, zo_throw, zo_ret, zo_aret, zo_lret, q_iret_f, q_iret_1, q_iret_0, q_iret_b, q_c8_0, q_c8_1, q_c8_2, q_c8_3, q_c8_4, q_set_0, q_set_1i, q_set_1r, q_set_1n, q_set_1N, q_set_s, q_set_1j, q_bk_v, q_bk_n, q_if, zb_ite, cond_true, cond_false, List.getElem?_cons_zero, List.getElem?_cons_succ, Nat.reduceAdd, q_set_1l, q_set2_0, q_set2_1i, q_set2_1r, q_set2_1n, q_set2_s, h42, h7, if_true, if_false, zb_eq0, zb_eq1, zn_1, not_true_eq_false, not_false_eq_true, ite_true, ite_false, if_true, if_false, q_iret_0, q_iret_1, decide_true, decide_false, decide_not, zb_t, zb_f, z10, z01, cond_true, cond_false, Bool.and_true, Bool.true_and, Bool.and_false, Bool.false_and, Bool.not_true, Bool.not_false, true_and, and_true, false_and, and_false, true_or, or_true, false_or, or_false, Bool.true_eq_false, Bool.false_eq_true, eq_self, reduceCtorEq, Bool.or_true, Bool.true_or, Bool.or_false, Bool.false_or])
theorem r_does (H : rKy A R c o) (hne : erl A c o = false) : srvTo A (dSv c A A o) c o (fX12_does [.ref 0] R) := by
  have hc := H.1.2.2
  have h42 := H.1.2.1
  rw [s_X12_does]
  have fin : ∀ {r : Option zzRt} {q : Int32 × zzMd}, srvTo A q c o r → (∀ (R' : zzMd) (b : Bool), r = some (.inl (some (.int (zb b))), R') → zz_ev tX12_does 0 [some (.ref 0)] [] R = some (.inl (some (.int (zb b))), R')) → srvTo A q c o (zz_ev tX12_does 0 [some (.ref 0)] [] R) := fun ⟨R', b, e1, e2, e3⟩ h => ⟨R', b, h R' b e1, e2, e3⟩
  rcases zc8 hc with rfl | rfl | rfl | rfl | rfl | rfl | rfl | rfl
  · refine fin (r_deploys H) fun R' b e => ?_
    have h42' : R.1 0 42 = 0 := h42
    (simp only [e_X12_does, zo_iload, zo_lload, zo_aload, zo_istore, zo_lstore, zo_astore, zo_iinc, zo_pushI, zo_pushL, zo_null, zo_ii, zo_iid, zo_ll, zo_li, zo_lcmp, zo_i2l, zo_l2i, zo_dup, zo_dup2, zo_pop, zo_goto, zo_if, zo_icmp, zo_ifnull, zo_gets, zo_mm, zo_throw, zo_ret, zo_aret, zo_lret, q_iret_f, q_iret_1, q_iret_0, q_iret_b, q_c8_0, q_c8_1, q_c8_2, q_c8_3, q_c8_4, q_set_0, q_set_1i, q_set_1r, q_set_1n, q_set_1N, q_set_s, q_set_1j, q_bk_v, q_bk_n, q_if, zb_ite, cond_true, cond_false, List.getElem?_cons_zero, List.getElem?_cons_succ, Nat.reduceAdd, q_set_1l, q_set2_0, q_set2_1i, q_set2_1r, q_set2_1n, q_set2_s, h42', e, if_true, if_false, zb_eq0, zb_eq1, zn_1, not_true_eq_false, not_false_eq_true, ite_true, ite_false, if_true, if_false, q_iret_0, q_iret_1, decide_true, decide_false, decide_not, zb_t, zb_f, z10, z01, cond_true, cond_false, Bool.and_true, Bool.true_and, Bool.and_false, Bool.false_and, Bool.not_true, Bool.not_false, true_and, and_true, false_and, and_false, true_or, or_true, false_or, or_false, Bool.true_eq_false, Bool.false_eq_true, eq_self, reduceCtorEq, Bool.or_true, Bool.true_or, Bool.or_false, Bool.false_or])
  · refine fin (r_replicates H) fun R' b e => ?_
    have h42' : R.1 0 42 = 1 := h42
    have n1 : ((1 : Int32) = 0) = False := eq_false (by decide)
    (simp only [e_X12_does, zo_iload, zo_lload, zo_aload, zo_istore, zo_lstore, zo_astore, zo_iinc, zo_pushI, zo_pushL, zo_null, zo_ii, zo_iid, zo_ll, zo_li, zo_lcmp, zo_i2l, zo_l2i, zo_dup, zo_dup2, zo_pop, zo_goto, zo_if, zo_icmp, zo_ifnull, zo_gets, zo_mm, zo_throw, zo_ret, zo_aret, zo_lret, q_iret_f, q_iret_1, q_iret_0, q_iret_b, q_c8_0, q_c8_1, q_c8_2, q_c8_3, q_c8_4, q_set_0, q_set_1i, q_set_1r, q_set_1n, q_set_1N, q_set_s, q_set_1j, q_bk_v, q_bk_n, q_if, zb_ite, cond_true, cond_false, List.getElem?_cons_zero, List.getElem?_cons_succ, Nat.reduceAdd, q_set_1l, q_set2_0, q_set2_1i, q_set2_1r, q_set2_1n, q_set2_s, h42', n1, e, if_true, if_false, zb_eq0, zb_eq1, zn_1, not_true_eq_false, not_false_eq_true, ite_true, ite_false, if_true, if_false, q_iret_0, q_iret_1, decide_true, decide_false, decide_not, zb_t, zb_f, z10, z01, cond_true, cond_false, Bool.and_true, Bool.true_and, Bool.and_false, Bool.false_and, Bool.not_true, Bool.not_false, true_and, and_true, false_and, and_false, true_or, or_true, false_or, or_false, Bool.true_eq_false, Bool.false_eq_true, eq_self, reduceCtorEq, Bool.or_true, Bool.true_or, Bool.or_false, Bool.false_or])
  · refine fin (r_doesJobs H) fun R' b e => ?_
    have h42' : R.1 0 42 = 2 := h42
    have n1 : ((2 : Int32) = 0) = False := eq_false (by decide)
    have n2 : ((2 : Int32) = 1) = False := eq_false (by decide)
    (simp only [e_X12_does, zo_iload, zo_lload, zo_aload, zo_istore, zo_lstore, zo_astore, zo_iinc, zo_pushI, zo_pushL, zo_null, zo_ii, zo_iid, zo_ll, zo_li, zo_lcmp, zo_i2l, zo_l2i, zo_dup, zo_dup2, zo_pop, zo_goto, zo_if, zo_icmp, zo_ifnull, zo_gets, zo_mm, zo_throw, zo_ret, zo_aret, zo_lret, q_iret_f, q_iret_1, q_iret_0, q_iret_b, q_c8_0, q_c8_1, q_c8_2, q_c8_3, q_c8_4, q_set_0, q_set_1i, q_set_1r, q_set_1n, q_set_1N, q_set_s, q_set_1j, q_bk_v, q_bk_n, q_if, zb_ite, cond_true, cond_false, List.getElem?_cons_zero, List.getElem?_cons_succ, Nat.reduceAdd, q_set_1l, q_set2_0, q_set2_1i, q_set2_1r, q_set2_1n, q_set2_s, h42', n1, n2, e, if_true, if_false, zb_eq0, zb_eq1, zn_1, not_true_eq_false, not_false_eq_true, ite_true, ite_false, if_true, if_false, q_iret_0, q_iret_1, decide_true, decide_false, decide_not, zb_t, zb_f, z10, z01, cond_true, cond_false, Bool.and_true, Bool.true_and, Bool.and_false, Bool.false_and, Bool.not_true, Bool.not_false, true_and, and_true, false_and, and_false, true_or, or_true, false_or, or_false, Bool.true_eq_false, Bool.false_eq_true, eq_self, reduceCtorEq, Bool.or_true, Bool.true_or, Bool.or_false, Bool.false_or])
  · refine fin (r_schedules H) fun R' b e => ?_
    have h42' : R.1 0 42 = 3 := h42
    have n1 : ((3 : Int32) = 0) = False := eq_false (by decide)
    have n2 : ((3 : Int32) = 1) = False := eq_false (by decide)
    have n3 : ((3 : Int32) = 2) = False := eq_false (by decide)
    (simp only [e_X12_does, zo_iload, zo_lload, zo_aload, zo_istore, zo_lstore, zo_astore, zo_iinc, zo_pushI, zo_pushL, zo_null, zo_ii, zo_iid, zo_ll, zo_li, zo_lcmp, zo_i2l, zo_l2i, zo_dup, zo_dup2, zo_pop, zo_goto, zo_if, zo_icmp, zo_ifnull, zo_gets, zo_mm, zo_throw, zo_ret, zo_aret, zo_lret, q_iret_f, q_iret_1, q_iret_0, q_iret_b, q_c8_0, q_c8_1, q_c8_2, q_c8_3, q_c8_4, q_set_0, q_set_1i, q_set_1r, q_set_1n, q_set_1N, q_set_s, q_set_1j, q_bk_v, q_bk_n, q_if, zb_ite, cond_true, cond_false, List.getElem?_cons_zero, List.getElem?_cons_succ, Nat.reduceAdd, q_set_1l, q_set2_0, q_set2_1i, q_set2_1r, q_set2_1n, q_set2_s, h42', n1, n2, n3, e, if_true, if_false, zb_eq0, zb_eq1, zn_1, not_true_eq_false, not_false_eq_true, ite_true, ite_false, if_true, if_false, q_iret_0, q_iret_1, decide_true, decide_false, decide_not, zb_t, zb_f, z10, z01, cond_true, cond_false, Bool.and_true, Bool.true_and, Bool.and_false, Bool.false_and, Bool.not_true, Bool.not_false, true_and, and_true, false_and, and_false, true_or, or_true, false_or, or_false, Bool.true_eq_false, Bool.false_eq_true, eq_self, reduceCtorEq, Bool.or_true, Bool.true_or, Bool.or_false, Bool.false_or])
  · refine fin (r_runs H) fun R' b e => ?_
    have h42' : R.1 0 42 = 4 := h42
    have n1 : ((4 : Int32) = 0) = False := eq_false (by decide)
    have n2 : ((4 : Int32) = 1) = False := eq_false (by decide)
    have n3 : ((4 : Int32) = 2) = False := eq_false (by decide)
    have n4 : ((4 : Int32) = 3) = False := eq_false (by decide)
    (simp only [e_X12_does, zo_iload, zo_lload, zo_aload, zo_istore, zo_lstore, zo_astore, zo_iinc, zo_pushI, zo_pushL, zo_null, zo_ii, zo_iid, zo_ll, zo_li, zo_lcmp, zo_i2l, zo_l2i, zo_dup, zo_dup2, zo_pop, zo_goto, zo_if, zo_icmp, zo_ifnull, zo_gets, zo_mm, zo_throw, zo_ret, zo_aret, zo_lret, q_iret_f, q_iret_1, q_iret_0, q_iret_b, q_c8_0, q_c8_1, q_c8_2, q_c8_3, q_c8_4, q_set_0, q_set_1i, q_set_1r, q_set_1n, q_set_1N, q_set_s, q_set_1j, q_bk_v, q_bk_n, q_if, zb_ite, cond_true, cond_false, List.getElem?_cons_zero, List.getElem?_cons_succ, Nat.reduceAdd, q_set_1l, q_set2_0, q_set2_1i, q_set2_1r, q_set2_1n, q_set2_s, h42', n1, n2, n3, n4, e, if_true, if_false, zb_eq0, zb_eq1, zn_1, not_true_eq_false, not_false_eq_true, ite_true, ite_false, if_true, if_false, q_iret_0, q_iret_1, decide_true, decide_false, decide_not, zb_t, zb_f, z10, z01, cond_true, cond_false, Bool.and_true, Bool.true_and, Bool.and_false, Bool.false_and, Bool.not_true, Bool.not_false, true_and, and_true, false_and, and_false, true_or, or_true, false_or, or_false, Bool.true_eq_false, Bool.false_eq_true, eq_self, reduceCtorEq, Bool.or_true, Bool.true_or, Bool.or_false, Bool.false_or])
  · refine fin (r_collects H) fun R' b e => ?_
    have h42' : R.1 0 42 = 5 := h42
    have n1 : ((5 : Int32) = 0) = False := eq_false (by decide)
    have n2 : ((5 : Int32) = 1) = False := eq_false (by decide)
    have n3 : ((5 : Int32) = 2) = False := eq_false (by decide)
    have n4 : ((5 : Int32) = 3) = False := eq_false (by decide)
    have n5 : ((5 : Int32) = 4) = False := eq_false (by decide)
    (simp only [e_X12_does, zo_iload, zo_lload, zo_aload, zo_istore, zo_lstore, zo_astore, zo_iinc, zo_pushI, zo_pushL, zo_null, zo_ii, zo_iid, zo_ll, zo_li, zo_lcmp, zo_i2l, zo_l2i, zo_dup, zo_dup2, zo_pop, zo_goto, zo_if, zo_icmp, zo_ifnull, zo_gets, zo_mm, zo_throw, zo_ret, zo_aret, zo_lret, q_iret_f, q_iret_1, q_iret_0, q_iret_b, q_c8_0, q_c8_1, q_c8_2, q_c8_3, q_c8_4, q_set_0, q_set_1i, q_set_1r, q_set_1n, q_set_1N, q_set_s, q_set_1j, q_bk_v, q_bk_n, q_if, zb_ite, cond_true, cond_false, List.getElem?_cons_zero, List.getElem?_cons_succ, Nat.reduceAdd, q_set_1l, q_set2_0, q_set2_1i, q_set2_1r, q_set2_1n, q_set2_s, h42', n1, n2, n3, n4, n5, e, if_true, if_false, zb_eq0, zb_eq1, zn_1, not_true_eq_false, not_false_eq_true, ite_true, ite_false, if_true, if_false, q_iret_0, q_iret_1, decide_true, decide_false, decide_not, zb_t, zb_f, z10, z01, cond_true, cond_false, Bool.and_true, Bool.true_and, Bool.and_false, Bool.false_and, Bool.not_true, Bool.not_false, true_and, and_true, false_and, and_false, true_or, or_true, false_or, or_false, Bool.true_eq_false, Bool.false_eq_true, eq_self, reduceCtorEq, Bool.or_true, Bool.true_or, Bool.or_false, Bool.false_or])
  · refine fin (r_routes H) fun R' b e => ?_
    have h42' : R.1 0 42 = 6 := h42
    have n1 : ((6 : Int32) = 0) = False := eq_false (by decide)
    have n2 : ((6 : Int32) = 1) = False := eq_false (by decide)
    have n3 : ((6 : Int32) = 2) = False := eq_false (by decide)
    have n4 : ((6 : Int32) = 3) = False := eq_false (by decide)
    have n5 : ((6 : Int32) = 4) = False := eq_false (by decide)
    have n6 : ((6 : Int32) = 5) = False := eq_false (by decide)
    (simp only [e_X12_does, zo_iload, zo_lload, zo_aload, zo_istore, zo_lstore, zo_astore, zo_iinc, zo_pushI, zo_pushL, zo_null, zo_ii, zo_iid, zo_ll, zo_li, zo_lcmp, zo_i2l, zo_l2i, zo_dup, zo_dup2, zo_pop, zo_goto, zo_if, zo_icmp, zo_ifnull, zo_gets, zo_mm, zo_throw, zo_ret, zo_aret, zo_lret, q_iret_f, q_iret_1, q_iret_0, q_iret_b, q_c8_0, q_c8_1, q_c8_2, q_c8_3, q_c8_4, q_set_0, q_set_1i, q_set_1r, q_set_1n, q_set_1N, q_set_s, q_set_1j, q_bk_v, q_bk_n, q_if, zb_ite, cond_true, cond_false, List.getElem?_cons_zero, List.getElem?_cons_succ, Nat.reduceAdd, q_set_1l, q_set2_0, q_set2_1i, q_set2_1r, q_set2_1n, q_set2_s, h42', n1, n2, n3, n4, n5, n6, e, if_true, if_false, zb_eq0, zb_eq1, zn_1, not_true_eq_false, not_false_eq_true, ite_true, ite_false, if_true, if_false, q_iret_0, q_iret_1, decide_true, decide_false, decide_not, zb_t, zb_f, z10, z01, cond_true, cond_false, Bool.and_true, Bool.true_and, Bool.and_false, Bool.false_and, Bool.not_true, Bool.not_false, true_and, and_true, false_and, and_false, true_or, or_true, false_or, or_false, Bool.true_eq_false, Bool.false_eq_true, eq_self, reduceCtorEq, Bool.or_true, Bool.true_or, Bool.or_false, Bool.false_or])
  · have hne' : (stay A 10 (zn o) 0 && decide (0 < rd A 10 (zn o) 5)) = true → (!decide (rd A 10 (zn o) 0 ≤ goalS A o) && earlyS A o) = false := fun h => by
      unfold erl at hne
      rw [h, decide_eq_true rfl, Bool.true_and, Bool.true_and] at hne
      exact hne
    refine fin (r_scales H hne') fun R' b e => ?_
    have h42' : R.1 0 42 = 7 := h42
    have n1 : ((7 : Int32) = 0) = False := eq_false (by decide)
    have n2 : ((7 : Int32) = 1) = False := eq_false (by decide)
    have n3 : ((7 : Int32) = 2) = False := eq_false (by decide)
    have n4 : ((7 : Int32) = 3) = False := eq_false (by decide)
    have n5 : ((7 : Int32) = 4) = False := eq_false (by decide)
    have n6 : ((7 : Int32) = 5) = False := eq_false (by decide)
    have n7 : ((7 : Int32) = 6) = False := eq_false (by decide)
    (simp only [e_X12_does, zo_iload, zo_lload, zo_aload, zo_istore, zo_lstore, zo_astore, zo_iinc, zo_pushI, zo_pushL, zo_null, zo_ii, zo_iid, zo_ll, zo_li, zo_lcmp, zo_i2l, zo_l2i, zo_dup, zo_dup2, zo_pop, zo_goto, zo_if, zo_icmp, zo_ifnull, zo_gets, zo_mm, zo_throw, zo_ret, zo_aret, zo_lret, q_iret_f, q_iret_1, q_iret_0, q_iret_b, q_c8_0, q_c8_1, q_c8_2, q_c8_3, q_c8_4, q_set_0, q_set_1i, q_set_1r, q_set_1n, q_set_1N, q_set_s, q_set_1j, q_bk_v, q_bk_n, q_if, zb_ite, cond_true, cond_false, List.getElem?_cons_zero, List.getElem?_cons_succ, Nat.reduceAdd, q_set_1l, q_set2_0, q_set2_1i, q_set2_1r, q_set2_1n, q_set2_s, h42', n1, n2, n3, n4, n5, n6, n7, e, if_true, if_false, zb_eq0, zb_eq1, zn_1, not_true_eq_false, not_false_eq_true, ite_true, ite_false, if_true, if_false, q_iret_0, q_iret_1, decide_true, decide_false, decide_not, zb_t, zb_f, z10, z01, cond_true, cond_false, Bool.and_true, Bool.true_and, Bool.and_false, Bool.false_and, Bool.not_true, Bool.not_false, true_and, and_true, false_and, and_false, true_or, or_true, false_or, or_false, Bool.true_eq_false, Bool.false_eq_true, eq_self, reduceCtorEq, Bool.or_true, Bool.true_or, Bool.or_false, Bool.false_or])
/-- no failures any more -/
theorem Rl0_f0 (H : rAt A R c) (h60 : o < 60) : rAt (zz_sI A (24 + 6 * c) o 0) (zz_sI R 33 (60 * c + o) 0) c := by
  have hc := H.2.2
  obtain ⟨q1, q2, q3, q4⟩ := rq_of H
  have gq : ∀ p, qk (zz_sI A (24 + 6 * c) o 0) c p = qk A c p := fun p => congrArg zz_ix (sI_a (by omega))
  have gn : qn (zz_sI A (24 + 6 * c) o 0) c = qn A c := congrArg zz_ix (sI_a (by omega))
  have gi : ∀ b, inQ (zz_sI A (24 + 6 * c) o 0) c b ↔ inQ A c b := fun b => by unfold inQ; simp only [gn, gq]
  have gv : nv (zz_sI A (24 + 6 * c) o 0) 1 = nv A 1 := congrArg zz_ix (sI_a (by omega))
  have ge : ve (zz_sI A (24 + 6 * c) o 0) 1 = ve A 1 := congrArg zz_ix (sI_a (by omega))
  have gw : now (zz_sI A (24 + 6 * c) o 0) = now A := congrArg zz_ix (sI_a (by omega))
  refine ⟨Rl0_q hc H.1 (zIC_fdw hc (Or.inl rfl) H.1.1.2) (fun a b _ _ _ h4 _ _ => sI_a h4) (fun a b h1 h2 h3 => ?_) rfl ⟨?_, fun p hp => ?_, ?_, fun b hb => ?_⟩, (sI_a (by decide)).trans H.2.1, hc⟩
  · by_cases q : a = 33
    · rw [q, sI_b (by omega)]
    · exact sI_a q
  · rw [sI_a (by decide), gn]; exact q1
  · rw [gn] at hp
    rw [sI_a (by decide), gq, gv]; exact q2 p hp
  · rw [gn]; simp only [gq]; exact q3
  · obtain ⟨z1, f, d, w, z2, z3, z4, z5, z8⟩ := q4 b hb
    unfold RQo
    rw [gi, gw, ge, sI_a (show 23 + 6 * c ≠ 24 + 6 * c by omega), sI_a (show 25 + 6 * c ≠ 24 + 6 * c by omega), sI_a (show 26 + 6 * c ≠ 24 + 6 * c by omega), sI_a (show (34 : Nat) ≠ 33 by decide), sI_a (show (35 : Nat) ≠ 33 by decide)]
    by_cases e1 : b = o
    · rw [e1] at z1 z2 z3 z5 z8 ⊢
      rw [sI_e, sI_e]
      exact ⟨z1, 0, d, w, ⟨rfl, rfl⟩, z3, ⟨Nat.zero_le _, z4.2⟩, z5, z8⟩
    · rw [sI_b e1, sI_b (show 60 * c + b ≠ 60 * c + o by omega)]
      exact ⟨z1, f, d, w, z2, z3, z4, z5, z8⟩
end
end

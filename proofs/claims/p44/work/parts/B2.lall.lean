section
/-! the law's own questions: the dice, all that can be asked -/
section
variable {A R : zzMd}
theorem kV_e {f : zzFn} {As : List Value} {A : zzMd} {v : Int32} (h : kV f As A v) : lz_g f As A = some (.inl (some (.int v)), A) := h
theorem kX_e {f : zzFn} {As : List Value} {A : zzMd} {e : Nat} (h : kX f As A e) : lz_g f As A = some (.inr e, A) := h
theorem kW_e {f : zzFn} {As : List Value} {A A' : zzMd} {v : Int32} (h : kW f As A v A') : lz_g f As A = some (.inl (some (.int v)), A') := h
theorem and_pos (x : Int32) : ∃ v, v < 2147483648 ∧ x &&& 2147483647 = zn v := by
  refine ⟨(x &&& 2147483647).toBitVec.toNat, ?_, ?_⟩
  · rw [Int32.toBitVec_and, BitVec.toNat_and]
    exact Nat.lt_of_le_of_lt Nat.and_le_right (by decide +kernel)
  · refine Int32.toBitVec_inj.mp (BitVec.eq_of_toNat_eq ?_)
    unfold zn
    rw [show (Int32.ofNat (x &&& 2147483647).toBitVec.toNat).toBitVec = BitVec.ofNat 32 (x &&& 2147483647).toBitVec.toNat from rfl, BitVec.toNat_ofNat, Nat.mod_eq_of_lt (BitVec.isLt _)]
theorem w_dice (sc : List Int32) (hl : sc.length < 2147483648) (A : zzMd) {k : Nat} (hk : k < 1000) : ∃ v, v < 2147483648 ∧ fL_dice sc [.ref 1004, .int (zn k)] A = some (some (.int (zn v)), A) := by
  have hs : (zzSTC ++ [sc])[1004 - 1000]? = some sc := rfl
  have h0 : zzSC[1004]? = none := rfl
  have d4 : decide (1000 ≤ 1004) = true := rfl
  by_cases h : k < sc.length
  · have l : (zn sc.length ≤ zn k) = False := zn_le (a := sc.length) (b := k) hl (by omega) ▸ eq_false (by omega)
    have b : zz_inb (zn k) sc.length = true := zn_inT h hl
    have x : zz_ix (zn k) = k := zn_ix (by omega)
    obtain ⟨v, v1, v2⟩ := and_pos (sc.getD k 0)
    refine ⟨v, v1, ?_⟩
    rw [← v2]
    refine s_L_dice sc _ _ (n := 0) ?_
    (simp (decide := true) only [e_L_dice sc, lo_iload, lo_lload, lo_aload, lo_istore, lo_lstore, lo_iinc, lo_pushI, lo_pushL, lo_ii, lo_iid, lo_ll, lo_li, lo_lcmp, lo_i2l, lo_dup2, lo_goto, lo_if, lo_icmp, lq_iret_f, lq_iret_1, lq_iret_0, lq_iret_b, lq_lret, lq_bs, lq_bv, lq_bhv, lq_bhx, q_c8_0, q_c8_1, q_c8_2, q_c8_3, q_c8_4, q_set_0, q_set_1i, q_set_1r, q_set_1n, q_set_1N, q_set_s, q_set_1j, q_set_1l, q_set2_0, q_set2_1i, q_set2_1r, q_set2_1n, q_set2_s, q_if, zb_ite, cond_true, cond_false, List.getElem?_cons_zero, List.getElem?_cons_succ, Nat.reduceAdd, lo_alen, lo_iald, hs, h0, d4, l, b, x, Int32.reduceLT, Int32.reduceLE, Nat.reduceLeDiff, Nat.zero_le, Nat.le_refl, Nat.zero_add, if_true, if_false, zb_eq0, zb_eq1, zn_1, not_true_eq_false, not_false_eq_true, ite_true, ite_false, if_true, if_false, q_iret_0, q_iret_1, decide_true, decide_false, decide_not, zb_t, zb_f, z10, z01, cond_true, cond_false, Bool.and_true, Bool.true_and, Bool.and_false, Bool.false_and, Bool.not_true, Bool.not_false, true_and, and_true, false_and, and_false, true_or, or_true, false_or, or_false, Bool.true_eq_false, Bool.false_eq_true, eq_self, reduceCtorEq, Bool.or_true, Bool.true_or, Bool.or_false, Bool.false_or])
  · have l : (zn sc.length ≤ zn k) = True := zn_le (a := sc.length) (b := k) hl (by omega) ▸ eq_true (by omega)
    obtain ⟨v, v1, v2⟩ := and_pos (953160567 * (zn k + 337) + 729 * zn k * zn k + 229)
    refine ⟨v, v1, ?_⟩
    rw [← v2]
    refine s_L_dice sc _ _ (n := 0) ?_
    (simp (decide := true) only [e_L_dice sc, lo_iload, lo_lload, lo_aload, lo_istore, lo_lstore, lo_iinc, lo_pushI, lo_pushL, lo_ii, lo_iid, lo_ll, lo_li, lo_lcmp, lo_i2l, lo_dup2, lo_goto, lo_if, lo_icmp, lq_iret_f, lq_iret_1, lq_iret_0, lq_iret_b, lq_lret, lq_bs, lq_bv, lq_bhv, lq_bhx, q_c8_0, q_c8_1, q_c8_2, q_c8_3, q_c8_4, q_set_0, q_set_1i, q_set_1r, q_set_1n, q_set_1N, q_set_s, q_set_1j, q_set_1l, q_set2_0, q_set2_1i, q_set2_1r, q_set2_1n, q_set2_s, q_if, zb_ite, cond_true, cond_false, List.getElem?_cons_zero, List.getElem?_cons_succ, Nat.reduceAdd, lo_alen, lo_iald, hs, h0, d4, l, Int32.reduceLT, Int32.reduceLE, Nat.reduceLeDiff, Nat.zero_le, Nat.le_refl, Nat.zero_add, if_true, if_false, zb_eq0, zb_eq1, zn_1, not_true_eq_false, not_false_eq_true, ite_true, ite_false, if_true, if_false, q_iret_0, q_iret_1, decide_true, decide_false, decide_not, zb_t, zb_f, z10, z01, cond_true, cond_false, Bool.and_true, Bool.true_and, Bool.and_false, Bool.false_and, Bool.not_true, Bool.not_false, true_and, and_true, false_and, and_false, true_or, or_true, false_or, or_false, Bool.true_eq_false, Bool.false_eq_true, eq_self, reduceCtorEq, Bool.or_true, Bool.true_or, Bool.or_false, Bool.false_or])
/-! fields and managers, asked with care -/
theorem of_1 (H : Iv A) {k f : Nat} (hk : k < nv A 1) (hf : f < 11) : ∃ v, fL_of [.ref 0, .int 1, .int (zn k), .int (zn f), .int 0] A = some (some (.int v), A) ∧ (hasF (row A k 23) (zn f) = true → v = row A k f) ∧ (hasF (row A k 23) (zn f) = false → v = -1272) := by
  obtain ⟨hA, ⟨R, HR⟩, -⟩ := H
  cases h : hasF (row A k 23) (zn f)
  · exact ⟨_, xo_field (x_field hA HR hk h) rfl, fun z => (nomatch z), fun _ => rfl⟩
  · exact ⟨_, vo_field (g_field hA HR hk h hf), fun _ => rfl, fun z => (nomatch z)⟩
theorem of_2 (H : Iv A) {k f : Nat} (hk : k < nv A 1) (hf : f < 11) : ∃ v, fL_of [.ref 0, .int 2, .int (zn k), .int (zn f), .int 0] A = some (some (.int v), A) ∧ (hasF (row A k 23) (zn f) = true → v = row A k (11 + f)) ∧ (hasF (row A k 23) (zn f) = false → v = -1272) := by
  obtain ⟨hA, ⟨R, HR⟩, -⟩ := H
  cases h : hasF (row A k 23) (zn f)
  · exact ⟨_, xo_managerOf (x_managerOf hA HR hk h) rfl, fun z => (nomatch z), fun _ => rfl⟩
  · exact ⟨_, vo_managerOf (g_managerOf hA HR hk h hf), fun _ => rfl, fun z => (nomatch z)⟩
theorem q_any (H : Iv A) {c p : Nat} (hc : c < 8) (hp : p < 2000000) : ∃ v, lz_g fX11_queued [.ref 0, .int (zn c), .int (zn p)] A = some (.inl (some (.int v)), A) ∧ (p < qn A c → v = zn (qk A c p)) ∧ (qn A c ≤ p → v = -1) := by
  obtain ⟨hA, ⟨R, HR⟩, -⟩ := H
  by_cases h : p < qn A c
  · exact ⟨_, g_queued hA HR hc h, fun _ => rfl, fun z => absurd h (by omega)⟩
  · exact ⟨_, g_queuedN hA HR hc (by omega) hp, fun z => absurd z h, fun _ => rfl⟩
theorem l_32 (H : Iv A) {k : Nat} (hk : k < nv A 1) (x : Int64) : ∀ i, i ≤ 11 → ∃ y, lz_ev tL_like 32 [some (.ref 0), some (.int (zn k)), some (.long x), none, some (.int 0)] [] (A, 0) = lz_ev tL_like 32 [some (.ref 0), some (.int (zn k)), some (.long y), none, some (.int (zn i))] [] (A, 2 * i) := by
  intro i
  induction i with
  | zero => exact fun _ => ⟨x, rfl⟩
  | succ i ih =>
    intro hi
    obtain ⟨y, e⟩ := ih (by omega)
    obtain ⟨v, o1, -⟩ := of_1 H hk (f := i) (by omega)
    obtain ⟨w, o2, -⟩ := of_2 H hk (f := i) (by omega)
    have l : ((11 : Int32) ≤ zn i) = False := zn_le (a := 11) (b := i) (by decide) (by omega) ▸ eq_false (by omega)
    refine ⟨1000003 * y + v.toInt64 + 31 * w.toInt64, e.trans ?_⟩
    clear e ih
    rw [show 2 * (i + 1) = 2 * i + 1 + 1 from rfl]
    have f0 : 2 * i + 1 + 1 ≤ 22 := by omega
    generalize 2 * i = n at f0 ⊢
    have f1 : (n + 1 ≤ 22) = True := eq_true (by omega)
    have f2 : (n + 1 + 1 ≤ 22) = True := eq_true f0
    have f3 : (n ≤ 22) = True := eq_true (by omega)
    (rw [e_L_like_32]; simp (decide := true) only [e_L_like, lo_iload, lo_lload, lo_aload, lo_istore, lo_lstore, lo_iinc, lo_pushI, lo_pushL, lo_ii, lo_iid, lo_ll, lo_li, lo_lcmp, lo_i2l, lo_dup2, lo_goto, lo_if, lo_icmp, lq_iret_f, lq_iret_1, lq_iret_0, lq_iret_b, lq_lret, lq_bs, lq_bv, lq_bhv, lq_bhx, q_c8_0, q_c8_1, q_c8_2, q_c8_3, q_c8_4, q_set_0, q_set_1i, q_set_1r, q_set_1n, q_set_1N, q_set_s, q_set_1j, q_set_1l, q_set2_0, q_set2_1i, q_set2_1r, q_set2_1n, q_set2_s, q_if, zb_ite, cond_true, cond_false, List.getElem?_cons_zero, List.getElem?_cons_succ, Nat.reduceAdd, l, o1, o2, f1, f2, f3, Int32.reduceLT, Int32.reduceLE, Nat.reduceLeDiff, Nat.zero_le, Nat.le_refl, Nat.zero_add, if_true, if_false, zb_eq0, zb_eq1, zn_1, not_true_eq_false, not_false_eq_true, ite_true, ite_false, if_true, if_false, q_iret_0, q_iret_1, decide_true, decide_false, decide_not, zb_t, zb_f, z10, z01, cond_true, cond_false, Bool.and_true, Bool.true_and, Bool.and_false, Bool.false_and, Bool.not_true, Bool.not_false, true_and, and_true, false_and, and_false, true_or, or_true, false_or, or_false, Bool.true_eq_false, Bool.false_eq_true, eq_self, reduceCtorEq, Bool.or_true, Bool.true_or, Bool.or_false, Bool.false_or])
theorem w_like (H : Iv A) {k : Nat} (hk : k < nv A 1) : ∃ x, fL_like [.ref 0, .int (zn k)] A = some (some (.long x), A) := by
  have H' := H
  obtain ⟨hA, ⟨R, HR⟩, -⟩ := H'
  have a1 := kV_e (g_kindOf hA HR hk)
  have a2 := kV_e (g_goingOf hA HR hk)
  have a3 := kV_e (g_ownerOf hA HR hk)
  obtain ⟨y, e⟩ := l_32 H hk ((row A k 23).toInt64 + 7 * (row A k 25).toInt64 + 61 * (row A k 24).toInt64) 11 (Nat.le_refl _)
  have s1 : lz_ev tL_like 0 [some (.ref 0), some (.int (zn k)), none, none, none] [] (A, 0) = lz_ev tL_like 32 [some (.ref 0), some (.int (zn k)), some (.long ((row A k 23).toInt64 + 7 * (row A k 25).toInt64 + 61 * (row A k 24).toInt64)), none, some (.int 0)] [] (A, 0) := by
    clear e
    (simp (decide := true) only [e_L_like, lo_iload, lo_lload, lo_aload, lo_istore, lo_lstore, lo_iinc, lo_pushI, lo_pushL, lo_ii, lo_iid, lo_ll, lo_li, lo_lcmp, lo_i2l, lo_dup2, lo_goto, lo_if, lo_icmp, lq_iret_f, lq_iret_1, lq_iret_0, lq_iret_b, lq_lret, lq_bs, lq_bv, lq_bhv, lq_bhx, q_c8_0, q_c8_1, q_c8_2, q_c8_3, q_c8_4, q_set_0, q_set_1i, q_set_1r, q_set_1n, q_set_1N, q_set_s, q_set_1j, q_set_1l, q_set2_0, q_set2_1i, q_set2_1r, q_set2_1n, q_set2_s, q_if, zb_ite, cond_true, cond_false, List.getElem?_cons_zero, List.getElem?_cons_succ, Nat.reduceAdd, a1, a2, a3, Int32.reduceLT, Int32.reduceLE, Nat.reduceLeDiff, Nat.zero_le, Nat.le_refl, Nat.zero_add, if_true, if_false, zb_eq0, zb_eq1, zn_1, not_true_eq_false, not_false_eq_true, ite_true, ite_false, if_true, if_false, q_iret_0, q_iret_1, decide_true, decide_false, decide_not, zb_t, zb_f, z10, z01, cond_true, cond_false, Bool.and_true, Bool.true_and, Bool.and_false, Bool.false_and, Bool.not_true, Bool.not_false, true_and, and_true, false_and, and_false, true_or, or_true, false_or, or_false, Bool.true_eq_false, Bool.false_eq_true, eq_self, reduceCtorEq, Bool.or_true, Bool.true_or, Bool.or_false, Bool.false_or])
  have l : ((11 : Int32) ≤ zn 11) = True := eq_true (by decide)
  have s2 : ∃ x, lz_ev tL_like 32 [some (.ref 0), some (.int (zn k)), some (.long y), none, some (.int (zn 11))] [] (A, 22) = some (some (.long x), (A, 22)) := by
    clear e s1
    by_cases c2 : row A k 23 = 2
    · have p1 := kV_e (g_phaseOf hA HR hk c2)
      have p2 := kV_e (g_placeOf hA HR hk c2)
      refine ⟨31 * y + (row A k 29).toInt64 + 7 * (row A k 28).toInt64, ?_⟩
      (rw [e_L_like_32]; simp (decide := true) only [e_L_like, lo_iload, lo_lload, lo_aload, lo_istore, lo_lstore, lo_iinc, lo_pushI, lo_pushL, lo_ii, lo_iid, lo_ll, lo_li, lo_lcmp, lo_i2l, lo_dup2, lo_goto, lo_if, lo_icmp, lq_iret_f, lq_iret_1, lq_iret_0, lq_iret_b, lq_lret, lq_bs, lq_bv, lq_bhv, lq_bhx, q_c8_0, q_c8_1, q_c8_2, q_c8_3, q_c8_4, q_set_0, q_set_1i, q_set_1r, q_set_1n, q_set_1N, q_set_s, q_set_1j, q_set_1l, q_set2_0, q_set2_1i, q_set2_1r, q_set2_1n, q_set2_s, q_if, zb_ite, cond_true, cond_false, List.getElem?_cons_zero, List.getElem?_cons_succ, Nat.reduceAdd, l, a1, c2, p1, p2, Int32.reduceLT, Int32.reduceLE, Nat.reduceLeDiff, Nat.zero_le, Nat.le_refl, Nat.zero_add, if_true, if_false, zb_eq0, zb_eq1, zn_1, not_true_eq_false, not_false_eq_true, ite_true, ite_false, if_true, if_false, q_iret_0, q_iret_1, decide_true, decide_false, decide_not, zb_t, zb_f, z10, z01, cond_true, cond_false, Bool.and_true, Bool.true_and, Bool.and_false, Bool.false_and, Bool.not_true, Bool.not_false, true_and, and_true, false_and, and_false, true_or, or_true, false_or, or_false, Bool.true_eq_false, Bool.false_eq_true, eq_self, reduceCtorEq, Bool.or_true, Bool.true_or, Bool.or_false, Bool.false_or])
    · by_cases c4 : row A k 23 = 4
      · have p1 := kV_e (g_isReady hA HR hk c4)
        cases hb : decide (row A k 27 = 1)
        · rw [hb] at p1
          simp only [zb_f] at p1
          refine ⟨y, ?_⟩
          (rw [e_L_like_32]; simp (decide := true) only [e_L_like, lo_iload, lo_lload, lo_aload, lo_istore, lo_lstore, lo_iinc, lo_pushI, lo_pushL, lo_ii, lo_iid, lo_ll, lo_li, lo_lcmp, lo_i2l, lo_dup2, lo_goto, lo_if, lo_icmp, lq_iret_f, lq_iret_1, lq_iret_0, lq_iret_b, lq_lret, lq_bs, lq_bv, lq_bhv, lq_bhx, q_c8_0, q_c8_1, q_c8_2, q_c8_3, q_c8_4, q_set_0, q_set_1i, q_set_1r, q_set_1n, q_set_1N, q_set_s, q_set_1j, q_set_1l, q_set2_0, q_set2_1i, q_set2_1r, q_set2_1n, q_set2_s, q_if, zb_ite, cond_true, cond_false, List.getElem?_cons_zero, List.getElem?_cons_succ, Nat.reduceAdd, l, a1, c4, p1, Int32.reduceLT, Int32.reduceLE, Nat.reduceLeDiff, Nat.zero_le, Nat.le_refl, Nat.zero_add, if_true, if_false, zb_eq0, zb_eq1, zn_1, not_true_eq_false, not_false_eq_true, ite_true, ite_false, if_true, if_false, q_iret_0, q_iret_1, decide_true, decide_false, decide_not, zb_t, zb_f, z10, z01, cond_true, cond_false, Bool.and_true, Bool.true_and, Bool.and_false, Bool.false_and, Bool.not_true, Bool.not_false, true_and, and_true, false_and, and_false, true_or, or_true, false_or, or_false, Bool.true_eq_false, Bool.false_eq_true, eq_self, reduceCtorEq, Bool.or_true, Bool.true_or, Bool.or_false, Bool.false_or])
        · rw [hb] at p1
          simp only [zb_t] at p1
          refine ⟨y + 5, ?_⟩
          (rw [e_L_like_32]; simp (decide := true) only [e_L_like, lo_iload, lo_lload, lo_aload, lo_istore, lo_lstore, lo_iinc, lo_pushI, lo_pushL, lo_ii, lo_iid, lo_ll, lo_li, lo_lcmp, lo_i2l, lo_dup2, lo_goto, lo_if, lo_icmp, lq_iret_f, lq_iret_1, lq_iret_0, lq_iret_b, lq_lret, lq_bs, lq_bv, lq_bhv, lq_bhx, q_c8_0, q_c8_1, q_c8_2, q_c8_3, q_c8_4, q_set_0, q_set_1i, q_set_1r, q_set_1n, q_set_1N, q_set_s, q_set_1j, q_set_1l, q_set2_0, q_set2_1i, q_set2_1r, q_set2_1n, q_set2_s, q_if, zb_ite, cond_true, cond_false, List.getElem?_cons_zero, List.getElem?_cons_succ, Nat.reduceAdd, l, a1, c4, p1, Int32.reduceLT, Int32.reduceLE, Nat.reduceLeDiff, Nat.zero_le, Nat.le_refl, Nat.zero_add, if_true, if_false, zb_eq0, zb_eq1, zn_1, not_true_eq_false, not_false_eq_true, ite_true, ite_false, if_true, if_false, q_iret_0, q_iret_1, decide_true, decide_false, decide_not, zb_t, zb_f, z10, z01, cond_true, cond_false, Bool.and_true, Bool.true_and, Bool.and_false, Bool.false_and, Bool.not_true, Bool.not_false, true_and, and_true, false_and, and_false, true_or, or_true, false_or, or_false, Bool.true_eq_false, Bool.false_eq_true, eq_self, reduceCtorEq, Bool.or_true, Bool.true_or, Bool.or_false, Bool.false_or])
      · refine ⟨y, ?_⟩
        (rw [e_L_like_32]; simp (decide := true) only [e_L_like, lo_iload, lo_lload, lo_aload, lo_istore, lo_lstore, lo_iinc, lo_pushI, lo_pushL, lo_ii, lo_iid, lo_ll, lo_li, lo_lcmp, lo_i2l, lo_dup2, lo_goto, lo_if, lo_icmp, lq_iret_f, lq_iret_1, lq_iret_0, lq_iret_b, lq_lret, lq_bs, lq_bv, lq_bhv, lq_bhx, q_c8_0, q_c8_1, q_c8_2, q_c8_3, q_c8_4, q_set_0, q_set_1i, q_set_1r, q_set_1n, q_set_1N, q_set_s, q_set_1j, q_set_1l, q_set2_0, q_set2_1i, q_set2_1r, q_set2_1n, q_set2_s, q_if, zb_ite, cond_true, cond_false, List.getElem?_cons_zero, List.getElem?_cons_succ, Nat.reduceAdd, l, a1, c2, c4, Int32.reduceLT, Int32.reduceLE, Nat.reduceLeDiff, Nat.zero_le, Nat.le_refl, Nat.zero_add, if_true, if_false, zb_eq0, zb_eq1, zn_1, not_true_eq_false, not_false_eq_true, ite_true, ite_false, if_true, if_false, q_iret_0, q_iret_1, decide_true, decide_false, decide_not, zb_t, zb_f, z10, z01, cond_true, cond_false, Bool.and_true, Bool.true_and, Bool.and_false, Bool.false_and, Bool.not_true, Bool.not_false, true_and, and_true, false_and, and_false, true_or, or_true, false_or, or_false, Bool.true_eq_false, Bool.false_eq_true, eq_self, reduceCtorEq, Bool.or_true, Bool.true_or, Bool.or_false, Bool.false_or])
  obtain ⟨x, s2⟩ := s2
  exact ⟨x, s_L_like _ _ (s1.trans (e.trans s2))⟩
theorem l_18 (H : Iv A) (x : Int64) : ∀ i, i ≤ nv A 1 → ∃ y, lz_ev tL_all 18 [some (.ref 0), some (.long x), none, some (.int 0)] [] (A, 0) = lz_ev tL_all 18 [some (.ref 0), some (.long y), none, some (.int (zn i))] [] (A, 22 * i) := by
  intro i
  have H' := H
  obtain ⟨hA, ⟨R, HR⟩, -⟩ := H'
  have n60 := rl_n60 HR.1
  induction i with
  | zero => exact fun _ => ⟨x, rfl⟩
  | succ i ih =>
    intro hi
    obtain ⟨y, e⟩ := ih (by omega)
    obtain ⟨v, o1⟩ := w_like H (k := i) (by omega)
    have o2 := kV_e (g_versionOf hA HR (o := i) (by omega))
    have o0 := kV_e (g_objects hA HR)
    have l : (zn (nv A 1) ≤ zn i) = False := zn_le (a := nv A 1) (b := i) (by omega) (by omega) ▸ eq_false (by omega)
    refine ⟨1000003 * y + v + 7 * (A.1 15 i).toInt64, e.trans ?_⟩
    clear e ih
    rw [show 22 * (i + 1) = 22 * i + 22 from rfl]
    have f0 : 22 * i + 22 ≤ 1320 := by omega
    generalize 22 * i = n at f0 ⊢
    have f1 : (n + 22 ≤ 1320) = True := eq_true f0
    have f3 : (n ≤ 1320) = True := eq_true (by omega)
    (rw [e_L_all_18]; simp (decide := true) only [e_L_all, lo_iload, lo_lload, lo_aload, lo_istore, lo_lstore, lo_iinc, lo_pushI, lo_pushL, lo_ii, lo_iid, lo_ll, lo_li, lo_lcmp, lo_i2l, lo_dup2, lo_goto, lo_if, lo_icmp, lq_iret_f, lq_iret_1, lq_iret_0, lq_iret_b, lq_lret, lq_bs, lq_bv, lq_bhv, lq_bhx, q_c8_0, q_c8_1, q_c8_2, q_c8_3, q_c8_4, q_set_0, q_set_1i, q_set_1r, q_set_1n, q_set_1N, q_set_s, q_set_1j, q_set_1l, q_set2_0, q_set2_1i, q_set2_1r, q_set2_1n, q_set2_s, q_if, zb_ite, cond_true, cond_false, List.getElem?_cons_zero, List.getElem?_cons_succ, Nat.reduceAdd, l, o0, o1, o2, f1, f3, Int32.reduceLT, Int32.reduceLE, Nat.reduceLeDiff, Nat.zero_le, Nat.le_refl, Nat.zero_add, if_true, if_false, zb_eq0, zb_eq1, zn_1, not_true_eq_false, not_false_eq_true, ite_true, ite_false, if_true, if_false, q_iret_0, q_iret_1, decide_true, decide_false, decide_not, zb_t, zb_f, z10, z01, cond_true, cond_false, Bool.and_true, Bool.true_and, Bool.and_false, Bool.false_and, Bool.not_true, Bool.not_false, true_and, and_true, false_and, and_false, true_or, or_true, false_or, or_false, Bool.true_eq_false, Bool.false_eq_true, eq_self, reduceCtorEq, Bool.or_true, Bool.true_or, Bool.or_false, Bool.false_or])
theorem l_57 (H : Iv A) (x : Int64) {n : Nat} (hn : n ≤ 1320) : ∀ i, i ≤ 8 → ∃ y, lz_ev tL_all 57 [some (.ref 0), some (.long x), none, some (.int 0)] [] (A, n) = lz_ev tL_all 57 [some (.ref 0), some (.long y), none, some (.int (zn i))] [] (A, n) := by
  intro i
  have H' := H
  obtain ⟨hA, ⟨R, HR⟩, -⟩ := H'
  induction i with
  | zero => exact fun _ => ⟨x, rfl⟩
  | succ i ih =>
    intro hi
    obtain ⟨y, e⟩ := ih (by omega)
    obtain ⟨v, o1, -⟩ := q_any H (c := i) (p := 0) (by omega) (by decide)
    obtain ⟨w, o2, -⟩ := q_any H (c := i) (p := 2) (by omega) (by decide)
    have o1' : lz_g fX11_queued [.ref 0, .int (zn i), .int 0] A = _ := o1
    have o2' : lz_g fX11_queued [.ref 0, .int (zn i), .int 2] A = _ := o2
    have o0 := kV_e (g_seen hA HR (c := i) (by omega))
    have l : ((8 : Int32) ≤ zn i) = False := zn_le (a := 8) (b := i) (by decide) (by omega) ▸ eq_false (by omega)
    refine ⟨31 * y + (zn (ve A (3 + i))).toInt64 + 7 * v.toInt64 + 3 * w.toInt64, e.trans ?_⟩
    clear e ih o1 o2
    have f3 : (n ≤ 1320) = True := eq_true hn
    (rw [e_L_all_57]; simp (decide := true) only [e_L_all, lo_iload, lo_lload, lo_aload, lo_istore, lo_lstore, lo_iinc, lo_pushI, lo_pushL, lo_ii, lo_iid, lo_ll, lo_li, lo_lcmp, lo_i2l, lo_dup2, lo_goto, lo_if, lo_icmp, lq_iret_f, lq_iret_1, lq_iret_0, lq_iret_b, lq_lret, lq_bs, lq_bv, lq_bhv, lq_bhx, q_c8_0, q_c8_1, q_c8_2, q_c8_3, q_c8_4, q_set_0, q_set_1i, q_set_1r, q_set_1n, q_set_1N, q_set_s, q_set_1j, q_set_1l, q_set2_0, q_set2_1i, q_set2_1r, q_set2_1n, q_set2_s, q_if, zb_ite, cond_true, cond_false, List.getElem?_cons_zero, List.getElem?_cons_succ, Nat.reduceAdd, l, o0, o1', o2', f3, Int32.reduceLT, Int32.reduceLE, Nat.reduceLeDiff, Nat.zero_le, Nat.le_refl, Nat.zero_add, if_true, if_false, zb_eq0, zb_eq1, zn_1, not_true_eq_false, not_false_eq_true, ite_true, ite_false, if_true, if_false, q_iret_0, q_iret_1, decide_true, decide_false, decide_not, zb_t, zb_f, z10, z01, cond_true, cond_false, Bool.and_true, Bool.true_and, Bool.and_false, Bool.false_and, Bool.not_true, Bool.not_false, true_and, and_true, false_and, and_false, true_or, or_true, false_or, or_false, Bool.true_eq_false, Bool.false_eq_true, eq_self, reduceCtorEq, Bool.or_true, Bool.true_or, Bool.or_false, Bool.false_or])
theorem w_all (H : Iv A) : ∃ x, fL_all [.ref 0] A = some (some (.long x), A) := by
  have H' := H
  obtain ⟨hA, ⟨R, HR⟩, -⟩ := H'
  have n60 := rl_n60 HR.1
  have a1 := kV_e (g_version hA HR)
  have a2 := kV_e (g_objects hA HR)
  obtain ⟨y, e⟩ := l_18 H ((zn (ve A 1)).toInt64 + 31 * (zn (nv A 1)).toInt64) (nv A 1) (Nat.le_refl _)
  have s1 : lz_ev tL_all 0 [some (.ref 0), none, none, none] [] (A, 0) = lz_ev tL_all 18 [some (.ref 0), some (.long ((zn (ve A 1)).toInt64 + 31 * (zn (nv A 1)).toInt64)), none, some (.int 0)] [] (A, 0) := by
    clear e
    (simp (decide := true) only [e_L_all, lo_iload, lo_lload, lo_aload, lo_istore, lo_lstore, lo_iinc, lo_pushI, lo_pushL, lo_ii, lo_iid, lo_ll, lo_li, lo_lcmp, lo_i2l, lo_dup2, lo_goto, lo_if, lo_icmp, lq_iret_f, lq_iret_1, lq_iret_0, lq_iret_b, lq_lret, lq_bs, lq_bv, lq_bhv, lq_bhx, q_c8_0, q_c8_1, q_c8_2, q_c8_3, q_c8_4, q_set_0, q_set_1i, q_set_1r, q_set_1n, q_set_1N, q_set_s, q_set_1j, q_set_1l, q_set2_0, q_set2_1i, q_set2_1r, q_set2_1n, q_set2_s, q_if, zb_ite, cond_true, cond_false, List.getElem?_cons_zero, List.getElem?_cons_succ, Nat.reduceAdd, a1, a2, Int32.reduceLT, Int32.reduceLE, Nat.reduceLeDiff, Nat.zero_le, Nat.le_refl, Nat.zero_add, if_true, if_false, zb_eq0, zb_eq1, zn_1, not_true_eq_false, not_false_eq_true, ite_true, ite_false, if_true, if_false, q_iret_0, q_iret_1, decide_true, decide_false, decide_not, zb_t, zb_f, z10, z01, cond_true, cond_false, Bool.and_true, Bool.true_and, Bool.and_false, Bool.false_and, Bool.not_true, Bool.not_false, true_and, and_true, false_and, and_false, true_or, or_true, false_or, or_false, Bool.true_eq_false, Bool.false_eq_true, eq_self, reduceCtorEq, Bool.or_true, Bool.true_or, Bool.or_false, Bool.false_or])
  have f0 : 22 * nv A 1 ≤ 1320 := by omega
  generalize 22 * nv A 1 = n at e f0
  have f3 : (n ≤ 1320) = True := eq_true f0
  obtain ⟨z, e2⟩ := l_57 H y f0 8 (Nat.le_refl _)
  have l : (zn (nv A 1) ≤ zn (nv A 1)) = True := zk_ge n60 (by decide)
  have s2 : lz_ev tL_all 18 [some (.ref 0), some (.long y), none, some (.int (zn (nv A 1)))] [] (A, n) = lz_ev tL_all 57 [some (.ref 0), some (.long y), none, some (.int 0)] [] (A, n) := by
    clear e e2 s1
    (rw [e_L_all_18]; simp (decide := true) only [e_L_all, lo_iload, lo_lload, lo_aload, lo_istore, lo_lstore, lo_iinc, lo_pushI, lo_pushL, lo_ii, lo_iid, lo_ll, lo_li, lo_lcmp, lo_i2l, lo_dup2, lo_goto, lo_if, lo_icmp, lq_iret_f, lq_iret_1, lq_iret_0, lq_iret_b, lq_lret, lq_bs, lq_bv, lq_bhv, lq_bhx, q_c8_0, q_c8_1, q_c8_2, q_c8_3, q_c8_4, q_set_0, q_set_1i, q_set_1r, q_set_1n, q_set_1N, q_set_s, q_set_1j, q_set_1l, q_set2_0, q_set2_1i, q_set2_1r, q_set2_1n, q_set2_s, q_if, zb_ite, cond_true, cond_false, List.getElem?_cons_zero, List.getElem?_cons_succ, Nat.reduceAdd, l, a2, f3, Int32.reduceLT, Int32.reduceLE, Nat.reduceLeDiff, Nat.zero_le, Nat.le_refl, Nat.zero_add, if_true, if_false, zb_eq0, zb_eq1, zn_1, not_true_eq_false, not_false_eq_true, ite_true, ite_false, if_true, if_false, q_iret_0, q_iret_1, decide_true, decide_false, decide_not, zb_t, zb_f, z10, z01, cond_true, cond_false, Bool.and_true, Bool.true_and, Bool.and_false, Bool.false_and, Bool.not_true, Bool.not_false, true_and, and_true, false_and, and_false, true_or, or_true, false_or, or_false, Bool.true_eq_false, Bool.false_eq_true, eq_self, reduceCtorEq, Bool.or_true, Bool.true_or, Bool.or_false, Bool.false_or])
  have l8 : ((8 : Int32) ≤ zn 8) = True := eq_true (by decide)
  have s3 : lz_ev tL_all 57 [some (.ref 0), some (.long z), none, some (.int (zn 8))] [] (A, n) = some (some (.long z), (A, n)) := by
    clear e e2 s1 s2
    (rw [e_L_all_57]; simp (decide := true) only [e_L_all, lo_iload, lo_lload, lo_aload, lo_istore, lo_lstore, lo_iinc, lo_pushI, lo_pushL, lo_ii, lo_iid, lo_ll, lo_li, lo_lcmp, lo_i2l, lo_dup2, lo_goto, lo_if, lo_icmp, lq_iret_f, lq_iret_1, lq_iret_0, lq_iret_b, lq_lret, lq_bs, lq_bv, lq_bhv, lq_bhx, q_c8_0, q_c8_1, q_c8_2, q_c8_3, q_c8_4, q_set_0, q_set_1i, q_set_1r, q_set_1n, q_set_1N, q_set_s, q_set_1j, q_set_1l, q_set2_0, q_set2_1i, q_set2_1r, q_set2_1n, q_set2_s, q_if, zb_ite, cond_true, cond_false, List.getElem?_cons_zero, List.getElem?_cons_succ, Nat.reduceAdd, l8, f3, Int32.reduceLT, Int32.reduceLE, Nat.reduceLeDiff, Nat.zero_le, Nat.le_refl, Nat.zero_add, if_true, if_false, zb_eq0, zb_eq1, zn_1, not_true_eq_false, not_false_eq_true, ite_true, ite_false, if_true, if_false, q_iret_0, q_iret_1, decide_true, decide_false, decide_not, zb_t, zb_f, z10, z01, cond_true, cond_false, Bool.and_true, Bool.true_and, Bool.and_false, Bool.false_and, Bool.not_true, Bool.not_false, true_and, and_true, false_and, and_false, true_or, or_true, false_or, or_false, Bool.true_eq_false, Bool.false_eq_true, eq_self, reduceCtorEq, Bool.or_true, Bool.true_or, Bool.or_false, Bool.false_or])
  exact ⟨z, s_L_all _ (s1.trans (e.trans (s2.trans (e2.trans s3))))⟩
end
end

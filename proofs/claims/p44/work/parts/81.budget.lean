section
/-! applyBudget, in both -/
theorem xor10 (x : Int32) : (0 ≤ x ^^^ 10) = (0 ≤ x) := by
  have h : (x ^^^ 10).toBitVec.msb = x.toBitVec.msb := by
    rw [Int32.toBitVec_xor, BitVec.msb_xor, show (10 : Int32).toBitVec.msb = false from by decide, Bool.xor_false]
  rw [BitVec.msb_eq_toInt, BitVec.msb_eq_toInt] at h
  have h2 : ((x ^^^ 10).toInt < 0) ↔ (x.toInt < 0) := decide_eq_decide.mp h
  rw [Int32.le_iff_toInt_le, Int32.le_iff_toInt_le, Int32.toInt_zero]
  exact propext ⟨fun z => by omega, fun z => by omega⟩
theorem div10 {q : Nat} (hq : q < 2147483648) : zn q / 10 = zn (q / 10) := by
  refine Int32.toInt_inj.mp ?_
  rw [Int32.toInt_div_of_ne_right _ _ (by decide), zn_toInt hq, zn_toInt (by omega)]
  exact (Int.ofNat_tdiv q 10).symm
theorem mod10 {q : Nat} (hq : q < 2147483648) : zn q - zn q / 10 * 10 = zn (q % 10) := by
  rw [div10 hq, show (10 : Int32) = zn 10 from rfl, zn_mul, zn_sub (by omega)]
  exact congrArg zn (by omega)
theorem div10n {x : Int32} (h : x < 0) : (x / 10).toInt ≤ 0 ∧ -2147483648 < (x / 10).toInt ∧ (x / 10 * 10 = x → x / 10 < 0) := by
  rw [Int32.lt_iff_toInt_lt, Int32.toInt_zero] at h
  have hl := Int32.le_toInt x
  have e : (x / 10).toInt = x.toInt.tdiv 10 := Int32.toInt_div_of_ne_right _ _ (by decide)
  obtain ⟨n, hn⟩ : ∃ n : Nat, x.toInt = -(n : Int) := ⟨(-x.toInt).toNat, by omega⟩
  have e2 : x.toInt.tdiv 10 = -((n / 10 : Nat) : Int) := by
    rw [hn, Int.neg_tdiv]
    exact congrArg Neg.neg (Int.ofNat_tdiv n 10).symm
  refine ⟨by omega, by omega, fun z => ?_⟩
  rw [Int32.lt_iff_toInt_lt, Int32.toInt_zero]
  have : x / 10 ≠ 0 := fun y => by
    rw [y] at z
    have z2 : x = 0 := z.symm
    rw [z2, Int32.toInt_zero] at h
    omega
  have : (x / 10).toInt ≠ 0 := fun y => this (Int32.toInt_inj.mp (y.trans Int32.toInt_zero.symm))
  omega
section
variable {M R : zzMd}
theorem sp_fdivP {q : Nat} (hq : q < 2147483648) (M : zzMd) : fJ9_floorDiv_7cf53 [.int (zn q), .int 10] M = some (.inl (some (.int (zn (q / 10)))), M) := by
  have z : ((10 : Int32) = 0) = False := eq_false (by decide)
  have hx : (0 ≤ zn q ^^^ 10) = True := by
    rw [xor10, Int32.le_iff_toInt_le, Int32.toInt_zero, zn_toInt hq]
    exact eq_true (by omega)
  have hd := div10 hq
  rw [s_J9_floorDiv_7cf53]
  (simp only [e_J9_floorDiv_7cf53, zo_iload, zo_lload, zo_aload, zo_istore, zo_lstore, zo_astore, zo_iinc, zo_pushI, zo_pushL, zo_null, zo_ii, zo_iid, zo_ll, zo_li, zo_lcmp, zo_i2l, zo_l2i, zo_dup, zo_dup2, zo_pop, zo_goto, zo_if, zo_icmp, zo_ifnull, zo_gets, zo_mm, zo_throw, zo_ret, zo_aret, zo_lret, q_iret_f, q_iret_1, q_iret_0, q_iret_b, q_c8_0, q_c8_1, q_c8_2, q_c8_3, q_c8_4, q_set_0, q_set_1i, q_set_1r, q_set_1n, q_set_1N, q_set_s, q_set_1j, q_bk_v, q_bk_n, q_if, zb_ite, cond_true, cond_false, List.getElem?_cons_zero, List.getElem?_cons_succ, Nat.reduceAdd, z, hx, hd, if_true, if_false, zb_eq0, zb_eq1, zn_1, not_true_eq_false, not_false_eq_true, ite_true, ite_false, if_true, if_false, q_iret_0, q_iret_1, decide_true, decide_false, decide_not, zb_t, zb_f, z10, z01, cond_true, cond_false, Bool.and_true, Bool.true_and, Bool.and_false, Bool.false_and, Bool.not_true, Bool.not_false, true_and, and_true, false_and, and_false, true_or, or_true, false_or, or_false, Bool.true_eq_false, Bool.false_eq_true, eq_self, reduceCtorEq, Bool.or_true, Bool.true_or, Bool.or_false, Bool.false_or])
theorem sp_fmodP {q : Nat} (hq : q < 2147483648) (M : zzMd) : fJ9_floorMod_7cf53 [.int (zn q), .int 10] M = some (.inl (some (.int (zn (q % 10)))), M) := by
  have z : ((10 : Int32) = 0) = False := eq_false (by decide)
  have hx : (0 ≤ zn q ^^^ 10) = True := by
    rw [xor10, Int32.le_iff_toInt_le, Int32.toInt_zero, zn_toInt hq]
    exact eq_true (by omega)
  have hd := mod10 hq
  rw [s_J9_floorMod_7cf53]
  (simp only [e_J9_floorMod_7cf53, zo_iload, zo_lload, zo_aload, zo_istore, zo_lstore, zo_astore, zo_iinc, zo_pushI, zo_pushL, zo_null, zo_ii, zo_iid, zo_ll, zo_li, zo_lcmp, zo_i2l, zo_l2i, zo_dup, zo_dup2, zo_pop, zo_goto, zo_if, zo_icmp, zo_ifnull, zo_gets, zo_mm, zo_throw, zo_ret, zo_aret, zo_lret, q_iret_f, q_iret_1, q_iret_0, q_iret_b, q_c8_0, q_c8_1, q_c8_2, q_c8_3, q_c8_4, q_set_0, q_set_1i, q_set_1r, q_set_1n, q_set_1N, q_set_s, q_set_1j, q_bk_v, q_bk_n, q_if, zb_ite, cond_true, cond_false, List.getElem?_cons_zero, List.getElem?_cons_succ, Nat.reduceAdd, z, hx, hd, if_true, if_false, zb_eq0, zb_eq1, zn_1, not_true_eq_false, not_false_eq_true, ite_true, ite_false, if_true, if_false, q_iret_0, q_iret_1, decide_true, decide_false, decide_not, zb_t, zb_f, z10, z01, cond_true, cond_false, Bool.and_true, Bool.true_and, Bool.and_false, Bool.false_and, Bool.not_true, Bool.not_false, true_and, and_true, false_and, and_false, true_or, or_true, false_or, or_false, Bool.true_eq_false, Bool.false_eq_true, eq_self, reduceCtorEq, Bool.or_true, Bool.true_or, Bool.or_false, Bool.false_or])
theorem sp_fdivN {x : Int32} (h : x < 0) (M : zzMd) : ∃ v, fJ9_floorDiv_7cf53 [.int x, .int 10] M = some (.inl (some (.int v)), M) ∧ v < 0 := by
  have z : ((10 : Int32) = 0) = False := eq_false (by decide)
  have hx : (0 ≤ x ^^^ 10) = False := by
    rw [xor10]
    exact eq_false (Int32.not_le.mpr h)
  obtain ⟨d1, d2, d3⟩ := div10n h
  rw [s_J9_floorDiv_7cf53]
  by_cases d : x / 10 * 10 = x
  · refine ⟨x / 10, ?_, d3 d⟩
    (simp only [e_J9_floorDiv_7cf53, zo_iload, zo_lload, zo_aload, zo_istore, zo_lstore, zo_astore, zo_iinc, zo_pushI, zo_pushL, zo_null, zo_ii, zo_iid, zo_ll, zo_li, zo_lcmp, zo_i2l, zo_l2i, zo_dup, zo_dup2, zo_pop, zo_goto, zo_if, zo_icmp, zo_ifnull, zo_gets, zo_mm, zo_throw, zo_ret, zo_aret, zo_lret, q_iret_f, q_iret_1, q_iret_0, q_iret_b, q_c8_0, q_c8_1, q_c8_2, q_c8_3, q_c8_4, q_set_0, q_set_1i, q_set_1r, q_set_1n, q_set_1N, q_set_s, q_set_1j, q_bk_v, q_bk_n, q_if, zb_ite, cond_true, cond_false, List.getElem?_cons_zero, List.getElem?_cons_succ, Nat.reduceAdd, z, hx, d, if_true, if_false, zb_eq0, zb_eq1, zn_1, not_true_eq_false, not_false_eq_true, ite_true, ite_false, if_true, if_false, q_iret_0, q_iret_1, decide_true, decide_false, decide_not, zb_t, zb_f, z10, z01, cond_true, cond_false, Bool.and_true, Bool.true_and, Bool.and_false, Bool.false_and, Bool.not_true, Bool.not_false, true_and, and_true, false_and, and_false, true_or, or_true, false_or, or_false, Bool.true_eq_false, Bool.false_eq_true, eq_self, reduceCtorEq, Bool.or_true, Bool.true_or, Bool.or_false, Bool.false_or])
  · refine ⟨x / 10 - 1, ?_, ?_⟩
    · (simp only [e_J9_floorDiv_7cf53, zo_iload, zo_lload, zo_aload, zo_istore, zo_lstore, zo_astore, zo_iinc, zo_pushI, zo_pushL, zo_null, zo_ii, zo_iid, zo_ll, zo_li, zo_lcmp, zo_i2l, zo_l2i, zo_dup, zo_dup2, zo_pop, zo_goto, zo_if, zo_icmp, zo_ifnull, zo_gets, zo_mm, zo_throw, zo_ret, zo_aret, zo_lret, q_iret_f, q_iret_1, q_iret_0, q_iret_b, q_c8_0, q_c8_1, q_c8_2, q_c8_3, q_c8_4, q_set_0, q_set_1i, q_set_1r, q_set_1n, q_set_1N, q_set_s, q_set_1j, q_bk_v, q_bk_n, q_if, zb_ite, cond_true, cond_false, List.getElem?_cons_zero, List.getElem?_cons_succ, Nat.reduceAdd, z, hx, d, if_true, if_false, zb_eq0, zb_eq1, zn_1, not_true_eq_false, not_false_eq_true, ite_true, ite_false, if_true, if_false, q_iret_0, q_iret_1, decide_true, decide_false, decide_not, zb_t, zb_f, z10, z01, cond_true, cond_false, Bool.and_true, Bool.true_and, Bool.and_false, Bool.false_and, Bool.not_true, Bool.not_false, true_and, and_true, false_and, and_false, true_or, or_true, false_or, or_false, Bool.true_eq_false, Bool.false_eq_true, eq_self, reduceCtorEq, Bool.or_true, Bool.true_or, Bool.or_false, Bool.false_or])
    · rw [Int32.lt_iff_toInt_lt, Int32.toInt_zero, Int32.toInt_sub, show (1 : Int32).toInt = 1 from by decide, Int.bmod_eq_of_le (by omega) (by omega)]
      omega
theorem sp_fmodN (x : Int32) (M : zzMd) : ∃ v, fJ9_floorMod_7cf53 [.int x, .int 10] M = some (.inl (some (.int v)), M) := by
  have z : ((10 : Int32) = 0) = False := eq_false (by decide)
  rw [s_J9_floorMod_7cf53]
  by_cases d : 0 ≤ x ^^^ 10
  · exact ⟨x - x / 10 * 10, by (simp only [e_J9_floorMod_7cf53, zo_iload, zo_lload, zo_aload, zo_istore, zo_lstore, zo_astore, zo_iinc, zo_pushI, zo_pushL, zo_null, zo_ii, zo_iid, zo_ll, zo_li, zo_lcmp, zo_i2l, zo_l2i, zo_dup, zo_dup2, zo_pop, zo_goto, zo_if, zo_icmp, zo_ifnull, zo_gets, zo_mm, zo_throw, zo_ret, zo_aret, zo_lret, q_iret_f, q_iret_1, q_iret_0, q_iret_b, q_c8_0, q_c8_1, q_c8_2, q_c8_3, q_c8_4, q_set_0, q_set_1i, q_set_1r, q_set_1n, q_set_1N, q_set_s, q_set_1j, q_bk_v, q_bk_n, q_if, zb_ite, cond_true, cond_false, List.getElem?_cons_zero, List.getElem?_cons_succ, Nat.reduceAdd, z, d, if_true, if_false, zb_eq0, zb_eq1, zn_1, not_true_eq_false, not_false_eq_true, ite_true, ite_false, if_true, if_false, q_iret_0, q_iret_1, decide_true, decide_false, decide_not, zb_t, zb_f, z10, z01, cond_true, cond_false, Bool.and_true, Bool.true_and, Bool.and_false, Bool.false_and, Bool.not_true, Bool.not_false, true_and, and_true, false_and, and_false, true_or, or_true, false_or, or_false, Bool.true_eq_false, Bool.false_eq_true, eq_self, reduceCtorEq, Bool.or_true, Bool.true_or, Bool.or_false, Bool.false_or])⟩
  · by_cases e : x - x / 10 * 10 = 0
    · exact ⟨x - x / 10 * 10, by (simp only [e_J9_floorMod_7cf53, zo_iload, zo_lload, zo_aload, zo_istore, zo_lstore, zo_astore, zo_iinc, zo_pushI, zo_pushL, zo_null, zo_ii, zo_iid, zo_ll, zo_li, zo_lcmp, zo_i2l, zo_l2i, zo_dup, zo_dup2, zo_pop, zo_goto, zo_if, zo_icmp, zo_ifnull, zo_gets, zo_mm, zo_throw, zo_ret, zo_aret, zo_lret, q_iret_f, q_iret_1, q_iret_0, q_iret_b, q_c8_0, q_c8_1, q_c8_2, q_c8_3, q_c8_4, q_set_0, q_set_1i, q_set_1r, q_set_1n, q_set_1N, q_set_s, q_set_1j, q_bk_v, q_bk_n, q_if, zb_ite, cond_true, cond_false, List.getElem?_cons_zero, List.getElem?_cons_succ, Nat.reduceAdd, z, d, e, if_true, if_false, zb_eq0, zb_eq1, zn_1, not_true_eq_false, not_false_eq_true, ite_true, ite_false, if_true, if_false, q_iret_0, q_iret_1, decide_true, decide_false, decide_not, zb_t, zb_f, z10, z01, cond_true, cond_false, Bool.and_true, Bool.true_and, Bool.and_false, Bool.false_and, Bool.not_true, Bool.not_false, true_and, and_true, false_and, and_false, true_or, or_true, false_or, or_false, Bool.true_eq_false, Bool.false_eq_true, eq_self, reduceCtorEq, Bool.or_true, Bool.true_or, Bool.or_false, Bool.false_or])⟩
    · exact ⟨x - x / 10 * 10 + 10, by (simp only [e_J9_floorMod_7cf53, zo_iload, zo_lload, zo_aload, zo_istore, zo_lstore, zo_astore, zo_iinc, zo_pushI, zo_pushL, zo_null, zo_ii, zo_iid, zo_ll, zo_li, zo_lcmp, zo_i2l, zo_l2i, zo_dup, zo_dup2, zo_pop, zo_goto, zo_if, zo_icmp, zo_ifnull, zo_gets, zo_mm, zo_throw, zo_ret, zo_aret, zo_lret, q_iret_f, q_iret_1, q_iret_0, q_iret_b, q_c8_0, q_c8_1, q_c8_2, q_c8_3, q_c8_4, q_set_0, q_set_1i, q_set_1r, q_set_1n, q_set_1N, q_set_s, q_set_1j, q_bk_v, q_bk_n, q_if, zb_ite, cond_true, cond_false, List.getElem?_cons_zero, List.getElem?_cons_succ, Nat.reduceAdd, z, d, e, if_true, if_false, zb_eq0, zb_eq1, zn_1, not_true_eq_false, not_false_eq_true, ite_true, ite_false, if_true, if_false, q_iret_0, q_iret_1, decide_true, decide_false, decide_not, zb_t, zb_f, z10, z01, cond_true, cond_false, Bool.and_true, Bool.true_and, Bool.and_false, Bool.false_and, Bool.not_true, Bool.not_false, true_and, and_true, false_and, and_false, true_or, or_true, false_or, or_false, Bool.true_eq_false, Bool.false_eq_true, eq_self, reduceCtorEq, Bool.or_true, Bool.true_or, Bool.or_false, Bool.false_or])⟩
end
section
variable {A R : zzMd}
theorem Rel_ap2 (H : Rel A R) {o : Nat} (ho : o < nv A 1) (hk : R.1 6 o = 0) {a b : Nat} (ha : a ≤ 2) (hb : b ≤ 2) (m : Int32) :
    ∃ x' rf, fX12_admitted [.ref 0, .int 0, .long (wt (wt (R.2 7 o) 2 (zn a)) 3 (zn b))] R = some (.inl (some (.long x')), zz_sI R 0 31 (zb rf)) ∧ Rel A (zz_sI R 0 31 (zb rf)) ∧
      (rf = true → aAp2 A m o (zn a) (zn b) = (false, A)) ∧
      (rf = false → ∃ R', fX12_puts [.ref 0, .int (zn o), .long x', .long (R.2 8 o), .int (zb (!(decide (R.1 10 (11 * o + 2) = m) && decide (R.1 10 (11 * o + 3) = m))))] (zz_sI R 0 31 (zb rf)) = some (.inl (some (.int (zb (aAp2 A m o (zn a) (zn b)).1))), R') ∧
        ((aAp2 A m o (zn a) (zn b)).1 = false → Rel (aAp2 A m o (zn a) (zn b)).2 R') ∧ ((aAp2 A m o (zn a) (zn b)).1 = true → Rel (aAp2 A m o (zn a) (zn b)).2 (zz_sI (zz_sI (zz_sI R' 0 49 0) 10 (11 * o + 2) m) 10 (11 * o + 3) m)) ∧ nv (aAp2 A m o (zn a) (zn b)).2 1 = nv A 1) := by
  have h60 := lt_n60 H.1 ho
  obtain ⟨c1, c2, c3, c4, c5⟩ := rl_cur H.1 ho
  have K := H.1.1.1
  obtain ⟨D, hD⟩ : ∃ D, D = dUp (dUp (dUp (dUp (row A o) 2 (zn a)) 3 (zn b)) 13 m) 14 m := ⟨_, rfl⟩
  have eo : ∀ s, s ≠ 2 → s ≠ 3 → s ≠ 13 → s ≠ 14 → D s = row A o s := fun s h1 h2 h3 h4 => by
    rw [hD]
    show (if s = 14 then m else if s = 13 then m else if s = 3 then zn b else if s = 2 then zn a else row A o s) = _
    rw [if_neg h4, if_neg h3, if_neg h2, if_neg h1]
  have e13 : D 13 = m := by rw [hD]; rfl
  have e14 : D 14 = m := by rw [hD]; rfl
  have eD : encR (wt (wt (R.2 7 o) 2 (zn a)) 3 (zn b)) D := by
    refine enc_c (enc_f (f := 3) (by decide) hb (enc_f (f := 2) (by decide) ha c1)) fun k hk => ?_
    have key : ∀ k : Fin 17, sl k.1 ≠ 13 ∧ sl k.1 ≠ 14 := by decide
    rw [hD]
    exact (if_neg (key ⟨k, hk⟩).2).trans (if_neg (key ⟨k, hk⟩).1)
  have gU : goodD D := by
    rw [hD]
    refine goodS_up (Or.inl (by decide)) (goodS_up (Or.inl (by decide)) ⟨goodF_up (f := 3) (by decide) (Nat.zero_le _) hb (goodF_up (f := 2) (by decide) (Nat.zero_le _) ha c3.1), ?_⟩)
    exact c3.2
  have e23 : D 23 = 0 := (eo 23 (by decide) (by decide) (by decide) (by decide)).trans (c5.trans hk)
  obtain ⟨g1, g2, x', e1, had⟩ := r_admitted K H.1.1.2.2.1 H.1.2.2.2.2.1 gU.1 eD
  rw [e23] at had
  have gD' : goodD (settled A D).2 := by
    refine ⟨g1, ?_⟩
    have h2 := gU.2
    unfold goodS at h2 ⊢
    rw [g2 22 (by omega), g2 23 (by omega), g2 24 (by omega), g2 25 (by omega), g2 26 (by omega), g2 27 (by omega), g2 28 (by omega), g2 29 (by omega)]
    exact h2
  have hlow : ∀ s, 11 ≤ s → s ≠ 13 → s ≠ 14 → (settled A D).2 s = row A o s := fun s hs h1 h2 => by
    rw [g2 s hs]
    exact eo s (by omega) (by omega) h1 h2
  have hm2 : (settled A D).2 (11 + 2) = m := (g2 13 (by decide)).trans e13
  have hm3 : (settled A D).2 (11 + 3) = m := (g2 14 (by decide)).trans e14
  have hman2 := rman_row H.1 H.2 ho (f := 2) (by decide)
  have hman3 := rman_row H.1 H.2 ho (f := 3) (by decide)
  have R31 : Rl0 A (zz_sI R 0 31 (zb (!((settled A D).1 && allowed A (settled A D).2)))) := Rl0_31 (Or.inl rfl) H.1
  have m1 : ∀ (b : Bool) a k, a ≠ 0 → (zz_sI R 0 31 (zb b)).1 a k = R.1 a k := fun b a k h => if_neg (fun y => h y.1)
  have eA : aAp2 A m o (zn a) (zn b) = aAd A o D := by rw [hD]; rfl
  rw [eA]
  unfold aAd
  refine ⟨x', !((settled A D).1 && allowed A (settled A D).2), had, ⟨R31, RMan_c H.2 (fun _ => rfl) rfl rfl fun b => m1 _ 10 b (by decide)⟩, ?_, ?_⟩
  · intro h
    rw [Bool.not_eq_true'] at h
    rw [h]; rfl
  · intro h
    have h' : ((settled A D).1 && allowed A (settled A D).2) = true := by
      cases q : (settled A D).1 && allowed A (settled A D).2
      · rw [q] at h; cases h
      · rfl
    rw [h'] at R31 ⊢
    simp only [cond_true, Bool.not_true] at R31 ⊢
    have hwr := Rl0_wr R31 ho (D := (settled A D).2) (x := x') (y := R.2 8 o) (b := !(decide (R.1 10 (11 * o + 2) = m) && decide (R.1 10 (11 * o + 3) = m))) gD' ((hlow 22 (by decide) (by decide) (by decide)).trans c4) ((hlow 23 (by decide) (by decide) (by decide)).trans c5) e1
      (encB_c c2 (hlow 30 (by decide) (by decide) (by decide)) (hlow 31 (by decide) (by decide) (by decide))) (by
        rw [hman2, hman3]
        constructor
        · intro h f' hf'
          rw [Bool.not_eq_false', Bool.and_eq_true_iff] at h
          have h1 := of_decide_eq_true h.1
          have h2 := of_decide_eq_true h.2
          by_cases q2 : f' = 2
          · rw [q2, hm2, h1]
          · by_cases q3 : f' = 3
            · rw [q3, hm3, h2]
            · exact hlow _ (by omega) (by omega) (by omega)
        · intro h
          have h1 := h 2 (by decide)
          have h2 := h 3 (by decide)
          rw [hm2] at h1
          rw [hm3] at h2
          rw [← h1, ← h2, decide_eq_true rfl]; rfl)
    obtain ⟨R', p1, p2, p3, p4, p5, p6⟩ := hwr
    refine ⟨R', p1, fun hres => ⟨p2, rman_of p2 fun q f' hq hf' => ?_⟩, fun hres => ?_, p5⟩
    · rw [p5] at hq
      rw [p3 10 _ (by decide) (by decide) (by decide), m1 false 10 _ (by decide), rman_row H.1 H.2 hq hf', p6 q hq _ (by omega), if_neg (by rw [hres]; simp)]
    · have hz : Rl0 (aWr A o (settled A D).2).2 (zz_sI (zz_sI (zz_sI R' 0 49 0) 10 (11 * o + 2) m) 10 (11 * o + 3) m) :=
        Rl0_scr p2 (fun b _ _ _ h4 => (sI_a (by decide)).trans ((sI_a (by decide)).trans (sI_b h4))) (fun a b h0 h _ _ => (sI_a h).trans ((sI_a h).trans (sI_a h0))) rfl
      refine ⟨hz, rman_of hz fun q f' hq hf' => ?_⟩
      rw [p5] at hq
      rw [p6 q hq (11 + f') (by omega)]
      by_cases e1 : q = o
      · rw [if_pos ⟨e1, hres⟩, e1]
        by_cases q3 : f' = 3
        · rw [q3, sI_e, hm3]
        · rw [sI_b (by omega)]
          by_cases q2 : f' = 2
          · rw [q2, sI_e, hm2]
          · rw [sI_b (by omega), sI_a (by decide), hlow _ (by omega) (by omega) (by omega), p3 10 _ (by decide) (by decide) (by decide), m1 false 10 _ (by decide), rman_row H.1 H.2 ho hf']
      · rw [if_neg (fun z => e1 z.1), sI_b (by omega), sI_b (by omega), sI_a (by decide), p3 10 _ (by decide) (by decide) (by decide), m1 false 10 _ (by decide), rman_row H.1 H.2 hq hf']
end
section
variable {M R : zzMd}
theorem sp_fdiv (x : Int32) (M : zzMd) : ∃ v w, fJ9_floorDiv_7cf53 [.int x, .int 10] M = some (.inl (some (.int v)), M) ∧ fJ9_floorMod_7cf53 [.int x, .int 10] M = some (.inl (some (.int w)), M) ∧
    ((x < 0 ∧ v < 0) ∨ ∃ q, x = zn q ∧ q < 2147483648 ∧ v = zn (q / 10) ∧ w = zn (q % 10)) := by
  by_cases h : x < 0
  · obtain ⟨v, v1, v2⟩ := sp_fdivN h M
    obtain ⟨w, w1⟩ := sp_fmodN x M
    exact ⟨v, w, v1, w1, Or.inl ⟨h, v2⟩⟩
  · have h0 : 0 ≤ x.toInt := by
      rw [Int32.lt_iff_toInt_lt, Int32.toInt_zero] at h
      omega
    have hl := Int32.toInt_lt x
    obtain ⟨e, l⟩ := zn_of (x := x) (n := 2147483648) h0 hl
    have v1 := sp_fdivP l M
    have w1 := sp_fmodP l M
    rw [← e] at v1 w1
    exact ⟨_, _, v1, w1, Or.inr ⟨_, e, l, rfl, rfl⟩⟩
set_option maxHeartbeats 4000000 in
theorem c_applyBudget (H : Rel (nz M) R) (m x g p : Int32) : zAg (cdl [2, 3, 1]) (fX11_applyBudget [.ref 0, .int m, .int x, .int g, .int p] M) (fX12_applyBudget [.ref 0, .int m, .int x, .int g, .int p] R) := by
  rw [s_X11_applyBudget, s_X12_applyBudget]
  rcases h_obj H x with ⟨h1, h2⟩ | ⟨o, rfl, ho, h1, h2⟩
  · refine zAg_x (M' := M) (R' := zz_sI R 0 49 1) (e := 2) (v := 0) ?_ ?_ (Rel_49 H) sI_e (by decide)
    · (simp only [e_X11_applyBudget, zo_iload, zo_lload, zo_aload, zo_istore, zo_lstore, zo_astore, zo_iinc, zo_pushI, zo_pushL, zo_null, zo_ii, zo_iid, zo_ll, zo_li, zo_lcmp, zo_i2l, zo_l2i, zo_dup, zo_dup2, zo_pop, zo_goto, zo_if, zo_icmp, zo_ifnull, zo_gets, zo_mm, zo_throw, zo_ret, zo_aret, zo_lret, q_iret_f, q_iret_1, q_iret_0, q_iret_b, q_c8_0, q_c8_1, q_c8_2, q_c8_3, q_c8_4, q_set_0, q_set_1i, q_set_1r, q_set_1n, q_set_1N, q_set_s, q_set_1j, q_bk_v, q_bk_n, q_if, zb_ite, cond_true, cond_false, List.getElem?_cons_zero, List.getElem?_cons_succ, Nat.reduceAdd, q_bx_v, q_bx_n, q_bx_x, h1, if_true, if_false, zb_eq0, zb_eq1, zn_1, not_true_eq_false, not_false_eq_true, ite_true, ite_false, if_true, if_false, q_iret_0, q_iret_1, decide_true, decide_false, decide_not, zb_t, zb_f, z10, z01, cond_true, cond_false, Bool.and_true, Bool.true_and, Bool.and_false, Bool.false_and, Bool.not_true, Bool.not_false, true_and, and_true, false_and, and_false, true_or, or_true, false_or, or_false, Bool.true_eq_false, Bool.false_eq_true, eq_self, reduceCtorEq, Bool.or_true, Bool.true_or, Bool.or_false, Bool.false_or])
    · (simp only [e_X12_applyBudget, zo_iload, zo_lload, zo_aload, zo_istore, zo_lstore, zo_astore, zo_iinc, zo_pushI, zo_pushL, zo_null, zo_ii, zo_iid, zo_ll, zo_li, zo_lcmp, zo_i2l, zo_l2i, zo_dup, zo_dup2, zo_pop, zo_goto, zo_if, zo_icmp, zo_ifnull, zo_gets, zo_mm, zo_throw, zo_ret, zo_aret, zo_lret, q_iret_f, q_iret_1, q_iret_0, q_iret_b, q_c8_0, q_c8_1, q_c8_2, q_c8_3, q_c8_4, q_set_0, q_set_1i, q_set_1r, q_set_1n, q_set_1N, q_set_s, q_set_1j, q_bk_v, q_bk_n, q_if, zb_ite, cond_true, cond_false, List.getElem?_cons_zero, List.getElem?_cons_succ, Nat.reduceAdd, q_set_1l, q_set2_0, q_set2_1i, q_set2_1r, q_set2_1n, q_set2_s, h2, r_goes1, if_true, if_false, zb_eq0, zb_eq1, zn_1, not_true_eq_false, not_false_eq_true, ite_true, ite_false, if_true, if_false, q_iret_0, q_iret_1, decide_true, decide_false, decide_not, zb_t, zb_f, z10, z01, cond_true, cond_false, Bool.and_true, Bool.true_and, Bool.and_false, Bool.false_and, Bool.not_true, Bool.not_false, true_and, and_true, false_and, and_false, true_or, or_true, false_or, or_false, Bool.true_eq_false, Bool.false_eq_true, eq_self, reduceCtorEq, Bool.or_true, Bool.true_or, Bool.or_false, Bool.false_or])
  have H0 : Rel (nz M) (zz_sI R 0 49 0) := Rel_49 H
  have hg0 := r_goes0 R
  generalize zz_sI R 0 49 0 = R0 at *
  have w23 := (h_rd H0 ho).1
  obtain ⟨⟨b1, x1⟩, -⟩ := r_kind H0.1 (o := o) ho
  obtain ⟨v, w, v1, w1, hvw⟩ := sp_fdiv g M
  have bad : zz_ev tX11_applyBudget 0 [some (.ref 0), some (.int m), some (.int (zn o)), some (.int g), some (.int p), none, none, none] [] M = some (.inr 0, M) →
      zz_ev tX12_applyBudget 0 [some (.ref 0), some (.int m), some (.int (zn o)), some (.int g), some (.int p), none, none, none, none, none, none] [] R = some (.inl (some (.int 0)), zz_sI R0 0 49 2) →
      zAg (cdl [2, 3, 1]) (zz_ev tX11_applyBudget 0 [some (.ref 0), some (.int m), some (.int (zn o)), some (.int g), some (.int p), none, none, none] [] M) (zz_ev tX12_applyBudget 0 [some (.ref 0), some (.int m), some (.int (zn o)), some (.int g), some (.int p), none, none, none, none, none, none] [] R) := fun u1 u2 => zAg_x u1 u2 (Rel_49 H0) sI_e (by decide)
  rcases h_mgr m with ⟨a1, a2⟩ | ⟨a1, a2⟩
  · refine bad ?_ ?_
    · (simp only [e_X11_applyBudget, zo_iload, zo_lload, zo_aload, zo_istore, zo_lstore, zo_astore, zo_iinc, zo_pushI, zo_pushL, zo_null, zo_ii, zo_iid, zo_ll, zo_li, zo_lcmp, zo_i2l, zo_l2i, zo_dup, zo_dup2, zo_pop, zo_goto, zo_if, zo_icmp, zo_ifnull, zo_gets, zo_mm, zo_throw, zo_ret, zo_aret, zo_lret, q_iret_f, q_iret_1, q_iret_0, q_iret_b, q_c8_0, q_c8_1, q_c8_2, q_c8_3, q_c8_4, q_set_0, q_set_1i, q_set_1r, q_set_1n, q_set_1N, q_set_s, q_set_1j, q_bk_v, q_bk_n, q_if, zb_ite, cond_true, cond_false, List.getElem?_cons_zero, List.getElem?_cons_succ, Nat.reduceAdd, q_bx_v, q_bx_n, q_bx_x, h1, v1, w1, a1, if_true, if_false, zb_eq0, zb_eq1, zn_1, not_true_eq_false, not_false_eq_true, ite_true, ite_false, if_true, if_false, q_iret_0, q_iret_1, decide_true, decide_false, decide_not, zb_t, zb_f, z10, z01, cond_true, cond_false, Bool.and_true, Bool.true_and, Bool.and_false, Bool.false_and, Bool.not_true, Bool.not_false, true_and, and_true, false_and, and_false, true_or, or_true, false_or, or_false, Bool.true_eq_false, Bool.false_eq_true, eq_self, reduceCtorEq, Bool.or_true, Bool.true_or, Bool.or_false, Bool.false_or])
    · (simp only [e_X12_applyBudget, zo_iload, zo_lload, zo_aload, zo_istore, zo_lstore, zo_astore, zo_iinc, zo_pushI, zo_pushL, zo_null, zo_ii, zo_iid, zo_ll, zo_li, zo_lcmp, zo_i2l, zo_l2i, zo_dup, zo_dup2, zo_pop, zo_goto, zo_if, zo_icmp, zo_ifnull, zo_gets, zo_mm, zo_throw, zo_ret, zo_aret, zo_lret, q_iret_f, q_iret_1, q_iret_0, q_iret_b, q_c8_0, q_c8_1, q_c8_2, q_c8_3, q_c8_4, q_set_0, q_set_1i, q_set_1r, q_set_1n, q_set_1N, q_set_s, q_set_1j, q_bk_v, q_bk_n, q_if, zb_ite, cond_true, cond_false, List.getElem?_cons_zero, List.getElem?_cons_succ, Nat.reduceAdd, q_set_1l, q_set2_0, q_set2_1i, q_set2_1r, q_set2_1n, q_set2_s, h2, hg0, a2, r_goes2, if_true, if_false, zb_eq0, zb_eq1, zn_1, not_true_eq_false, not_false_eq_true, ite_true, ite_false, if_true, if_false, q_iret_0, q_iret_1, decide_true, decide_false, decide_not, zb_t, zb_f, z10, z01, cond_true, cond_false, Bool.and_true, Bool.true_and, Bool.and_false, Bool.false_and, Bool.not_true, Bool.not_false, true_and, and_true, false_and, and_false, true_or, or_true, false_or, or_false, Bool.true_eq_false, Bool.false_eq_true, eq_self, reduceCtorEq, Bool.or_true, Bool.true_or, Bool.or_false, Bool.false_or])
  by_cases d0' : ¬ R0.1 6 o = 0
  · have d0 := d0'
    refine bad ?_ ?_
    · (simp only [e_X11_applyBudget, zo_iload, zo_lload, zo_aload, zo_istore, zo_lstore, zo_astore, zo_iinc, zo_pushI, zo_pushL, zo_null, zo_ii, zo_iid, zo_ll, zo_li, zo_lcmp, zo_i2l, zo_l2i, zo_dup, zo_dup2, zo_pop, zo_goto, zo_if, zo_icmp, zo_ifnull, zo_gets, zo_mm, zo_throw, zo_ret, zo_aret, zo_lret, q_iret_f, q_iret_1, q_iret_0, q_iret_b, q_c8_0, q_c8_1, q_c8_2, q_c8_3, q_c8_4, q_set_0, q_set_1i, q_set_1r, q_set_1n, q_set_1N, q_set_s, q_set_1j, q_bk_v, q_bk_n, q_if, zb_ite, cond_true, cond_false, List.getElem?_cons_zero, List.getElem?_cons_succ, Nat.reduceAdd, q_bx_v, q_bx_n, q_bx_x, h1, v1, w1, a1, w23, d0, if_true, if_false, zb_eq0, zb_eq1, zn_1, not_true_eq_false, not_false_eq_true, ite_true, ite_false, if_true, if_false, q_iret_0, q_iret_1, decide_true, decide_false, decide_not, zb_t, zb_f, z10, z01, cond_true, cond_false, Bool.and_true, Bool.true_and, Bool.and_false, Bool.false_and, Bool.not_true, Bool.not_false, true_and, and_true, false_and, and_false, true_or, or_true, false_or, or_false, Bool.true_eq_false, Bool.false_eq_true, eq_self, reduceCtorEq, Bool.or_true, Bool.true_or, Bool.or_false, Bool.false_or])
    · (simp only [e_X12_applyBudget, zo_iload, zo_lload, zo_aload, zo_istore, zo_lstore, zo_astore, zo_iinc, zo_pushI, zo_pushL, zo_null, zo_ii, zo_iid, zo_ll, zo_li, zo_lcmp, zo_i2l, zo_l2i, zo_dup, zo_dup2, zo_pop, zo_goto, zo_if, zo_icmp, zo_ifnull, zo_gets, zo_mm, zo_throw, zo_ret, zo_aret, zo_lret, q_iret_f, q_iret_1, q_iret_0, q_iret_b, q_c8_0, q_c8_1, q_c8_2, q_c8_3, q_c8_4, q_set_0, q_set_1i, q_set_1r, q_set_1n, q_set_1N, q_set_s, q_set_1j, q_bk_v, q_bk_n, q_if, zb_ite, cond_true, cond_false, List.getElem?_cons_zero, List.getElem?_cons_succ, Nat.reduceAdd, q_set_1l, q_set2_0, q_set2_1i, q_set2_1r, q_set2_1n, q_set2_s, h2, hg0, a2, b1, x1, q_aR, d0, r_goes2, if_true, if_false, zb_eq0, zb_eq1, zn_1, not_true_eq_false, not_false_eq_true, ite_true, ite_false, if_true, if_false, q_iret_0, q_iret_1, decide_true, decide_false, decide_not, zb_t, zb_f, z10, z01, cond_true, cond_false, Bool.and_true, Bool.true_and, Bool.and_false, Bool.false_and, Bool.not_true, Bool.not_false, true_and, and_true, false_and, and_false, true_or, or_true, false_or, or_false, Bool.true_eq_false, Bool.false_eq_true, eq_self, reduceCtorEq, Bool.or_true, Bool.true_or, Bool.or_false, Bool.false_or])
  have d0 : R0.1 6 o = 0 := Decidable.byContradiction d0'
  clear d0'
  rcases hvw with ⟨gn, vn⟩ | ⟨q, rfl, hq, rfl, rfl⟩
  · have i2 : fX11_isInRange [.int 2, .int v] M = some (.inl (some (.int 0)), M) := by
      have := sp_inR 2 v M
      rw [show inR 2 v = false from decide_eq_false fun z => z.2.2.1 vn] at this
      exact this
    refine bad ?_ ?_
    · (simp only [e_X11_applyBudget, zo_iload, zo_lload, zo_aload, zo_istore, zo_lstore, zo_astore, zo_iinc, zo_pushI, zo_pushL, zo_null, zo_ii, zo_iid, zo_ll, zo_li, zo_lcmp, zo_i2l, zo_l2i, zo_dup, zo_dup2, zo_pop, zo_goto, zo_if, zo_icmp, zo_ifnull, zo_gets, zo_mm, zo_throw, zo_ret, zo_aret, zo_lret, q_iret_f, q_iret_1, q_iret_0, q_iret_b, q_c8_0, q_c8_1, q_c8_2, q_c8_3, q_c8_4, q_set_0, q_set_1i, q_set_1r, q_set_1n, q_set_1N, q_set_s, q_set_1j, q_bk_v, q_bk_n, q_if, zb_ite, cond_true, cond_false, List.getElem?_cons_zero, List.getElem?_cons_succ, Nat.reduceAdd, q_bx_v, q_bx_n, q_bx_x, h1, v1, w1, a1, w23, d0, i2, if_true, if_false, zb_eq0, zb_eq1, zn_1, not_true_eq_false, not_false_eq_true, ite_true, ite_false, if_true, if_false, q_iret_0, q_iret_1, decide_true, decide_false, decide_not, zb_t, zb_f, z10, z01, cond_true, cond_false, Bool.and_true, Bool.true_and, Bool.and_false, Bool.false_and, Bool.not_true, Bool.not_false, true_and, and_true, false_and, and_false, true_or, or_true, false_or, or_false, Bool.true_eq_false, Bool.false_eq_true, eq_self, reduceCtorEq, Bool.or_true, Bool.true_or, Bool.or_false, Bool.false_or])
    · (simp only [e_X12_applyBudget, zo_iload, zo_lload, zo_aload, zo_istore, zo_lstore, zo_astore, zo_iinc, zo_pushI, zo_pushL, zo_null, zo_ii, zo_iid, zo_ll, zo_li, zo_lcmp, zo_i2l, zo_l2i, zo_dup, zo_dup2, zo_pop, zo_goto, zo_if, zo_icmp, zo_ifnull, zo_gets, zo_mm, zo_throw, zo_ret, zo_aret, zo_lret, q_iret_f, q_iret_1, q_iret_0, q_iret_b, q_c8_0, q_c8_1, q_c8_2, q_c8_3, q_c8_4, q_set_0, q_set_1i, q_set_1r, q_set_1n, q_set_1N, q_set_s, q_set_1j, q_bk_v, q_bk_n, q_if, zb_ite, cond_true, cond_false, List.getElem?_cons_zero, List.getElem?_cons_succ, Nat.reduceAdd, q_set_1l, q_set2_0, q_set2_1i, q_set2_1r, q_set2_1n, q_set2_s, h2, hg0, a2, b1, x1, q_aR, d0, gn, r_goes2, if_true, if_false, zb_eq0, zb_eq1, zn_1, not_true_eq_false, not_false_eq_true, ite_true, ite_false, if_true, if_false, q_iret_0, q_iret_1, decide_true, decide_false, decide_not, zb_t, zb_f, z10, z01, cond_true, cond_false, Bool.and_true, Bool.true_and, Bool.and_false, Bool.false_and, Bool.not_true, Bool.not_false, true_and, and_true, false_and, and_false, true_or, or_true, false_or, or_false, Bool.true_eq_false, Bool.false_eq_true, eq_self, reduceCtorEq, Bool.or_true, Bool.true_or, Bool.or_false, Bool.false_or])
  have gp : (zn q < 0) = False := zn_lt0 hq
  have zt10 : ((10 : Int32) = 0) = False := eq_false (by decide)
  have ed := div10 hq
  have em := mod10 hq
  rw [ed] at em
  have i2 : fX11_isInRange [.int 2, .int (zn (q / 10))] M = some (.inl (some (.int (zb (inR 2 (zn (q / 10)))))), M) := sp_inR 2 (zn (q / 10)) M
  have i3 : fX11_isInRange [.int 3, .int (zn (q % 10))] M = some (.inl (some (.int (zb (inR 3 (zn (q % 10)))))), M) := sp_inR 3 (zn (q % 10)) M
  have j2 : fX12_isValue [.ref 0, .int 2, .int (zn (q / 10))] R0 = some (.inl (some (.int (zb (inR 2 (zn (q / 10)))))), R0) := r_isValue H0.1.1.1 (f := 2) (by decide) (zn (q / 10))
  have j3 : fX12_isValue [.ref 0, .int 3, .int (zn (q % 10))] R0 = some (.inl (some (.int (zb (inR 3 (zn (q % 10)))))), R0) := r_isValue H0.1.1.1 (f := 3) (by decide) (zn (q % 10))
  cases d2 : inR 2 (zn (q / 10))
  · rw [d2] at i2 j2
    refine bad ?_ ?_
    · (simp only [e_X11_applyBudget, zo_iload, zo_lload, zo_aload, zo_istore, zo_lstore, zo_astore, zo_iinc, zo_pushI, zo_pushL, zo_null, zo_ii, zo_iid, zo_ll, zo_li, zo_lcmp, zo_i2l, zo_l2i, zo_dup, zo_dup2, zo_pop, zo_goto, zo_if, zo_icmp, zo_ifnull, zo_gets, zo_mm, zo_throw, zo_ret, zo_aret, zo_lret, q_iret_f, q_iret_1, q_iret_0, q_iret_b, q_c8_0, q_c8_1, q_c8_2, q_c8_3, q_c8_4, q_set_0, q_set_1i, q_set_1r, q_set_1n, q_set_1N, q_set_s, q_set_1j, q_bk_v, q_bk_n, q_if, zb_ite, cond_true, cond_false, List.getElem?_cons_zero, List.getElem?_cons_succ, Nat.reduceAdd, q_bx_v, q_bx_n, q_bx_x, h1, v1, w1, a1, w23, d0, i2, if_true, if_false, zb_eq0, zb_eq1, zn_1, not_true_eq_false, not_false_eq_true, ite_true, ite_false, if_true, if_false, q_iret_0, q_iret_1, decide_true, decide_false, decide_not, zb_t, zb_f, z10, z01, cond_true, cond_false, Bool.and_true, Bool.true_and, Bool.and_false, Bool.false_and, Bool.not_true, Bool.not_false, true_and, and_true, false_and, and_false, true_or, or_true, false_or, or_false, Bool.true_eq_false, Bool.false_eq_true, eq_self, reduceCtorEq, Bool.or_true, Bool.true_or, Bool.or_false, Bool.false_or])
    · (simp only [e_X12_applyBudget, zo_iload, zo_lload, zo_aload, zo_istore, zo_lstore, zo_astore, zo_iinc, zo_pushI, zo_pushL, zo_null, zo_ii, zo_iid, zo_ll, zo_li, zo_lcmp, zo_i2l, zo_l2i, zo_dup, zo_dup2, zo_pop, zo_goto, zo_if, zo_icmp, zo_ifnull, zo_gets, zo_mm, zo_throw, zo_ret, zo_aret, zo_lret, q_iret_f, q_iret_1, q_iret_0, q_iret_b, q_c8_0, q_c8_1, q_c8_2, q_c8_3, q_c8_4, q_set_0, q_set_1i, q_set_1r, q_set_1n, q_set_1N, q_set_s, q_set_1j, q_bk_v, q_bk_n, q_if, zb_ite, cond_true, cond_false, List.getElem?_cons_zero, List.getElem?_cons_succ, Nat.reduceAdd, q_set_1l, q_set2_0, q_set2_1i, q_set2_1r, q_set2_1n, q_set2_s, h2, hg0, a2, b1, x1, q_aR, d0, gp, zt10, ed, j2, r_goes2, if_true, if_false, zb_eq0, zb_eq1, zn_1, not_true_eq_false, not_false_eq_true, ite_true, ite_false, if_true, if_false, q_iret_0, q_iret_1, decide_true, decide_false, decide_not, zb_t, zb_f, z10, z01, cond_true, cond_false, Bool.and_true, Bool.true_and, Bool.and_false, Bool.false_and, Bool.not_true, Bool.not_false, true_and, and_true, false_and, and_false, true_or, or_true, false_or, or_false, Bool.true_eq_false, Bool.false_eq_true, eq_self, reduceCtorEq, Bool.or_true, Bool.true_or, Bool.or_false, Bool.false_or])
  cases d3 : inR 3 (zn (q % 10))
  · rw [d2] at i2 j2
    rw [d3] at i3 j3
    refine bad ?_ ?_
    · (simp only [e_X11_applyBudget, zo_iload, zo_lload, zo_aload, zo_istore, zo_lstore, zo_astore, zo_iinc, zo_pushI, zo_pushL, zo_null, zo_ii, zo_iid, zo_ll, zo_li, zo_lcmp, zo_i2l, zo_l2i, zo_dup, zo_dup2, zo_pop, zo_goto, zo_if, zo_icmp, zo_ifnull, zo_gets, zo_mm, zo_throw, zo_ret, zo_aret, zo_lret, q_iret_f, q_iret_1, q_iret_0, q_iret_b, q_c8_0, q_c8_1, q_c8_2, q_c8_3, q_c8_4, q_set_0, q_set_1i, q_set_1r, q_set_1n, q_set_1N, q_set_s, q_set_1j, q_bk_v, q_bk_n, q_if, zb_ite, cond_true, cond_false, List.getElem?_cons_zero, List.getElem?_cons_succ, Nat.reduceAdd, q_bx_v, q_bx_n, q_bx_x, h1, v1, w1, a1, w23, d0, i2, i3, if_true, if_false, zb_eq0, zb_eq1, zn_1, not_true_eq_false, not_false_eq_true, ite_true, ite_false, if_true, if_false, q_iret_0, q_iret_1, decide_true, decide_false, decide_not, zb_t, zb_f, z10, z01, cond_true, cond_false, Bool.and_true, Bool.true_and, Bool.and_false, Bool.false_and, Bool.not_true, Bool.not_false, true_and, and_true, false_and, and_false, true_or, or_true, false_or, or_false, Bool.true_eq_false, Bool.false_eq_true, eq_self, reduceCtorEq, Bool.or_true, Bool.true_or, Bool.or_false, Bool.false_or])
    · (simp only [e_X12_applyBudget, zo_iload, zo_lload, zo_aload, zo_istore, zo_lstore, zo_astore, zo_iinc, zo_pushI, zo_pushL, zo_null, zo_ii, zo_iid, zo_ll, zo_li, zo_lcmp, zo_i2l, zo_l2i, zo_dup, zo_dup2, zo_pop, zo_goto, zo_if, zo_icmp, zo_ifnull, zo_gets, zo_mm, zo_throw, zo_ret, zo_aret, zo_lret, q_iret_f, q_iret_1, q_iret_0, q_iret_b, q_c8_0, q_c8_1, q_c8_2, q_c8_3, q_c8_4, q_set_0, q_set_1i, q_set_1r, q_set_1n, q_set_1N, q_set_s, q_set_1j, q_bk_v, q_bk_n, q_if, zb_ite, cond_true, cond_false, List.getElem?_cons_zero, List.getElem?_cons_succ, Nat.reduceAdd, q_set_1l, q_set2_0, q_set2_1i, q_set2_1r, q_set2_1n, q_set2_s, h2, hg0, a2, b1, x1, q_aR, d0, gp, zt10, ed, j2, em, j3, r_goes2, if_true, if_false, zb_eq0, zb_eq1, zn_1, not_true_eq_false, not_false_eq_true, ite_true, ite_false, if_true, if_false, q_iret_0, q_iret_1, decide_true, decide_false, decide_not, zb_t, zb_f, z10, z01, cond_true, cond_false, Bool.and_true, Bool.true_and, Bool.and_false, Bool.false_and, Bool.not_true, Bool.not_false, true_and, and_true, false_and, and_false, true_or, or_true, false_or, or_false, Bool.true_eq_false, Bool.false_eq_true, eq_self, reduceCtorEq, Bool.or_true, Bool.true_or, Bool.or_false, Bool.false_or])
  clear bad
  rw [d2] at i2 j2
  rw [d3] at i3 j3
  obtain ⟨a, ea, -, la⟩ := inR_in (f := 2) (by decide) d2
  obtain ⟨b, eb, -, lb⟩ := inR_in (f := 3) (by decide) d3
  rw [ea] at i2 j2 ed v1 em
  rw [eb] at i3 j3 em w1
  clear d2 d3 ea eb
  have H1 : Rel (nz M) (zz_sI R0 0 49 0) := Rel_49 H0
  have hg1 := r_goes0 R0
  have s69 : zz_ev tX11_applyBudget 0 [some (.ref 0), some (.int m), some (.int (zn o)), some (.int (zn q)), some (.int p), none, none, none] [] M = zz_ev tX11_applyBudget 69 [some (.ref 0), some (.int m), some (.int (zn o)), some (.int (zn q)), some (.int p), some (.int (zn a)), some (.int (zn b)), none] [] M := by
    generalize hZ : zz_ev tX11_applyBudget 69 [some (.ref 0), some (.int m), some (.int (zn o)), some (.int (zn q)), some (.int p), some (.int (zn a)), some (.int (zn b)), none] [] M = Z
    (simp only [e_X11_applyBudget, zo_iload, zo_lload, zo_aload, zo_istore, zo_lstore, zo_astore, zo_iinc, zo_pushI, zo_pushL, zo_null, zo_ii, zo_iid, zo_ll, zo_li, zo_lcmp, zo_i2l, zo_l2i, zo_dup, zo_dup2, zo_pop, zo_goto, zo_if, zo_icmp, zo_ifnull, zo_gets, zo_mm, zo_throw, zo_ret, zo_aret, zo_lret, q_iret_f, q_iret_1, q_iret_0, q_iret_b, q_c8_0, q_c8_1, q_c8_2, q_c8_3, q_c8_4, q_set_0, q_set_1i, q_set_1r, q_set_1n, q_set_1N, q_set_s, q_set_1j, q_bk_v, q_bk_n, q_if, zb_ite, cond_true, cond_false, List.getElem?_cons_zero, List.getElem?_cons_succ, Nat.reduceAdd, q_bx_v, q_bx_n, q_bx_x, ↓hZ, h1, v1, w1, a1, w23, d0, i2, i3, if_true, if_false, zb_eq0, zb_eq1, zn_1, not_true_eq_false, not_false_eq_true, ite_true, ite_false, if_true, if_false, q_iret_0, q_iret_1, decide_true, decide_false, decide_not, zb_t, zb_f, z10, z01, cond_true, cond_false, Bool.and_true, Bool.true_and, Bool.and_false, Bool.false_and, Bool.not_true, Bool.not_false, true_and, and_true, false_and, and_false, true_or, or_true, false_or, or_false, Bool.true_eq_false, Bool.false_eq_true, eq_self, reduceCtorEq, Bool.or_true, Bool.true_or, Bool.or_false, Bool.false_or])
  have s92 : zz_ev tX12_applyBudget 0 [some (.ref 0), some (.int m), some (.int (zn o)), some (.int (zn q)), some (.int p), none, none, none, none, none, none] [] R = zz_ev tX12_applyBudget 92 [some (.ref 0), some (.int m), some (.int (zn o)), some (.int (zn q)), some (.int p), some (.int 1), none, none, none, none, none] [] (zz_sI R0 0 49 0) := by
    generalize hZ : zz_ev tX12_applyBudget 92 [some (.ref 0), some (.int m), some (.int (zn o)), some (.int (zn q)), some (.int p), some (.int 1), none, none, none, none, none] [] (zz_sI R0 0 49 0) = Z
    (simp only [e_X12_applyBudget, zo_iload, zo_lload, zo_aload, zo_istore, zo_lstore, zo_astore, zo_iinc, zo_pushI, zo_pushL, zo_null, zo_ii, zo_iid, zo_ll, zo_li, zo_lcmp, zo_i2l, zo_l2i, zo_dup, zo_dup2, zo_pop, zo_goto, zo_if, zo_icmp, zo_ifnull, zo_gets, zo_mm, zo_throw, zo_ret, zo_aret, zo_lret, q_iret_f, q_iret_1, q_iret_0, q_iret_b, q_c8_0, q_c8_1, q_c8_2, q_c8_3, q_c8_4, q_set_0, q_set_1i, q_set_1r, q_set_1n, q_set_1N, q_set_s, q_set_1j, q_bk_v, q_bk_n, q_if, zb_ite, cond_true, cond_false, List.getElem?_cons_zero, List.getElem?_cons_succ, Nat.reduceAdd, q_set_1l, q_set2_0, q_set2_1i, q_set2_1r, q_set2_1n, q_set2_s, ↓hZ, h2, hg0, a2, b1, x1, q_aR, d0, gp, zt10, ed, j2, em, j3, hg1, if_true, if_false, zb_eq0, zb_eq1, zn_1, not_true_eq_false, not_false_eq_true, ite_true, ite_false, if_true, if_false, q_iret_0, q_iret_1, decide_true, decide_false, decide_not, zb_t, zb_f, z10, z01, cond_true, cond_false, Bool.and_true, Bool.true_and, Bool.and_false, Bool.false_and, Bool.not_true, Bool.not_false, true_and, and_true, false_and, and_false, true_or, or_true, false_or, or_false, Bool.true_eq_false, Bool.false_eq_true, eq_self, reduceCtorEq, Bool.or_true, Bool.true_or, Bool.or_false, Bool.false_or])
  rw [s69, s92]
  have k0 : (zz_sI R0 0 49 0).1 6 o = 0 := d0
  clear s69 s92 h1 h2 v1 w1 a1 a2 w23 d0 i2 i3 j2 j3 hg0 hg1 gp H0 H
  generalize zz_sI R0 0 49 0 = R1 at *
  have wg := (h_rd H1 ho).2.2.2.2.2.2.2
  have w13 : fX10_read [.ref 1, .int (zn o), .int 13] M = some (.inl (some (.int (R1.1 10 (11 * o + 2)))), M) := h_man H1 ho (j := 2) (by decide)
  have w14 : fX10_read [.ref 1, .int (zn o), .int 14] M = some (.inl (some (.int (R1.1 10 (11 * o + 3)))), M) := h_man H1 ho (j := 3) (by decide)
  have h60 := lt_n60 H1.1 (o := o) ho
  have e11 : (11 : Int32) * zn o = zn (11 * o) := zn_mul 11 o
  have p2 := bx (n := 11 * o + 2) (m := 660) (by omega) (by decide)
  have p3 := bx (n := 11 * o + 3) (m := 660) (by omega) (by decide)
  obtain ⟨x', rf, had, HS, hrt, hrf⟩ := Rel_ap2 H1 (o := o) ho k0 la lb m
  obtain ⟨W, -, -, -, -⟩ := h_nv H1
  obtain ⟨M2, c1, c2⟩ := sp_applyBoth W (o := o) (by omega) m (zn a) (zn b)
  have hw2 := r_with H1.1.1.1 (k := 2) (by decide) (R1.2 7 o) (zn a)
  have hw3 := r_with H1.1.1.1 (k := 3) (by decide) (wt (R1.2 7 o) 2 (zn a)) (zn b)
  have hw2' : fX12_with [.ref 0, .long (R1.2 7 o), .int 2, .int (zn a)] R1 = _ := hw2
  have hw3' : fX12_with [.ref 0, .long (wt (R1.2 7 o) 2 (zn a)), .int 3, .int (zn b)] R1 = _ := hw3
  clear hw2 hw3
  have gg := (h_get HS.1 (o := o) ho).2.2.2.2.2.2.2
  have n31 : (zz_sI R1 0 31 (zb rf)).1 0 31 = zb rf := sI_e
  have n8 : (zz_sI R1 0 31 (zb rf)).2 8 o = R1.2 8 o := rfl
  -- whether all is managed
  obtain ⟨mg, hmg⟩ : ∃ mg, mg = (decide (R1.1 10 (11 * o + 2) = m) && decide (R1.1 10 (11 * o + 3) = m)) := ⟨_, rfl⟩
  rw [← hmg] at hrf
  have s104 : zz_ev tX11_applyBudget 69 [some (.ref 0), some (.int m), some (.int (zn o)), some (.int (zn q)), some (.int p), some (.int (zn a)), some (.int (zn b)), none] [] M = zz_ev tX11_applyBudget 102 [some (.ref 0), some (.int m), some (.int (zn o)), some (.int (zn q)), some (.int p), some (.int (zn a)), some (.int (zn b)), none] [.int (zb mg)] M := by
    generalize hZ : zz_ev tX11_applyBudget 102 [some (.ref 0), some (.int m), some (.int (zn o)), some (.int (zn q)), some (.int p), some (.int (zn a)), some (.int (zn b)), none] [.int (zb mg)] M = Z
    by_cases q1 : R1.1 10 (11 * o + 2) = m
    · by_cases q2 : R1.1 10 (11 * o + 3) = m
      · rw [hmg, decide_eq_true q1, decide_eq_true q2, show zb (true && true) = 1 from rfl] at hZ
        (simp only [e_X11_applyBudget, zo_iload, zo_lload, zo_aload, zo_istore, zo_lstore, zo_astore, zo_iinc, zo_pushI, zo_pushL, zo_null, zo_ii, zo_iid, zo_ll, zo_li, zo_lcmp, zo_i2l, zo_l2i, zo_dup, zo_dup2, zo_pop, zo_goto, zo_if, zo_icmp, zo_ifnull, zo_gets, zo_mm, zo_throw, zo_ret, zo_aret, zo_lret, q_iret_f, q_iret_1, q_iret_0, q_iret_b, q_c8_0, q_c8_1, q_c8_2, q_c8_3, q_c8_4, q_set_0, q_set_1i, q_set_1r, q_set_1n, q_set_1N, q_set_s, q_set_1j, q_bk_v, q_bk_n, q_if, zb_ite, cond_true, cond_false, List.getElem?_cons_zero, List.getElem?_cons_succ, Nat.reduceAdd, q_bx_v, q_bx_n, q_bx_x, ↓hZ, w13, q1, w14, q2, if_true, if_false, zb_eq0, zb_eq1, zn_1, not_true_eq_false, not_false_eq_true, ite_true, ite_false, if_true, if_false, q_iret_0, q_iret_1, decide_true, decide_false, decide_not, zb_t, zb_f, z10, z01, cond_true, cond_false, Bool.and_true, Bool.true_and, Bool.and_false, Bool.false_and, Bool.not_true, Bool.not_false, true_and, and_true, false_and, and_false, true_or, or_true, false_or, or_false, Bool.true_eq_false, Bool.false_eq_true, eq_self, reduceCtorEq, Bool.or_true, Bool.true_or, Bool.or_false, Bool.false_or])
      · rw [hmg, decide_eq_true q1, decide_eq_false q2, show zb (true && false) = 0 from rfl] at hZ
        (simp only [e_X11_applyBudget, zo_iload, zo_lload, zo_aload, zo_istore, zo_lstore, zo_astore, zo_iinc, zo_pushI, zo_pushL, zo_null, zo_ii, zo_iid, zo_ll, zo_li, zo_lcmp, zo_i2l, zo_l2i, zo_dup, zo_dup2, zo_pop, zo_goto, zo_if, zo_icmp, zo_ifnull, zo_gets, zo_mm, zo_throw, zo_ret, zo_aret, zo_lret, q_iret_f, q_iret_1, q_iret_0, q_iret_b, q_c8_0, q_c8_1, q_c8_2, q_c8_3, q_c8_4, q_set_0, q_set_1i, q_set_1r, q_set_1n, q_set_1N, q_set_s, q_set_1j, q_bk_v, q_bk_n, q_if, zb_ite, cond_true, cond_false, List.getElem?_cons_zero, List.getElem?_cons_succ, Nat.reduceAdd, q_bx_v, q_bx_n, q_bx_x, ↓hZ, w13, q1, w14, q2, if_true, if_false, zb_eq0, zb_eq1, zn_1, not_true_eq_false, not_false_eq_true, ite_true, ite_false, if_true, if_false, q_iret_0, q_iret_1, decide_true, decide_false, decide_not, zb_t, zb_f, z10, z01, cond_true, cond_false, Bool.and_true, Bool.true_and, Bool.and_false, Bool.false_and, Bool.not_true, Bool.not_false, true_and, and_true, false_and, and_false, true_or, or_true, false_or, or_false, Bool.true_eq_false, Bool.false_eq_true, eq_self, reduceCtorEq, Bool.or_true, Bool.true_or, Bool.or_false, Bool.false_or])
    · rw [hmg, decide_eq_false q1, Bool.false_and, zb_f] at hZ
      (simp only [e_X11_applyBudget, zo_iload, zo_lload, zo_aload, zo_istore, zo_lstore, zo_astore, zo_iinc, zo_pushI, zo_pushL, zo_null, zo_ii, zo_iid, zo_ll, zo_li, zo_lcmp, zo_i2l, zo_l2i, zo_dup, zo_dup2, zo_pop, zo_goto, zo_if, zo_icmp, zo_ifnull, zo_gets, zo_mm, zo_throw, zo_ret, zo_aret, zo_lret, q_iret_f, q_iret_1, q_iret_0, q_iret_b, q_c8_0, q_c8_1, q_c8_2, q_c8_3, q_c8_4, q_set_0, q_set_1i, q_set_1r, q_set_1n, q_set_1N, q_set_s, q_set_1j, q_bk_v, q_bk_n, q_if, zb_ite, cond_true, cond_false, List.getElem?_cons_zero, List.getElem?_cons_succ, Nat.reduceAdd, q_bx_v, q_bx_n, q_bx_x, ↓hZ, w13, q1, if_true, if_false, zb_eq0, zb_eq1, zn_1, not_true_eq_false, not_false_eq_true, ite_true, ite_false, if_true, if_false, q_iret_0, q_iret_1, decide_true, decide_false, decide_not, zb_t, zb_f, z10, z01, cond_true, cond_false, Bool.and_true, Bool.true_and, Bool.and_false, Bool.false_and, Bool.not_true, Bool.not_false, true_and, and_true, false_and, and_false, true_or, or_true, false_or, or_false, Bool.true_eq_false, Bool.false_eq_true, eq_self, reduceCtorEq, Bool.or_true, Bool.true_or, Bool.or_false, Bool.false_or])
  have s131 : zz_ev tX12_applyBudget 92 [some (.ref 0), some (.int m), some (.int (zn o)), some (.int (zn q)), some (.int p), some (.int 1), none, none, none, none, none] [] R1 = zz_ev tX12_applyBudget 129 [some (.ref 0), some (.int m), some (.int (zn o)), some (.int (zn q)), some (.int p), some (.int 1), some (.int (zn (11 * o))), none, none, none, none] [.int (zb (!mg))] R1 := by
    generalize hZ : zz_ev tX12_applyBudget 129 [some (.ref 0), some (.int m), some (.int (zn o)), some (.int (zn q)), some (.int p), some (.int 1), some (.int (zn (11 * o))), none, none, none, none] [.int (zb (!mg))] R1 = Z
    by_cases q1 : R1.1 10 (11 * o + 2) = m
    · by_cases q2 : R1.1 10 (11 * o + 3) = m
      · rw [hmg, decide_eq_true q1, decide_eq_true q2, show zb (!(true && true)) = 0 from rfl] at hZ
        (simp only [e_X12_applyBudget, zo_iload, zo_lload, zo_aload, zo_istore, zo_lstore, zo_astore, zo_iinc, zo_pushI, zo_pushL, zo_null, zo_ii, zo_iid, zo_ll, zo_li, zo_lcmp, zo_i2l, zo_l2i, zo_dup, zo_dup2, zo_pop, zo_goto, zo_if, zo_icmp, zo_ifnull, zo_gets, zo_mm, zo_throw, zo_ret, zo_aret, zo_lret, q_iret_f, q_iret_1, q_iret_0, q_iret_b, q_c8_0, q_c8_1, q_c8_2, q_c8_3, q_c8_4, q_set_0, q_set_1i, q_set_1r, q_set_1n, q_set_1N, q_set_s, q_set_1j, q_bk_v, q_bk_n, q_if, zb_ite, cond_true, cond_false, List.getElem?_cons_zero, List.getElem?_cons_succ, Nat.reduceAdd, q_set_1l, q_set2_0, q_set2_1i, q_set2_1r, q_set2_1n, q_set2_s, ↓hZ, e11, zn_p2, zn_p3, p2, p3, q_aR, q1, q2, if_true, if_false, zb_eq0, zb_eq1, zn_1, not_true_eq_false, not_false_eq_true, ite_true, ite_false, if_true, if_false, q_iret_0, q_iret_1, decide_true, decide_false, decide_not, zb_t, zb_f, z10, z01, cond_true, cond_false, Bool.and_true, Bool.true_and, Bool.and_false, Bool.false_and, Bool.not_true, Bool.not_false, true_and, and_true, false_and, and_false, true_or, or_true, false_or, or_false, Bool.true_eq_false, Bool.false_eq_true, eq_self, reduceCtorEq, Bool.or_true, Bool.true_or, Bool.or_false, Bool.false_or])
      · rw [hmg, decide_eq_true q1, decide_eq_false q2, show zb (!(true && false)) = 1 from rfl] at hZ
        (simp only [e_X12_applyBudget, zo_iload, zo_lload, zo_aload, zo_istore, zo_lstore, zo_astore, zo_iinc, zo_pushI, zo_pushL, zo_null, zo_ii, zo_iid, zo_ll, zo_li, zo_lcmp, zo_i2l, zo_l2i, zo_dup, zo_dup2, zo_pop, zo_goto, zo_if, zo_icmp, zo_ifnull, zo_gets, zo_mm, zo_throw, zo_ret, zo_aret, zo_lret, q_iret_f, q_iret_1, q_iret_0, q_iret_b, q_c8_0, q_c8_1, q_c8_2, q_c8_3, q_c8_4, q_set_0, q_set_1i, q_set_1r, q_set_1n, q_set_1N, q_set_s, q_set_1j, q_bk_v, q_bk_n, q_if, zb_ite, cond_true, cond_false, List.getElem?_cons_zero, List.getElem?_cons_succ, Nat.reduceAdd, q_set_1l, q_set2_0, q_set2_1i, q_set2_1r, q_set2_1n, q_set2_s, ↓hZ, e11, zn_p2, zn_p3, p2, p3, q_aR, q1, q2, if_true, if_false, zb_eq0, zb_eq1, zn_1, not_true_eq_false, not_false_eq_true, ite_true, ite_false, if_true, if_false, q_iret_0, q_iret_1, decide_true, decide_false, decide_not, zb_t, zb_f, z10, z01, cond_true, cond_false, Bool.and_true, Bool.true_and, Bool.and_false, Bool.false_and, Bool.not_true, Bool.not_false, true_and, and_true, false_and, and_false, true_or, or_true, false_or, or_false, Bool.true_eq_false, Bool.false_eq_true, eq_self, reduceCtorEq, Bool.or_true, Bool.true_or, Bool.or_false, Bool.false_or])
    · rw [hmg, decide_eq_false q1, Bool.false_and, show zb (!false) = 1 from rfl] at hZ
      (simp only [e_X12_applyBudget, zo_iload, zo_lload, zo_aload, zo_istore, zo_lstore, zo_astore, zo_iinc, zo_pushI, zo_pushL, zo_null, zo_ii, zo_iid, zo_ll, zo_li, zo_lcmp, zo_i2l, zo_l2i, zo_dup, zo_dup2, zo_pop, zo_goto, zo_if, zo_icmp, zo_ifnull, zo_gets, zo_mm, zo_throw, zo_ret, zo_aret, zo_lret, q_iret_f, q_iret_1, q_iret_0, q_iret_b, q_c8_0, q_c8_1, q_c8_2, q_c8_3, q_c8_4, q_set_0, q_set_1i, q_set_1r, q_set_1n, q_set_1N, q_set_s, q_set_1j, q_bk_v, q_bk_n, q_if, zb_ite, cond_true, cond_false, List.getElem?_cons_zero, List.getElem?_cons_succ, Nat.reduceAdd, q_set_1l, q_set2_0, q_set2_1i, q_set2_1r, q_set2_1n, q_set2_s, ↓hZ, e11, zn_p2, zn_p3, p2, p3, q_aR, q1, if_true, if_false, zb_eq0, zb_eq1, zn_1, not_true_eq_false, not_false_eq_true, ite_true, ite_false, if_true, if_false, q_iret_0, q_iret_1, decide_true, decide_false, decide_not, zb_t, zb_f, z10, z01, cond_true, cond_false, Bool.and_true, Bool.true_and, Bool.and_false, Bool.false_and, Bool.not_true, Bool.not_false, true_and, and_true, false_and, and_false, true_or, or_true, false_or, or_false, Bool.true_eq_false, Bool.false_eq_true, eq_self, reduceCtorEq, Bool.or_true, Bool.true_or, Bool.or_false, Bool.false_or])
  have s162 : zz_ev tX12_applyBudget 129 [some (.ref 0), some (.int m), some (.int (zn o)), some (.int (zn q)), some (.int p), some (.int 1), some (.int (zn (11 * o))), none, none, none, none] [.int (zb (!mg))] R1 = zz_ev tX12_applyBudget 160 [some (.ref 0), some (.int m), some (.int (zn o)), some (.int (zn q)), some (.int p), some (.int 1), some (.int (zn (11 * o))), some (.int (zb (!mg))), none, none, none] [.long x'] (zz_sI R1 0 31 (zb rf)) := by
    generalize hZ : zz_ev tX12_applyBudget 160 [some (.ref 0), some (.int m), some (.int (zn o)), some (.int (zn q)), some (.int p), some (.int 1), some (.int (zn (11 * o))), some (.int (zb (!mg))), none, none, none] [.long x'] (zz_sI R1 0 31 (zb rf)) = Z
    generalize zz_sI R1 0 31 (zb rf) = S at *
    (simp only [e_X12_applyBudget, zo_iload, zo_lload, zo_aload, zo_istore, zo_lstore, zo_astore, zo_iinc, zo_pushI, zo_pushL, zo_null, zo_ii, zo_iid, zo_ll, zo_li, zo_lcmp, zo_i2l, zo_l2i, zo_dup, zo_dup2, zo_pop, zo_goto, zo_if, zo_icmp, zo_ifnull, zo_gets, zo_mm, zo_throw, zo_ret, zo_aret, zo_lret, q_iret_f, q_iret_1, q_iret_0, q_iret_b, q_c8_0, q_c8_1, q_c8_2, q_c8_3, q_c8_4, q_set_0, q_set_1i, q_set_1r, q_set_1n, q_set_1N, q_set_s, q_set_1j, q_bk_v, q_bk_n, q_if, zb_ite, cond_true, cond_false, List.getElem?_cons_zero, List.getElem?_cons_succ, Nat.reduceAdd, q_set_1l, q_set2_0, q_set2_1i, q_set2_1r, q_set2_1n, q_set2_s, ↓hZ, b1, x1, q_aR, zt10, ed, hw2', em, hw3', had, if_true, if_false, zb_eq0, zb_eq1, zn_1, not_true_eq_false, not_false_eq_true, ite_true, ite_false, if_true, if_false, q_iret_0, q_iret_1, decide_true, decide_false, decide_not, zb_t, zb_f, z10, z01, cond_true, cond_false, Bool.and_true, Bool.true_and, Bool.and_false, Bool.false_and, Bool.not_true, Bool.not_false, true_and, and_true, false_and, and_false, true_or, or_true, false_or, or_false, Bool.true_eq_false, Bool.false_eq_true, eq_self, reduceCtorEq, Bool.or_true, Bool.true_or, Bool.or_false, Bool.false_or])
  rw [s104, s131, s162]
  clear s104 s131 s162 w13 w14 hmg had hw2' hw3' zt10 ed em e11
  have no : zz_ev tX11_applyBudget 102 [some (.ref 0), some (.int m), some (.int (zn o)), some (.int (zn q)), some (.int p), some (.int (zn a)), some (.int (zn b)), none] [.int (zb mg)] M = some (.inr 1, M) →
      zz_ev tX12_applyBudget 160 [some (.ref 0), some (.int m), some (.int (zn o)), some (.int (zn q)), some (.int p), some (.int 1), some (.int (zn (11 * o))), some (.int (zb (!mg))), none, none, none] [.long x'] (zz_sI R1 0 31 (zb rf)) = some (.inl (some (.int 0)), zz_sI (zz_sI R1 0 31 (zb rf)) 0 49 3) →
      zAg (cdl [2, 3, 1]) (zz_ev tX11_applyBudget 102 [some (.ref 0), some (.int m), some (.int (zn o)), some (.int (zn q)), some (.int p), some (.int (zn a)), some (.int (zn b)), none] [.int (zb mg)] M) (zz_ev tX12_applyBudget 160 [some (.ref 0), some (.int m), some (.int (zn o)), some (.int (zn q)), some (.int p), some (.int 1), some (.int (zn (11 * o))), some (.int (zb (!mg))), none, none, none] [.long x'] (zz_sI R1 0 31 (zb rf))) := fun u1 u2 => zAg_x u1 u2 (Rel_49 HS) sI_e (by decide)
  by_cases d : row (nz M) o 25 = 4
  · refine no ?_ ?_
    · (simp only [e_X11_applyBudget, zo_iload, zo_lload, zo_aload, zo_istore, zo_lstore, zo_astore, zo_iinc, zo_pushI, zo_pushL, zo_null, zo_ii, zo_iid, zo_ll, zo_li, zo_lcmp, zo_i2l, zo_l2i, zo_dup, zo_dup2, zo_pop, zo_goto, zo_if, zo_icmp, zo_ifnull, zo_gets, zo_mm, zo_throw, zo_ret, zo_aret, zo_lret, q_iret_f, q_iret_1, q_iret_0, q_iret_b, q_c8_0, q_c8_1, q_c8_2, q_c8_3, q_c8_4, q_set_0, q_set_1i, q_set_1r, q_set_1n, q_set_1N, q_set_s, q_set_1j, q_bk_v, q_bk_n, q_if, zb_ite, cond_true, cond_false, List.getElem?_cons_zero, List.getElem?_cons_succ, Nat.reduceAdd, q_bx_v, q_bx_n, q_bx_x, wg, d, if_true, if_false, zb_eq0, zb_eq1, zn_1, not_true_eq_false, not_false_eq_true, ite_true, ite_false, if_true, if_false, q_iret_0, q_iret_1, decide_true, decide_false, decide_not, zb_t, zb_f, z10, z01, cond_true, cond_false, Bool.and_true, Bool.true_and, Bool.and_false, Bool.false_and, Bool.not_true, Bool.not_false, true_and, and_true, false_and, and_false, true_or, or_true, false_or, or_false, Bool.true_eq_false, Bool.false_eq_true, eq_self, reduceCtorEq, Bool.or_true, Bool.true_or, Bool.or_false, Bool.false_or])
    · generalize zz_sI R1 0 31 (zb rf) = S at *
      (simp only [e_X12_applyBudget, zo_iload, zo_lload, zo_aload, zo_istore, zo_lstore, zo_astore, zo_iinc, zo_pushI, zo_pushL, zo_null, zo_ii, zo_iid, zo_ll, zo_li, zo_lcmp, zo_i2l, zo_l2i, zo_dup, zo_dup2, zo_pop, zo_goto, zo_if, zo_icmp, zo_ifnull, zo_gets, zo_mm, zo_throw, zo_ret, zo_aret, zo_lret, q_iret_f, q_iret_1, q_iret_0, q_iret_b, q_c8_0, q_c8_1, q_c8_2, q_c8_3, q_c8_4, q_set_0, q_set_1i, q_set_1r, q_set_1n, q_set_1N, q_set_s, q_set_1j, q_bk_v, q_bk_n, q_if, zb_ite, cond_true, cond_false, List.getElem?_cons_zero, List.getElem?_cons_succ, Nat.reduceAdd, q_set_1l, q_set2_0, q_set2_1i, q_set2_1r, q_set2_1n, q_set2_s, gg, d, r_goes3, if_true, if_false, zb_eq0, zb_eq1, zn_1, not_true_eq_false, not_false_eq_true, ite_true, ite_false, if_true, if_false, q_iret_0, q_iret_1, decide_true, decide_false, decide_not, zb_t, zb_f, z10, z01, cond_true, cond_false, Bool.and_true, Bool.true_and, Bool.and_false, Bool.false_and, Bool.not_true, Bool.not_false, true_and, and_true, false_and, and_false, true_or, or_true, false_or, or_false, Bool.true_eq_false, Bool.false_eq_true, eq_self, reduceCtorEq, Bool.or_true, Bool.true_or, Bool.or_false, Bool.false_or])
  by_cases dp : mg = false ∧ p = 0
  · obtain ⟨rfl, rfl⟩ := dp
    refine no ?_ ?_
    · (simp only [e_X11_applyBudget, zo_iload, zo_lload, zo_aload, zo_istore, zo_lstore, zo_astore, zo_iinc, zo_pushI, zo_pushL, zo_null, zo_ii, zo_iid, zo_ll, zo_li, zo_lcmp, zo_i2l, zo_l2i, zo_dup, zo_dup2, zo_pop, zo_goto, zo_if, zo_icmp, zo_ifnull, zo_gets, zo_mm, zo_throw, zo_ret, zo_aret, zo_lret, q_iret_f, q_iret_1, q_iret_0, q_iret_b, q_c8_0, q_c8_1, q_c8_2, q_c8_3, q_c8_4, q_set_0, q_set_1i, q_set_1r, q_set_1n, q_set_1N, q_set_s, q_set_1j, q_bk_v, q_bk_n, q_if, zb_ite, cond_true, cond_false, List.getElem?_cons_zero, List.getElem?_cons_succ, Nat.reduceAdd, q_bx_v, q_bx_n, q_bx_x, wg, d, if_true, if_false, zb_eq0, zb_eq1, zn_1, not_true_eq_false, not_false_eq_true, ite_true, ite_false, if_true, if_false, q_iret_0, q_iret_1, decide_true, decide_false, decide_not, zb_t, zb_f, z10, z01, cond_true, cond_false, Bool.and_true, Bool.true_and, Bool.and_false, Bool.false_and, Bool.not_true, Bool.not_false, true_and, and_true, false_and, and_false, true_or, or_true, false_or, or_false, Bool.true_eq_false, Bool.false_eq_true, eq_self, reduceCtorEq, Bool.or_true, Bool.true_or, Bool.or_false, Bool.false_or])
    · generalize zz_sI R1 0 31 (zb rf) = S at *
      (simp only [e_X12_applyBudget, zo_iload, zo_lload, zo_aload, zo_istore, zo_lstore, zo_astore, zo_iinc, zo_pushI, zo_pushL, zo_null, zo_ii, zo_iid, zo_ll, zo_li, zo_lcmp, zo_i2l, zo_l2i, zo_dup, zo_dup2, zo_pop, zo_goto, zo_if, zo_icmp, zo_ifnull, zo_gets, zo_mm, zo_throw, zo_ret, zo_aret, zo_lret, q_iret_f, q_iret_1, q_iret_0, q_iret_b, q_c8_0, q_c8_1, q_c8_2, q_c8_3, q_c8_4, q_set_0, q_set_1i, q_set_1r, q_set_1n, q_set_1N, q_set_s, q_set_1j, q_bk_v, q_bk_n, q_if, zb_ite, cond_true, cond_false, List.getElem?_cons_zero, List.getElem?_cons_succ, Nat.reduceAdd, q_set_1l, q_set2_0, q_set2_1i, q_set2_1r, q_set2_1n, q_set2_s, gg, d, r_goes3, if_true, if_false, zb_eq0, zb_eq1, zn_1, not_true_eq_false, not_false_eq_true, ite_true, ite_false, if_true, if_false, q_iret_0, q_iret_1, decide_true, decide_false, decide_not, zb_t, zb_f, z10, z01, cond_true, cond_false, Bool.and_true, Bool.true_and, Bool.and_false, Bool.false_and, Bool.not_true, Bool.not_false, true_and, and_true, false_and, and_false, true_or, or_true, false_or, or_false, Bool.true_eq_false, Bool.false_eq_true, eq_self, reduceCtorEq, Bool.or_true, Bool.true_or, Bool.or_false, Bool.false_or])
  have s135 : zz_ev tX11_applyBudget 102 [some (.ref 0), some (.int m), some (.int (zn o)), some (.int (zn q)), some (.int p), some (.int (zn a)), some (.int (zn b)), none] [.int (zb mg)] M = zz_ev tX11_applyBudget 135 [some (.ref 0), some (.int m), some (.int (zn o)), some (.int (zn q)), some (.int p), some (.int (zn a)), some (.int (zn b)), some (.int (zb mg))] [] M := by
    generalize hZ : zz_ev tX11_applyBudget 135 [some (.ref 0), some (.int m), some (.int (zn o)), some (.int (zn q)), some (.int p), some (.int (zn a)), some (.int (zn b)), some (.int (zb mg))] [] M = Z
    by_cases q1 : p = 0
    · cases mg
      · exact absurd ⟨rfl, q1⟩ dp
      · have t1 := eq_true q1
        simp only [zb_t] at hZ
        (simp only [e_X11_applyBudget, zo_iload, zo_lload, zo_aload, zo_istore, zo_lstore, zo_astore, zo_iinc, zo_pushI, zo_pushL, zo_null, zo_ii, zo_iid, zo_ll, zo_li, zo_lcmp, zo_i2l, zo_l2i, zo_dup, zo_dup2, zo_pop, zo_goto, zo_if, zo_icmp, zo_ifnull, zo_gets, zo_mm, zo_throw, zo_ret, zo_aret, zo_lret, q_iret_f, q_iret_1, q_iret_0, q_iret_b, q_c8_0, q_c8_1, q_c8_2, q_c8_3, q_c8_4, q_set_0, q_set_1i, q_set_1r, q_set_1n, q_set_1N, q_set_s, q_set_1j, q_bk_v, q_bk_n, q_if, zb_ite, cond_true, cond_false, List.getElem?_cons_zero, List.getElem?_cons_succ, Nat.reduceAdd, q_bx_v, q_bx_n, q_bx_x, ↓hZ, wg, d, t1, if_true, if_false, zb_eq0, zb_eq1, zn_1, not_true_eq_false, not_false_eq_true, ite_true, ite_false, if_true, if_false, q_iret_0, q_iret_1, decide_true, decide_false, decide_not, zb_t, zb_f, z10, z01, cond_true, cond_false, Bool.and_true, Bool.true_and, Bool.and_false, Bool.false_and, Bool.not_true, Bool.not_false, true_and, and_true, false_and, and_false, true_or, or_true, false_or, or_false, Bool.true_eq_false, Bool.false_eq_true, eq_self, reduceCtorEq, Bool.or_true, Bool.true_or, Bool.or_false, Bool.false_or])
    · (simp only [e_X11_applyBudget, zo_iload, zo_lload, zo_aload, zo_istore, zo_lstore, zo_astore, zo_iinc, zo_pushI, zo_pushL, zo_null, zo_ii, zo_iid, zo_ll, zo_li, zo_lcmp, zo_i2l, zo_l2i, zo_dup, zo_dup2, zo_pop, zo_goto, zo_if, zo_icmp, zo_ifnull, zo_gets, zo_mm, zo_throw, zo_ret, zo_aret, zo_lret, q_iret_f, q_iret_1, q_iret_0, q_iret_b, q_c8_0, q_c8_1, q_c8_2, q_c8_3, q_c8_4, q_set_0, q_set_1i, q_set_1r, q_set_1n, q_set_1N, q_set_s, q_set_1j, q_bk_v, q_bk_n, q_if, zb_ite, cond_true, cond_false, List.getElem?_cons_zero, List.getElem?_cons_succ, Nat.reduceAdd, q_bx_v, q_bx_n, q_bx_x, ↓hZ, wg, d, q1, if_true, if_false, zb_eq0, zb_eq1, zn_1, not_true_eq_false, not_false_eq_true, ite_true, ite_false, if_true, if_false, q_iret_0, q_iret_1, decide_true, decide_false, decide_not, zb_t, zb_f, z10, z01, cond_true, cond_false, Bool.and_true, Bool.true_and, Bool.and_false, Bool.false_and, Bool.not_true, Bool.not_false, true_and, and_true, false_and, and_false, true_or, or_true, false_or, or_false, Bool.true_eq_false, Bool.false_eq_true, eq_self, reduceCtorEq, Bool.or_true, Bool.true_or, Bool.or_false, Bool.false_or])
  have s180 : zz_ev tX12_applyBudget 160 [some (.ref 0), some (.int m), some (.int (zn o)), some (.int (zn q)), some (.int p), some (.int 1), some (.int (zn (11 * o))), some (.int (zb (!mg))), none, none, none] [.long x'] (zz_sI R1 0 31 (zb rf)) = zz_ev tX12_applyBudget 180 [some (.ref 0), some (.int m), some (.int (zn o)), some (.int (zn q)), some (.int p), some (.int 1), some (.int (zn (11 * o))), some (.int (zb (!mg))), some (.long x'), none, none] [] (zz_sI R1 0 31 (zb rf)) := by
    generalize hZ : zz_ev tX12_applyBudget 180 [some (.ref 0), some (.int m), some (.int (zn o)), some (.int (zn q)), some (.int p), some (.int 1), some (.int (zn (11 * o))), some (.int (zb (!mg))), some (.long x'), none, none] [] (zz_sI R1 0 31 (zb rf)) = Z
    generalize zz_sI R1 0 31 (zb rf) = S at *
    cases mg
    · have q1 : ¬ p = 0 := fun z => dp ⟨rfl, z⟩
      simp only [Bool.not_false, zb_t] at hZ
      (simp only [e_X12_applyBudget, zo_iload, zo_lload, zo_aload, zo_istore, zo_lstore, zo_astore, zo_iinc, zo_pushI, zo_pushL, zo_null, zo_ii, zo_iid, zo_ll, zo_li, zo_lcmp, zo_i2l, zo_l2i, zo_dup, zo_dup2, zo_pop, zo_goto, zo_if, zo_icmp, zo_ifnull, zo_gets, zo_mm, zo_throw, zo_ret, zo_aret, zo_lret, q_iret_f, q_iret_1, q_iret_0, q_iret_b, q_c8_0, q_c8_1, q_c8_2, q_c8_3, q_c8_4, q_set_0, q_set_1i, q_set_1r, q_set_1n, q_set_1N, q_set_s, q_set_1j, q_bk_v, q_bk_n, q_if, zb_ite, cond_true, cond_false, List.getElem?_cons_zero, List.getElem?_cons_succ, Nat.reduceAdd, q_set_1l, q_set2_0, q_set2_1i, q_set2_1r, q_set2_1n, q_set2_s, ↓hZ, gg, d, q1, if_true, if_false, zb_eq0, zb_eq1, zn_1, not_true_eq_false, not_false_eq_true, ite_true, ite_false, if_true, if_false, q_iret_0, q_iret_1, decide_true, decide_false, decide_not, zb_t, zb_f, z10, z01, cond_true, cond_false, Bool.and_true, Bool.true_and, Bool.and_false, Bool.false_and, Bool.not_true, Bool.not_false, true_and, and_true, false_and, and_false, true_or, or_true, false_or, or_false, Bool.true_eq_false, Bool.false_eq_true, eq_self, reduceCtorEq, Bool.or_true, Bool.true_or, Bool.or_false, Bool.false_or])
    · simp only [Bool.not_true, zb_f] at hZ
      (simp only [e_X12_applyBudget, zo_iload, zo_lload, zo_aload, zo_istore, zo_lstore, zo_astore, zo_iinc, zo_pushI, zo_pushL, zo_null, zo_ii, zo_iid, zo_ll, zo_li, zo_lcmp, zo_i2l, zo_l2i, zo_dup, zo_dup2, zo_pop, zo_goto, zo_if, zo_icmp, zo_ifnull, zo_gets, zo_mm, zo_throw, zo_ret, zo_aret, zo_lret, q_iret_f, q_iret_1, q_iret_0, q_iret_b, q_c8_0, q_c8_1, q_c8_2, q_c8_3, q_c8_4, q_set_0, q_set_1i, q_set_1r, q_set_1n, q_set_1N, q_set_s, q_set_1j, q_bk_v, q_bk_n, q_if, zb_ite, cond_true, cond_false, List.getElem?_cons_zero, List.getElem?_cons_succ, Nat.reduceAdd, q_set_1l, q_set2_0, q_set2_1i, q_set2_1r, q_set2_1n, q_set2_s, ↓hZ, gg, d, if_true, if_false, zb_eq0, zb_eq1, zn_1, not_true_eq_false, not_false_eq_true, ite_true, ite_false, if_true, if_false, q_iret_0, q_iret_1, decide_true, decide_false, decide_not, zb_t, zb_f, z10, z01, cond_true, cond_false, Bool.and_true, Bool.true_and, Bool.and_false, Bool.false_and, Bool.not_true, Bool.not_false, true_and, and_true, false_and, and_false, true_or, or_true, false_or, or_false, Bool.true_eq_false, Bool.false_eq_true, eq_self, reduceCtorEq, Bool.or_true, Bool.true_or, Bool.or_false, Bool.false_or])
  rw [s135, s180]
  clear s135 s180 no
  cases rf
  · obtain ⟨R2, u1, u2, u3, u4⟩ := hrf rfl
    rw [← c2] at u2 u3 u4
    generalize (aAp2 (nz M) m o (zn a) (zn b)).1 = r at c1 u1 u2 u3
    cases r
    · have u2 := u2 rfl
      simp only [zb_f] at c1 u1
      refine zAg_x (M' := M2) (R' := zz_sI R2 0 49 3) (e := 1) (v := 0) ?_ ?_ (Rel_49 u2) sI_e (by decide)
      · (simp only [e_X11_applyBudget, zo_iload, zo_lload, zo_aload, zo_istore, zo_lstore, zo_astore, zo_iinc, zo_pushI, zo_pushL, zo_null, zo_ii, zo_iid, zo_ll, zo_li, zo_lcmp, zo_i2l, zo_l2i, zo_dup, zo_dup2, zo_pop, zo_goto, zo_if, zo_icmp, zo_ifnull, zo_gets, zo_mm, zo_throw, zo_ret, zo_aret, zo_lret, q_iret_f, q_iret_1, q_iret_0, q_iret_b, q_c8_0, q_c8_1, q_c8_2, q_c8_3, q_c8_4, q_set_0, q_set_1i, q_set_1r, q_set_1n, q_set_1N, q_set_s, q_set_1j, q_bk_v, q_bk_n, q_if, zb_ite, cond_true, cond_false, List.getElem?_cons_zero, List.getElem?_cons_succ, Nat.reduceAdd, q_bx_v, q_bx_n, q_bx_x, c1, if_true, if_false, zb_eq0, zb_eq1, zn_1, not_true_eq_false, not_false_eq_true, ite_true, ite_false, if_true, if_false, q_iret_0, q_iret_1, decide_true, decide_false, decide_not, zb_t, zb_f, z10, z01, cond_true, cond_false, Bool.and_true, Bool.true_and, Bool.and_false, Bool.false_and, Bool.not_true, Bool.not_false, true_and, and_true, false_and, and_false, true_or, or_true, false_or, or_false, Bool.true_eq_false, Bool.false_eq_true, eq_self, reduceCtorEq, Bool.or_true, Bool.true_or, Bool.or_false, Bool.false_or])
      · simp only [zb_f] at n31 n8 ⊢
        generalize zz_sI R1 0 31 0 = S at *
        (simp only [e_X12_applyBudget, zo_iload, zo_lload, zo_aload, zo_istore, zo_lstore, zo_astore, zo_iinc, zo_pushI, zo_pushL, zo_null, zo_ii, zo_iid, zo_ll, zo_li, zo_lcmp, zo_i2l, zo_l2i, zo_dup, zo_dup2, zo_pop, zo_goto, zo_if, zo_icmp, zo_ifnull, zo_gets, zo_mm, zo_throw, zo_ret, zo_aret, zo_lret, q_iret_f, q_iret_1, q_iret_0, q_iret_b, q_c8_0, q_c8_1, q_c8_2, q_c8_3, q_c8_4, q_set_0, q_set_1i, q_set_1r, q_set_1n, q_set_1N, q_set_s, q_set_1j, q_bk_v, q_bk_n, q_if, zb_ite, cond_true, cond_false, List.getElem?_cons_zero, List.getElem?_cons_succ, Nat.reduceAdd, q_set_1l, q_set2_0, q_set2_1i, q_set2_1r, q_set2_1n, q_set2_s, n31, b1, x1, q_aR, n8, u1, r_goes3, if_true, if_false, zb_eq0, zb_eq1, zn_1, not_true_eq_false, not_false_eq_true, ite_true, ite_false, if_true, if_false, q_iret_0, q_iret_1, decide_true, decide_false, decide_not, zb_t, zb_f, z10, z01, cond_true, cond_false, Bool.and_true, Bool.true_and, Bool.and_false, Bool.false_and, Bool.not_true, Bool.not_false, true_and, and_true, false_and, and_false, true_or, or_true, false_or, or_false, Bool.true_eq_false, Bool.false_eq_true, eq_self, reduceCtorEq, Bool.or_true, Bool.true_or, Bool.or_false, Bool.false_or])
    · have u3 := u3 rfl
      simp only [zb_f, zb_t] at c1 u1
      have ho2 : o < nv M2 1 := by
        have : nv (nz M2) 1 = nv (nz M) 1 := u4
        show o < nv (nz M2) 1
        rw [this]; exact ho
      have wl := h_lat u3 ho2
      have f49 : (zz_sI (zz_sI (zz_sI R2 0 49 0) 10 (11 * o + 2) m) 10 (11 * o + 3) m).1 0 49 = 0 := rfl
      refine zAg_v (M' := M2) (R' := zz_sI (zz_sI (zz_sI R2 0 49 0) 10 (11 * o + 2) m) 10 (11 * o + 3) m) (v := (zz_sI (zz_sI (zz_sI R2 0 49 0) 10 (11 * o + 2) m) 10 (11 * o + 3) m).1 9 o) ?_ ?_ u3 f49
      · generalize zz_sI (zz_sI (zz_sI R2 0 49 0) 10 (11 * o + 2) m) 10 (11 * o + 3) m = R3 at *
        (simp only [e_X11_applyBudget, zo_iload, zo_lload, zo_aload, zo_istore, zo_lstore, zo_astore, zo_iinc, zo_pushI, zo_pushL, zo_null, zo_ii, zo_iid, zo_ll, zo_li, zo_lcmp, zo_i2l, zo_l2i, zo_dup, zo_dup2, zo_pop, zo_goto, zo_if, zo_icmp, zo_ifnull, zo_gets, zo_mm, zo_throw, zo_ret, zo_aret, zo_lret, q_iret_f, q_iret_1, q_iret_0, q_iret_b, q_c8_0, q_c8_1, q_c8_2, q_c8_3, q_c8_4, q_set_0, q_set_1i, q_set_1r, q_set_1n, q_set_1N, q_set_s, q_set_1j, q_bk_v, q_bk_n, q_if, zb_ite, cond_true, cond_false, List.getElem?_cons_zero, List.getElem?_cons_succ, Nat.reduceAdd, q_bx_v, q_bx_n, q_bx_x, c1, wl, if_true, if_false, zb_eq0, zb_eq1, zn_1, not_true_eq_false, not_false_eq_true, ite_true, ite_false, if_true, if_false, q_iret_0, q_iret_1, decide_true, decide_false, decide_not, zb_t, zb_f, z10, z01, cond_true, cond_false, Bool.and_true, Bool.true_and, Bool.and_false, Bool.false_and, Bool.not_true, Bool.not_false, true_and, and_true, false_and, and_false, true_or, or_true, false_or, or_false, Bool.true_eq_false, Bool.false_eq_true, eq_self, reduceCtorEq, Bool.or_true, Bool.true_or, Bool.or_false, Bool.false_or])
      · simp only [zb_f] at n31 n8 ⊢
        generalize zz_sI R1 0 31 0 = S at *
        (simp only [e_X12_applyBudget, zo_iload, zo_lload, zo_aload, zo_istore, zo_lstore, zo_astore, zo_iinc, zo_pushI, zo_pushL, zo_null, zo_ii, zo_iid, zo_ll, zo_li, zo_lcmp, zo_i2l, zo_l2i, zo_dup, zo_dup2, zo_pop, zo_goto, zo_if, zo_icmp, zo_ifnull, zo_gets, zo_mm, zo_throw, zo_ret, zo_aret, zo_lret, q_iret_f, q_iret_1, q_iret_0, q_iret_b, q_c8_0, q_c8_1, q_c8_2, q_c8_3, q_c8_4, q_set_0, q_set_1i, q_set_1r, q_set_1n, q_set_1N, q_set_s, q_set_1j, q_bk_v, q_bk_n, q_if, zb_ite, cond_true, cond_false, List.getElem?_cons_zero, List.getElem?_cons_succ, Nat.reduceAdd, q_set_1l, q_set2_0, q_set2_1i, q_set2_1r, q_set2_1n, q_set2_s, n31, b1, x1, q_aR, n8, u1, r_goes0, zn_p2, zn_p3, p2, p3, if_true, if_false, zb_eq0, zb_eq1, zn_1, not_true_eq_false, not_false_eq_true, ite_true, ite_false, if_true, if_false, q_iret_0, q_iret_1, decide_true, decide_false, decide_not, zb_t, zb_f, z10, z01, cond_true, cond_false, Bool.and_true, Bool.true_and, Bool.and_false, Bool.false_and, Bool.not_true, Bool.not_false, true_and, and_true, false_and, and_false, true_or, or_true, false_or, or_false, Bool.true_eq_false, Bool.false_eq_true, eq_self, reduceCtorEq, Bool.or_true, Bool.true_or, Bool.or_false, Bool.false_or])
  · have hr := hrt rfl
    rw [hr] at c1 c2
    simp only [zb_f] at c1
    have H2 : Rel (nz M2) (zz_sI R1 0 31 (zb true)) := by rw [c2]; exact HS
    refine zAg_x (M' := M2) (R' := zz_sI (zz_sI R1 0 31 (zb true)) 0 49 3) (e := 1) (v := 0) ?_ ?_ (Rel_49 H2) sI_e (by decide)
    · (simp only [e_X11_applyBudget, zo_iload, zo_lload, zo_aload, zo_istore, zo_lstore, zo_astore, zo_iinc, zo_pushI, zo_pushL, zo_null, zo_ii, zo_iid, zo_ll, zo_li, zo_lcmp, zo_i2l, zo_l2i, zo_dup, zo_dup2, zo_pop, zo_goto, zo_if, zo_icmp, zo_ifnull, zo_gets, zo_mm, zo_throw, zo_ret, zo_aret, zo_lret, q_iret_f, q_iret_1, q_iret_0, q_iret_b, q_c8_0, q_c8_1, q_c8_2, q_c8_3, q_c8_4, q_set_0, q_set_1i, q_set_1r, q_set_1n, q_set_1N, q_set_s, q_set_1j, q_bk_v, q_bk_n, q_if, zb_ite, cond_true, cond_false, List.getElem?_cons_zero, List.getElem?_cons_succ, Nat.reduceAdd, q_bx_v, q_bx_n, q_bx_x, c1, if_true, if_false, zb_eq0, zb_eq1, zn_1, not_true_eq_false, not_false_eq_true, ite_true, ite_false, if_true, if_false, q_iret_0, q_iret_1, decide_true, decide_false, decide_not, zb_t, zb_f, z10, z01, cond_true, cond_false, Bool.and_true, Bool.true_and, Bool.and_false, Bool.false_and, Bool.not_true, Bool.not_false, true_and, and_true, false_and, and_false, true_or, or_true, false_or, or_false, Bool.true_eq_false, Bool.false_eq_true, eq_self, reduceCtorEq, Bool.or_true, Bool.true_or, Bool.or_false, Bool.false_or])
    · simp only [zb_t] at n31 n8 ⊢
      generalize zz_sI R1 0 31 1 = S at *
      (simp only [e_X12_applyBudget, zo_iload, zo_lload, zo_aload, zo_istore, zo_lstore, zo_astore, zo_iinc, zo_pushI, zo_pushL, zo_null, zo_ii, zo_iid, zo_ll, zo_li, zo_lcmp, zo_i2l, zo_l2i, zo_dup, zo_dup2, zo_pop, zo_goto, zo_if, zo_icmp, zo_ifnull, zo_gets, zo_mm, zo_throw, zo_ret, zo_aret, zo_lret, q_iret_f, q_iret_1, q_iret_0, q_iret_b, q_c8_0, q_c8_1, q_c8_2, q_c8_3, q_c8_4, q_set_0, q_set_1i, q_set_1r, q_set_1n, q_set_1N, q_set_s, q_set_1j, q_bk_v, q_bk_n, q_if, zb_ite, cond_true, cond_false, List.getElem?_cons_zero, List.getElem?_cons_succ, Nat.reduceAdd, q_set_1l, q_set2_0, q_set2_1i, q_set2_1r, q_set2_1n, q_set2_s, n31, r_goes3, if_true, if_false, zb_eq0, zb_eq1, zn_1, not_true_eq_false, not_false_eq_true, ite_true, ite_false, if_true, if_false, q_iret_0, q_iret_1, decide_true, decide_false, decide_not, zb_t, zb_f, z10, z01, cond_true, cond_false, Bool.and_true, Bool.true_and, Bool.and_false, Bool.false_and, Bool.not_true, Bool.not_false, true_and, and_true, false_and, and_false, true_or, or_true, false_or, or_false, Bool.true_eq_false, Bool.false_eq_true, eq_self, reduceCtorEq, Bool.or_true, Bool.true_or, Bool.or_false, Bool.false_or])
end
end

section
/-! the reference's small methods -/
theorem lc_0 (x y : Int64) : (lg_cmp x y = 0) = (x = y) := by
  unfold lg_cmp
  refine propext ⟨fun h => ?_, fun h => ?_⟩
  · by_cases h1 : x > y
    · rw [if_pos h1] at h; exact absurd h (by decide)
    · rw [if_neg h1] at h
      by_cases h2 : x = y
      · exact h2
      · rw [if_neg h2] at h; exact absurd h (by decide)
  · subst h
    rw [if_neg (by exact fun q => absurd q (Int64.lt_irrefl)), if_pos rfl]
theorem r_isIn (v a b : Int32) (M : zzMd) : fX12_isIn [.int v, .int a, .int b] M = some (.inl (some (.int (zb (!decide (v < a) && !decide (b < v))))), M) := by
  rw [s_X12_isIn]
  by_cases c1 : v < a <;> by_cases c2 : b < v <;> (simp only [e_X12_isIn, zo_iload, zo_lload, zo_aload, zo_istore, zo_lstore, zo_astore, zo_iinc, zo_pushI, zo_pushL, zo_null, zo_ii, zo_iid, zo_ll, zo_li, zo_lcmp, zo_i2l, zo_l2i, zo_dup, zo_dup2, zo_pop, zo_goto, zo_if, zo_icmp, zo_ifnull, zo_gets, zo_mm, zo_throw, zo_ret, zo_aret, zo_lret, q_iret_f, q_iret_1, q_iret_0, q_iret_b, q_c8_0, q_c8_1, q_c8_2, q_c8_3, q_c8_4, q_set_0, q_set_1i, q_set_1r, q_set_1n, q_set_1N, q_set_s, q_set_1j, q_bk_v, q_bk_n, q_if, zb_ite, cond_true, cond_false, List.getElem?_cons_zero, List.getElem?_cons_succ, Nat.reduceAdd, q_set_1l, q_set2_0, q_set2_1i, q_set2_1r, q_set2_1n, q_set2_s, c1, c2, if_true, if_false, zb_eq0, zb_eq1, zn_1, not_true_eq_false, not_false_eq_true, ite_true, ite_false, if_true, if_false, q_iret_0, q_iret_1, decide_true, decide_false, decide_not, zb_t, zb_f, z10, z01, cond_true, cond_false, Bool.and_true, Bool.true_and, Bool.and_false, Bool.false_and, Bool.not_true, Bool.not_false, true_and, and_true, false_and, and_false, true_or, or_true, false_or, or_false, Bool.true_eq_false, Bool.false_eq_true, eq_self, reduceCtorEq, Bool.or_true, Bool.true_or, Bool.or_false, Bool.false_or])
theorem r_need (t : Int32) (M : zzMd) : fX12_need [.int t] M = some (.inl (some (.int (znd t))), M) := by
  have h3 : ((3 : Int32) = 0) = False := eq_false (by decide)
  rw [s_X12_need]
  (simp only [e_X12_need, zo_iload, zo_lload, zo_aload, zo_istore, zo_lstore, zo_astore, zo_iinc, zo_pushI, zo_pushL, zo_null, zo_ii, zo_iid, zo_ll, zo_li, zo_lcmp, zo_i2l, zo_l2i, zo_dup, zo_dup2, zo_pop, zo_goto, zo_if, zo_icmp, zo_ifnull, zo_gets, zo_mm, zo_throw, zo_ret, zo_aret, zo_lret, q_iret_f, q_iret_1, q_iret_0, q_iret_b, q_c8_0, q_c8_1, q_c8_2, q_c8_3, q_c8_4, q_set_0, q_set_1i, q_set_1r, q_set_1n, q_set_1N, q_set_s, q_set_1j, q_bk_v, q_bk_n, q_if, zb_ite, cond_true, cond_false, List.getElem?_cons_zero, List.getElem?_cons_succ, Nat.reduceAdd, q_set_1l, q_set2_0, q_set2_1i, q_set2_1r, q_set2_1n, q_set2_s, h3, if_true, if_false, zb_eq0, zb_eq1, zn_1, not_true_eq_false, not_false_eq_true, ite_true, ite_false, if_true, if_false, q_iret_0, q_iret_1, decide_true, decide_false, decide_not, zb_t, zb_f, z10, z01, cond_true, cond_false, Bool.and_true, Bool.true_and, Bool.and_false, Bool.false_and, Bool.not_true, Bool.not_false, true_and, and_true, false_and, and_false, true_or, or_true, false_or, or_false, Bool.true_eq_false, Bool.false_eq_true, eq_self, reduceCtorEq, Bool.or_true, Bool.true_or, Bool.or_false, Bool.false_or])
  rfl
theorem r_isOf (x : Int64) (o : Int32) (M : zzMd) : fX12_isOf [.long x, .int o] M = some (.inl (some (.int (zb (decide ((x >>> (o.toInt64 &&& 63)) &&& 1 = 1))))), M) := by
  rw [s_X12_isOf]
  by_cases c : (x >>> (o.toInt64 &&& 63)) &&& 1 = 1 <;> (simp only [e_X12_isOf, zo_iload, zo_lload, zo_aload, zo_istore, zo_lstore, zo_astore, zo_iinc, zo_pushI, zo_pushL, zo_null, zo_ii, zo_iid, zo_ll, zo_li, zo_lcmp, zo_i2l, zo_l2i, zo_dup, zo_dup2, zo_pop, zo_goto, zo_if, zo_icmp, zo_ifnull, zo_gets, zo_mm, zo_throw, zo_ret, zo_aret, zo_lret, q_iret_f, q_iret_1, q_iret_0, q_iret_b, q_c8_0, q_c8_1, q_c8_2, q_c8_3, q_c8_4, q_set_0, q_set_1i, q_set_1r, q_set_1n, q_set_1N, q_set_s, q_set_1j, q_bk_v, q_bk_n, q_if, zb_ite, cond_true, cond_false, List.getElem?_cons_zero, List.getElem?_cons_succ, Nat.reduceAdd, q_set_1l, q_set2_0, q_set2_1i, q_set2_1r, q_set2_1n, q_set2_s, lc_0, c, if_true, if_false, zb_eq0, zb_eq1, zn_1, not_true_eq_false, not_false_eq_true, ite_true, ite_false, if_true, if_false, q_iret_0, q_iret_1, decide_true, decide_false, decide_not, zb_t, zb_f, z10, z01, cond_true, cond_false, Bool.and_true, Bool.true_and, Bool.and_false, Bool.false_and, Bool.not_true, Bool.not_false, true_and, and_true, false_and, and_false, true_or, or_true, false_or, or_false, Bool.true_eq_false, Bool.false_eq_true, eq_self, reduceCtorEq, Bool.or_true, Bool.true_or, Bool.or_false, Bool.false_or])
theorem r_isKind (k : Int32) (M : zzMd) : fX12_isKind [.int k] M = some (.inl (some (.int (zb (!decide (k < 0) && !decide (5 < k))))), M) := by
  have h := r_isIn k 0 5 M
  rw [s_X12_isKind]
  (simp only [e_X12_isKind, zo_iload, zo_lload, zo_aload, zo_istore, zo_lstore, zo_astore, zo_iinc, zo_pushI, zo_pushL, zo_null, zo_ii, zo_iid, zo_ll, zo_li, zo_lcmp, zo_i2l, zo_l2i, zo_dup, zo_dup2, zo_pop, zo_goto, zo_if, zo_icmp, zo_ifnull, zo_gets, zo_mm, zo_throw, zo_ret, zo_aret, zo_lret, q_iret_f, q_iret_1, q_iret_0, q_iret_b, q_c8_0, q_c8_1, q_c8_2, q_c8_3, q_c8_4, q_set_0, q_set_1i, q_set_1r, q_set_1n, q_set_1N, q_set_s, q_set_1j, q_bk_v, q_bk_n, q_if, zb_ite, cond_true, cond_false, List.getElem?_cons_zero, List.getElem?_cons_succ, Nat.reduceAdd, q_set_1l, q_set2_0, q_set2_1i, q_set2_1r, q_set2_1n, q_set2_s, h, if_true, if_false, zb_eq0, zb_eq1, zn_1, not_true_eq_false, not_false_eq_true, ite_true, ite_false, if_true, if_false, q_iret_0, q_iret_1, decide_true, decide_false, decide_not, zb_t, zb_f, z10, z01, cond_true, cond_false, Bool.and_true, Bool.true_and, Bool.and_false, Bool.false_and, Bool.not_true, Bool.not_false, true_and, and_true, false_and, and_false, true_or, or_true, false_or, or_false, Bool.true_eq_false, Bool.false_eq_true, eq_self, reduceCtorEq, Bool.or_true, Bool.true_or, Bool.or_false, Bool.false_or])
theorem r_isManager (k : Int32) (M : zzMd) : fX12_isManager [.int k] M = some (.inl (some (.int (zb (!decide (k < 0) && !decide (3 < k))))), M) := by
  have h := r_isIn k 0 3 M
  rw [s_X12_isManager]
  (simp only [e_X12_isManager, zo_iload, zo_lload, zo_aload, zo_istore, zo_lstore, zo_astore, zo_iinc, zo_pushI, zo_pushL, zo_null, zo_ii, zo_iid, zo_ll, zo_li, zo_lcmp, zo_i2l, zo_l2i, zo_dup, zo_dup2, zo_pop, zo_goto, zo_if, zo_icmp, zo_ifnull, zo_gets, zo_mm, zo_throw, zo_ret, zo_aret, zo_lret, q_iret_f, q_iret_1, q_iret_0, q_iret_b, q_c8_0, q_c8_1, q_c8_2, q_c8_3, q_c8_4, q_set_0, q_set_1i, q_set_1r, q_set_1n, q_set_1N, q_set_s, q_set_1j, q_bk_v, q_bk_n, q_if, zb_ite, cond_true, cond_false, List.getElem?_cons_zero, List.getElem?_cons_succ, Nat.reduceAdd, q_set_1l, q_set2_0, q_set2_1i, q_set2_1r, q_set2_1n, q_set2_s, h, if_true, if_false, zb_eq0, zb_eq1, zn_1, not_true_eq_false, not_false_eq_true, ite_true, ite_false, if_true, if_false, q_iret_0, q_iret_1, decide_true, decide_false, decide_not, zb_t, zb_f, z10, z01, cond_true, cond_false, Bool.and_true, Bool.true_and, Bool.and_false, Bool.false_and, Bool.not_true, Bool.not_false, true_and, and_true, false_and, and_false, true_or, or_true, false_or, or_false, Bool.true_eq_false, Bool.false_eq_true, eq_self, reduceCtorEq, Bool.or_true, Bool.true_or, Bool.or_false, Bool.false_or])
theorem r_isReader (k : Int32) (M : zzMd) : fX12_isReader [.int k] M = some (.inl (some (.int (zb (!decide (k < 0) && !decide (3 < k))))), M) := by
  have h := r_isIn k 0 3 M
  rw [s_X12_isReader]
  (simp only [e_X12_isReader, zo_iload, zo_lload, zo_aload, zo_istore, zo_lstore, zo_astore, zo_iinc, zo_pushI, zo_pushL, zo_null, zo_ii, zo_iid, zo_ll, zo_li, zo_lcmp, zo_i2l, zo_l2i, zo_dup, zo_dup2, zo_pop, zo_goto, zo_if, zo_icmp, zo_ifnull, zo_gets, zo_mm, zo_throw, zo_ret, zo_aret, zo_lret, q_iret_f, q_iret_1, q_iret_0, q_iret_b, q_c8_0, q_c8_1, q_c8_2, q_c8_3, q_c8_4, q_set_0, q_set_1i, q_set_1r, q_set_1n, q_set_1N, q_set_s, q_set_1j, q_bk_v, q_bk_n, q_if, zb_ite, cond_true, cond_false, List.getElem?_cons_zero, List.getElem?_cons_succ, Nat.reduceAdd, q_set_1l, q_set2_0, q_set2_1i, q_set2_1r, q_set2_1n, q_set2_s, h, if_true, if_false, zb_eq0, zb_eq1, zn_1, not_true_eq_false, not_false_eq_true, ite_true, ite_false, if_true, if_false, q_iret_0, q_iret_1, decide_true, decide_false, decide_not, zb_t, zb_f, z10, z01, cond_true, cond_false, Bool.and_true, Bool.true_and, Bool.and_false, Bool.false_and, Bool.not_true, Bool.not_false, true_and, and_true, false_and, and_false, true_or, or_true, false_or, or_false, Bool.true_eq_false, Bool.false_eq_true, eq_self, reduceCtorEq, Bool.or_true, Bool.true_or, Bool.or_false, Bool.false_or])
theorem r_isController (k : Int32) (M : zzMd) : fX12_isController [.int k] M = some (.inl (some (.int (zb (!decide (k < 0) && !decide (7 < k))))), M) := by
  have h := r_isIn k 0 7 M
  rw [s_X12_isController]
  (simp only [e_X12_isController, zo_iload, zo_lload, zo_aload, zo_istore, zo_lstore, zo_astore, zo_iinc, zo_pushI, zo_pushL, zo_null, zo_ii, zo_iid, zo_ll, zo_li, zo_lcmp, zo_i2l, zo_l2i, zo_dup, zo_dup2, zo_pop, zo_goto, zo_if, zo_icmp, zo_ifnull, zo_gets, zo_mm, zo_throw, zo_ret, zo_aret, zo_lret, q_iret_f, q_iret_1, q_iret_0, q_iret_b, q_c8_0, q_c8_1, q_c8_2, q_c8_3, q_c8_4, q_set_0, q_set_1i, q_set_1r, q_set_1n, q_set_1N, q_set_s, q_set_1j, q_bk_v, q_bk_n, q_if, zb_ite, cond_true, cond_false, List.getElem?_cons_zero, List.getElem?_cons_succ, Nat.reduceAdd, q_set_1l, q_set2_0, q_set2_1i, q_set2_1r, q_set2_1n, q_set2_s, h, if_true, if_false, zb_eq0, zb_eq1, zn_1, not_true_eq_false, not_false_eq_true, ite_true, ite_false, if_true, if_false, q_iret_0, q_iret_1, decide_true, decide_false, decide_not, zb_t, zb_f, z10, z01, cond_true, cond_false, Bool.and_true, Bool.true_and, Bool.and_false, Bool.false_and, Bool.not_true, Bool.not_false, true_and, and_true, false_and, and_false, true_or, or_true, false_or, or_false, Bool.true_eq_false, Bool.false_eq_true, eq_self, reduceCtorEq, Bool.or_true, Bool.true_or, Bool.or_false, Bool.false_or])
theorem r_isObject (k : Int32) (R : zzMd) : fX12_isObject [.ref 0, .int k] R = some (.inl (some (.int (zb (!decide (k < 0) && !decide (R.1 0 5 - 1 < k))))), R) := by
  have h := r_isIn k 0 (R.1 0 5 - 1) R
  rw [s_X12_isObject]
  (simp only [e_X12_isObject, zo_iload, zo_lload, zo_aload, zo_istore, zo_lstore, zo_astore, zo_iinc, zo_pushI, zo_pushL, zo_null, zo_ii, zo_iid, zo_ll, zo_li, zo_lcmp, zo_i2l, zo_l2i, zo_dup, zo_dup2, zo_pop, zo_goto, zo_if, zo_icmp, zo_ifnull, zo_gets, zo_mm, zo_throw, zo_ret, zo_aret, zo_lret, q_iret_f, q_iret_1, q_iret_0, q_iret_b, q_c8_0, q_c8_1, q_c8_2, q_c8_3, q_c8_4, q_set_0, q_set_1i, q_set_1r, q_set_1n, q_set_1N, q_set_s, q_set_1j, q_bk_v, q_bk_n, q_if, zb_ite, cond_true, cond_false, List.getElem?_cons_zero, List.getElem?_cons_succ, Nat.reduceAdd, q_set_1l, q_set2_0, q_set2_1i, q_set2_1r, q_set2_1n, q_set2_s, h, if_true, if_false, zb_eq0, zb_eq1, zn_1, not_true_eq_false, not_false_eq_true, ite_true, ite_false, if_true, if_false, q_iret_0, q_iret_1, decide_true, decide_false, decide_not, zb_t, zb_f, z10, z01, cond_true, cond_false, Bool.and_true, Bool.true_and, Bool.and_false, Bool.false_and, Bool.not_true, Bool.not_false, true_and, and_true, false_and, and_false, true_or, or_true, false_or, or_false, Bool.true_eq_false, Bool.false_eq_true, eq_self, reduceCtorEq, Bool.or_true, Bool.true_or, Bool.or_false, Bool.false_or])
theorem r_isFull (R : zzMd) : fX12_isFull [.ref 0] R = some (.inl (some (.int (zb (decide (R.1 0 14 = 400))))), R) := by
  rw [s_X12_isFull]
  by_cases c : R.1 0 14 = 400 <;> (simp only [e_X12_isFull, zo_iload, zo_lload, zo_aload, zo_istore, zo_lstore, zo_astore, zo_iinc, zo_pushI, zo_pushL, zo_null, zo_ii, zo_iid, zo_ll, zo_li, zo_lcmp, zo_i2l, zo_l2i, zo_dup, zo_dup2, zo_pop, zo_goto, zo_if, zo_icmp, zo_ifnull, zo_gets, zo_mm, zo_throw, zo_ret, zo_aret, zo_lret, q_iret_f, q_iret_1, q_iret_0, q_iret_b, q_c8_0, q_c8_1, q_c8_2, q_c8_3, q_c8_4, q_set_0, q_set_1i, q_set_1r, q_set_1n, q_set_1N, q_set_s, q_set_1j, q_bk_v, q_bk_n, q_if, zb_ite, cond_true, cond_false, List.getElem?_cons_zero, List.getElem?_cons_succ, Nat.reduceAdd, q_set_1l, q_set2_0, q_set2_1i, q_set2_1r, q_set2_1n, q_set2_s, c, if_true, if_false, zb_eq0, zb_eq1, zn_1, not_true_eq_false, not_false_eq_true, ite_true, ite_false, if_true, if_false, q_iret_0, q_iret_1, decide_true, decide_false, decide_not, zb_t, zb_f, z10, z01, cond_true, cond_false, Bool.and_true, Bool.true_and, Bool.and_false, Bool.false_and, Bool.not_true, Bool.not_false, true_and, and_true, false_and, and_false, true_or, or_true, false_or, or_false, Bool.true_eq_false, Bool.false_eq_true, eq_self, reduceCtorEq, Bool.or_true, Bool.true_or, Bool.or_false, Bool.false_or])
section
variable {R : zzMd}
theorem rk_pw (K : RK R) {k : Nat} (hk : k < 17) : zz_inb (zn k) 17 = true ∧ zz_ix (zn k) = k ∧ R.1 1 k = zn (pL k) ∧ R.1 2 k = zn (wL k) := ⟨zn_inT hk (by decide), zn_ix (by omega), (K.1 k hk).1, (K.1 k hk).2⟩
theorem r_get (K : RK R) {k : Nat} (hk : k < 17) (x : Int64) : fX12_get [.ref 0, .long x, .int (zn k)] R = some (.inl (some (.int (gt x k))), R) := by
  obtain ⟨b1, x1, p1, w1⟩ := rk_pw K hk
  rw [s_X12_get]
  (simp only [e_X12_get, zo_iload, zo_lload, zo_aload, zo_istore, zo_lstore, zo_astore, zo_iinc, zo_pushI, zo_pushL, zo_null, zo_ii, zo_iid, zo_ll, zo_li, zo_lcmp, zo_i2l, zo_l2i, zo_dup, zo_dup2, zo_pop, zo_goto, zo_if, zo_icmp, zo_ifnull, zo_gets, zo_mm, zo_throw, zo_ret, zo_aret, zo_lret, q_iret_f, q_iret_1, q_iret_0, q_iret_b, q_c8_0, q_c8_1, q_c8_2, q_c8_3, q_c8_4, q_set_0, q_set_1i, q_set_1r, q_set_1n, q_set_1N, q_set_s, q_set_1j, q_bk_v, q_bk_n, q_if, zb_ite, cond_true, cond_false, List.getElem?_cons_zero, List.getElem?_cons_succ, Nat.reduceAdd, q_set_1l, q_set2_0, q_set2_1i, q_set2_1r, q_set2_1n, q_set2_s, b1, x1, p1, w1, q_aR, if_true, if_false, zb_eq0, zb_eq1, zn_1, not_true_eq_false, not_false_eq_true, ite_true, ite_false, if_true, if_false, q_iret_0, q_iret_1, decide_true, decide_false, decide_not, zb_t, zb_f, z10, z01, cond_true, cond_false, Bool.and_true, Bool.true_and, Bool.and_false, Bool.false_and, Bool.not_true, Bool.not_false, true_and, and_true, false_and, and_false, true_or, or_true, false_or, or_false, Bool.true_eq_false, Bool.false_eq_true, eq_self, reduceCtorEq, Bool.or_true, Bool.true_or, Bool.or_false, Bool.false_or])
  rfl
theorem r_with (K : RK R) {k : Nat} (hk : k < 17) (x : Int64) (v : Int32) : fX12_with [.ref 0, .long x, .int (zn k), .int v] R = some (.inl (some (.long (wt x k v))), R) := by
  obtain ⟨b1, x1, p1, w1⟩ := rk_pw K hk
  rw [s_X12_with]
  (simp only [e_X12_with, zo_iload, zo_lload, zo_aload, zo_istore, zo_lstore, zo_astore, zo_iinc, zo_pushI, zo_pushL, zo_null, zo_ii, zo_iid, zo_ll, zo_li, zo_lcmp, zo_i2l, zo_l2i, zo_dup, zo_dup2, zo_pop, zo_goto, zo_if, zo_icmp, zo_ifnull, zo_gets, zo_mm, zo_throw, zo_ret, zo_aret, zo_lret, q_iret_f, q_iret_1, q_iret_0, q_iret_b, q_c8_0, q_c8_1, q_c8_2, q_c8_3, q_c8_4, q_set_0, q_set_1i, q_set_1r, q_set_1n, q_set_1N, q_set_s, q_set_1j, q_bk_v, q_bk_n, q_if, zb_ite, cond_true, cond_false, List.getElem?_cons_zero, List.getElem?_cons_succ, Nat.reduceAdd, q_set_1l, q_set2_0, q_set2_1i, q_set2_1r, q_set2_1n, q_set2_s, b1, x1, p1, w1, q_aR, if_true, if_false, zb_eq0, zb_eq1, zn_1, not_true_eq_false, not_false_eq_true, ite_true, ite_false, if_true, if_false, q_iret_0, q_iret_1, decide_true, decide_false, decide_not, zb_t, zb_f, z10, z01, cond_true, cond_false, Bool.and_true, Bool.true_and, Bool.and_false, Bool.false_and, Bool.not_true, Bool.not_false, true_and, and_true, false_and, and_false, true_or, or_true, false_or, or_false, Bool.true_eq_false, Bool.false_eq_true, eq_self, reduceCtorEq, Bool.or_true, Bool.true_or, Bool.or_false, Bool.false_or])
  rfl
theorem r_ownerIn (K : RK R) (x : Int64) : fX12_ownerIn [.ref 0, .long x] R = some (.inl (some (.int (gt x 11 - 1))), R) := by
  have h : fX12_get [.ref 0, .long x, .int 11] R = _ := r_get K (k := 11) (by decide) x
  rw [s_X12_ownerIn]
  (simp only [e_X12_ownerIn, zo_iload, zo_lload, zo_aload, zo_istore, zo_lstore, zo_astore, zo_iinc, zo_pushI, zo_pushL, zo_null, zo_ii, zo_iid, zo_ll, zo_li, zo_lcmp, zo_i2l, zo_l2i, zo_dup, zo_dup2, zo_pop, zo_goto, zo_if, zo_icmp, zo_ifnull, zo_gets, zo_mm, zo_throw, zo_ret, zo_aret, zo_lret, q_iret_f, q_iret_1, q_iret_0, q_iret_b, q_c8_0, q_c8_1, q_c8_2, q_c8_3, q_c8_4, q_set_0, q_set_1i, q_set_1r, q_set_1n, q_set_1N, q_set_s, q_set_1j, q_bk_v, q_bk_n, q_if, zb_ite, cond_true, cond_false, List.getElem?_cons_zero, List.getElem?_cons_succ, Nat.reduceAdd, q_set_1l, q_set2_0, q_set2_1i, q_set2_1r, q_set2_1n, q_set2_s, h, if_true, if_false, zb_eq0, zb_eq1, zn_1, not_true_eq_false, not_false_eq_true, ite_true, ite_false, if_true, if_false, q_iret_0, q_iret_1, decide_true, decide_false, decide_not, zb_t, zb_f, z10, z01, cond_true, cond_false, Bool.and_true, Bool.true_and, Bool.and_false, Bool.false_and, Bool.not_true, Bool.not_false, true_and, and_true, false_and, and_false, true_or, or_true, false_or, or_false, Bool.true_eq_false, Bool.false_eq_true, eq_self, reduceCtorEq, Bool.or_true, Bool.true_or, Bool.or_false, Bool.false_or])
theorem r_gone (K : RK R) (x : Int64) : fX12_gone [.ref 0, .long x] R = some (.inl (some (.long (wt (wt x 13 4) 11 0))), R) := by
  have h : fX12_with [.ref 0, .long x, .int 13, .int 4] R = _ := r_with K (k := 13) (by decide) x 4
  have h2 : fX12_with [.ref 0, .long (wt x 13 4), .int 11, .int 0] R = _ := r_with K (k := 11) (by decide) (wt x 13 4) 0
  rw [s_X12_gone]
  (simp only [e_X12_gone, zo_iload, zo_lload, zo_aload, zo_istore, zo_lstore, zo_astore, zo_iinc, zo_pushI, zo_pushL, zo_null, zo_ii, zo_iid, zo_ll, zo_li, zo_lcmp, zo_i2l, zo_l2i, zo_dup, zo_dup2, zo_pop, zo_goto, zo_if, zo_icmp, zo_ifnull, zo_gets, zo_mm, zo_throw, zo_ret, zo_aret, zo_lret, q_iret_f, q_iret_1, q_iret_0, q_iret_b, q_c8_0, q_c8_1, q_c8_2, q_c8_3, q_c8_4, q_set_0, q_set_1i, q_set_1r, q_set_1n, q_set_1N, q_set_s, q_set_1j, q_bk_v, q_bk_n, q_if, zb_ite, cond_true, cond_false, List.getElem?_cons_zero, List.getElem?_cons_succ, Nat.reduceAdd, q_set_1l, q_set2_0, q_set2_1i, q_set2_1r, q_set2_1n, q_set2_s, h, h2, if_true, if_false, zb_eq0, zb_eq1, zn_1, not_true_eq_false, not_false_eq_true, ite_true, ite_false, if_true, if_false, q_iret_0, q_iret_1, decide_true, decide_false, decide_not, zb_t, zb_f, z10, z01, cond_true, cond_false, Bool.and_true, Bool.true_and, Bool.and_false, Bool.false_and, Bool.not_true, Bool.not_false, true_and, and_true, false_and, and_false, true_or, or_true, false_or, or_false, Bool.true_eq_false, Bool.false_eq_true, eq_self, reduceCtorEq, Bool.or_true, Bool.true_or, Bool.or_false, Bool.false_or])
theorem r_hasField (K : RK R) {t : Nat} (ht : t < 6) (f : Int32) : fX12_hasField [.ref 0, .int (zn t), .int f] R = some (.inl (some (.int (zb (hasF (zn t) f)))), R) := by
  have h := r_isIn f 0 10 R
  have b1 : zz_inb (zn t) 6 = true := zn_inT ht (by decide)
  have x1 : zz_ix (zn t) = t := zn_ix (by omega)
  have e := K.2.2 t ht
  have c0 : (zn t < 0) = False := zn_lt0 (by omega)
  have c6 : ((6 : Int32) ≤ zn t) = False := zk_lt (n := 6) ht (Nat.le_refl _) (by decide)
  have i11 : (10 < f) = (11 ≤ f) := by
    rw [Int32.lt_iff_toInt_lt, Int32.le_iff_toInt_le]
    exact propext (Iff.intro (fun q => q) (fun q => q))
  rw [s_X12_hasField]
  unfold hasF
  rw [x1]
  simp only [i11] at h
  by_cases c1 : f < 0
  · (simp only [e_X12_hasField, zo_iload, zo_lload, zo_aload, zo_istore, zo_lstore, zo_astore, zo_iinc, zo_pushI, zo_pushL, zo_null, zo_ii, zo_iid, zo_ll, zo_li, zo_lcmp, zo_i2l, zo_l2i, zo_dup, zo_dup2, zo_pop, zo_goto, zo_if, zo_icmp, zo_ifnull, zo_gets, zo_mm, zo_throw, zo_ret, zo_aret, zo_lret, q_iret_f, q_iret_1, q_iret_0, q_iret_b, q_c8_0, q_c8_1, q_c8_2, q_c8_3, q_c8_4, q_set_0, q_set_1i, q_set_1r, q_set_1n, q_set_1N, q_set_s, q_set_1j, q_bk_v, q_bk_n, q_if, zb_ite, cond_true, cond_false, List.getElem?_cons_zero, List.getElem?_cons_succ, Nat.reduceAdd, q_set_1l, q_set2_0, q_set2_1i, q_set2_1r, q_set2_1n, q_set2_s, h, c1, c0, c6, if_true, if_false, zb_eq0, zb_eq1, zn_1, not_true_eq_false, not_false_eq_true, ite_true, ite_false, if_true, if_false, q_iret_0, q_iret_1, decide_true, decide_false, decide_not, zb_t, zb_f, z10, z01, cond_true, cond_false, Bool.and_true, Bool.true_and, Bool.and_false, Bool.false_and, Bool.not_true, Bool.not_false, true_and, and_true, false_and, and_false, true_or, or_true, false_or, or_false, Bool.true_eq_false, Bool.false_eq_true, eq_self, reduceCtorEq, Bool.or_true, Bool.true_or, Bool.or_false, Bool.false_or])
  · by_cases c2 : 11 ≤ f
    · (simp only [e_X12_hasField, zo_iload, zo_lload, zo_aload, zo_istore, zo_lstore, zo_astore, zo_iinc, zo_pushI, zo_pushL, zo_null, zo_ii, zo_iid, zo_ll, zo_li, zo_lcmp, zo_i2l, zo_l2i, zo_dup, zo_dup2, zo_pop, zo_goto, zo_if, zo_icmp, zo_ifnull, zo_gets, zo_mm, zo_throw, zo_ret, zo_aret, zo_lret, q_iret_f, q_iret_1, q_iret_0, q_iret_b, q_c8_0, q_c8_1, q_c8_2, q_c8_3, q_c8_4, q_set_0, q_set_1i, q_set_1r, q_set_1n, q_set_1N, q_set_s, q_set_1j, q_bk_v, q_bk_n, q_if, zb_ite, cond_true, cond_false, List.getElem?_cons_zero, List.getElem?_cons_succ, Nat.reduceAdd, q_set_1l, q_set2_0, q_set2_1i, q_set2_1r, q_set2_1n, q_set2_s, h, c1, c2, c0, c6, if_true, if_false, zb_eq0, zb_eq1, zn_1, not_true_eq_false, not_false_eq_true, ite_true, ite_false, if_true, if_false, q_iret_0, q_iret_1, decide_true, decide_false, decide_not, zb_t, zb_f, z10, z01, cond_true, cond_false, Bool.and_true, Bool.true_and, Bool.and_false, Bool.false_and, Bool.not_true, Bool.not_false, true_and, and_true, false_and, and_false, true_or, or_true, false_or, or_false, Bool.true_eq_false, Bool.false_eq_true, eq_self, reduceCtorEq, Bool.or_true, Bool.true_or, Bool.or_false, Bool.false_or])
    · by_cases c3 : ([127, 3, 2, 1027, 896, 2] : List Int32).getD t 0 >>> (f &&& 31) &&& 1 = 1
      · (simp only [e_X12_hasField, zo_iload, zo_lload, zo_aload, zo_istore, zo_lstore, zo_astore, zo_iinc, zo_pushI, zo_pushL, zo_null, zo_ii, zo_iid, zo_ll, zo_li, zo_lcmp, zo_i2l, zo_l2i, zo_dup, zo_dup2, zo_pop, zo_goto, zo_if, zo_icmp, zo_ifnull, zo_gets, zo_mm, zo_throw, zo_ret, zo_aret, zo_lret, q_iret_f, q_iret_1, q_iret_0, q_iret_b, q_c8_0, q_c8_1, q_c8_2, q_c8_3, q_c8_4, q_set_0, q_set_1i, q_set_1r, q_set_1n, q_set_1N, q_set_s, q_set_1j, q_bk_v, q_bk_n, q_if, zb_ite, cond_true, cond_false, List.getElem?_cons_zero, List.getElem?_cons_succ, Nat.reduceAdd, q_set_1l, q_set2_0, q_set2_1i, q_set2_1r, q_set2_1n, q_set2_s, h, c1, c2, c0, c6, b1, x1, q_aR, e, c3, if_true, if_false, zb_eq0, zb_eq1, zn_1, not_true_eq_false, not_false_eq_true, ite_true, ite_false, if_true, if_false, q_iret_0, q_iret_1, decide_true, decide_false, decide_not, zb_t, zb_f, z10, z01, cond_true, cond_false, Bool.and_true, Bool.true_and, Bool.and_false, Bool.false_and, Bool.not_true, Bool.not_false, true_and, and_true, false_and, and_false, true_or, or_true, false_or, or_false, Bool.true_eq_false, Bool.false_eq_true, eq_self, reduceCtorEq, Bool.or_true, Bool.true_or, Bool.or_false, Bool.false_or])
      · (simp only [e_X12_hasField, zo_iload, zo_lload, zo_aload, zo_istore, zo_lstore, zo_astore, zo_iinc, zo_pushI, zo_pushL, zo_null, zo_ii, zo_iid, zo_ll, zo_li, zo_lcmp, zo_i2l, zo_l2i, zo_dup, zo_dup2, zo_pop, zo_goto, zo_if, zo_icmp, zo_ifnull, zo_gets, zo_mm, zo_throw, zo_ret, zo_aret, zo_lret, q_iret_f, q_iret_1, q_iret_0, q_iret_b, q_c8_0, q_c8_1, q_c8_2, q_c8_3, q_c8_4, q_set_0, q_set_1i, q_set_1r, q_set_1n, q_set_1N, q_set_s, q_set_1j, q_bk_v, q_bk_n, q_if, zb_ite, cond_true, cond_false, List.getElem?_cons_zero, List.getElem?_cons_succ, Nat.reduceAdd, q_set_1l, q_set2_0, q_set2_1i, q_set2_1r, q_set2_1n, q_set2_s, h, c1, c2, c0, c6, b1, x1, q_aR, e, c3, if_true, if_false, zb_eq0, zb_eq1, zn_1, not_true_eq_false, not_false_eq_true, ite_true, ite_false, if_true, if_false, q_iret_0, q_iret_1, decide_true, decide_false, decide_not, zb_t, zb_f, z10, z01, cond_true, cond_false, Bool.and_true, Bool.true_and, Bool.and_false, Bool.false_and, Bool.not_true, Bool.not_false, true_and, and_true, false_and, and_false, true_or, or_true, false_or, or_false, Bool.true_eq_false, Bool.false_eq_true, eq_self, reduceCtorEq, Bool.or_true, Bool.true_or, Bool.or_false, Bool.false_or])
theorem r_isValue (K : RK R) {f : Nat} (hf : f < 11) (x : Int32) : fX12_isValue [.ref 0, .int (zn f), .int x] R = some (.inl (some (.int (zb (inR (zn f) x)))), R) := by
  obtain ⟨e1, e2⟩ := K.2.1 f hf
  have h := r_isIn x (zn (leastF f)) (zn (mostF f)) R
  have b1 : zz_inb (zn f) 11 = true := zn_inT hf (by decide)
  have x1 : zz_ix (zn f) = f := zn_ix (by omega)
  have c0 : (zn f < 0) = False := zn_lt0 (by omega)
  have c6 : ((11 : Int32) ≤ zn f) = False := zk_lt (n := 11) hf (Nat.le_refl _) (by decide)
  have l1 : ∀ f : Fin 11, ([0, 0, 0, 0, 0, 0, 0, 0, 0, 0, 1] : List Int32).getD f.1 0 = zn (leastF f.1) ∧ ([5, 9, 2, 2, 1, 5, 99, 9, 2, 1, 5] : List Int32).getD f.1 0 = zn (mostF f.1) := by decide
  obtain ⟨d1, d2⟩ := l1 ⟨f, hf⟩
  rw [s_X12_isValue]
  unfold inR
  rw [x1]
  simp only at d1 d2
  rw [d1, d2]
  by_cases c1 : x < zn (leastF f) <;> by_cases c2 : zn (mostF f) < x <;> (simp only [e_X12_isValue, zo_iload, zo_lload, zo_aload, zo_istore, zo_lstore, zo_astore, zo_iinc, zo_pushI, zo_pushL, zo_null, zo_ii, zo_iid, zo_ll, zo_li, zo_lcmp, zo_i2l, zo_l2i, zo_dup, zo_dup2, zo_pop, zo_goto, zo_if, zo_icmp, zo_ifnull, zo_gets, zo_mm, zo_throw, zo_ret, zo_aret, zo_lret, q_iret_f, q_iret_1, q_iret_0, q_iret_b, q_c8_0, q_c8_1, q_c8_2, q_c8_3, q_c8_4, q_set_0, q_set_1i, q_set_1r, q_set_1n, q_set_1N, q_set_s, q_set_1j, q_bk_v, q_bk_n, q_if, zb_ite, cond_true, cond_false, List.getElem?_cons_zero, List.getElem?_cons_succ, Nat.reduceAdd, q_set_1l, q_set2_0, q_set2_1i, q_set2_1r, q_set2_1n, q_set2_s, h, c1, c2, c0, c6, b1, x1, q_aR, e1, e2, if_true, if_false, zb_eq0, zb_eq1, zn_1, not_true_eq_false, not_false_eq_true, ite_true, ite_false, if_true, if_false, q_iret_0, q_iret_1, decide_true, decide_false, decide_not, zb_t, zb_f, z10, z01, cond_true, cond_false, Bool.and_true, Bool.true_and, Bool.and_false, Bool.false_and, Bool.not_true, Bool.not_false, true_and, and_true, false_and, and_false, true_or, or_true, false_or, or_false, Bool.true_eq_false, Bool.false_eq_true, eq_self, reduceCtorEq, Bool.or_true, Bool.true_or, Bool.or_false, Bool.false_or])
end
/-! rows and their numbers -/
theorem sl_inj : ∀ k j : Fin 17, sl k.1 = sl j.1 → k = j := by decide
theorem sl_lt : ∀ k : Fin 17, sl k.1 < 32 := by decide
theorem vl_up {D : Nat → Int32} {k j : Nat} (hk : k < 17) (hj : j < 17) (v : Int32) : vl (dUp D (sl k) v) j = if j = k then v + of1 k else vl D j := by
  unfold vl dUp
  by_cases h : j = k
  · rw [if_pos (by rw [h]), if_pos h, h]
  · rw [if_neg (fun e => h (congrArg Fin.val (sl_inj ⟨j, hj⟩ ⟨k, hk⟩ e))), if_neg h]
theorem enc_wt {x : Int64} {D : Nat → Int32} {k a : Nat} (hk : k < 17) (ha : a < 2 ^ wL k) (h : encR x D) : encR (wt x k (zn a)) (dUp D (sl k) (zn a - of1 k)) := by
  refine ⟨clean_wt hk ha h.1, fun j hj => ?_⟩
  rw [vl_up hk hj]
  by_cases c : j = k
  · rw [if_pos c, c, gt_wt x hk ha, Int32.sub_add_cancel]
  · rw [if_neg c, gt_wt' x hk hj c ha]; exact h.2 j hj
theorem enc_c {x : Int64} {D D' : Nat → Int32} (h : encR x D) (e : ∀ k, k < 17 → D' (sl k) = D (sl k)) : encR x D' := ⟨h.1, fun k hk => by unfold vl; rw [e k hk]; exact h.2 k hk⟩
theorem enc_c32 {x : Int64} {D D' : Nat → Int32} (h : encR x D) (e : eq32 D' D) : encR x D' := enc_c h fun k hk => e _ (sl_lt ⟨k, hk⟩)
theorem enc_eq {x y : Int64} {D E : Nat → Int32} (h : encR x D) (h2 : encR y E) : x = y ↔ ∀ k, k < 17 → D (sl k) = E (sl k) := by
  refine ⟨fun e k hk => ?_, fun e => gt_ext h.1 h2.1 fun k hk => ?_⟩
  · have a := h.2 k hk
    have b := h2.2 k hk
    rw [e, b] at a
    unfold vl at a
    exact (Int32.add_left_inj (of1 k)).mp a.symm
  · rw [h.2 k hk, h2.2 k hk]
    unfold vl
    rw [e k hk]
theorem encB_c {y : Int64} {D D' : Nat → Int32} (h : encB y D) (e0 : D' 30 = D 30) (e1 : D' 31 = D 31) : encB y D' := by
  unfold encB
  rw [e0, e1]
  exact h
theorem encB_eq {x y : Int64} {D E : Nat → Int32} (h : encB x D) (h2 : encB y E) : x = y ↔ D 30 = E 30 ∧ D 31 = E 31 := by
  obtain ⟨a1, a2, a3⟩ := h
  obtain ⟨b1, b2, b3⟩ := h2
  refine ⟨fun e => ?_, fun e => bit_ext fun i hi => ?_⟩
  · subst e
    refine ⟨b32_ext fun i hi => ?_, b32_ext fun i hi => ?_⟩
    · by_cases c : i < 30
      · rw [← (a1 i c).1, (b1 i c).1]
      · rw [(a3 i (by omega) hi).1, (b3 i (by omega) hi).1]
    · by_cases c : i < 30
      · rw [← (a1 i c).2, (b1 i c).2]
      · rw [(a3 i (by omega) hi).2, (b3 i (by omega) hi).2]
  · by_cases c : i < 30
    · rw [(a1 i c).1, (b1 i c).1, e.1]
    · by_cases c2 : i < 60
      · have h1 := (a1 (i - 30) (by omega)).2
        have h2 := (b1 (i - 30) (by omega)).2
        rw [show 30 + (i - 30) = i by omega] at h1 h2
        rw [h1, h2, e.2]
      · rw [a2 i (by omega), b2 i (by omega)]
theorem goodD_c {D D' : Nat → Int32} (h : goodD D) (e : eq32 D' D) : goodD D' := by
  obtain ⟨h1, h2⟩ := h
  refine ⟨fun f hf => ?_, ?_⟩
  · rw [e f (by omega)]; exact h1 f hf
  · unfold goodS at h2 ⊢
    rw [e 22 (by decide), e 23 (by decide), e 24 (by decide), e 25 (by decide), e 26 (by decide), e 27 (by decide), e 28 (by decide), e 29 (by decide)]
    exact h2
/-- the numbers of a good row are small enough -/
theorem wf_lt : ∀ f : Fin 11, mostF f.1 < 2 ^ wL f.1 := by decide
theorem row_eq {D E : Nat → Int32} (h : (∀ k, k < 17 → D (sl k) = E (sl k)) ∧ (D 30 = E 30 ∧ D 31 = E 31) ∧ (∀ f, f < 11 → D (11 + f) = E (11 + f)) ∧ D 22 = E 22 ∧ D 23 = E 23) : eq32 D E := by
  obtain ⟨h1, ⟨h2, h3⟩, h4, h5, h6⟩ := h
  intro s hs
  have key : ∀ s : Fin 32, (∃ k : Fin 17, sl k.1 = s.1) ∨ s.1 = 30 ∨ s.1 = 31 ∨ (∃ f : Fin 11, 11 + f.1 = s.1) ∨ s.1 = 22 ∨ s.1 = 23 := by decide
  rcases key ⟨s, hs⟩ with ⟨k, e⟩ | e | e | ⟨f, e⟩ | e | e
  · have e' : sl k.1 = s := e
    rw [← e']; exact h1 k.1 k.2
  · have e' : s = 30 := e
    rw [e']; exact h2
  · have e' : s = 31 := e
    rw [e']; exact h3
  · have e' : 11 + f.1 = s := e
    rw [← e']; exact h4 f.1 f.2
  · have e' : s = 22 := e
    rw [e']; exact h5
  · have e' : s = 23 := e
    rw [e']; exact h6
end

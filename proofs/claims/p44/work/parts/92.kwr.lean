section
/-! the class's answers, in words of its memory: what writes -/
section
variable {A M R : zzMd}
theorem lt_c {a b : Nat} (ha : a < 100000) (hb : b < 100000) : (zn a < zn b) = (a < b) := zn_lt (by omega) (by omega)
theorem le_c {a b : Nat} (ha : a < 100000) (hb : b < 100000) : (zn a ≤ zn b) = (a ≤ b) := zn_le (by omega) (by omega)
theorem g_make (hA : nz A = A) (H : Rel A R) {m k : Nat} (hm : m < 4) (hk : k < 6) : lz_g fX11_make [.ref 0, .int (zn m), .int (zn k)] A = if (aOpen A (zn m) (zn k) (-1) 0).1 = -1 then some (.inr 1, (aOpen A (zn m) (zn k) (-1) 0).2) else some (.inl (some (.int (aOpen A (zn m) (zn k) (-1) 0).1)), (aOpen A (zn m) (zn k) (-1) 0).2) := by
  have key : ∀ M, nz M = A → ∃ M', fX11_make [.ref 0, .int (zn m), .int (zn k)] M = (if (aOpen A (zn m) (zn k) (-1) 0).1 = -1 then some (.inr 1, M') else some (.inl (some (.int (aOpen A (zn m) (zn k) (-1) 0).1)), M')) ∧ nz M' = (aOpen A (zn m) (zn k) (-1) 0).2 := fun M hM => by
    subst hM
    have a1 := k_caller1 hm M
    have k1 := k_kind1 hk M
    obtain ⟨M1, b1, b2⟩ := sp_open (h_nv H).1 (zn m) (zn k) (-1) 0
    refine ⟨M1, ?_, b2⟩
    generalize (aOpen (nz M) (zn m) (zn k) (-1) 0).1 = r at *
    have f1 : ([0, 0, 1, 0, 0, 0, 0, 4, 0, 0, 1] : List Int32).getD 1 0 = 0 := rfl
    have i1 : zz_inb 1 11 = true := rfl
    have x1 : zz_ix 1 = 1 := rfl
    rw [s_X11_make]
    by_cases d : r = -1
    · rw [if_pos d]
      subst d
      (simp only [e_X11_make, zo_iload, zo_lload, zo_aload, zo_istore, zo_lstore, zo_astore, zo_iinc, zo_pushI, zo_pushL, zo_null, zo_ii, zo_iid, zo_ll, zo_li, zo_lcmp, zo_i2l, zo_l2i, zo_dup, zo_dup2, zo_pop, zo_goto, zo_if, zo_icmp, zo_ifnull, zo_gets, zo_mm, zo_throw, zo_ret, zo_aret, zo_lret, q_iret_f, q_iret_1, q_iret_0, q_iret_b, q_c8_0, q_c8_1, q_c8_2, q_c8_3, q_c8_4, q_set_0, q_set_1i, q_set_1r, q_set_1n, q_set_1N, q_set_s, q_set_1j, q_bk_v, q_bk_n, q_if, zb_ite, cond_true, cond_false, List.getElem?_cons_zero, List.getElem?_cons_succ, Nat.reduceAdd, q_bx_v, q_bx_n, q_bx_x, a1, k1, q_aC, i1, x1, f1, b1, if_true, if_false, zb_eq0, zb_eq1, zn_1, not_true_eq_false, not_false_eq_true, ite_true, ite_false, if_true, if_false, q_iret_0, q_iret_1, decide_true, decide_false, decide_not, zb_t, zb_f, z10, z01, cond_true, cond_false, Bool.and_true, Bool.true_and, Bool.and_false, Bool.false_and, Bool.not_true, Bool.not_false, true_and, and_true, false_and, and_false, true_or, or_true, false_or, or_false, Bool.true_eq_false, Bool.false_eq_true, eq_self, reduceCtorEq, Bool.or_true, Bool.true_or, Bool.or_false, Bool.false_or])
    · rw [if_neg d]
      (simp only [e_X11_make, zo_iload, zo_lload, zo_aload, zo_istore, zo_lstore, zo_astore, zo_iinc, zo_pushI, zo_pushL, zo_null, zo_ii, zo_iid, zo_ll, zo_li, zo_lcmp, zo_i2l, zo_l2i, zo_dup, zo_dup2, zo_pop, zo_goto, zo_if, zo_icmp, zo_ifnull, zo_gets, zo_mm, zo_throw, zo_ret, zo_aret, zo_lret, q_iret_f, q_iret_1, q_iret_0, q_iret_b, q_c8_0, q_c8_1, q_c8_2, q_c8_3, q_c8_4, q_set_0, q_set_1i, q_set_1r, q_set_1n, q_set_1N, q_set_s, q_set_1j, q_bk_v, q_bk_n, q_if, zb_ite, cond_true, cond_false, List.getElem?_cons_zero, List.getElem?_cons_succ, Nat.reduceAdd, q_bx_v, q_bx_n, q_bx_x, a1, k1, q_aC, i1, x1, f1, b1, d, if_true, if_false, zb_eq0, zb_eq1, zn_1, not_true_eq_false, not_false_eq_true, ite_true, ite_false, if_true, if_false, q_iret_0, q_iret_1, decide_true, decide_false, decide_not, zb_t, zb_f, z10, z01, cond_true, cond_false, Bool.and_true, Bool.true_and, Bool.and_false, Bool.false_and, Bool.not_true, Bool.not_false, true_and, and_true, false_and, and_false, true_or, or_true, false_or, or_false, Bool.true_eq_false, Bool.false_eq_true, eq_self, reduceCtorEq, Bool.or_true, Bool.true_or, Bool.or_false, Bool.false_or])
  by_cases d : (aOpen A (zn m) (zn k) (-1) 0).1 = -1
  · rw [if_pos d]
    refine lz_g_of hA fun M hM => ?_
    obtain ⟨M', h1, h2⟩ := key M hM
    rw [if_pos d] at h1
    exact ⟨M', h1, h2⟩
  · rw [if_neg d]
    refine lz_g_of hA fun M hM => ?_
    obtain ⟨M', h1, h2⟩ := key M hM
    rw [if_neg d] at h1
    exact ⟨M', h1, h2⟩
/-- a call that answers by whether a write passes -/
theorem lz_gb {f : zzFn} {As : List Value} {b : Bool} {v : Int32} {A' : zzMd} (hA : nz A = A) (h : ∀ M, nz M = A → ∃ M', f As M = (bif b then some (.inl (some (.int v)), M') else some (.inr 1, M')) ∧ nz M' = A') : lz_g f As A = bif b then some (.inl (some (.int v)), A') else some (.inr 1, A') := by
  cases b
  · exact lz_g_of hA fun M hM => h M hM
  · exact lz_g_of hA fun M hM => h M hM
theorem g_apply (hA : nz A = A) (H : Rel A R) {o : Nat} (ho : o < nv A 1) {m : Nat} (hm : m < 4) {j a : Nat} (hF : hasF (row A o 23) (zn j) = true) (hj : j < 11) (hv : inR (zn j) (zn a) = true) (hng : ¬ row A o 25 = 4) {p : Int32} (hmn : ¬ p = 0 ∨ row A o (11 + j) = zn m) :
    lz_g fX11_apply [.ref 0, .int (zn m), .int (zn o), .int (zn j), .int (zn a), .int (-1), .int p] A = bif (aAp A (zn m) o (zn j) (zn a)).1 then some (.inl (some (.int ((aAp A (zn m) o (zn j) (zn a)).2.1 15 o))), (aAp A (zn m) o (zn j) (zn a)).2) else some (.inr 1, (aAp A (zn m) o (zn j) (zn a)).2) := lz_gb hA fun M hM => by
  subst hM
  have h1 := h_req H ho
  have a1 := k_caller1 hm M
  have w := h_kd H ho
  have f1 := sp_hasField (row (nz M) o 23) (zn j) M
  rw [hF] at f1
  have f2 := sp_inR (zn j) (zn a) M
  rw [hv] at f2
  have wg := (h_rd H ho).2.2.2.2.2.2.2
  have wm := h_read H ho (s := 11 + j) (by omega)
  have e11 : (11 : Int32) + zn j = zn (11 + j) := zn_add 11 j
  have h60 := lt_n60 H.1 (o := o) ho
  have W := (h_nv H).1
  obtain ⟨M2, c1, c2⟩ := sp_applyField W h60 (zn m) (zn j) (zn a)
  have W2 : zIC M2 := zIC_nz.mp (by rw [c2]; exact zIC_Ap h60 (zIC_nz.mpr W))
  have wl := sp_latS W2 h60
  have e15 : (aAp (nz M) (zn m) o (zn j) (zn a)).2.1 15 o = M2.1 15 o := by rw [← c2]; rfl
  refine ⟨M2, ?_, c2⟩
  rw [e15]
  generalize (aAp (nz M) (zn m) o (zn j) (zn a)).1 = b at c1 ⊢
  have s119 : zz_ev tX11_apply 0 [some (.ref 0), some (.int (zn m)), some (.int (zn o)), some (.int (zn j)), some (.int (zn a)), some (.int (-1)), some (.int p)] [] M = zz_ev tX11_apply 119 [some (.ref 0), some (.int (zn m)), some (.int (zn o)), some (.int (zn j)), some (.int (zn a)), some (.int (-1)), some (.int p)] [] M := by
    generalize hZ : zz_ev tX11_apply 119 [some (.ref 0), some (.int (zn m)), some (.int (zn o)), some (.int (zn j)), some (.int (zn a)), some (.int (-1)), some (.int p)] [] M = Z
    by_cases q : p = 0
    · have t := eq_true q
      have t2 := eq_true (hmn.resolve_left (not_not_intro q))
      (simp only [e_X11_apply, zo_iload, zo_lload, zo_aload, zo_istore, zo_lstore, zo_astore, zo_iinc, zo_pushI, zo_pushL, zo_null, zo_ii, zo_iid, zo_ll, zo_li, zo_lcmp, zo_i2l, zo_l2i, zo_dup, zo_dup2, zo_pop, zo_goto, zo_if, zo_icmp, zo_ifnull, zo_gets, zo_mm, zo_throw, zo_ret, zo_aret, zo_lret, q_iret_f, q_iret_1, q_iret_0, q_iret_b, q_c8_0, q_c8_1, q_c8_2, q_c8_3, q_c8_4, q_set_0, q_set_1i, q_set_1r, q_set_1n, q_set_1N, q_set_s, q_set_1j, q_bk_v, q_bk_n, q_if, zb_ite, cond_true, cond_false, List.getElem?_cons_zero, List.getElem?_cons_succ, Nat.reduceAdd, q_bx_v, q_bx_n, q_bx_x, ↓hZ, h1, a1, w, f1, f2, wg, hng, t, e11, wm, t2, if_true, if_false, zb_eq0, zb_eq1, zn_1, not_true_eq_false, not_false_eq_true, ite_true, ite_false, if_true, if_false, q_iret_0, q_iret_1, decide_true, decide_false, decide_not, zb_t, zb_f, z10, z01, cond_true, cond_false, Bool.and_true, Bool.true_and, Bool.and_false, Bool.false_and, Bool.not_true, Bool.not_false, true_and, and_true, false_and, and_false, true_or, or_true, false_or, or_false, Bool.true_eq_false, Bool.false_eq_true, eq_self, reduceCtorEq, Bool.or_true, Bool.true_or, Bool.or_false, Bool.false_or])
    · (simp only [e_X11_apply, zo_iload, zo_lload, zo_aload, zo_istore, zo_lstore, zo_astore, zo_iinc, zo_pushI, zo_pushL, zo_null, zo_ii, zo_iid, zo_ll, zo_li, zo_lcmp, zo_i2l, zo_l2i, zo_dup, zo_dup2, zo_pop, zo_goto, zo_if, zo_icmp, zo_ifnull, zo_gets, zo_mm, zo_throw, zo_ret, zo_aret, zo_lret, q_iret_f, q_iret_1, q_iret_0, q_iret_b, q_c8_0, q_c8_1, q_c8_2, q_c8_3, q_c8_4, q_set_0, q_set_1i, q_set_1r, q_set_1n, q_set_1N, q_set_s, q_set_1j, q_bk_v, q_bk_n, q_if, zb_ite, cond_true, cond_false, List.getElem?_cons_zero, List.getElem?_cons_succ, Nat.reduceAdd, q_bx_v, q_bx_n, q_bx_x, ↓hZ, h1, a1, w, f1, f2, wg, hng, q, if_true, if_false, zb_eq0, zb_eq1, zn_1, not_true_eq_false, not_false_eq_true, ite_true, ite_false, if_true, if_false, q_iret_0, q_iret_1, decide_true, decide_false, decide_not, zb_t, zb_f, z10, z01, cond_true, cond_false, Bool.and_true, Bool.true_and, Bool.and_false, Bool.false_and, Bool.not_true, Bool.not_false, true_and, and_true, false_and, and_false, true_or, or_true, false_or, or_false, Bool.true_eq_false, Bool.false_eq_true, eq_self, reduceCtorEq, Bool.or_true, Bool.true_or, Bool.or_false, Bool.false_or])
  rw [s_X11_apply, s119]
  clear s119 c2 W2 e15
  cases b
  · simp only [zb_f] at c1
    (simp only [e_X11_apply, zo_iload, zo_lload, zo_aload, zo_istore, zo_lstore, zo_astore, zo_iinc, zo_pushI, zo_pushL, zo_null, zo_ii, zo_iid, zo_ll, zo_li, zo_lcmp, zo_i2l, zo_l2i, zo_dup, zo_dup2, zo_pop, zo_goto, zo_if, zo_icmp, zo_ifnull, zo_gets, zo_mm, zo_throw, zo_ret, zo_aret, zo_lret, q_iret_f, q_iret_1, q_iret_0, q_iret_b, q_c8_0, q_c8_1, q_c8_2, q_c8_3, q_c8_4, q_set_0, q_set_1i, q_set_1r, q_set_1n, q_set_1N, q_set_s, q_set_1j, q_bk_v, q_bk_n, q_if, zb_ite, cond_true, cond_false, List.getElem?_cons_zero, List.getElem?_cons_succ, Nat.reduceAdd, q_bx_v, q_bx_n, q_bx_x, c1, if_true, if_false, zb_eq0, zb_eq1, zn_1, not_true_eq_false, not_false_eq_true, ite_true, ite_false, if_true, if_false, q_iret_0, q_iret_1, decide_true, decide_false, decide_not, zb_t, zb_f, z10, z01, cond_true, cond_false, Bool.and_true, Bool.true_and, Bool.and_false, Bool.false_and, Bool.not_true, Bool.not_false, true_and, and_true, false_and, and_false, true_or, or_true, false_or, or_false, Bool.true_eq_false, Bool.false_eq_true, eq_self, reduceCtorEq, Bool.or_true, Bool.true_or, Bool.or_false, Bool.false_or])
  · simp only [zb_t] at c1
    (simp only [e_X11_apply, zo_iload, zo_lload, zo_aload, zo_istore, zo_lstore, zo_astore, zo_iinc, zo_pushI, zo_pushL, zo_null, zo_ii, zo_iid, zo_ll, zo_li, zo_lcmp, zo_i2l, zo_l2i, zo_dup, zo_dup2, zo_pop, zo_goto, zo_if, zo_icmp, zo_ifnull, zo_gets, zo_mm, zo_throw, zo_ret, zo_aret, zo_lret, q_iret_f, q_iret_1, q_iret_0, q_iret_b, q_c8_0, q_c8_1, q_c8_2, q_c8_3, q_c8_4, q_set_0, q_set_1i, q_set_1r, q_set_1n, q_set_1N, q_set_s, q_set_1j, q_bk_v, q_bk_n, q_if, zb_ite, cond_true, cond_false, List.getElem?_cons_zero, List.getElem?_cons_succ, Nat.reduceAdd, q_bx_v, q_bx_n, q_bx_x, c1, wl, if_true, if_false, zb_eq0, zb_eq1, zn_1, not_true_eq_false, not_false_eq_true, ite_true, ite_false, if_true, if_false, q_iret_0, q_iret_1, decide_true, decide_false, decide_not, zb_t, zb_f, z10, z01, cond_true, cond_false, Bool.and_true, Bool.true_and, Bool.and_false, Bool.false_and, Bool.not_true, Bool.not_false, true_and, and_true, false_and, and_false, true_or, or_true, false_or, or_false, Bool.true_eq_false, Bool.false_eq_true, eq_self, reduceCtorEq, Bool.or_true, Bool.true_or, Bool.or_false, Bool.false_or])
theorem g_delete (hA : nz A = A) (H : Rel A R) {o : Nat} (ho : o < nv A 1) {q : Nat} (q1 : 1 ≤ q) (q2 : q ≤ 3) (hs : row A o 25 = 0) :
    lz_g fX11_delete [.ref 0, .int (zn o), .int (zn q)] A = bif (aGo A o (zn q)).1 then some (.inl (some (.int (row (aGo A o (zn q)).2 o 25))), (aGo A o (zn q)).2) else some (.inr 1, (aGo A o (zn q)).2) := lz_gb hA fun M hM => by
  subst hM
  have s30 := k_del30 H ho q1 q2
  have w25 := (h_rd H ho).2.2.1
  have h60 := lt_n60 H.1 (o := o) ho
  have W := (h_nv H).1
  obtain ⟨M2, c1, c2⟩ := sp_startGoing W h60 (zn q)
  have W2 : zIC M2 := zIC_nz.mp (by rw [c2]; exact zIC_Wr h60 (zIC_nz.mpr W))
  have v25 : fX10_read [.ref 1, .int (zn o), .int 25] M2 = some (.inl (some (.int (row M2 o 25))), M2) := by
    have := sp_read' (zIC_1 W2) (zn o) (zn 25)
    rw [rd_row h60 (by decide)] at this
    exact this
  have e15 : row (aGo (nz M) o (zn q)).2 o 25 = row M2 o 25 := by rw [← c2]; rfl
  refine ⟨M2, ?_, c2⟩
  rw [e15]
  generalize (aGo (nz M) o (zn q)).1 = b at c1 ⊢
  rw [s_X11_delete, s30]
  clear c2 W2 e15 s30
  cases b
  · simp only [zb_f] at c1
    (simp only [e_X11_delete, zo_iload, zo_lload, zo_aload, zo_istore, zo_lstore, zo_astore, zo_iinc, zo_pushI, zo_pushL, zo_null, zo_ii, zo_iid, zo_ll, zo_li, zo_lcmp, zo_i2l, zo_l2i, zo_dup, zo_dup2, zo_pop, zo_goto, zo_if, zo_icmp, zo_ifnull, zo_gets, zo_mm, zo_throw, zo_ret, zo_aret, zo_lret, q_iret_f, q_iret_1, q_iret_0, q_iret_b, q_c8_0, q_c8_1, q_c8_2, q_c8_3, q_c8_4, q_set_0, q_set_1i, q_set_1r, q_set_1n, q_set_1N, q_set_s, q_set_1j, q_bk_v, q_bk_n, q_if, zb_ite, cond_true, cond_false, List.getElem?_cons_zero, List.getElem?_cons_succ, Nat.reduceAdd, q_bx_v, q_bx_n, q_bx_x, w25, hs, c1, if_true, if_false, zb_eq0, zb_eq1, zn_1, not_true_eq_false, not_false_eq_true, ite_true, ite_false, if_true, if_false, q_iret_0, q_iret_1, decide_true, decide_false, decide_not, zb_t, zb_f, z10, z01, cond_true, cond_false, Bool.and_true, Bool.true_and, Bool.and_false, Bool.false_and, Bool.not_true, Bool.not_false, true_and, and_true, false_and, and_false, true_or, or_true, false_or, or_false, Bool.true_eq_false, Bool.false_eq_true, eq_self, reduceCtorEq, Bool.or_true, Bool.true_or, Bool.or_false, Bool.false_or])
  · simp only [zb_t] at c1
    (simp only [e_X11_delete, zo_iload, zo_lload, zo_aload, zo_istore, zo_lstore, zo_astore, zo_iinc, zo_pushI, zo_pushL, zo_null, zo_ii, zo_iid, zo_ll, zo_li, zo_lcmp, zo_i2l, zo_l2i, zo_dup, zo_dup2, zo_pop, zo_goto, zo_if, zo_icmp, zo_ifnull, zo_gets, zo_mm, zo_throw, zo_ret, zo_aret, zo_lret, q_iret_f, q_iret_1, q_iret_0, q_iret_b, q_c8_0, q_c8_1, q_c8_2, q_c8_3, q_c8_4, q_set_0, q_set_1i, q_set_1r, q_set_1n, q_set_1N, q_set_s, q_set_1j, q_bk_v, q_bk_n, q_if, zb_ite, cond_true, cond_false, List.getElem?_cons_zero, List.getElem?_cons_succ, Nat.reduceAdd, q_bx_v, q_bx_n, q_bx_x, w25, hs, c1, v25, if_true, if_false, zb_eq0, zb_eq1, zn_1, not_true_eq_false, not_false_eq_true, ite_true, ite_false, if_true, if_false, q_iret_0, q_iret_1, decide_true, decide_false, decide_not, zb_t, zb_f, z10, z01, cond_true, cond_false, Bool.and_true, Bool.true_and, Bool.and_false, Bool.false_and, Bool.not_true, Bool.not_false, true_and, and_true, false_and, and_false, true_or, or_true, false_or, or_false, Bool.true_eq_false, Bool.false_eq_true, eq_self, reduceCtorEq, Bool.or_true, Bool.true_or, Bool.or_false, Bool.false_or])
theorem g_hold (hA : nz A = A) (H : Rel A R) {o : Nat} (ho : o < nv A 1) (hng : ¬ row A o 25 = 4) (b : Bool) :
    lz_g fX11_hold [.ref 0, .int (zn o), .int (zb b)] A = bif (aCh A o 26 (zb b)).1 then some (.inl (some (.int (zb (decide (row A o 26 = 1))))), (aCh A o 26 (zb b)).2) else some (.inr 1, (aCh A o 26 (zb b)).2) := lz_gb hA fun M hM => by
  subst hM
  have h1 := h_req H ho
  have wg := (h_rd H ho).2.2.2.2.2.2.2
  have w26 := (h_rd H ho).2.2.2.1
  have h60 := lt_n60 H.1 (o := o) ho
  obtain ⟨M2, c1, c2⟩ := sp_change (h_nv H).1 h60 (k := 26) (by decide) (zb b)
  refine ⟨M2, ?_, c2⟩
  have c1' : fX9_change [.ref 1, .int (zn o), .int 26, .int (zb b)] M = _ := c1
  clear c1 c2
  generalize (aCh (nz M) o 26 (zb b)).1 = r at c1' ⊢
  rw [s_X11_hold]
  cases b <;> simp only [zb_t, zb_f] at c1' ⊢ <;> cases r <;> simp only [zb_t, zb_f] at c1' <;> by_cases e : row (nz M) o 26 = 1 <;> (simp only [e_X11_hold, zo_iload, zo_lload, zo_aload, zo_istore, zo_lstore, zo_astore, zo_iinc, zo_pushI, zo_pushL, zo_null, zo_ii, zo_iid, zo_ll, zo_li, zo_lcmp, zo_i2l, zo_l2i, zo_dup, zo_dup2, zo_pop, zo_goto, zo_if, zo_icmp, zo_ifnull, zo_gets, zo_mm, zo_throw, zo_ret, zo_aret, zo_lret, q_iret_f, q_iret_1, q_iret_0, q_iret_b, q_c8_0, q_c8_1, q_c8_2, q_c8_3, q_c8_4, q_set_0, q_set_1i, q_set_1r, q_set_1n, q_set_1N, q_set_s, q_set_1j, q_bk_v, q_bk_n, q_if, zb_ite, cond_true, cond_false, List.getElem?_cons_zero, List.getElem?_cons_succ, Nat.reduceAdd, q_bx_v, q_bx_n, q_bx_x, h1, w26, e, wg, hng, c1', if_true, if_false, zb_eq0, zb_eq1, zn_1, not_true_eq_false, not_false_eq_true, ite_true, ite_false, if_true, if_false, q_iret_0, q_iret_1, decide_true, decide_false, decide_not, zb_t, zb_f, z10, z01, cond_true, cond_false, Bool.and_true, Bool.true_and, Bool.and_false, Bool.false_and, Bool.not_true, Bool.not_false, true_and, and_true, false_and, and_false, true_or, or_true, false_or, or_false, Bool.true_eq_false, Bool.false_eq_true, eq_self, reduceCtorEq, Bool.or_true, Bool.true_or, Bool.or_false, Bool.false_or])
theorem g_finish (hA : nz A = A) (H : Rel A R) {o : Nat} (ho : o < nv A 1) (hk : row A o 23 = 2) (hng : ¬ row A o 25 = 4) (hr : row A o 29 = 1) (b : Bool) :
    lz_g fX11_finish [.ref 0, .int (zn o), .int (zb b)] A = bif (aCh A o 29 (bif b then 2 else 3)).1 then some (.inl (some (.int ((aCh A o 29 (bif b then 2 else 3)).2.1 15 o))), (aCh A o 29 (bif b then 2 else 3)).2) else some (.inr 1, (aCh A o 29 (bif b then 2 else 3)).2) := lz_gb hA fun M hM => by
  subst hM
  have h1 := h_req H ho
  have h2 := h_rK H ho hk
  have wg := (h_rd H ho).2.2.2.2.2.2.2
  have w29 := (h_rd H ho).2.2.2.2.2.2.1
  have h60 := lt_n60 H.1 (o := o) ho
  have W := (h_nv H).1
  obtain ⟨M2, c1, c2⟩ := sp_change W h60 (k := 29) (by decide) (bif b then 2 else 3)
  have W2 : zIC M2 := zIC_nz.mp (by rw [c2]; exact zIC_Wr h60 (zIC_nz.mpr W))
  have wl := sp_latS W2 h60
  have e15 : (aCh (nz M) o 29 (bif b then 2 else 3)).2.1 15 o = M2.1 15 o := by rw [← c2]; rfl
  refine ⟨M2, ?_, c2⟩
  rw [e15]
  have c1' : fX9_change [.ref 1, .int (zn o), .int 29, .int (bif b then 2 else 3)] M = _ := c1
  clear c1 c2 W2 e15
  generalize (aCh (nz M) o 29 (bif b then 2 else 3)).1 = r at c1' ⊢
  rw [s_X11_finish]
  cases b <;> simp only [zb_t, zb_f, cond_true, cond_false] at c1' ⊢ <;> cases r <;> simp only [zb_t, zb_f] at c1' <;> (simp only [e_X11_finish, zo_iload, zo_lload, zo_aload, zo_istore, zo_lstore, zo_astore, zo_iinc, zo_pushI, zo_pushL, zo_null, zo_ii, zo_iid, zo_ll, zo_li, zo_lcmp, zo_i2l, zo_l2i, zo_dup, zo_dup2, zo_pop, zo_goto, zo_if, zo_icmp, zo_ifnull, zo_gets, zo_mm, zo_throw, zo_ret, zo_aret, zo_lret, q_iret_f, q_iret_1, q_iret_0, q_iret_b, q_c8_0, q_c8_1, q_c8_2, q_c8_3, q_c8_4, q_set_0, q_set_1i, q_set_1r, q_set_1n, q_set_1N, q_set_s, q_set_1j, q_bk_v, q_bk_n, q_if, zb_ite, cond_true, cond_false, List.getElem?_cons_zero, List.getElem?_cons_succ, Nat.reduceAdd, q_bx_v, q_bx_n, q_bx_x, h1, h2, wg, hng, w29, hr, c1', wl, if_true, if_false, zb_eq0, zb_eq1, zn_1, not_true_eq_false, not_false_eq_true, ite_true, ite_false, if_true, if_false, q_iret_0, q_iret_1, decide_true, decide_false, decide_not, zb_t, zb_f, z10, z01, cond_true, cond_false, Bool.and_true, Bool.true_and, Bool.and_false, Bool.false_and, Bool.not_true, Bool.not_false, true_and, and_true, false_and, and_false, true_or, or_true, false_or, or_false, Bool.true_eq_false, Bool.false_eq_true, eq_self, reduceCtorEq, Bool.or_true, Bool.true_or, Bool.or_false, Bool.false_or])
/-- a beat -/
def aBt (A : zzMd) (o : Nat) : zzMd := zz_sI (aCh A o 27 1).2 16 o ((aCh A o 27 1).2.1 1 7)
theorem g_beat (hA : nz A = A) (H : Rel A R) {o : Nat} (ho : o < nv A 1) (hk : row A o 23 = 4) (hng : ¬ row A o 25 = 4) (hb : (aCh A o 27 1).1 = true) :
    kW fX11_beat [.ref 0, .int (zn o)] A (zb (decide (row A o 27 = 1))) (aBt A o) := kW_of hA fun M hM => by
  subst hM
  have h1 := h_req H ho
  have h2 := h_rK H ho hk
  have wg := (h_rd H ho).2.2.2.2.2.2.2
  have w27 := (h_rd H ho).2.2.2.2.1
  have h60 := lt_n60 H.1 (o := o) ho
  obtain ⟨M2, c1, c2⟩ := sp_change (h_nv H).1 h60 (k := 27) (by decide) 1
  rw [hb] at c1
  have c1' : fX9_change [.ref 1, .int (zn o), .int 27, .int 1] M = some (.inl (some (.int 1)), M2) := c1
  have b1 : zz_inb (zn o) 60 = true := zn_inT h60 (by decide)
  have x1 : zz_ix (zn o) = o := zn_ix (by omega)
  refine ⟨zz_sI M2 16 o (M2.1 1 7), ?_, ?_⟩
  · rw [s_X11_beat]
    clear c2 c1
    by_cases e : row (nz M) o 27 = 1 <;> (simp only [e_X11_beat, zo_iload, zo_lload, zo_aload, zo_istore, zo_lstore, zo_astore, zo_iinc, zo_pushI, zo_pushL, zo_null, zo_ii, zo_iid, zo_ll, zo_li, zo_lcmp, zo_i2l, zo_l2i, zo_dup, zo_dup2, zo_pop, zo_goto, zo_if, zo_icmp, zo_ifnull, zo_gets, zo_mm, zo_throw, zo_ret, zo_aret, zo_lret, q_iret_f, q_iret_1, q_iret_0, q_iret_b, q_c8_0, q_c8_1, q_c8_2, q_c8_3, q_c8_4, q_set_0, q_set_1i, q_set_1r, q_set_1n, q_set_1N, q_set_s, q_set_1j, q_bk_v, q_bk_n, q_if, zb_ite, cond_true, cond_false, List.getElem?_cons_zero, List.getElem?_cons_succ, Nat.reduceAdd, q_bx_v, q_bx_n, q_bx_x, h1, h2, w27, e, wg, hng, c1', b1, x1, q_aC, if_true, if_false, zb_eq0, zb_eq1, zn_1, not_true_eq_false, not_false_eq_true, ite_true, ite_false, if_true, if_false, q_iret_0, q_iret_1, decide_true, decide_false, decide_not, zb_t, zb_f, z10, z01, cond_true, cond_false, Bool.and_true, Bool.true_and, Bool.and_false, Bool.false_and, Bool.not_true, Bool.not_false, true_and, and_true, false_and, and_false, true_or, or_true, false_or, or_false, Bool.true_eq_false, Bool.false_eq_true, eq_self, reduceCtorEq, Bool.or_true, Bool.true_or, Bool.or_false, Bool.false_or])
  · rw [nz_sI rfl, c2]
    unfold aBt
    rw [show M2.1 1 7 = (nz M2).1 1 7 from rfl, c2]
/-- ticks -/
noncomputable def aTicks (A : zzMd) (n : Nat) : zzMd := zfold n (fun _ B => aTick B) A
theorem aTicks_s (A : zzMd) (n : Nat) : aTicks A (n + 1) = aTick (aTicks A n) := rfl
theorem g_tick (hA : nz A = A) (H : Rel A R) {n : Nat} (n1 : 1 ≤ n) (n2 : n ≤ 100) (hlt : now A + n ≤ 10000) : kW fX11_tick [.ref 0, .int (zn n)] A ((aTicks A n).1 1 7) (aTicks A n) := kW_of hA fun M hM => by
  subst hM
  have hlt : now M + n ≤ 10000 := hlt
  have c1 : (zn n < 1) = False := zn_lt (a := n) (b := 1) (by omega) (by decide) ▸ eq_false (by omega)
  have c2 : (zn n ≤ 100) = True := zn_le (a := n) (b := 100) (by omega) (by decide) ▸ eq_true n2
  obtain ⟨-, w4, m17⟩ := now_of H
  have es : (10000 : Int32) - zn n = zn (10000 - n) := zn_sub (a := 10000) (b := n) (by omega)
  have ld : (zn (now M) ≤ zn (10000 - n)) = True := zn_le (a := now M) (b := 10000 - n) (by omega) (by omega) ▸ eq_true (by omega)
  have lp : ∀ t, t ≤ n → ∃ M', zz_ev tX11_tick 49 [some (.ref 0), some (.int (zn n)), some (.int 0)] [] M = zz_ev tX11_tick 49 [some (.ref 0), some (.int (zn n)), some (.int (zn t))] [] M' ∧ nz M' = aTicks (nz M) t ∧ zIC M' := by
    intro t
    induction t with
    | zero => exact fun _ => ⟨M, rfl, rfl, (h_nv H).1⟩
    | succ t ih =>
      intro ht
      obtain ⟨M1, e1, e2, W1⟩ := ih (by omega)
      obtain ⟨M2, f1, f2, W2⟩ := sp_beginTick W1
      have lt : (zn n ≤ zn t) = False := zn_le (a := n) (b := t) (by omega) (by omega) ▸ eq_false (by omega)
      refine ⟨M2, e1.trans ?_, by rw [f2, e2, aTicks_s], W2⟩
      clear e1 ih
      (rw [e_X11_tick_49]; simp only [e_X11_tick, zo_iload, zo_lload, zo_aload, zo_istore, zo_lstore, zo_astore, zo_iinc, zo_pushI, zo_pushL, zo_null, zo_ii, zo_iid, zo_ll, zo_li, zo_lcmp, zo_i2l, zo_l2i, zo_dup, zo_dup2, zo_pop, zo_goto, zo_if, zo_icmp, zo_ifnull, zo_gets, zo_mm, zo_throw, zo_ret, zo_aret, zo_lret, q_iret_f, q_iret_1, q_iret_0, q_iret_b, q_c8_0, q_c8_1, q_c8_2, q_c8_3, q_c8_4, q_set_0, q_set_1i, q_set_1r, q_set_1n, q_set_1N, q_set_s, q_set_1j, q_bk_v, q_bk_n, q_if, zb_ite, cond_true, cond_false, List.getElem?_cons_zero, List.getElem?_cons_succ, Nat.reduceAdd, q_bx_v, q_bx_n, q_bx_x, lt, f1, if_true, if_false, zb_eq0, zb_eq1, zn_1, not_true_eq_false, not_false_eq_true, ite_true, ite_false, if_true, if_false, q_iret_0, q_iret_1, decide_true, decide_false, decide_not, zb_t, zb_f, z10, z01, cond_true, cond_false, Bool.and_true, Bool.true_and, Bool.and_false, Bool.false_and, Bool.not_true, Bool.not_false, true_and, and_true, false_and, and_false, true_or, or_true, false_or, or_false, Bool.true_eq_false, Bool.false_eq_true, eq_self, reduceCtorEq, Bool.or_true, Bool.true_or, Bool.or_false, Bool.false_or])
  obtain ⟨M2, e1, e2, W2⟩ := lp n (Nat.le_refl n)
  have l : (zn n ≤ zn n) = True := zk_ge n2 (by decide)
  refine ⟨M2, ?_, e2⟩
  have e17 : (aTicks (nz M) n).1 1 7 = M2.1 1 7 := by rw [← e2]; rfl
  have s1 : zz_ev tX11_tick 0 [some (.ref 0), some (.int (zn n)), none] [] M = zz_ev tX11_tick 49 [some (.ref 0), some (.int (zn n)), some (.int 0)] [] M := by
    (simp only [e_X11_tick, zo_iload, zo_lload, zo_aload, zo_istore, zo_lstore, zo_astore, zo_iinc, zo_pushI, zo_pushL, zo_null, zo_ii, zo_iid, zo_ll, zo_li, zo_lcmp, zo_i2l, zo_l2i, zo_dup, zo_dup2, zo_pop, zo_goto, zo_if, zo_icmp, zo_ifnull, zo_gets, zo_mm, zo_throw, zo_ret, zo_aret, zo_lret, q_iret_f, q_iret_1, q_iret_0, q_iret_b, q_c8_0, q_c8_1, q_c8_2, q_c8_3, q_c8_4, q_set_0, q_set_1i, q_set_1r, q_set_1n, q_set_1N, q_set_s, q_set_1j, q_bk_v, q_bk_n, q_if, zb_ite, cond_true, cond_false, List.getElem?_cons_zero, List.getElem?_cons_succ, Nat.reduceAdd, q_bx_v, q_bx_n, q_bx_x, c1, c2, m17, es, ld, if_true, if_false, zb_eq0, zb_eq1, zn_1, not_true_eq_false, not_false_eq_true, ite_true, ite_false, if_true, if_false, q_iret_0, q_iret_1, decide_true, decide_false, decide_not, zb_t, zb_f, z10, z01, cond_true, cond_false, Bool.and_true, Bool.true_and, Bool.and_false, Bool.false_and, Bool.not_true, Bool.not_false, true_and, and_true, false_and, and_false, true_or, or_true, false_or, or_false, Bool.true_eq_false, Bool.false_eq_true, eq_self, reduceCtorEq, Bool.or_true, Bool.true_or, Bool.or_false, Bool.false_or])
  rw [s_X11_tick, s1, e1, e17]
  clear s1 e1 lp
  (rw [e_X11_tick_49]; simp only [e_X11_tick, zo_iload, zo_lload, zo_aload, zo_istore, zo_lstore, zo_astore, zo_iinc, zo_pushI, zo_pushL, zo_null, zo_ii, zo_iid, zo_ll, zo_li, zo_lcmp, zo_i2l, zo_l2i, zo_dup, zo_dup2, zo_pop, zo_goto, zo_if, zo_icmp, zo_ifnull, zo_gets, zo_mm, zo_throw, zo_ret, zo_aret, zo_lret, q_iret_f, q_iret_1, q_iret_0, q_iret_b, q_c8_0, q_c8_1, q_c8_2, q_c8_3, q_c8_4, q_set_0, q_set_1i, q_set_1r, q_set_1n, q_set_1N, q_set_s, q_set_1j, q_bk_v, q_bk_n, q_if, zb_ite, cond_true, cond_false, List.getElem?_cons_zero, List.getElem?_cons_succ, Nat.reduceAdd, q_bx_v, q_bx_n, q_bx_x, l, if_true, if_false, zb_eq0, zb_eq1, zn_1, not_true_eq_false, not_false_eq_true, ite_true, ite_false, if_true, if_false, q_iret_0, q_iret_1, decide_true, decide_false, decide_not, zb_t, zb_f, z10, z01, cond_true, cond_false, Bool.and_true, Bool.true_and, Bool.and_false, Bool.false_and, Bool.not_true, Bool.not_false, true_and, and_true, false_and, and_false, true_or, or_true, false_or, or_false, Bool.true_eq_false, Bool.false_eq_true, eq_self, reduceCtorEq, Bool.or_true, Bool.true_or, Bool.or_false, Bool.false_or])
/-- a controller sees; the keys that come -/
noncomputable def seeV (A : zzMd) (c m : Nat) : Int32 := (aLook A c m).1 (3 + c) 11 - A.1 (3 + c) 11
theorem g_see (hA : nz A = A) (H : Rel A R) {c m : Nat} (hc : c < 8) (m1 : 1 ≤ m) (m2 : m ≤ 400) : kW fX11_see [.ref 0, .int (zn c), .int (zn m)] A ((aLook A c m).1 (3 + c) 11 - A.1 (3 + c) 11) (aLook A c m) := kW_of hA fun M hM => by
  subst hM
  have HM := Rel_nz.mp H
  have hl := sp_look HM.1.1.2 (zLg_of HM.1) hc m2
  have a1 := h_at hc
  have c1 : (zn m < 1) = False := zn_lt (a := m) (b := 1) (by omega) (by decide) ▸ eq_false (by omega)
  have c2 : (zn m ≤ 400) = True := zn_le (a := m) (b := 400) (by omega) (by decide) ▸ eq_true m2
  refine ⟨aLook M c m, ?_, nz_Look hc M m⟩
  rw [← nz_Look hc, nz_1 (cdead hc).1, nz_1 (cdead hc).1, s_X11_see]
  generalize (aLook M c m).1 (3 + c) 11 - M.1 (3 + c) 11 = v at *
  generalize aLook M c m = M2 at *
  clear H HM hA
  rcases zc8 hc with rfl | rfl | rfl | rfl | rfl | rfl | rfl | rfl <;> (simp only [Nat.reduceAdd, Nat.reduceMul, Nat.mul_zero, Nat.add_zero] at *; simp only [e_X11_see, zo_iload, zo_lload, zo_aload, zo_istore, zo_lstore, zo_astore, zo_iinc, zo_pushI, zo_pushL, zo_null, zo_ii, zo_iid, zo_ll, zo_li, zo_lcmp, zo_i2l, zo_l2i, zo_dup, zo_dup2, zo_pop, zo_goto, zo_if, zo_icmp, zo_ifnull, zo_gets, zo_mm, zo_throw, zo_ret, zo_aret, zo_lret, q_iret_f, q_iret_1, q_iret_0, q_iret_b, q_c8_0, q_c8_1, q_c8_2, q_c8_3, q_c8_4, q_set_0, q_set_1i, q_set_1r, q_set_1n, q_set_1N, q_set_s, q_set_1j, q_bk_v, q_bk_n, q_if, zb_ite, cond_true, cond_false, List.getElem?_cons_zero, List.getElem?_cons_succ, Nat.reduceAdd, q_bx_v, q_bx_n, q_bx_x, a1, c1, c2, hl, if_true, if_false, zb_eq0, zb_eq1, zn_1, not_true_eq_false, not_false_eq_true, ite_true, ite_false, if_true, if_false, q_iret_0, q_iret_1, decide_true, decide_false, decide_not, zb_t, zb_f, z10, z01, cond_true, cond_false, Bool.and_true, Bool.true_and, Bool.and_false, Bool.false_and, Bool.not_true, Bool.not_false, true_and, and_true, false_and, and_false, true_or, or_true, false_or, or_false, Bool.true_eq_false, Bool.false_eq_true, eq_self, reduceCtorEq, Bool.or_true, Bool.true_or, Bool.or_false, Bool.false_or])
theorem k_work (H : Rel (nz M) R) {c : Nat} (hc : c < 8) : ∃ M', fX2_workOnce [.ref (3 + c)] M = some (.inl (some (.int (aWork (nz M) c).1)), M') ∧ nz M' = (aWork (nz M) c).2 := by
  have HM := Rel_nz.mp H
  have H2 : Rel (nz M) (zz_sI R 0 42 (zn c)) := Rel_42 H
  have HM2 := Rel_nz.mp H2
  have W := HM.1.1.2
  have hS : ∀ p, zfst (qn M c) (kdue M c) = some p → zSv c (aTk M c p) (qk M c p) := fun p hp => by
    obtain ⟨q1, q2, -⟩ := zfst_some hp
    have ht := Rl0_take (A := M) ⟨HM2.1, sI_e, hc⟩ q1 q2
    exact zSv_of ht.1.1 hc ((W.2.2 c hc).2.2 p q1).2
  obtain ⟨M', a1, a2, -⟩ := sp_workOnce W hc hS
  exact ⟨M', a1, a2⟩
theorem Rel_work (H : Rel A R) {c : Nat} (hc : c < 8) : ∃ R', Rel (aWork A c).2 R' := by
  have H2 : Rel A (zz_sI R 0 42 (zn c)) := Rel_42 H
  obtain ⟨R', p1, p2, p3⟩ := r_works ⟨H2.1, sI_e, hc⟩ H2.2
  exact ⟨R', p2.1, p3⟩
theorem Rel_look (hA : nz A = A) (H : Rel A R) {c m : Nat} (hc : c < 8) (hm : m ≤ 400) : ∃ R', Rel (aLook A c m) R' := by
  have H' : Rel (nz A) R := by rw [hA]; exact H
  obtain ⟨R', -, -, h, -⟩ := h_sees H' hc hm
  rw [nz_Look hc, hA] at h
  exact ⟨R', h⟩
theorem g_work (hA : nz A = A) (H : Rel A R) {c : Nat} (hc : c < 8) : kW fX11_work [.ref 0, .int (zn c)] A (aWork A c).1 (aWork A c).2 := kW_of hA fun M hM => by
  subst hM
  obtain ⟨M', b1, b2⟩ := k_work H hc
  have a1 := h_at hc
  refine ⟨M', ?_, b2⟩
  rw [s_X11_work]
  generalize (aWork (nz M) c).1 = v at *
  clear b2 H hA
  rcases zc8 hc with rfl | rfl | rfl | rfl | rfl | rfl | rfl | rfl <;> (simp only [Nat.reduceAdd, Nat.reduceMul, Nat.mul_zero, Nat.add_zero] at *; simp only [e_X11_work, zo_iload, zo_lload, zo_aload, zo_istore, zo_lstore, zo_astore, zo_iinc, zo_pushI, zo_pushL, zo_null, zo_ii, zo_iid, zo_ll, zo_li, zo_lcmp, zo_i2l, zo_l2i, zo_dup, zo_dup2, zo_pop, zo_goto, zo_if, zo_icmp, zo_ifnull, zo_gets, zo_mm, zo_throw, zo_ret, zo_aret, zo_lret, q_iret_f, q_iret_1, q_iret_0, q_iret_b, q_c8_0, q_c8_1, q_c8_2, q_c8_3, q_c8_4, q_set_0, q_set_1i, q_set_1r, q_set_1n, q_set_1N, q_set_s, q_set_1j, q_bk_v, q_bk_n, q_if, zb_ite, cond_true, cond_false, List.getElem?_cons_zero, List.getElem?_cons_succ, Nat.reduceAdd, q_bx_v, q_bx_n, q_bx_x, a1, b1, if_true, if_false, zb_eq0, zb_eq1, zn_1, not_true_eq_false, not_false_eq_true, ite_true, ite_false, if_true, if_false, q_iret_0, q_iret_1, decide_true, decide_false, decide_not, zb_t, zb_f, z10, z01, cond_true, cond_false, Bool.and_true, Bool.true_and, Bool.and_false, Bool.false_and, Bool.not_true, Bool.not_false, true_and, and_true, false_and, and_false, true_or, or_true, false_or, or_false, Bool.true_eq_false, Bool.false_eq_true, eq_self, reduceCtorEq, Bool.or_true, Bool.true_or, Bool.or_false, Bool.false_or])
/-- readers, the log's beginning -/
theorem g_watch (hA : nz A = A) (H : Rel A R) {r k q : Nat} (hr : r < 4) (hk : k ≤ ve A 1) (hq : A.1 1 8 = zn q) (hq2 : q ≤ ve A 1) : lz_g fX11_watch [.ref 0, .int (zn r), .int (zn k)] A = if q ≤ k then some (.inl (some (.int (zn (ve A 1) - zn k))), zz_sI A 12 r (zn k)) else some (.inr 1, A) := by
  by_cases d : q ≤ k
  · rw [if_pos d]
    refine kW_of hA fun M hM => ?_
    subst hM
    have hk : k ≤ ve M 1 := hk
    obtain ⟨h13, h400, -⟩ := h_ve H
    have a1 := k_reader1 hr M
    have l0 : (zn k < 0) = False := zn_lt0 (by omega)
    have l1 : (zn k ≤ zn (ve M 1)) = True := zn_le (a := k) (b := ve M 1) (by omega) (by omega) ▸ eq_true hk
    have ld : (zn q ≤ zn k) = True := zn_le (a := q) (b := k) (by omega) (by omega) ▸ eq_true d
    have b0 := bx (n := r) (m := 4) hr (by decide)
    have z1 : ∀ (M : zzMd) (k : Nat) (x : Int32), (zz_sI M 12 k x).1 1 3 = M.1 1 3 := fun _ _ _ => rfl
    have q2 : M.1 1 8 = zn q := hq
    refine ⟨zz_sI M 12 r (zn k), ?_, nz_sI rfl⟩
    rw [s_X11_watch]
    show _ = some (Sum.inl (some (Value.int (zn (ve M 1) - zn k))), zz_sI M 12 r (zn k))
    (simp only [e_X11_watch, zo_iload, zo_lload, zo_aload, zo_istore, zo_lstore, zo_astore, zo_iinc, zo_pushI, zo_pushL, zo_null, zo_ii, zo_iid, zo_ll, zo_li, zo_lcmp, zo_i2l, zo_l2i, zo_dup, zo_dup2, zo_pop, zo_goto, zo_if, zo_icmp, zo_ifnull, zo_gets, zo_mm, zo_throw, zo_ret, zo_aret, zo_lret, q_iret_f, q_iret_1, q_iret_0, q_iret_b, q_c8_0, q_c8_1, q_c8_2, q_c8_3, q_c8_4, q_set_0, q_set_1i, q_set_1r, q_set_1n, q_set_1N, q_set_s, q_set_1j, q_bk_v, q_bk_n, q_if, zb_ite, cond_true, cond_false, List.getElem?_cons_zero, List.getElem?_cons_succ, Nat.reduceAdd, q_bx_v, q_bx_n, q_bx_x, a1, l0, h13, l1, q2, ld, b0, q_aC, z1, if_true, if_false, zb_eq0, zb_eq1, zn_1, not_true_eq_false, not_false_eq_true, ite_true, ite_false, if_true, if_false, q_iret_0, q_iret_1, decide_true, decide_false, decide_not, zb_t, zb_f, z10, z01, cond_true, cond_false, Bool.and_true, Bool.true_and, Bool.and_false, Bool.false_and, Bool.not_true, Bool.not_false, true_and, and_true, false_and, and_false, true_or, or_true, false_or, or_false, Bool.true_eq_false, Bool.false_eq_true, eq_self, reduceCtorEq, Bool.or_true, Bool.true_or, Bool.or_false, Bool.false_or])
  · rw [if_neg d]
    refine kX_same hA fun M hM => ?_
    subst hM
    have hk : k ≤ ve M 1 := hk
    have hq2 : q ≤ ve M 1 := hq2
    obtain ⟨h13, h400, -⟩ := h_ve H
    have a1 := k_reader1 hr M
    have l0 : (zn k < 0) = False := zn_lt0 (by omega)
    have l1 : (zn k ≤ zn (ve M 1)) = True := zn_le (a := k) (b := ve M 1) (by omega) (by omega) ▸ eq_true hk
    have ld : (zn q ≤ zn k) = False := zn_le (a := q) (b := k) (by omega) (by omega) ▸ eq_false d
    have q2 : M.1 1 8 = zn q := hq
    rw [s_X11_watch]
    (simp only [e_X11_watch, zo_iload, zo_lload, zo_aload, zo_istore, zo_lstore, zo_astore, zo_iinc, zo_pushI, zo_pushL, zo_null, zo_ii, zo_iid, zo_ll, zo_li, zo_lcmp, zo_i2l, zo_l2i, zo_dup, zo_dup2, zo_pop, zo_goto, zo_if, zo_icmp, zo_ifnull, zo_gets, zo_mm, zo_throw, zo_ret, zo_aret, zo_lret, q_iret_f, q_iret_1, q_iret_0, q_iret_b, q_c8_0, q_c8_1, q_c8_2, q_c8_3, q_c8_4, q_set_0, q_set_1i, q_set_1r, q_set_1n, q_set_1N, q_set_s, q_set_1j, q_bk_v, q_bk_n, q_if, zb_ite, cond_true, cond_false, List.getElem?_cons_zero, List.getElem?_cons_succ, Nat.reduceAdd, q_bx_v, q_bx_n, q_bx_x, a1, l0, h13, l1, q2, ld, if_true, if_false, zb_eq0, zb_eq1, zn_1, not_true_eq_false, not_false_eq_true, ite_true, ite_false, if_true, if_false, q_iret_0, q_iret_1, decide_true, decide_false, decide_not, zb_t, zb_f, z10, z01, cond_true, cond_false, Bool.and_true, Bool.true_and, Bool.and_false, Bool.false_and, Bool.not_true, Bool.not_false, true_and, and_true, false_and, and_false, true_or, or_true, false_or, or_false, Bool.true_eq_false, Bool.false_eq_true, eq_self, reduceCtorEq, Bool.or_true, Bool.true_or, Bool.or_false, Bool.false_or])
theorem g_next (hA : nz A = A) (H : Rel A R) {r k q : Nat} (hr : r < 4) (hk : A.1 12 r = zn k) (hk2 : k ≤ ve A 1) (hq : A.1 1 8 = zn q) (hq2 : q ≤ ve A 1) : lz_g fX11_next [.ref 0, .int (zn r)] A = if k = ve A 1 then some (.inl (some (.int (-1))), A) else if k < q then some (.inr 1, A) else some (.inl (some (.int (zn (obj A (k + 1))))), zz_sI A 12 r (zn (k + 1))) := by
  by_cases dv : k = ve A 1
  · rw [if_pos dv]
    refine kV_of hA fun M hM => ?_
    subst hM
    obtain ⟨h13, h400, -⟩ := h_ve H
    have dv : k = ve M 1 := dv
    have a1 := k_reader1 hr M
    have b0 := bx (n := r) (m := 4) hr (by decide)
    have k2 : M.1 12 r = zn k := hk
    have lv : (zn k < zn (ve M 1)) = False := zn_lt (a := k) (b := ve M 1) (by omega) (by omega) ▸ eq_false (by omega)
    rw [s_X11_next]
    (simp only [e_X11_next, zo_iload, zo_lload, zo_aload, zo_istore, zo_lstore, zo_astore, zo_iinc, zo_pushI, zo_pushL, zo_null, zo_ii, zo_iid, zo_ll, zo_li, zo_lcmp, zo_i2l, zo_l2i, zo_dup, zo_dup2, zo_pop, zo_goto, zo_if, zo_icmp, zo_ifnull, zo_gets, zo_mm, zo_throw, zo_ret, zo_aret, zo_lret, q_iret_f, q_iret_1, q_iret_0, q_iret_b, q_c8_0, q_c8_1, q_c8_2, q_c8_3, q_c8_4, q_set_0, q_set_1i, q_set_1r, q_set_1n, q_set_1N, q_set_s, q_set_1j, q_bk_v, q_bk_n, q_if, zb_ite, cond_true, cond_false, List.getElem?_cons_zero, List.getElem?_cons_succ, Nat.reduceAdd, q_bx_v, q_bx_n, q_bx_x, a1, b0, q_aC, k2, h13, lv, if_true, if_false, zb_eq0, zb_eq1, zn_1, not_true_eq_false, not_false_eq_true, ite_true, ite_false, if_true, if_false, q_iret_0, q_iret_1, decide_true, decide_false, decide_not, zb_t, zb_f, z10, z01, cond_true, cond_false, Bool.and_true, Bool.true_and, Bool.and_false, Bool.false_and, Bool.not_true, Bool.not_false, true_and, and_true, false_and, and_false, true_or, or_true, false_or, or_false, Bool.true_eq_false, Bool.false_eq_true, eq_self, reduceCtorEq, Bool.or_true, Bool.true_or, Bool.or_false, Bool.false_or])
  · rw [if_neg dv]
    by_cases d : k < q
    · rw [if_pos d]
      refine kX_same hA fun M hM => ?_
      subst hM
      obtain ⟨h13, h400, -⟩ := h_ve H
      have dv : ¬ k = ve M 1 := dv
      have hk2 : k ≤ ve M 1 := hk2
      have hq2 : q ≤ ve M 1 := hq2
      have a1 := k_reader1 hr M
      have b0 := bx (n := r) (m := 4) hr (by decide)
      have k2 : M.1 12 r = zn k := hk
      have q2 : M.1 1 8 = zn q := hq
      have lv : (zn k < zn (ve M 1)) = True := zn_lt (a := k) (b := ve M 1) (by omega) (by omega) ▸ eq_true (by omega)
      have ld : (zn q ≤ zn k) = False := zn_le (a := q) (b := k) (by omega) (by omega) ▸ eq_false (by omega)
      rw [s_X11_next]
      (simp only [e_X11_next, zo_iload, zo_lload, zo_aload, zo_istore, zo_lstore, zo_astore, zo_iinc, zo_pushI, zo_pushL, zo_null, zo_ii, zo_iid, zo_ll, zo_li, zo_lcmp, zo_i2l, zo_l2i, zo_dup, zo_dup2, zo_pop, zo_goto, zo_if, zo_icmp, zo_ifnull, zo_gets, zo_mm, zo_throw, zo_ret, zo_aret, zo_lret, q_iret_f, q_iret_1, q_iret_0, q_iret_b, q_c8_0, q_c8_1, q_c8_2, q_c8_3, q_c8_4, q_set_0, q_set_1i, q_set_1r, q_set_1n, q_set_1N, q_set_s, q_set_1j, q_bk_v, q_bk_n, q_if, zb_ite, cond_true, cond_false, List.getElem?_cons_zero, List.getElem?_cons_succ, Nat.reduceAdd, q_bx_v, q_bx_n, q_bx_x, a1, b0, q_aC, k2, h13, lv, q2, ld, if_true, if_false, zb_eq0, zb_eq1, zn_1, not_true_eq_false, not_false_eq_true, ite_true, ite_false, if_true, if_false, q_iret_0, q_iret_1, decide_true, decide_false, decide_not, zb_t, zb_f, z10, z01, cond_true, cond_false, Bool.and_true, Bool.true_and, Bool.and_false, Bool.false_and, Bool.not_true, Bool.not_false, true_and, and_true, false_and, and_false, true_or, or_true, false_or, or_false, Bool.true_eq_false, Bool.false_eq_true, eq_self, reduceCtorEq, Bool.or_true, Bool.true_or, Bool.or_false, Bool.false_or])
    · rw [if_neg d]
      refine kW_of hA fun M hM => ?_
      subst hM
      obtain ⟨h13, h400, -⟩ := h_ve H
      have dv : ¬ k = ve M 1 := dv
      have hk2 : k ≤ ve M 1 := hk2
      have hq2 : q ≤ ve M 1 := hq2
      have a1 := k_reader1 hr M
      have b0 := bx (n := r) (m := 4) hr (by decide)
      have k2 : M.1 12 r = zn k := hk
      have q2 : M.1 1 8 = zn q := hq
      have lv : (zn k < zn (ve M 1)) = True := zn_lt (a := k) (b := ve M 1) (by omega) (by omega) ▸ eq_true (by omega)
      have ld : (zn q ≤ zn k) = True := zn_le (a := q) (b := k) (by omega) (by omega) ▸ eq_true (by omega)
      have HM := Rel_nz.mp H
      have W2 : zIC (zz_sI M 12 r (zn (k + 1))) := (Rel_12 HM (r := r) (k := k + 1) (by omega)).1.1.2
      have rr := HM.1.2.1.2.1 (k + 1) (by omega) (by omega)
      have hob := sp_objectAt (M := zz_sI M 12 r (zn (k + 1))) (zIC_1 W2) (zn (k + 1))
      have c1 : (zn (k + 1) < 1) = False := zn_lt (a := k + 1) (b := 1) (by omega) (by decide) ▸ eq_false (by omega)
      have c4 : ((400 : Int32) < zn (k + 1)) = False := zn_lt (a := 400) (b := k + 1) (by decide) (by omega) ▸ eq_false (by omega)
      rw [if_neg (fun z => z.elim c1.mp c4.mp), zn_ix (by omega)] at hob
      have e : (zz_sI M 12 r (zn (k + 1))).1 14 ((k + 1) * 32 + 22) = zn (obj M (k + 1)) := rr.2.1
      rw [e] at hob
      have z1 : (zz_sI M 12 r (zn (k + 1))).1 12 r = zn (k + 1) := sI_e
      refine ⟨zz_sI M 12 r (zn (k + 1)), ?_, nz_sI rfl⟩
      rw [s_X11_next]
      show _ = some (Sum.inl (some (Value.int (zn (obj M (k + 1))))), zz_sI M 12 r (zn (k + 1)))
      (simp only [e_X11_next, zo_iload, zo_lload, zo_aload, zo_istore, zo_lstore, zo_astore, zo_iinc, zo_pushI, zo_pushL, zo_null, zo_ii, zo_iid, zo_ll, zo_li, zo_lcmp, zo_i2l, zo_l2i, zo_dup, zo_dup2, zo_pop, zo_goto, zo_if, zo_icmp, zo_ifnull, zo_gets, zo_mm, zo_throw, zo_ret, zo_aret, zo_lret, q_iret_f, q_iret_1, q_iret_0, q_iret_b, q_c8_0, q_c8_1, q_c8_2, q_c8_3, q_c8_4, q_set_0, q_set_1i, q_set_1r, q_set_1n, q_set_1N, q_set_s, q_set_1j, q_bk_v, q_bk_n, q_if, zb_ite, cond_true, cond_false, List.getElem?_cons_zero, List.getElem?_cons_succ, Nat.reduceAdd, q_bx_v, q_bx_n, q_bx_x, a1, b0, q_aC, k2, h13, lv, q2, ld, zn_1, z1, hob, if_true, if_false, zb_eq0, zb_eq1, zn_1, not_true_eq_false, not_false_eq_true, ite_true, ite_false, if_true, if_false, q_iret_0, q_iret_1, decide_true, decide_false, decide_not, zb_t, zb_f, z10, z01, cond_true, cond_false, Bool.and_true, Bool.true_and, Bool.and_false, Bool.false_and, Bool.not_true, Bool.not_false, true_and, and_true, false_and, and_false, true_or, or_true, false_or, or_false, Bool.true_eq_false, Bool.false_eq_true, eq_self, reduceCtorEq, Bool.or_true, Bool.true_or, Bool.or_false, Bool.false_or])
theorem g_compact (hA : nz A = A) (H : Rel A R) {k q : Nat} (hk : k ≤ ve A 1) (hq : A.1 1 8 = zn q) (hq2 : q ≤ ve A 1) : kW fX11_compact [.ref 0, .int (zn k)] A (zn (Nat.max q k)) (zz_sI A 1 8 (zn (Nat.max q k))) := kW_of hA fun M hM => by
  subst hM
  have hk : k ≤ ve M 1 := hk
  have hq2 : q ≤ ve M 1 := hq2
  obtain ⟨h13, h400, -⟩ := h_ve H
  have l0 : (zn k < 0) = False := zn_lt0 (by omega)
  have l1 : (zn k ≤ zn (ve M 1)) = True := zn_le (a := k) (b := ve M 1) (by omega) (by omega) ▸ eq_true hk
  have z1 : ∀ (M : zzMd) (x : Int32), (zz_sI M 1 8 x).1 1 8 = x := fun _ _ => rfl
  have q2 : M.1 1 8 = zn q := hq
  refine ⟨zz_sI M 1 8 (zn (Nat.max q k)), ?_, nz_sI rfl⟩
  rw [s_X11_compact]
  by_cases d : q < k
  · have le : (zn q < zn k) = True := zn_lt (a := q) (b := k) (by omega) (by omega) ▸ eq_true d
    rw [show Nat.max q k = k from Nat.max_eq_right (by omega)]
    (simp only [e_X11_compact, zo_iload, zo_lload, zo_aload, zo_istore, zo_lstore, zo_astore, zo_iinc, zo_pushI, zo_pushL, zo_null, zo_ii, zo_iid, zo_ll, zo_li, zo_lcmp, zo_i2l, zo_l2i, zo_dup, zo_dup2, zo_pop, zo_goto, zo_if, zo_icmp, zo_ifnull, zo_gets, zo_mm, zo_throw, zo_ret, zo_aret, zo_lret, q_iret_f, q_iret_1, q_iret_0, q_iret_b, q_c8_0, q_c8_1, q_c8_2, q_c8_3, q_c8_4, q_set_0, q_set_1i, q_set_1r, q_set_1n, q_set_1N, q_set_s, q_set_1j, q_bk_v, q_bk_n, q_if, zb_ite, cond_true, cond_false, List.getElem?_cons_zero, List.getElem?_cons_succ, Nat.reduceAdd, q_bx_v, q_bx_n, q_bx_x, l0, h13, l1, q2, le, z1, if_true, if_false, zb_eq0, zb_eq1, zn_1, not_true_eq_false, not_false_eq_true, ite_true, ite_false, if_true, if_false, q_iret_0, q_iret_1, decide_true, decide_false, decide_not, zb_t, zb_f, z10, z01, cond_true, cond_false, Bool.and_true, Bool.true_and, Bool.and_false, Bool.false_and, Bool.not_true, Bool.not_false, true_and, and_true, false_and, and_false, true_or, or_true, false_or, or_false, Bool.true_eq_false, Bool.false_eq_true, eq_self, reduceCtorEq, Bool.or_true, Bool.true_or, Bool.or_false, Bool.false_or])
  · have le : (zn q < zn k) = False := zn_lt (a := q) (b := k) (by omega) (by omega) ▸ eq_false d
    rw [show Nat.max q k = q from Nat.max_eq_left (by omega)]
    (simp only [e_X11_compact, zo_iload, zo_lload, zo_aload, zo_istore, zo_lstore, zo_astore, zo_iinc, zo_pushI, zo_pushL, zo_null, zo_ii, zo_iid, zo_ll, zo_li, zo_lcmp, zo_i2l, zo_l2i, zo_dup, zo_dup2, zo_pop, zo_goto, zo_if, zo_icmp, zo_ifnull, zo_gets, zo_mm, zo_throw, zo_ret, zo_aret, zo_lret, q_iret_f, q_iret_1, q_iret_0, q_iret_b, q_c8_0, q_c8_1, q_c8_2, q_c8_3, q_c8_4, q_set_0, q_set_1i, q_set_1r, q_set_1n, q_set_1N, q_set_s, q_set_1j, q_bk_v, q_bk_n, q_if, zb_ite, cond_true, cond_false, List.getElem?_cons_zero, List.getElem?_cons_succ, Nat.reduceAdd, q_bx_v, q_bx_n, q_bx_x, l0, h13, l1, q2, le, z1, if_true, if_false, zb_eq0, zb_eq1, zn_1, not_true_eq_false, not_false_eq_true, ite_true, ite_false, if_true, if_false, q_iret_0, q_iret_1, decide_true, decide_false, decide_not, zb_t, zb_f, z10, z01, cond_true, cond_false, Bool.and_true, Bool.true_and, Bool.and_false, Bool.false_and, Bool.not_true, Bool.not_false, true_and, and_true, false_and, and_false, true_or, or_true, false_or, or_false, Bool.true_eq_false, Bool.false_eq_true, eq_self, reduceCtorEq, Bool.or_true, Bool.true_or, Bool.or_false, Bool.false_or])
theorem g_list (hA : nz A = A) (H : Rel A R) {r : Nat} (hr : r < 4) : kW fX11_list [.ref 0, .int (zn r)] A (zn (zcnt (nv A 1) fun i => !gone A 1 (zn i))) (zz_sI A 12 r (zn (ve A 1))) := kW_of hA fun M hM => by
  subst hM
  have HM := Rel_nz.mp H
  obtain ⟨h13, h400, -⟩ := h_ve H
  have a1 := k_reader1 hr M
  have b0 := bx (n := r) (m := 4) hr (by decide)
  have H1 := Rel_12 HM (r := r) (k := ve M 1) (Nat.le_refl _)
  have w1 := l_listC (x := zn r) H1.1.1.2
  have hn : nv (zz_sI M 12 r (zn (ve M 1))) 1 ≤ 60 := rl_n60 H1.1
  have l : (zn (nv (zz_sI M 12 r (zn (ve M 1))) 1) ≤ zn (nv (zz_sI M 12 r (zn (ve M 1))) 1)) = True := zk_out hn
  have h12 : (zz_sI M 12 r (zn (ve M 1))).1 1 2 = zn (nv (zz_sI M 12 r (zn (ve M 1))) 1) := H1.1.1.2.1.2.1.1
  have s1 : zz_ev tX11_list 0 [some (.ref 0), some (.int (zn r)), none, none] [] M = zz_ev tX11_list 34 [some (.ref 0), some (.int (zn r)), some (.int 0), some (.int 0)] [] (zz_sI M 12 r (zn (ve M 1))) := by
    (simp only [e_X11_list, zo_iload, zo_lload, zo_aload, zo_istore, zo_lstore, zo_astore, zo_iinc, zo_pushI, zo_pushL, zo_null, zo_ii, zo_iid, zo_ll, zo_li, zo_lcmp, zo_i2l, zo_l2i, zo_dup, zo_dup2, zo_pop, zo_goto, zo_if, zo_icmp, zo_ifnull, zo_gets, zo_mm, zo_throw, zo_ret, zo_aret, zo_lret, q_iret_f, q_iret_1, q_iret_0, q_iret_b, q_c8_0, q_c8_1, q_c8_2, q_c8_3, q_c8_4, q_set_0, q_set_1i, q_set_1r, q_set_1n, q_set_1N, q_set_s, q_set_1j, q_bk_v, q_bk_n, q_if, zb_ite, cond_true, cond_false, List.getElem?_cons_zero, List.getElem?_cons_succ, Nat.reduceAdd, q_bx_v, q_bx_n, q_bx_x, a1, b0, q_aC, h13, if_true, if_false, zb_eq0, zb_eq1, zn_1, not_true_eq_false, not_false_eq_true, ite_true, ite_false, if_true, if_false, q_iret_0, q_iret_1, decide_true, decide_false, decide_not, zb_t, zb_f, z10, z01, cond_true, cond_false, Bool.and_true, Bool.true_and, Bool.and_false, Bool.false_and, Bool.not_true, Bool.not_false, true_and, and_true, false_and, and_false, true_or, or_true, false_or, or_false, Bool.true_eq_false, Bool.false_eq_true, eq_self, reduceCtorEq, Bool.or_true, Bool.true_or, Bool.or_false, Bool.false_or])
  refine ⟨zz_sI M 12 r (zn (ve M 1)), ?_, nz_sI rfl⟩
  have ec : (zcnt (nv (nz M) 1) fun i => !gone (nz M) 1 (zn i)) = zcnt (nv (zz_sI M 12 r (zn (ve M 1))) 1) fun i => !gone (zz_sI M 12 r (zn (ve M 1))) 1 (zn i) := zcnt_congr fun i hi => by
    rw [gone_nz (Or.inl rfl)]; rfl
  rw [s_X11_list, s1, ec]
  refine (w1.trans ?_)
  generalize zz_sI M 12 r (zn (ve M 1)) = M1 at *
  (rw [e_X11_list_34]; simp only [e_X11_list, zo_iload, zo_lload, zo_aload, zo_istore, zo_lstore, zo_astore, zo_iinc, zo_pushI, zo_pushL, zo_null, zo_ii, zo_iid, zo_ll, zo_li, zo_lcmp, zo_i2l, zo_l2i, zo_dup, zo_dup2, zo_pop, zo_goto, zo_if, zo_icmp, zo_ifnull, zo_gets, zo_mm, zo_throw, zo_ret, zo_aret, zo_lret, q_iret_f, q_iret_1, q_iret_0, q_iret_b, q_c8_0, q_c8_1, q_c8_2, q_c8_3, q_c8_4, q_set_0, q_set_1i, q_set_1r, q_set_1n, q_set_1N, q_set_s, q_set_1j, q_bk_v, q_bk_n, q_if, zb_ite, cond_true, cond_false, List.getElem?_cons_zero, List.getElem?_cons_succ, Nat.reduceAdd, q_bx_v, q_bx_n, q_bx_x, h12, l, if_true, if_false, zb_eq0, zb_eq1, zn_1, not_true_eq_false, not_false_eq_true, ite_true, ite_false, if_true, if_false, q_iret_0, q_iret_1, decide_true, decide_false, decide_not, zb_t, zb_f, z10, z01, cond_true, cond_false, Bool.and_true, Bool.true_and, Bool.and_false, Bool.false_and, Bool.not_true, Bool.not_false, true_and, and_true, false_and, and_false, true_or, or_true, false_or, or_false, Bool.true_eq_false, Bool.false_eq_true, eq_self, reduceCtorEq, Bool.or_true, Bool.true_or, Bool.or_false, Bool.false_or])
end
end

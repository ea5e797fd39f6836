section
/-! the controllers ROUTER and SCALER -/
def pbB (A : zzMd) (t : Int32) (i : Nat) : Bool := stay A 9 (zn i) 2 && (decide (rd A 9 (zn i) 29 = 1) && decide (rd A 9 (zn i) 1 = t))
def pbs (A : zzMd) (t : Int32) (f m : Nat) : Int32 := zfold m (fun k b => bif pbB A t (f + k) then b ||| (1 <<< (zn k &&& 31)) else b) 0
theorem pbs_s (A : zzMd) (t : Int32) (f m : Nat) : pbs A t f (m + 1) = bif pbB A t (f + m) then pbs A t f m ||| (1 <<< (zn m &&& 31)) else pbs A t f m := rfl
theorem sp_podsBehind {M : zzMd} (W : zVw M 9 (nv M 9)) (x : Int32) {f : Nat} (hf : f ≤ 30) : fX5_podsBehind [.ref 9, .int x, .int (zn f)] M = some (.inl (some (.int (pbs M (rd M 9 x 1) f (min 30 (nv M 9 - f))))), M) := by
  have hr := fun x s => sp_read' W x s
  have hs := fun x k => sp_isStaying W x k
  obtain ⟨-, -, hk, hn⟩ := W
  have st : fX5_podsBehind [.ref 9, .int x, .int (zn f)] M = zz_ev tX5_podsBehind 13 [some (.ref 9), some (.int x), some (.int (zn f)), some (.int (rd M 9 x 1)), some (.int (pbs M (rd M 9 x 1) f 0)), some (.int (zn (f + 0)))] [] M := by
    rw [s_X5_podsBehind]
    (simp only [e_X5_podsBehind, zo_iload, zo_lload, zo_aload, zo_istore, zo_lstore, zo_astore, zo_iinc, zo_pushI, zo_pushL, zo_null, zo_ii, zo_iid, zo_ll, zo_li, zo_lcmp, zo_i2l, zo_l2i, zo_dup, zo_dup2, zo_pop, zo_goto, zo_if, zo_icmp, zo_ifnull, zo_gets, zo_mm, zo_throw, zo_ret, zo_aret, zo_lret, q_iret_f, q_iret_1, q_iret_0, q_iret_b, q_c8_0, q_c8_1, q_c8_2, q_c8_3, q_c8_4, q_set_0, q_set_1i, q_set_1r, q_set_1n, q_set_1N, q_set_s, q_set_1j, q_bk_v, q_bk_n, q_if, zb_ite, cond_true, cond_false, List.getElem?_cons_zero, List.getElem?_cons_succ, Nat.reduceAdd, hr, if_true, if_false, zb_eq0, zb_eq1, zn_1, not_true_eq_false, not_false_eq_true, ite_true, ite_false, if_true, if_false, q_iret_0, q_iret_1, decide_true, decide_false, decide_not, zb_t, zb_f, z10, z01, cond_true, cond_false, Bool.and_true, Bool.true_and, Bool.and_false, Bool.false_and, Bool.not_true, Bool.not_false, true_and, and_true, false_and, and_false, true_or, or_true, false_or, or_false, Bool.true_eq_false, Bool.false_eq_true, eq_self, reduceCtorEq, Bool.or_true, Bool.true_or, Bool.or_false, Bool.false_or])
    rfl
  generalize rd M 9 x 1 = t at st ⊢
  have e30 : zn f + 30 = zn (f + 30) := zn_add f 30
  have lp := zl_go (E := fun i => zz_ev tX5_podsBehind 13 [some (.ref 9), some (.int x), some (.int (zn f)), some (.int t), some (.int (pbs M t f i)), some (.int (zn (f + i)))] [] M) (min 30 (nv M 9 - f)) (fun i hi => by
    have hc : (zn (nv M 9) ≤ zn (f + i)) = False := zk_in (by omega) hn
    have hc2 : (zn (f + 30) ≤ zn (f + i)) = False := zk_in (by omega) (by omega)
    have es : zn (f + i) - zn f = zn i := by rw [zn_sub (by omega), Nat.add_sub_cancel_left]
    have ea : f + (i + 1) = f + i + 1 := rfl
    rw [pbs_s, ea]
    unfold pbB
    cases c1 : stay M 9 (zn (f + i)) 2
    · (rw [e_X5_podsBehind_13]; simp only [e_X5_podsBehind, zo_iload, zo_lload, zo_aload, zo_istore, zo_lstore, zo_astore, zo_iinc, zo_pushI, zo_pushL, zo_null, zo_ii, zo_iid, zo_ll, zo_li, zo_lcmp, zo_i2l, zo_l2i, zo_dup, zo_dup2, zo_pop, zo_goto, zo_if, zo_icmp, zo_ifnull, zo_gets, zo_mm, zo_throw, zo_ret, zo_aret, zo_lret, q_iret_f, q_iret_1, q_iret_0, q_iret_b, q_c8_0, q_c8_1, q_c8_2, q_c8_3, q_c8_4, q_set_0, q_set_1i, q_set_1r, q_set_1n, q_set_1N, q_set_s, q_set_1j, q_bk_v, q_bk_n, q_if, zb_ite, cond_true, cond_false, List.getElem?_cons_zero, List.getElem?_cons_succ, Nat.reduceAdd, hk, hc, hc2, e30, hr, hs, c1, if_true, if_false, zb_eq0, zb_eq1, zn_1, not_true_eq_false, not_false_eq_true, ite_true, ite_false, if_true, if_false, q_iret_0, q_iret_1, decide_true, decide_false, decide_not, zb_t, zb_f, z10, z01, cond_true, cond_false, Bool.and_true, Bool.true_and, Bool.and_false, Bool.false_and, Bool.not_true, Bool.not_false, true_and, and_true, false_and, and_false, true_or, or_true, false_or, or_false, Bool.true_eq_false, Bool.false_eq_true, eq_self, reduceCtorEq, Bool.or_true, Bool.true_or, Bool.or_false, Bool.false_or])
    · by_cases c2 : rd M 9 (zn (f + i)) 29 = 1
      · by_cases c3 : rd M 9 (zn (f + i)) 1 = t
        · (rw [e_X5_podsBehind_13]; simp only [e_X5_podsBehind, zo_iload, zo_lload, zo_aload, zo_istore, zo_lstore, zo_astore, zo_iinc, zo_pushI, zo_pushL, zo_null, zo_ii, zo_iid, zo_ll, zo_li, zo_lcmp, zo_i2l, zo_l2i, zo_dup, zo_dup2, zo_pop, zo_goto, zo_if, zo_icmp, zo_ifnull, zo_gets, zo_mm, zo_throw, zo_ret, zo_aret, zo_lret, q_iret_f, q_iret_1, q_iret_0, q_iret_b, q_c8_0, q_c8_1, q_c8_2, q_c8_3, q_c8_4, q_set_0, q_set_1i, q_set_1r, q_set_1n, q_set_1N, q_set_s, q_set_1j, q_bk_v, q_bk_n, q_if, zb_ite, cond_true, cond_false, List.getElem?_cons_zero, List.getElem?_cons_succ, Nat.reduceAdd, hk, hc, hc2, e30, hr, hs, c1, c2, c3, es, if_true, if_false, zb_eq0, zb_eq1, zn_1, not_true_eq_false, not_false_eq_true, ite_true, ite_false, if_true, if_false, q_iret_0, q_iret_1, decide_true, decide_false, decide_not, zb_t, zb_f, z10, z01, cond_true, cond_false, Bool.and_true, Bool.true_and, Bool.and_false, Bool.false_and, Bool.not_true, Bool.not_false, true_and, and_true, false_and, and_false, true_or, or_true, false_or, or_false, Bool.true_eq_false, Bool.false_eq_true, eq_self, reduceCtorEq, Bool.or_true, Bool.true_or, Bool.or_false, Bool.false_or])
        · (rw [e_X5_podsBehind_13]; simp only [e_X5_podsBehind, zo_iload, zo_lload, zo_aload, zo_istore, zo_lstore, zo_astore, zo_iinc, zo_pushI, zo_pushL, zo_null, zo_ii, zo_iid, zo_ll, zo_li, zo_lcmp, zo_i2l, zo_l2i, zo_dup, zo_dup2, zo_pop, zo_goto, zo_if, zo_icmp, zo_ifnull, zo_gets, zo_mm, zo_throw, zo_ret, zo_aret, zo_lret, q_iret_f, q_iret_1, q_iret_0, q_iret_b, q_c8_0, q_c8_1, q_c8_2, q_c8_3, q_c8_4, q_set_0, q_set_1i, q_set_1r, q_set_1n, q_set_1N, q_set_s, q_set_1j, q_bk_v, q_bk_n, q_if, zb_ite, cond_true, cond_false, List.getElem?_cons_zero, List.getElem?_cons_succ, Nat.reduceAdd, hk, hc, hc2, e30, hr, hs, c1, c2, c3, if_true, if_false, zb_eq0, zb_eq1, zn_1, not_true_eq_false, not_false_eq_true, ite_true, ite_false, if_true, if_false, q_iret_0, q_iret_1, decide_true, decide_false, decide_not, zb_t, zb_f, z10, z01, cond_true, cond_false, Bool.and_true, Bool.true_and, Bool.and_false, Bool.false_and, Bool.not_true, Bool.not_false, true_and, and_true, false_and, and_false, true_or, or_true, false_or, or_false, Bool.true_eq_false, Bool.false_eq_true, eq_self, reduceCtorEq, Bool.or_true, Bool.true_or, Bool.or_false, Bool.false_or])
      · (rw [e_X5_podsBehind_13]; simp only [e_X5_podsBehind, zo_iload, zo_lload, zo_aload, zo_istore, zo_lstore, zo_astore, zo_iinc, zo_pushI, zo_pushL, zo_null, zo_ii, zo_iid, zo_ll, zo_li, zo_lcmp, zo_i2l, zo_l2i, zo_dup, zo_dup2, zo_pop, zo_goto, zo_if, zo_icmp, zo_ifnull, zo_gets, zo_mm, zo_throw, zo_ret, zo_aret, zo_lret, q_iret_f, q_iret_1, q_iret_0, q_iret_b, q_c8_0, q_c8_1, q_c8_2, q_c8_3, q_c8_4, q_set_0, q_set_1i, q_set_1r, q_set_1n, q_set_1N, q_set_s, q_set_1j, q_bk_v, q_bk_n, q_if, zb_ite, cond_true, cond_false, List.getElem?_cons_zero, List.getElem?_cons_succ, Nat.reduceAdd, hk, hc, hc2, e30, hr, hs, c1, c2, if_true, if_false, zb_eq0, zb_eq1, zn_1, not_true_eq_false, not_false_eq_true, ite_true, ite_false, if_true, if_false, q_iret_0, q_iret_1, decide_true, decide_false, decide_not, zb_t, zb_f, z10, z01, cond_true, cond_false, Bool.and_true, Bool.true_and, Bool.and_false, Bool.false_and, Bool.not_true, Bool.not_false, true_and, and_true, false_and, and_false, true_or, or_true, false_or, or_false, Bool.true_eq_false, Bool.false_eq_true, eq_self, reduceCtorEq, Bool.or_true, Bool.true_or, Bool.or_false, Bool.false_or]))
  rw [st]
  refine (show _ = _ from lp).trans ?_
  generalize hm : min 30 (nv M 9 - f) = m
  by_cases c1 : nv M 9 ≤ f + m
  · have hc : (zn (nv M 9) ≤ zn (f + m)) = True := zn_le (a := nv M 9) (b := f + m) (by omega) (by omega) ▸ eq_true c1
    (rw [e_X5_podsBehind_13]; simp only [e_X5_podsBehind, zo_iload, zo_lload, zo_aload, zo_istore, zo_lstore, zo_astore, zo_iinc, zo_pushI, zo_pushL, zo_null, zo_ii, zo_iid, zo_ll, zo_li, zo_lcmp, zo_i2l, zo_l2i, zo_dup, zo_dup2, zo_pop, zo_goto, zo_if, zo_icmp, zo_ifnull, zo_gets, zo_mm, zo_throw, zo_ret, zo_aret, zo_lret, q_iret_f, q_iret_1, q_iret_0, q_iret_b, q_c8_0, q_c8_1, q_c8_2, q_c8_3, q_c8_4, q_set_0, q_set_1i, q_set_1r, q_set_1n, q_set_1N, q_set_s, q_set_1j, q_bk_v, q_bk_n, q_if, zb_ite, cond_true, cond_false, List.getElem?_cons_zero, List.getElem?_cons_succ, Nat.reduceAdd, hk, hc, if_true, if_false, zb_eq0, zb_eq1, zn_1, not_true_eq_false, not_false_eq_true, ite_true, ite_false, if_true, if_false, q_iret_0, q_iret_1, decide_true, decide_false, decide_not, zb_t, zb_f, z10, z01, cond_true, cond_false, Bool.and_true, Bool.true_and, Bool.and_false, Bool.false_and, Bool.not_true, Bool.not_false, true_and, and_true, false_and, and_false, true_or, or_true, false_or, or_false, Bool.true_eq_false, Bool.false_eq_true, eq_self, reduceCtorEq, Bool.or_true, Bool.true_or, Bool.or_false, Bool.false_or])
  · have hc : (zn (nv M 9) ≤ zn (f + m)) = False := zn_le (a := nv M 9) (b := f + m) (by omega) (by omega) ▸ eq_false c1
    have hc2 : (zn (f + 30) ≤ zn (f + m)) = True := zn_le (a := f + 30) (b := f + m) (by omega) (by omega) ▸ eq_true (by omega)
    (rw [e_X5_podsBehind_13]; simp only [e_X5_podsBehind, zo_iload, zo_lload, zo_aload, zo_istore, zo_lstore, zo_astore, zo_iinc, zo_pushI, zo_pushL, zo_null, zo_ii, zo_iid, zo_ll, zo_li, zo_lcmp, zo_i2l, zo_l2i, zo_dup, zo_dup2, zo_pop, zo_goto, zo_if, zo_icmp, zo_ifnull, zo_gets, zo_mm, zo_throw, zo_ret, zo_aret, zo_lret, q_iret_f, q_iret_1, q_iret_0, q_iret_b, q_c8_0, q_c8_1, q_c8_2, q_c8_3, q_c8_4, q_set_0, q_set_1i, q_set_1r, q_set_1n, q_set_1N, q_set_s, q_set_1j, q_bk_v, q_bk_n, q_if, zb_ite, cond_true, cond_false, List.getElem?_cons_zero, List.getElem?_cons_succ, Nat.reduceAdd, hk, hc, hc2, e30, if_true, if_false, zb_eq0, zb_eq1, zn_1, not_true_eq_false, not_false_eq_true, ite_true, ite_false, if_true, if_false, q_iret_0, q_iret_1, decide_true, decide_false, decide_not, zb_t, zb_f, z10, z01, cond_true, cond_false, Bool.and_true, Bool.true_and, Bool.and_false, Bool.false_and, Bool.not_true, Bool.not_false, true_and, and_true, false_and, and_false, true_or, or_true, false_or, or_false, Bool.true_eq_false, Bool.false_eq_true, eq_self, reduceCtorEq, Bool.or_true, Bool.true_or, Bool.or_false, Bool.false_or])
def pLow (B : zzMd) (o : Nat) : Int32 := pbs B (rd B 9 (zn o) 1) 0 (min 30 (nv B 9 - 0))
def pHigh (B : zzMd) (o : Nat) : Int32 := pbs B (rd B 9 (zn o) 1) 30 (min 30 (nv B 9 - 30))
def dS6 (B A : zzMd) (o : Nat) : Int32 × zzMd :=
  bif stay B 9 (zn o) 5 && !(decide (pLow B o = rd B 9 (zn o) 30) && decide (pHigh B o = rd B 9 (zn o) 31)) then
    oc2 (bif utd A 6 o then aCh2 A o 30 (pLow B o) 31 (pHigh B o) else (false, A))
  else (1, A)
theorem dS6_nz (M : zzMd) (o : Nat) : dS6 (nz M) (nz M) o = dS6 M (nz M) o := rfl
theorem sp_serve6 {M : zzMd} (W : zIC M) {o : Nat} (ho : o < 60) :
    ∃ M', fX5_serve [.ref 9, .int (zn o)] M = some (.inl (some (.int (dS6 M (nz M) o).1)), M') ∧ nz M' = (dS6 M (nz M) o).2 := by
  have hc : 6 < 8 := by decide
  have Wv := zIC_W (zcV hc) W
  simp only [Nat.reduceAdd] at Wv
  have hr := fun x s => sp_read' Wv x s
  have hs := fun x k => sp_isStaying Wv x k
  have hl : fX5_podsBehind [.ref 9, .int (zn o), .int 0] M = some (.inl (some (.int (pLow M o))), M) := sp_podsBehind Wv (zn o) (f := 0) (by decide)
  have hh : fX5_podsBehind [.ref 9, .int (zn o), .int 30] M = some (.inl (some (.int (pHigh M o))), M) := sp_podsBehind Wv (zn o) (f := 30) (by decide)
  have hu := sp_isUpToDate W hc ho
  simp only [Nat.reduceAdd] at hu
  have ho0 : ∀ A, fX2_outcomeOf [.int 0] A = some (.inl (some (.int (oc false))), A) := sp_outcomeOf false
  have ho1 : ∀ A, fX2_outcomeOf [.int 1] A = some (.inl (some (.int (oc true))), A) := sp_outcomeOf true
  rw [s_X5_serve]
  unfold dS6
  rw [utd_nz hc]
  obtain ⟨M', a1, a2⟩ := sp_changeBoth W ho (k := 30) (by decide) (pLow M o) (j := 31) (by decide) (pHigh M o)
  have a1' : fX9_changeBoth [.ref 1, .int (zn o), .int 30, .int (pLow M o), .int 31, .int (pHigh M o)] M = _ := a1
  clear a1
  generalize pLow M o = lo at *
  generalize pHigh M o = hi at *
  cases c1 : stay M 9 (zn o) 5
  · refine ⟨M, ?_, rfl⟩
    (simp only [e_X5_serve, zo_iload, zo_lload, zo_aload, zo_istore, zo_lstore, zo_astore, zo_iinc, zo_pushI, zo_pushL, zo_null, zo_ii, zo_iid, zo_ll, zo_li, zo_lcmp, zo_i2l, zo_l2i, zo_dup, zo_dup2, zo_pop, zo_goto, zo_if, zo_icmp, zo_ifnull, zo_gets, zo_mm, zo_throw, zo_ret, zo_aret, zo_lret, q_iret_f, q_iret_1, q_iret_0, q_iret_b, q_c8_0, q_c8_1, q_c8_2, q_c8_3, q_c8_4, q_set_0, q_set_1i, q_set_1r, q_set_1n, q_set_1N, q_set_s, q_set_1j, q_bk_v, q_bk_n, q_if, zb_ite, cond_true, cond_false, List.getElem?_cons_zero, List.getElem?_cons_succ, Nat.reduceAdd, hs, c1, if_true, if_false, zb_eq0, zb_eq1, zn_1, not_true_eq_false, not_false_eq_true, ite_true, ite_false, if_true, if_false, q_iret_0, q_iret_1, decide_true, decide_false, decide_not, zb_t, zb_f, z10, z01, cond_true, cond_false, Bool.and_true, Bool.true_and, Bool.and_false, Bool.false_and, Bool.not_true, Bool.not_false, true_and, and_true, false_and, and_false, true_or, or_true, false_or, or_false, Bool.true_eq_false, Bool.false_eq_true, eq_self, reduceCtorEq, Bool.or_true, Bool.true_or, Bool.or_false, Bool.false_or])
  have fin : zz_ev tX5_serve 0 [some (.ref 9), some (.int (zn o)), none, none] [] M = zz_ev tX5_serve 50 [some (.ref 9), some (.int (zn o)), some (.int lo), some (.int hi)] [] M →
      ∃ M', zz_ev tX5_serve 0 [some (.ref 9), some (.int (zn o)), none, none] [] M = some (.inl (some (.int (oc2 (bif utd M 6 o then aCh2 (nz M) o 30 lo 31 hi else (false, nz M))).1)), M') ∧ nz M' = (oc2 (bif utd M 6 o then aCh2 (nz M) o 30 lo 31 hi else (false, nz M))).2 := fun h => by
    rw [h]
    cases c4 : utd M 6 o
    · rw [c4] at hu
      refine ⟨M, ?_, rfl⟩
      (simp only [e_X5_serve, zo_iload, zo_lload, zo_aload, zo_istore, zo_lstore, zo_astore, zo_iinc, zo_pushI, zo_pushL, zo_null, zo_ii, zo_iid, zo_ll, zo_li, zo_lcmp, zo_i2l, zo_l2i, zo_dup, zo_dup2, zo_pop, zo_goto, zo_if, zo_icmp, zo_ifnull, zo_gets, zo_mm, zo_throw, zo_ret, zo_aret, zo_lret, q_iret_f, q_iret_1, q_iret_0, q_iret_b, q_c8_0, q_c8_1, q_c8_2, q_c8_3, q_c8_4, q_set_0, q_set_1i, q_set_1r, q_set_1n, q_set_1N, q_set_s, q_set_1j, q_bk_v, q_bk_n, q_if, zb_ite, cond_true, cond_false, List.getElem?_cons_zero, List.getElem?_cons_succ, Nat.reduceAdd, hu, oc2, ho0, if_true, if_false, zb_eq0, zb_eq1, zn_1, not_true_eq_false, not_false_eq_true, ite_true, ite_false, if_true, if_false, q_iret_0, q_iret_1, decide_true, decide_false, decide_not, zb_t, zb_f, z10, z01, cond_true, cond_false, Bool.and_true, Bool.true_and, Bool.and_false, Bool.false_and, Bool.not_true, Bool.not_false, true_and, and_true, false_and, and_false, true_or, or_true, false_or, or_false, Bool.true_eq_false, Bool.false_eq_true, eq_self, reduceCtorEq, Bool.or_true, Bool.true_or, Bool.or_false, Bool.false_or])
    · rw [c4] at hu
      refine ⟨M', ?_, a2⟩
      rw [cond_true]
      generalize aCh2 (nz M) o 30 lo 31 hi = Q at a1' ⊢
      cases c5 : Q.1 <;> rw [c5] at a1' <;> (simp only [e_X5_serve, zo_iload, zo_lload, zo_aload, zo_istore, zo_lstore, zo_astore, zo_iinc, zo_pushI, zo_pushL, zo_null, zo_ii, zo_iid, zo_ll, zo_li, zo_lcmp, zo_i2l, zo_l2i, zo_dup, zo_dup2, zo_pop, zo_goto, zo_if, zo_icmp, zo_ifnull, zo_gets, zo_mm, zo_throw, zo_ret, zo_aret, zo_lret, q_iret_f, q_iret_1, q_iret_0, q_iret_b, q_c8_0, q_c8_1, q_c8_2, q_c8_3, q_c8_4, q_set_0, q_set_1i, q_set_1r, q_set_1n, q_set_1N, q_set_s, q_set_1j, q_bk_v, q_bk_n, q_if, zb_ite, cond_true, cond_false, List.getElem?_cons_zero, List.getElem?_cons_succ, Nat.reduceAdd, hu, a1', oc2, c5, ho0, ho1, if_true, if_false, zb_eq0, zb_eq1, zn_1, not_true_eq_false, not_false_eq_true, ite_true, ite_false, if_true, if_false, q_iret_0, q_iret_1, decide_true, decide_false, decide_not, zb_t, zb_f, z10, z01, cond_true, cond_false, Bool.and_true, Bool.true_and, Bool.and_false, Bool.false_and, Bool.not_true, Bool.not_false, true_and, and_true, false_and, and_false, true_or, or_true, false_or, or_false, Bool.true_eq_false, Bool.false_eq_true, eq_self, reduceCtorEq, Bool.or_true, Bool.true_or, Bool.or_false, Bool.false_or])
  by_cases c2 : lo = rd M 9 (zn o) 30
  · by_cases c3 : hi = rd M 9 (zn o) 31
    · rw [decide_eq_true c2, decide_eq_true c3]
      refine ⟨M, ?_, rfl⟩
      (simp only [e_X5_serve, zo_iload, zo_lload, zo_aload, zo_istore, zo_lstore, zo_astore, zo_iinc, zo_pushI, zo_pushL, zo_null, zo_ii, zo_iid, zo_ll, zo_li, zo_lcmp, zo_i2l, zo_l2i, zo_dup, zo_dup2, zo_pop, zo_goto, zo_if, zo_icmp, zo_ifnull, zo_gets, zo_mm, zo_throw, zo_ret, zo_aret, zo_lret, q_iret_f, q_iret_1, q_iret_0, q_iret_b, q_c8_0, q_c8_1, q_c8_2, q_c8_3, q_c8_4, q_set_0, q_set_1i, q_set_1r, q_set_1n, q_set_1N, q_set_s, q_set_1j, q_bk_v, q_bk_n, q_if, zb_ite, cond_true, cond_false, List.getElem?_cons_zero, List.getElem?_cons_succ, Nat.reduceAdd, hs, c1, hr, hl, hh, c2.symm, c3.symm, if_true, if_false, zb_eq0, zb_eq1, zn_1, not_true_eq_false, not_false_eq_true, ite_true, ite_false, if_true, if_false, q_iret_0, q_iret_1, decide_true, decide_false, decide_not, zb_t, zb_f, z10, z01, cond_true, cond_false, Bool.and_true, Bool.true_and, Bool.and_false, Bool.false_and, Bool.not_true, Bool.not_false, true_and, and_true, false_and, and_false, true_or, or_true, false_or, or_false, Bool.true_eq_false, Bool.false_eq_true, eq_self, reduceCtorEq, Bool.or_true, Bool.true_or, Bool.or_false, Bool.false_or])
    · have e : (true && !(decide (lo = rd M 9 (zn o) 30) && decide (hi = rd M 9 (zn o) 31))) = true := by rw [decide_eq_true c2, decide_eq_false c3]; rfl
      rw [e, cond_true]
      refine fin ?_
      clear fin
      generalize hZ : zz_ev tX5_serve 50 [some (.ref 9), some (.int (zn o)), some (.int lo), some (.int hi)] [] M = Z
      (simp only [e_X5_serve, zo_iload, zo_lload, zo_aload, zo_istore, zo_lstore, zo_astore, zo_iinc, zo_pushI, zo_pushL, zo_null, zo_ii, zo_iid, zo_ll, zo_li, zo_lcmp, zo_i2l, zo_l2i, zo_dup, zo_dup2, zo_pop, zo_goto, zo_if, zo_icmp, zo_ifnull, zo_gets, zo_mm, zo_throw, zo_ret, zo_aret, zo_lret, q_iret_f, q_iret_1, q_iret_0, q_iret_b, q_c8_0, q_c8_1, q_c8_2, q_c8_3, q_c8_4, q_set_0, q_set_1i, q_set_1r, q_set_1n, q_set_1N, q_set_s, q_set_1j, q_bk_v, q_bk_n, q_if, zb_ite, cond_true, cond_false, List.getElem?_cons_zero, List.getElem?_cons_succ, Nat.reduceAdd, ↓hZ, hs, c1, hr, hl, hh, c2.symm, c3, if_true, if_false, zb_eq0, zb_eq1, zn_1, not_true_eq_false, not_false_eq_true, ite_true, ite_false, if_true, if_false, q_iret_0, q_iret_1, decide_true, decide_false, decide_not, zb_t, zb_f, z10, z01, cond_true, cond_false, Bool.and_true, Bool.true_and, Bool.and_false, Bool.false_and, Bool.not_true, Bool.not_false, true_and, and_true, false_and, and_false, true_or, or_true, false_or, or_false, Bool.true_eq_false, Bool.false_eq_true, eq_self, reduceCtorEq, Bool.or_true, Bool.true_or, Bool.or_false, Bool.false_or])
  · have e : (true && !(decide (lo = rd M 9 (zn o) 30) && decide (hi = rd M 9 (zn o) 31))) = true := by rw [decide_eq_false c2]; rfl
    rw [e, cond_true]
    refine fin ?_
    clear fin
    generalize hZ : zz_ev tX5_serve 50 [some (.ref 9), some (.int (zn o)), some (.int lo), some (.int hi)] [] M = Z
    (simp only [e_X5_serve, zo_iload, zo_lload, zo_aload, zo_istore, zo_lstore, zo_astore, zo_iinc, zo_pushI, zo_pushL, zo_null, zo_ii, zo_iid, zo_ll, zo_li, zo_lcmp, zo_i2l, zo_l2i, zo_dup, zo_dup2, zo_pop, zo_goto, zo_if, zo_icmp, zo_ifnull, zo_gets, zo_mm, zo_throw, zo_ret, zo_aret, zo_lret, q_iret_f, q_iret_1, q_iret_0, q_iret_b, q_c8_0, q_c8_1, q_c8_2, q_c8_3, q_c8_4, q_set_0, q_set_1i, q_set_1r, q_set_1n, q_set_1N, q_set_s, q_set_1j, q_bk_v, q_bk_n, q_if, zb_ite, cond_true, cond_false, List.getElem?_cons_zero, List.getElem?_cons_succ, Nat.reduceAdd, ↓hZ, hs, c1, hr, hl, hh, c2, if_true, if_false, zb_eq0, zb_eq1, zn_1, not_true_eq_false, not_false_eq_true, ite_true, ite_false, if_true, if_false, q_iret_0, q_iret_1, decide_true, decide_false, decide_not, zb_t, zb_f, z10, z01, cond_true, cond_false, Bool.and_true, Bool.true_and, Bool.and_false, Bool.false_and, Bool.not_true, Bool.not_false, true_and, and_true, false_and, and_false, true_or, or_true, false_or, or_false, Bool.true_eq_false, Bool.false_eq_true, eq_self, reduceCtorEq, Bool.or_true, Bool.true_or, Bool.or_false, Bool.false_or])
theorem zIC_S6 {A B : zzMd} {o : Nat} (ho : o < 60) (h : zIC A) : zIC (dS6 B A o).2 := by
  unfold dS6
  cases stay B 9 (zn o) 5 && !(decide (pLow B o = rd B 9 (zn o) 30) && decide (pHigh B o = rd B 9 (zn o) 31))
  · exact h
  · show zIC (bif utd A 6 o then aCh2 A o 30 (pLow B o) 31 (pHigh B o) else (false, A)).2
    cases utd A 6 o
    · exact h
    · exact zIC_Wr ho h
/-! SCALER -/
def goalS (B : zzMd) (o : Nat) : Int32 :=
  if (if 1 < (rd B 10 (zn o) 6 + 9) / 10 then (rd B 10 (zn o) 6 + 9) / 10 else 1) < rd B 10 (zn o) 5 then (if 1 < (rd B 10 (zn o) 6 + 9) / 10 then (rd B 10 (zn o) 6 + 9) / 10 else 1) else rd B 10 (zn o) 5
def earlyS (A : zzMd) (o : Nat) : Bool := !decide (A.1 72 o = -1) && !decide (10 ≤ A.1 1 7 - A.1 72 o)
def aScal (p : Bool × zzMd) (v : Int32) (o : Nat) : Int32 × zzMd := (oc p.1, bif decide (p.2.1 1 3 ≤ v) then p.2 else zz_sI p.2 72 o (p.2.1 1 7))
def dS7 (B A : zzMd) (o : Nat) : Int32 × zzMd :=
  bif stay B 10 (zn o) 0 && decide (0 < rd B 10 (zn o) 5) then
    bif !decide (rd B 10 (zn o) 0 ≤ goalS B o) && earlyS A o then (2, zz_sI A 67 o (A.1 72 o + 10))
    else aScal (aWant A 7 o (goalS B o)) (A.1 1 3) o
  else (1, A)
theorem dS7_nz (M : zzMd) (o : Nat) : dS7 (nz M) (nz M) o = dS7 M (nz M) o := rfl
theorem sp_serve7 {M : zzMd} (W : zIC M) {o : Nat} (ho : o < 60) :
    ∃ M', fX7_serve [.ref 10, .int (zn o)] M = some (.inl (some (.int (dS7 M (nz M) o).1)), M') ∧ nz M' = (dS7 M (nz M) o).2 := by
  have hc : 7 < 8 := by decide
  have Wv := zIC_W (zcV hc) W
  simp only [Nat.reduceAdd] at Wv
  have hr := fun x s => sp_read' Wv x s
  have hs := fun x k => sp_isStaying Wv x k
  have hoc := sp_outcomeOf
  have z0 := zn_lt0 (o := o) (by omega)
  have z6 := zo_60 ho
  have b1 : zz_inb (zn o) 60 = true := zn_inT ho (by decide)
  have x1 : zz_ix (zn o) = o := zn_ix (by omega)
  have n10 : ((10 : Int32) = 0) = False := eq_false (by decide)
  rw [s_X7_serve]
  unfold dS7
  cases c1 : stay M 10 (zn o) 0
  · refine ⟨M, ?_, rfl⟩
    (simp only [e_X7_serve, zo_iload, zo_lload, zo_aload, zo_istore, zo_lstore, zo_astore, zo_iinc, zo_pushI, zo_pushL, zo_null, zo_ii, zo_iid, zo_ll, zo_li, zo_lcmp, zo_i2l, zo_l2i, zo_dup, zo_dup2, zo_pop, zo_goto, zo_if, zo_icmp, zo_ifnull, zo_gets, zo_mm, zo_throw, zo_ret, zo_aret, zo_lret, q_iret_f, q_iret_1, q_iret_0, q_iret_b, q_c8_0, q_c8_1, q_c8_2, q_c8_3, q_c8_4, q_set_0, q_set_1i, q_set_1r, q_set_1n, q_set_1N, q_set_s, q_set_1j, q_bk_v, q_bk_n, q_if, zb_ite, cond_true, cond_false, List.getElem?_cons_zero, List.getElem?_cons_succ, Nat.reduceAdd, hr, hs, z0, z6, c1, if_true, if_false, zb_eq0, zb_eq1, zn_1, not_true_eq_false, not_false_eq_true, ite_true, ite_false, if_true, if_false, q_iret_0, q_iret_1, decide_true, decide_false, decide_not, zb_t, zb_f, z10, z01, cond_true, cond_false, Bool.and_true, Bool.true_and, Bool.and_false, Bool.false_and, Bool.not_true, Bool.not_false, true_and, and_true, false_and, and_false, true_or, or_true, false_or, or_false, Bool.true_eq_false, Bool.false_eq_true, eq_self, reduceCtorEq, Bool.or_true, Bool.true_or, Bool.or_false, Bool.false_or])
  by_cases c2 : 0 < rd M 10 (zn o) 5
  · rw [decide_eq_true c2, Bool.and_self, cond_true]
    have hE : earlyS (nz M) o = earlyS M o := rfl
    have h72 : (nz M).1 72 o = M.1 72 o := rfl
    have h13 : (nz M).1 1 3 = M.1 1 3 := rfl
    rw [hE, h72, h13]
    have s102 : zz_ev tX7_serve 0 [some (.ref 10), some (.int (zn o)), none, none, none, none, none] [] M = zz_ev tX7_serve 91 [some (.ref 10), some (.int (zn o)), some (.int (rd M 10 (zn o) 5)), some (.int (goalS M o)), some (.int (zb (earlyS M o))), none, none] [.ref 10] M := by
      unfold earlyS goalS
      generalize hZ : (fun b : Int32 => zz_ev tX7_serve 91 [some (.ref 10), some (.int (zn o)), some (.int (rd M 10 (zn o) 5)), some (.int (if (if 1 < (rd M 10 (zn o) 6 + 9) / 10 then (rd M 10 (zn o) 6 + 9) / 10 else 1) < rd M 10 (zn o) 5 then (if 1 < (rd M 10 (zn o) 6 + 9) / 10 then (rd M 10 (zn o) 6 + 9) / 10 else 1) else rd M 10 (zn o) 5)), some (.int b), none, none] [.ref 10] M) = Z
      have hZ' : ∀ b : Int32, zz_ev tX7_serve 91 [some (.ref 10), some (.int (zn o)), some (.int (rd M 10 (zn o) 5)), some (.int (if (if 1 < (rd M 10 (zn o) 6 + 9) / 10 then (rd M 10 (zn o) 6 + 9) / 10 else 1) < rd M 10 (zn o) 5 then (if 1 < (rd M 10 (zn o) 6 + 9) / 10 then (rd M 10 (zn o) 6 + 9) / 10 else 1) else rd M 10 (zn o) 5)), some (.int b), none, none] [.ref 10] M = Z b := fun b => by rw [← hZ]
      rw [hZ']
      clear hZ
      by_cases d1 : M.1 72 o = -1
      · (simp only [e_X7_serve, zo_iload, zo_lload, zo_aload, zo_istore, zo_lstore, zo_astore, zo_iinc, zo_pushI, zo_pushL, zo_null, zo_ii, zo_iid, zo_ll, zo_li, zo_lcmp, zo_i2l, zo_l2i, zo_dup, zo_dup2, zo_pop, zo_goto, zo_if, zo_icmp, zo_ifnull, zo_gets, zo_mm, zo_throw, zo_ret, zo_aret, zo_lret, q_iret_f, q_iret_1, q_iret_0, q_iret_b, q_c8_0, q_c8_1, q_c8_2, q_c8_3, q_c8_4, q_set_0, q_set_1i, q_set_1r, q_set_1n, q_set_1N, q_set_s, q_set_1j, q_bk_v, q_bk_n, q_if, zb_ite, cond_true, cond_false, List.getElem?_cons_zero, List.getElem?_cons_succ, Nat.reduceAdd, ↓hZ', hr, hs, z0, z6, c1, c2, n10, b1, x1, q_aC, d1, if_true, if_false, zb_eq0, zb_eq1, zn_1, not_true_eq_false, not_false_eq_true, ite_true, ite_false, if_true, if_false, q_iret_0, q_iret_1, decide_true, decide_false, decide_not, zb_t, zb_f, z10, z01, cond_true, cond_false, Bool.and_true, Bool.true_and, Bool.and_false, Bool.false_and, Bool.not_true, Bool.not_false, true_and, and_true, false_and, and_false, true_or, or_true, false_or, or_false, Bool.true_eq_false, Bool.false_eq_true, eq_self, reduceCtorEq, Bool.or_true, Bool.true_or, Bool.or_false, Bool.false_or])
      · by_cases d2 : 10 ≤ M.1 1 7 - M.1 72 o
        · (simp only [e_X7_serve, zo_iload, zo_lload, zo_aload, zo_istore, zo_lstore, zo_astore, zo_iinc, zo_pushI, zo_pushL, zo_null, zo_ii, zo_iid, zo_ll, zo_li, zo_lcmp, zo_i2l, zo_l2i, zo_dup, zo_dup2, zo_pop, zo_goto, zo_if, zo_icmp, zo_ifnull, zo_gets, zo_mm, zo_throw, zo_ret, zo_aret, zo_lret, q_iret_f, q_iret_1, q_iret_0, q_iret_b, q_c8_0, q_c8_1, q_c8_2, q_c8_3, q_c8_4, q_set_0, q_set_1i, q_set_1r, q_set_1n, q_set_1N, q_set_s, q_set_1j, q_bk_v, q_bk_n, q_if, zb_ite, cond_true, cond_false, List.getElem?_cons_zero, List.getElem?_cons_succ, Nat.reduceAdd, ↓hZ', hr, hs, z0, z6, c1, c2, n10, b1, x1, q_aC, d1, d2, if_true, if_false, zb_eq0, zb_eq1, zn_1, not_true_eq_false, not_false_eq_true, ite_true, ite_false, if_true, if_false, q_iret_0, q_iret_1, decide_true, decide_false, decide_not, zb_t, zb_f, z10, z01, cond_true, cond_false, Bool.and_true, Bool.true_and, Bool.and_false, Bool.false_and, Bool.not_true, Bool.not_false, true_and, and_true, false_and, and_false, true_or, or_true, false_or, or_false, Bool.true_eq_false, Bool.false_eq_true, eq_self, reduceCtorEq, Bool.or_true, Bool.true_or, Bool.or_false, Bool.false_or])
        · (simp only [e_X7_serve, zo_iload, zo_lload, zo_aload, zo_istore, zo_lstore, zo_astore, zo_iinc, zo_pushI, zo_pushL, zo_null, zo_ii, zo_iid, zo_ll, zo_li, zo_lcmp, zo_i2l, zo_l2i, zo_dup, zo_dup2, zo_pop, zo_goto, zo_if, zo_icmp, zo_ifnull, zo_gets, zo_mm, zo_throw, zo_ret, zo_aret, zo_lret, q_iret_f, q_iret_1, q_iret_0, q_iret_b, q_c8_0, q_c8_1, q_c8_2, q_c8_3, q_c8_4, q_set_0, q_set_1i, q_set_1r, q_set_1n, q_set_1N, q_set_s, q_set_1j, q_bk_v, q_bk_n, q_if, zb_ite, cond_true, cond_false, List.getElem?_cons_zero, List.getElem?_cons_succ, Nat.reduceAdd, ↓hZ', hr, hs, z0, z6, c1, c2, n10, b1, x1, q_aC, d1, d2, if_true, if_false, zb_eq0, zb_eq1, zn_1, not_true_eq_false, not_false_eq_true, ite_true, ite_false, if_true, if_false, q_iret_0, q_iret_1, decide_true, decide_false, decide_not, zb_t, zb_f, z10, z01, cond_true, cond_false, Bool.and_true, Bool.true_and, Bool.and_false, Bool.false_and, Bool.not_true, Bool.not_false, true_and, and_true, false_and, and_false, true_or, or_true, false_or, or_false, Bool.true_eq_false, Bool.false_eq_true, eq_self, reduceCtorEq, Bool.or_true, Bool.true_or, Bool.or_false, Bool.false_or])
    rw [s102]
    clear s102
    obtain ⟨M', a1, a2⟩ := sp_want W hc ho (goalS M o)
    simp only [Nat.reduceAdd] at a1
    have main : zz_ev tX7_serve 91 [some (.ref 10), some (.int (zn o)), some (.int (rd M 10 (zn o) 5)), some (.int (goalS M o)), some (.int (zb (earlyS M o))), none, none] [.ref 10] M = zz_ev tX7_serve 122 [some (.ref 10), some (.int (zn o)), some (.int (rd M 10 (zn o) 5)), some (.int (goalS M o)), some (.int (zb (earlyS M o))), none, none] [] M →
        ∃ M', zz_ev tX7_serve 91 [some (.ref 10), some (.int (zn o)), some (.int (rd M 10 (zn o) 5)), some (.int (goalS M o)), some (.int (zb (earlyS M o))), none, none] [.ref 10] M = some (.inl (some (.int (aScal (aWant (nz M) 7 o (goalS M o)) (M.1 1 3) o).1)), M') ∧ nz M' = (aScal (aWant (nz M) 7 o (goalS M o)) (M.1 1 3) o).2 := fun h => by
      rw [h]
      unfold aScal
      rw [← a2]
      generalize goalS M o = g at *
      generalize earlyS M o = b at *
      have e3 : (nz M').1 1 3 = M'.1 1 3 := rfl
      have e7 : (nz M').1 1 7 = M'.1 1 7 := rfl
      rw [e3, e7]
      generalize (aWant (nz M) 7 o g).1 = q at a1 ⊢
      by_cases d1 : M'.1 1 3 ≤ M.1 1 3
      · refine ⟨M', ?_, by rw [decide_eq_true d1]; rfl⟩
        (simp only [e_X7_serve, zo_iload, zo_lload, zo_aload, zo_istore, zo_lstore, zo_astore, zo_iinc, zo_pushI, zo_pushL, zo_null, zo_ii, zo_iid, zo_ll, zo_li, zo_lcmp, zo_i2l, zo_l2i, zo_dup, zo_dup2, zo_pop, zo_goto, zo_if, zo_icmp, zo_ifnull, zo_gets, zo_mm, zo_throw, zo_ret, zo_aret, zo_lret, q_iret_f, q_iret_1, q_iret_0, q_iret_b, q_c8_0, q_c8_1, q_c8_2, q_c8_3, q_c8_4, q_set_0, q_set_1i, q_set_1r, q_set_1n, q_set_1N, q_set_s, q_set_1j, q_bk_v, q_bk_n, q_if, zb_ite, cond_true, cond_false, List.getElem?_cons_zero, List.getElem?_cons_succ, Nat.reduceAdd, a1, d1, hoc, if_true, if_false, zb_eq0, zb_eq1, zn_1, not_true_eq_false, not_false_eq_true, ite_true, ite_false, if_true, if_false, q_iret_0, q_iret_1, decide_true, decide_false, decide_not, zb_t, zb_f, z10, z01, cond_true, cond_false, Bool.and_true, Bool.true_and, Bool.and_false, Bool.false_and, Bool.not_true, Bool.not_false, true_and, and_true, false_and, and_false, true_or, or_true, false_or, or_false, Bool.true_eq_false, Bool.false_eq_true, eq_self, reduceCtorEq, Bool.or_true, Bool.true_or, Bool.or_false, Bool.false_or])
      · refine ⟨zz_sI M' 72 o (M'.1 1 7), ?_, by rw [decide_eq_false d1, cond_false, nz_sI rfl]⟩
        (simp only [e_X7_serve, zo_iload, zo_lload, zo_aload, zo_istore, zo_lstore, zo_astore, zo_iinc, zo_pushI, zo_pushL, zo_null, zo_ii, zo_iid, zo_ll, zo_li, zo_lcmp, zo_i2l, zo_l2i, zo_dup, zo_dup2, zo_pop, zo_goto, zo_if, zo_icmp, zo_ifnull, zo_gets, zo_mm, zo_throw, zo_ret, zo_aret, zo_lret, q_iret_f, q_iret_1, q_iret_0, q_iret_b, q_c8_0, q_c8_1, q_c8_2, q_c8_3, q_c8_4, q_set_0, q_set_1i, q_set_1r, q_set_1n, q_set_1N, q_set_s, q_set_1j, q_bk_v, q_bk_n, q_if, zb_ite, cond_true, cond_false, List.getElem?_cons_zero, List.getElem?_cons_succ, Nat.reduceAdd, a1, d1, hoc, b1, x1, q_aC, if_true, if_false, zb_eq0, zb_eq1, zn_1, not_true_eq_false, not_false_eq_true, ite_true, ite_false, if_true, if_false, q_iret_0, q_iret_1, decide_true, decide_false, decide_not, zb_t, zb_f, z10, z01, cond_true, cond_false, Bool.and_true, Bool.true_and, Bool.and_false, Bool.false_and, Bool.not_true, Bool.not_false, true_and, and_true, false_and, and_false, true_or, or_true, false_or, or_false, Bool.true_eq_false, Bool.false_eq_true, eq_self, reduceCtorEq, Bool.or_true, Bool.true_or, Bool.or_false, Bool.false_or])
    by_cases d1 : rd M 10 (zn o) 0 ≤ goalS M o
    · rw [decide_eq_true d1]
      refine main ?_
      generalize hZ : zz_ev tX7_serve 122 [some (.ref 10), some (.int (zn o)), some (.int (rd M 10 (zn o) 5)), some (.int (goalS M o)), some (.int (zb (earlyS M o))), none, none] [] M = Z
      clear main a1
      (simp only [e_X7_serve, zo_iload, zo_lload, zo_aload, zo_istore, zo_lstore, zo_astore, zo_iinc, zo_pushI, zo_pushL, zo_null, zo_ii, zo_iid, zo_ll, zo_li, zo_lcmp, zo_i2l, zo_l2i, zo_dup, zo_dup2, zo_pop, zo_goto, zo_if, zo_icmp, zo_ifnull, zo_gets, zo_mm, zo_throw, zo_ret, zo_aret, zo_lret, q_iret_f, q_iret_1, q_iret_0, q_iret_b, q_c8_0, q_c8_1, q_c8_2, q_c8_3, q_c8_4, q_set_0, q_set_1i, q_set_1r, q_set_1n, q_set_1N, q_set_s, q_set_1j, q_bk_v, q_bk_n, q_if, zb_ite, cond_true, cond_false, List.getElem?_cons_zero, List.getElem?_cons_succ, Nat.reduceAdd, ↓hZ, hr, d1, if_true, if_false, zb_eq0, zb_eq1, zn_1, not_true_eq_false, not_false_eq_true, ite_true, ite_false, if_true, if_false, q_iret_0, q_iret_1, decide_true, decide_false, decide_not, zb_t, zb_f, z10, z01, cond_true, cond_false, Bool.and_true, Bool.true_and, Bool.and_false, Bool.false_and, Bool.not_true, Bool.not_false, true_and, and_true, false_and, and_false, true_or, or_true, false_or, or_false, Bool.true_eq_false, Bool.false_eq_true, eq_self, reduceCtorEq, Bool.or_true, Bool.true_or, Bool.or_false, Bool.false_or])
    · rw [decide_eq_false d1]
      cases c3 : earlyS M o
      · rw [c3] at main
        refine main ?_
        generalize hZ : zz_ev tX7_serve 122 [some (.ref 10), some (.int (zn o)), some (.int (rd M 10 (zn o) 5)), some (.int (goalS M o)), some (.int (zb false)), none, none] [] M = Z
        rw [zb_f] at hZ
        clear main a1
        (simp only [e_X7_serve, zo_iload, zo_lload, zo_aload, zo_istore, zo_lstore, zo_astore, zo_iinc, zo_pushI, zo_pushL, zo_null, zo_ii, zo_iid, zo_ll, zo_li, zo_lcmp, zo_i2l, zo_l2i, zo_dup, zo_dup2, zo_pop, zo_goto, zo_if, zo_icmp, zo_ifnull, zo_gets, zo_mm, zo_throw, zo_ret, zo_aret, zo_lret, q_iret_f, q_iret_1, q_iret_0, q_iret_b, q_c8_0, q_c8_1, q_c8_2, q_c8_3, q_c8_4, q_set_0, q_set_1i, q_set_1r, q_set_1n, q_set_1N, q_set_s, q_set_1j, q_bk_v, q_bk_n, q_if, zb_ite, cond_true, cond_false, List.getElem?_cons_zero, List.getElem?_cons_succ, Nat.reduceAdd, ↓hZ, hr, d1, if_true, if_false, zb_eq0, zb_eq1, zn_1, not_true_eq_false, not_false_eq_true, ite_true, ite_false, if_true, if_false, q_iret_0, q_iret_1, decide_true, decide_false, decide_not, zb_t, zb_f, z10, z01, cond_true, cond_false, Bool.and_true, Bool.true_and, Bool.and_false, Bool.false_and, Bool.not_true, Bool.not_false, true_and, and_true, false_and, and_false, true_or, or_true, false_or, or_false, Bool.true_eq_false, Bool.false_eq_true, eq_self, reduceCtorEq, Bool.or_true, Bool.true_or, Bool.or_false, Bool.false_or])
      · refine ⟨zz_sI M 67 o (M.1 72 o + 10), ?_, nz_sI rfl⟩
        clear main a1
        rw [zb_t]
        (simp only [e_X7_serve, zo_iload, zo_lload, zo_aload, zo_istore, zo_lstore, zo_astore, zo_iinc, zo_pushI, zo_pushL, zo_null, zo_ii, zo_iid, zo_ll, zo_li, zo_lcmp, zo_i2l, zo_l2i, zo_dup, zo_dup2, zo_pop, zo_goto, zo_if, zo_icmp, zo_ifnull, zo_gets, zo_mm, zo_throw, zo_ret, zo_aret, zo_lret, q_iret_f, q_iret_1, q_iret_0, q_iret_b, q_c8_0, q_c8_1, q_c8_2, q_c8_3, q_c8_4, q_set_0, q_set_1i, q_set_1r, q_set_1n, q_set_1N, q_set_s, q_set_1j, q_bk_v, q_bk_n, q_if, zb_ite, cond_true, cond_false, List.getElem?_cons_zero, List.getElem?_cons_succ, Nat.reduceAdd, hr, d1, b1, x1, q_aC, if_true, if_false, zb_eq0, zb_eq1, zn_1, not_true_eq_false, not_false_eq_true, ite_true, ite_false, if_true, if_false, q_iret_0, q_iret_1, decide_true, decide_false, decide_not, zb_t, zb_f, z10, z01, cond_true, cond_false, Bool.and_true, Bool.true_and, Bool.and_false, Bool.false_and, Bool.not_true, Bool.not_false, true_and, and_true, false_and, and_false, true_or, or_true, false_or, or_false, Bool.true_eq_false, Bool.false_eq_true, eq_self, reduceCtorEq, Bool.or_true, Bool.true_or, Bool.or_false, Bool.false_or])
  · rw [decide_eq_false c2]
    refine ⟨M, ?_, rfl⟩
    (simp only [e_X7_serve, zo_iload, zo_lload, zo_aload, zo_istore, zo_lstore, zo_astore, zo_iinc, zo_pushI, zo_pushL, zo_null, zo_ii, zo_iid, zo_ll, zo_li, zo_lcmp, zo_i2l, zo_l2i, zo_dup, zo_dup2, zo_pop, zo_goto, zo_if, zo_icmp, zo_ifnull, zo_gets, zo_mm, zo_throw, zo_ret, zo_aret, zo_lret, q_iret_f, q_iret_1, q_iret_0, q_iret_b, q_c8_0, q_c8_1, q_c8_2, q_c8_3, q_c8_4, q_set_0, q_set_1i, q_set_1r, q_set_1n, q_set_1N, q_set_s, q_set_1j, q_bk_v, q_bk_n, q_if, zb_ite, cond_true, cond_false, List.getElem?_cons_zero, List.getElem?_cons_succ, Nat.reduceAdd, hr, hs, z0, z6, c1, c2, if_true, if_false, zb_eq0, zb_eq1, zn_1, not_true_eq_false, not_false_eq_true, ite_true, ite_false, if_true, if_false, q_iret_0, q_iret_1, decide_true, decide_false, decide_not, zb_t, zb_f, z10, z01, cond_true, cond_false, Bool.and_true, Bool.true_and, Bool.and_false, Bool.false_and, Bool.not_true, Bool.not_false, true_and, and_true, false_and, and_false, true_or, or_true, false_or, or_false, Bool.true_eq_false, Bool.false_eq_true, eq_self, reduceCtorEq, Bool.or_true, Bool.true_or, Bool.or_false, Bool.false_or])
theorem zIC_72 {A : zzMd} {a k : Nat} {x : Int32} (ha : 69 ≤ a) : zIC (zz_sI A a k x) ↔ zIC A := by
  have key : ∀ p b, p ≠ a → (zz_sI A a k x).1 p b = A.1 p b := fun p b h => if_neg (fun z => h z.1)
  have k2 : ∀ c b, c < 8 → (zz_sI A a k x).1 (21 + 6 * c) b = A.1 (21 + 6 * c) b := fun c b _ => key _ _ (by omega)
  have k3 : ∀ c b, c < 8 → (zz_sI A a k x).1 (3 + c) b = A.1 (3 + c) b := fun c b h => key _ _ (by omega)
  have k4 : ∀ c b, c < 8 → (zz_sI A a k x).1 (22 + 6 * c) b = A.1 (22 + 6 * c) b := fun c b _ => key _ _ (by omega)
  have k5 : ∀ p b, p < 69 → (zz_sI A a k x).1 p b = A.1 p b := fun p b h => key _ _ (by omega)
  unfold zIC
  refine and_congr ?_ (and_congr ?_ (forall_congr' fun c => forall_congr' fun hc => ?_))
  · unfold zIV nv ve
    simp only [k5 1 _ (by decide), k5 15 _ (by decide)]
  · unfold zAd nr nc rP cP
    simp only [k5 2 _ (by decide), k5 18 _ (by decide), k5 19 _ (by decide)]
  · unfold zIV zIQ nv ve qn qk
    simp only [k2 c _ hc, k3 c _ hc, k4 c _ hc]
/-- a controller's failures, times, writes -/
theorem zIC_fdw {A : zzMd} {c a k : Nat} {x : Int32} (hc : c < 8) (ha : a = 24 + 6 * c ∨ a = 25 + 6 * c ∨ a = 26 + 6 * c) (h : zIC A) : zIC (zz_sI A a k x) := by
  have key : ∀ p b, p ≠ a → (zz_sI A a k x).1 p b = A.1 p b := fun p b h => if_neg (fun z => h z.1)
  refine zIC_q hc h (fun p b h1 h2 h3 h4 h5 h6 => key p b (by omega)) ?_
  obtain ⟨-, h2⟩ := h.2.2 c hc
  unfold zIQ qn qk at h2 ⊢
  simp only [key (3 + c) _ (show 3 + c ≠ a by omega), key (22 + 6 * c) _ (show 22 + 6 * c ≠ a by omega)]
  exact h2
theorem zIC_S7 {A B : zzMd} {o : Nat} (ho : o < 60) (h : zIC A) : zIC (dS7 B A o).2 := by
  unfold dS7
  cases stay B 10 (zn o) 0 && decide (0 < rd B 10 (zn o) 5)
  · exact h
  · cases !decide (rd B 10 (zn o) 0 ≤ goalS B o) && earlyS A o
    · show zIC (aScal (aWant A 7 o (goalS B o)) (A.1 1 3) o).2
      unfold aScal
      have h1 := zIC_Want (c := 7) (x := goalS B o) ho h
      cases decide ((aWant A 7 o (goalS B o)).2.1 1 3 ≤ A.1 1 3)
      · exact (zIC_72 (by decide)).mpr h1
      · exact h1
    · exact zIC_fdw (c := 7) (by decide) (Or.inr (Or.inl rfl)) h
end

section
/-! the controllers RUNNER and COLLECTOR -/
def runN (A : zzMd) (x : Int32) : Int32 := zsum (nv A 7) fun i => bif decide (rd A 7 (zn i) 28 = x) && (decide (rd A 7 (zn i) 29 = 1) && !gone A 7 (zn i)) then znd (rd A 7 (zn i) 1) else 0
theorem sp_runN {M : zzMd} (W : zVw M 7 (nv M 7)) (x : Int32) : fX6_runningNeeds [.ref 7, .int x] M = some (.inl (some (.int (runN M x))), M) := by
  have hr := fun x s => sp_read' W x s
  have hg := fun x => sp_isGone W x
  have hnd := fun x => sp_needOf W x
  obtain ⟨-, -, hk, hn⟩ := W
  have st : fX6_runningNeeds [.ref 7, .int x] M = zz_ev tX6_runningNeeds 4 [some (.ref 7), some (.int x), some (.int (zsum 0 fun i => bif decide (rd M 7 (zn i) 28 = x) && (decide (rd M 7 (zn i) 29 = 1) && !gone M 7 (zn i)) then znd (rd M 7 (zn i) 1) else 0)), some (.int (zn 0)), zj none] [] M := by
    rw [s_X6_runningNeeds]
    (simp only [e_X6_runningNeeds, zo_iload, zo_lload, zo_aload, zo_istore, zo_lstore, zo_astore, zo_iinc, zo_pushI, zo_pushL, zo_null, zo_ii, zo_iid, zo_ll, zo_li, zo_lcmp, zo_i2l, zo_l2i, zo_dup, zo_dup2, zo_pop, zo_goto, zo_if, zo_icmp, zo_ifnull, zo_gets, zo_mm, zo_throw, zo_ret, zo_aret, zo_lret, q_iret_f, q_iret_1, q_iret_0, q_iret_b, q_c8_0, q_c8_1, q_c8_2, q_c8_3, q_c8_4, q_set_0, q_set_1i, q_set_1r, q_set_1n, q_set_1N, q_set_s, q_set_1j, q_bk_v, q_bk_n, q_if, zb_ite, cond_true, cond_false, List.getElem?_cons_zero, List.getElem?_cons_succ, Nat.reduceAdd, if_true, if_false, zb_eq0, zb_eq1, zn_1, not_true_eq_false, not_false_eq_true, ite_true, ite_false, if_true, if_false, q_iret_0, q_iret_1, decide_true, decide_false, decide_not, zb_t, zb_f, z10, z01, cond_true, cond_false, Bool.and_true, Bool.true_and, Bool.and_false, Bool.false_and, Bool.not_true, Bool.not_false, true_and, and_true, false_and, and_false, true_or, or_true, false_or, or_false, Bool.true_eq_false, Bool.false_eq_true, eq_self, reduceCtorEq, Bool.or_true, Bool.true_or, Bool.or_false, Bool.false_or])
    rfl
  unfold runN
  obtain ⟨j, lp⟩ := zl_goJ (E := fun i (j : Option Int32) => zz_ev tX6_runningNeeds 4 [some (.ref 7), some (.int x), some (.int (zsum i fun i => bif decide (rd M 7 (zn i) 28 = x) && (decide (rd M 7 (zn i) 29 = 1) && !gone M 7 (zn i)) then znd (rd M 7 (zn i) 1) else 0)), some (.int (zn i)), zj j] [] M) (nv M 7) (fun i hi j => by
    have hc := zk_in hi hn
    refine ⟨some (zb (decide (rd M 7 (zn i) 28 = x) && (decide (rd M 7 (zn i) 29 = 1) && !gone M 7 (zn i)))), ?_⟩
    rw [zsum_s]
    by_cases c1 : rd M 7 (zn i) 28 = x <;> by_cases c2 : rd M 7 (zn i) 29 = 1 <;> cases c3 : gone M 7 (zn i) <;> (rw [e_X6_runningNeeds_4]; simp only [e_X6_runningNeeds, zo_iload, zo_lload, zo_aload, zo_istore, zo_lstore, zo_astore, zo_iinc, zo_pushI, zo_pushL, zo_null, zo_ii, zo_iid, zo_ll, zo_li, zo_lcmp, zo_i2l, zo_l2i, zo_dup, zo_dup2, zo_pop, zo_goto, zo_if, zo_icmp, zo_ifnull, zo_gets, zo_mm, zo_throw, zo_ret, zo_aret, zo_lret, q_iret_f, q_iret_1, q_iret_0, q_iret_b, q_c8_0, q_c8_1, q_c8_2, q_c8_3, q_c8_4, q_set_0, q_set_1i, q_set_1r, q_set_1n, q_set_1N, q_set_s, q_set_1j, q_bk_v, q_bk_n, q_if, zb_ite, cond_true, cond_false, List.getElem?_cons_zero, List.getElem?_cons_succ, Nat.reduceAdd, hk, hc, hr, hg, hnd, c1, c2, c3, zj_some, Int32.add_zero, if_true, if_false, zb_eq0, zb_eq1, zn_1, not_true_eq_false, not_false_eq_true, ite_true, ite_false, if_true, if_false, q_iret_0, q_iret_1, decide_true, decide_false, decide_not, zb_t, zb_f, z10, z01, cond_true, cond_false, Bool.and_true, Bool.true_and, Bool.and_false, Bool.false_and, Bool.not_true, Bool.not_false, true_and, and_true, false_and, and_false, true_or, or_true, false_or, or_false, Bool.true_eq_false, Bool.false_eq_true, eq_self, reduceCtorEq, Bool.or_true, Bool.true_or, Bool.or_false, Bool.false_or])) none
  rw [st, show zz_ev tX6_runningNeeds 4 [some (.ref 7), some (.int x), some (.int (zsum 0 fun i => bif decide (rd M 7 (zn i) 28 = x) && (decide (rd M 7 (zn i) 29 = 1) && !gone M 7 (zn i)) then znd (rd M 7 (zn i) 1) else 0)), some (.int (zn 0)), zj none] [] M = _ from lp]
  have hc := zk_out hn
  (rw [e_X6_runningNeeds_4]; simp only [e_X6_runningNeeds, zo_iload, zo_lload, zo_aload, zo_istore, zo_lstore, zo_astore, zo_iinc, zo_pushI, zo_pushL, zo_null, zo_ii, zo_iid, zo_ll, zo_li, zo_lcmp, zo_i2l, zo_l2i, zo_dup, zo_dup2, zo_pop, zo_goto, zo_if, zo_icmp, zo_ifnull, zo_gets, zo_mm, zo_throw, zo_ret, zo_aret, zo_lret, q_iret_f, q_iret_1, q_iret_0, q_iret_b, q_c8_0, q_c8_1, q_c8_2, q_c8_3, q_c8_4, q_set_0, q_set_1i, q_set_1r, q_set_1n, q_set_1N, q_set_s, q_set_1j, q_bk_v, q_bk_n, q_if, zb_ite, cond_true, cond_false, List.getElem?_cons_zero, List.getElem?_cons_succ, Nat.reduceAdd, hk, hc, if_true, if_false, zb_eq0, zb_eq1, zn_1, not_true_eq_false, not_false_eq_true, ite_true, ite_false, if_true, if_false, q_iret_0, q_iret_1, decide_true, decide_false, decide_not, zb_t, zb_f, z10, z01, cond_true, cond_false, Bool.and_true, Bool.true_and, Bool.and_false, Bool.false_and, Bool.not_true, Bool.not_false, true_and, and_true, false_and, and_false, true_or, or_true, false_or, or_false, Bool.true_eq_false, Bool.false_eq_true, eq_self, reduceCtorEq, Bool.or_true, Bool.true_or, Bool.or_false, Bool.false_or])
def aClr (B A : zzMd) (o : Nat) : Bool × zzMd := bif utd A 4 o then aCh2 A o 28 (-1) 25 (if rd B 7 (zn o) 26 = 1 then rd B 7 (zn o) 25 else 4) else (false, A)
theorem sp_clearPlace {M : zzMd} (W : zIC M) {o : Nat} (ho : o < 60) : ∃ M', fX6_clearPlace [.ref 7, .int (zn o)] M = some (.inl (some (.int (zb (aClr M (nz M) o).1))), M') ∧ nz M' = (aClr M (nz M) o).2 := by
  have hc : 4 < 8 := by decide
  have Wv := zIC_W (zcV hc) W
  simp only [Nat.reduceAdd] at Wv
  have hr := fun x s => sp_read' Wv x s
  have hu := sp_isUpToDate W hc ho
  simp only [Nat.reduceAdd] at hu
  obtain ⟨M', a1, a2⟩ := sp_changeBoth W ho (k := 28) (by decide) (-1) (j := 25) (by decide) (if rd M 7 (zn o) 26 = 1 then rd M 7 (zn o) 25 else 4)
  unfold aClr
  rw [utd_nz hc, s_X6_clearPlace]
  cases c2 : utd M 4 o
  · refine ⟨M, ?_, rfl⟩
    rw [c2] at hu
    by_cases c1 : rd M 7 (zn o) 26 = 1 <;> (simp only [e_X6_clearPlace, zo_iload, zo_lload, zo_aload, zo_istore, zo_lstore, zo_astore, zo_iinc, zo_pushI, zo_pushL, zo_null, zo_ii, zo_iid, zo_ll, zo_li, zo_lcmp, zo_i2l, zo_l2i, zo_dup, zo_dup2, zo_pop, zo_goto, zo_if, zo_icmp, zo_ifnull, zo_gets, zo_mm, zo_throw, zo_ret, zo_aret, zo_lret, q_iret_f, q_iret_1, q_iret_0, q_iret_b, q_c8_0, q_c8_1, q_c8_2, q_c8_3, q_c8_4, q_set_0, q_set_1i, q_set_1r, q_set_1n, q_set_1N, q_set_s, q_set_1j, q_bk_v, q_bk_n, q_if, zb_ite, cond_true, cond_false, List.getElem?_cons_zero, List.getElem?_cons_succ, Nat.reduceAdd, hr, hu, c1, if_true, if_false, zb_eq0, zb_eq1, zn_1, not_true_eq_false, not_false_eq_true, ite_true, ite_false, if_true, if_false, q_iret_0, q_iret_1, decide_true, decide_false, decide_not, zb_t, zb_f, z10, z01, cond_true, cond_false, Bool.and_true, Bool.true_and, Bool.and_false, Bool.false_and, Bool.not_true, Bool.not_false, true_and, and_true, false_and, and_false, true_or, or_true, false_or, or_false, Bool.true_eq_false, Bool.false_eq_true, eq_self, reduceCtorEq, Bool.or_true, Bool.true_or, Bool.or_false, Bool.false_or])
  · refine ⟨M', ?_, a2⟩
    rw [c2] at hu
    rw [cond_true]
    generalize aCh2 (nz M) o 28 (-1) 25 (if rd M 7 (zn o) 26 = 1 then rd M 7 (zn o) 25 else 4) = Q at a1 ⊢
    have a1' : fX9_changeBoth [.ref 1, .int (zn o), .int 28, .int (-1), .int 25, .int (if rd M 7 (zn o) 26 = 1 then rd M 7 (zn o) 25 else 4)] M = some (.inl (some (.int (zb Q.1))), M') := a1
    clear a1 a2
    by_cases c1 : rd M 7 (zn o) 26 = 1
    · rw [if_pos c1] at a1'
      cases c3 : Q.1 <;> (simp only [e_X6_clearPlace, zo_iload, zo_lload, zo_aload, zo_istore, zo_lstore, zo_astore, zo_iinc, zo_pushI, zo_pushL, zo_null, zo_ii, zo_iid, zo_ll, zo_li, zo_lcmp, zo_i2l, zo_l2i, zo_dup, zo_dup2, zo_pop, zo_goto, zo_if, zo_icmp, zo_ifnull, zo_gets, zo_mm, zo_throw, zo_ret, zo_aret, zo_lret, q_iret_f, q_iret_1, q_iret_0, q_iret_b, q_c8_0, q_c8_1, q_c8_2, q_c8_3, q_c8_4, q_set_0, q_set_1i, q_set_1r, q_set_1n, q_set_1N, q_set_s, q_set_1j, q_bk_v, q_bk_n, q_if, zb_ite, cond_true, cond_false, List.getElem?_cons_zero, List.getElem?_cons_succ, Nat.reduceAdd, hr, hu, c1, a1', c3, if_true, if_false, zb_eq0, zb_eq1, zn_1, not_true_eq_false, not_false_eq_true, ite_true, ite_false, if_true, if_false, q_iret_0, q_iret_1, decide_true, decide_false, decide_not, zb_t, zb_f, z10, z01, cond_true, cond_false, Bool.and_true, Bool.true_and, Bool.and_false, Bool.false_and, Bool.not_true, Bool.not_false, true_and, and_true, false_and, and_false, true_or, or_true, false_or, or_false, Bool.true_eq_false, Bool.false_eq_true, eq_self, reduceCtorEq, Bool.or_true, Bool.true_or, Bool.or_false, Bool.false_or])
    · rw [if_neg c1] at a1'
      cases c3 : Q.1 <;> (simp only [e_X6_clearPlace, zo_iload, zo_lload, zo_aload, zo_istore, zo_lstore, zo_astore, zo_iinc, zo_pushI, zo_pushL, zo_null, zo_ii, zo_iid, zo_ll, zo_li, zo_lcmp, zo_i2l, zo_l2i, zo_dup, zo_dup2, zo_pop, zo_goto, zo_if, zo_icmp, zo_ifnull, zo_gets, zo_mm, zo_throw, zo_ret, zo_aret, zo_lret, q_iret_f, q_iret_1, q_iret_0, q_iret_b, q_c8_0, q_c8_1, q_c8_2, q_c8_3, q_c8_4, q_set_0, q_set_1i, q_set_1r, q_set_1n, q_set_1N, q_set_s, q_set_1j, q_bk_v, q_bk_n, q_if, zb_ite, cond_true, cond_false, List.getElem?_cons_zero, List.getElem?_cons_succ, Nat.reduceAdd, hr, hu, c1, a1', c3, if_true, if_false, zb_eq0, zb_eq1, zn_1, not_true_eq_false, not_false_eq_true, ite_true, ite_false, if_true, if_false, q_iret_0, q_iret_1, decide_true, decide_false, decide_not, zb_t, zb_f, z10, z01, cond_true, cond_false, Bool.and_true, Bool.true_and, Bool.and_false, Bool.false_and, Bool.not_true, Bool.not_false, true_and, and_true, false_and, and_false, true_or, or_true, false_or, or_false, Bool.true_eq_false, Bool.false_eq_true, eq_self, reduceCtorEq, Bool.or_true, Bool.true_or, Bool.or_false, Bool.false_or])
def lostN (B : zzMd) (x : Int32) : Bool := gone B 7 x || (decide (rd B 7 x 27 = 0) || decide (rd B 7 x 9 = 1))
def dS4 (B A : zzMd) (o : Nat) : Int32 × zzMd :=
  bif decide (rd B 7 (zn o) 23 = 2) && (!gone B 7 (zn o) && !decide (rd B 7 (zn o) 28 = -1)) then
    bif !decide (rd B 7 (zn o) 25 = 0) then oc2 (aClr B A o)
    else bif lostN B (rd B 7 (zn o) 28) && (decide (rd B 7 (zn o) 29 = 0) || decide (rd B 7 (zn o) 29 = 1)) then oc2 (aSet A 4 o 29 3)
    else bif decide (rd B 7 (zn o) 29 = 0) then oc2 (aSet A 4 o 29 (if rd B 7 (rd B 7 (zn o) 28) 7 < znd (rd B 7 (zn o) 1) + runN B (rd B 7 (zn o) 28) then 3 else 1))
    else (1, A)
  else (1, A)
theorem dS4_nz (M : zzMd) (o : Nat) : dS4 (nz M) (nz M) o = dS4 M (nz M) o := rfl
theorem sp_serve4 {M : zzMd} (W : zIC M) {o : Nat} (ho : o < 60) :
    ∃ M', fX6_serve [.ref 7, .int (zn o)] M = some (.inl (some (.int (dS4 M (nz M) o).1)), M') ∧ nz M' = (dS4 M (nz M) o).2 := by
  have hc : 4 < 8 := by decide
  have Wv := zIC_W (zcV hc) W
  simp only [Nat.reduceAdd] at Wv
  have hr := fun x s => sp_read' Wv x s
  have hg := fun x => sp_isGone Wv x
  have hnd := fun x => sp_needOf Wv x
  have hrn := fun x => sp_runN Wv x
  have hoc := sp_outcomeOf
  rw [s_X6_serve]
  unfold dS4
  by_cases c1 : rd M 7 (zn o) 23 = 2
  · cases c2 : gone M 7 (zn o)
    · by_cases c3 : rd M 7 (zn o) 28 = -1
      · refine ⟨M, ?_, by simp only [c1, c3, not_true_eq_false, not_false_eq_true, ite_true, ite_false, if_true, if_false, q_iret_0, q_iret_1, decide_true, decide_false, decide_not, zb_t, zb_f, z10, z01, cond_true, cond_false, Bool.and_true, Bool.true_and, Bool.and_false, Bool.false_and, Bool.not_true, Bool.not_false, true_and, and_true, false_and, and_false, true_or, or_true, false_or, or_false, Bool.true_eq_false, Bool.false_eq_true, eq_self, reduceCtorEq, Bool.or_true, Bool.true_or, Bool.or_false, Bool.false_or]⟩
        simp only [c1, c3, not_true_eq_false, not_false_eq_true, ite_true, ite_false, if_true, if_false, q_iret_0, q_iret_1, decide_true, decide_false, decide_not, zb_t, zb_f, z10, z01, cond_true, cond_false, Bool.and_true, Bool.true_and, Bool.and_false, Bool.false_and, Bool.not_true, Bool.not_false, true_and, and_true, false_and, and_false, true_or, or_true, false_or, or_false, Bool.true_eq_false, Bool.false_eq_true, eq_self, reduceCtorEq, Bool.or_true, Bool.true_or, Bool.or_false, Bool.false_or]
        (simp only [e_X6_serve, zo_iload, zo_lload, zo_aload, zo_istore, zo_lstore, zo_astore, zo_iinc, zo_pushI, zo_pushL, zo_null, zo_ii, zo_iid, zo_ll, zo_li, zo_lcmp, zo_i2l, zo_l2i, zo_dup, zo_dup2, zo_pop, zo_goto, zo_if, zo_icmp, zo_ifnull, zo_gets, zo_mm, zo_throw, zo_ret, zo_aret, zo_lret, q_iret_f, q_iret_1, q_iret_0, q_iret_b, q_c8_0, q_c8_1, q_c8_2, q_c8_3, q_c8_4, q_set_0, q_set_1i, q_set_1r, q_set_1n, q_set_1N, q_set_s, q_set_1j, q_bk_v, q_bk_n, q_if, zb_ite, cond_true, cond_false, List.getElem?_cons_zero, List.getElem?_cons_succ, Nat.reduceAdd, hr, hg, c1, c2, c3, if_true, if_false, zb_eq0, zb_eq1, zn_1, not_true_eq_false, not_false_eq_true, ite_true, ite_false, if_true, if_false, q_iret_0, q_iret_1, decide_true, decide_false, decide_not, zb_t, zb_f, z10, z01, cond_true, cond_false, Bool.and_true, Bool.true_and, Bool.and_false, Bool.false_and, Bool.not_true, Bool.not_false, true_and, and_true, false_and, and_false, true_or, or_true, false_or, or_false, Bool.true_eq_false, Bool.false_eq_true, eq_self, reduceCtorEq, Bool.or_true, Bool.true_or, Bool.or_false, Bool.false_or])
      simp only [decide_eq_true c1, decide_eq_false c3, Bool.not_false, Bool.and_self, cond_true]
      by_cases c4 : rd M 7 (zn o) 25 = 0
      · simp only [decide_eq_true c4, Bool.not_true, cond_false]
        have s99 : zz_ev tX6_serve 0 [some (.ref 7), some (.int (zn o)), none, none, none, none] [] M = zz_ev tX6_serve 99 [some (.ref 7), some (.int (zn o)), some (.int (rd M 7 (zn o) 28)), some (.int (rd M 7 (zn o) 29)), some (.int (zb (lostN M (rd M 7 (zn o) 28)))), none] [.int (zb (lostN M (rd M 7 (zn o) 28)))] M := by
          unfold lostN
          generalize hZ : (fun b : Int32 => zz_ev tX6_serve 99 [some (.ref 7), some (.int (zn o)), some (.int (rd M 7 (zn o) 28)), some (.int (rd M 7 (zn o) 29)), some (.int b), none] [.int b] M) = Z
          have hZ' : ∀ b : Int32, zz_ev tX6_serve 99 [some (.ref 7), some (.int (zn o)), some (.int (rd M 7 (zn o) 28)), some (.int (rd M 7 (zn o) 29)), some (.int b), none] [.int b] M = Z b := fun b => by rw [← hZ]
          rw [hZ']
          clear hZ
          cases d1 : gone M 7 (rd M 7 (zn o) 28)
          · by_cases d2 : rd M 7 (rd M 7 (zn o) 28) 27 = 0
            · (simp only [e_X6_serve, zo_iload, zo_lload, zo_aload, zo_istore, zo_lstore, zo_astore, zo_iinc, zo_pushI, zo_pushL, zo_null, zo_ii, zo_iid, zo_ll, zo_li, zo_lcmp, zo_i2l, zo_l2i, zo_dup, zo_dup2, zo_pop, zo_goto, zo_if, zo_icmp, zo_ifnull, zo_gets, zo_mm, zo_throw, zo_ret, zo_aret, zo_lret, q_iret_f, q_iret_1, q_iret_0, q_iret_b, q_c8_0, q_c8_1, q_c8_2, q_c8_3, q_c8_4, q_set_0, q_set_1i, q_set_1r, q_set_1n, q_set_1N, q_set_s, q_set_1j, q_bk_v, q_bk_n, q_if, zb_ite, cond_true, cond_false, List.getElem?_cons_zero, List.getElem?_cons_succ, Nat.reduceAdd, ↓hZ', hr, hg, c1, c2, c3, c4, d1, d2, if_true, if_false, zb_eq0, zb_eq1, zn_1, not_true_eq_false, not_false_eq_true, ite_true, ite_false, if_true, if_false, q_iret_0, q_iret_1, decide_true, decide_false, decide_not, zb_t, zb_f, z10, z01, cond_true, cond_false, Bool.and_true, Bool.true_and, Bool.and_false, Bool.false_and, Bool.not_true, Bool.not_false, true_and, and_true, false_and, and_false, true_or, or_true, false_or, or_false, Bool.true_eq_false, Bool.false_eq_true, eq_self, reduceCtorEq, Bool.or_true, Bool.true_or, Bool.or_false, Bool.false_or])
            · by_cases d3 : rd M 7 (rd M 7 (zn o) 28) 9 = 1
              · (simp only [e_X6_serve, zo_iload, zo_lload, zo_aload, zo_istore, zo_lstore, zo_astore, zo_iinc, zo_pushI, zo_pushL, zo_null, zo_ii, zo_iid, zo_ll, zo_li, zo_lcmp, zo_i2l, zo_l2i, zo_dup, zo_dup2, zo_pop, zo_goto, zo_if, zo_icmp, zo_ifnull, zo_gets, zo_mm, zo_throw, zo_ret, zo_aret, zo_lret, q_iret_f, q_iret_1, q_iret_0, q_iret_b, q_c8_0, q_c8_1, q_c8_2, q_c8_3, q_c8_4, q_set_0, q_set_1i, q_set_1r, q_set_1n, q_set_1N, q_set_s, q_set_1j, q_bk_v, q_bk_n, q_if, zb_ite, cond_true, cond_false, List.getElem?_cons_zero, List.getElem?_cons_succ, Nat.reduceAdd, ↓hZ', hr, hg, c1, c2, c3, c4, d1, d2, d3, if_true, if_false, zb_eq0, zb_eq1, zn_1, not_true_eq_false, not_false_eq_true, ite_true, ite_false, if_true, if_false, q_iret_0, q_iret_1, decide_true, decide_false, decide_not, zb_t, zb_f, z10, z01, cond_true, cond_false, Bool.and_true, Bool.true_and, Bool.and_false, Bool.false_and, Bool.not_true, Bool.not_false, true_and, and_true, false_and, and_false, true_or, or_true, false_or, or_false, Bool.true_eq_false, Bool.false_eq_true, eq_self, reduceCtorEq, Bool.or_true, Bool.true_or, Bool.or_false, Bool.false_or])
              · (simp only [e_X6_serve, zo_iload, zo_lload, zo_aload, zo_istore, zo_lstore, zo_astore, zo_iinc, zo_pushI, zo_pushL, zo_null, zo_ii, zo_iid, zo_ll, zo_li, zo_lcmp, zo_i2l, zo_l2i, zo_dup, zo_dup2, zo_pop, zo_goto, zo_if, zo_icmp, zo_ifnull, zo_gets, zo_mm, zo_throw, zo_ret, zo_aret, zo_lret, q_iret_f, q_iret_1, q_iret_0, q_iret_b, q_c8_0, q_c8_1, q_c8_2, q_c8_3, q_c8_4, q_set_0, q_set_1i, q_set_1r, q_set_1n, q_set_1N, q_set_s, q_set_1j, q_bk_v, q_bk_n, q_if, zb_ite, cond_true, cond_false, List.getElem?_cons_zero, List.getElem?_cons_succ, Nat.reduceAdd, ↓hZ', hr, hg, c1, c2, c3, c4, d1, d2, d3, if_true, if_false, zb_eq0, zb_eq1, zn_1, not_true_eq_false, not_false_eq_true, ite_true, ite_false, if_true, if_false, q_iret_0, q_iret_1, decide_true, decide_false, decide_not, zb_t, zb_f, z10, z01, cond_true, cond_false, Bool.and_true, Bool.true_and, Bool.and_false, Bool.false_and, Bool.not_true, Bool.not_false, true_and, and_true, false_and, and_false, true_or, or_true, false_or, or_false, Bool.true_eq_false, Bool.false_eq_true, eq_self, reduceCtorEq, Bool.or_true, Bool.true_or, Bool.or_false, Bool.false_or])
          · (simp only [e_X6_serve, zo_iload, zo_lload, zo_aload, zo_istore, zo_lstore, zo_astore, zo_iinc, zo_pushI, zo_pushL, zo_null, zo_ii, zo_iid, zo_ll, zo_li, zo_lcmp, zo_i2l, zo_l2i, zo_dup, zo_dup2, zo_pop, zo_goto, zo_if, zo_icmp, zo_ifnull, zo_gets, zo_mm, zo_throw, zo_ret, zo_aret, zo_lret, q_iret_f, q_iret_1, q_iret_0, q_iret_b, q_c8_0, q_c8_1, q_c8_2, q_c8_3, q_c8_4, q_set_0, q_set_1i, q_set_1r, q_set_1n, q_set_1N, q_set_s, q_set_1j, q_bk_v, q_bk_n, q_if, zb_ite, cond_true, cond_false, List.getElem?_cons_zero, List.getElem?_cons_succ, Nat.reduceAdd, ↓hZ', hr, hg, c1, c2, c3, c4, d1, if_true, if_false, zb_eq0, zb_eq1, zn_1, not_true_eq_false, not_false_eq_true, ite_true, ite_false, if_true, if_false, q_iret_0, q_iret_1, decide_true, decide_false, decide_not, zb_t, zb_f, z10, z01, cond_true, cond_false, Bool.and_true, Bool.true_and, Bool.and_false, Bool.false_and, Bool.not_true, Bool.not_false, true_and, and_true, false_and, and_false, true_or, or_true, false_or, or_false, Bool.true_eq_false, Bool.false_eq_true, eq_self, reduceCtorEq, Bool.or_true, Bool.true_or, Bool.or_false, Bool.false_or])
        rw [s99]
        clear s99
        have q3 : rd M 7 (zn o) 29 ≠ 3 → ∃ M', fX2_set [.ref 7, .int (zn o), .int 29, .int 3] M = some (.inl (some (.int (zb (aSet (nz M) 4 o 29 3).1))), M') ∧ nz M' = (aSet (nz M) 4 o 29 3).2 := fun h => sp_set W hc ho (k := 29) (by decide) 3 h
        have q1 : rd M 7 (zn o) 29 ≠ 1 → ∃ M', fX2_set [.ref 7, .int (zn o), .int 29, .int 1] M = some (.inl (some (.int (zb (aSet (nz M) 4 o 29 1).1))), M') ∧ nz M' = (aSet (nz M) 4 o 29 1).2 := fun h => sp_set W hc ho (k := 29) (by decide) 1 h
        have n01 : ((0 : Int32) = 1) = False := eq_false (by decide)
        have n10 : ((1 : Int32) = 0) = False := eq_false (by decide)
        cases d1 : lostN M (rd M 7 (zn o) 28)
        · by_cases d2 : rd M 7 (zn o) 29 = 0
          · obtain ⟨M1, a1', a2⟩ := q3 (by rw [d2]; decide)
            obtain ⟨M2, b1', b2⟩ := q1 (by rw [d2]; decide)
            clear q3 q1
            simp only [d2, not_true_eq_false, not_false_eq_true, ite_true, ite_false, if_true, if_false, q_iret_0, q_iret_1, decide_true, decide_false, decide_not, zb_t, zb_f, z10, z01, cond_true, cond_false, Bool.and_true, Bool.true_and, Bool.and_false, Bool.false_and, Bool.not_true, Bool.not_false, true_and, and_true, false_and, and_false, true_or, or_true, false_or, or_false, Bool.true_eq_false, Bool.false_eq_true, eq_self, reduceCtorEq, Bool.or_true, Bool.true_or, Bool.or_false, Bool.false_or]
            by_cases d3 : rd M 7 (rd M 7 (zn o) 28) 7 < znd (rd M 7 (zn o) 1) + runN M (rd M 7 (zn o) 28)
            · rw [if_pos d3]
              refine ⟨M1, ?_, a2⟩
              (simp only [e_X6_serve, zo_iload, zo_lload, zo_aload, zo_istore, zo_lstore, zo_astore, zo_iinc, zo_pushI, zo_pushL, zo_null, zo_ii, zo_iid, zo_ll, zo_li, zo_lcmp, zo_i2l, zo_l2i, zo_dup, zo_dup2, zo_pop, zo_goto, zo_if, zo_icmp, zo_ifnull, zo_gets, zo_mm, zo_throw, zo_ret, zo_aret, zo_lret, q_iret_f, q_iret_1, q_iret_0, q_iret_b, q_c8_0, q_c8_1, q_c8_2, q_c8_3, q_c8_4, q_set_0, q_set_1i, q_set_1r, q_set_1n, q_set_1N, q_set_s, q_set_1j, q_bk_v, q_bk_n, q_if, zb_ite, cond_true, cond_false, List.getElem?_cons_zero, List.getElem?_cons_succ, Nat.reduceAdd, hr, hnd, hrn, d3, a1', hoc, oc2, if_true, if_false, zb_eq0, zb_eq1, zn_1, not_true_eq_false, not_false_eq_true, ite_true, ite_false, if_true, if_false, q_iret_0, q_iret_1, decide_true, decide_false, decide_not, zb_t, zb_f, z10, z01, cond_true, cond_false, Bool.and_true, Bool.true_and, Bool.and_false, Bool.false_and, Bool.not_true, Bool.not_false, true_and, and_true, false_and, and_false, true_or, or_true, false_or, or_false, Bool.true_eq_false, Bool.false_eq_true, eq_self, reduceCtorEq, Bool.or_true, Bool.true_or, Bool.or_false, Bool.false_or])
            · rw [if_neg d3]
              refine ⟨M2, ?_, b2⟩
              (simp only [e_X6_serve, zo_iload, zo_lload, zo_aload, zo_istore, zo_lstore, zo_astore, zo_iinc, zo_pushI, zo_pushL, zo_null, zo_ii, zo_iid, zo_ll, zo_li, zo_lcmp, zo_i2l, zo_l2i, zo_dup, zo_dup2, zo_pop, zo_goto, zo_if, zo_icmp, zo_ifnull, zo_gets, zo_mm, zo_throw, zo_ret, zo_aret, zo_lret, q_iret_f, q_iret_1, q_iret_0, q_iret_b, q_c8_0, q_c8_1, q_c8_2, q_c8_3, q_c8_4, q_set_0, q_set_1i, q_set_1r, q_set_1n, q_set_1N, q_set_s, q_set_1j, q_bk_v, q_bk_n, q_if, zb_ite, cond_true, cond_false, List.getElem?_cons_zero, List.getElem?_cons_succ, Nat.reduceAdd, hr, hnd, hrn, d3, b1', hoc, oc2, if_true, if_false, zb_eq0, zb_eq1, zn_1, not_true_eq_false, not_false_eq_true, ite_true, ite_false, if_true, if_false, q_iret_0, q_iret_1, decide_true, decide_false, decide_not, zb_t, zb_f, z10, z01, cond_true, cond_false, Bool.and_true, Bool.true_and, Bool.and_false, Bool.false_and, Bool.not_true, Bool.not_false, true_and, and_true, false_and, and_false, true_or, or_true, false_or, or_false, Bool.true_eq_false, Bool.false_eq_true, eq_self, reduceCtorEq, Bool.or_true, Bool.true_or, Bool.or_false, Bool.false_or])
          · simp only [d2, not_true_eq_false, not_false_eq_true, ite_true, ite_false, if_true, if_false, q_iret_0, q_iret_1, decide_true, decide_false, decide_not, zb_t, zb_f, z10, z01, cond_true, cond_false, Bool.and_true, Bool.true_and, Bool.and_false, Bool.false_and, Bool.not_true, Bool.not_false, true_and, and_true, false_and, and_false, true_or, or_true, false_or, or_false, Bool.true_eq_false, Bool.false_eq_true, eq_self, reduceCtorEq, Bool.or_true, Bool.true_or, Bool.or_false, Bool.false_or]
            refine ⟨M, ?_, rfl⟩
            (simp only [e_X6_serve, zo_iload, zo_lload, zo_aload, zo_istore, zo_lstore, zo_astore, zo_iinc, zo_pushI, zo_pushL, zo_null, zo_ii, zo_iid, zo_ll, zo_li, zo_lcmp, zo_i2l, zo_l2i, zo_dup, zo_dup2, zo_pop, zo_goto, zo_if, zo_icmp, zo_ifnull, zo_gets, zo_mm, zo_throw, zo_ret, zo_aret, zo_lret, q_iret_f, q_iret_1, q_iret_0, q_iret_b, q_c8_0, q_c8_1, q_c8_2, q_c8_3, q_c8_4, q_set_0, q_set_1i, q_set_1r, q_set_1n, q_set_1N, q_set_s, q_set_1j, q_bk_v, q_bk_n, q_if, zb_ite, cond_true, cond_false, List.getElem?_cons_zero, List.getElem?_cons_succ, Nat.reduceAdd, d2, if_true, if_false, zb_eq0, zb_eq1, zn_1, not_true_eq_false, not_false_eq_true, ite_true, ite_false, if_true, if_false, q_iret_0, q_iret_1, decide_true, decide_false, decide_not, zb_t, zb_f, z10, z01, cond_true, cond_false, Bool.and_true, Bool.true_and, Bool.and_false, Bool.false_and, Bool.not_true, Bool.not_false, true_and, and_true, false_and, and_false, true_or, or_true, false_or, or_false, Bool.true_eq_false, Bool.false_eq_true, eq_self, reduceCtorEq, Bool.or_true, Bool.true_or, Bool.or_false, Bool.false_or])
        · by_cases d2 : rd M 7 (zn o) 29 = 0
          · obtain ⟨M1, a1', a2⟩ := q3 (by rw [d2]; decide)
            clear q3 q1
            simp only [d2, not_true_eq_false, not_false_eq_true, ite_true, ite_false, if_true, if_false, q_iret_0, q_iret_1, decide_true, decide_false, decide_not, zb_t, zb_f, z10, z01, cond_true, cond_false, Bool.and_true, Bool.true_and, Bool.and_false, Bool.false_and, Bool.not_true, Bool.not_false, true_and, and_true, false_and, and_false, true_or, or_true, false_or, or_false, Bool.true_eq_false, Bool.false_eq_true, eq_self, reduceCtorEq, Bool.or_true, Bool.true_or, Bool.or_false, Bool.false_or]
            refine ⟨M1, ?_, a2⟩
            (simp only [e_X6_serve, zo_iload, zo_lload, zo_aload, zo_istore, zo_lstore, zo_astore, zo_iinc, zo_pushI, zo_pushL, zo_null, zo_ii, zo_iid, zo_ll, zo_li, zo_lcmp, zo_i2l, zo_l2i, zo_dup, zo_dup2, zo_pop, zo_goto, zo_if, zo_icmp, zo_ifnull, zo_gets, zo_mm, zo_throw, zo_ret, zo_aret, zo_lret, q_iret_f, q_iret_1, q_iret_0, q_iret_b, q_c8_0, q_c8_1, q_c8_2, q_c8_3, q_c8_4, q_set_0, q_set_1i, q_set_1r, q_set_1n, q_set_1N, q_set_s, q_set_1j, q_bk_v, q_bk_n, q_if, zb_ite, cond_true, cond_false, List.getElem?_cons_zero, List.getElem?_cons_succ, Nat.reduceAdd, a1', hoc, oc2, if_true, if_false, zb_eq0, zb_eq1, zn_1, not_true_eq_false, not_false_eq_true, ite_true, ite_false, if_true, if_false, q_iret_0, q_iret_1, decide_true, decide_false, decide_not, zb_t, zb_f, z10, z01, cond_true, cond_false, Bool.and_true, Bool.true_and, Bool.and_false, Bool.false_and, Bool.not_true, Bool.not_false, true_and, and_true, false_and, and_false, true_or, or_true, false_or, or_false, Bool.true_eq_false, Bool.false_eq_true, eq_self, reduceCtorEq, Bool.or_true, Bool.true_or, Bool.or_false, Bool.false_or])
          · by_cases d3 : rd M 7 (zn o) 29 = 1
            · obtain ⟨M1, a1', a2⟩ := q3 (by rw [d3]; decide)
              clear q3 q1
              simp only [d3, n10, not_true_eq_false, not_false_eq_true, ite_true, ite_false, if_true, if_false, q_iret_0, q_iret_1, decide_true, decide_false, decide_not, zb_t, zb_f, z10, z01, cond_true, cond_false, Bool.and_true, Bool.true_and, Bool.and_false, Bool.false_and, Bool.not_true, Bool.not_false, true_and, and_true, false_and, and_false, true_or, or_true, false_or, or_false, Bool.true_eq_false, Bool.false_eq_true, eq_self, reduceCtorEq, Bool.or_true, Bool.true_or, Bool.or_false, Bool.false_or]
              refine ⟨M1, ?_, a2⟩
              (simp only [e_X6_serve, zo_iload, zo_lload, zo_aload, zo_istore, zo_lstore, zo_astore, zo_iinc, zo_pushI, zo_pushL, zo_null, zo_ii, zo_iid, zo_ll, zo_li, zo_lcmp, zo_i2l, zo_l2i, zo_dup, zo_dup2, zo_pop, zo_goto, zo_if, zo_icmp, zo_ifnull, zo_gets, zo_mm, zo_throw, zo_ret, zo_aret, zo_lret, q_iret_f, q_iret_1, q_iret_0, q_iret_b, q_c8_0, q_c8_1, q_c8_2, q_c8_3, q_c8_4, q_set_0, q_set_1i, q_set_1r, q_set_1n, q_set_1N, q_set_s, q_set_1j, q_bk_v, q_bk_n, q_if, zb_ite, cond_true, cond_false, List.getElem?_cons_zero, List.getElem?_cons_succ, Nat.reduceAdd, n10, a1', hoc, oc2, if_true, if_false, zb_eq0, zb_eq1, zn_1, not_true_eq_false, not_false_eq_true, ite_true, ite_false, if_true, if_false, q_iret_0, q_iret_1, decide_true, decide_false, decide_not, zb_t, zb_f, z10, z01, cond_true, cond_false, Bool.and_true, Bool.true_and, Bool.and_false, Bool.false_and, Bool.not_true, Bool.not_false, true_and, and_true, false_and, and_false, true_or, or_true, false_or, or_false, Bool.true_eq_false, Bool.false_eq_true, eq_self, reduceCtorEq, Bool.or_true, Bool.true_or, Bool.or_false, Bool.false_or])
            · simp only [d2, d3, not_true_eq_false, not_false_eq_true, ite_true, ite_false, if_true, if_false, q_iret_0, q_iret_1, decide_true, decide_false, decide_not, zb_t, zb_f, z10, z01, cond_true, cond_false, Bool.and_true, Bool.true_and, Bool.and_false, Bool.false_and, Bool.not_true, Bool.not_false, true_and, and_true, false_and, and_false, true_or, or_true, false_or, or_false, Bool.true_eq_false, Bool.false_eq_true, eq_self, reduceCtorEq, Bool.or_true, Bool.true_or, Bool.or_false, Bool.false_or]
              refine ⟨M, ?_, rfl⟩
              (simp only [e_X6_serve, zo_iload, zo_lload, zo_aload, zo_istore, zo_lstore, zo_astore, zo_iinc, zo_pushI, zo_pushL, zo_null, zo_ii, zo_iid, zo_ll, zo_li, zo_lcmp, zo_i2l, zo_l2i, zo_dup, zo_dup2, zo_pop, zo_goto, zo_if, zo_icmp, zo_ifnull, zo_gets, zo_mm, zo_throw, zo_ret, zo_aret, zo_lret, q_iret_f, q_iret_1, q_iret_0, q_iret_b, q_c8_0, q_c8_1, q_c8_2, q_c8_3, q_c8_4, q_set_0, q_set_1i, q_set_1r, q_set_1n, q_set_1N, q_set_s, q_set_1j, q_bk_v, q_bk_n, q_if, zb_ite, cond_true, cond_false, List.getElem?_cons_zero, List.getElem?_cons_succ, Nat.reduceAdd, d2, d3, if_true, if_false, zb_eq0, zb_eq1, zn_1, not_true_eq_false, not_false_eq_true, ite_true, ite_false, if_true, if_false, q_iret_0, q_iret_1, decide_true, decide_false, decide_not, zb_t, zb_f, z10, z01, cond_true, cond_false, Bool.and_true, Bool.true_and, Bool.and_false, Bool.false_and, Bool.not_true, Bool.not_false, true_and, and_true, false_and, and_false, true_or, or_true, false_or, or_false, Bool.true_eq_false, Bool.false_eq_true, eq_self, reduceCtorEq, Bool.or_true, Bool.true_or, Bool.or_false, Bool.false_or])
      · simp only [decide_eq_false c4, Bool.not_false, cond_true]
        obtain ⟨M1, a1, a2⟩ := sp_clearPlace W ho
        refine ⟨M1, ?_, a2⟩
        (simp only [e_X6_serve, zo_iload, zo_lload, zo_aload, zo_istore, zo_lstore, zo_astore, zo_iinc, zo_pushI, zo_pushL, zo_null, zo_ii, zo_iid, zo_ll, zo_li, zo_lcmp, zo_i2l, zo_l2i, zo_dup, zo_dup2, zo_pop, zo_goto, zo_if, zo_icmp, zo_ifnull, zo_gets, zo_mm, zo_throw, zo_ret, zo_aret, zo_lret, q_iret_f, q_iret_1, q_iret_0, q_iret_b, q_c8_0, q_c8_1, q_c8_2, q_c8_3, q_c8_4, q_set_0, q_set_1i, q_set_1r, q_set_1n, q_set_1N, q_set_s, q_set_1j, q_bk_v, q_bk_n, q_if, zb_ite, cond_true, cond_false, List.getElem?_cons_zero, List.getElem?_cons_succ, Nat.reduceAdd, hr, hg, c1, c2, c3, c4, a1, hoc, oc2, if_true, if_false, zb_eq0, zb_eq1, zn_1, not_true_eq_false, not_false_eq_true, ite_true, ite_false, if_true, if_false, q_iret_0, q_iret_1, decide_true, decide_false, decide_not, zb_t, zb_f, z10, z01, cond_true, cond_false, Bool.and_true, Bool.true_and, Bool.and_false, Bool.false_and, Bool.not_true, Bool.not_false, true_and, and_true, false_and, and_false, true_or, or_true, false_or, or_false, Bool.true_eq_false, Bool.false_eq_true, eq_self, reduceCtorEq, Bool.or_true, Bool.true_or, Bool.or_false, Bool.false_or])
    · refine ⟨M, ?_, by simp only [Bool.not_true, Bool.false_and, Bool.and_false, cond_false]⟩
      simp only [Bool.not_true, Bool.false_and, Bool.and_false, cond_false]
      (simp only [e_X6_serve, zo_iload, zo_lload, zo_aload, zo_istore, zo_lstore, zo_astore, zo_iinc, zo_pushI, zo_pushL, zo_null, zo_ii, zo_iid, zo_ll, zo_li, zo_lcmp, zo_i2l, zo_l2i, zo_dup, zo_dup2, zo_pop, zo_goto, zo_if, zo_icmp, zo_ifnull, zo_gets, zo_mm, zo_throw, zo_ret, zo_aret, zo_lret, q_iret_f, q_iret_1, q_iret_0, q_iret_b, q_c8_0, q_c8_1, q_c8_2, q_c8_3, q_c8_4, q_set_0, q_set_1i, q_set_1r, q_set_1n, q_set_1N, q_set_s, q_set_1j, q_bk_v, q_bk_n, q_if, zb_ite, cond_true, cond_false, List.getElem?_cons_zero, List.getElem?_cons_succ, Nat.reduceAdd, hr, hg, c1, c2, if_true, if_false, zb_eq0, zb_eq1, zn_1, not_true_eq_false, not_false_eq_true, ite_true, ite_false, if_true, if_false, q_iret_0, q_iret_1, decide_true, decide_false, decide_not, zb_t, zb_f, z10, z01, cond_true, cond_false, Bool.and_true, Bool.true_and, Bool.and_false, Bool.false_and, Bool.not_true, Bool.not_false, true_and, and_true, false_and, and_false, true_or, or_true, false_or, or_false, Bool.true_eq_false, Bool.false_eq_true, eq_self, reduceCtorEq, Bool.or_true, Bool.true_or, Bool.or_false, Bool.false_or])
  · refine ⟨M, ?_, by simp only [decide_eq_false c1, Bool.false_and, cond_false]⟩
    simp only [decide_eq_false c1, Bool.false_and, cond_false]
    (simp only [e_X6_serve, zo_iload, zo_lload, zo_aload, zo_istore, zo_lstore, zo_astore, zo_iinc, zo_pushI, zo_pushL, zo_null, zo_ii, zo_iid, zo_ll, zo_li, zo_lcmp, zo_i2l, zo_l2i, zo_dup, zo_dup2, zo_pop, zo_goto, zo_if, zo_icmp, zo_ifnull, zo_gets, zo_mm, zo_throw, zo_ret, zo_aret, zo_lret, q_iret_f, q_iret_1, q_iret_0, q_iret_b, q_c8_0, q_c8_1, q_c8_2, q_c8_3, q_c8_4, q_set_0, q_set_1i, q_set_1r, q_set_1n, q_set_1N, q_set_s, q_set_1j, q_bk_v, q_bk_n, q_if, zb_ite, cond_true, cond_false, List.getElem?_cons_zero, List.getElem?_cons_succ, Nat.reduceAdd, hr, c1, if_true, if_false, zb_eq0, zb_eq1, zn_1, not_true_eq_false, not_false_eq_true, ite_true, ite_false, if_true, if_false, q_iret_0, q_iret_1, decide_true, decide_false, decide_not, zb_t, zb_f, z10, z01, cond_true, cond_false, Bool.and_true, Bool.true_and, Bool.and_false, Bool.false_and, Bool.not_true, Bool.not_false, true_and, and_true, false_and, and_false, true_or, or_true, false_or, or_false, Bool.true_eq_false, Bool.false_eq_true, eq_self, reduceCtorEq, Bool.or_true, Bool.true_or, Bool.or_false, Bool.false_or])
theorem zIC_S4 {A B : zzMd} {o : Nat} (ho : o < 60) (h : zIC A) : zIC (dS4 B A o).2 := by
  unfold dS4
  cases decide (rd B 7 (zn o) 23 = 2) && (!gone B 7 (zn o) && !decide (rd B 7 (zn o) 28 = -1))
  · exact h
  cases !decide (rd B 7 (zn o) 25 = 0)
  · cases lostN B (rd B 7 (zn o) 28) && (decide (rd B 7 (zn o) 29 = 0) || decide (rd B 7 (zn o) 29 = 1))
    · cases decide (rd B 7 (zn o) 29 = 0)
      · exact h
      · exact zIC_Set ho h
    · exact zIC_Set ho h
  · show zIC (aClr B A o).2
    unfold aClr
    cases utd A 4 o
    · exact h
    · exact zIC_Wr ho h
/-! what a controller has seen stands while the store writes -/
def zLe (A : zzMd) (c : Nat) : Prop := ∀ o, o < 60 → zz_ix (A.1 (21 + 6 * c) o) ≤ ve A 1
theorem Wr_log {A : zzMd} {o : Nat} {D : Nat → Int32} {k s : Nat} (hk : k ≤ ve A 1) (hs : s < 32) : (aWr A o D).2.1 14 (k * 32 + s) = A.1 14 (k * 32 + s) := by
  unfold aWr put
  cases zall 32 fun s => decide (dOw D s = row A o s)
  · cases decide (400 ≤ ve A 1)
    · show (tkIn (logSet A (ve A 1 + 1) (dOw D)) 1 o (ve A 1 + 1)).1 14 (k * 32 + s) = _
      rw [tk_1, if_neg (by omega), if_neg (by omega), if_neg (fun z => absurd z.1 (by decide))]
      exact if_neg (by omega)
    · rfl
  · rfl
theorem Wr_ve {A : zzMd} {o : Nat} {D : Nat → Int32} (h4 : ve A 1 ≤ 400) : ve A 1 ≤ ve (aWr A o D).2 1 := by
  unfold aWr put
  cases zall 32 fun s => decide (dOw D s = row A o s)
  · by_cases he : 400 ≤ ve A 1
    · rw [decide_eq_true he]; exact Nat.le_refl _
    · rw [decide_eq_false he]
      show ve A 1 ≤ ve (tkIn (logSet A (ve A 1 + 1) (dOw D)) 1 o (ve A 1 + 1)) 1
      have e : ve (tkIn (logSet A (ve A 1 + 1) (dOw D)) 1 o (ve A 1 + 1)) 1 = zz_ix (zn (ve A 1 + 1)) := congrArg zz_ix (tk_1.trans (if_pos ⟨rfl, rfl⟩))
      rw [e, zn_ix (by omega)]
      omega
  · exact Nat.le_refl _
theorem rd_lat {A B : zzMd} {c : Nat} (hc : c < 8) (h1 : ∀ b, B.1 (21 + 6 * c) b = A.1 (21 + 6 * c) b) (h2 : ∀ o s, o < 60 → s < 32 → B.1 14 (zz_ix (A.1 (21 + 6 * c) o) * 32 + s) = A.1 14 (zz_ix (A.1 (21 + 6 * c) o) * 32 + s)) (x s : Int32) : rd B (3 + c) x s = rd A (3 + c) x s := by
  unfold rd
  rw [zcL hc]
  by_cases c1 : x < 0 ∨ 60 ≤ x ∨ s < 0 ∨ 32 ≤ s
  · rw [if_pos c1, if_pos c1]
  · rw [if_neg c1, if_neg c1, h1]
    have e : (32 : Int32).toInt = 32 := rfl
    have a := zi_nat (x := x) (fun q => c1 (Or.inl q)) (fun q => c1 (Or.inr (Or.inl q)))
    have b := (zi_rng (x := s) (n := 32) (fun q => c1 (Or.inr (Or.inr (Or.inl q)))) (fun q => c1 (Or.inr (Or.inr (Or.inr q))))).2
    exact h2 _ _ a.2 (by omega)
/-- what a controller sees of B as of A -/
def zKp (c : Nat) (A B : zzMd) : Prop := (∀ x s, rd B (3 + c) x s = rd A (3 + c) x s) ∧ nv B (3 + c) = nv A (3 + c) ∧ zLe B c ∧ zIC B
theorem zKp_refl {c : Nat} {A : zzMd} (L : zLe A c) (W : zIC A) : zKp c A A := ⟨fun _ _ => rfl, rfl, L, W⟩
theorem zKp_trans {c : Nat} {A B C : zzMd} (h1 : zKp c A B) (h2 : zKp c B C) : zKp c A C := ⟨fun x s => (h2.1 x s).trans (h1.1 x s), h2.2.1.trans h1.2.1, h2.2.2⟩
theorem Kp_Wr {A : zzMd} {c o : Nat} {D : Nat → Int32} (hc : c < 8) (ho : o < 60) (L : zLe A c) (W : zIC A) : zKp c A (aWr A o D).2 := by
  have e1 : ∀ b, (aWr A o D).2.1 (21 + 6 * c) b = A.1 (21 + 6 * c) b := fun b => Wr_o (by omega) (by omega) (by omega)
  refine ⟨rd_lat hc e1 fun o s ho hs => Wr_log (L o ho) hs, ?_, fun q hq => ?_, zIC_Wr ho W⟩
  · unfold nv
    rw [Wr_o (a := 3 + c) (b := 2) (by omega) (by omega) (by omega)]
  · rw [e1]
    exact Nat.le_trans (L q hq) (Wr_ve W.1.2.2.2)
theorem Kp_Set {A : zzMd} {c o k : Nat} {x : Int32} (hc : c < 8) (ho : o < 60) (L : zLe A c) (W : zIC A) : zKp c A (aSet A c o k x).2 := by
  unfold aSet
  cases decide (rd A (3 + c) (zn o) (zn k) = x) <;> cases utd A c o
  · exact zKp_refl L W
  · exact Kp_Wr hc ho L W
  · exact zKp_refl L W
  · exact zKp_refl L W
theorem zl_actJ {α J : Type} {E : Nat → J → zzMd → α} {R : zzMd → α} {act : Nat → zzMd → Bool × zzMd} {I : zzMd → Prop} : ∀ (n : Nat), (∀ i, i < n → ∀ M j, I (nz M) → ∃ M' j', E i j M = (bif (act i (nz M)).1 then E (i + 1) j' M' else R M') ∧ nz M' = (act i (nz M)).2 ∧ I (nz M')) →
    ∀ M j, I (nz M) → ∃ M' j', E 0 j M = (bif (acts act n (nz M)).1 then E n j' M' else R M') ∧ nz M' = (acts act n (nz M)).2 ∧ I (nz M')
  | 0, _, M, j, h0 => ⟨M, j, rfl, rfl, h0⟩
  | n + 1, h, M, j, h0 => by
    obtain ⟨M1, j1, a1, a2, a3⟩ := zl_actJ n (fun i hi => h i (Nat.lt_succ_of_lt hi)) M j h0
    rw [acts_s]
    cases c : (acts act n (nz M)).1
    · rw [c] at a1
      exact ⟨M1, j1, by rw [cond_false, c]; exact a1, a2, a3⟩
    · rw [c] at a1
      obtain ⟨M2, j2, b1, b2, b3⟩ := h n (Nat.lt_succ_self n) M1 j1 a3
      rw [a2] at b1 b2
      exact ⟨M2, j2, a1.trans b1, b2, b3⟩
def own1 (B : zzMd) (x : Int32) : Bool := match zfst (nv B 8) fun i => decide (rd B 8 (zn i) 24 = x) with
  | some _ => true
  | none => false
theorem sp_ownsSome {M : zzMd} (W : zVw M 8 (nv M 8)) (x : Int32) : fX1_ownsSome [.ref 8, .int x] M = some (.inl (some (.int (zb (own1 M x)))), M) := by
  have hr := fun x s => sp_read' W x s
  obtain ⟨-, -, hk, hn⟩ := W
  have lp := zl_fst (E := fun i => zz_ev tX1_ownsSome 2 [some (.ref 8), some (.int x), some (.int (zn i))] [] M) (P := fun i => decide (rd M 8 (zn i) 24 = x)) (r := fun i => some (.inl (some (.int 1)), M)) (nv M 8) (fun i hi => by
    have hc := zk_in hi hn
    by_cases c1 : rd M 8 (zn i) 24 = x <;> (rw [e_X1_ownsSome_2]; simp only [e_X1_ownsSome, zo_iload, zo_lload, zo_aload, zo_istore, zo_lstore, zo_astore, zo_iinc, zo_pushI, zo_pushL, zo_null, zo_ii, zo_iid, zo_ll, zo_li, zo_lcmp, zo_i2l, zo_l2i, zo_dup, zo_dup2, zo_pop, zo_goto, zo_if, zo_icmp, zo_ifnull, zo_gets, zo_mm, zo_throw, zo_ret, zo_aret, zo_lret, q_iret_f, q_iret_1, q_iret_0, q_iret_b, q_c8_0, q_c8_1, q_c8_2, q_c8_3, q_c8_4, q_set_0, q_set_1i, q_set_1r, q_set_1n, q_set_1N, q_set_s, q_set_1j, q_bk_v, q_bk_n, q_if, zb_ite, cond_true, cond_false, List.getElem?_cons_zero, List.getElem?_cons_succ, Nat.reduceAdd, hk, hc, hr, c1, if_true, if_false, zb_eq0, zb_eq1, zn_1, not_true_eq_false, not_false_eq_true, ite_true, ite_false, if_true, if_false, q_iret_0, q_iret_1, decide_true, decide_false, decide_not, zb_t, zb_f, z10, z01, cond_true, cond_false, Bool.and_true, Bool.true_and, Bool.and_false, Bool.false_and, Bool.not_true, Bool.not_false, true_and, and_true, false_and, and_false, true_or, or_true, false_or, or_false, Bool.true_eq_false, Bool.false_eq_true, eq_self, reduceCtorEq, Bool.or_true, Bool.true_or, Bool.or_false, Bool.false_or]))
  have st : fX1_ownsSome [.ref 8, .int x] M = zz_ev tX1_ownsSome 2 [some (.ref 8), some (.int x), some (.int (zn 0))] [] M := by
    rw [s_X1_ownsSome]
    (simp only [e_X1_ownsSome, zo_iload, zo_lload, zo_aload, zo_istore, zo_lstore, zo_astore, zo_iinc, zo_pushI, zo_pushL, zo_null, zo_ii, zo_iid, zo_ll, zo_li, zo_lcmp, zo_i2l, zo_l2i, zo_dup, zo_dup2, zo_pop, zo_goto, zo_if, zo_icmp, zo_ifnull, zo_gets, zo_mm, zo_throw, zo_ret, zo_aret, zo_lret, q_iret_f, q_iret_1, q_iret_0, q_iret_b, q_c8_0, q_c8_1, q_c8_2, q_c8_3, q_c8_4, q_set_0, q_set_1i, q_set_1r, q_set_1n, q_set_1N, q_set_s, q_set_1j, q_bk_v, q_bk_n, q_if, zb_ite, cond_true, cond_false, List.getElem?_cons_zero, List.getElem?_cons_succ, Nat.reduceAdd, if_true, if_false, zb_eq0, zb_eq1, zn_1, not_true_eq_false, not_false_eq_true, ite_true, ite_false, if_true, if_false, q_iret_0, q_iret_1, decide_true, decide_false, decide_not, zb_t, zb_f, z10, z01, cond_true, cond_false, Bool.and_true, Bool.true_and, Bool.and_false, Bool.false_and, Bool.not_true, Bool.not_false, true_and, and_true, false_and, and_false, true_or, or_true, false_or, or_false, Bool.true_eq_false, Bool.false_eq_true, eq_self, reduceCtorEq, Bool.or_true, Bool.true_or, Bool.or_false, Bool.false_or])
    rfl
  rw [st, show zz_ev tX1_ownsSome 2 [some (.ref 8), some (.int x), some (.int (zn 0))] [] M = _ from lp]
  unfold own1
  cases zfst (nv M 8) (fun i => decide (rd M 8 (zn i) 24 = x)) with
  | some k => rfl
  | none =>
    have hc := zk_out hn
    show zz_ev tX1_ownsSome 2 [some (.ref 8), some (.int x), some (.int (zn (nv M 8)))] [] M = _
    (rw [e_X1_ownsSome_2]; simp only [e_X1_ownsSome, zo_iload, zo_lload, zo_aload, zo_istore, zo_lstore, zo_astore, zo_iinc, zo_pushI, zo_pushL, zo_null, zo_ii, zo_iid, zo_ll, zo_li, zo_lcmp, zo_i2l, zo_l2i, zo_dup, zo_dup2, zo_pop, zo_goto, zo_if, zo_icmp, zo_ifnull, zo_gets, zo_mm, zo_throw, zo_ret, zo_aret, zo_lret, q_iret_f, q_iret_1, q_iret_0, q_iret_b, q_c8_0, q_c8_1, q_c8_2, q_c8_3, q_c8_4, q_set_0, q_set_1i, q_set_1r, q_set_1n, q_set_1N, q_set_s, q_set_1j, q_bk_v, q_bk_n, q_if, zb_ite, cond_true, cond_false, List.getElem?_cons_zero, List.getElem?_cons_succ, Nat.reduceAdd, hk, hc, if_true, if_false, zb_eq0, zb_eq1, zn_1, not_true_eq_false, not_false_eq_true, ite_true, ite_false, if_true, if_false, q_iret_0, q_iret_1, decide_true, decide_false, decide_not, zb_t, zb_f, z10, z01, cond_true, cond_false, Bool.and_true, Bool.true_and, Bool.and_false, Bool.false_and, Bool.not_true, Bool.not_false, true_and, and_true, false_and, and_false, true_or, or_true, false_or, or_false, Bool.true_eq_false, Bool.false_eq_true, eq_self, reduceCtorEq, Bool.or_true, Bool.true_or, Bool.or_false, Bool.false_or])
def actD (B : zzMd) (o i : Nat) (A : zzMd) : Bool × zzMd := bif decide (rd B 8 (zn i) 24 = zn o) && decide (rd B 8 (zn i) 25 = 0) then aSet A 5 i 25 1 else (true, A)
def actO (B : zzMd) (o i : Nat) (A : zzMd) : Bool × zzMd := bif decide (rd B 8 (zn i) 24 = zn o) then aSet A 5 i 24 (-1) else (true, A)
theorem Kp_D {B A : zzMd} {o i : Nat} (hi : i < 60) (h : zKp 5 B A) : zKp 5 B (actD B o i A).2 := by
  unfold actD
  cases decide (rd B 8 (zn i) 24 = zn o) && decide (rd B 8 (zn i) 25 = 0)
  · exact h
  · exact zKp_trans h (Kp_Set (by decide) hi h.2.2.1 h.2.2.2)
theorem Kp_O {B A : zzMd} {o i : Nat} (hi : i < 60) (h : zKp 5 B A) : zKp 5 B (actO B o i A).2 := by
  unfold actO
  cases decide (rd B 8 (zn i) 24 = zn o)
  · exact h
  · exact zKp_trans h (Kp_Set (by decide) hi h.2.2.1 h.2.2.2)
theorem Kp_view {B A : zzMd} (hn : nv B 8 ≤ 60) (h : zKp 5 B (nz A)) : zIC A ∧ (∀ x s, fX10_read [.ref 8, .int x, .int s] A = some (.inl (some (.int (rd B 8 x s))), A)) ∧ A.1 8 2 = zn (nv B 8) := by
  obtain ⟨h1, h2, h3, h4⟩ := h
  have W := zIC_nz.mp h4
  have Wv := zIC_W (zcV (c := 5) (by decide)) W
  simp only [Nat.reduceAdd] at Wv h1 h2
  have e : nv A 8 = nv B 8 := h2
  refine ⟨W, fun x s => ?_, ?_⟩
  · rw [sp_read' Wv x s, ← h1 x s, rd_nz (Or.inr (Or.inr (Or.inr (Or.inr (Or.inr (Or.inr (Or.inl rfl)))))))]
  · rw [Wv.2.2.1, e]
theorem sp_deleteOwned {M : zzMd} (W : zIC M) (L : zLe M 5) (o : Nat) :
    ∃ M', fX1_deleteOwned [.ref 8, .int (zn o)] M = some (.inl (some (.int (zb (acts (actD M o) (nv M 8) (nz M)).1))), M') ∧ nz M' = (acts (actD M o) (nv M 8) (nz M)).2 := by
  have hn : nv M 8 ≤ 60 := (W.2.2 5 (by decide)).1.2.1.2
  have K0 : zKp 5 M (nz M) := ⟨fun x s => rd_nz (zcV (c := 5) (by decide)) x s, nv_nz (zcV (c := 5) (by decide)), L, zIC_nz.mpr W⟩
  have st : fX1_deleteOwned [.ref 8, .int (zn o)] M = zz_ev tX1_deleteOwned 2 [some (.ref 8), some (.int (zn o)), some (.int (zn 0)), zj none] [] M := by
    rw [s_X1_deleteOwned]
    (simp only [e_X1_deleteOwned, zo_iload, zo_lload, zo_aload, zo_istore, zo_lstore, zo_astore, zo_iinc, zo_pushI, zo_pushL, zo_null, zo_ii, zo_iid, zo_ll, zo_li, zo_lcmp, zo_i2l, zo_l2i, zo_dup, zo_dup2, zo_pop, zo_goto, zo_if, zo_icmp, zo_ifnull, zo_gets, zo_mm, zo_throw, zo_ret, zo_aret, zo_lret, q_iret_f, q_iret_1, q_iret_0, q_iret_b, q_c8_0, q_c8_1, q_c8_2, q_c8_3, q_c8_4, q_set_0, q_set_1i, q_set_1r, q_set_1n, q_set_1N, q_set_s, q_set_1j, q_bk_v, q_bk_n, q_if, zb_ite, cond_true, cond_false, List.getElem?_cons_zero, List.getElem?_cons_succ, Nat.reduceAdd, if_true, if_false, zb_eq0, zb_eq1, zn_1, not_true_eq_false, not_false_eq_true, ite_true, ite_false, if_true, if_false, q_iret_0, q_iret_1, decide_true, decide_false, decide_not, zb_t, zb_f, z10, z01, cond_true, cond_false, Bool.and_true, Bool.true_and, Bool.and_false, Bool.false_and, Bool.not_true, Bool.not_false, true_and, and_true, false_and, and_false, true_or, or_true, false_or, or_false, Bool.true_eq_false, Bool.false_eq_true, eq_self, reduceCtorEq, Bool.or_true, Bool.true_or, Bool.or_false, Bool.false_or])
    rfl
  obtain ⟨M', j, b1, b2, b3⟩ := zl_actJ (E := fun i (j : Option Int32) A => zz_ev tX1_deleteOwned 2 [some (.ref 8), some (.int (zn o)), some (.int (zn i)), zj j] [] A) (R := fun A => some (.inl (some (.int 0)), A)) (act := actD M o) (I := zKp 5 M) (nv M 8) (fun i hi A j hA => by
    obtain ⟨WA, hr, hk⟩ := Kp_view hn hA
    have hc := zk_in hi hn
    have hK := Kp_D (o := o) (i := i) (by omega) hA
    have ra : rd A 8 (zn i) 25 = rd M 8 (zn i) 25 := (rd_nz (zcV (c := 5) (by decide)) (zn i) 25).symm.trans (hA.1 (zn i) 25)
    unfold actD at hK ⊢
    by_cases c1 : rd M 8 (zn i) 24 = zn o
    · by_cases c2 : rd M 8 (zn i) 25 = 0
      · obtain ⟨M1, a1, a2⟩ := sp_set WA (c := 5) (by decide) (o := i) (by omega) (k := 25) (by decide) 1 (fun e => absurd (c2.symm.trans (ra.symm.trans e)) (by decide))
        have a1' : fX2_set [.ref 8, .int (zn i), .int 25, .int 1] A = _ := a1
        rw [decide_eq_true c1, decide_eq_true c2, Bool.and_self, cond_true] at hK ⊢
        refine ⟨M1, some 1, ?_, a2, by rw [a2]; exact hK⟩
        clear hK a2 a1 hA
        cases c3 : (aSet (nz A) 5 i 25 1).1
        · rw [c3] at a1'
          (rw [e_X1_deleteOwned_2]; simp only [e_X1_deleteOwned, zo_iload, zo_lload, zo_aload, zo_istore, zo_lstore, zo_astore, zo_iinc, zo_pushI, zo_pushL, zo_null, zo_ii, zo_iid, zo_ll, zo_li, zo_lcmp, zo_i2l, zo_l2i, zo_dup, zo_dup2, zo_pop, zo_goto, zo_if, zo_icmp, zo_ifnull, zo_gets, zo_mm, zo_throw, zo_ret, zo_aret, zo_lret, q_iret_f, q_iret_1, q_iret_0, q_iret_b, q_c8_0, q_c8_1, q_c8_2, q_c8_3, q_c8_4, q_set_0, q_set_1i, q_set_1r, q_set_1n, q_set_1N, q_set_s, q_set_1j, q_bk_v, q_bk_n, q_if, zb_ite, cond_true, cond_false, List.getElem?_cons_zero, List.getElem?_cons_succ, Nat.reduceAdd, hk, hc, hr, c1, c2, a1', if_true, if_false, zb_eq0, zb_eq1, zn_1, not_true_eq_false, not_false_eq_true, ite_true, ite_false, if_true, if_false, q_iret_0, q_iret_1, decide_true, decide_false, decide_not, zb_t, zb_f, z10, z01, cond_true, cond_false, Bool.and_true, Bool.true_and, Bool.and_false, Bool.false_and, Bool.not_true, Bool.not_false, true_and, and_true, false_and, and_false, true_or, or_true, false_or, or_false, Bool.true_eq_false, Bool.false_eq_true, eq_self, reduceCtorEq, Bool.or_true, Bool.true_or, Bool.or_false, Bool.false_or])
        · rw [c3] at a1'
          (rw [e_X1_deleteOwned_2]; simp only [e_X1_deleteOwned, zo_iload, zo_lload, zo_aload, zo_istore, zo_lstore, zo_astore, zo_iinc, zo_pushI, zo_pushL, zo_null, zo_ii, zo_iid, zo_ll, zo_li, zo_lcmp, zo_i2l, zo_l2i, zo_dup, zo_dup2, zo_pop, zo_goto, zo_if, zo_icmp, zo_ifnull, zo_gets, zo_mm, zo_throw, zo_ret, zo_aret, zo_lret, q_iret_f, q_iret_1, q_iret_0, q_iret_b, q_c8_0, q_c8_1, q_c8_2, q_c8_3, q_c8_4, q_set_0, q_set_1i, q_set_1r, q_set_1n, q_set_1N, q_set_s, q_set_1j, q_bk_v, q_bk_n, q_if, zb_ite, cond_true, cond_false, List.getElem?_cons_zero, List.getElem?_cons_succ, Nat.reduceAdd, hk, hc, hr, c1, c2, a1', zj_some, if_true, if_false, zb_eq0, zb_eq1, zn_1, not_true_eq_false, not_false_eq_true, ite_true, ite_false, if_true, if_false, q_iret_0, q_iret_1, decide_true, decide_false, decide_not, zb_t, zb_f, z10, z01, cond_true, cond_false, Bool.and_true, Bool.true_and, Bool.and_false, Bool.false_and, Bool.not_true, Bool.not_false, true_and, and_true, false_and, and_false, true_or, or_true, false_or, or_false, Bool.true_eq_false, Bool.false_eq_true, eq_self, reduceCtorEq, Bool.or_true, Bool.true_or, Bool.or_false, Bool.false_or])
      · rw [decide_eq_false c2, Bool.and_false, cond_false] at hK ⊢
        refine ⟨A, some 0, ?_, rfl, hK⟩
        (rw [e_X1_deleteOwned_2]; simp only [e_X1_deleteOwned, zo_iload, zo_lload, zo_aload, zo_istore, zo_lstore, zo_astore, zo_iinc, zo_pushI, zo_pushL, zo_null, zo_ii, zo_iid, zo_ll, zo_li, zo_lcmp, zo_i2l, zo_l2i, zo_dup, zo_dup2, zo_pop, zo_goto, zo_if, zo_icmp, zo_ifnull, zo_gets, zo_mm, zo_throw, zo_ret, zo_aret, zo_lret, q_iret_f, q_iret_1, q_iret_0, q_iret_b, q_c8_0, q_c8_1, q_c8_2, q_c8_3, q_c8_4, q_set_0, q_set_1i, q_set_1r, q_set_1n, q_set_1N, q_set_s, q_set_1j, q_bk_v, q_bk_n, q_if, zb_ite, cond_true, cond_false, List.getElem?_cons_zero, List.getElem?_cons_succ, Nat.reduceAdd, hk, hc, hr, c1, c2, zj_some, if_true, if_false, zb_eq0, zb_eq1, zn_1, not_true_eq_false, not_false_eq_true, ite_true, ite_false, if_true, if_false, q_iret_0, q_iret_1, decide_true, decide_false, decide_not, zb_t, zb_f, z10, z01, cond_true, cond_false, Bool.and_true, Bool.true_and, Bool.and_false, Bool.false_and, Bool.not_true, Bool.not_false, true_and, and_true, false_and, and_false, true_or, or_true, false_or, or_false, Bool.true_eq_false, Bool.false_eq_true, eq_self, reduceCtorEq, Bool.or_true, Bool.true_or, Bool.or_false, Bool.false_or])
    · rw [decide_eq_false c1, Bool.false_and, cond_false] at hK ⊢
      refine ⟨A, some 0, ?_, rfl, hK⟩
      (rw [e_X1_deleteOwned_2]; simp only [e_X1_deleteOwned, zo_iload, zo_lload, zo_aload, zo_istore, zo_lstore, zo_astore, zo_iinc, zo_pushI, zo_pushL, zo_null, zo_ii, zo_iid, zo_ll, zo_li, zo_lcmp, zo_i2l, zo_l2i, zo_dup, zo_dup2, zo_pop, zo_goto, zo_if, zo_icmp, zo_ifnull, zo_gets, zo_mm, zo_throw, zo_ret, zo_aret, zo_lret, q_iret_f, q_iret_1, q_iret_0, q_iret_b, q_c8_0, q_c8_1, q_c8_2, q_c8_3, q_c8_4, q_set_0, q_set_1i, q_set_1r, q_set_1n, q_set_1N, q_set_s, q_set_1j, q_bk_v, q_bk_n, q_if, zb_ite, cond_true, cond_false, List.getElem?_cons_zero, List.getElem?_cons_succ, Nat.reduceAdd, hk, hc, hr, c1, zj_some, if_true, if_false, zb_eq0, zb_eq1, zn_1, not_true_eq_false, not_false_eq_true, ite_true, ite_false, if_true, if_false, q_iret_0, q_iret_1, decide_true, decide_false, decide_not, zb_t, zb_f, z10, z01, cond_true, cond_false, Bool.and_true, Bool.true_and, Bool.and_false, Bool.false_and, Bool.not_true, Bool.not_false, true_and, and_true, false_and, and_false, true_or, or_true, false_or, or_false, Bool.true_eq_false, Bool.false_eq_true, eq_self, reduceCtorEq, Bool.or_true, Bool.true_or, Bool.or_false, Bool.false_or])) M none K0
  refine ⟨M', ?_, b2⟩
  rw [st, show zz_ev tX1_deleteOwned 2 [some (.ref 8), some (.int (zn o)), some (.int (zn 0)), zj none] [] M = _ from b1]
  cases (acts (actD M o) (nv M 8) (nz M)).1
  · rfl
  · obtain ⟨-, -, hk⟩ := Kp_view hn b3
    have hc := zk_out hn
    rw [cond_true]
    (rw [e_X1_deleteOwned_2]; simp only [e_X1_deleteOwned, zo_iload, zo_lload, zo_aload, zo_istore, zo_lstore, zo_astore, zo_iinc, zo_pushI, zo_pushL, zo_null, zo_ii, zo_iid, zo_ll, zo_li, zo_lcmp, zo_i2l, zo_l2i, zo_dup, zo_dup2, zo_pop, zo_goto, zo_if, zo_icmp, zo_ifnull, zo_gets, zo_mm, zo_throw, zo_ret, zo_aret, zo_lret, q_iret_f, q_iret_1, q_iret_0, q_iret_b, q_c8_0, q_c8_1, q_c8_2, q_c8_3, q_c8_4, q_set_0, q_set_1i, q_set_1r, q_set_1n, q_set_1N, q_set_s, q_set_1j, q_bk_v, q_bk_n, q_if, zb_ite, cond_true, cond_false, List.getElem?_cons_zero, List.getElem?_cons_succ, Nat.reduceAdd, hk, hc, if_true, if_false, zb_eq0, zb_eq1, zn_1, not_true_eq_false, not_false_eq_true, ite_true, ite_false, if_true, if_false, q_iret_0, q_iret_1, decide_true, decide_false, decide_not, zb_t, zb_f, z10, z01, cond_true, cond_false, Bool.and_true, Bool.true_and, Bool.and_false, Bool.false_and, Bool.not_true, Bool.not_false, true_and, and_true, false_and, and_false, true_or, or_true, false_or, or_false, Bool.true_eq_false, Bool.false_eq_true, eq_self, reduceCtorEq, Bool.or_true, Bool.true_or, Bool.or_false, Bool.false_or])
theorem sp_disownAll {M : zzMd} (W : zIC M) (L : zLe M 5) {o : Nat} (ho : o < 60) :
    ∃ M', fX1_disownAll [.ref 8, .int (zn o)] M = some (.inl (some (.int (zb (acts (actO M o) (nv M 8) (nz M)).1))), M') ∧ nz M' = (acts (actO M o) (nv M 8) (nz M)).2 := by
  have hn : nv M 8 ≤ 60 := (W.2.2 5 (by decide)).1.2.1.2
  have K0 : zKp 5 M (nz M) := ⟨fun x s => rd_nz (zcV (c := 5) (by decide)) x s, nv_nz (zcV (c := 5) (by decide)), L, zIC_nz.mpr W⟩
  have st : fX1_disownAll [.ref 8, .int (zn o)] M = zz_ev tX1_disownAll 2 [some (.ref 8), some (.int (zn o)), some (.int (zn 0))] [] M := by
    rw [s_X1_disownAll]
    (simp only [e_X1_disownAll, zo_iload, zo_lload, zo_aload, zo_istore, zo_lstore, zo_astore, zo_iinc, zo_pushI, zo_pushL, zo_null, zo_ii, zo_iid, zo_ll, zo_li, zo_lcmp, zo_i2l, zo_l2i, zo_dup, zo_dup2, zo_pop, zo_goto, zo_if, zo_icmp, zo_ifnull, zo_gets, zo_mm, zo_throw, zo_ret, zo_aret, zo_lret, q_iret_f, q_iret_1, q_iret_0, q_iret_b, q_c8_0, q_c8_1, q_c8_2, q_c8_3, q_c8_4, q_set_0, q_set_1i, q_set_1r, q_set_1n, q_set_1N, q_set_s, q_set_1j, q_bk_v, q_bk_n, q_if, zb_ite, cond_true, cond_false, List.getElem?_cons_zero, List.getElem?_cons_succ, Nat.reduceAdd, if_true, if_false, zb_eq0, zb_eq1, zn_1, not_true_eq_false, not_false_eq_true, ite_true, ite_false, if_true, if_false, q_iret_0, q_iret_1, decide_true, decide_false, decide_not, zb_t, zb_f, z10, z01, cond_true, cond_false, Bool.and_true, Bool.true_and, Bool.and_false, Bool.false_and, Bool.not_true, Bool.not_false, true_and, and_true, false_and, and_false, true_or, or_true, false_or, or_false, Bool.true_eq_false, Bool.false_eq_true, eq_self, reduceCtorEq, Bool.or_true, Bool.true_or, Bool.or_false, Bool.false_or])
    rfl
  obtain ⟨M', b1, b2, b3⟩ := zl_act (E := fun i A => zz_ev tX1_disownAll 2 [some (.ref 8), some (.int (zn o)), some (.int (zn i))] [] A) (R := fun A => some (.inl (some (.int 0)), A)) (act := actO M o) (I := zKp 5 M) (nv M 8) (fun i hi A hA => by
    obtain ⟨WA, hr, hk⟩ := Kp_view hn hA
    have hc := zk_in hi hn
    have hK := Kp_O (o := o) (i := i) (by omega) hA
    have ra : rd A 8 (zn i) 24 = rd M 8 (zn i) 24 := (rd_nz (zcV (c := 5) (by decide)) (zn i) 24).symm.trans (hA.1 (zn i) 24)
    unfold actO at hK ⊢
    by_cases c1 : rd M 8 (zn i) 24 = zn o
    · obtain ⟨M1, a1, a2⟩ := sp_set WA (c := 5) (by decide) (o := i) (by omega) (k := 24) (by decide) (-1) (fun e => ((zn_m1 (k := o) (by omega)) ▸ (c1.symm.trans (ra.symm.trans e)) : False))
      have a1' : fX2_set [.ref 8, .int (zn i), .int 24, .int (-1)] A = _ := a1
      rw [decide_eq_true c1, cond_true] at hK ⊢
      refine ⟨M1, ?_, a2, by rw [a2]; exact hK⟩
      clear hK a2 a1 hA
      cases c3 : (aSet (nz A) 5 i 24 (-1)).1
      · rw [c3] at a1'
        (rw [e_X1_disownAll_2]; simp only [e_X1_disownAll, zo_iload, zo_lload, zo_aload, zo_istore, zo_lstore, zo_astore, zo_iinc, zo_pushI, zo_pushL, zo_null, zo_ii, zo_iid, zo_ll, zo_li, zo_lcmp, zo_i2l, zo_l2i, zo_dup, zo_dup2, zo_pop, zo_goto, zo_if, zo_icmp, zo_ifnull, zo_gets, zo_mm, zo_throw, zo_ret, zo_aret, zo_lret, q_iret_f, q_iret_1, q_iret_0, q_iret_b, q_c8_0, q_c8_1, q_c8_2, q_c8_3, q_c8_4, q_set_0, q_set_1i, q_set_1r, q_set_1n, q_set_1N, q_set_s, q_set_1j, q_bk_v, q_bk_n, q_if, zb_ite, cond_true, cond_false, List.getElem?_cons_zero, List.getElem?_cons_succ, Nat.reduceAdd, hk, hc, hr, c1, a1', if_true, if_false, zb_eq0, zb_eq1, zn_1, not_true_eq_false, not_false_eq_true, ite_true, ite_false, if_true, if_false, q_iret_0, q_iret_1, decide_true, decide_false, decide_not, zb_t, zb_f, z10, z01, cond_true, cond_false, Bool.and_true, Bool.true_and, Bool.and_false, Bool.false_and, Bool.not_true, Bool.not_false, true_and, and_true, false_and, and_false, true_or, or_true, false_or, or_false, Bool.true_eq_false, Bool.false_eq_true, eq_self, reduceCtorEq, Bool.or_true, Bool.true_or, Bool.or_false, Bool.false_or])
      · rw [c3] at a1'
        (rw [e_X1_disownAll_2]; simp only [e_X1_disownAll, zo_iload, zo_lload, zo_aload, zo_istore, zo_lstore, zo_astore, zo_iinc, zo_pushI, zo_pushL, zo_null, zo_ii, zo_iid, zo_ll, zo_li, zo_lcmp, zo_i2l, zo_l2i, zo_dup, zo_dup2, zo_pop, zo_goto, zo_if, zo_icmp, zo_ifnull, zo_gets, zo_mm, zo_throw, zo_ret, zo_aret, zo_lret, q_iret_f, q_iret_1, q_iret_0, q_iret_b, q_c8_0, q_c8_1, q_c8_2, q_c8_3, q_c8_4, q_set_0, q_set_1i, q_set_1r, q_set_1n, q_set_1N, q_set_s, q_set_1j, q_bk_v, q_bk_n, q_if, zb_ite, cond_true, cond_false, List.getElem?_cons_zero, List.getElem?_cons_succ, Nat.reduceAdd, hk, hc, hr, c1, a1', if_true, if_false, zb_eq0, zb_eq1, zn_1, not_true_eq_false, not_false_eq_true, ite_true, ite_false, if_true, if_false, q_iret_0, q_iret_1, decide_true, decide_false, decide_not, zb_t, zb_f, z10, z01, cond_true, cond_false, Bool.and_true, Bool.true_and, Bool.and_false, Bool.false_and, Bool.not_true, Bool.not_false, true_and, and_true, false_and, and_false, true_or, or_true, false_or, or_false, Bool.true_eq_false, Bool.false_eq_true, eq_self, reduceCtorEq, Bool.or_true, Bool.true_or, Bool.or_false, Bool.false_or])
    · rw [decide_eq_false c1, cond_false] at hK ⊢
      refine ⟨A, ?_, rfl, hK⟩
      (rw [e_X1_disownAll_2]; simp only [e_X1_disownAll, zo_iload, zo_lload, zo_aload, zo_istore, zo_lstore, zo_astore, zo_iinc, zo_pushI, zo_pushL, zo_null, zo_ii, zo_iid, zo_ll, zo_li, zo_lcmp, zo_i2l, zo_l2i, zo_dup, zo_dup2, zo_pop, zo_goto, zo_if, zo_icmp, zo_ifnull, zo_gets, zo_mm, zo_throw, zo_ret, zo_aret, zo_lret, q_iret_f, q_iret_1, q_iret_0, q_iret_b, q_c8_0, q_c8_1, q_c8_2, q_c8_3, q_c8_4, q_set_0, q_set_1i, q_set_1r, q_set_1n, q_set_1N, q_set_s, q_set_1j, q_bk_v, q_bk_n, q_if, zb_ite, cond_true, cond_false, List.getElem?_cons_zero, List.getElem?_cons_succ, Nat.reduceAdd, hk, hc, hr, c1, if_true, if_false, zb_eq0, zb_eq1, zn_1, not_true_eq_false, not_false_eq_true, ite_true, ite_false, if_true, if_false, q_iret_0, q_iret_1, decide_true, decide_false, decide_not, zb_t, zb_f, z10, z01, cond_true, cond_false, Bool.and_true, Bool.true_and, Bool.and_false, Bool.false_and, Bool.not_true, Bool.not_false, true_and, and_true, false_and, and_false, true_or, or_true, false_or, or_false, Bool.true_eq_false, Bool.false_eq_true, eq_self, reduceCtorEq, Bool.or_true, Bool.true_or, Bool.or_false, Bool.false_or])) M K0
  refine ⟨M', ?_, b2⟩
  rw [st, show zz_ev tX1_disownAll 2 [some (.ref 8), some (.int (zn o)), some (.int (zn 0))] [] M = _ from b1]
  cases (acts (actO M o) (nv M 8) (nz M)).1
  · rfl
  · obtain ⟨-, -, hk⟩ := Kp_view hn b3
    have hc := zk_out hn
    rw [cond_true]
    (rw [e_X1_disownAll_2]; simp only [e_X1_disownAll, zo_iload, zo_lload, zo_aload, zo_istore, zo_lstore, zo_astore, zo_iinc, zo_pushI, zo_pushL, zo_null, zo_ii, zo_iid, zo_ll, zo_li, zo_lcmp, zo_i2l, zo_l2i, zo_dup, zo_dup2, zo_pop, zo_goto, zo_if, zo_icmp, zo_ifnull, zo_gets, zo_mm, zo_throw, zo_ret, zo_aret, zo_lret, q_iret_f, q_iret_1, q_iret_0, q_iret_b, q_c8_0, q_c8_1, q_c8_2, q_c8_3, q_c8_4, q_set_0, q_set_1i, q_set_1r, q_set_1n, q_set_1N, q_set_s, q_set_1j, q_bk_v, q_bk_n, q_if, zb_ite, cond_true, cond_false, List.getElem?_cons_zero, List.getElem?_cons_succ, Nat.reduceAdd, hk, hc, if_true, if_false, zb_eq0, zb_eq1, zn_1, not_true_eq_false, not_false_eq_true, ite_true, ite_false, if_true, if_false, q_iret_0, q_iret_1, decide_true, decide_false, decide_not, zb_t, zb_f, z10, z01, cond_true, cond_false, Bool.and_true, Bool.true_and, Bool.and_false, Bool.false_and, Bool.not_true, Bool.not_false, true_and, and_true, false_and, and_false, true_or, or_true, false_or, or_false, Bool.true_eq_false, Bool.false_eq_true, eq_self, reduceCtorEq, Bool.or_true, Bool.true_or, Bool.or_false, Bool.false_or])
def dS5 (B A : zzMd) (o : Nat) : Int32 × zzMd :=
  bif decide (rd B 8 (zn o) 25 = 4) then (1, A)
  else bif decide (rd B 8 (zn o) 25 = 0) then
    (bif !decide (rd B 8 (zn o) 24 = -1) && gone B 8 (rd B 8 (zn o) 24) then oc2 (aRem A 5 o) else (1, A))
  else bif !decide (rd B 8 (zn o) 25 = 2) && own1 B (zn o) then
    (bif decide (rd B 8 (zn o) 25 = 1) then oc2 (acts (actD B o) (nv B 8) A) else oc2 (acts (actO B o) (nv B 8) A))
  else bif kept B 8 (zn o) then (1, A) else oc2 (aSet A 5 o 25 4)
theorem dS5_nz (M : zzMd) (o : Nat) : dS5 (nz M) (nz M) o = dS5 M (nz M) o := rfl
theorem sp_serve5 {M : zzMd} (W : zIC M) (L : zLe M 5) {o : Nat} (ho : o < 60) :
    ∃ M', fX1_serve [.ref 8, .int (zn o)] M = some (.inl (some (.int (dS5 M (nz M) o).1)), M') ∧ nz M' = (dS5 M (nz M) o).2 := by
  have hc : 5 < 8 := by decide
  have Wv := zIC_W (zcV hc) W
  simp only [Nat.reduceAdd] at Wv
  have hr := fun x s => sp_read' Wv x s
  have hg := fun x => sp_isGone Wv x
  have hk := fun x => sp_isKept Wv x
  have hos := fun x => sp_ownsSome Wv x
  have hoc := sp_outcomeOf
  have n04 : ((0 : Int32) = 4) = False := eq_false (by decide)
  have n14 : ((1 : Int32) = 4) = False := eq_false (by decide)
  have n24 : ((2 : Int32) = 4) = False := eq_false (by decide)
  have n20 : ((2 : Int32) = 0) = False := eq_false (by decide)
  have n10 : ((1 : Int32) = 0) = False := eq_false (by decide)
  have n12 : ((1 : Int32) = 2) = False := eq_false (by decide)
  rw [s_X1_serve]
  unfold dS5
  by_cases c1 : rd M 8 (zn o) 25 = 4
  · rw [decide_eq_true c1]
    refine ⟨M, ?_, rfl⟩
    (simp only [e_X1_serve, zo_iload, zo_lload, zo_aload, zo_istore, zo_lstore, zo_astore, zo_iinc, zo_pushI, zo_pushL, zo_null, zo_ii, zo_iid, zo_ll, zo_li, zo_lcmp, zo_i2l, zo_l2i, zo_dup, zo_dup2, zo_pop, zo_goto, zo_if, zo_icmp, zo_ifnull, zo_gets, zo_mm, zo_throw, zo_ret, zo_aret, zo_lret, q_iret_f, q_iret_1, q_iret_0, q_iret_b, q_c8_0, q_c8_1, q_c8_2, q_c8_3, q_c8_4, q_set_0, q_set_1i, q_set_1r, q_set_1n, q_set_1N, q_set_s, q_set_1j, q_bk_v, q_bk_n, q_if, zb_ite, cond_true, cond_false, List.getElem?_cons_zero, List.getElem?_cons_succ, Nat.reduceAdd, hr, c1, if_true, if_false, zb_eq0, zb_eq1, zn_1, not_true_eq_false, not_false_eq_true, ite_true, ite_false, if_true, if_false, q_iret_0, q_iret_1, decide_true, decide_false, decide_not, zb_t, zb_f, z10, z01, cond_true, cond_false, Bool.and_true, Bool.true_and, Bool.and_false, Bool.false_and, Bool.not_true, Bool.not_false, true_and, and_true, false_and, and_false, true_or, or_true, false_or, or_false, Bool.true_eq_false, Bool.false_eq_true, eq_self, reduceCtorEq, Bool.or_true, Bool.true_or, Bool.or_false, Bool.false_or])
  rw [decide_eq_false c1, cond_false]
  by_cases c2 : rd M 8 (zn o) 25 = 0
  · rw [decide_eq_true c2, cond_true]
    by_cases c3 : rd M 8 (zn o) 24 = -1
    · rw [decide_eq_true c3]
      refine ⟨M, ?_, rfl⟩
      (simp only [e_X1_serve, zo_iload, zo_lload, zo_aload, zo_istore, zo_lstore, zo_astore, zo_iinc, zo_pushI, zo_pushL, zo_null, zo_ii, zo_iid, zo_ll, zo_li, zo_lcmp, zo_i2l, zo_l2i, zo_dup, zo_dup2, zo_pop, zo_goto, zo_if, zo_icmp, zo_ifnull, zo_gets, zo_mm, zo_throw, zo_ret, zo_aret, zo_lret, q_iret_f, q_iret_1, q_iret_0, q_iret_b, q_c8_0, q_c8_1, q_c8_2, q_c8_3, q_c8_4, q_set_0, q_set_1i, q_set_1r, q_set_1n, q_set_1N, q_set_s, q_set_1j, q_bk_v, q_bk_n, q_if, zb_ite, cond_true, cond_false, List.getElem?_cons_zero, List.getElem?_cons_succ, Nat.reduceAdd, hr, c2, n04, c3, if_true, if_false, zb_eq0, zb_eq1, zn_1, not_true_eq_false, not_false_eq_true, ite_true, ite_false, if_true, if_false, q_iret_0, q_iret_1, decide_true, decide_false, decide_not, zb_t, zb_f, z10, z01, cond_true, cond_false, Bool.and_true, Bool.true_and, Bool.and_false, Bool.false_and, Bool.not_true, Bool.not_false, true_and, and_true, false_and, and_false, true_or, or_true, false_or, or_false, Bool.true_eq_false, Bool.false_eq_true, eq_self, reduceCtorEq, Bool.or_true, Bool.true_or, Bool.or_false, Bool.false_or])
    · rw [decide_eq_false c3]
      cases c4 : gone M 8 (rd M 8 (zn o) 24)
      · refine ⟨M, ?_, rfl⟩
        (simp only [e_X1_serve, zo_iload, zo_lload, zo_aload, zo_istore, zo_lstore, zo_astore, zo_iinc, zo_pushI, zo_pushL, zo_null, zo_ii, zo_iid, zo_ll, zo_li, zo_lcmp, zo_i2l, zo_l2i, zo_dup, zo_dup2, zo_pop, zo_goto, zo_if, zo_icmp, zo_ifnull, zo_gets, zo_mm, zo_throw, zo_ret, zo_aret, zo_lret, q_iret_f, q_iret_1, q_iret_0, q_iret_b, q_c8_0, q_c8_1, q_c8_2, q_c8_3, q_c8_4, q_set_0, q_set_1i, q_set_1r, q_set_1n, q_set_1N, q_set_s, q_set_1j, q_bk_v, q_bk_n, q_if, zb_ite, cond_true, cond_false, List.getElem?_cons_zero, List.getElem?_cons_succ, Nat.reduceAdd, hr, hg, c2, n04, c3, c4, if_true, if_false, zb_eq0, zb_eq1, zn_1, not_true_eq_false, not_false_eq_true, ite_true, ite_false, if_true, if_false, q_iret_0, q_iret_1, decide_true, decide_false, decide_not, zb_t, zb_f, z10, z01, cond_true, cond_false, Bool.and_true, Bool.true_and, Bool.and_false, Bool.false_and, Bool.not_true, Bool.not_false, true_and, and_true, false_and, and_false, true_or, or_true, false_or, or_false, Bool.true_eq_false, Bool.false_eq_true, eq_self, reduceCtorEq, Bool.or_true, Bool.true_or, Bool.or_false, Bool.false_or])
      · obtain ⟨M', a1, a2⟩ := sp_remove W hc ho
        simp only [Nat.reduceAdd] at a1
        refine ⟨M', ?_, a2⟩
        simp only [Bool.not_false, Bool.and_self, cond_true]
        (simp only [e_X1_serve, zo_iload, zo_lload, zo_aload, zo_istore, zo_lstore, zo_astore, zo_iinc, zo_pushI, zo_pushL, zo_null, zo_ii, zo_iid, zo_ll, zo_li, zo_lcmp, zo_i2l, zo_l2i, zo_dup, zo_dup2, zo_pop, zo_goto, zo_if, zo_icmp, zo_ifnull, zo_gets, zo_mm, zo_throw, zo_ret, zo_aret, zo_lret, q_iret_f, q_iret_1, q_iret_0, q_iret_b, q_c8_0, q_c8_1, q_c8_2, q_c8_3, q_c8_4, q_set_0, q_set_1i, q_set_1r, q_set_1n, q_set_1N, q_set_s, q_set_1j, q_bk_v, q_bk_n, q_if, zb_ite, cond_true, cond_false, List.getElem?_cons_zero, List.getElem?_cons_succ, Nat.reduceAdd, hr, hg, c2, n04, c3, c4, a1, hoc, oc2, if_true, if_false, zb_eq0, zb_eq1, zn_1, not_true_eq_false, not_false_eq_true, ite_true, ite_false, if_true, if_false, q_iret_0, q_iret_1, decide_true, decide_false, decide_not, zb_t, zb_f, z10, z01, cond_true, cond_false, Bool.and_true, Bool.true_and, Bool.and_false, Bool.false_and, Bool.not_true, Bool.not_false, true_and, and_true, false_and, and_false, true_or, or_true, false_or, or_false, Bool.true_eq_false, Bool.false_eq_true, eq_self, reduceCtorEq, Bool.or_true, Bool.true_or, Bool.or_false, Bool.false_or])
  rw [decide_eq_false c2, cond_false]
  have tail : zz_ev tX1_serve 0 [some (.ref 8), some (.int (zn o)), none, none] [] M = zz_ev tX1_serve 88 [some (.ref 8), some (.int (zn o)), some (.int (rd M 8 (zn o) 25)), none] [] M → ∃ M', zz_ev tX1_serve 0 [some (.ref 8), some (.int (zn o)), none, none] [] M = some (.inl (some (.int ((bif kept M 8 (zn o) then (1, nz M) else oc2 (aSet (nz M) 5 o 25 4)) : Int32 × zzMd).1)), M') ∧ nz M' = ((bif kept M 8 (zn o) then (1, nz M) else oc2 (aSet (nz M) 5 o 25 4)) : Int32 × zzMd).2 := fun h88 => by
    rw [h88]
    cases c5 : kept M 8 (zn o)
    · obtain ⟨M', a1, a2⟩ := sp_set W hc ho (k := 25) (by decide) 4 c1
      have a1' : fX2_set [.ref 8, .int (zn o), .int 25, .int 4] M = _ := a1
      clear a1
      refine ⟨M', ?_, a2⟩
      rw [cond_false]
      (simp only [e_X1_serve, zo_iload, zo_lload, zo_aload, zo_istore, zo_lstore, zo_astore, zo_iinc, zo_pushI, zo_pushL, zo_null, zo_ii, zo_iid, zo_ll, zo_li, zo_lcmp, zo_i2l, zo_l2i, zo_dup, zo_dup2, zo_pop, zo_goto, zo_if, zo_icmp, zo_ifnull, zo_gets, zo_mm, zo_throw, zo_ret, zo_aret, zo_lret, q_iret_f, q_iret_1, q_iret_0, q_iret_b, q_c8_0, q_c8_1, q_c8_2, q_c8_3, q_c8_4, q_set_0, q_set_1i, q_set_1r, q_set_1n, q_set_1N, q_set_s, q_set_1j, q_bk_v, q_bk_n, q_if, zb_ite, cond_true, cond_false, List.getElem?_cons_zero, List.getElem?_cons_succ, Nat.reduceAdd, hk, c5, a1', hoc, oc2, if_true, if_false, zb_eq0, zb_eq1, zn_1, not_true_eq_false, not_false_eq_true, ite_true, ite_false, if_true, if_false, q_iret_0, q_iret_1, decide_true, decide_false, decide_not, zb_t, zb_f, z10, z01, cond_true, cond_false, Bool.and_true, Bool.true_and, Bool.and_false, Bool.false_and, Bool.not_true, Bool.not_false, true_and, and_true, false_and, and_false, true_or, or_true, false_or, or_false, Bool.true_eq_false, Bool.false_eq_true, eq_self, reduceCtorEq, Bool.or_true, Bool.true_or, Bool.or_false, Bool.false_or])
    · refine ⟨M, ?_, rfl⟩
      (simp only [e_X1_serve, zo_iload, zo_lload, zo_aload, zo_istore, zo_lstore, zo_astore, zo_iinc, zo_pushI, zo_pushL, zo_null, zo_ii, zo_iid, zo_ll, zo_li, zo_lcmp, zo_i2l, zo_l2i, zo_dup, zo_dup2, zo_pop, zo_goto, zo_if, zo_icmp, zo_ifnull, zo_gets, zo_mm, zo_throw, zo_ret, zo_aret, zo_lret, q_iret_f, q_iret_1, q_iret_0, q_iret_b, q_c8_0, q_c8_1, q_c8_2, q_c8_3, q_c8_4, q_set_0, q_set_1i, q_set_1r, q_set_1n, q_set_1N, q_set_s, q_set_1j, q_bk_v, q_bk_n, q_if, zb_ite, cond_true, cond_false, List.getElem?_cons_zero, List.getElem?_cons_succ, Nat.reduceAdd, hk, c5, if_true, if_false, zb_eq0, zb_eq1, zn_1, not_true_eq_false, not_false_eq_true, ite_true, ite_false, if_true, if_false, q_iret_0, q_iret_1, decide_true, decide_false, decide_not, zb_t, zb_f, z10, z01, cond_true, cond_false, Bool.and_true, Bool.true_and, Bool.and_false, Bool.false_and, Bool.not_true, Bool.not_false, true_and, and_true, false_and, and_false, true_or, or_true, false_or, or_false, Bool.true_eq_false, Bool.false_eq_true, eq_self, reduceCtorEq, Bool.or_true, Bool.true_or, Bool.or_false, Bool.false_or])
  by_cases c3 : rd M 8 (zn o) 25 = 2
  · have e : (!decide (rd M 8 (zn o) 25 = 2) && own1 M (zn o)) = false := by rw [decide_eq_true c3]; rfl
    rw [e, cond_false]
    refine tail ?_
    generalize hZ : zz_ev tX1_serve 88 [some (.ref 8), some (.int (zn o)), some (.int (rd M 8 (zn o) 25)), none] [] M = Z
    rw [c3] at hZ
    (simp only [e_X1_serve, zo_iload, zo_lload, zo_aload, zo_istore, zo_lstore, zo_astore, zo_iinc, zo_pushI, zo_pushL, zo_null, zo_ii, zo_iid, zo_ll, zo_li, zo_lcmp, zo_i2l, zo_l2i, zo_dup, zo_dup2, zo_pop, zo_goto, zo_if, zo_icmp, zo_ifnull, zo_gets, zo_mm, zo_throw, zo_ret, zo_aret, zo_lret, q_iret_f, q_iret_1, q_iret_0, q_iret_b, q_c8_0, q_c8_1, q_c8_2, q_c8_3, q_c8_4, q_set_0, q_set_1i, q_set_1r, q_set_1n, q_set_1N, q_set_s, q_set_1j, q_bk_v, q_bk_n, q_if, zb_ite, cond_true, cond_false, List.getElem?_cons_zero, List.getElem?_cons_succ, Nat.reduceAdd, ↓hZ, hr, c3, n24, n20, if_true, if_false, zb_eq0, zb_eq1, zn_1, not_true_eq_false, not_false_eq_true, ite_true, ite_false, if_true, if_false, q_iret_0, q_iret_1, decide_true, decide_false, decide_not, zb_t, zb_f, z10, z01, cond_true, cond_false, Bool.and_true, Bool.true_and, Bool.and_false, Bool.false_and, Bool.not_true, Bool.not_false, true_and, and_true, false_and, and_false, true_or, or_true, false_or, or_false, Bool.true_eq_false, Bool.false_eq_true, eq_self, reduceCtorEq, Bool.or_true, Bool.true_or, Bool.or_false, Bool.false_or])
  · cases c4 : own1 M (zn o)
    · have e : (!decide (rd M 8 (zn o) 25 = 2) && false) = false := by simp
      rw [e, cond_false]
      refine tail ?_
      generalize hZ : zz_ev tX1_serve 88 [some (.ref 8), some (.int (zn o)), some (.int (rd M 8 (zn o) 25)), none] [] M = Z
      (simp only [e_X1_serve, zo_iload, zo_lload, zo_aload, zo_istore, zo_lstore, zo_astore, zo_iinc, zo_pushI, zo_pushL, zo_null, zo_ii, zo_iid, zo_ll, zo_li, zo_lcmp, zo_i2l, zo_l2i, zo_dup, zo_dup2, zo_pop, zo_goto, zo_if, zo_icmp, zo_ifnull, zo_gets, zo_mm, zo_throw, zo_ret, zo_aret, zo_lret, q_iret_f, q_iret_1, q_iret_0, q_iret_b, q_c8_0, q_c8_1, q_c8_2, q_c8_3, q_c8_4, q_set_0, q_set_1i, q_set_1r, q_set_1n, q_set_1N, q_set_s, q_set_1j, q_bk_v, q_bk_n, q_if, zb_ite, cond_true, cond_false, List.getElem?_cons_zero, List.getElem?_cons_succ, Nat.reduceAdd, ↓hZ, hr, hos, c1, c2, c3, c4, if_true, if_false, zb_eq0, zb_eq1, zn_1, not_true_eq_false, not_false_eq_true, ite_true, ite_false, if_true, if_false, q_iret_0, q_iret_1, decide_true, decide_false, decide_not, zb_t, zb_f, z10, z01, cond_true, cond_false, Bool.and_true, Bool.true_and, Bool.and_false, Bool.false_and, Bool.not_true, Bool.not_false, true_and, and_true, false_and, and_false, true_or, or_true, false_or, or_false, Bool.true_eq_false, Bool.false_eq_true, eq_self, reduceCtorEq, Bool.or_true, Bool.true_or, Bool.or_false, Bool.false_or])
    · have e : (!decide (rd M 8 (zn o) 25 = 2) && true) = true := by rw [decide_eq_false c3]; rfl
      rw [e, cond_true]
      clear tail
      by_cases c5 : rd M 8 (zn o) 25 = 1
      · rw [decide_eq_true c5, cond_true]
        obtain ⟨M', a1, a2⟩ := sp_deleteOwned W L o
        refine ⟨M', ?_, a2⟩
        (simp only [e_X1_serve, zo_iload, zo_lload, zo_aload, zo_istore, zo_lstore, zo_astore, zo_iinc, zo_pushI, zo_pushL, zo_null, zo_ii, zo_iid, zo_ll, zo_li, zo_lcmp, zo_i2l, zo_l2i, zo_dup, zo_dup2, zo_pop, zo_goto, zo_if, zo_icmp, zo_ifnull, zo_gets, zo_mm, zo_throw, zo_ret, zo_aret, zo_lret, q_iret_f, q_iret_1, q_iret_0, q_iret_b, q_c8_0, q_c8_1, q_c8_2, q_c8_3, q_c8_4, q_set_0, q_set_1i, q_set_1r, q_set_1n, q_set_1N, q_set_s, q_set_1j, q_bk_v, q_bk_n, q_if, zb_ite, cond_true, cond_false, List.getElem?_cons_zero, List.getElem?_cons_succ, Nat.reduceAdd, hr, hos, c5, n14, n10, n12, c4, a1, hoc, oc2, if_true, if_false, zb_eq0, zb_eq1, zn_1, not_true_eq_false, not_false_eq_true, ite_true, ite_false, if_true, if_false, q_iret_0, q_iret_1, decide_true, decide_false, decide_not, zb_t, zb_f, z10, z01, cond_true, cond_false, Bool.and_true, Bool.true_and, Bool.and_false, Bool.false_and, Bool.not_true, Bool.not_false, true_and, and_true, false_and, and_false, true_or, or_true, false_or, or_false, Bool.true_eq_false, Bool.false_eq_true, eq_self, reduceCtorEq, Bool.or_true, Bool.true_or, Bool.or_false, Bool.false_or])
      · rw [decide_eq_false c5, cond_false]
        obtain ⟨M', a1, a2⟩ := sp_disownAll W L ho
        refine ⟨M', ?_, a2⟩
        (simp only [e_X1_serve, zo_iload, zo_lload, zo_aload, zo_istore, zo_lstore, zo_astore, zo_iinc, zo_pushI, zo_pushL, zo_null, zo_ii, zo_iid, zo_ll, zo_li, zo_lcmp, zo_i2l, zo_l2i, zo_dup, zo_dup2, zo_pop, zo_goto, zo_if, zo_icmp, zo_ifnull, zo_gets, zo_mm, zo_throw, zo_ret, zo_aret, zo_lret, q_iret_f, q_iret_1, q_iret_0, q_iret_b, q_c8_0, q_c8_1, q_c8_2, q_c8_3, q_c8_4, q_set_0, q_set_1i, q_set_1r, q_set_1n, q_set_1N, q_set_s, q_set_1j, q_bk_v, q_bk_n, q_if, zb_ite, cond_true, cond_false, List.getElem?_cons_zero, List.getElem?_cons_succ, Nat.reduceAdd, hr, hos, c1, c2, c3, c4, c5, a1, hoc, oc2, if_true, if_false, zb_eq0, zb_eq1, zn_1, not_true_eq_false, not_false_eq_true, ite_true, ite_false, if_true, if_false, q_iret_0, q_iret_1, decide_true, decide_false, decide_not, zb_t, zb_f, z10, z01, cond_true, cond_false, Bool.and_true, Bool.true_and, Bool.and_false, Bool.false_and, Bool.not_true, Bool.not_false, true_and, and_true, false_and, and_false, true_or, or_true, false_or, or_false, Bool.true_eq_false, Bool.false_eq_true, eq_self, reduceCtorEq, Bool.or_true, Bool.true_or, Bool.or_false, Bool.false_or])
theorem zIC_S5 {A B : zzMd} {o : Nat} (ho : o < 60) (hn : nv B 8 ≤ 60) (h : zIC A) : zIC (dS5 B A o).2 := by
  unfold dS5
  cases decide (rd B 8 (zn o) 25 = 4)
  · cases decide (rd B 8 (zn o) 25 = 0)
    · cases !decide (rd B 8 (zn o) 25 = 2) && own1 B (zn o)
      · cases kept B 8 (zn o)
        · exact zIC_Set ho h
        · exact h
      · cases decide (rd B 8 (zn o) 25 = 1)
        · refine acts_inv (I := zIC) (fun i hi A hA => ?_) h
          unfold actO
          cases decide (rd B 8 (zn i) 24 = zn o)
          · exact hA
          · exact zIC_Set (by omega) hA
        · refine acts_inv (I := zIC) (fun i hi A hA => ?_) h
          unfold actD
          cases decide (rd B 8 (zn i) 24 = zn o) && decide (rd B 8 (zn i) 25 = 0)
          · exact hA
          · exact zIC_Set (by omega) hA
    · cases !decide (rd B 8 (zn o) 24 = -1) && gone B 8 (rd B 8 (zn o) 24)
      · exact h
      · exact zIC_Rem ho h
  · exact h
end

section
/-! the controllers that make PODs -/
def ovP (A : zzMd) (v : Nat) (w : Int32) : Option Nat := zfst (nv A v) fun i => owned A v (zn i) 2 w && (decide (rd A v (zn i) 29 = 2) || decide (rd A v (zn i) 29 = 3))
def cntP (A : zzMd) (v : Nat) (w : Int32) : Nat := zcnt (nv A v) fun i => owned A v (zn i) 2 w
def rankP (A : zzMd) (v : Nat) (x : Int32) : Int32 := if rd A v x 28 = -1 then 2 else if rd A v x 29 = 0 then 1 else 0
def ptm (A : zzMd) (v : Nat) (w : Int32) (n : Nat) : Int32 × Int32 := zfold n (fun i p => bif owned A v (zn i) 2 w && !decide (rankP A v (zn i) < p.2) then (zn i, rankP A v (zn i)) else p) (-1, -1)
theorem ptm_s (A : zzMd) (v : Nat) (w : Int32) (n : Nat) : ptm A v w (n + 1) = bif owned A v (zn n) 2 w && !decide (rankP A v (zn n) < (ptm A v w n).2) then (zn n, rankP A v (zn n)) else ptm A v w n := rfl
theorem ptm_in (A : zzMd) (v : Nat) (w : Int32) : ∀ n, (ptm A v w n = (-1, -1) ∧ zcnt n (fun i => owned A v (zn i) 2 w) = 0) ∨ ∃ k, k < n ∧ (ptm A v w n).1 = zn k
  | 0 => Or.inl ⟨rfl, rfl⟩
  | n + 1 => by
    rw [ptm_s, zcnt_s]
    rcases ptm_in A v w n with ⟨h1, h2⟩ | ⟨k, h1, h2⟩
    · cases h3 : owned A v (zn n) 2 w
      · exact Or.inl ⟨h1, h2⟩
      · refine Or.inr ⟨n, Nat.lt_succ_self n, ?_⟩
        have h4 : ¬ rankP A v (zn n) < (ptm A v w n).2 := by
          rw [h1]
          unfold rankP
          by_cases q : rd A v (zn n) 28 = -1
          · rw [if_pos q]; decide
          · rw [if_neg q]
            by_cases q2 : rd A v (zn n) 29 = 0
            · rw [if_pos q2]; decide
            · rw [if_neg q2]; decide
        rw [decide_eq_false h4]
        rfl
    · cases owned A v (zn n) 2 w && !decide (rankP A v (zn n) < (ptm A v w n).2)
      · exact Or.inr ⟨k, Nat.lt_succ_of_lt h1, h2⟩
      · exact Or.inr ⟨n, Nat.lt_succ_self n, rfl⟩
def dnP (A : zzMd) (v : Nat) (w : Int32) (n : Nat) : Nat := zcnt n fun i => owned A v (zn i) 2 w && decide (rd A v (zn i) 29 = 2)
def acP (A : zzMd) (v : Nat) (w : Int32) (n : Nat) : Nat := zcnt n fun i => owned A v (zn i) 2 w && (decide (rd A v (zn i) 29 = 0) || decide (rd A v (zn i) 29 = 1))
theorem dnP_s (A : zzMd) (v : Nat) (w : Int32) (n : Nat) : dnP A v w (n + 1) = dnP A v w n + (bif owned A v (zn n) 2 w && decide (rd A v (zn n) 29 = 2) then 1 else 0) := rfl
theorem acP_s (A : zzMd) (v : Nat) (w : Int32) (n : Nat) : acP A v w (n + 1) = acP A v w n + (bif owned A v (zn n) 2 w && (decide (rd A v (zn n) 29 = 0) || decide (rd A v (zn n) 29 = 1)) then 1 else 0) := rfl
theorem sp_ptm {M : zzMd} {v : Nat} (hv2 : v = 4 ∨ v = 5) (W : zVw M v (nv M v)) (w : Int32) : fX4_podTooMany [.ref v, .int w] M = some (.inl (some (.int (ptm M v w (nv M v)).1)), M) := by
  have hr := fun x s => sp_read' W x s
  have ho := fun x k w => sp_isOwned W x k w
  obtain ⟨-, -, hk, hn⟩ := W
  have st : fX4_podTooMany [.ref v, .int w] M = zz_ev tX4_podTooMany 7 [some (.ref v), some (.int w), some (.int (-1)), some (.int (-1)), some (.int (zn 0)), zj none] [] M := by
    rw [s_X4_podTooMany]
    rcases hv2 with rfl | rfl <;> ((simp only [e_X4_podTooMany, zo_iload, zo_lload, zo_aload, zo_istore, zo_lstore, zo_astore, zo_iinc, zo_pushI, zo_pushL, zo_null, zo_ii, zo_iid, zo_ll, zo_li, zo_lcmp, zo_i2l, zo_l2i, zo_dup, zo_dup2, zo_pop, zo_goto, zo_if, zo_icmp, zo_ifnull, zo_gets, zo_mm, zo_throw, zo_ret, zo_aret, zo_lret, q_iret_f, q_iret_1, q_iret_0, q_iret_b, q_c8_0, q_c8_1, q_c8_2, q_c8_3, q_c8_4, q_set_0, q_set_1i, q_set_1r, q_set_1n, q_set_1N, q_set_s, q_set_1j, q_bk_v, q_bk_n, q_if, zb_ite, cond_true, cond_false, List.getElem?_cons_zero, List.getElem?_cons_succ, Nat.reduceAdd, if_true, if_false, zb_eq0, zb_eq1, zn_1, not_true_eq_false, not_false_eq_true, ite_true, ite_false, if_true, if_false, q_iret_0, q_iret_1, decide_true, decide_false, decide_not, zb_t, zb_f, z10, z01, cond_true, cond_false, Bool.and_true, Bool.true_and, Bool.and_false, Bool.false_and, Bool.not_true, Bool.not_false, true_and, and_true, false_and, and_false, true_or, or_true, false_or, or_false, Bool.true_eq_false, Bool.false_eq_true, eq_self, reduceCtorEq, Bool.or_true, Bool.true_or, Bool.or_false, Bool.false_or]); rfl)
  obtain ⟨j, lp⟩ := zl_goJ (E := fun i j => zz_ev tX4_podTooMany 7 [some (.ref v), some (.int w), some (.int (ptm M v w i).1), some (.int (ptm M v w i).2), some (.int (zn i)), zj j] [] M) (nv M v) (fun i hi j => by
    have hc := zk_in hi hn
    rw [ptm_s]
    generalize (ptm M v w i) = p
    obtain ⟨p1, p2⟩ := p
    cases h1 : owned M v (zn i) 2 w
    · refine ⟨j, ?_⟩
      rcases hv2 with rfl | rfl <;> (rw [e_X4_podTooMany_7]; simp only [e_X4_podTooMany, zo_iload, zo_lload, zo_aload, zo_istore, zo_lstore, zo_astore, zo_iinc, zo_pushI, zo_pushL, zo_null, zo_ii, zo_iid, zo_ll, zo_li, zo_lcmp, zo_i2l, zo_l2i, zo_dup, zo_dup2, zo_pop, zo_goto, zo_if, zo_icmp, zo_ifnull, zo_gets, zo_mm, zo_throw, zo_ret, zo_aret, zo_lret, q_iret_f, q_iret_1, q_iret_0, q_iret_b, q_c8_0, q_c8_1, q_c8_2, q_c8_3, q_c8_4, q_set_0, q_set_1i, q_set_1r, q_set_1n, q_set_1N, q_set_s, q_set_1j, q_bk_v, q_bk_n, q_if, zb_ite, cond_true, cond_false, List.getElem?_cons_zero, List.getElem?_cons_succ, Nat.reduceAdd, hk, hc, hr, ho, h1, if_true, if_false, zb_eq0, zb_eq1, zn_1, not_true_eq_false, not_false_eq_true, ite_true, ite_false, if_true, if_false, q_iret_0, q_iret_1, decide_true, decide_false, decide_not, zb_t, zb_f, z10, z01, cond_true, cond_false, Bool.and_true, Bool.true_and, Bool.and_false, Bool.false_and, Bool.not_true, Bool.not_false, true_and, and_true, false_and, and_false, true_or, or_true, false_or, or_false, Bool.true_eq_false, Bool.false_eq_true, eq_self, reduceCtorEq, Bool.or_true, Bool.true_or, Bool.or_false, Bool.false_or])
    · refine ⟨some (rankP M v (zn i)), ?_⟩
      unfold rankP
      by_cases h2 : rd M v (zn i) 28 = -1
      · rw [if_pos h2]
        by_cases h4 : (2 : Int32) < p2 <;> rcases hv2 with rfl | rfl <;> (rw [e_X4_podTooMany_7]; simp only [e_X4_podTooMany, zo_iload, zo_lload, zo_aload, zo_istore, zo_lstore, zo_astore, zo_iinc, zo_pushI, zo_pushL, zo_null, zo_ii, zo_iid, zo_ll, zo_li, zo_lcmp, zo_i2l, zo_l2i, zo_dup, zo_dup2, zo_pop, zo_goto, zo_if, zo_icmp, zo_ifnull, zo_gets, zo_mm, zo_throw, zo_ret, zo_aret, zo_lret, q_iret_f, q_iret_1, q_iret_0, q_iret_b, q_c8_0, q_c8_1, q_c8_2, q_c8_3, q_c8_4, q_set_0, q_set_1i, q_set_1r, q_set_1n, q_set_1N, q_set_s, q_set_1j, q_bk_v, q_bk_n, q_if, zb_ite, cond_true, cond_false, List.getElem?_cons_zero, List.getElem?_cons_succ, Nat.reduceAdd, hk, hc, hr, ho, h1, h2, h4, zj_some, if_true, if_false, zb_eq0, zb_eq1, zn_1, not_true_eq_false, not_false_eq_true, ite_true, ite_false, if_true, if_false, q_iret_0, q_iret_1, decide_true, decide_false, decide_not, zb_t, zb_f, z10, z01, cond_true, cond_false, Bool.and_true, Bool.true_and, Bool.and_false, Bool.false_and, Bool.not_true, Bool.not_false, true_and, and_true, false_and, and_false, true_or, or_true, false_or, or_false, Bool.true_eq_false, Bool.false_eq_true, eq_self, reduceCtorEq, Bool.or_true, Bool.true_or, Bool.or_false, Bool.false_or])
      · rw [if_neg h2]
        by_cases h3 : rd M v (zn i) 29 = 0
        · rw [if_pos h3]
          by_cases h4 : (1 : Int32) < p2 <;> rcases hv2 with rfl | rfl <;> (rw [e_X4_podTooMany_7]; simp only [e_X4_podTooMany, zo_iload, zo_lload, zo_aload, zo_istore, zo_lstore, zo_astore, zo_iinc, zo_pushI, zo_pushL, zo_null, zo_ii, zo_iid, zo_ll, zo_li, zo_lcmp, zo_i2l, zo_l2i, zo_dup, zo_dup2, zo_pop, zo_goto, zo_if, zo_icmp, zo_ifnull, zo_gets, zo_mm, zo_throw, zo_ret, zo_aret, zo_lret, q_iret_f, q_iret_1, q_iret_0, q_iret_b, q_c8_0, q_c8_1, q_c8_2, q_c8_3, q_c8_4, q_set_0, q_set_1i, q_set_1r, q_set_1n, q_set_1N, q_set_s, q_set_1j, q_bk_v, q_bk_n, q_if, zb_ite, cond_true, cond_false, List.getElem?_cons_zero, List.getElem?_cons_succ, Nat.reduceAdd, hk, hc, hr, ho, h1, h2, h3, h4, zj_some, if_true, if_false, zb_eq0, zb_eq1, zn_1, not_true_eq_false, not_false_eq_true, ite_true, ite_false, if_true, if_false, q_iret_0, q_iret_1, decide_true, decide_false, decide_not, zb_t, zb_f, z10, z01, cond_true, cond_false, Bool.and_true, Bool.true_and, Bool.and_false, Bool.false_and, Bool.not_true, Bool.not_false, true_and, and_true, false_and, and_false, true_or, or_true, false_or, or_false, Bool.true_eq_false, Bool.false_eq_true, eq_self, reduceCtorEq, Bool.or_true, Bool.true_or, Bool.or_false, Bool.false_or])
        · rw [if_neg h3]
          by_cases h4 : (0 : Int32) < p2 <;> rcases hv2 with rfl | rfl <;> (rw [e_X4_podTooMany_7]; simp only [e_X4_podTooMany, zo_iload, zo_lload, zo_aload, zo_istore, zo_lstore, zo_astore, zo_iinc, zo_pushI, zo_pushL, zo_null, zo_ii, zo_iid, zo_ll, zo_li, zo_lcmp, zo_i2l, zo_l2i, zo_dup, zo_dup2, zo_pop, zo_goto, zo_if, zo_icmp, zo_ifnull, zo_gets, zo_mm, zo_throw, zo_ret, zo_aret, zo_lret, q_iret_f, q_iret_1, q_iret_0, q_iret_b, q_c8_0, q_c8_1, q_c8_2, q_c8_3, q_c8_4, q_set_0, q_set_1i, q_set_1r, q_set_1n, q_set_1N, q_set_s, q_set_1j, q_bk_v, q_bk_n, q_if, zb_ite, cond_true, cond_false, List.getElem?_cons_zero, List.getElem?_cons_succ, Nat.reduceAdd, hk, hc, hr, ho, h1, h2, h3, h4, zj_some, if_true, if_false, zb_eq0, zb_eq1, zn_1, not_true_eq_false, not_false_eq_true, ite_true, ite_false, if_true, if_false, q_iret_0, q_iret_1, decide_true, decide_false, decide_not, zb_t, zb_f, z10, z01, cond_true, cond_false, Bool.and_true, Bool.true_and, Bool.and_false, Bool.false_and, Bool.not_true, Bool.not_false, true_and, and_true, false_and, and_false, true_or, or_true, false_or, or_false, Bool.true_eq_false, Bool.false_eq_true, eq_self, reduceCtorEq, Bool.or_true, Bool.true_or, Bool.or_false, Bool.false_or])) none
  refine (st.trans lp).trans ?_
  have hc := zk_out hn
  rcases hv2 with rfl | rfl <;> (rw [e_X4_podTooMany_7]; simp only [e_X4_podTooMany, zo_iload, zo_lload, zo_aload, zo_istore, zo_lstore, zo_astore, zo_iinc, zo_pushI, zo_pushL, zo_null, zo_ii, zo_iid, zo_ll, zo_li, zo_lcmp, zo_i2l, zo_l2i, zo_dup, zo_dup2, zo_pop, zo_goto, zo_if, zo_icmp, zo_ifnull, zo_gets, zo_mm, zo_throw, zo_ret, zo_aret, zo_lret, q_iret_f, q_iret_1, q_iret_0, q_iret_b, q_c8_0, q_c8_1, q_c8_2, q_c8_3, q_c8_4, q_set_0, q_set_1i, q_set_1r, q_set_1n, q_set_1N, q_set_s, q_set_1j, q_bk_v, q_bk_n, q_if, zb_ite, cond_true, cond_false, List.getElem?_cons_zero, List.getElem?_cons_succ, Nat.reduceAdd, hk, hc, if_true, if_false, zb_eq0, zb_eq1, zn_1, not_true_eq_false, not_false_eq_true, ite_true, ite_false, if_true, if_false, q_iret_0, q_iret_1, decide_true, decide_false, decide_not, zb_t, zb_f, z10, z01, cond_true, cond_false, Bool.and_true, Bool.true_and, Bool.and_false, Bool.false_and, Bool.not_true, Bool.not_false, true_and, and_true, false_and, and_false, true_or, or_true, false_or, or_false, Bool.true_eq_false, Bool.false_eq_true, eq_self, reduceCtorEq, Bool.or_true, Bool.true_or, Bool.or_false, Bool.false_or])
def dSet (B A : zzMd) (c o : Nat) : Int32 × zzMd :=
  match ovP B (3 + c) (zn o) with
  | some p => oc2 (aRem A c p)
  | none =>
    bif !decide (rd B (3 + c) (zn o) 0 ≤ zn (cntP B (3 + c) (zn o))) then oc2 (aMk A c o 2)
    else bif !decide (zn (cntP B (3 + c) (zn o)) ≤ rd B (3 + c) (zn o) 0) then oc2 (aRem A c (zz_ix (ptm B (3 + c) (zn o) (nv B (3 + c))).1)) else (1, A)
def dJob (B A : zzMd) (c o : Nat) : Int32 × zzMd :=
  bif !decide (rd B (3 + c) (zn o) 0 ≤ zn (dnP B (3 + c) (zn o) (nv B (3 + c))) + zn (acP B (3 + c) (zn o) (nv B (3 + c)))) && !decide (rd B (3 + c) (zn o) 10 ≤ zn (acP B (3 + c) (zn o) (nv B (3 + c)))) then oc2 (aMk A c o 2) else (1, A)
def dS1 (B A : zzMd) (c o : Nat) : Int32 × zzMd :=
  bif stay B (3 + c) (zn o) (B.1 (3 + c) 5) then (bif decide (B.1 (3 + c) 5 = 1) then dSet B A c o else dJob B A c o) else (1, A)
theorem sp_serveSet {M : zzMd} (W : zIC M) {c : Nat} (hc2 : c = 1 ∨ c = 2) (o : Nat) (h0 : 0 ≤ (rd M (3 + c) (zn o) 0).toInt) :
    ∃ M', fX4_serveSet [.ref (3 + c), .int (zn o)] M = some (.inl (some (.int (dSet M (nz M) c o).1)), M') ∧ nz M' = (dSet M (nz M) c o).2 := by
  have hc : c < 8 := by omega
  have hv2 : 3 + c = 4 ∨ 3 + c = 5 := by omega
  have Wv := zIC_W (zcV hc) W
  have hrm := fun (p : Nat) (hp : p < 60) => sp_remove W hc hp
  have hmk := sp_makeFor W hc o 2
  have hr := fun x s => sp_read' Wv x s
  have ho := fun x k w => sp_isOwned Wv x k w
  have hpt := fun w => sp_ptm hv2 Wv w
  have hoc := sp_outcomeOf
  obtain ⟨-, -, hk, hn⟩ := Wv
  have st : fX4_serveSet [.ref (3 + c), .int (zn o)] M = zz_ev tX4_serveSet 4 [some (.ref (3 + c)), some (.int (zn o)), some (.int (zn 0)), some (.int (zn 0))] [] M := by
    rw [s_X4_serveSet]
    clear W hrm hmk hr ho hpt hk h0
    rcases hc2 with rfl | rfl <;> ((simp only [Nat.reduceAdd, Nat.reduceMul, Nat.mul_zero, Nat.add_zero] at *; simp only [e_X4_serveSet, zo_iload, zo_lload, zo_aload, zo_istore, zo_lstore, zo_astore, zo_iinc, zo_pushI, zo_pushL, zo_null, zo_ii, zo_iid, zo_ll, zo_li, zo_lcmp, zo_i2l, zo_l2i, zo_dup, zo_dup2, zo_pop, zo_goto, zo_if, zo_icmp, zo_ifnull, zo_gets, zo_mm, zo_throw, zo_ret, zo_aret, zo_lret, q_iret_f, q_iret_1, q_iret_0, q_iret_b, q_c8_0, q_c8_1, q_c8_2, q_c8_3, q_c8_4, q_set_0, q_set_1i, q_set_1r, q_set_1n, q_set_1N, q_set_s, q_set_1j, q_bk_v, q_bk_n, q_if, zb_ite, cond_true, cond_false, List.getElem?_cons_zero, List.getElem?_cons_succ, Nat.reduceAdd, if_true, if_false, zb_eq0, zb_eq1, zn_1, not_true_eq_false, not_false_eq_true, ite_true, ite_false, if_true, if_false, q_iret_0, q_iret_1, decide_true, decide_false, decide_not, zb_t, zb_f, z10, z01, cond_true, cond_false, Bool.and_true, Bool.true_and, Bool.and_false, Bool.false_and, Bool.not_true, Bool.not_false, true_and, and_true, false_and, and_false, true_or, or_true, false_or, or_false, Bool.true_eq_false, Bool.false_eq_true, eq_self, reduceCtorEq, Bool.or_true, Bool.true_or, Bool.or_false, Bool.false_or]); rfl)
  have lp := zl_fst (E := fun i => zz_ev tX4_serveSet 4 [some (.ref (3 + c)), some (.int (zn o)), some (.int (zn (zcnt i fun i => owned M (3 + c) (zn i) 2 (zn o)))), some (.int (zn i))] [] M)
    (P := fun i => owned M (3 + c) (zn i) 2 (zn o) && (decide (rd M (3 + c) (zn i) 29 = 2) || decide (rd M (3 + c) (zn i) 29 = 3)))
    (r := fun i => zz_ev tX4_serveSet 47 [some (.ref (3 + c)), some (.int (zn o)), some (.int (zn (zcnt i fun i => owned M (3 + c) (zn i) 2 (zn o)) + 1)), some (.int (zn i))] [] M) (nv M (3 + c)) (fun i hi => by
    have hcc := zk_in hi hn
    generalize hZ : zz_ev tX4_serveSet 47 [some (.ref (3 + c)), some (.int (zn o)), some (.int (zn (zcnt i fun i => owned M (3 + c) (zn i) 2 (zn o)) + 1)), some (.int (zn i))] [] M = Z
    rw [zcnt_s]
    rw [zn_1] at hZ
    generalize zcnt i (fun i => owned M (3 + c) (zn i) 2 (zn o)) = q at hZ ⊢
    clear W hrm hmk hpt st h0
    cases h1 : owned M (3 + c) (zn i) 2 (zn o) <;> by_cases h2 : rd M (3 + c) (zn i) 29 = 2 <;> by_cases h3 : rd M (3 + c) (zn i) 29 = 3 <;> rcases hc2 with rfl | rfl <;>
      (rw [e_X4_serveSet_4]; (simp only [Nat.reduceAdd, Nat.reduceMul, Nat.mul_zero, Nat.add_zero] at *; simp only [e_X4_serveSet, zo_iload, zo_lload, zo_aload, zo_istore, zo_lstore, zo_astore, zo_iinc, zo_pushI, zo_pushL, zo_null, zo_ii, zo_iid, zo_ll, zo_li, zo_lcmp, zo_i2l, zo_l2i, zo_dup, zo_dup2, zo_pop, zo_goto, zo_if, zo_icmp, zo_ifnull, zo_gets, zo_mm, zo_throw, zo_ret, zo_aret, zo_lret, q_iret_f, q_iret_1, q_iret_0, q_iret_b, q_c8_0, q_c8_1, q_c8_2, q_c8_3, q_c8_4, q_set_0, q_set_1i, q_set_1r, q_set_1n, q_set_1N, q_set_s, q_set_1j, q_bk_v, q_bk_n, q_if, zb_ite, cond_true, cond_false, List.getElem?_cons_zero, List.getElem?_cons_succ, Nat.reduceAdd, ↓hZ, hk, hcc, hr, ho, h1, h2, h3, Nat.add_zero, ite_self, if_true, if_false, zb_eq0, zb_eq1, zn_1, not_true_eq_false, not_false_eq_true, ite_true, ite_false, if_true, if_false, q_iret_0, q_iret_1, decide_true, decide_false, decide_not, zb_t, zb_f, z10, z01, cond_true, cond_false, Bool.and_true, Bool.true_and, Bool.and_false, Bool.false_and, Bool.not_true, Bool.not_false, true_and, and_true, false_and, and_false, true_or, or_true, false_or, or_false, Bool.true_eq_false, Bool.false_eq_true, eq_self, reduceCtorEq, Bool.or_true, Bool.true_or, Bool.or_false, Bool.false_or])))
  rw [st]
  unfold dSet
  rw [show zz_ev tX4_serveSet 4 [some (.ref (3 + c)), some (.int (zn o)), some (.int (zn 0)), some (.int (zn 0))] [] M = _ from lp]
  cases c1 : ovP M (3 + c) (zn o) with
  | some p =>
    have hp : p < 60 := Nat.lt_of_lt_of_le (zfst_some c1).1 hn
    unfold ovP at c1
    rw [c1]
    obtain ⟨M', a1, a2⟩ := hrm p hp
    refine ⟨M', ?_, a2⟩
    show zz_ev tX4_serveSet 47 [some (.ref (3 + c)), some (.int (zn o)), some (.int (zn (zcnt p fun i => owned M (3 + c) (zn i) 2 (zn o)) + 1)), some (.int (zn p))] [] M = some (.inl (some (.int (oc2 (aRem (nz M) c p)).1)), M')
    clear W hrm hmk hpt st h0 lp c1 a2
    rcases hc2 with rfl | rfl <;> (simp only [Nat.reduceAdd, Nat.reduceMul, Nat.mul_zero, Nat.add_zero] at *; simp only [e_X4_serveSet, zo_iload, zo_lload, zo_aload, zo_istore, zo_lstore, zo_astore, zo_iinc, zo_pushI, zo_pushL, zo_null, zo_ii, zo_iid, zo_ll, zo_li, zo_lcmp, zo_i2l, zo_l2i, zo_dup, zo_dup2, zo_pop, zo_goto, zo_if, zo_icmp, zo_ifnull, zo_gets, zo_mm, zo_throw, zo_ret, zo_aret, zo_lret, q_iret_f, q_iret_1, q_iret_0, q_iret_b, q_c8_0, q_c8_1, q_c8_2, q_c8_3, q_c8_4, q_set_0, q_set_1i, q_set_1r, q_set_1n, q_set_1N, q_set_s, q_set_1j, q_bk_v, q_bk_n, q_if, zb_ite, cond_true, cond_false, List.getElem?_cons_zero, List.getElem?_cons_succ, Nat.reduceAdd, a1, hoc, oc2, if_true, if_false, zb_eq0, zb_eq1, zn_1, not_true_eq_false, not_false_eq_true, ite_true, ite_false, if_true, if_false, q_iret_0, q_iret_1, decide_true, decide_false, decide_not, zb_t, zb_f, z10, z01, cond_true, cond_false, Bool.and_true, Bool.true_and, Bool.and_false, Bool.false_and, Bool.not_true, Bool.not_false, true_and, and_true, false_and, and_false, true_or, or_true, false_or, or_false, Bool.true_eq_false, Bool.false_eq_true, eq_self, reduceCtorEq, Bool.or_true, Bool.true_or, Bool.or_false, Bool.false_or])
  | none =>
    unfold ovP at c1
    rw [c1]
    show ∃ M', zz_ev tX4_serveSet 4 [some (.ref (3 + c)), some (.int (zn o)), some (.int (zn (cntP M (3 + c) (zn o)))), some (.int (zn (nv M (3 + c))))] [] M = _ ∧ _
    have hcc := zk_out hn
    by_cases c2 : rd M (3 + c) (zn o) 0 ≤ zn (cntP M (3 + c) (zn o))
    · by_cases c3 : zn (cntP M (3 + c) (zn o)) ≤ rd M (3 + c) (zn o) 0
      · rw [decide_eq_true c2, decide_eq_true c3]
        refine ⟨M, ?_, rfl⟩
        clear W hrm hmk hpt st h0 lp c1
        rcases hc2 with rfl | rfl <;> (rw [e_X4_serveSet_4]; (simp only [Nat.reduceAdd, Nat.reduceMul, Nat.mul_zero, Nat.add_zero] at *; simp only [e_X4_serveSet, zo_iload, zo_lload, zo_aload, zo_istore, zo_lstore, zo_astore, zo_iinc, zo_pushI, zo_pushL, zo_null, zo_ii, zo_iid, zo_ll, zo_li, zo_lcmp, zo_i2l, zo_l2i, zo_dup, zo_dup2, zo_pop, zo_goto, zo_if, zo_icmp, zo_ifnull, zo_gets, zo_mm, zo_throw, zo_ret, zo_aret, zo_lret, q_iret_f, q_iret_1, q_iret_0, q_iret_b, q_c8_0, q_c8_1, q_c8_2, q_c8_3, q_c8_4, q_set_0, q_set_1i, q_set_1r, q_set_1n, q_set_1N, q_set_s, q_set_1j, q_bk_v, q_bk_n, q_if, zb_ite, cond_true, cond_false, List.getElem?_cons_zero, List.getElem?_cons_succ, Nat.reduceAdd, hk, hcc, hr, c2, c3, if_true, if_false, zb_eq0, zb_eq1, zn_1, not_true_eq_false, not_false_eq_true, ite_true, ite_false, if_true, if_false, q_iret_0, q_iret_1, decide_true, decide_false, decide_not, zb_t, zb_f, z10, z01, cond_true, cond_false, Bool.and_true, Bool.true_and, Bool.and_false, Bool.false_and, Bool.not_true, Bool.not_false, true_and, and_true, false_and, and_false, true_or, or_true, false_or, or_false, Bool.true_eq_false, Bool.false_eq_true, eq_self, reduceCtorEq, Bool.or_true, Bool.true_or, Bool.or_false, Bool.false_or]))
      · rw [decide_eq_true c2, decide_eq_false c3]
        have hp : ∃ p, p < 60 ∧ (ptm M (3 + c) (zn o) (nv M (3 + c))).1 = zn p := by
          rcases ptm_in M (3 + c) (zn o) (nv M (3 + c)) with ⟨-, q⟩ | ⟨k, q1, q2⟩
          · refine absurd ?_ c3
            rw [show cntP M (3 + c) (zn o) = 0 from q, Int32.le_iff_toInt_le]
            exact h0
          · exact ⟨k, by omega, q2⟩
        obtain ⟨p, hp1, hp2⟩ := hp
        have hpt' := hpt (zn o)
        rw [hp2] at hpt' ⊢
        rw [zn_ix (by omega)]
        obtain ⟨M', a1, a2⟩ := hrm p hp1
        refine ⟨M', ?_, a2⟩
        clear W hrm hmk hpt st h0 lp c1 a2 hp2
        simp only [Bool.not_true, Bool.not_false, cond_true, cond_false]
        generalize cntP M (3 + c) (zn o) = q at c2 c3 ⊢
        rcases hc2 with rfl | rfl <;> (rw [e_X4_serveSet_4]; (simp only [Nat.reduceAdd, Nat.reduceMul, Nat.mul_zero, Nat.add_zero] at *; simp only [e_X4_serveSet, zo_iload, zo_lload, zo_aload, zo_istore, zo_lstore, zo_astore, zo_iinc, zo_pushI, zo_pushL, zo_null, zo_ii, zo_iid, zo_ll, zo_li, zo_lcmp, zo_i2l, zo_l2i, zo_dup, zo_dup2, zo_pop, zo_goto, zo_if, zo_icmp, zo_ifnull, zo_gets, zo_mm, zo_throw, zo_ret, zo_aret, zo_lret, q_iret_f, q_iret_1, q_iret_0, q_iret_b, q_c8_0, q_c8_1, q_c8_2, q_c8_3, q_c8_4, q_set_0, q_set_1i, q_set_1r, q_set_1n, q_set_1N, q_set_s, q_set_1j, q_bk_v, q_bk_n, q_if, zb_ite, cond_true, cond_false, List.getElem?_cons_zero, List.getElem?_cons_succ, Nat.reduceAdd, hk, hcc, hr, c2, c3, hpt', a1, hoc, oc2, if_true, if_false, zb_eq0, zb_eq1, zn_1, not_true_eq_false, not_false_eq_true, ite_true, ite_false, if_true, if_false, q_iret_0, q_iret_1, decide_true, decide_false, decide_not, zb_t, zb_f, z10, z01, cond_true, cond_false, Bool.and_true, Bool.true_and, Bool.and_false, Bool.false_and, Bool.not_true, Bool.not_false, true_and, and_true, false_and, and_false, true_or, or_true, false_or, or_false, Bool.true_eq_false, Bool.false_eq_true, eq_self, reduceCtorEq, Bool.or_true, Bool.true_or, Bool.or_false, Bool.false_or]))
    · rw [decide_eq_false c2]
      obtain ⟨M', a1, a2⟩ := hmk
      refine ⟨M', ?_, a2⟩
      clear W hrm hpt st h0 lp c1 a2
      simp only [Bool.not_true, Bool.not_false, cond_true, cond_false]
      rcases hc2 with rfl | rfl <;> (rw [e_X4_serveSet_4]; (simp only [Nat.reduceAdd, Nat.reduceMul, Nat.mul_zero, Nat.add_zero] at *; simp only [e_X4_serveSet, zo_iload, zo_lload, zo_aload, zo_istore, zo_lstore, zo_astore, zo_iinc, zo_pushI, zo_pushL, zo_null, zo_ii, zo_iid, zo_ll, zo_li, zo_lcmp, zo_i2l, zo_l2i, zo_dup, zo_dup2, zo_pop, zo_goto, zo_if, zo_icmp, zo_ifnull, zo_gets, zo_mm, zo_throw, zo_ret, zo_aret, zo_lret, q_iret_f, q_iret_1, q_iret_0, q_iret_b, q_c8_0, q_c8_1, q_c8_2, q_c8_3, q_c8_4, q_set_0, q_set_1i, q_set_1r, q_set_1n, q_set_1N, q_set_s, q_set_1j, q_bk_v, q_bk_n, q_if, zb_ite, cond_true, cond_false, List.getElem?_cons_zero, List.getElem?_cons_succ, Nat.reduceAdd, hk, hcc, hr, c2, a1, hoc, oc2, if_true, if_false, zb_eq0, zb_eq1, zn_1, not_true_eq_false, not_false_eq_true, ite_true, ite_false, if_true, if_false, q_iret_0, q_iret_1, decide_true, decide_false, decide_not, zb_t, zb_f, z10, z01, cond_true, cond_false, Bool.and_true, Bool.true_and, Bool.and_false, Bool.false_and, Bool.not_true, Bool.not_false, true_and, and_true, false_and, and_false, true_or, or_true, false_or, or_false, Bool.true_eq_false, Bool.false_eq_true, eq_self, reduceCtorEq, Bool.or_true, Bool.true_or, Bool.or_false, Bool.false_or]))
theorem sp_serveJob {M : zzMd} (W : zIC M) {c : Nat} (hc2 : c = 1 ∨ c = 2) (o : Nat) :
    ∃ M', fX4_serveJob [.ref (3 + c), .int (zn o)] M = some (.inl (some (.int (dJob M (nz M) c o).1)), M') ∧ nz M' = (dJob M (nz M) c o).2 := by
  have hc : c < 8 := by omega
  have Wv := zIC_W (zcV hc) W
  have hmk := sp_makeFor W hc o 2
  have hr := fun x s => sp_read' Wv x s
  have ho := fun x k w => sp_isOwned Wv x k w
  have hoc := sp_outcomeOf
  obtain ⟨-, -, hk, hn⟩ := Wv
  have st : fX4_serveJob [.ref (3 + c), .int (zn o)] M = zz_ev tX4_serveJob 7 [some (.ref (3 + c)), some (.int (zn o)), some (.int (zn 0)), some (.int (zn 0)), some (.int (zn 0)), zj none] [] M := by
    rw [s_X4_serveJob]
    clear W hmk hr ho hk
    rcases hc2 with rfl | rfl <;> ((simp only [Nat.reduceAdd, Nat.reduceMul, Nat.mul_zero, Nat.add_zero] at *; simp only [e_X4_serveJob, zo_iload, zo_lload, zo_aload, zo_istore, zo_lstore, zo_astore, zo_iinc, zo_pushI, zo_pushL, zo_null, zo_ii, zo_iid, zo_ll, zo_li, zo_lcmp, zo_i2l, zo_l2i, zo_dup, zo_dup2, zo_pop, zo_goto, zo_if, zo_icmp, zo_ifnull, zo_gets, zo_mm, zo_throw, zo_ret, zo_aret, zo_lret, q_iret_f, q_iret_1, q_iret_0, q_iret_b, q_c8_0, q_c8_1, q_c8_2, q_c8_3, q_c8_4, q_set_0, q_set_1i, q_set_1r, q_set_1n, q_set_1N, q_set_s, q_set_1j, q_bk_v, q_bk_n, q_if, zb_ite, cond_true, cond_false, List.getElem?_cons_zero, List.getElem?_cons_succ, Nat.reduceAdd, if_true, if_false, zb_eq0, zb_eq1, zn_1, not_true_eq_false, not_false_eq_true, ite_true, ite_false, if_true, if_false, q_iret_0, q_iret_1, decide_true, decide_false, decide_not, zb_t, zb_f, z10, z01, cond_true, cond_false, Bool.and_true, Bool.true_and, Bool.and_false, Bool.false_and, Bool.not_true, Bool.not_false, true_and, and_true, false_and, and_false, true_or, or_true, false_or, or_false, Bool.true_eq_false, Bool.false_eq_true, eq_self, reduceCtorEq, Bool.or_true, Bool.true_or, Bool.or_false, Bool.false_or]); rfl)
  obtain ⟨j, lp⟩ := zl_goJ (E := fun i j => zz_ev tX4_serveJob 7 [some (.ref (3 + c)), some (.int (zn o)), some (.int (zn (dnP M (3 + c) (zn o) i))), some (.int (zn (acP M (3 + c) (zn o) i))), some (.int (zn i)), zj j] [] M) (nv M (3 + c)) (fun i hi j => by
    have hcc := zk_in hi hn
    rw [dnP_s, acP_s]
    generalize dnP M (3 + c) (zn o) i = q
    generalize acP M (3 + c) (zn o) i = p
    clear W hmk st
    have n02 : ((0 : Int32) = 2) = False := eq_false (by decide)
    have n12 : ((1 : Int32) = 2) = False := eq_false (by decide)
    have n21 : ((2 : Int32) = 1) = False := eq_false (by decide)
    have n20 : ((2 : Int32) = 0) = False := eq_false (by decide)
    cases h1 : owned M (3 + c) (zn i) 2 (zn o)
    · refine ⟨j, ?_⟩
      rcases hc2 with rfl | rfl <;> (rw [e_X4_serveJob_7]; (simp only [Nat.reduceAdd, Nat.reduceMul, Nat.mul_zero, Nat.add_zero] at *; simp only [e_X4_serveJob, zo_iload, zo_lload, zo_aload, zo_istore, zo_lstore, zo_astore, zo_iinc, zo_pushI, zo_pushL, zo_null, zo_ii, zo_iid, zo_ll, zo_li, zo_lcmp, zo_i2l, zo_l2i, zo_dup, zo_dup2, zo_pop, zo_goto, zo_if, zo_icmp, zo_ifnull, zo_gets, zo_mm, zo_throw, zo_ret, zo_aret, zo_lret, q_iret_f, q_iret_1, q_iret_0, q_iret_b, q_c8_0, q_c8_1, q_c8_2, q_c8_3, q_c8_4, q_set_0, q_set_1i, q_set_1r, q_set_1n, q_set_1N, q_set_s, q_set_1j, q_bk_v, q_bk_n, q_if, zb_ite, cond_true, cond_false, List.getElem?_cons_zero, List.getElem?_cons_succ, Nat.reduceAdd, hk, hcc, hr, ho, h1, Nat.add_zero, if_true, if_false, zb_eq0, zb_eq1, zn_1, not_true_eq_false, not_false_eq_true, ite_true, ite_false, if_true, if_false, q_iret_0, q_iret_1, decide_true, decide_false, decide_not, zb_t, zb_f, z10, z01, cond_true, cond_false, Bool.and_true, Bool.true_and, Bool.and_false, Bool.false_and, Bool.not_true, Bool.not_false, true_and, and_true, false_and, and_false, true_or, or_true, false_or, or_false, Bool.true_eq_false, Bool.false_eq_true, eq_self, reduceCtorEq, Bool.or_true, Bool.true_or, Bool.or_false, Bool.false_or]))
    · refine ⟨some (rd M (3 + c) (zn i) 29), ?_⟩
      by_cases h2 : rd M (3 + c) (zn i) 29 = 2
      · rcases hc2 with rfl | rfl <;> (rw [e_X4_serveJob_7]; (simp only [Nat.reduceAdd, Nat.reduceMul, Nat.mul_zero, Nat.add_zero] at *; simp only [e_X4_serveJob, zo_iload, zo_lload, zo_aload, zo_istore, zo_lstore, zo_astore, zo_iinc, zo_pushI, zo_pushL, zo_null, zo_ii, zo_iid, zo_ll, zo_li, zo_lcmp, zo_i2l, zo_l2i, zo_dup, zo_dup2, zo_pop, zo_goto, zo_if, zo_icmp, zo_ifnull, zo_gets, zo_mm, zo_throw, zo_ret, zo_aret, zo_lret, q_iret_f, q_iret_1, q_iret_0, q_iret_b, q_c8_0, q_c8_1, q_c8_2, q_c8_3, q_c8_4, q_set_0, q_set_1i, q_set_1r, q_set_1n, q_set_1N, q_set_s, q_set_1j, q_bk_v, q_bk_n, q_if, zb_ite, cond_true, cond_false, List.getElem?_cons_zero, List.getElem?_cons_succ, Nat.reduceAdd, hk, hcc, hr, ho, h1, h2, n21, n20, Nat.add_zero, Int32.add_zero, zj_some, if_true, if_false, zb_eq0, zb_eq1, zn_1, not_true_eq_false, not_false_eq_true, ite_true, ite_false, if_true, if_false, q_iret_0, q_iret_1, decide_true, decide_false, decide_not, zb_t, zb_f, z10, z01, cond_true, cond_false, Bool.and_true, Bool.true_and, Bool.and_false, Bool.false_and, Bool.not_true, Bool.not_false, true_and, and_true, false_and, and_false, true_or, or_true, false_or, or_false, Bool.true_eq_false, Bool.false_eq_true, eq_self, reduceCtorEq, Bool.or_true, Bool.true_or, Bool.or_false, Bool.false_or]))
      · by_cases h3 : rd M (3 + c) (zn i) 29 = 0
        · rcases hc2 with rfl | rfl <;> (rw [e_X4_serveJob_7]; (simp only [Nat.reduceAdd, Nat.reduceMul, Nat.mul_zero, Nat.add_zero] at *; simp only [e_X4_serveJob, zo_iload, zo_lload, zo_aload, zo_istore, zo_lstore, zo_astore, zo_iinc, zo_pushI, zo_pushL, zo_null, zo_ii, zo_iid, zo_ll, zo_li, zo_lcmp, zo_i2l, zo_l2i, zo_dup, zo_dup2, zo_pop, zo_goto, zo_if, zo_icmp, zo_ifnull, zo_gets, zo_mm, zo_throw, zo_ret, zo_aret, zo_lret, q_iret_f, q_iret_1, q_iret_0, q_iret_b, q_c8_0, q_c8_1, q_c8_2, q_c8_3, q_c8_4, q_set_0, q_set_1i, q_set_1r, q_set_1n, q_set_1N, q_set_s, q_set_1j, q_bk_v, q_bk_n, q_if, zb_ite, cond_true, cond_false, List.getElem?_cons_zero, List.getElem?_cons_succ, Nat.reduceAdd, hk, hcc, hr, ho, h1, h3, n02, Nat.add_zero, Int32.add_zero, zj_some, if_true, if_false, zb_eq0, zb_eq1, zn_1, not_true_eq_false, not_false_eq_true, ite_true, ite_false, if_true, if_false, q_iret_0, q_iret_1, decide_true, decide_false, decide_not, zb_t, zb_f, z10, z01, cond_true, cond_false, Bool.and_true, Bool.true_and, Bool.and_false, Bool.false_and, Bool.not_true, Bool.not_false, true_and, and_true, false_and, and_false, true_or, or_true, false_or, or_false, Bool.true_eq_false, Bool.false_eq_true, eq_self, reduceCtorEq, Bool.or_true, Bool.true_or, Bool.or_false, Bool.false_or]))
        · by_cases h4 : rd M (3 + c) (zn i) 29 = 1
          · rcases hc2 with rfl | rfl <;> (rw [e_X4_serveJob_7]; (simp only [Nat.reduceAdd, Nat.reduceMul, Nat.mul_zero, Nat.add_zero] at *; simp only [e_X4_serveJob, zo_iload, zo_lload, zo_aload, zo_istore, zo_lstore, zo_astore, zo_iinc, zo_pushI, zo_pushL, zo_null, zo_ii, zo_iid, zo_ll, zo_li, zo_lcmp, zo_i2l, zo_l2i, zo_dup, zo_dup2, zo_pop, zo_goto, zo_if, zo_icmp, zo_ifnull, zo_gets, zo_mm, zo_throw, zo_ret, zo_aret, zo_lret, q_iret_f, q_iret_1, q_iret_0, q_iret_b, q_c8_0, q_c8_1, q_c8_2, q_c8_3, q_c8_4, q_set_0, q_set_1i, q_set_1r, q_set_1n, q_set_1N, q_set_s, q_set_1j, q_bk_v, q_bk_n, q_if, zb_ite, cond_true, cond_false, List.getElem?_cons_zero, List.getElem?_cons_succ, Nat.reduceAdd, hk, hcc, hr, ho, h1, h4, n12, Nat.add_zero, Int32.add_zero, zj_some, if_true, if_false, zb_eq0, zb_eq1, zn_1, not_true_eq_false, not_false_eq_true, ite_true, ite_false, if_true, if_false, q_iret_0, q_iret_1, decide_true, decide_false, decide_not, zb_t, zb_f, z10, z01, cond_true, cond_false, Bool.and_true, Bool.true_and, Bool.and_false, Bool.false_and, Bool.not_true, Bool.not_false, true_and, and_true, false_and, and_false, true_or, or_true, false_or, or_false, Bool.true_eq_false, Bool.false_eq_true, eq_self, reduceCtorEq, Bool.or_true, Bool.true_or, Bool.or_false, Bool.false_or]))
          · rcases hc2 with rfl | rfl <;> (rw [e_X4_serveJob_7]; (simp only [Nat.reduceAdd, Nat.reduceMul, Nat.mul_zero, Nat.add_zero] at *; simp only [e_X4_serveJob, zo_iload, zo_lload, zo_aload, zo_istore, zo_lstore, zo_astore, zo_iinc, zo_pushI, zo_pushL, zo_null, zo_ii, zo_iid, zo_ll, zo_li, zo_lcmp, zo_i2l, zo_l2i, zo_dup, zo_dup2, zo_pop, zo_goto, zo_if, zo_icmp, zo_ifnull, zo_gets, zo_mm, zo_throw, zo_ret, zo_aret, zo_lret, q_iret_f, q_iret_1, q_iret_0, q_iret_b, q_c8_0, q_c8_1, q_c8_2, q_c8_3, q_c8_4, q_set_0, q_set_1i, q_set_1r, q_set_1n, q_set_1N, q_set_s, q_set_1j, q_bk_v, q_bk_n, q_if, zb_ite, cond_true, cond_false, List.getElem?_cons_zero, List.getElem?_cons_succ, Nat.reduceAdd, hk, hcc, hr, ho, h1, h2, h3, h4, Nat.add_zero, Int32.add_zero, zj_some, if_true, if_false, zb_eq0, zb_eq1, zn_1, not_true_eq_false, not_false_eq_true, ite_true, ite_false, if_true, if_false, q_iret_0, q_iret_1, decide_true, decide_false, decide_not, zb_t, zb_f, z10, z01, cond_true, cond_false, Bool.and_true, Bool.true_and, Bool.and_false, Bool.false_and, Bool.not_true, Bool.not_false, true_and, and_true, false_and, and_false, true_or, or_true, false_or, or_false, Bool.true_eq_false, Bool.false_eq_true, eq_self, reduceCtorEq, Bool.or_true, Bool.true_or, Bool.or_false, Bool.false_or]))) none
  rw [st, show zz_ev tX4_serveJob 7 [some (.ref (3 + c)), some (.int (zn o)), some (.int (zn 0)), some (.int (zn 0)), some (.int (zn 0)), zj none] [] M = _ from lp]
  have hcc := zk_out hn
  unfold dJob
  generalize dnP M (3 + c) (zn o) (nv M (3 + c)) = q
  generalize acP M (3 + c) (zn o) (nv M (3 + c)) = p
  obtain ⟨M', a1, a2⟩ := hmk
  have zadd : zn q + zn p = zn q + zn p := rfl
  by_cases c1 : rd M (3 + c) (zn o) 0 ≤ zn q + zn p
  · rw [decide_eq_true c1]
    refine ⟨M, ?_, rfl⟩
    clear W st lp a1 a2
    rcases hc2 with rfl | rfl <;> (rw [e_X4_serveJob_7]; (simp only [Nat.reduceAdd, Nat.reduceMul, Nat.mul_zero, Nat.add_zero] at *; simp only [e_X4_serveJob, zo_iload, zo_lload, zo_aload, zo_istore, zo_lstore, zo_astore, zo_iinc, zo_pushI, zo_pushL, zo_null, zo_ii, zo_iid, zo_ll, zo_li, zo_lcmp, zo_i2l, zo_l2i, zo_dup, zo_dup2, zo_pop, zo_goto, zo_if, zo_icmp, zo_ifnull, zo_gets, zo_mm, zo_throw, zo_ret, zo_aret, zo_lret, q_iret_f, q_iret_1, q_iret_0, q_iret_b, q_c8_0, q_c8_1, q_c8_2, q_c8_3, q_c8_4, q_set_0, q_set_1i, q_set_1r, q_set_1n, q_set_1N, q_set_s, q_set_1j, q_bk_v, q_bk_n, q_if, zb_ite, cond_true, cond_false, List.getElem?_cons_zero, List.getElem?_cons_succ, Nat.reduceAdd, hk, hcc, hr, c1, if_true, if_false, zb_eq0, zb_eq1, zn_1, not_true_eq_false, not_false_eq_true, ite_true, ite_false, if_true, if_false, q_iret_0, q_iret_1, decide_true, decide_false, decide_not, zb_t, zb_f, z10, z01, cond_true, cond_false, Bool.and_true, Bool.true_and, Bool.and_false, Bool.false_and, Bool.not_true, Bool.not_false, true_and, and_true, false_and, and_false, true_or, or_true, false_or, or_false, Bool.true_eq_false, Bool.false_eq_true, eq_self, reduceCtorEq, Bool.or_true, Bool.true_or, Bool.or_false, Bool.false_or]))
  · by_cases c2 : rd M (3 + c) (zn o) 10 ≤ zn p
    · rw [decide_eq_true c2, decide_eq_false c1]
      refine ⟨M, ?_, rfl⟩
      clear W st lp a1 a2
      rcases hc2 with rfl | rfl <;> (rw [e_X4_serveJob_7]; (simp only [Nat.reduceAdd, Nat.reduceMul, Nat.mul_zero, Nat.add_zero] at *; simp only [e_X4_serveJob, zo_iload, zo_lload, zo_aload, zo_istore, zo_lstore, zo_astore, zo_iinc, zo_pushI, zo_pushL, zo_null, zo_ii, zo_iid, zo_ll, zo_li, zo_lcmp, zo_i2l, zo_l2i, zo_dup, zo_dup2, zo_pop, zo_goto, zo_if, zo_icmp, zo_ifnull, zo_gets, zo_mm, zo_throw, zo_ret, zo_aret, zo_lret, q_iret_f, q_iret_1, q_iret_0, q_iret_b, q_c8_0, q_c8_1, q_c8_2, q_c8_3, q_c8_4, q_set_0, q_set_1i, q_set_1r, q_set_1n, q_set_1N, q_set_s, q_set_1j, q_bk_v, q_bk_n, q_if, zb_ite, cond_true, cond_false, List.getElem?_cons_zero, List.getElem?_cons_succ, Nat.reduceAdd, hk, hcc, hr, c1, c2, if_true, if_false, zb_eq0, zb_eq1, zn_1, not_true_eq_false, not_false_eq_true, ite_true, ite_false, if_true, if_false, q_iret_0, q_iret_1, decide_true, decide_false, decide_not, zb_t, zb_f, z10, z01, cond_true, cond_false, Bool.and_true, Bool.true_and, Bool.and_false, Bool.false_and, Bool.not_true, Bool.not_false, true_and, and_true, false_and, and_false, true_or, or_true, false_or, or_false, Bool.true_eq_false, Bool.false_eq_true, eq_self, reduceCtorEq, Bool.or_true, Bool.true_or, Bool.or_false, Bool.false_or]))
    · rw [decide_eq_false c2, decide_eq_false c1]
      refine ⟨M', ?_, a2⟩
      clear W st lp a2
      rcases hc2 with rfl | rfl <;> (rw [e_X4_serveJob_7]; (simp only [Nat.reduceAdd, Nat.reduceMul, Nat.mul_zero, Nat.add_zero] at *; simp only [e_X4_serveJob, zo_iload, zo_lload, zo_aload, zo_istore, zo_lstore, zo_astore, zo_iinc, zo_pushI, zo_pushL, zo_null, zo_ii, zo_iid, zo_ll, zo_li, zo_lcmp, zo_i2l, zo_l2i, zo_dup, zo_dup2, zo_pop, zo_goto, zo_if, zo_icmp, zo_ifnull, zo_gets, zo_mm, zo_throw, zo_ret, zo_aret, zo_lret, q_iret_f, q_iret_1, q_iret_0, q_iret_b, q_c8_0, q_c8_1, q_c8_2, q_c8_3, q_c8_4, q_set_0, q_set_1i, q_set_1r, q_set_1n, q_set_1N, q_set_s, q_set_1j, q_bk_v, q_bk_n, q_if, zb_ite, cond_true, cond_false, List.getElem?_cons_zero, List.getElem?_cons_succ, Nat.reduceAdd, hk, hcc, hr, c1, c2, a1, hoc, oc2, if_true, if_false, zb_eq0, zb_eq1, zn_1, not_true_eq_false, not_false_eq_true, ite_true, ite_false, if_true, if_false, q_iret_0, q_iret_1, decide_true, decide_false, decide_not, zb_t, zb_f, z10, z01, cond_true, cond_false, Bool.and_true, Bool.true_and, Bool.and_false, Bool.false_and, Bool.not_true, Bool.not_false, true_and, and_true, false_and, and_false, true_or, or_true, false_or, or_false, Bool.true_eq_false, Bool.false_eq_true, eq_self, reduceCtorEq, Bool.or_true, Bool.true_or, Bool.or_false, Bool.false_or]))
theorem sp_serve1 {M : zzMd} (W : zIC M) {c : Nat} (hc2 : c = 1 ∨ c = 2) (o : Nat) (h0 : stay M (3 + c) (zn o) (M.1 (3 + c) 5) = true → 0 ≤ (rd M (3 + c) (zn o) 0).toInt) :
    ∃ M', fX4_serve [.ref (3 + c), .int (zn o)] M = some (.inl (some (.int (dS1 M (nz M) c o).1)), M') ∧ nz M' = (dS1 M (nz M) c o).2 := by
  have hc : c < 8 := by omega
  have Wv := zIC_W (zcV hc) W
  have hs := fun x k => sp_isStaying Wv x k
  rw [s_X4_serve]
  unfold dS1
  cases c1 : stay M (3 + c) (zn o) (M.1 (3 + c) 5)
  · refine ⟨M, ?_, rfl⟩
    clear W Wv h0
    rcases hc2 with rfl | rfl <;> (simp only [Nat.reduceAdd, Nat.reduceMul, Nat.mul_zero, Nat.add_zero] at *; simp only [e_X4_serve, zo_iload, zo_lload, zo_aload, zo_istore, zo_lstore, zo_astore, zo_iinc, zo_pushI, zo_pushL, zo_null, zo_ii, zo_iid, zo_ll, zo_li, zo_lcmp, zo_i2l, zo_l2i, zo_dup, zo_dup2, zo_pop, zo_goto, zo_if, zo_icmp, zo_ifnull, zo_gets, zo_mm, zo_throw, zo_ret, zo_aret, zo_lret, q_iret_f, q_iret_1, q_iret_0, q_iret_b, q_c8_0, q_c8_1, q_c8_2, q_c8_3, q_c8_4, q_set_0, q_set_1i, q_set_1r, q_set_1n, q_set_1N, q_set_s, q_set_1j, q_bk_v, q_bk_n, q_if, zb_ite, cond_true, cond_false, List.getElem?_cons_zero, List.getElem?_cons_succ, Nat.reduceAdd, hs, c1, if_true, if_false, zb_eq0, zb_eq1, zn_1, not_true_eq_false, not_false_eq_true, ite_true, ite_false, if_true, if_false, q_iret_0, q_iret_1, decide_true, decide_false, decide_not, zb_t, zb_f, z10, z01, cond_true, cond_false, Bool.and_true, Bool.true_and, Bool.and_false, Bool.false_and, Bool.not_true, Bool.not_false, true_and, and_true, false_and, and_false, true_or, or_true, false_or, or_false, Bool.true_eq_false, Bool.false_eq_true, eq_self, reduceCtorEq, Bool.or_true, Bool.true_or, Bool.or_false, Bool.false_or])
  · by_cases c2 : M.1 (3 + c) 5 = 1
    · rw [decide_eq_true c2]
      obtain ⟨M1, a1, a2⟩ := sp_serveSet W hc2 o (h0 c1)
      refine ⟨M1, ?_, a2⟩
      clear a2 W Wv h0
      simp only [cond_true]
      generalize dSet M (nz M) c o = Q at a1 ⊢
      rw [c2] at c1
      rcases hc2 with rfl | rfl <;> (simp only [Nat.reduceAdd, Nat.reduceMul, Nat.mul_zero, Nat.add_zero] at *; simp only [e_X4_serve, zo_iload, zo_lload, zo_aload, zo_istore, zo_lstore, zo_astore, zo_iinc, zo_pushI, zo_pushL, zo_null, zo_ii, zo_iid, zo_ll, zo_li, zo_lcmp, zo_i2l, zo_l2i, zo_dup, zo_dup2, zo_pop, zo_goto, zo_if, zo_icmp, zo_ifnull, zo_gets, zo_mm, zo_throw, zo_ret, zo_aret, zo_lret, q_iret_f, q_iret_1, q_iret_0, q_iret_b, q_c8_0, q_c8_1, q_c8_2, q_c8_3, q_c8_4, q_set_0, q_set_1i, q_set_1r, q_set_1n, q_set_1N, q_set_s, q_set_1j, q_bk_v, q_bk_n, q_if, zb_ite, cond_true, cond_false, List.getElem?_cons_zero, List.getElem?_cons_succ, Nat.reduceAdd, hs, c2, c1, a1, if_true, if_false, zb_eq0, zb_eq1, zn_1, not_true_eq_false, not_false_eq_true, ite_true, ite_false, if_true, if_false, q_iret_0, q_iret_1, decide_true, decide_false, decide_not, zb_t, zb_f, z10, z01, cond_true, cond_false, Bool.and_true, Bool.true_and, Bool.and_false, Bool.false_and, Bool.not_true, Bool.not_false, true_and, and_true, false_and, and_false, true_or, or_true, false_or, or_false, Bool.true_eq_false, Bool.false_eq_true, eq_self, reduceCtorEq, Bool.or_true, Bool.true_or, Bool.or_false, Bool.false_or])
    · rw [decide_eq_false c2]
      obtain ⟨M2, b1, b2⟩ := sp_serveJob W hc2 o
      refine ⟨M2, ?_, b2⟩
      clear b2 W Wv h0
      simp only [cond_true, cond_false]
      generalize dJob M (nz M) c o = Q at b1 ⊢
      rcases hc2 with rfl | rfl <;> (simp only [Nat.reduceAdd, Nat.reduceMul, Nat.mul_zero, Nat.add_zero] at *; simp only [e_X4_serve, zo_iload, zo_lload, zo_aload, zo_istore, zo_lstore, zo_astore, zo_iinc, zo_pushI, zo_pushL, zo_null, zo_ii, zo_iid, zo_ll, zo_li, zo_lcmp, zo_i2l, zo_l2i, zo_dup, zo_dup2, zo_pop, zo_goto, zo_if, zo_icmp, zo_ifnull, zo_gets, zo_mm, zo_throw, zo_ret, zo_aret, zo_lret, q_iret_f, q_iret_1, q_iret_0, q_iret_b, q_c8_0, q_c8_1, q_c8_2, q_c8_3, q_c8_4, q_set_0, q_set_1i, q_set_1r, q_set_1n, q_set_1N, q_set_s, q_set_1j, q_bk_v, q_bk_n, q_if, zb_ite, cond_true, cond_false, List.getElem?_cons_zero, List.getElem?_cons_succ, Nat.reduceAdd, hs, c1, c2, b1, if_true, if_false, zb_eq0, zb_eq1, zn_1, not_true_eq_false, not_false_eq_true, ite_true, ite_false, if_true, if_false, q_iret_0, q_iret_1, decide_true, decide_false, decide_not, zb_t, zb_f, z10, z01, cond_true, cond_false, Bool.and_true, Bool.true_and, Bool.and_false, Bool.false_and, Bool.not_true, Bool.not_false, true_and, and_true, false_and, and_false, true_or, or_true, false_or, or_false, Bool.true_eq_false, Bool.false_eq_true, eq_self, reduceCtorEq, Bool.or_true, Bool.true_or, Bool.or_false, Bool.false_or])
theorem zIC_S1 {A B : zzMd} {c o : Nat} (hn : nv B (3 + c) ≤ 60) (h0 : stay B (3 + c) (zn o) (B.1 (3 + c) 5) = true → 0 ≤ (rd B (3 + c) (zn o) 0).toInt) (h : zIC A) : zIC (dS1 B A c o).2 := by
  unfold dS1
  cases c0 : stay B (3 + c) (zn o) (B.1 (3 + c) 5)
  · exact h
  have h0 := h0 c0
  cases decide (B.1 (3 + c) 5 = 1)
  · show zIC (dJob B A c o).2
    unfold dJob
    cases !decide (rd B (3 + c) (zn o) 0 ≤ zn (dnP B (3 + c) (zn o) (nv B (3 + c))) + zn (acP B (3 + c) (zn o) (nv B (3 + c)))) && !decide (rd B (3 + c) (zn o) 10 ≤ zn (acP B (3 + c) (zn o) (nv B (3 + c))))
    · exact h
    · exact zIC_Mk h
  · show zIC (dSet B A c o).2
    unfold dSet
    cases c1 : ovP B (3 + c) (zn o) with
    | some p => exact zIC_Rem (Nat.lt_of_lt_of_le (zfst_some c1).1 hn) h
    | none =>
      cases !decide (rd B (3 + c) (zn o) 0 ≤ zn (cntP B (3 + c) (zn o)))
      · by_cases c3 : zn (cntP B (3 + c) (zn o)) ≤ rd B (3 + c) (zn o) 0
        · simp only [decide_eq_true c3, Bool.not_true, cond_false]; exact h
        · simp only [decide_eq_false c3, Bool.not_false, cond_true, cond_false]
          refine zIC_Rem ?_ h
          rcases ptm_in B (3 + c) (zn o) (nv B (3 + c)) with ⟨-, q⟩ | ⟨k, q1, q2⟩
          · refine absurd ?_ c3
            rw [show cntP B (3 + c) (zn o) = 0 from q, Int32.le_iff_toInt_le]
            exact h0
          · rw [q2, zn_ix (by omega)]; omega
      · exact zIC_Mk h
end

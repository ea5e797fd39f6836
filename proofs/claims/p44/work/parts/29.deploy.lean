section
/-! the controller of DEPLOYs -/
def oc2 (p : Bool × zzMd) : Int32 × zzMd := (oc p.1, p.2)
def wTog (A : zzMd) (d : Int32) : Int32 := zsum (nv A 3) fun i => bif owned A 3 (zn i) 1 d then rd A 3 (zn i) 0 else 0
def otSet (A : zzMd) (d w : Int32) : Option Nat := zfst (nv A 3) fun i => !decide (zn i = w) && (owned A 3 (zn i) 1 d && !decide (rd A 3 (zn i) 0 ≤ 0))
def cRA (A : zzMd) (v : Nat) (d : Int32) : Int32 := zsum (nv A v) fun i => bif owned A v (zn i) 1 d then zn (cntRun A v (nv A v) (zn i)) else 0
def less (A : zzMd) (d w : Int32) : Int32 :=
  if rd A 3 w 0 ≤ zn (cntRun A 3 (nv A 3) w) then (if cRA A 3 d - (rd A 3 d 0 - rd A 3 d 3) ≤ 0 then rd A 3 w 0 else rd A 3 w 0 - (if rd A 3 w 0 < cRA A 3 d - (rd A 3 d 0 - rd A 3 d 3) then rd A 3 w 0 else cRA A 3 d - (rd A 3 d 0 - rd A 3 d 3))) else zn (cntRun A 3 (nv A 3) w)
theorem sp_wTog {M : zzMd} (W : zVw M 3 (nv M 3)) (d : Int32) : fX3_wantedTogether [.ref 3, .int d] M = some (.inl (some (.int (wTog M d))), M) := by
  have hr := fun x s => sp_read' W x s
  have ho := fun x k w => sp_isOwned W x k w
  obtain ⟨-, -, hk, hn⟩ := W
  have st : fX3_wantedTogether [.ref 3, .int d] M = zz_ev tX3_wantedTogether 4 [some (.ref 3), some (.int d), some (.int 0), some (.int 0)] [] M := by
    rw [s_X3_wantedTogether]
    (simp only [e_X3_wantedTogether, zo_iload, zo_lload, zo_aload, zo_istore, zo_lstore, zo_astore, zo_iinc, zo_pushI, zo_pushL, zo_null, zo_ii, zo_iid, zo_ll, zo_li, zo_lcmp, zo_i2l, zo_l2i, zo_dup, zo_dup2, zo_pop, zo_goto, zo_if, zo_icmp, zo_ifnull, zo_gets, zo_mm, zo_throw, zo_ret, zo_aret, zo_lret, q_iret_f, q_iret_1, q_iret_0, q_iret_b, q_c8_0, q_c8_1, q_c8_2, q_c8_3, q_c8_4, q_set_0, q_set_1i, q_set_1r, q_set_1n, q_set_1N, q_set_s, q_set_1j, q_bk_v, q_bk_n, q_if, zb_ite, cond_true, cond_false, List.getElem?_cons_zero, List.getElem?_cons_succ, Nat.reduceAdd, if_true, if_false, zb_eq0, zb_eq1, zn_1, not_true_eq_false, not_false_eq_true, ite_true, ite_false, if_true, if_false, q_iret_0, q_iret_1, decide_true, decide_false, decide_not, zb_t, zb_f, z10, z01, cond_true, cond_false, Bool.and_true, Bool.true_and, Bool.and_false, Bool.false_and, Bool.not_true, Bool.not_false, true_and, and_true, false_and, and_false, true_or, or_true, false_or, or_false, Bool.true_eq_false, Bool.false_eq_true, eq_self, reduceCtorEq])
  unfold wTog
  have lp := zl_go (E := fun i => zz_ev tX3_wantedTogether 4 [some (.ref 3), some (.int d), some (.int (zsum i fun i => bif owned M 3 (zn i) 1 d then rd M 3 (zn i) 0 else 0)), some (.int (zn i))] [] M) (nv M 3) (fun i hi => by
    have hc := zk_in hi hn
    cases h1 : owned M 3 (zn i) 1 d <;> (rw [e_X3_wantedTogether_4]; simp only [e_X3_wantedTogether, zo_iload, zo_lload, zo_aload, zo_istore, zo_lstore, zo_astore, zo_iinc, zo_pushI, zo_pushL, zo_null, zo_ii, zo_iid, zo_ll, zo_li, zo_lcmp, zo_i2l, zo_l2i, zo_dup, zo_dup2, zo_pop, zo_goto, zo_if, zo_icmp, zo_ifnull, zo_gets, zo_mm, zo_throw, zo_ret, zo_aret, zo_lret, q_iret_f, q_iret_1, q_iret_0, q_iret_b, q_c8_0, q_c8_1, q_c8_2, q_c8_3, q_c8_4, q_set_0, q_set_1i, q_set_1r, q_set_1n, q_set_1N, q_set_s, q_set_1j, q_bk_v, q_bk_n, q_if, zb_ite, cond_true, cond_false, List.getElem?_cons_zero, List.getElem?_cons_succ, Nat.reduceAdd, hk, hc, hr, ho, h1, zsum_s, Int32.add_zero, if_true, if_false, zb_eq0, zb_eq1, zn_1, not_true_eq_false, not_false_eq_true, ite_true, ite_false, if_true, if_false, q_iret_0, q_iret_1, decide_true, decide_false, decide_not, zb_t, zb_f, z10, z01, cond_true, cond_false, Bool.and_true, Bool.true_and, Bool.and_false, Bool.false_and, Bool.not_true, Bool.not_false, true_and, and_true, false_and, and_false, true_or, or_true, false_or, or_false, Bool.true_eq_false, Bool.false_eq_true, eq_self, reduceCtorEq]))
  refine (st.trans lp).trans ?_
  have hc := zk_out hn
  (rw [e_X3_wantedTogether_4]; simp only [e_X3_wantedTogether, zo_iload, zo_lload, zo_aload, zo_istore, zo_lstore, zo_astore, zo_iinc, zo_pushI, zo_pushL, zo_null, zo_ii, zo_iid, zo_ll, zo_li, zo_lcmp, zo_i2l, zo_l2i, zo_dup, zo_dup2, zo_pop, zo_goto, zo_if, zo_icmp, zo_ifnull, zo_gets, zo_mm, zo_throw, zo_ret, zo_aret, zo_lret, q_iret_f, q_iret_1, q_iret_0, q_iret_b, q_c8_0, q_c8_1, q_c8_2, q_c8_3, q_c8_4, q_set_0, q_set_1i, q_set_1r, q_set_1n, q_set_1N, q_set_s, q_set_1j, q_bk_v, q_bk_n, q_if, zb_ite, cond_true, cond_false, List.getElem?_cons_zero, List.getElem?_cons_succ, Nat.reduceAdd, hk, hc, if_true, if_false, zb_eq0, zb_eq1, zn_1, not_true_eq_false, not_false_eq_true, ite_true, ite_false, if_true, if_false, q_iret_0, q_iret_1, decide_true, decide_false, decide_not, zb_t, zb_f, z10, z01, cond_true, cond_false, Bool.and_true, Bool.true_and, Bool.and_false, Bool.false_and, Bool.not_true, Bool.not_false, true_and, and_true, false_and, and_false, true_or, or_true, false_or, or_false, Bool.true_eq_false, Bool.false_eq_true, eq_self, reduceCtorEq])
theorem sp_otSet {M : zzMd} (W : zVw M 3 (nv M 3)) (d w : Int32) : fX3_otherSetOf [.ref 3, .int d, .int w] M = some (.inl (some (.int (zoi (otSet M d w)))), M) := by
  have hr := fun x s => sp_read' W x s
  have ho := fun x k w => sp_isOwned W x k w
  obtain ⟨-, -, hk, hn⟩ := W
  have st : fX3_otherSetOf [.ref 3, .int d, .int w] M = zz_ev tX3_otherSetOf 2 [some (.ref 3), some (.int d), some (.int w), some (.int (zn 0))] [] M := by
    rw [s_X3_otherSetOf]
    (simp only [e_X3_otherSetOf, zo_iload, zo_lload, zo_aload, zo_istore, zo_lstore, zo_astore, zo_iinc, zo_pushI, zo_pushL, zo_null, zo_ii, zo_iid, zo_ll, zo_li, zo_lcmp, zo_i2l, zo_l2i, zo_dup, zo_dup2, zo_pop, zo_goto, zo_if, zo_icmp, zo_ifnull, zo_gets, zo_mm, zo_throw, zo_ret, zo_aret, zo_lret, q_iret_f, q_iret_1, q_iret_0, q_iret_b, q_c8_0, q_c8_1, q_c8_2, q_c8_3, q_c8_4, q_set_0, q_set_1i, q_set_1r, q_set_1n, q_set_1N, q_set_s, q_set_1j, q_bk_v, q_bk_n, q_if, zb_ite, cond_true, cond_false, List.getElem?_cons_zero, List.getElem?_cons_succ, Nat.reduceAdd, if_true, if_false, zb_eq0, zb_eq1, zn_1, not_true_eq_false, not_false_eq_true, ite_true, ite_false, if_true, if_false, q_iret_0, q_iret_1, decide_true, decide_false, decide_not, zb_t, zb_f, z10, z01, cond_true, cond_false, Bool.and_true, Bool.true_and, Bool.and_false, Bool.false_and, Bool.not_true, Bool.not_false, true_and, and_true, false_and, and_false, true_or, or_true, false_or, or_false, Bool.true_eq_false, Bool.false_eq_true, eq_self, reduceCtorEq])
    rfl
  have lp := zl_fst (E := fun i => zz_ev tX3_otherSetOf 2 [some (.ref 3), some (.int d), some (.int w), some (.int (zn i))] [] M) (P := fun i => !decide (zn i = w) && (owned M 3 (zn i) 1 d && !decide (rd M 3 (zn i) 0 ≤ 0))) (r := fun i => some (.inl (some (.int (zn i))), M)) (nv M 3) (fun i hi => by
    have hc := zk_in hi hn
    by_cases h0 : zn i = w
    · subst h0
      (rw [e_X3_otherSetOf_2]; simp only [e_X3_otherSetOf, zo_iload, zo_lload, zo_aload, zo_istore, zo_lstore, zo_astore, zo_iinc, zo_pushI, zo_pushL, zo_null, zo_ii, zo_iid, zo_ll, zo_li, zo_lcmp, zo_i2l, zo_l2i, zo_dup, zo_dup2, zo_pop, zo_goto, zo_if, zo_icmp, zo_ifnull, zo_gets, zo_mm, zo_throw, zo_ret, zo_aret, zo_lret, q_iret_f, q_iret_1, q_iret_0, q_iret_b, q_c8_0, q_c8_1, q_c8_2, q_c8_3, q_c8_4, q_set_0, q_set_1i, q_set_1r, q_set_1n, q_set_1N, q_set_s, q_set_1j, q_bk_v, q_bk_n, q_if, zb_ite, cond_true, cond_false, List.getElem?_cons_zero, List.getElem?_cons_succ, Nat.reduceAdd, hk, hc, if_true, if_false, zb_eq0, zb_eq1, zn_1, not_true_eq_false, not_false_eq_true, ite_true, ite_false, if_true, if_false, q_iret_0, q_iret_1, decide_true, decide_false, decide_not, zb_t, zb_f, z10, z01, cond_true, cond_false, Bool.and_true, Bool.true_and, Bool.and_false, Bool.false_and, Bool.not_true, Bool.not_false, true_and, and_true, false_and, and_false, true_or, or_true, false_or, or_false, Bool.true_eq_false, Bool.false_eq_true, eq_self, reduceCtorEq])
    · cases h1 : owned M 3 (zn i) 1 d <;> by_cases h2 : rd M 3 (zn i) 0 ≤ 0 <;> (rw [e_X3_otherSetOf_2]; simp only [e_X3_otherSetOf, zo_iload, zo_lload, zo_aload, zo_istore, zo_lstore, zo_astore, zo_iinc, zo_pushI, zo_pushL, zo_null, zo_ii, zo_iid, zo_ll, zo_li, zo_lcmp, zo_i2l, zo_l2i, zo_dup, zo_dup2, zo_pop, zo_goto, zo_if, zo_icmp, zo_ifnull, zo_gets, zo_mm, zo_throw, zo_ret, zo_aret, zo_lret, q_iret_f, q_iret_1, q_iret_0, q_iret_b, q_c8_0, q_c8_1, q_c8_2, q_c8_3, q_c8_4, q_set_0, q_set_1i, q_set_1r, q_set_1n, q_set_1N, q_set_s, q_set_1j, q_bk_v, q_bk_n, q_if, zb_ite, cond_true, cond_false, List.getElem?_cons_zero, List.getElem?_cons_succ, Nat.reduceAdd, hk, hc, hr, ho, h0, h1, h2, if_true, if_false, zb_eq0, zb_eq1, zn_1, not_true_eq_false, not_false_eq_true, ite_true, ite_false, if_true, if_false, q_iret_0, q_iret_1, decide_true, decide_false, decide_not, zb_t, zb_f, z10, z01, cond_true, cond_false, Bool.and_true, Bool.true_and, Bool.and_false, Bool.false_and, Bool.not_true, Bool.not_false, true_and, and_true, false_and, and_false, true_or, or_true, false_or, or_false, Bool.true_eq_false, Bool.false_eq_true, eq_self, reduceCtorEq]))
  refine (st.trans lp).trans ?_
  unfold otSet
  split
  · rename_i k hk; rw [hk]; rfl
  · rename_i hk2
    rw [hk2]
    have hc := zk_out hn
    (rw [e_X3_otherSetOf_2]; simp only [e_X3_otherSetOf, zo_iload, zo_lload, zo_aload, zo_istore, zo_lstore, zo_astore, zo_iinc, zo_pushI, zo_pushL, zo_null, zo_ii, zo_iid, zo_ll, zo_li, zo_lcmp, zo_i2l, zo_l2i, zo_dup, zo_dup2, zo_pop, zo_goto, zo_if, zo_icmp, zo_ifnull, zo_gets, zo_mm, zo_throw, zo_ret, zo_aret, zo_lret, q_iret_f, q_iret_1, q_iret_0, q_iret_b, q_c8_0, q_c8_1, q_c8_2, q_c8_3, q_c8_4, q_set_0, q_set_1i, q_set_1r, q_set_1n, q_set_1N, q_set_s, q_set_1j, q_bk_v, q_bk_n, q_if, zb_ite, cond_true, cond_false, List.getElem?_cons_zero, List.getElem?_cons_succ, Nat.reduceAdd, hk, hc, zoi, if_true, if_false, zb_eq0, zb_eq1, zn_1, not_true_eq_false, not_false_eq_true, ite_true, ite_false, if_true, if_false, q_iret_0, q_iret_1, decide_true, decide_false, decide_not, zb_t, zb_f, z10, z01, cond_true, cond_false, Bool.and_true, Bool.true_and, Bool.and_false, Bool.false_and, Bool.not_true, Bool.not_false, true_and, and_true, false_and, and_false, true_or, or_true, false_or, or_false, Bool.true_eq_false, Bool.false_eq_true, eq_self, reduceCtorEq])
theorem sp_less {M : zzMd} (W : zVw M 3 (nv M 3)) (d w : Int32) : fX3_lessWanted [.ref 3, .int d, .int w] M = some (.inl (some (.int (less M d w))), M) := by
  have hr := fun x s => sp_read' W x s
  have hcr := sp_countRunning W w
  have hca := sp_countRunningOfAll W d
  rw [show (zsum (nv M 3) fun i => bif owned M 3 (zn i) 1 d then zn (cntRun M 3 (nv M 3) (zn i)) else 0) = cRA M 3 d from rfl] at hca
  rw [s_X3_lessWanted]
  unfold less
  by_cases h1 : rd M 3 w 0 ≤ zn (cntRun M 3 (nv M 3) w)
  · rw [if_pos h1]
    by_cases h2 : cRA M 3 d - (rd M 3 d 0 - rd M 3 d 3) ≤ 0
    · rw [if_pos h2]
      (simp only [e_X3_lessWanted, zo_iload, zo_lload, zo_aload, zo_istore, zo_lstore, zo_astore, zo_iinc, zo_pushI, zo_pushL, zo_null, zo_ii, zo_iid, zo_ll, zo_li, zo_lcmp, zo_i2l, zo_l2i, zo_dup, zo_dup2, zo_pop, zo_goto, zo_if, zo_icmp, zo_ifnull, zo_gets, zo_mm, zo_throw, zo_ret, zo_aret, zo_lret, q_iret_f, q_iret_1, q_iret_0, q_iret_b, q_c8_0, q_c8_1, q_c8_2, q_c8_3, q_c8_4, q_set_0, q_set_1i, q_set_1r, q_set_1n, q_set_1N, q_set_s, q_set_1j, q_bk_v, q_bk_n, q_if, zb_ite, cond_true, cond_false, List.getElem?_cons_zero, List.getElem?_cons_succ, Nat.reduceAdd, hr, hcr, hca, h1, h2, if_true, if_false, zb_eq0, zb_eq1, zn_1, not_true_eq_false, not_false_eq_true, ite_true, ite_false, if_true, if_false, q_iret_0, q_iret_1, decide_true, decide_false, decide_not, zb_t, zb_f, z10, z01, cond_true, cond_false, Bool.and_true, Bool.true_and, Bool.and_false, Bool.false_and, Bool.not_true, Bool.not_false, true_and, and_true, false_and, and_false, true_or, or_true, false_or, or_false, Bool.true_eq_false, Bool.false_eq_true, eq_self, reduceCtorEq])
    · rw [if_neg h2]
      (simp only [e_X3_lessWanted, zo_iload, zo_lload, zo_aload, zo_istore, zo_lstore, zo_astore, zo_iinc, zo_pushI, zo_pushL, zo_null, zo_ii, zo_iid, zo_ll, zo_li, zo_lcmp, zo_i2l, zo_l2i, zo_dup, zo_dup2, zo_pop, zo_goto, zo_if, zo_icmp, zo_ifnull, zo_gets, zo_mm, zo_throw, zo_ret, zo_aret, zo_lret, q_iret_f, q_iret_1, q_iret_0, q_iret_b, q_c8_0, q_c8_1, q_c8_2, q_c8_3, q_c8_4, q_set_0, q_set_1i, q_set_1r, q_set_1n, q_set_1N, q_set_s, q_set_1j, q_bk_v, q_bk_n, q_if, zb_ite, cond_true, cond_false, List.getElem?_cons_zero, List.getElem?_cons_succ, Nat.reduceAdd, hr, hcr, hca, h1, h2, if_true, if_false, zb_eq0, zb_eq1, zn_1, not_true_eq_false, not_false_eq_true, ite_true, ite_false, if_true, if_false, q_iret_0, q_iret_1, decide_true, decide_false, decide_not, zb_t, zb_f, z10, z01, cond_true, cond_false, Bool.and_true, Bool.true_and, Bool.and_false, Bool.false_and, Bool.not_true, Bool.not_false, true_and, and_true, false_and, and_false, true_or, or_true, false_or, or_false, Bool.true_eq_false, Bool.false_eq_true, eq_self, reduceCtorEq])
  · rw [if_neg h1]
    (simp only [e_X3_lessWanted, zo_iload, zo_lload, zo_aload, zo_istore, zo_lstore, zo_astore, zo_iinc, zo_pushI, zo_pushL, zo_null, zo_ii, zo_iid, zo_ll, zo_li, zo_lcmp, zo_i2l, zo_l2i, zo_dup, zo_dup2, zo_pop, zo_goto, zo_if, zo_icmp, zo_ifnull, zo_gets, zo_mm, zo_throw, zo_ret, zo_aret, zo_lret, q_iret_f, q_iret_1, q_iret_0, q_iret_b, q_c8_0, q_c8_1, q_c8_2, q_c8_3, q_c8_4, q_set_0, q_set_1i, q_set_1r, q_set_1n, q_set_1N, q_set_s, q_set_1j, q_bk_v, q_bk_n, q_if, zb_ite, cond_true, cond_false, List.getElem?_cons_zero, List.getElem?_cons_succ, Nat.reduceAdd, hr, hcr, h1, if_true, if_false, zb_eq0, zb_eq1, zn_1, not_true_eq_false, not_false_eq_true, ite_true, ite_false, if_true, if_false, q_iret_0, q_iret_1, decide_true, decide_false, decide_not, zb_t, zb_f, z10, z01, cond_true, cond_false, Bool.and_true, Bool.true_and, Bool.and_false, Bool.false_and, Bool.not_true, Bool.not_false, true_and, and_true, false_and, and_false, true_or, or_true, false_or, or_false, Bool.true_eq_false, Bool.false_eq_true, eq_self, reduceCtorEq])
/-- reads by B, acts on A -/
def dS0b (B A : zzMd) (o s : Nat) : Int32 × zzMd :=
  bif !decide (rd B 3 (zn s) 0 ≤ rd B 3 (zn o) 0) then oc2 (aWant A 0 s (rd B 3 (zn o) 0))
  else bif !decide (rd B 3 (zn o) 0 ≤ rd B 3 (zn s) 0) && !decide (rd B 3 (zn o) 0 + rd B 3 (zn o) 2 - wTog B (zn o) ≤ 0) then
    oc2 (aWant A 0 s (if rd B 3 (zn s) 0 + (rd B 3 (zn o) 0 + rd B 3 (zn o) 2 - wTog B (zn o)) < rd B 3 (zn o) 0 then rd B 3 (zn s) 0 + (rd B 3 (zn o) 0 + rd B 3 (zn o) 2 - wTog B (zn o)) else rd B 3 (zn o) 0))
  else match otSet B (zn o) (zn s) with
    | none => (1, A)
    | some t => oc2 (aWant A 0 t (less B (zn o) (zn t)))
def dS0 (B A : zzMd) (o : Nat) : Int32 × zzMd :=
  bif stay B 3 (zn o) 0 && !decide (rd B 3 (zn o) 4 = 1) then
    match newSet B 3 (nv B 3) (zn o) with
    | none => oc2 (aMk A 0 o 1)
    | some s => dS0b B A o s
  else (1, A)
theorem newSet_lt {M : zzMd} {v n : Nat} {d : Int32} {s : Nat} (h : newSet M v n d = some s) : s < n := (zfst_some h).1
theorem dS0_nz (M : zzMd) (o : Nat) : dS0 (nz M) (nz M) o = dS0 M (nz M) o := rfl
theorem sp_serve0 {M : zzMd} (W : zIC M) {o : Nat} (ho : o < 60) :
    ∃ M', fX3_serve [.ref 3, .int (zn o)] M = some (.inl (some (.int (dS0 M (nz M) o).1)), M') ∧ nz M' = (dS0 M (nz M) o).2 := by
  have hc : 0 < 8 := by decide
  have Wv := zIC_W (zcV hc) W
  simp only [Nat.reduceAdd] at Wv
  have hr := fun x s => sp_read' Wv x s
  have hs := fun x k => sp_isStaying Wv x k
  have hn := fun d => sp_newSetOf Wv d
  have hw := fun d => sp_wTog Wv d
  have hot := fun d w => sp_otSet Wv d w
  have hl := fun d w => sp_less Wv d w
  have hoc := sp_outcomeOf
  have hn60 : nv M 3 ≤ 60 := Wv.2.2.2
  rw [s_X3_serve]
  unfold dS0
  cases c1 : stay M 3 (zn o) 0
  · refine ⟨M, ?_, rfl⟩
    (simp only [e_X3_serve, zo_iload, zo_lload, zo_aload, zo_istore, zo_lstore, zo_astore, zo_iinc, zo_pushI, zo_pushL, zo_null, zo_ii, zo_iid, zo_ll, zo_li, zo_lcmp, zo_i2l, zo_l2i, zo_dup, zo_dup2, zo_pop, zo_goto, zo_if, zo_icmp, zo_ifnull, zo_gets, zo_mm, zo_throw, zo_ret, zo_aret, zo_lret, q_iret_f, q_iret_1, q_iret_0, q_iret_b, q_c8_0, q_c8_1, q_c8_2, q_c8_3, q_c8_4, q_set_0, q_set_1i, q_set_1r, q_set_1n, q_set_1N, q_set_s, q_set_1j, q_bk_v, q_bk_n, q_if, zb_ite, cond_true, cond_false, List.getElem?_cons_zero, List.getElem?_cons_succ, Nat.reduceAdd, hs, c1, if_true, if_false, zb_eq0, zb_eq1, zn_1, not_true_eq_false, not_false_eq_true, ite_true, ite_false, if_true, if_false, q_iret_0, q_iret_1, decide_true, decide_false, decide_not, zb_t, zb_f, z10, z01, cond_true, cond_false, Bool.and_true, Bool.true_and, Bool.and_false, Bool.false_and, Bool.not_true, Bool.not_false, true_and, and_true, false_and, and_false, true_or, or_true, false_or, or_false, Bool.true_eq_false, Bool.false_eq_true, eq_self, reduceCtorEq])
  by_cases c2 : rd M 3 (zn o) 4 = 1
  · rw [decide_eq_true c2]
    refine ⟨M, ?_, rfl⟩
    (simp only [e_X3_serve, zo_iload, zo_lload, zo_aload, zo_istore, zo_lstore, zo_astore, zo_iinc, zo_pushI, zo_pushL, zo_null, zo_ii, zo_iid, zo_ll, zo_li, zo_lcmp, zo_i2l, zo_l2i, zo_dup, zo_dup2, zo_pop, zo_goto, zo_if, zo_icmp, zo_ifnull, zo_gets, zo_mm, zo_throw, zo_ret, zo_aret, zo_lret, q_iret_f, q_iret_1, q_iret_0, q_iret_b, q_c8_0, q_c8_1, q_c8_2, q_c8_3, q_c8_4, q_set_0, q_set_1i, q_set_1r, q_set_1n, q_set_1N, q_set_s, q_set_1j, q_bk_v, q_bk_n, q_if, zb_ite, cond_true, cond_false, List.getElem?_cons_zero, List.getElem?_cons_succ, Nat.reduceAdd, hs, hr, c1, c2, if_true, if_false, zb_eq0, zb_eq1, zn_1, not_true_eq_false, not_false_eq_true, ite_true, ite_false, if_true, if_false, q_iret_0, q_iret_1, decide_true, decide_false, decide_not, zb_t, zb_f, z10, z01, cond_true, cond_false, Bool.and_true, Bool.true_and, Bool.and_false, Bool.false_and, Bool.not_true, Bool.not_false, true_and, and_true, false_and, and_false, true_or, or_true, false_or, or_false, Bool.true_eq_false, Bool.false_eq_true, eq_self, reduceCtorEq])
  rw [decide_eq_false c2]
  simp only [Bool.not_false, Bool.and_self, cond_true]
  cases c3 : newSet M 3 (nv M 3) (zn o) with
  | none =>
    obtain ⟨M', a1, a2⟩ := sp_makeFor W hc o 1
    simp only [Nat.reduceAdd] at a1
    refine ⟨M', ?_, a2⟩
    (simp only [e_X3_serve, zo_iload, zo_lload, zo_aload, zo_istore, zo_lstore, zo_astore, zo_iinc, zo_pushI, zo_pushL, zo_null, zo_ii, zo_iid, zo_ll, zo_li, zo_lcmp, zo_i2l, zo_l2i, zo_dup, zo_dup2, zo_pop, zo_goto, zo_if, zo_icmp, zo_ifnull, zo_gets, zo_mm, zo_throw, zo_ret, zo_aret, zo_lret, q_iret_f, q_iret_1, q_iret_0, q_iret_b, q_c8_0, q_c8_1, q_c8_2, q_c8_3, q_c8_4, q_set_0, q_set_1i, q_set_1r, q_set_1n, q_set_1N, q_set_s, q_set_1j, q_bk_v, q_bk_n, q_if, zb_ite, cond_true, cond_false, List.getElem?_cons_zero, List.getElem?_cons_succ, Nat.reduceAdd, hs, hr, hn, c1, c2, c3, zoi, a1, hoc, oc2, if_true, if_false, zb_eq0, zb_eq1, zn_1, not_true_eq_false, not_false_eq_true, ite_true, ite_false, if_true, if_false, q_iret_0, q_iret_1, decide_true, decide_false, decide_not, zb_t, zb_f, z10, z01, cond_true, cond_false, Bool.and_true, Bool.true_and, Bool.and_false, Bool.false_and, Bool.not_true, Bool.not_false, true_and, and_true, false_and, and_false, true_or, or_true, false_or, or_false, Bool.true_eq_false, Bool.false_eq_true, eq_self, reduceCtorEq])
  | some s =>
    have s1 := newSet_lt c3
    have hm1 := zn_m1 (k := s) (by omega)
    show ∃ M', zz_ev tX3_serve 0 [some (.ref 3), some (.int (zn o)), none, none, none, none, none] [] M = some (.inl (some (.int (dS0b M (nz M) o s).1)), M') ∧ nz M' = (dS0b M (nz M) o s).2
    unfold dS0b
    by_cases c4 : rd M 3 (zn s) 0 ≤ rd M 3 (zn o) 0
    · rw [decide_eq_true c4]
      simp only [Bool.not_true, cond_false]
      by_cases c5 : rd M 3 (zn o) 0 ≤ rd M 3 (zn s) 0 ∨ rd M 3 (zn o) 0 + rd M 3 (zn o) 2 - wTog M (zn o) ≤ 0
      · have c5' : (!decide (rd M 3 (zn o) 0 ≤ rd M 3 (zn s) 0) && !decide (rd M 3 (zn o) 0 + rd M 3 (zn o) 2 - wTog M (zn o) ≤ 0)) = false := by
          rcases c5 with q | q <;> simp [q]
        rw [c5']
        simp only [cond_false]
        have h118 : zz_ev tX3_serve 0 [some (.ref 3), some (.int (zn o)), none, none, none, none, none] [] M = zz_ev tX3_serve 118 [some (.ref 3), some (.int (zn o)), some (.int (zn s)), some (.int (rd M 3 (zn o) 0)), some (.int (rd M 3 (zn s) 0)), some (.int (rd M 3 (zn o) 0 + rd M 3 (zn o) 2 - wTog M (zn o))), none] [] M := by
          generalize hZ : zz_ev tX3_serve 118 [some (.ref 3), some (.int (zn o)), some (.int (zn s)), some (.int (rd M 3 (zn o) 0)), some (.int (rd M 3 (zn s) 0)), some (.int (rd M 3 (zn o) 0 + rd M 3 (zn o) 2 - wTog M (zn o))), none] [] M = Z
          by_cases d1 : rd M 3 (zn o) 0 ≤ rd M 3 (zn s) 0
          · (simp only [e_X3_serve, zo_iload, zo_lload, zo_aload, zo_istore, zo_lstore, zo_astore, zo_iinc, zo_pushI, zo_pushL, zo_null, zo_ii, zo_iid, zo_ll, zo_li, zo_lcmp, zo_i2l, zo_l2i, zo_dup, zo_dup2, zo_pop, zo_goto, zo_if, zo_icmp, zo_ifnull, zo_gets, zo_mm, zo_throw, zo_ret, zo_aret, zo_lret, q_iret_f, q_iret_1, q_iret_0, q_iret_b, q_c8_0, q_c8_1, q_c8_2, q_c8_3, q_c8_4, q_set_0, q_set_1i, q_set_1r, q_set_1n, q_set_1N, q_set_s, q_set_1j, q_bk_v, q_bk_n, q_if, zb_ite, cond_true, cond_false, List.getElem?_cons_zero, List.getElem?_cons_succ, Nat.reduceAdd, ↓hZ, hs, hr, hn, hw, c1, c2, c3, zoi, hm1, c4, d1, if_true, if_false, zb_eq0, zb_eq1, zn_1, not_true_eq_false, not_false_eq_true, ite_true, ite_false, if_true, if_false, q_iret_0, q_iret_1, decide_true, decide_false, decide_not, zb_t, zb_f, z10, z01, cond_true, cond_false, Bool.and_true, Bool.true_and, Bool.and_false, Bool.false_and, Bool.not_true, Bool.not_false, true_and, and_true, false_and, and_false, true_or, or_true, false_or, or_false, Bool.true_eq_false, Bool.false_eq_true, eq_self, reduceCtorEq])
          · have d2 := c5.resolve_left d1
            (simp only [e_X3_serve, zo_iload, zo_lload, zo_aload, zo_istore, zo_lstore, zo_astore, zo_iinc, zo_pushI, zo_pushL, zo_null, zo_ii, zo_iid, zo_ll, zo_li, zo_lcmp, zo_i2l, zo_l2i, zo_dup, zo_dup2, zo_pop, zo_goto, zo_if, zo_icmp, zo_ifnull, zo_gets, zo_mm, zo_throw, zo_ret, zo_aret, zo_lret, q_iret_f, q_iret_1, q_iret_0, q_iret_b, q_c8_0, q_c8_1, q_c8_2, q_c8_3, q_c8_4, q_set_0, q_set_1i, q_set_1r, q_set_1n, q_set_1N, q_set_s, q_set_1j, q_bk_v, q_bk_n, q_if, zb_ite, cond_true, cond_false, List.getElem?_cons_zero, List.getElem?_cons_succ, Nat.reduceAdd, ↓hZ, hs, hr, hn, hw, c1, c2, c3, zoi, hm1, c4, d1, d2, if_true, if_false, zb_eq0, zb_eq1, zn_1, not_true_eq_false, not_false_eq_true, ite_true, ite_false, if_true, if_false, q_iret_0, q_iret_1, decide_true, decide_false, decide_not, zb_t, zb_f, z10, z01, cond_true, cond_false, Bool.and_true, Bool.true_and, Bool.and_false, Bool.false_and, Bool.not_true, Bool.not_false, true_and, and_true, false_and, and_false, true_or, or_true, false_or, or_false, Bool.true_eq_false, Bool.false_eq_true, eq_self, reduceCtorEq])
        rw [h118]
        clear h118
        cases c6 : otSet M (zn o) (zn s) with
        | none =>
          refine ⟨M, ?_, rfl⟩
          (simp only [e_X3_serve, zo_iload, zo_lload, zo_aload, zo_istore, zo_lstore, zo_astore, zo_iinc, zo_pushI, zo_pushL, zo_null, zo_ii, zo_iid, zo_ll, zo_li, zo_lcmp, zo_i2l, zo_l2i, zo_dup, zo_dup2, zo_pop, zo_goto, zo_if, zo_icmp, zo_ifnull, zo_gets, zo_mm, zo_throw, zo_ret, zo_aret, zo_lret, q_iret_f, q_iret_1, q_iret_0, q_iret_b, q_c8_0, q_c8_1, q_c8_2, q_c8_3, q_c8_4, q_set_0, q_set_1i, q_set_1r, q_set_1n, q_set_1N, q_set_s, q_set_1j, q_bk_v, q_bk_n, q_if, zb_ite, cond_true, cond_false, List.getElem?_cons_zero, List.getElem?_cons_succ, Nat.reduceAdd, hot, c6, zoi, if_true, if_false, zb_eq0, zb_eq1, zn_1, not_true_eq_false, not_false_eq_true, ite_true, ite_false, if_true, if_false, q_iret_0, q_iret_1, decide_true, decide_false, decide_not, zb_t, zb_f, z10, z01, cond_true, cond_false, Bool.and_true, Bool.true_and, Bool.and_false, Bool.false_and, Bool.not_true, Bool.not_false, true_and, and_true, false_and, and_false, true_or, or_true, false_or, or_false, Bool.true_eq_false, Bool.false_eq_true, eq_self, reduceCtorEq])
        | some t =>
          have t1 : t < 60 := Nat.lt_of_lt_of_le (zfst_some c6).1 hn60
          have tm1 := zn_m1 (k := t) (by omega)
          obtain ⟨M', a1, a2⟩ := sp_want W hc t1 (less M (zn o) (zn t))
          simp only [Nat.reduceAdd] at a1
          refine ⟨M', ?_, a2⟩
          (simp only [e_X3_serve, zo_iload, zo_lload, zo_aload, zo_istore, zo_lstore, zo_astore, zo_iinc, zo_pushI, zo_pushL, zo_null, zo_ii, zo_iid, zo_ll, zo_li, zo_lcmp, zo_i2l, zo_l2i, zo_dup, zo_dup2, zo_pop, zo_goto, zo_if, zo_icmp, zo_ifnull, zo_gets, zo_mm, zo_throw, zo_ret, zo_aret, zo_lret, q_iret_f, q_iret_1, q_iret_0, q_iret_b, q_c8_0, q_c8_1, q_c8_2, q_c8_3, q_c8_4, q_set_0, q_set_1i, q_set_1r, q_set_1n, q_set_1N, q_set_s, q_set_1j, q_bk_v, q_bk_n, q_if, zb_ite, cond_true, cond_false, List.getElem?_cons_zero, List.getElem?_cons_succ, Nat.reduceAdd, hot, c6, zoi, tm1, hl, a1, hoc, oc2, if_true, if_false, zb_eq0, zb_eq1, zn_1, not_true_eq_false, not_false_eq_true, ite_true, ite_false, if_true, if_false, q_iret_0, q_iret_1, decide_true, decide_false, decide_not, zb_t, zb_f, z10, z01, cond_true, cond_false, Bool.and_true, Bool.true_and, Bool.and_false, Bool.false_and, Bool.not_true, Bool.not_false, true_and, and_true, false_and, and_false, true_or, or_true, false_or, or_false, Bool.true_eq_false, Bool.false_eq_true, eq_self, reduceCtorEq])
      · have d1 : ¬ rd M 3 (zn o) 0 ≤ rd M 3 (zn s) 0 := fun q => c5 (Or.inl q)
        have d2 : ¬ rd M 3 (zn o) 0 + rd M 3 (zn o) 2 - wTog M (zn o) ≤ 0 := fun q => c5 (Or.inr q)
        rw [decide_eq_false d1, decide_eq_false d2]
        simp only [Bool.not_false, Bool.and_self, cond_true]
        obtain ⟨M', a1, a2⟩ := sp_want W hc (o := s) (by omega) (if rd M 3 (zn s) 0 + (rd M 3 (zn o) 0 + rd M 3 (zn o) 2 - wTog M (zn o)) < rd M 3 (zn o) 0 then rd M 3 (zn s) 0 + (rd M 3 (zn o) 0 + rd M 3 (zn o) 2 - wTog M (zn o)) else rd M 3 (zn o) 0)
        simp only [Nat.reduceAdd] at a1
        refine ⟨M', ?_, a2⟩
        (simp only [e_X3_serve, zo_iload, zo_lload, zo_aload, zo_istore, zo_lstore, zo_astore, zo_iinc, zo_pushI, zo_pushL, zo_null, zo_ii, zo_iid, zo_ll, zo_li, zo_lcmp, zo_i2l, zo_l2i, zo_dup, zo_dup2, zo_pop, zo_goto, zo_if, zo_icmp, zo_ifnull, zo_gets, zo_mm, zo_throw, zo_ret, zo_aret, zo_lret, q_iret_f, q_iret_1, q_iret_0, q_iret_b, q_c8_0, q_c8_1, q_c8_2, q_c8_3, q_c8_4, q_set_0, q_set_1i, q_set_1r, q_set_1n, q_set_1N, q_set_s, q_set_1j, q_bk_v, q_bk_n, q_if, zb_ite, cond_true, cond_false, List.getElem?_cons_zero, List.getElem?_cons_succ, Nat.reduceAdd, hs, hr, hn, hw, c1, c2, c3, zoi, hm1, c4, d1, d2, a1, hoc, oc2, if_true, if_false, zb_eq0, zb_eq1, zn_1, not_true_eq_false, not_false_eq_true, ite_true, ite_false, if_true, if_false, q_iret_0, q_iret_1, decide_true, decide_false, decide_not, zb_t, zb_f, z10, z01, cond_true, cond_false, Bool.and_true, Bool.true_and, Bool.and_false, Bool.false_and, Bool.not_true, Bool.not_false, true_and, and_true, false_and, and_false, true_or, or_true, false_or, or_false, Bool.true_eq_false, Bool.false_eq_true, eq_self, reduceCtorEq])
    · rw [decide_eq_false c4]
      simp only [Bool.not_false, cond_true]
      obtain ⟨M', a1, a2⟩ := sp_want W hc (o := s) (by omega) (rd M 3 (zn o) 0)
      simp only [Nat.reduceAdd] at a1
      refine ⟨M', ?_, a2⟩
      (simp only [e_X3_serve, zo_iload, zo_lload, zo_aload, zo_istore, zo_lstore, zo_astore, zo_iinc, zo_pushI, zo_pushL, zo_null, zo_ii, zo_iid, zo_ll, zo_li, zo_lcmp, zo_i2l, zo_l2i, zo_dup, zo_dup2, zo_pop, zo_goto, zo_if, zo_icmp, zo_ifnull, zo_gets, zo_mm, zo_throw, zo_ret, zo_aret, zo_lret, q_iret_f, q_iret_1, q_iret_0, q_iret_b, q_c8_0, q_c8_1, q_c8_2, q_c8_3, q_c8_4, q_set_0, q_set_1i, q_set_1r, q_set_1n, q_set_1N, q_set_s, q_set_1j, q_bk_v, q_bk_n, q_if, zb_ite, cond_true, cond_false, List.getElem?_cons_zero, List.getElem?_cons_succ, Nat.reduceAdd, hs, hr, hn, c1, c2, c3, zoi, hm1, c4, a1, hoc, oc2, if_true, if_false, zb_eq0, zb_eq1, zn_1, not_true_eq_false, not_false_eq_true, ite_true, ite_false, if_true, if_false, q_iret_0, q_iret_1, decide_true, decide_false, decide_not, zb_t, zb_f, z10, z01, cond_true, cond_false, Bool.and_true, Bool.true_and, Bool.and_false, Bool.false_and, Bool.not_true, Bool.not_false, true_and, and_true, false_and, and_false, true_or, or_true, false_or, or_false, Bool.true_eq_false, Bool.false_eq_true, eq_self, reduceCtorEq])
theorem zIC_S0 {A B : zzMd} {o : Nat} (ho : o < 60) (hn : nv B 3 ≤ 60) (h : zIC A) : zIC (dS0 B A o).2 := by
  unfold dS0
  cases stay B 3 (zn o) 0 && !decide (rd B 3 (zn o) 4 = 1)
  · exact h
  · cases c3 : newSet B 3 (nv B 3) (zn o) with
    | none => exact zIC_Mk h
    | some s =>
      have s1 : s < 60 := Nat.lt_of_lt_of_le (newSet_lt c3) hn
      show zIC (dS0b B A o s).2
      unfold dS0b
      cases !decide (rd B 3 (zn s) 0 ≤ rd B 3 (zn o) 0)
      · cases !decide (rd B 3 (zn o) 0 ≤ rd B 3 (zn s) 0) && !decide (rd B 3 (zn o) 0 + rd B 3 (zn o) 2 - wTog B (zn o) ≤ 0)
        · cases c6 : otSet B (zn o) (zn s) with
          | none => simp only [cond_false, cond_true, c6]; exact h
          | some t =>
            simp only [cond_false, cond_true, c6]
            exact zIC_Want (Nat.lt_of_lt_of_le (zfst_some c6).1 hn) h
        · exact zIC_Want s1 h
      · exact zIC_Want s1 h
end

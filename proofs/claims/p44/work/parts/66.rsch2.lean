section
/-! SCHEDULER, in both: preempting and serving -/
section
variable {A B R S : zzMd} {c o : Nat}
theorem Rem_ve {i : Nat} (h4 : ve B 1 ≤ 400) : ve B 1 ≤ ve (aRem B c i).2 1 := by
  unfold aRem aGo
  cases utd B c i
  · exact Nat.le_refl _
  · exact Wr_ve h4
theorem Rem_nv {i : Nat} (W : zIC B) (hi : i < nv B 1) : nv (aRem B c i).2 1 = nv B 1 := by
  unfold aRem aGo
  cases utd B c i
  · rfl
  · exact Wr_nv W hi
theorem acts_congr {f g : Nat → zzMd → Bool × zzMd} : ∀ {n : Nat}, (∀ j M, j < n → f j M = g j M) → acts f n A = acts g n A
  | 0, _ => rfl
  | n + 1, h => by
    rw [acts_s, acts_s, acts_congr (n := n) fun j M hj => h j M (Nat.lt_succ_of_lt hj), h n _ (Nat.lt_succ_self n)]
theorem put_V {i : Nat} {D U : Nat → Int32} : put (setV A U) i D = setV (put A i D) U := by
  refine Prod.ext (funext fun a => funext fun b => ?_) rfl
  rw [setV_1]
  unfold put
  rw [tk_1, tk_1]
  by_cases q : a = 71
  · subst q
    rw [if_pos rfl, if_neg (fun z => absurd z.1 (by decide)), if_neg (fun z => absurd z.1 (by decide)), if_neg (fun z => absurd (z.1.trans (show latA 1 = 15 from rfl)) (by decide))]
    show (if (71 : Nat) = 14 ∧ (ve (setV A U) 1 + 1) * 32 ≤ b ∧ b < (ve (setV A U) 1 + 1) * 32 + 32 then D (b - (ve (setV A U) 1 + 1) * 32) else (setV A U).1 71 b) = U b
    rw [if_neg (fun z => absurd z.1 (by decide))]
    rfl
  · rw [if_neg q]
    have e : ∀ M : zzMd, (logSet M (ve A 1 + 1) D).1 a b = if a = 14 ∧ (ve A 1 + 1) * 32 ≤ b ∧ b < (ve A 1 + 1) * 32 + 32 then D (b - (ve A 1 + 1) * 32) else M.1 a b := fun M => rfl
    have e1 : ve (setV A U) 1 = ve A 1 := rfl
    have e2 : ∀ M : zzMd, nv (logSet M (ve A 1 + 1) D) 1 = nv M 1 := fun M => congrArg zz_ix (show (if (1 : Nat) = 14 ∧ (ve A 1 + 1) * 32 ≤ 2 ∧ 2 < (ve A 1 + 1) * 32 + 32 then D (2 - (ve A 1 + 1) * 32) else M.1 1 2) = M.1 1 2 from if_neg fun z => absurd z.1 (by decide))
    rw [e1, e, e, e2, e2, setV_1, if_neg q]
    rfl
theorem aRem_V {i : Nat} {U : Nat → Int32} : aRem (setV A U) 3 i = ((aRem A 3 i).1, setV (aRem A 3 i).2 U) := by
  have e1 : utd (setV A U) 3 i = utd A 3 i := rfl
  have e2 : row (setV A U) i = row A i := rfl
  have e3 : kept (setV A U) 1 (zn i) = kept A 1 (zn i) := rfl
  have e4 : ve (setV A U) 1 = ve A 1 := rfl
  unfold aRem aGo aWr
  rw [e1, e2, e3, e4, put_V]
  cases utd A 3 i
  · rfl
  · rw [cond_true, cond_true]
    cases zall 32 fun s => decide (dOw (dUp (row A i) 25 (if (2 : Int32) = 2 ∧ kept A 1 (zn i) = false then 4 else 2)) s = row A i s)
    · cases decide (400 ≤ ve A 1) <;> rfl
    · rfl
theorem acts_V {f : Nat → Nat} {U : Nat → Int32} : ∀ n, acts (fun j M => aRem M 3 (f j)) n (setV A U) = ((acts (fun j M => aRem M 3 (f j)) n A).1, setV (acts (fun j M => aRem M 3 (f j)) n A).2 U)
  | 0 => rfl
  | n + 1 => by
    rw [acts_s, acts_s, acts_V n]
    cases h : (acts (fun j M => aRem M 3 (f j)) n A).1
    · rw [cond_false, cond_false, h]
    · exact aRem_V
theorem wrtn_V {v : Int32} {U : Nat → Int32} : wrtn v 3 o (setV A U) = setV (wrtn v 3 o A) U := by
  have e : (setV A U).1 1 3 = A.1 1 3 := rfl
  unfold wrtn
  rw [e]
  cases decide (A.1 1 3 ≤ v)
  · rw [cond_false, cond_false]
    refine Prod.ext (funext fun a => funext fun b => ?_) rfl
    rw [sI_1, setV_1, setV_1, sI_1]
    by_cases q : a = 71
    · rw [if_pos q, if_pos q, if_neg (by omega)]
    · rw [if_neg q, if_neg q]
  · rfl
/-! the loops -/
def cpy (C V : Nat → Int32) (i : Nat) : Nat → Int32 := fun j => if j < i then V j else C j
theorem r_copy (R : zzMd) (x f n : Int32) (C V : Nat → Int32) {m : Nat} (hm : m ≤ 60) : ∀ i, i ≤ m → zz_ev tX12_preempts 55 [some (.ref 0), some (.int x), some (.int f), some (.int n), some (.int (zn m)), some (.int (zn 0))] [] (setQ (setQ R 37 C) 36 V) = zz_ev tX12_preempts 55 [some (.ref 0), some (.int x), some (.int f), some (.int n), some (.int (zn m)), some (.int (zn i))] [] (setQ (setQ R 37 (cpy C V i)) 36 V) := by
  intro i
  induction i with
  | zero =>
    intro _
    rw [show cpy C V 0 = C from funext fun j => if_neg (Nat.not_lt_zero j)]
  | succ i ih =>
    intro hi
    rw [ih (by omega)]
    have hc : (zn m ≤ zn i) = False := zn_le (a := m) (b := i) (by omega) (by omega) ▸ eq_false (by omega)
    have b1 : zz_inb (zn i) 60 = true := zn_inT (by omega) (by decide)
    have x1 : zz_ix (zn i) = i := zn_ix (by omega)
    have h1 : (setQ (setQ R 37 (cpy C V i)) 36 V).1 36 i = V i := setQ_i _ _ _ _
    have h2 : zz_sI (setQ (setQ R 37 (cpy C V i)) 36 V) 37 i (V i) = setQ (setQ R 37 (cpy C V (i + 1))) 36 V := by
      rw [setQ_c (by decide), setQ_s, setQ_c (by decide)]
      refine congrArg (fun z => setQ (setQ R 37 z) 36 V) (funext fun j => ?_)
      unfold dUp cpy
      by_cases q : j = i
      · rw [if_pos q, if_pos (by omega), q]
      · rw [if_neg q]
        by_cases q2 : j < i
        · rw [if_pos q2, if_pos (by omega)]
        · rw [if_neg q2, if_neg (by omega)]
    (rw [e_X12_preempts_55]; simp only [e_X12_preempts, zo_iload, zo_lload, zo_aload, zo_istore, zo_lstore, zo_astore, zo_iinc, zo_pushI, zo_pushL, zo_null, zo_ii, zo_iid, zo_ll, zo_li, zo_lcmp, zo_i2l, zo_l2i, zo_dup, zo_dup2, zo_pop, zo_goto, zo_if, zo_icmp, zo_ifnull, zo_gets, zo_mm, zo_throw, zo_ret, zo_aret, zo_lret, q_iret_f, q_iret_1, q_iret_0, q_iret_b, q_c8_0, q_c8_1, q_c8_2, q_c8_3, q_c8_4, q_set_0, q_set_1i, q_set_1r, q_set_1n, q_set_1N, q_set_s, q_set_1j, q_bk_v, q_bk_n, q_if, zb_ite, cond_true, cond_false, List.getElem?_cons_zero, List.getElem?_cons_succ, Nat.reduceAdd, q_set_1l, q_set2_0, q_set2_1i, q_set2_1r, q_set2_1n, q_set2_s, hc, b1, x1, q_aR, h1, h2, if_true, if_false, zb_eq0, zb_eq1, zn_1, not_true_eq_false, not_false_eq_true, ite_true, ite_false, if_true, if_false, q_iret_0, q_iret_1, decide_true, decide_false, decide_not, zb_t, zb_f, z10, z01, cond_true, cond_false, Bool.and_true, Bool.true_and, Bool.and_false, Bool.false_and, Bool.not_true, Bool.not_false, true_and, and_true, false_and, and_false, true_or, or_true, false_or, or_false, Bool.true_eq_false, Bool.false_eq_true, eq_self, reduceCtorEq, Bool.or_true, Bool.true_or, Bool.or_false, Bool.false_or])
/-- the fewest so far -/
def fwP (A : zzMd) (o n : Nat) (V : Nat → Int32) : Int32 := if (pst A o n V).1 = -1 then -1 else (pst A o n V).2.1
theorem r_nodes (H : rAt A R 3) (ho : o < nv A 6) : ∀ n, n ≤ nv A 1 → ∃ C j4 j5, fX12_preempts [.ref 0, .int (zn o)] R = zz_ev tX12_preempts 4 [some (.ref 0), some (.int (zn o)), some (.int (fwP A o n (R.1 36))), some (.int (zn n)), zj j4, zj j5] [] (setQ (setQ R 37 C) 36 (pst A o n (R.1 36)).2.2) ∧
    ∀ k m, (pst A o n (R.1 36)).1 = zn k → k < n → (∀ U, (cv A o k U).1 = zn m) → m ≤ 60 → ∀ j, j < m → C j = (cv A o k (fun _ => 0)).2 j := by
  intro n
  obtain ⟨t, t1, t2⟩ := rnk_lo H ho
  have hR : zz_ix (rnk A (zn o)) ≤ 60 := by rw [t1, zn_ix (by omega)]; omega
  have hn6 : nv A 6 ≤ 60 := rv_n60 H
  have hn := rl_n60 H.1
  induction n with
  | zero =>
    intro _
    refine ⟨R.1 37, none, none, ?_, fun k m _ h => absurd h (Nat.not_lt_zero k)⟩
    have e0 : setQ (setQ R 37 (R.1 37)) 36 (R.1 36) = R := by rw [setQ_0, setQ_0]
    rw [show (pst A o 0 (R.1 36)).2.2 = R.1 36 from rfl, e0, show fwP A o 0 (R.1 36) = -1 from rfl, s_X12_preempts]
    (simp only [e_X12_preempts, zo_iload, zo_lload, zo_aload, zo_istore, zo_lstore, zo_astore, zo_iinc, zo_pushI, zo_pushL, zo_null, zo_ii, zo_iid, zo_ll, zo_li, zo_lcmp, zo_i2l, zo_l2i, zo_dup, zo_dup2, zo_pop, zo_goto, zo_if, zo_icmp, zo_ifnull, zo_gets, zo_mm, zo_throw, zo_ret, zo_aret, zo_lret, q_iret_f, q_iret_1, q_iret_0, q_iret_b, q_c8_0, q_c8_1, q_c8_2, q_c8_3, q_c8_4, q_set_0, q_set_1i, q_set_1r, q_set_1n, q_set_1N, q_set_s, q_set_1j, q_bk_v, q_bk_n, q_if, zb_ite, cond_true, cond_false, List.getElem?_cons_zero, List.getElem?_cons_succ, Nat.reduceAdd, q_set_1l, q_set2_0, q_set2_1i, q_set2_1r, q_set2_1n, q_set2_s, if_true, if_false, zb_eq0, zb_eq1, zn_1, not_true_eq_false, not_false_eq_true, ite_true, ite_false, if_true, if_false, q_iret_0, q_iret_1, decide_true, decide_false, decide_not, zb_t, zb_f, z10, z01, cond_true, cond_false, Bool.and_true, Bool.true_and, Bool.and_false, Bool.false_and, Bool.not_true, Bool.not_false, true_and, and_true, false_and, and_false, true_or, or_true, false_or, or_false, Bool.true_eq_false, Bool.false_eq_true, eq_self, reduceCtorEq, Bool.or_true, Bool.true_or, Bool.or_false, Bool.false_or])
    rfl
  | succ n ih =>
    intro hn1
    obtain ⟨C, j4, j5, e1, e2⟩ := ih (by omega)
    have h60 := lt_n60 H.1 (show n < nv A 1 by omega)
    have HC : ∀ C, rAt A (setQ R 37 C) 3 := fun C => rAt_Q (Or.inr rfl) H
    have HV : ∀ V, rAt A (setQ (setQ R 37 C) 36 V) 3 := fun V => rAt_Q (Or.inl rfl) (HC C)
    have hf := pst_found (A := A) (o := o) hn6 hR (R.1 36) n
    have hfw : fwP A o (n + 1) (R.1 36) = if (pst A o (n + 1) (R.1 36)).1 = -1 then -1 else (pst A o (n + 1) (R.1 36)).2.1 := rfl
    have hfw0 : fwP A o n (R.1 36) = if (pst A o n (R.1 36)).1 = -1 then -1 else (pst A o n (R.1 36)).2.1 := rfl
    rw [e1, hfw, pst_s]
    rw [hfw0] at e1 ⊢
    generalize pst A o n (R.1 36) = s at e2 hf ⊢
    clear e1 hfw hfw0
    have hc := zk_in (i := n) (n := nv A 1) (by omega) hn
    have n5 := (HV s.2.2).1.2.1.1.2
    have hu := r_usable (HV s.2.2) h60
    have gen : ∀ P : Int32 × Int32 × (Nat → Int32), P.1 = s.1 → P.2.1 = s.2.1 → ∀ j4', zz_ev tX12_preempts 4 [some (.ref 0), some (.int (zn o)), some (.int (if s.1 = -1 then -1 else s.2.1)), some (.int (zn n)), zj j4, zj j5] [] (setQ (setQ R 37 C) 36 s.2.2) = zz_ev tX12_preempts 4 [some (.ref 0), some (.int (zn o)), some (.int (if s.1 = -1 then -1 else s.2.1)), some (.int (zn (n + 1))), zj j4', zj j5] [] (setQ (setQ R 37 C) 36 P.2.2) →
        ∃ C' j4' j5', zz_ev tX12_preempts 4 [some (.ref 0), some (.int (zn o)), some (.int (if s.1 = -1 then -1 else s.2.1)), some (.int (zn n)), zj j4, zj j5] [] (setQ (setQ R 37 C) 36 s.2.2) = zz_ev tX12_preempts 4 [some (.ref 0), some (.int (zn o)), some (.int (if P.1 = -1 then -1 else P.2.1)), some (.int (zn (n + 1))), zj j4', zj j5'] [] (setQ (setQ R 37 C') 36 P.2.2) ∧
          ∀ k m, P.1 = zn k → k < n + 1 → (∀ U, (cv A o k U).1 = zn m) → m ≤ 60 → ∀ j, j < m → C' j = (cv A o k (fun _ => 0)).2 j := fun P p1 p2 j4' hP => by
      refine ⟨C, j4', j5, ?_, fun k m a1 a2 a3 a4 => ?_⟩
      · rw [p1, p2]; exact hP
      · rcases hf with ⟨f1, -⟩ | ⟨k', m', f1, f2, -⟩
        · rw [p1, f1] at a1
          exact absurd a1.symm (zn_m1 (k := k) (by omega)).mp
        · rw [p1] at a1
          have ek : k = k' := by
            rw [f2] at a1
            have := zn_inj (a := k') (b := k) (by omega) (by omega)
            rw [this] at a1; exact a1.symm
          exact e2 k m a1 (by omega) a3 a4
    cases d1 : opn A (zn n)
    · rw [d1] at hu
      rw [cond_false]
      refine gen s rfl rfl (some (-1)) ?_
      clear gen
      (rw [e_X12_preempts_4]; simp only [e_X12_preempts, zo_iload, zo_lload, zo_aload, zo_istore, zo_lstore, zo_astore, zo_iinc, zo_pushI, zo_pushL, zo_null, zo_ii, zo_iid, zo_ll, zo_li, zo_lcmp, zo_i2l, zo_l2i, zo_dup, zo_dup2, zo_pop, zo_goto, zo_if, zo_icmp, zo_ifnull, zo_gets, zo_mm, zo_throw, zo_ret, zo_aret, zo_lret, q_iret_f, q_iret_1, q_iret_0, q_iret_b, q_c8_0, q_c8_1, q_c8_2, q_c8_3, q_c8_4, q_set_0, q_set_1i, q_set_1r, q_set_1n, q_set_1N, q_set_s, q_set_1j, q_bk_v, q_bk_n, q_if, zb_ite, cond_true, cond_false, List.getElem?_cons_zero, List.getElem?_cons_succ, Nat.reduceAdd, q_set_1l, q_set2_0, q_set2_1i, q_set2_1r, q_set2_1n, q_set2_s, n5, hc, hu, zj_some, if_true, if_false, zb_eq0, zb_eq1, zn_1, not_true_eq_false, not_false_eq_true, ite_true, ite_false, if_true, if_false, q_iret_0, q_iret_1, decide_true, decide_false, decide_not, zb_t, zb_f, z10, z01, cond_true, cond_false, Bool.and_true, Bool.true_and, Bool.and_false, Bool.false_and, Bool.not_true, Bool.not_false, true_and, and_true, false_and, and_false, true_or, or_true, false_or, or_false, Bool.true_eq_false, Bool.false_eq_true, eq_self, reduceCtorEq, Bool.or_true, Bool.true_or, Bool.or_false, Bool.false_or])
    · rw [d1] at hu
      have hsn := opn_seen H h60 d1
      have hl := r_lays (HC C) ho hsn s.2.2
      obtain ⟨hi1, hi2⟩ := cv_ind (A := A) (o := o) hn6 (k := n) hR s.2.2 (fun _ => 0)
      rw [cond_true]
      by_cases d2 : (cv A o n s.2.2).1 = -1
      · rw [decide_eq_true d2, Bool.not_true, Bool.false_and, cond_false]
        rw [d2] at hl
        refine gen (s.1, s.2.1, (cv A o n s.2.2).2) rfl rfl (some (-1)) ?_
        clear gen
        (rw [e_X12_preempts_4]; simp only [e_X12_preempts, zo_iload, zo_lload, zo_aload, zo_istore, zo_lstore, zo_astore, zo_iinc, zo_pushI, zo_pushL, zo_null, zo_ii, zo_iid, zo_ll, zo_li, zo_lcmp, zo_i2l, zo_l2i, zo_dup, zo_dup2, zo_pop, zo_goto, zo_if, zo_icmp, zo_ifnull, zo_gets, zo_mm, zo_throw, zo_ret, zo_aret, zo_lret, q_iret_f, q_iret_1, q_iret_0, q_iret_b, q_c8_0, q_c8_1, q_c8_2, q_c8_3, q_c8_4, q_set_0, q_set_1i, q_set_1r, q_set_1n, q_set_1N, q_set_s, q_set_1j, q_bk_v, q_bk_n, q_if, zb_ite, cond_true, cond_false, List.getElem?_cons_zero, List.getElem?_cons_succ, Nat.reduceAdd, q_set_1l, q_set2_0, q_set2_1i, q_set2_1r, q_set2_1n, q_set2_s, n5, hc, hu, hl, zj_some, if_true, if_false, zb_eq0, zb_eq1, zn_1, not_true_eq_false, not_false_eq_true, ite_true, ite_false, if_true, if_false, q_iret_0, q_iret_1, decide_true, decide_false, decide_not, zb_t, zb_f, z10, z01, cond_true, cond_false, Bool.and_true, Bool.true_and, Bool.and_false, Bool.false_and, Bool.not_true, Bool.not_false, true_and, and_true, false_and, and_false, true_or, or_true, false_or, or_false, Bool.true_eq_false, Bool.false_eq_true, eq_self, reduceCtorEq, Bool.or_true, Bool.true_or, Bool.or_false, Bool.false_or])
      · obtain ⟨m, m60, m1, mj⟩ := hi2.resolve_left d2
        have mm : (zn m = -1) = False := zn_m1 (k := m) (by omega)
        rw [m1] at hl
        -- the taking
        have take : ∀ f : Int32, (f = -1 ∨ ¬ f = -1 ∧ ¬ f ≤ zn m) → ∃ C' j4' j5', zz_ev tX12_preempts 4 [some (.ref 0), some (.int (zn o)), some (.int f), some (.int (zn n)), zj j4, zj j5] [] (setQ (setQ R 37 C) 36 s.2.2) = zz_ev tX12_preempts 4 [some (.ref 0), some (.int (zn o)), some (.int (zn m)), some (.int (zn (n + 1))), zj j4', zj j5'] [] (setQ (setQ R 37 C') 36 (cv A o n s.2.2).2) ∧ ∀ j, j < m → C' j = (cv A o n s.2.2).2 j := fun f hff => by
          refine ⟨cpy C (cv A o n s.2.2).2 m, some (zn m), some (zn m), ?_, fun j hj => if_pos hj⟩
          have s55 : zz_ev tX12_preempts 4 [some (.ref 0), some (.int (zn o)), some (.int f), some (.int (zn n)), zj j4, zj j5] [] (setQ (setQ R 37 C) 36 s.2.2) = zz_ev tX12_preempts 55 [some (.ref 0), some (.int (zn o)), some (.int (zn m)), some (.int (zn n)), some (.int (zn m)), some (.int (zn 0))] [] (setQ (setQ R 37 C) 36 (cv A o n s.2.2).2) := by
            rcases hff with rfl | ⟨q1, q2⟩
            · (rw [e_X12_preempts_4]; simp only [e_X12_preempts, zo_iload, zo_lload, zo_aload, zo_istore, zo_lstore, zo_astore, zo_iinc, zo_pushI, zo_pushL, zo_null, zo_ii, zo_iid, zo_ll, zo_li, zo_lcmp, zo_i2l, zo_l2i, zo_dup, zo_dup2, zo_pop, zo_goto, zo_if, zo_icmp, zo_ifnull, zo_gets, zo_mm, zo_throw, zo_ret, zo_aret, zo_lret, q_iret_f, q_iret_1, q_iret_0, q_iret_b, q_c8_0, q_c8_1, q_c8_2, q_c8_3, q_c8_4, q_set_0, q_set_1i, q_set_1r, q_set_1n, q_set_1N, q_set_s, q_set_1j, q_bk_v, q_bk_n, q_if, zb_ite, cond_true, cond_false, List.getElem?_cons_zero, List.getElem?_cons_succ, Nat.reduceAdd, q_set_1l, q_set2_0, q_set2_1i, q_set2_1r, q_set2_1n, q_set2_s, n5, hc, hu, hl, mm, if_true, if_false, zb_eq0, zb_eq1, zn_1, not_true_eq_false, not_false_eq_true, ite_true, ite_false, if_true, if_false, q_iret_0, q_iret_1, decide_true, decide_false, decide_not, zb_t, zb_f, z10, z01, cond_true, cond_false, Bool.and_true, Bool.true_and, Bool.and_false, Bool.false_and, Bool.not_true, Bool.not_false, true_and, and_true, false_and, and_false, true_or, or_true, false_or, or_false, Bool.true_eq_false, Bool.false_eq_true, eq_self, reduceCtorEq, Bool.or_true, Bool.true_or, Bool.or_false, Bool.false_or])
              rfl
            · (rw [e_X12_preempts_4]; simp only [e_X12_preempts, zo_iload, zo_lload, zo_aload, zo_istore, zo_lstore, zo_astore, zo_iinc, zo_pushI, zo_pushL, zo_null, zo_ii, zo_iid, zo_ll, zo_li, zo_lcmp, zo_i2l, zo_l2i, zo_dup, zo_dup2, zo_pop, zo_goto, zo_if, zo_icmp, zo_ifnull, zo_gets, zo_mm, zo_throw, zo_ret, zo_aret, zo_lret, q_iret_f, q_iret_1, q_iret_0, q_iret_b, q_c8_0, q_c8_1, q_c8_2, q_c8_3, q_c8_4, q_set_0, q_set_1i, q_set_1r, q_set_1n, q_set_1N, q_set_s, q_set_1j, q_bk_v, q_bk_n, q_if, zb_ite, cond_true, cond_false, List.getElem?_cons_zero, List.getElem?_cons_succ, Nat.reduceAdd, q_set_1l, q_set2_0, q_set2_1i, q_set2_1r, q_set2_1n, q_set2_s, n5, hc, hu, hl, mm, q1, q2, if_true, if_false, zb_eq0, zb_eq1, zn_1, not_true_eq_false, not_false_eq_true, ite_true, ite_false, if_true, if_false, q_iret_0, q_iret_1, decide_true, decide_false, decide_not, zb_t, zb_f, z10, z01, cond_true, cond_false, Bool.and_true, Bool.true_and, Bool.and_false, Bool.false_and, Bool.not_true, Bool.not_false, true_and, and_true, false_and, and_false, true_or, or_true, false_or, or_false, Bool.true_eq_false, Bool.false_eq_true, eq_self, reduceCtorEq, Bool.or_true, Bool.true_or, Bool.or_false, Bool.false_or])
              rfl
          rw [s55, r_copy R (zn o) (zn m) (zn n) C (cv A o n s.2.2).2 m60 m (Nat.le_refl m)]
          have hcm : (zn m ≤ zn m) = True := eq_true (Int32.le_refl _)
          (rw [e_X12_preempts_55]; simp only [e_X12_preempts, zo_iload, zo_lload, zo_aload, zo_istore, zo_lstore, zo_astore, zo_iinc, zo_pushI, zo_pushL, zo_null, zo_ii, zo_iid, zo_ll, zo_li, zo_lcmp, zo_i2l, zo_l2i, zo_dup, zo_dup2, zo_pop, zo_goto, zo_if, zo_icmp, zo_ifnull, zo_gets, zo_mm, zo_throw, zo_ret, zo_aret, zo_lret, q_iret_f, q_iret_1, q_iret_0, q_iret_b, q_c8_0, q_c8_1, q_c8_2, q_c8_3, q_c8_4, q_set_0, q_set_1i, q_set_1r, q_set_1n, q_set_1N, q_set_s, q_set_1j, q_bk_v, q_bk_n, q_if, zb_ite, cond_true, cond_false, List.getElem?_cons_zero, List.getElem?_cons_succ, Nat.reduceAdd, q_set_1l, q_set2_0, q_set2_1i, q_set2_1r, q_set2_1n, q_set2_s, hcm, zj_some, if_true, if_false, zb_eq0, zb_eq1, zn_1, not_true_eq_false, not_false_eq_true, ite_true, ite_false, if_true, if_false, q_iret_0, q_iret_1, decide_true, decide_false, decide_not, zb_t, zb_f, z10, z01, cond_true, cond_false, Bool.and_true, Bool.true_and, Bool.and_false, Bool.false_and, Bool.not_true, Bool.not_false, true_and, and_true, false_and, and_false, true_or, or_true, false_or, or_false, Bool.true_eq_false, Bool.false_eq_true, eq_self, reduceCtorEq, Bool.or_true, Bool.true_or, Bool.or_false, Bool.false_or])
        have fin : ∀ f : Int32, (f = -1 ∨ ¬ f = -1 ∧ ¬ f ≤ zn m) → ∃ C' j4' j5', zz_ev tX12_preempts 4 [some (.ref 0), some (.int (zn o)), some (.int f), some (.int (zn n)), zj j4, zj j5] [] (setQ (setQ R 37 C) 36 s.2.2) = zz_ev tX12_preempts 4 [some (.ref 0), some (.int (zn o)), some (.int (if zn n = -1 then -1 else zn m)), some (.int (zn (n + 1))), zj j4', zj j5'] [] (setQ (setQ R 37 C') 36 (cv A o n s.2.2).2) ∧ ∀ k m2, zn n = zn k → k < n + 1 → (∀ U, (cv A o k U).1 = zn m2) → m2 ≤ 60 → ∀ j, j < m2 → C' j = (cv A o k (fun _ => 0)).2 j := fun f hff => by
          obtain ⟨C', j4', j5', g1, g2⟩ := take f hff
          refine ⟨C', j4', j5', ?_, fun k m2 a1 a2 a3 a4 j hj => ?_⟩
          · rw [if_neg (zn_m1 (k := n) (by omega)).mp]; exact g1
          · have ek : n = k := by
              have := zn_inj (a := n) (b := k) (by omega) (by omega)
              rw [this] at a1; exact a1
            subst ek
            have em : m = m2 := by
              have h1 := a3 s.2.2
              rw [m1] at h1
              have := zn_inj (a := m) (b := m2) (by omega) (by omega)
              rw [this] at h1; exact h1
            subst em
            rw [g2 j hj, (mj j hj).1]
        clear take
        have d2' : decide ((cv A o n s.2.2).1 = -1) = false := decide_eq_false d2
        rw [d2', Bool.not_false, Bool.true_and, m1]
        rcases hf with ⟨f1, f2⟩ | ⟨k', m', f0, f1, f60, f2, -⟩
        · have c61 : ¬ s.2.1 ≤ zn m := by
            rw [f2]
            have := zn_le (a := 61) (b := m) (by decide) (by omega)
            rw [show (zn 61 : Int32) = 61 from rfl] at this
            rw [this]; omega
          rw [decide_eq_false c61, Bool.not_false, cond_true]
          rw [f1, if_pos rfl] at *
          exact fin (-1) (Or.inl rfl)
        · have kk : ¬ s.1 = -1 := by rw [f1]; exact (zn_m1 (k := k') (by omega)).mp
          have mm' : ¬ s.2.1 = -1 := by rw [f2]; exact (zn_m1 (k := m') (by omega)).mp
          by_cases d3 : s.2.1 ≤ zn m
          · rw [decide_eq_true d3, Bool.not_true, cond_false]
            refine gen (s.1, s.2.1, (cv A o n s.2.2).2) rfl rfl (some (zn m)) ?_
            clear gen fin
            rw [if_neg kk]
            (rw [e_X12_preempts_4]; simp only [e_X12_preempts, zo_iload, zo_lload, zo_aload, zo_istore, zo_lstore, zo_astore, zo_iinc, zo_pushI, zo_pushL, zo_null, zo_ii, zo_iid, zo_ll, zo_li, zo_lcmp, zo_i2l, zo_l2i, zo_dup, zo_dup2, zo_pop, zo_goto, zo_if, zo_icmp, zo_ifnull, zo_gets, zo_mm, zo_throw, zo_ret, zo_aret, zo_lret, q_iret_f, q_iret_1, q_iret_0, q_iret_b, q_c8_0, q_c8_1, q_c8_2, q_c8_3, q_c8_4, q_set_0, q_set_1i, q_set_1r, q_set_1n, q_set_1N, q_set_s, q_set_1j, q_bk_v, q_bk_n, q_if, zb_ite, cond_true, cond_false, List.getElem?_cons_zero, List.getElem?_cons_succ, Nat.reduceAdd, q_set_1l, q_set2_0, q_set2_1i, q_set2_1r, q_set2_1n, q_set2_s, n5, hc, hu, hl, mm, mm', d3, zj_some, if_true, if_false, zb_eq0, zb_eq1, zn_1, not_true_eq_false, not_false_eq_true, ite_true, ite_false, if_true, if_false, q_iret_0, q_iret_1, decide_true, decide_false, decide_not, zb_t, zb_f, z10, z01, cond_true, cond_false, Bool.and_true, Bool.true_and, Bool.and_false, Bool.false_and, Bool.not_true, Bool.not_false, true_and, and_true, false_and, and_false, true_or, or_true, false_or, or_false, Bool.true_eq_false, Bool.false_eq_true, eq_self, reduceCtorEq, Bool.or_true, Bool.true_or, Bool.or_false, Bool.false_or])
          · rw [decide_eq_false d3, Bool.not_false, cond_true]
            have := fin s.2.1 (Or.inr ⟨mm', d3⟩)
            rw [if_neg kk]
            exact this
/-! the deletes -/
def preI (A : zzMd) (o : Nat) (C : Nat → Int32) (B S : zzMd) : Prop := rKy (wrtn (A.1 1 3) 3 o B) S 3 o ∧ zIC B ∧ ve A 1 ≤ ve B 1 ∧ nv B 1 = nv A 1 ∧ ∀ j, S.1 37 j = C j
theorem pre_out (S : zzMd) (x f i : Int32) (l5 : Option Value) : zz_ev tX12_preempts 93 [some (.ref 0), some (.int x), some (.int f), some (.int 0), some (.int i), l5] [] S = some (.inl none, S) := by
  by_cases d : f ≤ i <;> (rw [e_X12_preempts_93]; simp only [e_X12_preempts, zo_iload, zo_lload, zo_aload, zo_istore, zo_lstore, zo_astore, zo_iinc, zo_pushI, zo_pushL, zo_null, zo_ii, zo_iid, zo_ll, zo_li, zo_lcmp, zo_i2l, zo_l2i, zo_dup, zo_dup2, zo_pop, zo_goto, zo_if, zo_icmp, zo_ifnull, zo_gets, zo_mm, zo_throw, zo_ret, zo_aret, zo_lret, q_iret_f, q_iret_1, q_iret_0, q_iret_b, q_c8_0, q_c8_1, q_c8_2, q_c8_3, q_c8_4, q_set_0, q_set_1i, q_set_1r, q_set_1n, q_set_1N, q_set_s, q_set_1j, q_bk_v, q_bk_n, q_if, zb_ite, cond_true, cond_false, List.getElem?_cons_zero, List.getElem?_cons_succ, Nat.reduceAdd, q_set_1l, q_set2_0, q_set2_1i, q_set2_1r, q_set2_1n, q_set2_s, d, if_true, if_false, zb_eq0, zb_eq1, zn_1, not_true_eq_false, not_false_eq_true, ite_true, ite_false, if_true, if_false, q_iret_0, q_iret_1, decide_true, decide_false, decide_not, zb_t, zb_f, z10, z01, cond_true, cond_false, Bool.and_true, Bool.true_and, Bool.and_false, Bool.false_and, Bool.not_true, Bool.not_false, true_and, and_true, false_and, and_false, true_or, or_true, false_or, or_false, Bool.true_eq_false, Bool.false_eq_true, eq_self, reduceCtorEq, Bool.or_true, Bool.true_or, Bool.or_false, Bool.false_or])
theorem pre_step {C : Nat → Int32} {p : Nat → Nat} {m j : Nat} (WA : zIC A) (hm : m ≤ 60) (hj : j < m) (hp : C j = zn (p j) ∧ p j < nv A 1) (h6 : nv A 1 ≤ 60) (I : preI A o C B S) (x : Int32) (j5 : Option Int32) :
    ∃ S', zz_ev tX12_preempts 93 [some (.ref 0), some (.int x), some (.int (zn m)), some (.int 1), some (.int (zn j)), zj j5] [] S = (bif (aRem B 3 (p j)).1 then zz_ev tX12_preempts 93 [some (.ref 0), some (.int x), some (.int (zn m)), some (.int 1), some (.int (zn (j + 1))), zj j5] [] S' else some (.inl none, S')) ∧ preI A o C (aRem B 3 (p j)).2 S' := by
  obtain ⟨H, W, hv, hnv, h37⟩ := I
  have en : nv (wrtn (A.1 1 3) 3 o B) 1 = nv A 1 := (nv_wrtn (by decide)).trans hnv
  have hd := r_deletes H (b := p j) (by rw [en]; exact hp.2)
  have W2 := zIC_Rem (c := 3) (o := p j) (by omega) W
  obtain ⟨S', e1, e2, e3⟩ := act_step (act := fun M => aRem M 3 (p j)) (c := 3) (o := o) (fun M x => aRem_sI) (le_13 WA W hv) (le_13 W W2 (Rem_ve W.1.2.2.2)) hd
  refine ⟨S', ?_, e2, W2, Nat.le_trans hv (Rem_ve W.1.2.2.2), (Rem_nv W (by omega)).trans hnv, fun k => (e3 k).trans (h37 k)⟩
  have hc : (zn m ≤ zn j) = False := zn_le (a := m) (b := j) (by omega) (by omega) ▸ eq_false (by omega)
  have b1 : zz_inb (zn j) 60 = true := zn_inT (by omega) (by decide)
  have x1 : zz_ix (zn j) = j := zn_ix (by omega)
  have hC := (h37 j).trans hp.1
  clear e2 e3 hd W2
  generalize aRem B 3 (p j) = P at e1 ⊢
  have e1' : fX12_deletes [.ref 0, .int (zn (p j))] S = some (.inl (some (.int (zb P.1))), S') := e1
  cases hP : P.1 <;> rw [hP] at e1'
  · simp only [zb_f] at e1'
    (rw [e_X12_preempts_93]; simp only [e_X12_preempts, zo_iload, zo_lload, zo_aload, zo_istore, zo_lstore, zo_astore, zo_iinc, zo_pushI, zo_pushL, zo_null, zo_ii, zo_iid, zo_ll, zo_li, zo_lcmp, zo_i2l, zo_l2i, zo_dup, zo_dup2, zo_pop, zo_goto, zo_if, zo_icmp, zo_ifnull, zo_gets, zo_mm, zo_throw, zo_ret, zo_aret, zo_lret, q_iret_f, q_iret_1, q_iret_0, q_iret_b, q_c8_0, q_c8_1, q_c8_2, q_c8_3, q_c8_4, q_set_0, q_set_1i, q_set_1r, q_set_1n, q_set_1N, q_set_s, q_set_1j, q_bk_v, q_bk_n, q_if, zb_ite, cond_true, cond_false, List.getElem?_cons_zero, List.getElem?_cons_succ, Nat.reduceAdd, q_set_1l, q_set2_0, q_set2_1i, q_set2_1r, q_set2_1n, q_set2_s, hc, b1, x1, q_aR, hC, e1', if_true, if_false, zb_eq0, zb_eq1, zn_1, not_true_eq_false, not_false_eq_true, ite_true, ite_false, if_true, if_false, q_iret_0, q_iret_1, decide_true, decide_false, decide_not, zb_t, zb_f, z10, z01, cond_true, cond_false, Bool.and_true, Bool.true_and, Bool.and_false, Bool.false_and, Bool.not_true, Bool.not_false, true_and, and_true, false_and, and_false, true_or, or_true, false_or, or_false, Bool.true_eq_false, Bool.false_eq_true, eq_self, reduceCtorEq, Bool.or_true, Bool.true_or, Bool.or_false, Bool.false_or])
    exact pre_out _ _ _ _ _
  · simp only [zb_t] at e1'
    (rw [e_X12_preempts_93]; simp only [e_X12_preempts, zo_iload, zo_lload, zo_aload, zo_istore, zo_lstore, zo_astore, zo_iinc, zo_pushI, zo_pushL, zo_null, zo_ii, zo_iid, zo_ll, zo_li, zo_lcmp, zo_i2l, zo_l2i, zo_dup, zo_dup2, zo_pop, zo_goto, zo_if, zo_icmp, zo_ifnull, zo_gets, zo_mm, zo_throw, zo_ret, zo_aret, zo_lret, q_iret_f, q_iret_1, q_iret_0, q_iret_b, q_c8_0, q_c8_1, q_c8_2, q_c8_3, q_c8_4, q_set_0, q_set_1i, q_set_1r, q_set_1n, q_set_1N, q_set_s, q_set_1j, q_bk_v, q_bk_n, q_if, zb_ite, cond_true, cond_false, List.getElem?_cons_zero, List.getElem?_cons_succ, Nat.reduceAdd, q_set_1l, q_set2_0, q_set2_1i, q_set2_1r, q_set2_1n, q_set2_s, hc, b1, x1, q_aR, hC, e1', if_true, if_false, zb_eq0, zb_eq1, zn_1, not_true_eq_false, not_false_eq_true, ite_true, ite_false, if_true, if_false, q_iret_0, q_iret_1, decide_true, decide_false, decide_not, zb_t, zb_f, z10, z01, cond_true, cond_false, Bool.and_true, Bool.true_and, Bool.and_false, Bool.false_and, Bool.not_true, Bool.not_false, true_and, and_true, false_and, and_false, true_or, or_true, false_or, or_false, Bool.true_eq_false, Bool.false_eq_true, eq_self, reduceCtorEq, Bool.or_true, Bool.true_or, Bool.or_false, Bool.false_or])
theorem r_preempts (H : rKy A R 3 o) (ho : o < nv A 6) (V : Nat → Int32) : ∃ S, fX12_preempts [.ref 0, .int (zn o)] R = some (.inl none, S) ∧ rKy (wrtn (A.1 1 3) 3 o (acts (fun j M => aRem M 3 (zz_ix ((pre A o V).2 j))) (cntV (pre A o V).1) (setV A (pre A o V).2)).2) S 3 o := by
  obtain ⟨t, t1, t2⟩ := rnk_lo H.1 ho
  have hR : zz_ix (rnk A (zn o)) ≤ 60 := by rw [t1, zn_ix (by omega)]; omega
  have hn6 : nv A 6 ≤ 60 := rv_n60 H.1
  have hn := rl_n60 H.1.1
  have hnv : nv A 6 ≤ nv A 1 := rv_nv H.1
  obtain ⟨C, j4, j5, e1, e2⟩ := r_nodes H.1 ho (nv A 1) (Nat.le_refl _)
  have ep : ∀ n, nv A 6 ≤ n → n ≤ nv A 1 → pst A o n (R.1 36) = pst A o (nv A 6) (R.1 36) := by
    intro n
    induction n with
    | zero => intro h _; rw [Nat.le_zero.mp h]
    | succ n ih =>
      intro h1 h2
      rcases Nat.lt_or_eq_of_le h1 with h | h
      · have : opn A (zn n) = false := by
          cases q : opn A (zn n)
          · rfl
          · exact absurd (opn_seen H.1 (lt_n60 H.1.1 (show n < nv A 1 by omega)) q) (by omega)
        rw [pst_s, this, cond_false]
        exact ih (by omega) (by omega)
      · rw [← h]
  have hfw : fwP A o (nv A 1) (R.1 36) = if (pst A o (nv A 1) (R.1 36)).1 = -1 then -1 else (pst A o (nv A 1) (R.1 36)).2.1 := rfl
  rw [hfw] at e1
  rw [ep (nv A 1) hnv (Nat.le_refl _)] at e1 e2
  have hf := pst_found (A := A) (o := o) hn6 hR (R.1 36) (nv A 6)
  have hi := pst_ind (A := A) (o := o) hn6 hR V (R.1 36) (nv A 6)
  generalize pst A o (nv A 6) (R.1 36) = s at e1 e2 hf hi
  have K : rKy A (setQ (setQ R 37 C) 36 s.2.2) 3 o := rKy_Q (Or.inl rfl) (rKy_Q (Or.inr rfl) H)
  have k37 : ∀ j, (setQ (setQ R 37 C) 36 s.2.2).1 37 j = C j := fun j => (setQ_n (by decide) j).trans (setQ_i _ _ _ _)
  generalize setQ (setQ R 37 C) 36 s.2.2 = T at e1 K k37
  have n5 := K.1.1.2.1.1.2
  have hc := zk_out hn
  have hpre : pre A o V = if s.1 = -1 then (0, (pst A o (nv A 6) V).2.2) else cv A o (zz_ix s.1) (pst A o (nv A 6) V).2.2 := by
    unfold pre
    rw [hi.1]
  have s93 : ∀ f, zz_ev tX12_preempts 4 [some (.ref 0), some (.int (zn o)), some (.int f), some (.int (zn (nv A 1))), zj j4, zj j5] [] T = zz_ev tX12_preempts 93 [some (.ref 0), some (.int (zn o)), some (.int f), some (.int 1), some (.int (zn 0)), zj j5] [] T := fun f => by
    (rw [e_X12_preempts_4]; simp only [e_X12_preempts, zo_iload, zo_lload, zo_aload, zo_istore, zo_lstore, zo_astore, zo_iinc, zo_pushI, zo_pushL, zo_null, zo_ii, zo_iid, zo_ll, zo_li, zo_lcmp, zo_i2l, zo_l2i, zo_dup, zo_dup2, zo_pop, zo_goto, zo_if, zo_icmp, zo_ifnull, zo_gets, zo_mm, zo_throw, zo_ret, zo_aret, zo_lret, q_iret_f, q_iret_1, q_iret_0, q_iret_b, q_c8_0, q_c8_1, q_c8_2, q_c8_3, q_c8_4, q_set_0, q_set_1i, q_set_1r, q_set_1n, q_set_1N, q_set_s, q_set_1j, q_bk_v, q_bk_n, q_if, zb_ite, cond_true, cond_false, List.getElem?_cons_zero, List.getElem?_cons_succ, Nat.reduceAdd, q_set_1l, q_set2_0, q_set2_1i, q_set2_1r, q_set2_1n, q_set2_s, n5, hc, if_true, if_false, zb_eq0, zb_eq1, zn_1, not_true_eq_false, not_false_eq_true, ite_true, ite_false, if_true, if_false, q_iret_0, q_iret_1, decide_true, decide_false, decide_not, zb_t, zb_f, z10, z01, cond_true, cond_false, Bool.and_true, Bool.true_and, Bool.and_false, Bool.false_and, Bool.not_true, Bool.not_false, true_and, and_true, false_and, and_false, true_or, or_true, false_or, or_false, Bool.true_eq_false, Bool.false_eq_true, eq_self, reduceCtorEq, Bool.or_true, Bool.true_or, Bool.or_false, Bool.false_or])
    rfl
  rw [e1, s93]
  rcases hf with ⟨f1, f2⟩ | ⟨k, m, f0, f1, f60, f2, f3⟩
  · rw [f1, if_pos rfl] at hpre
    rw [f1, if_pos rfl, hpre]
    refine ⟨T, ?_, ?_⟩
    · have c0 : ((-1 : Int32) ≤ zn 0) = True := eq_true (by decide)
      (rw [e_X12_preempts_93]; simp only [e_X12_preempts, zo_iload, zo_lload, zo_aload, zo_istore, zo_lstore, zo_astore, zo_iinc, zo_pushI, zo_pushL, zo_null, zo_ii, zo_iid, zo_ll, zo_li, zo_lcmp, zo_i2l, zo_l2i, zo_dup, zo_dup2, zo_pop, zo_goto, zo_if, zo_icmp, zo_ifnull, zo_gets, zo_mm, zo_throw, zo_ret, zo_aret, zo_lret, q_iret_f, q_iret_1, q_iret_0, q_iret_b, q_c8_0, q_c8_1, q_c8_2, q_c8_3, q_c8_4, q_set_0, q_set_1i, q_set_1r, q_set_1n, q_set_1N, q_set_s, q_set_1j, q_bk_v, q_bk_n, q_if, zb_ite, cond_true, cond_false, List.getElem?_cons_zero, List.getElem?_cons_succ, Nat.reduceAdd, q_set_1l, q_set2_0, q_set2_1i, q_set2_1r, q_set2_1n, q_set2_s, c0, if_true, if_false, zb_eq0, zb_eq1, zn_1, not_true_eq_false, not_false_eq_true, ite_true, ite_false, if_true, if_false, q_iret_0, q_iret_1, decide_true, decide_false, decide_not, zb_t, zb_f, z10, z01, cond_true, cond_false, Bool.and_true, Bool.true_and, Bool.and_false, Bool.false_and, Bool.not_true, Bool.not_false, true_and, and_true, false_and, and_false, true_or, or_true, false_or, or_false, Bool.true_eq_false, Bool.false_eq_true, eq_self, reduceCtorEq, Bool.or_true, Bool.true_or, Bool.or_false, Bool.false_or])
    · show rKy (wrtn (A.1 1 3) 3 o (setV A (pst A o (nv A 6) V).2.2)) T 3 o
      rw [wrtn_V, wrtn_0]
      exact rKy_V K
  · have kk : ¬ zn k = -1 := (zn_m1 (k := k) (by omega)).mp
    rw [f1, if_neg kk, zn_ix (by omega)] at hpre
    rw [f1, if_neg kk, f2, hpre]
    have hcv := cv_ind (A := A) (o := o) hn6 (k := k) hR (pst A o (nv A 6) V).2.2 (fun _ => 0)
    rw [f3] at hcv ⊢
    have ec : cntV (zn m) = m := by
      unfold cntV
      rw [if_neg (zn_m1 (k := m) (by omega)).mp, zn_ix (by omega)]
    rw [ec]
    obtain ⟨m', m'60, q1, q2⟩ := hcv.2.resolve_left (zn_m1 (k := m) (by omega)).mp
    have em : m = m' := by
      have := zn_inj (a := m) (b := m') (by omega) (by omega)
      rw [this] at q1; exact q1
    subst em
    generalize (cv A o k (pst A o (nv A 6) V).2.2).2 = U at q2 ⊢
    have hC : ∀ j, j < m → C j = zn (zz_ix (U j)) ∧ zz_ix (U j) < nv A 1 := fun j hj => by
      obtain ⟨r1, p, p1, p2⟩ := q2 j hj
      have := e2 k m f1 (by omega) (fun U => f3 U) f60 j hj
      rw [this, ← r1, p2, zn_ix (by omega)]
      exact ⟨rfl, by omega⟩
    have WA : zIC A := H.1.1.1.2
    rw [acts_V (f := fun j => zz_ix (U j))]
    show ∃ S, _ ∧ rKy (wrtn (A.1 1 3) 3 o (setV (acts (fun j M => aRem M 3 (zz_ix (U j))) m A).2 U)) S 3 o
    rw [wrtn_V]
    have main : ∀ n, n ≤ m → ∃ S, zz_ev tX12_preempts 93 [some (.ref 0), some (.int (zn o)), some (.int (zn m)), some (.int 1), some (.int (zn 0)), zj j5] [] T = (bif (acts (fun j M => aRem M 3 (zz_ix (U j))) n A).1 then zz_ev tX12_preempts 93 [some (.ref 0), some (.int (zn o)), some (.int (zn m)), some (.int 1), some (.int (zn n)), zj j5] [] S else some (.inl none, S)) ∧ preI A o C (acts (fun j M => aRem M 3 (zz_ix (U j))) n A).2 S := by
      intro n
      induction n with
      | zero =>
        intro _
        refine ⟨T, rfl, ?_, WA, Nat.le_refl _, rfl, k37⟩
        rw [show (acts (fun j M => aRem M 3 (zz_ix (U j))) 0 A).2 = A from rfl, wrtn_0]; exact K
      | succ n ih =>
        intro hn1
        obtain ⟨S, g1, g2⟩ := ih (by omega)
        rw [acts_s]
        cases hb : (acts (fun j M => aRem M 3 (zz_ix (U j))) n A).1
        · rw [hb] at g1
          rw [cond_false, hb]
          exact ⟨S, g1, g2⟩
        · rw [hb] at g1
          rw [cond_true]
          obtain ⟨S', h1, h2⟩ := pre_step (p := fun j => zz_ix (U j)) WA f60 (show n < m by omega) (hC n (by omega)) hn g2 (zn o) j5
          exact ⟨S', g1.trans h1, h2⟩
    obtain ⟨S, g1, g2⟩ := main m (Nat.le_refl _)
    refine ⟨S, ?_, rKy_V g2.1⟩
    rw [g1]
    cases (acts (fun j M => aRem M 3 (zz_ix (U j))) m A).1
    · rfl
    · rw [cond_true]
      have hcm : (zn m ≤ zn m) = True := eq_true (Int32.le_refl _)
      clear g1 g2
      (rw [e_X12_preempts_93]; simp only [e_X12_preempts, zo_iload, zo_lload, zo_aload, zo_istore, zo_lstore, zo_astore, zo_iinc, zo_pushI, zo_pushL, zo_null, zo_ii, zo_iid, zo_ll, zo_li, zo_lcmp, zo_i2l, zo_l2i, zo_dup, zo_dup2, zo_pop, zo_goto, zo_if, zo_icmp, zo_ifnull, zo_gets, zo_mm, zo_throw, zo_ret, zo_aret, zo_lret, q_iret_f, q_iret_1, q_iret_0, q_iret_b, q_c8_0, q_c8_1, q_c8_2, q_c8_3, q_c8_4, q_set_0, q_set_1i, q_set_1r, q_set_1n, q_set_1N, q_set_s, q_set_1j, q_bk_v, q_bk_n, q_if, zb_ite, cond_true, cond_false, List.getElem?_cons_zero, List.getElem?_cons_succ, Nat.reduceAdd, q_set_1l, q_set2_0, q_set2_1i, q_set2_1r, q_set2_1n, q_set2_s, hcm, if_true, if_false, zb_eq0, zb_eq1, zn_1, not_true_eq_false, not_false_eq_true, ite_true, ite_false, if_true, if_false, q_iret_0, q_iret_1, decide_true, decide_false, decide_not, zb_t, zb_f, z10, z01, cond_true, cond_false, Bool.and_true, Bool.true_and, Bool.and_false, Bool.false_and, Bool.not_true, Bool.not_false, true_and, and_true, false_and, and_false, true_or, or_true, false_or, or_false, Bool.true_eq_false, Bool.false_eq_true, eq_self, reduceCtorEq, Bool.or_true, Bool.true_or, Bool.or_false, Bool.false_or])
theorem pl_enc (H : Rl0 A R) {i k : Nat} (hb : i < nv A 1) (hk : k < 60) (h23 : row A i 23 = 2) (h25 : row A i 25 = 0) : encR (wt (R.2 7 i) 15 (zn (k + 1))) (dOw (dUp (row A i) 28 (zn k))) ∧ goodD (dOw (dUp (row A i) 28 (zn k))) := by
  obtain ⟨c1, c2, c3, c4, c5⟩ := rl_cur H hb
  obtain ⟨gF, g1, g2, g3, g4, g5, g6, g7, g8⟩ := c3
  have n04 : ¬ (0 : Int32) = 4 := by decide
  have e : dOw (dUp (row A i) 28 (zn k)) = dUp (row A i) 28 (zn k) := dOw_good fun z => absurd (h25.symm.trans z) n04
  rw [e]
  have s1 := enc_wv (k := 15) (a := k + 1) (u := zn (k + 1)) (v := zn k) (by decide) (Nat.lt_of_lt_of_le (show k + 1 < 61 by omega) (by decide)) rfl (zn_1 k).symm c1
  refine ⟨s1, fun f hf => ?_, g1, g2, g3, g4, g5, Or.inr ⟨k, hk, rfl, h23⟩, g7, fun z => absurd (h25.symm.trans z) n04⟩
  show ∃ a, (if f = 28 then zn k else row A i f) = zn a ∧ _
  rw [if_neg (by omega)]
  exact gF f hf
theorem r_schedules (H : rKy A R 3 o) : srvTo A (dS3 A A o) 3 o (fX12_schedules [.ref 0] R) := by
  have h60 := H.2.2.2
  have h43 := H.2.2.1
  have hs := r_stays H.1 h60 2
  simp only [Nat.reduceAdd] at hs
  obtain ⟨b1, x1⟩ := kinds_o o h60
  rw [s_X12_schedules]
  unfold dS3 wops
  cases d1 : stay A 6 (zn o) 2
  · have e : zz_ev tX12_schedules 0 [some (.ref 0), none] [] R = some (.inl (some (.int 1)), R) := by
      (simp only [e_X12_schedules, zo_iload, zo_lload, zo_aload, zo_istore, zo_lstore, zo_astore, zo_iinc, zo_pushI, zo_pushL, zo_null, zo_ii, zo_iid, zo_ll, zo_li, zo_lcmp, zo_i2l, zo_l2i, zo_dup, zo_dup2, zo_pop, zo_goto, zo_if, zo_icmp, zo_ifnull, zo_gets, zo_mm, zo_throw, zo_ret, zo_aret, zo_lret, q_iret_f, q_iret_1, q_iret_0, q_iret_b, q_c8_0, q_c8_1, q_c8_2, q_c8_3, q_c8_4, q_set_0, q_set_1i, q_set_1r, q_set_1n, q_set_1N, q_set_s, q_set_1j, q_bk_v, q_bk_n, q_if, zb_ite, cond_true, cond_false, List.getElem?_cons_zero, List.getElem?_cons_succ, Nat.reduceAdd, q_set_1l, q_set2_0, q_set2_1i, q_set2_1r, q_set2_1n, q_set2_s, h43, hs, d1, if_true, if_false, zb_eq0, zb_eq1, zn_1, not_true_eq_false, not_false_eq_true, ite_true, ite_false, if_true, if_false, q_iret_0, q_iret_1, decide_true, decide_false, decide_not, zb_t, zb_f, z10, z01, cond_true, cond_false, Bool.and_true, Bool.true_and, Bool.and_false, Bool.false_and, Bool.not_true, Bool.not_false, true_and, and_true, false_and, and_false, true_or, or_true, false_or, or_false, Bool.true_eq_false, Bool.false_eq_true, eq_self, reduceCtorEq, Bool.or_true, Bool.true_or, Bool.or_false, Bool.false_or])
    rw [e]
    exact srv_no H
  have hsn : o < nv A 6 := seen_stay H.1 h60 d1
  have hon : o < nv A 1 := Nat.lt_of_lt_of_le hsn (rv_nv H.1)
  obtain ⟨-, -, -, -, v15, v16⟩ := r_vw H.1 (o := o) hsn
  simp only [Nat.reduceAdd] at v15 v16
  obtain ⟨-, -, g, -, g23⟩ := rv_row H.1 (o := o) hsn
  simp only [Nat.reduceAdd] at g23
  have r23 : rd A 6 (zn o) 23 = 2 := (of_decide_eq_true d1).1
  have r25 : rd A 6 (zn o) 25 = 0 := (of_decide_eq_true d1).2
  by_cases d2 : rd A 6 (zn o) 29 = 0
  · by_cases d3 : rd A 6 (zn o) 28 = -1
    · have c0 : (rd A 6 (zn o) 28 + 1 ≤ 0) = True := eq_true (by rw [d3]; decide)
      rw [decide_eq_true d2, decide_eq_true d3, Bool.and_self, Bool.and_self, cond_true]
      have hnf := r_nodeFor H.1 hsn
      cases hb : bst A (rd A 6 (zn o) 24) (znd (rd A 6 (zn o) 1)) (nv A 6) with
      | some k =>
        rw [hb] at hnf
        have hk : k < nv A 6 := bst_lt hb
        have hk60 : k < 60 := Nat.lt_of_lt_of_le hk (rv_n60 H.1)
        have hnf' : fX12_nodeFor [.ref 0, .int (zn o)] R = some (.inl (some (.int (zn k))), R) := hnf
        have km : (zn k = -1) = False := zn_m1 (k := k) (by omega)
        refine srv_act (R := R) ?_
        have w15 := r_with H.1.1.1.1 (k := 15) (by decide) (R.2 7 o) (zn (k + 1))
        have w15' : fX12_with [.ref 0, .long (R.2 7 o), .int 15, .int (zn (k + 1))] R = some (.inl (some (.long (wt (R.2 7 o) 15 (zn (k + 1))))), R) := w15
        have hw : actTo A (aSet A 3 o 28 (zn k)) 3 o R (fX12_writesIt [.ref 0, .int (zn o), .long (wt (R.2 7 o) 15 (zn (k + 1))), .long (R.2 8 o)] R) := by
          unfold aSet
          rw [show rd A (3 + 3) (zn o) (zn 28) = -1 from d3, decide_eq_false (show ¬ (-1 : Int32) = zn k from fun z => km.mp z.symm), cond_false]
          cases u : utd A 3 o
          · exact r_writesNo H hon u _ _
          · have u23 : rd A 6 (zn o) 23 = row A o 23 := utd_row H.1 hon u (s := 23) (by decide)
            have u25 : rd A 6 (zn o) 25 = row A o 25 := utd_row H.1 hon u (s := 25) (by decide)
            obtain ⟨c1, c2, c3, c4, c5⟩ := rl_cur H.1.1 hon
            obtain ⟨f1, f2⟩ := pl_enc H.1.1 hon hk60 (u23.symm.trans r23) (u25.symm.trans r25)
            have := r_writesIt H hon (D := dUp (row A o) 28 (zn k)) f2 c4 c5 f1 (encB_c c2 rfl rfl) fun f hf => if_neg (by omega)
            rw [u] at this
            exact this
        obtain ⟨R', e1, e2, e3⟩ := hw
        refine ⟨R', ?_, e2, e3⟩
        clear e2 e3 hnf w15
        (simp only [e_X12_schedules, zo_iload, zo_lload, zo_aload, zo_istore, zo_lstore, zo_astore, zo_iinc, zo_pushI, zo_pushL, zo_null, zo_ii, zo_iid, zo_ll, zo_li, zo_lcmp, zo_i2l, zo_l2i, zo_dup, zo_dup2, zo_pop, zo_goto, zo_if, zo_icmp, zo_ifnull, zo_gets, zo_mm, zo_throw, zo_ret, zo_aret, zo_lret, q_iret_f, q_iret_1, q_iret_0, q_iret_b, q_c8_0, q_c8_1, q_c8_2, q_c8_3, q_c8_4, q_set_0, q_set_1i, q_set_1r, q_set_1n, q_set_1N, q_set_s, q_set_1j, q_bk_v, q_bk_n, q_if, zb_ite, cond_true, cond_false, List.getElem?_cons_zero, List.getElem?_cons_succ, Nat.reduceAdd, q_set_1l, q_set2_0, q_set2_1i, q_set2_1r, q_set2_1n, q_set2_s, h43, hs, d1, v16, d2, v15, c0, hnf', km, b1, x1, q_aR, w15', e1, if_true, if_false, zb_eq0, zb_eq1, zn_1, not_true_eq_false, not_false_eq_true, ite_true, ite_false, if_true, if_false, q_iret_0, q_iret_1, decide_true, decide_false, decide_not, zb_t, zb_f, z10, z01, cond_true, cond_false, Bool.and_true, Bool.true_and, Bool.and_false, Bool.false_and, Bool.not_true, Bool.not_false, true_and, and_true, false_and, and_false, true_or, or_true, false_or, or_false, Bool.true_eq_false, Bool.false_eq_true, eq_self, reduceCtorEq, Bool.or_true, Bool.true_or, Bool.or_false, Bool.false_or])
      | none =>
        rw [hb] at hnf
        have hnf' : fX12_nodeFor [.ref 0, .int (zn o)] R = some (.inl (some (.int (-1))), R) := hnf
        obtain ⟨S, e1, e2⟩ := r_preempts H hsn (A.1 71)
        refine ⟨S, false, ?_, rfl, e2⟩
        clear e2 hnf
        (simp only [e_X12_schedules, zo_iload, zo_lload, zo_aload, zo_istore, zo_lstore, zo_astore, zo_iinc, zo_pushI, zo_pushL, zo_null, zo_ii, zo_iid, zo_ll, zo_li, zo_lcmp, zo_i2l, zo_l2i, zo_dup, zo_dup2, zo_pop, zo_goto, zo_if, zo_icmp, zo_ifnull, zo_gets, zo_mm, zo_throw, zo_ret, zo_aret, zo_lret, q_iret_f, q_iret_1, q_iret_0, q_iret_b, q_c8_0, q_c8_1, q_c8_2, q_c8_3, q_c8_4, q_set_0, q_set_1i, q_set_1r, q_set_1n, q_set_1N, q_set_s, q_set_1j, q_bk_v, q_bk_n, q_if, zb_ite, cond_true, cond_false, List.getElem?_cons_zero, List.getElem?_cons_succ, Nat.reduceAdd, q_set_1l, q_set2_0, q_set2_1i, q_set2_1r, q_set2_1n, q_set2_s, h43, hs, d1, v16, d2, v15, c0, hnf', e1, if_true, if_false, zb_eq0, zb_eq1, zn_1, not_true_eq_false, not_false_eq_true, ite_true, ite_false, if_true, if_false, q_iret_0, q_iret_1, decide_true, decide_false, decide_not, zb_t, zb_f, z10, z01, cond_true, cond_false, Bool.and_true, Bool.true_and, Bool.and_false, Bool.false_and, Bool.not_true, Bool.not_false, true_and, and_true, false_and, and_false, true_or, or_true, false_or, or_false, Bool.true_eq_false, Bool.false_eq_true, eq_self, reduceCtorEq, Bool.or_true, Bool.true_or, Bool.or_false, Bool.false_or])
    · have c0 : (rd A 6 (zn o) 28 + 1 ≤ 0) = False := by
        obtain ⟨p, hp, p1, -⟩ := g.2.2.2.2.2.2.1.resolve_left d3
        have p1' : rd A 6 (zn o) 28 = zn p := p1
        rw [p1', zn_1]
        have := zn_le (a := p + 1) (b := 0) (by omega) (by decide)
        rw [show (zn 0 : Int32) = 0 from rfl] at this
        rw [this]; exact eq_false (by omega)
      rw [decide_eq_false d3, Bool.and_false, Bool.and_false, cond_false]
      have e : zz_ev tX12_schedules 0 [some (.ref 0), none] [] R = some (.inl (some (.int 1)), R) := by
        (simp only [e_X12_schedules, zo_iload, zo_lload, zo_aload, zo_istore, zo_lstore, zo_astore, zo_iinc, zo_pushI, zo_pushL, zo_null, zo_ii, zo_iid, zo_ll, zo_li, zo_lcmp, zo_i2l, zo_l2i, zo_dup, zo_dup2, zo_pop, zo_goto, zo_if, zo_icmp, zo_ifnull, zo_gets, zo_mm, zo_throw, zo_ret, zo_aret, zo_lret, q_iret_f, q_iret_1, q_iret_0, q_iret_b, q_c8_0, q_c8_1, q_c8_2, q_c8_3, q_c8_4, q_set_0, q_set_1i, q_set_1r, q_set_1n, q_set_1N, q_set_s, q_set_1j, q_bk_v, q_bk_n, q_if, zb_ite, cond_true, cond_false, List.getElem?_cons_zero, List.getElem?_cons_succ, Nat.reduceAdd, q_set_1l, q_set2_0, q_set2_1i, q_set2_1r, q_set2_1n, q_set2_s, h43, hs, d1, v16, d2, v15, c0, if_true, if_false, zb_eq0, zb_eq1, zn_1, not_true_eq_false, not_false_eq_true, ite_true, ite_false, if_true, if_false, q_iret_0, q_iret_1, decide_true, decide_false, decide_not, zb_t, zb_f, z10, z01, cond_true, cond_false, Bool.and_true, Bool.true_and, Bool.and_false, Bool.false_and, Bool.not_true, Bool.not_false, true_and, and_true, false_and, and_false, true_or, or_true, false_or, or_false, Bool.true_eq_false, Bool.false_eq_true, eq_self, reduceCtorEq, Bool.or_true, Bool.true_or, Bool.or_false, Bool.false_or])
      rw [e]
      exact srv_no H
  · rw [decide_eq_false d2, Bool.false_and, Bool.and_false, cond_false]
    have e : zz_ev tX12_schedules 0 [some (.ref 0), none] [] R = some (.inl (some (.int 1)), R) := by
      (simp only [e_X12_schedules, zo_iload, zo_lload, zo_aload, zo_istore, zo_lstore, zo_astore, zo_iinc, zo_pushI, zo_pushL, zo_null, zo_ii, zo_iid, zo_ll, zo_li, zo_lcmp, zo_i2l, zo_l2i, zo_dup, zo_dup2, zo_pop, zo_goto, zo_if, zo_icmp, zo_ifnull, zo_gets, zo_mm, zo_throw, zo_ret, zo_aret, zo_lret, q_iret_f, q_iret_1, q_iret_0, q_iret_b, q_c8_0, q_c8_1, q_c8_2, q_c8_3, q_c8_4, q_set_0, q_set_1i, q_set_1r, q_set_1n, q_set_1N, q_set_s, q_set_1j, q_bk_v, q_bk_n, q_if, zb_ite, cond_true, cond_false, List.getElem?_cons_zero, List.getElem?_cons_succ, Nat.reduceAdd, q_set_1l, q_set2_0, q_set2_1i, q_set2_1r, q_set2_1n, q_set2_s, h43, hs, d1, v16, d2, if_true, if_false, zb_eq0, zb_eq1, zn_1, not_true_eq_false, not_false_eq_true, ite_true, ite_false, if_true, if_false, q_iret_0, q_iret_1, decide_true, decide_false, decide_not, zb_t, zb_f, z10, z01, cond_true, cond_false, Bool.and_true, Bool.true_and, Bool.and_false, Bool.false_and, Bool.not_true, Bool.not_false, true_and, and_true, false_and, and_false, true_or, or_true, false_or, or_false, Bool.true_eq_false, Bool.false_eq_true, eq_self, reduceCtorEq, Bool.or_true, Bool.true_or, Bool.or_false, Bool.false_or])
    rw [e]
    exact srv_no H
end
end

section
/-! the controllers: what they see -/
def zSame (c : Nat) (A B : zzMd) : Prop := ∀ a b, a ≠ 3 + c ∨ b ≠ 11 → a ≠ 22 + 6 * c → a ≠ 23 + 6 * c → B.1 a b = A.1 a b
theorem zSame_refl (c : Nat) (A : zzMd) : zSame c A A := fun _ _ _ _ _ => rfl
theorem zSame_trans {c : Nat} {A B C : zzMd} (h : zSame c A B) (h2 : zSame c B C) : zSame c A C := fun a b h3 h4 h5 => (h2 a b h3 h4 h5).trans (h a b h3 h4 h5)
theorem zSame_Enq (A : zzMd) (c : Nat) (x : Int32) : zSame c A (aEnq A c x) := fun _ _ h1 h2 h3 => Enq_o x h1 h2 h3
theorem nv_S {c : Nat} {A B : zzMd} (h : zSame c A B) : nv B (3 + c) = nv A (3 + c) := by unfold nv; rw [h (3 + c) 2 (Or.inr (by decide)) (by omega) (by omega)]
theorem rd_S {c : Nat} {A B : zzMd} (hc : c < 8) (h : zSame c A B) (x s : Int32) : rd B (3 + c) x s = rd A (3 + c) x s := by
  unfold rd
  rw [zcL hc, h (21 + 6 * c) _ (Or.inl (by omega)) (by omega) (by omega), h 14 _ (Or.inl (by omega)) (by omega) (by omega)]
theorem rd_S' {c : Nat} {A B : zzMd} (hc : c < 8) (h : zSame c A B) : rd B (3 + c) = rd A (3 + c) := funext fun x => funext fun s => rd_S hc h x s
noncomputable def eqs (P : zzMd → Nat → Bool) (c n : Nat) (A : zzMd) : zzMd := zfold n (fun i D => bif P D i then aEnq D c (zn i) else D) A
theorem eqs_s (P : zzMd → Nat → Bool) (c n : Nat) (A : zzMd) : eqs P c (n + 1) A = bif P (eqs P c n A) n then aEnq (eqs P c n A) c (zn n) else eqs P c n A := rfl
theorem eqs_inv {P : zzMd → Nat → Bool} {c : Nat} (hc : c < 8) {A : zzMd} (W : zIC A) : ∀ n, zIC (eqs P c n A) ∧ zSame c A (eqs P c n A)
  | 0 => ⟨W, zSame_refl c A⟩
  | n + 1 => by
    obtain ⟨h1, h2⟩ := eqs_inv hc W n
    rw [eqs_s]
    cases P (eqs P c n A) n
    · exact ⟨h1, h2⟩
    · exact ⟨zIC_Enq hc _ h1, zSame_trans h2 (zSame_Enq _ _ _)⟩
/-- a POD that waits for a place -/
def wops (A : zzMd) (v : Nat) (x : Int32) : Bool := stay A v x 2 && (decide (rd A v x 29 = 0) && decide (rd A v x 28 = -1))
theorem sp_isWithoutPlace {M : zzMd} (W : zVw M 6 (nv M 6)) (x : Int32) : fX8_isWithoutPlace [.ref 6, .int x] M = some (.inl (some (.int (zb (wops M 6 x)))), M) := by
  have hr := fun s => sp_read' W x s
  have hs := fun k => sp_isStaying W x k
  rw [s_X8_isWithoutPlace]
  unfold wops
  cases c1 : stay M 6 x 2 <;> by_cases c2 : rd M 6 x 29 = 0 <;> by_cases c3 : rd M 6 x 28 = -1 <;> (simp only [e_X8_isWithoutPlace, zo_iload, zo_lload, zo_aload, zo_istore, zo_lstore, zo_astore, zo_iinc, zo_pushI, zo_pushL, zo_null, zo_ii, zo_iid, zo_ll, zo_li, zo_lcmp, zo_i2l, zo_l2i, zo_dup, zo_dup2, zo_pop, zo_goto, zo_if, zo_icmp, zo_ifnull, zo_gets, zo_mm, zo_throw, zo_ret, zo_aret, zo_lret, q_iret_f, q_iret_1, q_iret_0, q_iret_b, q_c8_0, q_c8_1, q_c8_2, q_c8_3, q_c8_4, q_set_0, q_set_1i, q_set_1r, q_set_1n, q_set_1N, q_set_s, q_set_1j, q_bk_v, q_bk_n, q_if, zb_ite, cond_true, cond_false, List.getElem?_cons_zero, List.getElem?_cons_succ, Nat.reduceAdd, hr, hs, c1, c2, c3, if_true, if_false, zb_eq0, zb_eq1, zn_1, not_true_eq_false, not_false_eq_true, ite_true, ite_false, if_true, if_false, q_iret_0, q_iret_1, decide_true, decide_false, decide_not, zb_t, zb_f, z10, z01, cond_true, cond_false, Bool.and_true, Bool.true_and, Bool.and_false, Bool.false_and, Bool.not_true, Bool.not_false, true_and, and_true, false_and, and_false, true_or, or_true, false_or, or_false, Bool.true_eq_false, Bool.false_eq_true, eq_self, reduceCtorEq])
noncomputable def aQ0 (A : zzMd) (x w : Int32) : zzMd :=
  bif decide (rd A 3 x 23 = 2 ∧ rd A 3 w 23 = 1) then aEnq (bif decide (rd A 3 x 23 = 1) then aEnq A 0 w else A) 0 (rd A 3 w 24) else bif decide (rd A 3 x 23 = 1) then aEnq A 0 w else A
theorem sp_qo0 {M : zzMd} (W : zIC M) (x w : Int32) : fX3_queueOthers [.ref 3, .int x, .int w] M = some (.inl none, aQ0 M x w) := by
  have hc : 0 < 8 := by decide
  have hr := fun x s => sp_read' (zIC_W (zcV hc) W) x s
  have he := sp_enqueue W hc w
  have W2 := zIC_Enq hc w W
  have hr2 := fun x s => sp_read' (zIC_W (zcV hc) W2) x s
  have hS := rd_S' hc (zSame_Enq M 0 w)
  have he2 := sp_enqueue W2 hc (rd M (3 + 0) w 24)
  have he3 := sp_enqueue W hc (rd M (3 + 0) w 24)
  rw [hS] at hr2
  simp only [Nat.reduceAdd] at hr he hr2 he2 he3
  rw [s_X3_queueOthers]
  unfold aQ0
  by_cases c1 : rd M 3 x 23 = 1
  · have c2 : ¬ rd M 3 x 23 = 2 := by rw [c1]; decide
    (simp only [e_X3_queueOthers, zo_iload, zo_lload, zo_aload, zo_istore, zo_lstore, zo_astore, zo_iinc, zo_pushI, zo_pushL, zo_null, zo_ii, zo_iid, zo_ll, zo_li, zo_lcmp, zo_i2l, zo_l2i, zo_dup, zo_dup2, zo_pop, zo_goto, zo_if, zo_icmp, zo_ifnull, zo_gets, zo_mm, zo_throw, zo_ret, zo_aret, zo_lret, q_iret_f, q_iret_1, q_iret_0, q_iret_b, q_c8_0, q_c8_1, q_c8_2, q_c8_3, q_c8_4, q_set_0, q_set_1i, q_set_1r, q_set_1n, q_set_1N, q_set_s, q_set_1j, q_bk_v, q_bk_n, q_if, zb_ite, cond_true, cond_false, List.getElem?_cons_zero, List.getElem?_cons_succ, Nat.reduceAdd, hr, hr2, he, c1, if_true, if_false, zb_eq0, zb_eq1, zn_1, not_true_eq_false, not_false_eq_true, ite_true, ite_false, if_true, if_false, q_iret_0, q_iret_1, decide_true, decide_false, decide_not, zb_t, zb_f, z10, z01, cond_true, cond_false, Bool.and_true, Bool.true_and, Bool.and_false, Bool.false_and, Bool.not_true, Bool.not_false, true_and, and_true, false_and, and_false, true_or, or_true, false_or, or_false, Bool.true_eq_false, Bool.false_eq_true, eq_self, reduceCtorEq])
    have c3 : ¬ (1 : Int32) = 2 := by decide
    simp only [c3, not_true_eq_false, not_false_eq_true, ite_true, ite_false, if_true, if_false, q_iret_0, q_iret_1, decide_true, decide_false, decide_not, zb_t, zb_f, z10, z01, cond_true, cond_false, Bool.and_true, Bool.true_and, Bool.and_false, Bool.false_and, Bool.not_true, Bool.not_false, true_and, and_true, false_and, and_false, true_or, or_true, false_or, or_false, Bool.true_eq_false, Bool.false_eq_true, eq_self, reduceCtorEq]
  · have c4 : ¬ (2 : Int32) = 1 := by decide
    by_cases c2 : rd M 3 x 23 = 2 <;> by_cases c3 : rd M 3 w 23 = 1 <;> (simp only [e_X3_queueOthers, zo_iload, zo_lload, zo_aload, zo_istore, zo_lstore, zo_astore, zo_iinc, zo_pushI, zo_pushL, zo_null, zo_ii, zo_iid, zo_ll, zo_li, zo_lcmp, zo_i2l, zo_l2i, zo_dup, zo_dup2, zo_pop, zo_goto, zo_if, zo_icmp, zo_ifnull, zo_gets, zo_mm, zo_throw, zo_ret, zo_aret, zo_lret, q_iret_f, q_iret_1, q_iret_0, q_iret_b, q_c8_0, q_c8_1, q_c8_2, q_c8_3, q_c8_4, q_set_0, q_set_1i, q_set_1r, q_set_1n, q_set_1N, q_set_s, q_set_1j, q_bk_v, q_bk_n, q_if, zb_ite, cond_true, cond_false, List.getElem?_cons_zero, List.getElem?_cons_succ, Nat.reduceAdd, hr, c1, c2, c3, c4, he3, if_true, if_false, zb_eq0, zb_eq1, zn_1, not_true_eq_false, not_false_eq_true, ite_true, ite_false, if_true, if_false, q_iret_0, q_iret_1, decide_true, decide_false, decide_not, zb_t, zb_f, z10, z01, cond_true, cond_false, Bool.and_true, Bool.true_and, Bool.and_false, Bool.false_and, Bool.not_true, Bool.not_false, true_and, and_true, false_and, and_false, true_or, or_true, false_or, or_false, Bool.true_eq_false, Bool.false_eq_true, eq_self, reduceCtorEq])
noncomputable def aQ1 (A : zzMd) (c : Nat) (x w : Int32) : zzMd := bif decide (rd A (3 + c) x 23 = 2 ∧ rd A (3 + c) w 23 = A.1 (3 + c) 5) then aEnq A c w else A
theorem sp_qo1 {M : zzMd} (W : zIC M) {c : Nat} (hc2 : c = 1 ∨ c = 2) (x w : Int32) : fX4_queueOthers [.ref (3 + c), .int x, .int w] M = some (.inl none, aQ1 M c x w) := by
  have hc : c < 8 := by omega
  have hr := fun x s => sp_read' (zIC_W (zcV hc) W) x s
  have he := sp_enqueue W hc w
  rw [s_X4_queueOthers]
  unfold aQ1
  by_cases c1 : rd M (3 + c) x 23 = 2 <;> by_cases c2 : rd M (3 + c) w 23 = M.1 (3 + c) 5 <;> rcases hc2 with rfl | rfl <;> (simp only [Nat.reduceAdd, Nat.reduceMul, Nat.mul_zero, Nat.add_zero] at *; simp only [e_X4_queueOthers, zo_iload, zo_lload, zo_aload, zo_istore, zo_lstore, zo_astore, zo_iinc, zo_pushI, zo_pushL, zo_null, zo_ii, zo_iid, zo_ll, zo_li, zo_lcmp, zo_i2l, zo_l2i, zo_dup, zo_dup2, zo_pop, zo_goto, zo_if, zo_icmp, zo_ifnull, zo_gets, zo_mm, zo_throw, zo_ret, zo_aret, zo_lret, q_iret_f, q_iret_1, q_iret_0, q_iret_b, q_c8_0, q_c8_1, q_c8_2, q_c8_3, q_c8_4, q_set_0, q_set_1i, q_set_1r, q_set_1n, q_set_1N, q_set_s, q_set_1j, q_bk_v, q_bk_n, q_if, zb_ite, cond_true, cond_false, List.getElem?_cons_zero, List.getElem?_cons_succ, Nat.reduceAdd, hr, he, c1, c2, if_true, if_false, zb_eq0, zb_eq1, zn_1, not_true_eq_false, not_false_eq_true, ite_true, ite_false, if_true, if_false, q_iret_0, q_iret_1, decide_true, decide_false, decide_not, zb_t, zb_f, z10, z01, cond_true, cond_false, Bool.and_true, Bool.true_and, Bool.and_false, Bool.false_and, Bool.not_true, Bool.not_false, true_and, and_true, false_and, and_false, true_or, or_true, false_or, or_false, Bool.true_eq_false, Bool.false_eq_true, eq_self, reduceCtorEq])
/-- a loop that lets keys come -/
theorem eqs_loop {α : Type} {P : zzMd → Nat → Bool} {c : Nat} (hc : c < 8) {M : zzMd} (W : zIC M) {E : Nat → zzMd → α} (n : Nat)
    (h : ∀ i, i < n → ∀ D, zIC D → zSame c M D → E i D = E (i + 1) (bif P D i then aEnq D c (zn i) else D)) : E 0 M = E n (eqs P c n M) :=
  zl_go (E := fun i => E i (eqs P c i M)) n fun i hi => by
    obtain ⟨h1, h2⟩ := eqs_inv (P := P) hc W i
    exact h i hi _ h1 h2
noncomputable def aQ3 (A : zzMd) (x : Int32) : zzMd := bif decide (rd A 6 x 23 = 4) then eqs (fun D i => wops D 6 (zn i)) 3 (nv A 6) A else A
theorem zk_inS {c n i : Nat} {M D : zzMd} (W : zIC M) (hc : c < 8) (S : zSame c M D) (hi : i < nv M (3 + c)) : D.1 (3 + c) 2 = zn (nv M (3 + c)) ∧ (zn (nv M (3 + c)) ≤ zn i) = False := by
  obtain ⟨⟨-, ⟨k1, k2⟩, -⟩, -⟩ := W.2.2 c hc
  refine ⟨?_, zk_in hi k2⟩
  rw [S (3 + c) 2 (Or.inr (by decide)) (by omega) (by omega)]
  exact k1
theorem sp_qo3 {M : zzMd} (W : zIC M) (x w : Int32) : fX8_queueOthers [.ref 6, .int x, .int w] M = some (.inl none, aQ3 M x) := by
  have hc : 3 < 8 := by decide
  have hr := fun x s => sp_read' (zIC_W (zcV hc) W) x s
  obtain ⟨⟨-, ⟨k1, k2⟩, -⟩, -⟩ := W.2.2 3 hc
  have st : fX8_queueOthers [.ref 6, .int x, .int w] M = zz_ev tX8_queueOthers 2 [some (.ref 6), some (.int x), some (.int w), some (.int (zn 0))] [] M := by
    rw [s_X8_queueOthers]
    (simp only [e_X8_queueOthers, zo_iload, zo_lload, zo_aload, zo_istore, zo_lstore, zo_astore, zo_iinc, zo_pushI, zo_pushL, zo_null, zo_ii, zo_iid, zo_ll, zo_li, zo_lcmp, zo_i2l, zo_l2i, zo_dup, zo_dup2, zo_pop, zo_goto, zo_if, zo_icmp, zo_ifnull, zo_gets, zo_mm, zo_throw, zo_ret, zo_aret, zo_lret, q_iret_f, q_iret_1, q_iret_0, q_iret_b, q_c8_0, q_c8_1, q_c8_2, q_c8_3, q_c8_4, q_set_0, q_set_1i, q_set_1r, q_set_1n, q_set_1N, q_set_s, q_set_1j, q_bk_v, q_bk_n, q_if, zb_ite, cond_true, cond_false, List.getElem?_cons_zero, List.getElem?_cons_succ, Nat.reduceAdd, if_true, if_false, zb_eq0, zb_eq1, zn_1, not_true_eq_false, not_false_eq_true, ite_true, ite_false, if_true, if_false, q_iret_0, q_iret_1, decide_true, decide_false, decide_not, zb_t, zb_f, z10, z01, cond_true, cond_false, Bool.and_true, Bool.true_and, Bool.and_false, Bool.false_and, Bool.not_true, Bool.not_false, true_and, and_true, false_and, and_false, true_or, or_true, false_or, or_false, Bool.true_eq_false, Bool.false_eq_true, eq_self, reduceCtorEq])
    rfl
  rw [st]
  unfold aQ3
  by_cases c1 : rd M 6 x 23 = 4
  · rw [decide_eq_true c1, cond_true]
    have lp := eqs_loop (P := fun D i => wops D 6 (zn i)) (c := 3) hc W (E := fun i D => zz_ev tX8_queueOthers 2 [some (.ref 6), some (.int x), some (.int w), some (.int (zn i))] [] D) (nv M 6) (fun i hi D WD S => by
      obtain ⟨a1, a2⟩ := zk_inS (n := 0) W hc S hi
      have hr := fun x s => sp_read' (zIC_W (zcV hc) WD) x s
      have hw := sp_isWithoutPlace (zIC_W (zcV hc) WD) (zn i)
      have he := sp_enqueue WD hc (zn i)
      rw [rd_S' hc S] at hr
      simp only [Nat.reduceAdd] at a1 a2 hr he
      cases c2 : wops D 6 (zn i) <;> (rw [e_X8_queueOthers_2]; simp only [e_X8_queueOthers, zo_iload, zo_lload, zo_aload, zo_istore, zo_lstore, zo_astore, zo_iinc, zo_pushI, zo_pushL, zo_null, zo_ii, zo_iid, zo_ll, zo_li, zo_lcmp, zo_i2l, zo_l2i, zo_dup, zo_dup2, zo_pop, zo_goto, zo_if, zo_icmp, zo_ifnull, zo_gets, zo_mm, zo_throw, zo_ret, zo_aret, zo_lret, q_iret_f, q_iret_1, q_iret_0, q_iret_b, q_c8_0, q_c8_1, q_c8_2, q_c8_3, q_c8_4, q_set_0, q_set_1i, q_set_1r, q_set_1n, q_set_1N, q_set_s, q_set_1j, q_bk_v, q_bk_n, q_if, zb_ite, cond_true, cond_false, List.getElem?_cons_zero, List.getElem?_cons_succ, Nat.reduceAdd, a1, a2, hr, hw, he, c1, c2, if_true, if_false, zb_eq0, zb_eq1, zn_1, not_true_eq_false, not_false_eq_true, ite_true, ite_false, if_true, if_false, q_iret_0, q_iret_1, decide_true, decide_false, decide_not, zb_t, zb_f, z10, z01, cond_true, cond_false, Bool.and_true, Bool.true_and, Bool.and_false, Bool.false_and, Bool.not_true, Bool.not_false, true_and, and_true, false_and, and_false, true_or, or_true, false_or, or_false, Bool.true_eq_false, Bool.false_eq_true, eq_self, reduceCtorEq]))
    rw [lp]
    obtain ⟨h1, h2⟩ := eqs_inv (P := fun D i => wops D 6 (zn i)) hc W (nv M 6)
    have a1 : (eqs (fun D i => wops D 6 (zn i)) 3 (nv M 6) M).1 6 2 = zn (nv M 6) := (h2 6 2 (Or.inr (by decide)) (by decide) (by decide)).trans k1
    have a2 := zk_out k2
    simp only [Nat.reduceAdd] at a2
    (rw [e_X8_queueOthers_2]; simp only [e_X8_queueOthers, zo_iload, zo_lload, zo_aload, zo_istore, zo_lstore, zo_astore, zo_iinc, zo_pushI, zo_pushL, zo_null, zo_ii, zo_iid, zo_ll, zo_li, zo_lcmp, zo_i2l, zo_l2i, zo_dup, zo_dup2, zo_pop, zo_goto, zo_if, zo_icmp, zo_ifnull, zo_gets, zo_mm, zo_throw, zo_ret, zo_aret, zo_lret, q_iret_f, q_iret_1, q_iret_0, q_iret_b, q_c8_0, q_c8_1, q_c8_2, q_c8_3, q_c8_4, q_set_0, q_set_1i, q_set_1r, q_set_1n, q_set_1N, q_set_s, q_set_1j, q_bk_v, q_bk_n, q_if, zb_ite, cond_true, cond_false, List.getElem?_cons_zero, List.getElem?_cons_succ, Nat.reduceAdd, a1, a2, if_true, if_false, zb_eq0, zb_eq1, zn_1, not_true_eq_false, not_false_eq_true, ite_true, ite_false, if_true, if_false, q_iret_0, q_iret_1, decide_true, decide_false, decide_not, zb_t, zb_f, z10, z01, cond_true, cond_false, Bool.and_true, Bool.true_and, Bool.and_false, Bool.false_and, Bool.not_true, Bool.not_false, true_and, and_true, false_and, and_false, true_or, or_true, false_or, or_false, Bool.true_eq_false, Bool.false_eq_true, eq_self, reduceCtorEq])
  · rw [decide_eq_false c1, cond_false]
    by_cases c2 : zn (nv M 6) ≤ zn 0 <;> simp only [Nat.reduceAdd] at k1 hr <;> (rw [e_X8_queueOthers_2]; simp only [e_X8_queueOthers, zo_iload, zo_lload, zo_aload, zo_istore, zo_lstore, zo_astore, zo_iinc, zo_pushI, zo_pushL, zo_null, zo_ii, zo_iid, zo_ll, zo_li, zo_lcmp, zo_i2l, zo_l2i, zo_dup, zo_dup2, zo_pop, zo_goto, zo_if, zo_icmp, zo_ifnull, zo_gets, zo_mm, zo_throw, zo_ret, zo_aret, zo_lret, q_iret_f, q_iret_1, q_iret_0, q_iret_b, q_c8_0, q_c8_1, q_c8_2, q_c8_3, q_c8_4, q_set_0, q_set_1i, q_set_1r, q_set_1n, q_set_1N, q_set_s, q_set_1j, q_bk_v, q_bk_n, q_if, zb_ite, cond_true, cond_false, List.getElem?_cons_zero, List.getElem?_cons_succ, Nat.reduceAdd, k1, c2, hr, c1, if_true, if_false, zb_eq0, zb_eq1, zn_1, not_true_eq_false, not_false_eq_true, ite_true, ite_false, if_true, if_false, q_iret_0, q_iret_1, decide_true, decide_false, decide_not, zb_t, zb_f, z10, z01, cond_true, cond_false, Bool.and_true, Bool.true_and, Bool.and_false, Bool.false_and, Bool.not_true, Bool.not_false, true_and, and_true, false_and, and_false, true_or, or_true, false_or, or_false, Bool.true_eq_false, Bool.false_eq_true, eq_self, reduceCtorEq])
noncomputable def aQ4 (A : zzMd) (x : Int32) : zzMd := bif decide (rd A 7 x 23 = 4) then eqs (fun D i => decide (rd D 7 (zn i) 23 = 2 ∧ rd D 7 (zn i) 28 = x)) 4 (nv A 7) A else A
theorem sp_qo4 {M : zzMd} (W : zIC M) (x w : Int32) : fX6_queueOthers [.ref 7, .int x, .int w] M = some (.inl none, aQ4 M x) := by
  have hc : 4 < 8 := by decide
  have hr := fun x s => sp_read' (zIC_W (zcV hc) W) x s
  obtain ⟨⟨-, ⟨k1, k2⟩, -⟩, -⟩ := W.2.2 4 hc
  have st : fX6_queueOthers [.ref 7, .int x, .int w] M = zz_ev tX6_queueOthers 2 [some (.ref 7), some (.int x), some (.int w), some (.int (zn 0))] [] M := by
    rw [s_X6_queueOthers]
    (simp only [e_X6_queueOthers, zo_iload, zo_lload, zo_aload, zo_istore, zo_lstore, zo_astore, zo_iinc, zo_pushI, zo_pushL, zo_null, zo_ii, zo_iid, zo_ll, zo_li, zo_lcmp, zo_i2l, zo_l2i, zo_dup, zo_dup2, zo_pop, zo_goto, zo_if, zo_icmp, zo_ifnull, zo_gets, zo_mm, zo_throw, zo_ret, zo_aret, zo_lret, q_iret_f, q_iret_1, q_iret_0, q_iret_b, q_c8_0, q_c8_1, q_c8_2, q_c8_3, q_c8_4, q_set_0, q_set_1i, q_set_1r, q_set_1n, q_set_1N, q_set_s, q_set_1j, q_bk_v, q_bk_n, q_if, zb_ite, cond_true, cond_false, List.getElem?_cons_zero, List.getElem?_cons_succ, Nat.reduceAdd, if_true, if_false, zb_eq0, zb_eq1, zn_1, not_true_eq_false, not_false_eq_true, ite_true, ite_false, if_true, if_false, q_iret_0, q_iret_1, decide_true, decide_false, decide_not, zb_t, zb_f, z10, z01, cond_true, cond_false, Bool.and_true, Bool.true_and, Bool.and_false, Bool.false_and, Bool.not_true, Bool.not_false, true_and, and_true, false_and, and_false, true_or, or_true, false_or, or_false, Bool.true_eq_false, Bool.false_eq_true, eq_self, reduceCtorEq])
    rfl
  rw [st]
  unfold aQ4
  by_cases c1 : rd M 7 x 23 = 4
  · rw [decide_eq_true c1, cond_true]
    have lp := eqs_loop (P := fun D i => decide (rd D 7 (zn i) 23 = 2 ∧ rd D 7 (zn i) 28 = x)) (c := 4) hc W (E := fun i D => zz_ev tX6_queueOthers 2 [some (.ref 7), some (.int x), some (.int w), some (.int (zn i))] [] D) (nv M 7) (fun i hi D WD S => by
      obtain ⟨a1, a2⟩ := zk_inS (n := 0) W hc S hi
      have hr := fun x s => sp_read' (zIC_W (zcV hc) WD) x s
      have he := sp_enqueue WD hc (zn i)
      have hS := rd_S' hc S
      rw [hS] at hr
      simp only [Nat.reduceAdd] at a1 a2 hr he hS
      rw [hS]
      by_cases c2 : rd M 7 (zn i) 23 = 2 <;> by_cases c3 : rd M 7 (zn i) 28 = x <;> (rw [e_X6_queueOthers_2]; simp only [e_X6_queueOthers, zo_iload, zo_lload, zo_aload, zo_istore, zo_lstore, zo_astore, zo_iinc, zo_pushI, zo_pushL, zo_null, zo_ii, zo_iid, zo_ll, zo_li, zo_lcmp, zo_i2l, zo_l2i, zo_dup, zo_dup2, zo_pop, zo_goto, zo_if, zo_icmp, zo_ifnull, zo_gets, zo_mm, zo_throw, zo_ret, zo_aret, zo_lret, q_iret_f, q_iret_1, q_iret_0, q_iret_b, q_c8_0, q_c8_1, q_c8_2, q_c8_3, q_c8_4, q_set_0, q_set_1i, q_set_1r, q_set_1n, q_set_1N, q_set_s, q_set_1j, q_bk_v, q_bk_n, q_if, zb_ite, cond_true, cond_false, List.getElem?_cons_zero, List.getElem?_cons_succ, Nat.reduceAdd, a1, a2, hr, he, c1, c2, c3, if_true, if_false, zb_eq0, zb_eq1, zn_1, not_true_eq_false, not_false_eq_true, ite_true, ite_false, if_true, if_false, q_iret_0, q_iret_1, decide_true, decide_false, decide_not, zb_t, zb_f, z10, z01, cond_true, cond_false, Bool.and_true, Bool.true_and, Bool.and_false, Bool.false_and, Bool.not_true, Bool.not_false, true_and, and_true, false_and, and_false, true_or, or_true, false_or, or_false, Bool.true_eq_false, Bool.false_eq_true, eq_self, reduceCtorEq]))
    rw [lp]
    obtain ⟨h1, h2⟩ := eqs_inv (P := fun D i => decide (rd D 7 (zn i) 23 = 2 ∧ rd D 7 (zn i) 28 = x)) hc W (nv M 7)
    have a1 : (eqs (fun D i => decide (rd D 7 (zn i) 23 = 2 ∧ rd D 7 (zn i) 28 = x)) 4 (nv M 7) M).1 7 2 = zn (nv M 7) := (h2 7 2 (Or.inr (by decide)) (by decide) (by decide)).trans k1
    have a2 := zk_out k2
    simp only [Nat.reduceAdd] at a2
    (rw [e_X6_queueOthers_2]; simp only [e_X6_queueOthers, zo_iload, zo_lload, zo_aload, zo_istore, zo_lstore, zo_astore, zo_iinc, zo_pushI, zo_pushL, zo_null, zo_ii, zo_iid, zo_ll, zo_li, zo_lcmp, zo_i2l, zo_l2i, zo_dup, zo_dup2, zo_pop, zo_goto, zo_if, zo_icmp, zo_ifnull, zo_gets, zo_mm, zo_throw, zo_ret, zo_aret, zo_lret, q_iret_f, q_iret_1, q_iret_0, q_iret_b, q_c8_0, q_c8_1, q_c8_2, q_c8_3, q_c8_4, q_set_0, q_set_1i, q_set_1r, q_set_1n, q_set_1N, q_set_s, q_set_1j, q_bk_v, q_bk_n, q_if, zb_ite, cond_true, cond_false, List.getElem?_cons_zero, List.getElem?_cons_succ, Nat.reduceAdd, a1, a2, if_true, if_false, zb_eq0, zb_eq1, zn_1, not_true_eq_false, not_false_eq_true, ite_true, ite_false, if_true, if_false, q_iret_0, q_iret_1, decide_true, decide_false, decide_not, zb_t, zb_f, z10, z01, cond_true, cond_false, Bool.and_true, Bool.true_and, Bool.and_false, Bool.false_and, Bool.not_true, Bool.not_false, true_and, and_true, false_and, and_false, true_or, or_true, false_or, or_false, Bool.true_eq_false, Bool.false_eq_true, eq_self, reduceCtorEq])
  · rw [decide_eq_false c1, cond_false]
    by_cases c2 : zn (nv M 7) ≤ zn 0 <;> simp only [Nat.reduceAdd] at k1 hr <;> (rw [e_X6_queueOthers_2]; simp only [e_X6_queueOthers, zo_iload, zo_lload, zo_aload, zo_istore, zo_lstore, zo_astore, zo_iinc, zo_pushI, zo_pushL, zo_null, zo_ii, zo_iid, zo_ll, zo_li, zo_lcmp, zo_i2l, zo_l2i, zo_dup, zo_dup2, zo_pop, zo_goto, zo_if, zo_icmp, zo_ifnull, zo_gets, zo_mm, zo_throw, zo_ret, zo_aret, zo_lret, q_iret_f, q_iret_1, q_iret_0, q_iret_b, q_c8_0, q_c8_1, q_c8_2, q_c8_3, q_c8_4, q_set_0, q_set_1i, q_set_1r, q_set_1n, q_set_1N, q_set_s, q_set_1j, q_bk_v, q_bk_n, q_if, zb_ite, cond_true, cond_false, List.getElem?_cons_zero, List.getElem?_cons_succ, Nat.reduceAdd, k1, c2, hr, c1, if_true, if_false, zb_eq0, zb_eq1, zn_1, not_true_eq_false, not_false_eq_true, ite_true, ite_false, if_true, if_false, q_iret_0, q_iret_1, decide_true, decide_false, decide_not, zb_t, zb_f, z10, z01, cond_true, cond_false, Bool.and_true, Bool.true_and, Bool.and_false, Bool.false_and, Bool.not_true, Bool.not_false, true_and, and_true, false_and, and_false, true_or, or_true, false_or, or_false, Bool.true_eq_false, Bool.false_eq_true, eq_self, reduceCtorEq])
noncomputable def aQ5 (A : zzMd) (x w : Int32) : zzMd := eqs (fun D i => decide (rd D 8 (zn i) 24 = x)) 5 (nv A 8) (aEnq A 5 w)
theorem sp_qo5 {M : zzMd} (W : zIC M) (x w : Int32) : fX1_queueOthers [.ref 8, .int x, .int w] M = some (.inl none, aQ5 M x w) := by
  have hc : 5 < 8 := by decide
  have he0 := sp_enqueue W hc w
  have W2 := zIC_Enq hc w W
  have hn : nv (aEnq M 5 w) 8 = nv M 8 := nv_S (c := 5) (zSame_Enq M 5 w)
  have st : fX1_queueOthers [.ref 8, .int x, .int w] M = zz_ev tX1_queueOthers 7 [some (.ref 8), some (.int x), some (.int w), some (.int (zn 0))] [] (aEnq M 5 w) := by
    rw [s_X1_queueOthers]
    simp only [Nat.reduceAdd] at he0
    (simp only [e_X1_queueOthers, zo_iload, zo_lload, zo_aload, zo_istore, zo_lstore, zo_astore, zo_iinc, zo_pushI, zo_pushL, zo_null, zo_ii, zo_iid, zo_ll, zo_li, zo_lcmp, zo_i2l, zo_l2i, zo_dup, zo_dup2, zo_pop, zo_goto, zo_if, zo_icmp, zo_ifnull, zo_gets, zo_mm, zo_throw, zo_ret, zo_aret, zo_lret, q_iret_f, q_iret_1, q_iret_0, q_iret_b, q_c8_0, q_c8_1, q_c8_2, q_c8_3, q_c8_4, q_set_0, q_set_1i, q_set_1r, q_set_1n, q_set_1N, q_set_s, q_set_1j, q_bk_v, q_bk_n, q_if, zb_ite, cond_true, cond_false, List.getElem?_cons_zero, List.getElem?_cons_succ, Nat.reduceAdd, he0, if_true, if_false, zb_eq0, zb_eq1, zn_1, not_true_eq_false, not_false_eq_true, ite_true, ite_false, if_true, if_false, q_iret_0, q_iret_1, decide_true, decide_false, decide_not, zb_t, zb_f, z10, z01, cond_true, cond_false, Bool.and_true, Bool.true_and, Bool.and_false, Bool.false_and, Bool.not_true, Bool.not_false, true_and, and_true, false_and, and_false, true_or, or_true, false_or, or_false, Bool.true_eq_false, Bool.false_eq_true, eq_self, reduceCtorEq])
    rfl
  rw [st]
  unfold aQ5
  rw [← hn]
  generalize aEnq M 5 w = M at W2
  obtain ⟨⟨-, ⟨k1, k2⟩, -⟩, -⟩ := W2.2.2 5 hc
  have lp := eqs_loop (P := fun D i => decide (rd D 8 (zn i) 24 = x)) (c := 5) hc W2 (E := fun i D => zz_ev tX1_queueOthers 7 [some (.ref 8), some (.int x), some (.int w), some (.int (zn i))] [] D) (nv M 8) (fun i hi D WD S => by
      obtain ⟨a1, a2⟩ := zk_inS (n := 0) W2 hc S hi
      have hr := fun x s => sp_read' (zIC_W (zcV hc) WD) x s
      have he := sp_enqueue WD hc (zn i)
      have hS := rd_S' hc S
      rw [hS] at hr
      simp only [Nat.reduceAdd] at a1 a2 hr he hS
      rw [hS]
      by_cases c2 : rd M 8 (zn i) 24 = x <;> (rw [e_X1_queueOthers_7]; simp only [e_X1_queueOthers, zo_iload, zo_lload, zo_aload, zo_istore, zo_lstore, zo_astore, zo_iinc, zo_pushI, zo_pushL, zo_null, zo_ii, zo_iid, zo_ll, zo_li, zo_lcmp, zo_i2l, zo_l2i, zo_dup, zo_dup2, zo_pop, zo_goto, zo_if, zo_icmp, zo_ifnull, zo_gets, zo_mm, zo_throw, zo_ret, zo_aret, zo_lret, q_iret_f, q_iret_1, q_iret_0, q_iret_b, q_c8_0, q_c8_1, q_c8_2, q_c8_3, q_c8_4, q_set_0, q_set_1i, q_set_1r, q_set_1n, q_set_1N, q_set_s, q_set_1j, q_bk_v, q_bk_n, q_if, zb_ite, cond_true, cond_false, List.getElem?_cons_zero, List.getElem?_cons_succ, Nat.reduceAdd, a1, a2, hr, he, c2, if_true, if_false, zb_eq0, zb_eq1, zn_1, not_true_eq_false, not_false_eq_true, ite_true, ite_false, if_true, if_false, q_iret_0, q_iret_1, decide_true, decide_false, decide_not, zb_t, zb_f, z10, z01, cond_true, cond_false, Bool.and_true, Bool.true_and, Bool.and_false, Bool.false_and, Bool.not_true, Bool.not_false, true_and, and_true, false_and, and_false, true_or, or_true, false_or, or_false, Bool.true_eq_false, Bool.false_eq_true, eq_self, reduceCtorEq]))
  rw [lp]
  obtain ⟨h1, h2⟩ := eqs_inv (P := fun D i => decide (rd D 8 (zn i) 24 = x)) hc W2 (nv M 8)
  have a1 : (eqs (fun D i => decide (rd D 8 (zn i) 24 = x)) 5 (nv M 8) M).1 8 2 = zn (nv M 8) := (h2 8 2 (Or.inr (by decide)) (by decide) (by decide)).trans k1
  have a2 := zk_out k2
  simp only [Nat.reduceAdd] at a2
  (rw [e_X1_queueOthers_7]; simp only [e_X1_queueOthers, zo_iload, zo_lload, zo_aload, zo_istore, zo_lstore, zo_astore, zo_iinc, zo_pushI, zo_pushL, zo_null, zo_ii, zo_iid, zo_ll, zo_li, zo_lcmp, zo_i2l, zo_l2i, zo_dup, zo_dup2, zo_pop, zo_goto, zo_if, zo_icmp, zo_ifnull, zo_gets, zo_mm, zo_throw, zo_ret, zo_aret, zo_lret, q_iret_f, q_iret_1, q_iret_0, q_iret_b, q_c8_0, q_c8_1, q_c8_2, q_c8_3, q_c8_4, q_set_0, q_set_1i, q_set_1r, q_set_1n, q_set_1N, q_set_s, q_set_1j, q_bk_v, q_bk_n, q_if, zb_ite, cond_true, cond_false, List.getElem?_cons_zero, List.getElem?_cons_succ, Nat.reduceAdd, a1, a2, if_true, if_false, zb_eq0, zb_eq1, zn_1, not_true_eq_false, not_false_eq_true, ite_true, ite_false, if_true, if_false, q_iret_0, q_iret_1, decide_true, decide_false, decide_not, zb_t, zb_f, z10, z01, cond_true, cond_false, Bool.and_true, Bool.true_and, Bool.and_false, Bool.false_and, Bool.not_true, Bool.not_false, true_and, and_true, false_and, and_false, true_or, or_true, false_or, or_false, Bool.true_eq_false, Bool.false_eq_true, eq_self, reduceCtorEq])
noncomputable def aQ6 (A : zzMd) (x : Int32) : zzMd := bif decide (rd A 9 x 23 = 2) then eqs (fun D i => decide (rd D 9 (zn i) 23 = 5) && !gone D 9 (zn i)) 6 (nv A 9) A else A
theorem sp_qo6 {M : zzMd} (W : zIC M) (x w : Int32) : fX5_queueOthers [.ref 9, .int x, .int w] M = some (.inl none, aQ6 M x) := by
  have hc : 6 < 8 := by decide
  have hr := fun x s => sp_read' (zIC_W (zcV hc) W) x s
  obtain ⟨⟨-, ⟨k1, k2⟩, -⟩, -⟩ := W.2.2 6 hc
  have st : fX5_queueOthers [.ref 9, .int x, .int w] M = zz_ev tX5_queueOthers 2 [some (.ref 9), some (.int x), some (.int w), some (.int (zn 0))] [] M := by
    rw [s_X5_queueOthers]
    (simp only [e_X5_queueOthers, zo_iload, zo_lload, zo_aload, zo_istore, zo_lstore, zo_astore, zo_iinc, zo_pushI, zo_pushL, zo_null, zo_ii, zo_iid, zo_ll, zo_li, zo_lcmp, zo_i2l, zo_l2i, zo_dup, zo_dup2, zo_pop, zo_goto, zo_if, zo_icmp, zo_ifnull, zo_gets, zo_mm, zo_throw, zo_ret, zo_aret, zo_lret, q_iret_f, q_iret_1, q_iret_0, q_iret_b, q_c8_0, q_c8_1, q_c8_2, q_c8_3, q_c8_4, q_set_0, q_set_1i, q_set_1r, q_set_1n, q_set_1N, q_set_s, q_set_1j, q_bk_v, q_bk_n, q_if, zb_ite, cond_true, cond_false, List.getElem?_cons_zero, List.getElem?_cons_succ, Nat.reduceAdd, if_true, if_false, zb_eq0, zb_eq1, zn_1, not_true_eq_false, not_false_eq_true, ite_true, ite_false, if_true, if_false, q_iret_0, q_iret_1, decide_true, decide_false, decide_not, zb_t, zb_f, z10, z01, cond_true, cond_false, Bool.and_true, Bool.true_and, Bool.and_false, Bool.false_and, Bool.not_true, Bool.not_false, true_and, and_true, false_and, and_false, true_or, or_true, false_or, or_false, Bool.true_eq_false, Bool.false_eq_true, eq_self, reduceCtorEq])
    rfl
  rw [st]
  unfold aQ6
  by_cases c1 : rd M 9 x 23 = 2
  · rw [decide_eq_true c1, cond_true]
    have lp := eqs_loop (P := fun D i => decide (rd D 9 (zn i) 23 = 5) && !gone D 9 (zn i)) (c := 6) hc W (E := fun i D => zz_ev tX5_queueOthers 2 [some (.ref 9), some (.int x), some (.int w), some (.int (zn i))] [] D) (nv M 9) (fun i hi D WD S => by
      obtain ⟨a1, a2⟩ := zk_inS (n := 0) W hc S hi
      have hr := fun x s => sp_read' (zIC_W (zcV hc) WD) x s
      have hg := sp_isGone (zIC_W (zcV hc) WD) (zn i)
      have he := sp_enqueue WD hc (zn i)
      have hS := rd_S' hc S
      rw [hS] at hr
      simp only [Nat.reduceAdd] at a1 a2 hr he hS hg
      rw [hS]
      by_cases c2 : rd M 9 (zn i) 23 = 5 <;> cases c3 : gone D 9 (zn i) <;> (rw [e_X5_queueOthers_2]; simp only [e_X5_queueOthers, zo_iload, zo_lload, zo_aload, zo_istore, zo_lstore, zo_astore, zo_iinc, zo_pushI, zo_pushL, zo_null, zo_ii, zo_iid, zo_ll, zo_li, zo_lcmp, zo_i2l, zo_l2i, zo_dup, zo_dup2, zo_pop, zo_goto, zo_if, zo_icmp, zo_ifnull, zo_gets, zo_mm, zo_throw, zo_ret, zo_aret, zo_lret, q_iret_f, q_iret_1, q_iret_0, q_iret_b, q_c8_0, q_c8_1, q_c8_2, q_c8_3, q_c8_4, q_set_0, q_set_1i, q_set_1r, q_set_1n, q_set_1N, q_set_s, q_set_1j, q_bk_v, q_bk_n, q_if, zb_ite, cond_true, cond_false, List.getElem?_cons_zero, List.getElem?_cons_succ, Nat.reduceAdd, a1, a2, hr, he, hg, c1, c2, c3, if_true, if_false, zb_eq0, zb_eq1, zn_1, not_true_eq_false, not_false_eq_true, ite_true, ite_false, if_true, if_false, q_iret_0, q_iret_1, decide_true, decide_false, decide_not, zb_t, zb_f, z10, z01, cond_true, cond_false, Bool.and_true, Bool.true_and, Bool.and_false, Bool.false_and, Bool.not_true, Bool.not_false, true_and, and_true, false_and, and_false, true_or, or_true, false_or, or_false, Bool.true_eq_false, Bool.false_eq_true, eq_self, reduceCtorEq]))
    rw [lp]
    obtain ⟨h1, h2⟩ := eqs_inv (P := fun D i => decide (rd D 9 (zn i) 23 = 5) && !gone D 9 (zn i)) hc W (nv M 9)
    have a1 : (eqs (fun D i => decide (rd D 9 (zn i) 23 = 5) && !gone D 9 (zn i)) 6 (nv M 9) M).1 9 2 = zn (nv M 9) := (h2 9 2 (Or.inr (by decide)) (by decide) (by decide)).trans k1
    have a2 := zk_out k2
    simp only [Nat.reduceAdd] at a2
    (rw [e_X5_queueOthers_2]; simp only [e_X5_queueOthers, zo_iload, zo_lload, zo_aload, zo_istore, zo_lstore, zo_astore, zo_iinc, zo_pushI, zo_pushL, zo_null, zo_ii, zo_iid, zo_ll, zo_li, zo_lcmp, zo_i2l, zo_l2i, zo_dup, zo_dup2, zo_pop, zo_goto, zo_if, zo_icmp, zo_ifnull, zo_gets, zo_mm, zo_throw, zo_ret, zo_aret, zo_lret, q_iret_f, q_iret_1, q_iret_0, q_iret_b, q_c8_0, q_c8_1, q_c8_2, q_c8_3, q_c8_4, q_set_0, q_set_1i, q_set_1r, q_set_1n, q_set_1N, q_set_s, q_set_1j, q_bk_v, q_bk_n, q_if, zb_ite, cond_true, cond_false, List.getElem?_cons_zero, List.getElem?_cons_succ, Nat.reduceAdd, a1, a2, if_true, if_false, zb_eq0, zb_eq1, zn_1, not_true_eq_false, not_false_eq_true, ite_true, ite_false, if_true, if_false, q_iret_0, q_iret_1, decide_true, decide_false, decide_not, zb_t, zb_f, z10, z01, cond_true, cond_false, Bool.and_true, Bool.true_and, Bool.and_false, Bool.false_and, Bool.not_true, Bool.not_false, true_and, and_true, false_and, and_false, true_or, or_true, false_or, or_false, Bool.true_eq_false, Bool.false_eq_true, eq_self, reduceCtorEq])
  · rw [decide_eq_false c1, cond_false]
    by_cases c2 : zn (nv M 9) ≤ zn 0 <;> simp only [Nat.reduceAdd] at k1 hr <;> (rw [e_X5_queueOthers_2]; simp only [e_X5_queueOthers, zo_iload, zo_lload, zo_aload, zo_istore, zo_lstore, zo_astore, zo_iinc, zo_pushI, zo_pushL, zo_null, zo_ii, zo_iid, zo_ll, zo_li, zo_lcmp, zo_i2l, zo_l2i, zo_dup, zo_dup2, zo_pop, zo_goto, zo_if, zo_icmp, zo_ifnull, zo_gets, zo_mm, zo_throw, zo_ret, zo_aret, zo_lret, q_iret_f, q_iret_1, q_iret_0, q_iret_b, q_c8_0, q_c8_1, q_c8_2, q_c8_3, q_c8_4, q_set_0, q_set_1i, q_set_1r, q_set_1n, q_set_1N, q_set_s, q_set_1j, q_bk_v, q_bk_n, q_if, zb_ite, cond_true, cond_false, List.getElem?_cons_zero, List.getElem?_cons_succ, Nat.reduceAdd, k1, c2, hr, c1, if_true, if_false, zb_eq0, zb_eq1, zn_1, not_true_eq_false, not_false_eq_true, ite_true, ite_false, if_true, if_false, q_iret_0, q_iret_1, decide_true, decide_false, decide_not, zb_t, zb_f, z10, z01, cond_true, cond_false, Bool.and_true, Bool.true_and, Bool.and_false, Bool.false_and, Bool.not_true, Bool.not_false, true_and, and_true, false_and, and_false, true_or, or_true, false_or, or_false, Bool.true_eq_false, Bool.false_eq_true, eq_self, reduceCtorEq])
theorem sp_qo7 (M : zzMd) (x w : Int32) : fX7_queueOthers [.ref 10, .int x, .int w] M = some (.inl none, M) := by
  rw [s_X7_queueOthers]
  (simp only [e_X7_queueOthers, zo_iload, zo_lload, zo_aload, zo_istore, zo_lstore, zo_astore, zo_iinc, zo_pushI, zo_pushL, zo_null, zo_ii, zo_iid, zo_ll, zo_li, zo_lcmp, zo_i2l, zo_l2i, zo_dup, zo_dup2, zo_pop, zo_goto, zo_if, zo_icmp, zo_ifnull, zo_gets, zo_mm, zo_throw, zo_ret, zo_aret, zo_lret, q_iret_f, q_iret_1, q_iret_0, q_iret_b, q_c8_0, q_c8_1, q_c8_2, q_c8_3, q_c8_4, q_set_0, q_set_1i, q_set_1r, q_set_1n, q_set_1N, q_set_s, q_set_1j, q_bk_v, q_bk_n, q_if, zb_ite, cond_true, cond_false, List.getElem?_cons_zero, List.getElem?_cons_succ, Nat.reduceAdd, if_true, if_false, zb_eq0, zb_eq1, zn_1, not_true_eq_false, not_false_eq_true, ite_true, ite_false, if_true, if_false, q_iret_0, q_iret_1, decide_true, decide_false, decide_not, zb_t, zb_f, z10, z01, cond_true, cond_false, Bool.and_true, Bool.true_and, Bool.and_false, Bool.false_and, Bool.not_true, Bool.not_false, true_and, and_true, false_and, and_false, true_or, or_true, false_or, or_false, Bool.true_eq_false, Bool.false_eq_true, eq_self, reduceCtorEq])
/-- the keys that come besides the object's own, by controllers -/
noncomputable def aQO (A : zzMd) (c : Nat) (x w : Int32) : zzMd := match c with
  | 0 => aQ0 A x w
  | 1 => aQ1 A 1 x w
  | 2 => aQ1 A 2 x w
  | 3 => aQ3 A x
  | 4 => aQ4 A x
  | 5 => aQ5 A x w
  | 6 => aQ6 A x
  | _ => A
end

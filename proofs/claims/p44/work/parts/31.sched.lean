section
/-! the scheduler: what is used, what is best -/
def zR (M : zzMd) (a n : Nat) (f : Nat → Int32) : zzMd := (fun p b => if p = a ∧ b < n then f b else M.1 p b, M.2)
theorem zR_1 {M : zzMd} {a n : Nat} {f : Nat → Int32} {p b : Nat} : (zR M a n f).1 p b = if p = a ∧ b < n then f b else M.1 p b := rfl
theorem zR_0 (M : zzMd) (a : Nat) (f : Nat → Int32) : zR M a 0 f = M := Prod.ext (funext fun p => funext fun b => if_neg (by omega)) rfl
theorem zR_c {M : zzMd} {a n : Nat} {f g : Nat → Int32} (h : ∀ b, b < n → f b = g b) : zR M a n f = zR M a n g := Prod.ext (funext fun p => funext fun b => by
  rw [zR_1, zR_1]
  by_cases q : p = a ∧ b < n
  · rw [if_pos q, if_pos q, h b q.2]
  · rw [if_neg q, if_neg q]) rfl
theorem zR_s (M : zzMd) (a n : Nat) (f : Nat → Int32) : zR M a (n + 1) f = zz_sI (zR M a n f) a n (f n) := Prod.ext (funext fun p => funext fun b => by
  rw [sI_1, zR_1, zR_1]
  by_cases q : p = a ∧ b = n
  · rw [if_pos q, if_pos ⟨q.1, by omega⟩, q.2]
  · rw [if_neg q]
    by_cases q2 : p = a ∧ b < n
    · rw [if_pos q2, if_pos ⟨q2.1, by omega⟩]
    · rw [if_neg q2, if_neg (by omega)]) rfl
theorem zR_u {M : zzMd} {a n k : Nat} (hk : k < n) (f g : Nat → Int32) (x : Int32) (h : ∀ b, b < n → g b = if b = k then x else f b) : zR M a n g = zz_sI (zR M a n f) a k x := Prod.ext (funext fun p => funext fun b => by
  rw [sI_1, zR_1, zR_1]
  by_cases q : p = a ∧ b < n
  · rw [if_pos q, if_pos q, h b q.2]
    by_cases q2 : b = k
    · rw [if_pos q2, if_pos ⟨q.1, q2⟩]
    · rw [if_neg q2, if_neg (fun z => q2 z.2)]
  · rw [if_neg q, if_neg q, if_neg (by omega)]) rfl
theorem nz_R {M : zzMd} {a n : Nat} {f : Nat → Int32} (h : dead a = true) : nz (zR M a n f) = nz M := Prod.ext (funext fun p => funext fun b => by
  show (bif dead p then 0 else (zR M a n f).1 p b) = bif dead p then 0 else M.1 p b
  rw [zR_1]
  by_cases q : p = a ∧ b < n
  · rw [q.1, h]; rfl
  · rw [if_neg q]) rfl
/-- a memory in which the scheduler sees the same -/
def zB6 (M B : zzMd) : Prop := zIC B ∧ (∀ x s, rd B 6 x s = rd M 6 x s) ∧ nv B 6 = nv M 6
theorem zB6_nz {M B : zzMd} (W : zIC M) (h : nz B = nz M) : zB6 M B := by
  have hv : zV 6 := zcV (c := 3) (by decide)
  refine ⟨zIC_nz.mp (h ▸ zIC_nz.mpr W), fun x s => ?_, ?_⟩
  · rw [← rd_nz hv, h, rd_nz hv]
  · rw [← nv_nz hv, h, nv_nz hv]
section
variable {M B : zzMd}
theorem b6_W (h : zB6 M B) : zVw B 6 (nv M 6) := by
  have := zIC_W (zcV (c := 3) (by decide)) h.1
  simp only [Nat.reduceAdd] at this
  rw [h.2.2] at this
  exact this
theorem b6_k (h : zB6 M B) : B.1 6 2 = zn (nv M 6) ∧ nv M 6 ≤ 60 := (b6_W h).2.2
theorem b6_read (h : zB6 M B) (x s : Int32) : fX10_read [.ref 6, .int x, .int s] B = some (.inl (some (.int (rd M 6 x s))), B) := by rw [sp_read' (b6_W h) x s, h.2.1]
theorem b6_gone (h : zB6 M B) (x : Int32) : fX10_isGone [.ref 6, .int x] B = some (.inl (some (.int (zb (gone M 6 x)))), B) := by
  rw [sp_isGone (b6_W h) x]; unfold gone; rw [h.2.1]
theorem b6_stay (h : zB6 M B) (x k : Int32) : fX10_isStaying [.ref 6, .int x, .int k] B = some (.inl (some (.int (zb (stay M 6 x k)))), B) := by
  rw [sp_isStaying (b6_W h) x k]; unfold stay; rw [h.2.1, h.2.1]
theorem b6_need (h : zB6 M B) (x : Int32) : fX10_needOf [.ref 6, .int x] B = some (.inl (some (.int (znd (rd M 6 x 1)))), B) := by rw [sp_needOf (b6_W h) x, h.2.1]
end
def usP (A : zzMd) (i k : Nat) : Bool := decide (rd A 6 (zn i) 28 = zn k) && (!gone A 6 (zn i) && (!decide (rd A 6 (zn i) 29 = 2) && !decide (rd A 6 (zn i) 29 = 3)))
def usN (A : zzMd) (n k : Nat) : Int32 := zsum n fun i => bif usP A i k then znd (rd A 6 (zn i) 1) else 0
theorem usN_s (A : zzMd) (n k : Nat) : usN A (n + 1) k = usN A n k + (bif usP A n k then znd (rd A 6 (zn n) 1) else 0) := rfl
theorem us_skip {M : zzMd} {i : Nat} (h : ∀ k, k < 60 → usP M i k = false) : zR M 69 60 (usN M (i + 1)) = zR M 69 60 (usN M i) := zR_c fun b hb => by rw [usN_s, h b hb, cond_false, Int32.add_zero]
theorem sp_countUsed {M : zzMd} (W : zIC M) : fX8_countUsed [.ref 6] M = some (.inl none, zR M 69 60 (usN M (nv M 6))) := by
  have st : fX8_countUsed [.ref 6] M = zz_ev tX8_countUsed 2 [some (.ref 6), some (.int (zn 0)), none, none] [] (zR M 69 0 (fun _ => 0)) := by
    rw [s_X8_countUsed, zR_0]
    (simp only [e_X8_countUsed, zo_iload, zo_lload, zo_aload, zo_istore, zo_lstore, zo_astore, zo_iinc, zo_pushI, zo_pushL, zo_null, zo_ii, zo_iid, zo_ll, zo_li, zo_lcmp, zo_i2l, zo_l2i, zo_dup, zo_dup2, zo_pop, zo_goto, zo_if, zo_icmp, zo_ifnull, zo_gets, zo_mm, zo_throw, zo_ret, zo_aret, zo_lret, q_iret_f, q_iret_1, q_iret_0, q_iret_b, q_c8_0, q_c8_1, q_c8_2, q_c8_3, q_c8_4, q_set_0, q_set_1i, q_set_1r, q_set_1n, q_set_1N, q_set_s, q_set_1j, q_bk_v, q_bk_n, q_if, zb_ite, cond_true, cond_false, List.getElem?_cons_zero, List.getElem?_cons_succ, Nat.reduceAdd, if_true, if_false, zb_eq0, zb_eq1, zn_1, not_true_eq_false, not_false_eq_true, ite_true, ite_false, if_true, if_false, q_iret_0, q_iret_1, decide_true, decide_false, decide_not, zb_t, zb_f, z10, z01, cond_true, cond_false, Bool.and_true, Bool.true_and, Bool.and_false, Bool.false_and, Bool.not_true, Bool.not_false, true_and, and_true, false_and, and_false, true_or, or_true, false_or, or_false, Bool.true_eq_false, Bool.false_eq_true, eq_self, reduceCtorEq, Bool.or_true, Bool.true_or, Bool.or_false, Bool.false_or])
    rfl
  have lp1 := zl_go (E := fun i => zz_ev tX8_countUsed 2 [some (.ref 6), some (.int (zn i)), none, none] [] (zR M 69 i (fun _ => 0))) 60 (fun i hi => by
    have hc : ((60 : Int32) ≤ zn i) = False := zo_60 hi
    have b1 : zz_inb (zn i) 60 = true := zn_inT hi (by decide)
    have x1 : zz_ix (zn i) = i := zn_ix (by omega)
    rw [zR_s]
    (rw [e_X8_countUsed_2]; simp only [e_X8_countUsed, zo_iload, zo_lload, zo_aload, zo_istore, zo_lstore, zo_astore, zo_iinc, zo_pushI, zo_pushL, zo_null, zo_ii, zo_iid, zo_ll, zo_li, zo_lcmp, zo_i2l, zo_l2i, zo_dup, zo_dup2, zo_pop, zo_goto, zo_if, zo_icmp, zo_ifnull, zo_gets, zo_mm, zo_throw, zo_ret, zo_aret, zo_lret, q_iret_f, q_iret_1, q_iret_0, q_iret_b, q_c8_0, q_c8_1, q_c8_2, q_c8_3, q_c8_4, q_set_0, q_set_1i, q_set_1r, q_set_1n, q_set_1N, q_set_s, q_set_1j, q_bk_v, q_bk_n, q_if, zb_ite, cond_true, cond_false, List.getElem?_cons_zero, List.getElem?_cons_succ, Nat.reduceAdd, hc, b1, x1, q_aC, if_true, if_false, zb_eq0, zb_eq1, zn_1, not_true_eq_false, not_false_eq_true, ite_true, ite_false, if_true, if_false, q_iret_0, q_iret_1, decide_true, decide_false, decide_not, zb_t, zb_f, z10, z01, cond_true, cond_false, Bool.and_true, Bool.true_and, Bool.and_false, Bool.false_and, Bool.not_true, Bool.not_false, true_and, and_true, false_and, and_false, true_or, or_true, false_or, or_false, Bool.true_eq_false, Bool.false_eq_true, eq_self, reduceCtorEq, Bool.or_true, Bool.true_or, Bool.or_false, Bool.false_or]))
  have md : zz_ev tX8_countUsed 2 [some (.ref 6), some (.int (zn 60)), none, none] [] (zR M 69 60 (fun _ => 0)) = zz_ev tX8_countUsed 23 [some (.ref 6), some (.int (zn 0)), zj none, zj none] [] (zR M 69 60 (usN M 0)) := by
    have hc : ((60 : Int32) ≤ zn 60) = True := eq_true (by decide)
    show _ = zz_ev tX8_countUsed 23 [some (.ref 6), some (.int 0), none, none] [] (zR M 69 60 (fun _ => 0))
    generalize zR M 69 60 (fun _ => 0) = B
    generalize hZ : zz_ev tX8_countUsed 23 [some (.ref 6), some (.int 0), none, none] [] B = Z
    (rw [e_X8_countUsed_2]; simp only [e_X8_countUsed, zo_iload, zo_lload, zo_aload, zo_istore, zo_lstore, zo_astore, zo_iinc, zo_pushI, zo_pushL, zo_null, zo_ii, zo_iid, zo_ll, zo_li, zo_lcmp, zo_i2l, zo_l2i, zo_dup, zo_dup2, zo_pop, zo_goto, zo_if, zo_icmp, zo_ifnull, zo_gets, zo_mm, zo_throw, zo_ret, zo_aret, zo_lret, q_iret_f, q_iret_1, q_iret_0, q_iret_b, q_c8_0, q_c8_1, q_c8_2, q_c8_3, q_c8_4, q_set_0, q_set_1i, q_set_1r, q_set_1n, q_set_1N, q_set_s, q_set_1j, q_bk_v, q_bk_n, q_if, zb_ite, cond_true, cond_false, List.getElem?_cons_zero, List.getElem?_cons_succ, Nat.reduceAdd, hc, if_true, if_false, zb_eq0, zb_eq1, zn_1, not_true_eq_false, not_false_eq_true, ite_true, ite_false, if_true, if_false, q_iret_0, q_iret_1, decide_true, decide_false, decide_not, zb_t, zb_f, z10, z01, cond_true, cond_false, Bool.and_true, Bool.true_and, Bool.and_false, Bool.false_and, Bool.not_true, Bool.not_false, true_and, and_true, false_and, and_false, true_or, or_true, false_or, or_false, Bool.true_eq_false, Bool.false_eq_true, eq_self, reduceCtorEq, Bool.or_true, Bool.true_or, Bool.or_false, Bool.false_or])
    exact hZ
  obtain ⟨j, lp2⟩ := zl_goJ (E := fun i (j : Option Int32 × Option Int32) => zz_ev tX8_countUsed 23 [some (.ref 6), some (.int (zn i)), zj j.1, zj j.2] [] (zR M 69 60 (usN M i))) (nv M 6) (fun i hi j => by
    refine ⟨(some (rd M 6 (zn i) 28), some (rd M 6 (zn i) 29)), ?_⟩
    have hB := zB6_nz W (nz_R (M := M) (a := 69) (n := 60) (f := usN M i) rfl)
    have hr := b6_read hB
    have hg := b6_gone hB
    have hnd := b6_need hB
    obtain ⟨hk, hn⟩ := b6_k hB
    have hc := zk_in hi hn
    have skip : (∀ k, k < 60 → usP M i k = false) → zR M 69 60 (usN M (i + 1)) = zR M 69 60 (usN M i) := us_skip
    by_cases c1 : rd M 6 (zn i) 28 < 0
    · rw [us_skip fun k hk => by
        unfold usP
        rw [decide_eq_false (fun q => by rw [q, zn_lt0 (by omega)] at c1; exact c1), Bool.false_and]]
      generalize zR M 69 60 (usN M i) = B at hr hk hg hnd ⊢
      (rw [e_X8_countUsed_23]; simp only [e_X8_countUsed, zo_iload, zo_lload, zo_aload, zo_istore, zo_lstore, zo_astore, zo_iinc, zo_pushI, zo_pushL, zo_null, zo_ii, zo_iid, zo_ll, zo_li, zo_lcmp, zo_i2l, zo_l2i, zo_dup, zo_dup2, zo_pop, zo_goto, zo_if, zo_icmp, zo_ifnull, zo_gets, zo_mm, zo_throw, zo_ret, zo_aret, zo_lret, q_iret_f, q_iret_1, q_iret_0, q_iret_b, q_c8_0, q_c8_1, q_c8_2, q_c8_3, q_c8_4, q_set_0, q_set_1i, q_set_1r, q_set_1n, q_set_1N, q_set_s, q_set_1j, q_bk_v, q_bk_n, q_if, zb_ite, cond_true, cond_false, List.getElem?_cons_zero, List.getElem?_cons_succ, Nat.reduceAdd, hk, hc, hr, c1, zj_some, if_true, if_false, zb_eq0, zb_eq1, zn_1, not_true_eq_false, not_false_eq_true, ite_true, ite_false, if_true, if_false, q_iret_0, q_iret_1, decide_true, decide_false, decide_not, zb_t, zb_f, z10, z01, cond_true, cond_false, Bool.and_true, Bool.true_and, Bool.and_false, Bool.false_and, Bool.not_true, Bool.not_false, true_and, and_true, false_and, and_false, true_or, or_true, false_or, or_false, Bool.true_eq_false, Bool.false_eq_true, eq_self, reduceCtorEq, Bool.or_true, Bool.true_or, Bool.or_false, Bool.false_or])
    by_cases c2 : 60 ≤ rd M 6 (zn i) 28
    · rw [us_skip fun k hk => by
        unfold usP
        rw [decide_eq_false (fun q => by rw [q, zo_60 hk] at c2; exact c2), Bool.false_and]]
      generalize zR M 69 60 (usN M i) = B at hr hk hg hnd ⊢
      (rw [e_X8_countUsed_23]; simp only [e_X8_countUsed, zo_iload, zo_lload, zo_aload, zo_istore, zo_lstore, zo_astore, zo_iinc, zo_pushI, zo_pushL, zo_null, zo_ii, zo_iid, zo_ll, zo_li, zo_lcmp, zo_i2l, zo_l2i, zo_dup, zo_dup2, zo_pop, zo_goto, zo_if, zo_icmp, zo_ifnull, zo_gets, zo_mm, zo_throw, zo_ret, zo_aret, zo_lret, q_iret_f, q_iret_1, q_iret_0, q_iret_b, q_c8_0, q_c8_1, q_c8_2, q_c8_3, q_c8_4, q_set_0, q_set_1i, q_set_1r, q_set_1n, q_set_1N, q_set_s, q_set_1j, q_bk_v, q_bk_n, q_if, zb_ite, cond_true, cond_false, List.getElem?_cons_zero, List.getElem?_cons_succ, Nat.reduceAdd, hk, hc, hr, c1, c2, zj_some, if_true, if_false, zb_eq0, zb_eq1, zn_1, not_true_eq_false, not_false_eq_true, ite_true, ite_false, if_true, if_false, q_iret_0, q_iret_1, decide_true, decide_false, decide_not, zb_t, zb_f, z10, z01, cond_true, cond_false, Bool.and_true, Bool.true_and, Bool.and_false, Bool.false_and, Bool.not_true, Bool.not_false, true_and, and_true, false_and, and_false, true_or, or_true, false_or, or_false, Bool.true_eq_false, Bool.false_eq_true, eq_self, reduceCtorEq, Bool.or_true, Bool.true_or, Bool.or_false, Bool.false_or])
    cases c3 : gone M 6 (zn i)
    · by_cases c4 : rd M 6 (zn i) 29 = 2
      · rw [us_skip fun k hk => by
          unfold usP
          rw [decide_eq_true c4]; simp]
        generalize zR M 69 60 (usN M i) = B at hr hk hg hnd ⊢
        (rw [e_X8_countUsed_23]; simp only [e_X8_countUsed, zo_iload, zo_lload, zo_aload, zo_istore, zo_lstore, zo_astore, zo_iinc, zo_pushI, zo_pushL, zo_null, zo_ii, zo_iid, zo_ll, zo_li, zo_lcmp, zo_i2l, zo_l2i, zo_dup, zo_dup2, zo_pop, zo_goto, zo_if, zo_icmp, zo_ifnull, zo_gets, zo_mm, zo_throw, zo_ret, zo_aret, zo_lret, q_iret_f, q_iret_1, q_iret_0, q_iret_b, q_c8_0, q_c8_1, q_c8_2, q_c8_3, q_c8_4, q_set_0, q_set_1i, q_set_1r, q_set_1n, q_set_1N, q_set_s, q_set_1j, q_bk_v, q_bk_n, q_if, zb_ite, cond_true, cond_false, List.getElem?_cons_zero, List.getElem?_cons_succ, Nat.reduceAdd, hk, hc, hr, hg, c1, c2, c3, c4, zj_some, if_true, if_false, zb_eq0, zb_eq1, zn_1, not_true_eq_false, not_false_eq_true, ite_true, ite_false, if_true, if_false, q_iret_0, q_iret_1, decide_true, decide_false, decide_not, zb_t, zb_f, z10, z01, cond_true, cond_false, Bool.and_true, Bool.true_and, Bool.and_false, Bool.false_and, Bool.not_true, Bool.not_false, true_and, and_true, false_and, and_false, true_or, or_true, false_or, or_false, Bool.true_eq_false, Bool.false_eq_true, eq_self, reduceCtorEq, Bool.or_true, Bool.true_or, Bool.or_false, Bool.false_or])
      by_cases c5 : rd M 6 (zn i) 29 = 3
      · rw [us_skip fun k hk => by
          unfold usP
          rw [decide_eq_true c5]; simp]
        generalize zR M 69 60 (usN M i) = B at hr hk hg hnd ⊢
        have n32 : ((3 : Int32) = 2) = False := eq_false (by decide)
        (rw [e_X8_countUsed_23]; simp only [e_X8_countUsed, zo_iload, zo_lload, zo_aload, zo_istore, zo_lstore, zo_astore, zo_iinc, zo_pushI, zo_pushL, zo_null, zo_ii, zo_iid, zo_ll, zo_li, zo_lcmp, zo_i2l, zo_l2i, zo_dup, zo_dup2, zo_pop, zo_goto, zo_if, zo_icmp, zo_ifnull, zo_gets, zo_mm, zo_throw, zo_ret, zo_aret, zo_lret, q_iret_f, q_iret_1, q_iret_0, q_iret_b, q_c8_0, q_c8_1, q_c8_2, q_c8_3, q_c8_4, q_set_0, q_set_1i, q_set_1r, q_set_1n, q_set_1N, q_set_s, q_set_1j, q_bk_v, q_bk_n, q_if, zb_ite, cond_true, cond_false, List.getElem?_cons_zero, List.getElem?_cons_succ, Nat.reduceAdd, hk, hc, hr, hg, c1, c2, c3, c5, n32, zj_some, if_true, if_false, zb_eq0, zb_eq1, zn_1, not_true_eq_false, not_false_eq_true, ite_true, ite_false, if_true, if_false, q_iret_0, q_iret_1, decide_true, decide_false, decide_not, zb_t, zb_f, z10, z01, cond_true, cond_false, Bool.and_true, Bool.true_and, Bool.and_false, Bool.false_and, Bool.not_true, Bool.not_false, true_and, and_true, false_and, and_false, true_or, or_true, false_or, or_false, Bool.true_eq_false, Bool.false_eq_true, eq_self, reduceCtorEq, Bool.or_true, Bool.true_or, Bool.or_false, Bool.false_or])
      · obtain ⟨p1, p2⟩ := zi_nat c1 c2
        have i1 : zz_inb (rd M 6 (zn i) 28) 60 = true := by rw [p1]; exact zn_inT p2 (by decide)
        rw [zR_u p2 (usN M i) (usN M (i + 1)) (usN M i (zz_ix (rd M 6 (zn i) 28)) + znd (rd M 6 (zn i) 1)) (fun b hb => by
          rw [usN_s]
          unfold usP
          rw [c3, decide_eq_false c4, decide_eq_false c5]
          by_cases q : b = zz_ix (rd M 6 (zn i) 28)
          · rw [if_pos q, q, decide_eq_true p1]; rfl
          · rw [if_neg q, decide_eq_false (fun z => q (by rw [z]; exact (zn_ix (by omega)).symm)), Bool.false_and, cond_false, Int32.add_zero])]
        have h69 : (zR M 69 60 (usN M i)).1 69 (zz_ix (rd M 6 (zn i) 28)) = usN M i (zz_ix (rd M 6 (zn i) 28)) := if_pos ⟨rfl, p2⟩
        generalize zR M 69 60 (usN M i) = B at hr hk hg hnd h69 ⊢
        (rw [e_X8_countUsed_23]; simp only [e_X8_countUsed, zo_iload, zo_lload, zo_aload, zo_istore, zo_lstore, zo_astore, zo_iinc, zo_pushI, zo_pushL, zo_null, zo_ii, zo_iid, zo_ll, zo_li, zo_lcmp, zo_i2l, zo_l2i, zo_dup, zo_dup2, zo_pop, zo_goto, zo_if, zo_icmp, zo_ifnull, zo_gets, zo_mm, zo_throw, zo_ret, zo_aret, zo_lret, q_iret_f, q_iret_1, q_iret_0, q_iret_b, q_c8_0, q_c8_1, q_c8_2, q_c8_3, q_c8_4, q_set_0, q_set_1i, q_set_1r, q_set_1n, q_set_1N, q_set_s, q_set_1j, q_bk_v, q_bk_n, q_if, zb_ite, cond_true, cond_false, List.getElem?_cons_zero, List.getElem?_cons_succ, Nat.reduceAdd, hk, hc, hr, hg, hnd, c1, c2, c3, c4, c5, i1, q_aC, h69, zj_some, if_true, if_false, zb_eq0, zb_eq1, zn_1, not_true_eq_false, not_false_eq_true, ite_true, ite_false, if_true, if_false, q_iret_0, q_iret_1, decide_true, decide_false, decide_not, zb_t, zb_f, z10, z01, cond_true, cond_false, Bool.and_true, Bool.true_and, Bool.and_false, Bool.false_and, Bool.not_true, Bool.not_false, true_and, and_true, false_and, and_false, true_or, or_true, false_or, or_false, Bool.true_eq_false, Bool.false_eq_true, eq_self, reduceCtorEq, Bool.or_true, Bool.true_or, Bool.or_false, Bool.false_or])
    · rw [us_skip fun k hk => by
        unfold usP
        rw [c3]; simp]
      generalize zR M 69 60 (usN M i) = B at hr hk hg hnd ⊢
      (rw [e_X8_countUsed_23]; simp only [e_X8_countUsed, zo_iload, zo_lload, zo_aload, zo_istore, zo_lstore, zo_astore, zo_iinc, zo_pushI, zo_pushL, zo_null, zo_ii, zo_iid, zo_ll, zo_li, zo_lcmp, zo_i2l, zo_l2i, zo_dup, zo_dup2, zo_pop, zo_goto, zo_if, zo_icmp, zo_ifnull, zo_gets, zo_mm, zo_throw, zo_ret, zo_aret, zo_lret, q_iret_f, q_iret_1, q_iret_0, q_iret_b, q_c8_0, q_c8_1, q_c8_2, q_c8_3, q_c8_4, q_set_0, q_set_1i, q_set_1r, q_set_1n, q_set_1N, q_set_s, q_set_1j, q_bk_v, q_bk_n, q_if, zb_ite, cond_true, cond_false, List.getElem?_cons_zero, List.getElem?_cons_succ, Nat.reduceAdd, hk, hc, hr, hg, c1, c2, c3, zj_some, if_true, if_false, zb_eq0, zb_eq1, zn_1, not_true_eq_false, not_false_eq_true, ite_true, ite_false, if_true, if_false, q_iret_0, q_iret_1, decide_true, decide_false, decide_not, zb_t, zb_f, z10, z01, cond_true, cond_false, Bool.and_true, Bool.true_and, Bool.and_false, Bool.false_and, Bool.not_true, Bool.not_false, true_and, and_true, false_and, and_false, true_or, or_true, false_or, or_false, Bool.true_eq_false, Bool.false_eq_true, eq_self, reduceCtorEq, Bool.or_true, Bool.true_or, Bool.or_false, Bool.false_or])) (none, none)
  rw [st, show zz_ev tX8_countUsed 2 [some (.ref 6), some (.int (zn 0)), none, none] [] (zR M 69 0 (fun _ => 0)) = _ from lp1, md]
  refine (show _ = _ from lp2).trans ?_
  obtain ⟨hk, hn⟩ := b6_k (zB6_nz W (nz_R (M := M) (a := 69) (n := 60) (f := usN M (nv M 6)) rfl))
  generalize zR M 69 60 (usN M (nv M 6)) = B at hk ⊢
  have hc := zk_out hn
  (rw [e_X8_countUsed_23]; simp only [e_X8_countUsed, zo_iload, zo_lload, zo_aload, zo_istore, zo_lstore, zo_astore, zo_iinc, zo_pushI, zo_pushL, zo_null, zo_ii, zo_iid, zo_ll, zo_li, zo_lcmp, zo_i2l, zo_l2i, zo_dup, zo_dup2, zo_pop, zo_goto, zo_if, zo_icmp, zo_ifnull, zo_gets, zo_mm, zo_throw, zo_ret, zo_aret, zo_lret, q_iret_f, q_iret_1, q_iret_0, q_iret_b, q_c8_0, q_c8_1, q_c8_2, q_c8_3, q_c8_4, q_set_0, q_set_1i, q_set_1r, q_set_1n, q_set_1N, q_set_s, q_set_1j, q_bk_v, q_bk_n, q_if, zb_ite, cond_true, cond_false, List.getElem?_cons_zero, List.getElem?_cons_succ, Nat.reduceAdd, hk, hc, if_true, if_false, zb_eq0, zb_eq1, zn_1, not_true_eq_false, not_false_eq_true, ite_true, ite_false, if_true, if_false, q_iret_0, q_iret_1, decide_true, decide_false, decide_not, zb_t, zb_f, z10, z01, cond_true, cond_false, Bool.and_true, Bool.true_and, Bool.and_false, Bool.false_and, Bool.not_true, Bool.not_false, true_and, and_true, false_and, and_false, true_or, or_true, false_or, or_false, Bool.true_eq_false, Bool.false_eq_true, eq_self, reduceCtorEq, Bool.or_true, Bool.true_or, Bool.or_false, Bool.false_or])
def zo (A : zzMd) (x : Int32) : Int32 := if rd A 6 x 8 < 0 then 0 else if rd A 6 x 8 < 3 then rd A 6 x 8 else 0
theorem zo_lt (A : zzMd) (x : Int32) : zo A x = zn (zz_ix (zo A x)) ∧ zz_ix (zo A x) < 3 := by
  unfold zo
  by_cases c1 : rd A 6 x 8 < 0
  · rw [if_pos c1]; exact ⟨rfl, by decide⟩
  · rw [if_neg c1]
    by_cases c2 : rd A 6 x 8 < 3
    · rw [if_pos c2]
      obtain ⟨a1, a2⟩ := zi_rng c1 (Int32.not_le.mpr c2)
      have : (3 : Int32).toInt = 3 := rfl
      exact ⟨a1, by omega⟩
    · rw [if_neg c2]; exact ⟨rfl, by decide⟩
theorem sp_zoneOf {M B : zzMd} (h : zB6 M B) (x : Int32) : fX8_zoneOf [.ref 6, .int x] B = some (.inl (some (.int (zo M x))), B) := by
  have hr := b6_read h
  rw [s_X8_zoneOf]
  unfold zo
  by_cases c1 : rd M 6 x 8 < 0
  · rw [if_pos c1]
    (simp only [e_X8_zoneOf, zo_iload, zo_lload, zo_aload, zo_istore, zo_lstore, zo_astore, zo_iinc, zo_pushI, zo_pushL, zo_null, zo_ii, zo_iid, zo_ll, zo_li, zo_lcmp, zo_i2l, zo_l2i, zo_dup, zo_dup2, zo_pop, zo_goto, zo_if, zo_icmp, zo_ifnull, zo_gets, zo_mm, zo_throw, zo_ret, zo_aret, zo_lret, q_iret_f, q_iret_1, q_iret_0, q_iret_b, q_c8_0, q_c8_1, q_c8_2, q_c8_3, q_c8_4, q_set_0, q_set_1i, q_set_1r, q_set_1n, q_set_1N, q_set_s, q_set_1j, q_bk_v, q_bk_n, q_if, zb_ite, cond_true, cond_false, List.getElem?_cons_zero, List.getElem?_cons_succ, Nat.reduceAdd, hr, c1, if_true, if_false, zb_eq0, zb_eq1, zn_1, not_true_eq_false, not_false_eq_true, ite_true, ite_false, if_true, if_false, q_iret_0, q_iret_1, decide_true, decide_false, decide_not, zb_t, zb_f, z10, z01, cond_true, cond_false, Bool.and_true, Bool.true_and, Bool.and_false, Bool.false_and, Bool.not_true, Bool.not_false, true_and, and_true, false_and, and_false, true_or, or_true, false_or, or_false, Bool.true_eq_false, Bool.false_eq_true, eq_self, reduceCtorEq, Bool.or_true, Bool.true_or, Bool.or_false, Bool.false_or])
  · rw [if_neg c1]
    by_cases c2 : rd M 6 x 8 < 3
    · rw [if_pos c2]
      (simp only [e_X8_zoneOf, zo_iload, zo_lload, zo_aload, zo_istore, zo_lstore, zo_astore, zo_iinc, zo_pushI, zo_pushL, zo_null, zo_ii, zo_iid, zo_ll, zo_li, zo_lcmp, zo_i2l, zo_l2i, zo_dup, zo_dup2, zo_pop, zo_goto, zo_if, zo_icmp, zo_ifnull, zo_gets, zo_mm, zo_throw, zo_ret, zo_aret, zo_lret, q_iret_f, q_iret_1, q_iret_0, q_iret_b, q_c8_0, q_c8_1, q_c8_2, q_c8_3, q_c8_4, q_set_0, q_set_1i, q_set_1r, q_set_1n, q_set_1N, q_set_s, q_set_1j, q_bk_v, q_bk_n, q_if, zb_ite, cond_true, cond_false, List.getElem?_cons_zero, List.getElem?_cons_succ, Nat.reduceAdd, hr, c1, c2, if_true, if_false, zb_eq0, zb_eq1, zn_1, not_true_eq_false, not_false_eq_true, ite_true, ite_false, if_true, if_false, q_iret_0, q_iret_1, decide_true, decide_false, decide_not, zb_t, zb_f, z10, z01, cond_true, cond_false, Bool.and_true, Bool.true_and, Bool.and_false, Bool.false_and, Bool.not_true, Bool.not_false, true_and, and_true, false_and, and_false, true_or, or_true, false_or, or_false, Bool.true_eq_false, Bool.false_eq_true, eq_self, reduceCtorEq, Bool.or_true, Bool.true_or, Bool.or_false, Bool.false_or])
    · rw [if_neg c2]
      (simp only [e_X8_zoneOf, zo_iload, zo_lload, zo_aload, zo_istore, zo_lstore, zo_astore, zo_iinc, zo_pushI, zo_pushL, zo_null, zo_ii, zo_iid, zo_ll, zo_li, zo_lcmp, zo_i2l, zo_l2i, zo_dup, zo_dup2, zo_pop, zo_goto, zo_if, zo_icmp, zo_ifnull, zo_gets, zo_mm, zo_throw, zo_ret, zo_aret, zo_lret, q_iret_f, q_iret_1, q_iret_0, q_iret_b, q_c8_0, q_c8_1, q_c8_2, q_c8_3, q_c8_4, q_set_0, q_set_1i, q_set_1r, q_set_1n, q_set_1N, q_set_s, q_set_1j, q_bk_v, q_bk_n, q_if, zb_ite, cond_true, cond_false, List.getElem?_cons_zero, List.getElem?_cons_succ, Nat.reduceAdd, hr, c1, c2, if_true, if_false, zb_eq0, zb_eq1, zn_1, not_true_eq_false, not_false_eq_true, ite_true, ite_false, if_true, if_false, q_iret_0, q_iret_1, decide_true, decide_false, decide_not, zb_t, zb_f, z10, z01, cond_true, cond_false, Bool.and_true, Bool.true_and, Bool.and_false, Bool.false_and, Bool.not_true, Bool.not_false, true_and, and_true, false_and, and_false, true_or, or_true, false_or, or_false, Bool.true_eq_false, Bool.false_eq_true, eq_self, reduceCtorEq, Bool.or_true, Bool.true_or, Bool.or_false, Bool.false_or])
def mtP (A : zzMd) (w : Int32) (k i : Nat) : Bool := !decide (rd A 6 (zn i) 28 = -1) && (decide (rd A 6 (zn i) 24 = w) && (!gone A 6 (zn i) && (!gone A 6 (rd A 6 (zn i) 28) && decide (zo A (rd A 6 (zn i) 28) = zn k))))
def mtN (A : zzMd) (w : Int32) (n k : Nat) : Int32 := zn (zcnt n (mtP A w k))
theorem mtN_s (A : zzMd) (w : Int32) (n k : Nat) : mtN A w (n + 1) k = mtN A w n k + (bif mtP A w k n then 1 else 0) := by
  unfold mtN
  rw [zcnt_s]
  cases mtP A w k n
  · rw [cond_false, cond_false, Nat.add_zero, Int32.add_zero]
  · rw [cond_true, cond_true, zn_1]
theorem mt_skip {M B : zzMd} {w : Int32} {i : Nat} (h : ∀ k, k < 3 → mtP M w k i = false) : zR B 70 3 (mtN M w (i + 1)) = zR B 70 3 (mtN M w i) := zR_c fun b hb => by rw [mtN_s, h b hb, cond_false, Int32.add_zero]
theorem sp_countMates {M B : zzMd} (hB0 : zB6 M B) (w : Int32) : fX8_countMates [.ref 6, .int w] B = some (.inl none, zR B 70 3 (mtN M w (nv M 6))) := by
  have hBR : ∀ n f, zB6 M (zR B 70 n f) := fun n f => by
    obtain ⟨a1, a2, a3⟩ := zB6_nz hB0.1 (nz_R (M := B) (a := 70) (n := n) (f := f) rfl)
    exact ⟨a1, fun x s => (a2 x s).trans (hB0.2.1 x s), a3.trans hB0.2.2⟩
  have st : fX8_countMates [.ref 6, .int w] B = zz_ev tX8_countMates 2 [some (.ref 6), some (.int w), some (.int (zn 0)), none] [] (zR B 70 0 (fun _ => 0)) := by
    rw [s_X8_countMates, zR_0]
    (simp only [e_X8_countMates, zo_iload, zo_lload, zo_aload, zo_istore, zo_lstore, zo_astore, zo_iinc, zo_pushI, zo_pushL, zo_null, zo_ii, zo_iid, zo_ll, zo_li, zo_lcmp, zo_i2l, zo_l2i, zo_dup, zo_dup2, zo_pop, zo_goto, zo_if, zo_icmp, zo_ifnull, zo_gets, zo_mm, zo_throw, zo_ret, zo_aret, zo_lret, q_iret_f, q_iret_1, q_iret_0, q_iret_b, q_c8_0, q_c8_1, q_c8_2, q_c8_3, q_c8_4, q_set_0, q_set_1i, q_set_1r, q_set_1n, q_set_1N, q_set_s, q_set_1j, q_bk_v, q_bk_n, q_if, zb_ite, cond_true, cond_false, List.getElem?_cons_zero, List.getElem?_cons_succ, Nat.reduceAdd, if_true, if_false, zb_eq0, zb_eq1, zn_1, not_true_eq_false, not_false_eq_true, ite_true, ite_false, if_true, if_false, q_iret_0, q_iret_1, decide_true, decide_false, decide_not, zb_t, zb_f, z10, z01, cond_true, cond_false, Bool.and_true, Bool.true_and, Bool.and_false, Bool.false_and, Bool.not_true, Bool.not_false, true_and, and_true, false_and, and_false, true_or, or_true, false_or, or_false, Bool.true_eq_false, Bool.false_eq_true, eq_self, reduceCtorEq, Bool.or_true, Bool.true_or, Bool.or_false, Bool.false_or])
    rfl
  have lp1 := zl_go (E := fun i => zz_ev tX8_countMates 2 [some (.ref 6), some (.int w), some (.int (zn i)), none] [] (zR B 70 i (fun _ => 0))) 3 (fun i hi => by
    have hc : ((3 : Int32) ≤ zn i) = False := zk_lt (n := 3) hi (Nat.le_refl _) (by decide)
    have b1 : zz_inb (zn i) 3 = true := zn_inT hi (by decide)
    have x1 : zz_ix (zn i) = i := zn_ix (by omega)
    rw [zR_s]
    (rw [e_X8_countMates_2]; simp only [e_X8_countMates, zo_iload, zo_lload, zo_aload, zo_istore, zo_lstore, zo_astore, zo_iinc, zo_pushI, zo_pushL, zo_null, zo_ii, zo_iid, zo_ll, zo_li, zo_lcmp, zo_i2l, zo_l2i, zo_dup, zo_dup2, zo_pop, zo_goto, zo_if, zo_icmp, zo_ifnull, zo_gets, zo_mm, zo_throw, zo_ret, zo_aret, zo_lret, q_iret_f, q_iret_1, q_iret_0, q_iret_b, q_c8_0, q_c8_1, q_c8_2, q_c8_3, q_c8_4, q_set_0, q_set_1i, q_set_1r, q_set_1n, q_set_1N, q_set_s, q_set_1j, q_bk_v, q_bk_n, q_if, zb_ite, cond_true, cond_false, List.getElem?_cons_zero, List.getElem?_cons_succ, Nat.reduceAdd, hc, b1, x1, q_aC, if_true, if_false, zb_eq0, zb_eq1, zn_1, not_true_eq_false, not_false_eq_true, ite_true, ite_false, if_true, if_false, q_iret_0, q_iret_1, decide_true, decide_false, decide_not, zb_t, zb_f, z10, z01, cond_true, cond_false, Bool.and_true, Bool.true_and, Bool.and_false, Bool.false_and, Bool.not_true, Bool.not_false, true_and, and_true, false_and, and_false, true_or, or_true, false_or, or_false, Bool.true_eq_false, Bool.false_eq_true, eq_self, reduceCtorEq, Bool.or_true, Bool.true_or, Bool.or_false, Bool.false_or]))
  have md : zz_ev tX8_countMates 2 [some (.ref 6), some (.int w), some (.int (zn 3)), none] [] (zR B 70 3 (fun _ => 0)) = zz_ev tX8_countMates 22 [some (.ref 6), some (.int w), some (.int (zn 0)), zj none] [] (zR B 70 3 (mtN M w 0)) := by
    have hc : ((3 : Int32) ≤ zn 3) = True := eq_true (by decide)
    show _ = zz_ev tX8_countMates 22 [some (.ref 6), some (.int w), some (.int 0), none] [] (zR B 70 3 (fun _ => 0))
    generalize zR B 70 3 (fun _ => 0) = C
    generalize hZ : zz_ev tX8_countMates 22 [some (.ref 6), some (.int w), some (.int 0), none] [] C = Z
    (rw [e_X8_countMates_2]; simp only [e_X8_countMates, zo_iload, zo_lload, zo_aload, zo_istore, zo_lstore, zo_astore, zo_iinc, zo_pushI, zo_pushL, zo_null, zo_ii, zo_iid, zo_ll, zo_li, zo_lcmp, zo_i2l, zo_l2i, zo_dup, zo_dup2, zo_pop, zo_goto, zo_if, zo_icmp, zo_ifnull, zo_gets, zo_mm, zo_throw, zo_ret, zo_aret, zo_lret, q_iret_f, q_iret_1, q_iret_0, q_iret_b, q_c8_0, q_c8_1, q_c8_2, q_c8_3, q_c8_4, q_set_0, q_set_1i, q_set_1r, q_set_1n, q_set_1N, q_set_s, q_set_1j, q_bk_v, q_bk_n, q_if, zb_ite, cond_true, cond_false, List.getElem?_cons_zero, List.getElem?_cons_succ, Nat.reduceAdd, hc, if_true, if_false, zb_eq0, zb_eq1, zn_1, not_true_eq_false, not_false_eq_true, ite_true, ite_false, if_true, if_false, q_iret_0, q_iret_1, decide_true, decide_false, decide_not, zb_t, zb_f, z10, z01, cond_true, cond_false, Bool.and_true, Bool.true_and, Bool.and_false, Bool.false_and, Bool.not_true, Bool.not_false, true_and, and_true, false_and, and_false, true_or, or_true, false_or, or_false, Bool.true_eq_false, Bool.false_eq_true, eq_self, reduceCtorEq, Bool.or_true, Bool.true_or, Bool.or_false, Bool.false_or])
    exact hZ
  obtain ⟨j, lp2⟩ := zl_goJ (E := fun i (j : Option Int32) => zz_ev tX8_countMates 22 [some (.ref 6), some (.int w), some (.int (zn i)), zj j] [] (zR B 70 3 (mtN M w i))) (nv M 6) (fun i hi j => by
    refine ⟨some (rd M 6 (zn i) 28), ?_⟩
    have hB := hBR 3 (mtN M w i)
    have hr := b6_read hB
    have hg := b6_gone hB
    have hz := sp_zoneOf hB
    obtain ⟨hk, hn⟩ := b6_k hB
    have hc := zk_in hi hn
    by_cases c1 : rd M 6 (zn i) 28 = -1
    · rw [mt_skip fun k hk => by unfold mtP; rw [decide_eq_true c1]; rfl]
      generalize zR B 70 3 (mtN M w i) = C at hr hk hg hz ⊢
      (rw [e_X8_countMates_22]; simp only [e_X8_countMates, zo_iload, zo_lload, zo_aload, zo_istore, zo_lstore, zo_astore, zo_iinc, zo_pushI, zo_pushL, zo_null, zo_ii, zo_iid, zo_ll, zo_li, zo_lcmp, zo_i2l, zo_l2i, zo_dup, zo_dup2, zo_pop, zo_goto, zo_if, zo_icmp, zo_ifnull, zo_gets, zo_mm, zo_throw, zo_ret, zo_aret, zo_lret, q_iret_f, q_iret_1, q_iret_0, q_iret_b, q_c8_0, q_c8_1, q_c8_2, q_c8_3, q_c8_4, q_set_0, q_set_1i, q_set_1r, q_set_1n, q_set_1N, q_set_s, q_set_1j, q_bk_v, q_bk_n, q_if, zb_ite, cond_true, cond_false, List.getElem?_cons_zero, List.getElem?_cons_succ, Nat.reduceAdd, hk, hc, hr, c1, zj_some, if_true, if_false, zb_eq0, zb_eq1, zn_1, not_true_eq_false, not_false_eq_true, ite_true, ite_false, if_true, if_false, q_iret_0, q_iret_1, decide_true, decide_false, decide_not, zb_t, zb_f, z10, z01, cond_true, cond_false, Bool.and_true, Bool.true_and, Bool.and_false, Bool.false_and, Bool.not_true, Bool.not_false, true_and, and_true, false_and, and_false, true_or, or_true, false_or, or_false, Bool.true_eq_false, Bool.false_eq_true, eq_self, reduceCtorEq, Bool.or_true, Bool.true_or, Bool.or_false, Bool.false_or])
    by_cases c2 : rd M 6 (zn i) 24 = w
    · cases c3 : gone M 6 (zn i)
      · cases c4 : gone M 6 (rd M 6 (zn i) 28)
        · obtain ⟨p1, p2⟩ := zo_lt M (rd M 6 (zn i) 28)
          have i1 : zz_inb (zo M (rd M 6 (zn i) 28)) 3 = true := by rw [p1]; exact zn_inT p2 (by decide)
          rw [zR_u p2 (mtN M w i) (mtN M w (i + 1)) (mtN M w i (zz_ix (zo M (rd M 6 (zn i) 28))) + 1) (fun b hb => by
            rw [mtN_s]
            unfold mtP
            rw [decide_eq_false c1, decide_eq_true c2, c3, c4]
            by_cases q : b = zz_ix (zo M (rd M 6 (zn i) 28))
            · rw [if_pos q, q, decide_eq_true p1]; rfl
            · rw [if_neg q, decide_eq_false (fun z => q (by rw [z]; exact (zn_ix (by omega)).symm))]
              simp)]
          have h70 : (zR B 70 3 (mtN M w i)).1 70 (zz_ix (zo M (rd M 6 (zn i) 28))) = mtN M w i (zz_ix (zo M (rd M 6 (zn i) 28))) := if_pos ⟨rfl, p2⟩
          generalize zR B 70 3 (mtN M w i) = C at hr hk hg hz h70 ⊢
          (rw [e_X8_countMates_22]; simp only [e_X8_countMates, zo_iload, zo_lload, zo_aload, zo_istore, zo_lstore, zo_astore, zo_iinc, zo_pushI, zo_pushL, zo_null, zo_ii, zo_iid, zo_ll, zo_li, zo_lcmp, zo_i2l, zo_l2i, zo_dup, zo_dup2, zo_pop, zo_goto, zo_if, zo_icmp, zo_ifnull, zo_gets, zo_mm, zo_throw, zo_ret, zo_aret, zo_lret, q_iret_f, q_iret_1, q_iret_0, q_iret_b, q_c8_0, q_c8_1, q_c8_2, q_c8_3, q_c8_4, q_set_0, q_set_1i, q_set_1r, q_set_1n, q_set_1N, q_set_s, q_set_1j, q_bk_v, q_bk_n, q_if, zb_ite, cond_true, cond_false, List.getElem?_cons_zero, List.getElem?_cons_succ, Nat.reduceAdd, hk, hc, hr, hg, hz, c1, c2, c3, c4, i1, q_aC, h70, zj_some, if_true, if_false, zb_eq0, zb_eq1, zn_1, not_true_eq_false, not_false_eq_true, ite_true, ite_false, if_true, if_false, q_iret_0, q_iret_1, decide_true, decide_false, decide_not, zb_t, zb_f, z10, z01, cond_true, cond_false, Bool.and_true, Bool.true_and, Bool.and_false, Bool.false_and, Bool.not_true, Bool.not_false, true_and, and_true, false_and, and_false, true_or, or_true, false_or, or_false, Bool.true_eq_false, Bool.false_eq_true, eq_self, reduceCtorEq, Bool.or_true, Bool.true_or, Bool.or_false, Bool.false_or])
        · rw [mt_skip fun k hk => by unfold mtP; rw [c4]; simp]
          generalize zR B 70 3 (mtN M w i) = C at hr hk hg hz ⊢
          (rw [e_X8_countMates_22]; simp only [e_X8_countMates, zo_iload, zo_lload, zo_aload, zo_istore, zo_lstore, zo_astore, zo_iinc, zo_pushI, zo_pushL, zo_null, zo_ii, zo_iid, zo_ll, zo_li, zo_lcmp, zo_i2l, zo_l2i, zo_dup, zo_dup2, zo_pop, zo_goto, zo_if, zo_icmp, zo_ifnull, zo_gets, zo_mm, zo_throw, zo_ret, zo_aret, zo_lret, q_iret_f, q_iret_1, q_iret_0, q_iret_b, q_c8_0, q_c8_1, q_c8_2, q_c8_3, q_c8_4, q_set_0, q_set_1i, q_set_1r, q_set_1n, q_set_1N, q_set_s, q_set_1j, q_bk_v, q_bk_n, q_if, zb_ite, cond_true, cond_false, List.getElem?_cons_zero, List.getElem?_cons_succ, Nat.reduceAdd, hk, hc, hr, hg, c1, c2, c3, c4, zj_some, if_true, if_false, zb_eq0, zb_eq1, zn_1, not_true_eq_false, not_false_eq_true, ite_true, ite_false, if_true, if_false, q_iret_0, q_iret_1, decide_true, decide_false, decide_not, zb_t, zb_f, z10, z01, cond_true, cond_false, Bool.and_true, Bool.true_and, Bool.and_false, Bool.false_and, Bool.not_true, Bool.not_false, true_and, and_true, false_and, and_false, true_or, or_true, false_or, or_false, Bool.true_eq_false, Bool.false_eq_true, eq_self, reduceCtorEq, Bool.or_true, Bool.true_or, Bool.or_false, Bool.false_or])
      · rw [mt_skip fun k hk => by unfold mtP; rw [c3]; simp]
        generalize zR B 70 3 (mtN M w i) = C at hr hk hg hz ⊢
        (rw [e_X8_countMates_22]; simp only [e_X8_countMates, zo_iload, zo_lload, zo_aload, zo_istore, zo_lstore, zo_astore, zo_iinc, zo_pushI, zo_pushL, zo_null, zo_ii, zo_iid, zo_ll, zo_li, zo_lcmp, zo_i2l, zo_l2i, zo_dup, zo_dup2, zo_pop, zo_goto, zo_if, zo_icmp, zo_ifnull, zo_gets, zo_mm, zo_throw, zo_ret, zo_aret, zo_lret, q_iret_f, q_iret_1, q_iret_0, q_iret_b, q_c8_0, q_c8_1, q_c8_2, q_c8_3, q_c8_4, q_set_0, q_set_1i, q_set_1r, q_set_1n, q_set_1N, q_set_s, q_set_1j, q_bk_v, q_bk_n, q_if, zb_ite, cond_true, cond_false, List.getElem?_cons_zero, List.getElem?_cons_succ, Nat.reduceAdd, hk, hc, hr, hg, c1, c2, c3, zj_some, if_true, if_false, zb_eq0, zb_eq1, zn_1, not_true_eq_false, not_false_eq_true, ite_true, ite_false, if_true, if_false, q_iret_0, q_iret_1, decide_true, decide_false, decide_not, zb_t, zb_f, z10, z01, cond_true, cond_false, Bool.and_true, Bool.true_and, Bool.and_false, Bool.false_and, Bool.not_true, Bool.not_false, true_and, and_true, false_and, and_false, true_or, or_true, false_or, or_false, Bool.true_eq_false, Bool.false_eq_true, eq_self, reduceCtorEq, Bool.or_true, Bool.true_or, Bool.or_false, Bool.false_or])
    · rw [mt_skip fun k hk => by unfold mtP; rw [decide_eq_false c2]; simp]
      generalize zR B 70 3 (mtN M w i) = C at hr hk hg hz ⊢
      (rw [e_X8_countMates_22]; simp only [e_X8_countMates, zo_iload, zo_lload, zo_aload, zo_istore, zo_lstore, zo_astore, zo_iinc, zo_pushI, zo_pushL, zo_null, zo_ii, zo_iid, zo_ll, zo_li, zo_lcmp, zo_i2l, zo_l2i, zo_dup, zo_dup2, zo_pop, zo_goto, zo_if, zo_icmp, zo_ifnull, zo_gets, zo_mm, zo_throw, zo_ret, zo_aret, zo_lret, q_iret_f, q_iret_1, q_iret_0, q_iret_b, q_c8_0, q_c8_1, q_c8_2, q_c8_3, q_c8_4, q_set_0, q_set_1i, q_set_1r, q_set_1n, q_set_1N, q_set_s, q_set_1j, q_bk_v, q_bk_n, q_if, zb_ite, cond_true, cond_false, List.getElem?_cons_zero, List.getElem?_cons_succ, Nat.reduceAdd, hk, hc, hr, c1, c2, zj_some, if_true, if_false, zb_eq0, zb_eq1, zn_1, not_true_eq_false, not_false_eq_true, ite_true, ite_false, if_true, if_false, q_iret_0, q_iret_1, decide_true, decide_false, decide_not, zb_t, zb_f, z10, z01, cond_true, cond_false, Bool.and_true, Bool.true_and, Bool.and_false, Bool.false_and, Bool.not_true, Bool.not_false, true_and, and_true, false_and, and_false, true_or, or_true, false_or, or_false, Bool.true_eq_false, Bool.false_eq_true, eq_self, reduceCtorEq, Bool.or_true, Bool.true_or, Bool.or_false, Bool.false_or])) none
  rw [st, show zz_ev tX8_countMates 2 [some (.ref 6), some (.int w), some (.int (zn 0)), none] [] (zR B 70 0 (fun _ => 0)) = _ from lp1, md]
  refine (show _ = _ from lp2).trans ?_
  obtain ⟨hk, hn⟩ := b6_k (hBR 3 (mtN M w (nv M 6)))
  generalize zR B 70 3 (mtN M w (nv M 6)) = C at hk ⊢
  have hc := zk_out hn
  (rw [e_X8_countMates_22]; simp only [e_X8_countMates, zo_iload, zo_lload, zo_aload, zo_istore, zo_lstore, zo_astore, zo_iinc, zo_pushI, zo_pushL, zo_null, zo_ii, zo_iid, zo_ll, zo_li, zo_lcmp, zo_i2l, zo_l2i, zo_dup, zo_dup2, zo_pop, zo_goto, zo_if, zo_icmp, zo_ifnull, zo_gets, zo_mm, zo_throw, zo_ret, zo_aret, zo_lret, q_iret_f, q_iret_1, q_iret_0, q_iret_b, q_c8_0, q_c8_1, q_c8_2, q_c8_3, q_c8_4, q_set_0, q_set_1i, q_set_1r, q_set_1n, q_set_1N, q_set_s, q_set_1j, q_bk_v, q_bk_n, q_if, zb_ite, cond_true, cond_false, List.getElem?_cons_zero, List.getElem?_cons_succ, Nat.reduceAdd, hk, hc, if_true, if_false, zb_eq0, zb_eq1, zn_1, not_true_eq_false, not_false_eq_true, ite_true, ite_false, if_true, if_false, q_iret_0, q_iret_1, decide_true, decide_false, decide_not, zb_t, zb_f, z10, z01, cond_true, cond_false, Bool.and_true, Bool.true_and, Bool.and_false, Bool.false_and, Bool.not_true, Bool.not_false, true_and, and_true, false_and, and_false, true_or, or_true, false_or, or_false, Bool.true_eq_false, Bool.false_eq_true, eq_self, reduceCtorEq, Bool.or_true, Bool.true_or, Bool.or_false, Bool.false_or])
/-- the numbers that were counted stand in the arrays -/
def zCt (M : zzMd) (w : Int32) (B : zzMd) : Prop := zB6 M B ∧ (∀ k, k < 60 → B.1 69 k = usN M (nv M 6) k) ∧ ∀ k, k < 3 → B.1 70 k = mtN M w (nv M 6) k
def opn (A : zzMd) (x : Int32) : Bool := stay A 6 x 4 && (decide (rd A 6 x 27 = 1) && decide (rd A 6 x 9 = 0))
theorem sp_isOpen {M B : zzMd} (h : zB6 M B) (x : Int32) : fX8_isOpen [.ref 6, .int x] B = some (.inl (some (.int (zb (opn M x)))), B) := by
  have hr := b6_read h
  have hs := b6_stay h
  rw [s_X8_isOpen]
  unfold opn
  cases c1 : stay M 6 x 4 <;> by_cases c2 : rd M 6 x 27 = 1 <;> by_cases c3 : rd M 6 x 9 = 0 <;> (simp only [e_X8_isOpen, zo_iload, zo_lload, zo_aload, zo_istore, zo_lstore, zo_astore, zo_iinc, zo_pushI, zo_pushL, zo_null, zo_ii, zo_iid, zo_ll, zo_li, zo_lcmp, zo_i2l, zo_l2i, zo_dup, zo_dup2, zo_pop, zo_goto, zo_if, zo_icmp, zo_ifnull, zo_gets, zo_mm, zo_throw, zo_ret, zo_aret, zo_lret, q_iret_f, q_iret_1, q_iret_0, q_iret_b, q_c8_0, q_c8_1, q_c8_2, q_c8_3, q_c8_4, q_set_0, q_set_1i, q_set_1r, q_set_1n, q_set_1N, q_set_s, q_set_1j, q_bk_v, q_bk_n, q_if, zb_ite, cond_true, cond_false, List.getElem?_cons_zero, List.getElem?_cons_succ, Nat.reduceAdd, hr, hs, c1, c2, c3, if_true, if_false, zb_eq0, zb_eq1, zn_1, not_true_eq_false, not_false_eq_true, ite_true, ite_false, if_true, if_false, q_iret_0, q_iret_1, decide_true, decide_false, decide_not, zb_t, zb_f, z10, z01, cond_true, cond_false, Bool.and_true, Bool.true_and, Bool.and_false, Bool.false_and, Bool.not_true, Bool.not_false, true_and, and_true, false_and, and_false, true_or, or_true, false_or, or_false, Bool.true_eq_false, Bool.false_eq_true, eq_self, reduceCtorEq, Bool.or_true, Bool.true_or, Bool.or_false, Bool.false_or])
def lft (A : zzMd) (i : Nat) : Int32 := rd A 6 (zn i) 7 - usN A (nv A 6) i
theorem sp_roomLeft {M B : zzMd} {w : Int32} (h : zCt M w B) {i : Nat} (hi : i < 60) : fX8_roomLeft [.ref 6, .int (zn i)] B = some (.inl (some (.int (lft M i))), B) := by
  have hr := b6_read h.1
  have hu := h.2.1 i hi
  have b1 : zz_inb (zn i) 60 = true := zn_inT hi (by decide)
  have x1 : zz_ix (zn i) = i := zn_ix (by omega)
  rw [s_X8_roomLeft]
  unfold lft
  (simp only [e_X8_roomLeft, zo_iload, zo_lload, zo_aload, zo_istore, zo_lstore, zo_astore, zo_iinc, zo_pushI, zo_pushL, zo_null, zo_ii, zo_iid, zo_ll, zo_li, zo_lcmp, zo_i2l, zo_l2i, zo_dup, zo_dup2, zo_pop, zo_goto, zo_if, zo_icmp, zo_ifnull, zo_gets, zo_mm, zo_throw, zo_ret, zo_aret, zo_lret, q_iret_f, q_iret_1, q_iret_0, q_iret_b, q_c8_0, q_c8_1, q_c8_2, q_c8_3, q_c8_4, q_set_0, q_set_1i, q_set_1r, q_set_1n, q_set_1N, q_set_s, q_set_1j, q_bk_v, q_bk_n, q_if, zb_ite, cond_true, cond_false, List.getElem?_cons_zero, List.getElem?_cons_succ, Nat.reduceAdd, hr, b1, x1, q_aC, hu, if_true, if_false, zb_eq0, zb_eq1, zn_1, not_true_eq_false, not_false_eq_true, ite_true, ite_false, if_true, if_false, q_iret_0, q_iret_1, decide_true, decide_false, decide_not, zb_t, zb_f, z10, z01, cond_true, cond_false, Bool.and_true, Bool.true_and, Bool.and_false, Bool.false_and, Bool.not_true, Bool.not_false, true_and, and_true, false_and, and_false, true_or, or_true, false_or, or_false, Bool.true_eq_false, Bool.false_eq_true, eq_self, reduceCtorEq, Bool.or_true, Bool.true_or, Bool.or_false, Bool.false_or])
def few (A : zzMd) (w : Int32) (i k : Nat) : Int32 := mtN A w (nv A 6) (zz_ix (zo A (zn k))) - mtN A w (nv A 6) (zz_ix (zo A (zn i)))
def btr (A : zzMd) (w : Int32) (i k : Nat) : Bool := decide (0 < few A w i k) || (decide (few A w i k = 0) && !decide (lft A i ≤ lft A k))
theorem sp_isBetter {M B : zzMd} {w : Int32} (h : zCt M w B) {i k : Nat} (hi : i < 60) (hk : k < 60) : fX8_isBetter [.ref 6, .int (zn i), .int (zn k)] B = some (.inl (some (.int (zb (btr M w i k)))), B) := by
  have hz := sp_zoneOf h.1
  have hl1 := sp_roomLeft h hi
  have hl2 := sp_roomLeft h hk
  obtain ⟨p1, p2⟩ := zo_lt M (zn i)
  obtain ⟨q1, q2⟩ := zo_lt M (zn k)
  have i1 : zz_inb (zo M (zn i)) 3 = true := by rw [p1]; exact zn_inT p2 (by decide)
  have i2 : zz_inb (zo M (zn k)) 3 = true := by rw [q1]; exact zn_inT q2 (by decide)
  have e1 := h.2.2 _ p2
  have e2 := h.2.2 _ q2
  rw [s_X8_isBetter]
  unfold btr
  have ef : mtN M w (nv M 6) (zz_ix (zo M (zn k))) - mtN M w (nv M 6) (zz_ix (zo M (zn i))) = few M w i k := rfl
  by_cases c1 : 0 < few M w i k
  · (simp only [e_X8_isBetter, zo_iload, zo_lload, zo_aload, zo_istore, zo_lstore, zo_astore, zo_iinc, zo_pushI, zo_pushL, zo_null, zo_ii, zo_iid, zo_ll, zo_li, zo_lcmp, zo_i2l, zo_l2i, zo_dup, zo_dup2, zo_pop, zo_goto, zo_if, zo_icmp, zo_ifnull, zo_gets, zo_mm, zo_throw, zo_ret, zo_aret, zo_lret, q_iret_f, q_iret_1, q_iret_0, q_iret_b, q_c8_0, q_c8_1, q_c8_2, q_c8_3, q_c8_4, q_set_0, q_set_1i, q_set_1r, q_set_1n, q_set_1N, q_set_s, q_set_1j, q_bk_v, q_bk_n, q_if, zb_ite, cond_true, cond_false, List.getElem?_cons_zero, List.getElem?_cons_succ, Nat.reduceAdd, hz, i1, i2, q_aC, e1, e2, ef, c1, if_true, if_false, zb_eq0, zb_eq1, zn_1, not_true_eq_false, not_false_eq_true, ite_true, ite_false, if_true, if_false, q_iret_0, q_iret_1, decide_true, decide_false, decide_not, zb_t, zb_f, z10, z01, cond_true, cond_false, Bool.and_true, Bool.true_and, Bool.and_false, Bool.false_and, Bool.not_true, Bool.not_false, true_and, and_true, false_and, and_false, true_or, or_true, false_or, or_false, Bool.true_eq_false, Bool.false_eq_true, eq_self, reduceCtorEq, Bool.or_true, Bool.true_or, Bool.or_false, Bool.false_or])
  · by_cases c2 : few M w i k = 0
    · have n0 : ((0 : Int32) < 0) = False := eq_false (by decide)
      by_cases c3 : lft M i ≤ lft M k <;> (simp only [e_X8_isBetter, zo_iload, zo_lload, zo_aload, zo_istore, zo_lstore, zo_astore, zo_iinc, zo_pushI, zo_pushL, zo_null, zo_ii, zo_iid, zo_ll, zo_li, zo_lcmp, zo_i2l, zo_l2i, zo_dup, zo_dup2, zo_pop, zo_goto, zo_if, zo_icmp, zo_ifnull, zo_gets, zo_mm, zo_throw, zo_ret, zo_aret, zo_lret, q_iret_f, q_iret_1, q_iret_0, q_iret_b, q_c8_0, q_c8_1, q_c8_2, q_c8_3, q_c8_4, q_set_0, q_set_1i, q_set_1r, q_set_1n, q_set_1N, q_set_s, q_set_1j, q_bk_v, q_bk_n, q_if, zb_ite, cond_true, cond_false, List.getElem?_cons_zero, List.getElem?_cons_succ, Nat.reduceAdd, hz, i1, i2, q_aC, e1, e2, ef, c2, n0, hl1, hl2, c3, if_true, if_false, zb_eq0, zb_eq1, zn_1, not_true_eq_false, not_false_eq_true, ite_true, ite_false, if_true, if_false, q_iret_0, q_iret_1, decide_true, decide_false, decide_not, zb_t, zb_f, z10, z01, cond_true, cond_false, Bool.and_true, Bool.true_and, Bool.and_false, Bool.false_and, Bool.not_true, Bool.not_false, true_and, and_true, false_and, and_false, true_or, or_true, false_or, or_false, Bool.true_eq_false, Bool.false_eq_true, eq_self, reduceCtorEq, Bool.or_true, Bool.true_or, Bool.or_false, Bool.false_or])
    · (simp only [e_X8_isBetter, zo_iload, zo_lload, zo_aload, zo_istore, zo_lstore, zo_astore, zo_iinc, zo_pushI, zo_pushL, zo_null, zo_ii, zo_iid, zo_ll, zo_li, zo_lcmp, zo_i2l, zo_l2i, zo_dup, zo_dup2, zo_pop, zo_goto, zo_if, zo_icmp, zo_ifnull, zo_gets, zo_mm, zo_throw, zo_ret, zo_aret, zo_lret, q_iret_f, q_iret_1, q_iret_0, q_iret_b, q_c8_0, q_c8_1, q_c8_2, q_c8_3, q_c8_4, q_set_0, q_set_1i, q_set_1r, q_set_1n, q_set_1N, q_set_s, q_set_1j, q_bk_v, q_bk_n, q_if, zb_ite, cond_true, cond_false, List.getElem?_cons_zero, List.getElem?_cons_succ, Nat.reduceAdd, hz, i1, i2, q_aC, e1, e2, ef, c1, c2, if_true, if_false, zb_eq0, zb_eq1, zn_1, not_true_eq_false, not_false_eq_true, ite_true, ite_false, if_true, if_false, q_iret_0, q_iret_1, decide_true, decide_false, decide_not, zb_t, zb_f, z10, z01, cond_true, cond_false, Bool.and_true, Bool.true_and, Bool.and_false, Bool.false_and, Bool.not_true, Bool.not_false, true_and, and_true, false_and, and_false, true_or, or_true, false_or, or_false, Bool.true_eq_false, Bool.false_eq_true, eq_self, reduceCtorEq, Bool.or_true, Bool.true_or, Bool.or_false, Bool.false_or])
def bst (A : zzMd) (w nd : Int32) (n : Nat) : Option Nat := zfold n (fun i b => bif opn A (zn i) && (!decide (lft A i < nd) && (match b with | none => true | some k => btr A w i k)) then some i else b) none
theorem bst_s (A : zzMd) (w nd : Int32) (n : Nat) : bst A w nd (n + 1) = bif opn A (zn n) && (!decide (lft A n < nd) && (match bst A w nd n with | none => true | some k => btr A w n k)) then some n else bst A w nd n := rfl
theorem bst_lt {A : zzMd} {w nd : Int32} : ∀ {n k : Nat}, bst A w nd n = some k → k < n
  | 0, _, h => by cases h
  | n + 1, k, h => by
    rw [bst_s] at h
    cases c : opn A (zn n) && (!decide (lft A n < nd) && (match bst A w nd n with | none => true | some k => btr A w n k))
    · rw [c] at h
      exact Nat.lt_succ_of_lt (bst_lt h)
    · rw [c] at h
      cases h
      exact Nat.lt_succ_self _
theorem sp_bestNode {M B : zzMd} {w : Int32} (h : zCt M w B) (nd : Int32) : fX8_bestNode [.ref 6, .int nd] B = some (.inl (some (.int (zoi (bst M w nd (nv M 6))))), B) := by
  have ho := sp_isOpen h.1
  obtain ⟨hk, hn⟩ := b6_k h.1
  have st : fX8_bestNode [.ref 6, .int nd] B = zz_ev tX8_bestNode 4 [some (.ref 6), some (.int nd), some (.int (-1)), some (.int (zn 0))] [] B := by
    rw [s_X8_bestNode]
    (simp only [e_X8_bestNode, zo_iload, zo_lload, zo_aload, zo_istore, zo_lstore, zo_astore, zo_iinc, zo_pushI, zo_pushL, zo_null, zo_ii, zo_iid, zo_ll, zo_li, zo_lcmp, zo_i2l, zo_l2i, zo_dup, zo_dup2, zo_pop, zo_goto, zo_if, zo_icmp, zo_ifnull, zo_gets, zo_mm, zo_throw, zo_ret, zo_aret, zo_lret, q_iret_f, q_iret_1, q_iret_0, q_iret_b, q_c8_0, q_c8_1, q_c8_2, q_c8_3, q_c8_4, q_set_0, q_set_1i, q_set_1r, q_set_1n, q_set_1N, q_set_s, q_set_1j, q_bk_v, q_bk_n, q_if, zb_ite, cond_true, cond_false, List.getElem?_cons_zero, List.getElem?_cons_succ, Nat.reduceAdd, if_true, if_false, zb_eq0, zb_eq1, zn_1, not_true_eq_false, not_false_eq_true, ite_true, ite_false, if_true, if_false, q_iret_0, q_iret_1, decide_true, decide_false, decide_not, zb_t, zb_f, z10, z01, cond_true, cond_false, Bool.and_true, Bool.true_and, Bool.and_false, Bool.false_and, Bool.not_true, Bool.not_false, true_and, and_true, false_and, and_false, true_or, or_true, false_or, or_false, Bool.true_eq_false, Bool.false_eq_true, eq_self, reduceCtorEq, Bool.or_true, Bool.true_or, Bool.or_false, Bool.false_or])
    rfl
  have lp := zl_go (E := fun i => zz_ev tX8_bestNode 4 [some (.ref 6), some (.int nd), some (.int (zoi (bst M w nd i))), some (.int (zn i))] [] B) (nv M 6) (fun i hi => by
    have hc := zk_in hi hn
    have hl := sp_roomLeft h (i := i) (by omega)
    rw [bst_s]
    cases c1 : opn M (zn i)
    · (rw [e_X8_bestNode_4]; simp only [e_X8_bestNode, zo_iload, zo_lload, zo_aload, zo_istore, zo_lstore, zo_astore, zo_iinc, zo_pushI, zo_pushL, zo_null, zo_ii, zo_iid, zo_ll, zo_li, zo_lcmp, zo_i2l, zo_l2i, zo_dup, zo_dup2, zo_pop, zo_goto, zo_if, zo_icmp, zo_ifnull, zo_gets, zo_mm, zo_throw, zo_ret, zo_aret, zo_lret, q_iret_f, q_iret_1, q_iret_0, q_iret_b, q_c8_0, q_c8_1, q_c8_2, q_c8_3, q_c8_4, q_set_0, q_set_1i, q_set_1r, q_set_1n, q_set_1N, q_set_s, q_set_1j, q_bk_v, q_bk_n, q_if, zb_ite, cond_true, cond_false, List.getElem?_cons_zero, List.getElem?_cons_succ, Nat.reduceAdd, hk, hc, ho, c1, if_true, if_false, zb_eq0, zb_eq1, zn_1, not_true_eq_false, not_false_eq_true, ite_true, ite_false, if_true, if_false, q_iret_0, q_iret_1, decide_true, decide_false, decide_not, zb_t, zb_f, z10, z01, cond_true, cond_false, Bool.and_true, Bool.true_and, Bool.and_false, Bool.false_and, Bool.not_true, Bool.not_false, true_and, and_true, false_and, and_false, true_or, or_true, false_or, or_false, Bool.true_eq_false, Bool.false_eq_true, eq_self, reduceCtorEq, Bool.or_true, Bool.true_or, Bool.or_false, Bool.false_or])
    by_cases c2 : lft M i < nd
    · (rw [e_X8_bestNode_4]; simp only [e_X8_bestNode, zo_iload, zo_lload, zo_aload, zo_istore, zo_lstore, zo_astore, zo_iinc, zo_pushI, zo_pushL, zo_null, zo_ii, zo_iid, zo_ll, zo_li, zo_lcmp, zo_i2l, zo_l2i, zo_dup, zo_dup2, zo_pop, zo_goto, zo_if, zo_icmp, zo_ifnull, zo_gets, zo_mm, zo_throw, zo_ret, zo_aret, zo_lret, q_iret_f, q_iret_1, q_iret_0, q_iret_b, q_c8_0, q_c8_1, q_c8_2, q_c8_3, q_c8_4, q_set_0, q_set_1i, q_set_1r, q_set_1n, q_set_1N, q_set_s, q_set_1j, q_bk_v, q_bk_n, q_if, zb_ite, cond_true, cond_false, List.getElem?_cons_zero, List.getElem?_cons_succ, Nat.reduceAdd, hk, hc, ho, c1, hl, c2, if_true, if_false, zb_eq0, zb_eq1, zn_1, not_true_eq_false, not_false_eq_true, ite_true, ite_false, if_true, if_false, q_iret_0, q_iret_1, decide_true, decide_false, decide_not, zb_t, zb_f, z10, z01, cond_true, cond_false, Bool.and_true, Bool.true_and, Bool.and_false, Bool.false_and, Bool.not_true, Bool.not_false, true_and, and_true, false_and, and_false, true_or, or_true, false_or, or_false, Bool.true_eq_false, Bool.false_eq_true, eq_self, reduceCtorEq, Bool.or_true, Bool.true_or, Bool.or_false, Bool.false_or])
    cases c3 : bst M w nd i with
    | none => (rw [e_X8_bestNode_4]; simp only [e_X8_bestNode, zo_iload, zo_lload, zo_aload, zo_istore, zo_lstore, zo_astore, zo_iinc, zo_pushI, zo_pushL, zo_null, zo_ii, zo_iid, zo_ll, zo_li, zo_lcmp, zo_i2l, zo_l2i, zo_dup, zo_dup2, zo_pop, zo_goto, zo_if, zo_icmp, zo_ifnull, zo_gets, zo_mm, zo_throw, zo_ret, zo_aret, zo_lret, q_iret_f, q_iret_1, q_iret_0, q_iret_b, q_c8_0, q_c8_1, q_c8_2, q_c8_3, q_c8_4, q_set_0, q_set_1i, q_set_1r, q_set_1n, q_set_1N, q_set_s, q_set_1j, q_bk_v, q_bk_n, q_if, zb_ite, cond_true, cond_false, List.getElem?_cons_zero, List.getElem?_cons_succ, Nat.reduceAdd, hk, hc, ho, c1, hl, c2, zoi, if_true, if_false, zb_eq0, zb_eq1, zn_1, not_true_eq_false, not_false_eq_true, ite_true, ite_false, if_true, if_false, q_iret_0, q_iret_1, decide_true, decide_false, decide_not, zb_t, zb_f, z10, z01, cond_true, cond_false, Bool.and_true, Bool.true_and, Bool.and_false, Bool.false_and, Bool.not_true, Bool.not_false, true_and, and_true, false_and, and_false, true_or, or_true, false_or, or_false, Bool.true_eq_false, Bool.false_eq_true, eq_self, reduceCtorEq, Bool.or_true, Bool.true_or, Bool.or_false, Bool.false_or])
    | some k =>
      have k1 := bst_lt c3
      have hb := sp_isBetter h (i := i) (k := k) (by omega) (by omega)
      have km := zn_m1 (k := k) (by omega)
      cases c4 : btr M w i k <;> (rw [e_X8_bestNode_4]; simp only [e_X8_bestNode, zo_iload, zo_lload, zo_aload, zo_istore, zo_lstore, zo_astore, zo_iinc, zo_pushI, zo_pushL, zo_null, zo_ii, zo_iid, zo_ll, zo_li, zo_lcmp, zo_i2l, zo_l2i, zo_dup, zo_dup2, zo_pop, zo_goto, zo_if, zo_icmp, zo_ifnull, zo_gets, zo_mm, zo_throw, zo_ret, zo_aret, zo_lret, q_iret_f, q_iret_1, q_iret_0, q_iret_b, q_c8_0, q_c8_1, q_c8_2, q_c8_3, q_c8_4, q_set_0, q_set_1i, q_set_1r, q_set_1n, q_set_1N, q_set_s, q_set_1j, q_bk_v, q_bk_n, q_if, zb_ite, cond_true, cond_false, List.getElem?_cons_zero, List.getElem?_cons_succ, Nat.reduceAdd, hk, hc, ho, c1, hl, c2, zoi, km, hb, c4, if_true, if_false, zb_eq0, zb_eq1, zn_1, not_true_eq_false, not_false_eq_true, ite_true, ite_false, if_true, if_false, q_iret_0, q_iret_1, decide_true, decide_false, decide_not, zb_t, zb_f, z10, z01, cond_true, cond_false, Bool.and_true, Bool.true_and, Bool.and_false, Bool.false_and, Bool.not_true, Bool.not_false, true_and, and_true, false_and, and_false, true_or, or_true, false_or, or_false, Bool.true_eq_false, Bool.false_eq_true, eq_self, reduceCtorEq, Bool.or_true, Bool.true_or, Bool.or_false, Bool.false_or]))
  refine (st.trans lp).trans ?_
  have hc := zk_out hn
  (rw [e_X8_bestNode_4]; simp only [e_X8_bestNode, zo_iload, zo_lload, zo_aload, zo_istore, zo_lstore, zo_astore, zo_iinc, zo_pushI, zo_pushL, zo_null, zo_ii, zo_iid, zo_ll, zo_li, zo_lcmp, zo_i2l, zo_l2i, zo_dup, zo_dup2, zo_pop, zo_goto, zo_if, zo_icmp, zo_ifnull, zo_gets, zo_mm, zo_throw, zo_ret, zo_aret, zo_lret, q_iret_f, q_iret_1, q_iret_0, q_iret_b, q_c8_0, q_c8_1, q_c8_2, q_c8_3, q_c8_4, q_set_0, q_set_1i, q_set_1r, q_set_1n, q_set_1N, q_set_s, q_set_1j, q_bk_v, q_bk_n, q_if, zb_ite, cond_true, cond_false, List.getElem?_cons_zero, List.getElem?_cons_succ, Nat.reduceAdd, hk, hc, if_true, if_false, zb_eq0, zb_eq1, zn_1, not_true_eq_false, not_false_eq_true, ite_true, ite_false, if_true, if_false, q_iret_0, q_iret_1, decide_true, decide_false, decide_not, zb_t, zb_f, z10, z01, cond_true, cond_false, Bool.and_true, Bool.true_and, Bool.and_false, Bool.false_and, Bool.not_true, Bool.not_false, true_and, and_true, false_and, and_false, true_or, or_true, false_or, or_false, Bool.true_eq_false, Bool.false_eq_true, eq_self, reduceCtorEq, Bool.or_true, Bool.true_or, Bool.or_false, Bool.false_or])
end

section
/-! turns -/
noncomputable def aWorks (A : zzMd) (c : Nat) (n : Nat) : zzMd := zfold n (fun _ B => (aWork B c).2) A
noncomputable def aTn1 (A : zzMd) (c : Nat) : zzMd := aWorks (aLook A c 400) c (qn (aLook A c 400) c)
noncomputable def aTn8 (A : zzMd) (k : Nat) : zzMd := zfold k (fun c B => aTn1 B c) A
noncomputable def aTurn (A : zzMd) (n : Nat) : zzMd := zfold n (fun _ B => aTn8 B 8) A
theorem aTurn_s (A : zzMd) (n : Nat) : aTurn A (n + 1) = aTn8 (aTurn A n) 8 := by
  unfold aTurn
  exact zfold_s n (fun _ B => aTn8 B 8) A
section
variable {A B M R : zzMd} {c : Nat}
theorem Iv_work (H : Iv A) (hc : c < 8) : Iv (aWork A c).2 := by
  obtain ⟨hA, ⟨R, HR⟩, I⟩ := H
  have H' : Rel (nz A) R := Rel_at hA HR
  obtain ⟨M', -, e⟩ := k_work H' hc
  rw [hA] at e
  exact ⟨by rw [← e, nz_nz], Rel_work HR hc, (II_work I HR hc).1⟩
theorem Iv_look (H : Iv A) (hc : c < 8) {m : Nat} (hm : m ≤ 400) : Iv (aLook A c m) := by
  obtain ⟨hA, ⟨R, HR⟩, I⟩ := H
  exact ⟨by rw [nz_Look hc, hA], Rel_look hA HR hc hm, (II_look I HR hc m).1⟩
theorem t_K (H : Iv (nz M)) (hc : c < 8) {q : Nat} (hq : q ≤ 60) (n b t : Int32) : ∀ i, i ≤ q → ∃ M', zz_ev tX11_turn 73 [some (.ref 0), some (.int n), some (.int b), some (.int t), some (.int (zn c)), some (.ref (3 + c)), some (.int (zn q)), some (.int 0)] [] M = zz_ev tX11_turn 73 [some (.ref 0), some (.int n), some (.int b), some (.int t), some (.int (zn c)), some (.ref (3 + c)), some (.int (zn q)), some (.int (zn i))] [] M' ∧ nz M' = aWorks (nz M) c i ∧ Iv (nz M') := by
  intro i
  induction i with
  | zero => exact fun _ => ⟨M, rfl, rfl, H⟩
  | succ i ih =>
    intro hi
    obtain ⟨M1, e1, e2, H1⟩ := ih (by omega)
    obtain ⟨R1, HR1⟩ := H1.2.1
    obtain ⟨M2, w1, w2⟩ := k_work HR1 hc
    have l : (zn q ≤ zn i) = False := zn_le (a := q) (b := i) (by omega) (by omega) ▸ eq_false (by omega)
    refine ⟨M2, e1.trans ?_, ?_, by rw [w2]; exact Iv_work H1 hc⟩
    · generalize (aWork (nz M1) c).1 = v at w1
      clear e1 e2 ih H H1 HR1 w2
      rcases zc8 hc with rfl | rfl | rfl | rfl | rfl | rfl | rfl | rfl <;> (simp only [Nat.reduceAdd, Nat.mul_zero, Nat.add_zero] at *) <;> (rw [e_X11_turn_73]; simp only [e_X11_turn, zo_iload, zo_lload, zo_aload, zo_istore, zo_lstore, zo_astore, zo_iinc, zo_pushI, zo_pushL, zo_null, zo_ii, zo_iid, zo_ll, zo_li, zo_lcmp, zo_i2l, zo_l2i, zo_dup, zo_dup2, zo_pop, zo_goto, zo_if, zo_icmp, zo_ifnull, zo_gets, zo_mm, zo_throw, zo_ret, zo_aret, zo_lret, q_iret_f, q_iret_1, q_iret_0, q_iret_b, q_c8_0, q_c8_1, q_c8_2, q_c8_3, q_c8_4, q_set_0, q_set_1i, q_set_1r, q_set_1n, q_set_1N, q_set_s, q_set_1j, q_bk_v, q_bk_n, q_if, zb_ite, cond_true, cond_false, List.getElem?_cons_zero, List.getElem?_cons_succ, Nat.reduceAdd, q_bx_v, q_bx_n, q_bx_x, l, w1, if_true, if_false, zb_eq0, zb_eq1, zn_1, not_true_eq_false, not_false_eq_true, ite_true, ite_false, if_true, if_false, q_iret_0, q_iret_1, decide_true, decide_false, decide_not, zb_t, zb_f, z10, z01, cond_true, cond_false, Bool.and_true, Bool.true_and, Bool.and_false, Bool.false_and, Bool.not_true, Bool.not_false, true_and, and_true, false_and, and_false, true_or, or_true, false_or, or_false, Bool.true_eq_false, Bool.false_eq_true, eq_self, reduceCtorEq, Bool.or_true, Bool.true_or, Bool.or_false, Bool.false_or])
    · rw [w2, e2]; rfl
theorem t_1 (H : Iv (nz M)) (hc : c < 8) (n b t : Int32) (j5 j6 j7 : Option Value) : ∃ M' j5' j6' j7', zz_ev tX11_turn 39 [some (.ref 0), some (.int n), some (.int b), some (.int t), some (.int (zn c)), j5, j6, j7] [] M = zz_ev tX11_turn 39 [some (.ref 0), some (.int n), some (.int b), some (.int t), some (.int (zn (c + 1))), j5', j6', j7'] [] M' ∧ nz M' = aTn1 (nz M) c ∧ Iv (nz M') := by
  obtain ⟨R, HR⟩ := H.2.1
  have la := h_seesAll HR hc
  have e1 := nz_Look hc M 400
  have H1 : Iv (nz (aLook M c 400)) := by rw [e1]; exact Iv_look H hc (Nat.le_refl _)
  have W1 : zIC (aLook M c 400) := by
    obtain ⟨R1, HR1⟩ := H1.2.1
    exact zIC_nz.mp HR1.1.1.2
  obtain ⟨q3, q4⟩ := (W1.2.2 c hc).2.1
  rw [q3] at la
  have eq : qn (nz (aLook M c 400)) c = qn (aLook M c 400) c := qn_nz hc
  have fin : ∀ M', nz M' = aWorks (nz (aLook M c 400)) c (qn (aLook M c 400) c) → nz M' = aTn1 (nz M) c := fun M' h => by
    unfold aTn1
    rw [← e1, eq]; exact h
  generalize aLook M c 400 = M1 at *
  generalize qn M1 c = q at *
  obtain ⟨M3, f1, f2, H3⟩ := t_K H1 hc q4 n b t q (Nat.le_refl q)
  have a1 := h_at hc
  have l8 : ((8 : Int32) ≤ zn c) = False := zk_lt (n := 8) hc (Nat.le_refl _) (by decide)
  have lq : (zn q ≤ zn q) = True := zk_ge q4 (by decide)
  have s1 : zz_ev tX11_turn 39 [some (.ref 0), some (.int n), some (.int b), some (.int t), some (.int (zn c)), j5, j6, j7] [] M = zz_ev tX11_turn 73 [some (.ref 0), some (.int n), some (.int b), some (.int t), some (.int (zn c)), some (.ref (3 + c)), some (.int (zn q)), some (.int 0)] [] M1 := by
    clear f1 f2 H H1 H3 W1 HR fin e1 eq q3
    rcases zc8 hc with rfl | rfl | rfl | rfl | rfl | rfl | rfl | rfl <;> (simp only [Nat.reduceAdd, Nat.mul_zero, Nat.add_zero] at *) <;> (rw [e_X11_turn_39]; simp only [e_X11_turn, zo_iload, zo_lload, zo_aload, zo_istore, zo_lstore, zo_astore, zo_iinc, zo_pushI, zo_pushL, zo_null, zo_ii, zo_iid, zo_ll, zo_li, zo_lcmp, zo_i2l, zo_l2i, zo_dup, zo_dup2, zo_pop, zo_goto, zo_if, zo_icmp, zo_ifnull, zo_gets, zo_mm, zo_throw, zo_ret, zo_aret, zo_lret, q_iret_f, q_iret_1, q_iret_0, q_iret_b, q_c8_0, q_c8_1, q_c8_2, q_c8_3, q_c8_4, q_set_0, q_set_1i, q_set_1r, q_set_1n, q_set_1N, q_set_s, q_set_1j, q_bk_v, q_bk_n, q_if, zb_ite, cond_true, cond_false, List.getElem?_cons_zero, List.getElem?_cons_succ, Nat.reduceAdd, q_bx_v, q_bx_n, q_bx_x, l8, a1, la, if_true, if_false, zb_eq0, zb_eq1, zn_1, not_true_eq_false, not_false_eq_true, ite_true, ite_false, if_true, if_false, q_iret_0, q_iret_1, decide_true, decide_false, decide_not, zb_t, zb_f, z10, z01, cond_true, cond_false, Bool.and_true, Bool.true_and, Bool.and_false, Bool.false_and, Bool.not_true, Bool.not_false, true_and, and_true, false_and, and_false, true_or, or_true, false_or, or_false, Bool.true_eq_false, Bool.false_eq_true, eq_self, reduceCtorEq, Bool.or_true, Bool.true_or, Bool.or_false, Bool.false_or])
  have s3 : zz_ev tX11_turn 73 [some (.ref 0), some (.int n), some (.int b), some (.int t), some (.int (zn c)), some (.ref (3 + c)), some (.int (zn q)), some (.int (zn q))] [] M3 = zz_ev tX11_turn 39 [some (.ref 0), some (.int n), some (.int b), some (.int t), some (.int (zn (c + 1))), some (.ref (3 + c)), some (.int (zn q)), some (.int (zn q))] [] M3 := by
    (rw [e_X11_turn_73]; simp only [e_X11_turn, zo_iload, zo_lload, zo_aload, zo_istore, zo_lstore, zo_astore, zo_iinc, zo_pushI, zo_pushL, zo_null, zo_ii, zo_iid, zo_ll, zo_li, zo_lcmp, zo_i2l, zo_l2i, zo_dup, zo_dup2, zo_pop, zo_goto, zo_if, zo_icmp, zo_ifnull, zo_gets, zo_mm, zo_throw, zo_ret, zo_aret, zo_lret, q_iret_f, q_iret_1, q_iret_0, q_iret_b, q_c8_0, q_c8_1, q_c8_2, q_c8_3, q_c8_4, q_set_0, q_set_1i, q_set_1r, q_set_1n, q_set_1N, q_set_s, q_set_1j, q_bk_v, q_bk_n, q_if, zb_ite, cond_true, cond_false, List.getElem?_cons_zero, List.getElem?_cons_succ, Nat.reduceAdd, q_bx_v, q_bx_n, q_bx_x, lq, if_true, if_false, zb_eq0, zb_eq1, zn_1, not_true_eq_false, not_false_eq_true, ite_true, ite_false, if_true, if_false, q_iret_0, q_iret_1, decide_true, decide_false, decide_not, zb_t, zb_f, z10, z01, cond_true, cond_false, Bool.and_true, Bool.true_and, Bool.and_false, Bool.false_and, Bool.not_true, Bool.not_false, true_and, and_true, false_and, and_false, true_or, or_true, false_or, or_false, Bool.true_eq_false, Bool.false_eq_true, eq_self, reduceCtorEq, Bool.or_true, Bool.true_or, Bool.or_false, Bool.false_or])
  exact ⟨M3, _, _, _, s1.trans (f1.trans s3), fin M3 f2, H3⟩
theorem t_8 (H : Iv (nz M)) (n b t : Int32) (j5 j6 j7 : Option Value) : ∀ c, c ≤ 8 → ∃ M' j5' j6' j7', zz_ev tX11_turn 39 [some (.ref 0), some (.int n), some (.int b), some (.int t), some (.int 0), j5, j6, j7] [] M = zz_ev tX11_turn 39 [some (.ref 0), some (.int n), some (.int b), some (.int t), some (.int (zn c)), j5', j6', j7'] [] M' ∧ nz M' = aTn8 (nz M) c ∧ Iv (nz M') := by
  intro c
  induction c with
  | zero => exact fun _ => ⟨M, j5, j6, j7, rfl, rfl, H⟩
  | succ c ih =>
    intro hc
    obtain ⟨M1, j5', j6', j7', e1, e2, H1⟩ := ih (by omega)
    obtain ⟨M2, k5, k6, k7, f1, f2, H2⟩ := t_1 H1 (c := c) (by omega) n b t j5' j6' j7'
    exact ⟨M2, k5, k6, k7, e1.trans f1, by rw [f2, e2]; rfl, H2⟩
theorem t_N (H : Iv (nz M)) {n : Nat} (hn : n ≤ 10) (b : Int32) : ∀ t, t ≤ n → ∃ M' j4 j5 j6 j7, zz_ev tX11_turn 31 [some (.ref 0), some (.int (zn n)), some (.int b), some (.int 0), none, none, none, none] [] M = zz_ev tX11_turn 31 [some (.ref 0), some (.int (zn n)), some (.int b), some (.int (zn t)), j4, j5, j6, j7] [] M' ∧ nz M' = aTurn (nz M) t ∧ Iv (nz M') := by
  intro t
  induction t with
  | zero => exact fun _ => ⟨M, none, none, none, none, rfl, rfl, H⟩
  | succ t ih =>
    intro ht
    obtain ⟨M1, j4, j5, j6, j7, e1, e2, H1⟩ := ih (by omega)
    obtain ⟨M2, k5, k6, k7, f1, f2, H2⟩ := t_8 H1 (zn n) b (zn t) j5 j6 j7 8 (Nat.le_refl 8)
    have l : (zn n ≤ zn t) = False := zn_le (a := n) (b := t) (by omega) (by omega) ▸ eq_false (by omega)
    have l8 : ((8 : Int32) ≤ zn 8) = True := eq_true (by decide)
    have s1 : zz_ev tX11_turn 31 [some (.ref 0), some (.int (zn n)), some (.int b), some (.int (zn t)), j4, j5, j6, j7] [] M1 = zz_ev tX11_turn 39 [some (.ref 0), some (.int (zn n)), some (.int b), some (.int (zn t)), some (.int 0), j5, j6, j7] [] M1 := by
      (rw [e_X11_turn_31]; simp only [e_X11_turn, zo_iload, zo_lload, zo_aload, zo_istore, zo_lstore, zo_astore, zo_iinc, zo_pushI, zo_pushL, zo_null, zo_ii, zo_iid, zo_ll, zo_li, zo_lcmp, zo_i2l, zo_l2i, zo_dup, zo_dup2, zo_pop, zo_goto, zo_if, zo_icmp, zo_ifnull, zo_gets, zo_mm, zo_throw, zo_ret, zo_aret, zo_lret, q_iret_f, q_iret_1, q_iret_0, q_iret_b, q_c8_0, q_c8_1, q_c8_2, q_c8_3, q_c8_4, q_set_0, q_set_1i, q_set_1r, q_set_1n, q_set_1N, q_set_s, q_set_1j, q_bk_v, q_bk_n, q_if, zb_ite, cond_true, cond_false, List.getElem?_cons_zero, List.getElem?_cons_succ, Nat.reduceAdd, q_bx_v, q_bx_n, q_bx_x, l, if_true, if_false, zb_eq0, zb_eq1, zn_1, not_true_eq_false, not_false_eq_true, ite_true, ite_false, if_true, if_false, q_iret_0, q_iret_1, decide_true, decide_false, decide_not, zb_t, zb_f, z10, z01, cond_true, cond_false, Bool.and_true, Bool.true_and, Bool.and_false, Bool.false_and, Bool.not_true, Bool.not_false, true_and, and_true, false_and, and_false, true_or, or_true, false_or, or_false, Bool.true_eq_false, Bool.false_eq_true, eq_self, reduceCtorEq, Bool.or_true, Bool.true_or, Bool.or_false, Bool.false_or])
    have s2 : zz_ev tX11_turn 39 [some (.ref 0), some (.int (zn n)), some (.int b), some (.int (zn t)), some (.int (zn 8)), k5, k6, k7] [] M2 = zz_ev tX11_turn 31 [some (.ref 0), some (.int (zn n)), some (.int b), some (.int (zn (t + 1))), some (.int (zn 8)), k5, k6, k7] [] M2 := by
      (rw [e_X11_turn_39]; simp only [e_X11_turn, zo_iload, zo_lload, zo_aload, zo_istore, zo_lstore, zo_astore, zo_iinc, zo_pushI, zo_pushL, zo_null, zo_ii, zo_iid, zo_ll, zo_li, zo_lcmp, zo_i2l, zo_l2i, zo_dup, zo_dup2, zo_pop, zo_goto, zo_if, zo_icmp, zo_ifnull, zo_gets, zo_mm, zo_throw, zo_ret, zo_aret, zo_lret, q_iret_f, q_iret_1, q_iret_0, q_iret_b, q_c8_0, q_c8_1, q_c8_2, q_c8_3, q_c8_4, q_set_0, q_set_1i, q_set_1r, q_set_1n, q_set_1N, q_set_s, q_set_1j, q_bk_v, q_bk_n, q_if, zb_ite, cond_true, cond_false, List.getElem?_cons_zero, List.getElem?_cons_succ, Nat.reduceAdd, q_bx_v, q_bx_n, q_bx_x, l8, if_true, if_false, zb_eq0, zb_eq1, zn_1, not_true_eq_false, not_false_eq_true, ite_true, ite_false, if_true, if_false, q_iret_0, q_iret_1, decide_true, decide_false, decide_not, zb_t, zb_f, z10, z01, cond_true, cond_false, Bool.and_true, Bool.true_and, Bool.and_false, Bool.false_and, Bool.not_true, Bool.not_false, true_and, and_true, false_and, and_false, true_or, or_true, false_or, or_false, Bool.true_eq_false, Bool.false_eq_true, eq_self, reduceCtorEq, Bool.or_true, Bool.true_or, Bool.or_false, Bool.false_or])
    exact ⟨M2, _, k5, k6, k7, e1.trans (s1.trans (f1.trans s2)), by rw [f2, e2, aTurn_s], H2⟩
theorem g_turn (H : Iv A) {n : Nat} (n1 : 1 ≤ n) (n2 : n ≤ 10) : kW fX11_turn [.ref 0, .int (zn n)] A ((aTurn A n).1 1 3 - A.1 1 3) (aTurn A n) ∧ Iv (aTurn A n) := by
  have key : ∀ M, nz M = A → ∃ M', fX11_turn [.ref 0, .int (zn n)] M = some (.inl (some (.int ((aTurn A n).1 1 3 - A.1 1 3))), M') ∧ nz M' = aTurn A n ∧ Iv (nz M') := fun M hM => by
    subst hM
    have c1 : (zn n < 1) = False := zn_lt (a := n) (b := 1) (by omega) (by decide) ▸ eq_false (by omega)
    have c2 : (zn n ≤ 10) = True := zn_le (a := n) (b := 10) (by omega) (by decide) ▸ eq_true n2
    obtain ⟨M2, j4, j5, j6, j7, e1, e2, H2⟩ := t_N H n2 (M.1 1 3) n (Nat.le_refl n)
    have s1 : zz_ev tX11_turn 0 [some (.ref 0), some (.int (zn n)), none, none, none, none, none, none] [] M = zz_ev tX11_turn 31 [some (.ref 0), some (.int (zn n)), some (.int (M.1 1 3)), some (.int 0), none, none, none, none] [] M := by
      (simp only [e_X11_turn, zo_iload, zo_lload, zo_aload, zo_istore, zo_lstore, zo_astore, zo_iinc, zo_pushI, zo_pushL, zo_null, zo_ii, zo_iid, zo_ll, zo_li, zo_lcmp, zo_i2l, zo_l2i, zo_dup, zo_dup2, zo_pop, zo_goto, zo_if, zo_icmp, zo_ifnull, zo_gets, zo_mm, zo_throw, zo_ret, zo_aret, zo_lret, q_iret_f, q_iret_1, q_iret_0, q_iret_b, q_c8_0, q_c8_1, q_c8_2, q_c8_3, q_c8_4, q_set_0, q_set_1i, q_set_1r, q_set_1n, q_set_1N, q_set_s, q_set_1j, q_bk_v, q_bk_n, q_if, zb_ite, cond_true, cond_false, List.getElem?_cons_zero, List.getElem?_cons_succ, Nat.reduceAdd, q_bx_v, q_bx_n, q_bx_x, c1, c2, if_true, if_false, zb_eq0, zb_eq1, zn_1, not_true_eq_false, not_false_eq_true, ite_true, ite_false, if_true, if_false, q_iret_0, q_iret_1, decide_true, decide_false, decide_not, zb_t, zb_f, z10, z01, cond_true, cond_false, Bool.and_true, Bool.true_and, Bool.and_false, Bool.false_and, Bool.not_true, Bool.not_false, true_and, and_true, false_and, and_false, true_or, or_true, false_or, or_false, Bool.true_eq_false, Bool.false_eq_true, eq_self, reduceCtorEq, Bool.or_true, Bool.true_or, Bool.or_false, Bool.false_or])
    have l : (zn n ≤ zn n) = True := zk_ge n2 (by decide)
    refine ⟨M2, ?_, e2, H2⟩
    have e3 : (aTurn (nz M) n).1 1 3 = M2.1 1 3 := by rw [← e2]; rfl
    rw [s_X11_turn, s1, e1, e3, show (nz M).1 1 3 = M.1 1 3 from rfl]
    clear s1 e1 e2 e3
    (rw [e_X11_turn_31]; simp only [e_X11_turn, zo_iload, zo_lload, zo_aload, zo_istore, zo_lstore, zo_astore, zo_iinc, zo_pushI, zo_pushL, zo_null, zo_ii, zo_iid, zo_ll, zo_li, zo_lcmp, zo_i2l, zo_l2i, zo_dup, zo_dup2, zo_pop, zo_goto, zo_if, zo_icmp, zo_ifnull, zo_gets, zo_mm, zo_throw, zo_ret, zo_aret, zo_lret, q_iret_f, q_iret_1, q_iret_0, q_iret_b, q_c8_0, q_c8_1, q_c8_2, q_c8_3, q_c8_4, q_set_0, q_set_1i, q_set_1r, q_set_1n, q_set_1N, q_set_s, q_set_1j, q_bk_v, q_bk_n, q_if, zb_ite, cond_true, cond_false, List.getElem?_cons_zero, List.getElem?_cons_succ, Nat.reduceAdd, q_bx_v, q_bx_n, q_bx_x, l, if_true, if_false, zb_eq0, zb_eq1, zn_1, not_true_eq_false, not_false_eq_true, ite_true, ite_false, if_true, if_false, q_iret_0, q_iret_1, decide_true, decide_false, decide_not, zb_t, zb_f, z10, z01, cond_true, cond_false, Bool.and_true, Bool.true_and, Bool.and_false, Bool.false_and, Bool.not_true, Bool.not_false, true_and, and_true, false_and, and_false, true_or, or_true, false_or, or_false, Bool.true_eq_false, Bool.false_eq_true, eq_self, reduceCtorEq, Bool.or_true, Bool.true_or, Bool.or_false, Bool.false_or])
  refine ⟨kW_of H.1 fun M hM => ?_, ?_⟩
  · obtain ⟨M', h1, h2, -⟩ := key M hM
    exact ⟨M', h1, h2⟩
  · obtain ⟨M', -, h2, h3⟩ := key A H.1
    rw [← h2]; exact h3
/-- what turns leave as it is; the log does not get shorter -/
theorem ve_work (H : Iv A) (hc : c < 8) : ve A 1 ≤ ve (aWork A c).2 1 := by
  obtain ⟨-, ⟨R, HR⟩, I⟩ := H
  rcases (II_work I HR hc).2 with ⟨-, e⟩ | ⟨-, -, h, -⟩
  · rw [e]; exact Nat.le_refl _
  · exact h
theorem ve_look (H : Iv A) (hc : c < 8) (m : Nat) : ve (aLook A c m) 1 = ve A 1 ∧ Fr A (aLook A c m) := by
  obtain ⟨-, ⟨R, HR⟩, I⟩ := H
  have S := (II_look I HR hc m).2.2.1
  exact ⟨ve_See hc S, Fr_See hc S⟩
theorem works_o (H : Iv A) (hc : c < 8) : ∀ n, Iv (aWorks A c n) ∧ Fr A (aWorks A c n) ∧ ve A 1 ≤ ve (aWorks A c n) 1
  | 0 => ⟨H, Fr_refl A, Nat.le_refl _⟩
  | n + 1 => by
    obtain ⟨a, b, d⟩ := works_o H hc n
    show Iv (aWork (aWorks A c n) c).2 ∧ Fr A (aWork (aWorks A c n) c).2 ∧ ve A 1 ≤ ve (aWork (aWorks A c n) c).2 1
    exact ⟨Iv_work a hc, Fr_trans b (Fr_work _ hc), Nat.le_trans d (ve_work a hc)⟩
theorem tn1_o (H : Iv A) (hc : c < 8) : Iv (aTn1 A c) ∧ Fr A (aTn1 A c) ∧ ve A 1 ≤ ve (aTn1 A c) 1 := by
  obtain ⟨a, b, d⟩ := works_o (Iv_look H hc (Nat.le_refl 400)) hc (qn (aLook A c 400) c)
  obtain ⟨e, f⟩ := ve_look H hc 400
  exact ⟨a, Fr_trans f b, by rw [← e]; exact d⟩
theorem tn8_o (H : Iv A) : ∀ k, k ≤ 8 → Iv (aTn8 A k) ∧ Fr A (aTn8 A k) ∧ ve A 1 ≤ ve (aTn8 A k) 1
  | 0, _ => ⟨H, Fr_refl A, Nat.le_refl _⟩
  | k + 1, hk => by
    obtain ⟨a, b, d⟩ := tn8_o H k (by omega)
    obtain ⟨a', b', d'⟩ := tn1_o a (c := k) (by omega)
    exact ⟨a', Fr_trans b b', Nat.le_trans d d'⟩
theorem turn_o (H : Iv A) : ∀ n, Iv (aTurn A n) ∧ Fr A (aTurn A n) ∧ ve A 1 ≤ ve (aTurn A n) 1
  | 0 => ⟨H, Fr_refl A, Nat.le_refl _⟩
  | n + 1 => by
    obtain ⟨a, b, d⟩ := turn_o H n
    obtain ⟨a', b', d'⟩ := tn8_o a 8 (Nat.le_refl 8)
    rw [aTurn_s]
    exact ⟨a', Fr_trans b b', Nat.le_trans d d'⟩
end
end

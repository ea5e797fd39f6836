section
/-! fields stay in their ranges, and owners are such as controllers make -/
section
variable {A R : zzMd}
theorem zc6 {t : Nat} (h : t < 6) : t = 0 ∨ t = 1 ∨ t = 2 ∨ t = 3 ∨ t = 4 ∨ t = 5 := by omega
theorem zc11 {f : Nat} (h : f < 11) : f = 0 ∨ f = 1 ∨ f = 2 ∨ f = 3 ∨ f = 4 ∨ f = 5 ∨ f = 6 ∨ f = 7 ∨ f = 8 ∨ f = 9 ∨ f = 10 := by omega
theorem zl_8 : zn 8 = 8 := rfl
theorem zl_9 : zn 9 = 9 := rfl
theorem zl_10 : zn 10 = 10 := rfl
theorem zn_m1l {w : Nat} (h : w < 1000000) : (zn w < -1) = False := by
  refine eq_false (Int32.not_lt.mpr ?_)
  have h0 : (0 : Int32) ≤ zn w := Int32.not_lt.mp (zn_lt0 (o := w) (by omega)).mp
  exact Int32.le_trans (by decide) h0
theorem ob_own (H : Iv A) {k n : Nat} (hk : k < nv A 1) (hn : n ≤ 1320) (j3 j4 j5 j6 j7 j8 : Option Value) : lz_ev tL_areObjects 4 [some (.ref 0), some (.int 1), some (.int (zn k)), j3, j4, j5, j6, j7, j8] [] (A, n) = lz_ev tL_areObjects 103 [some (.ref 0), some (.int 1), some (.int (zn k)), some (.int (row A k 23)), some (.int (row A k 24)), some (.int 0), j6, j7, j8] [] (A, n) := by
  obtain ⟨hA, ⟨R, HR⟩, I⟩ := H
  have n60 := rl_n60 HR.1
  have l : (zn (nv A 1) ≤ zn k) = False := zn_le (a := nv A 1) (b := k) (by omega) (by omega) ▸ eq_false (by omega)
  have f1 : (n ≤ 1320) = True := eq_true hn
  have o0 := kV_e (g_objects hA HR)
  have o1 := kV_e (g_kindOf hA HR hk)
  have o2 := kV_e (g_ownerOf hA HR hk)
  have o3 := kV_e (g_goingOf hA HR hk)
  obtain ⟨⟨-, -, -, ⟨q, q1, q2⟩, -, -, -, -, g8⟩, e22⟩ := cur_good HR.1 hk
  rcases (JJ_cur I.1 hk).1 with e | ⟨w, w1, w2, w3⟩
  · have lk : (zn k ≤ -1) = False := by
      refine eq_false (Int32.not_le.mpr ?_)
      exact Int32.lt_of_lt_of_le (b := 0) (by decide) (Int32.not_lt.mp (zn_lt0 (o := k) (by omega)).mp)
    rw [e] at o2 ⊢
    clear I HR
    (rw [e_L_areObjects_4]; simp (decide := true) only [e_L_areObjects_p0, e_L_areObjects_p1, lo_iload, lo_lload, lo_aload, lo_istore, lo_lstore, lo_iinc, lo_pushI, lo_pushL, lo_ii, lo_iid, lo_ll, lo_li, lo_lcmp, lo_i2l, lo_dup2, lo_goto, lo_if, lo_icmp, lq_iret_f, lq_iret_1, lq_iret_0, lq_iret_b, lq_lret, lq_bs, lq_bv, lq_bhv, lq_bhx, q_c8_0, q_c8_1, q_c8_2, q_c8_3, q_c8_4, q_set_0, q_set_1i, q_set_1r, q_set_1n, q_set_1N, q_set_s, q_set_1j, q_set_1l, q_set2_0, q_set2_1i, q_set2_1r, q_set2_1n, q_set2_s, q_if, zb_ite, cond_true, cond_false, List.getElem?_cons_zero, List.getElem?_cons_succ, Nat.reduceAdd, l, f1, o0, o1, o2, lk, Int32.reduceLT, Int32.reduceLE, Nat.reduceLeDiff, Nat.zero_le, Nat.le_refl, Nat.zero_add, if_true, if_false, zb_eq0, zb_eq1, zn_1, not_true_eq_false, not_false_eq_true, ite_true, ite_false, if_true, if_false, q_iret_0, q_iret_1, decide_true, decide_false, decide_not, zb_t, zb_f, z10, z01, cond_true, cond_false, Bool.and_true, Bool.true_and, Bool.and_false, Bool.false_and, Bool.not_true, Bool.not_false, true_and, and_true, false_and, and_false, true_or, or_true, false_or, or_false, Bool.true_eq_false, Bool.false_eq_true, eq_self, reduceCtorEq, Bool.or_true, Bool.true_or, Bool.or_false, Bool.false_or])
  · have hw : w < k := by
      rcases (cur_good HR.1 hk).1.2.2.1 with z | ⟨w', z1, z2⟩
      · rw [w2] at z
        exact absurd z (zn60 rfl (by omega))
      · rw [e22, zn_ix (by omega)] at z2
        have := (zn_inj (a := w) (b := w') (by omega) (by omega)).mp (w2.symm.trans z1)
        omega
    have q4 : q < 4 := by
      refine Nat.lt_of_le_of_ne q1 fun z => ?_
      have := (g8 (by rw [q2, z]; rfl)).1
      rw [w2] at this
      exact zn60 rfl (by omega) this
    have o4 := kV_e (g_kindOf hA HR w1)
    have lk : (zn k ≤ zn w) = False := zn_le (a := k) (b := w) (by omega) (by omega) ▸ eq_false (by omega)
    have lm := zn_m1l (w := w) (by omega)
    have l0 : (zn w < 0) = False := zn_lt0 (by omega)
    have lg4 : ((4 : Int32) ≤ zn q) = False := zk_lt (n := 4) q4 (Nat.le_refl _) (by decide)
    rw [w2] at o2 ⊢
    rw [q2] at o3
    clear I HR
    rcases w3 with ⟨k1, k2⟩ | ⟨k1, k2 | k2⟩
    · rw [k1] at o1 ⊢
      rw [k2] at o4
      (rw [e_L_areObjects_4]; simp (decide := true) only [e_L_areObjects_p0, e_L_areObjects_p1, lo_iload, lo_lload, lo_aload, lo_istore, lo_lstore, lo_iinc, lo_pushI, lo_pushL, lo_ii, lo_iid, lo_ll, lo_li, lo_lcmp, lo_i2l, lo_dup2, lo_goto, lo_if, lo_icmp, lq_iret_f, lq_iret_1, lq_iret_0, lq_iret_b, lq_lret, lq_bs, lq_bv, lq_bhv, lq_bhx, q_c8_0, q_c8_1, q_c8_2, q_c8_3, q_c8_4, q_set_0, q_set_1i, q_set_1r, q_set_1n, q_set_1N, q_set_s, q_set_1j, q_set_1l, q_set2_0, q_set2_1i, q_set2_1r, q_set2_1n, q_set2_s, q_if, zb_ite, cond_true, cond_false, List.getElem?_cons_zero, List.getElem?_cons_succ, Nat.reduceAdd, l, f1, o0, o1, o2, o3, o4, lk, lm, l0, lg4, Int32.reduceLT, Int32.reduceLE, Nat.reduceLeDiff, Nat.zero_le, Nat.le_refl, Nat.zero_add, if_true, if_false, zb_eq0, zb_eq1, zn_1, not_true_eq_false, not_false_eq_true, ite_true, ite_false, if_true, if_false, q_iret_0, q_iret_1, decide_true, decide_false, decide_not, zb_t, zb_f, z10, z01, cond_true, cond_false, Bool.and_true, Bool.true_and, Bool.and_false, Bool.false_and, Bool.not_true, Bool.not_false, true_and, and_true, false_and, and_false, true_or, or_true, false_or, or_false, Bool.true_eq_false, Bool.false_eq_true, eq_self, reduceCtorEq, Bool.or_true, Bool.true_or, Bool.or_false, Bool.false_or])
    · rw [k1] at o1 ⊢
      rw [k2] at o4
      (rw [e_L_areObjects_4]; simp (decide := true) only [e_L_areObjects_p0, e_L_areObjects_p1, lo_iload, lo_lload, lo_aload, lo_istore, lo_lstore, lo_iinc, lo_pushI, lo_pushL, lo_ii, lo_iid, lo_ll, lo_li, lo_lcmp, lo_i2l, lo_dup2, lo_goto, lo_if, lo_icmp, lq_iret_f, lq_iret_1, lq_iret_0, lq_iret_b, lq_lret, lq_bs, lq_bv, lq_bhv, lq_bhx, q_c8_0, q_c8_1, q_c8_2, q_c8_3, q_c8_4, q_set_0, q_set_1i, q_set_1r, q_set_1n, q_set_1N, q_set_s, q_set_1j, q_set_1l, q_set2_0, q_set2_1i, q_set2_1r, q_set2_1n, q_set2_s, q_if, zb_ite, cond_true, cond_false, List.getElem?_cons_zero, List.getElem?_cons_succ, Nat.reduceAdd, l, f1, o0, o1, o2, o3, o4, lk, lm, l0, lg4, Int32.reduceLT, Int32.reduceLE, Nat.reduceLeDiff, Nat.zero_le, Nat.le_refl, Nat.zero_add, if_true, if_false, zb_eq0, zb_eq1, zn_1, not_true_eq_false, not_false_eq_true, ite_true, ite_false, if_true, if_false, q_iret_0, q_iret_1, decide_true, decide_false, decide_not, zb_t, zb_f, z10, z01, cond_true, cond_false, Bool.and_true, Bool.true_and, Bool.and_false, Bool.false_and, Bool.not_true, Bool.not_false, true_and, and_true, false_and, and_false, true_or, or_true, false_or, or_false, Bool.true_eq_false, Bool.false_eq_true, eq_self, reduceCtorEq, Bool.or_true, Bool.true_or, Bool.or_false, Bool.false_or])
    · rw [k1] at o1 ⊢
      rw [k2] at o4
      (rw [e_L_areObjects_4]; simp (decide := true) only [e_L_areObjects_p0, e_L_areObjects_p1, lo_iload, lo_lload, lo_aload, lo_istore, lo_lstore, lo_iinc, lo_pushI, lo_pushL, lo_ii, lo_iid, lo_ll, lo_li, lo_lcmp, lo_i2l, lo_dup2, lo_goto, lo_if, lo_icmp, lq_iret_f, lq_iret_1, lq_iret_0, lq_iret_b, lq_lret, lq_bs, lq_bv, lq_bhv, lq_bhx, q_c8_0, q_c8_1, q_c8_2, q_c8_3, q_c8_4, q_set_0, q_set_1i, q_set_1r, q_set_1n, q_set_1N, q_set_s, q_set_1j, q_set_1l, q_set2_0, q_set2_1i, q_set2_1r, q_set2_1n, q_set2_s, q_if, zb_ite, cond_true, cond_false, List.getElem?_cons_zero, List.getElem?_cons_succ, Nat.reduceAdd, l, f1, o0, o1, o2, o3, o4, lk, lm, l0, lg4, Int32.reduceLT, Int32.reduceLE, Nat.reduceLeDiff, Nat.zero_le, Nat.le_refl, Nat.zero_add, if_true, if_false, zb_eq0, zb_eq1, zn_1, not_true_eq_false, not_false_eq_true, ite_true, ite_false, if_true, if_false, q_iret_0, q_iret_1, decide_true, decide_false, decide_not, zb_t, zb_f, z10, z01, cond_true, cond_false, Bool.and_true, Bool.true_and, Bool.and_false, Bool.false_and, Bool.not_true, Bool.not_false, true_and, and_true, false_and, and_false, true_or, or_true, false_or, or_false, Bool.true_eq_false, Bool.false_eq_true, eq_self, reduceCtorEq, Bool.or_true, Bool.true_or, Bool.or_false, Bool.false_or])
set_option maxHeartbeats 4000000 in
theorem ob_has {t f : Nat} (ht : t < 6) (hf : f < 11) (M : lzMd) (k w4 : Int32) (j6 j7 j8 : Option Value) : lz_ev tL_areObjects 114 [some (.ref 0), some (.int 1), some (.int k), some (.int (zn t)), some (.int w4), some (.int (zn f)), j6, j7, j8] [] M = lz_ev tL_areObjects 200 [some (.ref 0), some (.int 1), some (.int k), some (.int (zn t)), some (.int w4), some (.int (zn f)), j6, j7, j8] [.int (zb (hasF (zn t) (zn f)))] M := by
  generalize hF : (fun x : Int32 => lz_ev tL_areObjects 200 [some (.ref 0), some (.int 1), some (.int k), some (.int (zn t)), some (.int w4), some (.int (zn f)), j6, j7, j8] [.int x] M) = F
  have hF' : ∀ x : Int32, lz_ev tL_areObjects 200 [some (.ref 0), some (.int 1), some (.int k), some (.int (zn t)), some (.int w4), some (.int (zn f)), j6, j7, j8] [.int x] M = F x := fun x => congrFun hF x
  clear hF
  rw [hF']
  rcases zc6 ht with rfl | rfl | rfl | rfl | rfl | rfl <;> rcases zc11 hf with rfl | rfl | rfl | rfl | rfl | rfl | rfl | rfl | rfl | rfl | rfl <;> (simp only [zl_0, zl_1, zl_2, zl_3, zl_4, zl_5, zl_6, zl_7, zl_8, zl_9, zl_10] at hF' ⊢; (simp (decide := true) only [e_L_areObjects_p0, e_L_areObjects_p1, lo_iload, lo_lload, lo_aload, lo_istore, lo_lstore, lo_iinc, lo_pushI, lo_pushL, lo_ii, lo_iid, lo_ll, lo_li, lo_lcmp, lo_i2l, lo_dup2, lo_goto, lo_if, lo_icmp, lq_iret_f, lq_iret_1, lq_iret_0, lq_iret_b, lq_lret, lq_bs, lq_bv, lq_bhv, lq_bhx, q_c8_0, q_c8_1, q_c8_2, q_c8_3, q_c8_4, q_set_0, q_set_1i, q_set_1r, q_set_1n, q_set_1N, q_set_s, q_set_1j, q_set_1l, q_set2_0, q_set2_1i, q_set2_1r, q_set2_1n, q_set2_s, q_if, zb_ite, cond_true, cond_false, List.getElem?_cons_zero, List.getElem?_cons_succ, Nat.reduceAdd, ↓hF', Int32.reduceLT, Int32.reduceLE, Nat.reduceLeDiff, Nat.zero_le, Nat.le_refl, Nat.zero_add, if_true, if_false, zb_eq0, zb_eq1, zn_1, not_true_eq_false, not_false_eq_true, ite_true, ite_false, if_true, if_false, q_iret_0, q_iret_1, decide_true, decide_false, decide_not, zb_t, zb_f, z10, z01, cond_true, cond_false, Bool.and_true, Bool.true_and, Bool.and_false, Bool.false_and, Bool.not_true, Bool.not_false, true_and, and_true, false_and, and_false, true_or, or_true, false_or, or_false, Bool.true_eq_false, Bool.false_eq_true, eq_self, reduceCtorEq, Bool.or_true, Bool.true_or, Bool.or_false, Bool.false_or]); exact congrArg F (by decide))
theorem ob_most {f : Nat} (hf : f < 11) (M : lzMd) (x : Int32) (k t w4 h6 : Int32) (j7 j8 : Option Value) : lz_ev tL_areObjects 211 [some (.ref 0), some (.int 1), some (.int k), some (.int t), some (.int w4), some (.int (zn f)), some (.int h6), j7, j8] [.int x] M = lz_ev tL_areObjects 283 [some (.ref 0), some (.int 1), some (.int k), some (.int t), some (.int w4), some (.int (zn f)), some (.int h6), some (.int x), j8] [.int (zn (mostF f))] M := by
  generalize hF : (fun y : Int32 => lz_ev tL_areObjects 283 [some (.ref 0), some (.int 1), some (.int k), some (.int t), some (.int w4), some (.int (zn f)), some (.int h6), some (.int x), j8] [.int y] M) = F
  have hF' : ∀ y : Int32, lz_ev tL_areObjects 283 [some (.ref 0), some (.int 1), some (.int k), some (.int t), some (.int w4), some (.int (zn f)), some (.int h6), some (.int x), j8] [.int y] M = F y := fun y => congrFun hF y
  clear hF
  rw [hF']
  rcases zc11 hf with rfl | rfl | rfl | rfl | rfl | rfl | rfl | rfl | rfl | rfl | rfl <;> (simp only [zl_0, zl_1, zl_2, zl_3, zl_4, zl_5, zl_6, zl_7, zl_8, zl_9, zl_10] at hF' ⊢; (simp (decide := true) only [e_L_areObjects_p0, e_L_areObjects_p1, lo_iload, lo_lload, lo_aload, lo_istore, lo_lstore, lo_iinc, lo_pushI, lo_pushL, lo_ii, lo_iid, lo_ll, lo_li, lo_lcmp, lo_i2l, lo_dup2, lo_goto, lo_if, lo_icmp, lq_iret_f, lq_iret_1, lq_iret_0, lq_iret_b, lq_lret, lq_bs, lq_bv, lq_bhv, lq_bhx, q_c8_0, q_c8_1, q_c8_2, q_c8_3, q_c8_4, q_set_0, q_set_1i, q_set_1r, q_set_1n, q_set_1N, q_set_s, q_set_1j, q_set_1l, q_set2_0, q_set2_1i, q_set2_1r, q_set2_1n, q_set2_s, q_if, zb_ite, cond_true, cond_false, List.getElem?_cons_zero, List.getElem?_cons_succ, Nat.reduceAdd, ↓hF', Int32.reduceLT, Int32.reduceLE, Nat.reduceLeDiff, Nat.zero_le, Nat.le_refl, Nat.zero_add, if_true, if_false, zb_eq0, zb_eq1, zn_1, not_true_eq_false, not_false_eq_true, ite_true, ite_false, if_true, if_false, q_iret_0, q_iret_1, decide_true, decide_false, decide_not, zb_t, zb_f, z10, z01, cond_true, cond_false, Bool.and_true, Bool.true_and, Bool.and_false, Bool.false_and, Bool.not_true, Bool.not_false, true_and, and_true, false_and, and_false, true_or, or_true, false_or, or_false, Bool.true_eq_false, Bool.false_eq_true, eq_self, reduceCtorEq, Bool.or_true, Bool.true_or, Bool.or_false, Bool.false_or]); exact congrArg F (by decide))
theorem ob_103 (H : Iv A) {k n : Nat} (hk : k < nv A 1) (hn : n + 22 ≤ 1320) (w4 : Int32) (j6 j7 j8 : Option Value) : ∀ f, f ≤ 11 → ∃ n' j6' j7' j8', n' ≤ n + 2 * f ∧ lz_ev tL_areObjects 103 [some (.ref 0), some (.int 1), some (.int (zn k)), some (.int (row A k 23)), some (.int w4), some (.int 0), j6, j7, j8] [] (A, n) = lz_ev tL_areObjects 103 [some (.ref 0), some (.int 1), some (.int (zn k)), some (.int (row A k 23)), some (.int w4), some (.int (zn f)), j6', j7', j8'] [] (A, n') := by
  intro f
  induction f with
  | zero => exact fun _ => ⟨n, j6, j7, j8, Nat.le_refl _, rfl⟩
  | succ f ih =>
    intro hf
    obtain ⟨m, i6, i7, i8, hm, e⟩ := ih (by omega)
    have H' := H
    obtain ⟨hA, ⟨R, HR⟩, I⟩ := H'
    obtain ⟨⟨gF, ⟨t, t1, t2⟩, -⟩, -⟩ := cur_good HR.1 hk
    have l11 : ((11 : Int32) ≤ zn f) = False := zn_le (a := 11) (b := f) (by decide) (by omega) ▸ eq_false (by omega)
    have f1 : (m ≤ 1320) = True := eq_true (by omega)
    have f2 : (m + 1 ≤ 1320) = True := eq_true (by omega)
    have f3 : (m + 1 + 1 ≤ 1320) = True := eq_true (by omega)
    have hh := ob_has t1 (show f < 11 by omega) (A, m) (zn k) w4 i6 i7 i8
    have s1 : lz_ev tL_areObjects 103 [some (.ref 0), some (.int 1), some (.int (zn k)), some (.int (row A k 23)), some (.int w4), some (.int (zn f)), i6, i7, i8] [] (A, m) = lz_ev tL_areObjects 114 [some (.ref 0), some (.int 1), some (.int (zn k)), some (.int (row A k 23)), some (.int w4), some (.int (zn f)), i6, i7, i8] [] (A, m) := by
      clear e ih hh
      generalize hZ : lz_ev tL_areObjects 114 [some (.ref 0), some (.int 1), some (.int (zn k)), some (.int (row A k 23)), some (.int w4), some (.int (zn f)), i6, i7, i8] [] (A, m) = Z
      (rw [e_L_areObjects_103]; simp (decide := true) only [e_L_areObjects_p0, e_L_areObjects_p1, lo_iload, lo_lload, lo_aload, lo_istore, lo_lstore, lo_iinc, lo_pushI, lo_pushL, lo_ii, lo_iid, lo_ll, lo_li, lo_lcmp, lo_i2l, lo_dup2, lo_goto, lo_if, lo_icmp, lq_iret_f, lq_iret_1, lq_iret_0, lq_iret_b, lq_lret, lq_bs, lq_bv, lq_bhv, lq_bhx, q_c8_0, q_c8_1, q_c8_2, q_c8_3, q_c8_4, q_set_0, q_set_1i, q_set_1r, q_set_1n, q_set_1N, q_set_s, q_set_1j, q_set_1l, q_set2_0, q_set2_1i, q_set2_1r, q_set2_1n, q_set2_s, q_if, zb_ite, cond_true, cond_false, List.getElem?_cons_zero, List.getElem?_cons_succ, Nat.reduceAdd, ↓hZ, l11, Int32.reduceLT, Int32.reduceLE, Nat.reduceLeDiff, Nat.zero_le, Nat.le_refl, Nat.zero_add, if_true, if_false, zb_eq0, zb_eq1, zn_1, not_true_eq_false, not_false_eq_true, ite_true, ite_false, if_true, if_false, q_iret_0, q_iret_1, decide_true, decide_false, decide_not, zb_t, zb_f, z10, z01, cond_true, cond_false, Bool.and_true, Bool.true_and, Bool.and_false, Bool.false_and, Bool.not_true, Bool.not_false, true_and, and_true, false_and, and_false, true_or, or_true, false_or, or_false, Bool.true_eq_false, Bool.false_eq_true, eq_self, reduceCtorEq, Bool.or_true, Bool.true_or, Bool.or_false, Bool.false_or])
    rw [← t2] at hh
    obtain ⟨v, o1, v1, v2⟩ := of_1 H hk (f := f) (by omega)
    obtain ⟨w, o2, w1, w2⟩ := of_2 H hk (f := f) (by omega)
    have hmo := fun x h6 => ob_most (show f < 11 by omega) (A, m + 1) x (zn k) (row A k 23) w4 h6 i7 i8
    have s2 : ∀ b : Bool, lz_ev tL_areObjects 200 [some (.ref 0), some (.int 1), some (.int (zn k)), some (.int (row A k 23)), some (.int w4), some (.int (zn f)), i6, i7, i8] [.int (zb b)] (A, m) = lz_ev tL_areObjects 211 [some (.ref 0), some (.int 1), some (.int (zn k)), some (.int (row A k 23)), some (.int w4), some (.int (zn f)), some (.int (zb b)), i7, i8] [.int v] (A, m + 1) := fun b => by
      clear e ih hh s1 hmo
      generalize zb b = x
      generalize hZ : lz_ev tL_areObjects 211 [some (.ref 0), some (.int 1), some (.int (zn k)), some (.int (row A k 23)), some (.int w4), some (.int (zn f)), some (.int x), i7, i8] [.int v] (A, m + 1) = Z
      (simp (decide := true) only [e_L_areObjects_p0, e_L_areObjects_p1, lo_iload, lo_lload, lo_aload, lo_istore, lo_lstore, lo_iinc, lo_pushI, lo_pushL, lo_ii, lo_iid, lo_ll, lo_li, lo_lcmp, lo_i2l, lo_dup2, lo_goto, lo_if, lo_icmp, lq_iret_f, lq_iret_1, lq_iret_0, lq_iret_b, lq_lret, lq_bs, lq_bv, lq_bhv, lq_bhx, q_c8_0, q_c8_1, q_c8_2, q_c8_3, q_c8_4, q_set_0, q_set_1i, q_set_1r, q_set_1n, q_set_1N, q_set_s, q_set_1j, q_set_1l, q_set2_0, q_set2_1i, q_set2_1r, q_set2_1n, q_set2_s, q_if, zb_ite, cond_true, cond_false, List.getElem?_cons_zero, List.getElem?_cons_succ, Nat.reduceAdd, ↓hZ, o1, f1, f2, Int32.reduceLT, Int32.reduceLE, Nat.reduceLeDiff, Nat.zero_le, Nat.le_refl, Nat.zero_add, if_true, if_false, zb_eq0, zb_eq1, zn_1, not_true_eq_false, not_false_eq_true, ite_true, ite_false, if_true, if_false, q_iret_0, q_iret_1, decide_true, decide_false, decide_not, zb_t, zb_f, z10, z01, cond_true, cond_false, Bool.and_true, Bool.true_and, Bool.and_false, Bool.false_and, Bool.not_true, Bool.not_false, true_and, and_true, false_and, and_false, true_or, or_true, false_or, or_false, Bool.true_eq_false, Bool.false_eq_true, eq_self, reduceCtorEq, Bool.or_true, Bool.true_or, Bool.or_false, Bool.false_or])
    have es := e.trans (s1.trans (hh.trans ((s2 _).trans (hmo _ _))))
    clear e s1 hh s2 hmo ih
    cases hF : hasF (row A k 23) (zn f)
    · rw [v2 hF] at es
      rw [w2 hF] at o2
      rw [hF] at es
      simp only [zb_f] at es
      refine ⟨m + 1 + 1, some (.int 0), some (.int (-1272)), some (.int (zn (mostF f))), by omega, es.trans ?_⟩
      clear es
      generalize zn (mostF f) = y
      (simp (decide := true) only [e_L_areObjects_p0, e_L_areObjects_p1, lo_iload, lo_lload, lo_aload, lo_istore, lo_lstore, lo_iinc, lo_pushI, lo_pushL, lo_ii, lo_iid, lo_ll, lo_li, lo_lcmp, lo_i2l, lo_dup2, lo_goto, lo_if, lo_icmp, lq_iret_f, lq_iret_1, lq_iret_0, lq_iret_b, lq_lret, lq_bs, lq_bv, lq_bhv, lq_bhx, q_c8_0, q_c8_1, q_c8_2, q_c8_3, q_c8_4, q_set_0, q_set_1i, q_set_1r, q_set_1n, q_set_1N, q_set_s, q_set_1j, q_set_1l, q_set2_0, q_set2_1i, q_set2_1r, q_set2_1n, q_set2_s, q_if, zb_ite, cond_true, cond_false, List.getElem?_cons_zero, List.getElem?_cons_succ, Nat.reduceAdd, o2, f2, f3, Int32.reduceLT, Int32.reduceLE, Nat.reduceLeDiff, Nat.zero_le, Nat.le_refl, Nat.zero_add, if_true, if_false, zb_eq0, zb_eq1, zn_1, not_true_eq_false, not_false_eq_true, ite_true, ite_false, if_true, if_false, q_iret_0, q_iret_1, decide_true, decide_false, decide_not, zb_t, zb_f, z10, z01, cond_true, cond_false, Bool.and_true, Bool.true_and, Bool.and_false, Bool.false_and, Bool.not_true, Bool.not_false, true_and, and_true, false_and, and_false, true_or, or_true, false_or, or_false, Bool.true_eq_false, Bool.false_eq_true, eq_self, reduceCtorEq, Bool.or_true, Bool.true_or, Bool.or_false, Bool.false_or])
    · obtain ⟨a, a1, a2, a3⟩ := gF f (by omega)
      obtain ⟨g, g1, g2⟩ := (JJ_cur I.1 hk).2.2.2.2 f (by omega)
      have o3 := kV_e (g_managerOf hA HR hk hF (by omega))
      rw [g2] at o3
      rw [v1 hF, a1, hF] at es
      simp only [zb_t] at es
      have mm : mostF f ≤ 99 := by
        have : ∀ f : Fin 11, mostF f.1 ≤ 99 := by decide
        exact this ⟨f, by omega⟩
      have m1 : (zn (mostF f) < zn a) = False := zn_lt (a := mostF f) (b := a) (by omega) (by omega) ▸ eq_false (by omega)
      have m2 : (zn g < 0) = False := zn_lt0 (by omega)
      have m3 : ((5 : Int32) < zn g) = False := zn_lt (a := 5) (b := g) (by decide) (by omega) ▸ eq_false (by omega)
      have a99 : a ≤ 99 := Nat.le_trans a3 mm
      have a0 : (zn a < 0) = False := zn_lt0 (by omega)
      refine ⟨m + 1, some (.int 1), some (.int (zn a)), some (.int (zn (mostF f))), by omega, es.trans ?_⟩
      clear es a1 a3 v1 v2 w1 w2 o1 o2
      generalize zn (mostF f) = y at *
      by_cases h10 : f = 10
      · have d10 : (zn f = 10) = True := by rw [h10]; exact eq_true rfl
        have a9 : (zn a < 1) = False := zn_lt (a := a) (b := 1) (by omega) (by decide) ▸ eq_false (by
          rw [h10] at a2
          have a2 : 1 ≤ a := a2
          omega)
        (simp (decide := true) only [e_L_areObjects_p0, e_L_areObjects_p1, lo_iload, lo_lload, lo_aload, lo_istore, lo_lstore, lo_iinc, lo_pushI, lo_pushL, lo_ii, lo_iid, lo_ll, lo_li, lo_lcmp, lo_i2l, lo_dup2, lo_goto, lo_if, lo_icmp, lq_iret_f, lq_iret_1, lq_iret_0, lq_iret_b, lq_lret, lq_bs, lq_bv, lq_bhv, lq_bhx, q_c8_0, q_c8_1, q_c8_2, q_c8_3, q_c8_4, q_set_0, q_set_1i, q_set_1r, q_set_1n, q_set_1N, q_set_s, q_set_1j, q_set_1l, q_set2_0, q_set2_1i, q_set2_1r, q_set2_1n, q_set2_s, q_if, zb_ite, cond_true, cond_false, List.getElem?_cons_zero, List.getElem?_cons_succ, Nat.reduceAdd, f2, o3, m1, m2, m3, d10, a9, Int32.reduceLT, Int32.reduceLE, Nat.reduceLeDiff, Nat.zero_le, Nat.le_refl, Nat.zero_add, if_true, if_false, zb_eq0, zb_eq1, zn_1, not_true_eq_false, not_false_eq_true, ite_true, ite_false, if_true, if_false, q_iret_0, q_iret_1, decide_true, decide_false, decide_not, zb_t, zb_f, z10, z01, cond_true, cond_false, Bool.and_true, Bool.true_and, Bool.and_false, Bool.false_and, Bool.not_true, Bool.not_false, true_and, and_true, false_and, and_false, true_or, or_true, false_or, or_false, Bool.true_eq_false, Bool.false_eq_true, eq_self, reduceCtorEq, Bool.or_true, Bool.true_or, Bool.or_false, Bool.false_or])
      · have d10 : (zn f = 10) = False := (zn_inj (a := f) (b := 10) (by omega) (by decide)).trans (eq_false h10)
        (simp (decide := true) only [e_L_areObjects_p0, e_L_areObjects_p1, lo_iload, lo_lload, lo_aload, lo_istore, lo_lstore, lo_iinc, lo_pushI, lo_pushL, lo_ii, lo_iid, lo_ll, lo_li, lo_lcmp, lo_i2l, lo_dup2, lo_goto, lo_if, lo_icmp, lq_iret_f, lq_iret_1, lq_iret_0, lq_iret_b, lq_lret, lq_bs, lq_bv, lq_bhv, lq_bhx, q_c8_0, q_c8_1, q_c8_2, q_c8_3, q_c8_4, q_set_0, q_set_1i, q_set_1r, q_set_1n, q_set_1N, q_set_s, q_set_1j, q_set_1l, q_set2_0, q_set2_1i, q_set2_1r, q_set2_1n, q_set2_s, q_if, zb_ite, cond_true, cond_false, List.getElem?_cons_zero, List.getElem?_cons_succ, Nat.reduceAdd, f2, o3, m1, m2, m3, d10, a0, Int32.reduceLT, Int32.reduceLE, Nat.reduceLeDiff, Nat.zero_le, Nat.le_refl, Nat.zero_add, if_true, if_false, zb_eq0, zb_eq1, zn_1, not_true_eq_false, not_false_eq_true, ite_true, ite_false, if_true, if_false, q_iret_0, q_iret_1, decide_true, decide_false, decide_not, zb_t, zb_f, z10, z01, cond_true, cond_false, Bool.and_true, Bool.true_and, Bool.and_false, Bool.false_and, Bool.not_true, Bool.not_false, true_and, and_true, false_and, and_false, true_or, or_true, false_or, or_false, Bool.true_eq_false, Bool.false_eq_true, eq_self, reduceCtorEq, Bool.or_true, Bool.true_or, Bool.or_false, Bool.false_or])
/-! a DEPLOY's running PODs, a POD's place -/
def nsum (g : Nat → Nat) : Nat → Nat
  | 0 => 0
  | n + 1 => nsum g n + g n
theorem nsum_le (g : Nat → Nat) (b : Nat) : ∀ n, (∀ i, i < n → g i ≤ b) → nsum g n ≤ n * b
  | 0, _ => Nat.zero_le _
  | n + 1, h => by
    have h1 := nsum_le g b n fun i hi => h i (Nat.lt_succ_of_lt hi)
    have h2 := h n (Nat.lt_succ_self n)
    show nsum g n + g n ≤ (n + 1) * b
    rw [Nat.add_mul, Nat.one_mul]
    exact Nat.add_le_add h1 h2
theorem nsum_ge (g : Nat → Nat) {i : Nat} : ∀ n, i < n → g i ≤ nsum g n
  | 0, h => absurd h (Nat.not_lt_zero _)
  | n + 1, h => by
    show g i ≤ nsum g n + g n
    by_cases e : i = n
    · rw [e]; exact Nat.le_add_left _ _
    · have := nsum_ge g n (by omega : i < n)
      omega
theorem zsum_n {f : Nat → Int32} {g : Nat → Nat} : ∀ n, (∀ i, i < n → f i = zn (g i)) → zsum n f = zn (nsum g n)
  | 0, _ => rfl
  | n + 1, h => by
    show zsum n f + f n = zn (nsum g n + g n)
    rw [zsum_n n fun i hi => h i (Nat.lt_succ_of_lt hi), h n (Nat.lt_succ_self n), zn_add]
theorem cntRun_le (A : zzMd) (n : Nat) (w : Int32) : cntRun A 1 n w ≤ n := by
  unfold cntRun
  by_cases h : w = -1
  · rw [if_pos h]; exact Nat.zero_le _
  · rw [if_neg h]; exact zcnt_le _ n
theorem run_le (A : zzMd) (d : Int32) {n : Nat} (hn : n ≤ 60) : ((zsum n fun i => bif owned A 1 (zn i) 1 d then zn (cntRun A 1 n (zn i)) else 0) < zn (cntRun A 1 n (zoi (newSet A 1 n d)))) = False := by
  have hs : (zsum n fun i => bif owned A 1 (zn i) 1 d then zn (cntRun A 1 n (zn i)) else 0) = zn (nsum (fun i => bif owned A 1 (zn i) 1 d then cntRun A 1 n (zn i) else 0) n) := zsum_n n fun i _ => by
    show (bif owned A 1 (zn i) 1 d then zn (cntRun A 1 n (zn i)) else 0) = zn (bif owned A 1 (zn i) 1 d then cntRun A 1 n (zn i) else 0)
    cases owned A 1 (zn i) 1 d <;> rfl
  have hb := nsum_le (fun i => bif owned A 1 (zn i) 1 d then cntRun A 1 n (zn i) else 0) 60 n fun i _ => by
    show (bif owned A 1 (zn i) 1 d then cntRun A 1 n (zn i) else 0) ≤ 60
    have := cntRun_le A n (zn i)
    cases owned A 1 (zn i) 1 d
    · exact Nat.zero_le _
    · exact Nat.le_trans this hn
  have hc := cntRun_le A n (zoi (newSet A 1 n d))
  have hle : cntRun A 1 n (zoi (newSet A 1 n d)) ≤ nsum (fun i => bif owned A 1 (zn i) 1 d then cntRun A 1 n (zn i) else 0) n := by
    cases h : newSet A 1 n d with
    | none =>
      have : cntRun A 1 n (-1) = 0 := if_pos rfl
      show cntRun A 1 n (-1) ≤ _
      rw [this]; exact Nat.zero_le _
    | some i =>
      unfold newSet at h
      obtain ⟨i1, i2, -⟩ := zfst_some h
      have i3 := (Bool.and_eq_true_iff.mp i2).1
      have := nsum_ge (fun i => bif owned A 1 (zn i) 1 d then cntRun A 1 n (zn i) else 0) n i1
      have e : (bif owned A 1 (zn i) 1 d then cntRun A 1 n (zn i) else 0) = cntRun A 1 n (zn i) := by rw [i3]; rfl
      exact e ▸ this
  have hm : n * 60 ≤ 3600 := Nat.mul_le_mul_right 60 hn
  rw [hs]
  generalize nsum (fun i => bif owned A 1 (zn i) 1 d then cntRun A 1 n (zn i) else 0) n = S at *
  generalize cntRun A 1 n (zoi (newSet A 1 n d)) = C at *
  rw [zn_lt (a := S) (b := C) (by omega) (by omega)]
  exact eq_false (by omega)
theorem bud_pos : ∀ a b : Fin 3, ¬ (a.1 = 0 ∧ b.1 = 0) → ¬ (10 * zn a.1 + zn b.1 ≤ 0) := by decide
theorem ob_end (H : Iv A) {k n : Nat} (hk : k < nv A 1) (hn : n ≤ 1320) (w4 : Int32) (j5 j6 j7 j8 : Option Value) : ∃ j5', lz_ev tL_areObjects 378 [some (.ref 0), some (.int 1), some (.int (zn k)), some (.int (row A k 23)), some (.int w4), j5, j6, j7, j8] [] (A, n) = lz_ev tL_areObjects 4 [some (.ref 0), some (.int 1), some (.int (zn (k + 1))), some (.int (row A k 23)), some (.int w4), j5', j6, j7, j8] [] (A, n) := by
  obtain ⟨hA, ⟨R, HR⟩, I⟩ := H
  have n60 := rl_n60 HR.1
  have f1 : (n ≤ 1320) = True := eq_true hn
  obtain ⟨⟨gF, -, -, ⟨q, q1, q2⟩, -, -, g6, ⟨h, h1, h2⟩, g8⟩, -⟩ := cur_good HR.1 hk
  obtain ⟨-, p28, p29, pb, -⟩ := JJ_cur I.1 hk
  have o3 := kV_e (g_goingOf hA HR hk)
  rw [q2] at o3
  by_cases c0 : row A k 23 = 0
  · have b1 := kV_e (g_budget hA HR hk c0)
    have b2 := kV_e (g_field hA HR hk (j := 2) (by rw [c0]; decide) (by decide))
    have b3 := kV_e (g_field hA HR hk (j := 3) (by rw [c0]; decide) (by decide))
    have b2' : lz_g fX11_field [.ref 0, .int (zn k), .int 2] A = _ := b2
    have b3' : lz_g fX11_field [.ref 0, .int (zn k), .int 3] A = _ := b3
    obtain ⟨r1, r2⟩ := g_running hA HR hk c0
    have r1 := kV_e r1
    have r2 := kV_e r2
    have rl := run_le A (zn k) n60
    have bp : (10 * row A k 2 + row A k 3 ≤ 0) = False := by
      obtain ⟨a, a1, -, a3⟩ := gF 2 (by decide)
      obtain ⟨b, b1, -, b3⟩ := gF 3 (by decide)
      have a3 : a ≤ 2 := a3
      have b3 : b ≤ 2 := b3
      have nz := pb c0
      rw [a1, b1] at nz ⊢
      exact eq_false (bud_pos ⟨a, by omega⟩ ⟨b, by omega⟩ fun z => nz ⟨by
        have : a = 0 := z.1
        rw [this]; rfl, by
        have : b = 0 := z.2
        rw [this]; rfl⟩)
    refine ⟨j5, ?_⟩
    clear b2 b3 I HR
    generalize (zsum (nv A 1) fun i => bif owned A 1 (zn i) 1 (zn k) then zn (cntRun A 1 (nv A 1) (zn i)) else 0) = y at *
    generalize zn (cntRun A 1 (nv A 1) (zoi (newSet A 1 (nv A 1) (zn k)))) = x at *
    (simp (decide := true) only [e_L_areObjects_p0, e_L_areObjects_p1, lo_iload, lo_lload, lo_aload, lo_istore, lo_lstore, lo_iinc, lo_pushI, lo_pushL, lo_ii, lo_iid, lo_ll, lo_li, lo_lcmp, lo_i2l, lo_dup2, lo_goto, lo_if, lo_icmp, lq_iret_f, lq_iret_1, lq_iret_0, lq_iret_b, lq_lret, lq_bs, lq_bv, lq_bhv, lq_bhx, q_c8_0, q_c8_1, q_c8_2, q_c8_3, q_c8_4, q_set_0, q_set_1i, q_set_1r, q_set_1n, q_set_1N, q_set_s, q_set_1j, q_set_1l, q_set2_0, q_set2_1i, q_set2_1r, q_set2_1n, q_set2_s, q_if, zb_ite, cond_true, cond_false, List.getElem?_cons_zero, List.getElem?_cons_succ, Nat.reduceAdd, c0, f1, b1, b2', b3', bp, r1, r2, rl, Int32.reduceLT, Int32.reduceLE, Nat.reduceLeDiff, Nat.zero_le, Nat.le_refl, Nat.zero_add, if_true, if_false, zb_eq0, zb_eq1, zn_1, not_true_eq_false, not_false_eq_true, ite_true, ite_false, if_true, if_false, q_iret_0, q_iret_1, decide_true, decide_false, decide_not, zb_t, zb_f, z10, z01, cond_true, cond_false, Bool.and_true, Bool.true_and, Bool.and_false, Bool.false_and, Bool.not_true, Bool.not_false, true_and, and_true, false_and, and_false, true_or, or_true, false_or, or_false, Bool.true_eq_false, Bool.false_eq_true, eq_self, reduceCtorEq, Bool.or_true, Bool.true_or, Bool.or_false, Bool.false_or])
  · by_cases c2 : row A k 23 = 2
    · have o4 := kV_e (g_placeOf hA HR hk c2)
      have o5 := kV_e (g_phaseOf hA HR hk c2)
      rw [h2] at o5
      rcases p28 with e | ⟨p, w1, w2, w3⟩
      · rw [e] at o4
        have pp := p29 c2
        rw [h2, e, q2] at pp
        refine ⟨some (.int (-1)), ?_⟩
        clear I HR
        by_cases hz : zn h = 0
        · (simp (decide := true) only [e_L_areObjects_p0, e_L_areObjects_p1, lo_iload, lo_lload, lo_aload, lo_istore, lo_lstore, lo_iinc, lo_pushI, lo_pushL, lo_ii, lo_iid, lo_ll, lo_li, lo_lcmp, lo_i2l, lo_dup2, lo_goto, lo_if, lo_icmp, lq_iret_f, lq_iret_1, lq_iret_0, lq_iret_b, lq_lret, lq_bs, lq_bv, lq_bhv, lq_bhx, q_c8_0, q_c8_1, q_c8_2, q_c8_3, q_c8_4, q_set_0, q_set_1i, q_set_1r, q_set_1n, q_set_1N, q_set_s, q_set_1j, q_set_1l, q_set2_0, q_set2_1i, q_set2_1r, q_set2_1n, q_set2_s, q_if, zb_ite, cond_true, cond_false, List.getElem?_cons_zero, List.getElem?_cons_succ, Nat.reduceAdd, c2, f1, o4, o5, hz, Int32.reduceLT, Int32.reduceLE, Nat.reduceLeDiff, Nat.zero_le, Nat.le_refl, Nat.zero_add, if_true, if_false, zb_eq0, zb_eq1, zn_1, not_true_eq_false, not_false_eq_true, ite_true, ite_false, if_true, if_false, q_iret_0, q_iret_1, decide_true, decide_false, decide_not, zb_t, zb_f, z10, z01, cond_true, cond_false, Bool.and_true, Bool.true_and, Bool.and_false, Bool.false_and, Bool.not_true, Bool.not_false, true_and, and_true, false_and, and_false, true_or, or_true, false_or, or_false, Bool.true_eq_false, Bool.false_eq_true, eq_self, reduceCtorEq, Bool.or_true, Bool.true_or, Bool.or_false, Bool.false_or])
        · have hq : ¬ zn q = 0 := (pp.resolve_left hz).resolve_left (fun z => z rfl)
          have lq : (zn q ≤ 0) = False := zn_le (a := q) (b := 0) (by omega) (by decide) ▸ eq_false (fun z => hq (by rw [show q = 0 by omega]; rfl))
          (simp (decide := true) only [e_L_areObjects_p0, e_L_areObjects_p1, lo_iload, lo_lload, lo_aload, lo_istore, lo_lstore, lo_iinc, lo_pushI, lo_pushL, lo_ii, lo_iid, lo_ll, lo_li, lo_lcmp, lo_i2l, lo_dup2, lo_goto, lo_if, lo_icmp, lq_iret_f, lq_iret_1, lq_iret_0, lq_iret_b, lq_lret, lq_bs, lq_bv, lq_bhv, lq_bhx, q_c8_0, q_c8_1, q_c8_2, q_c8_3, q_c8_4, q_set_0, q_set_1i, q_set_1r, q_set_1n, q_set_1N, q_set_s, q_set_1j, q_set_1l, q_set2_0, q_set2_1i, q_set2_1r, q_set2_1n, q_set2_s, q_if, zb_ite, cond_true, cond_false, List.getElem?_cons_zero, List.getElem?_cons_succ, Nat.reduceAdd, c2, f1, o3, o4, o5, hz, lq, Int32.reduceLT, Int32.reduceLE, Nat.reduceLeDiff, Nat.zero_le, Nat.le_refl, Nat.zero_add, if_true, if_false, zb_eq0, zb_eq1, zn_1, not_true_eq_false, not_false_eq_true, ite_true, ite_false, if_true, if_false, q_iret_0, q_iret_1, decide_true, decide_false, decide_not, zb_t, zb_f, z10, z01, cond_true, cond_false, Bool.and_true, Bool.true_and, Bool.and_false, Bool.false_and, Bool.not_true, Bool.not_false, true_and, and_true, false_and, and_false, true_or, or_true, false_or, or_false, Bool.true_eq_false, Bool.false_eq_true, eq_self, reduceCtorEq, Bool.or_true, Bool.true_or, Bool.or_false, Bool.false_or])
      · have q4 : q < 4 := by
          refine Nat.lt_of_le_of_ne q1 fun z => ?_
          have := (g8 (by rw [q2, z]; rfl)).2
          rw [w2] at this
          exact zn60 rfl (by omega) this
        have o6 := kV_e (g_kindOf hA HR w1)
        rw [w3] at o6
        rw [w2] at o4
        have lm := zn_m1l (w := p) (by omega)
        have l0 : (zn p < 0) = False := zn_lt0 (by omega)
        have l0' : ((0 : Int32) ≤ zn p) = True := zn_le (a := 0) (b := p) (by decide) (by omega) ▸ eq_true (by omega)
        have lg4 : ((4 : Int32) ≤ zn q) = False := zk_lt (n := 4) q4 (Nat.le_refl _) (by decide)
        refine ⟨some (.int (zn p)), ?_⟩
        clear I HR
        by_cases hz : zn h = 0
        · (simp (decide := true) only [e_L_areObjects_p0, e_L_areObjects_p1, lo_iload, lo_lload, lo_aload, lo_istore, lo_lstore, lo_iinc, lo_pushI, lo_pushL, lo_ii, lo_iid, lo_ll, lo_li, lo_lcmp, lo_i2l, lo_dup2, lo_goto, lo_if, lo_icmp, lq_iret_f, lq_iret_1, lq_iret_0, lq_iret_b, lq_lret, lq_bs, lq_bv, lq_bhv, lq_bhx, q_c8_0, q_c8_1, q_c8_2, q_c8_3, q_c8_4, q_set_0, q_set_1i, q_set_1r, q_set_1n, q_set_1N, q_set_s, q_set_1j, q_set_1l, q_set2_0, q_set2_1i, q_set2_1r, q_set2_1n, q_set2_s, q_if, zb_ite, cond_true, cond_false, List.getElem?_cons_zero, List.getElem?_cons_succ, Nat.reduceAdd, c2, f1, o3, o4, o5, o6, hz, lm, l0, l0', lg4, Int32.reduceLT, Int32.reduceLE, Nat.reduceLeDiff, Nat.zero_le, Nat.le_refl, Nat.zero_add, if_true, if_false, zb_eq0, zb_eq1, zn_1, not_true_eq_false, not_false_eq_true, ite_true, ite_false, if_true, if_false, q_iret_0, q_iret_1, decide_true, decide_false, decide_not, zb_t, zb_f, z10, z01, cond_true, cond_false, Bool.and_true, Bool.true_and, Bool.and_false, Bool.false_and, Bool.not_true, Bool.not_false, true_and, and_true, false_and, and_false, true_or, or_true, false_or, or_false, Bool.true_eq_false, Bool.false_eq_true, eq_self, reduceCtorEq, Bool.or_true, Bool.true_or, Bool.or_false, Bool.false_or])
        · (simp (decide := true) only [e_L_areObjects_p0, e_L_areObjects_p1, lo_iload, lo_lload, lo_aload, lo_istore, lo_lstore, lo_iinc, lo_pushI, lo_pushL, lo_ii, lo_iid, lo_ll, lo_li, lo_lcmp, lo_i2l, lo_dup2, lo_goto, lo_if, lo_icmp, lq_iret_f, lq_iret_1, lq_iret_0, lq_iret_b, lq_lret, lq_bs, lq_bv, lq_bhv, lq_bhx, q_c8_0, q_c8_1, q_c8_2, q_c8_3, q_c8_4, q_set_0, q_set_1i, q_set_1r, q_set_1n, q_set_1N, q_set_s, q_set_1j, q_set_1l, q_set2_0, q_set2_1i, q_set2_1r, q_set2_1n, q_set2_s, q_if, zb_ite, cond_true, cond_false, List.getElem?_cons_zero, List.getElem?_cons_succ, Nat.reduceAdd, c2, f1, o3, o4, o5, o6, hz, lm, l0, l0', lg4, Int32.reduceLT, Int32.reduceLE, Nat.reduceLeDiff, Nat.zero_le, Nat.le_refl, Nat.zero_add, if_true, if_false, zb_eq0, zb_eq1, zn_1, not_true_eq_false, not_false_eq_true, ite_true, ite_false, if_true, if_false, q_iret_0, q_iret_1, decide_true, decide_false, decide_not, zb_t, zb_f, z10, z01, cond_true, cond_false, Bool.and_true, Bool.true_and, Bool.and_false, Bool.false_and, Bool.not_true, Bool.not_false, true_and, and_true, false_and, and_false, true_or, or_true, false_or, or_false, Bool.true_eq_false, Bool.false_eq_true, eq_self, reduceCtorEq, Bool.or_true, Bool.true_or, Bool.or_false, Bool.false_or])
    · refine ⟨j5, ?_⟩
      (simp (decide := true) only [e_L_areObjects_p0, e_L_areObjects_p1, lo_iload, lo_lload, lo_aload, lo_istore, lo_lstore, lo_iinc, lo_pushI, lo_pushL, lo_ii, lo_iid, lo_ll, lo_li, lo_lcmp, lo_i2l, lo_dup2, lo_goto, lo_if, lo_icmp, lq_iret_f, lq_iret_1, lq_iret_0, lq_iret_b, lq_lret, lq_bs, lq_bv, lq_bhv, lq_bhx, q_c8_0, q_c8_1, q_c8_2, q_c8_3, q_c8_4, q_set_0, q_set_1i, q_set_1r, q_set_1n, q_set_1N, q_set_s, q_set_1j, q_set_1l, q_set2_0, q_set2_1i, q_set2_1r, q_set2_1n, q_set2_s, q_if, zb_ite, cond_true, cond_false, List.getElem?_cons_zero, List.getElem?_cons_succ, Nat.reduceAdd, c0, c2, Int32.reduceLT, Int32.reduceLE, Nat.reduceLeDiff, Nat.zero_le, Nat.le_refl, Nat.zero_add, if_true, if_false, zb_eq0, zb_eq1, zn_1, not_true_eq_false, not_false_eq_true, ite_true, ite_false, if_true, if_false, q_iret_0, q_iret_1, decide_true, decide_false, decide_not, zb_t, zb_f, z10, z01, cond_true, cond_false, Bool.and_true, Bool.true_and, Bool.and_false, Bool.false_and, Bool.not_true, Bool.not_false, true_and, and_true, false_and, and_false, true_or, or_true, false_or, or_false, Bool.true_eq_false, Bool.false_eq_true, eq_self, reduceCtorEq, Bool.or_true, Bool.true_or, Bool.or_false, Bool.false_or])
theorem ob_4 (H : Iv A) : ∀ k, k ≤ nv A 1 → ∃ n j3 j4 j5 j6 j7 j8, n ≤ 22 * k ∧ lz_ev tL_areObjects 4 [some (.ref 0), some (.int 1), some (.int 0), none, none, none, none, none, none] [] (A, 0) = lz_ev tL_areObjects 4 [some (.ref 0), some (.int 1), some (.int (zn k)), j3, j4, j5, j6, j7, j8] [] (A, n) := by
  intro k
  induction k with
  | zero => exact fun _ => ⟨0, none, none, none, none, none, none, Nat.le_refl _, rfl⟩
  | succ k ih =>
    intro hk
    obtain ⟨n, j3, j4, j5, j6, j7, j8, hn, e⟩ := ih (by omega)
    have H' := H
    obtain ⟨hA, ⟨R, HR⟩, I⟩ := H'
    have n60 := rl_n60 HR.1
    have s1 := ob_own H (k := k) (n := n) (by omega) (by omega) j3 j4 j5 j6 j7 j8
    obtain ⟨n', i6, i7, i8, hn', s2⟩ := ob_103 H (k := k) (n := n) (by omega) (by omega) (row A k 24) j6 j7 j8 11 (Nat.le_refl _)
    have l11 : ((11 : Int32) ≤ zn 11) = True := eq_true (by decide)
    have s3 : lz_ev tL_areObjects 103 [some (.ref 0), some (.int 1), some (.int (zn k)), some (.int (row A k 23)), some (.int (row A k 24)), some (.int (zn 11)), i6, i7, i8] [] (A, n') = lz_ev tL_areObjects 378 [some (.ref 0), some (.int 1), some (.int (zn k)), some (.int (row A k 23)), some (.int (row A k 24)), some (.int (zn 11)), i6, i7, i8] [] (A, n') := by
      clear e s1 s2 ih
      generalize hZ : lz_ev tL_areObjects 378 [some (.ref 0), some (.int 1), some (.int (zn k)), some (.int (row A k 23)), some (.int (row A k 24)), some (.int (zn 11)), i6, i7, i8] [] (A, n') = Z
      (rw [e_L_areObjects_103]; simp (decide := true) only [e_L_areObjects_p0, e_L_areObjects_p1, lo_iload, lo_lload, lo_aload, lo_istore, lo_lstore, lo_iinc, lo_pushI, lo_pushL, lo_ii, lo_iid, lo_ll, lo_li, lo_lcmp, lo_i2l, lo_dup2, lo_goto, lo_if, lo_icmp, lq_iret_f, lq_iret_1, lq_iret_0, lq_iret_b, lq_lret, lq_bs, lq_bv, lq_bhv, lq_bhx, q_c8_0, q_c8_1, q_c8_2, q_c8_3, q_c8_4, q_set_0, q_set_1i, q_set_1r, q_set_1n, q_set_1N, q_set_s, q_set_1j, q_set_1l, q_set2_0, q_set2_1i, q_set2_1r, q_set2_1n, q_set2_s, q_if, zb_ite, cond_true, cond_false, List.getElem?_cons_zero, List.getElem?_cons_succ, Nat.reduceAdd, ↓hZ, l11, Int32.reduceLT, Int32.reduceLE, Nat.reduceLeDiff, Nat.zero_le, Nat.le_refl, Nat.zero_add, if_true, if_false, zb_eq0, zb_eq1, zn_1, not_true_eq_false, not_false_eq_true, ite_true, ite_false, if_true, if_false, q_iret_0, q_iret_1, decide_true, decide_false, decide_not, zb_t, zb_f, z10, z01, cond_true, cond_false, Bool.and_true, Bool.true_and, Bool.and_false, Bool.false_and, Bool.not_true, Bool.not_false, true_and, and_true, false_and, and_false, true_or, or_true, false_or, or_false, Bool.true_eq_false, Bool.false_eq_true, eq_self, reduceCtorEq, Bool.or_true, Bool.true_or, Bool.or_false, Bool.false_or])
    obtain ⟨k5, s4⟩ := ob_end H (k := k) (n := n') (by omega) (by omega) (row A k 24) (some (.int (zn 11))) i6 i7 i8
    exact ⟨n', _, _, _, _, _, _, by omega, e.trans (s1.trans (s2.trans (s3.trans s4)))⟩
theorem w_areObjects (H : Iv A) : fL_areObjects [.ref 0] A = some (some (.int 1), A) := by
  obtain ⟨n, j3, j4, j5, j6, j7, j8, hn, e⟩ := ob_4 H (nv A 1) (Nat.le_refl _)
  obtain ⟨hA, ⟨R, HR⟩, -⟩ := H
  have n60 := rl_n60 HR.1
  have o0 := kV_e (g_objects hA HR)
  have f1 : (n ≤ 1320) = True := eq_true (by omega)
  have l : (zn (nv A 1) ≤ zn (nv A 1)) = True := zk_ge n60 (by decide)
  have s1 : lz_ev tL_areObjects 0 [some (.ref 0), none, none, none, none, none, none, none, none] [] (A, 0) = lz_ev tL_areObjects 4 [some (.ref 0), some (.int 1), some (.int 0), none, none, none, none, none, none] [] (A, 0) := by
    clear e
    (simp (decide := true) only [e_L_areObjects_p0, e_L_areObjects_p1, lo_iload, lo_lload, lo_aload, lo_istore, lo_lstore, lo_iinc, lo_pushI, lo_pushL, lo_ii, lo_iid, lo_ll, lo_li, lo_lcmp, lo_i2l, lo_dup2, lo_goto, lo_if, lo_icmp, lq_iret_f, lq_iret_1, lq_iret_0, lq_iret_b, lq_lret, lq_bs, lq_bv, lq_bhv, lq_bhx, q_c8_0, q_c8_1, q_c8_2, q_c8_3, q_c8_4, q_set_0, q_set_1i, q_set_1r, q_set_1n, q_set_1N, q_set_s, q_set_1j, q_set_1l, q_set2_0, q_set2_1i, q_set2_1r, q_set2_1n, q_set2_s, q_if, zb_ite, cond_true, cond_false, List.getElem?_cons_zero, List.getElem?_cons_succ, Nat.reduceAdd, Int32.reduceLT, Int32.reduceLE, Nat.reduceLeDiff, Nat.zero_le, Nat.le_refl, Nat.zero_add, if_true, if_false, zb_eq0, zb_eq1, zn_1, not_true_eq_false, not_false_eq_true, ite_true, ite_false, if_true, if_false, q_iret_0, q_iret_1, decide_true, decide_false, decide_not, zb_t, zb_f, z10, z01, cond_true, cond_false, Bool.and_true, Bool.true_and, Bool.and_false, Bool.false_and, Bool.not_true, Bool.not_false, true_and, and_true, false_and, and_false, true_or, or_true, false_or, or_false, Bool.true_eq_false, Bool.false_eq_true, eq_self, reduceCtorEq, Bool.or_true, Bool.true_or, Bool.or_false, Bool.false_or])
  have s2 : lz_ev tL_areObjects 4 [some (.ref 0), some (.int 1), some (.int (zn (nv A 1))), j3, j4, j5, j6, j7, j8] [] (A, n) = some (some (.int 1), (A, n)) := by
    clear e s1
    (rw [e_L_areObjects_4]; simp (decide := true) only [e_L_areObjects_p0, e_L_areObjects_p1, lo_iload, lo_lload, lo_aload, lo_istore, lo_lstore, lo_iinc, lo_pushI, lo_pushL, lo_ii, lo_iid, lo_ll, lo_li, lo_lcmp, lo_i2l, lo_dup2, lo_goto, lo_if, lo_icmp, lq_iret_f, lq_iret_1, lq_iret_0, lq_iret_b, lq_lret, lq_bs, lq_bv, lq_bhv, lq_bhx, q_c8_0, q_c8_1, q_c8_2, q_c8_3, q_c8_4, q_set_0, q_set_1i, q_set_1r, q_set_1n, q_set_1N, q_set_s, q_set_1j, q_set_1l, q_set2_0, q_set2_1i, q_set2_1r, q_set2_1n, q_set2_s, q_if, zb_ite, cond_true, cond_false, List.getElem?_cons_zero, List.getElem?_cons_succ, Nat.reduceAdd, l, f1, o0, Int32.reduceLT, Int32.reduceLE, Nat.reduceLeDiff, Nat.zero_le, Nat.le_refl, Nat.zero_add, if_true, if_false, zb_eq0, zb_eq1, zn_1, not_true_eq_false, not_false_eq_true, ite_true, ite_false, if_true, if_false, q_iret_0, q_iret_1, decide_true, decide_false, decide_not, zb_t, zb_f, z10, z01, cond_true, cond_false, Bool.and_true, Bool.true_and, Bool.and_false, Bool.false_and, Bool.not_true, Bool.not_false, true_and, and_true, false_and, and_false, true_or, or_true, false_or, or_false, Bool.true_eq_false, Bool.false_eq_true, eq_self, reduceCtorEq, Bool.or_true, Bool.true_or, Bool.or_false, Bool.false_or])
  exact s_L_areObjects _ (s1.trans (e.trans s2))
end
end

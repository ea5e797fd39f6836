section
/-! a work of a controller: what it tells is so -/
section
variable {A B R : zzMd} {c : Nat}
theorem newE_s (A B : zzMd) (i : Nat) : newE A B (i + 1) = newE A B i + (bif decide (nv A 1 ≤ obj B (ve A 1 + 1 + i)) then 1 else 0) := rfl
theorem wk_67 (HB : Iv B) (n6 : nv A 1 ≤ 60) (n4 : ve A 1 ≤ 400) (x : Int64) (v out : Int32) (lv : ve A 1 ≤ ve B 1) : ∀ i, i ≤ ve B 1 - ve A 1 → lz_ev tL_isWorked 67 [some (.ref 0), some (.int (zn c)), some (.int (zn (ve A 1))), some (.int v), some (.long x), none, some (.int (zn (nv A 1))), some (.int out), some (.int 0), some (.int (zn (ve A 1 + 1)))] [] (B, 1321) = lz_ev tL_isWorked 67 [some (.ref 0), some (.int (zn c)), some (.int (zn (ve A 1))), some (.int v), some (.long x), none, some (.int (zn (nv A 1))), some (.int out), some (.int (zn (newE A B i))), some (.int (zn (ve A 1 + 1 + i)))] [] (B, 1321) := by
  intro i
  obtain ⟨hB, ⟨R, HR⟩, I⟩ := HB
  have m4 := (Lg_n60 I.1.1).2.1
  have m6 := (Lg_n60 I.1.1).1
  induction i with
  | zero => exact fun _ => rfl
  | succ i ih =>
    intro hi
    refine (ih (by omega)).trans ?_
    have o0 := kV_e (g_version hB HR)
    have o1 := kV_e (g_objectOf hB HR (k := ve A 1 + 1 + i) (by omega) (by omega))
    have l : (zn (ve B 1) < zn (ve A 1 + 1 + i)) = False := zn_lt (a := ve B 1) (b := ve A 1 + 1 + i) (by omega) (by omega) ▸ eq_false (by omega)
    have ol := obj_lt I.1.1 (k := ve A 1 + 1 + i) (by omega) (by omega)
    rw [newE_s, show ve A 1 + 1 + (i + 1) = ve A 1 + 1 + i + 1 from rfl]
    generalize newE A B i = m
    generalize obj B (ve A 1 + 1 + i) = o at *
    generalize ve A 1 + 1 + i = e at *
    clear ih HR I
    by_cases h : nv A 1 ≤ o
    · have lo : (zn o < zn (nv A 1)) = False := zn_lt (a := o) (b := nv A 1) (by omega) (by omega) ▸ eq_false (by omega)
      rw [decide_eq_true h, cond_true]
      (rw [e_L_isWorked_67]; simp (decide := true) only [e_L_isWorked, lo_iload, lo_lload, lo_aload, lo_istore, lo_lstore, lo_iinc, lo_pushI, lo_pushL, lo_ii, lo_iid, lo_ll, lo_li, lo_lcmp, lo_i2l, lo_dup2, lo_goto, lo_if, lo_icmp, lq_iret_f, lq_iret_1, lq_iret_0, lq_iret_b, lq_lret, lq_bs, lq_bv, lq_bhv, lq_bhx, q_c8_0, q_c8_1, q_c8_2, q_c8_3, q_c8_4, q_set_0, q_set_1i, q_set_1r, q_set_1n, q_set_1N, q_set_s, q_set_1j, q_set_1l, q_set2_0, q_set2_1i, q_set2_1r, q_set2_1n, q_set2_s, q_if, zb_ite, cond_true, cond_false, List.getElem?_cons_zero, List.getElem?_cons_succ, Nat.reduceAdd, l, lo, o0, o1, Int32.reduceLT, Int32.reduceLE, Nat.reduceLeDiff, Nat.zero_le, Nat.le_refl, Nat.zero_add, if_true, if_false, zb_eq0, zb_eq1, zn_1, not_true_eq_false, not_false_eq_true, ite_true, ite_false, if_true, if_false, q_iret_0, q_iret_1, decide_true, decide_false, decide_not, zb_t, zb_f, z10, z01, cond_true, cond_false, Bool.and_true, Bool.true_and, Bool.and_false, Bool.false_and, Bool.not_true, Bool.not_false, true_and, and_true, false_and, and_false, true_or, or_true, false_or, or_false, Bool.true_eq_false, Bool.false_eq_true, eq_self, reduceCtorEq, Bool.or_true, Bool.true_or, Bool.or_false, Bool.false_or])
    · have lo : (zn o < zn (nv A 1)) = True := zn_lt (a := o) (b := nv A 1) (by omega) (by omega) ▸ eq_true (by omega)
      rw [decide_eq_false h, cond_false]
      (rw [e_L_isWorked_67]; simp (decide := true) only [e_L_isWorked, lo_iload, lo_lload, lo_aload, lo_istore, lo_lstore, lo_iinc, lo_pushI, lo_pushL, lo_ii, lo_iid, lo_ll, lo_li, lo_lcmp, lo_i2l, lo_dup2, lo_goto, lo_if, lo_icmp, lq_iret_f, lq_iret_1, lq_iret_0, lq_iret_b, lq_lret, lq_bs, lq_bv, lq_bhv, lq_bhx, q_c8_0, q_c8_1, q_c8_2, q_c8_3, q_c8_4, q_set_0, q_set_1i, q_set_1r, q_set_1n, q_set_1N, q_set_s, q_set_1j, q_set_1l, q_set2_0, q_set2_1i, q_set2_1r, q_set2_1n, q_set2_s, q_if, zb_ite, cond_true, cond_false, List.getElem?_cons_zero, List.getElem?_cons_succ, Nat.reduceAdd, l, lo, o0, o1, Int32.add_zero, Nat.add_zero, Int32.reduceLT, Int32.reduceLE, Nat.reduceLeDiff, Nat.zero_le, Nat.le_refl, Nat.zero_add, if_true, if_false, zb_eq0, zb_eq1, zn_1, not_true_eq_false, not_false_eq_true, ite_true, ite_false, if_true, if_false, q_iret_0, q_iret_1, decide_true, decide_false, decide_not, zb_t, zb_f, z10, z01, cond_true, cond_false, Bool.and_true, Bool.true_and, Bool.and_false, Bool.false_and, Bool.not_true, Bool.not_false, true_and, and_true, false_and, and_false, true_or, or_true, false_or, or_false, Bool.true_eq_false, Bool.false_eq_true, eq_self, reduceCtorEq, Bool.or_true, Bool.true_or, Bool.or_false, Bool.false_or])
theorem w_isWorked (H : Iv A) (hc : c < 8) : fL_isWorked [.ref 0, .int (zn c)] A = some (some (.int 1), (aWork A c).2) := by
  have H' := H
  obtain ⟨hA, ⟨R, HR⟩, I⟩ := H'
  have HB := Iv_work H hc
  have W := (II_work I HR hc).2
  have X := Px_work A hc
  have L := I.1.1
  have n6 := (Lg_n60 L).1
  have n4 := (Lg_n60 L).2.1
  have a0 := kV_e (g_version hA HR)
  obtain ⟨v, a1, a1q, -⟩ := q_any H hc (p := 0) (by decide)
  have a1 : lz_g fX11_queued [.ref 0, .int (zn c), .int 0] A = _ := a1
  obtain ⟨x, a2⟩ := w_all H
  have a3 := kV_e (g_objects hA HR)
  have a4 := va_work (b := 0) (c := 0) (d := 0) (e := 0) (f := 0) (kW_e (g_work hA HR hc))
  have lx : (lg_cmp x x = 0) = True := by
    rw [lc_0]; exact eq_true rfl
  generalize (aWork A c).2 = B at *
  generalize (aWork A c).1 = out at *
  refine s_L_isWorked _ _ (n := if out = 0 then 2641 else 1321) ?_
  by_cases h0 : out = 0
  · rw [if_pos h0]
    rcases W with ⟨-, e⟩ | ⟨-, h, -⟩
    · subst e
      rw [h0] at a4
      clear HB X I HR
      (simp (decide := true) only [e_L_isWorked, lo_iload, lo_lload, lo_aload, lo_istore, lo_lstore, lo_iinc, lo_pushI, lo_pushL, lo_ii, lo_iid, lo_ll, lo_li, lo_lcmp, lo_i2l, lo_dup2, lo_goto, lo_if, lo_icmp, lq_iret_f, lq_iret_1, lq_iret_0, lq_iret_b, lq_lret, lq_bs, lq_bv, lq_bhv, lq_bhx, q_c8_0, q_c8_1, q_c8_2, q_c8_3, q_c8_4, q_set_0, q_set_1i, q_set_1r, q_set_1n, q_set_1N, q_set_s, q_set_1j, q_set_1l, q_set2_0, q_set2_1i, q_set2_1r, q_set2_1n, q_set2_s, q_if, zb_ite, cond_true, cond_false, List.getElem?_cons_zero, List.getElem?_cons_succ, Nat.reduceAdd, a0, a1, a2, a3, a4, lx, Int32.reduceLT, Int32.reduceLE, Nat.reduceLeDiff, Nat.zero_le, Nat.le_refl, Nat.zero_add, if_true, if_false, zb_eq0, zb_eq1, zn_1, not_true_eq_false, not_false_eq_true, ite_true, ite_false, if_true, if_false, q_iret_0, q_iret_1, decide_true, decide_false, decide_not, zb_t, zb_f, z10, z01, cond_true, cond_false, Bool.and_true, Bool.true_and, Bool.and_false, Bool.false_and, Bool.not_true, Bool.not_false, true_and, and_true, false_and, and_false, true_or, or_true, false_or, or_false, Bool.true_eq_false, Bool.false_eq_true, eq_self, reduceCtorEq, Bool.or_true, Bool.true_or, Bool.or_false, Bool.false_or])
    · rw [h0] at h
      rcases h with h | h | ⟨h, -⟩ <;> exact absurd h (by decide)
  · rw [if_neg h0]
    rcases W with ⟨e, -⟩ | ⟨hq, ho, lv, N⟩
    · exact absurd e h0
    · have s1 : lz_ev tL_isWorked 0 [some (.ref 0), some (.int (zn c)), none, none, none, none, none, none, none, none] [] (A, 0) = lz_ev tL_isWorked 67 [some (.ref 0), some (.int (zn c)), some (.int (zn (ve A 1))), some (.int v), some (.long x), none, some (.int (zn (nv A 1))), some (.int out), some (.int 0), some (.int (zn (ve A 1 + 1)))] [] (B, 1321) := by
        clear HB X I HR N
        (simp (decide := true) only [e_L_isWorked, lo_iload, lo_lload, lo_aload, lo_istore, lo_lstore, lo_iinc, lo_pushI, lo_pushL, lo_ii, lo_iid, lo_ll, lo_li, lo_lcmp, lo_i2l, lo_dup2, lo_goto, lo_if, lo_icmp, lq_iret_f, lq_iret_1, lq_iret_0, lq_iret_b, lq_lret, lq_bs, lq_bv, lq_bhv, lq_bhx, q_c8_0, q_c8_1, q_c8_2, q_c8_3, q_c8_4, q_set_0, q_set_1i, q_set_1r, q_set_1n, q_set_1N, q_set_s, q_set_1j, q_set_1l, q_set2_0, q_set2_1i, q_set2_1r, q_set2_1n, q_set2_s, q_if, zb_ite, cond_true, cond_false, List.getElem?_cons_zero, List.getElem?_cons_succ, Nat.reduceAdd, a0, a1, a2, a3, a4, h0, Int32.reduceLT, Int32.reduceLE, Nat.reduceLeDiff, Nat.zero_le, Nat.le_refl, Nat.zero_add, if_true, if_false, zb_eq0, zb_eq1, zn_1, not_true_eq_false, not_false_eq_true, ite_true, ite_false, if_true, if_false, q_iret_0, q_iret_1, decide_true, decide_false, decide_not, zb_t, zb_f, z10, z01, cond_true, cond_false, Bool.and_true, Bool.true_and, Bool.and_false, Bool.false_and, Bool.not_true, Bool.not_false, true_and, and_true, false_and, and_false, true_or, or_true, false_or, or_false, Bool.true_eq_false, Bool.false_eq_true, eq_self, reduceCtorEq, Bool.or_true, Bool.true_or, Bool.or_false, Bool.false_or])
      have s2 := wk_67 (c := c) HB n6 n4 x v out lv (ve B 1 - ve A 1) (Nat.le_refl _)
      obtain ⟨w1, w2⟩ := work_new L HB.2.2.1.1 X N
      rw [show ve A 1 + 1 + (ve B 1 - ve A 1) = ve B 1 + 1 by omega] at s2
      obtain ⟨hB, ⟨R', HR'⟩, I'⟩ := HB
      have m4 := (Lg_n60 I'.1.1).2.1
      have m6 := (Lg_n60 I'.1.1).1
      have b0 := kV_e (g_version hB HR')
      have b3 := kV_e (g_objects hB HR')
      have l : (zn (ve B 1) < zn (ve B 1 + 1)) = True := eq_true ((zn_lt (a := ve B 1) (b := ve B 1 + 1) (by omega) (by omega)).mpr (by omega))
      have hv : v = zn (qk A c 0) := a1q (by omega)
      have l1 : (v < 0) = False := by
        rw [hv]
        have q6 := (QI_of HR.1 hc).2.1 0 (by omega)
        exact zn_lt0 (by omega)
      have l2 : (zn (ve B 1) < zn (ve A 1)) = False := zn_lt (a := ve B 1) (b := ve A 1) (by omega) (by omega) ▸ eq_false (by omega)
      have l3 : (zn (nv B 1) = zn (nv A 1) + zn (newE A B (ve B 1 - ve A 1))) = True := by
        rw [zn_add, ← w1]; exact eq_true rfl
      have l4 : ((1 : Int32) < zn (newE A B (ve B 1 - ve A 1))) = False := zn_lt (a := 1) (b := newE A B (ve B 1 - ve A 1)) (by decide) (by omega) ▸ eq_false (by omega)
      refine s1.trans (s2.trans ?_)
      clear s1 s2 w1 w2 I I' HR HR' X N a0 a1 a2 a3 a4
      generalize newE A B (ve B 1 - ve A 1) = m at *
      rcases ho with rfl | rfl | ⟨rfl, e1, e2⟩
      · (rw [e_L_isWorked_67]; simp (decide := true) only [e_L_isWorked, lo_iload, lo_lload, lo_aload, lo_istore, lo_lstore, lo_iinc, lo_pushI, lo_pushL, lo_ii, lo_iid, lo_ll, lo_li, lo_lcmp, lo_i2l, lo_dup2, lo_goto, lo_if, lo_icmp, lq_iret_f, lq_iret_1, lq_iret_0, lq_iret_b, lq_lret, lq_bs, lq_bv, lq_bhv, lq_bhx, q_c8_0, q_c8_1, q_c8_2, q_c8_3, q_c8_4, q_set_0, q_set_1i, q_set_1r, q_set_1n, q_set_1N, q_set_s, q_set_1j, q_set_1l, q_set2_0, q_set2_1i, q_set2_1r, q_set2_1n, q_set2_s, q_if, zb_ite, cond_true, cond_false, List.getElem?_cons_zero, List.getElem?_cons_succ, Nat.reduceAdd, l, l1, l2, l3, l4, b0, b3, Int32.reduceLT, Int32.reduceLE, Nat.reduceLeDiff, Nat.zero_le, Nat.le_refl, Nat.zero_add, if_true, if_false, zb_eq0, zb_eq1, zn_1, not_true_eq_false, not_false_eq_true, ite_true, ite_false, if_true, if_false, q_iret_0, q_iret_1, decide_true, decide_false, decide_not, zb_t, zb_f, z10, z01, cond_true, cond_false, Bool.and_true, Bool.true_and, Bool.and_false, Bool.false_and, Bool.not_true, Bool.not_false, true_and, and_true, false_and, and_false, true_or, or_true, false_or, or_false, Bool.true_eq_false, Bool.false_eq_true, eq_self, reduceCtorEq, Bool.or_true, Bool.true_or, Bool.or_false, Bool.false_or])
      · (rw [e_L_isWorked_67]; simp (decide := true) only [e_L_isWorked, lo_iload, lo_lload, lo_aload, lo_istore, lo_lstore, lo_iinc, lo_pushI, lo_pushL, lo_ii, lo_iid, lo_ll, lo_li, lo_lcmp, lo_i2l, lo_dup2, lo_goto, lo_if, lo_icmp, lq_iret_f, lq_iret_1, lq_iret_0, lq_iret_b, lq_lret, lq_bs, lq_bv, lq_bhv, lq_bhx, q_c8_0, q_c8_1, q_c8_2, q_c8_3, q_c8_4, q_set_0, q_set_1i, q_set_1r, q_set_1n, q_set_1N, q_set_s, q_set_1j, q_set_1l, q_set2_0, q_set2_1i, q_set2_1r, q_set2_1n, q_set2_s, q_if, zb_ite, cond_true, cond_false, List.getElem?_cons_zero, List.getElem?_cons_succ, Nat.reduceAdd, l, l1, l2, l3, l4, b0, b3, Int32.reduceLT, Int32.reduceLE, Nat.reduceLeDiff, Nat.zero_le, Nat.le_refl, Nat.zero_add, if_true, if_false, zb_eq0, zb_eq1, zn_1, not_true_eq_false, not_false_eq_true, ite_true, ite_false, if_true, if_false, q_iret_0, q_iret_1, decide_true, decide_false, decide_not, zb_t, zb_f, z10, z01, cond_true, cond_false, Bool.and_true, Bool.true_and, Bool.and_false, Bool.false_and, Bool.not_true, Bool.not_false, true_and, and_true, false_and, and_false, true_or, or_true, false_or, or_false, Bool.true_eq_false, Bool.false_eq_true, eq_self, reduceCtorEq, Bool.or_true, Bool.true_or, Bool.or_false, Bool.false_or])
      · have l5 : (zn (ve B 1) = zn (ve A 1)) = True := by rw [e1]; exact eq_true rfl
        have l6 : (zn (nv B 1) = zn (nv A 1)) = True := by rw [e2]; exact eq_true rfl
        (rw [e_L_isWorked_67]; simp (decide := true) only [e_L_isWorked, lo_iload, lo_lload, lo_aload, lo_istore, lo_lstore, lo_iinc, lo_pushI, lo_pushL, lo_ii, lo_iid, lo_ll, lo_li, lo_lcmp, lo_i2l, lo_dup2, lo_goto, lo_if, lo_icmp, lq_iret_f, lq_iret_1, lq_iret_0, lq_iret_b, lq_lret, lq_bs, lq_bv, lq_bhv, lq_bhx, q_c8_0, q_c8_1, q_c8_2, q_c8_3, q_c8_4, q_set_0, q_set_1i, q_set_1r, q_set_1n, q_set_1N, q_set_s, q_set_1j, q_set_1l, q_set2_0, q_set2_1i, q_set2_1r, q_set2_1n, q_set2_s, q_if, zb_ite, cond_true, cond_false, List.getElem?_cons_zero, List.getElem?_cons_succ, Nat.reduceAdd, l, l1, l2, l3, l4, l5, l6, b0, b3, Int32.reduceLT, Int32.reduceLE, Nat.reduceLeDiff, Nat.zero_le, Nat.le_refl, Nat.zero_add, if_true, if_false, zb_eq0, zb_eq1, zn_1, not_true_eq_false, not_false_eq_true, ite_true, ite_false, if_true, if_false, q_iret_0, q_iret_1, decide_true, decide_false, decide_not, zb_t, zb_f, z10, z01, cond_true, cond_false, Bool.and_true, Bool.true_and, Bool.and_false, Bool.false_and, Bool.not_true, Bool.not_false, true_and, and_true, false_and, and_false, true_or, or_true, false_or, or_false, Bool.true_eq_false, Bool.false_eq_true, eq_self, reduceCtorEq, Bool.or_true, Bool.true_or, Bool.or_false, Bool.false_or])
end
end

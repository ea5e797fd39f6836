section
/-! versions grow by one with each event, and objects have the latest of theirs -/
section
variable {A B R : zzMd}
/-- the law's arrays change alone -/
def W73 (A B : zzMd) : Prop := Iv B ∧ (∀ a b, a < 73 → B.1 a b = A.1 a b) ∧ ∀ b, B.1 74 b = A.1 74 b
theorem W73_refl (H : Iv A) : W73 A A := ⟨H, fun _ _ _ => rfl, fun _ => rfl⟩
theorem W73_sI (W : W73 A B) (k : Nat) (x : Int32) : W73 A (zz_sI B 73 k x) := ⟨Iv_73 W.1 (Or.inl rfl), fun a b h => (sI_a (by omega)).trans (W.2.1 a b h), fun b => (sI_a (by decide)).trans (W.2.2 b)⟩
theorem sC73 : zzSC[73]? = some (1, 0, 60, []) := rfl
theorem sC74 : zzSC[74]? = some (1, 0, 4, []) := rfl
theorem dd73 : dead 73 = false := rfl
theorem dd74 : dead 74 = false := rfl
theorem v_43 (H : Iv A) : ∀ i, i ≤ nv A 1 → ∃ B, lz_ev tL_areVersions 43 [some (.ref 0), some (.ref 73), some (.int 1), some (.int 0)] [] (A, 2) = lz_ev tL_areVersions 43 [some (.ref 0), some (.ref 73), some (.int 1), some (.int (zn i))] [] (B, 2) ∧ W73 A B ∧ ∀ q, q < i → B.1 73 q = 0 := by
  intro i
  induction i with
  | zero => exact fun _ => ⟨A, rfl, W73_refl H, fun _ h => absurd h (Nat.not_lt_zero _)⟩
  | succ i ih =>
    intro hi
    obtain ⟨B, e, W, z⟩ := ih (by omega)
    obtain ⟨e1, e2, e3, e4⟩ := e73 W.2.1
    have W' := W
    obtain ⟨⟨hB, ⟨R, HR⟩, -⟩, -, -⟩ := W'
    have n60 := rl_n60 HR.1
    have o0 := kV_e (g_objects hB HR)
    have l : (zn (nv B 1) ≤ zn i) = False := zn_le (a := nv B 1) (b := i) (by omega) (by omega) ▸ eq_false (by omega)
    have b : zz_inb (zn i) 60 = true := zn_inT (by omega) (by decide)
    have x : zz_ix (zn i) = i := zn_ix (by omega)
    refine ⟨zz_sI B 73 i 0, e.trans ?_, W73_sI W i 0, fun q hq => ?_⟩
    · clear e ih z
      (rw [e_L_areVersions_43]; simp (decide := true) only [e_L_areVersions, lo_iload, lo_lload, lo_aload, lo_istore, lo_lstore, lo_iinc, lo_pushI, lo_pushL, lo_ii, lo_iid, lo_ll, lo_li, lo_lcmp, lo_i2l, lo_dup2, lo_goto, lo_if, lo_icmp, lq_iret_f, lq_iret_1, lq_iret_0, lq_iret_b, lq_lret, lq_bs, lq_bv, lq_bhv, lq_bhx, q_c8_0, q_c8_1, q_c8_2, q_c8_3, q_c8_4, q_set_0, q_set_1i, q_set_1r, q_set_1n, q_set_1N, q_set_s, q_set_1j, q_set_1l, q_set2_0, q_set2_1i, q_set2_1r, q_set2_1n, q_set2_s, q_if, zb_ite, cond_true, cond_false, List.getElem?_cons_zero, List.getElem?_cons_succ, Nat.reduceAdd, l, o0, lo_iast, sC73, dd73, b, x, Int32.reduceLT, Int32.reduceLE, Nat.reduceLeDiff, Nat.zero_le, Nat.le_refl, Nat.zero_add, if_true, if_false, zb_eq0, zb_eq1, zn_1, not_true_eq_false, not_false_eq_true, ite_true, ite_false, if_true, if_false, q_iret_0, q_iret_1, decide_true, decide_false, decide_not, zb_t, zb_f, z10, z01, cond_true, cond_false, Bool.and_true, Bool.true_and, Bool.and_false, Bool.false_and, Bool.not_true, Bool.not_false, true_and, and_true, false_and, and_false, true_or, or_true, false_or, or_false, Bool.true_eq_false, Bool.false_eq_true, eq_self, reduceCtorEq, Bool.or_true, Bool.true_or, Bool.or_false, Bool.false_or])
    · by_cases h : q = i
      · rw [h]; exact sI_e
      · rw [sI_b h]; exact z q (by omega)
theorem v_63 (H : Iv A) {B0 : zzMd} (W0 : W73 A B0) (z0 : ∀ q, q < nv A 1 → B0.1 73 q = 0) : ∀ i, i ≤ ve A 1 → ∃ B, lz_ev tL_areVersions 63 [some (.ref 0), some (.ref 73), some (.int 1), some (.int 1)] [] (B0, 2) = lz_ev tL_areVersions 63 [some (.ref 0), some (.ref 73), some (.int 1), some (.int (zn (i + 1)))] [] (B, 2) ∧ W73 A B ∧ ∀ q, q < nv A 1 → B.1 73 q = zn (lastV (obj A) i q) := by
  intro i
  induction i with
  | zero => exact fun _ => ⟨B0, rfl, W0, z0⟩
  | succ i ih =>
    intro hi
    obtain ⟨B, e, W, z⟩ := ih (by omega)
    obtain ⟨e1, e2, e3, e4⟩ := e73 W.2.1
    have W' := W
    obtain ⟨⟨hB, ⟨R, HR⟩, I⟩, -, -⟩ := W'
    have n4 := (Lg_n60 I.1.1).2.1
    have n6 := (Lg_n60 I.1.1).1
    have hlt := obj_lt H.2.2.1.1 (k := i + 1) (by omega) hi
    have o0 := kV_e (g_version hB HR)
    have o1 := kV_e (g_objectOf hB HR (k := i + 1) (by omega) (by omega))
    rw [e3] at o1
    have l : (zn (ve B 1) < zn (i + 1)) = False := zn_lt (a := ve B 1) (b := i + 1) (by omega) (by omega) ▸ eq_false (by omega)
    have b : zz_inb (zn (obj A (i + 1))) 60 = true := zn_inT (by omega) (by decide)
    have x : zz_ix (zn (obj A (i + 1))) = obj A (i + 1) := zn_ix (by omega)
    refine ⟨zz_sI B 73 (obj A (i + 1)) (zn (i + 1)), e.trans ?_, W73_sI W _ _, fun q hq => ?_⟩
    · clear e ih z
      generalize obj A (i + 1) = w at *
      generalize i + 1 = j at *
      (rw [e_L_areVersions_63]; simp (decide := true) only [e_L_areVersions, lo_iload, lo_lload, lo_aload, lo_istore, lo_lstore, lo_iinc, lo_pushI, lo_pushL, lo_ii, lo_iid, lo_ll, lo_li, lo_lcmp, lo_i2l, lo_dup2, lo_goto, lo_if, lo_icmp, lq_iret_f, lq_iret_1, lq_iret_0, lq_iret_b, lq_lret, lq_bs, lq_bv, lq_bhv, lq_bhx, q_c8_0, q_c8_1, q_c8_2, q_c8_3, q_c8_4, q_set_0, q_set_1i, q_set_1r, q_set_1n, q_set_1N, q_set_s, q_set_1j, q_set_1l, q_set2_0, q_set2_1i, q_set2_1r, q_set2_1n, q_set2_s, q_if, zb_ite, cond_true, cond_false, List.getElem?_cons_zero, List.getElem?_cons_succ, Nat.reduceAdd, l, o0, o1, lo_iast, sC73, dd73, b, x, Int32.reduceLT, Int32.reduceLE, Nat.reduceLeDiff, Nat.zero_le, Nat.le_refl, Nat.zero_add, if_true, if_false, zb_eq0, zb_eq1, zn_1, not_true_eq_false, not_false_eq_true, ite_true, ite_false, if_true, if_false, q_iret_0, q_iret_1, decide_true, decide_false, decide_not, zb_t, zb_f, z10, z01, cond_true, cond_false, Bool.and_true, Bool.true_and, Bool.and_false, Bool.false_and, Bool.not_true, Bool.not_false, true_and, and_true, false_and, and_false, true_or, or_true, false_or, or_false, Bool.true_eq_false, Bool.false_eq_true, eq_self, reduceCtorEq, Bool.or_true, Bool.true_or, Bool.or_false, Bool.false_or])
    · rw [lastV_s]
      by_cases h : q = obj A (i + 1)
      · rw [if_pos h.symm, h]; exact sI_e
      · rw [if_neg (fun w => h w.symm), sI_b h]; exact z q hq
theorem v_91 (H : Iv A) (W : W73 A B) (z : ∀ q, q < nv A 1 → B.1 73 q = zn (lastV (obj A) (ve A 1) q)) : ∀ i, i ≤ nv A 1 → lz_ev tL_areVersions 91 [some (.ref 0), some (.ref 73), some (.int 1), some (.int 0)] [] (B, 2) = lz_ev tL_areVersions 91 [some (.ref 0), some (.ref 73), some (.int 1), some (.int (zn i))] [] (B, 2) := by
  intro i
  obtain ⟨e1, e2, e3, e4⟩ := e73 W.2.1
  have W' := W
  obtain ⟨⟨hB, ⟨R, HR⟩, I⟩, -, -⟩ := W'
  have n6 := (Lg_n60 I.1.1).1
  have n4 := (Lg_n60 I.1.1).2.1
  induction i with
  | zero => exact fun _ => rfl
  | succ i ih =>
    intro hi
    have o0 := kV_e (g_objects hB HR)
    have o1 := kV_e (g_versionOf hB HR (o := i) (by omega))
    have zi := z i (by omega)
    have L := H.2.2.1.1
    have v15 : B.1 15 i = zn (lastV (obj A) (ve A 1) i) := (W.2.1 15 i (by decide)).trans (L.2.2.2.1.2 i (by omega))
    rw [v15] at o1
    have pos : lastV (obj A) (ve A 1) i ≠ 0 := (Lg_lastV L (Nat.le_refl _)).mpr (by rw [← L.2.2.2.1.1]; omega)
    have le := lastV_le (f := obj A) i (ve A 1)
    have l : (zn (nv B 1) ≤ zn i) = False := zn_le (a := nv B 1) (b := i) (by omega) (by omega) ▸ eq_false (by omega)
    have b : zz_inb (zn i) 60 = true := zn_inT (by omega) (by decide)
    have x : zz_ix (zn i) = i := zn_ix (by omega)
    generalize lastV (obj A) (ve A 1) i = v at *
    have p : (zn v ≤ 0) = False := zn_le (a := v) (b := 0) (by omega) (by decide) ▸ eq_false (by omega)
    refine (ih (by omega)).trans ?_
    clear ih z
    (rw [e_L_areVersions_91]; simp (decide := true) only [e_L_areVersions, lo_iload, lo_lload, lo_aload, lo_istore, lo_lstore, lo_iinc, lo_pushI, lo_pushL, lo_ii, lo_iid, lo_ll, lo_li, lo_lcmp, lo_i2l, lo_dup2, lo_goto, lo_if, lo_icmp, lq_iret_f, lq_iret_1, lq_iret_0, lq_iret_b, lq_lret, lq_bs, lq_bv, lq_bhv, lq_bhx, q_c8_0, q_c8_1, q_c8_2, q_c8_3, q_c8_4, q_set_0, q_set_1i, q_set_1r, q_set_1n, q_set_1N, q_set_s, q_set_1j, q_set_1l, q_set2_0, q_set2_1i, q_set2_1r, q_set2_1n, q_set2_s, q_if, zb_ite, cond_true, cond_false, List.getElem?_cons_zero, List.getElem?_cons_succ, Nat.reduceAdd, l, o0, o1, lo_iald, sC73, dd73, b, x, zi, p, Int32.reduceLT, Int32.reduceLE, Nat.reduceLeDiff, Nat.zero_le, Nat.le_refl, Nat.zero_add, if_true, if_false, zb_eq0, zb_eq1, zn_1, not_true_eq_false, not_false_eq_true, ite_true, ite_false, if_true, if_false, q_iret_0, q_iret_1, decide_true, decide_false, decide_not, zb_t, zb_f, z10, z01, cond_true, cond_false, Bool.and_true, Bool.true_and, Bool.and_false, Bool.false_and, Bool.not_true, Bool.not_false, true_and, and_true, false_and, and_false, true_or, or_true, false_or, or_false, Bool.true_eq_false, Bool.false_eq_true, eq_self, reduceCtorEq, Bool.or_true, Bool.true_or, Bool.or_false, Bool.false_or])
theorem w_areVersions (H : Iv A) : ∃ B, fL_areVersions [.ref 0, .ref 73] A = some (some (.int 1), B) ∧ W73 A B := by
  have H' := H
  obtain ⟨hA, ⟨R, HR⟩, I⟩ := H'
  have n6 := (Lg_n60 I.1.1).1
  have n4 := (Lg_n60 I.1.1).2.1
  have o0 := kV_e (g_version hA HR)
  have a1 : fL_of [.ref 0, .int 12, .int 0, .int 0, .int 0] A = some (some (.int (-1271)), A) := xo_objectOf (x_objectOf hA HR (Or.inl (by decide))) rfl
  have a2 : fL_of [.ref 0, .int 12, .int (zn (ve A 1 + 1)), .int 0, .int 0] A = some (some (.int (-1271)), A) := xo_objectOf (x_objectOf hA HR (Or.inr ((zn_lt (a := ve A 1) (b := ve A 1 + 1) (by omega) (by omega)).mpr (by omega)))) rfl
  have s1 : lz_ev tL_areVersions 0 [some (.ref 0), some (.ref 73), none, none] [] (A, 0) = lz_ev tL_areVersions 43 [some (.ref 0), some (.ref 73), some (.int 1), some (.int 0)] [] (A, 2) := by
    (simp (decide := true) only [e_L_areVersions, lo_iload, lo_lload, lo_aload, lo_istore, lo_lstore, lo_iinc, lo_pushI, lo_pushL, lo_ii, lo_iid, lo_ll, lo_li, lo_lcmp, lo_i2l, lo_dup2, lo_goto, lo_if, lo_icmp, lq_iret_f, lq_iret_1, lq_iret_0, lq_iret_b, lq_lret, lq_bs, lq_bv, lq_bhv, lq_bhx, q_c8_0, q_c8_1, q_c8_2, q_c8_3, q_c8_4, q_set_0, q_set_1i, q_set_1r, q_set_1n, q_set_1N, q_set_s, q_set_1j, q_set_1l, q_set2_0, q_set2_1i, q_set2_1r, q_set2_1n, q_set2_s, q_if, zb_ite, cond_true, cond_false, List.getElem?_cons_zero, List.getElem?_cons_succ, Nat.reduceAdd, o0, a1, a2, Int32.reduceLT, Int32.reduceLE, Nat.reduceLeDiff, Nat.zero_le, Nat.le_refl, Nat.zero_add, if_true, if_false, zb_eq0, zb_eq1, zn_1, not_true_eq_false, not_false_eq_true, ite_true, ite_false, if_true, if_false, q_iret_0, q_iret_1, decide_true, decide_false, decide_not, zb_t, zb_f, z10, z01, cond_true, cond_false, Bool.and_true, Bool.true_and, Bool.and_false, Bool.false_and, Bool.not_true, Bool.not_false, true_and, and_true, false_and, and_false, true_or, or_true, false_or, or_false, Bool.true_eq_false, Bool.false_eq_true, eq_self, reduceCtorEq, Bool.or_true, Bool.true_or, Bool.or_false, Bool.false_or])
  obtain ⟨B1, f1, W1, z1⟩ := v_43 H (nv A 1) (Nat.le_refl _)
  have W1' := W1
  obtain ⟨⟨hB1, ⟨R1, HR1⟩, -⟩, -, -⟩ := W1'
  obtain ⟨e1, -, -, -⟩ := e73 W1.2.1
  have o1 := kV_e (g_objects hB1 HR1)
  rw [e1] at o1
  have l1 : (zn (nv A 1) ≤ zn (nv A 1)) = True := zk_ge n6 (by decide)
  have s2 : lz_ev tL_areVersions 43 [some (.ref 0), some (.ref 73), some (.int 1), some (.int (zn (nv A 1)))] [] (B1, 2) = lz_ev tL_areVersions 63 [some (.ref 0), some (.ref 73), some (.int 1), some (.int 1)] [] (B1, 2) := by
    clear f1 s1
    (rw [e_L_areVersions_43]; simp (decide := true) only [e_L_areVersions, lo_iload, lo_lload, lo_aload, lo_istore, lo_lstore, lo_iinc, lo_pushI, lo_pushL, lo_ii, lo_iid, lo_ll, lo_li, lo_lcmp, lo_i2l, lo_dup2, lo_goto, lo_if, lo_icmp, lq_iret_f, lq_iret_1, lq_iret_0, lq_iret_b, lq_lret, lq_bs, lq_bv, lq_bhv, lq_bhx, q_c8_0, q_c8_1, q_c8_2, q_c8_3, q_c8_4, q_set_0, q_set_1i, q_set_1r, q_set_1n, q_set_1N, q_set_s, q_set_1j, q_set_1l, q_set2_0, q_set2_1i, q_set2_1r, q_set2_1n, q_set2_s, q_if, zb_ite, cond_true, cond_false, List.getElem?_cons_zero, List.getElem?_cons_succ, Nat.reduceAdd, l1, o1, Int32.reduceLT, Int32.reduceLE, Nat.reduceLeDiff, Nat.zero_le, Nat.le_refl, Nat.zero_add, if_true, if_false, zb_eq0, zb_eq1, zn_1, not_true_eq_false, not_false_eq_true, ite_true, ite_false, if_true, if_false, q_iret_0, q_iret_1, decide_true, decide_false, decide_not, zb_t, zb_f, z10, z01, cond_true, cond_false, Bool.and_true, Bool.true_and, Bool.and_false, Bool.false_and, Bool.not_true, Bool.not_false, true_and, and_true, false_and, and_false, true_or, or_true, false_or, or_false, Bool.true_eq_false, Bool.false_eq_true, eq_self, reduceCtorEq, Bool.or_true, Bool.true_or, Bool.or_false, Bool.false_or])
  obtain ⟨B2, f2, W2, z2⟩ := v_63 H W1 z1 (ve A 1) (Nat.le_refl _)
  have W2' := W2
  obtain ⟨⟨hB2, ⟨R2, HR2⟩, -⟩, -, -⟩ := W2'
  obtain ⟨e2, e2', -, -⟩ := e73 W2.2.1
  have o2 := kV_e (g_objects hB2 HR2)
  have o3 := kV_e (g_version hB2 HR2)
  rw [e2] at o2
  rw [e2'] at o3
  have l2 : (zn (ve A 1) < zn (ve A 1 + 1)) = True := eq_true ((zn_lt (a := ve A 1) (b := ve A 1 + 1) (by omega) (by omega)).mpr (by omega))
  have s3 : lz_ev tL_areVersions 63 [some (.ref 0), some (.ref 73), some (.int 1), some (.int (zn (ve A 1 + 1)))] [] (B2, 2) = lz_ev tL_areVersions 91 [some (.ref 0), some (.ref 73), some (.int 1), some (.int 0)] [] (B2, 2) := by
    clear f1 f2 s1 s2 z2
    (rw [e_L_areVersions_63]; simp (decide := true) only [e_L_areVersions, lo_iload, lo_lload, lo_aload, lo_istore, lo_lstore, lo_iinc, lo_pushI, lo_pushL, lo_ii, lo_iid, lo_ll, lo_li, lo_lcmp, lo_i2l, lo_dup2, lo_goto, lo_if, lo_icmp, lq_iret_f, lq_iret_1, lq_iret_0, lq_iret_b, lq_lret, lq_bs, lq_bv, lq_bhv, lq_bhx, q_c8_0, q_c8_1, q_c8_2, q_c8_3, q_c8_4, q_set_0, q_set_1i, q_set_1r, q_set_1n, q_set_1N, q_set_s, q_set_1j, q_set_1l, q_set2_0, q_set2_1i, q_set2_1r, q_set2_1n, q_set2_s, q_if, zb_ite, cond_true, cond_false, List.getElem?_cons_zero, List.getElem?_cons_succ, Nat.reduceAdd, l2, o3, Int32.reduceLT, Int32.reduceLE, Nat.reduceLeDiff, Nat.zero_le, Nat.le_refl, Nat.zero_add, if_true, if_false, zb_eq0, zb_eq1, zn_1, not_true_eq_false, not_false_eq_true, ite_true, ite_false, if_true, if_false, q_iret_0, q_iret_1, decide_true, decide_false, decide_not, zb_t, zb_f, z10, z01, cond_true, cond_false, Bool.and_true, Bool.true_and, Bool.and_false, Bool.false_and, Bool.not_true, Bool.not_false, true_and, and_true, false_and, and_false, true_or, or_true, false_or, or_false, Bool.true_eq_false, Bool.false_eq_true, eq_self, reduceCtorEq, Bool.or_true, Bool.true_or, Bool.or_false, Bool.false_or])
  have f3 := v_91 H W2 z2 (nv A 1) (Nat.le_refl _)
  have s4 : lz_ev tL_areVersions 91 [some (.ref 0), some (.ref 73), some (.int 1), some (.int (zn (nv A 1)))] [] (B2, 2) = some (some (.int 1), (B2, 2)) := by
    clear f1 f2 f3 s1 s2 s3 z2
    (rw [e_L_areVersions_91]; simp (decide := true) only [e_L_areVersions, lo_iload, lo_lload, lo_aload, lo_istore, lo_lstore, lo_iinc, lo_pushI, lo_pushL, lo_ii, lo_iid, lo_ll, lo_li, lo_lcmp, lo_i2l, lo_dup2, lo_goto, lo_if, lo_icmp, lq_iret_f, lq_iret_1, lq_iret_0, lq_iret_b, lq_lret, lq_bs, lq_bv, lq_bhv, lq_bhx, q_c8_0, q_c8_1, q_c8_2, q_c8_3, q_c8_4, q_set_0, q_set_1i, q_set_1r, q_set_1n, q_set_1N, q_set_s, q_set_1j, q_set_1l, q_set2_0, q_set2_1i, q_set2_1r, q_set2_1n, q_set2_s, q_if, zb_ite, cond_true, cond_false, List.getElem?_cons_zero, List.getElem?_cons_succ, Nat.reduceAdd, l1, o2, Int32.reduceLT, Int32.reduceLE, Nat.reduceLeDiff, Nat.zero_le, Nat.le_refl, Nat.zero_add, if_true, if_false, zb_eq0, zb_eq1, zn_1, not_true_eq_false, not_false_eq_true, ite_true, ite_false, if_true, if_false, q_iret_0, q_iret_1, decide_true, decide_false, decide_not, zb_t, zb_f, z10, z01, cond_true, cond_false, Bool.and_true, Bool.true_and, Bool.and_false, Bool.false_and, Bool.not_true, Bool.not_false, true_and, and_true, false_and, and_false, true_or, or_true, false_or, or_false, Bool.true_eq_false, Bool.false_eq_true, eq_self, reduceCtorEq, Bool.or_true, Bool.true_or, Bool.or_false, Bool.false_or])
  exact ⟨B2, s_L_areVersions _ _ (s1.trans (f1.trans (s2.trans (f2.trans (s3.trans (f3.trans s4)))))), W2⟩
end
end

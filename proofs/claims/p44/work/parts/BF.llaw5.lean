section
/-! the law's loop: making -/
section
variable {A B R : zzMd}
set_option maxRecDepth 100000 in
set_option maxHeartbeats 2000000 in
theorem mk_196 (sc : List Int32) {V : Nat} (hV : V < 2147483648) (hn : nv A 1 ≤ 60) (m : Nat) (least ni x how ob kd0 ver : Int32) (j14 j15 j16 j17 j18 j19 j20 : Option Value) : ∃ k, k < 6 ∧ lz_ev (tL_law sc) 161 [some (.ref 1004), some (.ref 0), some (.ref 73), some (.ref 74), some (.int least), some (.int 1), some (.int ni), some (.int x), some (.int (zn V)), some (.int how), some (.int (zn (nv A 1))), some (.int ob), some (.int kd0), some (.int ver), j14, j15, j16, j17, j18, j19, j20] [] (A, m) = lz_ev (tL_law sc) 196 [some (.ref 1004), some (.ref 0), some (.ref 73), some (.ref 74), some (.int least), some (.int 1), some (.int ni), some (.int x), some (.int (zn V)), some (.int how), some (.int (zn (nv A 1))), some (.int ob), some (.int kd0), some (.int ver), j14, j15, j16, j17, j18, j19, j20] [.int (zn k)] (A, m) := by
  have m6 : zn V - zn V / 6 * 6 = zn (V % 6) := zn_md (X := V) (d := 6) hV (by decide)
  have m2 : zn (nv A 1) - zn (nv A 1) / 2 * 2 = zn (nv A 1 % 2) := zn_md (X := nv A 1) (d := 2) (by omega) (by decide)
  have h6 : V % 6 < 6 := Nat.mod_lt _ (by decide)
  have h2 : nv A 1 % 2 < 2 := Nat.mod_lt _ (by decide)
  have l3 : ((3 : Int32) ≤ zn (nv A 1)) = (3 ≤ nv A 1) := zn_le (a := 3) (b := nv A 1) (by decide) (by omega)
  generalize V % 6 = u at *
  generalize nv A 1 % 2 = b at *
  generalize hF : (fun y : Int32 => lz_ev (tL_law sc) 196 [some (.ref 1004), some (.ref 0), some (.ref 73), some (.ref 74), some (.int least), some (.int 1), some (.int ni), some (.int x), some (.int (zn V)), some (.int how), some (.int (zn (nv A 1))), some (.int ob), some (.int kd0), some (.int ver), j14, j15, j16, j17, j18, j19, j20] [.int y] (A, m)) = F
  have hF' : ∀ y : Int32, lz_ev (tL_law sc) 196 [some (.ref 1004), some (.ref 0), some (.ref 73), some (.ref 74), some (.int least), some (.int 1), some (.int ni), some (.int x), some (.int (zn V)), some (.int how), some (.int (zn (nv A 1))), some (.int ob), some (.int kd0), some (.int ver), j14, j15, j16, j17, j18, j19, j20] [.int y] (A, m) = F y := fun y => congrFun hF y
  clear hF
  by_cases h : 3 ≤ nv A 1
  · have l3 := l3.trans (eq_true h)
    by_cases u1 : u = 1
    · have t1 : (zn u = 1) = True := by rw [u1]; exact eq_true rfl
      refine ⟨0, by decide, ?_⟩
      rw [hF']
      have : F 0 = F (zn 0) := rfl
      rw [← this]
      (simp (decide := true) only [e_L_law_p0 sc, e_L_law_p1 sc, e_L_law_p2 sc, e_L_law_p3 sc, e_L_law_p4 sc, e_L_law_p5 sc, e_L_law_p6 sc, lo_iload, lo_lload, lo_aload, lo_istore, lo_lstore, lo_iinc, lo_pushI, lo_pushL, lo_ii, lo_iid, lo_ll, lo_li, lo_lcmp, lo_i2l, lo_dup2, lo_goto, lo_if, lo_icmp, lq_iret_f, lq_iret_1, lq_iret_0, lq_iret_b, lq_lret, lq_bs, lq_bv, lq_bhv, lq_bhx, q_c8_0, q_c8_1, q_c8_2, q_c8_3, q_c8_4, q_set_0, q_set_1i, q_set_1r, q_set_1n, q_set_1N, q_set_s, q_set_1j, q_set_1l, q_set2_0, q_set2_1i, q_set2_1r, q_set2_1n, q_set2_s, q_if, zb_ite, cond_true, cond_false, List.getElem?_cons_zero, List.getElem?_cons_succ, Nat.reduceAdd, ↓hF', l3, m6, t1, Int32.reduceLT, Int32.reduceLE, Nat.reduceLeDiff, Nat.zero_le, Nat.le_refl, Nat.zero_add, if_true, if_false, zb_eq0, zb_eq1, zn_1, not_true_eq_false, not_false_eq_true, ite_true, ite_false, if_true, if_false, q_iret_0, q_iret_1, decide_true, decide_false, decide_not, zb_t, zb_f, z10, z01, cond_true, cond_false, Bool.and_true, Bool.true_and, Bool.and_false, Bool.false_and, Bool.not_true, Bool.not_false, true_and, and_true, false_and, and_false, true_or, or_true, false_or, or_false, Bool.true_eq_false, Bool.false_eq_true, eq_self, reduceCtorEq, Bool.or_true, Bool.true_or, Bool.or_false, Bool.false_or])
    · have t1 : (zn u = 1) = False := (zn_inj (a := u) (b := 1) (by omega) (by decide)).trans (eq_false u1)
      refine ⟨u, h6, ?_⟩
      rw [hF']
      (simp (decide := true) only [e_L_law_p0 sc, e_L_law_p1 sc, e_L_law_p2 sc, e_L_law_p3 sc, e_L_law_p4 sc, e_L_law_p5 sc, e_L_law_p6 sc, lo_iload, lo_lload, lo_aload, lo_istore, lo_lstore, lo_iinc, lo_pushI, lo_pushL, lo_ii, lo_iid, lo_ll, lo_li, lo_lcmp, lo_i2l, lo_dup2, lo_goto, lo_if, lo_icmp, lq_iret_f, lq_iret_1, lq_iret_0, lq_iret_b, lq_lret, lq_bs, lq_bv, lq_bhv, lq_bhx, q_c8_0, q_c8_1, q_c8_2, q_c8_3, q_c8_4, q_set_0, q_set_1i, q_set_1r, q_set_1n, q_set_1N, q_set_s, q_set_1j, q_set_1l, q_set2_0, q_set2_1i, q_set2_1r, q_set2_1n, q_set2_s, q_if, zb_ite, cond_true, cond_false, List.getElem?_cons_zero, List.getElem?_cons_succ, Nat.reduceAdd, ↓hF', l3, m6, t1, Int32.reduceLT, Int32.reduceLE, Nat.reduceLeDiff, Nat.zero_le, Nat.le_refl, Nat.zero_add, if_true, if_false, zb_eq0, zb_eq1, zn_1, not_true_eq_false, not_false_eq_true, ite_true, ite_false, if_true, if_false, q_iret_0, q_iret_1, decide_true, decide_false, decide_not, zb_t, zb_f, z10, z01, cond_true, cond_false, Bool.and_true, Bool.true_and, Bool.and_false, Bool.false_and, Bool.not_true, Bool.not_false, true_and, and_true, false_and, and_false, true_or, or_true, false_or, or_false, Bool.true_eq_false, Bool.false_eq_true, eq_self, reduceCtorEq, Bool.or_true, Bool.true_or, Bool.or_false, Bool.false_or])
  · have l3 := l3.trans (eq_false h)
    have hb : b = 0 ∨ b = 1 := by omega
    rcases hb with rfl | rfl
    · refine ⟨4, by decide, ?_⟩
      rw [hF']
      have e : 4 * (1 - zn 0) = zn 4 := rfl
      (simp (decide := true) only [e_L_law_p0 sc, e_L_law_p1 sc, e_L_law_p2 sc, e_L_law_p3 sc, e_L_law_p4 sc, e_L_law_p5 sc, e_L_law_p6 sc, lo_iload, lo_lload, lo_aload, lo_istore, lo_lstore, lo_iinc, lo_pushI, lo_pushL, lo_ii, lo_iid, lo_ll, lo_li, lo_lcmp, lo_i2l, lo_dup2, lo_goto, lo_if, lo_icmp, lq_iret_f, lq_iret_1, lq_iret_0, lq_iret_b, lq_lret, lq_bs, lq_bv, lq_bhv, lq_bhx, q_c8_0, q_c8_1, q_c8_2, q_c8_3, q_c8_4, q_set_0, q_set_1i, q_set_1r, q_set_1n, q_set_1N, q_set_s, q_set_1j, q_set_1l, q_set2_0, q_set2_1i, q_set2_1r, q_set2_1n, q_set2_s, q_if, zb_ite, cond_true, cond_false, List.getElem?_cons_zero, List.getElem?_cons_succ, Nat.reduceAdd, ↓hF', l3, m2, e, Int32.reduceLT, Int32.reduceLE, Nat.reduceLeDiff, Nat.zero_le, Nat.le_refl, Nat.zero_add, if_true, if_false, zb_eq0, zb_eq1, zn_1, not_true_eq_false, not_false_eq_true, ite_true, ite_false, if_true, if_false, q_iret_0, q_iret_1, decide_true, decide_false, decide_not, zb_t, zb_f, z10, z01, cond_true, cond_false, Bool.and_true, Bool.true_and, Bool.and_false, Bool.false_and, Bool.not_true, Bool.not_false, true_and, and_true, false_and, and_false, true_or, or_true, false_or, or_false, Bool.true_eq_false, Bool.false_eq_true, eq_self, reduceCtorEq, Bool.or_true, Bool.true_or, Bool.or_false, Bool.false_or])
    · refine ⟨0, by decide, ?_⟩
      rw [hF']
      have e : 4 * (1 - zn 1) = zn 0 := rfl
      (simp (decide := true) only [e_L_law_p0 sc, e_L_law_p1 sc, e_L_law_p2 sc, e_L_law_p3 sc, e_L_law_p4 sc, e_L_law_p5 sc, e_L_law_p6 sc, lo_iload, lo_lload, lo_aload, lo_istore, lo_lstore, lo_iinc, lo_pushI, lo_pushL, lo_ii, lo_iid, lo_ll, lo_li, lo_lcmp, lo_i2l, lo_dup2, lo_goto, lo_if, lo_icmp, lq_iret_f, lq_iret_1, lq_iret_0, lq_iret_b, lq_lret, lq_bs, lq_bv, lq_bhv, lq_bhx, q_c8_0, q_c8_1, q_c8_2, q_c8_3, q_c8_4, q_set_0, q_set_1i, q_set_1r, q_set_1n, q_set_1N, q_set_s, q_set_1j, q_set_1l, q_set2_0, q_set2_1i, q_set2_1r, q_set2_1n, q_set2_s, q_if, zb_ite, cond_true, cond_false, List.getElem?_cons_zero, List.getElem?_cons_succ, Nat.reduceAdd, ↓hF', l3, m2, e, Int32.reduceLT, Int32.reduceLE, Nat.reduceLeDiff, Nat.zero_le, Nat.le_refl, Nat.zero_add, if_true, if_false, zb_eq0, zb_eq1, zn_1, not_true_eq_false, not_false_eq_true, ite_true, ite_false, if_true, if_false, q_iret_0, q_iret_1, decide_true, decide_false, decide_not, zb_t, zb_f, z10, z01, cond_true, cond_false, Bool.and_true, Bool.true_and, Bool.and_false, Bool.false_and, Bool.not_true, Bool.not_false, true_and, and_true, false_and, and_false, true_or, or_true, false_or, or_false, Bool.true_eq_false, Bool.false_eq_true, eq_self, reduceCtorEq, Bool.or_true, Bool.true_or, Bool.or_false, Bool.false_or])
set_option maxRecDepth 100000 in
set_option maxHeartbeats 2000000 in
theorem b_make (sc : List Int32) {least : Int32} {t m V : Nat} (H : LI A least t) (hV : V < 2147483648) (hn16 : nv A 1 < 16) (hv : ve A 1 < 300) (hm : m + 2641 ≤ 727906) (ni x how ob kd0 : Int32) (j14 j15 j16 j17 j18 j19 j20 : Option Value) : Bd sc ni x (zn V) how (zn (nv A 1)) ob kd0 (zn (ve A 1)) m t (lz_ev (tL_law sc) 161 (lw least 1 ni x (zn V) how (zn (nv A 1)) ob kd0 (zn (ve A 1)) j14 j15 j16 j17 j18 j19 j20) [] (A, m)) := by
  have H0 := H
  obtain ⟨HI, ht, h8, h74⟩ := H0
  have HI' := HI
  obtain ⟨hA, ⟨R, HR⟩, I⟩ := HI'
  have f0 : (m ≤ 727906) = True := eq_true (by omega)
  have f1 : (m + 1 ≤ 727906) = True := eq_true (by omega)
  obtain ⟨k, k6, s1⟩ := mk_196 (A := A) sc hV (by omega) m least ni x how ob kd0 (zn (ve A 1)) j14 j15 j16 j17 j18 j19 j20
  have d6 : zn V / 6 = zn (V / 6) := zn_dv (X := V) (d := 6) hV (by decide)
  have hy : V / 6 < 2147483648 := Nat.lt_of_le_of_lt (Nat.div_le_self _ _) hV
  have m4 : zn (V / 6) - zn (V / 6) / 4 * 4 = zn (V / 6 % 4) := zn_md (X := V / 6) (d := 4) hy (by decide)
  have hu : V / 6 % 4 < 4 := Nat.mod_lt _ (by decide)
  generalize V / 6 % 4 = u at *
  generalize V / 6 = y at *
  have g := g_make hA HR hu k6
  have IB := II_op I (m := u) (k := k) 0 (by omega)
  have O := Open_0 I.1 (m := u) (k := k) (w := -1) 0 (by omega) (Or.inl rfl)
  rcases O with ⟨e, h⟩ | ⟨e, h6, h4⟩
  · have hk : zn k = 2 := by
      rcases h with h | h | h
      · omega
      · exact h
      · omega
    rw [e] at g
    have a1 : fL_act [.ref 0, .int 0, .int (zn u), .int (zn k), .int 0, .int 0, .int 0, .int 0] A = some (some (.int (-1273)), A) := xa_make (g.trans (if_pos rfl)) rfl
    refine ⟨A, m + 1, least, t, some (.int (zn k)), some (.int (-1273)), j16, j17, j18, j19, j20, ?_, H, by omega, by omega⟩
    unfold lw
    refine s1.trans ?_
    generalize hZ : lz_ev (tL_law sc) 1715 [some (.ref 1004), some (.ref 0), some (.ref 73), some (.ref 74), some (.int least), some (.int 1), some (.int ni), some (.int x), some (.int (zn V)), some (.int how), some (.int (zn (nv A 1))), some (.int ob), some (.int kd0), some (.int (zn (ve A 1))), some (.int (zn k)), some (.int (-1273)), j16, j17, j18, j19, j20] [] (A, m + 1) = Z
    clear s1 g e IB H HI HR I
    have hk2 : (zn k = 2) = True := eq_true hk
    clear hk
    (simp (decide := true) only [e_L_law_p0 sc, e_L_law_p1 sc, e_L_law_p2 sc, e_L_law_p3 sc, e_L_law_p4 sc, e_L_law_p5 sc, e_L_law_p6 sc, lo_iload, lo_lload, lo_aload, lo_istore, lo_lstore, lo_iinc, lo_pushI, lo_pushL, lo_ii, lo_iid, lo_ll, lo_li, lo_lcmp, lo_i2l, lo_dup2, lo_goto, lo_if, lo_icmp, lq_iret_f, lq_iret_1, lq_iret_0, lq_iret_b, lq_lret, lq_bs, lq_bv, lq_bhv, lq_bhx, q_c8_0, q_c8_1, q_c8_2, q_c8_3, q_c8_4, q_set_0, q_set_1i, q_set_1r, q_set_1n, q_set_1N, q_set_s, q_set_1j, q_set_1l, q_set2_0, q_set2_1i, q_set2_1r, q_set2_1n, q_set2_s, q_if, zb_ite, cond_true, cond_false, List.getElem?_cons_zero, List.getElem?_cons_succ, Nat.reduceAdd, ↓hZ, a1, d6, m4, hk2, f0, f1, Int32.reduceLT, Int32.reduceLE, Nat.reduceLeDiff, Nat.zero_le, Nat.le_refl, Nat.zero_add, if_true, if_false, zb_eq0, zb_eq1, zn_1, not_true_eq_false, not_false_eq_true, ite_true, ite_false, if_true, if_false, q_iret_0, q_iret_1, decide_true, decide_false, decide_not, zb_t, zb_f, z10, z01, cond_true, cond_false, Bool.and_true, Bool.true_and, Bool.and_false, Bool.false_and, Bool.not_true, Bool.not_false, true_and, and_true, false_and, and_false, true_or, or_true, false_or, or_false, Bool.true_eq_false, Bool.false_eq_true, eq_self, reduceCtorEq, Bool.or_true, Bool.true_or, Bool.or_false, Bool.false_or])
  · have nm : ¬ zn (nv A 1) = -1 := (zn_m1 (k := nv A 1) (by omega)).mp
    have hB : (aOpen A (zn u) (zn k) (-1) 0).2 = zz_sI (put A (nv A 1) (dNew (zn u) (zn k) (-1) 0 (nv A 1))) 16 (nv A 1) (A.1 1 7) := by rw [e]
    have h1 : (aOpen A (zn u) (zn k) (-1) 0).1 = zn (nv A 1) := by rw [e]
    rw [h1, if_neg nm] at g
    have HB : Iv (aOpen A (zn u) (zn k) (-1) 0).2 := Iv_g HI g (c_make (Rel_at hA HR) (zn u) (zn k)) IB
    have L := I.1.1
    rw [hB] at g HB
    have rB : ∀ s, s < 32 → row (zz_sI (put A (nv A 1) (dNew (zn u) (zn k) (-1) 0 (nv A 1))) 16 (nv A 1) (A.1 1 7)) (nv A 1) s = dNew (zn u) (zn k) (-1) 0 (nv A 1) s := fun s hs => (put_row L h4 h6 h6 hs).trans (if_pos rfl)
    have nB : nv (zz_sI (put A (nv A 1) (dNew (zn u) (zn k) (-1) 0 (nv A 1))) 16 (nv A 1) (A.1 1 7)) 1 = nv A 1 + 1 := (put_nv h6 (by omega)).trans (Nat.max_eq_right (Nat.le_succ _))
    have vB : ve (zz_sI (put A (nv A 1) (dNew (zn u) (zn k) (-1) 0 (nv A 1))) 16 (nv A 1) (A.1 1 7)) 1 = ve A 1 + 1 := put_ve (o := nv A 1) (D := dNew (zn u) (zn k) (-1) 0 (nv A 1)) h4
    have F : Fr A (zz_sI (put A (nv A 1) (dNew (zn u) (zn k) (-1) 0 (nv A 1))) 16 (nv A 1) (A.1 1 7)) := Fr_of fun a b h => (sI_a (by omega)).trans (put_o (by omega) (by omega) (by omega))
    have r23 := rB 23 (by decide)
    have r24 := rB 24 (by decide)
    have r25 := rB 25 (by decide)
    have r23 : row _ (nv A 1) 23 = zn k := r23
    have r24 : row _ (nv A 1) 24 = -1 := r24
    have r25 : row _ (nv A 1) 25 = 0 := r25
    clear rB
    generalize zz_sI (put A (nv A 1) (dNew (zn u) (zn k) (-1) 0 (nv A 1))) 16 (nv A 1) (A.1 1 7) = B at *
    have a1 : fL_act [.ref 0, .int 0, .int (zn u), .int (zn k), .int 0, .int 0, .int 0, .int 0] A = some (some (.int (zn (nv A 1))), B) := va_make g
    have HB' := HB
    obtain ⟨hB', ⟨R', HR'⟩, I'⟩ := HB'
    have o1 := kV_e (g_kindOf hB' HR' (o := nv A 1) (by omega))
    have o2 := kV_e (g_goingOf hB' HR' (o := nv A 1) (by omega))
    have o3 := kV_e (g_ownerOf hB' HR' (o := nv A 1) (by omega))
    have o4 := kV_e (g_version hB' HR')
    rw [r23] at o1
    rw [r25] at o2
    rw [r24] at o3
    rw [vB] at o4
    have t1 : (zn (nv A 1) = -1273) = False := eq_false fun z => by
      have h0 := zn_lt0 (o := nv A 1) (by omega)
      rw [z] at h0
      exact h0.mp (by decide)
    refine ⟨B, m + 1, least, t, some (.int (zn k)), some (.int (zn (nv A 1))), j16, j17, j18, j19, j20, ?_, LI_Fr H HB F, by omega, by omega⟩
    unfold lw
    refine s1.trans ?_
    generalize hZ : lz_ev (tL_law sc) 1715 [some (.ref 1004), some (.ref 0), some (.ref 73), some (.ref 74), some (.int least), some (.int 1), some (.int ni), some (.int x), some (.int (zn V)), some (.int how), some (.int (zn (nv A 1))), some (.int ob), some (.int kd0), some (.int (zn (ve A 1))), some (.int (zn k)), some (.int (zn (nv A 1))), j16, j17, j18, j19, j20] [] (B, m + 1) = Z
    clear s1 g e IB H HI HR HR' I I' HB F r23 r24 r25 hB h1 L
    (simp (decide := true) only [e_L_law_p0 sc, e_L_law_p1 sc, e_L_law_p2 sc, e_L_law_p3 sc, e_L_law_p4 sc, e_L_law_p5 sc, e_L_law_p6 sc, lo_iload, lo_lload, lo_aload, lo_istore, lo_lstore, lo_iinc, lo_pushI, lo_pushL, lo_ii, lo_iid, lo_ll, lo_li, lo_lcmp, lo_i2l, lo_dup2, lo_goto, lo_if, lo_icmp, lq_iret_f, lq_iret_1, lq_iret_0, lq_iret_b, lq_lret, lq_bs, lq_bv, lq_bhv, lq_bhx, q_c8_0, q_c8_1, q_c8_2, q_c8_3, q_c8_4, q_set_0, q_set_1i, q_set_1r, q_set_1n, q_set_1N, q_set_s, q_set_1j, q_set_1l, q_set2_0, q_set2_1i, q_set2_1r, q_set2_1n, q_set2_s, q_if, zb_ite, cond_true, cond_false, List.getElem?_cons_zero, List.getElem?_cons_succ, Nat.reduceAdd, ↓hZ, a1, o1, o2, o3, o4, t1, d6, m4, f0, f1, Int32.reduceLT, Int32.reduceLE, Nat.reduceLeDiff, Nat.zero_le, Nat.le_refl, Nat.zero_add, if_true, if_false, zb_eq0, zb_eq1, zn_1, not_true_eq_false, not_false_eq_true, ite_true, ite_false, if_true, if_false, q_iret_0, q_iret_1, decide_true, decide_false, decide_not, zb_t, zb_f, z10, z01, cond_true, cond_false, Bool.and_true, Bool.true_and, Bool.and_false, Bool.false_and, Bool.not_true, Bool.not_false, true_and, and_true, false_and, and_false, true_or, or_true, false_or, or_false, Bool.true_eq_false, Bool.false_eq_true, eq_self, reduceCtorEq, Bool.or_true, Bool.true_or, Bool.or_false, Bool.false_or])
end
end

section
/-! the law's loop, branch by branch -/
section
variable {A B R : zzMd}
/-- the law's locals -/
def lw (least is ni x v how many ob kind ver : Int32) (j14 j15 j16 j17 j18 j19 j20 : Option Value) : zzLc := [some (.ref 1004), some (.ref 0), some (.ref 73), some (.ref 74), some (.int least), some (.int is), some (.int ni), some (.int x), some (.int v), some (.int how), some (.int many), some (.int ob), some (.int kind), some (.int ver), j14, j15, j16, j17, j18, j19, j20]
/-- what holds at the loop's head -/
def LI (A : zzMd) (least : Int32) (t : Nat) : Prop := Iv A ∧ A.1 1 7 = zn t ∧ A.1 1 8 = least ∧ ∀ r, r < 4 → A.1 74 r = A.1 12 r
/-- what a branch comes to -/
def Bd (sc : List Int32) (ni x v how many ob kind ver : Int32) (m t : Nat) (r : Option lzRt) : Prop := ∃ B m' least' t' j14 j15 j16 j17 j18 j19 j20, r = lz_ev (tL_law sc) 1715 (lw least' 1 ni x v how many ob kind ver j14 j15 j16 j17 j18 j19 j20) [] (B, m') ∧ LI B least' t' ∧ t' ≤ t + 12 ∧ m' ≤ m + 2641
theorem LI_Fr {least : Int32} {t : Nat} (H : LI A least t) (HB : Iv B) (F : Fr A B) : LI B least t := ⟨HB, F.1.trans H.2.1, F.2.1.trans H.2.2.1, fun r hr => by rw [F.2.2.2.2 r, F.2.2.1 r]; exact H.2.2.2 r hr⟩
theorem LI_Ft {least : Int32} {t d : Nat} (H : LI A least t) (HB : Iv B) (F : Ft d A B) : ∃ t', t' ≤ t + d ∧ LI B least t' := by
  obtain ⟨s, s1, s2⟩ := F.1 t H.2.1
  exact ⟨t + s, by omega, HB, s2, F.2.1.trans H.2.2.1, fun r hr => by rw [F.2.2.2.2.1 r, F.2.2.1 r]; exact H.2.2.2 r hr⟩
set_option maxRecDepth 100000 in
theorem e_1713 (sc : List Int32) : ∀ L st M, lz_ev (tL_law sc) 1713 L st M = lo_istore 5 1715 (lz_ev (tL_law sc)) L st M := lz_1 rfl (tl_L_law sc)
set_option maxRecDepth 100000 in
set_option maxHeartbeats 2000000 in
theorem b_rest (sc : List Int32) {least : Int32} {t m V ob : Nat} (H : LI A least t) (hV : V < 2147483648) (ho : ob < nv A 1) (hv : ve A 1 < 300) (hm : m + 2641 ≤ 727906) (ni x how : Int32) (j14 j15 j16 j17 j18 j19 j20 : Option Value) (h12 : t + 12 ≤ 10000) : Bd sc ni x (zn V) how (zn (nv A 1)) (zn ob) (row A ob 23) (zn (ve A 1)) m t (lz_ev (tL_law sc) 1047 (lw least 1 ni x (zn V) how (zn (nv A 1)) (zn ob) (row A ob 23) (zn (ve A 1)) j14 j15 j16 j17 j18 j19 j20) [] (A, m)) := by
  have H0 := H
  obtain ⟨HI, ht, h8, h74⟩ := H0
  have HI' := HI
  obtain ⟨hA, ⟨R, HR⟩, I⟩ := HI'
  have n60 := rl_n60 HR.1
  have f0 : (m ≤ 727906) = True := eq_true (by omega)
  have f1 : (m + 1 ≤ 727906) = True := eq_true (by omega)
  have f2 : (m + 1 + 1 ≤ 727906) = True := eq_true (by omega)
  obtain ⟨B, e, HB, F⟩ := w_isAtRest HI (by omega) ht h12
  obtain ⟨t', t1, HL⟩ := LI_Ft H HB F
  have f84 : (m + 84 ≤ 727906) = True := eq_true (by omega)
  refine ⟨B, m + 84, least, t', j14, j15, j16, j17, j18, j19, j20, ?_, HL, t1, by omega⟩
  unfold lw
  generalize hZ : lz_ev (tL_law sc) 1715 [some (.ref 1004), some (.ref 0), some (.ref 73), some (.ref 74), some (.int least), some (.int 1), some (.int ni), some (.int x), some (.int (zn V)), some (.int how), some (.int (zn (nv A 1))), some (.int (zn ob)), some (.int (row A ob 23)), some (.int (zn (ve A 1))), j14, j15, j16, j17, j18, j19, j20] [] (B, m + 84) = Z
  (simp (decide := true) only [e_L_law_p0 sc, e_L_law_p1 sc, e_L_law_p2 sc, e_L_law_p3 sc, e_L_law_p4 sc, e_L_law_p5 sc, e_L_law_p6 sc, lo_iload, lo_lload, lo_aload, lo_istore, lo_lstore, lo_iinc, lo_pushI, lo_pushL, lo_ii, lo_iid, lo_ll, lo_li, lo_lcmp, lo_i2l, lo_dup2, lo_goto, lo_if, lo_icmp, lq_iret_f, lq_iret_1, lq_iret_0, lq_iret_b, lq_lret, lq_bs, lq_bv, lq_bhv, lq_bhx, q_c8_0, q_c8_1, q_c8_2, q_c8_3, q_c8_4, q_set_0, q_set_1i, q_set_1r, q_set_1n, q_set_1N, q_set_s, q_set_1j, q_set_1l, q_set2_0, q_set2_1i, q_set2_1r, q_set2_1n, q_set2_s, q_if, zb_ite, cond_true, cond_false, List.getElem?_cons_zero, List.getElem?_cons_succ, Nat.reduceAdd, ↓hZ, e, f84, f0, Int32.reduceLT, Int32.reduceLE, Nat.reduceLeDiff, Nat.zero_le, Nat.le_refl, Nat.zero_add, if_true, if_false, zb_eq0, zb_eq1, zn_1, not_true_eq_false, not_false_eq_true, ite_true, ite_false, if_true, if_false, q_iret_0, q_iret_1, decide_true, decide_false, decide_not, zb_t, zb_f, z10, z01, cond_true, cond_false, Bool.and_true, Bool.true_and, Bool.and_false, Bool.false_and, Bool.not_true, Bool.not_false, true_and, and_true, false_and, and_false, true_or, or_true, false_or, or_false, Bool.true_eq_false, Bool.false_eq_true, eq_self, reduceCtorEq, Bool.or_true, Bool.true_or, Bool.or_false, Bool.false_or])
set_option maxRecDepth 100000 in
set_option maxHeartbeats 2000000 in
theorem b_work (sc : List Int32) {least : Int32} {t m V ob : Nat} (H : LI A least t) (hV : V < 2147483648) (ho : ob < nv A 1) (hv : ve A 1 < 300) (hm : m + 2641 ≤ 727906) (ni x how : Int32) (j14 j15 j16 j17 j18 j19 j20 : Option Value) : Bd sc ni x (zn V) how (zn (nv A 1)) (zn ob) (row A ob 23) (zn (ve A 1)) m t (lz_ev (tL_law sc) 1704 (lw least 1 ni x (zn V) how (zn (nv A 1)) (zn ob) (row A ob 23) (zn (ve A 1)) j14 j15 j16 j17 j18 j19 j20) [] (A, m)) := by
  have H0 := H
  obtain ⟨HI, ht, h8, h74⟩ := H0
  have HI' := HI
  obtain ⟨hA, ⟨R, HR⟩, I⟩ := HI'
  have n60 := rl_n60 HR.1
  have f0 : (m ≤ 727906) = True := eq_true (by omega)
  have f1 : (m + 1 ≤ 727906) = True := eq_true (by omega)
  have f2 : (m + 1 + 1 ≤ 727906) = True := eq_true (by omega)
  have e := w_isWorked HI (c := V % 8) (Nat.mod_lt _ (by decide))
  have HB := Iv_work HI (c := V % 8) (Nat.mod_lt _ (by decide))
  have F := Fr_work A (c := V % 8) (Nat.mod_lt _ (by decide))
  have m8 : zn V - zn V / 8 * 8 = zn (V % 8) := zn_md (X := V) (d := 8) hV (by decide)
  generalize V % 8 = c at *
  generalize (aWork A c).2 = B at *
  have f3 : (m + 2641 ≤ 727906) = True := eq_true hm
  refine ⟨B, m + 2641, least, t, j14, j15, j16, j17, j18, j19, j20, ?_, LI_Fr H HB F, by omega, Nat.le_refl _⟩
  unfold lw
  have s1 : lz_ev (tL_law sc) 1704 [some (.ref 1004), some (.ref 0), some (.ref 73), some (.ref 74), some (.int least), some (.int 1), some (.int ni), some (.int x), some (.int (zn V)), some (.int how), some (.int (zn (nv A 1))), some (.int (zn ob)), some (.int (row A ob 23)), some (.int (zn (ve A 1))), j14, j15, j16, j17, j18, j19, j20] [] (A, m) = lz_ev (tL_law sc) 1713 [some (.ref 1004), some (.ref 0), some (.ref 73), some (.ref 74), some (.int least), some (.int 1), some (.int ni), some (.int x), some (.int (zn V)), some (.int how), some (.int (zn (nv A 1))), some (.int (zn ob)), some (.int (row A ob 23)), some (.int (zn (ve A 1))), j14, j15, j16, j17, j18, j19, j20] [.int 1] (B, m + 2641) := by
    generalize hZ : lz_ev (tL_law sc) 1713 [some (.ref 1004), some (.ref 0), some (.ref 73), some (.ref 74), some (.int least), some (.int 1), some (.int ni), some (.int x), some (.int (zn V)), some (.int how), some (.int (zn (nv A 1))), some (.int (zn ob)), some (.int (row A ob 23)), some (.int (zn (ve A 1))), j14, j15, j16, j17, j18, j19, j20] [.int 1] (B, m + 2641) = Z
    (simp (decide := true) only [e_L_law_p0 sc, e_L_law_p1 sc, e_L_law_p2 sc, e_L_law_p3 sc, e_L_law_p4 sc, e_L_law_p5 sc, e_L_law_p6 sc, lo_iload, lo_lload, lo_aload, lo_istore, lo_lstore, lo_iinc, lo_pushI, lo_pushL, lo_ii, lo_iid, lo_ll, lo_li, lo_lcmp, lo_i2l, lo_dup2, lo_goto, lo_if, lo_icmp, lq_iret_f, lq_iret_1, lq_iret_0, lq_iret_b, lq_lret, lq_bs, lq_bv, lq_bhv, lq_bhx, q_c8_0, q_c8_1, q_c8_2, q_c8_3, q_c8_4, q_set_0, q_set_1i, q_set_1r, q_set_1n, q_set_1N, q_set_s, q_set_1j, q_set_1l, q_set2_0, q_set2_1i, q_set2_1r, q_set2_1n, q_set2_s, q_if, zb_ite, cond_true, cond_false, List.getElem?_cons_zero, List.getElem?_cons_succ, Nat.reduceAdd, ↓hZ, e, m8, f3, f0, Int32.reduceLT, Int32.reduceLE, Nat.reduceLeDiff, Nat.zero_le, Nat.le_refl, Nat.zero_add, if_true, if_false, zb_eq0, zb_eq1, zn_1, not_true_eq_false, not_false_eq_true, ite_true, ite_false, if_true, if_false, q_iret_0, q_iret_1, decide_true, decide_false, decide_not, zb_t, zb_f, z10, z01, cond_true, cond_false, Bool.and_true, Bool.true_and, Bool.and_false, Bool.false_and, Bool.not_true, Bool.not_false, true_and, and_true, false_and, and_false, true_or, or_true, false_or, or_false, Bool.true_eq_false, Bool.false_eq_true, eq_self, reduceCtorEq, Bool.or_true, Bool.true_or, Bool.or_false, Bool.false_or])
  rw [s1, e_1713]
  rfl
set_option maxRecDepth 100000 in
set_option maxHeartbeats 2000000 in
theorem b_tick (sc : List Int32) {least : Int32} {t m V ob : Nat} (H : LI A least t) (hV : V < 2147483648) (ho : ob < nv A 1) (hv : ve A 1 < 300) (hm : m + 2641 ≤ 727906) (ni x how : Int32) (j14 j15 j16 j17 j18 j19 j20 : Option Value) (h12 : t + 12 ≤ 10000) : Bd sc ni x (zn V) how (zn (nv A 1)) (zn ob) (row A ob 23) (zn (ve A 1)) m t (lz_ev (tL_law sc) 1403 (lw least 1 ni x (zn V) how (zn (nv A 1)) (zn ob) (row A ob 23) (zn (ve A 1)) j14 j15 j16 j17 j18 j19 j20) [] (A, m)) := by
  have H0 := H
  obtain ⟨HI, ht, h8, h74⟩ := H0
  have HI' := HI
  obtain ⟨hA, ⟨R, HR⟩, I⟩ := HI'
  have n60 := rl_n60 HR.1
  have f0 : (m ≤ 727906) = True := eq_true (by omega)
  have f1 : (m + 1 ≤ 727906) = True := eq_true (by omega)
  have f2 : (m + 1 + 1 ≤ 727906) = True := eq_true (by omega)
  have m12 : zn V - zn V / 12 * 12 = zn (V % 12) := zn_md (X := V) (d := 12) hV (by decide)
  have h12' : V % 12 < 12 := Nat.mod_lt _ (by decide)
  generalize V % 12 = u at *
  obtain ⟨g, HB, F⟩ := tk_o HI (n := 1 + u) (by omega) (by omega) ht (by omega)
  have a1 : fL_act [.ref 0, .int 15, .int (1 + zn u), .int 0, .int 0, .int 0, .int 0, .int 0] A = some (some (.int (zn (t + (1 + u)))), aTicks A (1 + u)) := by
    rw [show 1 + zn u = zn (1 + u) from zn_add 1 u]
    exact va_tick (kW_e g)
  obtain ⟨t', t1, HL⟩ := LI_Ft H HB F
  have lv := F.2.2.2.2.2
  have HB' := HB
  obtain ⟨hB, ⟨R', HR'⟩, I'⟩ := HB'
  have o1 := kV_e (g_version hB HR')
  have v4 := (Lg_n60 I'.1.1).2.1
  have l1 : (zn (t + (1 + u)) ≤ 0) = False := zn_le (a := t + (1 + u)) (b := 0) (by omega) (by decide) ▸ eq_false (by omega)
  have l2 : (zn (ve (aTicks A (1 + u)) 1) < zn (ve A 1)) = False := zn_lt (a := ve (aTicks A (1 + u)) 1) (b := ve A 1) (by omega) (by omega) ▸ eq_false (by omega)
  refine ⟨aTicks A (1 + u), m + 1, least, t', j14, j15, j16, j17, j18, j19, j20, ?_, HL, by omega, by omega⟩
  clear HL HR HR' I I' F g HB H HI
  generalize aTicks A (1 + u) = B at *
  unfold lw
  generalize hZ : lz_ev (tL_law sc) 1715 [some (.ref 1004), some (.ref 0), some (.ref 73), some (.ref 74), some (.int least), some (.int 1), some (.int ni), some (.int x), some (.int (zn V)), some (.int how), some (.int (zn (nv A 1))), some (.int (zn ob)), some (.int (row A ob 23)), some (.int (zn (ve A 1))), j14, j15, j16, j17, j18, j19, j20] [] (B, m + 1) = Z
  (simp (decide := true) only [e_L_law_p0 sc, e_L_law_p1 sc, e_L_law_p2 sc, e_L_law_p3 sc, e_L_law_p4 sc, e_L_law_p5 sc, e_L_law_p6 sc, lo_iload, lo_lload, lo_aload, lo_istore, lo_lstore, lo_iinc, lo_pushI, lo_pushL, lo_ii, lo_iid, lo_ll, lo_li, lo_lcmp, lo_i2l, lo_dup2, lo_goto, lo_if, lo_icmp, lq_iret_f, lq_iret_1, lq_iret_0, lq_iret_b, lq_lret, lq_bs, lq_bv, lq_bhv, lq_bhx, q_c8_0, q_c8_1, q_c8_2, q_c8_3, q_c8_4, q_set_0, q_set_1i, q_set_1r, q_set_1n, q_set_1N, q_set_s, q_set_1j, q_set_1l, q_set2_0, q_set2_1i, q_set2_1r, q_set2_1n, q_set2_s, q_if, zb_ite, cond_true, cond_false, List.getElem?_cons_zero, List.getElem?_cons_succ, Nat.reduceAdd, ↓hZ, a1, o1, m12, l1, l2, f0, f1, Int32.reduceLT, Int32.reduceLE, Nat.reduceLeDiff, Nat.zero_le, Nat.le_refl, Nat.zero_add, if_true, if_false, zb_eq0, zb_eq1, zn_1, not_true_eq_false, not_false_eq_true, ite_true, ite_false, if_true, if_false, q_iret_0, q_iret_1, decide_true, decide_false, decide_not, zb_t, zb_f, z10, z01, cond_true, cond_false, Bool.and_true, Bool.true_and, Bool.and_false, Bool.false_and, Bool.not_true, Bool.not_false, true_and, and_true, false_and, and_false, true_or, or_true, false_or, or_false, Bool.true_eq_false, Bool.false_eq_true, eq_self, reduceCtorEq, Bool.or_true, Bool.true_or, Bool.or_false, Bool.false_or])
set_option maxRecDepth 100000 in
set_option maxHeartbeats 2000000 in
theorem b_del (sc : List Int32) {least : Int32} {t m V ob : Nat} (H : LI A least t) (hV : V < 2147483648) (ho : ob < nv A 1) (hv : ve A 1 < 300) (hm : m + 2641 ≤ 727906) (ni x how : Int32) (j14 j15 j16 j17 j18 j19 j20 : Option Value) : Bd sc ni x (zn V) how (zn (nv A 1)) (zn ob) (row A ob 23) (zn (ve A 1)) m t (lz_ev (tL_law sc) 713 (lw least 1 ni x (zn V) how (zn (nv A 1)) (zn ob) (row A ob 23) (zn (ve A 1)) j14 j15 j16 j17 j18 j19 j20) [] (A, m)) := by
  have H0 := H
  obtain ⟨HI, ht, h8, h74⟩ := H0
  have HI' := HI
  obtain ⟨hA, ⟨R, HR⟩, I⟩ := HI'
  have n60 := rl_n60 HR.1
  have f0 : (m ≤ 727906) = True := eq_true (by omega)
  have f1 : (m + 1 ≤ 727906) = True := eq_true (by omega)
  have f2 : (m + 1 + 1 ≤ 727906) = True := eq_true (by omega)
  have d60 : zn V / 60 = zn (V / 60) := zn_dv (X := V) (d := 60) hV (by decide)
  have h60 : V / 60 < 2147483648 := Nat.lt_of_le_of_lt (Nat.div_le_self _ _) hV
  have m3 : zn (V / 60) - zn (V / 60) / 3 * 3 = zn (V / 60 % 3) := zn_md (X := V / 60) (d := 3) h60 (by decide)
  have h3 : V / 60 % 3 < 3 := Nat.mod_lt _ (by decide)
  generalize V / 60 % 3 = u at *
  generalize V / 60 = y at *
  have o1 := kV_e (g_goingOf hA HR ho)
  have s60 : ob < 60 := by omega
  by_cases hs : row A ob 25 = 0
  · obtain ⟨w1, -⟩ := wr_ok A ob (dUp (row A ob) 25 (if zn (1 + u) = 2 ∧ kept A 1 (zn ob) = false then 4 else zn (1 + u))) (by omega)
    have g := g_delete hA HR ho (q := 1 + u) (by omega) (by omega) hs
    have w1' : (aGo A ob (zn (1 + u))).1 = true := w1
    rw [w1', cond_true] at g
    have qn0 : ¬ zn (1 + u) = 0 := fun z => by
      have := (zn_inj (a := 1 + u) (b := 0) (by omega) (by decide)).mp z
      omega
    have IB := II_go I ho (v := zn (1 + u)) qn0
    have HB : Iv (aGo A ob (zn (1 + u))).2 := Iv_g HI g (c_delete (Rel_at hA HR) (zn ob) (zn (1 + u))) IB
    have F : Fr A (aGo A ob (zn (1 + u))).2 := Fr_Wr A ob _
    have nB : nv (aGo A ob (zn (1 + u))).2 1 = nv A 1 := nvp_Wr _ I.1 ho
    have hval : ∃ val : Int32, (if zn (1 + u) = 2 ∧ kept A 1 (zn ob) = false then (4 : Int32) else zn (1 + u)) = val ∧ ¬ val = 0 ∧ (val ≤ 0) = False ∧ (val = 4 ∨ (val < 4) = True) := by
      by_cases c : zn (1 + u) = 2 ∧ kept A 1 (zn ob) = false
      · exact ⟨4, if_pos c, by decide, eq_false (by decide), Or.inl rfl⟩
      · exact ⟨zn (1 + u), if_neg c, qn0, zn_le (a := 1 + u) (b := 0) (by omega) (by decide) ▸ eq_false (by omega), Or.inr (zn_lt (a := 1 + u) (b := 4) (by omega) (by decide) ▸ eq_true (by omega))⟩
    obtain ⟨val, e0, e1, e2, e3⟩ := hval
    have WR0 := WR_wr A ob (dUp (row A ob) 25 val)
    have d25 : dOw (dUp (row A ob) 25 val) 25 = val := by rw [dOw_n (by decide)]; exact dUp_e
    have eB : aGo A ob (zn (1 + u)) = aWr A ob (dUp (row A ob) 25 val) := by unfold aGo; rw [e0]
    rw [eB] at g HB F nB IB
    rw [e0] at w1
    have r25 : row (aWr A ob (dUp (row A ob) 25 val)).2 ob 25 = val := (WR_row WR0 I.1.1 s60 w1 (by decide)).trans d25
    have r24 : val = 4 → row (aWr A ob (dUp (row A ob) 25 val)).2 ob 24 = -1 := fun z => by
      rw [WR_row WR0 I.1.1 s60 w1 (by decide), dOw_24, dUp_e, if_pos z]
    have vB : ve (aWr A ob (dUp (row A ob) 25 val)).2 1 = ve A 1 + 1 := (WR_ev WR0 s60 (by rw [dOw_n (by decide), dUp_n (by decide)]; exact (Lg_cur I.1.1 ho).1) w1 (fun z => e1 (by
      have := z 25 (by decide)
      rw [d25, hs] at this
      exact this))).1
    rw [r25] at g
    generalize (aWr A ob (dUp (row A ob) 25 val)).2 = B at *
    have a1 : fL_act [.ref 0, .int 3, .int (zn ob), .int (1 + zn u), .int 0, .int 0, .int 0, .int 0] A = some (some (.int val), B) := by
      rw [show 1 + zn u = zn (1 + u) from zn_add 1 u]
      exact va_delete g
    have HB' := HB
    obtain ⟨hB, ⟨R', HR'⟩, I'⟩ := HB'
    have o2 := kV_e (g_goingOf hB HR' (o := ob) (by omega))
    have o3 := kV_e (g_version hB HR')
    have o4 := kV_e (g_ownerOf hB HR' (o := ob) (by omega))
    rw [r25] at o2
    rw [vB] at o3
    refine ⟨B, m + 1, least, t, some (.int 1), some (.int val), j16, j17, j18, j19, j20, ?_, LI_Fr H HB F, by omega, by omega⟩
    clear H HI HR HR' I I' HB IB F WR0 eB e0 e1 g w1 w1'
    unfold lw
    generalize hZ : lz_ev (tL_law sc) 1715 [some (.ref 1004), some (.ref 0), some (.ref 73), some (.ref 74), some (.int least), some (.int 1), some (.int ni), some (.int x), some (.int (zn V)), some (.int how), some (.int (zn (nv A 1))), some (.int (zn ob)), some (.int (row A ob 23)), some (.int (zn (ve A 1))), some (.int 1), some (.int val), j16, j17, j18, j19, j20] [] (B, m + 1) = Z
    rcases e3 with rfl | e3
    · have r24 := r24 rfl
      rw [r24] at o4
      (simp (decide := true) only [e_L_law_p0 sc, e_L_law_p1 sc, e_L_law_p2 sc, e_L_law_p3 sc, e_L_law_p4 sc, e_L_law_p5 sc, e_L_law_p6 sc, lo_iload, lo_lload, lo_aload, lo_istore, lo_lstore, lo_iinc, lo_pushI, lo_pushL, lo_ii, lo_iid, lo_ll, lo_li, lo_lcmp, lo_i2l, lo_dup2, lo_goto, lo_if, lo_icmp, lq_iret_f, lq_iret_1, lq_iret_0, lq_iret_b, lq_lret, lq_bs, lq_bv, lq_bhv, lq_bhx, q_c8_0, q_c8_1, q_c8_2, q_c8_3, q_c8_4, q_set_0, q_set_1i, q_set_1r, q_set_1n, q_set_1N, q_set_s, q_set_1j, q_set_1l, q_set2_0, q_set2_1i, q_set2_1r, q_set2_1n, q_set2_s, q_if, zb_ite, cond_true, cond_false, List.getElem?_cons_zero, List.getElem?_cons_succ, Nat.reduceAdd, ↓hZ, a1, o1, o2, o3, o4, hs, d60, m3, f0, f1, Int32.reduceLT, Int32.reduceLE, Nat.reduceLeDiff, Nat.zero_le, Nat.le_refl, Nat.zero_add, if_true, if_false, zb_eq0, zb_eq1, zn_1, not_true_eq_false, not_false_eq_true, ite_true, ite_false, if_true, if_false, q_iret_0, q_iret_1, decide_true, decide_false, decide_not, zb_t, zb_f, z10, z01, cond_true, cond_false, Bool.and_true, Bool.true_and, Bool.and_false, Bool.false_and, Bool.not_true, Bool.not_false, true_and, and_true, false_and, and_false, true_or, or_true, false_or, or_false, Bool.true_eq_false, Bool.false_eq_true, eq_self, reduceCtorEq, Bool.or_true, Bool.true_or, Bool.or_false, Bool.false_or])
    · (simp (decide := true) only [e_L_law_p0 sc, e_L_law_p1 sc, e_L_law_p2 sc, e_L_law_p3 sc, e_L_law_p4 sc, e_L_law_p5 sc, e_L_law_p6 sc, lo_iload, lo_lload, lo_aload, lo_istore, lo_lstore, lo_iinc, lo_pushI, lo_pushL, lo_ii, lo_iid, lo_ll, lo_li, lo_lcmp, lo_i2l, lo_dup2, lo_goto, lo_if, lo_icmp, lq_iret_f, lq_iret_1, lq_iret_0, lq_iret_b, lq_lret, lq_bs, lq_bv, lq_bhv, lq_bhx, q_c8_0, q_c8_1, q_c8_2, q_c8_3, q_c8_4, q_set_0, q_set_1i, q_set_1r, q_set_1n, q_set_1N, q_set_s, q_set_1j, q_set_1l, q_set2_0, q_set2_1i, q_set2_1r, q_set2_1n, q_set2_s, q_if, zb_ite, cond_true, cond_false, List.getElem?_cons_zero, List.getElem?_cons_succ, Nat.reduceAdd, ↓hZ, a1, o1, o2, o3, hs, e2, e3, d60, m3, f0, f1, Int32.reduceLT, Int32.reduceLE, Nat.reduceLeDiff, Nat.zero_le, Nat.le_refl, Nat.zero_add, if_true, if_false, zb_eq0, zb_eq1, zn_1, not_true_eq_false, not_false_eq_true, ite_true, ite_false, if_true, if_false, q_iret_0, q_iret_1, decide_true, decide_false, decide_not, zb_t, zb_f, z10, z01, cond_true, cond_false, Bool.and_true, Bool.true_and, Bool.and_false, Bool.false_and, Bool.not_true, Bool.not_false, true_and, and_true, false_and, and_false, true_or, or_true, false_or, or_false, Bool.true_eq_false, Bool.false_eq_true, eq_self, reduceCtorEq, Bool.or_true, Bool.true_or, Bool.or_false, Bool.false_or])
  · have a1 : fL_act [.ref 0, .int 3, .int (zn ob), .int (1 + zn u), .int 0, .int 0, .int 0, .int 0] A = some (some (.int (-1273)), A) := by
      rw [show 1 + zn u = zn (1 + u) from zn_add 1 u]
      exact xa_delete (kX_e (s_deleteX hA HR ho (q := 1 + u) (by omega) (by omega) hs)) rfl
    refine ⟨A, m + 1, least, t, some (.int 0), some (.int (-1273)), j16, j17, j18, j19, j20, ?_, H, by omega, by omega⟩
    unfold lw
    generalize hZ : lz_ev (tL_law sc) 1715 [some (.ref 1004), some (.ref 0), some (.ref 73), some (.ref 74), some (.int least), some (.int 1), some (.int ni), some (.int x), some (.int (zn V)), some (.int how), some (.int (zn (nv A 1))), some (.int (zn ob)), some (.int (row A ob 23)), some (.int (zn (ve A 1))), some (.int 0), some (.int (-1273)), j16, j17, j18, j19, j20] [] (A, m + 1) = Z
    clear H HI HR I
    (simp (decide := true) only [e_L_law_p0 sc, e_L_law_p1 sc, e_L_law_p2 sc, e_L_law_p3 sc, e_L_law_p4 sc, e_L_law_p5 sc, e_L_law_p6 sc, lo_iload, lo_lload, lo_aload, lo_istore, lo_lstore, lo_iinc, lo_pushI, lo_pushL, lo_ii, lo_iid, lo_ll, lo_li, lo_lcmp, lo_i2l, lo_dup2, lo_goto, lo_if, lo_icmp, lq_iret_f, lq_iret_1, lq_iret_0, lq_iret_b, lq_lret, lq_bs, lq_bv, lq_bhv, lq_bhx, q_c8_0, q_c8_1, q_c8_2, q_c8_3, q_c8_4, q_set_0, q_set_1i, q_set_1r, q_set_1n, q_set_1N, q_set_s, q_set_1j, q_set_1l, q_set2_0, q_set2_1i, q_set2_1r, q_set2_1n, q_set2_s, q_if, zb_ite, cond_true, cond_false, List.getElem?_cons_zero, List.getElem?_cons_succ, Nat.reduceAdd, ↓hZ, a1, o1, hs, d60, m3, f0, f1, Int32.reduceLT, Int32.reduceLE, Nat.reduceLeDiff, Nat.zero_le, Nat.le_refl, Nat.zero_add, if_true, if_false, zb_eq0, zb_eq1, zn_1, not_true_eq_false, not_false_eq_true, ite_true, ite_false, if_true, if_false, q_iret_0, q_iret_1, decide_true, decide_false, decide_not, zb_t, zb_f, z10, z01, cond_true, cond_false, Bool.and_true, Bool.true_and, Bool.and_false, Bool.false_and, Bool.not_true, Bool.not_false, true_and, and_true, false_and, and_false, true_or, or_true, false_or, or_false, Bool.true_eq_false, Bool.false_eq_true, eq_self, reduceCtorEq, Bool.or_true, Bool.true_or, Bool.or_false, Bool.false_or])
end
end

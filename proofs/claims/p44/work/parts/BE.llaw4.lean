section
/-! the law's loop: listing, seeing -/
section
variable {A B R : zzMd} {c : Nat}
theorem look_in (H : Iv A) (hc : c < 8) (m : Nat) : ∀ k, inQ A c k → inQ (aLook A c m) c k := by
  obtain ⟨-, ⟨R, HR⟩, I⟩ := H
  unfold aLook
  by_cases d : A.1 (3 + c) 3 < A.1 1 8
  · rw [decide_eq_true d]
    obtain ⟨n1, n2, n3, n4, n5⟩ := TA_n I.1.1 hc
    exact fun k h => (eqs_Q (n3.mpr (QI_of HR.1 hc)) _).2 k ((n4 k).mpr h)
  · rw [decide_eq_false d]
    have key : ∀ n, n ≤ ve A 1 - ve A (3 + c) → ∀ k, inQ A c k → inQ (aNexts A c n) c k := by
      intro n
      induction n with
      | zero => exact fun _ k h => h
      | succ n ih =>
        intro hn k h
        obtain ⟨-, ⟨R1, HR1⟩, -⟩ := II_nexts I HR hc n (by omega)
        rw [aNexts_s]
        exact (mono_next (QI_of HR1.1 hc) hc _).2 k (ih (by omega) k h)
    exact key _ (Nat.min_le_right _ _)
theorem look_qn (H : Iv A) (hc : c < 8) (m : Nat) : qn A c ≤ qn (aLook A c m) c := by
  have hi := look_in H hc m
  obtain ⟨-, ⟨R, HR⟩, -⟩ := H
  have Q := QI_of HR.1 hc
  generalize aLook A c m = B at *
  have ex : ∀ p, p < qn A c → ∃ i, i < qn B c ∧ qk B c i = qk A c p := fun p hp => hi (qk A c p) ⟨p, hp, rfl⟩
  refine pigeon (qn B c) (qn A c) (fun p => @dite _ (p < qn A c) (Nat.decLt _ _) (fun h => Classical.choose (ex p h)) (fun _ => 0)) (fun p hp => ?_) (fun p q hp hq e => ?_)
  · show (@dite _ (p < qn A c) (Nat.decLt _ _) (fun h => Classical.choose (ex p h)) (fun _ => 0)) < _
    rw [dif_pos hp]
    exact (Classical.choose_spec (ex p hp)).1
  · have e' : (@dite _ (p < qn A c) (Nat.decLt _ _) (fun h => Classical.choose (ex p h)) (fun _ => 0)) = (@dite _ (q < qn A c) (Nat.decLt _ _) (fun h => Classical.choose (ex q h)) (fun _ => 0)) := e
    rw [dif_pos hp, dif_pos hq] at e'
    have h1 := (Classical.choose_spec (ex p hp)).2
    have h2 := (Classical.choose_spec (ex q hq)).2
    rw [e'] at h1
    exact Q.2.2.1 p q hp hq (h1.symm.trans h2)
set_option maxRecDepth 100000 in
set_option maxHeartbeats 2000000 in
theorem a_1325 (sc : List Int32) {m V ob : Nat} (HI : Iv A) (hm : m + 2641 ≤ 727906) (least ni x how : Int32) (j16 j17 j18 j19 j20 : Option Value) : ∀ i, i ≤ nv A 1 → lz_ev (tL_law sc) 1325 [some (.ref 1004), some (.ref 0), some (.ref 73), some (.ref 74), some (.int least), some (.int 1), some (.int ni), some (.int x), some (.int (zn V)), some (.int how), some (.int (zn (nv A 1))), some (.int (zn ob)), some (.int (row A ob 23)), some (.int (zn (ve A 1))), some (.int 0), some (.int 0), j16, j17, j18, j19, j20] [] (A, m) = lz_ev (tL_law sc) 1325 [some (.ref 1004), some (.ref 0), some (.ref 73), some (.ref 74), some (.int least), some (.int 1), some (.int ni), some (.int x), some (.int (zn V)), some (.int how), some (.int (zn (nv A 1))), some (.int (zn ob)), some (.int (row A ob 23)), some (.int (zn (ve A 1))), some (.int (zn (zcnt i fun i => !gone A 1 (zn i)))), some (.int (zn i)), j16, j17, j18, j19, j20] [] (A, m) := by
  intro i
  obtain ⟨hA, ⟨R, HR⟩, I⟩ := HI
  have n60 := rl_n60 HR.1
  have f0 : (m ≤ 727906) = True := eq_true (by omega)
  induction i with
  | zero => exact fun _ => rfl
  | succ i ih =>
    intro hi
    refine (ih (by omega)).trans ?_
    have o1 := kV_e (g_goingOf hA HR (o := i) (by omega))
    have l : (zn (nv A 1) ≤ zn i) = False := zn_le (a := nv A 1) (b := i) (by omega) (by omega) ▸ eq_false (by omega)
    obtain ⟨q, q1, q2⟩ := (cur_good HR.1 (o := i) (by omega)).1.2.2.2.1
    have r25 : rd A 1 (zn i) 25 = row A i 25 := rd_row (k := 25) (by omega) (by decide)
    have eg : gone A 1 (zn i) = decide (q = 4) := by
      unfold gone
      rw [r25, q2]
      by_cases z : q = 4
      · rw [decide_eq_true z, z]; rfl
      · rw [decide_eq_false z]
        exact decide_eq_false fun y => z ((zn_inj (a := q) (b := 4) (by omega) (by decide)).mp y)
    rw [zcnt_s]
    show _ = lz_ev (tL_law sc) 1325 [some (.ref 1004), some (.ref 0), some (.ref 73), some (.ref 74), some (.int least), some (.int 1), some (.int ni), some (.int x), some (.int (zn V)), some (.int how), some (.int (zn (nv A 1))), some (.int (zn ob)), some (.int (row A ob 23)), some (.int (zn (ve A 1))), some (.int (zn ((zcnt i fun i => !gone A 1 (zn i)) + (bif !gone A 1 (zn i) then 1 else 0)))), some (.int (zn (i + 1))), j16, j17, j18, j19, j20] [] (A, m)
    rw [eg]
    rw [q2] at o1
    generalize (zcnt i fun i => !gone A 1 (zn i)) = al
    clear ih HR I
    by_cases z : q = 4
    · have l4 : ((4 : Int32) ≤ zn q) = True := by rw [z]; exact eq_true (by decide)
      rw [decide_eq_true z]
      clear z
      (rw [e_L_law_1325]; simp (decide := true) only [e_L_law_p0 sc, e_L_law_p1 sc, e_L_law_p2 sc, e_L_law_p3 sc, e_L_law_p4 sc, e_L_law_p5 sc, e_L_law_p6 sc, lo_iload, lo_lload, lo_aload, lo_istore, lo_lstore, lo_iinc, lo_pushI, lo_pushL, lo_ii, lo_iid, lo_ll, lo_li, lo_lcmp, lo_i2l, lo_dup2, lo_goto, lo_if, lo_icmp, lq_iret_f, lq_iret_1, lq_iret_0, lq_iret_b, lq_lret, lq_bs, lq_bv, lq_bhv, lq_bhx, q_c8_0, q_c8_1, q_c8_2, q_c8_3, q_c8_4, q_set_0, q_set_1i, q_set_1r, q_set_1n, q_set_1N, q_set_s, q_set_1j, q_set_1l, q_set2_0, q_set2_1i, q_set2_1r, q_set2_1n, q_set2_s, q_if, zb_ite, cond_true, cond_false, List.getElem?_cons_zero, List.getElem?_cons_succ, Nat.reduceAdd, l, l4, o1, f0, Int32.add_zero, Nat.add_zero, Int32.reduceLT, Int32.reduceLE, Nat.reduceLeDiff, Nat.zero_le, Nat.le_refl, Nat.zero_add, if_true, if_false, zb_eq0, zb_eq1, zn_1, not_true_eq_false, not_false_eq_true, ite_true, ite_false, if_true, if_false, q_iret_0, q_iret_1, decide_true, decide_false, decide_not, zb_t, zb_f, z10, z01, cond_true, cond_false, Bool.and_true, Bool.true_and, Bool.and_false, Bool.false_and, Bool.not_true, Bool.not_false, true_and, and_true, false_and, and_false, true_or, or_true, false_or, or_false, Bool.true_eq_false, Bool.false_eq_true, eq_self, reduceCtorEq, Bool.or_true, Bool.true_or, Bool.or_false, Bool.false_or])
    · have l4 : ((4 : Int32) ≤ zn q) = False := zk_lt (n := 4) (by omega) (Nat.le_refl _) (by decide)
      rw [decide_eq_false z]
      clear z
      (rw [e_L_law_1325]; simp (decide := true) only [e_L_law_p0 sc, e_L_law_p1 sc, e_L_law_p2 sc, e_L_law_p3 sc, e_L_law_p4 sc, e_L_law_p5 sc, e_L_law_p6 sc, lo_iload, lo_lload, lo_aload, lo_istore, lo_lstore, lo_iinc, lo_pushI, lo_pushL, lo_ii, lo_iid, lo_ll, lo_li, lo_lcmp, lo_i2l, lo_dup2, lo_goto, lo_if, lo_icmp, lq_iret_f, lq_iret_1, lq_iret_0, lq_iret_b, lq_lret, lq_bs, lq_bv, lq_bhv, lq_bhx, q_c8_0, q_c8_1, q_c8_2, q_c8_3, q_c8_4, q_set_0, q_set_1i, q_set_1r, q_set_1n, q_set_1N, q_set_s, q_set_1j, q_set_1l, q_set2_0, q_set2_1i, q_set2_1r, q_set2_1n, q_set2_s, q_if, zb_ite, cond_true, cond_false, List.getElem?_cons_zero, List.getElem?_cons_succ, Nat.reduceAdd, l, l4, o1, f0, Int32.reduceLT, Int32.reduceLE, Nat.reduceLeDiff, Nat.zero_le, Nat.le_refl, Nat.zero_add, if_true, if_false, zb_eq0, zb_eq1, zn_1, not_true_eq_false, not_false_eq_true, ite_true, ite_false, if_true, if_false, q_iret_0, q_iret_1, decide_true, decide_false, decide_not, zb_t, zb_f, z10, z01, cond_true, cond_false, Bool.and_true, Bool.true_and, Bool.and_false, Bool.false_and, Bool.not_true, Bool.not_false, true_and, and_true, false_and, and_false, true_or, or_true, false_or, or_false, Bool.true_eq_false, Bool.false_eq_true, eq_self, reduceCtorEq, Bool.or_true, Bool.true_or, Bool.or_false, Bool.false_or])
set_option maxRecDepth 100000 in
set_option maxHeartbeats 2000000 in
theorem b_list (sc : List Int32) {least : Int32} {t m V ob : Nat} (H : LI A least t) (hV : V < 2147483648) (ho : ob < nv A 1) (hv : ve A 1 < 300) (hm : m + 2641 ≤ 727906) (ni x how : Int32) (j14 j15 j16 j17 j18 j19 j20 : Option Value) : Bd sc ni x (zn V) how (zn (nv A 1)) (zn ob) (row A ob 23) (zn (ve A 1)) m t (lz_ev (tL_law sc) 1319 (lw least 1 ni x (zn V) how (zn (nv A 1)) (zn ob) (row A ob 23) (zn (ve A 1)) j14 j15 j16 j17 j18 j19 j20) [] (A, m)) := by
  have H0 := H
  obtain ⟨HI, ht, h8, h74⟩ := H0
  have HI' := HI
  obtain ⟨hA, ⟨R, HR⟩, I⟩ := HI'
  have n60 := rl_n60 HR.1
  have f0 : (m ≤ 727906) = True := eq_true (by omega)
  have f1 : (m + 1 ≤ 727906) = True := eq_true (by omega)
  have f2 : (m + 1 + 1 ≤ 727906) = True := eq_true (by omega)
  have m4 : zn V - zn V / 4 * 4 = zn (V % 4) := zn_md (X := V) (d := 4) hV (by decide)
  have hr : V % 4 < 4 := Nat.mod_lt _ (by decide)
  have e := a_1325 sc (V := V) (ob := ob) HI hm least ni x how j16 j17 j18 j19 j20 (nv A 1) (Nat.le_refl _)
  generalize V % 4 = r at *
  have g := g_list hA HR hr
  have a1 : fL_act [.ref 0, .int 18, .int (zn r), .int 0, .int 0, .int 0, .int 0, .int 0] A = _ := va_list (b := 0) (c := 0) (d := 0) (e := 0) (f := 0) (kW_e g)
  have IB := (II_sI I (x := zn (ve A 1)) (a := 12) (k := r) (zIC_eqv (fun a b _ h1 _ _ _ _ => sI_a h1) I.1.1.1) (Or.inl rfl)).1
  have HB : Iv (zz_sI A 12 r (zn (ve A 1))) := Iv_g HI (kW_e g) (c_list (Rel_at hA HR) (zn r)) IB
  have HL := LI_12 H HB
  have bi : zz_inb (zn r) 4 = true := zn_inT hr (by decide)
  have xi : zz_ix (zn r) = r := zn_ix (by omega)
  have l : (zn (nv A 1) ≤ zn (nv A 1)) = True := zk_ge n60 (by decide)
  refine ⟨zz_sI (zz_sI A 12 r (zn (ve A 1))) 74 r (zn (ve A 1)), m + 1, least, t, some (.int (zn (zcnt (nv A 1) fun i => !gone A 1 (zn i)))), some (.int (zn (nv A 1))), j16, j17, j18, j19, j20, ?_, HL, by omega, by omega⟩
  unfold lw
  clear HL HB IB H HI HR I g h8 h74
  generalize (zcnt (nv A 1) fun i => !gone A 1 (zn i)) = al at *
  generalize zz_sI A 12 r (zn (ve A 1)) = B at *
  have s1 : lz_ev (tL_law sc) 1319 [some (.ref 1004), some (.ref 0), some (.ref 73), some (.ref 74), some (.int least), some (.int 1), some (.int ni), some (.int x), some (.int (zn V)), some (.int how), some (.int (zn (nv A 1))), some (.int (zn ob)), some (.int (row A ob 23)), some (.int (zn (ve A 1))), j14, j15, j16, j17, j18, j19, j20] [] (A, m) = lz_ev (tL_law sc) 1325 [some (.ref 1004), some (.ref 0), some (.ref 73), some (.ref 74), some (.int least), some (.int 1), some (.int ni), some (.int x), some (.int (zn V)), some (.int how), some (.int (zn (nv A 1))), some (.int (zn ob)), some (.int (row A ob 23)), some (.int (zn (ve A 1))), some (.int 0), some (.int 0), j16, j17, j18, j19, j20] [] (A, m) := by
    clear e
    (simp (decide := true) only [e_L_law_p0 sc, e_L_law_p1 sc, e_L_law_p2 sc, e_L_law_p3 sc, e_L_law_p4 sc, e_L_law_p5 sc, e_L_law_p6 sc, lo_iload, lo_lload, lo_aload, lo_istore, lo_lstore, lo_iinc, lo_pushI, lo_pushL, lo_ii, lo_iid, lo_ll, lo_li, lo_lcmp, lo_i2l, lo_dup2, lo_goto, lo_if, lo_icmp, lq_iret_f, lq_iret_1, lq_iret_0, lq_iret_b, lq_lret, lq_bs, lq_bv, lq_bhv, lq_bhx, q_c8_0, q_c8_1, q_c8_2, q_c8_3, q_c8_4, q_set_0, q_set_1i, q_set_1r, q_set_1n, q_set_1N, q_set_s, q_set_1j, q_set_1l, q_set2_0, q_set2_1i, q_set2_1r, q_set2_1n, q_set2_s, q_if, zb_ite, cond_true, cond_false, List.getElem?_cons_zero, List.getElem?_cons_succ, Nat.reduceAdd, f0, Int32.reduceLT, Int32.reduceLE, Nat.reduceLeDiff, Nat.zero_le, Nat.le_refl, Nat.zero_add, if_true, if_false, zb_eq0, zb_eq1, zn_1, not_true_eq_false, not_false_eq_true, ite_true, ite_false, if_true, if_false, q_iret_0, q_iret_1, decide_true, decide_false, decide_not, zb_t, zb_f, z10, z01, cond_true, cond_false, Bool.and_true, Bool.true_and, Bool.and_false, Bool.false_and, Bool.not_true, Bool.not_false, true_and, and_true, false_and, and_false, true_or, or_true, false_or, or_false, Bool.true_eq_false, Bool.false_eq_true, eq_self, reduceCtorEq, Bool.or_true, Bool.true_or, Bool.or_false, Bool.false_or])
  refine s1.trans (e.trans ?_)
  clear e s1
  generalize hZ : lz_ev (tL_law sc) 1715 [some (.ref 1004), some (.ref 0), some (.ref 73), some (.ref 74), some (.int least), some (.int 1), some (.int ni), some (.int x), some (.int (zn V)), some (.int how), some (.int (zn (nv A 1))), some (.int (zn ob)), some (.int (row A ob 23)), some (.int (zn (ve A 1))), some (.int (zn al)), some (.int (zn (nv A 1))), j16, j17, j18, j19, j20] [] (zz_sI B 74 r (zn (ve A 1)), m + 1) = Z
  (rw [e_L_law_1325]; simp (decide := true) only [e_L_law_p0 sc, e_L_law_p1 sc, e_L_law_p2 sc, e_L_law_p3 sc, e_L_law_p4 sc, e_L_law_p5 sc, e_L_law_p6 sc, lo_iload, lo_lload, lo_aload, lo_istore, lo_lstore, lo_iinc, lo_pushI, lo_pushL, lo_ii, lo_iid, lo_ll, lo_li, lo_lcmp, lo_i2l, lo_dup2, lo_goto, lo_if, lo_icmp, lq_iret_f, lq_iret_1, lq_iret_0, lq_iret_b, lq_lret, lq_bs, lq_bv, lq_bhv, lq_bhx, q_c8_0, q_c8_1, q_c8_2, q_c8_3, q_c8_4, q_set_0, q_set_1i, q_set_1r, q_set_1n, q_set_1N, q_set_s, q_set_1j, q_set_1l, q_set2_0, q_set2_1i, q_set2_1r, q_set2_1n, q_set2_s, q_if, zb_ite, cond_true, cond_false, List.getElem?_cons_zero, List.getElem?_cons_succ, Nat.reduceAdd, ↓hZ, l, a1, m4, lo_iast, sC74, dd74, bi, xi, f0, f1, Int32.reduceLT, Int32.reduceLE, Nat.reduceLeDiff, Nat.zero_le, Nat.le_refl, Nat.zero_add, if_true, if_false, zb_eq0, zb_eq1, zn_1, not_true_eq_false, not_false_eq_true, ite_true, ite_false, if_true, if_false, q_iret_0, q_iret_1, decide_true, decide_false, decide_not, zb_t, zb_f, z10, z01, cond_true, cond_false, Bool.and_true, Bool.true_and, Bool.and_false, Bool.false_and, Bool.not_true, Bool.not_false, true_and, and_true, false_and, and_false, true_or, or_true, false_or, or_false, Bool.true_eq_false, Bool.false_eq_true, eq_self, reduceCtorEq, Bool.or_true, Bool.true_or, Bool.or_false, Bool.false_or])
set_option maxRecDepth 100000 in
set_option maxHeartbeats 2000000 in
theorem b_see (sc : List Int32) {least : Int32} {t m V ob : Nat} (H : LI A least t) (hV : V < 2147483648) (ho : ob < nv A 1) (hv : ve A 1 < 300) (hm : m + 2641 ≤ 727906) (ni x how : Int32) (j14 j15 j16 j17 j18 j19 j20 : Option Value) : Bd sc ni x (zn V) how (zn (nv A 1)) (zn ob) (row A ob 23) (zn (ve A 1)) m t (lz_ev (tL_law sc) 1575 (lw least 1 ni x (zn V) how (zn (nv A 1)) (zn ob) (row A ob 23) (zn (ve A 1)) j14 j15 j16 j17 j18 j19 j20) [] (A, m)) := by
  have H0 := H
  obtain ⟨HI, ht, h8, h74⟩ := H0
  have HI' := HI
  obtain ⟨hA, ⟨R, HR⟩, I⟩ := HI'
  have n60 := rl_n60 HR.1
  have f0 : (m ≤ 727906) = True := eq_true (by omega)
  have f1 : (m + 1 ≤ 727906) = True := eq_true (by omega)
  have f2 : (m + 1 + 1 ≤ 727906) = True := eq_true (by omega)
  have d8 : zn V / 8 = zn (V / 8) := zn_dv (X := V) (d := 8) hV (by decide)
  have m8 : zn V - zn V / 8 * 8 = zn (V % 8) := zn_md (X := V) (d := 8) hV (by decide)
  have hy : V / 8 < 2147483648 := Nat.lt_of_le_of_lt (Nat.div_le_self _ _) hV
  have m30 : zn (V / 8) - zn (V / 8) / 30 * 30 = zn (V / 8 % 30) := zn_md (X := V / 8) (d := 30) hy (by decide)
  have hc : V % 8 < 8 := Nat.mod_lt _ (by decide)
  have hu : V / 8 % 30 < 30 := Nat.mod_lt _ (by decide)
  rw [d8] at m8
  generalize V / 8 % 30 = u at *
  generalize V / 8 = y at *
  generalize V % 8 = c at *
  have v4 := (Lg_n60 I.1.1).2.1
  obtain ⟨q, q1, q2⟩ := now_18 HR.1
  have lq : least = zn q := h8.symm.trans q2
  subst lq
  obtain ⟨vc1, -, -⟩ := I.1.1.2.2.2.2.2 c hc
  have o1 := kV_e (g_seen hA HR hc)
  have g := g_see hA HR hc (m := 1 + u) (by omega) (by omega)
  have HB := Iv_look HI hc (m := 1 + u) (by omega)
  obtain ⟨vB, F⟩ := ve_look HI hc (1 + u)
  have qm := look_qn HI hc (1 + u)
  have sB := (II_look I HR hc (1 + u)).2.2.2
  have e3 : A.1 (3 + c) 3 = zn (ve A (3 + c)) := (HR.1.1.2.2.2 c hc).1.2.2.1
  have qA := (HR.1.1.2.2.2 c hc).2.1
  generalize aLook A c (1 + u) = B at *
  have HB' := HB
  obtain ⟨hB, ⟨R', HR'⟩, I'⟩ := HB'
  have qB := (HR'.1.1.2.2.2 c hc).2.1
  rw [qA.1, qB.1, zn_sub qm] at g
  have a1 : fL_act [.ref 0, .int 9, .int (zn c), .int (1 + zn u), .int 0, .int 0, .int 0, .int 0] A = some (some (.int (zn (qn B c - qn A c))), B) := by
    rw [show 1 + zn u = zn (1 + u) from zn_add 1 u]
    exact va_see (kW_e g)
  have o2 := kV_e (g_seen hB HR' hc)
  have o3 := kV_e (g_version hB HR')
  rw [vB] at o3
  rw [e3, q2] at sB
  have l0 : (zn (qn B c - qn A c) < 0) = False := zn_lt0 (by omega)
  have lc : (zn q ≤ zn (ve A (3 + c))) = (q ≤ ve A (3 + c)) := zn_le (a := q) (b := ve A (3 + c)) (by omega) (by omega)
  have la : zn (ve A (3 + c) + 1) + zn u = zn (ve A (3 + c) + 1 + u) := zn_add _ _
  refine ⟨B, m + 1, zn q, t, some (.int (zn c)), some (.int (zn (ve A (3 + c)))), some (.int (zn (qn B c - qn A c))), j17, j18, j19, j20, ?_, LI_Fr H HB F, by omega, by omega⟩
  unfold lw
  clear g H HI HR I HB HR' I' F qA qB qm h8 h74 e3 q2
  generalize qn B c - qn A c = td at *
  generalize hs : ve A (3 + c) = s at *
  generalize hZ : lz_ev (tL_law sc) 1715 [some (.ref 1004), some (.ref 0), some (.ref 73), some (.ref 74), some (.int (zn q)), some (.int 1), some (.int ni), some (.int x), some (.int (zn V)), some (.int how), some (.int (zn (nv A 1))), some (.int (zn ob)), some (.int (row A ob 23)), some (.int (zn (ve A 1))), some (.int (zn c)), some (.int (zn s)), some (.int (zn td)), j17, j18, j19, j20] [] (B, m + 1) = Z
  by_cases h1 : q ≤ s
  · have t1 : (zn q ≤ zn s) = True := lc.trans (eq_true h1)
    rw [if_neg (show ¬ zn s < zn q from Int32.not_lt.mpr (t1.mpr trivial))] at sB
    by_cases h2 : ve A 1 ≤ s + 1 + u
    · have t2 : (zn (ve A 1) ≤ zn (s + 1 + u)) = True := zn_le (a := ve A 1) (b := s + 1 + u) (by omega) (by omega) ▸ eq_true h2
      rw [show s + min (1 + u) (ve A 1 - s) = ve A 1 by omega] at sB
      rw [sB] at o2
      (simp (decide := true) only [e_L_law_p0 sc, e_L_law_p1 sc, e_L_law_p2 sc, e_L_law_p3 sc, e_L_law_p4 sc, e_L_law_p5 sc, e_L_law_p6 sc, lo_iload, lo_lload, lo_aload, lo_istore, lo_lstore, lo_iinc, lo_pushI, lo_pushL, lo_ii, lo_iid, lo_ll, lo_li, lo_lcmp, lo_i2l, lo_dup2, lo_goto, lo_if, lo_icmp, lq_iret_f, lq_iret_1, lq_iret_0, lq_iret_b, lq_lret, lq_bs, lq_bv, lq_bhv, lq_bhx, q_c8_0, q_c8_1, q_c8_2, q_c8_3, q_c8_4, q_set_0, q_set_1i, q_set_1r, q_set_1n, q_set_1N, q_set_s, q_set_1j, q_set_1l, q_set2_0, q_set2_1i, q_set2_1r, q_set2_1n, q_set2_s, q_if, zb_ite, cond_true, cond_false, List.getElem?_cons_zero, List.getElem?_cons_succ, Nat.reduceAdd, ↓hZ, a1, o1, o2, o3, l0, t1, t2, la, d8, m8, m30, f0, f1, Int32.reduceLT, Int32.reduceLE, Nat.reduceLeDiff, Nat.zero_le, Nat.le_refl, Nat.zero_add, if_true, if_false, zb_eq0, zb_eq1, zn_1, not_true_eq_false, not_false_eq_true, ite_true, ite_false, if_true, if_false, q_iret_0, q_iret_1, decide_true, decide_false, decide_not, zb_t, zb_f, z10, z01, cond_true, cond_false, Bool.and_true, Bool.true_and, Bool.and_false, Bool.false_and, Bool.not_true, Bool.not_false, true_and, and_true, false_and, and_false, true_or, or_true, false_or, or_false, Bool.true_eq_false, Bool.false_eq_true, eq_self, reduceCtorEq, Bool.or_true, Bool.true_or, Bool.or_false, Bool.false_or])
    · have t2 : (zn (ve A 1) ≤ zn (s + 1 + u)) = False := zn_le (a := ve A 1) (b := s + 1 + u) (by omega) (by omega) ▸ eq_false h2
      rw [show s + min (1 + u) (ve A 1 - s) = s + 1 + u by omega] at sB
      rw [sB] at o2
      (simp (decide := true) only [e_L_law_p0 sc, e_L_law_p1 sc, e_L_law_p2 sc, e_L_law_p3 sc, e_L_law_p4 sc, e_L_law_p5 sc, e_L_law_p6 sc, lo_iload, lo_lload, lo_aload, lo_istore, lo_lstore, lo_iinc, lo_pushI, lo_pushL, lo_ii, lo_iid, lo_ll, lo_li, lo_lcmp, lo_i2l, lo_dup2, lo_goto, lo_if, lo_icmp, lq_iret_f, lq_iret_1, lq_iret_0, lq_iret_b, lq_lret, lq_bs, lq_bv, lq_bhv, lq_bhx, q_c8_0, q_c8_1, q_c8_2, q_c8_3, q_c8_4, q_set_0, q_set_1i, q_set_1r, q_set_1n, q_set_1N, q_set_s, q_set_1j, q_set_1l, q_set2_0, q_set2_1i, q_set2_1r, q_set2_1n, q_set2_s, q_if, zb_ite, cond_true, cond_false, List.getElem?_cons_zero, List.getElem?_cons_succ, Nat.reduceAdd, ↓hZ, a1, o1, o2, o3, l0, t1, t2, la, d8, m8, m30, f0, f1, Int32.reduceLT, Int32.reduceLE, Nat.reduceLeDiff, Nat.zero_le, Nat.le_refl, Nat.zero_add, if_true, if_false, zb_eq0, zb_eq1, zn_1, not_true_eq_false, not_false_eq_true, ite_true, ite_false, if_true, if_false, q_iret_0, q_iret_1, decide_true, decide_false, decide_not, zb_t, zb_f, z10, z01, cond_true, cond_false, Bool.and_true, Bool.true_and, Bool.and_false, Bool.false_and, Bool.not_true, Bool.not_false, true_and, and_true, false_and, and_false, true_or, or_true, false_or, or_false, Bool.true_eq_false, Bool.false_eq_true, eq_self, reduceCtorEq, Bool.or_true, Bool.true_or, Bool.or_false, Bool.false_or])
  · have t1 : (zn q ≤ zn s) = False := lc.trans (eq_false h1)
    rw [if_pos (show zn s < zn q from Int32.not_le.mp t1.mp)] at sB
    rw [sB] at o2
    (simp (decide := true) only [e_L_law_p0 sc, e_L_law_p1 sc, e_L_law_p2 sc, e_L_law_p3 sc, e_L_law_p4 sc, e_L_law_p5 sc, e_L_law_p6 sc, lo_iload, lo_lload, lo_aload, lo_istore, lo_lstore, lo_iinc, lo_pushI, lo_pushL, lo_ii, lo_iid, lo_ll, lo_li, lo_lcmp, lo_i2l, lo_dup2, lo_goto, lo_if, lo_icmp, lq_iret_f, lq_iret_1, lq_iret_0, lq_iret_b, lq_lret, lq_bs, lq_bv, lq_bhv, lq_bhx, q_c8_0, q_c8_1, q_c8_2, q_c8_3, q_c8_4, q_set_0, q_set_1i, q_set_1r, q_set_1n, q_set_1N, q_set_s, q_set_1j, q_set_1l, q_set2_0, q_set2_1i, q_set2_1r, q_set2_1n, q_set2_s, q_if, zb_ite, cond_true, cond_false, List.getElem?_cons_zero, List.getElem?_cons_succ, Nat.reduceAdd, ↓hZ, a1, o1, o2, o3, l0, t1, d8, m8, m30, f0, f1, Int32.reduceLT, Int32.reduceLE, Nat.reduceLeDiff, Nat.zero_le, Nat.le_refl, Nat.zero_add, if_true, if_false, zb_eq0, zb_eq1, zn_1, not_true_eq_false, not_false_eq_true, ite_true, ite_false, if_true, if_false, q_iret_0, q_iret_1, decide_true, decide_false, decide_not, zb_t, zb_f, z10, z01, cond_true, cond_false, Bool.and_true, Bool.true_and, Bool.and_false, Bool.false_and, Bool.not_true, Bool.not_false, true_and, and_true, false_and, and_false, true_or, or_true, false_or, or_false, Bool.true_eq_false, Bool.false_eq_true, eq_self, reduceCtorEq, Bool.or_true, Bool.true_or, Bool.or_false, Bool.false_or])
end
end

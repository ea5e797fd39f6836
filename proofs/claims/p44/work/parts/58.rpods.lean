section
/-! REPLICATOR and JOBBER, in both -/
section
variable {A R : zzMd} {c o : Nat}
def rk3 (A : zzMd) (v : Nat) (x : Int32) : Int32 := if rd A v x 28 + 1 = 0 then 3 else if rd A v x 29 = 0 then 2 else 1
def ovr (A : zzMd) (v : Nat) (x : Int32) : Bool := decide (rd A v x 29 = 2) || decide (rd A v x 29 = 3)
theorem r_podSeg (H : rAt A R c) {n : Nat} (hn1 : n < nv A 1) {w : Int32} (d : owned A (3 + c) (zn n) 2 w = true) (q f b : Int32) (j6 j7 j8 : Option Int32) :
    zz_ev tX12_podOf 8 [some (.ref 0), some (.int w), some (.int q), some (.int f), some (.int b), some (.int (zn n)), zj j6, zj j7, zj j8] [] R =
    zz_ev tX12_podOf 93 [some (.ref 0), some (.int w), some (.int q), some (.int f), some (.int b), some (.int (zn n)), some (.int (rk3 A (3 + c) (zn n))), some (.int (zb (ovr A (3 + c) (zn n)))), zj j8] [.int q] R := by
  have hn := rl_n60 H.1
  have n5 := H.1.2.1.1.2
  have h60 := lt_n60 H.1 hn1
  have hc := zk_in (i := n) (n := nv A 1) hn1 hn
  have ho := r_owned H h60 2 w
  obtain ⟨-, -, -, -, v15, v16⟩ := r_vw H (own_seen H h60 d)
  have s1 : zz_ev tX12_podOf 8 [some (.ref 0), some (.int w), some (.int q), some (.int f), some (.int b), some (.int (zn n)), zj j6, zj j7, zj j8] [] R =
      zz_ev tX12_podOf 62 [some (.ref 0), some (.int w), some (.int q), some (.int f), some (.int b), some (.int (zn n)), some (.int (rk3 A (3 + c) (zn n))), zj j7, zj j8] [.ref 0] R := by
    unfold rk3
    generalize hZ : (fun r : Int32 => zz_ev tX12_podOf 62 [some (.ref 0), some (.int w), some (.int q), some (.int f), some (.int b), some (.int (zn n)), some (.int r), zj j7, zj j8] [.ref 0] R) = Z
    have hZ' : ∀ r : Int32, zz_ev tX12_podOf 62 [some (.ref 0), some (.int w), some (.int q), some (.int f), some (.int b), some (.int (zn n)), some (.int r), zj j7, zj j8] [.ref 0] R = Z r := fun r => by rw [← hZ]
    rw [hZ']
    clear hZ
    by_cases d1 : rd A (3 + c) (zn n) 28 + 1 = 0
    · rw [if_pos d1]
      (rw [e_X12_podOf_8]; simp only [e_X12_podOf, zo_iload, zo_lload, zo_aload, zo_istore, zo_lstore, zo_astore, zo_iinc, zo_pushI, zo_pushL, zo_null, zo_ii, zo_iid, zo_ll, zo_li, zo_lcmp, zo_i2l, zo_l2i, zo_dup, zo_dup2, zo_pop, zo_goto, zo_if, zo_icmp, zo_ifnull, zo_gets, zo_mm, zo_throw, zo_ret, zo_aret, zo_lret, q_iret_f, q_iret_1, q_iret_0, q_iret_b, q_c8_0, q_c8_1, q_c8_2, q_c8_3, q_c8_4, q_set_0, q_set_1i, q_set_1r, q_set_1n, q_set_1N, q_set_s, q_set_1j, q_bk_v, q_bk_n, q_if, zb_ite, cond_true, cond_false, List.getElem?_cons_zero, List.getElem?_cons_succ, Nat.reduceAdd, q_set_1l, q_set2_0, q_set2_1i, q_set2_1r, q_set2_1n, q_set2_s, ↓hZ', n5, hc, ho, d, v15, d1, if_true, if_false, zb_eq0, zb_eq1, zn_1, not_true_eq_false, not_false_eq_true, ite_true, ite_false, if_true, if_false, q_iret_0, q_iret_1, decide_true, decide_false, decide_not, zb_t, zb_f, z10, z01, cond_true, cond_false, Bool.and_true, Bool.true_and, Bool.and_false, Bool.false_and, Bool.not_true, Bool.not_false, true_and, and_true, false_and, and_false, true_or, or_true, false_or, or_false, Bool.true_eq_false, Bool.false_eq_true, eq_self, reduceCtorEq, Bool.or_true, Bool.true_or, Bool.or_false, Bool.false_or])
    · rw [if_neg d1]
      by_cases d2 : rd A (3 + c) (zn n) 29 = 0
      · rw [if_pos d2]
        (rw [e_X12_podOf_8]; simp only [e_X12_podOf, zo_iload, zo_lload, zo_aload, zo_istore, zo_lstore, zo_astore, zo_iinc, zo_pushI, zo_pushL, zo_null, zo_ii, zo_iid, zo_ll, zo_li, zo_lcmp, zo_i2l, zo_l2i, zo_dup, zo_dup2, zo_pop, zo_goto, zo_if, zo_icmp, zo_ifnull, zo_gets, zo_mm, zo_throw, zo_ret, zo_aret, zo_lret, q_iret_f, q_iret_1, q_iret_0, q_iret_b, q_c8_0, q_c8_1, q_c8_2, q_c8_3, q_c8_4, q_set_0, q_set_1i, q_set_1r, q_set_1n, q_set_1N, q_set_s, q_set_1j, q_bk_v, q_bk_n, q_if, zb_ite, cond_true, cond_false, List.getElem?_cons_zero, List.getElem?_cons_succ, Nat.reduceAdd, q_set_1l, q_set2_0, q_set2_1i, q_set2_1r, q_set2_1n, q_set2_s, ↓hZ', n5, hc, ho, d, v15, d1, v16, d2, if_true, if_false, zb_eq0, zb_eq1, zn_1, not_true_eq_false, not_false_eq_true, ite_true, ite_false, if_true, if_false, q_iret_0, q_iret_1, decide_true, decide_false, decide_not, zb_t, zb_f, z10, z01, cond_true, cond_false, Bool.and_true, Bool.true_and, Bool.and_false, Bool.false_and, Bool.not_true, Bool.not_false, true_and, and_true, false_and, and_false, true_or, or_true, false_or, or_false, Bool.true_eq_false, Bool.false_eq_true, eq_self, reduceCtorEq, Bool.or_true, Bool.true_or, Bool.or_false, Bool.false_or])
      · rw [if_neg d2]
        (rw [e_X12_podOf_8]; simp only [e_X12_podOf, zo_iload, zo_lload, zo_aload, zo_istore, zo_lstore, zo_astore, zo_iinc, zo_pushI, zo_pushL, zo_null, zo_ii, zo_iid, zo_ll, zo_li, zo_lcmp, zo_i2l, zo_l2i, zo_dup, zo_dup2, zo_pop, zo_goto, zo_if, zo_icmp, zo_ifnull, zo_gets, zo_mm, zo_throw, zo_ret, zo_aret, zo_lret, q_iret_f, q_iret_1, q_iret_0, q_iret_b, q_c8_0, q_c8_1, q_c8_2, q_c8_3, q_c8_4, q_set_0, q_set_1i, q_set_1r, q_set_1n, q_set_1N, q_set_s, q_set_1j, q_bk_v, q_bk_n, q_if, zb_ite, cond_true, cond_false, List.getElem?_cons_zero, List.getElem?_cons_succ, Nat.reduceAdd, q_set_1l, q_set2_0, q_set2_1i, q_set2_1r, q_set2_1n, q_set2_s, ↓hZ', n5, hc, ho, d, v15, d1, v16, d2, if_true, if_false, zb_eq0, zb_eq1, zn_1, not_true_eq_false, not_false_eq_true, ite_true, ite_false, if_true, if_false, q_iret_0, q_iret_1, decide_true, decide_false, decide_not, zb_t, zb_f, z10, z01, cond_true, cond_false, Bool.and_true, Bool.true_and, Bool.and_false, Bool.false_and, Bool.not_true, Bool.not_false, true_and, and_true, false_and, and_false, true_or, or_true, false_or, or_false, Bool.true_eq_false, Bool.false_eq_true, eq_self, reduceCtorEq, Bool.or_true, Bool.true_or, Bool.or_false, Bool.false_or])
  rw [s1]
  unfold ovr
  generalize rk3 A (3 + c) (zn n) = r6
  generalize hZ : (fun r : Int32 => zz_ev tX12_podOf 93 [some (.ref 0), some (.int w), some (.int q), some (.int f), some (.int b), some (.int (zn n)), some (.int r6), some (.int r), zj j8] [.int q] R) = Z
  have hZ' : ∀ r : Int32, zz_ev tX12_podOf 93 [some (.ref 0), some (.int w), some (.int q), some (.int f), some (.int b), some (.int (zn n)), some (.int r6), some (.int r), zj j8] [.int q] R = Z r := fun r => by rw [← hZ]
  rw [hZ']
  clear hZ
  by_cases d1 : rd A (3 + c) (zn n) 29 = 2
  · (simp only [e_X12_podOf, zo_iload, zo_lload, zo_aload, zo_istore, zo_lstore, zo_astore, zo_iinc, zo_pushI, zo_pushL, zo_null, zo_ii, zo_iid, zo_ll, zo_li, zo_lcmp, zo_i2l, zo_l2i, zo_dup, zo_dup2, zo_pop, zo_goto, zo_if, zo_icmp, zo_ifnull, zo_gets, zo_mm, zo_throw, zo_ret, zo_aret, zo_lret, q_iret_f, q_iret_1, q_iret_0, q_iret_b, q_c8_0, q_c8_1, q_c8_2, q_c8_3, q_c8_4, q_set_0, q_set_1i, q_set_1r, q_set_1n, q_set_1N, q_set_s, q_set_1j, q_bk_v, q_bk_n, q_if, zb_ite, cond_true, cond_false, List.getElem?_cons_zero, List.getElem?_cons_succ, Nat.reduceAdd, q_set_1l, q_set2_0, q_set2_1i, q_set2_1r, q_set2_1n, q_set2_s, ↓hZ', v16, d1, if_true, if_false, zb_eq0, zb_eq1, zn_1, not_true_eq_false, not_false_eq_true, ite_true, ite_false, if_true, if_false, q_iret_0, q_iret_1, decide_true, decide_false, decide_not, zb_t, zb_f, z10, z01, cond_true, cond_false, Bool.and_true, Bool.true_and, Bool.and_false, Bool.false_and, Bool.not_true, Bool.not_false, true_and, and_true, false_and, and_false, true_or, or_true, false_or, or_false, Bool.true_eq_false, Bool.false_eq_true, eq_self, reduceCtorEq, Bool.or_true, Bool.true_or, Bool.or_false, Bool.false_or])
  · by_cases d2 : rd A (3 + c) (zn n) 29 = 3
    · have n32 : ((3 : Int32) = 2) = False := eq_false (by decide)
      (simp only [e_X12_podOf, zo_iload, zo_lload, zo_aload, zo_istore, zo_lstore, zo_astore, zo_iinc, zo_pushI, zo_pushL, zo_null, zo_ii, zo_iid, zo_ll, zo_li, zo_lcmp, zo_i2l, zo_l2i, zo_dup, zo_dup2, zo_pop, zo_goto, zo_if, zo_icmp, zo_ifnull, zo_gets, zo_mm, zo_throw, zo_ret, zo_aret, zo_lret, q_iret_f, q_iret_1, q_iret_0, q_iret_b, q_c8_0, q_c8_1, q_c8_2, q_c8_3, q_c8_4, q_set_0, q_set_1i, q_set_1r, q_set_1n, q_set_1N, q_set_s, q_set_1j, q_bk_v, q_bk_n, q_if, zb_ite, cond_true, cond_false, List.getElem?_cons_zero, List.getElem?_cons_succ, Nat.reduceAdd, q_set_1l, q_set2_0, q_set2_1i, q_set2_1r, q_set2_1n, q_set2_s, ↓hZ', v16, d2, n32, if_true, if_false, zb_eq0, zb_eq1, zn_1, not_true_eq_false, not_false_eq_true, ite_true, ite_false, if_true, if_false, q_iret_0, q_iret_1, decide_true, decide_false, decide_not, zb_t, zb_f, z10, z01, cond_true, cond_false, Bool.and_true, Bool.true_and, Bool.and_false, Bool.false_and, Bool.not_true, Bool.not_false, true_and, and_true, false_and, and_false, true_or, or_true, false_or, or_false, Bool.true_eq_false, Bool.false_eq_true, eq_self, reduceCtorEq, Bool.or_true, Bool.true_or, Bool.or_false, Bool.false_or])
    · (simp only [e_X12_podOf, zo_iload, zo_lload, zo_aload, zo_istore, zo_lstore, zo_astore, zo_iinc, zo_pushI, zo_pushL, zo_null, zo_ii, zo_iid, zo_ll, zo_li, zo_lcmp, zo_i2l, zo_l2i, zo_dup, zo_dup2, zo_pop, zo_goto, zo_if, zo_icmp, zo_ifnull, zo_gets, zo_mm, zo_throw, zo_ret, zo_aret, zo_lret, q_iret_f, q_iret_1, q_iret_0, q_iret_b, q_c8_0, q_c8_1, q_c8_2, q_c8_3, q_c8_4, q_set_0, q_set_1i, q_set_1r, q_set_1n, q_set_1N, q_set_s, q_set_1j, q_bk_v, q_bk_n, q_if, zb_ite, cond_true, cond_false, List.getElem?_cons_zero, List.getElem?_cons_succ, Nat.reduceAdd, q_set_1l, q_set2_0, q_set2_1i, q_set2_1r, q_set2_1n, q_set2_s, ↓hZ', v16, d1, d2, if_true, if_false, zb_eq0, zb_eq1, zn_1, not_true_eq_false, not_false_eq_true, ite_true, ite_false, if_true, if_false, q_iret_0, q_iret_1, decide_true, decide_false, decide_not, zb_t, zb_f, z10, z01, cond_true, cond_false, Bool.and_true, Bool.true_and, Bool.and_false, Bool.false_and, Bool.not_true, Bool.not_false, true_and, and_true, false_and, and_false, true_or, or_true, false_or, or_false, Bool.true_eq_false, Bool.false_eq_true, eq_self, reduceCtorEq, Bool.or_true, Bool.true_or, Bool.or_false, Bool.false_or])
theorem zfst_skip {P : Nat → Bool} {n : Nat} (h : P n = false) : zfst (n + 1) P = zfst n P := by
  rw [zfst_s, h]
  cases zfst n P <;> rfl
theorem r_podOf0 (H : rAt A R c) (w : Int32) : fX12_podOf [.ref 0, .int w, .int 0] R = some (.inl (some (.int (zoi (ovP A (3 + c) w)))), R) := by
  have hn := rl_n60 H.1
  have n5 := H.1.2.1.1.2
  have main : ∀ n, n ≤ nv A 1 → ∃ (b : Int32) (j6 j7 j8 : Option Int32), fX12_podOf [.ref 0, .int w, .int 0] R = zz_ev tX12_podOf 8 [some (.ref 0), some (.int w), some (.int 0), some (.int (zoi (zfst n fun i => owned A (3 + c) (zn i) 2 w && ovr A (3 + c) (zn i)))), some (.int b), some (.int (zn n)), zj j6, zj j7, zj j8] [] R := by
    intro n
    induction n with
    | zero =>
      intro _
      refine ⟨0, none, none, none, ?_⟩
      rw [s_X12_podOf]
      (simp only [e_X12_podOf, zo_iload, zo_lload, zo_aload, zo_istore, zo_lstore, zo_astore, zo_iinc, zo_pushI, zo_pushL, zo_null, zo_ii, zo_iid, zo_ll, zo_li, zo_lcmp, zo_i2l, zo_l2i, zo_dup, zo_dup2, zo_pop, zo_goto, zo_if, zo_icmp, zo_ifnull, zo_gets, zo_mm, zo_throw, zo_ret, zo_aret, zo_lret, q_iret_f, q_iret_1, q_iret_0, q_iret_b, q_c8_0, q_c8_1, q_c8_2, q_c8_3, q_c8_4, q_set_0, q_set_1i, q_set_1r, q_set_1n, q_set_1N, q_set_s, q_set_1j, q_bk_v, q_bk_n, q_if, zb_ite, cond_true, cond_false, List.getElem?_cons_zero, List.getElem?_cons_succ, Nat.reduceAdd, q_set_1l, q_set2_0, q_set2_1i, q_set2_1r, q_set2_1n, q_set2_s, if_true, if_false, zb_eq0, zb_eq1, zn_1, not_true_eq_false, not_false_eq_true, ite_true, ite_false, if_true, if_false, q_iret_0, q_iret_1, decide_true, decide_false, decide_not, zb_t, zb_f, z10, z01, cond_true, cond_false, Bool.and_true, Bool.true_and, Bool.and_false, Bool.false_and, Bool.not_true, Bool.not_false, true_and, and_true, false_and, and_false, true_or, or_true, false_or, or_false, Bool.true_eq_false, Bool.false_eq_true, eq_self, reduceCtorEq, Bool.or_true, Bool.true_or, Bool.or_false, Bool.false_or])
      rfl
    | succ n ih =>
      intro hn1
      obtain ⟨b, j6, j7, j8, e1⟩ := ih (by omega)
      have h60 := lt_n60 H.1 (show n < nv A 1 by omega)
      have hc := zk_in (i := n) (n := nv A 1) (by omega) hn
      have ho := r_owned H h60 2 w
      rw [e1]
      cases d : owned A (3 + c) (zn n) 2 w
      · refine ⟨b, j6, j7, j8, ?_⟩
        rw [zfst_skip (P := fun i => owned A (3 + c) (zn i) 2 w && ovr A (3 + c) (zn i)) (show (owned A (3 + c) (zn n) 2 w && ovr A (3 + c) (zn n)) = false by rw [d]; rfl)]
        generalize zoi (zfst n (fun i => owned A (3 + c) (zn i) 2 w && ovr A (3 + c) (zn i))) = f
        (rw [e_X12_podOf_8]; simp only [e_X12_podOf, zo_iload, zo_lload, zo_aload, zo_istore, zo_lstore, zo_astore, zo_iinc, zo_pushI, zo_pushL, zo_null, zo_ii, zo_iid, zo_ll, zo_li, zo_lcmp, zo_i2l, zo_l2i, zo_dup, zo_dup2, zo_pop, zo_goto, zo_if, zo_icmp, zo_ifnull, zo_gets, zo_mm, zo_throw, zo_ret, zo_aret, zo_lret, q_iret_f, q_iret_1, q_iret_0, q_iret_b, q_c8_0, q_c8_1, q_c8_2, q_c8_3, q_c8_4, q_set_0, q_set_1i, q_set_1r, q_set_1n, q_set_1N, q_set_s, q_set_1j, q_bk_v, q_bk_n, q_if, zb_ite, cond_true, cond_false, List.getElem?_cons_zero, List.getElem?_cons_succ, Nat.reduceAdd, q_set_1l, q_set2_0, q_set2_1i, q_set2_1r, q_set2_1n, q_set2_s, n5, hc, ho, d, if_true, if_false, zb_eq0, zb_eq1, zn_1, not_true_eq_false, not_false_eq_true, ite_true, ite_false, if_true, if_false, q_iret_0, q_iret_1, decide_true, decide_false, decide_not, zb_t, zb_f, z10, z01, cond_true, cond_false, Bool.and_true, Bool.true_and, Bool.and_false, Bool.false_and, Bool.not_true, Bool.not_false, true_and, and_true, false_and, and_false, true_or, or_true, false_or, or_false, Bool.true_eq_false, Bool.false_eq_true, eq_self, reduceCtorEq, Bool.or_true, Bool.true_or, Bool.or_false, Bool.false_or])
      · rw [r_podSeg H (by omega) d, zfst_s]
        generalize rk3 A (3 + c) (zn n) = r6
        cases hz : zfst n (fun i => owned A (3 + c) (zn i) 2 w && ovr A (3 + c) (zn i)) with
        | some k =>
          have km2 : (zn k = -1) = False := zn_m1 (by have := (zfst_some hz).1; omega)
          generalize ovr A (3 + c) (zn n) = ov
          refine ⟨b, some r6, some (zb ov), some 0, ?_⟩
          cases ov <;> (simp only [e_X12_podOf, zo_iload, zo_lload, zo_aload, zo_istore, zo_lstore, zo_astore, zo_iinc, zo_pushI, zo_pushL, zo_null, zo_ii, zo_iid, zo_ll, zo_li, zo_lcmp, zo_i2l, zo_l2i, zo_dup, zo_dup2, zo_pop, zo_goto, zo_if, zo_icmp, zo_ifnull, zo_gets, zo_mm, zo_throw, zo_ret, zo_aret, zo_lret, q_iret_f, q_iret_1, q_iret_0, q_iret_b, q_c8_0, q_c8_1, q_c8_2, q_c8_3, q_c8_4, q_set_0, q_set_1i, q_set_1r, q_set_1n, q_set_1N, q_set_s, q_set_1j, q_bk_v, q_bk_n, q_if, zb_ite, cond_true, cond_false, List.getElem?_cons_zero, List.getElem?_cons_succ, Nat.reduceAdd, q_set_1l, q_set2_0, q_set2_1i, q_set2_1r, q_set2_1n, q_set2_s, zoi, km2, zj_some, zb_t, zb_f, if_true, if_false, zb_eq0, zb_eq1, zn_1, not_true_eq_false, not_false_eq_true, ite_true, ite_false, if_true, if_false, q_iret_0, q_iret_1, decide_true, decide_false, decide_not, zb_t, zb_f, z10, z01, cond_true, cond_false, Bool.and_true, Bool.true_and, Bool.and_false, Bool.false_and, Bool.not_true, Bool.not_false, true_and, and_true, false_and, and_false, true_or, or_true, false_or, or_false, Bool.true_eq_false, Bool.false_eq_true, eq_self, reduceCtorEq, Bool.or_true, Bool.true_or, Bool.or_false, Bool.false_or])
        | none =>
          cases ov : ovr A (3 + c) (zn n)
          · refine ⟨b, some r6, some 0, some 0, ?_⟩
            (simp only [e_X12_podOf, zo_iload, zo_lload, zo_aload, zo_istore, zo_lstore, zo_astore, zo_iinc, zo_pushI, zo_pushL, zo_null, zo_ii, zo_iid, zo_ll, zo_li, zo_lcmp, zo_i2l, zo_l2i, zo_dup, zo_dup2, zo_pop, zo_goto, zo_if, zo_icmp, zo_ifnull, zo_gets, zo_mm, zo_throw, zo_ret, zo_aret, zo_lret, q_iret_f, q_iret_1, q_iret_0, q_iret_b, q_c8_0, q_c8_1, q_c8_2, q_c8_3, q_c8_4, q_set_0, q_set_1i, q_set_1r, q_set_1n, q_set_1N, q_set_s, q_set_1j, q_bk_v, q_bk_n, q_if, zb_ite, cond_true, cond_false, List.getElem?_cons_zero, List.getElem?_cons_succ, Nat.reduceAdd, q_set_1l, q_set2_0, q_set2_1i, q_set2_1r, q_set2_1n, q_set2_s, zoi, zj_some, if_true, if_false, zb_eq0, zb_eq1, zn_1, not_true_eq_false, not_false_eq_true, ite_true, ite_false, if_true, if_false, q_iret_0, q_iret_1, decide_true, decide_false, decide_not, zb_t, zb_f, z10, z01, cond_true, cond_false, Bool.and_true, Bool.true_and, Bool.and_false, Bool.false_and, Bool.not_true, Bool.not_false, true_and, and_true, false_and, and_false, true_or, or_true, false_or, or_false, Bool.true_eq_false, Bool.false_eq_true, eq_self, reduceCtorEq, Bool.or_true, Bool.true_or, Bool.or_false, Bool.false_or])
          · refine ⟨r6, some r6, some 1, some 1, ?_⟩
            (simp only [e_X12_podOf, zo_iload, zo_lload, zo_aload, zo_istore, zo_lstore, zo_astore, zo_iinc, zo_pushI, zo_pushL, zo_null, zo_ii, zo_iid, zo_ll, zo_li, zo_lcmp, zo_i2l, zo_l2i, zo_dup, zo_dup2, zo_pop, zo_goto, zo_if, zo_icmp, zo_ifnull, zo_gets, zo_mm, zo_throw, zo_ret, zo_aret, zo_lret, q_iret_f, q_iret_1, q_iret_0, q_iret_b, q_c8_0, q_c8_1, q_c8_2, q_c8_3, q_c8_4, q_set_0, q_set_1i, q_set_1r, q_set_1n, q_set_1N, q_set_s, q_set_1j, q_bk_v, q_bk_n, q_if, zb_ite, cond_true, cond_false, List.getElem?_cons_zero, List.getElem?_cons_succ, Nat.reduceAdd, q_set_1l, q_set2_0, q_set2_1i, q_set2_1r, q_set2_1n, q_set2_s, d, zoi, zj_some, if_true, if_false, zb_eq0, zb_eq1, zn_1, not_true_eq_false, not_false_eq_true, ite_true, ite_false, if_true, if_false, q_iret_0, q_iret_1, decide_true, decide_false, decide_not, zb_t, zb_f, z10, z01, cond_true, cond_false, Bool.and_true, Bool.true_and, Bool.and_false, Bool.false_and, Bool.not_true, Bool.not_false, true_and, and_true, false_and, and_false, true_or, or_true, false_or, or_false, Bool.true_eq_false, Bool.false_eq_true, eq_self, reduceCtorEq, Bool.or_true, Bool.true_or, Bool.or_false, Bool.false_or])
  obtain ⟨b, j6, j7, j8, e1⟩ := main (nv A 1) (Nat.le_refl _)
  have ev : zfst (nv A 1) (fun i => owned A (3 + c) (zn i) 2 w && ovr A (3 + c) (zn i)) = ovP A (3 + c) w := zfst_ext (rv_nv H) fun i h1 h2 => by rw [own_un H (lt_n60 H.1 h2) (by omega), Bool.false_and]
  rw [e1, ev]
  have hc := zk_out hn
  (rw [e_X12_podOf_8]; simp only [e_X12_podOf, zo_iload, zo_lload, zo_aload, zo_istore, zo_lstore, zo_astore, zo_iinc, zo_pushI, zo_pushL, zo_null, zo_ii, zo_iid, zo_ll, zo_li, zo_lcmp, zo_i2l, zo_l2i, zo_dup, zo_dup2, zo_pop, zo_goto, zo_if, zo_icmp, zo_ifnull, zo_gets, zo_mm, zo_throw, zo_ret, zo_aret, zo_lret, q_iret_f, q_iret_1, q_iret_0, q_iret_b, q_c8_0, q_c8_1, q_c8_2, q_c8_3, q_c8_4, q_set_0, q_set_1i, q_set_1r, q_set_1n, q_set_1N, q_set_s, q_set_1j, q_bk_v, q_bk_n, q_if, zb_ite, cond_true, cond_false, List.getElem?_cons_zero, List.getElem?_cons_succ, Nat.reduceAdd, q_set_1l, q_set2_0, q_set2_1i, q_set2_1r, q_set2_1n, q_set2_s, n5, hc, if_true, if_false, zb_eq0, zb_eq1, zn_1, not_true_eq_false, not_false_eq_true, ite_true, ite_false, if_true, if_false, q_iret_0, q_iret_1, decide_true, decide_false, decide_not, zb_t, zb_f, z10, z01, cond_true, cond_false, Bool.and_true, Bool.true_and, Bool.and_false, Bool.false_and, Bool.not_true, Bool.not_false, true_and, and_true, false_and, and_false, true_or, or_true, false_or, or_false, Bool.true_eq_false, Bool.false_eq_true, eq_self, reduceCtorEq, Bool.or_true, Bool.true_or, Bool.or_false, Bool.false_or])
theorem ptm_2 (A : zzMd) (v : Nat) (w : Int32) : ∀ n, (ptm A v w n).2 = -1 ∨ (ptm A v w n).2 = 0 ∨ (ptm A v w n).2 = 1 ∨ (ptm A v w n).2 = 2
  | 0 => Or.inl rfl
  | n + 1 => by
    rw [ptm_s]
    cases owned A v (zn n) 2 w && !decide (rankP A v (zn n) < (ptm A v w n).2)
    · exact ptm_2 A v w n
    · show rankP A v (zn n) = -1 ∨ rankP A v (zn n) = 0 ∨ rankP A v (zn n) = 1 ∨ rankP A v (zn n) = 2
      unfold rankP
      split
      · exact Or.inr (Or.inr (Or.inr rfl))
      · split
        · exact Or.inr (Or.inr (Or.inl rfl))
        · exact Or.inr (Or.inl rfl)
theorem ptm_ext (H : rAt A R c) (w : Int32) : ∀ n, nv A (3 + c) ≤ n → n ≤ nv A 1 → ptm A (3 + c) w n = ptm A (3 + c) w (nv A (3 + c))
  | 0, h, _ => by rw [Nat.le_zero.mp h]
  | n + 1, h, h2 => by
    rcases Nat.lt_or_eq_of_le h with h1 | h1
    · rw [ptm_s, own_un H (lt_n60 H.1 (show n < nv A 1 by omega)) (by omega), Bool.false_and, cond_false]
      exact ptm_ext H w n (by omega) (by omega)
    · rw [h1]
theorem r_podOf1 (H : rAt A R c) (w : Int32) : fX12_podOf [.ref 0, .int w, .int 1] R = some (.inl (some (.int (ptm A (3 + c) w (nv A (3 + c))).1)), R) := by
  have hn := rl_n60 H.1
  have n5 := H.1.2.1.1.2
  have n10 : ((1 : Int32) = 0) = False := eq_false (by decide)
  have main : ∀ n, n ≤ nv A 1 → ∃ (j6 j7 j8 : Option Int32), fX12_podOf [.ref 0, .int w, .int 1] R = zz_ev tX12_podOf 8 [some (.ref 0), some (.int w), some (.int 1), some (.int (ptm A (3 + c) w n).1), some (.int ((ptm A (3 + c) w n).2 + 1)), some (.int (zn n)), zj j6, zj j7, zj j8] [] R := by
    intro n
    induction n with
    | zero =>
      intro _
      refine ⟨none, none, none, ?_⟩
      rw [s_X12_podOf]
      rw [show (ptm A (3 + c) w 0).2 + 1 = 0 from (by decide : (-1 : Int32) + 1 = 0)]
      (simp only [e_X12_podOf, zo_iload, zo_lload, zo_aload, zo_istore, zo_lstore, zo_astore, zo_iinc, zo_pushI, zo_pushL, zo_null, zo_ii, zo_iid, zo_ll, zo_li, zo_lcmp, zo_i2l, zo_l2i, zo_dup, zo_dup2, zo_pop, zo_goto, zo_if, zo_icmp, zo_ifnull, zo_gets, zo_mm, zo_throw, zo_ret, zo_aret, zo_lret, q_iret_f, q_iret_1, q_iret_0, q_iret_b, q_c8_0, q_c8_1, q_c8_2, q_c8_3, q_c8_4, q_set_0, q_set_1i, q_set_1r, q_set_1n, q_set_1N, q_set_s, q_set_1j, q_bk_v, q_bk_n, q_if, zb_ite, cond_true, cond_false, List.getElem?_cons_zero, List.getElem?_cons_succ, Nat.reduceAdd, q_set_1l, q_set2_0, q_set2_1i, q_set2_1r, q_set2_1n, q_set2_s, if_true, if_false, zb_eq0, zb_eq1, zn_1, not_true_eq_false, not_false_eq_true, ite_true, ite_false, if_true, if_false, q_iret_0, q_iret_1, decide_true, decide_false, decide_not, zb_t, zb_f, z10, z01, cond_true, cond_false, Bool.and_true, Bool.true_and, Bool.and_false, Bool.false_and, Bool.not_true, Bool.not_false, true_and, and_true, false_and, and_false, true_or, or_true, false_or, or_false, Bool.true_eq_false, Bool.false_eq_true, eq_self, reduceCtorEq, Bool.or_true, Bool.true_or, Bool.or_false, Bool.false_or])
      rfl
    | succ n ih =>
      intro hn1
      obtain ⟨j6, j7, j8, e1⟩ := ih (by omega)
      have h60 := lt_n60 H.1 (show n < nv A 1 by omega)
      have hc := zk_in (i := n) (n := nv A 1) (by omega) hn
      have ho := r_owned H h60 2 w
      rw [e1, ptm_s]
      cases d : owned A (3 + c) (zn n) 2 w
      · refine ⟨j6, j7, j8, ?_⟩
        simp only [Bool.false_and, cond_false]
        (rw [e_X12_podOf_8]; simp only [e_X12_podOf, zo_iload, zo_lload, zo_aload, zo_istore, zo_lstore, zo_astore, zo_iinc, zo_pushI, zo_pushL, zo_null, zo_ii, zo_iid, zo_ll, zo_li, zo_lcmp, zo_i2l, zo_l2i, zo_dup, zo_dup2, zo_pop, zo_goto, zo_if, zo_icmp, zo_ifnull, zo_gets, zo_mm, zo_throw, zo_ret, zo_aret, zo_lret, q_iret_f, q_iret_1, q_iret_0, q_iret_b, q_c8_0, q_c8_1, q_c8_2, q_c8_3, q_c8_4, q_set_0, q_set_1i, q_set_1r, q_set_1n, q_set_1N, q_set_s, q_set_1j, q_bk_v, q_bk_n, q_if, zb_ite, cond_true, cond_false, List.getElem?_cons_zero, List.getElem?_cons_succ, Nat.reduceAdd, q_set_1l, q_set2_0, q_set2_1i, q_set2_1r, q_set2_1n, q_set2_s, n5, hc, ho, d, if_true, if_false, zb_eq0, zb_eq1, zn_1, not_true_eq_false, not_false_eq_true, ite_true, ite_false, if_true, if_false, q_iret_0, q_iret_1, decide_true, decide_false, decide_not, zb_t, zb_f, z10, z01, cond_true, cond_false, Bool.and_true, Bool.true_and, Bool.and_false, Bool.false_and, Bool.not_true, Bool.not_false, true_and, and_true, false_and, and_false, true_or, or_true, false_or, or_false, Bool.true_eq_false, Bool.false_eq_true, eq_self, reduceCtorEq, Bool.or_true, Bool.true_or, Bool.or_false, Bool.false_or])
      · rw [r_podSeg H (by omega) d]
        have er : rk3 A (3 + c) (zn n) = rankP A (3 + c) (zn n) + 1 := by
          unfold rk3 rankP
          simp only [p1_eq]
          split
          · rfl
          · split <;> rfl
        have hlt : (rk3 A (3 + c) (zn n) < (ptm A (3 + c) w n).2 + 1) = (rankP A (3 + c) (zn n) < (ptm A (3 + c) w n).2) := by
          rw [er]
          have h1 : rankP A (3 + c) (zn n) = 0 ∨ rankP A (3 + c) (zn n) = 1 ∨ rankP A (3 + c) (zn n) = 2 := by
            unfold rankP
            split
            · exact Or.inr (Or.inr rfl)
            · split
              · exact Or.inr (Or.inl rfl)
              · exact Or.inl rfl
          rcases h1 with h1 | h1 | h1 <;> rcases ptm_2 A (3 + c) w n with h2 | h2 | h2 | h2 <;> rw [h1, h2] <;> decide
        generalize ovr A (3 + c) (zn n) = ov
        by_cases d2 : rankP A (3 + c) (zn n) < (ptm A (3 + c) w n).2
        · refine ⟨some (rk3 A (3 + c) (zn n)), some (zb ov), some 0, ?_⟩
          rw [decide_eq_true d2]
          simp only [Bool.not_true, Bool.and_false, cond_false]
          (simp only [e_X12_podOf, zo_iload, zo_lload, zo_aload, zo_istore, zo_lstore, zo_astore, zo_iinc, zo_pushI, zo_pushL, zo_null, zo_ii, zo_iid, zo_ll, zo_li, zo_lcmp, zo_i2l, zo_l2i, zo_dup, zo_dup2, zo_pop, zo_goto, zo_if, zo_icmp, zo_ifnull, zo_gets, zo_mm, zo_throw, zo_ret, zo_aret, zo_lret, q_iret_f, q_iret_1, q_iret_0, q_iret_b, q_c8_0, q_c8_1, q_c8_2, q_c8_3, q_c8_4, q_set_0, q_set_1i, q_set_1r, q_set_1n, q_set_1N, q_set_s, q_set_1j, q_bk_v, q_bk_n, q_if, zb_ite, cond_true, cond_false, List.getElem?_cons_zero, List.getElem?_cons_succ, Nat.reduceAdd, q_set_1l, q_set2_0, q_set2_1i, q_set2_1r, q_set2_1n, q_set2_s, n10, hlt, d2, zj_some, if_true, if_false, zb_eq0, zb_eq1, zn_1, not_true_eq_false, not_false_eq_true, ite_true, ite_false, if_true, if_false, q_iret_0, q_iret_1, decide_true, decide_false, decide_not, zb_t, zb_f, z10, z01, cond_true, cond_false, Bool.and_true, Bool.true_and, Bool.and_false, Bool.false_and, Bool.not_true, Bool.not_false, true_and, and_true, false_and, and_false, true_or, or_true, false_or, or_false, Bool.true_eq_false, Bool.false_eq_true, eq_self, reduceCtorEq, Bool.or_true, Bool.true_or, Bool.or_false, Bool.false_or])
        · refine ⟨some (rk3 A (3 + c) (zn n)), some (zb ov), some 1, ?_⟩
          rw [decide_eq_false d2]
          simp only [Bool.not_false, Bool.and_self, cond_true]
          rw [← er]
          (simp only [e_X12_podOf, zo_iload, zo_lload, zo_aload, zo_istore, zo_lstore, zo_astore, zo_iinc, zo_pushI, zo_pushL, zo_null, zo_ii, zo_iid, zo_ll, zo_li, zo_lcmp, zo_i2l, zo_l2i, zo_dup, zo_dup2, zo_pop, zo_goto, zo_if, zo_icmp, zo_ifnull, zo_gets, zo_mm, zo_throw, zo_ret, zo_aret, zo_lret, q_iret_f, q_iret_1, q_iret_0, q_iret_b, q_c8_0, q_c8_1, q_c8_2, q_c8_3, q_c8_4, q_set_0, q_set_1i, q_set_1r, q_set_1n, q_set_1N, q_set_s, q_set_1j, q_bk_v, q_bk_n, q_if, zb_ite, cond_true, cond_false, List.getElem?_cons_zero, List.getElem?_cons_succ, Nat.reduceAdd, q_set_1l, q_set2_0, q_set2_1i, q_set2_1r, q_set2_1n, q_set2_s, n10, hlt, d2, zj_some, if_true, if_false, zb_eq0, zb_eq1, zn_1, not_true_eq_false, not_false_eq_true, ite_true, ite_false, if_true, if_false, q_iret_0, q_iret_1, decide_true, decide_false, decide_not, zb_t, zb_f, z10, z01, cond_true, cond_false, Bool.and_true, Bool.true_and, Bool.and_false, Bool.false_and, Bool.not_true, Bool.not_false, true_and, and_true, false_and, and_false, true_or, or_true, false_or, or_false, Bool.true_eq_false, Bool.false_eq_true, eq_self, reduceCtorEq, Bool.or_true, Bool.true_or, Bool.or_false, Bool.false_or])
  obtain ⟨j6, j7, j8, e1⟩ := main (nv A 1) (Nat.le_refl _)
  rw [e1, ptm_ext H w _ (rv_nv H) (Nat.le_refl _)]
  have hc := zk_out hn
  (rw [e_X12_podOf_8]; simp only [e_X12_podOf, zo_iload, zo_lload, zo_aload, zo_istore, zo_lstore, zo_astore, zo_iinc, zo_pushI, zo_pushL, zo_null, zo_ii, zo_iid, zo_ll, zo_li, zo_lcmp, zo_i2l, zo_l2i, zo_dup, zo_dup2, zo_pop, zo_goto, zo_if, zo_icmp, zo_ifnull, zo_gets, zo_mm, zo_throw, zo_ret, zo_aret, zo_lret, q_iret_f, q_iret_1, q_iret_0, q_iret_b, q_c8_0, q_c8_1, q_c8_2, q_c8_3, q_c8_4, q_set_0, q_set_1i, q_set_1r, q_set_1n, q_set_1N, q_set_s, q_set_1j, q_bk_v, q_bk_n, q_if, zb_ite, cond_true, cond_false, List.getElem?_cons_zero, List.getElem?_cons_succ, Nat.reduceAdd, q_set_1l, q_set2_0, q_set2_1i, q_set2_1r, q_set2_1n, q_set2_s, n5, hc, if_true, if_false, zb_eq0, zb_eq1, zn_1, not_true_eq_false, not_false_eq_true, ite_true, ite_false, if_true, if_false, q_iret_0, q_iret_1, decide_true, decide_false, decide_not, zb_t, zb_f, z10, z01, cond_true, cond_false, Bool.and_true, Bool.true_and, Bool.and_false, Bool.false_and, Bool.not_true, Bool.not_false, true_and, and_true, false_and, and_false, true_or, or_true, false_or, or_false, Bool.true_eq_false, Bool.false_eq_true, eq_self, reduceCtorEq, Bool.or_true, Bool.true_or, Bool.or_false, Bool.false_or])
theorem seen_stay (H : rAt A R c) (h60 : o < 60) {k : Int32} (d1 : stay A (3 + c) (zn o) k = true) : o < nv A (3 + c) := by
  by_cases q : o < nv A (3 + c)
  · exact q
  · have h2 : rd A (3 + c) (zn o) 25 = 4 := rv_un H (s := 25) h60 (by decide) q
    unfold stay at d1
    rw [h2] at d1
    exact absurd (of_decide_eq_true d1).2 (by decide)
theorem mk_of (H : rKy A R c o) (hs : o < nv A (3 + c)) {t : Nat} (ht : t < 6) : actTo A (aMk A c o (zn t)) c o R (fX12_makesOne [.ref 0, .int (zn t), .int (zn o), .int (rd A (3 + c) (zn o) 1)] R) := by
  obtain ⟨tp, t1, -, t3⟩ := fld H.1 (i := o) (f := 1) hs (by decide)
  have t1' : rd A (3 + c) (zn o) 1 = zn tp := t1
  have t9 : tp ≤ 9 := t3
  have := r_makesOne H (t := t) (tp := tp) (w := o) ht t9 (Nat.lt_of_lt_of_le hs (rv_nv H.1))
  unfold aMk
  rw [t1']
  exact this
theorem r_replicates (H : rKy A R 1 o) : srvTo A (dS1 A A 1 o) 1 o (fX12_replicates [.ref 0] R) := by
  have h60 := H.2.2.2
  have h43 := H.2.2.1
  have hs := r_stays H.1 h60 1
  have hk : A.1 (3 + 1) 5 = 1 := okd_c H.1
  rw [s_X12_replicates]
  unfold dS1
  rw [hk]
  cases d1 : stay A (3 + 1) (zn o) 1
  · have e : zz_ev tX12_replicates 0 [some (.ref 0), none, none, none] [] R = some (.inl (some (.int 1)), R) := by
      (simp only [e_X12_replicates, zo_iload, zo_lload, zo_aload, zo_istore, zo_lstore, zo_astore, zo_iinc, zo_pushI, zo_pushL, zo_null, zo_ii, zo_iid, zo_ll, zo_li, zo_lcmp, zo_i2l, zo_l2i, zo_dup, zo_dup2, zo_pop, zo_goto, zo_if, zo_icmp, zo_ifnull, zo_gets, zo_mm, zo_throw, zo_ret, zo_aret, zo_lret, q_iret_f, q_iret_1, q_iret_0, q_iret_b, q_c8_0, q_c8_1, q_c8_2, q_c8_3, q_c8_4, q_set_0, q_set_1i, q_set_1r, q_set_1n, q_set_1N, q_set_s, q_set_1j, q_bk_v, q_bk_n, q_if, zb_ite, cond_true, cond_false, List.getElem?_cons_zero, List.getElem?_cons_succ, Nat.reduceAdd, q_set_1l, q_set2_0, q_set2_1i, q_set2_1r, q_set2_1n, q_set2_s, h43, hs, d1, if_true, if_false, zb_eq0, zb_eq1, zn_1, not_true_eq_false, not_false_eq_true, ite_true, ite_false, if_true, if_false, q_iret_0, q_iret_1, decide_true, decide_false, decide_not, zb_t, zb_f, z10, z01, cond_true, cond_false, Bool.and_true, Bool.true_and, Bool.and_false, Bool.false_and, Bool.not_true, Bool.not_false, true_and, and_true, false_and, and_false, true_or, or_true, false_or, or_false, Bool.true_eq_false, Bool.false_eq_true, eq_self, reduceCtorEq, Bool.or_true, Bool.true_or, Bool.or_false, Bool.false_or])
    rw [e]
    exact srv_no H
  have hseen := seen_stay H.1 h60 d1
  have V := (r_vw H.1 (o := o) hseen).1
  have v0 : fX12_viewed [.ref 0, .int (zn o), .int 0] R = some (.inl (some (.int (rd A (3 + 1) (zn o) 0))), R) := V 0 (by decide)
  have v1 : fX12_viewed [.ref 0, .int (zn o), .int 1] R = some (.inl (some (.int (rd A (3 + 1) (zn o) 1))), R) := V 1 (by decide)
  have p0 := r_podOf0 H.1 (zn o)
  have hn6 := rv_n60 H.1
  rw [decide_eq_true rfl, cond_true, cond_true]
  unfold dSet
  cases d2 : ovP A (3 + 1) (zn o) with
  | some p =>
    rw [d2] at p0
    have p1 := (zfst_some d2).1
    have pm := zn_m1 (k := p) (by omega)
    refine srv_act (R := R) ?_
    obtain ⟨R', e1, e2, e3⟩ := r_deletes H (b := p) (Nat.lt_of_lt_of_le p1 (rv_nv H.1))
    refine ⟨R', ?_, e2, e3⟩
    (simp only [e_X12_replicates, zo_iload, zo_lload, zo_aload, zo_istore, zo_lstore, zo_astore, zo_iinc, zo_pushI, zo_pushL, zo_null, zo_ii, zo_iid, zo_ll, zo_li, zo_lcmp, zo_i2l, zo_l2i, zo_dup, zo_dup2, zo_pop, zo_goto, zo_if, zo_icmp, zo_ifnull, zo_gets, zo_mm, zo_throw, zo_ret, zo_aret, zo_lret, q_iret_f, q_iret_1, q_iret_0, q_iret_b, q_c8_0, q_c8_1, q_c8_2, q_c8_3, q_c8_4, q_set_0, q_set_1i, q_set_1r, q_set_1n, q_set_1N, q_set_s, q_set_1j, q_bk_v, q_bk_n, q_if, zb_ite, cond_true, cond_false, List.getElem?_cons_zero, List.getElem?_cons_succ, Nat.reduceAdd, q_set_1l, q_set2_0, q_set2_1i, q_set2_1r, q_set2_1n, q_set2_s, h43, hs, d1, p0, zoi, pm, e1, if_true, if_false, zb_eq0, zb_eq1, zn_1, not_true_eq_false, not_false_eq_true, ite_true, ite_false, if_true, if_false, q_iret_0, q_iret_1, decide_true, decide_false, decide_not, zb_t, zb_f, z10, z01, cond_true, cond_false, Bool.and_true, Bool.true_and, Bool.and_false, Bool.false_and, Bool.not_true, Bool.not_false, true_and, and_true, false_and, and_false, true_or, or_true, false_or, or_false, Bool.true_eq_false, Bool.false_eq_true, eq_self, reduceCtorEq, Bool.or_true, Bool.true_or, Bool.or_false, Bool.false_or])
  | none =>
    rw [d2] at p0
    have pc := r_pods15 H.1 (zn o)
    show srvTo A (bif !decide (rd A (3 + 1) (zn o) 0 ≤ zn (cntP A (3 + 1) (zn o))) then oc2 (aMk A 1 o 2) else bif !decide (zn (cntP A (3 + 1) (zn o)) ≤ rd A (3 + 1) (zn o) 0) then oc2 (aRem A 1 (zz_ix (ptm A (3 + 1) (zn o) (nv A (3 + 1))).1)) else (1, A)) 1 o _
    obtain ⟨g, g1, -, g3⟩ := fld H.1 (i := o) (f := 0) hseen (by decide)
    have g1' : rd A (3 + 1) (zn o) 0 = zn g := g1
    have g5 : g ≤ 5 := g3
    have hcnt : cntP A (3 + 1) (zn o) ≤ 60 := Nat.le_trans (zcnt_le _ _) hn6
    have hin := ptm_in A (3 + 1) (zn o) (nv A (3 + 1))
    have e0 : zcnt (nv A (3 + 1)) (fun i => owned A (3 + 1) (zn i) 2 (zn o)) = cntP A (3 + 1) (zn o) := rfl
    rw [e0] at hin
    rw [g1'] at v0 ⊢
    generalize cntP A (3 + 1) (zn o) = n at pc hcnt hin ⊢
    by_cases d3 : g ≤ n
    · have c3 : (zn g ≤ zn n) = True := zn_le (a := g) (b := n) (by omega) (by omega) ▸ eq_true d3
      by_cases d4 : n ≤ g
      · have c4 : (zn n ≤ zn g) = True := zn_le (a := n) (b := g) (by omega) (by omega) ▸ eq_true d4
        have c5 : (zn n = zn g) = True := by rw [zn_inj (by omega) (by omega)]; exact eq_true (by omega)
        rw [decide_eq_true (of_eq_true c3), decide_eq_true (of_eq_true c4)]
        have e : zz_ev tX12_replicates 0 [some (.ref 0), none, none, none] [] R = some (.inl (some (.int 1)), R) := by
          (simp only [e_X12_replicates, zo_iload, zo_lload, zo_aload, zo_istore, zo_lstore, zo_astore, zo_iinc, zo_pushI, zo_pushL, zo_null, zo_ii, zo_iid, zo_ll, zo_li, zo_lcmp, zo_i2l, zo_l2i, zo_dup, zo_dup2, zo_pop, zo_goto, zo_if, zo_icmp, zo_ifnull, zo_gets, zo_mm, zo_throw, zo_ret, zo_aret, zo_lret, q_iret_f, q_iret_1, q_iret_0, q_iret_b, q_c8_0, q_c8_1, q_c8_2, q_c8_3, q_c8_4, q_set_0, q_set_1i, q_set_1r, q_set_1n, q_set_1N, q_set_s, q_set_1j, q_bk_v, q_bk_n, q_if, zb_ite, cond_true, cond_false, List.getElem?_cons_zero, List.getElem?_cons_succ, Nat.reduceAdd, q_set_1l, q_set2_0, q_set2_1i, q_set2_1r, q_set2_1n, q_set2_s, h43, hs, d1, p0, zoi, pc, v0, c3, c5, if_true, if_false, zb_eq0, zb_eq1, zn_1, not_true_eq_false, not_false_eq_true, ite_true, ite_false, if_true, if_false, q_iret_0, q_iret_1, decide_true, decide_false, decide_not, zb_t, zb_f, z10, z01, cond_true, cond_false, Bool.and_true, Bool.true_and, Bool.and_false, Bool.false_and, Bool.not_true, Bool.not_false, true_and, and_true, false_and, and_false, true_or, or_true, false_or, or_false, Bool.true_eq_false, Bool.false_eq_true, eq_self, reduceCtorEq, Bool.or_true, Bool.true_or, Bool.or_false, Bool.false_or])
        rw [e]
        exact srv_no H
      · have c4 : (zn n ≤ zn g) = False := zn_le (a := n) (b := g) (by omega) (by omega) ▸ eq_false d4
        have c5 : (zn n = zn g) = False := by rw [zn_inj (by omega) (by omega)]; exact eq_false (by omega)
        rw [decide_eq_true (of_eq_true c3), decide_eq_false c4.mp]
        simp only [Bool.not_true, Bool.not_false, cond_true, cond_false]
        refine srv_act (R := R) ?_
        have pp := r_podOf1 H.1 (zn o)
        obtain ⟨k, k1, k2⟩ := hin.resolve_left (fun z => by omega)
        rw [k2] at pp ⊢
        rw [zn_ix (by omega)]
        obtain ⟨R', e1, e2, e3⟩ := r_deletes H (b := k) (Nat.lt_of_lt_of_le k1 (rv_nv H.1))
        refine ⟨R', ?_, e2, e3⟩
        generalize aRem A 1 k = P at e1 ⊢
        cases hP : P.1 <;> rw [hP] at e1
        · simp only [zb_f] at e1
          (simp only [e_X12_replicates, zo_iload, zo_lload, zo_aload, zo_istore, zo_lstore, zo_astore, zo_iinc, zo_pushI, zo_pushL, zo_null, zo_ii, zo_iid, zo_ll, zo_li, zo_lcmp, zo_i2l, zo_l2i, zo_dup, zo_dup2, zo_pop, zo_goto, zo_if, zo_icmp, zo_ifnull, zo_gets, zo_mm, zo_throw, zo_ret, zo_aret, zo_lret, q_iret_f, q_iret_1, q_iret_0, q_iret_b, q_c8_0, q_c8_1, q_c8_2, q_c8_3, q_c8_4, q_set_0, q_set_1i, q_set_1r, q_set_1n, q_set_1N, q_set_s, q_set_1j, q_bk_v, q_bk_n, q_if, zb_ite, cond_true, cond_false, List.getElem?_cons_zero, List.getElem?_cons_succ, Nat.reduceAdd, q_set_1l, q_set2_0, q_set2_1i, q_set2_1r, q_set2_1n, q_set2_s, h43, hs, d1, p0, zoi, pc, v0, c3, c5, pp, e1, if_true, if_false, zb_eq0, zb_eq1, zn_1, not_true_eq_false, not_false_eq_true, ite_true, ite_false, if_true, if_false, q_iret_0, q_iret_1, decide_true, decide_false, decide_not, zb_t, zb_f, z10, z01, cond_true, cond_false, Bool.and_true, Bool.true_and, Bool.and_false, Bool.false_and, Bool.not_true, Bool.not_false, true_and, and_true, false_and, and_false, true_or, or_true, false_or, or_false, Bool.true_eq_false, Bool.false_eq_true, eq_self, reduceCtorEq, Bool.or_true, Bool.true_or, Bool.or_false, Bool.false_or])
        · simp only [zb_t] at e1
          (simp only [e_X12_replicates, zo_iload, zo_lload, zo_aload, zo_istore, zo_lstore, zo_astore, zo_iinc, zo_pushI, zo_pushL, zo_null, zo_ii, zo_iid, zo_ll, zo_li, zo_lcmp, zo_i2l, zo_l2i, zo_dup, zo_dup2, zo_pop, zo_goto, zo_if, zo_icmp, zo_ifnull, zo_gets, zo_mm, zo_throw, zo_ret, zo_aret, zo_lret, q_iret_f, q_iret_1, q_iret_0, q_iret_b, q_c8_0, q_c8_1, q_c8_2, q_c8_3, q_c8_4, q_set_0, q_set_1i, q_set_1r, q_set_1n, q_set_1N, q_set_s, q_set_1j, q_bk_v, q_bk_n, q_if, zb_ite, cond_true, cond_false, List.getElem?_cons_zero, List.getElem?_cons_succ, Nat.reduceAdd, q_set_1l, q_set2_0, q_set2_1i, q_set2_1r, q_set2_1n, q_set2_s, h43, hs, d1, p0, zoi, pc, v0, c3, c5, pp, e1, if_true, if_false, zb_eq0, zb_eq1, zn_1, not_true_eq_false, not_false_eq_true, ite_true, ite_false, if_true, if_false, q_iret_0, q_iret_1, decide_true, decide_false, decide_not, zb_t, zb_f, z10, z01, cond_true, cond_false, Bool.and_true, Bool.true_and, Bool.and_false, Bool.false_and, Bool.not_true, Bool.not_false, true_and, and_true, false_and, and_false, true_or, or_true, false_or, or_false, Bool.true_eq_false, Bool.false_eq_true, eq_self, reduceCtorEq, Bool.or_true, Bool.true_or, Bool.or_false, Bool.false_or])
    · have c3 : (zn g ≤ zn n) = False := zn_le (a := g) (b := n) (by omega) (by omega) ▸ eq_false d3
      rw [decide_eq_false c3.mp]
      simp only [Bool.not_false, cond_true]
      refine srv_act (R := R) ?_
      obtain ⟨R', e1, e2, e3⟩ := mk_of H hseen (t := 2) (by decide)
      have e1' : fX12_makesOne [.ref 0, .int 2, .int (zn o), .int (rd A (3 + 1) (zn o) 1)] R = some (.inl (some (.int (zb (aMk A 1 o 2).1))), R') := e1
      refine ⟨R', ?_, e2, e3⟩
      clear e1
      (simp only [e_X12_replicates, zo_iload, zo_lload, zo_aload, zo_istore, zo_lstore, zo_astore, zo_iinc, zo_pushI, zo_pushL, zo_null, zo_ii, zo_iid, zo_ll, zo_li, zo_lcmp, zo_i2l, zo_l2i, zo_dup, zo_dup2, zo_pop, zo_goto, zo_if, zo_icmp, zo_ifnull, zo_gets, zo_mm, zo_throw, zo_ret, zo_aret, zo_lret, q_iret_f, q_iret_1, q_iret_0, q_iret_b, q_c8_0, q_c8_1, q_c8_2, q_c8_3, q_c8_4, q_set_0, q_set_1i, q_set_1r, q_set_1n, q_set_1N, q_set_s, q_set_1j, q_bk_v, q_bk_n, q_if, zb_ite, cond_true, cond_false, List.getElem?_cons_zero, List.getElem?_cons_succ, Nat.reduceAdd, q_set_1l, q_set2_0, q_set2_1i, q_set2_1r, q_set2_1n, q_set2_s, h43, hs, d1, p0, zoi, pc, v0, c3, v1, e1', if_true, if_false, zb_eq0, zb_eq1, zn_1, not_true_eq_false, not_false_eq_true, ite_true, ite_false, if_true, if_false, q_iret_0, q_iret_1, decide_true, decide_false, decide_not, zb_t, zb_f, z10, z01, cond_true, cond_false, Bool.and_true, Bool.true_and, Bool.and_false, Bool.false_and, Bool.not_true, Bool.not_false, true_and, and_true, false_and, and_false, true_or, or_true, false_or, or_false, Bool.true_eq_false, Bool.false_eq_true, eq_self, reduceCtorEq, Bool.or_true, Bool.true_or, Bool.or_false, Bool.false_or])
theorem r_doesJobs (H : rKy A R 2 o) : srvTo A (dS1 A A 2 o) 2 o (fX12_doesJobs [.ref 0] R) := by
  have h60 := H.2.2.2
  have h43 := H.2.2.1
  have hs := r_stays H.1 h60 3
  have hk : A.1 (3 + 2) 5 = 3 := okd_c H.1
  rw [s_X12_doesJobs]
  unfold dS1
  rw [hk]
  cases d1 : stay A (3 + 2) (zn o) 3
  · have e : zz_ev tX12_doesJobs 0 [some (.ref 0), none, none] [] R = some (.inl (some (.int 1)), R) := by
      (simp only [e_X12_doesJobs, zo_iload, zo_lload, zo_aload, zo_istore, zo_lstore, zo_astore, zo_iinc, zo_pushI, zo_pushL, zo_null, zo_ii, zo_iid, zo_ll, zo_li, zo_lcmp, zo_i2l, zo_l2i, zo_dup, zo_dup2, zo_pop, zo_goto, zo_if, zo_icmp, zo_ifnull, zo_gets, zo_mm, zo_throw, zo_ret, zo_aret, zo_lret, q_iret_f, q_iret_1, q_iret_0, q_iret_b, q_c8_0, q_c8_1, q_c8_2, q_c8_3, q_c8_4, q_set_0, q_set_1i, q_set_1r, q_set_1n, q_set_1N, q_set_s, q_set_1j, q_bk_v, q_bk_n, q_if, zb_ite, cond_true, cond_false, List.getElem?_cons_zero, List.getElem?_cons_succ, Nat.reduceAdd, q_set_1l, q_set2_0, q_set2_1i, q_set2_1r, q_set2_1n, q_set2_s, h43, hs, d1, if_true, if_false, zb_eq0, zb_eq1, zn_1, not_true_eq_false, not_false_eq_true, ite_true, ite_false, if_true, if_false, q_iret_0, q_iret_1, decide_true, decide_false, decide_not, zb_t, zb_f, z10, z01, cond_true, cond_false, Bool.and_true, Bool.true_and, Bool.and_false, Bool.false_and, Bool.not_true, Bool.not_false, true_and, and_true, false_and, and_false, true_or, or_true, false_or, or_false, Bool.true_eq_false, Bool.false_eq_true, eq_self, reduceCtorEq, Bool.or_true, Bool.true_or, Bool.or_false, Bool.false_or])
    rw [e]
    exact srv_no H
  have hseen := seen_stay H.1 h60 d1
  have V := (r_vw H.1 (o := o) hseen).1
  have v0 : fX12_viewed [.ref 0, .int (zn o), .int 0] R = some (.inl (some (.int (rd A (3 + 2) (zn o) 0))), R) := V 0 (by decide)
  have v1 : fX12_viewed [.ref 0, .int (zn o), .int 1] R = some (.inl (some (.int (rd A (3 + 2) (zn o) 1))), R) := V 1 (by decide)
  have v10 : fX12_viewed [.ref 0, .int (zn o), .int 10] R = some (.inl (some (.int (rd A (3 + 2) (zn o) 10))), R) := V 10 (by decide)
  have p3 := r_pods3 H.1 (zn o)
  have p4 := r_pods4 H.1 (zn o)
  rw [decide_eq_false (show ¬ (3 : Int32) = 1 by decide), cond_true, cond_false]
  unfold dJob
  generalize acP A (3 + 2) (zn o) (nv A (3 + 2)) = a at p3 ⊢
  generalize dnP A (3 + 2) (zn o) (nv A (3 + 2)) = b at p4 ⊢
  rw [Int32.add_comm (zn b) (zn a)]
  by_cases d3 : rd A (3 + 2) (zn o) 0 ≤ zn a + zn b
  · rw [decide_eq_true d3]
    have e : zz_ev tX12_doesJobs 0 [some (.ref 0), none, none] [] R = some (.inl (some (.int 1)), R) := by
      (simp only [e_X12_doesJobs, zo_iload, zo_lload, zo_aload, zo_istore, zo_lstore, zo_astore, zo_iinc, zo_pushI, zo_pushL, zo_null, zo_ii, zo_iid, zo_ll, zo_li, zo_lcmp, zo_i2l, zo_l2i, zo_dup, zo_dup2, zo_pop, zo_goto, zo_if, zo_icmp, zo_ifnull, zo_gets, zo_mm, zo_throw, zo_ret, zo_aret, zo_lret, q_iret_f, q_iret_1, q_iret_0, q_iret_b, q_c8_0, q_c8_1, q_c8_2, q_c8_3, q_c8_4, q_set_0, q_set_1i, q_set_1r, q_set_1n, q_set_1N, q_set_s, q_set_1j, q_bk_v, q_bk_n, q_if, zb_ite, cond_true, cond_false, List.getElem?_cons_zero, List.getElem?_cons_succ, Nat.reduceAdd, q_set_1l, q_set2_0, q_set2_1i, q_set2_1r, q_set2_1n, q_set2_s, h43, hs, d1, p3, p4, v0, d3, if_true, if_false, zb_eq0, zb_eq1, zn_1, not_true_eq_false, not_false_eq_true, ite_true, ite_false, if_true, if_false, q_iret_0, q_iret_1, decide_true, decide_false, decide_not, zb_t, zb_f, z10, z01, cond_true, cond_false, Bool.and_true, Bool.true_and, Bool.and_false, Bool.false_and, Bool.not_true, Bool.not_false, true_and, and_true, false_and, and_false, true_or, or_true, false_or, or_false, Bool.true_eq_false, Bool.false_eq_true, eq_self, reduceCtorEq, Bool.or_true, Bool.true_or, Bool.or_false, Bool.false_or])
    rw [e]
    exact srv_no H
  · by_cases d4 : rd A (3 + 2) (zn o) 10 ≤ zn a
    · rw [decide_eq_true d4, decide_eq_false d3]
      have e : zz_ev tX12_doesJobs 0 [some (.ref 0), none, none] [] R = some (.inl (some (.int 1)), R) := by
        (simp only [e_X12_doesJobs, zo_iload, zo_lload, zo_aload, zo_istore, zo_lstore, zo_astore, zo_iinc, zo_pushI, zo_pushL, zo_null, zo_ii, zo_iid, zo_ll, zo_li, zo_lcmp, zo_i2l, zo_l2i, zo_dup, zo_dup2, zo_pop, zo_goto, zo_if, zo_icmp, zo_ifnull, zo_gets, zo_mm, zo_throw, zo_ret, zo_aret, zo_lret, q_iret_f, q_iret_1, q_iret_0, q_iret_b, q_c8_0, q_c8_1, q_c8_2, q_c8_3, q_c8_4, q_set_0, q_set_1i, q_set_1r, q_set_1n, q_set_1N, q_set_s, q_set_1j, q_bk_v, q_bk_n, q_if, zb_ite, cond_true, cond_false, List.getElem?_cons_zero, List.getElem?_cons_succ, Nat.reduceAdd, q_set_1l, q_set2_0, q_set2_1i, q_set2_1r, q_set2_1n, q_set2_s, h43, hs, d1, p3, p4, v0, d3, v10, d4, if_true, if_false, zb_eq0, zb_eq1, zn_1, not_true_eq_false, not_false_eq_true, ite_true, ite_false, if_true, if_false, q_iret_0, q_iret_1, decide_true, decide_false, decide_not, zb_t, zb_f, z10, z01, cond_true, cond_false, Bool.and_true, Bool.true_and, Bool.and_false, Bool.false_and, Bool.not_true, Bool.not_false, true_and, and_true, false_and, and_false, true_or, or_true, false_or, or_false, Bool.true_eq_false, Bool.false_eq_true, eq_self, reduceCtorEq, Bool.or_true, Bool.true_or, Bool.or_false, Bool.false_or])
      rw [e]
      exact srv_no H
    · rw [decide_eq_false d4, decide_eq_false d3]
      simp only [Bool.not_false, Bool.and_self, cond_true]
      refine srv_act (R := R) ?_
      obtain ⟨R', e1, e2, e3⟩ := mk_of H hseen (t := 2) (by decide)
      have e1' : fX12_makesOne [.ref 0, .int 2, .int (zn o), .int (rd A (3 + 2) (zn o) 1)] R = some (.inl (some (.int (zb (aMk A 2 o 2).1))), R') := e1
      refine ⟨R', ?_, e2, e3⟩
      clear e1
      have ez : aMk A 2 o 2 = aMk A 2 o (zn 2) := rfl
      generalize aMk A 2 o 2 = P at e1' ⊢
      cases hP : P.1 <;> rw [hP] at e1'
      · simp only [zb_f] at e1'
        (simp only [e_X12_doesJobs, zo_iload, zo_lload, zo_aload, zo_istore, zo_lstore, zo_astore, zo_iinc, zo_pushI, zo_pushL, zo_null, zo_ii, zo_iid, zo_ll, zo_li, zo_lcmp, zo_i2l, zo_l2i, zo_dup, zo_dup2, zo_pop, zo_goto, zo_if, zo_icmp, zo_ifnull, zo_gets, zo_mm, zo_throw, zo_ret, zo_aret, zo_lret, q_iret_f, q_iret_1, q_iret_0, q_iret_b, q_c8_0, q_c8_1, q_c8_2, q_c8_3, q_c8_4, q_set_0, q_set_1i, q_set_1r, q_set_1n, q_set_1N, q_set_s, q_set_1j, q_bk_v, q_bk_n, q_if, zb_ite, cond_true, cond_false, List.getElem?_cons_zero, List.getElem?_cons_succ, Nat.reduceAdd, q_set_1l, q_set2_0, q_set2_1i, q_set2_1r, q_set2_1n, q_set2_s, h43, hs, d1, p3, p4, v0, d3, v10, d4, v1, e1', if_true, if_false, zb_eq0, zb_eq1, zn_1, not_true_eq_false, not_false_eq_true, ite_true, ite_false, if_true, if_false, q_iret_0, q_iret_1, decide_true, decide_false, decide_not, zb_t, zb_f, z10, z01, cond_true, cond_false, Bool.and_true, Bool.true_and, Bool.and_false, Bool.false_and, Bool.not_true, Bool.not_false, true_and, and_true, false_and, and_false, true_or, or_true, false_or, or_false, Bool.true_eq_false, Bool.false_eq_true, eq_self, reduceCtorEq, Bool.or_true, Bool.true_or, Bool.or_false, Bool.false_or])
      · simp only [zb_t] at e1'
        (simp only [e_X12_doesJobs, zo_iload, zo_lload, zo_aload, zo_istore, zo_lstore, zo_astore, zo_iinc, zo_pushI, zo_pushL, zo_null, zo_ii, zo_iid, zo_ll, zo_li, zo_lcmp, zo_i2l, zo_l2i, zo_dup, zo_dup2, zo_pop, zo_goto, zo_if, zo_icmp, zo_ifnull, zo_gets, zo_mm, zo_throw, zo_ret, zo_aret, zo_lret, q_iret_f, q_iret_1, q_iret_0, q_iret_b, q_c8_0, q_c8_1, q_c8_2, q_c8_3, q_c8_4, q_set_0, q_set_1i, q_set_1r, q_set_1n, q_set_1N, q_set_s, q_set_1j, q_bk_v, q_bk_n, q_if, zb_ite, cond_true, cond_false, List.getElem?_cons_zero, List.getElem?_cons_succ, Nat.reduceAdd, q_set_1l, q_set2_0, q_set2_1i, q_set2_1r, q_set2_1n, q_set2_s, h43, hs, d1, p3, p4, v0, d3, v10, d4, v1, e1', if_true, if_false, zb_eq0, zb_eq1, zn_1, not_true_eq_false, not_false_eq_true, ite_true, ite_false, if_true, if_false, q_iret_0, q_iret_1, decide_true, decide_false, decide_not, zb_t, zb_f, z10, z01, cond_true, cond_false, Bool.and_true, Bool.true_and, Bool.and_false, Bool.false_and, Bool.not_true, Bool.not_false, true_and, and_true, false_and, and_false, true_or, or_true, false_or, or_false, Bool.true_eq_false, Bool.false_eq_true, eq_self, reduceCtorEq, Bool.or_true, Bool.true_or, Bool.or_false, Bool.false_or])
end
end

section
/-! the reference: making -/
section
variable {A R : zzMd}
theorem rd1_row {o s : Nat} (ho : o < 60) (hs : s < 32) : rd A 1 (zn o) (zn s) = row A o s := rd_row ho hs
theorem its_13 (H : Rl0 A R) {o : Nat} (ho : o < nv A 1) : gt (R.2 7 o) 13 = row A o 25 := ((rl_cur H ho).1.2 13 (by decide)).trans (Int32.add_zero _)
theorem r_living (H : Rl0 A R) : fX12_living [.ref 0, .int 2] R = some (.inl (some (.int (zn (liveP A)))), R) := by
  have hn := rl_n60 H
  have K := H.1.1
  have n5 := H.2.1.1.2
  have st : fX12_living [.ref 0, .int 2] R = zz_ev tX12_living 4 [some (.ref 0), some (.int 2), some (.int (zn (zcnt 0 fun i => decide (rd A 1 (zn i) 23 = 2 ∧ ¬ rd A 1 (zn i) 25 = 4)))), some (.int (zn 0))] [] R := by
    rw [s_X12_living]
    (simp only [e_X12_living, zo_iload, zo_lload, zo_aload, zo_istore, zo_lstore, zo_astore, zo_iinc, zo_pushI, zo_pushL, zo_null, zo_ii, zo_iid, zo_ll, zo_li, zo_lcmp, zo_i2l, zo_l2i, zo_dup, zo_dup2, zo_pop, zo_goto, zo_if, zo_icmp, zo_ifnull, zo_gets, zo_mm, zo_throw, zo_ret, zo_aret, zo_lret, q_iret_f, q_iret_1, q_iret_0, q_iret_b, q_c8_0, q_c8_1, q_c8_2, q_c8_3, q_c8_4, q_set_0, q_set_1i, q_set_1r, q_set_1n, q_set_1N, q_set_s, q_set_1j, q_bk_v, q_bk_n, q_if, zb_ite, cond_true, cond_false, List.getElem?_cons_zero, List.getElem?_cons_succ, Nat.reduceAdd, q_set_1l, q_set2_0, q_set2_1i, q_set2_1r, q_set2_1n, q_set2_s, if_true, if_false, zb_eq0, zb_eq1, zn_1, not_true_eq_false, not_false_eq_true, ite_true, ite_false, if_true, if_false, q_iret_0, q_iret_1, decide_true, decide_false, decide_not, zb_t, zb_f, z10, z01, cond_true, cond_false, Bool.and_true, Bool.true_and, Bool.and_false, Bool.false_and, Bool.not_true, Bool.not_false, true_and, and_true, false_and, and_false, true_or, or_true, false_or, or_false, Bool.true_eq_false, Bool.false_eq_true, eq_self, reduceCtorEq, Bool.or_true, Bool.true_or, Bool.or_false, Bool.false_or])
    rfl
  have lp := zl_go (E := fun i => zz_ev tX12_living 4 [some (.ref 0), some (.int 2), some (.int (zn (zcnt i fun i => decide (rd A 1 (zn i) 23 = 2 ∧ ¬ rd A 1 (zn i) 25 = 4)))), some (.int (zn i))] [] R) (nv A 1) (fun i hi => by
    have hc := zk_in hi hn
    have b1 : zz_inb (zn i) 60 = true := zn_inT (by omega) (by decide)
    have x1 : zz_ix (zn i) = i := zn_ix (by omega)
    have e6 : R.1 6 i = rd A 1 (zn i) 23 := by rw [show rd A 1 (zn i) 23 = row A i 23 from rd1_row (s := 23) (by omega) (by decide)]; exact (rl_cur H hi).2.2.2.2.symm
    have hg : fX12_get [.ref 0, .long (R.2 7 i), .int 13] R = some (.inl (some (.int (rd A 1 (zn i) 25))), R) := by
      rw [show rd A 1 (zn i) 25 = row A i 25 from rd1_row (s := 25) (by omega) (by decide), ← its_13 H hi]
      exact r_get K (k := 13) (by decide) _
    rw [zcnt_s]
    by_cases c1 : rd A 1 (zn i) 23 = 2
    · by_cases c2 : rd A 1 (zn i) 25 = 4 <;> (rw [e_X12_living_4]; simp only [e_X12_living, zo_iload, zo_lload, zo_aload, zo_istore, zo_lstore, zo_astore, zo_iinc, zo_pushI, zo_pushL, zo_null, zo_ii, zo_iid, zo_ll, zo_li, zo_lcmp, zo_i2l, zo_l2i, zo_dup, zo_dup2, zo_pop, zo_goto, zo_if, zo_icmp, zo_ifnull, zo_gets, zo_mm, zo_throw, zo_ret, zo_aret, zo_lret, q_iret_f, q_iret_1, q_iret_0, q_iret_b, q_c8_0, q_c8_1, q_c8_2, q_c8_3, q_c8_4, q_set_0, q_set_1i, q_set_1r, q_set_1n, q_set_1N, q_set_s, q_set_1j, q_bk_v, q_bk_n, q_if, zb_ite, cond_true, cond_false, List.getElem?_cons_zero, List.getElem?_cons_succ, Nat.reduceAdd, q_set_1l, q_set2_0, q_set2_1i, q_set2_1r, q_set2_1n, q_set2_s, n5, hc, b1, x1, q_aR, e6, c1, hg, c2, Nat.add_zero, Int32.add_zero, if_true, if_false, zb_eq0, zb_eq1, zn_1, not_true_eq_false, not_false_eq_true, ite_true, ite_false, if_true, if_false, q_iret_0, q_iret_1, decide_true, decide_false, decide_not, zb_t, zb_f, z10, z01, cond_true, cond_false, Bool.and_true, Bool.true_and, Bool.and_false, Bool.false_and, Bool.not_true, Bool.not_false, true_and, and_true, false_and, and_false, true_or, or_true, false_or, or_false, Bool.true_eq_false, Bool.false_eq_true, eq_self, reduceCtorEq, Bool.or_true, Bool.true_or, Bool.or_false, Bool.false_or])
    · (rw [e_X12_living_4]; simp only [e_X12_living, zo_iload, zo_lload, zo_aload, zo_istore, zo_lstore, zo_astore, zo_iinc, zo_pushI, zo_pushL, zo_null, zo_ii, zo_iid, zo_ll, zo_li, zo_lcmp, zo_i2l, zo_l2i, zo_dup, zo_dup2, zo_pop, zo_goto, zo_if, zo_icmp, zo_ifnull, zo_gets, zo_mm, zo_throw, zo_ret, zo_aret, zo_lret, q_iret_f, q_iret_1, q_iret_0, q_iret_b, q_c8_0, q_c8_1, q_c8_2, q_c8_3, q_c8_4, q_set_0, q_set_1i, q_set_1r, q_set_1n, q_set_1N, q_set_s, q_set_1j, q_bk_v, q_bk_n, q_if, zb_ite, cond_true, cond_false, List.getElem?_cons_zero, List.getElem?_cons_succ, Nat.reduceAdd, q_set_1l, q_set2_0, q_set2_1i, q_set2_1r, q_set2_1n, q_set2_s, n5, hc, b1, x1, q_aR, e6, c1, Nat.add_zero, Int32.add_zero, if_true, if_false, zb_eq0, zb_eq1, zn_1, not_true_eq_false, not_false_eq_true, ite_true, ite_false, if_true, if_false, q_iret_0, q_iret_1, decide_true, decide_false, decide_not, zb_t, zb_f, z10, z01, cond_true, cond_false, Bool.and_true, Bool.true_and, Bool.and_false, Bool.false_and, Bool.not_true, Bool.not_false, true_and, and_true, false_and, and_false, true_or, or_true, false_or, or_false, Bool.true_eq_false, Bool.false_eq_true, eq_self, reduceCtorEq, Bool.or_true, Bool.true_or, Bool.or_false, Bool.false_or]))
  rw [st]
  refine (show _ = _ from lp).trans ?_
  have hc := zk_out hn
  unfold liveP
  (rw [e_X12_living_4]; simp only [e_X12_living, zo_iload, zo_lload, zo_aload, zo_istore, zo_lstore, zo_astore, zo_iinc, zo_pushI, zo_pushL, zo_null, zo_ii, zo_iid, zo_ll, zo_li, zo_lcmp, zo_i2l, zo_l2i, zo_dup, zo_dup2, zo_pop, zo_goto, zo_if, zo_icmp, zo_ifnull, zo_gets, zo_mm, zo_throw, zo_ret, zo_aret, zo_lret, q_iret_f, q_iret_1, q_iret_0, q_iret_b, q_c8_0, q_c8_1, q_c8_2, q_c8_3, q_c8_4, q_set_0, q_set_1i, q_set_1r, q_set_1n, q_set_1N, q_set_s, q_set_1j, q_bk_v, q_bk_n, q_if, zb_ite, cond_true, cond_false, List.getElem?_cons_zero, List.getElem?_cons_succ, Nat.reduceAdd, q_set_1l, q_set2_0, q_set2_1i, q_set2_1r, q_set2_1n, q_set2_s, n5, hc, if_true, if_false, zb_eq0, zb_eq1, zn_1, not_true_eq_false, not_false_eq_true, ite_true, ite_false, if_true, if_false, q_iret_0, q_iret_1, decide_true, decide_false, decide_not, zb_t, zb_f, z10, z01, cond_true, cond_false, Bool.and_true, Bool.true_and, Bool.and_false, Bool.false_and, Bool.not_true, Bool.not_false, true_and, and_true, false_and, and_false, true_or, or_true, false_or, or_false, Bool.true_eq_false, Bool.false_eq_true, eq_self, reduceCtorEq, Bool.or_true, Bool.true_or, Bool.or_false, Bool.false_or])
def newX (w t : Int32) : Int64 := wt (wt (wt (wt (wt (wt 0 2 1) 7 4) 10 1) 14 1) 11 (w + 1)) 1 t
def dZ : Nat → Int32 := fun s => if s = 24 ∨ s = 28 then -1 else 0
theorem enc_dZ : encR 0 dZ := ⟨clean_0, fun k hk => by
  rw [gt_0 hk]
  have : ∀ k : Fin 17, (0 : Int32) = vl dZ k.1 := by decide
  exact this ⟨k, hk⟩⟩
theorem k17 {k : Nat} (h : k < 17) : k = 0 ∨ k = 1 ∨ k = 2 ∨ k = 3 ∨ k = 4 ∨ k = 5 ∨ k = 6 ∨ k = 7 ∨ k = 8 ∨ k = 9 ∨ k = 10 ∨ k = 11 ∨ k = 12 ∨ k = 13 ∨ k = 14 ∨ k = 15 ∨ k = 16 := by omega
theorem enc_wv {x : Int64} {D : Nat → Int32} {k a : Nat} {u v : Int32} (hk : k < 17) (ha : a < 2 ^ wL k) (hu : u = zn a) (hv : u = v + of1 k) (h : encR x D) : encR (wt x k u) (dUp D (sl k) v) := by
  have := enc_wt hk ha h
  rw [← hu, hv, Int32.add_sub_cancel] at this
  rw [hv]
  exact this
theorem enc_new (m k : Int32) {w : Int32} {t o a : Nat} (ht : t ≤ 9) (ha : a ≤ 60) (hw : w + 1 = zn a) : encR (newX w (zn t)) (dNew m k w (zn t) o) := by
  have s1 := enc_wv (k := 2) (a := 1) (u := 1) (v := 1) (by decide) (by decide) (by decide) (by decide) enc_dZ
  have s2 := enc_wv (k := 7) (a := 4) (u := 4) (v := 4) (by decide) (by decide) (by decide) (by decide) s1
  have s3 := enc_wv (k := 10) (a := 1) (u := 1) (v := 1) (by decide) (by decide) (by decide) (by decide) s2
  have s4 := enc_wv (k := 14) (a := 1) (u := 1) (v := 1) (by decide) (by decide) (by decide) (by decide) s3
  have s5 := enc_wv (k := 11) (a := a) (u := w + 1) (v := w) (by decide) (show a < 128 by omega) hw rfl s4
  have s6 := enc_wv (k := 1) (a := t) (u := zn t) (v := zn t) (by decide) (show t < 16 by omega) rfl (Int32.add_zero _).symm s5
  refine enc_c s6 fun j hj => ?_
  rcases k17 hj with rfl | rfl | rfl | rfl | rfl | rfl | rfl | rfl | rfl | rfl | rfl | rfl | rfl | rfl | rfl | rfl | rfl <;> rfl
theorem encB_0 {D : Nat → Int32} (h0 : D 30 = 0) (h1 : D 31 = 0) : encB 0 D := by
  have hb : ∀ i, bit 0 i = false := fun i => by rw [show (0 : Int64) = Int64.ofNat 0 from rfl, bit_ofNat, Nat.zero_testBit, Bool.and_false]
  have h3 : ∀ i, i < 32 → b32 0 i = false := fun i hi => by rw [show (0 : Int32) = zn 0 from rfl, b32_zn 0 hi, Nat.zero_testBit]
  unfold encB
  rw [h0, h1]
  refine ⟨fun i hi => ?_, fun i _ => hb i, fun i _ hi => ⟨h3 i hi, h3 i hi⟩⟩
  rw [hb, hb, h3 i (by omega)]
  exact ⟨rfl, rfl⟩
def zM (S : zzMd) (n : Nat) (m : Int32) (i : Nat) : zzMd := (fun a b => if a = 10 ∧ 11 * n ≤ b ∧ b < 11 * n + i then m else S.1 a b, S.2)
theorem zM_1 (S : zzMd) (n : Nat) (m : Int32) (i a b : Nat) : (zM S n m i).1 a b = if a = 10 ∧ 11 * n ≤ b ∧ b < 11 * n + i then m else S.1 a b := rfl
theorem zM_s (S : zzMd) (n : Nat) (m : Int32) (i : Nat) : zM S n m (i + 1) = zz_sI (zM S n m i) 10 (11 * n + i) m := Prod.ext (funext fun a => funext fun b => by
  rw [sI_1, zM_1, zM_1]
  by_cases q : a = 10 ∧ b = 11 * n + i
  · rw [if_pos q, if_pos ⟨q.1, by omega, by omega⟩]
  · rw [if_neg q]
    by_cases q2 : a = 10 ∧ 11 * n ≤ b ∧ b < 11 * n + i
    · rw [if_pos q2, if_pos ⟨q2.1, q2.2.1, by omega⟩]
    · rw [if_neg q2, if_neg (by omega)]) rfl
theorem zM_0 (S : zzMd) (n : Nat) (m : Int32) : zM S n m 0 = S := Prod.ext (funext fun a => funext fun b => if_neg (by omega)) rfl
theorem zM_a {S : zzMd} {n i a b : Nat} {m : Int32} (h : a ≠ 10) : (zM S n m i).1 a b = S.1 a b := if_neg (fun z => h z.1)
def rMk (R : zzMd) (n : Nat) (m k : Int32) : zzMd := zz_sI (zM (zz_sI (zz_sI R 6 n k) 11 n (R.1 0 48)) n m 11) 0 5 (zn (n + 1))
theorem r_makesTail {R : zzMd} {n e : Nat} (h5 : R.1 0 5 = zn n) (hn : n < 60) (h14 : R.1 0 14 = zn e) (he : e < 400) (m k w t : Int32) (x : Int64) (z : Int32) :
    zz_ev tX12_makes 109 [some (.ref 0), some (.int m), some (.int k), some (.int w), some (.int t), some (.long x), none, some (.int z), none] [] R = some (.inl (some (.int (zn n))), rLogs (rMk R n m k) e n x 0) := by
  have b1 : zz_inb (zn n) 60 = true := zn_inT hn (by decide)
  have x1 : zz_ix (zn n) = n := zn_ix (by omega)
  have e11 : (11 : Int32) * zn n = zn (11 * n) := zn_mul 11 n
  have i1 : (zz_sI R 6 n k).1 0 5 = zn n := (sI_a (by decide)).trans h5
  have i2 : (zz_sI R 6 n k).1 0 48 = R.1 0 48 := sI_a (by decide)
  have st : zz_ev tX12_makes 109 [some (.ref 0), some (.int m), some (.int k), some (.int w), some (.int t), some (.long x), none, some (.int z), none] [] R =
      zz_ev tX12_makes 135 [some (.ref 0), some (.int m), some (.int k), some (.int w), some (.int t), some (.long x), none, some (.int z), some (.int (zn 0))] [] (zM (zz_sI (zz_sI R 6 n k) 11 n (R.1 0 48)) n m 0) := by
    rw [zM_0]
    (simp only [e_X12_makes, zo_iload, zo_lload, zo_aload, zo_istore, zo_lstore, zo_astore, zo_iinc, zo_pushI, zo_pushL, zo_null, zo_ii, zo_iid, zo_ll, zo_li, zo_lcmp, zo_i2l, zo_l2i, zo_dup, zo_dup2, zo_pop, zo_goto, zo_if, zo_icmp, zo_ifnull, zo_gets, zo_mm, zo_throw, zo_ret, zo_aret, zo_lret, q_iret_f, q_iret_1, q_iret_0, q_iret_b, q_c8_0, q_c8_1, q_c8_2, q_c8_3, q_c8_4, q_set_0, q_set_1i, q_set_1r, q_set_1n, q_set_1N, q_set_s, q_set_1j, q_bk_v, q_bk_n, q_if, zb_ite, cond_true, cond_false, List.getElem?_cons_zero, List.getElem?_cons_succ, Nat.reduceAdd, q_set_1l, q_set2_0, q_set2_1i, q_set2_1r, q_set2_1n, q_set2_s, h5, b1, x1, q_aR, i1, i2, if_true, if_false, zb_eq0, zb_eq1, zn_1, not_true_eq_false, not_false_eq_true, ite_true, ite_false, if_true, if_false, q_iret_0, q_iret_1, decide_true, decide_false, decide_not, zb_t, zb_f, z10, z01, cond_true, cond_false, Bool.and_true, Bool.true_and, Bool.and_false, Bool.false_and, Bool.not_true, Bool.not_false, true_and, and_true, false_and, and_false, true_or, or_true, false_or, or_false, Bool.true_eq_false, Bool.false_eq_true, eq_self, reduceCtorEq, Bool.or_true, Bool.true_or, Bool.or_false, Bool.false_or])
    rfl
  have j5 : (zz_sI (zz_sI R 6 n k) 11 n (R.1 0 48)).1 0 5 = zn n := (sI_a (by decide)).trans i1
  have j14 : (zz_sI (zz_sI R 6 n k) 11 n (R.1 0 48)).1 0 14 = zn e := (sI_a (by decide)).trans ((sI_a (by decide)).trans h14)
  unfold rMk
  rw [st]
  generalize zz_sI (zz_sI R 6 n k) 11 n (R.1 0 48) = S at j5 j14 ⊢
  have lp := zl_go (E := fun i => zz_ev tX12_makes 135 [some (.ref 0), some (.int m), some (.int k), some (.int w), some (.int t), some (.long x), none, some (.int z), some (.int (zn i))] [] (zM S n m i)) 11 (fun i hi => by
    have hc : ((11 : Int32) ≤ zn i) = False := zk_lt (n := 11) hi (Nat.le_refl 11) (by decide)
    have k5 : (zM S n m i).1 0 5 = zn n := (zM_a (by decide)).trans j5
    have em : zn (11 * n) + zn i = zn (11 * n + i) := zn_add _ _
    have b2 : zz_inb (zn (11 * n + i)) 660 = true := zn_inT (by omega) (by decide)
    have x2 : zz_ix (zn (11 * n + i)) = 11 * n + i := zn_ix (by omega)
    rw [zM_s]
    generalize zM S n m i = T at k5 ⊢
    (rw [e_X12_makes_135]; simp only [e_X12_makes, zo_iload, zo_lload, zo_aload, zo_istore, zo_lstore, zo_astore, zo_iinc, zo_pushI, zo_pushL, zo_null, zo_ii, zo_iid, zo_ll, zo_li, zo_lcmp, zo_i2l, zo_l2i, zo_dup, zo_dup2, zo_pop, zo_goto, zo_if, zo_icmp, zo_ifnull, zo_gets, zo_mm, zo_throw, zo_ret, zo_aret, zo_lret, q_iret_f, q_iret_1, q_iret_0, q_iret_b, q_c8_0, q_c8_1, q_c8_2, q_c8_3, q_c8_4, q_set_0, q_set_1i, q_set_1r, q_set_1n, q_set_1N, q_set_s, q_set_1j, q_bk_v, q_bk_n, q_if, zb_ite, cond_true, cond_false, List.getElem?_cons_zero, List.getElem?_cons_succ, Nat.reduceAdd, q_set_1l, q_set2_0, q_set2_1i, q_set2_1r, q_set2_1n, q_set2_s, hc, k5, e11, em, b2, x2, q_aR, if_true, if_false, zb_eq0, zb_eq1, zn_1, not_true_eq_false, not_false_eq_true, ite_true, ite_false, if_true, if_false, q_iret_0, q_iret_1, decide_true, decide_false, decide_not, zb_t, zb_f, z10, z01, cond_true, cond_false, Bool.and_true, Bool.true_and, Bool.and_false, Bool.false_and, Bool.not_true, Bool.not_false, true_and, and_true, false_and, and_false, true_or, or_true, false_or, or_false, Bool.true_eq_false, Bool.false_eq_true, eq_self, reduceCtorEq, Bool.or_true, Bool.true_or, Bool.or_false, Bool.false_or]))
  refine (show _ = _ from lp).trans ?_
  have hc : ((11 : Int32) ≤ zn 11) = True := eq_true (by decide)
  have k5 : (zM S n m 11).1 0 5 = zn n := (zM_a (by decide)).trans j5
  have k14 : (zM S n m 11).1 0 14 = zn e := (zM_a (by decide)).trans j14
  generalize zM S n m 11 = T at k5 k14 ⊢
  have l5 : (zz_sI T 0 5 (zn (n + 1))).1 0 5 = zn (n + 1) := sI_e
  have l14 : (zz_sI T 0 5 (zn (n + 1))).1 0 14 = zn e := (sI_b (by decide)).trans k14
  have hl := r_logs l14 he hn x 0
  have es : zn (n + 1) - 1 = zn n := zn_sub (b := 1) (by omega)
  have g5 : (rLogs (zz_sI T 0 5 (zn (n + 1))) e n x 0).1 0 5 = zn (n + 1) := by
    show (if 0 = 14 ∧ 5 = e + 1 then zn n else if 0 = 9 ∧ 5 = n then zn (e + 1) else if 0 = 0 ∧ 5 = 14 then zn (e + 1) else (zz_sI T 0 5 (zn (n + 1))).1 0 5) = _
    rw [if_neg (by omega), if_neg (by omega), if_neg (by omega)]
    exact l5
  generalize rLogs (zz_sI T 0 5 (zn (n + 1))) e n x 0 = Z at hl g5 ⊢
  (rw [e_X12_makes_135]; simp only [e_X12_makes, zo_iload, zo_lload, zo_aload, zo_istore, zo_lstore, zo_astore, zo_iinc, zo_pushI, zo_pushL, zo_null, zo_ii, zo_iid, zo_ll, zo_li, zo_lcmp, zo_i2l, zo_l2i, zo_dup, zo_dup2, zo_pop, zo_goto, zo_if, zo_icmp, zo_ifnull, zo_gets, zo_mm, zo_throw, zo_ret, zo_aret, zo_lret, q_iret_f, q_iret_1, q_iret_0, q_iret_b, q_c8_0, q_c8_1, q_c8_2, q_c8_3, q_c8_4, q_set_0, q_set_1i, q_set_1r, q_set_1n, q_set_1N, q_set_s, q_set_1j, q_bk_v, q_bk_n, q_if, zb_ite, cond_true, cond_false, List.getElem?_cons_zero, List.getElem?_cons_succ, Nat.reduceAdd, q_set_1l, q_set2_0, q_set2_1i, q_set2_1r, q_set2_1n, q_set2_s, hc, k5, l5, es, hl, g5, if_true, if_false, zb_eq0, zb_eq1, zn_1, not_true_eq_false, not_false_eq_true, ite_true, ite_false, if_true, if_false, q_iret_0, q_iret_1, decide_true, decide_false, decide_not, zb_t, zb_f, z10, z01, cond_true, cond_false, Bool.and_true, Bool.true_and, Bool.and_false, Bool.false_and, Bool.not_true, Bool.not_false, true_and, and_true, false_and, and_false, true_or, or_true, false_or, or_false, Bool.true_eq_false, Bool.false_eq_true, eq_self, reduceCtorEq, Bool.or_true, Bool.true_or, Bool.or_false, Bool.false_or])
end
end

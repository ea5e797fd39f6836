section
/-! SCHEDULER, in both: who has to go -/
def setQ (R : zzMd) (i : Nat) (V : Nat → Int32) : zzMd := (fun a b => if a = i then V b else R.1 a b, R.2)
theorem setQ_s (M : zzMd) (i : Nat) (V : Nat → Int32) (k : Nat) (x : Int32) : zz_sI (setQ M i V) i k x = setQ M i (dUp V k x) := by
  unfold zz_sI setQ dUp
  refine Prod.ext (funext fun a => funext fun b => ?_) rfl
  by_cases h : a = i <;> by_cases h2 : b = k <;> simp [h, h2]
theorem setQ_0 (M : zzMd) (i : Nat) : setQ M i (M.1 i) = M := by
  unfold setQ
  refine Prod.ext (funext fun a => funext fun b => ?_) rfl
  by_cases h : a = i <;> simp [h]
theorem setQ_i (M : zzMd) (i : Nat) (V : Nat → Int32) (b : Nat) : (setQ M i V).1 i b = V b := if_pos rfl
theorem setQ_n {M : zzMd} {i a : Nat} {V : Nat → Int32} (h : a ≠ i) (b : Nat) : (setQ M i V).1 a b = M.1 a b := if_neg h
theorem setQ_c {M : zzMd} {i j : Nat} {V U : Nat → Int32} (h : i ≠ j) : setQ (setQ M i V) j U = setQ (setQ M j U) i V := by
  unfold setQ
  refine Prod.ext (funext fun a => funext fun b => ?_) rfl
  show (if a = j then U b else if a = i then V b else M.1 a b) = (if a = i then V b else if a = j then U b else M.1 a b)
  by_cases q : a = j
  · rw [if_pos q, if_neg (fun z => h (z.symm.trans q)), if_pos q]
  · rw [if_neg q, if_neg q]
theorem setQ_q {M : zzMd} {i : Nat} {V U : Nat → Int32} : setQ (setQ M i V) i U = setQ M i U := by
  unfold setQ
  refine Prod.ext (funext fun a => funext fun b => ?_) rfl
  show (if a = i then U b else if a = i then V b else M.1 a b) = (if a = i then U b else M.1 a b)
  by_cases q : a = i
  · rw [if_pos q, if_pos q]
  · rw [if_neg q, if_neg q, if_neg q]
section
variable {A R : zzMd} {c o : Nat}
theorem Rl0_Q {i : Nat} {V : Nat → Int32} (hi : i = 36 ∨ i = 37) (H : Rl0 A R) : Rl0 A (setQ R i V) := Rl0_scr H (fun b _ _ _ _ => if_neg (by omega)) (fun a b _ _ h1 h2 => if_neg (by omega)) rfl
theorem rAt_Q {i : Nat} {V : Nat → Int32} (hi : i = 36 ∨ i = 37) (H : rAt A R c) : rAt A (setQ R i V) c := ⟨Rl0_Q hi H.1, (if_neg (by omega)).trans H.2.1, H.2.2⟩
theorem rKy_Q {i : Nat} {V : Nat → Int32} (hi : i = 36 ∨ i = 37) (H : rKy A R c o) : rKy A (setQ R i V) c o := ⟨rAt_Q hi H.1, RMan_c H.2.1 (fun _ => rfl) rfl rfl (fun b => if_neg (by omega)), (if_neg (by omega)).trans H.2.2.1, H.2.2.2⟩
/-- what the class's own list of victims holds is nobody's business -/
theorem Rl0_V {V : Nat → Int32} (H : Rl0 A R) : Rl0 (setV A V) R := Rl0_m H (zIC_V71.mpr H.1.2) (fun a b h _ _ _ _ _ _ _ _ _ => if_neg h) (fun _ _ _ _ _ _ _ _ _ _ _ => rfl) rfl (Nat.le_refl _) H.2.2.2.1 H.2.2.2.2.1 ⟨H.2.2.2.2.2.1, H.2.2.2.2.2.2.1, H.2.2.2.2.2.2.2.1, H.2.2.2.2.2.2.2.2.1, H.2.2.2.2.2.2.2.2.2.1, H.2.2.2.2.2.2.2.2.2.2.1, fun c hc => (if_neg (by omega)).trans (H.2.2.2.2.2.2.2.2.2.2.2 c hc)⟩
theorem rKy_V {V : Nat → Int32} (H : rKy A R c o) : rKy (setV A V) R c o := ⟨⟨Rl0_V H.1.1, H.1.2⟩, RMan_c H.2.1 (fun _ => rfl) rfl rfl (fun _ => rfl), H.2.2⟩
/-! the victims on a NODE -/
theorem vic_un (H : rAt A R 3) {i : Nat} (hi : i < 60) (h : ¬ i < nv A 6) (x : Int32) : vic A (zn i) x = false := by
  have := ((gP H hi).1 (by simp only [Nat.reduceAdd]; exact h)).2.1
  simp only [Nat.reduceAdd] at this
  have hs : stay A 6 (zn i) 2 = false := by
    unfold stay
    rw [this]
    exact decide_eq_false fun z => absurd z.1 (by decide)
  unfold vic
  rw [hs, Bool.false_and, Bool.and_false]
theorem vin_ext (H : rAt A R 3) (nd r : Int32) (s : Int32 × Nat × (Nat → Int32)) : ∀ n, nv A 6 ≤ n → n ≤ nv A 1 → vin A nd r n s = vin A nd r (nv A 6) s
  | 0, h, _ => by rw [Nat.le_zero.mp h]
  | n + 1, h, h2 => by
    rcases Nat.lt_or_eq_of_le h with h1 | h1
    · have ih := vin_ext H nd r s n (by omega) (by omega)
      rw [← ih]
      show (if s.1 ≤ 0 then s else vin A nd r n (bif vic A (zn n) nd && decide (rnk A (zn n) = r) then _ else s)) = _
      rw [vic_un H (lt_n60 H.1 (show n < nv A 1 by omega)) (by omega), Bool.false_and, cond_false]
      by_cases q : s.1 ≤ 0
      · rw [if_pos q]
        cases n with
        | zero => rfl
        | succ n => exact (if_pos q).symm
      · rw [if_neg q]
    · rw [← h1]
theorem vout_ext (H : rAt A R 3) (nd : Int32) (s : Int32 × Nat × (Nat → Int32)) : ∀ r, vout A nd (nv A 1) r s = vout A nd (nv A 6) r s := by
  intro r
  induction r with
  | zero => exact (show vout A nd (nv A 1) 0 s = s from rfl).trans (show s = vout A nd (nv A 6) 0 s from rfl)
  | succ r ih =>
    rw [vout_s, vout_s, ih]
    exact vin_ext H nd _ _ (nv A 1) (rv_nv H) (Nat.le_refl _)
theorem r_vin (H : rAt A R 3) (ho : o < nv A 6) {k : Nat} (hk : k < 60) (rk : Int32) {r : Nat} (hr : r < 2147483648) : ∀ (q : Nat) (s : Int32 × Nat × (Nat → Int32)) (j8 : Option Int32), q ≤ nv A 1 → vI A (nv A 1) r q s →
    ∃ x j8', zz_ev tX12_laysVictims 55 [some (.ref 0), some (.int (zn o)), some (.int (zn k)), some (.int rk), some (.int s.1), some (.int (zn s.2.1)), some (.int (zn r)), some (.int (zn q + -1)), zj j8] [] (setQ R 36 s.2.2) =
      zz_ev tX12_laysVictims 160 [some (.ref 0), some (.int (zn o)), some (.int (zn k)), some (.int rk), some (.int (vin A (zn k) (zn r) q s).1), some (.int (zn (vin A (zn k) (zn r) q s).2.1)), some (.int (zn r)), some (.int x), zj j8'] [] (setQ R 36 (vin A (zn k) (zn r) q s).2.2)
  | 0, s, j8, _, _ => by
    refine ⟨zn 0 + -1, j8, ?_⟩
    have c1 : ((zn 0 + -1 : Int32) < 0) = True := eq_true (by decide)
    show _ = zz_ev tX12_laysVictims 160 [some (.ref 0), some (.int (zn o)), some (.int (zn k)), some (.int rk), some (.int s.1), some (.int (zn s.2.1)), some (.int (zn r)), some (.int (zn 0 + -1)), zj j8] [] (setQ R 36 s.2.2)
    generalize hZ : zz_ev tX12_laysVictims 160 [some (.ref 0), some (.int (zn o)), some (.int (zn k)), some (.int rk), some (.int s.1), some (.int (zn s.2.1)), some (.int (zn r)), some (.int (zn 0 + -1)), zj j8] [] (setQ R 36 s.2.2) = Z
    rw [e_X12_laysVictims_55]
    (simp only [e_X12_laysVictims, zo_iload, zo_lload, zo_aload, zo_istore, zo_lstore, zo_astore, zo_iinc, zo_pushI, zo_pushL, zo_null, zo_ii, zo_iid, zo_ll, zo_li, zo_lcmp, zo_i2l, zo_l2i, zo_dup, zo_dup2, zo_pop, zo_goto, zo_if, zo_icmp, zo_ifnull, zo_gets, zo_mm, zo_throw, zo_ret, zo_aret, zo_lret, q_iret_f, q_iret_1, q_iret_0, q_iret_b, q_c8_0, q_c8_1, q_c8_2, q_c8_3, q_c8_4, q_set_0, q_set_1i, q_set_1r, q_set_1n, q_set_1N, q_set_s, q_set_1j, q_bk_v, q_bk_n, q_if, zb_ite, cond_true, cond_false, List.getElem?_cons_zero, List.getElem?_cons_succ, Nat.reduceAdd, q_set_1l, q_set2_0, q_set2_1i, q_set2_1r, q_set2_1n, q_set2_s, ↓hZ, c1, if_true, if_false, zb_eq0, zb_eq1, zn_1, not_true_eq_false, not_false_eq_true, ite_true, ite_false, if_true, if_false, q_iret_0, q_iret_1, decide_true, decide_false, decide_not, zb_t, zb_f, z10, z01, cond_true, cond_false, Bool.and_true, Bool.true_and, Bool.and_false, Bool.false_and, Bool.not_true, Bool.not_false, true_and, and_true, false_and, and_false, true_or, or_true, false_or, or_false, Bool.true_eq_false, Bool.false_eq_true, eq_self, reduceCtorEq, Bool.or_true, Bool.true_or, Bool.or_false, Bool.false_or])
  | q + 1, s, j8, hq, hI => by
    have e1 : zn (q + 1) + -1 = zn q := by
      rw [← Int32.sub_eq_add_neg (zn (q + 1)) 1]
      exact zn_sub (b := 1) (by omega)
    have hn := rl_n60 H.1
    have h60 : q < 60 := by omega
    have c1 : ((zn q : Int32) < 0) = False := zn_lt0 (by omega)
    rw [e1]
    unfold vin
    by_cases c2 : s.1 ≤ 0
    · refine ⟨zn q, j8, ?_⟩
      rw [if_pos c2]
      generalize hZ : zz_ev tX12_laysVictims 160 [some (.ref 0), some (.int (zn o)), some (.int (zn k)), some (.int rk), some (.int s.1), some (.int (zn s.2.1)), some (.int (zn r)), some (.int (zn q)), zj j8] [] (setQ R 36 s.2.2) = Z
      rw [e_X12_laysVictims_55]
      (simp only [e_X12_laysVictims, zo_iload, zo_lload, zo_aload, zo_istore, zo_lstore, zo_astore, zo_iinc, zo_pushI, zo_pushL, zo_null, zo_ii, zo_iid, zo_ll, zo_li, zo_lcmp, zo_i2l, zo_l2i, zo_dup, zo_dup2, zo_pop, zo_goto, zo_if, zo_icmp, zo_ifnull, zo_gets, zo_mm, zo_throw, zo_ret, zo_aret, zo_lret, q_iret_f, q_iret_1, q_iret_0, q_iret_b, q_c8_0, q_c8_1, q_c8_2, q_c8_3, q_c8_4, q_set_0, q_set_1i, q_set_1r, q_set_1n, q_set_1N, q_set_s, q_set_1j, q_bk_v, q_bk_n, q_if, zb_ite, cond_true, cond_false, List.getElem?_cons_zero, List.getElem?_cons_succ, Nat.reduceAdd, q_set_1l, q_set2_0, q_set2_1i, q_set2_1r, q_set2_1n, q_set2_s, ↓hZ, c1, c2, if_true, if_false, zb_eq0, zb_eq1, zn_1, not_true_eq_false, not_false_eq_true, ite_true, ite_false, if_true, if_false, q_iret_0, q_iret_1, decide_true, decide_false, decide_not, zb_t, zb_f, z10, z01, cond_true, cond_false, Bool.and_true, Bool.true_and, Bool.and_false, Bool.false_and, Bool.not_true, Bool.not_false, true_and, and_true, false_and, and_false, true_or, or_true, false_or, or_false, Bool.true_eq_false, Bool.false_eq_true, eq_self, reduceCtorEq, Bool.or_true, Bool.true_or, Bool.or_false, Bool.false_or])
    · rw [if_neg c2]
      have hI2 := vI_step (nd := zn k) (show q < nv A 1 by omega) hr hI
      have n40 : ((4 : Int32) = 0) = False := eq_false (by decide)
      have H36 : ∀ V, rAt A (setQ R 36 V) 3 := fun V => rAt_Q (Or.inl rfl) H
      have hs := r_stays (H36 s.2.2) h60 2
      simp only [Nat.reduceAdd] at hs
      have hv : vic A (zn q) (zn k) = (decide (rd A 6 (zn q) 28 = zn k) && (stay A 6 (zn q) 2 && (decide (rd A 6 (zn q) 29 = 0) || decide (rd A 6 (zn q) 29 = 1)))) := rfl
      cases d1 : stay A 6 (zn q) 2
      · rw [hv, d1, Bool.false_and, Bool.and_false, Bool.false_and, cond_false]
        obtain ⟨x, j8', hx⟩ := r_vin H ho hk rk hr q s (some 0) (by omega) ⟨Nat.le_trans hI.1 (vK_down A _ r q), hI.2⟩
        refine ⟨x, j8', Eq.trans ?_ hx⟩
        clear hx
        (rw [e_X12_laysVictims_55]; simp only [e_X12_laysVictims, zo_iload, zo_lload, zo_aload, zo_istore, zo_lstore, zo_astore, zo_iinc, zo_pushI, zo_pushL, zo_null, zo_ii, zo_iid, zo_ll, zo_li, zo_lcmp, zo_i2l, zo_l2i, zo_dup, zo_dup2, zo_pop, zo_goto, zo_if, zo_icmp, zo_ifnull, zo_gets, zo_mm, zo_throw, zo_ret, zo_aret, zo_lret, q_iret_f, q_iret_1, q_iret_0, q_iret_b, q_c8_0, q_c8_1, q_c8_2, q_c8_3, q_c8_4, q_set_0, q_set_1i, q_set_1r, q_set_1n, q_set_1N, q_set_s, q_set_1j, q_bk_v, q_bk_n, q_if, zb_ite, cond_true, cond_false, List.getElem?_cons_zero, List.getElem?_cons_succ, Nat.reduceAdd, q_set_1l, q_set2_0, q_set2_1i, q_set2_1r, q_set2_1n, q_set2_s, c1, c2, hs, d1, zj_some, if_true, if_false, zb_eq0, zb_eq1, zn_1, not_true_eq_false, not_false_eq_true, ite_true, ite_false, if_true, if_false, q_iret_0, q_iret_1, decide_true, decide_false, decide_not, zb_t, zb_f, z10, z01, cond_true, cond_false, Bool.and_true, Bool.true_and, Bool.and_false, Bool.false_and, Bool.not_true, Bool.not_false, true_and, and_true, false_and, and_false, true_or, or_true, false_or, or_false, Bool.true_eq_false, Bool.false_eq_true, eq_self, reduceCtorEq, Bool.or_true, Bool.true_or, Bool.or_false, Bool.false_or])
      have hsn : q < nv A 6 := seen_stay H h60 d1
      obtain ⟨-, -, g, -, -⟩ := rv_row H (o := q) hsn
      obtain ⟨h, h3, h29⟩ := g.2.2.2.2.2.2.2.1
      have h29' : rd A 6 (zn q) 29 = zn h := h29
      obtain ⟨V, -, -, -, v15, v16⟩ := r_vw (H36 s.2.2) (o := q) hsn
      simp only [Nat.reduceAdd] at v15 v16
      have v1 : fX12_viewed [.ref 0, .int (zn q), .int 1] (setQ R 36 s.2.2) = some (.inl (some (.int (rd A 6 (zn q) 1))), setQ R 36 s.2.2) := V 1 (by decide)
      rw [h29'] at v16
      by_cases d2 : rd A 6 (zn q) 28 = zn k
      · have d2' : (rd A 6 (zn q) 28 + 1 = zn (k + 1)) = True := eq_true (by rw [d2, zn_1])
        have l1 : ((1 : Int32) < zn h) = (1 < h) := zn_lt (a := 1) (b := h) (by decide) (by omega)
        have z0 : (zn h = 0) = (h = 0) := zn_inj (a := h) (b := 0) (by omega) (by decide)
        have z1 : (zn h = 1) = (h = 1) := zn_inj (a := h) (b := 1) (by omega) (by decide)
        by_cases d3 : 1 < h
        · have d3' : ((1 : Int32) < zn h) = True := l1.trans (eq_true d3)
          rw [hv, h29', decide_eq_false (show ¬ zn h = 0 by rw [z0]; omega), decide_eq_false (show ¬ zn h = 1 by rw [z1]; omega), Bool.or_self, Bool.and_false, Bool.and_false, Bool.false_and, cond_false]
          obtain ⟨x, j8', hx⟩ := r_vin H ho hk rk hr q s (some 0) (by omega) ⟨Nat.le_trans hI.1 (vK_down A _ r q), hI.2⟩
          refine ⟨x, j8', Eq.trans ?_ hx⟩
          clear hx
          (rw [e_X12_laysVictims_55]; simp only [e_X12_laysVictims, zo_iload, zo_lload, zo_aload, zo_istore, zo_lstore, zo_astore, zo_iinc, zo_pushI, zo_pushL, zo_null, zo_ii, zo_iid, zo_ll, zo_li, zo_lcmp, zo_i2l, zo_l2i, zo_dup, zo_dup2, zo_pop, zo_goto, zo_if, zo_icmp, zo_ifnull, zo_gets, zo_mm, zo_throw, zo_ret, zo_aret, zo_lret, q_iret_f, q_iret_1, q_iret_0, q_iret_b, q_c8_0, q_c8_1, q_c8_2, q_c8_3, q_c8_4, q_set_0, q_set_1i, q_set_1r, q_set_1n, q_set_1N, q_set_s, q_set_1j, q_bk_v, q_bk_n, q_if, zb_ite, cond_true, cond_false, List.getElem?_cons_zero, List.getElem?_cons_succ, Nat.reduceAdd, q_set_1l, q_set2_0, q_set2_1i, q_set2_1r, q_set2_1n, q_set2_s, c1, c2, hs, d1, v15, d2', v16, d3', zj_some, if_true, if_false, zb_eq0, zb_eq1, zn_1, not_true_eq_false, not_false_eq_true, ite_true, ite_false, if_true, if_false, q_iret_0, q_iret_1, decide_true, decide_false, decide_not, zb_t, zb_f, z10, z01, cond_true, cond_false, Bool.and_true, Bool.true_and, Bool.and_false, Bool.false_and, Bool.not_true, Bool.not_false, true_and, and_true, false_and, and_false, true_or, or_true, false_or, or_false, Bool.true_eq_false, Bool.false_eq_true, eq_self, reduceCtorEq, Bool.or_true, Bool.true_or, Bool.or_false, Bool.false_or])
        · have d3' : ((1 : Int32) < zn h) = False := l1.trans (eq_false d3)
          have hv1 : vic A (zn q) (zn k) = true := by
            rw [hv, h29', d1, decide_eq_true d2]
            by_cases y : h = 0
            · rw [decide_eq_true (show zn h = 0 by rw [z0]; exact y)]; rfl
            · rw [decide_eq_true (show zn h = 1 by rw [z1]; omega), Bool.or_true]; rfl
          rw [hv1, Bool.true_and] at hI2 ⊢
          have er : rd A 6 (zn q) 1 / 4 = rnk A (zn q) := rfl
          by_cases d4 : rnk A (zn q) = zn r
          · rw [decide_eq_true d4, cond_true] at hI2 ⊢
            obtain ⟨x, j8', hx⟩ := r_vin H ho hk rk hr q _ (some 1) (by omega) hI2
            refine ⟨x, j8', Eq.trans ?_ hx⟩
            clear hx
            have k1 := Nat.le_trans (Nat.succ_le_succ hI.1) (Nat.le_trans (vK_step (show q < nv A 1 by omega) hr d4) (vK_le A (nv A 1) r q))
            have b1 : zz_inb (zn s.2.1) 60 = true := zn_inT (by omega) (by decide)
            have x1 : zz_ix (zn s.2.1) = s.2.1 := zn_ix (by omega)
            have u1 : fX12_viewed [.ref 0, .int (zn q), .int 1] (setQ R 36 (dUp s.2.2 s.2.1 (zn q))) = some (.inl (some (.int (rd A 6 (zn q) 1))), setQ R 36 (dUp s.2.2 s.2.1 (zn q))) := (r_vw (H36 (dUp s.2.2 s.2.1 (zn q))) (o := q) hsn).1 1 (by decide)
            have hnd := r_need (rd A 6 (zn q) 1) (setQ R 36 (dUp s.2.2 s.2.1 (zn q)))
            have ss := setQ_s R 36 s.2.2 s.2.1 (zn q)
            (rw [e_X12_laysVictims_55]; simp only [e_X12_laysVictims, zo_iload, zo_lload, zo_aload, zo_istore, zo_lstore, zo_astore, zo_iinc, zo_pushI, zo_pushL, zo_null, zo_ii, zo_iid, zo_ll, zo_li, zo_lcmp, zo_i2l, zo_l2i, zo_dup, zo_dup2, zo_pop, zo_goto, zo_if, zo_icmp, zo_ifnull, zo_gets, zo_mm, zo_throw, zo_ret, zo_aret, zo_lret, q_iret_f, q_iret_1, q_iret_0, q_iret_b, q_c8_0, q_c8_1, q_c8_2, q_c8_3, q_c8_4, q_set_0, q_set_1i, q_set_1r, q_set_1n, q_set_1N, q_set_s, q_set_1j, q_bk_v, q_bk_n, q_if, zb_ite, cond_true, cond_false, List.getElem?_cons_zero, List.getElem?_cons_succ, Nat.reduceAdd, q_set_1l, q_set2_0, q_set2_1i, q_set2_1r, q_set2_1n, q_set2_s, c1, c2, hs, d1, v15, d2', v16, d3', v1, n40, er, d4, b1, x1, q_aR, ss, u1, hnd, zj_some, if_true, if_false, zb_eq0, zb_eq1, zn_1, not_true_eq_false, not_false_eq_true, ite_true, ite_false, if_true, if_false, q_iret_0, q_iret_1, decide_true, decide_false, decide_not, zb_t, zb_f, z10, z01, cond_true, cond_false, Bool.and_true, Bool.true_and, Bool.and_false, Bool.false_and, Bool.not_true, Bool.not_false, true_and, and_true, false_and, and_false, true_or, or_true, false_or, or_false, Bool.true_eq_false, Bool.false_eq_true, eq_self, reduceCtorEq, Bool.or_true, Bool.true_or, Bool.or_false, Bool.false_or])
          · rw [decide_eq_false d4, cond_false] at hI2 ⊢
            obtain ⟨x, j8', hx⟩ := r_vin H ho hk rk hr q _ (some 0) (by omega) hI2
            refine ⟨x, j8', Eq.trans ?_ hx⟩
            clear hx
            (rw [e_X12_laysVictims_55]; simp only [e_X12_laysVictims, zo_iload, zo_lload, zo_aload, zo_istore, zo_lstore, zo_astore, zo_iinc, zo_pushI, zo_pushL, zo_null, zo_ii, zo_iid, zo_ll, zo_li, zo_lcmp, zo_i2l, zo_l2i, zo_dup, zo_dup2, zo_pop, zo_goto, zo_if, zo_icmp, zo_ifnull, zo_gets, zo_mm, zo_throw, zo_ret, zo_aret, zo_lret, q_iret_f, q_iret_1, q_iret_0, q_iret_b, q_c8_0, q_c8_1, q_c8_2, q_c8_3, q_c8_4, q_set_0, q_set_1i, q_set_1r, q_set_1n, q_set_1N, q_set_s, q_set_1j, q_bk_v, q_bk_n, q_if, zb_ite, cond_true, cond_false, List.getElem?_cons_zero, List.getElem?_cons_succ, Nat.reduceAdd, q_set_1l, q_set2_0, q_set2_1i, q_set2_1r, q_set2_1n, q_set2_s, c1, c2, hs, d1, v15, d2', v16, d3', v1, n40, er, d4, zj_some, if_true, if_false, zb_eq0, zb_eq1, zn_1, not_true_eq_false, not_false_eq_true, ite_true, ite_false, if_true, if_false, q_iret_0, q_iret_1, decide_true, decide_false, decide_not, zb_t, zb_f, z10, z01, cond_true, cond_false, Bool.and_true, Bool.true_and, Bool.and_false, Bool.false_and, Bool.not_true, Bool.not_false, true_and, and_true, false_and, and_false, true_or, or_true, false_or, or_false, Bool.true_eq_false, Bool.false_eq_true, eq_self, reduceCtorEq, Bool.or_true, Bool.true_or, Bool.or_false, Bool.false_or])
      · have d2' : (rd A 6 (zn q) 28 + 1 = zn (k + 1)) = False := by rw [← zn_1, p1_inj]; exact eq_false d2
        rw [hv, decide_eq_false d2, Bool.false_and, Bool.false_and, cond_false]
        obtain ⟨x, j8', hx⟩ := r_vin H ho hk rk hr q s (some 0) (by omega) ⟨Nat.le_trans hI.1 (vK_down A _ r q), hI.2⟩
        refine ⟨x, j8', Eq.trans ?_ hx⟩
        clear hx
        (rw [e_X12_laysVictims_55]; simp only [e_X12_laysVictims, zo_iload, zo_lload, zo_aload, zo_istore, zo_lstore, zo_astore, zo_iinc, zo_pushI, zo_pushL, zo_null, zo_ii, zo_iid, zo_ll, zo_li, zo_lcmp, zo_i2l, zo_l2i, zo_dup, zo_dup2, zo_pop, zo_goto, zo_if, zo_icmp, zo_ifnull, zo_gets, zo_mm, zo_throw, zo_ret, zo_aret, zo_lret, q_iret_f, q_iret_1, q_iret_0, q_iret_b, q_c8_0, q_c8_1, q_c8_2, q_c8_3, q_c8_4, q_set_0, q_set_1i, q_set_1r, q_set_1n, q_set_1N, q_set_s, q_set_1j, q_bk_v, q_bk_n, q_if, zb_ite, cond_true, cond_false, List.getElem?_cons_zero, List.getElem?_cons_succ, Nat.reduceAdd, q_set_1l, q_set2_0, q_set2_1i, q_set2_1r, q_set2_1n, q_set2_s, c1, c2, hs, d1, v15, d2', zj_some, if_true, if_false, zb_eq0, zb_eq1, zn_1, not_true_eq_false, not_false_eq_true, ite_true, ite_false, if_true, if_false, q_iret_0, q_iret_1, decide_true, decide_false, decide_not, zb_t, zb_f, z10, z01, cond_true, cond_false, Bool.and_true, Bool.true_and, Bool.and_false, Bool.false_and, Bool.not_true, Bool.not_false, true_and, and_true, false_and, and_false, true_or, or_true, false_or, or_false, Bool.true_eq_false, Bool.false_eq_true, eq_self, reduceCtorEq, Bool.or_true, Bool.true_or, Bool.or_false, Bool.false_or])
end
end

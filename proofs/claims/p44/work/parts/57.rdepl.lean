section
/-! DEPLOYER, in both -/
section
variable {A R : zzMd} {c o : Nat}
def srvTo (A : zzMd) (q : Int32 × zzMd) (c o : Nat) (r : Option zzRt) : Prop := ∃ R' b, r = some (.inl (some (.int (zb b))), R') ∧ q.1 = oc b ∧ rKy (wrtn (A.1 1 3) c o q.2) R' c o
theorem srv_act {p : Bool × zzMd} {r : Option zzRt} (h : actTo A p c o R r) : srvTo A (oc2 p) c o r := by
  obtain ⟨R', h1, h2, -⟩ := h
  exact ⟨R', p.1, h1, rfl, h2⟩
theorem srv_no (H : rKy A R c o) : srvTo A (1, A) c o (some (.inl (some (.int 1)), R)) := ⟨R, true, rfl, rfl, by rw [wrtn_0]; exact H⟩
theorem fld (H : rAt A R c) {i f : Nat} (hi : i < nv A (3 + c)) (hf : f < 11) : ∃ a, rd A (3 + c) (zn i) (zn f) = zn a ∧ leastF f ≤ a ∧ a ≤ mostF f := (rv_row H hi).2.2.1.1 f hf
theorem zn_subneg {a b : Nat} (h : a ≤ b) (hb : b < 1000000) : (zn a - zn b ≤ 0) = True := by
  refine eq_true ?_
  rw [Int32.le_iff_toInt_le, Int32.toInt_sub, zn_toInt (by omega), zn_toInt (by omega), Int.bmod_eq_of_le (by omega) (by omega)]
  have : (0 : Int32).toInt = 0 := rfl
  omega
theorem sub_sub' (a b d : Int32) : a - (b - d) = a - b + d := by
  have h1 := Int32.sub_add_cancel b d
  generalize b - d = y at h1 ⊢
  rw [← h1]
  have h2 := Int32.sub_add_cancel a (y + d)
  generalize a - (y + d) = z at h2 ⊢
  rw [← h2, Int32.add_comm y d, ← Int32.add_assoc, Int32.add_sub_cancel]
theorem wants_of (H : rKy A R c o) {b a h : Nat} (hb : b < nv A (3 + c)) (hk : rd A (3 + c) (zn b) 23 = 1 ∨ rd A (3 + c) (zn b) 23 = 0) (e : rd A (3 + c) (zn b) 0 = zn h) (h5 : h ≤ 5) (ha : a ≤ 5) (hne : h ≠ a) :
    actTo A (aWant A c b (zn a)) c o R (fX12_wants [.ref 0, .int (zn b), .int (zn a)] R) := by
  have hn := Nat.lt_of_lt_of_le hb (rv_nv H.1)
  have hr : row A b 23 = rd A (3 + c) (zn b) 23 := by rw [(rl_cur H.1.1 hn).2.2.2.2, (rv_row H.1 hb).2.2.2.2]
  have hF : hasF (row A b 23) 0 = true := by
    rw [hr]
    rcases hk with q | q <;> rw [q] <;> decide
  have := r_wants H hn hF ha
  unfold aWant
  rw [e, decide_eq_false (by rw [zn_inj (by omega) (by omega)]; exact hne)]
  exact this
theorem own_kind {i : Nat} {k w : Int32} (h : owned A (3 + c) (zn i) k w = true) : rd A (3 + c) (zn i) 23 = k := (of_decide_eq_true h).2.1
theorem zsum_nat {g : Nat → Int32} : ∀ {n : Nat}, n ≤ 60 → (∀ i, i < n → ∃ a, g i = zn a ∧ a ≤ 60) → ∃ T, zsum n g = zn T ∧ T ≤ 60 * n
  | 0, _, _ => ⟨0, rfl, Nat.le_refl _⟩
  | n + 1, hn, h => by
    obtain ⟨T, h1, h2⟩ := zsum_nat (n := n) (by omega) fun i hi => h i (by omega)
    obtain ⟨a, h3, h4⟩ := h n (Nat.lt_succ_self n)
    exact ⟨T + a, by rw [zsum_s, h1, h3, zn_add], by omega⟩
theorem r_lessens (H : rKy A R 0 o) (ho : o < nv A 3) {t : Nat} {w : Int32} (ht : otSet A (zn o) w = some t) :
    actTo A (aWant A 0 t (less A (zn o) (zn t))) 0 o R (fX12_lessens [.ref 0, .int (zn t), .int (cRA A 3 (zn o) - rd A 3 (zn o) 0 + rd A 3 (zn o) 3)] R) := by
  obtain ⟨t1, t2, -⟩ := zfst_some ht
  simp only [Bool.and_eq_true, Bool.not_eq_true', decide_eq_false_iff_not] at t2
  obtain ⟨-, t3, t4⟩ := t2
  obtain ⟨x, x1, -, x3⟩ := fld H.1 (i := t) (f := 0) t1 (by decide)
  have x1' : rd A 3 (zn t) 0 = zn x := x1
  have x5 : x ≤ 5 := x3
  have hn6 := rv_n60 H.1
  simp only [Nat.reduceAdd] at hn6
  have v0 : fX12_viewed [.ref 0, .int (zn t), .int 0] R = some (.inl (some (.int (zn x))), R) := by
    have := (r_vw H.1 (o := t) t1).1 0 (by decide)
    rw [x1] at this
    exact this
  have hp := r_pods2 H.1 (w := zn t) (zn_m1 (by omega)).mp
  simp only [Nat.reduceAdd] at hp
  have hcr : cntRun A 3 (nv A 3) (zn t) ≤ 60 := by
    unfold cntRun
    split
    · omega
    · exact Nat.le_trans (zcnt_le _ _) hn6
  have hk : rd A (3 + 0) (zn t) 23 = 1 := own_kind (c := 0) t3
  have esp : cRA A 3 (zn o) - (rd A 3 (zn o) 0 - rd A 3 (zn o) 3) = cRA A 3 (zn o) - rd A 3 (zn o) 0 + rd A 3 (zn o) 3 := sub_sub' _ _ _
  have w0 : ∀ a, a ≤ 5 → x ≠ a → actTo A (aWant A 0 t (zn a)) 0 o R (fX12_wants [.ref 0, .int (zn t), .int (zn a)] R) := fun a ha hne => wants_of H t1 (Or.inl hk) x1 x5 ha hne
  unfold less
  rw [esp, x1', s_X12_lessens]
  generalize cRA A 3 (zn o) - rd A 3 (zn o) 0 + rd A 3 (zn o) 3 = over
  generalize cntRun A 3 (nv A 3) (zn t) = run at hp hcr ⊢
  by_cases d1 : x ≤ run
  · have c1 : (zn x ≤ zn run) = True := zn_le (a := x) (b := run) (by omega) (by omega) ▸ eq_true d1
    rw [if_pos (of_eq_true c1)]
    by_cases d2 : over ≤ 0
    · rw [if_pos d2]
      have ew : aWant A 0 t (zn x) = (true, A) := by
        unfold aWant
        rw [x1', decide_eq_true rfl]
        rfl
      rw [ew]
      refine ⟨R, ?_, by rw [wrtn_0]; exact H, fun _ => rfl⟩
      (simp only [e_X12_lessens, zo_iload, zo_lload, zo_aload, zo_istore, zo_lstore, zo_astore, zo_iinc, zo_pushI, zo_pushL, zo_null, zo_ii, zo_iid, zo_ll, zo_li, zo_lcmp, zo_i2l, zo_l2i, zo_dup, zo_dup2, zo_pop, zo_goto, zo_if, zo_icmp, zo_ifnull, zo_gets, zo_mm, zo_throw, zo_ret, zo_aret, zo_lret, q_iret_f, q_iret_1, q_iret_0, q_iret_b, q_c8_0, q_c8_1, q_c8_2, q_c8_3, q_c8_4, q_set_0, q_set_1i, q_set_1r, q_set_1n, q_set_1N, q_set_s, q_set_1j, q_bk_v, q_bk_n, q_if, zb_ite, cond_true, cond_false, List.getElem?_cons_zero, List.getElem?_cons_succ, Nat.reduceAdd, q_set_1l, q_set2_0, q_set2_1i, q_set2_1r, q_set2_1n, q_set2_s, v0, hp, c1, d2, if_true, if_false, zb_eq0, zb_eq1, zn_1, not_true_eq_false, not_false_eq_true, ite_true, ite_false, if_true, if_false, q_iret_0, q_iret_1, decide_true, decide_false, decide_not, zb_t, zb_f, z10, z01, cond_true, cond_false, Bool.and_true, Bool.true_and, Bool.and_false, Bool.false_and, Bool.not_true, Bool.not_false, true_and, and_true, false_and, and_false, true_or, or_true, false_or, or_false, Bool.true_eq_false, Bool.false_eq_true, eq_self, reduceCtorEq, Bool.or_true, Bool.true_or, Bool.or_false, Bool.false_or])
    · rw [if_neg d2]
      have hpos : ∃ u, over = zn u ∧ 1 ≤ u ∧ u < 2147483648 := by
        have h0 : ¬ over.toInt ≤ 0 := fun q => d2 (Int32.le_iff_toInt_le.mpr q)
        have h1 := over.toInt_lt
        obtain ⟨a1, a2⟩ := zn_of (x := over) (n := 2147483648) (by omega) (by omega)
        refine ⟨zz_ix over, a1, ?_, a2⟩
        have h2 : over.toInt = (zz_ix over : Nat) := by rw [← zn_toInt (k := zz_ix over) a2, ← a1]
        omega
      obtain ⟨u, u1, u2, u3⟩ := hpos
      subst u1
      have hx1 : 1 ≤ x := by
        have h9 : ¬ rd A 3 (zn t) 0 ≤ 0 := t4
        rw [x1'] at h9
        have := zn_le (a := x) (b := 0) (by omega) (by decide)
        rw [show (zn 0 : Int32) = 0 from rfl] at this
        rw [this] at h9
        omega
      by_cases d3 : x ≤ u
      · have c3 : (zn x ≤ zn u) = True := zn_le (a := x) (b := u) (by omega) (by omega) ▸ eq_true d3
        have ev : zn x - (if zn x < zn u then zn x else zn u) = zn 0 := by
          by_cases q : x < u
          · rw [if_pos ((zn_lt (a := x) (b := u) (by omega) (by omega)).mpr q), zn_sub (Nat.le_refl _), Nat.sub_self]
          · rw [if_neg (fun z => q ((zn_lt (a := x) (b := u) (by omega) (by omega)).mp z)), show u = x by omega, zn_sub (Nat.le_refl _), Nat.sub_self]
        rw [ev]
        obtain ⟨R', e1, e2, e3⟩ := w0 0 (by decide) (by omega)
        refine ⟨R', ?_, e2, e3⟩
        have e1' : fX12_wants [.ref 0, .int (zn t), .int 0] R = _ := e1
        generalize aWant A 0 t (zn 0) = P at e1' ⊢
        cases hP : P.1 <;> rw [hP] at e1'
        · simp only [zb_f] at e1'
          (simp only [e_X12_lessens, zo_iload, zo_lload, zo_aload, zo_istore, zo_lstore, zo_astore, zo_iinc, zo_pushI, zo_pushL, zo_null, zo_ii, zo_iid, zo_ll, zo_li, zo_lcmp, zo_i2l, zo_l2i, zo_dup, zo_dup2, zo_pop, zo_goto, zo_if, zo_icmp, zo_ifnull, zo_gets, zo_mm, zo_throw, zo_ret, zo_aret, zo_lret, q_iret_f, q_iret_1, q_iret_0, q_iret_b, q_c8_0, q_c8_1, q_c8_2, q_c8_3, q_c8_4, q_set_0, q_set_1i, q_set_1r, q_set_1n, q_set_1N, q_set_s, q_set_1j, q_bk_v, q_bk_n, q_if, zb_ite, cond_true, cond_false, List.getElem?_cons_zero, List.getElem?_cons_succ, Nat.reduceAdd, q_set_1l, q_set2_0, q_set2_1i, q_set2_1r, q_set2_1n, q_set2_s, v0, hp, c1, d2, c3, e1', if_true, if_false, zb_eq0, zb_eq1, zn_1, not_true_eq_false, not_false_eq_true, ite_true, ite_false, if_true, if_false, q_iret_0, q_iret_1, decide_true, decide_false, decide_not, zb_t, zb_f, z10, z01, cond_true, cond_false, Bool.and_true, Bool.true_and, Bool.and_false, Bool.false_and, Bool.not_true, Bool.not_false, true_and, and_true, false_and, and_false, true_or, or_true, false_or, or_false, Bool.true_eq_false, Bool.false_eq_true, eq_self, reduceCtorEq, Bool.or_true, Bool.true_or, Bool.or_false, Bool.false_or])
        · simp only [zb_t] at e1'
          (simp only [e_X12_lessens, zo_iload, zo_lload, zo_aload, zo_istore, zo_lstore, zo_astore, zo_iinc, zo_pushI, zo_pushL, zo_null, zo_ii, zo_iid, zo_ll, zo_li, zo_lcmp, zo_i2l, zo_l2i, zo_dup, zo_dup2, zo_pop, zo_goto, zo_if, zo_icmp, zo_ifnull, zo_gets, zo_mm, zo_throw, zo_ret, zo_aret, zo_lret, q_iret_f, q_iret_1, q_iret_0, q_iret_b, q_c8_0, q_c8_1, q_c8_2, q_c8_3, q_c8_4, q_set_0, q_set_1i, q_set_1r, q_set_1n, q_set_1N, q_set_s, q_set_1j, q_bk_v, q_bk_n, q_if, zb_ite, cond_true, cond_false, List.getElem?_cons_zero, List.getElem?_cons_succ, Nat.reduceAdd, q_set_1l, q_set2_0, q_set2_1i, q_set2_1r, q_set2_1n, q_set2_s, v0, hp, c1, d2, c3, e1', if_true, if_false, zb_eq0, zb_eq1, zn_1, not_true_eq_false, not_false_eq_true, ite_true, ite_false, if_true, if_false, q_iret_0, q_iret_1, decide_true, decide_false, decide_not, zb_t, zb_f, z10, z01, cond_true, cond_false, Bool.and_true, Bool.true_and, Bool.and_false, Bool.false_and, Bool.not_true, Bool.not_false, true_and, and_true, false_and, and_false, true_or, or_true, false_or, or_false, Bool.true_eq_false, Bool.false_eq_true, eq_self, reduceCtorEq, Bool.or_true, Bool.true_or, Bool.or_false, Bool.false_or])
      · have c3 : (zn x ≤ zn u) = False := zn_le (a := x) (b := u) (by omega) (by omega) ▸ eq_false d3
        have es : zn x - zn u = zn (x - u) := zn_sub (by omega)
        have ev : zn x - (if zn x < zn u then zn x else zn u) = zn (x - u) := by
          rw [if_neg (fun z => by rw [zn_lt (by omega) (by omega)] at z; omega), es]
        rw [ev]
        obtain ⟨R', e1, e2, e3⟩ := w0 (x - u) (by omega) (by omega)
        refine ⟨R', ?_, e2, e3⟩
        generalize aWant A 0 t (zn (x - u)) = P at e1 ⊢
        cases hP : P.1 <;> rw [hP] at e1
        · simp only [zb_f] at e1
          (simp only [e_X12_lessens, zo_iload, zo_lload, zo_aload, zo_istore, zo_lstore, zo_astore, zo_iinc, zo_pushI, zo_pushL, zo_null, zo_ii, zo_iid, zo_ll, zo_li, zo_lcmp, zo_i2l, zo_l2i, zo_dup, zo_dup2, zo_pop, zo_goto, zo_if, zo_icmp, zo_ifnull, zo_gets, zo_mm, zo_throw, zo_ret, zo_aret, zo_lret, q_iret_f, q_iret_1, q_iret_0, q_iret_b, q_c8_0, q_c8_1, q_c8_2, q_c8_3, q_c8_4, q_set_0, q_set_1i, q_set_1r, q_set_1n, q_set_1N, q_set_s, q_set_1j, q_bk_v, q_bk_n, q_if, zb_ite, cond_true, cond_false, List.getElem?_cons_zero, List.getElem?_cons_succ, Nat.reduceAdd, q_set_1l, q_set2_0, q_set2_1i, q_set2_1r, q_set2_1n, q_set2_s, v0, hp, c1, d2, c3, es, e1, if_true, if_false, zb_eq0, zb_eq1, zn_1, not_true_eq_false, not_false_eq_true, ite_true, ite_false, if_true, if_false, q_iret_0, q_iret_1, decide_true, decide_false, decide_not, zb_t, zb_f, z10, z01, cond_true, cond_false, Bool.and_true, Bool.true_and, Bool.and_false, Bool.false_and, Bool.not_true, Bool.not_false, true_and, and_true, false_and, and_false, true_or, or_true, false_or, or_false, Bool.true_eq_false, Bool.false_eq_true, eq_self, reduceCtorEq, Bool.or_true, Bool.true_or, Bool.or_false, Bool.false_or])
        · simp only [zb_t] at e1
          (simp only [e_X12_lessens, zo_iload, zo_lload, zo_aload, zo_istore, zo_lstore, zo_astore, zo_iinc, zo_pushI, zo_pushL, zo_null, zo_ii, zo_iid, zo_ll, zo_li, zo_lcmp, zo_i2l, zo_l2i, zo_dup, zo_dup2, zo_pop, zo_goto, zo_if, zo_icmp, zo_ifnull, zo_gets, zo_mm, zo_throw, zo_ret, zo_aret, zo_lret, q_iret_f, q_iret_1, q_iret_0, q_iret_b, q_c8_0, q_c8_1, q_c8_2, q_c8_3, q_c8_4, q_set_0, q_set_1i, q_set_1r, q_set_1n, q_set_1N, q_set_s, q_set_1j, q_bk_v, q_bk_n, q_if, zb_ite, cond_true, cond_false, List.getElem?_cons_zero, List.getElem?_cons_succ, Nat.reduceAdd, q_set_1l, q_set2_0, q_set2_1i, q_set2_1r, q_set2_1n, q_set2_s, v0, hp, c1, d2, c3, es, e1, if_true, if_false, zb_eq0, zb_eq1, zn_1, not_true_eq_false, not_false_eq_true, ite_true, ite_false, if_true, if_false, q_iret_0, q_iret_1, decide_true, decide_false, decide_not, zb_t, zb_f, z10, z01, cond_true, cond_false, Bool.and_true, Bool.true_and, Bool.and_false, Bool.false_and, Bool.not_true, Bool.not_false, true_and, and_true, false_and, and_false, true_or, or_true, false_or, or_false, Bool.true_eq_false, Bool.false_eq_true, eq_self, reduceCtorEq, Bool.or_true, Bool.true_or, Bool.or_false, Bool.false_or])
  · have c1 : (zn x ≤ zn run) = False := zn_le (a := x) (b := run) (by omega) (by omega) ▸ eq_false d1
    rw [if_neg c1.mp]
    obtain ⟨R', e1, e2, e3⟩ := w0 run (by omega) (by omega)
    refine ⟨R', ?_, e2, e3⟩
    (simp only [e_X12_lessens, zo_iload, zo_lload, zo_aload, zo_istore, zo_lstore, zo_astore, zo_iinc, zo_pushI, zo_pushL, zo_null, zo_ii, zo_iid, zo_ll, zo_li, zo_lcmp, zo_i2l, zo_l2i, zo_dup, zo_dup2, zo_pop, zo_goto, zo_if, zo_icmp, zo_ifnull, zo_gets, zo_mm, zo_throw, zo_ret, zo_aret, zo_lret, q_iret_f, q_iret_1, q_iret_0, q_iret_b, q_c8_0, q_c8_1, q_c8_2, q_c8_3, q_c8_4, q_set_0, q_set_1i, q_set_1r, q_set_1n, q_set_1N, q_set_s, q_set_1j, q_bk_v, q_bk_n, q_if, zb_ite, cond_true, cond_false, List.getElem?_cons_zero, List.getElem?_cons_succ, Nat.reduceAdd, q_set_1l, q_set2_0, q_set2_1i, q_set2_1r, q_set2_1n, q_set2_s, v0, hp, c1, e1, if_true, if_false, zb_eq0, zb_eq1, zn_1, not_true_eq_false, not_false_eq_true, ite_true, ite_false, if_true, if_false, q_iret_0, q_iret_1, decide_true, decide_false, decide_not, zb_t, zb_f, z10, z01, cond_true, cond_false, Bool.and_true, Bool.true_and, Bool.and_false, Bool.false_and, Bool.not_true, Bool.not_false, true_and, and_true, false_and, and_false, true_or, or_true, false_or, or_false, Bool.true_eq_false, Bool.false_eq_true, eq_self, reduceCtorEq, Bool.or_true, Bool.true_or, Bool.or_false, Bool.false_or])
theorem set_new (H : rAt A R 0) (ho : o < 60) {t : Nat} (ht : rd A 3 (zn o) 1 = zn t) (h9 : t ≤ 9) : zfst (nv A 1) (stP A 3 (zn o) (zn t) (-1)) = newSet A 3 (nv A 3) (zn o) := by
  unfold newSet
  have un : ∀ i, nv A 3 ≤ i → i < nv A 1 → stP A 3 (zn o) (zn t) (-1) i = false := fun i h1 h2 => by
    unfold stP
    have := own_un H (i := i) (lt_n60 H.1 h2) (by simp only [Nat.reduceAdd]; omega) 1 (zn o)
    simp only [Nat.reduceAdd] at this
    rw [this, Bool.false_and]
  rw [zfst_ext (show nv A 3 ≤ nv A 1 from rv_nv H) un]
  refine zfst_congr fun i hi => ?_
  have hn6 := rv_n60 H
  simp only [Nat.reduceAdd] at hn6
  unfold stP
  rw [ht, decide_eq_false (zn_m1 (k := i) (by omega)).mp, decide_eq_false (zn_m1 (k := t) (by omega)).mp]
  rfl
theorem set_oth (H : rAt A R 0) (d w : Int32) : zfst (nv A 1) (stP A 3 d (-1) w) = otSet A d w := by
  unfold otSet
  have un : ∀ i, nv A 3 ≤ i → i < nv A 1 → stP A 3 d (-1) w i = false := fun i h1 h2 => by
    unfold stP
    have := own_un H (i := i) (lt_n60 H.1 h2) (by simp only [Nat.reduceAdd]; omega) 1 d
    simp only [Nat.reduceAdd] at this
    rw [this, Bool.false_and]
  rw [zfst_ext (show nv A 3 ≤ nv A 1 from rv_nv H) un]
  refine zfst_congr fun i hi => ?_
  unfold stP
  rw [decide_eq_true rfl]
  cases owned A 3 (zn i) 1 d <;> cases decide (zn i = w) <;> rfl
theorem r_deploys (H : rKy A R 0 o) : srvTo A (dS0 A A o) 0 o (fX12_deploys [.ref 0] R) := by
  have h60 := H.2.2.2
  have h43 := H.2.2.1
  have hs := r_stays H.1 h60 0
  simp only [Nat.reduceAdd] at hs
  rw [s_X12_deploys]
  unfold dS0
  cases d1 : stay A 3 (zn o) 0
  · have e : zz_ev tX12_deploys 0 [some (.ref 0), none, none, none, none] [] R = some (.inl (some (.int 1)), R) := by
      (simp only [e_X12_deploys, zo_iload, zo_lload, zo_aload, zo_istore, zo_lstore, zo_astore, zo_iinc, zo_pushI, zo_pushL, zo_null, zo_ii, zo_iid, zo_ll, zo_li, zo_lcmp, zo_i2l, zo_l2i, zo_dup, zo_dup2, zo_pop, zo_goto, zo_if, zo_icmp, zo_ifnull, zo_gets, zo_mm, zo_throw, zo_ret, zo_aret, zo_lret, q_iret_f, q_iret_1, q_iret_0, q_iret_b, q_c8_0, q_c8_1, q_c8_2, q_c8_3, q_c8_4, q_set_0, q_set_1i, q_set_1r, q_set_1n, q_set_1N, q_set_s, q_set_1j, q_bk_v, q_bk_n, q_if, zb_ite, cond_true, cond_false, List.getElem?_cons_zero, List.getElem?_cons_succ, Nat.reduceAdd, q_set_1l, q_set2_0, q_set2_1i, q_set2_1r, q_set2_1n, q_set2_s, h43, hs, d1, if_true, if_false, zb_eq0, zb_eq1, zn_1, not_true_eq_false, not_false_eq_true, ite_true, ite_false, if_true, if_false, q_iret_0, q_iret_1, decide_true, decide_false, decide_not, zb_t, zb_f, z10, z01, cond_true, cond_false, Bool.and_true, Bool.true_and, Bool.and_false, Bool.false_and, Bool.not_true, Bool.not_false, true_and, and_true, false_and, and_false, true_or, or_true, false_or, or_false, Bool.true_eq_false, Bool.false_eq_true, eq_self, reduceCtorEq, Bool.or_true, Bool.true_or, Bool.or_false, Bool.false_or])
    rw [e]
    exact srv_no H
  have hseen : o < nv A 3 := by
    by_cases q : o < nv A 3
    · exact q
    · have h2 : rd A (3 + 0) (zn o) 25 = 4 := rv_un H.1 (s := 25) h60 (by decide) q
      unfold stay at d1
      simp only [Nat.reduceAdd] at h2
      rw [h2] at d1
      exact absurd (of_decide_eq_true d1).2 (by decide)
  have hon : o < nv A 1 := Nat.lt_of_lt_of_le hseen (rv_nv H.1)
  have V := (r_vw H.1 (o := o) hseen).1
  have v0 : fX12_viewed [.ref 0, .int (zn o), .int 0] R = some (.inl (some (.int (rd A 3 (zn o) 0))), R) := V 0 (by decide)
  have v1 : fX12_viewed [.ref 0, .int (zn o), .int 1] R = some (.inl (some (.int (rd A 3 (zn o) 1))), R) := V 1 (by decide)
  have v2 : fX12_viewed [.ref 0, .int (zn o), .int 2] R = some (.inl (some (.int (rd A 3 (zn o) 2))), R) := V 2 (by decide)
  have v3 : fX12_viewed [.ref 0, .int (zn o), .int 3] R = some (.inl (some (.int (rd A 3 (zn o) 3))), R) := V 3 (by decide)
  have v4 : fX12_viewed [.ref 0, .int (zn o), .int 4] R = some (.inl (some (.int (rd A 3 (zn o) 4))), R) := V 4 (by decide)
  by_cases d2 : rd A 3 (zn o) 4 = 1
  · rw [decide_eq_true d2]
    have e : zz_ev tX12_deploys 0 [some (.ref 0), none, none, none, none] [] R = some (.inl (some (.int 1)), R) := by
      (simp only [e_X12_deploys, zo_iload, zo_lload, zo_aload, zo_istore, zo_lstore, zo_astore, zo_iinc, zo_pushI, zo_pushL, zo_null, zo_ii, zo_iid, zo_ll, zo_li, zo_lcmp, zo_i2l, zo_l2i, zo_dup, zo_dup2, zo_pop, zo_goto, zo_if, zo_icmp, zo_ifnull, zo_gets, zo_mm, zo_throw, zo_ret, zo_aret, zo_lret, q_iret_f, q_iret_1, q_iret_0, q_iret_b, q_c8_0, q_c8_1, q_c8_2, q_c8_3, q_c8_4, q_set_0, q_set_1i, q_set_1r, q_set_1n, q_set_1N, q_set_s, q_set_1j, q_bk_v, q_bk_n, q_if, zb_ite, cond_true, cond_false, List.getElem?_cons_zero, List.getElem?_cons_succ, Nat.reduceAdd, q_set_1l, q_set2_0, q_set2_1i, q_set2_1r, q_set2_1n, q_set2_s, h43, hs, d1, v4, d2, if_true, if_false, zb_eq0, zb_eq1, zn_1, not_true_eq_false, not_false_eq_true, ite_true, ite_false, if_true, if_false, q_iret_0, q_iret_1, decide_true, decide_false, decide_not, zb_t, zb_f, z10, z01, cond_true, cond_false, Bool.and_true, Bool.true_and, Bool.and_false, Bool.false_and, Bool.not_true, Bool.not_false, true_and, and_true, false_and, and_false, true_or, or_true, false_or, or_false, Bool.true_eq_false, Bool.false_eq_true, eq_self, reduceCtorEq, Bool.or_true, Bool.true_or, Bool.or_false, Bool.false_or])
    rw [e]
    exact srv_no H
  rw [decide_eq_false d2]
  simp only [Bool.not_false, Bool.and_self, cond_true]
  obtain ⟨t, t1, -, t3⟩ := fld H.1 (i := o) (f := 1) hseen (by decide)
  have t1' : rd A 3 (zn o) 1 = zn t := t1
  have t9 : t ≤ 9 := t3
  obtain ⟨g, g1, -, g3⟩ := fld H.1 (i := o) (f := 0) hseen (by decide)
  have g1' : rd A 3 (zn o) 0 = zn g := g1
  have g5 : g ≤ 5 := g3
  obtain ⟨u, u1, -, u3⟩ := fld H.1 (i := o) (f := 2) hseen (by decide)
  have u1' : rd A 3 (zn o) 2 = zn u := u1
  have u2 : u ≤ 2 := u3
  have hso := r_setOfN H.1 (zn o) (zn t) (-1)
  simp only [Nat.reduceAdd] at hso
  rw [set_new H.1 h60 t1' t9] at hso
  cases d3 : newSet A 3 (nv A 3) (zn o) with
  | none =>
    rw [d3] at hso
    have hm := r_makesOne H (t := 1) (tp := t) (w := o) (by decide) t9 hon
    have em : aMk A 0 o 1 = (!decide ((aOpen A 4 (zn 1) (zn o) (zn t)).1 = -1), (aOpen A 4 (zn 1) (zn o) (zn t)).2) := by
      unfold aMk
      simp only [Nat.reduceAdd]
      rw [t1']
      rfl
    show srvTo A (oc2 (aMk A 0 o 1)) 0 o _
    rw [em]
    refine srv_act (R := R) ?_
    obtain ⟨R', e1, e2, e3⟩ := hm
    have e1' : fX12_makesOne [.ref 0, .int 1, .int (zn o), .int (zn t)] R = _ := e1
    refine ⟨R', ?_, e2, e3⟩
    clear e1
    rw [t1'] at v1
    (simp only [e_X12_deploys, zo_iload, zo_lload, zo_aload, zo_istore, zo_lstore, zo_astore, zo_iinc, zo_pushI, zo_pushL, zo_null, zo_ii, zo_iid, zo_ll, zo_li, zo_lcmp, zo_i2l, zo_l2i, zo_dup, zo_dup2, zo_pop, zo_goto, zo_if, zo_icmp, zo_ifnull, zo_gets, zo_mm, zo_throw, zo_ret, zo_aret, zo_lret, q_iret_f, q_iret_1, q_iret_0, q_iret_b, q_c8_0, q_c8_1, q_c8_2, q_c8_3, q_c8_4, q_set_0, q_set_1i, q_set_1r, q_set_1n, q_set_1N, q_set_s, q_set_1j, q_bk_v, q_bk_n, q_if, zb_ite, cond_true, cond_false, List.getElem?_cons_zero, List.getElem?_cons_succ, Nat.reduceAdd, q_set_1l, q_set2_0, q_set2_1i, q_set2_1r, q_set2_1n, q_set2_s, h43, hs, d1, v4, d2, v0, v1, hso, zoi, e1', if_true, if_false, zb_eq0, zb_eq1, zn_1, not_true_eq_false, not_false_eq_true, ite_true, ite_false, if_true, if_false, q_iret_0, q_iret_1, decide_true, decide_false, decide_not, zb_t, zb_f, z10, z01, cond_true, cond_false, Bool.and_true, Bool.true_and, Bool.and_false, Bool.false_and, Bool.not_true, Bool.not_false, true_and, and_true, false_and, and_false, true_or, or_true, false_or, or_false, Bool.true_eq_false, Bool.false_eq_true, eq_self, reduceCtorEq, Bool.or_true, Bool.true_or, Bool.or_false, Bool.false_or])
  | some s =>
    rw [d3] at hso
    obtain ⟨s1, s2, -⟩ := zfst_some d3
    rw [Bool.and_eq_true] at s2
    have sk : rd A (3 + 0) (zn s) 23 = 1 := own_kind (c := 0) s2.1
    have hn6 := rv_n60 H.1
    simp only [Nat.reduceAdd] at hn6
    have sm := zn_m1 (k := s) (by omega)
    obtain ⟨h, h1, -, h3⟩ := fld H.1 (i := s) (f := 0) s1 (by decide)
    have h1' : rd A 3 (zn s) 0 = zn h := h1
    have h5 : h ≤ 5 := h3
    have w0 : fX12_viewed [.ref 0, .int (zn s), .int 0] R = some (.inl (some (.int (zn h))), R) := by
      have := (r_vw H.1 (o := s) s1).1 0 (by decide)
      rw [h1] at this
      exact this
    have ww : ∀ a, a ≤ 5 → h ≠ a → actTo A (aWant A 0 s (zn a)) 0 o R (fX12_wants [.ref 0, .int (zn s), .int (zn a)] R) := fun a ha hne => wants_of H s1 (Or.inl sk) h1 h5 ha hne
    show srvTo A (dS0b A A o s) 0 o _
    unfold dS0b
    rw [h1', g1', u1', zn_add]
    rw [g1'] at v0
    rw [t1'] at v1
    rw [u1'] at v2
    have hst : ∀ i, i < nv A 3 → ∃ a, (bif owned A 3 (zn i) 1 (zn o) then rd A 3 (zn i) 0 else 0) = zn a ∧ a ≤ 60 := fun i hi => by
      cases owned A 3 (zn i) 1 (zn o)
      · exact ⟨0, rfl, by decide⟩
      · obtain ⟨a, a1, -, a3⟩ := fld H.1 (i := i) (f := 0) hi (by decide)
        exact ⟨a, a1, Nat.le_trans a3 (by decide)⟩
    obtain ⟨T, T1, T2⟩ := zsum_nat hn6 hst
    have eT : wTog A (zn o) = zn T := T1
    have htg := r_together0 H.1 (zn o)
    simp only [Nat.reduceAdd] at htg
    rw [zsum_ext (show nv A 3 ≤ nv A 1 from rv_nv H.1) (fun i a b => by
      have := own_un H.1 (i := i) (lt_n60 H.1.1 b) (by simp only [Nat.reduceAdd]; omega) 1 (zn o)
      simp only [Nat.reduceAdd] at this
      rw [this]; rfl), T1] at htg
    rw [eT]
    have eA : zn g + zn u = zn (g + u) := zn_add _ _
    by_cases d4 : h ≤ g
    · have c4 : (zn h ≤ zn g) = True := zn_le (a := h) (b := g) (by omega) (by omega) ▸ eq_true d4
      rw [decide_eq_true (of_eq_true c4)]
      simp only [Bool.not_true, cond_false]
      -- the way to the other sets
      have oth : zz_ev tX12_deploys 0 [some (.ref 0), none, none, none, none] [] R = zz_ev tX12_deploys 168 [some (.ref 0), some (.int (zn g)), some (.int (zn s)), some (.int (zn (g + u) - zn T)), none] [] R →
          srvTo A (match otSet A (zn o) (zn s) with
            | none => (1, A)
            | some t => oc2 (aWant A 0 t (less A (zn o) (zn t)))) 0 o (zz_ev tX12_deploys 0 [some (.ref 0), none, none, none, none] [] R) := by
        intro hrun
        rw [hrun]
        have ho2 := r_setOfN H.1 (zn o) (-1) (zn s)
        simp only [Nat.reduceAdd] at ho2
        rw [set_oth H.1] at ho2
        cases d6 : otSet A (zn o) (zn s) with
        | none =>
          rw [d6] at ho2
          have e : zz_ev tX12_deploys 168 [some (.ref 0), some (.int (zn g)), some (.int (zn s)), some (.int (zn (g + u) - zn T)), none] [] R = some (.inl (some (.int 1)), R) := by
            (simp only [e_X12_deploys, zo_iload, zo_lload, zo_aload, zo_istore, zo_lstore, zo_astore, zo_iinc, zo_pushI, zo_pushL, zo_null, zo_ii, zo_iid, zo_ll, zo_li, zo_lcmp, zo_i2l, zo_l2i, zo_dup, zo_dup2, zo_pop, zo_goto, zo_if, zo_icmp, zo_ifnull, zo_gets, zo_mm, zo_throw, zo_ret, zo_aret, zo_lret, q_iret_f, q_iret_1, q_iret_0, q_iret_b, q_c8_0, q_c8_1, q_c8_2, q_c8_3, q_c8_4, q_set_0, q_set_1i, q_set_1r, q_set_1n, q_set_1N, q_set_s, q_set_1j, q_bk_v, q_bk_n, q_if, zb_ite, cond_true, cond_false, List.getElem?_cons_zero, List.getElem?_cons_succ, Nat.reduceAdd, q_set_1l, q_set2_0, q_set2_1i, q_set2_1r, q_set2_1n, q_set2_s, h43, ho2, zoi, if_true, if_false, zb_eq0, zb_eq1, zn_1, not_true_eq_false, not_false_eq_true, ite_true, ite_false, if_true, if_false, q_iret_0, q_iret_1, decide_true, decide_false, decide_not, zb_t, zb_f, z10, z01, cond_true, cond_false, Bool.and_true, Bool.true_and, Bool.and_false, Bool.false_and, Bool.not_true, Bool.not_false, true_and, and_true, false_and, and_false, true_or, or_true, false_or, or_false, Bool.true_eq_false, Bool.false_eq_true, eq_self, reduceCtorEq, Bool.or_true, Bool.true_or, Bool.or_false, Bool.false_or])
          rw [e]
          exact srv_no H
        | some q =>
          rw [d6] at ho2
          have q1 := (zfst_some d6).1
          have qm := zn_m1 (k := q) (by omega)
          have ht1 := r_together1 H.1 (zn o)
          simp only [Nat.reduceAdd] at ht1
          rw [zsum_ext (show nv A 3 ≤ nv A 1 from rv_nv H.1) (fun i a b => by
            have := own_un H.1 (i := i) (lt_n60 H.1.1 b) (by simp only [Nat.reduceAdd]; omega) 1 (zn o)
            simp only [Nat.reduceAdd] at this
            rw [this]; rfl), show (zsum (nv A 3) fun i => bif owned A 3 (zn i) 1 (zn o) then zn (cntRun A 3 (nv A 3) (zn i)) else 0) = cRA A 3 (zn o) from rfl] at ht1
          have hl := r_lessens H hseen d6
          rw [g1'] at hl
          show srvTo A (oc2 (aWant A 0 q (less A (zn o) (zn q)))) 0 o _
          refine srv_act (R := R) ?_
          obtain ⟨R', e1, e2, e3⟩ := hl
          refine ⟨R', ?_, e2, e3⟩
          generalize aWant A 0 q (less A (zn o) (zn q)) = P at e1 ⊢
          cases hP : P.1 <;> rw [hP] at e1
          · simp only [zb_f] at e1
            (simp only [e_X12_deploys, zo_iload, zo_lload, zo_aload, zo_istore, zo_lstore, zo_astore, zo_iinc, zo_pushI, zo_pushL, zo_null, zo_ii, zo_iid, zo_ll, zo_li, zo_lcmp, zo_i2l, zo_l2i, zo_dup, zo_dup2, zo_pop, zo_goto, zo_if, zo_icmp, zo_ifnull, zo_gets, zo_mm, zo_throw, zo_ret, zo_aret, zo_lret, q_iret_f, q_iret_1, q_iret_0, q_iret_b, q_c8_0, q_c8_1, q_c8_2, q_c8_3, q_c8_4, q_set_0, q_set_1i, q_set_1r, q_set_1n, q_set_1N, q_set_s, q_set_1j, q_bk_v, q_bk_n, q_if, zb_ite, cond_true, cond_false, List.getElem?_cons_zero, List.getElem?_cons_succ, Nat.reduceAdd, q_set_1l, q_set2_0, q_set2_1i, q_set2_1r, q_set2_1n, q_set2_s, h43, ho2, zoi, qm, ht1, v3, e1, if_true, if_false, zb_eq0, zb_eq1, zn_1, not_true_eq_false, not_false_eq_true, ite_true, ite_false, if_true, if_false, q_iret_0, q_iret_1, decide_true, decide_false, decide_not, zb_t, zb_f, z10, z01, cond_true, cond_false, Bool.and_true, Bool.true_and, Bool.and_false, Bool.false_and, Bool.not_true, Bool.not_false, true_and, and_true, false_and, and_false, true_or, or_true, false_or, or_false, Bool.true_eq_false, Bool.false_eq_true, eq_self, reduceCtorEq, Bool.or_true, Bool.true_or, Bool.or_false, Bool.false_or])
          · simp only [zb_t] at e1
            (simp only [e_X12_deploys, zo_iload, zo_lload, zo_aload, zo_istore, zo_lstore, zo_astore, zo_iinc, zo_pushI, zo_pushL, zo_null, zo_ii, zo_iid, zo_ll, zo_li, zo_lcmp, zo_i2l, zo_l2i, zo_dup, zo_dup2, zo_pop, zo_goto, zo_if, zo_icmp, zo_ifnull, zo_gets, zo_mm, zo_throw, zo_ret, zo_aret, zo_lret, q_iret_f, q_iret_1, q_iret_0, q_iret_b, q_c8_0, q_c8_1, q_c8_2, q_c8_3, q_c8_4, q_set_0, q_set_1i, q_set_1r, q_set_1n, q_set_1N, q_set_s, q_set_1j, q_bk_v, q_bk_n, q_if, zb_ite, cond_true, cond_false, List.getElem?_cons_zero, List.getElem?_cons_succ, Nat.reduceAdd, q_set_1l, q_set2_0, q_set2_1i, q_set2_1r, q_set2_1n, q_set2_s, h43, ho2, zoi, qm, ht1, v3, e1, if_true, if_false, zb_eq0, zb_eq1, zn_1, not_true_eq_false, not_false_eq_true, ite_true, ite_false, if_true, if_false, q_iret_0, q_iret_1, decide_true, decide_false, decide_not, zb_t, zb_f, z10, z01, cond_true, cond_false, Bool.and_true, Bool.true_and, Bool.and_false, Bool.false_and, Bool.not_true, Bool.not_false, true_and, and_true, false_and, and_false, true_or, or_true, false_or, or_false, Bool.true_eq_false, Bool.false_eq_true, eq_self, reduceCtorEq, Bool.or_true, Bool.true_or, Bool.or_false, Bool.false_or])
      by_cases d5 : h < g
      · have c5 : (zn g ≤ zn h) = False := zn_le (a := g) (b := h) (by omega) (by omega) ▸ eq_false (by omega)
        by_cases d7 : T < g + u
        · have es : zn (g + u) - zn T = zn (g + u - T) := zn_sub (by omega)
          have c7 : (zn (g + u - T) ≤ 0) = False := zn_le (a := g + u - T) (b := 0) (by omega) (by decide) ▸ eq_false (by omega)
          rw [es, decide_eq_false c5.mp, decide_eq_false c7.mp]
          simp only [Bool.not_false, Bool.and_self, cond_true]
          have em : zn g - zn h = zn (g - h) := zn_sub (by omega)
          have ehf : zn h + zn (g + u - T) = zn (h + (g + u - T)) := zn_add _ _
          have ehm : zn h + zn (g - h) = zn g := by rw [zn_add, show h + (g - h) = g by omega]
          rw [ehf]
          refine srv_act (R := R) ?_
          by_cases d8 : g + u - T ≤ g - h
          · have c8 : (zn (g + u - T) ≤ zn (g - h)) = True := zn_le (a := g + u - T) (b := g - h) (by omega) (by omega) ▸ eq_true d8
            have ev : (if zn (h + (g + u - T)) < zn g then zn (h + (g + u - T)) else zn g) = zn (h + (g + u - T)) := by
              by_cases q : h + (g + u - T) < g
              · rw [if_pos ((zn_lt (a := h + (g + u - T)) (b := g) (by omega) (by omega)).mpr q)]
              · rw [if_neg (fun z => q ((zn_lt (a := h + (g + u - T)) (b := g) (by omega) (by omega)).mp z)), show h + (g + u - T) = g by omega]
            rw [ev]
            obtain ⟨R', e1, e2, e3⟩ := ww (h + (g + u - T)) (by omega) (by omega)
            refine ⟨R', ?_, e2, e3⟩
            (simp only [e_X12_deploys, zo_iload, zo_lload, zo_aload, zo_istore, zo_lstore, zo_astore, zo_iinc, zo_pushI, zo_pushL, zo_null, zo_ii, zo_iid, zo_ll, zo_li, zo_lcmp, zo_i2l, zo_l2i, zo_dup, zo_dup2, zo_pop, zo_goto, zo_if, zo_icmp, zo_ifnull, zo_gets, zo_mm, zo_throw, zo_ret, zo_aret, zo_lret, q_iret_f, q_iret_1, q_iret_0, q_iret_b, q_c8_0, q_c8_1, q_c8_2, q_c8_3, q_c8_4, q_set_0, q_set_1i, q_set_1r, q_set_1n, q_set_1N, q_set_s, q_set_1j, q_bk_v, q_bk_n, q_if, zb_ite, cond_true, cond_false, List.getElem?_cons_zero, List.getElem?_cons_succ, Nat.reduceAdd, q_set_1l, q_set2_0, q_set2_1i, q_set2_1r, q_set2_1n, q_set2_s, h43, hs, d1, v4, d2, v0, v1, hso, zoi, sm, w0, c4, v2, eA, htg, es, c5, c7, em, c8, ehf, e1, if_true, if_false, zb_eq0, zb_eq1, zn_1, not_true_eq_false, not_false_eq_true, ite_true, ite_false, if_true, if_false, q_iret_0, q_iret_1, decide_true, decide_false, decide_not, zb_t, zb_f, z10, z01, cond_true, cond_false, Bool.and_true, Bool.true_and, Bool.and_false, Bool.false_and, Bool.not_true, Bool.not_false, true_and, and_true, false_and, and_false, true_or, or_true, false_or, or_false, Bool.true_eq_false, Bool.false_eq_true, eq_self, reduceCtorEq, Bool.or_true, Bool.true_or, Bool.or_false, Bool.false_or])
          · have c8 : (zn (g + u - T) ≤ zn (g - h)) = False := zn_le (a := g + u - T) (b := g - h) (by omega) (by omega) ▸ eq_false d8
            have ev : (if zn (h + (g + u - T)) < zn g then zn (h + (g + u - T)) else zn g) = zn g := if_neg (fun z => by rw [zn_lt (by omega) (by omega)] at z; omega)
            rw [ev]
            obtain ⟨R', e1, e2, e3⟩ := ww g g5 (by omega)
            refine ⟨R', ?_, e2, e3⟩
            (simp only [e_X12_deploys, zo_iload, zo_lload, zo_aload, zo_istore, zo_lstore, zo_astore, zo_iinc, zo_pushI, zo_pushL, zo_null, zo_ii, zo_iid, zo_ll, zo_li, zo_lcmp, zo_i2l, zo_l2i, zo_dup, zo_dup2, zo_pop, zo_goto, zo_if, zo_icmp, zo_ifnull, zo_gets, zo_mm, zo_throw, zo_ret, zo_aret, zo_lret, q_iret_f, q_iret_1, q_iret_0, q_iret_b, q_c8_0, q_c8_1, q_c8_2, q_c8_3, q_c8_4, q_set_0, q_set_1i, q_set_1r, q_set_1n, q_set_1N, q_set_s, q_set_1j, q_bk_v, q_bk_n, q_if, zb_ite, cond_true, cond_false, List.getElem?_cons_zero, List.getElem?_cons_succ, Nat.reduceAdd, q_set_1l, q_set2_0, q_set2_1i, q_set2_1r, q_set2_1n, q_set2_s, h43, hs, d1, v4, d2, v0, v1, hso, zoi, sm, w0, c4, v2, eA, htg, es, c5, c7, em, c8, ehm, e1, if_true, if_false, zb_eq0, zb_eq1, zn_1, not_true_eq_false, not_false_eq_true, ite_true, ite_false, if_true, if_false, q_iret_0, q_iret_1, decide_true, decide_false, decide_not, zb_t, zb_f, z10, z01, cond_true, cond_false, Bool.and_true, Bool.true_and, Bool.and_false, Bool.false_and, Bool.not_true, Bool.not_false, true_and, and_true, false_and, and_false, true_or, or_true, false_or, or_false, Bool.true_eq_false, Bool.false_eq_true, eq_self, reduceCtorEq, Bool.or_true, Bool.true_or, Bool.or_false, Bool.false_or])
        · have c7 := zn_subneg (a := g + u) (b := T) (by omega) (by omega)
          have ec : (!decide (zn g ≤ zn h) && !decide (zn (g + u) - zn T ≤ 0)) = false := by rw [decide_eq_true (of_eq_true c7)]; simp
          rw [ec, cond_false]
          refine oth ?_
          generalize hZ : zz_ev tX12_deploys 168 [some (.ref 0), some (.int (zn g)), some (.int (zn s)), some (.int (zn (g + u) - zn T)), none] [] R = Z
          (simp only [e_X12_deploys, zo_iload, zo_lload, zo_aload, zo_istore, zo_lstore, zo_astore, zo_iinc, zo_pushI, zo_pushL, zo_null, zo_ii, zo_iid, zo_ll, zo_li, zo_lcmp, zo_i2l, zo_l2i, zo_dup, zo_dup2, zo_pop, zo_goto, zo_if, zo_icmp, zo_ifnull, zo_gets, zo_mm, zo_throw, zo_ret, zo_aret, zo_lret, q_iret_f, q_iret_1, q_iret_0, q_iret_b, q_c8_0, q_c8_1, q_c8_2, q_c8_3, q_c8_4, q_set_0, q_set_1i, q_set_1r, q_set_1n, q_set_1N, q_set_s, q_set_1j, q_bk_v, q_bk_n, q_if, zb_ite, cond_true, cond_false, List.getElem?_cons_zero, List.getElem?_cons_succ, Nat.reduceAdd, q_set_1l, q_set2_0, q_set2_1i, q_set2_1r, q_set2_1n, q_set2_s, ↓hZ, h43, hs, d1, v4, d2, v0, v1, hso, zoi, sm, w0, c4, v2, eA, htg, c5, c7, if_true, if_false, zb_eq0, zb_eq1, zn_1, not_true_eq_false, not_false_eq_true, ite_true, ite_false, if_true, if_false, q_iret_0, q_iret_1, decide_true, decide_false, decide_not, zb_t, zb_f, z10, z01, cond_true, cond_false, Bool.and_true, Bool.true_and, Bool.and_false, Bool.false_and, Bool.not_true, Bool.not_false, true_and, and_true, false_and, and_false, true_or, or_true, false_or, or_false, Bool.true_eq_false, Bool.false_eq_true, eq_self, reduceCtorEq, Bool.or_true, Bool.true_or, Bool.or_false, Bool.false_or])
      · have c5 : (zn g ≤ zn h) = True := zn_le (a := g) (b := h) (by omega) (by omega) ▸ eq_true (by omega)
        have ec : (!decide (zn g ≤ zn h) && !decide (zn (g + u) - zn T ≤ 0)) = false := by rw [decide_eq_true (of_eq_true c5)]; rfl
        rw [ec, cond_false]
        refine oth ?_
        generalize hZ : zz_ev tX12_deploys 168 [some (.ref 0), some (.int (zn g)), some (.int (zn s)), some (.int (zn (g + u) - zn T)), none] [] R = Z
        (simp only [e_X12_deploys, zo_iload, zo_lload, zo_aload, zo_istore, zo_lstore, zo_astore, zo_iinc, zo_pushI, zo_pushL, zo_null, zo_ii, zo_iid, zo_ll, zo_li, zo_lcmp, zo_i2l, zo_l2i, zo_dup, zo_dup2, zo_pop, zo_goto, zo_if, zo_icmp, zo_ifnull, zo_gets, zo_mm, zo_throw, zo_ret, zo_aret, zo_lret, q_iret_f, q_iret_1, q_iret_0, q_iret_b, q_c8_0, q_c8_1, q_c8_2, q_c8_3, q_c8_4, q_set_0, q_set_1i, q_set_1r, q_set_1n, q_set_1N, q_set_s, q_set_1j, q_bk_v, q_bk_n, q_if, zb_ite, cond_true, cond_false, List.getElem?_cons_zero, List.getElem?_cons_succ, Nat.reduceAdd, q_set_1l, q_set2_0, q_set2_1i, q_set2_1r, q_set2_1n, q_set2_s, ↓hZ, h43, hs, d1, v4, d2, v0, v1, hso, zoi, sm, w0, c4, v2, eA, htg, c5, if_true, if_false, zb_eq0, zb_eq1, zn_1, not_true_eq_false, not_false_eq_true, ite_true, ite_false, if_true, if_false, q_iret_0, q_iret_1, decide_true, decide_false, decide_not, zb_t, zb_f, z10, z01, cond_true, cond_false, Bool.and_true, Bool.true_and, Bool.and_false, Bool.false_and, Bool.not_true, Bool.not_false, true_and, and_true, false_and, and_false, true_or, or_true, false_or, or_false, Bool.true_eq_false, Bool.false_eq_true, eq_self, reduceCtorEq, Bool.or_true, Bool.true_or, Bool.or_false, Bool.false_or])
    · have c4 : (zn h ≤ zn g) = False := zn_le (a := h) (b := g) (by omega) (by omega) ▸ eq_false d4
      rw [decide_eq_false c4.mp]
      simp only [Bool.not_false, cond_true]
      refine srv_act (R := R) ?_
      obtain ⟨R', e1, e2, e3⟩ := ww g g5 (by omega)
      refine ⟨R', ?_, e2, e3⟩
      (simp only [e_X12_deploys, zo_iload, zo_lload, zo_aload, zo_istore, zo_lstore, zo_astore, zo_iinc, zo_pushI, zo_pushL, zo_null, zo_ii, zo_iid, zo_ll, zo_li, zo_lcmp, zo_i2l, zo_l2i, zo_dup, zo_dup2, zo_pop, zo_goto, zo_if, zo_icmp, zo_ifnull, zo_gets, zo_mm, zo_throw, zo_ret, zo_aret, zo_lret, q_iret_f, q_iret_1, q_iret_0, q_iret_b, q_c8_0, q_c8_1, q_c8_2, q_c8_3, q_c8_4, q_set_0, q_set_1i, q_set_1r, q_set_1n, q_set_1N, q_set_s, q_set_1j, q_bk_v, q_bk_n, q_if, zb_ite, cond_true, cond_false, List.getElem?_cons_zero, List.getElem?_cons_succ, Nat.reduceAdd, q_set_1l, q_set2_0, q_set2_1i, q_set2_1r, q_set2_1n, q_set2_s, h43, hs, d1, v4, d2, v0, v1, hso, zoi, sm, w0, c4, e1, if_true, if_false, zb_eq0, zb_eq1, zn_1, not_true_eq_false, not_false_eq_true, ite_true, ite_false, if_true, if_false, q_iret_0, q_iret_1, decide_true, decide_false, decide_not, zb_t, zb_f, z10, z01, cond_true, cond_false, Bool.and_true, Bool.true_and, Bool.and_false, Bool.false_and, Bool.not_true, Bool.not_false, true_and, and_true, false_and, and_false, true_or, or_true, false_or, or_false, Bool.true_eq_false, Bool.false_eq_true, eq_self, reduceCtorEq, Bool.or_true, Bool.true_or, Bool.or_false, Bool.false_or])
end
end

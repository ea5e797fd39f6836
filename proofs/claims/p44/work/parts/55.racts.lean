section
/-! seeing many; a controller's acts, in both -/
section
variable {A R : zzMd} {c : Nat}
theorem sees_M (H : rAt A R c) : A.1 (3 + c) 3 = zn (ve A (3 + c)) ∧ R.1 26 c = zn (ve A (3 + c)) ∧ R.1 0 15 = A.1 1 8 := by
  obtain ⟨k, -, h1, h2⟩ := H.1.2.2.2.2.2.2.1
  exact ⟨(H.1.1.2.2.2 c H.2.2).1.2.2.1, ((H.1.2.2.1 c H.2.2).1).1.2.1, h2.trans h1.symm⟩
theorem r_seesLoop (H : rAt A R c) {m : Nat} (hm : m ≤ 400) : ∃ R', zz_ev tX12_sees 25 [some (.ref 0), some (.int (zn m)), some (.int 0), some (.int (zn 0))] [] R = some (.inl (some (.int ((aNexts A c (min m (ve A 1 - ve A (3 + c)))).1 (3 + c) 11 - A.1 (3 + c) 11))), R') ∧ rAt (aNexts A c (min m (ve A 1 - ve A (3 + c)))) R' c ∧ sameV R R' := by
  have hc := H.2.2
  have he := rl_e4 H.1
  have hL : zLg A := fun k h1 h2 => by
    have r := H.1.2.1.2.1 k h1 h2
    refine ⟨r.2.1, ?_⟩
    have : obj A k < numO (obj A) (ve A 1) := by
      refine Nat.lt_of_lt_of_le ?_ (numO_mono h2)
      obtain ⟨k', rfl⟩ : ∃ k', k = k' + 1 := ⟨k - 1, by omega⟩
      rw [numO_s]
      exact Nat.lt_of_lt_of_le (Nat.lt_succ_self _) (Nat.le_max_right _ _)
    have := H.1.2.1.2.2.2.1.1
    have := rl_n60 H.1
    omega
  have bc : zz_inb (zn c) 8 = true := zn_inT hc (by decide)
  have xc : zz_ix (zn c) = c := zn_ix (by omega)
  have main : ∀ n, n ≤ min m (ve A 1 - ve A (3 + c)) → ∃ S, zz_ev tX12_sees 25 [some (.ref 0), some (.int (zn m)), some (.int 0), some (.int (zn 0))] [] R = zz_ev tX12_sees 25 [some (.ref 0), some (.int (zn m)), some (.int ((aNexts A c n).1 (3 + c) 11 - A.1 (3 + c) 11)), some (.int (zn n))] [] S ∧ rAt (aNexts A c n) S c ∧ sameV R S := by
    intro n
    induction n with
    | zero => exact fun _ => ⟨R, by rw [show aNexts A c 0 = A from rfl, dq_0], H, sameV_refl R⟩
    | succ n ih =>
      intro hn
      obtain ⟨S, e1, HS, s1⟩ := ih (by omega)
      obtain ⟨i1, i2, i3⟩ := Nexts_inv H.1.1.2 hL hc n (by omega)
      have hv1 : ve (aNexts A c n) 1 = ve A 1 := ve_See hc i2
      obtain ⟨S2, f1, f2, f3⟩ := r_seesOne HS (by omega)
      obtain ⟨g1, g2, g3⟩ := sees_M HS
      have g4 := HS.1.2.1.1.1
      have c1 : (zn m ≤ zn n) = False := zn_le (a := m) (b := n) (by omega) (by omega) ▸ eq_false (by omega)
      have c2 : (zn (ve (aNexts A c n) 1) ≤ zn (ve (aNexts A c n) (3 + c))) = False := zn_le (a := ve (aNexts A c n) 1) (b := ve (aNexts A c n) (3 + c)) (by omega) (by omega) ▸ eq_false (by omega)
      have h42 := HS.2.1
      rw [aNexts_s]
      have ea := dq_add (A.1 (3 + c) 11) ((aNexts A c n).1 (3 + c) 11) ((aNext (aNexts A c n) c (obj (aNexts A c n) (ve (aNexts A c n) (3 + c) + 1))).1 (3 + c) 11)
      refine ⟨S2, e1.trans ?_, f2, sameV_trans s1 f3⟩
      generalize aNext (aNexts A c n) c (obj (aNexts A c n) (ve (aNexts A c n) (3 + c) + 1)) = C at f1 ea ⊢
      generalize aNexts A c n = B at *
      (rw [e_X12_sees_25]; simp only [e_X12_sees, zo_iload, zo_lload, zo_aload, zo_istore, zo_lstore, zo_astore, zo_iinc, zo_pushI, zo_pushL, zo_null, zo_ii, zo_iid, zo_ll, zo_li, zo_lcmp, zo_i2l, zo_l2i, zo_dup, zo_dup2, zo_pop, zo_goto, zo_if, zo_icmp, zo_ifnull, zo_gets, zo_mm, zo_throw, zo_ret, zo_aret, zo_lret, q_iret_f, q_iret_1, q_iret_0, q_iret_b, q_c8_0, q_c8_1, q_c8_2, q_c8_3, q_c8_4, q_set_0, q_set_1i, q_set_1r, q_set_1n, q_set_1N, q_set_s, q_set_1j, q_bk_v, q_bk_n, q_if, zb_ite, cond_true, cond_false, List.getElem?_cons_zero, List.getElem?_cons_succ, Nat.reduceAdd, q_set_1l, q_set2_0, q_set2_1i, q_set2_1r, q_set2_1n, q_set2_s, c1, h42, bc, xc, q_aR, g2, g4, c2, f1, ea, if_true, if_false, zb_eq0, zb_eq1, zn_1, not_true_eq_false, not_false_eq_true, ite_true, ite_false, if_true, if_false, q_iret_0, q_iret_1, decide_true, decide_false, decide_not, zb_t, zb_f, z10, z01, cond_true, cond_false, Bool.and_true, Bool.true_and, Bool.and_false, Bool.false_and, Bool.not_true, Bool.not_false, true_and, and_true, false_and, and_false, true_or, or_true, false_or, or_false, Bool.true_eq_false, Bool.false_eq_true, eq_self, reduceCtorEq, Bool.or_true, Bool.true_or, Bool.or_false, Bool.false_or])
  obtain ⟨S, e1, HS, s1⟩ := main _ (Nat.le_refl _)
  refine ⟨S, e1.trans ?_, HS, s1⟩
  obtain ⟨i1, i2, i3⟩ := Nexts_inv H.1.1.2 hL hc (min m (ve A 1 - ve A (3 + c))) (by omega)
  have hv1 : ve (aNexts A c (min m (ve A 1 - ve A (3 + c)))) 1 = ve A 1 := ve_See hc i2
  obtain ⟨g1, g2, g3⟩ := sees_M HS
  have g4 := HS.1.2.1.1.1
  have h42 := HS.2.1
  have hle := rv_ve H
  by_cases d : m ≤ min m (ve A 1 - ve A (3 + c))
  · have c1 : (zn m ≤ zn (min m (ve A 1 - ve A (3 + c)))) = True := zn_le (a := m) (b := min m (ve A 1 - ve A (3 + c))) (by omega) (by omega) ▸ eq_true d
    (rw [e_X12_sees_25]; simp only [e_X12_sees, zo_iload, zo_lload, zo_aload, zo_istore, zo_lstore, zo_astore, zo_iinc, zo_pushI, zo_pushL, zo_null, zo_ii, zo_iid, zo_ll, zo_li, zo_lcmp, zo_i2l, zo_l2i, zo_dup, zo_dup2, zo_pop, zo_goto, zo_if, zo_icmp, zo_ifnull, zo_gets, zo_mm, zo_throw, zo_ret, zo_aret, zo_lret, q_iret_f, q_iret_1, q_iret_0, q_iret_b, q_c8_0, q_c8_1, q_c8_2, q_c8_3, q_c8_4, q_set_0, q_set_1i, q_set_1r, q_set_1n, q_set_1N, q_set_s, q_set_1j, q_bk_v, q_bk_n, q_if, zb_ite, cond_true, cond_false, List.getElem?_cons_zero, List.getElem?_cons_succ, Nat.reduceAdd, q_set_1l, q_set2_0, q_set2_1i, q_set2_1r, q_set2_1n, q_set2_s, c1, if_true, if_false, zb_eq0, zb_eq1, zn_1, not_true_eq_false, not_false_eq_true, ite_true, ite_false, if_true, if_false, q_iret_0, q_iret_1, decide_true, decide_false, decide_not, zb_t, zb_f, z10, z01, cond_true, cond_false, Bool.and_true, Bool.true_and, Bool.and_false, Bool.false_and, Bool.not_true, Bool.not_false, true_and, and_true, false_and, and_false, true_or, or_true, false_or, or_false, Bool.true_eq_false, Bool.false_eq_true, eq_self, reduceCtorEq, Bool.or_true, Bool.true_or, Bool.or_false, Bool.false_or])
  · have c1 : (zn m ≤ zn (min m (ve A 1 - ve A (3 + c)))) = False := zn_le (a := m) (b := min m (ve A 1 - ve A (3 + c))) (by omega) (by omega) ▸ eq_false d
    rw [hv1] at g4
    rw [i3] at g2
    have c2 : (zn (ve A 1) ≤ zn (ve A (3 + c) + min m (ve A 1 - ve A (3 + c)))) = True := zn_le (a := ve A 1) (b := ve A (3 + c) + min m (ve A 1 - ve A (3 + c))) (by omega) (by omega) ▸ eq_true (by omega)
    (rw [e_X12_sees_25]; simp only [e_X12_sees, zo_iload, zo_lload, zo_aload, zo_istore, zo_lstore, zo_astore, zo_iinc, zo_pushI, zo_pushL, zo_null, zo_ii, zo_iid, zo_ll, zo_li, zo_lcmp, zo_i2l, zo_l2i, zo_dup, zo_dup2, zo_pop, zo_goto, zo_if, zo_icmp, zo_ifnull, zo_gets, zo_mm, zo_throw, zo_ret, zo_aret, zo_lret, q_iret_f, q_iret_1, q_iret_0, q_iret_b, q_c8_0, q_c8_1, q_c8_2, q_c8_3, q_c8_4, q_set_0, q_set_1i, q_set_1r, q_set_1n, q_set_1N, q_set_s, q_set_1j, q_bk_v, q_bk_n, q_if, zb_ite, cond_true, cond_false, List.getElem?_cons_zero, List.getElem?_cons_succ, Nat.reduceAdd, q_set_1l, q_set2_0, q_set2_1i, q_set2_1r, q_set2_1n, q_set2_s, c1, h42, bc, xc, q_aR, g2, g4, c2, if_true, if_false, zb_eq0, zb_eq1, zn_1, not_true_eq_false, not_false_eq_true, ite_true, ite_false, if_true, if_false, q_iret_0, q_iret_1, decide_true, decide_false, decide_not, zb_t, zb_f, z10, z01, cond_true, cond_false, Bool.and_true, Bool.true_and, Bool.and_false, Bool.false_and, Bool.not_true, Bool.not_false, true_and, and_true, false_and, and_false, true_or, or_true, false_or, or_false, Bool.true_eq_false, Bool.false_eq_true, eq_self, reduceCtorEq, Bool.or_true, Bool.true_or, Bool.or_false, Bool.false_or])
theorem r_sees (H : rAt A R c) {m : Nat} (hm : m ≤ 400) : ∃ R', fX12_sees [.ref 0, .int (zn m)] R = some (.inl (some (.int ((aLook A c m).1 (3 + c) 11 - A.1 (3 + c) 11))), R') ∧ rAt (aLook A c m) R' c ∧ sameV R R' := by
  have bc : zz_inb (zn c) 8 = true := zn_inT H.2.2 (by decide)
  have xc : zz_ix (zn c) = c := zn_ix (by have := H.2.2; omega)
  obtain ⟨g1, g2, g3⟩ := sees_M H
  have h42 := H.2.1
  unfold aLook
  rw [s_X12_sees]
  by_cases h : A.1 (3 + c) 3 < A.1 1 8
  · rw [decide_eq_true h, cond_true]
    obtain ⟨R', e1, e2, e3⟩ := r_lists H
    refine ⟨R', ?_, e2, e3⟩
    have h2 : ¬ A.1 1 8 ≤ zn (ve A (3 + c)) := by rw [← g1]; exact Int32.not_le.mpr h
    (simp only [e_X12_sees, zo_iload, zo_lload, zo_aload, zo_istore, zo_lstore, zo_astore, zo_iinc, zo_pushI, zo_pushL, zo_null, zo_ii, zo_iid, zo_ll, zo_li, zo_lcmp, zo_i2l, zo_l2i, zo_dup, zo_dup2, zo_pop, zo_goto, zo_if, zo_icmp, zo_ifnull, zo_gets, zo_mm, zo_throw, zo_ret, zo_aret, zo_lret, q_iret_f, q_iret_1, q_iret_0, q_iret_b, q_c8_0, q_c8_1, q_c8_2, q_c8_3, q_c8_4, q_set_0, q_set_1i, q_set_1r, q_set_1n, q_set_1N, q_set_s, q_set_1j, q_bk_v, q_bk_n, q_if, zb_ite, cond_true, cond_false, List.getElem?_cons_zero, List.getElem?_cons_succ, Nat.reduceAdd, q_set_1l, q_set2_0, q_set2_1i, q_set2_1r, q_set2_1n, q_set2_s, h42, bc, xc, q_aR, g2, g3, h2, e1, if_true, if_false, zb_eq0, zb_eq1, zn_1, not_true_eq_false, not_false_eq_true, ite_true, ite_false, if_true, if_false, q_iret_0, q_iret_1, decide_true, decide_false, decide_not, zb_t, zb_f, z10, z01, cond_true, cond_false, Bool.and_true, Bool.true_and, Bool.and_false, Bool.false_and, Bool.not_true, Bool.not_false, true_and, and_true, false_and, and_false, true_or, or_true, false_or, or_false, Bool.true_eq_false, Bool.false_eq_true, eq_self, reduceCtorEq, Bool.or_true, Bool.true_or, Bool.or_false, Bool.false_or])
  · rw [decide_eq_false h, cond_false]
    have h2 : A.1 1 8 ≤ zn (ve A (3 + c)) := by rw [← g1]; exact Int32.not_lt.mp h
    obtain ⟨R', e1, e2, e3⟩ := r_seesLoop H hm
    refine ⟨R', Eq.trans ?_ e1, e2, e3⟩
    generalize hZ : zz_ev tX12_sees 25 [some (.ref 0), some (.int (zn m)), some (.int 0), some (.int (zn 0))] [] R = Z
    rw [show (zn 0 : Int32) = 0 from rfl] at hZ
    (simp only [e_X12_sees, zo_iload, zo_lload, zo_aload, zo_istore, zo_lstore, zo_astore, zo_iinc, zo_pushI, zo_pushL, zo_null, zo_ii, zo_iid, zo_ll, zo_li, zo_lcmp, zo_i2l, zo_l2i, zo_dup, zo_dup2, zo_pop, zo_goto, zo_if, zo_icmp, zo_ifnull, zo_gets, zo_mm, zo_throw, zo_ret, zo_aret, zo_lret, q_iret_f, q_iret_1, q_iret_0, q_iret_b, q_c8_0, q_c8_1, q_c8_2, q_c8_3, q_c8_4, q_set_0, q_set_1i, q_set_1r, q_set_1n, q_set_1N, q_set_s, q_set_1j, q_bk_v, q_bk_n, q_if, zb_ite, cond_true, cond_false, List.getElem?_cons_zero, List.getElem?_cons_succ, Nat.reduceAdd, q_set_1l, q_set2_0, q_set2_1i, q_set2_1r, q_set2_1n, q_set2_s, h42, bc, xc, q_aR, g2, g3, h2, if_true, if_false, zb_eq0, zb_eq1, zn_1, not_true_eq_false, not_false_eq_true, ite_true, ite_false, if_true, if_false, q_iret_0, q_iret_1, decide_true, decide_false, decide_not, zb_t, zb_f, z10, z01, cond_true, cond_false, Bool.and_true, Bool.true_and, Bool.and_false, Bool.false_and, Bool.not_true, Bool.not_false, true_and, and_true, false_and, and_false, true_or, or_true, false_or, or_false, Bool.true_eq_false, Bool.false_eq_true, eq_self, reduceCtorEq, Bool.or_true, Bool.true_or, Bool.or_false, Bool.false_or])
    exact hZ
/-! acts -/
def rKy (A R : zzMd) (c o : Nat) : Prop := rAt A R c ∧ RMan A R ∧ R.1 0 43 = zn o ∧ o < 60
def wrtn (v : Int32) (c o : Nat) (B : zzMd) : zzMd := bif decide (B.1 1 3 ≤ v) then B else zz_sI B (26 + 6 * c) o (B.1 1 3)
theorem sI_same (R : zzMd) (a k : Nat) : zz_sI R a k (R.1 a k) = R := Prod.ext (funext fun x => funext fun y => by
  rw [sI_1]
  by_cases q : x = a ∧ y = k
  · rw [if_pos q, q.1, q.2]
  · rw [if_neg q]) rfl
theorem r_wrote {o : Nat} (H : rKy A R c o) {e : Nat} (he : e ≤ ve A 1) : ∃ R', fX12_wrote [.ref 0, .int (zn e)] R = some (.inl none, R') ∧ rKy (wrtn (zn e) c o A) R' c o ∧ ∀ k, R'.1 37 k = R.1 37 k := by
  obtain ⟨H1, H2, H3, H4⟩ := H
  have hc := H1.2.2
  have h42 := H1.2.1
  have e60 : (60 : Int32) * zn c = zn (60 * c) := zn_mul 60 c
  obtain ⟨b1, b2, b3⟩ := at_o H1 H4
  have h14 := H1.1.2.1.1.1
  have h13 := H1.1.1.2.1.2.2.1
  have he4 := rl_e4 H1.1
  unfold wrtn
  rw [h13, s_X12_wrote]
  by_cases d : ve A 1 ≤ e
  · have c1 : (zn (ve A 1) ≤ zn e) = True := zn_le (a := ve A 1) (b := e) (by omega) (by omega) ▸ eq_true d
    rw [decide_eq_true (of_eq_true c1), cond_true]
    refine ⟨R, ?_, ⟨H1, H2, H3, H4⟩, fun _ => rfl⟩
    have hs := sI_same R 35 (60 * c + o)
    (simp only [e_X12_wrote, zo_iload, zo_lload, zo_aload, zo_istore, zo_lstore, zo_astore, zo_iinc, zo_pushI, zo_pushL, zo_null, zo_ii, zo_iid, zo_ll, zo_li, zo_lcmp, zo_i2l, zo_l2i, zo_dup, zo_dup2, zo_pop, zo_goto, zo_if, zo_icmp, zo_ifnull, zo_gets, zo_mm, zo_throw, zo_ret, zo_aret, zo_lret, q_iret_f, q_iret_1, q_iret_0, q_iret_b, q_c8_0, q_c8_1, q_c8_2, q_c8_3, q_c8_4, q_set_0, q_set_1i, q_set_1r, q_set_1n, q_set_1N, q_set_s, q_set_1j, q_bk_v, q_bk_n, q_if, zb_ite, cond_true, cond_false, List.getElem?_cons_zero, List.getElem?_cons_succ, Nat.reduceAdd, q_set_1l, q_set2_0, q_set2_1i, q_set2_1r, q_set2_1n, q_set2_s, h42, e60, H3, b1, b2, b3, q_aR, h14, c1, hs, if_true, if_false, zb_eq0, zb_eq1, zn_1, not_true_eq_false, not_false_eq_true, ite_true, ite_false, if_true, if_false, q_iret_0, q_iret_1, decide_true, decide_false, decide_not, zb_t, zb_f, z10, z01, cond_true, cond_false, Bool.and_true, Bool.true_and, Bool.and_false, Bool.false_and, Bool.not_true, Bool.not_false, true_and, and_true, false_and, and_false, true_or, or_true, false_or, or_false, Bool.true_eq_false, Bool.false_eq_true, eq_self, reduceCtorEq, Bool.or_true, Bool.true_or, Bool.or_false, Bool.false_or])
  · have c1 : (zn (ve A 1) ≤ zn e) = False := zn_le (a := ve A 1) (b := e) (by omega) (by omega) ▸ eq_false d
    rw [decide_eq_false c1.mp, cond_false]
    refine ⟨zz_sI R 35 (60 * c + o) (zn (ve A 1)), ?_, ⟨⟨?_, (sI_a (by decide)).trans h42, hc⟩, ?_, (sI_a (by decide)).trans H3, H4⟩, fun k => sI_a (by decide)⟩
    · (simp only [e_X12_wrote, zo_iload, zo_lload, zo_aload, zo_istore, zo_lstore, zo_astore, zo_iinc, zo_pushI, zo_pushL, zo_null, zo_ii, zo_iid, zo_ll, zo_li, zo_lcmp, zo_i2l, zo_l2i, zo_dup, zo_dup2, zo_pop, zo_goto, zo_if, zo_icmp, zo_ifnull, zo_gets, zo_mm, zo_throw, zo_ret, zo_aret, zo_lret, q_iret_f, q_iret_1, q_iret_0, q_iret_b, q_c8_0, q_c8_1, q_c8_2, q_c8_3, q_c8_4, q_set_0, q_set_1i, q_set_1r, q_set_1n, q_set_1N, q_set_s, q_set_1j, q_bk_v, q_bk_n, q_if, zb_ite, cond_true, cond_false, List.getElem?_cons_zero, List.getElem?_cons_succ, Nat.reduceAdd, q_set_1l, q_set2_0, q_set2_1i, q_set2_1r, q_set2_1n, q_set2_s, h42, e60, H3, b1, b2, b3, q_aR, h14, c1, if_true, if_false, zb_eq0, zb_eq1, zn_1, not_true_eq_false, not_false_eq_true, ite_true, ite_false, if_true, if_false, q_iret_0, q_iret_1, decide_true, decide_false, decide_not, zb_t, zb_f, z10, z01, cond_true, cond_false, Bool.and_true, Bool.true_and, Bool.and_false, Bool.false_and, Bool.not_true, Bool.not_false, true_and, and_true, false_and, and_false, true_or, or_true, false_or, or_false, Bool.true_eq_false, Bool.false_eq_true, eq_self, reduceCtorEq, Bool.or_true, Bool.true_or, Bool.or_false, Bool.false_or])
    · obtain ⟨q1, q2, q3, q4⟩ := rq_of H1
      have gq : ∀ p, qk (zz_sI A (26 + 6 * c) o (zn (ve A 1))) c p = qk A c p := fun p => congrArg zz_ix (sI_a (by omega))
      have gn : qn (zz_sI A (26 + 6 * c) o (zn (ve A 1))) c = qn A c := congrArg zz_ix (sI_a (by omega))
      have gi : ∀ b, inQ (zz_sI A (26 + 6 * c) o (zn (ve A 1))) c b ↔ inQ A c b := fun b => by unfold inQ; simp only [gn, gq]
      have gv : nv (zz_sI A (26 + 6 * c) o (zn (ve A 1))) 1 = nv A 1 := congrArg zz_ix (sI_a (by omega))
      have ge : ve (zz_sI A (26 + 6 * c) o (zn (ve A 1))) 1 = ve A 1 := congrArg zz_ix (sI_a (by omega))
      have gw : now (zz_sI A (26 + 6 * c) o (zn (ve A 1))) = now A := congrArg zz_ix (sI_a (by omega))
      refine Rl0_q hc H1.1 (zIC_fdw hc (Or.inr (Or.inr rfl)) H1.1.1.2) (fun a b _ _ _ _ _ h6 => sI_a h6) (fun a b h1 h2 h3 => ?_) rfl ⟨?_, fun p hp => ?_, ?_, fun b hb => ?_⟩
      · by_cases q : a = 35
        · rw [q, sI_b (by omega)]
        · exact sI_a q
      · rw [sI_a (by decide), gn]; exact q1
      · rw [gn] at hp
        rw [sI_a (by decide), gq, gv]; exact q2 p hp
      · rw [gn]; simp only [gq]; exact q3
      · obtain ⟨z1, f, d, w, z2, z3, z4, ⟨z5, z6, z7⟩, z8⟩ := q4 b hb
        unfold RQo
        rw [gi, gw, ge, sI_a (show 23 + 6 * c ≠ 26 + 6 * c by omega), sI_a (show 24 + 6 * c ≠ 26 + 6 * c by omega), sI_a (show 25 + 6 * c ≠ 26 + 6 * c by omega), sI_a (show (33 : Nat) ≠ 35 by decide), sI_a (show (34 : Nat) ≠ 35 by decide)]
        by_cases e1 : b = o
        · rw [e1] at z1 z2 z3 z8 ⊢
          rw [sI_e, sI_e]
          exact ⟨z1, f, d, ve A 1, z2, z3, z4, ⟨rfl, rfl, Nat.le_refl _⟩, z8⟩
        · rw [sI_b e1, sI_b (show 60 * c + b ≠ 60 * c + o by omega)]
          exact ⟨z1, f, d, w, z2, z3, z4, ⟨z5, z6, z7⟩, z8⟩
    · exact RMan_c H2 (fun b => sI_a (by omega)) (sI_a (by omega)) (sI_a (by omega)) (fun b => sI_a (by decide))
/-- what an act comes to -/
def actTo (A : zzMd) (p : Bool × zzMd) (c o : Nat) (R : zzMd) (r : Option zzRt) : Prop := ∃ R', r = some (.inl (some (.int (zb p.1))), R') ∧ rKy (wrtn (A.1 1 3) c o p.2) R' c o ∧ ∀ k, R'.1 37 k = R.1 37 k
theorem r_isCurrent (H : rAt A R c) {b : Nat} (hb : b < nv A 1) : fX12_isCurrent [.ref 0, .int (zn b)] R = some (.inl (some (.int (zb (utd A c b)))), R) := by
  have h60 := lt_n60 H.1 hb
  have h42 := H.2.1
  have e60 : (60 : Int32) * zn c = zn (60 * c) := zn_mul 60 c
  obtain ⟨b1, b2, b3⟩ := at_o H h60
  obtain ⟨k1, k2⟩ := kinds_o b h60
  have h9 := (H.1.2.1.2.2.2.2 b hb).2.2
  have h30 := ((H.1.2.2.1 c H.2.2).1.2 b h60).2.2.1
  have u : utd A c b = decide (zn (lastV (obj A) (ve A 1) b) = zn (lastV (obj A) (ve A (3 + c)) b)) := by
    unfold utd
    rw [((H.1.2.2.1 c H.2.2).1.2 b h60).1, H.1.2.1.2.2.2.1.2 b h60]
    exact decide_eq_decide.mpr ⟨Eq.symm, Eq.symm⟩
  rw [s_X12_isCurrent, u]
  by_cases d : zn (lastV (obj A) (ve A 1) b) = zn (lastV (obj A) (ve A (3 + c)) b)
  · rw [decide_eq_true d]
    rw [d] at h9
    (simp only [e_X12_isCurrent, zo_iload, zo_lload, zo_aload, zo_istore, zo_lstore, zo_astore, zo_iinc, zo_pushI, zo_pushL, zo_null, zo_ii, zo_iid, zo_ll, zo_li, zo_lcmp, zo_i2l, zo_l2i, zo_dup, zo_dup2, zo_pop, zo_goto, zo_if, zo_icmp, zo_ifnull, zo_gets, zo_mm, zo_throw, zo_ret, zo_aret, zo_lret, q_iret_f, q_iret_1, q_iret_0, q_iret_b, q_c8_0, q_c8_1, q_c8_2, q_c8_3, q_c8_4, q_set_0, q_set_1i, q_set_1r, q_set_1n, q_set_1N, q_set_s, q_set_1j, q_bk_v, q_bk_n, q_if, zb_ite, cond_true, cond_false, List.getElem?_cons_zero, List.getElem?_cons_succ, Nat.reduceAdd, q_set_1l, q_set2_0, q_set2_1i, q_set2_1r, q_set2_1n, q_set2_s, k1, k2, q_aR, h9, h42, e60, b1, b2, b3, h30, if_true, if_false, zb_eq0, zb_eq1, zn_1, not_true_eq_false, not_false_eq_true, ite_true, ite_false, if_true, if_false, q_iret_0, q_iret_1, decide_true, decide_false, decide_not, zb_t, zb_f, z10, z01, cond_true, cond_false, Bool.and_true, Bool.true_and, Bool.and_false, Bool.false_and, Bool.not_true, Bool.not_false, true_and, and_true, false_and, and_false, true_or, or_true, false_or, or_false, Bool.true_eq_false, Bool.false_eq_true, eq_self, reduceCtorEq, Bool.or_true, Bool.true_or, Bool.or_false, Bool.false_or])
  · rw [decide_eq_false d]
    (simp only [e_X12_isCurrent, zo_iload, zo_lload, zo_aload, zo_istore, zo_lstore, zo_astore, zo_iinc, zo_pushI, zo_pushL, zo_null, zo_ii, zo_iid, zo_ll, zo_li, zo_lcmp, zo_i2l, zo_l2i, zo_dup, zo_dup2, zo_pop, zo_goto, zo_if, zo_icmp, zo_ifnull, zo_gets, zo_mm, zo_throw, zo_ret, zo_aret, zo_lret, q_iret_f, q_iret_1, q_iret_0, q_iret_b, q_c8_0, q_c8_1, q_c8_2, q_c8_3, q_c8_4, q_set_0, q_set_1i, q_set_1r, q_set_1n, q_set_1N, q_set_s, q_set_1j, q_bk_v, q_bk_n, q_if, zb_ite, cond_true, cond_false, List.getElem?_cons_zero, List.getElem?_cons_succ, Nat.reduceAdd, q_set_1l, q_set2_0, q_set2_1i, q_set2_1r, q_set2_1n, q_set2_s, k1, k2, q_aR, h9, h42, e60, b1, b2, b3, h30, d, if_true, if_false, zb_eq0, zb_eq1, zn_1, not_true_eq_false, not_false_eq_true, ite_true, ite_false, if_true, if_false, q_iret_0, q_iret_1, decide_true, decide_false, decide_not, zb_t, zb_f, z10, z01, cond_true, cond_false, Bool.and_true, Bool.true_and, Bool.and_false, Bool.false_and, Bool.not_true, Bool.not_false, true_and, and_true, false_and, and_false, true_or, or_true, false_or, or_false, Bool.true_eq_false, Bool.false_eq_true, eq_self, reduceCtorEq, Bool.or_true, Bool.true_or, Bool.or_false, Bool.false_or])
theorem wrtn_0 (A : zzMd) (c o : Nat) : wrtn (A.1 1 3) c o A = A := by
  unfold wrtn
  rw [decide_eq_true (Int32.le_refl _)]
  rfl
theorem ky_of {o : Nat} (H : rKy A R c o) {B S : zzMd} (h : Rel B S) (h0 : ∀ k, k = 42 ∨ k = 43 → S.1 0 k = R.1 0 k) : rKy B S c o := ⟨⟨h.1, (h0 42 (Or.inl rfl)).trans H.1.2.1, H.1.2.2⟩, h.2, (h0 43 (Or.inr rfl)).trans H.2.2.1, H.2.2.2⟩
theorem r_writesIt {o : Nat} (H : rKy A R c o) {b : Nat} (hb : b < nv A 1) {D : Nat → Int32} {x y : Int64} (gD : goodD (dOw D)) (d22 : D 22 = zn b) (d23 : D 23 = R.1 6 b) (eD : encR x (dOw D)) (bD : encB y D) (hm : ∀ f, f < 11 → D (11 + f) = row A b (11 + f)) :
    actTo A (bif utd A c b then aWr A b D else (false, A)) c o R (fX12_writesIt [.ref 0, .int (zn b), .long x, .long y] R) := by
  have h14 := H.1.1.2.1.1.1
  have h13 := H.1.1.1.2.1.2.2.1
  have hi := r_isCurrent H.1 hb
  unfold actTo
  rw [s_X12_writesIt, h13]
  cases u : utd A c b
  · rw [u] at hi
    obtain ⟨R', e1, e2, e3⟩ := r_wrote H (e := ve A 1) (Nat.le_refl _)
    refine ⟨R', ?_, e2, e3⟩
    rw [cond_false]
    (simp only [e_X12_writesIt, zo_iload, zo_lload, zo_aload, zo_istore, zo_lstore, zo_astore, zo_iinc, zo_pushI, zo_pushL, zo_null, zo_ii, zo_iid, zo_ll, zo_li, zo_lcmp, zo_i2l, zo_l2i, zo_dup, zo_dup2, zo_pop, zo_goto, zo_if, zo_icmp, zo_ifnull, zo_gets, zo_mm, zo_throw, zo_ret, zo_aret, zo_lret, q_iret_f, q_iret_1, q_iret_0, q_iret_b, q_c8_0, q_c8_1, q_c8_2, q_c8_3, q_c8_4, q_set_0, q_set_1i, q_set_1r, q_set_1n, q_set_1N, q_set_s, q_set_1j, q_bk_v, q_bk_n, q_if, zb_ite, cond_true, cond_false, List.getElem?_cons_zero, List.getElem?_cons_succ, Nat.reduceAdd, q_set_1l, q_set2_0, q_set2_1i, q_set2_1r, q_set2_1n, q_set2_s, h14, hi, e1, if_true, if_false, zb_eq0, zb_eq1, zn_1, not_true_eq_false, not_false_eq_true, ite_true, ite_false, if_true, if_false, q_iret_0, q_iret_1, decide_true, decide_false, decide_not, zb_t, zb_f, z10, z01, cond_true, cond_false, Bool.and_true, Bool.true_and, Bool.and_false, Bool.false_and, Bool.not_true, Bool.not_false, true_and, and_true, false_and, and_false, true_or, or_true, false_or, or_false, Bool.true_eq_false, Bool.false_eq_true, eq_self, reduceCtorEq, Bool.or_true, Bool.true_or, Bool.or_false, Bool.false_or])
  · rw [u] at hi
    obtain ⟨R1, p1, p2, p3, p4, p5⟩ := Rel_ch ⟨H.1.1, H.2.1⟩ hb gD d22 d23 eD bD hm
    obtain ⟨R', e1, e2, e3⟩ := r_wrote (ky_of H p2 fun k hk => p4 k (by omega)) (e := ve A 1) (Wr_ve (rl_e4 H.1.1))
    rw [cond_true]
    refine ⟨R', ?_, e2, fun k => (e3 k).trans (p3 37 k (by decide) (by decide) (by decide))⟩
    generalize aWr A b D = P at p1 p2 ⊢
    cases hp : P.1 <;> rw [hp] at p1
    · simp only [zb_f] at p1
      (simp only [e_X12_writesIt, zo_iload, zo_lload, zo_aload, zo_istore, zo_lstore, zo_astore, zo_iinc, zo_pushI, zo_pushL, zo_null, zo_ii, zo_iid, zo_ll, zo_li, zo_lcmp, zo_i2l, zo_l2i, zo_dup, zo_dup2, zo_pop, zo_goto, zo_if, zo_icmp, zo_ifnull, zo_gets, zo_mm, zo_throw, zo_ret, zo_aret, zo_lret, q_iret_f, q_iret_1, q_iret_0, q_iret_b, q_c8_0, q_c8_1, q_c8_2, q_c8_3, q_c8_4, q_set_0, q_set_1i, q_set_1r, q_set_1n, q_set_1N, q_set_s, q_set_1j, q_bk_v, q_bk_n, q_if, zb_ite, cond_true, cond_false, List.getElem?_cons_zero, List.getElem?_cons_succ, Nat.reduceAdd, q_set_1l, q_set2_0, q_set2_1i, q_set2_1r, q_set2_1n, q_set2_s, h14, hi, p1, e1, if_true, if_false, zb_eq0, zb_eq1, zn_1, not_true_eq_false, not_false_eq_true, ite_true, ite_false, if_true, if_false, q_iret_0, q_iret_1, decide_true, decide_false, decide_not, zb_t, zb_f, z10, z01, cond_true, cond_false, Bool.and_true, Bool.true_and, Bool.and_false, Bool.false_and, Bool.not_true, Bool.not_false, true_and, and_true, false_and, and_false, true_or, or_true, false_or, or_false, Bool.true_eq_false, Bool.false_eq_true, eq_self, reduceCtorEq, Bool.or_true, Bool.true_or, Bool.or_false, Bool.false_or])
    · simp only [zb_t] at p1
      (simp only [e_X12_writesIt, zo_iload, zo_lload, zo_aload, zo_istore, zo_lstore, zo_astore, zo_iinc, zo_pushI, zo_pushL, zo_null, zo_ii, zo_iid, zo_ll, zo_li, zo_lcmp, zo_i2l, zo_l2i, zo_dup, zo_dup2, zo_pop, zo_goto, zo_if, zo_icmp, zo_ifnull, zo_gets, zo_mm, zo_throw, zo_ret, zo_aret, zo_lret, q_iret_f, q_iret_1, q_iret_0, q_iret_b, q_c8_0, q_c8_1, q_c8_2, q_c8_3, q_c8_4, q_set_0, q_set_1i, q_set_1r, q_set_1n, q_set_1N, q_set_s, q_set_1j, q_bk_v, q_bk_n, q_if, zb_ite, cond_true, cond_false, List.getElem?_cons_zero, List.getElem?_cons_succ, Nat.reduceAdd, q_set_1l, q_set2_0, q_set2_1i, q_set2_1r, q_set2_1n, q_set2_s, h14, hi, p1, e1, if_true, if_false, zb_eq0, zb_eq1, zn_1, not_true_eq_false, not_false_eq_true, ite_true, ite_false, if_true, if_false, q_iret_0, q_iret_1, decide_true, decide_false, decide_not, zb_t, zb_f, z10, z01, cond_true, cond_false, Bool.and_true, Bool.true_and, Bool.and_false, Bool.false_and, Bool.not_true, Bool.not_false, true_and, and_true, false_and, and_false, true_or, or_true, false_or, or_false, Bool.true_eq_false, Bool.false_eq_true, eq_self, reduceCtorEq, Bool.or_true, Bool.true_or, Bool.or_false, Bool.false_or])
theorem Ad_ve {o : Nat} {D : Nat → Int32} (h4 : ve A 1 ≤ 400) : ve A 1 ≤ ve (aAd A o D).2 1 := by
  unfold aAd
  cases (settled A D).1 && allowed A (settled A D).2
  · exact Nat.le_refl _
  · exact Wr_ve h4
theorem Ap_ve {m : Int32} {o : Nat} {f x : Int32} (h4 : ve A 1 ≤ 400) : ve A 1 ≤ ve (aAp A m o f x).2 1 := by
  unfold aAp
  cases hasF (row A o 23) f
  · exact Nat.le_refl _
  · exact Ad_ve h4
theorem Open_ve {m k w t : Int32} (h4 : ve A 1 ≤ 400) : ve A 1 ≤ ve (aOpen A m k w t).2 1 := by
  unfold aOpen
  by_cases h : 60 ≤ nv A 1 ∨ k = 2 ∧ ¬ zn (liveP A) < A.1 2 5
  · rw [if_pos h]; exact Nat.le_refl _
  · rw [if_neg h]
    cases (aAd A (nv A 1) (dNew m k w t (nv A 1))).1
    · exact Ad_ve h4
    · exact Ad_ve (A := A) (o := nv A 1) (D := dNew m k w t (nv A 1)) h4
theorem r_wants {o : Nat} (H : rKy A R c o) {b a : Nat} (hb : b < nv A 1) (hk : hasF (row A b 23) 0 = true) (ha : a ≤ 5) :
    actTo A (bif utd A c b then aAp A 4 b 0 (zn a) else (false, A)) c o R (fX12_wants [.ref 0, .int (zn b), .int (zn a)] R) := by
  have h14 := H.1.1.2.1.1.1
  have h13 := H.1.1.1.2.1.2.2.1
  have hi := r_isCurrent H.1 hb
  unfold actTo
  rw [s_X12_wants, h13]
  cases u : utd A c b
  · rw [u] at hi
    obtain ⟨R', e1, e2, e3⟩ := r_wrote H (e := ve A 1) (Nat.le_refl _)
    refine ⟨R', ?_, e2, e3⟩
    rw [cond_false]
    (simp only [e_X12_wants, zo_iload, zo_lload, zo_aload, zo_istore, zo_lstore, zo_astore, zo_iinc, zo_pushI, zo_pushL, zo_null, zo_ii, zo_iid, zo_ll, zo_li, zo_lcmp, zo_i2l, zo_l2i, zo_dup, zo_dup2, zo_pop, zo_goto, zo_if, zo_icmp, zo_ifnull, zo_gets, zo_mm, zo_throw, zo_ret, zo_aret, zo_lret, q_iret_f, q_iret_1, q_iret_0, q_iret_b, q_c8_0, q_c8_1, q_c8_2, q_c8_3, q_c8_4, q_set_0, q_set_1i, q_set_1r, q_set_1n, q_set_1N, q_set_s, q_set_1j, q_bk_v, q_bk_n, q_if, zb_ite, cond_true, cond_false, List.getElem?_cons_zero, List.getElem?_cons_succ, Nat.reduceAdd, q_set_1l, q_set2_0, q_set2_1i, q_set2_1r, q_set2_1n, q_set2_s, h14, hi, e1, if_true, if_false, zb_eq0, zb_eq1, zn_1, not_true_eq_false, not_false_eq_true, ite_true, ite_false, if_true, if_false, q_iret_0, q_iret_1, decide_true, decide_false, decide_not, zb_t, zb_f, z10, z01, cond_true, cond_false, Bool.and_true, Bool.true_and, Bool.and_false, Bool.false_and, Bool.not_true, Bool.not_false, true_and, and_true, false_and, and_false, true_or, or_true, false_or, or_false, Bool.true_eq_false, Bool.false_eq_true, eq_self, reduceCtorEq, Bool.or_true, Bool.true_or, Bool.or_false, Bool.false_or])
  · rw [u] at hi
    obtain ⟨R1, p1, p2, p3, p4, p5⟩ := Rel_ap ⟨H.1.1, H.2.1⟩ hb (f := 0) (a := a) (by decide) hk (Nat.zero_le _) ha 4
    have p1' : fX12_applies [.ref 0, .int 4, .int (zn b), .int 0, .int (zn a)] R = _ := p1
    obtain ⟨R', e1, e2, e3⟩ := r_wrote (ky_of H p2 fun k hk => p4 k (by omega) (by omega)) (e := ve A 1) (Ap_ve (rl_e4 H.1.1))
    rw [cond_true]
    refine ⟨R', ?_, e2, fun k => (e3 k).trans (p3 37 k (by decide) (by decide) (by decide) (by decide))⟩
    have ez : aAp A 4 b 0 (zn a) = aAp A 4 b (zn 0) (zn a) := rfl
    rw [ez]
    generalize aAp A 4 b (zn 0) (zn a) = P at p1' p2 ⊢
    clear p1
    cases hp : P.1 <;> rw [hp] at p1'
    · simp only [zb_f] at p1'
      (simp only [e_X12_wants, zo_iload, zo_lload, zo_aload, zo_istore, zo_lstore, zo_astore, zo_iinc, zo_pushI, zo_pushL, zo_null, zo_ii, zo_iid, zo_ll, zo_li, zo_lcmp, zo_i2l, zo_l2i, zo_dup, zo_dup2, zo_pop, zo_goto, zo_if, zo_icmp, zo_ifnull, zo_gets, zo_mm, zo_throw, zo_ret, zo_aret, zo_lret, q_iret_f, q_iret_1, q_iret_0, q_iret_b, q_c8_0, q_c8_1, q_c8_2, q_c8_3, q_c8_4, q_set_0, q_set_1i, q_set_1r, q_set_1n, q_set_1N, q_set_s, q_set_1j, q_bk_v, q_bk_n, q_if, zb_ite, cond_true, cond_false, List.getElem?_cons_zero, List.getElem?_cons_succ, Nat.reduceAdd, q_set_1l, q_set2_0, q_set2_1i, q_set2_1r, q_set2_1n, q_set2_s, h14, hi, p1', e1, if_true, if_false, zb_eq0, zb_eq1, zn_1, not_true_eq_false, not_false_eq_true, ite_true, ite_false, if_true, if_false, q_iret_0, q_iret_1, decide_true, decide_false, decide_not, zb_t, zb_f, z10, z01, cond_true, cond_false, Bool.and_true, Bool.true_and, Bool.and_false, Bool.false_and, Bool.not_true, Bool.not_false, true_and, and_true, false_and, and_false, true_or, or_true, false_or, or_false, Bool.true_eq_false, Bool.false_eq_true, eq_self, reduceCtorEq, Bool.or_true, Bool.true_or, Bool.or_false, Bool.false_or])
    · simp only [zb_t] at p1'
      (simp only [e_X12_wants, zo_iload, zo_lload, zo_aload, zo_istore, zo_lstore, zo_astore, zo_iinc, zo_pushI, zo_pushL, zo_null, zo_ii, zo_iid, zo_ll, zo_li, zo_lcmp, zo_i2l, zo_l2i, zo_dup, zo_dup2, zo_pop, zo_goto, zo_if, zo_icmp, zo_ifnull, zo_gets, zo_mm, zo_throw, zo_ret, zo_aret, zo_lret, q_iret_f, q_iret_1, q_iret_0, q_iret_b, q_c8_0, q_c8_1, q_c8_2, q_c8_3, q_c8_4, q_set_0, q_set_1i, q_set_1r, q_set_1n, q_set_1N, q_set_s, q_set_1j, q_bk_v, q_bk_n, q_if, zb_ite, cond_true, cond_false, List.getElem?_cons_zero, List.getElem?_cons_succ, Nat.reduceAdd, q_set_1l, q_set2_0, q_set2_1i, q_set2_1r, q_set2_1n, q_set2_s, h14, hi, p1', e1, if_true, if_false, zb_eq0, zb_eq1, zn_1, not_true_eq_false, not_false_eq_true, ite_true, ite_false, if_true, if_false, q_iret_0, q_iret_1, decide_true, decide_false, decide_not, zb_t, zb_f, z10, z01, cond_true, cond_false, Bool.and_true, Bool.true_and, Bool.and_false, Bool.false_and, Bool.not_true, Bool.not_false, true_and, and_true, false_and, and_false, true_or, or_true, false_or, or_false, Bool.true_eq_false, Bool.false_eq_true, eq_self, reduceCtorEq, Bool.or_true, Bool.true_or, Bool.or_false, Bool.false_or])
theorem r_deletes {o : Nat} (H : rKy A R c o) {b : Nat} (hb : b < nv A 1) : actTo A (aRem A c b) c o R (fX12_deletes [.ref 0, .int (zn b)] R) := by
  obtain ⟨c1, c2, c3, c4, c5⟩ := rl_cur H.1.1 hb
  obtain ⟨k1, k2⟩ := kinds_o b (lt_n60 H.1.1 hb)
  obtain ⟨e1, e2⟩ := go_enc H.1.1 hb (q := 2) (by decide) (by decide)
  have hd : fX12_deleted [.ref 0, .int (zn b), .long (R.2 7 b), .int 2] R = _ := r_deleted H.1.1.1.1 (lt_n60 H.1.1 hb) (R.2 7 b) 2
  have hw := r_writesIt H hb (D := goD A b 2) (x := delW (R.2 7 b) (R.1 6 b) 2) (y := R.2 8 b) e2 c4 c5 e1 (encB_c c2 rfl rfl) fun f hf => if_neg (by omega)
  unfold aRem
  obtain ⟨R', f1, f2, f3⟩ := hw
  refine ⟨R', ?_, f2, f3⟩
  rw [s_X12_deletes]
  have eg : (bif utd A c b then aWr A b (goD A b 2) else (false, A)) = (bif utd A c b then aGo A b 2 else (false, A)) := rfl
  rw [eg] at f1
  generalize (bif utd A c b then aGo A b 2 else (false, A)) = P at f1 ⊢
  (simp only [e_X12_deletes, zo_iload, zo_lload, zo_aload, zo_istore, zo_lstore, zo_astore, zo_iinc, zo_pushI, zo_pushL, zo_null, zo_ii, zo_iid, zo_ll, zo_li, zo_lcmp, zo_i2l, zo_l2i, zo_dup, zo_dup2, zo_pop, zo_goto, zo_if, zo_icmp, zo_ifnull, zo_gets, zo_mm, zo_throw, zo_ret, zo_aret, zo_lret, q_iret_f, q_iret_1, q_iret_0, q_iret_b, q_c8_0, q_c8_1, q_c8_2, q_c8_3, q_c8_4, q_set_0, q_set_1i, q_set_1r, q_set_1n, q_set_1N, q_set_s, q_set_1j, q_bk_v, q_bk_n, q_if, zb_ite, cond_true, cond_false, List.getElem?_cons_zero, List.getElem?_cons_succ, Nat.reduceAdd, q_set_1l, q_set2_0, q_set2_1i, q_set2_1r, q_set2_1n, q_set2_s, k1, k2, q_aR, hd, f1, if_true, if_false, zb_eq0, zb_eq1, zn_1, not_true_eq_false, not_false_eq_true, ite_true, ite_false, if_true, if_false, q_iret_0, q_iret_1, decide_true, decide_false, decide_not, zb_t, zb_f, z10, z01, cond_true, cond_false, Bool.and_true, Bool.true_and, Bool.and_false, Bool.false_and, Bool.not_true, Bool.not_false, true_and, and_true, false_and, and_false, true_or, or_true, false_or, or_false, Bool.true_eq_false, Bool.false_eq_true, eq_self, reduceCtorEq, Bool.or_true, Bool.true_or, Bool.or_false, Bool.false_or])
theorem r_makesOne {o : Nat} (H : rKy A R c o) {t tp w : Nat} (ht : t < 6) (htp : tp ≤ 9) (hw : w < nv A 1) : actTo A (!decide ((aOpen A 4 (zn t) (zn w) (zn tp)).1 = -1), (aOpen A 4 (zn t) (zn w) (zn tp)).2) c o R (fX12_makesOne [.ref 0, .int (zn t), .int (zn w), .int (zn tp)] R) := by
  have h14 := H.1.1.2.1.1.1
  have h13 := H.1.1.1.2.1.2.2.1
  obtain ⟨R1, p1, p2, p3, p4⟩ := Rel_mk ⟨H.1.1, H.2.1⟩ ht htp (w := zn w) (Or.inr ⟨w, rfl, hw⟩) 4
  obtain ⟨R', e1, e2, e3⟩ := r_wrote (ky_of H p2 fun k hk => p4 k (by omega) (by omega) (by omega)) (e := ve A 1) (Open_ve (rl_e4 H.1.1))
  unfold actTo
  rw [s_X12_makesOne, h13]
  refine ⟨R', ?_, e2, fun k => (e3 k).trans (p3 37 k (by decide) (by decide) (by decide) (by decide) (by decide) (by decide))⟩
  generalize aOpen A 4 (zn t) (zn w) (zn tp) = P at p1 p2 ⊢
  by_cases d : P.1 = -1
  · rw [d] at p1 ⊢
    (simp only [e_X12_makesOne, zo_iload, zo_lload, zo_aload, zo_istore, zo_lstore, zo_astore, zo_iinc, zo_pushI, zo_pushL, zo_null, zo_ii, zo_iid, zo_ll, zo_li, zo_lcmp, zo_i2l, zo_l2i, zo_dup, zo_dup2, zo_pop, zo_goto, zo_if, zo_icmp, zo_ifnull, zo_gets, zo_mm, zo_throw, zo_ret, zo_aret, zo_lret, q_iret_f, q_iret_1, q_iret_0, q_iret_b, q_c8_0, q_c8_1, q_c8_2, q_c8_3, q_c8_4, q_set_0, q_set_1i, q_set_1r, q_set_1n, q_set_1N, q_set_s, q_set_1j, q_bk_v, q_bk_n, q_if, zb_ite, cond_true, cond_false, List.getElem?_cons_zero, List.getElem?_cons_succ, Nat.reduceAdd, q_set_1l, q_set2_0, q_set2_1i, q_set2_1r, q_set2_1n, q_set2_s, h14, p1, e1, if_true, if_false, zb_eq0, zb_eq1, zn_1, not_true_eq_false, not_false_eq_true, ite_true, ite_false, if_true, if_false, q_iret_0, q_iret_1, decide_true, decide_false, decide_not, zb_t, zb_f, z10, z01, cond_true, cond_false, Bool.and_true, Bool.true_and, Bool.and_false, Bool.false_and, Bool.not_true, Bool.not_false, true_and, and_true, false_and, and_false, true_or, or_true, false_or, or_false, Bool.true_eq_false, Bool.false_eq_true, eq_self, reduceCtorEq, Bool.or_true, Bool.true_or, Bool.or_false, Bool.false_or])
  · (simp only [e_X12_makesOne, zo_iload, zo_lload, zo_aload, zo_istore, zo_lstore, zo_astore, zo_iinc, zo_pushI, zo_pushL, zo_null, zo_ii, zo_iid, zo_ll, zo_li, zo_lcmp, zo_i2l, zo_l2i, zo_dup, zo_dup2, zo_pop, zo_goto, zo_if, zo_icmp, zo_ifnull, zo_gets, zo_mm, zo_throw, zo_ret, zo_aret, zo_lret, q_iret_f, q_iret_1, q_iret_0, q_iret_b, q_c8_0, q_c8_1, q_c8_2, q_c8_3, q_c8_4, q_set_0, q_set_1i, q_set_1r, q_set_1n, q_set_1N, q_set_s, q_set_1j, q_bk_v, q_bk_n, q_if, zb_ite, cond_true, cond_false, List.getElem?_cons_zero, List.getElem?_cons_succ, Nat.reduceAdd, q_set_1l, q_set2_0, q_set2_1i, q_set2_1r, q_set2_1n, q_set2_s, h14, p1, d, e1, if_true, if_false, zb_eq0, zb_eq1, zn_1, not_true_eq_false, not_false_eq_true, ite_true, ite_false, if_true, if_false, q_iret_0, q_iret_1, decide_true, decide_false, decide_not, zb_t, zb_f, z10, z01, cond_true, cond_false, Bool.and_true, Bool.true_and, Bool.and_false, Bool.false_and, Bool.not_true, Bool.not_false, true_and, and_true, false_and, and_false, true_or, or_true, false_or, or_false, Bool.true_eq_false, Bool.false_eq_true, eq_self, reduceCtorEq, Bool.or_true, Bool.true_or, Bool.or_false, Bool.false_or])
end
end

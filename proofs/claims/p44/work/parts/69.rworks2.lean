section
/-! a controller works once, in both: the whole -/
section
variable {A B R S : zzMd} {c o : Nat}
def dly (f : Nat) : Nat := if f ≤ 3 then 2 ^ f else 16
theorem delay_n {f : Nat} (hf : f < 1000000) : delayOf (zn f) = zn (dly f) ∧ 1 ≤ dly f ∧ dly f ≤ 16 := by
  unfold delayOf dly
  have l : ∀ k, k < 10 → (zn f ≤ zn k) = (f ≤ k) := fun k hk => zn_le (a := f) (b := k) (by omega) (by omega)
  have l0 : (zn f ≤ 0) = (f ≤ 0) := l 0 (by decide)
  have l1 : (zn f ≤ 1) = (f ≤ 1) := l 1 (by decide)
  have l2 : (zn f ≤ 2) = (f ≤ 2) := l 2 (by decide)
  have l3 : (zn f ≤ 3) = (f ≤ 3) := l 3 (by decide)
  simp only [l0, l1, l2, l3]
  rcases f with _ | _ | _ | _ | f
  · exact ⟨rfl, by decide, by decide⟩
  · exact ⟨rfl, by decide, by decide⟩
  · exact ⟨rfl, by decide, by decide⟩
  · exact ⟨rfl, by decide, by decide⟩
  · rw [if_neg (by omega), if_neg (by omega), if_neg (by omega), if_neg (by omega), if_neg (by omega)]
    exact ⟨rfl, by decide, by decide⟩
theorem shl_n {f : Nat} (hf : f ≤ 3) : (1 : Int32) <<< (zn f &&& 31) = zn (dly f) := by
  have key : ∀ f : Fin 4, (1 : Int32) <<< (zn f.1 &&& 31) = zn (dly f.1) := by decide
  exact key ⟨f, by omega⟩
theorem aFail_1 (A : zzMd) (c o a b : Nat) : (aFail A c o).1 a b = if a = 25 + 6 * c ∧ b = o then A.1 1 7 + delayOf (A.1 (24 + 6 * c) o) else if a = 24 + 6 * c ∧ b = o then A.1 (24 + 6 * c) o + 1 else A.1 a b := rfl
theorem qn_flag (H : rAt A R c) (h60 : o < 60) (h : A.1 (23 + 6 * c) o = 0) : ¬ inQ A c o := by
  obtain ⟨z1, -⟩ := (rq_of H).2.2.2 o h60
  rcases z1 with ⟨y, -⟩ | ⟨-, y⟩
  · rw [h] at y; exact absurd y (by decide)
  · exact y
theorem RMan_enq {S' : zzMd} {x : Int32} (hc : c < 8) (h : RMan A R) (h1 : ∀ b, S'.1 10 b = R.1 10 b) : RMan (aEnq A c x) S' :=
  RMan_c h (fun b => Enq_o _ (Or.inl (by omega)) (by omega) (by omega)) (Enq_o _ (Or.inl (by omega)) (by omega) (by omega)) (Enq_o _ (Or.inl (by omega)) (by omega) (by omega)) h1
theorem r_fail' (H : rKy B S c o) (ho : o < nv B 1) (h0 : B.1 (23 + 6 * c) o = 0) (l1 : Option Value) : ∃ S', zz_ev tX12_works 192 [some (.ref 0), l1, some (.int (zn (60 * c + o)))] [.int 0] S = some (.inl (some (.int 3)), S') ∧ rAt (aEnq (aFail B c o) c (zn o)) S' c ∧ RMan (aEnq (aFail B c o) c (zn o)) S' := by
  have hc := H.1.2.2
  have h60 := H.2.2.2
  have h43 := H.2.2.1
  have h42 := H.1.2.1
  have hnin := qn_flag H.1 h60 h0
  obtain ⟨-, f, d, w, ⟨f1, f2⟩, d1, ⟨d2, d3⟩, -, -, d5⟩ := (rq_of H.1).2.2.2 o h60
  have dn := d5 hnin
  obtain ⟨h17, h10, h48⟩ := H.1.1.2.2.2.2.2.1
  have hd := delay_n (f := f) (by omega)
  obtain ⟨b0, b1, x1⟩ := at_o H.1 h60
  have h31 := (rq_of H.1).1
  have e1 : zn (now B) + zn (dly f) = zn (now B + dly f) := zn_add _ _
  have fF : (aFail B c o).1 (24 + 6 * c) o = zn (f + 1) := by
    rw [aFail_1, if_neg (by omega), if_pos ⟨rfl, rfl⟩, f1, zn_1]
  have dF : (aFail B c o).1 (25 + 6 * c) o = zn (now B + dly f) := by
    rw [aFail_1, if_pos ⟨rfl, rfl⟩, f1, hd.1, h17, e1]
  obtain ⟨hb, hn⟩ := Rl0_back (A := B) (R := S) (A' := aFail B c o) (R' := zz_sI (zz_sI S 34 (60 * c + o) (zn (now B + dly f))) 33 (60 * c + o) (zn (f + 1))) H.1 ho hnin (zIC_Fail hc H.1.1.1.2) (fun a b x y => by rw [aFail_1, if_neg (by omega), if_neg (by omega)]) (fun a b x y => by rw [sI_1, sI_1, if_neg (by omega), if_neg (by omega)]) rfl (f := f + 1) (d := now B + dly f) fF sI_e dF (by omega) (by omega) (Or.inl (by rw [sI_a (by decide), sI_e]))
  have m33 : ∀ v, (zz_sI S 34 (60 * c + o) v).1 33 (60 * c + o) = zn f := fun v => (sI_a (by decide)).trans f2
  have hp := r_putsBack (R := zz_sI (zz_sI S 34 (60 * c + o) (zn (now B + dly f))) 33 (60 * c + o) (zn (f + 1))) (n := qn B c) (o := o) hc hn ((sI_a (by decide)).trans ((sI_a (by decide)).trans h42)) ((sI_a (by decide)).trans ((sI_a (by decide)).trans h31)) ((sI_a (by decide)).trans ((sI_a (by decide)).trans h43))
  refine ⟨_, ?_, hb, RMan_enq hc (RMan_c (A' := aFail B c o) (R' := S) H.2.1 (fun b => by rw [aFail_1, if_neg (by omega), if_neg (by omega)]) (by rw [aFail_1, if_neg (by omega), if_neg (by omega)]) (by rw [aFail_1, if_neg (by omega), if_neg (by omega)]) (fun _ => rfl)) fun b => ?_⟩
  · clear hb
    have l3 : (zn f ≤ 3) = (f ≤ 3) := zn_le (a := f) (b := 3) (by omega) (by decide)
    by_cases q : f ≤ 3
    · have l3' : (zn f ≤ 3) = True := l3.trans (eq_true q)
      have sh := shl_n q
      (simp only [e_X12_works, zo_iload, zo_lload, zo_aload, zo_istore, zo_lstore, zo_astore, zo_iinc, zo_pushI, zo_pushL, zo_null, zo_ii, zo_iid, zo_ll, zo_li, zo_lcmp, zo_i2l, zo_l2i, zo_dup, zo_dup2, zo_pop, zo_goto, zo_if, zo_icmp, zo_ifnull, zo_gets, zo_mm, zo_throw, zo_ret, zo_aret, zo_lret, q_iret_f, q_iret_1, q_iret_0, q_iret_b, q_c8_0, q_c8_1, q_c8_2, q_c8_3, q_c8_4, q_set_0, q_set_1i, q_set_1r, q_set_1n, q_set_1N, q_set_s, q_set_1j, q_bk_v, q_bk_n, q_if, zb_ite, cond_true, cond_false, List.getElem?_cons_zero, List.getElem?_cons_succ, Nat.reduceAdd, q_set_1l, q_set2_0, q_set2_1i, q_set2_1r, q_set2_1n, q_set2_s, b1, x1, q_aR, h48, f2, l3', sh, e1, m33, hp, if_true, if_false, zb_eq0, zb_eq1, zn_1, not_true_eq_false, not_false_eq_true, ite_true, ite_false, if_true, if_false, q_iret_0, q_iret_1, decide_true, decide_false, decide_not, zb_t, zb_f, z10, z01, cond_true, cond_false, Bool.and_true, Bool.true_and, Bool.and_false, Bool.false_and, Bool.not_true, Bool.not_false, true_and, and_true, false_and, and_false, true_or, or_true, false_or, or_false, Bool.true_eq_false, Bool.false_eq_true, eq_self, reduceCtorEq, Bool.or_true, Bool.true_or, Bool.or_false, Bool.false_or])
    · have l3' : (zn f ≤ 3) = False := l3.trans (eq_false q)
      have e16 : zn (now B) + 16 = zn (now B + dly f) := by
        rw [← e1]
        unfold dly
        rw [if_neg q]
        rfl
      (simp only [e_X12_works, zo_iload, zo_lload, zo_aload, zo_istore, zo_lstore, zo_astore, zo_iinc, zo_pushI, zo_pushL, zo_null, zo_ii, zo_iid, zo_ll, zo_li, zo_lcmp, zo_i2l, zo_l2i, zo_dup, zo_dup2, zo_pop, zo_goto, zo_if, zo_icmp, zo_ifnull, zo_gets, zo_mm, zo_throw, zo_ret, zo_aret, zo_lret, q_iret_f, q_iret_1, q_iret_0, q_iret_b, q_c8_0, q_c8_1, q_c8_2, q_c8_3, q_c8_4, q_set_0, q_set_1i, q_set_1r, q_set_1n, q_set_1N, q_set_s, q_set_1j, q_bk_v, q_bk_n, q_if, zb_ite, cond_true, cond_false, List.getElem?_cons_zero, List.getElem?_cons_succ, Nat.reduceAdd, q_set_1l, q_set2_0, q_set2_1i, q_set2_1r, q_set2_1n, q_set2_s, b1, x1, q_aR, h48, f2, l3', e16, m33, hp, if_true, if_false, zb_eq0, zb_eq1, zn_1, not_true_eq_false, not_false_eq_true, ite_true, ite_false, if_true, if_false, q_iret_0, q_iret_1, decide_true, decide_false, decide_not, zb_t, zb_f, z10, z01, cond_true, cond_false, Bool.and_true, Bool.true_and, Bool.and_false, Bool.false_and, Bool.not_true, Bool.not_false, true_and, and_true, false_and, and_false, true_or, or_true, false_or, or_false, Bool.true_eq_false, Bool.false_eq_true, eq_self, reduceCtorEq, Bool.or_true, Bool.true_or, Bool.or_false, Bool.false_or])
  · rw [rBk_1, if_neg (by omega), if_neg (by omega), sI_a (by decide), sI_a (by decide)]

/-- what the class needs to serve -/
theorem zSv_of (H : Rl0 A R) (hc : c < 8) (h60 : o < 60) : zSv c A o := by
  have HA : ∀ d, d < 8 → rAt A (zz_sI R 0 42 (zn d)) d := fun d hd => ⟨Rl0_31 (Or.inr (Or.inl rfl)) H, sI_e, hd⟩
  refine ⟨fun hs => ?_, ?_, zLe_of (HA c hc)⟩
  · have hsn : o < nv A (3 + c) := seen_stay (HA c hc) h60 hs
    obtain ⟨a, a1, -, a3⟩ := fld (HA c hc) (i := o) (f := 0) hsn (by decide)
    have a1' : rd A (3 + c) (zn o) 0 = zn a := a1
    have a3' : a ≤ 5 := a3
    rw [a1', zn_toInt (by omega)]
    omega
  · by_cases hsn : o < nv A 6
    · obtain ⟨t, t1, t2⟩ := rnk_lo (HA 3 (by decide)) hsn
      rw [t1, zn_ix (by omega)]
      exact ⟨rfl, by omega⟩
    · have h1 : rd A 6 (zn o) 1 = -1 := rv_un (HA 3 (by decide)) (s := 1) h60 (by decide) hsn
      unfold rnk
      rw [h1]
      exact ⟨by decide, by decide⟩
/-- from the key on: T is the memory after the taking, H0 what was known of the key before -/
theorem r_works1 {T R2 : zzMd} (H : rKy T R2 c o) (ho : o < nv T 1) (h0 : T.1 (23 + 6 * c) o = 0) {d : Nat} (hdb : d < 1000000) (hd1 : T.1 (25 + 6 * c) o = zn d) (hd2 : R2.1 34 (60 * c + o) = zn d ∨ d ≤ now T ∧ R2.1 34 (60 * c + o) = 0) (l1 : Option Value) :
    ∃ R', zz_ev tX12_works 112 [some (.ref 0), l1, some (.int (zn (60 * c + o)))] [] R2 = some (.inl (some (.int (aWork1 T c o).1)), R') ∧ rAt (aWork1 T c o).2 R' c ∧ RMan (aWork1 T c o).2 R' := by
  have hc := H.1.2.2
  have h60 := H.2.2.2
  have h43 := H.2.2.1
  have h42 := H.1.2.1
  have hnin := qn_flag H.1 h60 h0
  obtain ⟨-, f, d', w, ⟨f1, f2⟩, d1, ⟨d2, d3⟩, ⟨w1, w2, -⟩, -, d5⟩ := (rq_of H.1).2.2.2 o h60
  have dn := d5 hnin
  have ed : d = d' := by
    rw [hd1] at d1
    have := H.1.1.2.2.2.2.2.1.2.1
    have e := zn_inj (a := d) (b := d') (by omega) (by omega)
    rw [e] at d1; exact d1
  subst ed
  obtain ⟨g1, g2, -⟩ := sees_M H.1
  obtain ⟨b0, b1, x1⟩ := at_o H.1 h60
  have bc : zz_inb (zn c) 8 = true := zn_inT hc (by decide)
  have xc : zz_ix (zn c) = c := zn_ix (by omega)
  have h31 := (rq_of H.1).1
  unfold aWork1
  rw [w1, g1]
  by_cases cw : zn w ≤ zn (ve T (3 + c))
  · rw [decide_eq_true cw, cond_true]
    have cw' : (zn (ve T (3 + c)) < zn w) = False := eq_false (Int32.not_lt.mpr cw)
    have he := r_isEarly H
    cases hE : erl T c o
    · rw [hE] at he
      obtain ⟨R3, b, e1, e2, e3⟩ := r_does H hE
      rw [e2]
      have s192 : zz_ev tX12_works 112 [some (.ref 0), l1, some (.int (zn (60 * c + o)))] [] R2 = zz_ev tX12_works 192 [some (.ref 0), l1, some (.int (zn (60 * c + o)))] [.int (zb b)] R3 := by
        generalize hZ : zz_ev tX12_works 192 [some (.ref 0), l1, some (.int (zn (60 * c + o)))] [.int (zb b)] R3 = Z
        (simp only [e_X12_works, zo_iload, zo_lload, zo_aload, zo_istore, zo_lstore, zo_astore, zo_iinc, zo_pushI, zo_pushL, zo_null, zo_ii, zo_iid, zo_ll, zo_li, zo_lcmp, zo_i2l, zo_l2i, zo_dup, zo_dup2, zo_pop, zo_goto, zo_if, zo_icmp, zo_ifnull, zo_gets, zo_mm, zo_throw, zo_ret, zo_aret, zo_lret, q_iret_f, q_iret_1, q_iret_0, q_iret_b, q_c8_0, q_c8_1, q_c8_2, q_c8_3, q_c8_4, q_set_0, q_set_1i, q_set_1r, q_set_1n, q_set_1N, q_set_s, q_set_1j, q_bk_v, q_bk_n, q_if, zb_ite, cond_true, cond_false, List.getElem?_cons_zero, List.getElem?_cons_succ, Nat.reduceAdd, q_set_1l, q_set2_0, q_set2_1i, q_set2_1r, q_set2_1n, q_set2_s, ↓hZ, b1, x1, q_aR, w2, h42, bc, xc, g2, cw', he, e1, if_true, if_false, zb_eq0, zb_eq1, zn_1, not_true_eq_false, not_false_eq_true, ite_true, ite_false, if_true, if_false, q_iret_0, q_iret_1, decide_true, decide_false, decide_not, zb_t, zb_f, z10, z01, cond_true, cond_false, Bool.and_true, Bool.true_and, Bool.and_false, Bool.false_and, Bool.not_true, Bool.not_false, true_and, and_true, false_and, and_false, true_or, or_true, false_or, or_false, Bool.true_eq_false, Bool.false_eq_true, eq_self, reduceCtorEq, Bool.or_true, Bool.true_or, Bool.or_false, Bool.false_or])
      rw [s192]
      have hK := KQ_Sv (B := T) (A := T) (o := o) hc
      have e3' : rKy (bif decide ((dSv c T T o).2.1 1 3 ≤ T.1 1 3) then (dSv c T T o).2 else zz_sI (dSv c T T o).2 (26 + 6 * c) o ((dSv c T T o).2.1 1 3)) R3 c o := e3
      have k23 : (wrtn (T.1 1 3) c o (dSv c T T o).2).1 (23 + 6 * c) o = 0 := by
        rw [wrtn_c (by omega), hK _ _ (by omega) (by omega) (by omega) (by omega) (by omega) (by omega) (by omega)]; exact h0
      have k23' : (bif decide ((dSv c T T o).2.1 1 3 ≤ T.1 1 3) then (dSv c T T o).2 else zz_sI (dSv c T T o).2 (26 + 6 * c) o ((dSv c T T o).2.1 1 3)).1 (23 + 6 * c) o = 0 := k23
      unfold aEnd
      cases b
      · rw [show oc false = 3 from rfl, decide_eq_false (show ¬ (3 : Int32) = 1 by decide), cond_false, decide_eq_true (show (3 : Int32) = 3 from rfl), cond_true]
        have ho3 : o < nv (bif decide ((dSv c T T o).2.1 1 3 ≤ T.1 1 3) then (dSv c T T o).2 else zz_sI (dSv c T T o).2 (26 + 6 * c) o ((dSv c T T o).2.1 1 3)) 1 := by
          obtain ⟨z1, z2, -⟩ := zSv_of H.1.1 hc h60
          have hN := (NI_Sv (n0 := nv T 1) (A := T) (B := T) hc h60 (rv_n60 H.1) z1 (fun _ => z2.2) ⟨H.1.1.1.2, Nat.le_refl _⟩).2
          have e : nv (wrtn (T.1 1 3) c o (dSv c T T o).2) 1 = nv (dSv c T T o).2 1 := nv_wrtn (by omega)
          show o < nv (wrtn (T.1 1 3) c o (dSv c T T o).2) 1
          rw [e]
          omega
        exact r_fail' e3' ho3 k23' l1
      · rw [show oc true = 1 from rfl, decide_eq_true (show (1 : Int32) = 1 from rfl), cond_true]
        refine ⟨zz_sI R3 33 (60 * c + o) 0, ?_, Rl0_f0 e3'.1 h60, RMan_c e3'.2.1 (fun b => sI_a (by omega)) (sI_a (by omega)) (sI_a (by omega)) (fun b => sI_a (by decide))⟩
        clear e3 e3' k23 k23' hK
        (simp only [e_X12_works, zo_iload, zo_lload, zo_aload, zo_istore, zo_lstore, zo_astore, zo_iinc, zo_pushI, zo_pushL, zo_null, zo_ii, zo_iid, zo_ll, zo_li, zo_lcmp, zo_i2l, zo_l2i, zo_dup, zo_dup2, zo_pop, zo_goto, zo_if, zo_icmp, zo_ifnull, zo_gets, zo_mm, zo_throw, zo_ret, zo_aret, zo_lret, q_iret_f, q_iret_1, q_iret_0, q_iret_b, q_c8_0, q_c8_1, q_c8_2, q_c8_3, q_c8_4, q_set_0, q_set_1i, q_set_1r, q_set_1n, q_set_1N, q_set_s, q_set_1j, q_bk_v, q_bk_n, q_if, zb_ite, cond_true, cond_false, List.getElem?_cons_zero, List.getElem?_cons_succ, Nat.reduceAdd, q_set_1l, q_set2_0, q_set2_1i, q_set2_1r, q_set2_1n, q_set2_s, b1, x1, q_aR, if_true, if_false, zb_eq0, zb_eq1, zn_1, not_true_eq_false, not_false_eq_true, ite_true, ite_false, if_true, if_false, q_iret_0, q_iret_1, decide_true, decide_false, decide_not, zb_t, zb_f, z10, z01, cond_true, cond_false, Bool.and_true, Bool.true_and, Bool.and_false, Bool.false_and, Bool.not_true, Bool.not_false, true_and, and_true, false_and, and_false, true_or, or_true, false_or, or_false, Bool.true_eq_false, Bool.false_eq_true, eq_self, reduceCtorEq, Bool.or_true, Bool.true_or, Bool.or_false, Bool.false_or])
    · rw [hE] at he
      have hE' := hE
      unfold erl at hE'
      rw [Bool.and_eq_true, Bool.and_eq_true] at hE'
      obtain ⟨hc7, hE1, hE2⟩ := hE'
      have c7 : c = 7 := of_decide_eq_true hc7
      subst c7
      have eS : dSv 7 T T o = (2, zz_sI T 67 o (T.1 72 o + 10)) := by
        show dS7 T T o = _
        unfold dS7
        rw [hE1, hE2]
        rfl
      obtain ⟨s1, s2⟩ := H.1.1.2.2.2.1 o h60
      rw [Bool.and_eq_true] at hE2
      have hE3 := hE2.2
      unfold earlyS at hE3
      rw [Bool.and_eq_true] at hE3
      obtain ⟨y1, y2⟩ := hE3
      obtain ⟨h17, h10, h48⟩ := H.1.1.2.2.2.2.2.1
      obtain ⟨t, t1, t2⟩ := s2.resolve_left (by simpa using y1)
      have e10 : zn t + 10 = zn (t + 10) := zn_add t 10
      have y2' : ¬ (10 : Int32) ≤ T.1 1 7 - T.1 72 o := by simpa using y2
      rw [h17, t2, zn_sub (by omega)] at y2'
      have l10 : ((10 : Int32) ≤ zn (now T - t)) = (10 ≤ now T - t) := zn_le (a := 10) (b := now T - t) (by decide) (by omega)
      rw [l10] at y2'
      rw [eS]
      unfold aEnd
      rw [decide_eq_false (show ¬ (2 : Int32) = 1 by decide), cond_false, decide_eq_false (show ¬ (2 : Int32) = 3 by decide), cond_false, show (zz_sI T 67 o (T.1 72 o + 10)).1 1 3 = T.1 1 3 from sI_a (by decide), decide_eq_true (Int32.le_refl (T.1 1 3)), cond_true, t2, e10]
      rw [t2] at s1
      obtain ⟨hb, hn⟩ := Rl0_back (A := T) (R := R2) (A' := zz_sI T 67 o (zn (t + 10))) (R' := zz_sI R2 34 (60 * 7 + o) (zn (t + 10))) H.1 ho hnin (zIC_fdw (c := 7) (by decide) (Or.inr (Or.inl rfl)) H.1.1.1.2) (fun a b x y => by rw [sI_1, if_neg (by omega)]) (fun a b x y => by rw [sI_1, if_neg (by omega)]) rfl (f := f) (d := t + 10) ((sI_a (by decide)).trans f1) ((sI_a (by decide)).trans f2) sI_e (by omega) (by omega) (Or.inl sI_e)
      have hp := r_putsBack (R := zz_sI R2 34 (60 * 7 + o) (zn (t + 10))) (n := qn T 7) (o := o) hc hn ((sI_a (by decide)).trans h42) ((sI_a (by decide)).trans h31) ((sI_a (by decide)).trans h43)
      obtain ⟨k1, k2⟩ := kinds_o o h60
      refine ⟨_, ?_, hb, RMan_enq hc (RMan_c (A' := zz_sI T 67 o (zn (t + 10))) (R' := R2) H.2.1 (fun b => sI_a (by decide)) (sI_a (by decide)) (sI_a (by decide)) (fun _ => rfl)) fun b => ?_⟩
      · clear hb
        (simp only [e_X12_works, zo_iload, zo_lload, zo_aload, zo_istore, zo_lstore, zo_astore, zo_iinc, zo_pushI, zo_pushL, zo_null, zo_ii, zo_iid, zo_ll, zo_li, zo_lcmp, zo_i2l, zo_l2i, zo_dup, zo_dup2, zo_pop, zo_goto, zo_if, zo_icmp, zo_ifnull, zo_gets, zo_mm, zo_throw, zo_ret, zo_aret, zo_lret, q_iret_f, q_iret_1, q_iret_0, q_iret_b, q_c8_0, q_c8_1, q_c8_2, q_c8_3, q_c8_4, q_set_0, q_set_1i, q_set_1r, q_set_1n, q_set_1N, q_set_s, q_set_1j, q_bk_v, q_bk_n, q_if, zb_ite, cond_true, cond_false, List.getElem?_cons_zero, List.getElem?_cons_succ, Nat.reduceAdd, q_set_1l, q_set2_0, q_set2_1i, q_set2_1r, q_set2_1n, q_set2_s, b1, x1, q_aR, w2, h42, bc, xc, g2, cw', cw, he, h43, k1, k2, s1, e10, hp, if_true, if_false, zb_eq0, zb_eq1, zn_1, not_true_eq_false, not_false_eq_true, ite_true, ite_false, if_true, if_false, q_iret_0, q_iret_1, decide_true, decide_false, decide_not, zb_t, zb_f, z10, z01, cond_true, cond_false, Bool.and_true, Bool.true_and, Bool.and_false, Bool.false_and, Bool.not_true, Bool.not_false, true_and, and_true, false_and, and_false, true_or, or_true, false_or, or_false, Bool.true_eq_false, Bool.false_eq_true, eq_self, reduceCtorEq, Bool.or_true, Bool.true_or, Bool.or_false, Bool.false_or])
      · rw [rBk_1, if_neg (by omega), if_neg (by omega), sI_a (by decide)]
  · rw [decide_eq_false cw, cond_false]
    have cw' : (zn (ve T (3 + c)) < zn w) = True := eq_true (Int32.not_le.mp cw)
    have cw2 : (zn w ≤ zn (ve T (3 + c))) = False := eq_false cw
    obtain ⟨hb, hn⟩ := Rl0_back (A := T) (R := R2) (A' := T) (R' := R2) H.1 ho hnin H.1.1.1.2 (fun _ _ _ _ => rfl) (fun _ _ _ _ => rfl) rfl f1 f2 d1 d2 d3 hd2
    have hp := r_putsBack (R := R2) (n := qn T c) (o := o) hc hn h42 h31 h43
    have ss := sI_same R2 34 (60 * c + o)
    unfold aEnd
    rw [decide_eq_false (show ¬ (2 : Int32) = 1 by decide), cond_false, decide_eq_false (show ¬ (2 : Int32) = 3 by decide), cond_false, decide_eq_true (Int32.le_refl (T.1 1 3)), cond_true]
    refine ⟨_, ?_, hb, RMan_enq hc H.2.1 fun b => ?_⟩
    · clear hb
      (simp only [e_X12_works, zo_iload, zo_lload, zo_aload, zo_istore, zo_lstore, zo_astore, zo_iinc, zo_pushI, zo_pushL, zo_null, zo_ii, zo_iid, zo_ll, zo_li, zo_lcmp, zo_i2l, zo_l2i, zo_dup, zo_dup2, zo_pop, zo_goto, zo_if, zo_icmp, zo_ifnull, zo_gets, zo_mm, zo_throw, zo_ret, zo_aret, zo_lret, q_iret_f, q_iret_1, q_iret_0, q_iret_b, q_c8_0, q_c8_1, q_c8_2, q_c8_3, q_c8_4, q_set_0, q_set_1i, q_set_1r, q_set_1n, q_set_1N, q_set_s, q_set_1j, q_bk_v, q_bk_n, q_if, zb_ite, cond_true, cond_false, List.getElem?_cons_zero, List.getElem?_cons_succ, Nat.reduceAdd, q_set_1l, q_set2_0, q_set2_1i, q_set2_1r, q_set2_1n, q_set2_s, b1, x1, q_aR, w2, h42, bc, xc, g2, cw', cw2, ss, hp, if_true, if_false, zb_eq0, zb_eq1, zn_1, not_true_eq_false, not_false_eq_true, ite_true, ite_false, if_true, if_false, q_iret_0, q_iret_1, decide_true, decide_false, decide_not, zb_t, zb_f, z10, z01, cond_true, cond_false, Bool.and_true, Bool.true_and, Bool.and_false, Bool.false_and, Bool.not_true, Bool.not_false, true_and, and_true, false_and, and_false, true_or, or_true, false_or, or_false, Bool.true_eq_false, Bool.false_eq_true, eq_self, reduceCtorEq, Bool.or_true, Bool.true_or, Bool.or_false, Bool.false_or])
    · rw [rBk_1, if_neg (by omega), if_neg (by omega)]

theorem r_works (H : rAt A R c) (hM : RMan A R) : ∃ R', fX12_works [.ref 0] R = some (.inl (some (.int (aWork A c).1)), R') ∧ rAt (aWork A c).2 R' c ∧ RMan (aWork A c).2 R' := by
  have hc := H.2.2
  have h42 := H.2.1
  obtain ⟨q1, q2, q3, q4⟩ := rq_of H
  have hq := ((H.1.1.2.2.2 c hc).2).1
  have hn6 := rl_n60 H.1
  obtain ⟨h17, h10, h48⟩ := H.1.2.2.2.2.2.1
  have e60 : (60 : Int32) * zn c = zn (60 * c) := zn_mul 60 c
  have bc : zz_inb (zn c) 8 = true := zn_inT hc (by decide)
  have xc : zz_ix (zn c) = c := zn_ix (by omega)
  have e31 : zn (60 * c) + zn (qn A c) = zn (60 * c + qn A c) := zn_add _ _
  have st : fX12_works [.ref 0] R = zz_ev tX12_works 8 [some (.ref 0), some (.int (zn (60 * c + 0))), none] [] R := by
    rw [s_X12_works]
    (simp only [e_X12_works, zo_iload, zo_lload, zo_aload, zo_istore, zo_lstore, zo_astore, zo_iinc, zo_pushI, zo_pushL, zo_null, zo_ii, zo_iid, zo_ll, zo_li, zo_lcmp, zo_i2l, zo_l2i, zo_dup, zo_dup2, zo_pop, zo_goto, zo_if, zo_icmp, zo_ifnull, zo_gets, zo_mm, zo_throw, zo_ret, zo_aret, zo_lret, q_iret_f, q_iret_1, q_iret_0, q_iret_b, q_c8_0, q_c8_1, q_c8_2, q_c8_3, q_c8_4, q_set_0, q_set_1i, q_set_1r, q_set_1n, q_set_1N, q_set_s, q_set_1j, q_bk_v, q_bk_n, q_if, zb_ite, cond_true, cond_false, List.getElem?_cons_zero, List.getElem?_cons_succ, Nat.reduceAdd, q_set_1l, q_set2_0, q_set2_1i, q_set2_1r, q_set2_1n, q_set2_s, h42, e60, if_true, if_false, zb_eq0, zb_eq1, zn_1, not_true_eq_false, not_false_eq_true, ite_true, ite_false, if_true, if_false, q_iret_0, q_iret_1, decide_true, decide_false, decide_not, zb_t, zb_f, z10, z01, cond_true, cond_false, Bool.and_true, Bool.true_and, Bool.and_false, Bool.false_and, Bool.not_true, Bool.not_false, true_and, and_true, false_and, and_false, true_or, or_true, false_or, or_false, Bool.true_eq_false, Bool.false_eq_true, eq_self, reduceCtorEq, Bool.or_true, Bool.true_or, Bool.or_false, Bool.false_or])
    rfl
  have key : ∀ p, p < qn A c → ∃ f d w, (A.1 (24 + 6 * c) (qk A c p) = zn f ∧ R.1 33 (60 * c + qk A c p) = zn f) ∧ A.1 (25 + 6 * c) (qk A c p) = zn d ∧ d ≤ now A + 16 ∧ (R.1 34 (60 * c + qk A c p) = zn d ∨ d ≤ now A ∧ R.1 34 (60 * c + qk A c p) = 0) ∧ A.1 (26 + 6 * c) (qk A c p) = zn w ∧ (R.1 34 (60 * c + qk A c p) ≤ zn (now A)) = (kdue A c p = true) := fun p hp => by
    obtain ⟨z1, f, d, w, z2, z3, z4, z5, z6, z7⟩ := q4 (qk A c p) (by have := (q2 p hp).2; omega)
    refine ⟨f, d, w, z2, z3, z4.2, z6 ⟨p, hp, rfl⟩, z5.1, ?_⟩
    unfold kdue
    rw [z3, h17]
    have l := zn_lt (a := now A) (b := d) (by omega) (by omega)
    have l2 := zn_le (a := d) (b := now A) (by omega) (by omega)
    rcases z6 ⟨p, hp, rfl⟩ with y | ⟨y1, y2⟩
    · rw [y, l2]
      simp only [l]
      by_cases q : now A < d
      · rw [decide_eq_true q]
        exact propext ⟨fun z => by omega, fun z => by cases z⟩
      · rw [decide_eq_false q]
        exact propext ⟨fun _ => rfl, fun _ => by omega⟩
    · rw [y2]
      simp only [l]
      rw [decide_eq_false (show ¬ now A < d by omega)]
      have l0 := zn_le (a := 0) (b := now A) (by decide) (by omega)
      rw [show (zn 0 : Int32) = 0 from rfl] at l0
      rw [l0]
      exact propext ⟨fun _ => rfl, fun _ => Nat.zero_le _⟩
  have lp := zl_fst (E := fun p => zz_ev tX12_works 8 [some (.ref 0), some (.int (zn (60 * c + p))), none] [] R) (P := kdue A c) (r := fun p => zz_ev tX12_works 61 [some (.ref 0), some (.int (zn (60 * c + p))), none] [] R) (qn A c) (fun p hp => by
    have hcc : (zn (60 * c + qn A c) ≤ zn (60 * c + p)) = False := zk_lt (n := 60 * c + qn A c) (by omega) (show _ ≤ 600 by omega) (by decide)
    have b1 : zz_inb (zn (60 * c + p)) 480 = true := zn_inT (by omega) (by decide)
    have x1 : zz_ix (zn (60 * c + p)) = 60 * c + p := zn_ix (by omega)
    have hk := (q2 p hp).1
    have hkl := (q2 p hp).2
    obtain ⟨b0, b2, x2⟩ := at_o H (o := qk A c p) (by omega)
    obtain ⟨-, -, -, -, -, -, -, -, hkd⟩ := key p hp
    have e2 : 60 * c + p + 1 = 60 * c + (p + 1) := rfl
    generalize hZ : zz_ev tX12_works 61 [some (.ref 0), some (.int (zn (60 * c + p))), none] [] R = Z
    cases hd : kdue A c p
    · rw [hd] at hkd
      have hkd' : (R.1 34 (60 * c + qk A c p) ≤ zn (now A)) = False := hkd.trans (eq_false (by simp))
      (rw [e_X12_works_8]; simp only [e_X12_works, zo_iload, zo_lload, zo_aload, zo_istore, zo_lstore, zo_astore, zo_iinc, zo_pushI, zo_pushL, zo_null, zo_ii, zo_iid, zo_ll, zo_li, zo_lcmp, zo_i2l, zo_l2i, zo_dup, zo_dup2, zo_pop, zo_goto, zo_if, zo_icmp, zo_ifnull, zo_gets, zo_mm, zo_throw, zo_ret, zo_aret, zo_lret, q_iret_f, q_iret_1, q_iret_0, q_iret_b, q_c8_0, q_c8_1, q_c8_2, q_c8_3, q_c8_4, q_set_0, q_set_1i, q_set_1r, q_set_1n, q_set_1N, q_set_s, q_set_1j, q_bk_v, q_bk_n, q_if, zb_ite, cond_true, cond_false, List.getElem?_cons_zero, List.getElem?_cons_succ, Nat.reduceAdd, q_set_1l, q_set2_0, q_set2_1i, q_set2_1r, q_set2_1n, q_set2_s, ↓hZ, h42, e60, bc, xc, q_aR, q1, e31, hcc, b1, x1, hk, b0, b2, x2, h48, hkd', e2, if_true, if_false, zb_eq0, zb_eq1, zn_1, not_true_eq_false, not_false_eq_true, ite_true, ite_false, if_true, if_false, q_iret_0, q_iret_1, decide_true, decide_false, decide_not, zb_t, zb_f, z10, z01, cond_true, cond_false, Bool.and_true, Bool.true_and, Bool.and_false, Bool.false_and, Bool.not_true, Bool.not_false, true_and, and_true, false_and, and_false, true_or, or_true, false_or, or_false, Bool.true_eq_false, Bool.false_eq_true, eq_self, reduceCtorEq, Bool.or_true, Bool.true_or, Bool.or_false, Bool.false_or])
    · rw [hd] at hkd
      have hkd' : (R.1 34 (60 * c + qk A c p) ≤ zn (now A)) = True := hkd.trans (eq_true rfl)
      (rw [e_X12_works_8]; simp only [e_X12_works, zo_iload, zo_lload, zo_aload, zo_istore, zo_lstore, zo_astore, zo_iinc, zo_pushI, zo_pushL, zo_null, zo_ii, zo_iid, zo_ll, zo_li, zo_lcmp, zo_i2l, zo_l2i, zo_dup, zo_dup2, zo_pop, zo_goto, zo_if, zo_icmp, zo_ifnull, zo_gets, zo_mm, zo_throw, zo_ret, zo_aret, zo_lret, q_iret_f, q_iret_1, q_iret_0, q_iret_b, q_c8_0, q_c8_1, q_c8_2, q_c8_3, q_c8_4, q_set_0, q_set_1i, q_set_1r, q_set_1n, q_set_1N, q_set_s, q_set_1j, q_bk_v, q_bk_n, q_if, zb_ite, cond_true, cond_false, List.getElem?_cons_zero, List.getElem?_cons_succ, Nat.reduceAdd, q_set_1l, q_set2_0, q_set2_1i, q_set2_1r, q_set2_1n, q_set2_s, ↓hZ, h42, e60, bc, xc, q_aR, q1, e31, hcc, b1, x1, hk, b0, b2, x2, h48, hkd', e2, if_true, if_false, zb_eq0, zb_eq1, zn_1, not_true_eq_false, not_false_eq_true, ite_true, ite_false, if_true, if_false, q_iret_0, q_iret_1, decide_true, decide_false, decide_not, zb_t, zb_f, z10, z01, cond_true, cond_false, Bool.and_true, Bool.true_and, Bool.and_false, Bool.false_and, Bool.not_true, Bool.not_false, true_and, and_true, false_and, and_false, true_or, or_true, false_or, or_false, Bool.true_eq_false, Bool.false_eq_true, eq_self, reduceCtorEq, Bool.or_true, Bool.true_or, Bool.or_false, Bool.false_or]))
  rw [st, show zz_ev tX12_works 8 [some (.ref 0), some (.int (zn (60 * c + 0))), none] [] R = _ from lp]
  unfold aWork
  cases hz : zfst (qn A c) (kdue A c) with
  | none =>
    refine ⟨R, ?_, H, hM⟩
    show zz_ev tX12_works 8 [some (.ref 0), some (.int (zn (60 * c + qn A c))), none] [] R = _
    have hcc : (zn (60 * c + qn A c) ≤ zn (60 * c + qn A c)) = True := eq_true (Int32.le_refl _)
    (rw [e_X12_works_8]; simp only [e_X12_works, zo_iload, zo_lload, zo_aload, zo_istore, zo_lstore, zo_astore, zo_iinc, zo_pushI, zo_pushL, zo_null, zo_ii, zo_iid, zo_ll, zo_li, zo_lcmp, zo_i2l, zo_l2i, zo_dup, zo_dup2, zo_pop, zo_goto, zo_if, zo_icmp, zo_ifnull, zo_gets, zo_mm, zo_throw, zo_ret, zo_aret, zo_lret, q_iret_f, q_iret_1, q_iret_0, q_iret_b, q_c8_0, q_c8_1, q_c8_2, q_c8_3, q_c8_4, q_set_0, q_set_1i, q_set_1r, q_set_1n, q_set_1N, q_set_s, q_set_1j, q_bk_v, q_bk_n, q_if, zb_ite, cond_true, cond_false, List.getElem?_cons_zero, List.getElem?_cons_succ, Nat.reduceAdd, q_set_1l, q_set2_0, q_set2_1i, q_set2_1r, q_set2_1n, q_set2_s, h42, e60, bc, xc, q_aR, q1, e31, hcc, if_true, if_false, zb_eq0, zb_eq1, zn_1, not_true_eq_false, not_false_eq_true, ite_true, ite_false, if_true, if_false, q_iret_0, q_iret_1, decide_true, decide_false, decide_not, zb_t, zb_f, z10, z01, cond_true, cond_false, Bool.and_true, Bool.true_and, Bool.and_false, Bool.false_and, Bool.not_true, Bool.not_false, true_and, and_true, false_and, and_false, true_or, or_true, false_or, or_false, Bool.true_eq_false, Bool.false_eq_true, eq_self, reduceCtorEq, Bool.or_true, Bool.true_or, Bool.or_false, Bool.false_or])
  | some p =>
    obtain ⟨hp, hd, -⟩ := zfst_some hz
    obtain ⟨f, d, w, k1, k2, k3, k4, k5, -⟩ := key p hp
    have hkl := (q2 p hp).2
    have h60 : qk A c p < 60 := by omega
    show ∃ R', zz_ev tX12_works 61 [some (.ref 0), some (.int (zn (60 * c + p))), none] [] R = some (.inl (some (.int (aWork1 (aTk A c p) c (qk A c p)).1)), R') ∧ rAt (aWork1 (aTk A c p) c (qk A c p)).2 R' c ∧ RMan (aWork1 (aTk A c p) c (qk A c p)).2 R'
    have H1 : rAt A (zz_sI R 0 43 (zn (qk A c p))) c := ⟨Rl0_31 (Or.inr (Or.inr (Or.inl rfl))) H.1, (sI_b (by decide)).trans h42, hc⟩
    obtain ⟨HT, hnin⟩ := Rl0_take H1 hp hd
    have hTk := r_takesOut (R := zz_sI R 0 43 (zn (qk A c p))) (c := c) (n := qn A c) (p := p) hc (by omega) hp H1.2.1 (rq_of H1).1
    have hA : ∀ a b, a ≠ 3 + c ∨ b ≠ 11 → a ≠ 22 + 6 * c → a ≠ 23 + 6 * c → (aTk A c p).1 a b = A.1 a b := fun a b h1 h2 h3 => by rw [aTk_1, if_neg (by omega), if_neg (by omega), if_neg (by omega)]
    have hR : ∀ a b, a ≠ 31 → a ≠ 32 → (rTk (zz_sI R 0 43 (zn (qk A c p))) c (qn A c) p (qn A c - 1)).1 a b = (zz_sI R 0 43 (zn (qk A c p))).1 a b := fun a b h1 h2 => by rw [rTk_1, if_neg (by omega), if_neg (by omega)]
    have MT : RMan (aTk A c p) (rTk (zz_sI R 0 43 (zn (qk A c p))) c (qn A c) p (qn A c - 1)) := RMan_c hM (fun b => hA _ _ (Or.inl (by omega)) (by omega) (by omega)) (hA _ _ (Or.inl (by omega)) (by omega) (by omega)) (hA _ _ (Or.inl (by omega)) (by omega) (by omega)) fun b => (hR _ _ (by decide) (by decide)).trans (sI_a (by decide))
    have K : rKy (aTk A c p) (rTk (zz_sI R 0 43 (zn (qk A c p))) c (qn A c) p (qn A c - 1)) c (qk A c p) := ⟨HT, MT, (hR _ _ (by decide) (by decide)).trans sI_e, h60⟩
    have r34 : (rTk (zz_sI R 0 43 (zn (qk A c p))) c (qn A c) p (qn A c - 1)).1 34 (60 * c + qk A c p) = R.1 34 (60 * c + qk A c p) := (hR _ _ (by decide) (by decide)).trans (sI_a (by decide))
    have hnow : now (aTk A c p) = now A := congrArg zz_ix (hA _ _ (Or.inl (by omega)) (by omega) (by omega))
    have hnv : nv (aTk A c p) 1 = nv A 1 := congrArg zz_ix (hA _ _ (Or.inl (by omega)) (by omega) (by omega))
    have hW := r_works1 K (by rw [hnv]; exact hkl) (by rw [aTk_1, if_pos ⟨rfl, rfl⟩]) (d := d) (by omega) ((hA _ _ (Or.inl (by omega)) (by omega) (by omega)).trans k2) (by rw [r34, hnow]; exact k4) (some (.int (zn (60 * c + p))))
    obtain ⟨R', e1, e2⟩ := hW
    refine ⟨R', Eq.trans ?_ e1, e2⟩
    clear e1 e2 K HT MT
    have hcc : (zn (60 * c + p) = zn (60 * c + qn A c)) = False := zn_inj (a := 60 * c + p) (b := 60 * c + qn A c) (by omega) (by omega) ▸ eq_false (by omega)
    have b1 : zz_inb (zn (60 * c + p)) 480 = true := zn_inT (by omega) (by decide)
    have x1 : zz_ix (zn (60 * c + p)) = 60 * c + p := zn_ix (by omega)
    have hk := (q2 p hp).1
    have b0 : zn (60 * c) + zn (qk A c p) = zn (60 * c + qk A c p) := zn_add _ _
    have m42 : (zz_sI R 0 43 (zn (qk A c p))).1 0 42 = zn c := H1.2.1
    have m43 : (zz_sI R 0 43 (zn (qk A c p))).1 0 43 = zn (qk A c p) := sI_e
    generalize rTk (zz_sI R 0 43 (zn (qk A c p))) c (qn A c) p (qn A c - 1) = T at hTk ⊢
    generalize hZ : zz_ev tX12_works 112 [some (.ref 0), some (.int (zn (60 * c + p))), some (.int (zn (60 * c + qk A c p)))] [] T = Z
    (simp only [e_X12_works, zo_iload, zo_lload, zo_aload, zo_istore, zo_lstore, zo_astore, zo_iinc, zo_pushI, zo_pushL, zo_null, zo_ii, zo_iid, zo_ll, zo_li, zo_lcmp, zo_i2l, zo_l2i, zo_dup, zo_dup2, zo_pop, zo_goto, zo_if, zo_icmp, zo_ifnull, zo_gets, zo_mm, zo_throw, zo_ret, zo_aret, zo_lret, q_iret_f, q_iret_1, q_iret_0, q_iret_b, q_c8_0, q_c8_1, q_c8_2, q_c8_3, q_c8_4, q_set_0, q_set_1i, q_set_1r, q_set_1n, q_set_1N, q_set_s, q_set_1j, q_bk_v, q_bk_n, q_if, zb_ite, cond_true, cond_false, List.getElem?_cons_zero, List.getElem?_cons_succ, Nat.reduceAdd, q_set_1l, q_set2_0, q_set2_1i, q_set2_1r, q_set2_1n, q_set2_s, ↓hZ, h42, e60, bc, xc, q_aR, q1, e31, hcc, b1, x1, hk, m42, m43, b0, hTk, if_true, if_false, zb_eq0, zb_eq1, zn_1, not_true_eq_false, not_false_eq_true, ite_true, ite_false, if_true, if_false, q_iret_0, q_iret_1, decide_true, decide_false, decide_not, zb_t, zb_f, z10, z01, cond_true, cond_false, Bool.and_true, Bool.true_and, Bool.and_false, Bool.false_and, Bool.not_true, Bool.not_false, true_and, and_true, false_and, and_false, true_or, or_true, false_or, or_false, Bool.true_eq_false, Bool.false_eq_true, eq_self, reduceCtorEq, Bool.or_true, Bool.true_or, Bool.or_false, Bool.false_or])
end
end

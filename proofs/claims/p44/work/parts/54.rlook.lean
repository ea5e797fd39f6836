section
/-! listing and looking, in both -/
section
variable {A R : zzMd} {c : Nat}
theorem r_comesX {T : zzMd} {n o : Nat} {k : Nat → Nat} (h42 : T.1 0 42 = zn c) (hc : c < 8) (h31 : T.1 31 c = zn n) (hn : n ≤ 60) (hk : ∀ p, p < n → T.1 32 (60 * c + p) = zn (k p) ∧ k p < 60) (ho : o < 60) (h6 : zfst n (fun p => decide (k p = o)) = none → n < 60) :
    fX12_comes [.ref 0, .int (zn o)] T = match zfst n (fun p => decide (k p = o)) with
      | some _ => some (.inl (some (.int 0)), T)
      | none => some (.inl (some (.int 1)), rEnq T c n o) := by
  have bc : zz_inb (zn c) 8 = true := zn_inT hc (by decide)
  have xc : zz_ix (zn c) = c := zn_ix (by omega)
  have e60 : (60 : Int32) * zn c = zn (60 * c) := zn_mul 60 c
  have e31 : zn (60 * c) + zn n = zn (60 * c + n) := zn_add _ _
  have st : fX12_comes [.ref 0, .int (zn o)] T = zz_ev tX12_comes 10 [some (.ref 0), some (.int (zn o)), some (.int (zn (60 * c))), some (.int (zn (60 * c + 0)))] [] T := by
    rw [s_X12_comes]
    (simp only [e_X12_comes, zo_iload, zo_lload, zo_aload, zo_istore, zo_lstore, zo_astore, zo_iinc, zo_pushI, zo_pushL, zo_null, zo_ii, zo_iid, zo_ll, zo_li, zo_lcmp, zo_i2l, zo_l2i, zo_dup, zo_dup2, zo_pop, zo_goto, zo_if, zo_icmp, zo_ifnull, zo_gets, zo_mm, zo_throw, zo_ret, zo_aret, zo_lret, q_iret_f, q_iret_1, q_iret_0, q_iret_b, q_c8_0, q_c8_1, q_c8_2, q_c8_3, q_c8_4, q_set_0, q_set_1i, q_set_1r, q_set_1n, q_set_1N, q_set_s, q_set_1j, q_bk_v, q_bk_n, q_if, zb_ite, cond_true, cond_false, List.getElem?_cons_zero, List.getElem?_cons_succ, Nat.reduceAdd, q_set_1l, q_set2_0, q_set2_1i, q_set2_1r, q_set2_1n, q_set2_s, h42, e60, if_true, if_false, zb_eq0, zb_eq1, zn_1, not_true_eq_false, not_false_eq_true, ite_true, ite_false, if_true, if_false, q_iret_0, q_iret_1, decide_true, decide_false, decide_not, zb_t, zb_f, z10, z01, cond_true, cond_false, Bool.and_true, Bool.true_and, Bool.and_false, Bool.false_and, Bool.not_true, Bool.not_false, true_and, and_true, false_and, and_false, true_or, or_true, false_or, or_false, Bool.true_eq_false, Bool.false_eq_true, eq_self, reduceCtorEq, Bool.or_true, Bool.true_or, Bool.or_false, Bool.false_or])
    rfl
  have lp := zl_fst (E := fun p => zz_ev tX12_comes 10 [some (.ref 0), some (.int (zn o)), some (.int (zn (60 * c))), some (.int (zn (60 * c + p)))] [] T) (P := fun p => decide (k p = o)) (r := fun _ => some (.inl (some (.int 0)), T)) n (fun p hp => by
    have hcc : (zn (60 * c + n) ≤ zn (60 * c + p)) = False := zk_lt (n := 60 * c + n) (by omega) (show _ ≤ 600 by omega) (by decide)
    have b1 : zz_inb (zn (60 * c + p)) 480 = true := zn_inT (by omega) (by decide)
    have x1 : zz_ix (zn (60 * c + p)) = 60 * c + p := zn_ix (by omega)
    obtain ⟨hk1, hk2⟩ := hk p hp
    have e : (zn (k p) = zn o) = (k p = o) := zn_inj (by omega) (by omega)
    have e2 : 60 * c + p + 1 = 60 * c + (p + 1) := rfl
    by_cases d : k p = o
    · rw [decide_eq_true d]
      have d' := e.mpr d
      (rw [e_X12_comes_10]; simp only [e_X12_comes, zo_iload, zo_lload, zo_aload, zo_istore, zo_lstore, zo_astore, zo_iinc, zo_pushI, zo_pushL, zo_null, zo_ii, zo_iid, zo_ll, zo_li, zo_lcmp, zo_i2l, zo_l2i, zo_dup, zo_dup2, zo_pop, zo_goto, zo_if, zo_icmp, zo_ifnull, zo_gets, zo_mm, zo_throw, zo_ret, zo_aret, zo_lret, q_iret_f, q_iret_1, q_iret_0, q_iret_b, q_c8_0, q_c8_1, q_c8_2, q_c8_3, q_c8_4, q_set_0, q_set_1i, q_set_1r, q_set_1n, q_set_1N, q_set_s, q_set_1j, q_bk_v, q_bk_n, q_if, zb_ite, cond_true, cond_false, List.getElem?_cons_zero, List.getElem?_cons_succ, Nat.reduceAdd, q_set_1l, q_set2_0, q_set2_1i, q_set2_1r, q_set2_1n, q_set2_s, h42, bc, xc, h31, e31, hcc, b1, x1, q_aR, hk1, d', if_true, if_false, zb_eq0, zb_eq1, zn_1, not_true_eq_false, not_false_eq_true, ite_true, ite_false, if_true, if_false, q_iret_0, q_iret_1, decide_true, decide_false, decide_not, zb_t, zb_f, z10, z01, cond_true, cond_false, Bool.and_true, Bool.true_and, Bool.and_false, Bool.false_and, Bool.not_true, Bool.not_false, true_and, and_true, false_and, and_false, true_or, or_true, false_or, or_false, Bool.true_eq_false, Bool.false_eq_true, eq_self, reduceCtorEq, Bool.or_true, Bool.true_or, Bool.or_false, Bool.false_or])
    · rw [decide_eq_false d]
      (rw [e_X12_comes_10]; simp only [e_X12_comes, zo_iload, zo_lload, zo_aload, zo_istore, zo_lstore, zo_astore, zo_iinc, zo_pushI, zo_pushL, zo_null, zo_ii, zo_iid, zo_ll, zo_li, zo_lcmp, zo_i2l, zo_l2i, zo_dup, zo_dup2, zo_pop, zo_goto, zo_if, zo_icmp, zo_ifnull, zo_gets, zo_mm, zo_throw, zo_ret, zo_aret, zo_lret, q_iret_f, q_iret_1, q_iret_0, q_iret_b, q_c8_0, q_c8_1, q_c8_2, q_c8_3, q_c8_4, q_set_0, q_set_1i, q_set_1r, q_set_1n, q_set_1N, q_set_s, q_set_1j, q_bk_v, q_bk_n, q_if, zb_ite, cond_true, cond_false, List.getElem?_cons_zero, List.getElem?_cons_succ, Nat.reduceAdd, q_set_1l, q_set2_0, q_set2_1i, q_set2_1r, q_set2_1n, q_set2_s, h42, bc, xc, h31, e31, hcc, b1, x1, q_aR, hk1, e, d, e2, if_true, if_false, zb_eq0, zb_eq1, zn_1, not_true_eq_false, not_false_eq_true, ite_true, ite_false, if_true, if_false, q_iret_0, q_iret_1, decide_true, decide_false, decide_not, zb_t, zb_f, z10, z01, cond_true, cond_false, Bool.and_true, Bool.true_and, Bool.and_false, Bool.false_and, Bool.not_true, Bool.not_false, true_and, and_true, false_and, and_false, true_or, or_true, false_or, or_false, Bool.true_eq_false, Bool.false_eq_true, eq_self, reduceCtorEq, Bool.or_true, Bool.true_or, Bool.or_false, Bool.false_or]))
  rw [st, show zz_ev tX12_comes 10 [some (.ref 0), some (.int (zn o)), some (.int (zn (60 * c))), some (.int (zn (60 * c + 0)))] [] T = _ from lp]
  cases hz : zfst n (fun p => decide (k p = o)) with
  | some p => rfl
  | none =>
    have hn6 := h6 hz
    have hcc : (zn (60 * c + n) ≤ zn (60 * c + n)) = True := zk_ge (n := 60 * c + n) (show _ ≤ 600 by omega) (by decide)
    have b1 : zz_inb (zn (60 * c + n)) 480 = true := zn_inT (by omega) (by decide)
    have x1 : zz_ix (zn (60 * c + n)) = 60 * c + n := zn_ix (by omega)
    have b0 : zn (60 * c) + zn o = zn (60 * c + o) := zn_add _ _
    have b2 : zz_inb (zn (60 * c + o)) 480 = true := zn_inT (by omega) (by decide)
    have b3 : zz_ix (zn (60 * c + o)) = 60 * c + o := zn_ix (by omega)
    show zz_ev tX12_comes 10 [some (.ref 0), some (.int (zn o)), some (.int (zn (60 * c))), some (.int (zn (60 * c + n)))] [] T = _
    have m1 : ∀ v, (zz_sI T 32 (60 * c + n) v).1 0 42 = zn c := fun v => (sI_a (by decide)).trans h42
    have m2 : ∀ v, (zz_sI T 32 (60 * c + n) v).1 31 c = zn n := fun v => (sI_a (by decide)).trans h31
    have m3 : ∀ v u, (zz_sI (zz_sI T 32 (60 * c + n) v) 34 (60 * c + o) u).1 0 42 = zn c := fun v u => (sI_a (by decide)).trans (m1 v)
    have m4 : ∀ v u, (zz_sI (zz_sI T 32 (60 * c + n) v) 34 (60 * c + o) u).1 31 c = zn n := fun v u => (sI_a (by decide)).trans (m2 v)
    unfold rEnq
    (rw [e_X12_comes_10]; simp only [e_X12_comes, zo_iload, zo_lload, zo_aload, zo_istore, zo_lstore, zo_astore, zo_iinc, zo_pushI, zo_pushL, zo_null, zo_ii, zo_iid, zo_ll, zo_li, zo_lcmp, zo_i2l, zo_l2i, zo_dup, zo_dup2, zo_pop, zo_goto, zo_if, zo_icmp, zo_ifnull, zo_gets, zo_mm, zo_throw, zo_ret, zo_aret, zo_lret, q_iret_f, q_iret_1, q_iret_0, q_iret_b, q_c8_0, q_c8_1, q_c8_2, q_c8_3, q_c8_4, q_set_0, q_set_1i, q_set_1r, q_set_1n, q_set_1N, q_set_s, q_set_1j, q_bk_v, q_bk_n, q_if, zb_ite, cond_true, cond_false, List.getElem?_cons_zero, List.getElem?_cons_succ, Nat.reduceAdd, q_set_1l, q_set2_0, q_set2_1i, q_set2_1r, q_set2_1n, q_set2_s, h42, bc, xc, h31, e31, hcc, b1, x1, q_aR, m1, m2, m3, m4, b0, b2, b3, if_true, if_false, zb_eq0, zb_eq1, zn_1, not_true_eq_false, not_false_eq_true, ite_true, ite_false, if_true, if_false, q_iret_0, q_iret_1, decide_true, decide_false, decide_not, zb_t, zb_f, z10, z01, cond_true, cond_false, Bool.and_true, Bool.true_and, Bool.and_false, Bool.false_and, Bool.not_true, Bool.not_false, true_and, and_true, false_and, and_false, true_or, or_true, false_or, or_false, Bool.true_eq_false, Bool.false_eq_true, eq_self, reduceCtorEq, Bool.or_true, Bool.true_or, Bool.or_false, Bool.false_or])
def rLs (R S : zzMd) (c i : Nat) : zzMd := (fun a b => if a = 27 ∧ 60 * c ≤ b ∧ b < 60 * c + i then 1 else if a = 30 ∧ 60 * c ≤ b ∧ b < 60 * c + i then R.1 9 (b - 60 * c) else S.1 a b,
  fun a b => if a = 28 ∧ 60 * c ≤ b ∧ b < 60 * c + i then R.2 7 (b - 60 * c) else if a = 29 ∧ 60 * c ≤ b ∧ b < 60 * c + i then R.2 8 (b - 60 * c) else S.2 a b)
theorem rLs_1 (R S : zzMd) (c i a b : Nat) : (rLs R S c i).1 a b = if a = 27 ∧ 60 * c ≤ b ∧ b < 60 * c + i then 1 else if a = 30 ∧ 60 * c ≤ b ∧ b < 60 * c + i then R.1 9 (b - 60 * c) else S.1 a b := rfl
theorem rLs_2 (R S : zzMd) (c i a b : Nat) : (rLs R S c i).2 a b = if a = 28 ∧ 60 * c ≤ b ∧ b < 60 * c + i then R.2 7 (b - 60 * c) else if a = 29 ∧ 60 * c ≤ b ∧ b < 60 * c + i then R.2 8 (b - 60 * c) else S.2 a b := rfl
theorem rLs_0 (R S : zzMd) (c : Nat) : rLs R S c 0 = S := Prod.ext (funext fun a => funext fun b => by rw [rLs_1, if_neg (by omega), if_neg (by omega)]) (funext fun a => funext fun b => by rw [rLs_2, if_neg (by omega), if_neg (by omega)])
theorem rLs_s (R S : zzMd) (c i : Nat) : rLs R S c (i + 1) = zz_sI (zz_sL (zz_sL (zz_sI (rLs R S c i) 27 (60 * c + i) 1) 28 (60 * c + i) (R.2 7 i)) 29 (60 * c + i) (R.2 8 i)) 30 (60 * c + i) (R.1 9 i) := by
  refine Prod.ext (funext fun a => funext fun b => ?_) (funext fun a => funext fun b => ?_)
  · show _ = (if a = 30 ∧ b = 60 * c + i then R.1 9 i else if a = 27 ∧ b = 60 * c + i then 1 else (rLs R S c i).1 a b)
    rw [rLs_1, rLs_1]
    by_cases h1 : a = 27
    · subst h1
      by_cases h2 : b = 60 * c + i
      · rw [if_pos ⟨rfl, by omega, by omega⟩, if_neg (by omega), if_pos ⟨rfl, h2⟩]
      · rw [if_neg (show ¬ (27 = 30 ∧ b = 60 * c + i) by omega), if_neg (show ¬ (27 = 27 ∧ b = 60 * c + i) by omega)]
        by_cases h3 : 60 * c ≤ b ∧ b < 60 * c + i
        · rw [if_pos ⟨rfl, h3.1, by omega⟩, if_pos ⟨rfl, h3⟩]
        · rw [if_neg (by omega), if_neg (by omega), if_neg (by omega), if_neg (by omega)]
    · rw [if_neg (fun z => h1 z.1), if_neg (show ¬ (a = 27 ∧ b = 60 * c + i) from fun z => h1 z.1), if_neg (show ¬ (a = 27 ∧ 60 * c ≤ b ∧ b < 60 * c + i) from fun z => h1 z.1)]
      by_cases h2 : a = 30
      · subst h2
        by_cases h3 : b = 60 * c + i
        · rw [if_pos ⟨rfl, by omega, by omega⟩, if_pos ⟨rfl, h3⟩, h3, Nat.add_sub_cancel_left]
        · rw [if_neg (show ¬ (30 = 30 ∧ b = 60 * c + i) by omega)]
          by_cases h4 : 60 * c ≤ b ∧ b < 60 * c + i
          · rw [if_pos ⟨rfl, h4.1, by omega⟩, if_pos ⟨rfl, h4⟩]
          · rw [if_neg (by omega), if_neg (by omega)]
      · rw [if_neg (fun z => h2 z.1), if_neg (show ¬ (a = 30 ∧ b = 60 * c + i) from fun z => h2 z.1), if_neg (fun z => h2 z.1)]
  · show _ = (if a = 29 ∧ b = 60 * c + i then R.2 8 i else if a = 28 ∧ b = 60 * c + i then R.2 7 i else (rLs R S c i).2 a b)
    rw [rLs_2, rLs_2]
    by_cases h1 : a = 28
    · subst h1
      by_cases h2 : b = 60 * c + i
      · rw [if_pos ⟨rfl, by omega, by omega⟩, if_neg (by omega), if_pos ⟨rfl, h2⟩, h2, Nat.add_sub_cancel_left]
      · rw [if_neg (show ¬ (28 = 29 ∧ b = 60 * c + i) by omega), if_neg (show ¬ (28 = 28 ∧ b = 60 * c + i) by omega)]
        by_cases h3 : 60 * c ≤ b ∧ b < 60 * c + i
        · rw [if_pos ⟨rfl, h3.1, by omega⟩, if_pos ⟨rfl, h3⟩]
        · rw [if_neg (by omega), if_neg (by omega), if_neg (by omega), if_neg (by omega)]
    · rw [if_neg (fun z => h1 z.1), if_neg (show ¬ (a = 28 ∧ b = 60 * c + i) from fun z => h1 z.1), if_neg (show ¬ (a = 28 ∧ 60 * c ≤ b ∧ b < 60 * c + i) from fun z => h1 z.1)]
      by_cases h2 : a = 29
      · subst h2
        by_cases h3 : b = 60 * c + i
        · rw [if_pos ⟨rfl, by omega, by omega⟩, if_pos ⟨rfl, h3⟩, h3, Nat.add_sub_cancel_left]
        · rw [if_neg (show ¬ (29 = 29 ∧ b = 60 * c + i) by omega)]
          by_cases h4 : 60 * c ≤ b ∧ b < 60 * c + i
          · rw [if_pos ⟨rfl, h4.1, by omega⟩, if_pos ⟨rfl, h4⟩]
          · rw [if_neg (by omega), if_neg (by omega)]
      · rw [if_neg (fun z => h2 z.1), if_neg (show ¬ (a = 29 ∧ b = 60 * c + i) from fun z => h2 z.1), if_neg (fun z => h2 z.1)]
theorem rLs_a {R S : zzMd} {c i a b : Nat} (h1 : a ≠ 27) (h2 : a ≠ 30) : (rLs R S c i).1 a b = S.1 a b := by rw [rLs_1, if_neg (fun z => h1 z.1), if_neg (fun z => h2 z.1)]
theorem rLs_b {R S : zzMd} {c i a b : Nat} (h1 : a ≠ 28) (h2 : a ≠ 29) : (rLs R S c i).2 a b = S.2 a b := by rw [rLs_2, if_neg (fun z => h1 z.1), if_neg (fun z => h2 z.1)]
theorem rLs_enq (R S : zzMd) (c i n o : Nat) : rLs R (rEnq S c n o) c i = rEnq (rLs R S c i) c n o := by
  refine Prod.ext (funext fun a => funext fun b => ?_) rfl
  rw [rLs_1, rEnq_1, rEnq_1, rLs_1]
  by_cases h1 : a = 27
  · subst h1
    by_cases h3 : 27 = 27 ∧ 60 * c ≤ b ∧ b < 60 * c + i
    · rw [if_pos h3, if_neg (by omega), if_neg (by omega), if_neg (by omega), if_pos h3]
    · rw [if_neg h3, if_neg (by omega), if_neg (by omega), if_neg (by omega), if_neg (by omega), if_neg (by omega), if_neg (by omega), if_neg (by omega), if_neg h3, if_neg (by omega)]
  · rw [if_neg (fun z => h1 z.1)]
    by_cases h2 : a = 30
    · subst h2
      by_cases h3 : 30 = 30 ∧ 60 * c ≤ b ∧ b < 60 * c + i
      · rw [if_pos h3, if_neg (by omega), if_neg (by omega), if_neg (by omega), if_neg (by omega), if_pos h3]
      · rw [if_neg h3, if_neg (by omega), if_neg (by omega), if_neg (by omega), if_neg (by omega), if_neg (by omega), if_neg (by omega), if_neg (by omega), if_neg h3]
    · rw [if_neg (fun z => h2 z.1), if_neg (show ¬ (a = 27 ∧ 60 * c ≤ b ∧ b < 60 * c + i) from fun z => h1 z.1), if_neg (show ¬ (a = 30 ∧ 60 * c ≤ b ∧ b < 60 * c + i) from fun z => h2 z.1)]
/-- keys come while the rows are laid -/
theorem r_comesL (H : rAt A R c) {o : Nat} (ho : o < nv A 1) (Q : zzMd) (i : Nat) :
    ∃ R', fX12_comes [.ref 0, .int (zn o)] (rLs Q R c i) = some (.inl (some (.int ((aEnq A c (zn o)).1 (3 + c) 11 - A.1 (3 + c) 11))), rLs Q R' c i) ∧ rAt (aEnq A c (zn o)) R' c ∧ sameR R R' := by
  obtain ⟨R', e1, e2, e3⟩ := r_comes H ho
  refine ⟨R', ?_, e2, e3⟩
  obtain ⟨q1, q2, q3, q4⟩ := rq_of H
  have hc := H.2.2
  have h60 := lt_n60 H.1 ho
  have hn6 := rl_n60 H.1
  have hq := ((H.1.1.2.2.2 c hc).2).1.2
  have h6 : zfst (qn A c) (fun p => decide (qk A c p = o)) = none → qn A c < 60 := fun hz => rq_60 H h60 fun ⟨p, p1, p2⟩ => by
    have := zfst_no hz p p1
    rw [decide_eq_true p2] at this
    cases this
  have x1 := r_comesX (T := R) (k := qk A c) H.2.1 hc q1 hq (fun p hp => ⟨(q2 p hp).1, by have := (q2 p hp).2; omega⟩) h60 h6
  have x2 := r_comesX (T := rLs Q R c i) (k := qk A c) ((rLs_a (by decide) (by decide)).trans H.2.1) hc ((rLs_a (by decide) (by decide)).trans q1) hq (fun p hp => ⟨(rLs_a (by decide) (by decide)).trans (q2 p hp).1, by have := (q2 p hp).2; omega⟩) h60 h6
  rw [e1] at x1
  rw [x2]
  cases hz : zfst (qn A c) (fun p => decide (qk A c p = o)) with
  | some p =>
    rw [hz] at x1
    have x1' : some (Sum.inl (some (Value.int ((aEnq A c (zn o)).1 (3 + c) 11 - A.1 (3 + c) 11))), R') = some (Sum.inl (some (Value.int 0)), R) := x1
    have y1 := congrArg (fun z => z.map Prod.fst) x1'
    have y2 := congrArg (fun z => z.map Prod.snd) x1'
    simp only [Option.map_some, Option.some.injEq, Sum.inl.injEq, Value.int.injEq] at y1 y2
    rw [y1, y2]
  | none =>
    rw [hz] at x1
    have x1' : some (Sum.inl (some (Value.int ((aEnq A c (zn o)).1 (3 + c) 11 - A.1 (3 + c) 11))), R') = some (Sum.inl (some (Value.int 1)), rEnq R c (qn A c) o) := x1
    have y1 := congrArg (fun z => z.map Prod.fst) x1'
    have y2 := congrArg (fun z => z.map Prod.snd) x1'
    simp only [Option.map_some, Option.some.injEq, Sum.inl.injEq, Value.int.injEq] at y1 y2
    rw [y1, y2, rLs_enq]
/-! the class's listing, by the store's rows -/
def lsP (A : zzMd) (c i : Nat) : Bool := !decide (row A i 25 = 4) && (decide (okd c = -1) || decide (row A i 23 = okd c))
theorem TA_enq (A : zzMd) {c : Nat} (hc : c < 8) (x : Int32) : aTA (aEnq A c x) c = aEnq (aTA A c) c x := by
  have t11 : (aTA A c).1 (3 + c) 11 = A.1 (3 + c) 11 := by rw [TA_1, if_neg (by omega), if_neg (by omega), if_neg (by omega)]
  have tq : ∀ b, (aTA A c).1 (23 + 6 * c) b = A.1 (23 + 6 * c) b := fun b => by rw [TA_1, if_neg (by omega), if_neg (by omega), if_neg (by omega)]
  have hno : enqNo (aTA A c) c x ↔ enqNo A c x := by unfold enqNo; rw [t11, tq]
  have hqn : qn (aTA A c) c = qn A c := congrArg zz_ix t11
  by_cases h : enqNo A c x
  · have e1 : aEnq A c x = A := by unfold aEnq; rw [if_pos h]
    have e2 : aEnq (aTA A c) c x = aTA A c := by unfold aEnq; rw [if_pos (hno.mpr h)]
    rw [e1, e2]
  · have h' : ¬ enqNo (aTA A c) c x := fun z => h (hno.mp z)
    refine Prod.ext (funext fun a => funext fun b => ?_) ?_
    · rw [TA_1, Enq_1 h', hqn, TA_1, Enq_o x (a := 1) (Or.inl (by omega)) (by omega) (by omega), Enq_o x (a := 1) (Or.inl (by omega)) (by omega) (by omega), Enq_o x (a := 15) (Or.inl (by omega)) (by omega) (by omega), Enq_1 h]
      by_cases c1 : a = 3 + c
      · subst c1
        by_cases c2 : b = 3
        · rw [if_pos ⟨rfl, c2⟩, if_neg (by omega), if_neg (by omega), if_neg (by omega), if_pos ⟨rfl, c2⟩]
        · by_cases c3 : b = 2
          · rw [if_neg (by omega), if_pos ⟨rfl, c3⟩, if_neg (by omega), if_neg (by omega), if_neg (by omega), if_neg (by omega), if_pos ⟨rfl, c3⟩]
          · rw [if_neg (show ¬ (3 + c = 3 + c ∧ b = 3) by omega), if_neg (show ¬ (3 + c = 3 + c ∧ b = 2) by omega), if_neg (show ¬ (3 + c = 21 + 6 * c ∧ 0 ≤ b ∧ b < 0 + 60) by omega), if_neg (show ¬ (3 + c = 3 + c ∧ b = 3) by omega), if_neg (show ¬ (3 + c = 3 + c ∧ b = 2) by omega), if_neg (show ¬ (3 + c = 21 + 6 * c ∧ 0 ≤ b ∧ b < 0 + 60) by omega)]
      · rw [if_neg (show ¬ (a = 3 + c ∧ b = 3) from fun z => c1 z.1), if_neg (show ¬ (a = 3 + c ∧ b = 2) from fun z => c1 z.1), if_neg (show ¬ (a = 3 + c ∧ b = 3) from fun z => c1 z.1), if_neg (show ¬ (a = 3 + c ∧ b = 2) from fun z => c1 z.1)]
        by_cases c2 : a = 21 + 6 * c ∧ 0 ≤ b ∧ b < 0 + 60
        · rw [if_pos c2, if_neg (by omega), if_neg (by omega), if_neg (by omega), if_pos c2]
        · rw [if_neg c2, if_neg c2]
    · unfold aEnq aTA
      rw [if_neg h]
      show A.2 = _
      have : enqNo (zz_sI (zz_sI (zz_cpI A 15 0 (21 + 6 * c) 0 60) (3 + c) 2 (A.1 1 2)) (3 + c) 3 (A.1 1 3)) c x ↔ enqNo A c x := hno
      rw [if_neg (fun z => h (this.mp z))]
      rfl
theorem rd_TA (H : Rl0 A R) (hc : c < 8) {o s : Nat} (ho : o < 60) (hs : s < 32) : rd (aTA A c) (3 + c) (zn o) (zn s) = row A o s := by
  unfold rd row lv
  rw [if_neg (fun z => z.elim (zn_lt0 (by omega)).mp (fun z => z.elim (zo_60 ho).mp (fun z => z.elim (zn_lt0 (by omega)).mp (zn_i32 hs).2.2.1.mp))), zn_ix (k := o) (by omega), zn_ix (k := s) (by omega), zcL hc, TA_1, if_neg (by omega), if_neg (by omega), if_neg (by omega), TA_1, if_neg (by omega), if_neg (by omega), if_pos ⟨rfl, by omega, by omega⟩, Nat.sub_zero, Nat.zero_add]
theorem row_S {B : zzMd} (hc : c < 8) (S : zSame c A B) (o : Nat) : row B o = row A o := by
  funext s
  unfold row lv
  rw [S 15 o (Or.inl (by omega)) (by omega) (by omega), S 14 _ (Or.inl (by omega)) (by omega) (by omega)]
theorem rel_eq (H : rAt A R c) : ∀ n, n ≤ nv A 1 → (∀ m, m ≤ n → ∃ S, rAt (eqs (fun _ i => lsP A c i) c m A) S c) → eqs (relP c) c n (aTA A c) = aTA (eqs (fun _ i => lsP A c i) c n A) c
  | 0, _, _ => rfl
  | n + 1, hn, hS => by
    have ih := rel_eq H n (by omega) fun m hm => hS m (by omega)
    obtain ⟨S, HS⟩ := hS n (by omega)
    obtain ⟨-, S1⟩ := eqs_inv (P := fun _ i => lsP A c i) H.2.2 H.1.1.2 n
    have h60 : n < 60 := lt_n60 H.1 (by omega)
    rw [eqs_s, eqs_s, ih]
    have hp : relP c (aTA (eqs (fun _ i => lsP A c i) c n A) c) n = lsP A c n := by
      have r25 := rd_TA HS.1 H.2.2 (o := n) (s := 25) h60 (by decide)
      have r23 := rd_TA HS.1 H.2.2 (o := n) (s := 23) h60 (by decide)
      have r25' : rd (aTA (eqs (fun _ i => lsP A c i) c n A) c) (3 + c) (zn n) 25 = row A n 25 := by rw [row_S H.2.2 S1] at r25; exact r25
      have r23' : rd (aTA (eqs (fun _ i => lsP A c i) c n A) c) (3 + c) (zn n) 23 = row A n 23 := by rw [row_S H.2.2 S1] at r23; exact r23
      have hk : (aTA (eqs (fun _ i => lsP A c i) c n A) c).1 (3 + c) 5 = okd c := by
        rw [TA_1, if_neg (by omega), if_neg (by omega), if_neg (by omega)]
        exact okd_c HS
      generalize aTA (eqs (fun _ i => lsP A c i) c n A) c = D at r25' r23' hk ⊢
      unfold relP lsP gone ownKey
      rw [r25', r23', hk]
      by_cases q : okd c = -1 <;> by_cases q2 : row A n 23 = okd c <;> simp [q, q2]
    rw [hp]
    cases lsP A c n
    · rfl
    · rw [cond_true, cond_true, TA_enq _ H.2.2]
/-- the reference lists -/
theorem r_lists (H : rAt A R c) : ∃ R', fX12_lists [.ref 0] R = some (.inl (some (.int ((aRel A c).1 (3 + c) 11 - A.1 (3 + c) 11))), R') ∧ rAt (aRel A c) R' c ∧ sameV R R' := by
  have hc := H.2.2
  have W := H.1.1.2
  have hn := rl_n60 H.1
  have he := rl_e4 H.1
  have bc : zz_inb (zn c) 8 = true := zn_inT hc (by decide)
  have xc : zz_ix (zn c) = c := zn_ix (by omega)
  have e60 : (60 : Int32) * zn c = zn (60 * c) := zn_mul 60 c
  have main : ∀ n, n ≤ nv A 1 → ∃ S j3 j4, fX12_lists [.ref 0] R = zz_ev tX12_lists 4 [some (.ref 0), some (.int ((eqs (fun _ i => lsP A c i) c n A).1 (3 + c) 11 - A.1 (3 + c) 11)), some (.int (zn n)), zj j3, zj j4] [] (rLs R S c n) ∧ rAt (eqs (fun _ i => lsP A c i) c n A) S c ∧ sameR R S := by
    intro n
    induction n with
    | zero =>
      intro _
      refine ⟨R, none, none, ?_, H, sameR_refl R⟩
      rw [show eqs (fun _ i => lsP A c i) c 0 A = A from rfl, dq_0, rLs_0, s_X12_lists]
      (simp only [e_X12_lists, zo_iload, zo_lload, zo_aload, zo_istore, zo_lstore, zo_astore, zo_iinc, zo_pushI, zo_pushL, zo_null, zo_ii, zo_iid, zo_ll, zo_li, zo_lcmp, zo_i2l, zo_l2i, zo_dup, zo_dup2, zo_pop, zo_goto, zo_if, zo_icmp, zo_ifnull, zo_gets, zo_mm, zo_throw, zo_ret, zo_aret, zo_lret, q_iret_f, q_iret_1, q_iret_0, q_iret_b, q_c8_0, q_c8_1, q_c8_2, q_c8_3, q_c8_4, q_set_0, q_set_1i, q_set_1r, q_set_1n, q_set_1N, q_set_s, q_set_1j, q_bk_v, q_bk_n, q_if, zb_ite, cond_true, cond_false, List.getElem?_cons_zero, List.getElem?_cons_succ, Nat.reduceAdd, q_set_1l, q_set2_0, q_set2_1i, q_set2_1r, q_set2_1n, q_set2_s, if_true, if_false, zb_eq0, zb_eq1, zn_1, not_true_eq_false, not_false_eq_true, ite_true, ite_false, if_true, if_false, q_iret_0, q_iret_1, decide_true, decide_false, decide_not, zb_t, zb_f, z10, z01, cond_true, cond_false, Bool.and_true, Bool.true_and, Bool.and_false, Bool.false_and, Bool.not_true, Bool.not_false, true_and, and_true, false_and, and_false, true_or, or_true, false_or, or_false, Bool.true_eq_false, Bool.false_eq_true, eq_self, reduceCtorEq, Bool.or_true, Bool.true_or, Bool.or_false, Bool.false_or])
      rfl
    | succ n ih =>
      intro hn1
      obtain ⟨S, j3, j4, e1, HS, s1⟩ := ih (by omega)
      have h60 : n < 60 := lt_n60 H.1 (by omega)
      obtain ⟨b1, b2, b3⟩ := at_o H h60
      obtain ⟨k1, k2⟩ := kinds_o n h60
      obtain ⟨-, S1⟩ := eqs_inv (P := fun _ i => lsP A c i) hc W n
      have hnv : nv (eqs (fun _ i => lsP A c i) c n A) 1 = nv A 1 := congrArg zz_ix (S1 1 2 (Or.inl (by omega)) (by omega) (by omega))
      have hcc := zk_in (i := n) (n := nv A 1) (by omega) hn
      have t5 : (rLs R S c n).1 0 5 = zn (nv A 1) := (rLs_a (by decide) (by decide)).trans ((s1.1 0 5 (by decide) (by decide) (by decide)).trans H.1.2.1.1.2)
      have t42 : (rLs R S c n).1 0 42 = zn c := (rLs_a (by decide) (by decide)).trans HS.2.1
      have u42 : (rLs R S c (n + 1)).1 0 42 = zn c := (rLs_a (by decide) (by decide)).trans HS.2.1
      have l7 : (rLs R S c n).2 7 n = R.2 7 n := (rLs_b (by decide) (by decide)).trans (congrFun (congrFun s1.2 7) n)
      have l8 : (rLs R S c n).2 8 n = R.2 8 n := (rLs_b (by decide) (by decide)).trans (congrFun (congrFun s1.2 8) n)
      have l9 : (rLs R S c n).1 9 n = R.1 9 n := (rLs_a (by decide) (by decide)).trans (s1.1 9 n (by decide) (by decide) (by decide))
      have m7 : (rLs R S c (n + 1)).2 7 n = R.2 7 n := (rLs_b (by decide) (by decide)).trans (congrFun (congrFun s1.2 7) n)
      have m6 : (rLs R S c (n + 1)).1 6 n = row A n 23 := by
        rw [rLs_a (by decide) (by decide), s1.1 6 n (by decide) (by decide) (by decide)]
        exact (rl_cur H.1 (by omega)).2.2.2.2.symm
      have Ku : RK (rLs R S c (n + 1)) := by
        obtain ⟨x1, x2, x3⟩ := HS.1.1.1
        exact ⟨fun k hk => by rw [rLs_a (by decide) (by decide), rLs_a (by decide) (by decide)]; exact x1 k hk, fun f hf => by rw [rLs_a (by decide) (by decide), rLs_a (by decide) (by decide)]; exact x2 f hf, fun t ht => by rw [rLs_a (by decide) (by decide)]; exact x3 t ht⟩
      have hg : fX12_get [.ref 0, .long (R.2 7 n), .int 13] (rLs R S c (n + 1)) = some (.inl (some (.int (row A n 25))), rLs R S c (n + 1)) := by
        rw [← its_13 H.1 (show n < nv A 1 by omega)]
        exact r_get Ku (k := 13) (by decide) _
      have hok := r_ownKindX u42 hc
      have z1 : zz_b01 (1 : Int32) = true := rfl
      -- the rows are laid
      have st : zz_ev tX12_lists 4 [some (.ref 0), some (.int ((eqs (fun _ i => lsP A c i) c n A).1 (3 + c) 11 - A.1 (3 + c) 11)), some (.int (zn n)), zj j3, zj j4] [] (rLs R S c n) =
          zz_ev tX12_lists 66 [some (.ref 0), some (.int ((eqs (fun _ i => lsP A c i) c n A).1 (3 + c) 11 - A.1 (3 + c) 11)), some (.int (zn n)), some (.int (zn (60 * c + n))), zj j4] [.ref 0] (rLs R S c (n + 1)) := by
        generalize (eqs (fun _ i => lsP A c i) c n A).1 (3 + c) 11 - A.1 (3 + c) 11 = v
        rw [rLs_s]
        generalize rLs R S c n = T at t5 t42 l7 l8 l9 ⊢
        generalize hZ : zz_ev tX12_lists 66 [some (.ref 0), some (.int v), some (.int (zn n)), some (.int (zn (60 * c + n))), zj j4] [.ref 0] (zz_sI (zz_sL (zz_sL (zz_sI T 27 (60 * c + n) 1) 28 (60 * c + n) (R.2 7 n)) 29 (60 * c + n) (R.2 8 n)) 30 (60 * c + n) (R.1 9 n)) = Z
        rw [e_X12_lists_4]
        (simp only [e_X12_lists, zo_iload, zo_lload, zo_aload, zo_istore, zo_lstore, zo_astore, zo_iinc, zo_pushI, zo_pushL, zo_null, zo_ii, zo_iid, zo_ll, zo_li, zo_lcmp, zo_i2l, zo_l2i, zo_dup, zo_dup2, zo_pop, zo_goto, zo_if, zo_icmp, zo_ifnull, zo_gets, zo_mm, zo_throw, zo_ret, zo_aret, zo_lret, q_iret_f, q_iret_1, q_iret_0, q_iret_b, q_c8_0, q_c8_1, q_c8_2, q_c8_3, q_c8_4, q_set_0, q_set_1i, q_set_1r, q_set_1n, q_set_1N, q_set_s, q_set_1j, q_bk_v, q_bk_n, q_if, zb_ite, cond_true, cond_false, List.getElem?_cons_zero, List.getElem?_cons_succ, Nat.reduceAdd, q_set_1l, q_set2_0, q_set2_1i, q_set2_1r, q_set2_1n, q_set2_s, ↓hZ, t5, hcc, t42, e60, b1, b2, b3, k1, k2, q_aR, z1, l7, l8, l9, sI_1, sL_1, sI_2, sL_2, Nat.reduceEqDiff, if_true, if_false, zb_eq0, zb_eq1, zn_1, not_true_eq_false, not_false_eq_true, ite_true, ite_false, if_true, if_false, q_iret_0, q_iret_1, decide_true, decide_false, decide_not, zb_t, zb_f, z10, z01, cond_true, cond_false, Bool.and_true, Bool.true_and, Bool.and_false, Bool.false_and, Bool.not_true, Bool.not_false, true_and, and_true, false_and, and_false, true_or, or_true, false_or, or_false, Bool.true_eq_false, Bool.false_eq_true, eq_self, reduceCtorEq, Bool.or_true, Bool.true_or, Bool.or_false, Bool.false_or])
      rw [e1, st, eqs_s]
      have fin : ∀ (p : Bool), lsP A c n = p → zz_ev tX12_lists 66 [some (.ref 0), some (.int ((eqs (fun _ i => lsP A c i) c n A).1 (3 + c) 11 - A.1 (3 + c) 11)), some (.int (zn n)), some (.int (zn (60 * c + n))), zj j4] [.ref 0] (rLs R S c (n + 1)) =
          zz_ev tX12_lists 110 [some (.ref 0), some (.int ((eqs (fun _ i => lsP A c i) c n A).1 (3 + c) 11 - A.1 (3 + c) 11)), some (.int (zn n)), some (.int (zn (60 * c + n))), some (.int (zb p))] [.int ((eqs (fun _ i => lsP A c i) c n A).1 (3 + c) 11 - A.1 (3 + c) 11)] (rLs R S c (n + 1)) := by
        intro p hp
        subst hp
        unfold lsP
        generalize (eqs (fun _ i => (!decide (row A i 25 = 4) && (decide (okd c = -1) || decide (row A i 23 = okd c)))) c n A).1 (3 + c) 11 - A.1 (3 + c) 11 = v
        generalize rLs R S c (n + 1) = T at *
        generalize hZ : (fun b : Int32 => zz_ev tX12_lists 110 [some (.ref 0), some (.int v), some (.int (zn n)), some (.int (zn (60 * c + n))), some (.int b)] [.int v] T) = Z
        have hZ' : ∀ b : Int32, zz_ev tX12_lists 110 [some (.ref 0), some (.int v), some (.int (zn n)), some (.int (zn (60 * c + n))), some (.int b)] [.int v] T = Z b := fun b => by rw [← hZ]
        rw [hZ']
        clear hZ
        by_cases d1 : row A n 25 = 4
        · (simp only [e_X12_lists, zo_iload, zo_lload, zo_aload, zo_istore, zo_lstore, zo_astore, zo_iinc, zo_pushI, zo_pushL, zo_null, zo_ii, zo_iid, zo_ll, zo_li, zo_lcmp, zo_i2l, zo_l2i, zo_dup, zo_dup2, zo_pop, zo_goto, zo_if, zo_icmp, zo_ifnull, zo_gets, zo_mm, zo_throw, zo_ret, zo_aret, zo_lret, q_iret_f, q_iret_1, q_iret_0, q_iret_b, q_c8_0, q_c8_1, q_c8_2, q_c8_3, q_c8_4, q_set_0, q_set_1i, q_set_1r, q_set_1n, q_set_1N, q_set_s, q_set_1j, q_bk_v, q_bk_n, q_if, zb_ite, cond_true, cond_false, List.getElem?_cons_zero, List.getElem?_cons_succ, Nat.reduceAdd, q_set_1l, q_set2_0, q_set2_1i, q_set2_1r, q_set2_1n, q_set2_s, ↓hZ', k1, k2, q_aR, m7, hg, d1, if_true, if_false, zb_eq0, zb_eq1, zn_1, not_true_eq_false, not_false_eq_true, ite_true, ite_false, if_true, if_false, q_iret_0, q_iret_1, decide_true, decide_false, decide_not, zb_t, zb_f, z10, z01, cond_true, cond_false, Bool.and_true, Bool.true_and, Bool.and_false, Bool.false_and, Bool.not_true, Bool.not_false, true_and, and_true, false_and, and_false, true_or, or_true, false_or, or_false, Bool.true_eq_false, Bool.false_eq_true, eq_self, reduceCtorEq, Bool.or_true, Bool.true_or, Bool.or_false, Bool.false_or])
        · by_cases d2 : okd c = -1
          · (simp only [e_X12_lists, zo_iload, zo_lload, zo_aload, zo_istore, zo_lstore, zo_astore, zo_iinc, zo_pushI, zo_pushL, zo_null, zo_ii, zo_iid, zo_ll, zo_li, zo_lcmp, zo_i2l, zo_l2i, zo_dup, zo_dup2, zo_pop, zo_goto, zo_if, zo_icmp, zo_ifnull, zo_gets, zo_mm, zo_throw, zo_ret, zo_aret, zo_lret, q_iret_f, q_iret_1, q_iret_0, q_iret_b, q_c8_0, q_c8_1, q_c8_2, q_c8_3, q_c8_4, q_set_0, q_set_1i, q_set_1r, q_set_1n, q_set_1N, q_set_s, q_set_1j, q_bk_v, q_bk_n, q_if, zb_ite, cond_true, cond_false, List.getElem?_cons_zero, List.getElem?_cons_succ, Nat.reduceAdd, q_set_1l, q_set2_0, q_set2_1i, q_set2_1r, q_set2_1n, q_set2_s, ↓hZ', k1, k2, q_aR, m7, hg, d1, hok, d2, if_true, if_false, zb_eq0, zb_eq1, zn_1, not_true_eq_false, not_false_eq_true, ite_true, ite_false, if_true, if_false, q_iret_0, q_iret_1, decide_true, decide_false, decide_not, zb_t, zb_f, z10, z01, cond_true, cond_false, Bool.and_true, Bool.true_and, Bool.and_false, Bool.false_and, Bool.not_true, Bool.not_false, true_and, and_true, false_and, and_false, true_or, or_true, false_or, or_false, Bool.true_eq_false, Bool.false_eq_true, eq_self, reduceCtorEq, Bool.or_true, Bool.true_or, Bool.or_false, Bool.false_or])
          · by_cases d3 : row A n 23 = okd c
            · (simp only [e_X12_lists, zo_iload, zo_lload, zo_aload, zo_istore, zo_lstore, zo_astore, zo_iinc, zo_pushI, zo_pushL, zo_null, zo_ii, zo_iid, zo_ll, zo_li, zo_lcmp, zo_i2l, zo_l2i, zo_dup, zo_dup2, zo_pop, zo_goto, zo_if, zo_icmp, zo_ifnull, zo_gets, zo_mm, zo_throw, zo_ret, zo_aret, zo_lret, q_iret_f, q_iret_1, q_iret_0, q_iret_b, q_c8_0, q_c8_1, q_c8_2, q_c8_3, q_c8_4, q_set_0, q_set_1i, q_set_1r, q_set_1n, q_set_1N, q_set_s, q_set_1j, q_bk_v, q_bk_n, q_if, zb_ite, cond_true, cond_false, List.getElem?_cons_zero, List.getElem?_cons_succ, Nat.reduceAdd, q_set_1l, q_set2_0, q_set2_1i, q_set2_1r, q_set2_1n, q_set2_s, ↓hZ', k1, k2, q_aR, m7, hg, d1, hok, d2, m6, d3, if_true, if_false, zb_eq0, zb_eq1, zn_1, not_true_eq_false, not_false_eq_true, ite_true, ite_false, if_true, if_false, q_iret_0, q_iret_1, decide_true, decide_false, decide_not, zb_t, zb_f, z10, z01, cond_true, cond_false, Bool.and_true, Bool.true_and, Bool.and_false, Bool.false_and, Bool.not_true, Bool.not_false, true_and, and_true, false_and, and_false, true_or, or_true, false_or, or_false, Bool.true_eq_false, Bool.false_eq_true, eq_self, reduceCtorEq, Bool.or_true, Bool.true_or, Bool.or_false, Bool.false_or])
            · (simp only [e_X12_lists, zo_iload, zo_lload, zo_aload, zo_istore, zo_lstore, zo_astore, zo_iinc, zo_pushI, zo_pushL, zo_null, zo_ii, zo_iid, zo_ll, zo_li, zo_lcmp, zo_i2l, zo_l2i, zo_dup, zo_dup2, zo_pop, zo_goto, zo_if, zo_icmp, zo_ifnull, zo_gets, zo_mm, zo_throw, zo_ret, zo_aret, zo_lret, q_iret_f, q_iret_1, q_iret_0, q_iret_b, q_c8_0, q_c8_1, q_c8_2, q_c8_3, q_c8_4, q_set_0, q_set_1i, q_set_1r, q_set_1n, q_set_1N, q_set_s, q_set_1j, q_bk_v, q_bk_n, q_if, zb_ite, cond_true, cond_false, List.getElem?_cons_zero, List.getElem?_cons_succ, Nat.reduceAdd, q_set_1l, q_set2_0, q_set2_1i, q_set2_1r, q_set2_1n, q_set2_s, ↓hZ', k1, k2, q_aR, m7, hg, d1, hok, d2, m6, d3, if_true, if_false, zb_eq0, zb_eq1, zn_1, not_true_eq_false, not_false_eq_true, ite_true, ite_false, if_true, if_false, q_iret_0, q_iret_1, decide_true, decide_false, decide_not, zb_t, zb_f, z10, z01, cond_true, cond_false, Bool.and_true, Bool.true_and, Bool.and_false, Bool.false_and, Bool.not_true, Bool.not_false, true_and, and_true, false_and, and_false, true_or, or_true, false_or, or_false, Bool.true_eq_false, Bool.false_eq_true, eq_self, reduceCtorEq, Bool.or_true, Bool.true_or, Bool.or_false, Bool.false_or])
      cases hp : lsP A c n
      · rw [fin _ hp]
        refine ⟨S, some (zn (60 * c + n)), some 0, ?_, HS, s1⟩
        rw [cond_false]
        (simp only [e_X12_lists, zo_iload, zo_lload, zo_aload, zo_istore, zo_lstore, zo_astore, zo_iinc, zo_pushI, zo_pushL, zo_null, zo_ii, zo_iid, zo_ll, zo_li, zo_lcmp, zo_i2l, zo_l2i, zo_dup, zo_dup2, zo_pop, zo_goto, zo_if, zo_icmp, zo_ifnull, zo_gets, zo_mm, zo_throw, zo_ret, zo_aret, zo_lret, q_iret_f, q_iret_1, q_iret_0, q_iret_b, q_c8_0, q_c8_1, q_c8_2, q_c8_3, q_c8_4, q_set_0, q_set_1i, q_set_1r, q_set_1n, q_set_1N, q_set_s, q_set_1j, q_bk_v, q_bk_n, q_if, zb_ite, cond_true, cond_false, List.getElem?_cons_zero, List.getElem?_cons_succ, Nat.reduceAdd, q_set_1l, q_set2_0, q_set2_1i, q_set2_1r, q_set2_1n, q_set2_s, zb_f, zj_some, Int32.add_zero, if_true, if_false, zb_eq0, zb_eq1, zn_1, not_true_eq_false, not_false_eq_true, ite_true, ite_false, if_true, if_false, q_iret_0, q_iret_1, decide_true, decide_false, decide_not, zb_t, zb_f, z10, z01, cond_true, cond_false, Bool.and_true, Bool.true_and, Bool.and_false, Bool.false_and, Bool.not_true, Bool.not_false, true_and, and_true, false_and, and_false, true_or, or_true, false_or, or_false, Bool.true_eq_false, Bool.false_eq_true, eq_self, reduceCtorEq, Bool.or_true, Bool.true_or, Bool.or_false, Bool.false_or])
      · rw [fin _ hp]
        obtain ⟨S2, f1, f2, f3⟩ := r_comesL HS (o := n) (by rw [hnv]; omega) R (n + 1)
        refine ⟨S2, some (zn (60 * c + n)), some 1, ?_, f2, sameR_trans s1 f3⟩
        have ea := dq_add (A.1 (3 + c) 11) ((eqs (fun _ i => lsP A c i) c n A).1 (3 + c) 11) ((aEnq (eqs (fun _ i => lsP A c i) c n A) c (zn n)).1 (3 + c) 11)
        rw [cond_true]
        (simp only [e_X12_lists, zo_iload, zo_lload, zo_aload, zo_istore, zo_lstore, zo_astore, zo_iinc, zo_pushI, zo_pushL, zo_null, zo_ii, zo_iid, zo_ll, zo_li, zo_lcmp, zo_i2l, zo_l2i, zo_dup, zo_dup2, zo_pop, zo_goto, zo_if, zo_icmp, zo_ifnull, zo_gets, zo_mm, zo_throw, zo_ret, zo_aret, zo_lret, q_iret_f, q_iret_1, q_iret_0, q_iret_b, q_c8_0, q_c8_1, q_c8_2, q_c8_3, q_c8_4, q_set_0, q_set_1i, q_set_1r, q_set_1n, q_set_1N, q_set_s, q_set_1j, q_bk_v, q_bk_n, q_if, zb_ite, cond_true, cond_false, List.getElem?_cons_zero, List.getElem?_cons_succ, Nat.reduceAdd, q_set_1l, q_set2_0, q_set2_1i, q_set2_1r, q_set2_1n, q_set2_s, zb_t, zj_some, f1, ea, if_true, if_false, zb_eq0, zb_eq1, zn_1, not_true_eq_false, not_false_eq_true, ite_true, ite_false, if_true, if_false, q_iret_0, q_iret_1, decide_true, decide_false, decide_not, zb_t, zb_f, z10, z01, cond_true, cond_false, Bool.and_true, Bool.true_and, Bool.and_false, Bool.false_and, Bool.not_true, Bool.not_false, true_and, and_true, false_and, and_false, true_or, or_true, false_or, or_false, Bool.true_eq_false, Bool.false_eq_true, eq_self, reduceCtorEq, Bool.or_true, Bool.true_or, Bool.or_false, Bool.false_or])
  have hall : ∀ m, m ≤ nv A 1 → ∃ S, rAt (eqs (fun _ i => lsP A c i) c m A) S c := fun m hm => by
    obtain ⟨S, -, -, -, h, -⟩ := main m hm
    exact ⟨S, h⟩
  have eR : aRel A c = aTA (eqs (fun _ i => lsP A c i) c (nv A 1) A) c := by
    unfold aRel
    have : nv (aTA A c) (3 + c) = nv A 1 := congrArg zz_ix (by rw [TA_1, if_neg (by omega), if_pos ⟨rfl, rfl⟩])
    rw [this]
    exact rel_eq H _ (Nat.le_refl _) hall
  rw [eR]
  obtain ⟨S, j3, j4, e1, HS, s1⟩ := main (nv A 1) (Nat.le_refl _)
  obtain ⟨-, S1⟩ := eqs_inv (P := fun _ i => lsP A c i) hc W (nv A 1)
  have hq : (aTA (eqs (fun _ i => lsP A c i) c (nv A 1) A) c).1 (3 + c) 11 = (eqs (fun _ i => lsP A c i) c (nv A 1) A).1 (3 + c) 11 := by rw [TA_1, if_neg (by omega), if_neg (by omega), if_neg (by omega)]
  rw [hq]
  have hnv : nv (eqs (fun _ i => lsP A c i) c (nv A 1) A) 1 = nv A 1 := congrArg zz_ix (S1 1 2 (Or.inl (by omega)) (by omega) (by omega))
  have hve : ve (eqs (fun _ i => lsP A c i) c (nv A 1) A) 1 = ve A 1 := congrArg zz_ix (S1 1 3 (Or.inl (by omega)) (by omega) (by omega))
  generalize eqs (fun _ i => lsP A c i) c (nv A 1) A = B at *
  have L := HS.1.2.1
  have t5 : (rLs R S c (nv A 1)).1 0 5 = zn (nv A 1) := by rw [rLs_a (by decide) (by decide), L.1.2, hnv]
  have t14 : (rLs R S c (nv A 1)).1 0 14 = zn (ve A 1) := by rw [rLs_a (by decide) (by decide), L.1.1, hve]
  have t42 : (rLs R S c (nv A 1)).1 0 42 = zn c := (rLs_a (by decide) (by decide)).trans HS.2.1
  refine ⟨zz_sI (rLs R S c (nv A 1)) 26 c (zn (ve A 1)), ?_, ⟨?_, ?_, hc⟩, ?_⟩
  · rw [e1]
    generalize rLs R S c (nv A 1) = T at t5 t14 t42 ⊢
    have hcc := zk_out hn
    (rw [e_X12_lists_4]; simp only [e_X12_lists, zo_iload, zo_lload, zo_aload, zo_istore, zo_lstore, zo_astore, zo_iinc, zo_pushI, zo_pushL, zo_null, zo_ii, zo_iid, zo_ll, zo_li, zo_lcmp, zo_i2l, zo_l2i, zo_dup, zo_dup2, zo_pop, zo_goto, zo_if, zo_icmp, zo_ifnull, zo_gets, zo_mm, zo_throw, zo_ret, zo_aret, zo_lret, q_iret_f, q_iret_1, q_iret_0, q_iret_b, q_c8_0, q_c8_1, q_c8_2, q_c8_3, q_c8_4, q_set_0, q_set_1i, q_set_1r, q_set_1n, q_set_1N, q_set_s, q_set_1j, q_bk_v, q_bk_n, q_if, zb_ite, cond_true, cond_false, List.getElem?_cons_zero, List.getElem?_cons_succ, Nat.reduceAdd, q_set_1l, q_set2_0, q_set2_1i, q_set2_1r, q_set2_1n, q_set2_s, t5, hcc, t42, t14, bc, xc, q_aR, if_true, if_false, zb_eq0, zb_eq1, zn_1, not_true_eq_false, not_false_eq_true, ite_true, ite_false, if_true, if_false, q_iret_0, q_iret_1, decide_true, decide_false, decide_not, zb_t, zb_f, z10, z01, cond_true, cond_false, Bool.and_true, Bool.true_and, Bool.and_false, Bool.false_and, Bool.not_true, Bool.not_false, true_and, and_true, false_and, and_false, true_or, or_true, false_or, or_false, Bool.true_eq_false, Bool.false_eq_true, eq_self, reduceCtorEq, Bool.or_true, Bool.true_or, Bool.or_false, Bool.false_or])
  · have ev3 : ve (aTA B c) (3 + c) = ve A 1 := (congrArg zz_ix (show (aTA B c).1 (3 + c) 3 = B.1 1 3 by rw [TA_1, if_pos ⟨rfl, rfl⟩])).trans hve
    have en3 : nv (aTA B c) (3 + c) = nv A 1 := (congrArg zz_ix (show (aTA B c).1 (3 + c) 2 = B.1 1 2 by rw [TA_1, if_neg (by omega), if_pos ⟨rfl, rfl⟩])).trans hnv
    have gA : ∀ a b, a ≠ 3 + c ∨ b ≠ 2 ∧ b ≠ 3 → a ≠ 21 + 6 * c → (aTA B c).1 a b = B.1 a b := fun a b h1 h2 => by rw [TA_1, if_neg (by omega), if_neg (by omega), if_neg (by omega)]
    have eob : obj (aTA B c) = obj B := funext fun k => congrArg zz_ix (gA 14 _ (Or.inl (by omega)) (by omega))
    have eob2 : obj B = obj A := funext fun k => congrArg zz_ix (S1 14 _ (Or.inl (by omega)) (by omega) (by omega))
    have ev1 : ve (aTA B c) 1 = ve A 1 := (congrArg zz_ix (gA 1 3 (Or.inl (by omega)) (by omega))).trans hve
    refine Rl0_v hc HS.1 (zIC_TA hc HS.1.1.2) gA (fun a b h1 h2 => ?_) (fun a b h1 => ?_) ⟨⟨?_, ?_, ?_⟩, fun b hb => ?_⟩
    · by_cases q : a = 26
      · rw [q, sI_b (by omega), rLs_a (by decide) (by decide)]
      · rw [sI_a q, rLs_1, if_neg (by omega), if_neg (by omega)]
    · show (rLs R S c (nv A 1)).2 a b = _
      rw [rLs_2, if_neg (by omega), if_neg (by omega)]
    · rw [ev3, ev1]; exact Nat.le_refl _
    · rw [sI_e, ev3]
    · rw [en3, ev3, eob, eob2]
      exact H.1.2.1.2.2.2.1.1
    · rw [ev3, en3, eob, eob2, sI_a (show (27 : Nat) ≠ 26 by decide), sI_a (show (30 : Nat) ≠ 26 by decide), rLs_1, rLs_1, if_neg (show ¬ (30 = 27 ∧ 60 * c ≤ 60 * c + b ∧ 60 * c + b < 60 * c + nv A 1) by omega), if_neg (show ¬ (27 = 30 ∧ 60 * c ≤ 60 * c + b ∧ 60 * c + b < 60 * c + nv A 1) by omega)]
      have hlat : (aTA B c).1 (21 + 6 * c) b = zn (lastV (obj A) (ve A 1) b) := by
        rw [TA_1, if_neg (by omega), if_neg (by omega), if_pos ⟨rfl, by omega, by omega⟩, Nat.sub_zero, Nat.zero_add, L.2.2.2.1.2 b hb, eob2, hve]
      refine ⟨hlat, ?_⟩
      have g2 : ∀ a x, (zz_sI (rLs R S c (nv A 1)) 26 c (zn (ve A 1))).2 a x = (rLs R S c (nv A 1)).2 a x := fun a x => rfl
      by_cases q : b < nv A 1
      · obtain ⟨y1, y2, y3⟩ := H.1.2.1.2.2.2.2 b q
        rw [if_pos ⟨rfl, by omega, by omega⟩, if_pos ⟨rfl, by omega, by omega⟩, Nat.add_sub_cancel_left, decide_eq_true q]
        refine ⟨rfl, y3, fun _ => ?_⟩
        rw [g2, g2, g2, g2, rLs_2, if_pos ⟨rfl, by omega, by omega⟩, Nat.add_sub_cancel_left, rLs_2, if_neg (by omega), if_neg (by omega), rLs_2, if_neg (by omega), if_pos ⟨rfl, by omega, by omega⟩, Nat.add_sub_cancel_left, rLs_2, if_neg (by omega), if_neg (by omega), s1.2]
        exact ⟨y1, y2⟩
      · have V := (HS.1.2.2.1 c hc).1
        obtain ⟨w1, w2, w3, -⟩ := V.2 b hb
        have hun : ¬ b < nv B (3 + c) := fun z => q (by have := rv_nv HS; omega)
        rw [if_neg (by omega), if_neg (by omega), decide_eq_false q, w2, decide_eq_false hun, w3, rl_0 H.1.2.1 (Nat.le_refl _) (by rw [← H.1.2.1.2.2.2.1.1]; exact q), rl_0 L V.1.1 (by rw [← V.1.2.2]; exact hun)]
        exact ⟨rfl, rfl, fun z => absurd z q⟩
  · rw [sI_a (by decide)]; exact t42
  · intro a b x1 x2 x3 x4 x5 x6
    rw [sI_a x1, rLs_a x2 x3]
    exact s1.1 a b x4 x5 x6
end
end

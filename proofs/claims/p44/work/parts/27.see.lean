section
/-! the controllers: looking -/
/-- what a look leaves -/
def zSee (c : Nat) (A B : zzMd) : Prop := ∀ a b, a ≠ 3 + c ∨ b ≠ 2 ∧ b ≠ 3 ∧ b ≠ 11 → a ≠ 21 + 6 * c → a ≠ 22 + 6 * c → a ≠ 23 + 6 * c → B.1 a b = A.1 a b
theorem zSee_refl (c : Nat) (A : zzMd) : zSee c A A := fun _ _ _ _ _ _ => rfl
theorem zSee_trans {c : Nat} {A B C : zzMd} (h : zSee c A B) (h2 : zSee c B C) : zSee c A C := fun a b h3 h4 h5 h6 => (h2 a b h3 h4 h5 h6).trans (h a b h3 h4 h5 h6)
theorem zSee_S {c : Nat} {A B : zzMd} (h : zSame c A B) : zSee c A B := fun a b h3 _ h5 h6 => h a b (h3.elim Or.inl fun q => Or.inr q.2.2) h5 h6
theorem zSee_tk (c : Nat) (hc : c < 8) (A : zzMd) (o k : Nat) : zSee c A (tkIn A (3 + c) o k) := fun a b h3 h4 _ _ => by
  rw [tk_1, zcL hc, if_neg (by omega), if_neg (by omega), if_neg (by omega)]
/-- a controller's view changes alone -/
theorem zIC_view {A B : zzMd} {c : Nat} (hc : c < 8) (h : zIC A) (h1 : ∀ a b, a ≠ 3 + c ∨ b ≠ 2 ∧ b ≠ 3 → a ≠ 21 + 6 * c → B.1 a b = A.1 a b) (h2 : zIV B (3 + c) (21 + 6 * c)) : zIC B := by
  have k1 : ∀ a b, a ≠ 3 + c → a ≤ 2 ∨ a = 14 ∨ a = 15 ∨ a = 18 ∨ a = 19 → B.1 a b = A.1 a b := fun a b h3 h4 => h1 a b (Or.inl h3) (by omega)
  obtain ⟨a1, a2, a3⟩ := h
  refine ⟨?_, ?_, fun d hd => ?_⟩
  · unfold zIV nv ve at a1 ⊢
    simp only [k1 1 _ (by omega) (by omega), k1 15 _ (by omega) (by omega)]
    exact a1
  · unfold zAd nr nc rP cP at a2 ⊢
    simp only [k1 2 _ (by omega) (by omega), k1 18 _ (by omega) (by omega), k1 19 _ (by omega) (by omega)]
    exact a2
  · obtain ⟨b1, b2⟩ := a3 d hd
    have k3 : ∀ b, B.1 (22 + 6 * d) b = A.1 (22 + 6 * d) b := fun b => h1 _ _ (Or.inl (by omega)) (by omega)
    refine ⟨?_, ?_⟩
    · by_cases hdc : d = c
      · rw [hdc]; exact h2
      · have k4 : ∀ b, B.1 (3 + d) b = A.1 (3 + d) b := fun b => h1 _ _ (Or.inl (by omega)) (by omega)
        have k5 : ∀ b, B.1 (21 + 6 * d) b = A.1 (21 + 6 * d) b := fun b => h1 _ _ (Or.inl (by omega)) (by omega)
        unfold zIV nv ve at b1 ⊢
        simp only [k4, k5]
        exact b1
    · have k2 : B.1 (3 + d) 11 = A.1 (3 + d) 11 := h1 _ _ (Or.inr ⟨by decide, by decide⟩) (by omega)
      unfold zIQ qn qk at b2 ⊢
      simp only [k2, k3]
      exact b2
theorem zIC_tk {A : zzMd} {c o k : Nat} (hc : c < 8) (ho : o < 60) (hk : k ≤ 400) (h : zIC A) : zIC (tkIn A (3 + c) o k) := by
  refine zIC_view hc h (fun a b h1 h2 => ?_) ?_
  · rw [tk_1, zcL hc, if_neg (by omega), if_neg (by omega), if_neg (by omega)]
  · have := zIV_tk (zcV hc) ho hk (by rw [zcL hc]; exact (h.2.2 c hc).1)
    rw [zcL hc] at this
    exact this
/-- a controller takes all from the store -/
def aTA (A : zzMd) (c : Nat) : zzMd := zz_sI (zz_sI (zz_cpI A 15 0 (21 + 6 * c) 0 60) (3 + c) 2 (A.1 1 2)) (3 + c) 3 (A.1 1 3)
theorem TA_1 {A : zzMd} {c a b : Nat} : (aTA A c).1 a b = if a = 3 + c ∧ b = 3 then A.1 1 3 else if a = 3 + c ∧ b = 2 then A.1 1 2 else if a = 21 + 6 * c ∧ 0 ≤ b ∧ b < 0 + 60 then A.1 15 (0 + (b - 0)) else A.1 a b := rfl
theorem sp_takeAll (M : zzMd) {c : Nat} (hc : c < 8) : fX10_takeAll [.ref (3 + c), .ref 1] M = some (.inl none, aTA M c) := by
  have hq : (0 ≤ (0 : Int32).toInt ∧ 0 ≤ (0 : Int32).toInt ∧ 0 ≤ (60 : Int32).toInt ∧ 0 + 60 ≤ 60 ∧ 0 + 60 ≤ 60) = True := eq_true (by decide)
  have hcp : ∀ a b, (zz_cpI M 15 0 a 0 60).1 1 b = if 1 = a ∧ 0 ≤ b ∧ b < 0 + 60 then M.1 15 (0 + (b - 0)) else M.1 1 b := fun _ _ => rfl
  rw [s_X10_takeAll]
  unfold aTA
  rcases zc8 hc with rfl | rfl | rfl | rfl | rfl | rfl | rfl | rfl <;> (simp only [Nat.reduceAdd, Nat.reduceMul, Nat.mul_zero, Nat.add_zero] at *; simp only [e_X10_takeAll, zo_iload, zo_lload, zo_aload, zo_istore, zo_lstore, zo_astore, zo_iinc, zo_pushI, zo_pushL, zo_null, zo_ii, zo_iid, zo_ll, zo_li, zo_lcmp, zo_i2l, zo_l2i, zo_dup, zo_dup2, zo_pop, zo_goto, zo_if, zo_icmp, zo_ifnull, zo_gets, zo_mm, zo_throw, zo_ret, zo_aret, zo_lret, q_iret_f, q_iret_1, q_iret_0, q_iret_b, q_c8_0, q_c8_1, q_c8_2, q_c8_3, q_c8_4, q_set_0, q_set_1i, q_set_1r, q_set_1n, q_set_1N, q_set_s, q_set_1j, q_bk_v, q_bk_n, q_if, zb_ite, cond_true, cond_false, List.getElem?_cons_zero, List.getElem?_cons_succ, Nat.reduceAdd, q_aC, q_ix, hq, hcp, sI_1, Nat.reduceEqDiff, if_true, if_false, zb_eq0, zb_eq1, zn_1, not_true_eq_false, not_false_eq_true, ite_true, ite_false, if_true, if_false, q_iret_0, q_iret_1, decide_true, decide_false, decide_not, zb_t, zb_f, z10, z01, cond_true, cond_false, Bool.and_true, Bool.true_and, Bool.and_false, Bool.false_and, Bool.not_true, Bool.not_false, true_and, and_true, false_and, and_false, true_or, or_true, false_or, or_false, Bool.true_eq_false, Bool.false_eq_true, eq_self, reduceCtorEq])
theorem zSee_TA (A : zzMd) (c : Nat) : zSee c A (aTA A c) := fun a b h3 h4 _ _ => by
  rw [TA_1, if_neg (by omega), if_neg (by omega), if_neg (by omega)]
theorem zIC_TA {A : zzMd} {c : Nat} (hc : c < 8) (h : zIC A) : zIC (aTA A c) := by
  refine zIC_view hc h (fun a b h1 h2 => ?_) ?_
  · rw [TA_1, if_neg (by omega), if_neg (by omega), if_neg (by omega)]
  · obtain ⟨⟨a1, ⟨a2, a3⟩, a4, a5⟩, -⟩ := h
    have e2 : (aTA A c).1 (3 + c) 2 = A.1 1 2 := by rw [TA_1, if_neg (by omega), if_pos ⟨rfl, rfl⟩]
    have e3 : (aTA A c).1 (3 + c) 3 = A.1 1 3 := by rw [TA_1, if_pos ⟨rfl, rfl⟩]
    have n2 : nv (aTA A c) (3 + c) = nv A 1 := by unfold nv; rw [e2]
    have n3 : ve (aTA A c) (3 + c) = ve A 1 := by unfold ve; rw [e3]
    refine ⟨fun q hq => ?_, ?_, ?_⟩
    · rw [TA_1, if_neg (by omega), if_neg (by omega), if_pos (by omega), Nat.sub_zero, Nat.zero_add]
      exact a1 q hq
    · rw [n2, e2]; exact ⟨a2, a3⟩
    · rw [n3, e3]; exact ⟨a4, a5⟩
def relP (c : Nat) (D : zzMd) (i : Nat) : Bool := !gone D (3 + c) (zn i) && ownKey D c (zn i)
noncomputable def aRel (A : zzMd) (c : Nat) : zzMd := eqs (relP c) c (nv (aTA A c) (3 + c)) (aTA A c)
theorem sp_relist {M : zzMd} (W : zIC M) {c : Nat} (hc : c < 8) : fX2_relist [.ref (3 + c)] M = some (.inl none, aRel M c) := by
  have ht := sp_takeAll M hc
  have W2 := zIC_TA hc W
  have st : fX2_relist [.ref (3 + c)] M = zz_ev tX2_relist 10 [some (.ref (3 + c)), some (.int (zn 0))] [] (aTA M c) := by
    rw [s_X2_relist]
    rcases zc8 hc with rfl | rfl | rfl | rfl | rfl | rfl | rfl | rfl <;> ((simp only [Nat.reduceAdd, Nat.reduceMul, Nat.mul_zero, Nat.add_zero] at *; simp only [e_X2_relist, zo_iload, zo_lload, zo_aload, zo_istore, zo_lstore, zo_astore, zo_iinc, zo_pushI, zo_pushL, zo_null, zo_ii, zo_iid, zo_ll, zo_li, zo_lcmp, zo_i2l, zo_l2i, zo_dup, zo_dup2, zo_pop, zo_goto, zo_if, zo_icmp, zo_ifnull, zo_gets, zo_mm, zo_throw, zo_ret, zo_aret, zo_lret, q_iret_f, q_iret_1, q_iret_0, q_iret_b, q_c8_0, q_c8_1, q_c8_2, q_c8_3, q_c8_4, q_set_0, q_set_1i, q_set_1r, q_set_1n, q_set_1N, q_set_s, q_set_1j, q_bk_v, q_bk_n, q_if, zb_ite, cond_true, cond_false, List.getElem?_cons_zero, List.getElem?_cons_succ, Nat.reduceAdd, ht, if_true, if_false, zb_eq0, zb_eq1, zn_1, not_true_eq_false, not_false_eq_true, ite_true, ite_false, if_true, if_false, q_iret_0, q_iret_1, decide_true, decide_false, decide_not, zb_t, zb_f, z10, z01, cond_true, cond_false, Bool.and_true, Bool.true_and, Bool.and_false, Bool.false_and, Bool.not_true, Bool.not_false, true_and, and_true, false_and, and_false, true_or, or_true, false_or, or_false, Bool.true_eq_false, Bool.false_eq_true, eq_self, reduceCtorEq]); rfl)
  rw [st]
  unfold aRel
  generalize aTA M c = A at W2
  obtain ⟨⟨-, ⟨k1, k2⟩, -⟩, -⟩ := W2.2.2 c hc
  have lp := eqs_loop (P := relP c) hc W2 (E := fun i D => zz_ev tX2_relist 10 [some (.ref (3 + c)), some (.int (zn i))] [] D) (nv A (3 + c)) (fun i hi D WD S => by
    obtain ⟨a1, a2⟩ := zk_inS (n := 0) W2 hc S hi
    have hg := sp_isGone (zIC_W (zcV hc) WD) (zn i)
    have ho := sp_isOwnKey WD hc (zn i)
    have he := sp_enqueue WD hc (zn i)
    unfold relP
    clear ht st W2 S k1 k2
    cases c2 : gone D (3 + c) (zn i) <;> cases c3 : ownKey D c (zn i) <;> rcases zc8 hc with rfl | rfl | rfl | rfl | rfl | rfl | rfl | rfl <;> (rw [e_X2_relist_10]; (simp only [Nat.reduceAdd, Nat.reduceMul, Nat.mul_zero, Nat.add_zero] at *; simp only [e_X2_relist, zo_iload, zo_lload, zo_aload, zo_istore, zo_lstore, zo_astore, zo_iinc, zo_pushI, zo_pushL, zo_null, zo_ii, zo_iid, zo_ll, zo_li, zo_lcmp, zo_i2l, zo_l2i, zo_dup, zo_dup2, zo_pop, zo_goto, zo_if, zo_icmp, zo_ifnull, zo_gets, zo_mm, zo_throw, zo_ret, zo_aret, zo_lret, q_iret_f, q_iret_1, q_iret_0, q_iret_b, q_c8_0, q_c8_1, q_c8_2, q_c8_3, q_c8_4, q_set_0, q_set_1i, q_set_1r, q_set_1n, q_set_1N, q_set_s, q_set_1j, q_bk_v, q_bk_n, q_if, zb_ite, cond_true, cond_false, List.getElem?_cons_zero, List.getElem?_cons_succ, Nat.reduceAdd, a1, a2, hg, ho, he, c2, c3, if_true, if_false, zb_eq0, zb_eq1, zn_1, not_true_eq_false, not_false_eq_true, ite_true, ite_false, if_true, if_false, q_iret_0, q_iret_1, decide_true, decide_false, decide_not, zb_t, zb_f, z10, z01, cond_true, cond_false, Bool.and_true, Bool.true_and, Bool.and_false, Bool.false_and, Bool.not_true, Bool.not_false, true_and, and_true, false_and, and_false, true_or, or_true, false_or, or_false, Bool.true_eq_false, Bool.false_eq_true, eq_self, reduceCtorEq])))
  rw [lp]
  obtain ⟨h1, h2⟩ := eqs_inv (P := relP c) hc W2 (nv A (3 + c))
  have a1 : (eqs (relP c) c (nv A (3 + c)) A).1 (3 + c) 2 = zn (nv A (3 + c)) := (h2 (3 + c) 2 (Or.inr (by decide)) (by omega) (by omega)).trans k1
  have a2 := zk_out k2
  generalize eqs (relP c) c (nv A (3 + c)) A = B at a1
  clear ht st W2 k1 k2 lp h1 h2
  rcases zc8 hc with rfl | rfl | rfl | rfl | rfl | rfl | rfl | rfl <;> (rw [e_X2_relist_10]; (simp only [Nat.reduceAdd, Nat.reduceMul, Nat.mul_zero, Nat.add_zero] at *; simp only [e_X2_relist, zo_iload, zo_lload, zo_aload, zo_istore, zo_lstore, zo_astore, zo_iinc, zo_pushI, zo_pushL, zo_null, zo_ii, zo_iid, zo_ll, zo_li, zo_lcmp, zo_i2l, zo_l2i, zo_dup, zo_dup2, zo_pop, zo_goto, zo_if, zo_icmp, zo_ifnull, zo_gets, zo_mm, zo_throw, zo_ret, zo_aret, zo_lret, q_iret_f, q_iret_1, q_iret_0, q_iret_b, q_c8_0, q_c8_1, q_c8_2, q_c8_3, q_c8_4, q_set_0, q_set_1i, q_set_1r, q_set_1n, q_set_1N, q_set_s, q_set_1j, q_bk_v, q_bk_n, q_if, zb_ite, cond_true, cond_false, List.getElem?_cons_zero, List.getElem?_cons_succ, Nat.reduceAdd, a1, a2, if_true, if_false, zb_eq0, zb_eq1, zn_1, not_true_eq_false, not_false_eq_true, ite_true, ite_false, if_true, if_false, q_iret_0, q_iret_1, decide_true, decide_false, decide_not, zb_t, zb_f, z10, z01, cond_true, cond_false, Bool.and_true, Bool.true_and, Bool.and_false, Bool.false_and, Bool.not_true, Bool.not_false, true_and, and_true, false_and, and_false, true_or, or_true, false_or, or_false, Bool.true_eq_false, Bool.false_eq_true, eq_self, reduceCtorEq]))
/-- what keys that come leave -/
theorem QO_inv {A : zzMd} (W : zIC A) {c : Nat} (hc : c < 8) (x w : Int32) : zIC (aQO A c x w) ∧ zSame c A (aQO A c x w) := by
  rcases zc8 hc with rfl | rfl | rfl | rfl | rfl | rfl | rfl | rfl
  · show zIC (aQ0 A x w) ∧ zSame 0 A (aQ0 A x w)
    unfold aQ0
    cases decide (rd A 3 x 23 = 2 ∧ rd A 3 w 23 = 1) <;> cases decide (rd A 3 x 23 = 1)
    · exact ⟨W, zSame_refl _ _⟩
    · exact ⟨zIC_Enq hc _ W, zSame_Enq _ _ _⟩
    · exact ⟨zIC_Enq hc _ W, zSame_Enq _ _ _⟩
    · exact ⟨zIC_Enq hc _ (zIC_Enq hc _ W), zSame_trans (zSame_Enq _ _ _) (zSame_Enq _ _ _)⟩
  · show zIC (aQ1 A 1 x w) ∧ zSame 1 A (aQ1 A 1 x w)
    unfold aQ1
    cases decide (rd A (3 + 1) x 23 = 2 ∧ rd A (3 + 1) w 23 = A.1 (3 + 1) 5)
    · exact ⟨W, zSame_refl _ _⟩
    · exact ⟨zIC_Enq hc _ W, zSame_Enq _ _ _⟩
  · show zIC (aQ1 A 2 x w) ∧ zSame 2 A (aQ1 A 2 x w)
    unfold aQ1
    cases decide (rd A (3 + 2) x 23 = 2 ∧ rd A (3 + 2) w 23 = A.1 (3 + 2) 5)
    · exact ⟨W, zSame_refl _ _⟩
    · exact ⟨zIC_Enq hc _ W, zSame_Enq _ _ _⟩
  · show zIC (aQ3 A x) ∧ zSame 3 A (aQ3 A x)
    unfold aQ3
    cases decide (rd A 6 x 23 = 4)
    · exact ⟨W, zSame_refl _ _⟩
    · exact eqs_inv hc W _
  · show zIC (aQ4 A x) ∧ zSame 4 A (aQ4 A x)
    unfold aQ4
    cases decide (rd A 7 x 23 = 4)
    · exact ⟨W, zSame_refl _ _⟩
    · exact eqs_inv hc W _
  · show zIC (aQ5 A x w) ∧ zSame 5 A (aQ5 A x w)
    unfold aQ5
    obtain ⟨h1, h2⟩ := eqs_inv (P := fun D i => decide (rd D 8 (zn i) 24 = x)) hc (zIC_Enq hc w W) (nv A 8)
    exact ⟨h1, zSame_trans (zSame_Enq _ _ _) h2⟩
  · show zIC (aQ6 A x) ∧ zSame 6 A (aQ6 A x)
    unfold aQ6
    cases decide (rd A 9 x 23 = 2)
    · exact ⟨W, zSame_refl _ _⟩
    · exact eqs_inv hc W _
  · exact ⟨W, zSame_refl _ _⟩
/-- the next event comes to a controller -/
noncomputable def aOwn (B : zzMd) (c : Nat) (x : Int32) : zzMd := bif ownKey B c x then aEnq B c x else B
noncomputable def aNext (A : zzMd) (c o : Nat) : zzMd :=
  aQO (aOwn (tkIn A (3 + c) o (ve A (3 + c) + 1)) c (zn o)) c (zn o) (if rd (tkIn A (3 + c) o (ve A (3 + c) + 1)) (3 + c) (zn o) 24 = -1 then rd A (3 + c) (zn o) 24 else rd (tkIn A (3 + c) o (ve A (3 + c) + 1)) (3 + c) (zn o) 24)
theorem Own_inv {A : zzMd} (W : zIC A) {c : Nat} (hc : c < 8) (x : Int32) : zIC (aOwn A c x) ∧ zSame c A (aOwn A c x) := by
  unfold aOwn
  cases ownKey A c x
  · exact ⟨W, zSame_refl _ _⟩
  · exact ⟨zIC_Enq hc _ W, zSame_Enq _ _ _⟩
theorem sp_next1 {B : zzMd} (W : zIC B) {c : Nat} (hc : c < 8) (x w k y : Int32) :
    zz_ev tX2_lookAtNext 37 [some (.ref (3 + c)), some (.int k), some (.int x), some (.int w), some (.int y)] [.ref (3 + c)] B = zz_ev tX2_lookAtNext 49 [some (.ref (3 + c)), some (.int k), some (.int x), some (.int w), some (.int y)] [] (aOwn B c x) := by
  have ho := sp_isOwnKey W hc x
  have he := sp_enqueue W hc x
  unfold aOwn
  cases h1 : ownKey B c x
  · rw [cond_false]
    generalize hZ : zz_ev tX2_lookAtNext 49 [some (.ref (3 + c)), some (.int k), some (.int x), some (.int w), some (.int y)] [] B = Z
    rcases zc8 hc with rfl | rfl | rfl | rfl | rfl | rfl | rfl | rfl <;> (simp only [Nat.reduceAdd, Nat.reduceMul, Nat.mul_zero, Nat.add_zero] at *; simp only [e_X2_lookAtNext, zo_iload, zo_lload, zo_aload, zo_istore, zo_lstore, zo_astore, zo_iinc, zo_pushI, zo_pushL, zo_null, zo_ii, zo_iid, zo_ll, zo_li, zo_lcmp, zo_i2l, zo_l2i, zo_dup, zo_dup2, zo_pop, zo_goto, zo_if, zo_icmp, zo_ifnull, zo_gets, zo_mm, zo_throw, zo_ret, zo_aret, zo_lret, q_iret_f, q_iret_1, q_iret_0, q_iret_b, q_c8_0, q_c8_1, q_c8_2, q_c8_3, q_c8_4, q_set_0, q_set_1i, q_set_1r, q_set_1n, q_set_1N, q_set_s, q_set_1j, q_bk_v, q_bk_n, q_if, zb_ite, cond_true, cond_false, List.getElem?_cons_zero, List.getElem?_cons_succ, Nat.reduceAdd, ↓hZ, ho, h1, if_true, if_false, zb_eq0, zb_eq1, zn_1, not_true_eq_false, not_false_eq_true, ite_true, ite_false, if_true, if_false, q_iret_0, q_iret_1, decide_true, decide_false, decide_not, zb_t, zb_f, z10, z01, cond_true, cond_false, Bool.and_true, Bool.true_and, Bool.and_false, Bool.false_and, Bool.not_true, Bool.not_false, true_and, and_true, false_and, and_false, true_or, or_true, false_or, or_false, Bool.true_eq_false, Bool.false_eq_true, eq_self, reduceCtorEq])
  · rw [cond_true]
    generalize hZ : zz_ev tX2_lookAtNext 49 [some (.ref (3 + c)), some (.int k), some (.int x), some (.int w), some (.int y)] [] (aEnq B c x) = Z
    rcases zc8 hc with rfl | rfl | rfl | rfl | rfl | rfl | rfl | rfl <;> (simp only [Nat.reduceAdd, Nat.reduceMul, Nat.mul_zero, Nat.add_zero] at *; simp only [e_X2_lookAtNext, zo_iload, zo_lload, zo_aload, zo_istore, zo_lstore, zo_astore, zo_iinc, zo_pushI, zo_pushL, zo_null, zo_ii, zo_iid, zo_ll, zo_li, zo_lcmp, zo_i2l, zo_l2i, zo_dup, zo_dup2, zo_pop, zo_goto, zo_if, zo_icmp, zo_ifnull, zo_gets, zo_mm, zo_throw, zo_ret, zo_aret, zo_lret, q_iret_f, q_iret_1, q_iret_0, q_iret_b, q_c8_0, q_c8_1, q_c8_2, q_c8_3, q_c8_4, q_set_0, q_set_1i, q_set_1r, q_set_1n, q_set_1N, q_set_s, q_set_1j, q_bk_v, q_bk_n, q_if, zb_ite, cond_true, cond_false, List.getElem?_cons_zero, List.getElem?_cons_succ, Nat.reduceAdd, ↓hZ, ho, he, h1, if_true, if_false, zb_eq0, zb_eq1, zn_1, not_true_eq_false, not_false_eq_true, ite_true, ite_false, if_true, if_false, q_iret_0, q_iret_1, decide_true, decide_false, decide_not, zb_t, zb_f, z10, z01, cond_true, cond_false, Bool.and_true, Bool.true_and, Bool.and_false, Bool.false_and, Bool.not_true, Bool.not_false, true_and, and_true, false_and, and_false, true_or, or_true, false_or, or_false, Bool.true_eq_false, Bool.false_eq_true, eq_self, reduceCtorEq])
theorem sp_next2 {C : zzMd} (W : zIC C) {c : Nat} (hc : c < 8) (x w k y : Int32) :
    zz_ev tX2_lookAtNext 49 [some (.ref (3 + c)), some (.int k), some (.int x), some (.int w), some (.int y)] [] C = some (.inl none, aQO C c x (if y = -1 then w else y)) := by
  have q0 := fun w => sp_qo0 W x w
  have q1 := fun w => sp_qo1 W (Or.inl rfl) x w
  have q2 := fun w => sp_qo1 W (Or.inr rfl) x w
  have q3 := fun w => sp_qo3 W x w
  have q4 := fun w => sp_qo4 W x w
  have q5 := fun w => sp_qo5 W x w
  have q6 := fun w => sp_qo6 W x w
  have q7 := fun w => sp_qo7 C x w
  by_cases h2 : y = -1
  · rw [if_pos h2]
    subst h2
    rcases zc8 hc with rfl | rfl | rfl | rfl | rfl | rfl | rfl | rfl <;> (simp only [Nat.reduceAdd, Nat.reduceMul, Nat.mul_zero, Nat.add_zero] at *; simp only [e_X2_lookAtNext, zo_iload, zo_lload, zo_aload, zo_istore, zo_lstore, zo_astore, zo_iinc, zo_pushI, zo_pushL, zo_null, zo_ii, zo_iid, zo_ll, zo_li, zo_lcmp, zo_i2l, zo_l2i, zo_dup, zo_dup2, zo_pop, zo_goto, zo_if, zo_icmp, zo_ifnull, zo_gets, zo_mm, zo_throw, zo_ret, zo_aret, zo_lret, q_iret_f, q_iret_1, q_iret_0, q_iret_b, q_c8_0, q_c8_1, q_c8_2, q_c8_3, q_c8_4, q_set_0, q_set_1i, q_set_1r, q_set_1n, q_set_1N, q_set_s, q_set_1j, q_bk_v, q_bk_n, q_if, zb_ite, cond_true, cond_false, List.getElem?_cons_zero, List.getElem?_cons_succ, Nat.reduceAdd, q0, q1, q2, q3, q4, q5, q6, q7, aQO, if_true, if_false, zb_eq0, zb_eq1, zn_1, not_true_eq_false, not_false_eq_true, ite_true, ite_false, if_true, if_false, q_iret_0, q_iret_1, decide_true, decide_false, decide_not, zb_t, zb_f, z10, z01, cond_true, cond_false, Bool.and_true, Bool.true_and, Bool.and_false, Bool.false_and, Bool.not_true, Bool.not_false, true_and, and_true, false_and, and_false, true_or, or_true, false_or, or_false, Bool.true_eq_false, Bool.false_eq_true, eq_self, reduceCtorEq])
  · rw [if_neg h2]
    rcases zc8 hc with rfl | rfl | rfl | rfl | rfl | rfl | rfl | rfl <;> (simp only [Nat.reduceAdd, Nat.reduceMul, Nat.mul_zero, Nat.add_zero] at *; simp only [e_X2_lookAtNext, zo_iload, zo_lload, zo_aload, zo_istore, zo_lstore, zo_astore, zo_iinc, zo_pushI, zo_pushL, zo_null, zo_ii, zo_iid, zo_ll, zo_li, zo_lcmp, zo_i2l, zo_l2i, zo_dup, zo_dup2, zo_pop, zo_goto, zo_if, zo_icmp, zo_ifnull, zo_gets, zo_mm, zo_throw, zo_ret, zo_aret, zo_lret, q_iret_f, q_iret_1, q_iret_0, q_iret_b, q_c8_0, q_c8_1, q_c8_2, q_c8_3, q_c8_4, q_set_0, q_set_1i, q_set_1r, q_set_1n, q_set_1N, q_set_s, q_set_1j, q_bk_v, q_bk_n, q_if, zb_ite, cond_true, cond_false, List.getElem?_cons_zero, List.getElem?_cons_succ, Nat.reduceAdd, q0, q1, q2, q3, q4, q5, q6, q7, aQO, h2, if_true, if_false, zb_eq0, zb_eq1, zn_1, not_true_eq_false, not_false_eq_true, ite_true, ite_false, if_true, if_false, q_iret_0, q_iret_1, decide_true, decide_false, decide_not, zb_t, zb_f, z10, z01, cond_true, cond_false, Bool.and_true, Bool.true_and, Bool.and_false, Bool.false_and, Bool.not_true, Bool.not_false, true_and, and_true, false_and, and_false, true_or, or_true, false_or, or_false, Bool.true_eq_false, Bool.false_eq_true, eq_self, reduceCtorEq])
theorem sp_lookAtNext {M : zzMd} (W : zIC M) {c : Nat} (hc : c < 8) {o : Nat} (ho : o < 60) (hx : M.1 14 ((ve M (3 + c) + 1) * 32 + 22) = zn o) (h4 : ve M (3 + c) < 400) :
    fX2_lookAtNext [.ref (3 + c)] M = some (.inl none, aNext M c o) := by
  obtain ⟨⟨-, -, hv, -⟩, -⟩ := W.2.2 c hc
  have ha : fX10_objectAt [.ref (3 + c), .int (zn (ve M (3 + c) + 1))] M = some (.inl (some (.int (zn o))), M) := by
    have c1 : (zn (ve M (3 + c) + 1) < 1) = False := zn_lt (a := ve M (3 + c) + 1) (b := 1) (by omega) (by decide) ▸ eq_false (by omega)
    have c2 : ((400 : Int32) < zn (ve M (3 + c) + 1)) = False := zn_lt (a := 400) (b := ve M (3 + c) + 1) (by omega) (by omega) ▸ eq_false (by omega)
    rw [sp_objectAt (zIC_W (zcV hc) W), if_neg (fun z => z.elim c1.mp c2.mp), zn_ix (by omega), hx]
  have hr := sp_read' (zIC_W (zcV hc) W) (zn o) 24
  have ht := sp_takeIn (zIC_W (zcV hc) W) ho (show 1 ≤ ve M (3 + c) + 1 by omega) (show ve M (3 + c) + 1 ≤ 400 by omega)
  have W2 : zIC (tkIn M (3 + c) o (ve M (3 + c) + 1)) := zIC_tk hc ho (by omega) W
  have hr2 := sp_read' (zIC_W (zcV hc) W2) (zn o) 24
  have st : fX2_lookAtNext [.ref (3 + c)] M = zz_ev tX2_lookAtNext 37 [some (.ref (3 + c)), some (.int (zn (ve M (3 + c) + 1))), some (.int (zn o)), some (.int (rd M (3 + c) (zn o) 24)), some (.int (rd (tkIn M (3 + c) o (ve M (3 + c) + 1)) (3 + c) (zn o) 24))] [.ref (3 + c)] (tkIn M (3 + c) o (ve M (3 + c) + 1)) := by
    rw [s_X2_lookAtNext]
    generalize tkIn M (3 + c) o (ve M (3 + c) + 1) = B at ht hr2 ⊢
    generalize rd B (3 + c) (zn o) 24 = y at hr2 ⊢
    generalize hZ : zz_ev tX2_lookAtNext 37 [some (.ref (3 + c)), some (.int (zn (ve M (3 + c) + 1))), some (.int (zn o)), some (.int (rd M (3 + c) (zn o) 24)), some (.int y)] [.ref (3 + c)] B = Z
    clear W W2 hx h4
    rcases zc8 hc with rfl | rfl | rfl | rfl | rfl | rfl | rfl | rfl <;> (simp only [Nat.reduceAdd, Nat.reduceMul, Nat.mul_zero, Nat.add_zero] at *; simp only [e_X2_lookAtNext, zo_iload, zo_lload, zo_aload, zo_istore, zo_lstore, zo_astore, zo_iinc, zo_pushI, zo_pushL, zo_null, zo_ii, zo_iid, zo_ll, zo_li, zo_lcmp, zo_i2l, zo_l2i, zo_dup, zo_dup2, zo_pop, zo_goto, zo_if, zo_icmp, zo_ifnull, zo_gets, zo_mm, zo_throw, zo_ret, zo_aret, zo_lret, q_iret_f, q_iret_1, q_iret_0, q_iret_b, q_c8_0, q_c8_1, q_c8_2, q_c8_3, q_c8_4, q_set_0, q_set_1i, q_set_1r, q_set_1n, q_set_1N, q_set_s, q_set_1j, q_bk_v, q_bk_n, q_if, zb_ite, cond_true, cond_false, List.getElem?_cons_zero, List.getElem?_cons_succ, Nat.reduceAdd, ↓hZ, hv, ha, hr, ht, hr2, if_true, if_false, zb_eq0, zb_eq1, zn_1, not_true_eq_false, not_false_eq_true, ite_true, ite_false, if_true, if_false, q_iret_0, q_iret_1, decide_true, decide_false, decide_not, zb_t, zb_f, z10, z01, cond_true, cond_false, Bool.and_true, Bool.true_and, Bool.and_false, Bool.false_and, Bool.not_true, Bool.not_false, true_and, and_true, false_and, and_false, true_or, or_true, false_or, or_false, Bool.true_eq_false, Bool.false_eq_true, eq_self, reduceCtorEq])
  rw [st, sp_next1 W2 hc, sp_next2 (Own_inv W2 hc _).1 hc]
  rfl
/-- a number of events come -/
def obj (A : zzMd) (k : Nat) : Nat := zz_ix (A.1 14 (k * 32 + 22))
def zLg (A : zzMd) : Prop := ∀ k, 1 ≤ k → k ≤ ve A 1 → A.1 14 (k * 32 + 22) = zn (obj A k) ∧ obj A k < 60
noncomputable def aNexts (A : zzMd) (c n : Nat) : zzMd := zfold n (fun _ B => aNext B c (obj B (ve B (3 + c) + 1))) A
theorem aNexts_s (A : zzMd) (c n : Nat) : aNexts A c (n + 1) = aNext (aNexts A c n) c (obj (aNexts A c n) (ve (aNexts A c n) (3 + c) + 1)) := rfl
theorem zSee_Next {A : zzMd} (W : zIC A) {c o : Nat} (hc : c < 8) (ho : o < 60) (h4 : ve A (3 + c) < 400) : zIC (aNext A c o) ∧ zSee c A (aNext A c o) ∧ ve (aNext A c o) (3 + c) = ve A (3 + c) + 1 := by
  unfold aNext
  have W2 : zIC (tkIn A (3 + c) o (ve A (3 + c) + 1)) := zIC_tk hc ho (by omega) W
  obtain ⟨a1, a2⟩ := Own_inv W2 hc (zn o)
  obtain ⟨b1, b2⟩ := QO_inv a1 hc (zn o) (if rd (tkIn A (3 + c) o (ve A (3 + c) + 1)) (3 + c) (zn o) 24 = -1 then rd A (3 + c) (zn o) 24 else rd (tkIn A (3 + c) o (ve A (3 + c) + 1)) (3 + c) (zn o) 24)
  refine ⟨b1, zSee_trans (zSee_trans (zSee_tk c hc A o _) (zSee_S a2)) (zSee_S b2), ?_⟩
  have e := ((zSame_trans a2 b2) (3 + c) 3 (Or.inr (by decide)) (by omega) (by omega)).trans (tk_1.trans (if_pos ⟨rfl, rfl⟩))
  exact (congrArg zz_ix e).trans (zn_ix (by omega))
theorem See_1 {c : Nat} {A B : zzMd} (hc : c < 8) (h : zSee c A B) (a b : Nat) (ha : a ≤ 2 ∨ 11 ≤ a ∧ a ≤ 20) : B.1 a b = A.1 a b := h a b (Or.inl (by omega)) (by omega) (by omega) (by omega)
theorem ve_See {c : Nat} {A B : zzMd} (hc : c < 8) (h : zSee c A B) : ve B 1 = ve A 1 := by unfold ve; rw [See_1 hc h 1 3 (Or.inl (by omega))]
theorem obj_See {c : Nat} {A B : zzMd} (hc : c < 8) (h : zSee c A B) (k : Nat) : obj B k = obj A k := by unfold obj; rw [See_1 hc h 14 _ (Or.inr (by omega))]
theorem zLg_See {c : Nat} {A B : zzMd} (hc : c < 8) (h : zSee c A B) (hL : zLg A) : zLg B := fun k h1 h2 => by
  rw [See_1 hc h 14 _ (Or.inr (by omega)), obj_See hc h]
  rw [ve_See hc h] at h2
  exact hL k h1 h2
theorem Nexts_inv {A : zzMd} (W : zIC A) (hL : zLg A) {c : Nat} (hc : c < 8) : ∀ n, n ≤ ve A 1 - ve A (3 + c) → zIC (aNexts A c n) ∧ zSee c A (aNexts A c n) ∧ ve (aNexts A c n) (3 + c) = ve A (3 + c) + n
  | 0, _ => ⟨W, zSee_refl c A, rfl⟩
  | n + 1, hn => by
    obtain ⟨h1, h2, h3⟩ := Nexts_inv W hL hc n (by omega)
    have h5 := W.1.2.2.2
    obtain ⟨-, g2⟩ := zLg_See hc h2 hL (ve (aNexts A c n) (3 + c) + 1) (by omega) (by rw [ve_See hc h2]; omega)
    obtain ⟨b1, b2, b3⟩ := zSee_Next h1 hc g2 (by omega)
    rw [aNexts_s]
    exact ⟨b1, zSee_trans h2 b2, b3.trans (congrArg (· + 1) h3)⟩
theorem sp_lookLoop {M : zzMd} (W : zIC M) (hL : zLg M) {c : Nat} (hc : c < 8) {m : Nat} (hm : m ≤ 400) (z : Int32) :
    zz_ev tX2_look 32 [some (.ref (3 + c)), some (.int (zn m)), some (.int z), some (.int (zn 0))] [] M = some (.inl (some (.int ((aNexts M c (min m (ve M 1 - ve M (3 + c)))).1 (3 + c) 11 - z))), aNexts M c (min m (ve M 1 - ve M (3 + c)))) := by
  have h5 := W.1.2.2.2
  have lp := zl_go (E := fun i => zz_ev tX2_look 32 [some (.ref (3 + c)), some (.int (zn m)), some (.int z), some (.int (zn i))] [] (aNexts M c i)) (min m (ve M 1 - ve M (3 + c))) (fun i hi => by
    obtain ⟨h1, h2, h3⟩ := Nexts_inv W hL hc i (by omega)
    rw [aNexts_s]
    obtain ⟨g1, g2⟩ := zLg_See hc h2 hL (ve (aNexts M c i) (3 + c) + 1) (by omega) (by rw [ve_See hc h2]; omega)
    have hn := sp_lookAtNext h1 hc g2 g1 (by omega)
    have v1 := h1.1.2.2.1
    have v2 := (h1.2.2 c hc).1.2.2.1
    rw [ve_See hc h2] at v1
    rw [h3] at v2
    have c1 : (zn m ≤ zn i) = False := zn_le (a := m) (b := i) (by omega) (by omega) ▸ eq_false (by omega)
    have c2 : (zn (ve M 1) ≤ zn (ve M (3 + c) + i)) = False := zn_le (a := ve M 1) (b := ve M (3 + c) + i) (by omega) (by omega) ▸ eq_false (by omega)
    generalize aNext (aNexts M c i) c (obj (aNexts M c i) (ve (aNexts M c i) (3 + c) + 1)) = C at hn ⊢
    generalize aNexts M c i = B at hn v1 v2 ⊢
    clear h1 h2 h3 g1 g2 W hL hi h5
    rcases zc8 hc with rfl | rfl | rfl | rfl | rfl | rfl | rfl | rfl <;> (rw [e_X2_look_32]; (simp only [Nat.reduceAdd, Nat.reduceMul, Nat.mul_zero, Nat.add_zero] at *; simp only [e_X2_look, zo_iload, zo_lload, zo_aload, zo_istore, zo_lstore, zo_astore, zo_iinc, zo_pushI, zo_pushL, zo_null, zo_ii, zo_iid, zo_ll, zo_li, zo_lcmp, zo_i2l, zo_l2i, zo_dup, zo_dup2, zo_pop, zo_goto, zo_if, zo_icmp, zo_ifnull, zo_gets, zo_mm, zo_throw, zo_ret, zo_aret, zo_lret, q_iret_f, q_iret_1, q_iret_0, q_iret_b, q_c8_0, q_c8_1, q_c8_2, q_c8_3, q_c8_4, q_set_0, q_set_1i, q_set_1r, q_set_1n, q_set_1N, q_set_s, q_set_1j, q_bk_v, q_bk_n, q_if, zb_ite, cond_true, cond_false, List.getElem?_cons_zero, List.getElem?_cons_succ, Nat.reduceAdd, v1, v2, c1, c2, hn, if_true, if_false, zb_eq0, zb_eq1, zn_1, not_true_eq_false, not_false_eq_true, ite_true, ite_false, if_true, if_false, q_iret_0, q_iret_1, decide_true, decide_false, decide_not, zb_t, zb_f, z10, z01, cond_true, cond_false, Bool.and_true, Bool.true_and, Bool.and_false, Bool.false_and, Bool.not_true, Bool.not_false, true_and, and_true, false_and, and_false, true_or, or_true, false_or, or_false, Bool.true_eq_false, Bool.false_eq_true, eq_self, reduceCtorEq])))
  refine (show _ = _ from lp).trans ?_
  obtain ⟨h1, h2, h3⟩ := Nexts_inv W hL hc (min m (ve M 1 - ve M (3 + c))) (by omega)
  have v1 := h1.1.2.2.1
  have v2 := (h1.2.2 c hc).1.2.2.1
  rw [ve_See hc h2] at v1
  rw [h3] at v2
  generalize aNexts M c (min m (ve M 1 - ve M (3 + c))) = B at v1 v2 ⊢
  by_cases c1 : m ≤ min m (ve M 1 - ve M (3 + c))
  · have c1' : (zn m ≤ zn (min m (ve M 1 - ve M (3 + c)))) = True := zn_le (a := m) (b := min m (ve M 1 - ve M (3 + c))) (by omega) (by omega) ▸ eq_true c1
    generalize min m (ve M 1 - ve M (3 + c)) = i at c1' ⊢
    clear h1 h2 h3 W hL c1 lp
    rcases zc8 hc with rfl | rfl | rfl | rfl | rfl | rfl | rfl | rfl <;> (rw [e_X2_look_32]; (simp only [Nat.reduceAdd, Nat.reduceMul, Nat.mul_zero, Nat.add_zero] at *; simp only [e_X2_look, zo_iload, zo_lload, zo_aload, zo_istore, zo_lstore, zo_astore, zo_iinc, zo_pushI, zo_pushL, zo_null, zo_ii, zo_iid, zo_ll, zo_li, zo_lcmp, zo_i2l, zo_l2i, zo_dup, zo_dup2, zo_pop, zo_goto, zo_if, zo_icmp, zo_ifnull, zo_gets, zo_mm, zo_throw, zo_ret, zo_aret, zo_lret, q_iret_f, q_iret_1, q_iret_0, q_iret_b, q_c8_0, q_c8_1, q_c8_2, q_c8_3, q_c8_4, q_set_0, q_set_1i, q_set_1r, q_set_1n, q_set_1N, q_set_s, q_set_1j, q_bk_v, q_bk_n, q_if, zb_ite, cond_true, cond_false, List.getElem?_cons_zero, List.getElem?_cons_succ, Nat.reduceAdd, c1', if_true, if_false, zb_eq0, zb_eq1, zn_1, not_true_eq_false, not_false_eq_true, ite_true, ite_false, if_true, if_false, q_iret_0, q_iret_1, decide_true, decide_false, decide_not, zb_t, zb_f, z10, z01, cond_true, cond_false, Bool.and_true, Bool.true_and, Bool.and_false, Bool.false_and, Bool.not_true, Bool.not_false, true_and, and_true, false_and, and_false, true_or, or_true, false_or, or_false, Bool.true_eq_false, Bool.false_eq_true, eq_self, reduceCtorEq]))
  · have c1' : (zn m ≤ zn (min m (ve M 1 - ve M (3 + c)))) = False := zn_le (a := m) (b := min m (ve M 1 - ve M (3 + c))) (by omega) (by omega) ▸ eq_false c1
    have v3 := (W.2.2 c hc).1.2.2.2
    have c2 : (zn (ve M 1) ≤ zn (ve M (3 + c) + min m (ve M 1 - ve M (3 + c)))) = True := zn_le (a := ve M 1) (b := ve M (3 + c) + min m (ve M 1 - ve M (3 + c))) (by omega) (by omega) ▸ eq_true (by omega)
    generalize min m (ve M 1 - ve M (3 + c)) = i at c1' c2 v2 ⊢
    clear h1 h2 h3 W hL c1 lp v3
    rcases zc8 hc with rfl | rfl | rfl | rfl | rfl | rfl | rfl | rfl <;> (rw [e_X2_look_32]; (simp only [Nat.reduceAdd, Nat.reduceMul, Nat.mul_zero, Nat.add_zero] at *; simp only [e_X2_look, zo_iload, zo_lload, zo_aload, zo_istore, zo_lstore, zo_astore, zo_iinc, zo_pushI, zo_pushL, zo_null, zo_ii, zo_iid, zo_ll, zo_li, zo_lcmp, zo_i2l, zo_l2i, zo_dup, zo_dup2, zo_pop, zo_goto, zo_if, zo_icmp, zo_ifnull, zo_gets, zo_mm, zo_throw, zo_ret, zo_aret, zo_lret, q_iret_f, q_iret_1, q_iret_0, q_iret_b, q_c8_0, q_c8_1, q_c8_2, q_c8_3, q_c8_4, q_set_0, q_set_1i, q_set_1r, q_set_1n, q_set_1N, q_set_s, q_set_1j, q_bk_v, q_bk_n, q_if, zb_ite, cond_true, cond_false, List.getElem?_cons_zero, List.getElem?_cons_succ, Nat.reduceAdd, c1', v1, v2, c2, if_true, if_false, zb_eq0, zb_eq1, zn_1, not_true_eq_false, not_false_eq_true, ite_true, ite_false, if_true, if_false, q_iret_0, q_iret_1, decide_true, decide_false, decide_not, zb_t, zb_f, z10, z01, cond_true, cond_false, Bool.and_true, Bool.true_and, Bool.and_false, Bool.false_and, Bool.not_true, Bool.not_false, true_and, and_true, false_and, and_false, true_or, or_true, false_or, or_false, Bool.true_eq_false, Bool.false_eq_true, eq_self, reduceCtorEq]))
noncomputable def aLook (A : zzMd) (c m : Nat) : zzMd := bif decide (A.1 (3 + c) 3 < A.1 1 8) then aRel A c else aNexts A c (min m (ve A 1 - ve A (3 + c)))
theorem sp_look {M : zzMd} (W : zIC M) (hL : zLg M) {c : Nat} (hc : c < 8) {m : Nat} (hm : m ≤ 400) :
    fX2_look [.ref (3 + c), .int (zn m)] M = some (.inl (some (.int ((aLook M c m).1 (3 + c) 11 - M.1 (3 + c) 11))), aLook M c m) := by
  have hr := sp_relist W hc
  unfold aLook
  by_cases h : M.1 (3 + c) 3 < M.1 1 8
  · rw [decide_eq_true h, cond_true, s_X2_look]
    have h2 : ¬ M.1 1 8 ≤ M.1 (3 + c) 3 := Int32.not_le.mpr h
    generalize aRel M c = B at hr ⊢
    clear W hL
    rcases zc8 hc with rfl | rfl | rfl | rfl | rfl | rfl | rfl | rfl <;> (simp only [Nat.reduceAdd, Nat.reduceMul, Nat.mul_zero, Nat.add_zero] at *; simp only [e_X2_look, zo_iload, zo_lload, zo_aload, zo_istore, zo_lstore, zo_astore, zo_iinc, zo_pushI, zo_pushL, zo_null, zo_ii, zo_iid, zo_ll, zo_li, zo_lcmp, zo_i2l, zo_l2i, zo_dup, zo_dup2, zo_pop, zo_goto, zo_if, zo_icmp, zo_ifnull, zo_gets, zo_mm, zo_throw, zo_ret, zo_aret, zo_lret, q_iret_f, q_iret_1, q_iret_0, q_iret_b, q_c8_0, q_c8_1, q_c8_2, q_c8_3, q_c8_4, q_set_0, q_set_1i, q_set_1r, q_set_1n, q_set_1N, q_set_s, q_set_1j, q_bk_v, q_bk_n, q_if, zb_ite, cond_true, cond_false, List.getElem?_cons_zero, List.getElem?_cons_succ, Nat.reduceAdd, hr, h2, if_true, if_false, zb_eq0, zb_eq1, zn_1, not_true_eq_false, not_false_eq_true, ite_true, ite_false, if_true, if_false, q_iret_0, q_iret_1, decide_true, decide_false, decide_not, zb_t, zb_f, z10, z01, cond_true, cond_false, Bool.and_true, Bool.true_and, Bool.and_false, Bool.false_and, Bool.not_true, Bool.not_false, true_and, and_true, false_and, and_false, true_or, or_true, false_or, or_false, Bool.true_eq_false, Bool.false_eq_true, eq_self, reduceCtorEq])
  · have h2 : M.1 1 8 ≤ M.1 (3 + c) 3 := Int32.not_lt.mp h
    rw [decide_eq_false h, cond_false, ← sp_lookLoop W hL hc hm, s_X2_look]
    have z0 : (0 : Int32) = zn 0 := rfl
    generalize hZ : zz_ev tX2_look 32 [some (.ref (3 + c)), some (.int (zn m)), some (.int (M.1 (3 + c) 11)), some (.int (zn 0))] [] M = Z
    rw [← z0] at hZ
    clear W hL hr
    rcases zc8 hc with rfl | rfl | rfl | rfl | rfl | rfl | rfl | rfl <;> (simp only [Nat.reduceAdd, Nat.reduceMul, Nat.mul_zero, Nat.add_zero] at *; simp only [e_X2_look, zo_iload, zo_lload, zo_aload, zo_istore, zo_lstore, zo_astore, zo_iinc, zo_pushI, zo_pushL, zo_null, zo_ii, zo_iid, zo_ll, zo_li, zo_lcmp, zo_i2l, zo_l2i, zo_dup, zo_dup2, zo_pop, zo_goto, zo_if, zo_icmp, zo_ifnull, zo_gets, zo_mm, zo_throw, zo_ret, zo_aret, zo_lret, q_iret_f, q_iret_1, q_iret_0, q_iret_b, q_c8_0, q_c8_1, q_c8_2, q_c8_3, q_c8_4, q_set_0, q_set_1i, q_set_1r, q_set_1n, q_set_1N, q_set_s, q_set_1j, q_bk_v, q_bk_n, q_if, zb_ite, cond_true, cond_false, List.getElem?_cons_zero, List.getElem?_cons_succ, Nat.reduceAdd, ↓hZ, h2, if_true, if_false, zb_eq0, zb_eq1, zn_1, not_true_eq_false, not_false_eq_true, ite_true, ite_false, if_true, if_false, q_iret_0, q_iret_1, decide_true, decide_false, decide_not, zb_t, zb_f, z10, z01, cond_true, cond_false, Bool.and_true, Bool.true_and, Bool.and_false, Bool.false_and, Bool.not_true, Bool.not_false, true_and, and_true, false_and, and_false, true_or, or_true, false_or, or_false, Bool.true_eq_false, Bool.false_eq_true, eq_self, reduceCtorEq])
theorem sp_lookAtAll {M : zzMd} (W : zIC M) (hL : zLg M) {c : Nat} (hc : c < 8) :
    fX2_lookAtAll [.ref (3 + c)] M = some (.inl (some (.int ((aLook M c 400).1 (3 + c) 11))), aLook M c 400) := by
  have h := sp_look W hL hc (m := 400) (Nat.le_refl _)
  rw [show zn 400 = 400 from rfl] at h
  rw [s_X2_lookAtAll]
  generalize aLook M c 400 = B at h ⊢
  clear W hL
  rcases zc8 hc with rfl | rfl | rfl | rfl | rfl | rfl | rfl | rfl <;> (simp only [Nat.reduceAdd, Nat.reduceMul, Nat.mul_zero, Nat.add_zero] at *; simp only [e_X2_lookAtAll, zo_iload, zo_lload, zo_aload, zo_istore, zo_lstore, zo_astore, zo_iinc, zo_pushI, zo_pushL, zo_null, zo_ii, zo_iid, zo_ll, zo_li, zo_lcmp, zo_i2l, zo_l2i, zo_dup, zo_dup2, zo_pop, zo_goto, zo_if, zo_icmp, zo_ifnull, zo_gets, zo_mm, zo_throw, zo_ret, zo_aret, zo_lret, q_iret_f, q_iret_1, q_iret_0, q_iret_b, q_c8_0, q_c8_1, q_c8_2, q_c8_3, q_c8_4, q_set_0, q_set_1i, q_set_1r, q_set_1n, q_set_1N, q_set_s, q_set_1j, q_bk_v, q_bk_n, q_if, zb_ite, cond_true, cond_false, List.getElem?_cons_zero, List.getElem?_cons_succ, Nat.reduceAdd, h, if_true, if_false, zb_eq0, zb_eq1, zn_1, not_true_eq_false, not_false_eq_true, ite_true, ite_false, if_true, if_false, q_iret_0, q_iret_1, decide_true, decide_false, decide_not, zb_t, zb_f, z10, z01, cond_true, cond_false, Bool.and_true, Bool.true_and, Bool.and_false, Bool.false_and, Bool.not_true, Bool.not_false, true_and, and_true, false_and, and_false, true_or, or_true, false_or, or_false, Bool.true_eq_false, Bool.false_eq_true, eq_self, reduceCtorEq])
theorem Rel_inv {A : zzMd} (W : zIC A) {c : Nat} (hc : c < 8) : zIC (aRel A c) ∧ zSee c A (aRel A c) := by
  unfold aRel
  obtain ⟨h1, h2⟩ := eqs_inv (P := relP c) hc (zIC_TA hc W) (nv (aTA A c) (3 + c))
  exact ⟨h1, zSee_trans (zSee_TA A c) (zSee_S h2)⟩
theorem Look_inv {A : zzMd} (W : zIC A) (hL : zLg A) {c : Nat} (hc : c < 8) (m : Nat) : zIC (aLook A c m) ∧ zSee c A (aLook A c m) := by
  unfold aLook
  cases decide (A.1 (3 + c) 3 < A.1 1 8)
  · obtain ⟨h1, h2, -⟩ := Nexts_inv W hL hc (min m (ve A 1 - ve A (3 + c))) (by omega)
    exact ⟨h1, h2⟩
  · exact Rel_inv W hc
end

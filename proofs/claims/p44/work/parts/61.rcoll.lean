section
/-! COLLECTOR, in both -/
section
variable {A B R S : zzMd} {c o : Nat}
/-! a write does not touch what a controller keeps beside the store -/
theorem sI_com {M : zzMd} {i k j l : Nat} {x y : Int32} (h : i ≠ j) : zz_sI (zz_sI M i k x) j l y = zz_sI (zz_sI M j l y) i k x := by
  refine Prod.ext (funext fun a => funext fun b => ?_) rfl
  rw [sI_1, sI_1, sI_1, sI_1]
  by_cases q : a = j ∧ b = l
  · rw [if_pos q, if_neg (fun z => h (z.1.symm.trans q.1)), if_pos q]
  · rw [if_neg q, if_neg q]
theorem row_sI {a k i : Nat} {x : Int32} (h : 26 ≤ a) : row (zz_sI A a k x) i = row A i := by
  funext s
  unfold row lv
  rw [sI_a (show (15 : Nat) ≠ a by omega), sI_a (show (14 : Nat) ≠ a by omega)]
theorem ve_sI {a k v : Nat} {x : Int32} (h : v ≠ a) : ve (zz_sI A a k x) v = ve A v := congrArg zz_ix (sI_a h)
theorem nv_sI {a k v : Nat} {x : Int32} (h : v ≠ a) : nv (zz_sI A a k x) v = nv A v := congrArg zz_ix (sI_a h)
theorem logSet_sI {a k e : Nat} {x : Int32} {D : Nat → Int32} (h : 26 ≤ a) : logSet (zz_sI A a k x) e D = zz_sI (logSet A e D) a k x := by
  refine Prod.ext (funext fun p => funext fun q => ?_) rfl
  rw [sI_1]
  show (if p = 14 ∧ e * 32 ≤ q ∧ q < e * 32 + 32 then D (q - e * 32) else (zz_sI A a k x).1 p q) = if p = a ∧ q = k then x else if p = 14 ∧ e * 32 ≤ q ∧ q < e * 32 + 32 then D (q - e * 32) else A.1 p q
  rw [sI_1]
  by_cases z : p = a ∧ q = k
  · rw [if_pos z, if_neg (by omega), if_pos z]
  · rw [if_neg z, if_neg z]
theorem put_sI {a k i : Nat} {x : Int32} {D : Nat → Int32} (h : 26 ≤ a) : put (zz_sI A a k x) i D = zz_sI (put A i D) a k x := by
  unfold put tkIn
  rw [ve_sI (by omega), logSet_sI h, nv_sI (by omega), sI_com (show a ≠ 1 by omega).symm, sI_com (show a ≠ 1 by omega).symm, sI_com (show a ≠ latA 1 from fun z => absurd (show latA 1 = 15 from rfl) (by omega)).symm]
theorem aWr_sI {a k i : Nat} {x : Int32} {D : Nat → Int32} (h : 26 ≤ a) : aWr (zz_sI A a k x) i D = ((aWr A i D).1, zz_sI (aWr A i D).2 a k x) := by
  unfold aWr
  rw [row_sI h, ve_sI (by omega), put_sI h]
  cases zall 32 fun s => decide (dOw D s = row A i s)
  · cases decide (400 ≤ ve A 1) <;> rfl
  · rfl
theorem utd_sI {a k i : Nat} {x : Int32} (h : 26 ≤ a) (h2 : 21 + 6 * c ≠ a) : utd (zz_sI A a k x) c i = utd A c i := by
  unfold utd
  rw [sI_a h2, sI_a (show (15 : Nat) ≠ a by omega)]
theorem rd_sI {a k v : Nat} {x y s : Int32} (h : 26 ≤ a) (h2 : latA v ≠ a) : rd (zz_sI A a k x) v y s = rd A v y s := by
  unfold rd
  rw [sI_a h2, sI_a (show (14 : Nat) ≠ a by omega)]
theorem aSet_sI {j i f : Nat} {x y : Int32} (hc : c < 8) : aSet (zz_sI A (26 + 6 * c) j x) c i f y = ((aSet A c i f y).1, zz_sI (aSet A c i f y).2 (26 + 6 * c) j x) := by
  unfold aSet aCh
  rw [rd_sI (by omega) (by rw [zcL hc]; omega), utd_sI (by omega) (by omega), row_sI (by omega), aWr_sI (by omega)]
  cases decide (rd A (3 + c) (zn i) (zn f) = y)
  · cases utd A c i <;> rfl
  · rfl
theorem aRem_sI {j i : Nat} {x : Int32} : aRem (zz_sI A (26 + 6 * c) j x) c i = ((aRem A c i).1, zz_sI (aRem A c i).2 (26 + 6 * c) j x) := by
  unfold aRem aGo kept
  rw [utd_sI (by omega) (by omega), row_sI (by omega), rd_sI (by omega) (show latA 1 ≠ 26 + 6 * c from fun z => absurd (show latA 1 = 15 from rfl) (by omega)), rd_sI (by omega) (show latA 1 ≠ 26 + 6 * c from fun z => absurd (show latA 1 = 15 from rfl) (by omega)), aWr_sI (by omega)]
  cases utd A c i <;> rfl
theorem wrtn_13 {v : Int32} : (wrtn v c o B).1 1 3 = B.1 1 3 := by
  unfold wrtn
  cases decide (B.1 1 3 ≤ v)
  · exact sI_a (by omega)
  · rfl
theorem wrtn_c {v : Int32} {a b : Nat} (h : a ≠ 26 + 6 * c) : (wrtn v c o B).1 a b = B.1 a b := by
  unfold wrtn
  cases decide (B.1 1 3 ≤ v)
  · exact sI_a h
  · rfl
theorem sI_sI {M : zzMd} {i k : Nat} {x y : Int32} : zz_sI (zz_sI M i k x) i k y = zz_sI M i k y := by
  refine Prod.ext (funext fun a => funext fun b => ?_) rfl
  rw [sI_1, sI_1, sI_1]
  by_cases q : a = i ∧ b = k
  · rw [if_pos q, if_pos q]
  · rw [if_neg q, if_neg q, if_neg q]
theorem act_step {v : Int32} {r : Option zzRt} {act : zzMd → Bool × zzMd} (hc : ∀ M x, act (zz_sI M (26 + 6 * c) o x) = ((act M).1, zz_sI (act M).2 (26 + 6 * c) o x)) (hv : v ≤ B.1 1 3) (hm : B.1 1 3 ≤ (act B).2.1 1 3) (H : actTo (wrtn v c o B) (act (wrtn v c o B)) c o S r) :
    ∃ S', r = some (.inl (some (.int (zb (act B).1))), S') ∧ rKy (wrtn v c o (act B).2) S' c o ∧ ∀ k, S'.1 37 k = S.1 37 k := by
  obtain ⟨S', h1, h2, h3⟩ := H
  rw [wrtn_13] at h2
  by_cases d : B.1 1 3 ≤ v
  · have e : v = B.1 1 3 := Int32.le_antisymm hv d
    have ew : wrtn v c o B = B := by unfold wrtn; rw [decide_eq_true d]; rfl
    rw [ew] at h1 h2
    rw [e]
    exact ⟨S', h1, h2, h3⟩
  · have ew : wrtn v c o B = zz_sI B (26 + 6 * c) o (B.1 1 3) := by unfold wrtn; rw [decide_eq_false d]; rfl
    rw [ew, hc] at h1 h2
    refine ⟨S', h1, ?_, h3⟩
    have e2 : wrtn v c o (act B).2 = zz_sI (act B).2 (26 + 6 * c) o ((act B).2.1 1 3) := by
      unfold wrtn
      rw [decide_eq_false fun z => d (Int32.le_trans hm z)]
      rfl
    rw [e2]
    have e3 : wrtn (B.1 1 3) c o (zz_sI (act B).2 (26 + 6 * c) o (B.1 1 3)) = zz_sI (act B).2 (26 + 6 * c) o ((act B).2.1 1 3) := by
      have e13 : (zz_sI (act B).2 (26 + 6 * c) o (B.1 1 3)).1 1 3 = (act B).2.1 1 3 := sI_a (by omega)
      unfold wrtn
      rw [e13]
      by_cases q : (act B).2.1 1 3 ≤ B.1 1 3
      · rw [decide_eq_true q, cond_true, Int32.le_antisymm q hm]
      · rw [decide_eq_false q, cond_false, sI_sI]
    rw [← e3]
    exact h2
theorem acts_ext {act : Nat → zzMd → Bool × zzMd} {m : Nat} : ∀ {n : Nat}, m ≤ n → (∀ i M, m ≤ i → i < n → act i M = (true, M)) → acts act n A = acts act m A
  | 0, h, _ => by rw [Nat.le_zero.mp h]
  | n + 1, h, hP => by
    rcases Nat.lt_or_eq_of_le h with h1 | h1
    · have ih := acts_ext (n := n) (Nat.le_of_lt_succ h1) fun i M a b => hP i M a (Nat.lt_succ_of_lt b)
      rw [acts_s, ih, hP n _ (Nat.le_of_lt_succ h1) (Nat.lt_succ_self n)]
      cases e : (acts act m A).1
      · rfl
      · exact Prod.ext e.symm rfl
    · rw [h1]
/-! what is owned by the key -/
theorem zcnt_pos {P : Nat → Bool} : ∀ n, decide (0 < zcnt n P) = match zfst n P with
    | some _ => true
    | none => false
  | 0 => rfl
  | n + 1 => by
    have ih := zcnt_pos (P := P) n
    rw [zcnt_s, zfst_s]
    cases hz : zfst n P with
    | some k =>
      rw [hz] at ih
      have : 0 < zcnt n P := of_decide_eq_true ih
      exact decide_eq_true (by omega)
    | none =>
      rw [hz] at ih
      have : ¬ 0 < zcnt n P := of_decide_eq_false ih
      have e : zcnt n P = 0 := by omega
      cases hp : P n <;> simp [e]
theorem r_lackOwner (H : rAt A R c) (h60 : o < 60) {i : Nat} (hi : i < 60) : (gone A (3 + c) (zn i) = true → decide (rd A (3 + c) (zn i) 24 = zn o) = false) := fun h => by
  have e : rd A (3 + c) (zn i) 24 = -1 := by
    by_cases q : i < nv A (3 + c)
    · exact (((gP H hi).2 q).2 h).1
    · exact ((gP H hi).1 q).2.2
  rw [e]
  exact decide_eq_false fun z => (zn_m1 (k := o) (by omega)).mp z.symm
theorem r_ownCount (H : rKy A R 5 o) : fX12_owned [.ref 0] R = some (.inl (some (.int (zn (zcnt (nv A 1) fun i => decide (rd A 8 (zn i) 24 = zn o))))), R) := by
  have hn := rl_n60 H.1.1
  have n5 := H.1.1.2.1.1.2
  have h43 := H.2.2.1
  have main : ∀ n, n ≤ nv A 1 → fX12_owned [.ref 0] R = zz_ev tX12_owned 4 [some (.ref 0), some (.int (zn (zcnt n fun i => decide (rd A 8 (zn i) 24 = zn o)))), some (.int (zn n))] [] R := by
    intro n
    induction n with
    | zero =>
      intro _
      rw [s_X12_owned]
      (simp only [e_X12_owned, zo_iload, zo_lload, zo_aload, zo_istore, zo_lstore, zo_astore, zo_iinc, zo_pushI, zo_pushL, zo_null, zo_ii, zo_iid, zo_ll, zo_li, zo_lcmp, zo_i2l, zo_l2i, zo_dup, zo_dup2, zo_pop, zo_goto, zo_if, zo_icmp, zo_ifnull, zo_gets, zo_mm, zo_throw, zo_ret, zo_aret, zo_lret, q_iret_f, q_iret_1, q_iret_0, q_iret_b, q_c8_0, q_c8_1, q_c8_2, q_c8_3, q_c8_4, q_set_0, q_set_1i, q_set_1r, q_set_1n, q_set_1N, q_set_s, q_set_1j, q_bk_v, q_bk_n, q_if, zb_ite, cond_true, cond_false, List.getElem?_cons_zero, List.getElem?_cons_succ, Nat.reduceAdd, q_set_1l, q_set2_0, q_set2_1i, q_set2_1r, q_set2_1n, q_set2_s, if_true, if_false, zb_eq0, zb_eq1, zn_1, not_true_eq_false, not_false_eq_true, ite_true, ite_false, if_true, if_false, q_iret_0, q_iret_1, decide_true, decide_false, decide_not, zb_t, zb_f, z10, z01, cond_true, cond_false, Bool.and_true, Bool.true_and, Bool.and_false, Bool.false_and, Bool.not_true, Bool.not_false, true_and, and_true, false_and, and_false, true_or, or_true, false_or, or_false, Bool.true_eq_false, Bool.false_eq_true, eq_self, reduceCtorEq, Bool.or_true, Bool.true_or, Bool.or_false, Bool.false_or])
      rfl
    | succ n ih =>
      intro hn1
      have h60n := lt_n60 H.1.1 (show n < nv A 1 by omega)
      have hc := zk_in (i := n) (n := nv A 1) (by omega) hn
      have hg := r_goneT H.1 h60n
      have hv := r_view H.1 h60n
      have hl := r_lackOwner H.1 H.2.2.2 h60n
      simp only [Nat.reduceAdd] at hg hl
      rw [ih (by omega), zcnt_s]
      generalize zcnt n (fun i => decide (rd A 8 (zn i) 24 = zn o)) = m
      cases d1 : gone A 8 (zn n)
      · have ho := r_ownerV H.1 (seen_of H.1 h60n d1)
        simp only [Nat.reduceAdd] at ho
        by_cases d2 : rd A 8 (zn n) 24 = zn o
        · (rw [e_X12_owned_4]; simp only [e_X12_owned, zo_iload, zo_lload, zo_aload, zo_istore, zo_lstore, zo_astore, zo_iinc, zo_pushI, zo_pushL, zo_null, zo_ii, zo_iid, zo_ll, zo_li, zo_lcmp, zo_i2l, zo_l2i, zo_dup, zo_dup2, zo_pop, zo_goto, zo_if, zo_icmp, zo_ifnull, zo_gets, zo_mm, zo_throw, zo_ret, zo_aret, zo_lret, q_iret_f, q_iret_1, q_iret_0, q_iret_b, q_c8_0, q_c8_1, q_c8_2, q_c8_3, q_c8_4, q_set_0, q_set_1i, q_set_1r, q_set_1n, q_set_1N, q_set_s, q_set_1j, q_bk_v, q_bk_n, q_if, zb_ite, cond_true, cond_false, List.getElem?_cons_zero, List.getElem?_cons_succ, Nat.reduceAdd, q_set_1l, q_set2_0, q_set2_1i, q_set2_1r, q_set2_1n, q_set2_s, n5, hc, hg, d1, hv, ho, h43, d2, if_true, if_false, zb_eq0, zb_eq1, zn_1, not_true_eq_false, not_false_eq_true, ite_true, ite_false, if_true, if_false, q_iret_0, q_iret_1, decide_true, decide_false, decide_not, zb_t, zb_f, z10, z01, cond_true, cond_false, Bool.and_true, Bool.true_and, Bool.and_false, Bool.false_and, Bool.not_true, Bool.not_false, true_and, and_true, false_and, and_false, true_or, or_true, false_or, or_false, Bool.true_eq_false, Bool.false_eq_true, eq_self, reduceCtorEq, Bool.or_true, Bool.true_or, Bool.or_false, Bool.false_or])
        · (rw [e_X12_owned_4]; simp only [e_X12_owned, zo_iload, zo_lload, zo_aload, zo_istore, zo_lstore, zo_astore, zo_iinc, zo_pushI, zo_pushL, zo_null, zo_ii, zo_iid, zo_ll, zo_li, zo_lcmp, zo_i2l, zo_l2i, zo_dup, zo_dup2, zo_pop, zo_goto, zo_if, zo_icmp, zo_ifnull, zo_gets, zo_mm, zo_throw, zo_ret, zo_aret, zo_lret, q_iret_f, q_iret_1, q_iret_0, q_iret_b, q_c8_0, q_c8_1, q_c8_2, q_c8_3, q_c8_4, q_set_0, q_set_1i, q_set_1r, q_set_1n, q_set_1N, q_set_s, q_set_1j, q_bk_v, q_bk_n, q_if, zb_ite, cond_true, cond_false, List.getElem?_cons_zero, List.getElem?_cons_succ, Nat.reduceAdd, q_set_1l, q_set2_0, q_set2_1i, q_set2_1r, q_set2_1n, q_set2_s, n5, hc, hg, d1, hv, ho, h43, d2, Nat.add_zero, Int32.add_zero, if_true, if_false, zb_eq0, zb_eq1, zn_1, not_true_eq_false, not_false_eq_true, ite_true, ite_false, if_true, if_false, q_iret_0, q_iret_1, decide_true, decide_false, decide_not, zb_t, zb_f, z10, z01, cond_true, cond_false, Bool.and_true, Bool.true_and, Bool.and_false, Bool.false_and, Bool.not_true, Bool.not_false, true_and, and_true, false_and, and_false, true_or, or_true, false_or, or_false, Bool.true_eq_false, Bool.false_eq_true, eq_self, reduceCtorEq, Bool.or_true, Bool.true_or, Bool.or_false, Bool.false_or])
      · rw [hl d1]
        (rw [e_X12_owned_4]; simp only [e_X12_owned, zo_iload, zo_lload, zo_aload, zo_istore, zo_lstore, zo_astore, zo_iinc, zo_pushI, zo_pushL, zo_null, zo_ii, zo_iid, zo_ll, zo_li, zo_lcmp, zo_i2l, zo_l2i, zo_dup, zo_dup2, zo_pop, zo_goto, zo_if, zo_icmp, zo_ifnull, zo_gets, zo_mm, zo_throw, zo_ret, zo_aret, zo_lret, q_iret_f, q_iret_1, q_iret_0, q_iret_b, q_c8_0, q_c8_1, q_c8_2, q_c8_3, q_c8_4, q_set_0, q_set_1i, q_set_1r, q_set_1n, q_set_1N, q_set_s, q_set_1j, q_bk_v, q_bk_n, q_if, zb_ite, cond_true, cond_false, List.getElem?_cons_zero, List.getElem?_cons_succ, Nat.reduceAdd, q_set_1l, q_set2_0, q_set2_1i, q_set2_1r, q_set2_1n, q_set2_s, n5, hc, hg, d1, Nat.add_zero, Int32.add_zero, if_true, if_false, zb_eq0, zb_eq1, zn_1, not_true_eq_false, not_false_eq_true, ite_true, ite_false, if_true, if_false, q_iret_0, q_iret_1, decide_true, decide_false, decide_not, zb_t, zb_f, z10, z01, cond_true, cond_false, Bool.and_true, Bool.true_and, Bool.and_false, Bool.false_and, Bool.not_true, Bool.not_false, true_and, and_true, false_and, and_false, true_or, or_true, false_or, or_false, Bool.true_eq_false, Bool.false_eq_true, eq_self, reduceCtorEq, Bool.or_true, Bool.true_or, Bool.or_false, Bool.false_or])
  rw [main (nv A 1) (Nat.le_refl _)]
  have hc := zk_out hn
  (rw [e_X12_owned_4]; simp only [e_X12_owned, zo_iload, zo_lload, zo_aload, zo_istore, zo_lstore, zo_astore, zo_iinc, zo_pushI, zo_pushL, zo_null, zo_ii, zo_iid, zo_ll, zo_li, zo_lcmp, zo_i2l, zo_l2i, zo_dup, zo_dup2, zo_pop, zo_goto, zo_if, zo_icmp, zo_ifnull, zo_gets, zo_mm, zo_throw, zo_ret, zo_aret, zo_lret, q_iret_f, q_iret_1, q_iret_0, q_iret_b, q_c8_0, q_c8_1, q_c8_2, q_c8_3, q_c8_4, q_set_0, q_set_1i, q_set_1r, q_set_1n, q_set_1N, q_set_s, q_set_1j, q_bk_v, q_bk_n, q_if, zb_ite, cond_true, cond_false, List.getElem?_cons_zero, List.getElem?_cons_succ, Nat.reduceAdd, q_set_1l, q_set2_0, q_set2_1i, q_set2_1r, q_set2_1n, q_set2_s, n5, hc, if_true, if_false, zb_eq0, zb_eq1, zn_1, not_true_eq_false, not_false_eq_true, ite_true, ite_false, if_true, if_false, q_iret_0, q_iret_1, decide_true, decide_false, decide_not, zb_t, zb_f, z10, z01, cond_true, cond_false, Bool.and_true, Bool.true_and, Bool.and_false, Bool.false_and, Bool.not_true, Bool.not_false, true_and, and_true, false_and, and_false, true_or, or_true, false_or, or_false, Bool.true_eq_false, Bool.false_eq_true, eq_self, reduceCtorEq, Bool.or_true, Bool.true_or, Bool.or_false, Bool.false_or])
theorem r_ownSome (H : rKy A R 5 o) : decide (0 < zcnt (nv A 1) fun i => decide (rd A 8 (zn i) 24 = zn o)) = own1 A (zn o) := by
  rw [zcnt_pos]
  unfold own1
  rw [zfst_ext (show nv A 8 ≤ nv A 1 from rv_nv H.1) fun i h1 h2 => by
    have h60 := lt_n60 H.1.1 h2
    have := r_lackOwner H.1 H.2.2.2 h60 ((gP H.1 h60).1 (by simp only [Nat.reduceAdd]; omega)).1
    simp only [Nat.reduceAdd] at this
    exact this]
  rfl
/-! passing on -/
def Pa (m : Int32) (A : zzMd) (o i : Nat) (B : zzMd) : Bool × zzMd := if m = 3 then actO A o i B else actD A o i B
theorem Pa_un (m : Int32) {i : Nat} (h : rd A 8 (zn i) 24 ≠ zn o) (M : zzMd) : Pa m A o i M = (true, M) := by
  unfold Pa actO actD
  rw [decide_eq_false h]
  by_cases q : m = 3
  · rw [if_pos q]; rfl
  · rw [if_neg q]; rfl
theorem Kp_Pa {m : Int32} {i : Nat} (hi : i < 60) (h : zKp 5 A B) : zKp 5 A (Pa m A o i B).2 := by
  unfold Pa
  by_cases q : m = 3
  · rw [if_pos q]; exact Kp_O hi h
  · rw [if_neg q]; exact Kp_D hi h
theorem Set_ve {i k : Nat} {x : Int32} (h4 : ve B 1 ≤ 400) : ve B 1 ≤ ve (aSet B c i k x).2 1 := by
  unfold aSet
  cases decide (rd B (3 + c) (zn i) (zn k) = x)
  · cases utd B c i
    · exact Nat.le_refl _
    · exact Wr_ve h4
  · exact Nat.le_refl _
theorem le_13 (W : zIC A) (W2 : zIC B) (h : ve A 1 ≤ ve B 1) : A.1 1 3 ≤ B.1 1 3 := by
  rw [W.1.2.2.1, W2.1.2.2.1]
  have a := W.1.2.2.2
  have b := W2.1.2.2.2
  exact of_eq_true (zn_le (a := ve A 1) (b := ve B 1) (by omega) (by omega) ▸ eq_true h)
theorem ow_enc (H : Rl0 A R) {i : Nat} (hb : i < nv A 1) : encR (wt (R.2 7 i) 11 0) (dOw (dUp (row A i) 24 (-1))) ∧ goodD (dOw (dUp (row A i) 24 (-1))) := by
  obtain ⟨c1, c2, c3, c4, c5⟩ := rl_cur H hb
  obtain ⟨gF, g1, g2, g3, g4, g5, g6, g7, g8⟩ := c3
  have e : dOw (dUp (row A i) 24 (-1)) = dUp (row A i) 24 (-1) := dOw_good fun z => rfl
  rw [e]
  have s1 := enc_wv (k := 11) (a := 0) (u := 0) (v := -1) (by decide) (by decide) rfl (by decide) c1
  refine ⟨s1, fun f hf => ?_, g1, Or.inl rfl, g3, g4, g5, g6, g7, fun z => ⟨rfl, (g8 z).2⟩⟩
  show ∃ a, (if f = 24 then (-1 : Int32) else row A i f) = zn a ∧ _
  rw [if_neg (by omega)]
  exact gF f hf
theorem fg_enc (H : Rl0 A R) {i : Nat} (hb : i < nv A 1) : encR (wt (R.2 7 i) 13 1) (dOw (dUp (row A i) 25 1)) ∧ goodD (dOw (dUp (row A i) 25 1)) := by
  obtain ⟨c1, c2, c3, c4, c5⟩ := rl_cur H hb
  obtain ⟨gF, g1, g2, g3, g4, g5, g6, g7, g8⟩ := c3
  have n14 : ¬ (1 : Int32) = 4 := by decide
  have e : dOw (dUp (row A i) 25 1) = dUp (row A i) 25 1 := dOw_good fun z => absurd z n14
  rw [e]
  have s1 := enc_wv (k := 13) (a := 1) (u := 1) (v := 1) (by decide) (by decide) rfl (by decide) c1
  refine ⟨s1, fun f hf => ?_, g1, g2, ⟨1, by decide, rfl⟩, g4, g5, g6, g7, fun z => absurd z n14⟩
  show ∃ a, (if f = 25 then (1 : Int32) else row A i f) = zn a ∧ _
  rw [if_neg (by omega)]
  exact gF f hf
/-- one write to what is owned -/
theorem r_passW (H : rKy B S 5 o) {i : Nat} (hi : i < nv B 1) (h24 : rd B 8 (zn i) 24 = zn o) (h60 : o < 60) (m : Int32) (hm : m ≠ 3 → rd B 8 (zn i) 25 = 0) :
    actTo B (if m = 3 then aSet B 5 i 24 (-1) else aSet B 5 i 25 1) 5 o S (fX12_writesIt [.ref 0, .int (zn i), .long (if m = 3 then wt (S.2 7 i) 11 0 else wt (S.2 7 i) 13 1), .long (S.2 8 i)] S) := by
  obtain ⟨c1, c2, c3, c4, c5⟩ := rl_cur H.1.1 hi
  by_cases q : m = 3
  · rw [if_pos q, if_pos q]
    obtain ⟨e1, e2⟩ := ow_enc H.1.1 hi
    have := r_writesIt H hi (D := dUp (row B i) 24 (-1)) e2 c4 c5 e1 (encB_c c2 rfl rfl) fun f hf => if_neg (by omega)
    unfold aSet
    rw [show rd B (3 + 5) (zn i) (zn 24) = zn o from h24, decide_eq_false fun z => (zn_m1 (k := o) (by omega)).mp z]
    exact this
  · rw [if_neg q, if_neg q]
    obtain ⟨e1, e2⟩ := fg_enc H.1.1 hi
    have := r_writesIt H hi (D := dUp (row B i) 25 1) e2 c4 c5 e1 (encB_c c2 rfl rfl) fun f hf => if_neg (by omega)
    unfold aSet
    rw [show rd B (3 + 5) (zn i) (zn 25) = 0 from hm q, decide_eq_false (show ¬ (0 : Int32) = 1 by decide)]
    exact this

theorem Wr_nv {i : Nat} {D : Nat → Int32} (W : zIC B) (hi : i < nv B 1) : nv (aWr B i D).2 1 = nv B 1 := by
  unfold aWr put
  cases zall 32 fun s => decide (dOw D s = row B i s)
  · cases decide (400 ≤ ve B 1)
    · show zz_ix ((tkIn (logSet B (ve B 1 + 1) (dOw D)) 1 i (ve B 1 + 1)).1 1 2) = _
      rw [tk_1, if_neg (fun z => absurd z.2 (by decide)), if_pos ⟨rfl, rfl⟩]
      have e : nv (logSet B (ve B 1 + 1) (dOw D)) 1 = nv B 1 := congrArg zz_ix (show (if (1 : Nat) = 14 ∧ (ve B 1 + 1) * 32 ≤ 2 ∧ 2 < (ve B 1 + 1) * 32 + 32 then dOw D (2 - (ve B 1 + 1) * 32) else B.1 1 2) = B.1 1 2 from if_neg fun z => absurd z.1 (by decide))
      have h60 := W.1.2.1.2
      have em : Nat.max (nv B 1) (i + 1) = nv B 1 := Nat.max_eq_left hi
      rw [e, em, zn_ix (by omega)]
    · rfl
  · rfl
theorem Set_nv {i k : Nat} {x : Int32} (W : zIC B) (hi : i < nv B 1) : nv (aSet B c i k x).2 1 = nv B 1 := by
  unfold aSet
  cases decide (rd B (3 + c) (zn i) (zn k) = x)
  · cases utd B c i
    · rfl
    · exact Wr_nv W hi
  · rfl
theorem zLe_of (H : rAt A R c) : zLe A c := fun q hq => by
  rw [((H.1.2.2.1 c H.2.2).1.2 q hq).1]
  have h1 : lastV (obj A) (ve A (3 + c)) q ≤ ve A (3 + c) := lastV_le q _
  have h2 := rv_ve H
  have h3 := rl_e4 H.1
  rw [zn_ix (by omega)]
  omega
theorem rd_wrtn {v x s : Int32} (hc : c < 8) : rd (wrtn v c o B) (3 + c) x s = rd B (3 + c) x s := by
  unfold wrtn
  cases decide (B.1 1 3 ≤ v)
  · exact rd_sI (by omega) (by rw [zcL hc]; omega)
  · rfl
theorem nv_wrtn {v : Int32} {k : Nat} (h : k ≠ 26 + 6 * c) : nv (wrtn v c o B) k = nv B k := congrArg zz_ix (wrtn_c h)
/-- what holds while the COLLECTOR passes on -/
def pasI (A R : zzMd) (o : Nat) (B S : zzMd) : Prop := rKy (wrtn (A.1 1 3) 5 o B) S 5 o ∧ zKp 5 A B ∧ ve A 1 ≤ ve B 1 ∧ nv B 1 = nv A 1
theorem pas_out (S : zzMd) (m i : Int32) (l4 l5 l6 : Option Value) : zz_ev tX12_passesOn 4 [some (.ref 0), some (.int m), some (.int 0), some (.int i), l4, l5, l6, none] [] S = some (.inl (some (.int 0)), S) := by
  by_cases d : S.1 0 5 ≤ i <;> (rw [e_X12_passesOn_4]; simp only [e_X12_passesOn, zo_iload, zo_lload, zo_aload, zo_istore, zo_lstore, zo_astore, zo_iinc, zo_pushI, zo_pushL, zo_null, zo_ii, zo_iid, zo_ll, zo_li, zo_lcmp, zo_i2l, zo_l2i, zo_dup, zo_dup2, zo_pop, zo_goto, zo_if, zo_icmp, zo_ifnull, zo_gets, zo_mm, zo_throw, zo_ret, zo_aret, zo_lret, q_iret_f, q_iret_1, q_iret_0, q_iret_b, q_c8_0, q_c8_1, q_c8_2, q_c8_3, q_c8_4, q_set_0, q_set_1i, q_set_1r, q_set_1n, q_set_1N, q_set_s, q_set_1j, q_bk_v, q_bk_n, q_if, zb_ite, cond_true, cond_false, List.getElem?_cons_zero, List.getElem?_cons_succ, Nat.reduceAdd, q_set_1l, q_set2_0, q_set2_1i, q_set2_1r, q_set2_1n, q_set2_s, d, if_true, if_false, zb_eq0, zb_eq1, zn_1, not_true_eq_false, not_false_eq_true, ite_true, ite_false, if_true, if_false, q_iret_0, q_iret_1, decide_true, decide_false, decide_not, zb_t, zb_f, z10, z01, cond_true, cond_false, Bool.and_true, Bool.true_and, Bool.and_false, Bool.false_and, Bool.not_true, Bool.not_false, true_and, and_true, false_and, and_false, true_or, or_true, false_or, or_false, Bool.true_eq_false, Bool.false_eq_true, eq_self, reduceCtorEq, Bool.or_true, Bool.true_or, Bool.or_false, Bool.false_or])
theorem pas_step {m : Int32} (W : zIC A) (hm : m = 1 ∨ m = 3) (I : pasI A R o B S) {n : Nat} (hn : n < nv A 1) (j4 j5 : Option Int32) (j6 : Option Int64) :
    ∃ S' j4' j5' j6', zz_ev tX12_passesOn 4 [some (.ref 0), some (.int m), some (.int 1), some (.int (zn n)), zj j4, zj j5, zjl j6, none] [] S = (bif (Pa m A o n B).1 then zz_ev tX12_passesOn 4 [some (.ref 0), some (.int m), some (.int 1), some (.int (zn (n + 1))), zj j4', zj j5', zjl j6', none] [] S' else some (.inl (some (.int 0)), S')) ∧ pasI A R o (Pa m A o n B).2 S' := by
  obtain ⟨H, K, hv, hnv⟩ := I
  have hrd : ∀ x s, rd (wrtn (A.1 1 3) 5 o B) 8 x s = rd A 8 x s := fun x s => (rd_wrtn (by decide)).trans (K.1 x s)
  have hgo : ∀ x, gone (wrtn (A.1 1 3) 5 o B) 8 x = gone A 8 x := fun x => by unfold gone; rw [hrd]
  have en : nv (wrtn (A.1 1 3) 5 o B) 1 = nv A 1 := (nv_wrtn (by decide)).trans hnv
  have h60 := H.2.2.2
  have hnC : n < nv (wrtn (A.1 1 3) 5 o B) 1 := by rw [en]; exact hn
  have h60n := lt_n60 H.1.1 hnC
  have n5 := H.1.1.2.1.1.2
  rw [en] at n5
  have h43 := H.2.2.1
  have hc := zk_in (i := n) (n := nv A 1) hn W.1.2.1.2
  have hg := r_goneT H.1 h60n
  have hvw := r_view H.1 h60n
  have hl := r_lackOwner H.1 h60 h60n
  simp only [Nat.reduceAdd, hgo, hrd] at hg hl
  obtain ⟨b1, x1⟩ := kinds_o n h60n
  have hK := Kp_Pa (m := m) (o := o) h60n K
  have w11 : fX12_with [.ref 0, .long (S.2 7 n), .int 11, .int 0] S = _ := r_with H.1.1.1.1 (k := 11) (by decide) (S.2 7 n) 0
  have w13 : fX12_with [.ref 0, .long (S.2 7 n), .int 13, .int 1] S = _ := r_with H.1.1.1.1 (k := 13) (by decide) (S.2 7 n) 1
  have n13 : ((1 : Int32) = 3) = False := eq_false (by decide)
  by_cases d2 : rd A 8 (zn n) 24 = zn o
  · have d1 : gone A 8 (zn n) = false := by
      cases e : gone A 8 (zn n)
      · rfl
      · have := hl e
        rw [decide_eq_true d2] at this
        cases this
    have hs : n < nv (wrtn (A.1 1 3) 5 o B) 8 := seen_of H.1 h60n ((hgo _).trans d1)
    have ho := r_ownerV H.1 (o := n) hs
    have v13 := (r_vw H.1 (o := n) hs).2.2.1
    simp only [Nat.reduceAdd, hrd] at ho v13
    have go : m = 3 ∨ rd A 8 (zn n) 25 = 0 → (∃ S', fX12_writesIt [.ref 0, .int (zn n), .long (if m = 3 then wt (S.2 7 n) 11 0 else wt (S.2 7 n) 13 1), .long (S.2 8 n)] S = some (.inl (some (.int (zb (Pa m A o n B).1))), S') ∧ pasI A R o (Pa m A o n B).2 S') := fun hq => by
      have ew := r_passW H hnC ((hrd _ _).trans d2) h60 m (fun z => (hrd _ _).trans (hq.resolve_left z))
      have ep : ∀ M, (if m = 3 then aSet M 5 n 24 (-1) else aSet M 5 n 25 1) = Pa m A o n M := fun M => by
        unfold Pa actO actD
        by_cases q : m = 3
        · rw [if_pos q, if_pos q, decide_eq_true d2, cond_true]
        · rw [if_neg q, if_neg q, decide_eq_true d2, decide_eq_true (hq.resolve_left q)]; rfl
      rw [ep] at ew
      have hm2 : ve B 1 ≤ ve (Pa m A o n B).2 1 := by
        rw [← ep]
        by_cases q : m = 3
        · rw [if_pos q]; exact Set_ve K.2.2.2.1.2.2.2
        · rw [if_neg q]; exact Set_ve K.2.2.2.1.2.2.2
      have hn2 : nv (Pa m A o n B).2 1 = nv B 1 := by
        rw [← ep]
        by_cases q : m = 3
        · rw [if_pos q]; exact Set_nv K.2.2.2 (by omega)
        · rw [if_neg q]; exact Set_nv K.2.2.2 (by omega)
      obtain ⟨S', e1, e2, -⟩ := act_step (act := Pa m A o n) (c := 5) (o := o) (fun M x => by
        rw [← ep, ← ep]
        by_cases q : m = 3
        · rw [if_pos q, if_pos q]; exact aSet_sI (by decide)
        · rw [if_neg q, if_neg q]; exact aSet_sI (by decide)) (le_13 W K.2.2.2 hv) (le_13 K.2.2.2 hK.2.2.2 hm2) ew
      exact ⟨S', e1, e2, hK, Nat.le_trans hv hm2, hn2.trans hnv⟩
    rcases hm with rfl | rfl
    · by_cases d3 : rd A 8 (zn n) 25 = 0
      · obtain ⟨S', e1, e2⟩ := go (Or.inr d3)
        rw [if_neg n13.mp] at e1
        refine ⟨S', some 1, some 1, some (wt (S.2 7 n) 13 1), ?_, e2⟩
        clear e2 go hK
        generalize Pa 1 A o n B = P at e1 ⊢
        cases hp : P.1 <;> rw [hp] at e1
        · simp only [zb_f] at e1
          (rw [e_X12_passesOn_4]; simp only [e_X12_passesOn, zo_iload, zo_lload, zo_aload, zo_istore, zo_lstore, zo_astore, zo_iinc, zo_pushI, zo_pushL, zo_null, zo_ii, zo_iid, zo_ll, zo_li, zo_lcmp, zo_i2l, zo_l2i, zo_dup, zo_dup2, zo_pop, zo_goto, zo_if, zo_icmp, zo_ifnull, zo_gets, zo_mm, zo_throw, zo_ret, zo_aret, zo_lret, q_iret_f, q_iret_1, q_iret_0, q_iret_b, q_c8_0, q_c8_1, q_c8_2, q_c8_3, q_c8_4, q_set_0, q_set_1i, q_set_1r, q_set_1n, q_set_1N, q_set_s, q_set_1j, q_bk_v, q_bk_n, q_if, zb_ite, cond_true, cond_false, List.getElem?_cons_zero, List.getElem?_cons_succ, Nat.reduceAdd, q_set_1l, q_set2_0, q_set2_1i, q_set2_1r, q_set2_1n, q_set2_s, n5, hc, hg, d1, hvw, ho, h43, d2, n13, v13, d3, b1, x1, q_aR, w13, e1, zj_some, zjl_some, if_true, if_false, zb_eq0, zb_eq1, zn_1, not_true_eq_false, not_false_eq_true, ite_true, ite_false, if_true, if_false, q_iret_0, q_iret_1, decide_true, decide_false, decide_not, zb_t, zb_f, z10, z01, cond_true, cond_false, Bool.and_true, Bool.true_and, Bool.and_false, Bool.false_and, Bool.not_true, Bool.not_false, true_and, and_true, false_and, and_false, true_or, or_true, false_or, or_false, Bool.true_eq_false, Bool.false_eq_true, eq_self, reduceCtorEq, Bool.or_true, Bool.true_or, Bool.or_false, Bool.false_or])
          exact pas_out _ _ _ _ _ _
        · simp only [zb_t] at e1
          (rw [e_X12_passesOn_4]; simp only [e_X12_passesOn, zo_iload, zo_lload, zo_aload, zo_istore, zo_lstore, zo_astore, zo_iinc, zo_pushI, zo_pushL, zo_null, zo_ii, zo_iid, zo_ll, zo_li, zo_lcmp, zo_i2l, zo_l2i, zo_dup, zo_dup2, zo_pop, zo_goto, zo_if, zo_icmp, zo_ifnull, zo_gets, zo_mm, zo_throw, zo_ret, zo_aret, zo_lret, q_iret_f, q_iret_1, q_iret_0, q_iret_b, q_c8_0, q_c8_1, q_c8_2, q_c8_3, q_c8_4, q_set_0, q_set_1i, q_set_1r, q_set_1n, q_set_1N, q_set_s, q_set_1j, q_bk_v, q_bk_n, q_if, zb_ite, cond_true, cond_false, List.getElem?_cons_zero, List.getElem?_cons_succ, Nat.reduceAdd, q_set_1l, q_set2_0, q_set2_1i, q_set2_1r, q_set2_1n, q_set2_s, n5, hc, hg, d1, hvw, ho, h43, d2, n13, v13, d3, b1, x1, q_aR, w13, e1, zj_some, zjl_some, if_true, if_false, zb_eq0, zb_eq1, zn_1, not_true_eq_false, not_false_eq_true, ite_true, ite_false, if_true, if_false, q_iret_0, q_iret_1, decide_true, decide_false, decide_not, zb_t, zb_f, z10, z01, cond_true, cond_false, Bool.and_true, Bool.true_and, Bool.and_false, Bool.false_and, Bool.not_true, Bool.not_false, true_and, and_true, false_and, and_false, true_or, or_true, false_or, or_false, Bool.true_eq_false, Bool.false_eq_true, eq_self, reduceCtorEq, Bool.or_true, Bool.true_or, Bool.or_false, Bool.false_or])
      · have ep : Pa 1 A o n B = (true, B) := by
          unfold Pa actD
          rw [if_neg n13.mp, decide_eq_false d3, Bool.and_false]; rfl
        rw [ep]
        refine ⟨S, some 1, some 0, some (wt (S.2 7 n) 13 1), ?_, H, K, hv, hnv⟩
        rw [cond_true]
        clear go hK
        (rw [e_X12_passesOn_4]; simp only [e_X12_passesOn, zo_iload, zo_lload, zo_aload, zo_istore, zo_lstore, zo_astore, zo_iinc, zo_pushI, zo_pushL, zo_null, zo_ii, zo_iid, zo_ll, zo_li, zo_lcmp, zo_i2l, zo_l2i, zo_dup, zo_dup2, zo_pop, zo_goto, zo_if, zo_icmp, zo_ifnull, zo_gets, zo_mm, zo_throw, zo_ret, zo_aret, zo_lret, q_iret_f, q_iret_1, q_iret_0, q_iret_b, q_c8_0, q_c8_1, q_c8_2, q_c8_3, q_c8_4, q_set_0, q_set_1i, q_set_1r, q_set_1n, q_set_1N, q_set_s, q_set_1j, q_bk_v, q_bk_n, q_if, zb_ite, cond_true, cond_false, List.getElem?_cons_zero, List.getElem?_cons_succ, Nat.reduceAdd, q_set_1l, q_set2_0, q_set2_1i, q_set2_1r, q_set2_1n, q_set2_s, n5, hc, hg, d1, hvw, ho, h43, d2, n13, v13, d3, b1, x1, q_aR, w13, zj_some, zjl_some, if_true, if_false, zb_eq0, zb_eq1, zn_1, not_true_eq_false, not_false_eq_true, ite_true, ite_false, if_true, if_false, q_iret_0, q_iret_1, decide_true, decide_false, decide_not, zb_t, zb_f, z10, z01, cond_true, cond_false, Bool.and_true, Bool.true_and, Bool.and_false, Bool.false_and, Bool.not_true, Bool.not_false, true_and, and_true, false_and, and_false, true_or, or_true, false_or, or_false, Bool.true_eq_false, Bool.false_eq_true, eq_self, reduceCtorEq, Bool.or_true, Bool.true_or, Bool.or_false, Bool.false_or])
    · obtain ⟨S', e1, e2⟩ := go (Or.inl rfl)
      rw [if_pos rfl] at e1
      refine ⟨S', some 1, some 1, some (wt (S.2 7 n) 11 0), ?_, e2⟩
      clear e2 go hK
      generalize Pa 3 A o n B = P at e1 ⊢
      cases hp : P.1 <;> rw [hp] at e1
      · simp only [zb_f] at e1
        (rw [e_X12_passesOn_4]; simp only [e_X12_passesOn, zo_iload, zo_lload, zo_aload, zo_istore, zo_lstore, zo_astore, zo_iinc, zo_pushI, zo_pushL, zo_null, zo_ii, zo_iid, zo_ll, zo_li, zo_lcmp, zo_i2l, zo_l2i, zo_dup, zo_dup2, zo_pop, zo_goto, zo_if, zo_icmp, zo_ifnull, zo_gets, zo_mm, zo_throw, zo_ret, zo_aret, zo_lret, q_iret_f, q_iret_1, q_iret_0, q_iret_b, q_c8_0, q_c8_1, q_c8_2, q_c8_3, q_c8_4, q_set_0, q_set_1i, q_set_1r, q_set_1n, q_set_1N, q_set_s, q_set_1j, q_bk_v, q_bk_n, q_if, zb_ite, cond_true, cond_false, List.getElem?_cons_zero, List.getElem?_cons_succ, Nat.reduceAdd, q_set_1l, q_set2_0, q_set2_1i, q_set2_1r, q_set2_1n, q_set2_s, n5, hc, hg, d1, hvw, ho, h43, d2, b1, x1, q_aR, w11, e1, zj_some, zjl_some, if_true, if_false, zb_eq0, zb_eq1, zn_1, not_true_eq_false, not_false_eq_true, ite_true, ite_false, if_true, if_false, q_iret_0, q_iret_1, decide_true, decide_false, decide_not, zb_t, zb_f, z10, z01, cond_true, cond_false, Bool.and_true, Bool.true_and, Bool.and_false, Bool.false_and, Bool.not_true, Bool.not_false, true_and, and_true, false_and, and_false, true_or, or_true, false_or, or_false, Bool.true_eq_false, Bool.false_eq_true, eq_self, reduceCtorEq, Bool.or_true, Bool.true_or, Bool.or_false, Bool.false_or])
        exact pas_out _ _ _ _ _ _
      · simp only [zb_t] at e1
        (rw [e_X12_passesOn_4]; simp only [e_X12_passesOn, zo_iload, zo_lload, zo_aload, zo_istore, zo_lstore, zo_astore, zo_iinc, zo_pushI, zo_pushL, zo_null, zo_ii, zo_iid, zo_ll, zo_li, zo_lcmp, zo_i2l, zo_l2i, zo_dup, zo_dup2, zo_pop, zo_goto, zo_if, zo_icmp, zo_ifnull, zo_gets, zo_mm, zo_throw, zo_ret, zo_aret, zo_lret, q_iret_f, q_iret_1, q_iret_0, q_iret_b, q_c8_0, q_c8_1, q_c8_2, q_c8_3, q_c8_4, q_set_0, q_set_1i, q_set_1r, q_set_1n, q_set_1N, q_set_s, q_set_1j, q_bk_v, q_bk_n, q_if, zb_ite, cond_true, cond_false, List.getElem?_cons_zero, List.getElem?_cons_succ, Nat.reduceAdd, q_set_1l, q_set2_0, q_set2_1i, q_set2_1r, q_set2_1n, q_set2_s, n5, hc, hg, d1, hvw, ho, h43, d2, b1, x1, q_aR, w11, e1, zj_some, zjl_some, if_true, if_false, zb_eq0, zb_eq1, zn_1, not_true_eq_false, not_false_eq_true, ite_true, ite_false, if_true, if_false, q_iret_0, q_iret_1, decide_true, decide_false, decide_not, zb_t, zb_f, z10, z01, cond_true, cond_false, Bool.and_true, Bool.true_and, Bool.and_false, Bool.false_and, Bool.not_true, Bool.not_false, true_and, and_true, false_and, and_false, true_or, or_true, false_or, or_false, Bool.true_eq_false, Bool.false_eq_true, eq_self, reduceCtorEq, Bool.or_true, Bool.true_or, Bool.or_false, Bool.false_or])
  · rw [Pa_un m d2]
    rcases hm with rfl | rfl
    · refine ⟨S, some 0, some 0, some (wt (S.2 7 n) 13 1), ?_, H, K, hv, hnv⟩
      rw [cond_true]
      clear hK
      cases d1 : gone A 8 (zn n)
      · have hs : n < nv (wrtn (A.1 1 3) 5 o B) 8 := seen_of H.1 h60n ((hgo _).trans d1)
        have ho := r_ownerV H.1 (o := n) hs
        simp only [Nat.reduceAdd, hrd] at ho
        (rw [e_X12_passesOn_4]; simp only [e_X12_passesOn, zo_iload, zo_lload, zo_aload, zo_istore, zo_lstore, zo_astore, zo_iinc, zo_pushI, zo_pushL, zo_null, zo_ii, zo_iid, zo_ll, zo_li, zo_lcmp, zo_i2l, zo_l2i, zo_dup, zo_dup2, zo_pop, zo_goto, zo_if, zo_icmp, zo_ifnull, zo_gets, zo_mm, zo_throw, zo_ret, zo_aret, zo_lret, q_iret_f, q_iret_1, q_iret_0, q_iret_b, q_c8_0, q_c8_1, q_c8_2, q_c8_3, q_c8_4, q_set_0, q_set_1i, q_set_1r, q_set_1n, q_set_1N, q_set_s, q_set_1j, q_bk_v, q_bk_n, q_if, zb_ite, cond_true, cond_false, List.getElem?_cons_zero, List.getElem?_cons_succ, Nat.reduceAdd, q_set_1l, q_set2_0, q_set2_1i, q_set2_1r, q_set2_1n, q_set2_s, n5, hc, hg, d1, hvw, ho, h43, d2, n13, b1, x1, q_aR, w13, zj_some, zjl_some, if_true, if_false, zb_eq0, zb_eq1, zn_1, not_true_eq_false, not_false_eq_true, ite_true, ite_false, if_true, if_false, q_iret_0, q_iret_1, decide_true, decide_false, decide_not, zb_t, zb_f, z10, z01, cond_true, cond_false, Bool.and_true, Bool.true_and, Bool.and_false, Bool.false_and, Bool.not_true, Bool.not_false, true_and, and_true, false_and, and_false, true_or, or_true, false_or, or_false, Bool.true_eq_false, Bool.false_eq_true, eq_self, reduceCtorEq, Bool.or_true, Bool.true_or, Bool.or_false, Bool.false_or])
      · (rw [e_X12_passesOn_4]; simp only [e_X12_passesOn, zo_iload, zo_lload, zo_aload, zo_istore, zo_lstore, zo_astore, zo_iinc, zo_pushI, zo_pushL, zo_null, zo_ii, zo_iid, zo_ll, zo_li, zo_lcmp, zo_i2l, zo_l2i, zo_dup, zo_dup2, zo_pop, zo_goto, zo_if, zo_icmp, zo_ifnull, zo_gets, zo_mm, zo_throw, zo_ret, zo_aret, zo_lret, q_iret_f, q_iret_1, q_iret_0, q_iret_b, q_c8_0, q_c8_1, q_c8_2, q_c8_3, q_c8_4, q_set_0, q_set_1i, q_set_1r, q_set_1n, q_set_1N, q_set_s, q_set_1j, q_bk_v, q_bk_n, q_if, zb_ite, cond_true, cond_false, List.getElem?_cons_zero, List.getElem?_cons_succ, Nat.reduceAdd, q_set_1l, q_set2_0, q_set2_1i, q_set2_1r, q_set2_1n, q_set2_s, n5, hc, hg, d1, h43, d2, n13, b1, x1, q_aR, w13, zj_some, zjl_some, if_true, if_false, zb_eq0, zb_eq1, zn_1, not_true_eq_false, not_false_eq_true, ite_true, ite_false, if_true, if_false, q_iret_0, q_iret_1, decide_true, decide_false, decide_not, zb_t, zb_f, z10, z01, cond_true, cond_false, Bool.and_true, Bool.true_and, Bool.and_false, Bool.false_and, Bool.not_true, Bool.not_false, true_and, and_true, false_and, and_false, true_or, or_true, false_or, or_false, Bool.true_eq_false, Bool.false_eq_true, eq_self, reduceCtorEq, Bool.or_true, Bool.true_or, Bool.or_false, Bool.false_or])
    · refine ⟨S, some 0, some 0, some (wt (S.2 7 n) 11 0), ?_, H, K, hv, hnv⟩
      rw [cond_true]
      clear hK
      cases d1 : gone A 8 (zn n)
      · have hs : n < nv (wrtn (A.1 1 3) 5 o B) 8 := seen_of H.1 h60n ((hgo _).trans d1)
        have ho := r_ownerV H.1 (o := n) hs
        simp only [Nat.reduceAdd, hrd] at ho
        (rw [e_X12_passesOn_4]; simp only [e_X12_passesOn, zo_iload, zo_lload, zo_aload, zo_istore, zo_lstore, zo_astore, zo_iinc, zo_pushI, zo_pushL, zo_null, zo_ii, zo_iid, zo_ll, zo_li, zo_lcmp, zo_i2l, zo_l2i, zo_dup, zo_dup2, zo_pop, zo_goto, zo_if, zo_icmp, zo_ifnull, zo_gets, zo_mm, zo_throw, zo_ret, zo_aret, zo_lret, q_iret_f, q_iret_1, q_iret_0, q_iret_b, q_c8_0, q_c8_1, q_c8_2, q_c8_3, q_c8_4, q_set_0, q_set_1i, q_set_1r, q_set_1n, q_set_1N, q_set_s, q_set_1j, q_bk_v, q_bk_n, q_if, zb_ite, cond_true, cond_false, List.getElem?_cons_zero, List.getElem?_cons_succ, Nat.reduceAdd, q_set_1l, q_set2_0, q_set2_1i, q_set2_1r, q_set2_1n, q_set2_s, n5, hc, hg, d1, hvw, ho, h43, d2, b1, x1, q_aR, w11, zj_some, zjl_some, if_true, if_false, zb_eq0, zb_eq1, zn_1, not_true_eq_false, not_false_eq_true, ite_true, ite_false, if_true, if_false, q_iret_0, q_iret_1, decide_true, decide_false, decide_not, zb_t, zb_f, z10, z01, cond_true, cond_false, Bool.and_true, Bool.true_and, Bool.and_false, Bool.false_and, Bool.not_true, Bool.not_false, true_and, and_true, false_and, and_false, true_or, or_true, false_or, or_false, Bool.true_eq_false, Bool.false_eq_true, eq_self, reduceCtorEq, Bool.or_true, Bool.true_or, Bool.or_false, Bool.false_or])
      · (rw [e_X12_passesOn_4]; simp only [e_X12_passesOn, zo_iload, zo_lload, zo_aload, zo_istore, zo_lstore, zo_astore, zo_iinc, zo_pushI, zo_pushL, zo_null, zo_ii, zo_iid, zo_ll, zo_li, zo_lcmp, zo_i2l, zo_l2i, zo_dup, zo_dup2, zo_pop, zo_goto, zo_if, zo_icmp, zo_ifnull, zo_gets, zo_mm, zo_throw, zo_ret, zo_aret, zo_lret, q_iret_f, q_iret_1, q_iret_0, q_iret_b, q_c8_0, q_c8_1, q_c8_2, q_c8_3, q_c8_4, q_set_0, q_set_1i, q_set_1r, q_set_1n, q_set_1N, q_set_s, q_set_1j, q_bk_v, q_bk_n, q_if, zb_ite, cond_true, cond_false, List.getElem?_cons_zero, List.getElem?_cons_succ, Nat.reduceAdd, q_set_1l, q_set2_0, q_set2_1i, q_set2_1r, q_set2_1n, q_set2_s, n5, hc, hg, d1, h43, d2, b1, x1, q_aR, w11, zj_some, zjl_some, if_true, if_false, zb_eq0, zb_eq1, zn_1, not_true_eq_false, not_false_eq_true, ite_true, ite_false, if_true, if_false, q_iret_0, q_iret_1, decide_true, decide_false, decide_not, zb_t, zb_f, z10, z01, cond_true, cond_false, Bool.and_true, Bool.true_and, Bool.and_false, Bool.false_and, Bool.not_true, Bool.not_false, true_and, and_true, false_and, and_false, true_or, or_true, false_or, or_false, Bool.true_eq_false, Bool.false_eq_true, eq_self, reduceCtorEq, Bool.or_true, Bool.true_or, Bool.or_false, Bool.false_or])
theorem r_passesOn (H : rKy A R 5 o) {m : Int32} (hm : m = 1 ∨ m = 3) : ∃ S, fX12_passesOn [.ref 0, .int m] R = some (.inl (some (.int (zb (acts (Pa m A o) (nv A 8) A).1))), S) ∧ rKy (wrtn (A.1 1 3) 5 o (acts (Pa m A o) (nv A 8) A).2) S 5 o := by
  have W : zIC A := H.1.1.1.2
  have h60 := H.2.2.2
  have main : ∀ n, n ≤ nv A 1 → ∃ S j4 j5 j6, fX12_passesOn [.ref 0, .int m] R = (bif (acts (Pa m A o) n A).1 then zz_ev tX12_passesOn 4 [some (.ref 0), some (.int m), some (.int 1), some (.int (zn n)), zj j4, zj j5, zjl j6, none] [] S else some (.inl (some (.int 0)), S)) ∧ pasI A R o (acts (Pa m A o) n A).2 S := by
    intro n
    induction n with
    | zero =>
      intro _
      refine ⟨R, none, none, none, ?_, ?_, zKp_refl (zLe_of H.1) W, Nat.le_refl _, rfl⟩
      · rw [s_X12_passesOn, show (acts (Pa m A o) 0 A).1 = true from rfl, cond_true]
        (simp only [e_X12_passesOn, zo_iload, zo_lload, zo_aload, zo_istore, zo_lstore, zo_astore, zo_iinc, zo_pushI, zo_pushL, zo_null, zo_ii, zo_iid, zo_ll, zo_li, zo_lcmp, zo_i2l, zo_l2i, zo_dup, zo_dup2, zo_pop, zo_goto, zo_if, zo_icmp, zo_ifnull, zo_gets, zo_mm, zo_throw, zo_ret, zo_aret, zo_lret, q_iret_f, q_iret_1, q_iret_0, q_iret_b, q_c8_0, q_c8_1, q_c8_2, q_c8_3, q_c8_4, q_set_0, q_set_1i, q_set_1r, q_set_1n, q_set_1N, q_set_s, q_set_1j, q_bk_v, q_bk_n, q_if, zb_ite, cond_true, cond_false, List.getElem?_cons_zero, List.getElem?_cons_succ, Nat.reduceAdd, q_set_1l, q_set2_0, q_set2_1i, q_set2_1r, q_set2_1n, q_set2_s, if_true, if_false, zb_eq0, zb_eq1, zn_1, not_true_eq_false, not_false_eq_true, ite_true, ite_false, if_true, if_false, q_iret_0, q_iret_1, decide_true, decide_false, decide_not, zb_t, zb_f, z10, z01, cond_true, cond_false, Bool.and_true, Bool.true_and, Bool.and_false, Bool.false_and, Bool.not_true, Bool.not_false, true_and, and_true, false_and, and_false, true_or, or_true, false_or, or_false, Bool.true_eq_false, Bool.false_eq_true, eq_self, reduceCtorEq, Bool.or_true, Bool.true_or, Bool.or_false, Bool.false_or])
        rfl
      · rw [show (acts (Pa m A o) 0 A).2 = A from rfl, wrtn_0]; exact H
    | succ n ih =>
      intro hn1
      obtain ⟨S, j4, j5, j6, e1, e2⟩ := ih (by omega)
      rw [acts_s]
      cases hb : (acts (Pa m A o) n A).1
      · rw [hb] at e1
        rw [cond_false, hb]
        exact ⟨S, none, none, none, e1, e2⟩
      · rw [hb] at e1
        rw [cond_true]
        obtain ⟨S', j4', j5', j6', f1, f2⟩ := pas_step W hm e2 (show n < nv A 1 by omega) j4 j5 j6
        exact ⟨S', j4', j5', j6', e1.trans f1, f2⟩
  obtain ⟨S, j4, j5, j6, e1, e2⟩ := main (nv A 1) (Nat.le_refl _)
  have ex : acts (Pa m A o) (nv A 1) A = acts (Pa m A o) (nv A 8) A := acts_ext (rv_nv H.1) fun i M h1 h2 => by
    have h60i := lt_n60 H.1.1 h2
    have := ((gP H.1 h60i).1 (by simp only [Nat.reduceAdd]; omega)).2.2
    simp only [Nat.reduceAdd] at this
    refine Pa_un m (fun z => (zn_m1 (k := o) (by omega)).mp ?_) M
    rw [← z, this]
  rw [ex] at e1 e2
  refine ⟨S, ?_, e2.1⟩
  rw [e1]
  cases (acts (Pa m A o) (nv A 8) A).1
  · rfl
  · rw [cond_true]
    have en : nv (wrtn (A.1 1 3) 5 o (acts (Pa m A o) (nv A 8) A).2) 1 = nv A 1 := (nv_wrtn (by decide)).trans e2.2.2.2
    have n5 := e2.1.1.1.2.1.1.2
    rw [en] at n5
    have hc := zk_out W.1.2.1.2
    clear e1 e2
    (rw [e_X12_passesOn_4]; simp only [e_X12_passesOn, zo_iload, zo_lload, zo_aload, zo_istore, zo_lstore, zo_astore, zo_iinc, zo_pushI, zo_pushL, zo_null, zo_ii, zo_iid, zo_ll, zo_li, zo_lcmp, zo_i2l, zo_l2i, zo_dup, zo_dup2, zo_pop, zo_goto, zo_if, zo_icmp, zo_ifnull, zo_gets, zo_mm, zo_throw, zo_ret, zo_aret, zo_lret, q_iret_f, q_iret_1, q_iret_0, q_iret_b, q_c8_0, q_c8_1, q_c8_2, q_c8_3, q_c8_4, q_set_0, q_set_1i, q_set_1r, q_set_1n, q_set_1N, q_set_s, q_set_1j, q_bk_v, q_bk_n, q_if, zb_ite, cond_true, cond_false, List.getElem?_cons_zero, List.getElem?_cons_succ, Nat.reduceAdd, q_set_1l, q_set2_0, q_set2_1i, q_set2_1r, q_set2_1n, q_set2_s, n5, hc, if_true, if_false, zb_eq0, zb_eq1, zn_1, not_true_eq_false, not_false_eq_true, ite_true, ite_false, if_true, if_false, q_iret_0, q_iret_1, decide_true, decide_false, decide_not, zb_t, zb_f, z10, z01, cond_true, cond_false, Bool.and_true, Bool.true_and, Bool.and_false, Bool.false_and, Bool.not_true, Bool.not_false, true_and, and_true, false_and, and_false, true_or, or_true, false_or, or_false, Bool.true_eq_false, Bool.false_eq_true, eq_self, reduceCtorEq, Bool.or_true, Bool.true_or, Bool.or_false, Bool.false_or])
end
end

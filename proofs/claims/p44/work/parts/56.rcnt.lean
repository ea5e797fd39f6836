section
/-! counting, in both -/
theorem zcnt_ext {P : Nat → Bool} {m : Nat} : ∀ {n : Nat}, m ≤ n → (∀ i, m ≤ i → i < n → P i = false) → zcnt n P = zcnt m P
  | 0, h, _ => by rw [Nat.le_zero.mp h]
  | n + 1, h, hP => by
    rcases Nat.lt_or_eq_of_le h with h1 | h1
    · rw [zcnt_s, hP n (by omega) (by omega), cond_false, Nat.add_zero]
      exact zcnt_ext (by omega) fun i a b => hP i a (by omega)
    · rw [h1]
theorem zsum_ext {g : Nat → Int32} {m : Nat} : ∀ {n : Nat}, m ≤ n → (∀ i, m ≤ i → i < n → g i = 0) → zsum n g = zsum m g
  | 0, h, _ => by rw [Nat.le_zero.mp h]
  | n + 1, h, hP => by
    rcases Nat.lt_or_eq_of_le h with h1 | h1
    · rw [zsum_s, hP n (by omega) (by omega), Int32.add_zero]
      exact zsum_ext (by omega) fun i a b => hP i a (by omega)
    · rw [h1]
theorem zfst_s (n : Nat) (P : Nat → Bool) : zfst (n + 1) P = match zfst n P with
    | some k => some k
    | none => bif P n then some n else none := rfl
theorem zfst_ext {P : Nat → Bool} {m : Nat} : ∀ {n : Nat}, m ≤ n → (∀ i, m ≤ i → i < n → P i = false) → zfst n P = zfst m P
  | 0, h, _ => by rw [Nat.le_zero.mp h]
  | n + 1, h, hP => by
    rcases Nat.lt_or_eq_of_le h with h1 | h1
    · rw [zfst_s, zfst_ext (m := m) (by omega) fun i a b => hP i a (by omega), hP n (by omega) (by omega)]
      cases zfst m P <;> rfl
    · rw [h1]
/-- the first from q on -/
def zfrom (n q : Nat) (P : Nat → Bool) : Option Nat := zfst n fun i => decide (q ≤ i) && P i
theorem zfrom_n (n : Nat) (P : Nat → Bool) : zfrom n n P = none := zfst_non fun i hi => by rw [decide_eq_false (by omega), Bool.false_and]
theorem zfrom_0 (n : Nat) (P : Nat → Bool) : zfrom n 0 P = zfst n P := zfst_congr fun i _ => by rw [decide_eq_true (Nat.zero_le i), Bool.true_and]
theorem zfrom_s {n q : Nat} (hq : q < n) (P : Nat → Bool) : zfrom n q P = bif P q then some q else zfrom n (q + 1) P := by
  cases h : P q
  · rw [cond_false]
    refine zfst_congr fun i hi => ?_
    by_cases e : i = q
    · rw [e, h, Bool.and_false, Bool.and_false]
    · rw [show decide (q ≤ i) = decide (q + 1 ≤ i) from decide_eq_decide.mpr (by omega)]
  · rw [cond_true]
    exact zfst_is hq (by rw [decide_eq_true (Nat.le_refl q), h]; rfl) fun i hi => by rw [decide_eq_false (by omega), Bool.false_and]
section
variable {A R : zzMd} {c : Nat}
theorem own_un (H : rAt A R c) {i : Nat} (hi : i < 60) (h : ¬ i < nv A (3 + c)) (k w : Int32) : owned A (3 + c) (zn i) k w = false := by
  have h2 : rd A (3 + c) (zn i) 25 = 4 := rv_un H (s := 25) hi (by decide) h
  unfold owned
  rw [h2]
  exact decide_eq_false fun z => absurd z.2.2 (by decide)
theorem own_seen (H : rAt A R c) {i : Nat} (hi : i < 60) {k w : Int32} (h : owned A (3 + c) (zn i) k w = true) : i < nv A (3 + c) := by
  by_cases q : i < nv A (3 + c)
  · exact q
  · rw [own_un H hi q] at h; cases h
def pBit (ph x : Int32) : Bool := decide (ph >>> (x &&& 31) &&& 1 = 1)
theorem r_pods (H : rAt A R c) (w ph : Int32) : fX12_pods [.ref 0, .int w, .int ph] R = some (.inl (some (.int (zn (zcnt (nv A 1) fun i => owned A (3 + c) (zn i) 2 w && pBit ph (rd A (3 + c) (zn i) 29))))), R) := by
  have hn := rl_n60 H.1
  have n5 := H.1.2.1.1.2
  have st : fX12_pods [.ref 0, .int w, .int ph] R = zz_ev tX12_pods 5 [some (.ref 0), some (.int w), some (.int ph), some (.int (zn (zcnt 0 fun i => owned A (3 + c) (zn i) 2 w && pBit ph (rd A (3 + c) (zn i) 29)))), some (.int (zn 0))] [] R := by
    rw [s_X12_pods]
    (simp only [e_X12_pods, zo_iload, zo_lload, zo_aload, zo_istore, zo_lstore, zo_astore, zo_iinc, zo_pushI, zo_pushL, zo_null, zo_ii, zo_iid, zo_ll, zo_li, zo_lcmp, zo_i2l, zo_l2i, zo_dup, zo_dup2, zo_pop, zo_goto, zo_if, zo_icmp, zo_ifnull, zo_gets, zo_mm, zo_throw, zo_ret, zo_aret, zo_lret, q_iret_f, q_iret_1, q_iret_0, q_iret_b, q_c8_0, q_c8_1, q_c8_2, q_c8_3, q_c8_4, q_set_0, q_set_1i, q_set_1r, q_set_1n, q_set_1N, q_set_s, q_set_1j, q_bk_v, q_bk_n, q_if, zb_ite, cond_true, cond_false, List.getElem?_cons_zero, List.getElem?_cons_succ, Nat.reduceAdd, q_set_1l, q_set2_0, q_set2_1i, q_set2_1r, q_set2_1n, q_set2_s, if_true, if_false, zb_eq0, zb_eq1, zn_1, not_true_eq_false, not_false_eq_true, ite_true, ite_false, if_true, if_false, q_iret_0, q_iret_1, decide_true, decide_false, decide_not, zb_t, zb_f, z10, z01, cond_true, cond_false, Bool.and_true, Bool.true_and, Bool.and_false, Bool.false_and, Bool.not_true, Bool.not_false, true_and, and_true, false_and, and_false, true_or, or_true, false_or, or_false, Bool.true_eq_false, Bool.false_eq_true, eq_self, reduceCtorEq, Bool.or_true, Bool.true_or, Bool.or_false, Bool.false_or])
    rfl
  have lp := zl_go (E := fun i => zz_ev tX12_pods 5 [some (.ref 0), some (.int w), some (.int ph), some (.int (zn (zcnt i fun i => owned A (3 + c) (zn i) 2 w && pBit ph (rd A (3 + c) (zn i) 29)))), some (.int (zn i))] [] R) (nv A 1) (fun i hi => by
    have hc := zk_in hi hn
    have h60 := lt_n60 H.1 hi
    have ho := r_owned H h60 2 w
    rw [zcnt_s]
    cases d : owned A (3 + c) (zn i) 2 w
    · (rw [e_X12_pods_5]; simp only [e_X12_pods, zo_iload, zo_lload, zo_aload, zo_istore, zo_lstore, zo_astore, zo_iinc, zo_pushI, zo_pushL, zo_null, zo_ii, zo_iid, zo_ll, zo_li, zo_lcmp, zo_i2l, zo_l2i, zo_dup, zo_dup2, zo_pop, zo_goto, zo_if, zo_icmp, zo_ifnull, zo_gets, zo_mm, zo_throw, zo_ret, zo_aret, zo_lret, q_iret_f, q_iret_1, q_iret_0, q_iret_b, q_c8_0, q_c8_1, q_c8_2, q_c8_3, q_c8_4, q_set_0, q_set_1i, q_set_1r, q_set_1n, q_set_1N, q_set_s, q_set_1j, q_bk_v, q_bk_n, q_if, zb_ite, cond_true, cond_false, List.getElem?_cons_zero, List.getElem?_cons_succ, Nat.reduceAdd, q_set_1l, q_set2_0, q_set2_1i, q_set2_1r, q_set2_1n, q_set2_s, n5, hc, ho, d, Nat.add_zero, Int32.add_zero, if_true, if_false, zb_eq0, zb_eq1, zn_1, not_true_eq_false, not_false_eq_true, ite_true, ite_false, if_true, if_false, q_iret_0, q_iret_1, decide_true, decide_false, decide_not, zb_t, zb_f, z10, z01, cond_true, cond_false, Bool.and_true, Bool.true_and, Bool.and_false, Bool.false_and, Bool.not_true, Bool.not_false, true_and, and_true, false_and, and_false, true_or, or_true, false_or, or_false, Bool.true_eq_false, Bool.false_eq_true, eq_self, reduceCtorEq, Bool.or_true, Bool.true_or, Bool.or_false, Bool.false_or])
    · have v16 := (r_vw H (own_seen H h60 d)).2.2.2.2.2
      unfold pBit
      by_cases d2 : ph >>> (rd A (3 + c) (zn i) 29 &&& 31) &&& 1 = 1 <;> (rw [e_X12_pods_5]; simp only [e_X12_pods, zo_iload, zo_lload, zo_aload, zo_istore, zo_lstore, zo_astore, zo_iinc, zo_pushI, zo_pushL, zo_null, zo_ii, zo_iid, zo_ll, zo_li, zo_lcmp, zo_i2l, zo_l2i, zo_dup, zo_dup2, zo_pop, zo_goto, zo_if, zo_icmp, zo_ifnull, zo_gets, zo_mm, zo_throw, zo_ret, zo_aret, zo_lret, q_iret_f, q_iret_1, q_iret_0, q_iret_b, q_c8_0, q_c8_1, q_c8_2, q_c8_3, q_c8_4, q_set_0, q_set_1i, q_set_1r, q_set_1n, q_set_1N, q_set_s, q_set_1j, q_bk_v, q_bk_n, q_if, zb_ite, cond_true, cond_false, List.getElem?_cons_zero, List.getElem?_cons_succ, Nat.reduceAdd, q_set_1l, q_set2_0, q_set2_1i, q_set2_1r, q_set2_1n, q_set2_s, n5, hc, ho, d, v16, d2, Nat.add_zero, Int32.add_zero, if_true, if_false, zb_eq0, zb_eq1, zn_1, not_true_eq_false, not_false_eq_true, ite_true, ite_false, if_true, if_false, q_iret_0, q_iret_1, decide_true, decide_false, decide_not, zb_t, zb_f, z10, z01, cond_true, cond_false, Bool.and_true, Bool.true_and, Bool.and_false, Bool.false_and, Bool.not_true, Bool.not_false, true_and, and_true, false_and, and_false, true_or, or_true, false_or, or_false, Bool.true_eq_false, Bool.false_eq_true, eq_self, reduceCtorEq, Bool.or_true, Bool.true_or, Bool.or_false, Bool.false_or]))
  rw [st]
  refine (show _ = _ from lp).trans ?_
  have hc := zk_out hn
  (rw [e_X12_pods_5]; simp only [e_X12_pods, zo_iload, zo_lload, zo_aload, zo_istore, zo_lstore, zo_astore, zo_iinc, zo_pushI, zo_pushL, zo_null, zo_ii, zo_iid, zo_ll, zo_li, zo_lcmp, zo_i2l, zo_l2i, zo_dup, zo_dup2, zo_pop, zo_goto, zo_if, zo_icmp, zo_ifnull, zo_gets, zo_mm, zo_throw, zo_ret, zo_aret, zo_lret, q_iret_f, q_iret_1, q_iret_0, q_iret_b, q_c8_0, q_c8_1, q_c8_2, q_c8_3, q_c8_4, q_set_0, q_set_1i, q_set_1r, q_set_1n, q_set_1N, q_set_s, q_set_1j, q_bk_v, q_bk_n, q_if, zb_ite, cond_true, cond_false, List.getElem?_cons_zero, List.getElem?_cons_succ, Nat.reduceAdd, q_set_1l, q_set2_0, q_set2_1i, q_set2_1r, q_set2_1n, q_set2_s, n5, hc, if_true, if_false, zb_eq0, zb_eq1, zn_1, not_true_eq_false, not_false_eq_true, ite_true, ite_false, if_true, if_false, q_iret_0, q_iret_1, decide_true, decide_false, decide_not, zb_t, zb_f, z10, z01, cond_true, cond_false, Bool.and_true, Bool.true_and, Bool.and_false, Bool.false_and, Bool.not_true, Bool.not_false, true_and, and_true, false_and, and_false, true_or, or_true, false_or, or_false, Bool.true_eq_false, Bool.false_eq_true, eq_self, reduceCtorEq, Bool.or_true, Bool.true_or, Bool.or_false, Bool.false_or])
theorem pods_f (H : rAt A R c) (w ph : Int32) {f : Int32 → Bool} (hf : ∀ h, h ≤ 3 → pBit ph (zn h) = f (zn h)) : (zcnt (nv A 1) fun i => owned A (3 + c) (zn i) 2 w && pBit ph (rd A (3 + c) (zn i) 29)) = zcnt (nv A (3 + c)) fun i => owned A (3 + c) (zn i) 2 w && f (rd A (3 + c) (zn i) 29) := by
  rw [zcnt_ext (rv_nv H) fun i h1 h2 => by rw [own_un H (lt_n60 H.1 h2) (by omega), Bool.false_and]]
  refine zcnt_congr fun i hi => ?_
  obtain ⟨-, -, g, -⟩ := rv_row H hi
  obtain ⟨h, h1, h2⟩ := g.2.2.2.2.2.2.2.1
  have h2' : rd A (3 + c) (zn i) 29 = zn h := h2
  rw [h2', hf h h1]
theorem pb2 : ∀ h, h ≤ 3 → pBit 2 (zn h) = decide (zn h = 1) := by
  have key : ∀ h : Fin 4, pBit 2 (zn h.1) = decide (zn h.1 = 1) := by decide
  exact fun h hh => key ⟨h, by omega⟩
theorem pb15 : ∀ h, h ≤ 3 → pBit 15 (zn h) = true := by
  have key : ∀ h : Fin 4, pBit 15 (zn h.1) = true := by decide
  exact fun h hh => key ⟨h, by omega⟩
theorem pb3 : ∀ h, h ≤ 3 → pBit 3 (zn h) = (decide (zn h = 0) || decide (zn h = 1)) := by
  have key : ∀ h : Fin 4, pBit 3 (zn h.1) = (decide (zn h.1 = 0) || decide (zn h.1 = 1)) := by decide
  exact fun h hh => key ⟨h, by omega⟩
theorem pb4 : ∀ h, h ≤ 3 → pBit 4 (zn h) = decide (zn h = 2) := by
  have key : ∀ h : Fin 4, pBit 4 (zn h.1) = decide (zn h.1 = 2) := by decide
  exact fun h hh => key ⟨h, by omega⟩
theorem r_pods2 (H : rAt A R c) {w : Int32} (hw : ¬ w = -1) : fX12_pods [.ref 0, .int w, .int 2] R = some (.inl (some (.int (zn (cntRun A (3 + c) (nv A (3 + c)) w)))), R) := by
  rw [r_pods H w 2, pods_f H w 2 (f := fun x => decide (x = 1)) pb2]
  unfold cntRun
  rw [if_neg hw]
theorem r_pods15 (H : rAt A R c) (w : Int32) : fX12_pods [.ref 0, .int w, .int 15] R = some (.inl (some (.int (zn (cntP A (3 + c) w)))), R) := by
  rw [r_pods H w 15, pods_f H w 15 (f := fun _ => true) pb15]
  unfold cntP
  simp only [Bool.and_true]
theorem r_pods3 (H : rAt A R c) (w : Int32) : fX12_pods [.ref 0, .int w, .int 3] R = some (.inl (some (.int (zn (acP A (3 + c) w (nv A (3 + c)))))), R) := by
  rw [r_pods H w 3, pods_f H w 3 (f := fun x => decide (x = 0) || decide (x = 1)) pb3]
  rfl
theorem r_pods4 (H : rAt A R c) (w : Int32) : fX12_pods [.ref 0, .int w, .int 4] R = some (.inl (some (.int (zn (dnP A (3 + c) w (nv A (3 + c)))))), R) := by
  rw [r_pods H w 4, pods_f H w 4 (f := fun x => decide (x = 2)) pb4]
  rfl
/-! sets of a DEPLOY -/
def stP (A : zzMd) (v : Nat) (d t w : Int32) (i : Nat) : Bool := owned A v (zn i) 1 d && (!decide (zn i = w) && (bif decide (t = -1) then !decide (rd A v (zn i) 0 ≤ 0) else decide (rd A v (zn i) 1 = t)))
theorem r_setOfN (H : rAt A R c) (d t w : Int32) : fX12_setOf [.ref 0, .int d, .int t, .int w] R = some (.inl (some (.int (zoi (zfst (nv A 1) (stP A (3 + c) d t w))))), R) := by
  have hn := rl_n60 H.1
  have n5 := H.1.2.1.1.2
  have e0 : zn (nv A 1) - 1 = zn (nv A 1) + -1 := Int32.sub_eq_add_neg _ _
  have st : fX12_setOf [.ref 0, .int d, .int t, .int w] R = zz_ev tX12_setOf 11 [some (.ref 0), some (.int d), some (.int t), some (.int w), some (.int (zoi (zfrom (nv A 1) (nv A 1) (stP A (3 + c) d t w)))), some (.int (zn (nv A 1) + -1)), zj none, zj none] [] R := by
    rw [s_X12_setOf, zfrom_n]
    (simp only [e_X12_setOf, zo_iload, zo_lload, zo_aload, zo_istore, zo_lstore, zo_astore, zo_iinc, zo_pushI, zo_pushL, zo_null, zo_ii, zo_iid, zo_ll, zo_li, zo_lcmp, zo_i2l, zo_l2i, zo_dup, zo_dup2, zo_pop, zo_goto, zo_if, zo_icmp, zo_ifnull, zo_gets, zo_mm, zo_throw, zo_ret, zo_aret, zo_lret, q_iret_f, q_iret_1, q_iret_0, q_iret_b, q_c8_0, q_c8_1, q_c8_2, q_c8_3, q_c8_4, q_set_0, q_set_1i, q_set_1r, q_set_1n, q_set_1N, q_set_s, q_set_1j, q_bk_v, q_bk_n, q_if, zb_ite, cond_true, cond_false, List.getElem?_cons_zero, List.getElem?_cons_succ, Nat.reduceAdd, q_set_1l, q_set2_0, q_set2_1i, q_set2_1r, q_set2_1n, q_set2_s, n5, e0, if_true, if_false, zb_eq0, zb_eq1, zn_1, not_true_eq_false, not_false_eq_true, ite_true, ite_false, if_true, if_false, q_iret_0, q_iret_1, decide_true, decide_false, decide_not, zb_t, zb_f, z10, z01, cond_true, cond_false, Bool.and_true, Bool.true_and, Bool.and_false, Bool.false_and, Bool.not_true, Bool.not_false, true_and, and_true, false_and, and_false, true_or, or_true, false_or, or_false, Bool.true_eq_false, Bool.false_eq_true, eq_self, reduceCtorEq, Bool.or_true, Bool.true_or, Bool.or_false, Bool.false_or])
    rfl
  have main : ∀ k, k ≤ nv A 1 → ∃ j6 j7 : Option Int32, fX12_setOf [.ref 0, .int d, .int t, .int w] R = zz_ev tX12_setOf 11 [some (.ref 0), some (.int d), some (.int t), some (.int w), some (.int (zoi (zfrom (nv A 1) (nv A 1 - k) (stP A (3 + c) d t w)))), some (.int (zn (nv A 1 - k) + -1)), zj j6, zj j7] [] R := by
    intro k
    induction k with
    | zero => exact fun _ => ⟨none, none, st⟩
    | succ k ih =>
      intro hk
      obtain ⟨j6, j7, e1⟩ := ih (by omega)
      obtain ⟨q, hq⟩ : ∃ q, nv A 1 - k = q + 1 := ⟨nv A 1 - k - 1, by omega⟩
      have hq2 : nv A 1 - (k + 1) = q := by omega
      have hqn : q < nv A 1 := by omega
      rw [e1, hq, hq2, zfrom_s hqn]
      have eq1 : zn (q + 1) + -1 = zn q := by
        rw [← Int32.sub_eq_add_neg (zn (q + 1)) 1]
        exact zn_sub (b := 1) (by omega)
      rw [eq1]
      have h60 := lt_n60 H.1 hqn
      have c0 : (zn q < 0) = False := zn_lt0 (by omega)
      have ho := r_owned H h60 1 d
      generalize hfn : zoi (zfrom (nv A 1) (q + 1) (stP A (3 + c) d t w)) = fn
      have hz : zoi (bif stP A (3 + c) d t w q then some q else zfrom (nv A 1) (q + 1) (stP A (3 + c) d t w)) = bif stP A (3 + c) d t w q then zn q else fn := by
        cases stP A (3 + c) d t w q
        · exact hfn
        · rfl
      rw [hz]
      refine ⟨some (zb (owned A (3 + c) (zn q) 1 d && !decide (zn q = w))), some (zb (stP A (3 + c) d t w q)), ?_⟩
      unfold stP
      cases d1 : owned A (3 + c) (zn q) 1 d
      · (rw [e_X12_setOf_11]; simp only [e_X12_setOf, zo_iload, zo_lload, zo_aload, zo_istore, zo_lstore, zo_astore, zo_iinc, zo_pushI, zo_pushL, zo_null, zo_ii, zo_iid, zo_ll, zo_li, zo_lcmp, zo_i2l, zo_l2i, zo_dup, zo_dup2, zo_pop, zo_goto, zo_if, zo_icmp, zo_ifnull, zo_gets, zo_mm, zo_throw, zo_ret, zo_aret, zo_lret, q_iret_f, q_iret_1, q_iret_0, q_iret_b, q_c8_0, q_c8_1, q_c8_2, q_c8_3, q_c8_4, q_set_0, q_set_1i, q_set_1r, q_set_1n, q_set_1N, q_set_s, q_set_1j, q_bk_v, q_bk_n, q_if, zb_ite, cond_true, cond_false, List.getElem?_cons_zero, List.getElem?_cons_succ, Nat.reduceAdd, q_set_1l, q_set2_0, q_set2_1i, q_set2_1r, q_set2_1n, q_set2_s, c0, ho, d1, zj_some, if_true, if_false, zb_eq0, zb_eq1, zn_1, not_true_eq_false, not_false_eq_true, ite_true, ite_false, if_true, if_false, q_iret_0, q_iret_1, decide_true, decide_false, decide_not, zb_t, zb_f, z10, z01, cond_true, cond_false, Bool.and_true, Bool.true_and, Bool.and_false, Bool.false_and, Bool.not_true, Bool.not_false, true_and, and_true, false_and, and_false, true_or, or_true, false_or, or_false, Bool.true_eq_false, Bool.false_eq_true, eq_self, reduceCtorEq, Bool.or_true, Bool.true_or, Bool.or_false, Bool.false_or])
      · obtain ⟨v0, -⟩ := r_vw H (own_seen H h60 d1)
        have w0 : fX12_viewed [.ref 0, .int (zn q), .int 0] R = _ := v0 0 (by decide)
        have w1 : fX12_viewed [.ref 0, .int (zn q), .int 1] R = _ := v0 1 (by decide)
        by_cases d2 : zn q = w
        · subst d2
          (rw [e_X12_setOf_11]; simp only [e_X12_setOf, zo_iload, zo_lload, zo_aload, zo_istore, zo_lstore, zo_astore, zo_iinc, zo_pushI, zo_pushL, zo_null, zo_ii, zo_iid, zo_ll, zo_li, zo_lcmp, zo_i2l, zo_l2i, zo_dup, zo_dup2, zo_pop, zo_goto, zo_if, zo_icmp, zo_ifnull, zo_gets, zo_mm, zo_throw, zo_ret, zo_aret, zo_lret, q_iret_f, q_iret_1, q_iret_0, q_iret_b, q_c8_0, q_c8_1, q_c8_2, q_c8_3, q_c8_4, q_set_0, q_set_1i, q_set_1r, q_set_1n, q_set_1N, q_set_s, q_set_1j, q_bk_v, q_bk_n, q_if, zb_ite, cond_true, cond_false, List.getElem?_cons_zero, List.getElem?_cons_succ, Nat.reduceAdd, q_set_1l, q_set2_0, q_set2_1i, q_set2_1r, q_set2_1n, q_set2_s, c0, ho, d1, zj_some, if_true, if_false, zb_eq0, zb_eq1, zn_1, not_true_eq_false, not_false_eq_true, ite_true, ite_false, if_true, if_false, q_iret_0, q_iret_1, decide_true, decide_false, decide_not, zb_t, zb_f, z10, z01, cond_true, cond_false, Bool.and_true, Bool.true_and, Bool.and_false, Bool.false_and, Bool.not_true, Bool.not_false, true_and, and_true, false_and, and_false, true_or, or_true, false_or, or_false, Bool.true_eq_false, Bool.false_eq_true, eq_self, reduceCtorEq, Bool.or_true, Bool.true_or, Bool.or_false, Bool.false_or])
        · by_cases d3 : t = -1
          · by_cases d4 : rd A (3 + c) (zn q) (zn 0) ≤ 0
            · have d4' : rd A (3 + c) (zn q) 0 ≤ 0 := d4
              (rw [e_X12_setOf_11]; simp only [e_X12_setOf, zo_iload, zo_lload, zo_aload, zo_istore, zo_lstore, zo_astore, zo_iinc, zo_pushI, zo_pushL, zo_null, zo_ii, zo_iid, zo_ll, zo_li, zo_lcmp, zo_i2l, zo_l2i, zo_dup, zo_dup2, zo_pop, zo_goto, zo_if, zo_icmp, zo_ifnull, zo_gets, zo_mm, zo_throw, zo_ret, zo_aret, zo_lret, q_iret_f, q_iret_1, q_iret_0, q_iret_b, q_c8_0, q_c8_1, q_c8_2, q_c8_3, q_c8_4, q_set_0, q_set_1i, q_set_1r, q_set_1n, q_set_1N, q_set_s, q_set_1j, q_bk_v, q_bk_n, q_if, zb_ite, cond_true, cond_false, List.getElem?_cons_zero, List.getElem?_cons_succ, Nat.reduceAdd, q_set_1l, q_set2_0, q_set2_1i, q_set2_1r, q_set2_1n, q_set2_s, c0, ho, d1, d2, d3, w0, d4, d4', zj_some, if_true, if_false, zb_eq0, zb_eq1, zn_1, not_true_eq_false, not_false_eq_true, ite_true, ite_false, if_true, if_false, q_iret_0, q_iret_1, decide_true, decide_false, decide_not, zb_t, zb_f, z10, z01, cond_true, cond_false, Bool.and_true, Bool.true_and, Bool.and_false, Bool.false_and, Bool.not_true, Bool.not_false, true_and, and_true, false_and, and_false, true_or, or_true, false_or, or_false, Bool.true_eq_false, Bool.false_eq_true, eq_self, reduceCtorEq, Bool.or_true, Bool.true_or, Bool.or_false, Bool.false_or])
            · have d4' : ¬ rd A (3 + c) (zn q) 0 ≤ 0 := d4
              (rw [e_X12_setOf_11]; simp only [e_X12_setOf, zo_iload, zo_lload, zo_aload, zo_istore, zo_lstore, zo_astore, zo_iinc, zo_pushI, zo_pushL, zo_null, zo_ii, zo_iid, zo_ll, zo_li, zo_lcmp, zo_i2l, zo_l2i, zo_dup, zo_dup2, zo_pop, zo_goto, zo_if, zo_icmp, zo_ifnull, zo_gets, zo_mm, zo_throw, zo_ret, zo_aret, zo_lret, q_iret_f, q_iret_1, q_iret_0, q_iret_b, q_c8_0, q_c8_1, q_c8_2, q_c8_3, q_c8_4, q_set_0, q_set_1i, q_set_1r, q_set_1n, q_set_1N, q_set_s, q_set_1j, q_bk_v, q_bk_n, q_if, zb_ite, cond_true, cond_false, List.getElem?_cons_zero, List.getElem?_cons_succ, Nat.reduceAdd, q_set_1l, q_set2_0, q_set2_1i, q_set2_1r, q_set2_1n, q_set2_s, c0, ho, d1, d2, d3, w0, d4, d4', zj_some, if_true, if_false, zb_eq0, zb_eq1, zn_1, not_true_eq_false, not_false_eq_true, ite_true, ite_false, if_true, if_false, q_iret_0, q_iret_1, decide_true, decide_false, decide_not, zb_t, zb_f, z10, z01, cond_true, cond_false, Bool.and_true, Bool.true_and, Bool.and_false, Bool.false_and, Bool.not_true, Bool.not_false, true_and, and_true, false_and, and_false, true_or, or_true, false_or, or_false, Bool.true_eq_false, Bool.false_eq_true, eq_self, reduceCtorEq, Bool.or_true, Bool.true_or, Bool.or_false, Bool.false_or])
          · by_cases d4 : rd A (3 + c) (zn q) (zn 1) = t
            · have d4' : rd A (3 + c) (zn q) 1 = t := d4
              (rw [e_X12_setOf_11]; simp only [e_X12_setOf, zo_iload, zo_lload, zo_aload, zo_istore, zo_lstore, zo_astore, zo_iinc, zo_pushI, zo_pushL, zo_null, zo_ii, zo_iid, zo_ll, zo_li, zo_lcmp, zo_i2l, zo_l2i, zo_dup, zo_dup2, zo_pop, zo_goto, zo_if, zo_icmp, zo_ifnull, zo_gets, zo_mm, zo_throw, zo_ret, zo_aret, zo_lret, q_iret_f, q_iret_1, q_iret_0, q_iret_b, q_c8_0, q_c8_1, q_c8_2, q_c8_3, q_c8_4, q_set_0, q_set_1i, q_set_1r, q_set_1n, q_set_1N, q_set_s, q_set_1j, q_bk_v, q_bk_n, q_if, zb_ite, cond_true, cond_false, List.getElem?_cons_zero, List.getElem?_cons_succ, Nat.reduceAdd, q_set_1l, q_set2_0, q_set2_1i, q_set2_1r, q_set2_1n, q_set2_s, c0, ho, d1, d2, d3, w1, d4, d4', zj_some, if_true, if_false, zb_eq0, zb_eq1, zn_1, not_true_eq_false, not_false_eq_true, ite_true, ite_false, if_true, if_false, q_iret_0, q_iret_1, decide_true, decide_false, decide_not, zb_t, zb_f, z10, z01, cond_true, cond_false, Bool.and_true, Bool.true_and, Bool.and_false, Bool.false_and, Bool.not_true, Bool.not_false, true_and, and_true, false_and, and_false, true_or, or_true, false_or, or_false, Bool.true_eq_false, Bool.false_eq_true, eq_self, reduceCtorEq, Bool.or_true, Bool.true_or, Bool.or_false, Bool.false_or])
            · have d4' : ¬ rd A (3 + c) (zn q) 1 = t := d4
              (rw [e_X12_setOf_11]; simp only [e_X12_setOf, zo_iload, zo_lload, zo_aload, zo_istore, zo_lstore, zo_astore, zo_iinc, zo_pushI, zo_pushL, zo_null, zo_ii, zo_iid, zo_ll, zo_li, zo_lcmp, zo_i2l, zo_l2i, zo_dup, zo_dup2, zo_pop, zo_goto, zo_if, zo_icmp, zo_ifnull, zo_gets, zo_mm, zo_throw, zo_ret, zo_aret, zo_lret, q_iret_f, q_iret_1, q_iret_0, q_iret_b, q_c8_0, q_c8_1, q_c8_2, q_c8_3, q_c8_4, q_set_0, q_set_1i, q_set_1r, q_set_1n, q_set_1N, q_set_s, q_set_1j, q_bk_v, q_bk_n, q_if, zb_ite, cond_true, cond_false, List.getElem?_cons_zero, List.getElem?_cons_succ, Nat.reduceAdd, q_set_1l, q_set2_0, q_set2_1i, q_set2_1r, q_set2_1n, q_set2_s, c0, ho, d1, d2, d3, w1, d4, d4', zj_some, if_true, if_false, zb_eq0, zb_eq1, zn_1, not_true_eq_false, not_false_eq_true, ite_true, ite_false, if_true, if_false, q_iret_0, q_iret_1, decide_true, decide_false, decide_not, zb_t, zb_f, z10, z01, cond_true, cond_false, Bool.and_true, Bool.true_and, Bool.and_false, Bool.false_and, Bool.not_true, Bool.not_false, true_and, and_true, false_and, and_false, true_or, or_true, false_or, or_false, Bool.true_eq_false, Bool.false_eq_true, eq_self, reduceCtorEq, Bool.or_true, Bool.true_or, Bool.or_false, Bool.false_or])
  obtain ⟨j6, j7, e1⟩ := main (nv A 1) (Nat.le_refl _)
  rw [e1, Nat.sub_self, zfrom_0]
  have c0 : ((zn 0 + -1 : Int32) < 0) = True := eq_true (by decide)
  (rw [e_X12_setOf_11]; simp only [e_X12_setOf, zo_iload, zo_lload, zo_aload, zo_istore, zo_lstore, zo_astore, zo_iinc, zo_pushI, zo_pushL, zo_null, zo_ii, zo_iid, zo_ll, zo_li, zo_lcmp, zo_i2l, zo_l2i, zo_dup, zo_dup2, zo_pop, zo_goto, zo_if, zo_icmp, zo_ifnull, zo_gets, zo_mm, zo_throw, zo_ret, zo_aret, zo_lret, q_iret_f, q_iret_1, q_iret_0, q_iret_b, q_c8_0, q_c8_1, q_c8_2, q_c8_3, q_c8_4, q_set_0, q_set_1i, q_set_1r, q_set_1n, q_set_1N, q_set_s, q_set_1j, q_bk_v, q_bk_n, q_if, zb_ite, cond_true, cond_false, List.getElem?_cons_zero, List.getElem?_cons_succ, Nat.reduceAdd, q_set_1l, q_set2_0, q_set2_1i, q_set2_1r, q_set2_1n, q_set2_s, c0, if_true, if_false, zb_eq0, zb_eq1, zn_1, not_true_eq_false, not_false_eq_true, ite_true, ite_false, if_true, if_false, q_iret_0, q_iret_1, decide_true, decide_false, decide_not, zb_t, zb_f, z10, z01, cond_true, cond_false, Bool.and_true, Bool.true_and, Bool.and_false, Bool.false_and, Bool.not_true, Bool.not_false, true_and, and_true, false_and, and_false, true_or, or_true, false_or, or_false, Bool.true_eq_false, Bool.false_eq_true, eq_self, reduceCtorEq, Bool.or_true, Bool.true_or, Bool.or_false, Bool.false_or])
theorem r_together0 (H : rAt A R c) (d : Int32) : fX12_together [.ref 0, .int d, .int 0] R = some (.inl (some (.int (zsum (nv A 1) fun i => bif owned A (3 + c) (zn i) 1 d then rd A (3 + c) (zn i) 0 else 0))), R) := by
  have hn := rl_n60 H.1
  have n5 := H.1.2.1.1.2
  have st : fX12_together [.ref 0, .int d, .int 0] R = zz_ev tX12_together 5 [some (.ref 0), some (.int d), some (.int 0), some (.int (zsum 0 fun i => bif owned A (3 + c) (zn i) 1 d then rd A (3 + c) (zn i) 0 else 0)), some (.int (zn 0))] [] R := by
    rw [s_X12_together]
    (simp only [e_X12_together, zo_iload, zo_lload, zo_aload, zo_istore, zo_lstore, zo_astore, zo_iinc, zo_pushI, zo_pushL, zo_null, zo_ii, zo_iid, zo_ll, zo_li, zo_lcmp, zo_i2l, zo_l2i, zo_dup, zo_dup2, zo_pop, zo_goto, zo_if, zo_icmp, zo_ifnull, zo_gets, zo_mm, zo_throw, zo_ret, zo_aret, zo_lret, q_iret_f, q_iret_1, q_iret_0, q_iret_b, q_c8_0, q_c8_1, q_c8_2, q_c8_3, q_c8_4, q_set_0, q_set_1i, q_set_1r, q_set_1n, q_set_1N, q_set_s, q_set_1j, q_bk_v, q_bk_n, q_if, zb_ite, cond_true, cond_false, List.getElem?_cons_zero, List.getElem?_cons_succ, Nat.reduceAdd, q_set_1l, q_set2_0, q_set2_1i, q_set2_1r, q_set2_1n, q_set2_s, if_true, if_false, zb_eq0, zb_eq1, zn_1, not_true_eq_false, not_false_eq_true, ite_true, ite_false, if_true, if_false, q_iret_0, q_iret_1, decide_true, decide_false, decide_not, zb_t, zb_f, z10, z01, cond_true, cond_false, Bool.and_true, Bool.true_and, Bool.and_false, Bool.false_and, Bool.not_true, Bool.not_false, true_and, and_true, false_and, and_false, true_or, or_true, false_or, or_false, Bool.true_eq_false, Bool.false_eq_true, eq_self, reduceCtorEq, Bool.or_true, Bool.true_or, Bool.or_false, Bool.false_or])
    rfl
  have lp := zl_go (E := fun i => zz_ev tX12_together 5 [some (.ref 0), some (.int d), some (.int 0), some (.int (zsum i fun i => bif owned A (3 + c) (zn i) 1 d then rd A (3 + c) (zn i) 0 else 0)), some (.int (zn i))] [] R) (nv A 1) (fun i hi => by
    have hc := zk_in hi hn
    have h60 := lt_n60 H.1 hi
    have ho := r_owned H h60 1 d
    rw [zsum_s]
    cases d1 : owned A (3 + c) (zn i) 1 d
    · (rw [e_X12_together_5]; simp only [e_X12_together, zo_iload, zo_lload, zo_aload, zo_istore, zo_lstore, zo_astore, zo_iinc, zo_pushI, zo_pushL, zo_null, zo_ii, zo_iid, zo_ll, zo_li, zo_lcmp, zo_i2l, zo_l2i, zo_dup, zo_dup2, zo_pop, zo_goto, zo_if, zo_icmp, zo_ifnull, zo_gets, zo_mm, zo_throw, zo_ret, zo_aret, zo_lret, q_iret_f, q_iret_1, q_iret_0, q_iret_b, q_c8_0, q_c8_1, q_c8_2, q_c8_3, q_c8_4, q_set_0, q_set_1i, q_set_1r, q_set_1n, q_set_1N, q_set_s, q_set_1j, q_bk_v, q_bk_n, q_if, zb_ite, cond_true, cond_false, List.getElem?_cons_zero, List.getElem?_cons_succ, Nat.reduceAdd, q_set_1l, q_set2_0, q_set2_1i, q_set2_1r, q_set2_1n, q_set2_s, n5, hc, ho, d1, Int32.add_zero, if_true, if_false, zb_eq0, zb_eq1, zn_1, not_true_eq_false, not_false_eq_true, ite_true, ite_false, if_true, if_false, q_iret_0, q_iret_1, decide_true, decide_false, decide_not, zb_t, zb_f, z10, z01, cond_true, cond_false, Bool.and_true, Bool.true_and, Bool.and_false, Bool.false_and, Bool.not_true, Bool.not_false, true_and, and_true, false_and, and_false, true_or, or_true, false_or, or_false, Bool.true_eq_false, Bool.false_eq_true, eq_self, reduceCtorEq, Bool.or_true, Bool.true_or, Bool.or_false, Bool.false_or])
    · have w0 : fX12_viewed [.ref 0, .int (zn i), .int 0] R = some (.inl (some (.int (rd A (3 + c) (zn i) 0))), R) := (r_vw H (own_seen H h60 d1)).1 0 (by decide)
      (rw [e_X12_together_5]; simp only [e_X12_together, zo_iload, zo_lload, zo_aload, zo_istore, zo_lstore, zo_astore, zo_iinc, zo_pushI, zo_pushL, zo_null, zo_ii, zo_iid, zo_ll, zo_li, zo_lcmp, zo_i2l, zo_l2i, zo_dup, zo_dup2, zo_pop, zo_goto, zo_if, zo_icmp, zo_ifnull, zo_gets, zo_mm, zo_throw, zo_ret, zo_aret, zo_lret, q_iret_f, q_iret_1, q_iret_0, q_iret_b, q_c8_0, q_c8_1, q_c8_2, q_c8_3, q_c8_4, q_set_0, q_set_1i, q_set_1r, q_set_1n, q_set_1N, q_set_s, q_set_1j, q_bk_v, q_bk_n, q_if, zb_ite, cond_true, cond_false, List.getElem?_cons_zero, List.getElem?_cons_succ, Nat.reduceAdd, q_set_1l, q_set2_0, q_set2_1i, q_set2_1r, q_set2_1n, q_set2_s, n5, hc, ho, d1, w0, if_true, if_false, zb_eq0, zb_eq1, zn_1, not_true_eq_false, not_false_eq_true, ite_true, ite_false, if_true, if_false, q_iret_0, q_iret_1, decide_true, decide_false, decide_not, zb_t, zb_f, z10, z01, cond_true, cond_false, Bool.and_true, Bool.true_and, Bool.and_false, Bool.false_and, Bool.not_true, Bool.not_false, true_and, and_true, false_and, and_false, true_or, or_true, false_or, or_false, Bool.true_eq_false, Bool.false_eq_true, eq_self, reduceCtorEq, Bool.or_true, Bool.true_or, Bool.or_false, Bool.false_or]))
  rw [st]
  refine (show _ = _ from lp).trans ?_
  have hc := zk_out hn
  (rw [e_X12_together_5]; simp only [e_X12_together, zo_iload, zo_lload, zo_aload, zo_istore, zo_lstore, zo_astore, zo_iinc, zo_pushI, zo_pushL, zo_null, zo_ii, zo_iid, zo_ll, zo_li, zo_lcmp, zo_i2l, zo_l2i, zo_dup, zo_dup2, zo_pop, zo_goto, zo_if, zo_icmp, zo_ifnull, zo_gets, zo_mm, zo_throw, zo_ret, zo_aret, zo_lret, q_iret_f, q_iret_1, q_iret_0, q_iret_b, q_c8_0, q_c8_1, q_c8_2, q_c8_3, q_c8_4, q_set_0, q_set_1i, q_set_1r, q_set_1n, q_set_1N, q_set_s, q_set_1j, q_bk_v, q_bk_n, q_if, zb_ite, cond_true, cond_false, List.getElem?_cons_zero, List.getElem?_cons_succ, Nat.reduceAdd, q_set_1l, q_set2_0, q_set2_1i, q_set2_1r, q_set2_1n, q_set2_s, n5, hc, if_true, if_false, zb_eq0, zb_eq1, zn_1, not_true_eq_false, not_false_eq_true, ite_true, ite_false, if_true, if_false, q_iret_0, q_iret_1, decide_true, decide_false, decide_not, zb_t, zb_f, z10, z01, cond_true, cond_false, Bool.and_true, Bool.true_and, Bool.and_false, Bool.false_and, Bool.not_true, Bool.not_false, true_and, and_true, false_and, and_false, true_or, or_true, false_or, or_false, Bool.true_eq_false, Bool.false_eq_true, eq_self, reduceCtorEq, Bool.or_true, Bool.true_or, Bool.or_false, Bool.false_or])
theorem r_together1 (H : rAt A R c) (d : Int32) : fX12_together [.ref 0, .int d, .int 1] R = some (.inl (some (.int (zsum (nv A 1) fun i => bif owned A (3 + c) (zn i) 1 d then zn (cntRun A (3 + c) (nv A (3 + c)) (zn i)) else 0))), R) := by
  have hn := rl_n60 H.1
  have n5 := H.1.2.1.1.2
  have n10 : ((1 : Int32) = 0) = False := eq_false (by decide)
  have st : fX12_together [.ref 0, .int d, .int 1] R = zz_ev tX12_together 5 [some (.ref 0), some (.int d), some (.int 1), some (.int (zsum 0 fun i => bif owned A (3 + c) (zn i) 1 d then zn (cntRun A (3 + c) (nv A (3 + c)) (zn i)) else 0)), some (.int (zn 0))] [] R := by
    rw [s_X12_together]
    (simp only [e_X12_together, zo_iload, zo_lload, zo_aload, zo_istore, zo_lstore, zo_astore, zo_iinc, zo_pushI, zo_pushL, zo_null, zo_ii, zo_iid, zo_ll, zo_li, zo_lcmp, zo_i2l, zo_l2i, zo_dup, zo_dup2, zo_pop, zo_goto, zo_if, zo_icmp, zo_ifnull, zo_gets, zo_mm, zo_throw, zo_ret, zo_aret, zo_lret, q_iret_f, q_iret_1, q_iret_0, q_iret_b, q_c8_0, q_c8_1, q_c8_2, q_c8_3, q_c8_4, q_set_0, q_set_1i, q_set_1r, q_set_1n, q_set_1N, q_set_s, q_set_1j, q_bk_v, q_bk_n, q_if, zb_ite, cond_true, cond_false, List.getElem?_cons_zero, List.getElem?_cons_succ, Nat.reduceAdd, q_set_1l, q_set2_0, q_set2_1i, q_set2_1r, q_set2_1n, q_set2_s, if_true, if_false, zb_eq0, zb_eq1, zn_1, not_true_eq_false, not_false_eq_true, ite_true, ite_false, if_true, if_false, q_iret_0, q_iret_1, decide_true, decide_false, decide_not, zb_t, zb_f, z10, z01, cond_true, cond_false, Bool.and_true, Bool.true_and, Bool.and_false, Bool.false_and, Bool.not_true, Bool.not_false, true_and, and_true, false_and, and_false, true_or, or_true, false_or, or_false, Bool.true_eq_false, Bool.false_eq_true, eq_self, reduceCtorEq, Bool.or_true, Bool.true_or, Bool.or_false, Bool.false_or])
    rfl
  have lp := zl_go (E := fun i => zz_ev tX12_together 5 [some (.ref 0), some (.int d), some (.int 1), some (.int (zsum i fun i => bif owned A (3 + c) (zn i) 1 d then zn (cntRun A (3 + c) (nv A (3 + c)) (zn i)) else 0)), some (.int (zn i))] [] R) (nv A 1) (fun i hi => by
    have hc := zk_in hi hn
    have h60 := lt_n60 H.1 hi
    have ho := r_owned H h60 1 d
    rw [zsum_s]
    cases d1 : owned A (3 + c) (zn i) 1 d
    · (rw [e_X12_together_5]; simp only [e_X12_together, zo_iload, zo_lload, zo_aload, zo_istore, zo_lstore, zo_astore, zo_iinc, zo_pushI, zo_pushL, zo_null, zo_ii, zo_iid, zo_ll, zo_li, zo_lcmp, zo_i2l, zo_l2i, zo_dup, zo_dup2, zo_pop, zo_goto, zo_if, zo_icmp, zo_ifnull, zo_gets, zo_mm, zo_throw, zo_ret, zo_aret, zo_lret, q_iret_f, q_iret_1, q_iret_0, q_iret_b, q_c8_0, q_c8_1, q_c8_2, q_c8_3, q_c8_4, q_set_0, q_set_1i, q_set_1r, q_set_1n, q_set_1N, q_set_s, q_set_1j, q_bk_v, q_bk_n, q_if, zb_ite, cond_true, cond_false, List.getElem?_cons_zero, List.getElem?_cons_succ, Nat.reduceAdd, q_set_1l, q_set2_0, q_set2_1i, q_set2_1r, q_set2_1n, q_set2_s, n5, hc, ho, d1, Int32.add_zero, if_true, if_false, zb_eq0, zb_eq1, zn_1, not_true_eq_false, not_false_eq_true, ite_true, ite_false, if_true, if_false, q_iret_0, q_iret_1, decide_true, decide_false, decide_not, zb_t, zb_f, z10, z01, cond_true, cond_false, Bool.and_true, Bool.true_and, Bool.and_false, Bool.false_and, Bool.not_true, Bool.not_false, true_and, and_true, false_and, and_false, true_or, or_true, false_or, or_false, Bool.true_eq_false, Bool.false_eq_true, eq_self, reduceCtorEq, Bool.or_true, Bool.true_or, Bool.or_false, Bool.false_or])
    · have w0 := r_pods2 H (w := zn i) (zn_m1 (by omega)).mp
      (rw [e_X12_together_5]; simp only [e_X12_together, zo_iload, zo_lload, zo_aload, zo_istore, zo_lstore, zo_astore, zo_iinc, zo_pushI, zo_pushL, zo_null, zo_ii, zo_iid, zo_ll, zo_li, zo_lcmp, zo_i2l, zo_l2i, zo_dup, zo_dup2, zo_pop, zo_goto, zo_if, zo_icmp, zo_ifnull, zo_gets, zo_mm, zo_throw, zo_ret, zo_aret, zo_lret, q_iret_f, q_iret_1, q_iret_0, q_iret_b, q_c8_0, q_c8_1, q_c8_2, q_c8_3, q_c8_4, q_set_0, q_set_1i, q_set_1r, q_set_1n, q_set_1N, q_set_s, q_set_1j, q_bk_v, q_bk_n, q_if, zb_ite, cond_true, cond_false, List.getElem?_cons_zero, List.getElem?_cons_succ, Nat.reduceAdd, q_set_1l, q_set2_0, q_set2_1i, q_set2_1r, q_set2_1n, q_set2_s, n5, hc, ho, d1, n10, w0, if_true, if_false, zb_eq0, zb_eq1, zn_1, not_true_eq_false, not_false_eq_true, ite_true, ite_false, if_true, if_false, q_iret_0, q_iret_1, decide_true, decide_false, decide_not, zb_t, zb_f, z10, z01, cond_true, cond_false, Bool.and_true, Bool.true_and, Bool.and_false, Bool.false_and, Bool.not_true, Bool.not_false, true_and, and_true, false_and, and_false, true_or, or_true, false_or, or_false, Bool.true_eq_false, Bool.false_eq_true, eq_self, reduceCtorEq, Bool.or_true, Bool.true_or, Bool.or_false, Bool.false_or]))
  rw [st]
  refine (show _ = _ from lp).trans ?_
  have hc := zk_out hn
  (rw [e_X12_together_5]; simp only [e_X12_together, zo_iload, zo_lload, zo_aload, zo_istore, zo_lstore, zo_astore, zo_iinc, zo_pushI, zo_pushL, zo_null, zo_ii, zo_iid, zo_ll, zo_li, zo_lcmp, zo_i2l, zo_l2i, zo_dup, zo_dup2, zo_pop, zo_goto, zo_if, zo_icmp, zo_ifnull, zo_gets, zo_mm, zo_throw, zo_ret, zo_aret, zo_lret, q_iret_f, q_iret_1, q_iret_0, q_iret_b, q_c8_0, q_c8_1, q_c8_2, q_c8_3, q_c8_4, q_set_0, q_set_1i, q_set_1r, q_set_1n, q_set_1N, q_set_s, q_set_1j, q_bk_v, q_bk_n, q_if, zb_ite, cond_true, cond_false, List.getElem?_cons_zero, List.getElem?_cons_succ, Nat.reduceAdd, q_set_1l, q_set2_0, q_set2_1i, q_set2_1r, q_set2_1n, q_set2_s, n5, hc, if_true, if_false, zb_eq0, zb_eq1, zn_1, not_true_eq_false, not_false_eq_true, ite_true, ite_false, if_true, if_false, q_iret_0, q_iret_1, decide_true, decide_false, decide_not, zb_t, zb_f, z10, z01, cond_true, cond_false, Bool.and_true, Bool.true_and, Bool.and_false, Bool.false_and, Bool.not_true, Bool.not_false, true_and, and_true, false_and, and_false, true_or, or_true, false_or, or_false, Bool.true_eq_false, Bool.false_eq_true, eq_self, reduceCtorEq, Bool.or_true, Bool.true_or, Bool.or_false, Bool.false_or])
end
end

section
/-! the scheduler: who has to go, and its serving -/
def setV (M : zzMd) (V : Nat → Int32) : zzMd := (fun a b => if a = 71 then V b else M.1 a b, M.2)
theorem setV_1 (M : zzMd) (V : Nat → Int32) (a b : Nat) : (setV M V).1 a b = if a = 71 then V b else M.1 a b := rfl
theorem setV_s (M : zzMd) (V : Nat → Int32) (k : Nat) (x : Int32) : zz_sI (setV M V) 71 k x = setV M (dUp V k x) := by
  unfold zz_sI setV dUp
  refine Prod.ext (funext fun a => funext fun b => ?_) rfl
  by_cases h : a = 71 <;> by_cases h2 : b = k <;> simp [h, h2]
theorem setV_0 (M : zzMd) : setV M (M.1 71) = M := by
  unfold setV
  refine Prod.ext (funext fun a => funext fun b => ?_) rfl
  by_cases h : a = 71 <;> simp [h]
theorem nz_V (M : zzMd) (V : Nat → Int32) : nz (setV M V) = setV (nz M) V := by
  unfold nz setV
  refine Prod.ext (funext fun a => funext fun b => ?_) rfl
  by_cases h : a = 71
  · rw [h]; rfl
  · simp [h]
theorem zIC_V71 {A : zzMd} {V : Nat → Int32} : zIC (setV A V) ↔ zIC A := by
  have key : ∀ a b, a ≠ 71 → (setV A V).1 a b = A.1 a b := fun a b h => if_neg h
  have k2 : ∀ c b, c < 8 → (setV A V).1 (21 + 6 * c) b = A.1 (21 + 6 * c) b := fun c b _ => key _ _ (by omega)
  have k3 : ∀ c b, c < 8 → (setV A V).1 (3 + c) b = A.1 (3 + c) b := fun c b h => key _ _ (by omega)
  have k4 : ∀ c b, c < 8 → (setV A V).1 (22 + 6 * c) b = A.1 (22 + 6 * c) b := fun c b _ => key _ _ (by omega)
  unfold zIC
  refine and_congr Iff.rfl (and_congr Iff.rfl (forall_congr' fun c => forall_congr' fun hc => ?_))
  unfold zIV zIQ nv ve qn qk
  simp only [k2 c _ hc, k3 c _ hc, k4 c _ hc]
theorem zCt_V {M B : zzMd} {w : Int32} (h : zCt M w B) (V : Nat → Int32) : zCt M w (setV B V) :=
  ⟨⟨zIC_V71.mpr h.1.1, h.1.2.1, h.1.2.2⟩, h.2.1, h.2.2⟩
def vic (A : zzMd) (x nd : Int32) : Bool := decide (rd A 6 x 28 = nd) && (stay A 6 x 2 && (decide (rd A 6 x 29 = 0) || decide (rd A 6 x 29 = 1)))
def rnk (A : zzMd) (x : Int32) : Int32 := rd A 6 x 1 / 4
theorem sp_isVictim {M B : zzMd} (h : zB6 M B) (x nd : Int32) : fX8_isVictim [.ref 6, .int x, .int nd] B = some (.inl (some (.int (zb (vic M x nd)))), B) := by
  have hr := b6_read h
  have hs := b6_stay h
  rw [s_X8_isVictim]
  unfold vic
  by_cases c1 : rd M 6 x 28 = nd <;> cases c2 : stay M 6 x 2 <;> by_cases c3 : rd M 6 x 29 = 0 <;> by_cases c4 : rd M 6 x 29 = 1 <;> (first | (exfalso; rw [c3] at c4; revert c4; decide) | (simp only [e_X8_isVictim, zo_iload, zo_lload, zo_aload, zo_istore, zo_lstore, zo_astore, zo_iinc, zo_pushI, zo_pushL, zo_null, zo_ii, zo_iid, zo_ll, zo_li, zo_lcmp, zo_i2l, zo_l2i, zo_dup, zo_dup2, zo_pop, zo_goto, zo_if, zo_icmp, zo_ifnull, zo_gets, zo_mm, zo_throw, zo_ret, zo_aret, zo_lret, q_iret_f, q_iret_1, q_iret_0, q_iret_b, q_c8_0, q_c8_1, q_c8_2, q_c8_3, q_c8_4, q_set_0, q_set_1i, q_set_1r, q_set_1n, q_set_1N, q_set_s, q_set_1j, q_bk_v, q_bk_n, q_if, zb_ite, cond_true, cond_false, List.getElem?_cons_zero, List.getElem?_cons_succ, Nat.reduceAdd, hr, hs, c1, c2, c3, c4, if_true, if_false, zb_eq0, zb_eq1, zn_1, not_true_eq_false, not_false_eq_true, ite_true, ite_false, if_true, if_false, q_iret_0, q_iret_1, decide_true, decide_false, decide_not, zb_t, zb_f, z10, z01, cond_true, cond_false, Bool.and_true, Bool.true_and, Bool.and_false, Bool.false_and, Bool.not_true, Bool.not_false, true_and, and_true, false_and, and_false, true_or, or_true, false_or, or_false, Bool.true_eq_false, Bool.false_eq_true, eq_self, reduceCtorEq, Bool.or_true, Bool.true_or, Bool.or_false, Bool.false_or]))
theorem sp_rankOf {M B : zzMd} (h : zB6 M B) (x : Int32) : fX8_rankOf [.ref 6, .int x] B = some (.inl (some (.int (rnk M x))), B) := by
  have hr := b6_read h
  have h4 : ((4 : Int32) = 0) = False := eq_false (by decide)
  rw [s_X8_rankOf]
  (simp only [e_X8_rankOf, zo_iload, zo_lload, zo_aload, zo_istore, zo_lstore, zo_astore, zo_iinc, zo_pushI, zo_pushL, zo_null, zo_ii, zo_iid, zo_ll, zo_li, zo_lcmp, zo_i2l, zo_l2i, zo_dup, zo_dup2, zo_pop, zo_goto, zo_if, zo_icmp, zo_ifnull, zo_gets, zo_mm, zo_throw, zo_ret, zo_aret, zo_lret, q_iret_f, q_iret_1, q_iret_0, q_iret_b, q_c8_0, q_c8_1, q_c8_2, q_c8_3, q_c8_4, q_set_0, q_set_1i, q_set_1r, q_set_1n, q_set_1N, q_set_s, q_set_1j, q_bk_v, q_bk_n, q_if, zb_ite, cond_true, cond_false, List.getElem?_cons_zero, List.getElem?_cons_succ, Nat.reduceAdd, hr, h4, if_true, if_false, zb_eq0, zb_eq1, zn_1, not_true_eq_false, not_false_eq_true, ite_true, ite_false, if_true, if_false, q_iret_0, q_iret_1, decide_true, decide_false, decide_not, zb_t, zb_f, z10, z01, cond_true, cond_false, Bool.and_true, Bool.true_and, Bool.and_false, Bool.false_and, Bool.not_true, Bool.not_false, true_and, and_true, false_and, and_false, true_or, or_true, false_or, or_false, Bool.true_eq_false, Bool.false_eq_true, eq_self, reduceCtorEq, Bool.or_true, Bool.true_or, Bool.or_false, Bool.false_or])
  rfl
def vin (A : zzMd) (nd r : Int32) : Nat → Int32 × Nat × (Nat → Int32) → Int32 × Nat × (Nat → Int32)
  | 0, s => s
  | p + 1, s => if s.1 ≤ 0 then s else vin A nd r p (bif vic A (zn p) nd && decide (rnk A (zn p) = r) then (s.1 - znd (rd A 6 (zn p) 1), s.2.1 + 1, dUp s.2.2 s.2.1 (zn p)) else s)
def vout (A : zzMd) (nd : Int32) (n R : Nat) (s : Int32 × Nat × (Nat → Int32)) : Int32 × Nat × (Nat → Int32) := zfold R (fun r s => vin A nd (zn r) n s) s
/-! how many they can be -/
theorem zcnt_mono {P Q : Nat → Bool} : ∀ {n : Nat}, (∀ i, i < n → P i = true → Q i = true) → zcnt n P ≤ zcnt n Q
  | 0, _ => Nat.le_refl 0
  | n + 1, h => by
    have h1 := zcnt_mono (P := P) (Q := Q) (n := n) fun i hi => h i (Nat.lt_succ_of_lt hi)
    have h2 := h n (Nat.lt_succ_self n)
    rw [zcnt_s, zcnt_s]
    cases hp : P n
    · rw [cond_false]; omega
    · rw [h2 hp, cond_true]; omega
theorem zcnt_one {P Q : Nat → Bool} {q : Nat} (hP : P q = false) (hQ : Q q = true) (h : ∀ i, P i = true → Q i = true) : ∀ {n : Nat}, q < n → zcnt n P + 1 ≤ zcnt n Q
  | 0, hq => absurd hq (Nat.not_lt_zero q)
  | n + 1, hq => by
    rw [zcnt_s, zcnt_s]
    rcases Nat.lt_or_eq_of_le (Nat.le_of_lt_succ hq) with h1 | h1
    · have h2 := zcnt_one hP hQ h h1
      cases hp : P n
      · rw [cond_false]; omega
      · rw [h n hp, cond_true]; omega
    · have h2 := zcnt_mono (P := P) (Q := Q) (n := n) fun i _ => h i
      rw [← h1, hP, hQ, cond_true, cond_false]
      rw [← h1] at h2
      omega
def vK (A : zzMd) (n r q : Nat) : Nat := zcnt n fun p => !(zall r fun t => !decide (rnk A (zn p) = zn t)) || (decide (q ≤ p) && decide (rnk A (zn p) = zn r))
theorem vK_le (A : zzMd) (n r q : Nat) : vK A n r q ≤ n := zcnt_le _ _
theorem vK_down (A : zzMd) (n r q : Nat) : vK A n r (q + 1) ≤ vK A n r q := zcnt_mono fun i _ h => by
  rcases (Bool.or_eq_true _ _).mp h with h1 | h1
  · rw [h1]; rfl
  · rw [Bool.and_eq_true] at h1
    have h2 : q ≤ i := by have := of_decide_eq_true h1.1; omega
    rw [h1.2, decide_eq_true h2, Bool.and_self, Bool.or_true]
theorem vK_step {A : zzMd} {n r q : Nat} (hq : q < n) (hr : r < 2147483648) (h : rnk A (zn q) = zn r) : vK A n r (q + 1) + 1 ≤ vK A n r q := by
  refine zcnt_one (q := q) ?_ ?_ (fun i h => ?_) hq
  · have h1 : (zall r fun t => !decide (rnk A (zn q) = zn t)) = true := zall_iff.mpr fun t ht => by
      rw [h, decide_eq_false (fun e => by rw [zn_inj (by omega) (by omega)] at e; omega)]; rfl
    have h2 : decide (q + 1 ≤ q) = false := decide_eq_false (by omega)
    rw [h1, h2]; rfl
  · rw [decide_eq_true h, decide_eq_true (Nat.le_refl q), Bool.and_self, Bool.or_true]
  · rcases (Bool.or_eq_true _ _).mp h with h1 | h1
    · rw [h1]; rfl
    · rw [Bool.and_eq_true] at h1
      have h2 : q ≤ i := by have := of_decide_eq_true h1.1; omega
      rw [h1.2, decide_eq_true h2, Bool.and_self, Bool.or_true]
theorem vK_next (A : zzMd) (n r : Nat) : vK A n r 0 ≤ vK A n (r + 1) n := zcnt_mono fun i _ h => by
  rw [zall_s]
  rcases (Bool.or_eq_true _ _).mp h with h1 | h1
  · have h2 : (zall r fun t => !decide (rnk A (zn i) = zn t)) = false := by simpa using h1
    rw [h2]; rfl
  · rw [Bool.and_eq_true] at h1
    rw [h1.2]; simp
def vI (A : zzMd) (n r q : Nat) (s : Int32 × Nat × (Nat → Int32)) : Prop := s.2.1 ≤ vK A n r q ∧ ∀ j, j < s.2.1 → ∃ p, p < n ∧ s.2.2 j = zn p
theorem vI_step {A : zzMd} {nd : Int32} {n r q : Nat} {s : Int32 × Nat × (Nat → Int32)} (hq : q < n) (hr : r < 2147483648) (h : vI A n r (q + 1) s) :
    vI A n r q (bif vic A (zn q) nd && decide (rnk A (zn q) = zn r) then (s.1 - znd (rd A 6 (zn q) 1), s.2.1 + 1, dUp s.2.2 s.2.1 (zn q)) else s) := by
  obtain ⟨h1, h2⟩ := h
  cases c : vic A (zn q) nd && decide (rnk A (zn q) = zn r)
  · exact ⟨Nat.le_trans h1 (vK_down A n r q), h2⟩
  · rw [Bool.and_eq_true] at c
    have h3 := vK_step hq hr (of_decide_eq_true c.2)
    refine ⟨Nat.le_trans (Nat.succ_le_succ h1) h3, fun j hj => ?_⟩
    show ∃ p, p < n ∧ (if j = s.2.1 then zn q else s.2.2 j) = zn p
    by_cases e : j = s.2.1
    · rw [if_pos e]; exact ⟨q, hq, rfl⟩
    · rw [if_neg e]
      have hj' : j < s.2.1 + 1 := hj
      exact h2 j (by omega)
theorem vI_0 {A : zzMd} {n r : Nat} {s : Int32 × Nat × (Nat → Int32)} : ∀ {q : Nat}, vI A n r q s → vI A n r 0 s
  | 0, h => h
  | q + 1, h => vI_0 (q := q) ⟨Nat.le_trans h.1 (vK_down A n r q), h.2⟩
theorem vin_inv {A : zzMd} {nd : Int32} {n r : Nat} (hr : r < 2147483648) : ∀ (q : Nat) (s : Int32 × Nat × (Nat → Int32)), q ≤ n → vI A n r q s → vI A n r 0 (vin A nd (zn r) q s)
  | 0, _, _, h => h
  | q + 1, s, hq, h => by
    unfold vin
    by_cases c : s.1 ≤ 0
    · rw [if_pos c]; exact vI_0 h
    · rw [if_neg c]; exact vin_inv hr q _ (by omega) (vI_step (by omega) hr h)
theorem vout_s (A : zzMd) (nd : Int32) (n R : Nat) (s : Int32 × Nat × (Nat → Int32)) : vout A nd n (R + 1) s = vin A nd (zn R) n (vout A nd n R s) := rfl
theorem vout_inv {A : zzMd} {nd : Int32} {n : Nat} {s : Int32 × Nat × (Nat → Int32)} (h : s.2.1 = 0) : ∀ (R : Nat), R < 2147483648 → vI A n R n (vout A nd n R s)
  | 0, _ => ⟨by show s.2.1 ≤ _; omega, fun j hj => by have hj' : j < s.2.1 := hj; omega⟩
  | R + 1, hR => by
    have h1 := vin_inv (A := A) (nd := nd) (r := R) (by omega) n _ (Nat.le_refl n) (vout_inv (nd := nd) h R (by omega))
    rw [vout_s]
    exact ⟨Nat.le_trans h1.1 (vK_next A n R), h1.2⟩
section
variable {M B : zzMd} {w : Int32}
theorem sp_vin (h : zCt M w B) (kx nd : Int32) {r : Nat} (hr : r < 2147483648) : ∀ (q : Nat) (s : Int32 × Nat × (Nat → Int32)), q ≤ nv M 6 → vI M (nv M 6) r q s →
    ∃ x, zz_ev tX8_chooseVictims 36 [some (.ref 6), some (.int kx), some (.int nd), some (.int s.1), some (.int (zn s.2.1)), some (.int (zn r)), some (.int (zn q + -1))] [] (setV B s.2.2) =
      zz_ev tX8_chooseVictims 93 [some (.ref 6), some (.int kx), some (.int nd), some (.int (vin M nd (zn r) q s).1), some (.int (zn (vin M nd (zn r) q s).2.1)), some (.int (zn r)), some (.int x)] [] (setV B (vin M nd (zn r) q s).2.2)
  | 0, s, _, _ => by
    refine ⟨zn 0 + -1, ?_⟩
    have c1 : ((zn 0 + -1 : Int32) < 0) = True := eq_true (by decide)
    show _ = zz_ev tX8_chooseVictims 93 [some (.ref 6), some (.int kx), some (.int nd), some (.int s.1), some (.int (zn s.2.1)), some (.int (zn r)), some (.int (zn 0 + -1))] [] (setV B s.2.2)
    generalize hZ : zz_ev tX8_chooseVictims 93 [some (.ref 6), some (.int kx), some (.int nd), some (.int s.1), some (.int (zn s.2.1)), some (.int (zn r)), some (.int (zn 0 + -1))] [] (setV B s.2.2) = Z
    rw [e_X8_chooseVictims_36]
    (simp only [e_X8_chooseVictims, zo_iload, zo_lload, zo_aload, zo_istore, zo_lstore, zo_astore, zo_iinc, zo_pushI, zo_pushL, zo_null, zo_ii, zo_iid, zo_ll, zo_li, zo_lcmp, zo_i2l, zo_l2i, zo_dup, zo_dup2, zo_pop, zo_goto, zo_if, zo_icmp, zo_ifnull, zo_gets, zo_mm, zo_throw, zo_ret, zo_aret, zo_lret, q_iret_f, q_iret_1, q_iret_0, q_iret_b, q_c8_0, q_c8_1, q_c8_2, q_c8_3, q_c8_4, q_set_0, q_set_1i, q_set_1r, q_set_1n, q_set_1N, q_set_s, q_set_1j, q_bk_v, q_bk_n, q_if, zb_ite, cond_true, cond_false, List.getElem?_cons_zero, List.getElem?_cons_succ, Nat.reduceAdd, ↓hZ, c1, if_true, if_false, zb_eq0, zb_eq1, zn_1, not_true_eq_false, not_false_eq_true, ite_true, ite_false, if_true, if_false, q_iret_0, q_iret_1, decide_true, decide_false, decide_not, zb_t, zb_f, z10, z01, cond_true, cond_false, Bool.and_true, Bool.true_and, Bool.and_false, Bool.false_and, Bool.not_true, Bool.not_false, true_and, and_true, false_and, and_false, true_or, or_true, false_or, or_false, Bool.true_eq_false, Bool.false_eq_true, eq_self, reduceCtorEq, Bool.or_true, Bool.true_or, Bool.or_false, Bool.false_or])
  | q + 1, s, hq, hI => by
    have e1 : zn (q + 1) + -1 = zn q := by
      rw [← Int32.sub_eq_add_neg (zn (q + 1)) 1]
      exact zn_sub (b := 1) (by omega)
    have hn := (b6_k h.1).2
    have c1 : ((zn q : Int32) < 0) = False := zn_lt0 (by omega)
    rw [e1]
    unfold vin
    by_cases c2 : s.1 ≤ 0
    · refine ⟨zn q, ?_⟩
      rw [if_pos c2]
      generalize hZ : zz_ev tX8_chooseVictims 93 [some (.ref 6), some (.int kx), some (.int nd), some (.int s.1), some (.int (zn s.2.1)), some (.int (zn r)), some (.int (zn q))] [] (setV B s.2.2) = Z
      rw [e_X8_chooseVictims_36]
      (simp only [e_X8_chooseVictims, zo_iload, zo_lload, zo_aload, zo_istore, zo_lstore, zo_astore, zo_iinc, zo_pushI, zo_pushL, zo_null, zo_ii, zo_iid, zo_ll, zo_li, zo_lcmp, zo_i2l, zo_l2i, zo_dup, zo_dup2, zo_pop, zo_goto, zo_if, zo_icmp, zo_ifnull, zo_gets, zo_mm, zo_throw, zo_ret, zo_aret, zo_lret, q_iret_f, q_iret_1, q_iret_0, q_iret_b, q_c8_0, q_c8_1, q_c8_2, q_c8_3, q_c8_4, q_set_0, q_set_1i, q_set_1r, q_set_1n, q_set_1N, q_set_s, q_set_1j, q_bk_v, q_bk_n, q_if, zb_ite, cond_true, cond_false, List.getElem?_cons_zero, List.getElem?_cons_succ, Nat.reduceAdd, ↓hZ, c1, c2, if_true, if_false, zb_eq0, zb_eq1, zn_1, not_true_eq_false, not_false_eq_true, ite_true, ite_false, if_true, if_false, q_iret_0, q_iret_1, decide_true, decide_false, decide_not, zb_t, zb_f, z10, z01, cond_true, cond_false, Bool.and_true, Bool.true_and, Bool.and_false, Bool.false_and, Bool.not_true, Bool.not_false, true_and, and_true, false_and, and_false, true_or, or_true, false_or, or_false, Bool.true_eq_false, Bool.false_eq_true, eq_self, reduceCtorEq, Bool.or_true, Bool.true_or, Bool.or_false, Bool.false_or])
    · obtain ⟨x, hx⟩ := sp_vin h kx nd hr q _ (by omega) (vI_step (nd := nd) (by omega) hr hI)
      refine ⟨x, ?_⟩
      rw [if_neg c2, ← hx]
      clear hx
      have h1 := (zCt_V h s.2.2).1
      have hv := sp_isVictim h1
      have hk := sp_rankOf h1
      cases c3 : vic M (zn q) nd
      · simp only [Bool.false_and, cond_false]
        rw [e_X8_chooseVictims_36]
        (simp only [e_X8_chooseVictims, zo_iload, zo_lload, zo_aload, zo_istore, zo_lstore, zo_astore, zo_iinc, zo_pushI, zo_pushL, zo_null, zo_ii, zo_iid, zo_ll, zo_li, zo_lcmp, zo_i2l, zo_l2i, zo_dup, zo_dup2, zo_pop, zo_goto, zo_if, zo_icmp, zo_ifnull, zo_gets, zo_mm, zo_throw, zo_ret, zo_aret, zo_lret, q_iret_f, q_iret_1, q_iret_0, q_iret_b, q_c8_0, q_c8_1, q_c8_2, q_c8_3, q_c8_4, q_set_0, q_set_1i, q_set_1r, q_set_1n, q_set_1N, q_set_s, q_set_1j, q_bk_v, q_bk_n, q_if, zb_ite, cond_true, cond_false, List.getElem?_cons_zero, List.getElem?_cons_succ, Nat.reduceAdd, c1, c2, hv, c3, if_true, if_false, zb_eq0, zb_eq1, zn_1, not_true_eq_false, not_false_eq_true, ite_true, ite_false, if_true, if_false, q_iret_0, q_iret_1, decide_true, decide_false, decide_not, zb_t, zb_f, z10, z01, cond_true, cond_false, Bool.and_true, Bool.true_and, Bool.and_false, Bool.false_and, Bool.not_true, Bool.not_false, true_and, and_true, false_and, and_false, true_or, or_true, false_or, or_false, Bool.true_eq_false, Bool.false_eq_true, eq_self, reduceCtorEq, Bool.or_true, Bool.true_or, Bool.or_false, Bool.false_or])
      by_cases c4 : rnk M (zn q) = zn r
      · have k1 := Nat.le_trans (Nat.succ_le_succ hI.1) (Nat.le_trans (vK_step (by omega) hr c4) (vK_le M (nv M 6) r q))
        have b1 : zz_inb (zn s.2.1) 60 = true := zn_inT (by omega) (by decide)
        have x1 : zz_ix (zn s.2.1) = s.2.1 := zn_ix (by omega)
        have h2 := (zCt_V h (dUp s.2.2 s.2.1 (zn q))).1
        have hnd := b6_need h2
        simp only [c4, decide_true, Bool.and_self, cond_true]
        rw [e_X8_chooseVictims_36]
        (simp only [e_X8_chooseVictims, zo_iload, zo_lload, zo_aload, zo_istore, zo_lstore, zo_astore, zo_iinc, zo_pushI, zo_pushL, zo_null, zo_ii, zo_iid, zo_ll, zo_li, zo_lcmp, zo_i2l, zo_l2i, zo_dup, zo_dup2, zo_pop, zo_goto, zo_if, zo_icmp, zo_ifnull, zo_gets, zo_mm, zo_throw, zo_ret, zo_aret, zo_lret, q_iret_f, q_iret_1, q_iret_0, q_iret_b, q_c8_0, q_c8_1, q_c8_2, q_c8_3, q_c8_4, q_set_0, q_set_1i, q_set_1r, q_set_1n, q_set_1N, q_set_s, q_set_1j, q_bk_v, q_bk_n, q_if, zb_ite, cond_true, cond_false, List.getElem?_cons_zero, List.getElem?_cons_succ, Nat.reduceAdd, c1, c2, hv, hk, c3, c4, b1, x1, q_aC, setV_s, hnd, if_true, if_false, zb_eq0, zb_eq1, zn_1, not_true_eq_false, not_false_eq_true, ite_true, ite_false, if_true, if_false, q_iret_0, q_iret_1, decide_true, decide_false, decide_not, zb_t, zb_f, z10, z01, cond_true, cond_false, Bool.and_true, Bool.true_and, Bool.and_false, Bool.false_and, Bool.not_true, Bool.not_false, true_and, and_true, false_and, and_false, true_or, or_true, false_or, or_false, Bool.true_eq_false, Bool.false_eq_true, eq_self, reduceCtorEq, Bool.or_true, Bool.true_or, Bool.or_false, Bool.false_or])
      · simp only [c4, decide_false, Bool.and_false, cond_false]
        rw [e_X8_chooseVictims_36]
        (simp only [e_X8_chooseVictims, zo_iload, zo_lload, zo_aload, zo_istore, zo_lstore, zo_astore, zo_iinc, zo_pushI, zo_pushL, zo_null, zo_ii, zo_iid, zo_ll, zo_li, zo_lcmp, zo_i2l, zo_l2i, zo_dup, zo_dup2, zo_pop, zo_goto, zo_if, zo_icmp, zo_ifnull, zo_gets, zo_mm, zo_throw, zo_ret, zo_aret, zo_lret, q_iret_f, q_iret_1, q_iret_0, q_iret_b, q_c8_0, q_c8_1, q_c8_2, q_c8_3, q_c8_4, q_set_0, q_set_1i, q_set_1r, q_set_1n, q_set_1N, q_set_s, q_set_1j, q_bk_v, q_bk_n, q_if, zb_ite, cond_true, cond_false, List.getElem?_cons_zero, List.getElem?_cons_succ, Nat.reduceAdd, c1, c2, hv, hk, c3, c4, if_true, if_false, zb_eq0, zb_eq1, zn_1, not_true_eq_false, not_false_eq_true, ite_true, ite_false, if_true, if_false, q_iret_0, q_iret_1, decide_true, decide_false, decide_not, zb_t, zb_f, z10, z01, cond_true, cond_false, Bool.and_true, Bool.true_and, Bool.and_false, Bool.false_and, Bool.not_true, Bool.not_false, true_and, and_true, false_and, and_false, true_or, or_true, false_or, or_false, Bool.true_eq_false, Bool.false_eq_true, eq_self, reduceCtorEq, Bool.or_true, Bool.true_or, Bool.or_false, Bool.false_or])
def cv (A : zzMd) (o k : Nat) (V : Nat → Int32) : Int32 × (Nat → Int32) :=
  (if (vout A (zn k) (nv A 6) (zz_ix (rnk A (zn o))) (znd (rd A 6 (zn o) 1) - lft A k, 0, V)).1 ≤ 0 then zn (vout A (zn k) (nv A 6) (zz_ix (rnk A (zn o))) (znd (rd A 6 (zn o) 1) - lft A k, 0, V)).2.1 else -1, (vout A (zn k) (nv A 6) (zz_ix (rnk A (zn o))) (znd (rd A 6 (zn o) 1) - lft A k, 0, V)).2.2)
theorem sp_chooseVictims (h : zCt M w B) {o k : Nat} (hk : k < 60) (hR : rnk M (zn o) = zn (zz_ix (rnk M (zn o))) ∧ zz_ix (rnk M (zn o)) ≤ 60) (V : Nat → Int32) :
    fX8_chooseVictims [.ref 6, .int (zn o), .int (zn k)] (setV B V) = some (.inl (some (.int (cv M o k V).1)), setV B (cv M o k V).2) := by
  obtain ⟨hR1, hR2⟩ := hR
  unfold cv
  generalize zz_ix (rnk M (zn o)) = R at hR1 hR2 ⊢
  have hn := (b6_k h.1).2
  have st : fX8_chooseVictims [.ref 6, .int (zn o), .int (zn k)] (setV B V) = zz_ev tX8_chooseVictims 18 [some (.ref 6), some (.int (zn o)), some (.int (zn k)), some (.int (znd (rd M 6 (zn o) 1) - lft M k)), some (.int (zn 0)), some (.int (zn 0)), zj none] [] (setV B V) := by
    have hnd := b6_need (zCt_V h V).1
    have hl := sp_roomLeft (zCt_V h V) hk
    rw [s_X8_chooseVictims]
    (simp only [e_X8_chooseVictims, zo_iload, zo_lload, zo_aload, zo_istore, zo_lstore, zo_astore, zo_iinc, zo_pushI, zo_pushL, zo_null, zo_ii, zo_iid, zo_ll, zo_li, zo_lcmp, zo_i2l, zo_l2i, zo_dup, zo_dup2, zo_pop, zo_goto, zo_if, zo_icmp, zo_ifnull, zo_gets, zo_mm, zo_throw, zo_ret, zo_aret, zo_lret, q_iret_f, q_iret_1, q_iret_0, q_iret_b, q_c8_0, q_c8_1, q_c8_2, q_c8_3, q_c8_4, q_set_0, q_set_1i, q_set_1r, q_set_1n, q_set_1N, q_set_s, q_set_1j, q_bk_v, q_bk_n, q_if, zb_ite, cond_true, cond_false, List.getElem?_cons_zero, List.getElem?_cons_succ, Nat.reduceAdd, hnd, hl, if_true, if_false, zb_eq0, zb_eq1, zn_1, not_true_eq_false, not_false_eq_true, ite_true, ite_false, if_true, if_false, q_iret_0, q_iret_1, decide_true, decide_false, decide_not, zb_t, zb_f, z10, z01, cond_true, cond_false, Bool.and_true, Bool.true_and, Bool.and_false, Bool.false_and, Bool.not_true, Bool.not_false, true_and, and_true, false_and, and_false, true_or, or_true, false_or, or_false, Bool.true_eq_false, Bool.false_eq_true, eq_self, reduceCtorEq, Bool.or_true, Bool.true_or, Bool.or_false, Bool.false_or])
    rfl
  generalize hs0 : (znd (rd M 6 (zn o) 1) - lft M k, 0, V) = s0
  have e0 : s0.2.1 = 0 := by rw [← hs0]
  have st2 : fX8_chooseVictims [.ref 6, .int (zn o), .int (zn k)] (setV B V) = zz_ev tX8_chooseVictims 18 [some (.ref 6), some (.int (zn o)), some (.int (zn k)), some (.int s0.1), some (.int (zn s0.2.1)), some (.int (zn 0)), zj none] [] (setV B s0.2.2) := by
    rw [st, ← hs0]
  obtain ⟨j, lp⟩ := zl_goJ (E := fun r (j : Option Int32) => zz_ev tX8_chooseVictims 18 [some (.ref 6), some (.int (zn o)), some (.int (zn k)), some (.int (vout M (zn k) (nv M 6) r s0).1), some (.int (zn (vout M (zn k) (nv M 6) r s0).2.1)), some (.int (zn r)), zj j] [] (setV B (vout M (zn k) (nv M 6) r s0).2.2)) R (fun r hr j => by
    have hI := vout_inv (A := M) (nd := zn k) (n := nv M 6) e0 r (by omega)
    rw [vout_s]
    generalize vout M (zn k) (nv M 6) r s0 = s at hI ⊢
    obtain ⟨x, hx⟩ := sp_vin h (zn o) (zn k) (r := r) (by omega) (nv M 6) s (Nat.le_refl _) hI
    generalize vin M (zn k) (zn r) (nv M 6) s = s' at hx ⊢
    refine ⟨some x, ?_⟩
    have hc : (zn R ≤ zn r) = False := zk_lt (n := R) hr hR2 (by decide)
    have hk := sp_rankOf (zCt_V h s.2.2).1 (zn o)
    rw [hR1] at hk
    have hkn := (b6_k (zCt_V h s.2.2).1).1
    have es : zn (nv M 6) - 1 = zn (nv M 6) + -1 := Int32.sub_eq_add_neg _ _
    have s1 : zz_ev tX8_chooseVictims 18 [some (.ref 6), some (.int (zn o)), some (.int (zn k)), some (.int s.1), some (.int (zn s.2.1)), some (.int (zn r)), zj j] [] (setV B s.2.2) = zz_ev tX8_chooseVictims 36 [some (.ref 6), some (.int (zn o)), some (.int (zn k)), some (.int s.1), some (.int (zn s.2.1)), some (.int (zn r)), some (.int (zn (nv M 6) + -1))] [] (setV B s.2.2) := by
      (rw [e_X8_chooseVictims_18]; simp only [e_X8_chooseVictims, zo_iload, zo_lload, zo_aload, zo_istore, zo_lstore, zo_astore, zo_iinc, zo_pushI, zo_pushL, zo_null, zo_ii, zo_iid, zo_ll, zo_li, zo_lcmp, zo_i2l, zo_l2i, zo_dup, zo_dup2, zo_pop, zo_goto, zo_if, zo_icmp, zo_ifnull, zo_gets, zo_mm, zo_throw, zo_ret, zo_aret, zo_lret, q_iret_f, q_iret_1, q_iret_0, q_iret_b, q_c8_0, q_c8_1, q_c8_2, q_c8_3, q_c8_4, q_set_0, q_set_1i, q_set_1r, q_set_1n, q_set_1N, q_set_s, q_set_1j, q_bk_v, q_bk_n, q_if, zb_ite, cond_true, cond_false, List.getElem?_cons_zero, List.getElem?_cons_succ, Nat.reduceAdd, hc, hk, hkn, es, if_true, if_false, zb_eq0, zb_eq1, zn_1, not_true_eq_false, not_false_eq_true, ite_true, ite_false, if_true, if_false, q_iret_0, q_iret_1, decide_true, decide_false, decide_not, zb_t, zb_f, z10, z01, cond_true, cond_false, Bool.and_true, Bool.true_and, Bool.and_false, Bool.false_and, Bool.not_true, Bool.not_false, true_and, and_true, false_and, and_false, true_or, or_true, false_or, or_false, Bool.true_eq_false, Bool.false_eq_true, eq_self, reduceCtorEq, Bool.or_true, Bool.true_or, Bool.or_false, Bool.false_or])
    have s2 : zz_ev tX8_chooseVictims 93 [some (.ref 6), some (.int (zn o)), some (.int (zn k)), some (.int s'.1), some (.int (zn s'.2.1)), some (.int (zn r)), some (.int x)] [] (setV B s'.2.2) = zz_ev tX8_chooseVictims 18 [some (.ref 6), some (.int (zn o)), some (.int (zn k)), some (.int s'.1), some (.int (zn s'.2.1)), some (.int (zn (r + 1))), zj (some x)] [] (setV B s'.2.2) := by
      (simp only [e_X8_chooseVictims, zo_iload, zo_lload, zo_aload, zo_istore, zo_lstore, zo_astore, zo_iinc, zo_pushI, zo_pushL, zo_null, zo_ii, zo_iid, zo_ll, zo_li, zo_lcmp, zo_i2l, zo_l2i, zo_dup, zo_dup2, zo_pop, zo_goto, zo_if, zo_icmp, zo_ifnull, zo_gets, zo_mm, zo_throw, zo_ret, zo_aret, zo_lret, q_iret_f, q_iret_1, q_iret_0, q_iret_b, q_c8_0, q_c8_1, q_c8_2, q_c8_3, q_c8_4, q_set_0, q_set_1i, q_set_1r, q_set_1n, q_set_1N, q_set_s, q_set_1j, q_bk_v, q_bk_n, q_if, zb_ite, cond_true, cond_false, List.getElem?_cons_zero, List.getElem?_cons_succ, Nat.reduceAdd, zj_some, if_true, if_false, zb_eq0, zb_eq1, zn_1, not_true_eq_false, not_false_eq_true, ite_true, ite_false, if_true, if_false, q_iret_0, q_iret_1, decide_true, decide_false, decide_not, zb_t, zb_f, z10, z01, cond_true, cond_false, Bool.and_true, Bool.true_and, Bool.and_false, Bool.false_and, Bool.not_true, Bool.not_false, true_and, and_true, false_and, and_false, true_or, or_true, false_or, or_false, Bool.true_eq_false, Bool.false_eq_true, eq_self, reduceCtorEq, Bool.or_true, Bool.true_or, Bool.or_false, Bool.false_or])
    exact s1.trans (hx.trans s2)) none
  rw [st2, show zz_ev tX8_chooseVictims 18 [some (.ref 6), some (.int (zn o)), some (.int (zn k)), some (.int s0.1), some (.int (zn s0.2.1)), some (.int (zn 0)), zj none] [] (setV B s0.2.2) = _ from lp]
  generalize vout M (zn k) (nv M 6) R s0 = s
  have hc : (zn R ≤ zn R) = True := zk_ge hR2 (by decide)
  have hk := sp_rankOf (zCt_V h s.2.2).1 (zn o)
  rw [hR1] at hk
  by_cases c1 : s.1 ≤ 0
  · rw [if_pos c1]
    (rw [e_X8_chooseVictims_18]; simp only [e_X8_chooseVictims, zo_iload, zo_lload, zo_aload, zo_istore, zo_lstore, zo_astore, zo_iinc, zo_pushI, zo_pushL, zo_null, zo_ii, zo_iid, zo_ll, zo_li, zo_lcmp, zo_i2l, zo_l2i, zo_dup, zo_dup2, zo_pop, zo_goto, zo_if, zo_icmp, zo_ifnull, zo_gets, zo_mm, zo_throw, zo_ret, zo_aret, zo_lret, q_iret_f, q_iret_1, q_iret_0, q_iret_b, q_c8_0, q_c8_1, q_c8_2, q_c8_3, q_c8_4, q_set_0, q_set_1i, q_set_1r, q_set_1n, q_set_1N, q_set_s, q_set_1j, q_bk_v, q_bk_n, q_if, zb_ite, cond_true, cond_false, List.getElem?_cons_zero, List.getElem?_cons_succ, Nat.reduceAdd, hc, hk, c1, if_true, if_false, zb_eq0, zb_eq1, zn_1, not_true_eq_false, not_false_eq_true, ite_true, ite_false, if_true, if_false, q_iret_0, q_iret_1, decide_true, decide_false, decide_not, zb_t, zb_f, z10, z01, cond_true, cond_false, Bool.and_true, Bool.true_and, Bool.and_false, Bool.false_and, Bool.not_true, Bool.not_false, true_and, and_true, false_and, and_false, true_or, or_true, false_or, or_false, Bool.true_eq_false, Bool.false_eq_true, eq_self, reduceCtorEq, Bool.or_true, Bool.true_or, Bool.or_false, Bool.false_or])
  · rw [if_neg c1]
    (rw [e_X8_chooseVictims_18]; simp only [e_X8_chooseVictims, zo_iload, zo_lload, zo_aload, zo_istore, zo_lstore, zo_astore, zo_iinc, zo_pushI, zo_pushL, zo_null, zo_ii, zo_iid, zo_ll, zo_li, zo_lcmp, zo_i2l, zo_l2i, zo_dup, zo_dup2, zo_pop, zo_goto, zo_if, zo_icmp, zo_ifnull, zo_gets, zo_mm, zo_throw, zo_ret, zo_aret, zo_lret, q_iret_f, q_iret_1, q_iret_0, q_iret_b, q_c8_0, q_c8_1, q_c8_2, q_c8_3, q_c8_4, q_set_0, q_set_1i, q_set_1r, q_set_1n, q_set_1N, q_set_s, q_set_1j, q_bk_v, q_bk_n, q_if, zb_ite, cond_true, cond_false, List.getElem?_cons_zero, List.getElem?_cons_succ, Nat.reduceAdd, hc, hk, c1, if_true, if_false, zb_eq0, zb_eq1, zn_1, not_true_eq_false, not_false_eq_true, ite_true, ite_false, if_true, if_false, q_iret_0, q_iret_1, decide_true, decide_false, decide_not, zb_t, zb_f, z10, z01, cond_true, cond_false, Bool.and_true, Bool.true_and, Bool.and_false, Bool.false_and, Bool.not_true, Bool.not_false, true_and, and_true, false_and, and_false, true_or, or_true, false_or, or_false, Bool.true_eq_false, Bool.false_eq_true, eq_self, reduceCtorEq, Bool.or_true, Bool.true_or, Bool.or_false, Bool.false_or])
theorem cv_in {o k : Nat} (hn : nv M 6 ≤ 60) (hR2 : zz_ix (rnk M (zn o)) ≤ 60) (V : Nat → Int32) : (cv M o k V).1 = -1 ∨ ∃ m, m ≤ 60 ∧ (cv M o k V).1 = zn m ∧ ∀ j, j < m → ∃ p, p < 60 ∧ (cv M o k V).2 j = zn p := by
  unfold cv
  have hI := vout_inv (A := M) (nd := zn k) (n := nv M 6) (s := (znd (rd M 6 (zn o) 1) - lft M k, 0, V)) rfl (zz_ix (rnk M (zn o))) (by omega)
  generalize vout M (zn k) (nv M 6) (zz_ix (rnk M (zn o))) (znd (rd M 6 (zn o) 1) - lft M k, 0, V) = s at hI ⊢
  by_cases c1 : s.1 ≤ 0
  · rw [if_pos c1]
    refine Or.inr ⟨s.2.1, Nat.le_trans hI.1 (Nat.le_trans (vK_le _ _ _ _) hn), rfl, fun j hj => ?_⟩
    obtain ⟨p, hp, e⟩ := hI.2 j hj
    exact ⟨p, by omega, e⟩
  · rw [if_neg c1]; exact Or.inl rfl
def pst (A : zzMd) (o n : Nat) (V : Nat → Int32) : Int32 × Int32 × (Nat → Int32) :=
  zfold n (fun i s => bif opn A (zn i) then (bif !decide ((cv A o i s.2.2).1 = -1) && !decide (s.2.1 ≤ (cv A o i s.2.2).1) then (zn i, (cv A o i s.2.2).1, (cv A o i s.2.2).2) else (s.1, s.2.1, (cv A o i s.2.2).2)) else s) (-1, 61, V)
theorem pst_s (A : zzMd) (o n : Nat) (V : Nat → Int32) : pst A o (n + 1) V = bif opn A (zn n) then (bif !decide ((cv A o n (pst A o n V).2.2).1 = -1) && !decide ((pst A o n V).2.1 ≤ (cv A o n (pst A o n V).2.2).1) then (zn n, (cv A o n (pst A o n V).2.2).1, (cv A o n (pst A o n V).2.2).2) else ((pst A o n V).1, (pst A o n V).2.1, (cv A o n (pst A o n V).2.2).2)) else pst A o n V := rfl
theorem pst_in (A : zzMd) (o : Nat) (V : Nat → Int32) : ∀ n, (pst A o n V).1 = -1 ∨ ∃ k, k < n ∧ (pst A o n V).1 = zn k
  | 0 => Or.inl rfl
  | n + 1 => by
    have up : (pst A o n V).1 = -1 ∨ ∃ k, k < n + 1 ∧ (pst A o n V).1 = zn k := (pst_in A o V n).imp id fun ⟨k, h1, h2⟩ => ⟨k, Nat.lt_succ_of_lt h1, h2⟩
    rw [pst_s]
    cases opn A (zn n)
    · exact up
    · cases !decide ((cv A o n (pst A o n V).2.2).1 = -1) && !decide ((pst A o n V).2.1 ≤ (cv A o n (pst A o n V).2.2).1)
      · exact up
      · exact Or.inr ⟨n, Nat.lt_succ_self n, rfl⟩
def pre (A : zzMd) (o : Nat) (V : Nat → Int32) : Int32 × (Nat → Int32) :=
  if (pst A o (nv A 6) V).1 = -1 then (0, (pst A o (nv A 6) V).2.2) else cv A o (zz_ix (pst A o (nv A 6) V).1) (pst A o (nv A 6) V).2.2
theorem sp_preempt (h : zCt M w B) {o : Nat} (hR : rnk M (zn o) = zn (zz_ix (rnk M (zn o))) ∧ zz_ix (rnk M (zn o)) ≤ 60) (V : Nat → Int32) :
    fX8_preempt [.ref 6, .int (zn o)] (setV B V) = some (.inl (some (.int (pre M o V).1)), setV B (pre M o V).2) := by
  have hn := (b6_k h.1).2
  have st : fX8_preempt [.ref 6, .int (zn o)] (setV B V) = zz_ev tX8_preempt 8 [some (.ref 6), some (.int (zn o)), some (.int (pst M o 0 V).1), some (.int (pst M o 0 V).2.1), some (.int (zn 0)), zj none] [] (setV B (pst M o 0 V).2.2) := by
    rw [s_X8_preempt]
    (simp only [e_X8_preempt, zo_iload, zo_lload, zo_aload, zo_istore, zo_lstore, zo_astore, zo_iinc, zo_pushI, zo_pushL, zo_null, zo_ii, zo_iid, zo_ll, zo_li, zo_lcmp, zo_i2l, zo_l2i, zo_dup, zo_dup2, zo_pop, zo_goto, zo_if, zo_icmp, zo_ifnull, zo_gets, zo_mm, zo_throw, zo_ret, zo_aret, zo_lret, q_iret_f, q_iret_1, q_iret_0, q_iret_b, q_c8_0, q_c8_1, q_c8_2, q_c8_3, q_c8_4, q_set_0, q_set_1i, q_set_1r, q_set_1n, q_set_1N, q_set_s, q_set_1j, q_bk_v, q_bk_n, q_if, zb_ite, cond_true, cond_false, List.getElem?_cons_zero, List.getElem?_cons_succ, Nat.reduceAdd, if_true, if_false, zb_eq0, zb_eq1, zn_1, not_true_eq_false, not_false_eq_true, ite_true, ite_false, if_true, if_false, q_iret_0, q_iret_1, decide_true, decide_false, decide_not, zb_t, zb_f, z10, z01, cond_true, cond_false, Bool.and_true, Bool.true_and, Bool.and_false, Bool.false_and, Bool.not_true, Bool.not_false, true_and, and_true, false_and, and_false, true_or, or_true, false_or, or_false, Bool.true_eq_false, Bool.false_eq_true, eq_self, reduceCtorEq, Bool.or_true, Bool.true_or, Bool.or_false, Bool.false_or])
    rfl
  obtain ⟨j, lp⟩ := zl_goJ (E := fun i (j : Option Int32) => zz_ev tX8_preempt 8 [some (.ref 6), some (.int (zn o)), some (.int (pst M o i V).1), some (.int (pst M o i V).2.1), some (.int (zn i)), zj j] [] (setV B (pst M o i V).2.2)) (nv M 6) (fun i hi j => by
    rw [pst_s]
    generalize pst M o i V = s
    have hc := zk_in hi hn
    have hb := zCt_V h s.2.2
    have hk := (b6_k hb.1).1
    have ho := sp_isOpen hb.1 (zn i)
    cases c1 : opn M (zn i)
    · refine ⟨some (-1), ?_⟩
      simp only [cond_false]
      (rw [e_X8_preempt_8]; simp only [e_X8_preempt, zo_iload, zo_lload, zo_aload, zo_istore, zo_lstore, zo_astore, zo_iinc, zo_pushI, zo_pushL, zo_null, zo_ii, zo_iid, zo_ll, zo_li, zo_lcmp, zo_i2l, zo_l2i, zo_dup, zo_dup2, zo_pop, zo_goto, zo_if, zo_icmp, zo_ifnull, zo_gets, zo_mm, zo_throw, zo_ret, zo_aret, zo_lret, q_iret_f, q_iret_1, q_iret_0, q_iret_b, q_c8_0, q_c8_1, q_c8_2, q_c8_3, q_c8_4, q_set_0, q_set_1i, q_set_1r, q_set_1n, q_set_1N, q_set_s, q_set_1j, q_bk_v, q_bk_n, q_if, zb_ite, cond_true, cond_false, List.getElem?_cons_zero, List.getElem?_cons_succ, Nat.reduceAdd, hk, hc, ho, c1, zj_some, if_true, if_false, zb_eq0, zb_eq1, zn_1, not_true_eq_false, not_false_eq_true, ite_true, ite_false, if_true, if_false, q_iret_0, q_iret_1, decide_true, decide_false, decide_not, zb_t, zb_f, z10, z01, cond_true, cond_false, Bool.and_true, Bool.true_and, Bool.and_false, Bool.false_and, Bool.not_true, Bool.not_false, true_and, and_true, false_and, and_false, true_or, or_true, false_or, or_false, Bool.true_eq_false, Bool.false_eq_true, eq_self, reduceCtorEq, Bool.or_true, Bool.true_or, Bool.or_false, Bool.false_or])
    · have hcv := sp_chooseVictims h (k := i) (by omega) hR s.2.2
      refine ⟨some (cv M o i s.2.2).1, ?_⟩
      simp only [cond_true]
      generalize cv M o i s.2.2 = q at hcv ⊢
      by_cases c2 : q.1 = -1
      · simp only [c2, decide_true, Bool.not_true, Bool.false_and, cond_false]
        rw [c2] at hcv
        (rw [e_X8_preempt_8]; simp only [e_X8_preempt, zo_iload, zo_lload, zo_aload, zo_istore, zo_lstore, zo_astore, zo_iinc, zo_pushI, zo_pushL, zo_null, zo_ii, zo_iid, zo_ll, zo_li, zo_lcmp, zo_i2l, zo_l2i, zo_dup, zo_dup2, zo_pop, zo_goto, zo_if, zo_icmp, zo_ifnull, zo_gets, zo_mm, zo_throw, zo_ret, zo_aret, zo_lret, q_iret_f, q_iret_1, q_iret_0, q_iret_b, q_c8_0, q_c8_1, q_c8_2, q_c8_3, q_c8_4, q_set_0, q_set_1i, q_set_1r, q_set_1n, q_set_1N, q_set_s, q_set_1j, q_bk_v, q_bk_n, q_if, zb_ite, cond_true, cond_false, List.getElem?_cons_zero, List.getElem?_cons_succ, Nat.reduceAdd, hk, hc, ho, c1, hcv, zj_some, if_true, if_false, zb_eq0, zb_eq1, zn_1, not_true_eq_false, not_false_eq_true, ite_true, ite_false, if_true, if_false, q_iret_0, q_iret_1, decide_true, decide_false, decide_not, zb_t, zb_f, z10, z01, cond_true, cond_false, Bool.and_true, Bool.true_and, Bool.and_false, Bool.false_and, Bool.not_true, Bool.not_false, true_and, and_true, false_and, and_false, true_or, or_true, false_or, or_false, Bool.true_eq_false, Bool.false_eq_true, eq_self, reduceCtorEq, Bool.or_true, Bool.true_or, Bool.or_false, Bool.false_or])
      · by_cases c3 : s.2.1 ≤ q.1
        · simp only [c2, c3, decide_true, decide_false, Bool.not_true, Bool.not_false, Bool.and_false, cond_false]
          (rw [e_X8_preempt_8]; simp only [e_X8_preempt, zo_iload, zo_lload, zo_aload, zo_istore, zo_lstore, zo_astore, zo_iinc, zo_pushI, zo_pushL, zo_null, zo_ii, zo_iid, zo_ll, zo_li, zo_lcmp, zo_i2l, zo_l2i, zo_dup, zo_dup2, zo_pop, zo_goto, zo_if, zo_icmp, zo_ifnull, zo_gets, zo_mm, zo_throw, zo_ret, zo_aret, zo_lret, q_iret_f, q_iret_1, q_iret_0, q_iret_b, q_c8_0, q_c8_1, q_c8_2, q_c8_3, q_c8_4, q_set_0, q_set_1i, q_set_1r, q_set_1n, q_set_1N, q_set_s, q_set_1j, q_bk_v, q_bk_n, q_if, zb_ite, cond_true, cond_false, List.getElem?_cons_zero, List.getElem?_cons_succ, Nat.reduceAdd, hk, hc, ho, c1, hcv, c2, c3, zj_some, if_true, if_false, zb_eq0, zb_eq1, zn_1, not_true_eq_false, not_false_eq_true, ite_true, ite_false, if_true, if_false, q_iret_0, q_iret_1, decide_true, decide_false, decide_not, zb_t, zb_f, z10, z01, cond_true, cond_false, Bool.and_true, Bool.true_and, Bool.and_false, Bool.false_and, Bool.not_true, Bool.not_false, true_and, and_true, false_and, and_false, true_or, or_true, false_or, or_false, Bool.true_eq_false, Bool.false_eq_true, eq_self, reduceCtorEq, Bool.or_true, Bool.true_or, Bool.or_false, Bool.false_or])
        · simp only [c2, c3, decide_true, decide_false, Bool.not_true, Bool.not_false, Bool.and_self, cond_true]
          (rw [e_X8_preempt_8]; simp only [e_X8_preempt, zo_iload, zo_lload, zo_aload, zo_istore, zo_lstore, zo_astore, zo_iinc, zo_pushI, zo_pushL, zo_null, zo_ii, zo_iid, zo_ll, zo_li, zo_lcmp, zo_i2l, zo_l2i, zo_dup, zo_dup2, zo_pop, zo_goto, zo_if, zo_icmp, zo_ifnull, zo_gets, zo_mm, zo_throw, zo_ret, zo_aret, zo_lret, q_iret_f, q_iret_1, q_iret_0, q_iret_b, q_c8_0, q_c8_1, q_c8_2, q_c8_3, q_c8_4, q_set_0, q_set_1i, q_set_1r, q_set_1n, q_set_1N, q_set_s, q_set_1j, q_bk_v, q_bk_n, q_if, zb_ite, cond_true, cond_false, List.getElem?_cons_zero, List.getElem?_cons_succ, Nat.reduceAdd, hk, hc, ho, c1, hcv, c2, c3, zj_some, if_true, if_false, zb_eq0, zb_eq1, zn_1, not_true_eq_false, not_false_eq_true, ite_true, ite_false, if_true, if_false, q_iret_0, q_iret_1, decide_true, decide_false, decide_not, zb_t, zb_f, z10, z01, cond_true, cond_false, Bool.and_true, Bool.true_and, Bool.and_false, Bool.false_and, Bool.not_true, Bool.not_false, true_and, and_true, false_and, and_false, true_or, or_true, false_or, or_false, Bool.true_eq_false, Bool.false_eq_true, eq_self, reduceCtorEq, Bool.or_true, Bool.true_or, Bool.or_false, Bool.false_or])) none
  rw [st, show zz_ev tX8_preempt 8 [some (.ref 6), some (.int (zn o)), some (.int (pst M o 0 V).1), some (.int (pst M o 0 V).2.1), some (.int (zn 0)), zj none] [] (setV B (pst M o 0 V).2.2) = _ from lp]
  unfold pre
  have hin := pst_in M o V (nv M 6)
  generalize pst M o (nv M 6) V = s at hin ⊢
  have hc := zk_out hn
  have hk := (b6_k (zCt_V h s.2.2).1).1
  by_cases c1 : s.1 = -1
  · rw [if_pos c1]
    (rw [e_X8_preempt_8]; simp only [e_X8_preempt, zo_iload, zo_lload, zo_aload, zo_istore, zo_lstore, zo_astore, zo_iinc, zo_pushI, zo_pushL, zo_null, zo_ii, zo_iid, zo_ll, zo_li, zo_lcmp, zo_i2l, zo_l2i, zo_dup, zo_dup2, zo_pop, zo_goto, zo_if, zo_icmp, zo_ifnull, zo_gets, zo_mm, zo_throw, zo_ret, zo_aret, zo_lret, q_iret_f, q_iret_1, q_iret_0, q_iret_b, q_c8_0, q_c8_1, q_c8_2, q_c8_3, q_c8_4, q_set_0, q_set_1i, q_set_1r, q_set_1n, q_set_1N, q_set_s, q_set_1j, q_bk_v, q_bk_n, q_if, zb_ite, cond_true, cond_false, List.getElem?_cons_zero, List.getElem?_cons_succ, Nat.reduceAdd, hk, hc, c1, if_true, if_false, zb_eq0, zb_eq1, zn_1, not_true_eq_false, not_false_eq_true, ite_true, ite_false, if_true, if_false, q_iret_0, q_iret_1, decide_true, decide_false, decide_not, zb_t, zb_f, z10, z01, cond_true, cond_false, Bool.and_true, Bool.true_and, Bool.and_false, Bool.false_and, Bool.not_true, Bool.not_false, true_and, and_true, false_and, and_false, true_or, or_true, false_or, or_false, Bool.true_eq_false, Bool.false_eq_true, eq_self, reduceCtorEq, Bool.or_true, Bool.true_or, Bool.or_false, Bool.false_or])
  · rw [if_neg c1]
    obtain ⟨k, k1, k2⟩ := hin.resolve_left c1
    have hcv := sp_chooseVictims h (k := k) (by omega) hR s.2.2
    rw [k2, zn_ix (by omega)]
    have km := zn_m1 (k := k) (by omega)
    (rw [e_X8_preempt_8]; simp only [e_X8_preempt, zo_iload, zo_lload, zo_aload, zo_istore, zo_lstore, zo_astore, zo_iinc, zo_pushI, zo_pushL, zo_null, zo_ii, zo_iid, zo_ll, zo_li, zo_lcmp, zo_i2l, zo_l2i, zo_dup, zo_dup2, zo_pop, zo_goto, zo_if, zo_icmp, zo_ifnull, zo_gets, zo_mm, zo_throw, zo_ret, zo_aret, zo_lret, q_iret_f, q_iret_1, q_iret_0, q_iret_b, q_c8_0, q_c8_1, q_c8_2, q_c8_3, q_c8_4, q_set_0, q_set_1i, q_set_1r, q_set_1n, q_set_1N, q_set_s, q_set_1j, q_bk_v, q_bk_n, q_if, zb_ite, cond_true, cond_false, List.getElem?_cons_zero, List.getElem?_cons_succ, Nat.reduceAdd, hk, hc, km, hcv, if_true, if_false, zb_eq0, zb_eq1, zn_1, not_true_eq_false, not_false_eq_true, ite_true, ite_false, if_true, if_false, q_iret_0, q_iret_1, decide_true, decide_false, decide_not, zb_t, zb_f, z10, z01, cond_true, cond_false, Bool.and_true, Bool.true_and, Bool.and_false, Bool.false_and, Bool.not_true, Bool.not_false, true_and, and_true, false_and, and_false, true_or, or_true, false_or, or_false, Bool.true_eq_false, Bool.false_eq_true, eq_self, reduceCtorEq, Bool.or_true, Bool.true_or, Bool.or_false, Bool.false_or])
theorem pre_in {o : Nat} (hn : nv M 6 ≤ 60) (hR2 : zz_ix (rnk M (zn o)) ≤ 60) (V : Nat → Int32) : (pre M o V).1 = -1 ∨ ∃ m, m ≤ 60 ∧ (pre M o V).1 = zn m ∧ ∀ j, j < m → ∃ p, p < 60 ∧ (pre M o V).2 j = zn p := by
  unfold pre
  by_cases c1 : (pst M o (nv M 6) V).1 = -1
  · rw [if_pos c1]; exact Or.inr ⟨0, by decide, rfl, fun j hj => absurd hj (Nat.not_lt_zero j)⟩
  · rw [if_neg c1]; exact cv_in hn hR2 _
end
/-! acts one after another, as long as they go through -/
def acts (act : Nat → zzMd → Bool × zzMd) (n : Nat) (A : zzMd) : Bool × zzMd := zfold n (fun i s => bif s.1 then act i s.2 else s) (true, A)
theorem acts_s (act : Nat → zzMd → Bool × zzMd) (n : Nat) (A : zzMd) : acts act (n + 1) A = bif (acts act n A).1 then act n (acts act n A).2 else acts act n A := rfl
theorem zl_act {α : Type} {E : Nat → zzMd → α} {R : zzMd → α} {act : Nat → zzMd → Bool × zzMd} {I : zzMd → Prop} : ∀ (n : Nat), (∀ i, i < n → ∀ M, I (nz M) → ∃ M', E i M = (bif (act i (nz M)).1 then E (i + 1) M' else R M') ∧ nz M' = (act i (nz M)).2 ∧ I (nz M')) →
    ∀ M, I (nz M) → ∃ M', E 0 M = (bif (acts act n (nz M)).1 then E n M' else R M') ∧ nz M' = (acts act n (nz M)).2 ∧ I (nz M')
  | 0, _, M, h0 => ⟨M, rfl, rfl, h0⟩
  | n + 1, h, M, h0 => by
    obtain ⟨M1, a1, a2, a3⟩ := zl_act n (fun i hi => h i (Nat.lt_succ_of_lt hi)) M h0
    rw [acts_s]
    cases c : (acts act n (nz M)).1
    · rw [c] at a1
      exact ⟨M1, by rw [cond_false, c]; exact a1, a2, a3⟩
    · rw [c] at a1
      obtain ⟨M2, b1, b2, b3⟩ := h n (Nat.lt_succ_self n) M1 a3
      rw [a2] at b1 b2
      exact ⟨M2, a1.trans b1, b2, b3⟩
theorem acts_inv {act : Nat → zzMd → Bool × zzMd} {I : zzMd → Prop} : ∀ {n : Nat} {A : zzMd}, (∀ i, i < n → ∀ A, I A → I (act i A).2) → I A → I (acts act n A).2
  | 0, _, _, h0 => h0
  | n + 1, A, h, h0 => by
    have h1 := acts_inv (n := n) (fun i hi => h i (Nat.lt_succ_of_lt hi)) h0
    rw [acts_s]
    cases (acts act n A).1
    · exact h1
    · exact h n (Nat.lt_succ_self n) _ h1
def cntV (x : Int32) : Nat := if x = -1 then 0 else zz_ix x
def dS3 (B A : zzMd) (o : Nat) : Int32 × zzMd :=
  bif wops B 6 (zn o) then
    match bst B (rd B 6 (zn o) 24) (znd (rd B 6 (zn o) 1)) (nv B 6) with
    | some k => oc2 (aSet A 3 o 28 (zn k))
    | none => (3, (acts (fun j A => aRem A 3 (zz_ix ((pre B o (B.1 71)).2 j))) (cntV (pre B o (B.1 71)).1) (setV A (pre B o (B.1 71)).2)).2)
  else (1, A)
theorem Rem_71 (A : zzMd) (c o b : Nat) : (aRem A c o).2.1 71 b = A.1 71 b := by
  unfold aRem
  cases utd A c o
  · rfl
  · exact Wr_o (fun h => absurd h (by decide)) (by decide) (by decide)
theorem sp_serve3 {M : zzMd} (W : zIC M) {o : Nat} (ho : o < 60) (hR : rnk M (zn o) = zn (zz_ix (rnk M (zn o))) ∧ zz_ix (rnk M (zn o)) ≤ 60) :
    ∃ M', fX8_serve [.ref 6, .int (zn o)] M = some (.inl (some (.int (dS3 M (nz M) o).1)), M') ∧ nz M' = (dS3 M (nz M) o).2 := by
  have hc : 3 < 8 := by decide
  have Wv := zIC_W (zcV hc) W
  simp only [Nat.reduceAdd] at Wv
  have hw := sp_isWithoutPlace Wv (zn o)
  rw [s_X8_serve]
  unfold dS3
  cases c1 : wops M 6 (zn o)
  · refine ⟨M, ?_, rfl⟩
    (simp only [e_X8_serve, zo_iload, zo_lload, zo_aload, zo_istore, zo_lstore, zo_astore, zo_iinc, zo_pushI, zo_pushL, zo_null, zo_ii, zo_iid, zo_ll, zo_li, zo_lcmp, zo_i2l, zo_l2i, zo_dup, zo_dup2, zo_pop, zo_goto, zo_if, zo_icmp, zo_ifnull, zo_gets, zo_mm, zo_throw, zo_ret, zo_aret, zo_lret, q_iret_f, q_iret_1, q_iret_0, q_iret_b, q_c8_0, q_c8_1, q_c8_2, q_c8_3, q_c8_4, q_set_0, q_set_1i, q_set_1r, q_set_1n, q_set_1N, q_set_s, q_set_1j, q_bk_v, q_bk_n, q_if, zb_ite, cond_true, cond_false, List.getElem?_cons_zero, List.getElem?_cons_succ, Nat.reduceAdd, hw, c1, if_true, if_false, zb_eq0, zb_eq1, zn_1, not_true_eq_false, not_false_eq_true, ite_true, ite_false, if_true, if_false, q_iret_0, q_iret_1, decide_true, decide_false, decide_not, zb_t, zb_f, z10, z01, cond_true, cond_false, Bool.and_true, Bool.true_and, Bool.and_false, Bool.false_and, Bool.not_true, Bool.not_false, true_and, and_true, false_and, and_false, true_or, or_true, false_or, or_false, Bool.true_eq_false, Bool.false_eq_true, eq_self, reduceCtorEq, Bool.or_true, Bool.true_or, Bool.or_false, Bool.false_or])
  have hu := sp_countUsed W
  have hB1 : zB6 M (zR M 69 60 (usN M (nv M 6))) := zB6_nz W (nz_R rfl)
  have hr := b6_read hB1 (zn o) 24
  have hm := sp_countMates hB1 (rd M 6 (zn o) 24)
  have hn1 : nz (zR M 69 60 (usN M (nv M 6))) = nz M := nz_R rfl
  have h69 : ∀ k, k < 60 → (zR M 69 60 (usN M (nv M 6))).1 69 k = usN M (nv M 6) k := fun k hk => if_pos ⟨rfl, hk⟩
  generalize zR M 69 60 (usN M (nv M 6)) = B at hu hB1 hr hm hn1 h69
  have hn2 : nz (zR B 70 3 (mtN M (rd M 6 (zn o) 24) (nv M 6))) = nz M := (nz_R rfl).trans hn1
  have hCt : zCt M (rd M 6 (zn o) 24) (zR B 70 3 (mtN M (rd M 6 (zn o) 24) (nv M 6))) := ⟨zB6_nz W hn2, h69, fun k hk => if_pos ⟨rfl, hk⟩⟩
  generalize zR B 70 3 (mtN M (rd M 6 (zn o) 24) (nv M 6)) = C at hm hn2 hCt
  have hnd := b6_need hCt.1 (zn o)
  have hb := sp_bestNode hCt (znd (rd M 6 (zn o) 1))
  have hoc := sp_outcomeOf
  have hn60 := (b6_k hCt.1).2
  simp only [cond_true]
  cases c2 : bst M (rd M 6 (zn o) 24) (znd (rd M 6 (zn o) 1)) (nv M 6) with
  | some k =>
    have k1 := bst_lt c2
    have km := zn_m1 (k := k) (by omega)
    have rn : rd C 6 (zn o) 28 ≠ zn k := fun e => by
      have ra : rd C 6 (zn o) 28 = rd M 6 (zn o) 28 := by
        have q1 := rd_nz (M := C) (zcV hc) (zn o) 28
        have q2 := rd_nz (M := M) (zcV hc) (zn o) 28
        rw [hn2] at q1
        exact q1.symm.trans q2
      unfold wops at c1
      have c1' := of_decide_eq_true (Bool.and_eq_true_iff.mp (Bool.and_eq_true_iff.mp c1).2).2
      exact km ▸ (e.symm.trans (ra.trans c1'))
    obtain ⟨M', a1, a2⟩ := sp_set hCt.1.1 hc ho (k := 28) (by decide) (zn k) rn
    have a1' : fX2_set [.ref 6, .int (zn o), .int 28, .int (zn k)] C = _ := a1
    rw [hn2] at a1' a2
    refine ⟨M', ?_, a2⟩
    clear a1 a2
    (simp only [e_X8_serve, zo_iload, zo_lload, zo_aload, zo_istore, zo_lstore, zo_astore, zo_iinc, zo_pushI, zo_pushL, zo_null, zo_ii, zo_iid, zo_ll, zo_li, zo_lcmp, zo_i2l, zo_l2i, zo_dup, zo_dup2, zo_pop, zo_goto, zo_if, zo_icmp, zo_ifnull, zo_gets, zo_mm, zo_throw, zo_ret, zo_aret, zo_lret, q_iret_f, q_iret_1, q_iret_0, q_iret_b, q_c8_0, q_c8_1, q_c8_2, q_c8_3, q_c8_4, q_set_0, q_set_1i, q_set_1r, q_set_1n, q_set_1N, q_set_s, q_set_1j, q_bk_v, q_bk_n, q_if, zb_ite, cond_true, cond_false, List.getElem?_cons_zero, List.getElem?_cons_succ, Nat.reduceAdd, hw, c1, hu, hr, hm, hnd, hb, c2, zoi, km, a1', hoc, oc2, if_true, if_false, zb_eq0, zb_eq1, zn_1, not_true_eq_false, not_false_eq_true, ite_true, ite_false, if_true, if_false, q_iret_0, q_iret_1, decide_true, decide_false, decide_not, zb_t, zb_f, z10, z01, cond_true, cond_false, Bool.and_true, Bool.true_and, Bool.and_false, Bool.false_and, Bool.not_true, Bool.not_false, true_and, and_true, false_and, and_false, true_or, or_true, false_or, or_false, Bool.true_eq_false, Bool.false_eq_true, eq_self, reduceCtorEq, Bool.or_true, Bool.true_or, Bool.or_false, Bool.false_or])
  | none =>
    have hV : C.1 71 = M.1 71 := by
      funext b
      have h1 : (nz C).1 71 b = (nz M).1 71 b := by rw [hn2]
      exact h1
    have hp := sp_preempt hCt hR (M.1 71)
    rw [← hV, setV_0, hV] at hp
    have hin := pre_in (M := M) (o := o) hn60 hR.2 (M.1 71)
    have Wp : zIC (nz (setV C (pre M o (M.1 71)).2)) := zIC_nz.mpr (zIC_V71.mpr hCt.1.1)
    have e71 : ∀ b, (nz (setV C (pre M o (M.1 71)).2)).1 71 b = (pre M o (M.1 71)).2 b := fun b => rfl
    have en : nz (setV C (pre M o (M.1 71)).2) = setV (nz M) (pre M o (M.1 71)).2 := by rw [nz_V, hn2]
    rw [← en]
    generalize setV C (pre M o (M.1 71)).2 = D at hp Wp e71 en ⊢
    generalize pre M o (M.1 71) = P at hp hin e71 en ⊢
    have s64 : zz_ev tX8_serve 0 [some (.ref 6), some (.int (zn o)), none, none, none, none] [] M = zz_ev tX8_serve 64 [some (.ref 6), some (.int (zn o)), some (.int (-1)), some (.int P.1), some (.int 1), some (.int (zn 0))] [] D := by
      (simp only [e_X8_serve, zo_iload, zo_lload, zo_aload, zo_istore, zo_lstore, zo_astore, zo_iinc, zo_pushI, zo_pushL, zo_null, zo_ii, zo_iid, zo_ll, zo_li, zo_lcmp, zo_i2l, zo_l2i, zo_dup, zo_dup2, zo_pop, zo_goto, zo_if, zo_icmp, zo_ifnull, zo_gets, zo_mm, zo_throw, zo_ret, zo_aret, zo_lret, q_iret_f, q_iret_1, q_iret_0, q_iret_b, q_c8_0, q_c8_1, q_c8_2, q_c8_3, q_c8_4, q_set_0, q_set_1i, q_set_1r, q_set_1n, q_set_1N, q_set_s, q_set_1j, q_bk_v, q_bk_n, q_if, zb_ite, cond_true, cond_false, List.getElem?_cons_zero, List.getElem?_cons_succ, Nat.reduceAdd, hw, c1, hu, hr, hm, hnd, hb, c2, zoi, hp, if_true, if_false, zb_eq0, zb_eq1, zn_1, not_true_eq_false, not_false_eq_true, ite_true, ite_false, if_true, if_false, q_iret_0, q_iret_1, decide_true, decide_false, decide_not, zb_t, zb_f, z10, z01, cond_true, cond_false, Bool.and_true, Bool.true_and, Bool.and_false, Bool.false_and, Bool.not_true, Bool.not_false, true_and, and_true, false_and, and_false, true_or, or_true, false_or, or_false, Bool.true_eq_false, Bool.false_eq_true, eq_self, reduceCtorEq, Bool.or_true, Bool.true_or, Bool.or_false, Bool.false_or])
      rfl
    rw [s64]
    clear s64 hp hb hnd hm hr hu hw c1 c2 hCt hB1 hn1 hn2 h69 Wv W hV
    unfold cntV
    rcases hin with h1 | ⟨m, m1, m2, m3⟩
    · rw [h1, if_pos rfl]
      refine ⟨D, ?_, rfl⟩
      have hcc : ((-1 : Int32) ≤ zn 0) = True := eq_true (by decide)
      (rw [e_X8_serve_64]; simp only [e_X8_serve, zo_iload, zo_lload, zo_aload, zo_istore, zo_lstore, zo_astore, zo_iinc, zo_pushI, zo_pushL, zo_null, zo_ii, zo_iid, zo_ll, zo_li, zo_lcmp, zo_i2l, zo_l2i, zo_dup, zo_dup2, zo_pop, zo_goto, zo_if, zo_icmp, zo_ifnull, zo_gets, zo_mm, zo_throw, zo_ret, zo_aret, zo_lret, q_iret_f, q_iret_1, q_iret_0, q_iret_b, q_c8_0, q_c8_1, q_c8_2, q_c8_3, q_c8_4, q_set_0, q_set_1i, q_set_1r, q_set_1n, q_set_1N, q_set_s, q_set_1j, q_bk_v, q_bk_n, q_if, zb_ite, cond_true, cond_false, List.getElem?_cons_zero, List.getElem?_cons_succ, Nat.reduceAdd, hcc, if_true, if_false, zb_eq0, zb_eq1, zn_1, not_true_eq_false, not_false_eq_true, ite_true, ite_false, if_true, if_false, q_iret_0, q_iret_1, decide_true, decide_false, decide_not, zb_t, zb_f, z10, z01, cond_true, cond_false, Bool.and_true, Bool.true_and, Bool.and_false, Bool.false_and, Bool.not_true, Bool.not_false, true_and, and_true, false_and, and_false, true_or, or_true, false_or, or_false, Bool.true_eq_false, Bool.false_eq_true, eq_self, reduceCtorEq, Bool.or_true, Bool.true_or, Bool.or_false, Bool.false_or])
    · rw [m2, if_neg (by rw [zn_m1 (by omega)]; exact fun z => z), zn_ix (by omega)]
      obtain ⟨M', b1, b2, -⟩ := zl_act (E := fun j M => zz_ev tX8_serve 64 [some (.ref 6), some (.int (zn o)), some (.int (-1)), some (.int (zn m)), some (.int 1), some (.int (zn j))] [] M) (R := fun M => some (.inl (some (.int 3)), M)) (act := fun j A => aRem A 3 (zz_ix (P.2 j))) (I := fun A => zIC A ∧ ∀ b, A.1 71 b = P.2 b) m (fun j hj M hM => by
        obtain ⟨g1, g2⟩ := hM
        obtain ⟨p, p1, p2⟩ := m3 j hj
        have hcc : (zn m ≤ zn j) = False := zk_lt (n := m) hj m1 (by decide)
        have b1 : zz_inb (zn j) 60 = true := zn_inT (by omega) (by decide)
        have x1 : zz_ix (zn j) = j := zn_ix (by omega)
        have hVj : M.1 71 j = zn p := (g2 j).trans p2
        obtain ⟨M', a1, a2⟩ := sp_remove (zIC_nz.mp g1) (c := 3) (by decide) p1
        simp only [Nat.reduceAdd] at a1
        rw [p2, zn_ix (by omega)]
        refine ⟨M', ?_, a2, ?_⟩
        · cases c : (aRem (nz M) 3 p).1
          · rw [c] at a1
            rw [cond_false]
            rw [e_X8_serve_64]
            (simp only [e_X8_serve, zo_iload, zo_lload, zo_aload, zo_istore, zo_lstore, zo_astore, zo_iinc, zo_pushI, zo_pushL, zo_null, zo_ii, zo_iid, zo_ll, zo_li, zo_lcmp, zo_i2l, zo_l2i, zo_dup, zo_dup2, zo_pop, zo_goto, zo_if, zo_icmp, zo_ifnull, zo_gets, zo_mm, zo_throw, zo_ret, zo_aret, zo_lret, q_iret_f, q_iret_1, q_iret_0, q_iret_b, q_c8_0, q_c8_1, q_c8_2, q_c8_3, q_c8_4, q_set_0, q_set_1i, q_set_1r, q_set_1n, q_set_1N, q_set_s, q_set_1j, q_bk_v, q_bk_n, q_if, zb_ite, cond_true, cond_false, List.getElem?_cons_zero, List.getElem?_cons_succ, Nat.reduceAdd, hcc, b1, x1, q_aC, hVj, a1, if_true, if_false, zb_eq0, zb_eq1, zn_1, not_true_eq_false, not_false_eq_true, ite_true, ite_false, if_true, if_false, q_iret_0, q_iret_1, decide_true, decide_false, decide_not, zb_t, zb_f, z10, z01, cond_true, cond_false, Bool.and_true, Bool.true_and, Bool.and_false, Bool.false_and, Bool.not_true, Bool.not_false, true_and, and_true, false_and, and_false, true_or, or_true, false_or, or_false, Bool.true_eq_false, Bool.false_eq_true, eq_self, reduceCtorEq, Bool.or_true, Bool.true_or, Bool.or_false, Bool.false_or])
            by_cases c3 : zn m ≤ zn (j + 1) <;> (rw [e_X8_serve_64]; simp only [e_X8_serve, zo_iload, zo_lload, zo_aload, zo_istore, zo_lstore, zo_astore, zo_iinc, zo_pushI, zo_pushL, zo_null, zo_ii, zo_iid, zo_ll, zo_li, zo_lcmp, zo_i2l, zo_l2i, zo_dup, zo_dup2, zo_pop, zo_goto, zo_if, zo_icmp, zo_ifnull, zo_gets, zo_mm, zo_throw, zo_ret, zo_aret, zo_lret, q_iret_f, q_iret_1, q_iret_0, q_iret_b, q_c8_0, q_c8_1, q_c8_2, q_c8_3, q_c8_4, q_set_0, q_set_1i, q_set_1r, q_set_1n, q_set_1N, q_set_s, q_set_1j, q_bk_v, q_bk_n, q_if, zb_ite, cond_true, cond_false, List.getElem?_cons_zero, List.getElem?_cons_succ, Nat.reduceAdd, c3, if_true, if_false, zb_eq0, zb_eq1, zn_1, not_true_eq_false, not_false_eq_true, ite_true, ite_false, if_true, if_false, q_iret_0, q_iret_1, decide_true, decide_false, decide_not, zb_t, zb_f, z10, z01, cond_true, cond_false, Bool.and_true, Bool.true_and, Bool.and_false, Bool.false_and, Bool.not_true, Bool.not_false, true_and, and_true, false_and, and_false, true_or, or_true, false_or, or_false, Bool.true_eq_false, Bool.false_eq_true, eq_self, reduceCtorEq, Bool.or_true, Bool.true_or, Bool.or_false, Bool.false_or])
          · rw [c] at a1
            rw [cond_true]
            rw [e_X8_serve_64]
            (simp only [e_X8_serve, zo_iload, zo_lload, zo_aload, zo_istore, zo_lstore, zo_astore, zo_iinc, zo_pushI, zo_pushL, zo_null, zo_ii, zo_iid, zo_ll, zo_li, zo_lcmp, zo_i2l, zo_l2i, zo_dup, zo_dup2, zo_pop, zo_goto, zo_if, zo_icmp, zo_ifnull, zo_gets, zo_mm, zo_throw, zo_ret, zo_aret, zo_lret, q_iret_f, q_iret_1, q_iret_0, q_iret_b, q_c8_0, q_c8_1, q_c8_2, q_c8_3, q_c8_4, q_set_0, q_set_1i, q_set_1r, q_set_1n, q_set_1N, q_set_s, q_set_1j, q_bk_v, q_bk_n, q_if, zb_ite, cond_true, cond_false, List.getElem?_cons_zero, List.getElem?_cons_succ, Nat.reduceAdd, hcc, b1, x1, q_aC, hVj, a1, if_true, if_false, zb_eq0, zb_eq1, zn_1, not_true_eq_false, not_false_eq_true, ite_true, ite_false, if_true, if_false, q_iret_0, q_iret_1, decide_true, decide_false, decide_not, zb_t, zb_f, z10, z01, cond_true, cond_false, Bool.and_true, Bool.true_and, Bool.and_false, Bool.false_and, Bool.not_true, Bool.not_false, true_and, and_true, false_and, and_false, true_or, or_true, false_or, or_false, Bool.true_eq_false, Bool.false_eq_true, eq_self, reduceCtorEq, Bool.or_true, Bool.true_or, Bool.or_false, Bool.false_or])
        · rw [a2]
          exact ⟨zIC_Rem p1 g1, fun b => (Rem_71 _ _ _ _).trans (g2 b)⟩) D ⟨Wp, e71⟩
      refine ⟨M', ?_, b2⟩
      rw [show zz_ev tX8_serve 64 [some (.ref 6), some (.int (zn o)), some (.int (-1)), some (.int (zn m)), some (.int 1), some (.int (zn 0))] [] D = _ from b1]
      cases (acts (fun j A => aRem A 3 (zz_ix (P.2 j))) m (nz D)).1
      · rfl
      · have hcc : (zn m ≤ zn m) = True := zk_ge m1 (by decide)
        rw [cond_true]
        (rw [e_X8_serve_64]; simp only [e_X8_serve, zo_iload, zo_lload, zo_aload, zo_istore, zo_lstore, zo_astore, zo_iinc, zo_pushI, zo_pushL, zo_null, zo_ii, zo_iid, zo_ll, zo_li, zo_lcmp, zo_i2l, zo_l2i, zo_dup, zo_dup2, zo_pop, zo_goto, zo_if, zo_icmp, zo_ifnull, zo_gets, zo_mm, zo_throw, zo_ret, zo_aret, zo_lret, q_iret_f, q_iret_1, q_iret_0, q_iret_b, q_c8_0, q_c8_1, q_c8_2, q_c8_3, q_c8_4, q_set_0, q_set_1i, q_set_1r, q_set_1n, q_set_1N, q_set_s, q_set_1j, q_bk_v, q_bk_n, q_if, zb_ite, cond_true, cond_false, List.getElem?_cons_zero, List.getElem?_cons_succ, Nat.reduceAdd, hcc, if_true, if_false, zb_eq0, zb_eq1, zn_1, not_true_eq_false, not_false_eq_true, ite_true, ite_false, if_true, if_false, q_iret_0, q_iret_1, decide_true, decide_false, decide_not, zb_t, zb_f, z10, z01, cond_true, cond_false, Bool.and_true, Bool.true_and, Bool.and_false, Bool.false_and, Bool.not_true, Bool.not_false, true_and, and_true, false_and, and_false, true_or, or_true, false_or, or_false, Bool.true_eq_false, Bool.false_eq_true, eq_self, reduceCtorEq, Bool.or_true, Bool.true_or, Bool.or_false, Bool.false_or])
theorem zIC_S3 {A B : zzMd} {o : Nat} (ho : o < 60) (hn : nv B 6 ≤ 60) (hR2 : zz_ix (rnk B (zn o)) ≤ 60) (h : zIC A) : zIC (dS3 B A o).2 := by
  unfold dS3
  cases wops B 6 (zn o)
  · exact h
  · cases c2 : bst B (rd B 6 (zn o) 24) (znd (rd B 6 (zn o) 1)) (nv B 6) with
    | some k => exact zIC_Set ho h
    | none =>
      refine acts_inv (I := zIC) (fun j hj A hA => ?_) (zIC_V71.mpr h)
      have hin := pre_in (M := B) (o := o) hn hR2 (B.1 71)
      unfold cntV at hj
      rcases hin with h1 | ⟨m, m1, m2, m3⟩
      · rw [if_pos h1] at hj; exact absurd hj (Nat.not_lt_zero j)
      · rw [m2, if_neg (by rw [zn_m1 (by omega)]; exact fun z => z), zn_ix (by omega)] at hj
        obtain ⟨p, p1, p2⟩ := m3 j hj
        rw [p2, zn_ix (by omega)]
        exact zIC_Rem p1 hA
/-! what only one call uses is not seen -/
section
variable (M : zzMd)
theorem q6_rd : rd (nz M) 6 = rd M 6 := funext fun x => funext fun s => rd_nz (zcV (c := 3) (by decide)) x s
theorem q6_gone : gone (nz M) 6 = gone M 6 := funext fun x => by unfold gone; rw [q6_rd]
theorem q6_stay : stay (nz M) 6 = stay M 6 := funext fun x => funext fun k => by unfold stay; rw [q6_rd]
theorem q6_nv : nv (nz M) 6 = nv M 6 := nv_nz (zcV (c := 3) (by decide))
theorem q6_usP : usP (nz M) = usP M := funext fun i => funext fun k => by unfold usP; rw [q6_rd, q6_gone]
theorem q6_usN : usN (nz M) = usN M := funext fun n => funext fun k => by unfold usN; rw [q6_usP, q6_rd]
theorem q6_zo : zo (nz M) = zo M := funext fun x => by unfold zo; rw [q6_rd]
theorem q6_mtP : mtP (nz M) = mtP M := funext fun w => funext fun k => funext fun i => by unfold mtP; rw [q6_rd, q6_gone, q6_zo]
theorem q6_mtN : mtN (nz M) = mtN M := funext fun w => funext fun n => funext fun k => by unfold mtN; rw [q6_mtP]
theorem q6_opn : opn (nz M) = opn M := funext fun x => by unfold opn; rw [q6_stay, q6_rd]
theorem q6_lft : lft (nz M) = lft M := funext fun i => by unfold lft; rw [q6_rd, q6_usN, q6_nv]
theorem q6_few : few (nz M) = few M := funext fun w => funext fun i => funext fun k => by unfold few; rw [q6_mtN, q6_zo, q6_nv]
theorem q6_btr : btr (nz M) = btr M := funext fun w => funext fun i => funext fun k => by unfold btr; rw [q6_few, q6_lft]
theorem q6_bst : bst (nz M) = bst M := funext fun w => funext fun nd => funext fun n => by unfold bst; rw [q6_opn, q6_lft, q6_btr]
theorem q6_vic : vic (nz M) = vic M := funext fun x => funext fun nd => by unfold vic; rw [q6_stay, q6_rd]
theorem q6_rnk : rnk (nz M) = rnk M := funext fun x => by unfold rnk; rw [q6_rd]
theorem q6_vin (nd r : Int32) : ∀ (q : Nat) (s : Int32 × Nat × (Nat → Int32)), vin (nz M) nd r q s = vin M nd r q s
  | 0, _ => rfl
  | q + 1, s => by unfold vin; rw [q6_vin nd r q, q6_vic, q6_rnk, q6_rd]
theorem q6_vout (nd : Int32) (n : Nat) (s : Int32 × Nat × (Nat → Int32)) : ∀ R, vout (nz M) nd n R s = vout M nd n R s
  | 0 => rfl
  | R + 1 => by rw [vout_s, vout_s, q6_vout nd n s R, q6_vin]
theorem q6_cv : cv (nz M) = cv M := funext fun o => funext fun k => funext fun V => by unfold cv; rw [q6_vout, q6_rnk, q6_rd, q6_lft, q6_nv]
theorem q6_pst : pst (nz M) = pst M := funext fun o => funext fun n => funext fun V => by unfold pst; rw [q6_opn, q6_cv]
theorem q6_pre : pre (nz M) = pre M := funext fun o => funext fun V => by unfold pre; rw [q6_pst, q6_cv, q6_nv]
theorem q6_wops : wops (nz M) 6 = wops M 6 := funext fun x => by unfold wops; rw [q6_stay, q6_rd]
theorem q6_71 : (nz M).1 71 = M.1 71 := rfl
theorem dS3_nz (o : Nat) : dS3 (nz M) (nz M) o = dS3 M (nz M) o := by unfold dS3; rw [q6_wops, q6_rd, q6_bst, q6_pre, q6_nv, q6_71]
end
end

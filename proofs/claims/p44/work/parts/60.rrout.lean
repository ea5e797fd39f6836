section
/-! ROUTER and SCALER, in both -/
/-- what stands beside the log, the views and the queues changes -/
theorem Rl0_m {A A' R R' : zzMd} (H : Rl0 A R) (W : zIC A')
    (hA : ∀ a b, a ≠ 71 → a ≠ 72 → a ≠ 16 → a ≠ 12 → a ≠ 13 → a ≠ 2 → a ≠ 18 → a ≠ 19 → a ≠ 1 ∨ b ≠ 7 ∧ b ≠ 8 → a ≠ 0 ∨ b ≠ 4 → A'.1 a b = A.1 a b)
    (hR : ∀ a b, a ≠ 13 → a ≠ 10 → a ≠ 11 → a ≠ 12 → a < 17 ∨ 25 < a → a ≠ 36 → a ≠ 37 → a ≠ 38 → a ≠ 0 ∨ b = 14 ∨ b = 5 → R'.1 a b = R.1 a b) (h2 : R'.2 = R.2) (hn : now A ≤ now A') (S' : RS A' R') (RA' : RA A' R') (RM' : RM A' R') : Rl0 A' R' := by
  obtain ⟨⟨⟨k1, k2, k3⟩, W0⟩, ⟨⟨L1, L2⟩, L3, L4, ⟨L5, L6⟩, L7⟩, VQ, -, -, -⟩ := H
  have gA : ∀ a b, a = 1 ∧ b < 4 ∨ 3 ≤ a ∧ a ≤ 11 ∨ a = 14 ∨ a = 15 ∨ 20 ≤ a ∧ a ≤ 70 → A'.1 a b = A.1 a b := fun a b h => hA a b (by omega) (by omega) (by omega) (by omega) (by omega) (by omega) (by omega) (by omega) (by omega) (Or.inl (by omega))
  have gR : ∀ a b, 1 ≤ a ∧ a ≤ 9 ∨ 14 ≤ a ∧ a ≤ 16 ∨ 26 ≤ a ∧ a ≤ 35 → R'.1 a b = R.1 a b := fun a b h => hR a b (by omega) (by omega) (by omega) (by omega) (by omega) (by omega) (by omega) (by omega) (Or.inl (by omega))
  have ev : ve A' 1 = ve A 1 := congrArg zz_ix (gA 1 3 (by omega))
  have en : nv A' 1 = nv A 1 := congrArg zz_ix (gA 1 2 (by omega))
  have eob : obj A' = obj A := funext fun k => congrArg zz_ix (gA 14 _ (by omega))
  have elg : lg A' = lg A := funext fun k => funext fun s => gA 14 _ (by omega)
  refine ⟨⟨⟨fun k hk => ?_, fun f hf => ?_, fun t ht => ?_⟩, W⟩, ⟨⟨?_, ?_⟩, fun k a b => ?_, ?_, ⟨?_, fun b hb => ?_⟩, fun b hb => ?_⟩, fun d hd => ?_, S', RA', RM'⟩
  · rw [gR 1 k (by omega), gR 2 k (by omega)]; exact k1 k hk
  · rw [gR 3 f (by omega), gR 4 f (by omega)]; exact k2 f hf
  · rw [gR 5 t (by omega)]; exact k3 t ht
  · rw [hR 0 14 (by decide) (by decide) (by decide) (by decide) (by decide) (by decide) (by decide) (by decide) (Or.inr (Or.inl rfl)), ev]; exact L1
  · rw [hR 0 5 (by decide) (by decide) (by decide) (by decide) (by decide) (by decide) (by decide) (by decide) (Or.inr (Or.inr rfl)), en]; exact L2
  · rw [ev] at b
    have z := L3 k a b
    unfold RRow at z ⊢
    rw [eob, elg, gR 6 _ (by omega), gR 14 _ (by omega), h2]
    exact z
  · rw [elg]; exact L4
  · rw [en, ev, eob]; exact L5
  · rw [ev, eob, gA 15 b (by omega)]; exact L6 b hb
  · rw [en] at hb
    rw [ev, eob, h2, gR 9 _ (by omega)]; exact L7 b hb
  · obtain ⟨z1, q1, q2, q3, q4⟩ := VQ d hd
    have x3 : ∀ b, A'.1 (3 + d) b = A.1 (3 + d) b := fun b => gA _ b (by omega)
    have xb : ∀ j b, 21 + 6 * d ≤ j → j ≤ 26 + 6 * d → A'.1 j b = A.1 j b := fun j b h1 h2 => gA _ b (by omega)
    have ev3 : ve A' (3 + d) = ve A (3 + d) := congrArg zz_ix (x3 3)
    have en3 : nv A' (3 + d) = nv A (3 + d) := congrArg zz_ix (x3 2)
    have eqn : qn A' d = qn A d := congrArg zz_ix (x3 11)
    have eqk : qk A' d = qk A d := funext fun p => congrArg zz_ix (xb _ p (by omega) (by omega))
    have eiq : inQ A' d = inQ A d := funext fun b => by unfold inQ; rw [eqn, eqk]
    refine ⟨?_, ?_, fun p hp => ?_, ?_, fun b hb => ?_⟩
    · unfold RV at z1 ⊢
      simp only [ev3, en3, ev, eob, xb (21 + 6 * d) _ (Nat.le_refl _) (by omega), gR 26 _ (by omega), gR 27 _ (by omega), gR 30 _ (by omega), h2]
      exact z1
    · rw [gR 31 d (by omega), eqn]; exact q1
    · rw [eqn] at hp
      rw [gR 32 _ (by omega), eqk, en]; exact q2 p hp
    · rw [eqn, eqk]; exact q3
    · obtain ⟨z1, f, d', w, z2, z3, z4, z5, z6, z7⟩ := q4 b hb
      unfold RQo
      rw [xb (23 + 6 * d) b (by omega) (by omega), xb (24 + 6 * d) b (by omega) (by omega), xb (25 + 6 * d) b (by omega) (by omega), xb (26 + 6 * d) b (by omega) (by omega), gR 33 _ (by omega), gR 34 _ (by omega), gR 35 _ (by omega), eiq, ev]
      exact ⟨z1, f, d', w, z2, z3, ⟨z4.1, by omega⟩, z5, fun h => (z6 h).imp id fun y => ⟨by omega, y.2⟩, fun h => by have := z7 h; omega⟩
section
variable {A R : zzMd} {c o : Nat}
/-! bits of sets of PODs -/
theorem bit_1 (i : Nat) : bit 1 i = decide (i = 0) := by
  rw [show (1 : Int64) = Int64.ofNat 1 from rfl, bit_ofNat]
  cases i with
  | zero => rfl
  | succ i =>
    rw [Nat.testBit_succ, show 1 / 2 = 0 from rfl, Nat.zero_testBit, Bool.and_false]
    exact (decide_eq_false (by omega)).symm
theorem b32_or (x y : Int32) (i : Nat) : b32 (x ||| y) i = (b32 x i || b32 y i) := by
  unfold b32
  rw [Int32.toBitVec_or, BitVec.getLsbD_or]
theorem b32_sh : ∀ k : Fin 30, ∀ j : Fin 32, b32 ((1 : Int32) <<< (zn k.1 &&& 31)) j.1 = decide (j.1 = k.1) := by decide +kernel
theorem pbs_bit (t : Int32) (f : Nat) {j : Nat} (hj : j < 32) : ∀ m, m ≤ 30 → b32 (pbs A t f m) j = (decide (j < m) && pbB A t (f + j))
  | 0, _ => by
    rw [show pbs A t f 0 = zn 0 from rfl, b32_zn 0 hj, Nat.zero_testBit, decide_eq_false (Nat.not_lt_zero j), Bool.false_and]
  | m + 1, hm => by
    have ih := pbs_bit t f hj m (by omega)
    rw [pbs_s]
    by_cases e : j = m
    · subst e
      rw [decide_eq_true (Nat.lt_succ_self j), Bool.true_and]
      rw [decide_eq_false (Nat.lt_irrefl j), Bool.false_and] at ih
      cases h : pbB A t (f + j)
      · rw [cond_false]; exact ih
      · rw [cond_true, b32_or, ih, b32_sh ⟨j, by omega⟩ ⟨j, hj⟩]
        simp
    · have hb : ∀ v, b32 (v ||| (1 : Int32) <<< (zn m &&& 31)) j = b32 v j := fun v => by
        rw [b32_or, b32_sh ⟨m, by omega⟩ ⟨j, hj⟩]
        have : decide (j = m) = false := decide_eq_false e
        simp only [this, Bool.or_false]
      have hd : decide (j < m + 1) = decide (j < m) := decide_eq_decide.mpr (by omega)
      rw [hd, ← ih]
      cases pbB A t (f + m)
      · rfl
      · exact hb _
def rSt (A : zzMd) (t : Int32) (n : Nat) : Int64 := zfold n (fun i s => s ||| (bif pbB A t i then (1 : Int64) <<< ((zn i).toInt64 &&& 63) else 0)) 0
theorem rSt_s (A : zzMd) (t : Int32) (n : Nat) : rSt A t (n + 1) = rSt A t n ||| (bif pbB A t n then (1 : Int64) <<< ((zn n).toInt64 &&& 63) else 0) := rfl
theorem bit_0 (i : Nat) : bit 0 i = false := by rw [show (0 : Int64) = Int64.ofNat 0 from rfl, bit_ofNat, Nat.zero_testBit, Bool.and_false]
theorem rSt_bit (t : Int32) {j : Nat} (hj : j < 64) : ∀ n, n ≤ 60 → bit (rSt A t n) j = (decide (j < n) && pbB A t j)
  | 0, _ => by
    rw [show rSt A t 0 = 0 from rfl, bit_0, decide_eq_false (Nat.not_lt_zero j), Bool.false_and]
  | n + 1, hn => by
    have ih := rSt_bit t hj n (by omega)
    rw [rSt_s, bit_or, ih]
    have hs : bit ((1 : Int64) <<< ((zn n).toInt64 &&& 63)) j = decide (j = n) := by
      rw [bit_shl _ (by omega), bit_1, decide_eq_true hj, Bool.true_and]
      by_cases h1 : j < n
      · rw [decide_eq_true h1, decide_eq_false (show ¬ j = n by omega)]; rfl
      · rw [decide_eq_false h1]
        exact decide_eq_decide.mpr (by omega)
    by_cases e : j = n
    · subst e
      rw [decide_eq_false (Nat.lt_irrefl j), decide_eq_true (Nat.lt_succ_self j), Bool.false_and, Bool.false_or, Bool.true_and]
      cases h : pbB A t j
      · rw [cond_false, bit_0]
      · rw [cond_true, hs]; exact decide_eq_true rfl
    · rw [show decide (j < n + 1) = decide (j < n) from decide_eq_decide.mpr (by omega)]
      have : bit (bif pbB A t n then (1 : Int64) <<< ((zn n).toInt64 &&& 63) else 0) j = false := by
        cases pbB A t n
        · exact bit_0 j
        · rw [cond_true, hs]; exact decide_eq_false e
      rw [this, Bool.or_false]
theorem route_enc (H : rAt A R 6) (t : Int32) {D : Nat → Int32} (h30 : D 30 = pbs A t 0 (min 30 (nv A 9 - 0))) (h31 : D 31 = pbs A t 30 (min 30 (nv A 9 - 30))) : encB (rSt A t (nv A 1)) D := by
  have hn := rl_n60 H.1
  have hv : nv A 9 ≤ nv A 1 := rv_nv H
  have un : ∀ i, i < 60 → ¬ i < nv A 9 → pbB A t i = false := fun i hi h => by
    have h2 : rd A (3 + 6) (zn i) 25 = 4 := rv_un H (s := 25) hi (by decide) h
    simp only [Nat.reduceAdd] at h2
    unfold pbB stay
    rw [h2, decide_eq_false (fun z => absurd z.2 (by decide)), Bool.false_and]
  unfold encB
  rw [h30, h31]
  refine ⟨fun i hi => ⟨?_, ?_⟩, fun i hi => ?_, fun i h1 h2 => ⟨?_, ?_⟩⟩
  · rw [rSt_bit t (by omega) _ hn, pbs_bit t 0 (by omega) _ (by omega), Nat.zero_add]
    by_cases q : i < nv A 9
    · rw [decide_eq_true (show i < nv A 1 by omega), decide_eq_true (show i < min 30 (nv A 9 - 0) by omega)]
    · rw [un i (by omega) q, Bool.and_false, Bool.and_false]
  · rw [rSt_bit t (by omega) _ hn, pbs_bit t 30 (by omega) _ (by omega)]
    by_cases q : 30 + i < nv A 9
    · rw [decide_eq_true (show 30 + i < nv A 1 by omega), decide_eq_true (show i < min 30 (nv A 9 - 30) by omega)]
    · rw [un (30 + i) (by omega) q, Bool.and_false, Bool.and_false]
  · by_cases q : i < 64
    · rw [rSt_bit t q _ hn, decide_eq_false (by omega), Bool.false_and]
    · exact bit_big _ (by omega)
  · rw [pbs_bit t 0 h2 _ (by omega), decide_eq_false (by omega), Bool.false_and]
  · rw [pbs_bit t 30 h2 _ (by omega), decide_eq_false (by omega), Bool.false_and]
theorem r_routes (H : rKy A R 6 o) : srvTo A (dS6 A A o) 6 o (fX12_routes [.ref 0] R) := by
  have h60 := H.2.2.2
  have h43 := H.2.2.1
  have hs := r_stays H.1 h60 5
  simp only [Nat.reduceAdd] at hs
  have hn := rl_n60 H.1.1
  have n5 := H.1.1.2.1.1.2
  rw [s_X12_routes]
  unfold dS6
  cases d1 : stay A 9 (zn o) 5
  · have e : zz_ev tX12_routes 0 [some (.ref 0), none, none, none, none] [] R = some (.inl (some (.int 1)), R) := by
      (simp only [e_X12_routes, zo_iload, zo_lload, zo_aload, zo_istore, zo_lstore, zo_astore, zo_iinc, zo_pushI, zo_pushL, zo_null, zo_ii, zo_iid, zo_ll, zo_li, zo_lcmp, zo_i2l, zo_l2i, zo_dup, zo_dup2, zo_pop, zo_goto, zo_if, zo_icmp, zo_ifnull, zo_gets, zo_mm, zo_throw, zo_ret, zo_aret, zo_lret, q_iret_f, q_iret_1, q_iret_0, q_iret_b, q_c8_0, q_c8_1, q_c8_2, q_c8_3, q_c8_4, q_set_0, q_set_1i, q_set_1r, q_set_1n, q_set_1N, q_set_s, q_set_1j, q_bk_v, q_bk_n, q_if, zb_ite, cond_true, cond_false, List.getElem?_cons_zero, List.getElem?_cons_succ, Nat.reduceAdd, q_set_1l, q_set2_0, q_set2_1i, q_set2_1r, q_set2_1n, q_set2_s, h43, hs, d1, if_true, if_false, zb_eq0, zb_eq1, zn_1, not_true_eq_false, not_false_eq_true, ite_true, ite_false, if_true, if_false, q_iret_0, q_iret_1, decide_true, decide_false, decide_not, zb_t, zb_f, z10, z01, cond_true, cond_false, Bool.and_true, Bool.true_and, Bool.and_false, Bool.false_and, Bool.not_true, Bool.not_false, true_and, and_true, false_and, and_false, true_or, or_true, false_or, or_false, Bool.true_eq_false, Bool.false_eq_true, eq_self, reduceCtorEq, Bool.or_true, Bool.true_or, Bool.or_false, Bool.false_or])
    rw [e]
    exact srv_no H
  have hseen : o < nv A (3 + 6) := seen_stay H.1 h60 d1
  have hon : o < nv A 1 := Nat.lt_of_lt_of_le hseen (rv_nv H.1)
  have vk1 : fX12_viewed [.ref 0, .int (zn o), .int 1] R = some (.inl (some (.int (rd A 9 (zn o) 1))), R) := (r_vw H.1 (o := o) hseen).1 1 (by decide)
  have main : ∀ n, n ≤ nv A 1 → ∃ j4 : Option Int32, zz_ev tX12_routes 0 [some (.ref 0), none, none, none, none] [] R = zz_ev tX12_routes 18 [some (.ref 0), some (.long (rSt A (rd A 9 (zn o) 1) n)), none, some (.int (zn n)), zj j4] [] R := by
    intro n
    induction n with
    | zero =>
      intro _
      refine ⟨none, ?_⟩
      (simp only [e_X12_routes, zo_iload, zo_lload, zo_aload, zo_istore, zo_lstore, zo_astore, zo_iinc, zo_pushI, zo_pushL, zo_null, zo_ii, zo_iid, zo_ll, zo_li, zo_lcmp, zo_i2l, zo_l2i, zo_dup, zo_dup2, zo_pop, zo_goto, zo_if, zo_icmp, zo_ifnull, zo_gets, zo_mm, zo_throw, zo_ret, zo_aret, zo_lret, q_iret_f, q_iret_1, q_iret_0, q_iret_b, q_c8_0, q_c8_1, q_c8_2, q_c8_3, q_c8_4, q_set_0, q_set_1i, q_set_1r, q_set_1n, q_set_1N, q_set_s, q_set_1j, q_bk_v, q_bk_n, q_if, zb_ite, cond_true, cond_false, List.getElem?_cons_zero, List.getElem?_cons_succ, Nat.reduceAdd, q_set_1l, q_set2_0, q_set2_1i, q_set2_1r, q_set2_1n, q_set2_s, h43, hs, d1, if_true, if_false, zb_eq0, zb_eq1, zn_1, not_true_eq_false, not_false_eq_true, ite_true, ite_false, if_true, if_false, q_iret_0, q_iret_1, decide_true, decide_false, decide_not, zb_t, zb_f, z10, z01, cond_true, cond_false, Bool.and_true, Bool.true_and, Bool.and_false, Bool.false_and, Bool.not_true, Bool.not_false, true_and, and_true, false_and, and_false, true_or, or_true, false_or, or_false, Bool.true_eq_false, Bool.false_eq_true, eq_self, reduceCtorEq, Bool.or_true, Bool.true_or, Bool.or_false, Bool.false_or])
      rfl
    | succ n ih =>
      intro hn1
      obtain ⟨j4, e1⟩ := ih (by omega)
      have h60n := lt_n60 H.1.1 (show n < nv A 1 by omega)
      have hc := zk_in (i := n) (n := nv A 1) (by omega) hn
      have hst := r_stays H.1 h60n 2
      simp only [Nat.reduceAdd] at hst
      rw [e1, rSt_s]
      generalize rSt A (rd A 9 (zn o) 1) n = st
      unfold pbB
      cases d2 : stay A 9 (zn n) 2
      · refine ⟨some 0, ?_⟩
        (rw [e_X12_routes_18]; simp only [e_X12_routes, zo_iload, zo_lload, zo_aload, zo_istore, zo_lstore, zo_astore, zo_iinc, zo_pushI, zo_pushL, zo_null, zo_ii, zo_iid, zo_ll, zo_li, zo_lcmp, zo_i2l, zo_l2i, zo_dup, zo_dup2, zo_pop, zo_goto, zo_if, zo_icmp, zo_ifnull, zo_gets, zo_mm, zo_throw, zo_ret, zo_aret, zo_lret, q_iret_f, q_iret_1, q_iret_0, q_iret_b, q_c8_0, q_c8_1, q_c8_2, q_c8_3, q_c8_4, q_set_0, q_set_1i, q_set_1r, q_set_1n, q_set_1N, q_set_s, q_set_1j, q_bk_v, q_bk_n, q_if, zb_ite, cond_true, cond_false, List.getElem?_cons_zero, List.getElem?_cons_succ, Nat.reduceAdd, q_set_1l, q_set2_0, q_set2_1i, q_set2_1r, q_set2_1n, q_set2_s, n5, hc, hst, d2, zj_some, if_true, if_false, zb_eq0, zb_eq1, zn_1, not_true_eq_false, not_false_eq_true, ite_true, ite_false, if_true, if_false, q_iret_0, q_iret_1, decide_true, decide_false, decide_not, zb_t, zb_f, z10, z01, cond_true, cond_false, Bool.and_true, Bool.true_and, Bool.and_false, Bool.false_and, Bool.not_true, Bool.not_false, true_and, and_true, false_and, and_false, true_or, or_true, false_or, or_false, Bool.true_eq_false, Bool.false_eq_true, eq_self, reduceCtorEq, Bool.or_true, Bool.true_or, Bool.or_false, Bool.false_or])
      · obtain ⟨V, -, -, -, -, v16⟩ := r_vw H.1 (o := n) (seen_stay H.1 h60n d2)
        simp only [Nat.reduceAdd] at v16
        have v1 : fX12_viewed [.ref 0, .int (zn n), .int 1] R = some (.inl (some (.int (rd A 9 (zn n) 1))), R) := V 1 (by decide)
        by_cases d3 : rd A 9 (zn n) 29 = 1
        · by_cases d4 : rd A 9 (zn n) 1 = rd A 9 (zn o) 1
          · refine ⟨some 1, ?_⟩
            (rw [e_X12_routes_18]; simp only [e_X12_routes, zo_iload, zo_lload, zo_aload, zo_istore, zo_lstore, zo_astore, zo_iinc, zo_pushI, zo_pushL, zo_null, zo_ii, zo_iid, zo_ll, zo_li, zo_lcmp, zo_i2l, zo_l2i, zo_dup, zo_dup2, zo_pop, zo_goto, zo_if, zo_icmp, zo_ifnull, zo_gets, zo_mm, zo_throw, zo_ret, zo_aret, zo_lret, q_iret_f, q_iret_1, q_iret_0, q_iret_b, q_c8_0, q_c8_1, q_c8_2, q_c8_3, q_c8_4, q_set_0, q_set_1i, q_set_1r, q_set_1n, q_set_1N, q_set_s, q_set_1j, q_bk_v, q_bk_n, q_if, zb_ite, cond_true, cond_false, List.getElem?_cons_zero, List.getElem?_cons_succ, Nat.reduceAdd, q_set_1l, q_set2_0, q_set2_1i, q_set2_1r, q_set2_1n, q_set2_s, n5, hc, hst, d2, v16, d3, v1, h43, vk1, d4, zj_some, if_true, if_false, zb_eq0, zb_eq1, zn_1, not_true_eq_false, not_false_eq_true, ite_true, ite_false, if_true, if_false, q_iret_0, q_iret_1, decide_true, decide_false, decide_not, zb_t, zb_f, z10, z01, cond_true, cond_false, Bool.and_true, Bool.true_and, Bool.and_false, Bool.false_and, Bool.not_true, Bool.not_false, true_and, and_true, false_and, and_false, true_or, or_true, false_or, or_false, Bool.true_eq_false, Bool.false_eq_true, eq_self, reduceCtorEq, Bool.or_true, Bool.true_or, Bool.or_false, Bool.false_or])
          · refine ⟨some 0, ?_⟩
            (rw [e_X12_routes_18]; simp only [e_X12_routes, zo_iload, zo_lload, zo_aload, zo_istore, zo_lstore, zo_astore, zo_iinc, zo_pushI, zo_pushL, zo_null, zo_ii, zo_iid, zo_ll, zo_li, zo_lcmp, zo_i2l, zo_l2i, zo_dup, zo_dup2, zo_pop, zo_goto, zo_if, zo_icmp, zo_ifnull, zo_gets, zo_mm, zo_throw, zo_ret, zo_aret, zo_lret, q_iret_f, q_iret_1, q_iret_0, q_iret_b, q_c8_0, q_c8_1, q_c8_2, q_c8_3, q_c8_4, q_set_0, q_set_1i, q_set_1r, q_set_1n, q_set_1N, q_set_s, q_set_1j, q_bk_v, q_bk_n, q_if, zb_ite, cond_true, cond_false, List.getElem?_cons_zero, List.getElem?_cons_succ, Nat.reduceAdd, q_set_1l, q_set2_0, q_set2_1i, q_set2_1r, q_set2_1n, q_set2_s, n5, hc, hst, d2, v16, d3, v1, h43, vk1, d4, zj_some, if_true, if_false, zb_eq0, zb_eq1, zn_1, not_true_eq_false, not_false_eq_true, ite_true, ite_false, if_true, if_false, q_iret_0, q_iret_1, decide_true, decide_false, decide_not, zb_t, zb_f, z10, z01, cond_true, cond_false, Bool.and_true, Bool.true_and, Bool.and_false, Bool.false_and, Bool.not_true, Bool.not_false, true_and, and_true, false_and, and_false, true_or, or_true, false_or, or_false, Bool.true_eq_false, Bool.false_eq_true, eq_self, reduceCtorEq, Bool.or_true, Bool.true_or, Bool.or_false, Bool.false_or])
        · refine ⟨some 0, ?_⟩
          (rw [e_X12_routes_18]; simp only [e_X12_routes, zo_iload, zo_lload, zo_aload, zo_istore, zo_lstore, zo_astore, zo_iinc, zo_pushI, zo_pushL, zo_null, zo_ii, zo_iid, zo_ll, zo_li, zo_lcmp, zo_i2l, zo_l2i, zo_dup, zo_dup2, zo_pop, zo_goto, zo_if, zo_icmp, zo_ifnull, zo_gets, zo_mm, zo_throw, zo_ret, zo_aret, zo_lret, q_iret_f, q_iret_1, q_iret_0, q_iret_b, q_c8_0, q_c8_1, q_c8_2, q_c8_3, q_c8_4, q_set_0, q_set_1i, q_set_1r, q_set_1n, q_set_1N, q_set_s, q_set_1j, q_bk_v, q_bk_n, q_if, zb_ite, cond_true, cond_false, List.getElem?_cons_zero, List.getElem?_cons_succ, Nat.reduceAdd, q_set_1l, q_set2_0, q_set2_1i, q_set2_1r, q_set2_1n, q_set2_s, n5, hc, hst, d2, v16, d3, zj_some, if_true, if_false, zb_eq0, zb_eq1, zn_1, not_true_eq_false, not_false_eq_true, ite_true, ite_false, if_true, if_false, q_iret_0, q_iret_1, decide_true, decide_false, decide_not, zb_t, zb_f, z10, z01, cond_true, cond_false, Bool.and_true, Bool.true_and, Bool.and_false, Bool.false_and, Bool.not_true, Bool.not_false, true_and, and_true, false_and, and_false, true_or, or_true, false_or, or_false, Bool.true_eq_false, Bool.false_eq_true, eq_self, reduceCtorEq, Bool.or_true, Bool.true_or, Bool.or_false, Bool.false_or])
  obtain ⟨j4, e1⟩ := main (nv A 1) (Nat.le_refl _)
  rw [e1]
  have hc := zk_out hn
  obtain ⟨c1, c2, c3, c4, c5⟩ := rl_cur H.1.1 hon
  obtain ⟨-, vB, -, -, -⟩ := rv_row H.1 (o := o) hseen
  have eB : ∀ D, D 30 = pLow A o → D 31 = pHigh A o → encB (rSt A (rd A 9 (zn o) 1) (nv A 1)) D := fun D h1 h2 => route_enc H.1 _ h1 h2
  have hq := encB_eq (eB (dUp (dUp (row A o) 30 (pLow A o)) 31 (pHigh A o)) rfl rfl) vB
  have hq' : (rSt A (rd A 9 (zn o) 1) (nv A 1) = R.2 29 (60 * 6 + o)) ↔ (pLow A o = rd A 9 (zn o) 30 ∧ pHigh A o = rd A 9 (zn o) 31) := hq
  obtain ⟨b1, b2, b3⟩ := at_o H.1 h60
  obtain ⟨k1, k2⟩ := kinds_o o h60
  have e60 : (60 : Int32) * zn 6 = zn (60 * 6) := zn_mul 60 6
  have h42 := H.1.2.1
  generalize rSt A (rd A 9 (zn o) 1) (nv A 1) = S at eB hq' ⊢
  by_cases d2 : S = R.2 29 (60 * 6 + o)
  · obtain ⟨d3, d4⟩ := hq'.mp d2
    rw [decide_eq_true d3, decide_eq_true d4]
    have e : zz_ev tX12_routes 18 [some (.ref 0), some (.long S), none, some (.int (zn (nv A 1))), zj j4] [] R = some (.inl (some (.int 1)), R) := by
      (rw [e_X12_routes_18]; simp only [e_X12_routes, zo_iload, zo_lload, zo_aload, zo_istore, zo_lstore, zo_astore, zo_iinc, zo_pushI, zo_pushL, zo_null, zo_ii, zo_iid, zo_ll, zo_li, zo_lcmp, zo_i2l, zo_l2i, zo_dup, zo_dup2, zo_pop, zo_goto, zo_if, zo_icmp, zo_ifnull, zo_gets, zo_mm, zo_throw, zo_ret, zo_aret, zo_lret, q_iret_f, q_iret_1, q_iret_0, q_iret_b, q_c8_0, q_c8_1, q_c8_2, q_c8_3, q_c8_4, q_set_0, q_set_1i, q_set_1r, q_set_1n, q_set_1N, q_set_s, q_set_1j, q_bk_v, q_bk_n, q_if, zb_ite, cond_true, cond_false, List.getElem?_cons_zero, List.getElem?_cons_succ, Nat.reduceAdd, q_set_1l, q_set2_0, q_set2_1i, q_set2_1r, q_set2_1n, q_set2_s, n5, hc, h42, e60, h43, b1, b2, b3, q_aR, lc_0, d2, if_true, if_false, zb_eq0, zb_eq1, zn_1, not_true_eq_false, not_false_eq_true, ite_true, ite_false, if_true, if_false, q_iret_0, q_iret_1, decide_true, decide_false, decide_not, zb_t, zb_f, z10, z01, cond_true, cond_false, Bool.and_true, Bool.true_and, Bool.and_false, Bool.false_and, Bool.not_true, Bool.not_false, true_and, and_true, false_and, and_false, true_or, or_true, false_or, or_false, Bool.true_eq_false, Bool.false_eq_true, eq_self, reduceCtorEq, Bool.or_true, Bool.true_or, Bool.or_false, Bool.false_or])
    rw [e]
    exact srv_no H
  · have ec : (true && !(decide (pLow A o = rd A 9 (zn o) 30) && decide (pHigh A o = rd A 9 (zn o) 31))) = true := by
      cases q1 : decide (pLow A o = rd A 9 (zn o) 30)
      · rfl
      · cases q2 : decide (pHigh A o = rd A 9 (zn o) 31)
        · rfl
        · exact absurd (hq'.mpr ⟨of_decide_eq_true q1, of_decide_eq_true q2⟩) d2
    rw [ec, cond_true]
    refine srv_act (R := R) ?_
    have gD := goodS_up (k := 31) (v := pHigh A o) (Or.inr (by decide)) (goodS_up (k := 30) (v := pLow A o) (Or.inr (by decide)) c3)
    have eW : dOw (dUp (dUp (row A o) 30 (pLow A o)) 31 (pHigh A o)) = dUp (dUp (row A o) 30 (pLow A o)) 31 (pHigh A o) := dOw_good fun z => (gD.2.2.2.2.2.2.2.2 z).1
    have hw := r_writesIt H hon (D := dUp (dUp (row A o) 30 (pLow A o)) 31 (pHigh A o)) (x := R.2 7 o) (y := S) (by rw [eW]; exact gD) c4 c5 (by
      rw [eW]
      exact enc_c c1 fun k hk => by
        have key : ∀ k : Fin 17, sl k.1 ≠ 31 ∧ sl k.1 ≠ 30 := by decide
        obtain ⟨y1, y2⟩ := key ⟨k, hk⟩
        show (if sl k = 31 then _ else if sl k = 30 then _ else row A o (sl k)) = _
        rw [if_neg y1, if_neg y2]) (eB _ rfl rfl) fun f hf => by
        show (if 11 + f = 31 then _ else if 11 + f = 30 then _ else row A o (11 + f)) = _
        rw [if_neg (by omega), if_neg (by omega)]
    obtain ⟨R', f1, f2, f3⟩ := hw
    refine ⟨R', ?_, f2, f3⟩
    have ez : (bif utd A 6 o then aCh2 A o 30 (pLow A o) 31 (pHigh A o) else (false, A)) = (bif utd A 6 o then aWr A o (dUp (dUp (row A o) 30 (pLow A o)) 31 (pHigh A o)) else (false, A)) := by
      unfold aCh2
      cases utd A 6 o
      · rfl
      · rfl
    rw [ez]
    generalize (bif utd A 6 o then aWr A o (dUp (dUp (row A o) 30 (pLow A o)) 31 (pHigh A o)) else (false, A)) = P at f1 ⊢
    cases hP : P.1 <;> rw [hP] at f1
    · simp only [zb_f] at f1
      (rw [e_X12_routes_18]; simp only [e_X12_routes, zo_iload, zo_lload, zo_aload, zo_istore, zo_lstore, zo_astore, zo_iinc, zo_pushI, zo_pushL, zo_null, zo_ii, zo_iid, zo_ll, zo_li, zo_lcmp, zo_i2l, zo_l2i, zo_dup, zo_dup2, zo_pop, zo_goto, zo_if, zo_icmp, zo_ifnull, zo_gets, zo_mm, zo_throw, zo_ret, zo_aret, zo_lret, q_iret_f, q_iret_1, q_iret_0, q_iret_b, q_c8_0, q_c8_1, q_c8_2, q_c8_3, q_c8_4, q_set_0, q_set_1i, q_set_1r, q_set_1n, q_set_1N, q_set_s, q_set_1j, q_bk_v, q_bk_n, q_if, zb_ite, cond_true, cond_false, List.getElem?_cons_zero, List.getElem?_cons_succ, Nat.reduceAdd, q_set_1l, q_set2_0, q_set2_1i, q_set2_1r, q_set2_1n, q_set2_s, n5, hc, h42, e60, h43, b1, b2, b3, k1, k2, q_aR, lc_0, d2, f1, if_true, if_false, zb_eq0, zb_eq1, zn_1, not_true_eq_false, not_false_eq_true, ite_true, ite_false, if_true, if_false, q_iret_0, q_iret_1, decide_true, decide_false, decide_not, zb_t, zb_f, z10, z01, cond_true, cond_false, Bool.and_true, Bool.true_and, Bool.and_false, Bool.false_and, Bool.not_true, Bool.not_false, true_and, and_true, false_and, and_false, true_or, or_true, false_or, or_false, Bool.true_eq_false, Bool.false_eq_true, eq_self, reduceCtorEq, Bool.or_true, Bool.true_or, Bool.or_false, Bool.false_or])
    · simp only [zb_t] at f1
      (rw [e_X12_routes_18]; simp only [e_X12_routes, zo_iload, zo_lload, zo_aload, zo_istore, zo_lstore, zo_astore, zo_iinc, zo_pushI, zo_pushL, zo_null, zo_ii, zo_iid, zo_ll, zo_li, zo_lcmp, zo_i2l, zo_l2i, zo_dup, zo_dup2, zo_pop, zo_goto, zo_if, zo_icmp, zo_ifnull, zo_gets, zo_mm, zo_throw, zo_ret, zo_aret, zo_lret, q_iret_f, q_iret_1, q_iret_0, q_iret_b, q_c8_0, q_c8_1, q_c8_2, q_c8_3, q_c8_4, q_set_0, q_set_1i, q_set_1r, q_set_1n, q_set_1N, q_set_s, q_set_1j, q_bk_v, q_bk_n, q_if, zb_ite, cond_true, cond_false, List.getElem?_cons_zero, List.getElem?_cons_succ, Nat.reduceAdd, q_set_1l, q_set2_0, q_set2_1i, q_set2_1r, q_set2_1n, q_set2_s, n5, hc, h42, e60, h43, b1, b2, b3, k1, k2, q_aR, lc_0, d2, f1, if_true, if_false, zb_eq0, zb_eq1, zn_1, not_true_eq_false, not_false_eq_true, ite_true, ite_false, if_true, if_false, q_iret_0, q_iret_1, decide_true, decide_false, decide_not, zb_t, zb_f, z10, z01, cond_true, cond_false, Bool.and_true, Bool.true_and, Bool.and_false, Bool.false_and, Bool.not_true, Bool.not_false, true_and, and_true, false_and, and_false, true_or, or_true, false_or, or_false, Bool.true_eq_false, Bool.false_eq_true, eq_self, reduceCtorEq, Bool.or_true, Bool.true_or, Bool.or_false, Bool.false_or])
/-! SCALER -/
theorem r_shouldWant (H : rKy A R 7 o) (hseen : o < nv A 10) : fX12_shouldWant [.ref 0] R = some (.inl (some (.int (goalS A o))), R) := by
  have h43 := H.2.2.1
  have V := (r_vw H.1 (o := o) hseen).1
  have v6 : fX12_viewed [.ref 0, .int (zn o), .int 6] R = some (.inl (some (.int (rd A 10 (zn o) 6))), R) := V 6 (by decide)
  have v5 : fX12_viewed [.ref 0, .int (zn o), .int 5] R = some (.inl (some (.int (rd A 10 (zn o) 5))), R) := V 5 (by decide)
  have n10 : ((10 : Int32) = 0) = False := eq_false (by decide)
  rw [s_X12_shouldWant]
  unfold goalS
  generalize rd A 10 (zn o) 6 = l at v6 ⊢
  generalize rd A 10 (zn o) 5 = m at v5 ⊢
  have key : ∀ t : Int32, (if 1 < t then t else 1) = if 1 ≤ t then t else 1 := fun t => by
    by_cases q : 1 < t
    · rw [if_pos q, if_pos (Int32.le_of_lt q)]
    · rw [if_neg q]
      by_cases q2 : 1 ≤ t
      · rw [if_pos q2]
        refine Int32.toInt_inj.mp ?_
        rw [Int32.lt_iff_toInt_lt] at q
        rw [Int32.le_iff_toInt_le] at q2
        omega
      · rw [if_neg q2]
  rw [key]
  generalize ht : (l + 9) / 10 = t
  by_cases d1 : 1 ≤ t
  · rw [if_pos d1]
    by_cases d2 : m ≤ t
    · have d3 : ¬ t < m := Int32.not_lt.mpr d2
      rw [if_neg d3]
      (simp only [e_X12_shouldWant, zo_iload, zo_lload, zo_aload, zo_istore, zo_lstore, zo_astore, zo_iinc, zo_pushI, zo_pushL, zo_null, zo_ii, zo_iid, zo_ll, zo_li, zo_lcmp, zo_i2l, zo_l2i, zo_dup, zo_dup2, zo_pop, zo_goto, zo_if, zo_icmp, zo_ifnull, zo_gets, zo_mm, zo_throw, zo_ret, zo_aret, zo_lret, q_iret_f, q_iret_1, q_iret_0, q_iret_b, q_c8_0, q_c8_1, q_c8_2, q_c8_3, q_c8_4, q_set_0, q_set_1i, q_set_1r, q_set_1n, q_set_1N, q_set_s, q_set_1j, q_bk_v, q_bk_n, q_if, zb_ite, cond_true, cond_false, List.getElem?_cons_zero, List.getElem?_cons_succ, Nat.reduceAdd, q_set_1l, q_set2_0, q_set2_1i, q_set2_1r, q_set2_1n, q_set2_s, h43, v6, n10, ht, d1, v5, d2, if_true, if_false, zb_eq0, zb_eq1, zn_1, not_true_eq_false, not_false_eq_true, ite_true, ite_false, if_true, if_false, q_iret_0, q_iret_1, decide_true, decide_false, decide_not, zb_t, zb_f, z10, z01, cond_true, cond_false, Bool.and_true, Bool.true_and, Bool.and_false, Bool.false_and, Bool.not_true, Bool.not_false, true_and, and_true, false_and, and_false, true_or, or_true, false_or, or_false, Bool.true_eq_false, Bool.false_eq_true, eq_self, reduceCtorEq, Bool.or_true, Bool.true_or, Bool.or_false, Bool.false_or])
    · rw [if_pos (Int32.not_le.mp d2)]
      (simp only [e_X12_shouldWant, zo_iload, zo_lload, zo_aload, zo_istore, zo_lstore, zo_astore, zo_iinc, zo_pushI, zo_pushL, zo_null, zo_ii, zo_iid, zo_ll, zo_li, zo_lcmp, zo_i2l, zo_l2i, zo_dup, zo_dup2, zo_pop, zo_goto, zo_if, zo_icmp, zo_ifnull, zo_gets, zo_mm, zo_throw, zo_ret, zo_aret, zo_lret, q_iret_f, q_iret_1, q_iret_0, q_iret_b, q_c8_0, q_c8_1, q_c8_2, q_c8_3, q_c8_4, q_set_0, q_set_1i, q_set_1r, q_set_1n, q_set_1N, q_set_s, q_set_1j, q_bk_v, q_bk_n, q_if, zb_ite, cond_true, cond_false, List.getElem?_cons_zero, List.getElem?_cons_succ, Nat.reduceAdd, q_set_1l, q_set2_0, q_set2_1i, q_set2_1r, q_set2_1n, q_set2_s, h43, v6, n10, ht, d1, v5, d2, if_true, if_false, zb_eq0, zb_eq1, zn_1, not_true_eq_false, not_false_eq_true, ite_true, ite_false, if_true, if_false, q_iret_0, q_iret_1, decide_true, decide_false, decide_not, zb_t, zb_f, z10, z01, cond_true, cond_false, Bool.and_true, Bool.true_and, Bool.and_false, Bool.false_and, Bool.not_true, Bool.not_false, true_and, and_true, false_and, and_false, true_or, or_true, false_or, or_false, Bool.true_eq_false, Bool.false_eq_true, eq_self, reduceCtorEq, Bool.or_true, Bool.true_or, Bool.or_false, Bool.false_or])
  · rw [if_neg d1]
    by_cases d2 : m ≤ 1
    · have d3 : ¬ 1 < m := Int32.not_lt.mpr d2
      rw [if_neg d3]
      (simp only [e_X12_shouldWant, zo_iload, zo_lload, zo_aload, zo_istore, zo_lstore, zo_astore, zo_iinc, zo_pushI, zo_pushL, zo_null, zo_ii, zo_iid, zo_ll, zo_li, zo_lcmp, zo_i2l, zo_l2i, zo_dup, zo_dup2, zo_pop, zo_goto, zo_if, zo_icmp, zo_ifnull, zo_gets, zo_mm, zo_throw, zo_ret, zo_aret, zo_lret, q_iret_f, q_iret_1, q_iret_0, q_iret_b, q_c8_0, q_c8_1, q_c8_2, q_c8_3, q_c8_4, q_set_0, q_set_1i, q_set_1r, q_set_1n, q_set_1N, q_set_s, q_set_1j, q_bk_v, q_bk_n, q_if, zb_ite, cond_true, cond_false, List.getElem?_cons_zero, List.getElem?_cons_succ, Nat.reduceAdd, q_set_1l, q_set2_0, q_set2_1i, q_set2_1r, q_set2_1n, q_set2_s, h43, v6, n10, ht, d1, v5, d2, if_true, if_false, zb_eq0, zb_eq1, zn_1, not_true_eq_false, not_false_eq_true, ite_true, ite_false, if_true, if_false, q_iret_0, q_iret_1, decide_true, decide_false, decide_not, zb_t, zb_f, z10, z01, cond_true, cond_false, Bool.and_true, Bool.true_and, Bool.and_false, Bool.false_and, Bool.not_true, Bool.not_false, true_and, and_true, false_and, and_false, true_or, or_true, false_or, or_false, Bool.true_eq_false, Bool.false_eq_true, eq_self, reduceCtorEq, Bool.or_true, Bool.true_or, Bool.or_false, Bool.false_or])
    · rw [if_pos (Int32.not_le.mp d2)]
      (simp only [e_X12_shouldWant, zo_iload, zo_lload, zo_aload, zo_istore, zo_lstore, zo_astore, zo_iinc, zo_pushI, zo_pushL, zo_null, zo_ii, zo_iid, zo_ll, zo_li, zo_lcmp, zo_i2l, zo_l2i, zo_dup, zo_dup2, zo_pop, zo_goto, zo_if, zo_icmp, zo_ifnull, zo_gets, zo_mm, zo_throw, zo_ret, zo_aret, zo_lret, q_iret_f, q_iret_1, q_iret_0, q_iret_b, q_c8_0, q_c8_1, q_c8_2, q_c8_3, q_c8_4, q_set_0, q_set_1i, q_set_1r, q_set_1n, q_set_1N, q_set_s, q_set_1j, q_bk_v, q_bk_n, q_if, zb_ite, cond_true, cond_false, List.getElem?_cons_zero, List.getElem?_cons_succ, Nat.reduceAdd, q_set_1l, q_set2_0, q_set2_1i, q_set2_1r, q_set2_1n, q_set2_s, h43, v6, n10, ht, d1, v5, d2, if_true, if_false, zb_eq0, zb_eq1, zn_1, not_true_eq_false, not_false_eq_true, ite_true, ite_false, if_true, if_false, q_iret_0, q_iret_1, decide_true, decide_false, decide_not, zb_t, zb_f, z10, z01, cond_true, cond_false, Bool.and_true, Bool.true_and, Bool.and_false, Bool.false_and, Bool.not_true, Bool.not_false, true_and, and_true, false_and, and_false, true_or, or_true, false_or, or_false, Bool.true_eq_false, Bool.false_eq_true, eq_self, reduceCtorEq, Bool.or_true, Bool.true_or, Bool.or_false, Bool.false_or])
theorem goal_in {m : Nat} (h : rd A 10 (zn o) 5 = zn m) (h1 : 1 ≤ m) (h5 : m ≤ 5) : ∃ q, goalS A o = zn q ∧ q ≤ 5 := by
  unfold goalS
  rw [h]
  generalize hx : (if 1 < (rd A 10 (zn o) 6 + 9) / 10 then (rd A 10 (zn o) 6 + 9) / 10 else (1 : Int32)) = x
  have hx1 : 1 ≤ x.toInt := by
    rw [← hx]
    by_cases q : 1 < (rd A 10 (zn o) 6 + 9) / 10
    · rw [if_pos q]
      rw [Int32.lt_iff_toInt_lt] at q
      have : (1 : Int32).toInt = 1 := rfl
      omega
    · rw [if_neg q]; decide
  by_cases q : x < zn m
  · rw [if_pos q]
    rw [Int32.lt_iff_toInt_lt, zn_toInt (by omega)] at q
    obtain ⟨a1, a2⟩ := zn_of (x := x) (n := 6) (by omega) (by omega)
    exact ⟨zz_ix x, a1, by omega⟩
  · rw [if_neg q]; exact ⟨m, rfl, h5⟩
theorem Rl0_72 (H : Rl0 A R) (h60 : o < 60) : Rl0 (zz_sI A 72 o (A.1 1 7)) (zz_sI R 13 o (R.1 0 48)) := by
  have M := H.2.2.2.2.2
  refine Rl0_m H ((zIC_72 (by decide)).mpr H.1.2) (fun a b _ h1 _ _ _ _ _ _ _ _ => sI_a h1) (fun a b h1 _ _ _ _ _ _ _ _ => sI_a h1) rfl (Nat.le_refl _) (fun b hb => ?_) H.2.2.2.2.1 ⟨M.1, M.2.1, M.2.2.1, M.2.2.2.1, M.2.2.2.2.1, M.2.2.2.2.2.1, fun c hc => (sI_a (by omega)).trans (M.2.2.2.2.2.2 c hc)⟩
  have e : now (zz_sI A 72 o (A.1 1 7)) = now A := rfl
  rw [e]
  by_cases q : b = o
  · rw [q, sI_e, sI_e]
    exact ⟨M.1.2.2.trans M.1.1.symm, Or.inr ⟨now A, Nat.le_refl _, M.1.1⟩⟩
  · rw [sI_b q, sI_b q]
    exact H.2.2.2.1 b hb
theorem r_scales (H : rKy A R 7 o) (hne : (stay A 10 (zn o) 0 && decide (0 < rd A 10 (zn o) 5)) = true → (!decide (rd A 10 (zn o) 0 ≤ goalS A o) && earlyS A o) = false) : srvTo A (dS7 A A o) 7 o (fX12_scales [.ref 0] R) := by
  have h60 := H.2.2.2
  have h43 := H.2.2.1
  have hs := r_stays H.1 h60 0
  simp only [Nat.reduceAdd] at hs
  rw [s_X12_scales]
  unfold dS7
  cases d1 : stay A 10 (zn o) 0
  · have e : zz_ev tX12_scales 0 [some (.ref 0), none, none] [] R = some (.inl (some (.int 1)), R) := by
      (simp only [e_X12_scales, zo_iload, zo_lload, zo_aload, zo_istore, zo_lstore, zo_astore, zo_iinc, zo_pushI, zo_pushL, zo_null, zo_ii, zo_iid, zo_ll, zo_li, zo_lcmp, zo_i2l, zo_l2i, zo_dup, zo_dup2, zo_pop, zo_goto, zo_if, zo_icmp, zo_ifnull, zo_gets, zo_mm, zo_throw, zo_ret, zo_aret, zo_lret, q_iret_f, q_iret_1, q_iret_0, q_iret_b, q_c8_0, q_c8_1, q_c8_2, q_c8_3, q_c8_4, q_set_0, q_set_1i, q_set_1r, q_set_1n, q_set_1N, q_set_s, q_set_1j, q_bk_v, q_bk_n, q_if, zb_ite, cond_true, cond_false, List.getElem?_cons_zero, List.getElem?_cons_succ, Nat.reduceAdd, q_set_1l, q_set2_0, q_set2_1i, q_set2_1r, q_set2_1n, q_set2_s, h43, hs, d1, if_true, if_false, zb_eq0, zb_eq1, zn_1, not_true_eq_false, not_false_eq_true, ite_true, ite_false, if_true, if_false, q_iret_0, q_iret_1, decide_true, decide_false, decide_not, zb_t, zb_f, z10, z01, cond_true, cond_false, Bool.and_true, Bool.true_and, Bool.and_false, Bool.false_and, Bool.not_true, Bool.not_false, true_and, and_true, false_and, and_false, true_or, or_true, false_or, or_false, Bool.true_eq_false, Bool.false_eq_true, eq_self, reduceCtorEq, Bool.or_true, Bool.true_or, Bool.or_false, Bool.false_or])
    rw [e]
    exact srv_no H
  rw [d1] at hne
  have hseen : o < nv A 10 := seen_stay H.1 h60 d1
  have hon : o < nv A 1 := Nat.lt_of_lt_of_le hseen (rv_nv H.1)
  have V := (r_vw H.1 (o := o) hseen).1
  have v0 : fX12_viewed [.ref 0, .int (zn o), .int 0] R = some (.inl (some (.int (rd A 10 (zn o) 0))), R) := V 0 (by decide)
  have v5 : fX12_viewed [.ref 0, .int (zn o), .int 5] R = some (.inl (some (.int (rd A 10 (zn o) 5))), R) := V 5 (by decide)
  have hsw := r_shouldWant H hseen
  obtain ⟨m, m1, -, m3⟩ := fld H.1 (i := o) (f := 5) hseen (by decide)
  have m1' : rd A 10 (zn o) 5 = zn m := m1
  have m5 : m ≤ 5 := m3
  obtain ⟨h, h1, -, h3⟩ := fld H.1 (i := o) (f := 0) hseen (by decide)
  have h1' : rd A 10 (zn o) 0 = zn h := h1
  have h5 : h ≤ 5 := h3
  rw [m1'] at v5
  rw [h1'] at v0
  by_cases d2 : m = 0
  · have e0 : (zn m = 0) = True := eq_true (by rw [d2]; rfl)
    have c0 : ¬ (0 : Int32) < rd A 10 (zn o) 5 := by rw [m1', d2]; decide
    rw [decide_eq_false c0]
    have e : zz_ev tX12_scales 0 [some (.ref 0), none, none] [] R = some (.inl (some (.int 1)), R) := by
      (simp only [e_X12_scales, zo_iload, zo_lload, zo_aload, zo_istore, zo_lstore, zo_astore, zo_iinc, zo_pushI, zo_pushL, zo_null, zo_ii, zo_iid, zo_ll, zo_li, zo_lcmp, zo_i2l, zo_l2i, zo_dup, zo_dup2, zo_pop, zo_goto, zo_if, zo_icmp, zo_ifnull, zo_gets, zo_mm, zo_throw, zo_ret, zo_aret, zo_lret, q_iret_f, q_iret_1, q_iret_0, q_iret_b, q_c8_0, q_c8_1, q_c8_2, q_c8_3, q_c8_4, q_set_0, q_set_1i, q_set_1r, q_set_1n, q_set_1N, q_set_s, q_set_1j, q_bk_v, q_bk_n, q_if, zb_ite, cond_true, cond_false, List.getElem?_cons_zero, List.getElem?_cons_succ, Nat.reduceAdd, q_set_1l, q_set2_0, q_set2_1i, q_set2_1r, q_set2_1n, q_set2_s, h43, hs, d1, v5, e0, if_true, if_false, zb_eq0, zb_eq1, zn_1, not_true_eq_false, not_false_eq_true, ite_true, ite_false, if_true, if_false, q_iret_0, q_iret_1, decide_true, decide_false, decide_not, zb_t, zb_f, z10, z01, cond_true, cond_false, Bool.and_true, Bool.true_and, Bool.and_false, Bool.false_and, Bool.not_true, Bool.not_false, true_and, and_true, false_and, and_false, true_or, or_true, false_or, or_false, Bool.true_eq_false, Bool.false_eq_true, eq_self, reduceCtorEq, Bool.or_true, Bool.true_or, Bool.or_false, Bool.false_or])
    rw [e]
    exact srv_no H
  · have e0 : (zn m = 0) = False := by
      have := zn_inj (a := m) (b := 0) (by omega) (by decide)
      rw [show (zn 0 : Int32) = 0 from rfl] at this
      rw [this]; exact eq_false d2
    have c0 : (0 : Int32) < rd A 10 (zn o) 5 := by
      rw [m1']
      have := zn_lt (a := 0) (b := m) (by decide) (by omega)
      rw [show (zn 0 : Int32) = 0 from rfl] at this
      rw [this]; omega
    rw [decide_eq_true c0] at hne ⊢
    rw [hne rfl]
    simp only [Bool.and_self, cond_true, cond_false]
    obtain ⟨q, q1, q5⟩ := goal_in (o := o) m1' (by omega) m5
    rw [q1] at hsw ⊢
    by_cases d3 : h = q
    · have ew : aWant A 7 o (zn q) = (true, A) := by
        unfold aWant
        rw [show rd A (3 + 7) (zn o) 0 = zn h from h1', decide_eq_true (by rw [d3])]
        rfl
      rw [ew]
      have es : aScal (true, A) (A.1 1 3) o = (1, A) := by
        unfold aScal
        rw [decide_eq_true (Int32.le_refl _)]
        rfl
      rw [es]
      have e3 : (zn h = zn q) = True := eq_true (by rw [d3])
      have e : zz_ev tX12_scales 0 [some (.ref 0), none, none] [] R = some (.inl (some (.int 1)), R) := by
        (simp only [e_X12_scales, zo_iload, zo_lload, zo_aload, zo_istore, zo_lstore, zo_astore, zo_iinc, zo_pushI, zo_pushL, zo_null, zo_ii, zo_iid, zo_ll, zo_li, zo_lcmp, zo_i2l, zo_l2i, zo_dup, zo_dup2, zo_pop, zo_goto, zo_if, zo_icmp, zo_ifnull, zo_gets, zo_mm, zo_throw, zo_ret, zo_aret, zo_lret, q_iret_f, q_iret_1, q_iret_0, q_iret_b, q_c8_0, q_c8_1, q_c8_2, q_c8_3, q_c8_4, q_set_0, q_set_1i, q_set_1r, q_set_1n, q_set_1N, q_set_s, q_set_1j, q_bk_v, q_bk_n, q_if, zb_ite, cond_true, cond_false, List.getElem?_cons_zero, List.getElem?_cons_succ, Nat.reduceAdd, q_set_1l, q_set2_0, q_set2_1i, q_set2_1r, q_set2_1n, q_set2_s, h43, hs, d1, v5, e0, v0, hsw, e3, if_true, if_false, zb_eq0, zb_eq1, zn_1, not_true_eq_false, not_false_eq_true, ite_true, ite_false, if_true, if_false, q_iret_0, q_iret_1, decide_true, decide_false, decide_not, zb_t, zb_f, z10, z01, cond_true, cond_false, Bool.and_true, Bool.true_and, Bool.and_false, Bool.false_and, Bool.not_true, Bool.not_false, true_and, and_true, false_and, and_false, true_or, or_true, false_or, or_false, Bool.true_eq_false, Bool.false_eq_true, eq_self, reduceCtorEq, Bool.or_true, Bool.true_or, Bool.or_false, Bool.false_or])
      rw [e]
      exact srv_no H
    · have e3 : (zn h = zn q) = False := by rw [zn_inj (by omega) (by omega)]; exact eq_false d3
      have hk : rd A (3 + 7) (zn o) 23 = 0 := (of_decide_eq_true d1).1
      have h14 := H.1.1.2.1.1.1
      have h13 := H.1.1.1.2.1.2.2.1
      obtain ⟨R1, e1, e2, -⟩ := wants_of H hseen (Or.inr hk) h1 h5 q5 d3
      obtain ⟨b1, x1⟩ := kinds_o o h60
      have g14 := e2.1.1.2.1.1.1
      have g43 := e2.2.2.1
      have hve1 : ve (wrtn (A.1 1 3) 7 o (aWant A 7 o (zn q)).2) 1 = ve (aWant A 7 o (zn q)).2 1 := by
        unfold wrtn
        cases decide ((aWant A 7 o (zn q)).2.1 1 3 ≤ A.1 1 3)
        · exact congrArg zz_ix (sI_a (by decide))
        · rfl
      rw [hve1] at g14
      have hB13 : (aWant A 7 o (zn q)).2.1 1 3 = zn (ve (aWant A 7 o (zn q)).2 1) := by
        have := e2.1.1.1.2.1.2.2.1
        unfold wrtn at this
        cases hd : decide ((aWant A 7 o (zn q)).2.1 1 3 ≤ A.1 1 3)
        · rw [hd] at this
          have h1 := this
          rw [cond_false, sI_a (show (1 : Nat) ≠ 26 + 6 * 7 by decide)] at h1
          exact h1.trans (congrArg zn (congrArg zz_ix (sI_a (by decide))))
        · rw [hd] at this
          exact this
      unfold srvTo aScal
      have run : ∀ S, (zz_sI R1 13 o (if zn (ve (aWant A 7 o (zn q)).2 1) ≤ zn (ve A 1) then R1.1 13 o else R1.1 0 48)) = S → zz_ev tX12_scales 0 [some (.ref 0), none, none] [] R = some (.inl (some (.int (zb (aWant A 7 o (zn q)).1))), S) := by
        intro S hS
        by_cases d4 : zn (ve (aWant A 7 o (zn q)).2 1) ≤ zn (ve A 1)
        · rw [if_pos d4] at hS
          (simp only [e_X12_scales, zo_iload, zo_lload, zo_aload, zo_istore, zo_lstore, zo_astore, zo_iinc, zo_pushI, zo_pushL, zo_null, zo_ii, zo_iid, zo_ll, zo_li, zo_lcmp, zo_i2l, zo_l2i, zo_dup, zo_dup2, zo_pop, zo_goto, zo_if, zo_icmp, zo_ifnull, zo_gets, zo_mm, zo_throw, zo_ret, zo_aret, zo_lret, q_iret_f, q_iret_1, q_iret_0, q_iret_b, q_c8_0, q_c8_1, q_c8_2, q_c8_3, q_c8_4, q_set_0, q_set_1i, q_set_1r, q_set_1n, q_set_1N, q_set_s, q_set_1j, q_bk_v, q_bk_n, q_if, zb_ite, cond_true, cond_false, List.getElem?_cons_zero, List.getElem?_cons_succ, Nat.reduceAdd, q_set_1l, q_set2_0, q_set2_1i, q_set2_1r, q_set2_1n, q_set2_s, h43, hs, d1, v5, e0, v0, hsw, e3, h14, e1, g14, g43, d4, b1, x1, q_aR, hS, if_true, if_false, zb_eq0, zb_eq1, zn_1, not_true_eq_false, not_false_eq_true, ite_true, ite_false, if_true, if_false, q_iret_0, q_iret_1, decide_true, decide_false, decide_not, zb_t, zb_f, z10, z01, cond_true, cond_false, Bool.and_true, Bool.true_and, Bool.and_false, Bool.false_and, Bool.not_true, Bool.not_false, true_and, and_true, false_and, and_false, true_or, or_true, false_or, or_false, Bool.true_eq_false, Bool.false_eq_true, eq_self, reduceCtorEq, Bool.or_true, Bool.true_or, Bool.or_false, Bool.false_or])
        · rw [if_neg d4] at hS
          (simp only [e_X12_scales, zo_iload, zo_lload, zo_aload, zo_istore, zo_lstore, zo_astore, zo_iinc, zo_pushI, zo_pushL, zo_null, zo_ii, zo_iid, zo_ll, zo_li, zo_lcmp, zo_i2l, zo_l2i, zo_dup, zo_dup2, zo_pop, zo_goto, zo_if, zo_icmp, zo_ifnull, zo_gets, zo_mm, zo_throw, zo_ret, zo_aret, zo_lret, q_iret_f, q_iret_1, q_iret_0, q_iret_b, q_c8_0, q_c8_1, q_c8_2, q_c8_3, q_c8_4, q_set_0, q_set_1i, q_set_1r, q_set_1n, q_set_1N, q_set_s, q_set_1j, q_bk_v, q_bk_n, q_if, zb_ite, cond_true, cond_false, List.getElem?_cons_zero, List.getElem?_cons_succ, Nat.reduceAdd, q_set_1l, q_set2_0, q_set2_1i, q_set2_1r, q_set2_1n, q_set2_s, h43, hs, d1, v5, e0, v0, hsw, e3, h14, e1, g14, g43, d4, b1, x1, q_aR, hS, if_true, if_false, zb_eq0, zb_eq1, zn_1, not_true_eq_false, not_false_eq_true, ite_true, ite_false, if_true, if_false, q_iret_0, q_iret_1, decide_true, decide_false, decide_not, zb_t, zb_f, z10, z01, cond_true, cond_false, Bool.and_true, Bool.true_and, Bool.and_false, Bool.false_and, Bool.not_true, Bool.not_false, true_and, and_true, false_and, and_false, true_or, or_true, false_or, or_false, Bool.true_eq_false, Bool.false_eq_true, eq_self, reduceCtorEq, Bool.or_true, Bool.true_or, Bool.or_false, Bool.false_or])
      rw [hB13, h13]
      rw [h13] at e2
      by_cases d4 : zn (ve (aWant A 7 o (zn q)).2 1) ≤ zn (ve A 1)
      · rw [decide_eq_true d4, cond_true]
        rw [if_pos d4] at run
        exact ⟨R1, _, run R1 (sI_same _ _ _), rfl, e2⟩
      · rw [decide_eq_false d4, cond_false]
        rw [if_neg d4] at run
        refine ⟨_, _, run _ rfl, rfl, ?_⟩
        have hw : wrtn (zn (ve A 1)) 7 o (aWant A 7 o (zn q)).2 = zz_sI (aWant A 7 o (zn q)).2 68 o (zn (ve (aWant A 7 o (zn q)).2 1)) := by
          unfold wrtn
          rw [hB13, decide_eq_false d4]
          rfl
        have hw2 : wrtn (zn (ve A 1)) 7 o (zz_sI (aWant A 7 o (zn q)).2 72 o ((aWant A 7 o (zn q)).2.1 1 7)) = zz_sI (wrtn (zn (ve A 1)) 7 o (aWant A 7 o (zn q)).2) 72 o ((wrtn (zn (ve A 1)) 7 o (aWant A 7 o (zn q)).2).1 1 7) := by
          rw [hw, sI_a (show (1 : Nat) ≠ 68 by decide)]
          unfold wrtn
          rw [sI_a (show (1 : Nat) ≠ 72 by decide), hB13, decide_eq_false d4, cond_false]
          refine Prod.ext (funext fun a => funext fun b => ?_) rfl
          show (if a = 68 ∧ b = o then _ else if a = 72 ∧ b = o then _ else (aWant A 7 o (zn q)).2.1 a b) = (if a = 72 ∧ b = o then _ else if a = 68 ∧ b = o then _ else (aWant A 7 o (zn q)).2.1 a b)
          by_cases q1 : a = 68 ∧ b = o
          · rw [if_pos q1, if_neg (by omega), if_pos q1]
          · rw [if_neg q1, if_neg q1]
        show rKy (wrtn (zn (ve A 1)) 7 o (zz_sI (aWant A 7 o (zn q)).2 72 o ((aWant A 7 o (zn q)).2.1 1 7))) (zz_sI R1 13 o (R1.1 0 48)) 7 o
        rw [hw2]
        refine ⟨⟨Rl0_72 e2.1.1 h60, (sI_a (by decide)).trans e2.1.2.1, by decide⟩, RMan_c e2.2.1 (fun b => sI_a (by decide)) (sI_a (by decide)) (sI_a (by decide)) (fun b => sI_a (by decide)), (sI_a (by decide)).trans e2.2.2.1, h60⟩
end
end

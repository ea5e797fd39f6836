section
/-! what a controller of the reference sees -/
theorem pigeon : ∀ (m n : Nat) (f : Nat → Nat), (∀ p, p < n → f p < m) → (∀ p q, p < n → q < n → f p = f q → p = q) → n ≤ m
  | 0, n, f, h1, _ => by
    by_cases c : n = 0
    · omega
    · exact absurd (h1 0 (by omega)) (Nat.not_lt_zero _)
  | m + 1, n, f, h1, h2 => by
    by_cases c : ∃ p, p < n ∧ f p = m
    · obtain ⟨p0, a1, a2⟩ := c
      have := pigeon m (n - 1) (fun p => if p < p0 then f p else f (p + 1)) (fun p hp => by
        show (if p < p0 then f p else f (p + 1)) < m
        by_cases q : p < p0
        · rw [if_pos q]
          have b1 := h1 p (by omega)
          have b2 : f p ≠ m := fun e => by have := h2 p p0 (by omega) a1 (e.trans a2.symm); omega
          omega
        · rw [if_neg q]
          have b1 := h1 (p + 1) (by omega)
          have b2 : f (p + 1) ≠ m := fun e => by have := h2 (p + 1) p0 (by omega) a1 (e.trans a2.symm); omega
          omega) (fun p q hp hq e => by
        have e' : (if p < p0 then f p else f (p + 1)) = (if q < p0 then f q else f (q + 1)) := e
        by_cases c1 : p < p0
        · rw [if_pos c1] at e'
          by_cases c2 : q < p0
          · rw [if_pos c2] at e'; exact h2 p q (by omega) (by omega) e'
          · rw [if_neg c2] at e'; have := h2 p (q + 1) (by omega) (by omega) e'; omega
        · rw [if_neg c1] at e'
          by_cases c2 : q < p0
          · rw [if_pos c2] at e'; have := h2 (p + 1) q (by omega) (by omega) e'; omega
          · rw [if_neg c2] at e'; have := h2 (p + 1) (q + 1) (by omega) (by omega) e'; omega)
      omega
    · have := pigeon m n f (fun p hp => by
        have b1 := h1 p hp
        have b2 : f p ≠ m := fun e => c ⟨p, hp, e⟩
        omega) h2
      omega
theorem dq_add (a b c : Int32) : (b - a) + (c - b) = c - a := by
  have h1 := Int32.sub_add_cancel b a
  have h2 := Int32.sub_add_cancel c b
  generalize b - a = x at h1 ⊢
  generalize c - b = y at h2 ⊢
  rw [← h2, ← h1, ← Int32.add_assoc, Int32.add_sub_cancel, Int32.add_comm]
theorem dq_0 (a : Int32) : a - a = 0 := Int32.sub_self a
/-- a controller's own numbers change alone -/
theorem Rl0_q {A A' R R' : zzMd} {c : Nat} (hc : c < 8) (H : Rl0 A R) (W : zIC A')
    (hA : ∀ a b, a ≠ 3 + c ∨ b ≠ 11 → a ≠ 22 + 6 * c → a ≠ 23 + 6 * c → a ≠ 24 + 6 * c → a ≠ 25 + 6 * c → a ≠ 26 + 6 * c → A'.1 a b = A.1 a b)
    (hR : ∀ a b, a ≠ 31 ∨ b ≠ c → a < 32 ∨ 35 < a ∨ b < 60 * c ∨ 60 * c + 60 ≤ b → a ≠ 0 ∨ b ≠ 31 ∧ b ≠ 42 ∧ b ≠ 43 ∧ b ≠ 49 → R'.1 a b = R.1 a b) (h2 : R'.2 = R.2) (Q : RQ A' R' c) : Rl0 A' R' := by
  obtain ⟨⟨⟨k1, k2, k3⟩, W0⟩, ⟨⟨L1, L2⟩, L3, L4, ⟨L5, L6⟩, L7⟩, VQ, S, ⟨⟨s1, s2, s3, s4⟩, s5, s6⟩, t1, ⟨k, t2, t3, t4⟩, t5, t6, t7, t8, t9⟩ := H
  have gA : ∀ a b, a ≤ 2 ∨ 11 ≤ a ∧ a ≤ 20 ∨ 69 ≤ a → A'.1 a b = A.1 a b := fun a b h => hA a b (Or.inl (by omega)) (by omega) (by omega) (by omega) (by omega) (by omega)
  have gR : ∀ a b, a ≠ 0 → a < 31 ∨ 35 < a → R'.1 a b = R.1 a b := fun a b h1 h3 => hR a b (Or.inl (by omega)) (by omega) (Or.inl h1)
  have g0 : ∀ b, b ≠ 31 → b ≠ 42 → b ≠ 43 → b ≠ 49 → R'.1 0 b = R.1 0 b := fun b x1 x2 x3 x4 => hR 0 b (Or.inl (by decide)) (Or.inl (by decide)) (Or.inr ⟨x1, x2, x3, x4⟩)
  have ev : ve A' 1 = ve A 1 := congrArg zz_ix (gA 1 3 (Or.inl (by decide)))
  have en : nv A' 1 = nv A 1 := congrArg zz_ix (gA 1 2 (Or.inl (by decide)))
  have eno : now A' = now A := congrArg zz_ix (gA 1 7 (Or.inl (by decide)))
  have eob : obj A' = obj A := funext fun k => congrArg zz_ix (gA 14 _ (Or.inr (Or.inl ⟨by decide, by decide⟩)))
  have elg : lg A' = lg A := funext fun k => funext fun s => gA 14 _ (Or.inr (Or.inl ⟨by decide, by decide⟩))
  refine ⟨⟨⟨fun k hk => ?_, fun f hf => ?_, fun t ht => ?_⟩, W⟩, ⟨⟨?_, ?_⟩, fun k a b => ?_, ?_, ⟨?_, fun b hb => ?_⟩, fun b hb => ?_⟩, fun d hd => ?_, fun b hb => ?_, ⟨⟨?_, ?_, ?_, ?_⟩, fun i hi => ?_, fun i hi => ?_⟩, ?_, ⟨k, ?_, ?_, ?_⟩, fun b hb => ?_, fun r hr => ?_, fun b hb => ?_, ?_, fun d hd => ?_⟩
  · rw [gR 1 k (by decide) (by decide), gR 2 k (by decide) (by decide)]; exact k1 k hk
  · rw [gR 3 f (by decide) (by decide), gR 4 f (by decide) (by decide)]; exact k2 f hf
  · rw [gR 5 t (by decide) (by decide)]; exact k3 t ht
  · rw [g0 14 (by decide) (by decide) (by decide) (by decide), ev]; exact L1
  · rw [g0 5 (by decide) (by decide) (by decide) (by decide), en]; exact L2
  · rw [ev] at b
    have z := L3 k a b
    unfold RRow at z ⊢
    rw [eob, elg, gR 6 _ (by decide) (by decide), gR 14 _ (by decide) (by decide), h2]
    exact z
  · rw [elg]; exact L4
  · rw [en, ev, eob]; exact L5
  · rw [ev, eob, gA 15 b (Or.inr (Or.inl ⟨by decide, by decide⟩))]; exact L6 b hb
  · rw [en] at hb
    rw [ev, eob, h2, gR 9 _ (by decide) (by decide)]; exact L7 b hb
  · by_cases hdc : d = c
    · subst hdc
      refine ⟨?_, Q⟩
      obtain ⟨z1, -⟩ := VQ d hd
      have x3 : ∀ b, b ≠ 11 → A'.1 (3 + d) b = A.1 (3 + d) b := fun b hb => hA _ b (Or.inr hb) (by omega) (by omega) (by omega) (by omega) (by omega)
      have xl : ∀ b, A'.1 (21 + 6 * d) b = A.1 (21 + 6 * d) b := fun b => hA _ b (Or.inl (by omega)) (by omega) (by omega) (by omega) (by omega) (by omega)
      have ev3 : ve A' (3 + d) = ve A (3 + d) := congrArg zz_ix (x3 3 (by decide))
      have en3 : nv A' (3 + d) = nv A (3 + d) := congrArg zz_ix (x3 2 (by decide))
      unfold RV at z1 ⊢
      simp only [ev3, en3, ev, eob, xl, gR 26 _ (by decide) (by decide), gR 27 _ (by decide) (by decide), gR 30 _ (by decide) (by decide), h2]
      exact z1
    · obtain ⟨z1, z2⟩ := VQ d hd
      have x3 : ∀ b, A'.1 (3 + d) b = A.1 (3 + d) b := fun b => hA _ b (Or.inl (by omega)) (by omega) (by omega) (by omega) (by omega) (by omega)
      have xb : ∀ j b, 21 + 6 * d ≤ j → j ≤ 26 + 6 * d → A'.1 j b = A.1 j b := fun j b h1 h2 => hA _ b (Or.inl (by omega)) (by omega) (by omega) (by omega) (by omega) (by omega)
      have ev3 : ve A' (3 + d) = ve A (3 + d) := congrArg zz_ix (x3 3)
      have en3 : nv A' (3 + d) = nv A (3 + d) := congrArg zz_ix (x3 2)
      have eqn : qn A' d = qn A d := congrArg zz_ix (x3 11)
      have eqk : qk A' d = qk A d := funext fun p => congrArg zz_ix (xb _ p (by omega) (by omega))
      have eiq : inQ A' d = inQ A d := funext fun b => by unfold inQ; rw [eqn, eqk]
      have r31 : R'.1 31 d = R.1 31 d := hR 31 d (Or.inr hdc) (Or.inl (by decide)) (Or.inl (by decide))
      have rq : ∀ a p, 32 ≤ a → p < 60 → R'.1 a (60 * d + p) = R.1 a (60 * d + p) := fun a p h1 h2 => hR a _ (Or.inl (by omega)) (by omega) (Or.inl (by omega))
      obtain ⟨q1, q2, q3, q4⟩ := z2
      have hq60 := ((W0.2.2 d hd).2).1.2
      refine ⟨?_, ?_, fun p hp => ?_, ?_, fun b hb => ?_⟩
      · unfold RV at z1 ⊢
        simp only [ev3, en3, ev, eob, xb (21 + 6 * d) _ (Nat.le_refl _) (by omega), gR 26 _ (by decide) (by decide), gR 27 _ (by decide) (by decide), gR 30 _ (by decide) (by decide), h2]
        exact z1
      · rw [r31, eqn]; exact q1
      · rw [eqn] at hp
        rw [rq 32 p (by decide) (by omega), eqk, en]; exact q2 p hp
      · rw [eqn, eqk]; exact q3
      · have z := q4 b hb
        unfold RQo at z ⊢
        rw [xb (23 + 6 * d) b (by omega) (by omega), xb (24 + 6 * d) b (by omega) (by omega), xb (25 + 6 * d) b (by omega) (by omega), xb (26 + 6 * d) b (by omega) (by omega), rq 33 b (by decide) hb, rq 34 b (by decide) hb, rq 35 b (by decide) hb, eiq, eno, ev]
        exact z
  · rw [gR 13 b (by decide) (by decide), gA 72 b (Or.inr (Or.inr (by decide))), eno]; exact S b hb
  · rw [g0 19 (by decide) (by decide) (by decide) (by decide), show nr A' = nr A from congrArg zz_ix (gA 2 3 (Or.inl (by decide)))]; exact s1
  · rw [g0 26 (by decide) (by decide) (by decide) (by decide), show nc A' = nc A from congrArg zz_ix (gA 2 4 (Or.inl (by decide)))]; exact s2
  · rw [g0 30 (by decide) (by decide) (by decide) (by decide), gA 2 5 (Or.inl (by decide))]; exact s3
  · rw [gA 2 5 (Or.inl (by decide))]; exact s4
  · rw [show nr A' = nr A from congrArg zz_ix (gA 2 3 (Or.inl (by decide)))] at hi
    rw [show rP A' = rP A from funext fun i => funext fun k => gA 18 _ (Or.inr (Or.inl ⟨by decide, by decide⟩)), gR 17 _ (by decide) (by decide), gR 18 _ (by decide) (by decide), gR 19 _ (by decide) (by decide), gR 20 _ (by decide) (by decide), gR 21 _ (by decide) (by decide), gR 22 _ (by decide) (by decide)]
    exact s5 i hi
  · rw [show nc A' = nc A from congrArg zz_ix (gA 2 4 (Or.inl (by decide)))] at hi
    rw [show cP A' = cP A from funext fun i => funext fun k => gA 19 _ (Or.inr (Or.inl ⟨by decide, by decide⟩)), gR 23 _ (by decide) (by decide), gR 24 _ (by decide) (by decide), gR 25 _ (by decide) (by decide)]
    exact s6 i hi
  · rw [eno, gA 1 7 (Or.inl (by decide)), g0 48 (by decide) (by decide) (by decide) (by decide)]; exact t1
  · rw [ev]; exact t2
  · rw [gA 1 8 (Or.inl (by decide))]; exact t3
  · rw [g0 15 (by decide) (by decide) (by decide) (by decide)]; exact t4
  · rw [en] at hb
    rw [eno, gA 16 b (Or.inr (Or.inl ⟨by decide, by decide⟩)), gR 11 _ (by decide) (by decide)]; exact t5 b hb
  · rw [ev, gA 12 r (Or.inr (Or.inl ⟨by decide, by decide⟩)), gR 38 _ (by decide) (by decide)]; exact t6 r hr
  · rw [en, gA 13 b (Or.inr (Or.inl ⟨by decide, by decide⟩)), gR 12 _ (by decide) (by decide), gR 6 _ (by decide) (by decide)]; exact t7 b hb
  · rw [g0 47 (by decide) (by decide) (by decide) (by decide), gA 0 4 (Or.inl (by decide))]; exact t8
  · rw [show A'.1 (3 + d) 5 = A.1 (3 + d) 5 from hA _ 5 (Or.inr (by decide)) (by omega) (by omega) (by omega) (by omega) (by omega)]; exact t9 d hd
/-- RMan speaks of the log and of the managers alone -/
theorem RMan_c {A A' R R' : zzMd} (h : RMan A R) (h1 : ∀ b, A'.1 14 b = A.1 14 b) (h2 : A'.1 1 2 = A.1 1 2) (h3 : A'.1 1 3 = A.1 1 3) (h4 : ∀ b, R'.1 10 b = R.1 10 b) : RMan A' R' := by
  have ev : ve A' 1 = ve A 1 := congrArg zz_ix h3
  have en : nv A' 1 = nv A 1 := congrArg zz_ix h2
  have eob : obj A' = obj A := funext fun k => congrArg zz_ix (h1 _)
  have elg : lg A' = lg A := funext fun k => funext fun s => h1 _
  intro o ho f hf
  rw [en] at ho
  rw [h4, ev, eob, elg]
  exact h o ho f hf
/-! views -/
def rAt (A R : zzMd) (c : Nat) : Prop := Rl0 A R ∧ R.1 0 42 = zn c ∧ c < 8
section
variable {A R : zzMd} {c : Nat}
theorem at_c (H : rAt A R c) : ((60 : Int32) * R.1 0 42 = zn (60 * c)) ∧ R.1 0 42 = zn c := ⟨by rw [H.2.1]; exact zn_mul 60 c, H.2.1⟩
theorem at_o (H : rAt A R c) {o : Nat} (ho : o < 60) : zn (60 * c) + zn o = zn (60 * c + o) ∧ zz_inb (zn (60 * c + o)) 480 = true ∧ zz_ix (zn (60 * c + o)) = 60 * c + o := by
  have := H.2.2
  exact ⟨zn_add _ _, zn_inT (by omega) (by decide), zn_ix (by omega)⟩
theorem rv_ve (H : rAt A R c) : ve A (3 + c) ≤ ve A 1 := (H.1.2.2.1 c H.2.2).1.1.1
theorem rv_nv (H : rAt A R c) : nv A (3 + c) ≤ nv A 1 := by
  obtain ⟨⟨h1, -, h3⟩, -⟩ := (H.1.2.2.1 c H.2.2).1
  rw [h3, H.1.2.1.2.2.2.1.1]
  exact numO_mono h1
theorem rv_n60 (H : rAt A R c) : nv A (3 + c) ≤ 60 := Nat.le_trans (rv_nv H) (rl_n60 H.1)
theorem rv_un (H : rAt A R c) {o s : Nat} (ho : o < 60) (hs : s < 32) (hn : ¬ o < nv A (3 + c)) : rd A (3 + c) (zn o) (zn s) = if s = 25 then 4 else -1 := by
  have V := (H.1.2.2.1 c H.2.2).1
  rw [V.1.2.2] at hn
  rw [rd_lg H.2.2 V ho hs, rl_0 H.1.2.1 V.1.1 hn]
  exact H.1.2.1.2.2.1 s hs
theorem rv_row (H : rAt A R c) {o : Nat} (hn : o < nv A (3 + c)) : encR (R.2 28 (60 * c + o)) (fun s => rd A (3 + c) (zn o) (zn s)) ∧ encB (R.2 29 (60 * c + o)) (fun s => rd A (3 + c) (zn o) (zn s)) ∧ goodD (fun s => rd A (3 + c) (zn o) (zn s)) ∧ rd A (3 + c) (zn o) 22 = zn o ∧ rd A (3 + c) (zn o) 23 = R.1 6 o := by
  have V := (H.1.2.2.1 c H.2.2).1
  have h60 : o < 60 := Nat.lt_of_lt_of_le hn (rv_n60 H)
  obtain ⟨v1, v2⟩ := (V.2 o h60).2.2.2 hn
  have hn2 := hn
  rw [V.1.2.2] at hn2
  obtain ⟨⟨r1, r2, r3, r4, r5, r6, r7⟩, r8⟩ := rl_row H.1.2.1 V.1.1 hn2
  have e : eq32 (fun s => rd A (3 + c) (zn o) (zn s)) (lg A (lastV (obj A) (ve A (3 + c)) o)) := fun s hs => rd_lg H.2.2 V h60 hs
  rw [r8] at r2 r4
  refine ⟨encR_of r6 v1 e, encB_of r7 v2 e, goodD_c r3 e, ?_, ?_⟩
  · exact (rd_lg (s := 22) H.2.2 V h60 (by decide)).trans r2
  · exact (rd_lg (s := 23) H.2.2 V h60 (by decide)).trans r4
theorem r_view (H : rAt A R c) {o : Nat} (ho : o < 60) : fX12_view [.ref 0, .int (zn o)] R = some (.inl (some (.long (R.2 28 (60 * c + o)))), R) := by
  obtain ⟨a1, -⟩ := at_c H
  obtain ⟨b1, b2, b3⟩ := at_o H ho
  rw [s_X12_view]
  (simp only [e_X12_view, zo_iload, zo_lload, zo_aload, zo_istore, zo_lstore, zo_astore, zo_iinc, zo_pushI, zo_pushL, zo_null, zo_ii, zo_iid, zo_ll, zo_li, zo_lcmp, zo_i2l, zo_l2i, zo_dup, zo_dup2, zo_pop, zo_goto, zo_if, zo_icmp, zo_ifnull, zo_gets, zo_mm, zo_throw, zo_ret, zo_aret, zo_lret, q_iret_f, q_iret_1, q_iret_0, q_iret_b, q_c8_0, q_c8_1, q_c8_2, q_c8_3, q_c8_4, q_set_0, q_set_1i, q_set_1r, q_set_1n, q_set_1N, q_set_s, q_set_1j, q_bk_v, q_bk_n, q_if, zb_ite, cond_true, cond_false, List.getElem?_cons_zero, List.getElem?_cons_succ, Nat.reduceAdd, q_set_1l, q_set2_0, q_set2_1i, q_set2_1r, q_set2_1n, q_set2_s, a1, b1, b2, b3, q_aR, if_true, if_false, zb_eq0, zb_eq1, zn_1, not_true_eq_false, not_false_eq_true, ite_true, ite_false, if_true, if_false, q_iret_0, q_iret_1, decide_true, decide_false, decide_not, zb_t, zb_f, z10, z01, cond_true, cond_false, Bool.and_true, Bool.true_and, Bool.and_false, Bool.false_and, Bool.not_true, Bool.not_false, true_and, and_true, false_and, and_false, true_or, or_true, false_or, or_false, Bool.true_eq_false, Bool.false_eq_true, eq_self, reduceCtorEq, Bool.or_true, Bool.true_or, Bool.or_false, Bool.false_or])
theorem r_isSeen (H : rAt A R c) {o : Nat} (ho : o < 60) : fX12_isSeen [.ref 0, .int (zn o)] R = some (.inl (some (.int (zb (decide (o < nv A (3 + c)))))), R) := by
  obtain ⟨a1, -⟩ := at_c H
  obtain ⟨b1, b2, b3⟩ := at_o H ho
  have hs := ((H.1.2.2.1 c H.2.2).1.2 o ho).2.1
  have hm := zn_m1 (k := o) (by omega)
  rw [s_X12_isSeen]
  cases q : decide (o < nv A (3 + c))
  · rw [q] at hs
    (simp only [e_X12_isSeen, zo_iload, zo_lload, zo_aload, zo_istore, zo_lstore, zo_astore, zo_iinc, zo_pushI, zo_pushL, zo_null, zo_ii, zo_iid, zo_ll, zo_li, zo_lcmp, zo_i2l, zo_l2i, zo_dup, zo_dup2, zo_pop, zo_goto, zo_if, zo_icmp, zo_ifnull, zo_gets, zo_mm, zo_throw, zo_ret, zo_aret, zo_lret, q_iret_f, q_iret_1, q_iret_0, q_iret_b, q_c8_0, q_c8_1, q_c8_2, q_c8_3, q_c8_4, q_set_0, q_set_1i, q_set_1r, q_set_1n, q_set_1N, q_set_s, q_set_1j, q_bk_v, q_bk_n, q_if, zb_ite, cond_true, cond_false, List.getElem?_cons_zero, List.getElem?_cons_succ, Nat.reduceAdd, q_set_1l, q_set2_0, q_set2_1i, q_set2_1r, q_set2_1n, q_set2_s, a1, b1, b2, b3, q_aR, hm, hs, if_true, if_false, zb_eq0, zb_eq1, zn_1, not_true_eq_false, not_false_eq_true, ite_true, ite_false, if_true, if_false, q_iret_0, q_iret_1, decide_true, decide_false, decide_not, zb_t, zb_f, z10, z01, cond_true, cond_false, Bool.and_true, Bool.true_and, Bool.and_false, Bool.false_and, Bool.not_true, Bool.not_false, true_and, and_true, false_and, and_false, true_or, or_true, false_or, or_false, Bool.true_eq_false, Bool.false_eq_true, eq_self, reduceCtorEq, Bool.or_true, Bool.true_or, Bool.or_false, Bool.false_or])
  · rw [q] at hs
    (simp only [e_X12_isSeen, zo_iload, zo_lload, zo_aload, zo_istore, zo_lstore, zo_astore, zo_iinc, zo_pushI, zo_pushL, zo_null, zo_ii, zo_iid, zo_ll, zo_li, zo_lcmp, zo_i2l, zo_l2i, zo_dup, zo_dup2, zo_pop, zo_goto, zo_if, zo_icmp, zo_ifnull, zo_gets, zo_mm, zo_throw, zo_ret, zo_aret, zo_lret, q_iret_f, q_iret_1, q_iret_0, q_iret_b, q_c8_0, q_c8_1, q_c8_2, q_c8_3, q_c8_4, q_set_0, q_set_1i, q_set_1r, q_set_1n, q_set_1N, q_set_s, q_set_1j, q_bk_v, q_bk_n, q_if, zb_ite, cond_true, cond_false, List.getElem?_cons_zero, List.getElem?_cons_succ, Nat.reduceAdd, q_set_1l, q_set2_0, q_set2_1i, q_set2_1r, q_set2_1n, q_set2_s, a1, b1, b2, b3, q_aR, hm, hs, if_true, if_false, zb_eq0, zb_eq1, zn_1, not_true_eq_false, not_false_eq_true, ite_true, ite_false, if_true, if_false, q_iret_0, q_iret_1, decide_true, decide_false, decide_not, zb_t, zb_f, z10, z01, cond_true, cond_false, Bool.and_true, Bool.true_and, Bool.and_false, Bool.false_and, Bool.not_true, Bool.not_false, true_and, and_true, false_and, and_false, true_or, or_true, false_or, or_false, Bool.true_eq_false, Bool.false_eq_true, eq_self, reduceCtorEq, Bool.or_true, Bool.true_or, Bool.or_false, Bool.false_or])
theorem r_isSeenN (R : zzMd) : fX12_isSeen [.ref 0, .int (-1)] R = some (.inl (some (.int 0)), R) := by
  rw [s_X12_isSeen]
  (simp only [e_X12_isSeen, zo_iload, zo_lload, zo_aload, zo_istore, zo_lstore, zo_astore, zo_iinc, zo_pushI, zo_pushL, zo_null, zo_ii, zo_iid, zo_ll, zo_li, zo_lcmp, zo_i2l, zo_l2i, zo_dup, zo_dup2, zo_pop, zo_goto, zo_if, zo_icmp, zo_ifnull, zo_gets, zo_mm, zo_throw, zo_ret, zo_aret, zo_lret, q_iret_f, q_iret_1, q_iret_0, q_iret_b, q_c8_0, q_c8_1, q_c8_2, q_c8_3, q_c8_4, q_set_0, q_set_1i, q_set_1r, q_set_1n, q_set_1N, q_set_s, q_set_1j, q_bk_v, q_bk_n, q_if, zb_ite, cond_true, cond_false, List.getElem?_cons_zero, List.getElem?_cons_succ, Nat.reduceAdd, q_set_1l, q_set2_0, q_set2_1i, q_set2_1r, q_set2_1n, q_set2_s, if_true, if_false, zb_eq0, zb_eq1, zn_1, not_true_eq_false, not_false_eq_true, ite_true, ite_false, if_true, if_false, q_iret_0, q_iret_1, decide_true, decide_false, decide_not, zb_t, zb_f, z10, z01, cond_true, cond_false, Bool.and_true, Bool.true_and, Bool.and_false, Bool.false_and, Bool.not_true, Bool.not_false, true_and, and_true, false_and, and_false, true_or, or_true, false_or, or_false, Bool.true_eq_false, Bool.false_eq_true, eq_self, reduceCtorEq, Bool.or_true, Bool.true_or, Bool.or_false, Bool.false_or])
theorem r_viewed (H : rAt A R c) {o : Nat} (ho : o < nv A (3 + c)) {k : Nat} (hk : k < 17) : fX12_viewed [.ref 0, .int (zn o), .int (zn k)] R = some (.inl (some (.int (rd A (3 + c) (zn o) (zn (sl k)) + of1 k))), R) := by
  have h1 := r_view H (Nat.lt_of_lt_of_le ho (rv_n60 H))
  have h2 := r_get H.1.1.1 hk (R.2 28 (60 * c + o))
  have h3 := (rv_row H ho).1.2 k hk
  rw [h3] at h2
  unfold vl at h2
  rw [s_X12_viewed]
  (simp only [e_X12_viewed, zo_iload, zo_lload, zo_aload, zo_istore, zo_lstore, zo_astore, zo_iinc, zo_pushI, zo_pushL, zo_null, zo_ii, zo_iid, zo_ll, zo_li, zo_lcmp, zo_i2l, zo_l2i, zo_dup, zo_dup2, zo_pop, zo_goto, zo_if, zo_icmp, zo_ifnull, zo_gets, zo_mm, zo_throw, zo_ret, zo_aret, zo_lret, q_iret_f, q_iret_1, q_iret_0, q_iret_b, q_c8_0, q_c8_1, q_c8_2, q_c8_3, q_c8_4, q_set_0, q_set_1i, q_set_1r, q_set_1n, q_set_1N, q_set_s, q_set_1j, q_bk_v, q_bk_n, q_if, zb_ite, cond_true, cond_false, List.getElem?_cons_zero, List.getElem?_cons_succ, Nat.reduceAdd, q_set_1l, q_set2_0, q_set2_1i, q_set2_1r, q_set2_1n, q_set2_s, h1, h2, if_true, if_false, zb_eq0, zb_eq1, zn_1, not_true_eq_false, not_false_eq_true, ite_true, ite_false, if_true, if_false, q_iret_0, q_iret_1, decide_true, decide_false, decide_not, zb_t, zb_f, z10, z01, cond_true, cond_false, Bool.and_true, Bool.true_and, Bool.and_false, Bool.false_and, Bool.not_true, Bool.not_false, true_and, and_true, false_and, and_false, true_or, or_true, false_or, or_false, Bool.true_eq_false, Bool.false_eq_true, eq_self, reduceCtorEq, Bool.or_true, Bool.true_or, Bool.or_false, Bool.false_or])
/-- what is seen of an object, field by field, as the reference reads it -/
theorem r_vw (H : rAt A R c) {o : Nat} (ho : o < nv A (3 + c)) :
    (∀ f, f < 11 → fX12_viewed [.ref 0, .int (zn o), .int (zn f)] R = some (.inl (some (.int (rd A (3 + c) (zn o) (zn f)))), R)) ∧
    fX12_viewed [.ref 0, .int (zn o), .int 12] R = some (.inl (some (.int (rd A (3 + c) (zn o) 26))), R) ∧
    fX12_viewed [.ref 0, .int (zn o), .int 13] R = some (.inl (some (.int (rd A (3 + c) (zn o) 25))), R) ∧
    fX12_viewed [.ref 0, .int (zn o), .int 14] R = some (.inl (some (.int (rd A (3 + c) (zn o) 27))), R) ∧
    fX12_viewed [.ref 0, .int (zn o), .int 15] R = some (.inl (some (.int (rd A (3 + c) (zn o) 28 + 1))), R) ∧
    fX12_viewed [.ref 0, .int (zn o), .int 16] R = some (.inl (some (.int (rd A (3 + c) (zn o) 29))), R) := by
  refine ⟨fun f hf => ?_, ?_, ?_, ?_, ?_, ?_⟩
  · obtain ⟨h1, h2, h3, -⟩ := sl_11 ⟨f, hf⟩
    simp only at h1 h2 h3
    have := r_viewed H ho h3
    rw [h1, h2, Int32.add_zero] at this
    exact this
  · have := r_viewed H ho (k := 12) (by decide)
    rw [show of1 12 = 0 from rfl, Int32.add_zero] at this
    exact this
  · have := r_viewed H ho (k := 13) (by decide)
    rw [show of1 13 = 0 from rfl, Int32.add_zero] at this
    exact this
  · have := r_viewed H ho (k := 14) (by decide)
    rw [show of1 14 = 0 from rfl, Int32.add_zero] at this
    exact this
  · exact r_viewed H ho (k := 15) (by decide)
  · have := r_viewed H ho (k := 16) (by decide)
    rw [show of1 16 = 0 from rfl, Int32.add_zero] at this
    exact this
theorem r_goneT (H : rAt A R c) {o : Nat} (ho : o < 60) : fX12_isGoneThere [.ref 0, .int (zn o)] R = some (.inl (some (.int (zb (gone A (3 + c) (zn o))))), R) := by
  have h1 := r_isSeen H ho
  rw [s_X12_isGoneThere]
  unfold gone
  by_cases q : o < nv A (3 + c)
  · rw [decide_eq_true q] at h1
    obtain ⟨-, -, h2, -⟩ := r_vw H q
    by_cases q2 : rd A (3 + c) (zn o) 25 = 4 <;> (simp only [e_X12_isGoneThere, zo_iload, zo_lload, zo_aload, zo_istore, zo_lstore, zo_astore, zo_iinc, zo_pushI, zo_pushL, zo_null, zo_ii, zo_iid, zo_ll, zo_li, zo_lcmp, zo_i2l, zo_l2i, zo_dup, zo_dup2, zo_pop, zo_goto, zo_if, zo_icmp, zo_ifnull, zo_gets, zo_mm, zo_throw, zo_ret, zo_aret, zo_lret, q_iret_f, q_iret_1, q_iret_0, q_iret_b, q_c8_0, q_c8_1, q_c8_2, q_c8_3, q_c8_4, q_set_0, q_set_1i, q_set_1r, q_set_1n, q_set_1N, q_set_s, q_set_1j, q_bk_v, q_bk_n, q_if, zb_ite, cond_true, cond_false, List.getElem?_cons_zero, List.getElem?_cons_succ, Nat.reduceAdd, q_set_1l, q_set2_0, q_set2_1i, q_set2_1r, q_set2_1n, q_set2_s, h1, h2, q2, if_true, if_false, zb_eq0, zb_eq1, zn_1, not_true_eq_false, not_false_eq_true, ite_true, ite_false, if_true, if_false, q_iret_0, q_iret_1, decide_true, decide_false, decide_not, zb_t, zb_f, z10, z01, cond_true, cond_false, Bool.and_true, Bool.true_and, Bool.and_false, Bool.false_and, Bool.not_true, Bool.not_false, true_and, and_true, false_and, and_false, true_or, or_true, false_or, or_false, Bool.true_eq_false, Bool.false_eq_true, eq_self, reduceCtorEq, Bool.or_true, Bool.true_or, Bool.or_false, Bool.false_or])
  · rw [decide_eq_false q] at h1
    have h2 : rd A (3 + c) (zn o) 25 = 4 := rv_un H (s := 25) ho (by decide) q
    (simp only [e_X12_isGoneThere, zo_iload, zo_lload, zo_aload, zo_istore, zo_lstore, zo_astore, zo_iinc, zo_pushI, zo_pushL, zo_null, zo_ii, zo_iid, zo_ll, zo_li, zo_lcmp, zo_i2l, zo_l2i, zo_dup, zo_dup2, zo_pop, zo_goto, zo_if, zo_icmp, zo_ifnull, zo_gets, zo_mm, zo_throw, zo_ret, zo_aret, zo_lret, q_iret_f, q_iret_1, q_iret_0, q_iret_b, q_c8_0, q_c8_1, q_c8_2, q_c8_3, q_c8_4, q_set_0, q_set_1i, q_set_1r, q_set_1n, q_set_1N, q_set_s, q_set_1j, q_bk_v, q_bk_n, q_if, zb_ite, cond_true, cond_false, List.getElem?_cons_zero, List.getElem?_cons_succ, Nat.reduceAdd, q_set_1l, q_set2_0, q_set2_1i, q_set2_1r, q_set2_1n, q_set2_s, h1, h2, if_true, if_false, zb_eq0, zb_eq1, zn_1, not_true_eq_false, not_false_eq_true, ite_true, ite_false, if_true, if_false, q_iret_0, q_iret_1, decide_true, decide_false, decide_not, zb_t, zb_f, z10, z01, cond_true, cond_false, Bool.and_true, Bool.true_and, Bool.and_false, Bool.false_and, Bool.not_true, Bool.not_false, true_and, and_true, false_and, and_false, true_or, or_true, false_or, or_false, Bool.true_eq_false, Bool.false_eq_true, eq_self, reduceCtorEq, Bool.or_true, Bool.true_or, Bool.or_false, Bool.false_or])
theorem r_goneN (R : zzMd) : fX12_isGoneThere [.ref 0, .int (-1)] R = some (.inl (some (.int 1)), R) := by
  have h1 := r_isSeenN R
  rw [s_X12_isGoneThere]
  (simp only [e_X12_isGoneThere, zo_iload, zo_lload, zo_aload, zo_istore, zo_lstore, zo_astore, zo_iinc, zo_pushI, zo_pushL, zo_null, zo_ii, zo_iid, zo_ll, zo_li, zo_lcmp, zo_i2l, zo_l2i, zo_dup, zo_dup2, zo_pop, zo_goto, zo_if, zo_icmp, zo_ifnull, zo_gets, zo_mm, zo_throw, zo_ret, zo_aret, zo_lret, q_iret_f, q_iret_1, q_iret_0, q_iret_b, q_c8_0, q_c8_1, q_c8_2, q_c8_3, q_c8_4, q_set_0, q_set_1i, q_set_1r, q_set_1n, q_set_1N, q_set_s, q_set_1j, q_bk_v, q_bk_n, q_if, zb_ite, cond_true, cond_false, List.getElem?_cons_zero, List.getElem?_cons_succ, Nat.reduceAdd, q_set_1l, q_set2_0, q_set2_1i, q_set2_1r, q_set2_1n, q_set2_s, h1, if_true, if_false, zb_eq0, zb_eq1, zn_1, not_true_eq_false, not_false_eq_true, ite_true, ite_false, if_true, if_false, q_iret_0, q_iret_1, decide_true, decide_false, decide_not, zb_t, zb_f, z10, z01, cond_true, cond_false, Bool.and_true, Bool.true_and, Bool.and_false, Bool.false_and, Bool.not_true, Bool.not_false, true_and, and_true, false_and, and_false, true_or, or_true, false_or, or_false, Bool.true_eq_false, Bool.false_eq_true, eq_self, reduceCtorEq, Bool.or_true, Bool.true_or, Bool.or_false, Bool.false_or])
theorem kinds_o (o : Nat) (ho : o < 60) : zz_inb (zn o) 60 = true ∧ zz_ix (zn o) = o := ⟨zn_inT ho (by decide), zn_ix (by omega)⟩
theorem r_stays (H : rAt A R c) {o : Nat} (ho : o < 60) (k : Int32) : fX12_stays [.ref 0, .int (zn o), .int k] R = some (.inl (some (.int (zb (stay A (3 + c) (zn o) k)))), R) := by
  have h1 := r_isSeen H ho
  obtain ⟨b1, x1⟩ := kinds_o o ho
  rw [s_X12_stays]
  unfold stay
  by_cases q : o < nv A (3 + c)
  · rw [decide_eq_true q] at h1
    obtain ⟨-, -, h2, -⟩ := r_vw H q
    have h3 := (rv_row H q).2.2.2.2
    rw [h3]
    by_cases q1 : R.1 6 o = k <;> by_cases q2 : rd A (3 + c) (zn o) 25 = 0 <;> (simp only [e_X12_stays, zo_iload, zo_lload, zo_aload, zo_istore, zo_lstore, zo_astore, zo_iinc, zo_pushI, zo_pushL, zo_null, zo_ii, zo_iid, zo_ll, zo_li, zo_lcmp, zo_i2l, zo_l2i, zo_dup, zo_dup2, zo_pop, zo_goto, zo_if, zo_icmp, zo_ifnull, zo_gets, zo_mm, zo_throw, zo_ret, zo_aret, zo_lret, q_iret_f, q_iret_1, q_iret_0, q_iret_b, q_c8_0, q_c8_1, q_c8_2, q_c8_3, q_c8_4, q_set_0, q_set_1i, q_set_1r, q_set_1n, q_set_1N, q_set_s, q_set_1j, q_bk_v, q_bk_n, q_if, zb_ite, cond_true, cond_false, List.getElem?_cons_zero, List.getElem?_cons_succ, Nat.reduceAdd, q_set_1l, q_set2_0, q_set2_1i, q_set2_1r, q_set2_1n, q_set2_s, h1, b1, x1, q_aR, h2, q1, q2, if_true, if_false, zb_eq0, zb_eq1, zn_1, not_true_eq_false, not_false_eq_true, ite_true, ite_false, if_true, if_false, q_iret_0, q_iret_1, decide_true, decide_false, decide_not, zb_t, zb_f, z10, z01, cond_true, cond_false, Bool.and_true, Bool.true_and, Bool.and_false, Bool.false_and, Bool.not_true, Bool.not_false, true_and, and_true, false_and, and_false, true_or, or_true, false_or, or_false, Bool.true_eq_false, Bool.false_eq_true, eq_self, reduceCtorEq, Bool.or_true, Bool.true_or, Bool.or_false, Bool.false_or])
  · rw [decide_eq_false q] at h1
    have h2 : rd A (3 + c) (zn o) 25 = 4 := rv_un H (s := 25) ho (by decide) q
    have n40 : ((4 : Int32) = 0) = False := eq_false (by decide)
    (simp only [e_X12_stays, zo_iload, zo_lload, zo_aload, zo_istore, zo_lstore, zo_astore, zo_iinc, zo_pushI, zo_pushL, zo_null, zo_ii, zo_iid, zo_ll, zo_li, zo_lcmp, zo_i2l, zo_l2i, zo_dup, zo_dup2, zo_pop, zo_goto, zo_if, zo_icmp, zo_ifnull, zo_gets, zo_mm, zo_throw, zo_ret, zo_aret, zo_lret, q_iret_f, q_iret_1, q_iret_0, q_iret_b, q_c8_0, q_c8_1, q_c8_2, q_c8_3, q_c8_4, q_set_0, q_set_1i, q_set_1r, q_set_1n, q_set_1N, q_set_s, q_set_1j, q_bk_v, q_bk_n, q_if, zb_ite, cond_true, cond_false, List.getElem?_cons_zero, List.getElem?_cons_succ, Nat.reduceAdd, q_set_1l, q_set2_0, q_set2_1i, q_set2_1r, q_set2_1n, q_set2_s, h1, h2, n40, if_true, if_false, zb_eq0, zb_eq1, zn_1, not_true_eq_false, not_false_eq_true, ite_true, ite_false, if_true, if_false, q_iret_0, q_iret_1, decide_true, decide_false, decide_not, zb_t, zb_f, z10, z01, cond_true, cond_false, Bool.and_true, Bool.true_and, Bool.and_false, Bool.false_and, Bool.not_true, Bool.not_false, true_and, and_true, false_and, and_false, true_or, or_true, false_or, or_false, Bool.true_eq_false, Bool.false_eq_true, eq_self, reduceCtorEq, Bool.or_true, Bool.true_or, Bool.or_false, Bool.false_or])
theorem r_staysN (R : zzMd) (k : Int32) : fX12_stays [.ref 0, .int (-1), .int k] R = some (.inl (some (.int 0)), R) := by
  have h1 := r_isSeenN R
  rw [s_X12_stays]
  (simp only [e_X12_stays, zo_iload, zo_lload, zo_aload, zo_istore, zo_lstore, zo_astore, zo_iinc, zo_pushI, zo_pushL, zo_null, zo_ii, zo_iid, zo_ll, zo_li, zo_lcmp, zo_i2l, zo_l2i, zo_dup, zo_dup2, zo_pop, zo_goto, zo_if, zo_icmp, zo_ifnull, zo_gets, zo_mm, zo_throw, zo_ret, zo_aret, zo_lret, q_iret_f, q_iret_1, q_iret_0, q_iret_b, q_c8_0, q_c8_1, q_c8_2, q_c8_3, q_c8_4, q_set_0, q_set_1i, q_set_1r, q_set_1n, q_set_1N, q_set_s, q_set_1j, q_bk_v, q_bk_n, q_if, zb_ite, cond_true, cond_false, List.getElem?_cons_zero, List.getElem?_cons_succ, Nat.reduceAdd, q_set_1l, q_set2_0, q_set2_1i, q_set2_1r, q_set2_1n, q_set2_s, h1, if_true, if_false, zb_eq0, zb_eq1, zn_1, not_true_eq_false, not_false_eq_true, ite_true, ite_false, if_true, if_false, q_iret_0, q_iret_1, decide_true, decide_false, decide_not, zb_t, zb_f, z10, z01, cond_true, cond_false, Bool.and_true, Bool.true_and, Bool.and_false, Bool.false_and, Bool.not_true, Bool.not_false, true_and, and_true, false_and, and_false, true_or, or_true, false_or, or_false, Bool.true_eq_false, Bool.false_eq_true, eq_self, reduceCtorEq, Bool.or_true, Bool.true_or, Bool.or_false, Bool.false_or])
theorem r_ownerV (H : rAt A R c) {o : Nat} (ho : o < nv A (3 + c)) : fX12_ownerIn [.ref 0, .long (R.2 28 (60 * c + o))] R = some (.inl (some (.int (rd A (3 + c) (zn o) 24))), R) := by
  have h1 := r_ownerIn H.1.1.1 (R.2 28 (60 * c + o))
  have h3 : gt (R.2 28 (60 * c + o)) 11 = rd A (3 + c) (zn o) 24 + 1 := (rv_row H ho).1.2 11 (by decide)
  rw [h3, Int32.add_sub_cancel] at h1
  exact h1
theorem r_owned (H : rAt A R c) {o : Nat} (ho : o < 60) (k w : Int32) : fX12_isOwned [.ref 0, .int (zn o), .int k, .int w] R = some (.inl (some (.int (zb (owned A (3 + c) (zn o) k w)))), R) := by
  have h1 := r_stays H ho k
  have h2 := r_view H ho
  rw [s_X12_isOwned]
  unfold owned
  unfold stay at h1
  by_cases q : o < nv A (3 + c)
  · have h3 := r_ownerV H q
    by_cases q1 : rd A (3 + c) (zn o) 23 = k <;> by_cases q2 : rd A (3 + c) (zn o) 25 = 0 <;> by_cases q3 : rd A (3 + c) (zn o) 24 = w <;> (simp only [q1, q2, not_true_eq_false, not_false_eq_true, ite_true, ite_false, if_true, if_false, q_iret_0, q_iret_1, decide_true, decide_false, decide_not, zb_t, zb_f, z10, z01, cond_true, cond_false, Bool.and_true, Bool.true_and, Bool.and_false, Bool.false_and, Bool.not_true, Bool.not_false, true_and, and_true, false_and, and_false, true_or, or_true, false_or, or_false, Bool.true_eq_false, Bool.false_eq_true, eq_self, reduceCtorEq, Bool.or_true, Bool.true_or, Bool.or_false, Bool.false_or] at h1; (simp only [e_X12_isOwned, zo_iload, zo_lload, zo_aload, zo_istore, zo_lstore, zo_astore, zo_iinc, zo_pushI, zo_pushL, zo_null, zo_ii, zo_iid, zo_ll, zo_li, zo_lcmp, zo_i2l, zo_l2i, zo_dup, zo_dup2, zo_pop, zo_goto, zo_if, zo_icmp, zo_ifnull, zo_gets, zo_mm, zo_throw, zo_ret, zo_aret, zo_lret, q_iret_f, q_iret_1, q_iret_0, q_iret_b, q_c8_0, q_c8_1, q_c8_2, q_c8_3, q_c8_4, q_set_0, q_set_1i, q_set_1r, q_set_1n, q_set_1N, q_set_s, q_set_1j, q_bk_v, q_bk_n, q_if, zb_ite, cond_true, cond_false, List.getElem?_cons_zero, List.getElem?_cons_succ, Nat.reduceAdd, q_set_1l, q_set2_0, q_set2_1i, q_set2_1r, q_set2_1n, q_set2_s, h1, h2, h3, q1, q2, q3, if_true, if_false, zb_eq0, zb_eq1, zn_1, not_true_eq_false, not_false_eq_true, ite_true, ite_false, if_true, if_false, q_iret_0, q_iret_1, decide_true, decide_false, decide_not, zb_t, zb_f, z10, z01, cond_true, cond_false, Bool.and_true, Bool.true_and, Bool.and_false, Bool.false_and, Bool.not_true, Bool.not_false, true_and, and_true, false_and, and_false, true_or, or_true, false_or, or_false, Bool.true_eq_false, Bool.false_eq_true, eq_self, reduceCtorEq, Bool.or_true, Bool.true_or, Bool.or_false, Bool.false_or]))
  · have h4 : rd A (3 + c) (zn o) 25 = 4 := rv_un H (s := 25) ho (by decide) q
    have n40 : ((4 : Int32) = 0) = False := eq_false (by decide)
    simp only [h4, n40, not_true_eq_false, not_false_eq_true, ite_true, ite_false, if_true, if_false, q_iret_0, q_iret_1, decide_true, decide_false, decide_not, zb_t, zb_f, z10, z01, cond_true, cond_false, Bool.and_true, Bool.true_and, Bool.and_false, Bool.false_and, Bool.not_true, Bool.not_false, true_and, and_true, false_and, and_false, true_or, or_true, false_or, or_false, Bool.true_eq_false, Bool.false_eq_true, eq_self, reduceCtorEq, Bool.or_true, Bool.true_or, Bool.or_false, Bool.false_or] at h1
    (simp only [e_X12_isOwned, zo_iload, zo_lload, zo_aload, zo_istore, zo_lstore, zo_astore, zo_iinc, zo_pushI, zo_pushL, zo_null, zo_ii, zo_iid, zo_ll, zo_li, zo_lcmp, zo_i2l, zo_l2i, zo_dup, zo_dup2, zo_pop, zo_goto, zo_if, zo_icmp, zo_ifnull, zo_gets, zo_mm, zo_throw, zo_ret, zo_aret, zo_lret, q_iret_f, q_iret_1, q_iret_0, q_iret_b, q_c8_0, q_c8_1, q_c8_2, q_c8_3, q_c8_4, q_set_0, q_set_1i, q_set_1r, q_set_1n, q_set_1N, q_set_s, q_set_1j, q_bk_v, q_bk_n, q_if, zb_ite, cond_true, cond_false, List.getElem?_cons_zero, List.getElem?_cons_succ, Nat.reduceAdd, q_set_1l, q_set2_0, q_set2_1i, q_set2_1r, q_set2_1n, q_set2_s, h1, h4, n40, if_true, if_false, zb_eq0, zb_eq1, zn_1, not_true_eq_false, not_false_eq_true, ite_true, ite_false, if_true, if_false, q_iret_0, q_iret_1, decide_true, decide_false, decide_not, zb_t, zb_f, z10, z01, cond_true, cond_false, Bool.and_true, Bool.true_and, Bool.and_false, Bool.false_and, Bool.not_true, Bool.not_false, true_and, and_true, false_and, and_false, true_or, or_true, false_or, or_false, Bool.true_eq_false, Bool.false_eq_true, eq_self, reduceCtorEq, Bool.or_true, Bool.true_or, Bool.or_false, Bool.false_or])
end
end

section
/-! queues, in both: taking out and putting back -/
section
variable {A B R S : zzMd} {c o : Nat}
/-- what a controller's serving leaves as it is -/
def KQ (A B : zzMd) : Prop := ∀ a b, 3 ≤ a → a ≠ 14 → a ≠ 15 → a ≠ 16 → a ≠ 67 → a ≠ 71 → a ≠ 72 → B.1 a b = A.1 a b
theorem KQ_refl (A : zzMd) : KQ A A := fun _ _ _ _ _ _ _ _ _ => rfl
theorem KQ_trans {C : zzMd} (h1 : KQ A B) (h2 : KQ B C) : KQ A C := fun a b x1 x2 x3 x4 x5 x6 x7 => (h2 a b x1 x2 x3 x4 x5 x6 x7).trans (h1 a b x1 x2 x3 x4 x5 x6 x7)
theorem KQ_Wr {i : Nat} {D : Nat → Int32} : KQ A (aWr A i D).2 := fun a b x1 x2 x3 _ _ _ _ => Wr_o (by omega) x2 x3
theorem KQ_Ad {i : Nat} {D : Nat → Int32} : KQ A (aAd A i D).2 := fun a b x1 x2 x3 _ _ _ _ => Ad_o (by omega) x2 x3
theorem KQ_Ap {m : Int32} {i : Nat} {f x : Int32} : KQ A (aAp A m i f x).2 := by
  unfold aAp
  cases hasF (row A i 23) f
  · exact KQ_refl A
  · exact KQ_Ad
theorem KQ_Want {i : Nat} {x : Int32} : KQ A (aWant A c i x).2 := by
  unfold aWant
  cases decide (rd A (3 + c) (zn i) 0 = x)
  · cases utd A c i
    · exact KQ_refl A
    · exact KQ_Ap
  · exact KQ_refl A
theorem KQ_Set {i k : Nat} {x : Int32} : KQ A (aSet A c i k x).2 := by
  unfold aSet
  cases decide (rd A (3 + c) (zn i) (zn k) = x)
  · cases utd A c i
    · exact KQ_refl A
    · exact KQ_Wr
  · exact KQ_refl A
theorem KQ_Rem {i : Nat} : KQ A (aRem A c i).2 := by
  unfold aRem aGo
  cases utd A c i
  · exact KQ_refl A
  · exact KQ_Wr
theorem KQ_Open {m k w t : Int32} : KQ A (aOpen A m k w t).2 := by
  unfold aOpen
  by_cases h : 60 ≤ nv A 1 ∨ k = 2 ∧ ¬ zn (liveP A) < A.1 2 5
  · rw [if_pos h]; exact KQ_refl A
  · rw [if_neg h]
    cases (aAd A (nv A 1) (dNew m k w t (nv A 1))).1
    · exact KQ_Ad
    · exact KQ_trans (KQ_Ad (A := A) (i := nv A 1) (D := dNew m k w t (nv A 1))) fun a b _ _ _ x4 _ _ _ => sI_a x4
theorem KQ_acts {act : Nat → zzMd → Bool × zzMd} (h : ∀ i M, KQ M (act i M).2) (n : Nat) : KQ A (acts act n A).2 := acts_inv (I := KQ A) (fun i _ M hM => KQ_trans hM (h i M)) (KQ_refl A)
theorem KQ_V {V : Nat → Int32} : KQ A (setV A V) := fun a b _ _ _ _ _ x6 _ => if_neg x6
theorem KQ_S0 : KQ A (dS0 B A o).2 := by
  unfold dS0
  cases stay B 3 (zn o) 0 && !decide (rd B 3 (zn o) 4 = 1)
  · exact KQ_refl A
  · cases newSet B 3 (nv B 3) (zn o) with
    | none => exact KQ_Open
    | some s =>
      show KQ A (dS0b B A o s).2
      unfold dS0b
      cases !decide (rd B 3 (zn s) 0 ≤ rd B 3 (zn o) 0)
      · cases !decide (rd B 3 (zn o) 0 ≤ rd B 3 (zn s) 0) && !decide (rd B 3 (zn o) 0 + rd B 3 (zn o) 2 - wTog B (zn o) ≤ 0)
        · cases otSet B (zn o) (zn s) with
          | none => exact KQ_refl A
          | some t => exact KQ_Want
        · exact KQ_Want
      · exact KQ_Want
theorem KQ_S1 {d : Nat} : KQ A (dS1 B A d o).2 := by
  unfold dS1
  cases stay B (3 + d) (zn o) (B.1 (3 + d) 5)
  · exact KQ_refl A
  · cases decide (B.1 (3 + d) 5 = 1)
    · show KQ A (dJob B A d o).2
      unfold dJob
      cases !decide (rd B (3 + d) (zn o) 0 ≤ zn (dnP B (3 + d) (zn o) (nv B (3 + d))) + zn (acP B (3 + d) (zn o) (nv B (3 + d)))) && !decide (rd B (3 + d) (zn o) 10 ≤ zn (acP B (3 + d) (zn o) (nv B (3 + d))))
      · exact KQ_refl A
      · exact KQ_Open
    · show KQ A (dSet B A d o).2
      unfold dSet
      cases ovP B (3 + d) (zn o) with
      | some p => exact KQ_Rem
      | none =>
        show KQ A (bif !decide (rd B (3 + d) (zn o) 0 ≤ zn (cntP B (3 + d) (zn o))) then oc2 (aMk A d o 2) else bif !decide (zn (cntP B (3 + d) (zn o)) ≤ rd B (3 + d) (zn o) 0) then oc2 (aRem A d (zz_ix (ptm B (3 + d) (zn o) (nv B (3 + d))).1)) else (1, A)).2
        cases !decide (rd B (3 + d) (zn o) 0 ≤ zn (cntP B (3 + d) (zn o)))
        · cases !decide (zn (cntP B (3 + d) (zn o)) ≤ rd B (3 + d) (zn o) 0)
          · exact KQ_refl A
          · exact KQ_Rem
        · exact KQ_Open
theorem KQ_S3 : KQ A (dS3 B A o).2 := by
  unfold dS3
  cases wops B 6 (zn o)
  · exact KQ_refl A
  · cases bst B (rd B 6 (zn o) 24) (znd (rd B 6 (zn o) 1)) (nv B 6) with
    | some k => exact KQ_Set
    | none => exact KQ_trans KQ_V (KQ_acts (fun i M => KQ_Rem) _)
theorem KQ_S4 : KQ A (dS4 B A o).2 := by
  unfold dS4
  cases decide (rd B 7 (zn o) 23 = 2) && (!gone B 7 (zn o) && !decide (rd B 7 (zn o) 28 = -1))
  · exact KQ_refl A
  cases !decide (rd B 7 (zn o) 25 = 0)
  · cases lostN B (rd B 7 (zn o) 28) && (decide (rd B 7 (zn o) 29 = 0) || decide (rd B 7 (zn o) 29 = 1))
    · cases decide (rd B 7 (zn o) 29 = 0)
      · exact KQ_refl A
      · exact KQ_Set
    · exact KQ_Set
  · show KQ A (aClr B A o).2
    unfold aClr
    cases utd A 4 o
    · exact KQ_refl A
    · exact KQ_Wr
theorem KQ_S5 : KQ A (dS5 B A o).2 := by
  unfold dS5
  cases decide (rd B 8 (zn o) 25 = 4)
  · cases decide (rd B 8 (zn o) 25 = 0)
    · cases !decide (rd B 8 (zn o) 25 = 2) && own1 B (zn o)
      · cases kept B 8 (zn o)
        · exact KQ_Set
        · exact KQ_refl A
      · cases decide (rd B 8 (zn o) 25 = 1)
        · refine KQ_acts (fun i M => ?_) _
          unfold actO
          cases decide (rd B 8 (zn i) 24 = zn o)
          · exact KQ_refl M
          · exact KQ_Set
        · refine KQ_acts (fun i M => ?_) _
          unfold actD
          cases decide (rd B 8 (zn i) 24 = zn o) && decide (rd B 8 (zn i) 25 = 0)
          · exact KQ_refl M
          · exact KQ_Set
    · cases !decide (rd B 8 (zn o) 24 = -1) && gone B 8 (rd B 8 (zn o) 24)
      · exact KQ_refl A
      · exact KQ_Rem
  · exact KQ_refl A
theorem KQ_S6 : KQ A (dS6 B A o).2 := by
  unfold dS6
  cases stay B 9 (zn o) 5 && !(decide (pLow B o = rd B 9 (zn o) 30) && decide (pHigh B o = rd B 9 (zn o) 31))
  · exact KQ_refl A
  · show KQ A (bif utd A 6 o then aCh2 A o 30 (pLow B o) 31 (pHigh B o) else (false, A)).2
    cases utd A 6 o
    · exact KQ_refl A
    · exact KQ_Wr
theorem KQ_S7 : KQ A (dS7 B A o).2 := by
  unfold dS7
  cases stay B 10 (zn o) 0 && decide (0 < rd B 10 (zn o) 5)
  · exact KQ_refl A
  · cases !decide (rd B 10 (zn o) 0 ≤ goalS B o) && earlyS A o
    · show KQ A (bif decide ((aWant A 7 o (goalS B o)).2.1 1 3 ≤ A.1 1 3) then (aWant A 7 o (goalS B o)).2 else zz_sI (aWant A 7 o (goalS B o)).2 72 o ((aWant A 7 o (goalS B o)).2.1 1 7))
      cases decide ((aWant A 7 o (goalS B o)).2.1 1 3 ≤ A.1 1 3)
      · exact KQ_trans (KQ_Want (A := A) (c := 7) (i := o) (x := goalS B o)) fun a b _ _ _ _ _ _ x7 => sI_a x7
      · exact KQ_Want
    · exact fun a b _ _ _ _ x5 _ _ => sI_a x5
theorem KQ_Sv (hc : c < 8) : KQ A (dSv c B A o).2 := by
  rcases zc8 hc with rfl | rfl | rfl | rfl | rfl | rfl | rfl | rfl
  · exact KQ_S0
  · exact KQ_S1
  · exact KQ_S1
  · exact KQ_S3
  · exact KQ_S4
  · exact KQ_S5
  · exact KQ_S6
  · exact KQ_S7
/-! putting back -/
def rBk (R : zzMd) (c n o : Nat) : zzMd := zz_sI (zz_sI R 32 (60 * c + n) (zn o)) 31 c (zn (n + 1))
theorem rBk_1 (R : zzMd) (c n o a b : Nat) : (rBk R c n o).1 a b = if a = 31 ∧ b = c then zn (n + 1) else if a = 32 ∧ b = 60 * c + n then zn o else R.1 a b := rfl
theorem r_putsBack {R : zzMd} {c n o : Nat} (hc : c < 8) (hn : n < 60) (h42 : R.1 0 42 = zn c) (h31 : R.1 31 c = zn n) (h43 : R.1 0 43 = zn o) : fX12_putsBack [.ref 0] R = some (.inl none, rBk R c n o) := by
  have e60 : (60 : Int32) * zn c = zn (60 * c) := zn_mul 60 c
  have bc : zz_inb (zn c) 8 = true := zn_inT hc (by decide)
  have xc : zz_ix (zn c) = c := zn_ix (by omega)
  have e1 : zn (60 * c) + zn n = zn (60 * c + n) := zn_add _ _
  have b1 : zz_inb (zn (60 * c + n)) 480 = true := zn_inT (by omega) (by decide)
  have x1 : zz_ix (zn (60 * c + n)) = 60 * c + n := zn_ix (by omega)
  have m1 : ∀ v, (zz_sI R 32 (60 * c + n) v).1 0 42 = zn c := fun v => (sI_a (by decide)).trans h42
  have m2 : ∀ v, (zz_sI R 32 (60 * c + n) v).1 31 c = zn n := fun v => (sI_a (by decide)).trans h31
  rw [s_X12_putsBack]
  unfold rBk
  (simp only [e_X12_putsBack, zo_iload, zo_lload, zo_aload, zo_istore, zo_lstore, zo_astore, zo_iinc, zo_pushI, zo_pushL, zo_null, zo_ii, zo_iid, zo_ll, zo_li, zo_lcmp, zo_i2l, zo_l2i, zo_dup, zo_dup2, zo_pop, zo_goto, zo_if, zo_icmp, zo_ifnull, zo_gets, zo_mm, zo_throw, zo_ret, zo_aret, zo_lret, q_iret_f, q_iret_1, q_iret_0, q_iret_b, q_c8_0, q_c8_1, q_c8_2, q_c8_3, q_c8_4, q_set_0, q_set_1i, q_set_1r, q_set_1n, q_set_1N, q_set_s, q_set_1j, q_bk_v, q_bk_n, q_if, zb_ite, cond_true, cond_false, List.getElem?_cons_zero, List.getElem?_cons_succ, Nat.reduceAdd, q_set_1l, q_set2_0, q_set2_1i, q_set2_1r, q_set2_1n, q_set2_s, e60, h42, bc, xc, q_aR, h31, e1, b1, x1, h43, m1, m2, if_true, if_false, zb_eq0, zb_eq1, zn_1, not_true_eq_false, not_false_eq_true, ite_true, ite_false, if_true, if_false, q_iret_0, q_iret_1, decide_true, decide_false, decide_not, zb_t, zb_f, z10, z01, cond_true, cond_false, Bool.and_true, Bool.true_and, Bool.and_false, Bool.false_and, Bool.not_true, Bool.not_false, true_and, and_true, false_and, and_false, true_or, or_true, false_or, or_false, Bool.true_eq_false, Bool.false_eq_true, eq_self, reduceCtorEq, Bool.or_true, Bool.true_or, Bool.or_false, Bool.false_or])
theorem Rl0_back {A' R' : zzMd} (H : rAt A R c) (ho : o < nv A 1) (hnin : ¬ inQ A c o) (W' : zIC A') (hA : ∀ a b, a ≠ 24 + 6 * c ∨ b ≠ o → a ≠ 25 + 6 * c ∨ b ≠ o → A'.1 a b = A.1 a b)
    (hR : ∀ a b, a ≠ 33 ∨ b ≠ 60 * c + o → a ≠ 34 ∨ b ≠ 60 * c + o → R'.1 a b = R.1 a b) (h2 : R'.2 = R.2) {f d : Nat}
    (f1 : A'.1 (24 + 6 * c) o = zn f) (f2 : R'.1 33 (60 * c + o) = zn f) (d1 : A'.1 (25 + 6 * c) o = zn d) (d2 : f ≤ d) (d3 : d ≤ now A + 16) (d4 : R'.1 34 (60 * c + o) = zn d ∨ d ≤ now A ∧ R'.1 34 (60 * c + o) = 0) :
    rAt (aEnq A' c (zn o)) (rBk R' c (qn A c) o) c ∧ qn A c < 60 := by
  have hc := H.2.2
  have h60 : o < 60 := lt_n60 H.1 ho
  obtain ⟨q1, q2, q3, q4⟩ := rq_of H
  have h6 := rq_60 H h60 hnin
  have a11 : A'.1 (3 + c) 11 = A.1 (3 + c) 11 := hA _ _ (Or.inl (by omega)) (Or.inl (by omega))
  have a22 : ∀ b, A'.1 (22 + 6 * c) b = A.1 (22 + 6 * c) b := fun b => hA _ _ (Or.inl (by omega)) (Or.inl (by omega))
  have a23 : ∀ b, A'.1 (23 + 6 * c) b = A.1 (23 + 6 * c) b := fun b => hA _ _ (Or.inl (by omega)) (Or.inl (by omega))
  have eqn : qn A' c = qn A c := congrArg zz_ix a11
  have eqk : qk A' c = qk A c := funext fun p => congrArg zz_ix (a22 p)
  have hnn : ¬ enqNo A' c (zn o) := fun h => hnin ((enqNo_iff H h60).mp (by unfold enqNo at h ⊢; rw [← a11, ← a23]; exact h))
  obtain ⟨w1, w2, w3⟩ := Enq_q (by omega) h60 hnn
  rw [eqn] at w1 w2 w3
  rw [eqk] at w2
  refine ⟨⟨Rl0_q hc H.1 (zIC_Enq hc _ W') (fun a b h1 h2 h3 h4 h5 h6 => ?_) (fun a b h1 h2 h3 => ?_) h2 ⟨?_, fun p hp => ?_, fun p q hp hq2 e => ?_, fun b hb => ?_⟩, ?_, hc⟩, h6⟩
  · rw [Enq_o _ h1 h2 h3]; exact hA a b (Or.inl h4) (Or.inl h5)
  · rw [rBk_1, if_neg (by omega), if_neg (by omega)]
    exact hR a b (by omega) (by omega)
  · rw [rBk_1, if_pos ⟨rfl, rfl⟩, w1]
  · rw [w1] at hp
    have hnv : nv (aEnq A' c (zn o)) 1 = nv A 1 := congrArg zz_ix ((Enq_o _ (Or.inl (by omega)) (by omega) (by omega)).trans (hA _ _ (Or.inl (by omega)) (Or.inl (by omega))))
    rw [hnv, rBk_1, if_neg (by omega)]
    by_cases d : p < qn A c
    · rw [if_neg (by omega), w2 p d, hR _ _ (by omega) (by omega)]; exact q2 p d
    · have dp : p = qn A c := by omega
      rw [dp, if_pos ⟨rfl, rfl⟩, w3]
      exact ⟨rfl, ho⟩
  · rw [w1] at hp hq2
    by_cases d1 : p < qn A c
    · rw [w2 p d1] at e
      by_cases d2 : q < qn A c
      · rw [w2 q d2] at e; exact q3 p q d1 d2 e
      · rw [show q = qn A c by omega, w3] at e
        exact absurd ⟨p, d1, e⟩ hnin
    · have dp : p = qn A c := by omega
      rw [dp, w3] at e
      by_cases d2 : q < qn A c
      · rw [w2 q d2] at e
        exact absurd ⟨q, d2, e.symm⟩ hnin
      · omega
  · have hin : inQ (aEnq A' c (zn o)) c b ↔ inQ A c b ∨ b = o := by
      unfold inQ
      rw [w1]
      constructor
      · rintro ⟨p, p1, p2⟩
        by_cases d : p < qn A c
        · rw [w2 p d] at p2; exact Or.inl ⟨p, d, p2⟩
        · rw [show p = qn A c by omega, w3] at p2; exact Or.inr p2.symm
      · rintro (⟨p, p1, p2⟩ | h)
        · exact ⟨p, by omega, by rw [w2 p p1]; exact p2⟩
        · exact ⟨qn A c, by omega, by rw [w3, h]⟩
    obtain ⟨z1, f', d', w, z2, z3, z4, z5, z6, z7⟩ := q4 b hb
    have hnow : now (aEnq A' c (zn o)) = now A := congrArg zz_ix ((Enq_o _ (Or.inl (by omega)) (by omega) (by omega)).trans (hA _ _ (Or.inl (by omega)) (Or.inl (by omega))))
    have hve : ve (aEnq A' c (zn o)) 1 = ve A 1 := congrArg zz_ix ((Enq_o _ (Or.inl (by omega)) (by omega) (by omega)).trans (hA _ _ (Or.inl (by omega)) (Or.inl (by omega))))
    have k24 : (aEnq A' c (zn o)).1 (24 + 6 * c) b = A'.1 (24 + 6 * c) b := Enq_o _ (Or.inl (by omega)) (by omega) (by omega)
    have k25 : (aEnq A' c (zn o)).1 (25 + 6 * c) b = A'.1 (25 + 6 * c) b := Enq_o _ (Or.inl (by omega)) (by omega) (by omega)
    have k26 : (aEnq A' c (zn o)).1 (26 + 6 * c) b = A.1 (26 + 6 * c) b := (Enq_o _ (Or.inl (by omega)) (by omega) (by omega)).trans (hA _ _ (Or.inl (by omega)) (Or.inl (by omega)))
    have r33 : (rBk R' c (qn A c) o).1 33 (60 * c + b) = R'.1 33 (60 * c + b) := by rw [rBk_1, if_neg (by omega), if_neg (by omega)]
    have r34 : (rBk R' c (qn A c) o).1 34 (60 * c + b) = R'.1 34 (60 * c + b) := by rw [rBk_1, if_neg (by omega), if_neg (by omega)]
    have r35 : (rBk R' c (qn A c) o).1 35 (60 * c + b) = R.1 35 (60 * c + b) := by rw [rBk_1, if_neg (by omega), if_neg (by omega)]; exact hR _ _ (by omega) (by omega)
    unfold RQo
    rw [hin, k24, k25, k26, r33, r34, r35, hnow, hve, Enq_1 hnn, if_neg (by omega), if_neg (by omega), zn_ix (k := o) (by omega)]
    by_cases e : b = o
    · rw [if_pos ⟨rfl, e⟩]
      subst e
      exact ⟨Or.inl ⟨rfl, Or.inr rfl⟩, f, d, w, ⟨f1, f2⟩, d1, ⟨d2, d3⟩, z5, fun _ => d4, fun z => absurd (Or.inr rfl) z⟩
    · rw [if_neg (fun q => e q.2), a23, hA (24 + 6 * c) b (Or.inr e) (Or.inr e), hA (25 + 6 * c) b (Or.inr e) (Or.inr e), hR 33 (60 * c + b) (by omega) (by omega), hR 34 (60 * c + b) (by omega) (by omega)]
      refine ⟨?_, f', d', w, z2, z3, z4, z5, fun hi => z6 (hi.resolve_right e), fun hi => z7 fun y => hi (Or.inl y)⟩
      rcases z1 with ⟨y1, y2⟩ | ⟨y1, y2⟩
      · exact Or.inl ⟨y1, Or.inl y2⟩
      · exact Or.inr ⟨y1, fun y => y.elim y2 e⟩
  · rw [rBk_1, if_neg (by omega), if_neg (by omega)]
    exact (hR _ _ (by omega) (by omega)).trans H.2.1
/-! taking out -/
def rTk (R : zzMd) (c n p k : Nat) : zzMd := (fun a b => if a = 31 ∧ b = c then zn (n - 1) else if a = 32 ∧ 60 * c + p ≤ b ∧ b < 60 * c + k then R.1 32 (b + 1) else R.1 a b, R.2)
theorem rTk_1 (R : zzMd) (c n p k a b : Nat) : (rTk R c n p k).1 a b = if a = 31 ∧ b = c then zn (n - 1) else if a = 32 ∧ 60 * c + p ≤ b ∧ b < 60 * c + k then R.1 32 (b + 1) else R.1 a b := rfl
theorem rTk_s {R : zzMd} {c n p k : Nat} (hp : p ≤ k) : zz_sI (rTk R c n p k) 32 (60 * c + k) ((rTk R c n p k).1 32 (60 * c + k + 1)) = rTk R c n p (k + 1) := by
  refine Prod.ext (funext fun a => funext fun b => ?_) rfl
  rw [sI_1, rTk_1, rTk_1, rTk_1]
  by_cases q : a = 32 ∧ b = 60 * c + k
  · rw [if_pos q, if_neg (by omega), if_neg (by omega), if_neg (by omega), if_pos (by omega), q.2]
  · rw [if_neg q]
    by_cases q1 : a = 31 ∧ b = c
    · rw [if_pos q1, if_pos q1]
    · rw [if_neg q1, if_neg q1]
      by_cases q2 : a = 32 ∧ 60 * c + p ≤ b ∧ b < 60 * c + k
      · rw [if_pos q2, if_pos (by omega)]
      · rw [if_neg q2, if_neg (by omega)]
theorem r_takesOut {R : zzMd} {c n p : Nat} (hc : c < 8) (hn : n ≤ 60) (hp : p < n) (h42 : R.1 0 42 = zn c) (h31 : R.1 31 c = zn n) : fX12_takesOut [.ref 0, .int (zn (60 * c + p))] R = some (.inl none, rTk R c n p (n - 1)) := by
  have e60 : (60 : Int32) * zn c = zn (60 * c) := zn_mul 60 c
  have bc : zz_inb (zn c) 8 = true := zn_inT hc (by decide)
  have xc : zz_ix (zn c) = c := zn_ix (by omega)
  have en : zn n - 1 = zn (n - 1) := zn_sub (b := 1) (by omega)
  have hb : rTk R c n p p = zz_sI R 31 c (zn (n - 1)) := Prod.ext (funext fun a => funext fun b => by
    rw [rTk_1, sI_1]
    by_cases q : a = 31 ∧ b = c
    · rw [if_pos q, if_pos q]
    · rw [if_neg q, if_neg q, if_neg (by omega)]) rfl
  have st : fX12_takesOut [.ref 0, .int (zn (60 * c + p))] R = zz_ev tX12_takesOut 15 [some (.ref 0), some (.int (zn (60 * c + p))), some (.int (zn (60 * c + p)))] [] (rTk R c n p p) := by
    rw [s_X12_takesOut, hb]
    (simp only [e_X12_takesOut, zo_iload, zo_lload, zo_aload, zo_istore, zo_lstore, zo_astore, zo_iinc, zo_pushI, zo_pushL, zo_null, zo_ii, zo_iid, zo_ll, zo_li, zo_lcmp, zo_i2l, zo_l2i, zo_dup, zo_dup2, zo_pop, zo_goto, zo_if, zo_icmp, zo_ifnull, zo_gets, zo_mm, zo_throw, zo_ret, zo_aret, zo_lret, q_iret_f, q_iret_1, q_iret_0, q_iret_b, q_c8_0, q_c8_1, q_c8_2, q_c8_3, q_c8_4, q_set_0, q_set_1i, q_set_1r, q_set_1n, q_set_1N, q_set_s, q_set_1j, q_bk_v, q_bk_n, q_if, zb_ite, cond_true, cond_false, List.getElem?_cons_zero, List.getElem?_cons_succ, Nat.reduceAdd, q_set_1l, q_set2_0, q_set2_1i, q_set2_1r, q_set2_1n, q_set2_s, h42, bc, xc, q_aR, h31, en, if_true, if_false, zb_eq0, zb_eq1, zn_1, not_true_eq_false, not_false_eq_true, ite_true, ite_false, if_true, if_false, q_iret_0, q_iret_1, decide_true, decide_false, decide_not, zb_t, zb_f, z10, z01, cond_true, cond_false, Bool.and_true, Bool.true_and, Bool.and_false, Bool.false_and, Bool.not_true, Bool.not_false, true_and, and_true, false_and, and_false, true_or, or_true, false_or, or_false, Bool.true_eq_false, Bool.false_eq_true, eq_self, reduceCtorEq, Bool.or_true, Bool.true_or, Bool.or_false, Bool.false_or])
  have main : ∀ i, p + i ≤ n - 1 → fX12_takesOut [.ref 0, .int (zn (60 * c + p))] R = zz_ev tX12_takesOut 15 [some (.ref 0), some (.int (zn (60 * c + p))), some (.int (zn (60 * c + (p + i))))] [] (rTk R c n p (p + i)) := by
    intro i
    induction i with
    | zero => exact fun _ => st
    | succ i ih =>
      intro hi
      rw [ih (by omega)]
      generalize hk : p + i = k
      have ek : p + (i + 1) = k + 1 := by omega
      rw [ek, ← rTk_s (R := R) (c := c) (n := n) (p := p) (k := k) (by omega)]
      have g42 : (rTk R c n p k).1 0 42 = zn c := by rw [rTk_1, if_neg (by omega), if_neg (by omega)]; exact h42
      have g31 : (rTk R c n p k).1 31 c = zn (n - 1) := by rw [rTk_1, if_pos ⟨rfl, rfl⟩]
      have e1 : zn (60 * c) + zn (n - 1) = zn (60 * c + (n - 1)) := zn_add _ _
      have hcc : (zn (60 * c + (n - 1)) ≤ zn (60 * c + k)) = False := zn_le (a := 60 * c + (n - 1)) (b := 60 * c + k) (by omega) (by omega) ▸ eq_false (by omega)
      have b1 : zz_inb (zn (60 * c + k)) 480 = true := zn_inT (by omega) (by decide)
      have x1 : zz_ix (zn (60 * c + k)) = 60 * c + k := zn_ix (by omega)
      have b2 : zz_inb (zn (60 * c + k + 1)) 480 = true := zn_inT (by omega) (by decide)
      have x2 : zz_ix (zn (60 * c + k + 1)) = 60 * c + k + 1 := zn_ix (by omega)
      have e3 : 60 * c + (k + 1) = 60 * c + k + 1 := rfl
      rw [e3]
      generalize rTk R c n p k = T at g42 g31 ⊢
      (rw [e_X12_takesOut_15]; simp only [e_X12_takesOut, zo_iload, zo_lload, zo_aload, zo_istore, zo_lstore, zo_astore, zo_iinc, zo_pushI, zo_pushL, zo_null, zo_ii, zo_iid, zo_ll, zo_li, zo_lcmp, zo_i2l, zo_l2i, zo_dup, zo_dup2, zo_pop, zo_goto, zo_if, zo_icmp, zo_ifnull, zo_gets, zo_mm, zo_throw, zo_ret, zo_aret, zo_lret, q_iret_f, q_iret_1, q_iret_0, q_iret_b, q_c8_0, q_c8_1, q_c8_2, q_c8_3, q_c8_4, q_set_0, q_set_1i, q_set_1r, q_set_1n, q_set_1N, q_set_s, q_set_1j, q_bk_v, q_bk_n, q_if, zb_ite, cond_true, cond_false, List.getElem?_cons_zero, List.getElem?_cons_succ, Nat.reduceAdd, q_set_1l, q_set2_0, q_set2_1i, q_set2_1r, q_set2_1n, q_set2_s, g42, e60, bc, xc, q_aR, g31, e1, hcc, b1, x1, b2, x2, if_true, if_false, zb_eq0, zb_eq1, zn_1, not_true_eq_false, not_false_eq_true, ite_true, ite_false, if_true, if_false, q_iret_0, q_iret_1, decide_true, decide_false, decide_not, zb_t, zb_f, z10, z01, cond_true, cond_false, Bool.and_true, Bool.true_and, Bool.and_false, Bool.false_and, Bool.not_true, Bool.not_false, true_and, and_true, false_and, and_false, true_or, or_true, false_or, or_false, Bool.true_eq_false, Bool.false_eq_true, eq_self, reduceCtorEq, Bool.or_true, Bool.true_or, Bool.or_false, Bool.false_or])
  have h := main (n - 1 - p) (by omega)
  rw [show p + (n - 1 - p) = n - 1 by omega] at h
  rw [h]
  have g42 : (rTk R c n p (n - 1)).1 0 42 = zn c := by rw [rTk_1, if_neg (by omega), if_neg (by omega)]; exact h42
  have g31 : (rTk R c n p (n - 1)).1 31 c = zn (n - 1) := by rw [rTk_1, if_pos ⟨rfl, rfl⟩]
  have e1 : zn (60 * c) + zn (n - 1) = zn (60 * c + (n - 1)) := zn_add _ _
  have hcc : (zn (60 * c + (n - 1)) ≤ zn (60 * c + (n - 1))) = True := eq_true (Int32.le_refl _)
  generalize rTk R c n p (n - 1) = T at g42 g31 ⊢
  (rw [e_X12_takesOut_15]; simp only [e_X12_takesOut, zo_iload, zo_lload, zo_aload, zo_istore, zo_lstore, zo_astore, zo_iinc, zo_pushI, zo_pushL, zo_null, zo_ii, zo_iid, zo_ll, zo_li, zo_lcmp, zo_i2l, zo_l2i, zo_dup, zo_dup2, zo_pop, zo_goto, zo_if, zo_icmp, zo_ifnull, zo_gets, zo_mm, zo_throw, zo_ret, zo_aret, zo_lret, q_iret_f, q_iret_1, q_iret_0, q_iret_b, q_c8_0, q_c8_1, q_c8_2, q_c8_3, q_c8_4, q_set_0, q_set_1i, q_set_1r, q_set_1n, q_set_1N, q_set_s, q_set_1j, q_bk_v, q_bk_n, q_if, zb_ite, cond_true, cond_false, List.getElem?_cons_zero, List.getElem?_cons_succ, Nat.reduceAdd, q_set_1l, q_set2_0, q_set2_1i, q_set2_1r, q_set2_1n, q_set2_s, g42, e60, bc, xc, q_aR, g31, e1, hcc, if_true, if_false, zb_eq0, zb_eq1, zn_1, not_true_eq_false, not_false_eq_true, ite_true, ite_false, if_true, if_false, q_iret_0, q_iret_1, decide_true, decide_false, decide_not, zb_t, zb_f, z10, z01, cond_true, cond_false, Bool.and_true, Bool.true_and, Bool.and_false, Bool.false_and, Bool.not_true, Bool.not_false, true_and, and_true, false_and, and_false, true_or, or_true, false_or, or_false, Bool.true_eq_false, Bool.false_eq_true, eq_self, reduceCtorEq, Bool.or_true, Bool.true_or, Bool.or_false, Bool.false_or])
end
end

section
/-! a controller works once -/
def dSv (c : Nat) (B A : zzMd) (o : Nat) : Int32 × zzMd := match c with
  | 0 => dS0 B A o
  | 1 => dS1 B A 1 o
  | 2 => dS1 B A 2 o
  | 3 => dS3 B A o
  | 4 => dS4 B A o
  | 5 => dS5 B A o
  | 6 => dS6 B A o
  | _ => dS7 B A o
/-- what a controller needs to serve a key -/
def zSv (c : Nat) (A : zzMd) (o : Nat) : Prop := (stay A (3 + c) (zn o) (A.1 (3 + c) 5) = true → 0 ≤ (rd A (3 + c) (zn o) 0).toInt) ∧ (rnk A (zn o) = zn (zz_ix (rnk A (zn o))) ∧ zz_ix (rnk A (zn o)) ≤ 60) ∧ zLe A c
theorem aTk_1 {A : zzMd} {c p a b : Nat} : (aTk A c p).1 a b = if a = 23 + 6 * c ∧ b = qk A c p then 0 else if a = 3 + c ∧ b = 11 then zn (qn A c - 1) else if a = 22 + 6 * c ∧ p ≤ b ∧ b < p + (qn A c - p - 1) then A.1 (22 + 6 * c) (p + 1 + (b - p)) else A.1 a b := rfl
theorem qk_nz {M : zzMd} {c : Nat} (h : c < 8) (p : Nat) : qk (nz M) c p = qk M c p := by unfold qk; rw [nz_1 (cdead h).2.2.1]
theorem nz_Tk {M : zzMd} {c : Nat} (h : c < 8) (p : Nat) : nz (aTk M c p) = aTk (nz M) c p := by
  obtain ⟨d1, d2, d3, d4, -⟩ := cdead h
  refine Prod.ext (funext fun a => funext fun b => ?_) rfl
  rw [aTk_1, qk_nz h, qn_nz h, nz_1 d3]
  show (bif dead a then 0 else (aTk M c p).1 a b) = _
  rw [aTk_1]
  by_cases h1 : a = 23 + 6 * c ∧ b = qk M c p
  · rw [if_pos h1, if_pos h1, h1.1, d4]; rfl
  · rw [if_neg h1, if_neg h1]
    by_cases h2 : a = 3 + c ∧ b = 11
    · rw [if_pos h2, if_pos h2, h2.1, d1]; rfl
    · rw [if_neg h2, if_neg h2]
      by_cases h3 : a = 22 + 6 * c ∧ p ≤ b ∧ b < p + (qn M c - p - 1)
      · rw [if_pos h3, if_pos h3, h3.1, d3]; rfl
      · rw [if_neg h3, if_neg h3]; rfl
theorem zIC_Tk {A : zzMd} {c p : Nat} (hc : c < 8) (hp : p < qn A c) (h : zIC A) : zIC (aTk A c p) := by
  obtain ⟨-, ⟨q1, q2⟩, q3⟩ := h.2.2 c hc
  refine zIC_q hc h (fun a b h1 h2 h3 _ _ _ => by rw [aTk_1, if_neg (by omega), if_neg (by omega), if_neg (by omega)]) ?_
  have e : (aTk A c p).1 (3 + c) 11 = zn (qn A c - 1) := by rw [aTk_1, if_neg (by omega), if_pos ⟨rfl, rfl⟩]
  have en : qn (aTk A c p) c = qn A c - 1 := by
    show zz_ix ((aTk A c p).1 (3 + c) 11) = _
    rw [e]; exact zn_ix (by omega)
  refine ⟨⟨by rw [e, en], by omega⟩, fun i hi => ?_⟩
  rw [en] at hi
  have ek : (aTk A c p).1 (22 + 6 * c) i = A.1 (22 + 6 * c) (if p ≤ i then i + 1 else i) := by
    rw [aTk_1, if_neg (by omega), if_neg (by omega)]
    by_cases h1 : p ≤ i
    · rw [if_pos ⟨rfl, h1, by omega⟩, if_pos h1, show p + 1 + (i - p) = i + 1 by omega]
    · rw [if_neg (by omega), if_neg h1]
  unfold qk
  rw [ek]
  refine q3 _ ?_
  by_cases h1 : p ≤ i
  · rw [if_pos h1]; omega
  · rw [if_neg h1]; omega
/-- what a serving leaves as to a controller's own numbers is not needed: its memory is named -/
noncomputable def aEnd (A : zzMd) (c o : Nat) (out : Int32) (v : Int32) : Int32 × zzMd :=
  bif decide (out = 1) then (1, zz_sI (bif decide (A.1 1 3 ≤ v) then A else zz_sI A (26 + 6 * c) o (A.1 1 3)) (24 + 6 * c) o 0)
  else (out, aEnq (bif decide (out = 3) then aFail (bif decide (A.1 1 3 ≤ v) then A else zz_sI A (26 + 6 * c) o (A.1 1 3)) c o else (bif decide (A.1 1 3 ≤ v) then A else zz_sI A (26 + 6 * c) o (A.1 1 3))) c (zn o))
noncomputable def aWork1 (A : zzMd) (c o : Nat) : Int32 × zzMd :=
  bif decide (A.1 (26 + 6 * c) o ≤ A.1 (3 + c) 3) then aEnd (dSv c A A o).2 c o (dSv c A A o).1 (A.1 1 3) else aEnd A c o 2 (A.1 1 3)
noncomputable def aWork (A : zzMd) (c : Nat) : Int32 × zzMd := match zfst (qn A c) (kdue A c) with
  | none => (0, A)
  | some p => aWork1 (aTk A c p) c (qk A c p)
theorem nz_Fail {M : zzMd} {c : Nat} (h : c < 8) (o : Nat) : nz (aFail M c o) = aFail (nz M) c o := by
  obtain ⟨-, -, -, -, d5, d6, -⟩ := cdead h
  unfold aFail
  rw [nz_sI d6, nz_sI d5, nz_1 d5]
  rfl
theorem zIC_Fail {A : zzMd} {c o : Nat} (h : c < 8) (W : zIC A) : zIC (aFail A c o) := zIC_fdw h (Or.inr (Or.inl rfl)) (zIC_fdw h (Or.inl rfl) W)
theorem sp_workEnd {A : zzMd} (W : zIC A) {c : Nat} (hc : c < 8) {o : Nat} (ho : o < 60) (out v : Int32) :
    ∃ M', zz_ev tX2_workOnce 44 [some (.ref (3 + c)), some (.int (zn o)), some (.int v), some (.int out)] [.ref (3 + c)] A = some (.inl (some (.int (aEnd (nz A) c o out v).1)), M') ∧ nz M' = (aEnd (nz A) c o out v).2 ∧ zIC M' := by
  obtain ⟨d1, d2, d3, d4, d5, d6, d7⟩ := cdead hc
  have b1 : zz_inb (zn o) 60 = true := zn_inT ho (by decide)
  have x1 : zz_ix (zn o) = o := zn_ix (by omega)
  have z13 : (nz A).1 1 3 = A.1 1 3 := rfl
  have sB : zz_ev tX2_workOnce 44 [some (.ref (3 + c)), some (.int (zn o)), some (.int v), some (.int out)] [.ref (3 + c)] A = zz_ev tX2_workOnce 68 [some (.ref (3 + c)), some (.int (zn o)), some (.int v), some (.int out)] [.int out] (bif decide (A.1 1 3 ≤ v) then A else zz_sI A (26 + 6 * c) o (A.1 1 3)) := by
    by_cases c1 : A.1 1 3 ≤ v
    · rw [decide_eq_true c1, cond_true]
      generalize hZ : zz_ev tX2_workOnce 68 [some (.ref (3 + c)), some (.int (zn o)), some (.int v), some (.int out)] [.int out] A = Z
      clear W
      rcases zc8 hc with rfl | rfl | rfl | rfl | rfl | rfl | rfl | rfl <;> (simp only [Nat.reduceAdd, Nat.reduceMul, Nat.mul_zero, Nat.add_zero] at *; simp only [e_X2_workOnce, zo_iload, zo_lload, zo_aload, zo_istore, zo_lstore, zo_astore, zo_iinc, zo_pushI, zo_pushL, zo_null, zo_ii, zo_iid, zo_ll, zo_li, zo_lcmp, zo_i2l, zo_l2i, zo_dup, zo_dup2, zo_pop, zo_goto, zo_if, zo_icmp, zo_ifnull, zo_gets, zo_mm, zo_throw, zo_ret, zo_aret, zo_lret, q_iret_f, q_iret_1, q_iret_0, q_iret_b, q_c8_0, q_c8_1, q_c8_2, q_c8_3, q_c8_4, q_set_0, q_set_1i, q_set_1r, q_set_1n, q_set_1N, q_set_s, q_set_1j, q_bk_v, q_bk_n, q_if, zb_ite, cond_true, cond_false, List.getElem?_cons_zero, List.getElem?_cons_succ, Nat.reduceAdd, ↓hZ, c1, if_true, if_false, zb_eq0, zb_eq1, zn_1, not_true_eq_false, not_false_eq_true, ite_true, ite_false, if_true, if_false, q_iret_0, q_iret_1, decide_true, decide_false, decide_not, zb_t, zb_f, z10, z01, cond_true, cond_false, Bool.and_true, Bool.true_and, Bool.and_false, Bool.false_and, Bool.not_true, Bool.not_false, true_and, and_true, false_and, and_false, true_or, or_true, false_or, or_false, Bool.true_eq_false, Bool.false_eq_true, eq_self, reduceCtorEq, Bool.or_true, Bool.true_or, Bool.or_false, Bool.false_or])
    · rw [decide_eq_false c1, cond_false]
      generalize hZ : zz_ev tX2_workOnce 68 [some (.ref (3 + c)), some (.int (zn o)), some (.int v), some (.int out)] [.int out] (zz_sI A (26 + 6 * c) o (A.1 1 3)) = Z
      clear W
      rcases zc8 hc with rfl | rfl | rfl | rfl | rfl | rfl | rfl | rfl <;> (simp only [Nat.reduceAdd, Nat.reduceMul, Nat.mul_zero, Nat.add_zero] at *; simp only [e_X2_workOnce, zo_iload, zo_lload, zo_aload, zo_istore, zo_lstore, zo_astore, zo_iinc, zo_pushI, zo_pushL, zo_null, zo_ii, zo_iid, zo_ll, zo_li, zo_lcmp, zo_i2l, zo_l2i, zo_dup, zo_dup2, zo_pop, zo_goto, zo_if, zo_icmp, zo_ifnull, zo_gets, zo_mm, zo_throw, zo_ret, zo_aret, zo_lret, q_iret_f, q_iret_1, q_iret_0, q_iret_b, q_c8_0, q_c8_1, q_c8_2, q_c8_3, q_c8_4, q_set_0, q_set_1i, q_set_1r, q_set_1n, q_set_1N, q_set_s, q_set_1j, q_bk_v, q_bk_n, q_if, zb_ite, cond_true, cond_false, List.getElem?_cons_zero, List.getElem?_cons_succ, Nat.reduceAdd, ↓hZ, c1, b1, x1, q_aC, if_true, if_false, zb_eq0, zb_eq1, zn_1, not_true_eq_false, not_false_eq_true, ite_true, ite_false, if_true, if_false, q_iret_0, q_iret_1, decide_true, decide_false, decide_not, zb_t, zb_f, z10, z01, cond_true, cond_false, Bool.and_true, Bool.true_and, Bool.and_false, Bool.false_and, Bool.not_true, Bool.not_false, true_and, and_true, false_and, and_false, true_or, or_true, false_or, or_false, Bool.true_eq_false, Bool.false_eq_true, eq_self, reduceCtorEq, Bool.or_true, Bool.true_or, Bool.or_false, Bool.false_or])
  have eB : nz (bif decide (A.1 1 3 ≤ v) then A else zz_sI A (26 + 6 * c) o (A.1 1 3)) = (bif decide ((nz A).1 1 3 ≤ v) then nz A else zz_sI (nz A) (26 + 6 * c) o ((nz A).1 1 3)) := by
    rw [z13]
    cases decide (A.1 1 3 ≤ v)
    · exact nz_sI d7
    · rfl
  have WB : zIC (bif decide (A.1 1 3 ≤ v) then A else zz_sI A (26 + 6 * c) o (A.1 1 3)) := by
    cases decide (A.1 1 3 ≤ v)
    · exact zIC_fdw hc (Or.inr (Or.inr rfl)) W
    · exact W
  rw [sB]
  unfold aEnd
  rw [← eB]
  generalize (bif decide (A.1 1 3 ≤ v) then A else zz_sI A (26 + 6 * c) o (A.1 1 3)) = B at WB ⊢
  clear sB eB W
  have n31 : ((3 : Int32) = 1) = False := eq_false (by decide)
  by_cases c1 : out = 1
  · rw [decide_eq_true c1, cond_true]
    refine ⟨zz_sI B (24 + 6 * c) o 0, ?_, nz_sI d5, zIC_fdw hc (Or.inl rfl) WB⟩
    subst c1
    clear WB
    rcases zc8 hc with rfl | rfl | rfl | rfl | rfl | rfl | rfl | rfl <;> (simp only [Nat.reduceAdd, Nat.reduceMul, Nat.mul_zero, Nat.add_zero] at *; simp only [e_X2_workOnce, zo_iload, zo_lload, zo_aload, zo_istore, zo_lstore, zo_astore, zo_iinc, zo_pushI, zo_pushL, zo_null, zo_ii, zo_iid, zo_ll, zo_li, zo_lcmp, zo_i2l, zo_l2i, zo_dup, zo_dup2, zo_pop, zo_goto, zo_if, zo_icmp, zo_ifnull, zo_gets, zo_mm, zo_throw, zo_ret, zo_aret, zo_lret, q_iret_f, q_iret_1, q_iret_0, q_iret_b, q_c8_0, q_c8_1, q_c8_2, q_c8_3, q_c8_4, q_set_0, q_set_1i, q_set_1r, q_set_1n, q_set_1N, q_set_s, q_set_1j, q_bk_v, q_bk_n, q_if, zb_ite, cond_true, cond_false, List.getElem?_cons_zero, List.getElem?_cons_succ, Nat.reduceAdd, b1, x1, q_aC, if_true, if_false, zb_eq0, zb_eq1, zn_1, not_true_eq_false, not_false_eq_true, ite_true, ite_false, if_true, if_false, q_iret_0, q_iret_1, decide_true, decide_false, decide_not, zb_t, zb_f, z10, z01, cond_true, cond_false, Bool.and_true, Bool.true_and, Bool.and_false, Bool.false_and, Bool.not_true, Bool.not_false, true_and, and_true, false_and, and_false, true_or, or_true, false_or, or_false, Bool.true_eq_false, Bool.false_eq_true, eq_self, reduceCtorEq, Bool.or_true, Bool.true_or, Bool.or_false, Bool.false_or])
  · rw [decide_eq_false c1, cond_false]
    by_cases c2 : out = 3
    · rw [decide_eq_true c2, cond_true, ← nz_Fail hc, ← nz_Enq hc]
      have hf := sp_noteFailure B hc ho
      have he := sp_enqueue (zIC_Fail (o := o) hc WB) hc (zn o)
      refine ⟨_, ?_, rfl, zIC_Enq hc _ (zIC_Fail (o := o) hc WB)⟩
      subst c2
      generalize aFail B c o = F at hf he ⊢
      generalize aEnq F c (zn o) = G at he ⊢
      clear WB
      rcases zc8 hc with rfl | rfl | rfl | rfl | rfl | rfl | rfl | rfl <;> (simp only [Nat.reduceAdd, Nat.reduceMul, Nat.mul_zero, Nat.add_zero] at *; simp only [e_X2_workOnce, zo_iload, zo_lload, zo_aload, zo_istore, zo_lstore, zo_astore, zo_iinc, zo_pushI, zo_pushL, zo_null, zo_ii, zo_iid, zo_ll, zo_li, zo_lcmp, zo_i2l, zo_l2i, zo_dup, zo_dup2, zo_pop, zo_goto, zo_if, zo_icmp, zo_ifnull, zo_gets, zo_mm, zo_throw, zo_ret, zo_aret, zo_lret, q_iret_f, q_iret_1, q_iret_0, q_iret_b, q_c8_0, q_c8_1, q_c8_2, q_c8_3, q_c8_4, q_set_0, q_set_1i, q_set_1r, q_set_1n, q_set_1N, q_set_s, q_set_1j, q_bk_v, q_bk_n, q_if, zb_ite, cond_true, cond_false, List.getElem?_cons_zero, List.getElem?_cons_succ, Nat.reduceAdd, n31, hf, he, if_true, if_false, zb_eq0, zb_eq1, zn_1, not_true_eq_false, not_false_eq_true, ite_true, ite_false, if_true, if_false, q_iret_0, q_iret_1, decide_true, decide_false, decide_not, zb_t, zb_f, z10, z01, cond_true, cond_false, Bool.and_true, Bool.true_and, Bool.and_false, Bool.false_and, Bool.not_true, Bool.not_false, true_and, and_true, false_and, and_false, true_or, or_true, false_or, or_false, Bool.true_eq_false, Bool.false_eq_true, eq_self, reduceCtorEq, Bool.or_true, Bool.true_or, Bool.or_false, Bool.false_or])
    · rw [decide_eq_false c2, cond_false, ← nz_Enq hc]
      have he := sp_enqueue WB hc (zn o)
      refine ⟨_, ?_, rfl, zIC_Enq hc _ WB⟩
      generalize aEnq B c (zn o) = G at he ⊢
      clear WB
      rcases zc8 hc with rfl | rfl | rfl | rfl | rfl | rfl | rfl | rfl <;> (simp only [Nat.reduceAdd, Nat.reduceMul, Nat.mul_zero, Nat.add_zero] at *; simp only [e_X2_workOnce, zo_iload, zo_lload, zo_aload, zo_istore, zo_lstore, zo_astore, zo_iinc, zo_pushI, zo_pushL, zo_null, zo_ii, zo_iid, zo_ll, zo_li, zo_lcmp, zo_i2l, zo_l2i, zo_dup, zo_dup2, zo_pop, zo_goto, zo_if, zo_icmp, zo_ifnull, zo_gets, zo_mm, zo_throw, zo_ret, zo_aret, zo_lret, q_iret_f, q_iret_1, q_iret_0, q_iret_b, q_c8_0, q_c8_1, q_c8_2, q_c8_3, q_c8_4, q_set_0, q_set_1i, q_set_1r, q_set_1n, q_set_1N, q_set_s, q_set_1j, q_bk_v, q_bk_n, q_if, zb_ite, cond_true, cond_false, List.getElem?_cons_zero, List.getElem?_cons_succ, Nat.reduceAdd, c1, c2, he, if_true, if_false, zb_eq0, zb_eq1, zn_1, not_true_eq_false, not_false_eq_true, ite_true, ite_false, if_true, if_false, q_iret_0, q_iret_1, decide_true, decide_false, decide_not, zb_t, zb_f, z10, z01, cond_true, cond_false, Bool.and_true, Bool.true_and, Bool.and_false, Bool.false_and, Bool.not_true, Bool.not_false, true_and, and_true, false_and, and_false, true_or, or_true, false_or, or_false, Bool.true_eq_false, Bool.false_eq_true, eq_self, reduceCtorEq, Bool.or_true, Bool.true_or, Bool.or_false, Bool.false_or])
theorem dSv_nz {M : zzMd} {c : Nat} (hc : c < 8) (o : Nat) : dSv c (nz M) (nz M) o = dSv c M (nz M) o := by
  rcases zc8 hc with rfl | rfl | rfl | rfl | rfl | rfl | rfl | rfl
  · exact dS0_nz M o
  · rfl
  · rfl
  · exact dS3_nz M o
  · exact dS4_nz M o
  · exact dS5_nz M o
  · exact dS6_nz M o
  · exact dS7_nz M o
theorem zIC_Sv {A B : zzMd} {c o : Nat} (hc : c < 8) (ho : o < 60) (hn : nv B (3 + c) ≤ 60) (hS : zSv c B o) (W : zIC A) : zIC (dSv c B A o).2 := by
  obtain ⟨h0, hR, -⟩ := hS
  rcases zc8 hc with rfl | rfl | rfl | rfl | rfl | rfl | rfl | rfl
  · exact zIC_S0 ho hn W
  · exact zIC_S1 hn h0 W
  · exact zIC_S1 hn h0 W
  · exact zIC_S3 ho hn hR.2 W
  · exact zIC_S4 ho W
  · exact zIC_S5 ho hn W
  · exact zIC_S6 ho W
  · exact zIC_S7 ho W
theorem sp_work1 {M : zzMd} (W : zIC M) {c : Nat} (hc : c < 8) {o : Nat} (ho : o < 60) (hS : zSv c M o) :
    ∃ M', zz_ev tX2_workOnce 13 [some (.ref (3 + c)), some (.int (zn o)), none, none] [.ref (3 + c)] M = some (.inl (some (.int (aWork1 (nz M) c o).1)), M') ∧ nz M' = (aWork1 (nz M) c o).2 ∧ zIC M' := by
  obtain ⟨d1, d2, d3, d4, d5, d6, d7⟩ := cdead hc
  have b1 : zz_inb (zn o) 60 = true := zn_inT ho (by decide)
  have x1 : zz_ix (zn o) = o := zn_ix (by omega)
  unfold aWork1
  rw [nz_1 d7, nz_1 d1, show (nz M).1 1 3 = M.1 1 3 from rfl, dSv_nz hc]
  by_cases c1 : M.1 (26 + 6 * c) o ≤ M.1 (3 + c) 3
  · rw [decide_eq_true c1, cond_true]
    have hn : nv M (3 + c) ≤ 60 := (W.2.2 c hc).1.2.1.2
    have fin : ∀ {R : Option zzRt} {out : Int32} {A : zzMd}, (∃ M1, R = some (.inl (some (.int out)), M1) ∧ nz M1 = A) → A = (dSv c M (nz M) o).2 → out = (dSv c M (nz M) o).1 →
        (∀ M1, R = some (.inl (some (.int out)), M1) → zz_ev tX2_workOnce 13 [some (.ref (3 + c)), some (.int (zn o)), none, none] [.ref (3 + c)] M = zz_ev tX2_workOnce 44 [some (.ref (3 + c)), some (.int (zn o)), some (.int (M.1 1 3)), some (.int out)] [.ref (3 + c)] M1) →
        ∃ M', zz_ev tX2_workOnce 13 [some (.ref (3 + c)), some (.int (zn o)), none, none] [.ref (3 + c)] M = some (.inl (some (.int (aEnd (dSv c M (nz M) o).2 c o (dSv c M (nz M) o).1 (M.1 1 3)).1)), M') ∧ nz M' = (aEnd (dSv c M (nz M) o).2 c o (dSv c M (nz M) o).1 (M.1 1 3)).2 ∧ zIC M' := by
      intro R out A ⟨M1, e1, e2⟩ hA ho' hrun
      have W1 : zIC M1 := zIC_nz.mp (by rw [e2, hA]; exact zIC_Sv hc ho hn hS (zIC_nz.mpr W))
      rw [hrun M1 e1, ← hA, ← ho', ← e2]
      exact sp_workEnd W1 hc ho out (M.1 1 3)
    obtain ⟨h0, hR, hL⟩ := hS
    rcases zc8 hc with rfl | rfl | rfl | rfl | rfl | rfl | rfl | rfl
    · refine fin (sp_serve0 W ho) rfl rfl (fun M1 e1 => ?_)
      generalize (dS0 M (nz M) o).1 = out at e1 ⊢
      generalize hZ : zz_ev tX2_workOnce 44 [some (.ref (3 + 0)), some (.int (zn o)), some (.int (M.1 1 3)), some (.int out)] [.ref (3 + 0)] M1 = Z
      clear fin
      (simp only [Nat.reduceAdd, Nat.reduceMul, Nat.mul_zero, Nat.add_zero] at *; simp only [e_X2_workOnce, zo_iload, zo_lload, zo_aload, zo_istore, zo_lstore, zo_astore, zo_iinc, zo_pushI, zo_pushL, zo_null, zo_ii, zo_iid, zo_ll, zo_li, zo_lcmp, zo_i2l, zo_l2i, zo_dup, zo_dup2, zo_pop, zo_goto, zo_if, zo_icmp, zo_ifnull, zo_gets, zo_mm, zo_throw, zo_ret, zo_aret, zo_lret, q_iret_f, q_iret_1, q_iret_0, q_iret_b, q_c8_0, q_c8_1, q_c8_2, q_c8_3, q_c8_4, q_set_0, q_set_1i, q_set_1r, q_set_1n, q_set_1N, q_set_s, q_set_1j, q_bk_v, q_bk_n, q_if, zb_ite, cond_true, cond_false, List.getElem?_cons_zero, List.getElem?_cons_succ, Nat.reduceAdd, ↓hZ, b1, x1, q_aC, c1, e1, if_true, if_false, zb_eq0, zb_eq1, zn_1, not_true_eq_false, not_false_eq_true, ite_true, ite_false, if_true, if_false, q_iret_0, q_iret_1, decide_true, decide_false, decide_not, zb_t, zb_f, z10, z01, cond_true, cond_false, Bool.and_true, Bool.true_and, Bool.and_false, Bool.false_and, Bool.not_true, Bool.not_false, true_and, and_true, false_and, and_false, true_or, or_true, false_or, or_false, Bool.true_eq_false, Bool.false_eq_true, eq_self, reduceCtorEq, Bool.or_true, Bool.true_or, Bool.or_false, Bool.false_or])
    · refine fin (sp_serve1 W (Or.inl rfl) o h0) rfl rfl (fun M1 e1 => ?_)
      generalize (dS1 M (nz M) 1 o).1 = out at e1 ⊢
      generalize hZ : zz_ev tX2_workOnce 44 [some (.ref (3 + 1)), some (.int (zn o)), some (.int (M.1 1 3)), some (.int out)] [.ref (3 + 1)] M1 = Z
      clear fin
      (simp only [Nat.reduceAdd, Nat.reduceMul, Nat.mul_zero, Nat.add_zero] at *; simp only [e_X2_workOnce, zo_iload, zo_lload, zo_aload, zo_istore, zo_lstore, zo_astore, zo_iinc, zo_pushI, zo_pushL, zo_null, zo_ii, zo_iid, zo_ll, zo_li, zo_lcmp, zo_i2l, zo_l2i, zo_dup, zo_dup2, zo_pop, zo_goto, zo_if, zo_icmp, zo_ifnull, zo_gets, zo_mm, zo_throw, zo_ret, zo_aret, zo_lret, q_iret_f, q_iret_1, q_iret_0, q_iret_b, q_c8_0, q_c8_1, q_c8_2, q_c8_3, q_c8_4, q_set_0, q_set_1i, q_set_1r, q_set_1n, q_set_1N, q_set_s, q_set_1j, q_bk_v, q_bk_n, q_if, zb_ite, cond_true, cond_false, List.getElem?_cons_zero, List.getElem?_cons_succ, Nat.reduceAdd, ↓hZ, b1, x1, q_aC, c1, e1, if_true, if_false, zb_eq0, zb_eq1, zn_1, not_true_eq_false, not_false_eq_true, ite_true, ite_false, if_true, if_false, q_iret_0, q_iret_1, decide_true, decide_false, decide_not, zb_t, zb_f, z10, z01, cond_true, cond_false, Bool.and_true, Bool.true_and, Bool.and_false, Bool.false_and, Bool.not_true, Bool.not_false, true_and, and_true, false_and, and_false, true_or, or_true, false_or, or_false, Bool.true_eq_false, Bool.false_eq_true, eq_self, reduceCtorEq, Bool.or_true, Bool.true_or, Bool.or_false, Bool.false_or])
    · refine fin (sp_serve1 W (Or.inr rfl) o h0) rfl rfl (fun M1 e1 => ?_)
      generalize (dS1 M (nz M) 2 o).1 = out at e1 ⊢
      generalize hZ : zz_ev tX2_workOnce 44 [some (.ref (3 + 2)), some (.int (zn o)), some (.int (M.1 1 3)), some (.int out)] [.ref (3 + 2)] M1 = Z
      clear fin
      (simp only [Nat.reduceAdd, Nat.reduceMul, Nat.mul_zero, Nat.add_zero] at *; simp only [e_X2_workOnce, zo_iload, zo_lload, zo_aload, zo_istore, zo_lstore, zo_astore, zo_iinc, zo_pushI, zo_pushL, zo_null, zo_ii, zo_iid, zo_ll, zo_li, zo_lcmp, zo_i2l, zo_l2i, zo_dup, zo_dup2, zo_pop, zo_goto, zo_if, zo_icmp, zo_ifnull, zo_gets, zo_mm, zo_throw, zo_ret, zo_aret, zo_lret, q_iret_f, q_iret_1, q_iret_0, q_iret_b, q_c8_0, q_c8_1, q_c8_2, q_c8_3, q_c8_4, q_set_0, q_set_1i, q_set_1r, q_set_1n, q_set_1N, q_set_s, q_set_1j, q_bk_v, q_bk_n, q_if, zb_ite, cond_true, cond_false, List.getElem?_cons_zero, List.getElem?_cons_succ, Nat.reduceAdd, ↓hZ, b1, x1, q_aC, c1, e1, if_true, if_false, zb_eq0, zb_eq1, zn_1, not_true_eq_false, not_false_eq_true, ite_true, ite_false, if_true, if_false, q_iret_0, q_iret_1, decide_true, decide_false, decide_not, zb_t, zb_f, z10, z01, cond_true, cond_false, Bool.and_true, Bool.true_and, Bool.and_false, Bool.false_and, Bool.not_true, Bool.not_false, true_and, and_true, false_and, and_false, true_or, or_true, false_or, or_false, Bool.true_eq_false, Bool.false_eq_true, eq_self, reduceCtorEq, Bool.or_true, Bool.true_or, Bool.or_false, Bool.false_or])
    · refine fin (sp_serve3 W ho hR) rfl rfl (fun M1 e1 => ?_)
      generalize (dS3 M (nz M) o).1 = out at e1 ⊢
      generalize hZ : zz_ev tX2_workOnce 44 [some (.ref (3 + 3)), some (.int (zn o)), some (.int (M.1 1 3)), some (.int out)] [.ref (3 + 3)] M1 = Z
      clear fin
      (simp only [Nat.reduceAdd, Nat.reduceMul, Nat.mul_zero, Nat.add_zero] at *; simp only [e_X2_workOnce, zo_iload, zo_lload, zo_aload, zo_istore, zo_lstore, zo_astore, zo_iinc, zo_pushI, zo_pushL, zo_null, zo_ii, zo_iid, zo_ll, zo_li, zo_lcmp, zo_i2l, zo_l2i, zo_dup, zo_dup2, zo_pop, zo_goto, zo_if, zo_icmp, zo_ifnull, zo_gets, zo_mm, zo_throw, zo_ret, zo_aret, zo_lret, q_iret_f, q_iret_1, q_iret_0, q_iret_b, q_c8_0, q_c8_1, q_c8_2, q_c8_3, q_c8_4, q_set_0, q_set_1i, q_set_1r, q_set_1n, q_set_1N, q_set_s, q_set_1j, q_bk_v, q_bk_n, q_if, zb_ite, cond_true, cond_false, List.getElem?_cons_zero, List.getElem?_cons_succ, Nat.reduceAdd, ↓hZ, b1, x1, q_aC, c1, e1, if_true, if_false, zb_eq0, zb_eq1, zn_1, not_true_eq_false, not_false_eq_true, ite_true, ite_false, if_true, if_false, q_iret_0, q_iret_1, decide_true, decide_false, decide_not, zb_t, zb_f, z10, z01, cond_true, cond_false, Bool.and_true, Bool.true_and, Bool.and_false, Bool.false_and, Bool.not_true, Bool.not_false, true_and, and_true, false_and, and_false, true_or, or_true, false_or, or_false, Bool.true_eq_false, Bool.false_eq_true, eq_self, reduceCtorEq, Bool.or_true, Bool.true_or, Bool.or_false, Bool.false_or])
    · refine fin (sp_serve4 W ho) rfl rfl (fun M1 e1 => ?_)
      generalize (dS4 M (nz M) o).1 = out at e1 ⊢
      generalize hZ : zz_ev tX2_workOnce 44 [some (.ref (3 + 4)), some (.int (zn o)), some (.int (M.1 1 3)), some (.int out)] [.ref (3 + 4)] M1 = Z
      clear fin
      (simp only [Nat.reduceAdd, Nat.reduceMul, Nat.mul_zero, Nat.add_zero] at *; simp only [e_X2_workOnce, zo_iload, zo_lload, zo_aload, zo_istore, zo_lstore, zo_astore, zo_iinc, zo_pushI, zo_pushL, zo_null, zo_ii, zo_iid, zo_ll, zo_li, zo_lcmp, zo_i2l, zo_l2i, zo_dup, zo_dup2, zo_pop, zo_goto, zo_if, zo_icmp, zo_ifnull, zo_gets, zo_mm, zo_throw, zo_ret, zo_aret, zo_lret, q_iret_f, q_iret_1, q_iret_0, q_iret_b, q_c8_0, q_c8_1, q_c8_2, q_c8_3, q_c8_4, q_set_0, q_set_1i, q_set_1r, q_set_1n, q_set_1N, q_set_s, q_set_1j, q_bk_v, q_bk_n, q_if, zb_ite, cond_true, cond_false, List.getElem?_cons_zero, List.getElem?_cons_succ, Nat.reduceAdd, ↓hZ, b1, x1, q_aC, c1, e1, if_true, if_false, zb_eq0, zb_eq1, zn_1, not_true_eq_false, not_false_eq_true, ite_true, ite_false, if_true, if_false, q_iret_0, q_iret_1, decide_true, decide_false, decide_not, zb_t, zb_f, z10, z01, cond_true, cond_false, Bool.and_true, Bool.true_and, Bool.and_false, Bool.false_and, Bool.not_true, Bool.not_false, true_and, and_true, false_and, and_false, true_or, or_true, false_or, or_false, Bool.true_eq_false, Bool.false_eq_true, eq_self, reduceCtorEq, Bool.or_true, Bool.true_or, Bool.or_false, Bool.false_or])
    · refine fin (sp_serve5 W hL ho) rfl rfl (fun M1 e1 => ?_)
      generalize (dS5 M (nz M) o).1 = out at e1 ⊢
      generalize hZ : zz_ev tX2_workOnce 44 [some (.ref (3 + 5)), some (.int (zn o)), some (.int (M.1 1 3)), some (.int out)] [.ref (3 + 5)] M1 = Z
      clear fin
      (simp only [Nat.reduceAdd, Nat.reduceMul, Nat.mul_zero, Nat.add_zero] at *; simp only [e_X2_workOnce, zo_iload, zo_lload, zo_aload, zo_istore, zo_lstore, zo_astore, zo_iinc, zo_pushI, zo_pushL, zo_null, zo_ii, zo_iid, zo_ll, zo_li, zo_lcmp, zo_i2l, zo_l2i, zo_dup, zo_dup2, zo_pop, zo_goto, zo_if, zo_icmp, zo_ifnull, zo_gets, zo_mm, zo_throw, zo_ret, zo_aret, zo_lret, q_iret_f, q_iret_1, q_iret_0, q_iret_b, q_c8_0, q_c8_1, q_c8_2, q_c8_3, q_c8_4, q_set_0, q_set_1i, q_set_1r, q_set_1n, q_set_1N, q_set_s, q_set_1j, q_bk_v, q_bk_n, q_if, zb_ite, cond_true, cond_false, List.getElem?_cons_zero, List.getElem?_cons_succ, Nat.reduceAdd, ↓hZ, b1, x1, q_aC, c1, e1, if_true, if_false, zb_eq0, zb_eq1, zn_1, not_true_eq_false, not_false_eq_true, ite_true, ite_false, if_true, if_false, q_iret_0, q_iret_1, decide_true, decide_false, decide_not, zb_t, zb_f, z10, z01, cond_true, cond_false, Bool.and_true, Bool.true_and, Bool.and_false, Bool.false_and, Bool.not_true, Bool.not_false, true_and, and_true, false_and, and_false, true_or, or_true, false_or, or_false, Bool.true_eq_false, Bool.false_eq_true, eq_self, reduceCtorEq, Bool.or_true, Bool.true_or, Bool.or_false, Bool.false_or])
    · refine fin (sp_serve6 W ho) rfl rfl (fun M1 e1 => ?_)
      generalize (dS6 M (nz M) o).1 = out at e1 ⊢
      generalize hZ : zz_ev tX2_workOnce 44 [some (.ref (3 + 6)), some (.int (zn o)), some (.int (M.1 1 3)), some (.int out)] [.ref (3 + 6)] M1 = Z
      clear fin
      (simp only [Nat.reduceAdd, Nat.reduceMul, Nat.mul_zero, Nat.add_zero] at *; simp only [e_X2_workOnce, zo_iload, zo_lload, zo_aload, zo_istore, zo_lstore, zo_astore, zo_iinc, zo_pushI, zo_pushL, zo_null, zo_ii, zo_iid, zo_ll, zo_li, zo_lcmp, zo_i2l, zo_l2i, zo_dup, zo_dup2, zo_pop, zo_goto, zo_if, zo_icmp, zo_ifnull, zo_gets, zo_mm, zo_throw, zo_ret, zo_aret, zo_lret, q_iret_f, q_iret_1, q_iret_0, q_iret_b, q_c8_0, q_c8_1, q_c8_2, q_c8_3, q_c8_4, q_set_0, q_set_1i, q_set_1r, q_set_1n, q_set_1N, q_set_s, q_set_1j, q_bk_v, q_bk_n, q_if, zb_ite, cond_true, cond_false, List.getElem?_cons_zero, List.getElem?_cons_succ, Nat.reduceAdd, ↓hZ, b1, x1, q_aC, c1, e1, if_true, if_false, zb_eq0, zb_eq1, zn_1, not_true_eq_false, not_false_eq_true, ite_true, ite_false, if_true, if_false, q_iret_0, q_iret_1, decide_true, decide_false, decide_not, zb_t, zb_f, z10, z01, cond_true, cond_false, Bool.and_true, Bool.true_and, Bool.and_false, Bool.false_and, Bool.not_true, Bool.not_false, true_and, and_true, false_and, and_false, true_or, or_true, false_or, or_false, Bool.true_eq_false, Bool.false_eq_true, eq_self, reduceCtorEq, Bool.or_true, Bool.true_or, Bool.or_false, Bool.false_or])
    · refine fin (sp_serve7 W ho) rfl rfl (fun M1 e1 => ?_)
      generalize (dS7 M (nz M) o).1 = out at e1 ⊢
      generalize hZ : zz_ev tX2_workOnce 44 [some (.ref (3 + 7)), some (.int (zn o)), some (.int (M.1 1 3)), some (.int out)] [.ref (3 + 7)] M1 = Z
      clear fin
      (simp only [Nat.reduceAdd, Nat.reduceMul, Nat.mul_zero, Nat.add_zero] at *; simp only [e_X2_workOnce, zo_iload, zo_lload, zo_aload, zo_istore, zo_lstore, zo_astore, zo_iinc, zo_pushI, zo_pushL, zo_null, zo_ii, zo_iid, zo_ll, zo_li, zo_lcmp, zo_i2l, zo_l2i, zo_dup, zo_dup2, zo_pop, zo_goto, zo_if, zo_icmp, zo_ifnull, zo_gets, zo_mm, zo_throw, zo_ret, zo_aret, zo_lret, q_iret_f, q_iret_1, q_iret_0, q_iret_b, q_c8_0, q_c8_1, q_c8_2, q_c8_3, q_c8_4, q_set_0, q_set_1i, q_set_1r, q_set_1n, q_set_1N, q_set_s, q_set_1j, q_bk_v, q_bk_n, q_if, zb_ite, cond_true, cond_false, List.getElem?_cons_zero, List.getElem?_cons_succ, Nat.reduceAdd, ↓hZ, b1, x1, q_aC, c1, e1, if_true, if_false, zb_eq0, zb_eq1, zn_1, not_true_eq_false, not_false_eq_true, ite_true, ite_false, if_true, if_false, q_iret_0, q_iret_1, decide_true, decide_false, decide_not, zb_t, zb_f, z10, z01, cond_true, cond_false, Bool.and_true, Bool.true_and, Bool.and_false, Bool.false_and, Bool.not_true, Bool.not_false, true_and, and_true, false_and, and_false, true_or, or_true, false_or, or_false, Bool.true_eq_false, Bool.false_eq_true, eq_self, reduceCtorEq, Bool.or_true, Bool.true_or, Bool.or_false, Bool.false_or])
  · rw [decide_eq_false c1, cond_false]
    have h := sp_workEnd W hc ho 2 (M.1 1 3)
    have st : zz_ev tX2_workOnce 13 [some (.ref (3 + c)), some (.int (zn o)), none, none] [.ref (3 + c)] M = zz_ev tX2_workOnce 44 [some (.ref (3 + c)), some (.int (zn o)), some (.int (M.1 1 3)), some (.int 2)] [.ref (3 + c)] M := by
      generalize hZ : zz_ev tX2_workOnce 44 [some (.ref (3 + c)), some (.int (zn o)), some (.int (M.1 1 3)), some (.int 2)] [.ref (3 + c)] M = Z
      clear W hS h
      rcases zc8 hc with rfl | rfl | rfl | rfl | rfl | rfl | rfl | rfl <;> (simp only [Nat.reduceAdd, Nat.reduceMul, Nat.mul_zero, Nat.add_zero] at *; simp only [e_X2_workOnce, zo_iload, zo_lload, zo_aload, zo_istore, zo_lstore, zo_astore, zo_iinc, zo_pushI, zo_pushL, zo_null, zo_ii, zo_iid, zo_ll, zo_li, zo_lcmp, zo_i2l, zo_l2i, zo_dup, zo_dup2, zo_pop, zo_goto, zo_if, zo_icmp, zo_ifnull, zo_gets, zo_mm, zo_throw, zo_ret, zo_aret, zo_lret, q_iret_f, q_iret_1, q_iret_0, q_iret_b, q_c8_0, q_c8_1, q_c8_2, q_c8_3, q_c8_4, q_set_0, q_set_1i, q_set_1r, q_set_1n, q_set_1N, q_set_s, q_set_1j, q_bk_v, q_bk_n, q_if, zb_ite, cond_true, cond_false, List.getElem?_cons_zero, List.getElem?_cons_succ, Nat.reduceAdd, ↓hZ, b1, x1, q_aC, c1, if_true, if_false, zb_eq0, zb_eq1, zn_1, not_true_eq_false, not_false_eq_true, ite_true, ite_false, if_true, if_false, q_iret_0, q_iret_1, decide_true, decide_false, decide_not, zb_t, zb_f, z10, z01, cond_true, cond_false, Bool.and_true, Bool.true_and, Bool.and_false, Bool.false_and, Bool.not_true, Bool.not_false, true_and, and_true, false_and, and_false, true_or, or_true, false_or, or_false, Bool.true_eq_false, Bool.false_eq_true, eq_self, reduceCtorEq, Bool.or_true, Bool.true_or, Bool.or_false, Bool.false_or])
    rw [st]
    exact h
theorem sp_workOnce {M : zzMd} (W : zIC M) {c : Nat} (hc : c < 8) (hS : ∀ p, zfst (qn M c) (kdue M c) = some p → zSv c (aTk M c p) (qk M c p)) :
    ∃ M', fX2_workOnce [.ref (3 + c)] M = some (.inl (some (.int (aWork (nz M) c).1)), M') ∧ nz M' = (aWork (nz M) c).2 ∧ zIC M' := by
  have ht := sp_takeKey W hc
  unfold aWork
  have hk : kdue (nz M) c = kdue M c := funext fun p => by
    unfold kdue
    rw [qk_nz hc, nz_1 (cdead hc).2.2.2.2.2.1]
    rfl
  rw [qn_nz hc, hk]
  cases c1 : zfst (qn M c) (kdue M c) with
  | none =>
    rw [c1] at ht
    refine ⟨M, ?_, rfl, W⟩
    have ht' : fX2_takeKey [.ref (3 + c)] M = some (.inl (some (.int (-1))), M) := ht
    rw [s_X2_workOnce]
    clear W hS ht c1 hk
    rcases zc8 hc with rfl | rfl | rfl | rfl | rfl | rfl | rfl | rfl <;> (simp only [Nat.reduceAdd, Nat.reduceMul, Nat.mul_zero, Nat.add_zero] at *; simp only [e_X2_workOnce, zo_iload, zo_lload, zo_aload, zo_istore, zo_lstore, zo_astore, zo_iinc, zo_pushI, zo_pushL, zo_null, zo_ii, zo_iid, zo_ll, zo_li, zo_lcmp, zo_i2l, zo_l2i, zo_dup, zo_dup2, zo_pop, zo_goto, zo_if, zo_icmp, zo_ifnull, zo_gets, zo_mm, zo_throw, zo_ret, zo_aret, zo_lret, q_iret_f, q_iret_1, q_iret_0, q_iret_b, q_c8_0, q_c8_1, q_c8_2, q_c8_3, q_c8_4, q_set_0, q_set_1i, q_set_1r, q_set_1n, q_set_1N, q_set_s, q_set_1j, q_bk_v, q_bk_n, q_if, zb_ite, cond_true, cond_false, List.getElem?_cons_zero, List.getElem?_cons_succ, Nat.reduceAdd, ht', if_true, if_false, zb_eq0, zb_eq1, zn_1, not_true_eq_false, not_false_eq_true, ite_true, ite_false, if_true, if_false, q_iret_0, q_iret_1, decide_true, decide_false, decide_not, zb_t, zb_f, z10, z01, cond_true, cond_false, Bool.and_true, Bool.true_and, Bool.and_false, Bool.false_and, Bool.not_true, Bool.not_false, true_and, and_true, false_and, and_false, true_or, or_true, false_or, or_false, Bool.true_eq_false, Bool.false_eq_true, eq_self, reduceCtorEq, Bool.or_true, Bool.true_or, Bool.or_false, Bool.false_or])
  | some p =>
    rw [c1] at ht
    have hp := (zfst_some c1).1
    have hkp := ((W.2.2 c hc).2.2 p hp).2
    have h := sp_work1 (zIC_Tk hc hp W) hc hkp (hS p c1)
    have ht' : fX2_takeKey [.ref (3 + c)] M = some (.inl (some (.int (zn (qk M c p)))), aTk M c p) := ht
    have km := zn_m1 (k := qk M c p) (by omega)
    have st : fX2_workOnce [.ref (3 + c)] M = zz_ev tX2_workOnce 13 [some (.ref (3 + c)), some (.int (zn (qk M c p))), none, none] [.ref (3 + c)] (aTk M c p) := by
      rw [s_X2_workOnce]
      generalize aTk M c p = T at ht' ⊢
      generalize qk M c p = o at ht' km ⊢
      generalize hZ : zz_ev tX2_workOnce 13 [some (.ref (3 + c)), some (.int (zn o)), none, none] [.ref (3 + c)] T = Z
      clear W hS ht c1 hk h hkp hp
      rcases zc8 hc with rfl | rfl | rfl | rfl | rfl | rfl | rfl | rfl <;> (simp only [Nat.reduceAdd, Nat.reduceMul, Nat.mul_zero, Nat.add_zero] at *; simp only [e_X2_workOnce, zo_iload, zo_lload, zo_aload, zo_istore, zo_lstore, zo_astore, zo_iinc, zo_pushI, zo_pushL, zo_null, zo_ii, zo_iid, zo_ll, zo_li, zo_lcmp, zo_i2l, zo_l2i, zo_dup, zo_dup2, zo_pop, zo_goto, zo_if, zo_icmp, zo_ifnull, zo_gets, zo_mm, zo_throw, zo_ret, zo_aret, zo_lret, q_iret_f, q_iret_1, q_iret_0, q_iret_b, q_c8_0, q_c8_1, q_c8_2, q_c8_3, q_c8_4, q_set_0, q_set_1i, q_set_1r, q_set_1n, q_set_1N, q_set_s, q_set_1j, q_bk_v, q_bk_n, q_if, zb_ite, cond_true, cond_false, List.getElem?_cons_zero, List.getElem?_cons_succ, Nat.reduceAdd, ↓hZ, ht', km, if_true, if_false, zb_eq0, zb_eq1, zn_1, not_true_eq_false, not_false_eq_true, ite_true, ite_false, if_true, if_false, q_iret_0, q_iret_1, decide_true, decide_false, decide_not, zb_t, zb_f, z10, z01, cond_true, cond_false, Bool.and_true, Bool.true_and, Bool.and_false, Bool.false_and, Bool.not_true, Bool.not_false, true_and, and_true, false_and, and_false, true_or, or_true, false_or, or_false, Bool.true_eq_false, Bool.false_eq_true, eq_self, reduceCtorEq, Bool.or_true, Bool.true_or, Bool.or_false, Bool.false_or])
    rw [st]
    show ∃ M', zz_ev tX2_workOnce 13 [some (.ref (3 + c)), some (.int (zn (qk M c p))), none, none] [.ref (3 + c)] (aTk M c p) = some (.inl (some (.int (aWork1 (aTk (nz M) c p) c (qk (nz M) c p)).1)), M') ∧ nz M' = (aWork1 (aTk (nz M) c p) c (qk (nz M) c p)).2 ∧ zIC M'
    rw [qk_nz hc, ← nz_Tk hc]
    exact h
end

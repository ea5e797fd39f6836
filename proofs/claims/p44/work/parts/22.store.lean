section
/-! the store: rows, drafts, admission -/
def dUp (D : Nat → Int32) (k : Nat) (x : Int32) : Nat → Int32 := fun s => if s = k then x else D s
def setD (M : zzMd) (D : Nat → Int32) : zzMd := (fun a b => if a = 17 then D b else M.1 a b, M.2)
def setA (M : zzMd) (D : Nat → Int32) : zzMd := (fun a b => if a = 20 then D b else M.1 a b, M.2)
theorem setD_1 (M : zzMd) (D : Nat → Int32) (a b : Nat) : (setD M D).1 a b = if a = 17 then D b else M.1 a b := rfl
theorem setA_1 (M : zzMd) (D : Nat → Int32) (a b : Nat) : (setA M D).1 a b = if a = 20 then D b else M.1 a b := rfl
theorem sI_1 (M : zzMd) (i k : Nat) (x : Int32) (a b : Nat) : (zz_sI M i k x).1 a b = if a = i ∧ b = k then x else M.1 a b := rfl
theorem setD_s (M : zzMd) (D : Nat → Int32) (k : Nat) (x : Int32) : zz_sI (setD M D) 17 k x = setD M (dUp D k x) := by
  unfold zz_sI setD dUp
  refine Prod.ext (funext fun a => funext fun b => ?_) rfl
  by_cases h : a = 17 <;> by_cases h2 : b = k <;> simp [h, h2]
theorem setD_0 (M : zzMd) : setD M (M.1 17) = M := by
  unfold setD
  refine Prod.ext (funext fun a => funext fun b => ?_) rfl
  by_cases h : a = 17 <;> simp [h]
theorem setD_n (M : zzMd) (k : Nat) (x : Int32) : zz_sI M 17 k x = setD M (dUp (M.1 17) k x) := by
  rw [← setD_s, setD_0]
/-! rules -/
def nr (M : zzMd) : Nat := zz_ix (M.1 2 3)
def nc (M : zzMd) : Nat := zz_ix (M.1 2 4)
def rP (M : zzMd) (i k : Nat) : Int32 := M.1 18 (i * 6 + k)
def cP (M : zzMd) (i k : Nat) : Int32 := M.1 19 (i * 3 + k)
def ruleStep (M : zzMd) (i : Nat) (D : Nat → Int32) : Nat → Int32 :=
  if rP M i 0 = D 23 ∧ ¬ D (zz_ix (rP M i 1)) < rP M i 2 ∧ ¬ rP M i 3 < D (zz_ix (rP M i 1)) then dUp D (zz_ix (rP M i 4)) (rP M i 5) else D
def rules (M : zzMd) (D : Nat → Int32) : Nat → Int32 := zfold (nr M) (ruleStep M) D
/-- the admission's numbers are such that nothing goes wrong -/
def zAd (M : zzMd) : Prop := (M.1 2 3 = zn (nr M) ∧ nr M ≤ 8) ∧ (M.1 2 4 = zn (nc M) ∧ nc M ≤ 8) ∧ (∀ i, i < nr M → (rP M i 1 = zn (zz_ix (rP M i 1)) ∧ zz_ix (rP M i 1) < 11) ∧ rP M i 4 = zn (zz_ix (rP M i 4)) ∧ zz_ix (rP M i 4) < 11) ∧ ∀ i, i < nc M → cP M i 1 = zn (zz_ix (cP M i 1)) ∧ zz_ix (cP M i 1) < 11
theorem zk_lt {i n b : Nat} (hi : i < n) (hn : n ≤ b) (hb : b < 2147483648) : (zn n ≤ zn i) = False := by
  rw [zn_le (by omega) (by omega)]
  exact eq_false (by omega)
theorem zk_ge {n b : Nat} (hn : n ≤ b) (hb : b < 2147483648) : (zn n ≤ zn n) = True := by
  rw [zn_le (by omega) (by omega)]
  exact eq_true (Nat.le_refl n)
theorem zn_inT {k n : Nat} (h : k < n) (hn : n < 2147483648) : zz_inb (zn k) n = true := by
  rw [zn_inb (by omega)]
  exact decide_eq_true h
theorem sp_runRules {M : zzMd} (hA : zAd M) : fX0_runRules [.ref 2, .ref 17] M = some (.inl none, setD M (rules M (M.1 17))) := by
  obtain ⟨⟨hr, hr8⟩, -, hR, -⟩ := hA
  obtain ⟨j, lp⟩ := zl_goJ (E := fun i (j : Option Int32 × Option Int32) => zz_ev tX0_runRules 2 [some (.ref 2), some (.ref 17), some (.int (zn i)), zj j.1, zj j.2] [] (setD M (zfold i (ruleStep M) (M.1 17)))) (nr M) (fun i hi j => by
    have hc := zk_lt hi hr8 (by decide)
    obtain ⟨⟨f1, f2⟩, t1, t2⟩ := hR i hi
    have b0 : zz_inb (zn (i * 6)) 48 = true := zn_inT (by omega) (by omega)
    have b1 : zz_inb (zn (i * 6 + 1)) 48 = true := zn_inT (by omega) (by omega)
    have b2 : zz_inb (zn (i * 6 + 2)) 48 = true := zn_inT (by omega) (by omega)
    have b3 : zz_inb (zn (i * 6 + 3)) 48 = true := zn_inT (by omega) (by omega)
    have b4 : zz_inb (zn (i * 6 + 4)) 48 = true := zn_inT (by omega) (by omega)
    have b5 : zz_inb (zn (i * 6 + 5)) 48 = true := zn_inT (by omega) (by omega)
    have x0 : zz_ix (zn (i * 6)) = i * 6 := zn_ix (by omega)
    have x1 : zz_ix (zn (i * 6 + 1)) = i * 6 + 1 := zn_ix (by omega)
    have x2 : zz_ix (zn (i * 6 + 2)) = i * 6 + 2 := zn_ix (by omega)
    have x3 : zz_ix (zn (i * 6 + 3)) = i * 6 + 3 := zn_ix (by omega)
    have x4 : zz_ix (zn (i * 6 + 4)) = i * 6 + 4 := zn_ix (by omega)
    have x5 : zz_ix (zn (i * 6 + 5)) = i * 6 + 5 := zn_ix (by omega)
    have g1 : zz_inb (rP M i 1) 32 = true := by rw [f1]; exact zn_inT (by omega) (by omega)
    have g4 : zz_inb (rP M i 4) 32 = true := by rw [t1]; exact zn_inT (by omega) (by omega)
    unfold rP at g1 g4
    refine ⟨(some (zn (i * 6)), some ((zfold i (ruleStep M) (M.1 17)) (zz_ix (rP M i 1)))), ?_⟩
    rw [zfold_s]
    generalize zfold i (ruleStep M) (M.1 17) = D
    unfold ruleStep rP
    have h18 : ∀ k, (setD M D).1 18 k = M.1 18 k := fun _ => rfl
    have h17 : ∀ k, (setD M D).1 17 k = D k := fun _ => rfl
    have h2 : ∀ k, (setD M D).1 2 k = M.1 2 k := fun _ => rfl
    by_cases c1 : M.1 18 (i * 6) = D 23 <;> by_cases c2 : D (zz_ix (M.1 18 (i * 6 + 1))) < M.1 18 (i * 6 + 2) <;> by_cases c3 : M.1 18 (i * 6 + 3) < D (zz_ix (M.1 18 (i * 6 + 1))) <;>
      ((rw [e_X0_runRules_2]; simp only [e_X0_runRules, zo_iload, zo_lload, zo_aload, zo_istore, zo_lstore, zo_astore, zo_iinc, zo_pushI, zo_pushL, zo_null, zo_ii, zo_iid, zo_ll, zo_li, zo_lcmp, zo_i2l, zo_l2i, zo_dup, zo_dup2, zo_pop, zo_goto, zo_if, zo_icmp, zo_ifnull, zo_gets, zo_mm, zo_throw, zo_ret, zo_aret, zo_lret, q_iret_f, q_iret_1, q_iret_0, q_iret_b, q_c8_0, q_c8_1, q_c8_2, q_c8_3, q_c8_4, q_set_0, q_set_1i, q_set_1r, q_set_1n, q_set_1N, q_set_s, q_set_1j, q_bk_v, q_bk_n, q_if, zb_ite, cond_true, cond_false, List.getElem?_cons_zero, List.getElem?_cons_succ, Nat.reduceAdd, zj_some, h18, h17, h2, hr, hc, zn_p2, zn_p3, zn_p4, zn_p5, zn_x6, b0, b1, b2, b3, b4, b5, x0, x1, x2, x3, x4, x5, g1, g4, q_aC, q_ix, q_in, Nat.reduceLT, Nat.add_zero, c1, c2, c3, setD_s, if_true, if_false, zb_eq0, zb_eq1, zn_1, not_true_eq_false, not_false_eq_true, ite_true, ite_false, if_true, if_false, q_iret_0, q_iret_1, decide_true, decide_false, decide_not, zb_t, zb_f, z10, z01, cond_true, cond_false, Bool.and_true, Bool.true_and, Bool.and_false, Bool.false_and, Bool.not_true, Bool.not_false, true_and, and_true, false_and, and_false, true_or, or_true, false_or, or_false, Bool.true_eq_false, Bool.false_eq_true, eq_self, reduceCtorEq]))) (none, none)
  have st : fX0_runRules [.ref 2, .ref 17] M = zz_ev tX0_runRules 2 [some (.ref 2), some (.ref 17), some (.int (zn 0)), zj none, zj none] [] (setD M (M.1 17)) := by
    rw [s_X0_runRules, setD_0]
    (simp only [e_X0_runRules, zo_iload, zo_lload, zo_aload, zo_istore, zo_lstore, zo_astore, zo_iinc, zo_pushI, zo_pushL, zo_null, zo_ii, zo_iid, zo_ll, zo_li, zo_lcmp, zo_i2l, zo_l2i, zo_dup, zo_dup2, zo_pop, zo_goto, zo_if, zo_icmp, zo_ifnull, zo_gets, zo_mm, zo_throw, zo_ret, zo_aret, zo_lret, q_iret_f, q_iret_1, q_iret_0, q_iret_b, q_c8_0, q_c8_1, q_c8_2, q_c8_3, q_c8_4, q_set_0, q_set_1i, q_set_1r, q_set_1n, q_set_1N, q_set_s, q_set_1j, q_bk_v, q_bk_n, q_if, zb_ite, cond_true, cond_false, List.getElem?_cons_zero, List.getElem?_cons_succ, Nat.reduceAdd, if_true, if_false, zb_eq0, zb_eq1, zn_1, not_true_eq_false, not_false_eq_true, ite_true, ite_false, if_true, if_false, q_iret_0, q_iret_1, decide_true, decide_false, decide_not, zb_t, zb_f, z10, z01, cond_true, cond_false, Bool.and_true, Bool.true_and, Bool.and_false, Bool.false_and, Bool.not_true, Bool.not_false, true_and, and_true, false_and, and_false, true_or, or_true, false_or, or_false, Bool.true_eq_false, Bool.false_eq_true, eq_self, reduceCtorEq])
    rfl
  refine (st.trans lp).trans ?_
  have hc := zk_ge hr8 (by decide)
  have h2 : ∀ D k, (setD M D).1 2 k = M.1 2 k := fun _ _ => rfl
  rw [e_X0_runRules_2]
  (simp only [e_X0_runRules, zo_iload, zo_lload, zo_aload, zo_istore, zo_lstore, zo_astore, zo_iinc, zo_pushI, zo_pushL, zo_null, zo_ii, zo_iid, zo_ll, zo_li, zo_lcmp, zo_i2l, zo_l2i, zo_dup, zo_dup2, zo_pop, zo_goto, zo_if, zo_icmp, zo_ifnull, zo_gets, zo_mm, zo_throw, zo_ret, zo_aret, zo_lret, q_iret_f, q_iret_1, q_iret_0, q_iret_b, q_c8_0, q_c8_1, q_c8_2, q_c8_3, q_c8_4, q_set_0, q_set_1i, q_set_1r, q_set_1n, q_set_1N, q_set_s, q_set_1j, q_bk_v, q_bk_n, q_if, zb_ite, cond_true, cond_false, List.getElem?_cons_zero, List.getElem?_cons_succ, Nat.reduceAdd, hr, hc, h2, if_true, if_false, zb_eq0, zb_eq1, zn_1, not_true_eq_false, not_false_eq_true, ite_true, ite_false, if_true, if_false, q_iret_0, q_iret_1, decide_true, decide_false, decide_not, zb_t, zb_f, z10, z01, cond_true, cond_false, Bool.and_true, Bool.true_and, Bool.and_false, Bool.false_and, Bool.not_true, Bool.not_false, true_and, and_true, false_and, and_false, true_or, or_true, false_or, or_false, Bool.true_eq_false, Bool.false_eq_true, eq_self, reduceCtorEq])
  rfl
/-- all below n -/
def zall : Nat → (Nat → Bool) → Bool
  | 0, _ => true
  | n + 1, P => zall n P && P n
theorem zall_s (n : Nat) (P : Nat → Bool) : zall (n + 1) P = (zall n P && P n) := rfl
theorem zall_iff {P : Nat → Bool} : ∀ {n : Nat}, zall n P = true ↔ ∀ i, i < n → P i = true
  | 0 => ⟨fun _ i hi => absurd hi (Nat.not_lt_zero i), fun _ => rfl⟩
  | n + 1 => by
    rw [zall_s, Bool.and_eq_true, zall_iff]
    refine ⟨fun h i hi => ?_, fun h => ⟨fun i hi => h i (Nat.lt_succ_of_lt hi), h n (Nat.lt_succ_self n)⟩⟩
    rcases Nat.lt_or_eq_of_le (Nat.le_of_lt_succ hi) with h3 | h3
    · exact h.1 i h3
    · rw [h3]; exact h.2
theorem zall_fst {P : Nat → Bool} {n : Nat} : zall n P = (match zfst n (fun i => !P i) with | some _ => false | none => true) := by
  cases h : zfst n (fun i => !P i) with
  | some k =>
    obtain ⟨a, b, -⟩ := zfst_some h
    cases h2 : zall n P with
    | false => rfl
    | true => rw [zall_iff.mp h2 k a] at b; cases b
  | none =>
    refine zall_iff.mpr fun i hi => ?_
    have := zfst_no h i hi
    simpa using this
def same11 (D D' : Nat → Int32) : Bool := zall 11 fun f => decide (D' f = D f)
/-- k turns of the rules: whether they came to an end, the draft, the draft ahead of the last turn -/
def settle (M : zzMd) : Nat → (Nat → Int32) → (Nat → Int32) → Bool × (Nat → Int32) × (Nat → Int32)
  | 0, D, A => (false, D, A)
  | k + 1, D, A => bif same11 D (rules M D) then (true, rules M D, fun s => if s < 11 then D s else A s) else settle M k (rules M D) (fun s => if s < 11 then D s else A s)
theorem setDA_1 (M : zzMd) (D A : Nat → Int32) (a b : Nat) : (setA (setD M D) A).1 a b = if a = 20 then A b else if a = 17 then D b else M.1 a b := rfl
theorem cpA (M : zzMd) (D A : Nat → Int32) : zz_cpI (setA (setD M D) A) 17 0 20 0 11 = setA (setD M D) (fun s => if s < 11 then D s else A s) := by
  unfold zz_cpI setA setD
  refine Prod.ext (funext fun a => funext fun b => ?_) rfl
  by_cases h : a = 20 <;> by_cases h2 : b < 11 <;> simp [h, h2]
theorem setDA_D (M : zzMd) (D A D' : Nat → Int32) : setD (setA (setD M D) A) D' = setA (setD M D') A := by
  unfold setA setD
  refine Prod.ext (funext fun a => funext fun b => ?_) rfl
  by_cases h : a = 20 <;> by_cases h2 : a = 17 <;> simp [h, h2]
theorem nr_D (M : zzMd) (D : Nat → Int32) : nr (setD M D) = nr M := rfl
theorem nr_A (M : zzMd) (D : Nat → Int32) : nr (setA M D) = nr M := rfl
theorem rules_DA (M : zzMd) (D A : Nat → Int32) : rules (setA (setD M D) A) = rules M := rfl
theorem zAd_DA {M : zzMd} (D A : Nat → Int32) (h : zAd M) : zAd (setA (setD M D) A) := h
theorem sp_settles1 {M : zzMd} (hA : zAd M) (t : Nat) (ht : t < 6) (D A : Nat → Int32) (j : Option Int32 × Option Int32) :
    ∃ j', zz_ev tX0_settles 2 [some (.ref 2), some (.ref 17), some (.int (zn t)), zj j.1, zj j.2] [] (setA (setD M D) A) =
      bif same11 D (rules M D) then some (.inl (some (.int 1)), setA (setD M (rules M D)) (fun s => if s < 11 then D s else A s)) else zz_ev tX0_settles 2 [some (.ref 2), some (.ref 17), some (.int (zn (t + 1))), zj (Prod.fst j'), zj (Prod.snd j')] [] (setA (setD M (rules M D)) (fun s => if s < 11 then D s else A s)) := by
  have hc : ((6 : Int32) ≤ zn t) = False := zk_lt (n := 6) ht (Nat.le_refl 6) (by decide)
  have hrr : fX0_runRules [.ref 2, .ref 17] (setA (setD M D) (fun s => if s < 11 then D s else A s)) = some (.inl none, setA (setD M (rules M D)) (fun s => if s < 11 then D s else A s)) := by
    rw [sp_runRules (zAd_DA D _ hA), setDA_D, rules_DA]
    rfl
  have z0 : (0 : Int32).toInt = 0 := rfl
  have z1 : (11 : Int32).toInt = 11 := rfl
  generalize hB : (fun s => if s < 11 then D s else A s) = B at hrr ⊢
  generalize hE : rules M D = E at hrr ⊢
  have hd : (decide ((0 : Int32).toInt ≥ 0)) = true := rfl
  have cp : zz_cpI (setA (setD M D) A) 17 0 20 0 11 = setA (setD M D) B := by rw [cpA, hB]
  have lp := zl_go (E := fun i => zz_ev tX0_settles 30 [some (.ref 2), some (.ref 17), some (.int (zn t)), some (.int (zb (zall i fun f => decide (E f = D f)))), some (.int (zn i))] [] (setA (setD M E) B)) 11 (fun i hi => by
    have hc : ((11 : Int32) ≤ zn i) = False := zk_lt (n := 11) hi (Nat.le_refl 11) (by decide)
    have b1 : zz_inb (zn i) 32 = true := zn_inT (by omega) (by omega)
    have b2 : zz_inb (zn i) 11 = true := zn_inT (by omega) (by omega)
    have x1 : zz_ix (zn i) = i := zn_ix (by omega)
    have h17 : ∀ k, (setA (setD M E) B).1 17 k = E k := fun _ => rfl
    have h20 : ∀ k, (setA (setD M E) B).1 20 k = B k := fun _ => rfl
    have hBi : B i = D i := by rw [← hB]; exact if_pos hi
    cases c0 : zall i (fun f => decide (E f = D f)) <;> by_cases c1 : E i = D i <;>
      (rw [e_X0_settles_30]; simp only [e_X0_settles, zo_iload, zo_lload, zo_aload, zo_istore, zo_lstore, zo_astore, zo_iinc, zo_pushI, zo_pushL, zo_null, zo_ii, zo_iid, zo_ll, zo_li, zo_lcmp, zo_i2l, zo_l2i, zo_dup, zo_dup2, zo_pop, zo_goto, zo_if, zo_icmp, zo_ifnull, zo_gets, zo_mm, zo_throw, zo_ret, zo_aret, zo_lret, q_iret_f, q_iret_1, q_iret_0, q_iret_b, q_c8_0, q_c8_1, q_c8_2, q_c8_3, q_c8_4, q_set_0, q_set_1i, q_set_1r, q_set_1n, q_set_1N, q_set_s, q_set_1j, q_bk_v, q_bk_n, q_if, zb_ite, cond_true, cond_false, List.getElem?_cons_zero, List.getElem?_cons_succ, Nat.reduceAdd, hc, b1, b2, x1, h17, h20, hBi, zall_s, c0, c1, q_aC, if_true, if_false, zb_eq0, zb_eq1, zn_1, not_true_eq_false, not_false_eq_true, ite_true, ite_false, if_true, if_false, q_iret_0, q_iret_1, decide_true, decide_false, decide_not, zb_t, zb_f, z10, z01, cond_true, cond_false, Bool.and_true, Bool.true_and, Bool.and_false, Bool.false_and, Bool.not_true, Bool.not_false, true_and, and_true, false_and, and_false, true_or, or_true, false_or, or_false, Bool.true_eq_false, Bool.false_eq_true, eq_self, reduceCtorEq]))
  refine ⟨(some (zb (same11 D E)), some (zn 11)), ?_⟩
  rw [e_X0_settles_2]
  (simp only [e_X0_settles, zo_iload, zo_lload, zo_aload, zo_istore, zo_lstore, zo_astore, zo_iinc, zo_pushI, zo_pushL, zo_null, zo_ii, zo_iid, zo_ll, zo_li, zo_lcmp, zo_i2l, zo_l2i, zo_dup, zo_dup2, zo_pop, zo_goto, zo_if, zo_icmp, zo_ifnull, zo_gets, zo_mm, zo_throw, zo_ret, zo_aret, zo_lret, q_iret_f, q_iret_1, q_iret_0, q_iret_b, q_c8_0, q_c8_1, q_c8_2, q_c8_3, q_c8_4, q_set_0, q_set_1i, q_set_1r, q_set_1n, q_set_1N, q_set_s, q_set_1j, q_bk_v, q_bk_n, q_if, zb_ite, cond_true, cond_false, List.getElem?_cons_zero, List.getElem?_cons_succ, Nat.reduceAdd, hc, q_aC, q_ix, z0, z1, hrr, cp, if_true, if_false, zb_eq0, zb_eq1, zn_1, not_true_eq_false, not_false_eq_true, ite_true, ite_false, if_true, if_false, q_iret_0, q_iret_1, decide_true, decide_false, decide_not, zb_t, zb_f, z10, z01, cond_true, cond_false, Bool.and_true, Bool.true_and, Bool.and_false, Bool.false_and, Bool.not_true, Bool.not_false, true_and, and_true, false_and, and_false, true_or, or_true, false_or, or_false, Bool.true_eq_false, Bool.false_eq_true, eq_self, reduceCtorEq])
  rw [if_pos (by decide)]
  refine (show _ = _ from lp).trans ?_
  have hc2 : ((11 : Int32) ≤ zn 11) = True := eq_true (by decide)
  have hs : zall 11 (fun f => decide (E f = D f)) = same11 D E := rfl
  rw [hs]
  cases same11 D E
  · (rw [e_X0_settles_30]; simp only [e_X0_settles, zo_iload, zo_lload, zo_aload, zo_istore, zo_lstore, zo_astore, zo_iinc, zo_pushI, zo_pushL, zo_null, zo_ii, zo_iid, zo_ll, zo_li, zo_lcmp, zo_i2l, zo_l2i, zo_dup, zo_dup2, zo_pop, zo_goto, zo_if, zo_icmp, zo_ifnull, zo_gets, zo_mm, zo_throw, zo_ret, zo_aret, zo_lret, q_iret_f, q_iret_1, q_iret_0, q_iret_b, q_c8_0, q_c8_1, q_c8_2, q_c8_3, q_c8_4, q_set_0, q_set_1i, q_set_1r, q_set_1n, q_set_1N, q_set_s, q_set_1j, q_bk_v, q_bk_n, q_if, zb_ite, cond_true, cond_false, List.getElem?_cons_zero, List.getElem?_cons_succ, Nat.reduceAdd, hc2, zj_some, if_true, if_false, zb_eq0, zb_eq1, zn_1, not_true_eq_false, not_false_eq_true, ite_true, ite_false, if_true, if_false, q_iret_0, q_iret_1, decide_true, decide_false, decide_not, zb_t, zb_f, z10, z01, cond_true, cond_false, Bool.and_true, Bool.true_and, Bool.and_false, Bool.false_and, Bool.not_true, Bool.not_false, true_and, and_true, false_and, and_false, true_or, or_true, false_or, or_false, Bool.true_eq_false, Bool.false_eq_true, eq_self, reduceCtorEq])
  · (rw [e_X0_settles_30]; simp only [e_X0_settles, zo_iload, zo_lload, zo_aload, zo_istore, zo_lstore, zo_astore, zo_iinc, zo_pushI, zo_pushL, zo_null, zo_ii, zo_iid, zo_ll, zo_li, zo_lcmp, zo_i2l, zo_l2i, zo_dup, zo_dup2, zo_pop, zo_goto, zo_if, zo_icmp, zo_ifnull, zo_gets, zo_mm, zo_throw, zo_ret, zo_aret, zo_lret, q_iret_f, q_iret_1, q_iret_0, q_iret_b, q_c8_0, q_c8_1, q_c8_2, q_c8_3, q_c8_4, q_set_0, q_set_1i, q_set_1r, q_set_1n, q_set_1N, q_set_s, q_set_1j, q_bk_v, q_bk_n, q_if, zb_ite, cond_true, cond_false, List.getElem?_cons_zero, List.getElem?_cons_succ, Nat.reduceAdd, hc2, zj_some, if_true, if_false, zb_eq0, zb_eq1, zn_1, not_true_eq_false, not_false_eq_true, ite_true, ite_false, if_true, if_false, q_iret_0, q_iret_1, decide_true, decide_false, decide_not, zb_t, zb_f, z10, z01, cond_true, cond_false, Bool.and_true, Bool.true_and, Bool.and_false, Bool.false_and, Bool.not_true, Bool.not_false, true_and, and_true, false_and, and_false, true_or, or_true, false_or, or_false, Bool.true_eq_false, Bool.false_eq_true, eq_self, reduceCtorEq])
theorem sp_settlesK {M : zzMd} (hA : zAd M) : ∀ (k t : Nat), k + t = 6 → ∀ (D A : Nat → Int32) (j : Option Int32 × Option Int32),
    zz_ev tX0_settles 2 [some (.ref 2), some (.ref 17), some (.int (zn t)), zj j.1, zj j.2] [] (setA (setD M D) A) =
      some (.inl (some (.int (zb (settle M k D A).1))), setA (setD M (settle M k D A).2.1) (settle M k D A).2.2)
  | 0, t, ht, D, A, j => by
    have hc : ((6 : Int32) ≤ zn t) = True := by
      rw [show t = 6 by omega]
      exact eq_true (by decide)
    rw [e_X0_settles_2]
    (simp only [e_X0_settles, zo_iload, zo_lload, zo_aload, zo_istore, zo_lstore, zo_astore, zo_iinc, zo_pushI, zo_pushL, zo_null, zo_ii, zo_iid, zo_ll, zo_li, zo_lcmp, zo_i2l, zo_l2i, zo_dup, zo_dup2, zo_pop, zo_goto, zo_if, zo_icmp, zo_ifnull, zo_gets, zo_mm, zo_throw, zo_ret, zo_aret, zo_lret, q_iret_f, q_iret_1, q_iret_0, q_iret_b, q_c8_0, q_c8_1, q_c8_2, q_c8_3, q_c8_4, q_set_0, q_set_1i, q_set_1r, q_set_1n, q_set_1N, q_set_s, q_set_1j, q_bk_v, q_bk_n, q_if, zb_ite, cond_true, cond_false, List.getElem?_cons_zero, List.getElem?_cons_succ, Nat.reduceAdd, hc, if_true, if_false, zb_eq0, zb_eq1, zn_1, not_true_eq_false, not_false_eq_true, ite_true, ite_false, if_true, if_false, q_iret_0, q_iret_1, decide_true, decide_false, decide_not, zb_t, zb_f, z10, z01, cond_true, cond_false, Bool.and_true, Bool.true_and, Bool.and_false, Bool.false_and, Bool.not_true, Bool.not_false, true_and, and_true, false_and, and_false, true_or, or_true, false_or, or_false, Bool.true_eq_false, Bool.false_eq_true, eq_self, reduceCtorEq])
    rfl
  | k + 1, t, ht, D, A, j => by
    obtain ⟨j', h⟩ := sp_settles1 hA t (by omega) D A j
    rw [h]
    unfold settle
    cases same11 D (rules M D)
    · exact sp_settlesK hA k (t + 1) (by omega) _ _ j'
    · rfl
theorem setDA_0 (M : zzMd) : setA (setD M (M.1 17)) (M.1 20) = M := by
  rw [setD_0]
  unfold setA
  refine Prod.ext (funext fun a => funext fun b => ?_) rfl
  by_cases h : a = 20 <;> simp [h]
/-- what the rules make of a draft -/
def settled (M : zzMd) (D : Nat → Int32) : Bool × (Nat → Int32) := ((settle M 6 D D).1, (settle M 6 D D).2.1)
theorem settle_A (M : zzMd) : ∀ (k : Nat) (D A B : Nat → Int32), (settle M k D A).1 = (settle M k D B).1 ∧ (settle M k D A).2.1 = (settle M k D B).2.1
  | 0, _, _, _ => ⟨rfl, rfl⟩
  | k + 1, D, A, B => by
    unfold settle
    cases same11 D (rules M D)
    · exact settle_A M k _ _ _
    · exact ⟨rfl, rfl⟩
theorem sp_settles {M : zzMd} (hA : zAd M) : ∃ A, fX0_settles [.ref 2, .ref 17] M = some (.inl (some (.int (zb (settled M (M.1 17)).1))), setA (setD M (settled M (M.1 17)).2) A) := by
  have st : fX0_settles [.ref 2, .ref 17] M = zz_ev tX0_settles 2 [some (.ref 2), some (.ref 17), some (.int (zn 0)), zj none, zj none] [] (setA (setD M (M.1 17)) (M.1 20)) := by
    rw [s_X0_settles, setDA_0]
    (simp only [e_X0_settles, zo_iload, zo_lload, zo_aload, zo_istore, zo_lstore, zo_astore, zo_iinc, zo_pushI, zo_pushL, zo_null, zo_ii, zo_iid, zo_ll, zo_li, zo_lcmp, zo_i2l, zo_l2i, zo_dup, zo_dup2, zo_pop, zo_goto, zo_if, zo_icmp, zo_ifnull, zo_gets, zo_mm, zo_throw, zo_ret, zo_aret, zo_lret, q_iret_f, q_iret_1, q_iret_0, q_iret_b, q_c8_0, q_c8_1, q_c8_2, q_c8_3, q_c8_4, q_set_0, q_set_1i, q_set_1r, q_set_1n, q_set_1N, q_set_s, q_set_1j, q_bk_v, q_bk_n, q_if, zb_ite, cond_true, cond_false, List.getElem?_cons_zero, List.getElem?_cons_succ, Nat.reduceAdd, if_true, if_false, zb_eq0, zb_eq1, zn_1, not_true_eq_false, not_false_eq_true, ite_true, ite_false, if_true, if_false, q_iret_0, q_iret_1, decide_true, decide_false, decide_not, zb_t, zb_f, z10, z01, cond_true, cond_false, Bool.and_true, Bool.true_and, Bool.and_false, Bool.false_and, Bool.not_true, Bool.not_false, true_and, and_true, false_and, and_false, true_or, or_true, false_or, or_false, Bool.true_eq_false, Bool.false_eq_true, eq_self, reduceCtorEq])
    rfl
  refine ⟨(settle M 6 (M.1 17) (M.1 20)).2.2, ?_⟩
  rw [st, show zj none = zj (none, none).1 from rfl, sp_settlesK hA 6 0 rfl _ _ (none, none)]
  unfold settled
  rw [(settle_A M 6 (M.1 17) (M.1 20) (M.1 17)).1, (settle_A M 6 (M.1 17) (M.1 20) (M.1 17)).2]
/-- whether the checks let a draft pass -/
def allowed (M : zzMd) (D : Nat → Int32) : Bool := !decide (D 23 = 0 ∧ D 2 = 0 ∧ D 3 = 0) && zall (nc M) fun i => !decide (cP M i 0 = D 23 ∧ ¬ D (zz_ix (cP M i 1)) ≤ cP M i 2)
theorem sp_allows {M : zzMd} (hA : zAd M) : fX0_allows [.ref 2, .ref 17] M = some (.inl (some (.int (zb (allowed M (M.1 17))))), M) := by
  obtain ⟨-, ⟨hr, hr8⟩, -, hR⟩ := hA
  obtain ⟨j, lp⟩ := zl_fstJ (E := fun i (j : Option Int32) => zz_ev tX0_allows 23 [some (.ref 2), some (.ref 17), some (.int (zn i)), zj j] [] M) (P := fun i => !!decide (cP M i 0 = M.1 17 23 ∧ ¬ M.1 17 (zz_ix (cP M i 1)) ≤ cP M i 2)) (r := fun _ => some (.inl (some (.int 0)), M)) (nc M) (fun i hi j => by
    have hc := zk_lt hi hr8 (by decide)
    obtain ⟨f1, f2⟩ := hR i hi
    have b0 : zz_inb (zn (i * 3)) 24 = true := zn_inT (by omega) (by omega)
    have b1 : zz_inb (zn (i * 3 + 1)) 24 = true := zn_inT (by omega) (by omega)
    have b2 : zz_inb (zn (i * 3 + 2)) 24 = true := zn_inT (by omega) (by omega)
    have x0 : zz_ix (zn (i * 3)) = i * 3 := zn_ix (by omega)
    have x1 : zz_ix (zn (i * 3 + 1)) = i * 3 + 1 := zn_ix (by omega)
    have x2 : zz_ix (zn (i * 3 + 2)) = i * 3 + 2 := zn_ix (by omega)
    have g1 : zz_inb (cP M i 1) 32 = true := by rw [f1]; exact zn_inT (by omega) (by omega)
    refine ⟨some (zn (i * 3)), ?_⟩
    unfold cP at g1 ⊢
    by_cases c1 : M.1 19 (i * 3) = M.1 17 23 <;> by_cases c2 : M.1 17 (zz_ix (M.1 19 (i * 3 + 1))) ≤ M.1 19 (i * 3 + 2) <;>
      ((rw [e_X0_allows_23]; simp only [e_X0_allows, zo_iload, zo_lload, zo_aload, zo_istore, zo_lstore, zo_astore, zo_iinc, zo_pushI, zo_pushL, zo_null, zo_ii, zo_iid, zo_ll, zo_li, zo_lcmp, zo_i2l, zo_l2i, zo_dup, zo_dup2, zo_pop, zo_goto, zo_if, zo_icmp, zo_ifnull, zo_gets, zo_mm, zo_throw, zo_ret, zo_aret, zo_lret, q_iret_f, q_iret_1, q_iret_0, q_iret_b, q_c8_0, q_c8_1, q_c8_2, q_c8_3, q_c8_4, q_set_0, q_set_1i, q_set_1r, q_set_1n, q_set_1N, q_set_s, q_set_1j, q_bk_v, q_bk_n, q_if, zb_ite, cond_true, cond_false, List.getElem?_cons_zero, List.getElem?_cons_succ, Nat.reduceAdd, zj_some, hr, hc, zn_p2, zn_x3, b0, b1, b2, x0, x1, x2, g1, q_aC, q_ix, q_in, Nat.reduceLT, Nat.add_zero, c1, c2, Bool.not_not, if_true, if_false, zb_eq0, zb_eq1, zn_1, not_true_eq_false, not_false_eq_true, ite_true, ite_false, if_true, if_false, q_iret_0, q_iret_1, decide_true, decide_false, decide_not, zb_t, zb_f, z10, z01, cond_true, cond_false, Bool.and_true, Bool.true_and, Bool.and_false, Bool.false_and, Bool.not_true, Bool.not_false, true_and, and_true, false_and, and_false, true_or, or_true, false_or, or_false, Bool.true_eq_false, Bool.false_eq_true, eq_self, reduceCtorEq]))) none
  have hc := zk_ge hr8 (by decide)
  unfold allowed
  rw [s_X0_allows]
  by_cases c0 : M.1 17 23 = 0 ∧ M.1 17 2 = 0 ∧ M.1 17 3 = 0
  · obtain ⟨d1, d2, d3⟩ := c0
    have i1 : zz_inb (23 : Int32) 32 = true := rfl
    (simp only [e_X0_allows, zo_iload, zo_lload, zo_aload, zo_istore, zo_lstore, zo_astore, zo_iinc, zo_pushI, zo_pushL, zo_null, zo_ii, zo_iid, zo_ll, zo_li, zo_lcmp, zo_i2l, zo_l2i, zo_dup, zo_dup2, zo_pop, zo_goto, zo_if, zo_icmp, zo_ifnull, zo_gets, zo_mm, zo_throw, zo_ret, zo_aret, zo_lret, q_iret_f, q_iret_1, q_iret_0, q_iret_b, q_c8_0, q_c8_1, q_c8_2, q_c8_3, q_c8_4, q_set_0, q_set_1i, q_set_1r, q_set_1n, q_set_1N, q_set_s, q_set_1j, q_bk_v, q_bk_n, q_if, zb_ite, cond_true, cond_false, List.getElem?_cons_zero, List.getElem?_cons_succ, Nat.reduceAdd, q_aC, q_ix, q_in, Nat.reduceLT, d1, d2, d3, if_true, if_false, zb_eq0, zb_eq1, zn_1, not_true_eq_false, not_false_eq_true, ite_true, ite_false, if_true, if_false, q_iret_0, q_iret_1, decide_true, decide_false, decide_not, zb_t, zb_f, z10, z01, cond_true, cond_false, Bool.and_true, Bool.true_and, Bool.and_false, Bool.false_and, Bool.not_true, Bool.not_false, true_and, and_true, false_and, and_false, true_or, or_true, false_or, or_false, Bool.true_eq_false, Bool.false_eq_true, eq_self, reduceCtorEq])
  · have st : zz_ev tX0_allows 0 [some (.ref 2), some (.ref 17), none, none] [] M = zz_ev tX0_allows 23 [some (.ref 2), some (.ref 17), some (.int (zn 0)), zj none] [] M := by
      by_cases d1 : M.1 17 23 = 0
      · by_cases d2 : M.1 17 2 = 0
        · by_cases d3 : M.1 17 3 = 0
          · exact absurd ⟨d1, d2, d3⟩ c0
          · ((simp only [e_X0_allows, zo_iload, zo_lload, zo_aload, zo_istore, zo_lstore, zo_astore, zo_iinc, zo_pushI, zo_pushL, zo_null, zo_ii, zo_iid, zo_ll, zo_li, zo_lcmp, zo_i2l, zo_l2i, zo_dup, zo_dup2, zo_pop, zo_goto, zo_if, zo_icmp, zo_ifnull, zo_gets, zo_mm, zo_throw, zo_ret, zo_aret, zo_lret, q_iret_f, q_iret_1, q_iret_0, q_iret_b, q_c8_0, q_c8_1, q_c8_2, q_c8_3, q_c8_4, q_set_0, q_set_1i, q_set_1r, q_set_1n, q_set_1N, q_set_s, q_set_1j, q_bk_v, q_bk_n, q_if, zb_ite, cond_true, cond_false, List.getElem?_cons_zero, List.getElem?_cons_succ, Nat.reduceAdd, q_aC, q_ix, q_in, Nat.reduceLT, d1, d2, d3, if_true, if_false, zb_eq0, zb_eq1, zn_1, not_true_eq_false, not_false_eq_true, ite_true, ite_false, if_true, if_false, q_iret_0, q_iret_1, decide_true, decide_false, decide_not, zb_t, zb_f, z10, z01, cond_true, cond_false, Bool.and_true, Bool.true_and, Bool.and_false, Bool.false_and, Bool.not_true, Bool.not_false, true_and, and_true, false_and, and_false, true_or, or_true, false_or, or_false, Bool.true_eq_false, Bool.false_eq_true, eq_self, reduceCtorEq]); rfl)
        · ((simp only [e_X0_allows, zo_iload, zo_lload, zo_aload, zo_istore, zo_lstore, zo_astore, zo_iinc, zo_pushI, zo_pushL, zo_null, zo_ii, zo_iid, zo_ll, zo_li, zo_lcmp, zo_i2l, zo_l2i, zo_dup, zo_dup2, zo_pop, zo_goto, zo_if, zo_icmp, zo_ifnull, zo_gets, zo_mm, zo_throw, zo_ret, zo_aret, zo_lret, q_iret_f, q_iret_1, q_iret_0, q_iret_b, q_c8_0, q_c8_1, q_c8_2, q_c8_3, q_c8_4, q_set_0, q_set_1i, q_set_1r, q_set_1n, q_set_1N, q_set_s, q_set_1j, q_bk_v, q_bk_n, q_if, zb_ite, cond_true, cond_false, List.getElem?_cons_zero, List.getElem?_cons_succ, Nat.reduceAdd, q_aC, q_ix, q_in, Nat.reduceLT, d1, d2, if_true, if_false, zb_eq0, zb_eq1, zn_1, not_true_eq_false, not_false_eq_true, ite_true, ite_false, if_true, if_false, q_iret_0, q_iret_1, decide_true, decide_false, decide_not, zb_t, zb_f, z10, z01, cond_true, cond_false, Bool.and_true, Bool.true_and, Bool.and_false, Bool.false_and, Bool.not_true, Bool.not_false, true_and, and_true, false_and, and_false, true_or, or_true, false_or, or_false, Bool.true_eq_false, Bool.false_eq_true, eq_self, reduceCtorEq]); rfl)
      · ((simp only [e_X0_allows, zo_iload, zo_lload, zo_aload, zo_istore, zo_lstore, zo_astore, zo_iinc, zo_pushI, zo_pushL, zo_null, zo_ii, zo_iid, zo_ll, zo_li, zo_lcmp, zo_i2l, zo_l2i, zo_dup, zo_dup2, zo_pop, zo_goto, zo_if, zo_icmp, zo_ifnull, zo_gets, zo_mm, zo_throw, zo_ret, zo_aret, zo_lret, q_iret_f, q_iret_1, q_iret_0, q_iret_b, q_c8_0, q_c8_1, q_c8_2, q_c8_3, q_c8_4, q_set_0, q_set_1i, q_set_1r, q_set_1n, q_set_1N, q_set_s, q_set_1j, q_bk_v, q_bk_n, q_if, zb_ite, cond_true, cond_false, List.getElem?_cons_zero, List.getElem?_cons_succ, Nat.reduceAdd, q_aC, q_ix, q_in, Nat.reduceLT, d1, if_true, if_false, zb_eq0, zb_eq1, zn_1, not_true_eq_false, not_false_eq_true, ite_true, ite_false, if_true, if_false, q_iret_0, q_iret_1, decide_true, decide_false, decide_not, zb_t, zb_f, z10, z01, cond_true, cond_false, Bool.and_true, Bool.true_and, Bool.and_false, Bool.false_and, Bool.not_true, Bool.not_false, true_and, and_true, false_and, and_false, true_or, or_true, false_or, or_false, Bool.true_eq_false, Bool.false_eq_true, eq_self, reduceCtorEq]); rfl)
    rw [st, lp, zall_fst]
    simp only [c0, decide_false, Bool.not_false, Bool.true_and]
    cases hz : zfst (nc M) (fun i => !!decide (cP M i 0 = M.1 17 23 ∧ ¬ M.1 17 (zz_ix (cP M i 1)) ≤ cP M i 2)) with
    | some k => rfl
    | none =>
      show zz_ev tX0_allows 23 [some (.ref 2), some (.ref 17), some (.int (zn (nc M))), zj j] [] M = _
      rw [e_X0_allows_23]
      (simp only [e_X0_allows, zo_iload, zo_lload, zo_aload, zo_istore, zo_lstore, zo_astore, zo_iinc, zo_pushI, zo_pushL, zo_null, zo_ii, zo_iid, zo_ll, zo_li, zo_lcmp, zo_i2l, zo_l2i, zo_dup, zo_dup2, zo_pop, zo_goto, zo_if, zo_icmp, zo_ifnull, zo_gets, zo_mm, zo_throw, zo_ret, zo_aret, zo_lret, q_iret_f, q_iret_1, q_iret_0, q_iret_b, q_c8_0, q_c8_1, q_c8_2, q_c8_3, q_c8_4, q_set_0, q_set_1i, q_set_1r, q_set_1n, q_set_1N, q_set_s, q_set_1j, q_bk_v, q_bk_n, q_if, zb_ite, cond_true, cond_false, List.getElem?_cons_zero, List.getElem?_cons_succ, Nat.reduceAdd, hr, hc, if_true, if_false, zb_eq0, zb_eq1, zn_1, not_true_eq_false, not_false_eq_true, ite_true, ite_false, if_true, if_false, q_iret_0, q_iret_1, decide_true, decide_false, decide_not, zb_t, zb_f, z10, z01, cond_true, cond_false, Bool.and_true, Bool.true_and, Bool.and_false, Bool.false_and, Bool.not_true, Bool.not_false, true_and, and_true, false_and, and_false, true_or, or_true, false_or, or_false, Bool.true_eq_false, Bool.false_eq_true, eq_self, reduceCtorEq])
/-! what holds of the class's memory at every call -/
def nv (M : zzMd) (v : Nat) : Nat := zz_ix (M.1 v 2)
def ve (M : zzMd) (v : Nat) : Nat := zz_ix (M.1 v 3)
def zIV (M : zzMd) (v l : Nat) : Prop := (∀ o, o < 60 → M.1 l o = zn (zz_ix (M.1 l o)) ∧ zz_ix (M.1 l o) ≤ 400) ∧ (M.1 v 2 = zn (nv M v) ∧ nv M v ≤ 60) ∧ M.1 v 3 = zn (ve M v) ∧ ve M v ≤ 400
/-- controller c's queue -/
def qn (M : zzMd) (c : Nat) : Nat := zz_ix (M.1 (3 + c) 11)
def qk (M : zzMd) (c p : Nat) : Nat := zz_ix (M.1 (22 + 6 * c) p)
def zIQ (M : zzMd) (c : Nat) : Prop := (M.1 (3 + c) 11 = zn (qn M c) ∧ qn M c ≤ 60) ∧ ∀ p, p < qn M c → M.1 (22 + 6 * c) p = zn (qk M c p) ∧ qk M c p < 60
def zIC (M : zzMd) : Prop := zIV M 1 15 ∧ zAd M ∧ ∀ c, c < 8 → zIV M (3 + c) (21 + 6 * c) ∧ zIQ M c
theorem zIV_W {M : zzMd} {v : Nat} (hv : zV v) (h : zIV M v (latA v)) : zVw M v (nv M v) := by
  refine ⟨hv, fun o ho => ?_, h.2.1.1, h.2.1.2⟩
  obtain ⟨h1, h2⟩ := h.1 o ho
  rw [h1, zn_toInt (by omega)]
  omega
theorem zIC_V {M : zzMd} {v : Nat} (hv : zV v) (h : zIC M) : zIV M v (latA v) := by
  obtain ⟨h1, -, h2⟩ := h
  rcases hv with rfl | rfl | rfl | rfl | rfl | rfl | rfl | rfl | rfl
  · exact h1
  · exact (h2 0 (by decide)).1
  · exact (h2 1 (by decide)).1
  · exact (h2 2 (by decide)).1
  · exact (h2 3 (by decide)).1
  · exact (h2 4 (by decide)).1
  · exact (h2 5 (by decide)).1
  · exact (h2 6 (by decide)).1
  · exact (h2 7 (by decide)).1
theorem zIC_W {M : zzMd} {v : Nat} (hv : zV v) (h : zIC M) : zVw M v (nv M v) := zIV_W hv (zIC_V hv h)
theorem zIC_1 {M : zzMd} (h : zIC M) : zVw M 1 (nv M 1) := zIC_W (Or.inl rfl) h
/-! the draft -/
def lv (M : zzMd) (o : Nat) : Nat := zz_ix (M.1 15 o)
def row (M : zzMd) (o : Nat) : Nat → Int32 := fun s => M.1 14 (lv M o * 32 + s)
def rw32 (M : zzMd) (D : Nat → Int32) : Nat → Int32 := fun s => if s < 32 then D s else M.1 17 s
theorem zn_lt0 {o : Nat} (h : o < 2147483648) : (zn o < 0) = False := zn_nn h
theorem zo_60 {o : Nat} (h : o < 60) : ((60 : Int32) ≤ zn o) = False := zk_lt (n := 60) h (Nat.le_refl 60) (by decide)
theorem sp_lat1 {M : zzMd} (W : zIC M) {o : Nat} (ho : o < 60) : fX10_latestOf [.ref 1, .int (zn o)] M = some (.inl (some (.int (zn (lv M o)))), M) := by
  rw [sp_latestOf (zIC_1 W), if_neg (by rw [zn_lt0 (by omega), zo_60 ho]; simp), zn_ix (by omega)]
  rw [show latA 1 = 15 from rfl, (W.1.1 o ho).1]
  rfl
theorem sp_draftFrom {M : zzMd} (W : zIC M) {o : Nat} (ho : o < 60) : fX9_draftFrom [.ref 1, .int (zn o)] M = some (.inl none, setD M (rw32 M (row M o))) := by
  have hl := sp_lat1 W ho
  have h4 := (W.1.1 o ho).2
  have x0 : zz_ix (zn (lv M o * 32)) = lv M o * 32 := zn_ix (by unfold lv; omega)
  have t0 : (zn (lv M o * 32)).toInt = (lv M o * 32 : Nat) := zn_toInt (by unfold lv; omega)
  have cp : zz_cpI M 14 (lv M o * 32) 17 0 32 = setD M (rw32 M (row M o)) := by
    unfold zz_cpI setD rw32 row
    refine Prod.ext (funext fun a => funext fun b => ?_) rfl
    by_cases h : a = 17 <;> by_cases h2 : b < 32 <;> simp [h, h2]
  have hq : (0 ≤ (zn (lv M o * 32)).toInt ∧ 0 ≤ (0 : Int32).toInt ∧ 0 ≤ (32 : Int32).toInt ∧ lv M o * 32 + 32 ≤ 12832 ∧ 0 + 32 ≤ 32) = True := eq_true (by
    rw [t0]
    refine ⟨by omega, by decide, by decide, by unfold lv; omega, by decide⟩)
  rw [s_X9_draftFrom]
  simp only [e_X9_draftFrom, zo_iload, zo_lload, zo_aload, zo_istore, zo_lstore, zo_astore, zo_iinc, zo_pushI, zo_pushL, zo_null, zo_ii, zo_iid, zo_ll, zo_li, zo_lcmp, zo_i2l, zo_l2i, zo_dup, zo_dup2, zo_pop, zo_goto, zo_if, zo_icmp, zo_ifnull, zo_gets, zo_mm, zo_throw, zo_ret, zo_aret, zo_lret, q_iret_f, q_iret_1, q_iret_0, q_iret_b, q_c8_0, q_c8_1, q_c8_2, q_c8_3, q_c8_4, q_set_0, q_set_1i, q_set_1r, q_set_1n, q_set_1N, q_set_s, q_set_1j, q_bk_v, q_bk_n, q_if, zb_ite, cond_true, cond_false, List.getElem?_cons_zero, List.getElem?_cons_succ, Nat.reduceAdd, hl, q_aC, zn_x32, q_ix, x0, hq, cp, decide_true, Bool.and_true, Bool.true_and]
theorem sp_isDraftAs {M : zzMd} {k : Nat} (hk : k ≤ 400) : fX9_isDraftAs [.ref 1, .int (zn k)] M = some (.inl (some (.int (zb (zall 32 fun s => decide (M.1 17 s = M.1 14 (k * 32 + s)))))), M) := by
  have lp := zl_fst (E := fun i => zz_ev tX9_isDraftAs 2 [some (.ref 1), some (.int (zn k)), some (.int (zn i))] [] M) (P := fun s => !decide (M.1 17 s = M.1 14 (k * 32 + s))) (r := fun _ => some (.inl (some (.int 0)), M)) 32 (fun i hi => by
    have hc : ((32 : Int32) ≤ zn i) = False := zk_lt (n := 32) hi (Nat.le_refl 32) (by decide)
    have b1 : zz_inb (zn i) 32 = true := zn_inT (by omega) (by omega)
    have b2 : zz_inb (zn (k * 32 + i)) 12832 = true := zn_inT (by omega) (by omega)
    have x1 : zz_ix (zn i) = i := zn_ix (by omega)
    have x2 : zz_ix (zn (k * 32 + i)) = k * 32 + i := zn_ix (by omega)
    by_cases c1 : M.1 17 i = M.1 14 (k * 32 + i) <;> (rw [e_X9_isDraftAs_2]; simp only [e_X9_isDraftAs, zo_iload, zo_lload, zo_aload, zo_istore, zo_lstore, zo_astore, zo_iinc, zo_pushI, zo_pushL, zo_null, zo_ii, zo_iid, zo_ll, zo_li, zo_lcmp, zo_i2l, zo_l2i, zo_dup, zo_dup2, zo_pop, zo_goto, zo_if, zo_icmp, zo_ifnull, zo_gets, zo_mm, zo_throw, zo_ret, zo_aret, zo_lret, q_iret_f, q_iret_1, q_iret_0, q_iret_b, q_c8_0, q_c8_1, q_c8_2, q_c8_3, q_c8_4, q_set_0, q_set_1i, q_set_1r, q_set_1n, q_set_1N, q_set_s, q_set_1j, q_bk_v, q_bk_n, q_if, zb_ite, cond_true, cond_false, List.getElem?_cons_zero, List.getElem?_cons_succ, Nat.reduceAdd, hc, b1, b2, x1, x2, zn_x32, zn_add, q_aC, c1, if_true, if_false, zb_eq0, zb_eq1, zn_1, not_true_eq_false, not_false_eq_true, ite_true, ite_false, if_true, if_false, q_iret_0, q_iret_1, decide_true, decide_false, decide_not, zb_t, zb_f, z10, z01, cond_true, cond_false, Bool.and_true, Bool.true_and, Bool.and_false, Bool.false_and, Bool.not_true, Bool.not_false, true_and, and_true, false_and, and_false, true_or, or_true, false_or, or_false, Bool.true_eq_false, Bool.false_eq_true, eq_self, reduceCtorEq]))
  have st : fX9_isDraftAs [.ref 1, .int (zn k)] M = zz_ev tX9_isDraftAs 2 [some (.ref 1), some (.int (zn k)), some (.int (zn 0))] [] M := by
    rw [s_X9_isDraftAs]
    (simp only [e_X9_isDraftAs, zo_iload, zo_lload, zo_aload, zo_istore, zo_lstore, zo_astore, zo_iinc, zo_pushI, zo_pushL, zo_null, zo_ii, zo_iid, zo_ll, zo_li, zo_lcmp, zo_i2l, zo_l2i, zo_dup, zo_dup2, zo_pop, zo_goto, zo_if, zo_icmp, zo_ifnull, zo_gets, zo_mm, zo_throw, zo_ret, zo_aret, zo_lret, q_iret_f, q_iret_1, q_iret_0, q_iret_b, q_c8_0, q_c8_1, q_c8_2, q_c8_3, q_c8_4, q_set_0, q_set_1i, q_set_1r, q_set_1n, q_set_1N, q_set_s, q_set_1j, q_bk_v, q_bk_n, q_if, zb_ite, cond_true, cond_false, List.getElem?_cons_zero, List.getElem?_cons_succ, Nat.reduceAdd, if_true, if_false, zb_eq0, zb_eq1, zn_1, not_true_eq_false, not_false_eq_true, ite_true, ite_false, if_true, if_false, q_iret_0, q_iret_1, decide_true, decide_false, decide_not, zb_t, zb_f, z10, z01, cond_true, cond_false, Bool.and_true, Bool.true_and, Bool.and_false, Bool.false_and, Bool.not_true, Bool.not_false, true_and, and_true, false_and, and_false, true_or, or_true, false_or, or_false, Bool.true_eq_false, Bool.false_eq_true, eq_self, reduceCtorEq])
    rfl
  rw [st, lp, zall_fst]
  cases hz : zfst 32 (fun s => !decide (M.1 17 s = M.1 14 (k * 32 + s))) with
  | some q => rfl
  | none =>
    show zz_ev tX9_isDraftAs 2 [some (.ref 1), some (.int (zn k)), some (.int (zn 32))] [] M = _
    have hc : ((32 : Int32) ≤ zn 32) = True := eq_true (by decide)
    (rw [e_X9_isDraftAs_2]; simp only [e_X9_isDraftAs, zo_iload, zo_lload, zo_aload, zo_istore, zo_lstore, zo_astore, zo_iinc, zo_pushI, zo_pushL, zo_null, zo_ii, zo_iid, zo_ll, zo_li, zo_lcmp, zo_i2l, zo_l2i, zo_dup, zo_dup2, zo_pop, zo_goto, zo_if, zo_icmp, zo_ifnull, zo_gets, zo_mm, zo_throw, zo_ret, zo_aret, zo_lret, q_iret_f, q_iret_1, q_iret_0, q_iret_b, q_c8_0, q_c8_1, q_c8_2, q_c8_3, q_c8_4, q_set_0, q_set_1i, q_set_1r, q_set_1n, q_set_1N, q_set_s, q_set_1j, q_bk_v, q_bk_n, q_if, zb_ite, cond_true, cond_false, List.getElem?_cons_zero, List.getElem?_cons_succ, Nat.reduceAdd, hc, if_true, if_false, zb_eq0, zb_eq1, zn_1, not_true_eq_false, not_false_eq_true, ite_true, ite_false, if_true, if_false, q_iret_0, q_iret_1, decide_true, decide_false, decide_not, zb_t, zb_f, z10, z01, cond_true, cond_false, Bool.and_true, Bool.true_and, Bool.and_false, Bool.false_and, Bool.not_true, Bool.not_false, true_and, and_true, false_and, and_false, true_or, or_true, false_or, or_false, Bool.true_eq_false, Bool.false_eq_true, eq_self, reduceCtorEq])
/-- a view takes an event in -/
def tkIn (M : zzMd) (v o k : Nat) : zzMd := zz_sI (zz_sI (zz_sI M (latA v) o (zn k)) v 2 (zn (Nat.max (nv M v) (o + 1)))) v 3 (zn k)
theorem zn_max {a b : Nat} (ha : a < 2147483648) (hb : b < 2147483648) : (if zn a < zn b then zn b else zn a) = zn (Nat.max a b) := by
  simp only [zn_lt ha hb]
  by_cases h : a < b
  · rw [if_pos h, show Nat.max a b = b from Nat.max_eq_right (Nat.le_of_lt h)]
  · rw [if_neg h, show Nat.max a b = a from Nat.max_eq_left (Nat.not_lt.mp h)]
theorem sp_takeIn {M : zzMd} {v : Nat} (W : zVw M v (nv M v)) {o k : Nat} (ho : o < 60) (h1 : 1 ≤ k) (h4 : k ≤ 400) : fX10_takeIn [.ref v, .int (zn o), .int (zn k)] M = some (.inl none, tkIn M v o k) := by
  obtain ⟨hv, -, hk, hn⟩ := W
  have c1 : (zn k < 1) = False := zn_lt (a := k) (b := 1) (by omega) (by decide) ▸ eq_false (by omega)
  have c2 : (zn k ≤ 400) = True := zn_le (a := k) (b := 400) (by omega) (by decide) ▸ eq_true h4
  have b1 : zz_inb (zn o) 60 = true := zn_inT (by omega) (by omega)
  have x1 : zz_ix (zn o) = o := zn_ix (by omega)
  have hm : ((zn o < zn (nv M v)) = True ∧ Nat.max (nv M v) (o + 1) = nv M v) ∨ ((zn o < zn (nv M v)) = False ∧ Nat.max (nv M v) (o + 1) = o + 1) := by
    rw [zn_lt (a := o) (b := nv M v) (by omega) (by omega)]
    by_cases h : o < nv M v
    · exact Or.inl ⟨eq_true h, Nat.max_eq_left h⟩
    · exact Or.inr ⟨eq_false h, Nat.max_eq_right (by omega)⟩
  have z0 := zn_lt0 (o := o) (by omega)
  have z6 := zo_60 ho
  rw [s_X10_takeIn]
  unfold tkIn
  rcases hm with ⟨hm, hx⟩ | ⟨hm, hx⟩ <;> rcases hv with rfl | rfl | rfl | rfl | rfl | rfl | rfl | rfl | rfl <;>
    · simp only [latA, Nat.beq, cond_true, cond_false, Nat.reduceSub, Nat.reduceMul, Nat.reduceAdd]
      have h2 : ∀ (a : Nat) x, (zz_sI M a o x).1 = fun p q => if p = a ∧ q = o then x else M.1 p q := fun _ _ => rfl
      simp only [e_X10_takeIn, zo_iload, zo_lload, zo_aload, zo_istore, zo_lstore, zo_astore, zo_iinc, zo_pushI, zo_pushL, zo_null, zo_ii, zo_iid, zo_ll, zo_li, zo_lcmp, zo_i2l, zo_l2i, zo_dup, zo_dup2, zo_pop, zo_goto, zo_if, zo_icmp, zo_ifnull, zo_gets, zo_mm, zo_throw, zo_ret, zo_aret, zo_lret, q_iret_f, q_iret_1, q_iret_0, q_iret_b, q_c8_0, q_c8_1, q_c8_2, q_c8_3, q_c8_4, q_set_0, q_set_1i, q_set_1r, q_set_1n, q_set_1N, q_set_s, q_set_1j, q_bk_v, q_bk_n, q_if, zb_ite, cond_true, cond_false, List.getElem?_cons_zero, List.getElem?_cons_succ, Nat.reduceAdd, q_aC, z0, z6, c1, c2, b1, x1, if_true, if_false, h2, hk, hm, hx, zn_1, Nat.reduceEqDiff, false_and]
/-! what counts of the memory: not the arrays that only one call uses -/
def dead (a : Nat) : Bool := Nat.beq a 17 || (Nat.beq a 20 || (Nat.beq a 69 || Nat.beq a 70))
def nz (M : zzMd) : zzMd := (fun a b => bif dead a then 0 else M.1 a b, M.2)
theorem nz_1 {M : zzMd} {a b : Nat} (h : dead a = false) : (nz M).1 a b = M.1 a b := by
  show (bif dead a then 0 else M.1 a b) = _
  rw [h]; rfl
theorem nz_sI {M : zzMd} {i k : Nat} {x : Int32} (h : dead i = false) : nz (zz_sI M i k x) = zz_sI (nz M) i k x := by
  unfold nz zz_sI
  refine Prod.ext (funext fun a => funext fun b => ?_) rfl
  show (bif dead a then 0 else if a = i ∧ b = k then x else M.1 a b) = if a = i ∧ b = k then x else bif dead a then 0 else M.1 a b
  by_cases h2 : a = i ∧ b = k
  · rw [if_pos h2, if_pos h2, h2.1, h]; rfl
  · rw [if_neg h2, if_neg h2]
theorem nz_sId {M : zzMd} {i k : Nat} {x : Int32} (h : dead i = true) : nz (zz_sI M i k x) = nz M := by
  unfold nz zz_sI
  refine Prod.ext (funext fun a => funext fun b => ?_) rfl
  show (bif dead a then 0 else if a = i ∧ b = k then x else M.1 a b) = bif dead a then 0 else M.1 a b
  by_cases h2 : a = i ∧ b = k
  · rw [h2.1, h]; rfl
  · rw [if_neg h2]
theorem nz_D (M : zzMd) (D : Nat → Int32) : nz (setD M D) = nz M := by
  unfold nz setD
  refine Prod.ext (funext fun a => funext fun b => ?_) rfl
  by_cases h : a = 17
  · rw [h]; rfl
  · simp [h]
theorem nz_A (M : zzMd) (D : Nat → Int32) : nz (setA M D) = nz M := by
  unfold nz setA
  refine Prod.ext (funext fun a => funext fun b => ?_) rfl
  by_cases h : a = 20
  · rw [h]; rfl
  · simp [h]
theorem nz_nz (M : zzMd) : nz (nz M) = nz M := by
  unfold nz
  refine Prod.ext (funext fun a => funext fun b => ?_) rfl
  show (bif dead a then 0 else bif dead a then 0 else M.1 a b) = bif dead a then 0 else M.1 a b
  cases dead a <;> rfl
def logSet (A : zzMd) (k : Nat) (D : Nat → Int32) : zzMd := (fun a b => if a = 14 ∧ k * 32 ≤ b ∧ b < k * 32 + 32 then D (b - k * 32) else A.1 a b, A.2)
theorem nz_log (M : zzMd) (k : Nat) : nz (zz_cpI M 17 0 14 (k * 32) 32) = logSet (nz M) k (M.1 17) := by
  unfold nz zz_cpI logSet
  refine Prod.ext (funext fun a => funext fun b => ?_) rfl
  show (bif dead a then 0 else if a = 14 ∧ k * 32 ≤ b ∧ b < k * 32 + 32 then M.1 17 (0 + (b - k * 32)) else M.1 a b) = if a = 14 ∧ k * 32 ≤ b ∧ b < k * 32 + 32 then M.1 17 (b - k * 32) else bif dead a then 0 else M.1 a b
  by_cases h2 : a = 14 ∧ k * 32 ≤ b ∧ b < k * 32 + 32
  · rw [if_pos h2, if_pos h2, h2.1, Nat.zero_add]; rfl
  · rw [if_neg h2, if_neg h2]
theorem logSet_c (A : zzMd) (k : Nat) {D D' : Nat → Int32} (h : ∀ s, s < 32 → D s = D' s) : logSet A k D = logSet A k D' := by
  unfold logSet
  refine Prod.ext (funext fun a => funext fun b => ?_) rfl
  show (if _ then _ else _) = if _ then _ else _
  by_cases h2 : a = 14 ∧ k * 32 ≤ b ∧ b < k * 32 + 32
  · rw [if_pos h2, if_pos h2, h _ (by omega)]
  · rw [if_neg h2, if_neg h2]
theorem dead_v {v : Nat} (hv : zV v) : dead v = false ∧ dead (latA v) = false ∧ latA v ≠ v ∧ latA v ≠ 14 ∧ v ≠ 14 := by
  rcases hv with rfl | rfl | rfl | rfl | rfl | rfl | rfl | rfl | rfl <;> exact ⟨rfl, rfl, by decide, by decide, by decide⟩
theorem nv_nz {M : zzMd} {v : Nat} (hv : zV v) : nv (nz M) v = nv M v := by unfold nv; rw [nz_1 (dead_v hv).1]
theorem nz_tk {M : zzMd} {v o k : Nat} (hv : zV v) : nz (tkIn M v o k) = tkIn (nz M) v o k := by
  obtain ⟨h1, h2, -⟩ := dead_v hv
  unfold tkIn
  rw [nz_sI h1, nz_sI h1, nz_sI h2, nv_nz hv]
/-- GONE objects have no owner -/
def dOw (D : Nat → Int32) : Nat → Int32 := if D 25 = 4 then dUp D 24 (-1) else D
def put (A : zzMd) (o : Nat) (D : Nat → Int32) : zzMd := tkIn (logSet A (ve A 1 + 1) D) 1 o (ve A 1 + 1)
/-- a write of a draft -/
def aWr (A : zzMd) (o : Nat) (D : Nat → Int32) : Bool × zzMd :=
  bif zall 32 fun s => decide (dOw D s = row A o s) then (true, A) else bif decide (400 ≤ ve A 1) then (false, A) else (true, put A o (dOw D))
theorem zIC_log {A : zzMd} {k : Nat} {D : Nat → Int32} : zIC (logSet A k D) ↔ zIC A := by
  have key : ∀ a b, a ≠ 14 → (logSet A k D).1 a b = A.1 a b := fun a b h => if_neg (fun h2 => h h2.1)
  have k2 : ∀ c b, (logSet A k D).1 (21 + 6 * c) b = A.1 (21 + 6 * c) b := fun c b => key _ _ (by omega)
  have k3 : ∀ c b, c < 8 → (logSet A k D).1 (3 + c) b = A.1 (3 + c) b := fun c b h => key _ _ (by omega)
  have k4 : ∀ c b, (logSet A k D).1 (22 + 6 * c) b = A.1 (22 + 6 * c) b := fun c b => key _ _ (by omega)
  unfold zIC
  refine and_congr Iff.rfl (and_congr Iff.rfl (forall_congr' fun c => forall_congr' fun hc => ?_))
  unfold zIV zIQ nv ve qn qk
  simp only [k2, k3 c _ hc, k4]
theorem zIC_nz {A : zzMd} : zIC (nz A) ↔ zIC A := by
  have k2 : ∀ c b, c < 8 → (nz A).1 (21 + 6 * c) b = A.1 (21 + 6 * c) b := fun c b h => nz_1 (by revert c; decide)
  have k3 : ∀ c b, c < 8 → (nz A).1 (3 + c) b = A.1 (3 + c) b := fun c b h => nz_1 (by revert c; decide)
  have k4 : ∀ c b, c < 8 → (nz A).1 (22 + 6 * c) b = A.1 (22 + 6 * c) b := fun c b h => nz_1 (by revert c; decide)
  unfold zIC
  refine and_congr Iff.rfl (and_congr Iff.rfl (forall_congr' fun c => forall_congr' fun hc => ?_))
  unfold zIV zIQ nv ve qn qk
  simp only [k2 c _ hc, k3 c _ hc, k4 c _ hc]
theorem tk_1 {A : zzMd} {v o k a b : Nat} : (tkIn A v o k).1 a b = if a = v ∧ b = 3 then zn k else if a = v ∧ b = 2 then zn (Nat.max (nv A v) (o + 1)) else if a = latA v ∧ b = o then zn k else A.1 a b := rfl
theorem zIV_tk {A : zzMd} {v o k : Nat} (hv : zV v) (ho : o < 60) (hk : k ≤ 400) (h : zIV A v (latA v)) : zIV (tkIn A v o k) v (latA v) := by
  obtain ⟨-, -, h3, -⟩ := dead_v hv
  obtain ⟨a1, ⟨a2, a3⟩, a4, a5⟩ := h
  have hm : Nat.max (nv A v) (o + 1) ≤ 60 := Nat.max_le.mpr ⟨a3, ho⟩
  have e2 : (tkIn A v o k).1 v 2 = zn (Nat.max (nv A v) (o + 1)) := by rw [tk_1, if_neg (by omega), if_pos ⟨rfl, rfl⟩]
  have e3 : (tkIn A v o k).1 v 3 = zn k := by rw [tk_1, if_pos ⟨rfl, rfl⟩]
  refine ⟨fun q hq => ?_, ?_, ?_⟩
  · rw [tk_1, if_neg (fun z => h3 z.1), if_neg (fun z => h3 z.1)]
    by_cases hqo : latA v = latA v ∧ q = o
    · rw [if_pos hqo, zn_ix (by omega)]; exact ⟨rfl, hk⟩
    · rw [if_neg hqo]; exact a1 q hq
  · unfold nv
    rw [e2, zn_ix (by omega)]
    exact ⟨rfl, hm⟩
  · unfold ve
    rw [e3, zn_ix (by omega)]
    exact ⟨rfl, hk⟩
theorem zIC_tk1 {A : zzMd} {o k : Nat} (ho : o < 60) (hk : k ≤ 400) (h : zIC A) : zIC (tkIn A 1 o k) := by
  have key : ∀ a b, a ≠ 1 → a ≠ 15 → (tkIn A 1 o k).1 a b = A.1 a b := fun a b h1 h2 => by
    rw [tk_1, if_neg (fun z => h1 z.1), if_neg (fun z => h1 z.1), if_neg (fun z => h2 z.1)]
  refine ⟨zIV_tk (Or.inl rfl) ho hk h.1, h.2.1, fun c hc => ?_⟩
  have k2 : ∀ b, (tkIn A 1 o k).1 (21 + 6 * c) b = A.1 (21 + 6 * c) b := fun b => key _ _ (by omega) (by omega)
  have k3 : ∀ b, (tkIn A 1 o k).1 (3 + c) b = A.1 (3 + c) b := fun b => key _ _ (by omega) (by omega)
  have k4 : ∀ b, (tkIn A 1 o k).1 (22 + 6 * c) b = A.1 (22 + 6 * c) b := fun b => key _ _ (by omega) (by omega)
  have := h.2.2 c hc
  unfold zIV zIQ nv ve qn qk at this ⊢
  simp only [k2, k3, k4]
  exact this
theorem zIC_put {A : zzMd} {o : Nat} {D : Nat → Int32} (ho : o < 60) (he : ve A 1 < 400) (h : zIC A) : zIC (put A o D) := zIC_tk1 ho (by omega) (zIC_log.mpr h)
theorem zIC_Wr {A : zzMd} {o : Nat} {D : Nat → Int32} (ho : o < 60) (h : zIC A) : zIC (aWr A o D).2 := by
  unfold aWr
  cases zall 32 fun s => decide (dOw D s = row A o s)
  · by_cases he : 400 ≤ ve A 1
    · rw [decide_eq_true he]; exact h
    · rw [decide_eq_false he]; exact zIC_put ho (by omega) h
  · exact h
theorem row_nz (M : zzMd) (o : Nat) : row (nz M) o = row M o := rfl
theorem ve_nz (M : zzMd) : ve (nz M) 1 = ve M 1 := rfl
theorem dOw_32 {D : Nat → Int32} {M : zzMd} : (if M.1 17 25 = 4 then dUp (M.1 17) 24 (-1) else M.1 17) = dOw (M.1 17) := rfl
theorem zIC_D {M : zzMd} {D : Nat → Int32} : zIC (setD M D) ↔ zIC M := by rw [← zIC_nz, nz_D, zIC_nz]
theorem zIC_A {M : zzMd} {D : Nat → Int32} : zIC (setA M D) ↔ zIC M := by rw [← zIC_nz, nz_A, zIC_nz]
theorem sp_writeD {M : zzMd} (W : zIC M) {o : Nat} (ho : o < 60) (D : Nat → Int32) (L : zzLc) (hL : L = [some (.ref 1), some (.int (zn o))]) :
    ∃ M', zz_ev tX9_write 19 L [] (setD M D) = some (.inl (some (.int (zb (zall 32 fun s => decide (D s = row M o s)) ||| zb (!decide (400 ≤ ve M 1))))), M') ∧
      nz M' = (bif zall 32 fun s => decide (D s = row M o s) then nz M else bif decide (400 ≤ ve M 1) then nz M else put (nz M) o D) := by
  subst hL
  have W' : zIC (setD M D) := zIC_D.mpr W
  have hl := sp_lat1 W' ho
  have hd := sp_isDraftAs (M := setD M D) (k := lv M o) (W.1.1 o ho).2
  have e1 : lv (setD M D) o = lv M o := rfl
  rw [e1] at hl
  have e2 : (zall 32 fun s => decide ((setD M D).1 17 s = (setD M D).1 14 (lv M o * 32 + s))) = zall 32 fun s => decide (D s = row M o s) := rfl
  rw [e2] at hd
  obtain ⟨-, -, hv, hv4⟩ := W.1
  have hv' : (setD M D).1 1 3 = zn (ve M 1) := hv
  cases hz : (zall 32 fun s => decide (D s = row M o s))
  · rw [hz] at hd
    by_cases he : 400 ≤ ve M 1
    · have c1 : (zn (ve M 1) < 400) = False := zn_lt (a := ve M 1) (b := 400) (by omega) (by decide) ▸ eq_false (by omega)
      refine ⟨setD M D, ?_, ?_⟩
      · (simp only [e_X9_write, zo_iload, zo_lload, zo_aload, zo_istore, zo_lstore, zo_astore, zo_iinc, zo_pushI, zo_pushL, zo_null, zo_ii, zo_iid, zo_ll, zo_li, zo_lcmp, zo_i2l, zo_l2i, zo_dup, zo_dup2, zo_pop, zo_goto, zo_if, zo_icmp, zo_ifnull, zo_gets, zo_mm, zo_throw, zo_ret, zo_aret, zo_lret, q_iret_f, q_iret_1, q_iret_0, q_iret_b, q_c8_0, q_c8_1, q_c8_2, q_c8_3, q_c8_4, q_set_0, q_set_1i, q_set_1r, q_set_1n, q_set_1N, q_set_s, q_set_1j, q_bk_v, q_bk_n, q_if, zb_ite, cond_true, cond_false, List.getElem?_cons_zero, List.getElem?_cons_succ, Nat.reduceAdd, hl, hd, hv', c1, he, if_true, if_false, zb_eq0, zb_eq1, zn_1, not_true_eq_false, not_false_eq_true, ite_true, ite_false, if_true, if_false, q_iret_0, q_iret_1, decide_true, decide_false, decide_not, zb_t, zb_f, z10, z01, cond_true, cond_false, Bool.and_true, Bool.true_and, Bool.and_false, Bool.false_and, Bool.not_true, Bool.not_false, true_and, and_true, false_and, and_false, true_or, or_true, false_or, or_false, Bool.true_eq_false, Bool.false_eq_true, eq_self, reduceCtorEq])
        rfl
      · rw [decide_eq_true he]; exact nz_D M D
    · have c1 : (zn (ve M 1) < 400) = True := zn_lt (a := ve M 1) (b := 400) (by omega) (by decide) ▸ eq_true (by omega)
      have x0 : zz_ix (zn ((ve M 1 + 1) * 32)) = (ve M 1 + 1) * 32 := zn_ix (by omega)
      have t0 : (zn ((ve M 1 + 1) * 32)).toInt = ((ve M 1 + 1) * 32 : Nat) := zn_toInt (by omega)
      have hq : (0 ≤ (0 : Int32).toInt ∧ 0 ≤ (zn ((ve M 1 + 1) * 32)).toInt ∧ 0 ≤ (32 : Int32).toInt ∧ 0 + 32 ≤ 32 ∧ (ve M 1 + 1) * 32 + 32 ≤ 12832) = True := eq_true (by
        rw [t0]
        refine ⟨by decide, by omega, by decide, by decide, by omega⟩)
      have Wc : zIC (zz_cpI (setD M D) 17 0 14 ((ve M 1 + 1) * 32) 32) := by
        rw [← zIC_nz, nz_log, zIC_log, zIC_nz]
        exact W'
      have ht := sp_takeIn (M := zz_cpI (setD M D) 17 0 14 ((ve M 1 + 1) * 32) 32) (zIC_1 Wc) ho (Nat.succ_le_succ (Nat.zero_le (ve M 1))) (show ve M 1 + 1 ≤ 400 by omega)
      have hv2 : (zz_cpI (setD M D) 17 0 14 ((ve M 1 + 1) * 32) 32).1 1 3 = zn (ve M 1) := hv
      refine ⟨tkIn (zz_cpI (setD M D) 17 0 14 ((ve M 1 + 1) * 32) 32) 1 o (ve M 1 + 1), ?_, ?_⟩
      · (simp only [e_X9_write, zo_iload, zo_lload, zo_aload, zo_istore, zo_lstore, zo_astore, zo_iinc, zo_pushI, zo_pushL, zo_null, zo_ii, zo_iid, zo_ll, zo_li, zo_lcmp, zo_i2l, zo_l2i, zo_dup, zo_dup2, zo_pop, zo_goto, zo_if, zo_icmp, zo_ifnull, zo_gets, zo_mm, zo_throw, zo_ret, zo_aret, zo_lret, q_iret_f, q_iret_1, q_iret_0, q_iret_b, q_c8_0, q_c8_1, q_c8_2, q_c8_3, q_c8_4, q_set_0, q_set_1i, q_set_1r, q_set_1n, q_set_1N, q_set_s, q_set_1j, q_bk_v, q_bk_n, q_if, zb_ite, cond_true, cond_false, List.getElem?_cons_zero, List.getElem?_cons_succ, Nat.reduceAdd, hl, hd, hv', c1, he, q_aC, q_ix, zn_x32, x0, hq, hv2, ht, if_true, if_false, zb_eq0, zb_eq1, zn_1, not_true_eq_false, not_false_eq_true, ite_true, ite_false, if_true, if_false, q_iret_0, q_iret_1, decide_true, decide_false, decide_not, zb_t, zb_f, z10, z01, cond_true, cond_false, Bool.and_true, Bool.true_and, Bool.and_false, Bool.false_and, Bool.not_true, Bool.not_false, true_and, and_true, false_and, and_false, true_or, or_true, false_or, or_false, Bool.true_eq_false, Bool.false_eq_true, eq_self, reduceCtorEq])
        rfl
      · rw [decide_eq_false he, nz_tk (Or.inl rfl), nz_log, nz_D]
        rfl
  · rw [hz] at hd
    refine ⟨setD M D, ?_, nz_D M D⟩
    (simp only [e_X9_write, zo_iload, zo_lload, zo_aload, zo_istore, zo_lstore, zo_astore, zo_iinc, zo_pushI, zo_pushL, zo_null, zo_ii, zo_iid, zo_ll, zo_li, zo_lcmp, zo_i2l, zo_l2i, zo_dup, zo_dup2, zo_pop, zo_goto, zo_if, zo_icmp, zo_ifnull, zo_gets, zo_mm, zo_throw, zo_ret, zo_aret, zo_lret, q_iret_f, q_iret_1, q_iret_0, q_iret_b, q_c8_0, q_c8_1, q_c8_2, q_c8_3, q_c8_4, q_set_0, q_set_1i, q_set_1r, q_set_1n, q_set_1N, q_set_s, q_set_1j, q_bk_v, q_bk_n, q_if, zb_ite, cond_true, cond_false, List.getElem?_cons_zero, List.getElem?_cons_succ, Nat.reduceAdd, hl, hd, if_true, if_false, zb_eq0, zb_eq1, zn_1, not_true_eq_false, not_false_eq_true, ite_true, ite_false, if_true, if_false, q_iret_0, q_iret_1, decide_true, decide_false, decide_not, zb_t, zb_f, z10, z01, cond_true, cond_false, Bool.and_true, Bool.true_and, Bool.and_false, Bool.false_and, Bool.not_true, Bool.not_false, true_and, and_true, false_and, and_false, true_or, or_true, false_or, or_false, Bool.true_eq_false, Bool.false_eq_true, eq_self, reduceCtorEq])
    cases decide (400 ≤ ve M 1) <;> rfl
theorem sp_write {M : zzMd} (W : zIC M) {o : Nat} (ho : o < 60) :
    ∃ M', fX9_write [.ref 1, .int (zn o)] M = some (.inl (some (.int (zb (aWr (nz M) o (M.1 17)).1))), M') ∧ nz M' = (aWr (nz M) o (M.1 17)).2 := by
  have h5 := sp_writeD W ho (dOw (M.1 17)) _ rfl
  have st : fX9_write [.ref 1, .int (zn o)] M = zz_ev tX9_write 19 [some (.ref 1), some (.int (zn o))] [] (setD M (dOw (M.1 17))) := by
    rw [s_X9_write]
    by_cases h : M.1 17 25 = 4
    · unfold dOw
      rw [if_pos h, ← setD_n]
      (simp only [e_X9_write, zo_iload, zo_lload, zo_aload, zo_istore, zo_lstore, zo_astore, zo_iinc, zo_pushI, zo_pushL, zo_null, zo_ii, zo_iid, zo_ll, zo_li, zo_lcmp, zo_i2l, zo_l2i, zo_dup, zo_dup2, zo_pop, zo_goto, zo_if, zo_icmp, zo_ifnull, zo_gets, zo_mm, zo_throw, zo_ret, zo_aret, zo_lret, q_iret_f, q_iret_1, q_iret_0, q_iret_b, q_c8_0, q_c8_1, q_c8_2, q_c8_3, q_c8_4, q_set_0, q_set_1i, q_set_1r, q_set_1n, q_set_1N, q_set_s, q_set_1j, q_bk_v, q_bk_n, q_if, zb_ite, cond_true, cond_false, List.getElem?_cons_zero, List.getElem?_cons_succ, Nat.reduceAdd, q_aC, q_ix, q_in, Nat.reduceLT, h, if_true, if_false, zb_eq0, zb_eq1, zn_1, not_true_eq_false, not_false_eq_true, ite_true, ite_false, if_true, if_false, q_iret_0, q_iret_1, decide_true, decide_false, decide_not, zb_t, zb_f, z10, z01, cond_true, cond_false, Bool.and_true, Bool.true_and, Bool.and_false, Bool.false_and, Bool.not_true, Bool.not_false, true_and, and_true, false_and, and_false, true_or, or_true, false_or, or_false, Bool.true_eq_false, Bool.false_eq_true, eq_self, reduceCtorEq])
    · unfold dOw
      rw [if_neg h, setD_0]
      (simp only [e_X9_write, zo_iload, zo_lload, zo_aload, zo_istore, zo_lstore, zo_astore, zo_iinc, zo_pushI, zo_pushL, zo_null, zo_ii, zo_iid, zo_ll, zo_li, zo_lcmp, zo_i2l, zo_l2i, zo_dup, zo_dup2, zo_pop, zo_goto, zo_if, zo_icmp, zo_ifnull, zo_gets, zo_mm, zo_throw, zo_ret, zo_aret, zo_lret, q_iret_f, q_iret_1, q_iret_0, q_iret_b, q_c8_0, q_c8_1, q_c8_2, q_c8_3, q_c8_4, q_set_0, q_set_1i, q_set_1r, q_set_1n, q_set_1N, q_set_s, q_set_1j, q_bk_v, q_bk_n, q_if, zb_ite, cond_true, cond_false, List.getElem?_cons_zero, List.getElem?_cons_succ, Nat.reduceAdd, q_aC, q_ix, q_in, Nat.reduceLT, h, if_true, if_false, zb_eq0, zb_eq1, zn_1, not_true_eq_false, not_false_eq_true, ite_true, ite_false, if_true, if_false, q_iret_0, q_iret_1, decide_true, decide_false, decide_not, zb_t, zb_f, z10, z01, cond_true, cond_false, Bool.and_true, Bool.true_and, Bool.and_false, Bool.false_and, Bool.not_true, Bool.not_false, true_and, and_true, false_and, and_false, true_or, or_true, false_or, or_false, Bool.true_eq_false, Bool.false_eq_true, eq_self, reduceCtorEq])
  rw [st]
  obtain ⟨M', h6, h7⟩ := h5
  refine ⟨M', ?_, ?_⟩
  · rw [h6]
    unfold aWr
    rw [row_nz, ve_nz]
    cases zall 32 fun s => decide (dOw (M.1 17) s = row M o s) <;> cases decide (400 ≤ ve M 1) <;> rfl
  · rw [h7]
    unfold aWr
    rw [row_nz, ve_nz]
    cases zall 32 fun s => decide (dOw (M.1 17) s = row M o s) <;> cases decide (400 ≤ ve M 1) <;> rfl
end

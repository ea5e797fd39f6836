section
/-! the controllers: failures, wishes -/
def delayOf (f : Int32) : Int32 := if f ≤ 0 then 1 else if f ≤ 1 then 2 else if f ≤ 2 then 4 else if f ≤ 3 then 8 else 16
def aFail (A : zzMd) (c o : Nat) : zzMd := zz_sI (zz_sI A (24 + 6 * c) o (A.1 (24 + 6 * c) o + 1)) (25 + 6 * c) o (A.1 1 7 + delayOf (A.1 (24 + 6 * c) o))
theorem sp_failTail (M : zzMd) {c : Nat} (hc : c < 8) {o : Nat} (ho : o < 60) (d z : Int32) :
    zz_ev tX2_noteFailure 30 [some (.ref (3 + c)), some (.int (zn o)), some (.int d), some (.int z)] [] M = some (.inl none, zz_sI (zz_sI M (24 + 6 * c) o (M.1 (24 + 6 * c) o + 1)) (25 + 6 * c) o (M.1 1 7 + d)) := by
  have b1 : zz_inb (zn o) 60 = true := zn_inT ho (by decide)
  have x1 : zz_ix (zn o) = o := zn_ix (by omega)
  have g : ∀ a x, (zz_sI M a o x).1 1 7 = if 1 = a ∧ 7 = o then x else M.1 1 7 := fun _ _ => rfl
  rcases zc8 hc with rfl | rfl | rfl | rfl | rfl | rfl | rfl | rfl <;> (simp only [Nat.reduceAdd, Nat.reduceMul, Nat.mul_zero, Nat.add_zero] at *; simp only [e_X2_noteFailure, zo_iload, zo_lload, zo_aload, zo_istore, zo_lstore, zo_astore, zo_iinc, zo_pushI, zo_pushL, zo_null, zo_ii, zo_iid, zo_ll, zo_li, zo_lcmp, zo_i2l, zo_l2i, zo_dup, zo_dup2, zo_pop, zo_goto, zo_if, zo_icmp, zo_ifnull, zo_gets, zo_mm, zo_throw, zo_ret, zo_aret, zo_lret, q_iret_f, q_iret_1, q_iret_0, q_iret_b, q_c8_0, q_c8_1, q_c8_2, q_c8_3, q_c8_4, q_set_0, q_set_1i, q_set_1r, q_set_1n, q_set_1N, q_set_s, q_set_1j, q_bk_v, q_bk_n, q_if, zb_ite, cond_true, cond_false, List.getElem?_cons_zero, List.getElem?_cons_succ, Nat.reduceAdd, b1, x1, q_aC, g, Nat.reduceEqDiff, if_true, if_false, zb_eq0, zb_eq1, zn_1, not_true_eq_false, not_false_eq_true, ite_true, ite_false, if_true, if_false, q_iret_0, q_iret_1, decide_true, decide_false, decide_not, zb_t, zb_f, z10, z01, cond_true, cond_false, Bool.and_true, Bool.true_and, Bool.and_false, Bool.false_and, Bool.not_true, Bool.not_false, true_and, and_true, false_and, and_false, true_or, or_true, false_or, or_false, Bool.true_eq_false, Bool.false_eq_true, eq_self, reduceCtorEq])
theorem sp_noteFailure (M : zzMd) {c : Nat} (hc : c < 8) {o : Nat} (ho : o < 60) : fX2_noteFailure [.ref (3 + c), .int (zn o)] M = some (.inl none, aFail M c o) := by
  have b1 : zz_inb (zn o) 60 = true := zn_inT ho (by decide)
  have x1 : zz_ix (zn o) = o := zn_ix (by omega)
  have ht := fun d z => sp_failTail M hc ho d z
  have st : fX2_noteFailure [.ref (3 + c), .int (zn o)] M = zz_ev tX2_noteFailure 4 [some (.ref (3 + c)), some (.int (zn o)), some (.int 1), some (.int 0)] [] M := by
    rw [s_X2_noteFailure]
    rcases zc8 hc with rfl | rfl | rfl | rfl | rfl | rfl | rfl | rfl <;> (simp only [Nat.reduceAdd, Nat.reduceMul, Nat.mul_zero, Nat.add_zero] at *; simp only [e_X2_noteFailure, zo_iload, zo_lload, zo_aload, zo_istore, zo_lstore, zo_astore, zo_iinc, zo_pushI, zo_pushL, zo_null, zo_ii, zo_iid, zo_ll, zo_li, zo_lcmp, zo_i2l, zo_l2i, zo_dup, zo_dup2, zo_pop, zo_goto, zo_if, zo_icmp, zo_ifnull, zo_gets, zo_mm, zo_throw, zo_ret, zo_aret, zo_lret, q_iret_f, q_iret_1, q_iret_0, q_iret_b, q_c8_0, q_c8_1, q_c8_2, q_c8_3, q_c8_4, q_set_0, q_set_1i, q_set_1r, q_set_1n, q_set_1N, q_set_s, q_set_1j, q_bk_v, q_bk_n, q_if, zb_ite, cond_true, cond_false, List.getElem?_cons_zero, List.getElem?_cons_succ, Nat.reduceAdd, if_true, if_false, zb_eq0, zb_eq1, zn_1, not_true_eq_false, not_false_eq_true, ite_true, ite_false, if_true, if_false, q_iret_0, q_iret_1, decide_true, decide_false, decide_not, zb_t, zb_f, z10, z01, cond_true, cond_false, Bool.and_true, Bool.true_and, Bool.and_false, Bool.false_and, Bool.not_true, Bool.not_false, true_and, and_true, false_and, and_false, true_or, or_true, false_or, or_false, Bool.true_eq_false, Bool.false_eq_true, eq_self, reduceCtorEq])
  have step : ∀ d z : Int32, ¬ M.1 (24 + 6 * c) o ≤ z → ¬ 16 ≤ d → zz_ev tX2_noteFailure 4 [some (.ref (3 + c)), some (.int (zn o)), some (.int d), some (.int z)] [] M = zz_ev tX2_noteFailure 4 [some (.ref (3 + c)), some (.int (zn o)), some (.int (d * 2)), some (.int (z + 1))] [] M := fun d z h1 h2 => by
    clear ht st
    rcases zc8 hc with rfl | rfl | rfl | rfl | rfl | rfl | rfl | rfl <;> (rw [e_X2_noteFailure_4]; (simp only [Nat.reduceAdd, Nat.reduceMul, Nat.mul_zero, Nat.add_zero] at *; simp only [e_X2_noteFailure, zo_iload, zo_lload, zo_aload, zo_istore, zo_lstore, zo_astore, zo_iinc, zo_pushI, zo_pushL, zo_null, zo_ii, zo_iid, zo_ll, zo_li, zo_lcmp, zo_i2l, zo_l2i, zo_dup, zo_dup2, zo_pop, zo_goto, zo_if, zo_icmp, zo_ifnull, zo_gets, zo_mm, zo_throw, zo_ret, zo_aret, zo_lret, q_iret_f, q_iret_1, q_iret_0, q_iret_b, q_c8_0, q_c8_1, q_c8_2, q_c8_3, q_c8_4, q_set_0, q_set_1i, q_set_1r, q_set_1n, q_set_1N, q_set_s, q_set_1j, q_bk_v, q_bk_n, q_if, zb_ite, cond_true, cond_false, List.getElem?_cons_zero, List.getElem?_cons_succ, Nat.reduceAdd, b1, x1, q_aC, h1, h2, if_true, if_false, zb_eq0, zb_eq1, zn_1, not_true_eq_false, not_false_eq_true, ite_true, ite_false, if_true, if_false, q_iret_0, q_iret_1, decide_true, decide_false, decide_not, zb_t, zb_f, z10, z01, cond_true, cond_false, Bool.and_true, Bool.true_and, Bool.and_false, Bool.false_and, Bool.not_true, Bool.not_false, true_and, and_true, false_and, and_false, true_or, or_true, false_or, or_false, Bool.true_eq_false, Bool.false_eq_true, eq_self, reduceCtorEq]))
  have fin1 : ∀ d z : Int32, M.1 (24 + 6 * c) o ≤ z → zz_ev tX2_noteFailure 4 [some (.ref (3 + c)), some (.int (zn o)), some (.int d), some (.int z)] [] M = zz_ev tX2_noteFailure 30 [some (.ref (3 + c)), some (.int (zn o)), some (.int d), some (.int z)] [] M := fun d z h1 => by
    clear st step
    rw [ht]
    rcases zc8 hc with rfl | rfl | rfl | rfl | rfl | rfl | rfl | rfl <;> (rw [e_X2_noteFailure_4]; (simp only [Nat.reduceAdd, Nat.reduceMul, Nat.mul_zero, Nat.add_zero] at *; simp only [e_X2_noteFailure, zo_iload, zo_lload, zo_aload, zo_istore, zo_lstore, zo_astore, zo_iinc, zo_pushI, zo_pushL, zo_null, zo_ii, zo_iid, zo_ll, zo_li, zo_lcmp, zo_i2l, zo_l2i, zo_dup, zo_dup2, zo_pop, zo_goto, zo_if, zo_icmp, zo_ifnull, zo_gets, zo_mm, zo_throw, zo_ret, zo_aret, zo_lret, q_iret_f, q_iret_1, q_iret_0, q_iret_b, q_c8_0, q_c8_1, q_c8_2, q_c8_3, q_c8_4, q_set_0, q_set_1i, q_set_1r, q_set_1n, q_set_1N, q_set_s, q_set_1j, q_bk_v, q_bk_n, q_if, zb_ite, cond_true, cond_false, List.getElem?_cons_zero, List.getElem?_cons_succ, Nat.reduceAdd, ↓ht, b1, x1, q_aC, h1, if_true, if_false, zb_eq0, zb_eq1, zn_1, not_true_eq_false, not_false_eq_true, ite_true, ite_false, if_true, if_false, q_iret_0, q_iret_1, decide_true, decide_false, decide_not, zb_t, zb_f, z10, z01, cond_true, cond_false, Bool.and_true, Bool.true_and, Bool.and_false, Bool.false_and, Bool.not_true, Bool.not_false, true_and, and_true, false_and, and_false, true_or, or_true, false_or, or_false, Bool.true_eq_false, Bool.false_eq_true, eq_self, reduceCtorEq]))
  have fin2 : ∀ z : Int32, ¬ M.1 (24 + 6 * c) o ≤ z → zz_ev tX2_noteFailure 4 [some (.ref (3 + c)), some (.int (zn o)), some (.int 16), some (.int z)] [] M = zz_ev tX2_noteFailure 30 [some (.ref (3 + c)), some (.int (zn o)), some (.int 16), some (.int z)] [] M := fun z h1 => by
    clear st step fin1
    have h2 : ((16 : Int32) ≤ 16) = True := eq_true (by decide)
    rw [ht]
    rcases zc8 hc with rfl | rfl | rfl | rfl | rfl | rfl | rfl | rfl <;> (rw [e_X2_noteFailure_4]; (simp only [Nat.reduceAdd, Nat.reduceMul, Nat.mul_zero, Nat.add_zero] at *; simp only [e_X2_noteFailure, zo_iload, zo_lload, zo_aload, zo_istore, zo_lstore, zo_astore, zo_iinc, zo_pushI, zo_pushL, zo_null, zo_ii, zo_iid, zo_ll, zo_li, zo_lcmp, zo_i2l, zo_l2i, zo_dup, zo_dup2, zo_pop, zo_goto, zo_if, zo_icmp, zo_ifnull, zo_gets, zo_mm, zo_throw, zo_ret, zo_aret, zo_lret, q_iret_f, q_iret_1, q_iret_0, q_iret_b, q_c8_0, q_c8_1, q_c8_2, q_c8_3, q_c8_4, q_set_0, q_set_1i, q_set_1r, q_set_1n, q_set_1N, q_set_s, q_set_1j, q_bk_v, q_bk_n, q_if, zb_ite, cond_true, cond_false, List.getElem?_cons_zero, List.getElem?_cons_succ, Nat.reduceAdd, ↓ht, b1, x1, q_aC, h1, h2, if_true, if_false, zb_eq0, zb_eq1, zn_1, not_true_eq_false, not_false_eq_true, ite_true, ite_false, if_true, if_false, q_iret_0, q_iret_1, decide_true, decide_false, decide_not, zb_t, zb_f, z10, z01, cond_true, cond_false, Bool.and_true, Bool.true_and, Bool.and_false, Bool.false_and, Bool.not_true, Bool.not_false, true_and, and_true, false_and, and_false, true_or, or_true, false_or, or_false, Bool.true_eq_false, Bool.false_eq_true, eq_self, reduceCtorEq]))
  have m1 : (1 : Int32) * 2 = 2 := rfl
  have m2 : (2 : Int32) * 2 = 4 := rfl
  have m4 : (4 : Int32) * 2 = 8 := rfl
  have m8 : (8 : Int32) * 2 = 16 := rfl
  have n0 : (0 : Int32) + 1 = 1 := rfl
  have n1 : (1 : Int32) + 1 = 2 := rfl
  have n2 : (2 : Int32) + 1 = 3 := rfl
  have n3 : (3 : Int32) + 1 = 4 := rfl
  rw [st]
  unfold aFail delayOf
  by_cases c0 : M.1 (24 + 6 * c) o ≤ 0
  · rw [if_pos c0, fin1 _ _ c0, ht]
  rw [if_neg c0, step _ _ c0 (by decide), m1, n0]
  by_cases c1 : M.1 (24 + 6 * c) o ≤ 1
  · rw [if_pos c1, fin1 _ _ c1, ht]
  rw [if_neg c1, step _ _ c1 (by decide), m2, n1]
  by_cases c2 : M.1 (24 + 6 * c) o ≤ 2
  · rw [if_pos c2, fin1 _ _ c2, ht]
  rw [if_neg c2, step _ _ c2 (by decide), m4, n2]
  by_cases c3 : M.1 (24 + 6 * c) o ≤ 3
  · rw [if_pos c3, fin1 _ _ c3, ht]
  rw [if_neg c3, step _ _ c3 (by decide), m8, n3]
  by_cases c4 : M.1 (24 + 6 * c) o ≤ 4
  · rw [fin1 _ _ c4, ht]
  · rw [fin2 _ c4, ht]
/-- whether a controller has seen an object's latest version -/
def utd (A : zzMd) (c o : Nat) : Bool := decide (A.1 (21 + 6 * c) o = A.1 15 o)
theorem sp_lat {M : zzMd} (W : zIC M) {c : Nat} (hc : c < 8) {o : Nat} (ho : o < 60) : fX10_latestOf [.ref (3 + c), .int (zn o)] M = some (.inl (some (.int (M.1 (21 + 6 * c) o))), M) := by
  rw [sp_latestOf (zIC_W (zcV hc) W), if_neg (fun z => z.elim (zn_lt0 (by omega)).mp (zo_60 ho).mp), zcL hc, zn_ix (by omega)]
theorem sp_latS {M : zzMd} (W : zIC M) {o : Nat} (ho : o < 60) : fX10_latestOf [.ref 1, .int (zn o)] M = some (.inl (some (.int (M.1 15 o))), M) := by
  rw [sp_latestOf (zIC_1 W), if_neg (fun z => z.elim (zn_lt0 (by omega)).mp (zo_60 ho).mp), zn_ix (by omega)]
  rfl
theorem sp_isUpToDate {M : zzMd} (W : zIC M) {c : Nat} (hc : c < 8) {o : Nat} (ho : o < 60) : fX2_isUpToDate [.ref (3 + c), .int (zn o)] M = some (.inl (some (.int (zb (utd M c o)))), M) := by
  have h1 := sp_lat W hc ho
  have h2 := sp_latS W ho
  rw [s_X2_isUpToDate]
  unfold utd
  clear W
  by_cases h3 : M.1 (21 + 6 * c) o = M.1 15 o
  · rw [decide_eq_true h3]
    rw [h3] at h1
    clear h3
    rcases zc8 hc with rfl | rfl | rfl | rfl | rfl | rfl | rfl | rfl <;> (simp only [Nat.reduceAdd, Nat.reduceMul, Nat.mul_zero, Nat.add_zero] at *; simp only [e_X2_isUpToDate, zo_iload, zo_lload, zo_aload, zo_istore, zo_lstore, zo_astore, zo_iinc, zo_pushI, zo_pushL, zo_null, zo_ii, zo_iid, zo_ll, zo_li, zo_lcmp, zo_i2l, zo_l2i, zo_dup, zo_dup2, zo_pop, zo_goto, zo_if, zo_icmp, zo_ifnull, zo_gets, zo_mm, zo_throw, zo_ret, zo_aret, zo_lret, q_iret_f, q_iret_1, q_iret_0, q_iret_b, q_c8_0, q_c8_1, q_c8_2, q_c8_3, q_c8_4, q_set_0, q_set_1i, q_set_1r, q_set_1n, q_set_1N, q_set_s, q_set_1j, q_bk_v, q_bk_n, q_if, zb_ite, cond_true, cond_false, List.getElem?_cons_zero, List.getElem?_cons_succ, Nat.reduceAdd, h1, h2, if_true, if_false, zb_eq0, zb_eq1, zn_1, not_true_eq_false, not_false_eq_true, ite_true, ite_false, if_true, if_false, q_iret_0, q_iret_1, decide_true, decide_false, decide_not, zb_t, zb_f, z10, z01, cond_true, cond_false, Bool.and_true, Bool.true_and, Bool.and_false, Bool.false_and, Bool.not_true, Bool.not_false, true_and, and_true, false_and, and_false, true_or, or_true, false_or, or_false, Bool.true_eq_false, Bool.false_eq_true, eq_self, reduceCtorEq])
  · rw [decide_eq_false h3]
    rcases zc8 hc with rfl | rfl | rfl | rfl | rfl | rfl | rfl | rfl <;> (simp only [Nat.reduceAdd, Nat.reduceMul, Nat.mul_zero, Nat.add_zero] at *; simp only [e_X2_isUpToDate, zo_iload, zo_lload, zo_aload, zo_istore, zo_lstore, zo_astore, zo_iinc, zo_pushI, zo_pushL, zo_null, zo_ii, zo_iid, zo_ll, zo_li, zo_lcmp, zo_i2l, zo_l2i, zo_dup, zo_dup2, zo_pop, zo_goto, zo_if, zo_icmp, zo_ifnull, zo_gets, zo_mm, zo_throw, zo_ret, zo_aret, zo_lret, q_iret_f, q_iret_1, q_iret_0, q_iret_b, q_c8_0, q_c8_1, q_c8_2, q_c8_3, q_c8_4, q_set_0, q_set_1i, q_set_1r, q_set_1n, q_set_1N, q_set_s, q_set_1j, q_bk_v, q_bk_n, q_if, zb_ite, cond_true, cond_false, List.getElem?_cons_zero, List.getElem?_cons_succ, Nat.reduceAdd, h1, h2, h3, if_true, if_false, zb_eq0, zb_eq1, zn_1, not_true_eq_false, not_false_eq_true, ite_true, ite_false, if_true, if_false, q_iret_0, q_iret_1, decide_true, decide_false, decide_not, zb_t, zb_f, z10, z01, cond_true, cond_false, Bool.and_true, Bool.true_and, Bool.and_false, Bool.false_and, Bool.not_true, Bool.not_false, true_and, and_true, false_and, and_false, true_or, or_true, false_or, or_false, Bool.true_eq_false, Bool.false_eq_true, eq_self, reduceCtorEq])
theorem utd_nz {M : zzMd} {c : Nat} (hc : c < 8) (o : Nat) : utd (nz M) c o = utd M c o := by
  unfold utd
  rw [nz_1 (cdead hc).2.1, nz_1 (a := 15) rfl]
def oc (b : Bool) : Int32 := bif b then 1 else 3
theorem sp_outcomeOf (b : Bool) (M : zzMd) : fX2_outcomeOf [.int (zb b)] M = some (.inl (some (.int (oc b))), M) := by
  rw [s_X2_outcomeOf]
  cases b <;> (simp only [e_X2_outcomeOf, zo_iload, zo_lload, zo_aload, zo_istore, zo_lstore, zo_astore, zo_iinc, zo_pushI, zo_pushL, zo_null, zo_ii, zo_iid, zo_ll, zo_li, zo_lcmp, zo_i2l, zo_l2i, zo_dup, zo_dup2, zo_pop, zo_goto, zo_if, zo_icmp, zo_ifnull, zo_gets, zo_mm, zo_throw, zo_ret, zo_aret, zo_lret, q_iret_f, q_iret_1, q_iret_0, q_iret_b, q_c8_0, q_c8_1, q_c8_2, q_c8_3, q_c8_4, q_set_0, q_set_1i, q_set_1r, q_set_1n, q_set_1N, q_set_s, q_set_1j, q_bk_v, q_bk_n, q_if, zb_ite, cond_true, cond_false, List.getElem?_cons_zero, List.getElem?_cons_succ, Nat.reduceAdd, oc, if_true, if_false, zb_eq0, zb_eq1, zn_1, not_true_eq_false, not_false_eq_true, ite_true, ite_false, if_true, if_false, q_iret_0, q_iret_1, decide_true, decide_false, decide_not, zb_t, zb_f, z10, z01, cond_true, cond_false, Bool.and_true, Bool.true_and, Bool.and_false, Bool.false_and, Bool.not_true, Bool.not_false, true_and, and_true, false_and, and_false, true_or, or_true, false_or, or_false, Bool.true_eq_false, Bool.false_eq_true, eq_self, reduceCtorEq])
def aWant (A : zzMd) (c o : Nat) (x : Int32) : Bool × zzMd := bif decide (rd A (3 + c) (zn o) 0 = x) then (true, A) else bif utd A c o then aAp A 4 o 0 x else (false, A)
def aSet (A : zzMd) (c o k : Nat) (x : Int32) : Bool × zzMd := bif decide (rd A (3 + c) (zn o) (zn k) = x) then (true, A) else bif utd A c o then aCh A o k x else (false, A)
def aRem (A : zzMd) (c o : Nat) : Bool × zzMd := bif utd A c o then aGo A o 2 else (false, A)
def aMk (A : zzMd) (c o : Nat) (k : Int32) : Bool × zzMd := (!decide ((aOpen A 4 k (zn o) (rd A (3 + c) (zn o) 1)).1 = -1), (aOpen A 4 k (zn o) (rd A (3 + c) (zn o) 1)).2)
theorem sp_want {M : zzMd} (W : zIC M) {c : Nat} (hc : c < 8) {o : Nat} (ho : o < 60) (x : Int32) :
    ∃ M', fX2_want [.ref (3 + c), .int (zn o), .int x] M = some (.inl (some (.int (zb (aWant (nz M) c o x).1))), M') ∧ nz M' = (aWant (nz M) c o x).2 := by
  have hr := sp_read' (zIC_W (zcV hc) W) (zn o) 0
  have hu := sp_isUpToDate W hc ho
  obtain ⟨M', a1, a2⟩ := sp_applyField W ho 4 0 x
  unfold aWant
  rw [rd_nz (zcV hc), utd_nz hc, s_X2_want]
  by_cases h1 : rd M (3 + c) (zn o) 0 = x
  · rw [decide_eq_true h1, cond_true]
    rw [h1] at hr
    refine ⟨M, ?_, rfl⟩
    clear W h1 a1 hu
    rcases zc8 hc with rfl | rfl | rfl | rfl | rfl | rfl | rfl | rfl <;> (simp only [Nat.reduceAdd, Nat.reduceMul, Nat.mul_zero, Nat.add_zero] at *; simp only [e_X2_want, zo_iload, zo_lload, zo_aload, zo_istore, zo_lstore, zo_astore, zo_iinc, zo_pushI, zo_pushL, zo_null, zo_ii, zo_iid, zo_ll, zo_li, zo_lcmp, zo_i2l, zo_l2i, zo_dup, zo_dup2, zo_pop, zo_goto, zo_if, zo_icmp, zo_ifnull, zo_gets, zo_mm, zo_throw, zo_ret, zo_aret, zo_lret, q_iret_f, q_iret_1, q_iret_0, q_iret_b, q_c8_0, q_c8_1, q_c8_2, q_c8_3, q_c8_4, q_set_0, q_set_1i, q_set_1r, q_set_1n, q_set_1N, q_set_s, q_set_1j, q_bk_v, q_bk_n, q_if, zb_ite, cond_true, cond_false, List.getElem?_cons_zero, List.getElem?_cons_succ, Nat.reduceAdd, hr, if_true, if_false, zb_eq0, zb_eq1, zn_1, not_true_eq_false, not_false_eq_true, ite_true, ite_false, if_true, if_false, q_iret_0, q_iret_1, decide_true, decide_false, decide_not, zb_t, zb_f, z10, z01, cond_true, cond_false, Bool.and_true, Bool.true_and, Bool.and_false, Bool.false_and, Bool.not_true, Bool.not_false, true_and, and_true, false_and, and_false, true_or, or_true, false_or, or_false, Bool.true_eq_false, Bool.false_eq_true, eq_self, reduceCtorEq])
  · rw [decide_eq_false h1, cond_false]
    generalize rd M (3 + c) (zn o) 0 = y at hr h1
    cases h2 : utd M c o
    · rw [h2] at hu
      rw [cond_false]
      refine ⟨M, ?_, rfl⟩
      clear W a1
      rcases zc8 hc with rfl | rfl | rfl | rfl | rfl | rfl | rfl | rfl <;> (simp only [Nat.reduceAdd, Nat.reduceMul, Nat.mul_zero, Nat.add_zero] at *; simp only [e_X2_want, zo_iload, zo_lload, zo_aload, zo_istore, zo_lstore, zo_astore, zo_iinc, zo_pushI, zo_pushL, zo_null, zo_ii, zo_iid, zo_ll, zo_li, zo_lcmp, zo_i2l, zo_l2i, zo_dup, zo_dup2, zo_pop, zo_goto, zo_if, zo_icmp, zo_ifnull, zo_gets, zo_mm, zo_throw, zo_ret, zo_aret, zo_lret, q_iret_f, q_iret_1, q_iret_0, q_iret_b, q_c8_0, q_c8_1, q_c8_2, q_c8_3, q_c8_4, q_set_0, q_set_1i, q_set_1r, q_set_1n, q_set_1N, q_set_s, q_set_1j, q_bk_v, q_bk_n, q_if, zb_ite, cond_true, cond_false, List.getElem?_cons_zero, List.getElem?_cons_succ, Nat.reduceAdd, hr, h1, hu, if_true, if_false, zb_eq0, zb_eq1, zn_1, not_true_eq_false, not_false_eq_true, ite_true, ite_false, if_true, if_false, q_iret_0, q_iret_1, decide_true, decide_false, decide_not, zb_t, zb_f, z10, z01, cond_true, cond_false, Bool.and_true, Bool.true_and, Bool.and_false, Bool.false_and, Bool.not_true, Bool.not_false, true_and, and_true, false_and, and_false, true_or, or_true, false_or, or_false, Bool.true_eq_false, Bool.false_eq_true, eq_self, reduceCtorEq])
    · rw [h2] at hu
      rw [cond_true]
      refine ⟨M', ?_, a2⟩
      generalize (aAp (nz M) 4 o 0 x).1 = b at a1 ⊢
      clear W a2
      cases b <;> rcases zc8 hc with rfl | rfl | rfl | rfl | rfl | rfl | rfl | rfl <;> (simp only [Nat.reduceAdd, Nat.reduceMul, Nat.mul_zero, Nat.add_zero] at *; simp only [e_X2_want, zo_iload, zo_lload, zo_aload, zo_istore, zo_lstore, zo_astore, zo_iinc, zo_pushI, zo_pushL, zo_null, zo_ii, zo_iid, zo_ll, zo_li, zo_lcmp, zo_i2l, zo_l2i, zo_dup, zo_dup2, zo_pop, zo_goto, zo_if, zo_icmp, zo_ifnull, zo_gets, zo_mm, zo_throw, zo_ret, zo_aret, zo_lret, q_iret_f, q_iret_1, q_iret_0, q_iret_b, q_c8_0, q_c8_1, q_c8_2, q_c8_3, q_c8_4, q_set_0, q_set_1i, q_set_1r, q_set_1n, q_set_1N, q_set_s, q_set_1j, q_bk_v, q_bk_n, q_if, zb_ite, cond_true, cond_false, List.getElem?_cons_zero, List.getElem?_cons_succ, Nat.reduceAdd, hr, h1, hu, a1, if_true, if_false, zb_eq0, zb_eq1, zn_1, not_true_eq_false, not_false_eq_true, ite_true, ite_false, if_true, if_false, q_iret_0, q_iret_1, decide_true, decide_false, decide_not, zb_t, zb_f, z10, z01, cond_true, cond_false, Bool.and_true, Bool.true_and, Bool.and_false, Bool.false_and, Bool.not_true, Bool.not_false, true_and, and_true, false_and, and_false, true_or, or_true, false_or, or_false, Bool.true_eq_false, Bool.false_eq_true, eq_self, reduceCtorEq])
theorem sp_set {M : zzMd} (W : zIC M) {c : Nat} (hc : c < 8) {o : Nat} (ho : o < 60) {k : Nat} (hk : k < 32) (x : Int32) (h1 : rd M (3 + c) (zn o) (zn k) ≠ x) :
    ∃ M', fX2_set [.ref (3 + c), .int (zn o), .int (zn k), .int x] M = some (.inl (some (.int (zb (aSet (nz M) c o k x).1))), M') ∧ nz M' = (aSet (nz M) c o k x).2 := by
  have hu := sp_isUpToDate W hc ho
  obtain ⟨M', a1, a2⟩ := sp_change W ho hk x
  unfold aSet
  rw [rd_nz (zcV hc), utd_nz hc, s_X2_set]
  rw [decide_eq_false h1, cond_false]
  clear h1
  cases h2 : utd M c o
  · rw [h2] at hu
    rw [cond_false]
    refine ⟨M, ?_, rfl⟩
    clear W a1
    rcases zc8 hc with rfl | rfl | rfl | rfl | rfl | rfl | rfl | rfl <;> (simp only [Nat.reduceAdd, Nat.reduceMul, Nat.mul_zero, Nat.add_zero] at *; simp only [e_X2_set, zo_iload, zo_lload, zo_aload, zo_istore, zo_lstore, zo_astore, zo_iinc, zo_pushI, zo_pushL, zo_null, zo_ii, zo_iid, zo_ll, zo_li, zo_lcmp, zo_i2l, zo_l2i, zo_dup, zo_dup2, zo_pop, zo_goto, zo_if, zo_icmp, zo_ifnull, zo_gets, zo_mm, zo_throw, zo_ret, zo_aret, zo_lret, q_iret_f, q_iret_1, q_iret_0, q_iret_b, q_c8_0, q_c8_1, q_c8_2, q_c8_3, q_c8_4, q_set_0, q_set_1i, q_set_1r, q_set_1n, q_set_1N, q_set_s, q_set_1j, q_bk_v, q_bk_n, q_if, zb_ite, cond_true, cond_false, List.getElem?_cons_zero, List.getElem?_cons_succ, Nat.reduceAdd, hu, if_true, if_false, zb_eq0, zb_eq1, zn_1, not_true_eq_false, not_false_eq_true, ite_true, ite_false, if_true, if_false, q_iret_0, q_iret_1, decide_true, decide_false, decide_not, zb_t, zb_f, z10, z01, cond_true, cond_false, Bool.and_true, Bool.true_and, Bool.and_false, Bool.false_and, Bool.not_true, Bool.not_false, true_and, and_true, false_and, and_false, true_or, or_true, false_or, or_false, Bool.true_eq_false, Bool.false_eq_true, eq_self, reduceCtorEq])
  · rw [h2] at hu
    rw [cond_true]
    refine ⟨M', ?_, a2⟩
    generalize (aCh (nz M) o k x).1 = b at a1 ⊢
    clear W a2
    cases b <;> rcases zc8 hc with rfl | rfl | rfl | rfl | rfl | rfl | rfl | rfl <;> (simp only [Nat.reduceAdd, Nat.reduceMul, Nat.mul_zero, Nat.add_zero] at *; simp only [e_X2_set, zo_iload, zo_lload, zo_aload, zo_istore, zo_lstore, zo_astore, zo_iinc, zo_pushI, zo_pushL, zo_null, zo_ii, zo_iid, zo_ll, zo_li, zo_lcmp, zo_i2l, zo_l2i, zo_dup, zo_dup2, zo_pop, zo_goto, zo_if, zo_icmp, zo_ifnull, zo_gets, zo_mm, zo_throw, zo_ret, zo_aret, zo_lret, q_iret_f, q_iret_1, q_iret_0, q_iret_b, q_c8_0, q_c8_1, q_c8_2, q_c8_3, q_c8_4, q_set_0, q_set_1i, q_set_1r, q_set_1n, q_set_1N, q_set_s, q_set_1j, q_bk_v, q_bk_n, q_if, zb_ite, cond_true, cond_false, List.getElem?_cons_zero, List.getElem?_cons_succ, Nat.reduceAdd, hu, a1, if_true, if_false, zb_eq0, zb_eq1, zn_1, not_true_eq_false, not_false_eq_true, ite_true, ite_false, if_true, if_false, q_iret_0, q_iret_1, decide_true, decide_false, decide_not, zb_t, zb_f, z10, z01, cond_true, cond_false, Bool.and_true, Bool.true_and, Bool.and_false, Bool.false_and, Bool.not_true, Bool.not_false, true_and, and_true, false_and, and_false, true_or, or_true, false_or, or_false, Bool.true_eq_false, Bool.false_eq_true, eq_self, reduceCtorEq])
theorem sp_remove {M : zzMd} (W : zIC M) {c : Nat} (hc : c < 8) {o : Nat} (ho : o < 60) :
    ∃ M', fX2_remove [.ref (3 + c), .int (zn o)] M = some (.inl (some (.int (zb (aRem (nz M) c o).1))), M') ∧ nz M' = (aRem (nz M) c o).2 := by
  have hu := sp_isUpToDate W hc ho
  obtain ⟨M', a1, a2⟩ := sp_startGoing W ho 2
  unfold aRem
  rw [utd_nz hc, s_X2_remove]
  cases h2 : utd M c o
  · rw [h2] at hu
    rw [cond_false]
    refine ⟨M, ?_, rfl⟩
    clear W a1
    rcases zc8 hc with rfl | rfl | rfl | rfl | rfl | rfl | rfl | rfl <;> (simp only [Nat.reduceAdd, Nat.reduceMul, Nat.mul_zero, Nat.add_zero] at *; simp only [e_X2_remove, zo_iload, zo_lload, zo_aload, zo_istore, zo_lstore, zo_astore, zo_iinc, zo_pushI, zo_pushL, zo_null, zo_ii, zo_iid, zo_ll, zo_li, zo_lcmp, zo_i2l, zo_l2i, zo_dup, zo_dup2, zo_pop, zo_goto, zo_if, zo_icmp, zo_ifnull, zo_gets, zo_mm, zo_throw, zo_ret, zo_aret, zo_lret, q_iret_f, q_iret_1, q_iret_0, q_iret_b, q_c8_0, q_c8_1, q_c8_2, q_c8_3, q_c8_4, q_set_0, q_set_1i, q_set_1r, q_set_1n, q_set_1N, q_set_s, q_set_1j, q_bk_v, q_bk_n, q_if, zb_ite, cond_true, cond_false, List.getElem?_cons_zero, List.getElem?_cons_succ, Nat.reduceAdd, hu, if_true, if_false, zb_eq0, zb_eq1, zn_1, not_true_eq_false, not_false_eq_true, ite_true, ite_false, if_true, if_false, q_iret_0, q_iret_1, decide_true, decide_false, decide_not, zb_t, zb_f, z10, z01, cond_true, cond_false, Bool.and_true, Bool.true_and, Bool.and_false, Bool.false_and, Bool.not_true, Bool.not_false, true_and, and_true, false_and, and_false, true_or, or_true, false_or, or_false, Bool.true_eq_false, Bool.false_eq_true, eq_self, reduceCtorEq])
  · rw [h2] at hu
    rw [cond_true]
    refine ⟨M', ?_, a2⟩
    generalize (aGo (nz M) o 2).1 = b at a1 ⊢
    clear W a2
    cases b <;> rcases zc8 hc with rfl | rfl | rfl | rfl | rfl | rfl | rfl | rfl <;> (simp only [Nat.reduceAdd, Nat.reduceMul, Nat.mul_zero, Nat.add_zero] at *; simp only [e_X2_remove, zo_iload, zo_lload, zo_aload, zo_istore, zo_lstore, zo_astore, zo_iinc, zo_pushI, zo_pushL, zo_null, zo_ii, zo_iid, zo_ll, zo_li, zo_lcmp, zo_i2l, zo_l2i, zo_dup, zo_dup2, zo_pop, zo_goto, zo_if, zo_icmp, zo_ifnull, zo_gets, zo_mm, zo_throw, zo_ret, zo_aret, zo_lret, q_iret_f, q_iret_1, q_iret_0, q_iret_b, q_c8_0, q_c8_1, q_c8_2, q_c8_3, q_c8_4, q_set_0, q_set_1i, q_set_1r, q_set_1n, q_set_1N, q_set_s, q_set_1j, q_bk_v, q_bk_n, q_if, zb_ite, cond_true, cond_false, List.getElem?_cons_zero, List.getElem?_cons_succ, Nat.reduceAdd, hu, a1, if_true, if_false, zb_eq0, zb_eq1, zn_1, not_true_eq_false, not_false_eq_true, ite_true, ite_false, if_true, if_false, q_iret_0, q_iret_1, decide_true, decide_false, decide_not, zb_t, zb_f, z10, z01, cond_true, cond_false, Bool.and_true, Bool.true_and, Bool.and_false, Bool.false_and, Bool.not_true, Bool.not_false, true_and, and_true, false_and, and_false, true_or, or_true, false_or, or_false, Bool.true_eq_false, Bool.false_eq_true, eq_self, reduceCtorEq])
theorem sp_makeFor {M : zzMd} (W : zIC M) {c : Nat} (hc : c < 8) (o : Nat) (k : Int32) :
    ∃ M', fX2_makeFor [.ref (3 + c), .int (zn o), .int k] M = some (.inl (some (.int (zb (aMk (nz M) c o k).1))), M') ∧ nz M' = (aMk (nz M) c o k).2 := by
  have hr := sp_read' (zIC_W (zcV hc) W) (zn o) 1
  obtain ⟨M', a1, a2⟩ := sp_open W 4 k (zn o) (rd M (3 + c) (zn o) 1)
  unfold aMk
  rw [rd_nz (zcV hc), s_X2_makeFor]
  refine ⟨M', ?_, a2⟩
  generalize (aOpen (nz M) 4 k (zn o) (rd M (3 + c) (zn o) 1)).1 = y at a1 ⊢
  generalize rd M (3 + c) (zn o) 1 = t at hr a1
  clear W a2
  by_cases h : y = -1
  · rw [decide_eq_true h]
    subst h
    rcases zc8 hc with rfl | rfl | rfl | rfl | rfl | rfl | rfl | rfl <;> (simp only [Nat.reduceAdd, Nat.reduceMul, Nat.mul_zero, Nat.add_zero] at *; simp only [e_X2_makeFor, zo_iload, zo_lload, zo_aload, zo_istore, zo_lstore, zo_astore, zo_iinc, zo_pushI, zo_pushL, zo_null, zo_ii, zo_iid, zo_ll, zo_li, zo_lcmp, zo_i2l, zo_l2i, zo_dup, zo_dup2, zo_pop, zo_goto, zo_if, zo_icmp, zo_ifnull, zo_gets, zo_mm, zo_throw, zo_ret, zo_aret, zo_lret, q_iret_f, q_iret_1, q_iret_0, q_iret_b, q_c8_0, q_c8_1, q_c8_2, q_c8_3, q_c8_4, q_set_0, q_set_1i, q_set_1r, q_set_1n, q_set_1N, q_set_s, q_set_1j, q_bk_v, q_bk_n, q_if, zb_ite, cond_true, cond_false, List.getElem?_cons_zero, List.getElem?_cons_succ, Nat.reduceAdd, hr, a1, if_true, if_false, zb_eq0, zb_eq1, zn_1, not_true_eq_false, not_false_eq_true, ite_true, ite_false, if_true, if_false, q_iret_0, q_iret_1, decide_true, decide_false, decide_not, zb_t, zb_f, z10, z01, cond_true, cond_false, Bool.and_true, Bool.true_and, Bool.and_false, Bool.false_and, Bool.not_true, Bool.not_false, true_and, and_true, false_and, and_false, true_or, or_true, false_or, or_false, Bool.true_eq_false, Bool.false_eq_true, eq_self, reduceCtorEq])
  · rw [decide_eq_false h]
    rcases zc8 hc with rfl | rfl | rfl | rfl | rfl | rfl | rfl | rfl <;> (simp only [Nat.reduceAdd, Nat.reduceMul, Nat.mul_zero, Nat.add_zero] at *; simp only [e_X2_makeFor, zo_iload, zo_lload, zo_aload, zo_istore, zo_lstore, zo_astore, zo_iinc, zo_pushI, zo_pushL, zo_null, zo_ii, zo_iid, zo_ll, zo_li, zo_lcmp, zo_i2l, zo_l2i, zo_dup, zo_dup2, zo_pop, zo_goto, zo_if, zo_icmp, zo_ifnull, zo_gets, zo_mm, zo_throw, zo_ret, zo_aret, zo_lret, q_iret_f, q_iret_1, q_iret_0, q_iret_b, q_c8_0, q_c8_1, q_c8_2, q_c8_3, q_c8_4, q_set_0, q_set_1i, q_set_1r, q_set_1n, q_set_1N, q_set_s, q_set_1j, q_bk_v, q_bk_n, q_if, zb_ite, cond_true, cond_false, List.getElem?_cons_zero, List.getElem?_cons_succ, Nat.reduceAdd, hr, a1, h, if_true, if_false, zb_eq0, zb_eq1, zn_1, not_true_eq_false, not_false_eq_true, ite_true, ite_false, if_true, if_false, q_iret_0, q_iret_1, decide_true, decide_false, decide_not, zb_t, zb_f, z10, z01, cond_true, cond_false, Bool.and_true, Bool.true_and, Bool.and_false, Bool.false_and, Bool.not_true, Bool.not_false, true_and, and_true, false_and, and_false, true_or, or_true, false_or, or_false, Bool.true_eq_false, Bool.false_eq_true, eq_self, reduceCtorEq])
/-- what wishes leave -/
theorem zIC_Ap {A : zzMd} {m : Int32} {o : Nat} {f x : Int32} (ho : o < 60) (h : zIC A) : zIC (aAp A m o f x).2 := by
  unfold aAp
  cases hasF (row A o 23) f
  · exact h
  · exact zIC_Ad ho h
theorem zIC_Want {A : zzMd} {c o : Nat} {x : Int32} (ho : o < 60) (h : zIC A) : zIC (aWant A c o x).2 := by
  unfold aWant
  cases decide (rd A (3 + c) (zn o) 0 = x) <;> cases utd A c o
  · exact h
  · exact zIC_Ap ho h
  · exact h
  · exact h
theorem zIC_Set {A : zzMd} {c o k : Nat} {x : Int32} (ho : o < 60) (h : zIC A) : zIC (aSet A c o k x).2 := by
  unfold aSet
  cases decide (rd A (3 + c) (zn o) (zn k) = x) <;> cases utd A c o
  · exact h
  · exact zIC_Wr ho h
  · exact h
  · exact h
theorem zIC_Rem {A : zzMd} {c o : Nat} (ho : o < 60) (h : zIC A) : zIC (aRem A c o).2 := by
  unfold aRem
  cases utd A c o
  · exact h
  · exact zIC_Wr ho h
theorem zIC_16 {A : zzMd} {k : Nat} {x : Int32} : zIC (zz_sI A 16 k x) ↔ zIC A := by
  have key : ∀ a b, a ≠ 16 → (zz_sI A 16 k x).1 a b = A.1 a b := fun a b h => if_neg (fun z => h z.1)
  have k2 : ∀ c b, (zz_sI A 16 k x).1 (21 + 6 * c) b = A.1 (21 + 6 * c) b := fun c b => key _ _ (by omega)
  have k3 : ∀ c b, c < 8 → (zz_sI A 16 k x).1 (3 + c) b = A.1 (3 + c) b := fun c b h => key _ _ (by omega)
  have k4 : ∀ c b, (zz_sI A 16 k x).1 (22 + 6 * c) b = A.1 (22 + 6 * c) b := fun c b => key _ _ (by omega)
  unfold zIC
  refine and_congr Iff.rfl (and_congr Iff.rfl (forall_congr' fun c => forall_congr' fun hc => ?_))
  unfold zIV zIQ nv ve qn qk
  simp only [k2, k3 c _ hc, k4]
theorem zIC_Open {A : zzMd} {m k w t : Int32} (h : zIC A) : zIC (aOpen A m k w t).2 := by
  unfold aOpen
  by_cases h1 : 60 ≤ nv A 1 ∨ k = 2 ∧ ¬ zn (liveP A) < A.1 2 5
  · rw [if_pos h1]; exact h
  · rw [if_neg h1]
    have hn : nv A 1 < 60 := Nat.lt_of_not_le fun q => h1 (Or.inl q)
    have h2 := zIC_Ad (o := nv A 1) (D := dNew m k w t (nv A 1)) hn h
    cases (aAd A (nv A 1) (dNew m k w t (nv A 1))).1
    · exact h2
    · exact zIC_16.mpr h2
theorem zIC_Mk {A : zzMd} {c o : Nat} {k : Int32} (h : zIC A) : zIC (aMk A c o k).2 := zIC_Open h
end

section
/-! the store's other methods -/
theorem dOw_c {D D' : Nat → Int32} (h : ∀ s, s < 32 → D s = D' s) : ∀ s, s < 32 → dOw D s = dOw D' s := by
  intro s hs
  unfold dOw
  rw [h 25 (by decide)]
  by_cases h2 : D' 25 = 4
  · rw [if_pos h2, if_pos h2]
    unfold dUp
    rw [h s hs]
  · rw [if_neg h2, if_neg h2]
    exact h s hs
theorem zall_congr {P Q : Nat → Bool} : ∀ {n : Nat}, (∀ i, i < n → P i = Q i) → zall n P = zall n Q
  | 0, _ => rfl
  | n + 1, h => by
    rw [zall_s, zall_s, zall_congr fun i hi => h i (Nat.lt_succ_of_lt hi), h n (Nat.lt_succ_self n)]
theorem aWr_c (A : zzMd) (o : Nat) {D D' : Nat → Int32} (h : ∀ s, s < 32 → D s = D' s) : aWr A o D = aWr A o D' := by
  have h1 : (zall 32 fun s => decide (dOw D s = row A o s)) = zall 32 fun s => decide (dOw D' s = row A o s) := zall_congr fun i hi => by rw [dOw_c h i hi]
  unfold aWr put
  rw [h1, logSet_c A (ve A 1 + 1) (dOw_c h)]
theorem dUp_c {D D' : Nat → Int32} {k : Nat} {x : Int32} (h : ∀ s, s < 32 → D s = D' s) : ∀ s, s < 32 → dUp D k x s = dUp D' k x s := fun s hs => by
  unfold dUp
  rw [h s hs]
theorem rw32_c (M : zzMd) (D : Nat → Int32) : ∀ s, s < 32 → rw32 M D s = D s := fun s hs => if_pos hs
theorem row_D (M : zzMd) (D : Nat → Int32) (o : Nat) : row (setD M D) o = row M o := rfl
theorem setD_17 (M : zzMd) (D : Nat → Int32) : (setD M D).1 17 = D := rfl
theorem setDD (M : zzMd) (D D' : Nat → Int32) : setD (setD M D) D' = setD M D' := by
  unfold setD
  refine Prod.ext (funext fun a => funext fun b => ?_) rfl
  by_cases h : a = 17 <;> simp [h]
def aCh (A : zzMd) (o k : Nat) (x : Int32) : Bool × zzMd := aWr A o (dUp (row A o) k x)
def aCh2 (A : zzMd) (o k : Nat) (x : Int32) (k2 : Nat) (x2 : Int32) : Bool × zzMd := aWr A o (dUp (dUp (row A o) k x) k2 x2)
def aGo (A : zzMd) (o : Nat) (m : Int32) : Bool × zzMd := aWr A o (dUp (row A o) 25 (if m = 2 ∧ kept A 1 (zn o) = false then 4 else m))
theorem sp_wr {M : zzMd} (W : zIC M) {o : Nat} (ho : o < 60) (D D' : Nat → Int32) (h : ∀ s, s < 32 → D s = D' s) :
    ∃ M', fX9_write [.ref 1, .int (zn o)] (setD M D) = some (.inl (some (.int (zb (aWr (nz M) o D').1))), M') ∧ nz M' = (aWr (nz M) o D').2 := by
  obtain ⟨M', h1, h2⟩ := sp_write (M := setD M D) (zIC_D.mpr W) ho
  rw [nz_D, setD_17, aWr_c _ _ h] at h1 h2
  exact ⟨M', h1, h2⟩
theorem zn_i32 {k : Nat} (h : k < 32) : (zn k < 0) = False ∧ (zn k < 32) = True ∧ ((32 : Int32) ≤ zn k) = False ∧ zz_inb (zn k) 32 = true ∧ zz_ix (zn k) = k :=
  ⟨zn_nn (by omega), zn_lt (a := k) (b := 32) (by omega) (by decide) ▸ eq_true h, zk_lt (n := 32) h (Nat.le_refl _) (by decide), zn_inT h (by decide), zn_ix (by omega)⟩
theorem sp_change {M : zzMd} (W : zIC M) {o : Nat} (ho : o < 60) {k : Nat} (hk : k < 32) (x : Int32) :
    ∃ M', fX9_change [.ref 1, .int (zn o), .int (zn k), .int x] M = some (.inl (some (.int (zb (aCh (nz M) o k x).1))), M') ∧ nz M' = (aCh (nz M) o k x).2 := by
  have hd := sp_draftFrom W ho
  obtain ⟨k1, k2, -, k4, k5⟩ := zn_i32 hk
  obtain ⟨M', h1, h2⟩ := sp_wr W ho (dUp (rw32 M (row M o)) k x) (dUp (row M o) k x) (dUp_c (rw32_c M _))
  refine ⟨M', ?_, h2⟩
  rw [s_X9_change]
  (simp only [e_X9_change, zo_iload, zo_lload, zo_aload, zo_istore, zo_lstore, zo_astore, zo_iinc, zo_pushI, zo_pushL, zo_null, zo_ii, zo_iid, zo_ll, zo_li, zo_lcmp, zo_i2l, zo_l2i, zo_dup, zo_dup2, zo_pop, zo_goto, zo_if, zo_icmp, zo_ifnull, zo_gets, zo_mm, zo_throw, zo_ret, zo_aret, zo_lret, q_iret_f, q_iret_1, q_iret_0, q_iret_b, q_c8_0, q_c8_1, q_c8_2, q_c8_3, q_c8_4, q_set_0, q_set_1i, q_set_1r, q_set_1n, q_set_1N, q_set_s, q_set_1j, q_bk_v, q_bk_n, q_if, zb_ite, cond_true, cond_false, List.getElem?_cons_zero, List.getElem?_cons_succ, Nat.reduceAdd, hd, k1, k2, k4, k5, q_aC, setD_s, h1, if_true, if_false, zb_eq0, zb_eq1, zn_1, not_true_eq_false, not_false_eq_true, ite_true, ite_false, if_true, if_false, q_iret_0, q_iret_1, decide_true, decide_false, decide_not, zb_t, zb_f, z10, z01, cond_true, cond_false, Bool.and_true, Bool.true_and, Bool.and_false, Bool.false_and, Bool.not_true, Bool.not_false, true_and, and_true, false_and, and_false, true_or, or_true, false_or, or_false, Bool.true_eq_false, Bool.false_eq_true, eq_self, reduceCtorEq])
  rfl
theorem sp_changeBoth {M : zzMd} (W : zIC M) {o : Nat} (ho : o < 60) {k : Nat} (hk : k < 32) (x : Int32) {j : Nat} (hj : j < 32) (y : Int32) :
    ∃ M', fX9_changeBoth [.ref 1, .int (zn o), .int (zn k), .int x, .int (zn j), .int y] M = some (.inl (some (.int (zb (aCh2 (nz M) o k x j y).1))), M') ∧ nz M' = (aCh2 (nz M) o k x j y).2 := by
  have hd := sp_draftFrom W ho
  obtain ⟨k1, k2, k3, k4, k5⟩ := zn_i32 hk
  obtain ⟨j1, j2, j3, j4, j5⟩ := zn_i32 hj
  obtain ⟨M', h1, h2⟩ := sp_wr W ho (dUp (dUp (rw32 M (row M o)) k x) j y) (dUp (dUp (row M o) k x) j y) (dUp_c (dUp_c (rw32_c M _)))
  refine ⟨M', ?_, h2⟩
  rw [s_X9_changeBoth]
  (simp only [e_X9_changeBoth, zo_iload, zo_lload, zo_aload, zo_istore, zo_lstore, zo_astore, zo_iinc, zo_pushI, zo_pushL, zo_null, zo_ii, zo_iid, zo_ll, zo_li, zo_lcmp, zo_i2l, zo_l2i, zo_dup, zo_dup2, zo_pop, zo_goto, zo_if, zo_icmp, zo_ifnull, zo_gets, zo_mm, zo_throw, zo_ret, zo_aret, zo_lret, q_iret_f, q_iret_1, q_iret_0, q_iret_b, q_c8_0, q_c8_1, q_c8_2, q_c8_3, q_c8_4, q_set_0, q_set_1i, q_set_1r, q_set_1n, q_set_1N, q_set_s, q_set_1j, q_bk_v, q_bk_n, q_if, zb_ite, cond_true, cond_false, List.getElem?_cons_zero, List.getElem?_cons_succ, Nat.reduceAdd, hd, k1, k2, k3, k4, k5, j1, j2, j3, j4, j5, q_aC, setD_s, h1, if_true, if_false, zb_eq0, zb_eq1, zn_1, not_true_eq_false, not_false_eq_true, ite_true, ite_false, if_true, if_false, q_iret_0, q_iret_1, decide_true, decide_false, decide_not, zb_t, zb_f, z10, z01, cond_true, cond_false, Bool.and_true, Bool.true_and, Bool.and_false, Bool.false_and, Bool.not_true, Bool.not_false, true_and, and_true, false_and, and_false, true_or, or_true, false_or, or_false, Bool.true_eq_false, Bool.false_eq_true, eq_self, reduceCtorEq])
  rfl
theorem sp_startGoing {M : zzMd} (W : zIC M) {o : Nat} (ho : o < 60) (m : Int32) :
    ∃ M', fX9_startGoing [.ref 1, .int (zn o), .int m] M = some (.inl (some (.int (zb (aGo (nz M) o m).1))), M') ∧ nz M' = (aGo (nz M) o m).2 := by
  have hd := sp_draftFrom W ho
  have hk := sp_isKept (zIC_1 (zIC_D (D := rw32 M (row M o)).mpr W)) (zn o)
  have hk2 : kept (setD M (rw32 M (row M o))) 1 (zn o) = kept (nz M) 1 (zn o) := rfl
  rw [hk2] at hk
  have eG : aGo (nz M) o m = aWr (nz M) o (dUp (row M o) 25 (if m = 2 ∧ kept (nz M) 1 (zn o) = false then 4 else m)) := rfl
  rw [eG]
  have fin : ∀ X : Int32, (∀ h1 : (setD M (dUp (rw32 M (row M o)) 25 X)) = (setD M (dUp (rw32 M (row M o)) 25 X)), fX9_startGoing [.ref 1, .int (zn o), .int m] M = fX9_write [.ref 1, .int (zn o)] (setD M (dUp (rw32 M (row M o)) 25 X))) →
      ∃ M', fX9_startGoing [.ref 1, .int (zn o), .int m] M = some (.inl (some (.int (zb (aWr (nz M) o (dUp (row M o) 25 X)).1))), M') ∧ nz M' = (aWr (nz M) o (dUp (row M o) 25 X)).2 := fun X h => by
    obtain ⟨M', h1, h2⟩ := sp_wr W ho (dUp (rw32 M (row M o)) 25 X) (dUp (row M o) 25 X) (dUp_c (rw32_c M _))
    exact ⟨M', (h rfl).trans h1, h2⟩
  have tl : ∀ X : Int32, zz_ev tX9_startGoing 29 [some (.ref 1), some (.int (zn o)), some (.int m)] [.int X, .int 25, .ref 17] (setD M (rw32 M (row M o))) = fX9_write [.ref 1, .int (zn o)] (setD M (dUp (rw32 M (row M o)) 25 X)) := fun X => by
    obtain ⟨M', h1, h2⟩ := sp_wr W ho (dUp (rw32 M (row M o)) 25 X) (dUp (row M o) 25 X) (dUp_c (rw32_c M _))
    rw [h1]
    (simp only [e_X9_startGoing, zo_iload, zo_lload, zo_aload, zo_istore, zo_lstore, zo_astore, zo_iinc, zo_pushI, zo_pushL, zo_null, zo_ii, zo_iid, zo_ll, zo_li, zo_lcmp, zo_i2l, zo_l2i, zo_dup, zo_dup2, zo_pop, zo_goto, zo_if, zo_icmp, zo_ifnull, zo_gets, zo_mm, zo_throw, zo_ret, zo_aret, zo_lret, q_iret_f, q_iret_1, q_iret_0, q_iret_b, q_c8_0, q_c8_1, q_c8_2, q_c8_3, q_c8_4, q_set_0, q_set_1i, q_set_1r, q_set_1n, q_set_1N, q_set_s, q_set_1j, q_bk_v, q_bk_n, q_if, zb_ite, cond_true, cond_false, List.getElem?_cons_zero, List.getElem?_cons_succ, Nat.reduceAdd, hd, q_aC, q_ix, q_in, Nat.reduceLT, setD_s, h1, if_true, if_false, zb_eq0, zb_eq1, zn_1, not_true_eq_false, not_false_eq_true, ite_true, ite_false, if_true, if_false, q_iret_0, q_iret_1, decide_true, decide_false, decide_not, zb_t, zb_f, z10, z01, cond_true, cond_false, Bool.and_true, Bool.true_and, Bool.and_false, Bool.false_and, Bool.not_true, Bool.not_false, true_and, and_true, false_and, and_false, true_or, or_true, false_or, or_false, Bool.true_eq_false, Bool.false_eq_true, eq_self, reduceCtorEq])
  refine fin _ (fun _ => ?_)
  rw [s_X9_startGoing]
  by_cases c1 : m = 2
  · cases c2 : kept (nz M) 1 (zn o)
    · rw [if_pos ⟨c1, rfl⟩, ← tl]
      rw [c2] at hk
      (simp only [e_X9_startGoing, zo_iload, zo_lload, zo_aload, zo_istore, zo_lstore, zo_astore, zo_iinc, zo_pushI, zo_pushL, zo_null, zo_ii, zo_iid, zo_ll, zo_li, zo_lcmp, zo_i2l, zo_l2i, zo_dup, zo_dup2, zo_pop, zo_goto, zo_if, zo_icmp, zo_ifnull, zo_gets, zo_mm, zo_throw, zo_ret, zo_aret, zo_lret, q_iret_f, q_iret_1, q_iret_0, q_iret_b, q_c8_0, q_c8_1, q_c8_2, q_c8_3, q_c8_4, q_set_0, q_set_1i, q_set_1r, q_set_1n, q_set_1N, q_set_s, q_set_1j, q_bk_v, q_bk_n, q_if, zb_ite, cond_true, cond_false, List.getElem?_cons_zero, List.getElem?_cons_succ, Nat.reduceAdd, hd, hk, c1, if_true, if_false, zb_eq0, zb_eq1, zn_1, not_true_eq_false, not_false_eq_true, ite_true, ite_false, if_true, if_false, q_iret_0, q_iret_1, decide_true, decide_false, decide_not, zb_t, zb_f, z10, z01, cond_true, cond_false, Bool.and_true, Bool.true_and, Bool.and_false, Bool.false_and, Bool.not_true, Bool.not_false, true_and, and_true, false_and, and_false, true_or, or_true, false_or, or_false, Bool.true_eq_false, Bool.false_eq_true, eq_self, reduceCtorEq])
    · rw [if_neg (by simp), ← tl]
      rw [c2] at hk
      (simp only [e_X9_startGoing, zo_iload, zo_lload, zo_aload, zo_istore, zo_lstore, zo_astore, zo_iinc, zo_pushI, zo_pushL, zo_null, zo_ii, zo_iid, zo_ll, zo_li, zo_lcmp, zo_i2l, zo_l2i, zo_dup, zo_dup2, zo_pop, zo_goto, zo_if, zo_icmp, zo_ifnull, zo_gets, zo_mm, zo_throw, zo_ret, zo_aret, zo_lret, q_iret_f, q_iret_1, q_iret_0, q_iret_b, q_c8_0, q_c8_1, q_c8_2, q_c8_3, q_c8_4, q_set_0, q_set_1i, q_set_1r, q_set_1n, q_set_1N, q_set_s, q_set_1j, q_bk_v, q_bk_n, q_if, zb_ite, cond_true, cond_false, List.getElem?_cons_zero, List.getElem?_cons_succ, Nat.reduceAdd, hd, hk, c1, if_true, if_false, zb_eq0, zb_eq1, zn_1, not_true_eq_false, not_false_eq_true, ite_true, ite_false, if_true, if_false, q_iret_0, q_iret_1, decide_true, decide_false, decide_not, zb_t, zb_f, z10, z01, cond_true, cond_false, Bool.and_true, Bool.true_and, Bool.and_false, Bool.false_and, Bool.not_true, Bool.not_false, true_and, and_true, false_and, and_false, true_or, or_true, false_or, or_false, Bool.true_eq_false, Bool.false_eq_true, eq_self, reduceCtorEq])
  · rw [if_neg (fun z => c1 z.1), ← tl]
    (simp only [e_X9_startGoing, zo_iload, zo_lload, zo_aload, zo_istore, zo_lstore, zo_astore, zo_iinc, zo_pushI, zo_pushL, zo_null, zo_ii, zo_iid, zo_ll, zo_li, zo_lcmp, zo_i2l, zo_l2i, zo_dup, zo_dup2, zo_pop, zo_goto, zo_if, zo_icmp, zo_ifnull, zo_gets, zo_mm, zo_throw, zo_ret, zo_aret, zo_lret, q_iret_f, q_iret_1, q_iret_0, q_iret_b, q_c8_0, q_c8_1, q_c8_2, q_c8_3, q_c8_4, q_set_0, q_set_1i, q_set_1r, q_set_1n, q_set_1N, q_set_s, q_set_1j, q_bk_v, q_bk_n, q_if, zb_ite, cond_true, cond_false, List.getElem?_cons_zero, List.getElem?_cons_succ, Nat.reduceAdd, hd, hk, c1, if_true, if_false, zb_eq0, zb_eq1, zn_1, not_true_eq_false, not_false_eq_true, ite_true, ite_false, if_true, if_false, q_iret_0, q_iret_1, decide_true, decide_false, decide_not, zb_t, zb_f, z10, z01, cond_true, cond_false, Bool.and_true, Bool.true_and, Bool.and_false, Bool.false_and, Bool.not_true, Bool.not_false, true_and, and_true, false_and, and_false, true_or, or_true, false_or, or_false, Bool.true_eq_false, Bool.false_eq_true, eq_self, reduceCtorEq])
/-! the numbers of kinds and fields -/
def hasF (k f : Int32) : Bool := decide (¬ k < 0 ∧ ¬ 6 ≤ k ∧ ¬ f < 0 ∧ ¬ 11 ≤ f ∧ ([127, 3, 2, 1027, 896, 2] : List Int32).getD (zz_ix k) 0 >>> (f &&& 31) &&& 1 = 1)
def inR (f x : Int32) : Bool := decide (¬ f < 0 ∧ ¬ 11 ≤ f ∧ ¬ x < ([0, 0, 0, 0, 0, 0, 0, 0, 0, 0, 1] : List Int32).getD (zz_ix f) 0 ∧ ¬ ([5, 9, 2, 2, 1, 5, 99, 9, 2, 1, 5] : List Int32).getD (zz_ix f) 0 < x)
theorem sp_isKind (k : Int32) (M : zzMd) : fX11_isKind [.int k] M = some (.inl (some (.int (zb (decide (¬ k < 0 ∧ ¬ 6 ≤ k))))), M) := by
  rw [s_X11_isKind]
  by_cases c1 : k < 0 <;> by_cases c2 : 6 ≤ k <;> (simp only [e_X11_isKind, zo_iload, zo_lload, zo_aload, zo_istore, zo_lstore, zo_astore, zo_iinc, zo_pushI, zo_pushL, zo_null, zo_ii, zo_iid, zo_ll, zo_li, zo_lcmp, zo_i2l, zo_l2i, zo_dup, zo_dup2, zo_pop, zo_goto, zo_if, zo_icmp, zo_ifnull, zo_gets, zo_mm, zo_throw, zo_ret, zo_aret, zo_lret, q_iret_f, q_iret_1, q_iret_0, q_iret_b, q_c8_0, q_c8_1, q_c8_2, q_c8_3, q_c8_4, q_set_0, q_set_1i, q_set_1r, q_set_1n, q_set_1N, q_set_s, q_set_1j, q_bk_v, q_bk_n, q_if, zb_ite, cond_true, cond_false, List.getElem?_cons_zero, List.getElem?_cons_succ, Nat.reduceAdd, c1, c2, if_true, if_false, zb_eq0, zb_eq1, zn_1, not_true_eq_false, not_false_eq_true, ite_true, ite_false, if_true, if_false, q_iret_0, q_iret_1, decide_true, decide_false, decide_not, zb_t, zb_f, z10, z01, cond_true, cond_false, Bool.and_true, Bool.true_and, Bool.and_false, Bool.false_and, Bool.not_true, Bool.not_false, true_and, and_true, false_and, and_false, true_or, or_true, false_or, or_false, Bool.true_eq_false, Bool.false_eq_true, eq_self, reduceCtorEq])
theorem sp_hasField (k f : Int32) (M : zzMd) : fX11_hasField [.int k, .int f] M = some (.inl (some (.int (zb (hasF k f)))), M) := by
  have hk := sp_isKind k M
  rw [s_X11_hasField]
  unfold hasF
  by_cases c1 : k < 0
  · (simp only [e_X11_hasField, zo_iload, zo_lload, zo_aload, zo_istore, zo_lstore, zo_astore, zo_iinc, zo_pushI, zo_pushL, zo_null, zo_ii, zo_iid, zo_ll, zo_li, zo_lcmp, zo_i2l, zo_l2i, zo_dup, zo_dup2, zo_pop, zo_goto, zo_if, zo_icmp, zo_ifnull, zo_gets, zo_mm, zo_throw, zo_ret, zo_aret, zo_lret, q_iret_f, q_iret_1, q_iret_0, q_iret_b, q_c8_0, q_c8_1, q_c8_2, q_c8_3, q_c8_4, q_set_0, q_set_1i, q_set_1r, q_set_1n, q_set_1N, q_set_s, q_set_1j, q_bk_v, q_bk_n, q_if, zb_ite, cond_true, cond_false, List.getElem?_cons_zero, List.getElem?_cons_succ, Nat.reduceAdd, hk, c1, if_true, if_false, zb_eq0, zb_eq1, zn_1, not_true_eq_false, not_false_eq_true, ite_true, ite_false, if_true, if_false, q_iret_0, q_iret_1, decide_true, decide_false, decide_not, zb_t, zb_f, z10, z01, cond_true, cond_false, Bool.and_true, Bool.true_and, Bool.and_false, Bool.false_and, Bool.not_true, Bool.not_false, true_and, and_true, false_and, and_false, true_or, or_true, false_or, or_false, Bool.true_eq_false, Bool.false_eq_true, eq_self, reduceCtorEq])
  by_cases c2 : 6 ≤ k
  · (simp only [e_X11_hasField, zo_iload, zo_lload, zo_aload, zo_istore, zo_lstore, zo_astore, zo_iinc, zo_pushI, zo_pushL, zo_null, zo_ii, zo_iid, zo_ll, zo_li, zo_lcmp, zo_i2l, zo_l2i, zo_dup, zo_dup2, zo_pop, zo_goto, zo_if, zo_icmp, zo_ifnull, zo_gets, zo_mm, zo_throw, zo_ret, zo_aret, zo_lret, q_iret_f, q_iret_1, q_iret_0, q_iret_b, q_c8_0, q_c8_1, q_c8_2, q_c8_3, q_c8_4, q_set_0, q_set_1i, q_set_1r, q_set_1n, q_set_1N, q_set_s, q_set_1j, q_bk_v, q_bk_n, q_if, zb_ite, cond_true, cond_false, List.getElem?_cons_zero, List.getElem?_cons_succ, Nat.reduceAdd, hk, c1, c2, if_true, if_false, zb_eq0, zb_eq1, zn_1, not_true_eq_false, not_false_eq_true, ite_true, ite_false, if_true, if_false, q_iret_0, q_iret_1, decide_true, decide_false, decide_not, zb_t, zb_f, z10, z01, cond_true, cond_false, Bool.and_true, Bool.true_and, Bool.and_false, Bool.false_and, Bool.not_true, Bool.not_false, true_and, and_true, false_and, and_false, true_or, or_true, false_or, or_false, Bool.true_eq_false, Bool.false_eq_true, eq_self, reduceCtorEq])
  obtain ⟨a1, a2⟩ := zi_rng c1 c2
  have i1 : zz_inb k 6 = true := by
    have : (6 : Int32).toInt = 6 := rfl
    rw [a1]
    exact zn_inT (by omega) (by decide)
  by_cases c3 : f < 0 <;> by_cases c4 : 11 ≤ f <;> by_cases c5 : ([127, 3, 2, 1027, 896, 2] : List Int32).getD (zz_ix k) 0 >>> (f &&& 31) &&& 1 = 1 <;> (simp only [e_X11_hasField, zo_iload, zo_lload, zo_aload, zo_istore, zo_lstore, zo_astore, zo_iinc, zo_pushI, zo_pushL, zo_null, zo_ii, zo_iid, zo_ll, zo_li, zo_lcmp, zo_i2l, zo_l2i, zo_dup, zo_dup2, zo_pop, zo_goto, zo_if, zo_icmp, zo_ifnull, zo_gets, zo_mm, zo_throw, zo_ret, zo_aret, zo_lret, q_iret_f, q_iret_1, q_iret_0, q_iret_b, q_c8_0, q_c8_1, q_c8_2, q_c8_3, q_c8_4, q_set_0, q_set_1i, q_set_1r, q_set_1n, q_set_1N, q_set_s, q_set_1j, q_bk_v, q_bk_n, q_if, zb_ite, cond_true, cond_false, List.getElem?_cons_zero, List.getElem?_cons_succ, Nat.reduceAdd, hk, c1, c2, c3, c4, Int32.not_le.mp, q_aC, i1, c5, if_true, if_false, zb_eq0, zb_eq1, zn_1, not_true_eq_false, not_false_eq_true, ite_true, ite_false, if_true, if_false, q_iret_0, q_iret_1, decide_true, decide_false, decide_not, zb_t, zb_f, z10, z01, cond_true, cond_false, Bool.and_true, Bool.true_and, Bool.and_false, Bool.false_and, Bool.not_true, Bool.not_false, true_and, and_true, false_and, and_false, true_or, or_true, false_or, or_false, Bool.true_eq_false, Bool.false_eq_true, eq_self, reduceCtorEq])
/-! admission reads a draft's 32 slots alone -/
def eq32 (D D' : Nat → Int32) : Prop := ∀ s, s < 32 → D s = D' s
theorem ruleStep_c {M : zzMd} (hA : zAd M) {i : Nat} (hi : i < nr M) {D D' : Nat → Int32} (h : eq32 D D') : eq32 (ruleStep M i D) (ruleStep M i D') := by
  obtain ⟨-, -, hR, -⟩ := hA
  obtain ⟨⟨-, f2⟩, -⟩ := hR i hi
  unfold ruleStep
  rw [h 23 (by decide), h (zz_ix (rP M i 1)) (by omega)]
  split
  · exact dUp_c h
  · exact h
theorem rules_c {M : zzMd} (hA : zAd M) {D D' : Nat → Int32} (h : eq32 D D') : eq32 (rules M D) (rules M D') := by
  have key : ∀ n, n ≤ nr M → eq32 (zfold n (ruleStep M) D) (zfold n (ruleStep M) D') := by
    intro n
    induction n with
    | zero => exact fun _ => h
    | succ n ih => exact fun hn => ruleStep_c hA hn (ih (Nat.le_of_succ_le hn))
  exact key _ (Nat.le_refl _)
theorem same11_c {D D' E E' : Nat → Int32} (h : eq32 D D') (h2 : eq32 E E') : same11 D E = same11 D' E' := zall_congr fun i hi => by rw [h i (by omega), h2 i (by omega)]
theorem settle_c {M : zzMd} (hA : zAd M) : ∀ (k : Nat) {D D' A A' : Nat → Int32}, eq32 D D' → (settle M k D A).1 = (settle M k D' A').1 ∧ eq32 (settle M k D A).2.1 (settle M k D' A').2.1
  | 0, _, _, _, _, h => ⟨rfl, h⟩
  | k + 1, D, D', A, A', h => by
    have h1 := rules_c hA h
    unfold settle
    rw [same11_c h h1]
    cases same11 D' (rules M D')
    · exact settle_c hA k h1
    · exact ⟨rfl, h1⟩
theorem settled_c {M : zzMd} (hA : zAd M) {D D' : Nat → Int32} (h : eq32 D D') : (settled M D).1 = (settled M D').1 ∧ eq32 (settled M D).2 (settled M D').2 := settle_c hA 6 h
theorem allowed_c {M : zzMd} (hA : zAd M) {D D' : Nat → Int32} (h : eq32 D D') : allowed M D = allowed M D' := by
  obtain ⟨-, -, -, hC⟩ := hA
  unfold allowed
  rw [h 23 (by decide), h 2 (by decide), h 3 (by decide)]
  refine congrArg _ (zall_congr fun i hi => ?_)
  obtain ⟨-, f2⟩ := hC i hi
  rw [h (zz_ix (cP M i 1)) (by omega)]
theorem rules_nz (M : zzMd) : rules (nz M) = rules M := rfl
theorem settle_nz (M : zzMd) : ∀ (k : Nat) (D A : Nat → Int32), settle (nz M) k D A = settle M k D A
  | 0, _, _ => rfl
  | k + 1, D, A => by
    unfold settle
    rw [rules_nz, settle_nz M k]
theorem settle_setD (M : zzMd) (E : Nat → Int32) : ∀ (k : Nat) (D A : Nat → Int32), settle (setD M E) k D A = settle M k D A
  | 0, _, _ => rfl
  | k + 1, D, A => by
    unfold settle
    rw [show rules (setD M E) = rules M from rfl, settle_setD M E k]
theorem settled_nz (M : zzMd) (D : Nat → Int32) : settled (nz M) D = settled M D := by unfold settled; rw [settle_nz]
theorem settled_setD (M : zzMd) (E D : Nat → Int32) : settled (setD M E) D = settled M D := by unfold settled; rw [settle_setD]
theorem allowed_nz (M : zzMd) (D : Nat → Int32) : allowed (nz M) D = allowed M D := rfl
/-- a write through the rules and the checks -/
def aAd (A : zzMd) (o : Nat) (D : Nat → Int32) : Bool × zzMd :=
  bif (settled A D).1 && allowed A (settled A D).2 then aWr A o (settled A D).2 else (false, A)
theorem zIC_Ad {A : zzMd} {o : Nat} {D : Nat → Int32} (ho : o < 60) (h : zIC A) : zIC (aAd A o D).2 := by
  unfold aAd
  cases (settled A D).1 && allowed A (settled A D).2
  · exact h
  · exact zIC_Wr ho h
theorem aAd_c {A : zzMd} (hA : zAd A) (o : Nat) {D D' : Nat → Int32} (h : eq32 D D') : aAd A o D = aAd A o D' := by
  obtain ⟨h1, h2⟩ := settled_c hA h
  unfold aAd
  rw [h1, allowed_c hA h2, aWr_c A o h2]
def aAp (A : zzMd) (m : Int32) (o : Nat) (f x : Int32) : Bool × zzMd :=
  bif hasF (row A o 23) f then aAd A o (dUp (dUp (row A o) (zz_ix f) x) (11 + zz_ix f) m) else (false, A)
def aAp2 (A : zzMd) (m : Int32) (o : Nat) (x y : Int32) : Bool × zzMd := aAd A o (dUp (dUp (dUp (dUp (row A o) 2 x) 3 y) 13 m) 14 m)
theorem rd_row {M : zzMd} {o k : Nat} (ho : o < 60) (hk : k < 32) : rd M 1 (zn o) (zn k) = row M o k := by
  unfold rd row lv
  rw [if_neg (by
    rw [zn_lt0 (by omega), zo_60 ho, zn_lt0 (by omega), (zn_i32 hk).2.2.1]
    simp), zn_ix (by omega), zn_ix (by omega)]
  rfl
theorem hasF_rng {k f : Int32} (h : hasF k f = true) : f = zn (zz_ix f) ∧ zz_ix f < 11 := by
  obtain ⟨-, -, c3, c4, -⟩ := of_decide_eq_true h
  obtain ⟨a1, a2⟩ := zi_rng c3 c4
  have : (11 : Int32).toInt = 11 := rfl
  exact ⟨a1, by omega⟩
theorem sp_ad {M : zzMd} (W : zIC M) {o : Nat} (ho : o < 60) (D : Nat → Int32) :
    ∃ A : Nat → Int32, fX0_settles [.ref 2, .ref 17] (setD M D) = some (.inl (some (.int (zb (settled M D).1))), setA (setD M (settled M D).2) A) ∧
      fX0_allows [.ref 2, .ref 17] (setA (setD M (settled M D).2) A) = some (.inl (some (.int (zb (allowed M (settled M D).2)))), setA (setD M (settled M D).2) A) ∧
      ∃ M', fX9_write [.ref 1, .int (zn o)] (setA (setD M (settled M D).2) A) = some (.inl (some (.int (zb (aWr (nz M) o (settled M D).2).1))), M') ∧ nz M' = (aWr (nz M) o (settled M D).2).2 := by
  obtain ⟨A, h1⟩ := sp_settles (M := setD M D) W.2.1
  rw [setD_17, settled_setD, setDD] at h1
  have h2 := sp_allows (M := setA (setD M (settled M D).2) A) W.2.1
  obtain ⟨M', h3, h4⟩ := sp_write (M := setA (setD M (settled M D).2) A) (zIC_A.mpr (zIC_D.mpr W)) ho
  rw [nz_A, nz_D] at h3 h4
  exact ⟨A, h1, h2, M', h3, h4⟩
theorem sp_applyField {M : zzMd} (W : zIC M) {o : Nat} (ho : o < 60) (m f x : Int32) :
    ∃ M', fX9_applyField [.ref 1, .int m, .int (zn o), .int f, .int x] M = some (.inl (some (.int (zb (aAp (nz M) m o f x).1))), M') ∧ nz M' = (aAp (nz M) m o f x).2 := by
  have hr := sp_read' (zIC_1 W) (zn o) 23
  rw [show rd M 1 (zn o) 23 = row M o 23 from rd_row (k := 23) ho (by decide)] at hr
  have hf := sp_hasField (row M o 23) f M
  rw [s_X9_applyField]
  unfold aAp
  rw [row_nz]
  cases hF : hasF (row M o 23) f
  · rw [hF] at hf
    refine ⟨M, ?_, rfl⟩
    (simp only [e_X9_applyField, zo_iload, zo_lload, zo_aload, zo_istore, zo_lstore, zo_astore, zo_iinc, zo_pushI, zo_pushL, zo_null, zo_ii, zo_iid, zo_ll, zo_li, zo_lcmp, zo_i2l, zo_l2i, zo_dup, zo_dup2, zo_pop, zo_goto, zo_if, zo_icmp, zo_ifnull, zo_gets, zo_mm, zo_throw, zo_ret, zo_aret, zo_lret, q_iret_f, q_iret_1, q_iret_0, q_iret_b, q_c8_0, q_c8_1, q_c8_2, q_c8_3, q_c8_4, q_set_0, q_set_1i, q_set_1r, q_set_1n, q_set_1N, q_set_s, q_set_1j, q_bk_v, q_bk_n, q_if, zb_ite, cond_true, cond_false, List.getElem?_cons_zero, List.getElem?_cons_succ, Nat.reduceAdd, hr, hf, if_true, if_false, zb_eq0, zb_eq1, zn_1, not_true_eq_false, not_false_eq_true, ite_true, ite_false, if_true, if_false, q_iret_0, q_iret_1, decide_true, decide_false, decide_not, zb_t, zb_f, z10, z01, cond_true, cond_false, Bool.and_true, Bool.true_and, Bool.and_false, Bool.false_and, Bool.not_true, Bool.not_false, true_and, and_true, false_and, and_false, true_or, or_true, false_or, or_false, Bool.true_eq_false, Bool.false_eq_true, eq_self, reduceCtorEq])
  · rw [hF] at hf
    obtain ⟨f1, f2⟩ := hasF_rng hF
    have hd := sp_draftFrom W ho
    have i1 : zz_inb f 32 = true := by rw [f1]; exact zn_inT (by omega) (by decide)
    have e2 : (11 : Int32) + f = zn (11 + zz_ix f) := by
      have h := zn_add 11 (zz_ix f)
      rw [← f1] at h
      exact h
    have i2 : zz_inb (zn (11 + zz_ix f)) 32 = true := zn_inT (by omega) (by decide)
    have x2 : zz_ix (zn (11 + zz_ix f)) = 11 + zz_ix f := zn_ix (by omega)
    have hc : eq32 (dUp (dUp (rw32 M (row M o)) (zz_ix f) x) (11 + zz_ix f) m) (dUp (dUp (row M o) (zz_ix f) x) (11 + zz_ix f) m) := dUp_c (dUp_c (rw32_c M _))
    rw [cond_true, ← aAd_c (A := nz M) W.2.1 o hc]
    obtain ⟨A, s1, s2, M', s3, s4⟩ := sp_ad W ho (dUp (dUp (rw32 M (row M o)) (zz_ix f) x) (11 + zz_ix f) m)
    unfold aAd
    rw [settled_nz, allowed_nz]
    cases c1 : (settled M (dUp (dUp (rw32 M (row M o)) (zz_ix f) x) (11 + zz_ix f) m)).1
    · rw [c1] at s1
      refine ⟨setA (setD M (settled M (dUp (dUp (rw32 M (row M o)) (zz_ix f) x) (11 + zz_ix f) m)).2) A, ?_, ?_⟩
      · (simp only [e_X9_applyField, zo_iload, zo_lload, zo_aload, zo_istore, zo_lstore, zo_astore, zo_iinc, zo_pushI, zo_pushL, zo_null, zo_ii, zo_iid, zo_ll, zo_li, zo_lcmp, zo_i2l, zo_l2i, zo_dup, zo_dup2, zo_pop, zo_goto, zo_if, zo_icmp, zo_ifnull, zo_gets, zo_mm, zo_throw, zo_ret, zo_aret, zo_lret, q_iret_f, q_iret_1, q_iret_0, q_iret_b, q_c8_0, q_c8_1, q_c8_2, q_c8_3, q_c8_4, q_set_0, q_set_1i, q_set_1r, q_set_1n, q_set_1N, q_set_s, q_set_1j, q_bk_v, q_bk_n, q_if, zb_ite, cond_true, cond_false, List.getElem?_cons_zero, List.getElem?_cons_succ, Nat.reduceAdd, hr, hf, hd, i1, e2, i2, x2, q_aC, setD_s, s1, if_true, if_false, zb_eq0, zb_eq1, zn_1, not_true_eq_false, not_false_eq_true, ite_true, ite_false, if_true, if_false, q_iret_0, q_iret_1, decide_true, decide_false, decide_not, zb_t, zb_f, z10, z01, cond_true, cond_false, Bool.and_true, Bool.true_and, Bool.and_false, Bool.false_and, Bool.not_true, Bool.not_false, true_and, and_true, false_and, and_false, true_or, or_true, false_or, or_false, Bool.true_eq_false, Bool.false_eq_true, eq_self, reduceCtorEq])
      · simp only [Bool.false_and, cond_false, nz_A, nz_D]
    · rw [c1] at s1
      cases c2 : allowed M (settled M (dUp (dUp (rw32 M (row M o)) (zz_ix f) x) (11 + zz_ix f) m)).2
      · rw [c2] at s2
        refine ⟨setA (setD M (settled M (dUp (dUp (rw32 M (row M o)) (zz_ix f) x) (11 + zz_ix f) m)).2) A, ?_, ?_⟩
        · (simp only [e_X9_applyField, zo_iload, zo_lload, zo_aload, zo_istore, zo_lstore, zo_astore, zo_iinc, zo_pushI, zo_pushL, zo_null, zo_ii, zo_iid, zo_ll, zo_li, zo_lcmp, zo_i2l, zo_l2i, zo_dup, zo_dup2, zo_pop, zo_goto, zo_if, zo_icmp, zo_ifnull, zo_gets, zo_mm, zo_throw, zo_ret, zo_aret, zo_lret, q_iret_f, q_iret_1, q_iret_0, q_iret_b, q_c8_0, q_c8_1, q_c8_2, q_c8_3, q_c8_4, q_set_0, q_set_1i, q_set_1r, q_set_1n, q_set_1N, q_set_s, q_set_1j, q_bk_v, q_bk_n, q_if, zb_ite, cond_true, cond_false, List.getElem?_cons_zero, List.getElem?_cons_succ, Nat.reduceAdd, hr, hf, hd, i1, e2, i2, x2, q_aC, setD_s, s1, s2, if_true, if_false, zb_eq0, zb_eq1, zn_1, not_true_eq_false, not_false_eq_true, ite_true, ite_false, if_true, if_false, q_iret_0, q_iret_1, decide_true, decide_false, decide_not, zb_t, zb_f, z10, z01, cond_true, cond_false, Bool.and_true, Bool.true_and, Bool.and_false, Bool.false_and, Bool.not_true, Bool.not_false, true_and, and_true, false_and, and_false, true_or, or_true, false_or, or_false, Bool.true_eq_false, Bool.false_eq_true, eq_self, reduceCtorEq])
        · simp only [Bool.and_false, cond_false, nz_A, nz_D]
      · rw [c2] at s2
        refine ⟨M', ?_, s4⟩
        cases c3 : (aWr (nz M) o (settled M (dUp (dUp (rw32 M (row M o)) (zz_ix f) x) (11 + zz_ix f) m)).2).1 <;> rw [c3] at s3 <;>
          (simp only [e_X9_applyField, zo_iload, zo_lload, zo_aload, zo_istore, zo_lstore, zo_astore, zo_iinc, zo_pushI, zo_pushL, zo_null, zo_ii, zo_iid, zo_ll, zo_li, zo_lcmp, zo_i2l, zo_l2i, zo_dup, zo_dup2, zo_pop, zo_goto, zo_if, zo_icmp, zo_ifnull, zo_gets, zo_mm, zo_throw, zo_ret, zo_aret, zo_lret, q_iret_f, q_iret_1, q_iret_0, q_iret_b, q_c8_0, q_c8_1, q_c8_2, q_c8_3, q_c8_4, q_set_0, q_set_1i, q_set_1r, q_set_1n, q_set_1N, q_set_s, q_set_1j, q_bk_v, q_bk_n, q_if, zb_ite, cond_true, cond_false, List.getElem?_cons_zero, List.getElem?_cons_succ, Nat.reduceAdd, hr, hf, hd, i1, e2, i2, x2, q_aC, setD_s, s1, s2, s3, c3, if_true, if_false, zb_eq0, zb_eq1, zn_1, not_true_eq_false, not_false_eq_true, ite_true, ite_false, if_true, if_false, q_iret_0, q_iret_1, decide_true, decide_false, decide_not, zb_t, zb_f, z10, z01, cond_true, cond_false, Bool.and_true, Bool.true_and, Bool.and_false, Bool.false_and, Bool.not_true, Bool.not_false, true_and, and_true, false_and, and_false, true_or, or_true, false_or, or_false, Bool.true_eq_false, Bool.false_eq_true, eq_self, reduceCtorEq])
theorem sp_applyBoth {M : zzMd} (W : zIC M) {o : Nat} (ho : o < 60) (m x y : Int32) :
    ∃ M', fX9_applyBoth [.ref 1, .int m, .int (zn o), .int x, .int y] M = some (.inl (some (.int (zb (aAp2 (nz M) m o x y).1))), M') ∧ nz M' = (aAp2 (nz M) m o x y).2 := by
  have hd := sp_draftFrom W ho
  have hc : eq32 (dUp (dUp (dUp (dUp (rw32 M (row M o)) 2 x) 3 y) 13 m) 14 m) (dUp (dUp (dUp (dUp (row M o) 2 x) 3 y) 13 m) 14 m) := dUp_c (dUp_c (dUp_c (dUp_c (rw32_c M _))))
  rw [s_X9_applyBoth]
  unfold aAp2
  rw [row_nz, ← aAd_c (A := nz M) W.2.1 o hc]
  obtain ⟨A, s1, s2, M', s3, s4⟩ := sp_ad W ho (dUp (dUp (dUp (dUp (rw32 M (row M o)) 2 x) 3 y) 13 m) 14 m)
  unfold aAd
  rw [settled_nz, allowed_nz]
  cases c1 : (settled M (dUp (dUp (dUp (dUp (rw32 M (row M o)) 2 x) 3 y) 13 m) 14 m)).1
  · rw [c1] at s1
    refine ⟨setA (setD M (settled M (dUp (dUp (dUp (dUp (rw32 M (row M o)) 2 x) 3 y) 13 m) 14 m)).2) A, ?_, ?_⟩
    · (simp only [e_X9_applyBoth, zo_iload, zo_lload, zo_aload, zo_istore, zo_lstore, zo_astore, zo_iinc, zo_pushI, zo_pushL, zo_null, zo_ii, zo_iid, zo_ll, zo_li, zo_lcmp, zo_i2l, zo_l2i, zo_dup, zo_dup2, zo_pop, zo_goto, zo_if, zo_icmp, zo_ifnull, zo_gets, zo_mm, zo_throw, zo_ret, zo_aret, zo_lret, q_iret_f, q_iret_1, q_iret_0, q_iret_b, q_c8_0, q_c8_1, q_c8_2, q_c8_3, q_c8_4, q_set_0, q_set_1i, q_set_1r, q_set_1n, q_set_1N, q_set_s, q_set_1j, q_bk_v, q_bk_n, q_if, zb_ite, cond_true, cond_false, List.getElem?_cons_zero, List.getElem?_cons_succ, Nat.reduceAdd, hd, q_aC, q_ix, q_in, Nat.reduceLT, setD_s, s1, if_true, if_false, zb_eq0, zb_eq1, zn_1, not_true_eq_false, not_false_eq_true, ite_true, ite_false, if_true, if_false, q_iret_0, q_iret_1, decide_true, decide_false, decide_not, zb_t, zb_f, z10, z01, cond_true, cond_false, Bool.and_true, Bool.true_and, Bool.and_false, Bool.false_and, Bool.not_true, Bool.not_false, true_and, and_true, false_and, and_false, true_or, or_true, false_or, or_false, Bool.true_eq_false, Bool.false_eq_true, eq_self, reduceCtorEq])
    · simp only [Bool.false_and, cond_false, nz_A, nz_D]
  · rw [c1] at s1
    cases c2 : allowed M (settled M (dUp (dUp (dUp (dUp (rw32 M (row M o)) 2 x) 3 y) 13 m) 14 m)).2
    · rw [c2] at s2
      refine ⟨setA (setD M (settled M (dUp (dUp (dUp (dUp (rw32 M (row M o)) 2 x) 3 y) 13 m) 14 m)).2) A, ?_, ?_⟩
      · (simp only [e_X9_applyBoth, zo_iload, zo_lload, zo_aload, zo_istore, zo_lstore, zo_astore, zo_iinc, zo_pushI, zo_pushL, zo_null, zo_ii, zo_iid, zo_ll, zo_li, zo_lcmp, zo_i2l, zo_l2i, zo_dup, zo_dup2, zo_pop, zo_goto, zo_if, zo_icmp, zo_ifnull, zo_gets, zo_mm, zo_throw, zo_ret, zo_aret, zo_lret, q_iret_f, q_iret_1, q_iret_0, q_iret_b, q_c8_0, q_c8_1, q_c8_2, q_c8_3, q_c8_4, q_set_0, q_set_1i, q_set_1r, q_set_1n, q_set_1N, q_set_s, q_set_1j, q_bk_v, q_bk_n, q_if, zb_ite, cond_true, cond_false, List.getElem?_cons_zero, List.getElem?_cons_succ, Nat.reduceAdd, hd, q_aC, q_ix, q_in, Nat.reduceLT, setD_s, s1, s2, if_true, if_false, zb_eq0, zb_eq1, zn_1, not_true_eq_false, not_false_eq_true, ite_true, ite_false, if_true, if_false, q_iret_0, q_iret_1, decide_true, decide_false, decide_not, zb_t, zb_f, z10, z01, cond_true, cond_false, Bool.and_true, Bool.true_and, Bool.and_false, Bool.false_and, Bool.not_true, Bool.not_false, true_and, and_true, false_and, and_false, true_or, or_true, false_or, or_false, Bool.true_eq_false, Bool.false_eq_true, eq_self, reduceCtorEq])
      · simp only [Bool.and_false, cond_false, nz_A, nz_D]
    · rw [c2] at s2
      refine ⟨M', ?_, s4⟩
      cases c3 : (aWr (nz M) o (settled M (dUp (dUp (dUp (dUp (rw32 M (row M o)) 2 x) 3 y) 13 m) 14 m)).2).1 <;> rw [c3] at s3 <;>
        (simp only [e_X9_applyBoth, zo_iload, zo_lload, zo_aload, zo_istore, zo_lstore, zo_astore, zo_iinc, zo_pushI, zo_pushL, zo_null, zo_ii, zo_iid, zo_ll, zo_li, zo_lcmp, zo_i2l, zo_l2i, zo_dup, zo_dup2, zo_pop, zo_goto, zo_if, zo_icmp, zo_ifnull, zo_gets, zo_mm, zo_throw, zo_ret, zo_aret, zo_lret, q_iret_f, q_iret_1, q_iret_0, q_iret_b, q_c8_0, q_c8_1, q_c8_2, q_c8_3, q_c8_4, q_set_0, q_set_1i, q_set_1r, q_set_1n, q_set_1N, q_set_s, q_set_1j, q_bk_v, q_bk_n, q_if, zb_ite, cond_true, cond_false, List.getElem?_cons_zero, List.getElem?_cons_succ, Nat.reduceAdd, hd, q_aC, q_ix, q_in, Nat.reduceLT, setD_s, s1, s2, s3, c3, if_true, if_false, zb_eq0, zb_eq1, zn_1, not_true_eq_false, not_false_eq_true, ite_true, ite_false, if_true, if_false, q_iret_0, q_iret_1, decide_true, decide_false, decide_not, zb_t, zb_f, z10, z01, cond_true, cond_false, Bool.and_true, Bool.true_and, Bool.and_false, Bool.false_and, Bool.not_true, Bool.not_false, true_and, and_true, false_and, and_false, true_or, or_true, false_or, or_false, Bool.true_eq_false, Bool.false_eq_true, eq_self, reduceCtorEq])
/-- a new object's draft -/
def dNew (m k w t : Int32) (o : Nat) : Nat → Int32 := fun s =>
  if s = 1 then t else if s = 2 ∨ s = 10 then 1 else if s = 7 then 4 else if s < 11 then 0 else if s < 22 then m else if s = 22 then zn o else if s = 23 then k else if s = 24 then w else if s = 25 then 0 else if s = 26 then 0 else if s = 27 then 1 else if s = 28 then -1 else 0
def liveP (A : zzMd) : Nat := zcnt (nv A 1) fun i => decide (rd A 1 (zn i) 23 = 2 ∧ ¬ rd A 1 (zn i) 25 = 4)
theorem sp_livingPods {M : zzMd} (W : zIC M) : fX9_livingPods [.ref 1] M = some (.inl (some (.int (zn (liveP M)))), M) := by
  have W1 := zIC_1 W
  have hr := fun x s => sp_read' W1 x s
  obtain ⟨hv, -, hk, hn⟩ := W1
  have st : fX9_livingPods [.ref 1] M = zz_ev tX9_livingPods 4 [some (.ref 1), some (.int 0), some (.int 0)] [] M := by
    rw [s_X9_livingPods]
    (simp only [e_X9_livingPods, zo_iload, zo_lload, zo_aload, zo_istore, zo_lstore, zo_astore, zo_iinc, zo_pushI, zo_pushL, zo_null, zo_ii, zo_iid, zo_ll, zo_li, zo_lcmp, zo_i2l, zo_l2i, zo_dup, zo_dup2, zo_pop, zo_goto, zo_if, zo_icmp, zo_ifnull, zo_gets, zo_mm, zo_throw, zo_ret, zo_aret, zo_lret, q_iret_f, q_iret_1, q_iret_0, q_iret_b, q_c8_0, q_c8_1, q_c8_2, q_c8_3, q_c8_4, q_set_0, q_set_1i, q_set_1r, q_set_1n, q_set_1N, q_set_s, q_set_1j, q_bk_v, q_bk_n, q_if, zb_ite, cond_true, cond_false, List.getElem?_cons_zero, List.getElem?_cons_succ, Nat.reduceAdd, if_true, if_false, zb_eq0, zb_eq1, zn_1, not_true_eq_false, not_false_eq_true, ite_true, ite_false, if_true, if_false, q_iret_0, q_iret_1, decide_true, decide_false, decide_not, zb_t, zb_f, z10, z01, cond_true, cond_false, Bool.and_true, Bool.true_and, Bool.and_false, Bool.false_and, Bool.not_true, Bool.not_false, true_and, and_true, false_and, and_false, true_or, or_true, false_or, or_false, Bool.true_eq_false, Bool.false_eq_true, eq_self, reduceCtorEq])
  unfold liveP
  have lp := zl_go (E := fun i => zz_ev tX9_livingPods 4 [some (.ref 1), some (.int (zn (zcnt i fun i => decide (rd M 1 (zn i) 23 = 2 ∧ ¬ rd M 1 (zn i) 25 = 4)))), some (.int (zn i))] [] M) (nv M 1) (fun i hi => by
    have hc := zk_in hi hn
    by_cases h1 : rd M 1 (zn i) 23 = 2 <;> by_cases h2 : rd M 1 (zn i) 25 = 4 <;>
      ((rw [e_X9_livingPods_4]; simp only [e_X9_livingPods, zo_iload, zo_lload, zo_aload, zo_istore, zo_lstore, zo_astore, zo_iinc, zo_pushI, zo_pushL, zo_null, zo_ii, zo_iid, zo_ll, zo_li, zo_lcmp, zo_i2l, zo_l2i, zo_dup, zo_dup2, zo_pop, zo_goto, zo_if, zo_icmp, zo_ifnull, zo_gets, zo_mm, zo_throw, zo_ret, zo_aret, zo_lret, q_iret_f, q_iret_1, q_iret_0, q_iret_b, q_c8_0, q_c8_1, q_c8_2, q_c8_3, q_c8_4, q_set_0, q_set_1i, q_set_1r, q_set_1n, q_set_1N, q_set_s, q_set_1j, q_bk_v, q_bk_n, q_if, zb_ite, cond_true, cond_false, List.getElem?_cons_zero, List.getElem?_cons_succ, Nat.reduceAdd, hk, hc, hr, h1, h2, zcnt_s, Int32.add_zero, Nat.add_zero, if_true, if_false, zb_eq0, zb_eq1, zn_1, not_true_eq_false, not_false_eq_true, ite_true, ite_false, if_true, if_false, q_iret_0, q_iret_1, decide_true, decide_false, decide_not, zb_t, zb_f, z10, z01, cond_true, cond_false, Bool.and_true, Bool.true_and, Bool.and_false, Bool.false_and, Bool.not_true, Bool.not_false, true_and, and_true, false_and, and_false, true_or, or_true, false_or, or_false, Bool.true_eq_false, Bool.false_eq_true, eq_self, reduceCtorEq])))
  refine (st.trans lp).trans ?_
  have hc := zk_out hn
  (rw [e_X9_livingPods_4]; simp only [e_X9_livingPods, zo_iload, zo_lload, zo_aload, zo_istore, zo_lstore, zo_astore, zo_iinc, zo_pushI, zo_pushL, zo_null, zo_ii, zo_iid, zo_ll, zo_li, zo_lcmp, zo_i2l, zo_l2i, zo_dup, zo_dup2, zo_pop, zo_goto, zo_if, zo_icmp, zo_ifnull, zo_gets, zo_mm, zo_throw, zo_ret, zo_aret, zo_lret, q_iret_f, q_iret_1, q_iret_0, q_iret_b, q_c8_0, q_c8_1, q_c8_2, q_c8_3, q_c8_4, q_set_0, q_set_1i, q_set_1r, q_set_1n, q_set_1N, q_set_s, q_set_1j, q_bk_v, q_bk_n, q_if, zb_ite, cond_true, cond_false, List.getElem?_cons_zero, List.getElem?_cons_succ, Nat.reduceAdd, hk, hc, if_true, if_false, zb_eq0, zb_eq1, zn_1, not_true_eq_false, not_false_eq_true, ite_true, ite_false, if_true, if_false, q_iret_0, q_iret_1, decide_true, decide_false, decide_not, zb_t, zb_f, z10, z01, cond_true, cond_false, Bool.and_true, Bool.true_and, Bool.and_false, Bool.false_and, Bool.not_true, Bool.not_false, true_and, and_true, false_and, and_false, true_or, or_true, false_or, or_false, Bool.true_eq_false, Bool.false_eq_true, eq_self, reduceCtorEq])
def dNewK (m : Int32) (D : Nat → Int32) (i : Nat) : Nat → Int32 := zfold i (fun f E => dUp (dUp E f (([0, 0, 1, 0, 0, 0, 0, 4, 0, 0, 1] : List Int32).getD f 0)) (11 + f) m) D
theorem sp_draftNew (M : zzMd) (m k : Int32) : ∃ D, fX9_draftNew [.ref 1, .int m, .int k] M = some (.inl none, setD M D) ∧ ∀ w t o, eq32 (dUp (dUp (dUp D 22 (zn o)) 24 w) 1 t) (dNew m k w t o) := by
  have lp := zl_go (E := fun i => zz_ev tX9_draftNew 2 [some (.ref 1), some (.int m), some (.int k), some (.int (zn i))] [] (setD M (dNewK m (M.1 17) i))) 11 (fun i hi => by
    have hc : ((11 : Int32) ≤ zn i) = False := zk_lt (n := 11) hi (Nat.le_refl 11) (by decide)
    have b1 : zz_inb (zn i) 32 = true := zn_inT (by omega) (by omega)
    have b2 : zz_inb (zn i) 11 = true := zn_inT (by omega) (by omega)
    have b3 : zz_inb (zn (11 + i)) 32 = true := zn_inT (by omega) (by omega)
    have x1 : zz_ix (zn i) = i := zn_ix (by omega)
    have x3 : zz_ix (zn (11 + i)) = 11 + i := zn_ix (by omega)
    have e3 : (11 : Int32) + zn i = zn (11 + i) := zn_add 11 i
    have ek : dNewK m (M.1 17) (i + 1) = dUp (dUp (dNewK m (M.1 17) i) i (([0, 0, 1, 0, 0, 0, 0, 4, 0, 0, 1] : List Int32).getD i 0)) (11 + i) m := rfl
    rw [ek]
    (rw [e_X9_draftNew_2]; simp only [e_X9_draftNew, zo_iload, zo_lload, zo_aload, zo_istore, zo_lstore, zo_astore, zo_iinc, zo_pushI, zo_pushL, zo_null, zo_ii, zo_iid, zo_ll, zo_li, zo_lcmp, zo_i2l, zo_l2i, zo_dup, zo_dup2, zo_pop, zo_goto, zo_if, zo_icmp, zo_ifnull, zo_gets, zo_mm, zo_throw, zo_ret, zo_aret, zo_lret, q_iret_f, q_iret_1, q_iret_0, q_iret_b, q_c8_0, q_c8_1, q_c8_2, q_c8_3, q_c8_4, q_set_0, q_set_1i, q_set_1r, q_set_1n, q_set_1N, q_set_s, q_set_1j, q_bk_v, q_bk_n, q_if, zb_ite, cond_true, cond_false, List.getElem?_cons_zero, List.getElem?_cons_succ, Nat.reduceAdd, hc, b1, b2, b3, x1, x3, e3, q_aC, setD_s, if_true, if_false, zb_eq0, zb_eq1, zn_1, not_true_eq_false, not_false_eq_true, ite_true, ite_false, if_true, if_false, q_iret_0, q_iret_1, decide_true, decide_false, decide_not, zb_t, zb_f, z10, z01, cond_true, cond_false, Bool.and_true, Bool.true_and, Bool.and_false, Bool.false_and, Bool.not_true, Bool.not_false, true_and, and_true, false_and, and_false, true_or, or_true, false_or, or_false, Bool.true_eq_false, Bool.false_eq_true, eq_self, reduceCtorEq]))
  have hc : ((11 : Int32) ≤ zn 11) = True := eq_true (by decide)
  refine ⟨dUp (dUp (dUp (dUp (dUp (dUp (dUp (dUp (dNewK m (M.1 17) 11) 23 k) 25 0) 26 0) 27 1) 28 (-1)) 29 0) 30 0) 31 0, ?_, ?_⟩
  · rw [s_X9_draftNew]
    have st : zz_ev tX9_draftNew 0 [some (.ref 1), some (.int m), some (.int k), none] [] M = zz_ev tX9_draftNew 2 [some (.ref 1), some (.int m), some (.int k), some (.int (zn 0))] [] (setD M (dNewK m (M.1 17) 0)) := by
      rw [show dNewK m (M.1 17) 0 = M.1 17 from rfl, setD_0]
      (simp only [e_X9_draftNew, zo_iload, zo_lload, zo_aload, zo_istore, zo_lstore, zo_astore, zo_iinc, zo_pushI, zo_pushL, zo_null, zo_ii, zo_iid, zo_ll, zo_li, zo_lcmp, zo_i2l, zo_l2i, zo_dup, zo_dup2, zo_pop, zo_goto, zo_if, zo_icmp, zo_ifnull, zo_gets, zo_mm, zo_throw, zo_ret, zo_aret, zo_lret, q_iret_f, q_iret_1, q_iret_0, q_iret_b, q_c8_0, q_c8_1, q_c8_2, q_c8_3, q_c8_4, q_set_0, q_set_1i, q_set_1r, q_set_1n, q_set_1N, q_set_s, q_set_1j, q_bk_v, q_bk_n, q_if, zb_ite, cond_true, cond_false, List.getElem?_cons_zero, List.getElem?_cons_succ, Nat.reduceAdd, if_true, if_false, zb_eq0, zb_eq1, zn_1, not_true_eq_false, not_false_eq_true, ite_true, ite_false, if_true, if_false, q_iret_0, q_iret_1, decide_true, decide_false, decide_not, zb_t, zb_f, z10, z01, cond_true, cond_false, Bool.and_true, Bool.true_and, Bool.and_false, Bool.false_and, Bool.not_true, Bool.not_false, true_and, and_true, false_and, and_false, true_or, or_true, false_or, or_false, Bool.true_eq_false, Bool.false_eq_true, eq_self, reduceCtorEq])
      rfl
    rw [st, lp]
    (rw [e_X9_draftNew_2]; simp only [e_X9_draftNew, zo_iload, zo_lload, zo_aload, zo_istore, zo_lstore, zo_astore, zo_iinc, zo_pushI, zo_pushL, zo_null, zo_ii, zo_iid, zo_ll, zo_li, zo_lcmp, zo_i2l, zo_l2i, zo_dup, zo_dup2, zo_pop, zo_goto, zo_if, zo_icmp, zo_ifnull, zo_gets, zo_mm, zo_throw, zo_ret, zo_aret, zo_lret, q_iret_f, q_iret_1, q_iret_0, q_iret_b, q_c8_0, q_c8_1, q_c8_2, q_c8_3, q_c8_4, q_set_0, q_set_1i, q_set_1r, q_set_1n, q_set_1N, q_set_s, q_set_1j, q_bk_v, q_bk_n, q_if, zb_ite, cond_true, cond_false, List.getElem?_cons_zero, List.getElem?_cons_succ, Nat.reduceAdd, hc, q_aC, q_ix, q_in, Nat.reduceLT, setD_s, if_true, if_false, zb_eq0, zb_eq1, zn_1, not_true_eq_false, not_false_eq_true, ite_true, ite_false, if_true, if_false, q_iret_0, q_iret_1, decide_true, decide_false, decide_not, zb_t, zb_f, z10, z01, cond_true, cond_false, Bool.and_true, Bool.true_and, Bool.and_false, Bool.false_and, Bool.not_true, Bool.not_false, true_and, and_true, false_and, and_false, true_or, or_true, false_or, or_false, Bool.true_eq_false, Bool.false_eq_true, eq_self, reduceCtorEq])
  · intro w t o s hs
    have : ∀ s, s < 32 → s = 0 ∨ s = 1 ∨ s = 2 ∨ s = 3 ∨ s = 4 ∨ s = 5 ∨ s = 6 ∨ s = 7 ∨ s = 8 ∨ s = 9 ∨ s = 10 ∨ s = 11 ∨ s = 12 ∨ s = 13 ∨ s = 14 ∨ s = 15 ∨ s = 16 ∨ s = 17 ∨ s = 18 ∨ s = 19 ∨ s = 20 ∨ s = 21 ∨ s = 22 ∨ s = 23 ∨ s = 24 ∨ s = 25 ∨ s = 26 ∨ s = 27 ∨ s = 28 ∨ s = 29 ∨ s = 30 ∨ s = 31 := by omega
    rcases this s hs with rfl | rfl | rfl | rfl | rfl | rfl | rfl | rfl | rfl | rfl | rfl | rfl | rfl | rfl | rfl | rfl | rfl | rfl | rfl | rfl | rfl | rfl | rfl | rfl | rfl | rfl | rfl | rfl | rfl | rfl | rfl | rfl <;> rfl
end

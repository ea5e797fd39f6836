section
/-! what a view reads -/
def latA (v : Nat) : Nat := bif Nat.beq v 1 then 15 else 21 + 6 * (v - 3)
def zV (v : Nat) : Prop := v = 1 ∨ v = 3 ∨ v = 4 ∨ v = 5 ∨ v = 6 ∨ v = 7 ∨ v = 8 ∨ v = 9 ∨ v = 10
def rd (M : zzMd) (v : Nat) (x s : Int32) : Int32 := if x < 0 ∨ 60 ≤ x ∨ s < 0 ∨ 32 ≤ s then -1 else M.1 14 (zz_ix (M.1 (latA v) (zz_ix x)) * 32 + zz_ix s)
def zLat (M : zzMd) (v : Nat) : Prop := ∀ o, o < 60 → 0 ≤ (M.1 (latA v) o).toInt ∧ (M.1 (latA v) o).toInt ≤ 400
theorem zi_rng {x : Int32} {n : Int32} (h0 : ¬ x < 0) (h1 : ¬ n ≤ x) : x = zn (zz_ix x) ∧ (zz_ix x : Int) < n.toInt := by
  rw [Int32.lt_iff_toInt_lt] at h0
  rw [Int32.le_iff_toInt_le] at h1
  have h2 : (0 : Int32).toInt = 0 := rfl
  rw [h2] at h0
  have h3 := Int32.toInt_lt x
  have h4 := zn_of (x := x) (n := 2147483648) (by omega) (by omega)
  have h5 : ((zz_ix x : Nat) : Int) = x.toInt := by rw [← zn_toInt (k := zz_ix x) h4.2, ← h4.1]
  exact ⟨h4.1, by omega⟩
theorem sp_read {M : zzMd} {v : Nat} (hv : zV v) (hL : zLat M v) (x s : Int32) : fX10_read [.ref v, .int x, .int s] M = some (.inl (some (.int (rd M v x s))), M) := by
  rw [s_X10_read]
  unfold rd
  by_cases h1 : x < 0
  · rw [if_pos (Or.inl h1)]
    simp only [e_X10_read, zo_iload, zo_lload, zo_aload, zo_istore, zo_lstore, zo_astore, zo_iinc, zo_pushI, zo_pushL, zo_null, zo_ii, zo_iid, zo_ll, zo_li, zo_lcmp, zo_i2l, zo_l2i, zo_dup, zo_dup2, zo_pop, zo_goto, zo_if, zo_icmp, zo_ifnull, zo_gets, zo_mm, zo_throw, zo_ret, zo_aret, zo_lret, q_iret_f, q_iret_1, q_iret_0, q_iret_b, q_c8_0, q_c8_1, q_c8_2, q_c8_3, q_c8_4, q_set_0, q_set_1i, q_set_1r, q_set_1n, q_set_1N, q_set_s, q_set_1j, q_bk_v, q_bk_n, q_if, zb_ite, cond_true, cond_false, List.getElem?_cons_zero, List.getElem?_cons_succ, Nat.reduceAdd, h1, if_true]
  · by_cases h2 : 60 ≤ x
    · rw [if_pos (Or.inr (Or.inl h2))]
      simp only [e_X10_read, zo_iload, zo_lload, zo_aload, zo_istore, zo_lstore, zo_astore, zo_iinc, zo_pushI, zo_pushL, zo_null, zo_ii, zo_iid, zo_ll, zo_li, zo_lcmp, zo_i2l, zo_l2i, zo_dup, zo_dup2, zo_pop, zo_goto, zo_if, zo_icmp, zo_ifnull, zo_gets, zo_mm, zo_throw, zo_ret, zo_aret, zo_lret, q_iret_f, q_iret_1, q_iret_0, q_iret_b, q_c8_0, q_c8_1, q_c8_2, q_c8_3, q_c8_4, q_set_0, q_set_1i, q_set_1r, q_set_1n, q_set_1N, q_set_s, q_set_1j, q_bk_v, q_bk_n, q_if, zb_ite, cond_true, cond_false, List.getElem?_cons_zero, List.getElem?_cons_succ, Nat.reduceAdd, h1, h2, if_true, if_false]
    · by_cases h3 : s < 0
      · rw [if_pos (Or.inr (Or.inr (Or.inl h3)))]
        simp only [e_X10_read, zo_iload, zo_lload, zo_aload, zo_istore, zo_lstore, zo_astore, zo_iinc, zo_pushI, zo_pushL, zo_null, zo_ii, zo_iid, zo_ll, zo_li, zo_lcmp, zo_i2l, zo_l2i, zo_dup, zo_dup2, zo_pop, zo_goto, zo_if, zo_icmp, zo_ifnull, zo_gets, zo_mm, zo_throw, zo_ret, zo_aret, zo_lret, q_iret_f, q_iret_1, q_iret_0, q_iret_b, q_c8_0, q_c8_1, q_c8_2, q_c8_3, q_c8_4, q_set_0, q_set_1i, q_set_1r, q_set_1n, q_set_1N, q_set_s, q_set_1j, q_bk_v, q_bk_n, q_if, zb_ite, cond_true, cond_false, List.getElem?_cons_zero, List.getElem?_cons_succ, Nat.reduceAdd, h1, h2, h3, if_true, if_false]
      · by_cases h4 : 32 ≤ s
        · rw [if_pos (Or.inr (Or.inr (Or.inr h4)))]
          have h5 : ¬ s < 32 := Int32.not_lt.mpr h4
          simp only [e_X10_read, zo_iload, zo_lload, zo_aload, zo_istore, zo_lstore, zo_astore, zo_iinc, zo_pushI, zo_pushL, zo_null, zo_ii, zo_iid, zo_ll, zo_li, zo_lcmp, zo_i2l, zo_l2i, zo_dup, zo_dup2, zo_pop, zo_goto, zo_if, zo_icmp, zo_ifnull, zo_gets, zo_mm, zo_throw, zo_ret, zo_aret, zo_lret, q_iret_f, q_iret_1, q_iret_0, q_iret_b, q_c8_0, q_c8_1, q_c8_2, q_c8_3, q_c8_4, q_set_0, q_set_1i, q_set_1r, q_set_1n, q_set_1N, q_set_s, q_set_1j, q_bk_v, q_bk_n, q_if, zb_ite, cond_true, cond_false, List.getElem?_cons_zero, List.getElem?_cons_succ, Nat.reduceAdd, h1, h2, h3, h5, if_true, if_false]
        · rw [if_neg (by rintro (a | a | a | a) <;> contradiction)]
          have h5 : s < 32 := Int32.not_le.mp h4
          obtain ⟨a1, a2⟩ := zi_rng h1 h2
          obtain ⟨b1, b2⟩ := zi_rng h3 h4
          have a3 : zz_ix x < 60 := by
            have : (60 : Int32).toInt = 60 := rfl
            omega
          have b3 : zz_ix s < 32 := by
            have : (32 : Int32).toInt = 32 := rfl
            omega
          obtain ⟨c1, c2⟩ := hL _ a3
          obtain ⟨d1, d2⟩ := zn_of (n := 401) c1 (by omega)
          have i1 : zz_inb x 60 = true := by rw [a1, zn_inb (by omega)]; exact decide_eq_true a3
          have i2 : M.1 (latA v) (zz_ix x) * 32 + s = zn (zz_ix (M.1 (latA v) (zz_ix x)) * 32 + zz_ix s) := by
            conv => lhs; rw [d1, b1]
            rw [← zn_add, ← zn_mul]
            rfl
          have i3 : zz_inb (M.1 (latA v) (zz_ix x) * 32 + s) 12832 = true := by rw [i2, zn_inb (by omega)]; exact decide_eq_true (by omega)
          have i4 : zz_ix (M.1 (latA v) (zz_ix x) * 32 + s) = zz_ix (M.1 (latA v) (zz_ix x)) * 32 + zz_ix s := by rw [i2]; exact zn_ix (by omega)
          rcases hv with rfl | rfl | rfl | rfl | rfl | rfl | rfl | rfl | rfl <;>
            · simp only [latA, Nat.beq, cond_true, cond_false, Nat.reduceSub, Nat.reduceMul, Nat.reduceAdd] at i3 i4 ⊢
              simp only [e_X10_read, zo_iload, zo_lload, zo_aload, zo_istore, zo_lstore, zo_astore, zo_iinc, zo_pushI, zo_pushL, zo_null, zo_ii, zo_iid, zo_ll, zo_li, zo_lcmp, zo_i2l, zo_l2i, zo_dup, zo_dup2, zo_pop, zo_goto, zo_if, zo_icmp, zo_ifnull, zo_gets, zo_mm, zo_throw, zo_ret, zo_aret, zo_lret, q_iret_f, q_iret_1, q_iret_0, q_iret_b, q_c8_0, q_c8_1, q_c8_2, q_c8_3, q_c8_4, q_set_0, q_set_1i, q_set_1r, q_set_1n, q_set_1N, q_set_s, q_set_1j, q_bk_v, q_bk_n, q_if, zb_ite, cond_true, cond_false, List.getElem?_cons_zero, List.getElem?_cons_succ, Nat.reduceAdd, q_aC, h1, h2, h3, h5, i1, i3, i4, if_true, if_false]
theorem zk_in {i n : Nat} (hi : i < n) (hn : n ≤ 60) : (zn n ≤ zn i) = False := by
  rw [zn_le (by omega) (by omega)]
  exact eq_false (by omega)
theorem zk_out {n : Nat} (hn : n ≤ 60) : (zn n ≤ zn n) = True := by
  rw [zn_le (by omega) (by omega)]
  exact eq_true (Nat.le_refl n)
def zoi : Option Nat → Int32
  | some k => zn k
  | none => -1
def gone (M : zzMd) (v : Nat) (x : Int32) : Bool := decide (rd M v x 25 = 4)
def owned (M : zzMd) (v : Nat) (x k w : Int32) : Bool := decide (rd M v x 24 = w ∧ rd M v x 23 = k ∧ rd M v x 25 = 0)
def stay (M : zzMd) (v : Nat) (x k : Int32) : Bool := decide (rd M v x 23 = k ∧ rd M v x 25 = 0)
def kept (M : zzMd) (v : Nat) (x : Int32) : Bool := decide (rd M v x 26 = 1 ∨ ¬ rd M v x 28 = -1)
def newSet (M : zzMd) (v n : Nat) (d : Int32) : Option Nat := zfst n fun i => owned M v (zn i) 1 d && decide (rd M v (zn i) 1 = rd M v d 1)
def cntRun (M : zzMd) (v n : Nat) (w : Int32) : Nat := if w = -1 then 0 else zcnt n fun i => owned M v (zn i) 2 w && decide (rd M v (zn i) 29 = 1)
def zVw (M : zzMd) (v n : Nat) : Prop := zV v ∧ zLat M v ∧ M.1 v 2 = zn n ∧ n ≤ 60
section
variable {M : zzMd} {v n : Nat}
theorem sp_read' (W : zVw M v n) (x s : Int32) : fX10_read [.ref v, .int x, .int s] M = some (.inl (some (.int (rd M v x s))), M) := sp_read W.1 W.2.1 x s
theorem sp_isGone (W : zVw M v n) (x : Int32) : fX10_isGone [.ref v, .int x] M = some (.inl (some (.int (zb (gone M v x)))), M) := by
  rw [s_X10_isGone]
  unfold gone
  have hr := fun s => sp_read' W x s
  obtain ⟨hv, -⟩ := W
  by_cases h : rd M v x 25 = 4 <;> rcases hv with rfl | rfl | rfl | rfl | rfl | rfl | rfl | rfl | rfl <;>
    · simp only [e_X10_isGone, zo_iload, zo_lload, zo_aload, zo_istore, zo_lstore, zo_astore, zo_iinc, zo_pushI, zo_pushL, zo_null, zo_ii, zo_iid, zo_ll, zo_li, zo_lcmp, zo_i2l, zo_l2i, zo_dup, zo_dup2, zo_pop, zo_goto, zo_if, zo_icmp, zo_ifnull, zo_gets, zo_mm, zo_throw, zo_ret, zo_aret, zo_lret, q_iret_f, q_iret_1, q_iret_0, q_iret_b, q_c8_0, q_c8_1, q_c8_2, q_c8_3, q_c8_4, q_set_0, q_set_1i, q_set_1r, q_set_1n, q_set_1N, q_set_s, q_set_1j, q_bk_v, q_bk_n, q_if, zb_ite, cond_true, cond_false, List.getElem?_cons_zero, List.getElem?_cons_succ, Nat.reduceAdd, hr]
      simp only [h, not_true_eq_false, not_false_eq_true, ite_true, ite_false, if_true, if_false, q_iret_0, q_iret_1, decide_true, decide_false, decide_not, zb_t, zb_f, z10, z01, cond_true, cond_false, Bool.and_true, Bool.true_and, Bool.and_false, Bool.false_and, Bool.not_true, Bool.not_false, true_and, and_true, false_and, and_false, true_or, or_true, false_or, or_false, Bool.true_eq_false, Bool.false_eq_true, eq_self, reduceCtorEq]
theorem sp_isStaying (W : zVw M v n) (x k : Int32) : fX10_isStaying [.ref v, .int x, .int k] M = some (.inl (some (.int (zb (stay M v x k)))), M) := by
  rw [s_X10_isStaying]
  unfold stay
  have hr := fun s => sp_read' W x s
  obtain ⟨hv, -⟩ := W
  by_cases h : rd M v x 23 = k <;> by_cases h2 : rd M v x 25 = 0 <;> rcases hv with rfl | rfl | rfl | rfl | rfl | rfl | rfl | rfl | rfl <;>
    · simp only [e_X10_isStaying, zo_iload, zo_lload, zo_aload, zo_istore, zo_lstore, zo_astore, zo_iinc, zo_pushI, zo_pushL, zo_null, zo_ii, zo_iid, zo_ll, zo_li, zo_lcmp, zo_i2l, zo_l2i, zo_dup, zo_dup2, zo_pop, zo_goto, zo_if, zo_icmp, zo_ifnull, zo_gets, zo_mm, zo_throw, zo_ret, zo_aret, zo_lret, q_iret_f, q_iret_1, q_iret_0, q_iret_b, q_c8_0, q_c8_1, q_c8_2, q_c8_3, q_c8_4, q_set_0, q_set_1i, q_set_1r, q_set_1n, q_set_1N, q_set_s, q_set_1j, q_bk_v, q_bk_n, q_if, zb_ite, cond_true, cond_false, List.getElem?_cons_zero, List.getElem?_cons_succ, Nat.reduceAdd, hr]
      simp only [h, h2, not_true_eq_false, not_false_eq_true, ite_true, ite_false, if_true, if_false, q_iret_0, q_iret_1, decide_true, decide_false, decide_not, zb_t, zb_f, z10, z01, cond_true, cond_false, Bool.and_true, Bool.true_and, Bool.and_false, Bool.false_and, Bool.not_true, Bool.not_false, true_and, and_true, false_and, and_false, true_or, or_true, false_or, or_false, Bool.true_eq_false, Bool.false_eq_true, eq_self, reduceCtorEq]
theorem sp_isOwned (W : zVw M v n) (x k w : Int32) : fX10_isOwned [.ref v, .int x, .int k, .int w] M = some (.inl (some (.int (zb (owned M v x k w)))), M) := by
  rw [s_X10_isOwned]
  unfold owned
  have hr := fun s => sp_read' W x s
  obtain ⟨hv, -⟩ := W
  by_cases h0 : rd M v x 24 = w <;> by_cases h : rd M v x 23 = k <;> by_cases h2 : rd M v x 25 = 0 <;> rcases hv with rfl | rfl | rfl | rfl | rfl | rfl | rfl | rfl | rfl <;>
    · simp only [e_X10_isOwned, zo_iload, zo_lload, zo_aload, zo_istore, zo_lstore, zo_astore, zo_iinc, zo_pushI, zo_pushL, zo_null, zo_ii, zo_iid, zo_ll, zo_li, zo_lcmp, zo_i2l, zo_l2i, zo_dup, zo_dup2, zo_pop, zo_goto, zo_if, zo_icmp, zo_ifnull, zo_gets, zo_mm, zo_throw, zo_ret, zo_aret, zo_lret, q_iret_f, q_iret_1, q_iret_0, q_iret_b, q_c8_0, q_c8_1, q_c8_2, q_c8_3, q_c8_4, q_set_0, q_set_1i, q_set_1r, q_set_1n, q_set_1N, q_set_s, q_set_1j, q_bk_v, q_bk_n, q_if, zb_ite, cond_true, cond_false, List.getElem?_cons_zero, List.getElem?_cons_succ, Nat.reduceAdd, hr]
      simp only [h0, h, h2, not_true_eq_false, not_false_eq_true, ite_true, ite_false, if_true, if_false, q_iret_0, q_iret_1, decide_true, decide_false, decide_not, zb_t, zb_f, z10, z01, cond_true, cond_false, Bool.and_true, Bool.true_and, Bool.and_false, Bool.false_and, Bool.not_true, Bool.not_false, true_and, and_true, false_and, and_false, true_or, or_true, false_or, or_false, Bool.true_eq_false, Bool.false_eq_true, eq_self, reduceCtorEq]
theorem sp_isKept (W : zVw M v n) (x : Int32) : fX10_isKept [.ref v, .int x] M = some (.inl (some (.int (zb (kept M v x)))), M) := by
  rw [s_X10_isKept]
  unfold kept
  have hr := fun s => sp_read' W x s
  obtain ⟨hv, -⟩ := W
  by_cases h0 : rd M v x 26 = 1 <;> by_cases h : rd M v x 28 = -1 <;> rcases hv with rfl | rfl | rfl | rfl | rfl | rfl | rfl | rfl | rfl <;>
    · simp only [e_X10_isKept, zo_iload, zo_lload, zo_aload, zo_istore, zo_lstore, zo_astore, zo_iinc, zo_pushI, zo_pushL, zo_null, zo_ii, zo_iid, zo_ll, zo_li, zo_lcmp, zo_i2l, zo_l2i, zo_dup, zo_dup2, zo_pop, zo_goto, zo_if, zo_icmp, zo_ifnull, zo_gets, zo_mm, zo_throw, zo_ret, zo_aret, zo_lret, q_iret_f, q_iret_1, q_iret_0, q_iret_b, q_c8_0, q_c8_1, q_c8_2, q_c8_3, q_c8_4, q_set_0, q_set_1i, q_set_1r, q_set_1n, q_set_1N, q_set_s, q_set_1j, q_bk_v, q_bk_n, q_if, zb_ite, cond_true, cond_false, List.getElem?_cons_zero, List.getElem?_cons_succ, Nat.reduceAdd, hr]
      simp only [h0, h, not_true_eq_false, not_false_eq_true, ite_true, ite_false, if_true, if_false, q_iret_0, q_iret_1, decide_true, decide_false, decide_not, zb_t, zb_f, z10, z01, cond_true, cond_false, Bool.and_true, Bool.true_and, Bool.and_false, Bool.false_and, Bool.not_true, Bool.not_false, true_and, and_true, false_and, and_false, true_or, or_true, false_or, or_false, Bool.true_eq_false, Bool.false_eq_true, eq_self, reduceCtorEq]
theorem sp_latestOf (W : zVw M v n) (x : Int32) : fX10_latestOf [.ref v, .int x] M = some (.inl (some (.int (if x < 0 ∨ 60 ≤ x then 0 else M.1 (latA v) (zz_ix x)))), M) := by
  rw [s_X10_latestOf]
  obtain ⟨hv, -⟩ := W
  by_cases h1 : x < 0
  · rw [if_pos (Or.inl h1)]
    simp only [e_X10_latestOf, zo_iload, zo_lload, zo_aload, zo_istore, zo_lstore, zo_astore, zo_iinc, zo_pushI, zo_pushL, zo_null, zo_ii, zo_iid, zo_ll, zo_li, zo_lcmp, zo_i2l, zo_l2i, zo_dup, zo_dup2, zo_pop, zo_goto, zo_if, zo_icmp, zo_ifnull, zo_gets, zo_mm, zo_throw, zo_ret, zo_aret, zo_lret, q_iret_f, q_iret_1, q_iret_0, q_iret_b, q_c8_0, q_c8_1, q_c8_2, q_c8_3, q_c8_4, q_set_0, q_set_1i, q_set_1r, q_set_1n, q_set_1N, q_set_s, q_set_1j, q_bk_v, q_bk_n, q_if, zb_ite, cond_true, cond_false, List.getElem?_cons_zero, List.getElem?_cons_succ, Nat.reduceAdd, h1, if_true]
  · by_cases h2 : 60 ≤ x
    · rw [if_pos (Or.inr h2)]
      have h3 : ¬ x < 60 := Int32.not_lt.mpr h2
      simp only [e_X10_latestOf, zo_iload, zo_lload, zo_aload, zo_istore, zo_lstore, zo_astore, zo_iinc, zo_pushI, zo_pushL, zo_null, zo_ii, zo_iid, zo_ll, zo_li, zo_lcmp, zo_i2l, zo_l2i, zo_dup, zo_dup2, zo_pop, zo_goto, zo_if, zo_icmp, zo_ifnull, zo_gets, zo_mm, zo_throw, zo_ret, zo_aret, zo_lret, q_iret_f, q_iret_1, q_iret_0, q_iret_b, q_c8_0, q_c8_1, q_c8_2, q_c8_3, q_c8_4, q_set_0, q_set_1i, q_set_1r, q_set_1n, q_set_1N, q_set_s, q_set_1j, q_bk_v, q_bk_n, q_if, zb_ite, cond_true, cond_false, List.getElem?_cons_zero, List.getElem?_cons_succ, Nat.reduceAdd, h1, h2, h3, if_true, if_false]
    · rw [if_neg (by rintro (a | a) <;> contradiction)]
      have h3 : x < 60 := Int32.not_le.mp h2
      obtain ⟨a1, a2⟩ := zi_rng h1 h2
      have a3 : zz_ix x < 60 := by
        have : (60 : Int32).toInt = 60 := rfl
        omega
      have i1 : zz_inb x 60 = true := by rw [a1, zn_inb (by omega)]; exact decide_eq_true a3
      rcases hv with rfl | rfl | rfl | rfl | rfl | rfl | rfl | rfl | rfl <;>
        · simp only [latA, Nat.beq, cond_true, cond_false, Nat.reduceSub, Nat.reduceMul, Nat.reduceAdd]
          simp only [e_X10_latestOf, zo_iload, zo_lload, zo_aload, zo_istore, zo_lstore, zo_astore, zo_iinc, zo_pushI, zo_pushL, zo_null, zo_ii, zo_iid, zo_ll, zo_li, zo_lcmp, zo_i2l, zo_l2i, zo_dup, zo_dup2, zo_pop, zo_goto, zo_if, zo_icmp, zo_ifnull, zo_gets, zo_mm, zo_throw, zo_ret, zo_aret, zo_lret, q_iret_f, q_iret_1, q_iret_0, q_iret_b, q_c8_0, q_c8_1, q_c8_2, q_c8_3, q_c8_4, q_set_0, q_set_1i, q_set_1r, q_set_1n, q_set_1N, q_set_s, q_set_1j, q_bk_v, q_bk_n, q_if, zb_ite, cond_true, cond_false, List.getElem?_cons_zero, List.getElem?_cons_succ, Nat.reduceAdd, q_aC, h1, h2, h3, i1, if_true, if_false]
theorem sp_newSetOf (W : zVw M v n) (d : Int32) : fX10_newSetOf [.ref v, .int d] M = some (.inl (some (.int (zoi (newSet M v n d)))), M) := by
  have hr := fun x s => sp_read' W x s
  have ho := fun x k w => sp_isOwned W x k w
  obtain ⟨hv, -, hk, hn⟩ := W
  have lp := zl_fst (E := fun i => zz_ev tX10_newSetOf 9 [some (.ref v), some (.int d), some (.int (rd M v d 1)), some (.int (zn i))] [] M) (P := fun i => owned M v (zn i) 1 d && decide (rd M v (zn i) 1 = rd M v d 1)) (r := fun i => some (.inl (some (.int (zn i))), M)) n (fun i hi => by
    have hc := zk_in hi hn
    cases h1 : owned M v (zn i) 1 d <;> by_cases h2 : rd M v (zn i) 1 = rd M v d 1 <;> rcases hv with rfl | rfl | rfl | rfl | rfl | rfl | rfl | rfl | rfl <;>
      · rw [e_X10_newSetOf_9]
        simp only [e_X10_newSetOf, zo_iload, zo_lload, zo_aload, zo_istore, zo_lstore, zo_astore, zo_iinc, zo_pushI, zo_pushL, zo_null, zo_ii, zo_iid, zo_ll, zo_li, zo_lcmp, zo_i2l, zo_l2i, zo_dup, zo_dup2, zo_pop, zo_goto, zo_if, zo_icmp, zo_ifnull, zo_gets, zo_mm, zo_throw, zo_ret, zo_aret, zo_lret, q_iret_f, q_iret_1, q_iret_0, q_iret_b, q_c8_0, q_c8_1, q_c8_2, q_c8_3, q_c8_4, q_set_0, q_set_1i, q_set_1r, q_set_1n, q_set_1N, q_set_s, q_set_1j, q_bk_v, q_bk_n, q_if, zb_ite, cond_true, cond_false, List.getElem?_cons_zero, List.getElem?_cons_succ, Nat.reduceAdd, hr, ho, hk, hc, if_false, zb_eq0, zn_1, h1, h2, not_true_eq_false, not_false_eq_true, ite_true, ite_false, if_true, if_false, q_iret_0, q_iret_1, decide_true, decide_false, decide_not, zb_t, zb_f, z10, z01, cond_true, cond_false, Bool.and_true, Bool.true_and, Bool.and_false, Bool.false_and, Bool.not_true, Bool.not_false, true_and, and_true, false_and, and_false, true_or, or_true, false_or, or_false, Bool.true_eq_false, Bool.false_eq_true, eq_self, reduceCtorEq])
  have st : fX10_newSetOf [.ref v, .int d] M = zz_ev tX10_newSetOf 9 [some (.ref v), some (.int d), some (.int (rd M v d 1)), some (.int (zn 0))] [] M := by
    rw [s_X10_newSetOf]
    rcases hv with rfl | rfl | rfl | rfl | rfl | rfl | rfl | rfl | rfl <;> (simp only [e_X10_newSetOf, zo_iload, zo_lload, zo_aload, zo_istore, zo_lstore, zo_astore, zo_iinc, zo_pushI, zo_pushL, zo_null, zo_ii, zo_iid, zo_ll, zo_li, zo_lcmp, zo_i2l, zo_l2i, zo_dup, zo_dup2, zo_pop, zo_goto, zo_if, zo_icmp, zo_ifnull, zo_gets, zo_mm, zo_throw, zo_ret, zo_aret, zo_lret, q_iret_f, q_iret_1, q_iret_0, q_iret_b, q_c8_0, q_c8_1, q_c8_2, q_c8_3, q_c8_4, q_set_0, q_set_1i, q_set_1r, q_set_1n, q_set_1N, q_set_s, q_set_1j, q_bk_v, q_bk_n, q_if, zb_ite, cond_true, cond_false, List.getElem?_cons_zero, List.getElem?_cons_succ, Nat.reduceAdd, hr]; rfl)
  refine (st.trans lp).trans ?_
  unfold newSet
  split
  · rename_i k hk; rw [hk]; rfl
  · rename_i hk2
    rw [hk2]
    have hc := zk_out hn
    rcases hv with rfl | rfl | rfl | rfl | rfl | rfl | rfl | rfl | rfl <;> (rw [e_X10_newSetOf_9]; simp only [e_X10_newSetOf, zo_iload, zo_lload, zo_aload, zo_istore, zo_lstore, zo_astore, zo_iinc, zo_pushI, zo_pushL, zo_null, zo_ii, zo_iid, zo_ll, zo_li, zo_lcmp, zo_i2l, zo_l2i, zo_dup, zo_dup2, zo_pop, zo_goto, zo_if, zo_icmp, zo_ifnull, zo_gets, zo_mm, zo_throw, zo_ret, zo_aret, zo_lret, q_iret_f, q_iret_1, q_iret_0, q_iret_b, q_c8_0, q_c8_1, q_c8_2, q_c8_3, q_c8_4, q_set_0, q_set_1i, q_set_1r, q_set_1n, q_set_1N, q_set_s, q_set_1j, q_bk_v, q_bk_n, q_if, zb_ite, cond_true, cond_false, List.getElem?_cons_zero, List.getElem?_cons_succ, Nat.reduceAdd, hk, hc, if_true, zoi])
theorem zcnt_or (P : Nat → Bool) (w : Int32) (n : Nat) (h : w = -1 → n = 0 ∨ zcnt n P = 0) : (if w = -1 then 0 else zcnt n P) = zcnt n P := by
  by_cases hw : w = -1
  · rw [if_pos hw]
    rcases h hw with h | h
    · rw [h]; rfl
    · exact h.symm
  · rw [if_neg hw]
theorem sp_countRunning (W : zVw M v n) (w : Int32) : fX10_countRunning [.ref v, .int w] M = some (.inl (some (.int (zn (cntRun M v n w)))), M) := by
  have hr := fun x s => sp_read' W x s
  have ho := fun x k w => sp_isOwned W x k w
  obtain ⟨hv, -, hk, hn⟩ := W
  have st : fX10_countRunning [.ref v, .int w] M = zz_ev tX10_countRunning 4 [some (.ref v), some (.int w), some (.int 0), some (.int 0)] [] M := by
    rw [s_X10_countRunning]
    rcases hv with rfl | rfl | rfl | rfl | rfl | rfl | rfl | rfl | rfl <;> (simp only [e_X10_countRunning, zo_iload, zo_lload, zo_aload, zo_istore, zo_lstore, zo_astore, zo_iinc, zo_pushI, zo_pushL, zo_null, zo_ii, zo_iid, zo_ll, zo_li, zo_lcmp, zo_i2l, zo_l2i, zo_dup, zo_dup2, zo_pop, zo_goto, zo_if, zo_icmp, zo_ifnull, zo_gets, zo_mm, zo_throw, zo_ret, zo_aret, zo_lret, q_iret_f, q_iret_1, q_iret_0, q_iret_b, q_c8_0, q_c8_1, q_c8_2, q_c8_3, q_c8_4, q_set_0, q_set_1i, q_set_1r, q_set_1n, q_set_1N, q_set_s, q_set_1j, q_bk_v, q_bk_n, q_if, zb_ite, cond_true, cond_false, List.getElem?_cons_zero, List.getElem?_cons_succ, Nat.reduceAdd, if_true, if_false, zb_eq0, zb_eq1, zn_1, not_true_eq_false, not_false_eq_true, ite_true, ite_false, if_true, if_false, q_iret_0, q_iret_1, decide_true, decide_false, decide_not, zb_t, zb_f, z10, z01, cond_true, cond_false, Bool.and_true, Bool.true_and, Bool.and_false, Bool.false_and, Bool.not_true, Bool.not_false, true_and, and_true, false_and, and_false, true_or, or_true, false_or, or_false, Bool.true_eq_false, Bool.false_eq_true, eq_self, reduceCtorEq])
  unfold cntRun
  by_cases hw : w = -1
  · rw [st, if_pos hw]
    subst hw
    by_cases hc : zn n ≤ 0 <;> rcases hv with rfl | rfl | rfl | rfl | rfl | rfl | rfl | rfl | rfl <;> ((rw [e_X10_countRunning_4]; simp only [e_X10_countRunning, zo_iload, zo_lload, zo_aload, zo_istore, zo_lstore, zo_astore, zo_iinc, zo_pushI, zo_pushL, zo_null, zo_ii, zo_iid, zo_ll, zo_li, zo_lcmp, zo_i2l, zo_l2i, zo_dup, zo_dup2, zo_pop, zo_goto, zo_if, zo_icmp, zo_ifnull, zo_gets, zo_mm, zo_throw, zo_ret, zo_aret, zo_lret, q_iret_f, q_iret_1, q_iret_0, q_iret_b, q_c8_0, q_c8_1, q_c8_2, q_c8_3, q_c8_4, q_set_0, q_set_1i, q_set_1r, q_set_1n, q_set_1N, q_set_s, q_set_1j, q_bk_v, q_bk_n, q_if, zb_ite, cond_true, cond_false, List.getElem?_cons_zero, List.getElem?_cons_succ, Nat.reduceAdd, hk, hc, if_true, if_false, zb_eq0, zb_eq1, zn_1, not_true_eq_false, not_false_eq_true, ite_true, ite_false, if_true, if_false, q_iret_0, q_iret_1, decide_true, decide_false, decide_not, zb_t, zb_f, z10, z01, cond_true, cond_false, Bool.and_true, Bool.true_and, Bool.and_false, Bool.false_and, Bool.not_true, Bool.not_false, true_and, and_true, false_and, and_false, true_or, or_true, false_or, or_false, Bool.true_eq_false, Bool.false_eq_true, eq_self, reduceCtorEq]); rfl)
  rw [if_neg hw]
  have lp := zl_go (E := fun i => zz_ev tX10_countRunning 4 [some (.ref v), some (.int w), some (.int (zn (zcnt i fun i => owned M v (zn i) 2 w && decide (rd M v (zn i) 29 = 1)))), some (.int (zn i))] [] M) n (fun i hi => by
    have hc := zk_in hi hn
    cases h1 : owned M v (zn i) 2 w <;> by_cases h2 : rd M v (zn i) 29 = 1 <;> rcases hv with rfl | rfl | rfl | rfl | rfl | rfl | rfl | rfl | rfl <;>
      ((rw [e_X10_countRunning_4]; simp only [e_X10_countRunning, zo_iload, zo_lload, zo_aload, zo_istore, zo_lstore, zo_astore, zo_iinc, zo_pushI, zo_pushL, zo_null, zo_ii, zo_iid, zo_ll, zo_li, zo_lcmp, zo_i2l, zo_l2i, zo_dup, zo_dup2, zo_pop, zo_goto, zo_if, zo_icmp, zo_ifnull, zo_gets, zo_mm, zo_throw, zo_ret, zo_aret, zo_lret, q_iret_f, q_iret_1, q_iret_0, q_iret_b, q_c8_0, q_c8_1, q_c8_2, q_c8_3, q_c8_4, q_set_0, q_set_1i, q_set_1r, q_set_1n, q_set_1N, q_set_s, q_set_1j, q_bk_v, q_bk_n, q_if, zb_ite, cond_true, cond_false, List.getElem?_cons_zero, List.getElem?_cons_succ, Nat.reduceAdd, hk, hc, hr, ho, hw, h1, h2, zcnt_s, Int32.add_zero, Nat.add_zero, if_true, if_false, zb_eq0, zb_eq1, zn_1, not_true_eq_false, not_false_eq_true, ite_true, ite_false, if_true, if_false, q_iret_0, q_iret_1, decide_true, decide_false, decide_not, zb_t, zb_f, z10, z01, cond_true, cond_false, Bool.and_true, Bool.true_and, Bool.and_false, Bool.false_and, Bool.not_true, Bool.not_false, true_and, and_true, false_and, and_false, true_or, or_true, false_or, or_false, Bool.true_eq_false, Bool.false_eq_true, eq_self, reduceCtorEq])))
  refine (st.trans lp).trans ?_
  have hc := zk_out hn
  rcases hv with rfl | rfl | rfl | rfl | rfl | rfl | rfl | rfl | rfl <;> (rw [e_X10_countRunning_4]; simp only [e_X10_countRunning, zo_iload, zo_lload, zo_aload, zo_istore, zo_lstore, zo_astore, zo_iinc, zo_pushI, zo_pushL, zo_null, zo_ii, zo_iid, zo_ll, zo_li, zo_lcmp, zo_i2l, zo_l2i, zo_dup, zo_dup2, zo_pop, zo_goto, zo_if, zo_icmp, zo_ifnull, zo_gets, zo_mm, zo_throw, zo_ret, zo_aret, zo_lret, q_iret_f, q_iret_1, q_iret_0, q_iret_b, q_c8_0, q_c8_1, q_c8_2, q_c8_3, q_c8_4, q_set_0, q_set_1i, q_set_1r, q_set_1n, q_set_1N, q_set_s, q_set_1j, q_bk_v, q_bk_n, q_if, zb_ite, cond_true, cond_false, List.getElem?_cons_zero, List.getElem?_cons_succ, Nat.reduceAdd, hk, hc, if_true, if_false, zb_eq0, zb_eq1, zn_1, not_true_eq_false, not_false_eq_true, ite_true, ite_false, if_true, if_false, q_iret_0, q_iret_1, decide_true, decide_false, decide_not, zb_t, zb_f, z10, z01, cond_true, cond_false, Bool.and_true, Bool.true_and, Bool.and_false, Bool.false_and, Bool.not_true, Bool.not_false, true_and, and_true, false_and, and_false, true_or, or_true, false_or, or_false, Bool.true_eq_false, Bool.false_eq_true, eq_self, reduceCtorEq])
theorem sp_countRunningOfAll (W : zVw M v n) (d : Int32) : fX10_countRunningOfAll [.ref v, .int d] M = some (.inl (some (.int (zsum n fun i => bif owned M v (zn i) 1 d then zn (cntRun M v n (zn i)) else 0))), M) := by
  have hcr := fun x => sp_countRunning W x
  have ho := fun x k w => sp_isOwned W x k w
  obtain ⟨hv, -, hk, hn⟩ := W
  have st : fX10_countRunningOfAll [.ref v, .int d] M = zz_ev tX10_countRunningOfAll 4 [some (.ref v), some (.int d), some (.int 0), some (.int 0)] [] M := by
    rw [s_X10_countRunningOfAll]
    rcases hv with rfl | rfl | rfl | rfl | rfl | rfl | rfl | rfl | rfl <;> (simp only [e_X10_countRunningOfAll, zo_iload, zo_lload, zo_aload, zo_istore, zo_lstore, zo_astore, zo_iinc, zo_pushI, zo_pushL, zo_null, zo_ii, zo_iid, zo_ll, zo_li, zo_lcmp, zo_i2l, zo_l2i, zo_dup, zo_dup2, zo_pop, zo_goto, zo_if, zo_icmp, zo_ifnull, zo_gets, zo_mm, zo_throw, zo_ret, zo_aret, zo_lret, q_iret_f, q_iret_1, q_iret_0, q_iret_b, q_c8_0, q_c8_1, q_c8_2, q_c8_3, q_c8_4, q_set_0, q_set_1i, q_set_1r, q_set_1n, q_set_1N, q_set_s, q_set_1j, q_bk_v, q_bk_n, q_if, zb_ite, cond_true, cond_false, List.getElem?_cons_zero, List.getElem?_cons_succ, Nat.reduceAdd, if_true, if_false, zb_eq0, zb_eq1, zn_1, not_true_eq_false, not_false_eq_true, ite_true, ite_false, if_true, if_false, q_iret_0, q_iret_1, decide_true, decide_false, decide_not, zb_t, zb_f, z10, z01, cond_true, cond_false, Bool.and_true, Bool.true_and, Bool.and_false, Bool.false_and, Bool.not_true, Bool.not_false, true_and, and_true, false_and, and_false, true_or, or_true, false_or, or_false, Bool.true_eq_false, Bool.false_eq_true, eq_self, reduceCtorEq])
  have lp := zl_go (E := fun i => zz_ev tX10_countRunningOfAll 4 [some (.ref v), some (.int d), some (.int (zsum i fun i => bif owned M v (zn i) 1 d then zn (cntRun M v n (zn i)) else 0)), some (.int (zn i))] [] M) n (fun i hi => by
    have hc := zk_in hi hn
    cases h1 : owned M v (zn i) 1 d <;> rcases hv with rfl | rfl | rfl | rfl | rfl | rfl | rfl | rfl | rfl <;>
      ((rw [e_X10_countRunningOfAll_4]; simp only [e_X10_countRunningOfAll, zo_iload, zo_lload, zo_aload, zo_istore, zo_lstore, zo_astore, zo_iinc, zo_pushI, zo_pushL, zo_null, zo_ii, zo_iid, zo_ll, zo_li, zo_lcmp, zo_i2l, zo_l2i, zo_dup, zo_dup2, zo_pop, zo_goto, zo_if, zo_icmp, zo_ifnull, zo_gets, zo_mm, zo_throw, zo_ret, zo_aret, zo_lret, q_iret_f, q_iret_1, q_iret_0, q_iret_b, q_c8_0, q_c8_1, q_c8_2, q_c8_3, q_c8_4, q_set_0, q_set_1i, q_set_1r, q_set_1n, q_set_1N, q_set_s, q_set_1j, q_bk_v, q_bk_n, q_if, zb_ite, cond_true, cond_false, List.getElem?_cons_zero, List.getElem?_cons_succ, Nat.reduceAdd, hk, hc, hcr, ho, h1, zsum_s, Int32.add_zero, if_true, if_false, zb_eq0, zb_eq1, zn_1, not_true_eq_false, not_false_eq_true, ite_true, ite_false, if_true, if_false, q_iret_0, q_iret_1, decide_true, decide_false, decide_not, zb_t, zb_f, z10, z01, cond_true, cond_false, Bool.and_true, Bool.true_and, Bool.and_false, Bool.false_and, Bool.not_true, Bool.not_false, true_and, and_true, false_and, and_false, true_or, or_true, false_or, or_false, Bool.true_eq_false, Bool.false_eq_true, eq_self, reduceCtorEq])))
  refine (st.trans lp).trans ?_
  have hc := zk_out hn
  rcases hv with rfl | rfl | rfl | rfl | rfl | rfl | rfl | rfl | rfl <;> (rw [e_X10_countRunningOfAll_4]; simp only [e_X10_countRunningOfAll, zo_iload, zo_lload, zo_aload, zo_istore, zo_lstore, zo_astore, zo_iinc, zo_pushI, zo_pushL, zo_null, zo_ii, zo_iid, zo_ll, zo_li, zo_lcmp, zo_i2l, zo_l2i, zo_dup, zo_dup2, zo_pop, zo_goto, zo_if, zo_icmp, zo_ifnull, zo_gets, zo_mm, zo_throw, zo_ret, zo_aret, zo_lret, q_iret_f, q_iret_1, q_iret_0, q_iret_b, q_c8_0, q_c8_1, q_c8_2, q_c8_3, q_c8_4, q_set_0, q_set_1i, q_set_1r, q_set_1n, q_set_1N, q_set_s, q_set_1j, q_bk_v, q_bk_n, q_if, zb_ite, cond_true, cond_false, List.getElem?_cons_zero, List.getElem?_cons_succ, Nat.reduceAdd, hk, hc, if_true, if_false, zb_eq0, zb_eq1, zn_1, not_true_eq_false, not_false_eq_true, ite_true, ite_false, if_true, if_false, q_iret_0, q_iret_1, decide_true, decide_false, decide_not, zb_t, zb_f, z10, z01, cond_true, cond_false, Bool.and_true, Bool.true_and, Bool.and_false, Bool.false_and, Bool.not_true, Bool.not_false, true_and, and_true, false_and, and_false, true_or, or_true, false_or, or_false, Bool.true_eq_false, Bool.false_eq_true, eq_self, reduceCtorEq])
def znd (t : Int32) : Int32 := 1 + (t - t / 3 * 3)
theorem sp_needOf (W : zVw M v n) (x : Int32) : fX10_needOf [.ref v, .int x] M = some (.inl (some (.int (znd (rd M v x 1)))), M) := by
  have hr := fun x s => sp_read' W x s
  obtain ⟨hv, -, hk, hn⟩ := W
  have h3 : ((3 : Int32) = 0) = False := eq_false (by decide)
  rw [s_X10_needOf]
  rcases hv with rfl | rfl | rfl | rfl | rfl | rfl | rfl | rfl | rfl <;> ((simp only [e_X10_needOf, zo_iload, zo_lload, zo_aload, zo_istore, zo_lstore, zo_astore, zo_iinc, zo_pushI, zo_pushL, zo_null, zo_ii, zo_iid, zo_ll, zo_li, zo_lcmp, zo_i2l, zo_l2i, zo_dup, zo_dup2, zo_pop, zo_goto, zo_if, zo_icmp, zo_ifnull, zo_gets, zo_mm, zo_throw, zo_ret, zo_aret, zo_lret, q_iret_f, q_iret_1, q_iret_0, q_iret_b, q_c8_0, q_c8_1, q_c8_2, q_c8_3, q_c8_4, q_set_0, q_set_1i, q_set_1r, q_set_1n, q_set_1N, q_set_s, q_set_1j, q_bk_v, q_bk_n, q_if, zb_ite, cond_true, cond_false, List.getElem?_cons_zero, List.getElem?_cons_succ, Nat.reduceAdd, hr, h3, if_true, if_false, zb_eq0, zb_eq1, zn_1, not_true_eq_false, not_false_eq_true, ite_true, ite_false, if_true, if_false, q_iret_0, q_iret_1, decide_true, decide_false, decide_not, zb_t, zb_f, z10, z01, cond_true, cond_false, Bool.and_true, Bool.true_and, Bool.and_false, Bool.false_and, Bool.not_true, Bool.not_false, true_and, and_true, false_and, and_false, true_or, or_true, false_or, or_false, Bool.true_eq_false, Bool.false_eq_true, eq_self, reduceCtorEq]); rfl)
theorem sp_objectAt (W : zVw M v n) (x : Int32) : fX10_objectAt [.ref v, .int x] M = some (.inl (some (.int (if x < 1 ∨ 400 < x then -1 else M.1 14 (zz_ix x * 32 + 22)))), M) := by
  obtain ⟨hv, -, hk, hn⟩ := W
  rw [s_X10_objectAt]
  by_cases h1 : x < 1
  · rw [if_pos (Or.inl h1)]
    rcases hv with rfl | rfl | rfl | rfl | rfl | rfl | rfl | rfl | rfl <;> (simp only [e_X10_objectAt, zo_iload, zo_lload, zo_aload, zo_istore, zo_lstore, zo_astore, zo_iinc, zo_pushI, zo_pushL, zo_null, zo_ii, zo_iid, zo_ll, zo_li, zo_lcmp, zo_i2l, zo_l2i, zo_dup, zo_dup2, zo_pop, zo_goto, zo_if, zo_icmp, zo_ifnull, zo_gets, zo_mm, zo_throw, zo_ret, zo_aret, zo_lret, q_iret_f, q_iret_1, q_iret_0, q_iret_b, q_c8_0, q_c8_1, q_c8_2, q_c8_3, q_c8_4, q_set_0, q_set_1i, q_set_1r, q_set_1n, q_set_1N, q_set_s, q_set_1j, q_bk_v, q_bk_n, q_if, zb_ite, cond_true, cond_false, List.getElem?_cons_zero, List.getElem?_cons_succ, Nat.reduceAdd, h1, if_true, if_false, zb_eq0, zb_eq1, zn_1, not_true_eq_false, not_false_eq_true, ite_true, ite_false, if_true, if_false, q_iret_0, q_iret_1, decide_true, decide_false, decide_not, zb_t, zb_f, z10, z01, cond_true, cond_false, Bool.and_true, Bool.true_and, Bool.and_false, Bool.false_and, Bool.not_true, Bool.not_false, true_and, and_true, false_and, and_false, true_or, or_true, false_or, or_false, Bool.true_eq_false, Bool.false_eq_true, eq_self, reduceCtorEq])
  · by_cases h2 : 400 < x
    · rw [if_pos (Or.inr h2)]
      have h3 : ¬ x ≤ 400 := Int32.not_le.mpr h2
      rcases hv with rfl | rfl | rfl | rfl | rfl | rfl | rfl | rfl | rfl <;> (simp only [e_X10_objectAt, zo_iload, zo_lload, zo_aload, zo_istore, zo_lstore, zo_astore, zo_iinc, zo_pushI, zo_pushL, zo_null, zo_ii, zo_iid, zo_ll, zo_li, zo_lcmp, zo_i2l, zo_l2i, zo_dup, zo_dup2, zo_pop, zo_goto, zo_if, zo_icmp, zo_ifnull, zo_gets, zo_mm, zo_throw, zo_ret, zo_aret, zo_lret, q_iret_f, q_iret_1, q_iret_0, q_iret_b, q_c8_0, q_c8_1, q_c8_2, q_c8_3, q_c8_4, q_set_0, q_set_1i, q_set_1r, q_set_1n, q_set_1N, q_set_s, q_set_1j, q_bk_v, q_bk_n, q_if, zb_ite, cond_true, cond_false, List.getElem?_cons_zero, List.getElem?_cons_succ, Nat.reduceAdd, h1, h3, if_true, if_false, zb_eq0, zb_eq1, zn_1, not_true_eq_false, not_false_eq_true, ite_true, ite_false, if_true, if_false, q_iret_0, q_iret_1, decide_true, decide_false, decide_not, zb_t, zb_f, z10, z01, cond_true, cond_false, Bool.and_true, Bool.true_and, Bool.and_false, Bool.false_and, Bool.not_true, Bool.not_false, true_and, and_true, false_and, and_false, true_or, or_true, false_or, or_false, Bool.true_eq_false, Bool.false_eq_true, eq_self, reduceCtorEq])
    · rw [if_neg (by rintro (a | a) <;> contradiction)]
      have h3 : x ≤ 400 := Int32.not_lt.mp h2
      have h0 : ¬ x < 0 := by
        rw [Int32.lt_iff_toInt_lt] at h1 ⊢
        have q1 : (1 : Int32).toInt = 1 := rfl
        have q0 : (0 : Int32).toInt = 0 := rfl
        omega
      have h4 : ¬ 401 ≤ x := by
        rw [Int32.le_iff_toInt_le] at h3 ⊢
        have q1 : (400 : Int32).toInt = 400 := rfl
        have q0 : (401 : Int32).toInt = 401 := rfl
        omega
      obtain ⟨a1, a2⟩ := zi_rng h0 h4
      have a3 : zz_ix x < 401 := by
        have : (401 : Int32).toInt = 401 := rfl
        omega
      have i2 : x * 32 + 22 = zn (zz_ix x * 32 + 22) := by
        conv => lhs; rw [a1]
        rw [← zn_add, ← zn_mul]; rfl
      have i3 : zz_inb (x * 32 + 22) 12832 = true := by rw [i2, zn_inb (by omega)]; exact decide_eq_true (by omega)
      have i4 : zz_ix (x * 32 + 22) = zz_ix x * 32 + 22 := by rw [i2]; exact zn_ix (by omega)
      rcases hv with rfl | rfl | rfl | rfl | rfl | rfl | rfl | rfl | rfl <;> (simp only [e_X10_objectAt, zo_iload, zo_lload, zo_aload, zo_istore, zo_lstore, zo_astore, zo_iinc, zo_pushI, zo_pushL, zo_null, zo_ii, zo_iid, zo_ll, zo_li, zo_lcmp, zo_i2l, zo_l2i, zo_dup, zo_dup2, zo_pop, zo_goto, zo_if, zo_icmp, zo_ifnull, zo_gets, zo_mm, zo_throw, zo_ret, zo_aret, zo_lret, q_iret_f, q_iret_1, q_iret_0, q_iret_b, q_c8_0, q_c8_1, q_c8_2, q_c8_3, q_c8_4, q_set_0, q_set_1i, q_set_1r, q_set_1n, q_set_1N, q_set_s, q_set_1j, q_bk_v, q_bk_n, q_if, zb_ite, cond_true, cond_false, List.getElem?_cons_zero, List.getElem?_cons_succ, Nat.reduceAdd, h1, h3, q_aC, i3, i4, if_true, if_false, zb_eq0, zb_eq1, zn_1, not_true_eq_false, not_false_eq_true, ite_true, ite_false, if_true, if_false, q_iret_0, q_iret_1, decide_true, decide_false, decide_not, zb_t, zb_f, z10, z01, cond_true, cond_false, Bool.and_true, Bool.true_and, Bool.and_false, Bool.false_and, Bool.not_true, Bool.not_false, true_and, and_true, false_and, and_false, true_or, or_true, false_or, or_false, Bool.true_eq_false, Bool.false_eq_true, eq_self, reduceCtorEq])
end
end

section
/-! the reference: writing, applying, deleting -/
def rLogs (R : zzMd) (e o : Nat) (x y : Int64) : zzMd := zz_sL (zz_sL (zz_sI (zz_sI (zz_sL (zz_sL (zz_sI R 0 14 (zn (e + 1))) 7 o x) 8 o y) 9 o (zn (e + 1))) 14 (e + 1) (zn o)) 15 (e + 1) x) 16 (e + 1) y
theorem sL_1 (M : zzMd) (i k : Nat) (x : Int64) (a b : Nat) : (zz_sL M i k x).1 a b = M.1 a b := rfl
theorem sL_2 (M : zzMd) (i k : Nat) (x : Int64) (a b : Nat) : (zz_sL M i k x).2 a b = if a = i ∧ b = k then x else M.2 a b := rfl
theorem sI_2 (M : zzMd) (i k : Nat) (x : Int32) (a b : Nat) : (zz_sI M i k x).2 a b = M.2 a b := rfl
theorem r_logs {R : zzMd} {e : Nat} (h : R.1 0 14 = zn e) (he : e < 400) {o : Nat} (ho : o < 60) (x y : Int64) : fX12_logs [.ref 0, .int (zn o), .long x, .long y] R = some (.inl none, rLogs R e o x y) := by
  have b1 : zz_inb (zn o) 60 = true := zn_inT ho (by decide)
  have x1 : zz_ix (zn o) = o := zn_ix (by omega)
  have b2 : zz_inb (zn (e + 1)) 401 = true := zn_inT (by omega) (by decide)
  have x2 : zz_ix (zn (e + 1)) = e + 1 := zn_ix (by omega)
  rw [s_X12_logs]
  unfold rLogs
  (simp only [e_X12_logs, zo_iload, zo_lload, zo_aload, zo_istore, zo_lstore, zo_astore, zo_iinc, zo_pushI, zo_pushL, zo_null, zo_ii, zo_iid, zo_ll, zo_li, zo_lcmp, zo_i2l, zo_l2i, zo_dup, zo_dup2, zo_pop, zo_goto, zo_if, zo_icmp, zo_ifnull, zo_gets, zo_mm, zo_throw, zo_ret, zo_aret, zo_lret, q_iret_f, q_iret_1, q_iret_0, q_iret_b, q_c8_0, q_c8_1, q_c8_2, q_c8_3, q_c8_4, q_set_0, q_set_1i, q_set_1r, q_set_1n, q_set_1N, q_set_s, q_set_1j, q_bk_v, q_bk_n, q_if, zb_ite, cond_true, cond_false, List.getElem?_cons_zero, List.getElem?_cons_succ, Nat.reduceAdd, q_set_1l, q_set2_0, q_set2_1i, q_set2_1r, q_set2_1n, q_set2_s, h, b1, x1, q_aR, sI_1, sL_1, b2, x2, Nat.reduceEqDiff, if_true, if_false, zb_eq0, zb_eq1, zn_1, not_true_eq_false, not_false_eq_true, ite_true, ite_false, if_true, if_false, q_iret_0, q_iret_1, decide_true, decide_false, decide_not, zb_t, zb_f, z10, z01, cond_true, cond_false, Bool.and_true, Bool.true_and, Bool.and_false, Bool.false_and, Bool.not_true, Bool.not_false, true_and, and_true, false_and, and_false, true_or, or_true, false_or, or_false, Bool.true_eq_false, Bool.false_eq_true, eq_self, reduceCtorEq, Bool.or_true, Bool.true_or, Bool.or_false, Bool.false_or])
theorem r_puts {R : zzMd} {e : Nat} (h : R.1 0 14 = zn e) (he : e ≤ 400) {o : Nat} (ho : o < 60) (x y : Int64) (b : Bool) : fX12_puts [.ref 0, .int (zn o), .long x, .long y, .int (zb b)] R =
    some (.inl (some (.int (zb (!(b || (!decide (R.2 7 o = x) || !decide (R.2 8 o = y))) || !decide (e = 400))))), bif (b || (!decide (R.2 7 o = x) || !decide (R.2 8 o = y))) && !decide (e = 400) then rLogs R e o x y else R) := by
  have b1 : zz_inb (zn o) 60 = true := zn_inT ho (by decide)
  have x1 : zz_ix (zn o) = o := zn_ix (by omega)
  have hf := r_isFull R
  rw [h] at hf
  have e4 : (zn e = 400) = (e = 400) := zn_inj (a := e) (b := 400) (by omega) (by decide)
  simp only [e4] at hf
  rw [s_X12_puts]
  by_cases c : e = 400
  · cases b <;> by_cases c1 : R.2 7 o = x <;> by_cases c2 : R.2 8 o = y <;> (simp only [e_X12_puts, zo_iload, zo_lload, zo_aload, zo_istore, zo_lstore, zo_astore, zo_iinc, zo_pushI, zo_pushL, zo_null, zo_ii, zo_iid, zo_ll, zo_li, zo_lcmp, zo_i2l, zo_l2i, zo_dup, zo_dup2, zo_pop, zo_goto, zo_if, zo_icmp, zo_ifnull, zo_gets, zo_mm, zo_throw, zo_ret, zo_aret, zo_lret, q_iret_f, q_iret_1, q_iret_0, q_iret_b, q_c8_0, q_c8_1, q_c8_2, q_c8_3, q_c8_4, q_set_0, q_set_1i, q_set_1r, q_set_1n, q_set_1N, q_set_s, q_set_1j, q_bk_v, q_bk_n, q_if, zb_ite, cond_true, cond_false, List.getElem?_cons_zero, List.getElem?_cons_succ, Nat.reduceAdd, q_set_1l, q_set2_0, q_set2_1i, q_set2_1r, q_set2_1n, q_set2_s, b1, x1, q_aR, lc_0, c1, c2, hf, c, zb_t, zb_f, if_true, if_false, zb_eq0, zb_eq1, zn_1, not_true_eq_false, not_false_eq_true, ite_true, ite_false, if_true, if_false, q_iret_0, q_iret_1, decide_true, decide_false, decide_not, zb_t, zb_f, z10, z01, cond_true, cond_false, Bool.and_true, Bool.true_and, Bool.and_false, Bool.false_and, Bool.not_true, Bool.not_false, true_and, and_true, false_and, and_false, true_or, or_true, false_or, or_false, Bool.true_eq_false, Bool.false_eq_true, eq_self, reduceCtorEq, Bool.or_true, Bool.true_or, Bool.or_false, Bool.false_or])
  · have hl := r_logs h (by omega) ho x y
    generalize rLogs R e o x y = Z at hl ⊢
    cases b <;> by_cases c1 : R.2 7 o = x <;> by_cases c2 : R.2 8 o = y <;> (simp only [e_X12_puts, zo_iload, zo_lload, zo_aload, zo_istore, zo_lstore, zo_astore, zo_iinc, zo_pushI, zo_pushL, zo_null, zo_ii, zo_iid, zo_ll, zo_li, zo_lcmp, zo_i2l, zo_l2i, zo_dup, zo_dup2, zo_pop, zo_goto, zo_if, zo_icmp, zo_ifnull, zo_gets, zo_mm, zo_throw, zo_ret, zo_aret, zo_lret, q_iret_f, q_iret_1, q_iret_0, q_iret_b, q_c8_0, q_c8_1, q_c8_2, q_c8_3, q_c8_4, q_set_0, q_set_1i, q_set_1r, q_set_1n, q_set_1N, q_set_s, q_set_1j, q_bk_v, q_bk_n, q_if, zb_ite, cond_true, cond_false, List.getElem?_cons_zero, List.getElem?_cons_succ, Nat.reduceAdd, q_set_1l, q_set2_0, q_set2_1i, q_set2_1r, q_set2_1n, q_set2_s, b1, x1, q_aR, lc_0, c1, c2, hf, c, zb_t, zb_f, hl, if_true, if_false, zb_eq0, zb_eq1, zn_1, not_true_eq_false, not_false_eq_true, ite_true, ite_false, if_true, if_false, q_iret_0, q_iret_1, decide_true, decide_false, decide_not, zb_t, zb_f, z10, z01, cond_true, cond_false, Bool.and_true, Bool.true_and, Bool.and_false, Bool.false_and, Bool.not_true, Bool.not_false, true_and, and_true, false_and, and_false, true_or, or_true, false_or, or_false, Bool.true_eq_false, Bool.false_eq_true, eq_self, reduceCtorEq, Bool.or_true, Bool.true_or, Bool.or_false, Bool.false_or])
theorem dOw_good {D : Nat → Int32} (h : D 25 = 4 → D 24 = -1) : dOw D = D := by
  unfold dOw
  by_cases c : D 25 = 4
  · rw [if_pos c]
    funext s
    unfold dUp
    by_cases q : s = 24
    · rw [if_pos q, q, h c]
    · rw [if_neg q]
  · rw [if_neg c]
theorem dOw_dOw (D : Nat → Int32) : dOw (dOw D) = dOw D := by
  refine dOw_good fun h => ?_
  unfold dOw at h ⊢
  by_cases c : D 25 = 4
  · rw [if_pos c]; exact if_pos rfl
  · rw [if_neg c] at h; exact absurd h c
theorem aWr_dOw (A : zzMd) (o : Nat) (D : Nat → Int32) : aWr A o (dOw D) = aWr A o D := by unfold aWr; rw [dOw_dOw]
section
variable {A R : zzMd}
theorem rl_n60 (H : Rl0 A R) : nv A 1 ≤ 60 := H.1.2.1.2.1.2
theorem rl_e4 (H : Rl0 A R) : ve A 1 ≤ 400 := H.1.2.1.2.2.2
/-- an object as it is -/
theorem rl_cur (H : Rl0 A R) {o : Nat} (ho : o < nv A 1) : encR (R.2 7 o) (row A o) ∧ encB (R.2 8 o) (row A o) ∧ goodD (row A o) ∧ row A o 22 = zn o ∧ row A o 23 = R.1 6 o := by
  have hn := rl_n60 H
  obtain ⟨-, L, -⟩ := H
  obtain ⟨h1, h2, h3⟩ := L.2.2.2.2 o ho
  have ho2 := ho
  rw [L.2.2.2.1.1] at ho2
  obtain ⟨⟨r1, r2, r3, r4, r5, r6, r7⟩, r8⟩ := rl_row L (Nat.le_refl _) ho2
  rw [row_lg L (show o < 60 by omega), h1, h2]
  rw [r8] at r2 r4
  exact ⟨r6, r7, r3, r2, r4⟩
theorem log_1 (A : zzMd) (k : Nat) (D : Nat → Int32) (a b : Nat) : (logSet A k D).1 a b = if a = 14 ∧ k * 32 ≤ b ∧ b < k * 32 + 32 then D (b - k * 32) else A.1 a b := rfl
/-- a write, in both -/
theorem Rl0_wr (H : Rl0 A R) {o : Nat} (ho : o < nv A 1) {D : Nat → Int32} {x y : Int64} {b : Bool} (gD : goodD D) (d22 : D 22 = zn o) (d23 : D 23 = R.1 6 o) (eD : encR x D) (bD : encB y D)
    (hb : b = false ↔ ∀ f, f < 11 → D (11 + f) = row A o (11 + f)) :
    ∃ R', fX12_puts [.ref 0, .int (zn o), .long x, .long y, .int (zb b)] R = some (.inl (some (.int (zb (aWr A o D).1))), R') ∧ Rl0 (aWr A o D).2 R' ∧ (∀ a k, a ≠ 0 → a ≠ 9 → a ≠ 14 → R'.1 a k = R.1 a k) ∧ (∀ k, k ≠ 14 → R'.1 0 k = R.1 0 k) ∧
      nv (aWr A o D).2 1 = nv A 1 ∧ (∀ q, q < nv A 1 → eq32 (row (aWr A o D).2 q) (if q = o ∧ (aWr A o D).1 = true then D else row A q)) := by
  have hn := rl_n60 H
  have he := rl_e4 H
  obtain ⟨c1, c2, c3, c4, c5⟩ := rl_cur H ho
  have L := H.2.1
  have hp := r_puts L.1.1 he (show o < 60 by omega) x y b
  have heq : (b || (!decide (R.2 7 o = x) || !decide (R.2 8 o = y))) = !(zall 32 fun s => decide (dOw D s = row A o s)) := by
    rw [dOw_good fun h => (gD.2.2.2.2.2.2.2.2 h).1]
    cases q : (zall 32 fun s => decide (D s = row A o s))
    · cases q1 : b
      · by_cases q2 : R.2 7 o = x
        · by_cases q3 : R.2 8 o = y
          · exfalso
            have e1 := (enc_eq c1 eD).mp q2
            have e2 := (encB_eq c2 bD).mp q3
            have : eq32 D (row A o) := row_eq ⟨fun k hk => (e1 k hk).symm, ⟨e2.1.symm, e2.2.symm⟩, hb.mp q1, by rw [d22, c4], by rw [d23, c5]⟩
            have h2 : (zall 32 fun s => decide (D s = row A o s)) = true := zall_iff.mpr fun s hs => decide_eq_true (this s hs)
            rw [q] at h2; cases h2
          · rw [decide_eq_false q3]; simp
        · rw [decide_eq_false q2]; simp
      · rfl
    · have h1 : eq32 D (row A o) := fun s hs => of_decide_eq_true (zall_iff.mp q s hs)
      have q1 : b = false := hb.mpr fun f hf => h1 _ (by omega)
      have q2 : R.2 7 o = x := (enc_eq c1 eD).mpr fun k hk => (h1 _ (sl_lt ⟨k, hk⟩)).symm
      have q3 : R.2 8 o = y := (encB_eq c2 bD).mpr ⟨(h1 30 (by decide)).symm, (h1 31 (by decide)).symm⟩
      rw [q1, decide_eq_true q2, decide_eq_true q3]; rfl
  rw [heq] at hp
  unfold aWr
  cases hz : (zall 32 fun s => decide (dOw D s = row A o s))
  · rw [hz] at hp
    by_cases hf : ve A 1 = 400
    · have hf2 : decide (400 ≤ ve A 1) = true := decide_eq_true (by omega)
      rw [hf2]
      rw [decide_eq_true hf] at hp
      exact ⟨R, hp, H, fun _ _ _ _ _ => rfl, fun _ _ => rfl, rfl, fun q hq => by rw [if_neg (by simp)]; exact fun _ _ => rfl⟩
    · have hf2 : decide (400 ≤ ve A 1) = false := decide_eq_false (by omega)
      rw [hf2]
      rw [decide_eq_false hf] at hp
      rw [dOw_good fun h => (gD.2.2.2.2.2.2.2.2 h).1]
      have hm : Nat.max (nv A 1) (o + 1) = nv A 1 := Nat.max_eq_left ho
      have p1 : ∀ a k, a ≠ 1 → a ≠ 15 → a ≠ 14 → (put A o D).1 a k = A.1 a k := fun a k h1 h2 h3 => by
        unfold put
        rw [tk_1, if_neg (fun z => h1 z.1), if_neg (fun z => h1 z.1), if_neg (fun z => h2 z.1)]
        exact if_neg (fun z => h3 z.1)
      obtain ⟨z1, z2, z3, z4, z5⟩ := Rl0_put (A' := put A o D) (R' := rLogs R (ve A 1) o x y) (o := o) (D := D) (x := x) (y := y) H (by omega) (by omega) (by omega) (zIC_put (by omega) (by omega) H.1.2)
        (fun k s hk hs => by
          unfold put
          rw [tk_1, if_neg (by omega), if_neg (by omega), if_neg (fun z => absurd z.1 (by decide)), log_1, if_neg (by omega)])
        (fun s hs => by
          unfold put
          rw [tk_1, if_neg (by omega), if_neg (by omega), if_neg (fun z => absurd z.1 (by decide)), log_1, if_pos ⟨rfl, by omega, by omega⟩, Nat.add_sub_cancel_left])
        (fun k => by
          unfold put
          rw [tk_1, if_neg (by omega), if_neg (by omega)]
          by_cases q : k = o
          · rw [if_pos ⟨rfl, q⟩, if_pos q]
          · rw [if_neg (fun z => q z.2), if_neg q, log_1, if_neg (fun z => absurd z.1 (by decide))])
        (by
          unfold put
          rw [tk_1, if_neg (by omega), if_pos ⟨rfl, rfl⟩]; rfl)
        (by
          unfold put
          rw [tk_1, if_pos ⟨rfl, rfl⟩])
        (fun a k h1 h2 h3 h4 => by
          unfold put
          rw [tk_1, if_neg (fun z => (h4 z.1).2 z.2), if_neg (fun z => (h4 z.1).1 z.2), if_neg (fun z => h2 z.1), log_1, if_neg (fun z => h1 z.1)])
        (fun k _ => p1 16 k (by decide) (by decide) (by decide))
        rfl (by rw [hm]; exact L.1.2) (fun k h1 h2 _ _ _ _ => by
          show (if 0 = 14 ∧ k = ve A 1 + 1 then zn o else if 0 = 9 ∧ k = o then zn (ve A 1 + 1) else if 0 = 0 ∧ k = 14 then zn (ve A 1 + 1) else R.1 0 k) = R.1 0 k
          rw [if_neg (by omega), if_neg (by omega), if_neg (by omega)])
        (fun a k h1 h2 h3 h4 h5 h6 _ _ => by
          show (if a = 14 ∧ k = ve A 1 + 1 then zn o else if a = 9 ∧ k = o then zn (ve A 1 + 1) else if a = 0 ∧ k = 14 then zn (ve A 1 + 1) else R.1 a k) = R.1 a k
          rw [if_neg (by omega), if_neg (by omega), if_neg (by omega)])
        (fun k _ => rfl) d23.symm (fun _ => d23) (fun k _ => rfl) (fun h => absurd ho h)
        (fun k => by
          show (if 9 = 14 ∧ k = ve A 1 + 1 then zn o else if 9 = 9 ∧ k = o then zn (ve A 1 + 1) else if 9 = 0 ∧ k = 14 then zn (ve A 1 + 1) else R.1 9 k) = _
          rw [if_neg (by omega)]
          by_cases q : k = o
          · rw [if_pos ⟨rfl, q⟩, if_pos q]
          · rw [if_neg (by omega), if_neg (by omega), if_neg q])
        (fun k => by
          show (if 14 = 14 ∧ k = ve A 1 + 1 then zn o else if 14 = 9 ∧ k = o then zn (ve A 1 + 1) else if 14 = 0 ∧ k = 14 then zn (ve A 1 + 1) else R.1 14 k) = _
          by_cases q : k = ve A 1 + 1
          · rw [if_pos ⟨rfl, q⟩, if_pos q]
          · rw [if_neg (by omega), if_neg (by omega), if_neg (by omega), if_neg q])
        (fun k => by
          show (if 7 = 16 ∧ k = ve A 1 + 1 then y else if 7 = 15 ∧ k = ve A 1 + 1 then x else if 7 = 8 ∧ k = o then y else if 7 = 7 ∧ k = o then x else R.2 7 k) = _
          rw [if_neg (by omega), if_neg (by omega), if_neg (by omega)]
          by_cases q : k = o
          · rw [if_pos ⟨rfl, q⟩, if_pos q]
          · rw [if_neg (by omega), if_neg q])
        (fun k => by
          show (if 8 = 16 ∧ k = ve A 1 + 1 then y else if 8 = 15 ∧ k = ve A 1 + 1 then x else if 8 = 8 ∧ k = o then y else if 8 = 7 ∧ k = o then x else R.2 8 k) = _
          rw [if_neg (by omega), if_neg (by omega)]
          by_cases q : k = o
          · rw [if_pos ⟨rfl, q⟩, if_pos q]
          · rw [if_neg (by omega), if_neg (by omega), if_neg q])
        (fun k => by
          show (if 15 = 16 ∧ k = ve A 1 + 1 then y else if 15 = 15 ∧ k = ve A 1 + 1 then x else if 15 = 8 ∧ k = o then y else if 15 = 7 ∧ k = o then x else R.2 15 k) = _
          rw [if_neg (by omega)]
          by_cases q : k = ve A 1 + 1
          · rw [if_pos ⟨rfl, q⟩, if_pos q]
          · rw [if_neg (by omega), if_neg (by omega), if_neg (by omega), if_neg q])
        (fun k => by
          show (if 16 = 16 ∧ k = ve A 1 + 1 then y else if 16 = 15 ∧ k = ve A 1 + 1 then x else if 16 = 8 ∧ k = o then y else if 16 = 7 ∧ k = o then x else R.2 16 k) = _
          by_cases q : k = ve A 1 + 1
          · rw [if_pos ⟨rfl, q⟩, if_pos q]
          · rw [if_neg (by omega), if_neg (by omega), if_neg (by omega), if_neg (by omega), if_neg q])
        (fun a k h1 h2 h3 h4 => by
          show (if a = 16 ∧ k = ve A 1 + 1 then y else if a = 15 ∧ k = ve A 1 + 1 then x else if a = 8 ∧ k = o then y else if a = 7 ∧ k = o then x else R.2 a k) = _
          rw [if_neg (by omega), if_neg (by omega), if_neg (by omega), if_neg (by omega)])
        gD d22 eD bD
      refine ⟨rLogs R (ve A 1) o x y, hp, z1, fun a k h1 h2 h3 => ?_, fun k h1 => ?_, z3.trans hm, fun q hq => ?_⟩
      · show (if a = 14 ∧ k = ve A 1 + 1 then zn o else if a = 9 ∧ k = o then zn (ve A 1 + 1) else if a = 0 ∧ k = 14 then zn (ve A 1 + 1) else R.1 a k) = R.1 a k
        rw [if_neg (by omega), if_neg (by omega), if_neg (by omega)]
      · show (if 0 = 14 ∧ k = ve A 1 + 1 then zn o else if 0 = 9 ∧ k = o then zn (ve A 1 + 1) else if 0 = 0 ∧ k = 14 then zn (ve A 1 + 1) else R.1 0 k) = R.1 0 k
        rw [if_neg (by omega), if_neg (by omega), if_neg (by omega)]
      · have r1 : row (put A o D) q = lg (put A o D) (if q = o then ve A 1 + 1 else lastV (obj A) (ve A 1) q) := by
          rw [row_lg z1.2.1 (show q < 60 by omega), z2, z5]
        show eq32 (row (put A o D) q) _
        rw [r1]
        by_cases e1 : q = o
        · rw [if_pos e1, if_pos ⟨e1, rfl⟩]
          intro s hs
          show (put A o D).1 14 ((ve A 1 + 1) * 32 + s) = D s
          unfold put
          rw [tk_1, if_neg (by omega), if_neg (by omega), if_neg (fun z => absurd z.1 (by decide)), log_1, if_pos ⟨rfl, by omega, by omega⟩, Nat.add_sub_cancel_left]
        · rw [if_neg e1, if_neg (fun z => e1 z.1), row_lg L (show q < 60 by omega)]
          intro s hs
          have hl : lastV (obj A) (ve A 1) q ≤ ve A 1 := lastV_le q _
          show (put A o D).1 14 (lastV (obj A) (ve A 1) q * 32 + s) = A.1 14 (lastV (obj A) (ve A 1) q * 32 + s)
          unfold put
          rw [tk_1, if_neg (by omega), if_neg (by omega), if_neg (fun z => absurd z.1 (by decide)), log_1, if_neg (by omega)]
  · rw [hz] at hp
    rw [dOw_good fun h => (gD.2.2.2.2.2.2.2.2 h).1] at hz
    refine ⟨R, hp, H, fun _ _ _ _ _ => rfl, fun _ _ => rfl, rfl, fun q hq => ?_⟩
    by_cases e1 : q = o
    · rw [if_pos ⟨e1, rfl⟩, e1]
      exact fun s hs => (of_decide_eq_true (zall_iff.mp hz s hs)).symm
    · rw [if_neg (fun z => e1 z.1)]
      exact fun _ _ => rfl
/-- who manages what, after a write that changes no manager -/
theorem rman_row (H : Rl0 A R) (Mn : RMan A R) {o f : Nat} (ho : o < nv A 1) (hf : f < 11) : R.1 10 (11 * o + f) = row A o (11 + f) := by
  rw [row_lg H.2.1 (Nat.lt_of_lt_of_le ho (rl_n60 H))]
  exact Mn o ho f hf
theorem rman_of {A' R' : zzMd} (H : Rl0 A' R') (h : ∀ o f, o < nv A' 1 → f < 11 → R'.1 10 (11 * o + f) = row A' o (11 + f)) : RMan A' R' := fun o ho f hf => by
  rw [← row_lg H.2.1 (Nat.lt_of_lt_of_le ho (rl_n60 H))]
  exact h o f ho hf
theorem Rel_ch (H : Rel A R) {o : Nat} (ho : o < nv A 1) {D : Nat → Int32} {x : Int64} {y : Int64} (gD : goodD (dOw D)) (d22 : D 22 = zn o) (d23 : D 23 = R.1 6 o) (eD : encR x (dOw D)) (bD : encB y D)
    (hb : ∀ f, f < 11 → D (11 + f) = row A o (11 + f)) :
    ∃ R', fX12_puts [.ref 0, .int (zn o), .long x, .long y, .int 0] R = some (.inl (some (.int (zb (aWr A o D).1))), R') ∧ Rel (aWr A o D).2 R' ∧ (∀ a k, a ≠ 0 → a ≠ 9 → a ≠ 14 → R'.1 a k = R.1 a k) ∧ (∀ k, k ≠ 14 → R'.1 0 k = R.1 0 k) ∧ nv (aWr A o D).2 1 = nv A 1 := by
  have e : ∀ s, s ≠ 24 → dOw D s = D s := fun s hs => by
    unfold dOw
    split
    · exact if_neg hs
    · rfl
  have hb2 : ∀ f, f < 11 → dOw D (11 + f) = row A o (11 + f) := fun f hf => by rw [e _ (by omega)]; exact hb f hf
  obtain ⟨R', h1, h2, h3, h4, h5, h6⟩ := Rl0_wr H.1 ho (b := false) gD (by rw [e 22 (by decide)]; exact d22) (by rw [e 23 (by decide)]; exact d23) eD (encB_c bD (e 30 (by decide)) (e 31 (by decide))) ⟨fun _ => hb2, fun _ => rfl⟩
  rw [aWr_dOw] at h1 h2 h5 h6
  refine ⟨R', h1, ⟨h2, rman_of h2 fun q f hq hf => ?_⟩, h3, h4, h5⟩
  rw [h5] at hq
  rw [h3 10 _ (by decide) (by decide) (by decide), rman_row H.1 H.2 hq hf, h6 q hq _ (by omega)]
  by_cases e1 : q = o ∧ (aWr A o D).1 = true
  · rw [if_pos e1, e1.1, hb2 f hf]
  · rw [if_neg e1]
end
end

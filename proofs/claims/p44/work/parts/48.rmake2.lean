section
/-! making in both -/
section
variable {A R : zzMd}
theorem wr_new (H : Rl0 A R) (hn : nv A 1 < 60) {D : Nat → Int32} (d22 : D 22 = zn (nv A 1)) (d25 : D 25 = 0) : aWr A (nv A 1) D = bif decide (400 ≤ ve A 1) then (false, A) else (true, put A (nv A 1) D) := by
  have e : dOw D = D := dOw_good fun h => by rw [d25] at h; exact absurd h (by decide)
  have h22 : row A (nv A 1) 22 = -1 := by
    rw [row_lg H.2.1 hn, rl_0 H.2.1 (Nat.le_refl _) (by rw [← H.2.1.2.2.2.1.1]; exact Nat.lt_irrefl _), H.2.1.2.2.1 22 (by decide)]
    rfl
  have hz : (zall 32 fun s => decide (dOw D s = row A (nv A 1) s)) = false := by
    cases q : (zall 32 fun s => decide (dOw D s = row A (nv A 1) s))
    · rfl
    · have := of_decide_eq_true (zall_iff.mp q 22 (by decide))
      rw [e, d22, h22, zn_m1 (by omega)] at this
      exact this.elim
  unfold aWr
  rw [hz, e]
  rfl
theorem quota_n (H : Rl0 A R) : R.1 0 30 = A.1 2 5 := H.2.2.2.2.1.1.2.2.1
/-- what is refused -/
def offM (A : zzMd) (k : Int32) (D : Nat → Int32) : Bool := !((settled A D).1 && allowed A (settled A D).2) || (decide (nv A 1 = 60) || (decide (ve A 1 = 400) || (decide (k = 2) && !decide (zn (liveP A) < A.1 2 5))))
theorem r_makesHead (H : Rl0 A R) {t tp a : Nat} (ht : t < 6) (htp : tp ≤ 9) (ha : a ≤ 60) {w : Int32} (hw : w + 1 = zn a) (m : Int32) {D : Nat → Int32} (hD : D = dNew m (zn t) w (zn tp) (nv A 1)) {x' : Int64}
    (had : fX12_admitted [.ref 0, .int (zn t), .long (newX w (zn tp))] R = some (.inl (some (.long x')), zz_sI R 0 31 (zb (!((settled A D).1 && allowed A (settled A D).2))))) :
    fX12_makes [.ref 0, .int m, .int (zn t), .int w, .int (zn tp)] R = bif offM A (zn t) D then some (.inl (some (.int (-1))), zz_sI R 0 31 (zb (!((settled A D).1 && allowed A (settled A D).2)))) else
      zz_ev tX12_makes 109 [some (.ref 0), some (.int m), some (.int (zn t)), some (.int w), some (.int (zn tp)), some (.long x'), none, some (.int 0), none] [] (zz_sI R 0 31 (zb (!((settled A D).1 && allowed A (settled A D).2)))) := by
  have K := H.1.1
  have w2 : ∀ x v, fX12_with [.ref 0, .long x, .int 2, .int v] R = some (.inl (some (.long (wt x 2 v))), R) := fun x v => r_with K (k := 2) (by decide) x v
  have w7 : ∀ x v, fX12_with [.ref 0, .long x, .int 7, .int v] R = some (.inl (some (.long (wt x 7 v))), R) := fun x v => r_with K (k := 7) (by decide) x v
  have w10 : ∀ x v, fX12_with [.ref 0, .long x, .int 10, .int v] R = some (.inl (some (.long (wt x 10 v))), R) := fun x v => r_with K (k := 10) (by decide) x v
  have w14 : ∀ x v, fX12_with [.ref 0, .long x, .int 14, .int v] R = some (.inl (some (.long (wt x 14 v))), R) := fun x v => r_with K (k := 14) (by decide) x v
  have w11 : ∀ x v, fX12_with [.ref 0, .long x, .int 11, .int v] R = some (.inl (some (.long (wt x 11 v))), R) := fun x v => r_with K (k := 11) (by decide) x v
  have w1 : ∀ x v, fX12_with [.ref 0, .long x, .int 1, .int v] R = some (.inl (some (.long (wt x 1 v))), R) := fun x v => r_with K (k := 1) (by decide) x v
  unfold newX at had
  generalize hfl : (!((settled A D).1 && allowed A (settled A D).2)) = fl at had
  unfold offM
  rw [hfl]
  have HS : Rl0 A (zz_sI R 0 31 (zb fl)) := Rl0_31 (Or.inl rfl) H
  have s31 : (zz_sI R 0 31 (zb fl)).1 0 31 = zb fl := sI_e
  have s5 : (zz_sI R 0 31 (zb fl)).1 0 5 = zn (nv A 1) := HS.2.1.1.2
  have s14 : (zz_sI R 0 31 (zb fl)).1 0 14 = zn (ve A 1) := HS.2.1.1.1
  have s30 := quota_n HS
  have hl := r_living HS
  have hf := r_isFull (zz_sI R 0 31 (zb fl))
  rw [s14] at hf
  have he := rl_e4 H
  have hn := rl_n60 H
  have e4 : (zn (ve A 1) = 400) = (ve A 1 = 400) := zn_inj (a := ve A 1) (b := 400) (by omega) (by decide)
  have e6 : (zn (nv A 1) = 60) = (nv A 1 = 60) := zn_inj (a := nv A 1) (b := 60) (by omega) (by decide)
  simp only [e4] at hf
  have e60 : ((zn 60 : Int32) = 60) = True := eq_true rfl
  rw [s_X12_makes]
  generalize hZ : zz_ev tX12_makes 109 [some (.ref 0), some (.int m), some (.int (zn t)), some (.int w), some (.int (zn tp)), some (.long x'), none, some (.int 0), none] [] (zz_sI R 0 31 (zb fl)) = Z
  generalize zz_sI R 0 31 (zb fl) = S at *
  cases fl
  · simp only [zb_f] at had s31
    by_cases c1 : nv A 1 = 60
    · (simp only [e_X12_makes, zo_iload, zo_lload, zo_aload, zo_istore, zo_lstore, zo_astore, zo_iinc, zo_pushI, zo_pushL, zo_null, zo_ii, zo_iid, zo_ll, zo_li, zo_lcmp, zo_i2l, zo_l2i, zo_dup, zo_dup2, zo_pop, zo_goto, zo_if, zo_icmp, zo_ifnull, zo_gets, zo_mm, zo_throw, zo_ret, zo_aret, zo_lret, q_iret_f, q_iret_1, q_iret_0, q_iret_b, q_c8_0, q_c8_1, q_c8_2, q_c8_3, q_c8_4, q_set_0, q_set_1i, q_set_1r, q_set_1n, q_set_1N, q_set_s, q_set_1j, q_bk_v, q_bk_n, q_if, zb_ite, cond_true, cond_false, List.getElem?_cons_zero, List.getElem?_cons_succ, Nat.reduceAdd, q_set_1l, q_set2_0, q_set2_1i, q_set2_1r, q_set2_1n, q_set2_s, w2, w7, w10, w14, w11, w1, had, s31, s5, e6, c1, e60, if_true, if_false, zb_eq0, zb_eq1, zn_1, not_true_eq_false, not_false_eq_true, ite_true, ite_false, if_true, if_false, q_iret_0, q_iret_1, decide_true, decide_false, decide_not, zb_t, zb_f, z10, z01, cond_true, cond_false, Bool.and_true, Bool.true_and, Bool.and_false, Bool.false_and, Bool.not_true, Bool.not_false, true_and, and_true, false_and, and_false, true_or, or_true, false_or, or_false, Bool.true_eq_false, Bool.false_eq_true, eq_self, reduceCtorEq, Bool.or_true, Bool.true_or, Bool.or_false, Bool.false_or])
    · by_cases c2 : ve A 1 = 400
      · (simp only [e_X12_makes, zo_iload, zo_lload, zo_aload, zo_istore, zo_lstore, zo_astore, zo_iinc, zo_pushI, zo_pushL, zo_null, zo_ii, zo_iid, zo_ll, zo_li, zo_lcmp, zo_i2l, zo_l2i, zo_dup, zo_dup2, zo_pop, zo_goto, zo_if, zo_icmp, zo_ifnull, zo_gets, zo_mm, zo_throw, zo_ret, zo_aret, zo_lret, q_iret_f, q_iret_1, q_iret_0, q_iret_b, q_c8_0, q_c8_1, q_c8_2, q_c8_3, q_c8_4, q_set_0, q_set_1i, q_set_1r, q_set_1n, q_set_1N, q_set_s, q_set_1j, q_bk_v, q_bk_n, q_if, zb_ite, cond_true, cond_false, List.getElem?_cons_zero, List.getElem?_cons_succ, Nat.reduceAdd, q_set_1l, q_set2_0, q_set2_1i, q_set2_1r, q_set2_1n, q_set2_s, w2, w7, w10, w14, w11, w1, had, s31, s5, e6, c1, hf, c2, if_true, if_false, zb_eq0, zb_eq1, zn_1, not_true_eq_false, not_false_eq_true, ite_true, ite_false, if_true, if_false, q_iret_0, q_iret_1, decide_true, decide_false, decide_not, zb_t, zb_f, z10, z01, cond_true, cond_false, Bool.and_true, Bool.true_and, Bool.and_false, Bool.false_and, Bool.not_true, Bool.not_false, true_and, and_true, false_and, and_false, true_or, or_true, false_or, or_false, Bool.true_eq_false, Bool.false_eq_true, eq_self, reduceCtorEq, Bool.or_true, Bool.true_or, Bool.or_false, Bool.false_or])
      · by_cases c3 : zn t = 2
        · simp only [c3] at had hZ ⊢
          by_cases c4 : zn (liveP A) < A.1 2 5
          · (simp only [e_X12_makes, zo_iload, zo_lload, zo_aload, zo_istore, zo_lstore, zo_astore, zo_iinc, zo_pushI, zo_pushL, zo_null, zo_ii, zo_iid, zo_ll, zo_li, zo_lcmp, zo_i2l, zo_l2i, zo_dup, zo_dup2, zo_pop, zo_goto, zo_if, zo_icmp, zo_ifnull, zo_gets, zo_mm, zo_throw, zo_ret, zo_aret, zo_lret, q_iret_f, q_iret_1, q_iret_0, q_iret_b, q_c8_0, q_c8_1, q_c8_2, q_c8_3, q_c8_4, q_set_0, q_set_1i, q_set_1r, q_set_1n, q_set_1N, q_set_s, q_set_1j, q_bk_v, q_bk_n, q_if, zb_ite, cond_true, cond_false, List.getElem?_cons_zero, List.getElem?_cons_succ, Nat.reduceAdd, q_set_1l, q_set2_0, q_set2_1i, q_set2_1r, q_set2_1n, q_set2_s, ↓hZ, w2, w7, w10, w14, w11, w1, had, s31, s5, e6, c1, hf, c2, hl, s30, c4, if_true, if_false, zb_eq0, zb_eq1, zn_1, not_true_eq_false, not_false_eq_true, ite_true, ite_false, if_true, if_false, q_iret_0, q_iret_1, decide_true, decide_false, decide_not, zb_t, zb_f, z10, z01, cond_true, cond_false, Bool.and_true, Bool.true_and, Bool.and_false, Bool.false_and, Bool.not_true, Bool.not_false, true_and, and_true, false_and, and_false, true_or, or_true, false_or, or_false, Bool.true_eq_false, Bool.false_eq_true, eq_self, reduceCtorEq, Bool.or_true, Bool.true_or, Bool.or_false, Bool.false_or])
          · (simp only [e_X12_makes, zo_iload, zo_lload, zo_aload, zo_istore, zo_lstore, zo_astore, zo_iinc, zo_pushI, zo_pushL, zo_null, zo_ii, zo_iid, zo_ll, zo_li, zo_lcmp, zo_i2l, zo_l2i, zo_dup, zo_dup2, zo_pop, zo_goto, zo_if, zo_icmp, zo_ifnull, zo_gets, zo_mm, zo_throw, zo_ret, zo_aret, zo_lret, q_iret_f, q_iret_1, q_iret_0, q_iret_b, q_c8_0, q_c8_1, q_c8_2, q_c8_3, q_c8_4, q_set_0, q_set_1i, q_set_1r, q_set_1n, q_set_1N, q_set_s, q_set_1j, q_bk_v, q_bk_n, q_if, zb_ite, cond_true, cond_false, List.getElem?_cons_zero, List.getElem?_cons_succ, Nat.reduceAdd, q_set_1l, q_set2_0, q_set2_1i, q_set2_1r, q_set2_1n, q_set2_s, ↓hZ, w2, w7, w10, w14, w11, w1, had, s31, s5, e6, c1, hf, c2, hl, s30, c4, if_true, if_false, zb_eq0, zb_eq1, zn_1, not_true_eq_false, not_false_eq_true, ite_true, ite_false, if_true, if_false, q_iret_0, q_iret_1, decide_true, decide_false, decide_not, zb_t, zb_f, z10, z01, cond_true, cond_false, Bool.and_true, Bool.true_and, Bool.and_false, Bool.false_and, Bool.not_true, Bool.not_false, true_and, and_true, false_and, and_false, true_or, or_true, false_or, or_false, Bool.true_eq_false, Bool.false_eq_true, eq_self, reduceCtorEq, Bool.or_true, Bool.true_or, Bool.or_false, Bool.false_or])
        · (simp only [e_X12_makes, zo_iload, zo_lload, zo_aload, zo_istore, zo_lstore, zo_astore, zo_iinc, zo_pushI, zo_pushL, zo_null, zo_ii, zo_iid, zo_ll, zo_li, zo_lcmp, zo_i2l, zo_l2i, zo_dup, zo_dup2, zo_pop, zo_goto, zo_if, zo_icmp, zo_ifnull, zo_gets, zo_mm, zo_throw, zo_ret, zo_aret, zo_lret, q_iret_f, q_iret_1, q_iret_0, q_iret_b, q_c8_0, q_c8_1, q_c8_2, q_c8_3, q_c8_4, q_set_0, q_set_1i, q_set_1r, q_set_1n, q_set_1N, q_set_s, q_set_1j, q_bk_v, q_bk_n, q_if, zb_ite, cond_true, cond_false, List.getElem?_cons_zero, List.getElem?_cons_succ, Nat.reduceAdd, q_set_1l, q_set2_0, q_set2_1i, q_set2_1r, q_set2_1n, q_set2_s, ↓hZ, w2, w7, w10, w14, w11, w1, had, s31, s5, e6, c1, hf, c2, c3, if_true, if_false, zb_eq0, zb_eq1, zn_1, not_true_eq_false, not_false_eq_true, ite_true, ite_false, if_true, if_false, q_iret_0, q_iret_1, decide_true, decide_false, decide_not, zb_t, zb_f, z10, z01, cond_true, cond_false, Bool.and_true, Bool.true_and, Bool.and_false, Bool.false_and, Bool.not_true, Bool.not_false, true_and, and_true, false_and, and_false, true_or, or_true, false_or, or_false, Bool.true_eq_false, Bool.false_eq_true, eq_self, reduceCtorEq, Bool.or_true, Bool.true_or, Bool.or_false, Bool.false_or])
  · simp only [zb_t] at had s31
    (simp only [e_X12_makes, zo_iload, zo_lload, zo_aload, zo_istore, zo_lstore, zo_astore, zo_iinc, zo_pushI, zo_pushL, zo_null, zo_ii, zo_iid, zo_ll, zo_li, zo_lcmp, zo_i2l, zo_l2i, zo_dup, zo_dup2, zo_pop, zo_goto, zo_if, zo_icmp, zo_ifnull, zo_gets, zo_mm, zo_throw, zo_ret, zo_aret, zo_lret, q_iret_f, q_iret_1, q_iret_0, q_iret_b, q_c8_0, q_c8_1, q_c8_2, q_c8_3, q_c8_4, q_set_0, q_set_1i, q_set_1r, q_set_1n, q_set_1N, q_set_s, q_set_1j, q_bk_v, q_bk_n, q_if, zb_ite, cond_true, cond_false, List.getElem?_cons_zero, List.getElem?_cons_succ, Nat.reduceAdd, q_set_1l, q_set2_0, q_set2_1i, q_set2_1r, q_set2_1n, q_set2_s, w2, w7, w10, w14, w11, w1, had, s31, if_true, if_false, zb_eq0, zb_eq1, zn_1, not_true_eq_false, not_false_eq_true, ite_true, ite_false, if_true, if_false, q_iret_0, q_iret_1, decide_true, decide_false, decide_not, zb_t, zb_f, z10, z01, cond_true, cond_false, Bool.and_true, Bool.true_and, Bool.and_false, Bool.false_and, Bool.not_true, Bool.not_false, true_and, and_true, false_and, and_false, true_or, or_true, false_or, or_false, Bool.true_eq_false, Bool.false_eq_true, eq_self, reduceCtorEq, Bool.or_true, Bool.true_or, Bool.or_false, Bool.false_or])
theorem open_off (H : Rl0 A R) {m k w t : Int32} (h : offM A k (dNew m k w t (nv A 1)) = true) (d : ∀ s, 11 ≤ s → (settled A (dNew m k w t (nv A 1))).2 s = dNew m k w t (nv A 1) s) : aOpen A m k w t = (-1, A) := by
  have hn := rl_n60 H
  have he := rl_e4 H
  unfold aOpen
  by_cases c1 : 60 ≤ nv A 1 ∨ k = 2 ∧ ¬ zn (liveP A) < A.1 2 5
  · rw [if_pos c1]
  · rw [if_neg c1]
    have hn6 : nv A 1 < 60 := Nat.lt_of_not_le fun q => c1 (Or.inl q)
    have c2 : ¬ (k = 2 ∧ ¬ zn (liveP A) < A.1 2 5) := fun q => c1 (Or.inr q)
    unfold aAd
    cases c3 : (settled A (dNew m k w t (nv A 1))).1 && allowed A (settled A (dNew m k w t (nv A 1))).2
    · rfl
    · unfold offM at h
      rw [c3, decide_eq_false (show ¬ nv A 1 = 60 by omega)] at h
      have h4 : ve A 1 = 400 := by
        by_cases q : ve A 1 = 400
        · exact q
        · rw [decide_eq_false q] at h
          simp only [Bool.not_true, Bool.false_or, Bool.and_eq_true, decide_eq_true_eq, Bool.not_eq_true', decide_eq_false_iff_not] at h
          exact absurd h c2
      rw [cond_true, wr_new H hn6 (d 22 (by decide)) (d 25 (by decide)), decide_eq_true (show 400 ≤ ve A 1 by omega)]
      rfl
theorem goodF_new (m k w : Int32) {tp : Nat} (n : Nat) (htp : tp ≤ 9) : goodF (dNew m k w (zn tp) n) := fun f hf => by
  rcases k17 (show f < 17 by omega) with rfl | rfl | rfl | rfl | rfl | rfl | rfl | rfl | rfl | rfl | rfl | rfl | rfl | rfl | rfl | rfl | rfl
  · exact ⟨0, rfl, by decide, by decide⟩
  · exact ⟨tp, rfl, Nat.zero_le _, htp⟩
  · exact ⟨1, rfl, by decide, by decide⟩
  · exact ⟨0, rfl, by decide, by decide⟩
  · exact ⟨0, rfl, by decide, by decide⟩
  · exact ⟨0, rfl, by decide, by decide⟩
  · exact ⟨0, rfl, by decide, by decide⟩
  · exact ⟨4, rfl, by decide, by decide⟩
  · exact ⟨0, rfl, by decide, by decide⟩
  · exact ⟨0, rfl, by decide, by decide⟩
  · exact ⟨1, rfl, by decide, by decide⟩
  all_goals exact absurd hf (by decide)
theorem goodD_new (m : Int32) {t tp n : Nat} {w : Int32} (ht : t < 6) (htp : tp ≤ 9) (hn : n < 60) (hw : w = -1 ∨ ∃ w', w = zn w' ∧ w' < n) : goodD (dNew m (zn t) w (zn tp) n) := by
  refine ⟨goodF_new m _ _ n htp, ⟨t, ht, rfl⟩, hw.imp id fun ⟨w', h1, h2⟩ => ⟨w', h1, by
    show w' < zz_ix (zn n)
    rw [zn_ix (by omega)]; exact h2⟩, ⟨0, by decide, rfl⟩, Or.inl rfl, Or.inr rfl, Or.inl rfl, ⟨0, by decide, rfl⟩, fun h => absurd h (by show ¬ (0 : Int32) = 4; decide)⟩
theorem rLogs_1 (R : zzMd) (e o : Nat) (x y : Int64) (a b : Nat) : (rLogs R e o x y).1 a b = if a = 14 ∧ b = e + 1 then zn o else if a = 9 ∧ b = o then zn (e + 1) else if a = 0 ∧ b = 14 then zn (e + 1) else R.1 a b := rfl
theorem rLogs_2 (R : zzMd) (e o : Nat) (x y : Int64) (a b : Nat) : (rLogs R e o x y).2 a b = if a = 16 ∧ b = e + 1 then y else if a = 15 ∧ b = e + 1 then x else if a = 8 ∧ b = o then y else if a = 7 ∧ b = o then x else R.2 a b := rfl
theorem rMk_1 (R : zzMd) (n : Nat) (m k : Int32) (a b : Nat) : (rMk R n m k).1 a b = if a = 0 ∧ b = 5 then zn (n + 1) else if a = 10 ∧ 11 * n ≤ b ∧ b < 11 * n + 11 then m else if a = 11 ∧ b = n then R.1 0 48 else if a = 6 ∧ b = n then k else R.1 a b := rfl
theorem Rel_mk (H : Rel A R) {t tp : Nat} (ht : t < 6) (htp : tp ≤ 9) {w : Int32} (hw : w = -1 ∨ ∃ w', w = zn w' ∧ w' < nv A 1) (m : Int32) :
    ∃ R', fX12_makes [.ref 0, .int m, .int (zn t), .int w, .int (zn tp)] R = some (.inl (some (.int (aOpen A m (zn t) w (zn tp)).1)), R') ∧ Rel (aOpen A m (zn t) w (zn tp)).2 R' ∧
      (∀ a k, a ≠ 0 → a ≠ 6 → a ≠ 9 → a ≠ 10 → a ≠ 11 → a ≠ 14 → R'.1 a k = R.1 a k) ∧ (∀ k, k ≠ 5 → k ≠ 14 → k ≠ 31 → R'.1 0 k = R.1 0 k) := by
  have hn := rl_n60 H.1
  have he := rl_e4 H.1
  have K := H.1.1.1
  obtain ⟨a, ha, ea⟩ : ∃ a, a ≤ 60 ∧ w + 1 = zn a := by
    rcases hw with h | ⟨w', h1, h2⟩
    · exact ⟨0, by decide, by rw [h]; rfl⟩
    · exact ⟨w' + 1, by omega, by rw [h1, zn_1]⟩
  have eD := enc_new m (zn t) (o := nv A 1) htp ha ea
  have gF : goodF (dNew m (zn t) w (zn tp) (nv A 1)) := goodF_new m _ _ _ htp
  obtain ⟨g1, g2, x', e1, had⟩ := r_admitted K H.1.1.2.2.1 H.1.2.2.2.2.1 gF eD
  have hh := r_makesHead H.1 ht htp ha ea m rfl had
  cases hoff : offM A (zn t) (dNew m (zn t) w (zn tp) (nv A 1))
  · rw [hoff, cond_false] at hh
    unfold offM at hoff
    have o1 : ((settled A (dNew m (zn t) w (zn tp) (nv A 1))).1 && allowed A (settled A (dNew m (zn t) w (zn tp) (nv A 1))).2) = true := by
      cases q : ((settled A (dNew m (zn t) w (zn tp) (nv A 1))).1 && allowed A (settled A (dNew m (zn t) w (zn tp) (nv A 1))).2)
      · rw [q] at hoff; simp at hoff
      · rfl
    rw [o1] at hoff hh
    simp only [Bool.not_true, Bool.false_or, Bool.or_eq_false_iff, decide_eq_false_iff_not, Bool.and_eq_false_iff, Bool.not_eq_false', decide_eq_true_eq] at hoff
    obtain ⟨o2, o3, o4⟩ := hoff
    have hn6 : nv A 1 < 60 := by omega
    have he4 : ve A 1 < 400 := by omega
    have gD := goodD_new m (n := nv A 1) ht htp hn6 hw
    have gD' : goodD (settled A (dNew m (zn t) w (zn tp) (nv A 1))).2 := by
      refine ⟨g1, ?_⟩
      have h2 := gD.2
      unfold goodS at h2 ⊢
      rw [g2 22 (by omega), g2 23 (by omega), g2 24 (by omega), g2 25 (by omega), g2 26 (by omega), g2 27 (by omega), g2 28 (by omega), g2 29 (by omega)]
      exact h2
    have eO : aOpen A m (zn t) w (zn tp) = (zn (nv A 1), zz_sI (put A (nv A 1) (settled A (dNew m (zn t) w (zn tp) (nv A 1))).2) 16 (nv A 1) (A.1 1 7)) := by
      unfold aOpen aAd
      rw [if_neg (by
        rintro (q | q)
        · omega
        · rcases o4 with z | z
          · exact z q.1
          · exact q.2 z), o1, cond_true, wr_new H.1 hn6 (g2 22 (by decide)) (g2 25 (by decide)), decide_eq_false (by omega)]
      rfl
    rw [eO]
    have S5 : (zz_sI R 0 31 (zb (!true))).1 0 5 = zn (nv A 1) := (sI_b (by decide)).trans H.1.2.1.1.2
    have S14 : (zz_sI R 0 31 (zb (!true))).1 0 14 = zn (ve A 1) := (sI_b (by decide)).trans H.1.2.1.1.1
    have ht2 := r_makesTail S5 hn6 S14 he4 m (zn t) w (zn tp) x' 0
    rw [ht2] at hh
    have Sx : ∀ a b, a ≠ 0 → (zz_sI R 0 31 (zb (!true))).1 a b = R.1 a b := fun a b h => sI_a h
    have S0 : ∀ b, b ≠ 31 → (zz_sI R 0 31 (zb (!true))).1 0 b = R.1 0 b := fun b h => sI_b h
    have S2 : (zz_sI R 0 31 (zb (!true))).2 = R.2 := rfl
    generalize zz_sI R 0 31 (zb (!true)) = S at hh Sx S0 S2 S5 S14
    generalize hDD : (settled A (dNew m (zn t) w (zn tp) (nv A 1))).2 = D' at *
    have d22 : D' 22 = zn (nv A 1) := g2 22 (by decide)
    have hm : Nat.max (nv A 1) (nv A 1 + 1) = nv A 1 + 1 := Nat.max_eq_right (Nat.le_succ _)
    have t7 := H.1.2.2.2.2.2.1
    obtain ⟨z1, z2, z3, z4, z5⟩ := Rl0_put (A' := zz_sI (put A (nv A 1) D') 16 (nv A 1) (A.1 1 7)) (R' := rLogs (rMk S (nv A 1) m (zn t)) (ve A 1) (nv A 1) x' 0) (o := nv A 1) (D := D') (x := x') (y := 0) H.1 he4 (Nat.le_refl _) hn6 (zIC_16.mpr (zIC_put hn6 he4 H.1.1.2))
      (fun k s hk hs => by
        rw [sI_a (by decide)]
        unfold put
        rw [tk_1, if_neg (by omega), if_neg (by omega), if_neg (fun z => absurd z.1 (by decide)), log_1, if_neg (by omega)])
      (fun s hs => by
        rw [sI_a (by decide)]
        unfold put
        rw [tk_1, if_neg (by omega), if_neg (by omega), if_neg (fun z => absurd z.1 (by decide)), log_1, if_pos ⟨rfl, by omega, by omega⟩, Nat.add_sub_cancel_left])
      (fun k => by
        rw [sI_a (by decide)]
        unfold put
        rw [tk_1, if_neg (by omega), if_neg (by omega)]
        by_cases q : k = nv A 1
        · rw [if_pos ⟨rfl, q⟩, if_pos q]
        · rw [if_neg (fun z => q z.2), if_neg q, log_1, if_neg (fun z => absurd z.1 (by decide))])
      (by
        rw [sI_a (by decide)]
        unfold put
        rw [tk_1, if_neg (by omega), if_pos ⟨rfl, rfl⟩]; rfl)
      (by
        rw [sI_a (by decide)]
        unfold put
        rw [tk_1, if_pos ⟨rfl, rfl⟩])
      (fun a k h1 h2 h3 h4 => by
        rw [sI_a h3]
        unfold put
        rw [tk_1, if_neg (fun z => (h4 z.1).2 z.2), if_neg (fun z => (h4 z.1).1 z.2), if_neg (fun z => h2 z.1), log_1, if_neg (fun z => h1 z.1)])
      (fun k hk => by
        rw [sI_b (by omega)]
        unfold put
        rw [tk_1, if_neg (by omega), if_neg (by omega), if_neg (fun z => absurd z.1 (by decide)), log_1, if_neg (fun z => absurd z.1 (by decide))])
      (by rw [rLogs_1, if_neg (by omega), if_neg (by omega), if_pos ⟨rfl, rfl⟩])
      (by rw [rLogs_1, if_neg (by omega), if_neg (by omega), if_neg (by omega), rMk_1, if_pos ⟨rfl, rfl⟩, hm])
      (fun b h1 h2 h3 _ _ _ => by rw [rLogs_1, if_neg (by omega), if_neg (by omega), if_neg (by omega), rMk_1, if_neg (by omega), if_neg (by omega), if_neg (by omega), if_neg (by omega)]; exact S0 b h3)
      (fun a b h1 h2 h3 h4 h5 h6 _ _ => by rw [rLogs_1, if_neg (by omega), if_neg (by omega), if_neg (by omega), rMk_1, if_neg (by omega), if_neg (by omega), if_neg (by omega), if_neg (by omega)]; exact Sx a b h1)
      (fun b hb => by rw [rLogs_1, if_neg (by omega), if_neg (by omega), if_neg (by omega), rMk_1, if_neg (by omega), if_neg (by omega), if_neg (by omega), if_neg (by omega)]; exact Sx 6 b (by decide))
      (by
        rw [rLogs_1, if_neg (by omega), if_neg (by omega), if_neg (by omega), rMk_1, if_neg (by omega), if_neg (by omega), if_neg (by omega), if_pos ⟨rfl, rfl⟩]
        exact (g2 23 (by decide)).symm)
      (fun h => absurd h (Nat.lt_irrefl _))
      (fun b hb => by rw [rLogs_1, if_neg (by omega), if_neg (by omega), if_neg (by omega), rMk_1, if_neg (by omega), if_neg (by omega), if_neg (by omega), if_neg (by omega)]; exact Sx 11 b (by decide))
      (fun _ => ⟨now A, Nat.le_refl _, by rw [sI_e]; exact t7.1, by
        rw [rLogs_1, if_neg (by omega), if_neg (by omega), if_neg (by omega), rMk_1, if_neg (by omega), if_neg (by omega), if_pos ⟨rfl, rfl⟩, S0 48 (by decide)]
        exact t7.2.2⟩)
      (fun b => by
        rw [rLogs_1, if_neg (by omega)]
        by_cases q : b = nv A 1
        · rw [if_pos ⟨rfl, q⟩, if_pos q]
        · rw [if_neg (fun z => q z.2), if_neg (by omega), if_neg q, rMk_1, if_neg (by omega), if_neg (by omega), if_neg (by omega), if_neg (by omega)]; exact Sx 9 b (by decide))
      (fun b => by
        rw [rLogs_1]
        by_cases q : b = ve A 1 + 1
        · rw [if_pos ⟨rfl, q⟩, if_pos q]
        · rw [if_neg (fun z => q z.2), if_neg (by omega), if_neg (by omega), if_neg q, rMk_1, if_neg (by omega), if_neg (by omega), if_neg (by omega), if_neg (by omega)]; exact Sx 14 b (by decide))
      (fun b => by
        rw [rLogs_2, if_neg (by omega), if_neg (by omega), if_neg (by omega)]
        by_cases q : b = nv A 1
        · rw [if_pos ⟨rfl, q⟩, if_pos q]
        · rw [if_neg (fun z => q z.2), if_neg q]; exact congrFun (congrFun S2 7) b)
      (fun b => by
        rw [rLogs_2, if_neg (by omega), if_neg (by omega)]
        by_cases q : b = nv A 1
        · rw [if_pos ⟨rfl, q⟩, if_pos q]
        · rw [if_neg (fun z => q z.2), if_neg (by omega), if_neg q]; exact congrFun (congrFun S2 8) b)
      (fun b => by
        rw [rLogs_2, if_neg (by omega)]
        by_cases q : b = ve A 1 + 1
        · rw [if_pos ⟨rfl, q⟩, if_pos q]
        · rw [if_neg (fun z => q z.2), if_neg (by omega), if_neg (by omega), if_neg q]; exact congrFun (congrFun S2 15) b)
      (fun b => by
        rw [rLogs_2]
        by_cases q : b = ve A 1 + 1
        · rw [if_pos ⟨rfl, q⟩, if_pos q]
        · rw [if_neg (fun z => q z.2), if_neg (by omega), if_neg (by omega), if_neg (by omega), if_neg q]; exact congrFun (congrFun S2 16) b)
      (fun a b h1 h2 h3 h4 => by
        rw [rLogs_2, if_neg (by omega), if_neg (by omega), if_neg (by omega), if_neg (by omega)]
        exact congrFun (congrFun S2 a) b)
      gD' d22 e1 (encB_0 (g2 30 (by decide)) (g2 31 (by decide)))
    refine ⟨rLogs (rMk S (nv A 1) m (zn t)) (ve A 1) (nv A 1) x' 0, hh, ⟨z1, fun q hq f hf => ?_⟩, fun a b h1 h2 h3 h4 h5 h6 => ?_, fun b h1 h2 h3 => ?_⟩
    · rw [z3, hm] at hq
      rw [z2, z5, rLogs_1, if_neg (by omega), if_neg (by omega), if_neg (by omega), rMk_1, if_neg (by omega)]
      by_cases c : q = nv A 1
      · rw [if_pos (by omega), if_pos c]
        show m = (zz_sI (put A (nv A 1) D') 16 (nv A 1) (A.1 1 7)).1 14 ((ve A 1 + 1) * 32 + (11 + f))
        rw [sI_a (by decide)]
        unfold put
        rw [tk_1, if_neg (by omega), if_neg (by omega), if_neg (fun z => absurd z.1 (by decide)), log_1, if_pos ⟨rfl, by omega, by omega⟩, Nat.add_sub_cancel_left, g2 (11 + f) (by omega)]
        unfold dNew
        rw [if_neg (by omega), if_neg (by omega), if_neg (by omega), if_neg (by omega), if_pos (by omega)]
      · rw [if_neg (by omega), if_neg (by omega), if_neg (by omega), if_neg c, Sx 10 _ (by decide), H.2 q (by omega) f hf]
        have hl : lastV (obj A) (ve A 1) q ≤ ve A 1 := lastV_le q _
        show A.1 14 (lastV (obj A) (ve A 1) q * 32 + (11 + f)) = (zz_sI (put A (nv A 1) D') 16 (nv A 1) (A.1 1 7)).1 14 (lastV (obj A) (ve A 1) q * 32 + (11 + f))
        rw [sI_a (by decide)]
        unfold put
        rw [tk_1, if_neg (by omega), if_neg (by omega), if_neg (fun z => absurd z.1 (by decide)), log_1, if_neg (by omega)]
    · rw [rLogs_1, if_neg (by omega), if_neg (by omega), if_neg (by omega), rMk_1, if_neg (by omega), if_neg (by omega), if_neg (by omega), if_neg (by omega)]; exact Sx a b h1
    · rw [rLogs_1, if_neg (by omega), if_neg (by omega), if_neg (by omega), rMk_1, if_neg (by omega), if_neg (by omega), if_neg (by omega), if_neg (by omega)]; exact S0 b h3
  · rw [hoff, cond_true] at hh
    rw [open_off H.1 hoff g2]
    exact ⟨_, hh, ⟨Rl0_31 (Or.inl rfl) H.1, fun q hq f hf => by rw [sI_a (by decide)]; exact H.2 q hq f hf⟩, fun a b h1 _ _ _ _ _ => sI_a h1, fun b _ _ h3 => sI_b h3⟩
end
end

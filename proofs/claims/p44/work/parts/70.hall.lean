section
/-! the calls, in both: what they have in common -/
def zAg (cd : Nat → Int32) (rc rr : Option zzRt) : Prop := ∃ M' R', Rel (nz M') R' ∧ ((∃ v, rc = some (.inl (some (.int v)), M') ∧ rr = some (.inl (some (.int v)), R') ∧ R'.1 0 49 = 0) ∨ ∃ e v, rc = some (.inr e, M') ∧ rr = some (.inl (some (.int v)), R') ∧ R'.1 0 49 = cd e ∧ ¬ cd e = 0)
section
variable {M R : zzMd} {cd : Nat → Int32} {rc rr : Option zzRt}
theorem Rel_49 {A : zzMd} {x : Int32} (H : Rel A R) : Rel A (zz_sI R 0 49 x) := ⟨Rl0_31 (Or.inr (Or.inr (Or.inr rfl))) H.1, RMan_c H.2 (fun _ => rfl) rfl rfl (fun _ => rfl)⟩
theorem Rel_42 {A : zzMd} {x : Int32} (H : Rel A R) : Rel A (zz_sI R 0 42 x) := ⟨Rl0_31 (Or.inr (Or.inl rfl)) H.1, RMan_c H.2 (fun _ => rfl) rfl rfl (fun _ => rfl)⟩
theorem zAg_v {M' R' : zzMd} {v : Int32} (h1 : rc = some (.inl (some (.int v)), M')) (h2 : rr = some (.inl (some (.int v)), R')) (h3 : Rel (nz M') R') (h4 : R'.1 0 49 = 0) : zAg cd rc rr := ⟨M', R', h3, Or.inl ⟨v, h1, h2, h4⟩⟩
theorem zAg_x {M' R' : zzMd} {e : Nat} {v : Int32} (h1 : rc = some (.inr e, M')) (h2 : rr = some (.inl (some (.int v)), R')) (h3 : Rel (nz M') R') (h4 : R'.1 0 49 = cd e) (h5 : ¬ cd e = 0) : zAg cd rc rr := ⟨M', R', h3, Or.inr ⟨e, v, h1, h2, h4, h5⟩⟩
theorem r_goes (R : zzMd) (x : Int32) : fX12_goes [.ref 0, .int x] R = some (.inl (some (.int (zb (decide (x = 0))))), zz_sI R 0 49 x) := by
  rw [s_X12_goes]
  by_cases d : x = 0 <;> (simp only [e_X12_goes, zo_iload, zo_lload, zo_aload, zo_istore, zo_lstore, zo_astore, zo_iinc, zo_pushI, zo_pushL, zo_null, zo_ii, zo_iid, zo_ll, zo_li, zo_lcmp, zo_i2l, zo_l2i, zo_dup, zo_dup2, zo_pop, zo_goto, zo_if, zo_icmp, zo_ifnull, zo_gets, zo_mm, zo_throw, zo_ret, zo_aret, zo_lret, q_iret_f, q_iret_1, q_iret_0, q_iret_b, q_c8_0, q_c8_1, q_c8_2, q_c8_3, q_c8_4, q_set_0, q_set_1i, q_set_1r, q_set_1n, q_set_1N, q_set_s, q_set_1j, q_bk_v, q_bk_n, q_if, zb_ite, cond_true, cond_false, List.getElem?_cons_zero, List.getElem?_cons_succ, Nat.reduceAdd, q_set_1l, q_set2_0, q_set2_1i, q_set2_1r, q_set2_1n, q_set2_s, d, if_true, if_false, zb_eq0, zb_eq1, zn_1, not_true_eq_false, not_false_eq_true, ite_true, ite_false, if_true, if_false, q_iret_0, q_iret_1, decide_true, decide_false, decide_not, zb_t, zb_f, z10, z01, cond_true, cond_false, Bool.and_true, Bool.true_and, Bool.and_false, Bool.false_and, Bool.not_true, Bool.not_false, true_and, and_true, false_and, and_false, true_or, or_true, false_or, or_false, Bool.true_eq_false, Bool.false_eq_true, eq_self, reduceCtorEq, Bool.or_true, Bool.true_or, Bool.or_false, Bool.false_or])
theorem r_goes0 (R : zzMd) : fX12_goes [.ref 0, .int 0] R = some (.inl (some (.int 1)), zz_sI R 0 49 0) := r_goes R 0
theorem r_goes1 (R : zzMd) : fX12_goes [.ref 0, .int 1] R = some (.inl (some (.int 0)), zz_sI R 0 49 1) := r_goes R 1
theorem r_goes2 (R : zzMd) : fX12_goes [.ref 0, .int 2] R = some (.inl (some (.int 0)), zz_sI R 0 49 2) := r_goes R 2
theorem r_goes3 (R : zzMd) : fX12_goes [.ref 0, .int 3] R = some (.inl (some (.int 0)), zz_sI R 0 49 3) := r_goes R 3
/-! small numbers -/
theorem in_cases (n : Nat) (hn : n < 1000000) (x : Int32) : (x < 0 ∨ ¬ x < 0 ∧ zn n ≤ x) ∨ ∃ o, x = zn o ∧ o < n := by
  by_cases h1 : x < 0
  · exact Or.inl (Or.inl h1)
  · by_cases h2 : zn n ≤ x
    · exact Or.inl (Or.inr ⟨h1, h2⟩)
    · obtain ⟨a, b⟩ := zi_rng h1 h2
      rw [zn_toInt (by omega)] at b
      exact Or.inr ⟨zz_ix x, a, by omega⟩
theorem le_m1 {n : Nat} (hn : n < 1000000) {x : Int32} : (zn n - 1 < x) = (zn n ≤ x) := by
  have e : (zn n - 1).toInt = (n : Int) - 1 := by
    by_cases h : n = 0
    · rw [h]; decide
    · rw [show zn n - 1 = zn (n - 1) from zn_sub (b := 1) (by omega), zn_toInt (by omega)]; omega
  rw [Int32.lt_iff_toInt_lt, Int32.le_iff_toInt_le, e, zn_toInt (by omega)]
  exact propext ⟨fun h => by omega, fun h => by omega⟩
theorem lt_n1 {n : Nat} (hn : n < 1000000) {x : Int32} : (zn n < x) = (zn (n + 1) ≤ x) := by
  rw [Int32.lt_iff_toInt_lt, Int32.le_iff_toInt_le, zn_toInt (by omega), zn_toInt (by omega)]
  exact propext ⟨fun h => by omega, fun h => by omega⟩
/-! an object -/
theorem h_nv (H : Rel (nz M) R) : zIC M ∧ nv (nz M) 1 = nv M 1 ∧ M.1 1 2 = zn (nv M 1) ∧ nv M 1 ≤ 60 ∧ R.1 0 5 = zn (nv M 1) := by
  have W : zIC M := zIC_nz.mp H.1.1.2
  exact ⟨W, rfl, W.1.2.1.1, W.1.2.1.2, H.1.2.1.1.2⟩
theorem h_obj (H : Rel (nz M) R) (x : Int32) : (fX11_requireObject [.ref 0, .int x] M = some (.inr 2, M) ∧ fX12_isObject [.ref 0, .int x] R = some (.inl (some (.int 0)), R)) ∨
    ∃ o, x = zn o ∧ o < nv M 1 ∧ fX11_requireObject [.ref 0, .int (zn o)] M = some (.inl none, M) ∧ fX12_isObject [.ref 0, .int (zn o)] R = some (.inl (some (.int 1)), R) := by
  obtain ⟨W, -, h12, hn, h5⟩ := h_nv H
  have hi := fun k => r_isObject k R
  simp only [h5, le_m1 (n := nv M 1) (by omega)] at hi
  rcases in_cases (nv M 1) (by omega) x with (h | ⟨h1, h2⟩) | ⟨o, rfl, h⟩
  · refine Or.inl ⟨?_, ?_⟩
    · rw [s_X11_requireObject]
      (simp only [e_X11_requireObject, zo_iload, zo_lload, zo_aload, zo_istore, zo_lstore, zo_astore, zo_iinc, zo_pushI, zo_pushL, zo_null, zo_ii, zo_iid, zo_ll, zo_li, zo_lcmp, zo_i2l, zo_l2i, zo_dup, zo_dup2, zo_pop, zo_goto, zo_if, zo_icmp, zo_ifnull, zo_gets, zo_mm, zo_throw, zo_ret, zo_aret, zo_lret, q_iret_f, q_iret_1, q_iret_0, q_iret_b, q_c8_0, q_c8_1, q_c8_2, q_c8_3, q_c8_4, q_set_0, q_set_1i, q_set_1r, q_set_1n, q_set_1N, q_set_s, q_set_1j, q_bk_v, q_bk_n, q_if, zb_ite, cond_true, cond_false, List.getElem?_cons_zero, List.getElem?_cons_succ, Nat.reduceAdd, q_bx_v, q_bx_n, q_bx_x, h, if_true, if_false, zb_eq0, zb_eq1, zn_1, not_true_eq_false, not_false_eq_true, ite_true, ite_false, if_true, if_false, q_iret_0, q_iret_1, decide_true, decide_false, decide_not, zb_t, zb_f, z10, z01, cond_true, cond_false, Bool.and_true, Bool.true_and, Bool.and_false, Bool.false_and, Bool.not_true, Bool.not_false, true_and, and_true, false_and, and_false, true_or, or_true, false_or, or_false, Bool.true_eq_false, Bool.false_eq_true, eq_self, reduceCtorEq, Bool.or_true, Bool.true_or, Bool.or_false, Bool.false_or])
    · rw [hi, decide_eq_true h]; rfl
  · refine Or.inl ⟨?_, ?_⟩
    · rw [s_X11_requireObject]
      have h3 : (x < zn (nv M 1)) = False := eq_false (Int32.not_lt.mpr h2)
      (simp only [e_X11_requireObject, zo_iload, zo_lload, zo_aload, zo_istore, zo_lstore, zo_astore, zo_iinc, zo_pushI, zo_pushL, zo_null, zo_ii, zo_iid, zo_ll, zo_li, zo_lcmp, zo_i2l, zo_l2i, zo_dup, zo_dup2, zo_pop, zo_goto, zo_if, zo_icmp, zo_ifnull, zo_gets, zo_mm, zo_throw, zo_ret, zo_aret, zo_lret, q_iret_f, q_iret_1, q_iret_0, q_iret_b, q_c8_0, q_c8_1, q_c8_2, q_c8_3, q_c8_4, q_set_0, q_set_1i, q_set_1r, q_set_1n, q_set_1N, q_set_s, q_set_1j, q_bk_v, q_bk_n, q_if, zb_ite, cond_true, cond_false, List.getElem?_cons_zero, List.getElem?_cons_succ, Nat.reduceAdd, q_bx_v, q_bx_n, q_bx_x, h1, h12, h3, if_true, if_false, zb_eq0, zb_eq1, zn_1, not_true_eq_false, not_false_eq_true, ite_true, ite_false, if_true, if_false, q_iret_0, q_iret_1, decide_true, decide_false, decide_not, zb_t, zb_f, z10, z01, cond_true, cond_false, Bool.and_true, Bool.true_and, Bool.and_false, Bool.false_and, Bool.not_true, Bool.not_false, true_and, and_true, false_and, and_false, true_or, or_true, false_or, or_false, Bool.true_eq_false, Bool.false_eq_true, eq_self, reduceCtorEq, Bool.or_true, Bool.true_or, Bool.or_false, Bool.false_or])
    · rw [hi, decide_eq_true h2, Bool.not_true, Bool.and_false]; rfl
  · refine Or.inr ⟨o, rfl, h, ?_, ?_⟩
    · rw [s_X11_requireObject]
      have h1 : (zn o < 0) = False := zn_lt0 (by omega)
      have h3 : (zn o < zn (nv M 1)) = True := zn_lt (a := o) (b := nv M 1) (by omega) (by omega) ▸ eq_true h
      (simp only [e_X11_requireObject, zo_iload, zo_lload, zo_aload, zo_istore, zo_lstore, zo_astore, zo_iinc, zo_pushI, zo_pushL, zo_null, zo_ii, zo_iid, zo_ll, zo_li, zo_lcmp, zo_i2l, zo_l2i, zo_dup, zo_dup2, zo_pop, zo_goto, zo_if, zo_icmp, zo_ifnull, zo_gets, zo_mm, zo_throw, zo_ret, zo_aret, zo_lret, q_iret_f, q_iret_1, q_iret_0, q_iret_b, q_c8_0, q_c8_1, q_c8_2, q_c8_3, q_c8_4, q_set_0, q_set_1i, q_set_1r, q_set_1n, q_set_1N, q_set_s, q_set_1j, q_bk_v, q_bk_n, q_if, zb_ite, cond_true, cond_false, List.getElem?_cons_zero, List.getElem?_cons_succ, Nat.reduceAdd, q_bx_v, q_bx_n, q_bx_x, h1, h12, h3, if_true, if_false, zb_eq0, zb_eq1, zn_1, not_true_eq_false, not_false_eq_true, ite_true, ite_false, if_true, if_false, q_iret_0, q_iret_1, decide_true, decide_false, decide_not, zb_t, zb_f, z10, z01, cond_true, cond_false, Bool.and_true, Bool.true_and, Bool.and_false, Bool.false_and, Bool.not_true, Bool.not_false, true_and, and_true, false_and, and_false, true_or, or_true, false_or, or_false, Bool.true_eq_false, Bool.false_eq_true, eq_self, reduceCtorEq, Bool.or_true, Bool.true_or, Bool.or_false, Bool.false_or])
    · have h1 : (zn o < 0) = False := zn_lt0 (by omega)
      have h3 : (zn (nv M 1) ≤ zn o) = False := zn_le (a := nv M 1) (b := o) (by omega) (by omega) ▸ eq_false (by omega)
      rw [hi, decide_eq_false h1.mp, decide_eq_false h3.mp]; rfl
/-- the class reads -/
theorem h_read (H : Rel (nz M) R) {o : Nat} (ho : o < nv M 1) {s : Nat} (hs : s < 32) : fX10_read [.ref 1, .int (zn o), .int (zn s)] M = some (.inl (some (.int (row (nz M) o s))), M) := by
  obtain ⟨W, -, -, hn, -⟩ := h_nv H
  rw [sp_read' (zIC_1 W), rd_row (by omega) hs]
  rfl
theorem h_rd (H : Rel (nz M) R) {o : Nat} (ho : o < nv M 1) : fX10_read [.ref 1, .int (zn o), .int 23] M = some (.inl (some (.int (R.1 6 o))), M) ∧ fX10_read [.ref 1, .int (zn o), .int 24] M = some (.inl (some (.int (row (nz M) o 24))), M) ∧
    fX10_read [.ref 1, .int (zn o), .int 25] M = some (.inl (some (.int (row (nz M) o 25))), M) ∧ fX10_read [.ref 1, .int (zn o), .int 26] M = some (.inl (some (.int (row (nz M) o 26))), M) ∧
    fX10_read [.ref 1, .int (zn o), .int 27] M = some (.inl (some (.int (row (nz M) o 27))), M) ∧ fX10_read [.ref 1, .int (zn o), .int 28] M = some (.inl (some (.int (row (nz M) o 28))), M) ∧
    fX10_read [.ref 1, .int (zn o), .int 29] M = some (.inl (some (.int (row (nz M) o 29))), M) ∧ fX10_isGone [.ref 1, .int (zn o)] M = some (.inl (some (.int (zb (decide (row (nz M) o 25 = 4))))), M) := by
  obtain ⟨W, -, -, hn, -⟩ := h_nv H
  have h23 : fX10_read [.ref 1, .int (zn o), .int 23] M = some (.inl (some (.int (row (nz M) o 23))), M) := h_read H ho (s := 23) (by decide)
  rw [(rl_cur H.1 ho).2.2.2.2] at h23
  refine ⟨h23, h_read H ho (s := 24) (by decide), h_read H ho (s := 25) (by decide), h_read H ho (s := 26) (by decide), h_read H ho (s := 27) (by decide), h_read H ho (s := 28) (by decide), h_read H ho (s := 29) (by decide), ?_⟩
  rw [sp_isGone (zIC_1 W)]
  unfold gone
  rw [show rd M 1 (zn o) 25 = row M o 25 from rd_row (k := 25) (by omega) (by decide)]
  rfl
/-- the reference reads -/
theorem h_get {A : zzMd} (H : Rl0 A R) {o : Nat} (ho : o < nv A 1) :
    (∀ f, f < 11 → fX12_get [.ref 0, .long (R.2 7 o), .int (zn f)] R = some (.inl (some (.int (row A o f))), R)) ∧ fX12_get [.ref 0, .long (R.2 7 o), .int 12] R = some (.inl (some (.int (row A o 26))), R) ∧
    fX12_get [.ref 0, .long (R.2 7 o), .int 13] R = some (.inl (some (.int (row A o 25))), R) ∧ fX12_get [.ref 0, .long (R.2 7 o), .int 14] R = some (.inl (some (.int (row A o 27))), R) ∧
    fX12_get [.ref 0, .long (R.2 7 o), .int 15] R = some (.inl (some (.int (row A o 28 + 1))), R) ∧ fX12_get [.ref 0, .long (R.2 7 o), .int 16] R = some (.inl (some (.int (row A o 29))), R) ∧
    fX12_ownerIn [.ref 0, .long (R.2 7 o)] R = some (.inl (some (.int (row A o 24))), R) ∧ fX12_isGone [.ref 0, .int (zn o)] R = some (.inl (some (.int (zb (decide (row A o 25 = 4))))), R) := by
  have h60 := lt_n60 H ho
  obtain ⟨⟨c1, c2⟩, -, -, -, -⟩ := rl_cur H ho
  have g : ∀ k, k < 17 → fX12_get [.ref 0, .long (R.2 7 o), .int (zn k)] R = some (.inl (some (.int (row A o (sl k) + of1 k))), R) := fun k hk => by
    rw [r_get H.1.1 hk, c2 k hk]; rfl
  have g13 : fX12_get [.ref 0, .long (R.2 7 o), .int 13] R = some (.inl (some (.int (row A o 25))), R) := by
    have := g 13 (by decide)
    rw [show of1 13 = 0 from rfl, Int32.add_zero] at this
    exact this
  obtain ⟨b1, x1⟩ := kinds_o o h60
  refine ⟨fun f hf => ?_, ?_, g13, ?_, g 15 (by decide), ?_, ?_, ?_⟩
  · obtain ⟨h1, h2, h3, -⟩ := sl_11 ⟨f, hf⟩
    simp only at h1 h2 h3
    have := g f h3
    rw [h1, h2, Int32.add_zero] at this
    exact this
  · have := g 12 (by decide)
    rw [show of1 12 = 0 from rfl, Int32.add_zero] at this
    exact this
  · have := g 14 (by decide)
    rw [show of1 14 = 0 from rfl, Int32.add_zero] at this
    exact this
  · have := g 16 (by decide)
    rw [show of1 16 = 0 from rfl, Int32.add_zero] at this
    exact this
  · rw [r_ownerIn H.1.1, c2 11 (by decide)]
    show some (Sum.inl (some (Value.int (row A o 24 + 1 - 1))), R) = _
    rw [Int32.add_sub_cancel]
  · rw [s_X12_isGone]
    by_cases d : row A o 25 = 4 <;> (simp only [e_X12_isGone, zo_iload, zo_lload, zo_aload, zo_istore, zo_lstore, zo_astore, zo_iinc, zo_pushI, zo_pushL, zo_null, zo_ii, zo_iid, zo_ll, zo_li, zo_lcmp, zo_i2l, zo_l2i, zo_dup, zo_dup2, zo_pop, zo_goto, zo_if, zo_icmp, zo_ifnull, zo_gets, zo_mm, zo_throw, zo_ret, zo_aret, zo_lret, q_iret_f, q_iret_1, q_iret_0, q_iret_b, q_c8_0, q_c8_1, q_c8_2, q_c8_3, q_c8_4, q_set_0, q_set_1i, q_set_1r, q_set_1n, q_set_1N, q_set_s, q_set_1j, q_bk_v, q_bk_n, q_if, zb_ite, cond_true, cond_false, List.getElem?_cons_zero, List.getElem?_cons_succ, Nat.reduceAdd, q_set_1l, q_set2_0, q_set2_1i, q_set2_1r, q_set2_1n, q_set2_s, b1, x1, q_aR, g13, d, if_true, if_false, zb_eq0, zb_eq1, zn_1, not_true_eq_false, not_false_eq_true, ite_true, ite_false, if_true, if_false, q_iret_0, q_iret_1, decide_true, decide_false, decide_not, zb_t, zb_f, z10, z01, cond_true, cond_false, Bool.and_true, Bool.true_and, Bool.and_false, Bool.false_and, Bool.not_true, Bool.not_false, true_and, and_true, false_and, and_false, true_or, or_true, false_or, or_false, Bool.true_eq_false, Bool.false_eq_true, eq_self, reduceCtorEq, Bool.or_true, Bool.true_or, Bool.or_false, Bool.false_or])
/-! asking, in the reference -/
theorem r_asksO {x : Int32} {b : Bool} (h : fX12_isObject [.ref 0, .int x] R = some (.inl (some (.int (zb b))), R)) : fX12_asksObject [.ref 0, .int x] R = some (.inl (some (.int (zb b))), zz_sI R 0 49 (zb (!b))) := by
  rw [s_X12_asksObject]
  cases b <;> (simp only [zb_t, zb_f] at h; (simp only [e_X12_asksObject, zo_iload, zo_lload, zo_aload, zo_istore, zo_lstore, zo_astore, zo_iinc, zo_pushI, zo_pushL, zo_null, zo_ii, zo_iid, zo_ll, zo_li, zo_lcmp, zo_i2l, zo_l2i, zo_dup, zo_dup2, zo_pop, zo_goto, zo_if, zo_icmp, zo_ifnull, zo_gets, zo_mm, zo_throw, zo_ret, zo_aret, zo_lret, q_iret_f, q_iret_1, q_iret_0, q_iret_b, q_c8_0, q_c8_1, q_c8_2, q_c8_3, q_c8_4, q_set_0, q_set_1i, q_set_1r, q_set_1n, q_set_1N, q_set_s, q_set_1j, q_bk_v, q_bk_n, q_if, zb_ite, cond_true, cond_false, List.getElem?_cons_zero, List.getElem?_cons_succ, Nat.reduceAdd, q_set_1l, q_set2_0, q_set2_1i, q_set2_1r, q_set2_1n, q_set2_s, h, r_goes0, r_goes1, if_true, if_false, zb_eq0, zb_eq1, zn_1, not_true_eq_false, not_false_eq_true, ite_true, ite_false, if_true, if_false, q_iret_0, q_iret_1, decide_true, decide_false, decide_not, zb_t, zb_f, z10, z01, cond_true, cond_false, Bool.and_true, Bool.true_and, Bool.and_false, Bool.false_and, Bool.not_true, Bool.not_false, true_and, and_true, false_and, and_false, true_or, or_true, false_or, or_false, Bool.true_eq_false, Bool.false_eq_true, eq_self, reduceCtorEq, Bool.or_true, Bool.true_or, Bool.or_false, Bool.false_or]))
theorem r_kind {A : zzMd} (H : Rl0 A R) {o : Nat} (ho : o < nv A 1) : (zz_inb (zn o) 60 = true ∧ zz_ix (zn o) = o) ∧ ∃ t, t < 6 ∧ R.1 6 o = zn t := by
  obtain ⟨-, -, g, -, g23⟩ := rl_cur H ho
  obtain ⟨t, h1, h2⟩ := g.2.1
  exact ⟨kinds_o o (lt_n60 H ho), t, h1, g23.symm.trans h2⟩
theorem sp_reqK {k k' : Int32} {x : Int32} (h : fX10_read [.ref 1, .int x, .int 23] M = some (.inl (some (.int k')), M)) : fX11_requireKind [.ref 0, .int x, .int k] M = bif decide (k' = k) then some (.inl none, M) else some (.inr 0, M) := by
  rw [s_X11_requireKind]
  by_cases d : k' = k <;> (simp only [e_X11_requireKind, zo_iload, zo_lload, zo_aload, zo_istore, zo_lstore, zo_astore, zo_iinc, zo_pushI, zo_pushL, zo_null, zo_ii, zo_iid, zo_ll, zo_li, zo_lcmp, zo_i2l, zo_l2i, zo_dup, zo_dup2, zo_pop, zo_goto, zo_if, zo_icmp, zo_ifnull, zo_gets, zo_mm, zo_throw, zo_ret, zo_aret, zo_lret, q_iret_f, q_iret_1, q_iret_0, q_iret_b, q_c8_0, q_c8_1, q_c8_2, q_c8_3, q_c8_4, q_set_0, q_set_1i, q_set_1r, q_set_1n, q_set_1N, q_set_s, q_set_1j, q_bk_v, q_bk_n, q_if, zb_ite, cond_true, cond_false, List.getElem?_cons_zero, List.getElem?_cons_succ, Nat.reduceAdd, q_bx_v, q_bx_n, q_bx_x, h, d, if_true, if_false, zb_eq0, zb_eq1, zn_1, not_true_eq_false, not_false_eq_true, ite_true, ite_false, if_true, if_false, q_iret_0, q_iret_1, decide_true, decide_false, decide_not, zb_t, zb_f, z10, z01, cond_true, cond_false, Bool.and_true, Bool.true_and, Bool.and_false, Bool.false_and, Bool.not_true, Bool.not_false, true_and, and_true, false_and, and_false, true_or, or_true, false_or, or_false, Bool.true_eq_false, Bool.false_eq_true, eq_self, reduceCtorEq, Bool.or_true, Bool.true_or, Bool.or_false, Bool.false_or])
theorem sp_reqF {k' : Int32} {x f : Int32} (h : fX10_read [.ref 1, .int x, .int 23] M = some (.inl (some (.int k')), M)) : fX11_requireField [.ref 0, .int x, .int f] M = bif hasF k' f then some (.inl none, M) else some (.inr 0, M) := by
  have hf := sp_hasField k' f M
  rw [s_X11_requireField]
  cases d : hasF k' f <;> (simp only [e_X11_requireField, zo_iload, zo_lload, zo_aload, zo_istore, zo_lstore, zo_astore, zo_iinc, zo_pushI, zo_pushL, zo_null, zo_ii, zo_iid, zo_ll, zo_li, zo_lcmp, zo_i2l, zo_l2i, zo_dup, zo_dup2, zo_pop, zo_goto, zo_if, zo_icmp, zo_ifnull, zo_gets, zo_mm, zo_throw, zo_ret, zo_aret, zo_lret, q_iret_f, q_iret_1, q_iret_0, q_iret_b, q_c8_0, q_c8_1, q_c8_2, q_c8_3, q_c8_4, q_set_0, q_set_1i, q_set_1r, q_set_1n, q_set_1N, q_set_s, q_set_1j, q_bk_v, q_bk_n, q_if, zb_ite, cond_true, cond_false, List.getElem?_cons_zero, List.getElem?_cons_succ, Nat.reduceAdd, q_bx_v, q_bx_n, q_bx_x, h, hf, d, if_true, if_false, zb_eq0, zb_eq1, zn_1, not_true_eq_false, not_false_eq_true, ite_true, ite_false, if_true, if_false, q_iret_0, q_iret_1, decide_true, decide_false, decide_not, zb_t, zb_f, z10, z01, cond_true, cond_false, Bool.and_true, Bool.true_and, Bool.and_false, Bool.false_and, Bool.not_true, Bool.not_false, true_and, and_true, false_and, and_false, true_or, or_true, false_or, or_false, Bool.true_eq_false, Bool.false_eq_true, eq_self, reduceCtorEq, Bool.or_true, Bool.true_or, Bool.or_false, Bool.false_or])
theorem sp_isCaller (k : Int32) (M : zzMd) : fX11_isCaller [.int k] M = some (.inl (some (.int (zb (!decide (k < 0) && !decide (4 ≤ k))))), M) := by
  rw [s_X11_isCaller]
  by_cases c1 : k < 0 <;> by_cases c2 : 4 ≤ k <;> (simp only [e_X11_isCaller, zo_iload, zo_lload, zo_aload, zo_istore, zo_lstore, zo_astore, zo_iinc, zo_pushI, zo_pushL, zo_null, zo_ii, zo_iid, zo_ll, zo_li, zo_lcmp, zo_i2l, zo_l2i, zo_dup, zo_dup2, zo_pop, zo_goto, zo_if, zo_icmp, zo_ifnull, zo_gets, zo_mm, zo_throw, zo_ret, zo_aret, zo_lret, q_iret_f, q_iret_1, q_iret_0, q_iret_b, q_c8_0, q_c8_1, q_c8_2, q_c8_3, q_c8_4, q_set_0, q_set_1i, q_set_1r, q_set_1n, q_set_1N, q_set_s, q_set_1j, q_bk_v, q_bk_n, q_if, zb_ite, cond_true, cond_false, List.getElem?_cons_zero, List.getElem?_cons_succ, Nat.reduceAdd, c1, c2, if_true, if_false, zb_eq0, zb_eq1, zn_1, not_true_eq_false, not_false_eq_true, ite_true, ite_false, if_true, if_false, q_iret_0, q_iret_1, decide_true, decide_false, decide_not, zb_t, zb_f, z10, z01, cond_true, cond_false, Bool.and_true, Bool.true_and, Bool.and_false, Bool.false_and, Bool.not_true, Bool.not_false, true_and, and_true, false_and, and_false, true_or, or_true, false_or, or_false, Bool.true_eq_false, Bool.false_eq_true, eq_self, reduceCtorEq, Bool.or_true, Bool.true_or, Bool.or_false, Bool.false_or])
theorem sp_isReader (k : Int32) (M : zzMd) : fX11_isReader [.int k] M = some (.inl (some (.int (zb (!decide (k < 0) && !decide (4 ≤ k))))), M) := by
  rw [s_X11_isReader]
  by_cases c1 : k < 0 <;> by_cases c2 : 4 ≤ k <;> (simp only [e_X11_isReader, zo_iload, zo_lload, zo_aload, zo_istore, zo_lstore, zo_astore, zo_iinc, zo_pushI, zo_pushL, zo_null, zo_ii, zo_iid, zo_ll, zo_li, zo_lcmp, zo_i2l, zo_l2i, zo_dup, zo_dup2, zo_pop, zo_goto, zo_if, zo_icmp, zo_ifnull, zo_gets, zo_mm, zo_throw, zo_ret, zo_aret, zo_lret, q_iret_f, q_iret_1, q_iret_0, q_iret_b, q_c8_0, q_c8_1, q_c8_2, q_c8_3, q_c8_4, q_set_0, q_set_1i, q_set_1r, q_set_1n, q_set_1N, q_set_s, q_set_1j, q_bk_v, q_bk_n, q_if, zb_ite, cond_true, cond_false, List.getElem?_cons_zero, List.getElem?_cons_succ, Nat.reduceAdd, c1, c2, if_true, if_false, zb_eq0, zb_eq1, zn_1, not_true_eq_false, not_false_eq_true, ite_true, ite_false, if_true, if_false, q_iret_0, q_iret_1, decide_true, decide_false, decide_not, zb_t, zb_f, z10, z01, cond_true, cond_false, Bool.and_true, Bool.true_and, Bool.and_false, Bool.false_and, Bool.not_true, Bool.not_false, true_and, and_true, false_and, and_false, true_or, or_true, false_or, or_false, Bool.true_eq_false, Bool.false_eq_true, eq_self, reduceCtorEq, Bool.or_true, Bool.true_or, Bool.or_false, Bool.false_or])
end
end

section
/-! what throws, and what only asks, changes nothing -/
section
variable {A R : zzMd}
theorem zn_dv {X d : Nat} (hX : X < 2147483648) (hd : d < 2147483648) : zn X / zn d = zn (X / d) := by
  refine Int32.toInt_inj.mp ?_
  have := Nat.div_le_self X d
  rw [Int32.toInt_div_of_ne_right _ _ (zn_m1 hd).mp, zn_toInt hX, zn_toInt hd, zn_toInt (by omega)]
  exact (Int.ofNat_tdiv X d).symm
theorem zn_md {X d : Nat} (hX : X < 2147483648) (hd : d < 2147483648) : zn X - zn X / zn d * zn d = zn (X % d) := by
  rw [zn_dv hX hd, zn_mul, zn_sub (Nat.div_mul_le_self X d)]
  exact congrArg zn (Nat.sub_eq_of_eq_add (by rw [Nat.add_comm]; exact (Nat.div_add_mod' X d).symm))
theorem z_applyBudget (H : Iv A) {o : Nat} (ho : o < nv A 1) {m : Nat} (hm : m < 4) (hk : row A o 23 = 0) : kX fX11_applyBudget [.ref 0, .int (zn m), .int (zn o), .int 0, .int 1] A 1 := by
  obtain ⟨hA, ⟨R, H⟩, I⟩ := H
  refine kX_of hA fun M hM => ?_
  subst hM
  have h1 := h_req H ho
  have a1 := k_caller1 hm M
  have w := h_kd H ho
  have h60 := lt_n60 H.1 (o := o) ho
  have wg := (h_rd H ho).2.2.2.2.2.2.2
  have w13 : fX10_read [.ref 1, .int (zn o), .int 13] M = _ := h_read H ho (s := 13) (by decide)
  have w14 : fX10_read [.ref 1, .int (zn o), .int 14] M = _ := h_read H ho (s := 14) (by decide)
  obtain ⟨v, w2, v1, w1, hvw⟩ := sp_fdiv 0 M
  have hv : v = 0 ∧ w2 = 0 := by
    rcases hvw with ⟨gn, -⟩ | ⟨q, q1, q2, q3, q4⟩
    · exact absurd gn (by decide)
    · have : q = 0 := ((zn_inj (a := 0) (b := q) (by decide) q2).mp q1).symm
      rw [this] at q3 q4
      exact ⟨q3, q4⟩
  obtain ⟨rfl, rfl⟩ := hv
  have i2 : fX11_isInRange [.int 2, .int 0] M = some (.inl (some (.int 1)), M) := sp_inR 2 0 M
  have i3 : fX11_isInRange [.int 3, .int 0] M = some (.inl (some (.int 1)), M) := sp_inR 3 0 M
  have e2 : aAp2 (nz M) (zn m) o 0 0 = (false, nz M) := by
    unfold aAp2
    rw [Ad_0 I.1]
    refine if_pos ⟨?_, ?_, ?_⟩
    · rw [dUp_n (by decide), dUp_n (by decide), dUp_n (by decide), dUp_n (by decide)]; exact hk
    · rw [dUp_n (by decide), dUp_n (by decide), dUp_n (by decide)]; exact dUp_e
    · rw [dUp_n (by decide), dUp_n (by decide)]; exact dUp_e
  obtain ⟨M2, c1, c2⟩ := sp_applyBoth (h_nv H).1 h60 (zn m) 0 0
  rw [e2] at c1 c2
  have c1' : fX9_applyBoth [.ref 1, .int (zn m), .int (zn o), .int 0, .int 0] M = some (.inl (some (.int 0)), M2) := c1
  by_cases d : row (nz M) o 25 = 4
  · refine ⟨M, ?_, rfl⟩
    rw [s_X11_applyBudget]
    clear c1 c1' c2 e2 I
    by_cases q1 : row (nz M) o 13 = zn m <;> by_cases q2 : row (nz M) o 14 = zn m <;> (simp only [e_X11_applyBudget, zo_iload, zo_lload, zo_aload, zo_istore, zo_lstore, zo_astore, zo_iinc, zo_pushI, zo_pushL, zo_null, zo_ii, zo_iid, zo_ll, zo_li, zo_lcmp, zo_i2l, zo_l2i, zo_dup, zo_dup2, zo_pop, zo_goto, zo_if, zo_icmp, zo_ifnull, zo_gets, zo_mm, zo_throw, zo_ret, zo_aret, zo_lret, q_iret_f, q_iret_1, q_iret_0, q_iret_b, q_c8_0, q_c8_1, q_c8_2, q_c8_3, q_c8_4, q_set_0, q_set_1i, q_set_1r, q_set_1n, q_set_1N, q_set_s, q_set_1j, q_bk_v, q_bk_n, q_if, zb_ite, cond_true, cond_false, List.getElem?_cons_zero, List.getElem?_cons_succ, Nat.reduceAdd, q_bx_v, q_bx_n, q_bx_x, h1, v1, w1, a1, w, hk, i2, i3, wg, d, w13, w14, q1, q2, if_true, if_false, zb_eq0, zb_eq1, zn_1, not_true_eq_false, not_false_eq_true, ite_true, ite_false, if_true, if_false, q_iret_0, q_iret_1, decide_true, decide_false, decide_not, zb_t, zb_f, z10, z01, cond_true, cond_false, Bool.and_true, Bool.true_and, Bool.and_false, Bool.false_and, Bool.not_true, Bool.not_false, true_and, and_true, false_and, and_false, true_or, or_true, false_or, or_false, Bool.true_eq_false, Bool.false_eq_true, eq_self, reduceCtorEq, Bool.or_true, Bool.true_or, Bool.or_false, Bool.false_or])
  · refine ⟨M2, ?_, c2⟩
    rw [s_X11_applyBudget]
    clear c1 c2 e2 I
    by_cases q1 : row (nz M) o 13 = zn m <;> by_cases q2 : row (nz M) o 14 = zn m <;> (simp only [e_X11_applyBudget, zo_iload, zo_lload, zo_aload, zo_istore, zo_lstore, zo_astore, zo_iinc, zo_pushI, zo_pushL, zo_null, zo_ii, zo_iid, zo_ll, zo_li, zo_lcmp, zo_i2l, zo_l2i, zo_dup, zo_dup2, zo_pop, zo_goto, zo_if, zo_icmp, zo_ifnull, zo_gets, zo_mm, zo_throw, zo_ret, zo_aret, zo_lret, q_iret_f, q_iret_1, q_iret_0, q_iret_b, q_c8_0, q_c8_1, q_c8_2, q_c8_3, q_c8_4, q_set_0, q_set_1i, q_set_1r, q_set_1n, q_set_1N, q_set_s, q_set_1j, q_bk_v, q_bk_n, q_if, zb_ite, cond_true, cond_false, List.getElem?_cons_zero, List.getElem?_cons_succ, Nat.reduceAdd, q_bx_v, q_bx_n, q_bx_x, h1, v1, w1, a1, w, hk, i2, i3, wg, d, w13, w14, q1, q2, c1', if_true, if_false, zb_eq0, zb_eq1, zn_1, not_true_eq_false, not_false_eq_true, ite_true, ite_false, if_true, if_false, q_iret_0, q_iret_1, decide_true, decide_false, decide_not, zb_t, zb_f, z10, z01, cond_true, cond_false, Bool.and_true, Bool.true_and, Bool.and_false, Bool.false_and, Bool.not_true, Bool.not_false, true_and, and_true, false_and, and_false, true_or, or_true, false_or, or_false, Bool.true_eq_false, Bool.false_eq_true, eq_self, reduceCtorEq, Bool.or_true, Bool.true_or, Bool.or_false, Bool.false_or])
theorem rf_a (H : Iv A) {N E F S Q Z T V U : Int32} {r : Nat} (hN : N < 0 ∨ zn (nv A 1) ≤ N) (hE : E < 0 ∨ 8 ≤ E) (hF : F < 0 ∨ 4 ≤ F) (hS : S < 0 ∨ 6 ≤ S) (hS1 : hasF S 0 = false) (hS2 : inR 0 S = false) (hQ : Q < 0 ∨ 60 < Q) (hZ : Z < 1 ∨ 400 < Z) (hT : T < 1 ∨ 10 < T) (hV : V < 0 ∨ zn (ve A 1) < V) (hU : U < 1 ∨ 100 < U) (hr : zn r < zn (r + 1)) : fL_act [.ref 0, .int 0, .int F, .int 0, .int 0, .int 0, .int 0, .int 0] A = some (some (.int (-1272)), A) ∧
  fL_act [.ref 0, .int 0, .int 0, .int S, .int 0, .int 0, .int 0, .int 0] A = some (some (.int (-1272)), A) ∧
  fL_act [.ref 0, .int 1, .int 0, .int N, .int 0, .int 0, .int (-1), .int 0] A = some (some (.int (-1271)), A) ∧
  fL_act [.ref 0, .int 2, .int 0, .int N, .int 0, .int 0, .int 0, .int 0] A = some (some (.int (-1271)), A) ∧
  fL_act [.ref 0, .int 3, .int N, .int 9, .int 0, .int 0, .int 0, .int 0] A = some (some (.int (-1271)), A) ∧
  fL_act [.ref 0, .int 4, .int N, .int 1, .int 0, .int 0, .int 0, .int 0] A = some (some (.int (-1271)), A) ∧
  fL_act [.ref 0, .int 5, .int N, .int 1, .int 0, .int 0, .int 0, .int 0] A = some (some (.int (-1271)), A) ∧
  fL_act [.ref 0, .int 6, .int S, .int 0, .int 0, .int 5, .int 0, .int 0] A = some (some (.int (-1272)), A) ∧
  fL_act [.ref 0, .int 6, .int 0, .int 0, .int (zn (r + 1)), .int (zn r), .int 0, .int 0] A = some (some (.int (-1272)), A) ∧
  fL_act [.ref 0, .int 6, .int 1, .int 0, .int 0, .int 5, .int 2, .int 0] A = some (some (.int (-1272)), A) ∧
  fL_act [.ref 0, .int 6, .int 0, .int 0, .int 0, .int 5, .int 0, .int S] A = some (some (.int (-1272)), A) ∧
  fL_act [.ref 0, .int 7, .int 4, .int 0, .int 5, .int 0, .int 0, .int 0] A = some (some (.int (-1272)), A) ∧
  fL_act [.ref 0, .int 8, .int Q, .int 0, .int 0, .int 0, .int 0, .int 0] A = some (some (.int (-1272)), A) ∧
  fL_act [.ref 0, .int 9, .int E, .int 5, .int 0, .int 0, .int 0, .int 0] A = some (some (.int (-1272)), A) ∧
  fL_act [.ref 0, .int 9, .int 0, .int Z, .int 0, .int 0, .int 0, .int 0] A = some (some (.int (-1272)), A) ∧
  fL_act [.ref 0, .int 10, .int E, .int 0, .int 0, .int 0, .int 0, .int 0] A = some (some (.int (-1272)), A) ∧
  fL_act [.ref 0, .int 11, .int T, .int 0, .int 0, .int 0, .int 0, .int 0] A = some (some (.int (-1272)), A) ∧
  fL_act [.ref 0, .int 12, .int F, .int 0, .int 0, .int 0, .int 0, .int 0] A = some (some (.int (-1272)), A) ∧
  fL_act [.ref 0, .int 12, .int 0, .int V, .int 0, .int 0, .int 0, .int 0] A = some (some (.int (-1272)), A) ∧
  fL_act [.ref 0, .int 13, .int F, .int 0, .int 0, .int 0, .int 0, .int 0] A = some (some (.int (-1272)), A) ∧
  fL_act [.ref 0, .int 14, .int V, .int 0, .int 0, .int 0, .int 0, .int 0] A = some (some (.int (-1272)), A) ∧
  fL_act [.ref 0, .int 15, .int U, .int 0, .int 0, .int 0, .int 0, .int 0] A = some (some (.int (-1272)), A) ∧
  fL_act [.ref 0, .int 16, .int N, .int 0, .int 0, .int 0, .int 0, .int 0] A = some (some (.int (-1271)), A) ∧
  fL_act [.ref 0, .int 17, .int N, .int 50, .int 0, .int 0, .int 0, .int 0] A = some (some (.int (-1271)), A) ∧
  fL_act [.ref 0, .int 18, .int F, .int 0, .int 0, .int 0, .int 0, .int 0] A = some (some (.int (-1272)), A) := by
  obtain ⟨hA, ⟨R, HR⟩, -⟩ := H
  exact ⟨xa_make (kX_e (m_make hA HR hF 0)) rfl,
    xa_make (kX_e (m_makeK hA HR (m := 0) (by decide) hS)) rfl,
    xa_apply (kX_e (o_apply hA HR hN 0 0 0 (-1) _)) rfl,
    xa_applyBudget (kX_e (o_applyBudget hA HR hN 0 0 _)) rfl,
    xa_delete (kX_e (o_delete hA HR hN 9)) rfl,
    xa_hold (kX_e (o_hold hA HR hN _)) rfl,
    xa_finish (kX_e (o_finish hA HR hN _)) rfl,
    xa_rule (kX_e (m_rule hA HR hS1)) rfl,
    xa_rule (kX_e (m_ruleL hA HR (by decide) (by decide) hr)) rfl,
    xa_rule (kX_e (m_ruleT hA HR (by decide) (by decide))) rfl,
    xa_rule (kX_e (m_ruleV hA HR (by decide) (by decide) (by decide) hS2)) rfl,
    xa_check (kX_e (m_check hA HR (by decide))) rfl,
    xa_quota (kX_e (m_quota hA HR hQ)) rfl,
    xa_see (kX_e (m_see hA HR hE 5)) rfl,
    xa_see (kX_e (m_seeN hA HR (c := 0) (by decide) hZ)) rfl,
    xa_work (kX_e (m_work hA HR hE)) rfl,
    xa_turn (kX_e (m_turn hA HR hT)) rfl,
    xa_watch (kX_e (m_watch hA HR hF 0)) rfl,
    xa_watch (kX_e (m_watchN hA HR (m := 0) (by decide) hV)) rfl,
    xa_next (kX_e (m_next hA HR hF)) rfl,
    xa_compact (kX_e (m_compact hA HR hV)) rfl,
    xa_tick (kX_e (m_tick hA HR hU)) rfl,
    xa_beat (kX_e (o_beat hA HR hN)) rfl,
    xa_wish (kX_e (o_wish hA HR hN 50)) rfl,
    xa_list (kX_e (m_list hA HR hF)) rfl⟩
theorem rf_o (H : Iv A) {N : Int32} (hN : N < 0 ∨ zn (nv A 1) ≤ N) {i : Nat} (hi : i < 12) : fL_of [.ref 0, .int (zn i), .int N, .int 0, .int 0] A = some (some (.int (-1271)), A) := by
  obtain ⟨hA, ⟨R, HR⟩, -⟩ := H
  have hi : i = 0 ∨ i = 1 ∨ i = 2 ∨ i = 3 ∨ i = 4 ∨ i = 5 ∨ i = 6 ∨ i = 7 ∨ i = 8 ∨ i = 9 ∨ i = 10 ∨ i = 11 := by omega
  rcases hi with rfl | rfl | rfl | rfl | rfl | rfl | rfl | rfl | rfl | rfl | rfl | rfl
  · exact xo_kindOf (kX_e (o_kindOf hA HR hN)) rfl
  · exact xo_field (kX_e (o_field hA HR hN 0)) rfl
  · exact xo_managerOf (kX_e (o_managerOf hA HR hN 0)) rfl
  · exact xo_budget (kX_e (o_budget hA HR hN)) rfl
  · exact xo_versionOf (kX_e (o_versionOf hA HR hN)) rfl
  · exact xo_goingOf (kX_e (o_goingOf hA HR hN)) rfl
  · exact xo_ownerOf (kX_e (o_ownerOf hA HR hN)) rfl
  · exact xo_phaseOf (kX_e (o_phaseOf hA HR hN)) rfl
  · exact xo_placeOf (kX_e (o_placeOf hA HR hN)) rfl
  · exact xo_isReady (kX_e (o_isReady hA HR hN)) rfl
  · exact xo_isBehind (kX_e (o_isBehind hA HR hN 0)) rfl
  · exact xo_running (kX_e (o_running hA HR hN _)) rfl
theorem rf_b (H : Iv A) {N E P : Int32} (hN : N < 0 ∨ zn (nv A 1) ≤ N) (hE : E < 0 ∨ 8 ≤ E) (hP : P < 0) : fL_of [.ref 0, .int 13, .int E, .int 0, .int 0] A = some (some (.int (-1272)), A) ∧
  fL_of [.ref 0, .int 14, .int E, .int (-1), .int 0] A = some (some (.int (-1272)), A) ∧
  fL_of [.ref 0, .int 14, .int 0, .int P, .int 0] A = some (some (.int (-1271)), A) ∧
  fL_of [.ref 0, .int 15, .int 0, .int N, .int 0] A = some (some (.int (-1271)), A) ∧
  fL_of [.ref 0, .int 16, .int E, .int N, .int 0] A = some (some (.int (-1272)), A) ∧
  fL_of [.ref 0, .int 16, .int 0, .int N, .int 0] A = some (some (.int (-1271)), A) := by
  obtain ⟨hA, ⟨R, HR⟩, -⟩ := H
  exact ⟨xo_seen (kX_e (m_seen hA HR hE)) rfl,
    xo_queued (kX_e (m_queued hA HR hE (-1))) rfl,
    xo_queued (kX_e (m_queuedN hA HR (c := 0) (by decide) hP)) rfl,
    xo_failures (kX_e (o_failures hA HR (c := 0) (by decide) hN)) rfl,
    xo_believed (kX_e (m_believed hA HR hE N 0)) rfl,
    xo_believed (kX_e (o_believed hA HR (c := 0) (by decide) hN 0)) rfl⟩
theorem rf_k (H : Iv A) {k fi ot mo : Nat} (hk : k < nv A 1) {F B W D : Int32} (hF : F < 0 ∨ 4 ≤ F) (hfi : hasF (row A k 23) (zn fi) = true) (hfi11 : fi < 11) (hno : hasF (row A k 23) (zn ot) = false) (hB : inR (zn fi) B = false) (h0 : inR (zn fi) 0 = true) (hW : ¬ W = -1 ∧ ¬ W = A.1 15 k) (hmo : mo < 4) (hmn : ¬ row A k (11 + fi) = zn mo) (hD : ¬ D = 1 ∧ ¬ D = 2 ∧ ¬ D = 3) : fL_act [.ref 0, .int 1, .int F, .int (zn k), .int (zn fi), .int 0, .int (-1), .int 1] A = some (some (.int (-1272)), A) ∧
  fL_act [.ref 0, .int 1, .int 0, .int (zn k), .int (zn ot), .int 0, .int (-1), .int 1] A = some (some (.int (-1272)), A) ∧
  fL_act [.ref 0, .int 1, .int 0, .int (zn k), .int (zn fi), .int B, .int (-1), .int 1] A = some (some (.int (-1272)), A) ∧
  fL_act [.ref 0, .int 1, .int 0, .int (zn k), .int (zn fi), .int 0, .int W, .int 1] A = some (some (.int (-1273)), A) ∧
  fL_act [.ref 0, .int 1, .int (zn mo), .int (zn k), .int (zn fi), .int 0, .int (-1), .int 0] A = some (some (.int (-1273)), A) ∧
  fL_act [.ref 0, .int 3, .int (zn k), .int D, .int 0, .int 0, .int 0, .int 0] A = some (some (.int (-1272)), A) := by
  obtain ⟨hA, ⟨R, HR⟩, -⟩ := H
  exact ⟨xa_apply (kX_e (m_apply hA HR hk hF (zn fi) 0 (-1) _)) rfl,
    xa_apply (kX_e (f_apply hA HR hk (m := 0) (by decide) hno 0 (-1) _)) rfl,
    xa_apply (kX_e (v_apply hA HR hk (m := 0) (by decide) hfi hB (-1) _)) rfl,
    xa_apply (kX_e (e_apply hA HR hk (m := 0) (by decide) hfi h0 hW _)) rfl,
    xa_apply (kX_e (n_apply hA HR hk hmo hfi hfi11 h0 hmn)) rfl,
    xa_delete (kX_e (m_delete hA HR hk hD.1 hD.2.1 hD.2.2)) rfl⟩
theorem c8_6 (a b c d e : Int32) (x : Nat) : zz_cat8 [.int a, .int b, .int c, .int d, .int e, .ref x] = true := rfl
theorem lo_dec : ∀ r : Fin 30, (-1 - zn r.1 < 0) ∧ (0 - zn r.1 < 1) ∧ hasF (-1 - zn r.1) 0 = false ∧ inR 0 (-1 - zn r.1) = false ∧ inR 1 (-1 - zn r.1) = false ∧ inR 7 (-1 - zn r.1) = false ∧ inR 1 (-2 - zn r.1) = false ∧ ¬ (-2 - zn r.1 = -1) ∧ ¬ (0 - zn r.1 = 1) ∧ ¬ (0 - zn r.1 = 2) ∧ ¬ (0 - zn r.1 = 3) ∧ 8 ≤ 8 + zn r.1 ∧ 4 ≤ 4 + zn r.1 := by decide +kernel
theorem has_k {t : Nat} (ht : t < 6) (h : ¬ t = 4) : hasF (zn t) 1 = true ∧ hasF (zn t) 7 = false := by
  rcases zc6 ht with rfl | rfl | rfl | rfl | rfl | rfl <;> first | exact absurd rfl h | exact ⟨by decide, by decide⟩
theorem f_688 (H : Iv A) {N : Int32} (hN : N < 0 ∨ zn (nv A 1) ≤ N) (x lo E F : Int32) (was : Int64) {n : Nat} (hn : n ≤ 3000) : ∀ i, i ≤ 12 → lz_ev tL_isRefused 688 [some (.ref 0), some (.int x), some (.int lo), some (.int N), some (.int E), some (.int F), some (.long was), none, some (.int 1), some (.int 0), none, none, none] [] (A, n) = lz_ev tL_isRefused 688 [some (.ref 0), some (.int x), some (.int lo), some (.int N), some (.int E), some (.int F), some (.long was), none, some (.int 1), some (.int (zn i)), none, none, none] [] (A, n + i) := by
  intro i
  induction i with
  | zero => exact fun _ => rfl
  | succ i ih =>
    intro hi
    refine (ih (by omega)).trans ?_
    have a1 := rf_o H hN (i := i) (by omega)
    have l : ((12 : Int32) ≤ zn i) = False := zn_le (a := 12) (b := i) (by decide) (by omega) ▸ eq_false (by omega)
    rw [show n + (i + 1) = n + i + 1 from rfl]
    have f1 : (n + i + 1 ≤ 3600) = True := eq_true (by omega)
    clear ih
    generalize n + i = m at *
    (rw [e_L_isRefused_688]; simp (decide := true) only [e_L_isRefused_p0, e_L_isRefused_p1, e_L_isRefused_p2, e_L_isRefused_p3, e_L_isRefused_p4, e_L_isRefused_p5, lo_iload, lo_lload, lo_aload, lo_istore, lo_lstore, lo_iinc, lo_pushI, lo_pushL, lo_ii, lo_iid, lo_ll, lo_li, lo_lcmp, lo_i2l, lo_dup2, lo_goto, lo_if, lo_icmp, lq_iret_f, lq_iret_1, lq_iret_0, lq_iret_b, lq_lret, lq_bs, lq_bv, lq_bhv, lq_bhx, q_c8_0, q_c8_1, q_c8_2, q_c8_3, q_c8_4, q_set_0, q_set_1i, q_set_1r, q_set_1n, q_set_1N, q_set_s, q_set_1j, q_set_1l, q_set2_0, q_set2_1i, q_set2_1r, q_set2_1n, q_set2_s, q_if, zb_ite, cond_true, cond_false, List.getElem?_cons_zero, List.getElem?_cons_succ, Nat.reduceAdd, l, a1, f1, Int32.reduceLT, Int32.reduceLE, Nat.reduceLeDiff, Nat.zero_le, Nat.le_refl, Nat.zero_add, if_true, if_false, zb_eq0, zb_eq1, zn_1, not_true_eq_false, not_false_eq_true, ite_true, ite_false, if_true, if_false, q_iret_0, q_iret_1, decide_true, decide_false, decide_not, zb_t, zb_f, z10, z01, cond_true, cond_false, Bool.and_true, Bool.true_and, Bool.and_false, Bool.false_and, Bool.not_true, Bool.not_false, true_and, and_true, false_and, and_false, true_or, or_true, false_or, or_false, Bool.true_eq_false, Bool.false_eq_true, eq_self, reduceCtorEq, Bool.or_true, Bool.true_or, Bool.or_false, Bool.false_or])
set_option maxRecDepth 100000 in
set_option maxHeartbeats 8000000 in
theorem f_841_1 (H : Iv A) {X r : Nat} (hX : X < 2147483648) (hr : r < 30) (m30 : zn X - zn X / 30 * 30 = zn r) (N E : Int32) {F : Int32} (hF : F < 0 ∨ 4 ≤ F) (was : Int64) {k n : Nat} (hk : k < nv A 1) (hn : n + 15 ≤ 3600) (j10 j11 j12 : Option Value) : ∃ n' i10 i11 i12, n' ≤ n + 15 ∧ lz_ev tL_isRefused 841 [some (.ref 0), some (.int (zn X)), some (.int 1), some (.int N), some (.int E), some (.int F), some (.long was), none, some (.int 1), some (.int (zn k)), j10, j11, j12] [] (A, n) = lz_ev tL_isRefused 841 [some (.ref 0), some (.int (zn X)), some (.int 1), some (.int N), some (.int E), some (.int F), some (.long was), none, some (.int 1), some (.int (zn (k + 1))), i10, i11, i12] [] (A, n') := by
  have H' := H
  obtain ⟨hA, ⟨R, HR⟩, I⟩ := H'
  have n60 := rl_n60 HR.1
  have L := I.1.1
  obtain ⟨z1, z2, -, -, z5, z6, z7, z8, z9, z10, z11, -, -⟩ := lo_dec ⟨r, hr⟩
  obtain ⟨⟨gF, ⟨t, t1, t2⟩, -, ⟨q, q1, q2⟩, -⟩, -⟩ := cur_good HR.1 hk
  have l : (zn (nv A 1) ≤ zn k) = False := zn_le (a := nv A 1) (b := k) (by omega) (by omega) ▸ eq_false (by omega)
  have o0 := kV_e (g_objects hA HR)
  have o1 := kV_e (g_kindOf hA HR hk)
  have o2 := kV_e (g_goingOf hA HR hk)
  have o3 := kV_e (g_versionOf hA HR hk)
  have v15 : A.1 15 k = zn (lastV (obj A) (ve A 1) k) := L.2.2.2.1.2 k (by omega)
  have vle := lastV_le (f := obj A) k (ve A 1)
  have v4 := (Lg_n60 L).2.1
  have hW : ∀ v, A.1 15 k = zn v → v ≤ 400 → ¬ zn (v + 1) + zn r = -1 ∧ ¬ zn (v + 1) + zn r = A.1 15 k := fun v e h => by
    rw [zn_add, e]
    refine ⟨(zn_m1 (k := v + 1 + r) (by omega)).mp, fun z => ?_⟩
    have := (zn_inj (a := v + 1 + r) (b := v) (by omega) (by omega)).mp z
    omega
  have hW := hW _ v15 (by omega)
  rw [v15] at o3
  rw [q2] at o2
  generalize lastV (obj A) (ve A 1) k = v at *
  have hD : ¬ (0 - zn r) = 1 ∧ ¬ (0 - zn r) = 2 ∧ ¬ (0 - zn r) = 3 := ⟨z9, z10, z11⟩
  have m3 : zn X - zn X / 3 * 3 = zn (X % 3) := zn_md (X := X) (d := 3) hX (by decide)
  have hx3 : X % 3 < 3 := Nat.mod_lt _ (by decide)
  generalize X % 3 = u at *
  have f0 : (n ≤ 3600) = True := eq_true (by omega)
  have f1 : (n + 1 ≤ 3600) = True := eq_true (by omega)
  have f2 : (n + 1 + 1 ≤ 3600) = True := eq_true (by omega)
  have f3 : (n + 1 + 1 + 1 ≤ 3600) = True := eq_true (by omega)
  have f4 : (n + 1 + 1 + 1 + 1 ≤ 3600) = True := eq_true (by omega)
  have f5 : (n + 1 + 1 + 1 + 1 + 1 ≤ 3600) = True := eq_true (by omega)
  have f6 : (n + 1 + 1 + 1 + 1 + 1 + 1 ≤ 3600) = True := eq_true (by omega)
  have f7 : (n + 1 + 1 + 1 + 1 + 1 + 1 + 1 ≤ 3600) = True := eq_true (by omega)
  have f8 : (n + 1 + 1 + 1 + 1 + 1 + 1 + 1 + 1 ≤ 3600) = True := eq_true (by omega)
  have f9 : (n + 1 + 1 + 1 + 1 + 1 + 1 + 1 + 1 + 1 ≤ 3600) = True := eq_true (by omega)
  have f10 : (n + 1 + 1 + 1 + 1 + 1 + 1 + 1 + 1 + 1 + 1 ≤ 3600) = True := eq_true (by omega)
  have f11 : (n + 1 + 1 + 1 + 1 + 1 + 1 + 1 + 1 + 1 + 1 + 1 ≤ 3600) = True := eq_true (by omega)
  have f12 : (n + 1 + 1 + 1 + 1 + 1 + 1 + 1 + 1 + 1 + 1 + 1 + 1 ≤ 3600) = True := eq_true (by omega)
  have f13 : (n + 1 + 1 + 1 + 1 + 1 + 1 + 1 + 1 + 1 + 1 + 1 + 1 + 1 ≤ 3600) = True := eq_true (by omega)
  have f14 : (n + 1 + 1 + 1 + 1 + 1 + 1 + 1 + 1 + 1 + 1 + 1 + 1 + 1 + 1 ≤ 3600) = True := eq_true (by omega)
  have f15 : (n + 1 + 1 + 1 + 1 + 1 + 1 + 1 + 1 + 1 + 1 + 1 + 1 + 1 + 1 + 1 ≤ 3600) = True := eq_true (by omega)
  have dl : ¬ row A k 25 = 0 → fL_act [.ref 0, .int 3, .int (zn k), .int (1 + zn u), .int 0, .int 0, .int 0, .int 0] A = some (some (.int (-1273)), A) := fun h => by
    rw [show 1 + zn u = zn (1 + u) from zn_add 1 u]
    exact xa_delete (kX_e (s_deleteX hA HR hk (q := 1 + u) (by omega) (by omega) h)) rfl
  have hl : row A k 25 = 4 → fL_act [.ref 0, .int 4, .int (zn k), .int 1, .int 0, .int 0, .int 0, .int 0] A = some (some (.int (-1273)), A) := fun h => xa_hold (kX_e (g_holdX hA HR hk h _)) rfl
  have fn2 : ¬ row A k 23 = 2 → fL_act [.ref 0, .int 5, .int (zn k), .int 0, .int 0, .int 0, .int 0, .int 0] A = some (some (.int (-1272)), A) := fun h => xa_finish (kX_e (k_finish hA HR hk h _)) rfl
  have fb4 : ¬ row A k 23 = 4 → fL_act [.ref 0, .int 16, .int (zn k), .int 0, .int 0, .int 0, .int 0, .int 0] A = some (some (.int (-1272)), A) := fun h => xa_beat (kX_e (k_beat hA HR hk h)) rfl
  have fu : ¬ row A k 23 = 0 → fL_act [.ref 0, .int 2, .int 0, .int (zn k), .int 10, .int 1, .int 0, .int 0] A = some (some (.int (-1272)), A) := fun h => xa_applyBudget (kX_e (k_applyBudget hA HR hk (m := 0) (by decide) h 10 _)) rfl
  have fw : ¬ row A k 23 = 0 → fL_act [.ref 0, .int 17, .int (zn k), .int 1, .int 0, .int 0, .int 0, .int 0] A = some (some (.int (-1272)), A) := fun h => xa_wish (kX_e (k_wish hA HR hk h 1)) rfl
  by_cases c4 : row A k 23 = 4
  · skip
    have hfi : hasF (row A k 23) (zn 7) = true := by rw [c4]; decide
    have hno : hasF (row A k 23) (zn 1) = false := by rw [c4]; decide
    obtain ⟨g, g1, g2⟩ := (JJ_cur I.1 hk).2.2.2.2 7 (by decide)
    have om : lz_g fX11_managerOf [.ref 0, .int (zn k), .int 7] A = some (.inl (some (.int (zn g))), A) := by
      rw [← g2]
      exact kV_e (g_managerOf hA HR hk hfi (by decide))
    have ga : row A k 25 = 4 → fL_act [.ref 0, .int 1, .int 0, .int (zn k), .int 7, .int 1, .int (-1), .int 1] A = some (some (.int (-1273)), A) := fun h => xa_apply (kX_e (g_applyX hA HR hk (m := 0) (by decide) hfi (by decide) h (-1) _)) rfl
    have hmo : ∃ mo, mo < 4 ∧ ¬ row A k (11 + 7) = zn mo ∧ ((g = 0 ∧ mo = 1) ∨ (¬ g = 0 ∧ mo = 0)) := by
      by_cases z : g = 0
      · exact ⟨1, by decide, by rw [g2, z]; decide, Or.inl ⟨z, rfl⟩⟩
      · exact ⟨0, by decide, by rw [g2]; exact fun y => z ((zn_inj (a := g) (b := 0) (by omega) (by decide)).mp y), Or.inr ⟨z, rfl⟩⟩
    obtain ⟨mo, mo1, mo2, mo3⟩ := hmo
    obtain ⟨k1, k2, k3, k4, k5, k6⟩ := rf_k H hk (fi := 7) (ot := 1) (mo := mo) (B := (-1 - zn r)) (W := zn (v + 1) + zn r) (D := (0 - zn r)) hF hfi (by decide) hno z6 (by decide) hW mo1 mo2 hD
    have k1 : fL_act [.ref 0, .int 1, .int F, .int (zn k), .int 7, .int 0, .int (-1), .int 1] A = some (some (.int (-1272)), A) := k1
    have k2 : fL_act [.ref 0, .int 1, .int 0, .int (zn k), .int 1, .int 0, .int (-1), .int 1] A = some (some (.int (-1272)), A) := k2
    have k3 : fL_act [.ref 0, .int 1, .int 0, .int (zn k), .int 7, .int (-1 - zn r), .int (-1), .int 1] A = some (some (.int (-1272)), A) := k3
    have k4 : fL_act [.ref 0, .int 1, .int 0, .int (zn k), .int 7, .int 0, .int (zn (v + 1) + zn r), .int 1] A = some (some (.int (-1273)), A) := k4
    have k5 : fL_act [.ref 0, .int 1, .int (zn mo), .int (zn k), .int 7, .int 0, .int (-1), .int 0] A = some (some (.int (-1273)), A) := k5
    have q7 := fn2 (fun z => absurd (c4.symm.trans z) (by decide))
    have q13 := fu (fun z => absurd (c4.symm.trans z) (by decide))
    have q14 := fw (fun z => absurd (c4.symm.trans z) (by decide))
    have dg : (zn g = 0) = (g = 0) := zn_inj (a := g) (b := 0) (by omega) (by decide)
    by_cases q0 : q = 0
    · have gq : (zn q = 0) = True := (zn_inj (a := q) (b := 0) (by omega) (by decide)).trans (eq_true q0)
      have g4 : (zn q < 4) = True := zn_lt (a := q) (b := 4) (by omega) (by decide) ▸ eq_true (by omega)
      refine ⟨n + 1 + 1 + 1 + 1 + 1 + 1 + 1 + 1 + 1, some (.int 4), some (.int 7), some (.int (zn mo)), by omega, ?_⟩
      clear dl hl fn2 fb4 fu fw ga HR I H hW L gF hD
      rcases mo3 with ⟨g0, rfl⟩ | ⟨g0, rfl⟩
      · rw [eq_true g0] at dg
        simp only [zl_1] at k5 ⊢
        clear g0
        (rw [e_L_isRefused_841]; simp (decide := true) only [e_L_isRefused_p0, e_L_isRefused_p1, e_L_isRefused_p2, e_L_isRefused_p3, e_L_isRefused_p4, e_L_isRefused_p5, lo_iload, lo_lload, lo_aload, lo_istore, lo_lstore, lo_iinc, lo_pushI, lo_pushL, lo_ii, lo_iid, lo_ll, lo_li, lo_lcmp, lo_i2l, lo_dup2, lo_goto, lo_if, lo_icmp, lq_iret_f, lq_iret_1, lq_iret_0, lq_iret_b, lq_lret, lq_bs, lq_bv, lq_bhv, lq_bhx, q_c8_0, q_c8_1, q_c8_2, q_c8_3, q_c8_4, q_set_0, q_set_1i, q_set_1r, q_set_1n, q_set_1N, q_set_s, q_set_1j, q_set_1l, q_set2_0, q_set2_1i, q_set2_1r, q_set2_1n, q_set2_s, q_if, zb_ite, cond_true, cond_false, List.getElem?_cons_zero, List.getElem?_cons_succ, Nat.reduceAdd, c4, l, f0, f1, f2, f3, f4, f5, f6, f7, f8, f9, f10, f11, f12, f13, f14, f15, c8_6, o0, o1, o2, o3, om, m30, m3, dg, gq, g4, k1, k2, k3, k4, k5, k6, q7, q13, q14, Int32.reduceLT, Int32.reduceLE, Nat.reduceLeDiff, Nat.zero_le, Nat.le_refl, Nat.zero_add, if_true, if_false, zb_eq0, zb_eq1, zn_1, not_true_eq_false, not_false_eq_true, ite_true, ite_false, if_true, if_false, q_iret_0, q_iret_1, decide_true, decide_false, decide_not, zb_t, zb_f, z10, z01, cond_true, cond_false, Bool.and_true, Bool.true_and, Bool.and_false, Bool.false_and, Bool.not_true, Bool.not_false, true_and, and_true, false_and, and_false, true_or, or_true, false_or, or_false, Bool.true_eq_false, Bool.false_eq_true, eq_self, reduceCtorEq, Bool.or_true, Bool.true_or, Bool.or_false, Bool.false_or])
      · rw [eq_false g0] at dg
        simp only [zl_0] at k5 ⊢
        clear g0
        (rw [e_L_isRefused_841]; simp (decide := true) only [e_L_isRefused_p0, e_L_isRefused_p1, e_L_isRefused_p2, e_L_isRefused_p3, e_L_isRefused_p4, e_L_isRefused_p5, lo_iload, lo_lload, lo_aload, lo_istore, lo_lstore, lo_iinc, lo_pushI, lo_pushL, lo_ii, lo_iid, lo_ll, lo_li, lo_lcmp, lo_i2l, lo_dup2, lo_goto, lo_if, lo_icmp, lq_iret_f, lq_iret_1, lq_iret_0, lq_iret_b, lq_lret, lq_bs, lq_bv, lq_bhv, lq_bhx, q_c8_0, q_c8_1, q_c8_2, q_c8_3, q_c8_4, q_set_0, q_set_1i, q_set_1r, q_set_1n, q_set_1N, q_set_s, q_set_1j, q_set_1l, q_set2_0, q_set2_1i, q_set2_1r, q_set2_1n, q_set2_s, q_if, zb_ite, cond_true, cond_false, List.getElem?_cons_zero, List.getElem?_cons_succ, Nat.reduceAdd, c4, l, f0, f1, f2, f3, f4, f5, f6, f7, f8, f9, f10, f11, f12, f13, f14, f15, c8_6, o0, o1, o2, o3, om, m30, m3, dg, gq, g4, k1, k2, k3, k4, k5, k6, q7, q13, q14, Int32.reduceLT, Int32.reduceLE, Nat.reduceLeDiff, Nat.zero_le, Nat.le_refl, Nat.zero_add, if_true, if_false, zb_eq0, zb_eq1, zn_1, not_true_eq_false, not_false_eq_true, ite_true, ite_false, if_true, if_false, q_iret_0, q_iret_1, decide_true, decide_false, decide_not, zb_t, zb_f, z10, z01, cond_true, cond_false, Bool.and_true, Bool.true_and, Bool.and_false, Bool.false_and, Bool.not_true, Bool.not_false, true_and, and_true, false_and, and_false, true_or, or_true, false_or, or_false, Bool.true_eq_false, Bool.false_eq_true, eq_self, reduceCtorEq, Bool.or_true, Bool.true_or, Bool.or_false, Bool.false_or])
    by_cases q4 : q = 4
    · have gq : (zn q = 0) = False := (zn_inj (a := q) (b := 0) (by omega) (by decide)).trans (eq_false q0)
      have g4 : (zn q < 4) = False := zn_lt (a := q) (b := 4) (by omega) (by decide) ▸ eq_false (by omega)
      have h15 := dl (fun z => q0 ((zn_inj (a := q) (b := 0) (by omega) (by decide)).mp (q2.symm.trans z)))
      have h16 := hl (by rw [q2, q4]; rfl)
      have h17 := ga (by rw [q2, q4]; rfl)
      refine ⟨n + 1 + 1 + 1 + 1 + 1 + 1 + 1 + 1 + 1 + 1 + 1 + 1, some (.int 4), some (.int 7), some (.int (zn mo)), by omega, ?_⟩
      clear dl hl fn2 fb4 fu fw ga HR I H hW L gF hD
      rcases mo3 with ⟨g0, rfl⟩ | ⟨g0, rfl⟩
      · rw [eq_true g0] at dg
        simp only [zl_1] at k5 ⊢
        clear g0
        (rw [e_L_isRefused_841]; simp (decide := true) only [e_L_isRefused_p0, e_L_isRefused_p1, e_L_isRefused_p2, e_L_isRefused_p3, e_L_isRefused_p4, e_L_isRefused_p5, lo_iload, lo_lload, lo_aload, lo_istore, lo_lstore, lo_iinc, lo_pushI, lo_pushL, lo_ii, lo_iid, lo_ll, lo_li, lo_lcmp, lo_i2l, lo_dup2, lo_goto, lo_if, lo_icmp, lq_iret_f, lq_iret_1, lq_iret_0, lq_iret_b, lq_lret, lq_bs, lq_bv, lq_bhv, lq_bhx, q_c8_0, q_c8_1, q_c8_2, q_c8_3, q_c8_4, q_set_0, q_set_1i, q_set_1r, q_set_1n, q_set_1N, q_set_s, q_set_1j, q_set_1l, q_set2_0, q_set2_1i, q_set2_1r, q_set2_1n, q_set2_s, q_if, zb_ite, cond_true, cond_false, List.getElem?_cons_zero, List.getElem?_cons_succ, Nat.reduceAdd, c4, l, f0, f1, f2, f3, f4, f5, f6, f7, f8, f9, f10, f11, f12, f13, f14, f15, c8_6, o0, o1, o2, o3, om, m30, m3, dg, gq, g4, h15, h16, h17, k1, k2, k3, k4, k5, k6, q7, q13, q14, Int32.reduceLT, Int32.reduceLE, Nat.reduceLeDiff, Nat.zero_le, Nat.le_refl, Nat.zero_add, if_true, if_false, zb_eq0, zb_eq1, zn_1, not_true_eq_false, not_false_eq_true, ite_true, ite_false, if_true, if_false, q_iret_0, q_iret_1, decide_true, decide_false, decide_not, zb_t, zb_f, z10, z01, cond_true, cond_false, Bool.and_true, Bool.true_and, Bool.and_false, Bool.false_and, Bool.not_true, Bool.not_false, true_and, and_true, false_and, and_false, true_or, or_true, false_or, or_false, Bool.true_eq_false, Bool.false_eq_true, eq_self, reduceCtorEq, Bool.or_true, Bool.true_or, Bool.or_false, Bool.false_or])
      · rw [eq_false g0] at dg
        simp only [zl_0] at k5 ⊢
        clear g0
        (rw [e_L_isRefused_841]; simp (decide := true) only [e_L_isRefused_p0, e_L_isRefused_p1, e_L_isRefused_p2, e_L_isRefused_p3, e_L_isRefused_p4, e_L_isRefused_p5, lo_iload, lo_lload, lo_aload, lo_istore, lo_lstore, lo_iinc, lo_pushI, lo_pushL, lo_ii, lo_iid, lo_ll, lo_li, lo_lcmp, lo_i2l, lo_dup2, lo_goto, lo_if, lo_icmp, lq_iret_f, lq_iret_1, lq_iret_0, lq_iret_b, lq_lret, lq_bs, lq_bv, lq_bhv, lq_bhx, q_c8_0, q_c8_1, q_c8_2, q_c8_3, q_c8_4, q_set_0, q_set_1i, q_set_1r, q_set_1n, q_set_1N, q_set_s, q_set_1j, q_set_1l, q_set2_0, q_set2_1i, q_set2_1r, q_set2_1n, q_set2_s, q_if, zb_ite, cond_true, cond_false, List.getElem?_cons_zero, List.getElem?_cons_succ, Nat.reduceAdd, c4, l, f0, f1, f2, f3, f4, f5, f6, f7, f8, f9, f10, f11, f12, f13, f14, f15, c8_6, o0, o1, o2, o3, om, m30, m3, dg, gq, g4, h15, h16, h17, k1, k2, k3, k4, k5, k6, q7, q13, q14, Int32.reduceLT, Int32.reduceLE, Nat.reduceLeDiff, Nat.zero_le, Nat.le_refl, Nat.zero_add, if_true, if_false, zb_eq0, zb_eq1, zn_1, not_true_eq_false, not_false_eq_true, ite_true, ite_false, if_true, if_false, q_iret_0, q_iret_1, decide_true, decide_false, decide_not, zb_t, zb_f, z10, z01, cond_true, cond_false, Bool.and_true, Bool.true_and, Bool.and_false, Bool.false_and, Bool.not_true, Bool.not_false, true_and, and_true, false_and, and_false, true_or, or_true, false_or, or_false, Bool.true_eq_false, Bool.false_eq_true, eq_self, reduceCtorEq, Bool.or_true, Bool.true_or, Bool.or_false, Bool.false_or])
    have gq : (zn q = 0) = False := (zn_inj (a := q) (b := 0) (by omega) (by decide)).trans (eq_false q0)
    have g4 : (zn q < 4) = True := zn_lt (a := q) (b := 4) (by omega) (by decide) ▸ eq_true (by omega)
    have h15 := dl (fun z => q0 ((zn_inj (a := q) (b := 0) (by omega) (by decide)).mp (q2.symm.trans z)))
    refine ⟨n + 1 + 1 + 1 + 1 + 1 + 1 + 1 + 1 + 1 + 1, some (.int 4), some (.int 7), some (.int (zn mo)), by omega, ?_⟩
    clear dl hl fn2 fb4 fu fw ga HR I H hW L gF hD
    rcases mo3 with ⟨g0, rfl⟩ | ⟨g0, rfl⟩
    · rw [eq_true g0] at dg
      simp only [zl_1] at k5 ⊢
      clear g0
      (rw [e_L_isRefused_841]; simp (decide := true) only [e_L_isRefused_p0, e_L_isRefused_p1, e_L_isRefused_p2, e_L_isRefused_p3, e_L_isRefused_p4, e_L_isRefused_p5, lo_iload, lo_lload, lo_aload, lo_istore, lo_lstore, lo_iinc, lo_pushI, lo_pushL, lo_ii, lo_iid, lo_ll, lo_li, lo_lcmp, lo_i2l, lo_dup2, lo_goto, lo_if, lo_icmp, lq_iret_f, lq_iret_1, lq_iret_0, lq_iret_b, lq_lret, lq_bs, lq_bv, lq_bhv, lq_bhx, q_c8_0, q_c8_1, q_c8_2, q_c8_3, q_c8_4, q_set_0, q_set_1i, q_set_1r, q_set_1n, q_set_1N, q_set_s, q_set_1j, q_set_1l, q_set2_0, q_set2_1i, q_set2_1r, q_set2_1n, q_set2_s, q_if, zb_ite, cond_true, cond_false, List.getElem?_cons_zero, List.getElem?_cons_succ, Nat.reduceAdd, c4, l, f0, f1, f2, f3, f4, f5, f6, f7, f8, f9, f10, f11, f12, f13, f14, f15, c8_6, o0, o1, o2, o3, om, m30, m3, dg, gq, g4, h15, k1, k2, k3, k4, k5, k6, q7, q13, q14, Int32.reduceLT, Int32.reduceLE, Nat.reduceLeDiff, Nat.zero_le, Nat.le_refl, Nat.zero_add, if_true, if_false, zb_eq0, zb_eq1, zn_1, not_true_eq_false, not_false_eq_true, ite_true, ite_false, if_true, if_false, q_iret_0, q_iret_1, decide_true, decide_false, decide_not, zb_t, zb_f, z10, z01, cond_true, cond_false, Bool.and_true, Bool.true_and, Bool.and_false, Bool.false_and, Bool.not_true, Bool.not_false, true_and, and_true, false_and, and_false, true_or, or_true, false_or, or_false, Bool.true_eq_false, Bool.false_eq_true, eq_self, reduceCtorEq, Bool.or_true, Bool.true_or, Bool.or_false, Bool.false_or])
    · rw [eq_false g0] at dg
      simp only [zl_0] at k5 ⊢
      clear g0
      (rw [e_L_isRefused_841]; simp (decide := true) only [e_L_isRefused_p0, e_L_isRefused_p1, e_L_isRefused_p2, e_L_isRefused_p3, e_L_isRefused_p4, e_L_isRefused_p5, lo_iload, lo_lload, lo_aload, lo_istore, lo_lstore, lo_iinc, lo_pushI, lo_pushL, lo_ii, lo_iid, lo_ll, lo_li, lo_lcmp, lo_i2l, lo_dup2, lo_goto, lo_if, lo_icmp, lq_iret_f, lq_iret_1, lq_iret_0, lq_iret_b, lq_lret, lq_bs, lq_bv, lq_bhv, lq_bhx, q_c8_0, q_c8_1, q_c8_2, q_c8_3, q_c8_4, q_set_0, q_set_1i, q_set_1r, q_set_1n, q_set_1N, q_set_s, q_set_1j, q_set_1l, q_set2_0, q_set2_1i, q_set2_1r, q_set2_1n, q_set2_s, q_if, zb_ite, cond_true, cond_false, List.getElem?_cons_zero, List.getElem?_cons_succ, Nat.reduceAdd, c4, l, f0, f1, f2, f3, f4, f5, f6, f7, f8, f9, f10, f11, f12, f13, f14, f15, c8_6, o0, o1, o2, o3, om, m30, m3, dg, gq, g4, h15, k1, k2, k3, k4, k5, k6, q7, q13, q14, Int32.reduceLT, Int32.reduceLE, Nat.reduceLeDiff, Nat.zero_le, Nat.le_refl, Nat.zero_add, if_true, if_false, zb_eq0, zb_eq1, zn_1, not_true_eq_false, not_false_eq_true, ite_true, ite_false, if_true, if_false, q_iret_0, q_iret_1, decide_true, decide_false, decide_not, zb_t, zb_f, z10, z01, cond_true, cond_false, Bool.and_true, Bool.true_and, Bool.and_false, Bool.false_and, Bool.not_true, Bool.not_false, true_and, and_true, false_and, and_false, true_or, or_true, false_or, or_false, Bool.true_eq_false, Bool.false_eq_true, eq_self, reduceCtorEq, Bool.or_true, Bool.true_or, Bool.or_false, Bool.false_or])
  by_cases c2 : row A k 23 = 2
  · skip
    have ht4 : ¬ t = 4 := fun z => c4 (by rw [t2, z]; rfl)
    have hfi : hasF (row A k 23) (zn 1) = true := by rw [t2]; exact (has_k t1 ht4).1
    have hno : hasF (row A k 23) (zn 7) = false := by rw [t2]; exact (has_k t1 ht4).2
    obtain ⟨g, g1, g2⟩ := (JJ_cur I.1 hk).2.2.2.2 1 (by decide)
    have om : lz_g fX11_managerOf [.ref 0, .int (zn k), .int 1] A = some (.inl (some (.int (zn g))), A) := by
      rw [← g2]
      exact kV_e (g_managerOf hA HR hk hfi (by decide))
    have ga : row A k 25 = 4 → fL_act [.ref 0, .int 1, .int 0, .int (zn k), .int 1, .int 1, .int (-1), .int 1] A = some (some (.int (-1273)), A) := fun h => xa_apply (kX_e (g_applyX hA HR hk (m := 0) (by decide) hfi (by decide) h (-1) _)) rfl
    have hmo : ∃ mo, mo < 4 ∧ ¬ row A k (11 + 1) = zn mo ∧ ((g = 0 ∧ mo = 1) ∨ (¬ g = 0 ∧ mo = 0)) := by
      by_cases z : g = 0
      · exact ⟨1, by decide, by rw [g2, z]; decide, Or.inl ⟨z, rfl⟩⟩
      · exact ⟨0, by decide, by rw [g2]; exact fun y => z ((zn_inj (a := g) (b := 0) (by omega) (by decide)).mp y), Or.inr ⟨z, rfl⟩⟩
    obtain ⟨mo, mo1, mo2, mo3⟩ := hmo
    obtain ⟨k1, k2, k3, k4, k5, k6⟩ := rf_k H hk (fi := 1) (ot := 7) (mo := mo) (B := (-1 - zn r)) (W := zn (v + 1) + zn r) (D := (0 - zn r)) hF hfi (by decide) hno z5 (by decide) hW mo1 mo2 hD
    have k1 : fL_act [.ref 0, .int 1, .int F, .int (zn k), .int 1, .int 0, .int (-1), .int 1] A = some (some (.int (-1272)), A) := k1
    have k2 : fL_act [.ref 0, .int 1, .int 0, .int (zn k), .int 7, .int 0, .int (-1), .int 1] A = some (some (.int (-1272)), A) := k2
    have k3 : fL_act [.ref 0, .int 1, .int 0, .int (zn k), .int 1, .int (-1 - zn r), .int (-1), .int 1] A = some (some (.int (-1272)), A) := k3
    have k4 : fL_act [.ref 0, .int 1, .int 0, .int (zn k), .int 1, .int 0, .int (zn (v + 1) + zn r), .int 1] A = some (some (.int (-1273)), A) := k4
    have k5 : fL_act [.ref 0, .int 1, .int (zn mo), .int (zn k), .int 1, .int 0, .int (-1), .int 0] A = some (some (.int (-1273)), A) := k5
    have q8 := fb4 c4
    have q13 := fu (fun z => absurd (c2.symm.trans z) (by decide))
    have q14 := fw (fun z => absurd (c2.symm.trans z) (by decide))
    have dg : (zn g = 0) = (g = 0) := zn_inj (a := g) (b := 0) (by omega) (by decide)
    by_cases q0 : q = 0
    · have gq : (zn q = 0) = True := (zn_inj (a := q) (b := 0) (by omega) (by decide)).trans (eq_true q0)
      have g4 : (zn q < 4) = True := zn_lt (a := q) (b := 4) (by omega) (by decide) ▸ eq_true (by omega)
      refine ⟨n + 1 + 1 + 1 + 1 + 1 + 1 + 1 + 1 + 1, some (.int 2), some (.int 1), some (.int (zn mo)), by omega, ?_⟩
      clear dl hl fn2 fb4 fu fw ga HR I H hW L gF hD
      rcases mo3 with ⟨g0, rfl⟩ | ⟨g0, rfl⟩
      · rw [eq_true g0] at dg
        simp only [zl_1] at k5 ⊢
        clear g0
        (rw [e_L_isRefused_841]; simp (decide := true) only [e_L_isRefused_p0, e_L_isRefused_p1, e_L_isRefused_p2, e_L_isRefused_p3, e_L_isRefused_p4, e_L_isRefused_p5, lo_iload, lo_lload, lo_aload, lo_istore, lo_lstore, lo_iinc, lo_pushI, lo_pushL, lo_ii, lo_iid, lo_ll, lo_li, lo_lcmp, lo_i2l, lo_dup2, lo_goto, lo_if, lo_icmp, lq_iret_f, lq_iret_1, lq_iret_0, lq_iret_b, lq_lret, lq_bs, lq_bv, lq_bhv, lq_bhx, q_c8_0, q_c8_1, q_c8_2, q_c8_3, q_c8_4, q_set_0, q_set_1i, q_set_1r, q_set_1n, q_set_1N, q_set_s, q_set_1j, q_set_1l, q_set2_0, q_set2_1i, q_set2_1r, q_set2_1n, q_set2_s, q_if, zb_ite, cond_true, cond_false, List.getElem?_cons_zero, List.getElem?_cons_succ, Nat.reduceAdd, c2, l, f0, f1, f2, f3, f4, f5, f6, f7, f8, f9, f10, f11, f12, f13, f14, f15, c8_6, o0, o1, o2, o3, om, m30, m3, dg, gq, g4, k1, k2, k3, k4, k5, k6, q8, q13, q14, Int32.reduceLT, Int32.reduceLE, Nat.reduceLeDiff, Nat.zero_le, Nat.le_refl, Nat.zero_add, if_true, if_false, zb_eq0, zb_eq1, zn_1, not_true_eq_false, not_false_eq_true, ite_true, ite_false, if_true, if_false, q_iret_0, q_iret_1, decide_true, decide_false, decide_not, zb_t, zb_f, z10, z01, cond_true, cond_false, Bool.and_true, Bool.true_and, Bool.and_false, Bool.false_and, Bool.not_true, Bool.not_false, true_and, and_true, false_and, and_false, true_or, or_true, false_or, or_false, Bool.true_eq_false, Bool.false_eq_true, eq_self, reduceCtorEq, Bool.or_true, Bool.true_or, Bool.or_false, Bool.false_or])
      · rw [eq_false g0] at dg
        simp only [zl_0] at k5 ⊢
        clear g0
        (rw [e_L_isRefused_841]; simp (decide := true) only [e_L_isRefused_p0, e_L_isRefused_p1, e_L_isRefused_p2, e_L_isRefused_p3, e_L_isRefused_p4, e_L_isRefused_p5, lo_iload, lo_lload, lo_aload, lo_istore, lo_lstore, lo_iinc, lo_pushI, lo_pushL, lo_ii, lo_iid, lo_ll, lo_li, lo_lcmp, lo_i2l, lo_dup2, lo_goto, lo_if, lo_icmp, lq_iret_f, lq_iret_1, lq_iret_0, lq_iret_b, lq_lret, lq_bs, lq_bv, lq_bhv, lq_bhx, q_c8_0, q_c8_1, q_c8_2, q_c8_3, q_c8_4, q_set_0, q_set_1i, q_set_1r, q_set_1n, q_set_1N, q_set_s, q_set_1j, q_set_1l, q_set2_0, q_set2_1i, q_set2_1r, q_set2_1n, q_set2_s, q_if, zb_ite, cond_true, cond_false, List.getElem?_cons_zero, List.getElem?_cons_succ, Nat.reduceAdd, c2, l, f0, f1, f2, f3, f4, f5, f6, f7, f8, f9, f10, f11, f12, f13, f14, f15, c8_6, o0, o1, o2, o3, om, m30, m3, dg, gq, g4, k1, k2, k3, k4, k5, k6, q8, q13, q14, Int32.reduceLT, Int32.reduceLE, Nat.reduceLeDiff, Nat.zero_le, Nat.le_refl, Nat.zero_add, if_true, if_false, zb_eq0, zb_eq1, zn_1, not_true_eq_false, not_false_eq_true, ite_true, ite_false, if_true, if_false, q_iret_0, q_iret_1, decide_true, decide_false, decide_not, zb_t, zb_f, z10, z01, cond_true, cond_false, Bool.and_true, Bool.true_and, Bool.and_false, Bool.false_and, Bool.not_true, Bool.not_false, true_and, and_true, false_and, and_false, true_or, or_true, false_or, or_false, Bool.true_eq_false, Bool.false_eq_true, eq_self, reduceCtorEq, Bool.or_true, Bool.true_or, Bool.or_false, Bool.false_or])
    by_cases q4 : q = 4
    · have gq : (zn q = 0) = False := (zn_inj (a := q) (b := 0) (by omega) (by decide)).trans (eq_false q0)
      have g4 : (zn q < 4) = False := zn_lt (a := q) (b := 4) (by omega) (by decide) ▸ eq_false (by omega)
      have h15 := dl (fun z => q0 ((zn_inj (a := q) (b := 0) (by omega) (by decide)).mp (q2.symm.trans z)))
      have h16 := hl (by rw [q2, q4]; rfl)
      have h17 := ga (by rw [q2, q4]; rfl)
      refine ⟨n + 1 + 1 + 1 + 1 + 1 + 1 + 1 + 1 + 1 + 1 + 1 + 1, some (.int 2), some (.int 1), some (.int (zn mo)), by omega, ?_⟩
      clear dl hl fn2 fb4 fu fw ga HR I H hW L gF hD
      rcases mo3 with ⟨g0, rfl⟩ | ⟨g0, rfl⟩
      · rw [eq_true g0] at dg
        simp only [zl_1] at k5 ⊢
        clear g0
        (rw [e_L_isRefused_841]; simp (decide := true) only [e_L_isRefused_p0, e_L_isRefused_p1, e_L_isRefused_p2, e_L_isRefused_p3, e_L_isRefused_p4, e_L_isRefused_p5, lo_iload, lo_lload, lo_aload, lo_istore, lo_lstore, lo_iinc, lo_pushI, lo_pushL, lo_ii, lo_iid, lo_ll, lo_li, lo_lcmp, lo_i2l, lo_dup2, lo_goto, lo_if, lo_icmp, lq_iret_f, lq_iret_1, lq_iret_0, lq_iret_b, lq_lret, lq_bs, lq_bv, lq_bhv, lq_bhx, q_c8_0, q_c8_1, q_c8_2, q_c8_3, q_c8_4, q_set_0, q_set_1i, q_set_1r, q_set_1n, q_set_1N, q_set_s, q_set_1j, q_set_1l, q_set2_0, q_set2_1i, q_set2_1r, q_set2_1n, q_set2_s, q_if, zb_ite, cond_true, cond_false, List.getElem?_cons_zero, List.getElem?_cons_succ, Nat.reduceAdd, c2, l, f0, f1, f2, f3, f4, f5, f6, f7, f8, f9, f10, f11, f12, f13, f14, f15, c8_6, o0, o1, o2, o3, om, m30, m3, dg, gq, g4, h15, h16, h17, k1, k2, k3, k4, k5, k6, q8, q13, q14, Int32.reduceLT, Int32.reduceLE, Nat.reduceLeDiff, Nat.zero_le, Nat.le_refl, Nat.zero_add, if_true, if_false, zb_eq0, zb_eq1, zn_1, not_true_eq_false, not_false_eq_true, ite_true, ite_false, if_true, if_false, q_iret_0, q_iret_1, decide_true, decide_false, decide_not, zb_t, zb_f, z10, z01, cond_true, cond_false, Bool.and_true, Bool.true_and, Bool.and_false, Bool.false_and, Bool.not_true, Bool.not_false, true_and, and_true, false_and, and_false, true_or, or_true, false_or, or_false, Bool.true_eq_false, Bool.false_eq_true, eq_self, reduceCtorEq, Bool.or_true, Bool.true_or, Bool.or_false, Bool.false_or])
      · rw [eq_false g0] at dg
        simp only [zl_0] at k5 ⊢
        clear g0
        (rw [e_L_isRefused_841]; simp (decide := true) only [e_L_isRefused_p0, e_L_isRefused_p1, e_L_isRefused_p2, e_L_isRefused_p3, e_L_isRefused_p4, e_L_isRefused_p5, lo_iload, lo_lload, lo_aload, lo_istore, lo_lstore, lo_iinc, lo_pushI, lo_pushL, lo_ii, lo_iid, lo_ll, lo_li, lo_lcmp, lo_i2l, lo_dup2, lo_goto, lo_if, lo_icmp, lq_iret_f, lq_iret_1, lq_iret_0, lq_iret_b, lq_lret, lq_bs, lq_bv, lq_bhv, lq_bhx, q_c8_0, q_c8_1, q_c8_2, q_c8_3, q_c8_4, q_set_0, q_set_1i, q_set_1r, q_set_1n, q_set_1N, q_set_s, q_set_1j, q_set_1l, q_set2_0, q_set2_1i, q_set2_1r, q_set2_1n, q_set2_s, q_if, zb_ite, cond_true, cond_false, List.getElem?_cons_zero, List.getElem?_cons_succ, Nat.reduceAdd, c2, l, f0, f1, f2, f3, f4, f5, f6, f7, f8, f9, f10, f11, f12, f13, f14, f15, c8_6, o0, o1, o2, o3, om, m30, m3, dg, gq, g4, h15, h16, h17, k1, k2, k3, k4, k5, k6, q8, q13, q14, Int32.reduceLT, Int32.reduceLE, Nat.reduceLeDiff, Nat.zero_le, Nat.le_refl, Nat.zero_add, if_true, if_false, zb_eq0, zb_eq1, zn_1, not_true_eq_false, not_false_eq_true, ite_true, ite_false, if_true, if_false, q_iret_0, q_iret_1, decide_true, decide_false, decide_not, zb_t, zb_f, z10, z01, cond_true, cond_false, Bool.and_true, Bool.true_and, Bool.and_false, Bool.false_and, Bool.not_true, Bool.not_false, true_and, and_true, false_and, and_false, true_or, or_true, false_or, or_false, Bool.true_eq_false, Bool.false_eq_true, eq_self, reduceCtorEq, Bool.or_true, Bool.true_or, Bool.or_false, Bool.false_or])
    have gq : (zn q = 0) = False := (zn_inj (a := q) (b := 0) (by omega) (by decide)).trans (eq_false q0)
    have g4 : (zn q < 4) = True := zn_lt (a := q) (b := 4) (by omega) (by decide) ▸ eq_true (by omega)
    have h15 := dl (fun z => q0 ((zn_inj (a := q) (b := 0) (by omega) (by decide)).mp (q2.symm.trans z)))
    refine ⟨n + 1 + 1 + 1 + 1 + 1 + 1 + 1 + 1 + 1 + 1, some (.int 2), some (.int 1), some (.int (zn mo)), by omega, ?_⟩
    clear dl hl fn2 fb4 fu fw ga HR I H hW L gF hD
    rcases mo3 with ⟨g0, rfl⟩ | ⟨g0, rfl⟩
    · rw [eq_true g0] at dg
      simp only [zl_1] at k5 ⊢
      clear g0
      (rw [e_L_isRefused_841]; simp (decide := true) only [e_L_isRefused_p0, e_L_isRefused_p1, e_L_isRefused_p2, e_L_isRefused_p3, e_L_isRefused_p4, e_L_isRefused_p5, lo_iload, lo_lload, lo_aload, lo_istore, lo_lstore, lo_iinc, lo_pushI, lo_pushL, lo_ii, lo_iid, lo_ll, lo_li, lo_lcmp, lo_i2l, lo_dup2, lo_goto, lo_if, lo_icmp, lq_iret_f, lq_iret_1, lq_iret_0, lq_iret_b, lq_lret, lq_bs, lq_bv, lq_bhv, lq_bhx, q_c8_0, q_c8_1, q_c8_2, q_c8_3, q_c8_4, q_set_0, q_set_1i, q_set_1r, q_set_1n, q_set_1N, q_set_s, q_set_1j, q_set_1l, q_set2_0, q_set2_1i, q_set2_1r, q_set2_1n, q_set2_s, q_if, zb_ite, cond_true, cond_false, List.getElem?_cons_zero, List.getElem?_cons_succ, Nat.reduceAdd, c2, l, f0, f1, f2, f3, f4, f5, f6, f7, f8, f9, f10, f11, f12, f13, f14, f15, c8_6, o0, o1, o2, o3, om, m30, m3, dg, gq, g4, h15, k1, k2, k3, k4, k5, k6, q8, q13, q14, Int32.reduceLT, Int32.reduceLE, Nat.reduceLeDiff, Nat.zero_le, Nat.le_refl, Nat.zero_add, if_true, if_false, zb_eq0, zb_eq1, zn_1, not_true_eq_false, not_false_eq_true, ite_true, ite_false, if_true, if_false, q_iret_0, q_iret_1, decide_true, decide_false, decide_not, zb_t, zb_f, z10, z01, cond_true, cond_false, Bool.and_true, Bool.true_and, Bool.and_false, Bool.false_and, Bool.not_true, Bool.not_false, true_and, and_true, false_and, and_false, true_or, or_true, false_or, or_false, Bool.true_eq_false, Bool.false_eq_true, eq_self, reduceCtorEq, Bool.or_true, Bool.true_or, Bool.or_false, Bool.false_or])
    · rw [eq_false g0] at dg
      simp only [zl_0] at k5 ⊢
      clear g0
      (rw [e_L_isRefused_841]; simp (decide := true) only [e_L_isRefused_p0, e_L_isRefused_p1, e_L_isRefused_p2, e_L_isRefused_p3, e_L_isRefused_p4, e_L_isRefused_p5, lo_iload, lo_lload, lo_aload, lo_istore, lo_lstore, lo_iinc, lo_pushI, lo_pushL, lo_ii, lo_iid, lo_ll, lo_li, lo_lcmp, lo_i2l, lo_dup2, lo_goto, lo_if, lo_icmp, lq_iret_f, lq_iret_1, lq_iret_0, lq_iret_b, lq_lret, lq_bs, lq_bv, lq_bhv, lq_bhx, q_c8_0, q_c8_1, q_c8_2, q_c8_3, q_c8_4, q_set_0, q_set_1i, q_set_1r, q_set_1n, q_set_1N, q_set_s, q_set_1j, q_set_1l, q_set2_0, q_set2_1i, q_set2_1r, q_set2_1n, q_set2_s, q_if, zb_ite, cond_true, cond_false, List.getElem?_cons_zero, List.getElem?_cons_succ, Nat.reduceAdd, c2, l, f0, f1, f2, f3, f4, f5, f6, f7, f8, f9, f10, f11, f12, f13, f14, f15, c8_6, o0, o1, o2, o3, om, m30, m3, dg, gq, g4, h15, k1, k2, k3, k4, k5, k6, q8, q13, q14, Int32.reduceLT, Int32.reduceLE, Nat.reduceLeDiff, Nat.zero_le, Nat.le_refl, Nat.zero_add, if_true, if_false, zb_eq0, zb_eq1, zn_1, not_true_eq_false, not_false_eq_true, ite_true, ite_false, if_true, if_false, q_iret_0, q_iret_1, decide_true, decide_false, decide_not, zb_t, zb_f, z10, z01, cond_true, cond_false, Bool.and_true, Bool.true_and, Bool.and_false, Bool.false_and, Bool.not_true, Bool.not_false, true_and, and_true, false_and, and_false, true_or, or_true, false_or, or_false, Bool.true_eq_false, Bool.false_eq_true, eq_self, reduceCtorEq, Bool.or_true, Bool.true_or, Bool.or_false, Bool.false_or])
  by_cases c0 : row A k 23 = 0
  · skip
    have ht4 : ¬ t = 4 := fun z => c4 (by rw [t2, z]; rfl)
    have hfi : hasF (row A k 23) (zn 1) = true := by rw [t2]; exact (has_k t1 ht4).1
    have hno : hasF (row A k 23) (zn 7) = false := by rw [t2]; exact (has_k t1 ht4).2
    obtain ⟨g, g1, g2⟩ := (JJ_cur I.1 hk).2.2.2.2 1 (by decide)
    have om : lz_g fX11_managerOf [.ref 0, .int (zn k), .int 1] A = some (.inl (some (.int (zn g))), A) := by
      rw [← g2]
      exact kV_e (g_managerOf hA HR hk hfi (by decide))
    have ga : row A k 25 = 4 → fL_act [.ref 0, .int 1, .int 0, .int (zn k), .int 1, .int 1, .int (-1), .int 1] A = some (some (.int (-1273)), A) := fun h => xa_apply (kX_e (g_applyX hA HR hk (m := 0) (by decide) hfi (by decide) h (-1) _)) rfl
    have hmo : ∃ mo, mo < 4 ∧ ¬ row A k (11 + 1) = zn mo ∧ ((g = 0 ∧ mo = 1) ∨ (¬ g = 0 ∧ mo = 0)) := by
      by_cases z : g = 0
      · exact ⟨1, by decide, by rw [g2, z]; decide, Or.inl ⟨z, rfl⟩⟩
      · exact ⟨0, by decide, by rw [g2]; exact fun y => z ((zn_inj (a := g) (b := 0) (by omega) (by decide)).mp y), Or.inr ⟨z, rfl⟩⟩
    obtain ⟨mo, mo1, mo2, mo3⟩ := hmo
    obtain ⟨k1, k2, k3, k4, k5, k6⟩ := rf_k H hk (fi := 1) (ot := 7) (mo := mo) (B := (-1 - zn r)) (W := zn (v + 1) + zn r) (D := (0 - zn r)) hF hfi (by decide) hno z5 (by decide) hW mo1 mo2 hD
    have k1 : fL_act [.ref 0, .int 1, .int F, .int (zn k), .int 1, .int 0, .int (-1), .int 1] A = some (some (.int (-1272)), A) := k1
    have k2 : fL_act [.ref 0, .int 1, .int 0, .int (zn k), .int 7, .int 0, .int (-1), .int 1] A = some (some (.int (-1272)), A) := k2
    have k3 : fL_act [.ref 0, .int 1, .int 0, .int (zn k), .int 1, .int (-1 - zn r), .int (-1), .int 1] A = some (some (.int (-1272)), A) := k3
    have k4 : fL_act [.ref 0, .int 1, .int 0, .int (zn k), .int 1, .int 0, .int (zn (v + 1) + zn r), .int 1] A = some (some (.int (-1273)), A) := k4
    have k5 : fL_act [.ref 0, .int 1, .int (zn mo), .int (zn k), .int 1, .int 0, .int (-1), .int 0] A = some (some (.int (-1273)), A) := k5
    have q7 := fn2 c2
    have q8 := fb4 c4
    have q9 : fL_act [.ref 0, .int 2, .int 0, .int (zn k), .int (-1 - zn r), .int 1, .int 0, .int 0] A = some (some (.int (-1272)), A) := xa_applyBudget (kX_e (b_applyBudget hA HR hk (m := 0) (by decide) c0 (Or.inl z1) _)) rfl
    have q10 : fL_act [.ref 0, .int 2, .int 0, .int (zn k), .int 3, .int 1, .int 0, .int 0] A = some (some (.int (-1272)), A) := xa_applyBudget (kX_e (b_applyBudget hA HR hk (m := 0) (by decide) c0 (Or.inr ⟨3, rfl, by decide, Or.inr (by decide)⟩) _)) rfl
    have q11 : fL_act [.ref 0, .int 2, .int 0, .int (zn k), .int 0, .int 1, .int 0, .int 0] A = some (some (.int (-1273)), A) := xa_applyBudget (kX_e (z_applyBudget H hk (m := 0) (by decide) c0)) rfl
    have q12 : fL_act [.ref 0, .int 17, .int (zn k), .int (-2 - zn r), .int 0, .int 0, .int 0, .int 0] A = some (some (.int (-1272)), A) := xa_wish (kX_e (v_wish hA HR hk c0 z8 z7)) rfl
    have dg : (zn g = 0) = (g = 0) := zn_inj (a := g) (b := 0) (by omega) (by decide)
    by_cases q0 : q = 0
    · have gq : (zn q = 0) = True := (zn_inj (a := q) (b := 0) (by omega) (by decide)).trans (eq_true q0)
      have g4 : (zn q < 4) = True := zn_lt (a := q) (b := 4) (by omega) (by decide) ▸ eq_true (by omega)
      refine ⟨n + 1 + 1 + 1 + 1 + 1 + 1 + 1 + 1 + 1 + 1 + 1 + 1, some (.int 0), some (.int 1), some (.int (zn mo)), by omega, ?_⟩
      clear dl hl fn2 fb4 fu fw ga HR I H hW L gF hD
      rcases mo3 with ⟨g0, rfl⟩ | ⟨g0, rfl⟩
      · rw [eq_true g0] at dg
        simp only [zl_1] at k5 ⊢
        clear g0
        (rw [e_L_isRefused_841]; simp (decide := true) only [e_L_isRefused_p0, e_L_isRefused_p1, e_L_isRefused_p2, e_L_isRefused_p3, e_L_isRefused_p4, e_L_isRefused_p5, lo_iload, lo_lload, lo_aload, lo_istore, lo_lstore, lo_iinc, lo_pushI, lo_pushL, lo_ii, lo_iid, lo_ll, lo_li, lo_lcmp, lo_i2l, lo_dup2, lo_goto, lo_if, lo_icmp, lq_iret_f, lq_iret_1, lq_iret_0, lq_iret_b, lq_lret, lq_bs, lq_bv, lq_bhv, lq_bhx, q_c8_0, q_c8_1, q_c8_2, q_c8_3, q_c8_4, q_set_0, q_set_1i, q_set_1r, q_set_1n, q_set_1N, q_set_s, q_set_1j, q_set_1l, q_set2_0, q_set2_1i, q_set2_1r, q_set2_1n, q_set2_s, q_if, zb_ite, cond_true, cond_false, List.getElem?_cons_zero, List.getElem?_cons_succ, Nat.reduceAdd, c0, l, f0, f1, f2, f3, f4, f5, f6, f7, f8, f9, f10, f11, f12, f13, f14, f15, c8_6, o0, o1, o2, o3, om, m30, m3, dg, gq, g4, k1, k2, k3, k4, k5, k6, q7, q8, q9, q10, q11, q12, Int32.reduceLT, Int32.reduceLE, Nat.reduceLeDiff, Nat.zero_le, Nat.le_refl, Nat.zero_add, if_true, if_false, zb_eq0, zb_eq1, zn_1, not_true_eq_false, not_false_eq_true, ite_true, ite_false, if_true, if_false, q_iret_0, q_iret_1, decide_true, decide_false, decide_not, zb_t, zb_f, z10, z01, cond_true, cond_false, Bool.and_true, Bool.true_and, Bool.and_false, Bool.false_and, Bool.not_true, Bool.not_false, true_and, and_true, false_and, and_false, true_or, or_true, false_or, or_false, Bool.true_eq_false, Bool.false_eq_true, eq_self, reduceCtorEq, Bool.or_true, Bool.true_or, Bool.or_false, Bool.false_or])
      · rw [eq_false g0] at dg
        simp only [zl_0] at k5 ⊢
        clear g0
        (rw [e_L_isRefused_841]; simp (decide := true) only [e_L_isRefused_p0, e_L_isRefused_p1, e_L_isRefused_p2, e_L_isRefused_p3, e_L_isRefused_p4, e_L_isRefused_p5, lo_iload, lo_lload, lo_aload, lo_istore, lo_lstore, lo_iinc, lo_pushI, lo_pushL, lo_ii, lo_iid, lo_ll, lo_li, lo_lcmp, lo_i2l, lo_dup2, lo_goto, lo_if, lo_icmp, lq_iret_f, lq_iret_1, lq_iret_0, lq_iret_b, lq_lret, lq_bs, lq_bv, lq_bhv, lq_bhx, q_c8_0, q_c8_1, q_c8_2, q_c8_3, q_c8_4, q_set_0, q_set_1i, q_set_1r, q_set_1n, q_set_1N, q_set_s, q_set_1j, q_set_1l, q_set2_0, q_set2_1i, q_set2_1r, q_set2_1n, q_set2_s, q_if, zb_ite, cond_true, cond_false, List.getElem?_cons_zero, List.getElem?_cons_succ, Nat.reduceAdd, c0, l, f0, f1, f2, f3, f4, f5, f6, f7, f8, f9, f10, f11, f12, f13, f14, f15, c8_6, o0, o1, o2, o3, om, m30, m3, dg, gq, g4, k1, k2, k3, k4, k5, k6, q7, q8, q9, q10, q11, q12, Int32.reduceLT, Int32.reduceLE, Nat.reduceLeDiff, Nat.zero_le, Nat.le_refl, Nat.zero_add, if_true, if_false, zb_eq0, zb_eq1, zn_1, not_true_eq_false, not_false_eq_true, ite_true, ite_false, if_true, if_false, q_iret_0, q_iret_1, decide_true, decide_false, decide_not, zb_t, zb_f, z10, z01, cond_true, cond_false, Bool.and_true, Bool.true_and, Bool.and_false, Bool.false_and, Bool.not_true, Bool.not_false, true_and, and_true, false_and, and_false, true_or, or_true, false_or, or_false, Bool.true_eq_false, Bool.false_eq_true, eq_self, reduceCtorEq, Bool.or_true, Bool.true_or, Bool.or_false, Bool.false_or])
    by_cases q4 : q = 4
    · have gq : (zn q = 0) = False := (zn_inj (a := q) (b := 0) (by omega) (by decide)).trans (eq_false q0)
      have g4 : (zn q < 4) = False := zn_lt (a := q) (b := 4) (by omega) (by decide) ▸ eq_false (by omega)
      have h15 := dl (fun z => q0 ((zn_inj (a := q) (b := 0) (by omega) (by decide)).mp (q2.symm.trans z)))
      have h16 := hl (by rw [q2, q4]; rfl)
      have h17 := ga (by rw [q2, q4]; rfl)
      refine ⟨n + 1 + 1 + 1 + 1 + 1 + 1 + 1 + 1 + 1 + 1 + 1 + 1 + 1 + 1 + 1, some (.int 0), some (.int 1), some (.int (zn mo)), by omega, ?_⟩
      clear dl hl fn2 fb4 fu fw ga HR I H hW L gF hD
      rcases mo3 with ⟨g0, rfl⟩ | ⟨g0, rfl⟩
      · rw [eq_true g0] at dg
        simp only [zl_1] at k5 ⊢
        clear g0
        (rw [e_L_isRefused_841]; simp (decide := true) only [e_L_isRefused_p0, e_L_isRefused_p1, e_L_isRefused_p2, e_L_isRefused_p3, e_L_isRefused_p4, e_L_isRefused_p5, lo_iload, lo_lload, lo_aload, lo_istore, lo_lstore, lo_iinc, lo_pushI, lo_pushL, lo_ii, lo_iid, lo_ll, lo_li, lo_lcmp, lo_i2l, lo_dup2, lo_goto, lo_if, lo_icmp, lq_iret_f, lq_iret_1, lq_iret_0, lq_iret_b, lq_lret, lq_bs, lq_bv, lq_bhv, lq_bhx, q_c8_0, q_c8_1, q_c8_2, q_c8_3, q_c8_4, q_set_0, q_set_1i, q_set_1r, q_set_1n, q_set_1N, q_set_s, q_set_1j, q_set_1l, q_set2_0, q_set2_1i, q_set2_1r, q_set2_1n, q_set2_s, q_if, zb_ite, cond_true, cond_false, List.getElem?_cons_zero, List.getElem?_cons_succ, Nat.reduceAdd, c0, l, f0, f1, f2, f3, f4, f5, f6, f7, f8, f9, f10, f11, f12, f13, f14, f15, c8_6, o0, o1, o2, o3, om, m30, m3, dg, gq, g4, h15, h16, h17, k1, k2, k3, k4, k5, k6, q7, q8, q9, q10, q11, q12, Int32.reduceLT, Int32.reduceLE, Nat.reduceLeDiff, Nat.zero_le, Nat.le_refl, Nat.zero_add, if_true, if_false, zb_eq0, zb_eq1, zn_1, not_true_eq_false, not_false_eq_true, ite_true, ite_false, if_true, if_false, q_iret_0, q_iret_1, decide_true, decide_false, decide_not, zb_t, zb_f, z10, z01, cond_true, cond_false, Bool.and_true, Bool.true_and, Bool.and_false, Bool.false_and, Bool.not_true, Bool.not_false, true_and, and_true, false_and, and_false, true_or, or_true, false_or, or_false, Bool.true_eq_false, Bool.false_eq_true, eq_self, reduceCtorEq, Bool.or_true, Bool.true_or, Bool.or_false, Bool.false_or])
      · rw [eq_false g0] at dg
        simp only [zl_0] at k5 ⊢
        clear g0
        (rw [e_L_isRefused_841]; simp (decide := true) only [e_L_isRefused_p0, e_L_isRefused_p1, e_L_isRefused_p2, e_L_isRefused_p3, e_L_isRefused_p4, e_L_isRefused_p5, lo_iload, lo_lload, lo_aload, lo_istore, lo_lstore, lo_iinc, lo_pushI, lo_pushL, lo_ii, lo_iid, lo_ll, lo_li, lo_lcmp, lo_i2l, lo_dup2, lo_goto, lo_if, lo_icmp, lq_iret_f, lq_iret_1, lq_iret_0, lq_iret_b, lq_lret, lq_bs, lq_bv, lq_bhv, lq_bhx, q_c8_0, q_c8_1, q_c8_2, q_c8_3, q_c8_4, q_set_0, q_set_1i, q_set_1r, q_set_1n, q_set_1N, q_set_s, q_set_1j, q_set_1l, q_set2_0, q_set2_1i, q_set2_1r, q_set2_1n, q_set2_s, q_if, zb_ite, cond_true, cond_false, List.getElem?_cons_zero, List.getElem?_cons_succ, Nat.reduceAdd, c0, l, f0, f1, f2, f3, f4, f5, f6, f7, f8, f9, f10, f11, f12, f13, f14, f15, c8_6, o0, o1, o2, o3, om, m30, m3, dg, gq, g4, h15, h16, h17, k1, k2, k3, k4, k5, k6, q7, q8, q9, q10, q11, q12, Int32.reduceLT, Int32.reduceLE, Nat.reduceLeDiff, Nat.zero_le, Nat.le_refl, Nat.zero_add, if_true, if_false, zb_eq0, zb_eq1, zn_1, not_true_eq_false, not_false_eq_true, ite_true, ite_false, if_true, if_false, q_iret_0, q_iret_1, decide_true, decide_false, decide_not, zb_t, zb_f, z10, z01, cond_true, cond_false, Bool.and_true, Bool.true_and, Bool.and_false, Bool.false_and, Bool.not_true, Bool.not_false, true_and, and_true, false_and, and_false, true_or, or_true, false_or, or_false, Bool.true_eq_false, Bool.false_eq_true, eq_self, reduceCtorEq, Bool.or_true, Bool.true_or, Bool.or_false, Bool.false_or])
    have gq : (zn q = 0) = False := (zn_inj (a := q) (b := 0) (by omega) (by decide)).trans (eq_false q0)
    have g4 : (zn q < 4) = True := zn_lt (a := q) (b := 4) (by omega) (by decide) ▸ eq_true (by omega)
    have h15 := dl (fun z => q0 ((zn_inj (a := q) (b := 0) (by omega) (by decide)).mp (q2.symm.trans z)))
    refine ⟨n + 1 + 1 + 1 + 1 + 1 + 1 + 1 + 1 + 1 + 1 + 1 + 1 + 1, some (.int 0), some (.int 1), some (.int (zn mo)), by omega, ?_⟩
    clear dl hl fn2 fb4 fu fw ga HR I H hW L gF hD
    rcases mo3 with ⟨g0, rfl⟩ | ⟨g0, rfl⟩
    · rw [eq_true g0] at dg
      simp only [zl_1] at k5 ⊢
      clear g0
      (rw [e_L_isRefused_841]; simp (decide := true) only [e_L_isRefused_p0, e_L_isRefused_p1, e_L_isRefused_p2, e_L_isRefused_p3, e_L_isRefused_p4, e_L_isRefused_p5, lo_iload, lo_lload, lo_aload, lo_istore, lo_lstore, lo_iinc, lo_pushI, lo_pushL, lo_ii, lo_iid, lo_ll, lo_li, lo_lcmp, lo_i2l, lo_dup2, lo_goto, lo_if, lo_icmp, lq_iret_f, lq_iret_1, lq_iret_0, lq_iret_b, lq_lret, lq_bs, lq_bv, lq_bhv, lq_bhx, q_c8_0, q_c8_1, q_c8_2, q_c8_3, q_c8_4, q_set_0, q_set_1i, q_set_1r, q_set_1n, q_set_1N, q_set_s, q_set_1j, q_set_1l, q_set2_0, q_set2_1i, q_set2_1r, q_set2_1n, q_set2_s, q_if, zb_ite, cond_true, cond_false, List.getElem?_cons_zero, List.getElem?_cons_succ, Nat.reduceAdd, c0, l, f0, f1, f2, f3, f4, f5, f6, f7, f8, f9, f10, f11, f12, f13, f14, f15, c8_6, o0, o1, o2, o3, om, m30, m3, dg, gq, g4, h15, k1, k2, k3, k4, k5, k6, q7, q8, q9, q10, q11, q12, Int32.reduceLT, Int32.reduceLE, Nat.reduceLeDiff, Nat.zero_le, Nat.le_refl, Nat.zero_add, if_true, if_false, zb_eq0, zb_eq1, zn_1, not_true_eq_false, not_false_eq_true, ite_true, ite_false, if_true, if_false, q_iret_0, q_iret_1, decide_true, decide_false, decide_not, zb_t, zb_f, z10, z01, cond_true, cond_false, Bool.and_true, Bool.true_and, Bool.and_false, Bool.false_and, Bool.not_true, Bool.not_false, true_and, and_true, false_and, and_false, true_or, or_true, false_or, or_false, Bool.true_eq_false, Bool.false_eq_true, eq_self, reduceCtorEq, Bool.or_true, Bool.true_or, Bool.or_false, Bool.false_or])
    · rw [eq_false g0] at dg
      simp only [zl_0] at k5 ⊢
      clear g0
      (rw [e_L_isRefused_841]; simp (decide := true) only [e_L_isRefused_p0, e_L_isRefused_p1, e_L_isRefused_p2, e_L_isRefused_p3, e_L_isRefused_p4, e_L_isRefused_p5, lo_iload, lo_lload, lo_aload, lo_istore, lo_lstore, lo_iinc, lo_pushI, lo_pushL, lo_ii, lo_iid, lo_ll, lo_li, lo_lcmp, lo_i2l, lo_dup2, lo_goto, lo_if, lo_icmp, lq_iret_f, lq_iret_1, lq_iret_0, lq_iret_b, lq_lret, lq_bs, lq_bv, lq_bhv, lq_bhx, q_c8_0, q_c8_1, q_c8_2, q_c8_3, q_c8_4, q_set_0, q_set_1i, q_set_1r, q_set_1n, q_set_1N, q_set_s, q_set_1j, q_set_1l, q_set2_0, q_set2_1i, q_set2_1r, q_set2_1n, q_set2_s, q_if, zb_ite, cond_true, cond_false, List.getElem?_cons_zero, List.getElem?_cons_succ, Nat.reduceAdd, c0, l, f0, f1, f2, f3, f4, f5, f6, f7, f8, f9, f10, f11, f12, f13, f14, f15, c8_6, o0, o1, o2, o3, om, m30, m3, dg, gq, g4, h15, k1, k2, k3, k4, k5, k6, q7, q8, q9, q10, q11, q12, Int32.reduceLT, Int32.reduceLE, Nat.reduceLeDiff, Nat.zero_le, Nat.le_refl, Nat.zero_add, if_true, if_false, zb_eq0, zb_eq1, zn_1, not_true_eq_false, not_false_eq_true, ite_true, ite_false, if_true, if_false, q_iret_0, q_iret_1, decide_true, decide_false, decide_not, zb_t, zb_f, z10, z01, cond_true, cond_false, Bool.and_true, Bool.true_and, Bool.and_false, Bool.false_and, Bool.not_true, Bool.not_false, true_and, and_true, false_and, and_false, true_or, or_true, false_or, or_false, Bool.true_eq_false, Bool.false_eq_true, eq_self, reduceCtorEq, Bool.or_true, Bool.true_or, Bool.or_false, Bool.false_or])
  have ht4 : ¬ t = 4 := fun z => c4 (by rw [t2, z]; rfl)
  have hfi : hasF (row A k 23) (zn 1) = true := by rw [t2]; exact (has_k t1 ht4).1
  have hno : hasF (row A k 23) (zn 7) = false := by rw [t2]; exact (has_k t1 ht4).2
  obtain ⟨g, g1, g2⟩ := (JJ_cur I.1 hk).2.2.2.2 1 (by decide)
  have om : lz_g fX11_managerOf [.ref 0, .int (zn k), .int 1] A = some (.inl (some (.int (zn g))), A) := by
    rw [← g2]
    exact kV_e (g_managerOf hA HR hk hfi (by decide))
  have ga : row A k 25 = 4 → fL_act [.ref 0, .int 1, .int 0, .int (zn k), .int 1, .int 1, .int (-1), .int 1] A = some (some (.int (-1273)), A) := fun h => xa_apply (kX_e (g_applyX hA HR hk (m := 0) (by decide) hfi (by decide) h (-1) _)) rfl
  have hmo : ∃ mo, mo < 4 ∧ ¬ row A k (11 + 1) = zn mo ∧ ((g = 0 ∧ mo = 1) ∨ (¬ g = 0 ∧ mo = 0)) := by
    by_cases z : g = 0
    · exact ⟨1, by decide, by rw [g2, z]; decide, Or.inl ⟨z, rfl⟩⟩
    · exact ⟨0, by decide, by rw [g2]; exact fun y => z ((zn_inj (a := g) (b := 0) (by omega) (by decide)).mp y), Or.inr ⟨z, rfl⟩⟩
  obtain ⟨mo, mo1, mo2, mo3⟩ := hmo
  obtain ⟨k1, k2, k3, k4, k5, k6⟩ := rf_k H hk (fi := 1) (ot := 7) (mo := mo) (B := (-1 - zn r)) (W := zn (v + 1) + zn r) (D := (0 - zn r)) hF hfi (by decide) hno z5 (by decide) hW mo1 mo2 hD
  have k1 : fL_act [.ref 0, .int 1, .int F, .int (zn k), .int 1, .int 0, .int (-1), .int 1] A = some (some (.int (-1272)), A) := k1
  have k2 : fL_act [.ref 0, .int 1, .int 0, .int (zn k), .int 7, .int 0, .int (-1), .int 1] A = some (some (.int (-1272)), A) := k2
  have k3 : fL_act [.ref 0, .int 1, .int 0, .int (zn k), .int 1, .int (-1 - zn r), .int (-1), .int 1] A = some (some (.int (-1272)), A) := k3
  have k4 : fL_act [.ref 0, .int 1, .int 0, .int (zn k), .int 1, .int 0, .int (zn (v + 1) + zn r), .int 1] A = some (some (.int (-1273)), A) := k4
  have k5 : fL_act [.ref 0, .int 1, .int (zn mo), .int (zn k), .int 1, .int 0, .int (-1), .int 0] A = some (some (.int (-1273)), A) := k5
  have q7 := fn2 c2
  have q8 := fb4 c4
  have q13 := fu c0
  have q14 := fw c0
  have dg : (zn g = 0) = (g = 0) := zn_inj (a := g) (b := 0) (by omega) (by decide)
  by_cases q0 : q = 0
  · have gq : (zn q = 0) = True := (zn_inj (a := q) (b := 0) (by omega) (by decide)).trans (eq_true q0)
    have g4 : (zn q < 4) = True := zn_lt (a := q) (b := 4) (by omega) (by decide) ▸ eq_true (by omega)
    refine ⟨n + 1 + 1 + 1 + 1 + 1 + 1 + 1 + 1 + 1 + 1, some (.int (row A k 23)), some (.int 1), some (.int (zn mo)), by omega, ?_⟩
    clear dl hl fn2 fb4 fu fw ga HR I H hW L gF hD
    rcases mo3 with ⟨g0, rfl⟩ | ⟨g0, rfl⟩
    · rw [eq_true g0] at dg
      simp only [zl_1] at k5 ⊢
      clear g0
      (rw [e_L_isRefused_841]; simp (decide := true) only [e_L_isRefused_p0, e_L_isRefused_p1, e_L_isRefused_p2, e_L_isRefused_p3, e_L_isRefused_p4, e_L_isRefused_p5, lo_iload, lo_lload, lo_aload, lo_istore, lo_lstore, lo_iinc, lo_pushI, lo_pushL, lo_ii, lo_iid, lo_ll, lo_li, lo_lcmp, lo_i2l, lo_dup2, lo_goto, lo_if, lo_icmp, lq_iret_f, lq_iret_1, lq_iret_0, lq_iret_b, lq_lret, lq_bs, lq_bv, lq_bhv, lq_bhx, q_c8_0, q_c8_1, q_c8_2, q_c8_3, q_c8_4, q_set_0, q_set_1i, q_set_1r, q_set_1n, q_set_1N, q_set_s, q_set_1j, q_set_1l, q_set2_0, q_set2_1i, q_set2_1r, q_set2_1n, q_set2_s, q_if, zb_ite, cond_true, cond_false, List.getElem?_cons_zero, List.getElem?_cons_succ, Nat.reduceAdd, c4, c2, c0, l, f0, f1, f2, f3, f4, f5, f6, f7, f8, f9, f10, f11, f12, f13, f14, f15, c8_6, o0, o1, o2, o3, om, m30, m3, dg, gq, g4, k1, k2, k3, k4, k5, k6, q7, q8, q13, q14, Int32.reduceLT, Int32.reduceLE, Nat.reduceLeDiff, Nat.zero_le, Nat.le_refl, Nat.zero_add, if_true, if_false, zb_eq0, zb_eq1, zn_1, not_true_eq_false, not_false_eq_true, ite_true, ite_false, if_true, if_false, q_iret_0, q_iret_1, decide_true, decide_false, decide_not, zb_t, zb_f, z10, z01, cond_true, cond_false, Bool.and_true, Bool.true_and, Bool.and_false, Bool.false_and, Bool.not_true, Bool.not_false, true_and, and_true, false_and, and_false, true_or, or_true, false_or, or_false, Bool.true_eq_false, Bool.false_eq_true, eq_self, reduceCtorEq, Bool.or_true, Bool.true_or, Bool.or_false, Bool.false_or])
    · rw [eq_false g0] at dg
      simp only [zl_0] at k5 ⊢
      clear g0
      (rw [e_L_isRefused_841]; simp (decide := true) only [e_L_isRefused_p0, e_L_isRefused_p1, e_L_isRefused_p2, e_L_isRefused_p3, e_L_isRefused_p4, e_L_isRefused_p5, lo_iload, lo_lload, lo_aload, lo_istore, lo_lstore, lo_iinc, lo_pushI, lo_pushL, lo_ii, lo_iid, lo_ll, lo_li, lo_lcmp, lo_i2l, lo_dup2, lo_goto, lo_if, lo_icmp, lq_iret_f, lq_iret_1, lq_iret_0, lq_iret_b, lq_lret, lq_bs, lq_bv, lq_bhv, lq_bhx, q_c8_0, q_c8_1, q_c8_2, q_c8_3, q_c8_4, q_set_0, q_set_1i, q_set_1r, q_set_1n, q_set_1N, q_set_s, q_set_1j, q_set_1l, q_set2_0, q_set2_1i, q_set2_1r, q_set2_1n, q_set2_s, q_if, zb_ite, cond_true, cond_false, List.getElem?_cons_zero, List.getElem?_cons_succ, Nat.reduceAdd, c4, c2, c0, l, f0, f1, f2, f3, f4, f5, f6, f7, f8, f9, f10, f11, f12, f13, f14, f15, c8_6, o0, o1, o2, o3, om, m30, m3, dg, gq, g4, k1, k2, k3, k4, k5, k6, q7, q8, q13, q14, Int32.reduceLT, Int32.reduceLE, Nat.reduceLeDiff, Nat.zero_le, Nat.le_refl, Nat.zero_add, if_true, if_false, zb_eq0, zb_eq1, zn_1, not_true_eq_false, not_false_eq_true, ite_true, ite_false, if_true, if_false, q_iret_0, q_iret_1, decide_true, decide_false, decide_not, zb_t, zb_f, z10, z01, cond_true, cond_false, Bool.and_true, Bool.true_and, Bool.and_false, Bool.false_and, Bool.not_true, Bool.not_false, true_and, and_true, false_and, and_false, true_or, or_true, false_or, or_false, Bool.true_eq_false, Bool.false_eq_true, eq_self, reduceCtorEq, Bool.or_true, Bool.true_or, Bool.or_false, Bool.false_or])
  by_cases q4 : q = 4
  · have gq : (zn q = 0) = False := (zn_inj (a := q) (b := 0) (by omega) (by decide)).trans (eq_false q0)
    have g4 : (zn q < 4) = False := zn_lt (a := q) (b := 4) (by omega) (by decide) ▸ eq_false (by omega)
    have h15 := dl (fun z => q0 ((zn_inj (a := q) (b := 0) (by omega) (by decide)).mp (q2.symm.trans z)))
    have h16 := hl (by rw [q2, q4]; rfl)
    have h17 := ga (by rw [q2, q4]; rfl)
    refine ⟨n + 1 + 1 + 1 + 1 + 1 + 1 + 1 + 1 + 1 + 1 + 1 + 1 + 1, some (.int (row A k 23)), some (.int 1), some (.int (zn mo)), by omega, ?_⟩
    clear dl hl fn2 fb4 fu fw ga HR I H hW L gF hD
    rcases mo3 with ⟨g0, rfl⟩ | ⟨g0, rfl⟩
    · rw [eq_true g0] at dg
      simp only [zl_1] at k5 ⊢
      clear g0
      (rw [e_L_isRefused_841]; simp (decide := true) only [e_L_isRefused_p0, e_L_isRefused_p1, e_L_isRefused_p2, e_L_isRefused_p3, e_L_isRefused_p4, e_L_isRefused_p5, lo_iload, lo_lload, lo_aload, lo_istore, lo_lstore, lo_iinc, lo_pushI, lo_pushL, lo_ii, lo_iid, lo_ll, lo_li, lo_lcmp, lo_i2l, lo_dup2, lo_goto, lo_if, lo_icmp, lq_iret_f, lq_iret_1, lq_iret_0, lq_iret_b, lq_lret, lq_bs, lq_bv, lq_bhv, lq_bhx, q_c8_0, q_c8_1, q_c8_2, q_c8_3, q_c8_4, q_set_0, q_set_1i, q_set_1r, q_set_1n, q_set_1N, q_set_s, q_set_1j, q_set_1l, q_set2_0, q_set2_1i, q_set2_1r, q_set2_1n, q_set2_s, q_if, zb_ite, cond_true, cond_false, List.getElem?_cons_zero, List.getElem?_cons_succ, Nat.reduceAdd, c4, c2, c0, l, f0, f1, f2, f3, f4, f5, f6, f7, f8, f9, f10, f11, f12, f13, f14, f15, c8_6, o0, o1, o2, o3, om, m30, m3, dg, gq, g4, h15, h16, h17, k1, k2, k3, k4, k5, k6, q7, q8, q13, q14, Int32.reduceLT, Int32.reduceLE, Nat.reduceLeDiff, Nat.zero_le, Nat.le_refl, Nat.zero_add, if_true, if_false, zb_eq0, zb_eq1, zn_1, not_true_eq_false, not_false_eq_true, ite_true, ite_false, if_true, if_false, q_iret_0, q_iret_1, decide_true, decide_false, decide_not, zb_t, zb_f, z10, z01, cond_true, cond_false, Bool.and_true, Bool.true_and, Bool.and_false, Bool.false_and, Bool.not_true, Bool.not_false, true_and, and_true, false_and, and_false, true_or, or_true, false_or, or_false, Bool.true_eq_false, Bool.false_eq_true, eq_self, reduceCtorEq, Bool.or_true, Bool.true_or, Bool.or_false, Bool.false_or])
    · rw [eq_false g0] at dg
      simp only [zl_0] at k5 ⊢
      clear g0
      (rw [e_L_isRefused_841]; simp (decide := true) only [e_L_isRefused_p0, e_L_isRefused_p1, e_L_isRefused_p2, e_L_isRefused_p3, e_L_isRefused_p4, e_L_isRefused_p5, lo_iload, lo_lload, lo_aload, lo_istore, lo_lstore, lo_iinc, lo_pushI, lo_pushL, lo_ii, lo_iid, lo_ll, lo_li, lo_lcmp, lo_i2l, lo_dup2, lo_goto, lo_if, lo_icmp, lq_iret_f, lq_iret_1, lq_iret_0, lq_iret_b, lq_lret, lq_bs, lq_bv, lq_bhv, lq_bhx, q_c8_0, q_c8_1, q_c8_2, q_c8_3, q_c8_4, q_set_0, q_set_1i, q_set_1r, q_set_1n, q_set_1N, q_set_s, q_set_1j, q_set_1l, q_set2_0, q_set2_1i, q_set2_1r, q_set2_1n, q_set2_s, q_if, zb_ite, cond_true, cond_false, List.getElem?_cons_zero, List.getElem?_cons_succ, Nat.reduceAdd, c4, c2, c0, l, f0, f1, f2, f3, f4, f5, f6, f7, f8, f9, f10, f11, f12, f13, f14, f15, c8_6, o0, o1, o2, o3, om, m30, m3, dg, gq, g4, h15, h16, h17, k1, k2, k3, k4, k5, k6, q7, q8, q13, q14, Int32.reduceLT, Int32.reduceLE, Nat.reduceLeDiff, Nat.zero_le, Nat.le_refl, Nat.zero_add, if_true, if_false, zb_eq0, zb_eq1, zn_1, not_true_eq_false, not_false_eq_true, ite_true, ite_false, if_true, if_false, q_iret_0, q_iret_1, decide_true, decide_false, decide_not, zb_t, zb_f, z10, z01, cond_true, cond_false, Bool.and_true, Bool.true_and, Bool.and_false, Bool.false_and, Bool.not_true, Bool.not_false, true_and, and_true, false_and, and_false, true_or, or_true, false_or, or_false, Bool.true_eq_false, Bool.false_eq_true, eq_self, reduceCtorEq, Bool.or_true, Bool.true_or, Bool.or_false, Bool.false_or])
  have gq : (zn q = 0) = False := (zn_inj (a := q) (b := 0) (by omega) (by decide)).trans (eq_false q0)
  have g4 : (zn q < 4) = True := zn_lt (a := q) (b := 4) (by omega) (by decide) ▸ eq_true (by omega)
  have h15 := dl (fun z => q0 ((zn_inj (a := q) (b := 0) (by omega) (by decide)).mp (q2.symm.trans z)))
  refine ⟨n + 1 + 1 + 1 + 1 + 1 + 1 + 1 + 1 + 1 + 1 + 1, some (.int (row A k 23)), some (.int 1), some (.int (zn mo)), by omega, ?_⟩
  clear dl hl fn2 fb4 fu fw ga HR I H hW L gF hD
  rcases mo3 with ⟨g0, rfl⟩ | ⟨g0, rfl⟩
  · rw [eq_true g0] at dg
    simp only [zl_1] at k5 ⊢
    clear g0
    (rw [e_L_isRefused_841]; simp (decide := true) only [e_L_isRefused_p0, e_L_isRefused_p1, e_L_isRefused_p2, e_L_isRefused_p3, e_L_isRefused_p4, e_L_isRefused_p5, lo_iload, lo_lload, lo_aload, lo_istore, lo_lstore, lo_iinc, lo_pushI, lo_pushL, lo_ii, lo_iid, lo_ll, lo_li, lo_lcmp, lo_i2l, lo_dup2, lo_goto, lo_if, lo_icmp, lq_iret_f, lq_iret_1, lq_iret_0, lq_iret_b, lq_lret, lq_bs, lq_bv, lq_bhv, lq_bhx, q_c8_0, q_c8_1, q_c8_2, q_c8_3, q_c8_4, q_set_0, q_set_1i, q_set_1r, q_set_1n, q_set_1N, q_set_s, q_set_1j, q_set_1l, q_set2_0, q_set2_1i, q_set2_1r, q_set2_1n, q_set2_s, q_if, zb_ite, cond_true, cond_false, List.getElem?_cons_zero, List.getElem?_cons_succ, Nat.reduceAdd, c4, c2, c0, l, f0, f1, f2, f3, f4, f5, f6, f7, f8, f9, f10, f11, f12, f13, f14, f15, c8_6, o0, o1, o2, o3, om, m30, m3, dg, gq, g4, h15, k1, k2, k3, k4, k5, k6, q7, q8, q13, q14, Int32.reduceLT, Int32.reduceLE, Nat.reduceLeDiff, Nat.zero_le, Nat.le_refl, Nat.zero_add, if_true, if_false, zb_eq0, zb_eq1, zn_1, not_true_eq_false, not_false_eq_true, ite_true, ite_false, if_true, if_false, q_iret_0, q_iret_1, decide_true, decide_false, decide_not, zb_t, zb_f, z10, z01, cond_true, cond_false, Bool.and_true, Bool.true_and, Bool.and_false, Bool.false_and, Bool.not_true, Bool.not_false, true_and, and_true, false_and, and_false, true_or, or_true, false_or, or_false, Bool.true_eq_false, Bool.false_eq_true, eq_self, reduceCtorEq, Bool.or_true, Bool.true_or, Bool.or_false, Bool.false_or])
  · rw [eq_false g0] at dg
    simp only [zl_0] at k5 ⊢
    clear g0
    (rw [e_L_isRefused_841]; simp (decide := true) only [e_L_isRefused_p0, e_L_isRefused_p1, e_L_isRefused_p2, e_L_isRefused_p3, e_L_isRefused_p4, e_L_isRefused_p5, lo_iload, lo_lload, lo_aload, lo_istore, lo_lstore, lo_iinc, lo_pushI, lo_pushL, lo_ii, lo_iid, lo_ll, lo_li, lo_lcmp, lo_i2l, lo_dup2, lo_goto, lo_if, lo_icmp, lq_iret_f, lq_iret_1, lq_iret_0, lq_iret_b, lq_lret, lq_bs, lq_bv, lq_bhv, lq_bhx, q_c8_0, q_c8_1, q_c8_2, q_c8_3, q_c8_4, q_set_0, q_set_1i, q_set_1r, q_set_1n, q_set_1N, q_set_s, q_set_1j, q_set_1l, q_set2_0, q_set2_1i, q_set2_1r, q_set2_1n, q_set2_s, q_if, zb_ite, cond_true, cond_false, List.getElem?_cons_zero, List.getElem?_cons_succ, Nat.reduceAdd, c4, c2, c0, l, f0, f1, f2, f3, f4, f5, f6, f7, f8, f9, f10, f11, f12, f13, f14, f15, c8_6, o0, o1, o2, o3, om, m30, m3, dg, gq, g4, h15, k1, k2, k3, k4, k5, k6, q7, q8, q13, q14, Int32.reduceLT, Int32.reduceLE, Nat.reduceLeDiff, Nat.zero_le, Nat.le_refl, Nat.zero_add, if_true, if_false, zb_eq0, zb_eq1, zn_1, not_true_eq_false, not_false_eq_true, ite_true, ite_false, if_true, if_false, q_iret_0, q_iret_1, decide_true, decide_false, decide_not, zb_t, zb_f, z10, z01, cond_true, cond_false, Bool.and_true, Bool.true_and, Bool.and_false, Bool.false_and, Bool.not_true, Bool.not_false, true_and, and_true, false_and, and_false, true_or, or_true, false_or, or_false, Bool.true_eq_false, Bool.false_eq_true, eq_self, reduceCtorEq, Bool.or_true, Bool.true_or, Bool.or_false, Bool.false_or])
set_option maxRecDepth 100000 in
set_option maxHeartbeats 8000000 in
theorem f_841_0 (H : Iv A) {X r : Nat} (hX : X < 2147483648) (hr : r < 30) (m30 : zn X - zn X / 30 * 30 = zn r) (N E : Int32) {F : Int32} (hF : F < 0 ∨ 4 ≤ F) (was : Int64) {k n : Nat} (hk : k < nv A 1) (hn : n + 15 ≤ 3600) (j10 j11 j12 : Option Value) : ∃ n' i10 i11 i12, n' ≤ n + 15 ∧ lz_ev tL_isRefused 841 [some (.ref 0), some (.int (zn X)), some (.int 0), some (.int N), some (.int E), some (.int F), some (.long was), none, some (.int 1), some (.int (zn k)), j10, j11, j12] [] (A, n) = lz_ev tL_isRefused 841 [some (.ref 0), some (.int (zn X)), some (.int 0), some (.int N), some (.int E), some (.int F), some (.long was), none, some (.int 1), some (.int (zn (k + 1))), i10, i11, i12] [] (A, n') := by
  have H' := H
  obtain ⟨hA, ⟨R, HR⟩, I⟩ := H'
  have n60 := rl_n60 HR.1
  have L := I.1.1
  obtain ⟨z1, z2, -, -, z5, z6, z7, z8, z9, z10, z11, -, -⟩ := lo_dec ⟨r, hr⟩
  obtain ⟨⟨gF, ⟨t, t1, t2⟩, -, ⟨q, q1, q2⟩, -⟩, -⟩ := cur_good HR.1 hk
  have l : (zn (nv A 1) ≤ zn k) = False := zn_le (a := nv A 1) (b := k) (by omega) (by omega) ▸ eq_false (by omega)
  have o0 := kV_e (g_objects hA HR)
  have o1 := kV_e (g_kindOf hA HR hk)
  have o2 := kV_e (g_goingOf hA HR hk)
  have o3 := kV_e (g_versionOf hA HR hk)
  have v15 : A.1 15 k = zn (lastV (obj A) (ve A 1) k) := L.2.2.2.1.2 k (by omega)
  have vle := lastV_le (f := obj A) k (ve A 1)
  have v4 := (Lg_n60 L).2.1
  have hW : ∀ v, A.1 15 k = zn v → v ≤ 400 → ¬ zn (v + 1) + zn r = -1 ∧ ¬ zn (v + 1) + zn r = A.1 15 k := fun v e h => by
    rw [zn_add, e]
    refine ⟨(zn_m1 (k := v + 1 + r) (by omega)).mp, fun z => ?_⟩
    have := (zn_inj (a := v + 1 + r) (b := v) (by omega) (by omega)).mp z
    omega
  have hW := hW _ v15 (by omega)
  rw [v15] at o3
  rw [q2] at o2
  generalize lastV (obj A) (ve A 1) k = v at *
  have hD : ¬ (4 : Int32) = 1 ∧ ¬ (4 : Int32) = 2 ∧ ¬ (4 : Int32) = 3 := ⟨by decide, by decide, by decide⟩
  have m3 : zn X - zn X / 3 * 3 = zn (X % 3) := zn_md (X := X) (d := 3) hX (by decide)
  have hx3 : X % 3 < 3 := Nat.mod_lt _ (by decide)
  generalize X % 3 = u at *
  have f0 : (n ≤ 3600) = True := eq_true (by omega)
  have f1 : (n + 1 ≤ 3600) = True := eq_true (by omega)
  have f2 : (n + 1 + 1 ≤ 3600) = True := eq_true (by omega)
  have f3 : (n + 1 + 1 + 1 ≤ 3600) = True := eq_true (by omega)
  have f4 : (n + 1 + 1 + 1 + 1 ≤ 3600) = True := eq_true (by omega)
  have f5 : (n + 1 + 1 + 1 + 1 + 1 ≤ 3600) = True := eq_true (by omega)
  have f6 : (n + 1 + 1 + 1 + 1 + 1 + 1 ≤ 3600) = True := eq_true (by omega)
  have f7 : (n + 1 + 1 + 1 + 1 + 1 + 1 + 1 ≤ 3600) = True := eq_true (by omega)
  have f8 : (n + 1 + 1 + 1 + 1 + 1 + 1 + 1 + 1 ≤ 3600) = True := eq_true (by omega)
  have f9 : (n + 1 + 1 + 1 + 1 + 1 + 1 + 1 + 1 + 1 ≤ 3600) = True := eq_true (by omega)
  have f10 : (n + 1 + 1 + 1 + 1 + 1 + 1 + 1 + 1 + 1 + 1 ≤ 3600) = True := eq_true (by omega)
  have f11 : (n + 1 + 1 + 1 + 1 + 1 + 1 + 1 + 1 + 1 + 1 + 1 ≤ 3600) = True := eq_true (by omega)
  have f12 : (n + 1 + 1 + 1 + 1 + 1 + 1 + 1 + 1 + 1 + 1 + 1 + 1 ≤ 3600) = True := eq_true (by omega)
  have f13 : (n + 1 + 1 + 1 + 1 + 1 + 1 + 1 + 1 + 1 + 1 + 1 + 1 + 1 ≤ 3600) = True := eq_true (by omega)
  have f14 : (n + 1 + 1 + 1 + 1 + 1 + 1 + 1 + 1 + 1 + 1 + 1 + 1 + 1 + 1 ≤ 3600) = True := eq_true (by omega)
  have f15 : (n + 1 + 1 + 1 + 1 + 1 + 1 + 1 + 1 + 1 + 1 + 1 + 1 + 1 + 1 + 1 ≤ 3600) = True := eq_true (by omega)
  have dl : ¬ row A k 25 = 0 → fL_act [.ref 0, .int 3, .int (zn k), .int (1 + zn u), .int 0, .int 0, .int 0, .int 0] A = some (some (.int (-1273)), A) := fun h => by
    rw [show 1 + zn u = zn (1 + u) from zn_add 1 u]
    exact xa_delete (kX_e (s_deleteX hA HR hk (q := 1 + u) (by omega) (by omega) h)) rfl
  have hl : row A k 25 = 4 → fL_act [.ref 0, .int 4, .int (zn k), .int 1, .int 0, .int 0, .int 0, .int 0] A = some (some (.int (-1273)), A) := fun h => xa_hold (kX_e (g_holdX hA HR hk h _)) rfl
  have fn2 : ¬ row A k 23 = 2 → fL_act [.ref 0, .int 5, .int (zn k), .int 0, .int 0, .int 0, .int 0, .int 0] A = some (some (.int (-1272)), A) := fun h => xa_finish (kX_e (k_finish hA HR hk h _)) rfl
  have fb4 : ¬ row A k 23 = 4 → fL_act [.ref 0, .int 16, .int (zn k), .int 0, .int 0, .int 0, .int 0, .int 0] A = some (some (.int (-1272)), A) := fun h => xa_beat (kX_e (k_beat hA HR hk h)) rfl
  have fu : ¬ row A k 23 = 0 → fL_act [.ref 0, .int 2, .int 0, .int (zn k), .int 10, .int 1, .int 0, .int 0] A = some (some (.int (-1272)), A) := fun h => xa_applyBudget (kX_e (k_applyBudget hA HR hk (m := 0) (by decide) h 10 _)) rfl
  have fw : ¬ row A k 23 = 0 → fL_act [.ref 0, .int 17, .int (zn k), .int 1, .int 0, .int 0, .int 0, .int 0] A = some (some (.int (-1272)), A) := fun h => xa_wish (kX_e (k_wish hA HR hk h 1)) rfl
  by_cases c4 : row A k 23 = 4
  · skip
    have hfi : hasF (row A k 23) (zn 7) = true := by rw [c4]; decide
    have hno : hasF (row A k 23) (zn 1) = false := by rw [c4]; decide
    obtain ⟨g, g1, g2⟩ := (JJ_cur I.1 hk).2.2.2.2 7 (by decide)
    have om : lz_g fX11_managerOf [.ref 0, .int (zn k), .int 7] A = some (.inl (some (.int (zn g))), A) := by
      rw [← g2]
      exact kV_e (g_managerOf hA HR hk hfi (by decide))
    have ga : row A k 25 = 4 → fL_act [.ref 0, .int 1, .int 0, .int (zn k), .int 7, .int 1, .int (-1), .int 1] A = some (some (.int (-1273)), A) := fun h => xa_apply (kX_e (g_applyX hA HR hk (m := 0) (by decide) hfi (by decide) h (-1) _)) rfl
    have hmo : ∃ mo, mo < 4 ∧ ¬ row A k (11 + 7) = zn mo ∧ ((g = 0 ∧ mo = 1) ∨ (¬ g = 0 ∧ mo = 0)) := by
      by_cases z : g = 0
      · exact ⟨1, by decide, by rw [g2, z]; decide, Or.inl ⟨z, rfl⟩⟩
      · exact ⟨0, by decide, by rw [g2]; exact fun y => z ((zn_inj (a := g) (b := 0) (by omega) (by decide)).mp y), Or.inr ⟨z, rfl⟩⟩
    obtain ⟨mo, mo1, mo2, mo3⟩ := hmo
    obtain ⟨k1, k2, k3, k4, k5, k6⟩ := rf_k H hk (fi := 7) (ot := 1) (mo := mo) (B := 10) (W := zn (v + 1) + zn r) (D := (4 : Int32)) hF hfi (by decide) hno (by decide) (by decide) hW mo1 mo2 hD
    have k1 : fL_act [.ref 0, .int 1, .int F, .int (zn k), .int 7, .int 0, .int (-1), .int 1] A = some (some (.int (-1272)), A) := k1
    have k2 : fL_act [.ref 0, .int 1, .int 0, .int (zn k), .int 1, .int 0, .int (-1), .int 1] A = some (some (.int (-1272)), A) := k2
    have k3 : fL_act [.ref 0, .int 1, .int 0, .int (zn k), .int 7, .int 10, .int (-1), .int 1] A = some (some (.int (-1272)), A) := k3
    have k4 : fL_act [.ref 0, .int 1, .int 0, .int (zn k), .int 7, .int 0, .int (zn (v + 1) + zn r), .int 1] A = some (some (.int (-1273)), A) := k4
    have k5 : fL_act [.ref 0, .int 1, .int (zn mo), .int (zn k), .int 7, .int 0, .int (-1), .int 0] A = some (some (.int (-1273)), A) := k5
    have q7 := fn2 (fun z => absurd (c4.symm.trans z) (by decide))
    have q13 := fu (fun z => absurd (c4.symm.trans z) (by decide))
    have q14 := fw (fun z => absurd (c4.symm.trans z) (by decide))
    have dg : (zn g = 0) = (g = 0) := zn_inj (a := g) (b := 0) (by omega) (by decide)
    by_cases q0 : q = 0
    · have gq : (zn q = 0) = True := (zn_inj (a := q) (b := 0) (by omega) (by decide)).trans (eq_true q0)
      have g4 : (zn q < 4) = True := zn_lt (a := q) (b := 4) (by omega) (by decide) ▸ eq_true (by omega)
      refine ⟨n + 1 + 1 + 1 + 1 + 1 + 1 + 1 + 1 + 1, some (.int 4), some (.int 7), some (.int (zn mo)), by omega, ?_⟩
      clear dl hl fn2 fb4 fu fw ga HR I H hW L gF hD
      rcases mo3 with ⟨g0, rfl⟩ | ⟨g0, rfl⟩
      · rw [eq_true g0] at dg
        simp only [zl_1] at k5 ⊢
        clear g0
        (rw [e_L_isRefused_841]; simp (decide := true) only [e_L_isRefused_p0, e_L_isRefused_p1, e_L_isRefused_p2, e_L_isRefused_p3, e_L_isRefused_p4, e_L_isRefused_p5, lo_iload, lo_lload, lo_aload, lo_istore, lo_lstore, lo_iinc, lo_pushI, lo_pushL, lo_ii, lo_iid, lo_ll, lo_li, lo_lcmp, lo_i2l, lo_dup2, lo_goto, lo_if, lo_icmp, lq_iret_f, lq_iret_1, lq_iret_0, lq_iret_b, lq_lret, lq_bs, lq_bv, lq_bhv, lq_bhx, q_c8_0, q_c8_1, q_c8_2, q_c8_3, q_c8_4, q_set_0, q_set_1i, q_set_1r, q_set_1n, q_set_1N, q_set_s, q_set_1j, q_set_1l, q_set2_0, q_set2_1i, q_set2_1r, q_set2_1n, q_set2_s, q_if, zb_ite, cond_true, cond_false, List.getElem?_cons_zero, List.getElem?_cons_succ, Nat.reduceAdd, c4, l, f0, f1, f2, f3, f4, f5, f6, f7, f8, f9, f10, f11, f12, f13, f14, f15, c8_6, o0, o1, o2, o3, om, m30, m3, dg, gq, g4, k1, k2, k3, k4, k5, k6, q7, q13, q14, Int32.reduceLT, Int32.reduceLE, Nat.reduceLeDiff, Nat.zero_le, Nat.le_refl, Nat.zero_add, if_true, if_false, zb_eq0, zb_eq1, zn_1, not_true_eq_false, not_false_eq_true, ite_true, ite_false, if_true, if_false, q_iret_0, q_iret_1, decide_true, decide_false, decide_not, zb_t, zb_f, z10, z01, cond_true, cond_false, Bool.and_true, Bool.true_and, Bool.and_false, Bool.false_and, Bool.not_true, Bool.not_false, true_and, and_true, false_and, and_false, true_or, or_true, false_or, or_false, Bool.true_eq_false, Bool.false_eq_true, eq_self, reduceCtorEq, Bool.or_true, Bool.true_or, Bool.or_false, Bool.false_or])
      · rw [eq_false g0] at dg
        simp only [zl_0] at k5 ⊢
        clear g0
        (rw [e_L_isRefused_841]; simp (decide := true) only [e_L_isRefused_p0, e_L_isRefused_p1, e_L_isRefused_p2, e_L_isRefused_p3, e_L_isRefused_p4, e_L_isRefused_p5, lo_iload, lo_lload, lo_aload, lo_istore, lo_lstore, lo_iinc, lo_pushI, lo_pushL, lo_ii, lo_iid, lo_ll, lo_li, lo_lcmp, lo_i2l, lo_dup2, lo_goto, lo_if, lo_icmp, lq_iret_f, lq_iret_1, lq_iret_0, lq_iret_b, lq_lret, lq_bs, lq_bv, lq_bhv, lq_bhx, q_c8_0, q_c8_1, q_c8_2, q_c8_3, q_c8_4, q_set_0, q_set_1i, q_set_1r, q_set_1n, q_set_1N, q_set_s, q_set_1j, q_set_1l, q_set2_0, q_set2_1i, q_set2_1r, q_set2_1n, q_set2_s, q_if, zb_ite, cond_true, cond_false, List.getElem?_cons_zero, List.getElem?_cons_succ, Nat.reduceAdd, c4, l, f0, f1, f2, f3, f4, f5, f6, f7, f8, f9, f10, f11, f12, f13, f14, f15, c8_6, o0, o1, o2, o3, om, m30, m3, dg, gq, g4, k1, k2, k3, k4, k5, k6, q7, q13, q14, Int32.reduceLT, Int32.reduceLE, Nat.reduceLeDiff, Nat.zero_le, Nat.le_refl, Nat.zero_add, if_true, if_false, zb_eq0, zb_eq1, zn_1, not_true_eq_false, not_false_eq_true, ite_true, ite_false, if_true, if_false, q_iret_0, q_iret_1, decide_true, decide_false, decide_not, zb_t, zb_f, z10, z01, cond_true, cond_false, Bool.and_true, Bool.true_and, Bool.and_false, Bool.false_and, Bool.not_true, Bool.not_false, true_and, and_true, false_and, and_false, true_or, or_true, false_or, or_false, Bool.true_eq_false, Bool.false_eq_true, eq_self, reduceCtorEq, Bool.or_true, Bool.true_or, Bool.or_false, Bool.false_or])
    by_cases q4 : q = 4
    · have gq : (zn q = 0) = False := (zn_inj (a := q) (b := 0) (by omega) (by decide)).trans (eq_false q0)
      have g4 : (zn q < 4) = False := zn_lt (a := q) (b := 4) (by omega) (by decide) ▸ eq_false (by omega)
      have h15 := dl (fun z => q0 ((zn_inj (a := q) (b := 0) (by omega) (by decide)).mp (q2.symm.trans z)))
      have h16 := hl (by rw [q2, q4]; rfl)
      have h17 := ga (by rw [q2, q4]; rfl)
      refine ⟨n + 1 + 1 + 1 + 1 + 1 + 1 + 1 + 1 + 1 + 1 + 1 + 1, some (.int 4), some (.int 7), some (.int (zn mo)), by omega, ?_⟩
      clear dl hl fn2 fb4 fu fw ga HR I H hW L gF hD
      rcases mo3 with ⟨g0, rfl⟩ | ⟨g0, rfl⟩
      · rw [eq_true g0] at dg
        simp only [zl_1] at k5 ⊢
        clear g0
        (rw [e_L_isRefused_841]; simp (decide := true) only [e_L_isRefused_p0, e_L_isRefused_p1, e_L_isRefused_p2, e_L_isRefused_p3, e_L_isRefused_p4, e_L_isRefused_p5, lo_iload, lo_lload, lo_aload, lo_istore, lo_lstore, lo_iinc, lo_pushI, lo_pushL, lo_ii, lo_iid, lo_ll, lo_li, lo_lcmp, lo_i2l, lo_dup2, lo_goto, lo_if, lo_icmp, lq_iret_f, lq_iret_1, lq_iret_0, lq_iret_b, lq_lret, lq_bs, lq_bv, lq_bhv, lq_bhx, q_c8_0, q_c8_1, q_c8_2, q_c8_3, q_c8_4, q_set_0, q_set_1i, q_set_1r, q_set_1n, q_set_1N, q_set_s, q_set_1j, q_set_1l, q_set2_0, q_set2_1i, q_set2_1r, q_set2_1n, q_set2_s, q_if, zb_ite, cond_true, cond_false, List.getElem?_cons_zero, List.getElem?_cons_succ, Nat.reduceAdd, c4, l, f0, f1, f2, f3, f4, f5, f6, f7, f8, f9, f10, f11, f12, f13, f14, f15, c8_6, o0, o1, o2, o3, om, m30, m3, dg, gq, g4, h15, h16, h17, k1, k2, k3, k4, k5, k6, q7, q13, q14, Int32.reduceLT, Int32.reduceLE, Nat.reduceLeDiff, Nat.zero_le, Nat.le_refl, Nat.zero_add, if_true, if_false, zb_eq0, zb_eq1, zn_1, not_true_eq_false, not_false_eq_true, ite_true, ite_false, if_true, if_false, q_iret_0, q_iret_1, decide_true, decide_false, decide_not, zb_t, zb_f, z10, z01, cond_true, cond_false, Bool.and_true, Bool.true_and, Bool.and_false, Bool.false_and, Bool.not_true, Bool.not_false, true_and, and_true, false_and, and_false, true_or, or_true, false_or, or_false, Bool.true_eq_false, Bool.false_eq_true, eq_self, reduceCtorEq, Bool.or_true, Bool.true_or, Bool.or_false, Bool.false_or])
      · rw [eq_false g0] at dg
        simp only [zl_0] at k5 ⊢
        clear g0
        (rw [e_L_isRefused_841]; simp (decide := true) only [e_L_isRefused_p0, e_L_isRefused_p1, e_L_isRefused_p2, e_L_isRefused_p3, e_L_isRefused_p4, e_L_isRefused_p5, lo_iload, lo_lload, lo_aload, lo_istore, lo_lstore, lo_iinc, lo_pushI, lo_pushL, lo_ii, lo_iid, lo_ll, lo_li, lo_lcmp, lo_i2l, lo_dup2, lo_goto, lo_if, lo_icmp, lq_iret_f, lq_iret_1, lq_iret_0, lq_iret_b, lq_lret, lq_bs, lq_bv, lq_bhv, lq_bhx, q_c8_0, q_c8_1, q_c8_2, q_c8_3, q_c8_4, q_set_0, q_set_1i, q_set_1r, q_set_1n, q_set_1N, q_set_s, q_set_1j, q_set_1l, q_set2_0, q_set2_1i, q_set2_1r, q_set2_1n, q_set2_s, q_if, zb_ite, cond_true, cond_false, List.getElem?_cons_zero, List.getElem?_cons_succ, Nat.reduceAdd, c4, l, f0, f1, f2, f3, f4, f5, f6, f7, f8, f9, f10, f11, f12, f13, f14, f15, c8_6, o0, o1, o2, o3, om, m30, m3, dg, gq, g4, h15, h16, h17, k1, k2, k3, k4, k5, k6, q7, q13, q14, Int32.reduceLT, Int32.reduceLE, Nat.reduceLeDiff, Nat.zero_le, Nat.le_refl, Nat.zero_add, if_true, if_false, zb_eq0, zb_eq1, zn_1, not_true_eq_false, not_false_eq_true, ite_true, ite_false, if_true, if_false, q_iret_0, q_iret_1, decide_true, decide_false, decide_not, zb_t, zb_f, z10, z01, cond_true, cond_false, Bool.and_true, Bool.true_and, Bool.and_false, Bool.false_and, Bool.not_true, Bool.not_false, true_and, and_true, false_and, and_false, true_or, or_true, false_or, or_false, Bool.true_eq_false, Bool.false_eq_true, eq_self, reduceCtorEq, Bool.or_true, Bool.true_or, Bool.or_false, Bool.false_or])
    have gq : (zn q = 0) = False := (zn_inj (a := q) (b := 0) (by omega) (by decide)).trans (eq_false q0)
    have g4 : (zn q < 4) = True := zn_lt (a := q) (b := 4) (by omega) (by decide) ▸ eq_true (by omega)
    have h15 := dl (fun z => q0 ((zn_inj (a := q) (b := 0) (by omega) (by decide)).mp (q2.symm.trans z)))
    refine ⟨n + 1 + 1 + 1 + 1 + 1 + 1 + 1 + 1 + 1 + 1, some (.int 4), some (.int 7), some (.int (zn mo)), by omega, ?_⟩
    clear dl hl fn2 fb4 fu fw ga HR I H hW L gF hD
    rcases mo3 with ⟨g0, rfl⟩ | ⟨g0, rfl⟩
    · rw [eq_true g0] at dg
      simp only [zl_1] at k5 ⊢
      clear g0
      (rw [e_L_isRefused_841]; simp (decide := true) only [e_L_isRefused_p0, e_L_isRefused_p1, e_L_isRefused_p2, e_L_isRefused_p3, e_L_isRefused_p4, e_L_isRefused_p5, lo_iload, lo_lload, lo_aload, lo_istore, lo_lstore, lo_iinc, lo_pushI, lo_pushL, lo_ii, lo_iid, lo_ll, lo_li, lo_lcmp, lo_i2l, lo_dup2, lo_goto, lo_if, lo_icmp, lq_iret_f, lq_iret_1, lq_iret_0, lq_iret_b, lq_lret, lq_bs, lq_bv, lq_bhv, lq_bhx, q_c8_0, q_c8_1, q_c8_2, q_c8_3, q_c8_4, q_set_0, q_set_1i, q_set_1r, q_set_1n, q_set_1N, q_set_s, q_set_1j, q_set_1l, q_set2_0, q_set2_1i, q_set2_1r, q_set2_1n, q_set2_s, q_if, zb_ite, cond_true, cond_false, List.getElem?_cons_zero, List.getElem?_cons_succ, Nat.reduceAdd, c4, l, f0, f1, f2, f3, f4, f5, f6, f7, f8, f9, f10, f11, f12, f13, f14, f15, c8_6, o0, o1, o2, o3, om, m30, m3, dg, gq, g4, h15, k1, k2, k3, k4, k5, k6, q7, q13, q14, Int32.reduceLT, Int32.reduceLE, Nat.reduceLeDiff, Nat.zero_le, Nat.le_refl, Nat.zero_add, if_true, if_false, zb_eq0, zb_eq1, zn_1, not_true_eq_false, not_false_eq_true, ite_true, ite_false, if_true, if_false, q_iret_0, q_iret_1, decide_true, decide_false, decide_not, zb_t, zb_f, z10, z01, cond_true, cond_false, Bool.and_true, Bool.true_and, Bool.and_false, Bool.false_and, Bool.not_true, Bool.not_false, true_and, and_true, false_and, and_false, true_or, or_true, false_or, or_false, Bool.true_eq_false, Bool.false_eq_true, eq_self, reduceCtorEq, Bool.or_true, Bool.true_or, Bool.or_false, Bool.false_or])
    · rw [eq_false g0] at dg
      simp only [zl_0] at k5 ⊢
      clear g0
      (rw [e_L_isRefused_841]; simp (decide := true) only [e_L_isRefused_p0, e_L_isRefused_p1, e_L_isRefused_p2, e_L_isRefused_p3, e_L_isRefused_p4, e_L_isRefused_p5, lo_iload, lo_lload, lo_aload, lo_istore, lo_lstore, lo_iinc, lo_pushI, lo_pushL, lo_ii, lo_iid, lo_ll, lo_li, lo_lcmp, lo_i2l, lo_dup2, lo_goto, lo_if, lo_icmp, lq_iret_f, lq_iret_1, lq_iret_0, lq_iret_b, lq_lret, lq_bs, lq_bv, lq_bhv, lq_bhx, q_c8_0, q_c8_1, q_c8_2, q_c8_3, q_c8_4, q_set_0, q_set_1i, q_set_1r, q_set_1n, q_set_1N, q_set_s, q_set_1j, q_set_1l, q_set2_0, q_set2_1i, q_set2_1r, q_set2_1n, q_set2_s, q_if, zb_ite, cond_true, cond_false, List.getElem?_cons_zero, List.getElem?_cons_succ, Nat.reduceAdd, c4, l, f0, f1, f2, f3, f4, f5, f6, f7, f8, f9, f10, f11, f12, f13, f14, f15, c8_6, o0, o1, o2, o3, om, m30, m3, dg, gq, g4, h15, k1, k2, k3, k4, k5, k6, q7, q13, q14, Int32.reduceLT, Int32.reduceLE, Nat.reduceLeDiff, Nat.zero_le, Nat.le_refl, Nat.zero_add, if_true, if_false, zb_eq0, zb_eq1, zn_1, not_true_eq_false, not_false_eq_true, ite_true, ite_false, if_true, if_false, q_iret_0, q_iret_1, decide_true, decide_false, decide_not, zb_t, zb_f, z10, z01, cond_true, cond_false, Bool.and_true, Bool.true_and, Bool.and_false, Bool.false_and, Bool.not_true, Bool.not_false, true_and, and_true, false_and, and_false, true_or, or_true, false_or, or_false, Bool.true_eq_false, Bool.false_eq_true, eq_self, reduceCtorEq, Bool.or_true, Bool.true_or, Bool.or_false, Bool.false_or])
  by_cases c2 : row A k 23 = 2
  · skip
    have ht4 : ¬ t = 4 := fun z => c4 (by rw [t2, z]; rfl)
    have hfi : hasF (row A k 23) (zn 1) = true := by rw [t2]; exact (has_k t1 ht4).1
    have hno : hasF (row A k 23) (zn 7) = false := by rw [t2]; exact (has_k t1 ht4).2
    obtain ⟨g, g1, g2⟩ := (JJ_cur I.1 hk).2.2.2.2 1 (by decide)
    have om : lz_g fX11_managerOf [.ref 0, .int (zn k), .int 1] A = some (.inl (some (.int (zn g))), A) := by
      rw [← g2]
      exact kV_e (g_managerOf hA HR hk hfi (by decide))
    have ga : row A k 25 = 4 → fL_act [.ref 0, .int 1, .int 0, .int (zn k), .int 1, .int 1, .int (-1), .int 1] A = some (some (.int (-1273)), A) := fun h => xa_apply (kX_e (g_applyX hA HR hk (m := 0) (by decide) hfi (by decide) h (-1) _)) rfl
    have hmo : ∃ mo, mo < 4 ∧ ¬ row A k (11 + 1) = zn mo ∧ ((g = 0 ∧ mo = 1) ∨ (¬ g = 0 ∧ mo = 0)) := by
      by_cases z : g = 0
      · exact ⟨1, by decide, by rw [g2, z]; decide, Or.inl ⟨z, rfl⟩⟩
      · exact ⟨0, by decide, by rw [g2]; exact fun y => z ((zn_inj (a := g) (b := 0) (by omega) (by decide)).mp y), Or.inr ⟨z, rfl⟩⟩
    obtain ⟨mo, mo1, mo2, mo3⟩ := hmo
    obtain ⟨k1, k2, k3, k4, k5, k6⟩ := rf_k H hk (fi := 1) (ot := 7) (mo := mo) (B := 10) (W := zn (v + 1) + zn r) (D := (4 : Int32)) hF hfi (by decide) hno (by decide) (by decide) hW mo1 mo2 hD
    have k1 : fL_act [.ref 0, .int 1, .int F, .int (zn k), .int 1, .int 0, .int (-1), .int 1] A = some (some (.int (-1272)), A) := k1
    have k2 : fL_act [.ref 0, .int 1, .int 0, .int (zn k), .int 7, .int 0, .int (-1), .int 1] A = some (some (.int (-1272)), A) := k2
    have k3 : fL_act [.ref 0, .int 1, .int 0, .int (zn k), .int 1, .int 10, .int (-1), .int 1] A = some (some (.int (-1272)), A) := k3
    have k4 : fL_act [.ref 0, .int 1, .int 0, .int (zn k), .int 1, .int 0, .int (zn (v + 1) + zn r), .int 1] A = some (some (.int (-1273)), A) := k4
    have k5 : fL_act [.ref 0, .int 1, .int (zn mo), .int (zn k), .int 1, .int 0, .int (-1), .int 0] A = some (some (.int (-1273)), A) := k5
    have q8 := fb4 c4
    have q13 := fu (fun z => absurd (c2.symm.trans z) (by decide))
    have q14 := fw (fun z => absurd (c2.symm.trans z) (by decide))
    have dg : (zn g = 0) = (g = 0) := zn_inj (a := g) (b := 0) (by omega) (by decide)
    by_cases q0 : q = 0
    · have gq : (zn q = 0) = True := (zn_inj (a := q) (b := 0) (by omega) (by decide)).trans (eq_true q0)
      have g4 : (zn q < 4) = True := zn_lt (a := q) (b := 4) (by omega) (by decide) ▸ eq_true (by omega)
      refine ⟨n + 1 + 1 + 1 + 1 + 1 + 1 + 1 + 1 + 1, some (.int 2), some (.int 1), some (.int (zn mo)), by omega, ?_⟩
      clear dl hl fn2 fb4 fu fw ga HR I H hW L gF hD
      rcases mo3 with ⟨g0, rfl⟩ | ⟨g0, rfl⟩
      · rw [eq_true g0] at dg
        simp only [zl_1] at k5 ⊢
        clear g0
        (rw [e_L_isRefused_841]; simp (decide := true) only [e_L_isRefused_p0, e_L_isRefused_p1, e_L_isRefused_p2, e_L_isRefused_p3, e_L_isRefused_p4, e_L_isRefused_p5, lo_iload, lo_lload, lo_aload, lo_istore, lo_lstore, lo_iinc, lo_pushI, lo_pushL, lo_ii, lo_iid, lo_ll, lo_li, lo_lcmp, lo_i2l, lo_dup2, lo_goto, lo_if, lo_icmp, lq_iret_f, lq_iret_1, lq_iret_0, lq_iret_b, lq_lret, lq_bs, lq_bv, lq_bhv, lq_bhx, q_c8_0, q_c8_1, q_c8_2, q_c8_3, q_c8_4, q_set_0, q_set_1i, q_set_1r, q_set_1n, q_set_1N, q_set_s, q_set_1j, q_set_1l, q_set2_0, q_set2_1i, q_set2_1r, q_set2_1n, q_set2_s, q_if, zb_ite, cond_true, cond_false, List.getElem?_cons_zero, List.getElem?_cons_succ, Nat.reduceAdd, c2, l, f0, f1, f2, f3, f4, f5, f6, f7, f8, f9, f10, f11, f12, f13, f14, f15, c8_6, o0, o1, o2, o3, om, m30, m3, dg, gq, g4, k1, k2, k3, k4, k5, k6, q8, q13, q14, Int32.reduceLT, Int32.reduceLE, Nat.reduceLeDiff, Nat.zero_le, Nat.le_refl, Nat.zero_add, if_true, if_false, zb_eq0, zb_eq1, zn_1, not_true_eq_false, not_false_eq_true, ite_true, ite_false, if_true, if_false, q_iret_0, q_iret_1, decide_true, decide_false, decide_not, zb_t, zb_f, z10, z01, cond_true, cond_false, Bool.and_true, Bool.true_and, Bool.and_false, Bool.false_and, Bool.not_true, Bool.not_false, true_and, and_true, false_and, and_false, true_or, or_true, false_or, or_false, Bool.true_eq_false, Bool.false_eq_true, eq_self, reduceCtorEq, Bool.or_true, Bool.true_or, Bool.or_false, Bool.false_or])
      · rw [eq_false g0] at dg
        simp only [zl_0] at k5 ⊢
        clear g0
        (rw [e_L_isRefused_841]; simp (decide := true) only [e_L_isRefused_p0, e_L_isRefused_p1, e_L_isRefused_p2, e_L_isRefused_p3, e_L_isRefused_p4, e_L_isRefused_p5, lo_iload, lo_lload, lo_aload, lo_istore, lo_lstore, lo_iinc, lo_pushI, lo_pushL, lo_ii, lo_iid, lo_ll, lo_li, lo_lcmp, lo_i2l, lo_dup2, lo_goto, lo_if, lo_icmp, lq_iret_f, lq_iret_1, lq_iret_0, lq_iret_b, lq_lret, lq_bs, lq_bv, lq_bhv, lq_bhx, q_c8_0, q_c8_1, q_c8_2, q_c8_3, q_c8_4, q_set_0, q_set_1i, q_set_1r, q_set_1n, q_set_1N, q_set_s, q_set_1j, q_set_1l, q_set2_0, q_set2_1i, q_set2_1r, q_set2_1n, q_set2_s, q_if, zb_ite, cond_true, cond_false, List.getElem?_cons_zero, List.getElem?_cons_succ, Nat.reduceAdd, c2, l, f0, f1, f2, f3, f4, f5, f6, f7, f8, f9, f10, f11, f12, f13, f14, f15, c8_6, o0, o1, o2, o3, om, m30, m3, dg, gq, g4, k1, k2, k3, k4, k5, k6, q8, q13, q14, Int32.reduceLT, Int32.reduceLE, Nat.reduceLeDiff, Nat.zero_le, Nat.le_refl, Nat.zero_add, if_true, if_false, zb_eq0, zb_eq1, zn_1, not_true_eq_false, not_false_eq_true, ite_true, ite_false, if_true, if_false, q_iret_0, q_iret_1, decide_true, decide_false, decide_not, zb_t, zb_f, z10, z01, cond_true, cond_false, Bool.and_true, Bool.true_and, Bool.and_false, Bool.false_and, Bool.not_true, Bool.not_false, true_and, and_true, false_and, and_false, true_or, or_true, false_or, or_false, Bool.true_eq_false, Bool.false_eq_true, eq_self, reduceCtorEq, Bool.or_true, Bool.true_or, Bool.or_false, Bool.false_or])
    by_cases q4 : q = 4
    · have gq : (zn q = 0) = False := (zn_inj (a := q) (b := 0) (by omega) (by decide)).trans (eq_false q0)
      have g4 : (zn q < 4) = False := zn_lt (a := q) (b := 4) (by omega) (by decide) ▸ eq_false (by omega)
      have h15 := dl (fun z => q0 ((zn_inj (a := q) (b := 0) (by omega) (by decide)).mp (q2.symm.trans z)))
      have h16 := hl (by rw [q2, q4]; rfl)
      have h17 := ga (by rw [q2, q4]; rfl)
      refine ⟨n + 1 + 1 + 1 + 1 + 1 + 1 + 1 + 1 + 1 + 1 + 1 + 1, some (.int 2), some (.int 1), some (.int (zn mo)), by omega, ?_⟩
      clear dl hl fn2 fb4 fu fw ga HR I H hW L gF hD
      rcases mo3 with ⟨g0, rfl⟩ | ⟨g0, rfl⟩
      · rw [eq_true g0] at dg
        simp only [zl_1] at k5 ⊢
        clear g0
        (rw [e_L_isRefused_841]; simp (decide := true) only [e_L_isRefused_p0, e_L_isRefused_p1, e_L_isRefused_p2, e_L_isRefused_p3, e_L_isRefused_p4, e_L_isRefused_p5, lo_iload, lo_lload, lo_aload, lo_istore, lo_lstore, lo_iinc, lo_pushI, lo_pushL, lo_ii, lo_iid, lo_ll, lo_li, lo_lcmp, lo_i2l, lo_dup2, lo_goto, lo_if, lo_icmp, lq_iret_f, lq_iret_1, lq_iret_0, lq_iret_b, lq_lret, lq_bs, lq_bv, lq_bhv, lq_bhx, q_c8_0, q_c8_1, q_c8_2, q_c8_3, q_c8_4, q_set_0, q_set_1i, q_set_1r, q_set_1n, q_set_1N, q_set_s, q_set_1j, q_set_1l, q_set2_0, q_set2_1i, q_set2_1r, q_set2_1n, q_set2_s, q_if, zb_ite, cond_true, cond_false, List.getElem?_cons_zero, List.getElem?_cons_succ, Nat.reduceAdd, c2, l, f0, f1, f2, f3, f4, f5, f6, f7, f8, f9, f10, f11, f12, f13, f14, f15, c8_6, o0, o1, o2, o3, om, m30, m3, dg, gq, g4, h15, h16, h17, k1, k2, k3, k4, k5, k6, q8, q13, q14, Int32.reduceLT, Int32.reduceLE, Nat.reduceLeDiff, Nat.zero_le, Nat.le_refl, Nat.zero_add, if_true, if_false, zb_eq0, zb_eq1, zn_1, not_true_eq_false, not_false_eq_true, ite_true, ite_false, if_true, if_false, q_iret_0, q_iret_1, decide_true, decide_false, decide_not, zb_t, zb_f, z10, z01, cond_true, cond_false, Bool.and_true, Bool.true_and, Bool.and_false, Bool.false_and, Bool.not_true, Bool.not_false, true_and, and_true, false_and, and_false, true_or, or_true, false_or, or_false, Bool.true_eq_false, Bool.false_eq_true, eq_self, reduceCtorEq, Bool.or_true, Bool.true_or, Bool.or_false, Bool.false_or])
      · rw [eq_false g0] at dg
        simp only [zl_0] at k5 ⊢
        clear g0
        (rw [e_L_isRefused_841]; simp (decide := true) only [e_L_isRefused_p0, e_L_isRefused_p1, e_L_isRefused_p2, e_L_isRefused_p3, e_L_isRefused_p4, e_L_isRefused_p5, lo_iload, lo_lload, lo_aload, lo_istore, lo_lstore, lo_iinc, lo_pushI, lo_pushL, lo_ii, lo_iid, lo_ll, lo_li, lo_lcmp, lo_i2l, lo_dup2, lo_goto, lo_if, lo_icmp, lq_iret_f, lq_iret_1, lq_iret_0, lq_iret_b, lq_lret, lq_bs, lq_bv, lq_bhv, lq_bhx, q_c8_0, q_c8_1, q_c8_2, q_c8_3, q_c8_4, q_set_0, q_set_1i, q_set_1r, q_set_1n, q_set_1N, q_set_s, q_set_1j, q_set_1l, q_set2_0, q_set2_1i, q_set2_1r, q_set2_1n, q_set2_s, q_if, zb_ite, cond_true, cond_false, List.getElem?_cons_zero, List.getElem?_cons_succ, Nat.reduceAdd, c2, l, f0, f1, f2, f3, f4, f5, f6, f7, f8, f9, f10, f11, f12, f13, f14, f15, c8_6, o0, o1, o2, o3, om, m30, m3, dg, gq, g4, h15, h16, h17, k1, k2, k3, k4, k5, k6, q8, q13, q14, Int32.reduceLT, Int32.reduceLE, Nat.reduceLeDiff, Nat.zero_le, Nat.le_refl, Nat.zero_add, if_true, if_false, zb_eq0, zb_eq1, zn_1, not_true_eq_false, not_false_eq_true, ite_true, ite_false, if_true, if_false, q_iret_0, q_iret_1, decide_true, decide_false, decide_not, zb_t, zb_f, z10, z01, cond_true, cond_false, Bool.and_true, Bool.true_and, Bool.and_false, Bool.false_and, Bool.not_true, Bool.not_false, true_and, and_true, false_and, and_false, true_or, or_true, false_or, or_false, Bool.true_eq_false, Bool.false_eq_true, eq_self, reduceCtorEq, Bool.or_true, Bool.true_or, Bool.or_false, Bool.false_or])
    have gq : (zn q = 0) = False := (zn_inj (a := q) (b := 0) (by omega) (by decide)).trans (eq_false q0)
    have g4 : (zn q < 4) = True := zn_lt (a := q) (b := 4) (by omega) (by decide) ▸ eq_true (by omega)
    have h15 := dl (fun z => q0 ((zn_inj (a := q) (b := 0) (by omega) (by decide)).mp (q2.symm.trans z)))
    refine ⟨n + 1 + 1 + 1 + 1 + 1 + 1 + 1 + 1 + 1 + 1, some (.int 2), some (.int 1), some (.int (zn mo)), by omega, ?_⟩
    clear dl hl fn2 fb4 fu fw ga HR I H hW L gF hD
    rcases mo3 with ⟨g0, rfl⟩ | ⟨g0, rfl⟩
    · rw [eq_true g0] at dg
      simp only [zl_1] at k5 ⊢
      clear g0
      (rw [e_L_isRefused_841]; simp (decide := true) only [e_L_isRefused_p0, e_L_isRefused_p1, e_L_isRefused_p2, e_L_isRefused_p3, e_L_isRefused_p4, e_L_isRefused_p5, lo_iload, lo_lload, lo_aload, lo_istore, lo_lstore, lo_iinc, lo_pushI, lo_pushL, lo_ii, lo_iid, lo_ll, lo_li, lo_lcmp, lo_i2l, lo_dup2, lo_goto, lo_if, lo_icmp, lq_iret_f, lq_iret_1, lq_iret_0, lq_iret_b, lq_lret, lq_bs, lq_bv, lq_bhv, lq_bhx, q_c8_0, q_c8_1, q_c8_2, q_c8_3, q_c8_4, q_set_0, q_set_1i, q_set_1r, q_set_1n, q_set_1N, q_set_s, q_set_1j, q_set_1l, q_set2_0, q_set2_1i, q_set2_1r, q_set2_1n, q_set2_s, q_if, zb_ite, cond_true, cond_false, List.getElem?_cons_zero, List.getElem?_cons_succ, Nat.reduceAdd, c2, l, f0, f1, f2, f3, f4, f5, f6, f7, f8, f9, f10, f11, f12, f13, f14, f15, c8_6, o0, o1, o2, o3, om, m30, m3, dg, gq, g4, h15, k1, k2, k3, k4, k5, k6, q8, q13, q14, Int32.reduceLT, Int32.reduceLE, Nat.reduceLeDiff, Nat.zero_le, Nat.le_refl, Nat.zero_add, if_true, if_false, zb_eq0, zb_eq1, zn_1, not_true_eq_false, not_false_eq_true, ite_true, ite_false, if_true, if_false, q_iret_0, q_iret_1, decide_true, decide_false, decide_not, zb_t, zb_f, z10, z01, cond_true, cond_false, Bool.and_true, Bool.true_and, Bool.and_false, Bool.false_and, Bool.not_true, Bool.not_false, true_and, and_true, false_and, and_false, true_or, or_true, false_or, or_false, Bool.true_eq_false, Bool.false_eq_true, eq_self, reduceCtorEq, Bool.or_true, Bool.true_or, Bool.or_false, Bool.false_or])
    · rw [eq_false g0] at dg
      simp only [zl_0] at k5 ⊢
      clear g0
      (rw [e_L_isRefused_841]; simp (decide := true) only [e_L_isRefused_p0, e_L_isRefused_p1, e_L_isRefused_p2, e_L_isRefused_p3, e_L_isRefused_p4, e_L_isRefused_p5, lo_iload, lo_lload, lo_aload, lo_istore, lo_lstore, lo_iinc, lo_pushI, lo_pushL, lo_ii, lo_iid, lo_ll, lo_li, lo_lcmp, lo_i2l, lo_dup2, lo_goto, lo_if, lo_icmp, lq_iret_f, lq_iret_1, lq_iret_0, lq_iret_b, lq_lret, lq_bs, lq_bv, lq_bhv, lq_bhx, q_c8_0, q_c8_1, q_c8_2, q_c8_3, q_c8_4, q_set_0, q_set_1i, q_set_1r, q_set_1n, q_set_1N, q_set_s, q_set_1j, q_set_1l, q_set2_0, q_set2_1i, q_set2_1r, q_set2_1n, q_set2_s, q_if, zb_ite, cond_true, cond_false, List.getElem?_cons_zero, List.getElem?_cons_succ, Nat.reduceAdd, c2, l, f0, f1, f2, f3, f4, f5, f6, f7, f8, f9, f10, f11, f12, f13, f14, f15, c8_6, o0, o1, o2, o3, om, m30, m3, dg, gq, g4, h15, k1, k2, k3, k4, k5, k6, q8, q13, q14, Int32.reduceLT, Int32.reduceLE, Nat.reduceLeDiff, Nat.zero_le, Nat.le_refl, Nat.zero_add, if_true, if_false, zb_eq0, zb_eq1, zn_1, not_true_eq_false, not_false_eq_true, ite_true, ite_false, if_true, if_false, q_iret_0, q_iret_1, decide_true, decide_false, decide_not, zb_t, zb_f, z10, z01, cond_true, cond_false, Bool.and_true, Bool.true_and, Bool.and_false, Bool.false_and, Bool.not_true, Bool.not_false, true_and, and_true, false_and, and_false, true_or, or_true, false_or, or_false, Bool.true_eq_false, Bool.false_eq_true, eq_self, reduceCtorEq, Bool.or_true, Bool.true_or, Bool.or_false, Bool.false_or])
  by_cases c0 : row A k 23 = 0
  · skip
    have ht4 : ¬ t = 4 := fun z => c4 (by rw [t2, z]; rfl)
    have hfi : hasF (row A k 23) (zn 1) = true := by rw [t2]; exact (has_k t1 ht4).1
    have hno : hasF (row A k 23) (zn 7) = false := by rw [t2]; exact (has_k t1 ht4).2
    obtain ⟨g, g1, g2⟩ := (JJ_cur I.1 hk).2.2.2.2 1 (by decide)
    have om : lz_g fX11_managerOf [.ref 0, .int (zn k), .int 1] A = some (.inl (some (.int (zn g))), A) := by
      rw [← g2]
      exact kV_e (g_managerOf hA HR hk hfi (by decide))
    have ga : row A k 25 = 4 → fL_act [.ref 0, .int 1, .int 0, .int (zn k), .int 1, .int 1, .int (-1), .int 1] A = some (some (.int (-1273)), A) := fun h => xa_apply (kX_e (g_applyX hA HR hk (m := 0) (by decide) hfi (by decide) h (-1) _)) rfl
    have hmo : ∃ mo, mo < 4 ∧ ¬ row A k (11 + 1) = zn mo ∧ ((g = 0 ∧ mo = 1) ∨ (¬ g = 0 ∧ mo = 0)) := by
      by_cases z : g = 0
      · exact ⟨1, by decide, by rw [g2, z]; decide, Or.inl ⟨z, rfl⟩⟩
      · exact ⟨0, by decide, by rw [g2]; exact fun y => z ((zn_inj (a := g) (b := 0) (by omega) (by decide)).mp y), Or.inr ⟨z, rfl⟩⟩
    obtain ⟨mo, mo1, mo2, mo3⟩ := hmo
    obtain ⟨k1, k2, k3, k4, k5, k6⟩ := rf_k H hk (fi := 1) (ot := 7) (mo := mo) (B := 10) (W := zn (v + 1) + zn r) (D := (4 : Int32)) hF hfi (by decide) hno (by decide) (by decide) hW mo1 mo2 hD
    have k1 : fL_act [.ref 0, .int 1, .int F, .int (zn k), .int 1, .int 0, .int (-1), .int 1] A = some (some (.int (-1272)), A) := k1
    have k2 : fL_act [.ref 0, .int 1, .int 0, .int (zn k), .int 7, .int 0, .int (-1), .int 1] A = some (some (.int (-1272)), A) := k2
    have k3 : fL_act [.ref 0, .int 1, .int 0, .int (zn k), .int 1, .int 10, .int (-1), .int 1] A = some (some (.int (-1272)), A) := k3
    have k4 : fL_act [.ref 0, .int 1, .int 0, .int (zn k), .int 1, .int 0, .int (zn (v + 1) + zn r), .int 1] A = some (some (.int (-1273)), A) := k4
    have k5 : fL_act [.ref 0, .int 1, .int (zn mo), .int (zn k), .int 1, .int 0, .int (-1), .int 0] A = some (some (.int (-1273)), A) := k5
    have q7 := fn2 c2
    have q8 := fb4 c4
    have q9 : fL_act [.ref 0, .int 2, .int 0, .int (zn k), .int 30, .int 1, .int 0, .int 0] A = some (some (.int (-1272)), A) := xa_applyBudget (kX_e (b_applyBudget hA HR hk (m := 0) (by decide) c0 (Or.inr ⟨30, rfl, by decide, Or.inl (by decide)⟩) _)) rfl
    have q10 : fL_act [.ref 0, .int 2, .int 0, .int (zn k), .int 3, .int 1, .int 0, .int 0] A = some (some (.int (-1272)), A) := xa_applyBudget (kX_e (b_applyBudget hA HR hk (m := 0) (by decide) c0 (Or.inr ⟨3, rfl, by decide, Or.inr (by decide)⟩) _)) rfl
    have q11 : fL_act [.ref 0, .int 2, .int 0, .int (zn k), .int 0, .int 1, .int 0, .int 0] A = some (some (.int (-1273)), A) := xa_applyBudget (kX_e (z_applyBudget H hk (m := 0) (by decide) c0)) rfl
    have q12 : fL_act [.ref 0, .int 17, .int (zn k), .int 10, .int 0, .int 0, .int 0, .int 0] A = some (some (.int (-1272)), A) := xa_wish (kX_e (v_wish hA HR hk c0 (by decide) (by decide))) rfl
    have dg : (zn g = 0) = (g = 0) := zn_inj (a := g) (b := 0) (by omega) (by decide)
    by_cases q0 : q = 0
    · have gq : (zn q = 0) = True := (zn_inj (a := q) (b := 0) (by omega) (by decide)).trans (eq_true q0)
      have g4 : (zn q < 4) = True := zn_lt (a := q) (b := 4) (by omega) (by decide) ▸ eq_true (by omega)
      refine ⟨n + 1 + 1 + 1 + 1 + 1 + 1 + 1 + 1 + 1 + 1 + 1 + 1, some (.int 0), some (.int 1), some (.int (zn mo)), by omega, ?_⟩
      clear dl hl fn2 fb4 fu fw ga HR I H hW L gF hD
      rcases mo3 with ⟨g0, rfl⟩ | ⟨g0, rfl⟩
      · rw [eq_true g0] at dg
        simp only [zl_1] at k5 ⊢
        clear g0
        (rw [e_L_isRefused_841]; simp (decide := true) only [e_L_isRefused_p0, e_L_isRefused_p1, e_L_isRefused_p2, e_L_isRefused_p3, e_L_isRefused_p4, e_L_isRefused_p5, lo_iload, lo_lload, lo_aload, lo_istore, lo_lstore, lo_iinc, lo_pushI, lo_pushL, lo_ii, lo_iid, lo_ll, lo_li, lo_lcmp, lo_i2l, lo_dup2, lo_goto, lo_if, lo_icmp, lq_iret_f, lq_iret_1, lq_iret_0, lq_iret_b, lq_lret, lq_bs, lq_bv, lq_bhv, lq_bhx, q_c8_0, q_c8_1, q_c8_2, q_c8_3, q_c8_4, q_set_0, q_set_1i, q_set_1r, q_set_1n, q_set_1N, q_set_s, q_set_1j, q_set_1l, q_set2_0, q_set2_1i, q_set2_1r, q_set2_1n, q_set2_s, q_if, zb_ite, cond_true, cond_false, List.getElem?_cons_zero, List.getElem?_cons_succ, Nat.reduceAdd, c0, l, f0, f1, f2, f3, f4, f5, f6, f7, f8, f9, f10, f11, f12, f13, f14, f15, c8_6, o0, o1, o2, o3, om, m30, m3, dg, gq, g4, k1, k2, k3, k4, k5, k6, q7, q8, q9, q10, q11, q12, Int32.reduceLT, Int32.reduceLE, Nat.reduceLeDiff, Nat.zero_le, Nat.le_refl, Nat.zero_add, if_true, if_false, zb_eq0, zb_eq1, zn_1, not_true_eq_false, not_false_eq_true, ite_true, ite_false, if_true, if_false, q_iret_0, q_iret_1, decide_true, decide_false, decide_not, zb_t, zb_f, z10, z01, cond_true, cond_false, Bool.and_true, Bool.true_and, Bool.and_false, Bool.false_and, Bool.not_true, Bool.not_false, true_and, and_true, false_and, and_false, true_or, or_true, false_or, or_false, Bool.true_eq_false, Bool.false_eq_true, eq_self, reduceCtorEq, Bool.or_true, Bool.true_or, Bool.or_false, Bool.false_or])
      · rw [eq_false g0] at dg
        simp only [zl_0] at k5 ⊢
        clear g0
        (rw [e_L_isRefused_841]; simp (decide := true) only [e_L_isRefused_p0, e_L_isRefused_p1, e_L_isRefused_p2, e_L_isRefused_p3, e_L_isRefused_p4, e_L_isRefused_p5, lo_iload, lo_lload, lo_aload, lo_istore, lo_lstore, lo_iinc, lo_pushI, lo_pushL, lo_ii, lo_iid, lo_ll, lo_li, lo_lcmp, lo_i2l, lo_dup2, lo_goto, lo_if, lo_icmp, lq_iret_f, lq_iret_1, lq_iret_0, lq_iret_b, lq_lret, lq_bs, lq_bv, lq_bhv, lq_bhx, q_c8_0, q_c8_1, q_c8_2, q_c8_3, q_c8_4, q_set_0, q_set_1i, q_set_1r, q_set_1n, q_set_1N, q_set_s, q_set_1j, q_set_1l, q_set2_0, q_set2_1i, q_set2_1r, q_set2_1n, q_set2_s, q_if, zb_ite, cond_true, cond_false, List.getElem?_cons_zero, List.getElem?_cons_succ, Nat.reduceAdd, c0, l, f0, f1, f2, f3, f4, f5, f6, f7, f8, f9, f10, f11, f12, f13, f14, f15, c8_6, o0, o1, o2, o3, om, m30, m3, dg, gq, g4, k1, k2, k3, k4, k5, k6, q7, q8, q9, q10, q11, q12, Int32.reduceLT, Int32.reduceLE, Nat.reduceLeDiff, Nat.zero_le, Nat.le_refl, Nat.zero_add, if_true, if_false, zb_eq0, zb_eq1, zn_1, not_true_eq_false, not_false_eq_true, ite_true, ite_false, if_true, if_false, q_iret_0, q_iret_1, decide_true, decide_false, decide_not, zb_t, zb_f, z10, z01, cond_true, cond_false, Bool.and_true, Bool.true_and, Bool.and_false, Bool.false_and, Bool.not_true, Bool.not_false, true_and, and_true, false_and, and_false, true_or, or_true, false_or, or_false, Bool.true_eq_false, Bool.false_eq_true, eq_self, reduceCtorEq, Bool.or_true, Bool.true_or, Bool.or_false, Bool.false_or])
    by_cases q4 : q = 4
    · have gq : (zn q = 0) = False := (zn_inj (a := q) (b := 0) (by omega) (by decide)).trans (eq_false q0)
      have g4 : (zn q < 4) = False := zn_lt (a := q) (b := 4) (by omega) (by decide) ▸ eq_false (by omega)
      have h15 := dl (fun z => q0 ((zn_inj (a := q) (b := 0) (by omega) (by decide)).mp (q2.symm.trans z)))
      have h16 := hl (by rw [q2, q4]; rfl)
      have h17 := ga (by rw [q2, q4]; rfl)
      refine ⟨n + 1 + 1 + 1 + 1 + 1 + 1 + 1 + 1 + 1 + 1 + 1 + 1 + 1 + 1 + 1, some (.int 0), some (.int 1), some (.int (zn mo)), by omega, ?_⟩
      clear dl hl fn2 fb4 fu fw ga HR I H hW L gF hD
      rcases mo3 with ⟨g0, rfl⟩ | ⟨g0, rfl⟩
      · rw [eq_true g0] at dg
        simp only [zl_1] at k5 ⊢
        clear g0
        (rw [e_L_isRefused_841]; simp (decide := true) only [e_L_isRefused_p0, e_L_isRefused_p1, e_L_isRefused_p2, e_L_isRefused_p3, e_L_isRefused_p4, e_L_isRefused_p5, lo_iload, lo_lload, lo_aload, lo_istore, lo_lstore, lo_iinc, lo_pushI, lo_pushL, lo_ii, lo_iid, lo_ll, lo_li, lo_lcmp, lo_i2l, lo_dup2, lo_goto, lo_if, lo_icmp, lq_iret_f, lq_iret_1, lq_iret_0, lq_iret_b, lq_lret, lq_bs, lq_bv, lq_bhv, lq_bhx, q_c8_0, q_c8_1, q_c8_2, q_c8_3, q_c8_4, q_set_0, q_set_1i, q_set_1r, q_set_1n, q_set_1N, q_set_s, q_set_1j, q_set_1l, q_set2_0, q_set2_1i, q_set2_1r, q_set2_1n, q_set2_s, q_if, zb_ite, cond_true, cond_false, List.getElem?_cons_zero, List.getElem?_cons_succ, Nat.reduceAdd, c0, l, f0, f1, f2, f3, f4, f5, f6, f7, f8, f9, f10, f11, f12, f13, f14, f15, c8_6, o0, o1, o2, o3, om, m30, m3, dg, gq, g4, h15, h16, h17, k1, k2, k3, k4, k5, k6, q7, q8, q9, q10, q11, q12, Int32.reduceLT, Int32.reduceLE, Nat.reduceLeDiff, Nat.zero_le, Nat.le_refl, Nat.zero_add, if_true, if_false, zb_eq0, zb_eq1, zn_1, not_true_eq_false, not_false_eq_true, ite_true, ite_false, if_true, if_false, q_iret_0, q_iret_1, decide_true, decide_false, decide_not, zb_t, zb_f, z10, z01, cond_true, cond_false, Bool.and_true, Bool.true_and, Bool.and_false, Bool.false_and, Bool.not_true, Bool.not_false, true_and, and_true, false_and, and_false, true_or, or_true, false_or, or_false, Bool.true_eq_false, Bool.false_eq_true, eq_self, reduceCtorEq, Bool.or_true, Bool.true_or, Bool.or_false, Bool.false_or])
      · rw [eq_false g0] at dg
        simp only [zl_0] at k5 ⊢
        clear g0
        (rw [e_L_isRefused_841]; simp (decide := true) only [e_L_isRefused_p0, e_L_isRefused_p1, e_L_isRefused_p2, e_L_isRefused_p3, e_L_isRefused_p4, e_L_isRefused_p5, lo_iload, lo_lload, lo_aload, lo_istore, lo_lstore, lo_iinc, lo_pushI, lo_pushL, lo_ii, lo_iid, lo_ll, lo_li, lo_lcmp, lo_i2l, lo_dup2, lo_goto, lo_if, lo_icmp, lq_iret_f, lq_iret_1, lq_iret_0, lq_iret_b, lq_lret, lq_bs, lq_bv, lq_bhv, lq_bhx, q_c8_0, q_c8_1, q_c8_2, q_c8_3, q_c8_4, q_set_0, q_set_1i, q_set_1r, q_set_1n, q_set_1N, q_set_s, q_set_1j, q_set_1l, q_set2_0, q_set2_1i, q_set2_1r, q_set2_1n, q_set2_s, q_if, zb_ite, cond_true, cond_false, List.getElem?_cons_zero, List.getElem?_cons_succ, Nat.reduceAdd, c0, l, f0, f1, f2, f3, f4, f5, f6, f7, f8, f9, f10, f11, f12, f13, f14, f15, c8_6, o0, o1, o2, o3, om, m30, m3, dg, gq, g4, h15, h16, h17, k1, k2, k3, k4, k5, k6, q7, q8, q9, q10, q11, q12, Int32.reduceLT, Int32.reduceLE, Nat.reduceLeDiff, Nat.zero_le, Nat.le_refl, Nat.zero_add, if_true, if_false, zb_eq0, zb_eq1, zn_1, not_true_eq_false, not_false_eq_true, ite_true, ite_false, if_true, if_false, q_iret_0, q_iret_1, decide_true, decide_false, decide_not, zb_t, zb_f, z10, z01, cond_true, cond_false, Bool.and_true, Bool.true_and, Bool.and_false, Bool.false_and, Bool.not_true, Bool.not_false, true_and, and_true, false_and, and_false, true_or, or_true, false_or, or_false, Bool.true_eq_false, Bool.false_eq_true, eq_self, reduceCtorEq, Bool.or_true, Bool.true_or, Bool.or_false, Bool.false_or])
    have gq : (zn q = 0) = False := (zn_inj (a := q) (b := 0) (by omega) (by decide)).trans (eq_false q0)
    have g4 : (zn q < 4) = True := zn_lt (a := q) (b := 4) (by omega) (by decide) ▸ eq_true (by omega)
    have h15 := dl (fun z => q0 ((zn_inj (a := q) (b := 0) (by omega) (by decide)).mp (q2.symm.trans z)))
    refine ⟨n + 1 + 1 + 1 + 1 + 1 + 1 + 1 + 1 + 1 + 1 + 1 + 1 + 1, some (.int 0), some (.int 1), some (.int (zn mo)), by omega, ?_⟩
    clear dl hl fn2 fb4 fu fw ga HR I H hW L gF hD
    rcases mo3 with ⟨g0, rfl⟩ | ⟨g0, rfl⟩
    · rw [eq_true g0] at dg
      simp only [zl_1] at k5 ⊢
      clear g0
      (rw [e_L_isRefused_841]; simp (decide := true) only [e_L_isRefused_p0, e_L_isRefused_p1, e_L_isRefused_p2, e_L_isRefused_p3, e_L_isRefused_p4, e_L_isRefused_p5, lo_iload, lo_lload, lo_aload, lo_istore, lo_lstore, lo_iinc, lo_pushI, lo_pushL, lo_ii, lo_iid, lo_ll, lo_li, lo_lcmp, lo_i2l, lo_dup2, lo_goto, lo_if, lo_icmp, lq_iret_f, lq_iret_1, lq_iret_0, lq_iret_b, lq_lret, lq_bs, lq_bv, lq_bhv, lq_bhx, q_c8_0, q_c8_1, q_c8_2, q_c8_3, q_c8_4, q_set_0, q_set_1i, q_set_1r, q_set_1n, q_set_1N, q_set_s, q_set_1j, q_set_1l, q_set2_0, q_set2_1i, q_set2_1r, q_set2_1n, q_set2_s, q_if, zb_ite, cond_true, cond_false, List.getElem?_cons_zero, List.getElem?_cons_succ, Nat.reduceAdd, c0, l, f0, f1, f2, f3, f4, f5, f6, f7, f8, f9, f10, f11, f12, f13, f14, f15, c8_6, o0, o1, o2, o3, om, m30, m3, dg, gq, g4, h15, k1, k2, k3, k4, k5, k6, q7, q8, q9, q10, q11, q12, Int32.reduceLT, Int32.reduceLE, Nat.reduceLeDiff, Nat.zero_le, Nat.le_refl, Nat.zero_add, if_true, if_false, zb_eq0, zb_eq1, zn_1, not_true_eq_false, not_false_eq_true, ite_true, ite_false, if_true, if_false, q_iret_0, q_iret_1, decide_true, decide_false, decide_not, zb_t, zb_f, z10, z01, cond_true, cond_false, Bool.and_true, Bool.true_and, Bool.and_false, Bool.false_and, Bool.not_true, Bool.not_false, true_and, and_true, false_and, and_false, true_or, or_true, false_or, or_false, Bool.true_eq_false, Bool.false_eq_true, eq_self, reduceCtorEq, Bool.or_true, Bool.true_or, Bool.or_false, Bool.false_or])
    · rw [eq_false g0] at dg
      simp only [zl_0] at k5 ⊢
      clear g0
      (rw [e_L_isRefused_841]; simp (decide := true) only [e_L_isRefused_p0, e_L_isRefused_p1, e_L_isRefused_p2, e_L_isRefused_p3, e_L_isRefused_p4, e_L_isRefused_p5, lo_iload, lo_lload, lo_aload, lo_istore, lo_lstore, lo_iinc, lo_pushI, lo_pushL, lo_ii, lo_iid, lo_ll, lo_li, lo_lcmp, lo_i2l, lo_dup2, lo_goto, lo_if, lo_icmp, lq_iret_f, lq_iret_1, lq_iret_0, lq_iret_b, lq_lret, lq_bs, lq_bv, lq_bhv, lq_bhx, q_c8_0, q_c8_1, q_c8_2, q_c8_3, q_c8_4, q_set_0, q_set_1i, q_set_1r, q_set_1n, q_set_1N, q_set_s, q_set_1j, q_set_1l, q_set2_0, q_set2_1i, q_set2_1r, q_set2_1n, q_set2_s, q_if, zb_ite, cond_true, cond_false, List.getElem?_cons_zero, List.getElem?_cons_succ, Nat.reduceAdd, c0, l, f0, f1, f2, f3, f4, f5, f6, f7, f8, f9, f10, f11, f12, f13, f14, f15, c8_6, o0, o1, o2, o3, om, m30, m3, dg, gq, g4, h15, k1, k2, k3, k4, k5, k6, q7, q8, q9, q10, q11, q12, Int32.reduceLT, Int32.reduceLE, Nat.reduceLeDiff, Nat.zero_le, Nat.le_refl, Nat.zero_add, if_true, if_false, zb_eq0, zb_eq1, zn_1, not_true_eq_false, not_false_eq_true, ite_true, ite_false, if_true, if_false, q_iret_0, q_iret_1, decide_true, decide_false, decide_not, zb_t, zb_f, z10, z01, cond_true, cond_false, Bool.and_true, Bool.true_and, Bool.and_false, Bool.false_and, Bool.not_true, Bool.not_false, true_and, and_true, false_and, and_false, true_or, or_true, false_or, or_false, Bool.true_eq_false, Bool.false_eq_true, eq_self, reduceCtorEq, Bool.or_true, Bool.true_or, Bool.or_false, Bool.false_or])
  have ht4 : ¬ t = 4 := fun z => c4 (by rw [t2, z]; rfl)
  have hfi : hasF (row A k 23) (zn 1) = true := by rw [t2]; exact (has_k t1 ht4).1
  have hno : hasF (row A k 23) (zn 7) = false := by rw [t2]; exact (has_k t1 ht4).2
  obtain ⟨g, g1, g2⟩ := (JJ_cur I.1 hk).2.2.2.2 1 (by decide)
  have om : lz_g fX11_managerOf [.ref 0, .int (zn k), .int 1] A = some (.inl (some (.int (zn g))), A) := by
    rw [← g2]
    exact kV_e (g_managerOf hA HR hk hfi (by decide))
  have ga : row A k 25 = 4 → fL_act [.ref 0, .int 1, .int 0, .int (zn k), .int 1, .int 1, .int (-1), .int 1] A = some (some (.int (-1273)), A) := fun h => xa_apply (kX_e (g_applyX hA HR hk (m := 0) (by decide) hfi (by decide) h (-1) _)) rfl
  have hmo : ∃ mo, mo < 4 ∧ ¬ row A k (11 + 1) = zn mo ∧ ((g = 0 ∧ mo = 1) ∨ (¬ g = 0 ∧ mo = 0)) := by
    by_cases z : g = 0
    · exact ⟨1, by decide, by rw [g2, z]; decide, Or.inl ⟨z, rfl⟩⟩
    · exact ⟨0, by decide, by rw [g2]; exact fun y => z ((zn_inj (a := g) (b := 0) (by omega) (by decide)).mp y), Or.inr ⟨z, rfl⟩⟩
  obtain ⟨mo, mo1, mo2, mo3⟩ := hmo
  obtain ⟨k1, k2, k3, k4, k5, k6⟩ := rf_k H hk (fi := 1) (ot := 7) (mo := mo) (B := 10) (W := zn (v + 1) + zn r) (D := (4 : Int32)) hF hfi (by decide) hno (by decide) (by decide) hW mo1 mo2 hD
  have k1 : fL_act [.ref 0, .int 1, .int F, .int (zn k), .int 1, .int 0, .int (-1), .int 1] A = some (some (.int (-1272)), A) := k1
  have k2 : fL_act [.ref 0, .int 1, .int 0, .int (zn k), .int 7, .int 0, .int (-1), .int 1] A = some (some (.int (-1272)), A) := k2
  have k3 : fL_act [.ref 0, .int 1, .int 0, .int (zn k), .int 1, .int 10, .int (-1), .int 1] A = some (some (.int (-1272)), A) := k3
  have k4 : fL_act [.ref 0, .int 1, .int 0, .int (zn k), .int 1, .int 0, .int (zn (v + 1) + zn r), .int 1] A = some (some (.int (-1273)), A) := k4
  have k5 : fL_act [.ref 0, .int 1, .int (zn mo), .int (zn k), .int 1, .int 0, .int (-1), .int 0] A = some (some (.int (-1273)), A) := k5
  have q7 := fn2 c2
  have q8 := fb4 c4
  have q13 := fu c0
  have q14 := fw c0
  have dg : (zn g = 0) = (g = 0) := zn_inj (a := g) (b := 0) (by omega) (by decide)
  by_cases q0 : q = 0
  · have gq : (zn q = 0) = True := (zn_inj (a := q) (b := 0) (by omega) (by decide)).trans (eq_true q0)
    have g4 : (zn q < 4) = True := zn_lt (a := q) (b := 4) (by omega) (by decide) ▸ eq_true (by omega)
    refine ⟨n + 1 + 1 + 1 + 1 + 1 + 1 + 1 + 1 + 1 + 1, some (.int (row A k 23)), some (.int 1), some (.int (zn mo)), by omega, ?_⟩
    clear dl hl fn2 fb4 fu fw ga HR I H hW L gF hD
    rcases mo3 with ⟨g0, rfl⟩ | ⟨g0, rfl⟩
    · rw [eq_true g0] at dg
      simp only [zl_1] at k5 ⊢
      clear g0
      (rw [e_L_isRefused_841]; simp (decide := true) only [e_L_isRefused_p0, e_L_isRefused_p1, e_L_isRefused_p2, e_L_isRefused_p3, e_L_isRefused_p4, e_L_isRefused_p5, lo_iload, lo_lload, lo_aload, lo_istore, lo_lstore, lo_iinc, lo_pushI, lo_pushL, lo_ii, lo_iid, lo_ll, lo_li, lo_lcmp, lo_i2l, lo_dup2, lo_goto, lo_if, lo_icmp, lq_iret_f, lq_iret_1, lq_iret_0, lq_iret_b, lq_lret, lq_bs, lq_bv, lq_bhv, lq_bhx, q_c8_0, q_c8_1, q_c8_2, q_c8_3, q_c8_4, q_set_0, q_set_1i, q_set_1r, q_set_1n, q_set_1N, q_set_s, q_set_1j, q_set_1l, q_set2_0, q_set2_1i, q_set2_1r, q_set2_1n, q_set2_s, q_if, zb_ite, cond_true, cond_false, List.getElem?_cons_zero, List.getElem?_cons_succ, Nat.reduceAdd, c4, c2, c0, l, f0, f1, f2, f3, f4, f5, f6, f7, f8, f9, f10, f11, f12, f13, f14, f15, c8_6, o0, o1, o2, o3, om, m30, m3, dg, gq, g4, k1, k2, k3, k4, k5, k6, q7, q8, q13, q14, Int32.reduceLT, Int32.reduceLE, Nat.reduceLeDiff, Nat.zero_le, Nat.le_refl, Nat.zero_add, if_true, if_false, zb_eq0, zb_eq1, zn_1, not_true_eq_false, not_false_eq_true, ite_true, ite_false, if_true, if_false, q_iret_0, q_iret_1, decide_true, decide_false, decide_not, zb_t, zb_f, z10, z01, cond_true, cond_false, Bool.and_true, Bool.true_and, Bool.and_false, Bool.false_and, Bool.not_true, Bool.not_false, true_and, and_true, false_and, and_false, true_or, or_true, false_or, or_false, Bool.true_eq_false, Bool.false_eq_true, eq_self, reduceCtorEq, Bool.or_true, Bool.true_or, Bool.or_false, Bool.false_or])
    · rw [eq_false g0] at dg
      simp only [zl_0] at k5 ⊢
      clear g0
      (rw [e_L_isRefused_841]; simp (decide := true) only [e_L_isRefused_p0, e_L_isRefused_p1, e_L_isRefused_p2, e_L_isRefused_p3, e_L_isRefused_p4, e_L_isRefused_p5, lo_iload, lo_lload, lo_aload, lo_istore, lo_lstore, lo_iinc, lo_pushI, lo_pushL, lo_ii, lo_iid, lo_ll, lo_li, lo_lcmp, lo_i2l, lo_dup2, lo_goto, lo_if, lo_icmp, lq_iret_f, lq_iret_1, lq_iret_0, lq_iret_b, lq_lret, lq_bs, lq_bv, lq_bhv, lq_bhx, q_c8_0, q_c8_1, q_c8_2, q_c8_3, q_c8_4, q_set_0, q_set_1i, q_set_1r, q_set_1n, q_set_1N, q_set_s, q_set_1j, q_set_1l, q_set2_0, q_set2_1i, q_set2_1r, q_set2_1n, q_set2_s, q_if, zb_ite, cond_true, cond_false, List.getElem?_cons_zero, List.getElem?_cons_succ, Nat.reduceAdd, c4, c2, c0, l, f0, f1, f2, f3, f4, f5, f6, f7, f8, f9, f10, f11, f12, f13, f14, f15, c8_6, o0, o1, o2, o3, om, m30, m3, dg, gq, g4, k1, k2, k3, k4, k5, k6, q7, q8, q13, q14, Int32.reduceLT, Int32.reduceLE, Nat.reduceLeDiff, Nat.zero_le, Nat.le_refl, Nat.zero_add, if_true, if_false, zb_eq0, zb_eq1, zn_1, not_true_eq_false, not_false_eq_true, ite_true, ite_false, if_true, if_false, q_iret_0, q_iret_1, decide_true, decide_false, decide_not, zb_t, zb_f, z10, z01, cond_true, cond_false, Bool.and_true, Bool.true_and, Bool.and_false, Bool.false_and, Bool.not_true, Bool.not_false, true_and, and_true, false_and, and_false, true_or, or_true, false_or, or_false, Bool.true_eq_false, Bool.false_eq_true, eq_self, reduceCtorEq, Bool.or_true, Bool.true_or, Bool.or_false, Bool.false_or])
  by_cases q4 : q = 4
  · have gq : (zn q = 0) = False := (zn_inj (a := q) (b := 0) (by omega) (by decide)).trans (eq_false q0)
    have g4 : (zn q < 4) = False := zn_lt (a := q) (b := 4) (by omega) (by decide) ▸ eq_false (by omega)
    have h15 := dl (fun z => q0 ((zn_inj (a := q) (b := 0) (by omega) (by decide)).mp (q2.symm.trans z)))
    have h16 := hl (by rw [q2, q4]; rfl)
    have h17 := ga (by rw [q2, q4]; rfl)
    refine ⟨n + 1 + 1 + 1 + 1 + 1 + 1 + 1 + 1 + 1 + 1 + 1 + 1 + 1, some (.int (row A k 23)), some (.int 1), some (.int (zn mo)), by omega, ?_⟩
    clear dl hl fn2 fb4 fu fw ga HR I H hW L gF hD
    rcases mo3 with ⟨g0, rfl⟩ | ⟨g0, rfl⟩
    · rw [eq_true g0] at dg
      simp only [zl_1] at k5 ⊢
      clear g0
      (rw [e_L_isRefused_841]; simp (decide := true) only [e_L_isRefused_p0, e_L_isRefused_p1, e_L_isRefused_p2, e_L_isRefused_p3, e_L_isRefused_p4, e_L_isRefused_p5, lo_iload, lo_lload, lo_aload, lo_istore, lo_lstore, lo_iinc, lo_pushI, lo_pushL, lo_ii, lo_iid, lo_ll, lo_li, lo_lcmp, lo_i2l, lo_dup2, lo_goto, lo_if, lo_icmp, lq_iret_f, lq_iret_1, lq_iret_0, lq_iret_b, lq_lret, lq_bs, lq_bv, lq_bhv, lq_bhx, q_c8_0, q_c8_1, q_c8_2, q_c8_3, q_c8_4, q_set_0, q_set_1i, q_set_1r, q_set_1n, q_set_1N, q_set_s, q_set_1j, q_set_1l, q_set2_0, q_set2_1i, q_set2_1r, q_set2_1n, q_set2_s, q_if, zb_ite, cond_true, cond_false, List.getElem?_cons_zero, List.getElem?_cons_succ, Nat.reduceAdd, c4, c2, c0, l, f0, f1, f2, f3, f4, f5, f6, f7, f8, f9, f10, f11, f12, f13, f14, f15, c8_6, o0, o1, o2, o3, om, m30, m3, dg, gq, g4, h15, h16, h17, k1, k2, k3, k4, k5, k6, q7, q8, q13, q14, Int32.reduceLT, Int32.reduceLE, Nat.reduceLeDiff, Nat.zero_le, Nat.le_refl, Nat.zero_add, if_true, if_false, zb_eq0, zb_eq1, zn_1, not_true_eq_false, not_false_eq_true, ite_true, ite_false, if_true, if_false, q_iret_0, q_iret_1, decide_true, decide_false, decide_not, zb_t, zb_f, z10, z01, cond_true, cond_false, Bool.and_true, Bool.true_and, Bool.and_false, Bool.false_and, Bool.not_true, Bool.not_false, true_and, and_true, false_and, and_false, true_or, or_true, false_or, or_false, Bool.true_eq_false, Bool.false_eq_true, eq_self, reduceCtorEq, Bool.or_true, Bool.true_or, Bool.or_false, Bool.false_or])
    · rw [eq_false g0] at dg
      simp only [zl_0] at k5 ⊢
      clear g0
      (rw [e_L_isRefused_841]; simp (decide := true) only [e_L_isRefused_p0, e_L_isRefused_p1, e_L_isRefused_p2, e_L_isRefused_p3, e_L_isRefused_p4, e_L_isRefused_p5, lo_iload, lo_lload, lo_aload, lo_istore, lo_lstore, lo_iinc, lo_pushI, lo_pushL, lo_ii, lo_iid, lo_ll, lo_li, lo_lcmp, lo_i2l, lo_dup2, lo_goto, lo_if, lo_icmp, lq_iret_f, lq_iret_1, lq_iret_0, lq_iret_b, lq_lret, lq_bs, lq_bv, lq_bhv, lq_bhx, q_c8_0, q_c8_1, q_c8_2, q_c8_3, q_c8_4, q_set_0, q_set_1i, q_set_1r, q_set_1n, q_set_1N, q_set_s, q_set_1j, q_set_1l, q_set2_0, q_set2_1i, q_set2_1r, q_set2_1n, q_set2_s, q_if, zb_ite, cond_true, cond_false, List.getElem?_cons_zero, List.getElem?_cons_succ, Nat.reduceAdd, c4, c2, c0, l, f0, f1, f2, f3, f4, f5, f6, f7, f8, f9, f10, f11, f12, f13, f14, f15, c8_6, o0, o1, o2, o3, om, m30, m3, dg, gq, g4, h15, h16, h17, k1, k2, k3, k4, k5, k6, q7, q8, q13, q14, Int32.reduceLT, Int32.reduceLE, Nat.reduceLeDiff, Nat.zero_le, Nat.le_refl, Nat.zero_add, if_true, if_false, zb_eq0, zb_eq1, zn_1, not_true_eq_false, not_false_eq_true, ite_true, ite_false, if_true, if_false, q_iret_0, q_iret_1, decide_true, decide_false, decide_not, zb_t, zb_f, z10, z01, cond_true, cond_false, Bool.and_true, Bool.true_and, Bool.and_false, Bool.false_and, Bool.not_true, Bool.not_false, true_and, and_true, false_and, and_false, true_or, or_true, false_or, or_false, Bool.true_eq_false, Bool.false_eq_true, eq_self, reduceCtorEq, Bool.or_true, Bool.true_or, Bool.or_false, Bool.false_or])
  have gq : (zn q = 0) = False := (zn_inj (a := q) (b := 0) (by omega) (by decide)).trans (eq_false q0)
  have g4 : (zn q < 4) = True := zn_lt (a := q) (b := 4) (by omega) (by decide) ▸ eq_true (by omega)
  have h15 := dl (fun z => q0 ((zn_inj (a := q) (b := 0) (by omega) (by decide)).mp (q2.symm.trans z)))
  refine ⟨n + 1 + 1 + 1 + 1 + 1 + 1 + 1 + 1 + 1 + 1 + 1, some (.int (row A k 23)), some (.int 1), some (.int (zn mo)), by omega, ?_⟩
  clear dl hl fn2 fb4 fu fw ga HR I H hW L gF hD
  rcases mo3 with ⟨g0, rfl⟩ | ⟨g0, rfl⟩
  · rw [eq_true g0] at dg
    simp only [zl_1] at k5 ⊢
    clear g0
    (rw [e_L_isRefused_841]; simp (decide := true) only [e_L_isRefused_p0, e_L_isRefused_p1, e_L_isRefused_p2, e_L_isRefused_p3, e_L_isRefused_p4, e_L_isRefused_p5, lo_iload, lo_lload, lo_aload, lo_istore, lo_lstore, lo_iinc, lo_pushI, lo_pushL, lo_ii, lo_iid, lo_ll, lo_li, lo_lcmp, lo_i2l, lo_dup2, lo_goto, lo_if, lo_icmp, lq_iret_f, lq_iret_1, lq_iret_0, lq_iret_b, lq_lret, lq_bs, lq_bv, lq_bhv, lq_bhx, q_c8_0, q_c8_1, q_c8_2, q_c8_3, q_c8_4, q_set_0, q_set_1i, q_set_1r, q_set_1n, q_set_1N, q_set_s, q_set_1j, q_set_1l, q_set2_0, q_set2_1i, q_set2_1r, q_set2_1n, q_set2_s, q_if, zb_ite, cond_true, cond_false, List.getElem?_cons_zero, List.getElem?_cons_succ, Nat.reduceAdd, c4, c2, c0, l, f0, f1, f2, f3, f4, f5, f6, f7, f8, f9, f10, f11, f12, f13, f14, f15, c8_6, o0, o1, o2, o3, om, m30, m3, dg, gq, g4, h15, k1, k2, k3, k4, k5, k6, q7, q8, q13, q14, Int32.reduceLT, Int32.reduceLE, Nat.reduceLeDiff, Nat.zero_le, Nat.le_refl, Nat.zero_add, if_true, if_false, zb_eq0, zb_eq1, zn_1, not_true_eq_false, not_false_eq_true, ite_true, ite_false, if_true, if_false, q_iret_0, q_iret_1, decide_true, decide_false, decide_not, zb_t, zb_f, z10, z01, cond_true, cond_false, Bool.and_true, Bool.true_and, Bool.and_false, Bool.false_and, Bool.not_true, Bool.not_false, true_and, and_true, false_and, and_false, true_or, or_true, false_or, or_false, Bool.true_eq_false, Bool.false_eq_true, eq_self, reduceCtorEq, Bool.or_true, Bool.true_or, Bool.or_false, Bool.false_or])
  · rw [eq_false g0] at dg
    simp only [zl_0] at k5 ⊢
    clear g0
    (rw [e_L_isRefused_841]; simp (decide := true) only [e_L_isRefused_p0, e_L_isRefused_p1, e_L_isRefused_p2, e_L_isRefused_p3, e_L_isRefused_p4, e_L_isRefused_p5, lo_iload, lo_lload, lo_aload, lo_istore, lo_lstore, lo_iinc, lo_pushI, lo_pushL, lo_ii, lo_iid, lo_ll, lo_li, lo_lcmp, lo_i2l, lo_dup2, lo_goto, lo_if, lo_icmp, lq_iret_f, lq_iret_1, lq_iret_0, lq_iret_b, lq_lret, lq_bs, lq_bv, lq_bhv, lq_bhx, q_c8_0, q_c8_1, q_c8_2, q_c8_3, q_c8_4, q_set_0, q_set_1i, q_set_1r, q_set_1n, q_set_1N, q_set_s, q_set_1j, q_set_1l, q_set2_0, q_set2_1i, q_set2_1r, q_set2_1n, q_set2_s, q_if, zb_ite, cond_true, cond_false, List.getElem?_cons_zero, List.getElem?_cons_succ, Nat.reduceAdd, c4, c2, c0, l, f0, f1, f2, f3, f4, f5, f6, f7, f8, f9, f10, f11, f12, f13, f14, f15, c8_6, o0, o1, o2, o3, om, m30, m3, dg, gq, g4, h15, k1, k2, k3, k4, k5, k6, q7, q8, q13, q14, Int32.reduceLT, Int32.reduceLE, Nat.reduceLeDiff, Nat.zero_le, Nat.le_refl, Nat.zero_add, if_true, if_false, zb_eq0, zb_eq1, zn_1, not_true_eq_false, not_false_eq_true, ite_true, ite_false, if_true, if_false, q_iret_0, q_iret_1, decide_true, decide_false, decide_not, zb_t, zb_f, z10, z01, cond_true, cond_false, Bool.and_true, Bool.true_and, Bool.and_false, Bool.false_and, Bool.not_true, Bool.not_false, true_and, and_true, false_and, and_false, true_or, or_true, false_or, or_false, Bool.true_eq_false, Bool.false_eq_true, eq_self, reduceCtorEq, Bool.or_true, Bool.true_or, Bool.or_false, Bool.false_or])
end
end

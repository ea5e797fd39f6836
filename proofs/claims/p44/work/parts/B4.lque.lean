section
/-! keys come once, who has failed waits, and what is settled is said -/
section
variable {A B R : zzMd} {c : Nat}
theorem and0_L (z : Int64) (h : bit z 0 = false) : z &&& 1 = 0 := bit_ext fun i hi => by
  rw [bit_and]
  by_cases q : i = 0
  · rw [q, h]
    rfl
  · have k : ∀ i : Fin 64, i.1 ≠ 0 → bit 1 i.1 = false := by decide
    have k0 : ∀ i : Fin 64, bit 0 i.1 = false := by decide
    rw [k ⟨i, hi⟩ q, Bool.and_false]
    exact (k0 ⟨i, hi⟩).symm
theorem bit_set (x : Int64) {p : Nat} (hp : p < 60) {i : Nat} (hi : i < 60) : bit (x ||| (1 <<< ((zn p).toInt64 &&& 63))) i = (bit x i || decide (i = p)) := by
  rw [bit_or, bit_shl _ (by omega), decide_eq_true (show i < 64 by omega), Bool.true_and]
  by_cases h : i < p
  · rw [decide_eq_true h, decide_eq_false (show ¬ i = p by omega)]; rfl
  · rw [decide_eq_false h, bit_1]
    by_cases q : i = p
    · rw [decide_eq_true q, decide_eq_true (show i - p = 0 by omega)]; rfl
    · rw [decide_eq_false q, decide_eq_false (show ¬ i - p = 0 by omega)]; rfl
theorem zl_0 : zn 0 = 0 := rfl
theorem zl_1 : zn 1 = 1 := rfl
theorem zl_2 : zn 2 = 2 := rfl
theorem zl_3 : zn 3 = 3 := rfl
theorem zl_4 : zn 4 = 4 := rfl
theorem zl_5 : zn 5 = 5 := rfl
theorem zl_6 : zn 6 = 6 := rfl
theorem zl_7 : zn 7 = 7 := rfl
theorem okd_0 : okd 0 = 0 := rfl
theorem okd_1 : okd 1 = 1 := rfl
theorem okd_2 : okd 2 = 3 := rfl
theorem okd_3 : okd 3 = 2 := rfl
theorem okd_4 : okd 4 = 2 := rfl
theorem okd_6 : okd 6 = 5 := rfl
theorem okd_7 : okd 7 = 0 := rfl
theorem q_step (H : Iv A) (hc : c < 8) {p : Nat} (hp : p < qn A c) (al : Int32) (ks : Int64) (k7 k8 : Option Value) (t0 : (lg_cmp ((ks >>> ((zn (qk A c p)).toInt64 &&& 63)) &&& 1) 0 = 0) = True) : lz_ev tL_areQueues 22 [some (.ref 0), some (.int 1), some (.int al), some (.int (zn c)), some (.long ks), none, some (.int (zn p)), k7, k8] [] (A, 0) = lz_ev tL_areQueues 22 [some (.ref 0), some (.int 1), some (.int al), some (.int (zn c)), some (.long (ks ||| (1 <<< ((zn (qk A c p)).toInt64 &&& 63)))), none, some (.int (zn (p + 1))), some (.int (zn (qk A c p))), some (.int (row A (qk A c p) 23))] [] (A, 0) := by
  obtain ⟨hA, ⟨R, HR⟩, I⟩ := H
  have n60 := rl_n60 HR.1
  obtain ⟨h1, h2⟩ := q_kind I hc hp
  have nn : (zn (qk A c p) < 0) = False := zn_lt0 (by omega)
  have o0 := kV_e (g_queued hA HR hc hp)
  have o1 := kV_e (g_kindOf hA HR h1)
  generalize row A (qk A c p) 23 = kd at *
  generalize qk A c p = k at *
  clear hp h1 I HR hA
  rcases zc8 hc with rfl | rfl | rfl | rfl | rfl | rfl | rfl | rfl
  · have h2 := h2.resolve_left (by decide)
    rw [okd_0] at h2
    rw [h2] at o1 ⊢
    rw [zl_0] at o0 ⊢
    (rw [e_L_areQueues_22]; simp (decide := true) only [e_L_areQueues_p0, e_L_areQueues_p1, lo_iload, lo_lload, lo_aload, lo_istore, lo_lstore, lo_iinc, lo_pushI, lo_pushL, lo_ii, lo_iid, lo_ll, lo_li, lo_lcmp, lo_i2l, lo_dup2, lo_goto, lo_if, lo_icmp, lq_iret_f, lq_iret_1, lq_iret_0, lq_iret_b, lq_lret, lq_bs, lq_bv, lq_bhv, lq_bhx, q_c8_0, q_c8_1, q_c8_2, q_c8_3, q_c8_4, q_set_0, q_set_1i, q_set_1r, q_set_1n, q_set_1N, q_set_s, q_set_1j, q_set_1l, q_set2_0, q_set2_1i, q_set2_1r, q_set2_1n, q_set2_s, q_if, zb_ite, cond_true, cond_false, List.getElem?_cons_zero, List.getElem?_cons_succ, Nat.reduceAdd, o0, o1, t0, nn, Int32.reduceLT, Int32.reduceLE, Nat.reduceLeDiff, Nat.zero_le, Nat.le_refl, Nat.zero_add, if_true, if_false, zb_eq0, zb_eq1, zn_1, not_true_eq_false, not_false_eq_true, ite_true, ite_false, if_true, if_false, q_iret_0, q_iret_1, decide_true, decide_false, decide_not, zb_t, zb_f, z10, z01, cond_true, cond_false, Bool.and_true, Bool.true_and, Bool.and_false, Bool.false_and, Bool.not_true, Bool.not_false, true_and, and_true, false_and, and_false, true_or, or_true, false_or, or_false, Bool.true_eq_false, Bool.false_eq_true, eq_self, reduceCtorEq, Bool.or_true, Bool.true_or, Bool.or_false, Bool.false_or])
  · have h2 := h2.resolve_left (by decide)
    rw [okd_1] at h2
    rw [h2] at o1 ⊢
    rw [zl_1] at o0 ⊢
    (rw [e_L_areQueues_22]; simp (decide := true) only [e_L_areQueues_p0, e_L_areQueues_p1, lo_iload, lo_lload, lo_aload, lo_istore, lo_lstore, lo_iinc, lo_pushI, lo_pushL, lo_ii, lo_iid, lo_ll, lo_li, lo_lcmp, lo_i2l, lo_dup2, lo_goto, lo_if, lo_icmp, lq_iret_f, lq_iret_1, lq_iret_0, lq_iret_b, lq_lret, lq_bs, lq_bv, lq_bhv, lq_bhx, q_c8_0, q_c8_1, q_c8_2, q_c8_3, q_c8_4, q_set_0, q_set_1i, q_set_1r, q_set_1n, q_set_1N, q_set_s, q_set_1j, q_set_1l, q_set2_0, q_set2_1i, q_set2_1r, q_set2_1n, q_set2_s, q_if, zb_ite, cond_true, cond_false, List.getElem?_cons_zero, List.getElem?_cons_succ, Nat.reduceAdd, o0, o1, t0, nn, Int32.reduceLT, Int32.reduceLE, Nat.reduceLeDiff, Nat.zero_le, Nat.le_refl, Nat.zero_add, if_true, if_false, zb_eq0, zb_eq1, zn_1, not_true_eq_false, not_false_eq_true, ite_true, ite_false, if_true, if_false, q_iret_0, q_iret_1, decide_true, decide_false, decide_not, zb_t, zb_f, z10, z01, cond_true, cond_false, Bool.and_true, Bool.true_and, Bool.and_false, Bool.false_and, Bool.not_true, Bool.not_false, true_and, and_true, false_and, and_false, true_or, or_true, false_or, or_false, Bool.true_eq_false, Bool.false_eq_true, eq_self, reduceCtorEq, Bool.or_true, Bool.true_or, Bool.or_false, Bool.false_or])
  · have h2 := h2.resolve_left (by decide)
    rw [okd_2] at h2
    rw [h2] at o1 ⊢
    rw [zl_2] at o0 ⊢
    (rw [e_L_areQueues_22]; simp (decide := true) only [e_L_areQueues_p0, e_L_areQueues_p1, lo_iload, lo_lload, lo_aload, lo_istore, lo_lstore, lo_iinc, lo_pushI, lo_pushL, lo_ii, lo_iid, lo_ll, lo_li, lo_lcmp, lo_i2l, lo_dup2, lo_goto, lo_if, lo_icmp, lq_iret_f, lq_iret_1, lq_iret_0, lq_iret_b, lq_lret, lq_bs, lq_bv, lq_bhv, lq_bhx, q_c8_0, q_c8_1, q_c8_2, q_c8_3, q_c8_4, q_set_0, q_set_1i, q_set_1r, q_set_1n, q_set_1N, q_set_s, q_set_1j, q_set_1l, q_set2_0, q_set2_1i, q_set2_1r, q_set2_1n, q_set2_s, q_if, zb_ite, cond_true, cond_false, List.getElem?_cons_zero, List.getElem?_cons_succ, Nat.reduceAdd, o0, o1, t0, nn, Int32.reduceLT, Int32.reduceLE, Nat.reduceLeDiff, Nat.zero_le, Nat.le_refl, Nat.zero_add, if_true, if_false, zb_eq0, zb_eq1, zn_1, not_true_eq_false, not_false_eq_true, ite_true, ite_false, if_true, if_false, q_iret_0, q_iret_1, decide_true, decide_false, decide_not, zb_t, zb_f, z10, z01, cond_true, cond_false, Bool.and_true, Bool.true_and, Bool.and_false, Bool.false_and, Bool.not_true, Bool.not_false, true_and, and_true, false_and, and_false, true_or, or_true, false_or, or_false, Bool.true_eq_false, Bool.false_eq_true, eq_self, reduceCtorEq, Bool.or_true, Bool.true_or, Bool.or_false, Bool.false_or])
  · have h2 := h2.resolve_left (by decide)
    rw [okd_3] at h2
    rw [h2] at o1 ⊢
    rw [zl_3] at o0 ⊢
    (rw [e_L_areQueues_22]; simp (decide := true) only [e_L_areQueues_p0, e_L_areQueues_p1, lo_iload, lo_lload, lo_aload, lo_istore, lo_lstore, lo_iinc, lo_pushI, lo_pushL, lo_ii, lo_iid, lo_ll, lo_li, lo_lcmp, lo_i2l, lo_dup2, lo_goto, lo_if, lo_icmp, lq_iret_f, lq_iret_1, lq_iret_0, lq_iret_b, lq_lret, lq_bs, lq_bv, lq_bhv, lq_bhx, q_c8_0, q_c8_1, q_c8_2, q_c8_3, q_c8_4, q_set_0, q_set_1i, q_set_1r, q_set_1n, q_set_1N, q_set_s, q_set_1j, q_set_1l, q_set2_0, q_set2_1i, q_set2_1r, q_set2_1n, q_set2_s, q_if, zb_ite, cond_true, cond_false, List.getElem?_cons_zero, List.getElem?_cons_succ, Nat.reduceAdd, o0, o1, t0, nn, Int32.reduceLT, Int32.reduceLE, Nat.reduceLeDiff, Nat.zero_le, Nat.le_refl, Nat.zero_add, if_true, if_false, zb_eq0, zb_eq1, zn_1, not_true_eq_false, not_false_eq_true, ite_true, ite_false, if_true, if_false, q_iret_0, q_iret_1, decide_true, decide_false, decide_not, zb_t, zb_f, z10, z01, cond_true, cond_false, Bool.and_true, Bool.true_and, Bool.and_false, Bool.false_and, Bool.not_true, Bool.not_false, true_and, and_true, false_and, and_false, true_or, or_true, false_or, or_false, Bool.true_eq_false, Bool.false_eq_true, eq_self, reduceCtorEq, Bool.or_true, Bool.true_or, Bool.or_false, Bool.false_or])
  · have h2 := h2.resolve_left (by decide)
    rw [okd_4] at h2
    rw [h2] at o1 ⊢
    rw [zl_4] at o0 ⊢
    (rw [e_L_areQueues_22]; simp (decide := true) only [e_L_areQueues_p0, e_L_areQueues_p1, lo_iload, lo_lload, lo_aload, lo_istore, lo_lstore, lo_iinc, lo_pushI, lo_pushL, lo_ii, lo_iid, lo_ll, lo_li, lo_lcmp, lo_i2l, lo_dup2, lo_goto, lo_if, lo_icmp, lq_iret_f, lq_iret_1, lq_iret_0, lq_iret_b, lq_lret, lq_bs, lq_bv, lq_bhv, lq_bhx, q_c8_0, q_c8_1, q_c8_2, q_c8_3, q_c8_4, q_set_0, q_set_1i, q_set_1r, q_set_1n, q_set_1N, q_set_s, q_set_1j, q_set_1l, q_set2_0, q_set2_1i, q_set2_1r, q_set2_1n, q_set2_s, q_if, zb_ite, cond_true, cond_false, List.getElem?_cons_zero, List.getElem?_cons_succ, Nat.reduceAdd, o0, o1, t0, nn, Int32.reduceLT, Int32.reduceLE, Nat.reduceLeDiff, Nat.zero_le, Nat.le_refl, Nat.zero_add, if_true, if_false, zb_eq0, zb_eq1, zn_1, not_true_eq_false, not_false_eq_true, ite_true, ite_false, if_true, if_false, q_iret_0, q_iret_1, decide_true, decide_false, decide_not, zb_t, zb_f, z10, z01, cond_true, cond_false, Bool.and_true, Bool.true_and, Bool.and_false, Bool.false_and, Bool.not_true, Bool.not_false, true_and, and_true, false_and, and_false, true_or, or_true, false_or, or_false, Bool.true_eq_false, Bool.false_eq_true, eq_self, reduceCtorEq, Bool.or_true, Bool.true_or, Bool.or_false, Bool.false_or])
  · rw [zl_5] at o0 ⊢
    (rw [e_L_areQueues_22]; simp (decide := true) only [e_L_areQueues_p0, e_L_areQueues_p1, lo_iload, lo_lload, lo_aload, lo_istore, lo_lstore, lo_iinc, lo_pushI, lo_pushL, lo_ii, lo_iid, lo_ll, lo_li, lo_lcmp, lo_i2l, lo_dup2, lo_goto, lo_if, lo_icmp, lq_iret_f, lq_iret_1, lq_iret_0, lq_iret_b, lq_lret, lq_bs, lq_bv, lq_bhv, lq_bhx, q_c8_0, q_c8_1, q_c8_2, q_c8_3, q_c8_4, q_set_0, q_set_1i, q_set_1r, q_set_1n, q_set_1N, q_set_s, q_set_1j, q_set_1l, q_set2_0, q_set2_1i, q_set2_1r, q_set2_1n, q_set2_s, q_if, zb_ite, cond_true, cond_false, List.getElem?_cons_zero, List.getElem?_cons_succ, Nat.reduceAdd, o0, o1, t0, nn, Int32.reduceLT, Int32.reduceLE, Nat.reduceLeDiff, Nat.zero_le, Nat.le_refl, Nat.zero_add, if_true, if_false, zb_eq0, zb_eq1, zn_1, not_true_eq_false, not_false_eq_true, ite_true, ite_false, if_true, if_false, q_iret_0, q_iret_1, decide_true, decide_false, decide_not, zb_t, zb_f, z10, z01, cond_true, cond_false, Bool.and_true, Bool.true_and, Bool.and_false, Bool.false_and, Bool.not_true, Bool.not_false, true_and, and_true, false_and, and_false, true_or, or_true, false_or, or_false, Bool.true_eq_false, Bool.false_eq_true, eq_self, reduceCtorEq, Bool.or_true, Bool.true_or, Bool.or_false, Bool.false_or])
  · have h2 := h2.resolve_left (by decide)
    rw [okd_6] at h2
    rw [h2] at o1 ⊢
    rw [zl_6] at o0 ⊢
    (rw [e_L_areQueues_22]; simp (decide := true) only [e_L_areQueues_p0, e_L_areQueues_p1, lo_iload, lo_lload, lo_aload, lo_istore, lo_lstore, lo_iinc, lo_pushI, lo_pushL, lo_ii, lo_iid, lo_ll, lo_li, lo_lcmp, lo_i2l, lo_dup2, lo_goto, lo_if, lo_icmp, lq_iret_f, lq_iret_1, lq_iret_0, lq_iret_b, lq_lret, lq_bs, lq_bv, lq_bhv, lq_bhx, q_c8_0, q_c8_1, q_c8_2, q_c8_3, q_c8_4, q_set_0, q_set_1i, q_set_1r, q_set_1n, q_set_1N, q_set_s, q_set_1j, q_set_1l, q_set2_0, q_set2_1i, q_set2_1r, q_set2_1n, q_set2_s, q_if, zb_ite, cond_true, cond_false, List.getElem?_cons_zero, List.getElem?_cons_succ, Nat.reduceAdd, o0, o1, t0, nn, Int32.reduceLT, Int32.reduceLE, Nat.reduceLeDiff, Nat.zero_le, Nat.le_refl, Nat.zero_add, if_true, if_false, zb_eq0, zb_eq1, zn_1, not_true_eq_false, not_false_eq_true, ite_true, ite_false, if_true, if_false, q_iret_0, q_iret_1, decide_true, decide_false, decide_not, zb_t, zb_f, z10, z01, cond_true, cond_false, Bool.and_true, Bool.true_and, Bool.and_false, Bool.false_and, Bool.not_true, Bool.not_false, true_and, and_true, false_and, and_false, true_or, or_true, false_or, or_false, Bool.true_eq_false, Bool.false_eq_true, eq_self, reduceCtorEq, Bool.or_true, Bool.true_or, Bool.or_false, Bool.false_or])
  · have h2 := h2.resolve_left (by decide)
    rw [okd_7] at h2
    rw [h2] at o1 ⊢
    rw [zl_7] at o0 ⊢
    (rw [e_L_areQueues_22]; simp (decide := true) only [e_L_areQueues_p0, e_L_areQueues_p1, lo_iload, lo_lload, lo_aload, lo_istore, lo_lstore, lo_iinc, lo_pushI, lo_pushL, lo_ii, lo_iid, lo_ll, lo_li, lo_lcmp, lo_i2l, lo_dup2, lo_goto, lo_if, lo_icmp, lq_iret_f, lq_iret_1, lq_iret_0, lq_iret_b, lq_lret, lq_bs, lq_bv, lq_bhv, lq_bhx, q_c8_0, q_c8_1, q_c8_2, q_c8_3, q_c8_4, q_set_0, q_set_1i, q_set_1r, q_set_1n, q_set_1N, q_set_s, q_set_1j, q_set_1l, q_set2_0, q_set2_1i, q_set2_1r, q_set2_1n, q_set2_s, q_if, zb_ite, cond_true, cond_false, List.getElem?_cons_zero, List.getElem?_cons_succ, Nat.reduceAdd, o0, o1, t0, nn, Int32.reduceLT, Int32.reduceLE, Nat.reduceLeDiff, Nat.zero_le, Nat.le_refl, Nat.zero_add, if_true, if_false, zb_eq0, zb_eq1, zn_1, not_true_eq_false, not_false_eq_true, ite_true, ite_false, if_true, if_false, q_iret_0, q_iret_1, decide_true, decide_false, decide_not, zb_t, zb_f, z10, z01, cond_true, cond_false, Bool.and_true, Bool.true_and, Bool.and_false, Bool.false_and, Bool.not_true, Bool.not_false, true_and, and_true, false_and, and_false, true_or, or_true, false_or, or_false, Bool.true_eq_false, Bool.false_eq_true, eq_self, reduceCtorEq, Bool.or_true, Bool.true_or, Bool.or_false, Bool.false_or])
theorem q_22 (H : Iv A) (hc : c < 8) (al : Int32) (j7 j8 : Option Value) : ∀ p, p ≤ qn A c → ∃ ks j7' j8', lz_ev tL_areQueues 22 [some (.ref 0), some (.int 1), some (.int al), some (.int (zn c)), some (.long 0), none, some (.int 0), j7, j8] [] (A, 0) = lz_ev tL_areQueues 22 [some (.ref 0), some (.int 1), some (.int al), some (.int (zn c)), some (.long ks), none, some (.int (zn p)), j7', j8'] [] (A, 0) ∧ ∀ i, i < 60 → (bit ks i = true ↔ ∃ q, q < p ∧ qk A c q = i) := by
  intro p
  induction p with
  | zero =>
    refine fun _ => ⟨0, j7, j8, rfl, fun i hi => ⟨fun h => ?_, fun ⟨q, h, _⟩ => absurd h (Nat.not_lt_zero _)⟩⟩
    have k0 : ∀ i : Fin 60, bit 0 i.1 = false := by decide
    rw [k0 ⟨i, hi⟩] at h
    cases h
  | succ p ih =>
    intro hp
    obtain ⟨ks, k7, k8, e, hb⟩ := ih (by omega)
    have H' := H
    obtain ⟨hA, ⟨R, HR⟩, I⟩ := H'
    have Q := QI_of HR.1 hc
    have n60 := Q.1.2
    have h1 := (q_kind I hc (p := p) (by omega)).1
    have k60 : qk A c p < 60 := Q.2.1 p (by omega)
    have o0 := kV_e (g_queued hA HR hc (p := p) (by omega))
    have o1 := kV_e (g_kindOf hA HR h1)
    have nb : bit ks (qk A c p) = false := by
      cases hh : bit ks (qk A c p)
      · rfl
      · obtain ⟨q, q1, q2⟩ := (hb _ k60).mp hh
        have := Q.2.2.1 q p (by omega) (by omega) q2
        omega
    have t0 : (lg_cmp ((ks >>> ((zn (qk A c p)).toInt64 &&& 63)) &&& 1) 0 = 0) = True := by
      rw [lc_0]
      refine eq_true (and0_L _ ?_)
      rw [bit_shr _ (by omega)]; exact nb
    have nn : (zn (qk A c p) < 0) = False := zn_lt0 (by omega)
    refine ⟨ks ||| (1 <<< ((zn (qk A c p)).toInt64 &&& 63)), some (.int (zn (qk A c p))), some (.int (row A (qk A c p) 23)), e.trans ?_, fun i hi => ?_⟩
    · exact q_step H hc (by omega) al ks k7 k8 t0
    · rw [bit_set ks k60 hi, Bool.or_eq_true_iff, hb i hi, decide_eq_true_eq]
      constructor
      · rintro (⟨q, q1, q2⟩ | h)
        · exact ⟨q, by omega, q2⟩
        · exact ⟨p, by omega, h.symm⟩
      · rintro ⟨q, q1, q2⟩
        by_cases h : q = p
        · exact Or.inr (by rw [← q2, h])
        · exact Or.inl ⟨q, by omega, q2⟩
theorem q_148 (H : Iv A) (hc : c < 8) (b : Bool) (ks : Int64) (j7 j8 : Option Value) : lz_ev tL_areQueues 148 [some (.ref 0), some (.int 1), some (.int (zb b)), some (.int (zn c)), some (.long ks), none, some (.int (zn (qn A c))), j7, j8] [] (A, 0) = lz_ev tL_areQueues 221 [some (.ref 0), some (.int 1), some (.int (zb (b && stc A c))), some (.int (zn c)), some (.long ks), none, some (.int (zn (qn A c))), some (.int 0), j8] [] (A, 0) := by
  obtain ⟨hA, ⟨R, HR⟩, I⟩ := H
  have n60 := (QI_of HR.1 hc).1.2
  have v4 := (Lg_n60 I.1.1).2.1
  have vl := (I.1.1.2.2.2.2.2 c hc).1
  have o1 := kV_e (g_seen hA HR hc)
  have o2 := kV_e (g_version hA HR)
  have o3 := kV_e (g_queuedN hA HR hc (p := qn A c + 1) (by omega) (by omega))
  have l1 : (zn (ve A (3 + c)) < 0) = False := zn_lt0 (by omega)
  have l2 : (zn (ve A 1) < zn (ve A (3 + c))) = False := zn_lt (a := ve A 1) (b := ve A (3 + c)) (by omega) (by omega) ▸ eq_false (by omega)
  have s2 : ∀ al : Int32, lz_ev tL_areQueues 174 [some (.ref 0), some (.int 1), some (.int (zb b)), some (.int (zn c)), some (.long ks), none, some (.int (zn (qn A c))), j7, j8] [.int al] (A, 0) = lz_ev tL_areQueues 221 [some (.ref 0), some (.int 1), some (.int al), some (.int (zn c)), some (.long ks), none, some (.int (zn (qn A c))), some (.int 0), j8] [] (A, 0) := fun al => by
    (simp (decide := true) only [e_L_areQueues_p0, e_L_areQueues_p1, lo_iload, lo_lload, lo_aload, lo_istore, lo_lstore, lo_iinc, lo_pushI, lo_pushL, lo_ii, lo_iid, lo_ll, lo_li, lo_lcmp, lo_i2l, lo_dup2, lo_goto, lo_if, lo_icmp, lq_iret_f, lq_iret_1, lq_iret_0, lq_iret_b, lq_lret, lq_bs, lq_bv, lq_bhv, lq_bhx, q_c8_0, q_c8_1, q_c8_2, q_c8_3, q_c8_4, q_set_0, q_set_1i, q_set_1r, q_set_1n, q_set_1N, q_set_s, q_set_1j, q_set_1l, q_set2_0, q_set2_1i, q_set2_1r, q_set2_1n, q_set2_s, q_if, zb_ite, cond_true, cond_false, List.getElem?_cons_zero, List.getElem?_cons_succ, Nat.reduceAdd, o1, o2, o3, l1, l2, Int32.reduceLT, Int32.reduceLE, Nat.reduceLeDiff, Nat.zero_le, Nat.le_refl, Nat.zero_add, if_true, if_false, zb_eq0, zb_eq1, zn_1, not_true_eq_false, not_false_eq_true, ite_true, ite_false, if_true, if_false, q_iret_0, q_iret_1, decide_true, decide_false, decide_not, zb_t, zb_f, z10, z01, cond_true, cond_false, Bool.and_true, Bool.true_and, Bool.and_false, Bool.false_and, Bool.not_true, Bool.not_false, true_and, and_true, false_and, and_false, true_or, or_true, false_or, or_false, Bool.true_eq_false, Bool.false_eq_true, eq_self, reduceCtorEq, Bool.or_true, Bool.true_or, Bool.or_false, Bool.false_or])
  refine Eq.trans ?_ (s2 _)
  unfold stc
  have d1 : (zn (qn A c) = 0) = (qn A c = 0) := zn_inj (a := qn A c) (b := 0) (by omega) (by decide)
  have d2 : (zn (ve A (3 + c)) = zn (ve A 1)) = (ve A (3 + c) = ve A 1) := zn_inj (a := ve A (3 + c)) (b := ve A 1) (by omega) (by omega)
  clear s2 o3 l1 l2
  generalize ve A (3 + c) = v at *
  generalize qn A c = q at *
  have hZ : ∀ (x : Int32), lz_ev tL_areQueues 174 [some (.ref 0), some (.int 1), some (.int (zb b)), some (.int (zn c)), some (.long ks), none, some (.int (zn q)), j7, j8] [.int x] (A, 0) = lz_ev tL_areQueues 174 [some (.ref 0), some (.int 1), some (.int (zb b)), some (.int (zn c)), some (.long ks), none, some (.int (zn q)), j7, j8] [.int x] (A, 0) := fun _ => rfl
  generalize hF : (fun x : Int32 => lz_ev tL_areQueues 174 [some (.ref 0), some (.int 1), some (.int (zb b)), some (.int (zn c)), some (.long ks), none, some (.int (zn q)), j7, j8] [.int x] (A, 0)) = F
  have hF' : ∀ x : Int32, lz_ev tL_areQueues 174 [some (.ref 0), some (.int 1), some (.int (zb b)), some (.int (zn c)), some (.long ks), none, some (.int (zn q)), j7, j8] [.int x] (A, 0) = F x := fun x => congrFun hF x
  clear hZ hF
  rw [hF']
  cases b
  · simp only [zb_f] at hF' ⊢
    (simp (decide := true) only [e_L_areQueues_p0, e_L_areQueues_p1, lo_iload, lo_lload, lo_aload, lo_istore, lo_lstore, lo_iinc, lo_pushI, lo_pushL, lo_ii, lo_iid, lo_ll, lo_li, lo_lcmp, lo_i2l, lo_dup2, lo_goto, lo_if, lo_icmp, lq_iret_f, lq_iret_1, lq_iret_0, lq_iret_b, lq_lret, lq_bs, lq_bv, lq_bhv, lq_bhx, q_c8_0, q_c8_1, q_c8_2, q_c8_3, q_c8_4, q_set_0, q_set_1i, q_set_1r, q_set_1n, q_set_1N, q_set_s, q_set_1j, q_set_1l, q_set2_0, q_set2_1i, q_set2_1r, q_set2_1n, q_set2_s, q_if, zb_ite, cond_true, cond_false, List.getElem?_cons_zero, List.getElem?_cons_succ, Nat.reduceAdd, ↓hF', Int32.reduceLT, Int32.reduceLE, Nat.reduceLeDiff, Nat.zero_le, Nat.le_refl, Nat.zero_add, if_true, if_false, zb_eq0, zb_eq1, zn_1, not_true_eq_false, not_false_eq_true, ite_true, ite_false, if_true, if_false, q_iret_0, q_iret_1, decide_true, decide_false, decide_not, zb_t, zb_f, z10, z01, cond_true, cond_false, Bool.and_true, Bool.true_and, Bool.and_false, Bool.false_and, Bool.not_true, Bool.not_false, true_and, and_true, false_and, and_false, true_or, or_true, false_or, or_false, Bool.true_eq_false, Bool.false_eq_true, eq_self, reduceCtorEq, Bool.or_true, Bool.true_or, Bool.or_false, Bool.false_or])
  · simp only [zb_t] at hF' ⊢
    by_cases h1 : q = 0
    · rw [eq_true h1] at d1
      by_cases h2 : v = ve A 1
      · rw [eq_true h2] at d2
        rw [decide_eq_true h1, decide_eq_true h2]
        clear h1 h2
        (simp (decide := true) only [e_L_areQueues_p0, e_L_areQueues_p1, lo_iload, lo_lload, lo_aload, lo_istore, lo_lstore, lo_iinc, lo_pushI, lo_pushL, lo_ii, lo_iid, lo_ll, lo_li, lo_lcmp, lo_i2l, lo_dup2, lo_goto, lo_if, lo_icmp, lq_iret_f, lq_iret_1, lq_iret_0, lq_iret_b, lq_lret, lq_bs, lq_bv, lq_bhv, lq_bhx, q_c8_0, q_c8_1, q_c8_2, q_c8_3, q_c8_4, q_set_0, q_set_1i, q_set_1r, q_set_1n, q_set_1N, q_set_s, q_set_1j, q_set_1l, q_set2_0, q_set2_1i, q_set2_1r, q_set2_1n, q_set2_s, q_if, zb_ite, cond_true, cond_false, List.getElem?_cons_zero, List.getElem?_cons_succ, Nat.reduceAdd, ↓hF', d1, d2, o1, o2, Int32.reduceLT, Int32.reduceLE, Nat.reduceLeDiff, Nat.zero_le, Nat.le_refl, Nat.zero_add, if_true, if_false, zb_eq0, zb_eq1, zn_1, not_true_eq_false, not_false_eq_true, ite_true, ite_false, if_true, if_false, q_iret_0, q_iret_1, decide_true, decide_false, decide_not, zb_t, zb_f, z10, z01, cond_true, cond_false, Bool.and_true, Bool.true_and, Bool.and_false, Bool.false_and, Bool.not_true, Bool.not_false, true_and, and_true, false_and, and_false, true_or, or_true, false_or, or_false, Bool.true_eq_false, Bool.false_eq_true, eq_self, reduceCtorEq, Bool.or_true, Bool.true_or, Bool.or_false, Bool.false_or])
      · rw [eq_false h2] at d2
        rw [decide_eq_true h1, decide_eq_false h2]
        clear h1 h2
        (simp (decide := true) only [e_L_areQueues_p0, e_L_areQueues_p1, lo_iload, lo_lload, lo_aload, lo_istore, lo_lstore, lo_iinc, lo_pushI, lo_pushL, lo_ii, lo_iid, lo_ll, lo_li, lo_lcmp, lo_i2l, lo_dup2, lo_goto, lo_if, lo_icmp, lq_iret_f, lq_iret_1, lq_iret_0, lq_iret_b, lq_lret, lq_bs, lq_bv, lq_bhv, lq_bhx, q_c8_0, q_c8_1, q_c8_2, q_c8_3, q_c8_4, q_set_0, q_set_1i, q_set_1r, q_set_1n, q_set_1N, q_set_s, q_set_1j, q_set_1l, q_set2_0, q_set2_1i, q_set2_1r, q_set2_1n, q_set2_s, q_if, zb_ite, cond_true, cond_false, List.getElem?_cons_zero, List.getElem?_cons_succ, Nat.reduceAdd, ↓hF', d1, d2, o1, o2, Int32.reduceLT, Int32.reduceLE, Nat.reduceLeDiff, Nat.zero_le, Nat.le_refl, Nat.zero_add, if_true, if_false, zb_eq0, zb_eq1, zn_1, not_true_eq_false, not_false_eq_true, ite_true, ite_false, if_true, if_false, q_iret_0, q_iret_1, decide_true, decide_false, decide_not, zb_t, zb_f, z10, z01, cond_true, cond_false, Bool.and_true, Bool.true_and, Bool.and_false, Bool.false_and, Bool.not_true, Bool.not_false, true_and, and_true, false_and, and_false, true_or, or_true, false_or, or_false, Bool.true_eq_false, Bool.false_eq_true, eq_self, reduceCtorEq, Bool.or_true, Bool.true_or, Bool.or_false, Bool.false_or])
    · rw [eq_false h1] at d1
      rw [decide_eq_false h1]
      clear h1
      (simp (decide := true) only [e_L_areQueues_p0, e_L_areQueues_p1, lo_iload, lo_lload, lo_aload, lo_istore, lo_lstore, lo_iinc, lo_pushI, lo_pushL, lo_ii, lo_iid, lo_ll, lo_li, lo_lcmp, lo_i2l, lo_dup2, lo_goto, lo_if, lo_icmp, lq_iret_f, lq_iret_1, lq_iret_0, lq_iret_b, lq_lret, lq_bs, lq_bv, lq_bhv, lq_bhx, q_c8_0, q_c8_1, q_c8_2, q_c8_3, q_c8_4, q_set_0, q_set_1i, q_set_1r, q_set_1n, q_set_1N, q_set_s, q_set_1j, q_set_1l, q_set2_0, q_set2_1i, q_set2_1r, q_set2_1n, q_set2_s, q_if, zb_ite, cond_true, cond_false, List.getElem?_cons_zero, List.getElem?_cons_succ, Nat.reduceAdd, ↓hF', d1, Int32.reduceLT, Int32.reduceLE, Nat.reduceLeDiff, Nat.zero_le, Nat.le_refl, Nat.zero_add, if_true, if_false, zb_eq0, zb_eq1, zn_1, not_true_eq_false, not_false_eq_true, ite_true, ite_false, if_true, if_false, q_iret_0, q_iret_1, decide_true, decide_false, decide_not, zb_t, zb_f, z10, z01, cond_true, cond_false, Bool.and_true, Bool.true_and, Bool.and_false, Bool.false_and, Bool.not_true, Bool.not_false, true_and, and_true, false_and, and_false, true_or, or_true, false_or, or_false, Bool.true_eq_false, Bool.false_eq_true, eq_self, reduceCtorEq, Bool.or_true, Bool.true_or, Bool.or_false, Bool.false_or])
theorem q_221 (H : Iv A) (hc : c < 8) (al : Int32) {ks : Int64} (hb : ∀ i, i < 60 → (bit ks i = true ↔ ∃ q, q < qn A c ∧ qk A c q = i)) (m : Int32) (j8 : Option Value) : ∀ i, i ≤ nv A 1 → lz_ev tL_areQueues 221 [some (.ref 0), some (.int 1), some (.int al), some (.int (zn c)), some (.long ks), none, some (.int m), some (.int 0), j8] [] (A, 0) = lz_ev tL_areQueues 221 [some (.ref 0), some (.int 1), some (.int al), some (.int (zn c)), some (.long ks), none, some (.int m), some (.int (zn i)), j8] [] (A, 0) := by
  intro i
  obtain ⟨hA, ⟨R, HR⟩, I⟩ := H
  have n60 := rl_n60 HR.1
  induction i with
  | zero => exact fun _ => rfl
  | succ i ih =>
    intro hi
    have i60 : i < 60 := by omega
    refine (ih (by omega)).trans ?_
    have o0 := kV_e (g_objects hA HR)
    have o1 := kV_e (g_failures hA HR hc (o := i) (by omega))
    obtain ⟨f, f1, f2⟩ := q_fail HR.1 hc i60
    have fq := (I.2 c hc).2.2 i i60
    rw [f2] at o1 fq
    have l : (zn (nv A 1) ≤ zn i) = False := zn_le (a := nv A 1) (b := i) (by omega) (by omega) ▸ eq_false (by omega)
    have l0 : (zn f < 0) = False := zn_lt0 (by omega)
    by_cases h : zn f = 0
    · clear ih fq f2
      (rw [e_L_areQueues_221]; simp (decide := true) only [e_L_areQueues_p0, e_L_areQueues_p1, lo_iload, lo_lload, lo_aload, lo_istore, lo_lstore, lo_iinc, lo_pushI, lo_pushL, lo_ii, lo_iid, lo_ll, lo_li, lo_lcmp, lo_i2l, lo_dup2, lo_goto, lo_if, lo_icmp, lq_iret_f, lq_iret_1, lq_iret_0, lq_iret_b, lq_lret, lq_bs, lq_bv, lq_bhv, lq_bhx, q_c8_0, q_c8_1, q_c8_2, q_c8_3, q_c8_4, q_set_0, q_set_1i, q_set_1r, q_set_1n, q_set_1N, q_set_s, q_set_1j, q_set_1l, q_set2_0, q_set2_1i, q_set2_1r, q_set2_1n, q_set2_s, q_if, zb_ite, cond_true, cond_false, List.getElem?_cons_zero, List.getElem?_cons_succ, Nat.reduceAdd, l, l0, o0, o1, h, Int32.reduceLT, Int32.reduceLE, Nat.reduceLeDiff, Nat.zero_le, Nat.le_refl, Nat.zero_add, if_true, if_false, zb_eq0, zb_eq1, zn_1, not_true_eq_false, not_false_eq_true, ite_true, ite_false, if_true, if_false, q_iret_0, q_iret_1, decide_true, decide_false, decide_not, zb_t, zb_f, z10, z01, cond_true, cond_false, Bool.and_true, Bool.true_and, Bool.and_false, Bool.false_and, Bool.not_true, Bool.not_false, true_and, and_true, false_and, and_false, true_or, or_true, false_or, or_false, Bool.true_eq_false, Bool.false_eq_true, eq_self, reduceCtorEq, Bool.or_true, Bool.true_or, Bool.or_false, Bool.false_or])
    · have hq := fq.resolve_left h
      have t0 : (lg_cmp ((ks >>> ((zn i).toInt64 &&& 63)) &&& 1) 1 = 0) = True := by
        rw [lc_0, and1_L, bit_shr _ (by omega)]
        exact eq_true ((hb i i60).mpr hq)
      clear ih fq f2 hq
      (rw [e_L_areQueues_221]; simp (decide := true) only [e_L_areQueues_p0, e_L_areQueues_p1, lo_iload, lo_lload, lo_aload, lo_istore, lo_lstore, lo_iinc, lo_pushI, lo_pushL, lo_ii, lo_iid, lo_ll, lo_li, lo_lcmp, lo_i2l, lo_dup2, lo_goto, lo_if, lo_icmp, lq_iret_f, lq_iret_1, lq_iret_0, lq_iret_b, lq_lret, lq_bs, lq_bv, lq_bhv, lq_bhx, q_c8_0, q_c8_1, q_c8_2, q_c8_3, q_c8_4, q_set_0, q_set_1i, q_set_1r, q_set_1n, q_set_1N, q_set_s, q_set_1j, q_set_1l, q_set2_0, q_set2_1i, q_set2_1r, q_set2_1n, q_set2_s, q_if, zb_ite, cond_true, cond_false, List.getElem?_cons_zero, List.getElem?_cons_succ, Nat.reduceAdd, l, l0, o0, o1, h, t0, Int32.reduceLT, Int32.reduceLE, Nat.reduceLeDiff, Nat.zero_le, Nat.le_refl, Nat.zero_add, if_true, if_false, zb_eq0, zb_eq1, zn_1, not_true_eq_false, not_false_eq_true, ite_true, ite_false, if_true, if_false, q_iret_0, q_iret_1, decide_true, decide_false, decide_not, zb_t, zb_f, z10, z01, cond_true, cond_false, Bool.and_true, Bool.true_and, Bool.and_false, Bool.false_and, Bool.not_true, Bool.not_false, true_and, and_true, false_and, and_false, true_or, or_true, false_or, or_false, Bool.true_eq_false, Bool.false_eq_true, eq_self, reduceCtorEq, Bool.or_true, Bool.true_or, Bool.or_false, Bool.false_or])
theorem q_6 (H : Iv A) : ∀ k, k ≤ 8 → ∃ j4 j5 j6 j7 j8, lz_ev tL_areQueues 6 [some (.ref 0), some (.int 1), some (.int 1), some (.int 0), none, none, none, none, none] [] (A, 0) = lz_ev tL_areQueues 6 [some (.ref 0), some (.int 1), some (.int (zb (zall k (stc A)))), some (.int (zn k)), j4, j5, j6, j7, j8] [] (A, 0) := by
  intro k
  induction k with
  | zero => exact fun _ => ⟨none, none, none, none, none, rfl⟩
  | succ k ih =>
    intro hk
    obtain ⟨j4, j5, j6, j7, j8, e⟩ := ih (by omega)
    have hc : k < 8 := by omega
    have H' := H
    obtain ⟨hA, ⟨R, HR⟩, I⟩ := H'
    have n60 := rl_n60 HR.1
    have l8 : ((8 : Int32) ≤ zn k) = False := zk_lt (n := 8) hc (Nat.le_refl _) (by decide)
    generalize hb : zall k (stc A) = b at *
    obtain ⟨ks, k7, k8, e2, hks⟩ := q_22 H hc (zb b) j7 j8 (qn A k) (Nat.le_refl _)
    have o0 := kV_e (g_queuedN hA HR hc (p := qn A k) (Nat.le_refl _) (by have := (QI_of HR.1 hc).1.2; omega))
    have s1 : lz_ev tL_areQueues 6 [some (.ref 0), some (.int 1), some (.int (zb b)), some (.int (zn k)), j4, j5, j6, j7, j8] [] (A, 0) = lz_ev tL_areQueues 22 [some (.ref 0), some (.int 1), some (.int (zb b)), some (.int (zn k)), some (.long 0), none, some (.int 0), j7, j8] [] (A, 0) := by
      clear e e2 ih
      (rw [e_L_areQueues_6]; simp (decide := true) only [e_L_areQueues_p0, e_L_areQueues_p1, lo_iload, lo_lload, lo_aload, lo_istore, lo_lstore, lo_iinc, lo_pushI, lo_pushL, lo_ii, lo_iid, lo_ll, lo_li, lo_lcmp, lo_i2l, lo_dup2, lo_goto, lo_if, lo_icmp, lq_iret_f, lq_iret_1, lq_iret_0, lq_iret_b, lq_lret, lq_bs, lq_bv, lq_bhv, lq_bhx, q_c8_0, q_c8_1, q_c8_2, q_c8_3, q_c8_4, q_set_0, q_set_1i, q_set_1r, q_set_1n, q_set_1N, q_set_s, q_set_1j, q_set_1l, q_set2_0, q_set2_1i, q_set2_1r, q_set2_1n, q_set2_s, q_if, zb_ite, cond_true, cond_false, List.getElem?_cons_zero, List.getElem?_cons_succ, Nat.reduceAdd, l8, Int32.reduceLT, Int32.reduceLE, Nat.reduceLeDiff, Nat.zero_le, Nat.le_refl, Nat.zero_add, if_true, if_false, zb_eq0, zb_eq1, zn_1, not_true_eq_false, not_false_eq_true, ite_true, ite_false, if_true, if_false, q_iret_0, q_iret_1, decide_true, decide_false, decide_not, zb_t, zb_f, z10, z01, cond_true, cond_false, Bool.and_true, Bool.true_and, Bool.and_false, Bool.false_and, Bool.not_true, Bool.not_false, true_and, and_true, false_and, and_false, true_or, or_true, false_or, or_false, Bool.true_eq_false, Bool.false_eq_true, eq_self, reduceCtorEq, Bool.or_true, Bool.true_or, Bool.or_false, Bool.false_or])
    have s2 : lz_ev tL_areQueues 22 [some (.ref 0), some (.int 1), some (.int (zb b)), some (.int (zn k)), some (.long ks), none, some (.int (zn (qn A k))), k7, k8] [] (A, 0) = lz_ev tL_areQueues 148 [some (.ref 0), some (.int 1), some (.int (zb b)), some (.int (zn k)), some (.long ks), none, some (.int (zn (qn A k))), k7, k8] [] (A, 0) := by
      clear e e2 ih s1
      generalize hZ : lz_ev tL_areQueues 148 [some (.ref 0), some (.int 1), some (.int (zb b)), some (.int (zn k)), some (.long ks), none, some (.int (zn (qn A k))), k7, k8] [] (A, 0) = Z
      (rw [e_L_areQueues_22]; simp (decide := true) only [e_L_areQueues_p0, e_L_areQueues_p1, lo_iload, lo_lload, lo_aload, lo_istore, lo_lstore, lo_iinc, lo_pushI, lo_pushL, lo_ii, lo_iid, lo_ll, lo_li, lo_lcmp, lo_i2l, lo_dup2, lo_goto, lo_if, lo_icmp, lq_iret_f, lq_iret_1, lq_iret_0, lq_iret_b, lq_lret, lq_bs, lq_bv, lq_bhv, lq_bhx, q_c8_0, q_c8_1, q_c8_2, q_c8_3, q_c8_4, q_set_0, q_set_1i, q_set_1r, q_set_1n, q_set_1N, q_set_s, q_set_1j, q_set_1l, q_set2_0, q_set2_1i, q_set2_1r, q_set2_1n, q_set2_s, q_if, zb_ite, cond_true, cond_false, List.getElem?_cons_zero, List.getElem?_cons_succ, Nat.reduceAdd, ↓hZ, o0, Int32.reduceLT, Int32.reduceLE, Nat.reduceLeDiff, Nat.zero_le, Nat.le_refl, Nat.zero_add, if_true, if_false, zb_eq0, zb_eq1, zn_1, not_true_eq_false, not_false_eq_true, ite_true, ite_false, if_true, if_false, q_iret_0, q_iret_1, decide_true, decide_false, decide_not, zb_t, zb_f, z10, z01, cond_true, cond_false, Bool.and_true, Bool.true_and, Bool.and_false, Bool.false_and, Bool.not_true, Bool.not_false, true_and, and_true, false_and, and_false, true_or, or_true, false_or, or_false, Bool.true_eq_false, Bool.false_eq_true, eq_self, reduceCtorEq, Bool.or_true, Bool.true_or, Bool.or_false, Bool.false_or])
    have s3 := q_148 H hc b ks k7 k8
    have s4 := q_221 H hc (zb (b && stc A k)) hks (zn (qn A k)) k8 (nv A 1) (Nat.le_refl _)
    have o1 := kV_e (g_objects hA HR)
    have l1 : (zn (nv A 1) ≤ zn (nv A 1)) = True := zk_ge n60 (by decide)
    have s5 : lz_ev tL_areQueues 221 [some (.ref 0), some (.int 1), some (.int (zb (b && stc A k))), some (.int (zn k)), some (.long ks), none, some (.int (zn (qn A k))), some (.int (zn (nv A 1))), k8] [] (A, 0) = lz_ev tL_areQueues 6 [some (.ref 0), some (.int 1), some (.int (zb (b && stc A k))), some (.int (zn (k + 1))), some (.long ks), none, some (.int (zn (qn A k))), some (.int (zn (nv A 1))), k8] [] (A, 0) := by
      clear e e2 ih s1 s2 s3 s4
      generalize zb (b && stc A k) = al
      (rw [e_L_areQueues_221]; simp (decide := true) only [e_L_areQueues_p0, e_L_areQueues_p1, lo_iload, lo_lload, lo_aload, lo_istore, lo_lstore, lo_iinc, lo_pushI, lo_pushL, lo_ii, lo_iid, lo_ll, lo_li, lo_lcmp, lo_i2l, lo_dup2, lo_goto, lo_if, lo_icmp, lq_iret_f, lq_iret_1, lq_iret_0, lq_iret_b, lq_lret, lq_bs, lq_bv, lq_bhv, lq_bhx, q_c8_0, q_c8_1, q_c8_2, q_c8_3, q_c8_4, q_set_0, q_set_1i, q_set_1r, q_set_1n, q_set_1N, q_set_s, q_set_1j, q_set_1l, q_set2_0, q_set2_1i, q_set2_1r, q_set2_1n, q_set2_s, q_if, zb_ite, cond_true, cond_false, List.getElem?_cons_zero, List.getElem?_cons_succ, Nat.reduceAdd, l1, o1, Int32.reduceLT, Int32.reduceLE, Nat.reduceLeDiff, Nat.zero_le, Nat.le_refl, Nat.zero_add, if_true, if_false, zb_eq0, zb_eq1, zn_1, not_true_eq_false, not_false_eq_true, ite_true, ite_false, if_true, if_false, q_iret_0, q_iret_1, decide_true, decide_false, decide_not, zb_t, zb_f, z10, z01, cond_true, cond_false, Bool.and_true, Bool.true_and, Bool.and_false, Bool.false_and, Bool.not_true, Bool.not_false, true_and, and_true, false_and, and_false, true_or, or_true, false_or, or_false, Bool.true_eq_false, Bool.false_eq_true, eq_self, reduceCtorEq, Bool.or_true, Bool.true_or, Bool.or_false, Bool.false_or])
    refine ⟨some (.long ks), none, some (.int (zn (qn A k))), some (.int (zn (nv A 1))), k8, e.trans (s1.trans (e2.trans (s2.trans (s3.trans (s4.trans (s5.trans ?_))))))⟩
    rw [zall_s, hb]
theorem w_areQueues (H : Iv A) : fL_areQueues [.ref 0] A = some (some (.int 1), A) := by
  obtain ⟨j4, j5, j6, j7, j8, e⟩ := q_6 H 8 (Nat.le_refl _)
  obtain ⟨hA, ⟨R, HR⟩, -⟩ := H
  have o1 := kV_e (g_isSettled hA HR)
  have s1 : lz_ev tL_areQueues 0 [some (.ref 0), none, none, none, none, none, none, none, none] [] (A, 0) = lz_ev tL_areQueues 6 [some (.ref 0), some (.int 1), some (.int 1), some (.int 0), none, none, none, none, none] [] (A, 0) := by
    clear e
    (simp (decide := true) only [e_L_areQueues_p0, e_L_areQueues_p1, lo_iload, lo_lload, lo_aload, lo_istore, lo_lstore, lo_iinc, lo_pushI, lo_pushL, lo_ii, lo_iid, lo_ll, lo_li, lo_lcmp, lo_i2l, lo_dup2, lo_goto, lo_if, lo_icmp, lq_iret_f, lq_iret_1, lq_iret_0, lq_iret_b, lq_lret, lq_bs, lq_bv, lq_bhv, lq_bhx, q_c8_0, q_c8_1, q_c8_2, q_c8_3, q_c8_4, q_set_0, q_set_1i, q_set_1r, q_set_1n, q_set_1N, q_set_s, q_set_1j, q_set_1l, q_set2_0, q_set2_1i, q_set2_1r, q_set2_1n, q_set2_s, q_if, zb_ite, cond_true, cond_false, List.getElem?_cons_zero, List.getElem?_cons_succ, Nat.reduceAdd, Int32.reduceLT, Int32.reduceLE, Nat.reduceLeDiff, Nat.zero_le, Nat.le_refl, Nat.zero_add, if_true, if_false, zb_eq0, zb_eq1, zn_1, not_true_eq_false, not_false_eq_true, ite_true, ite_false, if_true, if_false, q_iret_0, q_iret_1, decide_true, decide_false, decide_not, zb_t, zb_f, z10, z01, cond_true, cond_false, Bool.and_true, Bool.true_and, Bool.and_false, Bool.false_and, Bool.not_true, Bool.not_false, true_and, and_true, false_and, and_false, true_or, or_true, false_or, or_false, Bool.true_eq_false, Bool.false_eq_true, eq_self, reduceCtorEq, Bool.or_true, Bool.true_or, Bool.or_false, Bool.false_or])
  have l8 : ((8 : Int32) ≤ zn 8) = True := eq_true (by decide)
  have s2 : lz_ev tL_areQueues 6 [some (.ref 0), some (.int 1), some (.int (zb (zall 8 (stc A)))), some (.int (zn 8)), j4, j5, j6, j7, j8] [] (A, 0) = some (some (.int 1), (A, 0)) := by
    clear e s1
    generalize zb (zall 8 (stc A)) = x at *
    (rw [e_L_areQueues_6]; simp (decide := true) only [e_L_areQueues_p0, e_L_areQueues_p1, lo_iload, lo_lload, lo_aload, lo_istore, lo_lstore, lo_iinc, lo_pushI, lo_pushL, lo_ii, lo_iid, lo_ll, lo_li, lo_lcmp, lo_i2l, lo_dup2, lo_goto, lo_if, lo_icmp, lq_iret_f, lq_iret_1, lq_iret_0, lq_iret_b, lq_lret, lq_bs, lq_bv, lq_bhv, lq_bhx, q_c8_0, q_c8_1, q_c8_2, q_c8_3, q_c8_4, q_set_0, q_set_1i, q_set_1r, q_set_1n, q_set_1N, q_set_s, q_set_1j, q_set_1l, q_set2_0, q_set2_1i, q_set2_1r, q_set2_1n, q_set2_s, q_if, zb_ite, cond_true, cond_false, List.getElem?_cons_zero, List.getElem?_cons_succ, Nat.reduceAdd, l8, o1, Int32.reduceLT, Int32.reduceLE, Nat.reduceLeDiff, Nat.zero_le, Nat.le_refl, Nat.zero_add, if_true, if_false, zb_eq0, zb_eq1, zn_1, not_true_eq_false, not_false_eq_true, ite_true, ite_false, if_true, if_false, q_iret_0, q_iret_1, decide_true, decide_false, decide_not, zb_t, zb_f, z10, z01, cond_true, cond_false, Bool.and_true, Bool.true_and, Bool.and_false, Bool.false_and, Bool.not_true, Bool.not_false, true_and, and_true, false_and, and_false, true_or, or_true, false_or, or_false, Bool.true_eq_false, Bool.false_eq_true, eq_self, reduceCtorEq, Bool.or_true, Bool.true_or, Bool.or_false, Bool.false_or])
  exact s_L_areQueues _ (s1.trans (e.trans s2))
end
end

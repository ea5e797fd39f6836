section
/-! the law at its start -/
section
theorem nz0 {a b : Nat} (h : zM0.1 a b = 0) : (nz zM0).1 a b = 0 := by
  show (bif dead a then 0 else zM0.1 a b) = 0
  rw [h]
  cases dead a <;> rfl
theorem st_Rel : Rel (nz zM0) zR0 := Rel_nz.mpr Rel_0
theorem st_ve : ve (nz zM0) 1 = 0 := by
  unfold ve
  rw [nz0 (zM0_0 ⟨by omega, by omega, by omega, by omega, by omega⟩)]
  rfl
theorem st_nv : nv (nz zM0) 1 = 0 := by
  unfold nv
  rw [nz0 (zM0_0 ⟨by omega, by omega, by omega, by omega, by omega⟩)]
  rfl
theorem st_vc {c : Nat} (hc : c < 8) : ve (nz zM0) (3 + c) = 0 ∧ nv (nz zM0) (3 + c) = 0 ∧ qn (nz zM0) c = 0 := by
  refine ⟨?_, ?_, ?_⟩
  · unfold ve
    rw [nz0 (zM0_0 ⟨by omega, by omega, by omega, by omega, by omega⟩)]
    rfl
  · unfold nv
    rw [nz0 (zM0_0 ⟨by omega, by omega, by omega, by omega, by omega⟩)]
    rfl
  · unfold qn
    rw [nz0 (zM0_0 ⟨by omega, by omega, by omega, by omega, by omega⟩)]
    rfl
theorem st_25 {c k : Nat} (hc : c < 8) (hk : k < 60) : rd (nz zM0) (3 + c) (zn k) 25 = 4 := by
  have h := vw_un (Lg_of st_Rel.1) (c := c) (o := k) (s := 25) hc (by rw [(st_vc hc).2.1]; omega) hk (by decide)
  rw [if_pos rfl] at h
  exact h
theorem st_sat {c k : Nat} (hc : c < 8) (hk : k < 60) : sat (nz zM0) c k := by
  have r := st_25 hc hk
  have ns : ∀ x : Int32, stay (nz zM0) (3 + c) (zn k) x = true → False := fun x h => by
    unfold stay at h
    have h2 := (of_decide_eq_true h).2
    rw [r] at h2
    exact absurd h2 (by decide)
  rcases (show c = 0 ∨ c = 1 ∨ c = 2 ∨ c = 3 ∨ c = 4 ∨ c = 5 ∨ c = 6 ∨ c = 7 by omega) with rfl | rfl | rfl | rfl | rfl | rfl | rfl | rfl
  · exact trivial
  · exact fun h => (ns 1 h).elim
  · exact trivial
  · exact trivial
  · exact trivial
  · exact fun h => absurd (r.symm.trans h) (by decide)
  · exact fun h => (ns 5 h).elim
  · exact fun h => (ns 0 h).elim
theorem st_II : II (nz zM0) := by
  have L := Lg_of st_Rel.1
  have hq : ∀ c k, c < 8 → ¬ inQ (nz zM0) c k := fun c k hc ⟨p, hp, _⟩ => by
    rw [(st_vc hc).2.2] at hp
    omega
  refine ⟨⟨L, ⟨?_, ?_⟩, fun k h1 h2 => absurd h2 (by rw [st_ve]; omega), fun j k h1 h2 h3 => absurd h3 (by rw [st_ve]; omega)⟩, fun c hc => ⟨fun k hk => Or.inr (Or.inr (st_sat hc hk)), fun k h => absurd h (hq c k hc), fun o ho => Or.inl (nz0 (zM0_0 ⟨by omega, by omega, by omega, by omega, by omega⟩))⟩⟩
  · unfold nr
    rw [nz0 (zM0_0 ⟨by omega, by omega, by omega, by omega, by omega⟩)]
    rfl
  · unfold nc
    rw [nz0 (zM0_0 ⟨by omega, by omega, by omega, by omega, by omega⟩)]
    rfl
theorem st_LI : LI (nz zM0) 0 0 := ⟨⟨nz_nz zM0, ⟨zR0, st_Rel⟩, st_II⟩, nz0 (zM0_0 ⟨by omega, by omega, by omega, by omega, by omega⟩), nz0 (zM0_0 ⟨by omega, by omega, by omega, by omega, by omega⟩), fun r hr => (nz0 (zM0_0 ⟨by omega, by omega, by omega, by omega, by omega⟩)).trans (nz0 (zM0_0 ⟨by omega, by omega, by omega, by omega, by omega⟩)).symm⟩
theorem st_set : zall 8 (stc (nz zM0)) = true := zall_iff.mpr fun c hc => by
  obtain ⟨h1, h2, h3⟩ := st_vc hc
  unfold stc
  rw [h1, h3, st_ve]
  rfl
set_option maxRecDepth 100000 in
theorem e_51 (sc : List Int32) : ∀ L st M, lz_ev (tL_law sc) 51 L st M = lo_istore 6 53 (lz_ev (tL_law sc)) L st M := lz_1 rfl (tl_L_law sc)
set_option maxRecDepth 100000 in
set_option maxHeartbeats 2000000 in
theorem st_51 (sc : List Int32) {m : Nat} (hm : m + 7200 ≤ 727906) : lz_ev (tL_law sc) 17 [some (.ref 1004), some (.ref 0), some (.ref 73), some (.ref 74), none, none, none, none, none, none, none, none, none, none, none, none, none, none, none, none, none] [] (nz zM0, m) = lz_ev (tL_law sc) 51 [some (.ref 1004), some (.ref 0), some (.ref 73), some (.ref 74), some (.int 0), some (.int 1), none, none, none, none, none, none, none, none, none, none, none, none, none, none, none] [.int 0] (nz zM0, m + 3600 + 3600) := by
  have HI := st_LI.1
  have e0 := w_isRefused HI (X := 0) (by decide)
  have e1 := w_isRefused HI (X := 1) (by decide)
  rw [zl_0] at e0
  rw [zl_1] at e1
  have o1 := kV_e (g_isSettled HI.1 st_Rel)
  rw [st_set] at o1
  have f0 : (m ≤ 727906) = True := eq_true (by omega)
  have f1 : (m + 3600 ≤ 727906) = True := eq_true (by omega)
  have f2 : (m + 3600 + 3600 ≤ 727906) = True := eq_true (by omega)
  generalize hZ : lz_ev (tL_law sc) 51 [some (.ref 1004), some (.ref 0), some (.ref 73), some (.ref 74), some (.int 0), some (.int 1), none, none, none, none, none, none, none, none, none, none, none, none, none, none, none] [.int 0] (nz zM0, m + 3600 + 3600) = Z
  clear hm HI
  (simp (decide := true) only [e_L_law_p0 sc, e_L_law_p1 sc, e_L_law_p2 sc, e_L_law_p3 sc, e_L_law_p4 sc, e_L_law_p5 sc, e_L_law_p6 sc, lo_iload, lo_lload, lo_aload, lo_istore, lo_lstore, lo_iinc, lo_pushI, lo_pushL, lo_ii, lo_iid, lo_ll, lo_li, lo_lcmp, lo_i2l, lo_dup2, lo_goto, lo_if, lo_icmp, lq_iret_f, lq_iret_1, lq_iret_0, lq_iret_b, lq_lret, lq_bs, lq_bv, lq_bhv, lq_bhx, q_c8_0, q_c8_1, q_c8_2, q_c8_3, q_c8_4, q_set_0, q_set_1i, q_set_1r, q_set_1n, q_set_1N, q_set_s, q_set_1j, q_set_1l, q_set2_0, q_set2_1i, q_set2_1r, q_set2_1n, q_set2_s, q_if, zb_ite, cond_true, cond_false, List.getElem?_cons_zero, List.getElem?_cons_succ, Nat.reduceAdd, ↓hZ, e0, e1, o1, f0, f1, f2, Int32.reduceLT, Int32.reduceLE, Nat.reduceLeDiff, Nat.zero_le, Nat.le_refl, Nat.zero_add, if_true, if_false, zb_eq0, zb_eq1, zn_1, not_true_eq_false, not_false_eq_true, ite_true, ite_false, if_true, if_false, q_iret_0, q_iret_1, decide_true, decide_false, decide_not, zb_t, zb_f, z10, z01, cond_true, cond_false, Bool.and_true, Bool.true_and, Bool.and_false, Bool.false_and, Bool.not_true, Bool.not_false, true_and, and_true, false_and, and_false, true_or, or_true, false_or, or_false, Bool.true_eq_false, Bool.false_eq_true, eq_self, reduceCtorEq, Bool.or_true, Bool.true_or, Bool.or_false, Bool.false_or])
set_option maxRecDepth 100000 in
theorem st_17 (sc : List Int32) (hl : sc.length < 2147483648) {m : Nat} (hm : m ≤ 4800) : ∃ B m', lz_ev (tL_law sc) 17 [some (.ref 1004), some (.ref 0), some (.ref 73), some (.ref 74), none, none, none, none, none, none, none, none, none, none, none, none, none, none, none, none, none] [] (nz zM0, m) = some (some (.int 1), (B, m')) := by
  obtain ⟨B, m', e⟩ := l_53 sc hl 110 0 (by omega) (nz zM0) (m + 3600 + 3600) 0 0 none none none none none none none none none none none none none none st_LI (by omega) (by omega)
  refine ⟨B, m', ?_⟩
  rw [st_51 sc (by omega), e_51]
  exact e
end
end

section
/-! opening objects, ticks -/
theorem zl_mem {α : Type} {E : Nat → zzMd → α} {G : Nat → zzMd → zzMd} {I : Nat → zzMd → Prop} : ∀ (n : Nat), (∀ i, i < n → ∀ M, I i (nz M) → ∃ M', E i M = E (i + 1) M' ∧ nz M' = G i (nz M) ∧ I (i + 1) (nz M')) →
    ∀ M, I 0 (nz M) → ∃ M', E 0 M = E n M' ∧ nz M' = zfold n G (nz M) ∧ I n (nz M')
  | 0, _, M, h0 => ⟨M, rfl, rfl, h0⟩
  | n + 1, h, M, h0 => by
    obtain ⟨M1, a1, a2, a3⟩ := zl_mem n (fun i hi => h i (Nat.lt_succ_of_lt hi)) M h0
    obtain ⟨M2, b1, b2, b3⟩ := h n (Nat.lt_succ_self n) M1 a3
    refine ⟨M2, a1.trans b1, ?_, b3⟩
    rw [b2, a2]
    rfl
theorem nv_tk1 (A : zzMd) (o k : Nat) : nv (tkIn A 1 o k) 1 = zz_ix (zn (Nat.max (nv A 1) (o + 1))) := rfl
theorem nv_Wr {A : zzMd} {o : Nat} (D : Nat → Int32) (ho : o < nv A 1) (hn : nv A 1 ≤ 60) : nv (aWr A o D).2 1 = nv A 1 := by
  unfold aWr put
  cases zall 32 fun s => decide (dOw D s = row A o s)
  · cases decide (400 ≤ ve A 1)
    · show nv (tkIn (logSet A (ve A 1 + 1) (dOw D)) 1 o (ve A 1 + 1)) 1 = _
      rw [nv_tk1, show nv (logSet A (ve A 1 + 1) (dOw D)) 1 = nv A 1 from rfl, show Nat.max (nv A 1) (o + 1) = nv A 1 from Nat.max_eq_left ho, zn_ix (by omega)]
    · rfl
  · rfl
/-- what other numbers a write leaves -/
theorem Wr_o {A : zzMd} {o : Nat} {D : Nat → Int32} {a b : Nat} (h1 : a = 1 → b ≠ 2 ∧ b ≠ 3) (h2 : a ≠ 14) (h3 : a ≠ 15) : (aWr A o D).2.1 a b = A.1 a b := by
  unfold aWr put
  cases zall 32 fun s => decide (dOw D s = row A o s)
  · cases decide (400 ≤ ve A 1)
    · show (tkIn (logSet A (ve A 1 + 1) (dOw D)) 1 o (ve A 1 + 1)).1 a b = _
      rw [tk_1, if_neg (fun z => (h1 z.1).2 z.2), if_neg (fun z => (h1 z.1).1 z.2), if_neg (fun z => h3 z.1)]
      exact if_neg (fun z => h2 z.1)
    · rfl
  · rfl
theorem Ad_o {A : zzMd} {o : Nat} {D : Nat → Int32} {a b : Nat} (h1 : a = 1 → b ≠ 2 ∧ b ≠ 3) (h2 : a ≠ 14) (h3 : a ≠ 15) : (aAd A o D).2.1 a b = A.1 a b := by
  unfold aAd
  cases (settled A D).1 && allowed A (settled A D).2
  · rfl
  · exact Wr_o h1 h2 h3
theorem rd_nz {M : zzMd} {v : Nat} (hv : zV v) (x s : Int32) : rd (nz M) v x s = rd M v x s := by
  unfold rd
  rw [nz_1 (dead_v hv).2.1]
  rfl
theorem gone_nz {M : zzMd} {v : Nat} (hv : zV v) (x : Int32) : gone (nz M) v x = gone M v x := by unfold gone; rw [rd_nz hv]
theorem owned_nz {M : zzMd} {v : Nat} (hv : zV v) (x k w : Int32) : owned (nz M) v x k w = owned M v x k w := by unfold owned; rw [rd_nz hv, rd_nz hv, rd_nz hv]
theorem stay_nz {M : zzMd} {v : Nat} (hv : zV v) (x k : Int32) : stay (nz M) v x k = stay M v x k := by unfold stay; rw [rd_nz hv, rd_nz hv]
theorem liveP_nz {M : zzMd} : liveP (nz M) = liveP M := rfl
def tickOf (A : zzMd) (i : Nat) : Prop := rd A 1 (zn i) 23 = 4 ∧ gone A 1 (zn i) = false ∧ ¬ A.1 1 7 - A.1 16 i ≤ 20
noncomputable def aTick1 (i : Nat) (B : zzMd) : zzMd := @ite _ (tickOf B i) (Classical.propDecidable _) (aCh B i 27 0).2 B
noncomputable def aTick (A : zzMd) : zzMd := zfold (nv A 1) aTick1 (zz_sI A 1 7 (A.1 1 7 + 1))
theorem zIC_17 {A : zzMd} {x : Int32} : zIC (zz_sI A 1 7 x) ↔ zIC A := by
  have key : ∀ a b, a ≠ 1 ∨ b ≠ 7 → (zz_sI A 1 7 x).1 a b = A.1 a b := fun a b h => if_neg (fun z => h.elim (fun q => q z.1) (fun q => q z.2))
  have k2 : ∀ c b, (zz_sI A 1 7 x).1 (21 + 6 * c) b = A.1 (21 + 6 * c) b := fun c b => key _ _ (Or.inl (by omega))
  have k3 : ∀ c b, (zz_sI A 1 7 x).1 (3 + c) b = A.1 (3 + c) b := fun c b => key _ _ (Or.inl (by omega))
  have k4 : ∀ c b, (zz_sI A 1 7 x).1 (22 + 6 * c) b = A.1 (22 + 6 * c) b := fun c b => key _ _ (Or.inl (by omega))
  unfold zIC
  refine and_congr Iff.rfl (and_congr Iff.rfl (forall_congr' fun c => forall_congr' fun hc => ?_))
  unfold zIV zIQ nv ve qn qk
  simp only [k2, k3, k4]
theorem sp_beginTick {M : zzMd} (W : zIC M) : ∃ M', fX9_beginTick [.ref 1] M = some (.inl none, M') ∧ nz M' = aTick (nz M) ∧ zIC M' := by
  have hn60 : nv M 1 ≤ 60 := W.1.2.1.2
  obtain ⟨M', h1, h2, h3, h4⟩ := zl_mem (E := fun i M => zz_ev tX9_beginTick 12 [some (.ref 1), some (.int (zn i))] [] M) (G := aTick1) (I := fun _ A => zIC A ∧ nv A 1 = nv M 1) (nv M 1) (fun i hi B hB => by
    obtain ⟨hB1, hB2⟩ := hB
    have hB3 : zIC B := zIC_nz.mp hB1
    have hB4 : nv B 1 = nv M 1 := hB2
    have W1 := zIC_1 hB3
    have hr := fun x s => sp_read' W1 x s
    have hg := fun x => sp_isGone W1 x
    have hc := zk_in (i := i) (n := nv B 1) (by omega) (by omega)
    have hk := W1.2.2.1
    have ho : i < 60 := by omega
    obtain ⟨N, c1, c2⟩ := sp_change hB3 ho (k := 27) (by decide) 0
    have c1' : fX9_change [.ref 1, .int (zn i), .int 27, .int 0] B = _ := c1
    have b1 : zz_inb (zn i) 60 = true := zn_inT (by omega) (by omega)
    have x1 : zz_ix (zn i) = i := zn_ix (by omega)
    have hP : tickOf (nz B) i ↔ rd B 1 (zn i) 23 = 4 ∧ gone B 1 (zn i) = false ∧ ¬ B.1 1 7 - B.1 16 i ≤ 20 := Iff.rfl
    by_cases ht : tickOf (nz B) i
    · obtain ⟨t1, t2, t3⟩ := hP.mp ht
      refine ⟨N, ?_, ?_, ?_⟩
      · (rw [e_X9_beginTick_12]; simp only [e_X9_beginTick, zo_iload, zo_lload, zo_aload, zo_istore, zo_lstore, zo_astore, zo_iinc, zo_pushI, zo_pushL, zo_null, zo_ii, zo_iid, zo_ll, zo_li, zo_lcmp, zo_i2l, zo_l2i, zo_dup, zo_dup2, zo_pop, zo_goto, zo_if, zo_icmp, zo_ifnull, zo_gets, zo_mm, zo_throw, zo_ret, zo_aret, zo_lret, q_iret_f, q_iret_1, q_iret_0, q_iret_b, q_c8_0, q_c8_1, q_c8_2, q_c8_3, q_c8_4, q_set_0, q_set_1i, q_set_1r, q_set_1n, q_set_1N, q_set_s, q_set_1j, q_bk_v, q_bk_n, q_if, zb_ite, cond_true, cond_false, List.getElem?_cons_zero, List.getElem?_cons_succ, Nat.reduceAdd, hk, hc, hr, hg, t1, t2, t3, b1, x1, q_aC, c1', if_true, if_false, zb_eq0, zb_eq1, zn_1, not_true_eq_false, not_false_eq_true, ite_true, ite_false, if_true, if_false, q_iret_0, q_iret_1, decide_true, decide_false, decide_not, zb_t, zb_f, z10, z01, cond_true, cond_false, Bool.and_true, Bool.true_and, Bool.and_false, Bool.false_and, Bool.not_true, Bool.not_false, true_and, and_true, false_and, and_false, true_or, or_true, false_or, or_false, Bool.true_eq_false, Bool.false_eq_true, eq_self, reduceCtorEq])
      · unfold aTick1; rw [if_pos ht]; exact c2
      · rw [c2]
        exact ⟨zIC_Wr ho hB1, (nv_Wr _ (by omega) (by omega)).trans hB2⟩
    · have ht2 := fun a => ht (hP.mpr a)
      refine ⟨B, ?_, ?_, hB1, hB2⟩
      · by_cases t1 : rd B 1 (zn i) 23 = 4
        · cases t2 : gone B 1 (zn i)
          · by_cases t3 : B.1 1 7 - B.1 16 i ≤ 20
            · (rw [e_X9_beginTick_12]; simp only [e_X9_beginTick, zo_iload, zo_lload, zo_aload, zo_istore, zo_lstore, zo_astore, zo_iinc, zo_pushI, zo_pushL, zo_null, zo_ii, zo_iid, zo_ll, zo_li, zo_lcmp, zo_i2l, zo_l2i, zo_dup, zo_dup2, zo_pop, zo_goto, zo_if, zo_icmp, zo_ifnull, zo_gets, zo_mm, zo_throw, zo_ret, zo_aret, zo_lret, q_iret_f, q_iret_1, q_iret_0, q_iret_b, q_c8_0, q_c8_1, q_c8_2, q_c8_3, q_c8_4, q_set_0, q_set_1i, q_set_1r, q_set_1n, q_set_1N, q_set_s, q_set_1j, q_bk_v, q_bk_n, q_if, zb_ite, cond_true, cond_false, List.getElem?_cons_zero, List.getElem?_cons_succ, Nat.reduceAdd, hk, hc, hr, hg, t1, t2, t3, b1, x1, q_aC, if_true, if_false, zb_eq0, zb_eq1, zn_1, not_true_eq_false, not_false_eq_true, ite_true, ite_false, if_true, if_false, q_iret_0, q_iret_1, decide_true, decide_false, decide_not, zb_t, zb_f, z10, z01, cond_true, cond_false, Bool.and_true, Bool.true_and, Bool.and_false, Bool.false_and, Bool.not_true, Bool.not_false, true_and, and_true, false_and, and_false, true_or, or_true, false_or, or_false, Bool.true_eq_false, Bool.false_eq_true, eq_self, reduceCtorEq])
            · exact absurd ⟨t1, t2, t3⟩ ht2
          · (rw [e_X9_beginTick_12]; simp only [e_X9_beginTick, zo_iload, zo_lload, zo_aload, zo_istore, zo_lstore, zo_astore, zo_iinc, zo_pushI, zo_pushL, zo_null, zo_ii, zo_iid, zo_ll, zo_li, zo_lcmp, zo_i2l, zo_l2i, zo_dup, zo_dup2, zo_pop, zo_goto, zo_if, zo_icmp, zo_ifnull, zo_gets, zo_mm, zo_throw, zo_ret, zo_aret, zo_lret, q_iret_f, q_iret_1, q_iret_0, q_iret_b, q_c8_0, q_c8_1, q_c8_2, q_c8_3, q_c8_4, q_set_0, q_set_1i, q_set_1r, q_set_1n, q_set_1N, q_set_s, q_set_1j, q_bk_v, q_bk_n, q_if, zb_ite, cond_true, cond_false, List.getElem?_cons_zero, List.getElem?_cons_succ, Nat.reduceAdd, hk, hc, hr, hg, t1, t2, if_true, if_false, zb_eq0, zb_eq1, zn_1, not_true_eq_false, not_false_eq_true, ite_true, ite_false, if_true, if_false, q_iret_0, q_iret_1, decide_true, decide_false, decide_not, zb_t, zb_f, z10, z01, cond_true, cond_false, Bool.and_true, Bool.true_and, Bool.and_false, Bool.false_and, Bool.not_true, Bool.not_false, true_and, and_true, false_and, and_false, true_or, or_true, false_or, or_false, Bool.true_eq_false, Bool.false_eq_true, eq_self, reduceCtorEq])
        · (rw [e_X9_beginTick_12]; simp only [e_X9_beginTick, zo_iload, zo_lload, zo_aload, zo_istore, zo_lstore, zo_astore, zo_iinc, zo_pushI, zo_pushL, zo_null, zo_ii, zo_iid, zo_ll, zo_li, zo_lcmp, zo_i2l, zo_l2i, zo_dup, zo_dup2, zo_pop, zo_goto, zo_if, zo_icmp, zo_ifnull, zo_gets, zo_mm, zo_throw, zo_ret, zo_aret, zo_lret, q_iret_f, q_iret_1, q_iret_0, q_iret_b, q_c8_0, q_c8_1, q_c8_2, q_c8_3, q_c8_4, q_set_0, q_set_1i, q_set_1r, q_set_1n, q_set_1N, q_set_s, q_set_1j, q_bk_v, q_bk_n, q_if, zb_ite, cond_true, cond_false, List.getElem?_cons_zero, List.getElem?_cons_succ, Nat.reduceAdd, hk, hc, hr, hg, t1, if_true, if_false, zb_eq0, zb_eq1, zn_1, not_true_eq_false, not_false_eq_true, ite_true, ite_false, if_true, if_false, q_iret_0, q_iret_1, decide_true, decide_false, decide_not, zb_t, zb_f, z10, z01, cond_true, cond_false, Bool.and_true, Bool.true_and, Bool.and_false, Bool.false_and, Bool.not_true, Bool.not_false, true_and, and_true, false_and, and_false, true_or, or_true, false_or, or_false, Bool.true_eq_false, Bool.false_eq_true, eq_self, reduceCtorEq])
      · unfold aTick1; rw [if_neg ht]) (zz_sI M 1 7 (M.1 1 7 + 1)) ⟨zIC_nz.mpr (zIC_17.mpr W), rfl⟩
  refine ⟨M', ?_, ?_, zIC_nz.mp h3⟩
  · have st : fX9_beginTick [.ref 1] M = zz_ev tX9_beginTick 12 [some (.ref 1), some (.int (zn 0))] [] (zz_sI M 1 7 (M.1 1 7 + 1)) := by
      rw [s_X9_beginTick]
      (simp only [e_X9_beginTick, zo_iload, zo_lload, zo_aload, zo_istore, zo_lstore, zo_astore, zo_iinc, zo_pushI, zo_pushL, zo_null, zo_ii, zo_iid, zo_ll, zo_li, zo_lcmp, zo_i2l, zo_l2i, zo_dup, zo_dup2, zo_pop, zo_goto, zo_if, zo_icmp, zo_ifnull, zo_gets, zo_mm, zo_throw, zo_ret, zo_aret, zo_lret, q_iret_f, q_iret_1, q_iret_0, q_iret_b, q_c8_0, q_c8_1, q_c8_2, q_c8_3, q_c8_4, q_set_0, q_set_1i, q_set_1r, q_set_1n, q_set_1N, q_set_s, q_set_1j, q_bk_v, q_bk_n, q_if, zb_ite, cond_true, cond_false, List.getElem?_cons_zero, List.getElem?_cons_succ, Nat.reduceAdd, if_true, if_false, zb_eq0, zb_eq1, zn_1, not_true_eq_false, not_false_eq_true, ite_true, ite_false, if_true, if_false, q_iret_0, q_iret_1, decide_true, decide_false, decide_not, zb_t, zb_f, z10, z01, cond_true, cond_false, Bool.and_true, Bool.true_and, Bool.and_false, Bool.false_and, Bool.not_true, Bool.not_false, true_and, and_true, false_and, and_false, true_or, or_true, false_or, or_false, Bool.true_eq_false, Bool.false_eq_true, eq_self, reduceCtorEq])
      rfl
    have hk : M'.1 1 2 = zn (nv M 1) := by
      have h5 := (zIC_nz.mp h3).1.2.1.1
      rw [show nv M' 1 = nv M 1 from h4] at h5
      exact h5
    have hc := zk_out hn60
    rw [st, h1]
    (rw [e_X9_beginTick_12]; simp only [e_X9_beginTick, zo_iload, zo_lload, zo_aload, zo_istore, zo_lstore, zo_astore, zo_iinc, zo_pushI, zo_pushL, zo_null, zo_ii, zo_iid, zo_ll, zo_li, zo_lcmp, zo_i2l, zo_l2i, zo_dup, zo_dup2, zo_pop, zo_goto, zo_if, zo_icmp, zo_ifnull, zo_gets, zo_mm, zo_throw, zo_ret, zo_aret, zo_lret, q_iret_f, q_iret_1, q_iret_0, q_iret_b, q_c8_0, q_c8_1, q_c8_2, q_c8_3, q_c8_4, q_set_0, q_set_1i, q_set_1r, q_set_1n, q_set_1N, q_set_s, q_set_1j, q_bk_v, q_bk_n, q_if, zb_ite, cond_true, cond_false, List.getElem?_cons_zero, List.getElem?_cons_succ, Nat.reduceAdd, hk, hc, if_true, if_false, zb_eq0, zb_eq1, zn_1, not_true_eq_false, not_false_eq_true, ite_true, ite_false, if_true, if_false, q_iret_0, q_iret_1, decide_true, decide_false, decide_not, zb_t, zb_f, z10, z01, cond_true, cond_false, Bool.and_true, Bool.true_and, Bool.and_false, Bool.false_and, Bool.not_true, Bool.not_false, true_and, and_true, false_and, and_false, true_or, or_true, false_or, or_false, Bool.true_eq_false, Bool.false_eq_true, eq_self, reduceCtorEq])
  · rw [h2, nz_sI rfl]
    rfl
def aOpen (A : zzMd) (m k w t : Int32) : Int32 × zzMd :=
  if 60 ≤ nv A 1 ∨ k = 2 ∧ ¬ zn (liveP A) < A.1 2 5 then (-1, A) else
  bif (aAd A (nv A 1) (dNew m k w t (nv A 1))).1 then (zn (nv A 1), zz_sI (aAd A (nv A 1) (dNew m k w t (nv A 1))).2 16 (nv A 1) (A.1 1 7)) else (-1, (aAd A (nv A 1) (dNew m k w t (nv A 1))).2)
theorem q_c1 {α β : Type} (b : Bool) (x y : α) (u w : β) : (bif b then (x, u) else (y, w)).1 = bif b then x else y := by cases b <;> rfl
theorem q_c2 {α β : Type} (b : Bool) (x y : α) (u w : β) : (bif b then (x, u) else (y, w)).2 = bif b then u else w := by cases b <;> rfl
theorem sp_openD {M : zzMd} (W : zIC M) (m k w t : Int32) (hn : nv M 1 < 60) :
    ∃ M', zz_ev tX9_open 34 [some (.ref 1), some (.int m), some (.int k), some (.int w), some (.int t), some (.int (zn (nv M 1)))] [] M = some (.inl (some (.int (bif (aAd (nz M) (nv M 1) (dNew m k w t (nv M 1))).1 then zn (nv M 1) else -1))), M') ∧
      nz M' = bif (aAd (nz M) (nv M 1) (dNew m k w t (nv M 1))).1 then zz_sI (aAd (nz M) (nv M 1) (dNew m k w t (nv M 1))).2 16 (nv M 1) (M.1 1 7) else (aAd (nz M) (nv M 1) (dNew m k w t (nv M 1))).2 := by
  obtain ⟨D, hd, hD⟩ := sp_draftNew M m k
  have hc : eq32 (dUp (dUp (dUp D 22 (zn (nv M 1))) 24 w) 1 t) (dNew m k w t (nv M 1)) := hD w t (nv M 1)
  rw [← aAd_c (A := nz M) W.2.1 (nv M 1) hc]
  obtain ⟨A, s1, s2, M', s3, s4⟩ := sp_ad W hn (dUp (dUp (dUp D 22 (zn (nv M 1))) 24 w) 1 t)
  have b1 : zz_inb (zn (nv M 1)) 60 = true := zn_inT hn (by decide)
  have x1 : zz_ix (zn (nv M 1)) = nv M 1 := zn_ix (by omega)
  have hm1 := zn_m1 (k := nv M 1) (by omega)
  unfold aAd
  rw [settled_nz, allowed_nz]
  cases c1 : (settled M (dUp (dUp (dUp D 22 (zn (nv M 1))) 24 w) 1 t)).1
  · rw [c1] at s1
    refine ⟨setA (setD M (settled M (dUp (dUp (dUp D 22 (zn (nv M 1))) 24 w) 1 t)).2) A, ?_, ?_⟩
    · (simp only [e_X9_open, zo_iload, zo_lload, zo_aload, zo_istore, zo_lstore, zo_astore, zo_iinc, zo_pushI, zo_pushL, zo_null, zo_ii, zo_iid, zo_ll, zo_li, zo_lcmp, zo_i2l, zo_l2i, zo_dup, zo_dup2, zo_pop, zo_goto, zo_if, zo_icmp, zo_ifnull, zo_gets, zo_mm, zo_throw, zo_ret, zo_aret, zo_lret, q_iret_f, q_iret_1, q_iret_0, q_iret_b, q_c8_0, q_c8_1, q_c8_2, q_c8_3, q_c8_4, q_set_0, q_set_1i, q_set_1r, q_set_1n, q_set_1N, q_set_s, q_set_1j, q_bk_v, q_bk_n, q_if, zb_ite, cond_true, cond_false, List.getElem?_cons_zero, List.getElem?_cons_succ, Nat.reduceAdd, hd, q_aC, q_ix, q_in, Nat.reduceLT, setD_s, s1, if_true, if_false, zb_eq0, zb_eq1, zn_1, not_true_eq_false, not_false_eq_true, ite_true, ite_false, if_true, if_false, q_iret_0, q_iret_1, decide_true, decide_false, decide_not, zb_t, zb_f, z10, z01, cond_true, cond_false, Bool.and_true, Bool.true_and, Bool.and_false, Bool.false_and, Bool.not_true, Bool.not_false, true_and, and_true, false_and, and_false, true_or, or_true, false_or, or_false, Bool.true_eq_false, Bool.false_eq_true, eq_self, reduceCtorEq])
    · simp only [Bool.false_and, cond_false, nz_A, nz_D]
  · rw [c1] at s1
    cases c2 : allowed M (settled M (dUp (dUp (dUp D 22 (zn (nv M 1))) 24 w) 1 t)).2
    · rw [c2] at s2
      refine ⟨setA (setD M (settled M (dUp (dUp (dUp D 22 (zn (nv M 1))) 24 w) 1 t)).2) A, ?_, ?_⟩
      · (simp only [e_X9_open, zo_iload, zo_lload, zo_aload, zo_istore, zo_lstore, zo_astore, zo_iinc, zo_pushI, zo_pushL, zo_null, zo_ii, zo_iid, zo_ll, zo_li, zo_lcmp, zo_i2l, zo_l2i, zo_dup, zo_dup2, zo_pop, zo_goto, zo_if, zo_icmp, zo_ifnull, zo_gets, zo_mm, zo_throw, zo_ret, zo_aret, zo_lret, q_iret_f, q_iret_1, q_iret_0, q_iret_b, q_c8_0, q_c8_1, q_c8_2, q_c8_3, q_c8_4, q_set_0, q_set_1i, q_set_1r, q_set_1n, q_set_1N, q_set_s, q_set_1j, q_bk_v, q_bk_n, q_if, zb_ite, cond_true, cond_false, List.getElem?_cons_zero, List.getElem?_cons_succ, Nat.reduceAdd, hd, q_aC, q_ix, q_in, Nat.reduceLT, setD_s, s1, s2, if_true, if_false, zb_eq0, zb_eq1, zn_1, not_true_eq_false, not_false_eq_true, ite_true, ite_false, if_true, if_false, q_iret_0, q_iret_1, decide_true, decide_false, decide_not, zb_t, zb_f, z10, z01, cond_true, cond_false, Bool.and_true, Bool.true_and, Bool.and_false, Bool.false_and, Bool.not_true, Bool.not_false, true_and, and_true, false_and, and_false, true_or, or_true, false_or, or_false, Bool.true_eq_false, Bool.false_eq_true, eq_self, reduceCtorEq])
      · simp only [Bool.and_false, cond_false, nz_A, nz_D]
    · rw [c2] at s2
      have h17 : M'.1 1 7 = M.1 1 7 := by
        have h7 : (nz M').1 1 7 = (nz M).1 1 7 := by
          rw [s4]
          exact Wr_o (fun _ => ⟨by decide, by decide⟩) (by decide) (by decide)
        exact h7
      cases c3 : (aWr (nz M) (nv M 1) (settled M (dUp (dUp (dUp D 22 (zn (nv M 1))) 24 w) 1 t)).2).1
      · rw [c3] at s3
        refine ⟨M', ?_, ?_⟩
        · (simp only [e_X9_open, zo_iload, zo_lload, zo_aload, zo_istore, zo_lstore, zo_astore, zo_iinc, zo_pushI, zo_pushL, zo_null, zo_ii, zo_iid, zo_ll, zo_li, zo_lcmp, zo_i2l, zo_l2i, zo_dup, zo_dup2, zo_pop, zo_goto, zo_if, zo_icmp, zo_ifnull, zo_gets, zo_mm, zo_throw, zo_ret, zo_aret, zo_lret, q_iret_f, q_iret_1, q_iret_0, q_iret_b, q_c8_0, q_c8_1, q_c8_2, q_c8_3, q_c8_4, q_set_0, q_set_1i, q_set_1r, q_set_1n, q_set_1N, q_set_s, q_set_1j, q_bk_v, q_bk_n, q_if, zb_ite, cond_true, cond_false, List.getElem?_cons_zero, List.getElem?_cons_succ, Nat.reduceAdd, hd, q_aC, q_ix, q_in, Nat.reduceLT, setD_s, s1, s2, s3, c3, if_true, if_false, zb_eq0, zb_eq1, zn_1, not_true_eq_false, not_false_eq_true, ite_true, ite_false, if_true, if_false, q_iret_0, q_iret_1, decide_true, decide_false, decide_not, zb_t, zb_f, z10, z01, cond_true, cond_false, Bool.and_true, Bool.true_and, Bool.and_false, Bool.false_and, Bool.not_true, Bool.not_false, true_and, and_true, false_and, and_false, true_or, or_true, false_or, or_false, Bool.true_eq_false, Bool.false_eq_true, eq_self, reduceCtorEq])
        · simp only [Bool.and_self, cond_true, c3, cond_false]
          exact s4
      · rw [c3] at s3
        refine ⟨zz_sI M' 16 (nv M 1) (M.1 1 7), ?_, ?_⟩
        · (simp only [e_X9_open, zo_iload, zo_lload, zo_aload, zo_istore, zo_lstore, zo_astore, zo_iinc, zo_pushI, zo_pushL, zo_null, zo_ii, zo_iid, zo_ll, zo_li, zo_lcmp, zo_i2l, zo_l2i, zo_dup, zo_dup2, zo_pop, zo_goto, zo_if, zo_icmp, zo_ifnull, zo_gets, zo_mm, zo_throw, zo_ret, zo_aret, zo_lret, q_iret_f, q_iret_1, q_iret_0, q_iret_b, q_c8_0, q_c8_1, q_c8_2, q_c8_3, q_c8_4, q_set_0, q_set_1i, q_set_1r, q_set_1n, q_set_1N, q_set_s, q_set_1j, q_bk_v, q_bk_n, q_if, zb_ite, cond_true, cond_false, List.getElem?_cons_zero, List.getElem?_cons_succ, Nat.reduceAdd, hd, q_aC, q_ix, q_in, Nat.reduceLT, setD_s, s1, s2, s3, b1, x1, h17, c3, if_true, if_false, zb_eq0, zb_eq1, zn_1, not_true_eq_false, not_false_eq_true, ite_true, ite_false, if_true, if_false, q_iret_0, q_iret_1, decide_true, decide_false, decide_not, zb_t, zb_f, z10, z01, cond_true, cond_false, Bool.and_true, Bool.true_and, Bool.and_false, Bool.false_and, Bool.not_true, Bool.not_false, true_and, and_true, false_and, and_false, true_or, or_true, false_or, or_false, Bool.true_eq_false, Bool.false_eq_true, eq_self, reduceCtorEq])
        · rw [nz_sI rfl, s4]
          simp only [Bool.and_self, cond_true, c3]
theorem sp_open {M : zzMd} (W : zIC M) (m k w t : Int32) :
    ∃ M', fX9_open [.ref 1, .int m, .int k, .int w, .int t] M = some (.inl (some (.int (aOpen (nz M) m k w t).1)), M') ∧ nz M' = (aOpen (nz M) m k w t).2 := by
  obtain ⟨-, ⟨hk, hn60⟩, -⟩ := W.1
  have hl := sp_livingPods W
  unfold aOpen
  rw [liveP_nz, show nv (nz M) 1 = nv M 1 from rfl, show (nz M).1 2 5 = M.1 2 5 from rfl, show (nz M).1 1 7 = M.1 1 7 from rfl, s_X9_open]
  by_cases h1 : 60 ≤ nv M 1
  · rw [if_pos (Or.inl h1)]
    have c1 : ((60 : Int32) ≤ zn (nv M 1)) = True := zn_le (a := 60) (b := nv M 1) (by decide) (by omega) ▸ eq_true h1
    refine ⟨M, ?_, rfl⟩
    (simp only [e_X9_open, zo_iload, zo_lload, zo_aload, zo_istore, zo_lstore, zo_astore, zo_iinc, zo_pushI, zo_pushL, zo_null, zo_ii, zo_iid, zo_ll, zo_li, zo_lcmp, zo_i2l, zo_l2i, zo_dup, zo_dup2, zo_pop, zo_goto, zo_if, zo_icmp, zo_ifnull, zo_gets, zo_mm, zo_throw, zo_ret, zo_aret, zo_lret, q_iret_f, q_iret_1, q_iret_0, q_iret_b, q_c8_0, q_c8_1, q_c8_2, q_c8_3, q_c8_4, q_set_0, q_set_1i, q_set_1r, q_set_1n, q_set_1N, q_set_s, q_set_1j, q_bk_v, q_bk_n, q_if, zb_ite, cond_true, cond_false, List.getElem?_cons_zero, List.getElem?_cons_succ, Nat.reduceAdd, hk, c1, if_true, if_false, zb_eq0, zb_eq1, zn_1, not_true_eq_false, not_false_eq_true, ite_true, ite_false, if_true, if_false, q_iret_0, q_iret_1, decide_true, decide_false, decide_not, zb_t, zb_f, z10, z01, cond_true, cond_false, Bool.and_true, Bool.true_and, Bool.and_false, Bool.false_and, Bool.not_true, Bool.not_false, true_and, and_true, false_and, and_false, true_or, or_true, false_or, or_false, Bool.true_eq_false, Bool.false_eq_true, eq_self, reduceCtorEq])
  · have c1 : ((60 : Int32) ≤ zn (nv M 1)) = False := zo_60 (by omega)
    obtain ⟨M', d1, d2⟩ := sp_openD W m k w t (by omega)
    by_cases h2 : k = 2
    · subst h2
      by_cases h3 : zn (liveP M) < M.1 2 5
      · rw [if_neg (by rintro (a | a); exact h1 a; exact a.2 h3)]
        refine ⟨M', ?_, ?_⟩
        · (simp only [e_X9_open, zo_iload, zo_lload, zo_aload, zo_istore, zo_lstore, zo_astore, zo_iinc, zo_pushI, zo_pushL, zo_null, zo_ii, zo_iid, zo_ll, zo_li, zo_lcmp, zo_i2l, zo_l2i, zo_dup, zo_dup2, zo_pop, zo_goto, zo_if, zo_icmp, zo_ifnull, zo_gets, zo_mm, zo_throw, zo_ret, zo_aret, zo_lret, q_iret_f, q_iret_1, q_iret_0, q_iret_b, q_c8_0, q_c8_1, q_c8_2, q_c8_3, q_c8_4, q_set_0, q_set_1i, q_set_1r, q_set_1n, q_set_1N, q_set_s, q_set_1j, q_bk_v, q_bk_n, q_if, zb_ite, cond_true, cond_false, List.getElem?_cons_zero, List.getElem?_cons_succ, Nat.reduceAdd, ↓d1, hk, c1, hl, h3, q_c1, if_true, if_false, zb_eq0, zb_eq1, zn_1, not_true_eq_false, not_false_eq_true, ite_true, ite_false, if_true, if_false, q_iret_0, q_iret_1, decide_true, decide_false, decide_not, zb_t, zb_f, z10, z01, cond_true, cond_false, Bool.and_true, Bool.true_and, Bool.and_false, Bool.false_and, Bool.not_true, Bool.not_false, true_and, and_true, false_and, and_false, true_or, or_true, false_or, or_false, Bool.true_eq_false, Bool.false_eq_true, eq_self, reduceCtorEq])
        · rw [d2, q_c2]
      · rw [if_pos (Or.inr ⟨rfl, h3⟩)]
        refine ⟨M, ?_, rfl⟩
        (simp only [e_X9_open, zo_iload, zo_lload, zo_aload, zo_istore, zo_lstore, zo_astore, zo_iinc, zo_pushI, zo_pushL, zo_null, zo_ii, zo_iid, zo_ll, zo_li, zo_lcmp, zo_i2l, zo_l2i, zo_dup, zo_dup2, zo_pop, zo_goto, zo_if, zo_icmp, zo_ifnull, zo_gets, zo_mm, zo_throw, zo_ret, zo_aret, zo_lret, q_iret_f, q_iret_1, q_iret_0, q_iret_b, q_c8_0, q_c8_1, q_c8_2, q_c8_3, q_c8_4, q_set_0, q_set_1i, q_set_1r, q_set_1n, q_set_1N, q_set_s, q_set_1j, q_bk_v, q_bk_n, q_if, zb_ite, cond_true, cond_false, List.getElem?_cons_zero, List.getElem?_cons_succ, Nat.reduceAdd, hk, c1, hl, h3, if_true, if_false, zb_eq0, zb_eq1, zn_1, not_true_eq_false, not_false_eq_true, ite_true, ite_false, if_true, if_false, q_iret_0, q_iret_1, decide_true, decide_false, decide_not, zb_t, zb_f, z10, z01, cond_true, cond_false, Bool.and_true, Bool.true_and, Bool.and_false, Bool.false_and, Bool.not_true, Bool.not_false, true_and, and_true, false_and, and_false, true_or, or_true, false_or, or_false, Bool.true_eq_false, Bool.false_eq_true, eq_self, reduceCtorEq])
    · rw [if_neg (by rintro (a | a); exact h1 a; exact h2 a.1)]
      refine ⟨M', ?_, ?_⟩
      · (simp only [e_X9_open, zo_iload, zo_lload, zo_aload, zo_istore, zo_lstore, zo_astore, zo_iinc, zo_pushI, zo_pushL, zo_null, zo_ii, zo_iid, zo_ll, zo_li, zo_lcmp, zo_i2l, zo_l2i, zo_dup, zo_dup2, zo_pop, zo_goto, zo_if, zo_icmp, zo_ifnull, zo_gets, zo_mm, zo_throw, zo_ret, zo_aret, zo_lret, q_iret_f, q_iret_1, q_iret_0, q_iret_b, q_c8_0, q_c8_1, q_c8_2, q_c8_3, q_c8_4, q_set_0, q_set_1i, q_set_1r, q_set_1n, q_set_1N, q_set_s, q_set_1j, q_bk_v, q_bk_n, q_if, zb_ite, cond_true, cond_false, List.getElem?_cons_zero, List.getElem?_cons_succ, Nat.reduceAdd, ↓d1, hk, c1, hl, h2, q_c1, if_true, if_false, zb_eq0, zb_eq1, zn_1, not_true_eq_false, not_false_eq_true, ite_true, ite_false, if_true, if_false, q_iret_0, q_iret_1, decide_true, decide_false, decide_not, zb_t, zb_f, z10, z01, cond_true, cond_false, Bool.and_true, Bool.true_and, Bool.and_false, Bool.false_and, Bool.not_true, Bool.not_false, true_and, and_true, false_and, and_false, true_or, or_true, false_or, or_false, Bool.true_eq_false, Bool.false_eq_true, eq_self, reduceCtorEq])
      · rw [d2, q_c2]
end

section
/-! the keys that come by an event, in both -/
section
variable {A R : zzMd} {c : Nat}
def bIs (A : zzMd) (v i : Nat) : Bool := !gone A v (zn i)
def bPod (A R : zzMd) (v i : Nat) : Bool := bIs A v i && decide (R.1 6 i = 2)
def bFree (A R : zzMd) (v i : Nat) : Bool := bPod A R v i && (decide (rd A v (zn i) 25 = 0) && (decide (rd A v (zn i) 29 = 0) && decide (rd A v (zn i) 28 + 1 = 0)))
def bIts (A R : zzMd) (v i : Nat) (x : Int32) : Bool := bPod A R v i && decide (rd A v (zn i) 28 + 1 = x + 1)
def bOwn (A : zzMd) (v i : Nat) (x : Int32) : Bool := bIs A v i && decide (rd A v (zn i) 24 = x)
def bDo (A R : zzMd) (v i : Nat) (x : Int32) (q : Nat) : Bool := match q with
  | 0 => bIs A v i && decide (R.1 6 i = 5)
  | 1 => bFree A R v i
  | 2 => bIts A R v i x
  | _ => bOwn A v i x
theorem seen_of (H : rAt A R c) {i : Nat} (hi : i < 60) (h : gone A (3 + c) (zn i) = false) : i < nv A (3 + c) := by
  by_cases q : i < nv A (3 + c)
  · exact q
  · have h2 : rd A (3 + c) (zn i) 25 = 4 := rv_un H (s := 25) hi (by decide) q
    unfold gone at h
    rw [h2] at h
    exact absurd h (by decide)
theorem r_comeStep (H : rAt A R c) {i : Nat} (hi : i < nv A 1) (q : Nat) (hq : q < 4) (x s : Int32) (j5 j6 j7 j8 j9 j10 : Option Int32) : ∃ k5 k6 k7 k8 k9 : Option Int32,
    zz_ev tX12_comeAll 5 [some (.ref 0), some (.int (zn q)), some (.int x), some (.int s), some (.int (zn i)), zj j5, zj j6, zj j7, zj j8, zj j9, zj j10] [] R =
    zz_ev tX12_comeAll 205 [some (.ref 0), some (.int (zn q)), some (.int x), some (.int s), some (.int (zn i)), zj k5, zj k6, zj k7, zj k8, zj k9, some (.int (zb (bDo A R (3 + c) i x q)))] [.int (zb (bDo A R (3 + c) i x q)), .int s] R := by
  have h60 := lt_n60 H.1 hi
  have hc := zk_in hi (rl_n60 H.1)
  have n5 := H.1.2.1.1.2
  obtain ⟨b1, x1⟩ := kinds_o i h60
  have hg := r_goneT H h60
  have hvw := r_view H h60
  refine ⟨some (zb (bIs A (3 + c) i)), some (zb (bPod A R (3 + c) i)), some (zb (bFree A R (3 + c) i)), some (zb (bIts A R (3 + c) i x)), some (zb (bOwn A (3 + c) i x)), ?_⟩
  have s1 : zz_ev tX12_comeAll 5 [some (.ref 0), some (.int (zn q)), some (.int x), some (.int s), some (.int (zn i)), zj j5, zj j6, zj j7, zj j8, zj j9, zj j10] [] R =
      zz_ev tX12_comeAll 32 [some (.ref 0), some (.int (zn q)), some (.int x), some (.int s), some (.int (zn i)), some (.int (zb (bIs A (3 + c) i))), zj j6, zj j7, zj j8, zj j9, zj j10] [.int (zb (bIs A (3 + c) i))] R := by
    generalize hZ : (fun b : Int32 => zz_ev tX12_comeAll 32 [some (.ref 0), some (.int (zn q)), some (.int x), some (.int s), some (.int (zn i)), some (.int b), zj j6, zj j7, zj j8, zj j9, zj j10] [.int b] R) = Z
    have hZ' : ∀ b : Int32, zz_ev tX12_comeAll 32 [some (.ref 0), some (.int (zn q)), some (.int x), some (.int s), some (.int (zn i)), some (.int b), zj j6, zj j7, zj j8, zj j9, zj j10] [.int b] R = Z b := fun b => by rw [← hZ]
    rw [hZ']
    clear hZ
    unfold bIs
    cases g : gone A (3 + c) (zn i) <;> (rw [e_X12_comeAll_5]; simp only [e_X12_comeAll, zo_iload, zo_lload, zo_aload, zo_istore, zo_lstore, zo_astore, zo_iinc, zo_pushI, zo_pushL, zo_null, zo_ii, zo_iid, zo_ll, zo_li, zo_lcmp, zo_i2l, zo_l2i, zo_dup, zo_dup2, zo_pop, zo_goto, zo_if, zo_icmp, zo_ifnull, zo_gets, zo_mm, zo_throw, zo_ret, zo_aret, zo_lret, q_iret_f, q_iret_1, q_iret_0, q_iret_b, q_c8_0, q_c8_1, q_c8_2, q_c8_3, q_c8_4, q_set_0, q_set_1i, q_set_1r, q_set_1n, q_set_1N, q_set_s, q_set_1j, q_bk_v, q_bk_n, q_if, zb_ite, cond_true, cond_false, List.getElem?_cons_zero, List.getElem?_cons_succ, Nat.reduceAdd, q_set_1l, q_set2_0, q_set2_1i, q_set2_1r, q_set2_1n, q_set2_s, ↓hZ', n5, hc, hg, g, if_true, if_false, zb_eq0, zb_eq1, zn_1, not_true_eq_false, not_false_eq_true, ite_true, ite_false, if_true, if_false, q_iret_0, q_iret_1, decide_true, decide_false, decide_not, zb_t, zb_f, z10, z01, cond_true, cond_false, Bool.and_true, Bool.true_and, Bool.and_false, Bool.false_and, Bool.not_true, Bool.not_false, true_and, and_true, false_and, and_false, true_or, or_true, false_or, or_false, Bool.true_eq_false, Bool.false_eq_true, eq_self, reduceCtorEq, Bool.or_true, Bool.true_or, Bool.or_false, Bool.false_or])
  have s2 : ∀ b5 : Option Value, zz_ev tX12_comeAll 32 [some (.ref 0), some (.int (zn q)), some (.int x), some (.int s), some (.int (zn i)), some (.int (zb (bIs A (3 + c) i))), zj j6, zj j7, zj j8, zj j9, zj j10] [.int (zb (bIs A (3 + c) i))] R =
      zz_ev tX12_comeAll 55 [some (.ref 0), some (.int (zn q)), some (.int x), some (.int s), some (.int (zn i)), some (.int (zb (bIs A (3 + c) i))), some (.int (zb (bPod A R (3 + c) i))), zj j7, zj j8, zj j9, zj j10] [.int (zb (bPod A R (3 + c) i))] R := fun _ => by
    unfold bPod
    generalize bIs A (3 + c) i = bi
    generalize hZ : (fun b : Int32 => zz_ev tX12_comeAll 55 [some (.ref 0), some (.int (zn q)), some (.int x), some (.int s), some (.int (zn i)), some (.int (zb bi)), some (.int b), zj j7, zj j8, zj j9, zj j10] [.int b] R) = Z
    have hZ' : ∀ b : Int32, zz_ev tX12_comeAll 55 [some (.ref 0), some (.int (zn q)), some (.int x), some (.int s), some (.int (zn i)), some (.int (zb bi)), some (.int b), zj j7, zj j8, zj j9, zj j10] [.int b] R = Z b := fun b => by rw [← hZ]
    rw [hZ']
    clear hZ
    cases bi
    · simp only [zb_f] at hZ' ⊢
      (simp only [e_X12_comeAll, zo_iload, zo_lload, zo_aload, zo_istore, zo_lstore, zo_astore, zo_iinc, zo_pushI, zo_pushL, zo_null, zo_ii, zo_iid, zo_ll, zo_li, zo_lcmp, zo_i2l, zo_l2i, zo_dup, zo_dup2, zo_pop, zo_goto, zo_if, zo_icmp, zo_ifnull, zo_gets, zo_mm, zo_throw, zo_ret, zo_aret, zo_lret, q_iret_f, q_iret_1, q_iret_0, q_iret_b, q_c8_0, q_c8_1, q_c8_2, q_c8_3, q_c8_4, q_set_0, q_set_1i, q_set_1r, q_set_1n, q_set_1N, q_set_s, q_set_1j, q_bk_v, q_bk_n, q_if, zb_ite, cond_true, cond_false, List.getElem?_cons_zero, List.getElem?_cons_succ, Nat.reduceAdd, q_set_1l, q_set2_0, q_set2_1i, q_set2_1r, q_set2_1n, q_set2_s, ↓hZ', if_true, if_false, zb_eq0, zb_eq1, zn_1, not_true_eq_false, not_false_eq_true, ite_true, ite_false, if_true, if_false, q_iret_0, q_iret_1, decide_true, decide_false, decide_not, zb_t, zb_f, z10, z01, cond_true, cond_false, Bool.and_true, Bool.true_and, Bool.and_false, Bool.false_and, Bool.not_true, Bool.not_false, true_and, and_true, false_and, and_false, true_or, or_true, false_or, or_false, Bool.true_eq_false, Bool.false_eq_true, eq_self, reduceCtorEq, Bool.or_true, Bool.true_or, Bool.or_false, Bool.false_or])
    · simp only [zb_t] at hZ' ⊢
      by_cases d : R.1 6 i = 2 <;> (simp only [e_X12_comeAll, zo_iload, zo_lload, zo_aload, zo_istore, zo_lstore, zo_astore, zo_iinc, zo_pushI, zo_pushL, zo_null, zo_ii, zo_iid, zo_ll, zo_li, zo_lcmp, zo_i2l, zo_l2i, zo_dup, zo_dup2, zo_pop, zo_goto, zo_if, zo_icmp, zo_ifnull, zo_gets, zo_mm, zo_throw, zo_ret, zo_aret, zo_lret, q_iret_f, q_iret_1, q_iret_0, q_iret_b, q_c8_0, q_c8_1, q_c8_2, q_c8_3, q_c8_4, q_set_0, q_set_1i, q_set_1r, q_set_1n, q_set_1N, q_set_s, q_set_1j, q_bk_v, q_bk_n, q_if, zb_ite, cond_true, cond_false, List.getElem?_cons_zero, List.getElem?_cons_succ, Nat.reduceAdd, q_set_1l, q_set2_0, q_set2_1i, q_set2_1r, q_set2_1n, q_set2_s, ↓hZ', b1, x1, q_aR, d, if_true, if_false, zb_eq0, zb_eq1, zn_1, not_true_eq_false, not_false_eq_true, ite_true, ite_false, if_true, if_false, q_iret_0, q_iret_1, decide_true, decide_false, decide_not, zb_t, zb_f, z10, z01, cond_true, cond_false, Bool.and_true, Bool.true_and, Bool.and_false, Bool.false_and, Bool.not_true, Bool.not_false, true_and, and_true, false_and, and_false, true_or, or_true, false_or, or_false, Bool.true_eq_false, Bool.false_eq_true, eq_self, reduceCtorEq, Bool.or_true, Bool.true_or, Bool.or_false, Bool.false_or])
  have s3 : zz_ev tX12_comeAll 55 [some (.ref 0), some (.int (zn q)), some (.int x), some (.int s), some (.int (zn i)), some (.int (zb (bIs A (3 + c) i))), some (.int (zb (bPod A R (3 + c) i))), zj j7, zj j8, zj j9, zj j10] [.int (zb (bPod A R (3 + c) i))] R =
      zz_ev tX12_comeAll 100 [some (.ref 0), some (.int (zn q)), some (.int x), some (.int s), some (.int (zn i)), some (.int (zb (bIs A (3 + c) i))), some (.int (zb (bPod A R (3 + c) i))), some (.int (zb (bFree A R (3 + c) i))), zj j8, zj j9, zj j10] [.int (zb (bPod A R (3 + c) i))] R := by
    unfold bFree
    generalize zb (bIs A (3 + c) i) = bi
    have hsn : bPod A R (3 + c) i = true → i < nv A (3 + c) := fun h => by
      unfold bPod bIs at h
      rw [Bool.and_eq_true] at h
      exact seen_of H h60 (by simpa using h.1)
    generalize bPod A R (3 + c) i = bp at hsn ⊢
    generalize hZ : (fun b : Int32 => zz_ev tX12_comeAll 100 [some (.ref 0), some (.int (zn q)), some (.int x), some (.int s), some (.int (zn i)), some (.int bi), some (.int (zb bp)), some (.int b), zj j8, zj j9, zj j10] [.int (zb bp)] R) = Z
    have hZ' : ∀ b : Int32, zz_ev tX12_comeAll 100 [some (.ref 0), some (.int (zn q)), some (.int x), some (.int s), some (.int (zn i)), some (.int bi), some (.int (zb bp)), some (.int b), zj j8, zj j9, zj j10] [.int (zb bp)] R = Z b := fun b => by rw [← hZ]
    rw [hZ']
    clear hZ
    cases bp
    · simp only [zb_f] at hZ' ⊢
      (simp only [e_X12_comeAll, zo_iload, zo_lload, zo_aload, zo_istore, zo_lstore, zo_astore, zo_iinc, zo_pushI, zo_pushL, zo_null, zo_ii, zo_iid, zo_ll, zo_li, zo_lcmp, zo_i2l, zo_l2i, zo_dup, zo_dup2, zo_pop, zo_goto, zo_if, zo_icmp, zo_ifnull, zo_gets, zo_mm, zo_throw, zo_ret, zo_aret, zo_lret, q_iret_f, q_iret_1, q_iret_0, q_iret_b, q_c8_0, q_c8_1, q_c8_2, q_c8_3, q_c8_4, q_set_0, q_set_1i, q_set_1r, q_set_1n, q_set_1N, q_set_s, q_set_1j, q_bk_v, q_bk_n, q_if, zb_ite, cond_true, cond_false, List.getElem?_cons_zero, List.getElem?_cons_succ, Nat.reduceAdd, q_set_1l, q_set2_0, q_set2_1i, q_set2_1r, q_set2_1n, q_set2_s, ↓hZ', if_true, if_false, zb_eq0, zb_eq1, zn_1, not_true_eq_false, not_false_eq_true, ite_true, ite_false, if_true, if_false, q_iret_0, q_iret_1, decide_true, decide_false, decide_not, zb_t, zb_f, z10, z01, cond_true, cond_false, Bool.and_true, Bool.true_and, Bool.and_false, Bool.false_and, Bool.not_true, Bool.not_false, true_and, and_true, false_and, and_false, true_or, or_true, false_or, or_false, Bool.true_eq_false, Bool.false_eq_true, eq_self, reduceCtorEq, Bool.or_true, Bool.true_or, Bool.or_false, Bool.false_or])
    · simp only [zb_t] at hZ' ⊢
      obtain ⟨-, -, v13, -, v15, v16⟩ := r_vw H (hsn rfl)
      by_cases d : rd A (3 + c) (zn i) 25 = 0
      · by_cases d2 : rd A (3 + c) (zn i) 29 = 0
        · by_cases d3 : rd A (3 + c) (zn i) 28 + 1 = 0 <;> (simp only [e_X12_comeAll, zo_iload, zo_lload, zo_aload, zo_istore, zo_lstore, zo_astore, zo_iinc, zo_pushI, zo_pushL, zo_null, zo_ii, zo_iid, zo_ll, zo_li, zo_lcmp, zo_i2l, zo_l2i, zo_dup, zo_dup2, zo_pop, zo_goto, zo_if, zo_icmp, zo_ifnull, zo_gets, zo_mm, zo_throw, zo_ret, zo_aret, zo_lret, q_iret_f, q_iret_1, q_iret_0, q_iret_b, q_c8_0, q_c8_1, q_c8_2, q_c8_3, q_c8_4, q_set_0, q_set_1i, q_set_1r, q_set_1n, q_set_1N, q_set_s, q_set_1j, q_bk_v, q_bk_n, q_if, zb_ite, cond_true, cond_false, List.getElem?_cons_zero, List.getElem?_cons_succ, Nat.reduceAdd, q_set_1l, q_set2_0, q_set2_1i, q_set2_1r, q_set2_1n, q_set2_s, ↓hZ', v13, v15, v16, d, d2, d3, if_true, if_false, zb_eq0, zb_eq1, zn_1, not_true_eq_false, not_false_eq_true, ite_true, ite_false, if_true, if_false, q_iret_0, q_iret_1, decide_true, decide_false, decide_not, zb_t, zb_f, z10, z01, cond_true, cond_false, Bool.and_true, Bool.true_and, Bool.and_false, Bool.false_and, Bool.not_true, Bool.not_false, true_and, and_true, false_and, and_false, true_or, or_true, false_or, or_false, Bool.true_eq_false, Bool.false_eq_true, eq_self, reduceCtorEq, Bool.or_true, Bool.true_or, Bool.or_false, Bool.false_or])
        · (simp only [e_X12_comeAll, zo_iload, zo_lload, zo_aload, zo_istore, zo_lstore, zo_astore, zo_iinc, zo_pushI, zo_pushL, zo_null, zo_ii, zo_iid, zo_ll, zo_li, zo_lcmp, zo_i2l, zo_l2i, zo_dup, zo_dup2, zo_pop, zo_goto, zo_if, zo_icmp, zo_ifnull, zo_gets, zo_mm, zo_throw, zo_ret, zo_aret, zo_lret, q_iret_f, q_iret_1, q_iret_0, q_iret_b, q_c8_0, q_c8_1, q_c8_2, q_c8_3, q_c8_4, q_set_0, q_set_1i, q_set_1r, q_set_1n, q_set_1N, q_set_s, q_set_1j, q_bk_v, q_bk_n, q_if, zb_ite, cond_true, cond_false, List.getElem?_cons_zero, List.getElem?_cons_succ, Nat.reduceAdd, q_set_1l, q_set2_0, q_set2_1i, q_set2_1r, q_set2_1n, q_set2_s, ↓hZ', v13, v15, v16, d, d2, if_true, if_false, zb_eq0, zb_eq1, zn_1, not_true_eq_false, not_false_eq_true, ite_true, ite_false, if_true, if_false, q_iret_0, q_iret_1, decide_true, decide_false, decide_not, zb_t, zb_f, z10, z01, cond_true, cond_false, Bool.and_true, Bool.true_and, Bool.and_false, Bool.false_and, Bool.not_true, Bool.not_false, true_and, and_true, false_and, and_false, true_or, or_true, false_or, or_false, Bool.true_eq_false, Bool.false_eq_true, eq_self, reduceCtorEq, Bool.or_true, Bool.true_or, Bool.or_false, Bool.false_or])
      · (simp only [e_X12_comeAll, zo_iload, zo_lload, zo_aload, zo_istore, zo_lstore, zo_astore, zo_iinc, zo_pushI, zo_pushL, zo_null, zo_ii, zo_iid, zo_ll, zo_li, zo_lcmp, zo_i2l, zo_l2i, zo_dup, zo_dup2, zo_pop, zo_goto, zo_if, zo_icmp, zo_ifnull, zo_gets, zo_mm, zo_throw, zo_ret, zo_aret, zo_lret, q_iret_f, q_iret_1, q_iret_0, q_iret_b, q_c8_0, q_c8_1, q_c8_2, q_c8_3, q_c8_4, q_set_0, q_set_1i, q_set_1r, q_set_1n, q_set_1N, q_set_s, q_set_1j, q_bk_v, q_bk_n, q_if, zb_ite, cond_true, cond_false, List.getElem?_cons_zero, List.getElem?_cons_succ, Nat.reduceAdd, q_set_1l, q_set2_0, q_set2_1i, q_set2_1r, q_set2_1n, q_set2_s, ↓hZ', v13, d, if_true, if_false, zb_eq0, zb_eq1, zn_1, not_true_eq_false, not_false_eq_true, ite_true, ite_false, if_true, if_false, q_iret_0, q_iret_1, decide_true, decide_false, decide_not, zb_t, zb_f, z10, z01, cond_true, cond_false, Bool.and_true, Bool.true_and, Bool.and_false, Bool.false_and, Bool.not_true, Bool.not_false, true_and, and_true, false_and, and_false, true_or, or_true, false_or, or_false, Bool.true_eq_false, Bool.false_eq_true, eq_self, reduceCtorEq, Bool.or_true, Bool.true_or, Bool.or_false, Bool.false_or])
  have s4 : zz_ev tX12_comeAll 100 [some (.ref 0), some (.int (zn q)), some (.int x), some (.int s), some (.int (zn i)), some (.int (zb (bIs A (3 + c) i))), some (.int (zb (bPod A R (3 + c) i))), some (.int (zb (bFree A R (3 + c) i))), zj j8, zj j9, zj j10] [.int (zb (bPod A R (3 + c) i))] R =
      zz_ev tX12_comeAll 126 [some (.ref 0), some (.int (zn q)), some (.int x), some (.int s), some (.int (zn i)), some (.int (zb (bIs A (3 + c) i))), some (.int (zb (bPod A R (3 + c) i))), some (.int (zb (bFree A R (3 + c) i))), some (.int (zb (bIts A R (3 + c) i x))), zj j9, zj j10] [.int (zb (bIs A (3 + c) i))] R := by
    unfold bIts
    have hsn : bPod A R (3 + c) i = true → i < nv A (3 + c) := fun h => by
      unfold bPod bIs at h
      rw [Bool.and_eq_true] at h
      exact seen_of H h60 (by simpa using h.1)
    generalize zb (bIs A (3 + c) i) = bi
    generalize zb (bFree A R (3 + c) i) = bf
    generalize bPod A R (3 + c) i = bp at hsn ⊢
    generalize hZ : (fun b : Int32 => zz_ev tX12_comeAll 126 [some (.ref 0), some (.int (zn q)), some (.int x), some (.int s), some (.int (zn i)), some (.int bi), some (.int (zb bp)), some (.int bf), some (.int b), zj j9, zj j10] [.int bi] R) = Z
    have hZ' : ∀ b : Int32, zz_ev tX12_comeAll 126 [some (.ref 0), some (.int (zn q)), some (.int x), some (.int s), some (.int (zn i)), some (.int bi), some (.int (zb bp)), some (.int bf), some (.int b), zj j9, zj j10] [.int bi] R = Z b := fun b => by rw [← hZ]
    rw [hZ']
    clear hZ
    cases bp
    · simp only [zb_f] at hZ' ⊢
      (simp only [e_X12_comeAll, zo_iload, zo_lload, zo_aload, zo_istore, zo_lstore, zo_astore, zo_iinc, zo_pushI, zo_pushL, zo_null, zo_ii, zo_iid, zo_ll, zo_li, zo_lcmp, zo_i2l, zo_l2i, zo_dup, zo_dup2, zo_pop, zo_goto, zo_if, zo_icmp, zo_ifnull, zo_gets, zo_mm, zo_throw, zo_ret, zo_aret, zo_lret, q_iret_f, q_iret_1, q_iret_0, q_iret_b, q_c8_0, q_c8_1, q_c8_2, q_c8_3, q_c8_4, q_set_0, q_set_1i, q_set_1r, q_set_1n, q_set_1N, q_set_s, q_set_1j, q_bk_v, q_bk_n, q_if, zb_ite, cond_true, cond_false, List.getElem?_cons_zero, List.getElem?_cons_succ, Nat.reduceAdd, q_set_1l, q_set2_0, q_set2_1i, q_set2_1r, q_set2_1n, q_set2_s, ↓hZ', if_true, if_false, zb_eq0, zb_eq1, zn_1, not_true_eq_false, not_false_eq_true, ite_true, ite_false, if_true, if_false, q_iret_0, q_iret_1, decide_true, decide_false, decide_not, zb_t, zb_f, z10, z01, cond_true, cond_false, Bool.and_true, Bool.true_and, Bool.and_false, Bool.false_and, Bool.not_true, Bool.not_false, true_and, and_true, false_and, and_false, true_or, or_true, false_or, or_false, Bool.true_eq_false, Bool.false_eq_true, eq_self, reduceCtorEq, Bool.or_true, Bool.true_or, Bool.or_false, Bool.false_or])
    · simp only [zb_t] at hZ' ⊢
      obtain ⟨-, -, v13, -, v15, v16⟩ := r_vw H (hsn rfl)
      by_cases d : rd A (3 + c) (zn i) 28 + 1 = x + 1 <;> (simp only [e_X12_comeAll, zo_iload, zo_lload, zo_aload, zo_istore, zo_lstore, zo_astore, zo_iinc, zo_pushI, zo_pushL, zo_null, zo_ii, zo_iid, zo_ll, zo_li, zo_lcmp, zo_i2l, zo_l2i, zo_dup, zo_dup2, zo_pop, zo_goto, zo_if, zo_icmp, zo_ifnull, zo_gets, zo_mm, zo_throw, zo_ret, zo_aret, zo_lret, q_iret_f, q_iret_1, q_iret_0, q_iret_b, q_c8_0, q_c8_1, q_c8_2, q_c8_3, q_c8_4, q_set_0, q_set_1i, q_set_1r, q_set_1n, q_set_1N, q_set_s, q_set_1j, q_bk_v, q_bk_n, q_if, zb_ite, cond_true, cond_false, List.getElem?_cons_zero, List.getElem?_cons_succ, Nat.reduceAdd, q_set_1l, q_set2_0, q_set2_1i, q_set2_1r, q_set2_1n, q_set2_s, ↓hZ', v15, d, if_true, if_false, zb_eq0, zb_eq1, zn_1, not_true_eq_false, not_false_eq_true, ite_true, ite_false, if_true, if_false, q_iret_0, q_iret_1, decide_true, decide_false, decide_not, zb_t, zb_f, z10, z01, cond_true, cond_false, Bool.and_true, Bool.true_and, Bool.and_false, Bool.false_and, Bool.not_true, Bool.not_false, true_and, and_true, false_and, and_false, true_or, or_true, false_or, or_false, Bool.true_eq_false, Bool.false_eq_true, eq_self, reduceCtorEq, Bool.or_true, Bool.true_or, Bool.or_false, Bool.false_or])
  have s5 : zz_ev tX12_comeAll 126 [some (.ref 0), some (.int (zn q)), some (.int x), some (.int s), some (.int (zn i)), some (.int (zb (bIs A (3 + c) i))), some (.int (zb (bPod A R (3 + c) i))), some (.int (zb (bFree A R (3 + c) i))), some (.int (zb (bIts A R (3 + c) i x))), zj j9, zj j10] [.int (zb (bIs A (3 + c) i))] R =
      zz_ev tX12_comeAll 151 [some (.ref 0), some (.int (zn q)), some (.int x), some (.int s), some (.int (zn i)), some (.int (zb (bIs A (3 + c) i))), some (.int (zb (bPod A R (3 + c) i))), some (.int (zb (bFree A R (3 + c) i))), some (.int (zb (bIts A R (3 + c) i x))), some (.int (zb (bOwn A (3 + c) i x))), zj j10] [.int (zn q)] R := by
    unfold bOwn
    have hsn : bIs A (3 + c) i = true → i < nv A (3 + c) := fun h => by
      unfold bIs at h
      exact seen_of H h60 (by simpa using h)
    generalize zb (bPod A R (3 + c) i) = bp
    generalize zb (bFree A R (3 + c) i) = bf
    generalize zb (bIts A R (3 + c) i x) = bt
    generalize bIs A (3 + c) i = bi at hsn ⊢
    generalize hZ : (fun b : Int32 => zz_ev tX12_comeAll 151 [some (.ref 0), some (.int (zn q)), some (.int x), some (.int s), some (.int (zn i)), some (.int (zb bi)), some (.int bp), some (.int bf), some (.int bt), some (.int b), zj j10] [.int (zn q)] R) = Z
    have hZ' : ∀ b : Int32, zz_ev tX12_comeAll 151 [some (.ref 0), some (.int (zn q)), some (.int x), some (.int s), some (.int (zn i)), some (.int (zb bi)), some (.int bp), some (.int bf), some (.int bt), some (.int b), zj j10] [.int (zn q)] R = Z b := fun b => by rw [← hZ]
    rw [hZ']
    clear hZ
    cases bi
    · simp only [zb_f] at hZ' ⊢
      (simp only [e_X12_comeAll, zo_iload, zo_lload, zo_aload, zo_istore, zo_lstore, zo_astore, zo_iinc, zo_pushI, zo_pushL, zo_null, zo_ii, zo_iid, zo_ll, zo_li, zo_lcmp, zo_i2l, zo_l2i, zo_dup, zo_dup2, zo_pop, zo_goto, zo_if, zo_icmp, zo_ifnull, zo_gets, zo_mm, zo_throw, zo_ret, zo_aret, zo_lret, q_iret_f, q_iret_1, q_iret_0, q_iret_b, q_c8_0, q_c8_1, q_c8_2, q_c8_3, q_c8_4, q_set_0, q_set_1i, q_set_1r, q_set_1n, q_set_1N, q_set_s, q_set_1j, q_bk_v, q_bk_n, q_if, zb_ite, cond_true, cond_false, List.getElem?_cons_zero, List.getElem?_cons_succ, Nat.reduceAdd, q_set_1l, q_set2_0, q_set2_1i, q_set2_1r, q_set2_1n, q_set2_s, ↓hZ', if_true, if_false, zb_eq0, zb_eq1, zn_1, not_true_eq_false, not_false_eq_true, ite_true, ite_false, if_true, if_false, q_iret_0, q_iret_1, decide_true, decide_false, decide_not, zb_t, zb_f, z10, z01, cond_true, cond_false, Bool.and_true, Bool.true_and, Bool.and_false, Bool.false_and, Bool.not_true, Bool.not_false, true_and, and_true, false_and, and_false, true_or, or_true, false_or, or_false, Bool.true_eq_false, Bool.false_eq_true, eq_self, reduceCtorEq, Bool.or_true, Bool.true_or, Bool.or_false, Bool.false_or])
    · simp only [zb_t] at hZ' ⊢
      have ho := r_ownerV H (hsn rfl)
      by_cases d : rd A (3 + c) (zn i) 24 = x <;> (simp only [e_X12_comeAll, zo_iload, zo_lload, zo_aload, zo_istore, zo_lstore, zo_astore, zo_iinc, zo_pushI, zo_pushL, zo_null, zo_ii, zo_iid, zo_ll, zo_li, zo_lcmp, zo_i2l, zo_l2i, zo_dup, zo_dup2, zo_pop, zo_goto, zo_if, zo_icmp, zo_ifnull, zo_gets, zo_mm, zo_throw, zo_ret, zo_aret, zo_lret, q_iret_f, q_iret_1, q_iret_0, q_iret_b, q_c8_0, q_c8_1, q_c8_2, q_c8_3, q_c8_4, q_set_0, q_set_1i, q_set_1r, q_set_1n, q_set_1N, q_set_s, q_set_1j, q_bk_v, q_bk_n, q_if, zb_ite, cond_true, cond_false, List.getElem?_cons_zero, List.getElem?_cons_succ, Nat.reduceAdd, q_set_1l, q_set2_0, q_set2_1i, q_set2_1r, q_set2_1n, q_set2_s, ↓hZ', hvw, ho, d, if_true, if_false, zb_eq0, zb_eq1, zn_1, not_true_eq_false, not_false_eq_true, ite_true, ite_false, if_true, if_false, q_iret_0, q_iret_1, decide_true, decide_false, decide_not, zb_t, zb_f, z10, z01, cond_true, cond_false, Bool.and_true, Bool.true_and, Bool.and_false, Bool.false_and, Bool.not_true, Bool.not_false, true_and, and_true, false_and, and_false, true_or, or_true, false_or, or_false, Bool.true_eq_false, Bool.false_eq_true, eq_self, reduceCtorEq, Bool.or_true, Bool.true_or, Bool.or_false, Bool.false_or])
  rw [s1, s2 none, s3, s4, s5]
  simp only [zj_some]
  have q4 : q = 0 ∨ q = 1 ∨ q = 2 ∨ q = 3 := by omega
  generalize zb (bPod A R (3 + c) i) = bp
  have z1 : (zn 1 : Int32) = 1 := rfl
  have z2 : (zn 2 : Int32) = 2 := rfl
  have z3 : (zn 3 : Int32) = 3 := rfl
  have z0 : (zn 0 : Int32) = 0 := rfl
  have n10 : ((1 : Int32) = 0) = False := eq_false (by decide)
  have n20 : ((2 : Int32) = 0) = False := eq_false (by decide)
  have n21 : ((2 : Int32) = 1) = False := eq_false (by decide)
  have n30 : ((3 : Int32) = 0) = False := eq_false (by decide)
  have n31 : ((3 : Int32) = 1) = False := eq_false (by decide)
  have n32 : ((3 : Int32) = 2) = False := eq_false (by decide)
  rcases q4 with rfl | rfl | rfl | rfl
  · generalize zb (bFree A R (3 + c) i) = bf
    generalize zb (bIts A R (3 + c) i x) = bt
    generalize zb (bOwn A (3 + c) i x) = bo
    unfold bDo
    simp only [z0]
    generalize bIs A (3 + c) i = bi
    cases bi
    · (simp only [e_X12_comeAll, zo_iload, zo_lload, zo_aload, zo_istore, zo_lstore, zo_astore, zo_iinc, zo_pushI, zo_pushL, zo_null, zo_ii, zo_iid, zo_ll, zo_li, zo_lcmp, zo_i2l, zo_l2i, zo_dup, zo_dup2, zo_pop, zo_goto, zo_if, zo_icmp, zo_ifnull, zo_gets, zo_mm, zo_throw, zo_ret, zo_aret, zo_lret, q_iret_f, q_iret_1, q_iret_0, q_iret_b, q_c8_0, q_c8_1, q_c8_2, q_c8_3, q_c8_4, q_set_0, q_set_1i, q_set_1r, q_set_1n, q_set_1N, q_set_s, q_set_1j, q_bk_v, q_bk_n, q_if, zb_ite, cond_true, cond_false, List.getElem?_cons_zero, List.getElem?_cons_succ, Nat.reduceAdd, q_set_1l, q_set2_0, q_set2_1i, q_set2_1r, q_set2_1n, q_set2_s, zb_f, if_true, if_false, zb_eq0, zb_eq1, zn_1, not_true_eq_false, not_false_eq_true, ite_true, ite_false, if_true, if_false, q_iret_0, q_iret_1, decide_true, decide_false, decide_not, zb_t, zb_f, z10, z01, cond_true, cond_false, Bool.and_true, Bool.true_and, Bool.and_false, Bool.false_and, Bool.not_true, Bool.not_false, true_and, and_true, false_and, and_false, true_or, or_true, false_or, or_false, Bool.true_eq_false, Bool.false_eq_true, eq_self, reduceCtorEq, Bool.or_true, Bool.true_or, Bool.or_false, Bool.false_or])
    · by_cases d : R.1 6 i = 5 <;> (simp only [e_X12_comeAll, zo_iload, zo_lload, zo_aload, zo_istore, zo_lstore, zo_astore, zo_iinc, zo_pushI, zo_pushL, zo_null, zo_ii, zo_iid, zo_ll, zo_li, zo_lcmp, zo_i2l, zo_l2i, zo_dup, zo_dup2, zo_pop, zo_goto, zo_if, zo_icmp, zo_ifnull, zo_gets, zo_mm, zo_throw, zo_ret, zo_aret, zo_lret, q_iret_f, q_iret_1, q_iret_0, q_iret_b, q_c8_0, q_c8_1, q_c8_2, q_c8_3, q_c8_4, q_set_0, q_set_1i, q_set_1r, q_set_1n, q_set_1N, q_set_s, q_set_1j, q_bk_v, q_bk_n, q_if, zb_ite, cond_true, cond_false, List.getElem?_cons_zero, List.getElem?_cons_succ, Nat.reduceAdd, q_set_1l, q_set2_0, q_set2_1i, q_set2_1r, q_set2_1n, q_set2_s, zb_t, zb_f, b1, x1, q_aR, d, if_true, if_false, zb_eq0, zb_eq1, zn_1, not_true_eq_false, not_false_eq_true, ite_true, ite_false, if_true, if_false, q_iret_0, q_iret_1, decide_true, decide_false, decide_not, zb_t, zb_f, z10, z01, cond_true, cond_false, Bool.and_true, Bool.true_and, Bool.and_false, Bool.false_and, Bool.not_true, Bool.not_false, true_and, and_true, false_and, and_false, true_or, or_true, false_or, or_false, Bool.true_eq_false, Bool.false_eq_true, eq_self, reduceCtorEq, Bool.or_true, Bool.true_or, Bool.or_false, Bool.false_or])
  · unfold bDo
    simp only [z1]
    generalize zb (bFree A R (3 + c) i) = bf
    (simp only [e_X12_comeAll, zo_iload, zo_lload, zo_aload, zo_istore, zo_lstore, zo_astore, zo_iinc, zo_pushI, zo_pushL, zo_null, zo_ii, zo_iid, zo_ll, zo_li, zo_lcmp, zo_i2l, zo_l2i, zo_dup, zo_dup2, zo_pop, zo_goto, zo_if, zo_icmp, zo_ifnull, zo_gets, zo_mm, zo_throw, zo_ret, zo_aret, zo_lret, q_iret_f, q_iret_1, q_iret_0, q_iret_b, q_c8_0, q_c8_1, q_c8_2, q_c8_3, q_c8_4, q_set_0, q_set_1i, q_set_1r, q_set_1n, q_set_1N, q_set_s, q_set_1j, q_bk_v, q_bk_n, q_if, zb_ite, cond_true, cond_false, List.getElem?_cons_zero, List.getElem?_cons_succ, Nat.reduceAdd, q_set_1l, q_set2_0, q_set2_1i, q_set2_1r, q_set2_1n, q_set2_s, n10, if_true, if_false, zb_eq0, zb_eq1, zn_1, not_true_eq_false, not_false_eq_true, ite_true, ite_false, if_true, if_false, q_iret_0, q_iret_1, decide_true, decide_false, decide_not, zb_t, zb_f, z10, z01, cond_true, cond_false, Bool.and_true, Bool.true_and, Bool.and_false, Bool.false_and, Bool.not_true, Bool.not_false, true_and, and_true, false_and, and_false, true_or, or_true, false_or, or_false, Bool.true_eq_false, Bool.false_eq_true, eq_self, reduceCtorEq, Bool.or_true, Bool.true_or, Bool.or_false, Bool.false_or])
  · unfold bDo
    simp only [z2]
    generalize zb (bIts A R (3 + c) i x) = bf
    (simp only [e_X12_comeAll, zo_iload, zo_lload, zo_aload, zo_istore, zo_lstore, zo_astore, zo_iinc, zo_pushI, zo_pushL, zo_null, zo_ii, zo_iid, zo_ll, zo_li, zo_lcmp, zo_i2l, zo_l2i, zo_dup, zo_dup2, zo_pop, zo_goto, zo_if, zo_icmp, zo_ifnull, zo_gets, zo_mm, zo_throw, zo_ret, zo_aret, zo_lret, q_iret_f, q_iret_1, q_iret_0, q_iret_b, q_c8_0, q_c8_1, q_c8_2, q_c8_3, q_c8_4, q_set_0, q_set_1i, q_set_1r, q_set_1n, q_set_1N, q_set_s, q_set_1j, q_bk_v, q_bk_n, q_if, zb_ite, cond_true, cond_false, List.getElem?_cons_zero, List.getElem?_cons_succ, Nat.reduceAdd, q_set_1l, q_set2_0, q_set2_1i, q_set2_1r, q_set2_1n, q_set2_s, n20, n21, if_true, if_false, zb_eq0, zb_eq1, zn_1, not_true_eq_false, not_false_eq_true, ite_true, ite_false, if_true, if_false, q_iret_0, q_iret_1, decide_true, decide_false, decide_not, zb_t, zb_f, z10, z01, cond_true, cond_false, Bool.and_true, Bool.true_and, Bool.and_false, Bool.false_and, Bool.not_true, Bool.not_false, true_and, and_true, false_and, and_false, true_or, or_true, false_or, or_false, Bool.true_eq_false, Bool.false_eq_true, eq_self, reduceCtorEq, Bool.or_true, Bool.true_or, Bool.or_false, Bool.false_or])
  · unfold bDo
    simp only [z3]
    generalize zb (bOwn A (3 + c) i x) = bf
    (simp only [e_X12_comeAll, zo_iload, zo_lload, zo_aload, zo_istore, zo_lstore, zo_astore, zo_iinc, zo_pushI, zo_pushL, zo_null, zo_ii, zo_iid, zo_ll, zo_li, zo_lcmp, zo_i2l, zo_l2i, zo_dup, zo_dup2, zo_pop, zo_goto, zo_if, zo_icmp, zo_ifnull, zo_gets, zo_mm, zo_throw, zo_ret, zo_aret, zo_lret, q_iret_f, q_iret_1, q_iret_0, q_iret_b, q_c8_0, q_c8_1, q_c8_2, q_c8_3, q_c8_4, q_set_0, q_set_1i, q_set_1r, q_set_1n, q_set_1N, q_set_s, q_set_1j, q_bk_v, q_bk_n, q_if, zb_ite, cond_true, cond_false, List.getElem?_cons_zero, List.getElem?_cons_succ, Nat.reduceAdd, q_set_1l, q_set2_0, q_set2_1i, q_set2_1r, q_set2_1n, q_set2_s, n30, n31, n32, if_true, if_false, zb_eq0, zb_eq1, zn_1, not_true_eq_false, not_false_eq_true, ite_true, ite_false, if_true, if_false, q_iret_0, q_iret_1, decide_true, decide_false, decide_not, zb_t, zb_f, z10, z01, cond_true, cond_false, Bool.and_true, Bool.true_and, Bool.and_false, Bool.false_and, Bool.not_true, Bool.not_false, true_and, and_true, false_and, and_false, true_or, or_true, false_or, or_false, Bool.true_eq_false, Bool.false_eq_true, eq_self, reduceCtorEq, Bool.or_true, Bool.true_or, Bool.or_false, Bool.false_or])
/-- all that come: the class's loop is shorter, for what isn't seen doesn't come -/
theorem eqs_ext {P : zzMd → Nat → Bool} {m : Nat} (hc : c < 8) (W : zIC A) (h : ∀ i D, m ≤ i → zSame c A D → P D i = false) : ∀ n, m ≤ n → eqs P c n A = eqs P c m A
  | 0, hn => by rw [Nat.le_zero.mp hn]
  | n + 1, hn => by
    rcases Nat.lt_or_eq_of_le hn with h1 | h1
    · rw [eqs_s, h n _ (by omega) (eqs_inv hc W n).2]
      exact eqs_ext hc W h n (by omega)
    · rw [h1]
theorem r_comeAll (H : rAt A R c) (q : Nat) (hq : q < 4) (x : Int32) {P : zzMd → Nat → Bool} (hP : ∀ i D R', i < nv A 1 → rAt D R' c → zSame c A D → R'.1 6 i = R.1 6 i → P D i = bDo D R' (3 + c) i x q) :
    comeTo A (eqs P c (nv A 1) A) c R (fX12_comeAll [.ref 0, .int (zn q), .int x] R) := by
  have hc := H.2.2
  have W := H.1.1.2
  have main : ∀ n, n ≤ nv A 1 → ∃ R' k5 k6 k7 k8 k9 k10, zz_ev tX12_comeAll 5 [some (.ref 0), some (.int (zn q)), some (.int x), some (.int 0), some (.int (zn 0)), zj none, zj none, zj none, zj none, zj none, zj none] [] R =
      zz_ev tX12_comeAll 5 [some (.ref 0), some (.int (zn q)), some (.int x), some (.int ((eqs P c n A).1 (3 + c) 11 - A.1 (3 + c) 11)), some (.int (zn n)), zj k5, zj k6, zj k7, zj k8, zj k9, zj k10] [] R' ∧ rAt (eqs P c n A) R' c ∧ sameR R R' := by
    intro n
    induction n with
    | zero => exact fun _ => ⟨R, none, none, none, none, none, none, by rw [show eqs P c 0 A = A from rfl, dq_0], H, sameR_refl R⟩
    | succ n ih =>
      intro hn
      obtain ⟨R1, k5, k6, k7, k8, k9, k10, e1, H1, s1⟩ := ih (by omega)
      obtain ⟨-, S1⟩ := eqs_inv (P := P) hc W n
      have hnv : nv (eqs P c n A) 1 = nv A 1 := congrArg zz_ix (S1 1 2 (Or.inl (by omega)) (by omega) (by omega))
      obtain ⟨l5, l6, l7, l8, l9, e2⟩ := r_comeStep H1 (i := n) (by rw [hnv]; omega) q hq x ((eqs P c n A).1 (3 + c) 11 - A.1 (3 + c) 11) k5 k6 k7 k8 k9 k10
      rw [← hP n _ R1 (by omega) H1 S1 (s1.1 6 n (by decide) (by decide) (by decide))] at e2
      rw [eqs_s]
      cases hb : P (eqs P c n A) n
      · rw [hb] at e2
        refine ⟨R1, l5, l6, l7, l8, l9, some 0, e1.trans (e2.trans ?_), H1, s1⟩
        (simp only [e_X12_comeAll, zo_iload, zo_lload, zo_aload, zo_istore, zo_lstore, zo_astore, zo_iinc, zo_pushI, zo_pushL, zo_null, zo_ii, zo_iid, zo_ll, zo_li, zo_lcmp, zo_i2l, zo_l2i, zo_dup, zo_dup2, zo_pop, zo_goto, zo_if, zo_icmp, zo_ifnull, zo_gets, zo_mm, zo_throw, zo_ret, zo_aret, zo_lret, q_iret_f, q_iret_1, q_iret_0, q_iret_b, q_c8_0, q_c8_1, q_c8_2, q_c8_3, q_c8_4, q_set_0, q_set_1i, q_set_1r, q_set_1n, q_set_1N, q_set_s, q_set_1j, q_bk_v, q_bk_n, q_if, zb_ite, cond_true, cond_false, List.getElem?_cons_zero, List.getElem?_cons_succ, Nat.reduceAdd, q_set_1l, q_set2_0, q_set2_1i, q_set2_1r, q_set2_1n, q_set2_s, zb_f, zj_some, Int32.add_zero, if_true, if_false, zb_eq0, zb_eq1, zn_1, not_true_eq_false, not_false_eq_true, ite_true, ite_false, if_true, if_false, q_iret_0, q_iret_1, decide_true, decide_false, decide_not, zb_t, zb_f, z10, z01, cond_true, cond_false, Bool.and_true, Bool.true_and, Bool.and_false, Bool.false_and, Bool.not_true, Bool.not_false, true_and, and_true, false_and, and_false, true_or, or_true, false_or, or_false, Bool.true_eq_false, Bool.false_eq_true, eq_self, reduceCtorEq, Bool.or_true, Bool.true_or, Bool.or_false, Bool.false_or])
      · rw [hb] at e2
        obtain ⟨R2, e3, H2, s2⟩ := r_comes H1 (o := n) (by rw [hnv]; omega)
        refine ⟨R2, l5, l6, l7, l8, l9, some 1, e1.trans (e2.trans ?_), H2, sameR_trans s1 s2⟩
        have ea := dq_add (A.1 (3 + c) 11) ((eqs P c n A).1 (3 + c) 11) ((aEnq (eqs P c n A) c (zn n)).1 (3 + c) 11)
        rw [cond_true]
        (simp only [e_X12_comeAll, zo_iload, zo_lload, zo_aload, zo_istore, zo_lstore, zo_astore, zo_iinc, zo_pushI, zo_pushL, zo_null, zo_ii, zo_iid, zo_ll, zo_li, zo_lcmp, zo_i2l, zo_l2i, zo_dup, zo_dup2, zo_pop, zo_goto, zo_if, zo_icmp, zo_ifnull, zo_gets, zo_mm, zo_throw, zo_ret, zo_aret, zo_lret, q_iret_f, q_iret_1, q_iret_0, q_iret_b, q_c8_0, q_c8_1, q_c8_2, q_c8_3, q_c8_4, q_set_0, q_set_1i, q_set_1r, q_set_1n, q_set_1N, q_set_s, q_set_1j, q_bk_v, q_bk_n, q_if, zb_ite, cond_true, cond_false, List.getElem?_cons_zero, List.getElem?_cons_succ, Nat.reduceAdd, q_set_1l, q_set2_0, q_set2_1i, q_set2_1r, q_set2_1n, q_set2_s, zb_t, zj_some, e3, ea, if_true, if_false, zb_eq0, zb_eq1, zn_1, not_true_eq_false, not_false_eq_true, ite_true, ite_false, if_true, if_false, q_iret_0, q_iret_1, decide_true, decide_false, decide_not, zb_t, zb_f, z10, z01, cond_true, cond_false, Bool.and_true, Bool.true_and, Bool.and_false, Bool.false_and, Bool.not_true, Bool.not_false, true_and, and_true, false_and, and_false, true_or, or_true, false_or, or_false, Bool.true_eq_false, Bool.false_eq_true, eq_self, reduceCtorEq, Bool.or_true, Bool.true_or, Bool.or_false, Bool.false_or])
  obtain ⟨R', k5, k6, k7, k8, k9, k10, e1, H1, s1⟩ := main (nv A 1) (Nat.le_refl _)
  refine ⟨R', ?_, H1, s1⟩
  have st : fX12_comeAll [.ref 0, .int (zn q), .int x] R = zz_ev tX12_comeAll 5 [some (.ref 0), some (.int (zn q)), some (.int x), some (.int 0), some (.int (zn 0)), zj none, zj none, zj none, zj none, zj none, zj none] [] R := by
    rw [s_X12_comeAll]
    (simp only [e_X12_comeAll, zo_iload, zo_lload, zo_aload, zo_istore, zo_lstore, zo_astore, zo_iinc, zo_pushI, zo_pushL, zo_null, zo_ii, zo_iid, zo_ll, zo_li, zo_lcmp, zo_i2l, zo_l2i, zo_dup, zo_dup2, zo_pop, zo_goto, zo_if, zo_icmp, zo_ifnull, zo_gets, zo_mm, zo_throw, zo_ret, zo_aret, zo_lret, q_iret_f, q_iret_1, q_iret_0, q_iret_b, q_c8_0, q_c8_1, q_c8_2, q_c8_3, q_c8_4, q_set_0, q_set_1i, q_set_1r, q_set_1n, q_set_1N, q_set_s, q_set_1j, q_bk_v, q_bk_n, q_if, zb_ite, cond_true, cond_false, List.getElem?_cons_zero, List.getElem?_cons_succ, Nat.reduceAdd, q_set_1l, q_set2_0, q_set2_1i, q_set2_1r, q_set2_1n, q_set2_s, if_true, if_false, zb_eq0, zb_eq1, zn_1, not_true_eq_false, not_false_eq_true, ite_true, ite_false, if_true, if_false, q_iret_0, q_iret_1, decide_true, decide_false, decide_not, zb_t, zb_f, z10, z01, cond_true, cond_false, Bool.and_true, Bool.true_and, Bool.and_false, Bool.false_and, Bool.not_true, Bool.not_false, true_and, and_true, false_and, and_false, true_or, or_true, false_or, or_false, Bool.true_eq_false, Bool.false_eq_true, eq_self, reduceCtorEq, Bool.or_true, Bool.true_or, Bool.or_false, Bool.false_or])
    rfl
  have n5 := H1.1.2.1.1.2
  obtain ⟨-, S1⟩ := eqs_inv (P := P) hc W (nv A 1)
  have hnv : nv (eqs P c (nv A 1) A) 1 = nv A 1 := congrArg zz_ix (S1 1 2 (Or.inl (by omega)) (by omega) (by omega))
  rw [hnv] at n5
  have hcc := zk_out (rl_n60 H.1)
  rw [st, e1]
  (rw [e_X12_comeAll_5]; simp only [e_X12_comeAll, zo_iload, zo_lload, zo_aload, zo_istore, zo_lstore, zo_astore, zo_iinc, zo_pushI, zo_pushL, zo_null, zo_ii, zo_iid, zo_ll, zo_li, zo_lcmp, zo_i2l, zo_l2i, zo_dup, zo_dup2, zo_pop, zo_goto, zo_if, zo_icmp, zo_ifnull, zo_gets, zo_mm, zo_throw, zo_ret, zo_aret, zo_lret, q_iret_f, q_iret_1, q_iret_0, q_iret_b, q_c8_0, q_c8_1, q_c8_2, q_c8_3, q_c8_4, q_set_0, q_set_1i, q_set_1r, q_set_1n, q_set_1N, q_set_s, q_set_1j, q_bk_v, q_bk_n, q_if, zb_ite, cond_true, cond_false, List.getElem?_cons_zero, List.getElem?_cons_succ, Nat.reduceAdd, q_set_1l, q_set2_0, q_set2_1i, q_set2_1r, q_set2_1n, q_set2_s, n5, hcc, if_true, if_false, zb_eq0, zb_eq1, zn_1, not_true_eq_false, not_false_eq_true, ite_true, ite_false, if_true, if_false, q_iret_0, q_iret_1, decide_true, decide_false, decide_not, zb_t, zb_f, z10, z01, cond_true, cond_false, Bool.and_true, Bool.true_and, Bool.and_false, Bool.false_and, Bool.not_true, Bool.not_false, true_and, and_true, false_and, and_false, true_or, or_true, false_or, or_false, Bool.true_eq_false, Bool.false_eq_true, eq_self, reduceCtorEq, Bool.or_true, Bool.true_or, Bool.or_false, Bool.false_or])
end
end

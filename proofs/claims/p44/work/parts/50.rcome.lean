section
/-! keys come, in both -/
section
variable {A R : zzMd} {c : Nat}
/-- the memories that differ in one controller's numbers and scratch alone -/
def sameR (R R' : zzMd) : Prop := (∀ a b, a ≠ 31 → a ≠ 32 → a ≠ 34 → R'.1 a b = R.1 a b) ∧ R'.2 = R.2
theorem sameR_refl (R : zzMd) : sameR R R := ⟨fun _ _ _ _ _ => rfl, rfl⟩
theorem sameR_trans {R S T : zzMd} (h : sameR R S) (h2 : sameR S T) : sameR R T := ⟨fun a b x y z => (h2.1 a b x y z).trans (h.1 a b x y z), h2.2.trans h.2⟩
theorem rq_of (H : rAt A R c) : RQ A R c := (H.1.2.2.1 c H.2.2).2
theorem rq_60 (H : rAt A R c) {o : Nat} (ho : o < 60) (hn : ¬ inQ A c o) : qn A c < 60 := by
  obtain ⟨q1, q2, q3, q4⟩ := rq_of H
  have hn1 := rl_n60 H.1
  have := pigeon 60 (qn A c + 1) (fun p => if p < qn A c then qk A c p else o) (fun p hp => by
    show (if p < qn A c then qk A c p else o) < 60
    by_cases h : p < qn A c
    · rw [if_pos h]; have := (q2 p h).2; omega
    · rw [if_neg h]; exact ho) (fun p q hp hq e => by
    have e' : (if p < qn A c then qk A c p else o) = (if q < qn A c then qk A c q else o) := e
    by_cases h1 : p < qn A c
    · rw [if_pos h1] at e'
      by_cases h2 : q < qn A c
      · rw [if_pos h2] at e'; exact q3 p q h1 h2 e'
      · rw [if_neg h2] at e'; exact absurd ⟨p, h1, e'⟩ hn
    · rw [if_neg h1] at e'
      by_cases h2 : q < qn A c
      · rw [if_pos h2] at e'; exact absurd ⟨q, h2, e'.symm⟩ hn
      · omega)
  omega
theorem enqNo_iff (H : rAt A R c) {o : Nat} (ho : o < 60) : enqNo A c (zn o) ↔ inQ A c o := by
  obtain ⟨q1, q2, q3, q4⟩ := rq_of H
  obtain ⟨z1, -⟩ := q4 o ho
  have hq := ((H.1.1.2.2.2 c H.2.2).2).1
  unfold enqNo
  rw [zn_ix (k := o) (by omega)]
  constructor
  · rintro (h | h | h | h)
    · exact ((zn_lt0 (o := o) (by omega)).mp h).elim
    · exact ((zo_60 ho).mp h).elim
    · by_cases w : inQ A c o
      · exact w
      · have h6 := rq_60 H ho w
        rw [hq.1, show ((60 : Int32) ≤ zn (qn A c)) = False from zo_60 h6] at h
        exact h.elim
    · rcases z1 with ⟨-, w⟩ | ⟨w, -⟩
      · exact w
      · exact absurd w h
  · intro w
    rcases z1 with ⟨z, -⟩ | ⟨-, z⟩
    · refine Or.inr (Or.inr (Or.inr ?_))
      rw [z]; decide
    · exact absurd w z
def rEnq (R : zzMd) (c n o : Nat) : zzMd := zz_sI (zz_sI (zz_sI R 32 (60 * c + n) (zn o)) 34 (60 * c + o) 0) 31 c (zn (n + 1))
theorem rEnq_1 (R : zzMd) (c n o a b : Nat) : (rEnq R c n o).1 a b = if a = 31 ∧ b = c then zn (n + 1) else if a = 34 ∧ b = 60 * c + o then 0 else if a = 32 ∧ b = 60 * c + n then zn o else R.1 a b := rfl
theorem sameR_enq (R : zzMd) (c n o : Nat) : sameR R (rEnq R c n o) := ⟨fun a b h1 h2 h3 => by rw [rEnq_1, if_neg (by omega), if_neg (by omega), if_neg (by omega)], rfl⟩
theorem Enq_q {o : Nat} (hq : qn A c < 60) (ho : o < 60) (hn : ¬ enqNo A c (zn o)) : qn (aEnq A c (zn o)) c = qn A c + 1 ∧ (∀ p, p < qn A c → qk (aEnq A c (zn o)) c p = qk A c p) ∧ qk (aEnq A c (zn o)) c (qn A c) = o := by
  refine ⟨(congrArg zz_ix ((Enq_1 hn _ _).trans (if_pos ⟨rfl, rfl⟩))).trans (zn_ix (by omega)), fun p hp => congrArg zz_ix ?_, (congrArg zz_ix ?_).trans (zn_ix (k := o) (by omega))⟩
  · rw [Enq_1 hn, if_neg (by omega), if_neg (by omega), if_neg (by omega)]
  · rw [Enq_1 hn, if_neg (by omega), if_pos ⟨rfl, rfl⟩]
theorem r_comes (H : rAt A R c) {o : Nat} (ho : o < nv A 1) :
    ∃ R', fX12_comes [.ref 0, .int (zn o)] R = some (.inl (some (.int ((aEnq A c (zn o)).1 (3 + c) 11 - A.1 (3 + c) 11))), R') ∧ rAt (aEnq A c (zn o)) R' c ∧ sameR R R' := by
  have h60 : o < 60 := lt_n60 H.1 ho
  obtain ⟨q1, q2, q3, q4⟩ := rq_of H
  obtain ⟨a1, a2⟩ := at_c H
  have hc := H.2.2
  have bc : zz_inb (zn c) 8 = true := zn_inT hc (by decide)
  have xc : zz_ix (zn c) = c := zn_ix (by omega)
  have hq := ((H.1.1.2.2.2 c hc).2).1
  have e31 : zn (60 * c) + zn (qn A c) = zn (60 * c + qn A c) := zn_add _ _
  have st : fX12_comes [.ref 0, .int (zn o)] R = zz_ev tX12_comes 10 [some (.ref 0), some (.int (zn o)), some (.int (zn (60 * c))), some (.int (zn (60 * c + 0)))] [] R := by
    rw [s_X12_comes]
    (simp only [e_X12_comes, zo_iload, zo_lload, zo_aload, zo_istore, zo_lstore, zo_astore, zo_iinc, zo_pushI, zo_pushL, zo_null, zo_ii, zo_iid, zo_ll, zo_li, zo_lcmp, zo_i2l, zo_l2i, zo_dup, zo_dup2, zo_pop, zo_goto, zo_if, zo_icmp, zo_ifnull, zo_gets, zo_mm, zo_throw, zo_ret, zo_aret, zo_lret, q_iret_f, q_iret_1, q_iret_0, q_iret_b, q_c8_0, q_c8_1, q_c8_2, q_c8_3, q_c8_4, q_set_0, q_set_1i, q_set_1r, q_set_1n, q_set_1N, q_set_s, q_set_1j, q_bk_v, q_bk_n, q_if, zb_ite, cond_true, cond_false, List.getElem?_cons_zero, List.getElem?_cons_succ, Nat.reduceAdd, q_set_1l, q_set2_0, q_set2_1i, q_set2_1r, q_set2_1n, q_set2_s, a1, if_true, if_false, zb_eq0, zb_eq1, zn_1, not_true_eq_false, not_false_eq_true, ite_true, ite_false, if_true, if_false, q_iret_0, q_iret_1, decide_true, decide_false, decide_not, zb_t, zb_f, z10, z01, cond_true, cond_false, Bool.and_true, Bool.true_and, Bool.and_false, Bool.false_and, Bool.not_true, Bool.not_false, true_and, and_true, false_and, and_false, true_or, or_true, false_or, or_false, Bool.true_eq_false, Bool.false_eq_true, eq_self, reduceCtorEq, Bool.or_true, Bool.true_or, Bool.or_false, Bool.false_or])
    rfl
  have lp := zl_fst (E := fun p => zz_ev tX12_comes 10 [some (.ref 0), some (.int (zn o)), some (.int (zn (60 * c))), some (.int (zn (60 * c + p)))] [] R) (P := fun p => decide (qk A c p = o)) (r := fun _ => some (.inl (some (.int 0)), R)) (qn A c) (fun p hp => by
    have hcc : (zn (60 * c + qn A c) ≤ zn (60 * c + p)) = False := zk_lt (n := 60 * c + qn A c) (by omega) (show _ ≤ 600 by omega) (by decide)
    have b1 : zz_inb (zn (60 * c + p)) 480 = true := zn_inT (by omega) (by decide)
    have x1 : zz_ix (zn (60 * c + p)) = 60 * c + p := zn_ix (by omega)
    have hk := (q2 p hp).1
    have hkl := (q2 p hp).2
    have hn6 := rl_n60 H.1
    have e : (zn (qk A c p) = zn o) = (qk A c p = o) := zn_inj (by omega) (by omega)
    have e2 : 60 * c + p + 1 = 60 * c + (p + 1) := rfl
    by_cases d : qk A c p = o
    · rw [decide_eq_true d]
      have d' := e.mpr d
      (rw [e_X12_comes_10]; simp only [e_X12_comes, zo_iload, zo_lload, zo_aload, zo_istore, zo_lstore, zo_astore, zo_iinc, zo_pushI, zo_pushL, zo_null, zo_ii, zo_iid, zo_ll, zo_li, zo_lcmp, zo_i2l, zo_l2i, zo_dup, zo_dup2, zo_pop, zo_goto, zo_if, zo_icmp, zo_ifnull, zo_gets, zo_mm, zo_throw, zo_ret, zo_aret, zo_lret, q_iret_f, q_iret_1, q_iret_0, q_iret_b, q_c8_0, q_c8_1, q_c8_2, q_c8_3, q_c8_4, q_set_0, q_set_1i, q_set_1r, q_set_1n, q_set_1N, q_set_s, q_set_1j, q_bk_v, q_bk_n, q_if, zb_ite, cond_true, cond_false, List.getElem?_cons_zero, List.getElem?_cons_succ, Nat.reduceAdd, q_set_1l, q_set2_0, q_set2_1i, q_set2_1r, q_set2_1n, q_set2_s, a2, bc, xc, q1, e31, hcc, b1, x1, q_aR, hk, d', if_true, if_false, zb_eq0, zb_eq1, zn_1, not_true_eq_false, not_false_eq_true, ite_true, ite_false, if_true, if_false, q_iret_0, q_iret_1, decide_true, decide_false, decide_not, zb_t, zb_f, z10, z01, cond_true, cond_false, Bool.and_true, Bool.true_and, Bool.and_false, Bool.false_and, Bool.not_true, Bool.not_false, true_and, and_true, false_and, and_false, true_or, or_true, false_or, or_false, Bool.true_eq_false, Bool.false_eq_true, eq_self, reduceCtorEq, Bool.or_true, Bool.true_or, Bool.or_false, Bool.false_or])
    · rw [decide_eq_false d]
      (rw [e_X12_comes_10]; simp only [e_X12_comes, zo_iload, zo_lload, zo_aload, zo_istore, zo_lstore, zo_astore, zo_iinc, zo_pushI, zo_pushL, zo_null, zo_ii, zo_iid, zo_ll, zo_li, zo_lcmp, zo_i2l, zo_l2i, zo_dup, zo_dup2, zo_pop, zo_goto, zo_if, zo_icmp, zo_ifnull, zo_gets, zo_mm, zo_throw, zo_ret, zo_aret, zo_lret, q_iret_f, q_iret_1, q_iret_0, q_iret_b, q_c8_0, q_c8_1, q_c8_2, q_c8_3, q_c8_4, q_set_0, q_set_1i, q_set_1r, q_set_1n, q_set_1N, q_set_s, q_set_1j, q_bk_v, q_bk_n, q_if, zb_ite, cond_true, cond_false, List.getElem?_cons_zero, List.getElem?_cons_succ, Nat.reduceAdd, q_set_1l, q_set2_0, q_set2_1i, q_set2_1r, q_set2_1n, q_set2_s, a2, bc, xc, q1, e31, hcc, b1, x1, q_aR, hk, e, d, e2, if_true, if_false, zb_eq0, zb_eq1, zn_1, not_true_eq_false, not_false_eq_true, ite_true, ite_false, if_true, if_false, q_iret_0, q_iret_1, decide_true, decide_false, decide_not, zb_t, zb_f, z10, z01, cond_true, cond_false, Bool.and_true, Bool.true_and, Bool.and_false, Bool.false_and, Bool.not_true, Bool.not_false, true_and, and_true, false_and, and_false, true_or, or_true, false_or, or_false, Bool.true_eq_false, Bool.false_eq_true, eq_self, reduceCtorEq, Bool.or_true, Bool.true_or, Bool.or_false, Bool.false_or]))
  rw [st, show zz_ev tX12_comes 10 [some (.ref 0), some (.int (zn o)), some (.int (zn (60 * c))), some (.int (zn (60 * c + 0)))] [] R = _ from lp]
  have hno := enqNo_iff H h60
  cases hz : zfst (qn A c) (fun p => decide (qk A c p = o)) with
  | some p =>
    obtain ⟨z1, z2, -⟩ := zfst_some hz
    have hin : inQ A c o := ⟨p, z1, of_decide_eq_true z2⟩
    have e : aEnq A c (zn o) = A := by
      unfold aEnq
      rw [if_pos (hno.mpr hin)]
    rw [e, dq_0]
    exact ⟨R, rfl, H, sameR_refl R⟩
  | none =>
    have hnin : ¬ inQ A c o := fun ⟨p, p1, p2⟩ => by
      have := zfst_no hz p p1
      rw [decide_eq_true p2] at this
      cases this
    have hnn : ¬ enqNo A c (zn o) := fun h => hnin (hno.mp h)
    have h6 := rq_60 H h60 hnin
    obtain ⟨w1, w2, w3⟩ := Enq_q h6 h60 hnn
    have hcc : (zn (60 * c + qn A c) ≤ zn (60 * c + qn A c)) = True := zk_ge (n := 60 * c + qn A c) (show _ ≤ 600 by omega) (by decide)
    have b1 : zz_inb (zn (60 * c + qn A c)) 480 = true := zn_inT (by omega) (by decide)
    have x1 : zz_ix (zn (60 * c + qn A c)) = 60 * c + qn A c := zn_ix (by omega)
    obtain ⟨b0, b2, b3⟩ := at_o H h60
    have f1 : (aEnq A c (zn o)).1 (3 + c) 11 = zn (qn A c + 1) := (Enq_1 hnn _ _).trans (if_pos ⟨rfl, rfl⟩)
    have f2 : zn (qn A c + 1) - zn (qn A c) = 1 := by
      rw [zn_sub (by omega), show qn A c + 1 - qn A c = 1 by omega]; rfl
    rw [f1, hq.1, f2]
    refine ⟨rEnq R c (qn A c) o, ?_, ⟨?_, ?_, hc⟩, sameR_enq R c (qn A c) o⟩
    · show zz_ev tX12_comes 10 [some (.ref 0), some (.int (zn o)), some (.int (zn (60 * c))), some (.int (zn (60 * c + qn A c)))] [] R = _
      have m1 : ∀ v, (zz_sI R 32 (60 * c + qn A c) v).1 0 42 = zn c := fun v => (sI_a (by decide)).trans a2
      have m2 : ∀ v, (zz_sI R 32 (60 * c + qn A c) v).1 31 c = zn (qn A c) := fun v => (sI_a (by decide)).trans q1
      have m3 : ∀ v u, (zz_sI (zz_sI R 32 (60 * c + qn A c) v) 34 (60 * c + o) u).1 0 42 = zn c := fun v u => (sI_a (by decide)).trans (m1 v)
      have m4 : ∀ v u, (zz_sI (zz_sI R 32 (60 * c + qn A c) v) 34 (60 * c + o) u).1 31 c = zn (qn A c) := fun v u => (sI_a (by decide)).trans (m2 v)
      unfold rEnq
      (rw [e_X12_comes_10]; simp only [e_X12_comes, zo_iload, zo_lload, zo_aload, zo_istore, zo_lstore, zo_astore, zo_iinc, zo_pushI, zo_pushL, zo_null, zo_ii, zo_iid, zo_ll, zo_li, zo_lcmp, zo_i2l, zo_l2i, zo_dup, zo_dup2, zo_pop, zo_goto, zo_if, zo_icmp, zo_ifnull, zo_gets, zo_mm, zo_throw, zo_ret, zo_aret, zo_lret, q_iret_f, q_iret_1, q_iret_0, q_iret_b, q_c8_0, q_c8_1, q_c8_2, q_c8_3, q_c8_4, q_set_0, q_set_1i, q_set_1r, q_set_1n, q_set_1N, q_set_s, q_set_1j, q_bk_v, q_bk_n, q_if, zb_ite, cond_true, cond_false, List.getElem?_cons_zero, List.getElem?_cons_succ, Nat.reduceAdd, q_set_1l, q_set2_0, q_set2_1i, q_set2_1r, q_set2_1n, q_set2_s, a2, bc, xc, q1, e31, hcc, b1, x1, q_aR, m1, m2, m3, m4, b0, b2, b3, if_true, if_false, zb_eq0, zb_eq1, zn_1, not_true_eq_false, not_false_eq_true, ite_true, ite_false, if_true, if_false, q_iret_0, q_iret_1, decide_true, decide_false, decide_not, zb_t, zb_f, z10, z01, cond_true, cond_false, Bool.and_true, Bool.true_and, Bool.and_false, Bool.false_and, Bool.not_true, Bool.not_false, true_and, and_true, false_and, and_false, true_or, or_true, false_or, or_false, Bool.true_eq_false, Bool.false_eq_true, eq_self, reduceCtorEq, Bool.or_true, Bool.true_or, Bool.or_false, Bool.false_or])
    · refine Rl0_q hc H.1 (zIC_Enq hc _ H.1.1.2) (fun a b h1 h2 h3 _ _ _ => Enq_o _ h1 h2 h3) (fun a b h1 h2 h3 => ?_) rfl ⟨?_, fun p hp => ?_, fun p q hp hq2 e => ?_, fun b hb => ?_⟩
      · rw [rEnq_1, if_neg (by omega), if_neg (by omega), if_neg (by omega)]
      · rw [rEnq_1, if_pos ⟨rfl, rfl⟩, w1]
      · rw [w1] at hp
        have hnv : nv (aEnq A c (zn o)) 1 = nv A 1 := congrArg zz_ix (Enq_o _ (Or.inl (by omega)) (by omega) (by omega))
        rw [hnv, rEnq_1, if_neg (by omega), if_neg (by omega)]
        by_cases d : p < qn A c
        · rw [if_neg (by omega), w2 p d]; exact q2 p d
        · have dp : p = qn A c := by omega
          rw [dp, if_pos ⟨rfl, rfl⟩, w3]
          exact ⟨rfl, ho⟩
      · rw [w1] at hp hq2
        by_cases d1 : p < qn A c
        · rw [w2 p d1] at e
          by_cases d2 : q < qn A c
          · rw [w2 q d2] at e; exact q3 p q d1 d2 e
          · rw [show q = qn A c by omega, w3] at e
            exact absurd ⟨p, d1, e⟩ hnin
        · have dp : p = qn A c := by omega
          rw [dp, w3] at e
          by_cases d2 : q < qn A c
          · rw [w2 q d2] at e
            exact absurd ⟨q, d2, e.symm⟩ hnin
          · omega
      · have hin : inQ (aEnq A c (zn o)) c b ↔ inQ A c b ∨ b = o := by
          unfold inQ
          rw [w1]
          constructor
          · rintro ⟨p, p1, p2⟩
            by_cases d : p < qn A c
            · rw [w2 p d] at p2; exact Or.inl ⟨p, d, p2⟩
            · rw [show p = qn A c by omega, w3] at p2; exact Or.inr p2.symm
          · rintro (⟨p, p1, p2⟩ | h)
            · exact ⟨p, by omega, by rw [w2 p p1]; exact p2⟩
            · exact ⟨qn A c, by omega, by rw [w3, h]⟩
        obtain ⟨z1, f, d, w, z2, z3, z4, z5, z6, z7⟩ := q4 b hb
        have hnow : now (aEnq A c (zn o)) = now A := congrArg zz_ix (Enq_o _ (Or.inl (by omega)) (by omega) (by omega))
        have hve : ve (aEnq A c (zn o)) 1 = ve A 1 := congrArg zz_ix (Enq_o _ (Or.inl (by omega)) (by omega) (by omega))
        refine ⟨?_, f, d, w, ?_, ?_, ?_, ?_, fun hi => ?_, fun hi => ?_⟩
        · rw [hin, Enq_1 hnn, if_neg (by omega), if_neg (by omega), zn_ix (k := o) (by omega)]
          by_cases e : b = o
          · rw [if_pos ⟨rfl, e⟩]
            exact Or.inl ⟨rfl, Or.inr e⟩
          · rw [if_neg (fun q => e q.2)]
            rcases z1 with ⟨y1, y2⟩ | ⟨y1, y2⟩
            · exact Or.inl ⟨y1, Or.inl y2⟩
            · exact Or.inr ⟨y1, fun y => y.elim y2 e⟩
        · rw [Enq_o _ (Or.inl (by omega)) (by omega) (by omega), rEnq_1, if_neg (by omega), if_neg (by omega), if_neg (by omega)]; exact z2
        · rw [Enq_o _ (Or.inl (by omega)) (by omega) (by omega)]; exact z3
        · rw [hnow]; exact z4
        · rw [Enq_o _ (Or.inl (by omega)) (by omega) (by omega), rEnq_1, if_neg (by omega), if_neg (by omega), if_neg (by omega), hve]; exact z5
        · rw [hnow, rEnq_1, if_neg (by omega)]
          by_cases e : b = o
          · rw [if_pos ⟨rfl, by omega⟩]
            exact Or.inr ⟨z7 (by rw [e]; exact hnin), rfl⟩
          · rw [if_neg (by omega), if_neg (by omega)]
            exact z6 ((hin.mp hi).resolve_right e)
        · rw [hnow]
          exact z7 fun y => hi (hin.mpr (Or.inl y))
    · rw [rEnq_1, if_neg (by omega), if_neg (by omega), if_neg (by omega)]; exact H.2.1
/-! the reference's other ways for keys to come -/
/-- what follows when keys came: the answer is how many, and both say the same -/
def comeTo (A A' : zzMd) (c : Nat) (R : zzMd) (r : Option zzRt) : Prop := ∃ R', r = some (.inl (some (.int (A'.1 (3 + c) 11 - A.1 (3 + c) 11))), R') ∧ rAt A' R' c ∧ sameR R R'
theorem okd_c (H : rAt A R c) : A.1 (3 + c) 5 = okd c := H.1.2.2.2.2.2.2.2.2.2.2.2 c H.2.2
theorem r_ownKindX (h : R.1 0 42 = zn c) (hc : c < 8) : fX12_ownKind [.ref 0] R = some (.inl (some (.int (okd c))), R) := by
  rw [s_X12_ownKind]
  rcases zc8 hc with rfl | rfl | rfl | rfl | rfl | rfl | rfl | rfl
  · have e : R.1 0 42 = 0 := h
    (simp only [e_X12_ownKind, zo_iload, zo_lload, zo_aload, zo_istore, zo_lstore, zo_astore, zo_iinc, zo_pushI, zo_pushL, zo_null, zo_ii, zo_iid, zo_ll, zo_li, zo_lcmp, zo_i2l, zo_l2i, zo_dup, zo_dup2, zo_pop, zo_goto, zo_if, zo_icmp, zo_ifnull, zo_gets, zo_mm, zo_throw, zo_ret, zo_aret, zo_lret, q_iret_f, q_iret_1, q_iret_0, q_iret_b, q_c8_0, q_c8_1, q_c8_2, q_c8_3, q_c8_4, q_set_0, q_set_1i, q_set_1r, q_set_1n, q_set_1N, q_set_s, q_set_1j, q_bk_v, q_bk_n, q_if, zb_ite, cond_true, cond_false, List.getElem?_cons_zero, List.getElem?_cons_succ, Nat.reduceAdd, q_set_1l, q_set2_0, q_set2_1i, q_set2_1r, q_set2_1n, q_set2_s, e, if_true, if_false, zb_eq0, zb_eq1, zn_1, not_true_eq_false, not_false_eq_true, ite_true, ite_false, if_true, if_false, q_iret_0, q_iret_1, decide_true, decide_false, decide_not, zb_t, zb_f, z10, z01, cond_true, cond_false, Bool.and_true, Bool.true_and, Bool.and_false, Bool.false_and, Bool.not_true, Bool.not_false, true_and, and_true, false_and, and_false, true_or, or_true, false_or, or_false, Bool.true_eq_false, Bool.false_eq_true, eq_self, reduceCtorEq, Bool.or_true, Bool.true_or, Bool.or_false, Bool.false_or])
    rfl
  · have e : R.1 0 42 = 1 := h
    have n1 : ((1 : Int32) = 0) = False := eq_false (by decide)
    have n2 : ((1 : Int32) = 7) = False := eq_false (by decide)
    (simp only [e_X12_ownKind, zo_iload, zo_lload, zo_aload, zo_istore, zo_lstore, zo_astore, zo_iinc, zo_pushI, zo_pushL, zo_null, zo_ii, zo_iid, zo_ll, zo_li, zo_lcmp, zo_i2l, zo_l2i, zo_dup, zo_dup2, zo_pop, zo_goto, zo_if, zo_icmp, zo_ifnull, zo_gets, zo_mm, zo_throw, zo_ret, zo_aret, zo_lret, q_iret_f, q_iret_1, q_iret_0, q_iret_b, q_c8_0, q_c8_1, q_c8_2, q_c8_3, q_c8_4, q_set_0, q_set_1i, q_set_1r, q_set_1n, q_set_1N, q_set_s, q_set_1j, q_bk_v, q_bk_n, q_if, zb_ite, cond_true, cond_false, List.getElem?_cons_zero, List.getElem?_cons_succ, Nat.reduceAdd, q_set_1l, q_set2_0, q_set2_1i, q_set2_1r, q_set2_1n, q_set2_s, e, n1, n2, if_true, if_false, zb_eq0, zb_eq1, zn_1, not_true_eq_false, not_false_eq_true, ite_true, ite_false, if_true, if_false, q_iret_0, q_iret_1, decide_true, decide_false, decide_not, zb_t, zb_f, z10, z01, cond_true, cond_false, Bool.and_true, Bool.true_and, Bool.and_false, Bool.false_and, Bool.not_true, Bool.not_false, true_and, and_true, false_and, and_false, true_or, or_true, false_or, or_false, Bool.true_eq_false, Bool.false_eq_true, eq_self, reduceCtorEq, Bool.or_true, Bool.true_or, Bool.or_false, Bool.false_or])
    rfl
  · have e : R.1 0 42 = 2 := h
    have n1 : ((2 : Int32) = 0) = False := eq_false (by decide)
    have n2 : ((2 : Int32) = 7) = False := eq_false (by decide)
    have n3 : ((2 : Int32) = 1) = False := eq_false (by decide)
    (simp only [e_X12_ownKind, zo_iload, zo_lload, zo_aload, zo_istore, zo_lstore, zo_astore, zo_iinc, zo_pushI, zo_pushL, zo_null, zo_ii, zo_iid, zo_ll, zo_li, zo_lcmp, zo_i2l, zo_l2i, zo_dup, zo_dup2, zo_pop, zo_goto, zo_if, zo_icmp, zo_ifnull, zo_gets, zo_mm, zo_throw, zo_ret, zo_aret, zo_lret, q_iret_f, q_iret_1, q_iret_0, q_iret_b, q_c8_0, q_c8_1, q_c8_2, q_c8_3, q_c8_4, q_set_0, q_set_1i, q_set_1r, q_set_1n, q_set_1N, q_set_s, q_set_1j, q_bk_v, q_bk_n, q_if, zb_ite, cond_true, cond_false, List.getElem?_cons_zero, List.getElem?_cons_succ, Nat.reduceAdd, q_set_1l, q_set2_0, q_set2_1i, q_set2_1r, q_set2_1n, q_set2_s, e, n1, n2, n3, if_true, if_false, zb_eq0, zb_eq1, zn_1, not_true_eq_false, not_false_eq_true, ite_true, ite_false, if_true, if_false, q_iret_0, q_iret_1, decide_true, decide_false, decide_not, zb_t, zb_f, z10, z01, cond_true, cond_false, Bool.and_true, Bool.true_and, Bool.and_false, Bool.false_and, Bool.not_true, Bool.not_false, true_and, and_true, false_and, and_false, true_or, or_true, false_or, or_false, Bool.true_eq_false, Bool.false_eq_true, eq_self, reduceCtorEq, Bool.or_true, Bool.true_or, Bool.or_false, Bool.false_or])
    rfl
  · have e : R.1 0 42 = 3 := h
    have n1 : ((3 : Int32) = 0) = False := eq_false (by decide)
    have n2 : ((3 : Int32) = 7) = False := eq_false (by decide)
    have n3 : ((3 : Int32) = 1) = False := eq_false (by decide)
    have n4 : ((3 : Int32) = 2) = False := eq_false (by decide)
    have n5 : ((3 : Int32) = 6) = False := eq_false (by decide)
    have n6 : ((3 : Int32) = 5) = False := eq_false (by decide)
    (simp only [e_X12_ownKind, zo_iload, zo_lload, zo_aload, zo_istore, zo_lstore, zo_astore, zo_iinc, zo_pushI, zo_pushL, zo_null, zo_ii, zo_iid, zo_ll, zo_li, zo_lcmp, zo_i2l, zo_l2i, zo_dup, zo_dup2, zo_pop, zo_goto, zo_if, zo_icmp, zo_ifnull, zo_gets, zo_mm, zo_throw, zo_ret, zo_aret, zo_lret, q_iret_f, q_iret_1, q_iret_0, q_iret_b, q_c8_0, q_c8_1, q_c8_2, q_c8_3, q_c8_4, q_set_0, q_set_1i, q_set_1r, q_set_1n, q_set_1N, q_set_s, q_set_1j, q_bk_v, q_bk_n, q_if, zb_ite, cond_true, cond_false, List.getElem?_cons_zero, List.getElem?_cons_succ, Nat.reduceAdd, q_set_1l, q_set2_0, q_set2_1i, q_set2_1r, q_set2_1n, q_set2_s, e, n1, n2, n3, n4, n5, n6, if_true, if_false, zb_eq0, zb_eq1, zn_1, not_true_eq_false, not_false_eq_true, ite_true, ite_false, if_true, if_false, q_iret_0, q_iret_1, decide_true, decide_false, decide_not, zb_t, zb_f, z10, z01, cond_true, cond_false, Bool.and_true, Bool.true_and, Bool.and_false, Bool.false_and, Bool.not_true, Bool.not_false, true_and, and_true, false_and, and_false, true_or, or_true, false_or, or_false, Bool.true_eq_false, Bool.false_eq_true, eq_self, reduceCtorEq, Bool.or_true, Bool.true_or, Bool.or_false, Bool.false_or])
    rfl
  · have e : R.1 0 42 = 4 := h
    have n1 : ((4 : Int32) = 0) = False := eq_false (by decide)
    have n2 : ((4 : Int32) = 7) = False := eq_false (by decide)
    have n3 : ((4 : Int32) = 1) = False := eq_false (by decide)
    have n4 : ((4 : Int32) = 2) = False := eq_false (by decide)
    have n5 : ((4 : Int32) = 6) = False := eq_false (by decide)
    have n6 : ((4 : Int32) = 5) = False := eq_false (by decide)
    (simp only [e_X12_ownKind, zo_iload, zo_lload, zo_aload, zo_istore, zo_lstore, zo_astore, zo_iinc, zo_pushI, zo_pushL, zo_null, zo_ii, zo_iid, zo_ll, zo_li, zo_lcmp, zo_i2l, zo_l2i, zo_dup, zo_dup2, zo_pop, zo_goto, zo_if, zo_icmp, zo_ifnull, zo_gets, zo_mm, zo_throw, zo_ret, zo_aret, zo_lret, q_iret_f, q_iret_1, q_iret_0, q_iret_b, q_c8_0, q_c8_1, q_c8_2, q_c8_3, q_c8_4, q_set_0, q_set_1i, q_set_1r, q_set_1n, q_set_1N, q_set_s, q_set_1j, q_bk_v, q_bk_n, q_if, zb_ite, cond_true, cond_false, List.getElem?_cons_zero, List.getElem?_cons_succ, Nat.reduceAdd, q_set_1l, q_set2_0, q_set2_1i, q_set2_1r, q_set2_1n, q_set2_s, e, n1, n2, n3, n4, n5, n6, if_true, if_false, zb_eq0, zb_eq1, zn_1, not_true_eq_false, not_false_eq_true, ite_true, ite_false, if_true, if_false, q_iret_0, q_iret_1, decide_true, decide_false, decide_not, zb_t, zb_f, z10, z01, cond_true, cond_false, Bool.and_true, Bool.true_and, Bool.and_false, Bool.false_and, Bool.not_true, Bool.not_false, true_and, and_true, false_and, and_false, true_or, or_true, false_or, or_false, Bool.true_eq_false, Bool.false_eq_true, eq_self, reduceCtorEq, Bool.or_true, Bool.true_or, Bool.or_false, Bool.false_or])
    rfl
  · have e : R.1 0 42 = 5 := h
    have n1 : ((5 : Int32) = 0) = False := eq_false (by decide)
    have n2 : ((5 : Int32) = 7) = False := eq_false (by decide)
    have n3 : ((5 : Int32) = 1) = False := eq_false (by decide)
    have n4 : ((5 : Int32) = 2) = False := eq_false (by decide)
    have n5 : ((5 : Int32) = 6) = False := eq_false (by decide)
    (simp only [e_X12_ownKind, zo_iload, zo_lload, zo_aload, zo_istore, zo_lstore, zo_astore, zo_iinc, zo_pushI, zo_pushL, zo_null, zo_ii, zo_iid, zo_ll, zo_li, zo_lcmp, zo_i2l, zo_l2i, zo_dup, zo_dup2, zo_pop, zo_goto, zo_if, zo_icmp, zo_ifnull, zo_gets, zo_mm, zo_throw, zo_ret, zo_aret, zo_lret, q_iret_f, q_iret_1, q_iret_0, q_iret_b, q_c8_0, q_c8_1, q_c8_2, q_c8_3, q_c8_4, q_set_0, q_set_1i, q_set_1r, q_set_1n, q_set_1N, q_set_s, q_set_1j, q_bk_v, q_bk_n, q_if, zb_ite, cond_true, cond_false, List.getElem?_cons_zero, List.getElem?_cons_succ, Nat.reduceAdd, q_set_1l, q_set2_0, q_set2_1i, q_set2_1r, q_set2_1n, q_set2_s, e, n1, n2, n3, n4, n5, if_true, if_false, zb_eq0, zb_eq1, zn_1, not_true_eq_false, not_false_eq_true, ite_true, ite_false, if_true, if_false, q_iret_0, q_iret_1, decide_true, decide_false, decide_not, zb_t, zb_f, z10, z01, cond_true, cond_false, Bool.and_true, Bool.true_and, Bool.and_false, Bool.false_and, Bool.not_true, Bool.not_false, true_and, and_true, false_and, and_false, true_or, or_true, false_or, or_false, Bool.true_eq_false, Bool.false_eq_true, eq_self, reduceCtorEq, Bool.or_true, Bool.true_or, Bool.or_false, Bool.false_or])
    rfl
  · have e : R.1 0 42 = 6 := h
    have n1 : ((6 : Int32) = 0) = False := eq_false (by decide)
    have n2 : ((6 : Int32) = 7) = False := eq_false (by decide)
    have n3 : ((6 : Int32) = 1) = False := eq_false (by decide)
    have n4 : ((6 : Int32) = 2) = False := eq_false (by decide)
    (simp only [e_X12_ownKind, zo_iload, zo_lload, zo_aload, zo_istore, zo_lstore, zo_astore, zo_iinc, zo_pushI, zo_pushL, zo_null, zo_ii, zo_iid, zo_ll, zo_li, zo_lcmp, zo_i2l, zo_l2i, zo_dup, zo_dup2, zo_pop, zo_goto, zo_if, zo_icmp, zo_ifnull, zo_gets, zo_mm, zo_throw, zo_ret, zo_aret, zo_lret, q_iret_f, q_iret_1, q_iret_0, q_iret_b, q_c8_0, q_c8_1, q_c8_2, q_c8_3, q_c8_4, q_set_0, q_set_1i, q_set_1r, q_set_1n, q_set_1N, q_set_s, q_set_1j, q_bk_v, q_bk_n, q_if, zb_ite, cond_true, cond_false, List.getElem?_cons_zero, List.getElem?_cons_succ, Nat.reduceAdd, q_set_1l, q_set2_0, q_set2_1i, q_set2_1r, q_set2_1n, q_set2_s, e, n1, n2, n3, n4, if_true, if_false, zb_eq0, zb_eq1, zn_1, not_true_eq_false, not_false_eq_true, ite_true, ite_false, if_true, if_false, q_iret_0, q_iret_1, decide_true, decide_false, decide_not, zb_t, zb_f, z10, z01, cond_true, cond_false, Bool.and_true, Bool.true_and, Bool.and_false, Bool.false_and, Bool.not_true, Bool.not_false, true_and, and_true, false_and, and_false, true_or, or_true, false_or, or_false, Bool.true_eq_false, Bool.false_eq_true, eq_self, reduceCtorEq, Bool.or_true, Bool.true_or, Bool.or_false, Bool.false_or])
    rfl
  · have e : R.1 0 42 = 7 := h
    have n1 : ((7 : Int32) = 0) = False := eq_false (by decide)
    (simp only [e_X12_ownKind, zo_iload, zo_lload, zo_aload, zo_istore, zo_lstore, zo_astore, zo_iinc, zo_pushI, zo_pushL, zo_null, zo_ii, zo_iid, zo_ll, zo_li, zo_lcmp, zo_i2l, zo_l2i, zo_dup, zo_dup2, zo_pop, zo_goto, zo_if, zo_icmp, zo_ifnull, zo_gets, zo_mm, zo_throw, zo_ret, zo_aret, zo_lret, q_iret_f, q_iret_1, q_iret_0, q_iret_b, q_c8_0, q_c8_1, q_c8_2, q_c8_3, q_c8_4, q_set_0, q_set_1i, q_set_1r, q_set_1n, q_set_1N, q_set_s, q_set_1j, q_bk_v, q_bk_n, q_if, zb_ite, cond_true, cond_false, List.getElem?_cons_zero, List.getElem?_cons_succ, Nat.reduceAdd, q_set_1l, q_set2_0, q_set2_1i, q_set2_1r, q_set2_1n, q_set2_s, e, n1, if_true, if_false, zb_eq0, zb_eq1, zn_1, not_true_eq_false, not_false_eq_true, ite_true, ite_false, if_true, if_false, q_iret_0, q_iret_1, decide_true, decide_false, decide_not, zb_t, zb_f, z10, z01, cond_true, cond_false, Bool.and_true, Bool.true_and, Bool.and_false, Bool.false_and, Bool.not_true, Bool.not_false, true_and, and_true, false_and, and_false, true_or, or_true, false_or, or_false, Bool.true_eq_false, Bool.false_eq_true, eq_self, reduceCtorEq, Bool.or_true, Bool.true_or, Bool.or_false, Bool.false_or])
    rfl
theorem r_ownKind (H : rAt A R c) : fX12_ownKind [.ref 0] R = some (.inl (some (.int (okd c))), R) := r_ownKindX H.2.1 H.2.2
end
end

section
/-! the law's own arrays; what holds of all objects; what rests -/
section
variable {A B R T : zzMd} {c : Nat}
theorem Rl0_73 {A' : zzMd} (H : Rl0 A R) (W : zIC A') (gA : ∀ a b, a < 73 → A'.1 a b = A.1 a b) : Rl0 A' R := by
  obtain ⟨⟨K, W0⟩, ⟨⟨L1, L2⟩, L3, L4, ⟨L5, L6⟩, L7⟩, VQ, S, RA0, RM0⟩ := H
  have ev : ve A' 1 = ve A 1 := congrArg zz_ix (gA 1 3 (by decide))
  have en : nv A' 1 = nv A 1 := congrArg zz_ix (gA 1 2 (by decide))
  have eob : obj A' = obj A := funext fun k => congrArg zz_ix (gA 14 _ (by decide))
  have elg : lg A' = lg A := funext fun k => funext fun s => gA 14 _ (by decide)
  have eno : now A' = now A := congrArg zz_ix (gA 1 7 (by decide))
  have enr : nr A' = nr A := congrArg zz_ix (gA 2 3 (by decide))
  have enc : nc A' = nc A := congrArg zz_ix (gA 2 4 (by decide))
  have erP : rP A' = rP A := funext fun i => funext fun k => gA 18 _ (by decide)
  have ecP : cP A' = cP A := funext fun i => funext fun k => gA 19 _ (by decide)
  have e16 : A'.1 16 = A.1 16 := funext fun b => gA 16 b (by decide)
  have e12 : A'.1 12 = A.1 12 := funext fun b => gA 12 b (by decide)
  have e13 : A'.1 13 = A.1 13 := funext fun b => gA 13 b (by decide)
  refine ⟨⟨K, W⟩, ⟨⟨by rw [ev]; exact L1, by rw [en]; exact L2⟩, fun k a b => ?_, by rw [elg]; exact L4, ⟨by rw [en, ev, eob]; exact L5, fun b hb => by rw [ev, eob, gA 15 b (by decide)]; exact L6 b hb⟩, fun b hb => ?_⟩, fun d hd => ?_, fun o ho => ?_, ?_, ?_⟩
  · rw [ev] at b
    have z := L3 k a b
    unfold RRow at z ⊢
    rw [eob, elg]
    exact z
  · rw [en] at hb
    rw [ev, eob]; exact L7 b hb
  · obtain ⟨z1, q1, q2, q3, q4⟩ := VQ d hd
    have x3 : ∀ b, A'.1 (3 + d) b = A.1 (3 + d) b := fun b => gA _ b (by omega)
    have xb : ∀ j b, 21 + 6 * d ≤ j → j ≤ 26 + 6 * d → A'.1 j b = A.1 j b := fun j b h1 h2 => gA _ b (by omega)
    have ev3 : ve A' (3 + d) = ve A (3 + d) := congrArg zz_ix (x3 3)
    have en3 : nv A' (3 + d) = nv A (3 + d) := congrArg zz_ix (x3 2)
    have eqn : qn A' d = qn A d := congrArg zz_ix (x3 11)
    have eqk : qk A' d = qk A d := funext fun p => congrArg zz_ix (xb _ p (by omega) (by omega))
    have eiq : inQ A' d = inQ A d := funext fun b => by unfold inQ; rw [eqn, eqk]
    refine ⟨?_, ?_, fun p hp => ?_, ?_, fun b hb => ?_⟩
    · unfold RV at z1 ⊢
      simp only [ev3, en3, ev, eob, xb (21 + 6 * d) _ (Nat.le_refl _) (by omega)]
      exact z1
    · rw [eqn]; exact q1
    · rw [eqn] at hp
      rw [eqk, en]; exact q2 p hp
    · rw [eqn, eqk]; exact q3
    · have z := q4 b hb
      unfold RQo at z ⊢
      rw [xb (23 + 6 * d) b (by omega) (by omega), xb (24 + 6 * d) b (by omega) (by omega), xb (25 + 6 * d) b (by omega) (by omega), xb (26 + 6 * d) b (by omega) (by omega), eiq, ev, eno]
      exact z
  · rw [gA 72 o (by decide), eno]; exact S o ho
  · unfold RA at RA0 ⊢
    rw [enr, enc, erP, ecP, gA 2 5 (by decide)]; exact RA0
  · obtain ⟨m1, m2, m3, m4, m5, m6, m7⟩ := RM0
    refine ⟨?_, ?_, ?_, ?_, ?_, ?_, fun c hc => (gA _ _ (by omega)).trans (m7 c hc)⟩
    · rw [gA 1 7 (by decide), eno]; exact m1
    · rw [ev, gA 1 8 (by decide)]; exact m2
    · rw [en, eno, e16]; exact m3
    · rw [ev, e12]; exact m4
    · rw [e13, en]; exact m5
    · rw [gA 0 4 (by decide)]; exact m6
theorem Iv_73 (H : Iv A) {a k : Nat} {x : Int32} (ha : a = 73 ∨ a = 74) : Iv (zz_sI A a k x) := by
  obtain ⟨h1, ⟨R, HR⟩, I⟩ := H
  have d : dead a = false := by rcases ha with rfl | rfl <;> rfl
  have W : zIC (zz_sI A a k x) := (zIC_72 (by omega)).mpr HR.1.1.2
  refine ⟨by rw [nz_sI d, h1], ⟨R, Rl0_73 HR.1 W fun p b hp => sI_a (by omega), RMan_c HR.2 (fun b => sI_a (by omega)) (sI_a (by omega)) (sI_a (by omega)) fun _ => rfl⟩, (II_sI I W (Or.inr (Or.inr (Or.inl (by omega))))).1⟩
/-- what two memories share that differ by the law's arrays alone -/
theorem e73 (h : ∀ a b, a < 73 → B.1 a b = A.1 a b) : nv B 1 = nv A 1 ∧ ve B 1 = ve A 1 ∧ obj B = obj A ∧ row B = row A := by
  have e14 : B.1 14 = A.1 14 := funext fun b => h 14 b (by decide)
  have e15 : B.1 15 = A.1 15 := funext fun b => h 15 b (by decide)
  refine ⟨congrArg zz_ix (h 1 2 (by decide)), congrArg zz_ix (h 1 3 (by decide)), funext fun k => congrArg zz_ix (h 14 _ (by decide)), ?_⟩
  funext i s
  unfold row lv
  rw [e14, e15]
/-- what holds of an object's numbers now -/
theorem cur_good (H : Rl0 A R) {o : Nat} (ho : o < nv A 1) : goodD (row A o) ∧ row A o 22 = zn o := by
  have h60 : o < 60 := lt_n60 H ho
  have L := H.2.1
  have ho' := ho
  rw [L.2.2.2.1.1] at ho'
  obtain ⟨r, e⟩ := rl_row L (Nat.le_refl _) ho'
  rw [row_lg L h60]
  exact ⟨r.2.2.1, by rw [r.2.1, e]⟩
theorem obj_lt (H : Lg A) {k : Nat} (k1 : 1 ≤ k) (k2 : k ≤ ve A 1) : obj A k < nv A 1 := by
  rw [H.2.2.2.1.1]
  refine Nat.lt_of_lt_of_le ?_ (numO_mono k2)
  obtain ⟨k', rfl⟩ : ∃ k', k = k' + 1 := ⟨k - 1, by omega⟩
  rw [numO_s]
  exact Nat.lt_of_lt_of_le (Nat.lt_succ_self _) (Nat.le_max_right _ _)
/-! at rest -/
def allst (A : zzMd) : Prop := ∀ c, c < 8 → ve A (3 + c) = ve A 1 ∧ qn A c = 0
theorem allst_of (h : zall 8 (stc A) = true) : allst A := fun c hc => by
  have := zall_iff.mp h c hc
  unfold stc at this
  obtain ⟨a, b⟩ := Bool.and_eq_true_iff.mp this
  exact ⟨of_decide_eq_true a, of_decide_eq_true b⟩
theorem rest_sat (H : II A) (S : allst A) (hc : c < 8) {k : Nat} (hk : k < 60) : sat A c k := by
  obtain ⟨s1, s2⟩ := S c hc
  rcases (H.2 c hc).1 k hk with ⟨p, p1, -⟩ | ⟨e, e1, e2, -⟩ | h
  · rw [s2] at p1; exact absurd p1 (Nat.not_lt_zero _)
  · exact absurd e1 (by omega)
  · exact h
theorem rest_rd (H : Lg A) (S : allst A) (hc : c < 8) {o s : Nat} (ho : o < 60) (hs : s < 32) : rd A (3 + c) (zn o) (zn s) = row A o s := by
  rw [vw_rd H hc ho hs, (S c hc).1]
  unfold row lg lv
  have h1 := (Lg_n60 H).2.1
  have h2 := lastV_le (f := obj A) o (ve A 1)
  rw [H.2.2.2.1.2 o ho, zn_ix (by omega)]
theorem rest_nv (H : Lg A) (S : allst A) (hc : c < 8) : nv A (3 + c) = nv A 1 := by
  rw [(H.2.2.2.2.2 c hc).2.1, (S c hc).1, H.2.2.2.1.1]
def podP (A : zzMd) (k i : Nat) : Bool := decide (row A i 24 = zn k ∧ row A i 23 = 2 ∧ row A i 25 = 0)
theorem rest1 (H : II A) (S : allst A) {k : Nat} (hk : k < nv A 1) (h1 : row A k 23 = 1) (h2 : row A k 25 = 0) : zn (zcnt (nv A 1) (podP A k)) = row A k 0 ∧ ∀ i, i < nv A 1 → podP A k i = true → ¬ row A i 29 = 2 ∧ ¬ row A i 29 = 3 := by
  have L := H.1.1
  have n60 := (Lg_n60 L).1
  have h60 : k < 60 := Nat.lt_of_lt_of_le hk n60
  have hc : 1 < 8 := by decide
  have g : ∀ i s, i < 60 → s < 32 → rd A 4 (zn i) (zn s) = row A i s := fun i s a b => rest_rd L S hc a b
  have nn : nv A 4 = nv A 1 := rest_nv L S hc
  have k23 : rd A 4 (zn k) 23 = row A k 23 := g k 23 h60 (by decide)
  have k25 : rd A 4 (zn k) 25 = row A k 25 := g k 25 h60 (by decide)
  have k0 : rd A 4 (zn k) 0 = row A k 0 := g k 0 h60 (by decide)
  have st : stay A 4 (zn k) 1 = true := by
    unfold stay
    exact decide_eq_true ⟨k23.trans h1, k25.trans h2⟩
  have sa : sat1 A k := rest_sat H S hc h60
  obtain ⟨a, b⟩ := sa st
  have ow : ∀ i, i < nv A 1 → owned A 4 (zn i) 2 (zn k) = podP A k i := fun i hi => by
    have i60 : i < 60 := Nat.lt_of_lt_of_le hi n60
    have e23 : rd A 4 (zn i) 23 = row A i 23 := g i 23 i60 (by decide)
    have e24 : rd A 4 (zn i) 24 = row A i 24 := g i 24 i60 (by decide)
    have e25 : rd A 4 (zn i) 25 = row A i 25 := g i 25 i60 (by decide)
    unfold owned podP
    rw [e23, e24, e25]
  have a' : zfst (nv A 4) (fun i => owned A 4 (zn i) 2 (zn k) && (decide (rd A 4 (zn i) 29 = 2) || decide (rd A 4 (zn i) 29 = 3))) = none := a
  refine ⟨?_, fun i hi hp => ?_⟩
  · have e : cntP A 4 (zn k) = zcnt (nv A 1) (podP A k) := by
      unfold cntP
      rw [nn]; exact zcnt_congr ow
    rw [← e, b]; exact k0
  · have i60 : i < 60 := Nat.lt_of_lt_of_le hi n60
    have e29 : rd A 4 (zn i) 29 = row A i 29 := g i 29 i60 (by decide)
    have f : (owned A 4 (zn i) 2 (zn k) && (decide (rd A 4 (zn i) 29 = 2) || decide (rd A 4 (zn i) 29 = 3))) = false := zfst_no a' i (by rw [nn]; exact hi)
    rw [ow i hi, hp, e29] at f
    refine ⟨fun z => ?_, fun z => ?_⟩ <;> rw [z] at f <;> exact absurd f (by decide)
theorem rest5 (H : II A) (S : allst A) {k : Nat} (hk : k < nv A 1) (h2 : row A k 25 = 0) : row A k 24 = -1 ∨ ∃ w, w < nv A 1 ∧ row A k 24 = zn w ∧ ¬ row A w 25 = 4 := by
  have L := H.1.1
  have n60 := (Lg_n60 L).1
  have h60 : k < 60 := Nat.lt_of_lt_of_le hk n60
  have hc : 5 < 8 := by decide
  have g : ∀ i s, i < 60 → s < 32 → rd A 8 (zn i) (zn s) = row A i s := fun i s a b => rest_rd L S hc a b
  have k24 : rd A 8 (zn k) 24 = row A k 24 := g k 24 h60 (by decide)
  have k25 : rd A 8 (zn k) 25 = row A k 25 := g k 25 h60 (by decide)
  have sa : sat5 A k := rest_sat H S hc h60
  rcases sa (k25.trans h2) with a | a
  · exact Or.inl (k24.symm.trans a)
  · rcases (JJ_cur H.1 hk).1 with b | ⟨w, w1, w2, -⟩
    · exact Or.inl b
    · refine Or.inr ⟨w, w1, w2, fun z => ?_⟩
      rw [k24, w2] at a
      unfold gone at a
      have w25 : rd A 8 (zn w) 25 = row A w 25 := g w 25 (Nat.lt_of_lt_of_le w1 n60) (by decide)
      exact (of_decide_eq_false a) (w25.trans z)
/-- what a ROUTE has behind it -/
def beh (A : zzMd) (k p : Nat) : Bool := if p < 30 then b32 (row A k 30) p else b32 (row A k 31) (p - 30)
def behP (A : zzMd) (k p : Nat) : Bool := decide (row A p 23 = 2 ∧ row A p 25 = 0) && (decide (row A p 29 = 1) && decide (row A p 1 = row A k 1))
theorem rest6 (H : II A) (S : allst A) {k p : Nat} (hk : k < nv A 1) (h1 : row A k 23 = 5) (h2 : row A k 25 = 0) (hp : p < nv A 1) : beh A k p = behP A k p := by
  have L := H.1.1
  have n60 := (Lg_n60 L).1
  have h60 : k < 60 := Nat.lt_of_lt_of_le hk n60
  have p60 : p < 60 := Nat.lt_of_lt_of_le hp n60
  have hc : 6 < 8 := by decide
  have g : ∀ i s, i < 60 → s < 32 → rd A 9 (zn i) (zn s) = row A i s := fun i s a b => rest_rd L S hc a b
  have nn : nv A 9 = nv A 1 := rest_nv L S hc
  have k23 : rd A 9 (zn k) 23 = row A k 23 := g k 23 h60 (by decide)
  have k25 : rd A 9 (zn k) 25 = row A k 25 := g k 25 h60 (by decide)
  have k1 : rd A 9 (zn k) 1 = row A k 1 := g k 1 h60 (by decide)
  have k30 : rd A 9 (zn k) 30 = row A k 30 := g k 30 h60 (by decide)
  have k31 : rd A 9 (zn k) 31 = row A k 31 := g k 31 h60 (by decide)
  have st : stay A 9 (zn k) 5 = true := by
    unfold stay
    exact decide_eq_true ⟨k23.trans h1, k25.trans h2⟩
  have sa : sat6 A k := rest_sat H S hc h60
  obtain ⟨a, b⟩ := sa st
  have pb : pbB A (row A k 1) p = behP A k p := by
    have e1 : rd A 9 (zn p) 1 = row A p 1 := g p 1 p60 (by decide)
    have e23 : rd A 9 (zn p) 23 = row A p 23 := g p 23 p60 (by decide)
    have e25 : rd A 9 (zn p) 25 = row A p 25 := g p 25 p60 (by decide)
    have e29 : rd A 9 (zn p) 29 = row A p 29 := g p 29 p60 (by decide)
    unfold pbB behP stay
    rw [e1, e23, e25, e29]
  unfold beh
  unfold pLow at a
  unfold pHigh at b
  rw [k30, k1, nn] at a
  rw [k31, k1, nn] at b
  by_cases h : p < 30
  · rw [if_pos h, ← a, pbs_bit (row A k 1) 0 (by omega) _ (Nat.min_le_left _ _), Nat.zero_add, pb, decide_eq_true (show p < min 30 (nv A 1 - 0) by omega), Bool.true_and]
  · rw [if_neg h, ← b, pbs_bit (row A k 1) 30 (by omega) _ (Nat.min_le_left _ _), show 30 + (p - 30) = p by omega, pb, decide_eq_true (show p - 30 < min 30 (nv A 1 - 30) by omega), Bool.true_and]
theorem goal_ok {x M : Int32} (h : 1 ≤ M) : 1 ≤ (if (if 1 < x then x else 1) < M then (if 1 < x then x else 1) else M) ∧ (if (if 1 < x then x else 1) < M then (if 1 < x then x else 1) else M) ≤ M := by
  have e : (1 : Int32) ≤ (if 1 < x then x else 1) := by
    by_cases q : 1 < x
    · rw [if_pos q]; exact Int32.le_of_lt q
    · rw [if_neg q]; exact Int32.le_refl _
  generalize (if 1 < x then x else 1) = y at e
  by_cases q : y < M
  · rw [if_pos q]; exact ⟨e, Int32.le_of_lt q⟩
  · rw [if_neg q]; exact ⟨h, Int32.le_refl _⟩
theorem rest7 (H : II A) (HR : Rl0 A R) (S : allst A) {k : Nat} (hk : k < nv A 1) (h1 : row A k 23 = 0) (h2 : row A k 25 = 0) (h5 : ¬ row A k 5 = 0) : 1 ≤ row A k 0 ∧ row A k 0 ≤ row A k 5 := by
  have L := H.1.1
  have n60 := (Lg_n60 L).1
  have h60 : k < 60 := Nat.lt_of_lt_of_le hk n60
  have hc : 7 < 8 := by decide
  have g : ∀ i s, i < 60 → s < 32 → rd A 10 (zn i) (zn s) = row A i s := fun i s a b => rest_rd L S hc a b
  have k23 : rd A 10 (zn k) 23 = row A k 23 := g k 23 h60 (by decide)
  have k25 : rd A 10 (zn k) 25 = row A k 25 := g k 25 h60 (by decide)
  have k0 : rd A 10 (zn k) 0 = row A k 0 := g k 0 h60 (by decide)
  have k5 : rd A 10 (zn k) 5 = row A k 5 := g k 5 h60 (by decide)
  have st : stay A 10 (zn k) 0 = true := by
    unfold stay
    exact decide_eq_true ⟨k23.trans h1, k25.trans h2⟩
  obtain ⟨m, m1, -, m3⟩ := (cur_good HR hk).1.1 5 (by decide)
  have m3 : m ≤ 5 := m3
  have m0 : 1 ≤ m := Nat.one_le_iff_ne_zero.mpr fun z => h5 (by rw [m1, z]; rfl)
  have p1 : (0 : Int32) < row A k 5 := by
    rw [m1]
    exact (zn_lt (a := 0) (b := m) (by decide) (by omega)).mpr (by omega)
  have p2 : (1 : Int32) ≤ row A k 5 := by
    rw [m1]
    exact (zn_le (a := 1) (b := m) (by decide) (by omega)).mpr m0
  have sa : sat7 A k := rest_sat H S hc h60
  have e := sa st (by rw [k5]; exact p1)
  rw [k0] at e
  unfold goalS at e
  rw [k5] at e
  rw [e]
  exact goal_ok p2
theorem g_isBehind (hA : nz A = A) (H : Rel A R) {o p : Nat} (ho : o < nv A 1) (hp : p < nv A 1) (hk : row A o 23 = 5) : kV fX11_isBehind [.ref 0, .int (zn o), .int (zn p)] A (zb (beh A o p)) := kV_of hA fun M hM => by
  subst hM
  have h1 := h_req H ho
  have k1 := h_req H hp
  have h2 := h_rK H ho hk
  have p60 : p < 60 := lt_n60 H.1 (o := p) hp
  have em := mod30 ⟨p, p60⟩
  have z30 : ((30 : Int32) = 0) = False := eq_false (by decide)
  rw [s_X11_isBehind]
  unfold beh
  by_cases dp : p < 30
  · have l : ((30 : Int32) ≤ zn p) = False := zn_le (a := 30) (b := p) (by decide) (by omega) ▸ eq_false (by omega)
    have hr : fX10_read [.ref 1, .int (zn o), .int 30] M = some (.inl (some (.int (row (nz M) o 30))), M) := h_read H ho (s := 30) (by decide)
    have em' : zn p - zn p / 30 * 30 = zn p := em.trans (congrArg zn (Nat.mod_eq_of_lt dp))
    have t : (row (nz M) o 30 >>> (zn p &&& 31) &&& 1 = 1) = (b32 (row (nz M) o 30) p = true) := by
      rw [and1_I, b32_shr _ (by omega)]
    rw [if_pos dp]
    cases hb : b32 (row (nz M) o 30) p
    · rw [hb] at t
      have t' : (row (nz M) o 30 >>> (zn p &&& 31) &&& 1 = 1) = False := t.trans (eq_false Bool.false_ne_true)
      (simp only [e_X11_isBehind, zo_iload, zo_lload, zo_aload, zo_istore, zo_lstore, zo_astore, zo_iinc, zo_pushI, zo_pushL, zo_null, zo_ii, zo_iid, zo_ll, zo_li, zo_lcmp, zo_i2l, zo_l2i, zo_dup, zo_dup2, zo_pop, zo_goto, zo_if, zo_icmp, zo_ifnull, zo_gets, zo_mm, zo_throw, zo_ret, zo_aret, zo_lret, q_iret_f, q_iret_1, q_iret_0, q_iret_b, q_c8_0, q_c8_1, q_c8_2, q_c8_3, q_c8_4, q_set_0, q_set_1i, q_set_1r, q_set_1n, q_set_1N, q_set_s, q_set_1j, q_bk_v, q_bk_n, q_if, zb_ite, cond_true, cond_false, List.getElem?_cons_zero, List.getElem?_cons_succ, Nat.reduceAdd, q_bx_v, q_bx_n, q_bx_x, h1, k1, h2, l, hr, z30, em', t', if_true, if_false, zb_eq0, zb_eq1, zn_1, not_true_eq_false, not_false_eq_true, ite_true, ite_false, if_true, if_false, q_iret_0, q_iret_1, decide_true, decide_false, decide_not, zb_t, zb_f, z10, z01, cond_true, cond_false, Bool.and_true, Bool.true_and, Bool.and_false, Bool.false_and, Bool.not_true, Bool.not_false, true_and, and_true, false_and, and_false, true_or, or_true, false_or, or_false, Bool.true_eq_false, Bool.false_eq_true, eq_self, reduceCtorEq, Bool.or_true, Bool.true_or, Bool.or_false, Bool.false_or])
    · rw [hb] at t
      have t' : (row (nz M) o 30 >>> (zn p &&& 31) &&& 1 = 1) = True := t.trans (eq_true rfl)
      (simp only [e_X11_isBehind, zo_iload, zo_lload, zo_aload, zo_istore, zo_lstore, zo_astore, zo_iinc, zo_pushI, zo_pushL, zo_null, zo_ii, zo_iid, zo_ll, zo_li, zo_lcmp, zo_i2l, zo_l2i, zo_dup, zo_dup2, zo_pop, zo_goto, zo_if, zo_icmp, zo_ifnull, zo_gets, zo_mm, zo_throw, zo_ret, zo_aret, zo_lret, q_iret_f, q_iret_1, q_iret_0, q_iret_b, q_c8_0, q_c8_1, q_c8_2, q_c8_3, q_c8_4, q_set_0, q_set_1i, q_set_1r, q_set_1n, q_set_1N, q_set_s, q_set_1j, q_bk_v, q_bk_n, q_if, zb_ite, cond_true, cond_false, List.getElem?_cons_zero, List.getElem?_cons_succ, Nat.reduceAdd, q_bx_v, q_bx_n, q_bx_x, h1, k1, h2, l, hr, z30, em', t', if_true, if_false, zb_eq0, zb_eq1, zn_1, not_true_eq_false, not_false_eq_true, ite_true, ite_false, if_true, if_false, q_iret_0, q_iret_1, decide_true, decide_false, decide_not, zb_t, zb_f, z10, z01, cond_true, cond_false, Bool.and_true, Bool.true_and, Bool.and_false, Bool.false_and, Bool.not_true, Bool.not_false, true_and, and_true, false_and, and_false, true_or, or_true, false_or, or_false, Bool.true_eq_false, Bool.false_eq_true, eq_self, reduceCtorEq, Bool.or_true, Bool.true_or, Bool.or_false, Bool.false_or])
  · have l : ((30 : Int32) ≤ zn p) = True := zn_le (a := 30) (b := p) (by decide) (by omega) ▸ eq_true (by omega)
    have hr : fX10_read [.ref 1, .int (zn o), .int 31] M = some (.inl (some (.int (row (nz M) o 31))), M) := h_read H ho (s := 31) (by decide)
    have em' : zn p - zn p / 30 * 30 = zn (p - 30) := em.trans (congrArg zn (show p % 30 = p - 30 by omega))
    have t : (row (nz M) o 31 >>> (zn (p - 30) &&& 31) &&& 1 = 1) = (b32 (row (nz M) o 31) (p - 30) = true) := by
      rw [and1_I, b32_shr _ (by omega)]
    rw [if_neg dp]
    cases hb : b32 (row (nz M) o 31) (p - 30)
    · rw [hb] at t
      have t' : (row (nz M) o 31 >>> (zn (p - 30) &&& 31) &&& 1 = 1) = False := t.trans (eq_false Bool.false_ne_true)
      (simp only [e_X11_isBehind, zo_iload, zo_lload, zo_aload, zo_istore, zo_lstore, zo_astore, zo_iinc, zo_pushI, zo_pushL, zo_null, zo_ii, zo_iid, zo_ll, zo_li, zo_lcmp, zo_i2l, zo_l2i, zo_dup, zo_dup2, zo_pop, zo_goto, zo_if, zo_icmp, zo_ifnull, zo_gets, zo_mm, zo_throw, zo_ret, zo_aret, zo_lret, q_iret_f, q_iret_1, q_iret_0, q_iret_b, q_c8_0, q_c8_1, q_c8_2, q_c8_3, q_c8_4, q_set_0, q_set_1i, q_set_1r, q_set_1n, q_set_1N, q_set_s, q_set_1j, q_bk_v, q_bk_n, q_if, zb_ite, cond_true, cond_false, List.getElem?_cons_zero, List.getElem?_cons_succ, Nat.reduceAdd, q_bx_v, q_bx_n, q_bx_x, h1, k1, h2, l, hr, z30, em', t', if_true, if_false, zb_eq0, zb_eq1, zn_1, not_true_eq_false, not_false_eq_true, ite_true, ite_false, if_true, if_false, q_iret_0, q_iret_1, decide_true, decide_false, decide_not, zb_t, zb_f, z10, z01, cond_true, cond_false, Bool.and_true, Bool.true_and, Bool.and_false, Bool.false_and, Bool.not_true, Bool.not_false, true_and, and_true, false_and, and_false, true_or, or_true, false_or, or_false, Bool.true_eq_false, Bool.false_eq_true, eq_self, reduceCtorEq, Bool.or_true, Bool.true_or, Bool.or_false, Bool.false_or])
    · rw [hb] at t
      have t' : (row (nz M) o 31 >>> (zn (p - 30) &&& 31) &&& 1 = 1) = True := t.trans (eq_true rfl)
      (simp only [e_X11_isBehind, zo_iload, zo_lload, zo_aload, zo_istore, zo_lstore, zo_astore, zo_iinc, zo_pushI, zo_pushL, zo_null, zo_ii, zo_iid, zo_ll, zo_li, zo_lcmp, zo_i2l, zo_l2i, zo_dup, zo_dup2, zo_pop, zo_goto, zo_if, zo_icmp, zo_ifnull, zo_gets, zo_mm, zo_throw, zo_ret, zo_aret, zo_lret, q_iret_f, q_iret_1, q_iret_0, q_iret_b, q_c8_0, q_c8_1, q_c8_2, q_c8_3, q_c8_4, q_set_0, q_set_1i, q_set_1r, q_set_1n, q_set_1N, q_set_s, q_set_1j, q_bk_v, q_bk_n, q_if, zb_ite, cond_true, cond_false, List.getElem?_cons_zero, List.getElem?_cons_succ, Nat.reduceAdd, q_bx_v, q_bx_n, q_bx_x, h1, k1, h2, l, hr, z30, em', t', if_true, if_false, zb_eq0, zb_eq1, zn_1, not_true_eq_false, not_false_eq_true, ite_true, ite_false, if_true, if_false, q_iret_0, q_iret_1, decide_true, decide_false, decide_not, zb_t, zb_f, z10, z01, cond_true, cond_false, Bool.and_true, Bool.true_and, Bool.and_false, Bool.false_and, Bool.not_true, Bool.not_false, true_and, and_true, false_and, and_false, true_or, or_true, false_or, or_false, Bool.true_eq_false, Bool.false_eq_true, eq_self, reduceCtorEq, Bool.or_true, Bool.true_or, Bool.or_false, Bool.false_or])
/-! queues -/
theorem q_kind (H : II A) (hc : c < 8) {p : Nat} (hp : p < qn A c) : qk A c p < nv A 1 ∧ (c = 5 ∨ row A (qk A c p) 23 = okd c) := by
  obtain ⟨a, b⟩ := (H.2 c hc).2.1 (qk A c p) ⟨p, hp, rfl⟩
  refine ⟨a, ?_⟩
  rcases b with b | b
  · refine Or.inl ?_
    rcases zc8 hc with rfl | rfl | rfl | rfl | rfl | rfl | rfl | rfl <;> first | rfl | exact absurd b (by decide)
  · exact Or.inr b
theorem q_fail (HR : Rl0 A R) (hc : c < 8) {o : Nat} (ho : o < 60) : ∃ f, f < 20000 ∧ A.1 (24 + 6 * c) o = zn f := by
  obtain ⟨-, f, d, w, ⟨z1, -⟩, -, ⟨z2, z3⟩, -⟩ := (HR.2.2.1 c hc).2.2.2.2 o ho
  have := HR.2.2.2.2.2.1.2.1
  exact ⟨f, by omega, z1⟩
/-! the log goes on behind what it was -/
def Px (A B : zzMd) : Prop := ve A 1 ≤ ve B 1 ∧ ∀ k, k ≤ ve A 1 → obj B k = obj A k
theorem Px_refl (A : zzMd) : Px A A := ⟨Nat.le_refl _, fun _ _ => rfl⟩
theorem Px_trans {C : zzMd} (h : Px A B) (g : Px B C) : Px A C := ⟨Nat.le_trans h.1 g.1, fun k hk => (g.2 k (Nat.le_trans hk h.1)).trans (h.2 k hk)⟩
theorem Px_of (h : ∀ a b, a = 14 ∨ (a = 1 ∧ b = 3) → B.1 a b = A.1 a b) : Px A B := by
  have ev : ve B 1 = ve A 1 := congrArg zz_ix (h 1 3 (Or.inr ⟨rfl, rfl⟩))
  exact ⟨by rw [ev]; exact Nat.le_refl _, fun k _ => congrArg zz_ix (h 14 _ (Or.inl rfl))⟩
theorem Px_Wr (A : zzMd) (o : Nat) (D : Nat → Int32) : Px A (aWr A o D).2 := by
  rcases WR_wr A o D with ⟨e, -⟩ | ⟨e, -⟩ | ⟨-, e, he, -⟩
  · rw [e]; exact Px_refl A
  · rw [e]; exact Px_refl A
  · rw [e]; exact ⟨by rw [put_ve he]; omega, fun k hk => put_obj o _ hk⟩
theorem Cl_Px (T : zzMd) : Cl (Px T) := ⟨fun A o D h => Px_trans h (Px_Wr A o D), fun A a k x ha h => Px_trans h (Px_of fun p q hp => sI_a (by omega)), fun A V h => Px_trans h (Px_of fun p q hp => if_neg (by omega))⟩
theorem Px_See (hc : c < 8) (S : zSee c A B) : Px A B := Px_of fun a b h => S a b (Or.inl (by omega)) (by omega) (by omega) (by omega)
theorem Px_work (A : zzMd) (hc : c < 8) : Px A (aWork A c).2 := by
  unfold aWork
  cases zfst (qn A c) (kdue A c) with
  | none => exact Px_refl A
  | some p =>
    refine Px_trans (Px_See hc (Tk_S p)) ?_
    show Px (aTk A c p) (aWork1 (aTk A c p) c (qk A c p)).2
    generalize aTk A c p = T
    generalize qk A c p = o
    have en : ∀ F out v, Px T F → Px T (aEnd F c o out v).2 := fun F out v h => by
      have h2 : Px T (bif decide (F.1 1 3 ≤ v) then F else zz_sI F (26 + 6 * c) o (F.1 1 3)) := by
        cases decide (F.1 1 3 ≤ v)
        · exact Px_trans h (Px_of fun p q hp => sI_a (by omega))
        · exact h
      unfold aEnd
      generalize (bif decide (F.1 1 3 ≤ v) then F else zz_sI F (26 + 6 * c) o (F.1 1 3)) = G at h2
      cases decide (out = 1)
      · have h3 : Px T (bif decide (out = 3) then aFail G c o else G) := by
          cases decide (out = 3)
          · exact h2
          · unfold aFail
            exact Px_trans h2 (Px_of fun p q hp => by rw [cond_true, sI_a (by omega), sI_a (by omega)])
        exact Px_trans h3 (Px_See hc (Enq_See _))
      · exact Px_trans h2 (Px_of fun p q hp => sI_a (by omega))
    unfold aWork1
    cases decide (T.1 (26 + 6 * c) o ≤ T.1 (3 + c) 3)
    · exact en T 2 _ (Px_refl T)
    · exact en _ _ _ (Cl_Sv (Cl_Px T) hc (Px_refl T))
/-- new objects by a work: as many as there are events of them, and not more than one -/
def newE (A B : zzMd) (n : Nat) : Nat := zcnt n fun i => decide (nv A 1 ≤ obj B (ve A 1 + 1 + i))
theorem work_new (H : Lg A) (HB : Lg B) (X : Px A B) (N : NS A B) : nv B 1 = nv A 1 + newE A B (ve B 1 - ve A 1) ∧ newE A B (ve B 1 - ve A 1) ≤ 1 := by
  have lt : ∀ i, i < ve B 1 - ve A 1 → obj B (ve A 1 + 1 + i) < nv B 1 := fun i hi => obj_lt HB (by omega) (by omega)
  have x1 := X.1
  rcases N with e | ⟨e1, e2⟩
  · have z : newE A B (ve B 1 - ve A 1) = 0 := by
      unfold newE
      rw [zcnt_ext (m := 0) (Nat.zero_le _) fun i _ hi => decide_eq_false (by have := lt i hi; omega)]
      rfl
    rw [z, e]; exact ⟨rfl, by decide⟩
  · have d1 : ve B 1 - ve A 1 = 1 := by omega
    have l0 := lt 0 (by omega)
    have m1 : nv B 1 = Nat.max (numO (obj B) (ve A 1)) (obj B (ve A 1 + 1) + 1) := by
      rw [HB.2.2.2.1.1, e2, numO_s]
    have m2 : numO (obj B) (ve A 1) = nv A 1 := by
      rw [H.2.2.2.1.1]
      exact numO_c fun k _ h2 => X.2 k h2
    rw [m2] at m1
    have ge : nv A 1 ≤ obj B (ve A 1 + 1 + 0) := Decidable.byContradiction fun q => by
      have q' : obj B (ve A 1 + 1) + 1 ≤ nv A 1 := by
        have : ¬ nv A 1 ≤ obj B (ve A 1 + 1) := q
        omega
      rw [show Nat.max (nv A 1) (obj B (ve A 1 + 1) + 1) = nv A 1 from Nat.max_eq_left q'] at m1
      omega
    have z : newE A B (ve B 1 - ve A 1) = 1 := by
      rw [d1]
      show 0 + (bif decide (nv A 1 ≤ obj B (ve A 1 + 1 + 0)) then 1 else 0) = 1
      rw [decide_eq_true ge]; rfl
    rw [z]; exact ⟨e1, Nat.le_refl _⟩
end
end

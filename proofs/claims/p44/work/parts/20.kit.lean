section
/-! how a run is followed: what the steps do at stacks and locals that are written out -/
theorem q_c8_0 : zz_cat8 [] = true := rfl
theorem q_cat (v : Value) : v.category ≤ 2 := by cases v <;> first | exact Nat.le_refl 2 | exact Nat.le_succ 1 | simp [Value.category]
theorem q_c8_1 (a : Value) : zz_cat8 [a] = true := by
  have := q_cat a
  simp only [zz_cat8, List.map_cons, List.map_nil, List.sum_cons, List.sum_nil, decide_eq_true_eq]
  omega
theorem q_c8_2 (a b : Value) : zz_cat8 [a, b] = true := by
  have := q_cat a; have := q_cat b
  simp only [zz_cat8, List.map_cons, List.map_nil, List.sum_cons, List.sum_nil, decide_eq_true_eq]
  omega
theorem q_c8_3 (a b c : Value) : zz_cat8 [a, b, c] = true := by
  have := q_cat a; have := q_cat b; have := q_cat c
  simp only [zz_cat8, List.map_cons, List.map_nil, List.sum_cons, List.sum_nil, decide_eq_true_eq]
  omega
theorem q_c8_4 (a b c d : Value) : zz_cat8 [a, b, c, d] = true := by
  have := q_cat a; have := q_cat b; have := q_cat c; have := q_cat d
  simp only [zz_cat8, List.map_cons, List.map_nil, List.sum_cons, List.sum_nil, decide_eq_true_eq]
  omega
theorem q_c8_5 (a : Int32) (b c d e : Value) : zz_cat8 [.int a, b, c, d] = true := q_c8_4 _ _ _ _
theorem q_c8_i5 (a b c d e : Int32) : zz_cat8 [.int a, .int b, .int c, .int d, .int e] = true := rfl
/-- no wide value in these zzs_set -/
theorem q_set_0 (x : Option Value) (L : zzLc) (v : Value) : zz_set1 (x :: L) 0 v = some v :: L := rfl
theorem q_set_1i (a : Int32) (y : Option Value) (L : zzLc) (v : Value) : zz_set1 (some (.int a) :: y :: L) 1 v = some (.int a) :: some v :: L := rfl
theorem q_set_1r (a : Nat) (y : Option Value) (L : zzLc) (v : Value) : zz_set1 (some (.ref a) :: y :: L) 1 v = some (.ref a) :: some v :: L := rfl
theorem q_set_1N (y : Option Value) (L : zzLc) (v : Value) : zz_set1 (some .null :: y :: L) 1 v = some .null :: some v :: L := rfl
theorem q_set_1n (y : Option Value) (L : zzLc) (v : Value) : zz_set1 (none :: y :: L) 1 v = none :: some v :: L := rfl
theorem q_set_1l (a : Int64) (y : Option Value) (L : zzLc) (v : Value) : zz_set1 (some (.long a) :: y :: L) 1 v = none :: some v :: L := rfl
theorem q_lcl_s (x y : Option Value) (L : zzLc) (k : Nat) : zz_lcl (x :: y :: L) (k + 2) = x :: zz_lcl (y :: L) (k + 1) := by
  show (match (y :: L)[k]? with | some (some v) => if v.category = 2 then (x :: y :: L).set (k + 1) none else x :: y :: L | _ => x :: y :: L) = x :: (match (y :: L)[k]? with | some (some v) => if v.category = 2 then (y :: L).set k none else y :: L | _ => y :: L)
  split
  · split
    · rfl
    · rfl
  · rfl
theorem q_set_s (x y : Option Value) (L : zzLc) (k : Nat) (v : Value) : zz_set1 (x :: y :: L) (k + 2) v = x :: zz_set1 (y :: L) (k + 1) v := by
  unfold zz_set1
  rw [q_lcl_s]
  rfl
theorem q_set2_0 (x y : Option Value) (L : zzLc) (v : Value) : zz_set2 (x :: y :: L) 0 v = some v :: none :: L := rfl
theorem q_set2_1i (a : Int32) (y z : Option Value) (L : zzLc) (v : Value) : zz_set2 (some (.int a) :: y :: z :: L) 1 v = some (.int a) :: some v :: none :: L := rfl
theorem q_set2_1r (a : Nat) (y z : Option Value) (L : zzLc) (v : Value) : zz_set2 (some (.ref a) :: y :: z :: L) 1 v = some (.ref a) :: some v :: none :: L := rfl
theorem q_set2_1n (y z : Option Value) (L : zzLc) (v : Value) : zz_set2 (none :: y :: z :: L) 1 v = none :: some v :: none :: L := rfl
theorem q_set2_s (x y : Option Value) (L : zzLc) (k : Nat) (v : Value) : zz_set2 (x :: y :: L) (k + 2) v = x :: zz_set2 (y :: L) (k + 1) v := by
  unfold zz_set2
  rw [q_lcl_s]
  rfl
theorem q_bk_v (K : zzKt) (nx : Nat) (L : zzLc) (r : List Value) (v : Value) (M : zzMd) : zz_backN K nx L r (some (.inl (some v), M)) = K nx L (v :: r) M := rfl
theorem q_bk_n (K : zzKt) (nx : Nat) (L : zzLc) (r : List Value) (M : zzMd) : zz_backN K nx L r (some (.inl none, M)) = K nx L r M := rfl
theorem q_bx_v (K : zzKt) (nx : Nat) (L : zzLc) (r : List Value) (v : Value) (M : zzMd) : zz_back K nx L r (some (.inl (some v), M)) = K nx L (v :: r) M := rfl
theorem q_bx_n (K : zzKt) (nx : Nat) (L : zzLc) (r : List Value) (M : zzMd) : zz_back K nx L r (some (.inl none, M)) = K nx L r M := rfl
theorem q_bx_x (K : zzKt) (nx : Nat) (L : zzLc) (r : List Value) (x : Nat) (M : zzMd) : zz_back K nx L r (some (.inr x, M)) = some (.inr x, M) := rfl
theorem q_if {α : Type} (p : Prop) [Decidable p] (a b : α) : (bif decide p then a else b) = if p then a else b := by
  by_cases h : p
  · rw [decide_eq_true h, if_pos h]; rfl
  · rw [decide_eq_false h, if_neg h]; rfl
theorem q_iret_f (K : zzKt) (L : zzLc) (x : Int32) (M : zzMd) : zo_iret false K L [.int x] M = some (.inl (some (.int x)), M) := rfl
theorem q_iret_t (K : zzKt) (L : zzLc) (x : Int32) (M : zzMd) : zo_iret true K L [.int x] M = bif zz_b01 x then some (.inl (some (.int x)), M) else none := rfl
theorem q_iret_1 (K : zzKt) (L : zzLc) (M : zzMd) : zo_iret true K L [.int 1] M = some (.inl (some (.int 1)), M) := rfl
theorem q_iret_0 (K : zzKt) (L : zzLc) (M : zzMd) : zo_iret true K L [.int 0] M = some (.inl (some (.int 0)), M) := rfl
/-- a truth value as a number -/
def zb (b : Bool) : Int32 := bif b then 1 else 0
theorem zb_t : zb true = 1 := rfl
theorem zb_f : zb false = 0 := rfl
theorem z10 : ((1 : Int32) = 0) = False := eq_false (by decide)
theorem z01 : ((0 : Int32) = 1) = False := eq_false (by decide)
theorem zb_01 (b : Bool) : zz_b01 (zb b) = true := by cases b <;> rfl
theorem q_iret_b (K : zzKt) (L : zzLc) (b : Bool) (M : zzMd) : zo_iret true K L [.int (zb b)] M = some (.inl (some (.int (zb b))), M) := by cases b <;> rfl
theorem zb_eq0 (b : Bool) : (zb b = 0) = (b = false) := by cases b <;> simp [zb]
theorem zb_eq1 (b : Bool) : (zb b = 1) = (b = true) := by cases b <;> simp [zb]
theorem zb_ite (p : Prop) [Decidable p] : (if p then (1 : Int32) else 0) = zb (decide p) := by
  by_cases h : p
  · rw [if_pos h, decide_eq_true h]; rfl
  · rw [if_neg h, decide_eq_false h]; rfl
/-! numbers -/
def zn (k : Nat) : Int32 := Int32.ofNat k
theorem zn_toInt {k : Nat} (h : k < 2147483648) : (zn k).toInt = k := Int32.toInt_ofNat_of_lt h
theorem zn_lt {a b : Nat} (ha : a < 2147483648) (hb : b < 2147483648) : (zn a < zn b) = (a < b) := by
  rw [Int32.lt_iff_toInt_lt, zn_toInt ha, zn_toInt hb]
  exact propext Int.ofNat_lt
theorem zn_le {a b : Nat} (ha : a < 2147483648) (hb : b < 2147483648) : (zn a ≤ zn b) = (a ≤ b) := by
  rw [Int32.le_iff_toInt_le, zn_toInt ha, zn_toInt hb]
  exact propext Int.ofNat_le
theorem zn_inj {a b : Nat} (ha : a < 2147483648) (hb : b < 2147483648) : (zn a = zn b) = (a = b) := by
  refine propext ⟨fun h => ?_, fun h => h ▸ rfl⟩
  have h1 := congrArg Int32.toInt h
  rw [zn_toInt ha, zn_toInt hb] at h1
  exact Int.ofNat_inj.mp h1
theorem zn_add (a b : Nat) : zn a + zn b = zn (a + b) := (Int32.ofNat_add a b).symm
theorem zn_mul (a b : Nat) : zn a * zn b = zn (a * b) := (Int32.ofNat_mul a b).symm
theorem zn_ix {k : Nat} (h : k < 2147483648) : zz_ix (zn k) = k := by
  unfold zz_ix
  rw [Int32.toNatClampNeg, zn_toInt h]
  rfl
theorem zn_inb {k n : Nat} (h : k < 2147483648) : zz_inb (zn k) n = decide (k < n) := by
  unfold zz_inb
  rw [zn_toInt h]
  exact decide_eq_decide.mpr (by omega)
theorem zn_nn {k : Nat} (h : k < 2147483648) : (zn k < 0) = False := by
  rw [Int32.lt_iff_toInt_lt, zn_toInt h]
  exact eq_false (by show ¬ ((k : Int) < 0); omega)
theorem zn_m1 {k : Nat} (h : k < 2147483648) : (zn k = -1) = False := by
  refine eq_false (fun e => ?_)
  have h1 := congrArg Int32.toInt e
  rw [zn_toInt h] at h1
  have h2 : (-1 : Int32).toInt = -1 := by decide
  rw [h2] at h1
  omega
theorem zn_of {x : Int32} {n : Nat} (h0 : 0 ≤ x.toInt) (h1 : x.toInt < n) : x = zn (zz_ix x) ∧ zz_ix x < n := by
  have h2 : ((zz_ix x : Nat) : Int) = x.toInt := by
    unfold zz_ix
    rw [Int32.toNatClampNeg]
    exact Int.toNat_of_nonneg h0
  have h3 := Int32.toInt_lt x
  refine ⟨Int32.toInt.inj ?_, by omega⟩
  rw [zn_toInt (by omega), h2]
theorem q_ix : zz_ix 0 = 0 ∧ zz_ix 1 = 1 ∧ zz_ix 2 = 2 ∧ zz_ix 3 = 3 ∧ zz_ix 4 = 4 ∧ zz_ix 5 = 5 ∧ zz_ix 6 = 6 ∧ zz_ix 7 = 7 ∧ zz_ix 8 = 8 ∧ zz_ix 9 = 9 ∧ zz_ix 10 = 10 ∧ zz_ix 11 = 11 ∧ zz_ix 12 = 12 ∧ zz_ix 13 = 13 ∧ zz_ix 14 = 14 ∧ zz_ix 15 = 15 ∧ zz_ix 16 = 16 ∧ zz_ix 17 = 17 ∧ zz_ix 18 = 18 ∧ zz_ix 19 = 19 ∧ zz_ix 20 = 20 ∧ zz_ix 21 = 21 ∧ zz_ix 22 = 22 ∧ zz_ix 23 = 23 ∧ zz_ix 24 = 24 ∧ zz_ix 25 = 25 ∧ zz_ix 26 = 26 ∧ zz_ix 27 = 27 ∧ zz_ix 28 = 28 ∧ zz_ix 29 = 29 ∧ zz_ix 30 = 30 ∧ zz_ix 31 = 31 ∧ zz_ix 32 = 32 ∧ zz_ix 60 = 60 := ⟨rfl, rfl, rfl, rfl, rfl, rfl, rfl, rfl, rfl, rfl, rfl, rfl, rfl, rfl, rfl, rfl, rfl, rfl, rfl, rfl, rfl, rfl, rfl, rfl, rfl, rfl, rfl, rfl, rfl, rfl, rfl, rfl, rfl, rfl⟩
theorem q_in : (∀ n, zz_inb 0 n = decide (0 < n)) ∧ (∀ n, zz_inb 1 n = decide (1 < n)) ∧ (∀ n, zz_inb 2 n = decide (2 < n)) ∧ (∀ n, zz_inb 3 n = decide (3 < n)) ∧ (∀ n, zz_inb 4 n = decide (4 < n)) ∧ (∀ n, zz_inb 5 n = decide (5 < n)) ∧ (∀ n, zz_inb 6 n = decide (6 < n)) ∧ (∀ n, zz_inb 7 n = decide (7 < n)) ∧ (∀ n, zz_inb 8 n = decide (8 < n)) ∧ (∀ n, zz_inb 9 n = decide (9 < n)) ∧ (∀ n, zz_inb 10 n = decide (10 < n)) ∧ (∀ n, zz_inb 11 n = decide (11 < n)) ∧ (∀ n, zz_inb 12 n = decide (12 < n)) ∧ (∀ n, zz_inb 13 n = decide (13 < n)) ∧ (∀ n, zz_inb 14 n = decide (14 < n)) ∧ (∀ n, zz_inb 15 n = decide (15 < n)) ∧ (∀ n, zz_inb 16 n = decide (16 < n)) ∧ (∀ n, zz_inb 17 n = decide (17 < n)) ∧ (∀ n, zz_inb 18 n = decide (18 < n)) ∧ (∀ n, zz_inb 19 n = decide (19 < n)) ∧ (∀ n, zz_inb 20 n = decide (20 < n)) ∧ (∀ n, zz_inb 21 n = decide (21 < n)) ∧ (∀ n, zz_inb 22 n = decide (22 < n)) ∧ (∀ n, zz_inb 23 n = decide (23 < n)) ∧ (∀ n, zz_inb 24 n = decide (24 < n)) ∧ (∀ n, zz_inb 25 n = decide (25 < n)) ∧ (∀ n, zz_inb 26 n = decide (26 < n)) ∧ (∀ n, zz_inb 27 n = decide (27 < n)) ∧ (∀ n, zz_inb 28 n = decide (28 < n)) ∧ (∀ n, zz_inb 29 n = decide (29 < n)) ∧ (∀ n, zz_inb 30 n = decide (30 < n)) ∧ (∀ n, zz_inb 31 n = decide (31 < n)) ∧ (∀ n, zz_inb 32 n = decide (32 < n)) := ⟨fun n => zn_inb (k := 0) (by decide), fun n => zn_inb (k := 1) (by decide), fun n => zn_inb (k := 2) (by decide), fun n => zn_inb (k := 3) (by decide), fun n => zn_inb (k := 4) (by decide), fun n => zn_inb (k := 5) (by decide), fun n => zn_inb (k := 6) (by decide), fun n => zn_inb (k := 7) (by decide), fun n => zn_inb (k := 8) (by decide), fun n => zn_inb (k := 9) (by decide), fun n => zn_inb (k := 10) (by decide), fun n => zn_inb (k := 11) (by decide), fun n => zn_inb (k := 12) (by decide), fun n => zn_inb (k := 13) (by decide), fun n => zn_inb (k := 14) (by decide), fun n => zn_inb (k := 15) (by decide), fun n => zn_inb (k := 16) (by decide), fun n => zn_inb (k := 17) (by decide), fun n => zn_inb (k := 18) (by decide), fun n => zn_inb (k := 19) (by decide), fun n => zn_inb (k := 20) (by decide), fun n => zn_inb (k := 21) (by decide), fun n => zn_inb (k := 22) (by decide), fun n => zn_inb (k := 23) (by decide), fun n => zn_inb (k := 24) (by decide), fun n => zn_inb (k := 25) (by decide), fun n => zn_inb (k := 26) (by decide), fun n => zn_inb (k := 27) (by decide), fun n => zn_inb (k := 28) (by decide), fun n => zn_inb (k := 29) (by decide), fun n => zn_inb (k := 30) (by decide), fun n => zn_inb (k := 31) (by decide), fun n => zn_inb (k := 32) (by decide)⟩
theorem zn_1 (i : Nat) : zn i + 1 = zn (i + 1) := zn_add i 1
theorem zn_1x (i : Nat) : 1 + zn i = zn (1 + i) := zn_add 1 i
theorem zn_p2 (i : Nat) : zn i + 2 = zn (i + 2) := zn_add i 2
theorem zn_p3 (i : Nat) : zn i + 3 = zn (i + 3) := zn_add i 3
theorem zn_p4 (i : Nat) : zn i + 4 = zn (i + 4) := zn_add i 4
theorem zn_p5 (i : Nat) : zn i + 5 = zn (i + 5) := zn_add i 5
theorem zn_p10 (i : Nat) : zn i + 10 = zn (i + 10) := zn_add i 10
theorem zn_p11 (i : Nat) : zn i + 11 = zn (i + 11) := zn_add i 11
theorem zn_p22 (i : Nat) : zn i + 22 = zn (i + 22) := zn_add i 22
theorem zn_x3 (i : Nat) : zn i * 3 = zn (i * 3) := zn_mul i 3
theorem zn_x6 (i : Nat) : zn i * 6 = zn (i * 6) := zn_mul i 6
theorem zn_x32 (i : Nat) : zn i * 32 = zn (i * 32) := zn_mul i 32
/-- a local that may be unset -/
def zj (x : Option Int32) : Option Value := match x with
  | some x => some (.int x)
  | none => none
theorem zj_some (x : Int32) : zj (some x) = some (.int x) := rfl
theorem zj_none : zj none = none := rfl
theorem zj_s (x : Int32) : some (Value.int x) = zj (some x) := rfl
theorem q_set_1j (x : Option Int32) (y : Option Value) (L : zzLc) (v : Value) : zz_set1 (zj x :: y :: L) 1 v = zj x :: some v :: L := by cases x <;> rfl
/-! loops -/
theorem zl_go {α : Type} {E : Nat → α} : ∀ (n : Nat), (∀ i, i < n → E i = E (i + 1)) → E 0 = E n
  | 0, _ => rfl
  | n + 1, h => (zl_go n fun i hi => h i (Nat.lt_succ_of_lt hi)).trans (h n (Nat.lt_succ_self n))
theorem zl_goJ {α J : Type} {E : Nat → J → α} : ∀ (n : Nat), (∀ i, i < n → ∀ j, ∃ j', E i j = E (i + 1) j') → ∀ j, ∃ j', E 0 j = E n j'
  | 0, _, j => ⟨j, rfl⟩
  | n + 1, h, j => by
    obtain ⟨j1, h1⟩ := zl_goJ n (fun i hi => h i (Nat.lt_succ_of_lt hi)) j
    obtain ⟨j2, h2⟩ := h n (Nat.lt_succ_self n) j1
    exact ⟨j2, h1.trans h2⟩
/-- the first place of a property below n -/
def zfst : Nat → (Nat → Bool) → Option Nat
  | 0, _ => none
  | n + 1, P => match zfst n P with
    | some k => some k
    | none => bif P n then some n else none
theorem zfst_no {P : Nat → Bool} : ∀ {n : Nat}, zfst n P = none → ∀ i, i < n → P i = false
  | 0, _, i, hi => absurd hi (Nat.not_lt_zero i)
  | n + 1, h, i, hi => by
    unfold zfst at h
    cases h1 : zfst n P with
    | some q => rw [h1] at h; cases h
    | none =>
      rw [h1] at h
      cases h2 : P n with
      | true => rw [h2] at h; cases h
      | false =>
        rcases Nat.lt_or_eq_of_le (Nat.le_of_lt_succ hi) with h3 | h3
        · exact zfst_no h1 i h3
        · rw [h3]; exact h2
theorem zfst_some {P : Nat → Bool} : ∀ {n k : Nat}, zfst n P = some k → k < n ∧ P k = true ∧ ∀ i, i < k → P i = false
  | 0, _, h => by cases h
  | n + 1, k, h => by
    unfold zfst at h
    cases h1 : zfst n P with
    | some q =>
      rw [h1] at h
      cases h
      obtain ⟨a, b, c⟩ := zfst_some h1
      exact ⟨Nat.lt_succ_of_lt a, b, c⟩
    | none =>
      rw [h1] at h
      cases h2 : P n with
      | false => rw [h2] at h; cases h
      | true =>
        rw [h2] at h
        cases h
        exact ⟨Nat.lt_succ_self _, h2, fun i hi => zfst_no h1 i hi⟩
theorem zfst_is {P : Nat → Bool} {n k : Nat} (hk : k < n) (hP : P k = true) (hb : ∀ i, i < k → P i = false) : zfst n P = some k := by
  cases h : zfst n P with
  | none => exact absurd hP (by rw [zfst_no h k hk]; exact Bool.false_ne_true)
  | some q =>
    obtain ⟨a, b, c⟩ := zfst_some h
    rcases Nat.lt_trichotomy q k with h1 | h1 | h1
    · exact absurd b (by rw [hb q h1]; exact Bool.false_ne_true)
    · rw [h1]
    · exact absurd hP (by rw [c k h1]; exact Bool.false_ne_true)
theorem zfst_non {P : Nat → Bool} {n : Nat} (hb : ∀ i, i < n → P i = false) : zfst n P = none := by
  cases h : zfst n P with
  | none => rfl
  | some q =>
    obtain ⟨a, b, -⟩ := zfst_some h
    exact absurd b (by rw [hb q a]; exact Bool.false_ne_true)
theorem zfst_congr {P Q : Nat → Bool} : ∀ {n : Nat}, (∀ i, i < n → P i = Q i) → zfst n P = zfst n Q
  | 0, _ => rfl
  | n + 1, h => by
    unfold zfst
    rw [zfst_congr fun i hi => h i (Nat.lt_succ_of_lt hi), h n (Nat.lt_succ_self n)]
/-- a loop that ends early -/
theorem zl_fst {α : Type} {E : Nat → α} {P : Nat → Bool} {r : Nat → α} (n : Nat) (h : ∀ i, i < n → E i = bif P i then r i else E (i + 1)) : E 0 = match zfst n P with | some k => r k | none => E n := by
  cases hf : zfst n P with
  | some k =>
    obtain ⟨a, b, c⟩ := zfst_some hf
    have h1 : E 0 = E k := zl_go k fun i hi => by rw [h i (Nat.lt_trans hi a), c i hi]; rfl
    rw [h1, h k a, b]; rfl
  | none => exact zl_go n fun i hi => by rw [h i hi, zfst_no hf i hi]; rfl
theorem zl_fstJ {α J : Type} {E : Nat → J → α} {P : Nat → Bool} {r : Nat → α} (n : Nat) (h : ∀ i, i < n → ∀ j, ∃ j', E i j = bif P i then r i else E (i + 1) j') (j : J) : ∃ j', E 0 j = match zfst n P with | some k => r k | none => E n j' := by
  cases hf : zfst n P with
  | some k =>
    obtain ⟨a, b, c⟩ := zfst_some hf
    obtain ⟨j1, h1⟩ := zl_goJ (E := E) k (fun i hi j => by
      obtain ⟨j', h'⟩ := h i (Nat.lt_trans hi a) j
      rw [c i hi] at h'
      exact ⟨j', h'⟩) j
    obtain ⟨j2, h2⟩ := h k a j1
    rw [b] at h2
    exact ⟨j, h1.trans h2⟩
  | none => exact zl_goJ n (fun i hi j => by
      obtain ⟨j', h'⟩ := h i hi j
      rw [zfst_no hf i hi] at h'
      exact ⟨j', h'⟩) j
/-- how many below n -/
def zcnt : Nat → (Nat → Bool) → Nat
  | 0, _ => 0
  | n + 1, P => zcnt n P + (bif P n then 1 else 0)
theorem zcnt_s (n : Nat) (P : Nat → Bool) : zcnt (n + 1) P = zcnt n P + (bif P n then 1 else 0) := rfl
theorem zcnt_le (P : Nat → Bool) : ∀ (n : Nat), zcnt n P ≤ n
  | 0 => Nat.le_refl 0
  | n + 1 => by
    have := zcnt_le P n
    unfold zcnt
    cases P n
    · show zcnt n P + 0 ≤ n + 1; omega
    · show zcnt n P + 1 ≤ n + 1; omega
theorem zcnt_congr {P Q : Nat → Bool} : ∀ {n : Nat}, (∀ i, i < n → P i = Q i) → zcnt n P = zcnt n Q
  | 0, _ => rfl
  | n + 1, h => by
    unfold zcnt
    rw [zcnt_congr fun i hi => h i (Nat.lt_succ_of_lt hi), h n (Nat.lt_succ_self n)]
/-- a sum below n -/
def zsum : Nat → (Nat → Int32) → Int32
  | 0, _ => 0
  | n + 1, g => zsum n g + g n
theorem zsum_s (n : Nat) (g : Nat → Int32) : zsum (n + 1) g = zsum n g + g n := rfl
theorem zsum_congr {f g : Nat → Int32} : ∀ {n : Nat}, (∀ i, i < n → f i = g i) → zsum n f = zsum n g
  | 0, _ => rfl
  | n + 1, h => by
    unfold zsum
    rw [zsum_congr fun i hi => h i (Nat.lt_succ_of_lt hi), h n (Nat.lt_succ_self n)]
/-- something carried through the places below n -/
def zfold {α : Type} : Nat → (Nat → α → α) → α → α
  | 0, _, a => a
  | n + 1, g, a => g n (zfold n g a)
theorem zfold_s {α : Type} (n : Nat) (g : Nat → α → α) (a : α) : zfold (n + 1) g a = g n (zfold n g a) := rfl
theorem zfold_congr {α : Type} {f g : Nat → α → α} {a : α} : ∀ {n : Nat}, (∀ i, i < n → f i (zfold i g a) = g i (zfold i g a)) → zfold n f a = zfold n g a
  | 0, _ => rfl
  | n + 1, h => by
    unfold zfold
    rw [zfold_congr fun i hi => h i (Nat.lt_succ_of_lt hi)]
    exact h n (Nat.lt_succ_self n)
end

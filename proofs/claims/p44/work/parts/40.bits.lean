section
/-! numbers of bits: what the reference packs -/
def pL (k : Nat) : Nat := ([0, 3, 7, 9, 11, 12, 15, 22, 26, 28, 29, 32, 39, 40, 43, 44, 51] : List Nat).getD k 0
def wL (k : Nat) : Nat := ([3, 4, 2, 2, 1, 3, 7, 4, 2, 1, 3, 7, 1, 3, 1, 7, 2] : List Nat).getD k 0
def bit (x : Int64) (i : Nat) : Bool := x.toBitVec.getLsbD i
def b32 (x : Int32) (i : Nat) : Bool := x.toBitVec.getLsbD i
theorem bit_ext {x y : Int64} (h : ∀ i, i < 64 → bit x i = bit y i) : x = y := Int64.toBitVec_inj.mp (BitVec.eq_of_getLsbD_eq_iff.mpr h)
theorem b32_ext {x y : Int32} (h : ∀ i, i < 32 → b32 x i = b32 y i) : x = y := Int32.toBitVec_inj.mp (BitVec.eq_of_getLsbD_eq_iff.mpr h)
theorem bit_and (x y : Int64) (i : Nat) : bit (x &&& y) i = (bit x i && bit y i) := by
  unfold bit
  rw [Int64.toBitVec_and, BitVec.getLsbD_and]
theorem bit_or (x y : Int64) (i : Nat) : bit (x ||| y) i = (bit x i || bit y i) := by
  unfold bit
  rw [Int64.toBitVec_or, BitVec.getLsbD_or]
theorem bit_xor (x y : Int64) (i : Nat) : bit (x ^^^ y) i = (bit x i ^^ bit y i) := by
  unfold bit
  rw [Int64.toBitVec_xor, BitVec.getLsbD_xor]
theorem bit_big (x : Int64) {i : Nat} (h : 64 ≤ i) : bit x i = false := BitVec.getLsbD_of_ge _ _ h
theorem bit_m1 {i : Nat} (h : i < 64) : bit (-1) i = true := by
  have : ∀ i : Fin 64, bit (-1) i.1 = true := by decide
  exact this ⟨i, h⟩
theorem sh_smod : ∀ p : Fin 64, ((zn p.1).toInt64 &&& 63).toBitVec.smod 64 = BitVec.ofNat 64 p.1 := by decide
theorem bit_shl (x : Int64) {p : Nat} (hp : p < 64) (i : Nat) : bit (x <<< ((zn p).toInt64 &&& 63)) i = (decide (i < 64) && !decide (i < p) && bit x (i - p)) := by
  unfold bit
  rw [Int64.toBitVec_shiftLeft, sh_smod ⟨p, hp⟩, BitVec.getLsbD_shiftLeft', BitVec.toNat_ofNat, Nat.mod_eq_of_lt (by omega)]
theorem bit_shr (x : Int64) {p : Nat} {i : Nat} (hp : p + i < 64) : bit (x >>> ((zn p).toInt64 &&& 63)) i = bit x (p + i) := by
  unfold bit
  rw [Int64.toBitVec_shiftRight, sh_smod ⟨p, by omega⟩, BitVec.getLsbD_sshiftRight', BitVec.toNat_ofNat, Nat.mod_eq_of_lt (by omega), if_pos hp, decide_eq_false (by omega)]
  rfl
def msk (w : Nat) : Int64 := (1 <<< ((zn w).toInt64 &&& 63)) - 1
theorem msk_ofNat : ∀ w : Fin 31, msk w.1 = Int64.ofNat (2 ^ w.1 - 1) := by decide
theorem bit_ofNat (n i : Nat) : bit (Int64.ofNat n) i = (decide (i < 64) && n.testBit i) := BitVec.getLsbD_ofNat 64 n i
theorem bit_msk {w : Nat} (hw : w < 31) (i : Nat) : bit (msk w) i = decide (i < w) := by
  rw [msk_ofNat ⟨w, hw⟩, bit_ofNat, Nat.testBit_two_pow_sub_one]
  by_cases h : i < w
  · rw [decide_eq_true h, decide_eq_true (show i < 64 by omega)]; rfl
  · rw [decide_eq_false h, Bool.and_false]
theorem b32_cut (x : Int64) {i : Nat} (hi : i < 32) : b32 x.toInt32 i = bit x i := by
  unfold b32 bit
  rw [Int64.toBitVec_toInt32, BitVec.getLsbD_signExtend, decide_eq_true hi, if_pos (by omega)]
  rfl
theorem b32_zn (a : Nat) {i : Nat} (hi : i < 32) : b32 (zn a) i = a.testBit i := by
  unfold b32 zn
  show (BitVec.ofNat 32 a).getLsbD i = _
  rw [BitVec.getLsbD_ofNat, decide_eq_true hi]
  rfl
theorem toInt64_zn {a : Nat} (h : a < 2147483648) : (zn a).toInt64 = Int64.ofNat a := by
  refine Int64.toInt_inj.mp ?_
  rw [Int32.toInt_toInt64, zn_toInt h, Int64.toInt_ofNat_of_lt (by omega)]
theorem bit_zn {a : Nat} (h : a < 2147483648) (i : Nat) : bit (zn a).toInt64 i = (decide (i < 64) && a.testBit i) := by rw [toInt64_zn h, bit_ofNat]
theorem pw_lt : ∀ k : Fin 17, pL k.1 + wL k.1 ≤ 53 ∧ wL k.1 ≤ 7 ∧ 0 < wL k.1 := by decide
theorem pw_dis : ∀ k j : Fin 17, k ≠ j → pL k.1 + wL k.1 ≤ pL j.1 ∨ pL j.1 + wL j.1 ≤ pL k.1 := by decide
theorem pw_all : ∀ i : Fin 53, ∃ k : Fin 17, pL k.1 ≤ i.1 ∧ i.1 < pL k.1 + wL k.1 := by decide
/-- what stands at a place -/
def gt (x : Int64) (k : Nat) : Int32 := ((x >>> ((zn (pL k)).toInt64 &&& 63)) &&& msk (wL k)).toInt32
/-- another number at a place -/
def wt (x : Int64) (k : Nat) (v : Int32) : Int64 := (x &&& ((msk (wL k) <<< ((zn (pL k)).toInt64 &&& 63)) ^^^ -1)) ||| (v.toInt64 <<< ((zn (pL k)).toInt64 &&& 63))
theorem gt_bits (x : Int64) {k i : Nat} (hk : k < 17) (hi : i < 32) : b32 (gt x k) i = (decide (i < wL k) && bit x (pL k + i)) := by
  obtain ⟨h1, h2, -⟩ := pw_lt ⟨k, hk⟩
  have h1' : pL k + wL k ≤ 53 := h1
  have h2' : wL k ≤ 7 := h2
  unfold gt
  rw [b32_cut _ hi, bit_and, bit_msk (by omega)]
  by_cases h : i < wL k
  · rw [decide_eq_true h, bit_shr x (by omega), Bool.and_true, Bool.true_and]
  · rw [decide_eq_false h, Bool.and_false, Bool.false_and]
theorem gt_eq {x y : Int64} {k : Nat} (hk : k < 17) (h : ∀ i, i < wL k → bit x (pL k + i) = bit y (pL k + i)) : gt x k = gt y k := b32_ext fun i hi => by
  rw [gt_bits x hk hi, gt_bits y hk hi]
  by_cases h1 : i < wL k
  · rw [h i h1]
  · rw [decide_eq_false h1, Bool.false_and, Bool.false_and]
theorem gt_inj {x y : Int64} {k : Nat} (hk : k < 17) (h : gt x k = gt y k) : ∀ i, i < wL k → bit x (pL k + i) = bit y (pL k + i) := fun i hi => by
  obtain ⟨-, h2, -⟩ := pw_lt ⟨k, hk⟩
  have h2' : wL k ≤ 7 := h2
  have e := congrArg (fun z => b32 z i) h
  have e' : b32 (gt x k) i = b32 (gt y k) i := e
  rw [gt_bits x hk (by omega), gt_bits y hk (by omega), decide_eq_true hi, Bool.true_and, Bool.true_and] at e'
  exact e'
def clean (x : Int64) : Prop := ∀ i, 53 ≤ i → bit x i = false
theorem gt_ext {x y : Int64} (hx : clean x) (hy : clean y) (h : ∀ k, k < 17 → gt x k = gt y k) : x = y := bit_ext fun i hi => by
  by_cases h1 : i < 53
  · obtain ⟨k, a, b⟩ := pw_all ⟨i, h1⟩
    have a' : pL k.1 ≤ i := a
    have b' : i < pL k.1 + wL k.1 := b
    have e := gt_inj k.2 (h k.1 k.2) (i - pL k.1) (by omega)
    rw [Nat.add_sub_cancel' a'] at e
    exact e
  · rw [hx i (by omega), hy i (by omega)]
theorem wt_bits (x : Int64) {k a : Nat} (hk : k < 17) (ha : a < 2 ^ wL k) {i : Nat} (hi : i < 64) : bit (wt x k (zn a)) i = bif decide (pL k ≤ i) && decide (i < pL k + wL k) then a.testBit (i - pL k) else bit x i := by
  obtain ⟨h1, h2, -⟩ := pw_lt ⟨k, hk⟩
  have h1' : pL k + wL k ≤ 53 := h1
  have h2' : wL k ≤ 7 := h2
  have ha2 : a < 128 := Nat.lt_of_lt_of_le ha (Nat.pow_le_pow_right (n := 2) (by decide) h2')
  unfold wt
  rw [bit_or, bit_and, bit_xor, bit_shl _ (by omega), bit_shl _ (by omega), bit_msk (by omega), bit_m1 hi, bit_zn (by omega), decide_eq_true hi]
  by_cases c1 : pL k ≤ i
  · rw [decide_eq_true c1, decide_eq_false (show ¬ i < pL k by omega), decide_eq_true (show i - pL k < 64 by omega)]
    by_cases c2 : i < pL k + wL k
    · rw [decide_eq_true c2, decide_eq_true (show i - pL k < wL k by omega)]
      simp
    · rw [decide_eq_false c2, decide_eq_false (show ¬ i - pL k < wL k by omega)]
      have : a.testBit (i - pL k) = false := Nat.testBit_lt_two_pow (Nat.lt_of_lt_of_le ha (Nat.pow_le_pow_right (by decide) (by omega)))
      rw [this]
      simp
  · rw [decide_eq_false c1, decide_eq_true (show i < pL k by omega)]
    simp
theorem gt_wt (x : Int64) {k a : Nat} (hk : k < 17) (ha : a < 2 ^ wL k) : gt (wt x k (zn a)) k = zn a := b32_ext fun i hi => by
  obtain ⟨h1, h2, -⟩ := pw_lt ⟨k, hk⟩
  have h1' : pL k + wL k ≤ 53 := h1
  rw [gt_bits _ hk hi, b32_zn a hi]
  by_cases c : i < wL k
  · rw [wt_bits x hk ha (by omega), decide_eq_true c, decide_eq_true (show pL k ≤ pL k + i by omega), decide_eq_true (show pL k + i < pL k + wL k by omega), Nat.add_sub_cancel_left]
    rfl
  · have : a.testBit i = false := Nat.testBit_lt_two_pow (Nat.lt_of_lt_of_le ha (Nat.pow_le_pow_right (by decide) (by omega)))
    rw [decide_eq_false c, this]
    rfl
theorem gt_wt' (x : Int64) {k j a : Nat} (hk : k < 17) (hj : j < 17) (hkj : j ≠ k) (ha : a < 2 ^ wL k) : gt (wt x k (zn a)) j = gt x j := gt_eq hj fun i hi => by
  have h1 := (pw_lt ⟨j, hj⟩).1
  have h1' : pL j + wL j ≤ 53 := h1
  have h2 := pw_dis ⟨j, hj⟩ ⟨k, hk⟩ (fun e => hkj (Fin.mk.inj e))
  have h2' : pL j + wL j ≤ pL k ∨ pL k + wL k ≤ pL j := h2
  rw [wt_bits x hk ha (by omega)]
  rcases h2' with h | h
  · rw [decide_eq_false (show ¬ pL k ≤ pL j + i by omega)]; rfl
  · rw [decide_eq_false (show ¬ pL j + i < pL k + wL k by omega), Bool.and_false]; rfl
theorem clean_wt {x : Int64} {k a : Nat} (hk : k < 17) (ha : a < 2 ^ wL k) (h : clean x) : clean (wt x k (zn a)) := fun i hi => by
  by_cases c : i < 64
  · have h1 := (pw_lt ⟨k, hk⟩).1
    have h1' : pL k + wL k ≤ 53 := h1
    rw [wt_bits x hk ha c, decide_eq_false (show ¬ i < pL k + wL k by omega), Bool.and_false]
    exact h i hi
  · exact bit_big _ (by omega)
theorem clean_0 : clean 0 := fun i hi => by
  by_cases c : i < 64
  · rw [show (0 : Int64) = Int64.ofNat 0 from rfl, bit_ofNat, Nat.zero_testBit, Bool.and_false]
  · exact bit_big _ (by omega)
theorem gt_0 {k : Nat} (hk : k < 17) : gt 0 k = 0 := b32_ext fun i hi => by
  rw [gt_bits _ hk hi, show (0 : Int64) = Int64.ofNat 0 from rfl, bit_ofNat, Nat.zero_testBit, Bool.and_false, Bool.and_false, show (0 : Int32) = zn 0 from rfl, b32_zn 0 hi, Nat.zero_testBit]
/-- what stands at a place is small -/
theorem gt_rng (x : Int64) {k : Nat} (hk : k < 17) : gt x k = zn (zz_ix (gt x k)) ∧ zz_ix (gt x k) < 2 ^ wL k := by
  obtain ⟨-, h2, -⟩ := pw_lt ⟨k, hk⟩
  have h2' : wL k ≤ 7 := h2
  have h3 : (gt x k).toBitVec.toNat < 2 ^ wL k := by
    refine Nat.lt_pow_two_of_testBit _ fun i hi => ?_
    by_cases c : i < 32
    · have := gt_bits x hk c
      rw [decide_eq_false (by omega), Bool.false_and] at this
      exact this
    · exact BitVec.getLsbD_of_ge _ _ (by omega)
  have h4 : 2 ^ wL k ≤ 128 := Nat.le_trans (Nat.pow_le_pow_right (n := 2) (by decide) h2') (by decide : 2 ^ 7 ≤ 128)
  have h5 : gt x k = zn (gt x k).toBitVec.toNat := by
    refine Int32.toBitVec_inj.mp ?_
    show (gt x k).toBitVec = BitVec.ofNat 32 (gt x k).toBitVec.toNat
    rw [BitVec.ofNat_toNat, BitVec.setWidth_eq]
  rw [h5, zn_ix (by omega)]
  exact ⟨rfl, h3⟩
end

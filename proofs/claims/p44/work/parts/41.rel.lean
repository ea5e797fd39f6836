section
/-! the log: which version of an object is the last one, how many objects there are -/
def lastV (f : Nat → Nat) : Nat → Nat → Nat
  | 0, _ => 0
  | e + 1, o => if f (e + 1) = o then e + 1 else lastV f e o
def numO (f : Nat → Nat) : Nat → Nat
  | 0 => 0
  | e + 1 => Nat.max (numO f e) (f (e + 1) + 1)
section
variable {f g : Nat → Nat}
theorem lastV_s (f : Nat → Nat) (e o : Nat) : lastV f (e + 1) o = if f (e + 1) = o then e + 1 else lastV f e o := rfl
theorem numO_s (f : Nat → Nat) (e : Nat) : numO f (e + 1) = Nat.max (numO f e) (f (e + 1) + 1) := rfl
theorem lastV_le (o : Nat) : ∀ e, lastV f e o ≤ e
  | 0 => Nat.le_refl 0
  | e + 1 => by
    rw [lastV_s]
    by_cases h : f (e + 1) = o
    · rw [if_pos h]; exact Nat.le_refl _
    · rw [if_neg h]; exact Nat.le_succ_of_le (lastV_le o e)
theorem lastV_obj {o : Nat} : ∀ {e}, lastV f e o ≠ 0 → f (lastV f e o) = o
  | 0, h => absurd rfl h
  | e + 1, h => by
    rw [lastV_s] at h ⊢
    by_cases h1 : f (e + 1) = o
    · rw [if_pos h1]; exact h1
    · rw [if_neg h1] at h ⊢; exact lastV_obj h
theorem numO_mono : ∀ {e e'}, e ≤ e' → numO f e ≤ numO f e'
  | e, 0, h => by rw [Nat.le_zero.mp h]; exact Nat.le_refl _
  | e, e' + 1, h => by
    rcases Nat.lt_or_eq_of_le h with h1 | h1
    · exact Nat.le_trans (numO_mono (Nat.le_of_lt_succ h1)) (Nat.le_max_left _ _)
    · rw [h1]; exact Nat.le_refl _
theorem lastV_pos {o : Nat} : ∀ {e}, (∀ k, k < e → f (k + 1) ≤ numO f k) → (lastV f e o ≠ 0 ↔ o < numO f e)
  | 0, _ => ⟨fun h => absurd rfl h, fun h => absurd h (Nat.not_lt_zero o)⟩
  | e + 1, h => by
    have h1 := lastV_pos (o := o) (e := e) fun k hk => h k (Nat.lt_succ_of_lt hk)
    have h2 := h e (Nat.lt_succ_self e)
    have h5 : numO f e ≤ Nat.max (numO f e) (f (e + 1) + 1) := Nat.le_max_left _ _
    have h6 : f (e + 1) + 1 ≤ Nat.max (numO f e) (f (e + 1) + 1) := Nat.le_max_right _ _
    have h7 : Nat.max (numO f e) (f (e + 1) + 1) ≤ numO f e + 1 := Nat.max_le.mpr ⟨Nat.le_succ _, Nat.succ_le_succ h2⟩
    have h8 : f (e + 1) < numO f e → Nat.max (numO f e) (f (e + 1) + 1) = numO f e := fun q => Nat.max_eq_left q
    rw [lastV_s, numO_s]
    by_cases h3 : f (e + 1) = o
    · rw [if_pos h3]
      exact ⟨fun _ => by omega, fun _ => Nat.succ_ne_zero e⟩
    · rw [if_neg h3, h1]
      exact ⟨fun q => by omega, fun q => by
        rcases Nat.lt_or_eq_of_le h2 with a | a
        · rw [h8 a] at q; exact q
        · omega⟩
theorem lastV_c (o : Nat) : ∀ {e}, (∀ k, 1 ≤ k → k ≤ e → f k = g k) → lastV f e o = lastV g e o
  | 0, _ => rfl
  | e + 1, h => by
    rw [lastV_s, lastV_s, h (e + 1) (Nat.succ_le_succ (Nat.zero_le e)) (Nat.le_refl _), lastV_c o fun k h1 h2 => h k h1 (Nat.le_succ_of_le h2)]
theorem numO_c : ∀ {e}, (∀ k, 1 ≤ k → k ≤ e → f k = g k) → numO f e = numO g e
  | 0, _ => rfl
  | e + 1, h => by
    rw [numO_s, numO_s, h (e + 1) (Nat.succ_le_succ (Nat.zero_le e)) (Nat.le_refl _), numO_c fun k h1 h2 => h k h1 (Nat.le_succ_of_le h2)]
theorem lastV_mono {o : Nat} : ∀ {e e'}, e ≤ e' → lastV f e o ≤ lastV f e' o
  | e, 0, h => by rw [Nat.le_zero.mp h]; exact Nat.le_refl _
  | e, e' + 1, h => by
    rcases Nat.lt_or_eq_of_le h with h1 | h1
    · rw [lastV_s]
      by_cases h2 : f (e' + 1) = o
      · rw [if_pos h2]; exact Nat.le_trans (lastV_le o e) (by omega)
      · rw [if_neg h2]; exact lastV_mono (Nat.le_of_lt_succ h1)
    · rw [h1]; exact Nat.le_refl _
end
/-! rows, and the numbers that hold them -/
def lg (A : zzMd) (k : Nat) : Nat → Int32 := fun s => A.1 14 (k * 32 + s)
def sl (k : Nat) : Nat := ([0, 1, 2, 3, 4, 5, 6, 7, 8, 9, 10, 24, 26, 25, 27, 28, 29] : List Nat).getD k 0
def of1 (k : Nat) : Int32 := if k = 11 ∨ k = 15 then 1 else 0
def vl (D : Nat → Int32) (k : Nat) : Int32 := D (sl k) + of1 k
def encR (x : Int64) (D : Nat → Int32) : Prop := clean x ∧ ∀ k, k < 17 → gt x k = vl D k
def encB (y : Int64) (D : Nat → Int32) : Prop := (∀ i, i < 30 → bit y i = b32 (D 30) i ∧ bit y (30 + i) = b32 (D 31) i) ∧ (∀ i, 60 ≤ i → bit y i = false) ∧ ∀ i, 30 ≤ i → i < 32 → b32 (D 30) i = false ∧ b32 (D 31) i = false
def leastF (f : Nat) : Nat := ([0, 0, 0, 0, 0, 0, 0, 0, 0, 0, 1] : List Nat).getD f 0
def mostF (f : Nat) : Nat := ([5, 9, 2, 2, 1, 5, 99, 9, 2, 1, 5] : List Nat).getD f 0
def goodF (D : Nat → Int32) : Prop := ∀ f, f < 11 → ∃ a, D f = zn a ∧ leastF f ≤ a ∧ a ≤ mostF f
def goodS (D : Nat → Int32) : Prop := (∃ t, t < 6 ∧ D 23 = zn t) ∧ (D 24 = -1 ∨ ∃ w, D 24 = zn w ∧ w < zz_ix (D 22)) ∧ (∃ q, q ≤ 4 ∧ D 25 = zn q) ∧ (D 26 = 0 ∨ D 26 = 1) ∧ (D 27 = 0 ∨ D 27 = 1) ∧
  (D 28 = -1 ∨ ∃ p, p < 60 ∧ D 28 = zn p ∧ D 23 = 2) ∧ (∃ h, h ≤ 3 ∧ D 29 = zn h) ∧ (D 25 = 4 → D 24 = -1 ∧ D 28 = -1)
def goodD (D : Nat → Int32) : Prop := goodF D ∧ goodS D
/-! the relation, piece by piece -/
def okd (c : Nat) : Int32 := ([0, 1, 3, 2, 2, -1, 5, 0] : List Int32).getD c 0
def RK (R : zzMd) : Prop := (∀ k, k < 17 → R.1 1 k = zn (pL k) ∧ R.1 2 k = zn (wL k)) ∧ (∀ f, f < 11 → R.1 3 f = zn (leastF f) ∧ R.1 4 f = zn (mostF f)) ∧ ∀ t, t < 6 → R.1 5 t = ([127, 3, 2, 1027, 896, 2] : List Int32).getD t 0
/-- one version of the log -/
def RRow (A R : zzMd) (k : Nat) : Prop := obj A k ≤ numO (obj A) (k - 1) ∧ lg A k 22 = zn (obj A k) ∧ goodD (lg A k) ∧ lg A k 23 = R.1 6 (obj A k) ∧ R.1 14 k = zn (obj A k) ∧ encR (R.2 15 k) (lg A k) ∧ encB (R.2 16 k) (lg A k)
def RL (A R : zzMd) : Prop := (R.1 0 14 = zn (ve A 1) ∧ R.1 0 5 = zn (nv A 1)) ∧ (∀ k, 1 ≤ k → k ≤ ve A 1 → RRow A R k) ∧ (∀ s, s < 32 → lg A 0 s = if s = 25 then 4 else -1) ∧
  (nv A 1 = numO (obj A) (ve A 1) ∧ ∀ o, o < 60 → A.1 15 o = zn (lastV (obj A) (ve A 1) o)) ∧
  ∀ o, o < nv A 1 → R.2 7 o = R.2 15 (lastV (obj A) (ve A 1) o) ∧ R.2 8 o = R.2 16 (lastV (obj A) (ve A 1) o) ∧ R.1 9 o = zn (lastV (obj A) (ve A 1) o)
def RMan (A R : zzMd) : Prop := ∀ o, o < nv A 1 → ∀ f, f < 11 → R.1 10 (11 * o + f) = lg A (lastV (obj A) (ve A 1) o) (11 + f)
def RV (A R : zzMd) (c : Nat) : Prop := (ve A (3 + c) ≤ ve A 1 ∧ R.1 26 c = zn (ve A (3 + c)) ∧ nv A (3 + c) = numO (obj A) (ve A (3 + c))) ∧
  ∀ o, o < 60 → A.1 (21 + 6 * c) o = zn (lastV (obj A) (ve A (3 + c)) o) ∧ R.1 27 (60 * c + o) = zb (decide (o < nv A (3 + c))) ∧ R.1 30 (60 * c + o) = zn (lastV (obj A) (ve A (3 + c)) o) ∧
    (o < nv A (3 + c) → R.2 28 (60 * c + o) = R.2 15 (lastV (obj A) (ve A (3 + c)) o) ∧ R.2 29 (60 * c + o) = R.2 16 (lastV (obj A) (ve A (3 + c)) o))
def inQ (A : zzMd) (c o : Nat) : Prop := ∃ p, p < qn A c ∧ qk A c p = o
def now (A : zzMd) : Nat := zz_ix (A.1 1 7)
/-- an object's numbers at a controller -/
def RQo (A R : zzMd) (c o : Nat) : Prop := ((A.1 (23 + 6 * c) o = 1 ∧ inQ A c o) ∨ (A.1 (23 + 6 * c) o = 0 ∧ ¬ inQ A c o)) ∧
  ∃ f d w, (A.1 (24 + 6 * c) o = zn f ∧ R.1 33 (60 * c + o) = zn f) ∧ A.1 (25 + 6 * c) o = zn d ∧ (f ≤ d ∧ d ≤ now A + 16) ∧ (A.1 (26 + 6 * c) o = zn w ∧ R.1 35 (60 * c + o) = zn w ∧ w ≤ ve A 1) ∧
    (inQ A c o → R.1 34 (60 * c + o) = zn d ∨ d ≤ now A ∧ R.1 34 (60 * c + o) = 0) ∧ (¬ inQ A c o → d ≤ now A)
def RQ (A R : zzMd) (c : Nat) : Prop := R.1 31 c = zn (qn A c) ∧ (∀ p, p < qn A c → R.1 32 (60 * c + p) = zn (qk A c p) ∧ qk A c p < nv A 1) ∧ (∀ p q, p < qn A c → q < qn A c → qk A c p = qk A c q → p = q) ∧ ∀ o, o < 60 → RQo A R c o
def RS (A R : zzMd) : Prop := ∀ o, o < 60 → R.1 13 o = A.1 72 o ∧ (A.1 72 o = -1 ∨ ∃ t, t ≤ now A ∧ A.1 72 o = zn t)
def RA (A R : zzMd) : Prop := (R.1 0 19 = zn (nr A) ∧ R.1 0 26 = zn (nc A) ∧ R.1 0 30 = A.1 2 5 ∧ ∃ q, q ≤ 60 ∧ A.1 2 5 = zn q) ∧
  (∀ i, i < nr A → (R.1 17 i = rP A i 0 ∧ R.1 18 i = rP A i 1 ∧ R.1 19 i = rP A i 2 ∧ R.1 20 i = rP A i 3 ∧ R.1 21 i = rP A i 4 ∧ R.1 22 i = rP A i 5) ∧ ∃ a, rP A i 5 = zn a ∧ leastF (zz_ix (rP A i 4)) ≤ a ∧ a ≤ mostF (zz_ix (rP A i 4))) ∧
  ∀ i, i < nc A → R.1 23 i = cP A i 0 ∧ R.1 24 i = cP A i 1 ∧ R.1 25 i = cP A i 2
def RM (A R : zzMd) : Prop := (A.1 1 7 = zn (now A) ∧ now A ≤ 10000 ∧ R.1 0 48 = zn (now A)) ∧ (∃ k, k ≤ ve A 1 ∧ A.1 1 8 = zn k ∧ R.1 0 15 = zn k) ∧
  (∀ o, o < nv A 1 → ∃ t, t ≤ now A ∧ A.1 16 o = zn t ∧ R.1 11 o = zn t) ∧ (∀ r, r < 4 → ∃ k, k ≤ ve A 1 ∧ A.1 12 r = zn k ∧ R.1 38 r = zn k) ∧
  (∀ o, o < 60 → R.1 12 o = A.1 13 o ∧ (A.1 13 o = -1 ∨ ∃ t, t ≤ 9 ∧ A.1 13 o = zn t ∧ o < nv A 1 ∧ R.1 6 o = 0)) ∧ (R.1 0 47 = A.1 0 4 ∧ (A.1 0 4 = 0 ∨ A.1 0 4 = 1)) ∧ ∀ c, c < 8 → A.1 (3 + c) 5 = okd c
/-- both memories say the same, but for who manages which field -/
def Rl0 (A R : zzMd) : Prop := (RK R ∧ zIC A) ∧ RL A R ∧ (∀ c, c < 8 → RV A R c ∧ RQ A R c) ∧ RS A R ∧ RA A R ∧ RM A R
def Rel (A R : zzMd) : Prop := Rl0 A R ∧ RMan A R
/-! what a controller sees is the log's -/
section
variable {A R : zzMd}
theorem rl_log (H : RL A R) : ∀ e, e ≤ ve A 1 → ∀ k, k < e → obj A (k + 1) ≤ numO (obj A) k := fun e he k hk => (H.2.1 (k + 1) (Nat.succ_le_succ (Nat.zero_le k)) (by omega)).1
theorem rl_seen (H : RL A R) {e : Nat} (he : e ≤ ve A 1) (o : Nat) : lastV (obj A) e o ≠ 0 ↔ o < numO (obj A) e := lastV_pos (rl_log H e he)
theorem rl_row (H : RL A R) {e o : Nat} (he : e ≤ ve A 1) (ho : o < numO (obj A) e) : RRow A R (lastV (obj A) e o) ∧ obj A (lastV (obj A) e o) = o := by
  have h1 := (rl_seen H he o).mpr ho
  exact ⟨H.2.1 _ (by omega) (Nat.le_trans (lastV_le o e) he), lastV_obj h1⟩
theorem rl_0 (H : RL A R) {e o : Nat} (he : e ≤ ve A 1) (ho : ¬ o < numO (obj A) e) : lastV (obj A) e o = 0 := by
  have h1 := rl_seen H he o
  exact Decidable.byContradiction fun q => ho (h1.mp q)
theorem rd_lg {c o s : Nat} (hc : c < 8) (V : RV A R c) (ho : o < 60) (hs : s < 32) : rd A (3 + c) (zn o) (zn s) = lg A (lastV (obj A) (ve A (3 + c)) o) s := by
  unfold rd lg
  rw [if_neg (fun z => z.elim (zn_lt0 (by omega)).mp (fun z => z.elim (zo_60 ho).mp (fun z => z.elim (zn_lt0 (by omega)).mp (zn_i32 hs).2.2.1.mp))), zn_ix (k := o) (by omega), zn_ix (k := s) (by omega), zcL hc, (V.2 o ho).1]
  have h1 : lastV (obj A) (ve A (3 + c)) o ≤ ve A (3 + c) := lastV_le o _
  have h2 : ve A (3 + c) < 2147483648 := by
    unfold ve zz_ix
    have := (A.1 (3 + c) 3).toInt_lt
    rw [Int32.toNatClampNeg]
    omega
  rw [zn_ix (by omega)]
theorem row_lg (H : RL A R) {o : Nat} (ho : o < 60) : row A o = lg A (lastV (obj A) (ve A 1) o) := by
  funext s
  unfold row lg lv
  have h1 : lastV (obj A) (ve A 1) o ≤ ve A 1 := lastV_le o _
  have h2 : ve A 1 < 2147483648 := by
    unfold ve zz_ix
    have := (A.1 1 3).toInt_lt
    rw [Int32.toNatClampNeg]
    omega
  rw [H.2.2.2.1.2 o ho, zn_ix (by omega)]
end
end

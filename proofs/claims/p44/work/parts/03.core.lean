section
/-! MY OWN MACHINE: a method's body as a list of steps over typed cells, and its meaning `ev`; part 04 ties it to the machine of the model. -/
abbrev zzSh : Type := Nat × Nat × Nat × List Nat
abbrev zzMd : Type := (Nat → Nat → Int32) × (Nat → Nat → Int64)
abbrev zzLc : Type := List (Option Value)
abbrev zzOu : Type := Option Value ⊕ Nat
abbrev zzRt : Type := zzOu × zzMd
abbrev zzKt : Type := Nat → zzLc → List Value → zzMd → Option zzRt
abbrev zzOp : Type := zzKt → zzLc → List Value → zzMd → Option zzRt
abbrev zzFn : Type := List Value → zzMd → Option zzRt
def zz_sI (M : zzMd) (i k : Nat) (x : Int32) : zzMd := (fun a b => if a = i ∧ b = k then x else M.1 a b, M.2)
def zz_sL (M : zzMd) (i k : Nat) (x : Int64) : zzMd := (M.1, fun a b => if a = i ∧ b = k then x else M.2 a b)
def zz_cpI (M : zzMd) (i si j sj n : Nat) : zzMd := (fun a b => if a = j ∧ sj ≤ b ∧ b < sj + n then M.1 i (si + (b - sj)) else M.1 a b, M.2)
def zz_lcl (L : zzLc) : Nat → zzLc
  | 0 => L
  | k + 1 => match L[k]? with
    | some (some v) => if v.category = 2 then L.set k none else L
    | _ => L
def zz_set1 (L : zzLc) (i : Nat) (v : Value) : zzLc := (zz_lcl L i).set i (some v)
def zz_set2 (L : zzLc) (i : Nat) (v : Value) : zzLc := ((zz_lcl L i).set i (some v)).set (i + 1) none
def zz_inb (x : Int32) (n : Nat) : Bool := decide (0 ≤ x.toInt ∧ x.toInt < n)
def zz_ix (x : Int32) : Nat := x.toNatClampNeg
def zz_b01 (x : Int32) : Bool := decide (x = 0 ∨ x = 1)
def zz_cat8 (r : List Value) : Bool := decide ((r.map fun v => v.category).sum ≤ 8)
/-! the steps; `nx` is the next place -/
def zo_none : zzOp := fun _ _ _ _ => none
def zo_pushI (v : Int32) (nx : Nat) : zzOp := fun K L st M => K nx L (.int v :: st) M
def zo_pushL (v : Int64) (nx : Nat) : zzOp := fun K L st M => K nx L (.long v :: st) M
def zo_null (nx : Nat) : zzOp := fun K L st M => K nx L (.null :: st) M
def zo_iload (i nx : Nat) : zzOp := fun K L st M => match L[i]? with
  | some (some (.int x)) => K nx L (.int x :: st) M
  | _ => none
def zo_lload (i nx : Nat) : zzOp := fun K L st M => match L[i]? with
  | some (some (.long x)) => K nx L (.long x :: st) M
  | _ => none
def zo_aload (i nx : Nat) : zzOp := fun K L st M => match L[i]? with
  | some (some (.ref x)) => K nx L (.ref x :: st) M
  | some (some .null) => K nx L (.null :: st) M
  | _ => none
def zo_istore (i nx : Nat) : zzOp := fun K L st M => match st with
  | .int x :: r => K nx (zz_set1 L i (.int x)) r M
  | _ => none
def zo_lstore (i nx : Nat) : zzOp := fun K L st M => match st with
  | .long x :: r => K nx (zz_set2 L i (.long x)) r M
  | _ => none
def zo_astore (i nx : Nat) : zzOp := fun K L st M => match st with
  | .ref x :: r => K nx (zz_set1 L i (.ref x)) r M
  | .null :: r => K nx (zz_set1 L i .null) r M
  | _ => none
def zo_iinc (i : Nat) (d : Int32) (nx : Nat) : zzOp := fun K L st M => match L[i]? with
  | some (some (.int x)) => K nx (zz_set1 L i (.int (x + d))) st M
  | _ => none
def zo_ii (f : Int32 → Int32 → Int32) (nx : Nat) : zzOp := fun K L st M => match st with
  | .int y :: .int x :: r => K nx L (.int (f x y) :: r) M
  | _ => none
/-- int divide and remainder: the divisor is not 0 -/
def zo_iid (f : Int32 → Int32 → Int32) (nx : Nat) : zzOp := fun K L st M => match st with
  | .int y :: .int x :: r => if y = 0 then none else K nx L (.int (f x y) :: r) M
  | _ => none
def zo_ll (f : Int64 → Int64 → Int64) (nx : Nat) : zzOp := fun K L st M => match st with
  | .long y :: .long x :: r => K nx L (.long (f x y) :: r) M
  | _ => none
def zo_li (f : Int64 → Int32 → Int64) (nx : Nat) : zzOp := fun K L st M => match st with
  | .int y :: .long x :: r => K nx L (.long (f x y) :: r) M
  | _ => none
def zo_lcmp (nx : Nat) : zzOp := fun K L st M => match st with
  | .long y :: .long x :: r => K nx L (.int (lg_cmp x y) :: r) M
  | _ => none
def zo_i2l (nx : Nat) : zzOp := fun K L st M => match st with
  | .int x :: r => K nx L (.long x.toInt64 :: r) M
  | _ => none
def zo_l2i (nx : Nat) : zzOp := fun K L st M => match st with
  | .long x :: r => K nx L (.int x.toInt32 :: r) M
  | _ => none
def zo_dup (nx : Nat) : zzOp := fun K L st M => match st with
  | .int x :: r => K nx L (.int x :: .int x :: r) M
  | .ref x :: r => K nx L (.ref x :: .ref x :: r) M
  | _ => none
def zo_dup2 (nx : Nat) : zzOp := fun K L st M => match st with
  | .int x :: .ref y :: r => K nx L (.int x :: .ref y :: .int x :: .ref y :: r) M
  | _ => none
def zo_pop (nx : Nat) : zzOp := fun K L st M => match st with
  | .int _ :: r => K nx L r M
  | _ => none
def zo_goto (t : Nat) : zzOp := fun K L st M => K t L st M
def zo_if (c : Int32 → Bool) (t nx : Nat) : zzOp := fun K L st M => match st with
  | .int x :: r => bif c x then K t L r M else K nx L r M
  | _ => none
def zo_icmp (c : Int32 → Int32 → Bool) (t nx : Nat) : zzOp := fun K L st M => match st with
  | .int y :: .int x :: r => bif c x y then K t L r M else K nx L r M
  | _ => none
def zo_ifnull (t nx : Nat) : zzOp := fun K L st M => match st with
  | .null :: r => K t L r M
  | .ref _ :: r => K nx L r M
  | _ => none
/-- a field: which place it has, by the number of the receiver's class -/
def zo_getf (S : List zzSh) (kf : Nat → Option Nat) (nx : Nat) : zzOp := fun K L st M => match st with
  | .ref i :: r => match S[i]? with
    | some (0, ci, _, ks) => match kf ci with
      | some k => match ks[k]? with
        | some 0 => K nx L (.int (M.1 i k) :: r) M
        | some 1 => K nx L (.long (M.2 i k) :: r) M
        | some (j + 2) => K nx L (.ref j :: r) M
        | none => none
      | none => none
    | _ => none
  | _ => none
def zo_putf (S : List zzSh) (kf : Nat → Option Nat) (bl : Bool) (nx : Nat) : zzOp := fun K L st M => match st with
  | .int x :: .ref i :: r => match S[i]? with
    | some (0, ci, _, ks) => match kf ci with
      | some k => match ks[k]? with
        | some 0 => bif (!bl) || zz_b01 x then K nx L r (zz_sI M i k x) else none
        | _ => none
      | none => none
    | _ => none
  | _ => none
/-- arrays: kind 1 of ints (type number ty), 2 of longs, 3 of references; static tables begin at 1000 -/
def zo_iald (S : List zzSh) (ST : List (List Int32)) (nx : Nat) : zzOp := fun K L st M => match st with
  | .int x :: .ref i :: r => match S[i]? with
    | some (1, 0, n, _) => bif zz_inb x n then K nx L (.int (M.1 i (zz_ix x)) :: r) M else none
    | none => match ST[i - 1000]? with
      | some t => bif decide (1000 ≤ i) && zz_inb x t.length then K nx L (.int (t.getD (zz_ix x) 0) :: r) M else none
      | none => none
    | _ => none
  | _ => none
def zo_zald (S : List zzSh) (nx : Nat) : zzOp := fun K L st M => match st with
  | .int x :: .ref i :: r => match S[i]? with
    | some (1, 1, n, _) => bif zz_inb x n then K nx L (.int (M.1 i (zz_ix x)) :: r) M else none
    | _ => none
  | _ => none
def zo_lald (S : List zzSh) (nx : Nat) : zzOp := fun K L st M => match st with
  | .int x :: .ref i :: r => match S[i]? with
    | some (2, 2, n, _) => bif zz_inb x n then K nx L (.long (M.2 i (zz_ix x)) :: r) M else none
    | _ => none
  | _ => none
def zo_aald (S : List zzSh) (nx : Nat) : zzOp := fun K L st M => match st with
  | .int x :: .ref i :: r => match S[i]? with
    | some (3, 3, n, rs) => match (bif zz_inb x n then rs[zz_ix x]? else none) with
      | some j => K nx L (.ref j :: r) M
      | none => none
    | _ => none
  | _ => none
def zo_iast (S : List zzSh) (nx : Nat) : zzOp := fun K L st M => match st with
  | .int v :: .int x :: .ref i :: r => match S[i]? with
    | some (1, 0, n, _) => bif zz_inb x n then K nx L r (zz_sI M i (zz_ix x) v) else none
    | _ => none
  | _ => none
def zo_zast (S : List zzSh) (nx : Nat) : zzOp := fun K L st M => match st with
  | .int v :: .int x :: .ref i :: r => match S[i]? with
    | some (1, 1, n, _) => bif zz_inb x n && zz_b01 v then K nx L r (zz_sI M i (zz_ix x) v) else none
    | _ => none
  | _ => none
def zo_last (S : List zzSh) (nx : Nat) : zzOp := fun K L st M => match st with
  | .long v :: .int x :: .ref i :: r => match S[i]? with
    | some (2, 2, n, _) => bif zz_inb x n then K nx L r (zz_sL M i (zz_ix x) v) else none
    | _ => none
  | _ => none
def zo_gets (i nx : Nat) : zzOp := fun K L st M => K nx L (.ref i :: st) M
def zo_copy (S : List zzSh) (nx : Nat) : zzOp := fun K L st M => match st with
  | .int n :: .int dj :: .ref j :: .int di :: .ref i :: r => match S[i]?, S[j]? with
    | some (1, 0, ni, _), some (1, 0, nj, _) =>
      bif decide (0 ≤ di.toInt ∧ 0 ≤ dj.toInt ∧ 0 ≤ n.toInt ∧ zz_ix di + zz_ix n ≤ ni ∧ zz_ix dj + zz_ix n ≤ nj) && zz_cat8 r then K nx L r (zz_cpI M i (zz_ix di) j (zz_ix dj) (zz_ix n)) else none
    | _, _ => none
  | _ => none
def zo_iret (bl : Bool) : zzOp := fun _ _ st M => match st with
  | [.int x] => bif (!bl) || zz_b01 x then some (.inl (some (.int x)), M) else none
  | _ => none
def zo_lret : zzOp := fun _ _ st M => match st with
  | [.long x] => some (.inl (some (.long x)), M)
  | _ => none
def zo_aret : zzOp := fun _ _ st M => match st with
  | [.ref x] => some (.inl (some (.ref x)), M)
  | [.null] => some (.inl (some .null), M)
  | _ => none
def zo_ret : zzOp := fun _ _ st M => match st with
  | [] => some (.inl none, M)
  | _ => none
def zo_throw (e : Nat) : zzOp := fun _ _ st M => match st with
  | [] => some (.inr e, M)
  | _ => none
/-- behind a call -/
def zz_back (K : zzKt) (nx : Nat) (L : zzLc) (r : List Value) : Option zzRt → Option zzRt
  | some (.inl none, M) => K nx L r M
  | some (.inl (some v), M) => K nx L (v :: r) M
  | some (.inr e, M) => some (.inr e, M)
  | none => none
/-- .. of what does not throw -/
def zz_backN (K : zzKt) (nx : Nat) (L : zzLc) (r : List Value) : Option zzRt → Option zzRt
  | some (.inl none, M) => K nx L r M
  | some (.inl (some v), M) => K nx L (v :: r) M
  | some (.inr _, _) => none
  | none => none
/-- a call of a static method, with n arguments -/
def zo_calls (f : zzFn) (n nx : Nat) : zzOp := fun K L st M => bif decide (n ≤ st.length) && zz_cat8 (st.drop n) then zz_backN K nx L (st.drop n) (f (st.take n).reverse M) else none
/-- a call with a receiver: what is called, by the number of its class -/
def zo_callv (S : List zzSh) (f : Nat → Option zzFn) (n nx : Nat) : zzOp := fun K L st M => match st.drop n with
  | .ref i :: r => match S[i]? with
    | some (0, ci, _, _) => match f ci with
      | some g => bif zz_cat8 r then zz_backN K nx L r (g (.ref i :: (st.take n).reverse) M) else none
      | none => none
    | _ => none
  | _ => none
/-- .. of what may throw -/
def zo_callx (S : List zzSh) (f : Nat → Option zzFn) (n nx : Nat) : zzOp := fun K L st M => match st.drop n with
  | .ref i :: r => match S[i]? with
    | some (0, ci, _, _) => match f ci with
      | some g => bif zz_cat8 r then zz_back K nx L r (g (.ref i :: (st.take n).reverse) M) else none
      | none => none
    | _ => none
  | _ => none
/-- Math.max, Math.min -/
def zo_mm (f : Int32 → Int32 → Int32) (nx : Nat) : zzOp := fun K L st M => match st with
  | .int y :: .int x :: r => bif zz_cat8 r then K nx L (.int (f x y) :: r) M else none
  | _ => none
/-- a run of n steps at most -/
def zz_run (T : List zzOp) : Nat → zzKt
  | 0 => fun _ _ _ _ => none
  | n + 1 => fun pc L st M => (T.getD pc zo_none) (zz_run T n) L st M
/-- a step either ends, or goes on at one place -/
def zz_Tl (o : zzOp) : Prop := ∀ L st M, (∃ r, ∀ K, o K L st M = r) ∨ ∃ pc L' st' M', ∀ K, o K L st M = K pc L' st' M'
def zz_has (T : List zzOp) (pc : Nat) (L : zzLc) (st : List Value) (M : zzMd) : Prop := ∃ n r, zz_run T n pc L st M = some r
noncomputable def zz_ev (T : List zzOp) : zzKt := fun pc L st M => @dite _ (zz_has T pc L st M) (Classical.propDecidable _) (fun h => some (Classical.choose (Classical.choose_spec h))) (fun _ => none)
theorem zz_run_mono {T : List zzOp} (hT : ∀ pc, zz_Tl (T.getD pc zo_none)) : ∀ (n : Nat) {pc : Nat} {L : zzLc} {st : List Value} {M : zzMd} {r : zzRt}, zz_run T n pc L st M = some r → zz_run T (n + 1) pc L st M = some r
  | 0, pc, L, st, M, r, h => by cases h
  | n + 1, pc, L, st, M, r, h => by
    have h1 : (T.getD pc zo_none) (zz_run T n) L st M = some r := h
    show (T.getD pc zo_none) (zz_run T (n + 1)) L st M = some r
    rcases hT pc L st M with ⟨q, hq⟩ | ⟨pc', L', st', M', hq⟩
    · rw [hq] at h1 ⊢
      exact h1
    · rw [hq] at h1 ⊢
      exact zz_run_mono hT n h1
theorem zz_run_le {T : List zzOp} (hT : ∀ pc, zz_Tl (T.getD pc zo_none)) {n m : Nat} (hm : n ≤ m) {pc : Nat} {L : zzLc} {st : List Value} {M : zzMd} {r : zzRt} (h : zz_run T n pc L st M = some r) : zz_run T m pc L st M = some r := by
  induction hm with
  | refl => exact h
  | step _ ih => exact zz_run_mono hT _ ih
theorem zz_run_det {T : List zzOp} (hT : ∀ pc, zz_Tl (T.getD pc zo_none)) {n m : Nat} {pc : Nat} {L : zzLc} {st : List Value} {M : zzMd} {r q : zzRt} (h : zz_run T n pc L st M = some r) (h' : zz_run T m pc L st M = some q) : r = q := by
  rcases Nat.le_total n m with a | a
  · exact Option.some.inj ((zz_run_le hT a h).symm.trans h')
  · exact Option.some.inj (h.symm.trans (zz_run_le hT a h'))
theorem zz_ev_run {T : List zzOp} {pc : Nat} {L : zzLc} {st : List Value} {M : zzMd} {r : zzRt} (h : zz_ev T pc L st M = some r) : ∃ n, zz_run T n pc L st M = some r := by
  unfold zz_ev at h
  split at h
  · rename_i hh
    cases h
    exact ⟨_, Classical.choose_spec (Classical.choose_spec hh)⟩
  · cases h
theorem zz_run_ev {T : List zzOp} (hT : ∀ pc, zz_Tl (T.getD pc zo_none)) {n pc : Nat} {L : zzLc} {st : List Value} {M : zzMd} {r : zzRt} (h : zz_run T n pc L st M = some r) : zz_ev T pc L st M = some r := by
  unfold zz_ev
  have hh : zz_has T pc L st M := ⟨n, r, h⟩
  rw [dif_pos hh]
  exact congrArg some (zz_run_det hT (Classical.choose_spec (Classical.choose_spec hh)) h)
/-- one step -/
theorem zz_ev_eq {T : List zzOp} (hT : ∀ pc, zz_Tl (T.getD pc zo_none)) (pc : Nat) (L : zzLc) (st : List Value) (M : zzMd) : zz_ev T pc L st M = (T.getD pc zo_none) (zz_ev T) L st M := by
  have key : ∀ r, zz_ev T pc L st M = some r ↔ (T.getD pc zo_none) (zz_ev T) L st M = some r := by
    intro r
    rcases hT pc L st M with ⟨q, hq⟩ | ⟨pc', L', st', M', hq⟩
    · constructor
      · intro h
        obtain ⟨n, hn⟩ := zz_ev_run h
        cases n with
        | zero => cases hn
        | succ n =>
          have h1 : (T.getD pc zo_none) (zz_run T n) L st M = some r := hn
          rw [hq] at h1 ⊢
          exact h1
      · intro h
        rw [hq] at h
        exact zz_run_ev hT (n := 1) (by show (T.getD pc zo_none) (zz_run T 0) L st M = some r; rw [hq]; exact h)
    · constructor
      · intro h
        obtain ⟨n, hn⟩ := zz_ev_run h
        cases n with
        | zero => cases hn
        | succ n =>
          have h1 : (T.getD pc zo_none) (zz_run T n) L st M = some r := hn
          rw [hq] at h1 ⊢
          exact zz_run_ev hT h1
      · intro h
        rw [hq] at h
        obtain ⟨n, hn⟩ := zz_ev_run h
        exact zz_run_ev hT (n := n + 1) (by show (T.getD pc zo_none) (zz_run T n) L st M = some r; rw [hq]; exact hn)
  cases h1 : zz_ev T pc L st M with
  | some r => exact ((key r).mp h1).symm
  | none =>
    cases h2 : (T.getD pc zo_none) (zz_ev T) L st M with
    | none => rfl
    | some r => exact ((key r).mpr h2) ▸ h1.symm ▸ rfl
/-- some steps, up to places where it stops -/
def zz_upto (T : List zzOp) (stop : Nat → Bool) : Nat → zzKt → zzKt
  | 0, K => K
  | n + 1, K => fun pc L st M => bif stop pc then K pc L st M else (T.getD pc zo_none) (zz_upto T stop n K) L st M
theorem zz_upto_ev {T : List zzOp} (hT : ∀ pc, zz_Tl (T.getD pc zo_none)) (stop : Nat → Bool) : ∀ (n : Nat), zz_upto T stop n (zz_ev T) = zz_ev T
  | 0 => rfl
  | n + 1 => by
    funext pc L st M
    show (bif stop pc then zz_ev T pc L st M else (T.getD pc zo_none) (zz_upto T stop n (zz_ev T)) L st M) = zz_ev T pc L st M
    cases stop pc with
    | true => rfl
    | false =>
      show (T.getD pc zo_none) (zz_upto T stop n (zz_ev T)) L st M = zz_ev T pc L st M
      rw [zz_upto_ev hT stop n]
      exact (zz_ev_eq hT pc L st M).symm
/-- a block from pc on: its first step is taken, it stops at the next place of `stop` -/
theorem zz_blk {T : List zzOp} (hT : ∀ pc, zz_Tl (T.getD pc zo_none)) (stop : Nat → Bool) (n pc : Nat) (L : zzLc) (st : List Value) (M : zzMd) : zz_ev T pc L st M = (T.getD pc zo_none) (zz_upto T stop n (zz_ev T)) L st M := by
  rw [zz_upto_ev hT stop n]
  exact zz_ev_eq hT pc L st M
theorem zz_Tl_mem {T : List zzOp} (h : ∀ o ∈ T, zz_Tl o) : ∀ pc, zz_Tl (T.getD pc zo_none) := by
  intro pc
  rw [List.getD_eq_getElem?_getD]
  cases hp : T[pc]? with
  | none => exact fun L st M => Or.inl ⟨none, fun K => rfl⟩
  | some o => exact h o (List.mem_of_getElem? hp)
end

section
/-! THE LAW'S MACHINE: memories are the class's (up to its dead arrays) and the number of cells made so far. -/
abbrev lzMd : Type := zzMd × Nat
abbrev lzRt : Type := Option Value × lzMd
abbrev lzKt : Type := Nat → zzLc → List Value → lzMd → Option lzRt
abbrev lzOp : Type := lzKt → zzLc → List Value → lzMd → Option lzRt
abbrev lzFn : Type := List Value → zzMd → Option (Option Value × zzMd)
def lo_none : lzOp := fun _ _ _ _ => none
def lo_pushI (v : Int32) (nx : Nat) : lzOp := fun K L st M => K nx L (.int v :: st) M
def lo_pushL (v : Int64) (nx : Nat) : lzOp := fun K L st M => K nx L (.long v :: st) M
def lo_iload (i nx : Nat) : lzOp := fun K L st M => match L[i]? with
  | some (some (.int x)) => K nx L (.int x :: st) M
  | _ => none
def lo_lload (i nx : Nat) : lzOp := fun K L st M => match L[i]? with
  | some (some (.long x)) => K nx L (.long x :: st) M
  | _ => none
def lo_aload (i nx : Nat) : lzOp := fun K L st M => match L[i]? with
  | some (some (.ref x)) => K nx L (.ref x :: st) M
  | some (some .null) => K nx L (.null :: st) M
  | _ => none
def lo_istore (i nx : Nat) : lzOp := fun K L st M => match st with
  | .int x :: r => K nx (zz_set1 L i (.int x)) r M
  | _ => none
def lo_lstore (i nx : Nat) : lzOp := fun K L st M => match st with
  | .long x :: r => K nx (zz_set2 L i (.long x)) r M
  | _ => none
def lo_iinc (i : Nat) (d : Int32) (nx : Nat) : lzOp := fun K L st M => match L[i]? with
  | some (some (.int x)) => K nx (zz_set1 L i (.int (x + d))) st M
  | _ => none
def lo_ii (f : Int32 → Int32 → Int32) (nx : Nat) : lzOp := fun K L st M => match st with
  | .int y :: .int x :: r => K nx L (.int (f x y) :: r) M
  | _ => none
def lo_iid (f : Int32 → Int32 → Int32) (nx : Nat) : lzOp := fun K L st M => match st with
  | .int y :: .int x :: r => if y = 0 then none else K nx L (.int (f x y) :: r) M
  | _ => none
def lo_ll (f : Int64 → Int64 → Int64) (nx : Nat) : lzOp := fun K L st M => match st with
  | .long y :: .long x :: r => K nx L (.long (f x y) :: r) M
  | _ => none
def lo_li (f : Int64 → Int32 → Int64) (nx : Nat) : lzOp := fun K L st M => match st with
  | .int y :: .long x :: r => K nx L (.long (f x y) :: r) M
  | _ => none
def lo_lcmp (nx : Nat) : lzOp := fun K L st M => match st with
  | .long y :: .long x :: r => K nx L (.int (lg_cmp x y) :: r) M
  | _ => none
def lo_i2l (nx : Nat) : lzOp := fun K L st M => match st with
  | .int x :: r => K nx L (.long x.toInt64 :: r) M
  | _ => none
def lo_dup2 (nx : Nat) : lzOp := fun K L st M => match st with
  | .int x :: .ref y :: r => K nx L (.int x :: .ref y :: .int x :: .ref y :: r) M
  | _ => none
def lo_goto (t : Nat) : lzOp := fun K L st M => K t L st M
def lo_if (c : Int32 → Bool) (t nx : Nat) : lzOp := fun K L st M => match st with
  | .int x :: r => bif c x then K t L r M else K nx L r M
  | _ => none
def lo_icmp (c : Int32 → Int32 → Bool) (t nx : Nat) : lzOp := fun K L st M => match st with
  | .int y :: .int x :: r => bif c x y then K t L r M else K nx L r M
  | _ => none
/-- what all memories that are A up to nz answer -/
noncomputable def lz_g (f : zzFn) : zzFn := fun As A => @dite _ (∃ r A', nz A = A ∧ ∀ M, nz M = A → ∃ M', f As M = some (r, M') ∧ nz M' = A') (Classical.propDecidable _) (fun h => some (Classical.choose h, Classical.choose (Classical.choose_spec h))) (fun _ => none)
theorem lz_g_spec {f : zzFn} {As : List Value} {A A' : zzMd} {r : zzOu} (h : lz_g f As A = some (r, A')) : ∀ M, nz M = A → ∃ M', f As M = some (r, M') ∧ nz M' = A' := by
  unfold lz_g at h
  split at h
  · rename_i hh
    cases h
    exact (Classical.choose_spec (Classical.choose_spec hh)).2
  · cases h
theorem lz_g_of {f : zzFn} {As : List Value} {A A' : zzMd} {r : zzOu} (hA : nz A = A) (h : ∀ M, nz M = A → ∃ M', f As M = some (r, M') ∧ nz M' = A') : lz_g f As A = some (r, A') := by
  unfold lz_g
  have hh : ∃ r A', nz A = A ∧ ∀ M, nz M = A → ∃ M', f As M = some (r, M') ∧ nz M' = A' := ⟨r, A', hA, h⟩
  rw [dif_pos hh]
  obtain ⟨M1, e1, e2⟩ := (Classical.choose_spec (Classical.choose_spec hh)).2 A hA
  obtain ⟨M2, d1, d2⟩ := h A hA
  have e := e1.symm.trans d1
  injection e with e
  injection e with ea eb
  exact congrArg some (Prod.ext ea (e2.symm.trans ((congrArg nz eb).trans d2)))
/-- arrays of the law, and tables -/
def lo_iald (S : List zzSh) (ST : List (List Int32)) (nx : Nat) : lzOp := fun K L st M => match st with
  | .int x :: .ref i :: r => match S[i]? with
    | some (1, 0, n, _) => bif zz_inb x n && !dead i then K nx L (.int (M.1.1 i (zz_ix x)) :: r) M else none
    | none => match ST[i - 1000]? with
      | some t => bif decide (1000 ≤ i) && zz_inb x t.length then K nx L (.int (t.getD (zz_ix x) 0) :: r) M else none
      | none => none
    | _ => none
  | _ => none
def lo_iast (S : List zzSh) (nx : Nat) : lzOp := fun K L st M => match st with
  | .int v :: .int x :: .ref i :: r => match S[i]? with
    | some (1, 0, n, _) => bif zz_inb x n && !dead i then K nx L r (zz_sI M.1 i (zz_ix x) v, M.2) else none
    | _ => none
  | _ => none
def lo_alen (ST : List (List Int32)) (nx : Nat) : lzOp := fun K L st M => match st with
  | .ref i :: r => match ST[i - 1000]? with
    | some t => bif decide (1000 ≤ i) then K nx L (.int (zn t.length) :: r) M else none
    | none => none
  | _ => none
def lo_iret (mx : Nat) (bl : Bool) : lzOp := fun _ _ st M => match st with
  | [.int x] => bif ((!bl) || zz_b01 x) && decide (M.2 ≤ mx) then some (some (.int x), M) else none
  | _ => none
def lo_lret (mx : Nat) : lzOp := fun _ _ st M => match st with
  | [.long x] => bif decide (M.2 ≤ mx) then some (some (.long x), M) else none
  | _ => none
/-- a static method of the law's: at most k cells are made -/
def lz_bs (K : lzKt) (nx : Nat) (L : zzLc) (r : List Value) (k : Nat) : Option (Option Value × zzMd) → Option lzRt
  | some (some v, A) => K nx L (v :: r) (A, k)
  | _ => none
def lo_calls (f : lzFn) (n k mx nx : Nat) : lzOp := fun K L st M => bif decide (n ≤ st.length) && (zz_cat8 (st.drop n) && decide (M.2 + k ≤ mx)) then lz_bs K nx L (st.drop n) (M.2 + k) (f (st.take n).reverse M.1) else none
/-- a method of the class: it returns -/
def lz_bv (K : lzKt) (nx : Nat) (L : zzLc) (r : List Value) (k : Nat) : Option zzRt → Option lzRt
  | some (.inl (some v), A) => K nx L (v :: r) (A, k)
  | _ => none
noncomputable def lo_callv (f : zzFn) (n mx nx : Nat) : lzOp := fun K L st M => match st.drop n with
  | .ref 0 :: r => bif zz_cat8 r && decide (M.2 ≤ mx) then lz_bv K nx L r M.2 (lz_g f (.ref 0 :: (st.take n).reverse) M.1) else none
  | _ => none
/-- .. or throws, and is caught: the number that is answered then -/
def lz_bh (K : lzKt) (nx : Nat) (L : zzLc) (r : List Value) (k mx : Nat) (hc : Nat → Option Int32) : Option zzRt → Option lzRt
  | some (.inl (some v), A) => K nx L (v :: r) (A, k)
  | some (.inr e, A) => match hc e with
    | some x => bif decide (k + 1 ≤ mx) then some (some (.int x), (A, k + 1)) else none
    | none => none
  | _ => none
noncomputable def lo_callh (f : zzFn) (hc : Nat → Option Int32) (n mx nx : Nat) : lzOp := fun K L st M => match st.drop n with
  | .ref 0 :: r => bif zz_cat8 r && decide (M.2 ≤ mx) then lz_bh K nx L r M.2 mx hc (lz_g f (.ref 0 :: (st.take n).reverse) M.1) else none
  | _ => none
/-- a run of n steps at most -/
def lz_run (T : List lzOp) : Nat → lzKt
  | 0 => fun _ _ _ _ => none
  | n + 1 => fun pc L st M => (T.getD pc lo_none) (lz_run T n) L st M
/-- a step either ends, or goes on at one place -/
def lz_Tl (o : lzOp) : Prop := ∀ L st M, (∃ r, ∀ K, o K L st M = r) ∨ ∃ pc L' st' M', ∀ K, o K L st M = K pc L' st' M'
def lz_has (T : List lzOp) (pc : Nat) (L : zzLc) (st : List Value) (M : lzMd) : Prop := ∃ n r, lz_run T n pc L st M = some r
noncomputable def lz_ev (T : List lzOp) : lzKt := fun pc L st M => @dite _ (lz_has T pc L st M) (Classical.propDecidable _) (fun h => some (Classical.choose (Classical.choose_spec h))) (fun _ => none)
theorem lz_run_mono {T : List lzOp} (hT : ∀ pc, lz_Tl (T.getD pc lo_none)) : ∀ (n : Nat) {pc : Nat} {L : zzLc} {st : List Value} {M : lzMd} {r : lzRt}, lz_run T n pc L st M = some r → lz_run T (n + 1) pc L st M = some r
  | 0, pc, L, st, M, r, h => by cases h
  | n + 1, pc, L, st, M, r, h => by
    have h1 : (T.getD pc lo_none) (lz_run T n) L st M = some r := h
    show (T.getD pc lo_none) (lz_run T (n + 1)) L st M = some r
    rcases hT pc L st M with ⟨q, hq⟩ | ⟨pc', L', st', M', hq⟩
    · rw [hq] at h1 ⊢
      exact h1
    · rw [hq] at h1 ⊢
      exact lz_run_mono hT n h1
theorem lz_run_le {T : List lzOp} (hT : ∀ pc, lz_Tl (T.getD pc lo_none)) {n m : Nat} (hm : n ≤ m) {pc : Nat} {L : zzLc} {st : List Value} {M : lzMd} {r : lzRt} (h : lz_run T n pc L st M = some r) : lz_run T m pc L st M = some r := by
  induction hm with
  | refl => exact h
  | step _ ih => exact lz_run_mono hT _ ih
theorem lz_run_det {T : List lzOp} (hT : ∀ pc, lz_Tl (T.getD pc lo_none)) {n m : Nat} {pc : Nat} {L : zzLc} {st : List Value} {M : lzMd} {r q : lzRt} (h : lz_run T n pc L st M = some r) (h' : lz_run T m pc L st M = some q) : r = q := by
  rcases Nat.le_total n m with a | a
  · exact Option.some.inj ((lz_run_le hT a h).symm.trans h')
  · exact Option.some.inj (h.symm.trans (lz_run_le hT a h'))
theorem lz_ev_run {T : List lzOp} {pc : Nat} {L : zzLc} {st : List Value} {M : lzMd} {r : lzRt} (h : lz_ev T pc L st M = some r) : ∃ n, lz_run T n pc L st M = some r := by
  unfold lz_ev at h
  split at h
  · rename_i hh
    cases h
    exact ⟨_, Classical.choose_spec (Classical.choose_spec hh)⟩
  · cases h
theorem lz_run_ev {T : List lzOp} (hT : ∀ pc, lz_Tl (T.getD pc lo_none)) {n pc : Nat} {L : zzLc} {st : List Value} {M : lzMd} {r : lzRt} (h : lz_run T n pc L st M = some r) : lz_ev T pc L st M = some r := by
  unfold lz_ev
  have hh : lz_has T pc L st M := ⟨n, r, h⟩
  rw [dif_pos hh]
  exact congrArg some (lz_run_det hT (Classical.choose_spec (Classical.choose_spec hh)) h)
/-- one step -/
theorem lz_ev_eq {T : List lzOp} (hT : ∀ pc, lz_Tl (T.getD pc lo_none)) (pc : Nat) (L : zzLc) (st : List Value) (M : lzMd) : lz_ev T pc L st M = (T.getD pc lo_none) (lz_ev T) L st M := by
  have key : ∀ r, lz_ev T pc L st M = some r ↔ (T.getD pc lo_none) (lz_ev T) L st M = some r := by
    intro r
    rcases hT pc L st M with ⟨q, hq⟩ | ⟨pc', L', st', M', hq⟩
    · constructor
      · intro h
        obtain ⟨n, hn⟩ := lz_ev_run h
        cases n with
        | zero => cases hn
        | succ n =>
          have h1 : (T.getD pc lo_none) (lz_run T n) L st M = some r := hn
          rw [hq] at h1 ⊢
          exact h1
      · intro h
        rw [hq] at h
        exact lz_run_ev hT (n := 1) (by show (T.getD pc lo_none) (lz_run T 0) L st M = some r; rw [hq]; exact h)
    · constructor
      · intro h
        obtain ⟨n, hn⟩ := lz_ev_run h
        cases n with
        | zero => cases hn
        | succ n =>
          have h1 : (T.getD pc lo_none) (lz_run T n) L st M = some r := hn
          rw [hq] at h1 ⊢
          exact lz_run_ev hT h1
      · intro h
        rw [hq] at h
        obtain ⟨n, hn⟩ := lz_ev_run h
        exact lz_run_ev hT (n := n + 1) (by show (T.getD pc lo_none) (lz_run T n) L st M = some r; rw [hq]; exact hn)
  cases h1 : lz_ev T pc L st M with
  | some r => exact ((key r).mp h1).symm
  | none =>
    cases h2 : (T.getD pc lo_none) (lz_ev T) L st M with
    | none => rfl
    | some r => exact ((key r).mpr h2) ▸ h1.symm ▸ rfl
/-- some steps, up to places where it stops -/
def lz_upto (T : List lzOp) (stop : Nat → Bool) : Nat → lzKt → lzKt
  | 0, K => K
  | n + 1, K => fun pc L st M => bif stop pc then K pc L st M else (T.getD pc lo_none) (lz_upto T stop n K) L st M
theorem lz_upto_ev {T : List lzOp} (hT : ∀ pc, lz_Tl (T.getD pc lo_none)) (stop : Nat → Bool) : ∀ (n : Nat), lz_upto T stop n (lz_ev T) = lz_ev T
  | 0 => rfl
  | n + 1 => by
    funext pc L st M
    show (bif stop pc then lz_ev T pc L st M else (T.getD pc lo_none) (lz_upto T stop n (lz_ev T)) L st M) = lz_ev T pc L st M
    cases stop pc with
    | true => rfl
    | false =>
      show (T.getD pc lo_none) (lz_upto T stop n (lz_ev T)) L st M = lz_ev T pc L st M
      rw [lz_upto_ev hT stop n]
      exact (lz_ev_eq hT pc L st M).symm
/-- a block from pc on: its first step is taken, it stops at the next place of `stop` -/
theorem lz_blk {T : List lzOp} (hT : ∀ pc, lz_Tl (T.getD pc lo_none)) (stop : Nat → Bool) (n pc : Nat) (L : zzLc) (st : List Value) (M : lzMd) : lz_ev T pc L st M = (T.getD pc lo_none) (lz_upto T stop n (lz_ev T)) L st M := by
  rw [lz_upto_ev hT stop n]
  exact lz_ev_eq hT pc L st M
theorem lz_Tl_mem {T : List lzOp} (h : ∀ o ∈ T, lz_Tl o) : ∀ pc, lz_Tl (T.getD pc lo_none) := by
  intro pc
  rw [List.getD_eq_getElem?_getD]
  cases hp : T[pc]? with
  | none => exact fun L st M => Or.inl ⟨none, fun K => rfl⟩
  | some o => exact h o (List.mem_of_getElem? hp)
theorem lo_none_tl : lz_Tl (lo_none ) := by
  intro L st M
  unfold lo_none
  repeat (first | exact Or.inl ⟨_, fun K => rfl⟩ | exact Or.inr ⟨_, _, _, _, fun K => rfl⟩ | split | (simp only [cond_eq_ite]))
theorem lo_pushI_tl (v : Int32) (nx : Nat) : lz_Tl (lo_pushI v nx) := by
  intro L st M
  unfold lo_pushI
  repeat (first | exact Or.inl ⟨_, fun K => rfl⟩ | exact Or.inr ⟨_, _, _, _, fun K => rfl⟩ | split | (simp only [cond_eq_ite]))
theorem lo_pushL_tl (v : Int64) (nx : Nat) : lz_Tl (lo_pushL v nx) := by
  intro L st M
  unfold lo_pushL
  repeat (first | exact Or.inl ⟨_, fun K => rfl⟩ | exact Or.inr ⟨_, _, _, _, fun K => rfl⟩ | split | (simp only [cond_eq_ite]))
theorem lo_iload_tl (i nx : Nat) : lz_Tl (lo_iload i nx) := by
  intro L st M
  unfold lo_iload
  repeat (first | exact Or.inl ⟨_, fun K => rfl⟩ | exact Or.inr ⟨_, _, _, _, fun K => rfl⟩ | split | (simp only [cond_eq_ite]))
theorem lo_lload_tl (i nx : Nat) : lz_Tl (lo_lload i nx) := by
  intro L st M
  unfold lo_lload
  repeat (first | exact Or.inl ⟨_, fun K => rfl⟩ | exact Or.inr ⟨_, _, _, _, fun K => rfl⟩ | split | (simp only [cond_eq_ite]))
theorem lo_aload_tl (i nx : Nat) : lz_Tl (lo_aload i nx) := by
  intro L st M
  unfold lo_aload
  repeat (first | exact Or.inl ⟨_, fun K => rfl⟩ | exact Or.inr ⟨_, _, _, _, fun K => rfl⟩ | split | (simp only [cond_eq_ite]))
theorem lo_istore_tl (i nx : Nat) : lz_Tl (lo_istore i nx) := by
  intro L st M
  unfold lo_istore
  repeat (first | exact Or.inl ⟨_, fun K => rfl⟩ | exact Or.inr ⟨_, _, _, _, fun K => rfl⟩ | split | (simp only [cond_eq_ite]))
theorem lo_lstore_tl (i nx : Nat) : lz_Tl (lo_lstore i nx) := by
  intro L st M
  unfold lo_lstore
  repeat (first | exact Or.inl ⟨_, fun K => rfl⟩ | exact Or.inr ⟨_, _, _, _, fun K => rfl⟩ | split | (simp only [cond_eq_ite]))
theorem lo_iinc_tl (i : Nat) (d : Int32) (nx : Nat) : lz_Tl (lo_iinc i d nx) := by
  intro L st M
  unfold lo_iinc
  repeat (first | exact Or.inl ⟨_, fun K => rfl⟩ | exact Or.inr ⟨_, _, _, _, fun K => rfl⟩ | split | (simp only [cond_eq_ite]))
theorem lo_ii_tl (f : Int32 → Int32 → Int32) (nx : Nat) : lz_Tl (lo_ii f nx) := by
  intro L st M
  unfold lo_ii
  repeat (first | exact Or.inl ⟨_, fun K => rfl⟩ | exact Or.inr ⟨_, _, _, _, fun K => rfl⟩ | split | (simp only [cond_eq_ite]))
theorem lo_iid_tl (f : Int32 → Int32 → Int32) (nx : Nat) : lz_Tl (lo_iid f nx) := by
  intro L st M
  unfold lo_iid
  repeat (first | exact Or.inl ⟨_, fun K => rfl⟩ | exact Or.inr ⟨_, _, _, _, fun K => rfl⟩ | split | (simp only [cond_eq_ite]))
theorem lo_ll_tl (f : Int64 → Int64 → Int64) (nx : Nat) : lz_Tl (lo_ll f nx) := by
  intro L st M
  unfold lo_ll
  repeat (first | exact Or.inl ⟨_, fun K => rfl⟩ | exact Or.inr ⟨_, _, _, _, fun K => rfl⟩ | split | (simp only [cond_eq_ite]))
theorem lo_li_tl (f : Int64 → Int32 → Int64) (nx : Nat) : lz_Tl (lo_li f nx) := by
  intro L st M
  unfold lo_li
  repeat (first | exact Or.inl ⟨_, fun K => rfl⟩ | exact Or.inr ⟨_, _, _, _, fun K => rfl⟩ | split | (simp only [cond_eq_ite]))
theorem lo_lcmp_tl (nx : Nat) : lz_Tl (lo_lcmp nx) := by
  intro L st M
  unfold lo_lcmp
  repeat (first | exact Or.inl ⟨_, fun K => rfl⟩ | exact Or.inr ⟨_, _, _, _, fun K => rfl⟩ | split | (simp only [cond_eq_ite]))
theorem lo_i2l_tl (nx : Nat) : lz_Tl (lo_i2l nx) := by
  intro L st M
  unfold lo_i2l
  repeat (first | exact Or.inl ⟨_, fun K => rfl⟩ | exact Or.inr ⟨_, _, _, _, fun K => rfl⟩ | split | (simp only [cond_eq_ite]))
theorem lo_dup2_tl (nx : Nat) : lz_Tl (lo_dup2 nx) := by
  intro L st M
  unfold lo_dup2
  repeat (first | exact Or.inl ⟨_, fun K => rfl⟩ | exact Or.inr ⟨_, _, _, _, fun K => rfl⟩ | split | (simp only [cond_eq_ite]))
theorem lo_goto_tl (t : Nat) : lz_Tl (lo_goto t) := by
  intro L st M
  unfold lo_goto
  repeat (first | exact Or.inl ⟨_, fun K => rfl⟩ | exact Or.inr ⟨_, _, _, _, fun K => rfl⟩ | split | (simp only [cond_eq_ite]))
theorem lo_if_tl (c : Int32 → Bool) (t nx : Nat) : lz_Tl (lo_if c t nx) := by
  intro L st M
  unfold lo_if
  repeat (first | exact Or.inl ⟨_, fun K => rfl⟩ | exact Or.inr ⟨_, _, _, _, fun K => rfl⟩ | split | (simp only [cond_eq_ite]))
theorem lo_icmp_tl (c : Int32 → Int32 → Bool) (t nx : Nat) : lz_Tl (lo_icmp c t nx) := by
  intro L st M
  unfold lo_icmp
  repeat (first | exact Or.inl ⟨_, fun K => rfl⟩ | exact Or.inr ⟨_, _, _, _, fun K => rfl⟩ | split | (simp only [cond_eq_ite]))
theorem lo_iald_tl (S : List zzSh) (ST : List (List Int32)) (nx : Nat) : lz_Tl (lo_iald S ST nx) := by
  intro L st M
  unfold lo_iald
  repeat (first | exact Or.inl ⟨_, fun K => rfl⟩ | exact Or.inr ⟨_, _, _, _, fun K => rfl⟩ | split | (simp only [cond_eq_ite]))
theorem lo_iast_tl (S : List zzSh) (nx : Nat) : lz_Tl (lo_iast S nx) := by
  intro L st M
  unfold lo_iast
  repeat (first | exact Or.inl ⟨_, fun K => rfl⟩ | exact Or.inr ⟨_, _, _, _, fun K => rfl⟩ | split | (simp only [cond_eq_ite]))
theorem lo_alen_tl (ST : List (List Int32)) (nx : Nat) : lz_Tl (lo_alen ST nx) := by
  intro L st M
  unfold lo_alen
  repeat (first | exact Or.inl ⟨_, fun K => rfl⟩ | exact Or.inr ⟨_, _, _, _, fun K => rfl⟩ | split | (simp only [cond_eq_ite]))
theorem lo_iret_tl (mx : Nat) (bl : Bool) : lz_Tl (lo_iret mx bl) := by
  intro L st M
  unfold lo_iret
  repeat (first | exact Or.inl ⟨_, fun K => rfl⟩ | exact Or.inr ⟨_, _, _, _, fun K => rfl⟩ | split | (simp only [cond_eq_ite]))
theorem lo_lret_tl (mx : Nat) : lz_Tl (lo_lret mx) := by
  intro L st M
  unfold lo_lret
  repeat (first | exact Or.inl ⟨_, fun K => rfl⟩ | exact Or.inr ⟨_, _, _, _, fun K => rfl⟩ | split | (simp only [cond_eq_ite]))
theorem lz_bs_tl (nx : Nat) (L : zzLc) (r : List Value) (k : Nat) (q : Option (Option Value × zzMd)) : (∃ x, ∀ K, lz_bs K nx L r k q = x) ∨ ∃ pc L' st' M', ∀ K : lzKt, lz_bs K nx L r k q = K pc L' st' M' := by
  rcases q with _ | ⟨_ | v, A⟩
  · exact Or.inl ⟨_, fun K => rfl⟩
  · exact Or.inl ⟨_, fun K => rfl⟩
  · exact Or.inr ⟨_, _, _, _, fun K => rfl⟩
theorem lz_bv_tl (nx : Nat) (L : zzLc) (r : List Value) (k : Nat) (q : Option zzRt) : (∃ x, ∀ K, lz_bv K nx L r k q = x) ∨ ∃ pc L' st' M', ∀ K : lzKt, lz_bv K nx L r k q = K pc L' st' M' := by
  rcases q with _ | ⟨(_ | v) | e, A⟩
  · exact Or.inl ⟨_, fun K => rfl⟩
  · exact Or.inl ⟨_, fun K => rfl⟩
  · exact Or.inr ⟨_, _, _, _, fun K => rfl⟩
  · exact Or.inl ⟨_, fun K => rfl⟩
theorem lz_bh_tl (nx : Nat) (L : zzLc) (r : List Value) (k mx : Nat) (hc : Nat → Option Int32) (q : Option zzRt) : (∃ x, ∀ K, lz_bh K nx L r k mx hc q = x) ∨ ∃ pc L' st' M', ∀ K : lzKt, lz_bh K nx L r k mx hc q = K pc L' st' M' := by
  rcases q with _ | ⟨(_ | v) | e, A⟩
  · exact Or.inl ⟨_, fun K => rfl⟩
  · exact Or.inl ⟨_, fun K => rfl⟩
  · exact Or.inr ⟨_, _, _, _, fun K => rfl⟩
  · exact Or.inl ⟨_, fun K => rfl⟩
theorem lz_bif_tl {b : Bool} {F : lzKt → Option lzRt} (h : (∃ x, ∀ K, F K = x) ∨ ∃ pc L' st' M', ∀ K : lzKt, F K = K pc L' st' M') : (∃ x, ∀ K, (bif b then F K else none) = x) ∨ ∃ pc L' st' M', ∀ K : lzKt, (bif b then F K else none) = K pc L' st' M' := by
  cases b with
  | true => exact h
  | false => exact Or.inl ⟨_, fun K => rfl⟩
theorem lo_calls_tl (f : lzFn) (n k mx nx : Nat) : lz_Tl (lo_calls f n k mx nx) := fun L st M => lz_bif_tl (lz_bs_tl _ _ _ _ _)
theorem lo_callv_tl (f : zzFn) (n mx nx : Nat) : lz_Tl (lo_callv f n mx nx) := by
  intro L st M
  unfold lo_callv
  split
  · exact lz_bif_tl (lz_bv_tl _ _ _ _ _)
  · exact Or.inl ⟨_, fun K => rfl⟩
theorem lo_callh_tl (f : zzFn) (hc : Nat → Option Int32) (n mx nx : Nat) : lz_Tl (lo_callh f hc n mx nx) := by
  intro L st M
  unfold lo_callh
  split
  · exact lz_bif_tl (lz_bh_tl _ _ _ _ _ _ _)
  · exact Or.inl ⟨_, fun K => rfl⟩
end

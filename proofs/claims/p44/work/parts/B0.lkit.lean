section
/-! the law's machine: what its steps come to -/
theorem lq_iret_f (mx : Nat) (K : lzKt) (L : zzLc) (x : Int32) (A : zzMd) (n : Nat) : lo_iret mx false K L [.int x] (A, n) = bif decide (n ≤ mx) then some (some (.int x), (A, n)) else none := rfl
theorem lq_iret_1 (mx : Nat) (K : lzKt) (L : zzLc) (A : zzMd) (n : Nat) : lo_iret mx true K L [.int 1] (A, n) = bif decide (n ≤ mx) then some (some (.int 1), (A, n)) else none := rfl
theorem lq_iret_0 (mx : Nat) (K : lzKt) (L : zzLc) (A : zzMd) (n : Nat) : lo_iret mx true K L [.int 0] (A, n) = bif decide (n ≤ mx) then some (some (.int 0), (A, n)) else none := rfl
theorem lq_iret_b (mx : Nat) (K : lzKt) (L : zzLc) (b : Bool) (A : zzMd) (n : Nat) : lo_iret mx true K L [.int (zb b)] (A, n) = bif decide (n ≤ mx) then some (some (.int (zb b)), (A, n)) else none := by cases b <;> rfl
theorem lq_lret (mx : Nat) (K : lzKt) (L : zzLc) (x : Int64) (A : zzMd) (n : Nat) : lo_lret mx K L [.long x] (A, n) = bif decide (n ≤ mx) then some (some (.long x), (A, n)) else none := rfl
theorem lq_bs (K : lzKt) (nx : Nat) (L : zzLc) (r : List Value) (k : Nat) (v : Value) (A : zzMd) : lz_bs K nx L r k (some (some v, A)) = K nx L (v :: r) (A, k) := rfl
theorem lq_bv (K : lzKt) (nx : Nat) (L : zzLc) (r : List Value) (k : Nat) (v : Value) (A : zzMd) : lz_bv K nx L r k (some (.inl (some v), A)) = K nx L (v :: r) (A, k) := rfl
theorem lq_bhv (K : lzKt) (nx : Nat) (L : zzLc) (r : List Value) (k mx : Nat) (hc : Nat → Option Int32) (v : Value) (A : zzMd) : lz_bh K nx L r k mx hc (some (.inl (some v), A)) = K nx L (v :: r) (A, k) := rfl
theorem lq_bhx (K : lzKt) (nx : Nat) (L : zzLc) (r : List Value) (k mx : Nat) (hc : Nat → Option Int32) (e : Nat) (A : zzMd) : lz_bh K nx L r k mx hc (some (.inr e, A)) = match hc e with
    | some x => bif decide (k + 1 ≤ mx) then some (some (.int x), (A, k + 1)) else none
    | none => none := rfl
theorem le00 : (0 ≤ 1) = True := eq_true (by decide)
theorem le01 : (0 + 1 ≤ 1) = True := eq_true (by decide)
end

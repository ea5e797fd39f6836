section
theorem zo_none_tl : zz_Tl (zo_none ) := by
  intro L st M
  unfold zo_none
  repeat (first | exact Or.inl ⟨_, fun K => rfl⟩ | exact Or.inr ⟨_, _, _, _, fun K => rfl⟩ | split | (simp only [cond_eq_ite]))
theorem zo_pushI_tl (v : Int32) (nx : Nat) : zz_Tl (zo_pushI v nx) := by
  intro L st M
  unfold zo_pushI
  repeat (first | exact Or.inl ⟨_, fun K => rfl⟩ | exact Or.inr ⟨_, _, _, _, fun K => rfl⟩ | split | (simp only [cond_eq_ite]))
theorem zo_pushL_tl (v : Int64) (nx : Nat) : zz_Tl (zo_pushL v nx) := by
  intro L st M
  unfold zo_pushL
  repeat (first | exact Or.inl ⟨_, fun K => rfl⟩ | exact Or.inr ⟨_, _, _, _, fun K => rfl⟩ | split | (simp only [cond_eq_ite]))
theorem zo_null_tl (nx : Nat) : zz_Tl (zo_null nx) := by
  intro L st M
  unfold zo_null
  repeat (first | exact Or.inl ⟨_, fun K => rfl⟩ | exact Or.inr ⟨_, _, _, _, fun K => rfl⟩ | split | (simp only [cond_eq_ite]))
theorem zo_iload_tl (i nx : Nat) : zz_Tl (zo_iload i nx) := by
  intro L st M
  unfold zo_iload
  repeat (first | exact Or.inl ⟨_, fun K => rfl⟩ | exact Or.inr ⟨_, _, _, _, fun K => rfl⟩ | split | (simp only [cond_eq_ite]))
theorem zo_lload_tl (i nx : Nat) : zz_Tl (zo_lload i nx) := by
  intro L st M
  unfold zo_lload
  repeat (first | exact Or.inl ⟨_, fun K => rfl⟩ | exact Or.inr ⟨_, _, _, _, fun K => rfl⟩ | split | (simp only [cond_eq_ite]))
theorem zo_aload_tl (i nx : Nat) : zz_Tl (zo_aload i nx) := by
  intro L st M
  unfold zo_aload
  repeat (first | exact Or.inl ⟨_, fun K => rfl⟩ | exact Or.inr ⟨_, _, _, _, fun K => rfl⟩ | split | (simp only [cond_eq_ite]))
theorem zo_istore_tl (i nx : Nat) : zz_Tl (zo_istore i nx) := by
  intro L st M
  unfold zo_istore
  repeat (first | exact Or.inl ⟨_, fun K => rfl⟩ | exact Or.inr ⟨_, _, _, _, fun K => rfl⟩ | split | (simp only [cond_eq_ite]))
theorem zo_lstore_tl (i nx : Nat) : zz_Tl (zo_lstore i nx) := by
  intro L st M
  unfold zo_lstore
  repeat (first | exact Or.inl ⟨_, fun K => rfl⟩ | exact Or.inr ⟨_, _, _, _, fun K => rfl⟩ | split | (simp only [cond_eq_ite]))
theorem zo_astore_tl (i nx : Nat) : zz_Tl (zo_astore i nx) := by
  intro L st M
  unfold zo_astore
  repeat (first | exact Or.inl ⟨_, fun K => rfl⟩ | exact Or.inr ⟨_, _, _, _, fun K => rfl⟩ | split | (simp only [cond_eq_ite]))
theorem zo_iinc_tl (i : Nat) (d : Int32) (nx : Nat) : zz_Tl (zo_iinc i d nx) := by
  intro L st M
  unfold zo_iinc
  repeat (first | exact Or.inl ⟨_, fun K => rfl⟩ | exact Or.inr ⟨_, _, _, _, fun K => rfl⟩ | split | (simp only [cond_eq_ite]))
theorem zo_ii_tl (f : Int32 → Int32 → Int32) (nx : Nat) : zz_Tl (zo_ii f nx) := by
  intro L st M
  unfold zo_ii
  repeat (first | exact Or.inl ⟨_, fun K => rfl⟩ | exact Or.inr ⟨_, _, _, _, fun K => rfl⟩ | split | (simp only [cond_eq_ite]))
theorem zo_iid_tl (f : Int32 → Int32 → Int32) (nx : Nat) : zz_Tl (zo_iid f nx) := by
  intro L st M
  unfold zo_iid
  repeat (first | exact Or.inl ⟨_, fun K => rfl⟩ | exact Or.inr ⟨_, _, _, _, fun K => rfl⟩ | split | (simp only [cond_eq_ite]))
theorem zo_ll_tl (f : Int64 → Int64 → Int64) (nx : Nat) : zz_Tl (zo_ll f nx) := by
  intro L st M
  unfold zo_ll
  repeat (first | exact Or.inl ⟨_, fun K => rfl⟩ | exact Or.inr ⟨_, _, _, _, fun K => rfl⟩ | split | (simp only [cond_eq_ite]))
theorem zo_li_tl (f : Int64 → Int32 → Int64) (nx : Nat) : zz_Tl (zo_li f nx) := by
  intro L st M
  unfold zo_li
  repeat (first | exact Or.inl ⟨_, fun K => rfl⟩ | exact Or.inr ⟨_, _, _, _, fun K => rfl⟩ | split | (simp only [cond_eq_ite]))
theorem zo_lcmp_tl (nx : Nat) : zz_Tl (zo_lcmp nx) := by
  intro L st M
  unfold zo_lcmp
  repeat (first | exact Or.inl ⟨_, fun K => rfl⟩ | exact Or.inr ⟨_, _, _, _, fun K => rfl⟩ | split | (simp only [cond_eq_ite]))
theorem zo_i2l_tl (nx : Nat) : zz_Tl (zo_i2l nx) := by
  intro L st M
  unfold zo_i2l
  repeat (first | exact Or.inl ⟨_, fun K => rfl⟩ | exact Or.inr ⟨_, _, _, _, fun K => rfl⟩ | split | (simp only [cond_eq_ite]))
theorem zo_l2i_tl (nx : Nat) : zz_Tl (zo_l2i nx) := by
  intro L st M
  unfold zo_l2i
  repeat (first | exact Or.inl ⟨_, fun K => rfl⟩ | exact Or.inr ⟨_, _, _, _, fun K => rfl⟩ | split | (simp only [cond_eq_ite]))
theorem zo_dup_tl (nx : Nat) : zz_Tl (zo_dup nx) := by
  intro L st M
  unfold zo_dup
  repeat (first | exact Or.inl ⟨_, fun K => rfl⟩ | exact Or.inr ⟨_, _, _, _, fun K => rfl⟩ | split | (simp only [cond_eq_ite]))
theorem zo_dup2_tl (nx : Nat) : zz_Tl (zo_dup2 nx) := by
  intro L st M
  unfold zo_dup2
  repeat (first | exact Or.inl ⟨_, fun K => rfl⟩ | exact Or.inr ⟨_, _, _, _, fun K => rfl⟩ | split | (simp only [cond_eq_ite]))
theorem zo_pop_tl (nx : Nat) : zz_Tl (zo_pop nx) := by
  intro L st M
  unfold zo_pop
  repeat (first | exact Or.inl ⟨_, fun K => rfl⟩ | exact Or.inr ⟨_, _, _, _, fun K => rfl⟩ | split | (simp only [cond_eq_ite]))
theorem zo_goto_tl (t : Nat) : zz_Tl (zo_goto t) := by
  intro L st M
  unfold zo_goto
  repeat (first | exact Or.inl ⟨_, fun K => rfl⟩ | exact Or.inr ⟨_, _, _, _, fun K => rfl⟩ | split | (simp only [cond_eq_ite]))
theorem zo_if_tl (c : Int32 → Bool) (t nx : Nat) : zz_Tl (zo_if c t nx) := by
  intro L st M
  unfold zo_if
  repeat (first | exact Or.inl ⟨_, fun K => rfl⟩ | exact Or.inr ⟨_, _, _, _, fun K => rfl⟩ | split | (simp only [cond_eq_ite]))
theorem zo_icmp_tl (c : Int32 → Int32 → Bool) (t nx : Nat) : zz_Tl (zo_icmp c t nx) := by
  intro L st M
  unfold zo_icmp
  repeat (first | exact Or.inl ⟨_, fun K => rfl⟩ | exact Or.inr ⟨_, _, _, _, fun K => rfl⟩ | split | (simp only [cond_eq_ite]))
theorem zo_ifnull_tl (t nx : Nat) : zz_Tl (zo_ifnull t nx) := by
  intro L st M
  unfold zo_ifnull
  repeat (first | exact Or.inl ⟨_, fun K => rfl⟩ | exact Or.inr ⟨_, _, _, _, fun K => rfl⟩ | split | (simp only [cond_eq_ite]))
theorem zo_getf_tl (S : List zzSh) (kf : Nat → Option Nat) (nx : Nat) : zz_Tl (zo_getf S kf nx) := by
  intro L st M
  unfold zo_getf
  repeat (first | exact Or.inl ⟨_, fun K => rfl⟩ | exact Or.inr ⟨_, _, _, _, fun K => rfl⟩ | split | (simp only [cond_eq_ite]))
theorem zo_putf_tl (S : List zzSh) (kf : Nat → Option Nat) (bl : Bool) (nx : Nat) : zz_Tl (zo_putf S kf bl nx) := by
  intro L st M
  unfold zo_putf
  repeat (first | exact Or.inl ⟨_, fun K => rfl⟩ | exact Or.inr ⟨_, _, _, _, fun K => rfl⟩ | split | (simp only [cond_eq_ite]))
theorem zo_iald_tl (S : List zzSh) (ST : List (List Int32)) (nx : Nat) : zz_Tl (zo_iald S ST nx) := by
  intro L st M
  unfold zo_iald
  repeat (first | exact Or.inl ⟨_, fun K => rfl⟩ | exact Or.inr ⟨_, _, _, _, fun K => rfl⟩ | split | (simp only [cond_eq_ite]))
theorem zo_zald_tl (S : List zzSh) (nx : Nat) : zz_Tl (zo_zald S nx) := by
  intro L st M
  unfold zo_zald
  repeat (first | exact Or.inl ⟨_, fun K => rfl⟩ | exact Or.inr ⟨_, _, _, _, fun K => rfl⟩ | split | (simp only [cond_eq_ite]))
theorem zo_lald_tl (S : List zzSh) (nx : Nat) : zz_Tl (zo_lald S nx) := by
  intro L st M
  unfold zo_lald
  repeat (first | exact Or.inl ⟨_, fun K => rfl⟩ | exact Or.inr ⟨_, _, _, _, fun K => rfl⟩ | split | (simp only [cond_eq_ite]))
theorem zo_aald_tl (S : List zzSh) (nx : Nat) : zz_Tl (zo_aald S nx) := by
  intro L st M
  unfold zo_aald
  repeat (first | exact Or.inl ⟨_, fun K => rfl⟩ | exact Or.inr ⟨_, _, _, _, fun K => rfl⟩ | split | (simp only [cond_eq_ite]))
theorem zo_iast_tl (S : List zzSh) (nx : Nat) : zz_Tl (zo_iast S nx) := by
  intro L st M
  unfold zo_iast
  repeat (first | exact Or.inl ⟨_, fun K => rfl⟩ | exact Or.inr ⟨_, _, _, _, fun K => rfl⟩ | split | (simp only [cond_eq_ite]))
theorem zo_zast_tl (S : List zzSh) (nx : Nat) : zz_Tl (zo_zast S nx) := by
  intro L st M
  unfold zo_zast
  repeat (first | exact Or.inl ⟨_, fun K => rfl⟩ | exact Or.inr ⟨_, _, _, _, fun K => rfl⟩ | split | (simp only [cond_eq_ite]))
theorem zo_last_tl (S : List zzSh) (nx : Nat) : zz_Tl (zo_last S nx) := by
  intro L st M
  unfold zo_last
  repeat (first | exact Or.inl ⟨_, fun K => rfl⟩ | exact Or.inr ⟨_, _, _, _, fun K => rfl⟩ | split | (simp only [cond_eq_ite]))
theorem zo_gets_tl (i nx : Nat) : zz_Tl (zo_gets i nx) := by
  intro L st M
  unfold zo_gets
  repeat (first | exact Or.inl ⟨_, fun K => rfl⟩ | exact Or.inr ⟨_, _, _, _, fun K => rfl⟩ | split | (simp only [cond_eq_ite]))
theorem zo_copy_tl (S : List zzSh) (nx : Nat) : zz_Tl (zo_copy S nx) := by
  intro L st M
  unfold zo_copy
  repeat (first | exact Or.inl ⟨_, fun K => rfl⟩ | exact Or.inr ⟨_, _, _, _, fun K => rfl⟩ | split | (simp only [cond_eq_ite]))
theorem zo_iret_tl (bl : Bool) : zz_Tl (zo_iret bl) := by
  intro L st M
  unfold zo_iret
  repeat (first | exact Or.inl ⟨_, fun K => rfl⟩ | exact Or.inr ⟨_, _, _, _, fun K => rfl⟩ | split | (simp only [cond_eq_ite]))
theorem zo_lret_tl : zz_Tl (zo_lret ) := by
  intro L st M
  unfold zo_lret
  repeat (first | exact Or.inl ⟨_, fun K => rfl⟩ | exact Or.inr ⟨_, _, _, _, fun K => rfl⟩ | split | (simp only [cond_eq_ite]))
theorem zo_aret_tl : zz_Tl (zo_aret ) := by
  intro L st M
  unfold zo_aret
  repeat (first | exact Or.inl ⟨_, fun K => rfl⟩ | exact Or.inr ⟨_, _, _, _, fun K => rfl⟩ | split | (simp only [cond_eq_ite]))
theorem zo_ret_tl : zz_Tl (zo_ret ) := by
  intro L st M
  unfold zo_ret
  repeat (first | exact Or.inl ⟨_, fun K => rfl⟩ | exact Or.inr ⟨_, _, _, _, fun K => rfl⟩ | split | (simp only [cond_eq_ite]))
theorem zo_throw_tl (e : Nat) : zz_Tl (zo_throw e) := by
  intro L st M
  unfold zo_throw
  repeat (first | exact Or.inl ⟨_, fun K => rfl⟩ | exact Or.inr ⟨_, _, _, _, fun K => rfl⟩ | split | (simp only [cond_eq_ite]))
theorem zz_back_tl (nx : Nat) (L : zzLc) (r : List Value) (q : Option zzRt) : (∃ x, ∀ K, zz_back K nx L r q = x) ∨ ∃ pc L' st' M', ∀ K : zzKt, zz_back K nx L r q = K pc L' st' M' := by
  rcases q with _ | ⟨(_ | v) | e, M⟩
  · exact Or.inl ⟨_, fun K => rfl⟩
  · exact Or.inr ⟨_, _, _, _, fun K => rfl⟩
  · exact Or.inr ⟨_, _, _, _, fun K => rfl⟩
  · exact Or.inl ⟨_, fun K => rfl⟩
theorem zz_backN_tl (nx : Nat) (L : zzLc) (r : List Value) (q : Option zzRt) : (∃ x, ∀ K, zz_backN K nx L r q = x) ∨ ∃ pc L' st' M', ∀ K : zzKt, zz_backN K nx L r q = K pc L' st' M' := by
  rcases q with _ | ⟨(_ | v) | e, M⟩
  · exact Or.inl ⟨_, fun K => rfl⟩
  · exact Or.inr ⟨_, _, _, _, fun K => rfl⟩
  · exact Or.inr ⟨_, _, _, _, fun K => rfl⟩
  · exact Or.inl ⟨_, fun K => rfl⟩
theorem zz_bif_tl {b : Bool} {F : zzKt → Option zzRt} (h : (∃ x, ∀ K, F K = x) ∨ ∃ pc L' st' M', ∀ K : zzKt, F K = K pc L' st' M') : (∃ x, ∀ K, (bif b then F K else none) = x) ∨ ∃ pc L' st' M', ∀ K : zzKt, (bif b then F K else none) = K pc L' st' M' := by
  cases b with
  | true => exact h
  | false => exact Or.inl ⟨_, fun K => rfl⟩
theorem zo_mm_tl (f : Int32 → Int32 → Int32) (nx : Nat) : zz_Tl (zo_mm f nx) := by
  intro L st M
  unfold zo_mm
  repeat (first | exact Or.inl ⟨_, fun K => rfl⟩ | exact Or.inr ⟨_, _, _, _, fun K => rfl⟩ | split | (simp only [cond_eq_ite]))
theorem zo_calls_tl (f : zzFn) (n nx : Nat) : zz_Tl (zo_calls f n nx) := by
  intro L st M
  unfold zo_calls
  cases (decide (n ≤ st.length) && zz_cat8 (st.drop n)) with
  | true => exact zz_backN_tl _ _ _ _
  | false => exact Or.inl ⟨_, fun K => rfl⟩
theorem zo_callv_tl (S : List zzSh) (f : Nat → Option zzFn) (n nx : Nat) : zz_Tl (zo_callv S f n nx) := by
  intro L st M
  unfold zo_callv
  split
  · split
    · split
      · exact zz_bif_tl (zz_backN_tl _ _ _ _)
      · exact Or.inl ⟨_, fun K => rfl⟩
    · exact Or.inl ⟨_, fun K => rfl⟩
  · exact Or.inl ⟨_, fun K => rfl⟩
theorem zo_callx_tl (S : List zzSh) (f : Nat → Option zzFn) (n nx : Nat) : zz_Tl (zo_callx S f n nx) := by
  intro L st M
  unfold zo_callx
  split
  · split
    · split
      · exact zz_bif_tl (zz_back_tl _ _ _ _)
      · exact Or.inl ⟨_, fun K => rfl⟩
    · exact Or.inl ⟨_, fun K => rfl⟩
  · exact Or.inl ⟨_, fun K => rfl⟩
end

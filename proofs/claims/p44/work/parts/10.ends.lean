section
variable {p : Program} {l : Launch} {e : Env} {R : Room} {s : State} {m : MethodId} {args : Array Value} {below : List Frame} {meth : Method} {c : Code} {cc : ByteArray} {nL : Nat} {own : String}
variable {D : va_G} {cl : List vw_C} {cA : Nat → ClassId} {ad : Nat → Nat} {S : List zzSh} {Ex : (Nat → Prop) → State → Heap → Prop} {ret : Option FieldType} {rf rl : Nat} {rr : zzRt} {pc nx : Nat}
theorem zz_map_take {st : List Value} {n : Nat} {r : List Value} (h : st.drop n = r) : st.map (zz_cv ad) = (((st.take n).reverse).map (zz_cv ad)).reverse ++ r.map (zz_cv ad) := by
  rw [← h, List.map_reverse, List.reverse_reverse, ← List.map_append, List.take_append_drop]
theorem zz_cat8_map {r : List Value} (h : zz_cat8 r = true) : ((r.map (zz_cv ad)).map fun v => v.category).sum ≤ 8 := by
  have h1 : (r.map fun v => v.category).sum ≤ 8 := of_decide_eq_true h
  rw [List.map_map]
  have e : ((fun v : Value => v.category) ∘ zz_cv ad) = fun v : Value => v.category := funext fun v => zz_cv_cat ad v
  rw [e]
  exact h1
theorem zz_len_take {st : List Value} {n : Nat} (h : n ≤ st.length) : (((st.take n).reverse).map (zz_cv ad)).length = n := by
  rw [List.length_map, List.length_reverse, List.length_take]
  omega
theorem zz_sz {ls : Array Slot} {L : zzLc} (hL : zz_L ad ls nL L) {pc : Nat} {st : List Value} : (F0 m pc ls st).locals.size = nL := hL.1
theorem zk_calls (X : zz_Fx p l R s m args meth c cc nL own D cl cA ad S Ex ret rf rl rr) {f : zzFn} {n index maxL rfc rlc : Nat} {y : MethodName} {bytes : ByteArray} {ret' : Option FieldType} (hk : zz_KS own index n y bytes maxL ret') (hC : zz_Cn l D cl cA ad S Ex y bytes maxL ret' rfc rlc f) (hR : rfc + 1 ≤ rf ∧ 8 + (maxL + 11) + rlc ≤ rl)
    (d : decode cc pc = .ok (.invokestatic index, 3)) (hn : pc + 3 = nx) : zz_Ok (zz_G p l e R s m args below meth c D cl cA ad S nL rr) pc (zo_calls f n nx) := by
  intro K L st M r hK h hr H locs ls hS hP hL
  obtain ⟨hx, hb, hml, hown, hts, hKn, hinj, hEo, hE, hret, hlk, hno, htr, hRf, hRl, hRx⟩ := X
  subst hn
  unfold zo_calls at h
  cases hbb : (decide (n ≤ st.length) && zz_cat8 (st.drop n)) with
  | false => rw [hbb] at h; cases h
  | true =>
    rw [hbb] at h
    obtain ⟨b1, b2⟩ := Bool.and_eq_true_iff.mp hbb
    have hlen : n ≤ st.length := of_decide_eq_true b1
    have h : zz_backN K (pc + 3) L (st.drop n) (f (st.take n).reverse M) = some r := h
    rcases hf : f (st.take n).reverse M with _ | ⟨v | x, M'⟩
    · rw [hf] at h; cases h
    · rw [hf] at h
      have hM := hC H.size _ _ _ _ hf
      refine zz_after (a := (((st.take n).reverse).map (zz_cv ad)).toArray) (v := v) (M' := M') (hk p l e R s m args below meth c cc nL H locs _ _ _ 0 0 _ (((st.take n).reverse).map (zz_cv ad)) ((st.drop n).map (zz_cv ad)) (F0 m pc ls (st.map (zz_cv ad))) ⟨hx, hb, hml, hown, hts⟩ (hEo.2.2.2.1 _ _ _ hE) hM rfl rfl (by rw [hRf, hRl]; exact hR) ⟨zz_fb hEo, fun U hU hW => zz_pre hEo hE hKn hS hP U hU hW⟩ rfl (zz_len_take hlen) (zz_sz hL) (zz_map_take rfl) (lv_room (zz_cat8_map b2)) d ⟨Nat.zero_le _, Nat.zero_le _⟩) hS (fun H1 locs1 hS1 hP1 => ?_)
      cases v with
      | none => exact hK _ _ _ _ h hr H1 locs1 ls hS1 hP1 hL
      | some w => exact hK _ _ _ _ h hr H1 locs1 ls hS1 hP1 hL
    · rw [hf] at h; cases h
/-- which contracts a call with a receiver rests on -/
def zz_Cv (l : Launch) (D : va_G) (cl : List vw_C) (cA : Nat → ClassId) (ad : Nat → Nat) (S : List zzSh) (Ex : (Nat → Prop) → State → Heap → Prop) (own : String) (index n rf rl : Nat) (f : Nat → Option zzFn) : Prop := ∀ ci g, f ci = some g → ∃ (q : vw_C) (y : MethodName) (bytes : ByteArray) (maxL : Nat) (ret' : Option FieldType) (rfc rlc : Nat), cl[ci]? = some q ∧ zz_KV own index q.1 n y bytes maxL ret' ∧ zz_Cn l D cl cA ad S Ex y bytes maxL ret' rfc rlc g ∧ rfc + 1 ≤ rf ∧ 8 + (maxL + 11) + rlc ≤ rl
def zz_Cw (l : Launch) (D : va_G) (cl : List vw_C) (cA : Nat → ClassId) (ad : Nat → Nat) (S : List zzSh) (Ex : (Nat → Prop) → State → Heap → Prop) (own : String) (index n rf rl : Nat) (f : Nat → Option zzFn) : Prop := ∀ ci g, f ci = some g → ∃ (q : vw_C) (y : MethodName) (bytes : ByteArray) (maxL : Nat) (ret' : Option FieldType) (rfc rlc : Nat), cl[ci]? = some q ∧ (zz_KV own index q.1 n y bytes maxL ret' ∧ zz_KX own index q.1 n y bytes maxL ret') ∧ (zz_Cn l D cl cA ad S Ex y bytes maxL ret' rfc rlc g ∧ zz_Cx l D cl cA ad S Ex y bytes maxL ret' rfc rlc g) ∧ rfc + 1 ≤ rf ∧ 8 + (maxL + 11) + rlc ≤ rl
theorem zk_callv (X : zz_Fx p l R s m args meth c cc nL own D cl cA ad S Ex ret rf rl rr) {f : Nat → Option zzFn} {n index : Nat} (hC : zz_Cv l D cl cA ad S Ex own index n rf rl f)
    (d : decode cc pc = .ok (.invokevirtual index, 3)) (hn : pc + 3 = nx) : zz_Ok (zz_G p l e R s m args below meth c D cl cA ad S nL rr) pc (zo_callv S f n nx) := by
  intro K L st M r hK h hr H locs ls hS hP hL
  obtain ⟨hx, hb, hml, hown, hts, hKn, hinj, hEo, hE, hret, hlk, hno, htr, hRf, hRl, hRx⟩ := X
  subst hn
  unfold zo_callv at h
  split at h
  · rename_i i r0 hdr
    split at h
    · rename_i ci nn ks hi
      split at h
      · rename_i g hg
        obtain ⟨q, y, bytes, maxL, ret', rfc, rlc, hcl, hkv, hcn, hR⟩ := hC ci g hg
        cases b2 : zz_cat8 r0 with
        | false => rw [b2] at h; cases h
        | true =>
          rw [b2] at h
          have h : zz_backN K (pc + 3) L r0 (g (.ref i :: (st.take n).reverse) M) = some r := h
          have hlen : n ≤ st.length := by
            have h1 : (st.drop n).length = r0.length + 1 := by rw [hdr]; rfl
            rw [List.length_drop] at h1
            omega
          rcases hf : g (.ref i :: (st.take n).reverse) M with _ | ⟨v | x, M'⟩
          · rw [hf] at h; cases h
          · rw [hf] at h
            have hM := hcn H.size _ _ _ _ hf
            refine zz_after (a := ((Value.ref i :: (st.take n).reverse).map (zz_cv ad)).toArray) (v := v) (M' := M') (hkv p l e R s m args below meth c cc nL H locs _ _ _ 0 0 _ (ad i) (((st.take n).reverse).map (zz_cv ad)) (r0.map (zz_cv ad)) (F0 m pc ls (st.map (zz_cv ad))) ⟨hx, hb, hml, hown, hts⟩ (hEo.2.2.2.1 _ _ _ hE) hM rfl rfl (by rw [hRf, hRl]; exact hR) ⟨zz_fb hEo, va_recv hKn hP hcl (zz_wl_get hi), fun U hU hW => zz_pre hEo hE hKn hS hP U hU hW⟩ rfl (zz_len_take hlen) (zz_sz hL) (zz_map_take hdr) (lv_room (zz_cat8_map b2)) d ⟨Nat.zero_le _, Nat.zero_le _⟩) hS (fun H1 locs1 hS1 hP1 => ?_)
            cases v with
            | none => exact hK _ _ _ _ h hr H1 locs1 ls hS1 hP1 hL
            | some w => exact hK _ _ _ _ h hr H1 locs1 ls hS1 hP1 hL
          · rw [hf] at h; cases h
      · cases h
    · cases h
  · cases h
theorem zk_callx (X : zz_Fx p l R s m args meth c cc nL own D cl cA ad S Ex ret rf rl rr) {f : Nat → Option zzFn} {n index : Nat} (hC : zz_Cw l D cl cA ad S Ex own index n rf rl f)
    (d : decode cc pc = .ok (.invokevirtual index, 3)) (hn : pc + 3 = nx) : zz_Ok (zz_G p l e R s m args below meth c D cl cA ad S nL rr) pc (zo_callx S f n nx) := by
  intro K L st M r hK h hr H locs ls hS hP hL
  obtain ⟨hx, hb, hml, hown, hts, hKn, hinj, hEo, hE, hret, hlk, hno, htr, hRf, hRl, hRx⟩ := X
  subst hn
  unfold zo_callx at h
  split at h
  · rename_i i r0 hdr
    split at h
    · rename_i ci nn ks hi
      split at h
      · rename_i g hg
        obtain ⟨q, y, bytes, maxL, ret', rfc, rlc, hcl, ⟨hkv, hkx⟩, ⟨hcn, hcx⟩, hR⟩ := hC ci g hg
        cases b2 : zz_cat8 r0 with
        | false => rw [b2] at h; cases h
        | true =>
          rw [b2] at h
          have h : zz_back K (pc + 3) L r0 (g (.ref i :: (st.take n).reverse) M) = some r := h
          have hlen : n ≤ st.length := by
            have h1 : (st.drop n).length = r0.length + 1 := by rw [hdr]; rfl
            rw [List.length_drop] at h1
            omega
          rcases hf : g (.ref i :: (st.take n).reverse) M with _ | ⟨v | x, M'⟩
          · rw [hf] at h; cases h
          · rw [hf] at h
            have hM := hcn H.size _ _ _ _ hf
            refine zz_after (a := ((Value.ref i :: (st.take n).reverse).map (zz_cv ad)).toArray) (v := v) (M' := M') (hkv p l e R s m args below meth c cc nL H locs _ _ _ 0 0 _ (ad i) (((st.take n).reverse).map (zz_cv ad)) (r0.map (zz_cv ad)) (F0 m pc ls (st.map (zz_cv ad))) ⟨hx, hb, hml, hown, hts⟩ (hEo.2.2.2.1 _ _ _ hE) hM rfl rfl (by rw [hRf, hRl]; exact hR) ⟨zz_fb hEo, va_recv hKn hP hcl (zz_wl_get hi), fun U hU hW => zz_pre hEo hE hKn hS hP U hU hW⟩ rfl (zz_len_take hlen) (zz_sz hL) (zz_map_take hdr) (lv_room (zz_cat8_map b2)) d ⟨Nat.zero_le _, Nat.zero_le _⟩) hS (fun H1 locs1 hS1 hP1 => ?_)
            cases v with
            | none => exact hK _ _ _ _ h hr H1 locs1 ls hS1 hP1 hL
            | some w => exact hK _ _ _ _ h hr H1 locs1 ls hS1 hP1 hL
          · rw [hf] at h
            have h : some (Sum.inr x, M') = some r := h
            cases h
            subst hr
            have hM := hcx H.size _ _ _ _ hf
            obtain ⟨hR1, hR2⟩ := hRx x rfl
            exact zz_thrown hno hlk (hkx p l e R s m args below meth c cc nL H locs _ _ _ _ 1 6 _ (ad i) (((st.take n).reverse).map (zz_cv ad)) (r0.map (zz_cv ad)) (F0 m pc ls (st.map (zz_cv ad))) ⟨hx, hb, hml, hown, hts⟩ hM rfl rfl (by rw [hRf, hRl]; exact hR) ⟨zz_fb hEo, va_recv hKn hP hcl (zz_wl_get hi), fun U hU hW => zz_pre hEo hE hKn hS hP U hU hW⟩ rfl (zz_len_take hlen) (zz_sz hL) (zz_map_take hdr) (lv_room (zz_cat8_map b2)) d ⟨by omega, by omega⟩) hS
      · cases h
    · cases h
  · cases h
/-! returns -/
theorem zz_Qn_end {v : Option Value} {M : zzMd} {H : Heap} {locs : List Loc} (hS : va_S (zz_A ad S s.heap.size) s.heap H locs) (hP : va_P D cl (zz_wl ad cA S M) H) (t : State) (ht : t.heap = H) : zz_Qn D cl cA ad S s.heap.size v M args s (.returned (v.map (zz_cv ad))) t := ⟨rfl, by rw [ht]; exact hP, by rw [ht]; exact hS.1, fun q h1 h2 => by rw [ht]; exact hS.2.1 q h1 h2⟩
theorem zk_iret (X : zz_Fx p l R s m args meth c cc nL own D cl cA ad S Ex ret rf rl rr) {bl : Bool} (hrt : ret = some (bif bl then .boolean else .int)) (d : decode cc pc = .ok (.ireturn, 1)) : zz_Ok (zz_G p l e R s m args below meth c D cl cA ad S nL rr) pc (zo_iret bl) := by
  intro K L st M r hK h hr H locs ls hS hP hL
  obtain ⟨hx, hb, hml, hown, hts, hKn, hinj, hEo, hE, hret, hlk, -⟩ := X
  unfold zo_iret at h
  split at h
  · rename_i x
    cases hbb : ((!bl) || zz_b01 x) with
    | false => rw [hbb] at h; cases h
    | true =>
      rw [hbb] at h
      have h : some (Sum.inl (some (Value.int x)), M) = some r := h
      cases h
      subst hr
      cases bl with
      | true => exact W.zret (ty := .boolean) (v := x) hx hb (hret.trans hrt) (zz_narrow_b hbb) (fun t ht _ => zz_Qn_end (v := some (.int x)) hS hP t ht) hS.2.2 d hlk
      | false => exact W.zret (ty := .int) (v := x) hx hb (hret.trans hrt) rfl (fun t ht _ => zz_Qn_end (v := some (.int x)) hS hP t ht) hS.2.2 d hlk
  · cases h
theorem zk_lret (X : zz_Fx p l R s m args meth c cc nL own D cl cA ad S Ex ret rf rl rr) (hrt : ret = some .long) (d : decode cc pc = .ok (.lreturn, 1)) : zz_Ok (zz_G p l e R s m args below meth c D cl cA ad S nL rr) pc zo_lret := by
  intro K L st M r hK h hr H locs ls hS hP hL
  obtain ⟨hx, hb, hml, hown, hts, hKn, hinj, hEo, hE, hret, hlk, -⟩ := X
  unfold zo_lret at h
  split at h
  · rename_i x
    cases h
    subst hr
    exact W.lret (v := x) hx hb (hret.trans hrt) (fun t ht _ => zz_Qn_end (v := some (.long x)) hS hP t ht) hS.2.2 d hlk
  · cases h
theorem zk_aret (X : zz_Fx p l R s m args meth c cc nL own D cl cA ad S Ex ret rf rl rr) {rt : FieldType} (hrt : ret = some rt) (hk : (∃ n, rt = .object n) ∨ ∃ t, rt = .array t) (d : decode cc pc = .ok (.areturn, 1)) : zz_Ok (zz_G p l e R s m args below meth c D cl cA ad S nL rr) pc zo_aret := by
  intro K L st M r hK h hr H locs ls hS hP hL
  obtain ⟨hx, hb, hml, hown, hts, hKn, hinj, hEo, hE, hret, hlk, -⟩ := X
  unfold zo_aret at h
  split at h
  · rename_i x
    cases h
    subst hr
    exact W.aret (v := .ref (ad x)) hx hb (hret.trans hrt) hk (Or.inr ⟨_, rfl⟩) (fun t ht _ => zz_Qn_end (v := some (.ref x)) hS hP t ht) hS.2.2 d hlk
  · cases h
    subst hr
    exact W.aret (v := .null) hx hb (hret.trans hrt) hk (Or.inl rfl) (fun t ht _ => zz_Qn_end (v := some .null) hS hP t ht) hS.2.2 d hlk
  · cases h
theorem zk_ret (X : zz_Fx p l R s m args meth c cc nL own D cl cA ad S Ex ret rf rl rr) (hrt : ret = none) (d : decode cc pc = .ok (.return_, 1)) : zz_Ok (zz_G p l e R s m args below meth c D cl cA ad S nL rr) pc zo_ret := by
  intro K L st M r hK h hr H locs ls hS hP hL
  obtain ⟨hx, hb, hml, hown, hts, hKn, hinj, hEo, hE, hret, hlk, -⟩ := X
  unfold zo_ret at h
  split at h
  · cases h
    subst hr
    exact W.vret hx hb (hret.trans hrt) (fun t ht _ => zz_Qn_end (v := none) hS hP t ht) hS.2.2 d hlk
  · cases h
end

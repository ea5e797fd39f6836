section
/-! the empty log, Store() -/
def logI : Nat → Int32 := fun b => if b = 25 then 4 else if b < 32 then -1 else 0
theorem logI_u : upd (fil 32) (25 : Int32).toNatClampNeg 4 = logI := rfl
theorem zs_last {α : Type} {ws : List α} {x : α} : (ws ++ [x])[ws.length]? = some x := by
  rw [List.getElem?_append_right (Nat.le_refl _), Nat.sub_self]; rfl
theorem zs_lset {α : Type} {ws : List α} {x y : α} : (ws ++ [x]).set ws.length y = ws ++ [y] := by
  rw [List.set_append_right _ _ (Nat.le_refl _), Nat.sub_self]; rfl
section
variable {l : Launch} {D : va_G} {cA : Nat → ClassId} {Ex : (Nat → Prop) → State → Heap → Prop} {ws : va_W}
theorem zi_Log (hEo : zz_ExOk Ex) : zi_C l D cA Ex yX9_emptyLog cX9_emptyLog 2 (some (.array .int)) 0 0 1 12832 [] ws (fun r u => ∃ q, r = some (.ref q) ∧ u = ws ++ [(q, .inl (cA 0, 12832, .inl logI))]) := by
  refine zi_meth (plainFor_of_name (by decide)) hEo (Nat.le_of_ble_eq_true rfl) (fun p e R s m args below meth c ls X hP hD hl => ?_)
  obtain ⟨hx, hb, hml, hown, hts, hK, hX, hEo, hE, hr, hlk, hnm, hRf, hRl, hRc, hRs⟩ := X
  have hS : va_S (va_A ws s.heap.size) s.heap s.heap [] := va_S.rf
  have hA : ∀ q, s.heap.size ≤ q → va_A ws s.heap.size q := fun q h => Or.inr h
  have hl : lv_has ls 2 [] := hl
  refine lv_sipush (v := 12832) hx hb dX9_emptyLog_0 (by decide) ?_
  refine zi_newI (N := 12832) hx hb hts hK hP hD hS hA (by decide) (by decide) (by decide) (by rw [hRc]; decide) (by rw [hRs]; decide) dX9_emptyLog_3 (fun q H hP hD hS => ?_)
  refine lv_astore_n (lv' := [(0, .ref q)]) hx hb dX9_emptyLog_5 rfl hl (by decide) rfl (fun ls hl => ?_)
  refine lv_iconst (v := 0) hx hb dX9_emptyLog_6 (by decide) ?_
  refine lv_istore_n (lv' := [(1, .int 0), (0, .ref q)]) hx hb dX9_emptyLog_7 rfl hl (by decide) rfl (fun ls hl => ?_)
  have loop : ∀ (k i : Nat), i + k = 32 → ∀ (H : Heap) (locs : List Loc) (ls : Array Slot), va_P D zzCl (ws ++ [(q, .inl (cA 0, 12832, .inl (fil i)))]) H → va_D (va_A ws s.heap.size) (ws ++ [(q, .inl (cA 0, 12832, .inl (fil i)))]) → va_S (va_A ws s.heap.size) s.heap H locs → lv_has ls 2 [(1, .int (zn i)), (0, .ref q)] →
      W p l e R s m args below meth c H locs 1 12832 (MQ below (zi_Q D ws s.heap.size (fun r u => ∃ q, r = some (.ref q) ∧ u = ws ++ [(q, .inl (cA 0, 12832, .inl logI))])) args s 1 12832 (va_A ws s.heap.size)) (F0 m 8 ls []) := by
    intro k
    induction k with
    | zero =>
      intro i hi H locs ls hP hD hS hl
      have hi6 : i = 32 := by omega
      subst hi6
      refine lv_iload_n hx hb dX9_emptyLog_8 rfl (lv_at hl 0 rfl) ?_
      refine lv_bipush (v := 32) hx hb dX9_emptyLog_9 (by decide) ?_
      refine lv_icmp_ge (tgt := 24) hx hb dX9_emptyLog_11 (by decide) (fun _ => ?_) (fun h => absurd (by decide) h)
      refine lv_aload_n hx hb dX9_emptyLog_24 rfl (lv_at hl 1 rfl) ?_
      refine lv_bipush (v := 25) hx hb dX9_emptyLog_25 (by decide) ?_
      refine lv_iconst (v := 4) hx hb dX9_emptyLog_27 (by decide) ?_
      refine va_iast hx hb hK hP hD hS ws.length 0 zs_last rfl (zz_inb_in (by decide)) dX9_emptyLog_28 (fun H locs hP hD hS => ?_)
      rw [zs_lset, logI_u] at hP hD
      refine lv_aload_n hx hb dX9_emptyLog_29 rfl (lv_at hl 1 rfl) ?_
      exact W.aret (v := .ref q) hx hb hr (Or.inr ⟨_, rfl⟩) (Or.inr ⟨_, rfl⟩) (fun t ht _ => ⟨⟨some (.ref q), _, rfl, ⟨q, rfl, rfl⟩, by rw [ht]; exact hP, hD⟩, ⟨by rw [ht]; exact hS.1, fun q h1 h2 => by rw [ht]; exact hS.2.1 q h1 h2⟩⟩) hS.2.2 dX9_emptyLog_30 hlk
    | succ k ih =>
      intro i hi H locs ls hP hD hS hl
      refine lv_iload_n hx hb dX9_emptyLog_8 rfl (lv_at hl 0 rfl) ?_
      refine lv_bipush (v := 32) hx hb dX9_emptyLog_9 (by decide) ?_
      refine lv_icmp_ge (tgt := 24) hx hb dX9_emptyLog_11 (by decide) (fun h => absurd h (zk_lt (n := 32) (i := i) (by omega) (Nat.le_refl _) (by decide)).mp) (fun _ => ?_)
      refine lv_aload_n hx hb dX9_emptyLog_14 rfl (lv_at hl 1 rfl) ?_
      refine lv_iload_n hx hb dX9_emptyLog_15 rfl (lv_at hl 0 rfl) ?_
      refine lv_iconst (v := -1) hx hb dX9_emptyLog_16 (by decide) ?_
      refine va_iast hx hb hK hP hD hS ws.length 0 zs_last rfl (zz_inb_in (zn_inT (by omega) (by decide))) dX9_emptyLog_17 (fun H locs hP hD hS => ?_)
      rw [zs_lset, fil_s (by omega)] at hP hD
      refine lv_iinc (v := zn (i + 1)) (lv' := [(1, .int (zn (i + 1))), (0, .ref q)]) hx hb dX9_emptyLog_18 hl (k := 0) rfl (zn_1 i) (by decide) rfl (fun ls hl => ?_)
      refine lv_goto (tgt := 8) hx hb dX9_emptyLog_21 (by decide) ?_
      exact ih (i + 1) (by omega) H locs ls hP hD hS hl
  exact loop 32 0 rfl H _ ls hP hD hS hl
theorem zi_df0 {fs : List Value} (h : fs = [.null, .null, .null, .int 0, .int 0, .int 0]) : ∀ j, j < 6 → defaultValue (zzY0 j) = vp_V fs j := by
  subst h
  intro j hj
  rcases (show j = 0 ∨ j = 1 ∨ j = 2 ∨ j = 3 ∨ j = 4 ∨ j = 5 by omega) with rfl | rfl | rfl | rfl | rfl | rfl <;> rfl
theorem zi_df1 {fs : List Value} (h : fs = [.null, .null, .int 0, .int 0, .null, .int 0, .null, .null, .null, .null, .null, .int 0]) : ∀ j, j < 12 → defaultValue (zzY1 j) = vp_V fs j := by
  subst h
  intro j hj
  rcases (show j = 0 ∨ j = 1 ∨ j = 2 ∨ j = 3 ∨ j = 4 ∨ j = 5 ∨ j = 6 ∨ j = 7 ∨ j = 8 ∨ j = 9 ∨ j = 10 ∨ j = 11 by omega) with rfl | rfl | rfl | rfl | rfl | rfl | rfl | rfl | rfl | rfl | rfl | rfl <;> rfl
theorem zi_df2 {fs : List Value} (h : fs = [.null, .null, .int 0, .int 0, .null, .int 0, .null, .null, .null, .null, .null, .int 0]) : ∀ j, j < 12 → defaultValue (zzY2 j) = vp_V fs j := by
  subst h
  intro j hj
  rcases (show j = 0 ∨ j = 1 ∨ j = 2 ∨ j = 3 ∨ j = 4 ∨ j = 5 ∨ j = 6 ∨ j = 7 ∨ j = 8 ∨ j = 9 ∨ j = 10 ∨ j = 11 by omega) with rfl | rfl | rfl | rfl | rfl | rfl | rfl | rfl | rfl | rfl | rfl | rfl <;> rfl
theorem zi_df3 {fs : List Value} (h : fs = [.null, .null, .int 0, .int 0, .null, .int 0, .null, .null, .null, .null, .null, .int 0]) : ∀ j, j < 12 → defaultValue (zzY3 j) = vp_V fs j := by
  subst h
  intro j hj
  rcases (show j = 0 ∨ j = 1 ∨ j = 2 ∨ j = 3 ∨ j = 4 ∨ j = 5 ∨ j = 6 ∨ j = 7 ∨ j = 8 ∨ j = 9 ∨ j = 10 ∨ j = 11 by omega) with rfl | rfl | rfl | rfl | rfl | rfl | rfl | rfl | rfl | rfl | rfl | rfl <;> rfl
theorem zi_df4 {fs : List Value} (h : fs = [.null, .null, .int 0, .int 0, .null, .int 0, .null, .null, .null, .null, .null, .int 0]) : ∀ j, j < 12 → defaultValue (zzY4 j) = vp_V fs j := by
  subst h
  intro j hj
  rcases (show j = 0 ∨ j = 1 ∨ j = 2 ∨ j = 3 ∨ j = 4 ∨ j = 5 ∨ j = 6 ∨ j = 7 ∨ j = 8 ∨ j = 9 ∨ j = 10 ∨ j = 11 by omega) with rfl | rfl | rfl | rfl | rfl | rfl | rfl | rfl | rfl | rfl | rfl | rfl <;> rfl
theorem zi_df5 {fs : List Value} (h : fs = [.null, .null, .int 0, .int 0, .null, .int 0, .null, .null, .null, .null, .null, .int 0]) : ∀ j, j < 12 → defaultValue (zzY5 j) = vp_V fs j := by
  subst h
  intro j hj
  rcases (show j = 0 ∨ j = 1 ∨ j = 2 ∨ j = 3 ∨ j = 4 ∨ j = 5 ∨ j = 6 ∨ j = 7 ∨ j = 8 ∨ j = 9 ∨ j = 10 ∨ j = 11 by omega) with rfl | rfl | rfl | rfl | rfl | rfl | rfl | rfl | rfl | rfl | rfl | rfl <;> rfl
theorem zi_df6 {fs : List Value} (h : fs = [.null, .null, .int 0, .int 0, .null, .int 0, .null, .null, .null, .null, .null, .int 0, .null]) : ∀ j, j < 13 → defaultValue (zzY6 j) = vp_V fs j := by
  subst h
  intro j hj
  rcases (show j = 0 ∨ j = 1 ∨ j = 2 ∨ j = 3 ∨ j = 4 ∨ j = 5 ∨ j = 6 ∨ j = 7 ∨ j = 8 ∨ j = 9 ∨ j = 10 ∨ j = 11 ∨ j = 12 by omega) with rfl | rfl | rfl | rfl | rfl | rfl | rfl | rfl | rfl | rfl | rfl | rfl | rfl <;> rfl
theorem zi_df7 {fs : List Value} (h : fs = [.null, .null, .int 0, .int 0, .null, .int 0, .null, .null, .null, .null, .null, .int 0, .null, .null, .null]) : ∀ j, j < 15 → defaultValue (zzY7 j) = vp_V fs j := by
  subst h
  intro j hj
  rcases (show j = 0 ∨ j = 1 ∨ j = 2 ∨ j = 3 ∨ j = 4 ∨ j = 5 ∨ j = 6 ∨ j = 7 ∨ j = 8 ∨ j = 9 ∨ j = 10 ∨ j = 11 ∨ j = 12 ∨ j = 13 ∨ j = 14 by omega) with rfl | rfl | rfl | rfl | rfl | rfl | rfl | rfl | rfl | rfl | rfl | rfl | rfl | rfl | rfl <;> rfl
theorem zi_df8 {fs : List Value} (h : fs = [.null, .null, .int 0, .int 0, .null, .null, .null, .int 0, .int 0]) : ∀ j, j < 9 → defaultValue (zzY8 j) = vp_V fs j := by
  subst h
  intro j hj
  rcases (show j = 0 ∨ j = 1 ∨ j = 2 ∨ j = 3 ∨ j = 4 ∨ j = 5 ∨ j = 6 ∨ j = 7 ∨ j = 8 by omega) with rfl | rfl | rfl | rfl | rfl | rfl | rfl | rfl | rfl <;> rfl
theorem zi_df9 {fs : List Value} (h : fs = [.null, .null, .null, .null, .int 0]) : ∀ j, j < 5 → defaultValue (zzY9 j) = vp_V fs j := by
  subst h
  intro j hj
  rcases (show j = 0 ∨ j = 1 ∨ j = 2 ∨ j = 3 ∨ j = 4 by omega) with rfl | rfl | rfl | rfl | rfl <;> rfl
theorem zi_Sto {i0 hs : Nat} {fs : List Value} (hEo : zz_ExOk Ex) (he : ws[i0]? = some (hs, .inr (8, fs))) (hfs : 9 ≤ fs.length) : zi_C l D cA Ex yX9_init cX9_init 1 none 2 33 8 13073 [.ref hs] ws
    (fun r u => r = none ∧ ∃ ql q1 qa a1 a2 a3 q2 q3, u = ws.set i0 (hs, .inr (8, (((((fs.set 0 (.ref ql)).set 1 (.ref q1)).set 4 (.ref qa)).set 5 (.ref q2)).set 6 (.ref q3)))) ++ [(ql, .inl (cA 0, 12832, .inl logI)), (q1, .inl (cA 0, 60, .inl fun _ => 0)), (qa, .inr (0, [.ref a1, .ref a2, .ref a3, .int 0, .int 0, .int 30])), (a1, .inl (cA 0, 48, .inl fun _ => 0)), (a2, .inl (cA 0, 24, .inl fun _ => 0)), (a3, .inl (cA 0, 11, .inl fun _ => 0)), (q2, .inl (cA 0, 60, .inl fun _ => 0)), (q3, .inl (cA 0, 32, .inl fun _ => 0))]) := by
  refine zi_meth (plainFor_of_name (by decide)) hEo (Nat.le_of_ble_eq_true rfl) (fun p e R s m args below meth c ls X hP hD hl => ?_)
  obtain ⟨hx, hb, hml, hown, hts, hK, hX, hEo, hE, hr, hlk, hnm, hRf, hRl, hRc, hRs⟩ := X
  have hS : va_S (va_A ws s.heap.size) s.heap s.heap [] := va_S.rf
  have hA : ∀ q, s.heap.size ≤ q → va_A ws s.heap.size q := fun q h => Or.inr h
  have hin : meth.name = "<init>" := hnm
  have hl : lv_has ls 1 [(0, .ref hs)] := hl
  have hi0 : i0 < ws.length := (List.getElem?_eq_some_iff.mp he).1
  refine lv_aload_n hx hb dX9_init_0 rfl (lv_at hl 0 rfl) ?_
  refine zi_callS (n := 0) (As := []) (rest := [.ref hs]) (zz_ks (own := RX9) (index := 3) (zz_inl (by decide +kernel)) ⟨rfl, by decide, by decide, by decide +kernel⟩) (zi_Log hEo) hx hb hml hown hts hK hX hEo hE rfl (by rw [hRf, hRl]; decide) (by rw [hRc, hRs]; decide) (by rw [hRc, hRs]; decide) ⟨rfl, rfl⟩ hl.1 (Nat.le_of_ble_eq_true rfl) hP hD hS hA dX9_init_1 (fun _ _ H locs hw hP hD hS => ?_)
  obtain ⟨ql, rfl, rfl⟩ := hw
  refine zi_callI (n := 1) (As := [.ref ql]) (rest := []) (zi_View (i0 := i0) (ci := 8) (fs := fs) hEo (by decide) ((List.getElem?_append_left hi0).trans he) (by omega)) hx hb hml hown hts hK hX hEo hE (zz_in (by decide +kernel)) (zz_in (by decide +kernel)) (zz_in (by decide +kernel)) (zz_in (by decide +kernel)) rfl (by decide +kernel) rfl (by rw [hRf, hRl]; decide) (by rw [hRc, hRs]; decide) hl.1 (Nat.le_of_ble_eq_true rfl) hP hD hS hA dX9_init_4 (fun _ _ H locs hw hP hD hS => ?_)
  obtain ⟨rfl, q1, rfl⟩ := hw
  rw [List.set_append_left _ _ hi0, List.append_assoc] at hP hD
  refine lv_aload_n hx hb dX9_init_7 rfl (lv_at hl 0 rfl) ?_
  refine va_new (ci := 0) (fs := [.null, .null, .null, .int 0, .int 0, .int 0]) (C := RX_0) (T := zzT0) (N := 6) hx hb hts zzI0 zzY0 zzY0_ok hown (hts (.classLink RX9 15 RX_0) (zz_in (by decide +kernel))) (hts (.instantiable RX_0 6) (zz_in (by decide +kernel))) (hts (.initialized RX_0) (zz_in (by decide +kernel))) hK hP hD hS hA rfl (zi_df0 rfl) (by rw [hRc]; decide) (by rw [hRs]; decide) dX9_init_8 (fun qa H hP hD hS => ?_)
  rw [List.append_assoc] at hP hD
  refine lv_dup hx hb dX9_init_11 rfl ?_
  refine zi_callI (n := 0) (As := []) (rest := [.ref qa, .ref hs]) (zi_Adm (i0 := ws.length + 2) (h0 := qa) (fs := [.null, .null, .null, .int 0, .int 0, .int 0]) hEo (zs_app rfl) (by decide)) hx hb hml hown hts hK hX hEo hE (zz_in (by decide +kernel)) (zz_in (by decide +kernel)) (zz_in (by decide +kernel)) (zz_in (by decide +kernel)) rfl (by decide +kernel) rfl (by rw [hRf, hRl]; decide) (by rw [hRc, hRs]; decide) hl.1 (Nat.le_of_ble_eq_true rfl) hP hD hS hA dX9_init_12 (fun _ _ H locs hw hP hD hS => ?_)
  obtain ⟨rfl, a1, a2, a3, rfl⟩ := hw
  rw [zs_setr, List.append_assoc] at hP hD
  refine zi_putF ff_X9_20 fq_T4 hx hb hown hts hK hin hP hD hS i0 (zs_self hi0) (zi_kf (cs := [8]) rfl 4) (v := .ref qa) rfl rfl (by simp only [List.length_set]; omega) dX9_init_15 (fun H locs hP hD hS => ?_)
  rw [zs_set hi0] at hP hD
  refine lv_aload_n hx hb dX9_init_18 rfl (lv_at hl 0 rfl) ?_
  refine lv_bipush (v := 60) hx hb dX9_init_19 (by decide) ?_
  refine zi_newI (N := 60) hx hb hts hK hP hD hS hA (by decide) (by decide) (by decide) (by rw [hRc]; decide) (by rw [hRs]; decide) dX9_init_21 (fun q2 H hP hD hS => ?_)
  rw [List.append_assoc] at hP hD
  refine zi_putF ff_X9_24 fq_T5 hx hb hown hts hK hin hP hD hS i0 (zs_self hi0) (zi_kf (cs := [8]) rfl 5) (v := .ref q2) rfl rfl (by simp only [List.length_set]; omega) dX9_init_23 (fun H locs hP hD hS => ?_)
  rw [zs_set hi0] at hP hD
  refine lv_aload_n hx hb dX9_init_26 rfl (lv_at hl 0 rfl) ?_
  refine lv_bipush (v := 32) hx hb dX9_init_27 (by decide) ?_
  refine zi_newI (N := 32) hx hb hts hK hP hD hS hA (by decide) (by decide) (by decide) (by rw [hRc]; decide) (by rw [hRs]; decide) dX9_init_29 (fun q3 H hP hD hS => ?_)
  rw [List.append_assoc] at hP hD
  refine zi_putF ff_X9_28 fq_T6 hx hb hown hts hK hin hP hD hS i0 (zs_self hi0) (zi_kf (cs := [8]) rfl 6) (v := .ref q3) rfl rfl (by simp only [List.length_set]; omega) dX9_init_31 (fun H locs hP hD hS => ?_)
  rw [zs_set hi0] at hP hD
  exact zi_vret hx hb hr hlk ⟨rfl, ql, q1, qa, a1, a2, a3, q2, q3, rfl⟩ hP hD hS dX9_init_34
end
end

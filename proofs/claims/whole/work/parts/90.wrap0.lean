section
variable {l : Launch} {D : va_G} {cA : Nat → ClassId} {ad : Nat → Nat} {Ex : (Nat → Prop) → State → Heap → Prop}
theorem lw_make (Wd : zzWC l D cA ad Ex) (Xo : zl_XOk Ex) {M M2 : zzMd} {p0 p1 k : Int32} (hr : zl_R (cdl [1, 2, 0]) false (fX11_make [.ref 0, .int p0, .int p1] M) k M2) : zl_C l D cA ad Ex yL_make cL_make 5 [(0, 10, 13, 13), (0, 10, 17, 15)] 7 105 [.ref 0, .int p0, .int p1, .ref 73] M k M2 := by
  refine zl_meth (by decide) (Nat.le_of_ble_eq_true rfl) (fun p e R s m args below meth c ls X hP hS hl => ?_)
  have hl : lv_has ls 5 [(0, .ref (ad 0)), (1, .int p0), (2, .int p1), (3, .ref (ad 73))] := hl
  have hx := X.1
  have hb := X.2.1
  refine lv_aload_n hx hb dL_make_0 rfl (lv_at hl 3 rfl) ?_
  refine lv_iconst (v := 0) hx hb dL_make_1 (by decide) ?_
  refine lv_aload_n hx hb dL_make_2 rfl (lv_at hl 0 rfl) ?_
  refine lv_iload_n hx hb dL_make_3 rfl (lv_at hl 1 rfl) ?_
  refine lv_iload_n hx hb dL_make_4 rfl (lv_at hl 2 rfl) ?_
  refine zl_call (n := 2) (As := [.int p0, .int p1]) (rest := [.int 0, .ref (ad 73)]) X Wd.2.2.1 (zz_kv (zz_inl (by decide +kernel)) ⟨rfl, by decide, by decide, by decide +kernel⟩) (mm_X11_make Wd) (by decide) rfl hl.1 (Nat.le_of_ble_eq_true rfl) hS hP dL_make_5 hr (fun v M1 hk hM H1 locs1 hS hP => ?_) (fun x hk hc H1 locs1 q ce hS hP h1 h2 h3 => ?_)
  · subst hM
    subst hk
    refine lv_i2l (v := v.toInt64) hx hb dL_make_8 rfl ?_
    refine zl_last X Wd.2.1 hS hP dL_make_9 (fun H2 locs2 hS hP => ?_)
    refine lv_goto (tgt := 21) hx hb dL_make_10 (by decide) ?_
    refine lv_iconst (v := 0) hx hb dL_make_21 (by decide) ?_
    exact zl_end X hS hP dL_make_22 (Nat.zero_le _) (Nat.zero_le _)
  · rcases (show x = 0 ∨ x = 1 ∨ x = 2 ∨ 3 ≤ x by omega) with rfl | rfl | rfl | h4
    · have hk : k = 1 := hk
      subst hk
      refine zl_catch X Xo (x := 0) (by decide) [] ⟨0, 10, 13, 13⟩ [⟨0, 10, 17, 15⟩] rfl rfl rfl (fun _ h => nomatch h) h1 h2 h3 ?_
      refine lv_astore hx hb dL_make_13 hl (by decide) rfl (fun ls hl => ?_)
      refine lv_iconst (v := 1) hx hb dL_make_15 (by decide) ?_
      exact zl_end X hS hP dL_make_16 (Nat.le_refl _) (Nat.le_refl _)
    · have hk : k = 2 := hk
      subst hk
      refine zl_catch X Xo (x := 1) (by decide) [⟨0, 10, 13, 13⟩] ⟨0, 10, 17, 15⟩ [] rfl rfl rfl (List.forall_mem_cons.mpr ⟨⟨0, by decide, by decide, rfl⟩, (fun _ h => nomatch h)⟩) h1 h2 h3 ?_
      refine lv_astore hx hb dL_make_17 hl (by decide) rfl (fun ls hl => ?_)
      refine lv_iconst (v := 2) hx hb dL_make_19 (by decide) ?_
      exact zl_end X hS hP dL_make_20 (Nat.le_refl _) (Nat.le_refl _)
    · exact absurd rfl hc
    · exact absurd (cdl_3 (by decide) h4) hc
theorem lw_apply (Wd : zzWC l D cA ad Ex) (Xo : zl_XOk Ex) {M M2 : zzMd} {p0 p1 p2 p3 p4 p5 k : Int32} (hr : zl_R (cdl [2, 3, 1]) false (fX11_apply [.ref 0, .int p0, .int p1, .int p2, .int p3, .int p4, .int p5] M) k M2) : zl_C l D cA ad Ex yL_apply cL_apply 9 [(0, 18, 21, 21), (0, 18, 25, 13), (0, 18, 29, 15)] 8 129 [.ref 0, .int p0, .int p1, .int p2, .int p3, .int p4, .int p5, .ref 73] M k M2 := by
  refine zl_meth (by decide) (Nat.le_of_ble_eq_true rfl) (fun p e R s m args below meth c ls X hP hS hl => ?_)
  have hl : lv_has ls 9 [(0, .ref (ad 0)), (1, .int p0), (2, .int p1), (3, .int p2), (4, .int p3), (5, .int p4), (6, .int p5), (7, .ref (ad 73))] := hl
  have hx := X.1
  have hb := X.2.1
  refine lv_aload hx hb dL_apply_0 (lv_at hl 7 rfl) ?_
  refine lv_iconst (v := 0) hx hb dL_apply_2 (by decide) ?_
  refine lv_aload_n hx hb dL_apply_3 rfl (lv_at hl 0 rfl) ?_
  refine lv_iload_n hx hb dL_apply_4 rfl (lv_at hl 1 rfl) ?_
  refine lv_iload_n hx hb dL_apply_5 rfl (lv_at hl 2 rfl) ?_
  refine lv_iload_n hx hb dL_apply_6 rfl (lv_at hl 3 rfl) ?_
  refine lv_iload hx hb dL_apply_7 (lv_at hl 4 rfl) ?_
  refine lv_iload hx hb dL_apply_9 (lv_at hl 5 rfl) ?_
  refine lv_iload hx hb dL_apply_11 (lv_at hl 6 rfl) ?_
  refine zl_call (n := 6) (As := [.int p0, .int p1, .int p2, .int p3, .int p4, .int p5]) (rest := [.int 0, .ref (ad 73)]) X Wd.2.2.1 (zz_kv (zz_inl (by decide +kernel)) ⟨rfl, by decide, by decide, by decide +kernel⟩) (mm_X11_apply Wd) (by decide) rfl hl.1 (Nat.le_of_ble_eq_true rfl) hS hP dL_apply_13 hr (fun v M1 hk hM H1 locs1 hS hP => ?_) (fun x hk hc H1 locs1 q ce hS hP h1 h2 h3 => ?_)
  · subst hM
    subst hk
    refine lv_i2l (v := v.toInt64) hx hb dL_apply_16 rfl ?_
    refine zl_last X Wd.2.1 hS hP dL_apply_17 (fun H2 locs2 hS hP => ?_)
    refine lv_goto (tgt := 33) hx hb dL_apply_18 (by decide) ?_
    refine lv_iconst (v := 0) hx hb dL_apply_33 (by decide) ?_
    exact zl_end X hS hP dL_apply_34 (Nat.zero_le _) (Nat.zero_le _)
  · rcases (show x = 0 ∨ x = 1 ∨ x = 2 ∨ 3 ≤ x by omega) with rfl | rfl | rfl | h4
    · have hk : k = 2 := hk
      subst hk
      refine zl_catch X Xo (x := 0) (by decide) [⟨0, 18, 21, 21⟩] ⟨0, 18, 25, 13⟩ [⟨0, 18, 29, 15⟩] rfl rfl rfl (List.forall_mem_cons.mpr ⟨⟨2, by decide, by decide, rfl⟩, (fun _ h => nomatch h)⟩) h1 h2 h3 ?_
      refine lv_astore hx hb dL_apply_25 hl (by decide) rfl (fun ls hl => ?_)
      refine lv_iconst (v := 2) hx hb dL_apply_27 (by decide) ?_
      exact zl_end X hS hP dL_apply_28 (Nat.le_refl _) (Nat.le_refl _)
    · have hk : k = 3 := hk
      subst hk
      refine zl_catch X Xo (x := 1) (by decide) [⟨0, 18, 21, 21⟩, ⟨0, 18, 25, 13⟩] ⟨0, 18, 29, 15⟩ [] rfl rfl rfl (List.forall_mem_cons.mpr ⟨⟨2, by decide, by decide, rfl⟩, (List.forall_mem_cons.mpr ⟨⟨0, by decide, by decide, rfl⟩, (fun _ h => nomatch h)⟩)⟩) h1 h2 h3 ?_
      refine lv_astore hx hb dL_apply_29 hl (by decide) rfl (fun ls hl => ?_)
      refine lv_iconst (v := 3) hx hb dL_apply_31 (by decide) ?_
      exact zl_end X hS hP dL_apply_32 (Nat.le_refl _) (Nat.le_refl _)
    · have hk : k = 1 := hk
      subst hk
      refine zl_catch X Xo (x := 2) (by decide) [] ⟨0, 18, 21, 21⟩ [⟨0, 18, 25, 13⟩, ⟨0, 18, 29, 15⟩] rfl rfl rfl (fun _ h => nomatch h) h1 h2 h3 ?_
      refine lv_astore hx hb dL_apply_21 hl (by decide) rfl (fun ls hl => ?_)
      refine lv_iconst (v := 1) hx hb dL_apply_23 (by decide) ?_
      exact zl_end X hS hP dL_apply_24 (Nat.le_refl _) (Nat.le_refl _)
    · exact absurd (cdl_3 (by decide) h4) hc
theorem lw_applyBudget (Wd : zzWC l D cA ad Ex) (Xo : zl_XOk Ex) {M M2 : zzMd} {p0 p1 p2 p3 k : Int32} (hr : zl_R (cdl [2, 3, 1]) false (fX11_applyBudget [.ref 0, .int p0, .int p1, .int p2, .int p3] M) k M2) : zl_C l D cA ad Ex yL_applyBudget cL_applyBudget 7 [(0, 14, 17, 21), (0, 14, 21, 13), (0, 14, 25, 15)] 8 130 [.ref 0, .int p0, .int p1, .int p2, .int p3, .ref 73] M k M2 := by
  refine zl_meth (by decide) (Nat.le_of_ble_eq_true rfl) (fun p e R s m args below meth c ls X hP hS hl => ?_)
  have hl : lv_has ls 7 [(0, .ref (ad 0)), (1, .int p0), (2, .int p1), (3, .int p2), (4, .int p3), (5, .ref (ad 73))] := hl
  have hx := X.1
  have hb := X.2.1
  refine lv_aload hx hb dL_applyBudget_0 (lv_at hl 5 rfl) ?_
  refine lv_iconst (v := 0) hx hb dL_applyBudget_2 (by decide) ?_
  refine lv_aload_n hx hb dL_applyBudget_3 rfl (lv_at hl 0 rfl) ?_
  refine lv_iload_n hx hb dL_applyBudget_4 rfl (lv_at hl 1 rfl) ?_
  refine lv_iload_n hx hb dL_applyBudget_5 rfl (lv_at hl 2 rfl) ?_
  refine lv_iload_n hx hb dL_applyBudget_6 rfl (lv_at hl 3 rfl) ?_
  refine lv_iload hx hb dL_applyBudget_7 (lv_at hl 4 rfl) ?_
  refine zl_call (n := 4) (As := [.int p0, .int p1, .int p2, .int p3]) (rest := [.int 0, .ref (ad 73)]) X Wd.2.2.1 (zz_kv (zz_inl (by decide +kernel)) ⟨rfl, by decide, by decide, by decide +kernel⟩) (mm_X11_applyBudget Wd) (by decide) rfl hl.1 (Nat.le_of_ble_eq_true rfl) hS hP dL_applyBudget_9 hr (fun v M1 hk hM H1 locs1 hS hP => ?_) (fun x hk hc H1 locs1 q ce hS hP h1 h2 h3 => ?_)
  · subst hM
    subst hk
    refine lv_i2l (v := v.toInt64) hx hb dL_applyBudget_12 rfl ?_
    refine zl_last X Wd.2.1 hS hP dL_applyBudget_13 (fun H2 locs2 hS hP => ?_)
    refine lv_goto (tgt := 29) hx hb dL_applyBudget_14 (by decide) ?_
    refine lv_iconst (v := 0) hx hb dL_applyBudget_29 (by decide) ?_
    exact zl_end X hS hP dL_applyBudget_30 (Nat.zero_le _) (Nat.zero_le _)
  · rcases (show x = 0 ∨ x = 1 ∨ x = 2 ∨ 3 ≤ x by omega) with rfl | rfl | rfl | h4
    · have hk : k = 2 := hk
      subst hk
      refine zl_catch X Xo (x := 0) (by decide) [⟨0, 14, 17, 21⟩] ⟨0, 14, 21, 13⟩ [⟨0, 14, 25, 15⟩] rfl rfl rfl (List.forall_mem_cons.mpr ⟨⟨2, by decide, by decide, rfl⟩, (fun _ h => nomatch h)⟩) h1 h2 h3 ?_
      refine lv_astore hx hb dL_applyBudget_21 hl (by decide) rfl (fun ls hl => ?_)
      refine lv_iconst (v := 2) hx hb dL_applyBudget_23 (by decide) ?_
      exact zl_end X hS hP dL_applyBudget_24 (Nat.le_refl _) (Nat.le_refl _)
    · have hk : k = 3 := hk
      subst hk
      refine zl_catch X Xo (x := 1) (by decide) [⟨0, 14, 17, 21⟩, ⟨0, 14, 21, 13⟩] ⟨0, 14, 25, 15⟩ [] rfl rfl rfl (List.forall_mem_cons.mpr ⟨⟨2, by decide, by decide, rfl⟩, (List.forall_mem_cons.mpr ⟨⟨0, by decide, by decide, rfl⟩, (fun _ h => nomatch h)⟩)⟩) h1 h2 h3 ?_
      refine lv_astore hx hb dL_applyBudget_25 hl (by decide) rfl (fun ls hl => ?_)
      refine lv_iconst (v := 3) hx hb dL_applyBudget_27 (by decide) ?_
      exact zl_end X hS hP dL_applyBudget_28 (Nat.le_refl _) (Nat.le_refl _)
    · have hk : k = 1 := hk
      subst hk
      refine zl_catch X Xo (x := 2) (by decide) [] ⟨0, 14, 17, 21⟩ [⟨0, 14, 21, 13⟩, ⟨0, 14, 25, 15⟩] rfl rfl rfl (fun _ h => nomatch h) h1 h2 h3 ?_
      refine lv_astore hx hb dL_applyBudget_17 hl (by decide) rfl (fun ls hl => ?_)
      refine lv_iconst (v := 1) hx hb dL_applyBudget_19 (by decide) ?_
      exact zl_end X hS hP dL_applyBudget_20 (Nat.le_refl _) (Nat.le_refl _)
    · exact absurd (cdl_3 (by decide) h4) hc
theorem lw_delete (Wd : zzWC l D cA ad Ex) (Xo : zl_XOk Ex) {M M2 : zzMd} {p0 p1 k : Int32} (hr : zl_R (cdl [2, 3, 1]) false (fX11_delete [.ref 0, .int p0, .int p1] M) k M2) : zl_C l D cA ad Ex yL_delete cL_delete 5 [(0, 10, 13, 21), (0, 10, 17, 13), (0, 10, 21, 15)] 8 125 [.ref 0, .int p0, .int p1, .ref 73] M k M2 := by
  refine zl_meth (by decide) (Nat.le_of_ble_eq_true rfl) (fun p e R s m args below meth c ls X hP hS hl => ?_)
  have hl : lv_has ls 5 [(0, .ref (ad 0)), (1, .int p0), (2, .int p1), (3, .ref (ad 73))] := hl
  have hx := X.1
  have hb := X.2.1
  refine lv_aload_n hx hb dL_delete_0 rfl (lv_at hl 3 rfl) ?_
  refine lv_iconst (v := 0) hx hb dL_delete_1 (by decide) ?_
  refine lv_aload_n hx hb dL_delete_2 rfl (lv_at hl 0 rfl) ?_
  refine lv_iload_n hx hb dL_delete_3 rfl (lv_at hl 1 rfl) ?_
  refine lv_iload_n hx hb dL_delete_4 rfl (lv_at hl 2 rfl) ?_
  refine zl_call (n := 2) (As := [.int p0, .int p1]) (rest := [.int 0, .ref (ad 73)]) X Wd.2.2.1 (zz_kv (zz_inl (by decide +kernel)) ⟨rfl, by decide, by decide, by decide +kernel⟩) (mm_X11_delete Wd) (by decide) rfl hl.1 (Nat.le_of_ble_eq_true rfl) hS hP dL_delete_5 hr (fun v M1 hk hM H1 locs1 hS hP => ?_) (fun x hk hc H1 locs1 q ce hS hP h1 h2 h3 => ?_)
  · subst hM
    subst hk
    refine lv_i2l (v := v.toInt64) hx hb dL_delete_8 rfl ?_
    refine zl_last X Wd.2.1 hS hP dL_delete_9 (fun H2 locs2 hS hP => ?_)
    refine lv_goto (tgt := 25) hx hb dL_delete_10 (by decide) ?_
    refine lv_iconst (v := 0) hx hb dL_delete_25 (by decide) ?_
    exact zl_end X hS hP dL_delete_26 (Nat.zero_le _) (Nat.zero_le _)
  · rcases (show x = 0 ∨ x = 1 ∨ x = 2 ∨ 3 ≤ x by omega) with rfl | rfl | rfl | h4
    · have hk : k = 2 := hk
      subst hk
      refine zl_catch X Xo (x := 0) (by decide) [⟨0, 10, 13, 21⟩] ⟨0, 10, 17, 13⟩ [⟨0, 10, 21, 15⟩] rfl rfl rfl (List.forall_mem_cons.mpr ⟨⟨2, by decide, by decide, rfl⟩, (fun _ h => nomatch h)⟩) h1 h2 h3 ?_
      refine lv_astore hx hb dL_delete_17 hl (by decide) rfl (fun ls hl => ?_)
      refine lv_iconst (v := 2) hx hb dL_delete_19 (by decide) ?_
      exact zl_end X hS hP dL_delete_20 (Nat.le_refl _) (Nat.le_refl _)
    · have hk : k = 3 := hk
      subst hk
      refine zl_catch X Xo (x := 1) (by decide) [⟨0, 10, 13, 21⟩, ⟨0, 10, 17, 13⟩] ⟨0, 10, 21, 15⟩ [] rfl rfl rfl (List.forall_mem_cons.mpr ⟨⟨2, by decide, by decide, rfl⟩, (List.forall_mem_cons.mpr ⟨⟨0, by decide, by decide, rfl⟩, (fun _ h => nomatch h)⟩)⟩) h1 h2 h3 ?_
      refine lv_astore hx hb dL_delete_21 hl (by decide) rfl (fun ls hl => ?_)
      refine lv_iconst (v := 3) hx hb dL_delete_23 (by decide) ?_
      exact zl_end X hS hP dL_delete_24 (Nat.le_refl _) (Nat.le_refl _)
    · have hk : k = 1 := hk
      subst hk
      refine zl_catch X Xo (x := 2) (by decide) [] ⟨0, 10, 13, 21⟩ [⟨0, 10, 17, 13⟩, ⟨0, 10, 21, 15⟩] rfl rfl rfl (fun _ h => nomatch h) h1 h2 h3 ?_
      refine lv_astore hx hb dL_delete_13 hl (by decide) rfl (fun ls hl => ?_)
      refine lv_iconst (v := 1) hx hb dL_delete_15 (by decide) ?_
      exact zl_end X hS hP dL_delete_16 (Nat.le_refl _) (Nat.le_refl _)
    · exact absurd (cdl_3 (by decide) h4) hc
theorem lw_hold (Wd : zzWC l D cA ad Ex) (Xo : zl_XOk Ex) {M M2 : zzMd} {p0 p1 k : Int32} (hr : zl_R (cdl [0, 2, 1]) true (fX11_hold [.ref 0, .int p0, .int p1] M) k M2) : zl_C l D cA ad Ex yL_hold cL_hold 5 [(0, 17, 20, 21), (0, 17, 24, 15)] 8 126 [.ref 0, .int p0, .int p1, .ref 73] M k M2 := by
  refine zl_meth (by decide) (Nat.le_of_ble_eq_true rfl) (fun p e R s m args below meth c ls X hP hS hl => ?_)
  have hl : lv_has ls 5 [(0, .ref (ad 0)), (1, .int p0), (2, .int p1), (3, .ref (ad 73))] := hl
  have hx := X.1
  have hb := X.2.1
  refine lv_aload_n hx hb dL_hold_0 rfl (lv_at hl 3 rfl) ?_
  refine lv_iconst (v := 0) hx hb dL_hold_1 (by decide) ?_
  refine lv_aload_n hx hb dL_hold_2 rfl (lv_at hl 0 rfl) ?_
  refine lv_iload_n hx hb dL_hold_3 rfl (lv_at hl 1 rfl) ?_
  refine lv_iload_n hx hb dL_hold_4 rfl (lv_at hl 2 rfl) ?_
  refine zl_call (n := 2) (As := [.int p0, .int p1]) (rest := [.int 0, .ref (ad 73)]) X Wd.2.2.1 (zz_kv (zz_inl (by decide +kernel)) ⟨rfl, by decide, by decide, by decide +kernel⟩) (mm_X11_hold Wd) (by decide) rfl hl.1 (Nat.le_of_ble_eq_true rfl) hS hP dL_hold_5 hr (fun v M1 hk hM H1 locs1 hS hP => ?_) (fun x hk hc H1 locs1 q ce hS hP h1 h2 h3 => ?_)
  · subst hM
    subst hk
    refine lv_if_eq (tgt := 15) hx hb dL_hold_8 (by decide) (fun h => ?_) (fun h => ?_)
    · rw [show zl_o true v = 0 from if_pos h]
      refine lv_lconst (v := 0) hx hb dL_hold_15 rfl ?_
      refine zl_last X Wd.2.1 hS hP dL_hold_16 (fun H2 locs2 hS hP => ?_)
      refine lv_goto (tgt := 28) hx hb dL_hold_17 (by decide) ?_
      refine lv_iconst (v := 0) hx hb dL_hold_28 (by decide) ?_
      exact zl_end X hS hP dL_hold_29 (Nat.zero_le _) (Nat.zero_le _)
    · rw [show zl_o true v = 1 from if_neg h]
      refine lv_lconst (v := 1) hx hb dL_hold_11 rfl ?_
      refine lv_goto (tgt := 16) hx hb dL_hold_12 (by decide) ?_
      refine zl_last X Wd.2.1 hS hP dL_hold_16 (fun H2 locs2 hS hP => ?_)
      refine lv_goto (tgt := 28) hx hb dL_hold_17 (by decide) ?_
      refine lv_iconst (v := 0) hx hb dL_hold_28 (by decide) ?_
      exact zl_end X hS hP dL_hold_29 (Nat.zero_le _) (Nat.zero_le _)
  · rcases (show x = 0 ∨ x = 1 ∨ x = 2 ∨ 3 ≤ x by omega) with rfl | rfl | rfl | h4
    · exact absurd rfl hc
    · have hk : k = 2 := hk
      subst hk
      refine zl_catch X Xo (x := 1) (by decide) [⟨0, 17, 20, 21⟩] ⟨0, 17, 24, 15⟩ [] rfl rfl rfl (List.forall_mem_cons.mpr ⟨⟨2, by decide, by decide, rfl⟩, (fun _ h => nomatch h)⟩) h1 h2 h3 ?_
      refine lv_astore hx hb dL_hold_24 hl (by decide) rfl (fun ls hl => ?_)
      refine lv_iconst (v := 2) hx hb dL_hold_26 (by decide) ?_
      exact zl_end X hS hP dL_hold_27 (Nat.le_refl _) (Nat.le_refl _)
    · have hk : k = 1 := hk
      subst hk
      refine zl_catch X Xo (x := 2) (by decide) [] ⟨0, 17, 20, 21⟩ [⟨0, 17, 24, 15⟩] rfl rfl rfl (fun _ h => nomatch h) h1 h2 h3 ?_
      refine lv_astore hx hb dL_hold_20 hl (by decide) rfl (fun ls hl => ?_)
      refine lv_iconst (v := 1) hx hb dL_hold_22 (by decide) ?_
      exact zl_end X hS hP dL_hold_23 (Nat.le_refl _) (Nat.le_refl _)
    · exact absurd (cdl_3 (by decide) h4) hc
theorem lw_finish (Wd : zzWC l D cA ad Ex) (Xo : zl_XOk Ex) {M M2 : zzMd} {p0 p1 k : Int32} (hr : zl_R (cdl [2, 3, 1]) false (fX11_finish [.ref 0, .int p0, .int p1] M) k M2) : zl_C l D cA ad Ex yL_finish cL_finish 5 [(0, 10, 13, 21), (0, 10, 17, 13), (0, 10, 21, 15)] 8 127 [.ref 0, .int p0, .int p1, .ref 73] M k M2 := by
  refine zl_meth (by decide) (Nat.le_of_ble_eq_true rfl) (fun p e R s m args below meth c ls X hP hS hl => ?_)
  have hl : lv_has ls 5 [(0, .ref (ad 0)), (1, .int p0), (2, .int p1), (3, .ref (ad 73))] := hl
  have hx := X.1
  have hb := X.2.1
  refine lv_aload_n hx hb dL_finish_0 rfl (lv_at hl 3 rfl) ?_
  refine lv_iconst (v := 0) hx hb dL_finish_1 (by decide) ?_
  refine lv_aload_n hx hb dL_finish_2 rfl (lv_at hl 0 rfl) ?_
  refine lv_iload_n hx hb dL_finish_3 rfl (lv_at hl 1 rfl) ?_
  refine lv_iload_n hx hb dL_finish_4 rfl (lv_at hl 2 rfl) ?_
  refine zl_call (n := 2) (As := [.int p0, .int p1]) (rest := [.int 0, .ref (ad 73)]) X Wd.2.2.1 (zz_kv (zz_inl (by decide +kernel)) ⟨rfl, by decide, by decide, by decide +kernel⟩) (mm_X11_finish Wd) (by decide) rfl hl.1 (Nat.le_of_ble_eq_true rfl) hS hP dL_finish_5 hr (fun v M1 hk hM H1 locs1 hS hP => ?_) (fun x hk hc H1 locs1 q ce hS hP h1 h2 h3 => ?_)
  · subst hM
    subst hk
    refine lv_i2l (v := v.toInt64) hx hb dL_finish_8 rfl ?_
    refine zl_last X Wd.2.1 hS hP dL_finish_9 (fun H2 locs2 hS hP => ?_)
    refine lv_goto (tgt := 25) hx hb dL_finish_10 (by decide) ?_
    refine lv_iconst (v := 0) hx hb dL_finish_25 (by decide) ?_
    exact zl_end X hS hP dL_finish_26 (Nat.zero_le _) (Nat.zero_le _)
  · rcases (show x = 0 ∨ x = 1 ∨ x = 2 ∨ 3 ≤ x by omega) with rfl | rfl | rfl | h4
    · have hk : k = 2 := hk
      subst hk
      refine zl_catch X Xo (x := 0) (by decide) [⟨0, 10, 13, 21⟩] ⟨0, 10, 17, 13⟩ [⟨0, 10, 21, 15⟩] rfl rfl rfl (List.forall_mem_cons.mpr ⟨⟨2, by decide, by decide, rfl⟩, (fun _ h => nomatch h)⟩) h1 h2 h3 ?_
      refine lv_astore hx hb dL_finish_17 hl (by decide) rfl (fun ls hl => ?_)
      refine lv_iconst (v := 2) hx hb dL_finish_19 (by decide) ?_
      exact zl_end X hS hP dL_finish_20 (Nat.le_refl _) (Nat.le_refl _)
    · have hk : k = 3 := hk
      subst hk
      refine zl_catch X Xo (x := 1) (by decide) [⟨0, 10, 13, 21⟩, ⟨0, 10, 17, 13⟩] ⟨0, 10, 21, 15⟩ [] rfl rfl rfl (List.forall_mem_cons.mpr ⟨⟨2, by decide, by decide, rfl⟩, (List.forall_mem_cons.mpr ⟨⟨0, by decide, by decide, rfl⟩, (fun _ h => nomatch h)⟩)⟩) h1 h2 h3 ?_
      refine lv_astore hx hb dL_finish_21 hl (by decide) rfl (fun ls hl => ?_)
      refine lv_iconst (v := 3) hx hb dL_finish_23 (by decide) ?_
      exact zl_end X hS hP dL_finish_24 (Nat.le_refl _) (Nat.le_refl _)
    · have hk : k = 1 := hk
      subst hk
      refine zl_catch X Xo (x := 2) (by decide) [] ⟨0, 10, 13, 21⟩ [⟨0, 10, 17, 13⟩, ⟨0, 10, 21, 15⟩] rfl rfl rfl (fun _ h => nomatch h) h1 h2 h3 ?_
      refine lv_astore hx hb dL_finish_13 hl (by decide) rfl (fun ls hl => ?_)
      refine lv_iconst (v := 1) hx hb dL_finish_15 (by decide) ?_
      exact zl_end X hS hP dL_finish_16 (Nat.le_refl _) (Nat.le_refl _)
    · exact absurd (cdl_3 (by decide) h4) hc
theorem lw_rule (Wd : zzWC l D cA ad Ex) (Xo : zl_XOk Ex) {M M2 : zzMd} {p0 p1 p2 p3 p4 p5 k : Int32} (hr : zl_R (cdl [1, 2]) false (fX11_rule [.ref 0, .int p0, .int p1, .int p2, .int p3, .int p4, .int p5] M) k M2) : zl_C l D cA ad Ex yL_rule cL_rule 9 [(0, 18, 21, 13), (0, 18, 25, 15)] 7 108 [.ref 0, .int p0, .int p1, .int p2, .int p3, .int p4, .int p5, .ref 73] M k M2 := by
  refine zl_meth (by decide) (Nat.le_of_ble_eq_true rfl) (fun p e R s m args below meth c ls X hP hS hl => ?_)
  have hl : lv_has ls 9 [(0, .ref (ad 0)), (1, .int p0), (2, .int p1), (3, .int p2), (4, .int p3), (5, .int p4), (6, .int p5), (7, .ref (ad 73))] := hl
  have hx := X.1
  have hb := X.2.1
  refine lv_aload hx hb dL_rule_0 (lv_at hl 7 rfl) ?_
  refine lv_iconst (v := 0) hx hb dL_rule_2 (by decide) ?_
  refine lv_aload_n hx hb dL_rule_3 rfl (lv_at hl 0 rfl) ?_
  refine lv_iload_n hx hb dL_rule_4 rfl (lv_at hl 1 rfl) ?_
  refine lv_iload_n hx hb dL_rule_5 rfl (lv_at hl 2 rfl) ?_
  refine lv_iload_n hx hb dL_rule_6 rfl (lv_at hl 3 rfl) ?_
  refine lv_iload hx hb dL_rule_7 (lv_at hl 4 rfl) ?_
  refine lv_iload hx hb dL_rule_9 (lv_at hl 5 rfl) ?_
  refine lv_iload hx hb dL_rule_11 (lv_at hl 6 rfl) ?_
  refine zl_call (n := 6) (As := [.int p0, .int p1, .int p2, .int p3, .int p4, .int p5]) (rest := [.int 0, .ref (ad 73)]) X Wd.2.2.1 (zz_kv (zz_inl (by decide +kernel)) ⟨rfl, by decide, by decide, by decide +kernel⟩) (mm_X11_rule Wd) (by decide) rfl hl.1 (Nat.le_of_ble_eq_true rfl) hS hP dL_rule_13 hr (fun v M1 hk hM H1 locs1 hS hP => ?_) (fun x hk hc H1 locs1 q ce hS hP h1 h2 h3 => ?_)
  · subst hM
    subst hk
    refine lv_i2l (v := v.toInt64) hx hb dL_rule_16 rfl ?_
    refine zl_last X Wd.2.1 hS hP dL_rule_17 (fun H2 locs2 hS hP => ?_)
    refine lv_goto (tgt := 29) hx hb dL_rule_18 (by decide) ?_
    refine lv_iconst (v := 0) hx hb dL_rule_29 (by decide) ?_
    exact zl_end X hS hP dL_rule_30 (Nat.zero_le _) (Nat.zero_le _)
  · rcases (show x = 0 ∨ x = 1 ∨ x = 2 ∨ 3 ≤ x by omega) with rfl | rfl | rfl | h4
    · have hk : k = 1 := hk
      subst hk
      refine zl_catch X Xo (x := 0) (by decide) [] ⟨0, 18, 21, 13⟩ [⟨0, 18, 25, 15⟩] rfl rfl rfl (fun _ h => nomatch h) h1 h2 h3 ?_
      refine lv_astore hx hb dL_rule_21 hl (by decide) rfl (fun ls hl => ?_)
      refine lv_iconst (v := 1) hx hb dL_rule_23 (by decide) ?_
      exact zl_end X hS hP dL_rule_24 (Nat.le_refl _) (Nat.le_refl _)
    · have hk : k = 2 := hk
      subst hk
      refine zl_catch X Xo (x := 1) (by decide) [⟨0, 18, 21, 13⟩] ⟨0, 18, 25, 15⟩ [] rfl rfl rfl (List.forall_mem_cons.mpr ⟨⟨0, by decide, by decide, rfl⟩, (fun _ h => nomatch h)⟩) h1 h2 h3 ?_
      refine lv_astore hx hb dL_rule_25 hl (by decide) rfl (fun ls hl => ?_)
      refine lv_iconst (v := 2) hx hb dL_rule_27 (by decide) ?_
      exact zl_end X hS hP dL_rule_28 (Nat.le_refl _) (Nat.le_refl _)
    · exact absurd rfl hc
    · exact absurd (cdl_3 (by decide) h4) hc
theorem lw_check (Wd : zzWC l D cA ad Ex) (Xo : zl_XOk Ex) {M M2 : zzMd} {p0 p1 p2 k : Int32} (hr : zl_R (cdl [1, 2]) false (fX11_check [.ref 0, .int p0, .int p1, .int p2] M) k M2) : zl_C l D cA ad Ex yL_check cL_check 6 [(0, 12, 15, 13), (0, 12, 19, 15)] 7 105 [.ref 0, .int p0, .int p1, .int p2, .ref 73] M k M2 := by
  refine zl_meth (by decide) (Nat.le_of_ble_eq_true rfl) (fun p e R s m args below meth c ls X hP hS hl => ?_)
  have hl : lv_has ls 6 [(0, .ref (ad 0)), (1, .int p0), (2, .int p1), (3, .int p2), (4, .ref (ad 73))] := hl
  have hx := X.1
  have hb := X.2.1
  refine lv_aload hx hb dL_check_0 (lv_at hl 4 rfl) ?_
  refine lv_iconst (v := 0) hx hb dL_check_2 (by decide) ?_
  refine lv_aload_n hx hb dL_check_3 rfl (lv_at hl 0 rfl) ?_
  refine lv_iload_n hx hb dL_check_4 rfl (lv_at hl 1 rfl) ?_
  refine lv_iload_n hx hb dL_check_5 rfl (lv_at hl 2 rfl) ?_
  refine lv_iload_n hx hb dL_check_6 rfl (lv_at hl 3 rfl) ?_
  refine zl_call (n := 3) (As := [.int p0, .int p1, .int p2]) (rest := [.int 0, .ref (ad 73)]) X Wd.2.2.1 (zz_kv (zz_inl (by decide +kernel)) ⟨rfl, by decide, by decide, by decide +kernel⟩) (mm_X11_check Wd) (by decide) rfl hl.1 (Nat.le_of_ble_eq_true rfl) hS hP dL_check_7 hr (fun v M1 hk hM H1 locs1 hS hP => ?_) (fun x hk hc H1 locs1 q ce hS hP h1 h2 h3 => ?_)
  · subst hM
    subst hk
    refine lv_i2l (v := v.toInt64) hx hb dL_check_10 rfl ?_
    refine zl_last X Wd.2.1 hS hP dL_check_11 (fun H2 locs2 hS hP => ?_)
    refine lv_goto (tgt := 23) hx hb dL_check_12 (by decide) ?_
    refine lv_iconst (v := 0) hx hb dL_check_23 (by decide) ?_
    exact zl_end X hS hP dL_check_24 (Nat.zero_le _) (Nat.zero_le _)
  · rcases (show x = 0 ∨ x = 1 ∨ x = 2 ∨ 3 ≤ x by omega) with rfl | rfl | rfl | h4
    · have hk : k = 1 := hk
      subst hk
      refine zl_catch X Xo (x := 0) (by decide) [] ⟨0, 12, 15, 13⟩ [⟨0, 12, 19, 15⟩] rfl rfl rfl (fun _ h => nomatch h) h1 h2 h3 ?_
      refine lv_astore hx hb dL_check_15 hl (by decide) rfl (fun ls hl => ?_)
      refine lv_iconst (v := 1) hx hb dL_check_17 (by decide) ?_
      exact zl_end X hS hP dL_check_18 (Nat.le_refl _) (Nat.le_refl _)
    · have hk : k = 2 := hk
      subst hk
      refine zl_catch X Xo (x := 1) (by decide) [⟨0, 12, 15, 13⟩] ⟨0, 12, 19, 15⟩ [] rfl rfl rfl (List.forall_mem_cons.mpr ⟨⟨0, by decide, by decide, rfl⟩, (fun _ h => nomatch h)⟩) h1 h2 h3 ?_
      refine lv_astore hx hb dL_check_19 hl (by decide) rfl (fun ls hl => ?_)
      refine lv_iconst (v := 2) hx hb dL_check_21 (by decide) ?_
      exact zl_end X hS hP dL_check_22 (Nat.le_refl _) (Nat.le_refl _)
    · exact absurd rfl hc
    · exact absurd (cdl_3 (by decide) h4) hc
theorem lw_quota (Wd : zzWC l D cA ad Ex) (Xo : zl_XOk Ex) {M M2 : zzMd} {p0 k : Int32} (hr : zl_R (cdl [1]) false (fX11_quota [.ref 0, .int p0] M) k M2) : zl_C l D cA ad Ex yL_quota cL_quota 4 [(0, 9, 12, 13)] 7 104 [.ref 0, .int p0, .ref 73] M k M2 := by
  refine zl_meth (by decide) (Nat.le_of_ble_eq_true rfl) (fun p e R s m args below meth c ls X hP hS hl => ?_)
  have hl : lv_has ls 4 [(0, .ref (ad 0)), (1, .int p0), (2, .ref (ad 73))] := hl
  have hx := X.1
  have hb := X.2.1
  refine lv_aload_n hx hb dL_quota_0 rfl (lv_at hl 2 rfl) ?_
  refine lv_iconst (v := 0) hx hb dL_quota_1 (by decide) ?_
  refine lv_aload_n hx hb dL_quota_2 rfl (lv_at hl 0 rfl) ?_
  refine lv_iload_n hx hb dL_quota_3 rfl (lv_at hl 1 rfl) ?_
  refine zl_call (n := 1) (As := [.int p0]) (rest := [.int 0, .ref (ad 73)]) X Wd.2.2.1 (zz_kv (zz_inl (by decide +kernel)) ⟨rfl, by decide, by decide, by decide +kernel⟩) (mm_X11_quota Wd) (by decide) rfl hl.1 (Nat.le_of_ble_eq_true rfl) hS hP dL_quota_4 hr (fun v M1 hk hM H1 locs1 hS hP => ?_) (fun x hk hc H1 locs1 q ce hS hP h1 h2 h3 => ?_)
  · subst hM
    subst hk
    refine lv_i2l (v := v.toInt64) hx hb dL_quota_7 rfl ?_
    refine zl_last X Wd.2.1 hS hP dL_quota_8 (fun H2 locs2 hS hP => ?_)
    refine lv_goto (tgt := 15) hx hb dL_quota_9 (by decide) ?_
    refine lv_iconst (v := 0) hx hb dL_quota_15 (by decide) ?_
    exact zl_end X hS hP dL_quota_16 (Nat.zero_le _) (Nat.zero_le _)
  · rcases (show x = 0 ∨ x = 1 ∨ x = 2 ∨ 3 ≤ x by omega) with rfl | rfl | rfl | h4
    · have hk : k = 1 := hk
      subst hk
      refine zl_catch X Xo (x := 0) (by decide) [] ⟨0, 9, 12, 13⟩ [] rfl rfl rfl (fun _ h => nomatch h) h1 h2 h3 ?_
      refine lv_astore_n hx hb dL_quota_12 rfl hl (by decide) rfl (fun ls hl => ?_)
      refine lv_iconst (v := 1) hx hb dL_quota_13 (by decide) ?_
      exact zl_end X hS hP dL_quota_14 (Nat.le_refl _) (Nat.le_refl _)
    · exact absurd rfl hc
    · exact absurd rfl hc
    · exact absurd (cdl_3 (by decide) h4) hc
theorem lw_see (Wd : zzWC l D cA ad Ex) (Xo : zl_XOk Ex) {M M2 : zzMd} {p0 p1 k : Int32} (hr : zl_R (cdl [1]) false (fX11_see [.ref 0, .int p0, .int p1] M) k M2) : zl_C l D cA ad Ex yL_see cL_see 5 [(0, 10, 13, 13)] 7 158 [.ref 0, .int p0, .int p1, .ref 73] M k M2 := by
  refine zl_meth (by decide) (Nat.le_of_ble_eq_true rfl) (fun p e R s m args below meth c ls X hP hS hl => ?_)
  have hl : lv_has ls 5 [(0, .ref (ad 0)), (1, .int p0), (2, .int p1), (3, .ref (ad 73))] := hl
  have hx := X.1
  have hb := X.2.1
  refine lv_aload_n hx hb dL_see_0 rfl (lv_at hl 3 rfl) ?_
  refine lv_iconst (v := 0) hx hb dL_see_1 (by decide) ?_
  refine lv_aload_n hx hb dL_see_2 rfl (lv_at hl 0 rfl) ?_
  refine lv_iload_n hx hb dL_see_3 rfl (lv_at hl 1 rfl) ?_
  refine lv_iload_n hx hb dL_see_4 rfl (lv_at hl 2 rfl) ?_
  refine zl_call (n := 2) (As := [.int p0, .int p1]) (rest := [.int 0, .ref (ad 73)]) X Wd.2.2.1 (zz_kv (zz_inl (by decide +kernel)) ⟨rfl, by decide, by decide, by decide +kernel⟩) (mm_X11_see Wd) (by decide) rfl hl.1 (Nat.le_of_ble_eq_true rfl) hS hP dL_see_5 hr (fun v M1 hk hM H1 locs1 hS hP => ?_) (fun x hk hc H1 locs1 q ce hS hP h1 h2 h3 => ?_)
  · subst hM
    subst hk
    refine lv_i2l (v := v.toInt64) hx hb dL_see_8 rfl ?_
    refine zl_last X Wd.2.1 hS hP dL_see_9 (fun H2 locs2 hS hP => ?_)
    refine lv_goto (tgt := 17) hx hb dL_see_10 (by decide) ?_
    refine lv_iconst (v := 0) hx hb dL_see_17 (by decide) ?_
    exact zl_end X hS hP dL_see_18 (Nat.zero_le _) (Nat.zero_le _)
  · rcases (show x = 0 ∨ x = 1 ∨ x = 2 ∨ 3 ≤ x by omega) with rfl | rfl | rfl | h4
    · have hk : k = 1 := hk
      subst hk
      refine zl_catch X Xo (x := 0) (by decide) [] ⟨0, 10, 13, 13⟩ [] rfl rfl rfl (fun _ h => nomatch h) h1 h2 h3 ?_
      refine lv_astore hx hb dL_see_13 hl (by decide) rfl (fun ls hl => ?_)
      refine lv_iconst (v := 1) hx hb dL_see_15 (by decide) ?_
      exact zl_end X hS hP dL_see_16 (Nat.le_refl _) (Nat.le_refl _)
    · exact absurd rfl hc
    · exact absurd rfl hc
    · exact absurd (cdl_3 (by decide) h4) hc
theorem lw_work (Wd : zzWC l D cA ad Ex) (Xo : zl_XOk Ex) {M M2 : zzMd} {p0 k : Int32} (hr : zl_R (cdl [1]) false (fX11_work [.ref 0, .int p0] M) k M2) : zl_C l D cA ad Ex yL_work cL_work 4 [(0, 9, 12, 13)] 8 188 [.ref 0, .int p0, .ref 73] M k M2 := by
  refine zl_meth (by decide) (Nat.le_of_ble_eq_true rfl) (fun p e R s m args below meth c ls X hP hS hl => ?_)
  have hl : lv_has ls 4 [(0, .ref (ad 0)), (1, .int p0), (2, .ref (ad 73))] := hl
  have hx := X.1
  have hb := X.2.1
  refine lv_aload_n hx hb dL_work_0 rfl (lv_at hl 2 rfl) ?_
  refine lv_iconst (v := 0) hx hb dL_work_1 (by decide) ?_
  refine lv_aload_n hx hb dL_work_2 rfl (lv_at hl 0 rfl) ?_
  refine lv_iload_n hx hb dL_work_3 rfl (lv_at hl 1 rfl) ?_
  refine zl_call (n := 1) (As := [.int p0]) (rest := [.int 0, .ref (ad 73)]) X Wd.2.2.1 (zz_kv (zz_inl (by decide +kernel)) ⟨rfl, by decide, by decide, by decide +kernel⟩) (mm_X11_work Wd) (by decide) rfl hl.1 (Nat.le_of_ble_eq_true rfl) hS hP dL_work_4 hr (fun v M1 hk hM H1 locs1 hS hP => ?_) (fun x hk hc H1 locs1 q ce hS hP h1 h2 h3 => ?_)
  · subst hM
    subst hk
    refine lv_i2l (v := v.toInt64) hx hb dL_work_7 rfl ?_
    refine zl_last X Wd.2.1 hS hP dL_work_8 (fun H2 locs2 hS hP => ?_)
    refine lv_goto (tgt := 15) hx hb dL_work_9 (by decide) ?_
    refine lv_iconst (v := 0) hx hb dL_work_15 (by decide) ?_
    exact zl_end X hS hP dL_work_16 (Nat.zero_le _) (Nat.zero_le _)
  · rcases (show x = 0 ∨ x = 1 ∨ x = 2 ∨ 3 ≤ x by omega) with rfl | rfl | rfl | h4
    · have hk : k = 1 := hk
      subst hk
      refine zl_catch X Xo (x := 0) (by decide) [] ⟨0, 9, 12, 13⟩ [] rfl rfl rfl (fun _ h => nomatch h) h1 h2 h3 ?_
      refine lv_astore_n hx hb dL_work_12 rfl hl (by decide) rfl (fun ls hl => ?_)
      refine lv_iconst (v := 1) hx hb dL_work_13 (by decide) ?_
      exact zl_end X hS hP dL_work_14 (Nat.le_refl _) (Nat.le_refl _)
    · exact absurd rfl hc
    · exact absurd rfl hc
    · exact absurd (cdl_3 (by decide) h4) hc
theorem lw_turn (Wd : zzWC l D cA ad Ex) (Xo : zl_XOk Ex) {M M2 : zzMd} {p0 k : Int32} (hr : zl_R (cdl [1]) false (fX11_turn [.ref 0, .int p0] M) k M2) : zl_C l D cA ad Ex yL_turn cL_turn 4 [(0, 9, 12, 13)] 8 193 [.ref 0, .int p0, .ref 73] M k M2 := by
  refine zl_meth (by decide) (Nat.le_of_ble_eq_true rfl) (fun p e R s m args below meth c ls X hP hS hl => ?_)
  have hl : lv_has ls 4 [(0, .ref (ad 0)), (1, .int p0), (2, .ref (ad 73))] := hl
  have hx := X.1
  have hb := X.2.1
  refine lv_aload_n hx hb dL_turn_0 rfl (lv_at hl 2 rfl) ?_
  refine lv_iconst (v := 0) hx hb dL_turn_1 (by decide) ?_
  refine lv_aload_n hx hb dL_turn_2 rfl (lv_at hl 0 rfl) ?_
  refine lv_iload_n hx hb dL_turn_3 rfl (lv_at hl 1 rfl) ?_
  refine zl_call (n := 1) (As := [.int p0]) (rest := [.int 0, .ref (ad 73)]) X Wd.2.2.1 (zz_kv (zz_inl (by decide +kernel)) ⟨rfl, by decide, by decide, by decide +kernel⟩) (mm_X11_turn Wd) (by decide) rfl hl.1 (Nat.le_of_ble_eq_true rfl) hS hP dL_turn_4 hr (fun v M1 hk hM H1 locs1 hS hP => ?_) (fun x hk hc H1 locs1 q ce hS hP h1 h2 h3 => ?_)
  · subst hM
    subst hk
    refine lv_i2l (v := v.toInt64) hx hb dL_turn_7 rfl ?_
    refine zl_last X Wd.2.1 hS hP dL_turn_8 (fun H2 locs2 hS hP => ?_)
    refine lv_goto (tgt := 15) hx hb dL_turn_9 (by decide) ?_
    refine lv_iconst (v := 0) hx hb dL_turn_15 (by decide) ?_
    exact zl_end X hS hP dL_turn_16 (Nat.zero_le _) (Nat.zero_le _)
  · rcases (show x = 0 ∨ x = 1 ∨ x = 2 ∨ 3 ≤ x by omega) with rfl | rfl | rfl | h4
    · have hk : k = 1 := hk
      subst hk
      refine zl_catch X Xo (x := 0) (by decide) [] ⟨0, 9, 12, 13⟩ [] rfl rfl rfl (fun _ h => nomatch h) h1 h2 h3 ?_
      refine lv_astore_n hx hb dL_turn_12 rfl hl (by decide) rfl (fun ls hl => ?_)
      refine lv_iconst (v := 1) hx hb dL_turn_13 (by decide) ?_
      exact zl_end X hS hP dL_turn_14 (Nat.le_refl _) (Nat.le_refl _)
    · exact absurd rfl hc
    · exact absurd rfl hc
    · exact absurd (cdl_3 (by decide) h4) hc
end

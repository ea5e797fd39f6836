section
variable {l : Launch} {D : va_G} {cA : Nat → ClassId} {ad : Nat → Nat} {Ex : (Nat → Prop) → State → Heap → Prop}
theorem lw_field (Wd : zzWC l D cA ad Ex) (Xo : zl_XOk Ex) {M M2 : zzMd} {p0 p1 k : Int32} (hr : zl_R (cdl [2, 0, 1]) false (fX11_field [.ref 0, .int p0, .int p1] M) k M2) : zl_C l D cA ad Ex yL_field cL_field 5 [(0, 10, 13, 21), (0, 10, 17, 13)] 8 126 [.ref 0, .int p0, .int p1, .ref 73] M k M2 := by
  refine zl_meth (by decide) (Nat.le_of_ble_eq_true rfl) (fun p e R s m args below meth c ls X hP hS hl => ?_)
  have hl : lv_has ls 5 [(0, .ref (ad 0)), (1, .int p0), (2, .int p1), (3, .ref (ad 73))] := hl
  have hx := X.1
  have hb := X.2.1
  refine lv_aload_n hx hb dL_field_0 rfl (lv_at hl 3 rfl) ?_
  refine lv_iconst (v := 0) hx hb dL_field_1 (by decide) ?_
  refine lv_aload_n hx hb dL_field_2 rfl (lv_at hl 0 rfl) ?_
  refine lv_iload_n hx hb dL_field_3 rfl (lv_at hl 1 rfl) ?_
  refine lv_iload_n hx hb dL_field_4 rfl (lv_at hl 2 rfl) ?_
  refine zl_call (n := 2) (As := [.int p0, .int p1]) (rest := [.int 0, .ref (ad 73)]) X Wd.2.2.1 (zz_kv (zz_inl (by decide +kernel)) ⟨rfl, by decide, by decide, by decide +kernel⟩) (mm_X11_field Wd) (by decide) rfl hl.1 (Nat.le_of_ble_eq_true rfl) hS hP dL_field_5 hr (fun v M1 hk hM H1 locs1 hS hP => ?_) (fun x hk hc H1 locs1 q ce hS hP h1 h2 h3 => ?_)
  · subst hM
    subst hk
    refine lv_i2l (v := v.toInt64) hx hb dL_field_8 rfl ?_
    refine zl_last X Wd.2.1 hS hP dL_field_9 (fun H2 locs2 hS hP => ?_)
    refine lv_goto (tgt := 21) hx hb dL_field_10 (by decide) ?_
    refine lv_iconst (v := 0) hx hb dL_field_21 (by decide) ?_
    exact zl_end X hS hP dL_field_22 (Nat.zero_le _) (Nat.zero_le _)
  · rcases (show x = 0 ∨ x = 1 ∨ x = 2 ∨ 3 ≤ x by omega) with rfl | rfl | rfl | h4
    · have hk : k = 2 := hk
      subst hk
      refine zl_catch X Xo (x := 0) (by decide) [⟨0, 10, 13, 21⟩] ⟨0, 10, 17, 13⟩ [] rfl rfl rfl (List.forall_mem_cons.mpr ⟨⟨2, by decide, by decide, rfl⟩, (fun _ h => nomatch h)⟩) h1 h2 h3 ?_
      refine lv_astore hx hb dL_field_17 hl (by decide) rfl (fun ls hl => ?_)
      refine lv_iconst (v := 2) hx hb dL_field_19 (by decide) ?_
      exact zl_end X hS hP dL_field_20 (Nat.le_refl _) (Nat.le_refl _)
    · exact absurd rfl hc
    · have hk : k = 1 := hk
      subst hk
      refine zl_catch X Xo (x := 2) (by decide) [] ⟨0, 10, 13, 21⟩ [⟨0, 10, 17, 13⟩] rfl rfl rfl (fun _ h => nomatch h) h1 h2 h3 ?_
      refine lv_astore hx hb dL_field_13 hl (by decide) rfl (fun ls hl => ?_)
      refine lv_iconst (v := 1) hx hb dL_field_15 (by decide) ?_
      exact zl_end X hS hP dL_field_16 (Nat.le_refl _) (Nat.le_refl _)
    · exact absurd (cdl_3 (by decide) h4) hc
theorem lw_managerOf (Wd : zzWC l D cA ad Ex) (Xo : zl_XOk Ex) {M M2 : zzMd} {p0 p1 k : Int32} (hr : zl_R (cdl [2, 0, 1]) false (fX11_managerOf [.ref 0, .int p0, .int p1] M) k M2) : zl_C l D cA ad Ex yL_managerOf cL_managerOf 5 [(0, 10, 13, 21), (0, 10, 17, 13)] 8 126 [.ref 0, .int p0, .int p1, .ref 73] M k M2 := by
  refine zl_meth (by decide) (Nat.le_of_ble_eq_true rfl) (fun p e R s m args below meth c ls X hP hS hl => ?_)
  have hl : lv_has ls 5 [(0, .ref (ad 0)), (1, .int p0), (2, .int p1), (3, .ref (ad 73))] := hl
  have hx := X.1
  have hb := X.2.1
  refine lv_aload_n hx hb dL_managerOf_0 rfl (lv_at hl 3 rfl) ?_
  refine lv_iconst (v := 0) hx hb dL_managerOf_1 (by decide) ?_
  refine lv_aload_n hx hb dL_managerOf_2 rfl (lv_at hl 0 rfl) ?_
  refine lv_iload_n hx hb dL_managerOf_3 rfl (lv_at hl 1 rfl) ?_
  refine lv_iload_n hx hb dL_managerOf_4 rfl (lv_at hl 2 rfl) ?_
  refine zl_call (n := 2) (As := [.int p0, .int p1]) (rest := [.int 0, .ref (ad 73)]) X Wd.2.2.1 (zz_kv (zz_inl (by decide +kernel)) ⟨rfl, by decide, by decide, by decide +kernel⟩) (mm_X11_managerOf Wd) (by decide) rfl hl.1 (Nat.le_of_ble_eq_true rfl) hS hP dL_managerOf_5 hr (fun v M1 hk hM H1 locs1 hS hP => ?_) (fun x hk hc H1 locs1 q ce hS hP h1 h2 h3 => ?_)
  · subst hM
    subst hk
    refine lv_i2l (v := v.toInt64) hx hb dL_managerOf_8 rfl ?_
    refine zl_last X Wd.2.1 hS hP dL_managerOf_9 (fun H2 locs2 hS hP => ?_)
    refine lv_goto (tgt := 21) hx hb dL_managerOf_10 (by decide) ?_
    refine lv_iconst (v := 0) hx hb dL_managerOf_21 (by decide) ?_
    exact zl_end X hS hP dL_managerOf_22 (Nat.zero_le _) (Nat.zero_le _)
  · rcases (show x = 0 ∨ x = 1 ∨ x = 2 ∨ 3 ≤ x by omega) with rfl | rfl | rfl | h4
    · have hk : k = 2 := hk
      subst hk
      refine zl_catch X Xo (x := 0) (by decide) [⟨0, 10, 13, 21⟩] ⟨0, 10, 17, 13⟩ [] rfl rfl rfl (List.forall_mem_cons.mpr ⟨⟨2, by decide, by decide, rfl⟩, (fun _ h => nomatch h)⟩) h1 h2 h3 ?_
      refine lv_astore hx hb dL_managerOf_17 hl (by decide) rfl (fun ls hl => ?_)
      refine lv_iconst (v := 2) hx hb dL_managerOf_19 (by decide) ?_
      exact zl_end X hS hP dL_managerOf_20 (Nat.le_refl _) (Nat.le_refl _)
    · exact absurd rfl hc
    · have hk : k = 1 := hk
      subst hk
      refine zl_catch X Xo (x := 2) (by decide) [] ⟨0, 10, 13, 21⟩ [⟨0, 10, 17, 13⟩] rfl rfl rfl (fun _ h => nomatch h) h1 h2 h3 ?_
      refine lv_astore hx hb dL_managerOf_13 hl (by decide) rfl (fun ls hl => ?_)
      refine lv_iconst (v := 1) hx hb dL_managerOf_15 (by decide) ?_
      exact zl_end X hS hP dL_managerOf_16 (Nat.le_refl _) (Nat.le_refl _)
    · exact absurd (cdl_3 (by decide) h4) hc
theorem lw_budget (Wd : zzWC l D cA ad Ex) (Xo : zl_XOk Ex) {M M2 : zzMd} {p0 k : Int32} (hr : zl_R (cdl [2, 0, 1]) false (fX11_budget [.ref 0, .int p0] M) k M2) : zl_C l D cA ad Ex yL_budget cL_budget 4 [(0, 9, 12, 21), (0, 9, 15, 13)] 8 125 [.ref 0, .int p0, .ref 73] M k M2 := by
  refine zl_meth (by decide) (Nat.le_of_ble_eq_true rfl) (fun p e R s m args below meth c ls X hP hS hl => ?_)
  have hl : lv_has ls 4 [(0, .ref (ad 0)), (1, .int p0), (2, .ref (ad 73))] := hl
  have hx := X.1
  have hb := X.2.1
  refine lv_aload_n hx hb dL_budget_0 rfl (lv_at hl 2 rfl) ?_
  refine lv_iconst (v := 0) hx hb dL_budget_1 (by decide) ?_
  refine lv_aload_n hx hb dL_budget_2 rfl (lv_at hl 0 rfl) ?_
  refine lv_iload_n hx hb dL_budget_3 rfl (lv_at hl 1 rfl) ?_
  refine zl_call (n := 1) (As := [.int p0]) (rest := [.int 0, .ref (ad 73)]) X Wd.2.2.1 (zz_kv (zz_inl (by decide +kernel)) ⟨rfl, by decide, by decide, by decide +kernel⟩) (mm_X11_budget Wd) (by decide) rfl hl.1 (Nat.le_of_ble_eq_true rfl) hS hP dL_budget_4 hr (fun v M1 hk hM H1 locs1 hS hP => ?_) (fun x hk hc H1 locs1 q ce hS hP h1 h2 h3 => ?_)
  · subst hM
    subst hk
    refine lv_i2l (v := v.toInt64) hx hb dL_budget_7 rfl ?_
    refine zl_last X Wd.2.1 hS hP dL_budget_8 (fun H2 locs2 hS hP => ?_)
    refine lv_goto (tgt := 18) hx hb dL_budget_9 (by decide) ?_
    refine lv_iconst (v := 0) hx hb dL_budget_18 (by decide) ?_
    exact zl_end X hS hP dL_budget_19 (Nat.zero_le _) (Nat.zero_le _)
  · rcases (show x = 0 ∨ x = 1 ∨ x = 2 ∨ 3 ≤ x by omega) with rfl | rfl | rfl | h4
    · have hk : k = 2 := hk
      subst hk
      refine zl_catch X Xo (x := 0) (by decide) [⟨0, 9, 12, 21⟩] ⟨0, 9, 15, 13⟩ [] rfl rfl rfl (List.forall_mem_cons.mpr ⟨⟨2, by decide, by decide, rfl⟩, (fun _ h => nomatch h)⟩) h1 h2 h3 ?_
      refine lv_astore_n hx hb dL_budget_15 rfl hl (by decide) rfl (fun ls hl => ?_)
      refine lv_iconst (v := 2) hx hb dL_budget_16 (by decide) ?_
      exact zl_end X hS hP dL_budget_17 (Nat.le_refl _) (Nat.le_refl _)
    · exact absurd rfl hc
    · have hk : k = 1 := hk
      subst hk
      refine zl_catch X Xo (x := 2) (by decide) [] ⟨0, 9, 12, 21⟩ [⟨0, 9, 15, 13⟩] rfl rfl rfl (fun _ h => nomatch h) h1 h2 h3 ?_
      refine lv_astore_n hx hb dL_budget_12 rfl hl (by decide) rfl (fun ls hl => ?_)
      refine lv_iconst (v := 1) hx hb dL_budget_13 (by decide) ?_
      exact zl_end X hS hP dL_budget_14 (Nat.le_refl _) (Nat.le_refl _)
    · exact absurd (cdl_3 (by decide) h4) hc
theorem lw_versionOf (Wd : zzWC l D cA ad Ex) (Xo : zl_XOk Ex) {M M2 : zzMd} {p0 k : Int32} (hr : zl_R (cdl [0, 0, 1]) false (fX11_versionOf [.ref 0, .int p0] M) k M2) : zl_C l D cA ad Ex yL_versionOf cL_versionOf 4 [(0, 9, 12, 21)] 8 124 [.ref 0, .int p0, .ref 73] M k M2 := by
  refine zl_meth (by decide) (Nat.le_of_ble_eq_true rfl) (fun p e R s m args below meth c ls X hP hS hl => ?_)
  have hl : lv_has ls 4 [(0, .ref (ad 0)), (1, .int p0), (2, .ref (ad 73))] := hl
  have hx := X.1
  have hb := X.2.1
  refine lv_aload_n hx hb dL_versionOf_0 rfl (lv_at hl 2 rfl) ?_
  refine lv_iconst (v := 0) hx hb dL_versionOf_1 (by decide) ?_
  refine lv_aload_n hx hb dL_versionOf_2 rfl (lv_at hl 0 rfl) ?_
  refine lv_iload_n hx hb dL_versionOf_3 rfl (lv_at hl 1 rfl) ?_
  refine zl_call (n := 1) (As := [.int p0]) (rest := [.int 0, .ref (ad 73)]) X Wd.2.2.1 (zz_kv (zz_inl (by decide +kernel)) ⟨rfl, by decide, by decide, by decide +kernel⟩) (mm_X11_versionOf Wd) (by decide) rfl hl.1 (Nat.le_of_ble_eq_true rfl) hS hP dL_versionOf_4 hr (fun v M1 hk hM H1 locs1 hS hP => ?_) (fun x hk hc H1 locs1 q ce hS hP h1 h2 h3 => ?_)
  · subst hM
    subst hk
    refine lv_i2l (v := v.toInt64) hx hb dL_versionOf_7 rfl ?_
    refine zl_last X Wd.2.1 hS hP dL_versionOf_8 (fun H2 locs2 hS hP => ?_)
    refine lv_goto (tgt := 15) hx hb dL_versionOf_9 (by decide) ?_
    refine lv_iconst (v := 0) hx hb dL_versionOf_15 (by decide) ?_
    exact zl_end X hS hP dL_versionOf_16 (Nat.zero_le _) (Nat.zero_le _)
  · rcases (show x = 0 ∨ x = 1 ∨ x = 2 ∨ 3 ≤ x by omega) with rfl | rfl | rfl | h4
    · exact absurd rfl hc
    · exact absurd rfl hc
    · have hk : k = 1 := hk
      subst hk
      refine zl_catch X Xo (x := 2) (by decide) [] ⟨0, 9, 12, 21⟩ [] rfl rfl rfl (fun _ h => nomatch h) h1 h2 h3 ?_
      refine lv_astore_n hx hb dL_versionOf_12 rfl hl (by decide) rfl (fun ls hl => ?_)
      refine lv_iconst (v := 1) hx hb dL_versionOf_13 (by decide) ?_
      exact zl_end X hS hP dL_versionOf_14 (Nat.le_refl _) (Nat.le_refl _)
    · exact absurd (cdl_3 (by decide) h4) hc
theorem lw_goingOf (Wd : zzWC l D cA ad Ex) (Xo : zl_XOk Ex) {M M2 : zzMd} {p0 k : Int32} (hr : zl_R (cdl [0, 0, 1]) false (fX11_goingOf [.ref 0, .int p0] M) k M2) : zl_C l D cA ad Ex yL_goingOf cL_goingOf 4 [(0, 9, 12, 21)] 8 124 [.ref 0, .int p0, .ref 73] M k M2 := by
  refine zl_meth (by decide) (Nat.le_of_ble_eq_true rfl) (fun p e R s m args below meth c ls X hP hS hl => ?_)
  have hl : lv_has ls 4 [(0, .ref (ad 0)), (1, .int p0), (2, .ref (ad 73))] := hl
  have hx := X.1
  have hb := X.2.1
  refine lv_aload_n hx hb dL_goingOf_0 rfl (lv_at hl 2 rfl) ?_
  refine lv_iconst (v := 0) hx hb dL_goingOf_1 (by decide) ?_
  refine lv_aload_n hx hb dL_goingOf_2 rfl (lv_at hl 0 rfl) ?_
  refine lv_iload_n hx hb dL_goingOf_3 rfl (lv_at hl 1 rfl) ?_
  refine zl_call (n := 1) (As := [.int p0]) (rest := [.int 0, .ref (ad 73)]) X Wd.2.2.1 (zz_kv (zz_inl (by decide +kernel)) ⟨rfl, by decide, by decide, by decide +kernel⟩) (mm_X11_goingOf Wd) (by decide) rfl hl.1 (Nat.le_of_ble_eq_true rfl) hS hP dL_goingOf_4 hr (fun v M1 hk hM H1 locs1 hS hP => ?_) (fun x hk hc H1 locs1 q ce hS hP h1 h2 h3 => ?_)
  · subst hM
    subst hk
    refine lv_i2l (v := v.toInt64) hx hb dL_goingOf_7 rfl ?_
    refine zl_last X Wd.2.1 hS hP dL_goingOf_8 (fun H2 locs2 hS hP => ?_)
    refine lv_goto (tgt := 15) hx hb dL_goingOf_9 (by decide) ?_
    refine lv_iconst (v := 0) hx hb dL_goingOf_15 (by decide) ?_
    exact zl_end X hS hP dL_goingOf_16 (Nat.zero_le _) (Nat.zero_le _)
  · rcases (show x = 0 ∨ x = 1 ∨ x = 2 ∨ 3 ≤ x by omega) with rfl | rfl | rfl | h4
    · exact absurd rfl hc
    · exact absurd rfl hc
    · have hk : k = 1 := hk
      subst hk
      refine zl_catch X Xo (x := 2) (by decide) [] ⟨0, 9, 12, 21⟩ [] rfl rfl rfl (fun _ h => nomatch h) h1 h2 h3 ?_
      refine lv_astore_n hx hb dL_goingOf_12 rfl hl (by decide) rfl (fun ls hl => ?_)
      refine lv_iconst (v := 1) hx hb dL_goingOf_13 (by decide) ?_
      exact zl_end X hS hP dL_goingOf_14 (Nat.le_refl _) (Nat.le_refl _)
    · exact absurd (cdl_3 (by decide) h4) hc
theorem lw_ownerOf (Wd : zzWC l D cA ad Ex) (Xo : zl_XOk Ex) {M M2 : zzMd} {p0 k : Int32} (hr : zl_R (cdl [0, 0, 1]) false (fX11_ownerOf [.ref 0, .int p0] M) k M2) : zl_C l D cA ad Ex yL_ownerOf cL_ownerOf 4 [(0, 9, 12, 21)] 8 124 [.ref 0, .int p0, .ref 73] M k M2 := by
  refine zl_meth (by decide) (Nat.le_of_ble_eq_true rfl) (fun p e R s m args below meth c ls X hP hS hl => ?_)
  have hl : lv_has ls 4 [(0, .ref (ad 0)), (1, .int p0), (2, .ref (ad 73))] := hl
  have hx := X.1
  have hb := X.2.1
  refine lv_aload_n hx hb dL_ownerOf_0 rfl (lv_at hl 2 rfl) ?_
  refine lv_iconst (v := 0) hx hb dL_ownerOf_1 (by decide) ?_
  refine lv_aload_n hx hb dL_ownerOf_2 rfl (lv_at hl 0 rfl) ?_
  refine lv_iload_n hx hb dL_ownerOf_3 rfl (lv_at hl 1 rfl) ?_
  refine zl_call (n := 1) (As := [.int p0]) (rest := [.int 0, .ref (ad 73)]) X Wd.2.2.1 (zz_kv (zz_inl (by decide +kernel)) ⟨rfl, by decide, by decide, by decide +kernel⟩) (mm_X11_ownerOf Wd) (by decide) rfl hl.1 (Nat.le_of_ble_eq_true rfl) hS hP dL_ownerOf_4 hr (fun v M1 hk hM H1 locs1 hS hP => ?_) (fun x hk hc H1 locs1 q ce hS hP h1 h2 h3 => ?_)
  · subst hM
    subst hk
    refine lv_i2l (v := v.toInt64) hx hb dL_ownerOf_7 rfl ?_
    refine zl_last X Wd.2.1 hS hP dL_ownerOf_8 (fun H2 locs2 hS hP => ?_)
    refine lv_goto (tgt := 15) hx hb dL_ownerOf_9 (by decide) ?_
    refine lv_iconst (v := 0) hx hb dL_ownerOf_15 (by decide) ?_
    exact zl_end X hS hP dL_ownerOf_16 (Nat.zero_le _) (Nat.zero_le _)
  · rcases (show x = 0 ∨ x = 1 ∨ x = 2 ∨ 3 ≤ x by omega) with rfl | rfl | rfl | h4
    · exact absurd rfl hc
    · exact absurd rfl hc
    · have hk : k = 1 := hk
      subst hk
      refine zl_catch X Xo (x := 2) (by decide) [] ⟨0, 9, 12, 21⟩ [] rfl rfl rfl (fun _ h => nomatch h) h1 h2 h3 ?_
      refine lv_astore_n hx hb dL_ownerOf_12 rfl hl (by decide) rfl (fun ls hl => ?_)
      refine lv_iconst (v := 1) hx hb dL_ownerOf_13 (by decide) ?_
      exact zl_end X hS hP dL_ownerOf_14 (Nat.le_refl _) (Nat.le_refl _)
    · exact absurd (cdl_3 (by decide) h4) hc
theorem lw_phaseOf (Wd : zzWC l D cA ad Ex) (Xo : zl_XOk Ex) {M M2 : zzMd} {p0 k : Int32} (hr : zl_R (cdl [2, 0, 1]) false (fX11_phaseOf [.ref 0, .int p0] M) k M2) : zl_C l D cA ad Ex yL_phaseOf cL_phaseOf 4 [(0, 9, 12, 21), (0, 9, 15, 13)] 8 125 [.ref 0, .int p0, .ref 73] M k M2 := by
  refine zl_meth (by decide) (Nat.le_of_ble_eq_true rfl) (fun p e R s m args below meth c ls X hP hS hl => ?_)
  have hl : lv_has ls 4 [(0, .ref (ad 0)), (1, .int p0), (2, .ref (ad 73))] := hl
  have hx := X.1
  have hb := X.2.1
  refine lv_aload_n hx hb dL_phaseOf_0 rfl (lv_at hl 2 rfl) ?_
  refine lv_iconst (v := 0) hx hb dL_phaseOf_1 (by decide) ?_
  refine lv_aload_n hx hb dL_phaseOf_2 rfl (lv_at hl 0 rfl) ?_
  refine lv_iload_n hx hb dL_phaseOf_3 rfl (lv_at hl 1 rfl) ?_
  refine zl_call (n := 1) (As := [.int p0]) (rest := [.int 0, .ref (ad 73)]) X Wd.2.2.1 (zz_kv (zz_inl (by decide +kernel)) ⟨rfl, by decide, by decide, by decide +kernel⟩) (mm_X11_phaseOf Wd) (by decide) rfl hl.1 (Nat.le_of_ble_eq_true rfl) hS hP dL_phaseOf_4 hr (fun v M1 hk hM H1 locs1 hS hP => ?_) (fun x hk hc H1 locs1 q ce hS hP h1 h2 h3 => ?_)
  · subst hM
    subst hk
    refine lv_i2l (v := v.toInt64) hx hb dL_phaseOf_7 rfl ?_
    refine zl_last X Wd.2.1 hS hP dL_phaseOf_8 (fun H2 locs2 hS hP => ?_)
    refine lv_goto (tgt := 18) hx hb dL_phaseOf_9 (by decide) ?_
    refine lv_iconst (v := 0) hx hb dL_phaseOf_18 (by decide) ?_
    exact zl_end X hS hP dL_phaseOf_19 (Nat.zero_le _) (Nat.zero_le _)
  · rcases (show x = 0 ∨ x = 1 ∨ x = 2 ∨ 3 ≤ x by omega) with rfl | rfl | rfl | h4
    · have hk : k = 2 := hk
      subst hk
      refine zl_catch X Xo (x := 0) (by decide) [⟨0, 9, 12, 21⟩] ⟨0, 9, 15, 13⟩ [] rfl rfl rfl (List.forall_mem_cons.mpr ⟨⟨2, by decide, by decide, rfl⟩, (fun _ h => nomatch h)⟩) h1 h2 h3 ?_
      refine lv_astore_n hx hb dL_phaseOf_15 rfl hl (by decide) rfl (fun ls hl => ?_)
      refine lv_iconst (v := 2) hx hb dL_phaseOf_16 (by decide) ?_
      exact zl_end X hS hP dL_phaseOf_17 (Nat.le_refl _) (Nat.le_refl _)
    · exact absurd rfl hc
    · have hk : k = 1 := hk
      subst hk
      refine zl_catch X Xo (x := 2) (by decide) [] ⟨0, 9, 12, 21⟩ [⟨0, 9, 15, 13⟩] rfl rfl rfl (fun _ h => nomatch h) h1 h2 h3 ?_
      refine lv_astore_n hx hb dL_phaseOf_12 rfl hl (by decide) rfl (fun ls hl => ?_)
      refine lv_iconst (v := 1) hx hb dL_phaseOf_13 (by decide) ?_
      exact zl_end X hS hP dL_phaseOf_14 (Nat.le_refl _) (Nat.le_refl _)
    · exact absurd (cdl_3 (by decide) h4) hc
theorem lw_placeOf (Wd : zzWC l D cA ad Ex) (Xo : zl_XOk Ex) {M M2 : zzMd} {p0 k : Int32} (hr : zl_R (cdl [2, 0, 1]) false (fX11_placeOf [.ref 0, .int p0] M) k M2) : zl_C l D cA ad Ex yL_placeOf cL_placeOf 4 [(0, 9, 12, 21), (0, 9, 15, 13)] 8 125 [.ref 0, .int p0, .ref 73] M k M2 := by
  refine zl_meth (by decide) (Nat.le_of_ble_eq_true rfl) (fun p e R s m args below meth c ls X hP hS hl => ?_)
  have hl : lv_has ls 4 [(0, .ref (ad 0)), (1, .int p0), (2, .ref (ad 73))] := hl
  have hx := X.1
  have hb := X.2.1
  refine lv_aload_n hx hb dL_placeOf_0 rfl (lv_at hl 2 rfl) ?_
  refine lv_iconst (v := 0) hx hb dL_placeOf_1 (by decide) ?_
  refine lv_aload_n hx hb dL_placeOf_2 rfl (lv_at hl 0 rfl) ?_
  refine lv_iload_n hx hb dL_placeOf_3 rfl (lv_at hl 1 rfl) ?_
  refine zl_call (n := 1) (As := [.int p0]) (rest := [.int 0, .ref (ad 73)]) X Wd.2.2.1 (zz_kv (zz_inl (by decide +kernel)) ⟨rfl, by decide, by decide, by decide +kernel⟩) (mm_X11_placeOf Wd) (by decide) rfl hl.1 (Nat.le_of_ble_eq_true rfl) hS hP dL_placeOf_4 hr (fun v M1 hk hM H1 locs1 hS hP => ?_) (fun x hk hc H1 locs1 q ce hS hP h1 h2 h3 => ?_)
  · subst hM
    subst hk
    refine lv_i2l (v := v.toInt64) hx hb dL_placeOf_7 rfl ?_
    refine zl_last X Wd.2.1 hS hP dL_placeOf_8 (fun H2 locs2 hS hP => ?_)
    refine lv_goto (tgt := 18) hx hb dL_placeOf_9 (by decide) ?_
    refine lv_iconst (v := 0) hx hb dL_placeOf_18 (by decide) ?_
    exact zl_end X hS hP dL_placeOf_19 (Nat.zero_le _) (Nat.zero_le _)
  · rcases (show x = 0 ∨ x = 1 ∨ x = 2 ∨ 3 ≤ x by omega) with rfl | rfl | rfl | h4
    · have hk : k = 2 := hk
      subst hk
      refine zl_catch X Xo (x := 0) (by decide) [⟨0, 9, 12, 21⟩] ⟨0, 9, 15, 13⟩ [] rfl rfl rfl (List.forall_mem_cons.mpr ⟨⟨2, by decide, by decide, rfl⟩, (fun _ h => nomatch h)⟩) h1 h2 h3 ?_
      refine lv_astore_n hx hb dL_placeOf_15 rfl hl (by decide) rfl (fun ls hl => ?_)
      refine lv_iconst (v := 2) hx hb dL_placeOf_16 (by decide) ?_
      exact zl_end X hS hP dL_placeOf_17 (Nat.le_refl _) (Nat.le_refl _)
    · exact absurd rfl hc
    · have hk : k = 1 := hk
      subst hk
      refine zl_catch X Xo (x := 2) (by decide) [] ⟨0, 9, 12, 21⟩ [⟨0, 9, 15, 13⟩] rfl rfl rfl (fun _ h => nomatch h) h1 h2 h3 ?_
      refine lv_astore_n hx hb dL_placeOf_12 rfl hl (by decide) rfl (fun ls hl => ?_)
      refine lv_iconst (v := 1) hx hb dL_placeOf_13 (by decide) ?_
      exact zl_end X hS hP dL_placeOf_14 (Nat.le_refl _) (Nat.le_refl _)
    · exact absurd (cdl_3 (by decide) h4) hc
theorem lw_isReady (Wd : zzWC l D cA ad Ex) (Xo : zl_XOk Ex) {M M2 : zzMd} {p0 k : Int32} (hr : zl_R (cdl [2, 0, 1]) true (fX11_isReady [.ref 0, .int p0] M) k M2) : zl_C l D cA ad Ex yL_isReady cL_isReady 4 [(0, 16, 19, 21), (0, 16, 22, 13)] 8 125 [.ref 0, .int p0, .ref 73] M k M2 := by
  refine zl_meth (by decide) (Nat.le_of_ble_eq_true rfl) (fun p e R s m args below meth c ls X hP hS hl => ?_)
  have hl : lv_has ls 4 [(0, .ref (ad 0)), (1, .int p0), (2, .ref (ad 73))] := hl
  have hx := X.1
  have hb := X.2.1
  refine lv_aload_n hx hb dL_isReady_0 rfl (lv_at hl 2 rfl) ?_
  refine lv_iconst (v := 0) hx hb dL_isReady_1 (by decide) ?_
  refine lv_aload_n hx hb dL_isReady_2 rfl (lv_at hl 0 rfl) ?_
  refine lv_iload_n hx hb dL_isReady_3 rfl (lv_at hl 1 rfl) ?_
  refine zl_call (n := 1) (As := [.int p0]) (rest := [.int 0, .ref (ad 73)]) X Wd.2.2.1 (zz_kv (zz_inl (by decide +kernel)) ⟨rfl, by decide, by decide, by decide +kernel⟩) (mm_X11_isReady Wd) (by decide) rfl hl.1 (Nat.le_of_ble_eq_true rfl) hS hP dL_isReady_4 hr (fun v M1 hk hM H1 locs1 hS hP => ?_) (fun x hk hc H1 locs1 q ce hS hP h1 h2 h3 => ?_)
  · subst hM
    subst hk
    refine lv_if_eq (tgt := 14) hx hb dL_isReady_7 (by decide) (fun h => ?_) (fun h => ?_)
    · rw [show zl_o true v = 0 from if_pos h]
      refine lv_lconst (v := 0) hx hb dL_isReady_14 rfl ?_
      refine zl_last X Wd.2.1 hS hP dL_isReady_15 (fun H2 locs2 hS hP => ?_)
      refine lv_goto (tgt := 25) hx hb dL_isReady_16 (by decide) ?_
      refine lv_iconst (v := 0) hx hb dL_isReady_25 (by decide) ?_
      exact zl_end X hS hP dL_isReady_26 (Nat.zero_le _) (Nat.zero_le _)
    · rw [show zl_o true v = 1 from if_neg h]
      refine lv_lconst (v := 1) hx hb dL_isReady_10 rfl ?_
      refine lv_goto (tgt := 15) hx hb dL_isReady_11 (by decide) ?_
      refine zl_last X Wd.2.1 hS hP dL_isReady_15 (fun H2 locs2 hS hP => ?_)
      refine lv_goto (tgt := 25) hx hb dL_isReady_16 (by decide) ?_
      refine lv_iconst (v := 0) hx hb dL_isReady_25 (by decide) ?_
      exact zl_end X hS hP dL_isReady_26 (Nat.zero_le _) (Nat.zero_le _)
  · rcases (show x = 0 ∨ x = 1 ∨ x = 2 ∨ 3 ≤ x by omega) with rfl | rfl | rfl | h4
    · have hk : k = 2 := hk
      subst hk
      refine zl_catch X Xo (x := 0) (by decide) [⟨0, 16, 19, 21⟩] ⟨0, 16, 22, 13⟩ [] rfl rfl rfl (List.forall_mem_cons.mpr ⟨⟨2, by decide, by decide, rfl⟩, (fun _ h => nomatch h)⟩) h1 h2 h3 ?_
      refine lv_astore_n hx hb dL_isReady_22 rfl hl (by decide) rfl (fun ls hl => ?_)
      refine lv_iconst (v := 2) hx hb dL_isReady_23 (by decide) ?_
      exact zl_end X hS hP dL_isReady_24 (Nat.le_refl _) (Nat.le_refl _)
    · exact absurd rfl hc
    · have hk : k = 1 := hk
      subst hk
      refine zl_catch X Xo (x := 2) (by decide) [] ⟨0, 16, 19, 21⟩ [⟨0, 16, 22, 13⟩] rfl rfl rfl (fun _ h => nomatch h) h1 h2 h3 ?_
      refine lv_astore_n hx hb dL_isReady_19 rfl hl (by decide) rfl (fun ls hl => ?_)
      refine lv_iconst (v := 1) hx hb dL_isReady_20 (by decide) ?_
      exact zl_end X hS hP dL_isReady_21 (Nat.le_refl _) (Nat.le_refl _)
    · exact absurd (cdl_3 (by decide) h4) hc
theorem lw_isBehind (Wd : zzWC l D cA ad Ex) (Xo : zl_XOk Ex) {M M2 : zzMd} {p0 p1 k : Int32} (hr : zl_R (cdl [2, 0, 1]) true (fX11_isBehind [.ref 0, .int p0, .int p1] M) k M2) : zl_C l D cA ad Ex yL_isBehind cL_isBehind 5 [(0, 17, 20, 21), (0, 17, 24, 13)] 8 127 [.ref 0, .int p0, .int p1, .ref 73] M k M2 := by
  refine zl_meth (by decide) (Nat.le_of_ble_eq_true rfl) (fun p e R s m args below meth c ls X hP hS hl => ?_)
  have hl : lv_has ls 5 [(0, .ref (ad 0)), (1, .int p0), (2, .int p1), (3, .ref (ad 73))] := hl
  have hx := X.1
  have hb := X.2.1
  refine lv_aload_n hx hb dL_isBehind_0 rfl (lv_at hl 3 rfl) ?_
  refine lv_iconst (v := 0) hx hb dL_isBehind_1 (by decide) ?_
  refine lv_aload_n hx hb dL_isBehind_2 rfl (lv_at hl 0 rfl) ?_
  refine lv_iload_n hx hb dL_isBehind_3 rfl (lv_at hl 1 rfl) ?_
  refine lv_iload_n hx hb dL_isBehind_4 rfl (lv_at hl 2 rfl) ?_
  refine zl_call (n := 2) (As := [.int p0, .int p1]) (rest := [.int 0, .ref (ad 73)]) X Wd.2.2.1 (zz_kv (zz_inl (by decide +kernel)) ⟨rfl, by decide, by decide, by decide +kernel⟩) (mm_X11_isBehind Wd) (by decide) rfl hl.1 (Nat.le_of_ble_eq_true rfl) hS hP dL_isBehind_5 hr (fun v M1 hk hM H1 locs1 hS hP => ?_) (fun x hk hc H1 locs1 q ce hS hP h1 h2 h3 => ?_)
  · subst hM
    subst hk
    refine lv_if_eq (tgt := 15) hx hb dL_isBehind_8 (by decide) (fun h => ?_) (fun h => ?_)
    · rw [show zl_o true v = 0 from if_pos h]
      refine lv_lconst (v := 0) hx hb dL_isBehind_15 rfl ?_
      refine zl_last X Wd.2.1 hS hP dL_isBehind_16 (fun H2 locs2 hS hP => ?_)
      refine lv_goto (tgt := 28) hx hb dL_isBehind_17 (by decide) ?_
      refine lv_iconst (v := 0) hx hb dL_isBehind_28 (by decide) ?_
      exact zl_end X hS hP dL_isBehind_29 (Nat.zero_le _) (Nat.zero_le _)
    · rw [show zl_o true v = 1 from if_neg h]
      refine lv_lconst (v := 1) hx hb dL_isBehind_11 rfl ?_
      refine lv_goto (tgt := 16) hx hb dL_isBehind_12 (by decide) ?_
      refine zl_last X Wd.2.1 hS hP dL_isBehind_16 (fun H2 locs2 hS hP => ?_)
      refine lv_goto (tgt := 28) hx hb dL_isBehind_17 (by decide) ?_
      refine lv_iconst (v := 0) hx hb dL_isBehind_28 (by decide) ?_
      exact zl_end X hS hP dL_isBehind_29 (Nat.zero_le _) (Nat.zero_le _)
  · rcases (show x = 0 ∨ x = 1 ∨ x = 2 ∨ 3 ≤ x by omega) with rfl | rfl | rfl | h4
    · have hk : k = 2 := hk
      subst hk
      refine zl_catch X Xo (x := 0) (by decide) [⟨0, 17, 20, 21⟩] ⟨0, 17, 24, 13⟩ [] rfl rfl rfl (List.forall_mem_cons.mpr ⟨⟨2, by decide, by decide, rfl⟩, (fun _ h => nomatch h)⟩) h1 h2 h3 ?_
      refine lv_astore hx hb dL_isBehind_24 hl (by decide) rfl (fun ls hl => ?_)
      refine lv_iconst (v := 2) hx hb dL_isBehind_26 (by decide) ?_
      exact zl_end X hS hP dL_isBehind_27 (Nat.le_refl _) (Nat.le_refl _)
    · exact absurd rfl hc
    · have hk : k = 1 := hk
      subst hk
      refine zl_catch X Xo (x := 2) (by decide) [] ⟨0, 17, 20, 21⟩ [⟨0, 17, 24, 13⟩] rfl rfl rfl (fun _ h => nomatch h) h1 h2 h3 ?_
      refine lv_astore hx hb dL_isBehind_20 hl (by decide) rfl (fun ls hl => ?_)
      refine lv_iconst (v := 1) hx hb dL_isBehind_22 (by decide) ?_
      exact zl_end X hS hP dL_isBehind_23 (Nat.le_refl _) (Nat.le_refl _)
    · exact absurd (cdl_3 (by decide) h4) hc
theorem lw_running (Wd : zzWC l D cA ad Ex) (Xo : zl_XOk Ex) {M M2 : zzMd} {p0 p1 k : Int32} (hr : zl_R (cdl [2, 0, 1]) false (fX11_running [.ref 0, .int p0, .int p1] M) k M2) : zl_C l D cA ad Ex yL_running cL_running 5 [(0, 10, 13, 21), (0, 10, 17, 13)] 8 126 [.ref 0, .int p0, .int p1, .ref 73] M k M2 := by
  refine zl_meth (by decide) (Nat.le_of_ble_eq_true rfl) (fun p e R s m args below meth c ls X hP hS hl => ?_)
  have hl : lv_has ls 5 [(0, .ref (ad 0)), (1, .int p0), (2, .int p1), (3, .ref (ad 73))] := hl
  have hx := X.1
  have hb := X.2.1
  refine lv_aload_n hx hb dL_running_0 rfl (lv_at hl 3 rfl) ?_
  refine lv_iconst (v := 0) hx hb dL_running_1 (by decide) ?_
  refine lv_aload_n hx hb dL_running_2 rfl (lv_at hl 0 rfl) ?_
  refine lv_iload_n hx hb dL_running_3 rfl (lv_at hl 1 rfl) ?_
  refine lv_iload_n hx hb dL_running_4 rfl (lv_at hl 2 rfl) ?_
  refine zl_call (n := 2) (As := [.int p0, .int p1]) (rest := [.int 0, .ref (ad 73)]) X Wd.2.2.1 (zz_kv (zz_inl (by decide +kernel)) ⟨rfl, by decide, by decide, by decide +kernel⟩) (mm_X11_running Wd) (by decide) rfl hl.1 (Nat.le_of_ble_eq_true rfl) hS hP dL_running_5 hr (fun v M1 hk hM H1 locs1 hS hP => ?_) (fun x hk hc H1 locs1 q ce hS hP h1 h2 h3 => ?_)
  · subst hM
    subst hk
    refine lv_i2l (v := v.toInt64) hx hb dL_running_8 rfl ?_
    refine zl_last X Wd.2.1 hS hP dL_running_9 (fun H2 locs2 hS hP => ?_)
    refine lv_goto (tgt := 21) hx hb dL_running_10 (by decide) ?_
    refine lv_iconst (v := 0) hx hb dL_running_21 (by decide) ?_
    exact zl_end X hS hP dL_running_22 (Nat.zero_le _) (Nat.zero_le _)
  · rcases (show x = 0 ∨ x = 1 ∨ x = 2 ∨ 3 ≤ x by omega) with rfl | rfl | rfl | h4
    · have hk : k = 2 := hk
      subst hk
      refine zl_catch X Xo (x := 0) (by decide) [⟨0, 10, 13, 21⟩] ⟨0, 10, 17, 13⟩ [] rfl rfl rfl (List.forall_mem_cons.mpr ⟨⟨2, by decide, by decide, rfl⟩, (fun _ h => nomatch h)⟩) h1 h2 h3 ?_
      refine lv_astore hx hb dL_running_17 hl (by decide) rfl (fun ls hl => ?_)
      refine lv_iconst (v := 2) hx hb dL_running_19 (by decide) ?_
      exact zl_end X hS hP dL_running_20 (Nat.le_refl _) (Nat.le_refl _)
    · exact absurd rfl hc
    · have hk : k = 1 := hk
      subst hk
      refine zl_catch X Xo (x := 2) (by decide) [] ⟨0, 10, 13, 21⟩ [⟨0, 10, 17, 13⟩] rfl rfl rfl (fun _ h => nomatch h) h1 h2 h3 ?_
      refine lv_astore hx hb dL_running_13 hl (by decide) rfl (fun ls hl => ?_)
      refine lv_iconst (v := 1) hx hb dL_running_15 (by decide) ?_
      exact zl_end X hS hP dL_running_16 (Nat.le_refl _) (Nat.le_refl _)
    · exact absurd (cdl_3 (by decide) h4) hc
theorem lw_objectOf (Wd : zzWC l D cA ad Ex) (Xo : zl_XOk Ex) {M M2 : zzMd} {p0 k : Int32} (hr : zl_R (cdl [0, 0, 1]) false (fX11_objectOf [.ref 0, .int p0] M) k M2) : zl_C l D cA ad Ex yL_objectOf cL_objectOf 4 [(0, 9, 12, 21)] 7 103 [.ref 0, .int p0, .ref 73] M k M2 := by
  refine zl_meth (by decide) (Nat.le_of_ble_eq_true rfl) (fun p e R s m args below meth c ls X hP hS hl => ?_)
  have hl : lv_has ls 4 [(0, .ref (ad 0)), (1, .int p0), (2, .ref (ad 73))] := hl
  have hx := X.1
  have hb := X.2.1
  refine lv_aload_n hx hb dL_objectOf_0 rfl (lv_at hl 2 rfl) ?_
  refine lv_iconst (v := 0) hx hb dL_objectOf_1 (by decide) ?_
  refine lv_aload_n hx hb dL_objectOf_2 rfl (lv_at hl 0 rfl) ?_
  refine lv_iload_n hx hb dL_objectOf_3 rfl (lv_at hl 1 rfl) ?_
  refine zl_call (n := 1) (As := [.int p0]) (rest := [.int 0, .ref (ad 73)]) X Wd.2.2.1 (zz_kv (zz_inl (by decide +kernel)) ⟨rfl, by decide, by decide, by decide +kernel⟩) (mm_X11_objectOf Wd) (by decide) rfl hl.1 (Nat.le_of_ble_eq_true rfl) hS hP dL_objectOf_4 hr (fun v M1 hk hM H1 locs1 hS hP => ?_) (fun x hk hc H1 locs1 q ce hS hP h1 h2 h3 => ?_)
  · subst hM
    subst hk
    refine lv_i2l (v := v.toInt64) hx hb dL_objectOf_7 rfl ?_
    refine zl_last X Wd.2.1 hS hP dL_objectOf_8 (fun H2 locs2 hS hP => ?_)
    refine lv_goto (tgt := 15) hx hb dL_objectOf_9 (by decide) ?_
    refine lv_iconst (v := 0) hx hb dL_objectOf_15 (by decide) ?_
    exact zl_end X hS hP dL_objectOf_16 (Nat.zero_le _) (Nat.zero_le _)
  · rcases (show x = 0 ∨ x = 1 ∨ x = 2 ∨ 3 ≤ x by omega) with rfl | rfl | rfl | h4
    · exact absurd rfl hc
    · exact absurd rfl hc
    · have hk : k = 1 := hk
      subst hk
      refine zl_catch X Xo (x := 2) (by decide) [] ⟨0, 9, 12, 21⟩ [] rfl rfl rfl (fun _ h => nomatch h) h1 h2 h3 ?_
      refine lv_astore_n hx hb dL_objectOf_12 rfl hl (by decide) rfl (fun ls hl => ?_)
      refine lv_iconst (v := 1) hx hb dL_objectOf_13 (by decide) ?_
      exact zl_end X hS hP dL_objectOf_14 (Nat.le_refl _) (Nat.le_refl _)
    · exact absurd (cdl_3 (by decide) h4) hc
end

section
variable {l : Launch} {D : va_G} {cA : Nat → ClassId} {ad : Nat → Nat} {Ex : (Nat → Prop) → State → Heap → Prop}
theorem lw_seen (Wd : zzWC l D cA ad Ex) (Xo : zl_XOk Ex) {M M2 : zzMd} {p0 k : Int32} (hr : zl_R (cdl [1]) false (fX11_seen [.ref 0, .int p0] M) k M2) : zl_C l D cA ad Ex yL_seen cL_seen 4 [(0, 9, 12, 13)] 7 104 [.ref 0, .int p0, .ref 73] M k M2 := by
  refine zl_meth (by decide) (Nat.le_of_ble_eq_true rfl) (fun p e R s m args below meth c ls X hP hS hl => ?_)
  have hl : lv_has ls 4 [(0, .ref (ad 0)), (1, .int p0), (2, .ref (ad 73))] := hl
  have hx := X.1
  have hb := X.2.1
  refine lv_aload_n hx hb dL_seen_0 rfl (lv_at hl 2 rfl) ?_
  refine lv_iconst (v := 0) hx hb dL_seen_1 (by decide) ?_
  refine lv_aload_n hx hb dL_seen_2 rfl (lv_at hl 0 rfl) ?_
  refine lv_iload_n hx hb dL_seen_3 rfl (lv_at hl 1 rfl) ?_
  refine zl_call (n := 1) (As := [.int p0]) (rest := [.int 0, .ref (ad 73)]) X Wd.2.2.1 (zz_kv (zz_inl (by decide +kernel)) ⟨rfl, by decide, by decide, by decide +kernel⟩) (mm_X11_seen Wd) (by decide) rfl hl.1 (Nat.le_of_ble_eq_true rfl) hS hP dL_seen_4 hr (fun v M1 hk hM H1 locs1 hS hP => ?_) (fun x hk hc H1 locs1 q ce hS hP h1 h2 h3 => ?_)
  · subst hM
    subst hk
    refine lv_i2l (v := v.toInt64) hx hb dL_seen_7 rfl ?_
    refine zl_last X Wd.2.1 hS hP dL_seen_8 (fun H2 locs2 hS hP => ?_)
    refine lv_goto (tgt := 15) hx hb dL_seen_9 (by decide) ?_
    refine lv_iconst (v := 0) hx hb dL_seen_15 (by decide) ?_
    exact zl_end X hS hP dL_seen_16 (Nat.zero_le _) (Nat.zero_le _)
  · rcases (show x = 0 ∨ x = 1 ∨ x = 2 ∨ 3 ≤ x by omega) with rfl | rfl | rfl | h4
    · have hk : k = 1 := hk
      subst hk
      refine zl_catch X Xo (x := 0) (by decide) [] ⟨0, 9, 12, 13⟩ [] rfl rfl rfl (fun _ h => nomatch h) h1 h2 h3 ?_
      refine lv_astore_n hx hb dL_seen_12 rfl hl (by decide) rfl (fun ls hl => ?_)
      refine lv_iconst (v := 1) hx hb dL_seen_13 (by decide) ?_
      exact zl_end X hS hP dL_seen_14 (Nat.le_refl _) (Nat.le_refl _)
    · exact absurd rfl hc
    · exact absurd rfl hc
    · exact absurd (cdl_3 (by decide) h4) hc
theorem lw_queued (Wd : zzWC l D cA ad Ex) (Xo : zl_XOk Ex) {M M2 : zzMd} {p0 p1 k : Int32} (hr : zl_R (cdl [1, 0, 2]) false (fX11_queued [.ref 0, .int p0, .int p1] M) k M2) : zl_C l D cA ad Ex yL_queued cL_queued 5 [(0, 10, 13, 13), (0, 10, 17, 21)] 7 105 [.ref 0, .int p0, .int p1, .ref 73] M k M2 := by
  refine zl_meth (by decide) (Nat.le_of_ble_eq_true rfl) (fun p e R s m args below meth c ls X hP hS hl => ?_)
  have hl : lv_has ls 5 [(0, .ref (ad 0)), (1, .int p0), (2, .int p1), (3, .ref (ad 73))] := hl
  have hx := X.1
  have hb := X.2.1
  refine lv_aload_n hx hb dL_queued_0 rfl (lv_at hl 3 rfl) ?_
  refine lv_iconst (v := 0) hx hb dL_queued_1 (by decide) ?_
  refine lv_aload_n hx hb dL_queued_2 rfl (lv_at hl 0 rfl) ?_
  refine lv_iload_n hx hb dL_queued_3 rfl (lv_at hl 1 rfl) ?_
  refine lv_iload_n hx hb dL_queued_4 rfl (lv_at hl 2 rfl) ?_
  refine zl_call (n := 2) (As := [.int p0, .int p1]) (rest := [.int 0, .ref (ad 73)]) X Wd.2.2.1 (zz_kv (zz_inl (by decide +kernel)) ⟨rfl, by decide, by decide, by decide +kernel⟩) (mm_X11_queued Wd) (by decide) rfl hl.1 (Nat.le_of_ble_eq_true rfl) hS hP dL_queued_5 hr (fun v M1 hk hM H1 locs1 hS hP => ?_) (fun x hk hc H1 locs1 q ce hS hP h1 h2 h3 => ?_)
  · subst hM
    subst hk
    refine lv_i2l (v := v.toInt64) hx hb dL_queued_8 rfl ?_
    refine zl_last X Wd.2.1 hS hP dL_queued_9 (fun H2 locs2 hS hP => ?_)
    refine lv_goto (tgt := 21) hx hb dL_queued_10 (by decide) ?_
    refine lv_iconst (v := 0) hx hb dL_queued_21 (by decide) ?_
    exact zl_end X hS hP dL_queued_22 (Nat.zero_le _) (Nat.zero_le _)
  · rcases (show x = 0 ∨ x = 1 ∨ x = 2 ∨ 3 ≤ x by omega) with rfl | rfl | rfl | h4
    · have hk : k = 1 := hk
      subst hk
      refine zl_catch X Xo (x := 0) (by decide) [] ⟨0, 10, 13, 13⟩ [⟨0, 10, 17, 21⟩] rfl rfl rfl (fun _ h => nomatch h) h1 h2 h3 ?_
      refine lv_astore hx hb dL_queued_13 hl (by decide) rfl (fun ls hl => ?_)
      refine lv_iconst (v := 1) hx hb dL_queued_15 (by decide) ?_
      exact zl_end X hS hP dL_queued_16 (Nat.le_refl _) (Nat.le_refl _)
    · exact absurd rfl hc
    · have hk : k = 2 := hk
      subst hk
      refine zl_catch X Xo (x := 2) (by decide) [⟨0, 10, 13, 13⟩] ⟨0, 10, 17, 21⟩ [] rfl rfl rfl (List.forall_mem_cons.mpr ⟨⟨0, by decide, by decide, rfl⟩, (fun _ h => nomatch h)⟩) h1 h2 h3 ?_
      refine lv_astore hx hb dL_queued_17 hl (by decide) rfl (fun ls hl => ?_)
      refine lv_iconst (v := 2) hx hb dL_queued_19 (by decide) ?_
      exact zl_end X hS hP dL_queued_20 (Nat.le_refl _) (Nat.le_refl _)
    · exact absurd (cdl_3 (by decide) h4) hc
theorem lw_failures (Wd : zzWC l D cA ad Ex) (Xo : zl_XOk Ex) {M M2 : zzMd} {p0 p1 k : Int32} (hr : zl_R (cdl [1, 0, 2]) false (fX11_failures [.ref 0, .int p0, .int p1] M) k M2) : zl_C l D cA ad Ex yL_failures cL_failures 5 [(0, 10, 13, 13), (0, 10, 17, 21)] 8 126 [.ref 0, .int p0, .int p1, .ref 73] M k M2 := by
  refine zl_meth (by decide) (Nat.le_of_ble_eq_true rfl) (fun p e R s m args below meth c ls X hP hS hl => ?_)
  have hl : lv_has ls 5 [(0, .ref (ad 0)), (1, .int p0), (2, .int p1), (3, .ref (ad 73))] := hl
  have hx := X.1
  have hb := X.2.1
  refine lv_aload_n hx hb dL_failures_0 rfl (lv_at hl 3 rfl) ?_
  refine lv_iconst (v := 0) hx hb dL_failures_1 (by decide) ?_
  refine lv_aload_n hx hb dL_failures_2 rfl (lv_at hl 0 rfl) ?_
  refine lv_iload_n hx hb dL_failures_3 rfl (lv_at hl 1 rfl) ?_
  refine lv_iload_n hx hb dL_failures_4 rfl (lv_at hl 2 rfl) ?_
  refine zl_call (n := 2) (As := [.int p0, .int p1]) (rest := [.int 0, .ref (ad 73)]) X Wd.2.2.1 (zz_kv (zz_inl (by decide +kernel)) ⟨rfl, by decide, by decide, by decide +kernel⟩) (mm_X11_failures Wd) (by decide) rfl hl.1 (Nat.le_of_ble_eq_true rfl) hS hP dL_failures_5 hr (fun v M1 hk hM H1 locs1 hS hP => ?_) (fun x hk hc H1 locs1 q ce hS hP h1 h2 h3 => ?_)
  · subst hM
    subst hk
    refine lv_i2l (v := v.toInt64) hx hb dL_failures_8 rfl ?_
    refine zl_last X Wd.2.1 hS hP dL_failures_9 (fun H2 locs2 hS hP => ?_)
    refine lv_goto (tgt := 21) hx hb dL_failures_10 (by decide) ?_
    refine lv_iconst (v := 0) hx hb dL_failures_21 (by decide) ?_
    exact zl_end X hS hP dL_failures_22 (Nat.zero_le _) (Nat.zero_le _)
  · rcases (show x = 0 ∨ x = 1 ∨ x = 2 ∨ 3 ≤ x by omega) with rfl | rfl | rfl | h4
    · have hk : k = 1 := hk
      subst hk
      refine zl_catch X Xo (x := 0) (by decide) [] ⟨0, 10, 13, 13⟩ [⟨0, 10, 17, 21⟩] rfl rfl rfl (fun _ h => nomatch h) h1 h2 h3 ?_
      refine lv_astore hx hb dL_failures_13 hl (by decide) rfl (fun ls hl => ?_)
      refine lv_iconst (v := 1) hx hb dL_failures_15 (by decide) ?_
      exact zl_end X hS hP dL_failures_16 (Nat.le_refl _) (Nat.le_refl _)
    · exact absurd rfl hc
    · have hk : k = 2 := hk
      subst hk
      refine zl_catch X Xo (x := 2) (by decide) [⟨0, 10, 13, 13⟩] ⟨0, 10, 17, 21⟩ [] rfl rfl rfl (List.forall_mem_cons.mpr ⟨⟨0, by decide, by decide, rfl⟩, (fun _ h => nomatch h)⟩) h1 h2 h3 ?_
      refine lv_astore hx hb dL_failures_17 hl (by decide) rfl (fun ls hl => ?_)
      refine lv_iconst (v := 2) hx hb dL_failures_19 (by decide) ?_
      exact zl_end X hS hP dL_failures_20 (Nat.le_refl _) (Nat.le_refl _)
    · exact absurd (cdl_3 (by decide) h4) hc
theorem lw_believed (Wd : zzWC l D cA ad Ex) (Xo : zl_XOk Ex) {M M2 : zzMd} {p0 p1 p2 k : Int32} (hr : zl_R (cdl [1, 0, 2]) false (fX11_believed [.ref 0, .int p0, .int p1, .int p2] M) k M2) : zl_C l D cA ad Ex yL_believed cL_believed 6 [(0, 12, 15, 13), (0, 12, 19, 21)] 8 128 [.ref 0, .int p0, .int p1, .int p2, .ref 73] M k M2 := by
  refine zl_meth (by decide) (Nat.le_of_ble_eq_true rfl) (fun p e R s m args below meth c ls X hP hS hl => ?_)
  have hl : lv_has ls 6 [(0, .ref (ad 0)), (1, .int p0), (2, .int p1), (3, .int p2), (4, .ref (ad 73))] := hl
  have hx := X.1
  have hb := X.2.1
  refine lv_aload hx hb dL_believed_0 (lv_at hl 4 rfl) ?_
  refine lv_iconst (v := 0) hx hb dL_believed_2 (by decide) ?_
  refine lv_aload_n hx hb dL_believed_3 rfl (lv_at hl 0 rfl) ?_
  refine lv_iload_n hx hb dL_believed_4 rfl (lv_at hl 1 rfl) ?_
  refine lv_iload_n hx hb dL_believed_5 rfl (lv_at hl 2 rfl) ?_
  refine lv_iload_n hx hb dL_believed_6 rfl (lv_at hl 3 rfl) ?_
  refine zl_call (n := 3) (As := [.int p0, .int p1, .int p2]) (rest := [.int 0, .ref (ad 73)]) X Wd.2.2.1 (zz_kv (zz_inl (by decide +kernel)) ⟨rfl, by decide, by decide, by decide +kernel⟩) (mm_X11_believed Wd) (by decide) rfl hl.1 (Nat.le_of_ble_eq_true rfl) hS hP dL_believed_7 hr (fun v M1 hk hM H1 locs1 hS hP => ?_) (fun x hk hc H1 locs1 q ce hS hP h1 h2 h3 => ?_)
  · subst hM
    subst hk
    refine lv_i2l (v := v.toInt64) hx hb dL_believed_10 rfl ?_
    refine zl_last X Wd.2.1 hS hP dL_believed_11 (fun H2 locs2 hS hP => ?_)
    refine lv_goto (tgt := 23) hx hb dL_believed_12 (by decide) ?_
    refine lv_iconst (v := 0) hx hb dL_believed_23 (by decide) ?_
    exact zl_end X hS hP dL_believed_24 (Nat.zero_le _) (Nat.zero_le _)
  · rcases (show x = 0 ∨ x = 1 ∨ x = 2 ∨ 3 ≤ x by omega) with rfl | rfl | rfl | h4
    · have hk : k = 1 := hk
      subst hk
      refine zl_catch X Xo (x := 0) (by decide) [] ⟨0, 12, 15, 13⟩ [⟨0, 12, 19, 21⟩] rfl rfl rfl (fun _ h => nomatch h) h1 h2 h3 ?_
      refine lv_astore hx hb dL_believed_15 hl (by decide) rfl (fun ls hl => ?_)
      refine lv_iconst (v := 1) hx hb dL_believed_17 (by decide) ?_
      exact zl_end X hS hP dL_believed_18 (Nat.le_refl _) (Nat.le_refl _)
    · exact absurd rfl hc
    · have hk : k = 2 := hk
      subst hk
      refine zl_catch X Xo (x := 2) (by decide) [⟨0, 12, 15, 13⟩] ⟨0, 12, 19, 21⟩ [] rfl rfl rfl (List.forall_mem_cons.mpr ⟨⟨0, by decide, by decide, rfl⟩, (fun _ h => nomatch h)⟩) h1 h2 h3 ?_
      refine lv_astore hx hb dL_believed_19 hl (by decide) rfl (fun ls hl => ?_)
      refine lv_iconst (v := 2) hx hb dL_believed_21 (by decide) ?_
      exact zl_end X hS hP dL_believed_22 (Nat.le_refl _) (Nat.le_refl _)
    · exact absurd (cdl_3 (by decide) h4) hc
theorem lw_watch (Wd : zzWC l D cA ad Ex) (Xo : zl_XOk Ex) {M M2 : zzMd} {p0 p1 k : Int32} (hr : zl_R (cdl [1, 2]) false (fX11_watch [.ref 0, .int p0, .int p1] M) k M2) : zl_C l D cA ad Ex yL_watch cL_watch 5 [(0, 10, 13, 13), (0, 10, 17, 15)] 7 104 [.ref 0, .int p0, .int p1, .ref 73] M k M2 := by
  refine zl_meth (by decide) (Nat.le_of_ble_eq_true rfl) (fun p e R s m args below meth c ls X hP hS hl => ?_)
  have hl : lv_has ls 5 [(0, .ref (ad 0)), (1, .int p0), (2, .int p1), (3, .ref (ad 73))] := hl
  have hx := X.1
  have hb := X.2.1
  refine lv_aload_n hx hb dL_watch_0 rfl (lv_at hl 3 rfl) ?_
  refine lv_iconst (v := 0) hx hb dL_watch_1 (by decide) ?_
  refine lv_aload_n hx hb dL_watch_2 rfl (lv_at hl 0 rfl) ?_
  refine lv_iload_n hx hb dL_watch_3 rfl (lv_at hl 1 rfl) ?_
  refine lv_iload_n hx hb dL_watch_4 rfl (lv_at hl 2 rfl) ?_
  refine zl_call (n := 2) (As := [.int p0, .int p1]) (rest := [.int 0, .ref (ad 73)]) X Wd.2.2.1 (zz_kv (zz_inl (by decide +kernel)) ⟨rfl, by decide, by decide, by decide +kernel⟩) (mm_X11_watch Wd) (by decide) rfl hl.1 (Nat.le_of_ble_eq_true rfl) hS hP dL_watch_5 hr (fun v M1 hk hM H1 locs1 hS hP => ?_) (fun x hk hc H1 locs1 q ce hS hP h1 h2 h3 => ?_)
  · subst hM
    subst hk
    refine lv_i2l (v := v.toInt64) hx hb dL_watch_8 rfl ?_
    refine zl_last X Wd.2.1 hS hP dL_watch_9 (fun H2 locs2 hS hP => ?_)
    refine lv_goto (tgt := 21) hx hb dL_watch_10 (by decide) ?_
    refine lv_iconst (v := 0) hx hb dL_watch_21 (by decide) ?_
    exact zl_end X hS hP dL_watch_22 (Nat.zero_le _) (Nat.zero_le _)
  · rcases (show x = 0 ∨ x = 1 ∨ x = 2 ∨ 3 ≤ x by omega) with rfl | rfl | rfl | h4
    · have hk : k = 1 := hk
      subst hk
      refine zl_catch X Xo (x := 0) (by decide) [] ⟨0, 10, 13, 13⟩ [⟨0, 10, 17, 15⟩] rfl rfl rfl (fun _ h => nomatch h) h1 h2 h3 ?_
      refine lv_astore hx hb dL_watch_13 hl (by decide) rfl (fun ls hl => ?_)
      refine lv_iconst (v := 1) hx hb dL_watch_15 (by decide) ?_
      exact zl_end X hS hP dL_watch_16 (Nat.le_refl _) (Nat.le_refl _)
    · have hk : k = 2 := hk
      subst hk
      refine zl_catch X Xo (x := 1) (by decide) [⟨0, 10, 13, 13⟩] ⟨0, 10, 17, 15⟩ [] rfl rfl rfl (List.forall_mem_cons.mpr ⟨⟨0, by decide, by decide, rfl⟩, (fun _ h => nomatch h)⟩) h1 h2 h3 ?_
      refine lv_astore hx hb dL_watch_17 hl (by decide) rfl (fun ls hl => ?_)
      refine lv_iconst (v := 2) hx hb dL_watch_19 (by decide) ?_
      exact zl_end X hS hP dL_watch_20 (Nat.le_refl _) (Nat.le_refl _)
    · exact absurd rfl hc
    · exact absurd (cdl_3 (by decide) h4) hc
theorem lw_next (Wd : zzWC l D cA ad Ex) (Xo : zl_XOk Ex) {M M2 : zzMd} {p0 k : Int32} (hr : zl_R (cdl [1, 2]) false (fX11_next [.ref 0, .int p0] M) k M2) : zl_C l D cA ad Ex yL_next cL_next 4 [(0, 9, 12, 13), (0, 9, 15, 15)] 7 103 [.ref 0, .int p0, .ref 73] M k M2 := by
  refine zl_meth (by decide) (Nat.le_of_ble_eq_true rfl) (fun p e R s m args below meth c ls X hP hS hl => ?_)
  have hl : lv_has ls 4 [(0, .ref (ad 0)), (1, .int p0), (2, .ref (ad 73))] := hl
  have hx := X.1
  have hb := X.2.1
  refine lv_aload_n hx hb dL_next_0 rfl (lv_at hl 2 rfl) ?_
  refine lv_iconst (v := 0) hx hb dL_next_1 (by decide) ?_
  refine lv_aload_n hx hb dL_next_2 rfl (lv_at hl 0 rfl) ?_
  refine lv_iload_n hx hb dL_next_3 rfl (lv_at hl 1 rfl) ?_
  refine zl_call (n := 1) (As := [.int p0]) (rest := [.int 0, .ref (ad 73)]) X Wd.2.2.1 (zz_kv (zz_inl (by decide +kernel)) ⟨rfl, by decide, by decide, by decide +kernel⟩) (mm_X11_next Wd) (by decide) rfl hl.1 (Nat.le_of_ble_eq_true rfl) hS hP dL_next_4 hr (fun v M1 hk hM H1 locs1 hS hP => ?_) (fun x hk hc H1 locs1 q ce hS hP h1 h2 h3 => ?_)
  · subst hM
    subst hk
    refine lv_i2l (v := v.toInt64) hx hb dL_next_7 rfl ?_
    refine zl_last X Wd.2.1 hS hP dL_next_8 (fun H2 locs2 hS hP => ?_)
    refine lv_goto (tgt := 18) hx hb dL_next_9 (by decide) ?_
    refine lv_iconst (v := 0) hx hb dL_next_18 (by decide) ?_
    exact zl_end X hS hP dL_next_19 (Nat.zero_le _) (Nat.zero_le _)
  · rcases (show x = 0 ∨ x = 1 ∨ x = 2 ∨ 3 ≤ x by omega) with rfl | rfl | rfl | h4
    · have hk : k = 1 := hk
      subst hk
      refine zl_catch X Xo (x := 0) (by decide) [] ⟨0, 9, 12, 13⟩ [⟨0, 9, 15, 15⟩] rfl rfl rfl (fun _ h => nomatch h) h1 h2 h3 ?_
      refine lv_astore_n hx hb dL_next_12 rfl hl (by decide) rfl (fun ls hl => ?_)
      refine lv_iconst (v := 1) hx hb dL_next_13 (by decide) ?_
      exact zl_end X hS hP dL_next_14 (Nat.le_refl _) (Nat.le_refl _)
    · have hk : k = 2 := hk
      subst hk
      refine zl_catch X Xo (x := 1) (by decide) [⟨0, 9, 12, 13⟩] ⟨0, 9, 15, 15⟩ [] rfl rfl rfl (List.forall_mem_cons.mpr ⟨⟨0, by decide, by decide, rfl⟩, (fun _ h => nomatch h)⟩) h1 h2 h3 ?_
      refine lv_astore_n hx hb dL_next_15 rfl hl (by decide) rfl (fun ls hl => ?_)
      refine lv_iconst (v := 2) hx hb dL_next_16 (by decide) ?_
      exact zl_end X hS hP dL_next_17 (Nat.le_refl _) (Nat.le_refl _)
    · exact absurd rfl hc
    · exact absurd (cdl_3 (by decide) h4) hc
theorem lw_list (Wd : zzWC l D cA ad Ex) (Xo : zl_XOk Ex) {M M2 : zzMd} {p0 k : Int32} (hr : zl_R (cdl [1]) false (fX11_list [.ref 0, .int p0] M) k M2) : zl_C l D cA ad Ex yL_list cL_list 4 [(0, 9, 12, 13)] 7 105 [.ref 0, .int p0, .ref 73] M k M2 := by
  refine zl_meth (by decide) (Nat.le_of_ble_eq_true rfl) (fun p e R s m args below meth c ls X hP hS hl => ?_)
  have hl : lv_has ls 4 [(0, .ref (ad 0)), (1, .int p0), (2, .ref (ad 73))] := hl
  have hx := X.1
  have hb := X.2.1
  refine lv_aload_n hx hb dL_list_0 rfl (lv_at hl 2 rfl) ?_
  refine lv_iconst (v := 0) hx hb dL_list_1 (by decide) ?_
  refine lv_aload_n hx hb dL_list_2 rfl (lv_at hl 0 rfl) ?_
  refine lv_iload_n hx hb dL_list_3 rfl (lv_at hl 1 rfl) ?_
  refine zl_call (n := 1) (As := [.int p0]) (rest := [.int 0, .ref (ad 73)]) X Wd.2.2.1 (zz_kv (zz_inl (by decide +kernel)) ⟨rfl, by decide, by decide, by decide +kernel⟩) (mm_X11_list Wd) (by decide) rfl hl.1 (Nat.le_of_ble_eq_true rfl) hS hP dL_list_4 hr (fun v M1 hk hM H1 locs1 hS hP => ?_) (fun x hk hc H1 locs1 q ce hS hP h1 h2 h3 => ?_)
  · subst hM
    subst hk
    refine lv_i2l (v := v.toInt64) hx hb dL_list_7 rfl ?_
    refine zl_last X Wd.2.1 hS hP dL_list_8 (fun H2 locs2 hS hP => ?_)
    refine lv_goto (tgt := 15) hx hb dL_list_9 (by decide) ?_
    refine lv_iconst (v := 0) hx hb dL_list_15 (by decide) ?_
    exact zl_end X hS hP dL_list_16 (Nat.zero_le _) (Nat.zero_le _)
  · rcases (show x = 0 ∨ x = 1 ∨ x = 2 ∨ 3 ≤ x by omega) with rfl | rfl | rfl | h4
    · have hk : k = 1 := hk
      subst hk
      refine zl_catch X Xo (x := 0) (by decide) [] ⟨0, 9, 12, 13⟩ [] rfl rfl rfl (fun _ h => nomatch h) h1 h2 h3 ?_
      refine lv_astore_n hx hb dL_list_12 rfl hl (by decide) rfl (fun ls hl => ?_)
      refine lv_iconst (v := 1) hx hb dL_list_13 (by decide) ?_
      exact zl_end X hS hP dL_list_14 (Nat.le_refl _) (Nat.le_refl _)
    · exact absurd rfl hc
    · exact absurd rfl hc
    · exact absurd (cdl_3 (by decide) h4) hc
theorem lw_compact (Wd : zzWC l D cA ad Ex) (Xo : zl_XOk Ex) {M M2 : zzMd} {p0 k : Int32} (hr : zl_R (cdl [1]) false (fX11_compact [.ref 0, .int p0] M) k M2) : zl_C l D cA ad Ex yL_compact cL_compact 4 [(0, 9, 12, 13)] 7 103 [.ref 0, .int p0, .ref 73] M k M2 := by
  refine zl_meth (by decide) (Nat.le_of_ble_eq_true rfl) (fun p e R s m args below meth c ls X hP hS hl => ?_)
  have hl : lv_has ls 4 [(0, .ref (ad 0)), (1, .int p0), (2, .ref (ad 73))] := hl
  have hx := X.1
  have hb := X.2.1
  refine lv_aload_n hx hb dL_compact_0 rfl (lv_at hl 2 rfl) ?_
  refine lv_iconst (v := 0) hx hb dL_compact_1 (by decide) ?_
  refine lv_aload_n hx hb dL_compact_2 rfl (lv_at hl 0 rfl) ?_
  refine lv_iload_n hx hb dL_compact_3 rfl (lv_at hl 1 rfl) ?_
  refine zl_call (n := 1) (As := [.int p0]) (rest := [.int 0, .ref (ad 73)]) X Wd.2.2.1 (zz_kv (zz_inl (by decide +kernel)) ⟨rfl, by decide, by decide, by decide +kernel⟩) (mm_X11_compact Wd) (by decide) rfl hl.1 (Nat.le_of_ble_eq_true rfl) hS hP dL_compact_4 hr (fun v M1 hk hM H1 locs1 hS hP => ?_) (fun x hk hc H1 locs1 q ce hS hP h1 h2 h3 => ?_)
  · subst hM
    subst hk
    refine lv_i2l (v := v.toInt64) hx hb dL_compact_7 rfl ?_
    refine zl_last X Wd.2.1 hS hP dL_compact_8 (fun H2 locs2 hS hP => ?_)
    refine lv_goto (tgt := 15) hx hb dL_compact_9 (by decide) ?_
    refine lv_iconst (v := 0) hx hb dL_compact_15 (by decide) ?_
    exact zl_end X hS hP dL_compact_16 (Nat.zero_le _) (Nat.zero_le _)
  · rcases (show x = 0 ∨ x = 1 ∨ x = 2 ∨ 3 ≤ x by omega) with rfl | rfl | rfl | h4
    · have hk : k = 1 := hk
      subst hk
      refine zl_catch X Xo (x := 0) (by decide) [] ⟨0, 9, 12, 13⟩ [] rfl rfl rfl (fun _ h => nomatch h) h1 h2 h3 ?_
      refine lv_astore_n hx hb dL_compact_12 rfl hl (by decide) rfl (fun ls hl => ?_)
      refine lv_iconst (v := 1) hx hb dL_compact_13 (by decide) ?_
      exact zl_end X hS hP dL_compact_14 (Nat.le_refl _) (Nat.le_refl _)
    · exact absurd rfl hc
    · exact absurd rfl hc
    · exact absurd (cdl_3 (by decide) h4) hc
theorem lw_tick (Wd : zzWC l D cA ad Ex) (Xo : zl_XOk Ex) {M M2 : zzMd} {p0 k : Int32} (hr : zl_R (cdl [1, 2]) false (fX11_tick [.ref 0, .int p0] M) k M2) : zl_C l D cA ad Ex yL_tick cL_tick 4 [(0, 9, 12, 13), (0, 9, 15, 15)] 7 113 [.ref 0, .int p0, .ref 73] M k M2 := by
  refine zl_meth (by decide) (Nat.le_of_ble_eq_true rfl) (fun p e R s m args below meth c ls X hP hS hl => ?_)
  have hl : lv_has ls 4 [(0, .ref (ad 0)), (1, .int p0), (2, .ref (ad 73))] := hl
  have hx := X.1
  have hb := X.2.1
  refine lv_aload_n hx hb dL_tick_0 rfl (lv_at hl 2 rfl) ?_
  refine lv_iconst (v := 0) hx hb dL_tick_1 (by decide) ?_
  refine lv_aload_n hx hb dL_tick_2 rfl (lv_at hl 0 rfl) ?_
  refine lv_iload_n hx hb dL_tick_3 rfl (lv_at hl 1 rfl) ?_
  refine zl_call (n := 1) (As := [.int p0]) (rest := [.int 0, .ref (ad 73)]) X Wd.2.2.1 (zz_kv (zz_inl (by decide +kernel)) ⟨rfl, by decide, by decide, by decide +kernel⟩) (mm_X11_tick Wd) (by decide) rfl hl.1 (Nat.le_of_ble_eq_true rfl) hS hP dL_tick_4 hr (fun v M1 hk hM H1 locs1 hS hP => ?_) (fun x hk hc H1 locs1 q ce hS hP h1 h2 h3 => ?_)
  · subst hM
    subst hk
    refine lv_i2l (v := v.toInt64) hx hb dL_tick_7 rfl ?_
    refine zl_last X Wd.2.1 hS hP dL_tick_8 (fun H2 locs2 hS hP => ?_)
    refine lv_goto (tgt := 18) hx hb dL_tick_9 (by decide) ?_
    refine lv_iconst (v := 0) hx hb dL_tick_18 (by decide) ?_
    exact zl_end X hS hP dL_tick_19 (Nat.zero_le _) (Nat.zero_le _)
  · rcases (show x = 0 ∨ x = 1 ∨ x = 2 ∨ 3 ≤ x by omega) with rfl | rfl | rfl | h4
    · have hk : k = 1 := hk
      subst hk
      refine zl_catch X Xo (x := 0) (by decide) [] ⟨0, 9, 12, 13⟩ [⟨0, 9, 15, 15⟩] rfl rfl rfl (fun _ h => nomatch h) h1 h2 h3 ?_
      refine lv_astore_n hx hb dL_tick_12 rfl hl (by decide) rfl (fun ls hl => ?_)
      refine lv_iconst (v := 1) hx hb dL_tick_13 (by decide) ?_
      exact zl_end X hS hP dL_tick_14 (Nat.le_refl _) (Nat.le_refl _)
    · have hk : k = 2 := hk
      subst hk
      refine zl_catch X Xo (x := 1) (by decide) [⟨0, 9, 12, 13⟩] ⟨0, 9, 15, 15⟩ [] rfl rfl rfl (List.forall_mem_cons.mpr ⟨⟨0, by decide, by decide, rfl⟩, (fun _ h => nomatch h)⟩) h1 h2 h3 ?_
      refine lv_astore_n hx hb dL_tick_15 rfl hl (by decide) rfl (fun ls hl => ?_)
      refine lv_iconst (v := 2) hx hb dL_tick_16 (by decide) ?_
      exact zl_end X hS hP dL_tick_17 (Nat.le_refl _) (Nat.le_refl _)
    · exact absurd rfl hc
    · exact absurd (cdl_3 (by decide) h4) hc
theorem lw_beat (Wd : zzWC l D cA ad Ex) (Xo : zl_XOk Ex) {M M2 : zzMd} {p0 k : Int32} (hr : zl_R (cdl [2, 3, 1]) true (fX11_beat [.ref 0, .int p0] M) k M2) : zl_C l D cA ad Ex yL_beat cL_beat 4 [(0, 16, 19, 21), (0, 16, 22, 13), (0, 16, 25, 15)] 8 126 [.ref 0, .int p0, .ref 73] M k M2 := by
  refine zl_meth (by decide) (Nat.le_of_ble_eq_true rfl) (fun p e R s m args below meth c ls X hP hS hl => ?_)
  have hl : lv_has ls 4 [(0, .ref (ad 0)), (1, .int p0), (2, .ref (ad 73))] := hl
  have hx := X.1
  have hb := X.2.1
  refine lv_aload_n hx hb dL_beat_0 rfl (lv_at hl 2 rfl) ?_
  refine lv_iconst (v := 0) hx hb dL_beat_1 (by decide) ?_
  refine lv_aload_n hx hb dL_beat_2 rfl (lv_at hl 0 rfl) ?_
  refine lv_iload_n hx hb dL_beat_3 rfl (lv_at hl 1 rfl) ?_
  refine zl_call (n := 1) (As := [.int p0]) (rest := [.int 0, .ref (ad 73)]) X Wd.2.2.1 (zz_kv (zz_inl (by decide +kernel)) ⟨rfl, by decide, by decide, by decide +kernel⟩) (mm_X11_beat Wd) (by decide) rfl hl.1 (Nat.le_of_ble_eq_true rfl) hS hP dL_beat_4 hr (fun v M1 hk hM H1 locs1 hS hP => ?_) (fun x hk hc H1 locs1 q ce hS hP h1 h2 h3 => ?_)
  · subst hM
    subst hk
    refine lv_if_eq (tgt := 14) hx hb dL_beat_7 (by decide) (fun h => ?_) (fun h => ?_)
    · rw [show zl_o true v = 0 from if_pos h]
      refine lv_lconst (v := 0) hx hb dL_beat_14 rfl ?_
      refine zl_last X Wd.2.1 hS hP dL_beat_15 (fun H2 locs2 hS hP => ?_)
      refine lv_goto (tgt := 28) hx hb dL_beat_16 (by decide) ?_
      refine lv_iconst (v := 0) hx hb dL_beat_28 (by decide) ?_
      exact zl_end X hS hP dL_beat_29 (Nat.zero_le _) (Nat.zero_le _)
    · rw [show zl_o true v = 1 from if_neg h]
      refine lv_lconst (v := 1) hx hb dL_beat_10 rfl ?_
      refine lv_goto (tgt := 15) hx hb dL_beat_11 (by decide) ?_
      refine zl_last X Wd.2.1 hS hP dL_beat_15 (fun H2 locs2 hS hP => ?_)
      refine lv_goto (tgt := 28) hx hb dL_beat_16 (by decide) ?_
      refine lv_iconst (v := 0) hx hb dL_beat_28 (by decide) ?_
      exact zl_end X hS hP dL_beat_29 (Nat.zero_le _) (Nat.zero_le _)
  · rcases (show x = 0 ∨ x = 1 ∨ x = 2 ∨ 3 ≤ x by omega) with rfl | rfl | rfl | h4
    · have hk : k = 2 := hk
      subst hk
      refine zl_catch X Xo (x := 0) (by decide) [⟨0, 16, 19, 21⟩] ⟨0, 16, 22, 13⟩ [⟨0, 16, 25, 15⟩] rfl rfl rfl (List.forall_mem_cons.mpr ⟨⟨2, by decide, by decide, rfl⟩, (fun _ h => nomatch h)⟩) h1 h2 h3 ?_
      refine lv_astore_n hx hb dL_beat_22 rfl hl (by decide) rfl (fun ls hl => ?_)
      refine lv_iconst (v := 2) hx hb dL_beat_23 (by decide) ?_
      exact zl_end X hS hP dL_beat_24 (Nat.le_refl _) (Nat.le_refl _)
    · have hk : k = 3 := hk
      subst hk
      refine zl_catch X Xo (x := 1) (by decide) [⟨0, 16, 19, 21⟩, ⟨0, 16, 22, 13⟩] ⟨0, 16, 25, 15⟩ [] rfl rfl rfl (List.forall_mem_cons.mpr ⟨⟨2, by decide, by decide, rfl⟩, (List.forall_mem_cons.mpr ⟨⟨0, by decide, by decide, rfl⟩, (fun _ h => nomatch h)⟩)⟩) h1 h2 h3 ?_
      refine lv_astore_n hx hb dL_beat_25 rfl hl (by decide) rfl (fun ls hl => ?_)
      refine lv_iconst (v := 3) hx hb dL_beat_26 (by decide) ?_
      exact zl_end X hS hP dL_beat_27 (Nat.le_refl _) (Nat.le_refl _)
    · have hk : k = 1 := hk
      subst hk
      refine zl_catch X Xo (x := 2) (by decide) [] ⟨0, 16, 19, 21⟩ [⟨0, 16, 22, 13⟩, ⟨0, 16, 25, 15⟩] rfl rfl rfl (fun _ h => nomatch h) h1 h2 h3 ?_
      refine lv_astore_n hx hb dL_beat_19 rfl hl (by decide) rfl (fun ls hl => ?_)
      refine lv_iconst (v := 1) hx hb dL_beat_20 (by decide) ?_
      exact zl_end X hS hP dL_beat_21 (Nat.le_refl _) (Nat.le_refl _)
    · exact absurd (cdl_3 (by decide) h4) hc
theorem lw_wish (Wd : zzWC l D cA ad Ex) (Xo : zl_XOk Ex) {M M2 : zzMd} {p0 p1 k : Int32} (hr : zl_R (cdl [2, 0, 1]) false (fX11_wish [.ref 0, .int p0, .int p1] M) k M2) : zl_C l D cA ad Ex yL_wish cL_wish 5 [(0, 10, 13, 21), (0, 10, 17, 13)] 8 127 [.ref 0, .int p0, .int p1, .ref 73] M k M2 := by
  refine zl_meth (by decide) (Nat.le_of_ble_eq_true rfl) (fun p e R s m args below meth c ls X hP hS hl => ?_)
  have hl : lv_has ls 5 [(0, .ref (ad 0)), (1, .int p0), (2, .int p1), (3, .ref (ad 73))] := hl
  have hx := X.1
  have hb := X.2.1
  refine lv_aload_n hx hb dL_wish_0 rfl (lv_at hl 3 rfl) ?_
  refine lv_iconst (v := 0) hx hb dL_wish_1 (by decide) ?_
  refine lv_aload_n hx hb dL_wish_2 rfl (lv_at hl 0 rfl) ?_
  refine lv_iload_n hx hb dL_wish_3 rfl (lv_at hl 1 rfl) ?_
  refine lv_iload_n hx hb dL_wish_4 rfl (lv_at hl 2 rfl) ?_
  refine zl_call (n := 2) (As := [.int p0, .int p1]) (rest := [.int 0, .ref (ad 73)]) X Wd.2.2.1 (zz_kv (zz_inl (by decide +kernel)) ⟨rfl, by decide, by decide, by decide +kernel⟩) (mm_X11_wish Wd) (by decide) rfl hl.1 (Nat.le_of_ble_eq_true rfl) hS hP dL_wish_5 hr (fun v M1 hk hM H1 locs1 hS hP => ?_) (fun x hk hc H1 locs1 q ce hS hP h1 h2 h3 => ?_)
  · subst hM
    subst hk
    refine lv_i2l (v := v.toInt64) hx hb dL_wish_8 rfl ?_
    refine zl_last X Wd.2.1 hS hP dL_wish_9 (fun H2 locs2 hS hP => ?_)
    refine lv_goto (tgt := 21) hx hb dL_wish_10 (by decide) ?_
    refine lv_iconst (v := 0) hx hb dL_wish_21 (by decide) ?_
    exact zl_end X hS hP dL_wish_22 (Nat.zero_le _) (Nat.zero_le _)
  · rcases (show x = 0 ∨ x = 1 ∨ x = 2 ∨ 3 ≤ x by omega) with rfl | rfl | rfl | h4
    · have hk : k = 2 := hk
      subst hk
      refine zl_catch X Xo (x := 0) (by decide) [⟨0, 10, 13, 21⟩] ⟨0, 10, 17, 13⟩ [] rfl rfl rfl (List.forall_mem_cons.mpr ⟨⟨2, by decide, by decide, rfl⟩, (fun _ h => nomatch h)⟩) h1 h2 h3 ?_
      refine lv_astore hx hb dL_wish_17 hl (by decide) rfl (fun ls hl => ?_)
      refine lv_iconst (v := 2) hx hb dL_wish_19 (by decide) ?_
      exact zl_end X hS hP dL_wish_20 (Nat.le_refl _) (Nat.le_refl _)
    · exact absurd rfl hc
    · have hk : k = 1 := hk
      subst hk
      refine zl_catch X Xo (x := 2) (by decide) [] ⟨0, 10, 13, 21⟩ [⟨0, 10, 17, 13⟩] rfl rfl rfl (fun _ h => nomatch h) h1 h2 h3 ?_
      refine lv_astore hx hb dL_wish_13 hl (by decide) rfl (fun ls hl => ?_)
      refine lv_iconst (v := 1) hx hb dL_wish_15 (by decide) ?_
      exact zl_end X hS hP dL_wish_16 (Nat.le_refl _) (Nat.le_refl _)
    · exact absurd (cdl_3 (by decide) h4) hc
theorem lw_kindOf (Wd : zzWC l D cA ad Ex) (Xo : zl_XOk Ex) {M M2 : zzMd} {p0 k : Int32} (hr : zl_R (cdl [0, 0, 1]) false (fX11_kindOf [.ref 0, .int p0] M) k M2) : zl_C l D cA ad Ex yL_kindOf cL_kindOf 4 [(0, 9, 12, 21)] 8 124 [.ref 0, .int p0, .ref 73] M k M2 := by
  refine zl_meth (by decide) (Nat.le_of_ble_eq_true rfl) (fun p e R s m args below meth c ls X hP hS hl => ?_)
  have hl : lv_has ls 4 [(0, .ref (ad 0)), (1, .int p0), (2, .ref (ad 73))] := hl
  have hx := X.1
  have hb := X.2.1
  refine lv_aload_n hx hb dL_kindOf_0 rfl (lv_at hl 2 rfl) ?_
  refine lv_iconst (v := 0) hx hb dL_kindOf_1 (by decide) ?_
  refine lv_aload_n hx hb dL_kindOf_2 rfl (lv_at hl 0 rfl) ?_
  refine lv_iload_n hx hb dL_kindOf_3 rfl (lv_at hl 1 rfl) ?_
  refine zl_call (n := 1) (As := [.int p0]) (rest := [.int 0, .ref (ad 73)]) X Wd.2.2.1 (zz_kv (zz_inl (by decide +kernel)) ⟨rfl, by decide, by decide, by decide +kernel⟩) (mm_X11_kindOf Wd) (by decide) rfl hl.1 (Nat.le_of_ble_eq_true rfl) hS hP dL_kindOf_4 hr (fun v M1 hk hM H1 locs1 hS hP => ?_) (fun x hk hc H1 locs1 q ce hS hP h1 h2 h3 => ?_)
  · subst hM
    subst hk
    refine lv_i2l (v := v.toInt64) hx hb dL_kindOf_7 rfl ?_
    refine zl_last X Wd.2.1 hS hP dL_kindOf_8 (fun H2 locs2 hS hP => ?_)
    refine lv_goto (tgt := 15) hx hb dL_kindOf_9 (by decide) ?_
    refine lv_iconst (v := 0) hx hb dL_kindOf_15 (by decide) ?_
    exact zl_end X hS hP dL_kindOf_16 (Nat.zero_le _) (Nat.zero_le _)
  · rcases (show x = 0 ∨ x = 1 ∨ x = 2 ∨ 3 ≤ x by omega) with rfl | rfl | rfl | h4
    · exact absurd rfl hc
    · exact absurd rfl hc
    · have hk : k = 1 := hk
      subst hk
      refine zl_catch X Xo (x := 2) (by decide) [] ⟨0, 9, 12, 21⟩ [] rfl rfl rfl (fun _ h => nomatch h) h1 h2 h3 ?_
      refine lv_astore_n hx hb dL_kindOf_12 rfl hl (by decide) rfl (fun ls hl => ?_)
      refine lv_iconst (v := 1) hx hb dL_kindOf_13 (by decide) ?_
      exact zl_end X hS hP dL_kindOf_14 (Nat.le_refl _) (Nat.le_refl _)
    · exact absurd (cdl_3 (by decide) h4) hc
end

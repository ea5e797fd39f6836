section
theorem zz_at (i : Nat) {w : Cond} (h : (decide (zzTB[i]? = some w) && goodWord w) = true) : w ∈ zzG0 := by
  rw [Bool.and_eq_true] at h
  exact List.mem_filter.mpr ⟨List.mem_of_getElem? (of_decide_eq_true h.1), h.2⟩
def zz_allat : List Nat → List Cond → Bool
  | i :: ps, w :: ws => (decide (zzTB[i]? = some w) && goodWord w) && zz_allat ps ws
  | _, [] => true
  | [], _ :: _ => false
theorem zz_atl : ∀ (ps : List Nat) {ws : List Cond}, zz_allat ps ws = true → ∀ w ∈ ws, w ∈ zzG0
  | i :: ps, w :: ws, h, v, hv => by
    unfold zz_allat at h
    rw [Bool.and_eq_true] at h
    rcases List.mem_cons.mp hv with rfl | hv
    · exact zz_at i h.1
    · exact zz_atl ps h.2 v hv
  | _, [], _, _, hv => absurd hv List.not_mem_nil
  | [], _ :: _, h, _, _ => by cases h
set_option maxRecDepth 100000 in
theorem ff_X0_25 : zz_fw RX0 25 zzCl (zz_kf [0] 3) := zz_fw_of (List.forall_mem_cons.mpr ⟨⟨RX_0, zzT0, 6, "ReconcilerHall$Admission", zzY0, rfl, by decide, zzI0, zz_at 158 (by decide +kernel), Or.inl rfl, zzY0_ok, zzN0⟩, (fun _ h => absurd h List.not_mem_nil)⟩)
set_option maxRecDepth 100000 in
theorem ff_X0_11 : zz_fw RX0 11 zzCl (zz_kf [0] 0) := zz_fw_of (List.forall_mem_cons.mpr ⟨⟨RX_0, zzT0, 6, "ReconcilerHall$Admission", zzY0, rfl, by decide, zzI0, zz_at 155 (by decide +kernel), Or.inl rfl, zzY0_ok, zzN0⟩, (fun _ h => absurd h List.not_mem_nil)⟩)
set_option maxRecDepth 100000 in
theorem fp_0_3 : zz_fp zzCl (zz_kf [0] 3) false := zz_fp_of (List.forall_mem_cons.mpr ⟨⟨(RX_0, zzT0, 6), rfl, rfl, by decide +kernel⟩, (fun _ h => absurd h List.not_mem_nil)⟩)
set_option maxRecDepth 100000 in
theorem ff_X0_28 : zz_fw RX0 28 zzCl (zz_kf [0] 4) := zz_fw_of (List.forall_mem_cons.mpr ⟨⟨RX_0, zzT0, 6, "ReconcilerHall$Admission", zzY0, rfl, by decide, zzI0, zz_at 160 (by decide +kernel), Or.inl rfl, zzY0_ok, zzN0⟩, (fun _ h => absurd h List.not_mem_nil)⟩)
set_option maxRecDepth 100000 in
theorem ff_X0_15 : zz_fw RX0 15 zzCl (zz_kf [0] 1) := zz_fw_of (List.forall_mem_cons.mpr ⟨⟨RX_0, zzT0, 6, "ReconcilerHall$Admission", zzY0, rfl, by decide, zzI0, zz_at 156 (by decide +kernel), Or.inl rfl, zzY0_ok, zzN0⟩, (fun _ h => absurd h List.not_mem_nil)⟩)
set_option maxRecDepth 100000 in
theorem fp_0_4 : zz_fp zzCl (zz_kf [0] 4) false := zz_fp_of (List.forall_mem_cons.mpr ⟨⟨(RX_0, zzT0, 6), rfl, rfl, by decide +kernel⟩, (fun _ h => absurd h List.not_mem_nil)⟩)
set_option maxRecDepth 100000 in
theorem ff_X0_18 : zz_fw RX0 18 zzCl (zz_kf [0] 2) := zz_fw_of (List.forall_mem_cons.mpr ⟨⟨RX_0, zzT0, 6, "ReconcilerHall$Admission", zzY0, rfl, by decide, zzI0, zz_at 157 (by decide +kernel), Or.inl rfl, zzY0_ok, zzN0⟩, (fun _ h => absurd h List.not_mem_nil)⟩)
set_option maxRecDepth 100000 in
theorem kv_X0_37_0 : zz_KV RX0 37 RX_0 1 yX0_runRules cX0_runRules 5 none ∧ zz_KX RX0 37 RX_0 1 yX0_runRules cX0_runRules 5 none := zz_kv (zz_atl [512, 514, 3, 111, 515] (by decide +kernel)) (by decide +kernel)
set_option maxRecDepth 100000 in
theorem kv_X1_9_1 : zz_KV RX1 9 RX_1 1 yX2_enqueue cX2_enqueue 2 none := zz_ku (owner := "ReconcilerHall$Controller") (x := ⟨"ReconcilerHall$Collector", "enqueue", "(I)V"⟩) (zz_atl [892, 893, 895, 851, 112, 860] (by decide +kernel)) rfl (by decide +kernel)
set_option maxRecDepth 100000 in
theorem ff_X2_41 : zz_fw RX2 41 zzCl (zz_kf [1, 2, 3, 4, 5, 6, 7] 11) := zz_fw_of (List.forall_mem_cons.mpr ⟨⟨RX_1, zzT1, 12, "ReconcilerHall$Controller", zzY1, rfl, by decide, zzI1, zz_at 270 (by decide +kernel), Or.inl rfl, zzY1_ok, zzN1⟩, (List.forall_mem_cons.mpr ⟨⟨RX_2, zzT2, 12, "ReconcilerHall$Controller", zzY2, rfl, by decide, zzI2, zz_at 270 (by decide +kernel), Or.inl rfl, zzY2_ok, zzN2⟩, (List.forall_mem_cons.mpr ⟨⟨RX_3, zzT3, 12, "ReconcilerHall$Controller", zzY3, rfl, by decide, zzI3, zz_at 270 (by decide +kernel), Or.inl rfl, zzY3_ok, zzN3⟩, (List.forall_mem_cons.mpr ⟨⟨RX_4, zzT4, 12, "ReconcilerHall$Controller", zzY4, rfl, by decide, zzI4, zz_at 270 (by decide +kernel), Or.inl rfl, zzY4_ok, zzN4⟩, (List.forall_mem_cons.mpr ⟨⟨RX_5, zzT5, 12, "ReconcilerHall$Controller", zzY5, rfl, by decide, zzI5, zz_at 270 (by decide +kernel), Or.inl rfl, zzY5_ok, zzN5⟩, (List.forall_mem_cons.mpr ⟨⟨RX_6, zzT6, 13, "ReconcilerHall$Controller", zzY6, rfl, by decide, zzI6, zz_at 270 (by decide +kernel), Or.inl rfl, zzY6_ok, zzN6⟩, (List.forall_mem_cons.mpr ⟨⟨RX_7, zzT7, 15, "ReconcilerHall$Controller", zzY7, rfl, by decide, zzI7, zz_at 270 (by decide +kernel), Or.inl rfl, zzY7_ok, zzN7⟩, (fun _ h => absurd h List.not_mem_nil)⟩)⟩)⟩)⟩)⟩)⟩)⟩)
set_option maxRecDepth 100000 in
theorem ff_X2_28 : zz_fw RX2 28 zzCl (zz_kf [1, 2, 3, 4, 5, 6, 7] 7) := zz_fw_of (List.forall_mem_cons.mpr ⟨⟨RX_1, zzT1, 12, "ReconcilerHall$Controller", zzY1, rfl, by decide, zzI1, zz_at 263 (by decide +kernel), Or.inl rfl, zzY1_ok, zzN1⟩, (List.forall_mem_cons.mpr ⟨⟨RX_2, zzT2, 12, "ReconcilerHall$Controller", zzY2, rfl, by decide, zzI2, zz_at 263 (by decide +kernel), Or.inl rfl, zzY2_ok, zzN2⟩, (List.forall_mem_cons.mpr ⟨⟨RX_3, zzT3, 12, "ReconcilerHall$Controller", zzY3, rfl, by decide, zzI3, zz_at 263 (by decide +kernel), Or.inl rfl, zzY3_ok, zzN3⟩, (List.forall_mem_cons.mpr ⟨⟨RX_4, zzT4, 12, "ReconcilerHall$Controller", zzY4, rfl, by decide, zzI4, zz_at 263 (by decide +kernel), Or.inl rfl, zzY4_ok, zzN4⟩, (List.forall_mem_cons.mpr ⟨⟨RX_5, zzT5, 12, "ReconcilerHall$Controller", zzY5, rfl, by decide, zzI5, zz_at 263 (by decide +kernel), Or.inl rfl, zzY5_ok, zzN5⟩, (List.forall_mem_cons.mpr ⟨⟨RX_6, zzT6, 13, "ReconcilerHall$Controller", zzY6, rfl, by decide, zzI6, zz_at 263 (by decide +kernel), Or.inl rfl, zzY6_ok, zzN6⟩, (List.forall_mem_cons.mpr ⟨⟨RX_7, zzT7, 15, "ReconcilerHall$Controller", zzY7, rfl, by decide, zzI7, zz_at 263 (by decide +kernel), Or.inl rfl, zzY7_ok, zzN7⟩, (fun _ h => absurd h List.not_mem_nil)⟩)⟩)⟩)⟩)⟩)⟩)⟩)
set_option maxRecDepth 100000 in
theorem ff_X2_25 : zz_fw RX2 25 zzCl (zz_kf [1, 2, 3, 4, 5, 6, 7] 6) := zz_fw_of (List.forall_mem_cons.mpr ⟨⟨RX_1, zzT1, 12, "ReconcilerHall$Controller", zzY1, rfl, by decide, zzI1, zz_at 262 (by decide +kernel), Or.inl rfl, zzY1_ok, zzN1⟩, (List.forall_mem_cons.mpr ⟨⟨RX_2, zzT2, 12, "ReconcilerHall$Controller", zzY2, rfl, by decide, zzI2, zz_at 262 (by decide +kernel), Or.inl rfl, zzY2_ok, zzN2⟩, (List.forall_mem_cons.mpr ⟨⟨RX_3, zzT3, 12, "ReconcilerHall$Controller", zzY3, rfl, by decide, zzI3, zz_at 262 (by decide +kernel), Or.inl rfl, zzY3_ok, zzN3⟩, (List.forall_mem_cons.mpr ⟨⟨RX_4, zzT4, 12, "ReconcilerHall$Controller", zzY4, rfl, by decide, zzI4, zz_at 262 (by decide +kernel), Or.inl rfl, zzY4_ok, zzN4⟩, (List.forall_mem_cons.mpr ⟨⟨RX_5, zzT5, 12, "ReconcilerHall$Controller", zzY5, rfl, by decide, zzI5, zz_at 262 (by decide +kernel), Or.inl rfl, zzY5_ok, zzN5⟩, (List.forall_mem_cons.mpr ⟨⟨RX_6, zzT6, 13, "ReconcilerHall$Controller", zzY6, rfl, by decide, zzI6, zz_at 262 (by decide +kernel), Or.inl rfl, zzY6_ok, zzN6⟩, (List.forall_mem_cons.mpr ⟨⟨RX_7, zzT7, 15, "ReconcilerHall$Controller", zzY7, rfl, by decide, zzI7, zz_at 262 (by decide +kernel), Or.inl rfl, zzY7_ok, zzN7⟩, (fun _ h => absurd h List.not_mem_nil)⟩)⟩)⟩)⟩)⟩)⟩)⟩)
set_option maxRecDepth 100000 in
theorem fp_1_2_3_4_5_6_7_11 : zz_fp zzCl (zz_kf [1, 2, 3, 4, 5, 6, 7] 11) false := zz_fp_of (List.forall_mem_cons.mpr ⟨⟨(RX_1, zzT1, 12), rfl, rfl, by decide +kernel⟩, (List.forall_mem_cons.mpr ⟨⟨(RX_2, zzT2, 12), rfl, rfl, by decide +kernel⟩, (List.forall_mem_cons.mpr ⟨⟨(RX_3, zzT3, 12), rfl, rfl, by decide +kernel⟩, (List.forall_mem_cons.mpr ⟨⟨(RX_4, zzT4, 12), rfl, rfl, by decide +kernel⟩, (List.forall_mem_cons.mpr ⟨⟨(RX_5, zzT5, 12), rfl, rfl, by decide +kernel⟩, (List.forall_mem_cons.mpr ⟨⟨(RX_6, zzT6, 13), rfl, rfl, by decide +kernel⟩, (List.forall_mem_cons.mpr ⟨⟨(RX_7, zzT7, 15), rfl, rfl, by decide +kernel⟩, (fun _ h => absurd h List.not_mem_nil)⟩)⟩)⟩)⟩)⟩)⟩)⟩)
set_option maxRecDepth 100000 in
theorem ff_X1_15 : zz_fw RX1 15 zzCl (zz_kf [1] 2) := zz_fw_of (List.forall_mem_cons.mpr ⟨⟨RX_1, zzT1, 12, "ReconcilerHall$Collector", zzY1, rfl, by decide, zzI1, zz_at 201 (by decide +kernel), Or.inr (zz_at 202 (by decide +kernel)), zzY1_ok, zzN1⟩, (fun _ h => absurd h List.not_mem_nil)⟩)
set_option maxRecDepth 100000 in
theorem kv_X1_19_1 : zz_KV RX1 19 RX_1 2 yX10_read cX10_read 3 (some .int) := zz_ku (owner := "ReconcilerHall$View") (x := ⟨"ReconcilerHall$Collector", "read", "(II)I"⟩) (zz_atl [896, 897, 898, 467, 109, 477] (by decide +kernel)) rfl (by decide +kernel)
set_option maxRecDepth 100000 in
theorem ff_X10_9 : zz_fw RX10 9 zzCl (zz_kf [1, 2, 3, 4, 5, 6, 7, 8] 0) := zz_fw_of (List.forall_mem_cons.mpr ⟨⟨RX_1, zzT1, 12, "ReconcilerHall$View", zzY1, rfl, by decide, zzI1, zz_at 192 (by decide +kernel), Or.inl rfl, zzY1_ok, zzN1⟩, (List.forall_mem_cons.mpr ⟨⟨RX_2, zzT2, 12, "ReconcilerHall$View", zzY2, rfl, by decide, zzI2, zz_at 192 (by decide +kernel), Or.inl rfl, zzY2_ok, zzN2⟩, (List.forall_mem_cons.mpr ⟨⟨RX_3, zzT3, 12, "ReconcilerHall$View", zzY3, rfl, by decide, zzI3, zz_at 192 (by decide +kernel), Or.inl rfl, zzY3_ok, zzN3⟩, (List.forall_mem_cons.mpr ⟨⟨RX_4, zzT4, 12, "ReconcilerHall$View", zzY4, rfl, by decide, zzI4, zz_at 192 (by decide +kernel), Or.inl rfl, zzY4_ok, zzN4⟩, (List.forall_mem_cons.mpr ⟨⟨RX_5, zzT5, 12, "ReconcilerHall$View", zzY5, rfl, by decide, zzI5, zz_at 192 (by decide +kernel), Or.inl rfl, zzY5_ok, zzN5⟩, (List.forall_mem_cons.mpr ⟨⟨RX_6, zzT6, 13, "ReconcilerHall$View", zzY6, rfl, by decide, zzI6, zz_at 192 (by decide +kernel), Or.inl rfl, zzY6_ok, zzN6⟩, (List.forall_mem_cons.mpr ⟨⟨RX_7, zzT7, 15, "ReconcilerHall$View", zzY7, rfl, by decide, zzI7, zz_at 192 (by decide +kernel), Or.inl rfl, zzY7_ok, zzN7⟩, (List.forall_mem_cons.mpr ⟨⟨RX_8, zzT8, 9, "ReconcilerHall$View", zzY8, rfl, by decide, zzI8, zz_at 192 (by decide +kernel), Or.inl rfl, zzY8_ok, zzN8⟩, (fun _ h => absurd h List.not_mem_nil)⟩)⟩)⟩)⟩)⟩)⟩)⟩)⟩)
set_option maxRecDepth 100000 in
theorem ff_X10_15 : zz_fw RX10 15 zzCl (zz_kf [1, 2, 3, 4, 5, 6, 7, 8] 1) := zz_fw_of (List.forall_mem_cons.mpr ⟨⟨RX_1, zzT1, 12, "ReconcilerHall$View", zzY1, rfl, by decide, zzI1, zz_at 194 (by decide +kernel), Or.inl rfl, zzY1_ok, zzN1⟩, (List.forall_mem_cons.mpr ⟨⟨RX_2, zzT2, 12, "ReconcilerHall$View", zzY2, rfl, by decide, zzI2, zz_at 194 (by decide +kernel), Or.inl rfl, zzY2_ok, zzN2⟩, (List.forall_mem_cons.mpr ⟨⟨RX_3, zzT3, 12, "ReconcilerHall$View", zzY3, rfl, by decide, zzI3, zz_at 194 (by decide +kernel), Or.inl rfl, zzY3_ok, zzN3⟩, (List.forall_mem_cons.mpr ⟨⟨RX_4, zzT4, 12, "ReconcilerHall$View", zzY4, rfl, by decide, zzI4, zz_at 194 (by decide +kernel), Or.inl rfl, zzY4_ok, zzN4⟩, (List.forall_mem_cons.mpr ⟨⟨RX_5, zzT5, 12, "ReconcilerHall$View", zzY5, rfl, by decide, zzI5, zz_at 194 (by decide +kernel), Or.inl rfl, zzY5_ok, zzN5⟩, (List.forall_mem_cons.mpr ⟨⟨RX_6, zzT6, 13, "ReconcilerHall$View", zzY6, rfl, by decide, zzI6, zz_at 194 (by decide +kernel), Or.inl rfl, zzY6_ok, zzN6⟩, (List.forall_mem_cons.mpr ⟨⟨RX_7, zzT7, 15, "ReconcilerHall$View", zzY7, rfl, by decide, zzI7, zz_at 194 (by decide +kernel), Or.inl rfl, zzY7_ok, zzN7⟩, (List.forall_mem_cons.mpr ⟨⟨RX_8, zzT8, 9, "ReconcilerHall$View", zzY8, rfl, by decide, zzI8, zz_at 194 (by decide +kernel), Or.inl rfl, zzY8_ok, zzN8⟩, (fun _ h => absurd h List.not_mem_nil)⟩)⟩)⟩)⟩)⟩)⟩)⟩)⟩)
set_option maxRecDepth 100000 in
theorem kv_X1_23_1 : zz_KV RX1 23 RX_1 1 yX10_isGone cX10_isGone 2 (some .boolean) := zz_ku (owner := "ReconcilerHall$View") (x := ⟨"ReconcilerHall$Collector", "isGone", "(I)Z"⟩) (zz_atl [990, 991, 992, 464, 109, 465] (by decide +kernel)) rfl (by decide +kernel)
set_option maxRecDepth 100000 in
theorem kv_X10_31_1 : zz_KV RX10 31 RX_1 2 yX10_read cX10_read 3 (some .int) := zz_ku (owner := "ReconcilerHall$View") (x := ⟨"ReconcilerHall$View", "read", "(II)I"⟩) (zz_atl [466, 468, 469, 467, 109, 477] (by decide +kernel)) rfl (by decide +kernel)
set_option maxRecDepth 100000 in
theorem kv_X10_31_2 : zz_KV RX10 31 RX_2 2 yX10_read cX10_read 3 (some .int) := zz_ku (owner := "ReconcilerHall$View") (x := ⟨"ReconcilerHall$View", "read", "(II)I"⟩) (zz_atl [466, 468, 470, 467, 109, 477] (by decide +kernel)) rfl (by decide +kernel)
set_option maxRecDepth 100000 in
theorem kv_X10_31_3 : zz_KV RX10 31 RX_3 2 yX10_read cX10_read 3 (some .int) := zz_ku (owner := "ReconcilerHall$View") (x := ⟨"ReconcilerHall$View", "read", "(II)I"⟩) (zz_atl [466, 468, 471, 467, 109, 477] (by decide +kernel)) rfl (by decide +kernel)
set_option maxRecDepth 100000 in
theorem kv_X10_31_4 : zz_KV RX10 31 RX_4 2 yX10_read cX10_read 3 (some .int) := zz_ku (owner := "ReconcilerHall$View") (x := ⟨"ReconcilerHall$View", "read", "(II)I"⟩) (zz_atl [466, 468, 472, 467, 109, 477] (by decide +kernel)) rfl (by decide +kernel)
set_option maxRecDepth 100000 in
theorem kv_X10_31_5 : zz_KV RX10 31 RX_5 2 yX10_read cX10_read 3 (some .int) := zz_ku (owner := "ReconcilerHall$View") (x := ⟨"ReconcilerHall$View", "read", "(II)I"⟩) (zz_atl [466, 468, 473, 467, 109, 477] (by decide +kernel)) rfl (by decide +kernel)
set_option maxRecDepth 100000 in
theorem kv_X10_31_6 : zz_KV RX10 31 RX_6 2 yX10_read cX10_read 3 (some .int) := zz_ku (owner := "ReconcilerHall$View") (x := ⟨"ReconcilerHall$View", "read", "(II)I"⟩) (zz_atl [466, 468, 474, 467, 109, 477] (by decide +kernel)) rfl (by decide +kernel)
set_option maxRecDepth 100000 in
theorem kv_X10_31_7 : zz_KV RX10 31 RX_7 2 yX10_read cX10_read 3 (some .int) := zz_ku (owner := "ReconcilerHall$View") (x := ⟨"ReconcilerHall$View", "read", "(II)I"⟩) (zz_atl [466, 468, 475, 467, 109, 477] (by decide +kernel)) rfl (by decide +kernel)
set_option maxRecDepth 100000 in
theorem kv_X10_31_8 : zz_KV RX10 31 RX_8 2 yX10_read cX10_read 3 (some .int) := zz_ku (owner := "ReconcilerHall$View") (x := ⟨"ReconcilerHall$View", "read", "(II)I"⟩) (zz_atl [466, 468, 476, 467, 109, 477] (by decide +kernel)) rfl (by decide +kernel)
set_option maxRecDepth 100000 in
theorem kv_X1_27_1 : zz_KV RX1 27 RX_1 1 yX2_remove cX2_remove 2 (some .boolean) := zz_ku (owner := "ReconcilerHall$Controller") (x := ⟨"ReconcilerHall$Collector", "remove", "(I)Z"⟩) (zz_atl [993, 994, 996, 997, 112, 998] (by decide +kernel)) rfl (by decide +kernel)
set_option maxRecDepth 100000 in
theorem kv_X2_117_1 : zz_KV RX2 117 RX_1 1 yX2_isUpToDate cX2_isUpToDate 2 (some .boolean) := zz_ku (owner := "ReconcilerHall$Controller") (x := ⟨"ReconcilerHall$Controller", "isUpToDate", "(I)Z"⟩) (zz_atl [999, 1001, 1002, 1000, 112, 1009] (by decide +kernel)) rfl (by decide +kernel)
set_option maxRecDepth 100000 in
theorem kv_X2_117_2 : zz_KV RX2 117 RX_2 1 yX2_isUpToDate cX2_isUpToDate 2 (some .boolean) := zz_ku (owner := "ReconcilerHall$Controller") (x := ⟨"ReconcilerHall$Controller", "isUpToDate", "(I)Z"⟩) (zz_atl [999, 1001, 1003, 1000, 112, 1009] (by decide +kernel)) rfl (by decide +kernel)
set_option maxRecDepth 100000 in
theorem kv_X2_117_3 : zz_KV RX2 117 RX_3 1 yX2_isUpToDate cX2_isUpToDate 2 (some .boolean) := zz_ku (owner := "ReconcilerHall$Controller") (x := ⟨"ReconcilerHall$Controller", "isUpToDate", "(I)Z"⟩) (zz_atl [999, 1001, 1004, 1000, 112, 1009] (by decide +kernel)) rfl (by decide +kernel)
set_option maxRecDepth 100000 in
theorem kv_X2_117_4 : zz_KV RX2 117 RX_4 1 yX2_isUpToDate cX2_isUpToDate 2 (some .boolean) := zz_ku (owner := "ReconcilerHall$Controller") (x := ⟨"ReconcilerHall$Controller", "isUpToDate", "(I)Z"⟩) (zz_atl [999, 1001, 1005, 1000, 112, 1009] (by decide +kernel)) rfl (by decide +kernel)
set_option maxRecDepth 100000 in
theorem kv_X2_117_5 : zz_KV RX2 117 RX_5 1 yX2_isUpToDate cX2_isUpToDate 2 (some .boolean) := zz_ku (owner := "ReconcilerHall$Controller") (x := ⟨"ReconcilerHall$Controller", "isUpToDate", "(I)Z"⟩) (zz_atl [999, 1001, 1006, 1000, 112, 1009] (by decide +kernel)) rfl (by decide +kernel)
set_option maxRecDepth 100000 in
theorem kv_X2_117_6 : zz_KV RX2 117 RX_6 1 yX2_isUpToDate cX2_isUpToDate 2 (some .boolean) := zz_ku (owner := "ReconcilerHall$Controller") (x := ⟨"ReconcilerHall$Controller", "isUpToDate", "(I)Z"⟩) (zz_atl [999, 1001, 1007, 1000, 112, 1009] (by decide +kernel)) rfl (by decide +kernel)
set_option maxRecDepth 100000 in
theorem kv_X2_117_7 : zz_KV RX2 117 RX_7 1 yX2_isUpToDate cX2_isUpToDate 2 (some .boolean) := zz_ku (owner := "ReconcilerHall$Controller") (x := ⟨"ReconcilerHall$Controller", "isUpToDate", "(I)Z"⟩) (zz_atl [999, 1001, 1008, 1000, 112, 1009] (by decide +kernel)) rfl (by decide +kernel)
set_option maxRecDepth 100000 in
theorem kv_X2_113_1 : zz_KV RX2 113 RX_1 1 yX10_latestOf cX10_latestOf 2 (some .int) := zz_ku (owner := "ReconcilerHall$View") (x := ⟨"ReconcilerHall$Controller", "latestOf", "(I)I"⟩) (zz_atl [1010, 1011, 1012, 502, 109, 503] (by decide +kernel)) rfl (by decide +kernel)
set_option maxRecDepth 100000 in
theorem kv_X2_113_2 : zz_KV RX2 113 RX_2 1 yX10_latestOf cX10_latestOf 2 (some .int) := zz_ku (owner := "ReconcilerHall$View") (x := ⟨"ReconcilerHall$Controller", "latestOf", "(I)I"⟩) (zz_atl [1010, 1011, 1013, 502, 109, 503] (by decide +kernel)) rfl (by decide +kernel)
set_option maxRecDepth 100000 in
theorem kv_X2_113_3 : zz_KV RX2 113 RX_3 1 yX10_latestOf cX10_latestOf 2 (some .int) := zz_ku (owner := "ReconcilerHall$View") (x := ⟨"ReconcilerHall$Controller", "latestOf", "(I)I"⟩) (zz_atl [1010, 1011, 1014, 502, 109, 503] (by decide +kernel)) rfl (by decide +kernel)
set_option maxRecDepth 100000 in
theorem kv_X2_113_4 : zz_KV RX2 113 RX_4 1 yX10_latestOf cX10_latestOf 2 (some .int) := zz_ku (owner := "ReconcilerHall$View") (x := ⟨"ReconcilerHall$Controller", "latestOf", "(I)I"⟩) (zz_atl [1010, 1011, 1015, 502, 109, 503] (by decide +kernel)) rfl (by decide +kernel)
set_option maxRecDepth 100000 in
theorem kv_X2_113_5 : zz_KV RX2 113 RX_5 1 yX10_latestOf cX10_latestOf 2 (some .int) := zz_ku (owner := "ReconcilerHall$View") (x := ⟨"ReconcilerHall$Controller", "latestOf", "(I)I"⟩) (zz_atl [1010, 1011, 1016, 502, 109, 503] (by decide +kernel)) rfl (by decide +kernel)
set_option maxRecDepth 100000 in
theorem kv_X2_113_6 : zz_KV RX2 113 RX_6 1 yX10_latestOf cX10_latestOf 2 (some .int) := zz_ku (owner := "ReconcilerHall$View") (x := ⟨"ReconcilerHall$Controller", "latestOf", "(I)I"⟩) (zz_atl [1010, 1011, 1017, 502, 109, 503] (by decide +kernel)) rfl (by decide +kernel)
set_option maxRecDepth 100000 in
theorem kv_X2_113_7 : zz_KV RX2 113 RX_7 1 yX10_latestOf cX10_latestOf 2 (some .int) := zz_ku (owner := "ReconcilerHall$View") (x := ⟨"ReconcilerHall$Controller", "latestOf", "(I)I"⟩) (zz_atl [1010, 1011, 1018, 502, 109, 503] (by decide +kernel)) rfl (by decide +kernel)
set_option maxRecDepth 100000 in
theorem ff_X2_15 : zz_fw RX2 15 zzCl (zz_kf [1, 2, 3, 4, 5, 6, 7] 4) := zz_fw_of (List.forall_mem_cons.mpr ⟨⟨RX_1, zzT1, 12, "ReconcilerHall$Controller", zzY1, rfl, by decide, zzI1, zz_at 252 (by decide +kernel), Or.inl rfl, zzY1_ok, zzN1⟩, (List.forall_mem_cons.mpr ⟨⟨RX_2, zzT2, 12, "ReconcilerHall$Controller", zzY2, rfl, by decide, zzI2, zz_at 252 (by decide +kernel), Or.inl rfl, zzY2_ok, zzN2⟩, (List.forall_mem_cons.mpr ⟨⟨RX_3, zzT3, 12, "ReconcilerHall$Controller", zzY3, rfl, by decide, zzI3, zz_at 252 (by decide +kernel), Or.inl rfl, zzY3_ok, zzN3⟩, (List.forall_mem_cons.mpr ⟨⟨RX_4, zzT4, 12, "ReconcilerHall$Controller", zzY4, rfl, by decide, zzI4, zz_at 252 (by decide +kernel), Or.inl rfl, zzY4_ok, zzN4⟩, (List.forall_mem_cons.mpr ⟨⟨RX_5, zzT5, 12, "ReconcilerHall$Controller", zzY5, rfl, by decide, zzI5, zz_at 252 (by decide +kernel), Or.inl rfl, zzY5_ok, zzN5⟩, (List.forall_mem_cons.mpr ⟨⟨RX_6, zzT6, 13, "ReconcilerHall$Controller", zzY6, rfl, by decide, zzI6, zz_at 252 (by decide +kernel), Or.inl rfl, zzY6_ok, zzN6⟩, (List.forall_mem_cons.mpr ⟨⟨RX_7, zzT7, 15, "ReconcilerHall$Controller", zzY7, rfl, by decide, zzI7, zz_at 252 (by decide +kernel), Or.inl rfl, zzY7_ok, zzN7⟩, (fun _ h => absurd h List.not_mem_nil)⟩)⟩)⟩)⟩)⟩)⟩)⟩)
set_option maxRecDepth 100000 in
theorem kv_X2_116_8 : zz_KV RX2 116 RX_8 1 yX10_latestOf cX10_latestOf 2 (some .int) := zz_ku (owner := "ReconcilerHall$View") (x := ⟨"ReconcilerHall$Store", "latestOf", "(I)I"⟩) (zz_atl [1019, 499, 501, 502, 109, 503] (by decide +kernel)) rfl (by decide +kernel)
set_option maxRecDepth 100000 in
theorem kv_X2_128_8 : zz_KV RX2 128 RX_8 2 yX9_startGoing cX9_startGoing 3 (some .boolean) ∧ zz_KX RX2 128 RX_8 2 yX9_startGoing cX9_startGoing 3 (some .boolean) := zz_kv (zz_atl [1020, 723, 724, 110, 725] (by decide +kernel)) (by decide +kernel)
set_option maxRecDepth 100000 in
theorem kv_X9_71_8 : zz_KV RX9 71 RX_8 1 yX9_draftFrom cX9_draftFrom 2 none ∧ zz_KX RX9 71 RX_8 1 yX9_draftFrom cX9_draftFrom 2 none := zz_kv (zz_atl [494, 496, 2, 110, 497] (by decide +kernel)) (by decide +kernel)
set_option maxRecDepth 100000 in
theorem ff_X9_78 : zz_fw RX9 78 zzCl (zz_kf [8] 0) := zz_fw_of (List.forall_mem_cons.mpr ⟨⟨RX_8, zzT8, 9, "ReconcilerHall$Store", zzY8, rfl, by decide, zzI8, zz_at 193 (by decide +kernel), Or.inr (zz_at 191 (by decide +kernel)), zzY8_ok, zzN8⟩, (fun _ h => absurd h List.not_mem_nil)⟩)
set_option maxRecDepth 100000 in
theorem kv_X9_81_8 : zz_KV RX9 81 RX_8 1 yX10_latestOf cX10_latestOf 2 (some .int) := zz_ku (owner := "ReconcilerHall$View") (x := ⟨"ReconcilerHall$Store", "latestOf", "(I)I"⟩) (zz_atl [498, 499, 501, 502, 109, 503] (by decide +kernel)) rfl (by decide +kernel)
set_option maxRecDepth 100000 in
theorem ff_X9_28 : zz_fw RX9 28 zzCl (zz_kf [8] 6) := zz_fw_of (List.forall_mem_cons.mpr ⟨⟨RX_8, zzT8, 9, "ReconcilerHall$Store", zzY8, rfl, by decide, zzI8, zz_at 183 (by decide +kernel), Or.inl rfl, zzY8_ok, zzN8⟩, (fun _ h => absurd h List.not_mem_nil)⟩)
set_option maxRecDepth 100000 in
theorem kv_X9_75_8 : zz_KV RX9 75 RX_8 1 yX10_isKept cX10_isKept 2 (some .boolean) := zz_ku (owner := "ReconcilerHall$View") (x := ⟨"ReconcilerHall$Store", "isKept", "(I)Z"⟩) (zz_atl [726, 727, 729, 730, 109, 731] (by decide +kernel)) rfl (by decide +kernel)
set_option maxRecDepth 100000 in
theorem kv_X9_53_8 : zz_KV RX9 53 RX_8 1 yX9_write cX9_write 2 (some .boolean) ∧ zz_KX RX9 53 RX_8 1 yX9_write cX9_write 2 (some .boolean) := zz_kv (zz_atl [520, 522, 4, 110, 523] (by decide +kernel)) (by decide +kernel)
set_option maxRecDepth 100000 in
theorem kv_X9_91_8 : zz_KV RX9 91 RX_8 1 yX9_isDraftAs cX9_isDraftAs 3 (some .boolean) ∧ zz_KX RX9 91 RX_8 1 yX9_isDraftAs cX9_isDraftAs 3 (some .boolean) := zz_kv (zz_atl [524, 526, 5, 110, 527] (by decide +kernel)) (by decide +kernel)
set_option maxRecDepth 100000 in
theorem ff_X9_94 : zz_fw RX9 94 zzCl (zz_kf [8] 3) := zz_fw_of (List.forall_mem_cons.mpr ⟨⟨RX_8, zzT8, 9, "ReconcilerHall$Store", zzY8, rfl, by decide, zzI8, zz_at 219 (by decide +kernel), Or.inr (zz_at 214 (by decide +kernel)), zzY8_ok, zzN8⟩, (fun _ h => absurd h List.not_mem_nil)⟩)
set_option maxRecDepth 100000 in
theorem kv_X9_97_8 : zz_KV RX9 97 RX_8 2 yX10_takeIn cX10_takeIn 3 none := zz_ku (owner := "ReconcilerHall$View") (x := ⟨"ReconcilerHall$Store", "takeIn", "(II)V"⟩) (zz_atl [528, 529, 531, 532, 109, 533] (by decide +kernel)) rfl (by decide +kernel)
set_option maxRecDepth 100000 in
theorem ff_X10_18 : zz_fw RX10 18 zzCl (zz_kf [1, 2, 3, 4, 5, 6, 7, 8] 2) := zz_fw_of (List.forall_mem_cons.mpr ⟨⟨RX_1, zzT1, 12, "ReconcilerHall$View", zzY1, rfl, by decide, zzI1, zz_at 209 (by decide +kernel), Or.inl rfl, zzY1_ok, zzN1⟩, (List.forall_mem_cons.mpr ⟨⟨RX_2, zzT2, 12, "ReconcilerHall$View", zzY2, rfl, by decide, zzI2, zz_at 209 (by decide +kernel), Or.inl rfl, zzY2_ok, zzN2⟩, (List.forall_mem_cons.mpr ⟨⟨RX_3, zzT3, 12, "ReconcilerHall$View", zzY3, rfl, by decide, zzI3, zz_at 209 (by decide +kernel), Or.inl rfl, zzY3_ok, zzN3⟩, (List.forall_mem_cons.mpr ⟨⟨RX_4, zzT4, 12, "ReconcilerHall$View", zzY4, rfl, by decide, zzI4, zz_at 209 (by decide +kernel), Or.inl rfl, zzY4_ok, zzN4⟩, (List.forall_mem_cons.mpr ⟨⟨RX_5, zzT5, 12, "ReconcilerHall$View", zzY5, rfl, by decide, zzI5, zz_at 209 (by decide +kernel), Or.inl rfl, zzY5_ok, zzN5⟩, (List.forall_mem_cons.mpr ⟨⟨RX_6, zzT6, 13, "ReconcilerHall$View", zzY6, rfl, by decide, zzI6, zz_at 209 (by decide +kernel), Or.inl rfl, zzY6_ok, zzN6⟩, (List.forall_mem_cons.mpr ⟨⟨RX_7, zzT7, 15, "ReconcilerHall$View", zzY7, rfl, by decide, zzI7, zz_at 209 (by decide +kernel), Or.inl rfl, zzY7_ok, zzN7⟩, (List.forall_mem_cons.mpr ⟨⟨RX_8, zzT8, 9, "ReconcilerHall$View", zzY8, rfl, by decide, zzI8, zz_at 209 (by decide +kernel), Or.inl rfl, zzY8_ok, zzN8⟩, (fun _ h => absurd h List.not_mem_nil)⟩)⟩)⟩)⟩)⟩)⟩)⟩)⟩)
set_option maxRecDepth 100000 in
theorem fp_1_2_3_4_5_6_7_8_2 : zz_fp zzCl (zz_kf [1, 2, 3, 4, 5, 6, 7, 8] 2) false := zz_fp_of (List.forall_mem_cons.mpr ⟨⟨(RX_1, zzT1, 12), rfl, rfl, by decide +kernel⟩, (List.forall_mem_cons.mpr ⟨⟨(RX_2, zzT2, 12), rfl, rfl, by decide +kernel⟩, (List.forall_mem_cons.mpr ⟨⟨(RX_3, zzT3, 12), rfl, rfl, by decide +kernel⟩, (List.forall_mem_cons.mpr ⟨⟨(RX_4, zzT4, 12), rfl, rfl, by decide +kernel⟩, (List.forall_mem_cons.mpr ⟨⟨(RX_5, zzT5, 12), rfl, rfl, by decide +kernel⟩, (List.forall_mem_cons.mpr ⟨⟨(RX_6, zzT6, 13), rfl, rfl, by decide +kernel⟩, (List.forall_mem_cons.mpr ⟨⟨(RX_7, zzT7, 15), rfl, rfl, by decide +kernel⟩, (List.forall_mem_cons.mpr ⟨⟨(RX_8, zzT8, 9), rfl, rfl, by decide +kernel⟩, (fun _ h => absurd h List.not_mem_nil)⟩)⟩)⟩)⟩)⟩)⟩)⟩)⟩)
set_option maxRecDepth 100000 in
theorem ff_X10_22 : zz_fw RX10 22 zzCl (zz_kf [1, 2, 3, 4, 5, 6, 7, 8] 3) := zz_fw_of (List.forall_mem_cons.mpr ⟨⟨RX_1, zzT1, 12, "ReconcilerHall$View", zzY1, rfl, by decide, zzI1, zz_at 218 (by decide +kernel), Or.inl rfl, zzY1_ok, zzN1⟩, (List.forall_mem_cons.mpr ⟨⟨RX_2, zzT2, 12, "ReconcilerHall$View", zzY2, rfl, by decide, zzI2, zz_at 218 (by decide +kernel), Or.inl rfl, zzY2_ok, zzN2⟩, (List.forall_mem_cons.mpr ⟨⟨RX_3, zzT3, 12, "ReconcilerHall$View", zzY3, rfl, by decide, zzI3, zz_at 218 (by decide +kernel), Or.inl rfl, zzY3_ok, zzN3⟩, (List.forall_mem_cons.mpr ⟨⟨RX_4, zzT4, 12, "ReconcilerHall$View", zzY4, rfl, by decide, zzI4, zz_at 218 (by decide +kernel), Or.inl rfl, zzY4_ok, zzN4⟩, (List.forall_mem_cons.mpr ⟨⟨RX_5, zzT5, 12, "ReconcilerHall$View", zzY5, rfl, by decide, zzI5, zz_at 218 (by decide +kernel), Or.inl rfl, zzY5_ok, zzN5⟩, (List.forall_mem_cons.mpr ⟨⟨RX_6, zzT6, 13, "ReconcilerHall$View", zzY6, rfl, by decide, zzI6, zz_at 218 (by decide +kernel), Or.inl rfl, zzY6_ok, zzN6⟩, (List.forall_mem_cons.mpr ⟨⟨RX_7, zzT7, 15, "ReconcilerHall$View", zzY7, rfl, by decide, zzI7, zz_at 218 (by decide +kernel), Or.inl rfl, zzY7_ok, zzN7⟩, (List.forall_mem_cons.mpr ⟨⟨RX_8, zzT8, 9, "ReconcilerHall$View", zzY8, rfl, by decide, zzI8, zz_at 218 (by decide +kernel), Or.inl rfl, zzY8_ok, zzN8⟩, (fun _ h => absurd h List.not_mem_nil)⟩)⟩)⟩)⟩)⟩)⟩)⟩)⟩)
set_option maxRecDepth 100000 in
theorem fp_1_2_3_4_5_6_7_8_3 : zz_fp zzCl (zz_kf [1, 2, 3, 4, 5, 6, 7, 8] 3) false := zz_fp_of (List.forall_mem_cons.mpr ⟨⟨(RX_1, zzT1, 12), rfl, rfl, by decide +kernel⟩, (List.forall_mem_cons.mpr ⟨⟨(RX_2, zzT2, 12), rfl, rfl, by decide +kernel⟩, (List.forall_mem_cons.mpr ⟨⟨(RX_3, zzT3, 12), rfl, rfl, by decide +kernel⟩, (List.forall_mem_cons.mpr ⟨⟨(RX_4, zzT4, 12), rfl, rfl, by decide +kernel⟩, (List.forall_mem_cons.mpr ⟨⟨(RX_5, zzT5, 12), rfl, rfl, by decide +kernel⟩, (List.forall_mem_cons.mpr ⟨⟨(RX_6, zzT6, 13), rfl, rfl, by decide +kernel⟩, (List.forall_mem_cons.mpr ⟨⟨(RX_7, zzT7, 15), rfl, rfl, by decide +kernel⟩, (List.forall_mem_cons.mpr ⟨⟨(RX_8, zzT8, 9), rfl, rfl, by decide +kernel⟩, (fun _ h => absurd h List.not_mem_nil)⟩)⟩)⟩)⟩)⟩)⟩)⟩)⟩)
set_option maxRecDepth 100000 in
theorem ks_X1_30 : zz_KS RX1 30 1 yX2_outcomeOf cX2_outcomeOf 1 (some .int) := zz_ksu (x := ⟨"ReconcilerHall$Collector", "outcomeOf", "(Z)I"⟩) (zz_at 1024 (by decide +kernel)) (zz_at 112 (by decide +kernel)) (zz_at 1021 (by decide +kernel)) (zz_at 1023 (by decide +kernel)) (zz_at 1022 (by decide +kernel)) rfl (by decide +kernel)
set_option maxRecDepth 100000 in
theorem kv_X1_34_1 : zz_KV RX1 34 RX_1 1 yX1_ownsSome cX1_ownsSome 3 (some .boolean) ∧ zz_KX RX1 34 RX_1 1 yX1_ownsSome cX1_ownsSome 3 (some .boolean) := zz_kv (zz_atl [1025, 1027, 12, 117, 1028] (by decide +kernel)) (by decide +kernel)
set_option maxRecDepth 100000 in
theorem kv_X1_37_1 : zz_KV RX1 37 RX_1 1 yX1_deleteOwned cX1_deleteOwned 4 (some .boolean) ∧ zz_KX RX1 37 RX_1 1 yX1_deleteOwned cX1_deleteOwned 4 (some .boolean) := zz_kv (zz_atl [1029, 1031, 13, 117, 1032] (by decide +kernel)) (by decide +kernel)
set_option maxRecDepth 100000 in
theorem kv_X1_46_1 : zz_KV RX1 46 RX_1 3 yX2_set cX2_set 4 (some .boolean) := zz_ku (owner := "ReconcilerHall$Controller") (x := ⟨"ReconcilerHall$Collector", "set", "(III)Z"⟩) (zz_atl [1033, 1034, 1036, 1037, 112, 1038] (by decide +kernel)) rfl (by decide +kernel)
set_option maxRecDepth 100000 in
theorem kv_X2_124_8 : zz_KV RX2 124 RX_8 3 yX9_change cX9_change 4 (some .boolean) ∧ zz_KX RX2 124 RX_8 3 yX9_change cX9_change 4 (some .boolean) := zz_kv (zz_atl [1039, 741, 742, 110, 743] (by decide +kernel)) (by decide +kernel)
set_option maxRecDepth 100000 in
theorem kv_X1_40_1 : zz_KV RX1 40 RX_1 1 yX1_disownAll cX1_disownAll 3 (some .boolean) ∧ zz_KX RX1 40 RX_1 1 yX1_disownAll cX1_disownAll 3 (some .boolean) := zz_kv (zz_atl [1040, 1042, 14, 117, 1043] (by decide +kernel)) (by decide +kernel)
set_option maxRecDepth 100000 in
theorem kv_X1_43_1 : zz_KV RX1 43 RX_1 1 yX10_isKept cX10_isKept 2 (some .boolean) := zz_ku (owner := "ReconcilerHall$View") (x := ⟨"ReconcilerHall$Collector", "isKept", "(I)Z"⟩) (zz_atl [1044, 1045, 1046, 730, 109, 731] (by decide +kernel)) rfl (by decide +kernel)
set_option maxRecDepth 100000 in
theorem ff_X2_44 : zz_fw RX2 44 zzCl (zz_kf [1, 2, 3, 4, 5, 6, 7] 3) := zz_fw_of (List.forall_mem_cons.mpr ⟨⟨RX_1, zzT1, 12, "ReconcilerHall$Controller", zzY1, rfl, by decide, zzI1, zz_at 215 (by decide +kernel), Or.inr (zz_at 216 (by decide +kernel)), zzY1_ok, zzN1⟩, (List.forall_mem_cons.mpr ⟨⟨RX_2, zzT2, 12, "ReconcilerHall$Controller", zzY2, rfl, by decide, zzI2, zz_at 215 (by decide +kernel), Or.inr (zz_at 216 (by decide +kernel)), zzY2_ok, zzN2⟩, (List.forall_mem_cons.mpr ⟨⟨RX_3, zzT3, 12, "ReconcilerHall$Controller", zzY3, rfl, by decide, zzI3, zz_at 215 (by decide +kernel), Or.inr (zz_at 216 (by decide +kernel)), zzY3_ok, zzN3⟩, (List.forall_mem_cons.mpr ⟨⟨RX_4, zzT4, 12, "ReconcilerHall$Controller", zzY4, rfl, by decide, zzI4, zz_at 215 (by decide +kernel), Or.inr (zz_at 216 (by decide +kernel)), zzY4_ok, zzN4⟩, (List.forall_mem_cons.mpr ⟨⟨RX_5, zzT5, 12, "ReconcilerHall$Controller", zzY5, rfl, by decide, zzI5, zz_at 215 (by decide +kernel), Or.inr (zz_at 216 (by decide +kernel)), zzY5_ok, zzN5⟩, (List.forall_mem_cons.mpr ⟨⟨RX_6, zzT6, 13, "ReconcilerHall$Controller", zzY6, rfl, by decide, zzI6, zz_at 215 (by decide +kernel), Or.inr (zz_at 216 (by decide +kernel)), zzY6_ok, zzN6⟩, (List.forall_mem_cons.mpr ⟨⟨RX_7, zzT7, 15, "ReconcilerHall$Controller", zzY7, rfl, by decide, zzI7, zz_at 215 (by decide +kernel), Or.inr (zz_at 216 (by decide +kernel)), zzY7_ok, zzN7⟩, (fun _ h => absurd h List.not_mem_nil)⟩)⟩)⟩)⟩)⟩)⟩)⟩)
set_option maxRecDepth 100000 in
theorem ff_X2_47 : zz_fw RX2 47 zzCl (zz_kf [8] 8) := zz_fw_of (List.forall_mem_cons.mpr ⟨⟨RX_8, zzT8, 9, "ReconcilerHall$Store", zzY8, rfl, by decide, zzI8, zz_at 188 (by decide +kernel), Or.inl rfl, zzY8_ok, zzN8⟩, (fun _ h => absurd h List.not_mem_nil)⟩)
set_option maxRecDepth 100000 in
theorem kv_X2_50_1 : zz_KV RX2 50 RX_1 0 yX2_relist cX2_relist 2 none := zz_ku (owner := "ReconcilerHall$Controller") (x := ⟨"ReconcilerHall$Controller", "relist", "()V"⟩) (zz_atl [811, 2154, 2175, 813, 112, 814] (by decide +kernel)) rfl (by decide +kernel)
set_option maxRecDepth 100000 in
theorem kv_X2_50_2 : zz_KV RX2 50 RX_2 0 yX2_relist cX2_relist 2 none := zz_ku (owner := "ReconcilerHall$Controller") (x := ⟨"ReconcilerHall$Controller", "relist", "()V"⟩) (zz_atl [811, 2154, 2176, 813, 112, 814] (by decide +kernel)) rfl (by decide +kernel)
set_option maxRecDepth 100000 in
theorem kv_X2_50_3 : zz_KV RX2 50 RX_3 0 yX2_relist cX2_relist 2 none := zz_ku (owner := "ReconcilerHall$Controller") (x := ⟨"ReconcilerHall$Controller", "relist", "()V"⟩) (zz_atl [811, 2154, 2177, 813, 112, 814] (by decide +kernel)) rfl (by decide +kernel)
set_option maxRecDepth 100000 in
theorem kv_X2_50_4 : zz_KV RX2 50 RX_4 0 yX2_relist cX2_relist 2 none := zz_ku (owner := "ReconcilerHall$Controller") (x := ⟨"ReconcilerHall$Controller", "relist", "()V"⟩) (zz_atl [811, 2154, 2178, 813, 112, 814] (by decide +kernel)) rfl (by decide +kernel)
set_option maxRecDepth 100000 in
theorem kv_X2_50_5 : zz_KV RX2 50 RX_5 0 yX2_relist cX2_relist 2 none := zz_ku (owner := "ReconcilerHall$Controller") (x := ⟨"ReconcilerHall$Controller", "relist", "()V"⟩) (zz_atl [811, 2154, 2179, 813, 112, 814] (by decide +kernel)) rfl (by decide +kernel)
set_option maxRecDepth 100000 in
theorem kv_X2_50_6 : zz_KV RX2 50 RX_6 0 yX2_relist cX2_relist 2 none := zz_ku (owner := "ReconcilerHall$Controller") (x := ⟨"ReconcilerHall$Controller", "relist", "()V"⟩) (zz_atl [811, 2154, 2180, 813, 112, 814] (by decide +kernel)) rfl (by decide +kernel)
set_option maxRecDepth 100000 in
theorem kv_X2_50_7 : zz_KV RX2 50 RX_7 0 yX2_relist cX2_relist 2 none := zz_ku (owner := "ReconcilerHall$Controller") (x := ⟨"ReconcilerHall$Controller", "relist", "()V"⟩) (zz_atl [811, 2154, 2181, 813, 112, 814] (by decide +kernel)) rfl (by decide +kernel)
set_option maxRecDepth 100000 in
theorem kv_X2_62_1 : zz_KV RX2 62 RX_1 1 yX10_takeAll cX10_takeAll 2 none := zz_ku (owner := "ReconcilerHall$View") (x := ⟨"ReconcilerHall$Controller", "takeAll", "(LReconcilerHall$View;)V"⟩) (zz_atl [815, 816, 818, 825, 109, 826] (by decide +kernel)) rfl (by decide +kernel)
set_option maxRecDepth 100000 in
theorem kv_X2_62_2 : zz_KV RX2 62 RX_2 1 yX10_takeAll cX10_takeAll 2 none := zz_ku (owner := "ReconcilerHall$View") (x := ⟨"ReconcilerHall$Controller", "takeAll", "(LReconcilerHall$View;)V"⟩) (zz_atl [815, 816, 819, 825, 109, 826] (by decide +kernel)) rfl (by decide +kernel)
set_option maxRecDepth 100000 in
theorem kv_X2_62_3 : zz_KV RX2 62 RX_3 1 yX10_takeAll cX10_takeAll 2 none := zz_ku (owner := "ReconcilerHall$View") (x := ⟨"ReconcilerHall$Controller", "takeAll", "(LReconcilerHall$View;)V"⟩) (zz_atl [815, 816, 820, 825, 109, 826] (by decide +kernel)) rfl (by decide +kernel)
set_option maxRecDepth 100000 in
theorem kv_X2_62_4 : zz_KV RX2 62 RX_4 1 yX10_takeAll cX10_takeAll 2 none := zz_ku (owner := "ReconcilerHall$View") (x := ⟨"ReconcilerHall$Controller", "takeAll", "(LReconcilerHall$View;)V"⟩) (zz_atl [815, 816, 821, 825, 109, 826] (by decide +kernel)) rfl (by decide +kernel)
set_option maxRecDepth 100000 in
theorem kv_X2_62_5 : zz_KV RX2 62 RX_5 1 yX10_takeAll cX10_takeAll 2 none := zz_ku (owner := "ReconcilerHall$View") (x := ⟨"ReconcilerHall$Controller", "takeAll", "(LReconcilerHall$View;)V"⟩) (zz_atl [815, 816, 822, 825, 109, 826] (by decide +kernel)) rfl (by decide +kernel)
set_option maxRecDepth 100000 in
theorem kv_X2_62_6 : zz_KV RX2 62 RX_6 1 yX10_takeAll cX10_takeAll 2 none := zz_ku (owner := "ReconcilerHall$View") (x := ⟨"ReconcilerHall$Controller", "takeAll", "(LReconcilerHall$View;)V"⟩) (zz_atl [815, 816, 823, 825, 109, 826] (by decide +kernel)) rfl (by decide +kernel)
set_option maxRecDepth 100000 in
theorem kv_X2_62_7 : zz_KV RX2 62 RX_7 1 yX10_takeAll cX10_takeAll 2 none := zz_ku (owner := "ReconcilerHall$View") (x := ⟨"ReconcilerHall$Controller", "takeAll", "(LReconcilerHall$View;)V"⟩) (zz_atl [815, 816, 824, 825, 109, 826] (by decide +kernel)) rfl (by decide +kernel)
set_option maxRecDepth 100000 in
theorem ff_X2_66 : zz_fw RX2 66 zzCl (zz_kf [1, 2, 3, 4, 5, 6, 7] 2) := zz_fw_of (List.forall_mem_cons.mpr ⟨⟨RX_1, zzT1, 12, "ReconcilerHall$Controller", zzY1, rfl, by decide, zzI1, zz_at 210 (by decide +kernel), Or.inr (zz_at 211 (by decide +kernel)), zzY1_ok, zzN1⟩, (List.forall_mem_cons.mpr ⟨⟨RX_2, zzT2, 12, "ReconcilerHall$Controller", zzY2, rfl, by decide, zzI2, zz_at 210 (by decide +kernel), Or.inr (zz_at 211 (by decide +kernel)), zzY2_ok, zzN2⟩, (List.forall_mem_cons.mpr ⟨⟨RX_3, zzT3, 12, "ReconcilerHall$Controller", zzY3, rfl, by decide, zzI3, zz_at 210 (by decide +kernel), Or.inr (zz_at 211 (by decide +kernel)), zzY3_ok, zzN3⟩, (List.forall_mem_cons.mpr ⟨⟨RX_4, zzT4, 12, "ReconcilerHall$Controller", zzY4, rfl, by decide, zzI4, zz_at 210 (by decide +kernel), Or.inr (zz_at 211 (by decide +kernel)), zzY4_ok, zzN4⟩, (List.forall_mem_cons.mpr ⟨⟨RX_5, zzT5, 12, "ReconcilerHall$Controller", zzY5, rfl, by decide, zzI5, zz_at 210 (by decide +kernel), Or.inr (zz_at 211 (by decide +kernel)), zzY5_ok, zzN5⟩, (List.forall_mem_cons.mpr ⟨⟨RX_6, zzT6, 13, "ReconcilerHall$Controller", zzY6, rfl, by decide, zzI6, zz_at 210 (by decide +kernel), Or.inr (zz_at 211 (by decide +kernel)), zzY6_ok, zzN6⟩, (List.forall_mem_cons.mpr ⟨⟨RX_7, zzT7, 15, "ReconcilerHall$Controller", zzY7, rfl, by decide, zzI7, zz_at 210 (by decide +kernel), Or.inr (zz_at 211 (by decide +kernel)), zzY7_ok, zzN7⟩, (fun _ h => absurd h List.not_mem_nil)⟩)⟩)⟩)⟩)⟩)⟩)⟩)
set_option maxRecDepth 100000 in
theorem kv_X2_69_1 : zz_KV RX2 69 RX_1 1 yX10_isGone cX10_isGone 2 (some .boolean) := zz_ku (owner := "ReconcilerHall$View") (x := ⟨"ReconcilerHall$Controller", "isGone", "(I)Z"⟩) (zz_atl [828, 829, 830, 464, 109, 465] (by decide +kernel)) rfl (by decide +kernel)
set_option maxRecDepth 100000 in
theorem kv_X2_69_2 : zz_KV RX2 69 RX_2 1 yX10_isGone cX10_isGone 2 (some .boolean) := zz_ku (owner := "ReconcilerHall$View") (x := ⟨"ReconcilerHall$Controller", "isGone", "(I)Z"⟩) (zz_atl [828, 829, 831, 464, 109, 465] (by decide +kernel)) rfl (by decide +kernel)
set_option maxRecDepth 100000 in
theorem kv_X2_69_3 : zz_KV RX2 69 RX_3 1 yX10_isGone cX10_isGone 2 (some .boolean) := zz_ku (owner := "ReconcilerHall$View") (x := ⟨"ReconcilerHall$Controller", "isGone", "(I)Z"⟩) (zz_atl [828, 829, 832, 464, 109, 465] (by decide +kernel)) rfl (by decide +kernel)
set_option maxRecDepth 100000 in
theorem kv_X2_69_4 : zz_KV RX2 69 RX_4 1 yX10_isGone cX10_isGone 2 (some .boolean) := zz_ku (owner := "ReconcilerHall$View") (x := ⟨"ReconcilerHall$Controller", "isGone", "(I)Z"⟩) (zz_atl [828, 829, 833, 464, 109, 465] (by decide +kernel)) rfl (by decide +kernel)
set_option maxRecDepth 100000 in
theorem kv_X2_69_5 : zz_KV RX2 69 RX_5 1 yX10_isGone cX10_isGone 2 (some .boolean) := zz_ku (owner := "ReconcilerHall$View") (x := ⟨"ReconcilerHall$Controller", "isGone", "(I)Z"⟩) (zz_atl [828, 829, 834, 464, 109, 465] (by decide +kernel)) rfl (by decide +kernel)
set_option maxRecDepth 100000 in
theorem kv_X2_69_6 : zz_KV RX2 69 RX_6 1 yX10_isGone cX10_isGone 2 (some .boolean) := zz_ku (owner := "ReconcilerHall$View") (x := ⟨"ReconcilerHall$Controller", "isGone", "(I)Z"⟩) (zz_atl [828, 829, 835, 464, 109, 465] (by decide +kernel)) rfl (by decide +kernel)
set_option maxRecDepth 100000 in
theorem kv_X2_69_7 : zz_KV RX2 69 RX_7 1 yX10_isGone cX10_isGone 2 (some .boolean) := zz_ku (owner := "ReconcilerHall$View") (x := ⟨"ReconcilerHall$Controller", "isGone", "(I)Z"⟩) (zz_atl [828, 829, 836, 464, 109, 465] (by decide +kernel)) rfl (by decide +kernel)
set_option maxRecDepth 100000 in
theorem kv_X2_73_1 : zz_KV RX2 73 RX_1 1 yX2_isOwnKey cX2_isOwnKey 2 (some .boolean) := zz_ku (owner := "ReconcilerHall$Controller") (x := ⟨"ReconcilerHall$Controller", "isOwnKey", "(I)Z"⟩) (zz_atl [837, 2155, 2182, 839, 112, 840] (by decide +kernel)) rfl (by decide +kernel)
set_option maxRecDepth 100000 in
theorem kv_X2_73_2 : zz_KV RX2 73 RX_2 1 yX2_isOwnKey cX2_isOwnKey 2 (some .boolean) := zz_ku (owner := "ReconcilerHall$Controller") (x := ⟨"ReconcilerHall$Controller", "isOwnKey", "(I)Z"⟩) (zz_atl [837, 2155, 2183, 839, 112, 840] (by decide +kernel)) rfl (by decide +kernel)
set_option maxRecDepth 100000 in
theorem kv_X2_73_3 : zz_KV RX2 73 RX_3 1 yX2_isOwnKey cX2_isOwnKey 2 (some .boolean) := zz_ku (owner := "ReconcilerHall$Controller") (x := ⟨"ReconcilerHall$Controller", "isOwnKey", "(I)Z"⟩) (zz_atl [837, 2155, 2184, 839, 112, 840] (by decide +kernel)) rfl (by decide +kernel)
set_option maxRecDepth 100000 in
theorem kv_X2_73_4 : zz_KV RX2 73 RX_4 1 yX2_isOwnKey cX2_isOwnKey 2 (some .boolean) := zz_ku (owner := "ReconcilerHall$Controller") (x := ⟨"ReconcilerHall$Controller", "isOwnKey", "(I)Z"⟩) (zz_atl [837, 2155, 2185, 839, 112, 840] (by decide +kernel)) rfl (by decide +kernel)
set_option maxRecDepth 100000 in
theorem kv_X2_73_5 : zz_KV RX2 73 RX_5 1 yX2_isOwnKey cX2_isOwnKey 2 (some .boolean) := zz_ku (owner := "ReconcilerHall$Controller") (x := ⟨"ReconcilerHall$Controller", "isOwnKey", "(I)Z"⟩) (zz_atl [837, 2155, 2186, 839, 112, 840] (by decide +kernel)) rfl (by decide +kernel)
set_option maxRecDepth 100000 in
theorem kv_X2_73_6 : zz_KV RX2 73 RX_6 1 yX2_isOwnKey cX2_isOwnKey 2 (some .boolean) := zz_ku (owner := "ReconcilerHall$Controller") (x := ⟨"ReconcilerHall$Controller", "isOwnKey", "(I)Z"⟩) (zz_atl [837, 2155, 2187, 839, 112, 840] (by decide +kernel)) rfl (by decide +kernel)
set_option maxRecDepth 100000 in
theorem kv_X2_73_7 : zz_KV RX2 73 RX_7 1 yX2_isOwnKey cX2_isOwnKey 2 (some .boolean) := zz_ku (owner := "ReconcilerHall$Controller") (x := ⟨"ReconcilerHall$Controller", "isOwnKey", "(I)Z"⟩) (zz_atl [837, 2155, 2188, 839, 112, 840] (by decide +kernel)) rfl (by decide +kernel)
set_option maxRecDepth 100000 in
theorem ff_X2_21 : zz_fw RX2 21 zzCl (zz_kf [1, 2, 3, 4, 5, 6, 7] 5) := zz_fw_of (List.forall_mem_cons.mpr ⟨⟨RX_1, zzT1, 12, "ReconcilerHall$Controller", zzY1, rfl, by decide, zzI1, zz_at 259 (by decide +kernel), Or.inl rfl, zzY1_ok, zzN1⟩, (List.forall_mem_cons.mpr ⟨⟨RX_2, zzT2, 12, "ReconcilerHall$Controller", zzY2, rfl, by decide, zzI2, zz_at 259 (by decide +kernel), Or.inl rfl, zzY2_ok, zzN2⟩, (List.forall_mem_cons.mpr ⟨⟨RX_3, zzT3, 12, "ReconcilerHall$Controller", zzY3, rfl, by decide, zzI3, zz_at 259 (by decide +kernel), Or.inl rfl, zzY3_ok, zzN3⟩, (List.forall_mem_cons.mpr ⟨⟨RX_4, zzT4, 12, "ReconcilerHall$Controller", zzY4, rfl, by decide, zzI4, zz_at 259 (by decide +kernel), Or.inl rfl, zzY4_ok, zzN4⟩, (List.forall_mem_cons.mpr ⟨⟨RX_5, zzT5, 12, "ReconcilerHall$Controller", zzY5, rfl, by decide, zzI5, zz_at 259 (by decide +kernel), Or.inl rfl, zzY5_ok, zzN5⟩, (List.forall_mem_cons.mpr ⟨⟨RX_6, zzT6, 13, "ReconcilerHall$Controller", zzY6, rfl, by decide, zzI6, zz_at 259 (by decide +kernel), Or.inl rfl, zzY6_ok, zzN6⟩, (List.forall_mem_cons.mpr ⟨⟨RX_7, zzT7, 15, "ReconcilerHall$Controller", zzY7, rfl, by decide, zzI7, zz_at 259 (by decide +kernel), Or.inl rfl, zzY7_ok, zzN7⟩, (fun _ h => absurd h List.not_mem_nil)⟩)⟩)⟩)⟩)⟩)⟩)⟩)
set_option maxRecDepth 100000 in
theorem kv_X2_83_1 : zz_KV RX2 83 RX_1 2 yX10_read cX10_read 3 (some .int) := zz_ku (owner := "ReconcilerHall$View") (x := ⟨"ReconcilerHall$Controller", "read", "(II)I"⟩) (zz_atl [841, 842, 843, 467, 109, 477] (by decide +kernel)) rfl (by decide +kernel)
set_option maxRecDepth 100000 in
theorem kv_X2_83_2 : zz_KV RX2 83 RX_2 2 yX10_read cX10_read 3 (some .int) := zz_ku (owner := "ReconcilerHall$View") (x := ⟨"ReconcilerHall$Controller", "read", "(II)I"⟩) (zz_atl [841, 842, 844, 467, 109, 477] (by decide +kernel)) rfl (by decide +kernel)
set_option maxRecDepth 100000 in
theorem kv_X2_83_3 : zz_KV RX2 83 RX_3 2 yX10_read cX10_read 3 (some .int) := zz_ku (owner := "ReconcilerHall$View") (x := ⟨"ReconcilerHall$Controller", "read", "(II)I"⟩) (zz_atl [841, 842, 845, 467, 109, 477] (by decide +kernel)) rfl (by decide +kernel)
set_option maxRecDepth 100000 in
theorem kv_X2_83_4 : zz_KV RX2 83 RX_4 2 yX10_read cX10_read 3 (some .int) := zz_ku (owner := "ReconcilerHall$View") (x := ⟨"ReconcilerHall$Controller", "read", "(II)I"⟩) (zz_atl [841, 842, 846, 467, 109, 477] (by decide +kernel)) rfl (by decide +kernel)
set_option maxRecDepth 100000 in
theorem kv_X2_83_5 : zz_KV RX2 83 RX_5 2 yX10_read cX10_read 3 (some .int) := zz_ku (owner := "ReconcilerHall$View") (x := ⟨"ReconcilerHall$Controller", "read", "(II)I"⟩) (zz_atl [841, 842, 847, 467, 109, 477] (by decide +kernel)) rfl (by decide +kernel)
set_option maxRecDepth 100000 in
theorem kv_X2_83_6 : zz_KV RX2 83 RX_6 2 yX10_read cX10_read 3 (some .int) := zz_ku (owner := "ReconcilerHall$View") (x := ⟨"ReconcilerHall$Controller", "read", "(II)I"⟩) (zz_atl [841, 842, 848, 467, 109, 477] (by decide +kernel)) rfl (by decide +kernel)
set_option maxRecDepth 100000 in
theorem kv_X2_83_7 : zz_KV RX2 83 RX_7 2 yX10_read cX10_read 3 (some .int) := zz_ku (owner := "ReconcilerHall$View") (x := ⟨"ReconcilerHall$Controller", "read", "(II)I"⟩) (zz_atl [841, 842, 849, 467, 109, 477] (by decide +kernel)) rfl (by decide +kernel)
set_option maxRecDepth 100000 in
theorem kv_X2_76_1 : zz_KV RX2 76 RX_1 1 yX2_enqueue cX2_enqueue 2 none := zz_ku (owner := "ReconcilerHall$Controller") (x := ⟨"ReconcilerHall$Controller", "enqueue", "(I)V"⟩) (zz_atl [850, 852, 853, 851, 112, 860] (by decide +kernel)) rfl (by decide +kernel)
set_option maxRecDepth 100000 in
theorem kv_X2_76_2 : zz_KV RX2 76 RX_2 1 yX2_enqueue cX2_enqueue 2 none := zz_ku (owner := "ReconcilerHall$Controller") (x := ⟨"ReconcilerHall$Controller", "enqueue", "(I)V"⟩) (zz_atl [850, 852, 854, 851, 112, 860] (by decide +kernel)) rfl (by decide +kernel)
set_option maxRecDepth 100000 in
theorem kv_X2_76_3 : zz_KV RX2 76 RX_3 1 yX2_enqueue cX2_enqueue 2 none := zz_ku (owner := "ReconcilerHall$Controller") (x := ⟨"ReconcilerHall$Controller", "enqueue", "(I)V"⟩) (zz_atl [850, 852, 855, 851, 112, 860] (by decide +kernel)) rfl (by decide +kernel)
set_option maxRecDepth 100000 in
theorem kv_X2_76_4 : zz_KV RX2 76 RX_4 1 yX2_enqueue cX2_enqueue 2 none := zz_ku (owner := "ReconcilerHall$Controller") (x := ⟨"ReconcilerHall$Controller", "enqueue", "(I)V"⟩) (zz_atl [850, 852, 856, 851, 112, 860] (by decide +kernel)) rfl (by decide +kernel)
set_option maxRecDepth 100000 in
theorem kv_X2_76_5 : zz_KV RX2 76 RX_5 1 yX2_enqueue cX2_enqueue 2 none := zz_ku (owner := "ReconcilerHall$Controller") (x := ⟨"ReconcilerHall$Controller", "enqueue", "(I)V"⟩) (zz_atl [850, 852, 857, 851, 112, 860] (by decide +kernel)) rfl (by decide +kernel)
set_option maxRecDepth 100000 in
theorem kv_X2_76_6 : zz_KV RX2 76 RX_6 1 yX2_enqueue cX2_enqueue 2 none := zz_ku (owner := "ReconcilerHall$Controller") (x := ⟨"ReconcilerHall$Controller", "enqueue", "(I)V"⟩) (zz_atl [850, 852, 858, 851, 112, 860] (by decide +kernel)) rfl (by decide +kernel)
set_option maxRecDepth 100000 in
theorem kv_X2_76_7 : zz_KV RX2 76 RX_7 1 yX2_enqueue cX2_enqueue 2 none := zz_ku (owner := "ReconcilerHall$Controller") (x := ⟨"ReconcilerHall$Controller", "enqueue", "(I)V"⟩) (zz_atl [850, 852, 859, 851, 112, 860] (by decide +kernel)) rfl (by decide +kernel)
set_option maxRecDepth 100000 in
theorem ff_X2_54 : zz_fw RX2 54 zzCl (zz_kf [8] 3) := zz_fw_of (List.forall_mem_cons.mpr ⟨⟨RX_8, zzT8, 9, "ReconcilerHall$Store", zzY8, rfl, by decide, zzI8, zz_at 217 (by decide +kernel), Or.inr (zz_at 214 (by decide +kernel)), zzY8_ok, zzN8⟩, (fun _ h => absurd h List.not_mem_nil)⟩)
set_option maxRecDepth 100000 in
theorem kv_X2_55_1 : zz_KV RX2 55 RX_1 0 yX2_lookAtNext cX2_lookAtNext 5 none := zz_ku (owner := "ReconcilerHall$Controller") (x := ⟨"ReconcilerHall$Controller", "lookAtNext", "()V"⟩) (zz_atl [861, 2156, 2189, 863, 112, 864] (by decide +kernel)) rfl (by decide +kernel)
set_option maxRecDepth 100000 in
theorem kv_X2_55_2 : zz_KV RX2 55 RX_2 0 yX2_lookAtNext cX2_lookAtNext 5 none := zz_ku (owner := "ReconcilerHall$Controller") (x := ⟨"ReconcilerHall$Controller", "lookAtNext", "()V"⟩) (zz_atl [861, 2156, 2190, 863, 112, 864] (by decide +kernel)) rfl (by decide +kernel)
set_option maxRecDepth 100000 in
theorem kv_X2_55_3 : zz_KV RX2 55 RX_3 0 yX2_lookAtNext cX2_lookAtNext 5 none := zz_ku (owner := "ReconcilerHall$Controller") (x := ⟨"ReconcilerHall$Controller", "lookAtNext", "()V"⟩) (zz_atl [861, 2156, 2191, 863, 112, 864] (by decide +kernel)) rfl (by decide +kernel)
set_option maxRecDepth 100000 in
theorem kv_X2_55_4 : zz_KV RX2 55 RX_4 0 yX2_lookAtNext cX2_lookAtNext 5 none := zz_ku (owner := "ReconcilerHall$Controller") (x := ⟨"ReconcilerHall$Controller", "lookAtNext", "()V"⟩) (zz_atl [861, 2156, 2192, 863, 112, 864] (by decide +kernel)) rfl (by decide +kernel)
set_option maxRecDepth 100000 in
theorem kv_X2_55_5 : zz_KV RX2 55 RX_5 0 yX2_lookAtNext cX2_lookAtNext 5 none := zz_ku (owner := "ReconcilerHall$Controller") (x := ⟨"ReconcilerHall$Controller", "lookAtNext", "()V"⟩) (zz_atl [861, 2156, 2193, 863, 112, 864] (by decide +kernel)) rfl (by decide +kernel)
set_option maxRecDepth 100000 in
theorem kv_X2_55_6 : zz_KV RX2 55 RX_6 0 yX2_lookAtNext cX2_lookAtNext 5 none := zz_ku (owner := "ReconcilerHall$Controller") (x := ⟨"ReconcilerHall$Controller", "lookAtNext", "()V"⟩) (zz_atl [861, 2156, 2194, 863, 112, 864] (by decide +kernel)) rfl (by decide +kernel)
set_option maxRecDepth 100000 in
theorem kv_X2_55_7 : zz_KV RX2 55 RX_7 0 yX2_lookAtNext cX2_lookAtNext 5 none := zz_ku (owner := "ReconcilerHall$Controller") (x := ⟨"ReconcilerHall$Controller", "lookAtNext", "()V"⟩) (zz_atl [861, 2156, 2195, 863, 112, 864] (by decide +kernel)) rfl (by decide +kernel)
set_option maxRecDepth 100000 in
theorem kv_X2_80_1 : zz_KV RX2 80 RX_1 1 yX10_objectAt cX10_objectAt 2 (some .int) := zz_ku (owner := "ReconcilerHall$View") (x := ⟨"ReconcilerHall$Controller", "objectAt", "(I)I"⟩) (zz_atl [865, 866, 868, 875, 109, 876] (by decide +kernel)) rfl (by decide +kernel)
set_option maxRecDepth 100000 in
theorem kv_X2_80_2 : zz_KV RX2 80 RX_2 1 yX10_objectAt cX10_objectAt 2 (some .int) := zz_ku (owner := "ReconcilerHall$View") (x := ⟨"ReconcilerHall$Controller", "objectAt", "(I)I"⟩) (zz_atl [865, 866, 869, 875, 109, 876] (by decide +kernel)) rfl (by decide +kernel)
set_option maxRecDepth 100000 in
theorem kv_X2_80_3 : zz_KV RX2 80 RX_3 1 yX10_objectAt cX10_objectAt 2 (some .int) := zz_ku (owner := "ReconcilerHall$View") (x := ⟨"ReconcilerHall$Controller", "objectAt", "(I)I"⟩) (zz_atl [865, 866, 870, 875, 109, 876] (by decide +kernel)) rfl (by decide +kernel)
set_option maxRecDepth 100000 in
theorem kv_X2_80_4 : zz_KV RX2 80 RX_4 1 yX10_objectAt cX10_objectAt 2 (some .int) := zz_ku (owner := "ReconcilerHall$View") (x := ⟨"ReconcilerHall$Controller", "objectAt", "(I)I"⟩) (zz_atl [865, 866, 871, 875, 109, 876] (by decide +kernel)) rfl (by decide +kernel)
set_option maxRecDepth 100000 in
theorem kv_X2_80_5 : zz_KV RX2 80 RX_5 1 yX10_objectAt cX10_objectAt 2 (some .int) := zz_ku (owner := "ReconcilerHall$View") (x := ⟨"ReconcilerHall$Controller", "objectAt", "(I)I"⟩) (zz_atl [865, 866, 872, 875, 109, 876] (by decide +kernel)) rfl (by decide +kernel)
set_option maxRecDepth 100000 in
theorem kv_X2_80_6 : zz_KV RX2 80 RX_6 1 yX10_objectAt cX10_objectAt 2 (some .int) := zz_ku (owner := "ReconcilerHall$View") (x := ⟨"ReconcilerHall$Controller", "objectAt", "(I)I"⟩) (zz_atl [865, 866, 873, 875, 109, 876] (by decide +kernel)) rfl (by decide +kernel)
set_option maxRecDepth 100000 in
theorem kv_X2_80_7 : zz_KV RX2 80 RX_7 1 yX10_objectAt cX10_objectAt 2 (some .int) := zz_ku (owner := "ReconcilerHall$View") (x := ⟨"ReconcilerHall$Controller", "objectAt", "(I)I"⟩) (zz_atl [865, 866, 874, 875, 109, 876] (by decide +kernel)) rfl (by decide +kernel)
set_option maxRecDepth 100000 in
theorem kv_X2_87_1 : zz_KV RX2 87 RX_1 2 yX10_takeIn cX10_takeIn 3 none := zz_ku (owner := "ReconcilerHall$View") (x := ⟨"ReconcilerHall$Controller", "takeIn", "(II)V"⟩) (zz_atl [877, 878, 879, 532, 109, 533] (by decide +kernel)) rfl (by decide +kernel)
set_option maxRecDepth 100000 in
theorem kv_X2_87_2 : zz_KV RX2 87 RX_2 2 yX10_takeIn cX10_takeIn 3 none := zz_ku (owner := "ReconcilerHall$View") (x := ⟨"ReconcilerHall$Controller", "takeIn", "(II)V"⟩) (zz_atl [877, 878, 880, 532, 109, 533] (by decide +kernel)) rfl (by decide +kernel)
set_option maxRecDepth 100000 in
theorem kv_X2_87_3 : zz_KV RX2 87 RX_3 2 yX10_takeIn cX10_takeIn 3 none := zz_ku (owner := "ReconcilerHall$View") (x := ⟨"ReconcilerHall$Controller", "takeIn", "(II)V"⟩) (zz_atl [877, 878, 881, 532, 109, 533] (by decide +kernel)) rfl (by decide +kernel)
set_option maxRecDepth 100000 in
theorem kv_X2_87_4 : zz_KV RX2 87 RX_4 2 yX10_takeIn cX10_takeIn 3 none := zz_ku (owner := "ReconcilerHall$View") (x := ⟨"ReconcilerHall$Controller", "takeIn", "(II)V"⟩) (zz_atl [877, 878, 882, 532, 109, 533] (by decide +kernel)) rfl (by decide +kernel)
set_option maxRecDepth 100000 in
theorem kv_X2_87_5 : zz_KV RX2 87 RX_5 2 yX10_takeIn cX10_takeIn 3 none := zz_ku (owner := "ReconcilerHall$View") (x := ⟨"ReconcilerHall$Controller", "takeIn", "(II)V"⟩) (zz_atl [877, 878, 883, 532, 109, 533] (by decide +kernel)) rfl (by decide +kernel)
set_option maxRecDepth 100000 in
theorem kv_X2_87_6 : zz_KV RX2 87 RX_6 2 yX10_takeIn cX10_takeIn 3 none := zz_ku (owner := "ReconcilerHall$View") (x := ⟨"ReconcilerHall$Controller", "takeIn", "(II)V"⟩) (zz_atl [877, 878, 884, 532, 109, 533] (by decide +kernel)) rfl (by decide +kernel)
set_option maxRecDepth 100000 in
theorem kv_X2_87_7 : zz_KV RX2 87 RX_7 2 yX10_takeIn cX10_takeIn 3 none := zz_ku (owner := "ReconcilerHall$View") (x := ⟨"ReconcilerHall$Controller", "takeIn", "(II)V"⟩) (zz_atl [877, 878, 885, 532, 109, 533] (by decide +kernel)) rfl (by decide +kernel)
set_option maxRecDepth 100000 in
theorem kv_X2_91_1 : zz_KV RX2 91 RX_1 2 yX1_queueOthers cX1_queueOthers 4 none := zz_ka (owner := "ReconcilerHall$Controller") (x := ⟨"ReconcilerHall$Controller", "queueOthers", "(II)V"⟩) (zz_atl [886, 888, 889, 890, 117, 891] (by decide +kernel)) (by decide +kernel) (by decide +kernel)
set_option maxRecDepth 100000 in
theorem kv_X2_91_2 : zz_KV RX2 91 RX_2 2 yX3_queueOthers cX3_queueOthers 3 none := zz_ka (owner := "ReconcilerHall$Controller") (x := ⟨"ReconcilerHall$Controller", "queueOthers", "(II)V"⟩) (zz_atl [886, 888, 899, 900, 113, 901] (by decide +kernel)) (by decide +kernel) (by decide +kernel)
set_option maxRecDepth 100000 in
theorem kv_X2_91_3 : zz_KV RX2 91 RX_3 2 yX4_queueOthers cX4_queueOthers 3 none := zz_ka (owner := "ReconcilerHall$Controller") (x := ⟨"ReconcilerHall$Controller", "queueOthers", "(II)V"⟩) (zz_atl [886, 888, 908, 909, 114, 910] (by decide +kernel)) (by decide +kernel) (by decide +kernel)
set_option maxRecDepth 100000 in
theorem kv_X2_91_4 : zz_KV RX2 91 RX_4 2 yX5_queueOthers cX5_queueOthers 4 none := zz_ka (owner := "ReconcilerHall$Controller") (x := ⟨"ReconcilerHall$Controller", "queueOthers", "(II)V"⟩) (zz_atl [886, 888, 917, 918, 118, 919] (by decide +kernel)) (by decide +kernel) (by decide +kernel)
set_option maxRecDepth 100000 in
theorem kv_X2_91_5 : zz_KV RX2 91 RX_5 2 yX6_queueOthers cX6_queueOthers 4 none := zz_ka (owner := "ReconcilerHall$Controller") (x := ⟨"ReconcilerHall$Controller", "queueOthers", "(II)V"⟩) (zz_atl [886, 888, 929, 930, 116, 931] (by decide +kernel)) (by decide +kernel) (by decide +kernel)
set_option maxRecDepth 100000 in
theorem kv_X2_91_6 : zz_KV RX2 91 RX_6 2 yX7_queueOthers cX7_queueOthers 3 none := zz_ka (owner := "ReconcilerHall$Controller") (x := ⟨"ReconcilerHall$Controller", "queueOthers", "(II)V"⟩) (zz_atl [886, 888, 938, 939, 119, 940] (by decide +kernel)) (by decide +kernel) (by decide +kernel)
set_option maxRecDepth 100000 in
theorem kv_X2_91_7 : zz_KV RX2 91 RX_7 2 yX8_queueOthers cX8_queueOthers 4 none := zz_ka (owner := "ReconcilerHall$Controller") (x := ⟨"ReconcilerHall$Controller", "queueOthers", "(II)V"⟩) (zz_atl [886, 888, 941, 942, 115, 943] (by decide +kernel)) (by decide +kernel) (by decide +kernel)
set_option maxRecDepth 100000 in
theorem kv_X3_9_2 : zz_KV RX3 9 RX_2 2 yX10_read cX10_read 3 (some .int) := zz_ku (owner := "ReconcilerHall$View") (x := ⟨"ReconcilerHall$Deployer", "read", "(II)I"⟩) (zz_atl [902, 903, 904, 467, 109, 477] (by decide +kernel)) rfl (by decide +kernel)
set_option maxRecDepth 100000 in
theorem kv_X3_15_2 : zz_KV RX3 15 RX_2 1 yX2_enqueue cX2_enqueue 2 none := zz_ku (owner := "ReconcilerHall$Controller") (x := ⟨"ReconcilerHall$Deployer", "enqueue", "(I)V"⟩) (zz_atl [905, 906, 907, 851, 112, 860] (by decide +kernel)) rfl (by decide +kernel)
set_option maxRecDepth 100000 in
theorem kv_X4_9_3 : zz_KV RX4 9 RX_3 2 yX10_read cX10_read 3 (some .int) := zz_ku (owner := "ReconcilerHall$View") (x := ⟨"ReconcilerHall$PodMaker", "read", "(II)I"⟩) (zz_atl [911, 912, 913, 467, 109, 477] (by decide +kernel)) rfl (by decide +kernel)
set_option maxRecDepth 100000 in
theorem ff_X4_15 : zz_fw RX4 15 zzCl (zz_kf [3] 5) := zz_fw_of (List.forall_mem_cons.mpr ⟨⟨RX_3, zzT3, 12, "ReconcilerHall$PodMaker", zzY3, rfl, by decide, zzI3, zz_at 260 (by decide +kernel), Or.inr (zz_at 261 (by decide +kernel)), zzY3_ok, zzN3⟩, (fun _ h => absurd h List.not_mem_nil)⟩)
set_option maxRecDepth 100000 in
theorem kv_X4_19_3 : zz_KV RX4 19 RX_3 1 yX2_enqueue cX2_enqueue 2 none := zz_ku (owner := "ReconcilerHall$Controller") (x := ⟨"ReconcilerHall$PodMaker", "enqueue", "(I)V"⟩) (zz_atl [914, 915, 916, 851, 112, 860] (by decide +kernel)) rfl (by decide +kernel)
set_option maxRecDepth 100000 in
theorem ff_X5_9 : zz_fw RX5 9 zzCl (zz_kf [4] 2) := zz_fw_of (List.forall_mem_cons.mpr ⟨⟨RX_4, zzT4, 12, "ReconcilerHall$Router", zzY4, rfl, by decide, zzI4, zz_at 195 (by decide +kernel), Or.inr (zz_at 196 (by decide +kernel)), zzY4_ok, zzN4⟩, (fun _ h => absurd h List.not_mem_nil)⟩)
set_option maxRecDepth 100000 in
theorem kv_X5_15_4 : zz_KV RX5 15 RX_4 2 yX10_read cX10_read 3 (some .int) := zz_ku (owner := "ReconcilerHall$View") (x := ⟨"ReconcilerHall$Router", "read", "(II)I"⟩) (zz_atl [920, 921, 922, 467, 109, 477] (by decide +kernel)) rfl (by decide +kernel)
set_option maxRecDepth 100000 in
theorem kv_X5_19_4 : zz_KV RX5 19 RX_4 1 yX10_isGone cX10_isGone 2 (some .boolean) := zz_ku (owner := "ReconcilerHall$View") (x := ⟨"ReconcilerHall$Router", "isGone", "(I)Z"⟩) (zz_atl [923, 924, 925, 464, 109, 465] (by decide +kernel)) rfl (by decide +kernel)
set_option maxRecDepth 100000 in
theorem kv_X5_23_4 : zz_KV RX5 23 RX_4 1 yX2_enqueue cX2_enqueue 2 none := zz_ku (owner := "ReconcilerHall$Controller") (x := ⟨"ReconcilerHall$Router", "enqueue", "(I)V"⟩) (zz_atl [926, 927, 928, 851, 112, 860] (by decide +kernel)) rfl (by decide +kernel)
set_option maxRecDepth 100000 in
theorem ff_X6_9 : zz_fw RX6 9 zzCl (zz_kf [5] 2) := zz_fw_of (List.forall_mem_cons.mpr ⟨⟨RX_5, zzT5, 12, "ReconcilerHall$Runner", zzY5, rfl, by decide, zzI5, zz_at 197 (by decide +kernel), Or.inr (zz_at 198 (by decide +kernel)), zzY5_ok, zzN5⟩, (fun _ h => absurd h List.not_mem_nil)⟩)
set_option maxRecDepth 100000 in
theorem kv_X6_15_5 : zz_KV RX6 15 RX_5 2 yX10_read cX10_read 3 (some .int) := zz_ku (owner := "ReconcilerHall$View") (x := ⟨"ReconcilerHall$Runner", "read", "(II)I"⟩) (zz_atl [932, 933, 934, 467, 109, 477] (by decide +kernel)) rfl (by decide +kernel)
set_option maxRecDepth 100000 in
theorem kv_X6_19_5 : zz_KV RX6 19 RX_5 1 yX2_enqueue cX2_enqueue 2 none := zz_ku (owner := "ReconcilerHall$Controller") (x := ⟨"ReconcilerHall$Runner", "enqueue", "(I)V"⟩) (zz_atl [935, 936, 937, 851, 112, 860] (by decide +kernel)) rfl (by decide +kernel)
set_option maxRecDepth 100000 in
theorem ff_X8_21 : zz_fw RX8 21 zzCl (zz_kf [7] 2) := zz_fw_of (List.forall_mem_cons.mpr ⟨⟨RX_7, zzT7, 15, "ReconcilerHall$Scheduler", zzY7, rfl, by decide, zzI7, zz_at 199 (by decide +kernel), Or.inr (zz_at 200 (by decide +kernel)), zzY7_ok, zzN7⟩, (fun _ h => absurd h List.not_mem_nil)⟩)
set_option maxRecDepth 100000 in
theorem kv_X8_25_7 : zz_KV RX8 25 RX_7 2 yX10_read cX10_read 3 (some .int) := zz_ku (owner := "ReconcilerHall$View") (x := ⟨"ReconcilerHall$Scheduler", "read", "(II)I"⟩) (zz_atl [944, 945, 946, 467, 109, 477] (by decide +kernel)) rfl (by decide +kernel)
set_option maxRecDepth 100000 in
theorem kv_X8_29_7 : zz_KV RX8 29 RX_7 1 yX8_isWithoutPlace cX8_isWithoutPlace 2 (some .boolean) ∧ zz_KX RX8 29 RX_7 1 yX8_isWithoutPlace cX8_isWithoutPlace 2 (some .boolean) := zz_kv (zz_atl [947, 949, 11, 115, 950] (by decide +kernel)) (by decide +kernel)
set_option maxRecDepth 100000 in
theorem kv_X8_37_7 : zz_KV RX8 37 RX_7 2 yX10_isStaying cX10_isStaying 3 (some .boolean) := zz_ku (owner := "ReconcilerHall$View") (x := ⟨"ReconcilerHall$Scheduler", "isStaying", "(II)Z"⟩) (zz_atl [951, 952, 954, 955, 109, 956] (by decide +kernel)) rfl (by decide +kernel)
set_option maxRecDepth 100000 in
theorem kv_X8_33_7 : zz_KV RX8 33 RX_7 1 yX2_enqueue cX2_enqueue 2 none := zz_ku (owner := "ReconcilerHall$Controller") (x := ⟨"ReconcilerHall$Scheduler", "enqueue", "(I)V"⟩) (zz_atl [957, 958, 959, 851, 112, 860] (by decide +kernel)) rfl (by decide +kernel)
set_option maxRecDepth 100000 in
theorem kv_X2_58_1 : zz_KV RX2 58 RX_1 1 yX2_look cX2_look 4 (some .int) := zz_ku (owner := "ReconcilerHall$Controller") (x := ⟨"ReconcilerHall$Controller", "look", "(I)I"⟩) (zz_atl [1299, 802, 803, 801, 112, 810] (by decide +kernel)) rfl (by decide +kernel)
set_option maxRecDepth 100000 in
theorem kv_X2_58_2 : zz_KV RX2 58 RX_2 1 yX2_look cX2_look 4 (some .int) := zz_ku (owner := "ReconcilerHall$Controller") (x := ⟨"ReconcilerHall$Controller", "look", "(I)I"⟩) (zz_atl [1299, 802, 804, 801, 112, 810] (by decide +kernel)) rfl (by decide +kernel)
set_option maxRecDepth 100000 in
theorem kv_X2_58_3 : zz_KV RX2 58 RX_3 1 yX2_look cX2_look 4 (some .int) := zz_ku (owner := "ReconcilerHall$Controller") (x := ⟨"ReconcilerHall$Controller", "look", "(I)I"⟩) (zz_atl [1299, 802, 805, 801, 112, 810] (by decide +kernel)) rfl (by decide +kernel)
set_option maxRecDepth 100000 in
theorem kv_X2_58_4 : zz_KV RX2 58 RX_4 1 yX2_look cX2_look 4 (some .int) := zz_ku (owner := "ReconcilerHall$Controller") (x := ⟨"ReconcilerHall$Controller", "look", "(I)I"⟩) (zz_atl [1299, 802, 806, 801, 112, 810] (by decide +kernel)) rfl (by decide +kernel)
set_option maxRecDepth 100000 in
theorem kv_X2_58_5 : zz_KV RX2 58 RX_5 1 yX2_look cX2_look 4 (some .int) := zz_ku (owner := "ReconcilerHall$Controller") (x := ⟨"ReconcilerHall$Controller", "look", "(I)I"⟩) (zz_atl [1299, 802, 807, 801, 112, 810] (by decide +kernel)) rfl (by decide +kernel)
set_option maxRecDepth 100000 in
theorem kv_X2_58_6 : zz_KV RX2 58 RX_6 1 yX2_look cX2_look 4 (some .int) := zz_ku (owner := "ReconcilerHall$Controller") (x := ⟨"ReconcilerHall$Controller", "look", "(I)I"⟩) (zz_atl [1299, 802, 808, 801, 112, 810] (by decide +kernel)) rfl (by decide +kernel)
set_option maxRecDepth 100000 in
theorem kv_X2_58_7 : zz_KV RX2 58 RX_7 1 yX2_look cX2_look 4 (some .int) := zz_ku (owner := "ReconcilerHall$Controller") (x := ⟨"ReconcilerHall$Controller", "look", "(I)I"⟩) (zz_atl [1299, 802, 809, 801, 112, 810] (by decide +kernel)) rfl (by decide +kernel)
set_option maxRecDepth 100000 in
theorem ff_X2_35 : zz_fw RX2 35 zzCl (zz_kf [1, 2, 3, 4, 5, 6, 7] 9) := zz_fw_of (List.forall_mem_cons.mpr ⟨⟨RX_1, zzT1, 12, "ReconcilerHall$Controller", zzY1, rfl, by decide, zzI1, zz_at 266 (by decide +kernel), Or.inl rfl, zzY1_ok, zzN1⟩, (List.forall_mem_cons.mpr ⟨⟨RX_2, zzT2, 12, "ReconcilerHall$Controller", zzY2, rfl, by decide, zzI2, zz_at 266 (by decide +kernel), Or.inl rfl, zzY2_ok, zzN2⟩, (List.forall_mem_cons.mpr ⟨⟨RX_3, zzT3, 12, "ReconcilerHall$Controller", zzY3, rfl, by decide, zzI3, zz_at 266 (by decide +kernel), Or.inl rfl, zzY3_ok, zzN3⟩, (List.forall_mem_cons.mpr ⟨⟨RX_4, zzT4, 12, "ReconcilerHall$Controller", zzY4, rfl, by decide, zzI4, zz_at 266 (by decide +kernel), Or.inl rfl, zzY4_ok, zzN4⟩, (List.forall_mem_cons.mpr ⟨⟨RX_5, zzT5, 12, "ReconcilerHall$Controller", zzY5, rfl, by decide, zzI5, zz_at 266 (by decide +kernel), Or.inl rfl, zzY5_ok, zzN5⟩, (List.forall_mem_cons.mpr ⟨⟨RX_6, zzT6, 13, "ReconcilerHall$Controller", zzY6, rfl, by decide, zzI6, zz_at 266 (by decide +kernel), Or.inl rfl, zzY6_ok, zzN6⟩, (List.forall_mem_cons.mpr ⟨⟨RX_7, zzT7, 15, "ReconcilerHall$Controller", zzY7, rfl, by decide, zzI7, zz_at 266 (by decide +kernel), Or.inl rfl, zzY7_ok, zzN7⟩, (fun _ h => absurd h List.not_mem_nil)⟩)⟩)⟩)⟩)⟩)⟩)⟩)
set_option maxRecDepth 100000 in
theorem ff_X2_94 : zz_fw RX2 94 zzCl (zz_kf [8] 7) := zz_fw_of (List.forall_mem_cons.mpr ⟨⟨RX_8, zzT8, 9, "ReconcilerHall$Store", zzY8, rfl, by decide, zzI8, zz_at 186 (by decide +kernel), Or.inl rfl, zzY8_ok, zzN8⟩, (fun _ h => absurd h List.not_mem_nil)⟩)
set_option maxRecDepth 100000 in
theorem kv_X2_103_1 : zz_KV RX2 103 RX_1 0 yX2_takeKey cX2_takeKey 3 (some .int) := zz_ku (owner := "ReconcilerHall$Controller") (x := ⟨"ReconcilerHall$Controller", "takeKey", "()I"⟩) (zz_atl [979, 2157, 2196, 981, 112, 982] (by decide +kernel)) rfl (by decide +kernel)
set_option maxRecDepth 100000 in
theorem kv_X2_103_2 : zz_KV RX2 103 RX_2 0 yX2_takeKey cX2_takeKey 3 (some .int) := zz_ku (owner := "ReconcilerHall$Controller") (x := ⟨"ReconcilerHall$Controller", "takeKey", "()I"⟩) (zz_atl [979, 2157, 2197, 981, 112, 982] (by decide +kernel)) rfl (by decide +kernel)
set_option maxRecDepth 100000 in
theorem kv_X2_103_3 : zz_KV RX2 103 RX_3 0 yX2_takeKey cX2_takeKey 3 (some .int) := zz_ku (owner := "ReconcilerHall$Controller") (x := ⟨"ReconcilerHall$Controller", "takeKey", "()I"⟩) (zz_atl [979, 2157, 2198, 981, 112, 982] (by decide +kernel)) rfl (by decide +kernel)
set_option maxRecDepth 100000 in
theorem kv_X2_103_4 : zz_KV RX2 103 RX_4 0 yX2_takeKey cX2_takeKey 3 (some .int) := zz_ku (owner := "ReconcilerHall$Controller") (x := ⟨"ReconcilerHall$Controller", "takeKey", "()I"⟩) (zz_atl [979, 2157, 2199, 981, 112, 982] (by decide +kernel)) rfl (by decide +kernel)
set_option maxRecDepth 100000 in
theorem kv_X2_103_5 : zz_KV RX2 103 RX_5 0 yX2_takeKey cX2_takeKey 3 (some .int) := zz_ku (owner := "ReconcilerHall$Controller") (x := ⟨"ReconcilerHall$Controller", "takeKey", "()I"⟩) (zz_atl [979, 2157, 2200, 981, 112, 982] (by decide +kernel)) rfl (by decide +kernel)
set_option maxRecDepth 100000 in
theorem kv_X2_103_6 : zz_KV RX2 103 RX_6 0 yX2_takeKey cX2_takeKey 3 (some .int) := zz_ku (owner := "ReconcilerHall$Controller") (x := ⟨"ReconcilerHall$Controller", "takeKey", "()I"⟩) (zz_atl [979, 2157, 2201, 981, 112, 982] (by decide +kernel)) rfl (by decide +kernel)
set_option maxRecDepth 100000 in
theorem kv_X2_103_7 : zz_KV RX2 103 RX_7 0 yX2_takeKey cX2_takeKey 3 (some .int) := zz_ku (owner := "ReconcilerHall$Controller") (x := ⟨"ReconcilerHall$Controller", "takeKey", "()I"⟩) (zz_atl [979, 2157, 2202, 981, 112, 982] (by decide +kernel)) rfl (by decide +kernel)
set_option maxRecDepth 100000 in
theorem ff_X2_38 : zz_fw RX2 38 zzCl (zz_kf [1, 2, 3, 4, 5, 6, 7] 10) := zz_fw_of (List.forall_mem_cons.mpr ⟨⟨RX_1, zzT1, 12, "ReconcilerHall$Controller", zzY1, rfl, by decide, zzI1, zz_at 269 (by decide +kernel), Or.inl rfl, zzY1_ok, zzN1⟩, (List.forall_mem_cons.mpr ⟨⟨RX_2, zzT2, 12, "ReconcilerHall$Controller", zzY2, rfl, by decide, zzI2, zz_at 269 (by decide +kernel), Or.inl rfl, zzY2_ok, zzN2⟩, (List.forall_mem_cons.mpr ⟨⟨RX_3, zzT3, 12, "ReconcilerHall$Controller", zzY3, rfl, by decide, zzI3, zz_at 269 (by decide +kernel), Or.inl rfl, zzY3_ok, zzN3⟩, (List.forall_mem_cons.mpr ⟨⟨RX_4, zzT4, 12, "ReconcilerHall$Controller", zzY4, rfl, by decide, zzI4, zz_at 269 (by decide +kernel), Or.inl rfl, zzY4_ok, zzN4⟩, (List.forall_mem_cons.mpr ⟨⟨RX_5, zzT5, 12, "ReconcilerHall$Controller", zzY5, rfl, by decide, zzI5, zz_at 269 (by decide +kernel), Or.inl rfl, zzY5_ok, zzN5⟩, (List.forall_mem_cons.mpr ⟨⟨RX_6, zzT6, 13, "ReconcilerHall$Controller", zzY6, rfl, by decide, zzI6, zz_at 269 (by decide +kernel), Or.inl rfl, zzY6_ok, zzN6⟩, (List.forall_mem_cons.mpr ⟨⟨RX_7, zzT7, 15, "ReconcilerHall$Controller", zzY7, rfl, by decide, zzI7, zz_at 269 (by decide +kernel), Or.inl rfl, zzY7_ok, zzN7⟩, (fun _ h => absurd h List.not_mem_nil)⟩)⟩)⟩)⟩)⟩)⟩)⟩)
set_option maxRecDepth 100000 in
theorem kv_X2_107_1 : zz_KV RX2 107 RX_1 1 yX1_serve cX1_serve 4 (some .int) := zz_ka (owner := "ReconcilerHall$Controller") (x := ⟨"ReconcilerHall$Controller", "serve", "(I)I"⟩) (zz_atl [984, 986, 987, 988, 117, 989] (by decide +kernel)) (by decide +kernel) (by decide +kernel)
set_option maxRecDepth 100000 in
theorem kv_X2_107_2 : zz_KV RX2 107 RX_2 1 yX3_serve cX3_serve 7 (some .int) := zz_ka (owner := "ReconcilerHall$Controller") (x := ⟨"ReconcilerHall$Controller", "serve", "(I)I"⟩) (zz_atl [984, 986, 1047, 1048, 113, 1049] (by decide +kernel)) (by decide +kernel) (by decide +kernel)
set_option maxRecDepth 100000 in
theorem kv_X2_107_3 : zz_KV RX2 107 RX_3 1 yX4_serve cX4_serve 2 (some .int) := zz_ka (owner := "ReconcilerHall$Controller") (x := ⟨"ReconcilerHall$Controller", "serve", "(I)I"⟩) (zz_atl [984, 986, 1119, 1120, 114, 1121] (by decide +kernel)) (by decide +kernel) (by decide +kernel)
set_option maxRecDepth 100000 in
theorem kv_X2_107_4 : zz_KV RX2 107 RX_4 1 yX5_serve cX5_serve 4 (some .int) := zz_ka (owner := "ReconcilerHall$Controller") (x := ⟨"ReconcilerHall$Controller", "serve", "(I)I"⟩) (zz_atl [984, 986, 1148, 1149, 118, 1150] (by decide +kernel)) (by decide +kernel) (by decide +kernel)
set_option maxRecDepth 100000 in
theorem kv_X2_107_5 : zz_KV RX2 107 RX_5 1 yX6_serve cX6_serve 6 (some .int) := zz_ka (owner := "ReconcilerHall$Controller") (x := ⟨"ReconcilerHall$Controller", "serve", "(I)I"⟩) (zz_atl [984, 986, 1168, 1169, 116, 1170] (by decide +kernel)) (by decide +kernel) (by decide +kernel)
set_option maxRecDepth 100000 in
theorem kv_X2_107_6 : zz_KV RX2 107 RX_6 1 yX7_serve cX7_serve 7 (some .int) := zz_ka (owner := "ReconcilerHall$Controller") (x := ⟨"ReconcilerHall$Controller", "serve", "(I)I"⟩) (zz_atl [984, 986, 1197, 1198, 119, 1199] (by decide +kernel)) (by decide +kernel) (by decide +kernel)
set_option maxRecDepth 100000 in
theorem kv_X2_107_7 : zz_KV RX2 107 RX_7 1 yX8_serve cX8_serve 6 (some .int) := zz_ka (owner := "ReconcilerHall$Controller") (x := ⟨"ReconcilerHall$Controller", "serve", "(I)I"⟩) (zz_atl [984, 986, 1215, 1216, 115, 1217] (by decide +kernel)) (by decide +kernel) (by decide +kernel)
set_option maxRecDepth 100000 in
theorem kv_X3_19_2 : zz_KV RX3 19 RX_2 2 yX10_isStaying cX10_isStaying 3 (some .boolean) := zz_ku (owner := "ReconcilerHall$View") (x := ⟨"ReconcilerHall$Deployer", "isStaying", "(II)Z"⟩) (zz_atl [1050, 1051, 1052, 955, 109, 956] (by decide +kernel)) rfl (by decide +kernel)
set_option maxRecDepth 100000 in
theorem kv_X3_23_2 : zz_KV RX3 23 RX_2 1 yX10_newSetOf cX10_newSetOf 4 (some .int) := zz_ku (owner := "ReconcilerHall$View") (x := ⟨"ReconcilerHall$Deployer", "newSetOf", "(I)I"⟩) (zz_atl [1053, 1054, 1056, 1057, 109, 1058] (by decide +kernel)) rfl (by decide +kernel)
set_option maxRecDepth 100000 in
theorem kv_X10_35_1 : zz_KV RX10 35 RX_1 3 yX10_isOwned cX10_isOwned 4 (some .boolean) := zz_ku (owner := "ReconcilerHall$View") (x := ⟨"ReconcilerHall$View", "isOwned", "(III)Z"⟩) (zz_atl [1059, 1061, 1062, 1060, 109, 1070] (by decide +kernel)) rfl (by decide +kernel)
set_option maxRecDepth 100000 in
theorem kv_X10_35_2 : zz_KV RX10 35 RX_2 3 yX10_isOwned cX10_isOwned 4 (some .boolean) := zz_ku (owner := "ReconcilerHall$View") (x := ⟨"ReconcilerHall$View", "isOwned", "(III)Z"⟩) (zz_atl [1059, 1061, 1063, 1060, 109, 1070] (by decide +kernel)) rfl (by decide +kernel)
set_option maxRecDepth 100000 in
theorem kv_X10_35_3 : zz_KV RX10 35 RX_3 3 yX10_isOwned cX10_isOwned 4 (some .boolean) := zz_ku (owner := "ReconcilerHall$View") (x := ⟨"ReconcilerHall$View", "isOwned", "(III)Z"⟩) (zz_atl [1059, 1061, 1064, 1060, 109, 1070] (by decide +kernel)) rfl (by decide +kernel)
set_option maxRecDepth 100000 in
theorem kv_X10_35_4 : zz_KV RX10 35 RX_4 3 yX10_isOwned cX10_isOwned 4 (some .boolean) := zz_ku (owner := "ReconcilerHall$View") (x := ⟨"ReconcilerHall$View", "isOwned", "(III)Z"⟩) (zz_atl [1059, 1061, 1065, 1060, 109, 1070] (by decide +kernel)) rfl (by decide +kernel)
set_option maxRecDepth 100000 in
theorem kv_X10_35_5 : zz_KV RX10 35 RX_5 3 yX10_isOwned cX10_isOwned 4 (some .boolean) := zz_ku (owner := "ReconcilerHall$View") (x := ⟨"ReconcilerHall$View", "isOwned", "(III)Z"⟩) (zz_atl [1059, 1061, 1066, 1060, 109, 1070] (by decide +kernel)) rfl (by decide +kernel)
set_option maxRecDepth 100000 in
theorem kv_X10_35_6 : zz_KV RX10 35 RX_6 3 yX10_isOwned cX10_isOwned 4 (some .boolean) := zz_ku (owner := "ReconcilerHall$View") (x := ⟨"ReconcilerHall$View", "isOwned", "(III)Z"⟩) (zz_atl [1059, 1061, 1067, 1060, 109, 1070] (by decide +kernel)) rfl (by decide +kernel)
set_option maxRecDepth 100000 in
theorem kv_X10_35_7 : zz_KV RX10 35 RX_7 3 yX10_isOwned cX10_isOwned 4 (some .boolean) := zz_ku (owner := "ReconcilerHall$View") (x := ⟨"ReconcilerHall$View", "isOwned", "(III)Z"⟩) (zz_atl [1059, 1061, 1068, 1060, 109, 1070] (by decide +kernel)) rfl (by decide +kernel)
set_option maxRecDepth 100000 in
theorem kv_X10_35_8 : zz_KV RX10 35 RX_8 3 yX10_isOwned cX10_isOwned 4 (some .boolean) := zz_ku (owner := "ReconcilerHall$View") (x := ⟨"ReconcilerHall$View", "isOwned", "(III)Z"⟩) (zz_atl [1059, 1061, 1069, 1060, 109, 1070] (by decide +kernel)) rfl (by decide +kernel)
set_option maxRecDepth 100000 in
theorem kv_X3_27_2 : zz_KV RX3 27 RX_2 2 yX2_makeFor cX2_makeFor 3 (some .boolean) := zz_ku (owner := "ReconcilerHall$Controller") (x := ⟨"ReconcilerHall$Deployer", "makeFor", "(II)Z"⟩) (zz_atl [1071, 1072, 1074, 1075, 112, 1076] (by decide +kernel)) rfl (by decide +kernel)
set_option maxRecDepth 100000 in
theorem kv_X2_132_8 : zz_KV RX2 132 RX_8 4 yX9_open cX9_open 6 (some .int) ∧ zz_KX RX2 132 RX_8 4 yX9_open cX9_open 6 (some .int) := zz_kv (zz_atl [1077, 625, 626, 110, 627] (by decide +kernel)) (by decide +kernel)
set_option maxRecDepth 100000 in
theorem ff_X9_31 : zz_fw RX9 31 zzCl (zz_kf [8] 2) := zz_fw_of (List.forall_mem_cons.mpr ⟨⟨RX_8, zzT8, 9, "ReconcilerHall$Store", zzY8, rfl, by decide, zzI8, zz_at 203 (by decide +kernel), Or.inr (zz_at 204 (by decide +kernel)), zzY8_ok, zzN8⟩, (fun _ h => absurd h List.not_mem_nil)⟩)
set_option maxRecDepth 100000 in
theorem kv_X9_35_8 : zz_KV RX9 35 RX_8 0 yX9_livingPods cX9_livingPods 3 (some .int) ∧ zz_KX RX9 35 RX_8 0 yX9_livingPods cX9_livingPods 3 (some .int) := zz_kv (zz_atl [628, 630, 7, 110, 631] (by decide +kernel)) (by decide +kernel)
set_option maxRecDepth 100000 in
theorem kv_X9_63_8 : zz_KV RX9 63 RX_8 2 yX10_read cX10_read 3 (some .int) := zz_ku (owner := "ReconcilerHall$View") (x := ⟨"ReconcilerHall$Store", "read", "(II)I"⟩) (zz_atl [482, 483, 485, 467, 109, 477] (by decide +kernel)) rfl (by decide +kernel)
set_option maxRecDepth 100000 in
theorem ff_X9_20 : zz_fw RX9 20 zzCl (zz_kf [8] 4) := zz_fw_of (List.forall_mem_cons.mpr ⟨⟨RX_8, zzT8, 9, "ReconcilerHall$Store", zzY8, rfl, by decide, zzI8, zz_at 179 (by decide +kernel), Or.inl rfl, zzY8_ok, zzN8⟩, (fun _ h => absurd h List.not_mem_nil)⟩)
set_option maxRecDepth 100000 in
theorem ff_X9_39 : zz_fw RX9 39 zzCl (zz_kf [0] 5) := zz_fw_of (List.forall_mem_cons.mpr ⟨⟨RX_0, zzT0, 6, "ReconcilerHall$Admission", zzY0, rfl, by decide, zzI0, zz_at 163 (by decide +kernel), Or.inl rfl, zzY0_ok, zzN0⟩, (fun _ h => absurd h List.not_mem_nil)⟩)
set_option maxRecDepth 100000 in
theorem kv_X9_42_8 : zz_KV RX9 42 RX_8 2 yX9_draftNew cX9_draftNew 4 none ∧ zz_KX RX9 42 RX_8 2 yX9_draftNew cX9_draftNew 4 none := zz_kv (zz_atl [632, 634, 8, 110, 635] (by decide +kernel)) (by decide +kernel)
set_option maxRecDepth 100000 in
theorem kv_X9_46_0 : zz_KV RX9 46 RX_0 1 yX0_settles cX0_settles 5 (some .boolean) ∧ zz_KX RX9 46 RX_0 1 yX0_settles cX0_settles 5 (some .boolean) := zz_kv (zz_atl [507, 508, 509, 111, 510] (by decide +kernel)) (by decide +kernel)
set_option maxRecDepth 100000 in
theorem kv_X9_50_0 : zz_KV RX9 50 RX_0 1 yX0_allows cX0_allows 4 (some .boolean) ∧ zz_KX RX9 50 RX_0 1 yX0_allows cX0_allows 4 (some .boolean) := zz_kv (zz_atl [516, 517, 518, 111, 519] (by decide +kernel)) (by decide +kernel)
set_option maxRecDepth 100000 in
theorem ff_X9_24 : zz_fw RX9 24 zzCl (zz_kf [8] 5) := zz_fw_of (List.forall_mem_cons.mpr ⟨⟨RX_8, zzT8, 9, "ReconcilerHall$Store", zzY8, rfl, by decide, zzI8, zz_at 181 (by decide +kernel), Or.inl rfl, zzY8_ok, zzN8⟩, (fun _ h => absurd h List.not_mem_nil)⟩)
set_option maxRecDepth 100000 in
theorem ff_X9_57 : zz_fw RX9 57 zzCl (zz_kf [8] 7) := zz_fw_of (List.forall_mem_cons.mpr ⟨⟨RX_8, zzT8, 9, "ReconcilerHall$Store", zzY8, rfl, by decide, zzI8, zz_at 185 (by decide +kernel), Or.inl rfl, zzY8_ok, zzN8⟩, (fun _ h => absurd h List.not_mem_nil)⟩)
set_option maxRecDepth 100000 in
theorem ks_X3_30 : zz_KS RX3 30 1 yX2_outcomeOf cX2_outcomeOf 1 (some .int) := zz_ksu (x := ⟨"ReconcilerHall$Deployer", "outcomeOf", "(Z)I"⟩) (zz_at 1024 (by decide +kernel)) (zz_at 112 (by decide +kernel)) (zz_at 1078 (by decide +kernel)) (zz_at 1023 (by decide +kernel)) (zz_at 1079 (by decide +kernel)) rfl (by decide +kernel)
set_option maxRecDepth 100000 in
theorem kv_X3_34_2 : zz_KV RX3 34 RX_2 2 yX2_want cX2_want 3 (some .boolean) := zz_ku (owner := "ReconcilerHall$Controller") (x := ⟨"ReconcilerHall$Deployer", "want", "(II)Z"⟩) (zz_atl [1080, 1081, 1083, 1084, 112, 1085] (by decide +kernel)) rfl (by decide +kernel)
set_option maxRecDepth 100000 in
theorem kv_X2_120_8 : zz_KV RX2 120 RX_8 4 yX9_applyField cX9_applyField 5 (some .boolean) ∧ zz_KX RX2 120 RX_8 4 yX9_applyField cX9_applyField 5 (some .boolean) := zz_kv (zz_atl [1086, 479, 480, 110, 481] (by decide +kernel)) (by decide +kernel)
set_option maxRecDepth 100000 in
theorem ks_X9_67 : zz_KS RX9 67 2 yX11_hasField cX11_hasField 2 (some .boolean) := zz_ksn (host := "ReconcilerHall") (zz_at 488 (by decide +kernel)) (zz_at 108 (by decide +kernel)) (by decide +kernel) (zz_at 487 (by decide +kernel)) (by decide +kernel)
set_option maxRecDepth 100000 in
theorem ks_X11_58 : zz_KS RX11 58 1 yX11_isKind cX11_isKind 1 (some .boolean) := zz_ks (zz_atl [489, 490, 108, 491] (by decide +kernel)) (by decide +kernel)
set_option maxRecDepth 100000 in
theorem kv_X3_37_2 : zz_KV RX3 37 RX_2 1 yX3_wantedTogether cX3_wantedTogether 4 (some .int) ∧ zz_KX RX3 37 RX_2 1 yX3_wantedTogether cX3_wantedTogether 4 (some .int) := zz_kv (zz_atl [1087, 1089, 15, 113, 1090] (by decide +kernel)) (by decide +kernel)
set_option maxRecDepth 100000 in
theorem ff_X3_51 : zz_fw RX3 51 zzCl (zz_kf [2] 2) := zz_fw_of (List.forall_mem_cons.mpr ⟨⟨RX_2, zzT2, 12, "ReconcilerHall$Deployer", zzY2, rfl, by decide, zzI2, zz_at 205 (by decide +kernel), Or.inr (zz_at 206 (by decide +kernel)), zzY2_ok, zzN2⟩, (fun _ h => absurd h List.not_mem_nil)⟩)
set_option maxRecDepth 100000 in
theorem kv_X3_55_2 : zz_KV RX3 55 RX_2 3 yX10_isOwned cX10_isOwned 4 (some .boolean) := zz_ku (owner := "ReconcilerHall$View") (x := ⟨"ReconcilerHall$Deployer", "isOwned", "(III)Z"⟩) (zz_atl [1091, 1092, 1094, 1060, 109, 1070] (by decide +kernel)) rfl (by decide +kernel)
set_option maxRecDepth 100000 in
theorem kv_X3_45_2 : zz_KV RX3 45 RX_2 2 yX3_otherSetOf cX3_otherSetOf 4 (some .int) ∧ zz_KX RX3 45 RX_2 2 yX3_otherSetOf cX3_otherSetOf 4 (some .int) := zz_kv (zz_atl [1098, 1100, 16, 113, 1101] (by decide +kernel)) (by decide +kernel)
set_option maxRecDepth 100000 in
theorem kv_X3_48_2 : zz_KV RX3 48 RX_2 2 yX3_lessWanted cX3_lessWanted 6 (some .int) ∧ zz_KX RX3 48 RX_2 2 yX3_lessWanted cX3_lessWanted 6 (some .int) := zz_kv (zz_atl [1102, 1104, 17, 113, 1105] (by decide +kernel)) (by decide +kernel)
set_option maxRecDepth 100000 in
theorem kv_X3_59_2 : zz_KV RX3 59 RX_2 1 yX10_countRunning cX10_countRunning 4 (some .int) := zz_ku (owner := "ReconcilerHall$View") (x := ⟨"ReconcilerHall$Deployer", "countRunning", "(I)I"⟩) (zz_atl [1106, 1107, 1109, 1110, 109, 1111] (by decide +kernel)) rfl (by decide +kernel)
set_option maxRecDepth 100000 in
theorem kv_X3_62_2 : zz_KV RX3 62 RX_2 1 yX10_countRunningOfAll cX10_countRunningOfAll 4 (some .int) := zz_ku (owner := "ReconcilerHall$View") (x := ⟨"ReconcilerHall$Deployer", "countRunningOfAll", "(I)I"⟩) (zz_atl [1112, 1113, 1115, 1116, 109, 1117] (by decide +kernel)) rfl (by decide +kernel)
set_option maxRecDepth 100000 in
theorem kv_X10_39_1 : zz_KV RX10 39 RX_1 1 yX10_countRunning cX10_countRunning 4 (some .int) := zz_ku (owner := "ReconcilerHall$View") (x := ⟨"ReconcilerHall$View", "countRunning", "(I)I"⟩) (zz_atl [1118, 2158, 2159, 1110, 109, 1111] (by decide +kernel)) rfl (by decide +kernel)
set_option maxRecDepth 100000 in
theorem kv_X10_39_2 : zz_KV RX10 39 RX_2 1 yX10_countRunning cX10_countRunning 4 (some .int) := zz_ku (owner := "ReconcilerHall$View") (x := ⟨"ReconcilerHall$View", "countRunning", "(I)I"⟩) (zz_atl [1118, 2158, 2160, 1110, 109, 1111] (by decide +kernel)) rfl (by decide +kernel)
set_option maxRecDepth 100000 in
theorem kv_X10_39_3 : zz_KV RX10 39 RX_3 1 yX10_countRunning cX10_countRunning 4 (some .int) := zz_ku (owner := "ReconcilerHall$View") (x := ⟨"ReconcilerHall$View", "countRunning", "(I)I"⟩) (zz_atl [1118, 2158, 2161, 1110, 109, 1111] (by decide +kernel)) rfl (by decide +kernel)
set_option maxRecDepth 100000 in
theorem kv_X10_39_4 : zz_KV RX10 39 RX_4 1 yX10_countRunning cX10_countRunning 4 (some .int) := zz_ku (owner := "ReconcilerHall$View") (x := ⟨"ReconcilerHall$View", "countRunning", "(I)I"⟩) (zz_atl [1118, 2158, 2162, 1110, 109, 1111] (by decide +kernel)) rfl (by decide +kernel)
set_option maxRecDepth 100000 in
theorem kv_X10_39_5 : zz_KV RX10 39 RX_5 1 yX10_countRunning cX10_countRunning 4 (some .int) := zz_ku (owner := "ReconcilerHall$View") (x := ⟨"ReconcilerHall$View", "countRunning", "(I)I"⟩) (zz_atl [1118, 2158, 2163, 1110, 109, 1111] (by decide +kernel)) rfl (by decide +kernel)
set_option maxRecDepth 100000 in
theorem kv_X10_39_6 : zz_KV RX10 39 RX_6 1 yX10_countRunning cX10_countRunning 4 (some .int) := zz_ku (owner := "ReconcilerHall$View") (x := ⟨"ReconcilerHall$View", "countRunning", "(I)I"⟩) (zz_atl [1118, 2158, 2164, 1110, 109, 1111] (by decide +kernel)) rfl (by decide +kernel)
set_option maxRecDepth 100000 in
theorem kv_X10_39_7 : zz_KV RX10 39 RX_7 1 yX10_countRunning cX10_countRunning 4 (some .int) := zz_ku (owner := "ReconcilerHall$View") (x := ⟨"ReconcilerHall$View", "countRunning", "(I)I"⟩) (zz_atl [1118, 2158, 2165, 1110, 109, 1111] (by decide +kernel)) rfl (by decide +kernel)
set_option maxRecDepth 100000 in
theorem kv_X10_39_8 : zz_KV RX10 39 RX_8 1 yX10_countRunning cX10_countRunning 4 (some .int) := zz_ku (owner := "ReconcilerHall$View") (x := ⟨"ReconcilerHall$View", "countRunning", "(I)I"⟩) (zz_atl [1118, 2158, 2166, 1110, 109, 1111] (by decide +kernel)) rfl (by decide +kernel)
set_option maxRecDepth 100000 in
theorem kv_X4_23_3 : zz_KV RX4 23 RX_3 2 yX10_isStaying cX10_isStaying 3 (some .boolean) := zz_ku (owner := "ReconcilerHall$View") (x := ⟨"ReconcilerHall$PodMaker", "isStaying", "(II)Z"⟩) (zz_atl [1122, 1123, 1124, 955, 109, 956] (by decide +kernel)) rfl (by decide +kernel)
set_option maxRecDepth 100000 in
theorem kv_X4_27_3 : zz_KV RX4 27 RX_3 1 yX4_serveSet cX4_serveSet 4 (some .int) ∧ zz_KX RX4 27 RX_3 1 yX4_serveSet cX4_serveSet 4 (some .int) := zz_kv (zz_atl [1125, 1127, 18, 114, 1128] (by decide +kernel)) (by decide +kernel)
set_option maxRecDepth 100000 in
theorem ff_X4_34 : zz_fw RX4 34 zzCl (zz_kf [3] 2) := zz_fw_of (List.forall_mem_cons.mpr ⟨⟨RX_3, zzT3, 12, "ReconcilerHall$PodMaker", zzY3, rfl, by decide, zzI3, zz_at 207 (by decide +kernel), Or.inr (zz_at 208 (by decide +kernel)), zzY3_ok, zzN3⟩, (fun _ h => absurd h List.not_mem_nil)⟩)
set_option maxRecDepth 100000 in
theorem kv_X4_37_3 : zz_KV RX4 37 RX_3 3 yX10_isOwned cX10_isOwned 4 (some .boolean) := zz_ku (owner := "ReconcilerHall$View") (x := ⟨"ReconcilerHall$PodMaker", "isOwned", "(III)Z"⟩) (zz_atl [1129, 1130, 1131, 1060, 109, 1070] (by decide +kernel)) rfl (by decide +kernel)
set_option maxRecDepth 100000 in
theorem kv_X4_41_3 : zz_KV RX4 41 RX_3 1 yX2_remove cX2_remove 2 (some .boolean) := zz_ku (owner := "ReconcilerHall$Controller") (x := ⟨"ReconcilerHall$PodMaker", "remove", "(I)Z"⟩) (zz_atl [1132, 1133, 1134, 997, 112, 998] (by decide +kernel)) rfl (by decide +kernel)
set_option maxRecDepth 100000 in
theorem ks_X4_45 : zz_KS RX4 45 1 yX2_outcomeOf cX2_outcomeOf 1 (some .int) := zz_ksu (x := ⟨"ReconcilerHall$PodMaker", "outcomeOf", "(Z)I"⟩) (zz_at 1024 (by decide +kernel)) (zz_at 112 (by decide +kernel)) (zz_at 1135 (by decide +kernel)) (zz_at 1023 (by decide +kernel)) (zz_at 1136 (by decide +kernel)) rfl (by decide +kernel)
set_option maxRecDepth 100000 in
theorem kv_X4_49_3 : zz_KV RX4 49 RX_3 2 yX2_makeFor cX2_makeFor 3 (some .boolean) := zz_ku (owner := "ReconcilerHall$Controller") (x := ⟨"ReconcilerHall$PodMaker", "makeFor", "(II)Z"⟩) (zz_atl [1137, 1138, 1139, 1075, 112, 1076] (by decide +kernel)) rfl (by decide +kernel)
set_option maxRecDepth 100000 in
theorem kv_X4_52_3 : zz_KV RX4 52 RX_3 1 yX4_podTooMany cX4_podTooMany 6 (some .int) ∧ zz_KX RX4 52 RX_3 1 yX4_podTooMany cX4_podTooMany 6 (some .int) := zz_kv (zz_atl [1140, 1142, 19, 114, 1143] (by decide +kernel)) (by decide +kernel)
set_option maxRecDepth 100000 in
theorem kv_X4_31_3 : zz_KV RX4 31 RX_3 1 yX4_serveJob cX4_serveJob 6 (some .int) ∧ zz_KX RX4 31 RX_3 1 yX4_serveJob cX4_serveJob 6 (some .int) := zz_kv (zz_atl [1144, 1146, 20, 114, 1147] (by decide +kernel)) (by decide +kernel)
set_option maxRecDepth 100000 in
theorem kv_X5_27_4 : zz_KV RX5 27 RX_4 2 yX10_isStaying cX10_isStaying 3 (some .boolean) := zz_ku (owner := "ReconcilerHall$View") (x := ⟨"ReconcilerHall$Router", "isStaying", "(II)Z"⟩) (zz_atl [1151, 1152, 1153, 955, 109, 956] (by decide +kernel)) rfl (by decide +kernel)
set_option maxRecDepth 100000 in
theorem kv_X5_31_4 : zz_KV RX5 31 RX_4 2 yX5_podsBehind cX5_podsBehind 6 (some .int) ∧ zz_KX RX5 31 RX_4 2 yX5_podsBehind cX5_podsBehind 6 (some .int) := zz_kv (zz_atl [1154, 1156, 21, 118, 1157] (by decide +kernel)) (by decide +kernel)
set_option maxRecDepth 100000 in
theorem kv_X5_34_4 : zz_KV RX5 34 RX_4 1 yX2_isUpToDate cX2_isUpToDate 2 (some .boolean) := zz_ku (owner := "ReconcilerHall$Controller") (x := ⟨"ReconcilerHall$Router", "isUpToDate", "(I)Z"⟩) (zz_atl [1158, 1159, 1161, 1000, 112, 1009] (by decide +kernel)) rfl (by decide +kernel)
set_option maxRecDepth 100000 in
theorem ff_X5_37 : zz_fw RX5 37 zzCl (zz_kf [4] 4) := zz_fw_of (List.forall_mem_cons.mpr ⟨⟨RX_4, zzT4, 12, "ReconcilerHall$Router", zzY4, rfl, by decide, zzI4, zz_at 253 (by decide +kernel), Or.inr (zz_at 254 (by decide +kernel)), zzY4_ok, zzN4⟩, (fun _ h => absurd h List.not_mem_nil)⟩)
set_option maxRecDepth 100000 in
theorem kv_X5_41_8 : zz_KV RX5 41 RX_8 5 yX9_changeBoth cX9_changeBoth 6 (some .boolean) ∧ zz_KX RX5 41 RX_8 5 yX9_changeBoth cX9_changeBoth 6 (some .boolean) := zz_kv (zz_atl [1162, 1163, 1164, 110, 1165] (by decide +kernel)) (by decide +kernel)
set_option maxRecDepth 100000 in
theorem ks_X5_47 : zz_KS RX5 47 1 yX2_outcomeOf cX2_outcomeOf 1 (some .int) := zz_ksu (x := ⟨"ReconcilerHall$Router", "outcomeOf", "(Z)I"⟩) (zz_at 1024 (by decide +kernel)) (zz_at 112 (by decide +kernel)) (zz_at 1166 (by decide +kernel)) (zz_at 1023 (by decide +kernel)) (zz_at 1167 (by decide +kernel)) rfl (by decide +kernel)
set_option maxRecDepth 100000 in
theorem kv_X6_23_5 : zz_KV RX6 23 RX_5 1 yX10_isGone cX10_isGone 2 (some .boolean) := zz_ku (owner := "ReconcilerHall$View") (x := ⟨"ReconcilerHall$Runner", "isGone", "(I)Z"⟩) (zz_atl [1171, 1172, 1173, 464, 109, 465] (by decide +kernel)) rfl (by decide +kernel)
set_option maxRecDepth 100000 in
theorem kv_X6_27_5 : zz_KV RX6 27 RX_5 1 yX6_clearPlace cX6_clearPlace 3 (some .boolean) ∧ zz_KX RX6 27 RX_5 1 yX6_clearPlace cX6_clearPlace 3 (some .boolean) := zz_kv (zz_atl [1174, 1176, 22, 116, 1177] (by decide +kernel)) (by decide +kernel)
set_option maxRecDepth 100000 in
theorem kv_X6_45_5 : zz_KV RX6 45 RX_5 1 yX2_isUpToDate cX2_isUpToDate 2 (some .boolean) := zz_ku (owner := "ReconcilerHall$Controller") (x := ⟨"ReconcilerHall$Runner", "isUpToDate", "(I)Z"⟩) (zz_atl [1178, 1179, 1180, 1000, 112, 1009] (by decide +kernel)) rfl (by decide +kernel)
set_option maxRecDepth 100000 in
theorem ff_X6_48 : zz_fw RX6 48 zzCl (zz_kf [5] 4) := zz_fw_of (List.forall_mem_cons.mpr ⟨⟨RX_5, zzT5, 12, "ReconcilerHall$Runner", zzY5, rfl, by decide, zzI5, zz_at 257 (by decide +kernel), Or.inr (zz_at 258 (by decide +kernel)), zzY5_ok, zzN5⟩, (fun _ h => absurd h List.not_mem_nil)⟩)
set_option maxRecDepth 100000 in
theorem kv_X6_52_8 : zz_KV RX6 52 RX_8 5 yX9_changeBoth cX9_changeBoth 6 (some .boolean) ∧ zz_KX RX6 52 RX_8 5 yX9_changeBoth cX9_changeBoth 6 (some .boolean) := zz_kv (zz_atl [1181, 1163, 1164, 110, 1165] (by decide +kernel)) (by decide +kernel)
set_option maxRecDepth 100000 in
theorem ks_X6_30 : zz_KS RX6 30 1 yX2_outcomeOf cX2_outcomeOf 1 (some .int) := zz_ksu (x := ⟨"ReconcilerHall$Runner", "outcomeOf", "(Z)I"⟩) (zz_at 1024 (by decide +kernel)) (zz_at 112 (by decide +kernel)) (zz_at 1182 (by decide +kernel)) (zz_at 1023 (by decide +kernel)) (zz_at 1183 (by decide +kernel)) rfl (by decide +kernel)
set_option maxRecDepth 100000 in
theorem kv_X6_34_5 : zz_KV RX6 34 RX_5 3 yX2_set cX2_set 4 (some .boolean) := zz_ku (owner := "ReconcilerHall$Controller") (x := ⟨"ReconcilerHall$Runner", "set", "(III)Z"⟩) (zz_atl [1184, 1185, 1186, 1037, 112, 1038] (by decide +kernel)) rfl (by decide +kernel)
set_option maxRecDepth 100000 in
theorem kv_X6_38_5 : zz_KV RX6 38 RX_5 1 yX10_needOf cX10_needOf 2 (some .int) := zz_ku (owner := "ReconcilerHall$View") (x := ⟨"ReconcilerHall$Runner", "needOf", "(I)I"⟩) (zz_atl [1187, 1188, 1190, 1191, 109, 1192] (by decide +kernel)) rfl (by decide +kernel)
set_option maxRecDepth 100000 in
theorem kv_X6_42_5 : zz_KV RX6 42 RX_5 1 yX6_runningNeeds cX6_runningNeeds 5 (some .int) ∧ zz_KX RX6 42 RX_5 1 yX6_runningNeeds cX6_runningNeeds 5 (some .int) := zz_kv (zz_atl [1193, 1195, 23, 116, 1196] (by decide +kernel)) (by decide +kernel)
set_option maxRecDepth 100000 in
theorem kv_X7_15_6 : zz_KV RX7 15 RX_6 2 yX10_read cX10_read 3 (some .int) := zz_ku (owner := "ReconcilerHall$View") (x := ⟨"ReconcilerHall$Scaler", "read", "(II)I"⟩) (zz_atl [1200, 1201, 1202, 467, 109, 477] (by decide +kernel)) rfl (by decide +kernel)
set_option maxRecDepth 100000 in
theorem kv_X7_19_6 : zz_KV RX7 19 RX_6 2 yX10_isStaying cX10_isStaying 3 (some .boolean) := zz_ku (owner := "ReconcilerHall$View") (x := ⟨"ReconcilerHall$Scaler", "isStaying", "(II)Z"⟩) (zz_atl [1203, 1204, 1205, 955, 109, 956] (by decide +kernel)) rfl (by decide +kernel)
set_option maxRecDepth 100000 in
theorem ff_X7_9 : zz_fw RX7 9 zzCl (zz_kf [6] 12) := zz_fw_of (List.forall_mem_cons.mpr ⟨⟨RX_6, zzT6, 13, "ReconcilerHall$Scaler", zzY6, rfl, by decide, zzI6, zz_at 404 (by decide +kernel), Or.inl rfl, zzY6_ok, zzN6⟩, (fun _ h => absurd h List.not_mem_nil)⟩)
set_option maxRecDepth 100000 in
theorem ff_X7_31 : zz_fw RX7 31 zzCl (zz_kf [6] 4) := zz_fw_of (List.forall_mem_cons.mpr ⟨⟨RX_6, zzT6, 13, "ReconcilerHall$Scaler", zzY6, rfl, by decide, zzI6, zz_at 255 (by decide +kernel), Or.inr (zz_at 256 (by decide +kernel)), zzY6_ok, zzN6⟩, (fun _ h => absurd h List.not_mem_nil)⟩)
set_option maxRecDepth 100000 in
theorem ff_X7_35 : zz_fw RX7 35 zzCl (zz_kf [8] 7) := zz_fw_of (List.forall_mem_cons.mpr ⟨⟨RX_8, zzT8, 9, "ReconcilerHall$Store", zzY8, rfl, by decide, zzI8, zz_at 184 (by decide +kernel), Or.inl rfl, zzY8_ok, zzN8⟩, (fun _ h => absurd h List.not_mem_nil)⟩)
set_option maxRecDepth 100000 in
theorem ff_X7_41 : zz_fw RX7 41 zzCl (zz_kf [6] 9) := zz_fw_of (List.forall_mem_cons.mpr ⟨⟨RX_6, zzT6, 13, "ReconcilerHall$Scaler", zzY6, rfl, by decide, zzI6, zz_at 267 (by decide +kernel), Or.inr (zz_at 268 (by decide +kernel)), zzY6_ok, zzN6⟩, (fun _ h => absurd h List.not_mem_nil)⟩)
set_option maxRecDepth 100000 in
theorem ff_X7_44 : zz_fw RX7 44 zzCl (zz_kf [8] 3) := zz_fw_of (List.forall_mem_cons.mpr ⟨⟨RX_8, zzT8, 9, "ReconcilerHall$Store", zzY8, rfl, by decide, zzI8, zz_at 213 (by decide +kernel), Or.inr (zz_at 214 (by decide +kernel)), zzY8_ok, zzN8⟩, (fun _ h => absurd h List.not_mem_nil)⟩)
set_option maxRecDepth 100000 in
theorem kv_X7_47_6 : zz_KV RX7 47 RX_6 2 yX2_want cX2_want 3 (some .boolean) := zz_ku (owner := "ReconcilerHall$Controller") (x := ⟨"ReconcilerHall$Scaler", "want", "(II)Z"⟩) (zz_atl [1210, 1211, 1212, 1084, 112, 1085] (by decide +kernel)) rfl (by decide +kernel)
set_option maxRecDepth 100000 in
theorem ks_X7_50 : zz_KS RX7 50 1 yX2_outcomeOf cX2_outcomeOf 1 (some .int) := zz_ksu (x := ⟨"ReconcilerHall$Scaler", "outcomeOf", "(Z)I"⟩) (zz_at 1024 (by decide +kernel)) (zz_at 112 (by decide +kernel)) (zz_at 1213 (by decide +kernel)) (zz_at 1023 (by decide +kernel)) (zz_at 1214 (by decide +kernel)) rfl (by decide +kernel)
set_option maxRecDepth 100000 in
theorem kv_X8_41_7 : zz_KV RX8 41 RX_7 0 yX8_countUsed cX8_countUsed 4 none ∧ zz_KX RX8 41 RX_7 0 yX8_countUsed cX8_countUsed 4 none := zz_kv (zz_atl [1218, 1220, 24, 115, 1221] (by decide +kernel)) (by decide +kernel)
set_option maxRecDepth 100000 in
theorem ff_X8_9 : zz_fw RX8 9 zzCl (zz_kf [7] 12) := zz_fw_of (List.forall_mem_cons.mpr ⟨⟨RX_7, zzT7, 15, "ReconcilerHall$Scheduler", zzY7, rfl, by decide, zzI7, zz_at 319 (by decide +kernel), Or.inl rfl, zzY7_ok, zzN7⟩, (fun _ h => absurd h List.not_mem_nil)⟩)
set_option maxRecDepth 100000 in
theorem kv_X8_69_7 : zz_KV RX8 69 RX_7 1 yX10_isGone cX10_isGone 2 (some .boolean) := zz_ku (owner := "ReconcilerHall$View") (x := ⟨"ReconcilerHall$Scheduler", "isGone", "(I)Z"⟩) (zz_atl [1222, 1223, 1224, 464, 109, 465] (by decide +kernel)) rfl (by decide +kernel)
set_option maxRecDepth 100000 in
theorem kv_X8_48_7 : zz_KV RX8 48 RX_7 1 yX10_needOf cX10_needOf 2 (some .int) := zz_ku (owner := "ReconcilerHall$View") (x := ⟨"ReconcilerHall$Scheduler", "needOf", "(I)I"⟩) (zz_atl [1225, 1226, 1227, 1191, 109, 1192] (by decide +kernel)) rfl (by decide +kernel)
set_option maxRecDepth 100000 in
theorem kv_X8_45_7 : zz_KV RX8 45 RX_7 1 yX8_countMates cX8_countMates 4 none ∧ zz_KX RX8 45 RX_7 1 yX8_countMates cX8_countMates 4 none := zz_kv (zz_atl [1228, 1230, 25, 115, 1231] (by decide +kernel)) (by decide +kernel)
set_option maxRecDepth 100000 in
theorem ff_X8_15 : zz_fw RX8 15 zzCl (zz_kf [7] 13) := zz_fw_of (List.forall_mem_cons.mpr ⟨⟨RX_7, zzT7, 15, "ReconcilerHall$Scheduler", zzY7, rfl, by decide, zzI7, zz_at 320 (by decide +kernel), Or.inl rfl, zzY7_ok, zzN7⟩, (fun _ h => absurd h List.not_mem_nil)⟩)
set_option maxRecDepth 100000 in
theorem kv_X8_72_7 : zz_KV RX8 72 RX_7 1 yX8_zoneOf cX8_zoneOf 3 (some .int) ∧ zz_KX RX8 72 RX_7 1 yX8_zoneOf cX8_zoneOf 3 (some .int) := zz_kv (zz_atl [1232, 1234, 26, 115, 1235] (by decide +kernel)) (by decide +kernel)
set_option maxRecDepth 100000 in
theorem kv_X8_52_7 : zz_KV RX8 52 RX_7 1 yX8_bestNode cX8_bestNode 4 (some .int) ∧ zz_KX RX8 52 RX_7 1 yX8_bestNode cX8_bestNode 4 (some .int) := zz_kv (zz_atl [1236, 1238, 27, 115, 1239] (by decide +kernel)) (by decide +kernel)
set_option maxRecDepth 100000 in
theorem kv_X8_75_7 : zz_KV RX8 75 RX_7 1 yX8_isOpen cX8_isOpen 2 (some .boolean) ∧ zz_KX RX8 75 RX_7 1 yX8_isOpen cX8_isOpen 2 (some .boolean) := zz_kv (zz_atl [1240, 1242, 28, 115, 1243] (by decide +kernel)) (by decide +kernel)
set_option maxRecDepth 100000 in
theorem kv_X8_78_7 : zz_KV RX8 78 RX_7 1 yX8_roomLeft cX8_roomLeft 2 (some .int) ∧ zz_KX RX8 78 RX_7 1 yX8_roomLeft cX8_roomLeft 2 (some .int) := zz_kv (zz_atl [1244, 1246, 29, 115, 1247] (by decide +kernel)) (by decide +kernel)
set_option maxRecDepth 100000 in
theorem kv_X8_81_7 : zz_KV RX8 81 RX_7 2 yX8_isBetter cX8_isBetter 4 (some .boolean) ∧ zz_KX RX8 81 RX_7 2 yX8_isBetter cX8_isBetter 4 (some .boolean) := zz_kv (zz_atl [1248, 1250, 30, 115, 1251] (by decide +kernel)) (by decide +kernel)
set_option maxRecDepth 100000 in
theorem kv_X8_55_7 : zz_KV RX8 55 RX_7 3 yX2_set cX2_set 4 (some .boolean) := zz_ku (owner := "ReconcilerHall$Controller") (x := ⟨"ReconcilerHall$Scheduler", "set", "(III)Z"⟩) (zz_atl [1252, 1253, 1254, 1037, 112, 1038] (by decide +kernel)) rfl (by decide +kernel)
set_option maxRecDepth 100000 in
theorem ks_X8_59 : zz_KS RX8 59 1 yX2_outcomeOf cX2_outcomeOf 1 (some .int) := zz_ksu (x := ⟨"ReconcilerHall$Scheduler", "outcomeOf", "(Z)I"⟩) (zz_at 1024 (by decide +kernel)) (zz_at 112 (by decide +kernel)) (zz_at 1255 (by decide +kernel)) (zz_at 1023 (by decide +kernel)) (zz_at 1256 (by decide +kernel)) rfl (by decide +kernel)
set_option maxRecDepth 100000 in
theorem kv_X8_63_7 : zz_KV RX8 63 RX_7 1 yX8_preempt cX8_preempt 6 (some .int) ∧ zz_KX RX8 63 RX_7 1 yX8_preempt cX8_preempt 6 (some .int) := zz_kv (zz_atl [1257, 1259, 31, 115, 1260] (by decide +kernel)) (by decide +kernel)
set_option maxRecDepth 100000 in
theorem kv_X8_84_7 : zz_KV RX8 84 RX_7 2 yX8_chooseVictims cX8_chooseVictims 7 (some .int) ∧ zz_KX RX8 84 RX_7 2 yX8_chooseVictims cX8_chooseVictims 7 (some .int) := zz_kv (zz_atl [1261, 1263, 32, 115, 1264] (by decide +kernel)) (by decide +kernel)
set_option maxRecDepth 100000 in
theorem kv_X8_87_7 : zz_KV RX8 87 RX_7 1 yX8_rankOf cX8_rankOf 2 (some .int) ∧ zz_KX RX8 87 RX_7 1 yX8_rankOf cX8_rankOf 2 (some .int) := zz_kv (zz_atl [1265, 1267, 33, 115, 1268] (by decide +kernel)) (by decide +kernel)
set_option maxRecDepth 100000 in
theorem kv_X8_90_7 : zz_KV RX8 90 RX_7 2 yX8_isVictim cX8_isVictim 4 (some .boolean) ∧ zz_KX RX8 90 RX_7 2 yX8_isVictim cX8_isVictim 4 (some .boolean) := zz_kv (zz_atl [1269, 1271, 34, 115, 1272] (by decide +kernel)) (by decide +kernel)
set_option maxRecDepth 100000 in
theorem ff_X8_18 : zz_fw RX8 18 zzCl (zz_kf [7] 14) := zz_fw_of (List.forall_mem_cons.mpr ⟨⟨RX_7, zzT7, 15, "ReconcilerHall$Scheduler", zzY7, rfl, by decide, zzI7, zz_at 321 (by decide +kernel), Or.inl rfl, zzY7_ok, zzN7⟩, (fun _ h => absurd h List.not_mem_nil)⟩)
set_option maxRecDepth 100000 in
theorem kv_X8_66_7 : zz_KV RX8 66 RX_7 1 yX2_remove cX2_remove 2 (some .boolean) := zz_ku (owner := "ReconcilerHall$Controller") (x := ⟨"ReconcilerHall$Scheduler", "remove", "(I)Z"⟩) (zz_atl [1273, 1274, 1275, 997, 112, 998] (by decide +kernel)) rfl (by decide +kernel)
set_option maxRecDepth 100000 in
theorem ff_X2_32 : zz_fw RX2 32 zzCl (zz_kf [1, 2, 3, 4, 5, 6, 7] 8) := zz_fw_of (List.forall_mem_cons.mpr ⟨⟨RX_1, zzT1, 12, "ReconcilerHall$Controller", zzY1, rfl, by decide, zzI1, zz_at 264 (by decide +kernel), Or.inl rfl, zzY1_ok, zzN1⟩, (List.forall_mem_cons.mpr ⟨⟨RX_2, zzT2, 12, "ReconcilerHall$Controller", zzY2, rfl, by decide, zzI2, zz_at 264 (by decide +kernel), Or.inl rfl, zzY2_ok, zzN2⟩, (List.forall_mem_cons.mpr ⟨⟨RX_3, zzT3, 12, "ReconcilerHall$Controller", zzY3, rfl, by decide, zzI3, zz_at 264 (by decide +kernel), Or.inl rfl, zzY3_ok, zzN3⟩, (List.forall_mem_cons.mpr ⟨⟨RX_4, zzT4, 12, "ReconcilerHall$Controller", zzY4, rfl, by decide, zzI4, zz_at 264 (by decide +kernel), Or.inl rfl, zzY4_ok, zzN4⟩, (List.forall_mem_cons.mpr ⟨⟨RX_5, zzT5, 12, "ReconcilerHall$Controller", zzY5, rfl, by decide, zzI5, zz_at 264 (by decide +kernel), Or.inl rfl, zzY5_ok, zzN5⟩, (List.forall_mem_cons.mpr ⟨⟨RX_6, zzT6, 13, "ReconcilerHall$Controller", zzY6, rfl, by decide, zzI6, zz_at 264 (by decide +kernel), Or.inl rfl, zzY6_ok, zzN6⟩, (List.forall_mem_cons.mpr ⟨⟨RX_7, zzT7, 15, "ReconcilerHall$Controller", zzY7, rfl, by decide, zzI7, zz_at 264 (by decide +kernel), Or.inl rfl, zzY7_ok, zzN7⟩, (fun _ h => absurd h List.not_mem_nil)⟩)⟩)⟩)⟩)⟩)⟩)⟩)
set_option maxRecDepth 100000 in
theorem kv_X2_110_1 : zz_KV RX2 110 RX_1 1 yX2_noteFailure cX2_noteFailure 4 none := zz_ku (owner := "ReconcilerHall$Controller") (x := ⟨"ReconcilerHall$Controller", "noteFailure", "(I)V"⟩) (zz_atl [1276, 2167, 2203, 1278, 112, 1279] (by decide +kernel)) rfl (by decide +kernel)
set_option maxRecDepth 100000 in
theorem kv_X2_110_2 : zz_KV RX2 110 RX_2 1 yX2_noteFailure cX2_noteFailure 4 none := zz_ku (owner := "ReconcilerHall$Controller") (x := ⟨"ReconcilerHall$Controller", "noteFailure", "(I)V"⟩) (zz_atl [1276, 2167, 2204, 1278, 112, 1279] (by decide +kernel)) rfl (by decide +kernel)
set_option maxRecDepth 100000 in
theorem kv_X2_110_3 : zz_KV RX2 110 RX_3 1 yX2_noteFailure cX2_noteFailure 4 none := zz_ku (owner := "ReconcilerHall$Controller") (x := ⟨"ReconcilerHall$Controller", "noteFailure", "(I)V"⟩) (zz_atl [1276, 2167, 2205, 1278, 112, 1279] (by decide +kernel)) rfl (by decide +kernel)
set_option maxRecDepth 100000 in
theorem kv_X2_110_4 : zz_KV RX2 110 RX_4 1 yX2_noteFailure cX2_noteFailure 4 none := zz_ku (owner := "ReconcilerHall$Controller") (x := ⟨"ReconcilerHall$Controller", "noteFailure", "(I)V"⟩) (zz_atl [1276, 2167, 2206, 1278, 112, 1279] (by decide +kernel)) rfl (by decide +kernel)
set_option maxRecDepth 100000 in
theorem kv_X2_110_5 : zz_KV RX2 110 RX_5 1 yX2_noteFailure cX2_noteFailure 4 none := zz_ku (owner := "ReconcilerHall$Controller") (x := ⟨"ReconcilerHall$Controller", "noteFailure", "(I)V"⟩) (zz_atl [1276, 2167, 2207, 1278, 112, 1279] (by decide +kernel)) rfl (by decide +kernel)
set_option maxRecDepth 100000 in
theorem kv_X2_110_6 : zz_KV RX2 110 RX_6 1 yX2_noteFailure cX2_noteFailure 4 none := zz_ku (owner := "ReconcilerHall$Controller") (x := ⟨"ReconcilerHall$Controller", "noteFailure", "(I)V"⟩) (zz_atl [1276, 2167, 2208, 1278, 112, 1279] (by decide +kernel)) rfl (by decide +kernel)
set_option maxRecDepth 100000 in
theorem kv_X2_110_7 : zz_KV RX2 110 RX_7 1 yX2_noteFailure cX2_noteFailure 4 none := zz_ku (owner := "ReconcilerHall$Controller") (x := ⟨"ReconcilerHall$Controller", "noteFailure", "(I)V"⟩) (zz_atl [1276, 2167, 2209, 1278, 112, 1279] (by decide +kernel)) rfl (by decide +kernel)
set_option maxRecDepth 100000 in
theorem fp_8_7 : zz_fp zzCl (zz_kf [8] 7) false := zz_fp_of (List.forall_mem_cons.mpr ⟨⟨(RX_8, zzT8, 9), rfl, rfl, by decide +kernel⟩, (fun _ h => absurd h List.not_mem_nil)⟩)
set_option maxRecDepth 100000 in
theorem kv_X9_100_8 : zz_KV RX9 100 RX_8 1 yX10_isGone cX10_isGone 2 (some .boolean) := zz_ku (owner := "ReconcilerHall$View") (x := ⟨"ReconcilerHall$Store", "isGone", "(I)Z"⟩) (zz_atl [1399, 461, 463, 464, 109, 465] (by decide +kernel)) rfl (by decide +kernel)
set_option maxRecDepth 100000 in
theorem kv_X9_103_8 : zz_KV RX9 103 RX_8 3 yX9_change cX9_change 4 (some .boolean) ∧ zz_KX RX9 103 RX_8 3 yX9_change cX9_change 4 (some .boolean) := zz_kv (zz_atl [1400, 741, 742, 110, 743] (by decide +kernel)) (by decide +kernel)
set_option maxRecDepth 100000 in
theorem ks_X11_54 : zz_KS RX11 54 1 yX11_isCaller cX11_isCaller 1 (some .boolean) := zz_ks (zz_atl [551, 552, 108, 553] (by decide +kernel)) (by decide +kernel)
set_option maxRecDepth 100000 in
theorem th_X11_61_63 {l : Launch} {D : va_G} {cA : Nat → ClassId} {ad : Nat → Nat} {Ex : (Nat → Prop) → State → Heap → Prop} (Wd : zzWC l D cA ad Ex) : zz_Th Ex RX11 61 63 65 0 := ⟨by decide +kernel, zz_at 554 (by decide +kernel), zz_at 124 (by decide +kernel), zz_atl [121, 576, 585, 589, 592, 594, 577, 578, 135, 136, 579, 584, 590, 610, 566, 611, 568, 612, 570, 580, 582, 572, 606, 607, 609, 572, 597, 598, 599, 600, 600, 601, 602, 603, 603, 604, 605, 606, 596, 555, 563, 564, 565, 567, 569, 571, 575, 574, 573] (by decide +kernel), by decide +kernel, by decide +kernel, "no such manager or kind", fun A U H hE => zzWC_str Wd (q := (RX11, 63, "no such manager or kind")) (by decide +kernel) hE⟩
set_option maxRecDepth 100000 in
theorem ff_X11_10 : zz_fw RX11 10 zzCl (zz_kf [9] 0) := zz_fw_of (List.forall_mem_cons.mpr ⟨⟨RX_9, zzT9, 5, "ReconcilerHall", zzY9, rfl, by decide, zzI9, zz_at 420 (by decide +kernel), Or.inl rfl, zzY9_ok, zzN9⟩, (fun _ h => absurd h List.not_mem_nil)⟩)
set_option maxRecDepth 100000 in
theorem kv_X11_71_8 : zz_KV RX11 71 RX_8 4 yX9_open cX9_open 6 (some .int) ∧ zz_KX RX11 71 RX_8 4 yX9_open cX9_open 6 (some .int) := zz_kv (zz_atl [624, 625, 626, 110, 627] (by decide +kernel)) (by decide +kernel)
set_option maxRecDepth 100000 in
theorem th_X11_75_77 {l : Launch} {D : va_G} {cA : Nat → ClassId} {ad : Nat → Nat} {Ex : (Nat → Prop) → State → Heap → Prop} (Wd : zzWC l D cA ad Ex) : zz_Th Ex RX11 75 77 79 1 := ⟨by decide +kernel, zz_at 637 (by decide +kernel), zz_at 126 (by decide +kernel), zz_atl [121, 576, 585, 589, 592, 594, 577, 578, 135, 136, 579, 584, 590, 610, 566, 611, 568, 612, 570, 580, 582, 572, 606, 607, 609, 572, 648, 649, 650, 600, 600, 601, 602, 603, 603, 604, 605, 606, 647, 638, 640, 587, 641, 642, 643, 644, 575, 574, 645] (by decide +kernel), by decide +kernel, by decide +kernel, "the object is refused", fun A U H hE => zzWC_str Wd (q := (RX11, 77, "the object is refused")) (by decide +kernel) hE⟩
set_option maxRecDepth 100000 in
theorem kv_X11_80_9 : zz_KV RX11 80 RX_9 1 yX11_requireObject cX11_requireObject 2 none ∧ zz_KX RX11 80 RX_9 1 yX11_requireObject cX11_requireObject 2 none := zz_kv (zz_atl [661, 663, 9, 108, 664] (by decide +kernel)) (by decide +kernel)
set_option maxRecDepth 100000 in
theorem ff_X11_243 : zz_fw RX11 243 zzCl (zz_kf [8] 2) := zz_fw_of (List.forall_mem_cons.mpr ⟨⟨RX_8, zzT8, 9, "ReconcilerHall$Store", zzY8, rfl, by decide, zzI8, zz_at 212 (by decide +kernel), Or.inr (zz_at 204 (by decide +kernel)), zzY8_ok, zzN8⟩, (fun _ h => absurd h List.not_mem_nil)⟩)
set_option maxRecDepth 100000 in
theorem th_X11_208_295 {l : Launch} {D : va_G} {cA : Nat → ClassId} {ad : Nat → Nat} {Ex : (Nat → Prop) → State → Heap → Prop} (Wd : zzWC l D cA ad Ex) : zz_Th Ex RX11 208 295 212 2 := ⟨by decide +kernel, zz_at 665 (by decide +kernel), zz_at 127 (by decide +kernel), zz_atl [121, 576, 585, 589, 592, 594, 577, 578, 135, 136, 579, 584, 590, 610, 566, 611, 568, 612, 570, 580, 582, 572, 606, 607, 609, 572, 676, 677, 678, 600, 600, 601, 602, 603, 603, 604, 605, 606, 675, 666, 668, 588, 669, 670, 671, 672, 575, 574, 673] (by decide +kernel), by decide +kernel, by decide +kernel, "no such object", fun A U H hE => zzWC_str Wd (q := (RX11, 295, "no such object")) (by decide +kernel) hE⟩
set_option maxRecDepth 100000 in
theorem kv_X11_84_8 : zz_KV RX11 84 RX_8 2 yX10_read cX10_read 3 (some .int) := zz_ku (owner := "ReconcilerHall$View") (x := ⟨"ReconcilerHall$Store", "read", "(II)I"⟩) (zz_atl [681, 483, 485, 467, 109, 477] (by decide +kernel)) rfl (by decide +kernel)
set_option maxRecDepth 100000 in
theorem ks_X11_88 : zz_KS RX11 88 2 yX11_hasField cX11_hasField 2 (some .boolean) := zz_ks (zz_atl [682, 487, 108, 488] (by decide +kernel)) (by decide +kernel)
set_option maxRecDepth 100000 in
theorem ks_X11_92 : zz_KS RX11 92 2 yX11_isInRange cX11_isInRange 2 (some .boolean) := zz_ks (zz_atl [683, 684, 108, 685] (by decide +kernel)) (by decide +kernel)
set_option maxRecDepth 100000 in
theorem th_X11_61_95 {l : Launch} {D : va_G} {cA : Nat → ClassId} {ad : Nat → Nat} {Ex : (Nat → Prop) → State → Heap → Prop} (Wd : zzWC l D cA ad Ex) : zz_Th Ex RX11 61 95 65 0 := ⟨by decide +kernel, zz_at 554 (by decide +kernel), zz_at 124 (by decide +kernel), zz_atl [121, 576, 585, 589, 592, 594, 577, 578, 135, 136, 579, 584, 590, 610, 566, 611, 568, 612, 570, 580, 582, 572, 606, 607, 609, 572, 597, 598, 599, 600, 600, 601, 602, 603, 603, 604, 605, 606, 596, 555, 563, 564, 565, 567, 569, 571, 575, 574, 573] (by decide +kernel), by decide +kernel, by decide +kernel, "no such manager, field or value", fun A U H hE => zzWC_str Wd (q := (RX11, 95, "no such manager, field or value")) (by decide +kernel) hE⟩
set_option maxRecDepth 100000 in
theorem kv_X11_97_8 : zz_KV RX11 97 RX_8 1 yX10_isGone cX10_isGone 2 (some .boolean) := zz_ku (owner := "ReconcilerHall$View") (x := ⟨"ReconcilerHall$Store", "isGone", "(I)Z"⟩) (zz_atl [460, 461, 463, 464, 109, 465] (by decide +kernel)) rfl (by decide +kernel)
set_option maxRecDepth 100000 in
theorem kv_X11_100_8 : zz_KV RX11 100 RX_8 1 yX10_latestOf cX10_latestOf 2 (some .int) := zz_ku (owner := "ReconcilerHall$View") (x := ⟨"ReconcilerHall$Store", "latestOf", "(I)I"⟩) (zz_atl [691, 499, 501, 502, 109, 503] (by decide +kernel)) rfl (by decide +kernel)
set_option maxRecDepth 100000 in
theorem th_X11_75_104 {l : Launch} {D : va_G} {cA : Nat → ClassId} {ad : Nat → Nat} {Ex : (Nat → Prop) → State → Heap → Prop} (Wd : zzWC l D cA ad Ex) : zz_Th Ex RX11 75 104 79 1 := ⟨by decide +kernel, zz_at 637 (by decide +kernel), zz_at 126 (by decide +kernel), zz_atl [121, 576, 585, 589, 592, 594, 577, 578, 135, 136, 579, 584, 590, 610, 566, 611, 568, 612, 570, 580, 582, 572, 606, 607, 609, 572, 648, 649, 650, 600, 600, 601, 602, 603, 603, 604, 605, 606, 647, 638, 640, 587, 641, 642, 643, 644, 575, 574, 645] (by decide +kernel), by decide +kernel, by decide +kernel, "the object is gone or has another version", fun A U H hE => zzWC_str Wd (q := (RX11, 104, "the object is gone or has another version")) (by decide +kernel) hE⟩
set_option maxRecDepth 100000 in
theorem th_X11_75_106 {l : Launch} {D : va_G} {cA : Nat → ClassId} {ad : Nat → Nat} {Ex : (Nat → Prop) → State → Heap → Prop} (Wd : zzWC l D cA ad Ex) : zz_Th Ex RX11 75 106 79 1 := ⟨by decide +kernel, zz_at 637 (by decide +kernel), zz_at 126 (by decide +kernel), zz_atl [121, 576, 585, 589, 592, 594, 577, 578, 135, 136, 579, 584, 590, 610, 566, 611, 568, 612, 570, 580, 582, 572, 606, 607, 609, 572, 648, 649, 650, 600, 600, 601, 602, 603, 603, 604, 605, 606, 647, 638, 640, 587, 641, 642, 643, 644, 575, 574, 645] (by decide +kernel), by decide +kernel, by decide +kernel, "the field has another manager", fun A U H hE => zzWC_str Wd (q := (RX11, 106, "the field has another manager")) (by decide +kernel) hE⟩
set_option maxRecDepth 100000 in
theorem kv_X11_108_8 : zz_KV RX11 108 RX_8 4 yX9_applyField cX9_applyField 5 (some .boolean) ∧ zz_KX RX11 108 RX_8 4 yX9_applyField cX9_applyField 5 (some .boolean) := zz_kv (zz_atl [478, 479, 480, 110, 481] (by decide +kernel)) (by decide +kernel)
set_option maxRecDepth 100000 in
theorem th_X11_75_112 {l : Launch} {D : va_G} {cA : Nat → ClassId} {ad : Nat → Nat} {Ex : (Nat → Prop) → State → Heap → Prop} (Wd : zzWC l D cA ad Ex) : zz_Th Ex RX11 75 112 79 1 := ⟨by decide +kernel, zz_at 637 (by decide +kernel), zz_at 126 (by decide +kernel), zz_atl [121, 576, 585, 589, 592, 594, 577, 578, 135, 136, 579, 584, 590, 610, 566, 611, 568, 612, 570, 580, 582, 572, 606, 607, 609, 572, 648, 649, 650, 600, 600, 601, 602, 603, 603, 604, 605, 606, 647, 638, 640, 587, 641, 642, 643, 644, 575, 574, 645] (by decide +kernel), by decide +kernel, by decide +kernel, "the write is refused", fun A U H hE => zzWC_str Wd (q := (RX11, 112, "the write is refused")) (by decide +kernel) hE⟩
set_option maxRecDepth 100000 in
theorem ks_X11_114 : zz_KS RX11 114 2 yJ9_floorDiv_7cf53 cJ9_floorDiv_7cf53 3 (some .int) := zz_kso (zz_at 704 (by decide +kernel)) (zz_at 128 (by decide +kernel)) (zz_at 702 (by decide +kernel)) (zz_at 703 (by decide +kernel)) (by decide +kernel)
set_option maxRecDepth 100000 in
theorem ks_X11_119 : zz_KS RX11 119 2 yJ9_floorMod_7cf53 cJ9_floorMod_7cf53 3 (some .int) := zz_kso (zz_at 707 (by decide +kernel)) (zz_at 128 (by decide +kernel)) (zz_at 705 (by decide +kernel)) (zz_at 706 (by decide +kernel)) (by decide +kernel)
set_option maxRecDepth 100000 in
theorem th_X11_61_122 {l : Launch} {D : va_G} {cA : Nat → ClassId} {ad : Nat → Nat} {Ex : (Nat → Prop) → State → Heap → Prop} (Wd : zzWC l D cA ad Ex) : zz_Th Ex RX11 61 122 65 0 := ⟨by decide +kernel, zz_at 554 (by decide +kernel), zz_at 124 (by decide +kernel), zz_atl [121, 576, 585, 589, 592, 594, 577, 578, 135, 136, 579, 584, 590, 610, 566, 611, 568, 612, 570, 580, 582, 572, 606, 607, 609, 572, 597, 598, 599, 600, 600, 601, 602, 603, 603, 604, 605, 606, 596, 555, 563, 564, 565, 567, 569, 571, 575, 574, 573] (by decide +kernel), by decide +kernel, by decide +kernel, "no such manager, no deploy or no such budget", fun A U H hE => zzWC_str Wd (q := (RX11, 122, "no such manager, no deploy or no such budget")) (by decide +kernel) hE⟩
set_option maxRecDepth 100000 in
theorem th_X11_75_124 {l : Launch} {D : va_G} {cA : Nat → ClassId} {ad : Nat → Nat} {Ex : (Nat → Prop) → State → Heap → Prop} (Wd : zzWC l D cA ad Ex) : zz_Th Ex RX11 75 124 79 1 := ⟨by decide +kernel, zz_at 637 (by decide +kernel), zz_at 126 (by decide +kernel), zz_atl [121, 576, 585, 589, 592, 594, 577, 578, 135, 136, 579, 584, 590, 610, 566, 611, 568, 612, 570, 580, 582, 572, 606, 607, 609, 572, 648, 649, 650, 600, 600, 601, 602, 603, 603, 604, 605, 606, 647, 638, 640, 587, 641, 642, 643, 644, 575, 574, 645] (by decide +kernel), by decide +kernel, by decide +kernel, "the object is gone or a field has another manager", fun A U H hE => zzWC_str Wd (q := (RX11, 124, "the object is gone or a field has another manager")) (by decide +kernel) hE⟩
set_option maxRecDepth 100000 in
theorem kv_X11_126_8 : zz_KV RX11 126 RX_8 4 yX9_applyBoth cX9_applyBoth 5 (some .boolean) ∧ zz_KX RX11 126 RX_8 4 yX9_applyBoth cX9_applyBoth 5 (some .boolean) := zz_kv (zz_atl [710, 711, 712, 110, 713] (by decide +kernel)) (by decide +kernel)
set_option maxRecDepth 100000 in
theorem th_X11_61_129 {l : Launch} {D : va_G} {cA : Nat → ClassId} {ad : Nat → Nat} {Ex : (Nat → Prop) → State → Heap → Prop} (Wd : zzWC l D cA ad Ex) : zz_Th Ex RX11 61 129 65 0 := ⟨by decide +kernel, zz_at 554 (by decide +kernel), zz_at 124 (by decide +kernel), zz_atl [121, 576, 585, 589, 592, 594, 577, 578, 135, 136, 579, 584, 590, 610, 566, 611, 568, 612, 570, 580, 582, 572, 606, 607, 609, 572, 597, 598, 599, 600, 600, 601, 602, 603, 603, 604, 605, 606, 596, 555, 563, 564, 565, 567, 569, 571, 575, 574, 573] (by decide +kernel), by decide +kernel, by decide +kernel, "no such manner", fun A U H hE => zzWC_str Wd (q := (RX11, 129, "no such manner")) (by decide +kernel) hE⟩
set_option maxRecDepth 100000 in
theorem kv_X11_131_8 : zz_KV RX11 131 RX_8 2 yX9_startGoing cX9_startGoing 3 (some .boolean) ∧ zz_KX RX11 131 RX_8 2 yX9_startGoing cX9_startGoing 3 (some .boolean) := zz_kv (zz_atl [722, 723, 724, 110, 725] (by decide +kernel)) (by decide +kernel)
set_option maxRecDepth 100000 in
theorem th_X11_75_134 {l : Launch} {D : va_G} {cA : Nat → ClassId} {ad : Nat → Nat} {Ex : (Nat → Prop) → State → Heap → Prop} (Wd : zzWC l D cA ad Ex) : zz_Th Ex RX11 75 134 79 1 := ⟨by decide +kernel, zz_at 637 (by decide +kernel), zz_at 126 (by decide +kernel), zz_atl [121, 576, 585, 589, 592, 594, 577, 578, 135, 136, 579, 584, 590, 610, 566, 611, 568, 612, 570, 580, 582, 572, 606, 607, 609, 572, 648, 649, 650, 600, 600, 601, 602, 603, 603, 604, 605, 606, 647, 638, 640, 587, 641, 642, 643, 644, 575, 574, 645] (by decide +kernel), by decide +kernel, by decide +kernel, "the object is not staying or the log is full", fun A U H hE => zzWC_str Wd (q := (RX11, 134, "the object is not staying or the log is full")) (by decide +kernel) hE⟩
set_option maxRecDepth 100000 in
theorem kv_X11_136_8 : zz_KV RX11 136 RX_8 3 yX9_change cX9_change 4 (some .boolean) ∧ zz_KX RX11 136 RX_8 3 yX9_change cX9_change 4 (some .boolean) := zz_kv (zz_atl [740, 741, 742, 110, 743] (by decide +kernel)) (by decide +kernel)
set_option maxRecDepth 100000 in
theorem th_X11_75_140 {l : Launch} {D : va_G} {cA : Nat → ClassId} {ad : Nat → Nat} {Ex : (Nat → Prop) → State → Heap → Prop} (Wd : zzWC l D cA ad Ex) : zz_Th Ex RX11 75 140 79 1 := ⟨by decide +kernel, zz_at 637 (by decide +kernel), zz_at 126 (by decide +kernel), zz_atl [121, 576, 585, 589, 592, 594, 577, 578, 135, 136, 579, 584, 590, 610, 566, 611, 568, 612, 570, 580, 582, 572, 606, 607, 609, 572, 648, 649, 650, 600, 600, 601, 602, 603, 603, 604, 605, 606, 647, 638, 640, 587, 641, 642, 643, 644, 575, 574, 645] (by decide +kernel), by decide +kernel, by decide +kernel, "the object is gone or the log is full", fun A U H hE => zzWC_str Wd (q := (RX11, 140, "the object is gone or the log is full")) (by decide +kernel) hE⟩
set_option maxRecDepth 100000 in
theorem kv_X11_142_9 : zz_KV RX11 142 RX_9 2 yX11_requireKind cX11_requireKind 3 none ∧ zz_KX RX11 142 RX_9 2 yX11_requireKind cX11_requireKind 3 none := zz_kv (zz_atl [752, 754, 10, 108, 755] (by decide +kernel)) (by decide +kernel)
set_option maxRecDepth 100000 in
theorem th_X11_61_297 {l : Launch} {D : va_G} {cA : Nat → ClassId} {ad : Nat → Nat} {Ex : (Nat → Prop) → State → Heap → Prop} (Wd : zzWC l D cA ad Ex) : zz_Th Ex RX11 61 297 65 0 := ⟨by decide +kernel, zz_at 554 (by decide +kernel), zz_at 124 (by decide +kernel), zz_atl [121, 576, 585, 589, 592, 594, 577, 578, 135, 136, 579, 584, 590, 610, 566, 611, 568, 612, 570, 580, 582, 572, 606, 607, 609, 572, 597, 598, 599, 600, 600, 601, 602, 603, 603, 604, 605, 606, 596, 555, 563, 564, 565, 567, 569, 571, 575, 574, 573] (by decide +kernel), by decide +kernel, by decide +kernel, "the object has another kind", fun A U H hE => zzWC_str Wd (q := (RX11, 297, "the object has another kind")) (by decide +kernel) hE⟩
set_option maxRecDepth 100000 in
theorem th_X11_75_146 {l : Launch} {D : va_G} {cA : Nat → ClassId} {ad : Nat → Nat} {Ex : (Nat → Prop) → State → Heap → Prop} (Wd : zzWC l D cA ad Ex) : zz_Th Ex RX11 75 146 79 1 := ⟨by decide +kernel, zz_at 637 (by decide +kernel), zz_at 126 (by decide +kernel), zz_atl [121, 576, 585, 589, 592, 594, 577, 578, 135, 136, 579, 584, 590, 610, 566, 611, 568, 612, 570, 580, 582, 572, 606, 607, 609, 572, 648, 649, 650, 600, 600, 601, 602, 603, 603, 604, 605, 606, 647, 638, 640, 587, 641, 642, 643, 644, 575, 574, 645] (by decide +kernel), by decide +kernel, by decide +kernel, "the pod is gone, it is not running or the log is full", fun A U H hE => zzWC_str Wd (q := (RX11, 146, "the pod is gone, it is not running or the log is full")) (by decide +kernel) hE⟩
set_option maxRecDepth 100000 in
theorem th_X11_61_148 {l : Launch} {D : va_G} {cA : Nat → ClassId} {ad : Nat → Nat} {Ex : (Nat → Prop) → State → Heap → Prop} (Wd : zzWC l D cA ad Ex) : zz_Th Ex RX11 61 148 65 0 := ⟨by decide +kernel, zz_at 554 (by decide +kernel), zz_at 124 (by decide +kernel), zz_atl [121, 576, 585, 589, 592, 594, 577, 578, 135, 136, 579, 584, 590, 610, 566, 611, 568, 612, 570, 580, 582, 572, 606, 607, 609, 572, 597, 598, 599, 600, 600, 601, 602, 603, 603, 604, 605, 606, 596, 555, 563, 564, 565, 567, 569, 571, 575, 574, 573] (by decide +kernel), by decide +kernel, by decide +kernel, "no such kind, field, range or value", fun A U H hE => zzWC_str Wd (q := (RX11, 148, "no such kind, field, range or value")) (by decide +kernel) hE⟩
set_option maxRecDepth 100000 in
theorem ff_X11_150 : zz_fw RX11 150 zzCl (zz_kf [8] 4) := zz_fw_of (List.forall_mem_cons.mpr ⟨⟨RX_8, zzT8, 9, "ReconcilerHall$Store", zzY8, rfl, by decide, zzI8, zz_at 180 (by decide +kernel), Or.inl rfl, zzY8_ok, zzN8⟩, (fun _ h => absurd h List.not_mem_nil)⟩)
set_option maxRecDepth 100000 in
theorem kv_X11_154_0 : zz_KV RX11 154 RX_0 6 yX0_addRule cX0_addRule 8 (some .boolean) ∧ zz_KX RX11 154 RX_0 6 yX0_addRule cX0_addRule 8 (some .boolean) := zz_kv (zz_atl [766, 767, 768, 111, 769] (by decide +kernel)) (by decide +kernel)
set_option maxRecDepth 100000 in
theorem th_X11_75_160 {l : Launch} {D : va_G} {cA : Nat → ClassId} {ad : Nat → Nat} {Ex : (Nat → Prop) → State → Heap → Prop} (Wd : zzWC l D cA ad Ex) : zz_Th Ex RX11 75 160 79 1 := ⟨by decide +kernel, zz_at 637 (by decide +kernel), zz_at 126 (by decide +kernel), zz_atl [121, 576, 585, 589, 592, 594, 577, 578, 135, 136, 579, 584, 590, 610, 566, 611, 568, 612, 570, 580, 582, 572, 606, 607, 609, 572, 648, 649, 650, 600, 600, 601, 602, 603, 603, 604, 605, 606, 647, 638, 640, 587, 641, 642, 643, 644, 575, 574, 645] (by decide +kernel), by decide +kernel, by decide +kernel, "there are as many rules as there can be", fun A U H hE => zzWC_str Wd (q := (RX11, 160, "there are as many rules as there can be")) (by decide +kernel) hE⟩
set_option maxRecDepth 100000 in
theorem ff_X11_162 : zz_fw RX11 162 zzCl (zz_kf [0] 3) := zz_fw_of (List.forall_mem_cons.mpr ⟨⟨RX_0, zzT0, 6, "ReconcilerHall$Admission", zzY0, rfl, by decide, zzI0, zz_at 159 (by decide +kernel), Or.inl rfl, zzY0_ok, zzN0⟩, (fun _ h => absurd h List.not_mem_nil)⟩)
set_option maxRecDepth 100000 in
theorem th_X11_61_166 {l : Launch} {D : va_G} {cA : Nat → ClassId} {ad : Nat → Nat} {Ex : (Nat → Prop) → State → Heap → Prop} (Wd : zzWC l D cA ad Ex) : zz_Th Ex RX11 61 166 65 0 := ⟨by decide +kernel, zz_at 554 (by decide +kernel), zz_at 124 (by decide +kernel), zz_atl [121, 576, 585, 589, 592, 594, 577, 578, 135, 136, 579, 584, 590, 610, 566, 611, 568, 612, 570, 580, 582, 572, 606, 607, 609, 572, 597, 598, 599, 600, 600, 601, 602, 603, 603, 604, 605, 606, 596, 555, 563, 564, 565, 567, 569, 571, 575, 574, 573] (by decide +kernel), by decide +kernel, by decide +kernel, "no such kind or field", fun A U H hE => zzWC_str Wd (q := (RX11, 166, "no such kind or field")) (by decide +kernel) hE⟩
set_option maxRecDepth 100000 in
theorem kv_X11_168_0 : zz_KV RX11 168 RX_0 3 yX0_addCheck cX0_addCheck 5 (some .boolean) ∧ zz_KX RX11 168 RX_0 3 yX0_addCheck cX0_addCheck 5 (some .boolean) := zz_kv (zz_atl [779, 780, 781, 111, 782] (by decide +kernel)) (by decide +kernel)
set_option maxRecDepth 100000 in
theorem th_X11_75_171 {l : Launch} {D : va_G} {cA : Nat → ClassId} {ad : Nat → Nat} {Ex : (Nat → Prop) → State → Heap → Prop} (Wd : zzWC l D cA ad Ex) : zz_Th Ex RX11 75 171 79 1 := ⟨by decide +kernel, zz_at 637 (by decide +kernel), zz_at 126 (by decide +kernel), zz_atl [121, 576, 585, 589, 592, 594, 577, 578, 135, 136, 579, 584, 590, 610, 566, 611, 568, 612, 570, 580, 582, 572, 606, 607, 609, 572, 648, 649, 650, 600, 600, 601, 602, 603, 603, 604, 605, 606, 647, 638, 640, 587, 641, 642, 643, 644, 575, 574, 645] (by decide +kernel), by decide +kernel, by decide +kernel, "there are as many checks as there can be", fun A U H hE => zzWC_str Wd (q := (RX11, 171, "there are as many checks as there can be")) (by decide +kernel) hE⟩
set_option maxRecDepth 100000 in
theorem ff_X11_173 : zz_fw RX11 173 zzCl (zz_kf [0] 4) := zz_fw_of (List.forall_mem_cons.mpr ⟨⟨RX_0, zzT0, 6, "ReconcilerHall$Admission", zzY0, rfl, by decide, zzI0, zz_at 161 (by decide +kernel), Or.inl rfl, zzY0_ok, zzN0⟩, (fun _ h => absurd h List.not_mem_nil)⟩)
set_option maxRecDepth 100000 in
theorem kv_X11_176_0 : zz_KV RX11 176 RX_0 0 yX0_removeAll cX0_removeAll 2 (some .int) ∧ zz_KX RX11 176 RX_0 0 yX0_removeAll cX0_removeAll 2 (some .int) := zz_kv (zz_atl [440, 441, 442, 111, 443] (by decide +kernel)) (by decide +kernel)
set_option maxRecDepth 100000 in
theorem th_X11_61_180 {l : Launch} {D : va_G} {cA : Nat → ClassId} {ad : Nat → Nat} {Ex : (Nat → Prop) → State → Heap → Prop} (Wd : zzWC l D cA ad Ex) : zz_Th Ex RX11 61 180 65 0 := ⟨by decide +kernel, zz_at 554 (by decide +kernel), zz_at 124 (by decide +kernel), zz_atl [121, 576, 585, 589, 592, 594, 577, 578, 135, 136, 579, 584, 590, 610, 566, 611, 568, 612, 570, 580, 582, 572, 606, 607, 609, 572, 597, 598, 599, 600, 600, 601, 602, 603, 603, 604, 605, 606, 596, 555, 563, 564, 565, 567, 569, 571, 575, 574, 573] (by decide +kernel), by decide +kernel, by decide +kernel, "no such quota", fun A U H hE => zzWC_str Wd (q := (RX11, 180, "no such quota")) (by decide +kernel) hE⟩
set_option maxRecDepth 100000 in
theorem ff_X11_182 : zz_fw RX11 182 zzCl (zz_kf [0] 5) := zz_fw_of (List.forall_mem_cons.mpr ⟨⟨RX_0, zzT0, 6, "ReconcilerHall$Admission", zzY0, rfl, by decide, zzI0, zz_at 164 (by decide +kernel), Or.inl rfl, zzY0_ok, zzN0⟩, (fun _ h => absurd h List.not_mem_nil)⟩)
set_option maxRecDepth 100000 in
theorem fp_0_5 : zz_fp zzCl (zz_kf [0] 5) false := zz_fp_of (List.forall_mem_cons.mpr ⟨⟨(RX_0, zzT0, 6), rfl, rfl, by decide +kernel⟩, (fun _ h => absurd h List.not_mem_nil)⟩)
set_option maxRecDepth 100000 in
theorem kv_X11_185_9 : zz_KV RX11 185 RX_9 1 yX11_controllerAt cX11_controllerAt 2 (some (.object "ReconcilerHall$Controller")) ∧ zz_KX RX11 185 RX_9 1 yX11_controllerAt cX11_controllerAt 2 (some (.object "ReconcilerHall$Controller")) := zz_kv (zz_atl [448, 450, 0, 108, 451] (by decide +kernel)) (by decide +kernel)
set_option maxRecDepth 100000 in
theorem ff_X11_18 : zz_fw RX11 18 zzCl (zz_kf [9] 1) := zz_fw_of (List.forall_mem_cons.mpr ⟨⟨RX_9, zzT9, 5, "ReconcilerHall", zzY9, rfl, by decide, zzI9, zz_at 421 (by decide +kernel), Or.inl rfl, zzY9_ok, zzN9⟩, (fun _ h => absurd h List.not_mem_nil)⟩)
set_option maxRecDepth 100000 in
theorem th_X11_61_189 {l : Launch} {D : va_G} {cA : Nat → ClassId} {ad : Nat → Nat} {Ex : (Nat → Prop) → State → Heap → Prop} (Wd : zzWC l D cA ad Ex) : zz_Th Ex RX11 61 189 65 0 := ⟨by decide +kernel, zz_at 554 (by decide +kernel), zz_at 124 (by decide +kernel), zz_atl [121, 576, 585, 589, 592, 594, 577, 578, 135, 136, 579, 584, 590, 610, 566, 611, 568, 612, 570, 580, 582, 572, 606, 607, 609, 572, 597, 598, 599, 600, 600, 601, 602, 603, 603, 604, 605, 606, 596, 555, 563, 564, 565, 567, 569, 571, 575, 574, 573] (by decide +kernel), by decide +kernel, by decide +kernel, "no such controller or number of events", fun A U H hE => zzWC_str Wd (q := (RX11, 189, "no such controller or number of events")) (by decide +kernel) hE⟩
set_option maxRecDepth 100000 in
theorem kv_X11_191_1 : zz_KV RX11 191 RX_1 1 yX2_look cX2_look 4 (some .int) := zz_ku (owner := "ReconcilerHall$Controller") (x := ⟨"ReconcilerHall$Controller", "look", "(I)I"⟩) (zz_atl [800, 802, 803, 801, 112, 810] (by decide +kernel)) rfl (by decide +kernel)
set_option maxRecDepth 100000 in
theorem kv_X11_191_2 : zz_KV RX11 191 RX_2 1 yX2_look cX2_look 4 (some .int) := zz_ku (owner := "ReconcilerHall$Controller") (x := ⟨"ReconcilerHall$Controller", "look", "(I)I"⟩) (zz_atl [800, 802, 804, 801, 112, 810] (by decide +kernel)) rfl (by decide +kernel)
set_option maxRecDepth 100000 in
theorem kv_X11_191_3 : zz_KV RX11 191 RX_3 1 yX2_look cX2_look 4 (some .int) := zz_ku (owner := "ReconcilerHall$Controller") (x := ⟨"ReconcilerHall$Controller", "look", "(I)I"⟩) (zz_atl [800, 802, 805, 801, 112, 810] (by decide +kernel)) rfl (by decide +kernel)
set_option maxRecDepth 100000 in
theorem kv_X11_191_4 : zz_KV RX11 191 RX_4 1 yX2_look cX2_look 4 (some .int) := zz_ku (owner := "ReconcilerHall$Controller") (x := ⟨"ReconcilerHall$Controller", "look", "(I)I"⟩) (zz_atl [800, 802, 806, 801, 112, 810] (by decide +kernel)) rfl (by decide +kernel)
set_option maxRecDepth 100000 in
theorem kv_X11_191_5 : zz_KV RX11 191 RX_5 1 yX2_look cX2_look 4 (some .int) := zz_ku (owner := "ReconcilerHall$Controller") (x := ⟨"ReconcilerHall$Controller", "look", "(I)I"⟩) (zz_atl [800, 802, 807, 801, 112, 810] (by decide +kernel)) rfl (by decide +kernel)
set_option maxRecDepth 100000 in
theorem kv_X11_191_6 : zz_KV RX11 191 RX_6 1 yX2_look cX2_look 4 (some .int) := zz_ku (owner := "ReconcilerHall$Controller") (x := ⟨"ReconcilerHall$Controller", "look", "(I)I"⟩) (zz_atl [800, 802, 808, 801, 112, 810] (by decide +kernel)) rfl (by decide +kernel)
set_option maxRecDepth 100000 in
theorem kv_X11_191_7 : zz_KV RX11 191 RX_7 1 yX2_look cX2_look 4 (some .int) := zz_ku (owner := "ReconcilerHall$Controller") (x := ⟨"ReconcilerHall$Controller", "look", "(I)I"⟩) (zz_atl [800, 802, 809, 801, 112, 810] (by decide +kernel)) rfl (by decide +kernel)
set_option maxRecDepth 100000 in
theorem th_X11_61_194 {l : Launch} {D : va_G} {cA : Nat → ClassId} {ad : Nat → Nat} {Ex : (Nat → Prop) → State → Heap → Prop} (Wd : zzWC l D cA ad Ex) : zz_Th Ex RX11 61 194 65 0 := ⟨by decide +kernel, zz_at 554 (by decide +kernel), zz_at 124 (by decide +kernel), zz_atl [121, 576, 585, 589, 592, 594, 577, 578, 135, 136, 579, 584, 590, 610, 566, 611, 568, 612, 570, 580, 582, 572, 606, 607, 609, 572, 597, 598, 599, 600, 600, 601, 602, 603, 603, 604, 605, 606, 596, 555, 563, 564, 565, 567, 569, 571, 575, 574, 573] (by decide +kernel), by decide +kernel, by decide +kernel, "no such controller", fun A U H hE => zzWC_str Wd (q := (RX11, 194, "no such controller")) (by decide +kernel) hE⟩
set_option maxRecDepth 100000 in
theorem kv_X11_196_1 : zz_KV RX11 196 RX_1 0 yX2_workOnce cX2_workOnce 4 (some .int) := zz_ku (owner := "ReconcilerHall$Controller") (x := ⟨"ReconcilerHall$Controller", "workOnce", "()I"⟩) (zz_atl [968, 970, 971, 969, 112, 978] (by decide +kernel)) rfl (by decide +kernel)
set_option maxRecDepth 100000 in
theorem kv_X11_196_2 : zz_KV RX11 196 RX_2 0 yX2_workOnce cX2_workOnce 4 (some .int) := zz_ku (owner := "ReconcilerHall$Controller") (x := ⟨"ReconcilerHall$Controller", "workOnce", "()I"⟩) (zz_atl [968, 970, 972, 969, 112, 978] (by decide +kernel)) rfl (by decide +kernel)
set_option maxRecDepth 100000 in
theorem kv_X11_196_3 : zz_KV RX11 196 RX_3 0 yX2_workOnce cX2_workOnce 4 (some .int) := zz_ku (owner := "ReconcilerHall$Controller") (x := ⟨"ReconcilerHall$Controller", "workOnce", "()I"⟩) (zz_atl [968, 970, 973, 969, 112, 978] (by decide +kernel)) rfl (by decide +kernel)
set_option maxRecDepth 100000 in
theorem kv_X11_196_4 : zz_KV RX11 196 RX_4 0 yX2_workOnce cX2_workOnce 4 (some .int) := zz_ku (owner := "ReconcilerHall$Controller") (x := ⟨"ReconcilerHall$Controller", "workOnce", "()I"⟩) (zz_atl [968, 970, 974, 969, 112, 978] (by decide +kernel)) rfl (by decide +kernel)
set_option maxRecDepth 100000 in
theorem kv_X11_196_5 : zz_KV RX11 196 RX_5 0 yX2_workOnce cX2_workOnce 4 (some .int) := zz_ku (owner := "ReconcilerHall$Controller") (x := ⟨"ReconcilerHall$Controller", "workOnce", "()I"⟩) (zz_atl [968, 970, 975, 969, 112, 978] (by decide +kernel)) rfl (by decide +kernel)
set_option maxRecDepth 100000 in
theorem kv_X11_196_6 : zz_KV RX11 196 RX_6 0 yX2_workOnce cX2_workOnce 4 (some .int) := zz_ku (owner := "ReconcilerHall$Controller") (x := ⟨"ReconcilerHall$Controller", "workOnce", "()I"⟩) (zz_atl [968, 970, 976, 969, 112, 978] (by decide +kernel)) rfl (by decide +kernel)
set_option maxRecDepth 100000 in
theorem kv_X11_196_7 : zz_KV RX11 196 RX_7 0 yX2_workOnce cX2_workOnce 4 (some .int) := zz_ku (owner := "ReconcilerHall$Controller") (x := ⟨"ReconcilerHall$Controller", "workOnce", "()I"⟩) (zz_atl [968, 970, 977, 969, 112, 978] (by decide +kernel)) rfl (by decide +kernel)
set_option maxRecDepth 100000 in
theorem th_X11_61_199 {l : Launch} {D : va_G} {cA : Nat → ClassId} {ad : Nat → Nat} {Ex : (Nat → Prop) → State → Heap → Prop} (Wd : zzWC l D cA ad Ex) : zz_Th Ex RX11 61 199 65 0 := ⟨by decide +kernel, zz_at 554 (by decide +kernel), zz_at 124 (by decide +kernel), zz_atl [121, 576, 585, 589, 592, 594, 577, 578, 135, 136, 579, 584, 590, 610, 566, 611, 568, 612, 570, 580, 582, 572, 606, 607, 609, 572, 597, 598, 599, 600, 600, 601, 602, 603, 603, 604, 605, 606, 596, 555, 563, 564, 565, 567, 569, 571, 575, 574, 573] (by decide +kernel), by decide +kernel, by decide +kernel, "no such number of times", fun A U H hE => zzWC_str Wd (q := (RX11, 199, "no such number of times")) (by decide +kernel) hE⟩
set_option maxRecDepth 100000 in
theorem ff_X11_201 : zz_fw RX11 201 zzCl (zz_kf [8] 3) := zz_fw_of (List.forall_mem_cons.mpr ⟨⟨RX_8, zzT8, 9, "ReconcilerHall$Store", zzY8, rfl, by decide, zzI8, zz_at 220 (by decide +kernel), Or.inr (zz_at 214 (by decide +kernel)), zzY8_ok, zzN8⟩, (fun _ h => absurd h List.not_mem_nil)⟩)
set_option maxRecDepth 100000 in
theorem kv_X11_204_1 : zz_KV RX11 204 RX_1 0 yX2_lookAtAll cX2_lookAtAll 1 (some .int) := zz_ku (owner := "ReconcilerHall$Controller") (x := ⟨"ReconcilerHall$Controller", "lookAtAll", "()I"⟩) (zz_atl [1288, 1290, 1291, 1289, 112, 1298] (by decide +kernel)) rfl (by decide +kernel)
set_option maxRecDepth 100000 in
theorem kv_X11_204_2 : zz_KV RX11 204 RX_2 0 yX2_lookAtAll cX2_lookAtAll 1 (some .int) := zz_ku (owner := "ReconcilerHall$Controller") (x := ⟨"ReconcilerHall$Controller", "lookAtAll", "()I"⟩) (zz_atl [1288, 1290, 1292, 1289, 112, 1298] (by decide +kernel)) rfl (by decide +kernel)
set_option maxRecDepth 100000 in
theorem kv_X11_204_3 : zz_KV RX11 204 RX_3 0 yX2_lookAtAll cX2_lookAtAll 1 (some .int) := zz_ku (owner := "ReconcilerHall$Controller") (x := ⟨"ReconcilerHall$Controller", "lookAtAll", "()I"⟩) (zz_atl [1288, 1290, 1293, 1289, 112, 1298] (by decide +kernel)) rfl (by decide +kernel)
set_option maxRecDepth 100000 in
theorem kv_X11_204_4 : zz_KV RX11 204 RX_4 0 yX2_lookAtAll cX2_lookAtAll 1 (some .int) := zz_ku (owner := "ReconcilerHall$Controller") (x := ⟨"ReconcilerHall$Controller", "lookAtAll", "()I"⟩) (zz_atl [1288, 1290, 1294, 1289, 112, 1298] (by decide +kernel)) rfl (by decide +kernel)
set_option maxRecDepth 100000 in
theorem kv_X11_204_5 : zz_KV RX11 204 RX_5 0 yX2_lookAtAll cX2_lookAtAll 1 (some .int) := zz_ku (owner := "ReconcilerHall$Controller") (x := ⟨"ReconcilerHall$Controller", "lookAtAll", "()I"⟩) (zz_atl [1288, 1290, 1295, 1289, 112, 1298] (by decide +kernel)) rfl (by decide +kernel)
set_option maxRecDepth 100000 in
theorem kv_X11_204_6 : zz_KV RX11 204 RX_6 0 yX2_lookAtAll cX2_lookAtAll 1 (some .int) := zz_ku (owner := "ReconcilerHall$Controller") (x := ⟨"ReconcilerHall$Controller", "lookAtAll", "()I"⟩) (zz_atl [1288, 1290, 1296, 1289, 112, 1298] (by decide +kernel)) rfl (by decide +kernel)
set_option maxRecDepth 100000 in
theorem kv_X11_204_7 : zz_KV RX11 204 RX_7 0 yX2_lookAtAll cX2_lookAtAll 1 (some .int) := zz_ku (owner := "ReconcilerHall$Controller") (x := ⟨"ReconcilerHall$Controller", "lookAtAll", "()I"⟩) (zz_atl [1288, 1290, 1297, 1289, 112, 1298] (by decide +kernel)) rfl (by decide +kernel)
set_option maxRecDepth 100000 in
theorem ff_X11_207 : zz_fw RX11 207 zzCl (zz_kf [1, 2, 3, 4, 5, 6, 7] 3) := zz_fw_of (List.forall_mem_cons.mpr ⟨⟨RX_1, zzT1, 12, "ReconcilerHall$Controller", zzY1, rfl, by decide, zzI1, zz_at 221 (by decide +kernel), Or.inr (zz_at 216 (by decide +kernel)), zzY1_ok, zzN1⟩, (List.forall_mem_cons.mpr ⟨⟨RX_2, zzT2, 12, "ReconcilerHall$Controller", zzY2, rfl, by decide, zzI2, zz_at 221 (by decide +kernel), Or.inr (zz_at 216 (by decide +kernel)), zzY2_ok, zzN2⟩, (List.forall_mem_cons.mpr ⟨⟨RX_3, zzT3, 12, "ReconcilerHall$Controller", zzY3, rfl, by decide, zzI3, zz_at 221 (by decide +kernel), Or.inr (zz_at 216 (by decide +kernel)), zzY3_ok, zzN3⟩, (List.forall_mem_cons.mpr ⟨⟨RX_4, zzT4, 12, "ReconcilerHall$Controller", zzY4, rfl, by decide, zzI4, zz_at 221 (by decide +kernel), Or.inr (zz_at 216 (by decide +kernel)), zzY4_ok, zzN4⟩, (List.forall_mem_cons.mpr ⟨⟨RX_5, zzT5, 12, "ReconcilerHall$Controller", zzY5, rfl, by decide, zzI5, zz_at 221 (by decide +kernel), Or.inr (zz_at 216 (by decide +kernel)), zzY5_ok, zzN5⟩, (List.forall_mem_cons.mpr ⟨⟨RX_6, zzT6, 13, "ReconcilerHall$Controller", zzY6, rfl, by decide, zzI6, zz_at 221 (by decide +kernel), Or.inr (zz_at 216 (by decide +kernel)), zzY6_ok, zzN6⟩, (List.forall_mem_cons.mpr ⟨⟨RX_7, zzT7, 15, "ReconcilerHall$Controller", zzY7, rfl, by decide, zzI7, zz_at 221 (by decide +kernel), Or.inr (zz_at 216 (by decide +kernel)), zzY7_ok, zzN7⟩, (fun _ h => absurd h List.not_mem_nil)⟩)⟩)⟩)⟩)⟩)⟩)⟩)
set_option maxRecDepth 100000 in
theorem th_X11_208_210 {l : Launch} {D : va_G} {cA : Nat → ClassId} {ad : Nat → Nat} {Ex : (Nat → Prop) → State → Heap → Prop} (Wd : zzWC l D cA ad Ex) : zz_Th Ex RX11 208 210 212 2 := ⟨by decide +kernel, zz_at 665 (by decide +kernel), zz_at 127 (by decide +kernel), zz_atl [121, 576, 585, 589, 592, 594, 577, 578, 135, 136, 579, 584, 590, 610, 566, 611, 568, 612, 570, 580, 582, 572, 606, 607, 609, 572, 676, 677, 678, 600, 600, 601, 602, 603, 603, 604, 605, 606, 675, 666, 668, 588, 669, 670, 671, 672, 575, 574, 673] (by decide +kernel), by decide +kernel, by decide +kernel, "no such place", fun A U H hE => zzWC_str Wd (q := (RX11, 210, "no such place")) (by decide +kernel) hE⟩
set_option maxRecDepth 100000 in
theorem kv_X11_213_1 : zz_KV RX11 213 RX_1 1 yX2_keyAt cX2_keyAt 2 (some .int) := zz_ku (owner := "ReconcilerHall$Controller") (x := ⟨"ReconcilerHall$Controller", "keyAt", "(I)I"⟩) (zz_atl [1315, 1317, 1318, 1316, 112, 1325] (by decide +kernel)) rfl (by decide +kernel)
set_option maxRecDepth 100000 in
theorem kv_X11_213_2 : zz_KV RX11 213 RX_2 1 yX2_keyAt cX2_keyAt 2 (some .int) := zz_ku (owner := "ReconcilerHall$Controller") (x := ⟨"ReconcilerHall$Controller", "keyAt", "(I)I"⟩) (zz_atl [1315, 1317, 1319, 1316, 112, 1325] (by decide +kernel)) rfl (by decide +kernel)
set_option maxRecDepth 100000 in
theorem kv_X11_213_3 : zz_KV RX11 213 RX_3 1 yX2_keyAt cX2_keyAt 2 (some .int) := zz_ku (owner := "ReconcilerHall$Controller") (x := ⟨"ReconcilerHall$Controller", "keyAt", "(I)I"⟩) (zz_atl [1315, 1317, 1320, 1316, 112, 1325] (by decide +kernel)) rfl (by decide +kernel)
set_option maxRecDepth 100000 in
theorem kv_X11_213_4 : zz_KV RX11 213 RX_4 1 yX2_keyAt cX2_keyAt 2 (some .int) := zz_ku (owner := "ReconcilerHall$Controller") (x := ⟨"ReconcilerHall$Controller", "keyAt", "(I)I"⟩) (zz_atl [1315, 1317, 1321, 1316, 112, 1325] (by decide +kernel)) rfl (by decide +kernel)
set_option maxRecDepth 100000 in
theorem kv_X11_213_5 : zz_KV RX11 213 RX_5 1 yX2_keyAt cX2_keyAt 2 (some .int) := zz_ku (owner := "ReconcilerHall$Controller") (x := ⟨"ReconcilerHall$Controller", "keyAt", "(I)I"⟩) (zz_atl [1315, 1317, 1322, 1316, 112, 1325] (by decide +kernel)) rfl (by decide +kernel)
set_option maxRecDepth 100000 in
theorem kv_X11_213_6 : zz_KV RX11 213 RX_6 1 yX2_keyAt cX2_keyAt 2 (some .int) := zz_ku (owner := "ReconcilerHall$Controller") (x := ⟨"ReconcilerHall$Controller", "keyAt", "(I)I"⟩) (zz_atl [1315, 1317, 1323, 1316, 112, 1325] (by decide +kernel)) rfl (by decide +kernel)
set_option maxRecDepth 100000 in
theorem kv_X11_213_7 : zz_KV RX11 213 RX_7 1 yX2_keyAt cX2_keyAt 2 (some .int) := zz_ku (owner := "ReconcilerHall$Controller") (x := ⟨"ReconcilerHall$Controller", "keyAt", "(I)I"⟩) (zz_atl [1315, 1317, 1324, 1316, 112, 1325] (by decide +kernel)) rfl (by decide +kernel)
set_option maxRecDepth 100000 in
theorem ff_X11_216 : zz_fw RX11 216 zzCl (zz_kf [1, 2, 3, 4, 5, 6, 7] 8) := zz_fw_of (List.forall_mem_cons.mpr ⟨⟨RX_1, zzT1, 12, "ReconcilerHall$Controller", zzY1, rfl, by decide, zzI1, zz_at 265 (by decide +kernel), Or.inl rfl, zzY1_ok, zzN1⟩, (List.forall_mem_cons.mpr ⟨⟨RX_2, zzT2, 12, "ReconcilerHall$Controller", zzY2, rfl, by decide, zzI2, zz_at 265 (by decide +kernel), Or.inl rfl, zzY2_ok, zzN2⟩, (List.forall_mem_cons.mpr ⟨⟨RX_3, zzT3, 12, "ReconcilerHall$Controller", zzY3, rfl, by decide, zzI3, zz_at 265 (by decide +kernel), Or.inl rfl, zzY3_ok, zzN3⟩, (List.forall_mem_cons.mpr ⟨⟨RX_4, zzT4, 12, "ReconcilerHall$Controller", zzY4, rfl, by decide, zzI4, zz_at 265 (by decide +kernel), Or.inl rfl, zzY4_ok, zzN4⟩, (List.forall_mem_cons.mpr ⟨⟨RX_5, zzT5, 12, "ReconcilerHall$Controller", zzY5, rfl, by decide, zzI5, zz_at 265 (by decide +kernel), Or.inl rfl, zzY5_ok, zzN5⟩, (List.forall_mem_cons.mpr ⟨⟨RX_6, zzT6, 13, "ReconcilerHall$Controller", zzY6, rfl, by decide, zzI6, zz_at 265 (by decide +kernel), Or.inl rfl, zzY6_ok, zzN6⟩, (List.forall_mem_cons.mpr ⟨⟨RX_7, zzT7, 15, "ReconcilerHall$Controller", zzY7, rfl, by decide, zzI7, zz_at 265 (by decide +kernel), Or.inl rfl, zzY7_ok, zzN7⟩, (fun _ h => absurd h List.not_mem_nil)⟩)⟩)⟩)⟩)⟩)⟩)⟩)
set_option maxRecDepth 100000 in
theorem kv_X11_219_9 : zz_KV RX11 219 RX_9 2 yX11_requireField cX11_requireField 3 none ∧ zz_KX RX11 219 RX_9 2 yX11_requireField cX11_requireField 3 none := zz_kv (zz_atl [1340, 1342, 35, 108, 1343] (by decide +kernel)) (by decide +kernel)
set_option maxRecDepth 100000 in
theorem th_X11_61_299 {l : Launch} {D : va_G} {cA : Nat → ClassId} {ad : Nat → Nat} {Ex : (Nat → Prop) → State → Heap → Prop} (Wd : zzWC l D cA ad Ex) : zz_Th Ex RX11 61 299 65 0 := ⟨by decide +kernel, zz_at 554 (by decide +kernel), zz_at 124 (by decide +kernel), zz_atl [121, 576, 585, 589, 592, 594, 577, 578, 135, 136, 579, 584, 590, 610, 566, 611, 568, 612, 570, 580, 582, 572, 606, 607, 609, 572, 597, 598, 599, 600, 600, 601, 602, 603, 603, 604, 605, 606, 596, 555, 563, 564, 565, 567, 569, 571, 575, 574, 573] (by decide +kernel), by decide +kernel, by decide +kernel, "the kind has no such field", fun A U H hE => zzWC_str Wd (q := (RX11, 299, "the kind has no such field")) (by decide +kernel) hE⟩
set_option maxRecDepth 100000 in
theorem kv_X11_222_1 : zz_KV RX11 222 RX_1 2 yX10_read cX10_read 3 (some .int) := zz_ku (owner := "ReconcilerHall$View") (x := ⟨"ReconcilerHall$Controller", "read", "(II)I"⟩) (zz_atl [1345, 842, 843, 467, 109, 477] (by decide +kernel)) rfl (by decide +kernel)
set_option maxRecDepth 100000 in
theorem kv_X11_222_2 : zz_KV RX11 222 RX_2 2 yX10_read cX10_read 3 (some .int) := zz_ku (owner := "ReconcilerHall$View") (x := ⟨"ReconcilerHall$Controller", "read", "(II)I"⟩) (zz_atl [1345, 842, 844, 467, 109, 477] (by decide +kernel)) rfl (by decide +kernel)
set_option maxRecDepth 100000 in
theorem kv_X11_222_3 : zz_KV RX11 222 RX_3 2 yX10_read cX10_read 3 (some .int) := zz_ku (owner := "ReconcilerHall$View") (x := ⟨"ReconcilerHall$Controller", "read", "(II)I"⟩) (zz_atl [1345, 842, 845, 467, 109, 477] (by decide +kernel)) rfl (by decide +kernel)
set_option maxRecDepth 100000 in
theorem kv_X11_222_4 : zz_KV RX11 222 RX_4 2 yX10_read cX10_read 3 (some .int) := zz_ku (owner := "ReconcilerHall$View") (x := ⟨"ReconcilerHall$Controller", "read", "(II)I"⟩) (zz_atl [1345, 842, 846, 467, 109, 477] (by decide +kernel)) rfl (by decide +kernel)
set_option maxRecDepth 100000 in
theorem kv_X11_222_5 : zz_KV RX11 222 RX_5 2 yX10_read cX10_read 3 (some .int) := zz_ku (owner := "ReconcilerHall$View") (x := ⟨"ReconcilerHall$Controller", "read", "(II)I"⟩) (zz_atl [1345, 842, 847, 467, 109, 477] (by decide +kernel)) rfl (by decide +kernel)
set_option maxRecDepth 100000 in
theorem kv_X11_222_6 : zz_KV RX11 222 RX_6 2 yX10_read cX10_read 3 (some .int) := zz_ku (owner := "ReconcilerHall$View") (x := ⟨"ReconcilerHall$Controller", "read", "(II)I"⟩) (zz_atl [1345, 842, 848, 467, 109, 477] (by decide +kernel)) rfl (by decide +kernel)
set_option maxRecDepth 100000 in
theorem kv_X11_222_7 : zz_KV RX11 222 RX_7 2 yX10_read cX10_read 3 (some .int) := zz_ku (owner := "ReconcilerHall$View") (x := ⟨"ReconcilerHall$Controller", "read", "(II)I"⟩) (zz_atl [1345, 842, 849, 467, 109, 477] (by decide +kernel)) rfl (by decide +kernel)
set_option maxRecDepth 100000 in
theorem ff_X11_223 : zz_fw RX11 223 zzCl (zz_kf [1, 2, 3, 4, 5, 6, 7] 11) := zz_fw_of (List.forall_mem_cons.mpr ⟨⟨RX_1, zzT1, 12, "ReconcilerHall$Controller", zzY1, rfl, by decide, zzI1, zz_at 271 (by decide +kernel), Or.inl rfl, zzY1_ok, zzN1⟩, (List.forall_mem_cons.mpr ⟨⟨RX_2, zzT2, 12, "ReconcilerHall$Controller", zzY2, rfl, by decide, zzI2, zz_at 271 (by decide +kernel), Or.inl rfl, zzY2_ok, zzN2⟩, (List.forall_mem_cons.mpr ⟨⟨RX_3, zzT3, 12, "ReconcilerHall$Controller", zzY3, rfl, by decide, zzI3, zz_at 271 (by decide +kernel), Or.inl rfl, zzY3_ok, zzN3⟩, (List.forall_mem_cons.mpr ⟨⟨RX_4, zzT4, 12, "ReconcilerHall$Controller", zzY4, rfl, by decide, zzI4, zz_at 271 (by decide +kernel), Or.inl rfl, zzY4_ok, zzN4⟩, (List.forall_mem_cons.mpr ⟨⟨RX_5, zzT5, 12, "ReconcilerHall$Controller", zzY5, rfl, by decide, zzI5, zz_at 271 (by decide +kernel), Or.inl rfl, zzY5_ok, zzN5⟩, (List.forall_mem_cons.mpr ⟨⟨RX_6, zzT6, 13, "ReconcilerHall$Controller", zzY6, rfl, by decide, zzI6, zz_at 271 (by decide +kernel), Or.inl rfl, zzY6_ok, zzN6⟩, (List.forall_mem_cons.mpr ⟨⟨RX_7, zzT7, 15, "ReconcilerHall$Controller", zzY7, rfl, by decide, zzI7, zz_at 271 (by decide +kernel), Or.inl rfl, zzY7_ok, zzN7⟩, (fun _ h => absurd h List.not_mem_nil)⟩)⟩)⟩)⟩)⟩)⟩)⟩)
set_option maxRecDepth 100000 in
theorem ks_X11_226 : zz_KS RX11 226 1 yX11_isReader cX11_isReader 1 (some .boolean) := zz_ks (zz_atl [1353, 1354, 108, 1355] (by decide +kernel)) (by decide +kernel)
set_option maxRecDepth 100000 in
theorem th_X11_61_229 {l : Launch} {D : va_G} {cA : Nat → ClassId} {ad : Nat → Nat} {Ex : (Nat → Prop) → State → Heap → Prop} (Wd : zzWC l D cA ad Ex) : zz_Th Ex RX11 61 229 65 0 := ⟨by decide +kernel, zz_at 554 (by decide +kernel), zz_at 124 (by decide +kernel), zz_atl [121, 576, 585, 589, 592, 594, 577, 578, 135, 136, 579, 584, 590, 610, 566, 611, 568, 612, 570, 580, 582, 572, 606, 607, 609, 572, 597, 598, 599, 600, 600, 601, 602, 603, 603, 604, 605, 606, 596, 555, 563, 564, 565, 567, 569, 571, 575, 574, 573] (by decide +kernel), by decide +kernel, by decide +kernel, "no such reader or version", fun A U H hE => zzWC_str Wd (q := (RX11, 229, "no such reader or version")) (by decide +kernel) hE⟩
set_option maxRecDepth 100000 in
theorem ff_X11_231 : zz_fw RX11 231 zzCl (zz_kf [8] 8) := zz_fw_of (List.forall_mem_cons.mpr ⟨⟨RX_8, zzT8, 9, "ReconcilerHall$Store", zzY8, rfl, by decide, zzI8, zz_at 189 (by decide +kernel), Or.inl rfl, zzY8_ok, zzN8⟩, (fun _ h => absurd h List.not_mem_nil)⟩)
set_option maxRecDepth 100000 in
theorem th_X11_75_234 {l : Launch} {D : va_G} {cA : Nat → ClassId} {ad : Nat → Nat} {Ex : (Nat → Prop) → State → Heap → Prop} (Wd : zzWC l D cA ad Ex) : zz_Th Ex RX11 75 234 79 1 := ⟨by decide +kernel, zz_at 637 (by decide +kernel), zz_at 126 (by decide +kernel), zz_atl [121, 576, 585, 589, 592, 594, 577, 578, 135, 136, 579, 584, 590, 610, 566, 611, 568, 612, 570, 580, 582, 572, 606, 607, 609, 572, 648, 649, 650, 600, 600, 601, 602, 603, 603, 604, 605, 606, 647, 638, 640, 587, 641, 642, 643, 644, 575, 574, 645] (by decide +kernel), by decide +kernel, by decide +kernel, "some of these events were compacted", fun A U H hE => zzWC_str Wd (q := (RX11, 234, "some of these events were compacted")) (by decide +kernel) hE⟩
set_option maxRecDepth 100000 in
theorem ff_X11_47 : zz_fw RX11 47 zzCl (zz_kf [9] 2) := zz_fw_of (List.forall_mem_cons.mpr ⟨⟨RX_9, zzT9, 5, "ReconcilerHall", zzY9, rfl, by decide, zzI9, zz_at 422 (by decide +kernel), Or.inl rfl, zzY9_ok, zzN9⟩, (fun _ h => absurd h List.not_mem_nil)⟩)
set_option maxRecDepth 100000 in
theorem th_X11_61_236 {l : Launch} {D : va_G} {cA : Nat → ClassId} {ad : Nat → Nat} {Ex : (Nat → Prop) → State → Heap → Prop} (Wd : zzWC l D cA ad Ex) : zz_Th Ex RX11 61 236 65 0 := ⟨by decide +kernel, zz_at 554 (by decide +kernel), zz_at 124 (by decide +kernel), zz_atl [121, 576, 585, 589, 592, 594, 577, 578, 135, 136, 579, 584, 590, 610, 566, 611, 568, 612, 570, 580, 582, 572, 606, 607, 609, 572, 597, 598, 599, 600, 600, 601, 602, 603, 603, 604, 605, 606, 596, 555, 563, 564, 565, 567, 569, 571, 575, 574, 573] (by decide +kernel), by decide +kernel, by decide +kernel, "no such reader", fun A U H hE => zzWC_str Wd (q := (RX11, 236, "no such reader")) (by decide +kernel) hE⟩
set_option maxRecDepth 100000 in
theorem th_X11_75_238 {l : Launch} {D : va_G} {cA : Nat → ClassId} {ad : Nat → Nat} {Ex : (Nat → Prop) → State → Heap → Prop} (Wd : zzWC l D cA ad Ex) : zz_Th Ex RX11 75 238 79 1 := ⟨by decide +kernel, zz_at 637 (by decide +kernel), zz_at 126 (by decide +kernel), zz_atl [121, 576, 585, 589, 592, 594, 577, 578, 135, 136, 579, 584, 590, 610, 566, 611, 568, 612, 570, 580, 582, 572, 606, 607, 609, 572, 648, 649, 650, 600, 600, 601, 602, 603, 603, 604, 605, 606, 647, 638, 640, 587, 641, 642, 643, 644, 575, 574, 645] (by decide +kernel), by decide +kernel, by decide +kernel, "the next event was compacted", fun A U H hE => zzWC_str Wd (q := (RX11, 238, "the next event was compacted")) (by decide +kernel) hE⟩
set_option maxRecDepth 100000 in
theorem kv_X11_240_8 : zz_KV RX11 240 RX_8 1 yX10_objectAt cX10_objectAt 2 (some .int) := zz_ku (owner := "ReconcilerHall$View") (x := ⟨"ReconcilerHall$Store", "objectAt", "(I)I"⟩) (zz_atl [1367, 1368, 1369, 875, 109, 876] (by decide +kernel)) rfl (by decide +kernel)
set_option maxRecDepth 100000 in
theorem th_X11_61_246 {l : Launch} {D : va_G} {cA : Nat → ClassId} {ad : Nat → Nat} {Ex : (Nat → Prop) → State → Heap → Prop} (Wd : zzWC l D cA ad Ex) : zz_Th Ex RX11 61 246 65 0 := ⟨by decide +kernel, zz_at 554 (by decide +kernel), zz_at 124 (by decide +kernel), zz_atl [121, 576, 585, 589, 592, 594, 577, 578, 135, 136, 579, 584, 590, 610, 566, 611, 568, 612, 570, 580, 582, 572, 606, 607, 609, 572, 597, 598, 599, 600, 600, 601, 602, 603, 603, 604, 605, 606, 596, 555, 563, 564, 565, 567, 569, 571, 575, 574, 573] (by decide +kernel), by decide +kernel, by decide +kernel, "no such version", fun A U H hE => zzWC_str Wd (q := (RX11, 246, "no such version")) (by decide +kernel) hE⟩
set_option maxRecDepth 100000 in
theorem fp_8_8 : zz_fp zzCl (zz_kf [8] 8) false := zz_fp_of (List.forall_mem_cons.mpr ⟨⟨(RX_8, zzT8, 9), rfl, rfl, by decide +kernel⟩, (fun _ h => absurd h List.not_mem_nil)⟩)
set_option maxRecDepth 100000 in
theorem th_X11_61_251 {l : Launch} {D : va_G} {cA : Nat → ClassId} {ad : Nat → Nat} {Ex : (Nat → Prop) → State → Heap → Prop} (Wd : zzWC l D cA ad Ex) : zz_Th Ex RX11 61 251 65 0 := ⟨by decide +kernel, zz_at 554 (by decide +kernel), zz_at 124 (by decide +kernel), zz_atl [121, 576, 585, 589, 592, 594, 577, 578, 135, 136, 579, 584, 590, 610, 566, 611, 568, 612, 570, 580, 582, 572, 606, 607, 609, 572, 597, 598, 599, 600, 600, 601, 602, 603, 603, 604, 605, 606, 596, 555, 563, 564, 565, 567, 569, 571, 575, 574, 573] (by decide +kernel), by decide +kernel, by decide +kernel, "no such number of ticks", fun A U H hE => zzWC_str Wd (q := (RX11, 251, "no such number of ticks")) (by decide +kernel) hE⟩
set_option maxRecDepth 100000 in
theorem ff_X11_253 : zz_fw RX11 253 zzCl (zz_kf [8] 7) := zz_fw_of (List.forall_mem_cons.mpr ⟨⟨RX_8, zzT8, 9, "ReconcilerHall$Store", zzY8, rfl, by decide, zzI8, zz_at 187 (by decide +kernel), Or.inl rfl, zzY8_ok, zzN8⟩, (fun _ h => absurd h List.not_mem_nil)⟩)
set_option maxRecDepth 100000 in
theorem th_X11_75_256 {l : Launch} {D : va_G} {cA : Nat → ClassId} {ad : Nat → Nat} {Ex : (Nat → Prop) → State → Heap → Prop} (Wd : zzWC l D cA ad Ex) : zz_Th Ex RX11 75 256 79 1 := ⟨by decide +kernel, zz_at 637 (by decide +kernel), zz_at 126 (by decide +kernel), zz_atl [121, 576, 585, 589, 592, 594, 577, 578, 135, 136, 579, 584, 590, 610, 566, 611, 568, 612, 570, 580, 582, 572, 606, 607, 609, 572, 648, 649, 650, 600, 600, 601, 602, 603, 603, 604, 605, 606, 647, 638, 640, 587, 641, 642, 643, 644, 575, 574, 645] (by decide +kernel), by decide +kernel, by decide +kernel, "there are no such ticks", fun A U H hE => zzWC_str Wd (q := (RX11, 256, "there are no such ticks")) (by decide +kernel) hE⟩
set_option maxRecDepth 100000 in
theorem kv_X11_258_8 : zz_KV RX11 258 RX_8 0 yX9_beginTick cX9_beginTick 2 none ∧ zz_KX RX11 258 RX_8 0 yX9_beginTick cX9_beginTick 2 none := zz_kv (zz_atl [1395, 1396, 1397, 110, 1398] (by decide +kernel)) (by decide +kernel)
set_option maxRecDepth 100000 in
theorem th_X11_75_261 {l : Launch} {D : va_G} {cA : Nat → ClassId} {ad : Nat → Nat} {Ex : (Nat → Prop) → State → Heap → Prop} (Wd : zzWC l D cA ad Ex) : zz_Th Ex RX11 75 261 79 1 := ⟨by decide +kernel, zz_at 637 (by decide +kernel), zz_at 126 (by decide +kernel), zz_atl [121, 576, 585, 589, 592, 594, 577, 578, 135, 136, 579, 584, 590, 610, 566, 611, 568, 612, 570, 580, 582, 572, 606, 607, 609, 572, 648, 649, 650, 600, 600, 601, 602, 603, 603, 604, 605, 606, 647, 638, 640, 587, 641, 642, 643, 644, 575, 574, 645] (by decide +kernel), by decide +kernel, by decide +kernel, "the node is gone or the log is full", fun A U H hE => zzWC_str Wd (q := (RX11, 261, "the node is gone or the log is full")) (by decide +kernel) hE⟩
set_option maxRecDepth 100000 in
theorem ff_X11_263 : zz_fw RX11 263 zzCl (zz_kf [8] 5) := zz_fw_of (List.forall_mem_cons.mpr ⟨⟨RX_8, zzT8, 9, "ReconcilerHall$Store", zzY8, rfl, by decide, zzI8, zz_at 182 (by decide +kernel), Or.inl rfl, zzY8_ok, zzN8⟩, (fun _ h => absurd h List.not_mem_nil)⟩)
set_option maxRecDepth 100000 in
theorem th_X11_61_266 {l : Launch} {D : va_G} {cA : Nat → ClassId} {ad : Nat → Nat} {Ex : (Nat → Prop) → State → Heap → Prop} (Wd : zzWC l D cA ad Ex) : zz_Th Ex RX11 61 266 65 0 := ⟨by decide +kernel, zz_at 554 (by decide +kernel), zz_at 124 (by decide +kernel), zz_atl [121, 576, 585, 589, 592, 594, 577, 578, 135, 136, 579, 584, 590, 610, 566, 611, 568, 612, 570, 580, 582, 572, 606, 607, 609, 572, 597, 598, 599, 600, 600, 601, 602, 603, 603, 604, 605, 606, 596, 555, 563, 564, 565, 567, 569, 571, 575, 574, 573] (by decide +kernel), by decide +kernel, by decide +kernel, "no such template", fun A U H hE => zzWC_str Wd (q := (RX11, 266, "no such template")) (by decide +kernel) hE⟩
set_option maxRecDepth 100000 in
theorem ff_X11_51 : zz_fw RX11 51 zzCl (zz_kf [9] 3) := zz_fw_of (List.forall_mem_cons.mpr ⟨⟨RX_9, zzT9, 5, "ReconcilerHall", zzY9, rfl, by decide, zzI9, zz_at 423 (by decide +kernel), Or.inl rfl, zzY9_ok, zzN9⟩, (fun _ h => absurd h List.not_mem_nil)⟩)
set_option maxRecDepth 100000 in
theorem ff_X11_268 : zz_fw RX11 268 zzCl (zz_kf [9] 4) := zz_fw_of (List.forall_mem_cons.mpr ⟨⟨RX_9, zzT9, 5, "ReconcilerHall", zzY9, rfl, by decide, zzI9, zz_at 424 (by decide +kernel), Or.inl rfl, zzY9_ok, zzN9⟩, (fun _ h => absurd h List.not_mem_nil)⟩)
set_option maxRecDepth 100000 in
theorem fp_9_4 : zz_fp zzCl (zz_kf [9] 4) true := zz_fp_of (List.forall_mem_cons.mpr ⟨⟨(RX_9, zzT9, 5), rfl, rfl, by decide +kernel⟩, (fun _ h => absurd h List.not_mem_nil)⟩)
set_option maxRecDepth 100000 in
theorem kv_X11_272_9 : zz_KV RX11 272 RX_9 0 yX11_syncHub cX11_syncHub 2 none ∧ zz_KX RX11 272 RX_9 0 yX11_syncHub cX11_syncHub 2 none := zz_kv (zz_atl [456, 458, 1, 108, 459] (by decide +kernel)) (by decide +kernel)
set_option maxRecDepth 100000 in
theorem kv_X11_275_8 : zz_KV RX11 275 RX_8 1 yX10_newSetOf cX10_newSetOf 4 (some .int) := zz_ku (owner := "ReconcilerHall$View") (x := ⟨"ReconcilerHall$Store", "newSetOf", "(I)I"⟩) (zz_atl [1501, 1502, 1503, 1057, 109, 1058] (by decide +kernel)) rfl (by decide +kernel)
set_option maxRecDepth 100000 in
theorem kv_X11_278_8 : zz_KV RX11 278 RX_8 1 yX10_countRunning cX10_countRunning 4 (some .int) := zz_ku (owner := "ReconcilerHall$View") (x := ⟨"ReconcilerHall$Store", "countRunning", "(I)I"⟩) (zz_atl [1504, 1505, 1506, 1110, 109, 1111] (by decide +kernel)) rfl (by decide +kernel)
set_option maxRecDepth 100000 in
theorem kv_X11_281_8 : zz_KV RX11 281 RX_8 1 yX10_countRunningOfAll cX10_countRunningOfAll 4 (some .int) := zz_ku (owner := "ReconcilerHall$View") (x := ⟨"ReconcilerHall$Store", "countRunningOfAll", "(I)I"⟩) (zz_atl [1507, 1508, 1509, 1116, 109, 1117] (by decide +kernel)) rfl (by decide +kernel)
set_option maxRecDepth 100000 in
theorem th_X11_208_284 {l : Launch} {D : va_G} {cA : Nat → ClassId} {ad : Nat → Nat} {Ex : (Nat → Prop) → State → Heap → Prop} (Wd : zzWC l D cA ad Ex) : zz_Th Ex RX11 208 284 212 2 := ⟨by decide +kernel, zz_at 665 (by decide +kernel), zz_at 127 (by decide +kernel), zz_atl [121, 576, 585, 589, 592, 594, 577, 578, 135, 136, 579, 584, 590, 610, 566, 611, 568, 612, 570, 580, 582, 572, 606, 607, 609, 572, 676, 677, 678, 600, 600, 601, 602, 603, 603, 604, 605, 606, 675, 666, 668, 588, 669, 670, 671, 672, 575, 574, 673] (by decide +kernel), by decide +kernel, by decide +kernel, "no such event", fun A U H hE => zzWC_str Wd (q := (RX11, 284, "no such event")) (by decide +kernel) hE⟩
set_option maxRecDepth 100000 in
theorem ff_X12_134 : zz_fw RX12 134 zzCl (zz_kf [10] 49) := zz_fw_of (List.forall_mem_cons.mpr ⟨⟨RX_10, zzT10, 50, "ReconcilerHallModel", zzY10, rfl, by decide, zzI10, zz_at 1576 (by decide +kernel), Or.inl rfl, zzY10_ok, zzN10⟩, (fun _ h => absurd h List.not_mem_nil)⟩)
set_option maxRecDepth 100000 in
theorem fp_10_49 : zz_fp zzCl (zz_kf [10] 49) false := zz_fp_of (List.forall_mem_cons.mpr ⟨⟨(RX_10, zzT10, 50), rfl, rfl, by decide +kernel⟩, (fun _ h => absurd h List.not_mem_nil)⟩)
set_option maxRecDepth 100000 in
theorem ff_X12_137 : zz_fw RX12 137 zzCl (zz_kf [10] 5) := zz_fw_of (List.forall_mem_cons.mpr ⟨⟨RX_10, zzT10, 50, "ReconcilerHallModel", zzY10, rfl, by decide, zzI10, zz_at 1532 (by decide +kernel), Or.inl rfl, zzY10_ok, zzN10⟩, (fun _ h => absurd h List.not_mem_nil)⟩)
set_option maxRecDepth 100000 in
theorem ks_X12_140 : zz_KS RX12 140 3 yX12_isIn cX12_isIn 3 (some .boolean) := zz_ks (zz_atl [1690, 1691, 120, 1692] (by decide +kernel)) (by decide +kernel)
set_option maxRecDepth 100000 in
theorem ff_X12_22 : zz_fw RX12 22 zzCl (zz_kf [10] 4) := zz_fw_of (List.forall_mem_cons.mpr ⟨⟨RX_10, zzT10, 50, "ReconcilerHallModel", zzY10, rfl, by decide, zzI10, zz_at 1531 (by decide +kernel), Or.inl rfl, zzY10_ok, zzN10⟩, (fun _ h => absurd h List.not_mem_nil)⟩)
set_option maxRecDepth 100000 in
theorem ff_X12_16 : zz_fw RX12 16 zzCl (zz_kf [10] 2) := zz_fw_of (List.forall_mem_cons.mpr ⟨⟨RX_10, zzT10, 50, "ReconcilerHallModel", zzY10, rfl, by decide, zzI10, zz_at 1529 (by decide +kernel), Or.inl rfl, zzY10_ok, zzN10⟩, (fun _ h => absurd h List.not_mem_nil)⟩)
set_option maxRecDepth 100000 in
theorem ff_X12_19 : zz_fw RX12 19 zzCl (zz_kf [10] 3) := zz_fw_of (List.forall_mem_cons.mpr ⟨⟨RX_10, zzT10, 50, "ReconcilerHallModel", zzY10, rfl, by decide, zzI10, zz_at 1530 (by decide +kernel), Or.inl rfl, zzY10_ok, zzN10⟩, (fun _ h => absurd h List.not_mem_nil)⟩)
set_option maxRecDepth 100000 in
theorem ff_X12_7 : zz_fw RX12 7 zzCl (zz_kf [10] 0) := zz_fw_of (List.forall_mem_cons.mpr ⟨⟨RX_10, zzT10, 50, "ReconcilerHallModel", zzY10, rfl, by decide, zzI10, zz_at 1527 (by decide +kernel), Or.inl rfl, zzY10_ok, zzN10⟩, (fun _ h => absurd h List.not_mem_nil)⟩)
set_option maxRecDepth 100000 in
theorem ff_X12_13 : zz_fw RX12 13 zzCl (zz_kf [10] 1) := zz_fw_of (List.forall_mem_cons.mpr ⟨⟨RX_10, zzT10, 50, "ReconcilerHallModel", zzY10, rfl, by decide, zzI10, zz_at 1528 (by decide +kernel), Or.inl rfl, zzY10_ok, zzN10⟩, (fun _ h => absurd h List.not_mem_nil)⟩)
set_option maxRecDepth 100000 in
theorem kv_X12_146_10 : zz_KV RX12 146 RX_10 2 yX12_get cX12_get 4 (some .int) ∧ zz_KX RX12 146 RX_10 2 yX12_get cX12_get 4 (some .int) := zz_kv (zz_atl [1713, 1715, 40, 120, 1716] (by decide +kernel)) (by decide +kernel)
set_option maxRecDepth 100000 in
theorem kv_X12_150_10 : zz_KV RX12 150 RX_10 3 yX12_with cX12_with 7 (some .long) ∧ zz_KX RX12 150 RX_10 3 yX12_with cX12_with 7 (some .long) := zz_kv (zz_atl [1704, 1706, 38, 120, 1707] (by decide +kernel)) (by decide +kernel)
set_option maxRecDepth 100000 in
theorem ff_X12_154 : zz_fw RX12 154 zzCl (zz_kf [10] 14) := zz_fw_of (List.forall_mem_cons.mpr ⟨⟨RX_10, zzT10, 50, "ReconcilerHallModel", zzY10, rfl, by decide, zzI10, zz_at 1541 (by decide +kernel), Or.inl rfl, zzY10_ok, zzN10⟩, (fun _ h => absurd h List.not_mem_nil)⟩)
set_option maxRecDepth 100000 in
theorem fp_10_14 : zz_fp zzCl (zz_kf [10] 14) false := zz_fp_of (List.forall_mem_cons.mpr ⟨⟨(RX_10, zzT10, 50), rfl, rfl, by decide +kernel⟩, (fun _ h => absurd h List.not_mem_nil)⟩)
set_option maxRecDepth 100000 in
theorem ff_X12_28 : zz_fw RX12 28 zzCl (zz_kf [10] 7) := zz_fw_of (List.forall_mem_cons.mpr ⟨⟨RX_10, zzT10, 50, "ReconcilerHallModel", zzY10, rfl, by decide, zzI10, zz_at 1534 (by decide +kernel), Or.inl rfl, zzY10_ok, zzN10⟩, (fun _ h => absurd h List.not_mem_nil)⟩)
set_option maxRecDepth 100000 in
theorem ff_X12_32 : zz_fw RX12 32 zzCl (zz_kf [10] 8) := zz_fw_of (List.forall_mem_cons.mpr ⟨⟨RX_10, zzT10, 50, "ReconcilerHallModel", zzY10, rfl, by decide, zzI10, zz_at 1535 (by decide +kernel), Or.inl rfl, zzY10_ok, zzN10⟩, (fun _ h => absurd h List.not_mem_nil)⟩)
set_option maxRecDepth 100000 in
theorem ff_X12_35 : zz_fw RX12 35 zzCl (zz_kf [10] 9) := zz_fw_of (List.forall_mem_cons.mpr ⟨⟨RX_10, zzT10, 50, "ReconcilerHallModel", zzY10, rfl, by decide, zzI10, zz_at 1536 (by decide +kernel), Or.inl rfl, zzY10_ok, zzN10⟩, (fun _ h => absurd h List.not_mem_nil)⟩)
set_option maxRecDepth 100000 in
theorem ff_X12_50 : zz_fw RX12 50 zzCl (zz_kf [10] 16) := zz_fw_of (List.forall_mem_cons.mpr ⟨⟨RX_10, zzT10, 50, "ReconcilerHallModel", zzY10, rfl, by decide, zzI10, zz_at 1543 (by decide +kernel), Or.inl rfl, zzY10_ok, zzN10⟩, (fun _ h => absurd h List.not_mem_nil)⟩)
set_option maxRecDepth 100000 in
theorem ff_X12_53 : zz_fw RX12 53 zzCl (zz_kf [10] 17) := zz_fw_of (List.forall_mem_cons.mpr ⟨⟨RX_10, zzT10, 50, "ReconcilerHallModel", zzY10, rfl, by decide, zzI10, zz_at 1544 (by decide +kernel), Or.inl rfl, zzY10_ok, zzN10⟩, (fun _ h => absurd h List.not_mem_nil)⟩)
set_option maxRecDepth 100000 in
theorem ff_X12_56 : zz_fw RX12 56 zzCl (zz_kf [10] 18) := zz_fw_of (List.forall_mem_cons.mpr ⟨⟨RX_10, zzT10, 50, "ReconcilerHallModel", zzY10, rfl, by decide, zzI10, zz_at 1545 (by decide +kernel), Or.inl rfl, zzY10_ok, zzN10⟩, (fun _ h => absurd h List.not_mem_nil)⟩)
set_option maxRecDepth 100000 in
theorem kv_X12_157_10 : zz_KV RX12 157 RX_10 0 yX12_isFull cX12_isFull 1 (some .boolean) ∧ zz_KX RX12 157 RX_10 0 yX12_isFull cX12_isFull 1 (some .boolean) := zz_kv (zz_atl [1717, 1719, 41, 120, 1720] (by decide +kernel)) (by decide +kernel)
set_option maxRecDepth 100000 in
theorem kv_X12_161_10 : zz_KV RX12 161 RX_10 3 yX12_logs cX12_logs 6 none ∧ zz_KX RX12 161 RX_10 3 yX12_logs cX12_logs 6 none := zz_kv (zz_atl [1725, 1727, 43, 120, 1728] (by decide +kernel)) (by decide +kernel)
set_option maxRecDepth 100000 in
theorem ff_X12_25 : zz_fw RX12 25 zzCl (zz_kf [10] 6) := zz_fw_of (List.forall_mem_cons.mpr ⟨⟨RX_10, zzT10, 50, "ReconcilerHallModel", zzY10, rfl, by decide, zzI10, zz_at 1533 (by decide +kernel), Or.inl rfl, zzY10_ok, zzN10⟩, (fun _ h => absurd h List.not_mem_nil)⟩)
set_option maxRecDepth 100000 in
theorem ff_X12_165 : zz_fw RX12 165 zzCl (zz_kf [10] 19) := zz_fw_of (List.forall_mem_cons.mpr ⟨⟨RX_10, zzT10, 50, "ReconcilerHallModel", zzY10, rfl, by decide, zzI10, zz_at 1546 (by decide +kernel), Or.inl rfl, zzY10_ok, zzN10⟩, (fun _ h => absurd h List.not_mem_nil)⟩)
set_option maxRecDepth 100000 in
theorem ff_X12_59 : zz_fw RX12 59 zzCl (zz_kf [10] 20) := zz_fw_of (List.forall_mem_cons.mpr ⟨⟨RX_10, zzT10, 50, "ReconcilerHallModel", zzY10, rfl, by decide, zzI10, zz_at 1547 (by decide +kernel), Or.inl rfl, zzY10_ok, zzN10⟩, (fun _ h => absurd h List.not_mem_nil)⟩)
set_option maxRecDepth 100000 in
theorem ff_X12_62 : zz_fw RX12 62 zzCl (zz_kf [10] 21) := zz_fw_of (List.forall_mem_cons.mpr ⟨⟨RX_10, zzT10, 50, "ReconcilerHallModel", zzY10, rfl, by decide, zzI10, zz_at 1548 (by decide +kernel), Or.inl rfl, zzY10_ok, zzN10⟩, (fun _ h => absurd h List.not_mem_nil)⟩)
set_option maxRecDepth 100000 in
theorem ff_X12_65 : zz_fw RX12 65 zzCl (zz_kf [10] 22) := zz_fw_of (List.forall_mem_cons.mpr ⟨⟨RX_10, zzT10, 50, "ReconcilerHallModel", zzY10, rfl, by decide, zzI10, zz_at 1549 (by decide +kernel), Or.inl rfl, zzY10_ok, zzN10⟩, (fun _ h => absurd h List.not_mem_nil)⟩)
set_option maxRecDepth 100000 in
theorem ff_X12_68 : zz_fw RX12 68 zzCl (zz_kf [10] 23) := zz_fw_of (List.forall_mem_cons.mpr ⟨⟨RX_10, zzT10, 50, "ReconcilerHallModel", zzY10, rfl, by decide, zzI10, zz_at 1550 (by decide +kernel), Or.inl rfl, zzY10_ok, zzN10⟩, (fun _ h => absurd h List.not_mem_nil)⟩)
set_option maxRecDepth 100000 in
theorem ff_X12_71 : zz_fw RX12 71 zzCl (zz_kf [10] 24) := zz_fw_of (List.forall_mem_cons.mpr ⟨⟨RX_10, zzT10, 50, "ReconcilerHallModel", zzY10, rfl, by decide, zzI10, zz_at 1551 (by decide +kernel), Or.inl rfl, zzY10_ok, zzN10⟩, (fun _ h => absurd h List.not_mem_nil)⟩)
set_option maxRecDepth 100000 in
theorem ff_X12_74 : zz_fw RX12 74 zzCl (zz_kf [10] 25) := zz_fw_of (List.forall_mem_cons.mpr ⟨⟨RX_10, zzT10, 50, "ReconcilerHallModel", zzY10, rfl, by decide, zzI10, zz_at 1552 (by decide +kernel), Or.inl rfl, zzY10_ok, zzN10⟩, (fun _ h => absurd h List.not_mem_nil)⟩)
set_option maxRecDepth 100000 in
theorem ff_X12_168 : zz_fw RX12 168 zzCl (zz_kf [10] 31) := zz_fw_of (List.forall_mem_cons.mpr ⟨⟨RX_10, zzT10, 50, "ReconcilerHallModel", zzY10, rfl, by decide, zzI10, zz_at 1558 (by decide +kernel), Or.inl rfl, zzY10_ok, zzN10⟩, (fun _ h => absurd h List.not_mem_nil)⟩)
set_option maxRecDepth 100000 in
theorem fp_10_31 : zz_fp zzCl (zz_kf [10] 31) true := zz_fp_of (List.forall_mem_cons.mpr ⟨⟨(RX_10, zzT10, 50), rfl, rfl, by decide +kernel⟩, (fun _ h => absurd h List.not_mem_nil)⟩)
set_option maxRecDepth 100000 in
theorem ff_X12_172 : zz_fw RX12 172 zzCl (zz_kf [10] 26) := zz_fw_of (List.forall_mem_cons.mpr ⟨⟨RX_10, zzT10, 50, "ReconcilerHallModel", zzY10, rfl, by decide, zzI10, zz_at 1553 (by decide +kernel), Or.inl rfl, zzY10_ok, zzN10⟩, (fun _ h => absurd h List.not_mem_nil)⟩)
set_option maxRecDepth 100000 in
theorem ff_X12_77 : zz_fw RX12 77 zzCl (zz_kf [10] 27) := zz_fw_of (List.forall_mem_cons.mpr ⟨⟨RX_10, zzT10, 50, "ReconcilerHallModel", zzY10, rfl, by decide, zzI10, zz_at 1554 (by decide +kernel), Or.inl rfl, zzY10_ok, zzN10⟩, (fun _ h => absurd h List.not_mem_nil)⟩)
set_option maxRecDepth 100000 in
theorem ff_X12_80 : zz_fw RX12 80 zzCl (zz_kf [10] 28) := zz_fw_of (List.forall_mem_cons.mpr ⟨⟨RX_10, zzT10, 50, "ReconcilerHallModel", zzY10, rfl, by decide, zzI10, zz_at 1555 (by decide +kernel), Or.inl rfl, zzY10_ok, zzN10⟩, (fun _ h => absurd h List.not_mem_nil)⟩)
set_option maxRecDepth 100000 in
theorem ff_X12_83 : zz_fw RX12 83 zzCl (zz_kf [10] 29) := zz_fw_of (List.forall_mem_cons.mpr ⟨⟨RX_10, zzT10, 50, "ReconcilerHallModel", zzY10, rfl, by decide, zzI10, zz_at 1556 (by decide +kernel), Or.inl rfl, zzY10_ok, zzN10⟩, (fun _ h => absurd h List.not_mem_nil)⟩)
set_option maxRecDepth 100000 in
theorem kv_X12_175_10 : zz_KV RX12 175 RX_10 2 yX12_admitted cX12_admitted 12 (some .long) ∧ zz_KX RX12 175 RX_10 2 yX12_admitted cX12_admitted 12 (some .long) := zz_kv (zz_atl [1709, 1711, 39, 120, 1712] (by decide +kernel)) (by decide +kernel)
set_option maxRecDepth 100000 in
theorem kv_X12_179_10 : zz_KV RX12 179 RX_10 1 yX12_living cX12_living 4 (some .int) ∧ zz_KX RX12 179 RX_10 1 yX12_living cX12_living 4 (some .int) := zz_kv (zz_atl [1721, 1723, 42, 120, 1724] (by decide +kernel)) (by decide +kernel)
set_option maxRecDepth 100000 in
theorem ff_X12_86 : zz_fw RX12 86 zzCl (zz_kf [10] 30) := zz_fw_of (List.forall_mem_cons.mpr ⟨⟨RX_10, zzT10, 50, "ReconcilerHallModel", zzY10, rfl, by decide, zzI10, zz_at 1557 (by decide +kernel), Or.inl rfl, zzY10_ok, zzN10⟩, (fun _ h => absurd h List.not_mem_nil)⟩)
set_option maxRecDepth 100000 in
theorem ff_X12_41 : zz_fw RX12 41 zzCl (zz_kf [10] 11) := zz_fw_of (List.forall_mem_cons.mpr ⟨⟨RX_10, zzT10, 50, "ReconcilerHallModel", zzY10, rfl, by decide, zzI10, zz_at 1538 (by decide +kernel), Or.inl rfl, zzY10_ok, zzN10⟩, (fun _ h => absurd h List.not_mem_nil)⟩)
set_option maxRecDepth 100000 in
theorem ff_X12_182 : zz_fw RX12 182 zzCl (zz_kf [10] 48) := zz_fw_of (List.forall_mem_cons.mpr ⟨⟨RX_10, zzT10, 50, "ReconcilerHallModel", zzY10, rfl, by decide, zzI10, zz_at 1575 (by decide +kernel), Or.inl rfl, zzY10_ok, zzN10⟩, (fun _ h => absurd h List.not_mem_nil)⟩)
set_option maxRecDepth 100000 in
theorem ff_X12_38 : zz_fw RX12 38 zzCl (zz_kf [10] 10) := zz_fw_of (List.forall_mem_cons.mpr ⟨⟨RX_10, zzT10, 50, "ReconcilerHallModel", zzY10, rfl, by decide, zzI10, zz_at 1537 (by decide +kernel), Or.inl rfl, zzY10_ok, zzN10⟩, (fun _ h => absurd h List.not_mem_nil)⟩)
set_option maxRecDepth 100000 in
theorem fp_10_5 : zz_fp zzCl (zz_kf [10] 5) false := zz_fp_of (List.forall_mem_cons.mpr ⟨⟨(RX_10, zzT10, 50), rfl, rfl, by decide +kernel⟩, (fun _ h => absurd h List.not_mem_nil)⟩)
set_option maxRecDepth 100000 in
theorem kv_X12_185_10 : zz_KV RX12 185 RX_10 4 yX12_puts cX12_puts 8 (some .boolean) ∧ zz_KX RX12 185 RX_10 4 yX12_puts cX12_puts 8 (some .boolean) := zz_kv (zz_atl [1753, 1755, 49, 120, 1756] (by decide +kernel)) (by decide +kernel)
set_option maxRecDepth 100000 in
theorem kv_X12_189_10 : zz_KV RX12 189 RX_10 1 yX12_gone cX12_gone 3 (some .long) ∧ zz_KX RX12 189 RX_10 1 yX12_gone cX12_gone 3 (some .long) := zz_kv (zz_atl [1769, 1771, 51, 120, 1772] (by decide +kernel)) (by decide +kernel)
set_option maxRecDepth 100000 in
theorem ff_X12_97 : zz_fw RX12 97 zzCl (zz_kf [10] 34) := zz_fw_of (List.forall_mem_cons.mpr ⟨⟨RX_10, zzT10, 50, "ReconcilerHallModel", zzY10, rfl, by decide, zzI10, zz_at 1561 (by decide +kernel), Or.inl rfl, zzY10_ok, zzN10⟩, (fun _ h => absurd h List.not_mem_nil)⟩)
set_option maxRecDepth 100000 in
theorem ff_X12_193 : zz_fw RX12 193 zzCl (zz_kf [10] 42) := zz_fw_of (List.forall_mem_cons.mpr ⟨⟨RX_10, zzT10, 50, "ReconcilerHallModel", zzY10, rfl, by decide, zzI10, zz_at 1569 (by decide +kernel), Or.inl rfl, zzY10_ok, zzN10⟩, (fun _ h => absurd h List.not_mem_nil)⟩)
set_option maxRecDepth 100000 in
theorem ff_X12_93 : zz_fw RX12 93 zzCl (zz_kf [10] 33) := zz_fw_of (List.forall_mem_cons.mpr ⟨⟨RX_10, zzT10, 50, "ReconcilerHallModel", zzY10, rfl, by decide, zzI10, zz_at 1560 (by decide +kernel), Or.inl rfl, zzY10_ok, zzN10⟩, (fun _ h => absurd h List.not_mem_nil)⟩)
set_option maxRecDepth 100000 in
theorem kv_X12_196_10 : zz_KV RX12 196 RX_10 1 yX12_view cX12_view 2 (some .long) ∧ zz_KX RX12 196 RX_10 1 yX12_view cX12_view 2 (some .long) := zz_kv (zz_atl [1848, 1850, 63, 120, 1851] (by decide +kernel)) (by decide +kernel)
set_option maxRecDepth 100000 in
theorem kv_X12_200_10 : zz_KV RX12 200 RX_10 1 yX12_isSeen cX12_isSeen 2 (some .boolean) ∧ zz_KX RX12 200 RX_10 1 yX12_isSeen cX12_isSeen 2 (some .boolean) := zz_kv (zz_atl [1840, 1842, 61, 120, 1843] (by decide +kernel)) (by decide +kernel)
set_option maxRecDepth 100000 in
theorem kv_X12_204_10 : zz_KV RX12 204 RX_10 2 yX12_viewed cX12_viewed 3 (some .int) ∧ zz_KX RX12 204 RX_10 2 yX12_viewed cX12_viewed 3 (some .int) := zz_kv (zz_atl [1844, 1846, 62, 120, 1847] (by decide +kernel)) (by decide +kernel)
set_option maxRecDepth 100000 in
theorem ff_X12_106 : zz_fw RX12 106 zzCl (zz_kf [10] 37) := zz_fw_of (List.forall_mem_cons.mpr ⟨⟨RX_10, zzT10, 50, "ReconcilerHallModel", zzY10, rfl, by decide, zzI10, zz_at 1564 (by decide +kernel), Or.inl rfl, zzY10_ok, zzN10⟩, (fun _ h => absurd h List.not_mem_nil)⟩)
set_option maxRecDepth 100000 in
theorem ff_X12_109 : zz_fw RX12 109 zzCl (zz_kf [10] 38) := zz_fw_of (List.forall_mem_cons.mpr ⟨⟨RX_10, zzT10, 50, "ReconcilerHallModel", zzY10, rfl, by decide, zzI10, zz_at 1565 (by decide +kernel), Or.inl rfl, zzY10_ok, zzN10⟩, (fun _ h => absurd h List.not_mem_nil)⟩)
set_option maxRecDepth 100000 in
theorem ff_X12_115 : zz_fw RX12 115 zzCl (zz_kf [10] 40) := zz_fw_of (List.forall_mem_cons.mpr ⟨⟨RX_10, zzT10, 50, "ReconcilerHallModel", zzY10, rfl, by decide, zzI10, zz_at 1567 (by decide +kernel), Or.inl rfl, zzY10_ok, zzN10⟩, (fun _ h => absurd h List.not_mem_nil)⟩)
set_option maxRecDepth 100000 in
theorem kv_X12_208_10 : zz_KV RX12 208 RX_10 1 yX12_comes cX12_comes 4 (some .int) ∧ zz_KX RX12 208 RX_10 1 yX12_comes cX12_comes 4 (some .int) := zz_kv (zz_atl [1816, 1818, 55, 120, 1819] (by decide +kernel)) (by decide +kernel)
set_option maxRecDepth 100000 in
theorem kv_X12_211_10 : zz_KV RX12 211 RX_10 1 yX12_isGoneThere cX12_isGoneThere 2 (some .boolean) ∧ zz_KX RX12 211 RX_10 1 yX12_isGoneThere cX12_isGoneThere 2 (some .boolean) := zz_kv (zz_atl [1836, 1838, 60, 120, 1839] (by decide +kernel)) (by decide +kernel)
set_option maxRecDepth 100000 in
theorem kv_X12_214_10 : zz_KV RX12 214 RX_10 1 yX12_ownerIn cX12_ownerIn 3 (some .int) ∧ zz_KX RX12 214 RX_10 1 yX12_ownerIn cX12_ownerIn 3 (some .int) := zz_kv (zz_atl [1824, 1826, 57, 120, 1827] (by decide +kernel)) (by decide +kernel)
set_option maxRecDepth 100000 in
theorem kv_X12_218_10 : zz_KV RX12 218 RX_10 2 yX12_comeAll cX12_comeAll 11 (some .int) ∧ zz_KX RX12 218 RX_10 2 yX12_comeAll cX12_comeAll 11 (some .int) := zz_kv (zz_atl [1832, 1834, 59, 120, 1835] (by decide +kernel)) (by decide +kernel)
set_option maxRecDepth 100000 in
theorem kv_X12_221_10 : zz_KV RX12 221 RX_10 0 yX12_ownKind cX12_ownKind 1 (some .int) ∧ zz_KX RX12 221 RX_10 0 yX12_ownKind cX12_ownKind 1 (some .int) := zz_kv (zz_atl [1812, 1814, 54, 120, 1815] (by decide +kernel)) (by decide +kernel)
set_option maxRecDepth 100000 in
theorem kv_X12_225_10 : zz_KV RX12 225 RX_10 1 yX12_ownersOwner cX12_ownersOwner 2 (some .int) ∧ zz_KX RX12 225 RX_10 1 yX12_ownersOwner cX12_ownersOwner 2 (some .int) := zz_kv (zz_atl [1852, 1854, 64, 120, 1855] (by decide +kernel)) (by decide +kernel)
set_option maxRecDepth 100000 in
theorem kv_X12_228_10 : zz_KV RX12 228 RX_10 2 yX12_comesIf cX12_comesIf 3 (some .int) ∧ zz_KX RX12 228 RX_10 2 yX12_comesIf cX12_comesIf 3 (some .int) := zz_kv (zz_atl [1856, 1858, 65, 120, 1859] (by decide +kernel)) (by decide +kernel)
set_option maxRecDepth 100000 in
theorem ff_X12_90 : zz_fw RX12 90 zzCl (zz_kf [10] 32) := zz_fw_of (List.forall_mem_cons.mpr ⟨⟨RX_10, zzT10, 50, "ReconcilerHallModel", zzY10, rfl, by decide, zzI10, zz_at 1559 (by decide +kernel), Or.inl rfl, zzY10_ok, zzN10⟩, (fun _ h => absurd h List.not_mem_nil)⟩)
set_option maxRecDepth 100000 in
theorem ff_X12_100 : zz_fw RX12 100 zzCl (zz_kf [10] 35) := zz_fw_of (List.forall_mem_cons.mpr ⟨⟨RX_10, zzT10, 50, "ReconcilerHallModel", zzY10, rfl, by decide, zzI10, zz_at 1562 (by decide +kernel), Or.inl rfl, zzY10_ok, zzN10⟩, (fun _ h => absurd h List.not_mem_nil)⟩)
set_option maxRecDepth 100000 in
theorem ff_X12_103 : zz_fw RX12 103 zzCl (zz_kf [10] 36) := zz_fw_of (List.forall_mem_cons.mpr ⟨⟨RX_10, zzT10, 50, "ReconcilerHallModel", zzY10, rfl, by decide, zzI10, zz_at 1563 (by decide +kernel), Or.inl rfl, zzY10_ok, zzN10⟩, (fun _ h => absurd h List.not_mem_nil)⟩)
set_option maxRecDepth 100000 in
theorem kv_X12_231_10 : zz_KV RX12 231 RX_10 2 yX12_keys cX12_keys 5 (some .int) ∧ zz_KX RX12 231 RX_10 2 yX12_keys cX12_keys 5 (some .int) := zz_kv (zz_atl [1828, 1830, 58, 120, 1831] (by decide +kernel)) (by decide +kernel)
set_option maxRecDepth 100000 in
theorem ff_X12_234 : zz_fw RX12 234 zzCl (zz_kf [10] 15) := zz_fw_of (List.forall_mem_cons.mpr ⟨⟨RX_10, zzT10, 50, "ReconcilerHallModel", zzY10, rfl, by decide, zzI10, zz_at 1542 (by decide +kernel), Or.inl rfl, zzY10_ok, zzN10⟩, (fun _ h => absurd h List.not_mem_nil)⟩)
set_option maxRecDepth 100000 in
theorem kv_X12_237_10 : zz_KV RX12 237 RX_10 0 yX12_lists cX12_lists 5 (some .int) ∧ zz_KX RX12 237 RX_10 0 yX12_lists cX12_lists 5 (some .int) := zz_kv (zz_atl [1808, 1810, 53, 120, 1811] (by decide +kernel)) (by decide +kernel)
set_option maxRecDepth 100000 in
theorem kv_X12_240_10 : zz_KV RX12 240 RX_10 0 yX12_seesOne cX12_seesOne 5 (some .int) ∧ zz_KX RX12 240 RX_10 0 yX12_seesOne cX12_seesOne 5 (some .int) := zz_kv (zz_atl [1820, 1822, 56, 120, 1823] (by decide +kernel)) (by decide +kernel)
set_option maxRecDepth 100000 in
theorem ff_X12_118 : zz_fw RX12 118 zzCl (zz_kf [10] 41) := zz_fw_of (List.forall_mem_cons.mpr ⟨⟨RX_10, zzT10, 50, "ReconcilerHallModel", zzY10, rfl, by decide, zzI10, zz_at 1568 (by decide +kernel), Or.inl rfl, zzY10_ok, zzN10⟩, (fun _ h => absurd h List.not_mem_nil)⟩)
set_option maxRecDepth 100000 in
theorem ff_X12_243 : zz_fw RX12 243 zzCl (zz_kf [10] 43) := zz_fw_of (List.forall_mem_cons.mpr ⟨⟨RX_10, zzT10, 50, "ReconcilerHallModel", zzY10, rfl, by decide, zzI10, zz_at 1570 (by decide +kernel), Or.inl rfl, zzY10_ok, zzN10⟩, (fun _ h => absurd h List.not_mem_nil)⟩)
set_option maxRecDepth 100000 in
theorem kv_X12_246_10 : zz_KV RX12 246 RX_10 1 yX12_isCurrent cX12_isCurrent 2 (some .boolean) ∧ zz_KX RX12 246 RX_10 1 yX12_isCurrent cX12_isCurrent 2 (some .boolean) := zz_kv (zz_atl [1920, 1922, 80, 120, 1923] (by decide +kernel)) (by decide +kernel)
set_option maxRecDepth 100000 in
theorem kv_X12_249_10 : zz_KV RX12 249 RX_10 1 yX12_wrote cX12_wrote 2 none ∧ zz_KX RX12 249 RX_10 1 yX12_wrote cX12_wrote 2 none := zz_kv (zz_atl [1912, 1914, 78, 120, 1915] (by decide +kernel)) (by decide +kernel)
set_option maxRecDepth 100000 in
theorem kv_X12_253_10 : zz_KV RX12 253 RX_10 4 yX12_applies cX12_applies 8 (some .boolean) ∧ zz_KX RX12 253 RX_10 4 yX12_applies cX12_applies 8 (some .boolean) := zz_kv (zz_atl [1749, 1751, 48, 120, 1752] (by decide +kernel)) (by decide +kernel)
set_option maxRecDepth 100000 in
theorem kv_X12_257_10 : zz_KV RX12 257 RX_10 3 yX12_deleted cX12_deleted 6 (some .long) ∧ zz_KX RX12 257 RX_10 3 yX12_deleted cX12_deleted 6 (some .long) := zz_kv (zz_atl [1765, 1767, 50, 120, 1768] (by decide +kernel)) (by decide +kernel)
set_option maxRecDepth 100000 in
theorem kv_X12_261_10 : zz_KV RX12 261 RX_10 3 yX12_writesIt cX12_writesIt 8 (some .boolean) ∧ zz_KX RX12 261 RX_10 3 yX12_writesIt cX12_writesIt 8 (some .boolean) := zz_kv (zz_atl [1948, 1950, 87, 120, 1951] (by decide +kernel)) (by decide +kernel)
set_option maxRecDepth 100000 in
theorem kv_X12_265_10 : zz_KV RX12 265 RX_10 4 yX12_makes cX12_makes 9 (some .int) ∧ zz_KX RX12 265 RX_10 4 yX12_makes cX12_makes 9 (some .int) := zz_kv (zz_atl [1700, 1702, 37, 120, 1703] (by decide +kernel)) (by decide +kernel)
set_option maxRecDepth 100000 in
theorem kv_X12_269_10 : zz_KV RX12 269 RX_10 2 yX12_stays cX12_stays 3 (some .boolean) ∧ zz_KX RX12 269 RX_10 2 yX12_stays cX12_stays 3 (some .boolean) := zz_kv (zz_atl [1880, 1882, 70, 120, 1883] (by decide +kernel)) (by decide +kernel)
set_option maxRecDepth 100000 in
theorem kv_X12_273_10 : zz_KV RX12 273 RX_10 3 yX12_isOwned cX12_isOwned 4 (some .boolean) ∧ zz_KX RX12 273 RX_10 3 yX12_isOwned cX12_isOwned 4 (some .boolean) := zz_kv (zz_atl [1904, 1906, 76, 120, 1907] (by decide +kernel)) (by decide +kernel)
set_option maxRecDepth 100000 in
theorem ks_X12_276 : zz_KS RX12 276 1 yX12_need cX12_need 1 (some .int) := zz_ks (zz_atl [1972, 1973, 120, 1974] (by decide +kernel)) (by decide +kernel)
set_option maxRecDepth 100000 in
theorem kv_X12_279_10 : zz_KV RX12 279 RX_10 2 yX12_pods cX12_pods 5 (some .int) ∧ zz_KX RX12 279 RX_10 2 yX12_pods cX12_pods 5 (some .int) := zz_kv (zz_atl [1928, 1930, 82, 120, 1931] (by decide +kernel)) (by decide +kernel)
set_option maxRecDepth 100000 in
theorem kv_X12_282_10 : zz_KV RX12 282 RX_10 3 yX12_setOf cX12_setOf 8 (some .int) ∧ zz_KX RX12 282 RX_10 3 yX12_setOf cX12_setOf 8 (some .int) := zz_kv (zz_atl [1900, 1902, 75, 120, 1903] (by decide +kernel)) (by decide +kernel)
set_option maxRecDepth 100000 in
theorem kv_X12_286_10 : zz_KV RX12 286 RX_10 3 yX12_makesOne cX12_makesOne 6 (some .boolean) ∧ zz_KX RX12 286 RX_10 3 yX12_makesOne cX12_makesOne 6 (some .boolean) := zz_kv (zz_atl [1908, 1910, 77, 120, 1911] (by decide +kernel)) (by decide +kernel)
set_option maxRecDepth 100000 in
theorem kv_X12_289_10 : zz_KV RX12 289 RX_10 2 yX12_wants cX12_wants 5 (some .boolean) ∧ zz_KX RX12 289 RX_10 2 yX12_wants cX12_wants 5 (some .boolean) := zz_kv (zz_atl [1916, 1918, 79, 120, 1919] (by decide +kernel)) (by decide +kernel)
set_option maxRecDepth 100000 in
theorem kv_X12_292_10 : zz_KV RX12 292 RX_10 2 yX12_together cX12_together 5 (some .int) ∧ zz_KX RX12 292 RX_10 2 yX12_together cX12_together 5 (some .int) := zz_kv (zz_atl [1924, 1926, 81, 120, 1927] (by decide +kernel)) (by decide +kernel)
set_option maxRecDepth 100000 in
theorem kv_X12_296_10 : zz_KV RX12 296 RX_10 2 yX12_lessens cX12_lessens 5 (some .boolean) ∧ zz_KX RX12 296 RX_10 2 yX12_lessens cX12_lessens 5 (some .boolean) := zz_kv (zz_atl [1932, 1934, 83, 120, 1935] (by decide +kernel)) (by decide +kernel)
set_option maxRecDepth 100000 in
theorem kv_X12_299_10 : zz_KV RX12 299 RX_10 2 yX12_podOf cX12_podOf 9 (some .int) ∧ zz_KX RX12 299 RX_10 2 yX12_podOf cX12_podOf 9 (some .int) := zz_kv (zz_atl [1940, 1942, 85, 120, 1943] (by decide +kernel)) (by decide +kernel)
set_option maxRecDepth 100000 in
theorem kv_X12_302_10 : zz_KV RX12 302 RX_10 1 yX12_deletes cX12_deletes 2 (some .boolean) ∧ zz_KX RX12 302 RX_10 1 yX12_deletes cX12_deletes 2 (some .boolean) := zz_kv (zz_atl [1944, 1946, 86, 120, 1947] (by decide +kernel)) (by decide +kernel)
set_option maxRecDepth 100000 in
theorem kv_X12_305_10 : zz_KV RX12 305 RX_10 1 yX12_isUsable cX12_isUsable 2 (some .boolean) ∧ zz_KX RX12 305 RX_10 1 yX12_isUsable cX12_isUsable 2 (some .boolean) := zz_kv (zz_atl [1964, 1966, 91, 120, 1967] (by decide +kernel)) (by decide +kernel)
set_option maxRecDepth 100000 in
theorem kv_X12_308_10 : zz_KV RX12 308 RX_10 2 yX12_used cX12_used 7 (some .int) ∧ zz_KX RX12 308 RX_10 2 yX12_used cX12_used 7 (some .int) := zz_kv (zz_atl [1968, 1970, 92, 120, 1971] (by decide +kernel)) (by decide +kernel)
set_option maxRecDepth 100000 in
theorem kv_X12_311_10 : zz_KV RX12 311 RX_10 2 yX12_zoned cX12_zoned 7 (some .int) ∧ zz_KX RX12 311 RX_10 2 yX12_zoned cX12_zoned 7 (some .int) := zz_kv (zz_atl [1975, 1977, 93, 120, 1978] (by decide +kernel)) (by decide +kernel)
set_option maxRecDepth 100000 in
theorem ff_X12_121 : zz_fw RX12 121 zzCl (zz_kf [10] 44) := zz_fw_of (List.forall_mem_cons.mpr ⟨⟨RX_10, zzT10, 50, "ReconcilerHallModel", zzY10, rfl, by decide, zzI10, zz_at 1571 (by decide +kernel), Or.inl rfl, zzY10_ok, zzN10⟩, (fun _ h => absurd h List.not_mem_nil)⟩)
set_option maxRecDepth 100000 in
theorem kv_X12_314_10 : zz_KV RX12 314 RX_10 2 yX12_laysVictims cX12_laysVictims 9 (some .int) ∧ zz_KX RX12 314 RX_10 2 yX12_laysVictims cX12_laysVictims 9 (some .int) := zz_kv (zz_atl [1983, 1985, 95, 120, 1986] (by decide +kernel)) (by decide +kernel)
set_option maxRecDepth 100000 in
theorem ff_X12_124 : zz_fw RX12 124 zzCl (zz_kf [10] 45) := zz_fw_of (List.forall_mem_cons.mpr ⟨⟨RX_10, zzT10, 50, "ReconcilerHallModel", zzY10, rfl, by decide, zzI10, zz_at 1572 (by decide +kernel), Or.inl rfl, zzY10_ok, zzN10⟩, (fun _ h => absurd h List.not_mem_nil)⟩)
set_option maxRecDepth 100000 in
theorem kv_X12_317_10 : zz_KV RX12 317 RX_10 1 yX12_nodeFor cX12_nodeFor 9 (some .int) ∧ zz_KX RX12 317 RX_10 1 yX12_nodeFor cX12_nodeFor 9 (some .int) := zz_kv (zz_atl [1960, 1962, 90, 120, 1963] (by decide +kernel)) (by decide +kernel)
set_option maxRecDepth 100000 in
theorem kv_X12_320_10 : zz_KV RX12 320 RX_10 1 yX12_preempts cX12_preempts 6 none ∧ zz_KX RX12 320 RX_10 1 yX12_preempts cX12_preempts 6 none := zz_kv (zz_atl [1979, 1981, 94, 120, 1982] (by decide +kernel)) (by decide +kernel)
set_option maxRecDepth 100000 in
theorem kv_X12_323_10 : zz_KV RX12 323 RX_10 0 yX12_owned cX12_owned 3 (some .int) ∧ zz_KX RX12 323 RX_10 0 yX12_owned cX12_owned 3 (some .int) := zz_kv (zz_atl [1995, 1997, 98, 120, 1998] (by decide +kernel)) (by decide +kernel)
set_option maxRecDepth 100000 in
theorem kv_X12_326_10 : zz_KV RX12 326 RX_10 1 yX12_passesOn cX12_passesOn 8 (some .boolean) ∧ zz_KX RX12 326 RX_10 1 yX12_passesOn cX12_passesOn 8 (some .boolean) := zz_kv (zz_atl [1999, 2001, 99, 120, 2002] (by decide +kernel)) (by decide +kernel)
set_option maxRecDepth 100000 in
theorem kv_X12_329_10 : zz_KV RX12 329 RX_10 0 yX12_shouldWant cX12_shouldWant 3 (some .int) ∧ zz_KX RX12 329 RX_10 0 yX12_shouldWant cX12_shouldWant 3 (some .int) := zz_kv (zz_atl [1884, 1886, 71, 120, 1887] (by decide +kernel)) (by decide +kernel)
set_option maxRecDepth 100000 in
theorem ff_X12_47 : zz_fw RX12 47 zzCl (zz_kf [10] 13) := zz_fw_of (List.forall_mem_cons.mpr ⟨⟨RX_10, zzT10, 50, "ReconcilerHallModel", zzY10, rfl, by decide, zzI10, zz_at 1540 (by decide +kernel), Or.inl rfl, zzY10_ok, zzN10⟩, (fun _ h => absurd h List.not_mem_nil)⟩)
set_option maxRecDepth 100000 in
theorem kv_X12_332_10 : zz_KV RX12 332 RX_10 0 yX12_deploys cX12_deploys 5 (some .boolean) ∧ zz_KX RX12 332 RX_10 0 yX12_deploys cX12_deploys 5 (some .boolean) := zz_kv (zz_atl [1896, 1898, 74, 120, 1899] (by decide +kernel)) (by decide +kernel)
set_option maxRecDepth 100000 in
theorem kv_X12_335_10 : zz_KV RX12 335 RX_10 0 yX12_replicates cX12_replicates 4 (some .boolean) ∧ zz_KX RX12 335 RX_10 0 yX12_replicates cX12_replicates 4 (some .boolean) := zz_kv (zz_atl [1936, 1938, 84, 120, 1939] (by decide +kernel)) (by decide +kernel)
set_option maxRecDepth 100000 in
theorem kv_X12_338_10 : zz_KV RX12 338 RX_10 0 yX12_doesJobs cX12_doesJobs 3 (some .boolean) ∧ zz_KX RX12 338 RX_10 0 yX12_doesJobs cX12_doesJobs 3 (some .boolean) := zz_kv (zz_atl [1952, 1954, 88, 120, 1955] (by decide +kernel)) (by decide +kernel)
set_option maxRecDepth 100000 in
theorem kv_X12_341_10 : zz_KV RX12 341 RX_10 0 yX12_schedules cX12_schedules 2 (some .boolean) ∧ zz_KX RX12 341 RX_10 0 yX12_schedules cX12_schedules 2 (some .boolean) := zz_kv (zz_atl [1956, 1958, 89, 120, 1959] (by decide +kernel)) (by decide +kernel)
set_option maxRecDepth 100000 in
theorem kv_X12_344_10 : zz_KV RX12 344 RX_10 0 yX12_runs cX12_runs 7 (some .boolean) ∧ zz_KX RX12 344 RX_10 0 yX12_runs cX12_runs 7 (some .boolean) := zz_kv (zz_atl [1987, 1989, 96, 120, 1990] (by decide +kernel)) (by decide +kernel)
set_option maxRecDepth 100000 in
theorem kv_X12_347_10 : zz_KV RX12 347 RX_10 0 yX12_collects cX12_collects 4 (some .boolean) ∧ zz_KX RX12 347 RX_10 0 yX12_collects cX12_collects 4 (some .boolean) := zz_kv (zz_atl [1991, 1993, 97, 120, 1994] (by decide +kernel)) (by decide +kernel)
set_option maxRecDepth 100000 in
theorem kv_X12_350_10 : zz_KV RX12 350 RX_10 0 yX12_routes cX12_routes 5 (some .boolean) ∧ zz_KX RX12 350 RX_10 0 yX12_routes cX12_routes 5 (some .boolean) := zz_kv (zz_atl [2003, 2005, 100, 120, 2006] (by decide +kernel)) (by decide +kernel)
set_option maxRecDepth 100000 in
theorem kv_X12_353_10 : zz_KV RX12 353 RX_10 0 yX12_scales cX12_scales 3 (some .boolean) ∧ zz_KX RX12 353 RX_10 0 yX12_scales cX12_scales 3 (some .boolean) := zz_kv (zz_atl [2007, 2009, 101, 120, 2010] (by decide +kernel)) (by decide +kernel)
set_option maxRecDepth 100000 in
theorem fp_10_43 : zz_fp zzCl (zz_kf [10] 43) false := zz_fp_of (List.forall_mem_cons.mpr ⟨⟨(RX_10, zzT10, 50), rfl, rfl, by decide +kernel⟩, (fun _ h => absurd h List.not_mem_nil)⟩)
set_option maxRecDepth 100000 in
theorem kv_X12_356_10 : zz_KV RX12 356 RX_10 1 yX12_takesOut cX12_takesOut 3 none ∧ zz_KX RX12 356 RX_10 1 yX12_takesOut cX12_takesOut 3 none := zz_kv (zz_atl [1872, 1874, 68, 120, 1875] (by decide +kernel)) (by decide +kernel)
set_option maxRecDepth 100000 in
theorem kv_X12_359_10 : zz_KV RX12 359 RX_10 0 yX12_isEarly cX12_isEarly 2 (some .boolean) ∧ zz_KX RX12 359 RX_10 0 yX12_isEarly cX12_isEarly 2 (some .boolean) := zz_kv (zz_atl [1876, 1878, 69, 120, 1879] (by decide +kernel)) (by decide +kernel)
set_option maxRecDepth 100000 in
theorem kv_X12_362_10 : zz_KV RX12 362 RX_10 0 yX12_putsBack cX12_putsBack 1 none ∧ zz_KX RX12 362 RX_10 0 yX12_putsBack cX12_putsBack 1 none := zz_kv (zz_atl [1888, 1890, 72, 120, 1891] (by decide +kernel)) (by decide +kernel)
set_option maxRecDepth 100000 in
theorem kv_X12_365_10 : zz_KV RX12 365 RX_10 0 yX12_does cX12_does 1 (some .boolean) ∧ zz_KX RX12 365 RX_10 0 yX12_does cX12_does 1 (some .boolean) := zz_kv (zz_atl [1892, 1894, 73, 120, 1895] (by decide +kernel)) (by decide +kernel)
set_option maxRecDepth 100000 in
theorem ff_X12_112 : zz_fw RX12 112 zzCl (zz_kf [10] 39) := zz_fw_of (List.forall_mem_cons.mpr ⟨⟨RX_10, zzT10, 50, "ReconcilerHallModel", zzY10, rfl, by decide, zzI10, zz_at 1566 (by decide +kernel), Or.inl rfl, zzY10_ok, zzN10⟩, (fun _ h => absurd h List.not_mem_nil)⟩)
set_option maxRecDepth 100000 in
theorem ks_X12_368 : zz_KS RX12 368 1 yX12_isManager cX12_isManager 1 (some .boolean) := zz_ks (zz_atl [1687, 1688, 120, 1689] (by decide +kernel)) (by decide +kernel)
set_option maxRecDepth 100000 in
theorem ks_X12_371 : zz_KS RX12 371 1 yX12_isKind cX12_isKind 1 (some .boolean) := zz_ks (zz_atl [1693, 1694, 120, 1695] (by decide +kernel)) (by decide +kernel)
set_option maxRecDepth 100000 in
theorem kv_X12_374_10 : zz_KV RX12 374 RX_10 1 yX12_goes cX12_goes 2 (some .boolean) ∧ zz_KX RX12 374 RX_10 1 yX12_goes cX12_goes 2 (some .boolean) := zz_kv (zz_atl [1696, 1698, 36, 120, 1699] (by decide +kernel)) (by decide +kernel)
set_option maxRecDepth 100000 in
theorem kv_X12_377_10 : zz_KV RX12 377 RX_10 1 yX12_isObject cX12_isObject 2 (some .boolean) ∧ zz_KX RX12 377 RX_10 1 yX12_isObject cX12_isObject 2 (some .boolean) := zz_kv (zz_atl [1733, 1735, 44, 120, 1736] (by decide +kernel)) (by decide +kernel)
set_option maxRecDepth 100000 in
theorem kv_X12_380_10 : zz_KV RX12 380 RX_10 2 yX12_hasField cX12_hasField 3 (some .boolean) ∧ zz_KX RX12 380 RX_10 2 yX12_hasField cX12_hasField 3 (some .boolean) := zz_kv (zz_atl [1737, 1739, 45, 120, 1740] (by decide +kernel)) (by decide +kernel)
set_option maxRecDepth 100000 in
theorem kv_X12_383_10 : zz_KV RX12 383 RX_10 2 yX12_isValue cX12_isValue 3 (some .boolean) ∧ zz_KX RX12 383 RX_10 2 yX12_isValue cX12_isValue 3 (some .boolean) := zz_kv (zz_atl [1741, 1743, 46, 120, 1744] (by decide +kernel)) (by decide +kernel)
set_option maxRecDepth 100000 in
theorem kv_X12_386_10 : zz_KV RX12 386 RX_10 1 yX12_isGone cX12_isGone 2 (some .boolean) ∧ zz_KX RX12 386 RX_10 1 yX12_isGone cX12_isGone 2 (some .boolean) := zz_kv (zz_atl [1745, 1747, 47, 120, 1748] (by decide +kernel)) (by decide +kernel)
set_option maxRecDepth 100000 in
theorem fp_10_19 : zz_fp zzCl (zz_kf [10] 19) false := zz_fp_of (List.forall_mem_cons.mpr ⟨⟨(RX_10, zzT10, 50), rfl, rfl, by decide +kernel⟩, (fun _ h => absurd h List.not_mem_nil)⟩)
set_option maxRecDepth 100000 in
theorem fp_10_26 : zz_fp zzCl (zz_kf [10] 26) false := zz_fp_of (List.forall_mem_cons.mpr ⟨⟨(RX_10, zzT10, 50), rfl, rfl, by decide +kernel⟩, (fun _ h => absurd h List.not_mem_nil)⟩)
set_option maxRecDepth 100000 in
theorem fp_10_30 : zz_fp zzCl (zz_kf [10] 30) false := zz_fp_of (List.forall_mem_cons.mpr ⟨⟨(RX_10, zzT10, 50), rfl, rfl, by decide +kernel⟩, (fun _ h => absurd h List.not_mem_nil)⟩)
set_option maxRecDepth 100000 in
theorem ks_X12_389 : zz_KS RX12 389 1 yX12_isController cX12_isController 1 (some .boolean) := zz_ks (zz_atl [1801, 1802, 120, 1803] (by decide +kernel)) (by decide +kernel)
set_option maxRecDepth 100000 in
theorem fp_10_42 : zz_fp zzCl (zz_kf [10] 42) false := zz_fp_of (List.forall_mem_cons.mpr ⟨⟨(RX_10, zzT10, 50), rfl, rfl, by decide +kernel⟩, (fun _ h => absurd h List.not_mem_nil)⟩)
set_option maxRecDepth 100000 in
theorem kv_X12_392_10 : zz_KV RX12 392 RX_10 1 yX12_sees cX12_sees 4 (some .int) ∧ zz_KX RX12 392 RX_10 1 yX12_sees cX12_sees 4 (some .int) := zz_kv (zz_atl [1804, 1806, 52, 120, 1807] (by decide +kernel)) (by decide +kernel)
set_option maxRecDepth 100000 in
theorem kv_X12_395_10 : zz_KV RX12 395 RX_10 1 yX12_asks cX12_asks 2 (some .boolean) ∧ zz_KX RX12 395 RX_10 1 yX12_asks cX12_asks 2 (some .boolean) := zz_kv (zz_atl [1864, 1866, 66, 120, 1867] (by decide +kernel)) (by decide +kernel)
set_option maxRecDepth 100000 in
theorem kv_X12_398_10 : zz_KV RX12 398 RX_10 0 yX12_works cX12_works 3 (some .int) ∧ zz_KX RX12 398 RX_10 0 yX12_works cX12_works 3 (some .int) := zz_kv (zz_atl [1868, 1870, 67, 120, 1871] (by decide +kernel)) (by decide +kernel)
set_option maxRecDepth 100000 in
theorem ks_X12_401 : zz_KS RX12 401 1 yX12_isReader cX12_isReader 1 (some .boolean) := zz_ks (zz_atl [2039, 2040, 120, 2041] (by decide +kernel)) (by decide +kernel)
set_option maxRecDepth 100000 in
theorem ff_X12_127 : zz_fw RX12 127 zzCl (zz_kf [10] 46) := zz_fw_of (List.forall_mem_cons.mpr ⟨⟨RX_10, zzT10, 50, "ReconcilerHallModel", zzY10, rfl, by decide, zzI10, zz_at 1573 (by decide +kernel), Or.inl rfl, zzY10_ok, zzN10⟩, (fun _ h => absurd h List.not_mem_nil)⟩)
set_option maxRecDepth 100000 in
theorem fp_10_15 : zz_fp zzCl (zz_kf [10] 15) false := zz_fp_of (List.forall_mem_cons.mpr ⟨⟨(RX_10, zzT10, 50), rfl, rfl, by decide +kernel⟩, (fun _ h => absurd h List.not_mem_nil)⟩)
set_option maxRecDepth 100000 in
theorem fp_10_48 : zz_fp zzCl (zz_kf [10] 48) false := zz_fp_of (List.forall_mem_cons.mpr ⟨⟨(RX_10, zzT10, 50), rfl, rfl, by decide +kernel⟩, (fun _ h => absurd h List.not_mem_nil)⟩)
set_option maxRecDepth 100000 in
theorem ff_X12_44 : zz_fw RX12 44 zzCl (zz_kf [10] 12) := zz_fw_of (List.forall_mem_cons.mpr ⟨⟨RX_10, zzT10, 50, "ReconcilerHallModel", zzY10, rfl, by decide, zzI10, zz_at 1539 (by decide +kernel), Or.inl rfl, zzY10_ok, zzN10⟩, (fun _ h => absurd h List.not_mem_nil)⟩)
set_option maxRecDepth 100000 in
theorem ff_X12_404 : zz_fw RX12 404 zzCl (zz_kf [10] 47) := zz_fw_of (List.forall_mem_cons.mpr ⟨⟨RX_10, zzT10, 50, "ReconcilerHallModel", zzY10, rfl, by decide, zzI10, zz_at 1574 (by decide +kernel), Or.inl rfl, zzY10_ok, zzN10⟩, (fun _ h => absurd h List.not_mem_nil)⟩)
set_option maxRecDepth 100000 in
theorem fp_10_47 : zz_fp zzCl (zz_kf [10] 47) true := zz_fp_of (List.forall_mem_cons.mpr ⟨⟨(RX_10, zzT10, 50), rfl, rfl, by decide +kernel⟩, (fun _ h => absurd h List.not_mem_nil)⟩)
set_option maxRecDepth 100000 in
theorem kv_X12_407_10 : zz_KV RX12 407 RX_10 1 yX12_asksObject cX12_asksObject 2 (some .boolean) ∧ zz_KX RX12 407 RX_10 1 yX12_asksObject cX12_asksObject 2 (some .boolean) := zz_kv (zz_atl [2082, 2084, 102, 120, 2085] (by decide +kernel)) (by decide +kernel)
set_option maxRecDepth 100000 in
theorem kv_X12_410_10 : zz_KV RX12 410 RX_10 2 yX12_asksField cX12_asksField 3 (some .boolean) ∧ zz_KX RX12 410 RX_10 2 yX12_asksField cX12_asksField 3 (some .boolean) := zz_kv (zz_atl [2090, 2092, 103, 120, 2093] (by decide +kernel)) (by decide +kernel)
set_option maxRecDepth 100000 in
theorem kv_X12_413_10 : zz_KV RX12 413 RX_10 2 yX12_asksOf cX12_asksOf 3 (some .boolean) ∧ zz_KX RX12 413 RX_10 2 yX12_asksOf cX12_asksOf 3 (some .boolean) := zz_kv (zz_atl [2102, 2104, 104, 120, 2105] (by decide +kernel)) (by decide +kernel)
set_option maxRecDepth 100000 in
theorem ks_X12_416 : zz_KS RX12 416 2 yX12_isOf cX12_isOf 3 (some .boolean) := zz_ks (zz_atl [2134, 2135, 120, 2136] (by decide +kernel)) (by decide +kernel)
set_option maxRecDepth 100000 in
theorem kv_X12_420_10 : zz_KV RX12 420 RX_10 2 yX12_isSetOf cX12_isSetOf 3 (some .boolean) ∧ zz_KX RX12 420 RX_10 2 yX12_isSetOf cX12_isSetOf 3 (some .boolean) := zz_kv (zz_atl [2145, 2147, 106, 120, 2148] (by decide +kernel)) (by decide +kernel)
set_option maxRecDepth 100000 in
theorem kv_X12_423_10 : zz_KV RX12 423 RX_10 1 yX12_latestOf cX12_latestOf 5 (some .int) ∧ zz_KX RX12 423 RX_10 1 yX12_latestOf cX12_latestOf 5 (some .int) := zz_kv (zz_atl [2141, 2143, 105, 120, 2144] (by decide +kernel)) (by decide +kernel)
end

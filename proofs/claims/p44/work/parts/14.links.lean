section
theorem zz_at (i : Nat) {w : Cond} (h : (decide (zzTB[i]? = some w) && goodWord w) = true) : w ∈ zzG0 := by
  rw [Bool.and_eq_true] at h
  exact List.mem_filter.mpr ⟨List.mem_of_getElem? (of_decide_eq_true h.1), h.2⟩
def zz_allat : List Nat → List Cond → Bool
  | i :: ps, w :: ws => (decide (zzTB[i]? = some w) && goodWord w) && zz_allat ps ws
  | _, [] => true
  | [], _ :: _ => false
theorem zz_atl : ∀ (ps : List Nat) {ws : List Cond}, zz_allat ps ws = true → ∀ w ∈ ws, w ∈ zzG0
  | i :: ps, w :: ws, h, v, hv => by
    unfold zz_allat at h
    rw [Bool.and_eq_true] at h
    rcases List.mem_cons.mp hv with rfl | hv
    · exact zz_at i h.1
    · exact zz_atl ps h.2 v hv
  | _, [], _, _, hv => absurd hv List.not_mem_nil
  | [], _ :: _, h, _, _ => by cases h
set_option maxRecDepth 100000 in
theorem ff_X0_25 : zz_fw RX0 25 zzCl (zz_kf [0] 3) := zz_fw_of (List.forall_mem_cons.mpr ⟨⟨RX_0, zzT0, 6, "ReconcilerHall$Admission", zzY0, rfl, by decide, zzI0, zz_at 85 (by decide +kernel), Or.inl rfl, zzY0_ok, zzN0⟩, (fun _ h => absurd h List.not_mem_nil)⟩)
set_option maxRecDepth 100000 in
theorem ff_X0_11 : zz_fw RX0 11 zzCl (zz_kf [0] 0) := zz_fw_of (List.forall_mem_cons.mpr ⟨⟨RX_0, zzT0, 6, "ReconcilerHall$Admission", zzY0, rfl, by decide, zzI0, zz_at 82 (by decide +kernel), Or.inl rfl, zzY0_ok, zzN0⟩, (fun _ h => absurd h List.not_mem_nil)⟩)
set_option maxRecDepth 100000 in
theorem fp_0_3 : zz_fp zzCl (zz_kf [0] 3) false := zz_fp_of (List.forall_mem_cons.mpr ⟨⟨(RX_0, zzT0, 6), rfl, rfl, by decide +kernel⟩, (fun _ h => absurd h List.not_mem_nil)⟩)
set_option maxRecDepth 100000 in
theorem ff_X0_28 : zz_fw RX0 28 zzCl (zz_kf [0] 4) := zz_fw_of (List.forall_mem_cons.mpr ⟨⟨RX_0, zzT0, 6, "ReconcilerHall$Admission", zzY0, rfl, by decide, zzI0, zz_at 87 (by decide +kernel), Or.inl rfl, zzY0_ok, zzN0⟩, (fun _ h => absurd h List.not_mem_nil)⟩)
set_option maxRecDepth 100000 in
theorem ff_X0_15 : zz_fw RX0 15 zzCl (zz_kf [0] 1) := zz_fw_of (List.forall_mem_cons.mpr ⟨⟨RX_0, zzT0, 6, "ReconcilerHall$Admission", zzY0, rfl, by decide, zzI0, zz_at 83 (by decide +kernel), Or.inl rfl, zzY0_ok, zzN0⟩, (fun _ h => absurd h List.not_mem_nil)⟩)
set_option maxRecDepth 100000 in
theorem fp_0_4 : zz_fp zzCl (zz_kf [0] 4) false := zz_fp_of (List.forall_mem_cons.mpr ⟨⟨(RX_0, zzT0, 6), rfl, rfl, by decide +kernel⟩, (fun _ h => absurd h List.not_mem_nil)⟩)
set_option maxRecDepth 100000 in
theorem ff_X0_18 : zz_fw RX0 18 zzCl (zz_kf [0] 2) := zz_fw_of (List.forall_mem_cons.mpr ⟨⟨RX_0, zzT0, 6, "ReconcilerHall$Admission", zzY0, rfl, by decide, zzI0, zz_at 84 (by decide +kernel), Or.inl rfl, zzY0_ok, zzN0⟩, (fun _ h => absurd h List.not_mem_nil)⟩)
set_option maxRecDepth 100000 in
theorem kv_X0_37_0 : zz_KV RX0 37 RX_0 1 yX0_runRules cX0_runRules 5 none ∧ zz_KX RX0 37 RX_0 1 yX0_runRules cX0_runRules 5 none := zz_kv (zz_atl [585, 587, 7, 39, 588] (by decide +kernel)) (by decide +kernel)
set_option maxRecDepth 100000 in
theorem kv_X1_9_1 : zz_KV RX1 9 RX_1 1 yX2_enqueue cX2_enqueue 2 none := zz_ku (owner := "ReconcilerHall$Controller") (x := ⟨"ReconcilerHall$Collector", "enqueue", "(I)V"⟩) (zz_atl [821, 822, 824, 783, 40, 792] (by decide +kernel)) rfl (by decide +kernel)
set_option maxRecDepth 100000 in
theorem ff_X2_41 : zz_fw RX2 41 zzCl (zz_kf [1, 2, 3, 4, 5, 6, 7] 11) := zz_fw_of (List.forall_mem_cons.mpr ⟨⟨RX_1, zzT1, 12, "ReconcilerHall$Controller", zzY1, rfl, by decide, zzI1, zz_at 197 (by decide +kernel), Or.inl rfl, zzY1_ok, zzN1⟩, (List.forall_mem_cons.mpr ⟨⟨RX_2, zzT2, 12, "ReconcilerHall$Controller", zzY2, rfl, by decide, zzI2, zz_at 197 (by decide +kernel), Or.inl rfl, zzY2_ok, zzN2⟩, (List.forall_mem_cons.mpr ⟨⟨RX_3, zzT3, 12, "ReconcilerHall$Controller", zzY3, rfl, by decide, zzI3, zz_at 197 (by decide +kernel), Or.inl rfl, zzY3_ok, zzN3⟩, (List.forall_mem_cons.mpr ⟨⟨RX_4, zzT4, 12, "ReconcilerHall$Controller", zzY4, rfl, by decide, zzI4, zz_at 197 (by decide +kernel), Or.inl rfl, zzY4_ok, zzN4⟩, (List.forall_mem_cons.mpr ⟨⟨RX_5, zzT5, 12, "ReconcilerHall$Controller", zzY5, rfl, by decide, zzI5, zz_at 197 (by decide +kernel), Or.inl rfl, zzY5_ok, zzN5⟩, (List.forall_mem_cons.mpr ⟨⟨RX_6, zzT6, 13, "ReconcilerHall$Controller", zzY6, rfl, by decide, zzI6, zz_at 197 (by decide +kernel), Or.inl rfl, zzY6_ok, zzN6⟩, (List.forall_mem_cons.mpr ⟨⟨RX_7, zzT7, 15, "ReconcilerHall$Controller", zzY7, rfl, by decide, zzI7, zz_at 197 (by decide +kernel), Or.inl rfl, zzY7_ok, zzN7⟩, (fun _ h => absurd h List.not_mem_nil)⟩)⟩)⟩)⟩)⟩)⟩)⟩)
set_option maxRecDepth 100000 in
theorem ff_X2_28 : zz_fw RX2 28 zzCl (zz_kf [1, 2, 3, 4, 5, 6, 7] 7) := zz_fw_of (List.forall_mem_cons.mpr ⟨⟨RX_1, zzT1, 12, "ReconcilerHall$Controller", zzY1, rfl, by decide, zzI1, zz_at 190 (by decide +kernel), Or.inl rfl, zzY1_ok, zzN1⟩, (List.forall_mem_cons.mpr ⟨⟨RX_2, zzT2, 12, "ReconcilerHall$Controller", zzY2, rfl, by decide, zzI2, zz_at 190 (by decide +kernel), Or.inl rfl, zzY2_ok, zzN2⟩, (List.forall_mem_cons.mpr ⟨⟨RX_3, zzT3, 12, "ReconcilerHall$Controller", zzY3, rfl, by decide, zzI3, zz_at 190 (by decide +kernel), Or.inl rfl, zzY3_ok, zzN3⟩, (List.forall_mem_cons.mpr ⟨⟨RX_4, zzT4, 12, "ReconcilerHall$Controller", zzY4, rfl, by decide, zzI4, zz_at 190 (by decide +kernel), Or.inl rfl, zzY4_ok, zzN4⟩, (List.forall_mem_cons.mpr ⟨⟨RX_5, zzT5, 12, "ReconcilerHall$Controller", zzY5, rfl, by decide, zzI5, zz_at 190 (by decide +kernel), Or.inl rfl, zzY5_ok, zzN5⟩, (List.forall_mem_cons.mpr ⟨⟨RX_6, zzT6, 13, "ReconcilerHall$Controller", zzY6, rfl, by decide, zzI6, zz_at 190 (by decide +kernel), Or.inl rfl, zzY6_ok, zzN6⟩, (List.forall_mem_cons.mpr ⟨⟨RX_7, zzT7, 15, "ReconcilerHall$Controller", zzY7, rfl, by decide, zzI7, zz_at 190 (by decide +kernel), Or.inl rfl, zzY7_ok, zzN7⟩, (fun _ h => absurd h List.not_mem_nil)⟩)⟩)⟩)⟩)⟩)⟩)⟩)
set_option maxRecDepth 100000 in
theorem ff_X2_25 : zz_fw RX2 25 zzCl (zz_kf [1, 2, 3, 4, 5, 6, 7] 6) := zz_fw_of (List.forall_mem_cons.mpr ⟨⟨RX_1, zzT1, 12, "ReconcilerHall$Controller", zzY1, rfl, by decide, zzI1, zz_at 189 (by decide +kernel), Or.inl rfl, zzY1_ok, zzN1⟩, (List.forall_mem_cons.mpr ⟨⟨RX_2, zzT2, 12, "ReconcilerHall$Controller", zzY2, rfl, by decide, zzI2, zz_at 189 (by decide +kernel), Or.inl rfl, zzY2_ok, zzN2⟩, (List.forall_mem_cons.mpr ⟨⟨RX_3, zzT3, 12, "ReconcilerHall$Controller", zzY3, rfl, by decide, zzI3, zz_at 189 (by decide +kernel), Or.inl rfl, zzY3_ok, zzN3⟩, (List.forall_mem_cons.mpr ⟨⟨RX_4, zzT4, 12, "ReconcilerHall$Controller", zzY4, rfl, by decide, zzI4, zz_at 189 (by decide +kernel), Or.inl rfl, zzY4_ok, zzN4⟩, (List.forall_mem_cons.mpr ⟨⟨RX_5, zzT5, 12, "ReconcilerHall$Controller", zzY5, rfl, by decide, zzI5, zz_at 189 (by decide +kernel), Or.inl rfl, zzY5_ok, zzN5⟩, (List.forall_mem_cons.mpr ⟨⟨RX_6, zzT6, 13, "ReconcilerHall$Controller", zzY6, rfl, by decide, zzI6, zz_at 189 (by decide +kernel), Or.inl rfl, zzY6_ok, zzN6⟩, (List.forall_mem_cons.mpr ⟨⟨RX_7, zzT7, 15, "ReconcilerHall$Controller", zzY7, rfl, by decide, zzI7, zz_at 189 (by decide +kernel), Or.inl rfl, zzY7_ok, zzN7⟩, (fun _ h => absurd h List.not_mem_nil)⟩)⟩)⟩)⟩)⟩)⟩)⟩)
set_option maxRecDepth 100000 in
theorem fp_1_2_3_4_5_6_7_11 : zz_fp zzCl (zz_kf [1, 2, 3, 4, 5, 6, 7] 11) false := zz_fp_of (List.forall_mem_cons.mpr ⟨⟨(RX_1, zzT1, 12), rfl, rfl, by decide +kernel⟩, (List.forall_mem_cons.mpr ⟨⟨(RX_2, zzT2, 12), rfl, rfl, by decide +kernel⟩, (List.forall_mem_cons.mpr ⟨⟨(RX_3, zzT3, 12), rfl, rfl, by decide +kernel⟩, (List.forall_mem_cons.mpr ⟨⟨(RX_4, zzT4, 12), rfl, rfl, by decide +kernel⟩, (List.forall_mem_cons.mpr ⟨⟨(RX_5, zzT5, 12), rfl, rfl, by decide +kernel⟩, (List.forall_mem_cons.mpr ⟨⟨(RX_6, zzT6, 13), rfl, rfl, by decide +kernel⟩, (List.forall_mem_cons.mpr ⟨⟨(RX_7, zzT7, 15), rfl, rfl, by decide +kernel⟩, (fun _ h => absurd h List.not_mem_nil)⟩)⟩)⟩)⟩)⟩)⟩)⟩)
set_option maxRecDepth 100000 in
theorem ff_X1_15 : zz_fw RX1 15 zzCl (zz_kf [1] 2) := zz_fw_of (List.forall_mem_cons.mpr ⟨⟨RX_1, zzT1, 12, "ReconcilerHall$Collector", zzY1, rfl, by decide, zzI1, zz_at 128 (by decide +kernel), Or.inr (zz_at 129 (by decide +kernel)), zzY1_ok, zzN1⟩, (fun _ h => absurd h List.not_mem_nil)⟩)
set_option maxRecDepth 100000 in
theorem kv_X1_19_1 : zz_KV RX1 19 RX_1 2 yX10_read cX10_read 3 (some .int) := zz_ku (owner := "ReconcilerHall$View") (x := ⟨"ReconcilerHall$Collector", "read", "(II)I"⟩) (zz_atl [825, 826, 827, 478, 37, 479] (by decide +kernel)) rfl (by decide +kernel)
set_option maxRecDepth 100000 in
theorem ff_X10_9 : zz_fw RX10 9 zzCl (zz_kf [1, 2, 3, 4, 5, 6, 7, 8] 0) := zz_fw_of (List.forall_mem_cons.mpr ⟨⟨RX_1, zzT1, 12, "ReconcilerHall$View", zzY1, rfl, by decide, zzI1, zz_at 119 (by decide +kernel), Or.inl rfl, zzY1_ok, zzN1⟩, (List.forall_mem_cons.mpr ⟨⟨RX_2, zzT2, 12, "ReconcilerHall$View", zzY2, rfl, by decide, zzI2, zz_at 119 (by decide +kernel), Or.inl rfl, zzY2_ok, zzN2⟩, (List.forall_mem_cons.mpr ⟨⟨RX_3, zzT3, 12, "ReconcilerHall$View", zzY3, rfl, by decide, zzI3, zz_at 119 (by decide +kernel), Or.inl rfl, zzY3_ok, zzN3⟩, (List.forall_mem_cons.mpr ⟨⟨RX_4, zzT4, 12, "ReconcilerHall$View", zzY4, rfl, by decide, zzI4, zz_at 119 (by decide +kernel), Or.inl rfl, zzY4_ok, zzN4⟩, (List.forall_mem_cons.mpr ⟨⟨RX_5, zzT5, 12, "ReconcilerHall$View", zzY5, rfl, by decide, zzI5, zz_at 119 (by decide +kernel), Or.inl rfl, zzY5_ok, zzN5⟩, (List.forall_mem_cons.mpr ⟨⟨RX_6, zzT6, 13, "ReconcilerHall$View", zzY6, rfl, by decide, zzI6, zz_at 119 (by decide +kernel), Or.inl rfl, zzY6_ok, zzN6⟩, (List.forall_mem_cons.mpr ⟨⟨RX_7, zzT7, 15, "ReconcilerHall$View", zzY7, rfl, by decide, zzI7, zz_at 119 (by decide +kernel), Or.inl rfl, zzY7_ok, zzN7⟩, (List.forall_mem_cons.mpr ⟨⟨RX_8, zzT8, 9, "ReconcilerHall$View", zzY8, rfl, by decide, zzI8, zz_at 119 (by decide +kernel), Or.inl rfl, zzY8_ok, zzN8⟩, (fun _ h => absurd h List.not_mem_nil)⟩)⟩)⟩)⟩)⟩)⟩)⟩)⟩)
set_option maxRecDepth 100000 in
theorem ff_X10_15 : zz_fw RX10 15 zzCl (zz_kf [1, 2, 3, 4, 5, 6, 7, 8] 1) := zz_fw_of (List.forall_mem_cons.mpr ⟨⟨RX_1, zzT1, 12, "ReconcilerHall$View", zzY1, rfl, by decide, zzI1, zz_at 121 (by decide +kernel), Or.inl rfl, zzY1_ok, zzN1⟩, (List.forall_mem_cons.mpr ⟨⟨RX_2, zzT2, 12, "ReconcilerHall$View", zzY2, rfl, by decide, zzI2, zz_at 121 (by decide +kernel), Or.inl rfl, zzY2_ok, zzN2⟩, (List.forall_mem_cons.mpr ⟨⟨RX_3, zzT3, 12, "ReconcilerHall$View", zzY3, rfl, by decide, zzI3, zz_at 121 (by decide +kernel), Or.inl rfl, zzY3_ok, zzN3⟩, (List.forall_mem_cons.mpr ⟨⟨RX_4, zzT4, 12, "ReconcilerHall$View", zzY4, rfl, by decide, zzI4, zz_at 121 (by decide +kernel), Or.inl rfl, zzY4_ok, zzN4⟩, (List.forall_mem_cons.mpr ⟨⟨RX_5, zzT5, 12, "ReconcilerHall$View", zzY5, rfl, by decide, zzI5, zz_at 121 (by decide +kernel), Or.inl rfl, zzY5_ok, zzN5⟩, (List.forall_mem_cons.mpr ⟨⟨RX_6, zzT6, 13, "ReconcilerHall$View", zzY6, rfl, by decide, zzI6, zz_at 121 (by decide +kernel), Or.inl rfl, zzY6_ok, zzN6⟩, (List.forall_mem_cons.mpr ⟨⟨RX_7, zzT7, 15, "ReconcilerHall$View", zzY7, rfl, by decide, zzI7, zz_at 121 (by decide +kernel), Or.inl rfl, zzY7_ok, zzN7⟩, (List.forall_mem_cons.mpr ⟨⟨RX_8, zzT8, 9, "ReconcilerHall$View", zzY8, rfl, by decide, zzI8, zz_at 121 (by decide +kernel), Or.inl rfl, zzY8_ok, zzN8⟩, (fun _ h => absurd h List.not_mem_nil)⟩)⟩)⟩)⟩)⟩)⟩)⟩)⟩)
set_option maxRecDepth 100000 in
theorem kv_X1_23_1 : zz_KV RX1 23 RX_1 1 yX10_isGone cX10_isGone 2 (some .boolean) := zz_ku (owner := "ReconcilerHall$View") (x := ⟨"ReconcilerHall$Collector", "isGone", "(I)Z"⟩) (zz_atl [915, 916, 917, 641, 37, 642] (by decide +kernel)) rfl (by decide +kernel)
set_option maxRecDepth 100000 in
theorem kv_X10_31_1 : zz_KV RX10 31 RX_1 2 yX10_read cX10_read 3 (some .int) := zz_ku (owner := "ReconcilerHall$View") (x := ⟨"ReconcilerHall$View", "read", "(II)I"⟩) (zz_atl [643, 1353, 1354, 478, 37, 479] (by decide +kernel)) rfl (by decide +kernel)
set_option maxRecDepth 100000 in
theorem kv_X10_31_2 : zz_KV RX10 31 RX_2 2 yX10_read cX10_read 3 (some .int) := zz_ku (owner := "ReconcilerHall$View") (x := ⟨"ReconcilerHall$View", "read", "(II)I"⟩) (zz_atl [643, 1353, 1355, 478, 37, 479] (by decide +kernel)) rfl (by decide +kernel)
set_option maxRecDepth 100000 in
theorem kv_X10_31_3 : zz_KV RX10 31 RX_3 2 yX10_read cX10_read 3 (some .int) := zz_ku (owner := "ReconcilerHall$View") (x := ⟨"ReconcilerHall$View", "read", "(II)I"⟩) (zz_atl [643, 1353, 1356, 478, 37, 479] (by decide +kernel)) rfl (by decide +kernel)
set_option maxRecDepth 100000 in
theorem kv_X10_31_4 : zz_KV RX10 31 RX_4 2 yX10_read cX10_read 3 (some .int) := zz_ku (owner := "ReconcilerHall$View") (x := ⟨"ReconcilerHall$View", "read", "(II)I"⟩) (zz_atl [643, 1353, 1357, 478, 37, 479] (by decide +kernel)) rfl (by decide +kernel)
set_option maxRecDepth 100000 in
theorem kv_X10_31_5 : zz_KV RX10 31 RX_5 2 yX10_read cX10_read 3 (some .int) := zz_ku (owner := "ReconcilerHall$View") (x := ⟨"ReconcilerHall$View", "read", "(II)I"⟩) (zz_atl [643, 1353, 1358, 478, 37, 479] (by decide +kernel)) rfl (by decide +kernel)
set_option maxRecDepth 100000 in
theorem kv_X10_31_6 : zz_KV RX10 31 RX_6 2 yX10_read cX10_read 3 (some .int) := zz_ku (owner := "ReconcilerHall$View") (x := ⟨"ReconcilerHall$View", "read", "(II)I"⟩) (zz_atl [643, 1353, 1359, 478, 37, 479] (by decide +kernel)) rfl (by decide +kernel)
set_option maxRecDepth 100000 in
theorem kv_X10_31_7 : zz_KV RX10 31 RX_7 2 yX10_read cX10_read 3 (some .int) := zz_ku (owner := "ReconcilerHall$View") (x := ⟨"ReconcilerHall$View", "read", "(II)I"⟩) (zz_atl [643, 1353, 1360, 478, 37, 479] (by decide +kernel)) rfl (by decide +kernel)
set_option maxRecDepth 100000 in
theorem kv_X10_31_8 : zz_KV RX10 31 RX_8 2 yX10_read cX10_read 3 (some .int) := zz_ku (owner := "ReconcilerHall$View") (x := ⟨"ReconcilerHall$View", "read", "(II)I"⟩) (zz_atl [643, 1353, 1361, 478, 37, 479] (by decide +kernel)) rfl (by decide +kernel)
set_option maxRecDepth 100000 in
theorem kv_X1_27_1 : zz_KV RX1 27 RX_1 1 yX2_remove cX2_remove 2 (some .boolean) := zz_ku (owner := "ReconcilerHall$Controller") (x := ⟨"ReconcilerHall$Collector", "remove", "(I)Z"⟩) (zz_atl [918, 919, 921, 922, 40, 923] (by decide +kernel)) rfl (by decide +kernel)
set_option maxRecDepth 100000 in
theorem kv_X2_117_1 : zz_KV RX2 117 RX_1 1 yX2_isUpToDate cX2_isUpToDate 2 (some .boolean) := zz_ku (owner := "ReconcilerHall$Controller") (x := ⟨"ReconcilerHall$Controller", "isUpToDate", "(I)Z"⟩) (zz_atl [924, 926, 927, 925, 40, 934] (by decide +kernel)) rfl (by decide +kernel)
set_option maxRecDepth 100000 in
theorem kv_X2_117_2 : zz_KV RX2 117 RX_2 1 yX2_isUpToDate cX2_isUpToDate 2 (some .boolean) := zz_ku (owner := "ReconcilerHall$Controller") (x := ⟨"ReconcilerHall$Controller", "isUpToDate", "(I)Z"⟩) (zz_atl [924, 926, 928, 925, 40, 934] (by decide +kernel)) rfl (by decide +kernel)
set_option maxRecDepth 100000 in
theorem kv_X2_117_3 : zz_KV RX2 117 RX_3 1 yX2_isUpToDate cX2_isUpToDate 2 (some .boolean) := zz_ku (owner := "ReconcilerHall$Controller") (x := ⟨"ReconcilerHall$Controller", "isUpToDate", "(I)Z"⟩) (zz_atl [924, 926, 929, 925, 40, 934] (by decide +kernel)) rfl (by decide +kernel)
set_option maxRecDepth 100000 in
theorem kv_X2_117_4 : zz_KV RX2 117 RX_4 1 yX2_isUpToDate cX2_isUpToDate 2 (some .boolean) := zz_ku (owner := "ReconcilerHall$Controller") (x := ⟨"ReconcilerHall$Controller", "isUpToDate", "(I)Z"⟩) (zz_atl [924, 926, 930, 925, 40, 934] (by decide +kernel)) rfl (by decide +kernel)
set_option maxRecDepth 100000 in
theorem kv_X2_117_5 : zz_KV RX2 117 RX_5 1 yX2_isUpToDate cX2_isUpToDate 2 (some .boolean) := zz_ku (owner := "ReconcilerHall$Controller") (x := ⟨"ReconcilerHall$Controller", "isUpToDate", "(I)Z"⟩) (zz_atl [924, 926, 931, 925, 40, 934] (by decide +kernel)) rfl (by decide +kernel)
set_option maxRecDepth 100000 in
theorem kv_X2_117_6 : zz_KV RX2 117 RX_6 1 yX2_isUpToDate cX2_isUpToDate 2 (some .boolean) := zz_ku (owner := "ReconcilerHall$Controller") (x := ⟨"ReconcilerHall$Controller", "isUpToDate", "(I)Z"⟩) (zz_atl [924, 926, 932, 925, 40, 934] (by decide +kernel)) rfl (by decide +kernel)
set_option maxRecDepth 100000 in
theorem kv_X2_117_7 : zz_KV RX2 117 RX_7 1 yX2_isUpToDate cX2_isUpToDate 2 (some .boolean) := zz_ku (owner := "ReconcilerHall$Controller") (x := ⟨"ReconcilerHall$Controller", "isUpToDate", "(I)Z"⟩) (zz_atl [924, 926, 933, 925, 40, 934] (by decide +kernel)) rfl (by decide +kernel)
set_option maxRecDepth 100000 in
theorem kv_X2_113_1 : zz_KV RX2 113 RX_1 1 yX10_latestOf cX10_latestOf 2 (some .int) := zz_ku (owner := "ReconcilerHall$View") (x := ⟨"ReconcilerHall$Controller", "latestOf", "(I)I"⟩) (zz_atl [935, 936, 937, 509, 37, 510] (by decide +kernel)) rfl (by decide +kernel)
set_option maxRecDepth 100000 in
theorem kv_X2_113_2 : zz_KV RX2 113 RX_2 1 yX10_latestOf cX10_latestOf 2 (some .int) := zz_ku (owner := "ReconcilerHall$View") (x := ⟨"ReconcilerHall$Controller", "latestOf", "(I)I"⟩) (zz_atl [935, 936, 938, 509, 37, 510] (by decide +kernel)) rfl (by decide +kernel)
set_option maxRecDepth 100000 in
theorem kv_X2_113_3 : zz_KV RX2 113 RX_3 1 yX10_latestOf cX10_latestOf 2 (some .int) := zz_ku (owner := "ReconcilerHall$View") (x := ⟨"ReconcilerHall$Controller", "latestOf", "(I)I"⟩) (zz_atl [935, 936, 939, 509, 37, 510] (by decide +kernel)) rfl (by decide +kernel)
set_option maxRecDepth 100000 in
theorem kv_X2_113_4 : zz_KV RX2 113 RX_4 1 yX10_latestOf cX10_latestOf 2 (some .int) := zz_ku (owner := "ReconcilerHall$View") (x := ⟨"ReconcilerHall$Controller", "latestOf", "(I)I"⟩) (zz_atl [935, 936, 940, 509, 37, 510] (by decide +kernel)) rfl (by decide +kernel)
set_option maxRecDepth 100000 in
theorem kv_X2_113_5 : zz_KV RX2 113 RX_5 1 yX10_latestOf cX10_latestOf 2 (some .int) := zz_ku (owner := "ReconcilerHall$View") (x := ⟨"ReconcilerHall$Controller", "latestOf", "(I)I"⟩) (zz_atl [935, 936, 941, 509, 37, 510] (by decide +kernel)) rfl (by decide +kernel)
set_option maxRecDepth 100000 in
theorem kv_X2_113_6 : zz_KV RX2 113 RX_6 1 yX10_latestOf cX10_latestOf 2 (some .int) := zz_ku (owner := "ReconcilerHall$View") (x := ⟨"ReconcilerHall$Controller", "latestOf", "(I)I"⟩) (zz_atl [935, 936, 942, 509, 37, 510] (by decide +kernel)) rfl (by decide +kernel)
set_option maxRecDepth 100000 in
theorem kv_X2_113_7 : zz_KV RX2 113 RX_7 1 yX10_latestOf cX10_latestOf 2 (some .int) := zz_ku (owner := "ReconcilerHall$View") (x := ⟨"ReconcilerHall$Controller", "latestOf", "(I)I"⟩) (zz_atl [935, 936, 943, 509, 37, 510] (by decide +kernel)) rfl (by decide +kernel)
set_option maxRecDepth 100000 in
theorem ff_X2_15 : zz_fw RX2 15 zzCl (zz_kf [1, 2, 3, 4, 5, 6, 7] 4) := zz_fw_of (List.forall_mem_cons.mpr ⟨⟨RX_1, zzT1, 12, "ReconcilerHall$Controller", zzY1, rfl, by decide, zzI1, zz_at 179 (by decide +kernel), Or.inl rfl, zzY1_ok, zzN1⟩, (List.forall_mem_cons.mpr ⟨⟨RX_2, zzT2, 12, "ReconcilerHall$Controller", zzY2, rfl, by decide, zzI2, zz_at 179 (by decide +kernel), Or.inl rfl, zzY2_ok, zzN2⟩, (List.forall_mem_cons.mpr ⟨⟨RX_3, zzT3, 12, "ReconcilerHall$Controller", zzY3, rfl, by decide, zzI3, zz_at 179 (by decide +kernel), Or.inl rfl, zzY3_ok, zzN3⟩, (List.forall_mem_cons.mpr ⟨⟨RX_4, zzT4, 12, "ReconcilerHall$Controller", zzY4, rfl, by decide, zzI4, zz_at 179 (by decide +kernel), Or.inl rfl, zzY4_ok, zzN4⟩, (List.forall_mem_cons.mpr ⟨⟨RX_5, zzT5, 12, "ReconcilerHall$Controller", zzY5, rfl, by decide, zzI5, zz_at 179 (by decide +kernel), Or.inl rfl, zzY5_ok, zzN5⟩, (List.forall_mem_cons.mpr ⟨⟨RX_6, zzT6, 13, "ReconcilerHall$Controller", zzY6, rfl, by decide, zzI6, zz_at 179 (by decide +kernel), Or.inl rfl, zzY6_ok, zzN6⟩, (List.forall_mem_cons.mpr ⟨⟨RX_7, zzT7, 15, "ReconcilerHall$Controller", zzY7, rfl, by decide, zzI7, zz_at 179 (by decide +kernel), Or.inl rfl, zzY7_ok, zzN7⟩, (fun _ h => absurd h List.not_mem_nil)⟩)⟩)⟩)⟩)⟩)⟩)⟩)
set_option maxRecDepth 100000 in
theorem kv_X2_116_8 : zz_KV RX2 116 RX_8 1 yX10_latestOf cX10_latestOf 2 (some .int) := zz_ku (owner := "ReconcilerHall$View") (x := ⟨"ReconcilerHall$Store", "latestOf", "(I)I"⟩) (zz_atl [944, 506, 508, 509, 37, 510] (by decide +kernel)) rfl (by decide +kernel)
set_option maxRecDepth 100000 in
theorem kv_X2_128_8 : zz_KV RX2 128 RX_8 2 yX9_startGoing cX9_startGoing 3 (some .boolean) ∧ zz_KX RX2 128 RX_8 2 yX9_startGoing cX9_startGoing 3 (some .boolean) := zz_kv (zz_atl [945, 678, 679, 38, 680] (by decide +kernel)) (by decide +kernel)
set_option maxRecDepth 100000 in
theorem kv_X9_71_8 : zz_KV RX9 71 RX_8 1 yX9_draftFrom cX9_draftFrom 2 none ∧ zz_KX RX9 71 RX_8 1 yX9_draftFrom cX9_draftFrom 2 none := zz_kv (zz_atl [651, 653, 10, 38, 654] (by decide +kernel)) (by decide +kernel)
set_option maxRecDepth 100000 in
theorem ff_X9_78 : zz_fw RX9 78 zzCl (zz_kf [8] 0) := zz_fw_of (List.forall_mem_cons.mpr ⟨⟨RX_8, zzT8, 9, "ReconcilerHall$Store", zzY8, rfl, by decide, zzI8, zz_at 120 (by decide +kernel), Or.inr (zz_at 118 (by decide +kernel)), zzY8_ok, zzN8⟩, (fun _ h => absurd h List.not_mem_nil)⟩)
set_option maxRecDepth 100000 in
theorem kv_X9_81_8 : zz_KV RX9 81 RX_8 1 yX10_latestOf cX10_latestOf 2 (some .int) := zz_ku (owner := "ReconcilerHall$View") (x := ⟨"ReconcilerHall$Store", "latestOf", "(I)I"⟩) (zz_atl [597, 506, 508, 509, 37, 510] (by decide +kernel)) rfl (by decide +kernel)
set_option maxRecDepth 100000 in
theorem ff_X9_28 : zz_fw RX9 28 zzCl (zz_kf [8] 6) := zz_fw_of (List.forall_mem_cons.mpr ⟨⟨RX_8, zzT8, 9, "ReconcilerHall$Store", zzY8, rfl, by decide, zzI8, zz_at 110 (by decide +kernel), Or.inl rfl, zzY8_ok, zzN8⟩, (fun _ h => absurd h List.not_mem_nil)⟩)
set_option maxRecDepth 100000 in
theorem kv_X9_75_8 : zz_KV RX9 75 RX_8 1 yX10_isKept cX10_isKept 2 (some .boolean) := zz_ku (owner := "ReconcilerHall$View") (x := ⟨"ReconcilerHall$Store", "isKept", "(I)Z"⟩) (zz_atl [681, 682, 684, 685, 37, 686] (by decide +kernel)) rfl (by decide +kernel)
set_option maxRecDepth 100000 in
theorem kv_X9_53_8 : zz_KV RX9 53 RX_8 1 yX9_write cX9_write 2 (some .boolean) ∧ zz_KX RX9 53 RX_8 1 yX9_write cX9_write 2 (some .boolean) := zz_kv (zz_atl [593, 595, 8, 38, 596] (by decide +kernel)) (by decide +kernel)
set_option maxRecDepth 100000 in
theorem kv_X9_91_8 : zz_KV RX9 91 RX_8 1 yX9_isDraftAs cX9_isDraftAs 3 (some .boolean) ∧ zz_KX RX9 91 RX_8 1 yX9_isDraftAs cX9_isDraftAs 3 (some .boolean) := zz_kv (zz_atl [598, 600, 9, 38, 601] (by decide +kernel)) (by decide +kernel)
set_option maxRecDepth 100000 in
theorem ff_X9_94 : zz_fw RX9 94 zzCl (zz_kf [8] 3) := zz_fw_of (List.forall_mem_cons.mpr ⟨⟨RX_8, zzT8, 9, "ReconcilerHall$Store", zzY8, rfl, by decide, zzI8, zz_at 146 (by decide +kernel), Or.inr (zz_at 141 (by decide +kernel)), zzY8_ok, zzN8⟩, (fun _ h => absurd h List.not_mem_nil)⟩)
set_option maxRecDepth 100000 in
theorem kv_X9_97_8 : zz_KV RX9 97 RX_8 2 yX10_takeIn cX10_takeIn 3 none := zz_ku (owner := "ReconcilerHall$View") (x := ⟨"ReconcilerHall$Store", "takeIn", "(II)V"⟩) (zz_atl [603, 604, 606, 607, 37, 608] (by decide +kernel)) rfl (by decide +kernel)
set_option maxRecDepth 100000 in
theorem ff_X10_18 : zz_fw RX10 18 zzCl (zz_kf [1, 2, 3, 4, 5, 6, 7, 8] 2) := zz_fw_of (List.forall_mem_cons.mpr ⟨⟨RX_1, zzT1, 12, "ReconcilerHall$View", zzY1, rfl, by decide, zzI1, zz_at 136 (by decide +kernel), Or.inl rfl, zzY1_ok, zzN1⟩, (List.forall_mem_cons.mpr ⟨⟨RX_2, zzT2, 12, "ReconcilerHall$View", zzY2, rfl, by decide, zzI2, zz_at 136 (by decide +kernel), Or.inl rfl, zzY2_ok, zzN2⟩, (List.forall_mem_cons.mpr ⟨⟨RX_3, zzT3, 12, "ReconcilerHall$View", zzY3, rfl, by decide, zzI3, zz_at 136 (by decide +kernel), Or.inl rfl, zzY3_ok, zzN3⟩, (List.forall_mem_cons.mpr ⟨⟨RX_4, zzT4, 12, "ReconcilerHall$View", zzY4, rfl, by decide, zzI4, zz_at 136 (by decide +kernel), Or.inl rfl, zzY4_ok, zzN4⟩, (List.forall_mem_cons.mpr ⟨⟨RX_5, zzT5, 12, "ReconcilerHall$View", zzY5, rfl, by decide, zzI5, zz_at 136 (by decide +kernel), Or.inl rfl, zzY5_ok, zzN5⟩, (List.forall_mem_cons.mpr ⟨⟨RX_6, zzT6, 13, "ReconcilerHall$View", zzY6, rfl, by decide, zzI6, zz_at 136 (by decide +kernel), Or.inl rfl, zzY6_ok, zzN6⟩, (List.forall_mem_cons.mpr ⟨⟨RX_7, zzT7, 15, "ReconcilerHall$View", zzY7, rfl, by decide, zzI7, zz_at 136 (by decide +kernel), Or.inl rfl, zzY7_ok, zzN7⟩, (List.forall_mem_cons.mpr ⟨⟨RX_8, zzT8, 9, "ReconcilerHall$View", zzY8, rfl, by decide, zzI8, zz_at 136 (by decide +kernel), Or.inl rfl, zzY8_ok, zzN8⟩, (fun _ h => absurd h List.not_mem_nil)⟩)⟩)⟩)⟩)⟩)⟩)⟩)⟩)
set_option maxRecDepth 100000 in
theorem fp_1_2_3_4_5_6_7_8_2 : zz_fp zzCl (zz_kf [1, 2, 3, 4, 5, 6, 7, 8] 2) false := zz_fp_of (List.forall_mem_cons.mpr ⟨⟨(RX_1, zzT1, 12), rfl, rfl, by decide +kernel⟩, (List.forall_mem_cons.mpr ⟨⟨(RX_2, zzT2, 12), rfl, rfl, by decide +kernel⟩, (List.forall_mem_cons.mpr ⟨⟨(RX_3, zzT3, 12), rfl, rfl, by decide +kernel⟩, (List.forall_mem_cons.mpr ⟨⟨(RX_4, zzT4, 12), rfl, rfl, by decide +kernel⟩, (List.forall_mem_cons.mpr ⟨⟨(RX_5, zzT5, 12), rfl, rfl, by decide +kernel⟩, (List.forall_mem_cons.mpr ⟨⟨(RX_6, zzT6, 13), rfl, rfl, by decide +kernel⟩, (List.forall_mem_cons.mpr ⟨⟨(RX_7, zzT7, 15), rfl, rfl, by decide +kernel⟩, (List.forall_mem_cons.mpr ⟨⟨(RX_8, zzT8, 9), rfl, rfl, by decide +kernel⟩, (fun _ h => absurd h List.not_mem_nil)⟩)⟩)⟩)⟩)⟩)⟩)⟩)⟩)
set_option maxRecDepth 100000 in
theorem ff_X10_22 : zz_fw RX10 22 zzCl (zz_kf [1, 2, 3, 4, 5, 6, 7, 8] 3) := zz_fw_of (List.forall_mem_cons.mpr ⟨⟨RX_1, zzT1, 12, "ReconcilerHall$View", zzY1, rfl, by decide, zzI1, zz_at 145 (by decide +kernel), Or.inl rfl, zzY1_ok, zzN1⟩, (List.forall_mem_cons.mpr ⟨⟨RX_2, zzT2, 12, "ReconcilerHall$View", zzY2, rfl, by decide, zzI2, zz_at 145 (by decide +kernel), Or.inl rfl, zzY2_ok, zzN2⟩, (List.forall_mem_cons.mpr ⟨⟨RX_3, zzT3, 12, "ReconcilerHall$View", zzY3, rfl, by decide, zzI3, zz_at 145 (by decide +kernel), Or.inl rfl, zzY3_ok, zzN3⟩, (List.forall_mem_cons.mpr ⟨⟨RX_4, zzT4, 12, "ReconcilerHall$View", zzY4, rfl, by decide, zzI4, zz_at 145 (by decide +kernel), Or.inl rfl, zzY4_ok, zzN4⟩, (List.forall_mem_cons.mpr ⟨⟨RX_5, zzT5, 12, "ReconcilerHall$View", zzY5, rfl, by decide, zzI5, zz_at 145 (by decide +kernel), Or.inl rfl, zzY5_ok, zzN5⟩, (List.forall_mem_cons.mpr ⟨⟨RX_6, zzT6, 13, "ReconcilerHall$View", zzY6, rfl, by decide, zzI6, zz_at 145 (by decide +kernel), Or.inl rfl, zzY6_ok, zzN6⟩, (List.forall_mem_cons.mpr ⟨⟨RX_7, zzT7, 15, "ReconcilerHall$View", zzY7, rfl, by decide, zzI7, zz_at 145 (by decide +kernel), Or.inl rfl, zzY7_ok, zzN7⟩, (List.forall_mem_cons.mpr ⟨⟨RX_8, zzT8, 9, "ReconcilerHall$View", zzY8, rfl, by decide, zzI8, zz_at 145 (by decide +kernel), Or.inl rfl, zzY8_ok, zzN8⟩, (fun _ h => absurd h List.not_mem_nil)⟩)⟩)⟩)⟩)⟩)⟩)⟩)⟩)
set_option maxRecDepth 100000 in
theorem fp_1_2_3_4_5_6_7_8_3 : zz_fp zzCl (zz_kf [1, 2, 3, 4, 5, 6, 7, 8] 3) false := zz_fp_of (List.forall_mem_cons.mpr ⟨⟨(RX_1, zzT1, 12), rfl, rfl, by decide +kernel⟩, (List.forall_mem_cons.mpr ⟨⟨(RX_2, zzT2, 12), rfl, rfl, by decide +kernel⟩, (List.forall_mem_cons.mpr ⟨⟨(RX_3, zzT3, 12), rfl, rfl, by decide +kernel⟩, (List.forall_mem_cons.mpr ⟨⟨(RX_4, zzT4, 12), rfl, rfl, by decide +kernel⟩, (List.forall_mem_cons.mpr ⟨⟨(RX_5, zzT5, 12), rfl, rfl, by decide +kernel⟩, (List.forall_mem_cons.mpr ⟨⟨(RX_6, zzT6, 13), rfl, rfl, by decide +kernel⟩, (List.forall_mem_cons.mpr ⟨⟨(RX_7, zzT7, 15), rfl, rfl, by decide +kernel⟩, (List.forall_mem_cons.mpr ⟨⟨(RX_8, zzT8, 9), rfl, rfl, by decide +kernel⟩, (fun _ h => absurd h List.not_mem_nil)⟩)⟩)⟩)⟩)⟩)⟩)⟩)⟩)
set_option maxRecDepth 100000 in
theorem ks_X1_30 : zz_KS RX1 30 1 yX2_outcomeOf cX2_outcomeOf 1 (some .int) := zz_ksu (x := ⟨"ReconcilerHall$Collector", "outcomeOf", "(Z)I"⟩) (zz_at 949 (by decide +kernel)) (zz_at 40 (by decide +kernel)) (zz_at 946 (by decide +kernel)) (zz_at 948 (by decide +kernel)) (zz_at 947 (by decide +kernel)) rfl (by decide +kernel)
set_option maxRecDepth 100000 in
theorem kv_X1_34_1 : zz_KV RX1 34 RX_1 1 yX1_ownsSome cX1_ownsSome 3 (some .boolean) ∧ zz_KX RX1 34 RX_1 1 yX1_ownsSome cX1_ownsSome 3 (some .boolean) := zz_kv (zz_atl [950, 952, 12, 45, 953] (by decide +kernel)) (by decide +kernel)
set_option maxRecDepth 100000 in
theorem kv_X1_37_1 : zz_KV RX1 37 RX_1 1 yX1_deleteOwned cX1_deleteOwned 4 (some .boolean) ∧ zz_KX RX1 37 RX_1 1 yX1_deleteOwned cX1_deleteOwned 4 (some .boolean) := zz_kv (zz_atl [954, 956, 13, 45, 957] (by decide +kernel)) (by decide +kernel)
set_option maxRecDepth 100000 in
theorem kv_X1_46_1 : zz_KV RX1 46 RX_1 3 yX2_set cX2_set 4 (some .boolean) := zz_ku (owner := "ReconcilerHall$Controller") (x := ⟨"ReconcilerHall$Collector", "set", "(III)Z"⟩) (zz_atl [958, 959, 961, 962, 40, 963] (by decide +kernel)) rfl (by decide +kernel)
set_option maxRecDepth 100000 in
theorem kv_X2_124_8 : zz_KV RX2 124 RX_8 3 yX9_change cX9_change 4 (some .boolean) ∧ zz_KX RX2 124 RX_8 3 yX9_change cX9_change 4 (some .boolean) := zz_kv (zz_atl [964, 693, 694, 38, 695] (by decide +kernel)) (by decide +kernel)
set_option maxRecDepth 100000 in
theorem kv_X1_40_1 : zz_KV RX1 40 RX_1 1 yX1_disownAll cX1_disownAll 3 (some .boolean) ∧ zz_KX RX1 40 RX_1 1 yX1_disownAll cX1_disownAll 3 (some .boolean) := zz_kv (zz_atl [965, 967, 14, 45, 968] (by decide +kernel)) (by decide +kernel)
set_option maxRecDepth 100000 in
theorem kv_X1_43_1 : zz_KV RX1 43 RX_1 1 yX10_isKept cX10_isKept 2 (some .boolean) := zz_ku (owner := "ReconcilerHall$View") (x := ⟨"ReconcilerHall$Collector", "isKept", "(I)Z"⟩) (zz_atl [969, 970, 971, 685, 37, 686] (by decide +kernel)) rfl (by decide +kernel)
set_option maxRecDepth 100000 in
theorem ff_X2_44 : zz_fw RX2 44 zzCl (zz_kf [1, 2, 3, 4, 5, 6, 7] 3) := zz_fw_of (List.forall_mem_cons.mpr ⟨⟨RX_1, zzT1, 12, "ReconcilerHall$Controller", zzY1, rfl, by decide, zzI1, zz_at 142 (by decide +kernel), Or.inr (zz_at 143 (by decide +kernel)), zzY1_ok, zzN1⟩, (List.forall_mem_cons.mpr ⟨⟨RX_2, zzT2, 12, "ReconcilerHall$Controller", zzY2, rfl, by decide, zzI2, zz_at 142 (by decide +kernel), Or.inr (zz_at 143 (by decide +kernel)), zzY2_ok, zzN2⟩, (List.forall_mem_cons.mpr ⟨⟨RX_3, zzT3, 12, "ReconcilerHall$Controller", zzY3, rfl, by decide, zzI3, zz_at 142 (by decide +kernel), Or.inr (zz_at 143 (by decide +kernel)), zzY3_ok, zzN3⟩, (List.forall_mem_cons.mpr ⟨⟨RX_4, zzT4, 12, "ReconcilerHall$Controller", zzY4, rfl, by decide, zzI4, zz_at 142 (by decide +kernel), Or.inr (zz_at 143 (by decide +kernel)), zzY4_ok, zzN4⟩, (List.forall_mem_cons.mpr ⟨⟨RX_5, zzT5, 12, "ReconcilerHall$Controller", zzY5, rfl, by decide, zzI5, zz_at 142 (by decide +kernel), Or.inr (zz_at 143 (by decide +kernel)), zzY5_ok, zzN5⟩, (List.forall_mem_cons.mpr ⟨⟨RX_6, zzT6, 13, "ReconcilerHall$Controller", zzY6, rfl, by decide, zzI6, zz_at 142 (by decide +kernel), Or.inr (zz_at 143 (by decide +kernel)), zzY6_ok, zzN6⟩, (List.forall_mem_cons.mpr ⟨⟨RX_7, zzT7, 15, "ReconcilerHall$Controller", zzY7, rfl, by decide, zzI7, zz_at 142 (by decide +kernel), Or.inr (zz_at 143 (by decide +kernel)), zzY7_ok, zzN7⟩, (fun _ h => absurd h List.not_mem_nil)⟩)⟩)⟩)⟩)⟩)⟩)⟩)
set_option maxRecDepth 100000 in
theorem ff_X2_47 : zz_fw RX2 47 zzCl (zz_kf [8] 8) := zz_fw_of (List.forall_mem_cons.mpr ⟨⟨RX_8, zzT8, 9, "ReconcilerHall$Store", zzY8, rfl, by decide, zzI8, zz_at 115 (by decide +kernel), Or.inl rfl, zzY8_ok, zzN8⟩, (fun _ h => absurd h List.not_mem_nil)⟩)
set_option maxRecDepth 100000 in
theorem kv_X2_50_1 : zz_KV RX2 50 RX_1 0 yX2_relist cX2_relist 2 none := zz_ku (owner := "ReconcilerHall$Controller") (x := ⟨"ReconcilerHall$Controller", "relist", "()V"⟩) (zz_atl [743, 1362, 1383, 745, 40, 746] (by decide +kernel)) rfl (by decide +kernel)
set_option maxRecDepth 100000 in
theorem kv_X2_50_2 : zz_KV RX2 50 RX_2 0 yX2_relist cX2_relist 2 none := zz_ku (owner := "ReconcilerHall$Controller") (x := ⟨"ReconcilerHall$Controller", "relist", "()V"⟩) (zz_atl [743, 1362, 1384, 745, 40, 746] (by decide +kernel)) rfl (by decide +kernel)
set_option maxRecDepth 100000 in
theorem kv_X2_50_3 : zz_KV RX2 50 RX_3 0 yX2_relist cX2_relist 2 none := zz_ku (owner := "ReconcilerHall$Controller") (x := ⟨"ReconcilerHall$Controller", "relist", "()V"⟩) (zz_atl [743, 1362, 1385, 745, 40, 746] (by decide +kernel)) rfl (by decide +kernel)
set_option maxRecDepth 100000 in
theorem kv_X2_50_4 : zz_KV RX2 50 RX_4 0 yX2_relist cX2_relist 2 none := zz_ku (owner := "ReconcilerHall$Controller") (x := ⟨"ReconcilerHall$Controller", "relist", "()V"⟩) (zz_atl [743, 1362, 1386, 745, 40, 746] (by decide +kernel)) rfl (by decide +kernel)
set_option maxRecDepth 100000 in
theorem kv_X2_50_5 : zz_KV RX2 50 RX_5 0 yX2_relist cX2_relist 2 none := zz_ku (owner := "ReconcilerHall$Controller") (x := ⟨"ReconcilerHall$Controller", "relist", "()V"⟩) (zz_atl [743, 1362, 1387, 745, 40, 746] (by decide +kernel)) rfl (by decide +kernel)
set_option maxRecDepth 100000 in
theorem kv_X2_50_6 : zz_KV RX2 50 RX_6 0 yX2_relist cX2_relist 2 none := zz_ku (owner := "ReconcilerHall$Controller") (x := ⟨"ReconcilerHall$Controller", "relist", "()V"⟩) (zz_atl [743, 1362, 1388, 745, 40, 746] (by decide +kernel)) rfl (by decide +kernel)
set_option maxRecDepth 100000 in
theorem kv_X2_50_7 : zz_KV RX2 50 RX_7 0 yX2_relist cX2_relist 2 none := zz_ku (owner := "ReconcilerHall$Controller") (x := ⟨"ReconcilerHall$Controller", "relist", "()V"⟩) (zz_atl [743, 1362, 1389, 745, 40, 746] (by decide +kernel)) rfl (by decide +kernel)
set_option maxRecDepth 100000 in
theorem kv_X2_62_1 : zz_KV RX2 62 RX_1 1 yX10_takeAll cX10_takeAll 2 none := zz_ku (owner := "ReconcilerHall$View") (x := ⟨"ReconcilerHall$Controller", "takeAll", "(LReconcilerHall$View;)V"⟩) (zz_atl [747, 748, 750, 757, 37, 758] (by decide +kernel)) rfl (by decide +kernel)
set_option maxRecDepth 100000 in
theorem kv_X2_62_2 : zz_KV RX2 62 RX_2 1 yX10_takeAll cX10_takeAll 2 none := zz_ku (owner := "ReconcilerHall$View") (x := ⟨"ReconcilerHall$Controller", "takeAll", "(LReconcilerHall$View;)V"⟩) (zz_atl [747, 748, 751, 757, 37, 758] (by decide +kernel)) rfl (by decide +kernel)
set_option maxRecDepth 100000 in
theorem kv_X2_62_3 : zz_KV RX2 62 RX_3 1 yX10_takeAll cX10_takeAll 2 none := zz_ku (owner := "ReconcilerHall$View") (x := ⟨"ReconcilerHall$Controller", "takeAll", "(LReconcilerHall$View;)V"⟩) (zz_atl [747, 748, 752, 757, 37, 758] (by decide +kernel)) rfl (by decide +kernel)
set_option maxRecDepth 100000 in
theorem kv_X2_62_4 : zz_KV RX2 62 RX_4 1 yX10_takeAll cX10_takeAll 2 none := zz_ku (owner := "ReconcilerHall$View") (x := ⟨"ReconcilerHall$Controller", "takeAll", "(LReconcilerHall$View;)V"⟩) (zz_atl [747, 748, 753, 757, 37, 758] (by decide +kernel)) rfl (by decide +kernel)
set_option maxRecDepth 100000 in
theorem kv_X2_62_5 : zz_KV RX2 62 RX_5 1 yX10_takeAll cX10_takeAll 2 none := zz_ku (owner := "ReconcilerHall$View") (x := ⟨"ReconcilerHall$Controller", "takeAll", "(LReconcilerHall$View;)V"⟩) (zz_atl [747, 748, 754, 757, 37, 758] (by decide +kernel)) rfl (by decide +kernel)
set_option maxRecDepth 100000 in
theorem kv_X2_62_6 : zz_KV RX2 62 RX_6 1 yX10_takeAll cX10_takeAll 2 none := zz_ku (owner := "ReconcilerHall$View") (x := ⟨"ReconcilerHall$Controller", "takeAll", "(LReconcilerHall$View;)V"⟩) (zz_atl [747, 748, 755, 757, 37, 758] (by decide +kernel)) rfl (by decide +kernel)
set_option maxRecDepth 100000 in
theorem kv_X2_62_7 : zz_KV RX2 62 RX_7 1 yX10_takeAll cX10_takeAll 2 none := zz_ku (owner := "ReconcilerHall$View") (x := ⟨"ReconcilerHall$Controller", "takeAll", "(LReconcilerHall$View;)V"⟩) (zz_atl [747, 748, 756, 757, 37, 758] (by decide +kernel)) rfl (by decide +kernel)
set_option maxRecDepth 100000 in
theorem ff_X2_66 : zz_fw RX2 66 zzCl (zz_kf [1, 2, 3, 4, 5, 6, 7] 2) := zz_fw_of (List.forall_mem_cons.mpr ⟨⟨RX_1, zzT1, 12, "ReconcilerHall$Controller", zzY1, rfl, by decide, zzI1, zz_at 137 (by decide +kernel), Or.inr (zz_at 138 (by decide +kernel)), zzY1_ok, zzN1⟩, (List.forall_mem_cons.mpr ⟨⟨RX_2, zzT2, 12, "ReconcilerHall$Controller", zzY2, rfl, by decide, zzI2, zz_at 137 (by decide +kernel), Or.inr (zz_at 138 (by decide +kernel)), zzY2_ok, zzN2⟩, (List.forall_mem_cons.mpr ⟨⟨RX_3, zzT3, 12, "ReconcilerHall$Controller", zzY3, rfl, by decide, zzI3, zz_at 137 (by decide +kernel), Or.inr (zz_at 138 (by decide +kernel)), zzY3_ok, zzN3⟩, (List.forall_mem_cons.mpr ⟨⟨RX_4, zzT4, 12, "ReconcilerHall$Controller", zzY4, rfl, by decide, zzI4, zz_at 137 (by decide +kernel), Or.inr (zz_at 138 (by decide +kernel)), zzY4_ok, zzN4⟩, (List.forall_mem_cons.mpr ⟨⟨RX_5, zzT5, 12, "ReconcilerHall$Controller", zzY5, rfl, by decide, zzI5, zz_at 137 (by decide +kernel), Or.inr (zz_at 138 (by decide +kernel)), zzY5_ok, zzN5⟩, (List.forall_mem_cons.mpr ⟨⟨RX_6, zzT6, 13, "ReconcilerHall$Controller", zzY6, rfl, by decide, zzI6, zz_at 137 (by decide +kernel), Or.inr (zz_at 138 (by decide +kernel)), zzY6_ok, zzN6⟩, (List.forall_mem_cons.mpr ⟨⟨RX_7, zzT7, 15, "ReconcilerHall$Controller", zzY7, rfl, by decide, zzI7, zz_at 137 (by decide +kernel), Or.inr (zz_at 138 (by decide +kernel)), zzY7_ok, zzN7⟩, (fun _ h => absurd h List.not_mem_nil)⟩)⟩)⟩)⟩)⟩)⟩)⟩)
set_option maxRecDepth 100000 in
theorem kv_X2_69_1 : zz_KV RX2 69 RX_1 1 yX10_isGone cX10_isGone 2 (some .boolean) := zz_ku (owner := "ReconcilerHall$View") (x := ⟨"ReconcilerHall$Controller", "isGone", "(I)Z"⟩) (zz_atl [760, 761, 762, 641, 37, 642] (by decide +kernel)) rfl (by decide +kernel)
set_option maxRecDepth 100000 in
theorem kv_X2_69_2 : zz_KV RX2 69 RX_2 1 yX10_isGone cX10_isGone 2 (some .boolean) := zz_ku (owner := "ReconcilerHall$View") (x := ⟨"ReconcilerHall$Controller", "isGone", "(I)Z"⟩) (zz_atl [760, 761, 763, 641, 37, 642] (by decide +kernel)) rfl (by decide +kernel)
set_option maxRecDepth 100000 in
theorem kv_X2_69_3 : zz_KV RX2 69 RX_3 1 yX10_isGone cX10_isGone 2 (some .boolean) := zz_ku (owner := "ReconcilerHall$View") (x := ⟨"ReconcilerHall$Controller", "isGone", "(I)Z"⟩) (zz_atl [760, 761, 764, 641, 37, 642] (by decide +kernel)) rfl (by decide +kernel)
set_option maxRecDepth 100000 in
theorem kv_X2_69_4 : zz_KV RX2 69 RX_4 1 yX10_isGone cX10_isGone 2 (some .boolean) := zz_ku (owner := "ReconcilerHall$View") (x := ⟨"ReconcilerHall$Controller", "isGone", "(I)Z"⟩) (zz_atl [760, 761, 765, 641, 37, 642] (by decide +kernel)) rfl (by decide +kernel)
set_option maxRecDepth 100000 in
theorem kv_X2_69_5 : zz_KV RX2 69 RX_5 1 yX10_isGone cX10_isGone 2 (some .boolean) := zz_ku (owner := "ReconcilerHall$View") (x := ⟨"ReconcilerHall$Controller", "isGone", "(I)Z"⟩) (zz_atl [760, 761, 766, 641, 37, 642] (by decide +kernel)) rfl (by decide +kernel)
set_option maxRecDepth 100000 in
theorem kv_X2_69_6 : zz_KV RX2 69 RX_6 1 yX10_isGone cX10_isGone 2 (some .boolean) := zz_ku (owner := "ReconcilerHall$View") (x := ⟨"ReconcilerHall$Controller", "isGone", "(I)Z"⟩) (zz_atl [760, 761, 767, 641, 37, 642] (by decide +kernel)) rfl (by decide +kernel)
set_option maxRecDepth 100000 in
theorem kv_X2_69_7 : zz_KV RX2 69 RX_7 1 yX10_isGone cX10_isGone 2 (some .boolean) := zz_ku (owner := "ReconcilerHall$View") (x := ⟨"ReconcilerHall$Controller", "isGone", "(I)Z"⟩) (zz_atl [760, 761, 768, 641, 37, 642] (by decide +kernel)) rfl (by decide +kernel)
set_option maxRecDepth 100000 in
theorem kv_X2_73_1 : zz_KV RX2 73 RX_1 1 yX2_isOwnKey cX2_isOwnKey 2 (some .boolean) := zz_ku (owner := "ReconcilerHall$Controller") (x := ⟨"ReconcilerHall$Controller", "isOwnKey", "(I)Z"⟩) (zz_atl [769, 1363, 1390, 771, 40, 772] (by decide +kernel)) rfl (by decide +kernel)
set_option maxRecDepth 100000 in
theorem kv_X2_73_2 : zz_KV RX2 73 RX_2 1 yX2_isOwnKey cX2_isOwnKey 2 (some .boolean) := zz_ku (owner := "ReconcilerHall$Controller") (x := ⟨"ReconcilerHall$Controller", "isOwnKey", "(I)Z"⟩) (zz_atl [769, 1363, 1391, 771, 40, 772] (by decide +kernel)) rfl (by decide +kernel)
set_option maxRecDepth 100000 in
theorem kv_X2_73_3 : zz_KV RX2 73 RX_3 1 yX2_isOwnKey cX2_isOwnKey 2 (some .boolean) := zz_ku (owner := "ReconcilerHall$Controller") (x := ⟨"ReconcilerHall$Controller", "isOwnKey", "(I)Z"⟩) (zz_atl [769, 1363, 1392, 771, 40, 772] (by decide +kernel)) rfl (by decide +kernel)
set_option maxRecDepth 100000 in
theorem kv_X2_73_4 : zz_KV RX2 73 RX_4 1 yX2_isOwnKey cX2_isOwnKey 2 (some .boolean) := zz_ku (owner := "ReconcilerHall$Controller") (x := ⟨"ReconcilerHall$Controller", "isOwnKey", "(I)Z"⟩) (zz_atl [769, 1363, 1393, 771, 40, 772] (by decide +kernel)) rfl (by decide +kernel)
set_option maxRecDepth 100000 in
theorem kv_X2_73_5 : zz_KV RX2 73 RX_5 1 yX2_isOwnKey cX2_isOwnKey 2 (some .boolean) := zz_ku (owner := "ReconcilerHall$Controller") (x := ⟨"ReconcilerHall$Controller", "isOwnKey", "(I)Z"⟩) (zz_atl [769, 1363, 1394, 771, 40, 772] (by decide +kernel)) rfl (by decide +kernel)
set_option maxRecDepth 100000 in
theorem kv_X2_73_6 : zz_KV RX2 73 RX_6 1 yX2_isOwnKey cX2_isOwnKey 2 (some .boolean) := zz_ku (owner := "ReconcilerHall$Controller") (x := ⟨"ReconcilerHall$Controller", "isOwnKey", "(I)Z"⟩) (zz_atl [769, 1363, 1395, 771, 40, 772] (by decide +kernel)) rfl (by decide +kernel)
set_option maxRecDepth 100000 in
theorem kv_X2_73_7 : zz_KV RX2 73 RX_7 1 yX2_isOwnKey cX2_isOwnKey 2 (some .boolean) := zz_ku (owner := "ReconcilerHall$Controller") (x := ⟨"ReconcilerHall$Controller", "isOwnKey", "(I)Z"⟩) (zz_atl [769, 1363, 1396, 771, 40, 772] (by decide +kernel)) rfl (by decide +kernel)
set_option maxRecDepth 100000 in
theorem ff_X2_21 : zz_fw RX2 21 zzCl (zz_kf [1, 2, 3, 4, 5, 6, 7] 5) := zz_fw_of (List.forall_mem_cons.mpr ⟨⟨RX_1, zzT1, 12, "ReconcilerHall$Controller", zzY1, rfl, by decide, zzI1, zz_at 186 (by decide +kernel), Or.inl rfl, zzY1_ok, zzN1⟩, (List.forall_mem_cons.mpr ⟨⟨RX_2, zzT2, 12, "ReconcilerHall$Controller", zzY2, rfl, by decide, zzI2, zz_at 186 (by decide +kernel), Or.inl rfl, zzY2_ok, zzN2⟩, (List.forall_mem_cons.mpr ⟨⟨RX_3, zzT3, 12, "ReconcilerHall$Controller", zzY3, rfl, by decide, zzI3, zz_at 186 (by decide +kernel), Or.inl rfl, zzY3_ok, zzN3⟩, (List.forall_mem_cons.mpr ⟨⟨RX_4, zzT4, 12, "ReconcilerHall$Controller", zzY4, rfl, by decide, zzI4, zz_at 186 (by decide +kernel), Or.inl rfl, zzY4_ok, zzN4⟩, (List.forall_mem_cons.mpr ⟨⟨RX_5, zzT5, 12, "ReconcilerHall$Controller", zzY5, rfl, by decide, zzI5, zz_at 186 (by decide +kernel), Or.inl rfl, zzY5_ok, zzN5⟩, (List.forall_mem_cons.mpr ⟨⟨RX_6, zzT6, 13, "ReconcilerHall$Controller", zzY6, rfl, by decide, zzI6, zz_at 186 (by decide +kernel), Or.inl rfl, zzY6_ok, zzN6⟩, (List.forall_mem_cons.mpr ⟨⟨RX_7, zzT7, 15, "ReconcilerHall$Controller", zzY7, rfl, by decide, zzI7, zz_at 186 (by decide +kernel), Or.inl rfl, zzY7_ok, zzN7⟩, (fun _ h => absurd h List.not_mem_nil)⟩)⟩)⟩)⟩)⟩)⟩)⟩)
set_option maxRecDepth 100000 in
theorem kv_X2_83_1 : zz_KV RX2 83 RX_1 2 yX10_read cX10_read 3 (some .int) := zz_ku (owner := "ReconcilerHall$View") (x := ⟨"ReconcilerHall$Controller", "read", "(II)I"⟩) (zz_atl [773, 774, 775, 478, 37, 479] (by decide +kernel)) rfl (by decide +kernel)
set_option maxRecDepth 100000 in
theorem kv_X2_83_2 : zz_KV RX2 83 RX_2 2 yX10_read cX10_read 3 (some .int) := zz_ku (owner := "ReconcilerHall$View") (x := ⟨"ReconcilerHall$Controller", "read", "(II)I"⟩) (zz_atl [773, 774, 776, 478, 37, 479] (by decide +kernel)) rfl (by decide +kernel)
set_option maxRecDepth 100000 in
theorem kv_X2_83_3 : zz_KV RX2 83 RX_3 2 yX10_read cX10_read 3 (some .int) := zz_ku (owner := "ReconcilerHall$View") (x := ⟨"ReconcilerHall$Controller", "read", "(II)I"⟩) (zz_atl [773, 774, 777, 478, 37, 479] (by decide +kernel)) rfl (by decide +kernel)
set_option maxRecDepth 100000 in
theorem kv_X2_83_4 : zz_KV RX2 83 RX_4 2 yX10_read cX10_read 3 (some .int) := zz_ku (owner := "ReconcilerHall$View") (x := ⟨"ReconcilerHall$Controller", "read", "(II)I"⟩) (zz_atl [773, 774, 778, 478, 37, 479] (by decide +kernel)) rfl (by decide +kernel)
set_option maxRecDepth 100000 in
theorem kv_X2_83_5 : zz_KV RX2 83 RX_5 2 yX10_read cX10_read 3 (some .int) := zz_ku (owner := "ReconcilerHall$View") (x := ⟨"ReconcilerHall$Controller", "read", "(II)I"⟩) (zz_atl [773, 774, 779, 478, 37, 479] (by decide +kernel)) rfl (by decide +kernel)
set_option maxRecDepth 100000 in
theorem kv_X2_83_6 : zz_KV RX2 83 RX_6 2 yX10_read cX10_read 3 (some .int) := zz_ku (owner := "ReconcilerHall$View") (x := ⟨"ReconcilerHall$Controller", "read", "(II)I"⟩) (zz_atl [773, 774, 780, 478, 37, 479] (by decide +kernel)) rfl (by decide +kernel)
set_option maxRecDepth 100000 in
theorem kv_X2_83_7 : zz_KV RX2 83 RX_7 2 yX10_read cX10_read 3 (some .int) := zz_ku (owner := "ReconcilerHall$View") (x := ⟨"ReconcilerHall$Controller", "read", "(II)I"⟩) (zz_atl [773, 774, 781, 478, 37, 479] (by decide +kernel)) rfl (by decide +kernel)
set_option maxRecDepth 100000 in
theorem kv_X2_76_1 : zz_KV RX2 76 RX_1 1 yX2_enqueue cX2_enqueue 2 none := zz_ku (owner := "ReconcilerHall$Controller") (x := ⟨"ReconcilerHall$Controller", "enqueue", "(I)V"⟩) (zz_atl [782, 784, 785, 783, 40, 792] (by decide +kernel)) rfl (by decide +kernel)
set_option maxRecDepth 100000 in
theorem kv_X2_76_2 : zz_KV RX2 76 RX_2 1 yX2_enqueue cX2_enqueue 2 none := zz_ku (owner := "ReconcilerHall$Controller") (x := ⟨"ReconcilerHall$Controller", "enqueue", "(I)V"⟩) (zz_atl [782, 784, 786, 783, 40, 792] (by decide +kernel)) rfl (by decide +kernel)
set_option maxRecDepth 100000 in
theorem kv_X2_76_3 : zz_KV RX2 76 RX_3 1 yX2_enqueue cX2_enqueue 2 none := zz_ku (owner := "ReconcilerHall$Controller") (x := ⟨"ReconcilerHall$Controller", "enqueue", "(I)V"⟩) (zz_atl [782, 784, 787, 783, 40, 792] (by decide +kernel)) rfl (by decide +kernel)
set_option maxRecDepth 100000 in
theorem kv_X2_76_4 : zz_KV RX2 76 RX_4 1 yX2_enqueue cX2_enqueue 2 none := zz_ku (owner := "ReconcilerHall$Controller") (x := ⟨"ReconcilerHall$Controller", "enqueue", "(I)V"⟩) (zz_atl [782, 784, 788, 783, 40, 792] (by decide +kernel)) rfl (by decide +kernel)
set_option maxRecDepth 100000 in
theorem kv_X2_76_5 : zz_KV RX2 76 RX_5 1 yX2_enqueue cX2_enqueue 2 none := zz_ku (owner := "ReconcilerHall$Controller") (x := ⟨"ReconcilerHall$Controller", "enqueue", "(I)V"⟩) (zz_atl [782, 784, 789, 783, 40, 792] (by decide +kernel)) rfl (by decide +kernel)
set_option maxRecDepth 100000 in
theorem kv_X2_76_6 : zz_KV RX2 76 RX_6 1 yX2_enqueue cX2_enqueue 2 none := zz_ku (owner := "ReconcilerHall$Controller") (x := ⟨"ReconcilerHall$Controller", "enqueue", "(I)V"⟩) (zz_atl [782, 784, 790, 783, 40, 792] (by decide +kernel)) rfl (by decide +kernel)
set_option maxRecDepth 100000 in
theorem kv_X2_76_7 : zz_KV RX2 76 RX_7 1 yX2_enqueue cX2_enqueue 2 none := zz_ku (owner := "ReconcilerHall$Controller") (x := ⟨"ReconcilerHall$Controller", "enqueue", "(I)V"⟩) (zz_atl [782, 784, 791, 783, 40, 792] (by decide +kernel)) rfl (by decide +kernel)
set_option maxRecDepth 100000 in
theorem ff_X2_54 : zz_fw RX2 54 zzCl (zz_kf [8] 3) := zz_fw_of (List.forall_mem_cons.mpr ⟨⟨RX_8, zzT8, 9, "ReconcilerHall$Store", zzY8, rfl, by decide, zzI8, zz_at 144 (by decide +kernel), Or.inr (zz_at 141 (by decide +kernel)), zzY8_ok, zzN8⟩, (fun _ h => absurd h List.not_mem_nil)⟩)
set_option maxRecDepth 100000 in
theorem kv_X2_55_1 : zz_KV RX2 55 RX_1 0 yX2_lookAtNext cX2_lookAtNext 5 none := zz_ku (owner := "ReconcilerHall$Controller") (x := ⟨"ReconcilerHall$Controller", "lookAtNext", "()V"⟩) (zz_atl [793, 1364, 1397, 795, 40, 796] (by decide +kernel)) rfl (by decide +kernel)
set_option maxRecDepth 100000 in
theorem kv_X2_55_2 : zz_KV RX2 55 RX_2 0 yX2_lookAtNext cX2_lookAtNext 5 none := zz_ku (owner := "ReconcilerHall$Controller") (x := ⟨"ReconcilerHall$Controller", "lookAtNext", "()V"⟩) (zz_atl [793, 1364, 1398, 795, 40, 796] (by decide +kernel)) rfl (by decide +kernel)
set_option maxRecDepth 100000 in
theorem kv_X2_55_3 : zz_KV RX2 55 RX_3 0 yX2_lookAtNext cX2_lookAtNext 5 none := zz_ku (owner := "ReconcilerHall$Controller") (x := ⟨"ReconcilerHall$Controller", "lookAtNext", "()V"⟩) (zz_atl [793, 1364, 1399, 795, 40, 796] (by decide +kernel)) rfl (by decide +kernel)
set_option maxRecDepth 100000 in
theorem kv_X2_55_4 : zz_KV RX2 55 RX_4 0 yX2_lookAtNext cX2_lookAtNext 5 none := zz_ku (owner := "ReconcilerHall$Controller") (x := ⟨"ReconcilerHall$Controller", "lookAtNext", "()V"⟩) (zz_atl [793, 1364, 1400, 795, 40, 796] (by decide +kernel)) rfl (by decide +kernel)
set_option maxRecDepth 100000 in
theorem kv_X2_55_5 : zz_KV RX2 55 RX_5 0 yX2_lookAtNext cX2_lookAtNext 5 none := zz_ku (owner := "ReconcilerHall$Controller") (x := ⟨"ReconcilerHall$Controller", "lookAtNext", "()V"⟩) (zz_atl [793, 1364, 1401, 795, 40, 796] (by decide +kernel)) rfl (by decide +kernel)
set_option maxRecDepth 100000 in
theorem kv_X2_55_6 : zz_KV RX2 55 RX_6 0 yX2_lookAtNext cX2_lookAtNext 5 none := zz_ku (owner := "ReconcilerHall$Controller") (x := ⟨"ReconcilerHall$Controller", "lookAtNext", "()V"⟩) (zz_atl [793, 1364, 1402, 795, 40, 796] (by decide +kernel)) rfl (by decide +kernel)
set_option maxRecDepth 100000 in
theorem kv_X2_55_7 : zz_KV RX2 55 RX_7 0 yX2_lookAtNext cX2_lookAtNext 5 none := zz_ku (owner := "ReconcilerHall$Controller") (x := ⟨"ReconcilerHall$Controller", "lookAtNext", "()V"⟩) (zz_atl [793, 1364, 1403, 795, 40, 796] (by decide +kernel)) rfl (by decide +kernel)
set_option maxRecDepth 100000 in
theorem kv_X2_80_1 : zz_KV RX2 80 RX_1 1 yX10_objectAt cX10_objectAt 2 (some .int) := zz_ku (owner := "ReconcilerHall$View") (x := ⟨"ReconcilerHall$Controller", "objectAt", "(I)I"⟩) (zz_atl [797, 798, 799, 541, 37, 542] (by decide +kernel)) rfl (by decide +kernel)
set_option maxRecDepth 100000 in
theorem kv_X2_80_2 : zz_KV RX2 80 RX_2 1 yX10_objectAt cX10_objectAt 2 (some .int) := zz_ku (owner := "ReconcilerHall$View") (x := ⟨"ReconcilerHall$Controller", "objectAt", "(I)I"⟩) (zz_atl [797, 798, 800, 541, 37, 542] (by decide +kernel)) rfl (by decide +kernel)
set_option maxRecDepth 100000 in
theorem kv_X2_80_3 : zz_KV RX2 80 RX_3 1 yX10_objectAt cX10_objectAt 2 (some .int) := zz_ku (owner := "ReconcilerHall$View") (x := ⟨"ReconcilerHall$Controller", "objectAt", "(I)I"⟩) (zz_atl [797, 798, 801, 541, 37, 542] (by decide +kernel)) rfl (by decide +kernel)
set_option maxRecDepth 100000 in
theorem kv_X2_80_4 : zz_KV RX2 80 RX_4 1 yX10_objectAt cX10_objectAt 2 (some .int) := zz_ku (owner := "ReconcilerHall$View") (x := ⟨"ReconcilerHall$Controller", "objectAt", "(I)I"⟩) (zz_atl [797, 798, 802, 541, 37, 542] (by decide +kernel)) rfl (by decide +kernel)
set_option maxRecDepth 100000 in
theorem kv_X2_80_5 : zz_KV RX2 80 RX_5 1 yX10_objectAt cX10_objectAt 2 (some .int) := zz_ku (owner := "ReconcilerHall$View") (x := ⟨"ReconcilerHall$Controller", "objectAt", "(I)I"⟩) (zz_atl [797, 798, 803, 541, 37, 542] (by decide +kernel)) rfl (by decide +kernel)
set_option maxRecDepth 100000 in
theorem kv_X2_80_6 : zz_KV RX2 80 RX_6 1 yX10_objectAt cX10_objectAt 2 (some .int) := zz_ku (owner := "ReconcilerHall$View") (x := ⟨"ReconcilerHall$Controller", "objectAt", "(I)I"⟩) (zz_atl [797, 798, 804, 541, 37, 542] (by decide +kernel)) rfl (by decide +kernel)
set_option maxRecDepth 100000 in
theorem kv_X2_80_7 : zz_KV RX2 80 RX_7 1 yX10_objectAt cX10_objectAt 2 (some .int) := zz_ku (owner := "ReconcilerHall$View") (x := ⟨"ReconcilerHall$Controller", "objectAt", "(I)I"⟩) (zz_atl [797, 798, 805, 541, 37, 542] (by decide +kernel)) rfl (by decide +kernel)
set_option maxRecDepth 100000 in
theorem kv_X2_87_1 : zz_KV RX2 87 RX_1 2 yX10_takeIn cX10_takeIn 3 none := zz_ku (owner := "ReconcilerHall$View") (x := ⟨"ReconcilerHall$Controller", "takeIn", "(II)V"⟩) (zz_atl [806, 807, 808, 607, 37, 608] (by decide +kernel)) rfl (by decide +kernel)
set_option maxRecDepth 100000 in
theorem kv_X2_87_2 : zz_KV RX2 87 RX_2 2 yX10_takeIn cX10_takeIn 3 none := zz_ku (owner := "ReconcilerHall$View") (x := ⟨"ReconcilerHall$Controller", "takeIn", "(II)V"⟩) (zz_atl [806, 807, 809, 607, 37, 608] (by decide +kernel)) rfl (by decide +kernel)
set_option maxRecDepth 100000 in
theorem kv_X2_87_3 : zz_KV RX2 87 RX_3 2 yX10_takeIn cX10_takeIn 3 none := zz_ku (owner := "ReconcilerHall$View") (x := ⟨"ReconcilerHall$Controller", "takeIn", "(II)V"⟩) (zz_atl [806, 807, 810, 607, 37, 608] (by decide +kernel)) rfl (by decide +kernel)
set_option maxRecDepth 100000 in
theorem kv_X2_87_4 : zz_KV RX2 87 RX_4 2 yX10_takeIn cX10_takeIn 3 none := zz_ku (owner := "ReconcilerHall$View") (x := ⟨"ReconcilerHall$Controller", "takeIn", "(II)V"⟩) (zz_atl [806, 807, 811, 607, 37, 608] (by decide +kernel)) rfl (by decide +kernel)
set_option maxRecDepth 100000 in
theorem kv_X2_87_5 : zz_KV RX2 87 RX_5 2 yX10_takeIn cX10_takeIn 3 none := zz_ku (owner := "ReconcilerHall$View") (x := ⟨"ReconcilerHall$Controller", "takeIn", "(II)V"⟩) (zz_atl [806, 807, 812, 607, 37, 608] (by decide +kernel)) rfl (by decide +kernel)
set_option maxRecDepth 100000 in
theorem kv_X2_87_6 : zz_KV RX2 87 RX_6 2 yX10_takeIn cX10_takeIn 3 none := zz_ku (owner := "ReconcilerHall$View") (x := ⟨"ReconcilerHall$Controller", "takeIn", "(II)V"⟩) (zz_atl [806, 807, 813, 607, 37, 608] (by decide +kernel)) rfl (by decide +kernel)
set_option maxRecDepth 100000 in
theorem kv_X2_87_7 : zz_KV RX2 87 RX_7 2 yX10_takeIn cX10_takeIn 3 none := zz_ku (owner := "ReconcilerHall$View") (x := ⟨"ReconcilerHall$Controller", "takeIn", "(II)V"⟩) (zz_atl [806, 807, 814, 607, 37, 608] (by decide +kernel)) rfl (by decide +kernel)
set_option maxRecDepth 100000 in
theorem kv_X2_91_1 : zz_KV RX2 91 RX_1 2 yX1_queueOthers cX1_queueOthers 4 none := zz_ka (owner := "ReconcilerHall$Controller") (x := ⟨"ReconcilerHall$Controller", "queueOthers", "(II)V"⟩) (zz_atl [815, 817, 818, 819, 45, 820] (by decide +kernel)) (by decide +kernel) (by decide +kernel)
set_option maxRecDepth 100000 in
theorem kv_X2_91_2 : zz_KV RX2 91 RX_2 2 yX3_queueOthers cX3_queueOthers 3 none := zz_ka (owner := "ReconcilerHall$Controller") (x := ⟨"ReconcilerHall$Controller", "queueOthers", "(II)V"⟩) (zz_atl [815, 817, 828, 829, 41, 830] (by decide +kernel)) (by decide +kernel) (by decide +kernel)
set_option maxRecDepth 100000 in
theorem kv_X2_91_3 : zz_KV RX2 91 RX_3 2 yX4_queueOthers cX4_queueOthers 3 none := zz_ka (owner := "ReconcilerHall$Controller") (x := ⟨"ReconcilerHall$Controller", "queueOthers", "(II)V"⟩) (zz_atl [815, 817, 837, 838, 42, 839] (by decide +kernel)) (by decide +kernel) (by decide +kernel)
set_option maxRecDepth 100000 in
theorem kv_X2_91_4 : zz_KV RX2 91 RX_4 2 yX5_queueOthers cX5_queueOthers 4 none := zz_ka (owner := "ReconcilerHall$Controller") (x := ⟨"ReconcilerHall$Controller", "queueOthers", "(II)V"⟩) (zz_atl [815, 817, 846, 847, 46, 848] (by decide +kernel)) (by decide +kernel) (by decide +kernel)
set_option maxRecDepth 100000 in
theorem kv_X2_91_5 : zz_KV RX2 91 RX_5 2 yX6_queueOthers cX6_queueOthers 4 none := zz_ka (owner := "ReconcilerHall$Controller") (x := ⟨"ReconcilerHall$Controller", "queueOthers", "(II)V"⟩) (zz_atl [815, 817, 858, 859, 44, 860] (by decide +kernel)) (by decide +kernel) (by decide +kernel)
set_option maxRecDepth 100000 in
theorem kv_X2_91_6 : zz_KV RX2 91 RX_6 2 yX7_queueOthers cX7_queueOthers 3 none := zz_ka (owner := "ReconcilerHall$Controller") (x := ⟨"ReconcilerHall$Controller", "queueOthers", "(II)V"⟩) (zz_atl [815, 817, 867, 868, 47, 869] (by decide +kernel)) (by decide +kernel) (by decide +kernel)
set_option maxRecDepth 100000 in
theorem kv_X2_91_7 : zz_KV RX2 91 RX_7 2 yX8_queueOthers cX8_queueOthers 4 none := zz_ka (owner := "ReconcilerHall$Controller") (x := ⟨"ReconcilerHall$Controller", "queueOthers", "(II)V"⟩) (zz_atl [815, 817, 870, 871, 43, 872] (by decide +kernel)) (by decide +kernel) (by decide +kernel)
set_option maxRecDepth 100000 in
theorem kv_X3_9_2 : zz_KV RX3 9 RX_2 2 yX10_read cX10_read 3 (some .int) := zz_ku (owner := "ReconcilerHall$View") (x := ⟨"ReconcilerHall$Deployer", "read", "(II)I"⟩) (zz_atl [831, 832, 833, 478, 37, 479] (by decide +kernel)) rfl (by decide +kernel)
set_option maxRecDepth 100000 in
theorem kv_X3_15_2 : zz_KV RX3 15 RX_2 1 yX2_enqueue cX2_enqueue 2 none := zz_ku (owner := "ReconcilerHall$Controller") (x := ⟨"ReconcilerHall$Deployer", "enqueue", "(I)V"⟩) (zz_atl [834, 835, 836, 783, 40, 792] (by decide +kernel)) rfl (by decide +kernel)
set_option maxRecDepth 100000 in
theorem kv_X4_9_3 : zz_KV RX4 9 RX_3 2 yX10_read cX10_read 3 (some .int) := zz_ku (owner := "ReconcilerHall$View") (x := ⟨"ReconcilerHall$PodMaker", "read", "(II)I"⟩) (zz_atl [840, 841, 842, 478, 37, 479] (by decide +kernel)) rfl (by decide +kernel)
set_option maxRecDepth 100000 in
theorem ff_X4_15 : zz_fw RX4 15 zzCl (zz_kf [3] 5) := zz_fw_of (List.forall_mem_cons.mpr ⟨⟨RX_3, zzT3, 12, "ReconcilerHall$PodMaker", zzY3, rfl, by decide, zzI3, zz_at 187 (by decide +kernel), Or.inr (zz_at 188 (by decide +kernel)), zzY3_ok, zzN3⟩, (fun _ h => absurd h List.not_mem_nil)⟩)
set_option maxRecDepth 100000 in
theorem kv_X4_19_3 : zz_KV RX4 19 RX_3 1 yX2_enqueue cX2_enqueue 2 none := zz_ku (owner := "ReconcilerHall$Controller") (x := ⟨"ReconcilerHall$PodMaker", "enqueue", "(I)V"⟩) (zz_atl [843, 844, 845, 783, 40, 792] (by decide +kernel)) rfl (by decide +kernel)
set_option maxRecDepth 100000 in
theorem ff_X5_9 : zz_fw RX5 9 zzCl (zz_kf [4] 2) := zz_fw_of (List.forall_mem_cons.mpr ⟨⟨RX_4, zzT4, 12, "ReconcilerHall$Router", zzY4, rfl, by decide, zzI4, zz_at 122 (by decide +kernel), Or.inr (zz_at 123 (by decide +kernel)), zzY4_ok, zzN4⟩, (fun _ h => absurd h List.not_mem_nil)⟩)
set_option maxRecDepth 100000 in
theorem kv_X5_15_4 : zz_KV RX5 15 RX_4 2 yX10_read cX10_read 3 (some .int) := zz_ku (owner := "ReconcilerHall$View") (x := ⟨"ReconcilerHall$Router", "read", "(II)I"⟩) (zz_atl [849, 850, 851, 478, 37, 479] (by decide +kernel)) rfl (by decide +kernel)
set_option maxRecDepth 100000 in
theorem kv_X5_19_4 : zz_KV RX5 19 RX_4 1 yX10_isGone cX10_isGone 2 (some .boolean) := zz_ku (owner := "ReconcilerHall$View") (x := ⟨"ReconcilerHall$Router", "isGone", "(I)Z"⟩) (zz_atl [852, 853, 854, 641, 37, 642] (by decide +kernel)) rfl (by decide +kernel)
set_option maxRecDepth 100000 in
theorem kv_X5_23_4 : zz_KV RX5 23 RX_4 1 yX2_enqueue cX2_enqueue 2 none := zz_ku (owner := "ReconcilerHall$Controller") (x := ⟨"ReconcilerHall$Router", "enqueue", "(I)V"⟩) (zz_atl [855, 856, 857, 783, 40, 792] (by decide +kernel)) rfl (by decide +kernel)
set_option maxRecDepth 100000 in
theorem ff_X6_9 : zz_fw RX6 9 zzCl (zz_kf [5] 2) := zz_fw_of (List.forall_mem_cons.mpr ⟨⟨RX_5, zzT5, 12, "ReconcilerHall$Runner", zzY5, rfl, by decide, zzI5, zz_at 124 (by decide +kernel), Or.inr (zz_at 125 (by decide +kernel)), zzY5_ok, zzN5⟩, (fun _ h => absurd h List.not_mem_nil)⟩)
set_option maxRecDepth 100000 in
theorem kv_X6_15_5 : zz_KV RX6 15 RX_5 2 yX10_read cX10_read 3 (some .int) := zz_ku (owner := "ReconcilerHall$View") (x := ⟨"ReconcilerHall$Runner", "read", "(II)I"⟩) (zz_atl [861, 862, 863, 478, 37, 479] (by decide +kernel)) rfl (by decide +kernel)
set_option maxRecDepth 100000 in
theorem kv_X6_19_5 : zz_KV RX6 19 RX_5 1 yX2_enqueue cX2_enqueue 2 none := zz_ku (owner := "ReconcilerHall$Controller") (x := ⟨"ReconcilerHall$Runner", "enqueue", "(I)V"⟩) (zz_atl [864, 865, 866, 783, 40, 792] (by decide +kernel)) rfl (by decide +kernel)
set_option maxRecDepth 100000 in
theorem ff_X8_21 : zz_fw RX8 21 zzCl (zz_kf [7] 2) := zz_fw_of (List.forall_mem_cons.mpr ⟨⟨RX_7, zzT7, 15, "ReconcilerHall$Scheduler", zzY7, rfl, by decide, zzI7, zz_at 126 (by decide +kernel), Or.inr (zz_at 127 (by decide +kernel)), zzY7_ok, zzN7⟩, (fun _ h => absurd h List.not_mem_nil)⟩)
set_option maxRecDepth 100000 in
theorem kv_X8_25_7 : zz_KV RX8 25 RX_7 2 yX10_read cX10_read 3 (some .int) := zz_ku (owner := "ReconcilerHall$View") (x := ⟨"ReconcilerHall$Scheduler", "read", "(II)I"⟩) (zz_atl [873, 874, 875, 478, 37, 479] (by decide +kernel)) rfl (by decide +kernel)
set_option maxRecDepth 100000 in
theorem kv_X8_29_7 : zz_KV RX8 29 RX_7 1 yX8_isWithoutPlace cX8_isWithoutPlace 2 (some .boolean) ∧ zz_KX RX8 29 RX_7 1 yX8_isWithoutPlace cX8_isWithoutPlace 2 (some .boolean) := zz_kv (zz_atl [876, 878, 11, 43, 879] (by decide +kernel)) (by decide +kernel)
set_option maxRecDepth 100000 in
theorem kv_X8_37_7 : zz_KV RX8 37 RX_7 2 yX10_isStaying cX10_isStaying 3 (some .boolean) := zz_ku (owner := "ReconcilerHall$View") (x := ⟨"ReconcilerHall$Scheduler", "isStaying", "(II)Z"⟩) (zz_atl [880, 881, 883, 884, 37, 885] (by decide +kernel)) rfl (by decide +kernel)
set_option maxRecDepth 100000 in
theorem kv_X8_33_7 : zz_KV RX8 33 RX_7 1 yX2_enqueue cX2_enqueue 2 none := zz_ku (owner := "ReconcilerHall$Controller") (x := ⟨"ReconcilerHall$Scheduler", "enqueue", "(I)V"⟩) (zz_atl [886, 887, 888, 783, 40, 792] (by decide +kernel)) rfl (by decide +kernel)
set_option maxRecDepth 100000 in
theorem kv_X2_58_1 : zz_KV RX2 58 RX_1 1 yX2_look cX2_look 4 (some .int) := zz_ku (owner := "ReconcilerHall$Controller") (x := ⟨"ReconcilerHall$Controller", "look", "(I)I"⟩) (zz_atl [1221, 734, 735, 733, 40, 742] (by decide +kernel)) rfl (by decide +kernel)
set_option maxRecDepth 100000 in
theorem kv_X2_58_2 : zz_KV RX2 58 RX_2 1 yX2_look cX2_look 4 (some .int) := zz_ku (owner := "ReconcilerHall$Controller") (x := ⟨"ReconcilerHall$Controller", "look", "(I)I"⟩) (zz_atl [1221, 734, 736, 733, 40, 742] (by decide +kernel)) rfl (by decide +kernel)
set_option maxRecDepth 100000 in
theorem kv_X2_58_3 : zz_KV RX2 58 RX_3 1 yX2_look cX2_look 4 (some .int) := zz_ku (owner := "ReconcilerHall$Controller") (x := ⟨"ReconcilerHall$Controller", "look", "(I)I"⟩) (zz_atl [1221, 734, 737, 733, 40, 742] (by decide +kernel)) rfl (by decide +kernel)
set_option maxRecDepth 100000 in
theorem kv_X2_58_4 : zz_KV RX2 58 RX_4 1 yX2_look cX2_look 4 (some .int) := zz_ku (owner := "ReconcilerHall$Controller") (x := ⟨"ReconcilerHall$Controller", "look", "(I)I"⟩) (zz_atl [1221, 734, 738, 733, 40, 742] (by decide +kernel)) rfl (by decide +kernel)
set_option maxRecDepth 100000 in
theorem kv_X2_58_5 : zz_KV RX2 58 RX_5 1 yX2_look cX2_look 4 (some .int) := zz_ku (owner := "ReconcilerHall$Controller") (x := ⟨"ReconcilerHall$Controller", "look", "(I)I"⟩) (zz_atl [1221, 734, 739, 733, 40, 742] (by decide +kernel)) rfl (by decide +kernel)
set_option maxRecDepth 100000 in
theorem kv_X2_58_6 : zz_KV RX2 58 RX_6 1 yX2_look cX2_look 4 (some .int) := zz_ku (owner := "ReconcilerHall$Controller") (x := ⟨"ReconcilerHall$Controller", "look", "(I)I"⟩) (zz_atl [1221, 734, 740, 733, 40, 742] (by decide +kernel)) rfl (by decide +kernel)
set_option maxRecDepth 100000 in
theorem kv_X2_58_7 : zz_KV RX2 58 RX_7 1 yX2_look cX2_look 4 (some .int) := zz_ku (owner := "ReconcilerHall$Controller") (x := ⟨"ReconcilerHall$Controller", "look", "(I)I"⟩) (zz_atl [1221, 734, 741, 733, 40, 742] (by decide +kernel)) rfl (by decide +kernel)
set_option maxRecDepth 100000 in
theorem ff_X2_35 : zz_fw RX2 35 zzCl (zz_kf [1, 2, 3, 4, 5, 6, 7] 9) := zz_fw_of (List.forall_mem_cons.mpr ⟨⟨RX_1, zzT1, 12, "ReconcilerHall$Controller", zzY1, rfl, by decide, zzI1, zz_at 193 (by decide +kernel), Or.inl rfl, zzY1_ok, zzN1⟩, (List.forall_mem_cons.mpr ⟨⟨RX_2, zzT2, 12, "ReconcilerHall$Controller", zzY2, rfl, by decide, zzI2, zz_at 193 (by decide +kernel), Or.inl rfl, zzY2_ok, zzN2⟩, (List.forall_mem_cons.mpr ⟨⟨RX_3, zzT3, 12, "ReconcilerHall$Controller", zzY3, rfl, by decide, zzI3, zz_at 193 (by decide +kernel), Or.inl rfl, zzY3_ok, zzN3⟩, (List.forall_mem_cons.mpr ⟨⟨RX_4, zzT4, 12, "ReconcilerHall$Controller", zzY4, rfl, by decide, zzI4, zz_at 193 (by decide +kernel), Or.inl rfl, zzY4_ok, zzN4⟩, (List.forall_mem_cons.mpr ⟨⟨RX_5, zzT5, 12, "ReconcilerHall$Controller", zzY5, rfl, by decide, zzI5, zz_at 193 (by decide +kernel), Or.inl rfl, zzY5_ok, zzN5⟩, (List.forall_mem_cons.mpr ⟨⟨RX_6, zzT6, 13, "ReconcilerHall$Controller", zzY6, rfl, by decide, zzI6, zz_at 193 (by decide +kernel), Or.inl rfl, zzY6_ok, zzN6⟩, (List.forall_mem_cons.mpr ⟨⟨RX_7, zzT7, 15, "ReconcilerHall$Controller", zzY7, rfl, by decide, zzI7, zz_at 193 (by decide +kernel), Or.inl rfl, zzY7_ok, zzN7⟩, (fun _ h => absurd h List.not_mem_nil)⟩)⟩)⟩)⟩)⟩)⟩)⟩)
set_option maxRecDepth 100000 in
theorem ff_X2_94 : zz_fw RX2 94 zzCl (zz_kf [8] 7) := zz_fw_of (List.forall_mem_cons.mpr ⟨⟨RX_8, zzT8, 9, "ReconcilerHall$Store", zzY8, rfl, by decide, zzI8, zz_at 113 (by decide +kernel), Or.inl rfl, zzY8_ok, zzN8⟩, (fun _ h => absurd h List.not_mem_nil)⟩)
set_option maxRecDepth 100000 in
theorem kv_X2_103_1 : zz_KV RX2 103 RX_1 0 yX2_takeKey cX2_takeKey 3 (some .int) := zz_ku (owner := "ReconcilerHall$Controller") (x := ⟨"ReconcilerHall$Controller", "takeKey", "()I"⟩) (zz_atl [904, 1365, 1404, 906, 40, 907] (by decide +kernel)) rfl (by decide +kernel)
set_option maxRecDepth 100000 in
theorem kv_X2_103_2 : zz_KV RX2 103 RX_2 0 yX2_takeKey cX2_takeKey 3 (some .int) := zz_ku (owner := "ReconcilerHall$Controller") (x := ⟨"ReconcilerHall$Controller", "takeKey", "()I"⟩) (zz_atl [904, 1365, 1405, 906, 40, 907] (by decide +kernel)) rfl (by decide +kernel)
set_option maxRecDepth 100000 in
theorem kv_X2_103_3 : zz_KV RX2 103 RX_3 0 yX2_takeKey cX2_takeKey 3 (some .int) := zz_ku (owner := "ReconcilerHall$Controller") (x := ⟨"ReconcilerHall$Controller", "takeKey", "()I"⟩) (zz_atl [904, 1365, 1406, 906, 40, 907] (by decide +kernel)) rfl (by decide +kernel)
set_option maxRecDepth 100000 in
theorem kv_X2_103_4 : zz_KV RX2 103 RX_4 0 yX2_takeKey cX2_takeKey 3 (some .int) := zz_ku (owner := "ReconcilerHall$Controller") (x := ⟨"ReconcilerHall$Controller", "takeKey", "()I"⟩) (zz_atl [904, 1365, 1407, 906, 40, 907] (by decide +kernel)) rfl (by decide +kernel)
set_option maxRecDepth 100000 in
theorem kv_X2_103_5 : zz_KV RX2 103 RX_5 0 yX2_takeKey cX2_takeKey 3 (some .int) := zz_ku (owner := "ReconcilerHall$Controller") (x := ⟨"ReconcilerHall$Controller", "takeKey", "()I"⟩) (zz_atl [904, 1365, 1408, 906, 40, 907] (by decide +kernel)) rfl (by decide +kernel)
set_option maxRecDepth 100000 in
theorem kv_X2_103_6 : zz_KV RX2 103 RX_6 0 yX2_takeKey cX2_takeKey 3 (some .int) := zz_ku (owner := "ReconcilerHall$Controller") (x := ⟨"ReconcilerHall$Controller", "takeKey", "()I"⟩) (zz_atl [904, 1365, 1409, 906, 40, 907] (by decide +kernel)) rfl (by decide +kernel)
set_option maxRecDepth 100000 in
theorem kv_X2_103_7 : zz_KV RX2 103 RX_7 0 yX2_takeKey cX2_takeKey 3 (some .int) := zz_ku (owner := "ReconcilerHall$Controller") (x := ⟨"ReconcilerHall$Controller", "takeKey", "()I"⟩) (zz_atl [904, 1365, 1410, 906, 40, 907] (by decide +kernel)) rfl (by decide +kernel)
set_option maxRecDepth 100000 in
theorem ff_X2_38 : zz_fw RX2 38 zzCl (zz_kf [1, 2, 3, 4, 5, 6, 7] 10) := zz_fw_of (List.forall_mem_cons.mpr ⟨⟨RX_1, zzT1, 12, "ReconcilerHall$Controller", zzY1, rfl, by decide, zzI1, zz_at 196 (by decide +kernel), Or.inl rfl, zzY1_ok, zzN1⟩, (List.forall_mem_cons.mpr ⟨⟨RX_2, zzT2, 12, "ReconcilerHall$Controller", zzY2, rfl, by decide, zzI2, zz_at 196 (by decide +kernel), Or.inl rfl, zzY2_ok, zzN2⟩, (List.forall_mem_cons.mpr ⟨⟨RX_3, zzT3, 12, "ReconcilerHall$Controller", zzY3, rfl, by decide, zzI3, zz_at 196 (by decide +kernel), Or.inl rfl, zzY3_ok, zzN3⟩, (List.forall_mem_cons.mpr ⟨⟨RX_4, zzT4, 12, "ReconcilerHall$Controller", zzY4, rfl, by decide, zzI4, zz_at 196 (by decide +kernel), Or.inl rfl, zzY4_ok, zzN4⟩, (List.forall_mem_cons.mpr ⟨⟨RX_5, zzT5, 12, "ReconcilerHall$Controller", zzY5, rfl, by decide, zzI5, zz_at 196 (by decide +kernel), Or.inl rfl, zzY5_ok, zzN5⟩, (List.forall_mem_cons.mpr ⟨⟨RX_6, zzT6, 13, "ReconcilerHall$Controller", zzY6, rfl, by decide, zzI6, zz_at 196 (by decide +kernel), Or.inl rfl, zzY6_ok, zzN6⟩, (List.forall_mem_cons.mpr ⟨⟨RX_7, zzT7, 15, "ReconcilerHall$Controller", zzY7, rfl, by decide, zzI7, zz_at 196 (by decide +kernel), Or.inl rfl, zzY7_ok, zzN7⟩, (fun _ h => absurd h List.not_mem_nil)⟩)⟩)⟩)⟩)⟩)⟩)⟩)
set_option maxRecDepth 100000 in
theorem kv_X2_107_1 : zz_KV RX2 107 RX_1 1 yX1_serve cX1_serve 4 (some .int) := zz_ka (owner := "ReconcilerHall$Controller") (x := ⟨"ReconcilerHall$Controller", "serve", "(I)I"⟩) (zz_atl [909, 911, 912, 913, 45, 914] (by decide +kernel)) (by decide +kernel) (by decide +kernel)
set_option maxRecDepth 100000 in
theorem kv_X2_107_2 : zz_KV RX2 107 RX_2 1 yX3_serve cX3_serve 7 (some .int) := zz_ka (owner := "ReconcilerHall$Controller") (x := ⟨"ReconcilerHall$Controller", "serve", "(I)I"⟩) (zz_atl [909, 911, 972, 973, 41, 974] (by decide +kernel)) (by decide +kernel) (by decide +kernel)
set_option maxRecDepth 100000 in
theorem kv_X2_107_3 : zz_KV RX2 107 RX_3 1 yX4_serve cX4_serve 2 (some .int) := zz_ka (owner := "ReconcilerHall$Controller") (x := ⟨"ReconcilerHall$Controller", "serve", "(I)I"⟩) (zz_atl [909, 911, 1044, 1045, 42, 1046] (by decide +kernel)) (by decide +kernel) (by decide +kernel)
set_option maxRecDepth 100000 in
theorem kv_X2_107_4 : zz_KV RX2 107 RX_4 1 yX5_serve cX5_serve 4 (some .int) := zz_ka (owner := "ReconcilerHall$Controller") (x := ⟨"ReconcilerHall$Controller", "serve", "(I)I"⟩) (zz_atl [909, 911, 1073, 1074, 46, 1075] (by decide +kernel)) (by decide +kernel) (by decide +kernel)
set_option maxRecDepth 100000 in
theorem kv_X2_107_5 : zz_KV RX2 107 RX_5 1 yX6_serve cX6_serve 6 (some .int) := zz_ka (owner := "ReconcilerHall$Controller") (x := ⟨"ReconcilerHall$Controller", "serve", "(I)I"⟩) (zz_atl [909, 911, 1093, 1094, 44, 1095] (by decide +kernel)) (by decide +kernel) (by decide +kernel)
set_option maxRecDepth 100000 in
theorem kv_X2_107_6 : zz_KV RX2 107 RX_6 1 yX7_serve cX7_serve 7 (some .int) := zz_ka (owner := "ReconcilerHall$Controller") (x := ⟨"ReconcilerHall$Controller", "serve", "(I)I"⟩) (zz_atl [909, 911, 1122, 1123, 47, 1124] (by decide +kernel)) (by decide +kernel) (by decide +kernel)
set_option maxRecDepth 100000 in
theorem kv_X2_107_7 : zz_KV RX2 107 RX_7 1 yX8_serve cX8_serve 6 (some .int) := zz_ka (owner := "ReconcilerHall$Controller") (x := ⟨"ReconcilerHall$Controller", "serve", "(I)I"⟩) (zz_atl [909, 911, 1140, 1141, 43, 1142] (by decide +kernel)) (by decide +kernel) (by decide +kernel)
set_option maxRecDepth 100000 in
theorem kv_X3_19_2 : zz_KV RX3 19 RX_2 2 yX10_isStaying cX10_isStaying 3 (some .boolean) := zz_ku (owner := "ReconcilerHall$View") (x := ⟨"ReconcilerHall$Deployer", "isStaying", "(II)Z"⟩) (zz_atl [975, 976, 977, 884, 37, 885] (by decide +kernel)) rfl (by decide +kernel)
set_option maxRecDepth 100000 in
theorem kv_X3_23_2 : zz_KV RX3 23 RX_2 1 yX10_newSetOf cX10_newSetOf 4 (some .int) := zz_ku (owner := "ReconcilerHall$View") (x := ⟨"ReconcilerHall$Deployer", "newSetOf", "(I)I"⟩) (zz_atl [978, 979, 981, 982, 37, 983] (by decide +kernel)) rfl (by decide +kernel)
set_option maxRecDepth 100000 in
theorem kv_X10_35_1 : zz_KV RX10 35 RX_1 3 yX10_isOwned cX10_isOwned 4 (some .boolean) := zz_ku (owner := "ReconcilerHall$View") (x := ⟨"ReconcilerHall$View", "isOwned", "(III)Z"⟩) (zz_atl [984, 986, 987, 985, 37, 995] (by decide +kernel)) rfl (by decide +kernel)
set_option maxRecDepth 100000 in
theorem kv_X10_35_2 : zz_KV RX10 35 RX_2 3 yX10_isOwned cX10_isOwned 4 (some .boolean) := zz_ku (owner := "ReconcilerHall$View") (x := ⟨"ReconcilerHall$View", "isOwned", "(III)Z"⟩) (zz_atl [984, 986, 988, 985, 37, 995] (by decide +kernel)) rfl (by decide +kernel)
set_option maxRecDepth 100000 in
theorem kv_X10_35_3 : zz_KV RX10 35 RX_3 3 yX10_isOwned cX10_isOwned 4 (some .boolean) := zz_ku (owner := "ReconcilerHall$View") (x := ⟨"ReconcilerHall$View", "isOwned", "(III)Z"⟩) (zz_atl [984, 986, 989, 985, 37, 995] (by decide +kernel)) rfl (by decide +kernel)
set_option maxRecDepth 100000 in
theorem kv_X10_35_4 : zz_KV RX10 35 RX_4 3 yX10_isOwned cX10_isOwned 4 (some .boolean) := zz_ku (owner := "ReconcilerHall$View") (x := ⟨"ReconcilerHall$View", "isOwned", "(III)Z"⟩) (zz_atl [984, 986, 990, 985, 37, 995] (by decide +kernel)) rfl (by decide +kernel)
set_option maxRecDepth 100000 in
theorem kv_X10_35_5 : zz_KV RX10 35 RX_5 3 yX10_isOwned cX10_isOwned 4 (some .boolean) := zz_ku (owner := "ReconcilerHall$View") (x := ⟨"ReconcilerHall$View", "isOwned", "(III)Z"⟩) (zz_atl [984, 986, 991, 985, 37, 995] (by decide +kernel)) rfl (by decide +kernel)
set_option maxRecDepth 100000 in
theorem kv_X10_35_6 : zz_KV RX10 35 RX_6 3 yX10_isOwned cX10_isOwned 4 (some .boolean) := zz_ku (owner := "ReconcilerHall$View") (x := ⟨"ReconcilerHall$View", "isOwned", "(III)Z"⟩) (zz_atl [984, 986, 992, 985, 37, 995] (by decide +kernel)) rfl (by decide +kernel)
set_option maxRecDepth 100000 in
theorem kv_X10_35_7 : zz_KV RX10 35 RX_7 3 yX10_isOwned cX10_isOwned 4 (some .boolean) := zz_ku (owner := "ReconcilerHall$View") (x := ⟨"ReconcilerHall$View", "isOwned", "(III)Z"⟩) (zz_atl [984, 986, 993, 985, 37, 995] (by decide +kernel)) rfl (by decide +kernel)
set_option maxRecDepth 100000 in
theorem kv_X10_35_8 : zz_KV RX10 35 RX_8 3 yX10_isOwned cX10_isOwned 4 (some .boolean) := zz_ku (owner := "ReconcilerHall$View") (x := ⟨"ReconcilerHall$View", "isOwned", "(III)Z"⟩) (zz_atl [984, 986, 994, 985, 37, 995] (by decide +kernel)) rfl (by decide +kernel)
set_option maxRecDepth 100000 in
theorem kv_X3_27_2 : zz_KV RX3 27 RX_2 2 yX2_makeFor cX2_makeFor 3 (some .boolean) := zz_ku (owner := "ReconcilerHall$Controller") (x := ⟨"ReconcilerHall$Deployer", "makeFor", "(II)Z"⟩) (zz_atl [996, 997, 999, 1000, 40, 1001] (by decide +kernel)) rfl (by decide +kernel)
set_option maxRecDepth 100000 in
theorem kv_X2_132_8 : zz_KV RX2 132 RX_8 4 yX9_open cX9_open 6 (some .int) ∧ zz_KX RX2 132 RX_8 4 yX9_open cX9_open 6 (some .int) := zz_kv (zz_atl [1002, 565, 566, 38, 567] (by decide +kernel)) (by decide +kernel)
set_option maxRecDepth 100000 in
theorem ff_X9_31 : zz_fw RX9 31 zzCl (zz_kf [8] 2) := zz_fw_of (List.forall_mem_cons.mpr ⟨⟨RX_8, zzT8, 9, "ReconcilerHall$Store", zzY8, rfl, by decide, zzI8, zz_at 130 (by decide +kernel), Or.inr (zz_at 131 (by decide +kernel)), zzY8_ok, zzN8⟩, (fun _ h => absurd h List.not_mem_nil)⟩)
set_option maxRecDepth 100000 in
theorem kv_X9_35_8 : zz_KV RX9 35 RX_8 0 yX9_livingPods cX9_livingPods 3 (some .int) ∧ zz_KX RX9 35 RX_8 0 yX9_livingPods cX9_livingPods 3 (some .int) := zz_kv (zz_atl [568, 570, 5, 38, 571] (by decide +kernel)) (by decide +kernel)
set_option maxRecDepth 100000 in
theorem kv_X9_63_8 : zz_KV RX9 63 RX_8 2 yX10_read cX10_read 3 (some .int) := zz_ku (owner := "ReconcilerHall$View") (x := ⟨"ReconcilerHall$Store", "read", "(II)I"⟩) (zz_atl [572, 475, 477, 478, 37, 479] (by decide +kernel)) rfl (by decide +kernel)
set_option maxRecDepth 100000 in
theorem ff_X9_20 : zz_fw RX9 20 zzCl (zz_kf [8] 4) := zz_fw_of (List.forall_mem_cons.mpr ⟨⟨RX_8, zzT8, 9, "ReconcilerHall$Store", zzY8, rfl, by decide, zzI8, zz_at 106 (by decide +kernel), Or.inl rfl, zzY8_ok, zzN8⟩, (fun _ h => absurd h List.not_mem_nil)⟩)
set_option maxRecDepth 100000 in
theorem ff_X9_39 : zz_fw RX9 39 zzCl (zz_kf [0] 5) := zz_fw_of (List.forall_mem_cons.mpr ⟨⟨RX_0, zzT0, 6, "ReconcilerHall$Admission", zzY0, rfl, by decide, zzI0, zz_at 90 (by decide +kernel), Or.inl rfl, zzY0_ok, zzN0⟩, (fun _ h => absurd h List.not_mem_nil)⟩)
set_option maxRecDepth 100000 in
theorem kv_X9_42_8 : zz_KV RX9 42 RX_8 2 yX9_draftNew cX9_draftNew 4 none ∧ zz_KX RX9 42 RX_8 2 yX9_draftNew cX9_draftNew 4 none := zz_kv (zz_atl [573, 575, 6, 38, 576] (by decide +kernel)) (by decide +kernel)
set_option maxRecDepth 100000 in
theorem kv_X9_46_0 : zz_KV RX9 46 RX_0 1 yX0_settles cX0_settles 5 (some .boolean) ∧ zz_KX RX9 46 RX_0 1 yX0_settles cX0_settles 5 (some .boolean) := zz_kv (zz_atl [578, 579, 580, 39, 581] (by decide +kernel)) (by decide +kernel)
set_option maxRecDepth 100000 in
theorem kv_X9_50_0 : zz_KV RX9 50 RX_0 1 yX0_allows cX0_allows 4 (some .boolean) ∧ zz_KX RX9 50 RX_0 1 yX0_allows cX0_allows 4 (some .boolean) := zz_kv (zz_atl [589, 590, 591, 39, 592] (by decide +kernel)) (by decide +kernel)
set_option maxRecDepth 100000 in
theorem ff_X9_24 : zz_fw RX9 24 zzCl (zz_kf [8] 5) := zz_fw_of (List.forall_mem_cons.mpr ⟨⟨RX_8, zzT8, 9, "ReconcilerHall$Store", zzY8, rfl, by decide, zzI8, zz_at 108 (by decide +kernel), Or.inl rfl, zzY8_ok, zzN8⟩, (fun _ h => absurd h List.not_mem_nil)⟩)
set_option maxRecDepth 100000 in
theorem ff_X9_57 : zz_fw RX9 57 zzCl (zz_kf [8] 7) := zz_fw_of (List.forall_mem_cons.mpr ⟨⟨RX_8, zzT8, 9, "ReconcilerHall$Store", zzY8, rfl, by decide, zzI8, zz_at 112 (by decide +kernel), Or.inl rfl, zzY8_ok, zzN8⟩, (fun _ h => absurd h List.not_mem_nil)⟩)
set_option maxRecDepth 100000 in
theorem ks_X3_30 : zz_KS RX3 30 1 yX2_outcomeOf cX2_outcomeOf 1 (some .int) := zz_ksu (x := ⟨"ReconcilerHall$Deployer", "outcomeOf", "(Z)I"⟩) (zz_at 949 (by decide +kernel)) (zz_at 40 (by decide +kernel)) (zz_at 1003 (by decide +kernel)) (zz_at 948 (by decide +kernel)) (zz_at 1004 (by decide +kernel)) rfl (by decide +kernel)
set_option maxRecDepth 100000 in
theorem kv_X3_34_2 : zz_KV RX3 34 RX_2 2 yX2_want cX2_want 3 (some .boolean) := zz_ku (owner := "ReconcilerHall$Controller") (x := ⟨"ReconcilerHall$Deployer", "want", "(II)Z"⟩) (zz_atl [1005, 1006, 1008, 1009, 40, 1010] (by decide +kernel)) rfl (by decide +kernel)
set_option maxRecDepth 100000 in
theorem kv_X2_120_8 : zz_KV RX2 120 RX_8 4 yX9_applyField cX9_applyField 5 (some .boolean) ∧ zz_KX RX2 120 RX_8 4 yX9_applyField cX9_applyField 5 (some .boolean) := zz_kv (zz_atl [1011, 647, 648, 38, 649] (by decide +kernel)) (by decide +kernel)
set_option maxRecDepth 100000 in
theorem ks_X9_67 : zz_KS RX9 67 2 yX11_hasField cX11_hasField 2 (some .boolean) := zz_ksn (host := "ReconcilerHall") (zz_at 490 (by decide +kernel)) (zz_at 36 (by decide +kernel)) (by decide +kernel) (zz_at 489 (by decide +kernel)) (by decide +kernel)
set_option maxRecDepth 100000 in
theorem ks_X11_58 : zz_KS RX11 58 1 yX11_isKind cX11_isKind 1 (some .boolean) := zz_ks (zz_atl [491, 492, 36, 493] (by decide +kernel)) (by decide +kernel)
set_option maxRecDepth 100000 in
theorem kv_X3_37_2 : zz_KV RX3 37 RX_2 1 yX3_wantedTogether cX3_wantedTogether 4 (some .int) ∧ zz_KX RX3 37 RX_2 1 yX3_wantedTogether cX3_wantedTogether 4 (some .int) := zz_kv (zz_atl [1012, 1014, 15, 41, 1015] (by decide +kernel)) (by decide +kernel)
set_option maxRecDepth 100000 in
theorem ff_X3_51 : zz_fw RX3 51 zzCl (zz_kf [2] 2) := zz_fw_of (List.forall_mem_cons.mpr ⟨⟨RX_2, zzT2, 12, "ReconcilerHall$Deployer", zzY2, rfl, by decide, zzI2, zz_at 132 (by decide +kernel), Or.inr (zz_at 133 (by decide +kernel)), zzY2_ok, zzN2⟩, (fun _ h => absurd h List.not_mem_nil)⟩)
set_option maxRecDepth 100000 in
theorem kv_X3_55_2 : zz_KV RX3 55 RX_2 3 yX10_isOwned cX10_isOwned 4 (some .boolean) := zz_ku (owner := "ReconcilerHall$View") (x := ⟨"ReconcilerHall$Deployer", "isOwned", "(III)Z"⟩) (zz_atl [1016, 1017, 1019, 985, 37, 995] (by decide +kernel)) rfl (by decide +kernel)
set_option maxRecDepth 100000 in
theorem kv_X3_45_2 : zz_KV RX3 45 RX_2 2 yX3_otherSetOf cX3_otherSetOf 4 (some .int) ∧ zz_KX RX3 45 RX_2 2 yX3_otherSetOf cX3_otherSetOf 4 (some .int) := zz_kv (zz_atl [1023, 1025, 16, 41, 1026] (by decide +kernel)) (by decide +kernel)
set_option maxRecDepth 100000 in
theorem kv_X3_48_2 : zz_KV RX3 48 RX_2 2 yX3_lessWanted cX3_lessWanted 6 (some .int) ∧ zz_KX RX3 48 RX_2 2 yX3_lessWanted cX3_lessWanted 6 (some .int) := zz_kv (zz_atl [1027, 1029, 17, 41, 1030] (by decide +kernel)) (by decide +kernel)
set_option maxRecDepth 100000 in
theorem kv_X3_59_2 : zz_KV RX3 59 RX_2 1 yX10_countRunning cX10_countRunning 4 (some .int) := zz_ku (owner := "ReconcilerHall$View") (x := ⟨"ReconcilerHall$Deployer", "countRunning", "(I)I"⟩) (zz_atl [1031, 1032, 1034, 1035, 37, 1036] (by decide +kernel)) rfl (by decide +kernel)
set_option maxRecDepth 100000 in
theorem kv_X3_62_2 : zz_KV RX3 62 RX_2 1 yX10_countRunningOfAll cX10_countRunningOfAll 4 (some .int) := zz_ku (owner := "ReconcilerHall$View") (x := ⟨"ReconcilerHall$Deployer", "countRunningOfAll", "(I)I"⟩) (zz_atl [1037, 1038, 1040, 1041, 37, 1042] (by decide +kernel)) rfl (by decide +kernel)
set_option maxRecDepth 100000 in
theorem kv_X10_39_1 : zz_KV RX10 39 RX_1 1 yX10_countRunning cX10_countRunning 4 (some .int) := zz_ku (owner := "ReconcilerHall$View") (x := ⟨"ReconcilerHall$View", "countRunning", "(I)I"⟩) (zz_atl [1043, 1366, 1367, 1035, 37, 1036] (by decide +kernel)) rfl (by decide +kernel)
set_option maxRecDepth 100000 in
theorem kv_X10_39_2 : zz_KV RX10 39 RX_2 1 yX10_countRunning cX10_countRunning 4 (some .int) := zz_ku (owner := "ReconcilerHall$View") (x := ⟨"ReconcilerHall$View", "countRunning", "(I)I"⟩) (zz_atl [1043, 1366, 1368, 1035, 37, 1036] (by decide +kernel)) rfl (by decide +kernel)
set_option maxRecDepth 100000 in
theorem kv_X10_39_3 : zz_KV RX10 39 RX_3 1 yX10_countRunning cX10_countRunning 4 (some .int) := zz_ku (owner := "ReconcilerHall$View") (x := ⟨"ReconcilerHall$View", "countRunning", "(I)I"⟩) (zz_atl [1043, 1366, 1369, 1035, 37, 1036] (by decide +kernel)) rfl (by decide +kernel)
set_option maxRecDepth 100000 in
theorem kv_X10_39_4 : zz_KV RX10 39 RX_4 1 yX10_countRunning cX10_countRunning 4 (some .int) := zz_ku (owner := "ReconcilerHall$View") (x := ⟨"ReconcilerHall$View", "countRunning", "(I)I"⟩) (zz_atl [1043, 1366, 1370, 1035, 37, 1036] (by decide +kernel)) rfl (by decide +kernel)
set_option maxRecDepth 100000 in
theorem kv_X10_39_5 : zz_KV RX10 39 RX_5 1 yX10_countRunning cX10_countRunning 4 (some .int) := zz_ku (owner := "ReconcilerHall$View") (x := ⟨"ReconcilerHall$View", "countRunning", "(I)I"⟩) (zz_atl [1043, 1366, 1371, 1035, 37, 1036] (by decide +kernel)) rfl (by decide +kernel)
set_option maxRecDepth 100000 in
theorem kv_X10_39_6 : zz_KV RX10 39 RX_6 1 yX10_countRunning cX10_countRunning 4 (some .int) := zz_ku (owner := "ReconcilerHall$View") (x := ⟨"ReconcilerHall$View", "countRunning", "(I)I"⟩) (zz_atl [1043, 1366, 1372, 1035, 37, 1036] (by decide +kernel)) rfl (by decide +kernel)
set_option maxRecDepth 100000 in
theorem kv_X10_39_7 : zz_KV RX10 39 RX_7 1 yX10_countRunning cX10_countRunning 4 (some .int) := zz_ku (owner := "ReconcilerHall$View") (x := ⟨"ReconcilerHall$View", "countRunning", "(I)I"⟩) (zz_atl [1043, 1366, 1373, 1035, 37, 1036] (by decide +kernel)) rfl (by decide +kernel)
set_option maxRecDepth 100000 in
theorem kv_X10_39_8 : zz_KV RX10 39 RX_8 1 yX10_countRunning cX10_countRunning 4 (some .int) := zz_ku (owner := "ReconcilerHall$View") (x := ⟨"ReconcilerHall$View", "countRunning", "(I)I"⟩) (zz_atl [1043, 1366, 1374, 1035, 37, 1036] (by decide +kernel)) rfl (by decide +kernel)
set_option maxRecDepth 100000 in
theorem kv_X4_23_3 : zz_KV RX4 23 RX_3 2 yX10_isStaying cX10_isStaying 3 (some .boolean) := zz_ku (owner := "ReconcilerHall$View") (x := ⟨"ReconcilerHall$PodMaker", "isStaying", "(II)Z"⟩) (zz_atl [1047, 1048, 1049, 884, 37, 885] (by decide +kernel)) rfl (by decide +kernel)
set_option maxRecDepth 100000 in
theorem kv_X4_27_3 : zz_KV RX4 27 RX_3 1 yX4_serveSet cX4_serveSet 4 (some .int) ∧ zz_KX RX4 27 RX_3 1 yX4_serveSet cX4_serveSet 4 (some .int) := zz_kv (zz_atl [1050, 1052, 18, 42, 1053] (by decide +kernel)) (by decide +kernel)
set_option maxRecDepth 100000 in
theorem ff_X4_34 : zz_fw RX4 34 zzCl (zz_kf [3] 2) := zz_fw_of (List.forall_mem_cons.mpr ⟨⟨RX_3, zzT3, 12, "ReconcilerHall$PodMaker", zzY3, rfl, by decide, zzI3, zz_at 134 (by decide +kernel), Or.inr (zz_at 135 (by decide +kernel)), zzY3_ok, zzN3⟩, (fun _ h => absurd h List.not_mem_nil)⟩)
set_option maxRecDepth 100000 in
theorem kv_X4_37_3 : zz_KV RX4 37 RX_3 3 yX10_isOwned cX10_isOwned 4 (some .boolean) := zz_ku (owner := "ReconcilerHall$View") (x := ⟨"ReconcilerHall$PodMaker", "isOwned", "(III)Z"⟩) (zz_atl [1054, 1055, 1056, 985, 37, 995] (by decide +kernel)) rfl (by decide +kernel)
set_option maxRecDepth 100000 in
theorem kv_X4_41_3 : zz_KV RX4 41 RX_3 1 yX2_remove cX2_remove 2 (some .boolean) := zz_ku (owner := "ReconcilerHall$Controller") (x := ⟨"ReconcilerHall$PodMaker", "remove", "(I)Z"⟩) (zz_atl [1057, 1058, 1059, 922, 40, 923] (by decide +kernel)) rfl (by decide +kernel)
set_option maxRecDepth 100000 in
theorem ks_X4_45 : zz_KS RX4 45 1 yX2_outcomeOf cX2_outcomeOf 1 (some .int) := zz_ksu (x := ⟨"ReconcilerHall$PodMaker", "outcomeOf", "(Z)I"⟩) (zz_at 949 (by decide +kernel)) (zz_at 40 (by decide +kernel)) (zz_at 1060 (by decide +kernel)) (zz_at 948 (by decide +kernel)) (zz_at 1061 (by decide +kernel)) rfl (by decide +kernel)
set_option maxRecDepth 100000 in
theorem kv_X4_49_3 : zz_KV RX4 49 RX_3 2 yX2_makeFor cX2_makeFor 3 (some .boolean) := zz_ku (owner := "ReconcilerHall$Controller") (x := ⟨"ReconcilerHall$PodMaker", "makeFor", "(II)Z"⟩) (zz_atl [1062, 1063, 1064, 1000, 40, 1001] (by decide +kernel)) rfl (by decide +kernel)
set_option maxRecDepth 100000 in
theorem kv_X4_52_3 : zz_KV RX4 52 RX_3 1 yX4_podTooMany cX4_podTooMany 6 (some .int) ∧ zz_KX RX4 52 RX_3 1 yX4_podTooMany cX4_podTooMany 6 (some .int) := zz_kv (zz_atl [1065, 1067, 19, 42, 1068] (by decide +kernel)) (by decide +kernel)
set_option maxRecDepth 100000 in
theorem kv_X4_31_3 : zz_KV RX4 31 RX_3 1 yX4_serveJob cX4_serveJob 6 (some .int) ∧ zz_KX RX4 31 RX_3 1 yX4_serveJob cX4_serveJob 6 (some .int) := zz_kv (zz_atl [1069, 1071, 20, 42, 1072] (by decide +kernel)) (by decide +kernel)
set_option maxRecDepth 100000 in
theorem kv_X5_27_4 : zz_KV RX5 27 RX_4 2 yX10_isStaying cX10_isStaying 3 (some .boolean) := zz_ku (owner := "ReconcilerHall$View") (x := ⟨"ReconcilerHall$Router", "isStaying", "(II)Z"⟩) (zz_atl [1076, 1077, 1078, 884, 37, 885] (by decide +kernel)) rfl (by decide +kernel)
set_option maxRecDepth 100000 in
theorem kv_X5_31_4 : zz_KV RX5 31 RX_4 2 yX5_podsBehind cX5_podsBehind 6 (some .int) ∧ zz_KX RX5 31 RX_4 2 yX5_podsBehind cX5_podsBehind 6 (some .int) := zz_kv (zz_atl [1079, 1081, 21, 46, 1082] (by decide +kernel)) (by decide +kernel)
set_option maxRecDepth 100000 in
theorem kv_X5_34_4 : zz_KV RX5 34 RX_4 1 yX2_isUpToDate cX2_isUpToDate 2 (some .boolean) := zz_ku (owner := "ReconcilerHall$Controller") (x := ⟨"ReconcilerHall$Router", "isUpToDate", "(I)Z"⟩) (zz_atl [1083, 1084, 1086, 925, 40, 934] (by decide +kernel)) rfl (by decide +kernel)
set_option maxRecDepth 100000 in
theorem ff_X5_37 : zz_fw RX5 37 zzCl (zz_kf [4] 4) := zz_fw_of (List.forall_mem_cons.mpr ⟨⟨RX_4, zzT4, 12, "ReconcilerHall$Router", zzY4, rfl, by decide, zzI4, zz_at 180 (by decide +kernel), Or.inr (zz_at 181 (by decide +kernel)), zzY4_ok, zzN4⟩, (fun _ h => absurd h List.not_mem_nil)⟩)
set_option maxRecDepth 100000 in
theorem kv_X5_41_8 : zz_KV RX5 41 RX_8 5 yX9_changeBoth cX9_changeBoth 6 (some .boolean) ∧ zz_KX RX5 41 RX_8 5 yX9_changeBoth cX9_changeBoth 6 (some .boolean) := zz_kv (zz_atl [1087, 1088, 1089, 38, 1090] (by decide +kernel)) (by decide +kernel)
set_option maxRecDepth 100000 in
theorem ks_X5_47 : zz_KS RX5 47 1 yX2_outcomeOf cX2_outcomeOf 1 (some .int) := zz_ksu (x := ⟨"ReconcilerHall$Router", "outcomeOf", "(Z)I"⟩) (zz_at 949 (by decide +kernel)) (zz_at 40 (by decide +kernel)) (zz_at 1091 (by decide +kernel)) (zz_at 948 (by decide +kernel)) (zz_at 1092 (by decide +kernel)) rfl (by decide +kernel)
set_option maxRecDepth 100000 in
theorem kv_X6_23_5 : zz_KV RX6 23 RX_5 1 yX10_isGone cX10_isGone 2 (some .boolean) := zz_ku (owner := "ReconcilerHall$View") (x := ⟨"ReconcilerHall$Runner", "isGone", "(I)Z"⟩) (zz_atl [1096, 1097, 1098, 641, 37, 642] (by decide +kernel)) rfl (by decide +kernel)
set_option maxRecDepth 100000 in
theorem kv_X6_27_5 : zz_KV RX6 27 RX_5 1 yX6_clearPlace cX6_clearPlace 3 (some .boolean) ∧ zz_KX RX6 27 RX_5 1 yX6_clearPlace cX6_clearPlace 3 (some .boolean) := zz_kv (zz_atl [1099, 1101, 22, 44, 1102] (by decide +kernel)) (by decide +kernel)
set_option maxRecDepth 100000 in
theorem kv_X6_45_5 : zz_KV RX6 45 RX_5 1 yX2_isUpToDate cX2_isUpToDate 2 (some .boolean) := zz_ku (owner := "ReconcilerHall$Controller") (x := ⟨"ReconcilerHall$Runner", "isUpToDate", "(I)Z"⟩) (zz_atl [1103, 1104, 1105, 925, 40, 934] (by decide +kernel)) rfl (by decide +kernel)
set_option maxRecDepth 100000 in
theorem ff_X6_48 : zz_fw RX6 48 zzCl (zz_kf [5] 4) := zz_fw_of (List.forall_mem_cons.mpr ⟨⟨RX_5, zzT5, 12, "ReconcilerHall$Runner", zzY5, rfl, by decide, zzI5, zz_at 184 (by decide +kernel), Or.inr (zz_at 185 (by decide +kernel)), zzY5_ok, zzN5⟩, (fun _ h => absurd h List.not_mem_nil)⟩)
set_option maxRecDepth 100000 in
theorem kv_X6_52_8 : zz_KV RX6 52 RX_8 5 yX9_changeBoth cX9_changeBoth 6 (some .boolean) ∧ zz_KX RX6 52 RX_8 5 yX9_changeBoth cX9_changeBoth 6 (some .boolean) := zz_kv (zz_atl [1106, 1088, 1089, 38, 1090] (by decide +kernel)) (by decide +kernel)
set_option maxRecDepth 100000 in
theorem ks_X6_30 : zz_KS RX6 30 1 yX2_outcomeOf cX2_outcomeOf 1 (some .int) := zz_ksu (x := ⟨"ReconcilerHall$Runner", "outcomeOf", "(Z)I"⟩) (zz_at 949 (by decide +kernel)) (zz_at 40 (by decide +kernel)) (zz_at 1107 (by decide +kernel)) (zz_at 948 (by decide +kernel)) (zz_at 1108 (by decide +kernel)) rfl (by decide +kernel)
set_option maxRecDepth 100000 in
theorem kv_X6_34_5 : zz_KV RX6 34 RX_5 3 yX2_set cX2_set 4 (some .boolean) := zz_ku (owner := "ReconcilerHall$Controller") (x := ⟨"ReconcilerHall$Runner", "set", "(III)Z"⟩) (zz_atl [1109, 1110, 1111, 962, 40, 963] (by decide +kernel)) rfl (by decide +kernel)
set_option maxRecDepth 100000 in
theorem kv_X6_38_5 : zz_KV RX6 38 RX_5 1 yX10_needOf cX10_needOf 2 (some .int) := zz_ku (owner := "ReconcilerHall$View") (x := ⟨"ReconcilerHall$Runner", "needOf", "(I)I"⟩) (zz_atl [1112, 1113, 1115, 1116, 37, 1117] (by decide +kernel)) rfl (by decide +kernel)
set_option maxRecDepth 100000 in
theorem kv_X6_42_5 : zz_KV RX6 42 RX_5 1 yX6_runningNeeds cX6_runningNeeds 5 (some .int) ∧ zz_KX RX6 42 RX_5 1 yX6_runningNeeds cX6_runningNeeds 5 (some .int) := zz_kv (zz_atl [1118, 1120, 23, 44, 1121] (by decide +kernel)) (by decide +kernel)
set_option maxRecDepth 100000 in
theorem kv_X7_15_6 : zz_KV RX7 15 RX_6 2 yX10_read cX10_read 3 (some .int) := zz_ku (owner := "ReconcilerHall$View") (x := ⟨"ReconcilerHall$Scaler", "read", "(II)I"⟩) (zz_atl [1125, 1126, 1127, 478, 37, 479] (by decide +kernel)) rfl (by decide +kernel)
set_option maxRecDepth 100000 in
theorem kv_X7_19_6 : zz_KV RX7 19 RX_6 2 yX10_isStaying cX10_isStaying 3 (some .boolean) := zz_ku (owner := "ReconcilerHall$View") (x := ⟨"ReconcilerHall$Scaler", "isStaying", "(II)Z"⟩) (zz_atl [1128, 1129, 1130, 884, 37, 885] (by decide +kernel)) rfl (by decide +kernel)
set_option maxRecDepth 100000 in
theorem ff_X7_9 : zz_fw RX7 9 zzCl (zz_kf [6] 12) := zz_fw_of (List.forall_mem_cons.mpr ⟨⟨RX_6, zzT6, 13, "ReconcilerHall$Scaler", zzY6, rfl, by decide, zzI6, zz_at 331 (by decide +kernel), Or.inl rfl, zzY6_ok, zzN6⟩, (fun _ h => absurd h List.not_mem_nil)⟩)
set_option maxRecDepth 100000 in
theorem ff_X7_31 : zz_fw RX7 31 zzCl (zz_kf [6] 4) := zz_fw_of (List.forall_mem_cons.mpr ⟨⟨RX_6, zzT6, 13, "ReconcilerHall$Scaler", zzY6, rfl, by decide, zzI6, zz_at 182 (by decide +kernel), Or.inr (zz_at 183 (by decide +kernel)), zzY6_ok, zzN6⟩, (fun _ h => absurd h List.not_mem_nil)⟩)
set_option maxRecDepth 100000 in
theorem ff_X7_35 : zz_fw RX7 35 zzCl (zz_kf [8] 7) := zz_fw_of (List.forall_mem_cons.mpr ⟨⟨RX_8, zzT8, 9, "ReconcilerHall$Store", zzY8, rfl, by decide, zzI8, zz_at 111 (by decide +kernel), Or.inl rfl, zzY8_ok, zzN8⟩, (fun _ h => absurd h List.not_mem_nil)⟩)
set_option maxRecDepth 100000 in
theorem ff_X7_41 : zz_fw RX7 41 zzCl (zz_kf [6] 9) := zz_fw_of (List.forall_mem_cons.mpr ⟨⟨RX_6, zzT6, 13, "ReconcilerHall$Scaler", zzY6, rfl, by decide, zzI6, zz_at 194 (by decide +kernel), Or.inr (zz_at 195 (by decide +kernel)), zzY6_ok, zzN6⟩, (fun _ h => absurd h List.not_mem_nil)⟩)
set_option maxRecDepth 100000 in
theorem ff_X7_44 : zz_fw RX7 44 zzCl (zz_kf [8] 3) := zz_fw_of (List.forall_mem_cons.mpr ⟨⟨RX_8, zzT8, 9, "ReconcilerHall$Store", zzY8, rfl, by decide, zzI8, zz_at 140 (by decide +kernel), Or.inr (zz_at 141 (by decide +kernel)), zzY8_ok, zzN8⟩, (fun _ h => absurd h List.not_mem_nil)⟩)
set_option maxRecDepth 100000 in
theorem kv_X7_47_6 : zz_KV RX7 47 RX_6 2 yX2_want cX2_want 3 (some .boolean) := zz_ku (owner := "ReconcilerHall$Controller") (x := ⟨"ReconcilerHall$Scaler", "want", "(II)Z"⟩) (zz_atl [1135, 1136, 1137, 1009, 40, 1010] (by decide +kernel)) rfl (by decide +kernel)
set_option maxRecDepth 100000 in
theorem ks_X7_50 : zz_KS RX7 50 1 yX2_outcomeOf cX2_outcomeOf 1 (some .int) := zz_ksu (x := ⟨"ReconcilerHall$Scaler", "outcomeOf", "(Z)I"⟩) (zz_at 949 (by decide +kernel)) (zz_at 40 (by decide +kernel)) (zz_at 1138 (by decide +kernel)) (zz_at 948 (by decide +kernel)) (zz_at 1139 (by decide +kernel)) rfl (by decide +kernel)
set_option maxRecDepth 100000 in
theorem kv_X8_41_7 : zz_KV RX8 41 RX_7 0 yX8_countUsed cX8_countUsed 4 none ∧ zz_KX RX8 41 RX_7 0 yX8_countUsed cX8_countUsed 4 none := zz_kv (zz_atl [1143, 1145, 24, 43, 1146] (by decide +kernel)) (by decide +kernel)
set_option maxRecDepth 100000 in
theorem ff_X8_9 : zz_fw RX8 9 zzCl (zz_kf [7] 12) := zz_fw_of (List.forall_mem_cons.mpr ⟨⟨RX_7, zzT7, 15, "ReconcilerHall$Scheduler", zzY7, rfl, by decide, zzI7, zz_at 246 (by decide +kernel), Or.inl rfl, zzY7_ok, zzN7⟩, (fun _ h => absurd h List.not_mem_nil)⟩)
set_option maxRecDepth 100000 in
theorem kv_X8_69_7 : zz_KV RX8 69 RX_7 1 yX10_isGone cX10_isGone 2 (some .boolean) := zz_ku (owner := "ReconcilerHall$View") (x := ⟨"ReconcilerHall$Scheduler", "isGone", "(I)Z"⟩) (zz_atl [1147, 1148, 1149, 641, 37, 642] (by decide +kernel)) rfl (by decide +kernel)
set_option maxRecDepth 100000 in
theorem kv_X8_48_7 : zz_KV RX8 48 RX_7 1 yX10_needOf cX10_needOf 2 (some .int) := zz_ku (owner := "ReconcilerHall$View") (x := ⟨"ReconcilerHall$Scheduler", "needOf", "(I)I"⟩) (zz_atl [1150, 1151, 1152, 1116, 37, 1117] (by decide +kernel)) rfl (by decide +kernel)
set_option maxRecDepth 100000 in
theorem kv_X8_45_7 : zz_KV RX8 45 RX_7 1 yX8_countMates cX8_countMates 4 none ∧ zz_KX RX8 45 RX_7 1 yX8_countMates cX8_countMates 4 none := zz_kv (zz_atl [1153, 1155, 25, 43, 1156] (by decide +kernel)) (by decide +kernel)
set_option maxRecDepth 100000 in
theorem ff_X8_15 : zz_fw RX8 15 zzCl (zz_kf [7] 13) := zz_fw_of (List.forall_mem_cons.mpr ⟨⟨RX_7, zzT7, 15, "ReconcilerHall$Scheduler", zzY7, rfl, by decide, zzI7, zz_at 247 (by decide +kernel), Or.inl rfl, zzY7_ok, zzN7⟩, (fun _ h => absurd h List.not_mem_nil)⟩)
set_option maxRecDepth 100000 in
theorem kv_X8_72_7 : zz_KV RX8 72 RX_7 1 yX8_zoneOf cX8_zoneOf 3 (some .int) ∧ zz_KX RX8 72 RX_7 1 yX8_zoneOf cX8_zoneOf 3 (some .int) := zz_kv (zz_atl [1157, 1159, 26, 43, 1160] (by decide +kernel)) (by decide +kernel)
set_option maxRecDepth 100000 in
theorem kv_X8_52_7 : zz_KV RX8 52 RX_7 1 yX8_bestNode cX8_bestNode 4 (some .int) ∧ zz_KX RX8 52 RX_7 1 yX8_bestNode cX8_bestNode 4 (some .int) := zz_kv (zz_atl [1161, 1163, 27, 43, 1164] (by decide +kernel)) (by decide +kernel)
set_option maxRecDepth 100000 in
theorem kv_X8_75_7 : zz_KV RX8 75 RX_7 1 yX8_isOpen cX8_isOpen 2 (some .boolean) ∧ zz_KX RX8 75 RX_7 1 yX8_isOpen cX8_isOpen 2 (some .boolean) := zz_kv (zz_atl [1165, 1167, 28, 43, 1168] (by decide +kernel)) (by decide +kernel)
set_option maxRecDepth 100000 in
theorem kv_X8_78_7 : zz_KV RX8 78 RX_7 1 yX8_roomLeft cX8_roomLeft 2 (some .int) ∧ zz_KX RX8 78 RX_7 1 yX8_roomLeft cX8_roomLeft 2 (some .int) := zz_kv (zz_atl [1169, 1171, 29, 43, 1172] (by decide +kernel)) (by decide +kernel)
set_option maxRecDepth 100000 in
theorem kv_X8_81_7 : zz_KV RX8 81 RX_7 2 yX8_isBetter cX8_isBetter 4 (some .boolean) ∧ zz_KX RX8 81 RX_7 2 yX8_isBetter cX8_isBetter 4 (some .boolean) := zz_kv (zz_atl [1173, 1175, 30, 43, 1176] (by decide +kernel)) (by decide +kernel)
set_option maxRecDepth 100000 in
theorem kv_X8_55_7 : zz_KV RX8 55 RX_7 3 yX2_set cX2_set 4 (some .boolean) := zz_ku (owner := "ReconcilerHall$Controller") (x := ⟨"ReconcilerHall$Scheduler", "set", "(III)Z"⟩) (zz_atl [1177, 1178, 1179, 962, 40, 963] (by decide +kernel)) rfl (by decide +kernel)
set_option maxRecDepth 100000 in
theorem ks_X8_59 : zz_KS RX8 59 1 yX2_outcomeOf cX2_outcomeOf 1 (some .int) := zz_ksu (x := ⟨"ReconcilerHall$Scheduler", "outcomeOf", "(Z)I"⟩) (zz_at 949 (by decide +kernel)) (zz_at 40 (by decide +kernel)) (zz_at 1180 (by decide +kernel)) (zz_at 948 (by decide +kernel)) (zz_at 1181 (by decide +kernel)) rfl (by decide +kernel)
set_option maxRecDepth 100000 in
theorem kv_X8_63_7 : zz_KV RX8 63 RX_7 1 yX8_preempt cX8_preempt 6 (some .int) ∧ zz_KX RX8 63 RX_7 1 yX8_preempt cX8_preempt 6 (some .int) := zz_kv (zz_atl [1182, 1184, 31, 43, 1185] (by decide +kernel)) (by decide +kernel)
set_option maxRecDepth 100000 in
theorem kv_X8_84_7 : zz_KV RX8 84 RX_7 2 yX8_chooseVictims cX8_chooseVictims 7 (some .int) ∧ zz_KX RX8 84 RX_7 2 yX8_chooseVictims cX8_chooseVictims 7 (some .int) := zz_kv (zz_atl [1186, 1188, 32, 43, 1189] (by decide +kernel)) (by decide +kernel)
set_option maxRecDepth 100000 in
theorem kv_X8_87_7 : zz_KV RX8 87 RX_7 1 yX8_rankOf cX8_rankOf 2 (some .int) ∧ zz_KX RX8 87 RX_7 1 yX8_rankOf cX8_rankOf 2 (some .int) := zz_kv (zz_atl [1190, 1192, 33, 43, 1193] (by decide +kernel)) (by decide +kernel)
set_option maxRecDepth 100000 in
theorem kv_X8_90_7 : zz_KV RX8 90 RX_7 2 yX8_isVictim cX8_isVictim 4 (some .boolean) ∧ zz_KX RX8 90 RX_7 2 yX8_isVictim cX8_isVictim 4 (some .boolean) := zz_kv (zz_atl [1194, 1196, 34, 43, 1197] (by decide +kernel)) (by decide +kernel)
set_option maxRecDepth 100000 in
theorem ff_X8_18 : zz_fw RX8 18 zzCl (zz_kf [7] 14) := zz_fw_of (List.forall_mem_cons.mpr ⟨⟨RX_7, zzT7, 15, "ReconcilerHall$Scheduler", zzY7, rfl, by decide, zzI7, zz_at 248 (by decide +kernel), Or.inl rfl, zzY7_ok, zzN7⟩, (fun _ h => absurd h List.not_mem_nil)⟩)
set_option maxRecDepth 100000 in
theorem kv_X8_66_7 : zz_KV RX8 66 RX_7 1 yX2_remove cX2_remove 2 (some .boolean) := zz_ku (owner := "ReconcilerHall$Controller") (x := ⟨"ReconcilerHall$Scheduler", "remove", "(I)Z"⟩) (zz_atl [1198, 1199, 1200, 922, 40, 923] (by decide +kernel)) rfl (by decide +kernel)
set_option maxRecDepth 100000 in
theorem ff_X2_32 : zz_fw RX2 32 zzCl (zz_kf [1, 2, 3, 4, 5, 6, 7] 8) := zz_fw_of (List.forall_mem_cons.mpr ⟨⟨RX_1, zzT1, 12, "ReconcilerHall$Controller", zzY1, rfl, by decide, zzI1, zz_at 191 (by decide +kernel), Or.inl rfl, zzY1_ok, zzN1⟩, (List.forall_mem_cons.mpr ⟨⟨RX_2, zzT2, 12, "ReconcilerHall$Controller", zzY2, rfl, by decide, zzI2, zz_at 191 (by decide +kernel), Or.inl rfl, zzY2_ok, zzN2⟩, (List.forall_mem_cons.mpr ⟨⟨RX_3, zzT3, 12, "ReconcilerHall$Controller", zzY3, rfl, by decide, zzI3, zz_at 191 (by decide +kernel), Or.inl rfl, zzY3_ok, zzN3⟩, (List.forall_mem_cons.mpr ⟨⟨RX_4, zzT4, 12, "ReconcilerHall$Controller", zzY4, rfl, by decide, zzI4, zz_at 191 (by decide +kernel), Or.inl rfl, zzY4_ok, zzN4⟩, (List.forall_mem_cons.mpr ⟨⟨RX_5, zzT5, 12, "ReconcilerHall$Controller", zzY5, rfl, by decide, zzI5, zz_at 191 (by decide +kernel), Or.inl rfl, zzY5_ok, zzN5⟩, (List.forall_mem_cons.mpr ⟨⟨RX_6, zzT6, 13, "ReconcilerHall$Controller", zzY6, rfl, by decide, zzI6, zz_at 191 (by decide +kernel), Or.inl rfl, zzY6_ok, zzN6⟩, (List.forall_mem_cons.mpr ⟨⟨RX_7, zzT7, 15, "ReconcilerHall$Controller", zzY7, rfl, by decide, zzI7, zz_at 191 (by decide +kernel), Or.inl rfl, zzY7_ok, zzN7⟩, (fun _ h => absurd h List.not_mem_nil)⟩)⟩)⟩)⟩)⟩)⟩)⟩)
set_option maxRecDepth 100000 in
theorem kv_X2_110_1 : zz_KV RX2 110 RX_1 1 yX2_noteFailure cX2_noteFailure 4 none := zz_ku (owner := "ReconcilerHall$Controller") (x := ⟨"ReconcilerHall$Controller", "noteFailure", "(I)V"⟩) (zz_atl [1201, 1375, 1411, 1203, 40, 1204] (by decide +kernel)) rfl (by decide +kernel)
set_option maxRecDepth 100000 in
theorem kv_X2_110_2 : zz_KV RX2 110 RX_2 1 yX2_noteFailure cX2_noteFailure 4 none := zz_ku (owner := "ReconcilerHall$Controller") (x := ⟨"ReconcilerHall$Controller", "noteFailure", "(I)V"⟩) (zz_atl [1201, 1375, 1412, 1203, 40, 1204] (by decide +kernel)) rfl (by decide +kernel)
set_option maxRecDepth 100000 in
theorem kv_X2_110_3 : zz_KV RX2 110 RX_3 1 yX2_noteFailure cX2_noteFailure 4 none := zz_ku (owner := "ReconcilerHall$Controller") (x := ⟨"ReconcilerHall$Controller", "noteFailure", "(I)V"⟩) (zz_atl [1201, 1375, 1413, 1203, 40, 1204] (by decide +kernel)) rfl (by decide +kernel)
set_option maxRecDepth 100000 in
theorem kv_X2_110_4 : zz_KV RX2 110 RX_4 1 yX2_noteFailure cX2_noteFailure 4 none := zz_ku (owner := "ReconcilerHall$Controller") (x := ⟨"ReconcilerHall$Controller", "noteFailure", "(I)V"⟩) (zz_atl [1201, 1375, 1414, 1203, 40, 1204] (by decide +kernel)) rfl (by decide +kernel)
set_option maxRecDepth 100000 in
theorem kv_X2_110_5 : zz_KV RX2 110 RX_5 1 yX2_noteFailure cX2_noteFailure 4 none := zz_ku (owner := "ReconcilerHall$Controller") (x := ⟨"ReconcilerHall$Controller", "noteFailure", "(I)V"⟩) (zz_atl [1201, 1375, 1415, 1203, 40, 1204] (by decide +kernel)) rfl (by decide +kernel)
set_option maxRecDepth 100000 in
theorem kv_X2_110_6 : zz_KV RX2 110 RX_6 1 yX2_noteFailure cX2_noteFailure 4 none := zz_ku (owner := "ReconcilerHall$Controller") (x := ⟨"ReconcilerHall$Controller", "noteFailure", "(I)V"⟩) (zz_atl [1201, 1375, 1416, 1203, 40, 1204] (by decide +kernel)) rfl (by decide +kernel)
set_option maxRecDepth 100000 in
theorem kv_X2_110_7 : zz_KV RX2 110 RX_7 1 yX2_noteFailure cX2_noteFailure 4 none := zz_ku (owner := "ReconcilerHall$Controller") (x := ⟨"ReconcilerHall$Controller", "noteFailure", "(I)V"⟩) (zz_atl [1201, 1375, 1417, 1203, 40, 1204] (by decide +kernel)) rfl (by decide +kernel)
set_option maxRecDepth 100000 in
theorem fp_8_7 : zz_fp zzCl (zz_kf [8] 7) false := zz_fp_of (List.forall_mem_cons.mpr ⟨⟨(RX_8, zzT8, 9), rfl, rfl, by decide +kernel⟩, (fun _ h => absurd h List.not_mem_nil)⟩)
set_option maxRecDepth 100000 in
theorem kv_X9_100_8 : zz_KV RX9 100 RX_8 1 yX10_isGone cX10_isGone 2 (some .boolean) := zz_ku (owner := "ReconcilerHall$View") (x := ⟨"ReconcilerHall$Store", "isGone", "(I)Z"⟩) (zz_atl [1253, 638, 640, 641, 37, 642] (by decide +kernel)) rfl (by decide +kernel)
set_option maxRecDepth 100000 in
theorem kv_X9_103_8 : zz_KV RX9 103 RX_8 3 yX9_change cX9_change 4 (some .boolean) ∧ zz_KX RX9 103 RX_8 3 yX9_change cX9_change 4 (some .boolean) := zz_kv (zz_atl [1254, 693, 694, 38, 695] (by decide +kernel)) (by decide +kernel)
set_option maxRecDepth 100000 in
theorem ks_X11_54 : zz_KS RX11 54 1 yX11_isCaller cX11_isCaller 1 (some .boolean) := zz_ks (zz_atl [558, 559, 36, 560] (by decide +kernel)) (by decide +kernel)
set_option maxRecDepth 100000 in
theorem th_X11_61_63 {l : Launch} {D : va_G} {cA : Nat → ClassId} {ad : Nat → Nat} {Ex : (Nat → Prop) → State → Heap → Prop} (Wd : zzWC l D cA ad Ex) : zz_Th Ex RX11 61 63 65 0 := ⟨by decide +kernel, zz_at 370 (by decide +kernel), zz_at 52 (by decide +kernel), zz_atl [48, 392, 401, 405, 408, 410, 393, 394, 62, 63, 395, 400, 406, 426, 382, 427, 384, 428, 386, 396, 398, 388, 422, 423, 425, 388, 413, 414, 415, 416, 416, 417, 418, 419, 419, 420, 421, 422, 412, 371, 379, 380, 381, 383, 385, 387, 391, 390, 389] (by decide +kernel), by decide +kernel, by decide +kernel, "no such manager or kind", fun A U H hE => zzWC_str Wd (q := (RX11, 63, "no such manager or kind")) (by decide +kernel) hE⟩
set_option maxRecDepth 100000 in
theorem ff_X11_10 : zz_fw RX11 10 zzCl (zz_kf [9] 0) := zz_fw_of (List.forall_mem_cons.mpr ⟨⟨RX_9, zzT9, 5, "ReconcilerHall", zzY9, rfl, by decide, zzI9, zz_at 347 (by decide +kernel), Or.inl rfl, zzY9_ok, zzN9⟩, (fun _ h => absurd h List.not_mem_nil)⟩)
set_option maxRecDepth 100000 in
theorem kv_X11_71_8 : zz_KV RX11 71 RX_8 4 yX9_open cX9_open 6 (some .int) ∧ zz_KX RX11 71 RX_8 4 yX9_open cX9_open 6 (some .int) := zz_kv (zz_atl [564, 565, 566, 38, 567] (by decide +kernel)) (by decide +kernel)
set_option maxRecDepth 100000 in
theorem th_X11_75_77 {l : Launch} {D : va_G} {cA : Nat → ClassId} {ad : Nat → Nat} {Ex : (Nat → Prop) → State → Heap → Prop} (Wd : zzWC l D cA ad Ex) : zz_Th Ex RX11 75 77 79 1 := ⟨by decide +kernel, zz_at 609 (by decide +kernel), zz_at 54 (by decide +kernel), zz_atl [48, 392, 401, 405, 408, 410, 393, 394, 62, 63, 395, 400, 406, 426, 382, 427, 384, 428, 386, 396, 398, 388, 422, 423, 425, 388, 620, 621, 622, 416, 416, 417, 418, 419, 419, 420, 421, 422, 619, 610, 612, 403, 613, 614, 615, 616, 391, 390, 617] (by decide +kernel), by decide +kernel, by decide +kernel, "the object is refused", fun A U H hE => zzWC_str Wd (q := (RX11, 77, "the object is refused")) (by decide +kernel) hE⟩
set_option maxRecDepth 100000 in
theorem kv_X11_80_9 : zz_KV RX11 80 RX_9 1 yX11_requireObject cX11_requireObject 2 none ∧ zz_KX RX11 80 RX_9 1 yX11_requireObject cX11_requireObject 2 none := zz_kv (zz_atl [454, 456, 2, 36, 457] (by decide +kernel)) (by decide +kernel)
set_option maxRecDepth 100000 in
theorem ff_X11_243 : zz_fw RX11 243 zzCl (zz_kf [8] 2) := zz_fw_of (List.forall_mem_cons.mpr ⟨⟨RX_8, zzT8, 9, "ReconcilerHall$Store", zzY8, rfl, by decide, zzI8, zz_at 139 (by decide +kernel), Or.inr (zz_at 131 (by decide +kernel)), zzY8_ok, zzN8⟩, (fun _ h => absurd h List.not_mem_nil)⟩)
set_option maxRecDepth 100000 in
theorem th_X11_208_295 {l : Launch} {D : va_G} {cA : Nat → ClassId} {ad : Nat → Nat} {Ex : (Nat → Prop) → State → Heap → Prop} (Wd : zzWC l D cA ad Ex) : zz_Th Ex RX11 208 295 212 2 := ⟨by decide +kernel, zz_at 458 (by decide +kernel), zz_at 51 (by decide +kernel), zz_atl [48, 392, 401, 405, 408, 410, 393, 394, 62, 63, 395, 400, 406, 426, 382, 427, 384, 428, 386, 396, 398, 388, 422, 423, 425, 388, 469, 470, 471, 416, 416, 417, 418, 419, 419, 420, 421, 422, 468, 459, 461, 404, 462, 463, 464, 465, 391, 390, 466] (by decide +kernel), by decide +kernel, by decide +kernel, "no such object", fun A U H hE => zzWC_str Wd (q := (RX11, 295, "no such object")) (by decide +kernel) hE⟩
set_option maxRecDepth 100000 in
theorem kv_X11_84_8 : zz_KV RX11 84 RX_8 2 yX10_read cX10_read 3 (some .int) := zz_ku (owner := "ReconcilerHall$View") (x := ⟨"ReconcilerHall$Store", "read", "(II)I"⟩) (zz_atl [474, 475, 477, 478, 37, 479] (by decide +kernel)) rfl (by decide +kernel)
set_option maxRecDepth 100000 in
theorem ks_X11_88 : zz_KS RX11 88 2 yX11_hasField cX11_hasField 2 (some .boolean) := zz_ks (zz_atl [488, 489, 36, 490] (by decide +kernel)) (by decide +kernel)
set_option maxRecDepth 100000 in
theorem ks_X11_92 : zz_KS RX11 92 2 yX11_isInRange cX11_isInRange 2 (some .boolean) := zz_ks (zz_atl [629, 630, 36, 631] (by decide +kernel)) (by decide +kernel)
set_option maxRecDepth 100000 in
theorem th_X11_61_95 {l : Launch} {D : va_G} {cA : Nat → ClassId} {ad : Nat → Nat} {Ex : (Nat → Prop) → State → Heap → Prop} (Wd : zzWC l D cA ad Ex) : zz_Th Ex RX11 61 95 65 0 := ⟨by decide +kernel, zz_at 370 (by decide +kernel), zz_at 52 (by decide +kernel), zz_atl [48, 392, 401, 405, 408, 410, 393, 394, 62, 63, 395, 400, 406, 426, 382, 427, 384, 428, 386, 396, 398, 388, 422, 423, 425, 388, 413, 414, 415, 416, 416, 417, 418, 419, 419, 420, 421, 422, 412, 371, 379, 380, 381, 383, 385, 387, 391, 390, 389] (by decide +kernel), by decide +kernel, by decide +kernel, "no such manager, field or value", fun A U H hE => zzWC_str Wd (q := (RX11, 95, "no such manager, field or value")) (by decide +kernel) hE⟩
set_option maxRecDepth 100000 in
theorem kv_X11_97_8 : zz_KV RX11 97 RX_8 1 yX10_isGone cX10_isGone 2 (some .boolean) := zz_ku (owner := "ReconcilerHall$View") (x := ⟨"ReconcilerHall$Store", "isGone", "(I)Z"⟩) (zz_atl [637, 638, 640, 641, 37, 642] (by decide +kernel)) rfl (by decide +kernel)
set_option maxRecDepth 100000 in
theorem kv_X11_100_8 : zz_KV RX11 100 RX_8 1 yX10_latestOf cX10_latestOf 2 (some .int) := zz_ku (owner := "ReconcilerHall$View") (x := ⟨"ReconcilerHall$Store", "latestOf", "(I)I"⟩) (zz_atl [505, 506, 508, 509, 37, 510] (by decide +kernel)) rfl (by decide +kernel)
set_option maxRecDepth 100000 in
theorem th_X11_75_104 {l : Launch} {D : va_G} {cA : Nat → ClassId} {ad : Nat → Nat} {Ex : (Nat → Prop) → State → Heap → Prop} (Wd : zzWC l D cA ad Ex) : zz_Th Ex RX11 75 104 79 1 := ⟨by decide +kernel, zz_at 609 (by decide +kernel), zz_at 54 (by decide +kernel), zz_atl [48, 392, 401, 405, 408, 410, 393, 394, 62, 63, 395, 400, 406, 426, 382, 427, 384, 428, 386, 396, 398, 388, 422, 423, 425, 388, 620, 621, 622, 416, 416, 417, 418, 419, 419, 420, 421, 422, 619, 610, 612, 403, 613, 614, 615, 616, 391, 390, 617] (by decide +kernel), by decide +kernel, by decide +kernel, "the object is gone or has another version", fun A U H hE => zzWC_str Wd (q := (RX11, 104, "the object is gone or has another version")) (by decide +kernel) hE⟩
set_option maxRecDepth 100000 in
theorem th_X11_75_106 {l : Launch} {D : va_G} {cA : Nat → ClassId} {ad : Nat → Nat} {Ex : (Nat → Prop) → State → Heap → Prop} (Wd : zzWC l D cA ad Ex) : zz_Th Ex RX11 75 106 79 1 := ⟨by decide +kernel, zz_at 609 (by decide +kernel), zz_at 54 (by decide +kernel), zz_atl [48, 392, 401, 405, 408, 410, 393, 394, 62, 63, 395, 400, 406, 426, 382, 427, 384, 428, 386, 396, 398, 388, 422, 423, 425, 388, 620, 621, 622, 416, 416, 417, 418, 419, 419, 420, 421, 422, 619, 610, 612, 403, 613, 614, 615, 616, 391, 390, 617] (by decide +kernel), by decide +kernel, by decide +kernel, "the field has another manager", fun A U H hE => zzWC_str Wd (q := (RX11, 106, "the field has another manager")) (by decide +kernel) hE⟩
set_option maxRecDepth 100000 in
theorem kv_X11_108_8 : zz_KV RX11 108 RX_8 4 yX9_applyField cX9_applyField 5 (some .boolean) ∧ zz_KX RX11 108 RX_8 4 yX9_applyField cX9_applyField 5 (some .boolean) := zz_kv (zz_atl [646, 647, 648, 38, 649] (by decide +kernel)) (by decide +kernel)
set_option maxRecDepth 100000 in
theorem th_X11_75_112 {l : Launch} {D : va_G} {cA : Nat → ClassId} {ad : Nat → Nat} {Ex : (Nat → Prop) → State → Heap → Prop} (Wd : zzWC l D cA ad Ex) : zz_Th Ex RX11 75 112 79 1 := ⟨by decide +kernel, zz_at 609 (by decide +kernel), zz_at 54 (by decide +kernel), zz_atl [48, 392, 401, 405, 408, 410, 393, 394, 62, 63, 395, 400, 406, 426, 382, 427, 384, 428, 386, 396, 398, 388, 422, 423, 425, 388, 620, 621, 622, 416, 416, 417, 418, 419, 419, 420, 421, 422, 619, 610, 612, 403, 613, 614, 615, 616, 391, 390, 617] (by decide +kernel), by decide +kernel, by decide +kernel, "the write is refused", fun A U H hE => zzWC_str Wd (q := (RX11, 112, "the write is refused")) (by decide +kernel) hE⟩
set_option maxRecDepth 100000 in
theorem ks_X11_114 : zz_KS RX11 114 2 yJ9_floorDiv_7cf53 cJ9_floorDiv_7cf53 3 (some .int) := zz_kso (zz_at 662 (by decide +kernel)) (zz_at 55 (by decide +kernel)) (zz_at 660 (by decide +kernel)) (zz_at 661 (by decide +kernel)) (by decide +kernel)
set_option maxRecDepth 100000 in
theorem ks_X11_119 : zz_KS RX11 119 2 yJ9_floorMod_7cf53 cJ9_floorMod_7cf53 3 (some .int) := zz_kso (zz_at 665 (by decide +kernel)) (zz_at 55 (by decide +kernel)) (zz_at 663 (by decide +kernel)) (zz_at 664 (by decide +kernel)) (by decide +kernel)
set_option maxRecDepth 100000 in
theorem th_X11_61_122 {l : Launch} {D : va_G} {cA : Nat → ClassId} {ad : Nat → Nat} {Ex : (Nat → Prop) → State → Heap → Prop} (Wd : zzWC l D cA ad Ex) : zz_Th Ex RX11 61 122 65 0 := ⟨by decide +kernel, zz_at 370 (by decide +kernel), zz_at 52 (by decide +kernel), zz_atl [48, 392, 401, 405, 408, 410, 393, 394, 62, 63, 395, 400, 406, 426, 382, 427, 384, 428, 386, 396, 398, 388, 422, 423, 425, 388, 413, 414, 415, 416, 416, 417, 418, 419, 419, 420, 421, 422, 412, 371, 379, 380, 381, 383, 385, 387, 391, 390, 389] (by decide +kernel), by decide +kernel, by decide +kernel, "no such manager, no deploy or no such budget", fun A U H hE => zzWC_str Wd (q := (RX11, 122, "no such manager, no deploy or no such budget")) (by decide +kernel) hE⟩
set_option maxRecDepth 100000 in
theorem th_X11_75_124 {l : Launch} {D : va_G} {cA : Nat → ClassId} {ad : Nat → Nat} {Ex : (Nat → Prop) → State → Heap → Prop} (Wd : zzWC l D cA ad Ex) : zz_Th Ex RX11 75 124 79 1 := ⟨by decide +kernel, zz_at 609 (by decide +kernel), zz_at 54 (by decide +kernel), zz_atl [48, 392, 401, 405, 408, 410, 393, 394, 62, 63, 395, 400, 406, 426, 382, 427, 384, 428, 386, 396, 398, 388, 422, 423, 425, 388, 620, 621, 622, 416, 416, 417, 418, 419, 419, 420, 421, 422, 619, 610, 612, 403, 613, 614, 615, 616, 391, 390, 617] (by decide +kernel), by decide +kernel, by decide +kernel, "the object is gone or a field has another manager", fun A U H hE => zzWC_str Wd (q := (RX11, 124, "the object is gone or a field has another manager")) (by decide +kernel) hE⟩
set_option maxRecDepth 100000 in
theorem kv_X11_126_8 : zz_KV RX11 126 RX_8 4 yX9_applyBoth cX9_applyBoth 5 (some .boolean) ∧ zz_KX RX11 126 RX_8 4 yX9_applyBoth cX9_applyBoth 5 (some .boolean) := zz_kv (zz_atl [668, 669, 670, 38, 671] (by decide +kernel)) (by decide +kernel)
set_option maxRecDepth 100000 in
theorem th_X11_61_129 {l : Launch} {D : va_G} {cA : Nat → ClassId} {ad : Nat → Nat} {Ex : (Nat → Prop) → State → Heap → Prop} (Wd : zzWC l D cA ad Ex) : zz_Th Ex RX11 61 129 65 0 := ⟨by decide +kernel, zz_at 370 (by decide +kernel), zz_at 52 (by decide +kernel), zz_atl [48, 392, 401, 405, 408, 410, 393, 394, 62, 63, 395, 400, 406, 426, 382, 427, 384, 428, 386, 396, 398, 388, 422, 423, 425, 388, 413, 414, 415, 416, 416, 417, 418, 419, 419, 420, 421, 422, 412, 371, 379, 380, 381, 383, 385, 387, 391, 390, 389] (by decide +kernel), by decide +kernel, by decide +kernel, "no such manner", fun A U H hE => zzWC_str Wd (q := (RX11, 129, "no such manner")) (by decide +kernel) hE⟩
set_option maxRecDepth 100000 in
theorem kv_X11_131_8 : zz_KV RX11 131 RX_8 2 yX9_startGoing cX9_startGoing 3 (some .boolean) ∧ zz_KX RX11 131 RX_8 2 yX9_startGoing cX9_startGoing 3 (some .boolean) := zz_kv (zz_atl [677, 678, 679, 38, 680] (by decide +kernel)) (by decide +kernel)
set_option maxRecDepth 100000 in
theorem th_X11_75_134 {l : Launch} {D : va_G} {cA : Nat → ClassId} {ad : Nat → Nat} {Ex : (Nat → Prop) → State → Heap → Prop} (Wd : zzWC l D cA ad Ex) : zz_Th Ex RX11 75 134 79 1 := ⟨by decide +kernel, zz_at 609 (by decide +kernel), zz_at 54 (by decide +kernel), zz_atl [48, 392, 401, 405, 408, 410, 393, 394, 62, 63, 395, 400, 406, 426, 382, 427, 384, 428, 386, 396, 398, 388, 422, 423, 425, 388, 620, 621, 622, 416, 416, 417, 418, 419, 419, 420, 421, 422, 619, 610, 612, 403, 613, 614, 615, 616, 391, 390, 617] (by decide +kernel), by decide +kernel, by decide +kernel, "the object is not staying or the log is full", fun A U H hE => zzWC_str Wd (q := (RX11, 134, "the object is not staying or the log is full")) (by decide +kernel) hE⟩
set_option maxRecDepth 100000 in
theorem kv_X11_136_8 : zz_KV RX11 136 RX_8 3 yX9_change cX9_change 4 (some .boolean) ∧ zz_KX RX11 136 RX_8 3 yX9_change cX9_change 4 (some .boolean) := zz_kv (zz_atl [692, 693, 694, 38, 695] (by decide +kernel)) (by decide +kernel)
set_option maxRecDepth 100000 in
theorem th_X11_75_140 {l : Launch} {D : va_G} {cA : Nat → ClassId} {ad : Nat → Nat} {Ex : (Nat → Prop) → State → Heap → Prop} (Wd : zzWC l D cA ad Ex) : zz_Th Ex RX11 75 140 79 1 := ⟨by decide +kernel, zz_at 609 (by decide +kernel), zz_at 54 (by decide +kernel), zz_atl [48, 392, 401, 405, 408, 410, 393, 394, 62, 63, 395, 400, 406, 426, 382, 427, 384, 428, 386, 396, 398, 388, 422, 423, 425, 388, 620, 621, 622, 416, 416, 417, 418, 419, 419, 420, 421, 422, 619, 610, 612, 403, 613, 614, 615, 616, 391, 390, 617] (by decide +kernel), by decide +kernel, by decide +kernel, "the object is gone or the log is full", fun A U H hE => zzWC_str Wd (q := (RX11, 140, "the object is gone or the log is full")) (by decide +kernel) hE⟩
set_option maxRecDepth 100000 in
theorem kv_X11_142_9 : zz_KV RX11 142 RX_9 2 yX11_requireKind cX11_requireKind 3 none ∧ zz_KX RX11 142 RX_9 2 yX11_requireKind cX11_requireKind 3 none := zz_kv (zz_atl [523, 525, 4, 36, 526] (by decide +kernel)) (by decide +kernel)
set_option maxRecDepth 100000 in
theorem th_X11_61_297 {l : Launch} {D : va_G} {cA : Nat → ClassId} {ad : Nat → Nat} {Ex : (Nat → Prop) → State → Heap → Prop} (Wd : zzWC l D cA ad Ex) : zz_Th Ex RX11 61 297 65 0 := ⟨by decide +kernel, zz_at 370 (by decide +kernel), zz_at 52 (by decide +kernel), zz_atl [48, 392, 401, 405, 408, 410, 393, 394, 62, 63, 395, 400, 406, 426, 382, 427, 384, 428, 386, 396, 398, 388, 422, 423, 425, 388, 413, 414, 415, 416, 416, 417, 418, 419, 419, 420, 421, 422, 412, 371, 379, 380, 381, 383, 385, 387, 391, 390, 389] (by decide +kernel), by decide +kernel, by decide +kernel, "the object has another kind", fun A U H hE => zzWC_str Wd (q := (RX11, 297, "the object has another kind")) (by decide +kernel) hE⟩
set_option maxRecDepth 100000 in
theorem th_X11_75_146 {l : Launch} {D : va_G} {cA : Nat → ClassId} {ad : Nat → Nat} {Ex : (Nat → Prop) → State → Heap → Prop} (Wd : zzWC l D cA ad Ex) : zz_Th Ex RX11 75 146 79 1 := ⟨by decide +kernel, zz_at 609 (by decide +kernel), zz_at 54 (by decide +kernel), zz_atl [48, 392, 401, 405, 408, 410, 393, 394, 62, 63, 395, 400, 406, 426, 382, 427, 384, 428, 386, 396, 398, 388, 422, 423, 425, 388, 620, 621, 622, 416, 416, 417, 418, 419, 419, 420, 421, 422, 619, 610, 612, 403, 613, 614, 615, 616, 391, 390, 617] (by decide +kernel), by decide +kernel, by decide +kernel, "the pod is gone, it is not running or the log is full", fun A U H hE => zzWC_str Wd (q := (RX11, 146, "the pod is gone, it is not running or the log is full")) (by decide +kernel) hE⟩
set_option maxRecDepth 100000 in
theorem th_X11_61_148 {l : Launch} {D : va_G} {cA : Nat → ClassId} {ad : Nat → Nat} {Ex : (Nat → Prop) → State → Heap → Prop} (Wd : zzWC l D cA ad Ex) : zz_Th Ex RX11 61 148 65 0 := ⟨by decide +kernel, zz_at 370 (by decide +kernel), zz_at 52 (by decide +kernel), zz_atl [48, 392, 401, 405, 408, 410, 393, 394, 62, 63, 395, 400, 406, 426, 382, 427, 384, 428, 386, 396, 398, 388, 422, 423, 425, 388, 413, 414, 415, 416, 416, 417, 418, 419, 419, 420, 421, 422, 412, 371, 379, 380, 381, 383, 385, 387, 391, 390, 389] (by decide +kernel), by decide +kernel, by decide +kernel, "no such kind, field, range or value", fun A U H hE => zzWC_str Wd (q := (RX11, 148, "no such kind, field, range or value")) (by decide +kernel) hE⟩
set_option maxRecDepth 100000 in
theorem ff_X11_150 : zz_fw RX11 150 zzCl (zz_kf [8] 4) := zz_fw_of (List.forall_mem_cons.mpr ⟨⟨RX_8, zzT8, 9, "ReconcilerHall$Store", zzY8, rfl, by decide, zzI8, zz_at 107 (by decide +kernel), Or.inl rfl, zzY8_ok, zzN8⟩, (fun _ h => absurd h List.not_mem_nil)⟩)
set_option maxRecDepth 100000 in
theorem kv_X11_154_0 : zz_KV RX11 154 RX_0 6 yX0_addRule cX0_addRule 8 (some .boolean) ∧ zz_KX RX11 154 RX_0 6 yX0_addRule cX0_addRule 8 (some .boolean) := zz_kv (zz_atl [707, 708, 709, 39, 710] (by decide +kernel)) (by decide +kernel)
set_option maxRecDepth 100000 in
theorem th_X11_75_160 {l : Launch} {D : va_G} {cA : Nat → ClassId} {ad : Nat → Nat} {Ex : (Nat → Prop) → State → Heap → Prop} (Wd : zzWC l D cA ad Ex) : zz_Th Ex RX11 75 160 79 1 := ⟨by decide +kernel, zz_at 609 (by decide +kernel), zz_at 54 (by decide +kernel), zz_atl [48, 392, 401, 405, 408, 410, 393, 394, 62, 63, 395, 400, 406, 426, 382, 427, 384, 428, 386, 396, 398, 388, 422, 423, 425, 388, 620, 621, 622, 416, 416, 417, 418, 419, 419, 420, 421, 422, 619, 610, 612, 403, 613, 614, 615, 616, 391, 390, 617] (by decide +kernel), by decide +kernel, by decide +kernel, "there are as many rules as there can be", fun A U H hE => zzWC_str Wd (q := (RX11, 160, "there are as many rules as there can be")) (by decide +kernel) hE⟩
set_option maxRecDepth 100000 in
theorem ff_X11_162 : zz_fw RX11 162 zzCl (zz_kf [0] 3) := zz_fw_of (List.forall_mem_cons.mpr ⟨⟨RX_0, zzT0, 6, "ReconcilerHall$Admission", zzY0, rfl, by decide, zzI0, zz_at 86 (by decide +kernel), Or.inl rfl, zzY0_ok, zzN0⟩, (fun _ h => absurd h List.not_mem_nil)⟩)
set_option maxRecDepth 100000 in
theorem th_X11_61_166 {l : Launch} {D : va_G} {cA : Nat → ClassId} {ad : Nat → Nat} {Ex : (Nat → Prop) → State → Heap → Prop} (Wd : zzWC l D cA ad Ex) : zz_Th Ex RX11 61 166 65 0 := ⟨by decide +kernel, zz_at 370 (by decide +kernel), zz_at 52 (by decide +kernel), zz_atl [48, 392, 401, 405, 408, 410, 393, 394, 62, 63, 395, 400, 406, 426, 382, 427, 384, 428, 386, 396, 398, 388, 422, 423, 425, 388, 413, 414, 415, 416, 416, 417, 418, 419, 419, 420, 421, 422, 412, 371, 379, 380, 381, 383, 385, 387, 391, 390, 389] (by decide +kernel), by decide +kernel, by decide +kernel, "no such kind or field", fun A U H hE => zzWC_str Wd (q := (RX11, 166, "no such kind or field")) (by decide +kernel) hE⟩
set_option maxRecDepth 100000 in
theorem kv_X11_168_0 : zz_KV RX11 168 RX_0 3 yX0_addCheck cX0_addCheck 5 (some .boolean) ∧ zz_KX RX11 168 RX_0 3 yX0_addCheck cX0_addCheck 5 (some .boolean) := zz_kv (zz_atl [717, 718, 719, 39, 720] (by decide +kernel)) (by decide +kernel)
set_option maxRecDepth 100000 in
theorem th_X11_75_171 {l : Launch} {D : va_G} {cA : Nat → ClassId} {ad : Nat → Nat} {Ex : (Nat → Prop) → State → Heap → Prop} (Wd : zzWC l D cA ad Ex) : zz_Th Ex RX11 75 171 79 1 := ⟨by decide +kernel, zz_at 609 (by decide +kernel), zz_at 54 (by decide +kernel), zz_atl [48, 392, 401, 405, 408, 410, 393, 394, 62, 63, 395, 400, 406, 426, 382, 427, 384, 428, 386, 396, 398, 388, 422, 423, 425, 388, 620, 621, 622, 416, 416, 417, 418, 419, 419, 420, 421, 422, 619, 610, 612, 403, 613, 614, 615, 616, 391, 390, 617] (by decide +kernel), by decide +kernel, by decide +kernel, "there are as many checks as there can be", fun A U H hE => zzWC_str Wd (q := (RX11, 171, "there are as many checks as there can be")) (by decide +kernel) hE⟩
set_option maxRecDepth 100000 in
theorem ff_X11_173 : zz_fw RX11 173 zzCl (zz_kf [0] 4) := zz_fw_of (List.forall_mem_cons.mpr ⟨⟨RX_0, zzT0, 6, "ReconcilerHall$Admission", zzY0, rfl, by decide, zzI0, zz_at 88 (by decide +kernel), Or.inl rfl, zzY0_ok, zzN0⟩, (fun _ h => absurd h List.not_mem_nil)⟩)
set_option maxRecDepth 100000 in
theorem th_X11_61_180 {l : Launch} {D : va_G} {cA : Nat → ClassId} {ad : Nat → Nat} {Ex : (Nat → Prop) → State → Heap → Prop} (Wd : zzWC l D cA ad Ex) : zz_Th Ex RX11 61 180 65 0 := ⟨by decide +kernel, zz_at 370 (by decide +kernel), zz_at 52 (by decide +kernel), zz_atl [48, 392, 401, 405, 408, 410, 393, 394, 62, 63, 395, 400, 406, 426, 382, 427, 384, 428, 386, 396, 398, 388, 422, 423, 425, 388, 413, 414, 415, 416, 416, 417, 418, 419, 419, 420, 421, 422, 412, 371, 379, 380, 381, 383, 385, 387, 391, 390, 389] (by decide +kernel), by decide +kernel, by decide +kernel, "no such quota", fun A U H hE => zzWC_str Wd (q := (RX11, 180, "no such quota")) (by decide +kernel) hE⟩
set_option maxRecDepth 100000 in
theorem ff_X11_182 : zz_fw RX11 182 zzCl (zz_kf [0] 5) := zz_fw_of (List.forall_mem_cons.mpr ⟨⟨RX_0, zzT0, 6, "ReconcilerHall$Admission", zzY0, rfl, by decide, zzI0, zz_at 91 (by decide +kernel), Or.inl rfl, zzY0_ok, zzN0⟩, (fun _ h => absurd h List.not_mem_nil)⟩)
set_option maxRecDepth 100000 in
theorem fp_0_5 : zz_fp zzCl (zz_kf [0] 5) false := zz_fp_of (List.forall_mem_cons.mpr ⟨⟨(RX_0, zzT0, 6), rfl, rfl, by decide +kernel⟩, (fun _ h => absurd h List.not_mem_nil)⟩)
set_option maxRecDepth 100000 in
theorem kv_X11_185_9 : zz_KV RX11 185 RX_9 1 yX11_controllerAt cX11_controllerAt 2 (some (.object "ReconcilerHall$Controller")) ∧ zz_KX RX11 185 RX_9 1 yX11_controllerAt cX11_controllerAt 2 (some (.object "ReconcilerHall$Controller")) := zz_kv (zz_atl [366, 368, 0, 36, 369] (by decide +kernel)) (by decide +kernel)
set_option maxRecDepth 100000 in
theorem ff_X11_18 : zz_fw RX11 18 zzCl (zz_kf [9] 1) := zz_fw_of (List.forall_mem_cons.mpr ⟨⟨RX_9, zzT9, 5, "ReconcilerHall", zzY9, rfl, by decide, zzI9, zz_at 348 (by decide +kernel), Or.inl rfl, zzY9_ok, zzN9⟩, (fun _ h => absurd h List.not_mem_nil)⟩)
set_option maxRecDepth 100000 in
theorem th_X11_61_189 {l : Launch} {D : va_G} {cA : Nat → ClassId} {ad : Nat → Nat} {Ex : (Nat → Prop) → State → Heap → Prop} (Wd : zzWC l D cA ad Ex) : zz_Th Ex RX11 61 189 65 0 := ⟨by decide +kernel, zz_at 370 (by decide +kernel), zz_at 52 (by decide +kernel), zz_atl [48, 392, 401, 405, 408, 410, 393, 394, 62, 63, 395, 400, 406, 426, 382, 427, 384, 428, 386, 396, 398, 388, 422, 423, 425, 388, 413, 414, 415, 416, 416, 417, 418, 419, 419, 420, 421, 422, 412, 371, 379, 380, 381, 383, 385, 387, 391, 390, 389] (by decide +kernel), by decide +kernel, by decide +kernel, "no such controller or number of events", fun A U H hE => zzWC_str Wd (q := (RX11, 189, "no such controller or number of events")) (by decide +kernel) hE⟩
set_option maxRecDepth 100000 in
theorem kv_X11_191_1 : zz_KV RX11 191 RX_1 1 yX2_look cX2_look 4 (some .int) := zz_ku (owner := "ReconcilerHall$Controller") (x := ⟨"ReconcilerHall$Controller", "look", "(I)I"⟩) (zz_atl [732, 734, 735, 733, 40, 742] (by decide +kernel)) rfl (by decide +kernel)
set_option maxRecDepth 100000 in
theorem kv_X11_191_2 : zz_KV RX11 191 RX_2 1 yX2_look cX2_look 4 (some .int) := zz_ku (owner := "ReconcilerHall$Controller") (x := ⟨"ReconcilerHall$Controller", "look", "(I)I"⟩) (zz_atl [732, 734, 736, 733, 40, 742] (by decide +kernel)) rfl (by decide +kernel)
set_option maxRecDepth 100000 in
theorem kv_X11_191_3 : zz_KV RX11 191 RX_3 1 yX2_look cX2_look 4 (some .int) := zz_ku (owner := "ReconcilerHall$Controller") (x := ⟨"ReconcilerHall$Controller", "look", "(I)I"⟩) (zz_atl [732, 734, 737, 733, 40, 742] (by decide +kernel)) rfl (by decide +kernel)
set_option maxRecDepth 100000 in
theorem kv_X11_191_4 : zz_KV RX11 191 RX_4 1 yX2_look cX2_look 4 (some .int) := zz_ku (owner := "ReconcilerHall$Controller") (x := ⟨"ReconcilerHall$Controller", "look", "(I)I"⟩) (zz_atl [732, 734, 738, 733, 40, 742] (by decide +kernel)) rfl (by decide +kernel)
set_option maxRecDepth 100000 in
theorem kv_X11_191_5 : zz_KV RX11 191 RX_5 1 yX2_look cX2_look 4 (some .int) := zz_ku (owner := "ReconcilerHall$Controller") (x := ⟨"ReconcilerHall$Controller", "look", "(I)I"⟩) (zz_atl [732, 734, 739, 733, 40, 742] (by decide +kernel)) rfl (by decide +kernel)
set_option maxRecDepth 100000 in
theorem kv_X11_191_6 : zz_KV RX11 191 RX_6 1 yX2_look cX2_look 4 (some .int) := zz_ku (owner := "ReconcilerHall$Controller") (x := ⟨"ReconcilerHall$Controller", "look", "(I)I"⟩) (zz_atl [732, 734, 740, 733, 40, 742] (by decide +kernel)) rfl (by decide +kernel)
set_option maxRecDepth 100000 in
theorem kv_X11_191_7 : zz_KV RX11 191 RX_7 1 yX2_look cX2_look 4 (some .int) := zz_ku (owner := "ReconcilerHall$Controller") (x := ⟨"ReconcilerHall$Controller", "look", "(I)I"⟩) (zz_atl [732, 734, 741, 733, 40, 742] (by decide +kernel)) rfl (by decide +kernel)
set_option maxRecDepth 100000 in
theorem th_X11_61_194 {l : Launch} {D : va_G} {cA : Nat → ClassId} {ad : Nat → Nat} {Ex : (Nat → Prop) → State → Heap → Prop} (Wd : zzWC l D cA ad Ex) : zz_Th Ex RX11 61 194 65 0 := ⟨by decide +kernel, zz_at 370 (by decide +kernel), zz_at 52 (by decide +kernel), zz_atl [48, 392, 401, 405, 408, 410, 393, 394, 62, 63, 395, 400, 406, 426, 382, 427, 384, 428, 386, 396, 398, 388, 422, 423, 425, 388, 413, 414, 415, 416, 416, 417, 418, 419, 419, 420, 421, 422, 412, 371, 379, 380, 381, 383, 385, 387, 391, 390, 389] (by decide +kernel), by decide +kernel, by decide +kernel, "no such controller", fun A U H hE => zzWC_str Wd (q := (RX11, 194, "no such controller")) (by decide +kernel) hE⟩
set_option maxRecDepth 100000 in
theorem kv_X11_196_1 : zz_KV RX11 196 RX_1 0 yX2_workOnce cX2_workOnce 4 (some .int) := zz_ku (owner := "ReconcilerHall$Controller") (x := ⟨"ReconcilerHall$Controller", "workOnce", "()I"⟩) (zz_atl [893, 895, 896, 894, 40, 903] (by decide +kernel)) rfl (by decide +kernel)
set_option maxRecDepth 100000 in
theorem kv_X11_196_2 : zz_KV RX11 196 RX_2 0 yX2_workOnce cX2_workOnce 4 (some .int) := zz_ku (owner := "ReconcilerHall$Controller") (x := ⟨"ReconcilerHall$Controller", "workOnce", "()I"⟩) (zz_atl [893, 895, 897, 894, 40, 903] (by decide +kernel)) rfl (by decide +kernel)
set_option maxRecDepth 100000 in
theorem kv_X11_196_3 : zz_KV RX11 196 RX_3 0 yX2_workOnce cX2_workOnce 4 (some .int) := zz_ku (owner := "ReconcilerHall$Controller") (x := ⟨"ReconcilerHall$Controller", "workOnce", "()I"⟩) (zz_atl [893, 895, 898, 894, 40, 903] (by decide +kernel)) rfl (by decide +kernel)
set_option maxRecDepth 100000 in
theorem kv_X11_196_4 : zz_KV RX11 196 RX_4 0 yX2_workOnce cX2_workOnce 4 (some .int) := zz_ku (owner := "ReconcilerHall$Controller") (x := ⟨"ReconcilerHall$Controller", "workOnce", "()I"⟩) (zz_atl [893, 895, 899, 894, 40, 903] (by decide +kernel)) rfl (by decide +kernel)
set_option maxRecDepth 100000 in
theorem kv_X11_196_5 : zz_KV RX11 196 RX_5 0 yX2_workOnce cX2_workOnce 4 (some .int) := zz_ku (owner := "ReconcilerHall$Controller") (x := ⟨"ReconcilerHall$Controller", "workOnce", "()I"⟩) (zz_atl [893, 895, 900, 894, 40, 903] (by decide +kernel)) rfl (by decide +kernel)
set_option maxRecDepth 100000 in
theorem kv_X11_196_6 : zz_KV RX11 196 RX_6 0 yX2_workOnce cX2_workOnce 4 (some .int) := zz_ku (owner := "ReconcilerHall$Controller") (x := ⟨"ReconcilerHall$Controller", "workOnce", "()I"⟩) (zz_atl [893, 895, 901, 894, 40, 903] (by decide +kernel)) rfl (by decide +kernel)
set_option maxRecDepth 100000 in
theorem kv_X11_196_7 : zz_KV RX11 196 RX_7 0 yX2_workOnce cX2_workOnce 4 (some .int) := zz_ku (owner := "ReconcilerHall$Controller") (x := ⟨"ReconcilerHall$Controller", "workOnce", "()I"⟩) (zz_atl [893, 895, 902, 894, 40, 903] (by decide +kernel)) rfl (by decide +kernel)
set_option maxRecDepth 100000 in
theorem th_X11_61_199 {l : Launch} {D : va_G} {cA : Nat → ClassId} {ad : Nat → Nat} {Ex : (Nat → Prop) → State → Heap → Prop} (Wd : zzWC l D cA ad Ex) : zz_Th Ex RX11 61 199 65 0 := ⟨by decide +kernel, zz_at 370 (by decide +kernel), zz_at 52 (by decide +kernel), zz_atl [48, 392, 401, 405, 408, 410, 393, 394, 62, 63, 395, 400, 406, 426, 382, 427, 384, 428, 386, 396, 398, 388, 422, 423, 425, 388, 413, 414, 415, 416, 416, 417, 418, 419, 419, 420, 421, 422, 412, 371, 379, 380, 381, 383, 385, 387, 391, 390, 389] (by decide +kernel), by decide +kernel, by decide +kernel, "no such number of times", fun A U H hE => zzWC_str Wd (q := (RX11, 199, "no such number of times")) (by decide +kernel) hE⟩
set_option maxRecDepth 100000 in
theorem ff_X11_201 : zz_fw RX11 201 zzCl (zz_kf [8] 3) := zz_fw_of (List.forall_mem_cons.mpr ⟨⟨RX_8, zzT8, 9, "ReconcilerHall$Store", zzY8, rfl, by decide, zzI8, zz_at 147 (by decide +kernel), Or.inr (zz_at 141 (by decide +kernel)), zzY8_ok, zzN8⟩, (fun _ h => absurd h List.not_mem_nil)⟩)
set_option maxRecDepth 100000 in
theorem kv_X11_204_1 : zz_KV RX11 204 RX_1 0 yX2_lookAtAll cX2_lookAtAll 1 (some .int) := zz_ku (owner := "ReconcilerHall$Controller") (x := ⟨"ReconcilerHall$Controller", "lookAtAll", "()I"⟩) (zz_atl [1210, 1212, 1213, 1211, 40, 1220] (by decide +kernel)) rfl (by decide +kernel)
set_option maxRecDepth 100000 in
theorem kv_X11_204_2 : zz_KV RX11 204 RX_2 0 yX2_lookAtAll cX2_lookAtAll 1 (some .int) := zz_ku (owner := "ReconcilerHall$Controller") (x := ⟨"ReconcilerHall$Controller", "lookAtAll", "()I"⟩) (zz_atl [1210, 1212, 1214, 1211, 40, 1220] (by decide +kernel)) rfl (by decide +kernel)
set_option maxRecDepth 100000 in
theorem kv_X11_204_3 : zz_KV RX11 204 RX_3 0 yX2_lookAtAll cX2_lookAtAll 1 (some .int) := zz_ku (owner := "ReconcilerHall$Controller") (x := ⟨"ReconcilerHall$Controller", "lookAtAll", "()I"⟩) (zz_atl [1210, 1212, 1215, 1211, 40, 1220] (by decide +kernel)) rfl (by decide +kernel)
set_option maxRecDepth 100000 in
theorem kv_X11_204_4 : zz_KV RX11 204 RX_4 0 yX2_lookAtAll cX2_lookAtAll 1 (some .int) := zz_ku (owner := "ReconcilerHall$Controller") (x := ⟨"ReconcilerHall$Controller", "lookAtAll", "()I"⟩) (zz_atl [1210, 1212, 1216, 1211, 40, 1220] (by decide +kernel)) rfl (by decide +kernel)
set_option maxRecDepth 100000 in
theorem kv_X11_204_5 : zz_KV RX11 204 RX_5 0 yX2_lookAtAll cX2_lookAtAll 1 (some .int) := zz_ku (owner := "ReconcilerHall$Controller") (x := ⟨"ReconcilerHall$Controller", "lookAtAll", "()I"⟩) (zz_atl [1210, 1212, 1217, 1211, 40, 1220] (by decide +kernel)) rfl (by decide +kernel)
set_option maxRecDepth 100000 in
theorem kv_X11_204_6 : zz_KV RX11 204 RX_6 0 yX2_lookAtAll cX2_lookAtAll 1 (some .int) := zz_ku (owner := "ReconcilerHall$Controller") (x := ⟨"ReconcilerHall$Controller", "lookAtAll", "()I"⟩) (zz_atl [1210, 1212, 1218, 1211, 40, 1220] (by decide +kernel)) rfl (by decide +kernel)
set_option maxRecDepth 100000 in
theorem kv_X11_204_7 : zz_KV RX11 204 RX_7 0 yX2_lookAtAll cX2_lookAtAll 1 (some .int) := zz_ku (owner := "ReconcilerHall$Controller") (x := ⟨"ReconcilerHall$Controller", "lookAtAll", "()I"⟩) (zz_atl [1210, 1212, 1219, 1211, 40, 1220] (by decide +kernel)) rfl (by decide +kernel)
set_option maxRecDepth 100000 in
theorem ff_X11_207 : zz_fw RX11 207 zzCl (zz_kf [1, 2, 3, 4, 5, 6, 7] 3) := zz_fw_of (List.forall_mem_cons.mpr ⟨⟨RX_1, zzT1, 12, "ReconcilerHall$Controller", zzY1, rfl, by decide, zzI1, zz_at 148 (by decide +kernel), Or.inr (zz_at 143 (by decide +kernel)), zzY1_ok, zzN1⟩, (List.forall_mem_cons.mpr ⟨⟨RX_2, zzT2, 12, "ReconcilerHall$Controller", zzY2, rfl, by decide, zzI2, zz_at 148 (by decide +kernel), Or.inr (zz_at 143 (by decide +kernel)), zzY2_ok, zzN2⟩, (List.forall_mem_cons.mpr ⟨⟨RX_3, zzT3, 12, "ReconcilerHall$Controller", zzY3, rfl, by decide, zzI3, zz_at 148 (by decide +kernel), Or.inr (zz_at 143 (by decide +kernel)), zzY3_ok, zzN3⟩, (List.forall_mem_cons.mpr ⟨⟨RX_4, zzT4, 12, "ReconcilerHall$Controller", zzY4, rfl, by decide, zzI4, zz_at 148 (by decide +kernel), Or.inr (zz_at 143 (by decide +kernel)), zzY4_ok, zzN4⟩, (List.forall_mem_cons.mpr ⟨⟨RX_5, zzT5, 12, "ReconcilerHall$Controller", zzY5, rfl, by decide, zzI5, zz_at 148 (by decide +kernel), Or.inr (zz_at 143 (by decide +kernel)), zzY5_ok, zzN5⟩, (List.forall_mem_cons.mpr ⟨⟨RX_6, zzT6, 13, "ReconcilerHall$Controller", zzY6, rfl, by decide, zzI6, zz_at 148 (by decide +kernel), Or.inr (zz_at 143 (by decide +kernel)), zzY6_ok, zzN6⟩, (List.forall_mem_cons.mpr ⟨⟨RX_7, zzT7, 15, "ReconcilerHall$Controller", zzY7, rfl, by decide, zzI7, zz_at 148 (by decide +kernel), Or.inr (zz_at 143 (by decide +kernel)), zzY7_ok, zzN7⟩, (fun _ h => absurd h List.not_mem_nil)⟩)⟩)⟩)⟩)⟩)⟩)⟩)
set_option maxRecDepth 100000 in
theorem th_X11_208_210 {l : Launch} {D : va_G} {cA : Nat → ClassId} {ad : Nat → Nat} {Ex : (Nat → Prop) → State → Heap → Prop} (Wd : zzWC l D cA ad Ex) : zz_Th Ex RX11 208 210 212 2 := ⟨by decide +kernel, zz_at 458 (by decide +kernel), zz_at 51 (by decide +kernel), zz_atl [48, 392, 401, 405, 408, 410, 393, 394, 62, 63, 395, 400, 406, 426, 382, 427, 384, 428, 386, 396, 398, 388, 422, 423, 425, 388, 469, 470, 471, 416, 416, 417, 418, 419, 419, 420, 421, 422, 468, 459, 461, 404, 462, 463, 464, 465, 391, 390, 466] (by decide +kernel), by decide +kernel, by decide +kernel, "no such place", fun A U H hE => zzWC_str Wd (q := (RX11, 210, "no such place")) (by decide +kernel) hE⟩
set_option maxRecDepth 100000 in
theorem kv_X11_213_1 : zz_KV RX11 213 RX_1 1 yX2_keyAt cX2_keyAt 2 (some .int) := zz_ku (owner := "ReconcilerHall$Controller") (x := ⟨"ReconcilerHall$Controller", "keyAt", "(I)I"⟩) (zz_atl [1305, 1307, 1308, 1306, 40, 1315] (by decide +kernel)) rfl (by decide +kernel)
set_option maxRecDepth 100000 in
theorem kv_X11_213_2 : zz_KV RX11 213 RX_2 1 yX2_keyAt cX2_keyAt 2 (some .int) := zz_ku (owner := "ReconcilerHall$Controller") (x := ⟨"ReconcilerHall$Controller", "keyAt", "(I)I"⟩) (zz_atl [1305, 1307, 1309, 1306, 40, 1315] (by decide +kernel)) rfl (by decide +kernel)
set_option maxRecDepth 100000 in
theorem kv_X11_213_3 : zz_KV RX11 213 RX_3 1 yX2_keyAt cX2_keyAt 2 (some .int) := zz_ku (owner := "ReconcilerHall$Controller") (x := ⟨"ReconcilerHall$Controller", "keyAt", "(I)I"⟩) (zz_atl [1305, 1307, 1310, 1306, 40, 1315] (by decide +kernel)) rfl (by decide +kernel)
set_option maxRecDepth 100000 in
theorem kv_X11_213_4 : zz_KV RX11 213 RX_4 1 yX2_keyAt cX2_keyAt 2 (some .int) := zz_ku (owner := "ReconcilerHall$Controller") (x := ⟨"ReconcilerHall$Controller", "keyAt", "(I)I"⟩) (zz_atl [1305, 1307, 1311, 1306, 40, 1315] (by decide +kernel)) rfl (by decide +kernel)
set_option maxRecDepth 100000 in
theorem kv_X11_213_5 : zz_KV RX11 213 RX_5 1 yX2_keyAt cX2_keyAt 2 (some .int) := zz_ku (owner := "ReconcilerHall$Controller") (x := ⟨"ReconcilerHall$Controller", "keyAt", "(I)I"⟩) (zz_atl [1305, 1307, 1312, 1306, 40, 1315] (by decide +kernel)) rfl (by decide +kernel)
set_option maxRecDepth 100000 in
theorem kv_X11_213_6 : zz_KV RX11 213 RX_6 1 yX2_keyAt cX2_keyAt 2 (some .int) := zz_ku (owner := "ReconcilerHall$Controller") (x := ⟨"ReconcilerHall$Controller", "keyAt", "(I)I"⟩) (zz_atl [1305, 1307, 1313, 1306, 40, 1315] (by decide +kernel)) rfl (by decide +kernel)
set_option maxRecDepth 100000 in
theorem kv_X11_213_7 : zz_KV RX11 213 RX_7 1 yX2_keyAt cX2_keyAt 2 (some .int) := zz_ku (owner := "ReconcilerHall$Controller") (x := ⟨"ReconcilerHall$Controller", "keyAt", "(I)I"⟩) (zz_atl [1305, 1307, 1314, 1306, 40, 1315] (by decide +kernel)) rfl (by decide +kernel)
set_option maxRecDepth 100000 in
theorem ff_X11_216 : zz_fw RX11 216 zzCl (zz_kf [1, 2, 3, 4, 5, 6, 7] 8) := zz_fw_of (List.forall_mem_cons.mpr ⟨⟨RX_1, zzT1, 12, "ReconcilerHall$Controller", zzY1, rfl, by decide, zzI1, zz_at 192 (by decide +kernel), Or.inl rfl, zzY1_ok, zzN1⟩, (List.forall_mem_cons.mpr ⟨⟨RX_2, zzT2, 12, "ReconcilerHall$Controller", zzY2, rfl, by decide, zzI2, zz_at 192 (by decide +kernel), Or.inl rfl, zzY2_ok, zzN2⟩, (List.forall_mem_cons.mpr ⟨⟨RX_3, zzT3, 12, "ReconcilerHall$Controller", zzY3, rfl, by decide, zzI3, zz_at 192 (by decide +kernel), Or.inl rfl, zzY3_ok, zzN3⟩, (List.forall_mem_cons.mpr ⟨⟨RX_4, zzT4, 12, "ReconcilerHall$Controller", zzY4, rfl, by decide, zzI4, zz_at 192 (by decide +kernel), Or.inl rfl, zzY4_ok, zzN4⟩, (List.forall_mem_cons.mpr ⟨⟨RX_5, zzT5, 12, "ReconcilerHall$Controller", zzY5, rfl, by decide, zzI5, zz_at 192 (by decide +kernel), Or.inl rfl, zzY5_ok, zzN5⟩, (List.forall_mem_cons.mpr ⟨⟨RX_6, zzT6, 13, "ReconcilerHall$Controller", zzY6, rfl, by decide, zzI6, zz_at 192 (by decide +kernel), Or.inl rfl, zzY6_ok, zzN6⟩, (List.forall_mem_cons.mpr ⟨⟨RX_7, zzT7, 15, "ReconcilerHall$Controller", zzY7, rfl, by decide, zzI7, zz_at 192 (by decide +kernel), Or.inl rfl, zzY7_ok, zzN7⟩, (fun _ h => absurd h List.not_mem_nil)⟩)⟩)⟩)⟩)⟩)⟩)⟩)
set_option maxRecDepth 100000 in
theorem kv_X11_219_9 : zz_KV RX11 219 RX_9 2 yX11_requireField cX11_requireField 3 none ∧ zz_KX RX11 219 RX_9 2 yX11_requireField cX11_requireField 3 none := zz_kv (zz_atl [484, 486, 3, 36, 487] (by decide +kernel)) (by decide +kernel)
set_option maxRecDepth 100000 in
theorem th_X11_61_299 {l : Launch} {D : va_G} {cA : Nat → ClassId} {ad : Nat → Nat} {Ex : (Nat → Prop) → State → Heap → Prop} (Wd : zzWC l D cA ad Ex) : zz_Th Ex RX11 61 299 65 0 := ⟨by decide +kernel, zz_at 370 (by decide +kernel), zz_at 52 (by decide +kernel), zz_atl [48, 392, 401, 405, 408, 410, 393, 394, 62, 63, 395, 400, 406, 426, 382, 427, 384, 428, 386, 396, 398, 388, 422, 423, 425, 388, 413, 414, 415, 416, 416, 417, 418, 419, 419, 420, 421, 422, 412, 371, 379, 380, 381, 383, 385, 387, 391, 390, 389] (by decide +kernel), by decide +kernel, by decide +kernel, "the kind has no such field", fun A U H hE => zzWC_str Wd (q := (RX11, 299, "the kind has no such field")) (by decide +kernel) hE⟩
set_option maxRecDepth 100000 in
theorem kv_X11_222_1 : zz_KV RX11 222 RX_1 2 yX10_read cX10_read 3 (some .int) := zz_ku (owner := "ReconcilerHall$View") (x := ⟨"ReconcilerHall$Controller", "read", "(II)I"⟩) (zz_atl [1324, 774, 775, 478, 37, 479] (by decide +kernel)) rfl (by decide +kernel)
set_option maxRecDepth 100000 in
theorem kv_X11_222_2 : zz_KV RX11 222 RX_2 2 yX10_read cX10_read 3 (some .int) := zz_ku (owner := "ReconcilerHall$View") (x := ⟨"ReconcilerHall$Controller", "read", "(II)I"⟩) (zz_atl [1324, 774, 776, 478, 37, 479] (by decide +kernel)) rfl (by decide +kernel)
set_option maxRecDepth 100000 in
theorem kv_X11_222_3 : zz_KV RX11 222 RX_3 2 yX10_read cX10_read 3 (some .int) := zz_ku (owner := "ReconcilerHall$View") (x := ⟨"ReconcilerHall$Controller", "read", "(II)I"⟩) (zz_atl [1324, 774, 777, 478, 37, 479] (by decide +kernel)) rfl (by decide +kernel)
set_option maxRecDepth 100000 in
theorem kv_X11_222_4 : zz_KV RX11 222 RX_4 2 yX10_read cX10_read 3 (some .int) := zz_ku (owner := "ReconcilerHall$View") (x := ⟨"ReconcilerHall$Controller", "read", "(II)I"⟩) (zz_atl [1324, 774, 778, 478, 37, 479] (by decide +kernel)) rfl (by decide +kernel)
set_option maxRecDepth 100000 in
theorem kv_X11_222_5 : zz_KV RX11 222 RX_5 2 yX10_read cX10_read 3 (some .int) := zz_ku (owner := "ReconcilerHall$View") (x := ⟨"ReconcilerHall$Controller", "read", "(II)I"⟩) (zz_atl [1324, 774, 779, 478, 37, 479] (by decide +kernel)) rfl (by decide +kernel)
set_option maxRecDepth 100000 in
theorem kv_X11_222_6 : zz_KV RX11 222 RX_6 2 yX10_read cX10_read 3 (some .int) := zz_ku (owner := "ReconcilerHall$View") (x := ⟨"ReconcilerHall$Controller", "read", "(II)I"⟩) (zz_atl [1324, 774, 780, 478, 37, 479] (by decide +kernel)) rfl (by decide +kernel)
set_option maxRecDepth 100000 in
theorem kv_X11_222_7 : zz_KV RX11 222 RX_7 2 yX10_read cX10_read 3 (some .int) := zz_ku (owner := "ReconcilerHall$View") (x := ⟨"ReconcilerHall$Controller", "read", "(II)I"⟩) (zz_atl [1324, 774, 781, 478, 37, 479] (by decide +kernel)) rfl (by decide +kernel)
set_option maxRecDepth 100000 in
theorem ff_X11_223 : zz_fw RX11 223 zzCl (zz_kf [1, 2, 3, 4, 5, 6, 7] 11) := zz_fw_of (List.forall_mem_cons.mpr ⟨⟨RX_1, zzT1, 12, "ReconcilerHall$Controller", zzY1, rfl, by decide, zzI1, zz_at 198 (by decide +kernel), Or.inl rfl, zzY1_ok, zzN1⟩, (List.forall_mem_cons.mpr ⟨⟨RX_2, zzT2, 12, "ReconcilerHall$Controller", zzY2, rfl, by decide, zzI2, zz_at 198 (by decide +kernel), Or.inl rfl, zzY2_ok, zzN2⟩, (List.forall_mem_cons.mpr ⟨⟨RX_3, zzT3, 12, "ReconcilerHall$Controller", zzY3, rfl, by decide, zzI3, zz_at 198 (by decide +kernel), Or.inl rfl, zzY3_ok, zzN3⟩, (List.forall_mem_cons.mpr ⟨⟨RX_4, zzT4, 12, "ReconcilerHall$Controller", zzY4, rfl, by decide, zzI4, zz_at 198 (by decide +kernel), Or.inl rfl, zzY4_ok, zzN4⟩, (List.forall_mem_cons.mpr ⟨⟨RX_5, zzT5, 12, "ReconcilerHall$Controller", zzY5, rfl, by decide, zzI5, zz_at 198 (by decide +kernel), Or.inl rfl, zzY5_ok, zzN5⟩, (List.forall_mem_cons.mpr ⟨⟨RX_6, zzT6, 13, "ReconcilerHall$Controller", zzY6, rfl, by decide, zzI6, zz_at 198 (by decide +kernel), Or.inl rfl, zzY6_ok, zzN6⟩, (List.forall_mem_cons.mpr ⟨⟨RX_7, zzT7, 15, "ReconcilerHall$Controller", zzY7, rfl, by decide, zzI7, zz_at 198 (by decide +kernel), Or.inl rfl, zzY7_ok, zzN7⟩, (fun _ h => absurd h List.not_mem_nil)⟩)⟩)⟩)⟩)⟩)⟩)⟩)
set_option maxRecDepth 100000 in
theorem ks_X11_226 : zz_KS RX11 226 1 yX11_isReader cX11_isReader 1 (some .boolean) := zz_ks (zz_atl [1226, 1227, 36, 1228] (by decide +kernel)) (by decide +kernel)
set_option maxRecDepth 100000 in
theorem th_X11_61_229 {l : Launch} {D : va_G} {cA : Nat → ClassId} {ad : Nat → Nat} {Ex : (Nat → Prop) → State → Heap → Prop} (Wd : zzWC l D cA ad Ex) : zz_Th Ex RX11 61 229 65 0 := ⟨by decide +kernel, zz_at 370 (by decide +kernel), zz_at 52 (by decide +kernel), zz_atl [48, 392, 401, 405, 408, 410, 393, 394, 62, 63, 395, 400, 406, 426, 382, 427, 384, 428, 386, 396, 398, 388, 422, 423, 425, 388, 413, 414, 415, 416, 416, 417, 418, 419, 419, 420, 421, 422, 412, 371, 379, 380, 381, 383, 385, 387, 391, 390, 389] (by decide +kernel), by decide +kernel, by decide +kernel, "no such reader or version", fun A U H hE => zzWC_str Wd (q := (RX11, 229, "no such reader or version")) (by decide +kernel) hE⟩
set_option maxRecDepth 100000 in
theorem ff_X11_231 : zz_fw RX11 231 zzCl (zz_kf [8] 8) := zz_fw_of (List.forall_mem_cons.mpr ⟨⟨RX_8, zzT8, 9, "ReconcilerHall$Store", zzY8, rfl, by decide, zzI8, zz_at 116 (by decide +kernel), Or.inl rfl, zzY8_ok, zzN8⟩, (fun _ h => absurd h List.not_mem_nil)⟩)
set_option maxRecDepth 100000 in
theorem th_X11_75_234 {l : Launch} {D : va_G} {cA : Nat → ClassId} {ad : Nat → Nat} {Ex : (Nat → Prop) → State → Heap → Prop} (Wd : zzWC l D cA ad Ex) : zz_Th Ex RX11 75 234 79 1 := ⟨by decide +kernel, zz_at 609 (by decide +kernel), zz_at 54 (by decide +kernel), zz_atl [48, 392, 401, 405, 408, 410, 393, 394, 62, 63, 395, 400, 406, 426, 382, 427, 384, 428, 386, 396, 398, 388, 422, 423, 425, 388, 620, 621, 622, 416, 416, 417, 418, 419, 419, 420, 421, 422, 619, 610, 612, 403, 613, 614, 615, 616, 391, 390, 617] (by decide +kernel), by decide +kernel, by decide +kernel, "some of these events were compacted", fun A U H hE => zzWC_str Wd (q := (RX11, 234, "some of these events were compacted")) (by decide +kernel) hE⟩
set_option maxRecDepth 100000 in
theorem ff_X11_47 : zz_fw RX11 47 zzCl (zz_kf [9] 2) := zz_fw_of (List.forall_mem_cons.mpr ⟨⟨RX_9, zzT9, 5, "ReconcilerHall", zzY9, rfl, by decide, zzI9, zz_at 349 (by decide +kernel), Or.inl rfl, zzY9_ok, zzN9⟩, (fun _ h => absurd h List.not_mem_nil)⟩)
set_option maxRecDepth 100000 in
theorem th_X11_61_236 {l : Launch} {D : va_G} {cA : Nat → ClassId} {ad : Nat → Nat} {Ex : (Nat → Prop) → State → Heap → Prop} (Wd : zzWC l D cA ad Ex) : zz_Th Ex RX11 61 236 65 0 := ⟨by decide +kernel, zz_at 370 (by decide +kernel), zz_at 52 (by decide +kernel), zz_atl [48, 392, 401, 405, 408, 410, 393, 394, 62, 63, 395, 400, 406, 426, 382, 427, 384, 428, 386, 396, 398, 388, 422, 423, 425, 388, 413, 414, 415, 416, 416, 417, 418, 419, 419, 420, 421, 422, 412, 371, 379, 380, 381, 383, 385, 387, 391, 390, 389] (by decide +kernel), by decide +kernel, by decide +kernel, "no such reader", fun A U H hE => zzWC_str Wd (q := (RX11, 236, "no such reader")) (by decide +kernel) hE⟩
set_option maxRecDepth 100000 in
theorem th_X11_75_238 {l : Launch} {D : va_G} {cA : Nat → ClassId} {ad : Nat → Nat} {Ex : (Nat → Prop) → State → Heap → Prop} (Wd : zzWC l D cA ad Ex) : zz_Th Ex RX11 75 238 79 1 := ⟨by decide +kernel, zz_at 609 (by decide +kernel), zz_at 54 (by decide +kernel), zz_atl [48, 392, 401, 405, 408, 410, 393, 394, 62, 63, 395, 400, 406, 426, 382, 427, 384, 428, 386, 396, 398, 388, 422, 423, 425, 388, 620, 621, 622, 416, 416, 417, 418, 419, 419, 420, 421, 422, 619, 610, 612, 403, 613, 614, 615, 616, 391, 390, 617] (by decide +kernel), by decide +kernel, by decide +kernel, "the next event was compacted", fun A U H hE => zzWC_str Wd (q := (RX11, 238, "the next event was compacted")) (by decide +kernel) hE⟩
set_option maxRecDepth 100000 in
theorem kv_X11_240_8 : zz_KV RX11 240 RX_8 1 yX10_objectAt cX10_objectAt 2 (some .int) := zz_ku (owner := "ReconcilerHall$View") (x := ⟨"ReconcilerHall$Store", "objectAt", "(I)I"⟩) (zz_atl [537, 538, 540, 541, 37, 542] (by decide +kernel)) rfl (by decide +kernel)
set_option maxRecDepth 100000 in
theorem th_X11_61_246 {l : Launch} {D : va_G} {cA : Nat → ClassId} {ad : Nat → Nat} {Ex : (Nat → Prop) → State → Heap → Prop} (Wd : zzWC l D cA ad Ex) : zz_Th Ex RX11 61 246 65 0 := ⟨by decide +kernel, zz_at 370 (by decide +kernel), zz_at 52 (by decide +kernel), zz_atl [48, 392, 401, 405, 408, 410, 393, 394, 62, 63, 395, 400, 406, 426, 382, 427, 384, 428, 386, 396, 398, 388, 422, 423, 425, 388, 413, 414, 415, 416, 416, 417, 418, 419, 419, 420, 421, 422, 412, 371, 379, 380, 381, 383, 385, 387, 391, 390, 389] (by decide +kernel), by decide +kernel, by decide +kernel, "no such version", fun A U H hE => zzWC_str Wd (q := (RX11, 246, "no such version")) (by decide +kernel) hE⟩
set_option maxRecDepth 100000 in
theorem fp_8_8 : zz_fp zzCl (zz_kf [8] 8) false := zz_fp_of (List.forall_mem_cons.mpr ⟨⟨(RX_8, zzT8, 9), rfl, rfl, by decide +kernel⟩, (fun _ h => absurd h List.not_mem_nil)⟩)
set_option maxRecDepth 100000 in
theorem th_X11_61_251 {l : Launch} {D : va_G} {cA : Nat → ClassId} {ad : Nat → Nat} {Ex : (Nat → Prop) → State → Heap → Prop} (Wd : zzWC l D cA ad Ex) : zz_Th Ex RX11 61 251 65 0 := ⟨by decide +kernel, zz_at 370 (by decide +kernel), zz_at 52 (by decide +kernel), zz_atl [48, 392, 401, 405, 408, 410, 393, 394, 62, 63, 395, 400, 406, 426, 382, 427, 384, 428, 386, 396, 398, 388, 422, 423, 425, 388, 413, 414, 415, 416, 416, 417, 418, 419, 419, 420, 421, 422, 412, 371, 379, 380, 381, 383, 385, 387, 391, 390, 389] (by decide +kernel), by decide +kernel, by decide +kernel, "no such number of ticks", fun A U H hE => zzWC_str Wd (q := (RX11, 251, "no such number of ticks")) (by decide +kernel) hE⟩
set_option maxRecDepth 100000 in
theorem ff_X11_253 : zz_fw RX11 253 zzCl (zz_kf [8] 7) := zz_fw_of (List.forall_mem_cons.mpr ⟨⟨RX_8, zzT8, 9, "ReconcilerHall$Store", zzY8, rfl, by decide, zzI8, zz_at 114 (by decide +kernel), Or.inl rfl, zzY8_ok, zzN8⟩, (fun _ h => absurd h List.not_mem_nil)⟩)
set_option maxRecDepth 100000 in
theorem th_X11_75_256 {l : Launch} {D : va_G} {cA : Nat → ClassId} {ad : Nat → Nat} {Ex : (Nat → Prop) → State → Heap → Prop} (Wd : zzWC l D cA ad Ex) : zz_Th Ex RX11 75 256 79 1 := ⟨by decide +kernel, zz_at 609 (by decide +kernel), zz_at 54 (by decide +kernel), zz_atl [48, 392, 401, 405, 408, 410, 393, 394, 62, 63, 395, 400, 406, 426, 382, 427, 384, 428, 386, 396, 398, 388, 422, 423, 425, 388, 620, 621, 622, 416, 416, 417, 418, 419, 419, 420, 421, 422, 619, 610, 612, 403, 613, 614, 615, 616, 391, 390, 617] (by decide +kernel), by decide +kernel, by decide +kernel, "there are no such ticks", fun A U H hE => zzWC_str Wd (q := (RX11, 256, "there are no such ticks")) (by decide +kernel) hE⟩
set_option maxRecDepth 100000 in
theorem kv_X11_258_8 : zz_KV RX11 258 RX_8 0 yX9_beginTick cX9_beginTick 2 none ∧ zz_KX RX11 258 RX_8 0 yX9_beginTick cX9_beginTick 2 none := zz_kv (zz_atl [1249, 1250, 1251, 38, 1252] (by decide +kernel)) (by decide +kernel)
set_option maxRecDepth 100000 in
theorem th_X11_75_261 {l : Launch} {D : va_G} {cA : Nat → ClassId} {ad : Nat → Nat} {Ex : (Nat → Prop) → State → Heap → Prop} (Wd : zzWC l D cA ad Ex) : zz_Th Ex RX11 75 261 79 1 := ⟨by decide +kernel, zz_at 609 (by decide +kernel), zz_at 54 (by decide +kernel), zz_atl [48, 392, 401, 405, 408, 410, 393, 394, 62, 63, 395, 400, 406, 426, 382, 427, 384, 428, 386, 396, 398, 388, 422, 423, 425, 388, 620, 621, 622, 416, 416, 417, 418, 419, 419, 420, 421, 422, 619, 610, 612, 403, 613, 614, 615, 616, 391, 390, 617] (by decide +kernel), by decide +kernel, by decide +kernel, "the node is gone or the log is full", fun A U H hE => zzWC_str Wd (q := (RX11, 261, "the node is gone or the log is full")) (by decide +kernel) hE⟩
set_option maxRecDepth 100000 in
theorem ff_X11_263 : zz_fw RX11 263 zzCl (zz_kf [8] 5) := zz_fw_of (List.forall_mem_cons.mpr ⟨⟨RX_8, zzT8, 9, "ReconcilerHall$Store", zzY8, rfl, by decide, zzI8, zz_at 109 (by decide +kernel), Or.inl rfl, zzY8_ok, zzN8⟩, (fun _ h => absurd h List.not_mem_nil)⟩)
set_option maxRecDepth 100000 in
theorem th_X11_61_266 {l : Launch} {D : va_G} {cA : Nat → ClassId} {ad : Nat → Nat} {Ex : (Nat → Prop) → State → Heap → Prop} (Wd : zzWC l D cA ad Ex) : zz_Th Ex RX11 61 266 65 0 := ⟨by decide +kernel, zz_at 370 (by decide +kernel), zz_at 52 (by decide +kernel), zz_atl [48, 392, 401, 405, 408, 410, 393, 394, 62, 63, 395, 400, 406, 426, 382, 427, 384, 428, 386, 396, 398, 388, 422, 423, 425, 388, 413, 414, 415, 416, 416, 417, 418, 419, 419, 420, 421, 422, 412, 371, 379, 380, 381, 383, 385, 387, 391, 390, 389] (by decide +kernel), by decide +kernel, by decide +kernel, "no such template", fun A U H hE => zzWC_str Wd (q := (RX11, 266, "no such template")) (by decide +kernel) hE⟩
set_option maxRecDepth 100000 in
theorem ff_X11_51 : zz_fw RX11 51 zzCl (zz_kf [9] 3) := zz_fw_of (List.forall_mem_cons.mpr ⟨⟨RX_9, zzT9, 5, "ReconcilerHall", zzY9, rfl, by decide, zzI9, zz_at 350 (by decide +kernel), Or.inl rfl, zzY9_ok, zzN9⟩, (fun _ h => absurd h List.not_mem_nil)⟩)
set_option maxRecDepth 100000 in
theorem kv_X11_275_8 : zz_KV RX11 275 RX_8 1 yX10_newSetOf cX10_newSetOf 4 (some .int) := zz_ku (owner := "ReconcilerHall$View") (x := ⟨"ReconcilerHall$Store", "newSetOf", "(I)I"⟩) (zz_atl [1291, 1292, 1293, 982, 37, 983] (by decide +kernel)) rfl (by decide +kernel)
set_option maxRecDepth 100000 in
theorem kv_X11_278_8 : zz_KV RX11 278 RX_8 1 yX10_countRunning cX10_countRunning 4 (some .int) := zz_ku (owner := "ReconcilerHall$View") (x := ⟨"ReconcilerHall$Store", "countRunning", "(I)I"⟩) (zz_atl [1294, 1295, 1296, 1035, 37, 1036] (by decide +kernel)) rfl (by decide +kernel)
set_option maxRecDepth 100000 in
theorem kv_X11_281_8 : zz_KV RX11 281 RX_8 1 yX10_countRunningOfAll cX10_countRunningOfAll 4 (some .int) := zz_ku (owner := "ReconcilerHall$View") (x := ⟨"ReconcilerHall$Store", "countRunningOfAll", "(I)I"⟩) (zz_atl [1297, 1298, 1299, 1041, 37, 1042] (by decide +kernel)) rfl (by decide +kernel)
set_option maxRecDepth 100000 in
theorem th_X11_208_284 {l : Launch} {D : va_G} {cA : Nat → ClassId} {ad : Nat → Nat} {Ex : (Nat → Prop) → State → Heap → Prop} (Wd : zzWC l D cA ad Ex) : zz_Th Ex RX11 208 284 212 2 := ⟨by decide +kernel, zz_at 458 (by decide +kernel), zz_at 51 (by decide +kernel), zz_atl [48, 392, 401, 405, 408, 410, 393, 394, 62, 63, 395, 400, 406, 426, 382, 427, 384, 428, 386, 396, 398, 388, 422, 423, 425, 388, 469, 470, 471, 416, 416, 417, 418, 419, 419, 420, 421, 422, 468, 459, 461, 404, 462, 463, 464, 465, 391, 390, 466] (by decide +kernel), by decide +kernel, by decide +kernel, "no such event", fun A U H hE => zzWC_str Wd (q := (RX11, 284, "no such event")) (by decide +kernel) hE⟩
end

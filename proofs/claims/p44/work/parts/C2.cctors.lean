section
/-! the constructors of the class -/
set_option maxRecDepth 100000 in
theorem ff_X0_21 : zz_fw RX0 21 zzCl (zz_kf [0] 5) := zz_fw_of (List.forall_mem_cons.mpr ⟨⟨RX_0, zzT0, 6, "ReconcilerHall$Admission", zzY0, rfl, by decide, zzI0, zz_in (by decide +kernel), Or.inl rfl, zzY0_ok, zzN0⟩, (fun _ h => absurd h List.not_mem_nil)⟩)
set_option maxRecDepth 100000 in
theorem ff_X2_3 : zz_fw RX2 3 zzCl (zz_kf [8] 0) := zz_fw_of (List.forall_mem_cons.mpr ⟨⟨RX_8, zzT8, 9, "ReconcilerHall$Store", zzY8, rfl, by decide, zzI8, zz_in (by decide +kernel), Or.inr (zz_in (by decide +kernel)), zzY8_ok, zzN8⟩, (fun _ h => absurd h List.not_mem_nil)⟩)
set_option maxRecDepth 100000 in
theorem fq_V0 : zi_fq zzCl (zz_kf [1, 2, 3, 4, 5, 6, 7, 8] 0) RX10 (.array .int) := zi_fq_of (List.forall_mem_cons.mpr ⟨⟨(RX_1, zzT1, 12), rfl, rfl, rfl, by decide +kernel⟩, (List.forall_mem_cons.mpr ⟨⟨(RX_2, zzT2, 12), rfl, rfl, rfl, by decide +kernel⟩, (List.forall_mem_cons.mpr ⟨⟨(RX_3, zzT3, 12), rfl, rfl, rfl, by decide +kernel⟩, (List.forall_mem_cons.mpr ⟨⟨(RX_4, zzT4, 12), rfl, rfl, rfl, by decide +kernel⟩, (List.forall_mem_cons.mpr ⟨⟨(RX_5, zzT5, 12), rfl, rfl, rfl, by decide +kernel⟩, (List.forall_mem_cons.mpr ⟨⟨(RX_6, zzT6, 13), rfl, rfl, rfl, by decide +kernel⟩, (List.forall_mem_cons.mpr ⟨⟨(RX_7, zzT7, 15), rfl, rfl, rfl, by decide +kernel⟩, (List.forall_mem_cons.mpr ⟨⟨(RX_8, zzT8, 9), rfl, rfl, rfl, by decide +kernel⟩, (fun _ h => absurd h List.not_mem_nil)⟩)⟩)⟩)⟩)⟩)⟩)⟩)⟩)
set_option maxRecDepth 100000 in
theorem fq_V1 : zi_fq zzCl (zz_kf [1, 2, 3, 4, 5, 6, 7, 8] 1) RX10 (.array .int) := zi_fq_of (List.forall_mem_cons.mpr ⟨⟨(RX_1, zzT1, 12), rfl, rfl, rfl, by decide +kernel⟩, (List.forall_mem_cons.mpr ⟨⟨(RX_2, zzT2, 12), rfl, rfl, rfl, by decide +kernel⟩, (List.forall_mem_cons.mpr ⟨⟨(RX_3, zzT3, 12), rfl, rfl, rfl, by decide +kernel⟩, (List.forall_mem_cons.mpr ⟨⟨(RX_4, zzT4, 12), rfl, rfl, rfl, by decide +kernel⟩, (List.forall_mem_cons.mpr ⟨⟨(RX_5, zzT5, 12), rfl, rfl, rfl, by decide +kernel⟩, (List.forall_mem_cons.mpr ⟨⟨(RX_6, zzT6, 13), rfl, rfl, rfl, by decide +kernel⟩, (List.forall_mem_cons.mpr ⟨⟨(RX_7, zzT7, 15), rfl, rfl, rfl, by decide +kernel⟩, (List.forall_mem_cons.mpr ⟨⟨(RX_8, zzT8, 9), rfl, rfl, rfl, by decide +kernel⟩, (fun _ h => absurd h List.not_mem_nil)⟩)⟩)⟩)⟩)⟩)⟩)⟩)⟩)
set_option maxRecDepth 100000 in
theorem fq_C4 : zi_fq zzCl (zz_kf [1, 2, 3, 4, 5, 6, 7] 4) RX2 (.object "ReconcilerHall$Store") := zi_fq_of (List.forall_mem_cons.mpr ⟨⟨(RX_1, zzT1, 12), rfl, rfl, rfl, by decide +kernel⟩, (List.forall_mem_cons.mpr ⟨⟨(RX_2, zzT2, 12), rfl, rfl, rfl, by decide +kernel⟩, (List.forall_mem_cons.mpr ⟨⟨(RX_3, zzT3, 12), rfl, rfl, rfl, by decide +kernel⟩, (List.forall_mem_cons.mpr ⟨⟨(RX_4, zzT4, 12), rfl, rfl, rfl, by decide +kernel⟩, (List.forall_mem_cons.mpr ⟨⟨(RX_5, zzT5, 12), rfl, rfl, rfl, by decide +kernel⟩, (List.forall_mem_cons.mpr ⟨⟨(RX_6, zzT6, 13), rfl, rfl, rfl, by decide +kernel⟩, (List.forall_mem_cons.mpr ⟨⟨(RX_7, zzT7, 15), rfl, rfl, rfl, by decide +kernel⟩, (fun _ h => absurd h List.not_mem_nil)⟩)⟩)⟩)⟩)⟩)⟩)⟩)
set_option maxRecDepth 100000 in
theorem fq_C5 : zi_fq zzCl (zz_kf [1, 2, 3, 4, 5, 6, 7] 5) RX2 (.int) := zi_fq_of (List.forall_mem_cons.mpr ⟨⟨(RX_1, zzT1, 12), rfl, rfl, rfl, by decide +kernel⟩, (List.forall_mem_cons.mpr ⟨⟨(RX_2, zzT2, 12), rfl, rfl, rfl, by decide +kernel⟩, (List.forall_mem_cons.mpr ⟨⟨(RX_3, zzT3, 12), rfl, rfl, rfl, by decide +kernel⟩, (List.forall_mem_cons.mpr ⟨⟨(RX_4, zzT4, 12), rfl, rfl, rfl, by decide +kernel⟩, (List.forall_mem_cons.mpr ⟨⟨(RX_5, zzT5, 12), rfl, rfl, rfl, by decide +kernel⟩, (List.forall_mem_cons.mpr ⟨⟨(RX_6, zzT6, 13), rfl, rfl, rfl, by decide +kernel⟩, (List.forall_mem_cons.mpr ⟨⟨(RX_7, zzT7, 15), rfl, rfl, rfl, by decide +kernel⟩, (fun _ h => absurd h List.not_mem_nil)⟩)⟩)⟩)⟩)⟩)⟩)⟩)
set_option maxRecDepth 100000 in
theorem fq_C6 : zi_fq zzCl (zz_kf [1, 2, 3, 4, 5, 6, 7] 6) RX2 (.array .int) := zi_fq_of (List.forall_mem_cons.mpr ⟨⟨(RX_1, zzT1, 12), rfl, rfl, rfl, by decide +kernel⟩, (List.forall_mem_cons.mpr ⟨⟨(RX_2, zzT2, 12), rfl, rfl, rfl, by decide +kernel⟩, (List.forall_mem_cons.mpr ⟨⟨(RX_3, zzT3, 12), rfl, rfl, rfl, by decide +kernel⟩, (List.forall_mem_cons.mpr ⟨⟨(RX_4, zzT4, 12), rfl, rfl, rfl, by decide +kernel⟩, (List.forall_mem_cons.mpr ⟨⟨(RX_5, zzT5, 12), rfl, rfl, rfl, by decide +kernel⟩, (List.forall_mem_cons.mpr ⟨⟨(RX_6, zzT6, 13), rfl, rfl, rfl, by decide +kernel⟩, (List.forall_mem_cons.mpr ⟨⟨(RX_7, zzT7, 15), rfl, rfl, rfl, by decide +kernel⟩, (fun _ h => absurd h List.not_mem_nil)⟩)⟩)⟩)⟩)⟩)⟩)⟩)
set_option maxRecDepth 100000 in
theorem fq_C7 : zi_fq zzCl (zz_kf [1, 2, 3, 4, 5, 6, 7] 7) RX2 (.array .boolean) := zi_fq_of (List.forall_mem_cons.mpr ⟨⟨(RX_1, zzT1, 12), rfl, rfl, rfl, by decide +kernel⟩, (List.forall_mem_cons.mpr ⟨⟨(RX_2, zzT2, 12), rfl, rfl, rfl, by decide +kernel⟩, (List.forall_mem_cons.mpr ⟨⟨(RX_3, zzT3, 12), rfl, rfl, rfl, by decide +kernel⟩, (List.forall_mem_cons.mpr ⟨⟨(RX_4, zzT4, 12), rfl, rfl, rfl, by decide +kernel⟩, (List.forall_mem_cons.mpr ⟨⟨(RX_5, zzT5, 12), rfl, rfl, rfl, by decide +kernel⟩, (List.forall_mem_cons.mpr ⟨⟨(RX_6, zzT6, 13), rfl, rfl, rfl, by decide +kernel⟩, (List.forall_mem_cons.mpr ⟨⟨(RX_7, zzT7, 15), rfl, rfl, rfl, by decide +kernel⟩, (fun _ h => absurd h List.not_mem_nil)⟩)⟩)⟩)⟩)⟩)⟩)⟩)
set_option maxRecDepth 100000 in
theorem fq_C8 : zi_fq zzCl (zz_kf [1, 2, 3, 4, 5, 6, 7] 8) RX2 (.array .int) := zi_fq_of (List.forall_mem_cons.mpr ⟨⟨(RX_1, zzT1, 12), rfl, rfl, rfl, by decide +kernel⟩, (List.forall_mem_cons.mpr ⟨⟨(RX_2, zzT2, 12), rfl, rfl, rfl, by decide +kernel⟩, (List.forall_mem_cons.mpr ⟨⟨(RX_3, zzT3, 12), rfl, rfl, rfl, by decide +kernel⟩, (List.forall_mem_cons.mpr ⟨⟨(RX_4, zzT4, 12), rfl, rfl, rfl, by decide +kernel⟩, (List.forall_mem_cons.mpr ⟨⟨(RX_5, zzT5, 12), rfl, rfl, rfl, by decide +kernel⟩, (List.forall_mem_cons.mpr ⟨⟨(RX_6, zzT6, 13), rfl, rfl, rfl, by decide +kernel⟩, (List.forall_mem_cons.mpr ⟨⟨(RX_7, zzT7, 15), rfl, rfl, rfl, by decide +kernel⟩, (fun _ h => absurd h List.not_mem_nil)⟩)⟩)⟩)⟩)⟩)⟩)⟩)
set_option maxRecDepth 100000 in
theorem fq_C9 : zi_fq zzCl (zz_kf [1, 2, 3, 4, 5, 6, 7] 9) RX2 (.array .int) := zi_fq_of (List.forall_mem_cons.mpr ⟨⟨(RX_1, zzT1, 12), rfl, rfl, rfl, by decide +kernel⟩, (List.forall_mem_cons.mpr ⟨⟨(RX_2, zzT2, 12), rfl, rfl, rfl, by decide +kernel⟩, (List.forall_mem_cons.mpr ⟨⟨(RX_3, zzT3, 12), rfl, rfl, rfl, by decide +kernel⟩, (List.forall_mem_cons.mpr ⟨⟨(RX_4, zzT4, 12), rfl, rfl, rfl, by decide +kernel⟩, (List.forall_mem_cons.mpr ⟨⟨(RX_5, zzT5, 12), rfl, rfl, rfl, by decide +kernel⟩, (List.forall_mem_cons.mpr ⟨⟨(RX_6, zzT6, 13), rfl, rfl, rfl, by decide +kernel⟩, (List.forall_mem_cons.mpr ⟨⟨(RX_7, zzT7, 15), rfl, rfl, rfl, by decide +kernel⟩, (fun _ h => absurd h List.not_mem_nil)⟩)⟩)⟩)⟩)⟩)⟩)⟩)
set_option maxRecDepth 100000 in
theorem fq_C10 : zi_fq zzCl (zz_kf [1, 2, 3, 4, 5, 6, 7] 10) RX2 (.array .int) := zi_fq_of (List.forall_mem_cons.mpr ⟨⟨(RX_1, zzT1, 12), rfl, rfl, rfl, by decide +kernel⟩, (List.forall_mem_cons.mpr ⟨⟨(RX_2, zzT2, 12), rfl, rfl, rfl, by decide +kernel⟩, (List.forall_mem_cons.mpr ⟨⟨(RX_3, zzT3, 12), rfl, rfl, rfl, by decide +kernel⟩, (List.forall_mem_cons.mpr ⟨⟨(RX_4, zzT4, 12), rfl, rfl, rfl, by decide +kernel⟩, (List.forall_mem_cons.mpr ⟨⟨(RX_5, zzT5, 12), rfl, rfl, rfl, by decide +kernel⟩, (List.forall_mem_cons.mpr ⟨⟨(RX_6, zzT6, 13), rfl, rfl, rfl, by decide +kernel⟩, (List.forall_mem_cons.mpr ⟨⟨(RX_7, zzT7, 15), rfl, rfl, rfl, by decide +kernel⟩, (fun _ h => absurd h List.not_mem_nil)⟩)⟩)⟩)⟩)⟩)⟩)⟩)
set_option maxRecDepth 100000 in
theorem fq_S12 : zi_fq zzCl (zz_kf [7] 12) RX8 (.array .int) := zi_fq_of (List.forall_mem_cons.mpr ⟨⟨(RX_7, zzT7, 15), rfl, rfl, rfl, by decide +kernel⟩, (fun _ h => absurd h List.not_mem_nil)⟩)
set_option maxRecDepth 100000 in
theorem fq_S13 : zi_fq zzCl (zz_kf [7] 13) RX8 (.array .int) := zi_fq_of (List.forall_mem_cons.mpr ⟨⟨(RX_7, zzT7, 15), rfl, rfl, rfl, by decide +kernel⟩, (fun _ h => absurd h List.not_mem_nil)⟩)
set_option maxRecDepth 100000 in
theorem fq_S14 : zi_fq zzCl (zz_kf [7] 14) RX8 (.array .int) := zi_fq_of (List.forall_mem_cons.mpr ⟨⟨(RX_7, zzT7, 15), rfl, rfl, rfl, by decide +kernel⟩, (fun _ h => absurd h List.not_mem_nil)⟩)
set_option maxRecDepth 100000 in
theorem fq_Z12 : zi_fq zzCl (zz_kf [6] 12) RX7 (.array .int) := zi_fq_of (List.forall_mem_cons.mpr ⟨⟨(RX_6, zzT6, 13), rfl, rfl, rfl, by decide +kernel⟩, (fun _ h => absurd h List.not_mem_nil)⟩)
set_option maxRecDepth 100000 in
theorem fq_A0 : zi_fq zzCl (zz_kf [0] 0) RX0 (.array .int) := zi_fq_of (List.forall_mem_cons.mpr ⟨⟨(RX_0, zzT0, 6), rfl, rfl, rfl, by decide +kernel⟩, (fun _ h => absurd h List.not_mem_nil)⟩)
set_option maxRecDepth 100000 in
theorem fq_A1 : zi_fq zzCl (zz_kf [0] 1) RX0 (.array .int) := zi_fq_of (List.forall_mem_cons.mpr ⟨⟨(RX_0, zzT0, 6), rfl, rfl, rfl, by decide +kernel⟩, (fun _ h => absurd h List.not_mem_nil)⟩)
set_option maxRecDepth 100000 in
theorem fq_A2 : zi_fq zzCl (zz_kf [0] 2) RX0 (.array .int) := zi_fq_of (List.forall_mem_cons.mpr ⟨⟨(RX_0, zzT0, 6), rfl, rfl, rfl, by decide +kernel⟩, (fun _ h => absurd h List.not_mem_nil)⟩)
set_option maxRecDepth 100000 in
theorem fq_T4 : zi_fq zzCl (zz_kf [8] 4) RX9 (.object "ReconcilerHall$Admission") := zi_fq_of (List.forall_mem_cons.mpr ⟨⟨(RX_8, zzT8, 9), rfl, rfl, rfl, by decide +kernel⟩, (fun _ h => absurd h List.not_mem_nil)⟩)
set_option maxRecDepth 100000 in
theorem fq_T5 : zi_fq zzCl (zz_kf [8] 5) RX9 (.array .int) := zi_fq_of (List.forall_mem_cons.mpr ⟨⟨(RX_8, zzT8, 9), rfl, rfl, rfl, by decide +kernel⟩, (fun _ h => absurd h List.not_mem_nil)⟩)
set_option maxRecDepth 100000 in
theorem fq_T6 : zi_fq zzCl (zz_kf [8] 6) RX9 (.array .int) := zi_fq_of (List.forall_mem_cons.mpr ⟨⟨(RX_8, zzT8, 9), rfl, rfl, rfl, by decide +kernel⟩, (fun _ h => absurd h List.not_mem_nil)⟩)
theorem fp_A5 : zz_fp zzCl (zz_kf [0] 5) false := zz_fp_of (List.forall_mem_cons.mpr ⟨⟨(RX_0, zzT0, 6), rfl, rfl, by decide +kernel⟩, (fun _ h => absurd h List.not_mem_nil)⟩)
section
variable {l : Launch} {D : va_G} {cA : Nat → ClassId} {Ex : (Nat → Prop) → State → Heap → Prop} {ws : va_W}
/-- View(int[]) -/
theorem zi_View {i0 ci h0 v : Nat} {fs : List Value} (hEo : zz_ExOk Ex) (hci : ([1, 2, 3, 4, 5, 6, 7, 8] : List Nat).contains ci = true) (he : ws[i0]? = some (h0, .inr (ci, fs))) (hfs : 2 ≤ fs.length) : zi_C l D cA Ex yX10_init cX10_init 2 none 1 12 1 60 [.ref h0, .ref v] ws
    (fun r u => r = none ∧ ∃ q, u = ws.set i0 (h0, .inr (ci, (fs.set 0 (.ref v)).set 1 (.ref q))) ++ [(q, .inl (cA 0, 60, .inl fun _ => 0))]) := by
  refine zi_meth (plainFor_of_name (by decide)) hEo (Nat.le_of_ble_eq_true rfl) (fun p e R s m args below meth c ls X hP hD hl => ?_)
  obtain ⟨hx, hb, hml, hown, hts, hK, hX, hEo, hE, hr, hlk, hnm, hRf, hRl, hRc, hRs⟩ := X
  have hS : va_S (va_A ws s.heap.size) s.heap s.heap [] := va_S.rf
  have hA : ∀ q, s.heap.size ≤ q → va_A ws s.heap.size q := fun q h => Or.inr h
  have hin : meth.name = "<init>" := hnm
  have hl : lv_has ls 2 [(0, .ref h0), (1, .ref v)] := hl
  have hi0 : i0 < ws.length := (List.getElem?_eq_some_iff.mp he).1
  refine lv_aload_n hx hb dX10_init_0 rfl (lv_at hl 0 rfl) ?_
  refine W.objInit hx hb hown (hts (.methodLink RX10 3 objectInit) (zz_in (by decide +kernel))) (hts (.instanceMethod objectInit) (zz_in (by decide +kernel))) (hts (.code objectInit ⟨#[0xb1]⟩ 1 none) (zz_in (by decide +kernel))) rfl (by rw [hml]; exact hl.1) rfl dX10_init_1 (by rw [hRf]; decide) (by rw [hRl]; exact Nat.le_of_ble_eq_true rfl) ?_
  refine W.eq (g2 := F0 m 4 ls []) rfl ?_
  refine lv_aload_n hx hb dX10_init_4 rfl (lv_at hl 0 rfl) ?_
  refine lv_aload_n hx hb dX10_init_5 rfl (lv_at hl 1 rfl) ?_
  refine zi_putF ff_X10_9 fq_V0 hx hb hown hts hK hin hP hD hS i0 he (zi_kf hci 0) (v := .ref v) rfl rfl (by omega) dX10_init_6 (fun H locs hP hD hS => ?_)
  refine lv_aload_n hx hb dX10_init_9 rfl (lv_at hl 0 rfl) ?_
  refine lv_bipush (v := 60) hx hb dX10_init_10 (by decide) ?_
  refine zi_newI (N := 60) hx hb hts hK hP hD hS hA (by decide) (by decide) (by decide) (by rw [hRc]; decide) (by rw [hRs]; decide) dX10_init_12 (fun q H hP hD hS => ?_)
  refine zi_putF ff_X10_15 fq_V1 hx hb hown hts hK hin hP hD hS i0 (zs_self hi0) (zi_kf hci 1) (v := .ref q) rfl rfl (by rw [List.length_set]; omega) dX10_init_14 (fun H locs hP hD hS => ?_)
  rw [zs_set hi0] at hP hD
  exact zi_vret hx hb hr hlk ⟨rfl, q, rfl⟩ hP hD hS dX10_init_17
/-- Admission() -/
theorem zi_Adm {i0 h0 : Nat} {fs : List Value} (hEo : zz_ExOk Ex) (he : ws[i0]? = some (h0, .inr (0, fs))) (hfs : 6 ≤ fs.length) : zi_C l D cA Ex yX0_init cX0_init 1 none 1 12 3 83 [.ref h0] ws
    (fun r u => r = none ∧ ∃ q1 q2 q3, u = ws.set i0 (h0, .inr (0, (((fs.set 0 (.ref q1)).set 1 (.ref q2)).set 2 (.ref q3)).set 5 (.int 30))) ++ [(q1, .inl (cA 0, 48, .inl fun _ => 0)), (q2, .inl (cA 0, 24, .inl fun _ => 0)), (q3, .inl (cA 0, 11, .inl fun _ => 0))]) := by
  refine zi_meth (plainFor_of_name (by decide)) hEo (Nat.le_of_ble_eq_true rfl) (fun p e R s m args below meth c ls X hP hD hl => ?_)
  obtain ⟨hx, hb, hml, hown, hts, hK, hX, hEo, hE, hr, hlk, hnm, hRf, hRl, hRc, hRs⟩ := X
  have hS : va_S (va_A ws s.heap.size) s.heap s.heap [] := va_S.rf
  have hA : ∀ q, s.heap.size ≤ q → va_A ws s.heap.size q := fun q h => Or.inr h
  have hin : meth.name = "<init>" := hnm
  have hl : lv_has ls 1 [(0, .ref h0)] := hl
  have hi0 : i0 < ws.length := (List.getElem?_eq_some_iff.mp he).1
  have hkf : ∀ k, zz_kf [0] k 0 = some k := zi_kf (cs := [0]) rfl
  refine lv_aload_n hx hb dX0_init_0 rfl (lv_at hl 0 rfl) ?_
  refine W.objInit hx hb hown (hts (.methodLink RX0 3 objectInit) (zz_in (by decide +kernel))) (hts (.instanceMethod objectInit) (zz_in (by decide +kernel))) (hts (.code objectInit ⟨#[0xb1]⟩ 1 none) (zz_in (by decide +kernel))) rfl (by rw [hml]; exact hl.1) rfl dX0_init_1 (by rw [hRf]; decide) (by rw [hRl]; exact Nat.le_of_ble_eq_true rfl) ?_
  refine W.eq (g2 := F0 m 4 ls []) rfl ?_
  refine lv_aload_n hx hb dX0_init_4 rfl (lv_at hl 0 rfl) ?_
  refine lv_bipush (v := 48) hx hb dX0_init_5 (by decide) ?_
  refine zi_newI (N := 48) hx hb hts hK hP hD hS hA (by decide) (by decide) (by decide) (by rw [hRc]; decide) (by rw [hRs]; decide) dX0_init_7 (fun q1 H hP hD hS => ?_)
  refine zi_putF ff_X0_11 fq_A0 hx hb hown hts hK hin hP hD hS i0 (List.getElem?_append_left hi0 |>.trans he) (hkf 0) (v := .ref q1) rfl rfl (by first | omega | (simp only [List.length_set]; omega)) dX0_init_9 (fun H locs hP hD hS => ?_)
  rw [List.set_append_left _ _ hi0] at hP hD
  refine lv_aload_n hx hb dX0_init_12 rfl (lv_at hl 0 rfl) ?_
  refine lv_bipush (v := 24) hx hb dX0_init_13 (by decide) ?_
  refine zi_newI (N := 24) hx hb hts hK hP hD hS hA (by decide) (by decide) (by decide) (by rw [hRc]; decide) (by rw [hRs]; decide) dX0_init_15 (fun q2 H hP hD hS => ?_)
  rw [List.append_assoc] at hP hD
  refine zi_putF ff_X0_15 fq_A1 hx hb hown hts hK hin hP hD hS i0 (zs_self hi0) (hkf 1) (v := .ref q2) rfl rfl (by first | omega | (simp only [List.length_set]; omega)) dX0_init_17 (fun H locs hP hD hS => ?_)
  rw [zs_set hi0] at hP hD
  refine lv_aload_n hx hb dX0_init_20 rfl (lv_at hl 0 rfl) ?_
  refine lv_bipush (v := 11) hx hb dX0_init_21 (by decide) ?_
  refine zi_newI (N := 11) hx hb hts hK hP hD hS hA (by decide) (by decide) (by decide) (by rw [hRc]; decide) (by rw [hRs]; decide) dX0_init_23 (fun q3 H hP hD hS => ?_)
  rw [List.append_assoc] at hP hD
  refine zi_putF ff_X0_18 fq_A2 hx hb hown hts hK hin hP hD hS i0 (zs_self hi0) (hkf 2) (v := .ref q3) rfl rfl (by first | omega | (simp only [List.length_set]; omega)) dX0_init_25 (fun H locs hP hD hS => ?_)
  rw [zs_set hi0] at hP hD
  refine lv_aload_n hx hb dX0_init_28 rfl (lv_at hl 0 rfl) ?_
  refine lv_bipush (v := 30) hx hb dX0_init_29 (by decide) ?_
  refine zi_put ff_X0_21 fp_A5 hx hb hown hts hK hP hD hS i0 (zs_self hi0) (hkf 5) (v := 30) (by first | omega | (simp only [List.length_set]; omega)) dX0_init_31 (fun H locs hP hD hS => ?_)
  rw [zs_set hi0] at hP hD
  exact zi_vret hx hb hr hlk ⟨rfl, q1, q2, q3, rfl⟩ hP hD hS dX0_init_34
/-- what Controller() leaves -/
def zi_ctlW (cA : Nat → ClassId) (ws : va_W) (i0 ci h0 hs v : Nat) (k : Int32) (fs : List Value) (q1 q2 q3 q4 q5 q6 : Nat) : va_W := ws.set i0 (h0, .inr (ci, (((((((((fs.set 0 (.ref v)).set 1 (.ref q1)).set 4 (.ref hs)).set 5 (.int k)).set 6 (.ref q2)).set 7 (.ref q3)).set 8 (.ref q4)).set 9 (.ref q5)).set 10 (.ref q6)))) ++ [(q1, .inl (cA 0, 60, .inl fun _ => 0)), (q2, .inl (cA 0, 60, .inl fun _ => 0)), (q3, .inl (cA 1, 60, .inl fun _ => 0)), (q4, .inl (cA 0, 60, .inl fun _ => 0)), (q5, .inl (cA 0, 60, .inl fun _ => 0)), (q6, .inl (cA 0, 60, .inl fun _ => 0))]
/-- Controller(Store, int) -/
theorem zi_Ctl {i0 i1 ci h0 hs v : Nat} {k : Int32} {fs gs : List Value} (hEo : zz_ExOk Ex) (hci : ([1, 2, 3, 4, 5, 6, 7] : List Nat).contains ci = true) (he : ws[i0]? = some (h0, .inr (ci, fs))) (hfs : 12 ≤ fs.length) (h1 : ws[i1]? = some (hs, .inr (8, gs))) (hg : gs[0]? = some (.ref v)) : zi_C l D cA Ex yX2_init cX2_init 3 none 2 33 6 360 [.ref h0, .ref hs, .int k] ws
    (fun r u => r = none ∧ ∃ q1 q2 q3 q4 q5 q6, u = zi_ctlW cA ws i0 ci h0 hs v k fs q1 q2 q3 q4 q5 q6) := by
  refine zi_meth (plainFor_of_name (by decide)) hEo (Nat.le_of_ble_eq_true rfl) (fun p e R s m args below meth c ls X hP hD hl => ?_)
  obtain ⟨hx, hb, hml, hown, hts, hK, hX, hEo, hE, hr, hlk, hnm, hRf, hRl, hRc, hRs⟩ := X
  have hS : va_S (va_A ws s.heap.size) s.heap s.heap [] := va_S.rf
  have hA : ∀ q, s.heap.size ≤ q → va_A ws s.heap.size q := fun q h => Or.inr h
  have hin : meth.name = "<init>" := hnm
  have hl : lv_has ls 3 [(0, .ref h0), (1, .ref hs), (2, .int k)] := hl
  have hi0 : i0 < ws.length := (List.getElem?_eq_some_iff.mp he).1
  have hci8 : ([1, 2, 3, 4, 5, 6, 7, 8] : List Nat).contains ci = true := by
    have := List.contains_iff_mem.mp hci
    exact List.contains_iff_mem.mpr (by simp at this ⊢; omega)
  refine lv_aload_n hx hb dX2_init_0 rfl (lv_at hl 0 rfl) ?_
  refine lv_aload_n hx hb dX2_init_1 rfl (lv_at hl 1 rfl) ?_
  refine zi_get ff_X2_3 hx hb hown hts hK hP i1 h1 (zi_kf (cs := [8]) rfl 0) hg dX2_init_2 ?_
  refine zi_callI (n := 1) (As := [.ref v]) (rest := []) (zi_View hEo hci8 he (by omega)) hx hb hml hown hts hK hX hEo hE (zz_in (by decide +kernel)) (zz_in (by decide +kernel)) (zz_in (by decide +kernel)) (zz_in (by decide +kernel)) rfl (by decide +kernel) rfl (by rw [hRf, hRl]; decide) (by rw [hRc, hRs]; decide) hl.1 (by decide) hP hD hS hA dX2_init_5 (fun _ _ H locs hw hP hD hS => ?_)
  obtain ⟨rfl, q1, rfl⟩ := hw
  refine lv_aload_n hx hb dX2_init_8 rfl (lv_at hl 0 rfl) ?_
  refine lv_aload_n hx hb dX2_init_9 rfl (lv_at hl 1 rfl) ?_
  refine zi_putF ff_X2_15 fq_C4 hx hb hown hts hK hin hP hD hS i0 (zs_self hi0) (zi_kf hci 4) (v := .ref hs) rfl rfl (by simp only [List.length_set]; omega) dX2_init_10 (fun H locs hP hD hS => ?_)
  rw [zs_set hi0] at hP hD
  refine lv_aload_n hx hb dX2_init_13 rfl (lv_at hl 0 rfl) ?_
  refine lv_iload_n hx hb dX2_init_14 rfl (lv_at hl 2 rfl) ?_
  refine zi_putF ff_X2_21 fq_C5 hx hb hown hts hK hin hP hD hS i0 (zs_self hi0) (zi_kf hci 5) (v := .int k) rfl rfl (by simp only [List.length_set]; omega) dX2_init_15 (fun H locs hP hD hS => ?_)
  rw [zs_set hi0] at hP hD
  refine lv_aload_n hx hb dX2_init_18 rfl (lv_at hl 0 rfl) ?_
  refine lv_bipush (v := 60) hx hb dX2_init_19 (by decide) ?_
  refine zi_newI (N := 60) hx hb hts hK hP hD hS hA (by decide) (by decide) (by decide) (by rw [hRc]; decide) (by rw [hRs]; decide) dX2_init_21 (fun q2 H hP hD hS => ?_)
  rw [List.append_assoc] at hP hD
  refine zi_putF ff_X2_25 fq_C6 hx hb hown hts hK hin hP hD hS i0 (zs_self hi0) (zi_kf hci 6) (v := .ref q2) rfl rfl (by simp only [List.length_set]; omega) dX2_init_23 (fun H locs hP hD hS => ?_)
  rw [zs_set hi0] at hP hD
  refine lv_aload_n hx hb dX2_init_26 rfl (lv_at hl 0 rfl) ?_
  refine lv_bipush (v := 60) hx hb dX2_init_27 (by decide) ?_
  refine zi_newZ (N := 60) hx hb hts hK hP hD hS hA (by decide) (by decide) (by decide) (by rw [hRc]; decide) (by rw [hRs]; decide) dX2_init_29 (fun q3 H hP hD hS => ?_)
  rw [List.append_assoc] at hP hD
  refine zi_putF ff_X2_28 fq_C7 hx hb hown hts hK hin hP hD hS i0 (zs_self hi0) (zi_kf hci 7) (v := .ref q3) rfl rfl (by simp only [List.length_set]; omega) dX2_init_31 (fun H locs hP hD hS => ?_)
  rw [zs_set hi0] at hP hD
  refine lv_aload_n hx hb dX2_init_34 rfl (lv_at hl 0 rfl) ?_
  refine lv_bipush (v := 60) hx hb dX2_init_35 (by decide) ?_
  refine zi_newI (N := 60) hx hb hts hK hP hD hS hA (by decide) (by decide) (by decide) (by rw [hRc]; decide) (by rw [hRs]; decide) dX2_init_37 (fun q4 H hP hD hS => ?_)
  rw [List.append_assoc] at hP hD
  refine zi_putF ff_X2_32 fq_C8 hx hb hown hts hK hin hP hD hS i0 (zs_self hi0) (zi_kf hci 8) (v := .ref q4) rfl rfl (by simp only [List.length_set]; omega) dX2_init_39 (fun H locs hP hD hS => ?_)
  rw [zs_set hi0] at hP hD
  refine lv_aload_n hx hb dX2_init_42 rfl (lv_at hl 0 rfl) ?_
  refine lv_bipush (v := 60) hx hb dX2_init_43 (by decide) ?_
  refine zi_newI (N := 60) hx hb hts hK hP hD hS hA (by decide) (by decide) (by decide) (by rw [hRc]; decide) (by rw [hRs]; decide) dX2_init_45 (fun q5 H hP hD hS => ?_)
  rw [List.append_assoc] at hP hD
  refine zi_putF ff_X2_35 fq_C9 hx hb hown hts hK hin hP hD hS i0 (zs_self hi0) (zi_kf hci 9) (v := .ref q5) rfl rfl (by simp only [List.length_set]; omega) dX2_init_47 (fun H locs hP hD hS => ?_)
  rw [zs_set hi0] at hP hD
  refine lv_aload_n hx hb dX2_init_50 rfl (lv_at hl 0 rfl) ?_
  refine lv_bipush (v := 60) hx hb dX2_init_51 (by decide) ?_
  refine zi_newI (N := 60) hx hb hts hK hP hD hS hA (by decide) (by decide) (by decide) (by rw [hRc]; decide) (by rw [hRs]; decide) dX2_init_53 (fun q6 H hP hD hS => ?_)
  rw [List.append_assoc] at hP hD
  refine zi_putF ff_X2_38 fq_C10 hx hb hown hts hK hin hP hD hS i0 (zs_self hi0) (zi_kf hci 10) (v := .ref q6) rfl rfl (by simp only [List.length_set]; omega) dX2_init_55 (fun H locs hP hD hS => ?_)
  rw [zs_set hi0] at hP hD
  exact zi_vret hx hb hr hlk ⟨rfl, q1, q2, q3, q4, q5, q6, rfl⟩ hP hD hS dX2_init_58
/-- filled with -1 up to a place -/
def fil (i : Nat) : Nat → Int32 := fun b => if b < i then -1 else 0
theorem fil_s {i : Nat} (h : i < 1000000) : upd (fil i) (zn i).toNatClampNeg (-1) = fil (i + 1) := by
  have e : (zn i).toNatClampNeg = i := zn_ix (k := i) (by omega)
  rw [e]
  funext b
  show (if b = i then (-1 : Int32) else if b < i then -1 else 0) = if b < i + 1 then -1 else 0
  by_cases h1 : b = i
  · rw [if_pos h1, if_pos (by omega)]
  · rw [if_neg h1]
    by_cases h2 : b < i
    · rw [if_pos h2, if_pos (by omega)]
    · rw [if_neg h2, if_neg (by omega)]
theorem fil_0 : (fun _ => 0 : Nat → Int32) = fil 0 := rfl
theorem zs_app {α : Type} {ws t : List α} {i k : Nat} {x y : α} (h : t[k]? = some y) : (ws.set i x ++ t)[ws.length + k]? = some y := by
  rw [List.getElem?_append_right (by rw [List.length_set]; omega), List.length_set, Nat.add_sub_cancel_left, h]
theorem zs_setr {α : Type} {ws t : List α} {i k : Nat} {x y : α} : (ws.set i x ++ t).set (ws.length + k) y = ws.set i x ++ t.set k y := by
  rw [List.set_append_right _ _ (by rw [List.length_set]; omega), List.length_set, Nat.add_sub_cancel_left]
theorem zi_Dep {i0 i1 h0 hs v : Nat} {fs gs : List Value} (hEo : zz_ExOk Ex) (he : ws[i0]? = some (h0, .inr (2, fs))) (hfs : 12 ≤ fs.length) (h1 : ws[i1]? = some (hs, .inr (8, gs))) (hg : gs[0]? = some (.ref v)) : zi_C l D cA Ex yX3_init cX3_init 2 none 3 55 6 360 [.ref h0, .ref hs] ws
    (fun r u => r = none ∧ ∃ q1 q2 q3 q4 q5 q6, u = zi_ctlW cA ws i0 2 h0 hs v 0 fs q1 q2 q3 q4 q5 q6) := by
  refine zi_meth (plainFor_of_name (by decide)) hEo (Nat.le_of_ble_eq_true rfl) (fun p e R s m args below meth c ls X hP hD hl => ?_)
  obtain ⟨hx, hb, hml, hown, hts, hK, hX, hEo, hE, hr, hlk, hnm, hRf, hRl, hRc, hRs⟩ := X
  have hS : va_S (va_A ws s.heap.size) s.heap s.heap [] := va_S.rf
  have hA : ∀ q, s.heap.size ≤ q → va_A ws s.heap.size q := fun q h => Or.inr h
  have hin : meth.name = "<init>" := hnm
  have hl : lv_has ls 2 [(0, .ref h0), (1, .ref hs)] := hl
  refine lv_aload_n hx hb dX3_init_0 rfl (lv_at hl 0 rfl) ?_
  refine lv_aload_n hx hb dX3_init_1 rfl (lv_at hl 1 rfl) ?_
  refine lv_iconst (v := 0) hx hb dX3_init_2 (by decide) ?_
  refine zi_callI (n := 2) (As := [.ref hs, .int 0]) (rest := []) (zi_Ctl (k := 0) hEo (by decide) he (by omega) h1 hg) hx hb hml hown hts hK hX hEo hE (zz_in (by decide +kernel)) (zz_in (by decide +kernel)) (zz_in (by decide +kernel)) (zz_in (by decide +kernel)) rfl (by decide +kernel) rfl (by rw [hRf, hRl]; decide) (by rw [hRc, hRs]; decide) hl.1 (by decide) hP hD hS hA dX3_init_3 (fun _ _ H locs hw hP hD hS => ?_)
  obtain ⟨rfl, q1, q2, q3, q4, q5, q6, rfl⟩ := hw
  exact zi_vret hx hb hr hlk ⟨rfl, q1, q2, q3, q4, q5, q6, rfl⟩ hP hD hS dX3_init_6
theorem zi_Col {i0 i1 h0 hs v : Nat} {fs gs : List Value} (hEo : zz_ExOk Ex) (he : ws[i0]? = some (h0, .inr (1, fs))) (hfs : 12 ≤ fs.length) (h1 : ws[i1]? = some (hs, .inr (8, gs))) (hg : gs[0]? = some (.ref v)) : zi_C l D cA Ex yX1_init cX1_init 2 none 3 55 6 360 [.ref h0, .ref hs] ws
    (fun r u => r = none ∧ ∃ q1 q2 q3 q4 q5 q6, u = zi_ctlW cA ws i0 1 h0 hs v (-1) fs q1 q2 q3 q4 q5 q6) := by
  refine zi_meth (plainFor_of_name (by decide)) hEo (Nat.le_of_ble_eq_true rfl) (fun p e R s m args below meth c ls X hP hD hl => ?_)
  obtain ⟨hx, hb, hml, hown, hts, hK, hX, hEo, hE, hr, hlk, hnm, hRf, hRl, hRc, hRs⟩ := X
  have hS : va_S (va_A ws s.heap.size) s.heap s.heap [] := va_S.rf
  have hA : ∀ q, s.heap.size ≤ q → va_A ws s.heap.size q := fun q h => Or.inr h
  have hin : meth.name = "<init>" := hnm
  have hl : lv_has ls 2 [(0, .ref h0), (1, .ref hs)] := hl
  refine lv_aload_n hx hb dX1_init_0 rfl (lv_at hl 0 rfl) ?_
  refine lv_aload_n hx hb dX1_init_1 rfl (lv_at hl 1 rfl) ?_
  refine lv_iconst (v := (-1)) hx hb dX1_init_2 (by decide) ?_
  refine zi_callI (n := 2) (As := [.ref hs, .int (-1)]) (rest := []) (zi_Ctl (k := (-1)) hEo (by decide) he (by omega) h1 hg) hx hb hml hown hts hK hX hEo hE (zz_in (by decide +kernel)) (zz_in (by decide +kernel)) (zz_in (by decide +kernel)) (zz_in (by decide +kernel)) rfl (by decide +kernel) rfl (by rw [hRf, hRl]; decide) (by rw [hRc, hRs]; decide) hl.1 (by decide) hP hD hS hA dX1_init_3 (fun _ _ H locs hw hP hD hS => ?_)
  obtain ⟨rfl, q1, q2, q3, q4, q5, q6, rfl⟩ := hw
  exact zi_vret hx hb hr hlk ⟨rfl, q1, q2, q3, q4, q5, q6, rfl⟩ hP hD hS dX1_init_6
theorem zi_Rou {i0 i1 h0 hs v : Nat} {fs gs : List Value} (hEo : zz_ExOk Ex) (he : ws[i0]? = some (h0, .inr (4, fs))) (hfs : 12 ≤ fs.length) (h1 : ws[i1]? = some (hs, .inr (8, gs))) (hg : gs[0]? = some (.ref v)) : zi_C l D cA Ex yX5_init cX5_init 2 none 3 55 6 360 [.ref h0, .ref hs] ws
    (fun r u => r = none ∧ ∃ q1 q2 q3 q4 q5 q6, u = zi_ctlW cA ws i0 4 h0 hs v 5 fs q1 q2 q3 q4 q5 q6) := by
  refine zi_meth (plainFor_of_name (by decide)) hEo (Nat.le_of_ble_eq_true rfl) (fun p e R s m args below meth c ls X hP hD hl => ?_)
  obtain ⟨hx, hb, hml, hown, hts, hK, hX, hEo, hE, hr, hlk, hnm, hRf, hRl, hRc, hRs⟩ := X
  have hS : va_S (va_A ws s.heap.size) s.heap s.heap [] := va_S.rf
  have hA : ∀ q, s.heap.size ≤ q → va_A ws s.heap.size q := fun q h => Or.inr h
  have hin : meth.name = "<init>" := hnm
  have hl : lv_has ls 2 [(0, .ref h0), (1, .ref hs)] := hl
  refine lv_aload_n hx hb dX5_init_0 rfl (lv_at hl 0 rfl) ?_
  refine lv_aload_n hx hb dX5_init_1 rfl (lv_at hl 1 rfl) ?_
  refine lv_iconst (v := 5) hx hb dX5_init_2 (by decide) ?_
  refine zi_callI (n := 2) (As := [.ref hs, .int 5]) (rest := []) (zi_Ctl (k := 5) hEo (by decide) he (by omega) h1 hg) hx hb hml hown hts hK hX hEo hE (zz_in (by decide +kernel)) (zz_in (by decide +kernel)) (zz_in (by decide +kernel)) (zz_in (by decide +kernel)) rfl (by decide +kernel) rfl (by rw [hRf, hRl]; decide) (by rw [hRc, hRs]; decide) hl.1 (by decide) hP hD hS hA dX5_init_3 (fun _ _ H locs hw hP hD hS => ?_)
  obtain ⟨rfl, q1, q2, q3, q4, q5, q6, rfl⟩ := hw
  exact zi_vret hx hb hr hlk ⟨rfl, q1, q2, q3, q4, q5, q6, rfl⟩ hP hD hS dX5_init_6
theorem zi_Run {i0 i1 h0 hs v : Nat} {fs gs : List Value} (hEo : zz_ExOk Ex) (he : ws[i0]? = some (h0, .inr (5, fs))) (hfs : 12 ≤ fs.length) (h1 : ws[i1]? = some (hs, .inr (8, gs))) (hg : gs[0]? = some (.ref v)) : zi_C l D cA Ex yX6_init cX6_init 2 none 3 55 6 360 [.ref h0, .ref hs] ws
    (fun r u => r = none ∧ ∃ q1 q2 q3 q4 q5 q6, u = zi_ctlW cA ws i0 5 h0 hs v 2 fs q1 q2 q3 q4 q5 q6) := by
  refine zi_meth (plainFor_of_name (by decide)) hEo (Nat.le_of_ble_eq_true rfl) (fun p e R s m args below meth c ls X hP hD hl => ?_)
  obtain ⟨hx, hb, hml, hown, hts, hK, hX, hEo, hE, hr, hlk, hnm, hRf, hRl, hRc, hRs⟩ := X
  have hS : va_S (va_A ws s.heap.size) s.heap s.heap [] := va_S.rf
  have hA : ∀ q, s.heap.size ≤ q → va_A ws s.heap.size q := fun q h => Or.inr h
  have hin : meth.name = "<init>" := hnm
  have hl : lv_has ls 2 [(0, .ref h0), (1, .ref hs)] := hl
  refine lv_aload_n hx hb dX6_init_0 rfl (lv_at hl 0 rfl) ?_
  refine lv_aload_n hx hb dX6_init_1 rfl (lv_at hl 1 rfl) ?_
  refine lv_iconst (v := 2) hx hb dX6_init_2 (by decide) ?_
  refine zi_callI (n := 2) (As := [.ref hs, .int 2]) (rest := []) (zi_Ctl (k := 2) hEo (by decide) he (by omega) h1 hg) hx hb hml hown hts hK hX hEo hE (zz_in (by decide +kernel)) (zz_in (by decide +kernel)) (zz_in (by decide +kernel)) (zz_in (by decide +kernel)) rfl (by decide +kernel) rfl (by rw [hRf, hRl]; decide) (by rw [hRc, hRs]; decide) hl.1 (by decide) hP hD hS hA dX6_init_3 (fun _ _ H locs hw hP hD hS => ?_)
  obtain ⟨rfl, q1, q2, q3, q4, q5, q6, rfl⟩ := hw
  exact zi_vret hx hb hr hlk ⟨rfl, q1, q2, q3, q4, q5, q6, rfl⟩ hP hD hS dX6_init_6
theorem zi_Pod {i0 i1 h0 hs v : Nat} {k : Int32} {fs gs : List Value} (hEo : zz_ExOk Ex) (he : ws[i0]? = some (h0, .inr (3, fs))) (hfs : 12 ≤ fs.length) (h1 : ws[i1]? = some (hs, .inr (8, gs))) (hg : gs[0]? = some (.ref v)) : zi_C l D cA Ex yX4_init cX4_init 3 none 3 55 6 360 [.ref h0, .ref hs, .int k] ws
    (fun r u => r = none ∧ ∃ q1 q2 q3 q4 q5 q6, u = zi_ctlW cA ws i0 3 h0 hs v k fs q1 q2 q3 q4 q5 q6) := by
  refine zi_meth (plainFor_of_name (by decide)) hEo (Nat.le_of_ble_eq_true rfl) (fun p e R s m args below meth c ls X hP hD hl => ?_)
  obtain ⟨hx, hb, hml, hown, hts, hK, hX, hEo, hE, hr, hlk, hnm, hRf, hRl, hRc, hRs⟩ := X
  have hS : va_S (va_A ws s.heap.size) s.heap s.heap [] := va_S.rf
  have hA : ∀ q, s.heap.size ≤ q → va_A ws s.heap.size q := fun q h => Or.inr h
  have hin : meth.name = "<init>" := hnm
  have hl : lv_has ls 3 [(0, .ref h0), (1, .ref hs), (2, .int k)] := hl
  refine lv_aload_n hx hb dX4_init_0 rfl (lv_at hl 0 rfl) ?_
  refine lv_aload_n hx hb dX4_init_1 rfl (lv_at hl 1 rfl) ?_
  refine lv_iload_n hx hb dX4_init_2 rfl (lv_at hl 2 rfl) ?_
  refine zi_callI (n := 2) (As := [.ref hs, .int k]) (rest := []) (zi_Ctl (k := k) hEo (by decide) he (by omega) h1 hg) hx hb hml hown hts hK hX hEo hE (zz_in (by decide +kernel)) (zz_in (by decide +kernel)) (zz_in (by decide +kernel)) (zz_in (by decide +kernel)) rfl (by decide +kernel) rfl (by rw [hRf, hRl]; decide) (by rw [hRc, hRs]; decide) hl.1 (by decide) hP hD hS hA dX4_init_3 (fun _ _ H locs hw hP hD hS => ?_)
  obtain ⟨rfl, q1, q2, q3, q4, q5, q6, rfl⟩ := hw
  exact zi_vret hx hb hr hlk ⟨rfl, q1, q2, q3, q4, q5, q6, rfl⟩ hP hD hS dX4_init_6
theorem zi_Sch {i0 i1 h0 hs v : Nat} {fs gs : List Value} (hEo : zz_ExOk Ex) (he : ws[i0]? = some (h0, .inr (7, fs))) (hfs : 15 ≤ fs.length) (h1 : ws[i1]? = some (hs, .inr (8, gs))) (hg : gs[0]? = some (.ref v)) : zi_C l D cA Ex yX8_init cX8_init 2 none 3 55 9 483 [.ref h0, .ref hs] ws
    (fun r u => r = none ∧ ∃ q1 q2 q3 q4 q5 q6 q7 q8 q9, u = ws.set i0 (h0, .inr (7, (((((((((((fs.set 0 (.ref v)).set 1 (.ref q1)).set 4 (.ref hs)).set 5 (.int 2)).set 6 (.ref q2)).set 7 (.ref q3)).set 8 (.ref q4)).set 9 (.ref q5)).set 10 (.ref q6)).set 12 (.ref q7)).set 13 (.ref q8)).set 14 (.ref q9))) ++ ([(q1, .inl (cA 0, 60, .inl fun _ => 0)), (q2, .inl (cA 0, 60, .inl fun _ => 0)), (q3, .inl (cA 1, 60, .inl fun _ => 0)), (q4, .inl (cA 0, 60, .inl fun _ => 0)), (q5, .inl (cA 0, 60, .inl fun _ => 0)), (q6, .inl (cA 0, 60, .inl fun _ => 0))] ++ [(q7, .inl (cA 0, 60, .inl fun _ => 0)), (q8, .inl (cA 0, 3, .inl fun _ => 0)), (q9, .inl (cA 0, 60, .inl fun _ => 0))])) := by
  refine zi_meth (plainFor_of_name (by decide)) hEo (Nat.le_of_ble_eq_true rfl) (fun p e R s m args below meth c ls X hP hD hl => ?_)
  obtain ⟨hx, hb, hml, hown, hts, hK, hX, hEo, hE, hr, hlk, hnm, hRf, hRl, hRc, hRs⟩ := X
  have hS : va_S (va_A ws s.heap.size) s.heap s.heap [] := va_S.rf
  have hA : ∀ q, s.heap.size ≤ q → va_A ws s.heap.size q := fun q h => Or.inr h
  have hin : meth.name = "<init>" := hnm
  have hl : lv_has ls 2 [(0, .ref h0), (1, .ref hs)] := hl
  have hi0 : i0 < ws.length := (List.getElem?_eq_some_iff.mp he).1
  refine lv_aload_n hx hb dX8_init_0 rfl (lv_at hl 0 rfl) ?_
  refine lv_aload_n hx hb dX8_init_1 rfl (lv_at hl 1 rfl) ?_
  refine lv_iconst (v := 2) hx hb dX8_init_2 (by decide) ?_
  refine zi_callI (n := 2) (As := [.ref hs, .int 2]) (rest := []) (zi_Ctl (k := 2) hEo (by decide) he (by omega) h1 hg) hx hb hml hown hts hK hX hEo hE (zz_in (by decide +kernel)) (zz_in (by decide +kernel)) (zz_in (by decide +kernel)) (zz_in (by decide +kernel)) rfl (by decide +kernel) rfl (by rw [hRf, hRl]; decide) (by rw [hRc, hRs]; decide) hl.1 (by decide) hP hD hS hA dX8_init_3 (fun _ _ H locs hw hP hD hS => ?_)
  obtain ⟨rfl, q1, q2, q3, q4, q5, q6, rfl⟩ := hw
  unfold zi_ctlW at hP hD
  refine lv_aload_n hx hb dX8_init_6 rfl (lv_at hl 0 rfl) ?_
  refine lv_bipush (v := 60) hx hb dX8_init_7 (by decide) ?_
  refine zi_newI (N := 60) hx hb hts hK hP hD hS hA (by decide) (by decide) (by decide) (by rw [hRc]; decide) (by rw [hRs]; decide) dX8_init_9 (fun q7 H hP hD hS => ?_)
  rw [List.append_assoc] at hP hD
  refine zi_putF ff_X8_9 fq_S12 hx hb hown hts hK hin hP hD hS i0 (zs_self hi0) (zi_kf (cs := [7]) rfl 12) (v := .ref q7) rfl rfl (by simp only [List.length_set]; omega) dX8_init_11 (fun H locs hP hD hS => ?_)
  rw [zs_set hi0] at hP hD
  refine lv_aload_n hx hb dX8_init_14 rfl (lv_at hl 0 rfl) ?_
  refine lv_iconst (v := 3) hx hb dX8_init_15 (by decide) ?_
  refine zi_newI (N := 3) hx hb hts hK hP hD hS hA (by decide) (by decide) (by decide) (by rw [hRc]; decide) (by rw [hRs]; decide) dX8_init_16 (fun q8 H hP hD hS => ?_)
  rw [List.append_assoc] at hP hD
  refine zi_putF ff_X8_15 fq_S13 hx hb hown hts hK hin hP hD hS i0 (zs_self hi0) (zi_kf (cs := [7]) rfl 13) (v := .ref q8) rfl rfl (by simp only [List.length_set]; omega) dX8_init_18 (fun H locs hP hD hS => ?_)
  rw [zs_set hi0] at hP hD
  refine lv_aload_n hx hb dX8_init_21 rfl (lv_at hl 0 rfl) ?_
  refine lv_bipush (v := 60) hx hb dX8_init_22 (by decide) ?_
  refine zi_newI (N := 60) hx hb hts hK hP hD hS hA (by decide) (by decide) (by decide) (by rw [hRc]; decide) (by rw [hRs]; decide) dX8_init_24 (fun q9 H hP hD hS => ?_)
  rw [List.append_assoc] at hP hD
  refine zi_putF ff_X8_18 fq_S14 hx hb hown hts hK hin hP hD hS i0 (zs_self hi0) (zi_kf (cs := [7]) rfl 14) (v := .ref q9) rfl rfl (by simp only [List.length_set]; omega) dX8_init_26 (fun H locs hP hD hS => ?_)
  rw [zs_set hi0] at hP hD
  exact zi_vret hx hb hr hlk ⟨rfl, q1, q2, q3, q4, q5, q6, q7, q8, q9, rfl⟩ hP hD hS dX8_init_29
theorem zi_Scl {i0 i1 h0 hs v : Nat} {fs gs : List Value} (hEo : zz_ExOk Ex) (he : ws[i0]? = some (h0, .inr (6, fs))) (hfs : 13 ≤ fs.length) (h1 : ws[i1]? = some (hs, .inr (8, gs))) (hg : gs[0]? = some (.ref v)) : zi_C l D cA Ex yX7_init cX7_init 3 none 3 55 7 420 [.ref h0, .ref hs] ws
    (fun r u => r = none ∧ ∃ q1 q2 q3 q4 q5 q6 q7, u = ws.set i0 (h0, .inr (6, (((((((((fs.set 0 (.ref v)).set 1 (.ref q1)).set 4 (.ref hs)).set 5 (.int 0)).set 6 (.ref q2)).set 7 (.ref q3)).set 8 (.ref q4)).set 9 (.ref q5)).set 10 (.ref q6)).set 12 (.ref q7))) ++ ([(q1, .inl (cA 0, 60, .inl fun _ => 0)), (q2, .inl (cA 0, 60, .inl fun _ => 0)), (q3, .inl (cA 1, 60, .inl fun _ => 0)), (q4, .inl (cA 0, 60, .inl fun _ => 0)), (q5, .inl (cA 0, 60, .inl fun _ => 0)), (q6, .inl (cA 0, 60, .inl fun _ => 0))] ++ [(q7, .inl (cA 0, 60, .inl (fil 60)))])) := by
  refine zi_meth (plainFor_of_name (by decide)) hEo (Nat.le_of_ble_eq_true rfl) (fun p e R s m args below meth c ls X hP hD hl => ?_)
  obtain ⟨hx, hb, hml, hown, hts, hK, hX, hEo, hE, hr, hlk, hnm, hRf, hRl, hRc, hRs⟩ := X
  have hS : va_S (va_A ws s.heap.size) s.heap s.heap [] := va_S.rf
  have hA : ∀ q, s.heap.size ≤ q → va_A ws s.heap.size q := fun q h => Or.inr h
  have hin : meth.name = "<init>" := hnm
  have hl : lv_has ls 3 [(0, .ref h0), (1, .ref hs)] := hl
  have hi0 : i0 < ws.length := (List.getElem?_eq_some_iff.mp he).1
  refine lv_aload_n hx hb dX7_init_0 rfl (lv_at hl 0 rfl) ?_
  refine lv_aload_n hx hb dX7_init_1 rfl (lv_at hl 1 rfl) ?_
  refine lv_iconst (v := 0) hx hb dX7_init_2 (by decide) ?_
  refine zi_callI (n := 2) (As := [.ref hs, .int 0]) (rest := []) (zi_Ctl (k := 0) hEo (by decide) he (by omega) h1 hg) hx hb hml hown hts hK hX hEo hE (zz_in (by decide +kernel)) (zz_in (by decide +kernel)) (zz_in (by decide +kernel)) (zz_in (by decide +kernel)) rfl (by decide +kernel) rfl (by rw [hRf, hRl]; decide) (by rw [hRc, hRs]; decide) hl.1 (by decide) hP hD hS hA dX7_init_3 (fun _ _ H locs hw hP hD hS => ?_)
  obtain ⟨rfl, q1, q2, q3, q4, q5, q6, rfl⟩ := hw
  unfold zi_ctlW at hP hD
  refine lv_aload_n hx hb dX7_init_6 rfl (lv_at hl 0 rfl) ?_
  refine lv_bipush (v := 60) hx hb dX7_init_7 (by decide) ?_
  refine zi_newI (N := 60) hx hb hts hK hP hD hS hA (by decide) (by decide) (by decide) (by rw [hRc]; decide) (by rw [hRs]; decide) dX7_init_9 (fun q7 H hP hD hS => ?_)
  rw [List.append_assoc] at hP hD
  refine zi_putF ff_X7_9 fq_Z12 hx hb hown hts hK hin hP hD hS i0 (zs_self hi0) (zi_kf (cs := [6]) rfl 12) (v := .ref q7) rfl rfl (by simp only [List.length_set]; omega) dX7_init_11 (fun H locs hP hD hS => ?_)
  rw [zs_set hi0] at hP hD
  have hf12 : ((((((((((fs.set 0 (.ref v)).set 1 (.ref q1)).set 4 (.ref hs)).set 5 (.int 0)).set 6 (.ref q2)).set 7 (.ref q3)).set 8 (.ref q4)).set 9 (.ref q5)).set 10 (.ref q6)).set 12 (.ref q7))[12]? = some (.ref q7) := List.getElem?_set_self (by simp only [List.length_set]; omega)
  have loop : ∀ (k i : Nat), i + k = 60 → ∀ (H : Heap) (locs : List Loc) (ls : Array Slot), va_P D zzCl (ws.set i0 (h0, .inr (6, (((((((((fs.set 0 (.ref v)).set 1 (.ref q1)).set 4 (.ref hs)).set 5 (.int 0)).set 6 (.ref q2)).set 7 (.ref q3)).set 8 (.ref q4)).set 9 (.ref q5)).set 10 (.ref q6)).set 12 (.ref q7))) ++ ([(q1, .inl (cA 0, 60, .inl fun _ => 0)), (q2, .inl (cA 0, 60, .inl fun _ => 0)), (q3, .inl (cA 1, 60, .inl fun _ => 0)), (q4, .inl (cA 0, 60, .inl fun _ => 0)), (q5, .inl (cA 0, 60, .inl fun _ => 0)), (q6, .inl (cA 0, 60, .inl fun _ => 0))] ++ [(q7, .inl (cA 0, 60, .inl (fil i)))])) H → va_D (va_A ws s.heap.size) (ws.set i0 (h0, .inr (6, (((((((((fs.set 0 (.ref v)).set 1 (.ref q1)).set 4 (.ref hs)).set 5 (.int 0)).set 6 (.ref q2)).set 7 (.ref q3)).set 8 (.ref q4)).set 9 (.ref q5)).set 10 (.ref q6)).set 12 (.ref q7))) ++ ([(q1, .inl (cA 0, 60, .inl fun _ => 0)), (q2, .inl (cA 0, 60, .inl fun _ => 0)), (q3, .inl (cA 1, 60, .inl fun _ => 0)), (q4, .inl (cA 0, 60, .inl fun _ => 0)), (q5, .inl (cA 0, 60, .inl fun _ => 0)), (q6, .inl (cA 0, 60, .inl fun _ => 0))] ++ [(q7, .inl (cA 0, 60, .inl (fil i)))])) → va_S (va_A ws s.heap.size) s.heap H locs → lv_has ls 3 [(2, .int (zn i)), (0, .ref h0), (1, .ref hs)] →
      W p l e R s m args below meth c H locs 7 420 (MQ below (zi_Q D ws s.heap.size (fun r u => r = none ∧ ∃ q1 q2 q3 q4 q5 q6 q7, u = ws.set i0 (h0, .inr (6, (((((((((fs.set 0 (.ref v)).set 1 (.ref q1)).set 4 (.ref hs)).set 5 (.int 0)).set 6 (.ref q2)).set 7 (.ref q3)).set 8 (.ref q4)).set 9 (.ref q5)).set 10 (.ref q6)).set 12 (.ref q7))) ++ ([(q1, .inl (cA 0, 60, .inl fun _ => 0)), (q2, .inl (cA 0, 60, .inl fun _ => 0)), (q3, .inl (cA 1, 60, .inl fun _ => 0)), (q4, .inl (cA 0, 60, .inl fun _ => 0)), (q5, .inl (cA 0, 60, .inl fun _ => 0)), (q6, .inl (cA 0, 60, .inl fun _ => 0))] ++ [(q7, .inl (cA 0, 60, .inl (fil 60)))]))) args s 7 420 (va_A ws s.heap.size)) (F0 m 16 ls []) := by
    intro k
    induction k with
    | zero =>
      intro i hi H locs ls hP hD hS hl
      have hi6 : i = 60 := by omega
      subst hi6
      refine lv_iload_n hx hb dX7_init_16 rfl (lv_at hl 0 rfl) ?_
      refine lv_bipush (v := 60) hx hb dX7_init_17 (by decide) ?_
      refine lv_icmp_ge (tgt := 35) hx hb dX7_init_19 (by decide) (fun _ => ?_) (fun h => absurd (by decide) h)
      exact zi_vret hx hb hr hlk ⟨rfl, q1, q2, q3, q4, q5, q6, q7, rfl⟩ hP hD hS dX7_init_35
    | succ k ih =>
      intro i hi H locs ls hP hD hS hl
      refine lv_iload_n hx hb dX7_init_16 rfl (lv_at hl 0 rfl) ?_
      refine lv_bipush (v := 60) hx hb dX7_init_17 (by decide) ?_
      refine lv_icmp_ge (tgt := 35) hx hb dX7_init_19 (by decide) (fun h => absurd h (zk_lt (n := 60) (i := i) (by omega) (Nat.le_refl _) (by decide)).mp) (fun _ => ?_)
      refine lv_aload_n hx hb dX7_init_22 rfl (lv_at hl 1 rfl) ?_
      refine zi_get ff_X7_9 hx hb hown hts hK hP i0 (zs_self hi0) (zi_kf (cs := [6]) rfl 12) hf12 dX7_init_23 ?_
      refine lv_iload_n hx hb dX7_init_26 rfl (lv_at hl 0 rfl) ?_
      refine lv_iconst (v := (-1)) hx hb dX7_init_27 (by decide) ?_
      refine va_iast hx hb hK hP hD hS (ws.length + 6) 0 (zs_app rfl) rfl (zz_inb_in (zn_inT (by omega) (by decide))) dX7_init_28 (fun H locs hP hD hS => ?_)
      rw [zs_setr, fil_s (by omega)] at hP hD
      refine lv_iinc (v := zn (i + 1)) (lv' := [(2, .int (zn (i + 1))), (0, .ref h0), (1, .ref hs)]) hx hb dX7_init_29 hl (k := 0) rfl (zn_1 i) (by decide) rfl (fun ls hl => ?_)
      refine lv_goto (tgt := 16) hx hb dX7_init_32 (by decide) ?_
      exact ih (i + 1) (by omega) H locs ls hP hD hS hl
  refine lv_iconst (v := 0) hx hb dX7_init_14 (by decide) ?_
  refine lv_istore_n (lv' := [(2, .int 0), (0, .ref h0), (1, .ref hs)]) hx hb dX7_init_15 rfl hl (by decide) rfl (fun ls hl => ?_)
  exact loop 60 0 rfl H locs ls hP hD hS hl
end
end

section
/-! the law's start: what the tables and the givens say -/
def zzSn : List (String × List Int32) := [("LEAST", [0, 0, 0, 0, 0, 0, 0, 0, 0, 0, 1]), ("GREATEST", [5, 9, 2, 2, 1, 5, 99, 9, 2, 1, 5]), ("FIRST", [0, 0, 1, 0, 0, 0, 0, 4, 0, 0, 1]), ("FIELDS_OF_KIND", [127, 3, 2, 1027, 896, 2])]
theorem zzSn_fl : (zzSn.all fun q => decide (Cond.arrayOf (.static "ReconcilerHall" q.1 "[I") .int ∈ zzFl) && decide (Cond.eq (.length (.static "ReconcilerHall" q.1 "[I")) (.int (Int32.ofNat q.2.length)) ∈ zzFl) && (List.range q.2.length).all fun j => decide (Cond.eq (.elem (.static "ReconcilerHall" q.1 "[I") (.int (Int32.ofNat j))) (.int (q.2.getD j 0)) ∈ zzFl)) = true := by decide +kernel
theorem zzSn_tb : (zzSn.all fun q => decide (Cond.laysStatic "ReconcilerHall" q.1 "[I" ∈ lw_tbl)) = true := by decide +kernel
theorem zzStr_tb : (zzStr.all fun q => decide (Cond.stringRef q.1 q.2.1 q.2.2 ∈ lw_tbl) && decide (Cond.exactly (.string q.1 q.2.1) "java/lang/String" ∈ zzFl)) = true := by decide +kernel
theorem zzNW_tb : (zzNW.all fun w => decide (w ∈ lw_tbl)) = true := by decide +kernel
theorem zzXW_tb : ((List.range 3).all fun x => decide (Cond.castable (zz_xn x) (zz_xn x) ∈ lw_tbl)) = true := by decide +kernel
theorem zzXN_fl : ((List.range 3).all fun x => (List.range 3).all fun y => decide (y = x) || decide (Cond.not (.castable (zz_xn x) (zz_xn y)) ∈ zzFl)) = true := by decide +kernel
theorem zzCtl_tb : (zi_ctl.all fun C => decide (Cond.castable C "ReconcilerHall$Controller" ∈ lw_tbl)) = true := by decide +kernel
section
variable {args : Array Value} {s : State}
theorem zb_tab (hts : ∀ w ∈ lw_tbl, w.before args s = true) (hfl : ∀ w ∈ zzFl, w.before args s = true) {q : String × List Int32} (hq : q ∈ zzSn) (hlen : q.2.length < 2 ^ 31) :
    ∃ t : Nat, va_T .int t q.2.length (fun j => .int (q.2.getD j 0)) (fun _ => False) s s.heap ∧ ∀ A : Nat → Prop, (∀ a : Nat, a < s.heap.size → ¬ A a) → va_Z "ReconcilerHall" q.1 "[I" (.ref t) A s s.heap := by
  have h1 := List.all_eq_true.mp zzSn_fl q hq
  have h2 := List.all_eq_true.mp zzSn_tb q hq
  obtain ⟨h3, h6⟩ := Bool.and_eq_true_iff.mp h1
  obtain ⟨h4, h5⟩ := Bool.and_eq_true_iff.mp h3
  obtain ⟨t, ht, hT⟩ := va_Tof (tm := .static "ReconcilerHall" q.1 "[I") (ty := .int) (N := q.2.length) (f := fun j => .int (q.2.getD j 0)) (A := fun _ => False) hlen (hfl _ (of_decide_eq_true h4)) (va_eqt (hfl _ (of_decide_eq_true h5))) (fun j hj => va_eqt (hfl _ (of_decide_eq_true (List.all_eq_true.mp h6 j (List.mem_range.mpr hj))))) (fun _ _ h => h)
  exact ⟨t, hT, fun A hA => va_Zof (hts _ (of_decide_eq_true h2)) (hts _ (by decide +kernel)) ht hA⟩
end
end
section
/-! the law's start: the classes, the arrays, the words -/
variable {args : Array Value} {s : State}
theorem zb_arr (ty : FieldType) (h : (Cond.arrayClass ty).before args s = true) (hty : ∀ C, ty ≠ .object C) : ∃ cA, ArrOfT s cA ty ∧ va_RA s cA ty := by
  obtain ⟨c, k, comp, h1, h2, h3⟩ := Cond.arrayClass_spec h
  refine ⟨c, fun n z => ⟨fun k h => (by cases h), k, h2, comp, h3⟩, ?_⟩
  cases ty with
  | object C => exact absurd rfl (hty C)
  | _ => exact h1
theorem zb_arrO {C : String} (h : (Cond.arrayOver (.object C)).before args s = true) : ∃ cA, ArrOfT s cA (.object C) ∧ va_RA s cA (.object C) := by
  obtain ⟨comp, c, k, h1, h2, h3, h4, h5⟩ := Cond.arrayOver_spec h
  exact ⟨c, fun n z => ⟨fun k h => (by cases h), k, h3, comp, h4⟩, k, comp, h3, h4, h1, h5⟩
set_option maxRecDepth 100000 in
theorem zb_K (hG : ∀ w ∈ zzG0, w.before args s = true) (hO : (Cond.arrayOver (.object "ReconcilerHall$Controller")).before args s = true) : ∃ (D : va_G) (cA : Nat → ClassId), va_K D zzCl (zz_tys cA) s := by
  obtain ⟨c0, i0, h0⟩ := u_known hG zzI0 (hG (.instantiable RX_0 6) (zz_in (by decide +kernel)))
  obtain ⟨c1, i1, h1⟩ := u_known hG zzI1 (hG (.instantiable RX_1 12) (zz_in (by decide +kernel)))
  obtain ⟨c2, i2, h2⟩ := u_known hG zzI2 (hG (.instantiable RX_2 12) (zz_in (by decide +kernel)))
  obtain ⟨c3, i3, h3⟩ := u_known hG zzI3 (hG (.instantiable RX_3 12) (zz_in (by decide +kernel)))
  obtain ⟨c4, i4, h4⟩ := u_known hG zzI4 (hG (.instantiable RX_4 12) (zz_in (by decide +kernel)))
  obtain ⟨c5, i5, h5⟩ := u_known hG zzI5 (hG (.instantiable RX_5 12) (zz_in (by decide +kernel)))
  obtain ⟨c6, i6, h6⟩ := u_known hG zzI6 (hG (.instantiable RX_6 13) (zz_in (by decide +kernel)))
  obtain ⟨c7, i7, h7⟩ := u_known hG zzI7 (hG (.instantiable RX_7 15) (zz_in (by decide +kernel)))
  obtain ⟨c8, i8, h8⟩ := u_known hG zzI8 (hG (.instantiable RX_8 9) (zz_in (by decide +kernel)))
  obtain ⟨c9, i9, h9⟩ := u_known hG zzI9 (hG (.instantiable RX_9 5) (zz_in (by decide +kernel)))
  obtain ⟨a0, x0, y0⟩ := zb_arr .int (hG _ zi_wI) (fun C h => by cases h)
  obtain ⟨a1, x1, y1⟩ := zb_arr .boolean (hG _ zi_wZ) (fun C h => by cases h)
  obtain ⟨a3, x3, y3⟩ := zb_arrO hO
  refine ⟨(fun k => ([c0, c1, c2, c3, c4, c5, c6, c7, c8, c9] : List ClassId).getD k c0, fun k => ([i0, i1, i2, i3, i4, i5, i6, i7, i8, i9] : List (Nat → Nat)).getD k i0), fun k => ([a0, a1, a0, a3] : List ClassId).getD k a0, fun c q hq => ?_, fun k q hq => ?_⟩
  · rcases (show c = 0 ∨ c = 1 ∨ c = 2 ∨ c = 3 ∨ c = 4 ∨ c = 5 ∨ c = 6 ∨ c = 7 ∨ c = 8 ∨ c = 9 ∨ 10 ≤ c by omega) with rfl | rfl | rfl | rfl | rfl | rfl | rfl | rfl | rfl | rfl | h
    · cases hq; exact h0
    · cases hq; exact h1
    · cases hq; exact h2
    · cases hq; exact h3
    · cases hq; exact h4
    · cases hq; exact h5
    · cases hq; exact h6
    · cases hq; exact h7
    · cases hq; exact h8
    · cases hq; exact h9
    · rw [List.getElem?_eq_none (show zzCl.length ≤ c from h)] at hq; cases hq
  · rcases (show k = 0 ∨ k = 1 ∨ k = 2 ∨ 3 ≤ k by omega) with rfl | rfl | rfl | h
    · cases hq; exact ⟨x0, y0⟩
    · cases hq; exact ⟨x1, y1⟩
    · cases hq; exact ⟨x3, y3⟩
    · rw [List.getElem?_eq_none (show (zz_tys _).length ≤ k from h)] at hq; cases hq
theorem zb_nw {w : Cond} (hw : w.onTables = true) (h : w.before args s = true) : va_Nw w s := va_tabs hw rfl h
theorem zb_X (hts : ∀ w ∈ lw_tbl, w.before args s = true) (hO : (Cond.arrayOver (.object "ReconcilerHall$Controller")).before args s = true) : zi_X s :=
  ⟨va_AO.of hO, fun C hC => zb_nw rfl (hts _ (of_decide_eq_true (List.all_eq_true.mp zzCtl_tb C hC)))⟩
theorem zb_Ex (hts : ∀ w ∈ lw_tbl, w.before args s = true) (hfl : ∀ w ∈ zzFl, w.before args s = true) : ∃ st : Nat → Nat, ∀ (ad : Nat → Nat) (A : Nat → Prop), (∀ k, k < 4 → ad (1000 + k) = st k) → (∀ a : Nat, a < s.heap.size → ¬ A a) → zEx ad A s s.heap := by
  obtain ⟨t0, T0, Z0⟩ := zb_tab (q := ("LEAST", [0, 0, 0, 0, 0, 0, 0, 0, 0, 0, 1])) hts hfl (List.mem_of_getElem? (i := 0) rfl) (by decide)
  obtain ⟨t1, T1, Z1⟩ := zb_tab (q := ("GREATEST", [5, 9, 2, 2, 1, 5, 99, 9, 2, 1, 5])) hts hfl (List.mem_of_getElem? (i := 1) rfl) (by decide)
  obtain ⟨t2, T2, Z2⟩ := zb_tab (q := ("FIRST", [0, 0, 1, 0, 0, 0, 0, 4, 0, 0, 1])) hts hfl (List.mem_of_getElem? (i := 2) rfl) (by decide)
  obtain ⟨t3, T3, Z3⟩ := zb_tab (q := ("FIELDS_OF_KIND", [127, 3, 2, 1027, 896, 2])) hts hfl (List.mem_of_getElem? (i := 3) rfl) (by decide)
  refine ⟨fun k => ([t0, t1, t2, t3] : List Nat).getD k 0, fun ad A had hA => ⟨fun k t hk => ?_, ⟨?_, ?_, ?_, ?_⟩, fun q hq => ?_, fun w hw => ?_, ⟨?_, ?_⟩, fun x hx => ?_, fun x y hx hy hn => ?_⟩⟩
  · have hk4 : k < 4 := (List.getElem?_eq_some_iff.mp hk).1
    rw [had k hk4]
    rcases (show k = 0 ∨ k = 1 ∨ k = 2 ∨ k = 3 by omega) with rfl | rfl | rfl | rfl
    · cases hk; exact va_T_to T0 hA
    · cases hk; exact va_T_to T1 hA
    · cases hk; exact va_T_to T2 hA
    · cases hk; exact va_T_to T3 hA
  · rw [show ad 1000 = t0 from had 0 (by decide)]; exact Z0 A hA
  · rw [show ad 1001 = t1 from had 1 (by decide)]; exact Z1 A hA
  · rw [show ad 1002 = t2 from had 2 (by decide)]; exact Z2 A hA
  · rw [show ad 1003 = t3 from had 3 (by decide)]; exact Z3 A hA
  · obtain ⟨h1, h2⟩ := Bool.and_eq_true_iff.mp (List.all_eq_true.mp zzStr_tb q hq)
    obtain ⟨a, c, cell, k, q1, -⟩ := Cond.exactly_spec (hfl _ (of_decide_eq_true h2))
    exact ⟨a, vk_R.of (hts _ (of_decide_eq_true h1)) q1⟩
  · exact zb_nw (zzNW_ot w hw) (hts _ (of_decide_eq_true (List.all_eq_true.mp zzNW_tb w hw)))
  · exact vx_Zqof (hts _ (by decide +kernel)) (hts _ (by decide +kernel)) (hfl _ (by decide +kernel)) hA
  · exact vx_Zqof (hts _ (by decide +kernel)) (hts _ (by decide +kernel)) (hfl _ (by decide +kernel)) hA
  · exact zb_nw rfl (hts _ (of_decide_eq_true (List.all_eq_true.mp zzXW_tb x (List.mem_range.mpr hx))))
  · have h1 := List.all_eq_true.mp (List.all_eq_true.mp zzXN_fl x (List.mem_range.mpr hx)) y (List.mem_range.mpr hy)
    rcases Bool.or_eq_true_iff.mp h1 with h | h
    · exact absurd (of_decide_eq_true h) hn
    · exact va_Nc.of (hfl _ (of_decide_eq_true h))
end

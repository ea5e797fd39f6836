section
/-! the law's start: what the tables and the givens say -/
def zzSn : List (String × List Int32) := [("LEAST", [0, 0, 0, 0, 0, 0, 0, 0, 0, 0, 1]), ("GREATEST", [5, 9, 2, 2, 1, 5, 99, 9, 2, 1, 5]), ("FIRST", [0, 0, 1, 0, 0, 0, 0, 4, 0, 0, 1]), ("FIELDS_OF_KIND", [127, 3, 2, 1027, 896, 2])]
theorem zzSn_fl : (zzSn.all fun q => decide (Cond.arrayOf (.static "ReconcilerHall" q.1 "[I") .int ∈ zzFl) && decide (Cond.eq (.length (.static "ReconcilerHall" q.1 "[I")) (.int (Int32.ofNat q.2.length)) ∈ zzFl) && (List.range q.2.length).all fun j => decide (Cond.eq (.elem (.static "ReconcilerHall" q.1 "[I") (.int (Int32.ofNat j))) (.int (q.2.getD j 0)) ∈ zzFl)) = true := by decide +kernel
theorem zzSn_tb : (zzSn.all fun q => decide (Cond.laysStatic "ReconcilerHall" q.1 "[I" ∈ lw_tbl)) = true := by decide +kernel
theorem zzStr_tb : (zzStr.all fun q => decide (Cond.stringRef q.1 q.2.1 q.2.2 ∈ lw_tbl) && decide (Cond.exactly (.string q.1 q.2.1) "java/lang/String" ∈ zzFl)) = true := by decide +kernel
theorem zzNW_tb : (zzNW.all fun w => decide (w ∈ lw_tbl)) = true := by decide +kernel
theorem zzXW_tb : ((List.range 3).all fun x => decide (Cond.castable (zz_xn x) (zz_xn x) ∈ lw_tbl)) = true := by decide +kernel
theorem zzXN_fl : ((List.range 3).all fun x => (List.range 3).all fun y => decide (y = x) || decide (Cond.not (.castable (zz_xn x) (zz_xn y)) ∈ zzFl)) = true := by decide +kernel
theorem zzCtl_tb : (zi_ctl.all fun C => decide (Cond.castable C "ReconcilerHall$Controller" ∈ lw_tbl)) = true := by decide +kernel
section
variable {args : Array Value} {s : State}
theorem zb_tab (hts : ∀ w ∈ lw_tbl, w.before args s = true) (hfl : ∀ w ∈ zzFl, w.before args s = true) {q : String × List Int32} (hq : q ∈ zzSn) (hlen : q.2.length < 2 ^ 31) :
    ∃ t : Nat, va_T .int t q.2.length (fun j => .int (q.2.getD j 0)) (fun _ => False) s s.heap ∧ ∀ A : Nat → Prop, (∀ a : Nat, a < s.heap.size → ¬ A a) → va_Z "ReconcilerHall" q.1 "[I" (.ref t) A s s.heap := by
  have h1 := List.all_eq_true.mp zzSn_fl q hq
  have h2 := List.all_eq_true.mp zzSn_tb q hq
  obtain ⟨h3, h6⟩ := Bool.and_eq_true_iff.mp h1
  obtain ⟨h4, h5⟩ := Bool.and_eq_true_iff.mp h3
  obtain ⟨t, ht, hT⟩ := va_Tof (tm := .static "ReconcilerHall" q.1 "[I") (ty := .int) (N := q.2.length) (f := fun j => .int (q.2.getD j 0)) (A := fun _ => False) hlen (hfl _ (of_decide_eq_true h4)) (va_eqt (hfl _ (of_decide_eq_true h5))) (fun j hj => va_eqt (hfl _ (of_decide_eq_true (List.all_eq_true.mp h6 j (List.mem_range.mpr hj))))) (fun _ _ h => h)
  exact ⟨t, hT, fun A hA => va_Zof (hts _ (of_decide_eq_true h2)) (hts _ (by decide +kernel)) ht hA⟩
end
end

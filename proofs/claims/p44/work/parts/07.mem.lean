section
variable {p : Program} {l : Launch} {e : Env} {R : Room} {s : State} {m : MethodId} {args : Array Value} {below : List Frame} {meth : Method} {c : Code} {cc : ByteArray} {nL : Nat} {own : String}
variable {D : va_G} {cl : List vw_C} {cA : Nat → ClassId} {ad : Nat → Nat} {S : List zzSh} {Ex : (Nat → Prop) → State → Heap → Prop} {ret : Option FieldType} {rf rl : Nat} {rr : zzRt} {pc nx : Nat}
/-- the words of a field, for each class that its receiver may have -/
def zz_fw (own : String) (index : Nat) (cl : List vw_C) (kf : Nat → Option Nat) : Prop := ∀ ci k, kf ci = some k → ∃ (C : String) (T : u_T) (N : Nat) (ref : String) (ty0 : Nat → FieldType), cl[ci]? = some (C, T, N) ∧ k < N ∧ (∀ w ∈ u_ws C T N, w ∈ zzG0) ∧ Cond.fieldLink own index ref (T k).2.1 (T k).2.2.1 ∈ zzG0 ∧ (ref = (T k).1 ∨ Cond.sameField ref (T k).1 (T k).2.1 (T k).2.2.1 ∈ zzG0) ∧ (∀ k, k < N → parseFieldDescriptor (T k).2.2.1 = some (ty0 k)) ∧ ∀ a, a < N → ∀ b, b < N → a ≠ b → (T a).2.1 ≠ (T b).2.1
def zz_fp (cl : List vw_C) (kf : Nat → Option Nat) (bl : Bool) : Prop := ∀ ci k, kf ci = some k → ∃ q : vw_C, cl[ci]? = some q ∧ (q.2.1 k).2.2.2 = false ∧ parseFieldDescriptor (q.2.1 k).2.2.1 = some (bif bl then .boolean else .int)
theorem zz_same {args : Array Value} {s : State} {ref : String} {q : String × String × String × Bool} (hts : ∀ w ∈ zzG0, w.before args s = true) (h : ref = q.1 ∨ Cond.sameField ref q.1 q.2.1 q.2.2.1 ∈ zzG0) (x : ClassId × Class × Nat × Field) (hx : s.fieldFound? q.1 q.2.1 q.2.2.1 = some x) : s.fieldFound? ref q.2.1 q.2.2.1 = some x := by
  rcases h with h | h
  · rw [h]; exact hx
  · exact u_same (hts _ h) x hx
theorem zk_getf (X : zz_Fx p l R s m args meth c cc nL own D cl cA ad S Ex ret rf rl rr) {kf : Nat → Option Nat} {index : Nat} (F : zz_fw own index cl kf) (d : decode cc pc = .ok (.getfield index, 3)) (hn : pc + 3 = nx) : zz_Ok (zz_G p l e R s m args below meth c D cl cA ad S nL rr) pc (zo_getf S kf nx) := by
  intro K L st M r hK h hr H locs ls hS hP hL
  obtain ⟨hx, hb, hml, hown, hts, hKn, -⟩ := X
  subst hn
  unfold zo_getf at h
  split at h
  · rename_i i rr'
    split at h
    · rename_i ci nn ks hi
      split at h
      · rename_i k hk
        obtain ⟨C, T, N, ref, ty0, hc, hkN, hin, hl, hsm, -⟩ := F ci k hk
        split at h
        · rename_i hq
          exact va_get hx hb hts hin hown hKn hP i (zz_wl_get hi) hc k hkN (hts _ hl) (zz_same hts hsm) (zz_fs_get hq) d (hK _ _ _ _ h hr H locs ls hS hP hL)
        · rename_i hq
          exact va_get hx hb hts hin hown hKn hP i (zz_wl_get hi) hc k hkN (hts _ hl) (zz_same hts hsm) (zz_fs_get hq) d (hK _ _ _ _ h hr H locs ls hS hP hL)
        · rename_i j hq
          exact va_get hx hb hts hin hown hKn hP i (zz_wl_get hi) hc k hkN (hts _ hl) (zz_same hts hsm) (zz_fs_get hq) d (hK _ _ _ _ h hr H locs ls hS hP hL)
        · cases h
      · cases h
    · cases h
  · cases h
theorem zz_b01_spec {x : Int32} (h : zz_b01 x = true) : x = 0 ∨ x = 1 := of_decide_eq_true h
theorem zz_narrow_b {x : Int32} (h : zz_b01 x = true) : narrow .boolean (.int x) = .int x := by rcases zz_b01_spec h with rfl | rfl <;> decide
theorem zz_fits_b {x : Int32} (h : zz_b01 x = true) : fits .boolean (.int x) = true := by rcases zz_b01_spec h with rfl | rfl <;> decide
theorem zz_sI_1 {M : zzMd} {i k : Nat} {x : Int32} {j : Nat} (h : j ≠ i) : (zz_sI M i k x).1 j = M.1 j := by
  funext b
  show (if j = i ∧ b = k then x else M.1 j b) = M.1 j b
  rw [if_neg (fun q => h q.1)]
theorem zz_sI_k {M : zzMd} {i k : Nat} {x : Int32} : (zz_sI M i k x).1 i k = x := by
  show (if i = i ∧ k = k then x else M.1 i k) = x
  rw [if_pos ⟨rfl, rfl⟩]
theorem zz_sI_o {M : zzMd} {i k b : Nat} {x : Int32} (h : b ≠ k) : (zz_sI M i k x).1 i b = M.1 i b := by
  show (if i = i ∧ b = k then x else M.1 i b) = M.1 i b
  rw [if_neg (fun q => h q.2)]
theorem zz_sI_up {M : zzMd} {i k : Nat} {x : Int32} : upd (M.1 i) k x = (zz_sI M i k x).1 i := by
  funext b
  show (if b = k then x else M.1 i b) = if i = i ∧ b = k then x else M.1 i b
  by_cases hb : b = k
  · rw [if_pos hb, if_pos ⟨rfl, hb⟩]
  · rw [if_neg hb, if_neg (fun q => hb q.2)]
theorem zk_putf (X : zz_Fx p l R s m args meth c cc nL own D cl cA ad S Ex ret rf rl rr) {kf : Nat → Option Nat} {bl : Bool} {index : Nat} (F : zz_fw own index cl kf) (Fp : zz_fp cl kf bl) (d : decode cc pc = .ok (.putfield index, 3)) (hn : pc + 3 = nx) : zz_Ok (zz_G p l e R s m args below meth c D cl cA ad S nL rr) pc (zo_putf S kf bl nx) := by
  intro K L st M r hK h hr H locs ls hS hP hL
  obtain ⟨hx, hb, hml, hown, hts, hKn, hinj, -⟩ := X
  subst hn
  unfold zo_putf at h
  split at h
  · rename_i x i rr'
    split at h
    · rename_i ci nn ks hi
      split at h
      · rename_i k hk
        obtain ⟨C, T, N, ref, ty0, hc, hkN, hin, hl, hsm, hty, hnm⟩ := F ci k hk
        obtain ⟨q, hc', hfin, hd⟩ := Fp ci k hk
        cases hc.symm.trans hc'
        split at h
        · rename_i hq
          cases hbb : ((!bl) || zz_b01 x) with
          | false => rw [hbb] at h; cases h
          | true =>
            rw [hbb] at h
            have hn1 : narrow (bif bl then .boolean else .int) (.int x) = .int x := by
              cases bl with
              | true => exact zz_narrow_b hbb
              | false => rfl
            have hn2 : fits (bif bl then .boolean else .int) (.int x) = true := by
              cases bl with
              | true => exact zz_fits_b hbb
              | false => rfl
            refine va_put hx hb hts hin ty0 hty hnm hown hKn hP (zz_wl_D hinj) hS i (zz_wl_get hi) hc k hkN (hts _ hl) (zz_same hts hsm) hfin hd hn1 hn2 (by rw [zz_fs_len]; exact (List.getElem?_eq_some_iff.mp hq).1) d (fun H1 locs1 hP1 _ hS1 => ?_)
            refine hK _ _ _ _ h hr H1 locs1 ls hS1 ?_ hL
            rw [← zz_wl_set (M := M) (M' := zz_sI M i k x) hi (fun j hj => zz_sI_1 hj) (fun j hj => rfl)]
            show va_P D cl (List.set _ i (ad i, .inr (ci, zz_fs ad ((zz_sI M i k x).1 i) (M.2 i) ks))) H1
            rw [← zz_fs_set (f := M.1 i) hq zz_sI_k (fun j hj => zz_sI_o hj)]
            exact hP1
        · cases h
      · cases h
    · cases h
  · cases h
theorem zz_inb_in {x : Int32} {n : Nat} (h : zz_inb x n = true) : vp_in x n := vp_in_iff.mpr (of_decide_eq_true h)
theorem zk_zald (X : zz_Fx p l R s m args meth c cc nL own D cl cA ad S Ex ret rf rl rr) (d : decode cc pc = .ok (.baload, 1)) (hn : pc + 1 = nx) : zz_Ok (zz_G p l e R s m args below meth c D cl cA ad S nL rr) pc (zo_zald S nx) := by
  intro K L st M r hK h hr H locs ls hS hP hL
  obtain ⟨hx, hb, hml, hown, hts, hKn, -⟩ := X
  subst hn
  unfold zo_zald at h
  split at h
  · rename_i x i rr'
    split at h
    · rename_i n ks hi
      cases hbb : zz_inb x n with
      | false => rw [hbb] at h; cases h
      | true =>
        rw [hbb] at h
        exact va_zald hx hb hKn hP i 1 (zz_wl_get hi) rfl (zz_inb_in hbb) d (hK _ _ _ _ h hr H locs ls hS hP hL)
    · cases h
  · cases h
theorem zk_aald (X : zz_Fx p l R s m args meth c cc nL own D cl cA ad S Ex ret rf rl rr) (d : decode cc pc = .ok (.aaload, 1)) (hn : pc + 1 = nx) : zz_Ok (zz_G p l e R s m args below meth c D cl cA ad S nL rr) pc (zo_aald S nx) := by
  intro K L st M r hK h hr H locs ls hS hP hL
  obtain ⟨hx, hb, hml, hown, hts, hKn, -⟩ := X
  subst hn
  unfold zo_aald at h
  split at h
  · rename_i x i rr'
    split at h
    · rename_i n rs hi
      split at h
      · rename_i j hj
        cases hbb : zz_inb x n with
        | false => rw [hbb] at hj; cases hj
        | true =>
          rw [hbb] at hj
          have hj' : rs[zz_ix x]? = some j := hj
          refine va_aldq hx hb hKn hP i 2 (zz_wl_get hi) rfl (zz_inb_in hbb) d ?_
          show W p l e R s m args below meth c H locs 0 0 _ (F0 m (pc + 1) ls (va_rf ((rs[zz_ix x]?).map ad) :: _))
          rw [hj']
          exact (hK _ _ _ _ h hr H locs ls hS hP hL)
      · cases h
    · cases h
  · cases h
theorem zk_iast (X : zz_Fx p l R s m args meth c cc nL own D cl cA ad S Ex ret rf rl rr) (d : decode cc pc = .ok (.iastore, 1)) (hn : pc + 1 = nx) : zz_Ok (zz_G p l e R s m args below meth c D cl cA ad S nL rr) pc (zo_iast S nx) := by
  intro K L st M r hK h hr H locs ls hS hP hL
  obtain ⟨hx, hb, hml, hown, hts, hKn, hinj, -⟩ := X
  subst hn
  unfold zo_iast at h
  split at h
  · rename_i v x i rr'
    split at h
    · rename_i n ks hi
      cases hbb : zz_inb x n with
      | false => rw [hbb] at h; cases h
      | true =>
        rw [hbb] at h
        refine va_iast hx hb hKn hP (zz_wl_D hinj) hS i 0 (zz_wl_get hi) rfl (zz_inb_in hbb) d (fun H1 locs1 hP1 _ hS1 => ?_)
        refine hK _ _ _ _ h hr H1 locs1 ls hS1 ?_ hL
        rw [← zz_wl_set (M := M) (M' := zz_sI M i (zz_ix x) v) hi (fun j hj => zz_sI_1 hj) (fun j hj => rfl)]
        rw [zz_sI_up] at hP1
        exact hP1
    · cases h
  · cases h
theorem zk_zast (X : zz_Fx p l R s m args meth c cc nL own D cl cA ad S Ex ret rf rl rr) (d : decode cc pc = .ok (.bastore, 1)) (hn : pc + 1 = nx) : zz_Ok (zz_G p l e R s m args below meth c D cl cA ad S nL rr) pc (zo_zast S nx) := by
  intro K L st M r hK h hr H locs ls hS hP hL
  obtain ⟨hx, hb, hml, hown, hts, hKn, hinj, -⟩ := X
  subst hn
  unfold zo_zast at h
  split at h
  · rename_i v x i rr'
    split at h
    · rename_i n ks hi
      cases hbb : (zz_inb x n && zz_b01 v) with
      | false => rw [hbb] at h; cases h
      | true =>
        rw [hbb] at h
        obtain ⟨h1, h2⟩ := Bool.and_eq_true_iff.mp hbb
        have hv : vp_nar .boolean v = v := by rcases zz_b01_spec h2 with rfl | rfl <;> decide
        refine va_zast hx hb hKn hP (zz_wl_D hinj) hS i 1 (zz_wl_get hi) rfl (zz_inb_in h1) d (fun H1 locs1 hP1 _ hS1 => ?_)
        refine hK _ _ _ _ h hr H1 locs1 ls hS1 ?_ hL
        rw [← zz_wl_set (M := M) (M' := zz_sI M i (zz_ix x) v) hi (fun j hj => zz_sI_1 hj) (fun j hj => rfl)]
        rw [hv, zz_sI_up] at hP1
        exact hP1
    · cases h
  · cases h
theorem zz_sL_1 {M : zzMd} {i k : Nat} {x : Int64} {j : Nat} (h : j ≠ i) : (zz_sL M i k x).2 j = M.2 j := by
  funext b
  show (if j = i ∧ b = k then x else M.2 j b) = M.2 j b
  rw [if_neg (fun q => h q.1)]
theorem zz_sL_up {M : zzMd} {i k : Nat} {x : Int64} : vp_updL (M.2 i) k x = (zz_sL M i k x).2 i := by
  funext b
  show (if b = k then x else M.2 i b) = if i = i ∧ b = k then x else M.2 i b
  by_cases hb : b = k
  · rw [if_pos hb, if_pos ⟨rfl, hb⟩]
  · rw [if_neg hb, if_neg (fun q => hb q.2)]
def zz_St (Ex : (Nat → Prop) → State → Heap → Prop) (ad : Nat → Nat) (ST : List (List Int32)) : Prop := ∀ (A : Nat → Prop) (U : State) (H : Heap), Ex A U H → ∀ (k : Nat) (t : List Int32), ST[k]? = some t → va_T .int (ad (1000 + k)) t.length (fun j => .int (t.getD j 0)) A U H
theorem zk_iald (X : zz_Fx p l R s m args meth c cc nL own D cl cA ad S Ex ret rf rl rr) {ST : List (List Int32)} (hST : zz_St Ex ad ST) (d : decode cc pc = .ok (.iaload, 1)) (hn : pc + 1 = nx) : zz_Ok (zz_G p l e R s m args below meth c D cl cA ad S nL rr) pc (zo_iald S ST nx) := by
  intro K L st M r hK h hr H locs ls hS hP hL
  obtain ⟨hx, hb, hml, hown, hts, hKn, hinj, hEo, hE, -⟩ := X
  subst hn
  unfold zo_iald at h
  split at h
  · rename_i x i rr'
    split at h
    · rename_i n ks hi
      cases hbb : zz_inb x n with
      | false => rw [hbb] at h; cases h
      | true =>
        rw [hbb] at h
        exact va_iald hx hb hKn hP i 0 (zz_wl_get hi) rfl (zz_inb_in hbb) d (hK _ _ _ _ h hr H locs ls hS hP hL)
    · split at h
      · rename_i t ht
        cases hbb : (decide (1000 ≤ i) && zz_inb x t.length) with
        | false => rw [hbb] at h; cases h
        | true =>
          rw [hbb] at h
          obtain ⟨h1, h2⟩ := Bool.and_eq_true_iff.mp hbb
          have h3 : 1000 ≤ i := of_decide_eq_true h1
          have h4 := hST _ _ _ hE _ _ ht
          rw [show 1000 + (i - 1000) = i from Nat.add_sub_of_le h3] at h4
          exact va_ti (t := ad i) hx hb h4 hS (zz_inb_in h2) rfl d (hK _ _ _ _ h hr H locs ls hS hP hL)
      · cases h
    · cases h
  · cases h
def zz_Sg (Ex : (Nat → Prop) → State → Heap → Prop) (ad : Nat → Nat) (C n d : String) (k : Nat) : Prop := ∀ (A : Nat → Prop) (U : State) (H : Heap), Ex A U H → va_Z C n d (.ref (ad k)) A U H
theorem zk_gets (X : zz_Fx p l R s m args meth c cc nL own D cl cA ad S Ex ret rf rl rr) {C n ds : String} {k index : Nat} (hg : zz_Sg Ex ad C n ds k) (hl : Cond.fieldLink own index C n ds ∈ zzG0) (d : decode cc pc = .ok (.getstatic index, 3)) (hn : pc + 3 = nx) : zz_Ok (zz_G p l e R s m args below meth c D cl cA ad S nL rr) pc (zo_gets k nx) := by
  intro K L st M r hK h hr H locs ls hS hP hL
  obtain ⟨hx, hb, hml, hown, hts, hKn, hinj, hEo, hE, -⟩ := X
  subst hn
  exact va_gets hx hb (hg _ _ _ hE) hS hown (hts _ hl) (fun x hx => hx) d (hK _ _ _ _ h hr H locs ls hS hP hL)
/-- .. of a nest mate -/
def zz_Nw (Ex : (Nat → Prop) → State → Heap → Prop) (w : Cond) : Prop := ∀ (A : Nat → Prop) (U : State) (H : Heap), Ex A U H → ∀ args, w.before args U = true
theorem zk_getsN (X : zz_Fx p l R s m args meth c cc nL own D cl cA ad S Ex ret rf rl rr) {C n ds host : String} {k index : Nat} (hg : zz_Sg Ex ad C n ds k) (hl : zz_Nw Ex (Cond.fieldLinkNest own index C n ds host)) (d : decode cc pc = .ok (.getstatic index, 3)) (hn : pc + 3 = nx) : zz_Ok (zz_G p l e R s m args below meth c D cl cA ad S nL rr) pc (zo_gets k nx) := by
  intro K L st M r hK h hr H locs ls hS hP hL
  obtain ⟨hx, hb, hml, hown, hts, hKn, hinj, hEo, hE, -⟩ := X
  subst hn
  exact va_getsN hx hb (hg _ _ _ hE) hS hown (hl _ _ _ hE _) (fun x hx => hx) d (hK _ _ _ _ h hr H locs ls hS hP hL)
end

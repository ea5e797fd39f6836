section
variable {p : Program} {l : Launch} {e : Env} {R : Room} {s : State} {m : MethodId} {args : Array Value} {below : List Frame} {meth : Method} {c : Code} {cc : ByteArray} {nL : Nat} {own : String}
variable {D : va_G} {cl : List vw_C} {cA : Nat → ClassId} {ad : Nat → Nat} {S : List zzSh} {Ex : (Nat → Prop) → State → Heap → Prop} {ret : Option FieldType} {rf rl : Nat} {rr : zzRt} {pc nx : Nat}
theorem zz_cpI_up {M : zzMd} {i si j sj n : Nat} : va_cpy (M.1 i) (M.1 j) si sj n = (zz_cpI M i si j sj n).1 j := by
  funext b
  show (if sj ≤ b ∧ b < sj + n then M.1 i (si + (b - sj)) else M.1 j b) = if j = j ∧ sj ≤ b ∧ b < sj + n then M.1 i (si + (b - sj)) else M.1 j b
  by_cases h : sj ≤ b ∧ b < sj + n
  · rw [if_pos h, if_pos ⟨rfl, h⟩]
  · rw [if_neg h, if_neg (fun q => h q.2)]
theorem zz_cpI_1 {M : zzMd} {i si j sj n k : Nat} (h : k ≠ j) : (zz_cpI M i si j sj n).1 k = M.1 k := by
  funext b
  show (if k = j ∧ sj ≤ b ∧ b < sj + n then _ else M.1 k b) = M.1 k b
  rw [if_neg (fun q => h q.1)]
theorem zz_nneg {x : Int32} (h : 0 ≤ x.toInt) : ¬ x < 0 := by
  rw [Int32.lt_iff_toInt_lt, Int32.toInt_zero]
  omega
theorem zk_copy (X : zz_Fx p l R s m args meth c cc nL own D cl cA ad S Ex ret rf rl rr) {index : Nat} (h1 : Cond.methodLink own index arraycopyName ∈ zzG0) (h2 : Cond.native arraycopyName ∈ zzG0) (h3 : Cond.static arraycopyName ∈ zzG0) (h4 : Cond.initialized "java/lang/System" ∈ zzG0) (hR : 1 ≤ rf ∧ 8 + (nativeFrameWords "java/lang/System" "arraycopy" 5 + 11) ≤ rl)
    (d : decode cc pc = .ok (.invokestatic index, 3)) (hn : pc + 3 = nx) : zz_Ok (zz_G p l e R s m args below meth c D cl cA ad S nL rr) pc (zo_copy S nx) := by
  intro K L st M r hK h hr H locs ls hS hP hL
  obtain ⟨hx, hb, hml, hown, hts, hKn, hinj, hEo, hE, hret, hlk, hno, htr, hRf, hRl, hRx⟩ := X
  subst hn
  unfold zo_copy at h
  split at h
  · rename_i n dj j di i r0
    split at h
    · rename_i ni ks nj ks' hi hj
      cases hbb : (decide (0 ≤ di.toInt ∧ 0 ≤ dj.toInt ∧ 0 ≤ n.toInt ∧ zz_ix di + zz_ix n ≤ ni ∧ zz_ix dj + zz_ix n ≤ nj) && zz_cat8 r0) with
      | false => rw [hbb] at h; cases h
      | true =>
        rw [hbb] at h
        obtain ⟨b1, b2⟩ := Bool.and_eq_true_iff.mp hbb
        obtain ⟨q1, q2, q3, q4, q5⟩ := of_decide_eq_true b1
        have h8 := zz_cat8_map (ad := ad) b2
        refine va_copyi hx hb (hml.trans hL.1.symm) hown (hts _ h1) (hts _ h2) (hts _ h3) (hts _ h4) hKn hP (zz_wl_D hinj) hS i j 0 0 (zz_wl_get hi) (zz_wl_get hj) rfl rfl rfl (zz_nneg q1) (zz_nneg q2) (zz_nneg q3) q4 q5 (fun _ _ => rfl) (by rw [hRf]; exact hR.1) (by rw [hRl]; omega) d (fun H1 locs1 hP1 _ hS1 => ?_)
        refine hK _ _ _ _ h hr H1 locs1 ls hS1 ?_ hL
        rw [← zz_wl_set (M := M) (M' := zz_cpI M i (zz_ix di) j (zz_ix dj) (zz_ix n)) hj (fun k hk => zz_cpI_1 hk) (fun k hk => rfl)]
        rw [zz_cpI_up] at hP1
        exact hP1
    · cases h
  · cases h
theorem zk_max (X : zz_Fx p l R s m args meth c cc nL own D cl cA ad S Ex ret rf rl rr) {index : Nat} (h1 : Cond.methodLink own index Lib.Math.max.name ∈ zzG0) (h2 : Cond.static Lib.Math.max.name ∈ zzG0) (h3 : Cond.initialized "java/lang/Math" ∈ zzG0) (h4 : Cond.code Lib.Math.max.name Lib.Math.max.code 2 (some .int) ∈ zzG0) (hR : 1 ≤ rf ∧ 21 ≤ rl)
    (d : decode cc pc = .ok (.invokestatic index, 3)) (hn : pc + 3 = nx) : zz_Ok (zz_G p l e R s m args below meth c D cl cA ad S nL rr) pc (zo_mm (fun x y => if x < y then y else x) nx) := by
  intro K L st M r hK h hr H locs ls hS hP hL
  obtain ⟨hx, hb, hml, hown, hts, hKn, hinj, hEo, hE, hret, hlk, hno, htr, hRf, hRl, hRx⟩ := X
  subst hn
  unfold zo_mm at h
  split at h
  · rename_i y x r0
    cases b2 : zz_cat8 r0 with
    | false => rw [b2] at h; cases h
    | true =>
      rw [b2] at h
      have h8 := zz_cat8_map (ad := ad) b2
      exact va_mmax hx hb (hml.trans hL.1.symm) hown (hts _ h1) (hts _ h2) (hts _ h3) (hts _ h4) (by rw [hRf]; exact hR.1) (by rw [hRl]; omega) (Nat.zero_le _) (Nat.zero_le _) d (hK _ _ _ _ h hr H locs ls hS hP hL)
  · cases h
theorem zk_min (X : zz_Fx p l R s m args meth c cc nL own D cl cA ad S Ex ret rf rl rr) {index : Nat} (h1 : Cond.methodLink own index Lib.Math.min.name ∈ zzG0) (h2 : Cond.static Lib.Math.min.name ∈ zzG0) (h3 : Cond.initialized "java/lang/Math" ∈ zzG0) (h4 : Cond.code Lib.Math.min.name Lib.Math.min.code 2 (some .int) ∈ zzG0) (hR : 1 ≤ rf ∧ 21 ≤ rl)
    (d : decode cc pc = .ok (.invokestatic index, 3)) (hn : pc + 3 = nx) : zz_Ok (zz_G p l e R s m args below meth c D cl cA ad S nL rr) pc (zo_mm (fun x y => if y < x then y else x) nx) := by
  intro K L st M r hK h hr H locs ls hS hP hL
  obtain ⟨hx, hb, hml, hown, hts, hKn, hinj, hEo, hE, hret, hlk, hno, htr, hRf, hRl, hRx⟩ := X
  subst hn
  unfold zo_mm at h
  split at h
  · rename_i y x r0
    cases b2 : zz_cat8 r0 with
    | false => rw [b2] at h; cases h
    | true =>
      rw [b2] at h
      have h8 := zz_cat8_map (ad := ad) b2
      exact va_mmin hx hb (hml.trans hL.1.symm) hown (hts _ h1) (hts _ h2) (hts _ h3) (hts _ h4) (by rw [hRf]; exact hR.1) (by rw [hRl]; omega) (Nat.zero_le _) (Nat.zero_le _) d (hK _ _ _ _ h hr H locs ls hS hP hL)
  · cases h
/-! throw new E("text") -/
def zz_nm : List String := ["java/lang/RuntimeException", "java/lang/Exception"]
def zz_Th (Ex : (Nat → Prop) → State → Heap → Prop) (own : String) (ik is ic x : Nat) : Prop :=
  Bundle.fit (zz_xn x) = true ∧ Cond.classLink own ik (zz_xn x) ∈ zzG0 ∧ Cond.initialized (zz_xn x) ∈ zzG0 ∧ (∀ w ∈ (vx_atS own ic (zz_xn x) zz_nm).filter goodWord, w ∈ zzG0) ∧ (∀ w ∈ (vx_atS own ic (zz_xn x) zz_nm).filter (fun w => !goodWord w), w ∈ zzNW) ∧ (∀ w ∈ Cond.classLink own ik (zz_xn x) :: Cond.initialized (zz_xn x) :: vx_atS own ic (zz_xn x) zz_nm, vx_ot w = true) ∧
  ∃ text : String, ∀ (A : Nat → Prop) (U : State) (H : Heap), Ex A U H → ∃ a, vk_R own is text a U
theorem zzNW_ot : ∀ w ∈ zzNW, w.onTables = true := by decide +kernel
theorem zz_P_kept {H H1 : Heap} {M : zzMd} (h : va_P D cl (zz_wl ad cA S M) H) (hq : ∀ q : Nat, q < H.size → H1[q]? = H[q]?) : va_P D cl (zz_wl ad cA S M) H1 := h.kept fun k q hk => hq q.1 (h k q hk).lt
theorem zk_throw (X : zz_Fx p l R s m args meth c cc nL own D cl cA ad S Ex ret rf rl rr) {ik is ic x : Nat} (F : zz_Th Ex own ik is ic x) (hR : 6 ≤ rf ∧ 82 ≤ rl)
    (d0 : decode cc pc = .ok (.new ik, 3)) (d3 : decode cc (pc + 3) = .ok (.dup, 1)) (d4 : decode cc (pc + 4) = .ok (.ldc is, 2)) (d6 : decode cc (pc + 6) = .ok (.invokespecial ic, 3)) (d9 : decode cc (pc + 9) = .ok (.athrow, 1)) : zz_Ok (zz_G p l e R s m args below meth c D cl cA ad S nL rr) pc (zo_throw x) := by
  intro K L st M r hK h hr H locs ls hS hP hL
  obtain ⟨hx, hb, hml, hown, hts, hKn, hinj, hEo, hE, hret, hlk, hno, htr, hRf, hRl, hRx⟩ := X
  obtain ⟨f1, f2, f3, f4, f5, f6, text, f7⟩ := F
  obtain ⟨sa, hsa⟩ := f7 _ _ _ hE
  unfold zo_throw at h
  split at h
  · cases h
    subst hr
    obtain ⟨hR1, hR2⟩ := hRx x rfl
    obtain ⟨hU, hN⟩ := hEo.2.2.2.2 _ _ _ hE
    exact vx_throwS (rest := []) hx hb htr hown f1 (by decide) (hts _ f2) (hts _ f3) hsa (vx_hat (B := zzNW) (fun w hw => hts w (f4 w hw)) f5 (fun w hw => va_Nw.use (zzNW_ot w hw) (hEo.2.2.2.1 _ _ _ hE w hw))) f6 hU hN hS (hL.1.trans hml.symm) d0 d3 d4 d6 d9 (fun z hz => (hno z hz).elim)
      (by rw [hRf]; exact hR.1) (by rw [hRl]; exact hR.2) (by omega) (by omega) hlk (fun t ha hz hk => ⟨rfl, zz_P_kept hP hk, ⟨Nat.le_trans hS.1 hz, fun q h1 h2 => by rw [hk q (Nat.lt_of_lt_of_le h1 hS.1)]; exact hS.2.1 q h1 h2⟩⟩) hS.2.2 (Nat.le_refl _) (Nat.le_refl _)
  · cases h
theorem zk_throwW (X : zz_Fx p l R s m args meth c cc nL own D cl cA ad S Ex ret rf rl rr) {ik is ic x : Nat} (F : zz_Th Ex own ik is ic x) (hR : 6 ≤ rf ∧ 82 ≤ rl)
    (d0 : decode cc pc = .ok (.new ik, 3)) (d3 : decode cc (pc + 3) = .ok (.dup, 1)) (d4 : decode cc (pc + 4) = .ok (.ldc_w is, 3)) (d6 : decode cc (pc + 7) = .ok (.invokespecial ic, 3)) (d9 : decode cc (pc + 10) = .ok (.athrow, 1)) : zz_Ok (zz_G p l e R s m args below meth c D cl cA ad S nL rr) pc (zo_throw x) := by
  intro K L st M r hK h hr H locs ls hS hP hL
  obtain ⟨hx, hb, hml, hown, hts, hKn, hinj, hEo, hE, hret, hlk, hno, htr, hRf, hRl, hRx⟩ := X
  obtain ⟨f1, f2, f3, f4, f5, f6, text, f7⟩ := F
  obtain ⟨sa, hsa⟩ := f7 _ _ _ hE
  unfold zo_throw at h
  split at h
  · cases h
    subst hr
    obtain ⟨hR1, hR2⟩ := hRx x rfl
    obtain ⟨hU, hN⟩ := hEo.2.2.2.2 _ _ _ hE
    exact vx_throwSW (rest := []) hx hb htr hown f1 (by decide) (hts _ f2) (hts _ f3) hsa (vx_hat (B := zzNW) (fun w hw => hts w (f4 w hw)) f5 (fun w hw => va_Nw.use (zzNW_ot w hw) (hEo.2.2.2.1 _ _ _ hE w hw))) f6 hU hN hS (hL.1.trans hml.symm) d0 d3 d4 d6 d9 (fun z hz => (hno z hz).elim)
      (by rw [hRf]; exact hR.1) (by rw [hRl]; exact hR.2) (by omega) (by omega) hlk (fun t ha hz hk => ⟨rfl, zz_P_kept hP hk, ⟨Nat.le_trans hS.1 hz, fun q h1 h2 => by rw [hk q (Nat.lt_of_lt_of_le h1 hS.1)]; exact hS.2.1 q h1 h2⟩⟩) hS.2.2 (Nat.le_refl _) (Nat.le_refl _)
  · cases h
/-! a method by its steps -/
def zz_args : List Value → zzLc
  | [] => []
  | v :: r => if v.category = 2 then some v :: none :: zz_args r else some v :: zz_args r
def zz_en (nL : Nat) (As : List Value) : zzLc := zz_args As ++ List.replicate (nL - (zz_args As).length) none
noncomputable def zz_fn (T : List zzOp) (nL : Nat) : zzFn := fun As M => bif decide ((zz_args As).length ≤ nL) then zz_ev T 0 (zz_en nL As) [] M else none
theorem zz_args_len : ∀ (As : List Value), (lg_sl (As.map (zz_cv ad))).length = (zz_args As).length
  | [] => rfl
  | v :: r => by
    have h := zz_args_len r
    unfold lg_sl at h
    unfold lg_sl zz_args
    rw [List.map_cons, List.flatMap_cons, List.length_append, h, zz_cv_cat]
    by_cases hc : v.category = 2
    · rw [if_pos hc, if_pos hc]; simp; omega
    · rw [if_neg hc, if_neg hc]; simp; omega
theorem zz_args_mem : ∀ (As : List Value) (k i : Nat) (v : Value), (zz_args As)[i]? = some (some v) → (k + i, zz_cv ad v) ∈ lv_args k (As.map (zz_cv ad))
  | [], k, i, v, h => by cases h
  | w :: r, k, i, v, h => by
    unfold zz_args at h
    rw [List.map_cons]
    unfold lv_args
    rw [zz_cv_cat]
    by_cases hc : w.category = 2
    · rw [if_pos hc] at h ⊢
      match i, h with
      | 0, h => cases h; exact List.mem_cons_self
      | 1, h => cases h
      | i + 2, h =>
        have h1 := zz_args_mem r (k + 2) i v h
        rw [show k + 2 + i = k + (i + 2) by omega] at h1
        exact List.mem_cons_of_mem _ h1
    · rw [if_neg hc] at h ⊢
      match i, h with
      | 0, h => cases h; exact List.mem_cons_self
      | i + 1, h =>
        have h1 := zz_args_mem r (k + 1) i v h
        rw [show k + 1 + i = k + (i + 1) by omega] at h1
        exact List.mem_cons_of_mem _ h1
theorem zz_L_en {As : List Value} (h : (zz_args As).length ≤ nL) : zz_L ad ((lg_sl (As.map (zz_cv ad)) ++ List.replicate (nL - (lg_sl (As.map (zz_cv ad))).length) Slot.unset).toArray) nL (zz_en nL As) := by
  have h1 := lv_entry (As.map (zz_cv ad)) (n := nL) (by rw [zz_args_len]; exact h)
  refine ⟨h1.1, h1.2.1, fun i v hv => ?_⟩
  have h2 : (zz_args As)[i]? = some (some v) := by
    unfold zz_en at hv
    by_cases hi : i < (zz_args As).length
    · rwa [List.getElem?_append_left hi] at hv
    · rw [List.getElem?_append_right (by omega), List.getElem?_replicate] at hv
      split at hv <;> cases hv
  have h3 := zz_args_mem (ad := ad) As 0 i v h2
  rw [Nat.zero_add] at h3
  exact h1.2.2 _ h3
/-- a body's contract out of its walk, where no native row stands for the method (java.lang.Math's own methods too) -/
theorem zz_ofW {y : MethodName} {ws ws' : List Cond} {rm : Room} {Pc : Array Value → State → Prop} {Qc : Array Value → State → Outcome → State → Prop} {mc ms : Nat} {free : Addr → Prop} {cc : ByteArray} {maxL : Nat} {ret : Option FieldType}
    (hy : plainFor y = true) (hw : ws = Cond.code y cc maxL ret :: ws')
    (body : ∀ p e s m args below meth c s₁, BodyLoose p l y (headSpec ws rm) cc maxL ret e s m args below meth c s₁ → c.maxLocals = maxL → Pc args s →
      W p l e (headSpec ws rm).room s m args below meth c s.heap [] 0 0 (MQ below Qc args s mc ms free) (entryFrame m args maxL)) : Met l y ws rm Pc Qc mc ms free := by
  refine MetFree.of_bodySF (code := cc) (maxLocals := maxL) (ret := ret) hy (fun args s m h hn => ?_) (fun p e s m args below meth c s₁ B hml hP _ => ?_)
  · obtain ⟨meth, c, h1, h2, h3, h4, h5, h6, -, -⟩ := Cond.code_spec hn (atoms_spec (ws := ws) h _ (by rw [hw]; exact List.mem_cons_self))
    exact ⟨meth, c, h1, h2, h3, h4, h5, h6⟩
  · obtain ⟨t, a1, o, b1, b2, b3⟩ := body p e s m args below meth c s₁ B hml hP s₁ (by rw [B.state]; rfl) (Stand.of_body B)
    exact ⟨t, o, a1, b1, b2, ⟨b3.1, b3.2⟩⟩
theorem zz_ofX {y : MethodName} {ws ws' : List Cond} {rm : Room} {Pc : Array Value → State → Prop} {Qc : Array Value → State → Outcome → State → Prop} {XC : String → State → State → Prop} {mc ms : Nat} {free : Addr → Prop} {cc : ByteArray} {maxL : Nat} {ret : Option FieldType}
    (hy : plainFor y = true) (hw : ws = Cond.code y cc maxL ret :: ws')
    (body : ∀ p e s m args below meth c s₁, BodyLoose p l y (headSpec ws rm) cc maxL ret e s m args below meth c s₁ → c.maxLocals = maxL → (∀ x ∈ c.exceptionTable.toList, False) → Pc args s →
      W p l e (headSpec ws rm).room s m args below meth c s.heap [] 0 0 (vx_MQ below Qc XC args s mc ms free) (entryFrame m args maxL)) : vx_Met l y ws rm Pc Qc XC mc ms free := by
  refine MetFree.of_bodySF (code := cc) (maxLocals := maxL) (ret := ret) hy (fun args s m h hn => ?_) (fun p e s m args below meth c s₁ B hml hP _ => ?_)
  · obtain ⟨meth, c, h1, h2, h3, h4, h5, h6, -, -⟩ := Cond.code_spec hn (atoms_spec (ws := ws) h _ (by rw [hw]; exact List.mem_cons_self))
    exact ⟨meth, c, h1, h2, h3, h4, h5, h6⟩
  · have ht : ∀ x ∈ c.exceptionTable.toList, False := by
      obtain ⟨meth9, c9, h1, h2, -, -, -, -, h7, -⟩ := Cond.code_spec B.named (atoms_spec (ws := ws) B.pre _ (by rw [hw]; exact List.mem_cons_self))
      cases Option.some.inj (h1.symm.trans B.method)
      cases Option.some.inj (h2.symm.trans (Stand.of_body B).code)
      intro x hx
      rw [Array.isEmpty_iff.mp h7] at hx
      cases hx
    obtain ⟨t, a1, o, b1, b2, b3⟩ := body p e s m args below meth c s₁ B hml ht hP s₁ (by rw [B.state]; rfl) (Stand.of_body B)
    exact ⟨t, o, a1, b1, b2, b3⟩
theorem zz_meth {T : List zzOp} {y : MethodName} {bytes : ByteArray} {maxL : Nat} (hy : plainFor y = true) (htr : l.stackTraces = false) (hinj : ∀ i j, i < S.length → j < S.length → ad i = ad j → i = j) (hEo : zz_ExOk Ex)
    (hall : ∀ (p : Program) (e : Env) (R : Room) (s : State) (m : MethodId) (args : Array Value) (below : List Frame) (meth : Method) (c : Code) (rr : zzRt), zz_Fx p l R s m args meth c bytes maxL y.cls D cl cA ad S Ex ret rf rl rr → zz_All (zz_G p l e R s m args below meth c D cl cA ad S maxL rr) 0 T) :
    zz_Cn l D cl cA ad S Ex y bytes maxL ret rf rl (zz_fn T maxL) ∧ zz_Cx l D cl cA ad S Ex y bytes maxL ret rf rl (zz_fn T maxL) := by
  refine ⟨fun sz As M v M' hf => ?_, fun sz As M x M' hf => ?_⟩
  · refine zz_ofW (cc := bytes) (maxL := maxL) (ret := ret) hy rfl ?_
    intro p e s m args below meth c s₁ B hml hv
    obtain ⟨rfl, hsz, hP, hK, hE⟩ := hv
    subst hsz
    unfold zz_fn at hf
    cases hbb : decide ((zz_args As).length ≤ maxL) with
    | false => rw [hbb] at hf; cases hf
    | true =>
      rw [hbb] at hf
      have hno : ∀ x ∈ c.exceptionTable.toList, False := by
        obtain ⟨meth9, c9, h1, h2, -, -, -, -, h7, -⟩ := Cond.code_spec B.named (atoms_spec (ws := Cond.code y bytes maxL ret :: zzG0) B.pre _ List.mem_cons_self)
        cases Option.some.inj (h1.symm.trans B.method)
        cases Option.some.inj (h2.symm.trans (Stand.of_body B).code)
        intro x hx
        rw [Array.isEmpty_iff.mp h7] at hx
        cases hx
      rw [lg_entry_eq]
      exact zz_sim (zz_All_pc (hall p e _ s m _ below meth c (.inl v, M') ⟨B.exec, B.bytes, hml, findClass_of_methodNamed B.named, fun w hw => atoms_spec (ws := Cond.code y bytes maxL ret :: zzG0) B.pre w (List.mem_cons_of_mem _ hw), hK, hinj, hEo, hE, B.returns, B.notSynchronized, hno, htr, rfl, rfl, fun x hx => by cases hx⟩)) hf rfl s.heap [] _ va_S.rf hP (zz_L_en (of_decide_eq_true hbb))
  · refine zz_ofX (cc := bytes) (maxL := maxL) (ret := ret) hy rfl ?_
    intro p e s m args below meth c s₁ B hml hno hv
    obtain ⟨rfl, hsz, hP, hK, hE⟩ := hv
    subst hsz
    unfold zz_fn at hf
    cases hbb : decide ((zz_args As).length ≤ maxL) with
    | false => rw [hbb] at hf; cases hf
    | true =>
      rw [hbb] at hf
      rw [lg_entry_eq]
      exact zz_sim (zz_All_pc (hall p e _ s m _ below meth c (.inr x, M') ⟨B.exec, B.bytes, hml, findClass_of_methodNamed B.named, fun w hw => atoms_spec (ws := Cond.code y bytes maxL ret :: zzG0) B.pre w (List.mem_cons_of_mem _ hw), hK, hinj, hEo, hE, B.returns, B.notSynchronized, hno, htr, rfl, rfl, fun x hx => ⟨Nat.le_refl 1, Nat.le_refl 6⟩⟩)) hf rfl s.heap [] _ va_S.rf hP (zz_L_en (of_decide_eq_true hbb))
end

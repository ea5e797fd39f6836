section
/-- the words that stay true over a run -/
def zzG0 : List Cond := zzTB.filter goodWord
theorem zz_in {w : Cond} (h : (decide (w ∈ zzTB) && goodWord w) = true) : w ∈ zzG0 := by
  rw [Bool.and_eq_true, decide_eq_true_eq] at h
  exact List.mem_filter.mpr h
theorem zz_good {w : Cond} (h : w ∈ zzG0) : w ∈ zzG0 ∧ ((w.onTables && w.keeps) = true ∨ ∃ ty, w = .arrayClass ty) := ⟨h, good_of_word (List.mem_filter.mp h).2⟩
theorem zz_gin {ws : List Cond} (h : ∀ w ∈ ws, w ∈ zzG0) : GoodIn zzG0 ws := fun w hw => zz_good (h w hw)
/-- the cells that may change: the world's, and new ones -/
def zz_A (ad : Nat → Nat) (S : List zzSh) (sz : Nat) : Nat → Prop := fun q => (∃ i, i < S.length ∧ q = ad i) ∨ sz ≤ q
theorem zz_wl_D {ad : Nat → Nat} {cA : Nat → ClassId} {S : List zzSh} {sz : Nat} {M : zzMd} (h : ∀ i j, i < S.length → j < S.length → ad i = ad j → i = j) : va_D (zz_A ad S sz) (zz_wl ad cA S M) := by
  have key : ∀ (k : Nat) (q : Nat × va_E), (zz_wl ad cA S M)[k]? = some q → k < S.length ∧ q.1 = ad k := by
    intro k q hq
    simp only [zz_wl, List.getElem?_mapIdx] at hq
    cases hs : S[k]? with
    | none => rw [hs] at hq; cases hq
    | some sh =>
      rw [hs] at hq
      cases hq
      exact ⟨(List.getElem?_eq_some_iff.mp hs).1, rfl⟩
  refine ⟨fun i j p q hi hj hpq => ?_, fun k q hq => ?_⟩
  · obtain ⟨a1, a2⟩ := key i p hi
    obtain ⟨b1, b2⟩ := key j q hj
    exact h i j a1 b1 (a2.symm.trans (hpq.trans b2))
  · obtain ⟨a1, a2⟩ := key k q hq
    exact Or.inl ⟨k, a1, a2⟩
/-- words that aren't among those, but hold at every start -/
def zzNW : List Cond := [.declares ⟨"ReconcilerHall$Controller", "queueOthers", "(II)V"⟩, .declares ⟨"ReconcilerHall$Controller", "serve", "(I)I"⟩, .fieldLinkNest "ReconcilerHall$Store" 60 "ReconcilerHall" "FIRST" "[I" "ReconcilerHall", .methodLinkNest "ReconcilerHall$Store" 67 ⟨"ReconcilerHall", "hasField", "(II)Z"⟩ "ReconcilerHall",
  .castable "java/lang/IllegalArgumentException" "java/lang/IllegalArgumentException", .castable "java/lang/IllegalStateException" "java/lang/IllegalStateException", .castable "java/lang/IndexOutOfBoundsException" "java/lang/IndexOutOfBoundsException",
  .declares ⟨"java/lang/RuntimeException", "<init>", "(Ljava/lang/String;)V"⟩, .declares ⟨"java/lang/Exception", "<init>", "(Ljava/lang/String;)V"⟩, .declares ⟨"java/lang/Throwable", "<init>", "(Ljava/lang/String;)V"⟩]
/-- what else a method needs of its start: kept when only the cells A change -/
def zz_ExOk (Ex : (Nat → Prop) → State → Heap → Prop) : Prop :=
  (∀ (A : Nat → Prop) (u U : State) (H : Heap), u.WarmedH U.vm → Ex A u H → Ex A U H) ∧ (∀ (A : Nat → Prop) (U : State) (H H1 : Heap), Ex A U H → (∀ q : Nat, q < H.size → ¬ A q → H1[q]? = H[q]?) → Ex A U H1) ∧ (∀ (A B : Nat → Prop) (U : State) (H : Heap), Ex A U H → (∀ q : Nat, q < H.size → B q → A q) → Ex B U H) ∧ (∀ (A : Nat → Prop) (U : State) (H : Heap), Ex A U H → ∀ w ∈ zzNW, va_Nw w U) ∧ (∀ (A : Nat → Prop) (U : State) (H : Heap), Ex A U H → vx_Zq Bundle.tN "UNASSIGNED_STACK" Bundle.steD A U H ∧ vx_Zq Bundle.tN "SUPPRESSED_SENTINEL" Bundle.listD A U H)
/-- a method's end: it returns v, and the world is M -/
def zz_Qn (D : va_G) (cl : List vw_C) (cA : Nat → ClassId) (ad : Nat → Nat) (S : List zzSh) (sz : Nat) (v : Option Value) (M : zzMd) : Array Value → State → Outcome → State → Prop := fun _ st oc t => oc = .returned (v.map (zz_cv ad)) ∧ va_P D cl (zz_wl ad cA S M) t.heap ∧ va_F (zz_A ad S sz) st t
def zz_xn : Nat → String
  | 0 => "java/lang/IllegalArgumentException"
  | 1 => "java/lang/IllegalStateException"
  | _ => "java/lang/IndexOutOfBoundsException"
/-- .. or it throws -/
def zz_Qx (D : va_G) (cl : List vw_C) (cA : Nat → ClassId) (ad : Nat → Nat) (S : List zzSh) (sz : Nat) (x : Nat) (M : zzMd) : String → State → State → Prop := fun E st t => E = zz_xn x ∧ va_P D cl (zz_wl ad cA S M) t.heap ∧ va_F (zz_A ad S sz) st t
def zz_QQ (below : List Frame) (args : Array Value) (s : State) (D : va_G) (cl : List vw_C) (cA : Nat → ClassId) (ad : Nat → Nat) (S : List zzSh) (rr : zzRt) : State → Prop := match rr.1 with
  | .inl v => MQ below (zz_Qn D cl cA ad S s.heap.size v rr.2) args s 0 0 (zz_A ad S s.heap.size)
  | .inr x => vx_MQ below (fun _ _ _ _ => False) (zz_Qx D cl cA ad S s.heap.size x rr.2) args s 1 6 (zz_A ad S s.heap.size)
variable {p : Program} {l : Launch} {e : Env} {R : Room} {s : State} {m : MethodId} {args : Array Value} {below : List Frame} {meth : Method} {c : Code} {cc : ByteArray} {nL : Nat} {own : String}
variable {D : va_G} {cl : List vw_C} {cA : Nat → ClassId} {ad : Nat → Nat} {S : List zzSh} {Ex : (Nat → Prop) → State → Heap → Prop} {ret : Option FieldType} {rf rl : Nat} {rr : zzRt} {pc nx : Nat}
def zz_G (p : Program) (l : Launch) (e : Env) (R : Room) (s : State) (m : MethodId) (args : Array Value) (below : List Frame) (meth : Method) (c : Code) (D : va_G) (cl : List vw_C) (cA : Nat → ClassId) (ad : Nat → Nat) (S : List zzSh) (nL : Nat) (rr : zzRt) : zzRt → Nat → zzLc → List Value → zzMd → Prop :=
  fun r pc L st M => r = rr → ∀ (H : Heap) (locs : List Loc) (ls : Array Slot), va_S (zz_A ad S s.heap.size) s.heap H locs → va_P D cl (zz_wl ad cA S M) H → zz_L ad ls nL L → W p l e R s m args below meth c H locs 0 0 (zz_QQ below args s D cl cA ad S rr) (F0 m pc ls (st.map (zz_cv ad)))
def zz_Fx (p : Program) (l : Launch) (R : Room) (s : State) (m : MethodId) (args : Array Value) (meth : Method) (c : Code) (cc : ByteArray) (nL : Nat) (own : String) (D : va_G) (cl : List vw_C) (cA : Nat → ClassId) (ad : Nat → Nat) (S : List zzSh) (Ex : (Nat → Prop) → State → Heap → Prop) (ret : Option FieldType) (rf rl : Nat) (rr : zzRt) : Prop :=
  p.tables.exec = Jvm.exec ∧ c.code = cc ∧ c.maxLocals = nL ∧ s.vm.findClass own = some m.cls ∧ (∀ w ∈ zzG0, w.before args s = true) ∧ va_K D cl (zz_tys cA) s ∧ (∀ i j, i < S.length → j < S.length → ad i = ad j → i = j) ∧ zz_ExOk Ex ∧ Ex (zz_A ad S s.heap.size) s s.heap ∧ meth.sig.returnType = ret ∧ meth.locks = false ∧ (∀ x ∈ c.exceptionTable.toList, False) ∧ l.stackTraces = false ∧ R.frames = rf ∧ R.locals = rl ∧ ∀ x, rr.1 = .inr x → 1 ≤ R.cells ∧ 6 ≤ R.slots

theorem zk_iconst (X : zz_Fx p l R s m args meth c cc nL own D cl cA ad S Ex ret rf rl rr) {n : Int} {v : Int32} (d : decode cc pc = .ok (.iconst n, 1)) (hv : Int32.ofInt n = v) (hn : pc + 1 = nx) : zz_Ok (zz_G p l e R s m args below meth c D cl cA ad S nL rr) pc (zo_pushI v nx) := by
  intro K L st M r hK h hr H locs ls hS hP hL
  subst hn
  exact lv_iconst X.1 X.2.1 d hv (hK _ _ _ _ h hr H locs ls hS hP hL)

theorem zk_bipush (X : zz_Fx p l R s m args meth c cc nL own D cl cA ad S Ex ret rf rl rr) {n : Int} {v : Int32} (d : decode cc pc = .ok (.bipush n, 2)) (hv : (Int8.ofInt n).toInt32 = v) (hn : pc + 2 = nx) : zz_Ok (zz_G p l e R s m args below meth c D cl cA ad S nL rr) pc (zo_pushI v nx) := by
  intro K L st M r hK h hr H locs ls hS hP hL
  subst hn
  exact lv_bipush X.1 X.2.1 d hv (hK _ _ _ _ h hr H locs ls hS hP hL)

theorem zk_sipush (X : zz_Fx p l R s m args meth c cc nL own D cl cA ad S Ex ret rf rl rr) {n : Int} {v : Int32} (d : decode cc pc = .ok (.sipush n, 3)) (hv : (Int16.ofInt n).toInt32 = v) (hn : pc + 3 = nx) : zz_Ok (zz_G p l e R s m args below meth c D cl cA ad S nL rr) pc (zo_pushI v nx) := by
  intro K L st M r hK h hr H locs ls hS hP hL
  subst hn
  exact lv_sipush X.1 X.2.1 d hv (hK _ _ _ _ h hr H locs ls hS hP hL)

theorem zk_lconst (X : zz_Fx p l R s m args meth c cc nL own D cl cA ad S Ex ret rf rl rr) {n : Fin 2} {v : Int64} (d : decode cc pc = .ok (.lconst n, 1)) (hv : Int64.ofNat (n : Nat) = v) (hn : pc + 1 = nx) : zz_Ok (zz_G p l e R s m args below meth c D cl cA ad S nL rr) pc (zo_pushL v nx) := by
  intro K L st M r hK h hr H locs ls hS hP hL
  subst hn
  exact lv_lconst X.1 X.2.1 d hv (hK _ _ _ _ h hr H locs ls hS hP hL)

theorem zk_null (X : zz_Fx p l R s m args meth c cc nL own D cl cA ad S Ex ret rf rl rr) (d : decode cc pc = .ok (.aconst_null, 1)) (hn : pc + 1 = nx) : zz_Ok (zz_G p l e R s m args below meth c D cl cA ad S nL rr) pc (zo_null nx) := by
  intro K L st M r hK h hr H locs ls hS hP hL
  subst hn
  exact lv_null X.1 X.2.1 d (hK _ _ _ _ h hr H locs ls hS hP hL)

theorem zk_ldc2 (X : zz_Fx p l R s m args meth c cc nL own D cl cA ad S Ex ret rf rl rr) {index : Nat} {v : Int64} (hc : Cond.constantLong own index v ∈ zzG0) (d : decode cc pc = .ok (.ldc2_w index, 3)) (hn : pc + 3 = nx) : zz_Ok (zz_G p l e R s m args below meth c D cl cA ad S nL rr) pc (zo_pushL v nx) := by
  intro K L st M r hK h hr H locs ls hS hP hL
  subst hn
  exact lv_ldc2 X.1 X.2.1 X.2.2.2.1 (X.2.2.2.2.1 _ hc) d (hK _ _ _ _ h hr H locs ls hS hP hL)

theorem zk_iload_n (X : zz_Fx p l R s m args meth c cc nL own D cl cA ad S Ex ret rf rl rr) {k : Fin 4} {i : Nat} (d : decode cc pc = .ok (.iload_n k, 1)) (hi : (k : Nat) = i) (hn : pc + 1 = nx) : zz_Ok (zz_G p l e R s m args below meth c D cl cA ad S nL rr) pc (zo_iload i nx) := by
  intro K L st M r hK h hr H locs ls hS hP hL
  subst hn
  unfold zo_iload at h
  split at h
  · rename_i x hx
    exact lv_iload_n X.1 X.2.1 d hi (hL.2.2 _ _ hx) (hK _ _ _ _ h hr H locs ls hS hP hL)
  · cases h

theorem zk_iload (X : zz_Fx p l R s m args meth c cc nL own D cl cA ad S Ex ret rf rl rr) {i : Nat} (d : decode cc pc = .ok (.iload i, 2)) (hn : pc + 2 = nx) : zz_Ok (zz_G p l e R s m args below meth c D cl cA ad S nL rr) pc (zo_iload i nx) := by
  intro K L st M r hK h hr H locs ls hS hP hL
  subst hn
  unfold zo_iload at h
  split at h
  · rename_i x hx
    exact lv_iload X.1 X.2.1 d (hL.2.2 _ _ hx) (hK _ _ _ _ h hr H locs ls hS hP hL)
  · cases h

theorem zk_lload_n (X : zz_Fx p l R s m args meth c cc nL own D cl cA ad S Ex ret rf rl rr) {k : Fin 4} {i : Nat} (d : decode cc pc = .ok (.lload_n k, 1)) (hi : (k : Nat) = i) (hn : pc + 1 = nx) : zz_Ok (zz_G p l e R s m args below meth c D cl cA ad S nL rr) pc (zo_lload i nx) := by
  intro K L st M r hK h hr H locs ls hS hP hL
  subst hn
  unfold zo_lload at h
  split at h
  · rename_i x hx
    exact lv_lload_n X.1 X.2.1 d hi (hL.2.2 _ _ hx) (hK _ _ _ _ h hr H locs ls hS hP hL)
  · cases h

theorem zk_lload (X : zz_Fx p l R s m args meth c cc nL own D cl cA ad S Ex ret rf rl rr) {i : Nat} (d : decode cc pc = .ok (.lload i, 2)) (hn : pc + 2 = nx) : zz_Ok (zz_G p l e R s m args below meth c D cl cA ad S nL rr) pc (zo_lload i nx) := by
  intro K L st M r hK h hr H locs ls hS hP hL
  subst hn
  unfold zo_lload at h
  split at h
  · rename_i x hx
    exact lv_lload X.1 X.2.1 d (hL.2.2 _ _ hx) (hK _ _ _ _ h hr H locs ls hS hP hL)
  · cases h

theorem zk_aload_n (X : zz_Fx p l R s m args meth c cc nL own D cl cA ad S Ex ret rf rl rr) {k : Fin 4} {i : Nat} (d : decode cc pc = .ok (.aload_n k, 1)) (hi : (k : Nat) = i) (hn : pc + 1 = nx) : zz_Ok (zz_G p l e R s m args below meth c D cl cA ad S nL rr) pc (zo_aload i nx) := by
  intro K L st M r hK h hr H locs ls hS hP hL
  subst hn
  unfold zo_aload at h
  split at h
  · rename_i x hx
    exact lv_aload_n X.1 X.2.1 d hi (hL.2.2 _ _ hx) (hK _ _ _ _ h hr H locs ls hS hP hL)
  · rename_i hx
    exact lv_aload_nN X.1 X.2.1 d hi (hL.2.2 _ _ hx) (hK _ _ _ _ h hr H locs ls hS hP hL)
  · cases h

theorem zk_aload (X : zz_Fx p l R s m args meth c cc nL own D cl cA ad S Ex ret rf rl rr) {i : Nat} (d : decode cc pc = .ok (.aload i, 2)) (hn : pc + 2 = nx) : zz_Ok (zz_G p l e R s m args below meth c D cl cA ad S nL rr) pc (zo_aload i nx) := by
  intro K L st M r hK h hr H locs ls hS hP hL
  subst hn
  unfold zo_aload at h
  split at h
  · rename_i x hx
    exact lv_aload X.1 X.2.1 d (hL.2.2 _ _ hx) (hK _ _ _ _ h hr H locs ls hS hP hL)
  · rename_i hx
    exact lv_aloadN X.1 X.2.1 d (hL.2.2 _ _ hx) (hK _ _ _ _ h hr H locs ls hS hP hL)
  · cases h

theorem zk_istore_n (X : zz_Fx p l R s m args meth c cc nL own D cl cA ad S Ex ret rf rl rr) {k : Fin 4} {i : Nat} (d : decode cc pc = .ok (.istore_n k, 1)) (hi : (k : Nat) = i) (hl : i < nL) (hn : pc + 1 = nx) : zz_Ok (zz_G p l e R s m args below meth c D cl cA ad S nL rr) pc (zo_istore i nx) := by
  intro K L st M r hK h hr H locs ls hS hP hL
  subst hn
  unfold zo_istore at h
  split at h
  · exact lv_istore_n X.1 X.2.1 d hi (zz_L_has hL) hl rfl (fun ls' hL' => hK _ _ _ _ h hr H locs ls' hS hP (zz_L_set1 hL'))
  · cases h

theorem zk_istore (X : zz_Fx p l R s m args meth c cc nL own D cl cA ad S Ex ret rf rl rr) {i : Nat} (d : decode cc pc = .ok (.istore i, 2)) (hl : i < nL) (hn : pc + 2 = nx) : zz_Ok (zz_G p l e R s m args below meth c D cl cA ad S nL rr) pc (zo_istore i nx) := by
  intro K L st M r hK h hr H locs ls hS hP hL
  subst hn
  unfold zo_istore at h
  split at h
  · exact lv_istore X.1 X.2.1 d (zz_L_has hL) hl rfl (fun ls' hL' => hK _ _ _ _ h hr H locs ls' hS hP (zz_L_set1 hL'))
  · cases h

theorem zk_lstore_n (X : zz_Fx p l R s m args meth c cc nL own D cl cA ad S Ex ret rf rl rr) {k : Fin 4} {i : Nat} (d : decode cc pc = .ok (.lstore_n k, 1)) (hi : (k : Nat) = i) (hl : i + 1 < nL) (hn : pc + 1 = nx) : zz_Ok (zz_G p l e R s m args below meth c D cl cA ad S nL rr) pc (zo_lstore i nx) := by
  intro K L st M r hK h hr H locs ls hS hP hL
  subst hn
  unfold zo_lstore at h
  split at h
  · exact lv_lstore_n X.1 X.2.1 d hi (zz_L_has hL) hl rfl (fun ls' hL' => hK _ _ _ _ h hr H locs ls' hS hP (zz_L_set2 hL'))
  · cases h

theorem zk_lstore (X : zz_Fx p l R s m args meth c cc nL own D cl cA ad S Ex ret rf rl rr) {i : Nat} (d : decode cc pc = .ok (.lstore i, 2)) (hl : i + 1 < nL) (hn : pc + 2 = nx) : zz_Ok (zz_G p l e R s m args below meth c D cl cA ad S nL rr) pc (zo_lstore i nx) := by
  intro K L st M r hK h hr H locs ls hS hP hL
  subst hn
  unfold zo_lstore at h
  split at h
  · exact lv_lstore X.1 X.2.1 d (zz_L_has hL) hl rfl (fun ls' hL' => hK _ _ _ _ h hr H locs ls' hS hP (zz_L_set2 hL'))
  · cases h

theorem zk_astore_n (X : zz_Fx p l R s m args meth c cc nL own D cl cA ad S Ex ret rf rl rr) {k : Fin 4} {i : Nat} (d : decode cc pc = .ok (.astore_n k, 1)) (hi : (k : Nat) = i) (hl : i < nL) (hn : pc + 1 = nx) : zz_Ok (zz_G p l e R s m args below meth c D cl cA ad S nL rr) pc (zo_astore i nx) := by
  intro K L st M r hK h hr H locs ls hS hP hL
  subst hn
  unfold zo_astore at h
  split at h
  · rename_i x rr
    exact lv_astore_n X.1 X.2.1 d hi (zz_L_has hL) hl rfl (fun ls' hL' => hK _ _ _ _ h hr H locs ls' hS hP (zz_L_set1 (v := .ref x) hL'))
  · exact lv_astore_nN X.1 X.2.1 d hi (zz_L_has hL) hl rfl (fun ls' hL' => hK _ _ _ _ h hr H locs ls' hS hP (zz_L_set1 (v := .null) hL'))
  · cases h

theorem zk_astore (X : zz_Fx p l R s m args meth c cc nL own D cl cA ad S Ex ret rf rl rr) {i : Nat} (d : decode cc pc = .ok (.astore i, 2)) (hl : i < nL) (hn : pc + 2 = nx) : zz_Ok (zz_G p l e R s m args below meth c D cl cA ad S nL rr) pc (zo_astore i nx) := by
  intro K L st M r hK h hr H locs ls hS hP hL
  subst hn
  unfold zo_astore at h
  split at h
  · rename_i x rr
    exact lv_astore X.1 X.2.1 d (zz_L_has hL) hl rfl (fun ls' hL' => hK _ _ _ _ h hr H locs ls' hS hP (zz_L_set1 (v := .ref x) hL'))
  · exact lv_astoreN X.1 X.2.1 d (zz_L_has hL) hl rfl (fun ls' hL' => hK _ _ _ _ h hr H locs ls' hS hP (zz_L_set1 (v := .null) hL'))
  · cases h

theorem zk_iinc (X : zz_Fx p l R s m args meth c cc nL own D cl cA ad S Ex ret rf rl rr) {i : Nat} {n : Int} {v : Int32} (d : decode cc pc = .ok (.iinc i n, 3)) (hv : Int32.ofInt n = v) (hl : i < nL) (hn : pc + 3 = nx) : zz_Ok (zz_G p l e R s m args below meth c D cl cA ad S nL rr) pc (zo_iinc i v nx) := by
  intro K L st M r hK h hr H locs ls hS hP hL
  subst hn; subst hv
  unfold zo_iinc at h
  split at h
  · rename_i x hx
    obtain ⟨k, hk⟩ := List.getElem?_of_mem (zz_lv_mem (ad := ad) hx)
    exact lv_iinc X.1 X.2.1 d (zz_L_has hL) hk rfl hl rfl (fun ls' hL' => hK _ _ _ _ h hr H locs ls' hS hP (zz_L_set1 (v := .int _) hL'))
  · cases h

theorem zk_iadd (X : zz_Fx p l R s m args meth c cc nL own D cl cA ad S Ex ret rf rl rr) (d : decode cc pc = .ok (.iadd, 1)) (hn : pc + 1 = nx) : zz_Ok (zz_G p l e R s m args below meth c D cl cA ad S nL rr) pc (zo_ii (fun x y => x + y) nx) := by
  intro K L st M r hK h hr H locs ls hS hP hL
  subst hn
  unfold zo_ii at h
  split at h
  · exact lv_iadd X.1 X.2.1 d (hK _ _ _ _ h hr H locs ls hS hP hL)
  · cases h

theorem zk_isub (X : zz_Fx p l R s m args meth c cc nL own D cl cA ad S Ex ret rf rl rr) (d : decode cc pc = .ok (.isub, 1)) (hn : pc + 1 = nx) : zz_Ok (zz_G p l e R s m args below meth c D cl cA ad S nL rr) pc (zo_ii (fun x y => x - y) nx) := by
  intro K L st M r hK h hr H locs ls hS hP hL
  subst hn
  unfold zo_ii at h
  split at h
  · exact lv_isub X.1 X.2.1 d (hK _ _ _ _ h hr H locs ls hS hP hL)
  · cases h

theorem zk_imul (X : zz_Fx p l R s m args meth c cc nL own D cl cA ad S Ex ret rf rl rr) (d : decode cc pc = .ok (.imul, 1)) (hn : pc + 1 = nx) : zz_Ok (zz_G p l e R s m args below meth c D cl cA ad S nL rr) pc (zo_ii (fun x y => x * y) nx) := by
  intro K L st M r hK h hr H locs ls hS hP hL
  subst hn
  unfold zo_ii at h
  split at h
  · exact lv_imul X.1 X.2.1 d (hK _ _ _ _ h hr H locs ls hS hP hL)
  · cases h

theorem zk_iand (X : zz_Fx p l R s m args meth c cc nL own D cl cA ad S Ex ret rf rl rr) (d : decode cc pc = .ok (.iand, 1)) (hn : pc + 1 = nx) : zz_Ok (zz_G p l e R s m args below meth c D cl cA ad S nL rr) pc (zo_ii (fun x y => x &&& y) nx) := by
  intro K L st M r hK h hr H locs ls hS hP hL
  subst hn
  unfold zo_ii at h
  split at h
  · exact lv_iand X.1 X.2.1 d (hK _ _ _ _ h hr H locs ls hS hP hL)
  · cases h

theorem zk_ior (X : zz_Fx p l R s m args meth c cc nL own D cl cA ad S Ex ret rf rl rr) (d : decode cc pc = .ok (.ior, 1)) (hn : pc + 1 = nx) : zz_Ok (zz_G p l e R s m args below meth c D cl cA ad S nL rr) pc (zo_ii (fun x y => x ||| y) nx) := by
  intro K L st M r hK h hr H locs ls hS hP hL
  subst hn
  unfold zo_ii at h
  split at h
  · exact lv_ior X.1 X.2.1 d (hK _ _ _ _ h hr H locs ls hS hP hL)
  · cases h

theorem zk_ixor (X : zz_Fx p l R s m args meth c cc nL own D cl cA ad S Ex ret rf rl rr) (d : decode cc pc = .ok (.ixor, 1)) (hn : pc + 1 = nx) : zz_Ok (zz_G p l e R s m args below meth c D cl cA ad S nL rr) pc (zo_ii (fun x y => x ^^^ y) nx) := by
  intro K L st M r hK h hr H locs ls hS hP hL
  subst hn
  unfold zo_ii at h
  split at h
  · exact lv_ixor X.1 X.2.1 d (hK _ _ _ _ h hr H locs ls hS hP hL)
  · cases h

theorem zk_ishl (X : zz_Fx p l R s m args meth c cc nL own D cl cA ad S Ex ret rf rl rr) (d : decode cc pc = .ok (.ishl, 1)) (hn : pc + 1 = nx) : zz_Ok (zz_G p l e R s m args below meth c D cl cA ad S nL rr) pc (zo_ii (fun x y => x <<< (y &&& 31)) nx) := by
  intro K L st M r hK h hr H locs ls hS hP hL
  subst hn
  unfold zo_ii at h
  split at h
  · exact lv_ishl X.1 X.2.1 d (hK _ _ _ _ h hr H locs ls hS hP hL)
  · cases h

theorem zk_ishr (X : zz_Fx p l R s m args meth c cc nL own D cl cA ad S Ex ret rf rl rr) (d : decode cc pc = .ok (.ishr, 1)) (hn : pc + 1 = nx) : zz_Ok (zz_G p l e R s m args below meth c D cl cA ad S nL rr) pc (zo_ii (fun x y => x >>> (y &&& 31)) nx) := by
  intro K L st M r hK h hr H locs ls hS hP hL
  subst hn
  unfold zo_ii at h
  split at h
  · exact lv_ishr X.1 X.2.1 d (hK _ _ _ _ h hr H locs ls hS hP hL)
  · cases h

theorem zk_idiv (X : zz_Fx p l R s m args meth c cc nL own D cl cA ad S Ex ret rf rl rr) (d : decode cc pc = .ok (.idiv, 1)) (hn : pc + 1 = nx) : zz_Ok (zz_G p l e R s m args below meth c D cl cA ad S nL rr) pc (zo_iid (fun x y => x / y) nx) := by
  intro K L st M r hK h hr H locs ls hS hP hL
  subst hn
  unfold zo_iid at h
  split at h
  · split at h
    · cases h
    · rename_i hne
      exact lv_idiv X.1 X.2.1 d hne (hK _ _ _ _ h hr H locs ls hS hP hL)
  · cases h

theorem zk_irem (X : zz_Fx p l R s m args meth c cc nL own D cl cA ad S Ex ret rf rl rr) (d : decode cc pc = .ok (.irem, 1)) (hn : pc + 1 = nx) : zz_Ok (zz_G p l e R s m args below meth c D cl cA ad S nL rr) pc (zo_iid (fun x y => x - x / y * y) nx) := by
  intro K L st M r hK h hr H locs ls hS hP hL
  subst hn
  unfold zo_iid at h
  split at h
  · split at h
    · cases h
    · rename_i hne
      exact lv_irem X.1 X.2.1 d hne (hK _ _ _ _ h hr H locs ls hS hP hL)
  · cases h

theorem zk_lsub (X : zz_Fx p l R s m args meth c cc nL own D cl cA ad S Ex ret rf rl rr) (d : decode cc pc = .ok (.lsub, 1)) (hn : pc + 1 = nx) : zz_Ok (zz_G p l e R s m args below meth c D cl cA ad S nL rr) pc (zo_ll (fun x y => x - y) nx) := by
  intro K L st M r hK h hr H locs ls hS hP hL
  subst hn
  unfold zo_ll at h
  split at h
  · exact lv_lsub X.1 X.2.1 d (hK _ _ _ _ h hr H locs ls hS hP hL)
  · cases h

theorem zk_land (X : zz_Fx p l R s m args meth c cc nL own D cl cA ad S Ex ret rf rl rr) (d : decode cc pc = .ok (.land, 1)) (hn : pc + 1 = nx) : zz_Ok (zz_G p l e R s m args below meth c D cl cA ad S nL rr) pc (zo_ll (fun x y => x &&& y) nx) := by
  intro K L st M r hK h hr H locs ls hS hP hL
  subst hn
  unfold zo_ll at h
  split at h
  · exact lv_land X.1 X.2.1 d (hK _ _ _ _ h hr H locs ls hS hP hL)
  · cases h

theorem zk_lor (X : zz_Fx p l R s m args meth c cc nL own D cl cA ad S Ex ret rf rl rr) (d : decode cc pc = .ok (.lor, 1)) (hn : pc + 1 = nx) : zz_Ok (zz_G p l e R s m args below meth c D cl cA ad S nL rr) pc (zo_ll (fun x y => x ||| y) nx) := by
  intro K L st M r hK h hr H locs ls hS hP hL
  subst hn
  unfold zo_ll at h
  split at h
  · exact lv_lor X.1 X.2.1 d (hK _ _ _ _ h hr H locs ls hS hP hL)
  · cases h

theorem zk_lxor (X : zz_Fx p l R s m args meth c cc nL own D cl cA ad S Ex ret rf rl rr) (d : decode cc pc = .ok (.lxor, 1)) (hn : pc + 1 = nx) : zz_Ok (zz_G p l e R s m args below meth c D cl cA ad S nL rr) pc (zo_ll (fun x y => x ^^^ y) nx) := by
  intro K L st M r hK h hr H locs ls hS hP hL
  subst hn
  unfold zo_ll at h
  split at h
  · exact lv_lxor X.1 X.2.1 d (hK _ _ _ _ h hr H locs ls hS hP hL)
  · cases h

theorem zk_lshl (X : zz_Fx p l R s m args meth c cc nL own D cl cA ad S Ex ret rf rl rr) (d : decode cc pc = .ok (.lshl, 1)) (hn : pc + 1 = nx) : zz_Ok (zz_G p l e R s m args below meth c D cl cA ad S nL rr) pc (zo_li (fun x y => x <<< (y.toInt64 &&& 63)) nx) := by
  intro K L st M r hK h hr H locs ls hS hP hL
  subst hn
  unfold zo_li at h
  split at h
  · exact lv_lshl X.1 X.2.1 d rfl (hK _ _ _ _ h hr H locs ls hS hP hL)
  · cases h

theorem zk_lshr (X : zz_Fx p l R s m args meth c cc nL own D cl cA ad S Ex ret rf rl rr) (d : decode cc pc = .ok (.lshr, 1)) (hn : pc + 1 = nx) : zz_Ok (zz_G p l e R s m args below meth c D cl cA ad S nL rr) pc (zo_li (fun x y => x >>> (y.toInt64 &&& 63)) nx) := by
  intro K L st M r hK h hr H locs ls hS hP hL
  subst hn
  unfold zo_li at h
  split at h
  · exact lv_lshr X.1 X.2.1 d rfl (hK _ _ _ _ h hr H locs ls hS hP hL)
  · cases h

theorem zk_lcmp (X : zz_Fx p l R s m args meth c cc nL own D cl cA ad S Ex ret rf rl rr) (d : decode cc pc = .ok (.lcmp, 1)) (hn : pc + 1 = nx) : zz_Ok (zz_G p l e R s m args below meth c D cl cA ad S nL rr) pc (zo_lcmp nx) := by
  intro K L st M r hK h hr H locs ls hS hP hL
  subst hn
  unfold zo_lcmp at h
  split at h
  · exact W.lcmp X.1 X.2.1 d (hK _ _ _ _ h hr H locs ls hS hP hL)
  · cases h

theorem zk_i2l (X : zz_Fx p l R s m args meth c cc nL own D cl cA ad S Ex ret rf rl rr) (d : decode cc pc = .ok (.i2l, 1)) (hn : pc + 1 = nx) : zz_Ok (zz_G p l e R s m args below meth c D cl cA ad S nL rr) pc (zo_i2l nx) := by
  intro K L st M r hK h hr H locs ls hS hP hL
  subst hn
  unfold zo_i2l at h
  split at h
  · exact lv_i2l X.1 X.2.1 d rfl (hK _ _ _ _ h hr H locs ls hS hP hL)
  · cases h

theorem zk_l2i (X : zz_Fx p l R s m args meth c cc nL own D cl cA ad S Ex ret rf rl rr) (d : decode cc pc = .ok (.l2i, 1)) (hn : pc + 1 = nx) : zz_Ok (zz_G p l e R s m args below meth c D cl cA ad S nL rr) pc (zo_l2i nx) := by
  intro K L st M r hK h hr H locs ls hS hP hL
  subst hn
  unfold zo_l2i at h
  split at h
  · exact lv_l2i X.1 X.2.1 d rfl (hK _ _ _ _ h hr H locs ls hS hP hL)
  · cases h

theorem zk_dup (X : zz_Fx p l R s m args meth c cc nL own D cl cA ad S Ex ret rf rl rr) (d : decode cc pc = .ok (.dup, 1)) (hn : pc + 1 = nx) : zz_Ok (zz_G p l e R s m args below meth c D cl cA ad S nL rr) pc (zo_dup nx) := by
  intro K L st M r hK h hr H locs ls hS hP hL
  subst hn
  unfold zo_dup at h
  split at h
  · exact lv_dup X.1 X.2.1 d rfl (hK _ _ _ _ h hr H locs ls hS hP hL)
  · exact lv_dup X.1 X.2.1 d rfl (hK _ _ _ _ h hr H locs ls hS hP hL)
  · cases h

theorem zk_dup2 (X : zz_Fx p l R s m args meth c cc nL own D cl cA ad S Ex ret rf rl rr) (d : decode cc pc = .ok (.dup2, 1)) (hn : pc + 1 = nx) : zz_Ok (zz_G p l e R s m args below meth c D cl cA ad S nL rr) pc (zo_dup2 nx) := by
  intro K L st M r hK h hr H locs ls hS hP hL
  subst hn
  unfold zo_dup2 at h
  split at h
  · exact lv_dup2_11 X.1 X.2.1 d rfl rfl (hK _ _ _ _ h hr H locs ls hS hP hL)
  · cases h

theorem zk_pop (X : zz_Fx p l R s m args meth c cc nL own D cl cA ad S Ex ret rf rl rr) (d : decode cc pc = .ok (.pop, 1)) (hn : pc + 1 = nx) : zz_Ok (zz_G p l e R s m args below meth c D cl cA ad S nL rr) pc (zo_pop nx) := by
  intro K L st M r hK h hr H locs ls hS hP hL
  subst hn
  unfold zo_pop at h
  split at h
  · exact lv_pop X.1 X.2.1 d rfl (hK _ _ _ _ h hr H locs ls hS hP hL)
  · cases h

theorem zk_goto (X : zz_Fx p l R s m args meth c cc nL own D cl cA ad S Ex ret rf rl rr) {off : Int} (d : decode cc pc = .ok (.goto off, 3)) (ht : (pc : Int) + off = (nx : Int)) : zz_Ok (zz_G p l e R s m args below meth c D cl cA ad S nL rr) pc (zo_goto nx) := by
  intro K L st M r hK h hr H locs ls hS hP hL
  exact lv_goto X.1 X.2.1 d ht (hK _ _ _ _ h hr H locs ls hS hP hL)

theorem zk_if_eq (X : zz_Fx p l R s m args meth c cc nL own D cl cA ad S Ex ret rf rl rr) {off : Int} {t : Nat} (d : decode cc pc = .ok (.ifCond .eq off, 3)) (ht : (pc : Int) + off = (t : Int)) (hn : pc + 3 = nx) : zz_Ok (zz_G p l e R s m args below meth c D cl cA ad S nL rr) pc (zo_if (fun x => decide (x = 0)) t nx) := by
  intro K L st M r hK h hr H locs ls hS hP hL
  subst hn
  unfold zo_if at h
  split at h
  · rename_i x rr
    refine lv_if_eq X.1 X.2.1 d ht (fun q => ?_) (fun q => ?_)
    · dsimp only at h
      rw [decide_eq_true (show x = 0 from q)] at h
      exact hK _ _ _ _ h hr H locs ls hS hP hL
    · dsimp only at h
      rw [decide_eq_false (show ¬ (x = 0) from q)] at h
      exact hK _ _ _ _ h hr H locs ls hS hP hL
  · cases h

theorem zk_icmp_eq (X : zz_Fx p l R s m args meth c cc nL own D cl cA ad S Ex ret rf rl rr) {off : Int} {t : Nat} (d : decode cc pc = .ok (.if_icmp .eq off, 3)) (ht : (pc : Int) + off = (t : Int)) (hn : pc + 3 = nx) : zz_Ok (zz_G p l e R s m args below meth c D cl cA ad S nL rr) pc (zo_icmp (fun x y => decide (x = y)) t nx) := by
  intro K L st M r hK h hr H locs ls hS hP hL
  subst hn
  unfold zo_icmp at h
  split at h
  · rename_i y x rr
    refine lv_icmp_eq X.1 X.2.1 d ht (fun q => ?_) (fun q => ?_)
    · dsimp only at h
      rw [decide_eq_true (show x = y from q)] at h
      exact hK _ _ _ _ h hr H locs ls hS hP hL
    · dsimp only at h
      rw [decide_eq_false (show ¬ (x = y) from q)] at h
      exact hK _ _ _ _ h hr H locs ls hS hP hL
  · cases h

theorem zk_if_ne (X : zz_Fx p l R s m args meth c cc nL own D cl cA ad S Ex ret rf rl rr) {off : Int} {t : Nat} (d : decode cc pc = .ok (.ifCond .ne off, 3)) (ht : (pc : Int) + off = (t : Int)) (hn : pc + 3 = nx) : zz_Ok (zz_G p l e R s m args below meth c D cl cA ad S nL rr) pc (zo_if (fun x => decide (¬ x = 0)) t nx) := by
  intro K L st M r hK h hr H locs ls hS hP hL
  subst hn
  unfold zo_if at h
  split at h
  · rename_i x rr
    refine lv_if_ne X.1 X.2.1 d ht (fun q => ?_) (fun q => ?_)
    · dsimp only at h
      rw [decide_eq_true (show ¬ x = 0 from q)] at h
      exact hK _ _ _ _ h hr H locs ls hS hP hL
    · dsimp only at h
      rw [decide_eq_false (show ¬ (¬ x = 0) from fun z => z q)] at h
      exact hK _ _ _ _ h hr H locs ls hS hP hL
  · cases h

theorem zk_icmp_ne (X : zz_Fx p l R s m args meth c cc nL own D cl cA ad S Ex ret rf rl rr) {off : Int} {t : Nat} (d : decode cc pc = .ok (.if_icmp .ne off, 3)) (ht : (pc : Int) + off = (t : Int)) (hn : pc + 3 = nx) : zz_Ok (zz_G p l e R s m args below meth c D cl cA ad S nL rr) pc (zo_icmp (fun x y => decide (¬ x = y)) t nx) := by
  intro K L st M r hK h hr H locs ls hS hP hL
  subst hn
  unfold zo_icmp at h
  split at h
  · rename_i y x rr
    refine lv_icmp_ne X.1 X.2.1 d ht (fun q => ?_) (fun q => ?_)
    · dsimp only at h
      rw [decide_eq_true (show ¬ x = y from q)] at h
      exact hK _ _ _ _ h hr H locs ls hS hP hL
    · dsimp only at h
      rw [decide_eq_false (show ¬ (¬ x = y) from fun z => z q)] at h
      exact hK _ _ _ _ h hr H locs ls hS hP hL
  · cases h

theorem zk_if_lt (X : zz_Fx p l R s m args meth c cc nL own D cl cA ad S Ex ret rf rl rr) {off : Int} {t : Nat} (d : decode cc pc = .ok (.ifCond .lt off, 3)) (ht : (pc : Int) + off = (t : Int)) (hn : pc + 3 = nx) : zz_Ok (zz_G p l e R s m args below meth c D cl cA ad S nL rr) pc (zo_if (fun x => decide (x < 0)) t nx) := by
  intro K L st M r hK h hr H locs ls hS hP hL
  subst hn
  unfold zo_if at h
  split at h
  · rename_i x rr
    refine lv_if_lt X.1 X.2.1 d ht (fun q => ?_) (fun q => ?_)
    · dsimp only at h
      rw [decide_eq_true (show x < 0 from q)] at h
      exact hK _ _ _ _ h hr H locs ls hS hP hL
    · dsimp only at h
      rw [decide_eq_false (show ¬ (x < 0) from q)] at h
      exact hK _ _ _ _ h hr H locs ls hS hP hL
  · cases h

theorem zk_icmp_lt (X : zz_Fx p l R s m args meth c cc nL own D cl cA ad S Ex ret rf rl rr) {off : Int} {t : Nat} (d : decode cc pc = .ok (.if_icmp .lt off, 3)) (ht : (pc : Int) + off = (t : Int)) (hn : pc + 3 = nx) : zz_Ok (zz_G p l e R s m args below meth c D cl cA ad S nL rr) pc (zo_icmp (fun x y => decide (x < y)) t nx) := by
  intro K L st M r hK h hr H locs ls hS hP hL
  subst hn
  unfold zo_icmp at h
  split at h
  · rename_i y x rr
    refine lv_icmp_lt X.1 X.2.1 d ht (fun q => ?_) (fun q => ?_)
    · dsimp only at h
      rw [decide_eq_true (show x < y from q)] at h
      exact hK _ _ _ _ h hr H locs ls hS hP hL
    · dsimp only at h
      rw [decide_eq_false (show ¬ (x < y) from q)] at h
      exact hK _ _ _ _ h hr H locs ls hS hP hL
  · cases h

theorem zk_if_ge (X : zz_Fx p l R s m args meth c cc nL own D cl cA ad S Ex ret rf rl rr) {off : Int} {t : Nat} (d : decode cc pc = .ok (.ifCond .ge off, 3)) (ht : (pc : Int) + off = (t : Int)) (hn : pc + 3 = nx) : zz_Ok (zz_G p l e R s m args below meth c D cl cA ad S nL rr) pc (zo_if (fun x => decide (0 ≤ x)) t nx) := by
  intro K L st M r hK h hr H locs ls hS hP hL
  subst hn
  unfold zo_if at h
  split at h
  · rename_i x rr
    refine lv_if_ge X.1 X.2.1 d ht (fun q => ?_) (fun q => ?_)
    · dsimp only at h
      rw [decide_eq_true (show 0 ≤ x from q)] at h
      exact hK _ _ _ _ h hr H locs ls hS hP hL
    · dsimp only at h
      rw [decide_eq_false (show ¬ (0 ≤ x) from q)] at h
      exact hK _ _ _ _ h hr H locs ls hS hP hL
  · cases h

theorem zk_icmp_ge (X : zz_Fx p l R s m args meth c cc nL own D cl cA ad S Ex ret rf rl rr) {off : Int} {t : Nat} (d : decode cc pc = .ok (.if_icmp .ge off, 3)) (ht : (pc : Int) + off = (t : Int)) (hn : pc + 3 = nx) : zz_Ok (zz_G p l e R s m args below meth c D cl cA ad S nL rr) pc (zo_icmp (fun x y => decide (y ≤ x)) t nx) := by
  intro K L st M r hK h hr H locs ls hS hP hL
  subst hn
  unfold zo_icmp at h
  split at h
  · rename_i y x rr
    refine lv_icmp_ge X.1 X.2.1 d ht (fun q => ?_) (fun q => ?_)
    · dsimp only at h
      rw [decide_eq_true (show y ≤ x from q)] at h
      exact hK _ _ _ _ h hr H locs ls hS hP hL
    · dsimp only at h
      rw [decide_eq_false (show ¬ (y ≤ x) from q)] at h
      exact hK _ _ _ _ h hr H locs ls hS hP hL
  · cases h

theorem zk_if_gt (X : zz_Fx p l R s m args meth c cc nL own D cl cA ad S Ex ret rf rl rr) {off : Int} {t : Nat} (d : decode cc pc = .ok (.ifCond .gt off, 3)) (ht : (pc : Int) + off = (t : Int)) (hn : pc + 3 = nx) : zz_Ok (zz_G p l e R s m args below meth c D cl cA ad S nL rr) pc (zo_if (fun x => decide (0 < x)) t nx) := by
  intro K L st M r hK h hr H locs ls hS hP hL
  subst hn
  unfold zo_if at h
  split at h
  · rename_i x rr
    refine lv_if_gt X.1 X.2.1 d ht (fun q => ?_) (fun q => ?_)
    · dsimp only at h
      rw [decide_eq_true (show 0 < x from q)] at h
      exact hK _ _ _ _ h hr H locs ls hS hP hL
    · dsimp only at h
      rw [decide_eq_false (show ¬ (0 < x) from q)] at h
      exact hK _ _ _ _ h hr H locs ls hS hP hL
  · cases h

theorem zk_icmp_gt (X : zz_Fx p l R s m args meth c cc nL own D cl cA ad S Ex ret rf rl rr) {off : Int} {t : Nat} (d : decode cc pc = .ok (.if_icmp .gt off, 3)) (ht : (pc : Int) + off = (t : Int)) (hn : pc + 3 = nx) : zz_Ok (zz_G p l e R s m args below meth c D cl cA ad S nL rr) pc (zo_icmp (fun x y => decide (y < x)) t nx) := by
  intro K L st M r hK h hr H locs ls hS hP hL
  subst hn
  unfold zo_icmp at h
  split at h
  · rename_i y x rr
    refine lv_icmp_gt X.1 X.2.1 d ht (fun q => ?_) (fun q => ?_)
    · dsimp only at h
      rw [decide_eq_true (show y < x from q)] at h
      exact hK _ _ _ _ h hr H locs ls hS hP hL
    · dsimp only at h
      rw [decide_eq_false (show ¬ (y < x) from q)] at h
      exact hK _ _ _ _ h hr H locs ls hS hP hL
  · cases h

theorem zk_if_le (X : zz_Fx p l R s m args meth c cc nL own D cl cA ad S Ex ret rf rl rr) {off : Int} {t : Nat} (d : decode cc pc = .ok (.ifCond .le off, 3)) (ht : (pc : Int) + off = (t : Int)) (hn : pc + 3 = nx) : zz_Ok (zz_G p l e R s m args below meth c D cl cA ad S nL rr) pc (zo_if (fun x => decide (x ≤ 0)) t nx) := by
  intro K L st M r hK h hr H locs ls hS hP hL
  subst hn
  unfold zo_if at h
  split at h
  · rename_i x rr
    refine lv_if_le X.1 X.2.1 d ht (fun q => ?_) (fun q => ?_)
    · dsimp only at h
      rw [decide_eq_true (show x ≤ 0 from q)] at h
      exact hK _ _ _ _ h hr H locs ls hS hP hL
    · dsimp only at h
      rw [decide_eq_false (show ¬ (x ≤ 0) from q)] at h
      exact hK _ _ _ _ h hr H locs ls hS hP hL
  · cases h

theorem zk_icmp_le (X : zz_Fx p l R s m args meth c cc nL own D cl cA ad S Ex ret rf rl rr) {off : Int} {t : Nat} (d : decode cc pc = .ok (.if_icmp .le off, 3)) (ht : (pc : Int) + off = (t : Int)) (hn : pc + 3 = nx) : zz_Ok (zz_G p l e R s m args below meth c D cl cA ad S nL rr) pc (zo_icmp (fun x y => decide (x ≤ y)) t nx) := by
  intro K L st M r hK h hr H locs ls hS hP hL
  subst hn
  unfold zo_icmp at h
  split at h
  · rename_i y x rr
    refine lv_icmp_le X.1 X.2.1 d ht (fun q => ?_) (fun q => ?_)
    · dsimp only at h
      rw [decide_eq_true (show x ≤ y from q)] at h
      exact hK _ _ _ _ h hr H locs ls hS hP hL
    · dsimp only at h
      rw [decide_eq_false (show ¬ (x ≤ y) from q)] at h
      exact hK _ _ _ _ h hr H locs ls hS hP hL
  · cases h

theorem zk_ifnull (X : zz_Fx p l R s m args meth c cc nL own D cl cA ad S Ex ret rf rl rr) {off : Int} {t : Nat} (d : decode cc pc = .ok (.ifnull off, 3)) (ht : (pc : Int) + off = (t : Int)) (hn : pc + 3 = nx) : zz_Ok (zz_G p l e R s m args below meth c D cl cA ad S nL rr) pc (zo_ifnull t nx) := by
  intro K L st M r hK h hr H locs ls hS hP hL
  subst hn
  unfold zo_ifnull at h
  split at h
  · exact lv_ifnullN X.1 X.2.1 d ht (hK _ _ _ _ h hr H locs ls hS hP hL)
  · exact lv_ifnull X.1 X.2.1 d (hK _ _ _ _ h hr H locs ls hS hP hL)
  · cases h

theorem zk_ifnonnull (X : zz_Fx p l R s m args meth c cc nL own D cl cA ad S Ex ret rf rl rr) {off : Int} {t : Nat} (d : decode cc pc = .ok (.ifnonnull off, 3)) (ht : (pc : Int) + off = (t : Int)) (hn : pc + 3 = nx) : zz_Ok (zz_G p l e R s m args below meth c D cl cA ad S nL rr) pc (zo_ifnull nx t) := by
  intro K L st M r hK h hr H locs ls hS hP hL
  subst hn
  unfold zo_ifnull at h
  split at h
  · exact lv_ifnonnullN X.1 X.2.1 d (hK _ _ _ _ h hr H locs ls hS hP hL)
  · exact lv_ifnonnull X.1 X.2.1 d ht (hK _ _ _ _ h hr H locs ls hS hP hL)
  · cases h

end

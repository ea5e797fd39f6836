section
/-! the goal at a place, and what a step owes -/
def lz_Ok (G : lzRt → Nat → zzLc → List Value → lzMd → Prop) (pc : Nat) (o : lzOp) : Prop := ∀ (K : lzKt) L st M r, (∀ pc' L' st' M', K pc' L' st' M' = some r → G r pc' L' st' M') → o K L st M = some r → G r pc L st M
theorem lz_Ok_none (G : lzRt → Nat → zzLc → List Value → lzMd → Prop) (pc : Nat) : lz_Ok G pc lo_none := fun K L st M r _ h => by cases h
theorem lz_sim {G : lzRt → Nat → zzLc → List Value → lzMd → Prop} {T : List lzOp} (hT : ∀ pc, lz_Ok G pc (T.getD pc lo_none)) {pc : Nat} {L : zzLc} {st : List Value} {M : lzMd} {r : lzRt} (h : lz_ev T pc L st M = some r) : G r pc L st M := by
  obtain ⟨n, hn⟩ := lz_ev_run h
  clear h
  induction n generalizing pc L st M with
  | zero => cases hn
  | succ n ih => exact hT pc (lz_run T n) L st M r (fun pc' L' st' M' h' => ih h') hn
def lz_All (G : lzRt → Nat → zzLc → List Value → lzMd → Prop) : Nat → List lzOp → Prop
  | _, [] => True
  | k, o :: T => lz_Ok G k o ∧ lz_All G (k + 1) T
theorem lz_All_at {G : lzRt → Nat → zzLc → List Value → lzMd → Prop} : ∀ (T : List lzOp) (k j : Nat), lz_All G k T → lz_Ok G (k + j) (T.getD j lo_none)
  | [], k, j, _ => by simpa using lz_Ok_none G (k + j)
  | o :: T, k, 0, h => h.1
  | o :: T, k, j + 1, h => by
    have h1 := lz_All_at T (k + 1) j h.2
    have e : k + 1 + j = k + (j + 1) := by omega
    rw [e] at h1
    simpa using h1
theorem lz_All_pc {G : lzRt → Nat → zzLc → List Value → lzMd → Prop} {T : List lzOp} (h : lz_All G 0 T) (pc : Nat) : lz_Ok G pc (T.getD pc lo_none) := by
  have h1 := lz_All_at T 0 pc h
  rwa [Nat.zero_add] at h1
theorem lz_cons {G : lzRt → Nat → zzLc → List Value → lzMd → Prop} {k k' : Nat} {o : lzOp} {T : List lzOp} (hk : k + 1 = k') (h : lz_Ok G k o) (t : lz_All G k' T) : lz_All G k (o :: T) := by
  subst hk
  exact ⟨h, t⟩
def lz_P (D : va_G) (cl : List vw_C) (cA : Nat → ClassId) (ad : Nat → Nat) (S : List zzSh) (A : zzMd) (H : Heap) : Prop := ∃ M, nz M = A ∧ va_P D cl (zz_wl ad cA S M) H
def lz_Qn (D : va_G) (cl : List vw_C) (cA : Nat → ClassId) (ad : Nat → Nat) (S : List zzSh) (sz : Nat) (v : Option Value) (A : zzMd) : Array Value → State → Outcome → State → Prop := fun _ st oc t => oc = .returned (v.map (zz_cv ad)) ∧ lz_P D cl cA ad S A t.heap ∧ va_F (zz_A ad S sz) st t
def lz_WB (D : va_G) (cl : List vw_C) (cA : Nat → ClassId) (ad : Nat → Nat) (S : List zzSh) (Ex : (Nat → Prop) → State → Heap → Prop) (sz : Nat) (A : zzMd) (U : State) : Prop := U.heap.size = sz ∧ lz_P D cl cA ad S A U.heap ∧ va_K D cl (zz_tys cA) U ∧ Ex (zz_A ad S sz) U U.heap
/-- CONTRACT of a method of the law's -/
def lz_C (l : Launch) (D : va_G) (cl : List vw_C) (cA : Nat → ClassId) (ad : Nat → Nat) (S : List zzSh) (Ex : (Nat → Prop) → State → Heap → Prop) (y : MethodName) (w0 : Cond) (rfc rlc mc : Nat) (f : lzFn) : Prop :=
  ∀ (sz : Nat) (As : List Value) (A : zzMd) (v : Option Value) (A' : zzMd), f As A = some (v, A') → Met l y (w0 :: zzG0) { frames := rfc, cells := mc, slots := 6 * mc, locals := rlc } (va_Pc (As.map (zz_cv ad)) (lz_WB D cl cA ad S Ex sz A)) (lz_Qn D cl cA ad S sz v A') mc (6 * mc) (zz_A ad S sz)
variable {p : Program} {l : Launch} {e : Env} {R : Room} {s : State} {m : MethodId} {args : Array Value} {below : List Frame} {meth : Method} {c : Code} {cc : ByteArray} {nL : Nat} {own : String}
variable {D : va_G} {cl : List vw_C} {cA : Nat → ClassId} {ad : Nat → Nat} {S : List zzSh} {Ex : (Nat → Prop) → State → Heap → Prop} {ret : Option FieldType} {rf rl mc : Nat} {rr : lzRt} {pc nx : Nat}
def lz_G (p : Program) (l : Launch) (e : Env) (R : Room) (s : State) (m : MethodId) (args : Array Value) (below : List Frame) (meth : Method) (c : Code) (D : va_G) (cl : List vw_C) (cA : Nat → ClassId) (ad : Nat → Nat) (S : List zzSh) (nL mc : Nat) (rr : lzRt) : lzRt → Nat → zzLc → List Value → lzMd → Prop :=
  fun r pc L st M => r = rr → ∀ (H : Heap) (locs : List Loc) (ls : Array Slot), va_S (zz_A ad S s.heap.size) s.heap H locs → lz_P D cl cA ad S M.1 H → zz_L ad ls nL L → W p l e R s m args below meth c H locs M.2 (6 * M.2) (MQ below (lz_Qn D cl cA ad S s.heap.size rr.1 rr.2.1) args s mc (6 * mc) (zz_A ad S s.heap.size)) (F0 m pc ls (st.map (zz_cv ad)))
def lz_Fx (p : Program) (l : Launch) (R : Room) (s : State) (m : MethodId) (args : Array Value) (meth : Method) (c : Code) (cc : ByteArray) (nL : Nat) (own : String) (D : va_G) (cl : List vw_C) (cA : Nat → ClassId) (ad : Nat → Nat) (S : List zzSh) (Ex : (Nat → Prop) → State → Heap → Prop) (ret : Option FieldType) (rf rl mc : Nat) : Prop :=
  p.tables.exec = Jvm.exec ∧ c.code = cc ∧ c.maxLocals = nL ∧ s.vm.findClass own = some m.cls ∧ (∀ w ∈ zzG0, w.before args s = true) ∧ va_K D cl (zz_tys cA) s ∧ (∀ i j, i < S.length → j < S.length → ad i = ad j → i = j) ∧ zz_ExOk Ex ∧ Ex (zz_A ad S s.heap.size) s s.heap ∧ meth.sig.returnType = ret ∧ meth.locks = false ∧ R.frames = rf ∧ R.locals = rl ∧ mc ≤ R.cells ∧ 6 * mc ≤ R.slots
theorem lk_iconst (X : lz_Fx p l R s m args meth c cc nL own D cl cA ad S Ex ret rf rl mc) {n : Int} {v : Int32} (d : decode cc pc = .ok (.iconst n, 1)) (hv : Int32.ofInt n = v) (hn : pc + 1 = nx) : lz_Ok (lz_G p l e R s m args below meth c D cl cA ad S nL mc rr) pc (lo_pushI v nx) := by
  intro K L st M r hK h hr H locs ls hS hP hL
  subst hn
  exact lv_iconst X.1 X.2.1 d hv (hK _ _ _ _ h hr H locs ls hS hP hL)
theorem lk_bipush (X : lz_Fx p l R s m args meth c cc nL own D cl cA ad S Ex ret rf rl mc) {n : Int} {v : Int32} (d : decode cc pc = .ok (.bipush n, 2)) (hv : (Int8.ofInt n).toInt32 = v) (hn : pc + 2 = nx) : lz_Ok (lz_G p l e R s m args below meth c D cl cA ad S nL mc rr) pc (lo_pushI v nx) := by
  intro K L st M r hK h hr H locs ls hS hP hL
  subst hn
  exact lv_bipush X.1 X.2.1 d hv (hK _ _ _ _ h hr H locs ls hS hP hL)
theorem lk_sipush (X : lz_Fx p l R s m args meth c cc nL own D cl cA ad S Ex ret rf rl mc) {n : Int} {v : Int32} (d : decode cc pc = .ok (.sipush n, 3)) (hv : (Int16.ofInt n).toInt32 = v) (hn : pc + 3 = nx) : lz_Ok (lz_G p l e R s m args below meth c D cl cA ad S nL mc rr) pc (lo_pushI v nx) := by
  intro K L st M r hK h hr H locs ls hS hP hL
  subst hn
  exact lv_sipush X.1 X.2.1 d hv (hK _ _ _ _ h hr H locs ls hS hP hL)
theorem lk_lconst (X : lz_Fx p l R s m args meth c cc nL own D cl cA ad S Ex ret rf rl mc) {n : Fin 2} {v : Int64} (d : decode cc pc = .ok (.lconst n, 1)) (hv : Int64.ofNat (n : Nat) = v) (hn : pc + 1 = nx) : lz_Ok (lz_G p l e R s m args below meth c D cl cA ad S nL mc rr) pc (lo_pushL v nx) := by
  intro K L st M r hK h hr H locs ls hS hP hL
  subst hn
  exact lv_lconst X.1 X.2.1 d hv (hK _ _ _ _ h hr H locs ls hS hP hL)
theorem lk_ldc2 (X : lz_Fx p l R s m args meth c cc nL own D cl cA ad S Ex ret rf rl mc) {index : Nat} {v : Int64} (hc : Cond.constantLong own index v ∈ zzG0) (d : decode cc pc = .ok (.ldc2_w index, 3)) (hn : pc + 3 = nx) : lz_Ok (lz_G p l e R s m args below meth c D cl cA ad S nL mc rr) pc (lo_pushL v nx) := by
  intro K L st M r hK h hr H locs ls hS hP hL
  subst hn
  exact lv_ldc2 X.1 X.2.1 X.2.2.2.1 (X.2.2.2.2.1 _ hc) d (hK _ _ _ _ h hr H locs ls hS hP hL)
theorem lk_iload_n (X : lz_Fx p l R s m args meth c cc nL own D cl cA ad S Ex ret rf rl mc) {k : Fin 4} {i : Nat} (d : decode cc pc = .ok (.iload_n k, 1)) (hi : (k : Nat) = i) (hn : pc + 1 = nx) : lz_Ok (lz_G p l e R s m args below meth c D cl cA ad S nL mc rr) pc (lo_iload i nx) := by
  intro K L st M r hK h hr H locs ls hS hP hL
  subst hn
  unfold lo_iload at h
  split at h
  · rename_i x hx
    exact lv_iload_n X.1 X.2.1 d hi (hL.2.2 _ _ hx) (hK _ _ _ _ h hr H locs ls hS hP hL)
  · cases h
theorem lk_iload (X : lz_Fx p l R s m args meth c cc nL own D cl cA ad S Ex ret rf rl mc) {i : Nat} (d : decode cc pc = .ok (.iload i, 2)) (hn : pc + 2 = nx) : lz_Ok (lz_G p l e R s m args below meth c D cl cA ad S nL mc rr) pc (lo_iload i nx) := by
  intro K L st M r hK h hr H locs ls hS hP hL
  subst hn
  unfold lo_iload at h
  split at h
  · rename_i x hx
    exact lv_iload X.1 X.2.1 d (hL.2.2 _ _ hx) (hK _ _ _ _ h hr H locs ls hS hP hL)
  · cases h
theorem lk_lload_n (X : lz_Fx p l R s m args meth c cc nL own D cl cA ad S Ex ret rf rl mc) {k : Fin 4} {i : Nat} (d : decode cc pc = .ok (.lload_n k, 1)) (hi : (k : Nat) = i) (hn : pc + 1 = nx) : lz_Ok (lz_G p l e R s m args below meth c D cl cA ad S nL mc rr) pc (lo_lload i nx) := by
  intro K L st M r hK h hr H locs ls hS hP hL
  subst hn
  unfold lo_lload at h
  split at h
  · rename_i x hx
    exact lv_lload_n X.1 X.2.1 d hi (hL.2.2 _ _ hx) (hK _ _ _ _ h hr H locs ls hS hP hL)
  · cases h
theorem lk_lload (X : lz_Fx p l R s m args meth c cc nL own D cl cA ad S Ex ret rf rl mc) {i : Nat} (d : decode cc pc = .ok (.lload i, 2)) (hn : pc + 2 = nx) : lz_Ok (lz_G p l e R s m args below meth c D cl cA ad S nL mc rr) pc (lo_lload i nx) := by
  intro K L st M r hK h hr H locs ls hS hP hL
  subst hn
  unfold lo_lload at h
  split at h
  · rename_i x hx
    exact lv_lload X.1 X.2.1 d (hL.2.2 _ _ hx) (hK _ _ _ _ h hr H locs ls hS hP hL)
  · cases h
theorem lk_aload_n (X : lz_Fx p l R s m args meth c cc nL own D cl cA ad S Ex ret rf rl mc) {k : Fin 4} {i : Nat} (d : decode cc pc = .ok (.aload_n k, 1)) (hi : (k : Nat) = i) (hn : pc + 1 = nx) : lz_Ok (lz_G p l e R s m args below meth c D cl cA ad S nL mc rr) pc (lo_aload i nx) := by
  intro K L st M r hK h hr H locs ls hS hP hL
  subst hn
  unfold lo_aload at h
  split at h
  · rename_i x hx
    exact lv_aload_n X.1 X.2.1 d hi (hL.2.2 _ _ hx) (hK _ _ _ _ h hr H locs ls hS hP hL)
  · rename_i hx
    exact lv_aload_nN X.1 X.2.1 d hi (hL.2.2 _ _ hx) (hK _ _ _ _ h hr H locs ls hS hP hL)
  · cases h
theorem lk_aload (X : lz_Fx p l R s m args meth c cc nL own D cl cA ad S Ex ret rf rl mc) {i : Nat} (d : decode cc pc = .ok (.aload i, 2)) (hn : pc + 2 = nx) : lz_Ok (lz_G p l e R s m args below meth c D cl cA ad S nL mc rr) pc (lo_aload i nx) := by
  intro K L st M r hK h hr H locs ls hS hP hL
  subst hn
  unfold lo_aload at h
  split at h
  · rename_i x hx
    exact lv_aload X.1 X.2.1 d (hL.2.2 _ _ hx) (hK _ _ _ _ h hr H locs ls hS hP hL)
  · rename_i hx
    exact lv_aloadN X.1 X.2.1 d (hL.2.2 _ _ hx) (hK _ _ _ _ h hr H locs ls hS hP hL)
  · cases h
theorem lk_istore_n (X : lz_Fx p l R s m args meth c cc nL own D cl cA ad S Ex ret rf rl mc) {k : Fin 4} {i : Nat} (d : decode cc pc = .ok (.istore_n k, 1)) (hi : (k : Nat) = i) (hl : i < nL) (hn : pc + 1 = nx) : lz_Ok (lz_G p l e R s m args below meth c D cl cA ad S nL mc rr) pc (lo_istore i nx) := by
  intro K L st M r hK h hr H locs ls hS hP hL
  subst hn
  unfold lo_istore at h
  split at h
  · exact lv_istore_n X.1 X.2.1 d hi (zz_L_has hL) hl rfl (fun ls' hL' => hK _ _ _ _ h hr H locs ls' hS hP (zz_L_set1 hL'))
  · cases h
theorem lk_istore (X : lz_Fx p l R s m args meth c cc nL own D cl cA ad S Ex ret rf rl mc) {i : Nat} (d : decode cc pc = .ok (.istore i, 2)) (hl : i < nL) (hn : pc + 2 = nx) : lz_Ok (lz_G p l e R s m args below meth c D cl cA ad S nL mc rr) pc (lo_istore i nx) := by
  intro K L st M r hK h hr H locs ls hS hP hL
  subst hn
  unfold lo_istore at h
  split at h
  · exact lv_istore X.1 X.2.1 d (zz_L_has hL) hl rfl (fun ls' hL' => hK _ _ _ _ h hr H locs ls' hS hP (zz_L_set1 hL'))
  · cases h
theorem lk_lstore_n (X : lz_Fx p l R s m args meth c cc nL own D cl cA ad S Ex ret rf rl mc) {k : Fin 4} {i : Nat} (d : decode cc pc = .ok (.lstore_n k, 1)) (hi : (k : Nat) = i) (hl : i + 1 < nL) (hn : pc + 1 = nx) : lz_Ok (lz_G p l e R s m args below meth c D cl cA ad S nL mc rr) pc (lo_lstore i nx) := by
  intro K L st M r hK h hr H locs ls hS hP hL
  subst hn
  unfold lo_lstore at h
  split at h
  · exact lv_lstore_n X.1 X.2.1 d hi (zz_L_has hL) hl rfl (fun ls' hL' => hK _ _ _ _ h hr H locs ls' hS hP (zz_L_set2 hL'))
  · cases h
theorem lk_lstore (X : lz_Fx p l R s m args meth c cc nL own D cl cA ad S Ex ret rf rl mc) {i : Nat} (d : decode cc pc = .ok (.lstore i, 2)) (hl : i + 1 < nL) (hn : pc + 2 = nx) : lz_Ok (lz_G p l e R s m args below meth c D cl cA ad S nL mc rr) pc (lo_lstore i nx) := by
  intro K L st M r hK h hr H locs ls hS hP hL
  subst hn
  unfold lo_lstore at h
  split at h
  · exact lv_lstore X.1 X.2.1 d (zz_L_has hL) hl rfl (fun ls' hL' => hK _ _ _ _ h hr H locs ls' hS hP (zz_L_set2 hL'))
  · cases h
theorem lk_iinc (X : lz_Fx p l R s m args meth c cc nL own D cl cA ad S Ex ret rf rl mc) {i : Nat} {n : Int} {v : Int32} (d : decode cc pc = .ok (.iinc i n, 3)) (hv : Int32.ofInt n = v) (hl : i < nL) (hn : pc + 3 = nx) : lz_Ok (lz_G p l e R s m args below meth c D cl cA ad S nL mc rr) pc (lo_iinc i v nx) := by
  intro K L st M r hK h hr H locs ls hS hP hL
  subst hn; subst hv
  unfold lo_iinc at h
  split at h
  · rename_i x hx
    obtain ⟨k, hk⟩ := List.getElem?_of_mem (zz_lv_mem (ad := ad) hx)
    exact lv_iinc X.1 X.2.1 d (zz_L_has hL) hk rfl hl rfl (fun ls' hL' => hK _ _ _ _ h hr H locs ls' hS hP (zz_L_set1 (v := .int _) hL'))
  · cases h
theorem lk_iadd (X : lz_Fx p l R s m args meth c cc nL own D cl cA ad S Ex ret rf rl mc) (d : decode cc pc = .ok (.iadd, 1)) (hn : pc + 1 = nx) : lz_Ok (lz_G p l e R s m args below meth c D cl cA ad S nL mc rr) pc (lo_ii (fun x y => x + y) nx) := by
  intro K L st M r hK h hr H locs ls hS hP hL
  subst hn
  unfold lo_ii at h
  split at h
  · exact lv_iadd X.1 X.2.1 d (hK _ _ _ _ h hr H locs ls hS hP hL)
  · cases h
theorem lk_isub (X : lz_Fx p l R s m args meth c cc nL own D cl cA ad S Ex ret rf rl mc) (d : decode cc pc = .ok (.isub, 1)) (hn : pc + 1 = nx) : lz_Ok (lz_G p l e R s m args below meth c D cl cA ad S nL mc rr) pc (lo_ii (fun x y => x - y) nx) := by
  intro K L st M r hK h hr H locs ls hS hP hL
  subst hn
  unfold lo_ii at h
  split at h
  · exact lv_isub X.1 X.2.1 d (hK _ _ _ _ h hr H locs ls hS hP hL)
  · cases h
theorem lk_imul (X : lz_Fx p l R s m args meth c cc nL own D cl cA ad S Ex ret rf rl mc) (d : decode cc pc = .ok (.imul, 1)) (hn : pc + 1 = nx) : lz_Ok (lz_G p l e R s m args below meth c D cl cA ad S nL mc rr) pc (lo_ii (fun x y => x * y) nx) := by
  intro K L st M r hK h hr H locs ls hS hP hL
  subst hn
  unfold lo_ii at h
  split at h
  · exact lv_imul X.1 X.2.1 d (hK _ _ _ _ h hr H locs ls hS hP hL)
  · cases h
theorem lk_iand (X : lz_Fx p l R s m args meth c cc nL own D cl cA ad S Ex ret rf rl mc) (d : decode cc pc = .ok (.iand, 1)) (hn : pc + 1 = nx) : lz_Ok (lz_G p l e R s m args below meth c D cl cA ad S nL mc rr) pc (lo_ii (fun x y => x &&& y) nx) := by
  intro K L st M r hK h hr H locs ls hS hP hL
  subst hn
  unfold lo_ii at h
  split at h
  · exact lv_iand X.1 X.2.1 d (hK _ _ _ _ h hr H locs ls hS hP hL)
  · cases h
theorem lk_ior (X : lz_Fx p l R s m args meth c cc nL own D cl cA ad S Ex ret rf rl mc) (d : decode cc pc = .ok (.ior, 1)) (hn : pc + 1 = nx) : lz_Ok (lz_G p l e R s m args below meth c D cl cA ad S nL mc rr) pc (lo_ii (fun x y => x ||| y) nx) := by
  intro K L st M r hK h hr H locs ls hS hP hL
  subst hn
  unfold lo_ii at h
  split at h
  · exact lv_ior X.1 X.2.1 d (hK _ _ _ _ h hr H locs ls hS hP hL)
  · cases h
theorem lk_ishl (X : lz_Fx p l R s m args meth c cc nL own D cl cA ad S Ex ret rf rl mc) (d : decode cc pc = .ok (.ishl, 1)) (hn : pc + 1 = nx) : lz_Ok (lz_G p l e R s m args below meth c D cl cA ad S nL mc rr) pc (lo_ii (fun x y => x <<< (y &&& 31)) nx) := by
  intro K L st M r hK h hr H locs ls hS hP hL
  subst hn
  unfold lo_ii at h
  split at h
  · exact lv_ishl X.1 X.2.1 d (hK _ _ _ _ h hr H locs ls hS hP hL)
  · cases h
theorem lk_ishr (X : lz_Fx p l R s m args meth c cc nL own D cl cA ad S Ex ret rf rl mc) (d : decode cc pc = .ok (.ishr, 1)) (hn : pc + 1 = nx) : lz_Ok (lz_G p l e R s m args below meth c D cl cA ad S nL mc rr) pc (lo_ii (fun x y => x >>> (y &&& 31)) nx) := by
  intro K L st M r hK h hr H locs ls hS hP hL
  subst hn
  unfold lo_ii at h
  split at h
  · exact lv_ishr X.1 X.2.1 d (hK _ _ _ _ h hr H locs ls hS hP hL)
  · cases h
theorem lk_idiv (X : lz_Fx p l R s m args meth c cc nL own D cl cA ad S Ex ret rf rl mc) (d : decode cc pc = .ok (.idiv, 1)) (hn : pc + 1 = nx) : lz_Ok (lz_G p l e R s m args below meth c D cl cA ad S nL mc rr) pc (lo_iid (fun x y => x / y) nx) := by
  intro K L st M r hK h hr H locs ls hS hP hL
  subst hn
  unfold lo_iid at h
  split at h
  · split at h
    · cases h
    · rename_i hne
      exact lv_idiv X.1 X.2.1 d hne (hK _ _ _ _ h hr H locs ls hS hP hL)
  · cases h
theorem lk_irem (X : lz_Fx p l R s m args meth c cc nL own D cl cA ad S Ex ret rf rl mc) (d : decode cc pc = .ok (.irem, 1)) (hn : pc + 1 = nx) : lz_Ok (lz_G p l e R s m args below meth c D cl cA ad S nL mc rr) pc (lo_iid (fun x y => x - x / y * y) nx) := by
  intro K L st M r hK h hr H locs ls hS hP hL
  subst hn
  unfold lo_iid at h
  split at h
  · split at h
    · cases h
    · rename_i hne
      exact lv_irem X.1 X.2.1 d hne (hK _ _ _ _ h hr H locs ls hS hP hL)
  · cases h
theorem lk_lsub (X : lz_Fx p l R s m args meth c cc nL own D cl cA ad S Ex ret rf rl mc) (d : decode cc pc = .ok (.lsub, 1)) (hn : pc + 1 = nx) : lz_Ok (lz_G p l e R s m args below meth c D cl cA ad S nL mc rr) pc (lo_ll (fun x y => x - y) nx) := by
  intro K L st M r hK h hr H locs ls hS hP hL
  subst hn
  unfold lo_ll at h
  split at h
  · exact lv_lsub X.1 X.2.1 d (hK _ _ _ _ h hr H locs ls hS hP hL)
  · cases h
theorem lk_land (X : lz_Fx p l R s m args meth c cc nL own D cl cA ad S Ex ret rf rl mc) (d : decode cc pc = .ok (.land, 1)) (hn : pc + 1 = nx) : lz_Ok (lz_G p l e R s m args below meth c D cl cA ad S nL mc rr) pc (lo_ll (fun x y => x &&& y) nx) := by
  intro K L st M r hK h hr H locs ls hS hP hL
  subst hn
  unfold lo_ll at h
  split at h
  · exact lv_land X.1 X.2.1 d (hK _ _ _ _ h hr H locs ls hS hP hL)
  · cases h
theorem lk_lor (X : lz_Fx p l R s m args meth c cc nL own D cl cA ad S Ex ret rf rl mc) (d : decode cc pc = .ok (.lor, 1)) (hn : pc + 1 = nx) : lz_Ok (lz_G p l e R s m args below meth c D cl cA ad S nL mc rr) pc (lo_ll (fun x y => x ||| y) nx) := by
  intro K L st M r hK h hr H locs ls hS hP hL
  subst hn
  unfold lo_ll at h
  split at h
  · exact lv_lor X.1 X.2.1 d (hK _ _ _ _ h hr H locs ls hS hP hL)
  · cases h
theorem lk_lshl (X : lz_Fx p l R s m args meth c cc nL own D cl cA ad S Ex ret rf rl mc) (d : decode cc pc = .ok (.lshl, 1)) (hn : pc + 1 = nx) : lz_Ok (lz_G p l e R s m args below meth c D cl cA ad S nL mc rr) pc (lo_li (fun x y => x <<< (y.toInt64 &&& 63)) nx) := by
  intro K L st M r hK h hr H locs ls hS hP hL
  subst hn
  unfold lo_li at h
  split at h
  · exact lv_lshl X.1 X.2.1 d rfl (hK _ _ _ _ h hr H locs ls hS hP hL)
  · cases h
theorem lk_lshr (X : lz_Fx p l R s m args meth c cc nL own D cl cA ad S Ex ret rf rl mc) (d : decode cc pc = .ok (.lshr, 1)) (hn : pc + 1 = nx) : lz_Ok (lz_G p l e R s m args below meth c D cl cA ad S nL mc rr) pc (lo_li (fun x y => x >>> (y.toInt64 &&& 63)) nx) := by
  intro K L st M r hK h hr H locs ls hS hP hL
  subst hn
  unfold lo_li at h
  split at h
  · exact lv_lshr X.1 X.2.1 d rfl (hK _ _ _ _ h hr H locs ls hS hP hL)
  · cases h
theorem lk_lcmp (X : lz_Fx p l R s m args meth c cc nL own D cl cA ad S Ex ret rf rl mc) (d : decode cc pc = .ok (.lcmp, 1)) (hn : pc + 1 = nx) : lz_Ok (lz_G p l e R s m args below meth c D cl cA ad S nL mc rr) pc (lo_lcmp nx) := by
  intro K L st M r hK h hr H locs ls hS hP hL
  subst hn
  unfold lo_lcmp at h
  split at h
  · exact W.lcmp X.1 X.2.1 d (hK _ _ _ _ h hr H locs ls hS hP hL)
  · cases h
theorem lk_i2l (X : lz_Fx p l R s m args meth c cc nL own D cl cA ad S Ex ret rf rl mc) (d : decode cc pc = .ok (.i2l, 1)) (hn : pc + 1 = nx) : lz_Ok (lz_G p l e R s m args below meth c D cl cA ad S nL mc rr) pc (lo_i2l nx) := by
  intro K L st M r hK h hr H locs ls hS hP hL
  subst hn
  unfold lo_i2l at h
  split at h
  · exact lv_i2l X.1 X.2.1 d rfl (hK _ _ _ _ h hr H locs ls hS hP hL)
  · cases h
theorem lk_dup2 (X : lz_Fx p l R s m args meth c cc nL own D cl cA ad S Ex ret rf rl mc) (d : decode cc pc = .ok (.dup2, 1)) (hn : pc + 1 = nx) : lz_Ok (lz_G p l e R s m args below meth c D cl cA ad S nL mc rr) pc (lo_dup2 nx) := by
  intro K L st M r hK h hr H locs ls hS hP hL
  subst hn
  unfold lo_dup2 at h
  split at h
  · exact lv_dup2_11 X.1 X.2.1 d rfl rfl (hK _ _ _ _ h hr H locs ls hS hP hL)
  · cases h
theorem lk_goto (X : lz_Fx p l R s m args meth c cc nL own D cl cA ad S Ex ret rf rl mc) {off : Int} (d : decode cc pc = .ok (.goto off, 3)) (ht : (pc : Int) + off = (nx : Int)) : lz_Ok (lz_G p l e R s m args below meth c D cl cA ad S nL mc rr) pc (lo_goto nx) := by
  intro K L st M r hK h hr H locs ls hS hP hL
  exact lv_goto X.1 X.2.1 d ht (hK _ _ _ _ h hr H locs ls hS hP hL)
theorem lk_if_eq (X : lz_Fx p l R s m args meth c cc nL own D cl cA ad S Ex ret rf rl mc) {off : Int} {t : Nat} (d : decode cc pc = .ok (.ifCond .eq off, 3)) (ht : (pc : Int) + off = (t : Int)) (hn : pc + 3 = nx) : lz_Ok (lz_G p l e R s m args below meth c D cl cA ad S nL mc rr) pc (lo_if (fun x => decide (x = 0)) t nx) := by
  intro K L st M r hK h hr H locs ls hS hP hL
  subst hn
  unfold lo_if at h
  split at h
  · rename_i x rr
    refine lv_if_eq X.1 X.2.1 d ht (fun q => ?_) (fun q => ?_)
    · dsimp only at h
      rw [decide_eq_true (show x = 0 from q)] at h
      exact hK _ _ _ _ h hr H locs ls hS hP hL
    · dsimp only at h
      rw [decide_eq_false (show ¬ (x = 0) from q)] at h
      exact hK _ _ _ _ h hr H locs ls hS hP hL
  · cases h
theorem lk_icmp_eq (X : lz_Fx p l R s m args meth c cc nL own D cl cA ad S Ex ret rf rl mc) {off : Int} {t : Nat} (d : decode cc pc = .ok (.if_icmp .eq off, 3)) (ht : (pc : Int) + off = (t : Int)) (hn : pc + 3 = nx) : lz_Ok (lz_G p l e R s m args below meth c D cl cA ad S nL mc rr) pc (lo_icmp (fun x y => decide (x = y)) t nx) := by
  intro K L st M r hK h hr H locs ls hS hP hL
  subst hn
  unfold lo_icmp at h
  split at h
  · rename_i y x rr
    refine lv_icmp_eq X.1 X.2.1 d ht (fun q => ?_) (fun q => ?_)
    · dsimp only at h
      rw [decide_eq_true (show x = y from q)] at h
      exact hK _ _ _ _ h hr H locs ls hS hP hL
    · dsimp only at h
      rw [decide_eq_false (show ¬ (x = y) from q)] at h
      exact hK _ _ _ _ h hr H locs ls hS hP hL
  · cases h
theorem lk_if_ne (X : lz_Fx p l R s m args meth c cc nL own D cl cA ad S Ex ret rf rl mc) {off : Int} {t : Nat} (d : decode cc pc = .ok (.ifCond .ne off, 3)) (ht : (pc : Int) + off = (t : Int)) (hn : pc + 3 = nx) : lz_Ok (lz_G p l e R s m args below meth c D cl cA ad S nL mc rr) pc (lo_if (fun x => decide (¬ x = 0)) t nx) := by
  intro K L st M r hK h hr H locs ls hS hP hL
  subst hn
  unfold lo_if at h
  split at h
  · rename_i x rr
    refine lv_if_ne X.1 X.2.1 d ht (fun q => ?_) (fun q => ?_)
    · dsimp only at h
      rw [decide_eq_true (show ¬ x = 0 from q)] at h
      exact hK _ _ _ _ h hr H locs ls hS hP hL
    · dsimp only at h
      rw [decide_eq_false (show ¬ (¬ x = 0) from fun z => z q)] at h
      exact hK _ _ _ _ h hr H locs ls hS hP hL
  · cases h
theorem lk_icmp_ne (X : lz_Fx p l R s m args meth c cc nL own D cl cA ad S Ex ret rf rl mc) {off : Int} {t : Nat} (d : decode cc pc = .ok (.if_icmp .ne off, 3)) (ht : (pc : Int) + off = (t : Int)) (hn : pc + 3 = nx) : lz_Ok (lz_G p l e R s m args below meth c D cl cA ad S nL mc rr) pc (lo_icmp (fun x y => decide (¬ x = y)) t nx) := by
  intro K L st M r hK h hr H locs ls hS hP hL
  subst hn
  unfold lo_icmp at h
  split at h
  · rename_i y x rr
    refine lv_icmp_ne X.1 X.2.1 d ht (fun q => ?_) (fun q => ?_)
    · dsimp only at h
      rw [decide_eq_true (show ¬ x = y from q)] at h
      exact hK _ _ _ _ h hr H locs ls hS hP hL
    · dsimp only at h
      rw [decide_eq_false (show ¬ (¬ x = y) from fun z => z q)] at h
      exact hK _ _ _ _ h hr H locs ls hS hP hL
  · cases h
theorem lk_if_lt (X : lz_Fx p l R s m args meth c cc nL own D cl cA ad S Ex ret rf rl mc) {off : Int} {t : Nat} (d : decode cc pc = .ok (.ifCond .lt off, 3)) (ht : (pc : Int) + off = (t : Int)) (hn : pc + 3 = nx) : lz_Ok (lz_G p l e R s m args below meth c D cl cA ad S nL mc rr) pc (lo_if (fun x => decide (x < 0)) t nx) := by
  intro K L st M r hK h hr H locs ls hS hP hL
  subst hn
  unfold lo_if at h
  split at h
  · rename_i x rr
    refine lv_if_lt X.1 X.2.1 d ht (fun q => ?_) (fun q => ?_)
    · dsimp only at h
      rw [decide_eq_true (show x < 0 from q)] at h
      exact hK _ _ _ _ h hr H locs ls hS hP hL
    · dsimp only at h
      rw [decide_eq_false (show ¬ (x < 0) from q)] at h
      exact hK _ _ _ _ h hr H locs ls hS hP hL
  · cases h
theorem lk_icmp_lt (X : lz_Fx p l R s m args meth c cc nL own D cl cA ad S Ex ret rf rl mc) {off : Int} {t : Nat} (d : decode cc pc = .ok (.if_icmp .lt off, 3)) (ht : (pc : Int) + off = (t : Int)) (hn : pc + 3 = nx) : lz_Ok (lz_G p l e R s m args below meth c D cl cA ad S nL mc rr) pc (lo_icmp (fun x y => decide (x < y)) t nx) := by
  intro K L st M r hK h hr H locs ls hS hP hL
  subst hn
  unfold lo_icmp at h
  split at h
  · rename_i y x rr
    refine lv_icmp_lt X.1 X.2.1 d ht (fun q => ?_) (fun q => ?_)
    · dsimp only at h
      rw [decide_eq_true (show x < y from q)] at h
      exact hK _ _ _ _ h hr H locs ls hS hP hL
    · dsimp only at h
      rw [decide_eq_false (show ¬ (x < y) from q)] at h
      exact hK _ _ _ _ h hr H locs ls hS hP hL
  · cases h
theorem lk_if_ge (X : lz_Fx p l R s m args meth c cc nL own D cl cA ad S Ex ret rf rl mc) {off : Int} {t : Nat} (d : decode cc pc = .ok (.ifCond .ge off, 3)) (ht : (pc : Int) + off = (t : Int)) (hn : pc + 3 = nx) : lz_Ok (lz_G p l e R s m args below meth c D cl cA ad S nL mc rr) pc (lo_if (fun x => decide (0 ≤ x)) t nx) := by
  intro K L st M r hK h hr H locs ls hS hP hL
  subst hn
  unfold lo_if at h
  split at h
  · rename_i x rr
    refine lv_if_ge X.1 X.2.1 d ht (fun q => ?_) (fun q => ?_)
    · dsimp only at h
      rw [decide_eq_true (show 0 ≤ x from q)] at h
      exact hK _ _ _ _ h hr H locs ls hS hP hL
    · dsimp only at h
      rw [decide_eq_false (show ¬ (0 ≤ x) from q)] at h
      exact hK _ _ _ _ h hr H locs ls hS hP hL
  · cases h
theorem lk_icmp_ge (X : lz_Fx p l R s m args meth c cc nL own D cl cA ad S Ex ret rf rl mc) {off : Int} {t : Nat} (d : decode cc pc = .ok (.if_icmp .ge off, 3)) (ht : (pc : Int) + off = (t : Int)) (hn : pc + 3 = nx) : lz_Ok (lz_G p l e R s m args below meth c D cl cA ad S nL mc rr) pc (lo_icmp (fun x y => decide (y ≤ x)) t nx) := by
  intro K L st M r hK h hr H locs ls hS hP hL
  subst hn
  unfold lo_icmp at h
  split at h
  · rename_i y x rr
    refine lv_icmp_ge X.1 X.2.1 d ht (fun q => ?_) (fun q => ?_)
    · dsimp only at h
      rw [decide_eq_true (show y ≤ x from q)] at h
      exact hK _ _ _ _ h hr H locs ls hS hP hL
    · dsimp only at h
      rw [decide_eq_false (show ¬ (y ≤ x) from q)] at h
      exact hK _ _ _ _ h hr H locs ls hS hP hL
  · cases h
theorem lk_if_gt (X : lz_Fx p l R s m args meth c cc nL own D cl cA ad S Ex ret rf rl mc) {off : Int} {t : Nat} (d : decode cc pc = .ok (.ifCond .gt off, 3)) (ht : (pc : Int) + off = (t : Int)) (hn : pc + 3 = nx) : lz_Ok (lz_G p l e R s m args below meth c D cl cA ad S nL mc rr) pc (lo_if (fun x => decide (0 < x)) t nx) := by
  intro K L st M r hK h hr H locs ls hS hP hL
  subst hn
  unfold lo_if at h
  split at h
  · rename_i x rr
    refine lv_if_gt X.1 X.2.1 d ht (fun q => ?_) (fun q => ?_)
    · dsimp only at h
      rw [decide_eq_true (show 0 < x from q)] at h
      exact hK _ _ _ _ h hr H locs ls hS hP hL
    · dsimp only at h
      rw [decide_eq_false (show ¬ (0 < x) from q)] at h
      exact hK _ _ _ _ h hr H locs ls hS hP hL
  · cases h
theorem lk_icmp_gt (X : lz_Fx p l R s m args meth c cc nL own D cl cA ad S Ex ret rf rl mc) {off : Int} {t : Nat} (d : decode cc pc = .ok (.if_icmp .gt off, 3)) (ht : (pc : Int) + off = (t : Int)) (hn : pc + 3 = nx) : lz_Ok (lz_G p l e R s m args below meth c D cl cA ad S nL mc rr) pc (lo_icmp (fun x y => decide (y < x)) t nx) := by
  intro K L st M r hK h hr H locs ls hS hP hL
  subst hn
  unfold lo_icmp at h
  split at h
  · rename_i y x rr
    refine lv_icmp_gt X.1 X.2.1 d ht (fun q => ?_) (fun q => ?_)
    · dsimp only at h
      rw [decide_eq_true (show y < x from q)] at h
      exact hK _ _ _ _ h hr H locs ls hS hP hL
    · dsimp only at h
      rw [decide_eq_false (show ¬ (y < x) from q)] at h
      exact hK _ _ _ _ h hr H locs ls hS hP hL
  · cases h
theorem lk_if_le (X : lz_Fx p l R s m args meth c cc nL own D cl cA ad S Ex ret rf rl mc) {off : Int} {t : Nat} (d : decode cc pc = .ok (.ifCond .le off, 3)) (ht : (pc : Int) + off = (t : Int)) (hn : pc + 3 = nx) : lz_Ok (lz_G p l e R s m args below meth c D cl cA ad S nL mc rr) pc (lo_if (fun x => decide (x ≤ 0)) t nx) := by
  intro K L st M r hK h hr H locs ls hS hP hL
  subst hn
  unfold lo_if at h
  split at h
  · rename_i x rr
    refine lv_if_le X.1 X.2.1 d ht (fun q => ?_) (fun q => ?_)
    · dsimp only at h
      rw [decide_eq_true (show x ≤ 0 from q)] at h
      exact hK _ _ _ _ h hr H locs ls hS hP hL
    · dsimp only at h
      rw [decide_eq_false (show ¬ (x ≤ 0) from q)] at h
      exact hK _ _ _ _ h hr H locs ls hS hP hL
  · cases h
theorem lk_icmp_le (X : lz_Fx p l R s m args meth c cc nL own D cl cA ad S Ex ret rf rl mc) {off : Int} {t : Nat} (d : decode cc pc = .ok (.if_icmp .le off, 3)) (ht : (pc : Int) + off = (t : Int)) (hn : pc + 3 = nx) : lz_Ok (lz_G p l e R s m args below meth c D cl cA ad S nL mc rr) pc (lo_icmp (fun x y => decide (x ≤ y)) t nx) := by
  intro K L st M r hK h hr H locs ls hS hP hL
  subst hn
  unfold lo_icmp at h
  split at h
  · rename_i y x rr
    refine lv_icmp_le X.1 X.2.1 d ht (fun q => ?_) (fun q => ?_)
    · dsimp only at h
      rw [decide_eq_true (show x ≤ y from q)] at h
      exact hK _ _ _ _ h hr H locs ls hS hP hL
    · dsimp only at h
      rw [decide_eq_false (show ¬ (x ≤ y) from q)] at h
      exact hK _ _ _ _ h hr H locs ls hS hP hL
  · cases h
theorem lk_ladd (X : lz_Fx p l R s m args meth c cc nL own D cl cA ad S Ex ret rf rl mc) (d : decode cc pc = .ok (.ladd, 1)) (hn : pc + 1 = nx) : lz_Ok (lz_G p l e R s m args below meth c D cl cA ad S nL mc rr) pc (lo_ll (fun x y => x + y) nx) := by
  intro K L st M r hK h hr H locs ls hS hP hL
  subst hn
  unfold lo_ll at h
  split at h
  · exact lv_ladd X.1 X.2.1 d (hK _ _ _ _ h hr H locs ls hS hP hL)
  · cases h
theorem lk_lmul (X : lz_Fx p l R s m args meth c cc nL own D cl cA ad S Ex ret rf rl mc) (d : decode cc pc = .ok (.lmul, 1)) (hn : pc + 1 = nx) : lz_Ok (lz_G p l e R s m args below meth c D cl cA ad S nL mc rr) pc (lo_ll (fun x y => x * y) nx) := by
  intro K L st M r hK h hr H locs ls hS hP hL
  subst hn
  unfold lo_ll at h
  split at h
  · exact lv_lmul X.1 X.2.1 d (hK _ _ _ _ h hr H locs ls hS hP hL)
  · cases h
theorem lk_ldc (X : lz_Fx p l R s m args meth c cc nL own D cl cA ad S Ex ret rf rl mc) {index : Nat} {v : Int32} (hc : Cond.constant own index v ∈ zzG0) (d : decode cc pc = .ok (.ldc index, 2)) (hn : pc + 2 = nx) : lz_Ok (lz_G p l e R s m args below meth c D cl cA ad S nL mc rr) pc (lo_pushI v nx) := by
  intro K L st M r hK h hr H locs ls hS hP hL
  subst hn
  exact lv_ldc X.1 X.2.1 X.2.2.2.1 (X.2.2.2.2.1 _ hc) d (hK _ _ _ _ h hr H locs ls hS hP hL)
theorem lk_iald (X : lz_Fx p l R s m args meth c cc nL own D cl cA ad S Ex ret rf rl mc) {ST : List (List Int32)} (hST : zz_St Ex ad ST) (d : decode cc pc = .ok (.iaload, 1)) (hn : pc + 1 = nx) : lz_Ok (lz_G p l e R s m args below meth c D cl cA ad S nL mc rr) pc (lo_iald S ST nx) := by
  intro K L st M r hK h hr H locs ls hS hP hL
  obtain ⟨hx, hb, hml, hown, hts, hKn, hinj, hEo, hE, -⟩ := X
  subst hn
  unfold lo_iald at h
  split at h
  · rename_i x i rr'
    split at h
    · rename_i n ks hi
      cases hbb : (zz_inb x n && !dead i) with
      | false => rw [hbb] at h; cases h
      | true =>
        rw [hbb] at h
        obtain ⟨b1, b2⟩ := Bool.and_eq_true_iff.mp hbb
        have hd : dead i = false := by
          cases q : dead i with
          | false => rfl
          | true => rw [q] at b2; cases b2
        obtain ⟨M0, hM, hP0⟩ := hP
        have ev : M.1.1 i (zz_ix x) = M0.1 i (zz_ix x) := by rw [← hM, nz_1 hd]
        rw [ev] at h
        exact va_iald hx hb hKn hP0 i 0 (zz_wl_get hi) rfl (zz_inb_in b1) d (hK _ _ _ _ h hr H locs ls hS ⟨M0, hM, hP0⟩ hL)
    · split at h
      · rename_i t ht
        cases hbb : (decide (1000 ≤ i) && zz_inb x t.length) with
        | false => rw [hbb] at h; cases h
        | true =>
          rw [hbb] at h
          obtain ⟨h1, h2⟩ := Bool.and_eq_true_iff.mp hbb
          have h3 : 1000 ≤ i := of_decide_eq_true h1
          have h4 := hST _ _ _ hE _ _ ht
          rw [show 1000 + (i - 1000) = i from Nat.add_sub_of_le h3] at h4
          exact va_ti (t := ad i) hx hb h4 hS (zz_inb_in h2) rfl d (hK _ _ _ _ h hr H locs ls hS hP hL)
      · cases h
    · cases h
  · cases h
theorem lk_iast (X : lz_Fx p l R s m args meth c cc nL own D cl cA ad S Ex ret rf rl mc) (d : decode cc pc = .ok (.iastore, 1)) (hn : pc + 1 = nx) : lz_Ok (lz_G p l e R s m args below meth c D cl cA ad S nL mc rr) pc (lo_iast S nx) := by
  intro K L st M r hK h hr H locs ls hS hP hL
  obtain ⟨hx, hb, hml, hown, hts, hKn, hinj, -⟩ := X
  subst hn
  unfold lo_iast at h
  split at h
  · rename_i v x i rr'
    split at h
    · rename_i n ks hi
      cases hbb : (zz_inb x n && !dead i) with
      | false => rw [hbb] at h; cases h
      | true =>
        rw [hbb] at h
        obtain ⟨b1, b2⟩ := Bool.and_eq_true_iff.mp hbb
        have hd : dead i = false := by
          cases q : dead i with
          | false => rfl
          | true => rw [q] at b2; cases b2
        obtain ⟨M0, hM, hP0⟩ := hP
        refine va_iast hx hb hKn hP0 (zz_wl_D hinj) hS i 0 (zz_wl_get hi) rfl (zz_inb_in b1) d (fun H1 locs1 hP1 _ hS1 => ?_)
        refine hK _ _ _ _ h hr H1 locs1 ls hS1 ⟨zz_sI M0 i (zz_ix x) v, by rw [nz_sI hd, hM], ?_⟩ hL
        rw [← zz_wl_set (M := M0) (M' := zz_sI M0 i (zz_ix x) v) hi (fun j hj => zz_sI_1 hj) (fun j hj => rfl)]
        rw [zz_sI_up] at hP1
        exact hP1
    · cases h
  · cases h
theorem lk_alen (X : lz_Fx p l R s m args meth c cc nL own D cl cA ad S Ex ret rf rl mc) {ST : List (List Int32)} (hST : zz_St Ex ad ST) (d : decode cc pc = .ok (.arraylength, 1)) (hn : pc + 1 = nx) : lz_Ok (lz_G p l e R s m args below meth c D cl cA ad S nL mc rr) pc (lo_alen ST nx) := by
  intro K L st M r hK h hr H locs ls hS hP hL
  obtain ⟨hx, hb, hml, hown, hts, hKn, hinj, hEo, hE, -⟩ := X
  subst hn
  unfold lo_alen at h
  split at h
  · rename_i i rr'
    split at h
    · rename_i t ht
      cases hbb : decide (1000 ≤ i) with
      | false => rw [hbb] at h; cases h
      | true =>
        rw [hbb] at h
        have h3 : 1000 ≤ i := of_decide_eq_true hbb
        have h4 := hST _ _ _ hE _ _ ht
        rw [show 1000 + (i - 1000) = i from Nat.add_sub_of_le h3] at h4
        exact va_tlen (t := ad i) hx hb h4 hS rfl d (hK _ _ _ _ h hr H locs ls hS hP hL)
    · cases h
  · cases h
theorem lz_widen {H : Heap} {locs : List Loc} {cells slots mc ms : Nat} {Q : State → Prop} {g : JFrame} (h1 : cells ≤ mc) (h2 : slots ≤ ms) (h : W p l e R s m args below meth c H locs mc ms Q g) : W p l e R s m args below meth c H locs cells slots Q g := fun T hT Y => h T hT (stand_widen Y h1 h2)
theorem lk_iret (X : lz_Fx p l R s m args meth c cc nL own D cl cA ad S Ex ret rf rl mc) {bl : Bool} (hrt : ret = some (bif bl then .boolean else .int)) (d : decode cc pc = .ok (.ireturn, 1)) : lz_Ok (lz_G p l e R s m args below meth c D cl cA ad S nL mc rr) pc (lo_iret mc bl) := by
  intro K L st M r hK h hr H locs ls hS hP hL
  obtain ⟨hx, hb, hml, hown, hts, hKn, hinj, hEo, hE, hret, hlk, -⟩ := X
  unfold lo_iret at h
  split at h
  · rename_i x
    cases hbb : (((!bl) || zz_b01 x) && decide (M.2 ≤ mc)) with
    | false => rw [hbb] at h; cases h
    | true =>
      rw [hbb] at h
      obtain ⟨b1, b2⟩ := Bool.and_eq_true_iff.mp hbb
      have hle : M.2 ≤ mc := of_decide_eq_true b2
      have h : some (some (Value.int x), M) = some r := h
      cases h
      subst hr
      refine lz_widen hle (Nat.mul_le_mul_left 6 hle) ?_
      cases bl with
      | true => exact W.zret (ty := .boolean) (v := x) hx hb (hret.trans hrt) (zz_narrow_b b1) (fun t ht _ => ⟨rfl, by rw [ht]; exact hP, hS.F ht⟩) hS.2.2 d hlk
      | false => exact W.zret (ty := .int) (v := x) hx hb (hret.trans hrt) rfl (fun t ht _ => ⟨rfl, by rw [ht]; exact hP, hS.F ht⟩) hS.2.2 d hlk
  · cases h
theorem lk_lret (X : lz_Fx p l R s m args meth c cc nL own D cl cA ad S Ex ret rf rl mc) (hrt : ret = some .long) (d : decode cc pc = .ok (.lreturn, 1)) : lz_Ok (lz_G p l e R s m args below meth c D cl cA ad S nL mc rr) pc (lo_lret mc) := by
  intro K L st M r hK h hr H locs ls hS hP hL
  obtain ⟨hx, hb, hml, hown, hts, hKn, hinj, hEo, hE, hret, hlk, -⟩ := X
  unfold lo_lret at h
  split at h
  · rename_i x
    cases hbb : decide (M.2 ≤ mc) with
    | false => rw [hbb] at h; cases h
    | true =>
      rw [hbb] at h
      have hle : M.2 ≤ mc := of_decide_eq_true hbb
      have h : some (some (Value.long x), M) = some r := h
      cases h
      subst hr
      refine lz_widen hle (Nat.mul_le_mul_left 6 hle) ?_
      exact W.lret (v := x) hx hb (hret.trans hrt) (fun t ht _ => ⟨rfl, by rw [ht]; exact hP, hS.F ht⟩) hS.2.2 d hlk
  · cases h
end

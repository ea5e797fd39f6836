section
variable {p : Program} {l : Launch} {e : Env} {R : Room} {s : State} {m : MethodId} {args : Array Value} {below : List Frame} {meth : Method} {c : Code} {cc : ByteArray} {nL : Nat} {own : String}
variable {D : va_G} {cl : List vw_C} {cA : Nat → ClassId} {ad : Nat → Nat} {S : List zzSh} {Ex : (Nat → Prop) → State → Heap → Prop} {ret : Option FieldType} {rf rl : Nat} {rr : zzRt} {pc nx : Nat}
/-- a method's start: the world is M -/
def zz_WB (D : va_G) (cl : List vw_C) (cA : Nat → ClassId) (ad : Nat → Nat) (S : List zzSh) (Ex : (Nat → Prop) → State → Heap → Prop) (sz : Nat) (M : zzMd) (U : State) : Prop := U.heap.size = sz ∧ va_P D cl (zz_wl ad cA S M) U.heap ∧ va_K D cl (zz_tys cA) U ∧ Ex (zz_A ad S sz) U U.heap
/-- CONTRACT: where f says that it returns, it returns so -/
def zz_Cn (l : Launch) (D : va_G) (cl : List vw_C) (cA : Nat → ClassId) (ad : Nat → Nat) (S : List zzSh) (Ex : (Nat → Prop) → State → Heap → Prop) (y : MethodName) (bytes : ByteArray) (maxL : Nat) (ret : Option FieldType) (rfc rlc : Nat) (f : zzFn) : Prop :=
  ∀ (sz : Nat) (As : List Value) (M : zzMd) (v : Option Value) (M' : zzMd), f As M = some (.inl v, M') → Met l y (Cond.code y bytes maxL ret :: zzG0) { frames := rfc, cells := 0, slots := 0, locals := rlc } (va_Pc (As.map (zz_cv ad)) (zz_WB D cl cA ad S Ex sz M)) (zz_Qn D cl cA ad S sz v M') 0 0 (zz_A ad S sz)
/-- .. where f says that it throws, it throws so -/
def zz_Cx (l : Launch) (D : va_G) (cl : List vw_C) (cA : Nat → ClassId) (ad : Nat → Nat) (S : List zzSh) (Ex : (Nat → Prop) → State → Heap → Prop) (y : MethodName) (bytes : ByteArray) (maxL : Nat) (ret : Option FieldType) (rfc rlc : Nat) (f : zzFn) : Prop :=
  ∀ (sz : Nat) (As : List Value) (M : zzMd) (x : Nat) (M' : zzMd), f As M = some (.inr x, M') → vx_Met l y (Cond.code y bytes maxL ret :: zzG0) { frames := rfc, cells := 1, slots := 6, locals := rlc } (va_Pc (As.map (zz_cv ad)) (zz_WB D cl cA ad S Ex sz M)) (fun _ _ _ _ => False) (zz_Qx D cl cA ad S sz x M') 1 6 (zz_A ad S sz)
theorem zz_fb (hE : zz_ExOk Ex) {av : List Value} {sz : Nat} {M : zzMd} : FrameBlind (va_Pc av (zz_WB D cl cA ad S Ex sz M)) := by
  intro a U g mk h
  obtain ⟨h1, h2, h3, h4, h5⟩ := h
  exact ⟨h1, h2, h3, va_K.moved (u := U) (U := U.calling g mk a) (Vm.Alike.refl U.vm) h4, hE.1 _ U (U.calling g mk a) _ (State.WarmedH.refl U) h5⟩
theorem zz_A_le {sz sz' : Nat} (h : sz ≤ sz') (q : Nat) (hq : zz_A ad S sz' q) : zz_A ad S sz q := by
  rcases hq with hq | hq
  · exact Or.inl hq
  · exact Or.inr (Nat.le_trans h hq)
theorem zz_A_lt {sz sz' : Nat} (q : Nat) (hl : q < sz') (hq : zz_A ad S sz' q) : zz_A ad S sz q := by
  rcases hq with hq | hq
  · exact Or.inl hq
  · exact absurd hl (Nat.not_lt.mpr hq)
/-- the callee's start out of the caller's -/
theorem zz_pre (hE : zz_ExOk Ex) (hEs : Ex (zz_A ad S s.heap.size) s s.heap) (hKn : va_K D cl (zz_tys cA) s) {H : Heap} {locs : List Loc} {M : zzMd} (hS : va_S (zz_A ad S s.heap.size) s.heap H locs) (hP : va_P D cl (zz_wl ad cA S M) H) {av : List Value} (U : State) (hU : U.heap = H) (hW : s.WarmedH U.vm) : va_Pc av (zz_WB D cl cA ad S Ex H.size M) av.toArray U := by
  refine ⟨rfl, by rw [hU], by rw [hU]; exact hP, va_K.moved hW.alike hKn, ?_⟩
  rw [hU]
  exact hE.2.2.1 _ _ _ _ (hE.1 _ _ _ _ hW (hE.2.1 _ _ _ _ hEs hS.2.1)) (fun q h1 h2 => zz_A_lt q h1 h2)
theorem zz_S_after {H : Heap} {locs L : List Loc} {T' st₀ t : State} (hS : va_S (zz_A ad S s.heap.size) s.heap H locs) (h0 : st₀.heap = H) (e1 : T'.heap = t.heap) (hL : ∀ q ∈ L, zz_A ad S H.size q.base) (hF : va_F (zz_A ad S H.size) st₀ t) : va_S (zz_A ad S s.heap.size) s.heap T'.heap (locs ++ L) := by
  obtain ⟨hz, hk⟩ := hF
  rw [h0] at hz hk
  refine ⟨Nat.le_trans hS.1 (by rw [e1]; exact hz), fun q h1 h2 => ?_, fun q hq => ?_⟩
  · rw [e1, hk q (Nat.lt_of_lt_of_le h1 hS.1) (fun z => h2 (zz_A_le hS.1 q z))]
    exact hS.2.1 q h1 h2
  · rcases List.mem_append.mp hq with h | h
    · exact hS.2.2 q h
    · exact zz_A_le hS.1 _ (hL q h)
/-- behind a call that has returned -/
theorem zz_after {Q : State → Prop} {H : Heap} {locs : List Loc} {v : Option Value} {M' : zzMd} {a : Array Value} {ls : Array Slot} {st0 rest : List Value} (hr : va_Run p l e R s m args below meth c H locs 0 0 0 0 (F0 m pc ls st0) rest (zz_Qn D cl cA ad S H.size v M' a) (zz_A ad S H.size)) (hS : va_S (zz_A ad S s.heap.size) s.heap H locs)
    (kk : ∀ (H1 : Heap) (locs1 : List Loc), va_S (zz_A ad S s.heap.size) s.heap H1 locs1 → va_P D cl (zz_wl ad cA S M') H1 → W p l e R s m args below meth c H1 locs1 0 0 Q (F0 m (pc + 3) ls ((v.map (zz_cv ad)).toList ++ rest))) : W p l e R s m args below meth c H locs 0 0 Q (F0 m pc ls st0) := by
  intro T hT X
  obtain ⟨v', st₀, t, T', L, h0, X', hL, e1, e2, ⟨hv, hP, hF⟩, st⟩ := hr T hT X
  cases hv
  obtain ⟨t2, a1, b1⟩ := kk T'.heap (locs ++ L) (zz_S_after hS h0 e1 hL hF) (by rw [e1]; exact hP) T' rfl X'
  exact ⟨t2, st t2 a1, b1⟩
/-- behind a call that has thrown: it goes on to the caller's caller -/
theorem zz_thrown {H : Heap} {locs : List Loc} {x : Nat} {M' : zzMd} {ls : Array Slot} {st0 rest : List Value} (hno : ∀ x ∈ c.exceptionTable.toList, False) (hlocks : meth.locks = false)
    (hr : vx_Run p l e R s m args below meth c H locs 0 0 1 6 (F0 m pc ls st0) rest (fun _ _ _ => False) (zz_Qx D cl cA ad S H.size x M') (zz_A ad S H.size)) (hS : va_S (zz_A ad S s.heap.size) s.heap H locs) :
    W p l e R s m args below meth c H locs 0 0 (vx_MQ below (fun _ _ _ _ => False) (zz_Qx D cl cA ad S s.heap.size x M') args s 1 6 (zz_A ad S s.heap.size)) (F0 m pc ls st0) := by
  intro T hT X
  rcases hr T hT X with ⟨v, st₀, t, T', L, h0, X', hL, e1, e2, hq, st⟩ | ⟨q, st₀, t, T', L, E, ce, h0, X', hL, e1, e2, ⟨hE, hP, hF⟩, hce, hcv, hcl, st⟩
  · exact hq.elim
  · have hS' := zz_S_after hS h0 e1 hL hF
    obtain ⟨t2, a1, b1⟩ := vx_out (Qc := fun _ _ _ _ => False) (XC := zz_Qx D cl cA ad S s.heap.size x M') (free := zz_A ad S s.heap.size) (pc := pc) (ls := ls) (rest := rest) (E := E) (q := q) (fun z hz => (hno z hz).elim) hlocks (by rw [e1]; exact hce) hcv hcl
      (fun t' ht' _ => ⟨hE, by rw [ht', e1]; exact hP, ⟨by rw [ht']; exact hS'.1, fun z h1 h2 => by rw [ht']; exact hS'.2.1 z h1 h2⟩⟩) hS'.2.2 (Nat.le_refl 1) (Nat.le_refl 6) T' rfl X'
    exact ⟨t2, st.trans a1, b1⟩
/-! the kinds of calls, each with its words -/
def zz_KV (own : String) (index : Nat) (C : String) (n : Nat) (y : MethodName) (bytes : ByteArray) (maxL : Nat) (ret : Option FieldType) : Prop :=
  ∀ (p : Program) (l : Launch) (e : Env) (R : Room) (s : State) (m : MethodId) (args : Array Value) (below : List Frame) (meth : Method) (c : Code) (cc : ByteArray) (nL : Nat) (H : Heap) (locs : List Loc) (rm : Room) (Pc : Array Value → State → Prop) (Qc : Array Value → State → Outcome → State → Prop) (mc ms : Nat) (free : Addr → Prop) (b : Addr) (As rest : List Value) (g : JFrame),
    CallFix p m c cc nL s args zzG0 own → (∀ w ∈ zzNW, va_Nw w s) → Met l y (Cond.code y bytes maxL ret :: zzG0) rm Pc Qc mc ms free → rm.cells = mc → rm.slots = ms → (rm.frames + 1 ≤ R.frames ∧ 8 + (maxL + 11) + rm.locals ≤ R.locals) → PreV s H C b Pc As → g.method = m → As.length = n → g.locals.size = nL → g.stack = As.reverse ++ .ref b :: rest → 2 * g.monitorRoom + (rest.map fun v => v.category).sum ≤ 8 → decode cc g.pc = .ok (.invokevirtual index, 3) → (0 + mc ≤ R.cells ∧ 0 + ms ≤ R.slots) →
    va_Run p l e R s m args below meth c H locs 0 0 mc ms g rest (Qc (Value.ref b :: As).toArray) free
def zz_KX (own : String) (index : Nat) (C : String) (n : Nat) (y : MethodName) (bytes : ByteArray) (maxL : Nat) (ret : Option FieldType) : Prop :=
  ∀ (p : Program) (l : Launch) (e : Env) (R : Room) (s : State) (m : MethodId) (args : Array Value) (below : List Frame) (meth : Method) (c : Code) (cc : ByteArray) (nL : Nat) (H : Heap) (locs : List Loc) (rm : Room) (Pc : Array Value → State → Prop) (Qc : Array Value → State → Outcome → State → Prop) (XC : String → State → State → Prop) (mc ms : Nat) (free : Addr → Prop) (b : Addr) (As rest : List Value) (g : JFrame),
    CallFix p m c cc nL s args zzG0 own → vx_Met l y (Cond.code y bytes maxL ret :: zzG0) rm Pc Qc XC mc ms free → rm.cells = mc → rm.slots = ms → (rm.frames + 1 ≤ R.frames ∧ 8 + (maxL + 11) + rm.locals ≤ R.locals) → PreV s H C b Pc As → g.method = m → As.length = n → g.locals.size = nL → g.stack = As.reverse ++ .ref b :: rest → 2 * g.monitorRoom + (rest.map fun v => v.category).sum ≤ 8 → decode cc g.pc = .ok (.invokevirtual index, 3) → (0 + mc ≤ R.cells ∧ 0 + ms ≤ R.slots) →
    vx_Run p l e R s m args below meth c H locs 0 0 mc ms g rest (Qc (Value.ref b :: As).toArray) XC free
def zz_KS (own : String) (index : Nat) (n : Nat) (y : MethodName) (bytes : ByteArray) (maxL : Nat) (ret : Option FieldType) : Prop :=
  ∀ (p : Program) (l : Launch) (e : Env) (R : Room) (s : State) (m : MethodId) (args : Array Value) (below : List Frame) (meth : Method) (c : Code) (cc : ByteArray) (nL : Nat) (H : Heap) (locs : List Loc) (rm : Room) (Pc : Array Value → State → Prop) (Qc : Array Value → State → Outcome → State → Prop) (mc ms : Nat) (free : Addr → Prop) (As rest : List Value) (g : JFrame),
    CallFix p m c cc nL s args zzG0 own → (∀ w ∈ zzNW, va_Nw w s) → Met l y (Cond.code y bytes maxL ret :: zzG0) rm Pc Qc mc ms free → rm.cells = mc → rm.slots = ms → (rm.frames + 1 ≤ R.frames ∧ 8 + (maxL + 11) + rm.locals ≤ R.locals) → PreS s H Pc As → g.method = m → As.length = n → g.locals.size = nL → g.stack = As.reverse ++ rest → 2 * g.monitorRoom + (rest.map fun v => v.category).sum ≤ 8 → decode cc g.pc = .ok (.invokestatic index, 3) → (0 + mc ≤ R.cells ∧ 0 + ms ≤ R.slots) →
    va_Run p l e R s m args below meth c H locs 0 0 mc ms g rest (Qc As.toArray) free
theorem zz_kv {own C : String} {index n maxL : Nat} {y : MethodName} {bytes : ByteArray} {ret : Option FieldType} (h : ∀ w ∈ wsV own index C y [Cond.code y bytes maxL ret], w ∈ zzG0)
    (hd : y.cls = C ∧ y.cls ≠ "java/lang/invoke/MethodHandle" ∧ y.cls ≠ "java/lang/invoke/VarHandle" ∧ (parseMethodDescriptor y.desc).map (fun d => d.parameters.length) = some n) : zz_KV own index C n y bytes maxL ret ∧ zz_KX own index C n y bytes maxL ret := by
  have hG : GoodIn zzG0 (wsV own index C y (Cond.code y bytes maxL ret :: zzG0)) := zz_gin fun w hw => by
    rcases List.mem_append.mp hw with q | q
    · exact h w (List.mem_append_left _ q)
    · rcases List.mem_cons.mp q with q | q
      · rw [q]; exact h _ (List.mem_append_right _ List.mem_cons_self)
      · exact q
  refine ⟨?_, ?_⟩
  · intro p l e R s m args below meth c cc nL H locs rm Pc Qc mc ms free b As rest g S _ hM hrc hrs hR hp hg hn hsize hstack hW hdg hf
    exact va_runV S hM (cwV n S.2.2.2.2 hG rfl hrc hrs hd hR) hp hg hn hsize hstack hW hdg hf
  · intro p l e R s m args below meth c cc nL H locs rm Pc Qc XC mc ms free b As rest g S hM hrc hrs hR hp hg hn hsize hstack hW hdg hf
    exact vx_runV S hM (cwV n S.2.2.2.2 hG rfl hrc hrs hd hR) hp hg hn hsize hstack hW hdg hf
theorem zz_kuG {own C owner : String} {index maxL : Nat} {x y : MethodName} {bytes : ByteArray} {ret : Option FieldType} (h : ∀ w ∈ va_wsU own index C owner x y [Cond.code y bytes maxL ret], w ∈ zzG0) : GoodIn zzG0 (va_wsU own index C owner x y (Cond.code y bytes maxL ret :: zzG0)) := zz_gin fun w hw => by
  rcases List.mem_append.mp hw with q | q
  · exact h w (List.mem_append_left _ q)
  · rcases List.mem_cons.mp q with q | q
    · rw [q]; exact h _ (List.mem_append_right _ List.mem_cons_self)
    · exact q
theorem zz_ku {own C owner : String} {index n maxL : Nat} {x y : MethodName} {bytes : ByteArray} {ret : Option FieldType} (h : ∀ w ∈ va_wsU own index C owner x y [Cond.code y bytes maxL ret], w ∈ zzG0) (hyx : y = ⟨owner, x.name, x.desc⟩)
    (hd : owner ≠ "java/lang/invoke/MethodHandle" ∧ owner ≠ "java/lang/invoke/VarHandle" ∧ (parseMethodDescriptor x.desc).map (fun d => d.parameters.length) = some n) : zz_KV own index C n y bytes maxL ret := by
  intro p l e R s m args below meth c cc nL H locs rm Pc Qc mc ms free b As rest g S _ hM hrc hrs hR hp hg hn hsize hstack hW hdg hf
  exact va_runU S hM (va_cwU n S.2.2.2.2 (zz_kuG h) rfl hrc hrs hyx hd hR) hp hg hn hsize hstack hW hdg hf
theorem zz_ka {own C owner : String} {index n maxL : Nat} {x y : MethodName} {bytes : ByteArray} {ret : Option FieldType} (h : ∀ w ∈ va_wsU own index C owner x y [Cond.code y bytes maxL ret], w ∈ zzG0) (hz : Cond.declares ⟨owner, x.name, x.desc⟩ ∈ zzNW)
    (hd : owner ≠ "java/lang/invoke/MethodHandle" ∧ owner ≠ "java/lang/invoke/VarHandle" ∧ (parseMethodDescriptor x.desc).map (fun d => d.parameters.length) = some n) : zz_KV own index C n y bytes maxL ret := by
  intro p l e R s m args below meth c cc nL H locs rm Pc Qc mc ms free b As rest g S hN hM hrc hrs hR hp hg hn hsize hstack hW hdg hf
  exact va_runU S hM (va_cwA n S.2.2.2.2 (zz_kuG h) rfl hrc hrs (hN _ hz) hd hR) hp hg hn hsize hstack hW hdg hf
theorem zz_ks {own : String} {index n maxL : Nat} {y : MethodName} {bytes : ByteArray} {ret : Option FieldType} (h : ∀ w ∈ wsS own index y [Cond.code y bytes maxL ret], w ∈ zzG0)
    (hd : y.cls = own ∧ y.cls ≠ "java/lang/invoke/MethodHandle" ∧ y.cls ≠ "java/lang/invoke/VarHandle" ∧ (parseMethodDescriptor y.desc).map (fun d => d.parameters.length) = some n) : zz_KS own index n y bytes maxL ret := by
  intro p l e R s m args below meth c cc nL H locs rm Pc Qc mc ms free As rest g S _ hM hrc hrs hR hp hg hn hsize hstack hW hdg hf
  refine va_runS S hM (cwS n S.2.2.2.2 (zz_gin fun w hw => ?_) rfl hrc hrs hd hR) hp hg hn hsize hstack hW hdg hf
  rcases List.mem_append.mp hw with q | q
  · exact h w (List.mem_append_left _ q)
  · rcases List.mem_cons.mp q with q | q
    · rw [q]; exact h _ (List.mem_append_right _ List.mem_cons_self)
    · exact q
end

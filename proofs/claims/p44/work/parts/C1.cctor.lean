section
/-! constructors: a world that grows -/
theorem zi_wI : Cond.arrayClass .int ∈ zzG0 := zz_in (by decide +kernel)
theorem zi_wZ : Cond.arrayClass .boolean ∈ zzG0 := zz_in (by decide +kernel)
def zi_ctl : List String := ["ReconcilerHall$Collector", "ReconcilerHall$Deployer", "ReconcilerHall$PodMaker", "ReconcilerHall$Router", "ReconcilerHall$Runner", "ReconcilerHall$Scaler", "ReconcilerHall$Scheduler"]
/-- what the array of controllers rests on -/
def zi_X (U : State) : Prop := va_AO "ReconcilerHall$Controller" U ∧ ∀ C ∈ zi_ctl, va_Nw (.castable C "ReconcilerHall$Controller") U
theorem zi_X.warm {s U : State} (hW : s.WarmedH U.vm) (h : zi_X s) : zi_X U := ⟨h.1.moved hW.alike, fun C hC => va_Nw.warmC hW (h.2 C hC)⟩
section
variable {p : Program} {l : Launch} {e : Env} {R : Room} {s : State} {m : MethodId} {args : Array Value} {below : List Frame} {meth : Method} {c : Code} {cc : ByteArray} {H0 H : Heap} {locs : List Loc} {cells slots : Nat} {Q : State → Prop} {pc : Nat} {ls : Array Slot} {rest : List Value} {A : Nat → Prop} {D : va_G} {cA : Nat → ClassId} {ws : va_W} {Ex : (Nat → Prop) → State → Heap → Prop}
theorem zi_newI (hx : p.tables.exec = Jvm.exec) (hb : c.code = cc) (hts : ∀ w ∈ zzG0, w.before args s = true) (hK : va_K D zzCl (zz_tys cA) s) (hP : va_P D zzCl ws H) (hD : va_D A ws) (hS : va_S A H0 H locs) (hA : ∀ q, H0.size ≤ q → A q)
    {n : Int32} {N : Nat} (hn : ¬ n < 0) (hN : n.toNatClampNeg = N) (hbytes : N * 4 ≤ 536870912) (hcells : cells + 1 ≤ R.cells) (hslots : slots + N ≤ R.slots) (hdg : decode cc pc = .ok (.newarray .int, 2))
    (kk : ∀ (q : Nat) (H1 : Heap), va_P D zzCl (ws ++ [(q, .inl (cA 0, N, .inl fun _ => 0))]) H1 → va_D A (ws ++ [(q, .inl (cA 0, N, .inl fun _ => 0))]) → va_S A H0 H1 locs → W p l e R s m args below meth c H1 locs (cells + 1) (slots + N) Q (F0 m (pc + 2) ls (.ref q :: rest))) : W p l e R s m args below meth c H locs cells slots Q (F0 m pc ls (.int n :: rest)) := by
  refine va_newa (atype := .int) (ty := .int) (a0 := (N, .inl fun _ => 0)) hx hb (hts _ zi_wI) rfl hK hP hD hS hA (fun _ => rfl) hn hN hbytes hcells hslots hdg (fun q cB H1 hK1 hP1 hD1 hS1 => ?_)
  have h1 : s.vm.findClass ("[" ++ FieldType.int.toString) = some cB := (hK1.2 3 (cB, .int) rfl).2
  have h2 : s.vm.findClass ("[" ++ FieldType.int.toString) = some (cA 0) := (hK.2 0 (cA 0, .int) rfl).2
  have e : cB = cA 0 := Option.some.inj (h1.symm.trans h2)
  subst e
  exact kk q H1 hP1 hD1 hS1
theorem zi_newZ (hx : p.tables.exec = Jvm.exec) (hb : c.code = cc) (hts : ∀ w ∈ zzG0, w.before args s = true) (hK : va_K D zzCl (zz_tys cA) s) (hP : va_P D zzCl ws H) (hD : va_D A ws) (hS : va_S A H0 H locs) (hA : ∀ q, H0.size ≤ q → A q)
    {n : Int32} {N : Nat} (hn : ¬ n < 0) (hN : n.toNatClampNeg = N) (hbytes : N * 1 ≤ 536870912) (hcells : cells + 1 ≤ R.cells) (hslots : slots + N ≤ R.slots) (hdg : decode cc pc = .ok (.newarray .boolean, 2))
    (kk : ∀ (q : Nat) (H1 : Heap), va_P D zzCl (ws ++ [(q, .inl (cA 1, N, .inl fun _ => 0))]) H1 → va_D A (ws ++ [(q, .inl (cA 1, N, .inl fun _ => 0))]) → va_S A H0 H1 locs → W p l e R s m args below meth c H1 locs (cells + 1) (slots + N) Q (F0 m (pc + 2) ls (.ref q :: rest))) : W p l e R s m args below meth c H locs cells slots Q (F0 m pc ls (.int n :: rest)) := by
  refine va_newa (atype := .boolean) (ty := .boolean) (a0 := (N, .inl fun _ => 0)) hx hb (hts _ zi_wZ) rfl hK hP hD hS hA (fun _ => rfl) hn hN hbytes hcells hslots hdg (fun q cB H1 hK1 hP1 hD1 hS1 => ?_)
  have h1 : s.vm.findClass ("[" ++ FieldType.boolean.toString) = some cB := (hK1.2 3 (cB, .boolean) rfl).2
  have h2 : s.vm.findClass ("[" ++ FieldType.boolean.toString) = some (cA 1) := (hK.2 1 (cA 1, .boolean) rfl).2
  have e : cB = cA 1 := Option.some.inj (h1.symm.trans h2)
  subst e
  exact kk q H1 hP1 hD1 hS1
theorem zi_newQ (hx : p.tables.exec = Jvm.exec) (hb : c.code = cc) {own : String} {index : Nat} (hown : s.vm.findClass own = some m.cls) (hlink : (Cond.classLink own index "ReconcilerHall$Controller").before args s = true) (hO : zi_X s) (hK : va_K D zzCl (zz_tys cA) s) (hP : va_P D zzCl ws H) (hD : va_D A ws) (hS : va_S A H0 H locs) (hA : ∀ q, H0.size ≤ q → A q)
    {n : Int32} {N : Nat} (hn : ¬ n < 0) (hN : n.toNatClampNeg = N) (hbytes : N * 4 ≤ 536870912) (hcells : cells + 1 ≤ R.cells) (hslots : slots + N ≤ R.slots) (hdg : decode cc pc = .ok (.anewarray index, 3))
    (kk : ∀ (q : Nat) (H1 : Heap), va_P D zzCl (ws ++ [(q, .inl (cA 3, N, .inr (.inr (.inr (.inr fun _ => none)))))]) H1 → va_D A (ws ++ [(q, .inl (cA 3, N, .inr (.inr (.inr (.inr fun _ => none)))))]) → va_S A H0 H1 locs → W p l e R s m args below meth c H1 locs (cells + 1) (slots + N) Q (F0 m (pc + 3) ls (.ref q :: rest))) : W p l e R s m args below meth c H locs cells slots Q (F0 m pc ls (.int n :: rest)) := by
  refine va_newq hx hb hown hlink hO.1 hK hP hD hS hA hn hN hbytes hcells hslots hdg (fun q cB H1 hK1 hP1 hD1 hS1 => ?_)
  obtain ⟨-, -, -, -, -, h1⟩ := (hK1.2 3 (cB, .object "ReconcilerHall$Controller") rfl).2
  obtain ⟨-, -, -, -, -, h2⟩ := (hK.2 2 (cA 3, .object "ReconcilerHall$Controller") rfl).2
  have e : cB = cA 3 := Option.some.inj (h1.symm.trans h2)
  subst e
  exact kk q H1 hP1 hD1 hS1
/-- a constructor's start and its end -/
def zi_WB (D : va_G) (cA : Nat → ClassId) (Ex : (Nat → Prop) → State → Heap → Prop) (ws : va_W) (sz : Nat) (U : State) : Prop := U.heap.size = sz ∧ va_P D zzCl ws U.heap ∧ va_K D zzCl (zz_tys cA) U ∧ va_D (fun _ => True) ws ∧ zi_X U ∧ Ex (va_A ws sz) U U.heap
def zi_Q (D : va_G) (ws : va_W) (sz : Nat) (Wp : Option Value → va_W → Prop) : Array Value → State → Outcome → State → Prop := fun _ s o t => (∃ v w, o = .returned v ∧ Wp v w ∧ va_P D zzCl w t.heap ∧ va_D (va_A ws sz) w) ∧ va_F (va_A ws sz) s t
def zi_C (l : Launch) (D : va_G) (cA : Nat → ClassId) (Ex : (Nat → Prop) → State → Heap → Prop) (y : MethodName) (bytes : ByteArray) (maxL : Nat) (ret : Option FieldType) (rfc rlc mc ms : Nat) (As : List Value) (ws : va_W) (Wp : Option Value → va_W → Prop) : Prop :=
  ∀ sz, Met l y (Cond.code y bytes maxL ret :: zzG0) { frames := rfc, cells := mc, slots := ms, locals := rlc } (va_Pc As (zi_WB D cA Ex ws sz)) (zi_Q D ws sz Wp) mc ms (va_A ws sz)
def zi_Fx (p : Program) (l : Launch) (R : Room) (s : State) (m : MethodId) (args : Array Value) (meth : Method) (c : Code) (cc : ByteArray) (nL : Nat) (y : MethodName) (D : va_G) (cA : Nat → ClassId) (Ex : (Nat → Prop) → State → Heap → Prop) (ws : va_W) (ret : Option FieldType) (rf rl mc ms : Nat) : Prop :=
  p.tables.exec = Jvm.exec ∧ c.code = cc ∧ c.maxLocals = nL ∧ s.vm.findClass y.cls = some m.cls ∧ (∀ w ∈ zzG0, w.before args s = true) ∧ va_K D zzCl (zz_tys cA) s ∧ zi_X s ∧ zz_ExOk Ex ∧ Ex (va_A ws s.heap.size) s s.heap ∧ meth.sig.returnType = ret ∧ meth.locks = false ∧ meth.name = y.name ∧ R.frames = rf ∧ R.locals = rl ∧ R.cells = mc ∧ R.slots = ms
theorem zi_D_self {ws : va_W} {sz : Nat} (h : va_D (fun _ => True) ws) : va_D (va_A ws sz) ws := ⟨h.1, fun k q hk => Or.inl ⟨k, q.2, hk⟩⟩
theorem zi_meth {y : MethodName} {bytes : ByteArray} {maxL rf rl mc ms : Nat} {ret : Option FieldType} {As : List Value} {Wp : Option Value → va_W → Prop} (hy : plainFor y = true) (hEo : zz_ExOk Ex) (hlen : (lg_sl As).length ≤ maxL)
    (hall : ∀ (p : Program) (e : Env) (R : Room) (s : State) (m : MethodId) (args : Array Value) (below : List Frame) (meth : Method) (c : Code) (ls : Array Slot), zi_Fx p l R s m args meth c bytes maxL y D cA Ex ws ret rf rl mc ms → va_P D zzCl ws s.heap → va_D (va_A ws s.heap.size) ws → lv_has ls maxL (lv_args 0 As) →
      W p l e R s m args below meth c s.heap [] 0 0 (MQ below (zi_Q D ws s.heap.size Wp) args s mc ms (va_A ws s.heap.size)) (F0 m 0 ls [])) : zi_C l D cA Ex y bytes maxL ret rf rl mc ms As ws Wp := by
  intro sz
  refine zz_ofW (cc := bytes) (maxL := maxL) (ret := ret) hy rfl ?_
  intro p e s m args below meth c s₁ B hml hv
  obtain ⟨rfl, hsz, hP, hK, hD, hX, hE⟩ := hv
  subst hsz
  have hl := lv_entry As (n := maxL) hlen
  rw [lg_entry_eq]
  generalize (lg_sl As ++ List.replicate (maxL - (lg_sl As).length) Slot.unset).toArray = ls at hl ⊢
  exact hall p e _ s m _ below meth c ls ⟨B.exec, B.bytes, hml, findClass_of_methodNamed B.named, fun w hw => atoms_spec (ws := Cond.code y bytes maxL ret :: zzG0) B.pre w (List.mem_cons_of_mem _ hw), hK, hX, hEo, hE, B.returns, B.notSynchronized, (name_of_methodNamed B.named B.method).1, rfl, rfl, rfl, rfl⟩ hP (zi_D_self hD) hl
theorem zi_imp {ws : va_W} {H0 H : Heap} {locs : List Loc} (hD : va_D A ws) (hS : va_S A H0 H locs) (hA : ∀ q, H0.size ≤ q → A q) (q : Nat) (h : va_A ws H.size q) : A q := by
  rcases h with ⟨k, e, h⟩ | h
  · exact hD.2 k _ h
  · exact hA q (Nat.le_trans hS.1 h)
theorem zi_S_after {ws : va_W} {L : List Loc} {T' st₀ t : State} (hS : va_S A H0 H locs) (hI : ∀ q, va_A ws H.size q → A q) (h0 : st₀.heap = H) (e1 : T'.heap = t.heap) (hL : ∀ q ∈ L, va_A ws H.size q.base) (hF : va_F (va_A ws H.size) st₀ t) : va_S A H0 T'.heap (locs ++ L) := by
  obtain ⟨hz, hk⟩ := hF
  rw [h0] at hz hk
  refine ⟨Nat.le_trans hS.1 (by rw [e1]; exact hz), fun q h1 h2 => ?_, fun q hq => ?_⟩
  · rw [e1, hk q (Nat.lt_of_lt_of_le h1 hS.1) (fun z => h2 (hI q z))]
    exact hS.2.1 q h1 h2
  · rcases List.mem_append.mp hq with h | h
    · exact hS.2.2 q h
    · exact hI _ (hL q h)
theorem zi_after {mc ms : Nat} {st0 : List Value} {Wp : Option Value → va_W → Prop} {a : Array Value} (hr : va_Run p l e R s m args below meth c H locs cells slots mc ms (F0 m pc ls st0) rest (zi_Q D ws H.size Wp a) (va_A ws H.size)) (hD : va_D A ws) (hS : va_S A H0 H locs) (hA : ∀ q, H0.size ≤ q → A q)
    (kk : ∀ (v : Option Value) (w : va_W) (H1 : Heap) (locs1 : List Loc), Wp v w → va_P D zzCl w H1 → va_D A w → va_S A H0 H1 locs1 → W p l e R s m args below meth c H1 locs1 (cells + mc) (slots + ms) Q (F0 m (pc + 3) ls (v.toList ++ rest))) : W p l e R s m args below meth c H locs cells slots Q (F0 m pc ls st0) := by
  intro T hT X
  obtain ⟨v, st₀, t, T', L, h0, X', hL, e1, e2, ⟨⟨v', w, hv, hw, hP, hDw⟩, hF⟩, st⟩ := hr T hT X
  cases hv
  have hI := zi_imp hD hS hA
  obtain ⟨t2, a1, b1⟩ := kk v w T'.heap (locs ++ L) hw (by rw [e1]; exact hP) ⟨hDw.1, fun k q hk => hI _ (hDw.2 k q hk)⟩ (zi_S_after hS hI h0 e1 hL hF) T' rfl X'
  exact ⟨t2, st t2 a1, b1⟩
theorem zi_fb {av : List Value} {sz : Nat} (hE : zz_ExOk Ex) : FrameBlind (va_Pc av (zi_WB D cA Ex ws sz)) := by
  intro a U g mk h
  obtain ⟨h1, h2, h3, h4, h5, h6, h7⟩ := h
  exact ⟨h1, h2, h3, va_K.moved (u := U) (U := U.calling g mk a) (Vm.Alike.refl U.vm) h4, h5, h6.warm (U := U.calling g mk a) (State.WarmedH.refl U), hE.1 _ U (U.calling g mk a) _ (State.WarmedH.refl U) h7⟩
theorem zi_pre {av : List Value} (hEo : zz_ExOk Ex) (hK : va_K D zzCl (zz_tys cA) s) (hX : zi_X s) (hE : Ex A s s.heap) (hP : va_P D zzCl ws H) (hD : va_D A ws) (hS : va_S A s.heap H locs) (hA : ∀ q, s.heap.size ≤ q → A q) (U : State) (hU : U.heap = H) (hW : s.WarmedH U.vm) : va_Pc av (zi_WB D cA Ex ws H.size) av.toArray U := by
  refine ⟨rfl, by rw [hU], by rw [hU]; exact hP, va_K.moved hW.alike hK, ⟨hD.1, fun _ _ _ => trivial⟩, hX.warm hW, ?_⟩
  rw [hU]
  exact hEo.2.2.1 _ _ _ _ (hEo.1 _ _ _ _ hW (hEo.2.1 _ _ _ _ hE hS.2.1)) fun q _ h => zi_imp hD hS hA q h
/-- a constructor is called -/
theorem zi_callI {nL : Nat} {own : String} {y : MethodName} {bytes : ByteArray} {maxL rfc rlc mc ms n index b : Nat} {As : List Value} {Wp : Option Value → va_W → Prop} (hC : zi_C l D cA Ex y bytes maxL none rfc rlc mc ms (.ref b :: As) ws Wp)
    (hx : p.tables.exec = Jvm.exec) (hb : c.code = cc) (hml : c.maxLocals = nL) (hown : s.vm.findClass own = some m.cls) (hts : ∀ w ∈ zzG0, w.before args s = true) (hK : va_K D zzCl (zz_tys cA) s) (hX : zi_X s) (hEo : zz_ExOk Ex) (hE : Ex A s s.heap)
    (w1 : Cond.code y bytes maxL none ∈ zzG0) (w2 : Cond.initialized y.cls ∈ zzG0) (w3 : Cond.methodLink own index y ∈ zzG0) (w4 : Cond.instanceMethod y ∈ zzG0) (hy1 : y.name = "<init>")
    (hd : y.cls ≠ "java/lang/invoke/MethodHandle" ∧ y.cls ≠ "java/lang/invoke/VarHandle" ∧ (parseMethodDescriptor y.desc).map (fun d => d.parameters.length) = some n) (hlen : As.length = n) (hR : rfc + 1 ≤ R.frames ∧ 8 + (maxL + 11) + rlc ≤ R.locals) (hf : cells + mc ≤ R.cells ∧ slots + ms ≤ R.slots)
    (hsz : ls.size = nL) (h8 : (rest.map fun v => v.category).sum ≤ 8) (hP : va_P D zzCl ws H) (hD : va_D A ws) (hS : va_S A s.heap H locs) (hA : ∀ q, s.heap.size ≤ q → A q) (hdg : decode cc pc = .ok (.invokespecial index, 3))
    (kk : ∀ (v : Option Value) (w : va_W) (H1 : Heap) (locs1 : List Loc), Wp v w → va_P D zzCl w H1 → va_D A w → va_S A s.heap H1 locs1 → W p l e R s m args below meth c H1 locs1 (cells + mc) (slots + ms) Q (F0 m (pc + 3) ls (v.toList ++ rest))) : W p l e R s m args below meth c H locs cells slots Q (F0 m pc ls (As.reverse ++ .ref b :: rest)) :=
  zi_after (a := (Value.ref b :: As).toArray) (va_runI (As := As) (rest := rest) ⟨hx, hb, hml, hown, hts⟩ (hC H.size) (cwI n hts (zz_inC (ws := []) w1) rfl rfl rfl (hts _ w2) (hts _ w3) (hts _ w4) hy1 hd hR) ⟨zi_fb hEo, fun U hU hW => zi_pre hEo hK hX hE hP hD hS hA U hU hW⟩ rfl hlen hsz rfl (lv_room h8) hdg hf) hD hS hA kk
/-- a static method is called -/
theorem zi_callS {nL : Nat} {own : String} {y : MethodName} {bytes : ByteArray} {maxL rfc rlc mc ms n index : Nat} {ret : Option FieldType} {As : List Value} {Wp : Option Value → va_W → Prop} (hk : zz_KS own index n y bytes maxL ret) (hC : zi_C l D cA Ex y bytes maxL ret rfc rlc mc ms As ws Wp)
    (hx : p.tables.exec = Jvm.exec) (hb : c.code = cc) (hml : c.maxLocals = nL) (hown : s.vm.findClass own = some m.cls) (hts : ∀ w ∈ zzG0, w.before args s = true) (hK : va_K D zzCl (zz_tys cA) s) (hX : zi_X s) (hEo : zz_ExOk Ex) (hE : Ex A s s.heap)
    (hlen : As.length = n) (hR : rfc + 1 ≤ R.frames ∧ 8 + (maxL + 11) + rlc ≤ R.locals) (hf : cells + mc ≤ R.cells ∧ slots + ms ≤ R.slots) (hf0 : 0 + mc ≤ R.cells ∧ 0 + ms ≤ R.slots) (hz : cells = 0 ∧ slots = 0)
    (hsz : ls.size = nL) (h8 : (rest.map fun v => v.category).sum ≤ 8) (hP : va_P D zzCl ws H) (hD : va_D A ws) (hS : va_S A s.heap H locs) (hA : ∀ q, s.heap.size ≤ q → A q) (hdg : decode cc pc = .ok (.invokestatic index, 3))
    (kk : ∀ (v : Option Value) (w : va_W) (H1 : Heap) (locs1 : List Loc), Wp v w → va_P D zzCl w H1 → va_D A w → va_S A s.heap H1 locs1 → W p l e R s m args below meth c H1 locs1 (cells + mc) (slots + ms) Q (F0 m (pc + 3) ls (v.toList ++ rest))) : W p l e R s m args below meth c H locs cells slots Q (F0 m pc ls (As.reverse ++ rest)) := by
  obtain ⟨rfl, rfl⟩ := hz
  exact zi_after (a := As.toArray) (hk p l e R s m args below meth c cc nL H locs _ _ _ mc ms _ As rest (F0 m pc ls (As.reverse ++ rest)) ⟨hx, hb, hml, hown, hts⟩ (hEo.2.2.2.1 _ _ _ hE) (hC H.size) rfl rfl hR ⟨zi_fb hEo, fun U hU hW => zi_pre hEo hK hX hE hP hD hS hA U hU hW⟩ rfl hlen hsz rfl (lv_room h8) hdg hf0) hD hS hA kk
/-- the end of a constructor -/
theorem zi_vret {ws0 : va_W} {Wp : Option Value → va_W → Prop} (hx : p.tables.exec = Jvm.exec) (hb : c.code = cc) (hr : meth.sig.returnType = none) (hlk : meth.locks = false) (hw : Wp none ws) (hP : va_P D zzCl ws H) (hD : va_D (va_A ws0 s.heap.size) ws) (hS : va_S (va_A ws0 s.heap.size) s.heap H locs) (hdg : decode cc pc = .ok (.return_, 1)) :
    W p l e R s m args below meth c H locs cells slots (MQ below (zi_Q D ws0 s.heap.size Wp) args s cells slots (va_A ws0 s.heap.size)) (F0 m pc ls []) :=
  W.vret hx hb hr (fun t ht _ => ⟨⟨none, ws, rfl, hw, by rw [ht]; exact hP, hD⟩, ⟨by rw [ht]; exact hS.1, fun q h1 h2 => by rw [ht]; exact hS.2.1 q h1 h2⟩⟩) hS.2.2 hdg hlk
end
section
variable {p : Program} {l : Launch} {e : Env} {R : Room} {s : State} {m : MethodId} {args : Array Value} {below : List Frame} {meth : Method} {c : Code} {cc : ByteArray} {H0 H : Heap} {locs : List Loc} {cells slots : Nat} {Q : State → Prop} {pc : Nat} {ls : Array Slot} {rest : List Value} {A : Nat → Prop} {D : va_G} {cA : Nat → ClassId} {ws : va_W}
/-- final fields, set by their own class's constructor -/
def zi_fq (cl : List vw_C) (kf : Nat → Option Nat) (own : String) (ty : FieldType) : Prop := ∀ ci k, kf ci = some k → ∃ q : vw_C, cl[ci]? = some q ∧ (q.2.1 k).2.2.2 = true ∧ (q.2.1 k).1 = own ∧ parseFieldDescriptor (q.2.1 k).2.2.1 = some ty
theorem zi_fq_of {cl : List vw_C} {cs : List Nat} {k : Nat} {own : String} {ty : FieldType} (h : ∀ ci ∈ cs, ∃ q : vw_C, cl[ci]? = some q ∧ (q.2.1 k).2.2.2 = true ∧ (q.2.1 k).1 = own ∧ parseFieldDescriptor (q.2.1 k).2.2.1 = some ty) : zi_fq cl (zz_kf cs k) own ty := by
  intro ci k' hk
  unfold zz_kf at hk
  cases hc : cs.contains ci with
  | false => rw [hc] at hk; cases hk
  | true =>
    rw [hc] at hk
    cases hk
    exact h ci (List.contains_iff_mem.mp hc)
theorem zi_kf {cs : List Nat} {ci : Nat} (h : cs.contains ci = true) (k : Nat) : zz_kf cs k ci = some k := by
  unfold zz_kf
  rw [h]; rfl
theorem zi_putF {own : String} {index : Nat} {kf : Nat → Option Nat} {ty : FieldType} (F : zz_fw own index zzCl kf) (Fq : zi_fq zzCl kf own ty) (hx : p.tables.exec = Jvm.exec) (hb : c.code = cc) (hown : s.vm.findClass own = some m.cls) (hts : ∀ w ∈ zzG0, w.before args s = true) (hK : va_K D zzCl (zz_tys cA) s) (hin : meth.name = "<init>")
    (hP : va_P D zzCl ws H) (hD : va_D A ws) (hS : va_S A H0 H locs) (i0 : Nat) {h0 ci k : Nat} {fs : List Value} (he : ws[i0]? = some (h0, .inr (ci, fs))) (hkf : kf ci = some k) {v : Value} (hn : narrow ty v = v) (hfit : fits ty v = true) (hl : k < fs.length) (hdg : decode cc pc = .ok (.putfield index, 3))
    (kk : ∀ (H1 : Heap) (locs1 : List Loc), va_P D zzCl (ws.set i0 (h0, .inr (ci, fs.set k v))) H1 → va_D A (ws.set i0 (h0, .inr (ci, fs.set k v))) → va_S A H0 H1 locs1 → W p l e R s m args below meth c H1 locs1 cells slots Q (F0 m (pc + 3) ls rest)) : W p l e R s m args below meth c H locs cells slots Q (F0 m pc ls (v :: .ref h0 :: rest)) := by
  obtain ⟨C, T, N, ref, ty0, hc, hkN, hiw, hlk, hsm, hty, hnm⟩ := F ci k hkf
  obtain ⟨q, hc', hfin, hdecl, hd⟩ := Fq ci k hkf
  cases hc.symm.trans hc'
  exact va_putF hx hb hts hiw ty0 hty hnm hown hK hP hD hS i0 he hc k hkN (hts _ hlk) (zz_same hts hsm) hfin hin hdecl hd hn hfit hl hdg kk
theorem zi_put {own : String} {index : Nat} {kf : Nat → Option Nat} (F : zz_fw own index zzCl kf) (Fp : zz_fp zzCl kf false) (hx : p.tables.exec = Jvm.exec) (hb : c.code = cc) (hown : s.vm.findClass own = some m.cls) (hts : ∀ w ∈ zzG0, w.before args s = true) (hK : va_K D zzCl (zz_tys cA) s)
    (hP : va_P D zzCl ws H) (hD : va_D A ws) (hS : va_S A H0 H locs) (i0 : Nat) {h0 ci k : Nat} {fs : List Value} (he : ws[i0]? = some (h0, .inr (ci, fs))) (hkf : kf ci = some k) {v : Int32} (hl : k < fs.length) (hdg : decode cc pc = .ok (.putfield index, 3))
    (kk : ∀ (H1 : Heap) (locs1 : List Loc), va_P D zzCl (ws.set i0 (h0, .inr (ci, fs.set k (.int v)))) H1 → va_D A (ws.set i0 (h0, .inr (ci, fs.set k (.int v)))) → va_S A H0 H1 locs1 → W p l e R s m args below meth c H1 locs1 cells slots Q (F0 m (pc + 3) ls rest)) : W p l e R s m args below meth c H locs cells slots Q (F0 m pc ls (.int v :: .ref h0 :: rest)) := by
  obtain ⟨C, T, N, ref, ty0, hc, hkN, hiw, hlk, hsm, hty, hnm⟩ := F ci k hkf
  obtain ⟨q, hc', hfin, hd⟩ := Fp ci k hkf
  cases hc.symm.trans hc'
  exact va_put hx hb hts hiw ty0 hty hnm hown hK hP hD hS i0 he hc k hkN (hts _ hlk) (zz_same hts hsm) hfin hd rfl rfl hl hdg kk
theorem zi_get {own : String} {index : Nat} {kf : Nat → Option Nat} (F : zz_fw own index zzCl kf) (hx : p.tables.exec = Jvm.exec) (hb : c.code = cc) (hown : s.vm.findClass own = some m.cls) (hts : ∀ w ∈ zzG0, w.before args s = true) (hK : va_K D zzCl (zz_tys cA) s)
    (hP : va_P D zzCl ws H) (i0 : Nat) {h0 ci k : Nat} {fs : List Value} (he : ws[i0]? = some (h0, .inr (ci, fs))) (hkf : kf ci = some k) {v : Value} (hv : fs[k]? = some v) (hdg : decode cc pc = .ok (.getfield index, 3))
    (kk : W p l e R s m args below meth c H locs cells slots Q (F0 m (pc + 3) ls (v :: rest))) : W p l e R s m args below meth c H locs cells slots Q (F0 m pc ls (.ref h0 :: rest)) := by
  obtain ⟨C, T, N, ref, ty0, hc, hkN, hiw, hlk, hsm, hty, hnm⟩ := F ci k hkf
  exact va_get hx hb hts hiw hown hK hP i0 he hc k hkN (hts _ hlk) (zz_same hts hsm) hv hdg kk
end
/-! places in a world that has grown -/
theorem zs_self {α : Type} {ws t : List α} {i : Nat} {x : α} (h : i < ws.length) : (ws.set i x ++ t)[i]? = some x := by
  rw [List.getElem?_append_left (by rw [List.length_set]; exact h), List.getElem?_set_self h]
theorem zs_ne {α : Type} {ws t : List α} {i j : Nat} {x y : α} (hj : ws[j]? = some y) (hn : i ≠ j) : (ws.set i x ++ t)[j]? = some y := by
  have h : j < ws.length := (List.getElem?_eq_some_iff.mp hj).1
  rw [List.getElem?_append_left (by rw [List.length_set]; exact h), List.getElem?_set_ne hn, hj]
theorem zs_set {α : Type} {ws t : List α} {i : Nat} {x y : α} (h : i < ws.length) : (ws.set i x ++ t).set i y = ws.set i y ++ t := by
  rw [List.set_append_left _ _ (by rw [List.length_set]; exact h), List.set_set]
theorem zs_set0 {α : Type} {ws : List α} {i : Nat} {x y : α} : (ws.set i x).set i y = ws.set i y := List.set_set ..
end

section
/-! the law's wrappers: they call, and turn what is thrown into a number -/
def zl_ct : Nat → Nat
  | 0 => 13
  | 1 => 15
  | _ => 21
theorem zl_ct_pos : ∀ x, ¬ zl_ct x = 0
  | 0 => by decide
  | 1 => by decide
  | _ + 2 => by show ¬ (21 = 0); decide
def zl_XOk (Ex : (Nat → Prop) → State → Heap → Prop) : Prop := ∀ (A : Nat → Prop) (U : State) (H : Heap), Ex A U H → (∀ x, x < 3 → va_Nw (.castable (zz_xn x) (zz_xn x)) U) ∧ ∀ x y, x < 3 → y < 3 → y ≠ x → va_Nc (zz_xn x) (zz_xn y) U
theorem zl_link : ∀ x, x < 3 → Cond.classLink RLw (zl_ct x) (zz_xn x) ∈ zzG0 := by
  intro x hx
  rcases (show x = 0 ∨ x = 1 ∨ x = 2 by omega) with rfl | rfl | rfl
  · exact zz_in (by decide +kernel)
  · exact zz_in (by decide +kernel)
  · exact zz_in (by decide +kernel)
/-- what a wrapper answers, and what it leaves -/
def zl_o (b : Bool) (v : Int32) : Int64 := bif b then (if v = 0 then 0 else 1) else v.toInt64
def zl_R (cd : Nat → Int32) (b : Bool) (rc : Option zzRt) (k : Int32) (M2 : zzMd) : Prop := (∃ v M1, rc = some (.inl (some (.int v)), M1) ∧ k = 0 ∧ M2 = zz_sL M1 73 0 (zl_o b v)) ∨ ∃ e, rc = some (.inr e, M2) ∧ k = cd e ∧ ¬ cd e = 0
theorem cdl_3 {L : List Int32} {x : Nat} (hL : L.length ≤ 3) (hx : 3 ≤ x) : cdl L x = 0 := by
  unfold cdl
  rw [List.getD, List.getElem?_eq_none (by omega)]; rfl
section
variable {p : Program} {l : Launch} {e : Env} {R : Room} {s : State} {m : MethodId} {args : Array Value} {below : List Frame} {meth : Method} {c : Code} {cc : ByteArray} {nL rf rl : Nat} {hh : List (Nat × Nat × Nat × Nat)}
variable {D : va_G} {cA : Nat → ClassId} {ad : Nat → Nat} {Ex : (Nat → Prop) → State → Heap → Prop} {H : Heap} {locs : List Loc} {cells slots : Nat} {Q : State → Prop} {pc : Nat} {ls : Array Slot} {rest : List Value}
theorem zl_ofW {y : MethodName} {ws ws' : List Cond} {rm : Room} {Pc : Array Value → State → Prop} {Qc : Array Value → State → Outcome → State → Prop} {mc ms : Nat} {free : Addr → Prop} {cc : ByteArray} {maxL : Nat} {ret : Option FieldType}
    (hy : plainName y.cls = true) (hw : ws = Cond.codeWith y cc maxL ret hh :: ws')
    (body : ∀ p e s m args below meth c s₁, BodyLoose p l y (headSpec ws rm) cc maxL ret e s m args below meth c s₁ → c.maxLocals = maxL → c.exceptionTable.toList = tableOf hh → Pc args s →
      W p l e (headSpec ws rm).room s m args below meth c s.heap [] 0 0 (MQ below Qc args s mc ms free) (entryFrame m args maxL)) : Met l y ws rm Pc Qc mc ms free := by
  refine MetFree.of_bodyS (code := cc) (maxLocals := maxL) (ret := ret) hy ?_ ?_
  · intro args s m h hn
    obtain ⟨m9, meth, c, hn9, h1, h2, h3, h4, -, h5, h6, -⟩ := Cond.codeWith_spec (atoms_spec (ws := ws) h _ (by rw [hw]; exact List.mem_cons_self))
    cases hn.symm.trans hn9
    exact ⟨meth, c, h1, h2, h3, h4, h5, h6⟩
  · intro p e s m args below meth c s₁ B hml hP _
    have hh0 : s₁.heap = s.heap := by rw [B.state]; rfl
    obtain ⟨t, a1, o, b1, b2, b3⟩ := body p e s m args below meth c s₁ B hml (vx_table (x := y) B (atoms_spec (ws := ws) B.pre _ (by rw [hw]; exact List.mem_cons_self))) hP s₁ hh0 (Stand.of_body B)
    exact ⟨t, o, a1, b1, b2, ⟨b3.1, b3.2⟩⟩
def zl_Fx (p : Program) (l : Launch) (R : Room) (s : State) (m : MethodId) (args : Array Value) (meth : Method) (c : Code) (cc : ByteArray) (nL : Nat) (own : String) (D : va_G) (cA : Nat → ClassId) (ad : Nat → Nat) (Ex : (Nat → Prop) → State → Heap → Prop) (rf rl : Nat) (hh : List (Nat × Nat × Nat × Nat)) : Prop :=
  p.tables.exec = Jvm.exec ∧ c.code = cc ∧ c.maxLocals = nL ∧ s.vm.findClass own = some m.cls ∧ (∀ w ∈ zzG0, w.before args s = true) ∧ va_K D zzCl (zz_tys cA) s ∧ Ex (zz_A ad zzSC s.heap.size) s s.heap ∧ meth.sig.returnType = some .int ∧ meth.locks = false ∧ c.exceptionTable.toList = tableOf hh ∧ R.frames = rf ∧ R.locals = rl ∧ R.cells = 1 ∧ R.slots = 6
/-- CONTRACT of a wrapper -/
def zl_C (l : Launch) (D : va_G) (cA : Nat → ClassId) (ad : Nat → Nat) (Ex : (Nat → Prop) → State → Heap → Prop) (y : MethodName) (bytes : ByteArray) (maxL : Nat) (hh : List (Nat × Nat × Nat × Nat)) (rf rl : Nat) (As : List Value) (M : zzMd) (k : Int32) (M2 : zzMd) : Prop :=
  ∀ sz, Met l y (Cond.codeWith y bytes maxL (some .int) hh :: zzG0) { frames := rf, cells := 1, slots := 6, locals := rl } (va_Pc (As.map (zz_cv ad)) (zz_WB D zzCl cA ad zzSC Ex sz M)) (zz_Qn D zzCl cA ad zzSC sz (some (.int k)) M2) 1 6 (zz_A ad zzSC sz)
theorem zl_meth {y : MethodName} {bytes : ByteArray} {maxL : Nat} {As : List Value} {M M2 : zzMd} {k : Int32} (hy : plainName y.cls = true) (hlen : (lg_sl (As.map (zz_cv ad))).length ≤ maxL)
    (hall : ∀ (p : Program) (e : Env) (R : Room) (s : State) (m : MethodId) (args : Array Value) (below : List Frame) (meth : Method) (c : Code) (ls : Array Slot), zl_Fx p l R s m args meth c bytes maxL y.cls D cA ad Ex rf rl hh → va_P D zzCl (zz_wl ad cA zzSC M) s.heap → va_S (zz_A ad zzSC s.heap.size) s.heap s.heap [] → lv_has ls maxL (lv_args 0 (As.map (zz_cv ad))) →
      W p l e R s m args below meth c s.heap [] 0 0 (MQ below (zz_Qn D zzCl cA ad zzSC s.heap.size (some (.int k)) M2) args s 1 6 (zz_A ad zzSC s.heap.size)) (F0 m 0 ls [])) : zl_C l D cA ad Ex y bytes maxL hh rf rl As M k M2 := by
  intro sz
  refine zl_ofW (cc := bytes) (maxL := maxL) (ret := some .int) (hh := hh) hy rfl ?_
  intro p e s m args below meth c s₁ B hml ht hv
  obtain ⟨rfl, hsz, hP, hK, hE⟩ := hv
  subst hsz
  have hl := lv_entry (As.map (zz_cv ad)) (n := maxL) hlen
  rw [lg_entry_eq]
  generalize (lg_sl (As.map (zz_cv ad)) ++ List.replicate (maxL - (lg_sl (As.map (zz_cv ad))).length) Slot.unset).toArray = ls at hl ⊢
  exact hall p e _ s m _ below meth c ls ⟨B.exec, B.bytes, hml, findClass_of_methodNamed B.named, fun w hw => atoms_spec (ws := Cond.codeWith y bytes maxL (some .int) hh :: zzG0) B.pre w (List.mem_cons_of_mem _ hw), hK, hE, B.returns, B.notSynchronized, ht, rfl, rfl, rfl, rfl⟩ hP va_S.rf hl
theorem zl_thrown {x : Nat} {M' : zzMd} {st0 : List Value}
    (hr : vx_Run p l e R s m args below meth c H locs 0 0 1 6 (F0 m pc ls st0) rest (fun _ _ _ => False) (zz_Qx D zzCl cA ad zzSC H.size x M') (zz_A ad zzSC H.size)) (hS : va_S (zz_A ad zzSC s.heap.size) s.heap H locs)
    (kk : ∀ (H1 : Heap) (locs1 : List Loc) (q : Addr) (ce : Cell), va_S (zz_A ad zzSC s.heap.size) s.heap H1 locs1 → va_P D zzCl (zz_wl ad cA zzSC M') H1 → H1[q]? = some ce → ce.vm = .none → s.vm.findClass (zz_xn x) = some ce.cls → vx_W p l e R s m args below meth c H1 locs1 1 6 Q (F0 m pc ls rest) q) : W p l e R s m args below meth c H locs 0 0 Q (F0 m pc ls st0) := by
  intro T hT X
  rcases hr T hT X with ⟨v, st₀, t, T', L, h0, X', hL, e1, e2, hq, st⟩ | ⟨q, st₀, t, T', L, E, ce, h0, X', hL, e1, e2, ⟨hE, hP, hF⟩, hce, hcv, hcl, st⟩
  · exact hq.elim
  · subst hE
    obtain ⟨t2, a1, b1⟩ := kk T'.heap (locs ++ L) q ce (zz_S_after hS h0 e1 hL hF) (by rw [e1]; exact hP) (by rw [e1]; exact hce) hcv hcl T' rfl X'
    exact ⟨t2, st.trans a1, b1⟩
theorem zl_call {f : zzFn} {index n maxL rfc rlc : Nat} {y : MethodName} {bytes : ByteArray} {ret' : Option FieldType} {As : List Value} {M M2 : zzMd} {cd : Nat → Int32} {b : Bool} {k : Int32} (X : zl_Fx p l R s m args meth c cc nL RLw D cA ad Ex rf rl hh) (hEo : zz_ExOk Ex)
    (hk : zz_KV RLw index RX_9 n y bytes maxL ret' ∧ zz_KX RLw index RX_9 n y bytes maxL ret') (hC : zz_Cn l D zzCl cA ad zzSC Ex y bytes maxL ret' rfc rlc f ∧ zz_Cx l D zzCl cA ad zzSC Ex y bytes maxL ret' rfc rlc f) (hR : rfc + 1 ≤ rf ∧ 8 + (maxL + 11) + rlc ≤ rl)
    (hlen : As.length = n) (hsz : ls.size = nL) (h8 : (rest.map fun v => v.category).sum ≤ 8) (hS : va_S (zz_A ad zzSC s.heap.size) s.heap H locs) (hP : va_P D zzCl (zz_wl ad cA zzSC M) H) (d : decode cc pc = .ok (.invokevirtual index, 3))
    (hr : zl_R cd b (f (.ref 0 :: As) M) k M2)
    (kv : ∀ (v : Int32) (M1 : zzMd), k = 0 → M2 = zz_sL M1 73 0 (zl_o b v) → ∀ (H1 : Heap) (locs1 : List Loc), va_S (zz_A ad zzSC s.heap.size) s.heap H1 locs1 → va_P D zzCl (zz_wl ad cA zzSC M1) H1 → W p l e R s m args below meth c H1 locs1 0 0 Q (F0 m (pc + 3) ls (.int v :: rest)))
    (kx : ∀ x : Nat, k = cd x → ¬ cd x = 0 → ∀ (H1 : Heap) (locs1 : List Loc) (q : Addr) (ce : Cell), va_S (zz_A ad zzSC s.heap.size) s.heap H1 locs1 → va_P D zzCl (zz_wl ad cA zzSC M2) H1 → H1[q]? = some ce → ce.vm = .none → s.vm.findClass (zz_xn x) = some ce.cls → vx_W p l e R s m args below meth c H1 locs1 1 6 Q (F0 m pc ls rest) q) :
    W p l e R s m args below meth c H locs 0 0 Q (F0 m pc ls ((As.map (zz_cv ad)).reverse ++ .ref (ad 0) :: rest)) := by
  obtain ⟨hx, hb, hml, hown, hts, hK, hE, hret, hlk, htab, hRf, hRl, hRc, hRs⟩ := X
  have hcl : zzCl[9]? = some (RX_9, zzT9, 5) := rfl
  have hlA : (As.map (zz_cv ad)).length = n := by rw [List.length_map]; exact hlen
  have hpre : ∀ M, va_P D zzCl (zz_wl ad cA zzSC M) H → PreV s H RX_9 (ad 0) (va_Pc (((Value.ref 0) :: As).map (zz_cv ad)) (zz_WB D zzCl cA ad zzSC Ex H.size M)) (As.map (zz_cv ad)) := fun M hP => ⟨zz_fb hEo, va_recv hK hP hcl (zz_wl_get (i := 0) (sh := (0, 9, 5, [3, 13, 14, 15, 0])) rfl), fun U hU hW => zz_pre hEo hE hK hS hP U hU hW⟩
  rcases hr with ⟨v, M1, hf, h1, h2⟩ | ⟨x, hf, h1, h2⟩
  · exact zz_after (a := ((Value.ref 0 :: As).map (zz_cv ad)).toArray) (v := some (.int v)) (M' := M1) (hk.1 p l e R s m args below meth c cc nL H locs _ _ _ 0 0 _ (ad 0) (As.map (zz_cv ad)) rest (F0 m pc ls ((As.map (zz_cv ad)).reverse ++ .ref (ad 0) :: rest)) ⟨hx, hb, hml, hown, hts⟩ (hEo.2.2.2.1 _ _ _ hE) (hC.1 H.size _ _ _ _ hf) rfl rfl (by rw [hRf, hRl]; exact hR) (hpre M hP) rfl hlA hsz rfl (lv_room h8) d ⟨Nat.zero_le _, Nat.zero_le _⟩) hS (fun H1 locs1 hS1 hP1 => kv v M1 h1 h2 H1 locs1 hS1 hP1)
  · exact zl_thrown (x := x) (M' := M2) (hk.2 p l e R s m args below meth c cc nL H locs _ _ _ _ 1 6 _ (ad 0) (As.map (zz_cv ad)) rest (F0 m pc ls ((As.map (zz_cv ad)).reverse ++ .ref (ad 0) :: rest)) ⟨hx, hb, hml, hown, hts⟩ (hC.2 H.size _ _ _ _ hf) rfl rfl (by rw [hRf, hRl]; exact hR) (hpre M hP) rfl hlA hsz rfl (lv_room h8) d ⟨by rw [hRc]; exact Nat.le_refl 1, by rw [hRs]; exact Nat.le_refl 6⟩) hS (fun H1 locs1 q ce => kx x h1 h2 H1 locs1 q ce)
theorem zl_catch (X : zl_Fx p l R s m args meth c cc nL RLw D cA ad Ex rf rl hh) (Xo : zl_XOk Ex) {x : Nat} {q : Addr} {ce : Cell} (hx : x < 3) (pre : List ExceptionTableEntry) (z : ExceptionTableEntry) (suf : List ExceptionTableEntry) (hsplit : tableOf hh = pre ++ z :: suf) (hcov : covers z pc = true) (hz : z.catchType = zl_ct x)
    (hpre : ∀ y ∈ pre, ∃ x', x' < 3 ∧ x' ≠ x ∧ y.catchType = zl_ct x') (hcell : H[q]? = some ce) (hv : ce.vm = .none) (hcl : s.vm.findClass (zz_xn x) = some ce.cls)
    (kk : W p l e R s m args below meth c H locs cells slots Q (F0 m z.handlerPc ls [.ref q])) : vx_W p l e R s m args below meth c H locs cells slots Q (F0 m pc ls rest) q := by
  obtain ⟨-, -, -, hown, hts, -, hE, -, -, htab, -⟩ := X
  obtain ⟨h1, h2⟩ := Xo _ _ _ hE
  refine vx_catch (own := RLw) (name := zz_xn x) (E := zz_xn x) hown pre z suf (htab.trans hsplit) (fun y hy => ?_) hcov (by rw [hz]; exact zl_ct_pos x) (by rw [hz]; exact hts _ (zl_link x hx)) (va_Nw.use rfl (h1 x hx)) hcell hv hcl kk
  obtain ⟨x', a1, a2, a3⟩ := hpre y hy
  exact Or.inr ⟨by rw [a3]; exact zl_ct_pos x', zz_xn x', by rw [a3]; exact hts _ (zl_link x' a1), h2 x x' hx a1 a2⟩
theorem zl_end (X : zl_Fx p l R s m args meth c cc nL RLw D cA ad Ex rf rl hh) {k : Int32} {M2 : zzMd} (hS : va_S (zz_A ad zzSC s.heap.size) s.heap H locs) (hP : va_P D zzCl (zz_wl ad cA zzSC M2) H) (d : decode cc pc = .ok (.ireturn, 1)) (h1 : cells ≤ 1) (h2 : slots ≤ 6) :
    W p l e R s m args below meth c H locs cells slots (MQ below (zz_Qn D zzCl cA ad zzSC s.heap.size (some (.int k)) M2) args s 1 6 (zz_A ad zzSC s.heap.size)) (F0 m pc ls [.int k]) := by
  obtain ⟨hx, hb, -, -, -, -, -, hret, hlk, -⟩ := X
  exact fun T hT Y => W.iret hx hb hret (fun t ht _ => ⟨rfl, by rw [ht]; exact hP, hS.F ht⟩) hS.2.2 d hlk T hT (stand_widen Y h1 h2)
theorem zl_last (X : zl_Fx p l R s m args meth c cc nL RLw D cA ad Ex rf rl hh) (hinj : ∀ i j, i < zzSC.length → j < zzSC.length → ad i = ad j → i = j) {M1 : zzMd} {v : Int64} (hS : va_S (zz_A ad zzSC s.heap.size) s.heap H locs) (hP : va_P D zzCl (zz_wl ad cA zzSC M1) H) (d : decode cc pc = .ok (.lastore, 1))
    (kk : ∀ (H1 : Heap) (locs1 : List Loc), va_S (zz_A ad zzSC s.heap.size) s.heap H1 locs1 → va_P D zzCl (zz_wl ad cA zzSC (zz_sL M1 73 0 v)) H1 → W p l e R s m args below meth c H1 locs1 cells slots Q (F0 m (pc + 1) ls rest)) : W p l e R s m args below meth c H locs cells slots Q (F0 m pc ls (.long v :: .int 0 :: .ref (ad 73) :: rest)) := by
  obtain ⟨hx, hb, -, -, -, hK, -⟩ := X
  have hi : zzSC[73]? = some (2, 2, 1, []) := rfl
  refine va_last hx hb hK hP (zz_wl_D hinj) hS 73 2 (zz_wl_get hi) rfl (zz_inb_in (by decide)) d (fun H1 locs1 hP1 _ hS1 => kk H1 locs1 hS1 ?_)
  show va_P D zzCl (zz_wl ad cA zzSC (zz_sL M1 73 (zz_ix 0) v)) H1
  rw [← zz_wl_set (M := M1) (M' := zz_sL M1 73 (zz_ix 0) v) hi (fun j hj => rfl) (fun j hj => zz_sL_1 hj)]
  rw [zz_sL_up] at hP1
  exact hP1
end
end

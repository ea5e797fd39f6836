section
/-! the law's machine: calls, and a method by its steps -/
def RLw : String := "ReconcilerHallLaw"
def lz_ct : Nat → Nat
  | 0 => 79
  | 1 => 81
  | _ => 77
theorem lz_ct_pos : ∀ x, ¬ lz_ct x = 0
  | 0 => by decide
  | 1 => by decide
  | _ + 2 => by show ¬ (77 = 0); decide
def lz_XOk (Ex : (Nat → Prop) → State → Heap → Prop) : Prop := ∀ (A : Nat → Prop) (U : State) (H : Heap), Ex A U H → (∀ x, x < 3 → va_Nw (.castable (zz_xn x) (zz_xn x)) U) ∧ ∀ x y, x < 3 → y < 3 → y ≠ x → va_Nc (zz_xn x) (zz_xn y) U
theorem lz_link : ∀ x, x < 3 → Cond.classLink RLw (lz_ct x) (zz_xn x) ∈ zzG0 := by
  intro x hx
  rcases (show x = 0 ∨ x = 1 ∨ x = 2 by omega) with rfl | rfl | rfl
  · exact zz_in (by decide +kernel)
  · exact zz_in (by decide +kernel)
  · exact zz_in (by decide +kernel)
variable {p : Program} {l : Launch} {e : Env} {R : Room} {s : State} {m : MethodId} {args : Array Value} {below : List Frame} {meth : Method} {c : Code} {cc : ByteArray} {nL : Nat} {own : String}
variable {D : va_G} {cl : List vw_C} {cA : Nat → ClassId} {ad : Nat → Nat} {S : List zzSh} {Ex : (Nat → Prop) → State → Heap → Prop} {ret : Option FieldType} {rf rl mc : Nat} {rr : lzRt} {pc nx : Nat}
theorem lz_fb (hE : zz_ExOk Ex) {av : List Value} {sz : Nat} {A : zzMd} : FrameBlind (va_Pc av (lz_WB D cl cA ad S Ex sz A)) := by
  intro a U g mk h
  obtain ⟨h1, h2, h3, h4, h5⟩ := h
  exact ⟨h1, h2, h3, va_K.moved (u := U) (U := U.calling g mk a) (Vm.Alike.refl U.vm) h4, hE.1 _ U (U.calling g mk a) _ (State.WarmedH.refl U) h5⟩
theorem lz_pre (hE : zz_ExOk Ex) (hEs : Ex (zz_A ad S s.heap.size) s s.heap) (hKn : va_K D cl (zz_tys cA) s) {H : Heap} {locs : List Loc} {A : zzMd} (hS : va_S (zz_A ad S s.heap.size) s.heap H locs) (hP : lz_P D cl cA ad S A H) {av : List Value} (U : State) (hU : U.heap = H) (hW : s.WarmedH U.vm) : va_Pc av (lz_WB D cl cA ad S Ex H.size A) av.toArray U := by
  refine ⟨rfl, by rw [hU], by rw [hU]; exact hP, va_K.moved hW.alike hKn, ?_⟩
  rw [hU]
  exact hE.2.2.1 _ _ _ _ (hE.1 _ _ _ _ hW (hE.2.1 _ _ _ _ hEs hS.2.1)) (fun q h1 h2 => zz_A_lt q h1 h2)
theorem lz_after {Q : State → Prop} {H : Heap} {locs : List Loc} {v : Option Value} {A' : zzMd} {a : Array Value} {ls : Array Slot} {st0 rest : List Value} {cells slots k ks : Nat} (hr : va_Run p l e R s m args below meth c H locs cells slots k ks (F0 m pc ls st0) rest (lz_Qn D cl cA ad S H.size v A' a) (zz_A ad S H.size)) (hS : va_S (zz_A ad S s.heap.size) s.heap H locs)
    (kk : ∀ (H1 : Heap) (locs1 : List Loc), va_S (zz_A ad S s.heap.size) s.heap H1 locs1 → lz_P D cl cA ad S A' H1 → W p l e R s m args below meth c H1 locs1 (cells + k) (slots + ks) Q (F0 m (pc + 3) ls ((v.map (zz_cv ad)).toList ++ rest))) : W p l e R s m args below meth c H locs cells slots Q (F0 m pc ls st0) := by
  intro T hT X
  obtain ⟨v', st₀, t, T', L, h0, X', hL, e1, e2, ⟨hv, hP, hF⟩, st⟩ := hr T hT X
  cases hv
  obtain ⟨t2, a1, b1⟩ := kk T'.heap (locs ++ L) (zz_S_after hS h0 e1 hL hF) (by rw [e1]; exact hP) T' rfl X'
  exact ⟨t2, st t2 a1, b1⟩
theorem lz_afterC {Q : State → Prop} {H : Heap} {locs : List Loc} {v : Option Value} {M' : zzMd} {a : Array Value} {ls : Array Slot} {st0 rest : List Value} {cells slots : Nat} (hr : va_Run p l e R s m args below meth c H locs cells slots 0 0 (F0 m pc ls st0) rest (zz_Qn D cl cA ad S H.size v M' a) (zz_A ad S H.size)) (hS : va_S (zz_A ad S s.heap.size) s.heap H locs)
    (kk : ∀ (H1 : Heap) (locs1 : List Loc), va_S (zz_A ad S s.heap.size) s.heap H1 locs1 → va_P D cl (zz_wl ad cA S M') H1 → W p l e R s m args below meth c H1 locs1 cells slots Q (F0 m (pc + 3) ls ((v.map (zz_cv ad)).toList ++ rest))) : W p l e R s m args below meth c H locs cells slots Q (F0 m pc ls st0) := by
  intro T hT X
  obtain ⟨v', st₀, t, T', L, h0, X', hL, e1, e2, ⟨hv, hP, hF⟩, st⟩ := hr T hT X
  cases hv
  obtain ⟨t2, a1, b1⟩ := kk T'.heap (locs ++ L) (zz_S_after hS h0 e1 hL hF) (by rw [e1]; exact hP) T' rfl X'
  exact ⟨t2, st t2 a1, b1⟩
theorem lz_thrown {Q : State → Prop} {H : Heap} {locs : List Loc} {x : Nat} {M' : zzMd} {ls : Array Slot} {st0 rest : List Value} {cells slots : Nat}
    (hr : vx_Run p l e R s m args below meth c H locs cells slots 1 6 (F0 m pc ls st0) rest (fun _ _ _ => False) (zz_Qx D cl cA ad S H.size x M') (zz_A ad S H.size)) (hS : va_S (zz_A ad S s.heap.size) s.heap H locs)
    (kk : ∀ (H1 : Heap) (locs1 : List Loc) (q : Addr) (ce : Cell), va_S (zz_A ad S s.heap.size) s.heap H1 locs1 → va_P D cl (zz_wl ad cA S M') H1 → H1[q]? = some ce → ce.vm = .none → s.vm.findClass (zz_xn x) = some ce.cls → vx_W p l e R s m args below meth c H1 locs1 (cells + 1) (slots + 6) Q (F0 m pc ls rest) q) : W p l e R s m args below meth c H locs cells slots Q (F0 m pc ls st0) := by
  intro T hT X
  rcases hr T hT X with ⟨v, st₀, t, T', L, h0, X', hL, e1, e2, hq, st⟩ | ⟨q, st₀, t, T', L, E, ce, h0, X', hL, e1, e2, ⟨hE, hP, hF⟩, hce, hcv, hcl, st⟩
  · exact hq.elim
  · subst hE
    obtain ⟨t2, a1, b1⟩ := kk T'.heap (locs ++ L) q ce (zz_S_after hS h0 e1 hL hF) (by rw [e1]; exact hP) (by rw [e1]; exact hce) hcv hcl T' rfl X'
    exact ⟨t2, st.trans a1, b1⟩
/-! the kinds of calls -/
def lz_KS (own : String) (index : Nat) (n : Nat) (y : MethodName) (w0 : Cond) (maxL : Nat) : Prop :=
  ∀ (p : Program) (l : Launch) (e : Env) (R : Room) (s : State) (m : MethodId) (args : Array Value) (below : List Frame) (meth : Method) (c : Code) (cc : ByteArray) (nL : Nat) (H : Heap) (locs : List Loc) (cells slots : Nat) (rm : Room) (Pc : Array Value → State → Prop) (Qc : Array Value → State → Outcome → State → Prop) (mc ms : Nat) (free : Addr → Prop) (As rest : List Value) (g : JFrame),
    CallFix p m c cc nL s args zzG0 own → Met l y (w0 :: zzG0) rm Pc Qc mc ms free → rm.cells = mc → rm.slots = ms → (rm.frames + 1 ≤ R.frames ∧ 8 + (maxL + 11) + rm.locals ≤ R.locals) → PreS s H Pc As → g.method = m → As.length = n → g.locals.size = nL → g.stack = As.reverse ++ rest → 2 * g.monitorRoom + (rest.map fun v => v.category).sum ≤ 8 → decode cc g.pc = .ok (.invokestatic index, 3) → (cells + mc ≤ R.cells ∧ slots + ms ≤ R.slots) →
    va_Run p l e R s m args below meth c H locs cells slots mc ms g rest (Qc As.toArray) free
theorem lz_ks {own : String} {index n maxL : Nat} {y : MethodName} {bytes : ByteArray} {ret : Option FieldType} (h : ∀ w ∈ wsS own index y [Cond.code y bytes maxL ret], w ∈ zzG0)
    (hd : y.cls = own ∧ y.cls ≠ "java/lang/invoke/MethodHandle" ∧ y.cls ≠ "java/lang/invoke/VarHandle" ∧ (parseMethodDescriptor y.desc).map (fun d => d.parameters.length) = some n) : lz_KS own index n y (Cond.code y bytes maxL ret) maxL := by
  intro p l e R s m args below meth c cc nL H locs cells slots rm Pc Qc mc ms free As rest g S hM hrc hrs hR hp hg hn hsize hstack hW hdg hf
  refine va_runS S hM (cwS n S.2.2.2.2 (zz_gin fun w hw => ?_) rfl hrc hrs hd hR) hp hg hn hsize hstack hW hdg hf
  rcases List.mem_append.mp hw with q | q
  · exact h w (List.mem_append_left _ q)
  · rcases List.mem_cons.mp q with q | q
    · rw [q]; exact h _ (List.mem_append_right _ List.mem_cons_self)
    · exact q
theorem lz_ksW {own : String} {index n maxL : Nat} {y : MethodName} {bytes : ByteArray} {ret : Option FieldType} {hh : List (Nat × Nat × Nat × Nat)} (h : ∀ w ∈ va_wsS own index y [Cond.codeWith y bytes maxL ret hh], w ∈ zzG0)
    (hd : y.cls ≠ "java/lang/invoke/MethodHandle" ∧ y.cls ≠ "java/lang/invoke/VarHandle" ∧ (parseMethodDescriptor y.desc).map (fun d => d.parameters.length) = some n) : lz_KS own index n y (Cond.codeWith y bytes maxL ret hh) maxL := by
  intro p l e R s m args below meth c cc nL H locs cells slots rm Pc Qc mc ms free As rest g S hM hrc hrs hR hp hg hn hsize hstack hW hdg hf
  refine vx_runSW S hM (vx_cwSW n S.2.2.2.2 (zz_gin fun w hw => ?_) rfl hrc hrs hd hR) hp hg hn hsize hstack hW hdg hf
  rcases List.mem_append.mp hw with q | q
  · exact h w (List.mem_append_left _ q)
  · rcases List.mem_cons.mp q with q | q
    · rw [q]; exact h _ (List.mem_append_right _ List.mem_cons_self)
    · exact q
theorem lk_calls (X : lz_Fx p l R s m args meth c cc nL own D cl cA ad S Ex ret rf rl mc) {f : lzFn} {n k index maxL rfc rlc : Nat} {y : MethodName} {w0 : Cond} (hk : lz_KS own index n y w0 maxL) (hC : lz_C l D cl cA ad S Ex y w0 rfc rlc k f) (hR : rfc + 1 ≤ rf ∧ 8 + (maxL + 11) + rlc ≤ rl)
    (d : decode cc pc = .ok (.invokestatic index, 3)) (hn : pc + 3 = nx) : lz_Ok (lz_G p l e R s m args below meth c D cl cA ad S nL mc rr) pc (lo_calls f n k mc nx) := by
  intro K L st M r hK h hr H locs ls hS hP hL
  obtain ⟨hx, hb, hml, hown, hts, hKn, hinj, hEo, hE, hret, hlk, hRf, hRl, hRc, hRs⟩ := X
  subst hn
  unfold lo_calls at h
  cases hbb : (decide (n ≤ st.length) && (zz_cat8 (st.drop n) && decide (M.2 + k ≤ mc))) with
  | false => rw [hbb] at h; cases h
  | true =>
    rw [hbb] at h
    obtain ⟨b1, b2⟩ := Bool.and_eq_true_iff.mp hbb
    obtain ⟨b2, b3⟩ := Bool.and_eq_true_iff.mp b2
    have hlen : n ≤ st.length := of_decide_eq_true b1
    have hle : M.2 + k ≤ mc := of_decide_eq_true b3
    have h : lz_bs K (pc + 3) L (st.drop n) (M.2 + k) (f (st.take n).reverse M.1) = some r := h
    rcases hf : f (st.take n).reverse M.1 with _ | ⟨_ | v, A'⟩
    · rw [hf] at h; cases h
    · rw [hf] at h; cases h
    · rw [hf] at h
      have h : K (pc + 3) L (v :: st.drop n) (A', M.2 + k) = some r := h
      have hM := hC H.size _ _ _ _ hf
      refine lz_after (a := (((st.take n).reverse).map (zz_cv ad)).toArray) (v := some v) (A' := A') (k := k) (ks := 6 * k) (hk p l e R s m args below meth c cc nL H locs _ _ _ _ _ k (6 * k) _ (((st.take n).reverse).map (zz_cv ad)) ((st.drop n).map (zz_cv ad)) (F0 m pc ls (st.map (zz_cv ad))) ⟨hx, hb, hml, hown, hts⟩ hM rfl rfl (by rw [hRf, hRl]; exact hR) ⟨lz_fb hEo, fun U hU hW => lz_pre hEo hE hKn hS hP U hU hW⟩ rfl (zz_len_take hlen) (zz_sz hL) (zz_map_take rfl) (lv_room (zz_cat8_map b2)) d ⟨Nat.le_trans hle hRc, by omega⟩) hS (fun H1 locs1 hS1 hP1 => ?_)
      have h6 : 6 * M.2 + 6 * k = 6 * (M.2 + k) := by omega
      rw [h6]
      exact hK _ _ _ _ h hr H1 locs1 ls hS1 hP1 hL
/-- a method of the class's object, which is the cell 0 -/
def lz_KC (own : String) (index n : Nat) (y : MethodName) (bytes : ByteArray) (maxL : Nat) (ret : Option FieldType) : Prop :=
  (∀ w ∈ wsV own index RX_9 y [Cond.code y bytes maxL ret], w ∈ zzG0) ∧ y.cls = RX_9 ∧ y.cls ≠ "java/lang/invoke/MethodHandle" ∧ y.cls ≠ "java/lang/invoke/VarHandle" ∧ (parseMethodDescriptor y.desc).map (fun d => d.parameters.length) = some n
theorem lz_kcG {own : String} {index n : Nat} {y : MethodName} {bytes : ByteArray} {maxL : Nat} {ret : Option FieldType} (h : lz_KC own index n y bytes maxL ret) : GoodIn zzG0 (wsV own index RX_9 y (Cond.code y bytes maxL ret :: zzG0)) := zz_gin fun w hw => by
  rcases List.mem_append.mp hw with q | q
  · exact h.1 w (List.mem_append_left _ q)
  · rcases List.mem_cons.mp q with q | q
    · rw [q]; exact h.1 _ (List.mem_append_right _ List.mem_cons_self)
    · exact q
theorem lk_callv (X : lz_Fx p l R s m args meth c cc nL own D zzCl cA ad zzSC Ex ret rf rl mc) {f : zzFn} {n index maxL rfc rlc : Nat} {y : MethodName} {bytes : ByteArray} {ret' : Option FieldType} (hk : lz_KC own index n y bytes maxL ret') (hC : zz_Cn l D zzCl cA ad zzSC Ex y bytes maxL ret' rfc rlc f ∧ zz_Cx l D zzCl cA ad zzSC Ex y bytes maxL ret' rfc rlc f) (hR : rfc + 1 ≤ rf ∧ 8 + (maxL + 11) + rlc ≤ rl)
    (d : decode cc pc = .ok (.invokevirtual index, 3)) (hn : pc + 3 = nx) : lz_Ok (lz_G p l e R s m args below meth c D zzCl cA ad zzSC nL mc rr) pc (lo_callv f n mc nx) := by
  intro K L st M r hK h hr H locs ls hS hP hL
  obtain ⟨hx, hb, hml, hown, hts, hKn, hinj, hEo, hE, hret, hlk, hRf, hRl, hRc, hRs⟩ := X
  subst hn
  unfold lo_callv at h
  split at h
  · rename_i r0 hdr
    cases hbb : (zz_cat8 r0 && decide (M.2 ≤ mc)) with
    | false => rw [hbb] at h; cases h
    | true =>
      rw [hbb] at h
      obtain ⟨b2, b3⟩ := Bool.and_eq_true_iff.mp hbb
      have hle : M.2 ≤ mc := of_decide_eq_true b3
      have h : lz_bv K (pc + 3) L r0 M.2 (lz_g f (.ref 0 :: (st.take n).reverse) M.1) = some r := h
      have hlen : n ≤ st.length := by
        have h1 : (st.drop n).length = r0.length + 1 := by rw [hdr]; rfl
        rw [List.length_drop] at h1
        omega
      obtain ⟨M0, hM0, hP0⟩ := hP
      rcases hf : lz_g f (.ref 0 :: (st.take n).reverse) M.1 with _ | ⟨(_ | v) | x, A'⟩
      · rw [hf] at h; cases h
      · rw [hf] at h; cases h
      · rw [hf] at h
        have h : K (pc + 3) L (v :: r0) (A', M.2) = some r := h
        obtain ⟨M1, f1, f2⟩ := lz_g_spec hf M0 hM0
        have hM := hC.1 H.size _ _ _ _ f1
        have hcl : zzCl[9]? = some (RX_9, zzT9, 5) := rfl
        refine lz_afterC (a := ((Value.ref 0 :: (st.take n).reverse).map (zz_cv ad)).toArray) (v := some v) (M' := M1) (va_runV (b := ad 0) (rest := r0.map (zz_cv ad)) (As := ((st.take n).reverse).map (zz_cv ad)) (g := F0 m pc ls (st.map (zz_cv ad))) ⟨hx, hb, hml, hown, hts⟩ hM (cwV n hts (lz_kcG hk) rfl rfl rfl hk.2 (by rw [hRf, hRl]; exact hR)) ⟨zz_fb hEo, va_recv hKn hP0 hcl (zz_wl_get (i := 0) (sh := (0, 9, 5, [3, 13, 14, 15, 0])) rfl), fun U hU hW => zz_pre hEo hE hKn hS hP0 U hU hW⟩ rfl (zz_len_take hlen) (zz_sz hL) (zz_map_take hdr) (lv_room (zz_cat8_map b2)) d ⟨Nat.le_trans hle hRc, Nat.le_trans (Nat.mul_le_mul_left 6 hle) hRs⟩) hS (fun H1 locs1 hS1 hP1 => ?_)
        exact hK _ _ _ _ h hr H1 locs1 ls hS1 ⟨M1, f2, hP1⟩ hL
      · rw [hf] at h; cases h
  · cases h
/-- a handler that answers a number -/
def lz_hd (cc : ByteArray) (hh : List (Nat × Nat × Nat × Nat)) (nL pc x : Nat) (v : Int32) : Prop :=
  x < 3 ∧ ∃ (pre : List ExceptionTableEntry) (z : ExceptionTableEntry) (suf : List ExceptionTableEntry) (i : Nat) (k : Int), tableOf hh = pre ++ z :: suf ∧ covers z pc = true ∧ z.catchType = lz_ct x ∧ (∀ y ∈ pre, ∃ x', x' < 3 ∧ x' ≠ x ∧ y.catchType = lz_ct x') ∧
    decode cc z.handlerPc = .ok (.astore i, 2) ∧ i < nL ∧ decode cc (z.handlerPc + 2) = .ok (.sipush k, 3) ∧ (Int16.ofInt k).toInt32 = v ∧ decode cc (z.handlerPc + 5) = .ok (.ireturn, 1)
theorem lk_callh (X : lz_Fx p l R s m args meth c cc nL RLw D zzCl cA ad zzSC Ex ret rf rl mc) {hh : List (Nat × Nat × Nat × Nat)} (htab : c.exceptionTable.toList = tableOf hh) (Xo : lz_XOk Ex) (hrt : ret = some .int) {f : zzFn} {hc : Nat → Option Int32} {n index maxL rfc rlc : Nat} {y : MethodName} {bytes : ByteArray} {ret' : Option FieldType} (hk : lz_KC RLw index n y bytes maxL ret') (hC : zz_Cn l D zzCl cA ad zzSC Ex y bytes maxL ret' rfc rlc f ∧ zz_Cx l D zzCl cA ad zzSC Ex y bytes maxL ret' rfc rlc f) (hR : rfc + 1 ≤ rf ∧ 8 + (maxL + 11) + rlc ≤ rl)
    (hd : ∀ x v, hc x = some v → lz_hd cc hh nL pc x v) (d : decode cc pc = .ok (.invokevirtual index, 3)) (hn : pc + 3 = nx) : lz_Ok (lz_G p l e R s m args below meth c D zzCl cA ad zzSC nL mc rr) pc (lo_callh f hc n mc nx) := by
  intro K L st M r hK h hr H locs ls hS hP hL
  obtain ⟨hx, hb, hml, hown, hts, hKn, hinj, hEo, hE, hret, hlk, hRf, hRl, hRc, hRs⟩ := X
  subst hn
  unfold lo_callh at h
  split at h
  · rename_i r0 hdr
    cases hbb : (zz_cat8 r0 && decide (M.2 ≤ mc)) with
    | false => rw [hbb] at h; cases h
    | true =>
      rw [hbb] at h
      obtain ⟨b2, b3⟩ := Bool.and_eq_true_iff.mp hbb
      have hle : M.2 ≤ mc := of_decide_eq_true b3
      have h : lz_bh K (pc + 3) L r0 M.2 mc hc (lz_g f (.ref 0 :: (st.take n).reverse) M.1) = some r := h
      have hlen : n ≤ st.length := by
        have h1 : (st.drop n).length = r0.length + 1 := by rw [hdr]; rfl
        rw [List.length_drop] at h1
        omega
      obtain ⟨M0, hM0, hP0⟩ := hP
      have hcl : zzCl[9]? = some (RX_9, zzT9, 5) := rfl
      rcases hf : lz_g f (.ref 0 :: (st.take n).reverse) M.1 with _ | ⟨(_ | v) | x, A'⟩
      · rw [hf] at h; cases h
      · rw [hf] at h; cases h
      · rw [hf] at h
        have h : K (pc + 3) L (v :: r0) (A', M.2) = some r := h
        obtain ⟨M1, f1, f2⟩ := lz_g_spec hf M0 hM0
        have hM := hC.1 H.size _ _ _ _ f1
        refine lz_afterC (a := ((Value.ref 0 :: (st.take n).reverse).map (zz_cv ad)).toArray) (v := some v) (M' := M1) (va_runV (b := ad 0) (rest := r0.map (zz_cv ad)) (As := ((st.take n).reverse).map (zz_cv ad)) (g := F0 m pc ls (st.map (zz_cv ad))) ⟨hx, hb, hml, hown, hts⟩ hM (cwV n hts (lz_kcG hk) rfl rfl rfl hk.2 (by rw [hRf, hRl]; exact hR)) ⟨zz_fb hEo, va_recv hKn hP0 hcl (zz_wl_get (i := 0) (sh := (0, 9, 5, [3, 13, 14, 15, 0])) rfl), fun U hU hW => zz_pre hEo hE hKn hS hP0 U hU hW⟩ rfl (zz_len_take hlen) (zz_sz hL) (zz_map_take hdr) (lv_room (zz_cat8_map b2)) d ⟨Nat.le_trans hle hRc, Nat.le_trans (Nat.mul_le_mul_left 6 hle) hRs⟩) hS (fun H1 locs1 hS1 hP1 => ?_)
        exact hK _ _ _ _ h hr H1 locs1 ls hS1 ⟨M1, f2, hP1⟩ hL
      · rw [hf] at h
        cases hcx : hc x with
        | none =>
          have h : (match hc x with
            | some x => bif decide (M.2 + 1 ≤ mc) then some (some (Value.int x), (A', M.2 + 1)) else none
            | none => none) = some r := h
          rw [hcx] at h; cases h
        | some v =>
          have h : (match hc x with
            | some x => bif decide (M.2 + 1 ≤ mc) then some (some (Value.int x), (A', M.2 + 1)) else none
            | none => none) = some r := h
          rw [hcx] at h
          have h : (bif decide (M.2 + 1 ≤ mc) then some (some (Value.int v), (A', M.2 + 1)) else none) = some r := h
          cases hb1 : decide (M.2 + 1 ≤ mc) with
          | false => rw [hb1] at h; cases h
          | true =>
            rw [hb1] at h
            have hle1 : M.2 + 1 ≤ mc := of_decide_eq_true hb1
            cases h
            subst hr
            obtain ⟨M1, f1, f2⟩ := lz_g_spec hf M0 hM0
            have hM := hC.2 H.size _ _ _ _ f1
            obtain ⟨hx3, pre, z, suf, i, k, t1, t2, t3, t4, t5, t6, t7, t8, t9⟩ := hd x v hcx
            refine lz_thrown (x := x) (M' := M1) (vx_runV (b := ad 0) (rest := r0.map (zz_cv ad)) (As := ((st.take n).reverse).map (zz_cv ad)) (g := F0 m pc ls (st.map (zz_cv ad))) ⟨hx, hb, hml, hown, hts⟩ hM (cwV n hts (lz_kcG hk) rfl rfl rfl hk.2 (by rw [hRf, hRl]; exact hR)) ⟨zz_fb hEo, va_recv hKn hP0 hcl (zz_wl_get (i := 0) (sh := (0, 9, 5, [3, 13, 14, 15, 0])) rfl), fun U hU hW => zz_pre hEo hE hKn hS hP0 U hU hW⟩ rfl (zz_len_take hlen) (zz_sz hL) (zz_map_take hdr) (lv_room (zz_cat8_map b2)) d ⟨Nat.le_trans hle1 hRc, by omega⟩) hS (fun H1 locs1 q ce hS1 hP1 g1 g2 g3 => ?_)
            obtain ⟨o1, o2⟩ := Xo _ _ _ hE
            refine vx_catch (own := RLw) (name := zz_xn x) (E := zz_xn x) hown pre z suf (htab.trans t1) (fun y hy => ?_) t2 (by rw [t3]; exact lz_ct_pos x) (by rw [t3]; exact hts _ (lz_link x hx3)) (va_Nw.use rfl (o1 x hx3)) g1 g2 g3 ?_
            · obtain ⟨x', a1, a2, a3⟩ := t4 y hy
              exact Or.inr ⟨by rw [a3]; exact lz_ct_pos x', zz_xn x', by rw [a3]; exact hts _ (lz_link x' a1), o2 x x' hx3 a1 a2⟩
            · refine lv_astore hx hb t5 (zz_L_has hL) t6 rfl (fun ls' hL' => ?_)
              refine lv_sipush hx hb t7 t8 ?_
              refine lz_widen hle1 (show 6 * M.2 + 6 ≤ 6 * mc by omega) ?_
              exact W.zret (ty := .int) (v := v) hx hb (hret.trans hrt) rfl (fun t ht _ => ⟨rfl, by rw [ht]; exact ⟨M1, f2, hP1⟩, hS1.F ht⟩) hS1.2.2 t9 hlk
  · cases h
/-! a method -/
noncomputable def lz_fn (T : List lzOp) (nL : Nat) : lzFn := fun As A => bif decide ((zz_args As).length ≤ nL) then (match lz_ev T 0 (zz_en nL As) [] (A, 0) with
  | some (v, M) => some (v, M.1)
  | none => none) else none
theorem lz_fn_ev {T : List lzOp} {nL : Nat} {As : List Value} {A A' : zzMd} {v : Option Value} (h : lz_fn T nL As A = some (v, A')) : (zz_args As).length ≤ nL ∧ ∃ n, lz_ev T 0 (zz_en nL As) [] (A, 0) = some (v, (A', n)) := by
  unfold lz_fn at h
  cases hbb : decide ((zz_args As).length ≤ nL) with
  | false => rw [hbb] at h; cases h
  | true =>
    rw [hbb] at h
    refine ⟨of_decide_eq_true hbb, ?_⟩
    rcases hq : lz_ev T 0 (zz_en nL As) [] (A, 0) with _ | ⟨v', A1, n⟩
    · rw [hq] at h; cases h
    · rw [hq] at h
      have h : some (v', A1) = some (v, A') := h
      cases h
      exact ⟨n, rfl⟩
theorem lz_fn_of {T : List lzOp} {nL : Nat} {As : List Value} {A A' : zzMd} {v : Option Value} {n : Nat} (hl : (zz_args As).length ≤ nL) (h : lz_ev T 0 (zz_en nL As) [] (A, 0) = some (v, (A', n))) : lz_fn T nL As A = some (v, A') := by
  unfold lz_fn
  rw [decide_eq_true hl, h]
  rfl
theorem lz_meth {T : List lzOp} {y : MethodName} {bytes : ByteArray} {maxL : Nat} (hy : plainFor y = true) (hinj : ∀ i j, i < S.length → j < S.length → ad i = ad j → i = j) (hEo : zz_ExOk Ex)
    (hall : ∀ (p : Program) (e : Env) (R : Room) (s : State) (m : MethodId) (args : Array Value) (below : List Frame) (meth : Method) (c : Code) (rr : lzRt), lz_Fx p l R s m args meth c bytes maxL y.cls D cl cA ad S Ex ret rf rl mc → lz_All (lz_G p l e R s m args below meth c D cl cA ad S maxL mc rr) 0 T) :
    lz_C l D cl cA ad S Ex y (Cond.code y bytes maxL ret) rf rl mc (lz_fn T maxL) := by
  intro sz As A v A' hf
  obtain ⟨hl, n, hev⟩ := lz_fn_ev hf
  refine zz_ofW (cc := bytes) (maxL := maxL) (ret := ret) hy rfl ?_
  intro p e s m args below meth c s₁ B hml hv
  obtain ⟨rfl, hsz, hP, hK, hE⟩ := hv
  subst hsz
  rw [lg_entry_eq]
  exact lz_sim (lz_All_pc (hall p e _ s m _ below meth c (v, (A', n)) ⟨B.exec, B.bytes, hml, findClass_of_methodNamed B.named, fun w hw => atoms_spec (ws := Cond.code y bytes maxL ret :: zzG0) B.pre w (List.mem_cons_of_mem _ hw), hK, hinj, hEo, hE, B.returns, B.notSynchronized, rfl, rfl, Nat.le_refl _, Nat.le_refl _⟩)) hev rfl s.heap [] _ va_S.rf hP (zz_L_en hl)
theorem lz_ofW {y : MethodName} {ws ws' : List Cond} {rm : Room} {Pc : Array Value → State → Prop} {Qc : Array Value → State → Outcome → State → Prop} {mc ms : Nat} {free : Addr → Prop} {cc : ByteArray} {maxL : Nat} {ret : Option FieldType} {hh : List (Nat × Nat × Nat × Nat)}
    (hy : plainName y.cls = true) (hw : ws = Cond.codeWith y cc maxL ret hh :: ws')
    (body : ∀ p e s m args below meth c s₁, BodyLoose p l y (headSpec ws rm) cc maxL ret e s m args below meth c s₁ → c.maxLocals = maxL → c.exceptionTable.toList = tableOf hh → Pc args s →
      W p l e (headSpec ws rm).room s m args below meth c s.heap [] 0 0 (MQ below Qc args s mc ms free) (entryFrame m args maxL)) : Met l y ws rm Pc Qc mc ms free := by
  refine MetFree.of_bodyS (code := cc) (maxLocals := maxL) (ret := ret) hy ?_ ?_
  · intro args s m h hn
    obtain ⟨m9, meth, c, hn9, h1, h2, h3, h4, -, h5, h6, -⟩ := Cond.codeWith_spec (atoms_spec (ws := ws) h _ (by rw [hw]; exact List.mem_cons_self))
    cases hn.symm.trans hn9
    exact ⟨meth, c, h1, h2, h3, h4, h5, h6⟩
  · intro p e s m args below meth c s₁ B hml hP _
    have hh0 : s₁.heap = s.heap := by rw [B.state]; rfl
    obtain ⟨t, a1, o, b1, b2, b3⟩ := body p e s m args below meth c s₁ B hml (vx_table (x := y) B (atoms_spec (ws := ws) B.pre _ (by rw [hw]; exact List.mem_cons_self))) hP s₁ hh0 (Stand.of_body B)
    exact ⟨t, o, a1, b1, b2, ⟨b3.1, b3.2⟩⟩
theorem lz_methW {T : List lzOp} {y : MethodName} {bytes : ByteArray} {maxL : Nat} {hh : List (Nat × Nat × Nat × Nat)} (hy : plainName y.cls = true) (hinj : ∀ i j, i < S.length → j < S.length → ad i = ad j → i = j) (hEo : zz_ExOk Ex)
    (hall : ∀ (p : Program) (e : Env) (R : Room) (s : State) (m : MethodId) (args : Array Value) (below : List Frame) (meth : Method) (c : Code) (rr : lzRt), lz_Fx p l R s m args meth c bytes maxL y.cls D cl cA ad S Ex ret rf rl mc → c.exceptionTable.toList = tableOf hh → lz_All (lz_G p l e R s m args below meth c D cl cA ad S maxL mc rr) 0 T) :
    lz_C l D cl cA ad S Ex y (Cond.codeWith y bytes maxL ret hh) rf rl mc (lz_fn T maxL) := by
  intro sz As A v A' hf
  obtain ⟨hl, n, hev⟩ := lz_fn_ev hf
  refine lz_ofW (cc := bytes) (maxL := maxL) (ret := ret) (hh := hh) hy rfl ?_
  intro p e s m args below meth c s₁ B hml ht hv
  obtain ⟨rfl, hsz, hP, hK, hE⟩ := hv
  subst hsz
  rw [lg_entry_eq]
  exact lz_sim (lz_All_pc (hall p e _ s m _ below meth c (v, (A', n)) ⟨B.exec, B.bytes, hml, findClass_of_methodNamed B.named, fun w hw => atoms_spec (ws := Cond.codeWith y bytes maxL ret hh :: zzG0) B.pre w (List.mem_cons_of_mem _ hw), hK, hinj, hEo, hE, B.returns, B.notSynchronized, rfl, rfl, Nat.le_refl _, Nat.le_refl _⟩ ht)) hev rfl s.heap [] _ va_S.rf hP (zz_L_en hl)
end

section
/-! the law: both worlds side by side -/
def zwA (s : State) : Nat → Prop := fun q => s.heap.size ≤ q
def zw_Fx (p : Program) (s : State) (m : MethodId) (meth : Method) (c : Code) (b L : Nat) (xs : Nat → Int32) (D : va_G) (cA : Nat → ClassId) (st : Nat → Nat) : Prop :=
  p.tables.exec = Jvm.exec ∧ c.code = code ∧ meth.sig.returnType = ret ∧ c.maxLocals = 7 ∧ s.vm.findClass RLw = some m.cls ∧ (∀ w ∈ zzG0, w.before #[Value.ref b] s = true) ∧ va_K D zzCl (zz_tys cA) s ∧ zEx st (zwA s) s s.heap ∧ va_X b L xs s s.heap ∧ b < s.heap.size ∧ meth.locks = false
theorem zw_at {ad : Nat → Nat} {cA : Nat → ClassId} {S : List zzSh} {M : zzMd} {k : Nat} {q : Nat × va_E} (hq : (zz_wl ad cA S M)[k]? = some q) : k < S.length ∧ q.1 = ad k := by
  simp only [zz_wl, List.getElem?_mapIdx] at hq
  cases h : S[k]? with
  | none => rw [h] at hq; cases hq
  | some sh => rw [h] at hq; cases hq; exact ⟨(List.getElem?_eq_some_iff.mp h).1, rfl⟩
section
variable {p : Program} {l : Launch} {e : Env} {s : State} {m : MethodId} {below : List Frame} {meth : Method} {c : Code} {b L : Nat} {xs : Nat → Int32}
variable {D : va_G} {cA : Nat → ClassId} {st : Nat → Nat} {H : Heap} {cells slots : Nat} {Q : State → Prop} {pc : Nat} {ls : Array Slot} {rest : List Value}
theorem zw_pre (X : zw_Fx p s m meth c b L xs D cA st) {S : List zzSh} {ax : Nat → Nat} {M : zzMd} (hge : ∀ i, i < S.length → s.heap.size ≤ ax i) (hS : va_S (zwA s) s.heap H []) (hP : va_P D zzCl (zz_wl ax cA S M) H) {av : List Value} (U : State) (hU : U.heap = H) (hW : s.WarmedH U.vm) : va_Pc av (zz_WB D zzCl cA ax S (zEx st) H.size M) av.toArray U := by
  obtain ⟨-, -, -, -, -, -, hK, hE, -⟩ := X
  refine ⟨rfl, by rw [hU], by rw [hU]; exact hP, va_K.moved hW.alike hK, ?_⟩
  rw [hU]
  exact (zEx_ok st).2.2.1 _ _ _ _ ((zEx_ok st).1 _ _ _ _ hW ((zEx_ok st).2.1 _ _ _ _ hE hS.2.1)) (fun q h1 h2 => h2.elim (fun ⟨i, hi, e⟩ => e ▸ hge i hi) (fun h => absurd h1 (Nat.not_lt.mpr h)))
theorem zw_after {S : List zzSh} {ax : Nat → Nat} {ws : va_W} {mc ms : Nat} {v : Option Value} {M' : zzMd} {a : Array Value} {st0 : List Value}
    (hr : va_Run p l e room_1 s m #[Value.ref b] below meth c H [] cells slots mc ms (F0 m pc ls st0) rest (zz_Qn D zzCl cA ax S H.size v M' a) (zz_A ax S H.size)) (hge : ∀ i, i < S.length → s.heap.size ≤ ax i) (hS : va_S (zwA s) s.heap H []) (hP2 : va_P D zzCl ws H) (hdis : ∀ (k : Nat) (x : Nat × va_E), ws[k]? = some x → ∀ i, i < S.length → x.1 ≠ ax i)
    (kk : ∀ H1 : Heap, va_S (zwA s) s.heap H1 [] → va_P D zzCl (zz_wl ax cA S M') H1 → va_P D zzCl ws H1 → W p l e room_1 s m #[Value.ref b] below meth c H1 [] (cells + mc) (slots + ms) Q (F0 m (pc + 3) ls ((v.map (zz_cv ax)).toList ++ rest))) : W p l e room_1 s m #[Value.ref b] below meth c H [] cells slots Q (F0 m pc ls st0) := by
  intro T hT X
  obtain ⟨v', st₀, t, T', L, h0, X', hL, e1, e2, ⟨hv, hP, hz, hk⟩, st⟩ := hr T hT X
  cases hv
  rw [h0] at hz hk
  have hS1 : va_S (zwA s) s.heap T'.heap [] := by
    refine ⟨Nat.le_trans hS.1 (by rw [e1]; exact hz), fun q h1 h2 => ?_, fun q hq => absurd hq List.not_mem_nil⟩
    rw [e1, hk q (Nat.lt_of_lt_of_le h1 hS.1) (fun z => z.elim (fun ⟨i, hi, e⟩ => absurd h1 (Nat.not_lt.mpr (e ▸ hge i hi))) (fun h => absurd (Nat.lt_of_lt_of_le h1 hS.1) (Nat.not_lt.mpr h)))]
    exact hS.2.1 q h1 h2
  have K := va_forget (locs := [] ++ L) (s := s) (fun q hq => (hL q hq).elim (fun ⟨i, hi, e⟩ => e ▸ hge i hi) (fun h => Nat.le_trans hS.1 h)) (kk T'.heap hS1 (by rw [e1]; exact hP) (hP2.kept (fun k x hx => by
    rw [e1]
    exact hk x.1 (hP2 k x hx).lt (fun z => z.elim (fun ⟨i, hi, e⟩ => hdis k x hx i hi e) (fun h => absurd (hP2 k x hx).lt (Nat.not_lt.mpr h))))))
  obtain ⟨t2, a1, b1⟩ := K T' rfl X'
  exact ⟨t2, st t2 a1, b1⟩
/-- a wrapper is called -/
theorem zw_wrap (X : zw_Fx p s m meth c b L xs D cA st) {ad : Nat → Nat} {ws : va_W} {index n maxL rfc rlc : Nat} {hh : List (Nat × Nat × Nat × Nat)} {y : MethodName} {bytes : ByteArray} {As : List Value} {M M2 : zzMd} {k : Int32} (hC : zl_C l D cA ad (zEx st) y bytes maxL hh rfc rlc As M k M2)
    (hw : ∀ w ∈ va_wsS RLw index y [Cond.codeWith y bytes maxL (some .int) hh], w ∈ zzG0) (hd : y.cls ≠ "java/lang/invoke/MethodHandle" ∧ y.cls ≠ "java/lang/invoke/VarHandle" ∧ (parseMethodDescriptor y.desc).map (fun d => d.parameters.length) = some n) (hR : rfc + 1 ≤ 12 ∧ 8 + (maxL + 11) + rlc ≤ 470)
    (hlen : As.length = n) (hsz : ls.size = 7) (h8 : (rest.map fun v => v.category).sum ≤ 8) (hf : cells + 1 ≤ 601024 ∧ slots + 6 ≤ 7293034) (hge : ∀ i, i < zzSC.length → s.heap.size ≤ ad i) (hS : va_S (zwA s) s.heap H []) (hP : va_P D zzCl (zz_wl ad cA zzSC M) H) (hP2 : va_P D zzCl ws H) (hdis : ∀ (k : Nat) (x : Nat × va_E), ws[k]? = some x → ∀ i, i < zzSC.length → x.1 ≠ ad i)
    (d : decode code pc = .ok (.invokestatic index, 3))
    (kk : ∀ H1 : Heap, va_S (zwA s) s.heap H1 [] → va_P D zzCl (zz_wl ad cA zzSC M2) H1 → va_P D zzCl ws H1 → W p l e room_1 s m #[Value.ref b] below meth c H1 [] (cells + 1) (slots + 6) Q (F0 m (pc + 3) ls (.int k :: rest))) : W p l e room_1 s m #[Value.ref b] below meth c H [] cells slots Q (F0 m pc ls ((As.map (zz_cv ad)).reverse ++ rest)) := by
  have X' := X
  obtain ⟨hx, hb, -, hml, hown, hG, -⟩ := X
  refine zw_after (a := (As.map (zz_cv ad)).toArray) (v := some (.int k)) (M' := M2) (vx_runSW (rest := rest) (As := As.map (zz_cv ad)) ⟨hx, hb, hml, hown, hG⟩ (hC H.size) (vx_cwSW n hG (zz_gin fun w hw' => ?_) rfl rfl rfl hd hR) ⟨zz_fb (zEx_ok st), fun U hU hW => zw_pre X' hge hS hP U hU hW⟩ rfl (by rw [List.length_map]; exact hlen) hsz rfl (lv_room h8) d hf) hge hS hP2 hdis kk
  rcases List.mem_append.mp hw' with q | q
  · exact hw w (List.mem_append_left _ q)
  · rcases List.mem_cons.mp q with q | q
    · rw [q]; exact hw _ (List.mem_append_right _ List.mem_cons_self)
    · exact q
/-- a method of one of both objects is called -/
theorem zw_virt (X : zw_Fx p s m meth c b L xs D cA st) {S : List zzSh} {ax : Nat → Nat} {ws : va_W} {f : zzFn} {ci nn N index n maxL rfc rlc : Nat} {ks : List Nat} {C : String} {T : u_T} {y : MethodName} {bytes : ByteArray} {ret' : Option FieldType} {As : List Value} {M M' : zzMd} {v : Option Value} (hC : zz_Cn l D zzCl cA ax S (zEx st) y bytes maxL ret' rfc rlc f) (hf : f (.ref 0 :: As) M = some (.inl v, M'))
    (hcl : zzCl[ci]? = some (C, T, N)) (hi : S[0]? = some (0, ci, nn, ks))
    (hw : ∀ w ∈ wsV RLw index C y [Cond.code y bytes maxL ret'], w ∈ zzG0) (hd : y.cls = C ∧ y.cls ≠ "java/lang/invoke/MethodHandle" ∧ y.cls ≠ "java/lang/invoke/VarHandle" ∧ (parseMethodDescriptor y.desc).map (fun d => d.parameters.length) = some n) (hR : rfc + 1 ≤ 12 ∧ 8 + (maxL + 11) + rlc ≤ 470)
    (hlen : As.length = n) (hsz : ls.size = 7) (h8 : (rest.map fun v => v.category).sum ≤ 8) (hcs : cells ≤ 601024 ∧ slots ≤ 7293034) (hge : ∀ i, i < S.length → s.heap.size ≤ ax i) (hS : va_S (zwA s) s.heap H []) (hP : va_P D zzCl (zz_wl ax cA S M) H) (hP2 : va_P D zzCl ws H) (hdis : ∀ (k : Nat) (x : Nat × va_E), ws[k]? = some x → ∀ i, i < S.length → x.1 ≠ ax i)
    (d : decode code pc = .ok (.invokevirtual index, 3))
    (kk : ∀ H1 : Heap, va_S (zwA s) s.heap H1 [] → va_P D zzCl (zz_wl ax cA S M') H1 → va_P D zzCl ws H1 → W p l e room_1 s m #[Value.ref b] below meth c H1 [] cells slots Q (F0 m (pc + 3) ls ((v.map (zz_cv ax)).toList ++ rest))) : W p l e room_1 s m #[Value.ref b] below meth c H [] cells slots Q (F0 m pc ls ((As.map (zz_cv ax)).reverse ++ .ref (ax 0) :: rest)) := by
  have X' := X
  obtain ⟨hx, hb, -, hml, hown, hG, hK, -⟩ := X
  refine zw_after (mc := 0) (ms := 0) (a := ((Value.ref 0 :: As).map (zz_cv ax)).toArray) (v := v) (M' := M') (va_runV (b := ax 0) (rest := rest) (As := As.map (zz_cv ax)) ⟨hx, hb, hml, hown, hG⟩ (hC H.size _ _ _ _ hf) (cwV n hG (zz_gin fun w hw' => ?_) rfl rfl rfl hd hR) ⟨zz_fb (zEx_ok st), va_recv hK hP hcl (zz_wl_get hi), fun U hU hW => zw_pre X' hge hS hP U hU hW⟩ rfl (by rw [List.length_map]; exact hlen) hsz rfl (lv_room h8) d hcs) hge hS hP2 hdis kk
  rcases List.mem_append.mp hw' with q | q
  · exact hw w (List.mem_append_left _ q)
  · rcases List.mem_cons.mp q with q | q
    · rw [q]; exact hw _ (List.mem_append_right _ List.mem_cons_self)
    · exact q
/-- the script is read -/
theorem zw_arg (X : zw_Fx p s m meth c b L xs D cA st) (hS : va_S (zwA s) s.heap H []) {t j : Nat} {n : Int} (ht : 7 * t + 7 ≤ L) (hj : j < 7) (hL : L ≤ 3584) (h0 : ls[0]? = some (.val (.ref b))) (h4 : ls[4]? = some (.val (.int (zn (7 * t)))))
    (d1 : decode code pc = .ok (.aload_n 0, 1)) (d2 : decode code (pc + 1) = .ok (.iload 4, 2)) (d3 : decode code (pc + 3) = .ok (.iconst n, 1)) (hn : Int32.ofInt n = zn j) (d4 : decode code (pc + 4) = .ok (.iadd, 1)) (d5 : decode code (pc + 5) = .ok (.iaload, 1))
    (kk : W p l e room_1 s m #[Value.ref b] below meth c H [] cells slots Q (F0 m (pc + 6) ls (.int (xs (7 * t + j)) :: rest))) : W p l e room_1 s m #[Value.ref b] below meth c H [] cells slots Q (F0 m pc ls rest) := by
  obtain ⟨hx, hb, -, -, -, -, -, -, hsc, hbl, -⟩ := X
  refine lv_aload_n hx hb d1 rfl h0 ?_
  refine lv_iload hx hb d2 h4 ?_
  refine lv_iconst (v := zn j) hx hb d3 hn ?_
  refine lv_iadd hx hb d4 ?_
  rw [zn_add]
  refine va_sld hx hb hsc hbl (fun h => absurd hbl (Nat.not_lt.mpr h)) hS (zz_inb_in (zn_inT (k := 7 * t + j) (n := L) (by omega) (by omega))) d5 ?_
  rw [show (zn (7 * t + j)).toNatClampNeg = 7 * t + j from zn_ix (by omega)]
  exact kk
theorem zw_arg6 (X : zw_Fx p s m meth c b L xs D cA st) (hS : va_S (zwA s) s.heap H []) {t j : Nat} {n : Int} (ht : 7 * t + 7 ≤ L) (hj : j < 7) (hL : L ≤ 3584) (h0 : ls[0]? = some (.val (.ref b))) (h4 : ls[4]? = some (.val (.int (zn (7 * t)))))
    (d1 : decode code pc = .ok (.aload_n 0, 1)) (d2 : decode code (pc + 1) = .ok (.iload 4, 2)) (d3 : decode code (pc + 3) = .ok (.bipush n, 2)) (hn : (Int8.ofInt n).toInt32 = zn j) (d4 : decode code (pc + 5) = .ok (.iadd, 1)) (d5 : decode code (pc + 6) = .ok (.iaload, 1))
    (kk : W p l e room_1 s m #[Value.ref b] below meth c H [] cells slots Q (F0 m (pc + 7) ls (.int (xs (7 * t + j)) :: rest))) : W p l e room_1 s m #[Value.ref b] below meth c H [] cells slots Q (F0 m pc ls rest) := by
  obtain ⟨hx, hb, -, -, -, -, -, -, hsc, hbl, -⟩ := X
  refine lv_aload_n hx hb d1 rfl h0 ?_
  refine lv_iload hx hb d2 h4 ?_
  refine lv_bipush (v := zn j) hx hb d3 hn ?_
  refine lv_iadd hx hb d4 ?_
  rw [zn_add]
  refine va_sld hx hb hsc hbl (fun h => absurd hbl (Nat.not_lt.mpr h)) hS (zz_inb_in (zn_inT (k := 7 * t + j) (n := L) (by omega) (by omega))) d5 ?_
  rw [show (zn (7 * t + j)).toNatClampNeg = 7 * t + j from zn_ix (by omega)]
  exact kk
def zw_b (x : Int32) : Int32 := if x = 0 then 0 else 1
theorem zw_bool (X : zw_Fx p s m meth c b L xs D cA st) {x : Int32} (d1 : decode code pc = .ok (.ifCond .eq 7, 3)) (d2 : decode code (pc + 3) = .ok (.iconst 1, 1)) (d3 : decode code (pc + 4) = .ok (.goto 4, 3)) (d4 : decode code (pc + 7) = .ok (.iconst 0, 1))
    (kk : W p l e room_1 s m #[Value.ref b] below meth c H [] cells slots Q (F0 m (pc + 8) ls (.int (zw_b x) :: rest))) : W p l e room_1 s m #[Value.ref b] below meth c H [] cells slots Q (F0 m pc ls (.int x :: rest)) := by
  obtain ⟨hx, hb, -⟩ := X
  refine lv_if_eq (tgt := pc + 7) hx hb d1 (by omega) (fun h => ?_) (fun h => ?_)
  · refine lv_iconst (v := 0) hx hb d4 (by decide) ?_
    rw [show zw_b x = 0 from if_pos h] at kk
    exact kk
  · refine lv_iconst (v := 1) hx hb d2 (by decide) ?_
    refine lv_goto (tgt := pc + 8) hx hb d3 (by omega) ?_
    rw [show zw_b x = 1 from if_neg h] at kk
    exact kk
theorem zw_b01 (x : Int32) : zw_b x = 0 ∨ zw_b x = 1 := by
  unfold zw_b
  by_cases h : x = 0
  · exact Or.inl (if_pos h)
  · exact Or.inr (if_neg h)
end
/-! both answer alike -/
theorem Rel_A1 {A A' R : zzMd} (h : A.1 = A'.1) : Rel A R ↔ Rel A' R := by
  obtain ⟨a, g⟩ := A
  obtain ⟨a', g'⟩ := A'
  have h : a = a' := h
  subst h
  exact Iff.rfl
theorem zw_agree {codes : List Int32} {b : Bool} {rc rr : Option zzRt} (h : zAg (cdl codes) rc rr) : ∃ (k v : Int32) (M2 R2 : zzMd), zl_R (cdl codes) b rc k M2 ∧ rr = some (.inl (some (.int v)), R2) ∧ R2.1 0 49 = k ∧ Rel (nz M2) R2 ∧ (k = 0 → M2.2 73 0 = zl_o b v) := by
  obtain ⟨M', R', H, ⟨v, h1, h2, h3⟩ | ⟨e, v, h1, h2, h3, h4⟩⟩ := h
  · refine ⟨0, v, zz_sL M' 73 0 (zl_o b v), R', Or.inl ⟨v, M', h1, rfl, rfl⟩, h2, h3, (Rel_A1 rfl).mp H, fun _ => ?_⟩
    show (if 73 = 73 ∧ 0 = 0 then zl_o b v else M'.2 73 0) = zl_o b v
    rw [if_pos ⟨rfl, rfl⟩]
  · exact ⟨cdl codes e, v, M', R', Or.inr ⟨e, h1, rfl, h4⟩, h2, h3, H, fun h => absurd h h4⟩
theorem r_thrown (R : zzMd) : fX12_thrown [.ref 0] R = some (.inl (some (.int (R.1 0 49))), R) := by
  rw [s_X12_thrown]
  (simp only [e_X12_thrown, zo_iload, zo_lload, zo_aload, zo_istore, zo_lstore, zo_astore, zo_iinc, zo_pushI, zo_pushL, zo_null, zo_ii, zo_iid, zo_ll, zo_li, zo_lcmp, zo_i2l, zo_l2i, zo_dup, zo_dup2, zo_pop, zo_goto, zo_if, zo_icmp, zo_ifnull, zo_gets, zo_mm, zo_throw, zo_ret, zo_aret, zo_lret, q_iret_f, q_iret_1, q_iret_0, q_iret_b, q_c8_0, q_c8_1, q_c8_2, q_c8_3, q_c8_4, q_set_0, q_set_1i, q_set_1r, q_set_1n, q_set_1N, q_set_s, q_set_1j, q_bk_v, q_bk_n, q_if, zb_ite, cond_true, cond_false, List.getElem?_cons_zero, List.getElem?_cons_succ, Nat.reduceAdd, q_set_1l, q_set2_0, q_set2_1i, q_set2_1r, q_set2_1n, q_set2_s, if_true, if_false, zb_eq0, zb_eq1, zn_1, not_true_eq_false, not_false_eq_true, ite_true, ite_false, if_true, if_false, q_iret_0, q_iret_1, decide_true, decide_false, decide_not, zb_t, zb_f, z10, z01, cond_true, cond_false, Bool.and_true, Bool.true_and, Bool.and_false, Bool.false_and, Bool.not_true, Bool.not_false, true_and, and_true, false_and, and_false, true_or, or_true, false_or, or_false, Bool.true_eq_false, Bool.false_eq_true, eq_self, reduceCtorEq, Bool.or_true, Bool.true_or, Bool.or_false, Bool.false_or])
end

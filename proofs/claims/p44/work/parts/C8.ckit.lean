section
def zwA (s : State) : Nat → Prop := fun q => s.heap.size ≤ q
def zw_Fx (p : Program) (s : State) (m : MethodId) (meth : Method) (c : Code) (b L : Nat) (xs : Nat → Int32) (D : va_G) (cA : Nat → ClassId) (st : Nat → Nat) : Prop :=
  p.tables.exec = Jvm.exec ∧ c.code = code ∧ meth.sig.returnType = ret ∧ c.maxLocals = 21 ∧ s.vm.findClass RLw = some m.cls ∧ (∀ w ∈ zzG0, w.before #[Value.ref b] s = true) ∧ va_K D zzCl (zz_tys cA) s ∧ zEx st (zwA s) s s.heap ∧ va_X b L xs s s.heap ∧ b < s.heap.size ∧ meth.locks = false
end
section
/-! the law from its entry -/
theorem va_P_l {D : va_G} {cl : List vw_C} {w1 w2 : va_W} {H : Heap} (h : va_P D cl (w1 ++ w2) H) : va_P D cl w1 H := fun k q hk => h k q (by rw [List.getElem?_append_left (List.getElem?_eq_some_iff.mp hk).1]; exact hk)
theorem va_P_r {D : va_G} {cl : List vw_C} {w1 w2 : va_W} {H : Heap} (h : va_P D cl (w1 ++ w2) H) : va_P D cl w2 H := fun k q hk => h (w1.length + k) q (by rw [List.getElem?_append_right (Nat.le_add_right _ _), Nat.add_sub_cancel_left]; exact hk)
theorem zw_rt {α : Type} {w1 w2 : List α} {k : Nat} {q : α} (h : w2[k]? = some q) : (w1 ++ w2)[w1.length + k]? = some q := by
  rw [List.getElem?_append_right (Nat.le_add_right _ _), Nat.add_sub_cancel_left]; exact h
theorem zw_lt {α : Type} {w1 w2 : List α} {k : Nat} {q : α} (h : w1[k]? = some q) : (w1 ++ w2)[k]? = some q := by
  rw [List.getElem?_append_left (List.getElem?_eq_some_iff.mp h).1]; exact h
theorem va_D_r {A : Nat → Prop} {w1 w2 : va_W} (h : va_D A (w1 ++ w2)) : va_D A w2 :=
  ⟨fun i j p q hi hj e => Nat.add_left_cancel (h.1 _ _ p q (zw_rt hi) (zw_rt hj) e), fun k q hk => h.2 _ q (zw_rt hk)⟩
theorem va_D_x {A : Nat → Prop} {w1 w2 : va_W} (h : va_D A (w1 ++ w2)) : ∀ (i j : Nat) (p q : Nat × va_E), w1[i]? = some p → w2[j]? = some q → p.1 ≠ q.1 := by
  intro i j p q hi hj e
  have h1 := h.1 _ _ p q (zw_lt hi) (zw_rt hj) e
  have h2 := (List.getElem?_eq_some_iff.mp hi).1
  omega
def zz_rb : zzSh → Bool
  | (0, _, _, ks) => ks.all fun x => decide (x < 75)
  | (_, _, _, ks) => ks.all fun x => decide (x < 73)
theorem zz_fs_cong {ad ad' : Nat → Nat} {f : Nat → Int32} {g : Nat → Int64} {ks : List Nat} (h : ∀ x, x < 73 → ad' x = ad x) (hk : (ks.all fun x => decide (x < 75)) = true) : zz_fs ad' f g ks = zz_fs ad f g ks := by
  refine List.ext_getElem? fun j => ?_
  simp only [zz_fs, List.getElem?_mapIdx]
  cases hq : ks[j]? with
  | none => rfl
  | some x =>
    have hx : x < 75 := of_decide_eq_true (List.all_eq_true.mp hk x (List.mem_of_getElem? hq))
    match x, hx with
    | 0, _ => rfl
    | 1, _ => rfl
    | x + 2, hx => show some (Value.ref (ad' x)) = some (Value.ref (ad x)); rw [h x (by omega)]
theorem zz_ce_cong {ad ad' : Nat → Nat} {cA : Nat → ClassId} {f : Nat → Int32} {g : Nat → Int64} {sh : zzSh} (h : ∀ x, x < 73 → ad' x = ad x) (hk : zz_rb sh = true) : zz_ce ad' cA sh f g = zz_ce ad cA sh f g := by
  match sh, hk with
  | (0, c, n, ks), hk => show Sum.inr (c, zz_fs ad' f g ks) = Sum.inr (c, zz_fs ad f g ks); rw [zz_fs_cong h hk]
  | (1, _, _, _), _ => rfl
  | (2, _, _, _), _ => rfl
  | (k + 3, t, n, rs), hk =>
    have e : (fun i : Nat => (rs[i]?).map ad') = fun i : Nat => (rs[i]?).map ad := by
      funext i
      cases hq : rs[i]? with
      | none => rfl
      | some x => show some (ad' x) = some (ad x); rw [h x (of_decide_eq_true (List.all_eq_true.mp hk x (List.mem_of_getElem? hq)))]
    show Sum.inl (cA t, n, Sum.inr (Sum.inr (Sum.inr (Sum.inr (fun i : Nat => (rs[i]?).map ad'))))) = Sum.inl (cA t, n, Sum.inr (Sum.inr (Sum.inr (Sum.inr (fun i : Nat => (rs[i]?).map ad)))))
    rw [e]
theorem zz_wl_cong {ad ad' : Nat → Nat} {cA : Nat → ClassId} {S : List zzSh} {M : zzMd} (h : ∀ x, x < 73 → ad' x = ad x) (hS : S.length ≤ 73) (hk : S.all zz_rb = true) : zz_wl ad' cA S M = zz_wl ad cA S M := by
  refine List.ext_getElem? fun i => ?_
  simp only [zz_wl, List.getElem?_mapIdx]
  cases hq : S[i]? with
  | none => rfl
  | some sh =>
    have hi := (List.getElem?_eq_some_iff.mp hq).1
    show some (ad' i, zz_ce ad' cA sh (M.1 i) (M.2 i)) = some (ad i, zz_ce ad cA sh (M.1 i) (M.2 i))
    rw [h i (by omega), zz_ce_cong h (List.all_eq_true.mp hk sh (List.mem_of_getElem? hq))]
theorem zz_wl_snoc {ad : Nat → Nat} {cA : Nat → ClassId} {S : List zzSh} {sh : zzSh} {M : zzMd} : zz_wl ad cA (S ++ [sh]) M = zz_wl ad cA S M ++ [(ad S.length, zz_ce ad cA sh (M.1 S.length) (M.2 S.length))] := by
  simp [zz_wl, List.mapIdx_append]
section
variable {p : Program} {l : Launch} {e : Env} {s : State} {m : MethodId} {below : List Frame} {meth : Method} {c : Code} {b : Nat}
variable {D : va_G} {cA : Nat → ClassId} {Ex : (Nat → Prop) → State → Heap → Prop} {H : Heap} {cells slots : Nat} {Q : State → Prop} {pc : Nat} {ls : Array Slot} {rest : List Value}
/-- the law calls a constructor; the other world stays -/
theorem zw_ctor {index rfc rlc mc ms b0 maxL : Nat} {y : MethodName} {bytes : ByteArray} {ws ws2 : va_W} {Wp : Option Value → va_W → Prop} (hC : zi_C l D cA Ex y bytes maxL none rfc rlc mc ms [.ref b0] ws Wp)
    (hx : p.tables.exec = Jvm.exec) (hb : c.code = code) (hml : c.maxLocals = 21) (hown : s.vm.findClass RLw = some m.cls) (hG : ∀ w ∈ zzG0, w.before #[Value.ref b] s = true) (hK : va_K D zzCl (zz_tys cA) s) (hX : zi_X s) (hEo : zz_ExOk Ex) (hE : Ex (zwA s) s s.heap)
    (w1 : Cond.code y bytes maxL none ∈ zzG0) (w2 : Cond.initialized y.cls ∈ zzG0) (w3 : Cond.methodLink RLw index y ∈ zzG0) (w4 : Cond.instanceMethod y ∈ zzG0) (hy1 : y.name = "<init>")
    (hd : y.cls ≠ "java/lang/invoke/MethodHandle" ∧ y.cls ≠ "java/lang/invoke/VarHandle" ∧ (parseMethodDescriptor y.desc).map (fun d => d.parameters.length) = some 0) (hR : rfc + 1 ≤ 14 ∧ 8 + (maxL + 11) + rlc ≤ 556) (hf : cells + mc ≤ 799552 ∧ slots + ms ≤ 6703113)
    (hsz : ls.size = 21) (h8 : (rest.map fun v => v.category).sum ≤ 8) (hP : va_P D zzCl ws H) (hD : va_D (zwA s) ws) (hP2 : va_P D zzCl ws2 H) (hdis : ∀ (i j : Nat) (p q : Nat × va_E), ws2[i]? = some p → ws[j]? = some q → p.1 ≠ q.1) (hS : va_S (zwA s) s.heap H []) (d : decode code pc = .ok (.invokespecial index, 3))
    (kk : ∀ (v : Option Value) (w : va_W) (H1 : Heap), Wp v w → va_P D zzCl w H1 → va_D (zwA s) w → (∀ (k : Nat) (q : Nat × va_E), w[k]? = some q → va_A ws H.size q.1) → va_P D zzCl ws2 H1 → va_S (zwA s) s.heap H1 [] → W p l e room_1 s m #[Value.ref b] below meth c H1 [] (cells + mc) (slots + ms) Q (F0 m (pc + 3) ls (v.toList ++ rest))) :
    W p l e room_1 s m #[Value.ref b] below meth c H [] cells slots Q (F0 m pc ls (.ref b0 :: rest)) := by
  have hI : ∀ q, va_A ws H.size q → zwA s q := zi_imp hD hS (fun _ h => h)
  have hr : va_Run p l e room_1 s m #[Value.ref b] below meth c H [] cells slots mc ms (F0 m pc ls (.ref b0 :: rest)) rest (zi_Q D ws H.size Wp #[Value.ref b0]) (va_A ws H.size) := va_runI (b := b0) (As := []) (rest := rest) (g := F0 m pc ls (.ref b0 :: rest)) ⟨hx, hb, hml, hown, hG⟩ (hC H.size) (cwI 0 hG (zz_inC (ws := []) w1) rfl rfl rfl (hG _ w2) (hG _ w3) (hG _ w4) hy1 hd hR) ⟨zi_fb hEo, fun U hU hW => zi_pre hEo hK hX hE hP hD hS (fun _ h => h) U hU hW⟩ rfl rfl hsz rfl (lv_room h8) d hf
  intro T hT X
  obtain ⟨v, st₀, t, T', L, h0, X', hL, e1, e2, ⟨⟨v', w, hv, hw, hPw, hDw⟩, hz, hk⟩, st⟩ := hr T hT X
  cases hv
  rw [h0] at hz hk
  have hS1 : va_S (zwA s) s.heap T'.heap [] := by
    refine ⟨Nat.le_trans hS.1 (by rw [e1]; exact hz), fun q h1 h2 => ?_, fun q hq => absurd hq List.not_mem_nil⟩
    rw [e1, hk q (Nat.lt_of_lt_of_le h1 hS.1) (fun z => h2 (hI q z))]
    exact hS.2.1 q h1 h2
  have K := va_forget (locs := [] ++ L) (s := s) (fun q hq => hI _ (hL q hq)) (kk v w T'.heap hw (by rw [e1]; exact hPw) ⟨hDw.1, fun k q hk => hI _ (hDw.2 k q hk)⟩ hDw.2 (hP2.kept (fun k x hx => by
    rw [e1]
    exact hk x.1 (hP2 k x hx).lt (fun z => z.elim (fun ⟨j, e', hj⟩ => hdis k j x (x.1, e') hx hj rfl) (fun h => absurd (hP2 k x hx).lt (Nat.not_lt.mpr h))))) hS1)
  obtain ⟨t2, a1, b1⟩ := K T' rfl X'
  exact ⟨t2, st t2 a1, b1⟩
end
end

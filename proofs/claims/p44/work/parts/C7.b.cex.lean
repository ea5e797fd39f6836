section
/-! what lies outside of both worlds: static tables, texts, words -/
theorem va_T_to {ty : FieldType} {t N : Nat} {f : Nat → Value} {A B : Nat → Prop} {U : State} {H : Heap} (h : va_T ty t N f A U H) (hB : ∀ a : Nat, a < H.size → ¬ B a) : va_T ty t N f B U H := by
  obtain ⟨cell, h1, h2, h3, h4, h5, h6, -⟩ := h
  exact ⟨cell, h1, h2, h3, h4, h5, h6, hB _ (Array.getElem?_eq_some_iff.mp h1).1⟩
theorem va_T_nar {ty : FieldType} {t N : Nat} {f : Nat → Value} {A B : Nat → Prop} {U : State} {H : Heap} (h : va_T ty t N f A U H) (hB : ∀ a : Nat, a < H.size → B a → A a) : va_T ty t N f B U H := by
  obtain ⟨cell, h1, h2, h3, h4, h5, h6, h7⟩ := h
  exact ⟨cell, h1, h2, h3, h4, h5, h6, fun z => h7 (hB _ (Array.getElem?_eq_some_iff.mp h1).1 z)⟩
theorem va_Z_nar {C n d : String} {v : Value} {A B : Nat → Prop} {U : State} {H : Heap} (h : va_Z C n d v A U H) (hB : ∀ a : Nat, a < H.size → B a → A a) : va_Z C n d v B U H := by
  obtain ⟨cf, kf, fi, f, a, cell, h1, h2, h3, h4, h5, h6, h7, h8⟩ := h
  exact ⟨cf, kf, fi, f, a, cell, h1, h2, h3, h4, h5, h6, h7, fun z => h8 (hB _ (Array.getElem?_eq_some_iff.mp h5).1 z)⟩
theorem vx_L_nar {C n d : String} {A B : Nat → Prop} {U : State} {H : Heap} (h : vx_L C n d A U H) (hB : ∀ a : Nat, a < H.size → B a → A a) : vx_L C n d B U H := by
  obtain ⟨c, k, i, f, a, cell, h1, h2, h3, h4, h5, h6, h7, h8, h9, h10⟩ := h
  exact ⟨c, k, i, f, a, cell, h1, h2, h3, h4, h5, h6, h7, h8, h9, fun z => h10 (hB _ (Array.getElem?_eq_some_iff.mp h5).1 z)⟩
theorem vx_Zq_nar {C n d : String} {A B : Nat → Prop} {U : State} {H : Heap} (h : vx_Zq C n d A U H) (hB : ∀ a : Nat, a < H.size → B a → A a) : vx_Zq C n d B U H :=
  ⟨h.1.elim (fun h => Or.inl (va_Z_nar h hB)) (fun ⟨t, h⟩ => Or.inr ⟨t, va_Z_nar h hB⟩), vx_L_nar h.2 hB⟩
def zEx (ad : Nat → Nat) (A : Nat → Prop) (U : State) (H : Heap) : Prop :=
  (∀ (k : Nat) (t : List Int32), zzSTC[k]? = some t → va_T .int (ad (1000 + k)) t.length (fun j => .int (t.getD j 0)) A U H) ∧
  (va_Z "ReconcilerHall" "LEAST" "[I" (.ref (ad 1000)) A U H ∧ va_Z "ReconcilerHall" "GREATEST" "[I" (.ref (ad 1001)) A U H ∧ va_Z "ReconcilerHall" "FIRST" "[I" (.ref (ad 1002)) A U H ∧ va_Z "ReconcilerHall" "FIELDS_OF_KIND" "[I" (.ref (ad 1003)) A U H) ∧
  (∀ q ∈ zzStr, ∃ a, vk_R q.1 q.2.1 q.2.2 a U) ∧ (∀ w ∈ zzNW, va_Nw w U) ∧ (vx_Zq Bundle.tN "UNASSIGNED_STACK" Bundle.steD A U H ∧ vx_Zq Bundle.tN "SUPPRESSED_SENTINEL" Bundle.listD A U H) ∧
  (∀ x, x < 3 → va_Nw (.castable (zz_xn x) (zz_xn x)) U) ∧ ∀ x y, x < 3 → y < 3 → y ≠ x → va_Nc (zz_xn x) (zz_xn y) U
theorem zzNW_warm {s U : State} (hW : s.WarmedH U.vm) (h : ∀ w ∈ zzNW, va_Nw w s) : ∀ w ∈ zzNW, va_Nw w U := by
  have h0 := h _ (List.mem_of_getElem? (i := 0) rfl)
  have h1 := h _ (List.mem_of_getElem? (i := 1) rfl)
  have h2 := h _ (List.mem_of_getElem? (i := 2) rfl)
  have h3 := h _ (List.mem_of_getElem? (i := 3) rfl)
  have h4 := h _ (List.mem_of_getElem? (i := 4) rfl)
  have h5 := h _ (List.mem_of_getElem? (i := 5) rfl)
  have h6 := h _ (List.mem_of_getElem? (i := 6) rfl)
  have h7 := h _ (List.mem_of_getElem? (i := 7) rfl)
  have h8 := h _ (List.mem_of_getElem? (i := 8) rfl)
  have h9 := h _ (List.mem_of_getElem? (i := 9) rfl)
  exact List.forall_mem_cons.mpr ⟨va_Nw.warmD hW h0, List.forall_mem_cons.mpr ⟨va_Nw.warmD hW h1, List.forall_mem_cons.mpr ⟨va_Nw.warmF hW h2, List.forall_mem_cons.mpr ⟨va_Nw.warmM hW h3, List.forall_mem_cons.mpr ⟨va_Nw.warmC hW h4, List.forall_mem_cons.mpr ⟨va_Nw.warmC hW h5, List.forall_mem_cons.mpr ⟨va_Nw.warmC hW h6, List.forall_mem_cons.mpr ⟨va_Nw.warmD hW h7, List.forall_mem_cons.mpr ⟨va_Nw.warmD hW h8, List.forall_mem_cons.mpr ⟨va_Nw.warmD hW h9, fun _ h => absurd h List.not_mem_nil⟩⟩⟩⟩⟩⟩⟩⟩⟩⟩
theorem zEx_ok (ad : Nat → Nat) : zz_ExOk (zEx ad) := by
  refine ⟨fun A u U H hW h => ?_, fun A U H H1 h hq => ?_, fun A B U H h hB => ?_, fun A U H h => h.2.2.2.1, fun A U H h => h.2.2.2.2.1⟩
  · obtain ⟨h1, ⟨z1, z2, z3, z4⟩, h3, h4, ⟨h5, h6⟩, h7, h8⟩ := h
    have hA := hW.alike
    exact ⟨fun k t hk => (h1 k t hk).moved hA, ⟨z1.moved hA, z2.moved hA, z3.moved hA, z4.moved hA⟩, fun q hq => (h3 q hq).imp fun a h => h.warm hW, zzNW_warm hW h4, ⟨h5.moved hA, h6.moved hA⟩, fun x hx => va_Nw.warmC hW (h7 x hx), fun x y hx hy hn => (h8 x y hx hy hn).moved hA⟩
  · obtain ⟨h1, ⟨z1, z2, z3, z4⟩, h3, h4, ⟨h5, h6⟩, h7, h8⟩ := h
    exact ⟨fun k t hk => (h1 k t hk).kept hq, ⟨z1.kept hq, z2.kept hq, z3.kept hq, z4.kept hq⟩, h3, h4, ⟨h5.kept hq, h6.kept hq⟩, h7, h8⟩
  · obtain ⟨h1, ⟨z1, z2, z3, z4⟩, h3, h4, ⟨h5, h6⟩, h7, h8⟩ := h
    exact ⟨fun k t hk => va_T_nar (h1 k t hk) hB, ⟨va_Z_nar z1 hB, va_Z_nar z2 hB, va_Z_nar z3 hB, va_Z_nar z4 hB⟩, h3, h4, ⟨vx_Zq_nar h5 hB, vx_Zq_nar h6 hB⟩, h7, h8⟩
theorem zEx_XOk (ad : Nat → Nat) : lz_XOk (zEx ad) := fun _ _ _ h => ⟨h.2.2.2.2.2.1, h.2.2.2.2.2.2⟩
theorem zEx_WC {l : Launch} {D : va_G} {cA : Nat → ClassId} {ad : Nat → Nat} (hl : l.stackTraces = false) (hinj : ∀ i j, i < zzSC.length → j < zzSC.length → ad i = ad j → i = j) : zzWC l D cA ad (zEx ad) :=
  ⟨hl, hinj, zEx_ok ad, fun A U H h => h.1, fun A U H h => h.2.1.1, fun A U H h => h.2.1.2.1, fun A U H h => h.2.1.2.2.1, fun A U H h => h.2.1.2.2.2, fun q hq A U H h => h.2.2.1 q hq⟩
theorem zEx_ad {ad ad' : Nat → Nat} {A : Nat → Prop} {U : State} {H : Heap} (h : ∀ k, k < 4 → ad' (1000 + k) = ad (1000 + k)) (hE : zEx ad A U H) : zEx ad' A U H := by
  obtain ⟨h1, ⟨z1, z2, z3, z4⟩, h2⟩ := hE
  refine ⟨fun k t hk => ?_, ⟨?_, ?_, ?_, ?_⟩, h2⟩
  · have hk4 : k < 4 := by
      have := (List.getElem?_eq_some_iff.mp hk).1
      exact this
    rw [h k hk4]; exact h1 k t hk
  · rw [show ad' 1000 = ad 1000 from h 0 (by decide)]; exact z1
  · rw [show ad' 1001 = ad 1001 from h 1 (by decide)]; exact z2
  · rw [show ad' 1002 = ad 1002 from h 2 (by decide)]; exact z3
  · rw [show ad' 1003 = ad 1003 from h 3 (by decide)]; exact z4
/-- the statement's givens, one by one -/
def zzFl : List Cond := flatC (Jvm.Cond.and given_1 narrow_1)
end
section
/-- .. and the script -/
def zExS (sc : List Int32) (ad : Nat → Nat) (A : Nat → Prop) (U : State) (H : Heap) : Prop := zEx ad A U H ∧ va_T .int (ad 1004) sc.length (fun j => .int (sc.getD j 0)) A U H
theorem zExS_ok (sc : List Int32) (ad : Nat → Nat) : zz_ExOk (zExS sc ad) := by
  obtain ⟨h1, h2, h3, h4, h5⟩ := zEx_ok ad
  exact ⟨fun A u U H hW h => ⟨h1 A u U H hW h.1, h.2.moved hW.alike⟩, fun A U H H1 h hq => ⟨h2 A U H H1 h.1 hq, h.2.kept hq⟩, fun A B U H h hB => ⟨h3 A B U H h.1 hB, va_T_nar h.2 hB⟩, fun A U H h => h4 A U H h.1, fun A U H h => h5 A U H h.1⟩
theorem zExS_Wd {l : Launch} {D : va_G} {cA : Nat → ClassId} {ad : Nat → Nat} {sc : List Int32} (hl : l.stackTraces = false) (hinj : ∀ i j, i < zzSC.length → j < zzSC.length → ad i = ad j → i = j) : lzWd l D cA ad (zExS sc ad) sc := by
  refine ⟨⟨hl, hinj, zExS_ok sc ad, fun A U H h => h.1.1, fun A U H h => h.1.2.1.1, fun A U H h => h.1.2.1.2.1, fun A U H h => h.1.2.1.2.2.1, fun A U H h => h.1.2.1.2.2.2, fun q hq A U H h => h.1.2.2.1 q hq⟩, fun A U H h => zEx_XOk ad A U H h.1, fun A U H h k t hk => ?_⟩
  by_cases h4 : k < 4
  · rw [List.getElem?_append_left (show k < zzSTC.length from h4)] at hk
    exact h.1.1 k t hk
  · rw [List.getElem?_append_right (show zzSTC.length ≤ k from Nat.not_lt.mp h4)] at hk
    have hk0 : ([sc] : List (List Int32))[k - 4]? = some t := hk
    have k4 : k = 4 := by
      have := (List.getElem?_eq_some_iff.mp hk0).1
      simp only [List.length_cons, List.length_nil] at this
      omega
    subst k4
    cases hk0
    exact h.2
end

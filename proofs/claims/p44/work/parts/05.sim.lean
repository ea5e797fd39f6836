section
/-! THE TIE: what a step of my own machine does, the machine of the model does over the cells of a world. -/
def zz_cv (ad : Nat → Nat) : Value → Value
  | .ref i => .ref (ad i)
  | v => v
theorem zz_cv_cat (ad : Nat → Nat) (v : Value) : (zz_cv ad v).category = v.category := by cases v <;> rfl
def zz_fv (ad : Nat → Nat) (f : Nat → Int32) (g : Nat → Int64) (k : Nat) : Nat → Value
  | 0 => .int (f k)
  | 1 => .long (g k)
  | j + 2 => .ref (ad j)
def zz_fs (ad : Nat → Nat) (f : Nat → Int32) (g : Nat → Int64) (ks : List Nat) : List Value := ks.mapIdx (fun k x => zz_fv ad f g k x)
def zz_ce (ad : Nat → Nat) (cA : Nat → ClassId) (sh : zzSh) (f : Nat → Int32) (g : Nat → Int64) : va_E := match sh with
  | (0, c, _, ks) => .inr (c, zz_fs ad f g ks)
  | (1, t, n, _) => .inl (cA t, n, .inl f)
  | (2, t, n, _) => .inl (cA t, n, .inr (.inl g))
  | (_, t, n, rs) => .inl (cA t, n, .inr (.inr (.inr (.inr (fun k => (rs[k]?).map ad)))))
def zz_wl (ad : Nat → Nat) (cA : Nat → ClassId) (S : List zzSh) (M : zzMd) : va_W := S.mapIdx (fun i sh => (ad i, zz_ce ad cA sh (M.1 i) (M.2 i)))
def zz_tys (cA : Nat → ClassId) : List (ClassId × FieldType) := [(cA 0, .int), (cA 1, .boolean), (cA 3, .object "ReconcilerHall$Controller")]
theorem zz_wl_get {ad : Nat → Nat} {cA : Nat → ClassId} {S : List zzSh} {M : zzMd} {i : Nat} {sh : zzSh} (h : S[i]? = some sh) : (zz_wl ad cA S M)[i]? = some (ad i, zz_ce ad cA sh (M.1 i) (M.2 i)) := by
  simp [zz_wl, List.getElem?_mapIdx, h]
theorem zz_wl_set {ad : Nat → Nat} {cA : Nat → ClassId} {S : List zzSh} {M M' : zzMd} {i : Nat} {sh : zzSh} (h : S[i]? = some sh) (h1 : ∀ j, j ≠ i → M'.1 j = M.1 j) (h2 : ∀ j, j ≠ i → M'.2 j = M.2 j) :
    (zz_wl ad cA S M).set i (ad i, zz_ce ad cA sh (M'.1 i) (M'.2 i)) = zz_wl ad cA S M' := by
  apply List.ext_getElem?
  intro j
  have hl : i < S.length := (List.getElem?_eq_some_iff.mp h).1
  rw [List.getElem?_set]
  by_cases hj : i = j
  · subst hj
    rw [if_pos rfl, zz_wl_get h, if_pos (by simp [zz_wl]; exact hl)]
  · rw [if_neg hj]
    simp only [zz_wl, List.getElem?_mapIdx]
    rw [h1 j (fun q => hj q.symm), h2 j (fun q => hj q.symm)]
theorem zz_fs_get {ad : Nat → Nat} {f : Nat → Int32} {g : Nat → Int64} {ks : List Nat} {k x : Nat} (h : ks[k]? = some x) : (zz_fs ad f g ks)[k]? = some (zz_fv ad f g k x) := by
  simp [zz_fs, List.getElem?_mapIdx, h]
theorem zz_fs_len {ad : Nat → Nat} {f : Nat → Int32} {g : Nat → Int64} {ks : List Nat} : (zz_fs ad f g ks).length = ks.length := by simp [zz_fs]
theorem zz_fs_set {ad : Nat → Nat} {f f' : Nat → Int32} {g : Nat → Int64} {ks : List Nat} {k : Nat} {x : Int32} (h : ks[k]? = some 0) (hk : f' k = x) (ho : ∀ j, j ≠ k → f' j = f j) : (zz_fs ad f g ks).set k (.int x) = zz_fs ad f' g ks := by
  apply List.ext_getElem?
  intro j
  have hl : k < ks.length := (List.getElem?_eq_some_iff.mp h).1
  rw [List.getElem?_set]
  by_cases hj : k = j
  · subst hj
    rw [if_pos rfl, zz_fs_get h, if_pos (by rw [zz_fs_len]; exact hl)]
    show _ = some (Value.int (f' k))
    rw [hk]
  · rw [if_neg hj]
    simp only [zz_fs, List.getElem?_mapIdx]
    cases hq : ks[j]? with
    | none => rfl
    | some y =>
      match y with
      | 0 => show some (Value.int (f j)) = some (Value.int (f' j)); rw [ho j (fun q => hj q.symm)]
      | 1 => rfl
      | y + 2 => rfl
/-- the locals -/
def zz_L (ad : Nat → Nat) (ls : Array Slot) (nL : Nat) (L : zzLc) : Prop := ls.size = nL ∧ lv_wf ls ∧ ∀ (i : Nat) (v : Value), L[i]? = some (some v) → ls[i]? = some (.val (zz_cv ad v))
def zz_lv (ad : Nat → Nat) (L : zzLc) : List (Nat × Value) := (List.range L.length).filterMap (fun i => match L[i]? with
  | some (some v) => some (i, zz_cv ad v)
  | _ => none)
theorem zz_lv_mem {ad : Nat → Nat} {L : zzLc} {i : Nat} {v : Value} (h : L[i]? = some (some v)) : (i, zz_cv ad v) ∈ zz_lv ad L := by
  refine List.mem_filterMap.mpr ⟨i, List.mem_range.mpr (List.getElem?_eq_some_iff.mp h).1, ?_⟩
  rw [h]
theorem zz_lv_of {ad : Nat → Nat} {L : zzLc} {q : Nat × Value} (h : q ∈ zz_lv ad L) : ∃ v, L[q.1]? = some (some v) ∧ zz_cv ad v = q.2 := by
  obtain ⟨i, -, hi⟩ := List.mem_filterMap.mp h
  split at hi
  · rename_i v hv
    cases hi
    exact ⟨v, hv, rfl⟩
  · cases hi
theorem zz_L_has {ad : Nat → Nat} {ls : Array Slot} {nL : Nat} {L : zzLc} (h : zz_L ad ls nL L) : lv_has ls nL (zz_lv ad L) := ⟨h.1, h.2.1, fun q hq => by
  obtain ⟨v, h1, h2⟩ := zz_lv_of hq
  rw [← h2]
  exact h.2.2 _ _ h1⟩
theorem zz_lcl_get {L : zzLc} {i j : Nat} {v : Value} (h : (zz_lcl L i)[j]? = some (some v)) : L[j]? = some (some v) ∧ ¬ (j + 1 = i ∧ v.category = 2) := by
  cases i with
  | zero => exact ⟨h, fun q => by omega⟩
  | succ k =>
    have e : zz_lcl L (k + 1) = match L[k]? with
      | some (some v) => if v.category = 2 then L.set k none else L
      | _ => L := rfl
    rw [e] at h
    rcases hL : L[k]? with _ | _ | w
    · rw [hL] at h
      refine ⟨h, fun q => ?_⟩
      have e : j = k := by omega
      subst e
      rw [hL] at h
      cases h
    · rw [hL] at h
      refine ⟨h, fun q => ?_⟩
      have e : j = k := by omega
      subst e
      rw [hL] at h
      cases h
    · rw [hL] at h
      dsimp only at h
      by_cases hc : w.category = 2
      · rw [if_pos hc, List.getElem?_set] at h
        by_cases hj : k = j
        · rw [if_pos hj] at h
          split at h <;> cases h
        · rw [if_neg hj] at h
          exact ⟨h, fun q => hj (by omega)⟩
      · rw [if_neg hc] at h
        refine ⟨h, fun q => ?_⟩
        have e : j = k := by omega
        subst e
        rw [hL] at h
        cases h
        exact hc q.2
theorem zz_L_set1 {ad : Nat → Nat} {ls : Array Slot} {nL i : Nat} {L : zzLc} {v : Value} (h : lv_has ls nL ((i, zz_cv ad v) :: (zz_lv ad L).filter (fun q => !(q.1 == i) && !(q.1 + 1 == i && q.2.category == 2)))) : zz_L ad ls nL (zz_set1 L i v) := by
  refine ⟨h.1, h.2.1, fun j w hw => ?_⟩
  unfold zz_set1 at hw
  rw [List.getElem?_set] at hw
  by_cases hj : i = j
  · subst hj
    rw [if_pos rfl] at hw
    split at hw
    · cases hw
      exact h.2.2 _ List.mem_cons_self
    · cases hw
  · rw [if_neg hj] at hw
    obtain ⟨h1, h2⟩ := zz_lcl_get hw
    refine h.2.2 (j, zz_cv ad w) (List.mem_cons_of_mem _ (List.mem_filter.mpr ⟨zz_lv_mem h1, ?_⟩))
    simp only [zz_cv_cat, Bool.and_eq_true, Bool.not_eq_true', beq_eq_false_iff_ne, Bool.and_eq_false_iff]
    refine ⟨fun q => hj q.symm, ?_⟩
    by_cases a : j + 1 = i
    · exact Or.inr fun q => h2 ⟨a, q⟩
    · exact Or.inl a
theorem zz_L_set2 {ad : Nat → Nat} {ls : Array Slot} {nL i : Nat} {L : zzLc} {v : Value} (h : lv_has ls nL ((i, zz_cv ad v) :: (zz_lv ad L).filter (fun q => !(q.1 == i) && (!(q.1 == i + 1) && !(q.1 + 1 == i && q.2.category == 2))))) : zz_L ad ls nL (zz_set2 L i v) := by
  refine ⟨h.1, h.2.1, fun j w hw => ?_⟩
  unfold zz_set2 at hw
  rw [List.getElem?_set] at hw
  by_cases hk : i + 1 = j
  · rw [if_pos hk] at hw
    split at hw <;> cases hw
  rw [if_neg hk, List.getElem?_set] at hw
  by_cases hj : i = j
  · subst hj
    rw [if_pos rfl] at hw
    split at hw
    · cases hw
      exact h.2.2 _ List.mem_cons_self
    · cases hw
  · rw [if_neg hj] at hw
    obtain ⟨h1, h2⟩ := zz_lcl_get hw
    refine h.2.2 (j, zz_cv ad w) (List.mem_cons_of_mem _ (List.mem_filter.mpr ⟨zz_lv_mem h1, ?_⟩))
    simp only [zz_cv_cat, Bool.and_eq_true, Bool.not_eq_true', beq_eq_false_iff_ne, Bool.and_eq_false_iff]
    refine ⟨fun q => hj q.symm, fun q => hk q.symm, ?_⟩
    by_cases a : j + 1 = i
    · exact Or.inr fun q => h2 ⟨a, q⟩
    · exact Or.inl a
/-! the goal at a place, and what a step owes -/
def zz_Ok (G : zzRt → Nat → zzLc → List Value → zzMd → Prop) (pc : Nat) (o : zzOp) : Prop := ∀ (K : zzKt) L st M r, (∀ pc' L' st' M', K pc' L' st' M' = some r → G r pc' L' st' M') → o K L st M = some r → G r pc L st M
theorem zz_Ok_none (G : zzRt → Nat → zzLc → List Value → zzMd → Prop) (pc : Nat) : zz_Ok G pc zo_none := fun K L st M r _ h => by cases h
theorem zz_sim {G : zzRt → Nat → zzLc → List Value → zzMd → Prop} {T : List zzOp} (hT : ∀ pc, zz_Ok G pc (T.getD pc zo_none)) {pc : Nat} {L : zzLc} {st : List Value} {M : zzMd} {r : zzRt} (h : zz_ev T pc L st M = some r) : G r pc L st M := by
  obtain ⟨n, hn⟩ := zz_ev_run h
  clear h
  induction n generalizing pc L st M with
  | zero => cases hn
  | succ n ih => exact hT pc (zz_run T n) L st M r (fun pc' L' st' M' h' => ih h') hn
def zz_All (G : zzRt → Nat → zzLc → List Value → zzMd → Prop) : Nat → List zzOp → Prop
  | _, [] => True
  | k, o :: T => zz_Ok G k o ∧ zz_All G (k + 1) T
theorem zz_All_at {G : zzRt → Nat → zzLc → List Value → zzMd → Prop} : ∀ (T : List zzOp) (k j : Nat), zz_All G k T → zz_Ok G (k + j) (T.getD j zo_none)
  | [], k, j, _ => by simpa using zz_Ok_none G (k + j)
  | o :: T, k, 0, h => h.1
  | o :: T, k, j + 1, h => by
    have h1 := zz_All_at T (k + 1) j h.2
    have e : k + 1 + j = k + (j + 1) := by omega
    rw [e] at h1
    simpa using h1
theorem zz_All_pc {G : zzRt → Nat → zzLc → List Value → zzMd → Prop} {T : List zzOp} (h : zz_All G 0 T) (pc : Nat) : zz_Ok G pc (T.getD pc zo_none) := by
  have h1 := zz_All_at T 0 pc h
  rwa [Nat.zero_add] at h1
end

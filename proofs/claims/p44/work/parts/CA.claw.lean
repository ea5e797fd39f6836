section
/-! the law from its entry -/
section
variable {p : Program} {e : Env} {s : State} {m : MethodId} {below : List Frame} {meth : Method} {c : Code}
theorem ca_L {ad : Nat → Nat} {ls : Array Slot} {b kw kr k0 : Nat} (h : lv_has ls 21 [(3, .ref kr), (2, .ref kw), (1, .ref k0), (0, .ref b)]) (h0 : ad 0 = k0) (h1 : ad 73 = kw) (h2 : ad 74 = kr) (h3 : ad 1004 = b) : zz_L ad ls 21 ([some (.ref 1004), some (.ref 0), some (.ref 73), some (.ref 74), none, none, none, none, none, none, none, none, none, none, none, none, none, none, none, none, none] : zzLc) := by
  refine ⟨h.1, h.2.1, fun i v hv => ?_⟩
  match i, hv with
  | 0, hv => cases hv; rw [show zz_cv ad (.ref 1004) = .ref b from congrArg Value.ref h3]; exact lv_at h 3 rfl
  | 1, hv => cases hv; rw [show zz_cv ad (.ref 0) = .ref k0 from congrArg Value.ref h0]; exact lv_at h 2 rfl
  | 2, hv => cases hv; rw [show zz_cv ad (.ref 73) = .ref kw from congrArg Value.ref h1]; exact lv_at h 1 rfl
  | 3, hv => cases hv; rw [show zz_cv ad (.ref 74) = .ref kr from congrArg Value.ref h2]; exact lv_at h 0 rfl
  | i + 4, hv =>
    have h5 : (List.replicate 17 (none : Option Value))[i]? = some (some v) := hv
    exact absurd (List.eq_of_mem_replicate (List.mem_of_getElem? h5)) (by intro z; cases z)
theorem ca_T {b L : Nat} {xs : Nat → Int32} {A : Nat → Prop} {U : State} {H : Heap} (h : va_X b L xs U H) (hA : ¬ A b) : va_T .int b ((List.range L).map xs).length (fun j => .int (((List.range L).map xs).getD j 0)) A U H := by
  obtain ⟨scr, h1, h2, h3, h4, h5⟩ := h
  have hn : ((List.range L).map xs).length = L := by rw [List.length_map, List.length_range]
  rw [hn]
  refine ⟨scr, h1, h2, h3, by omega, by rw [h4], fun j hj => ?_, hA⟩
  rw [h5 j hj]
  have e : ((List.range L).map xs).getD j 0 = xs j := by
    rw [List.getD_eq_getElem?_getD, List.getElem?_map, List.getElem?_range hj]
    rfl
  show some (Value.int (xs j)) = some (Value.int (((List.range L).map xs).getD j 0))
  rw [e]
set_option maxRecDepth 100000 in
set_option maxHeartbeats 2000000 in
theorem ca_rest (l : Launch) (hst : l.stackTraces = false) {b L : Nat} {xs : Nat → Int32} (hL : L ≤ 260) {D : va_G} {cA : Nat → ClassId} {st : Nat → Nat} {H : Heap} {ls : Array Slot} {ad : Nat → Nat} {kw kr : Nat}
    (X : ∀ ad : Nat → Nat, (∀ k, k < 4 → ad (1000 + k) = st k) → zw_Fx p s m meth c b L xs D cA ad) (hS : va_S (zwA s) s.heap H []) (hP : va_P D zzCl ((zz_wl ad cA (zzSC.take 73) zM0 ++ [(kw, .inl (cA 0, 60, .inl fun _ => 0))]) ++ [(kr, .inl (cA 0, 4, .inl fun _ => 0))]) H)
    (hD : va_D (zwA s) ((zz_wl ad cA (zzSC.take 73) zM0 ++ [(kw, .inl (cA 0, 60, .inl fun _ => 0))]) ++ [(kr, .inl (cA 0, 4, .inl fun _ => 0))])) (hl : lv_has ls 21 [(3, .ref kr), (2, .ref kw), (1, .ref (ad 0)), (0, .ref b)]) :
    W p l e room_1 s m #[Value.ref b] below meth c H [] 75 16386 (lw_Z below #[Value.ref b] s) (F0 m 17 ls []) := by
  obtain ⟨aN, haN⟩ : ∃ aN : Nat → Nat, aN = fun i => if i < 73 then ad i else if i = 73 then kw else if i = 74 then kr else if i = 1004 then b else st (i - 1000) := ⟨_, rfl⟩
  have a1 : ∀ x, x < 73 → aN x = ad x := fun x hx => by rw [haN]; exact if_pos hx
  have a2 : aN 73 = kw := by rw [haN]; rfl
  have a3 : aN 74 = kr := by rw [haN]; rfl
  have a4 : aN 1004 = b := by rw [haN]; rfl
  have a5 : ∀ k, k < 4 → aN (1000 + k) = st k := fun k hk => by
    rw [haN]
    show (if 1000 + k < 73 then ad (1000 + k) else if 1000 + k = 73 then kw else if 1000 + k = 74 then kr else if 1000 + k = 1004 then b else st (1000 + k - 1000)) = st k
    rw [if_neg (by omega), if_neg (by omega), if_neg (by omega), if_neg (by omega), Nat.add_sub_cancel_left]
  have z73 : zM0.1 73 = fun _ => 0 := zM0_z ⟨by omega, by omega, by omega, by omega, by omega⟩
  have z74 : zM0.1 74 = fun _ => 0 := zM0_z ⟨by omega, by omega, by omega, by omega, by omega⟩
  have hW : zz_wl aN cA zzSC zM0 = (zz_wl ad cA (zzSC.take 73) zM0 ++ [(kw, .inl (cA 0, 60, .inl fun _ => 0))]) ++ [(kr, .inl (cA 0, 4, .inl fun _ => 0))] := by
    have h1 : zz_wl aN cA ((zzSC.take 73 ++ [(1, 0, 60, [])]) ++ [(1, 0, 4, [])]) zM0 = (zz_wl ad cA (zzSC.take 73) zM0 ++ [(kw, .inl (cA 0, 60, .inl fun _ => 0))]) ++ [(kr, .inl (cA 0, 4, .inl fun _ => 0))] := by
      rw [zz_wl_snoc, zz_wl_snoc, zz_wl_cong a1 (by decide) (by decide), show (zzSC.take 73 ++ [((1, 0, 60, []) : zzSh)]).length = 74 from rfl, show (zzSC.take 73).length = 73 from rfl, a2, a3, z73, z74]
      rfl
    exact h1
  rw [← hW] at hP hD
  obtain ⟨hx, hb, hr, hml, hown, hG, hK, hE, hsc, hbl, hlk⟩ := X aN a5
  have hC : ∀ i, i < zzSC.length → ∃ ce, (zz_wl aN cA zzSC zM0)[i]? = some (aN i, ce) := fun i hi => ⟨_, zz_wl_get (ad := aN) (cA := cA) (M := zM0) (List.getElem?_eq_getElem hi)⟩
  have hinj : ∀ i j, i < zzSC.length → j < zzSC.length → aN i = aN j → i = j := fun i j hi hj h => by
    obtain ⟨ce, h1⟩ := hC i hi
    obtain ⟨ce', h2⟩ := hC j hj
    exact hD.1 _ _ _ _ h1 h2 h
  have hge : ∀ i, i < zzSC.length → s.heap.size ≤ aN i := fun i hi => by
    obtain ⟨ce, h1⟩ := hC i hi
    exact hD.2 _ _ h1
  have hA : zz_A aN zzSC s.heap.size = zwA s := funext fun q => propext ⟨fun h => h.elim (fun ⟨i, hi, z⟩ => by rw [z]; exact hge i hi) (fun h => h), fun h => Or.inr h⟩
  have Wd : lzWd l D cA aN (zExS ((List.range L).map xs) aN) ((List.range L).map xs) := zExS_Wd hst hinj
  have hES : zExS ((List.range L).map xs) aN (zwA s) s s.heap := ⟨hE, by rw [a4]; exact ca_T hsc (fun z => absurd hbl (Nat.not_lt.mpr z))⟩
  have F : lz_Fx p l room_1 s m #[Value.ref b] meth c cL_law 21 RLw D zzCl cA aN zzSC (zExS ((List.range L).map xs) aN) (some .boolean) 14 556 727906 := ⟨hx, hb, hml, hown, hG, hK, hinj, zExS_ok _ aN, by rw [hA]; exact hES, hr, hlk, rfl, rfl, Nat.le_of_ble_eq_true rfl, Nat.le_of_ble_eq_true rfl⟩
  have hlen : ((List.range L).map xs).length < 2147483648 := by rw [List.length_map, List.length_range]; omega
  obtain ⟨B, m', ev⟩ := st_17 ((List.range L).map xs) hlen (m := 2731) (by omega)
  have G := lz_sim (G := lz_G p l e room_1 s m #[Value.ref b] below meth c D zzCl cA aN zzSC 21 727906 (some (.int 1), (B, m'))) (fun pc => lz_All_pc (mm_L_law Wd F) pc) ev
  have K := G rfl H [] ls (by rw [hA]; exact hS) ⟨zM0, rfl, hP⟩ (ca_L hl (a1 0 (by decide)) a2 a3 a4)
  intro T hT X'
  obtain ⟨t, h1, o, h2, h3, ⟨h4, -, -⟩, Lc, ⟨-, h6, h7⟩, h8⟩ := W.widen (k := 2731) (n := 6 * 2731) (by decide) (by decide) K T hT X'
  refine ⟨t, h1, o, h2, h3, h4, ⟨_, h4⟩, h6, h7.weaken (fun q hq hlt => ?_) (Nat.le_of_ble_eq_true rfl) (Nat.le_of_ble_eq_true rfl)⟩
  have h9 := h8 q hq
  rw [hA] at h9
  exact absurd hlt (Nat.not_lt.mpr h9)
set_option maxRecDepth 100000 in
set_option maxHeartbeats 2000000 in
theorem whole_start (l : Launch) (hflags : l.flags = flags0) {b L : Nat} {xs : Nat → Int32} (hL : L ≤ 260) (C0 : lw_At p s m meth c b L xs) : W p l e room_1 s m #[Value.ref b] below meth c s.heap [] 0 0 (lw_Z below #[Value.ref b] s) (entryFrame m ([Value.ref b] : List Value).toArray 21) := by
  obtain ⟨hx, hb, hr, hml, hown, hts, hsc, hbl, hlk, hgv⟩ := C0
  have hown : s.vm.findClass RLw = some m.cls := hown
  have hfl : ∀ w ∈ zzFl, w.before #[Value.ref b] s = true := flat_of_before _ hgv
  have hG : ∀ w ∈ zzG0, w.before #[Value.ref b] s = true := fun w hw => zzTB_ok hts w (List.mem_filter.mp hw).1
  have hO : (Cond.arrayOver (.object "ReconcilerHall$Controller")).before #[Value.ref b] s = true := hts _ (by decide +kernel)
  obtain ⟨D, cA, hK⟩ := zb_K hG hO
  have hX := zb_X hts hO
  obtain ⟨st, hEx⟩ := zb_Ex hts hfl
  have hst : l.stackTraces = false := by
    unfold Launch.stackTraces
    rw [hflags]
    decide
  have hE0 : zEx (fun i => st (i - 1000)) (zwA s) s s.heap := hEx _ _ (fun k _ => by show st (1000 + k - 1000) = st k; rw [Nat.add_sub_cancel_left]) (fun a h1 h2 => absurd h1 (Nat.not_lt.mpr h2))
  have hEo := zEx_ok (fun i => st (i - 1000))
  have hXX : ∀ ad : Nat → Nat, (∀ k, k < 4 → ad (1000 + k) = st k) → zw_Fx p s m meth c b L xs D cA ad := fun ad h => ⟨hx, hb, hr, hml, hown, hG, hK, hEx ad _ h (fun a h1 h2 => absurd h1 (Nat.not_lt.mpr h2)), hsc, hbl, hlk⟩
  have hS : va_S (zwA s) s.heap s.heap [] := va_S.rf
  have hA : ∀ q, s.heap.size ≤ q → zwA s q := fun _ h => h
  have hP : va_P D zzCl [] s.heap := fun k q hk => by cases hk
  have hD : va_D (zwA s) [] := ⟨fun i j p q h => (by cases h), fun k q h => (by cases h)⟩
  have hl := lv_entry [Value.ref b] (n := 21) (Nat.le_of_ble_eq_true rfl)
  rw [lg_entry_eq]
  generalize (lg_sl [Value.ref b] ++ List.replicate (21 - (lg_sl [Value.ref b]).length) Slot.unset).toArray = ls at hl ⊢
  have hl : lv_has ls 21 [(0, .ref b)] := hl
  refine va_new (ci := 9) (fs := [.null, .null, .null, .null, .int 0]) (C := RX_9) (T := zzT9) (N := 5) hx hb hG zzI9 zzY9 zzY9_ok hown (hG (.classLink RLw 10 RX_9) (zz_in (by decide +kernel))) (hG (.instantiable RX_9 5) (zz_in (by decide +kernel))) (hG (.initialized RX_9) (zz_in (by decide +kernel))) hK hP hD hS hA rfl (zi_df9 rfl) (by decide) (by decide) dL_law_0 (fun k0 H1 hP hD hS => ?_)
  refine lv_dup hx hb dL_law_3 rfl ?_
  refine zw_ctor (ws := [(k0, .inr (9, [.null, .null, .null, .null, .int 0]))]) (ws2 := []) (rest := [.ref k0]) (zi_Hall hEo) hx hb hml hown hG hK hX hEo hE0 (zz_in (by decide +kernel)) (zz_in (by decide +kernel)) (zz_in (by decide +kernel)) (zz_in (by decide +kernel)) rfl (by decide +kernel) (by decide) (by decide) hl.1 (Nat.le_of_ble_eq_true rfl) hP hD (fun k q hk => by cases hk) (fun i j p q h => by cases h) hS dL_law_4 (fun v w H2 hw hPC hDC _ _ hS => ?_)
  obtain ⟨hv, ad, e0, hw⟩ := hw
  subst hv
  rw [hw] at hPC hDC
  rw [← e0]
  refine W.eq (g2 := F0 m 7 ls [.ref (ad 0)]) rfl ?_
  refine lv_astore_n (i := 1) (lv' := [(1, .ref (ad 0)), (0, .ref b)]) hx hb dL_law_7 rfl hl (by decide) rfl (fun ls hl => ?_)
  refine lv_bipush (v := 60) hx hb dL_law_8 (by decide) ?_
  refine zi_newI (N := 60) hx hb hG hK hPC hDC hS hA (by decide) (by decide) (by decide) (Nat.le_of_ble_eq_true rfl) (Nat.le_of_ble_eq_true rfl) dL_law_10 (fun kw H3 hP hD hS => ?_)
  refine lv_astore_n (i := 2) (lv' := [(2, .ref kw), (1, .ref (ad 0)), (0, .ref b)]) hx hb dL_law_12 rfl hl (by decide) rfl (fun ls hl => ?_)
  refine lv_iconst (v := 4) hx hb dL_law_13 (by decide) ?_
  refine zi_newI (N := 4) hx hb hG hK hP hD hS hA (by decide) (by decide) (by decide) (Nat.le_of_ble_eq_true rfl) (Nat.le_of_ble_eq_true rfl) dL_law_14 (fun kr H4 hP hD hS => ?_)
  refine lv_astore_n (i := 3) (lv' := [(3, .ref kr), (2, .ref kw), (1, .ref (ad 0)), (0, .ref b)]) hx hb dL_law_16 rfl hl (by decide) rfl (fun ls hl => ?_)
  exact ca_rest l hst hL hXX hS hP hD hl
end
end

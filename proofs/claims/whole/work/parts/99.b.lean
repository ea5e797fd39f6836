section
variable {p : Program} {e : Env} {s : State} {m : MethodId} {below : List Frame} {meth : Method} {c : Code}
set_option maxRecDepth 100000 in
theorem zw_rest (l : Launch) (hst : l.stackTraces = false) {b L : Nat} {xs : Nat → Int32} (hL : L ≤ 3584) {D : va_G} {cA : Nat → ClassId} {st : Nat → Nat} {H : Heap} {ls : Array Slot} {ad adR : Nat → Nat} {ko : Nat}
    (X : ∀ ad : Nat → Nat, (∀ k, k < 4 → ad (1000 + k) = st k) → zw_Fx p s m meth c b L xs D cA ad) (hS : va_S (zwA s) s.heap H []) (hP : va_P D zzCl ((zz_wl adR cA zzSR zR0 ++ zz_wl ad cA (zzSC.take 73) zM0) ++ [(ko, .inl (cA 2, 1, .inr (.inl fun _ => 0)))]) H)
    (hD : va_D (zwA s) ((zz_wl adR cA zzSR zR0 ++ zz_wl ad cA (zzSC.take 73) zM0) ++ [(ko, .inl (cA 2, 1, .inr (.inl fun _ => 0)))])) (hl : lv_has ls 7 [(4, .int 0), (3, .ref ko), (2, .ref (adR 0)), (1, .ref (ad 0)), (0, .ref b)]) :
    W p l e room_1 s m #[Value.ref b] below meth c H [] 113 22770 (lw_Z below #[Value.ref b] s) (F0 m 23 ls []) := by
  obtain ⟨aN, haN⟩ : ∃ aN : Nat → Nat, aN = fun i => if i < 73 then ad i else if i = 73 then ko else st (i - 1000) := ⟨_, rfl⟩
  have a1 : ∀ x, x < 73 → aN x = ad x := fun x hx => by rw [haN]; exact if_pos hx
  have a2 : aN 73 = ko := by rw [haN]; rfl
  have a3 : ∀ k, k < 4 → aN (1000 + k) = st k := fun k hk => by
    rw [haN]
    show (if 1000 + k < 73 then ad (1000 + k) else if 1000 + k = 73 then ko else st (1000 + k - 1000)) = st k
    rw [if_neg (by omega), if_neg (by omega), Nat.add_sub_cancel_left]
  have hW : zz_wl aN cA zzSC zM0 = zz_wl ad cA (zzSC.take 73) zM0 ++ [(ko, .inl (cA 2, 1, .inr (.inl fun _ => 0)))] := by
    have h1 : zz_wl aN cA (zzSC.take 73 ++ [(2, 2, 1, [])]) zM0 = zz_wl ad cA (zzSC.take 73) zM0 ++ [(ko, .inl (cA 2, 1, .inr (.inl fun _ => 0)))] := by
      rw [zz_wl_snoc, zz_wl_cong a1 (by decide) (by decide), show (zzSC.take 73).length = 73 from rfl, a2]
      rfl
    exact h1
  rw [List.append_assoc, ← hW] at hP hD
  have hn : (zz_wl adR cA zzSR zR0).length = 39 := by simp only [zz_wl, List.length_mapIdx]; rfl
  have hC : ∀ i, i < zzSC.length → ∃ ce, (zz_wl adR cA zzSR zR0 ++ zz_wl aN cA zzSC zM0)[39 + i]? = some (aN i, ce) := fun i hi => by
    have h1 := zw_rt (w1 := zz_wl adR cA zzSR zR0) (zz_wl_get (ad := aN) (cA := cA) (M := zM0) (List.getElem?_eq_getElem hi))
    rw [hn] at h1
    exact ⟨_, h1⟩
  have hR : ∀ i, i < zzSR.length → ∃ ce, (zz_wl adR cA zzSR zR0 ++ zz_wl aN cA zzSC zM0)[i]? = some (adR i, ce) := fun i hi => ⟨_, zw_lt (zz_wl_get (ad := adR) (cA := cA) (M := zR0) (List.getElem?_eq_getElem hi))⟩
  have Wd : zw_Wd l s D cA aN adR := by
    refine ⟨zEx_WC hst (fun i j hi hj h => ?_), ⟨hst, fun i j hi hj h => ?_, zEx_ok aN⟩, fun i hi => ?_, fun i hi => ?_, fun i j hi hj h => ?_⟩
    · obtain ⟨ce, h1⟩ := hC i hi
      obtain ⟨ce', h2⟩ := hC j hj
      exact Nat.add_left_cancel (hD.1 _ _ _ _ h1 h2 h)
    · obtain ⟨ce, h1⟩ := hR i hi
      obtain ⟨ce', h2⟩ := hR j hj
      exact hD.1 _ _ _ _ h1 h2 h
    · obtain ⟨ce, h1⟩ := hC i hi
      exact hD.2 _ _ h1
    · obtain ⟨ce, h1⟩ := hR i hi
      exact hD.2 _ _ h1
    · obtain ⟨ce, h1⟩ := hC i hi
      obtain ⟨ce', h2⟩ := hR j hj
      have h3 := hD.1 _ _ _ _ h1 h2 h
      have h4 : j < 39 := hj
      omega
  have hlv : lv_has ls 7 (zw_lv b aN adR 0) := by
    have e0 : aN 0 = ad 0 := a1 0 (by decide)
    unfold zw_lv
    rw [e0, a2]
    exact lv_sub hl [0, 4, 3, 2, 1] rfl
  exact zw_loop (X aN a3) Wd hL (L / 7) 0 (Nat.zero_add _) zM0 zR0 H ls (Rel_nz.mpr Rel_0) ⟨hS, va_P_r hP, va_P_l hP⟩ hlv
set_option maxHeartbeats 4000000 in
set_option maxRecDepth 100000 in
theorem whole_start (l : Launch) (hflags : l.flags = flags0) {b L : Nat} {xs : Nat → Int32} (hL : L ≤ 3584) (C0 : lw_At p s m meth c b L xs) : W p l e room_1 s m #[Value.ref b] below meth c s.heap [] 0 0 (lw_Z below #[Value.ref b] s) (entryFrame m ([Value.ref b] : List Value).toArray 7) := by
  obtain ⟨hx, hb, hr, hml, hown, hts, hsc, hbl, hlk, hgv⟩ := C0
  have hown : s.vm.findClass RLw = some m.cls := hown
  have hfl : ∀ w ∈ zzFl, w.before #[Value.ref b] s = true := flat_of_before _ hgv
  have hG : ∀ w ∈ zzG0, w.before #[Value.ref b] s = true := fun w hw => zzTB_ok hts w (List.mem_filter.mp hw).1
  have hO : (Cond.arrayOver (.object "ReconcilerHall$Controller")).before #[Value.ref b] s = true := hts _ (by decide +kernel)
  obtain ⟨D, cA, hK⟩ := zb_K hG hO
  have hX := zb_X hts hO
  obtain ⟨st, hEx⟩ := zb_Ex hts hfl
  have hst : l.stackTraces = false := by
    unfold Launch.stackTraces
    rw [hflags]
    decide
  have hE0 : zEx (fun i => st (i - 1000)) (zwA s) s s.heap := hEx _ _ (fun k _ => by show st (1000 + k - 1000) = st k; rw [Nat.add_sub_cancel_left]) (fun a h1 h2 => absurd h1 (Nat.not_lt.mpr h2))
  have hEo := zEx_ok (fun i => st (i - 1000))
  have hXX : ∀ ad : Nat → Nat, (∀ k, k < 4 → ad (1000 + k) = st k) → zw_Fx p s m meth c b L xs D cA ad := fun ad h => ⟨hx, hb, hr, hml, hown, hG, hK, hEx ad _ h (fun a h1 h2 => absurd h1 (Nat.not_lt.mpr h2)), hsc, hbl, hlk⟩
  have hS : va_S (zwA s) s.heap s.heap [] := va_S.rf
  have hA : ∀ q, s.heap.size ≤ q → zwA s q := fun _ h => h
  have hP : va_P D zzCl [] s.heap := fun k q hk => by cases hk
  have hD : va_D (zwA s) [] := ⟨fun i j p q h => (by cases h), fun k q h => (by cases h)⟩
  have hl := lv_entry [Value.ref b] (n := 7) (Nat.le_of_ble_eq_true rfl)
  rw [lg_entry_eq]
  generalize (lg_sl [Value.ref b] ++ List.replicate (7 - (lg_sl [Value.ref b]).length) Slot.unset).toArray = ls at hl ⊢
  have hl : lv_has ls 7 [(0, .ref b)] := hl
  refine va_new (ci := 9) (fs := [.null, .null, .null, .null, .int 0]) (C := RX_9) (T := zzT9) (N := 5) hx hb hG zzI9 zzY9 zzY9_ok hown (hG (.classLink RLw 8 RX_9) (zz_in (by decide +kernel))) (hG (.instantiable RX_9 5) (zz_in (by decide +kernel))) (hG (.initialized RX_9) (zz_in (by decide +kernel))) hK hP hD hS hA rfl (zi_df9 rfl) (by decide) (by decide) dw_0 (fun k0 H1 hP hD hS => ?_)
  refine lv_dup hx hb dw_3 rfl ?_
  refine zw_ctor (ws := [(k0, .inr (9, [.null, .null, .null, .null, .int 0]))]) (ws2 := []) (rest := [.ref k0]) (zi_Hall hEo) hx hb hml hown hG hK hX hEo hE0 (zz_in (by decide +kernel)) (zz_in (by decide +kernel)) (zz_in (by decide +kernel)) (zz_in (by decide +kernel)) rfl (by decide +kernel) (by decide) (by decide) hl.1 (Nat.le_of_ble_eq_true rfl) hP hD (fun k q hk => by cases hk) (fun i j p q h => by cases h) hS dw_4 (fun v w H2 hw hPC hDC _ _ hS => ?_)
  obtain ⟨rfl, ad, e0, rfl⟩ := hw
  subst e0
  refine lv_astore_n (i := 1) (lv' := [(1, .ref (ad 0)), (0, .ref b)]) hx hb dw_7 rfl hl (by decide) rfl (fun ls hl => ?_)
  refine va_new (ci := 10) (fs := [.null, .null, .null, .null, .null, .int 0, .null, .null, .null, .null, .null, .null, .null, .null, .int 0, .int 0, .null, .null, .null, .int 0, .null, .null, .null, .null, .null, .null, .int 0, .null, .null, .null, .int 0, .int 0, .null, .null, .null, .null, .null, .null, .null, .null, .null, .null, .int 0, .int 0, .null, .null, .null, .int 0, .int 0, .int 0]) (C := RX_10) (T := zzT10) (N := 50) hx hb hG zzI10 zzY10 zzY10_ok hown (hG (.classLink RLw 134 RX_10) (zz_in (by decide +kernel))) (hG (.instantiable RX_10 50) (zz_in (by decide +kernel))) (hG (.initialized RX_10) (zz_in (by decide +kernel))) hK hPC hDC hS hA rfl (zi_df10 rfl) (Nat.le_of_ble_eq_true rfl) (Nat.le_of_ble_eq_true rfl) dw_8 (fun k1 H3 hP hD hS => ?_)
  refine lv_dup hx hb dw_11 rfl ?_
  refine zw_ctor (ws := [(k1, .inr (10, [.null, .null, .null, .null, .null, .int 0, .null, .null, .null, .null, .null, .null, .null, .null, .int 0, .int 0, .null, .null, .null, .int 0, .null, .null, .null, .null, .null, .null, .int 0, .null, .null, .null, .int 0, .int 0, .null, .null, .null, .null, .null, .null, .null, .null, .null, .null, .int 0, .int 0, .null, .null, .null, .int 0, .int 0, .int 0]))]) (ws2 := zz_wl ad cA (zzSC.take 73) zM0) (rest := [.ref k1]) (zi_Model hEo) hx hb hml hown hG hK hX hEo hE0 (zz_in (by decide +kernel)) (zz_in (by decide +kernel)) (zz_in (by decide +kernel)) (zz_in (by decide +kernel)) rfl (by decide +kernel) (by decide) ⟨Nat.le_of_ble_eq_true rfl, Nat.le_of_ble_eq_true rfl⟩ hl.1 (Nat.le_of_ble_eq_true rfl) (va_P_r hP) (va_D_r hD) (va_P_l hP) (va_D_x hD) hS dw_12 (fun v w H4 hw hPM hDM hnw hPC hS => ?_)
  obtain ⟨rfl, adR, e1, rfl⟩ := hw
  have hx2 : ∀ (i j : Nat) (p q : Nat × va_E), (zz_wl adR cA zzSR zR0)[i]? = some p → (zz_wl ad cA (zzSC.take 73) zM0)[j]? = some q → p.1 ≠ q.1 := by
    intro i j p q hi hj e
    have h1 := (va_P_l hP j q hj).lt
    rcases hnw i p hi with ⟨k, ee, hk⟩ | h
    · exact va_D_x hD j k q (p.1, ee) hj hk e.symm
    · rw [e] at h
      exact absurd h1 (Nat.not_lt.mpr h)
  subst e1
  refine lv_astore_n (i := 2) (lv' := [(2, .ref (adR 0)), (1, .ref (ad 0)), (0, .ref b)]) hx hb dw_15 rfl hl (by decide) rfl (fun ls hl => ?_)
  refine lv_iconst (v := 1) hx hb dw_16 (by decide) ?_
  refine zi_newL (N := 1) hx hb hG hK (hPM.app hPC) (hDM.app hDC hx2) hS hA (by decide) (by decide) (by decide) (Nat.le_of_ble_eq_true rfl) (Nat.le_of_ble_eq_true rfl) dw_17 (fun ko H5 hP hD hS => ?_)
  refine lv_astore_n (i := 3) (lv' := [(3, .ref ko), (2, .ref (adR 0)), (1, .ref (ad 0)), (0, .ref b)]) hx hb dw_19 rfl hl (by decide) rfl (fun ls hl => ?_)
  refine lv_iconst (v := 0) hx hb dw_20 (by decide) ?_
  refine lv_istore (lv' := [(4, .int 0), (3, .ref ko), (2, .ref (adR 0)), (1, .ref (ad 0)), (0, .ref b)]) hx hb dw_21 hl (by decide) rfl (fun ls hl => ?_)
  exact zw_rest l hst hL hXX hS hP hD hl
end

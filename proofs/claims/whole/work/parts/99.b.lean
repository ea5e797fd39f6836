section
variable {p : Program} {e : Env} {s : State} {m : MethodId} {below : List Frame} {meth : Method} {c : Code}
set_option maxRecDepth 100000 in
theorem zw_rest (l : Launch) (hst : l.stackTraces = false) {b L : Nat} {xs : Nat → Int32} (hL : L ≤ 3584) {D : va_G} {cA : Nat → ClassId} {st : Nat → Nat} {H : Heap} {ls : Array Slot} {ad adR : Nat → Nat} {ko : Nat}
    (X : ∀ ad : Nat → Nat, (∀ k, k < 4 → ad (1000 + k) = st k) → zw_Fx p s m meth c b L xs D cA ad) (hS : va_S (zwA s) s.heap H []) (hP : va_P D zzCl ((zz_wl adR cA zzSR zR0 ++ zz_wl ad cA (zzSC.take 73) zM0) ++ [(ko, .inl (cA 2, 1, .inr (.inl fun _ => 0)))]) H)
    (hD : va_D (zwA s) ((zz_wl adR cA zzSR zR0 ++ zz_wl ad cA (zzSC.take 73) zM0) ++ [(ko, .inl (cA 2, 1, .inr (.inl fun _ => 0)))])) (hl : lv_has ls 7 [(4, .int 0), (3, .ref ko), (2, .ref (adR 0)), (1, .ref (ad 0)), (0, .ref b)]) :
    W p l e room_1 s m #[Value.ref b] below meth c H [] 113 22770 (lw_Z below #[Value.ref b] s) (F0 m 23 ls []) := by
  obtain ⟨aN, haN⟩ : ∃ aN : Nat → Nat, aN = fun i => if i < 73 then ad i else if i = 73 then ko else st (i - 1000) := ⟨_, rfl⟩
  have a1 : ∀ x, x < 73 → aN x = ad x := fun x hx => by rw [haN]; exact if_pos hx
  have a2 : aN 73 = ko := by rw [haN]; rfl
  have a3 : ∀ k, k < 4 → aN (1000 + k) = st k := fun k hk => by
    rw [haN]
    show (if 1000 + k < 73 then ad (1000 + k) else if 1000 + k = 73 then ko else st (1000 + k - 1000)) = st k
    rw [if_neg (by omega), if_neg (by omega), Nat.add_sub_cancel_left]
  have hW : zz_wl aN cA zzSC zM0 = zz_wl ad cA (zzSC.take 73) zM0 ++ [(ko, .inl (cA 2, 1, .inr (.inl fun _ => 0)))] := by
    have h1 : zz_wl aN cA (zzSC.take 73 ++ [(2, 2, 1, [])]) zM0 = zz_wl ad cA (zzSC.take 73) zM0 ++ [(ko, .inl (cA 2, 1, .inr (.inl fun _ => 0)))] := by
      rw [zz_wl_snoc, zz_wl_cong a1 (by decide) (by decide), show (zzSC.take 73).length = 73 from rfl, a2]
      rfl
    exact h1
  rw [List.append_assoc, ← hW] at hP hD
  have hn : (zz_wl adR cA zzSR zR0).length = 39 := by simp only [zz_wl, List.length_mapIdx]; rfl
  have hC : ∀ i, i < zzSC.length → ∃ ce, (zz_wl adR cA zzSR zR0 ++ zz_wl aN cA zzSC zM0)[39 + i]? = some (aN i, ce) := fun i hi => by
    have h1 := zw_rt (w1 := zz_wl adR cA zzSR zR0) (zz_wl_get (ad := aN) (cA := cA) (M := zM0) (List.getElem?_eq_getElem hi))
    rw [hn] at h1
    exact ⟨_, h1⟩
  have hR : ∀ i, i < zzSR.length → ∃ ce, (zz_wl adR cA zzSR zR0 ++ zz_wl aN cA zzSC zM0)[i]? = some (adR i, ce) := fun i hi => ⟨_, zw_lt (zz_wl_get (ad := adR) (cA := cA) (M := zR0) (List.getElem?_eq_getElem hi))⟩
  have Wd : zw_Wd l s D cA aN adR := by
    refine ⟨zEx_WC hst (fun i j hi hj h => ?_), ⟨hst, fun i j hi hj h => ?_, zEx_ok aN⟩, fun i hi => ?_, fun i hi => ?_, fun i j hi hj h => ?_⟩
    · obtain ⟨ce, h1⟩ := hC i hi
      obtain ⟨ce', h2⟩ := hC j hj
      exact Nat.add_left_cancel (hD.1 _ _ _ _ h1 h2 h)
    · obtain ⟨ce, h1⟩ := hR i hi
      obtain ⟨ce', h2⟩ := hR j hj
      exact hD.1 _ _ _ _ h1 h2 h
    · obtain ⟨ce, h1⟩ := hC i hi
      exact hD.2 _ _ h1
    · obtain ⟨ce, h1⟩ := hR i hi
      exact hD.2 _ _ h1
    · obtain ⟨ce, h1⟩ := hC i hi
      obtain ⟨ce', h2⟩ := hR j hj
      have h3 := hD.1 _ _ _ _ h1 h2 h
      have h4 : j < 39 := hj
      omega
  have hlv : lv_has ls 7 (zw_lv b aN adR 0) := by
    have e0 : aN 0 = ad 0 := a1 0 (by decide)
    unfold zw_lv
    rw [e0, a2]
    exact lv_sub hl [0, 4, 3, 2, 1] rfl
  exact zw_loop (X aN a3) Wd hL (L / 7) 0 (Nat.zero_add _) zM0 zR0 H ls (Rel_nz.mpr Rel_0) ⟨hS, va_P_r hP, va_P_l hP⟩ hlv
end

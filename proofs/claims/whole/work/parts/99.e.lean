section
variable {p : Program} {e : Env} {s : State} {m : MethodId} {below : List Frame} {meth : Method} {c : Code}
set_option maxHeartbeats 2000000 in
set_option maxRecDepth 100000 in
theorem whole_start (l : Launch) (hflags : l.flags = flags0) {b L : Nat} {xs : Nat → Int32} (hL : L ≤ 3584) (C0 : lw_At p s m meth c b L xs) : W p l e room_1 s m #[Value.ref b] below meth c s.heap [] 0 0 (lw_Z below #[Value.ref b] s) (entryFrame m ([Value.ref b] : List Value).toArray 7) := by
  obtain ⟨hx, hb, hr, hml, hown, hts, hsc, hbl, hlk, hgv⟩ := C0
  have hown : s.vm.findClass RLw = some m.cls := hown
  have hfl : ∀ w ∈ zzFl, w.before #[Value.ref b] s = true := flat_of_before _ hgv
  have hG : ∀ w ∈ zzG0, w.before #[Value.ref b] s = true := fun w hw => zzTB_ok hts w (List.mem_filter.mp hw).1
  have hO : (Cond.arrayOver (.object "ReconcilerHall$Controller")).before #[Value.ref b] s = true := hts _ (by decide +kernel)
  obtain ⟨D, cA, hK⟩ := zb_K hG hO
  have hX := zb_X hts hO
  obtain ⟨st, hEx⟩ := zb_Ex hts hfl
  have hst : l.stackTraces = false := by
    unfold Launch.stackTraces
    rw [hflags]
    decide
  have hE0 : zEx (fun i => st (i - 1000)) (zwA s) s s.heap := hEx _ _ (fun k _ => by show st (1000 + k - 1000) = st k; rw [Nat.add_sub_cancel_left]) (fun a h1 h2 => absurd h1 (Nat.not_lt.mpr h2))
  have hEo := zEx_ok (fun i => st (i - 1000))
  have hXX : ∀ ad : Nat → Nat, (∀ k, k < 4 → ad (1000 + k) = st k) → zw_Fx p s m meth c b L xs D cA ad := fun ad h => ⟨hx, hb, hr, hml, hown, hG, hK, hEx ad _ h (fun a h1 h2 => absurd h1 (Nat.not_lt.mpr h2)), hsc, hbl, hlk⟩
  have hS : va_S (zwA s) s.heap s.heap [] := va_S.rf
  have hA : ∀ q, s.heap.size ≤ q → zwA s q := fun _ h => h
  have hP : va_P D zzCl [] s.heap := fun k q hk => by cases hk
  have hD : va_D (zwA s) [] := ⟨fun i j p q h => (by cases h), fun k q h => (by cases h)⟩
  have hl := lv_entry [Value.ref b] (n := 7) (Nat.le_of_ble_eq_true rfl)
  rw [lg_entry_eq]
  generalize (lg_sl [Value.ref b] ++ List.replicate (7 - (lg_sl [Value.ref b]).length) Slot.unset).toArray = ls at hl ⊢
  have hl : lv_has ls 7 [(0, .ref b)] := hl
  refine va_new (ci := 9) (fs := [.null, .null, .null, .null, .int 0]) (C := RX_9) (T := zzT9) (N := 5) hx hb hG zzI9 zzY9 zzY9_ok hown (hG (.classLink RLw 8 RX_9) (zz_in (by decide +kernel))) (hG (.instantiable RX_9 5) (zz_in (by decide +kernel))) (hG (.initialized RX_9) (zz_in (by decide +kernel))) hK hP hD hS hA rfl (zi_df9 rfl) (by decide) (by decide) dw_0 (fun k0 H1 hP hD hS => ?_)
  refine lv_dup hx hb dw_3 rfl ?_
  refine zw_ctor (ws := [(k0, .inr (9, [.null, .null, .null, .null, .int 0]))]) (ws2 := []) (rest := [.ref k0]) (zi_Hall hEo) hx hb hml hown hG hK hX hEo hE0 (zz_in (by decide +kernel)) (zz_in (by decide +kernel)) (zz_in (by decide +kernel)) (zz_in (by decide +kernel)) rfl (by decide +kernel) (by decide) (by decide) hl.1 (Nat.le_of_ble_eq_true rfl) hP hD (fun k q hk => by cases hk) (fun i j p q h => by cases h) hS dw_4 (fun v w H2 hw hPC hDC _ _ hS => ?_)
  obtain ⟨hv, ad, e0, hw⟩ := hw
  subst hv
  rw [hw] at hPC hDC
  rw [← e0]
  exact zw_s2 l hst hL hXX hX hS hPC hDC hl
end

section
variable {p : Program} {e : Env} {s : State} {m : MethodId} {below : List Frame} {meth : Method} {c : Code}
set_option maxHeartbeats 2000000 in
theorem zw_s3 (l : Launch) (hst : l.stackTraces = false) {b L : Nat} {xs : Nat → Int32} (hL : L ≤ 3584) {D : va_G} {cA : Nat → ClassId} {st : Nat → Nat} {H : Heap} {ls : Array Slot} {ad adR : Nat → Nat}
    (X : ∀ ad : Nat → Nat, (∀ k, k < 4 → ad (1000 + k) = st k) → zw_Fx p s m meth c b L xs D cA ad) (hS : va_S (zwA s) s.heap H []) (hPM : va_P D zzCl (zz_wl adR cA zzSR zR0) H) (hDM : va_D (zwA s) (zz_wl adR cA zzSR zR0)) (hPC : va_P D zzCl (zz_wl ad cA (zzSC.take 73) zM0) H) (hDC : va_D (zwA s) (zz_wl ad cA (zzSC.take 73) zM0))
    (hx2 : ∀ (i j : Nat) (p q : Nat × va_E), (zz_wl adR cA zzSR zR0)[i]? = some p → (zz_wl ad cA (zzSC.take 73) zM0)[j]? = some q → p.1 ≠ q.1) (hl : lv_has ls 7 [(1, .ref (ad 0)), (0, .ref b)]) :
    W p l e room_1 s m #[Value.ref b] below meth c H [] 112 22769 (lw_Z below #[Value.ref b] s) (F0 m 15 ls [.ref (adR 0)]) := by
  have X0 := X (fun i => st (i - 1000)) (fun k _ => by show st (1000 + k - 1000) = st k; rw [Nat.add_sub_cancel_left])
  obtain ⟨hx, hb, -, -, -, hG, hK, -⟩ := X0
  have hA : ∀ q, s.heap.size ≤ q → zwA s q := fun _ h => h
  refine lv_astore_n (i := 2) (lv' := [(2, .ref (adR 0)), (1, .ref (ad 0)), (0, .ref b)]) hx hb dw_15 rfl hl (by decide) rfl (fun ls hl => ?_)
  refine lv_iconst (v := 1) hx hb dw_16 (by decide) ?_
  refine zi_newL (N := 1) hx hb hG hK (hPM.app hPC) (hDM.app hDC hx2) hS hA (by decide) (by decide) (by decide) (Nat.le_of_ble_eq_true rfl) (Nat.le_of_ble_eq_true rfl) dw_17 (fun ko H5 hP hD hS => ?_)
  refine lv_astore_n (i := 3) (lv' := [(3, .ref ko), (2, .ref (adR 0)), (1, .ref (ad 0)), (0, .ref b)]) hx hb dw_19 rfl hl (by decide) rfl (fun ls hl => ?_)
  refine lv_iconst (v := 0) hx hb dw_20 (by decide) ?_
  refine lv_istore (lv' := [(4, .int 0), (3, .ref ko), (2, .ref (adR 0)), (1, .ref (ad 0)), (0, .ref b)]) hx hb dw_21 hl (by decide) rfl (fun ls hl => ?_)
  exact zw_rest l hst hL X hS hP hD hl
end

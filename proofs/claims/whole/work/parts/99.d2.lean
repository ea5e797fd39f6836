section
variable {p : Program} {e : Env} {s : State} {m : MethodId} {below : List Frame} {meth : Method} {c : Code}
theorem zw_s2 (l : Launch) (hst : l.stackTraces = false) {b L : Nat} {xs : Nat → Int32} (hL : L ≤ 3584) {D : va_G} {cA : Nat → ClassId} {st : Nat → Nat} {H : Heap} {ls : Array Slot} {ad : Nat → Nat}
    (X : ∀ ad : Nat → Nat, (∀ k, k < 4 → ad (1000 + k) = st k) → zw_Fx p s m meth c b L xs D cA ad) (hX : zi_X s) (hS : va_S (zwA s) s.heap H []) (hPC : va_P D zzCl (zz_wl ad cA (zzSC.take 73) zM0) H) (hDC : va_D (zwA s) (zz_wl ad cA (zzSC.take 73) zM0)) (hl : lv_has ls 7 [(0, .ref b)]) :
    W p l e room_1 s m #[Value.ref b] below meth c H [] 73 16322 (lw_Z below #[Value.ref b] s) (F0 m 7 ls [.ref (ad 0)]) := by
  have X0 := X (fun i => st (i - 1000)) (fun k _ => by show st (1000 + k - 1000) = st k; rw [Nat.add_sub_cancel_left])
  exact zw_m X0 hX hS hPC hDC hl (fun adR H4 ls hS hPM hDM hPC hx2 hl => zw_s3 l hst hL X hS hPM hDM hPC hDC hx2 hl)
end

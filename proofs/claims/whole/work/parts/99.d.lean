section
variable {p : Program} {e : Env} {s : State} {m : MethodId} {below : List Frame} {meth : Method} {c : Code}
set_option maxHeartbeats 2000000 in
theorem zw_m {l : Launch} {b L : Nat} {xs : Nat → Int32} {D : va_G} {cA : Nat → ClassId} {st : Nat → Nat} {H : Heap} {ls : Array Slot} {x : Nat} {w0 : va_W} {Q : State → Prop}
    (X : zw_Fx p s m meth c b L xs D cA st) (hX : zi_X s) (hS : va_S (zwA s) s.heap H []) (hPC : va_P D zzCl w0 H) (hDC : va_D (zwA s) w0) (hl : lv_has ls 7 [(0, .ref b)])
    (kk : ∀ (adR : Nat → Nat) (H4 : Heap) (ls : Array Slot), va_S (zwA s) s.heap H4 [] → va_P D zzCl (zz_wl adR cA zzSR zR0) H4 → va_D (zwA s) (zz_wl adR cA zzSR zR0) → va_P D zzCl w0 H4 → (∀ (i j : Nat) (p q : Nat × va_E), (zz_wl adR cA zzSR zR0)[i]? = some p → w0[j]? = some q → p.1 ≠ q.1) → lv_has ls 7 [(1, .ref x), (0, .ref b)] →
      W p l e room_1 s m #[Value.ref b] below meth c H4 [] 112 22769 Q (F0 m 15 ls [.ref (adR 0)])) :
    W p l e room_1 s m #[Value.ref b] below meth c H [] 73 16322 Q (F0 m 7 ls [.ref x]) := by
  obtain ⟨hx, hb, -, hml, hown, hG, hK, hE0, -⟩ := X
  have hEo := zEx_ok st
  have hA : ∀ q, s.heap.size ≤ q → zwA s q := fun _ h => h
  refine lv_astore_n (i := 1) (lv' := [(1, .ref x), (0, .ref b)]) hx hb dw_7 rfl hl (by decide) rfl (fun ls hl => ?_)
  refine va_new (ci := 10) (fs :=  [.null, .null, .null, .null, .null, .int 0, .null, .null, .null, .null, .null, .null, .null, .null, .int 0, .int 0, .null, .null, .null, .int 0, .null, .null, .null, .null, .null, .null, .int 0, .null, .null, .null, .int 0, .int 0, .null, .null, .null, .null, .null, .null, .null, .null, .null, .null, .int 0, .int 0, .null, .null, .null, .int 0, .int 0, .int 0]) (C := RX_10) (T := zzT10) (N := 50) hx hb hG zzI10 zzY10 zzY10_ok hown (hG (.classLink RLw 134 RX_10) (zz_in (by decide +kernel))) (hG (.instantiable RX_10 50) (zz_in (by decide +kernel))) (hG (.initialized RX_10) (zz_in (by decide +kernel))) hK hPC hDC hS hA rfl (zi_df10 rfl) (Nat.le_of_ble_eq_true rfl) (Nat.le_of_ble_eq_true rfl) dw_8 (fun k1 H3 hP hD hS => ?_)
  obtain ⟨ws, hws⟩ : ∃ ws : va_W, ws = [(k1, .inr (10, [.null, .null, .null, .null, .null, .int 0, .null, .null, .null, .null, .null, .null, .null, .null, .int 0, .int 0, .null, .null, .null, .int 0, .null, .null, .null, .null, .null, .null, .int 0, .null, .null, .null, .int 0, .int 0, .null, .null, .null, .null, .null, .null, .null, .null, .null, .null, .int 0, .int 0, .null, .null, .null, .int 0, .int 0, .int 0]))] := ⟨_, rfl⟩
  have hC : zi_C l D cA (zEx st) yX12_init cX12_init 3 none 1 20 38 6397 [.ref k1] ws (fun r u => r = none ∧ ∃ ad : Nat → Nat, ad 0 = k1 ∧ u = zz_wl ad cA zzSR zR0) := by
    rw [hws]
    exact zi_Model hEo
  rw [← hws] at hP hD
  have hP1 := va_P_r hP
  have hD1 := va_D_r hD
  have hP2 := va_P_l hP
  have hx1 := va_D_x hD
  refine lv_dup hx hb dw_11 rfl ?_
  refine zw_ctor (rest := [.ref k1]) hC hx hb hml hown hG hK hX hEo hE0 (zz_in (by decide +kernel)) (zz_in (by decide +kernel)) (zz_in (by decide +kernel)) (zz_in (by decide +kernel)) rfl (by decide +kernel) (by decide) ⟨Nat.le_of_ble_eq_true rfl, Nat.le_of_ble_eq_true rfl⟩ hl.1 (Nat.le_of_ble_eq_true rfl) hP1 hD1 hP2 hx1 hS dw_12 (fun v w H4 hw hPM hDM hnw hPC hS => ?_)
  obtain ⟨hv, adR, e1, hw⟩ := hw
  subst hv
  rw [hw] at hPM hDM hnw
  have hx2 : ∀ (i j : Nat) (p q : Nat × va_E), (zz_wl adR cA zzSR zR0)[i]? = some p → w0[j]? = some q → p.1 ≠ q.1 := by
    intro i j p q hi hj e
    have h1 := (hP2 j q hj).lt
    rcases hnw i p hi with ⟨k, ee, hk⟩ | h
    · exact hx1 j k q (p.1, ee) hj hk e.symm
    · rw [e] at h
      exact absurd h1 (Nat.not_lt.mpr h)
  rw [← e1]
  exact kk adR H4 ls hS hPM hDM hPC hx2 hl
end

section
/-! a case's end, the loop's head -/
def zw_Wd (l : Launch) (s : State) (D : va_G) (cA : Nat → ClassId) (ad adR : Nat → Nat) : Prop := zzWC l D cA ad (zEx ad) ∧ zzWR l D cA adR (zEx ad) ∧ (∀ i, i < zzSC.length → s.heap.size ≤ ad i) ∧ (∀ i, i < zzSR.length → s.heap.size ≤ adR i) ∧ ∀ i j, i < zzSC.length → j < zzSR.length → ad i ≠ adR j
def zw_H (s : State) (D : va_G) (cA : Nat → ClassId) (ad adR : Nat → Nat) (M R : zzMd) (H : Heap) : Prop := va_S (zwA s) s.heap H [] ∧ va_P D zzCl (zz_wl ad cA zzSC M) H ∧ va_P D zzCl (zz_wl adR cA zzSR R) H
def zw_lv (b : Nat) (ad adR : Nat → Nat) (t : Nat) : List (Nat × Value) := [(4, .int (zn (7 * t))), (0, .ref b), (1, .ref (ad 0)), (2, .ref (adR 0)), (3, .ref (ad 73))]
theorem zw_disC {l : Launch} {s : State} {D : va_G} {cA : Nat → ClassId} {ad adR : Nat → Nat} (Wd : zw_Wd l s D cA ad adR) {R : zzMd} : ∀ (k : Nat) (x : Nat × va_E), (zz_wl adR cA zzSR R)[k]? = some x → ∀ i, i < zzSC.length → x.1 ≠ ad i :=
  fun k x h i hi e => Wd.2.2.2.2 i k hi (zw_at h).1 (e.symm.trans (zw_at h).2)
theorem zw_disR {l : Launch} {s : State} {D : va_G} {cA : Nat → ClassId} {ad adR : Nat → Nat} (Wd : zw_Wd l s D cA ad adR) {M : zzMd} : ∀ (k : Nat) (x : Nat × va_E), (zz_wl ad cA zzSC M)[k]? = some x → ∀ i, i < zzSR.length → x.1 ≠ adR i :=
  fun k x h i hi e => Wd.2.2.2.2 k i (zw_at h).1 hi ((zw_at h).2.symm.trans e)
section
variable {p : Program} {l : Launch} {e : Env} {s : State} {m : MethodId} {below : List Frame} {meth : Method} {c : Code} {b L : Nat} {xs : Nat → Int32}
variable {D : va_G} {cA : Nat → ClassId} {ad adR : Nat → Nat} {H : Heap} {cells slots : Nat} {Q : State → Prop} {pc : Nat} {ls : Array Slot} {rest : List Value}
theorem lg_cmp_self (x : Int64) : lg_cmp x x = 0 := by
  unfold lg_cmp
  simp
theorem zw_fin0 (X : zw_Fx p s m meth c b L xs D cA ad) (Wd : zw_Wd l s D cA ad adR) {t pcE : Nat} {k v : Int32} {M R : zzMd} {off : Int} (hk : R.1 0 49 = k) (hcs : cells ≤ 601024 ∧ slots ≤ 7293034) (w : zw_H s D cA ad adR M R H) (hl : lv_has ls 7 ((6, .int v) :: (5, .int k) :: zw_lv b ad adR t))
    (d0 : decode code pc = .ok (.aload_n 2, 1)) (d1 : decode code (pc + 1) = .ok (.invokevirtual 143, 3)) (d2 : decode code (pc + 4) = .ok (.iload 5, 2)) (d3 : decode code (pc + 6) = .ok (.if_icmp .eq 5, 3)) (d4 : decode code (pc + 11) = .ok (.iload 5, 2)) (d5 : decode code (pc + 13) = .ok (.ifCond .ne off, 3)) (hoff : (pc : Int) + 13 + off = (pcE : Int))
    (kz : k = 0 → ∀ H1 : Heap, zw_H s D cA ad adR M R H1 → W p l e room_1 s m #[Value.ref b] below meth c H1 [] cells slots Q (F0 m (pc + 16) ls []))
    (kn : ∀ H1 : Heap, zw_H s D cA ad adR M R H1 → W p l e room_1 s m #[Value.ref b] below meth c H1 [] cells slots Q (F0 m pcE ls [])) : W p l e room_1 s m #[Value.ref b] below meth c H [] cells slots Q (F0 m pc ls []) := by
  have hx := X.1
  have hb := X.2.1
  obtain ⟨hS, hP, hPR⟩ := w
  refine lv_aload_n hx hb d0 rfl (lv_at hl 5 rfl) ?_
  refine zw_virt X (f := fX12_thrown) (S := zzSR) (ax := adR) (As := []) (v := some (.int (R.1 0 49))) (M' := R) (mm_X12_thrown Wd.2.1).1 (r_thrown R) (ci := 10) rfl rfl (zz_inl (by decide +kernel)) ⟨rfl, by decide, by decide, by decide +kernel⟩ (by decide) rfl hl.1 (Nat.le_of_ble_eq_true rfl) hcs Wd.2.2.2.1 hS hPR hP (zw_disR Wd) d1 (fun H1 hS hPR hP => ?_)
  refine lv_iload hx hb d2 (lv_at hl 1 rfl) ?_
  refine lv_icmp_eq (tgt := pc + 11) hx hb d3 (by omega) (fun _ => ?_) (fun h => absurd hk h)
  refine lv_iload hx hb d4 (lv_at hl 1 rfl) ?_
  refine lv_if_ne (tgt := pcE) hx hb d5 (by omega) (fun _ => kn H1 ⟨hS, hP, hPR⟩) (fun h => kz h H1 ⟨hS, hP, hPR⟩)
/-- an int is compared -/
theorem zw_finI (X : zw_Fx p s m meth c b L xs D cA ad) (Wd : zw_Wd l s D cA ad adR) {t : Nat} {k v : Int32} {M R : zzMd} {off : Int} (hk : R.1 0 49 = k) (ho : k = 0 → M.2 73 0 = zl_o false v) (hcs : cells ≤ 601024 ∧ slots ≤ 7293034) (w : zw_H s D cA ad adR M R H) (hl : lv_has ls 7 ((6, .int v) :: (5, .int k) :: zw_lv b ad adR t))
    (d0 : decode code pc = .ok (.aload_n 2, 1)) (d1 : decode code (pc + 1) = .ok (.invokevirtual 143, 3)) (d2 : decode code (pc + 4) = .ok (.iload 5, 2)) (d3 : decode code (pc + 6) = .ok (.if_icmp .eq 5, 3)) (d4 : decode code (pc + 11) = .ok (.iload 5, 2)) (d5 : decode code (pc + 13) = .ok (.ifCond .ne 15, 3))
    (d6 : decode code (pc + 16) = .ok (.aload_n 3, 1)) (d7 : decode code (pc + 17) = .ok (.iconst 0, 1)) (d8 : decode code (pc + 18) = .ok (.laload, 1)) (d9 : decode code (pc + 19) = .ok (.iload 6, 2)) (d10 : decode code (pc + 21) = .ok (.i2l, 1)) (d11 : decode code (pc + 22) = .ok (.lcmp, 1)) (d12 : decode code (pc + 23) = .ok (.ifCond .eq 5, 3)) (d13 : decode code (pc + 28) = .ok (.goto off, 3)) (hoff : (pc : Int) + 28 + off = 2801)
    (kk : ∀ H1 : Heap, zw_H s D cA ad adR M R H1 → lv_has ls 7 (zw_lv b ad adR t) → W p l e room_1 s m #[Value.ref b] below meth c H1 [] cells slots Q (F0 m 2801 ls [])) : W p l e room_1 s m #[Value.ref b] below meth c H [] cells slots Q (F0 m pc ls []) := by
  have hx := X.1
  have hb := X.2.1
  have hl' : lv_has ls 7 (zw_lv b ad adR t) := lv_sub hl [2, 3, 4, 5, 6] rfl
  have go : ∀ H1 : Heap, zw_H s D cA ad adR M R H1 → W p l e room_1 s m #[Value.ref b] below meth c H1 [] cells slots Q (F0 m (pc + 28) ls []) := fun H1 w => lv_goto (tgt := 2801) hx hb d13 (by omega) (kk H1 w hl')
  refine zw_fin0 X Wd hk hcs w hl d0 d1 d2 d3 d4 d5 (pcE := pc + 28) (by omega) (fun h H1 w => ?_) go
  refine lv_aload_n hx hb d6 rfl (lv_at hl 6 rfl) ?_
  refine lv_iconst (v := 0) hx hb d7 (by decide) ?_
  refine va_lald hx hb X.2.2.2.2.2.2.1 w.2.1 73 2 (zz_wl_get (i := 73) (sh := (2, 2, 1, [])) rfl) rfl (zz_inb_in (by decide)) d8 ?_
  refine lv_iload hx hb d9 (lv_at hl 0 rfl) ?_
  refine lv_i2l (v := v.toInt64) hx hb d10 rfl ?_
  refine W.lcmp hx hb d11 ?_
  rw [show M.2 73 ((0 : Int32).toNatClampNeg) = v.toInt64 from ho h, lg_cmp_self]
  exact lv_if_eq (tgt := pc + 28) hx hb d12 (by omega) (fun _ => go H1 w) (fun h => absurd rfl h)
/-- a boolean is compared -/
theorem zw_finB (X : zw_Fx p s m meth c b L xs D cA ad) (Wd : zw_Wd l s D cA ad adR) {t : Nat} {k v : Int32} {M R : zzMd} {off : Int} (hk : R.1 0 49 = k) (ho : k = 0 → M.2 73 0 = zl_o true v) (hcs : cells ≤ 601024 ∧ slots ≤ 7293034) (w : zw_H s D cA ad adR M R H) (hl : lv_has ls 7 ((6, .int v) :: (5, .int k) :: zw_lv b ad adR t))
    (d0 : decode code pc = .ok (.aload_n 2, 1)) (d1 : decode code (pc + 1) = .ok (.invokevirtual 143, 3)) (d2 : decode code (pc + 4) = .ok (.iload 5, 2)) (d3 : decode code (pc + 6) = .ok (.if_icmp .eq 5, 3)) (d4 : decode code (pc + 11) = .ok (.iload 5, 2)) (d5 : decode code (pc + 13) = .ok (.ifCond .ne 22, 3))
    (d6 : decode code (pc + 16) = .ok (.aload_n 3, 1)) (d7 : decode code (pc + 17) = .ok (.iconst 0, 1)) (d8 : decode code (pc + 18) = .ok (.laload, 1)) (d9 : decode code (pc + 19) = .ok (.iload 6, 2)) (d10 : decode code (pc + 21) = .ok (.ifCond .eq 7, 3)) (e1 : decode code (pc + 24) = .ok (.lconst 1, 1)) (e2 : decode code (pc + 25) = .ok (.goto 4, 3)) (e3 : decode code (pc + 28) = .ok (.lconst 0, 1)) (d11 : decode code (pc + 29) = .ok (.lcmp, 1)) (d12 : decode code (pc + 30) = .ok (.ifCond .eq 5, 3)) (d13 : decode code (pc + 35) = .ok (.goto off, 3)) (hoff : (pc : Int) + 35 + off = 2801)
    (kk : ∀ H1 : Heap, zw_H s D cA ad adR M R H1 → lv_has ls 7 (zw_lv b ad adR t) → W p l e room_1 s m #[Value.ref b] below meth c H1 [] cells slots Q (F0 m 2801 ls [])) : W p l e room_1 s m #[Value.ref b] below meth c H [] cells slots Q (F0 m pc ls []) := by
  have hx := X.1
  have hb := X.2.1
  have hl' : lv_has ls 7 (zw_lv b ad adR t) := lv_sub hl [2, 3, 4, 5, 6] rfl
  have go : ∀ H1 : Heap, zw_H s D cA ad adR M R H1 → W p l e room_1 s m #[Value.ref b] below meth c H1 [] cells slots Q (F0 m (pc + 35) ls []) := fun H1 w => lv_goto (tgt := 2801) hx hb d13 (by omega) (kk H1 w hl')
  refine zw_fin0 X Wd hk hcs w hl d0 d1 d2 d3 d4 d5 (pcE := pc + 35) (by omega) (fun h H1 w => ?_) go
  refine lv_aload_n hx hb d6 rfl (lv_at hl 6 rfl) ?_
  refine lv_iconst (v := 0) hx hb d7 (by decide) ?_
  refine va_lald hx hb X.2.2.2.2.2.2.1 w.2.1 73 2 (zz_wl_get (i := 73) (sh := (2, 2, 1, [])) rfl) rfl (zz_inb_in (by decide)) d8 ?_
  refine lv_iload hx hb d9 (lv_at hl 0 rfl) ?_
  have ho := ho h
  refine lv_if_eq (tgt := pc + 28) hx hb d10 (by omega) (fun h => ?_) (fun h => ?_)
  · refine lv_lconst (v := 0) hx hb e3 rfl ?_
    refine W.lcmp hx hb d11 ?_
    rw [show M.2 73 ((0 : Int32).toNatClampNeg) = 0 from ho.trans (if_pos h), lg_cmp_self]
    exact lv_if_eq (tgt := pc + 35) hx hb d12 (by omega) (fun _ => go H1 w) (fun h => absurd rfl h)
  · refine lv_lconst (v := 1) hx hb e1 rfl ?_
    refine lv_goto (tgt := pc + 29) hx hb e2 (by omega) ?_
    refine W.lcmp hx hb d11 ?_
    rw [show M.2 73 ((0 : Int32).toNatClampNeg) = 1 from ho.trans (if_neg h), lg_cmp_self]
    exact lv_if_eq (tgt := pc + 35) hx hb d12 (by omega) (fun _ => go H1 w) (fun h => absurd rfl h)
end
/-- what a case has to show: it goes on to the loop's foot, and both still say the same -/
def zw_Case (p : Program) (l : Launch) (e : Env) (s : State) (m : MethodId) (below : List Frame) (meth : Method) (c : Code) (b L : Nat) (D : va_G) (cA : Nat → ClassId) (ad adR : Nat → Nat) (Q : State → Prop) (pc t : Nat) : Prop :=
  ∀ (M R : zzMd) (H : Heap) (ls : Array Slot) (cells slots : Nat), cells + 1 ≤ 601024 ∧ slots + 6 ≤ 7293034 → Rel (nz M) R → zw_H s D cA ad adR M R H → lv_has ls 7 (zw_lv b ad adR t) →
    (∀ (M2 R2 : zzMd) (H1 : Heap) (ls1 : Array Slot), Rel (nz M2) R2 → zw_H s D cA ad adR M2 R2 H1 → lv_has ls1 7 (zw_lv b ad adR t) → W p l e room_1 s m #[Value.ref b] below meth c H1 [] (cells + 1) (slots + 6) Q (F0 m 2801 ls1 [])) →
    W p l e room_1 s m #[Value.ref b] below meth c H [] cells slots Q (F0 m pc ls [])
end

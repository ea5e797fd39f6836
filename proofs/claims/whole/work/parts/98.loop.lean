section
/-! the loop -/
theorem zw_and63 (y : Int32) : ∃ n, n < 64 ∧ (y &&& 63) = zn n := by
  refine ⟨(y &&& 63).toBitVec.toNat, ?_, ?_⟩
  · rw [Int32.toBitVec_and, BitVec.toNat_and]
    exact Nat.lt_of_le_of_lt Nat.and_le_right (by decide)
  · refine Int32.toBitVec_inj.mp ?_
    show (y &&& 63).toBitVec = BitVec.ofNat 32 (y &&& 63).toBitVec.toNat
    rw [BitVec.ofNat_toNat, BitVec.setWidth_eq]
theorem zw_sub7 {L i : Nat} (hL : L ≤ 3584) (hi : i ≤ 3584) : (zn L - 7 < zn i) = (L < i + 7) := by
  by_cases h : 7 ≤ L
  · have e : zn L - 7 = zn (L - 7) := by
      have e1 : zn L = zn (L - 7) + 7 := by
        have e2 := zn_add (L - 7) 7
        rw [show L - 7 + 7 = L by omega] at e2
        exact e2.symm
      rw [e1, Int32.add_sub_cancel]
    rw [e, zn_lt (by omega) (by omega)]
    exact propext ⟨fun h => by omega, fun h => by omega⟩
  · have h0 : zn L - 7 < 0 := by
      rcases (show L = 0 ∨ L = 1 ∨ L = 2 ∨ L = 3 ∨ L = 4 ∨ L = 5 ∨ L = 6 by omega) with rfl | rfl | rfl | rfl | rfl | rfl | rfl <;> decide
    have h1 : zn L - 7 < zn i := by
      rw [Int32.lt_iff_toInt_lt] at h0 ⊢
      rw [zn_toInt (by omega)]
      have h2 : (0 : Int32).toInt = 0 := rfl
      omega
    exact propext ⟨fun _ => by omega, fun _ => h1⟩
theorem zw_off {n : Nat} {pc : Int} (h : n < 64) (h2 : 41 ≤ n) : (zn n).toInt < 0 ∨ 40 < (zn n).toInt := by
  rw [zn_toInt (by omega)]
  omega
section
variable {p : Program} {l : Launch} {e : Env} {s : State} {m : MethodId} {below : List Frame} {meth : Method} {c : Code} {b L : Nat} {xs : Nat → Int32}
variable {D : va_G} {cA : Nat → ClassId} {ad adR : Nat → Nat} {Q : State → Prop}
theorem zw_c (X : zw_Fx p s m meth c b L xs D cA ad) (Wd : zw_Wd l s D cA ad adR) {t n : Nat} (hn : n < 41) (ht : 7 * t + 7 ≤ L) (hL : L ≤ 3584) : ∃ (off : Int) (tgt : Nat), (#[180, 248, 382, 490, 558, 649, 733, 851, 931, 944, 1000, 1068, 1124, 1180, 1236, 1304, 1372, 1452, 1465, 1533, 1589, 1645, 1701, 1757, 1820, 1888, 1929, 1942, 1955, 2011, 2079, 2147, 2203, 2259, 2315, 2371, 2427, 2483, 2546, 2621, 2705] : Array Int)[n]? = some off ∧ (40 : Int) + off = (tgt : Int) ∧ zw_Case p l e s m below meth c b L D cA ad adR Q tgt t := by
  rcases Nat.lt_or_ge n 14 with h | h
  · rcases (show n = 0 ∨ n = 1 ∨ n = 2 ∨ n = 3 ∨ n = 4 ∨ n = 5 ∨ n = 6 ∨ n = 7 ∨ n = 8 ∨ n = 9 ∨ n = 10 ∨ n = 11 ∨ n = 12 ∨ n = 13 by omega) with rfl | rfl | rfl | rfl | rfl | rfl | rfl | rfl | rfl | rfl | rfl | rfl | rfl | rfl
    · exact ⟨180, 220, rfl, by decide, zw_c0 X Wd ht hL⟩
    · exact ⟨248, 288, rfl, by decide, zw_c1 X Wd ht hL⟩
    · exact ⟨382, 422, rfl, by decide, zw_c2 X Wd ht hL⟩
    · exact ⟨490, 530, rfl, by decide, zw_c3 X Wd ht hL⟩
    · exact ⟨558, 598, rfl, by decide, zw_c4 X Wd ht hL⟩
    · exact ⟨649, 689, rfl, by decide, zw_c5 X Wd ht hL⟩
    · exact ⟨733, 773, rfl, by decide, zw_c6 X Wd ht hL⟩
    · exact ⟨851, 891, rfl, by decide, zw_c7 X Wd ht hL⟩
    · exact ⟨931, 971, rfl, by decide, zw_c8 X Wd ht hL⟩
    · exact ⟨944, 984, rfl, by decide, zw_c9 X Wd ht hL⟩
    · exact ⟨1000, 1040, rfl, by decide, zw_c10 X Wd ht hL⟩
    · exact ⟨1068, 1108, rfl, by decide, zw_c11 X Wd ht hL⟩
    · exact ⟨1124, 1164, rfl, by decide, zw_c12 X Wd ht hL⟩
    · exact ⟨1180, 1220, rfl, by decide, zw_c13 X Wd ht hL⟩
  · rcases Nat.lt_or_ge n 28 with h2 | h2
    · rcases (show n = 14 ∨ n = 15 ∨ n = 16 ∨ n = 17 ∨ n = 18 ∨ n = 19 ∨ n = 20 ∨ n = 21 ∨ n = 22 ∨ n = 23 ∨ n = 24 ∨ n = 25 ∨ n = 26 ∨ n = 27 by omega) with rfl | rfl | rfl | rfl | rfl | rfl | rfl | rfl | rfl | rfl | rfl | rfl | rfl | rfl
      · exact ⟨1236, 1276, rfl, by decide, zw_c14 X Wd ht hL⟩
      · exact ⟨1304, 1344, rfl, by decide, zw_c15 X Wd ht hL⟩
      · exact ⟨1372, 1412, rfl, by decide, zw_c16 X Wd ht hL⟩
      · exact ⟨1452, 1492, rfl, by decide, zw_c17 X Wd ht hL⟩
      · exact ⟨1465, 1505, rfl, by decide, zw_c18 X Wd ht hL⟩
      · exact ⟨1533, 1573, rfl, by decide, zw_c19 X Wd ht hL⟩
      · exact ⟨1589, 1629, rfl, by decide, zw_c20 X Wd ht hL⟩
      · exact ⟨1645, 1685, rfl, by decide, zw_c21 X Wd ht hL⟩
      · exact ⟨1701, 1741, rfl, by decide, zw_c22 X Wd ht hL⟩
      · exact ⟨1757, 1797, rfl, by decide, zw_c23 X Wd ht hL⟩
      · exact ⟨1820, 1860, rfl, by decide, zw_c24 X Wd ht hL⟩
      · exact ⟨1888, 1928, rfl, by decide, zw_c25 X Wd ht hL⟩
      · exact ⟨1929, 1969, rfl, by decide, zw_c26 X Wd ht hL⟩
      · exact ⟨1942, 1982, rfl, by decide, zw_c27 X Wd ht hL⟩
    · rcases (show n = 28 ∨ n = 29 ∨ n = 30 ∨ n = 31 ∨ n = 32 ∨ n = 33 ∨ n = 34 ∨ n = 35 ∨ n = 36 ∨ n = 37 ∨ n = 38 ∨ n = 39 ∨ n = 40 by omega) with rfl | rfl | rfl | rfl | rfl | rfl | rfl | rfl | rfl | rfl | rfl | rfl | rfl
      · exact ⟨1955, 1995, rfl, by decide, zw_c28 X Wd ht hL⟩
      · exact ⟨2011, 2051, rfl, by decide, zw_c29 X Wd ht hL⟩
      · exact ⟨2079, 2119, rfl, by decide, zw_c30 X Wd ht hL⟩
      · exact ⟨2147, 2187, rfl, by decide, zw_c31 X Wd ht hL⟩
      · exact ⟨2203, 2243, rfl, by decide, zw_c32 X Wd ht hL⟩
      · exact ⟨2259, 2299, rfl, by decide, zw_c33 X Wd ht hL⟩
      · exact ⟨2315, 2355, rfl, by decide, zw_c34 X Wd ht hL⟩
      · exact ⟨2371, 2411, rfl, by decide, zw_c35 X Wd ht hL⟩
      · exact ⟨2427, 2467, rfl, by decide, zw_c36 X Wd ht hL⟩
      · exact ⟨2483, 2523, rfl, by decide, zw_c37 X Wd ht hL⟩
      · exact ⟨2546, 2586, rfl, by decide, zw_c38 X Wd ht hL⟩
      · exact ⟨2621, 2661, rfl, by decide, zw_c39 X Wd ht hL⟩
      · exact ⟨2705, 2745, rfl, by decide, zw_c40 X Wd ht hL⟩
theorem zw_loop (X : zw_Fx p s m meth c b L xs D cA ad) (Wd : zw_Wd l s D cA ad adR) (hL : L ≤ 3584) : ∀ (k t : Nat), t + k = L / 7 → ∀ (M R : zzMd) (H : Heap) (ls : Array Slot), Rel (nz M) R → zw_H s D cA ad adR M R H → lv_has ls 7 (zw_lv b ad adR t) →
    W p l e room_1 s m #[Value.ref b] below meth c H [] (113 + t) (22770 + 6 * t) (lw_Z below #[Value.ref b] s) (F0 m 23 ls []) := by
  have hx := X.1
  have hb := X.2.1
  have hsc := X.2.2.2.2.2.2.2.2.1
  have hbl := X.2.2.2.2.2.2.2.2.2.1
  have hbA : ¬ zwA s b := fun h => absurd hbl (Nat.not_lt.mpr h)
  intro k
  induction k with
  | zero =>
    intro t ht M R H ls HR w hl
    refine lv_iload hx hb dw_23 (lv_at hl 0 rfl) ?_
    refine lv_aload_n hx hb dw_25 rfl (lv_at hl 1 rfl) ?_
    refine va_slen hx hb hsc hbl hbA w.1 dw_26 ?_
    refine lv_bipush (v := 7) hx hb dw_27 (by decide) ?_
    refine lv_isub hx hb dw_29 ?_
    refine lv_icmp_gt (tgt := 2807) hx hb dw_30 (by decide) (fun _ => ?_) (fun h => absurd ((zw_sub7 (L := L) (i := 7 * t) hL (by omega)).mpr (by omega)) h)
    refine lv_iconst (v := 1) hx hb dw_2807 (by decide) ?_
    exact fun T hT Y => lw_ret hx hb X.2.2.1 X.2.2.2.2.2.2.2.2.2.2 dw_2808 T hT (stand_widen Y (by omega) (by omega))
  | succ k ih =>
    intro t ht M R H ls HR w hl
    have ht7 : 7 * t + 7 ≤ L := by omega
    refine lv_iload hx hb dw_23 (lv_at hl 0 rfl) ?_
    refine lv_aload_n hx hb dw_25 rfl (lv_at hl 1 rfl) ?_
    refine va_slen hx hb hsc hbl hbA w.1 dw_26 ?_
    refine lv_bipush (v := 7) hx hb dw_27 (by decide) ?_
    refine lv_isub hx hb dw_29 ?_
    refine lv_icmp_gt (tgt := 2807) hx hb dw_30 (by decide) (fun h => absurd ((zw_sub7 (L := L) (i := 7 * t) hL (by omega)).mp h) (by omega)) (fun _ => ?_)
    refine lv_aload_n hx hb dw_33 rfl (lv_at hl 1 rfl) ?_
    refine lv_iload hx hb dw_34 (lv_at hl 0 rfl) ?_
    refine va_sld hx hb hsc hbl hbA w.1 (zz_inb_in (zn_inT (k := 7 * t) (n := L) (by omega) (by omega))) dw_36 ?_
    refine lv_bipush (v := 63) hx hb dw_37 (by decide) ?_
    refine lv_iand hx hb dw_39 ?_
    have foot : ∀ (M2 R2 : zzMd) (H1 : Heap) (ls1 : Array Slot), Rel (nz M2) R2 → zw_H s D cA ad adR M2 R2 H1 → lv_has ls1 7 (zw_lv b ad adR t) → W p l e room_1 s m #[Value.ref b] below meth c H1 [] (113 + t + 1) (22770 + 6 * t + 6) (lw_Z below #[Value.ref b] s) (F0 m 2801 ls1 []) := by
      intro M2 R2 H1 ls1 HR w hl
      refine lv_iinc (v := zn (7 * (t + 1))) (lv' := zw_lv b ad adR (t + 1)) hx hb dw_2801 hl (k := 0) rfl (zn_add (7 * t) 7) (by decide) rfl (fun ls hl => ?_)
      refine lv_goto (tgt := 23) hx hb dw_2804 (by decide) ?_
      exact ih (t + 1) (by omega) M2 R2 H1 ls HR w hl
    obtain ⟨n, hn, e63⟩ := zw_and63 (xs (zn (7 * t)).toNatClampNeg)
    rw [e63]
    by_cases h41 : n < 41
    · obtain ⟨off, tgt, h1, h2, h3⟩ := zw_c (Q := lw_Z below #[Value.ref b] s) (e := e) (below := below) X Wd h41 ht7 hL
      refine lv_tableIn (off := off) (tgt := tgt) hx hb dw_40 (by rw [zn_toInt (by omega)]; omega) (by rw [zn_toInt (by omega)]; omega) (by rw [zn_toInt (by omega)]; exact h1) h2 ?_
      exact h3 M R H ls _ _ ⟨by omega, by omega⟩ HR w hl foot
    · refine lv_tableOut (tgt := 2801) hx hb dw_40 (zw_off (pc := 0) hn (by omega)) (by decide) ?_
      exact fun T hT Y => foot M R H ls HR w hl T hT (stand_widen Y (Nat.le_succ _) (Nat.le_add_right _ _))
end
end

section
variable {p : Program} {l : Launch} {e : Env} {s : State} {m : MethodId} {below : List Frame} {meth : Method} {c : Code} {b L : Nat} {xs : Nat → Int32}
variable {D : va_G} {cA : Nat → ClassId} {ad adR : Nat → Nat} {Q : State → Prop}
theorem zw_c36 (X : zw_Fx p s m meth c b L xs D cA ad) (Wd : zw_Wd l s D cA ad adR) {t : Nat} (ht : 7 * t + 7 ≤ L) (hL : L ≤ 3584) : zw_Case p l e s m below meth c b L D cA ad adR Q 2467 t := by
  intro M R H ls cells slots hcs HR w hl kk
  have hx := X.1
  have hb := X.2.1
  obtain ⟨k, v, M2, R2, h1, h2, h3, h4, h5⟩ := zw_agree (b := false) (c_placeOf HR (xs (7 * t + 1)))
  refine lv_aload_n hx hb dw_2467 rfl (lv_at hl 2 rfl) ?_
  refine zw_arg (t := t) (j := 1) X w.1 ht (by decide) hL (lv_at hl 1 rfl) (lv_at hl 0 rfl) dw_2468 dw_2469 dw_2471 (by decide) dw_2472 dw_2473 ?_
  refine lv_aload_n hx hb dw_2474 rfl (lv_at hl 4 rfl) ?_
  refine zw_wrap X (n := 3) (As := [.ref 0, .int (xs (7 * t + 1)), .ref 73]) (rest := []) (lw_placeOf Wd.1 (zEx_XOk ad) h1) (zz_inl (by decide +kernel)) ⟨by decide, by decide, by decide +kernel⟩ (by decide) rfl hl.1 (Nat.le_of_ble_eq_true rfl) hcs Wd.2.2.1 w.1 w.2.1 w.2.2 (zw_disC Wd) dw_2475 (fun H1 hS hP hPR => ?_)
  refine lv_istore (lv' := (5, .int k) :: zw_lv b ad adR t) hx hb dw_2478 hl (by decide) rfl (fun ls hl => ?_)
  refine lv_aload_n hx hb dw_2480 rfl (lv_at hl 4 rfl) ?_
  refine zw_arg (t := t) (j := 1) X hS ht (by decide) hL (lv_at hl 2 rfl) (lv_at hl 1 rfl) dw_2481 dw_2482 dw_2484 (by decide) dw_2485 dw_2486 ?_
  refine zw_virt X (n := 1) (S := zzSR) (ax := adR) (As := [.int (xs (7 * t + 1))]) (rest := []) (v := some (.int v)) (mm_X12_placeOf Wd.2.1).1 h2 (ci := 10) rfl rfl (zz_inl (by decide +kernel)) ⟨rfl, by decide, by decide, by decide +kernel⟩ (by decide) rfl hl.1 (Nat.le_of_ble_eq_true rfl) hcs Wd.2.2.2.1 hS hPR hP (zw_disR Wd) dw_2487 (fun H1 hS hPR hP => ?_)
  refine lv_istore (lv' := (6, .int v) :: (5, .int k) :: zw_lv b ad adR t) hx hb dw_2490 hl (by decide) rfl (fun ls hl => ?_)
  exact zw_finI X Wd h3 h5 hcs ⟨hS, hP, hPR⟩ hl dw_2492 dw_2493 dw_2496 dw_2498 dw_2503 dw_2505 dw_2508 dw_2509 dw_2510 dw_2511 dw_2513 dw_2514 dw_2515 dw_2520 (by decide) (fun H1 w hl => kk M2 R2 H1 ls h4 w hl)
theorem zw_c37 (X : zw_Fx p s m meth c b L xs D cA ad) (Wd : zw_Wd l s D cA ad adR) {t : Nat} (ht : 7 * t + 7 ≤ L) (hL : L ≤ 3584) : zw_Case p l e s m below meth c b L D cA ad adR Q 2523 t := by
  intro M R H ls cells slots hcs HR w hl kk
  have hx := X.1
  have hb := X.2.1
  obtain ⟨k, v, M2, R2, h1, h2, h3, h4, h5⟩ := zw_agree (b := true) (c_isReady HR (xs (7 * t + 1)))
  refine lv_aload_n hx hb dw_2523 rfl (lv_at hl 2 rfl) ?_
  refine zw_arg (t := t) (j := 1) X w.1 ht (by decide) hL (lv_at hl 1 rfl) (lv_at hl 0 rfl) dw_2524 dw_2525 dw_2527 (by decide) dw_2528 dw_2529 ?_
  refine lv_aload_n hx hb dw_2530 rfl (lv_at hl 4 rfl) ?_
  refine zw_wrap X (n := 3) (As := [.ref 0, .int (xs (7 * t + 1)), .ref 73]) (rest := []) (lw_isReady Wd.1 (zEx_XOk ad) h1) (zz_inl (by decide +kernel)) ⟨by decide, by decide, by decide +kernel⟩ (by decide) rfl hl.1 (Nat.le_of_ble_eq_true rfl) hcs Wd.2.2.1 w.1 w.2.1 w.2.2 (zw_disC Wd) dw_2531 (fun H1 hS hP hPR => ?_)
  refine lv_istore (lv' := (5, .int k) :: zw_lv b ad adR t) hx hb dw_2534 hl (by decide) rfl (fun ls hl => ?_)
  refine lv_aload_n hx hb dw_2536 rfl (lv_at hl 4 rfl) ?_
  refine zw_arg (t := t) (j := 1) X hS ht (by decide) hL (lv_at hl 2 rfl) (lv_at hl 1 rfl) dw_2537 dw_2538 dw_2540 (by decide) dw_2541 dw_2542 ?_
  refine zw_virt X (n := 1) (S := zzSR) (ax := adR) (As := [.int (xs (7 * t + 1))]) (rest := []) (v := some (.int v)) (mm_X12_isReady Wd.2.1).1 h2 (ci := 10) rfl rfl (zz_inl (by decide +kernel)) ⟨rfl, by decide, by decide, by decide +kernel⟩ (by decide) rfl hl.1 (Nat.le_of_ble_eq_true rfl) hcs Wd.2.2.2.1 hS hPR hP (zw_disR Wd) dw_2543 (fun H1 hS hPR hP => ?_)
  refine lv_istore (lv' := (6, .int v) :: (5, .int k) :: zw_lv b ad adR t) hx hb dw_2546 hl (by decide) rfl (fun ls hl => ?_)
  exact zw_finB X Wd h3 h5 hcs ⟨hS, hP, hPR⟩ hl dw_2548 dw_2549 dw_2552 dw_2554 dw_2559 dw_2561 dw_2564 dw_2565 dw_2566 dw_2567 dw_2569 dw_2572 dw_2573 dw_2576 dw_2577 dw_2578 dw_2583 (by decide) (fun H1 w hl => kk M2 R2 H1 ls h4 w hl)
theorem zw_c38 (X : zw_Fx p s m meth c b L xs D cA ad) (Wd : zw_Wd l s D cA ad adR) {t : Nat} (ht : 7 * t + 7 ≤ L) (hL : L ≤ 3584) : zw_Case p l e s m below meth c b L D cA ad adR Q 2586 t := by
  intro M R H ls cells slots hcs HR w hl kk
  have hx := X.1
  have hb := X.2.1
  obtain ⟨k, v, M2, R2, h1, h2, h3, h4, h5⟩ := zw_agree (b := true) (c_isBehind HR (xs (7 * t + 1)) (xs (7 * t + 2)))
  refine lv_aload_n hx hb dw_2586 rfl (lv_at hl 2 rfl) ?_
  refine zw_arg (t := t) (j := 1) X w.1 ht (by decide) hL (lv_at hl 1 rfl) (lv_at hl 0 rfl) dw_2587 dw_2588 dw_2590 (by decide) dw_2591 dw_2592 ?_
  refine zw_arg (t := t) (j := 2) X w.1 ht (by decide) hL (lv_at hl 1 rfl) (lv_at hl 0 rfl) dw_2593 dw_2594 dw_2596 (by decide) dw_2597 dw_2598 ?_
  refine lv_aload_n hx hb dw_2599 rfl (lv_at hl 4 rfl) ?_
  refine zw_wrap X (n := 4) (As := [.ref 0, .int (xs (7 * t + 1)), .int (xs (7 * t + 2)), .ref 73]) (rest := []) (lw_isBehind Wd.1 (zEx_XOk ad) h1) (zz_inl (by decide +kernel)) ⟨by decide, by decide, by decide +kernel⟩ (by decide) rfl hl.1 (Nat.le_of_ble_eq_true rfl) hcs Wd.2.2.1 w.1 w.2.1 w.2.2 (zw_disC Wd) dw_2600 (fun H1 hS hP hPR => ?_)
  refine lv_istore (lv' := (5, .int k) :: zw_lv b ad adR t) hx hb dw_2603 hl (by decide) rfl (fun ls hl => ?_)
  refine lv_aload_n hx hb dw_2605 rfl (lv_at hl 4 rfl) ?_
  refine zw_arg (t := t) (j := 1) X hS ht (by decide) hL (lv_at hl 2 rfl) (lv_at hl 1 rfl) dw_2606 dw_2607 dw_2609 (by decide) dw_2610 dw_2611 ?_
  refine zw_arg (t := t) (j := 2) X hS ht (by decide) hL (lv_at hl 2 rfl) (lv_at hl 1 rfl) dw_2612 dw_2613 dw_2615 (by decide) dw_2616 dw_2617 ?_
  refine zw_virt X (n := 2) (S := zzSR) (ax := adR) (As := [.int (xs (7 * t + 1)), .int (xs (7 * t + 2))]) (rest := []) (v := some (.int v)) (mm_X12_isBehind Wd.2.1).1 h2 (ci := 10) rfl rfl (zz_inl (by decide +kernel)) ⟨rfl, by decide, by decide, by decide +kernel⟩ (by decide) rfl hl.1 (Nat.le_of_ble_eq_true rfl) hcs Wd.2.2.2.1 hS hPR hP (zw_disR Wd) dw_2618 (fun H1 hS hPR hP => ?_)
  refine lv_istore (lv' := (6, .int v) :: (5, .int k) :: zw_lv b ad adR t) hx hb dw_2621 hl (by decide) rfl (fun ls hl => ?_)
  exact zw_finB X Wd h3 h5 hcs ⟨hS, hP, hPR⟩ hl dw_2623 dw_2624 dw_2627 dw_2629 dw_2634 dw_2636 dw_2639 dw_2640 dw_2641 dw_2642 dw_2644 dw_2647 dw_2648 dw_2651 dw_2652 dw_2653 dw_2658 (by decide) (fun H1 w hl => kk M2 R2 H1 ls h4 w hl)
theorem zw_c39 (X : zw_Fx p s m meth c b L xs D cA ad) (Wd : zw_Wd l s D cA ad adR) {t : Nat} (ht : 7 * t + 7 ≤ L) (hL : L ≤ 3584) : zw_Case p l e s m below meth c b L D cA ad adR Q 2661 t := by
  intro M R H ls cells slots hcs HR w hl kk
  have hx := X.1
  have hb := X.2.1
  obtain ⟨k, v, M2, R2, h1, h2, h3, h4, h5⟩ := zw_agree (b := false) (c_running HR (xs (7 * t + 1)) (zw_b (xs (7 * t + 2))))
  refine lv_aload_n hx hb dw_2661 rfl (lv_at hl 2 rfl) ?_
  refine zw_arg (t := t) (j := 1) X w.1 ht (by decide) hL (lv_at hl 1 rfl) (lv_at hl 0 rfl) dw_2662 dw_2663 dw_2665 (by decide) dw_2666 dw_2667 ?_
  refine zw_arg (t := t) (j := 2) X w.1 ht (by decide) hL (lv_at hl 1 rfl) (lv_at hl 0 rfl) dw_2668 dw_2669 dw_2671 (by decide) dw_2672 dw_2673 ?_
  refine zw_bool X dw_2674 dw_2677 dw_2678 dw_2681 ?_
  refine lv_aload_n hx hb dw_2682 rfl (lv_at hl 4 rfl) ?_
  refine zw_wrap X (n := 4) (As := [.ref 0, .int (xs (7 * t + 1)), .int (zw_b (xs (7 * t + 2))), .ref 73]) (rest := []) (lw_running Wd.1 (zEx_XOk ad) h1) (zz_inl (by decide +kernel)) ⟨by decide, by decide, by decide +kernel⟩ (by decide) rfl hl.1 (Nat.le_of_ble_eq_true rfl) hcs Wd.2.2.1 w.1 w.2.1 w.2.2 (zw_disC Wd) dw_2683 (fun H1 hS hP hPR => ?_)
  refine lv_istore (lv' := (5, .int k) :: zw_lv b ad adR t) hx hb dw_2686 hl (by decide) rfl (fun ls hl => ?_)
  refine lv_aload_n hx hb dw_2688 rfl (lv_at hl 4 rfl) ?_
  refine zw_arg (t := t) (j := 1) X hS ht (by decide) hL (lv_at hl 2 rfl) (lv_at hl 1 rfl) dw_2689 dw_2690 dw_2692 (by decide) dw_2693 dw_2694 ?_
  refine zw_arg (t := t) (j := 2) X hS ht (by decide) hL (lv_at hl 2 rfl) (lv_at hl 1 rfl) dw_2695 dw_2696 dw_2698 (by decide) dw_2699 dw_2700 ?_
  refine zw_bool X dw_2701 dw_2704 dw_2705 dw_2708 ?_
  refine zw_virt X (n := 2) (S := zzSR) (ax := adR) (As := [.int (xs (7 * t + 1)), .int (zw_b (xs (7 * t + 2)))]) (rest := []) (v := some (.int v)) (mm_X12_running Wd.2.1).1 h2 (ci := 10) rfl rfl (zz_inl (by decide +kernel)) ⟨rfl, by decide, by decide, by decide +kernel⟩ (by decide) rfl hl.1 (Nat.le_of_ble_eq_true rfl) hcs Wd.2.2.2.1 hS hPR hP (zw_disR Wd) dw_2709 (fun H1 hS hPR hP => ?_)
  refine lv_istore (lv' := (6, .int v) :: (5, .int k) :: zw_lv b ad adR t) hx hb dw_2712 hl (by decide) rfl (fun ls hl => ?_)
  exact zw_finI X Wd h3 h5 hcs ⟨hS, hP, hPR⟩ hl dw_2714 dw_2715 dw_2718 dw_2720 dw_2725 dw_2727 dw_2730 dw_2731 dw_2732 dw_2733 dw_2735 dw_2736 dw_2737 dw_2742 (by decide) (fun H1 w hl => kk M2 R2 H1 ls h4 w hl)
theorem zw_c40 (X : zw_Fx p s m meth c b L xs D cA ad) (Wd : zw_Wd l s D cA ad adR) {t : Nat} (ht : 7 * t + 7 ≤ L) (hL : L ≤ 3584) : zw_Case p l e s m below meth c b L D cA ad adR Q 2745 t := by
  intro M R H ls cells slots hcs HR w hl kk
  have hx := X.1
  have hb := X.2.1
  obtain ⟨k, v, M2, R2, h1, h2, h3, h4, h5⟩ := zw_agree (b := false) (c_objectOf HR (xs (7 * t + 1)))
  refine lv_aload_n hx hb dw_2745 rfl (lv_at hl 2 rfl) ?_
  refine zw_arg (t := t) (j := 1) X w.1 ht (by decide) hL (lv_at hl 1 rfl) (lv_at hl 0 rfl) dw_2746 dw_2747 dw_2749 (by decide) dw_2750 dw_2751 ?_
  refine lv_aload_n hx hb dw_2752 rfl (lv_at hl 4 rfl) ?_
  refine zw_wrap X (n := 3) (As := [.ref 0, .int (xs (7 * t + 1)), .ref 73]) (rest := []) (lw_objectOf Wd.1 (zEx_XOk ad) h1) (zz_inl (by decide +kernel)) ⟨by decide, by decide, by decide +kernel⟩ (by decide) rfl hl.1 (Nat.le_of_ble_eq_true rfl) hcs Wd.2.2.1 w.1 w.2.1 w.2.2 (zw_disC Wd) dw_2753 (fun H1 hS hP hPR => ?_)
  refine lv_istore (lv' := (5, .int k) :: zw_lv b ad adR t) hx hb dw_2756 hl (by decide) rfl (fun ls hl => ?_)
  refine lv_aload_n hx hb dw_2758 rfl (lv_at hl 4 rfl) ?_
  refine zw_arg (t := t) (j := 1) X hS ht (by decide) hL (lv_at hl 2 rfl) (lv_at hl 1 rfl) dw_2759 dw_2760 dw_2762 (by decide) dw_2763 dw_2764 ?_
  refine zw_virt X (n := 1) (S := zzSR) (ax := adR) (As := [.int (xs (7 * t + 1))]) (rest := []) (v := some (.int v)) (mm_X12_objectOf Wd.2.1).1 h2 (ci := 10) rfl rfl (zz_inl (by decide +kernel)) ⟨rfl, by decide, by decide, by decide +kernel⟩ (by decide) rfl hl.1 (Nat.le_of_ble_eq_true rfl) hcs Wd.2.2.2.1 hS hPR hP (zw_disR Wd) dw_2765 (fun H1 hS hPR hP => ?_)
  refine lv_istore (lv' := (6, .int v) :: (5, .int k) :: zw_lv b ad adR t) hx hb dw_2768 hl (by decide) rfl (fun ls hl => ?_)
  exact zw_finI X Wd h3 h5 hcs ⟨hS, hP, hPR⟩ hl dw_2770 dw_2771 dw_2774 dw_2776 dw_2781 dw_2783 dw_2786 dw_2787 dw_2788 dw_2789 dw_2791 dw_2792 dw_2793 dw_2798 (by decide) (fun H1 w hl => kk M2 R2 H1 ls h4 w hl)
end

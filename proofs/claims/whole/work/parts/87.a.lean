section
/-! ReconcilerHallModel() -/
/-- the model's memory at the start -/
def zR0 : zzMd := (fun a b => if a = 0 then (if b = 30 then 30 else 0) else if a = 1 then (if b < 17 then zn (pL b) else 0) else if a = 2 then (if b < 17 then zn (wL b) else 0) else if a = 3 then (if b < 11 then zn (leastF b) else 0) else if a = 4 then (if b < 11 then zn (mostF b) else 0) else if a = 5 then ([127, 3, 2, 1027, 896, 2] : List Int32).getD b 0 else if a = 12 ∨ a = 13 then fil 60 b else 0, fun _ _ => 0)
/-- a row filled so far -/
def flF (g : Nat → Int32) (i : Nat) : Nat → Int32 := fun b => if b < i then g b else 0
theorem flF_s {g : Nat → Int32} {i : Nat} (h : i < 1000000) {v : Int32} (hv : v = g i) : upd (flF g i) (zn i).toNatClampNeg v = flF g (i + 1) := by
  have e : (zn i).toNatClampNeg = i := zn_ix (k := i) (by omega)
  rw [e, hv]
  funext b
  show (if b = i then g i else if b < i then g b else 0) = if b < i + 1 then g b else 0
  by_cases h1 : b = i
  · subst h1; rw [if_pos rfl, if_pos (by omega)]
  · rw [if_neg h1]
    by_cases h2 : b < i
    · rw [if_pos h2, if_pos (by omega)]
    · rw [if_neg h2, if_neg (by omega)]
theorem flF_0 (g : Nat → Int32) : (fun _ => 0 : Nat → Int32) = flF g 0 := rfl
theorem flF_g {g : Nat → Int32} {i : Nat} : flF g (i + 1) i = g i := if_pos (Nat.lt_succ_self i)
def aL (i : Nat) : Nat := ([0, 3, 7, 9, 11, 12, 15, 22, 26, 28, 29, 32, 39, 40, 43, 44, 51, 53] : List Nat).getD i 0
theorem aL_s : ∀ i, i < 17 → aL i + wL i = aL (i + 1) ∧ pL i = aL i := by decide
theorem ofK : upd (upd (upd (upd (upd (upd (fun _ => 0 : Nat → Int32) (0 : Int32).toNatClampNeg 127) (1 : Int32).toNatClampNeg 3) (2 : Int32).toNatClampNeg 2) (3 : Int32).toNatClampNeg 1027) (4 : Int32).toNatClampNeg 896) (5 : Int32).toNatClampNeg 2 = fun b => ([127, 3, 2, 1027, 896, 2] : List Int32).getD b 0 := by
  funext b
  show (if b = 5 then (2 : Int32) else if b = 4 then 896 else if b = 3 then 1027 else if b = 2 then 2 else if b = 1 then 3 else if b = 0 then 127 else 0) = ([127, 3, 2, 1027, 896, 2] : List Int32).getD b 0
  rcases (show b = 0 ∨ b = 1 ∨ b = 2 ∨ b = 3 ∨ b = 4 ∨ b = 5 ∨ 6 ≤ b by omega) with rfl | rfl | rfl | rfl | rfl | rfl | h
  iterate 6 rfl
  rw [if_neg (by omega), if_neg (by omega), if_neg (by omega), if_neg (by omega), if_neg (by omega), if_neg (by omega), List.getD, List.getElem?_eq_none (by simp only [List.length_cons, List.length_nil]; omega)]
  rfl
section
variable {p : Program} {l : Launch} {e : Env} {R : Room} {s : State} {m : MethodId} {args : Array Value} {below : List Frame} {meth : Method} {c : Code} {H : Heap} {locs : List Loc} {cells slots : Nat} {Q : State → Prop} {ls : Array Slot} {rest : List Value} {k0 : Nat} {a : Int32}
set_option maxHeartbeats 4000000 in
theorem zb_width {i : Nat} (hi : i < 17) (hx : p.tables.exec = Jvm.exec) (hb : c.code = cX12_widthOf) (hl : lv_has ls 1 [(0, .int (zn i))])
    (kk : W p l e R s m args below meth c H locs cells slots Q (F0 m 92 ls (.int (zn (wL i)) :: rest))) : W p l e R s m args below meth c H locs cells slots Q (F0 m 0 ls rest) := by
  rcases (show i = 0 ∨ i = 1 ∨ i = 2 ∨ i = 3 ∨ i = 4 ∨ i = 5 ∨ i = 6 ∨ i = 7 ∨ i = 8 ∨ i = 9 ∨ i = 10 ∨ i = 11 ∨ i = 12 ∨ i = 13 ∨ i = 14 ∨ i = 15 ∨ i = 16 by omega) with rfl | rfl | rfl | rfl | rfl | rfl | rfl | rfl | rfl | rfl | rfl | rfl | rfl | rfl | rfl | rfl | rfl
  · refine lv_iload_n hx hb dX12_widthOf_0 rfl (lv_at hl 0 rfl) ?_
    refine lv_bipush (v := 6) hx hb dX12_widthOf_1 (by decide) ?_
    refine lv_icmp_eq (tgt := 18) hx hb dX12_widthOf_3 (by decide) (fun h => absurd h (by decide)) (fun _ => ?_)
    refine lv_iload_n hx hb dX12_widthOf_6 rfl (lv_at hl 0 rfl) ?_
    refine lv_bipush (v := 11) hx hb dX12_widthOf_7 (by decide) ?_
    refine lv_icmp_eq (tgt := 18) hx hb dX12_widthOf_9 (by decide) (fun h => absurd h (by decide)) (fun _ => ?_)
    refine lv_iload_n hx hb dX12_widthOf_12 rfl (lv_at hl 0 rfl) ?_
    refine lv_bipush (v := 15) hx hb dX12_widthOf_13 (by decide) ?_
    refine lv_icmp_ne (tgt := 23) hx hb dX12_widthOf_15 (by decide) (fun _ => ?_) (fun h => absurd h (by decide))
    refine lv_iload_n hx hb dX12_widthOf_23 rfl (lv_at hl 0 rfl) ?_
    refine lv_iconst (v := 1) hx hb dX12_widthOf_24 (by decide) ?_
    refine lv_icmp_eq (tgt := 34) hx hb dX12_widthOf_25 (by decide) (fun h => absurd h (by decide)) (fun _ => ?_)
    refine lv_iload_n hx hb dX12_widthOf_28 rfl (lv_at hl 0 rfl) ?_
    refine lv_bipush (v := 7) hx hb dX12_widthOf_29 (by decide) ?_
    refine lv_icmp_ne (tgt := 38) hx hb dX12_widthOf_31 (by decide) (fun _ => ?_) (fun h => absurd h (by decide))
    refine lv_iload_n hx hb dX12_widthOf_38 rfl (lv_at hl 0 rfl) ?_
    refine lv_bipush (v := 12) hx hb dX12_widthOf_39 (by decide) ?_
    refine lv_icmp_eq (tgt := 61) hx hb dX12_widthOf_41 (by decide) (fun h => absurd h (by decide)) (fun _ => ?_)
    refine lv_iload_n hx hb dX12_widthOf_44 rfl (lv_at hl 0 rfl) ?_
    refine lv_bipush (v := 14) hx hb dX12_widthOf_45 (by decide) ?_
    refine lv_icmp_eq (tgt := 61) hx hb dX12_widthOf_47 (by decide) (fun h => absurd h (by decide)) (fun _ => ?_)
    refine lv_iload_n hx hb dX12_widthOf_50 rfl (lv_at hl 0 rfl) ?_
    refine lv_iconst (v := 4) hx hb dX12_widthOf_51 (by decide) ?_
    refine lv_icmp_eq (tgt := 61) hx hb dX12_widthOf_52 (by decide) (fun h => absurd h (by decide)) (fun _ => ?_)
    refine lv_iload_n hx hb dX12_widthOf_55 rfl (lv_at hl 0 rfl) ?_
    refine lv_bipush (v := 9) hx hb dX12_widthOf_56 (by decide) ?_
    refine lv_icmp_ne (tgt := 65) hx hb dX12_widthOf_58 (by decide) (fun _ => ?_) (fun h => absurd h (by decide))
    refine lv_iload_n hx hb dX12_widthOf_65 rfl (lv_at hl 0 rfl) ?_
    refine lv_iconst (v := 2) hx hb dX12_widthOf_66 (by decide) ?_
    refine lv_icmp_eq (tgt := 87) hx hb dX12_widthOf_67 (by decide) (fun h => absurd h (by decide)) (fun _ => ?_)
    refine lv_iload_n hx hb dX12_widthOf_70 rfl (lv_at hl 0 rfl) ?_
    refine lv_iconst (v := 3) hx hb dX12_widthOf_71 (by decide) ?_
    refine lv_icmp_eq (tgt := 87) hx hb dX12_widthOf_72 (by decide) (fun h => absurd h (by decide)) (fun _ => ?_)
    refine lv_iload_n hx hb dX12_widthOf_75 rfl (lv_at hl 0 rfl) ?_
    refine lv_bipush (v := 8) hx hb dX12_widthOf_76 (by decide) ?_
    refine lv_icmp_eq (tgt := 87) hx hb dX12_widthOf_78 (by decide) (fun h => absurd h (by decide)) (fun _ => ?_)
    refine lv_iload_n hx hb dX12_widthOf_81 rfl (lv_at hl 0 rfl) ?_
    refine lv_bipush (v := 16) hx hb dX12_widthOf_82 (by decide) ?_
    refine lv_icmp_ne (tgt := 91) hx hb dX12_widthOf_84 (by decide) (fun _ => ?_) (fun h => absurd h (by decide))
    refine lv_iconst (v := 3) hx hb dX12_widthOf_91 (by decide) ?_
    exact kk
  · refine lv_iload_n hx hb dX12_widthOf_0 rfl (lv_at hl 0 rfl) ?_
    refine lv_bipush (v := 6) hx hb dX12_widthOf_1 (by decide) ?_
    refine lv_icmp_eq (tgt := 18) hx hb dX12_widthOf_3 (by decide) (fun h => absurd h (by decide)) (fun _ => ?_)
    refine lv_iload_n hx hb dX12_widthOf_6 rfl (lv_at hl 0 rfl) ?_
    refine lv_bipush (v := 11) hx hb dX12_widthOf_7 (by decide) ?_
    refine lv_icmp_eq (tgt := 18) hx hb dX12_widthOf_9 (by decide) (fun h => absurd h (by decide)) (fun _ => ?_)
    refine lv_iload_n hx hb dX12_widthOf_12 rfl (lv_at hl 0 rfl) ?_
    refine lv_bipush (v := 15) hx hb dX12_widthOf_13 (by decide) ?_
    refine lv_icmp_ne (tgt := 23) hx hb dX12_widthOf_15 (by decide) (fun _ => ?_) (fun h => absurd h (by decide))
    refine lv_iload_n hx hb dX12_widthOf_23 rfl (lv_at hl 0 rfl) ?_
    refine lv_iconst (v := 1) hx hb dX12_widthOf_24 (by decide) ?_
    refine lv_icmp_eq (tgt := 34) hx hb dX12_widthOf_25 (by decide) (fun _ => ?_) (fun h => absurd (by decide) h)
    refine lv_iconst (v := 4) hx hb dX12_widthOf_34 (by decide) ?_
    refine lv_goto (tgt := 92) hx hb dX12_widthOf_35 (by decide) ?_
    exact kk
  · refine lv_iload_n hx hb dX12_widthOf_0 rfl (lv_at hl 0 rfl) ?_
    refine lv_bipush (v := 6) hx hb dX12_widthOf_1 (by decide) ?_
    refine lv_icmp_eq (tgt := 18) hx hb dX12_widthOf_3 (by decide) (fun h => absurd h (by decide)) (fun _ => ?_)
    refine lv_iload_n hx hb dX12_widthOf_6 rfl (lv_at hl 0 rfl) ?_
    refine lv_bipush (v := 11) hx hb dX12_widthOf_7 (by decide) ?_
    refine lv_icmp_eq (tgt := 18) hx hb dX12_widthOf_9 (by decide) (fun h => absurd h (by decide)) (fun _ => ?_)
    refine lv_iload_n hx hb dX12_widthOf_12 rfl (lv_at hl 0 rfl) ?_
    refine lv_bipush (v := 15) hx hb dX12_widthOf_13 (by decide) ?_
    refine lv_icmp_ne (tgt := 23) hx hb dX12_widthOf_15 (by decide) (fun _ => ?_) (fun h => absurd h (by decide))
    refine lv_iload_n hx hb dX12_widthOf_23 rfl (lv_at hl 0 rfl) ?_
    refine lv_iconst (v := 1) hx hb dX12_widthOf_24 (by decide) ?_
    refine lv_icmp_eq (tgt := 34) hx hb dX12_widthOf_25 (by decide) (fun h => absurd h (by decide)) (fun _ => ?_)
    refine lv_iload_n hx hb dX12_widthOf_28 rfl (lv_at hl 0 rfl) ?_
    refine lv_bipush (v := 7) hx hb dX12_widthOf_29 (by decide) ?_
    refine lv_icmp_ne (tgt := 38) hx hb dX12_widthOf_31 (by decide) (fun _ => ?_) (fun h => absurd h (by decide))
    refine lv_iload_n hx hb dX12_widthOf_38 rfl (lv_at hl 0 rfl) ?_
    refine lv_bipush (v := 12) hx hb dX12_widthOf_39 (by decide) ?_
    refine lv_icmp_eq (tgt := 61) hx hb dX12_widthOf_41 (by decide) (fun h => absurd h (by decide)) (fun _ => ?_)
    refine lv_iload_n hx hb dX12_widthOf_44 rfl (lv_at hl 0 rfl) ?_
    refine lv_bipush (v := 14) hx hb dX12_widthOf_45 (by decide) ?_
    refine lv_icmp_eq (tgt := 61) hx hb dX12_widthOf_47 (by decide) (fun h => absurd h (by decide)) (fun _ => ?_)
    refine lv_iload_n hx hb dX12_widthOf_50 rfl (lv_at hl 0 rfl) ?_
    refine lv_iconst (v := 4) hx hb dX12_widthOf_51 (by decide) ?_
    refine lv_icmp_eq (tgt := 61) hx hb dX12_widthOf_52 (by decide) (fun h => absurd h (by decide)) (fun _ => ?_)
    refine lv_iload_n hx hb dX12_widthOf_55 rfl (lv_at hl 0 rfl) ?_
    refine lv_bipush (v := 9) hx hb dX12_widthOf_56 (by decide) ?_
    refine lv_icmp_ne (tgt := 65) hx hb dX12_widthOf_58 (by decide) (fun _ => ?_) (fun h => absurd h (by decide))
    refine lv_iload_n hx hb dX12_widthOf_65 rfl (lv_at hl 0 rfl) ?_
    refine lv_iconst (v := 2) hx hb dX12_widthOf_66 (by decide) ?_
    refine lv_icmp_eq (tgt := 87) hx hb dX12_widthOf_67 (by decide) (fun _ => ?_) (fun h => absurd (by decide) h)
    refine lv_iconst (v := 2) hx hb dX12_widthOf_87 (by decide) ?_
    refine lv_goto (tgt := 92) hx hb dX12_widthOf_88 (by decide) ?_
    exact kk
  · refine lv_iload_n hx hb dX12_widthOf_0 rfl (lv_at hl 0 rfl) ?_
    refine lv_bipush (v := 6) hx hb dX12_widthOf_1 (by decide) ?_
    refine lv_icmp_eq (tgt := 18) hx hb dX12_widthOf_3 (by decide) (fun h => absurd h (by decide)) (fun _ => ?_)
    refine lv_iload_n hx hb dX12_widthOf_6 rfl (lv_at hl 0 rfl) ?_
    refine lv_bipush (v := 11) hx hb dX12_widthOf_7 (by decide) ?_
    refine lv_icmp_eq (tgt := 18) hx hb dX12_widthOf_9 (by decide) (fun h => absurd h (by decide)) (fun _ => ?_)
    refine lv_iload_n hx hb dX12_widthOf_12 rfl (lv_at hl 0 rfl) ?_
    refine lv_bipush (v := 15) hx hb dX12_widthOf_13 (by decide) ?_
    refine lv_icmp_ne (tgt := 23) hx hb dX12_widthOf_15 (by decide) (fun _ => ?_) (fun h => absurd h (by decide))
    refine lv_iload_n hx hb dX12_widthOf_23 rfl (lv_at hl 0 rfl) ?_
    refine lv_iconst (v := 1) hx hb dX12_widthOf_24 (by decide) ?_
    refine lv_icmp_eq (tgt := 34) hx hb dX12_widthOf_25 (by decide) (fun h => absurd h (by decide)) (fun _ => ?_)
    refine lv_iload_n hx hb dX12_widthOf_28 rfl (lv_at hl 0 rfl) ?_
    refine lv_bipush (v := 7) hx hb dX12_widthOf_29 (by decide) ?_
    refine lv_icmp_ne (tgt := 38) hx hb dX12_widthOf_31 (by decide) (fun _ => ?_) (fun h => absurd h (by decide))
    refine lv_iload_n hx hb dX12_widthOf_38 rfl (lv_at hl 0 rfl) ?_
    refine lv_bipush (v := 12) hx hb dX12_widthOf_39 (by decide) ?_
    refine lv_icmp_eq (tgt := 61) hx hb dX12_widthOf_41 (by decide) (fun h => absurd h (by decide)) (fun _ => ?_)
    refine lv_iload_n hx hb dX12_widthOf_44 rfl (lv_at hl 0 rfl) ?_
    refine lv_bipush (v := 14) hx hb dX12_widthOf_45 (by decide) ?_
    refine lv_icmp_eq (tgt := 61) hx hb dX12_widthOf_47 (by decide) (fun h => absurd h (by decide)) (fun _ => ?_)
    refine lv_iload_n hx hb dX12_widthOf_50 rfl (lv_at hl 0 rfl) ?_
    refine lv_iconst (v := 4) hx hb dX12_widthOf_51 (by decide) ?_
    refine lv_icmp_eq (tgt := 61) hx hb dX12_widthOf_52 (by decide) (fun h => absurd h (by decide)) (fun _ => ?_)
    refine lv_iload_n hx hb dX12_widthOf_55 rfl (lv_at hl 0 rfl) ?_
    refine lv_bipush (v := 9) hx hb dX12_widthOf_56 (by decide) ?_
    refine lv_icmp_ne (tgt := 65) hx hb dX12_widthOf_58 (by decide) (fun _ => ?_) (fun h => absurd h (by decide))
    refine lv_iload_n hx hb dX12_widthOf_65 rfl (lv_at hl 0 rfl) ?_
    refine lv_iconst (v := 2) hx hb dX12_widthOf_66 (by decide) ?_
    refine lv_icmp_eq (tgt := 87) hx hb dX12_widthOf_67 (by decide) (fun h => absurd h (by decide)) (fun _ => ?_)
    refine lv_iload_n hx hb dX12_widthOf_70 rfl (lv_at hl 0 rfl) ?_
    refine lv_iconst (v := 3) hx hb dX12_widthOf_71 (by decide) ?_
    refine lv_icmp_eq (tgt := 87) hx hb dX12_widthOf_72 (by decide) (fun _ => ?_) (fun h => absurd (by decide) h)
    refine lv_iconst (v := 2) hx hb dX12_widthOf_87 (by decide) ?_
    refine lv_goto (tgt := 92) hx hb dX12_widthOf_88 (by decide) ?_
    exact kk
  · refine lv_iload_n hx hb dX12_widthOf_0 rfl (lv_at hl 0 rfl) ?_
    refine lv_bipush (v := 6) hx hb dX12_widthOf_1 (by decide) ?_
    refine lv_icmp_eq (tgt := 18) hx hb dX12_widthOf_3 (by decide) (fun h => absurd h (by decide)) (fun _ => ?_)
    refine lv_iload_n hx hb dX12_widthOf_6 rfl (lv_at hl 0 rfl) ?_
    refine lv_bipush (v := 11) hx hb dX12_widthOf_7 (by decide) ?_
    refine lv_icmp_eq (tgt := 18) hx hb dX12_widthOf_9 (by decide) (fun h => absurd h (by decide)) (fun _ => ?_)
    refine lv_iload_n hx hb dX12_widthOf_12 rfl (lv_at hl 0 rfl) ?_
    refine lv_bipush (v := 15) hx hb dX12_widthOf_13 (by decide) ?_
    refine lv_icmp_ne (tgt := 23) hx hb dX12_widthOf_15 (by decide) (fun _ => ?_) (fun h => absurd h (by decide))
    refine lv_iload_n hx hb dX12_widthOf_23 rfl (lv_at hl 0 rfl) ?_
    refine lv_iconst (v := 1) hx hb dX12_widthOf_24 (by decide) ?_
    refine lv_icmp_eq (tgt := 34) hx hb dX12_widthOf_25 (by decide) (fun h => absurd h (by decide)) (fun _ => ?_)
    refine lv_iload_n hx hb dX12_widthOf_28 rfl (lv_at hl 0 rfl) ?_
    refine lv_bipush (v := 7) hx hb dX12_widthOf_29 (by decide) ?_
    refine lv_icmp_ne (tgt := 38) hx hb dX12_widthOf_31 (by decide) (fun _ => ?_) (fun h => absurd h (by decide))
    refine lv_iload_n hx hb dX12_widthOf_38 rfl (lv_at hl 0 rfl) ?_
    refine lv_bipush (v := 12) hx hb dX12_widthOf_39 (by decide) ?_
    refine lv_icmp_eq (tgt := 61) hx hb dX12_widthOf_41 (by decide) (fun h => absurd h (by decide)) (fun _ => ?_)
    refine lv_iload_n hx hb dX12_widthOf_44 rfl (lv_at hl 0 rfl) ?_
    refine lv_bipush (v := 14) hx hb dX12_widthOf_45 (by decide) ?_
    refine lv_icmp_eq (tgt := 61) hx hb dX12_widthOf_47 (by decide) (fun h => absurd h (by decide)) (fun _ => ?_)
    refine lv_iload_n hx hb dX12_widthOf_50 rfl (lv_at hl 0 rfl) ?_
    refine lv_iconst (v := 4) hx hb dX12_widthOf_51 (by decide) ?_
    refine lv_icmp_eq (tgt := 61) hx hb dX12_widthOf_52 (by decide) (fun _ => ?_) (fun h => absurd (by decide) h)
    refine lv_iconst (v := 1) hx hb dX12_widthOf_61 (by decide) ?_
    refine lv_goto (tgt := 92) hx hb dX12_widthOf_62 (by decide) ?_
    exact kk
  · refine lv_iload_n hx hb dX12_widthOf_0 rfl (lv_at hl 0 rfl) ?_
    refine lv_bipush (v := 6) hx hb dX12_widthOf_1 (by decide) ?_
    refine lv_icmp_eq (tgt := 18) hx hb dX12_widthOf_3 (by decide) (fun h => absurd h (by decide)) (fun _ => ?_)
    refine lv_iload_n hx hb dX12_widthOf_6 rfl (lv_at hl 0 rfl) ?_
    refine lv_bipush (v := 11) hx hb dX12_widthOf_7 (by decide) ?_
    refine lv_icmp_eq (tgt := 18) hx hb dX12_widthOf_9 (by decide) (fun h => absurd h (by decide)) (fun _ => ?_)
    refine lv_iload_n hx hb dX12_widthOf_12 rfl (lv_at hl 0 rfl) ?_
    refine lv_bipush (v := 15) hx hb dX12_widthOf_13 (by decide) ?_
    refine lv_icmp_ne (tgt := 23) hx hb dX12_widthOf_15 (by decide) (fun _ => ?_) (fun h => absurd h (by decide))
    refine lv_iload_n hx hb dX12_widthOf_23 rfl (lv_at hl 0 rfl) ?_
    refine lv_iconst (v := 1) hx hb dX12_widthOf_24 (by decide) ?_
    refine lv_icmp_eq (tgt := 34) hx hb dX12_widthOf_25 (by decide) (fun h => absurd h (by decide)) (fun _ => ?_)
    refine lv_iload_n hx hb dX12_widthOf_28 rfl (lv_at hl 0 rfl) ?_
    refine lv_bipush (v := 7) hx hb dX12_widthOf_29 (by decide) ?_
    refine lv_icmp_ne (tgt := 38) hx hb dX12_widthOf_31 (by decide) (fun _ => ?_) (fun h => absurd h (by decide))
    refine lv_iload_n hx hb dX12_widthOf_38 rfl (lv_at hl 0 rfl) ?_
    refine lv_bipush (v := 12) hx hb dX12_widthOf_39 (by decide) ?_
    refine lv_icmp_eq (tgt := 61) hx hb dX12_widthOf_41 (by decide) (fun h => absurd h (by decide)) (fun _ => ?_)
    refine lv_iload_n hx hb dX12_widthOf_44 rfl (lv_at hl 0 rfl) ?_
    refine lv_bipush (v := 14) hx hb dX12_widthOf_45 (by decide) ?_
    refine lv_icmp_eq (tgt := 61) hx hb dX12_widthOf_47 (by decide) (fun h => absurd h (by decide)) (fun _ => ?_)
    refine lv_iload_n hx hb dX12_widthOf_50 rfl (lv_at hl 0 rfl) ?_
    refine lv_iconst (v := 4) hx hb dX12_widthOf_51 (by decide) ?_
    refine lv_icmp_eq (tgt := 61) hx hb dX12_widthOf_52 (by decide) (fun h => absurd h (by decide)) (fun _ => ?_)
    refine lv_iload_n hx hb dX12_widthOf_55 rfl (lv_at hl 0 rfl) ?_
    refine lv_bipush (v := 9) hx hb dX12_widthOf_56 (by decide) ?_
    refine lv_icmp_ne (tgt := 65) hx hb dX12_widthOf_58 (by decide) (fun _ => ?_) (fun h => absurd h (by decide))
    refine lv_iload_n hx hb dX12_widthOf_65 rfl (lv_at hl 0 rfl) ?_
    refine lv_iconst (v := 2) hx hb dX12_widthOf_66 (by decide) ?_
    refine lv_icmp_eq (tgt := 87) hx hb dX12_widthOf_67 (by decide) (fun h => absurd h (by decide)) (fun _ => ?_)
    refine lv_iload_n hx hb dX12_widthOf_70 rfl (lv_at hl 0 rfl) ?_
    refine lv_iconst (v := 3) hx hb dX12_widthOf_71 (by decide) ?_
    refine lv_icmp_eq (tgt := 87) hx hb dX12_widthOf_72 (by decide) (fun h => absurd h (by decide)) (fun _ => ?_)
    refine lv_iload_n hx hb dX12_widthOf_75 rfl (lv_at hl 0 rfl) ?_
    refine lv_bipush (v := 8) hx hb dX12_widthOf_76 (by decide) ?_
    refine lv_icmp_eq (tgt := 87) hx hb dX12_widthOf_78 (by decide) (fun h => absurd h (by decide)) (fun _ => ?_)
    refine lv_iload_n hx hb dX12_widthOf_81 rfl (lv_at hl 0 rfl) ?_
    refine lv_bipush (v := 16) hx hb dX12_widthOf_82 (by decide) ?_
    refine lv_icmp_ne (tgt := 91) hx hb dX12_widthOf_84 (by decide) (fun _ => ?_) (fun h => absurd h (by decide))
    refine lv_iconst (v := 3) hx hb dX12_widthOf_91 (by decide) ?_
    exact kk
  · refine lv_iload_n hx hb dX12_widthOf_0 rfl (lv_at hl 0 rfl) ?_
    refine lv_bipush (v := 6) hx hb dX12_widthOf_1 (by decide) ?_
    refine lv_icmp_eq (tgt := 18) hx hb dX12_widthOf_3 (by decide) (fun _ => ?_) (fun h => absurd (by decide) h)
    refine lv_bipush (v := 7) hx hb dX12_widthOf_18 (by decide) ?_
    refine lv_goto (tgt := 92) hx hb dX12_widthOf_20 (by decide) ?_
    exact kk
  · refine lv_iload_n hx hb dX12_widthOf_0 rfl (lv_at hl 0 rfl) ?_
    refine lv_bipush (v := 6) hx hb dX12_widthOf_1 (by decide) ?_
    refine lv_icmp_eq (tgt := 18) hx hb dX12_widthOf_3 (by decide) (fun h => absurd h (by decide)) (fun _ => ?_)
    refine lv_iload_n hx hb dX12_widthOf_6 rfl (lv_at hl 0 rfl) ?_
    refine lv_bipush (v := 11) hx hb dX12_widthOf_7 (by decide) ?_
    refine lv_icmp_eq (tgt := 18) hx hb dX12_widthOf_9 (by decide) (fun h => absurd h (by decide)) (fun _ => ?_)
    refine lv_iload_n hx hb dX12_widthOf_12 rfl (lv_at hl 0 rfl) ?_
    refine lv_bipush (v := 15) hx hb dX12_widthOf_13 (by decide) ?_
    refine lv_icmp_ne (tgt := 23) hx hb dX12_widthOf_15 (by decide) (fun _ => ?_) (fun h => absurd h (by decide))
    refine lv_iload_n hx hb dX12_widthOf_23 rfl (lv_at hl 0 rfl) ?_
    refine lv_iconst (v := 1) hx hb dX12_widthOf_24 (by decide) ?_
    refine lv_icmp_eq (tgt := 34) hx hb dX12_widthOf_25 (by decide) (fun h => absurd h (by decide)) (fun _ => ?_)
    refine lv_iload_n hx hb dX12_widthOf_28 rfl (lv_at hl 0 rfl) ?_
    refine lv_bipush (v := 7) hx hb dX12_widthOf_29 (by decide) ?_
    refine lv_icmp_ne (tgt := 38) hx hb dX12_widthOf_31 (by decide) (fun h => absurd (by decide) h) (fun _ => ?_)
    refine lv_iconst (v := 4) hx hb dX12_widthOf_34 (by decide) ?_
    refine lv_goto (tgt := 92) hx hb dX12_widthOf_35 (by decide) ?_
    exact kk
  · refine lv_iload_n hx hb dX12_widthOf_0 rfl (lv_at hl 0 rfl) ?_
    refine lv_bipush (v := 6) hx hb dX12_widthOf_1 (by decide) ?_
    refine lv_icmp_eq (tgt := 18) hx hb dX12_widthOf_3 (by decide) (fun h => absurd h (by decide)) (fun _ => ?_)
    refine lv_iload_n hx hb dX12_widthOf_6 rfl (lv_at hl 0 rfl) ?_
    refine lv_bipush (v := 11) hx hb dX12_widthOf_7 (by decide) ?_
    refine lv_icmp_eq (tgt := 18) hx hb dX12_widthOf_9 (by decide) (fun h => absurd h (by decide)) (fun _ => ?_)
    refine lv_iload_n hx hb dX12_widthOf_12 rfl (lv_at hl 0 rfl) ?_
    refine lv_bipush (v := 15) hx hb dX12_widthOf_13 (by decide) ?_
    refine lv_icmp_ne (tgt := 23) hx hb dX12_widthOf_15 (by decide) (fun _ => ?_) (fun h => absurd h (by decide))
    refine lv_iload_n hx hb dX12_widthOf_23 rfl (lv_at hl 0 rfl) ?_
    refine lv_iconst (v := 1) hx hb dX12_widthOf_24 (by decide) ?_
    refine lv_icmp_eq (tgt := 34) hx hb dX12_widthOf_25 (by decide) (fun h => absurd h (by decide)) (fun _ => ?_)
    refine lv_iload_n hx hb dX12_widthOf_28 rfl (lv_at hl 0 rfl) ?_
    refine lv_bipush (v := 7) hx hb dX12_widthOf_29 (by decide) ?_
    refine lv_icmp_ne (tgt := 38) hx hb dX12_widthOf_31 (by decide) (fun _ => ?_) (fun h => absurd h (by decide))
    refine lv_iload_n hx hb dX12_widthOf_38 rfl (lv_at hl 0 rfl) ?_
    refine lv_bipush (v := 12) hx hb dX12_widthOf_39 (by decide) ?_
    refine lv_icmp_eq (tgt := 61) hx hb dX12_widthOf_41 (by decide) (fun h => absurd h (by decide)) (fun _ => ?_)
    refine lv_iload_n hx hb dX12_widthOf_44 rfl (lv_at hl 0 rfl) ?_
    refine lv_bipush (v := 14) hx hb dX12_widthOf_45 (by decide) ?_
    refine lv_icmp_eq (tgt := 61) hx hb dX12_widthOf_47 (by decide) (fun h => absurd h (by decide)) (fun _ => ?_)
    refine lv_iload_n hx hb dX12_widthOf_50 rfl (lv_at hl 0 rfl) ?_
    refine lv_iconst (v := 4) hx hb dX12_widthOf_51 (by decide) ?_
    refine lv_icmp_eq (tgt := 61) hx hb dX12_widthOf_52 (by decide) (fun h => absurd h (by decide)) (fun _ => ?_)
    refine lv_iload_n hx hb dX12_widthOf_55 rfl (lv_at hl 0 rfl) ?_
    refine lv_bipush (v := 9) hx hb dX12_widthOf_56 (by decide) ?_
    refine lv_icmp_ne (tgt := 65) hx hb dX12_widthOf_58 (by decide) (fun _ => ?_) (fun h => absurd h (by decide))
    refine lv_iload_n hx hb dX12_widthOf_65 rfl (lv_at hl 0 rfl) ?_
    refine lv_iconst (v := 2) hx hb dX12_widthOf_66 (by decide) ?_
    refine lv_icmp_eq (tgt := 87) hx hb dX12_widthOf_67 (by decide) (fun h => absurd h (by decide)) (fun _ => ?_)
    refine lv_iload_n hx hb dX12_widthOf_70 rfl (lv_at hl 0 rfl) ?_
    refine lv_iconst (v := 3) hx hb dX12_widthOf_71 (by decide) ?_
    refine lv_icmp_eq (tgt := 87) hx hb dX12_widthOf_72 (by decide) (fun h => absurd h (by decide)) (fun _ => ?_)
    refine lv_iload_n hx hb dX12_widthOf_75 rfl (lv_at hl 0 rfl) ?_
    refine lv_bipush (v := 8) hx hb dX12_widthOf_76 (by decide) ?_
    refine lv_icmp_eq (tgt := 87) hx hb dX12_widthOf_78 (by decide) (fun _ => ?_) (fun h => absurd (by decide) h)
    refine lv_iconst (v := 2) hx hb dX12_widthOf_87 (by decide) ?_
    refine lv_goto (tgt := 92) hx hb dX12_widthOf_88 (by decide) ?_
    exact kk
  · refine lv_iload_n hx hb dX12_widthOf_0 rfl (lv_at hl 0 rfl) ?_
    refine lv_bipush (v := 6) hx hb dX12_widthOf_1 (by decide) ?_
    refine lv_icmp_eq (tgt := 18) hx hb dX12_widthOf_3 (by decide) (fun h => absurd h (by decide)) (fun _ => ?_)
    refine lv_iload_n hx hb dX12_widthOf_6 rfl (lv_at hl 0 rfl) ?_
    refine lv_bipush (v := 11) hx hb dX12_widthOf_7 (by decide) ?_
    refine lv_icmp_eq (tgt := 18) hx hb dX12_widthOf_9 (by decide) (fun h => absurd h (by decide)) (fun _ => ?_)
    refine lv_iload_n hx hb dX12_widthOf_12 rfl (lv_at hl 0 rfl) ?_
    refine lv_bipush (v := 15) hx hb dX12_widthOf_13 (by decide) ?_
    refine lv_icmp_ne (tgt := 23) hx hb dX12_widthOf_15 (by decide) (fun _ => ?_) (fun h => absurd h (by decide))
    refine lv_iload_n hx hb dX12_widthOf_23 rfl (lv_at hl 0 rfl) ?_
    refine lv_iconst (v := 1) hx hb dX12_widthOf_24 (by decide) ?_
    refine lv_icmp_eq (tgt := 34) hx hb dX12_widthOf_25 (by decide) (fun h => absurd h (by decide)) (fun _ => ?_)
    refine lv_iload_n hx hb dX12_widthOf_28 rfl (lv_at hl 0 rfl) ?_
    refine lv_bipush (v := 7) hx hb dX12_widthOf_29 (by decide) ?_
    refine lv_icmp_ne (tgt := 38) hx hb dX12_widthOf_31 (by decide) (fun _ => ?_) (fun h => absurd h (by decide))
    refine lv_iload_n hx hb dX12_widthOf_38 rfl (lv_at hl 0 rfl) ?_
    refine lv_bipush (v := 12) hx hb dX12_widthOf_39 (by decide) ?_
    refine lv_icmp_eq (tgt := 61) hx hb dX12_widthOf_41 (by decide) (fun h => absurd h (by decide)) (fun _ => ?_)
    refine lv_iload_n hx hb dX12_widthOf_44 rfl (lv_at hl 0 rfl) ?_
    refine lv_bipush (v := 14) hx hb dX12_widthOf_45 (by decide) ?_
    refine lv_icmp_eq (tgt := 61) hx hb dX12_widthOf_47 (by decide) (fun h => absurd h (by decide)) (fun _ => ?_)
    refine lv_iload_n hx hb dX12_widthOf_50 rfl (lv_at hl 0 rfl) ?_
    refine lv_iconst (v := 4) hx hb dX12_widthOf_51 (by decide) ?_
    refine lv_icmp_eq (tgt := 61) hx hb dX12_widthOf_52 (by decide) (fun h => absurd h (by decide)) (fun _ => ?_)
    refine lv_iload_n hx hb dX12_widthOf_55 rfl (lv_at hl 0 rfl) ?_
    refine lv_bipush (v := 9) hx hb dX12_widthOf_56 (by decide) ?_
    refine lv_icmp_ne (tgt := 65) hx hb dX12_widthOf_58 (by decide) (fun h => absurd (by decide) h) (fun _ => ?_)
    refine lv_iconst (v := 1) hx hb dX12_widthOf_61 (by decide) ?_
    refine lv_goto (tgt := 92) hx hb dX12_widthOf_62 (by decide) ?_
    exact kk
  · refine lv_iload_n hx hb dX12_widthOf_0 rfl (lv_at hl 0 rfl) ?_
    refine lv_bipush (v := 6) hx hb dX12_widthOf_1 (by decide) ?_
    refine lv_icmp_eq (tgt := 18) hx hb dX12_widthOf_3 (by decide) (fun h => absurd h (by decide)) (fun _ => ?_)
    refine lv_iload_n hx hb dX12_widthOf_6 rfl (lv_at hl 0 rfl) ?_
    refine lv_bipush (v := 11) hx hb dX12_widthOf_7 (by decide) ?_
    refine lv_icmp_eq (tgt := 18) hx hb dX12_widthOf_9 (by decide) (fun h => absurd h (by decide)) (fun _ => ?_)
    refine lv_iload_n hx hb dX12_widthOf_12 rfl (lv_at hl 0 rfl) ?_
    refine lv_bipush (v := 15) hx hb dX12_widthOf_13 (by decide) ?_
    refine lv_icmp_ne (tgt := 23) hx hb dX12_widthOf_15 (by decide) (fun _ => ?_) (fun h => absurd h (by decide))
    refine lv_iload_n hx hb dX12_widthOf_23 rfl (lv_at hl 0 rfl) ?_
    refine lv_iconst (v := 1) hx hb dX12_widthOf_24 (by decide) ?_
    refine lv_icmp_eq (tgt := 34) hx hb dX12_widthOf_25 (by decide) (fun h => absurd h (by decide)) (fun _ => ?_)
    refine lv_iload_n hx hb dX12_widthOf_28 rfl (lv_at hl 0 rfl) ?_
    refine lv_bipush (v := 7) hx hb dX12_widthOf_29 (by decide) ?_
    refine lv_icmp_ne (tgt := 38) hx hb dX12_widthOf_31 (by decide) (fun _ => ?_) (fun h => absurd h (by decide))
    refine lv_iload_n hx hb dX12_widthOf_38 rfl (lv_at hl 0 rfl) ?_
    refine lv_bipush (v := 12) hx hb dX12_widthOf_39 (by decide) ?_
    refine lv_icmp_eq (tgt := 61) hx hb dX12_widthOf_41 (by decide) (fun h => absurd h (by decide)) (fun _ => ?_)
    refine lv_iload_n hx hb dX12_widthOf_44 rfl (lv_at hl 0 rfl) ?_
    refine lv_bipush (v := 14) hx hb dX12_widthOf_45 (by decide) ?_
    refine lv_icmp_eq (tgt := 61) hx hb dX12_widthOf_47 (by decide) (fun h => absurd h (by decide)) (fun _ => ?_)
    refine lv_iload_n hx hb dX12_widthOf_50 rfl (lv_at hl 0 rfl) ?_
    refine lv_iconst (v := 4) hx hb dX12_widthOf_51 (by decide) ?_
    refine lv_icmp_eq (tgt := 61) hx hb dX12_widthOf_52 (by decide) (fun h => absurd h (by decide)) (fun _ => ?_)
    refine lv_iload_n hx hb dX12_widthOf_55 rfl (lv_at hl 0 rfl) ?_
    refine lv_bipush (v := 9) hx hb dX12_widthOf_56 (by decide) ?_
    refine lv_icmp_ne (tgt := 65) hx hb dX12_widthOf_58 (by decide) (fun _ => ?_) (fun h => absurd h (by decide))
    refine lv_iload_n hx hb dX12_widthOf_65 rfl (lv_at hl 0 rfl) ?_
    refine lv_iconst (v := 2) hx hb dX12_widthOf_66 (by decide) ?_
    refine lv_icmp_eq (tgt := 87) hx hb dX12_widthOf_67 (by decide) (fun h => absurd h (by decide)) (fun _ => ?_)
    refine lv_iload_n hx hb dX12_widthOf_70 rfl (lv_at hl 0 rfl) ?_
    refine lv_iconst (v := 3) hx hb dX12_widthOf_71 (by decide) ?_
    refine lv_icmp_eq (tgt := 87) hx hb dX12_widthOf_72 (by decide) (fun h => absurd h (by decide)) (fun _ => ?_)
    refine lv_iload_n hx hb dX12_widthOf_75 rfl (lv_at hl 0 rfl) ?_
    refine lv_bipush (v := 8) hx hb dX12_widthOf_76 (by decide) ?_
    refine lv_icmp_eq (tgt := 87) hx hb dX12_widthOf_78 (by decide) (fun h => absurd h (by decide)) (fun _ => ?_)
    refine lv_iload_n hx hb dX12_widthOf_81 rfl (lv_at hl 0 rfl) ?_
    refine lv_bipush (v := 16) hx hb dX12_widthOf_82 (by decide) ?_
    refine lv_icmp_ne (tgt := 91) hx hb dX12_widthOf_84 (by decide) (fun _ => ?_) (fun h => absurd h (by decide))
    refine lv_iconst (v := 3) hx hb dX12_widthOf_91 (by decide) ?_
    exact kk
  · refine lv_iload_n hx hb dX12_widthOf_0 rfl (lv_at hl 0 rfl) ?_
    refine lv_bipush (v := 6) hx hb dX12_widthOf_1 (by decide) ?_
    refine lv_icmp_eq (tgt := 18) hx hb dX12_widthOf_3 (by decide) (fun h => absurd h (by decide)) (fun _ => ?_)
    refine lv_iload_n hx hb dX12_widthOf_6 rfl (lv_at hl 0 rfl) ?_
    refine lv_bipush (v := 11) hx hb dX12_widthOf_7 (by decide) ?_
    refine lv_icmp_eq (tgt := 18) hx hb dX12_widthOf_9 (by decide) (fun _ => ?_) (fun h => absurd (by decide) h)
    refine lv_bipush (v := 7) hx hb dX12_widthOf_18 (by decide) ?_
    refine lv_goto (tgt := 92) hx hb dX12_widthOf_20 (by decide) ?_
    exact kk
  · refine lv_iload_n hx hb dX12_widthOf_0 rfl (lv_at hl 0 rfl) ?_
    refine lv_bipush (v := 6) hx hb dX12_widthOf_1 (by decide) ?_
    refine lv_icmp_eq (tgt := 18) hx hb dX12_widthOf_3 (by decide) (fun h => absurd h (by decide)) (fun _ => ?_)
    refine lv_iload_n hx hb dX12_widthOf_6 rfl (lv_at hl 0 rfl) ?_
    refine lv_bipush (v := 11) hx hb dX12_widthOf_7 (by decide) ?_
    refine lv_icmp_eq (tgt := 18) hx hb dX12_widthOf_9 (by decide) (fun h => absurd h (by decide)) (fun _ => ?_)
    refine lv_iload_n hx hb dX12_widthOf_12 rfl (lv_at hl 0 rfl) ?_
    refine lv_bipush (v := 15) hx hb dX12_widthOf_13 (by decide) ?_
    refine lv_icmp_ne (tgt := 23) hx hb dX12_widthOf_15 (by decide) (fun _ => ?_) (fun h => absurd h (by decide))
    refine lv_iload_n hx hb dX12_widthOf_23 rfl (lv_at hl 0 rfl) ?_
    refine lv_iconst (v := 1) hx hb dX12_widthOf_24 (by decide) ?_
    refine lv_icmp_eq (tgt := 34) hx hb dX12_widthOf_25 (by decide) (fun h => absurd h (by decide)) (fun _ => ?_)
    refine lv_iload_n hx hb dX12_widthOf_28 rfl (lv_at hl 0 rfl) ?_
    refine lv_bipush (v := 7) hx hb dX12_widthOf_29 (by decide) ?_
    refine lv_icmp_ne (tgt := 38) hx hb dX12_widthOf_31 (by decide) (fun _ => ?_) (fun h => absurd h (by decide))
    refine lv_iload_n hx hb dX12_widthOf_38 rfl (lv_at hl 0 rfl) ?_
    refine lv_bipush (v := 12) hx hb dX12_widthOf_39 (by decide) ?_
    refine lv_icmp_eq (tgt := 61) hx hb dX12_widthOf_41 (by decide) (fun _ => ?_) (fun h => absurd (by decide) h)
    refine lv_iconst (v := 1) hx hb dX12_widthOf_61 (by decide) ?_
    refine lv_goto (tgt := 92) hx hb dX12_widthOf_62 (by decide) ?_
    exact kk
  · refine lv_iload_n hx hb dX12_widthOf_0 rfl (lv_at hl 0 rfl) ?_
    refine lv_bipush (v := 6) hx hb dX12_widthOf_1 (by decide) ?_
    refine lv_icmp_eq (tgt := 18) hx hb dX12_widthOf_3 (by decide) (fun h => absurd h (by decide)) (fun _ => ?_)
    refine lv_iload_n hx hb dX12_widthOf_6 rfl (lv_at hl 0 rfl) ?_
    refine lv_bipush (v := 11) hx hb dX12_widthOf_7 (by decide) ?_
    refine lv_icmp_eq (tgt := 18) hx hb dX12_widthOf_9 (by decide) (fun h => absurd h (by decide)) (fun _ => ?_)
    refine lv_iload_n hx hb dX12_widthOf_12 rfl (lv_at hl 0 rfl) ?_
    refine lv_bipush (v := 15) hx hb dX12_widthOf_13 (by decide) ?_
    refine lv_icmp_ne (tgt := 23) hx hb dX12_widthOf_15 (by decide) (fun _ => ?_) (fun h => absurd h (by decide))
    refine lv_iload_n hx hb dX12_widthOf_23 rfl (lv_at hl 0 rfl) ?_
    refine lv_iconst (v := 1) hx hb dX12_widthOf_24 (by decide) ?_
    refine lv_icmp_eq (tgt := 34) hx hb dX12_widthOf_25 (by decide) (fun h => absurd h (by decide)) (fun _ => ?_)
    refine lv_iload_n hx hb dX12_widthOf_28 rfl (lv_at hl 0 rfl) ?_
    refine lv_bipush (v := 7) hx hb dX12_widthOf_29 (by decide) ?_
    refine lv_icmp_ne (tgt := 38) hx hb dX12_widthOf_31 (by decide) (fun _ => ?_) (fun h => absurd h (by decide))
    refine lv_iload_n hx hb dX12_widthOf_38 rfl (lv_at hl 0 rfl) ?_
    refine lv_bipush (v := 12) hx hb dX12_widthOf_39 (by decide) ?_
    refine lv_icmp_eq (tgt := 61) hx hb dX12_widthOf_41 (by decide) (fun h => absurd h (by decide)) (fun _ => ?_)
    refine lv_iload_n hx hb dX12_widthOf_44 rfl (lv_at hl 0 rfl) ?_
    refine lv_bipush (v := 14) hx hb dX12_widthOf_45 (by decide) ?_
    refine lv_icmp_eq (tgt := 61) hx hb dX12_widthOf_47 (by decide) (fun h => absurd h (by decide)) (fun _ => ?_)
    refine lv_iload_n hx hb dX12_widthOf_50 rfl (lv_at hl 0 rfl) ?_
    refine lv_iconst (v := 4) hx hb dX12_widthOf_51 (by decide) ?_
    refine lv_icmp_eq (tgt := 61) hx hb dX12_widthOf_52 (by decide) (fun h => absurd h (by decide)) (fun _ => ?_)
    refine lv_iload_n hx hb dX12_widthOf_55 rfl (lv_at hl 0 rfl) ?_
    refine lv_bipush (v := 9) hx hb dX12_widthOf_56 (by decide) ?_
    refine lv_icmp_ne (tgt := 65) hx hb dX12_widthOf_58 (by decide) (fun _ => ?_) (fun h => absurd h (by decide))
    refine lv_iload_n hx hb dX12_widthOf_65 rfl (lv_at hl 0 rfl) ?_
    refine lv_iconst (v := 2) hx hb dX12_widthOf_66 (by decide) ?_
    refine lv_icmp_eq (tgt := 87) hx hb dX12_widthOf_67 (by decide) (fun h => absurd h (by decide)) (fun _ => ?_)
    refine lv_iload_n hx hb dX12_widthOf_70 rfl (lv_at hl 0 rfl) ?_
    refine lv_iconst (v := 3) hx hb dX12_widthOf_71 (by decide) ?_
    refine lv_icmp_eq (tgt := 87) hx hb dX12_widthOf_72 (by decide) (fun h => absurd h (by decide)) (fun _ => ?_)
    refine lv_iload_n hx hb dX12_widthOf_75 rfl (lv_at hl 0 rfl) ?_
    refine lv_bipush (v := 8) hx hb dX12_widthOf_76 (by decide) ?_
    refine lv_icmp_eq (tgt := 87) hx hb dX12_widthOf_78 (by decide) (fun h => absurd h (by decide)) (fun _ => ?_)
    refine lv_iload_n hx hb dX12_widthOf_81 rfl (lv_at hl 0 rfl) ?_
    refine lv_bipush (v := 16) hx hb dX12_widthOf_82 (by decide) ?_
    refine lv_icmp_ne (tgt := 91) hx hb dX12_widthOf_84 (by decide) (fun _ => ?_) (fun h => absurd h (by decide))
    refine lv_iconst (v := 3) hx hb dX12_widthOf_91 (by decide) ?_
    exact kk
  · refine lv_iload_n hx hb dX12_widthOf_0 rfl (lv_at hl 0 rfl) ?_
    refine lv_bipush (v := 6) hx hb dX12_widthOf_1 (by decide) ?_
    refine lv_icmp_eq (tgt := 18) hx hb dX12_widthOf_3 (by decide) (fun h => absurd h (by decide)) (fun _ => ?_)
    refine lv_iload_n hx hb dX12_widthOf_6 rfl (lv_at hl 0 rfl) ?_
    refine lv_bipush (v := 11) hx hb dX12_widthOf_7 (by decide) ?_
    refine lv_icmp_eq (tgt := 18) hx hb dX12_widthOf_9 (by decide) (fun h => absurd h (by decide)) (fun _ => ?_)
    refine lv_iload_n hx hb dX12_widthOf_12 rfl (lv_at hl 0 rfl) ?_
    refine lv_bipush (v := 15) hx hb dX12_widthOf_13 (by decide) ?_
    refine lv_icmp_ne (tgt := 23) hx hb dX12_widthOf_15 (by decide) (fun _ => ?_) (fun h => absurd h (by decide))
    refine lv_iload_n hx hb dX12_widthOf_23 rfl (lv_at hl 0 rfl) ?_
    refine lv_iconst (v := 1) hx hb dX12_widthOf_24 (by decide) ?_
    refine lv_icmp_eq (tgt := 34) hx hb dX12_widthOf_25 (by decide) (fun h => absurd h (by decide)) (fun _ => ?_)
    refine lv_iload_n hx hb dX12_widthOf_28 rfl (lv_at hl 0 rfl) ?_
    refine lv_bipush (v := 7) hx hb dX12_widthOf_29 (by decide) ?_
    refine lv_icmp_ne (tgt := 38) hx hb dX12_widthOf_31 (by decide) (fun _ => ?_) (fun h => absurd h (by decide))
    refine lv_iload_n hx hb dX12_widthOf_38 rfl (lv_at hl 0 rfl) ?_
    refine lv_bipush (v := 12) hx hb dX12_widthOf_39 (by decide) ?_
    refine lv_icmp_eq (tgt := 61) hx hb dX12_widthOf_41 (by decide) (fun h => absurd h (by decide)) (fun _ => ?_)
    refine lv_iload_n hx hb dX12_widthOf_44 rfl (lv_at hl 0 rfl) ?_
    refine lv_bipush (v := 14) hx hb dX12_widthOf_45 (by decide) ?_
    refine lv_icmp_eq (tgt := 61) hx hb dX12_widthOf_47 (by decide) (fun _ => ?_) (fun h => absurd (by decide) h)
    refine lv_iconst (v := 1) hx hb dX12_widthOf_61 (by decide) ?_
    refine lv_goto (tgt := 92) hx hb dX12_widthOf_62 (by decide) ?_
    exact kk
  · refine lv_iload_n hx hb dX12_widthOf_0 rfl (lv_at hl 0 rfl) ?_
    refine lv_bipush (v := 6) hx hb dX12_widthOf_1 (by decide) ?_
    refine lv_icmp_eq (tgt := 18) hx hb dX12_widthOf_3 (by decide) (fun h => absurd h (by decide)) (fun _ => ?_)
    refine lv_iload_n hx hb dX12_widthOf_6 rfl (lv_at hl 0 rfl) ?_
    refine lv_bipush (v := 11) hx hb dX12_widthOf_7 (by decide) ?_
    refine lv_icmp_eq (tgt := 18) hx hb dX12_widthOf_9 (by decide) (fun h => absurd h (by decide)) (fun _ => ?_)
    refine lv_iload_n hx hb dX12_widthOf_12 rfl (lv_at hl 0 rfl) ?_
    refine lv_bipush (v := 15) hx hb dX12_widthOf_13 (by decide) ?_
    refine lv_icmp_ne (tgt := 23) hx hb dX12_widthOf_15 (by decide) (fun h => absurd (by decide) h) (fun _ => ?_)
    refine lv_bipush (v := 7) hx hb dX12_widthOf_18 (by decide) ?_
    refine lv_goto (tgt := 92) hx hb dX12_widthOf_20 (by decide) ?_
    exact kk
  · refine lv_iload_n hx hb dX12_widthOf_0 rfl (lv_at hl 0 rfl) ?_
    refine lv_bipush (v := 6) hx hb dX12_widthOf_1 (by decide) ?_
    refine lv_icmp_eq (tgt := 18) hx hb dX12_widthOf_3 (by decide) (fun h => absurd h (by decide)) (fun _ => ?_)
    refine lv_iload_n hx hb dX12_widthOf_6 rfl (lv_at hl 0 rfl) ?_
    refine lv_bipush (v := 11) hx hb dX12_widthOf_7 (by decide) ?_
    refine lv_icmp_eq (tgt := 18) hx hb dX12_widthOf_9 (by decide) (fun h => absurd h (by decide)) (fun _ => ?_)
    refine lv_iload_n hx hb dX12_widthOf_12 rfl (lv_at hl 0 rfl) ?_
    refine lv_bipush (v := 15) hx hb dX12_widthOf_13 (by decide) ?_
    refine lv_icmp_ne (tgt := 23) hx hb dX12_widthOf_15 (by decide) (fun _ => ?_) (fun h => absurd h (by decide))
    refine lv_iload_n hx hb dX12_widthOf_23 rfl (lv_at hl 0 rfl) ?_
    refine lv_iconst (v := 1) hx hb dX12_widthOf_24 (by decide) ?_
    refine lv_icmp_eq (tgt := 34) hx hb dX12_widthOf_25 (by decide) (fun h => absurd h (by decide)) (fun _ => ?_)
    refine lv_iload_n hx hb dX12_widthOf_28 rfl (lv_at hl 0 rfl) ?_
    refine lv_bipush (v := 7) hx hb dX12_widthOf_29 (by decide) ?_
    refine lv_icmp_ne (tgt := 38) hx hb dX12_widthOf_31 (by decide) (fun _ => ?_) (fun h => absurd h (by decide))
    refine lv_iload_n hx hb dX12_widthOf_38 rfl (lv_at hl 0 rfl) ?_
    refine lv_bipush (v := 12) hx hb dX12_widthOf_39 (by decide) ?_
    refine lv_icmp_eq (tgt := 61) hx hb dX12_widthOf_41 (by decide) (fun h => absurd h (by decide)) (fun _ => ?_)
    refine lv_iload_n hx hb dX12_widthOf_44 rfl (lv_at hl 0 rfl) ?_
    refine lv_bipush (v := 14) hx hb dX12_widthOf_45 (by decide) ?_
    refine lv_icmp_eq (tgt := 61) hx hb dX12_widthOf_47 (by decide) (fun h => absurd h (by decide)) (fun _ => ?_)
    refine lv_iload_n hx hb dX12_widthOf_50 rfl (lv_at hl 0 rfl) ?_
    refine lv_iconst (v := 4) hx hb dX12_widthOf_51 (by decide) ?_
    refine lv_icmp_eq (tgt := 61) hx hb dX12_widthOf_52 (by decide) (fun h => absurd h (by decide)) (fun _ => ?_)
    refine lv_iload_n hx hb dX12_widthOf_55 rfl (lv_at hl 0 rfl) ?_
    refine lv_bipush (v := 9) hx hb dX12_widthOf_56 (by decide) ?_
    refine lv_icmp_ne (tgt := 65) hx hb dX12_widthOf_58 (by decide) (fun _ => ?_) (fun h => absurd h (by decide))
    refine lv_iload_n hx hb dX12_widthOf_65 rfl (lv_at hl 0 rfl) ?_
    refine lv_iconst (v := 2) hx hb dX12_widthOf_66 (by decide) ?_
    refine lv_icmp_eq (tgt := 87) hx hb dX12_widthOf_67 (by decide) (fun h => absurd h (by decide)) (fun _ => ?_)
    refine lv_iload_n hx hb dX12_widthOf_70 rfl (lv_at hl 0 rfl) ?_
    refine lv_iconst (v := 3) hx hb dX12_widthOf_71 (by decide) ?_
    refine lv_icmp_eq (tgt := 87) hx hb dX12_widthOf_72 (by decide) (fun h => absurd h (by decide)) (fun _ => ?_)
    refine lv_iload_n hx hb dX12_widthOf_75 rfl (lv_at hl 0 rfl) ?_
    refine lv_bipush (v := 8) hx hb dX12_widthOf_76 (by decide) ?_
    refine lv_icmp_eq (tgt := 87) hx hb dX12_widthOf_78 (by decide) (fun h => absurd h (by decide)) (fun _ => ?_)
    refine lv_iload_n hx hb dX12_widthOf_81 rfl (lv_at hl 0 rfl) ?_
    refine lv_bipush (v := 16) hx hb dX12_widthOf_82 (by decide) ?_
    refine lv_icmp_ne (tgt := 91) hx hb dX12_widthOf_84 (by decide) (fun h => absurd (by decide) h) (fun _ => ?_)
    refine lv_iconst (v := 2) hx hb dX12_widthOf_87 (by decide) ?_
    refine lv_goto (tgt := 92) hx hb dX12_widthOf_88 (by decide) ?_
    exact kk
set_option maxHeartbeats 4000000 in
theorem zb_least {i : Nat} (hi : i < 11) (hx : p.tables.exec = Jvm.exec) (hb : c.code = cX12_init) (hl : lv_has ls 3 [(2, .int (zn i)), (1, .int a), (0, .ref k0)])
    (kk : W p l e R s m args below meth c H locs cells slots Q (F0 m 391 ls (.int (zn (leastF i)) :: rest))) : W p l e R s m args below meth c H locs cells slots Q (F0 m 380 ls rest) := by
  rcases (show i = 0 ∨ i = 1 ∨ i = 2 ∨ i = 3 ∨ i = 4 ∨ i = 5 ∨ i = 6 ∨ i = 7 ∨ i = 8 ∨ i = 9 ∨ i = 10 by omega) with rfl | rfl | rfl | rfl | rfl | rfl | rfl | rfl | rfl | rfl | rfl
  · refine lv_iload_n hx hb dX12_init_380 rfl (lv_at hl 0 rfl) ?_
    refine lv_bipush (v := 10) hx hb dX12_init_381 (by decide) ?_
    refine lv_icmp_ne (tgt := 390) hx hb dX12_init_383 (by decide) (fun _ => ?_) (fun h => absurd h (by decide))
    refine lv_iconst (v := 0) hx hb dX12_init_390 (by decide) ?_
    exact kk
  · refine lv_iload_n hx hb dX12_init_380 rfl (lv_at hl 0 rfl) ?_
    refine lv_bipush (v := 10) hx hb dX12_init_381 (by decide) ?_
    refine lv_icmp_ne (tgt := 390) hx hb dX12_init_383 (by decide) (fun _ => ?_) (fun h => absurd h (by decide))
    refine lv_iconst (v := 0) hx hb dX12_init_390 (by decide) ?_
    exact kk
  · refine lv_iload_n hx hb dX12_init_380 rfl (lv_at hl 0 rfl) ?_
    refine lv_bipush (v := 10) hx hb dX12_init_381 (by decide) ?_
    refine lv_icmp_ne (tgt := 390) hx hb dX12_init_383 (by decide) (fun _ => ?_) (fun h => absurd h (by decide))
    refine lv_iconst (v := 0) hx hb dX12_init_390 (by decide) ?_
    exact kk
  · refine lv_iload_n hx hb dX12_init_380 rfl (lv_at hl 0 rfl) ?_
    refine lv_bipush (v := 10) hx hb dX12_init_381 (by decide) ?_
    refine lv_icmp_ne (tgt := 390) hx hb dX12_init_383 (by decide) (fun _ => ?_) (fun h => absurd h (by decide))
    refine lv_iconst (v := 0) hx hb dX12_init_390 (by decide) ?_
    exact kk
  · refine lv_iload_n hx hb dX12_init_380 rfl (lv_at hl 0 rfl) ?_
    refine lv_bipush (v := 10) hx hb dX12_init_381 (by decide) ?_
    refine lv_icmp_ne (tgt := 390) hx hb dX12_init_383 (by decide) (fun _ => ?_) (fun h => absurd h (by decide))
    refine lv_iconst (v := 0) hx hb dX12_init_390 (by decide) ?_
    exact kk
  · refine lv_iload_n hx hb dX12_init_380 rfl (lv_at hl 0 rfl) ?_
    refine lv_bipush (v := 10) hx hb dX12_init_381 (by decide) ?_
    refine lv_icmp_ne (tgt := 390) hx hb dX12_init_383 (by decide) (fun _ => ?_) (fun h => absurd h (by decide))
    refine lv_iconst (v := 0) hx hb dX12_init_390 (by decide) ?_
    exact kk
  · refine lv_iload_n hx hb dX12_init_380 rfl (lv_at hl 0 rfl) ?_
    refine lv_bipush (v := 10) hx hb dX12_init_381 (by decide) ?_
    refine lv_icmp_ne (tgt := 390) hx hb dX12_init_383 (by decide) (fun _ => ?_) (fun h => absurd h (by decide))
    refine lv_iconst (v := 0) hx hb dX12_init_390 (by decide) ?_
    exact kk
  · refine lv_iload_n hx hb dX12_init_380 rfl (lv_at hl 0 rfl) ?_
    refine lv_bipush (v := 10) hx hb dX12_init_381 (by decide) ?_
    refine lv_icmp_ne (tgt := 390) hx hb dX12_init_383 (by decide) (fun _ => ?_) (fun h => absurd h (by decide))
    refine lv_iconst (v := 0) hx hb dX12_init_390 (by decide) ?_
    exact kk
  · refine lv_iload_n hx hb dX12_init_380 rfl (lv_at hl 0 rfl) ?_
    refine lv_bipush (v := 10) hx hb dX12_init_381 (by decide) ?_
    refine lv_icmp_ne (tgt := 390) hx hb dX12_init_383 (by decide) (fun _ => ?_) (fun h => absurd h (by decide))
    refine lv_iconst (v := 0) hx hb dX12_init_390 (by decide) ?_
    exact kk
  · refine lv_iload_n hx hb dX12_init_380 rfl (lv_at hl 0 rfl) ?_
    refine lv_bipush (v := 10) hx hb dX12_init_381 (by decide) ?_
    refine lv_icmp_ne (tgt := 390) hx hb dX12_init_383 (by decide) (fun _ => ?_) (fun h => absurd h (by decide))
    refine lv_iconst (v := 0) hx hb dX12_init_390 (by decide) ?_
    exact kk
  · refine lv_iload_n hx hb dX12_init_380 rfl (lv_at hl 0 rfl) ?_
    refine lv_bipush (v := 10) hx hb dX12_init_381 (by decide) ?_
    refine lv_icmp_ne (tgt := 390) hx hb dX12_init_383 (by decide) (fun h => absurd (by decide) h) (fun _ => ?_)
    refine lv_iconst (v := 1) hx hb dX12_init_386 (by decide) ?_
    refine lv_goto (tgt := 391) hx hb dX12_init_387 (by decide) ?_
    exact kk
set_option maxHeartbeats 4000000 in
theorem zb_most {i : Nat} (hi : i < 11) (hx : p.tables.exec = Jvm.exec) (hb : c.code = cX12_init) (hl : lv_has ls 3 [(2, .int (zn i)), (1, .int a), (0, .ref k0)])
    (kk : W p l e R s m args below meth c H locs cells slots Q (F0 m 459 ls (.int (zn (mostF i)) :: rest))) : W p l e R s m args below meth c H locs cells slots Q (F0 m 397 ls rest) := by
  rcases (show i = 0 ∨ i = 1 ∨ i = 2 ∨ i = 3 ∨ i = 4 ∨ i = 5 ∨ i = 6 ∨ i = 7 ∨ i = 8 ∨ i = 9 ∨ i = 10 by omega) with rfl | rfl | rfl | rfl | rfl | rfl | rfl | rfl | rfl | rfl | rfl
  · refine lv_iload_n hx hb dX12_init_397 rfl (lv_at hl 0 rfl) ?_
    refine lv_bipush (v := 6) hx hb dX12_init_398 (by decide) ?_
    refine lv_icmp_ne (tgt := 408) hx hb dX12_init_400 (by decide) (fun _ => ?_) (fun h => absurd h (by decide))
    refine lv_iload_n hx hb dX12_init_408 rfl (lv_at hl 0 rfl) ?_
    refine lv_iconst (v := 1) hx hb dX12_init_409 (by decide) ?_
    refine lv_icmp_eq (tgt := 419) hx hb dX12_init_410 (by decide) (fun h => absurd h (by decide)) (fun _ => ?_)
    refine lv_iload_n hx hb dX12_init_413 rfl (lv_at hl 0 rfl) ?_
    refine lv_bipush (v := 7) hx hb dX12_init_414 (by decide) ?_
    refine lv_icmp_ne (tgt := 424) hx hb dX12_init_416 (by decide) (fun _ => ?_) (fun h => absurd h (by decide))
    refine lv_iload_n hx hb dX12_init_424 rfl (lv_at hl 0 rfl) ?_
    refine lv_if_eq (tgt := 439) hx hb dX12_init_425 (by decide) (fun _ => ?_) (fun h => absurd (by decide) h)
    refine lv_iconst (v := 5) hx hb dX12_init_439 (by decide) ?_
    refine lv_goto (tgt := 459) hx hb dX12_init_440 (by decide) ?_
    exact kk
  · refine lv_iload_n hx hb dX12_init_397 rfl (lv_at hl 0 rfl) ?_
    refine lv_bipush (v := 6) hx hb dX12_init_398 (by decide) ?_
    refine lv_icmp_ne (tgt := 408) hx hb dX12_init_400 (by decide) (fun _ => ?_) (fun h => absurd h (by decide))
    refine lv_iload_n hx hb dX12_init_408 rfl (lv_at hl 0 rfl) ?_
    refine lv_iconst (v := 1) hx hb dX12_init_409 (by decide) ?_
    refine lv_icmp_eq (tgt := 419) hx hb dX12_init_410 (by decide) (fun _ => ?_) (fun h => absurd (by decide) h)
    refine lv_bipush (v := 9) hx hb dX12_init_419 (by decide) ?_
    refine lv_goto (tgt := 459) hx hb dX12_init_421 (by decide) ?_
    exact kk
  · refine lv_iload_n hx hb dX12_init_397 rfl (lv_at hl 0 rfl) ?_
    refine lv_bipush (v := 6) hx hb dX12_init_398 (by decide) ?_
    refine lv_icmp_ne (tgt := 408) hx hb dX12_init_400 (by decide) (fun _ => ?_) (fun h => absurd h (by decide))
    refine lv_iload_n hx hb dX12_init_408 rfl (lv_at hl 0 rfl) ?_
    refine lv_iconst (v := 1) hx hb dX12_init_409 (by decide) ?_
    refine lv_icmp_eq (tgt := 419) hx hb dX12_init_410 (by decide) (fun h => absurd h (by decide)) (fun _ => ?_)
    refine lv_iload_n hx hb dX12_init_413 rfl (lv_at hl 0 rfl) ?_
    refine lv_bipush (v := 7) hx hb dX12_init_414 (by decide) ?_
    refine lv_icmp_ne (tgt := 424) hx hb dX12_init_416 (by decide) (fun _ => ?_) (fun h => absurd h (by decide))
    refine lv_iload_n hx hb dX12_init_424 rfl (lv_at hl 0 rfl) ?_
    refine lv_if_eq (tgt := 439) hx hb dX12_init_425 (by decide) (fun h => absurd h (by decide)) (fun _ => ?_)
    refine lv_iload_n hx hb dX12_init_428 rfl (lv_at hl 0 rfl) ?_
    refine lv_iconst (v := 5) hx hb dX12_init_429 (by decide) ?_
    refine lv_icmp_eq (tgt := 439) hx hb dX12_init_430 (by decide) (fun h => absurd h (by decide)) (fun _ => ?_)
    refine lv_iload_n hx hb dX12_init_433 rfl (lv_at hl 0 rfl) ?_
    refine lv_bipush (v := 10) hx hb dX12_init_434 (by decide) ?_
    refine lv_icmp_ne (tgt := 443) hx hb dX12_init_436 (by decide) (fun _ => ?_) (fun h => absurd h (by decide))
    refine lv_iload_n hx hb dX12_init_443 rfl (lv_at hl 0 rfl) ?_
    refine lv_iconst (v := 4) hx hb dX12_init_444 (by decide) ?_
    refine lv_icmp_eq (tgt := 454) hx hb dX12_init_445 (by decide) (fun h => absurd h (by decide)) (fun _ => ?_)
    refine lv_iload_n hx hb dX12_init_448 rfl (lv_at hl 0 rfl) ?_
    refine lv_bipush (v := 9) hx hb dX12_init_449 (by decide) ?_
    refine lv_icmp_ne (tgt := 458) hx hb dX12_init_451 (by decide) (fun _ => ?_) (fun h => absurd h (by decide))
    refine lv_iconst (v := 2) hx hb dX12_init_458 (by decide) ?_
    exact kk
  · refine lv_iload_n hx hb dX12_init_397 rfl (lv_at hl 0 rfl) ?_
    refine lv_bipush (v := 6) hx hb dX12_init_398 (by decide) ?_
    refine lv_icmp_ne (tgt := 408) hx hb dX12_init_400 (by decide) (fun _ => ?_) (fun h => absurd h (by decide))
    refine lv_iload_n hx hb dX12_init_408 rfl (lv_at hl 0 rfl) ?_
    refine lv_iconst (v := 1) hx hb dX12_init_409 (by decide) ?_
    refine lv_icmp_eq (tgt := 419) hx hb dX12_init_410 (by decide) (fun h => absurd h (by decide)) (fun _ => ?_)
    refine lv_iload_n hx hb dX12_init_413 rfl (lv_at hl 0 rfl) ?_
    refine lv_bipush (v := 7) hx hb dX12_init_414 (by decide) ?_
    refine lv_icmp_ne (tgt := 424) hx hb dX12_init_416 (by decide) (fun _ => ?_) (fun h => absurd h (by decide))
    refine lv_iload_n hx hb dX12_init_424 rfl (lv_at hl 0 rfl) ?_
    refine lv_if_eq (tgt := 439) hx hb dX12_init_425 (by decide) (fun h => absurd h (by decide)) (fun _ => ?_)
    refine lv_iload_n hx hb dX12_init_428 rfl (lv_at hl 0 rfl) ?_
    refine lv_iconst (v := 5) hx hb dX12_init_429 (by decide) ?_
    refine lv_icmp_eq (tgt := 439) hx hb dX12_init_430 (by decide) (fun h => absurd h (by decide)) (fun _ => ?_)
    refine lv_iload_n hx hb dX12_init_433 rfl (lv_at hl 0 rfl) ?_
    refine lv_bipush (v := 10) hx hb dX12_init_434 (by decide) ?_
    refine lv_icmp_ne (tgt := 443) hx hb dX12_init_436 (by decide) (fun _ => ?_) (fun h => absurd h (by decide))
    refine lv_iload_n hx hb dX12_init_443 rfl (lv_at hl 0 rfl) ?_
    refine lv_iconst (v := 4) hx hb dX12_init_444 (by decide) ?_
    refine lv_icmp_eq (tgt := 454) hx hb dX12_init_445 (by decide) (fun h => absurd h (by decide)) (fun _ => ?_)
    refine lv_iload_n hx hb dX12_init_448 rfl (lv_at hl 0 rfl) ?_
    refine lv_bipush (v := 9) hx hb dX12_init_449 (by decide) ?_
    refine lv_icmp_ne (tgt := 458) hx hb dX12_init_451 (by decide) (fun _ => ?_) (fun h => absurd h (by decide))
    refine lv_iconst (v := 2) hx hb dX12_init_458 (by decide) ?_
    exact kk
  · refine lv_iload_n hx hb dX12_init_397 rfl (lv_at hl 0 rfl) ?_
    refine lv_bipush (v := 6) hx hb dX12_init_398 (by decide) ?_
    refine lv_icmp_ne (tgt := 408) hx hb dX12_init_400 (by decide) (fun _ => ?_) (fun h => absurd h (by decide))
    refine lv_iload_n hx hb dX12_init_408 rfl (lv_at hl 0 rfl) ?_
    refine lv_iconst (v := 1) hx hb dX12_init_409 (by decide) ?_
    refine lv_icmp_eq (tgt := 419) hx hb dX12_init_410 (by decide) (fun h => absurd h (by decide)) (fun _ => ?_)
    refine lv_iload_n hx hb dX12_init_413 rfl (lv_at hl 0 rfl) ?_
    refine lv_bipush (v := 7) hx hb dX12_init_414 (by decide) ?_
    refine lv_icmp_ne (tgt := 424) hx hb dX12_init_416 (by decide) (fun _ => ?_) (fun h => absurd h (by decide))
    refine lv_iload_n hx hb dX12_init_424 rfl (lv_at hl 0 rfl) ?_
    refine lv_if_eq (tgt := 439) hx hb dX12_init_425 (by decide) (fun h => absurd h (by decide)) (fun _ => ?_)
    refine lv_iload_n hx hb dX12_init_428 rfl (lv_at hl 0 rfl) ?_
    refine lv_iconst (v := 5) hx hb dX12_init_429 (by decide) ?_
    refine lv_icmp_eq (tgt := 439) hx hb dX12_init_430 (by decide) (fun h => absurd h (by decide)) (fun _ => ?_)
    refine lv_iload_n hx hb dX12_init_433 rfl (lv_at hl 0 rfl) ?_
    refine lv_bipush (v := 10) hx hb dX12_init_434 (by decide) ?_
    refine lv_icmp_ne (tgt := 443) hx hb dX12_init_436 (by decide) (fun _ => ?_) (fun h => absurd h (by decide))
    refine lv_iload_n hx hb dX12_init_443 rfl (lv_at hl 0 rfl) ?_
    refine lv_iconst (v := 4) hx hb dX12_init_444 (by decide) ?_
    refine lv_icmp_eq (tgt := 454) hx hb dX12_init_445 (by decide) (fun _ => ?_) (fun h => absurd (by decide) h)
    refine lv_iconst (v := 1) hx hb dX12_init_454 (by decide) ?_
    refine lv_goto (tgt := 459) hx hb dX12_init_455 (by decide) ?_
    exact kk
  · refine lv_iload_n hx hb dX12_init_397 rfl (lv_at hl 0 rfl) ?_
    refine lv_bipush (v := 6) hx hb dX12_init_398 (by decide) ?_
    refine lv_icmp_ne (tgt := 408) hx hb dX12_init_400 (by decide) (fun _ => ?_) (fun h => absurd h (by decide))
    refine lv_iload_n hx hb dX12_init_408 rfl (lv_at hl 0 rfl) ?_
    refine lv_iconst (v := 1) hx hb dX12_init_409 (by decide) ?_
    refine lv_icmp_eq (tgt := 419) hx hb dX12_init_410 (by decide) (fun h => absurd h (by decide)) (fun _ => ?_)
    refine lv_iload_n hx hb dX12_init_413 rfl (lv_at hl 0 rfl) ?_
    refine lv_bipush (v := 7) hx hb dX12_init_414 (by decide) ?_
    refine lv_icmp_ne (tgt := 424) hx hb dX12_init_416 (by decide) (fun _ => ?_) (fun h => absurd h (by decide))
    refine lv_iload_n hx hb dX12_init_424 rfl (lv_at hl 0 rfl) ?_
    refine lv_if_eq (tgt := 439) hx hb dX12_init_425 (by decide) (fun h => absurd h (by decide)) (fun _ => ?_)
    refine lv_iload_n hx hb dX12_init_428 rfl (lv_at hl 0 rfl) ?_
    refine lv_iconst (v := 5) hx hb dX12_init_429 (by decide) ?_
    refine lv_icmp_eq (tgt := 439) hx hb dX12_init_430 (by decide) (fun _ => ?_) (fun h => absurd (by decide) h)
    refine lv_iconst (v := 5) hx hb dX12_init_439 (by decide) ?_
    refine lv_goto (tgt := 459) hx hb dX12_init_440 (by decide) ?_
    exact kk
  · refine lv_iload_n hx hb dX12_init_397 rfl (lv_at hl 0 rfl) ?_
    refine lv_bipush (v := 6) hx hb dX12_init_398 (by decide) ?_
    refine lv_icmp_ne (tgt := 408) hx hb dX12_init_400 (by decide) (fun h => absurd (by decide) h) (fun _ => ?_)
    refine lv_bipush (v := 99) hx hb dX12_init_403 (by decide) ?_
    refine lv_goto (tgt := 459) hx hb dX12_init_405 (by decide) ?_
    exact kk
  · refine lv_iload_n hx hb dX12_init_397 rfl (lv_at hl 0 rfl) ?_
    refine lv_bipush (v := 6) hx hb dX12_init_398 (by decide) ?_
    refine lv_icmp_ne (tgt := 408) hx hb dX12_init_400 (by decide) (fun _ => ?_) (fun h => absurd h (by decide))
    refine lv_iload_n hx hb dX12_init_408 rfl (lv_at hl 0 rfl) ?_
    refine lv_iconst (v := 1) hx hb dX12_init_409 (by decide) ?_
    refine lv_icmp_eq (tgt := 419) hx hb dX12_init_410 (by decide) (fun h => absurd h (by decide)) (fun _ => ?_)
    refine lv_iload_n hx hb dX12_init_413 rfl (lv_at hl 0 rfl) ?_
    refine lv_bipush (v := 7) hx hb dX12_init_414 (by decide) ?_
    refine lv_icmp_ne (tgt := 424) hx hb dX12_init_416 (by decide) (fun h => absurd (by decide) h) (fun _ => ?_)
    refine lv_bipush (v := 9) hx hb dX12_init_419 (by decide) ?_
    refine lv_goto (tgt := 459) hx hb dX12_init_421 (by decide) ?_
    exact kk
  · refine lv_iload_n hx hb dX12_init_397 rfl (lv_at hl 0 rfl) ?_
    refine lv_bipush (v := 6) hx hb dX12_init_398 (by decide) ?_
    refine lv_icmp_ne (tgt := 408) hx hb dX12_init_400 (by decide) (fun _ => ?_) (fun h => absurd h (by decide))
    refine lv_iload_n hx hb dX12_init_408 rfl (lv_at hl 0 rfl) ?_
    refine lv_iconst (v := 1) hx hb dX12_init_409 (by decide) ?_
    refine lv_icmp_eq (tgt := 419) hx hb dX12_init_410 (by decide) (fun h => absurd h (by decide)) (fun _ => ?_)
    refine lv_iload_n hx hb dX12_init_413 rfl (lv_at hl 0 rfl) ?_
    refine lv_bipush (v := 7) hx hb dX12_init_414 (by decide) ?_
    refine lv_icmp_ne (tgt := 424) hx hb dX12_init_416 (by decide) (fun _ => ?_) (fun h => absurd h (by decide))
    refine lv_iload_n hx hb dX12_init_424 rfl (lv_at hl 0 rfl) ?_
    refine lv_if_eq (tgt := 439) hx hb dX12_init_425 (by decide) (fun h => absurd h (by decide)) (fun _ => ?_)
    refine lv_iload_n hx hb dX12_init_428 rfl (lv_at hl 0 rfl) ?_
    refine lv_iconst (v := 5) hx hb dX12_init_429 (by decide) ?_
    refine lv_icmp_eq (tgt := 439) hx hb dX12_init_430 (by decide) (fun h => absurd h (by decide)) (fun _ => ?_)
    refine lv_iload_n hx hb dX12_init_433 rfl (lv_at hl 0 rfl) ?_
    refine lv_bipush (v := 10) hx hb dX12_init_434 (by decide) ?_
    refine lv_icmp_ne (tgt := 443) hx hb dX12_init_436 (by decide) (fun _ => ?_) (fun h => absurd h (by decide))
    refine lv_iload_n hx hb dX12_init_443 rfl (lv_at hl 0 rfl) ?_
    refine lv_iconst (v := 4) hx hb dX12_init_444 (by decide) ?_
    refine lv_icmp_eq (tgt := 454) hx hb dX12_init_445 (by decide) (fun h => absurd h (by decide)) (fun _ => ?_)
    refine lv_iload_n hx hb dX12_init_448 rfl (lv_at hl 0 rfl) ?_
    refine lv_bipush (v := 9) hx hb dX12_init_449 (by decide) ?_
    refine lv_icmp_ne (tgt := 458) hx hb dX12_init_451 (by decide) (fun _ => ?_) (fun h => absurd h (by decide))
    refine lv_iconst (v := 2) hx hb dX12_init_458 (by decide) ?_
    exact kk
  · refine lv_iload_n hx hb dX12_init_397 rfl (lv_at hl 0 rfl) ?_
    refine lv_bipush (v := 6) hx hb dX12_init_398 (by decide) ?_
    refine lv_icmp_ne (tgt := 408) hx hb dX12_init_400 (by decide) (fun _ => ?_) (fun h => absurd h (by decide))
    refine lv_iload_n hx hb dX12_init_408 rfl (lv_at hl 0 rfl) ?_
    refine lv_iconst (v := 1) hx hb dX12_init_409 (by decide) ?_
    refine lv_icmp_eq (tgt := 419) hx hb dX12_init_410 (by decide) (fun h => absurd h (by decide)) (fun _ => ?_)
    refine lv_iload_n hx hb dX12_init_413 rfl (lv_at hl 0 rfl) ?_
    refine lv_bipush (v := 7) hx hb dX12_init_414 (by decide) ?_
    refine lv_icmp_ne (tgt := 424) hx hb dX12_init_416 (by decide) (fun _ => ?_) (fun h => absurd h (by decide))
    refine lv_iload_n hx hb dX12_init_424 rfl (lv_at hl 0 rfl) ?_
    refine lv_if_eq (tgt := 439) hx hb dX12_init_425 (by decide) (fun h => absurd h (by decide)) (fun _ => ?_)
    refine lv_iload_n hx hb dX12_init_428 rfl (lv_at hl 0 rfl) ?_
    refine lv_iconst (v := 5) hx hb dX12_init_429 (by decide) ?_
    refine lv_icmp_eq (tgt := 439) hx hb dX12_init_430 (by decide) (fun h => absurd h (by decide)) (fun _ => ?_)
    refine lv_iload_n hx hb dX12_init_433 rfl (lv_at hl 0 rfl) ?_
    refine lv_bipush (v := 10) hx hb dX12_init_434 (by decide) ?_
    refine lv_icmp_ne (tgt := 443) hx hb dX12_init_436 (by decide) (fun _ => ?_) (fun h => absurd h (by decide))
    refine lv_iload_n hx hb dX12_init_443 rfl (lv_at hl 0 rfl) ?_
    refine lv_iconst (v := 4) hx hb dX12_init_444 (by decide) ?_
    refine lv_icmp_eq (tgt := 454) hx hb dX12_init_445 (by decide) (fun h => absurd h (by decide)) (fun _ => ?_)
    refine lv_iload_n hx hb dX12_init_448 rfl (lv_at hl 0 rfl) ?_
    refine lv_bipush (v := 9) hx hb dX12_init_449 (by decide) ?_
    refine lv_icmp_ne (tgt := 458) hx hb dX12_init_451 (by decide) (fun h => absurd (by decide) h) (fun _ => ?_)
    refine lv_iconst (v := 1) hx hb dX12_init_454 (by decide) ?_
    refine lv_goto (tgt := 459) hx hb dX12_init_455 (by decide) ?_
    exact kk
  · refine lv_iload_n hx hb dX12_init_397 rfl (lv_at hl 0 rfl) ?_
    refine lv_bipush (v := 6) hx hb dX12_init_398 (by decide) ?_
    refine lv_icmp_ne (tgt := 408) hx hb dX12_init_400 (by decide) (fun _ => ?_) (fun h => absurd h (by decide))
    refine lv_iload_n hx hb dX12_init_408 rfl (lv_at hl 0 rfl) ?_
    refine lv_iconst (v := 1) hx hb dX12_init_409 (by decide) ?_
    refine lv_icmp_eq (tgt := 419) hx hb dX12_init_410 (by decide) (fun h => absurd h (by decide)) (fun _ => ?_)
    refine lv_iload_n hx hb dX12_init_413 rfl (lv_at hl 0 rfl) ?_
    refine lv_bipush (v := 7) hx hb dX12_init_414 (by decide) ?_
    refine lv_icmp_ne (tgt := 424) hx hb dX12_init_416 (by decide) (fun _ => ?_) (fun h => absurd h (by decide))
    refine lv_iload_n hx hb dX12_init_424 rfl (lv_at hl 0 rfl) ?_
    refine lv_if_eq (tgt := 439) hx hb dX12_init_425 (by decide) (fun h => absurd h (by decide)) (fun _ => ?_)
    refine lv_iload_n hx hb dX12_init_428 rfl (lv_at hl 0 rfl) ?_
    refine lv_iconst (v := 5) hx hb dX12_init_429 (by decide) ?_
    refine lv_icmp_eq (tgt := 439) hx hb dX12_init_430 (by decide) (fun h => absurd h (by decide)) (fun _ => ?_)
    refine lv_iload_n hx hb dX12_init_433 rfl (lv_at hl 0 rfl) ?_
    refine lv_bipush (v := 10) hx hb dX12_init_434 (by decide) ?_
    refine lv_icmp_ne (tgt := 443) hx hb dX12_init_436 (by decide) (fun h => absurd (by decide) h) (fun _ => ?_)
    refine lv_iconst (v := 5) hx hb dX12_init_439 (by decide) ?_
    refine lv_goto (tgt := 459) hx hb dX12_init_440 (by decide) ?_
    exact kk
end
section
variable {l : Launch} {D : va_G} {cA : Nat → ClassId} {Ex : (Nat → Prop) → State → Heap → Prop} {ws : va_W}
theorem zi_Width (hEo : zz_ExOk Ex) {i : Nat} (hi : i < 17) : zi_C l D cA Ex yX12_widthOf cX12_widthOf 1 (some .int) 0 0 0 0 [.int (zn i)] ws (fun r u => r = some (.int (zn (wL i))) ∧ u = ws) := by
  refine zi_meth (plainFor_of_name (by decide)) hEo (Nat.le_of_ble_eq_true rfl) (fun p e R s m args below meth c ls X hP hD hl => ?_)
  obtain ⟨hx, hb, hml, hown, hts, hK, hX, hEo, hE, hr, hlk, hnm, hRf, hRl, hRc, hRs⟩ := X
  have hS : va_S (va_A ws s.heap.size) s.heap s.heap [] := va_S.rf
  have hA : ∀ q, s.heap.size ≤ q → va_A ws s.heap.size q := fun q h => Or.inr h
  have hl : lv_has ls 1 [(0, .int (zn i))] := hl
  refine zb_width hi hx hb hl ?_
  exact W.iret hx hb hr (fun t ht _ => ⟨⟨some (.int (zn (wL i))), ws, rfl, ⟨rfl, rfl⟩, by rw [ht]; exact hP, hD⟩, ⟨Nat.le_of_eq (by rw [ht]), fun q h1 h2 => by rw [ht]⟩⟩) hS.2.2 dX12_widthOf_92 hlk
end
set_option maxRecDepth 100000 in
theorem fq_M0 : zi_fq zzCl (zz_kf [10] 0) RX12 (.array .int) := zi_fq_of (List.forall_mem_cons.mpr ⟨⟨(RX_10, zzT10, 50), rfl, rfl, rfl, by decide +kernel⟩, (fun _ h => absurd h List.not_mem_nil)⟩)
set_option maxRecDepth 100000 in
theorem fq_M1 : zi_fq zzCl (zz_kf [10] 1) RX12 (.array .int) := zi_fq_of (List.forall_mem_cons.mpr ⟨⟨(RX_10, zzT10, 50), rfl, rfl, rfl, by decide +kernel⟩, (fun _ h => absurd h List.not_mem_nil)⟩)
set_option maxRecDepth 100000 in
theorem fq_M2 : zi_fq zzCl (zz_kf [10] 2) RX12 (.array .int) := zi_fq_of (List.forall_mem_cons.mpr ⟨⟨(RX_10, zzT10, 50), rfl, rfl, rfl, by decide +kernel⟩, (fun _ h => absurd h List.not_mem_nil)⟩)
set_option maxRecDepth 100000 in
theorem fq_M3 : zi_fq zzCl (zz_kf [10] 3) RX12 (.array .int) := zi_fq_of (List.forall_mem_cons.mpr ⟨⟨(RX_10, zzT10, 50), rfl, rfl, rfl, by decide +kernel⟩, (fun _ h => absurd h List.not_mem_nil)⟩)
set_option maxRecDepth 100000 in
theorem fq_M4 : zi_fq zzCl (zz_kf [10] 4) RX12 (.array .int) := zi_fq_of (List.forall_mem_cons.mpr ⟨⟨(RX_10, zzT10, 50), rfl, rfl, rfl, by decide +kernel⟩, (fun _ h => absurd h List.not_mem_nil)⟩)
set_option maxRecDepth 100000 in
theorem fq_M6 : zi_fq zzCl (zz_kf [10] 6) RX12 (.array .int) := zi_fq_of (List.forall_mem_cons.mpr ⟨⟨(RX_10, zzT10, 50), rfl, rfl, rfl, by decide +kernel⟩, (fun _ h => absurd h List.not_mem_nil)⟩)
set_option maxRecDepth 100000 in
theorem fq_M7 : zi_fq zzCl (zz_kf [10] 7) RX12 (.array .long) := zi_fq_of (List.forall_mem_cons.mpr ⟨⟨(RX_10, zzT10, 50), rfl, rfl, rfl, by decide +kernel⟩, (fun _ h => absurd h List.not_mem_nil)⟩)
set_option maxRecDepth 100000 in
theorem fq_M8 : zi_fq zzCl (zz_kf [10] 8) RX12 (.array .long) := zi_fq_of (List.forall_mem_cons.mpr ⟨⟨(RX_10, zzT10, 50), rfl, rfl, rfl, by decide +kernel⟩, (fun _ h => absurd h List.not_mem_nil)⟩)
set_option maxRecDepth 100000 in
theorem fq_M9 : zi_fq zzCl (zz_kf [10] 9) RX12 (.array .int) := zi_fq_of (List.forall_mem_cons.mpr ⟨⟨(RX_10, zzT10, 50), rfl, rfl, rfl, by decide +kernel⟩, (fun _ h => absurd h List.not_mem_nil)⟩)
set_option maxRecDepth 100000 in
theorem fq_M10 : zi_fq zzCl (zz_kf [10] 10) RX12 (.array .int) := zi_fq_of (List.forall_mem_cons.mpr ⟨⟨(RX_10, zzT10, 50), rfl, rfl, rfl, by decide +kernel⟩, (fun _ h => absurd h List.not_mem_nil)⟩)
set_option maxRecDepth 100000 in
theorem fq_M11 : zi_fq zzCl (zz_kf [10] 11) RX12 (.array .int) := zi_fq_of (List.forall_mem_cons.mpr ⟨⟨(RX_10, zzT10, 50), rfl, rfl, rfl, by decide +kernel⟩, (fun _ h => absurd h List.not_mem_nil)⟩)
set_option maxRecDepth 100000 in
theorem fq_M12 : zi_fq zzCl (zz_kf [10] 12) RX12 (.array .int) := zi_fq_of (List.forall_mem_cons.mpr ⟨⟨(RX_10, zzT10, 50), rfl, rfl, rfl, by decide +kernel⟩, (fun _ h => absurd h List.not_mem_nil)⟩)
set_option maxRecDepth 100000 in
theorem fq_M13 : zi_fq zzCl (zz_kf [10] 13) RX12 (.array .int) := zi_fq_of (List.forall_mem_cons.mpr ⟨⟨(RX_10, zzT10, 50), rfl, rfl, rfl, by decide +kernel⟩, (fun _ h => absurd h List.not_mem_nil)⟩)
set_option maxRecDepth 100000 in
theorem fq_M16 : zi_fq zzCl (zz_kf [10] 16) RX12 (.array .int) := zi_fq_of (List.forall_mem_cons.mpr ⟨⟨(RX_10, zzT10, 50), rfl, rfl, rfl, by decide +kernel⟩, (fun _ h => absurd h List.not_mem_nil)⟩)
set_option maxRecDepth 100000 in
theorem fq_M17 : zi_fq zzCl (zz_kf [10] 17) RX12 (.array .long) := zi_fq_of (List.forall_mem_cons.mpr ⟨⟨(RX_10, zzT10, 50), rfl, rfl, rfl, by decide +kernel⟩, (fun _ h => absurd h List.not_mem_nil)⟩)
set_option maxRecDepth 100000 in
theorem fq_M18 : zi_fq zzCl (zz_kf [10] 18) RX12 (.array .long) := zi_fq_of (List.forall_mem_cons.mpr ⟨⟨(RX_10, zzT10, 50), rfl, rfl, rfl, by decide +kernel⟩, (fun _ h => absurd h List.not_mem_nil)⟩)
set_option maxRecDepth 100000 in
theorem fq_M20 : zi_fq zzCl (zz_kf [10] 20) RX12 (.array .int) := zi_fq_of (List.forall_mem_cons.mpr ⟨⟨(RX_10, zzT10, 50), rfl, rfl, rfl, by decide +kernel⟩, (fun _ h => absurd h List.not_mem_nil)⟩)
set_option maxRecDepth 100000 in
theorem fq_M21 : zi_fq zzCl (zz_kf [10] 21) RX12 (.array .int) := zi_fq_of (List.forall_mem_cons.mpr ⟨⟨(RX_10, zzT10, 50), rfl, rfl, rfl, by decide +kernel⟩, (fun _ h => absurd h List.not_mem_nil)⟩)
set_option maxRecDepth 100000 in
theorem fq_M22 : zi_fq zzCl (zz_kf [10] 22) RX12 (.array .int) := zi_fq_of (List.forall_mem_cons.mpr ⟨⟨(RX_10, zzT10, 50), rfl, rfl, rfl, by decide +kernel⟩, (fun _ h => absurd h List.not_mem_nil)⟩)
set_option maxRecDepth 100000 in
theorem fq_M23 : zi_fq zzCl (zz_kf [10] 23) RX12 (.array .int) := zi_fq_of (List.forall_mem_cons.mpr ⟨⟨(RX_10, zzT10, 50), rfl, rfl, rfl, by decide +kernel⟩, (fun _ h => absurd h List.not_mem_nil)⟩)
set_option maxRecDepth 100000 in
theorem fq_M24 : zi_fq zzCl (zz_kf [10] 24) RX12 (.array .int) := zi_fq_of (List.forall_mem_cons.mpr ⟨⟨(RX_10, zzT10, 50), rfl, rfl, rfl, by decide +kernel⟩, (fun _ h => absurd h List.not_mem_nil)⟩)
set_option maxRecDepth 100000 in
theorem fq_M25 : zi_fq zzCl (zz_kf [10] 25) RX12 (.array .int) := zi_fq_of (List.forall_mem_cons.mpr ⟨⟨(RX_10, zzT10, 50), rfl, rfl, rfl, by decide +kernel⟩, (fun _ h => absurd h List.not_mem_nil)⟩)
set_option maxRecDepth 100000 in
theorem fq_M27 : zi_fq zzCl (zz_kf [10] 27) RX12 (.array .int) := zi_fq_of (List.forall_mem_cons.mpr ⟨⟨(RX_10, zzT10, 50), rfl, rfl, rfl, by decide +kernel⟩, (fun _ h => absurd h List.not_mem_nil)⟩)
set_option maxRecDepth 100000 in
theorem fq_M28 : zi_fq zzCl (zz_kf [10] 28) RX12 (.array .int) := zi_fq_of (List.forall_mem_cons.mpr ⟨⟨(RX_10, zzT10, 50), rfl, rfl, rfl, by decide +kernel⟩, (fun _ h => absurd h List.not_mem_nil)⟩)
set_option maxRecDepth 100000 in
theorem fq_M29 : zi_fq zzCl (zz_kf [10] 29) RX12 (.array .int) := zi_fq_of (List.forall_mem_cons.mpr ⟨⟨(RX_10, zzT10, 50), rfl, rfl, rfl, by decide +kernel⟩, (fun _ h => absurd h List.not_mem_nil)⟩)
set_option maxRecDepth 100000 in
theorem fq_M32 : zi_fq zzCl (zz_kf [10] 32) RX12 (.array .int) := zi_fq_of (List.forall_mem_cons.mpr ⟨⟨(RX_10, zzT10, 50), rfl, rfl, rfl, by decide +kernel⟩, (fun _ h => absurd h List.not_mem_nil)⟩)
set_option maxRecDepth 100000 in
theorem fq_M33 : zi_fq zzCl (zz_kf [10] 33) RX12 (.array .boolean) := zi_fq_of (List.forall_mem_cons.mpr ⟨⟨(RX_10, zzT10, 50), rfl, rfl, rfl, by decide +kernel⟩, (fun _ h => absurd h List.not_mem_nil)⟩)
set_option maxRecDepth 100000 in
theorem fq_M34 : zi_fq zzCl (zz_kf [10] 34) RX12 (.array .long) := zi_fq_of (List.forall_mem_cons.mpr ⟨⟨(RX_10, zzT10, 50), rfl, rfl, rfl, by decide +kernel⟩, (fun _ h => absurd h List.not_mem_nil)⟩)
set_option maxRecDepth 100000 in
theorem fq_M35 : zi_fq zzCl (zz_kf [10] 35) RX12 (.array .long) := zi_fq_of (List.forall_mem_cons.mpr ⟨⟨(RX_10, zzT10, 50), rfl, rfl, rfl, by decide +kernel⟩, (fun _ h => absurd h List.not_mem_nil)⟩)
set_option maxRecDepth 100000 in
theorem fq_M36 : zi_fq zzCl (zz_kf [10] 36) RX12 (.array .int) := zi_fq_of (List.forall_mem_cons.mpr ⟨⟨(RX_10, zzT10, 50), rfl, rfl, rfl, by decide +kernel⟩, (fun _ h => absurd h List.not_mem_nil)⟩)
set_option maxRecDepth 100000 in
theorem fq_M37 : zi_fq zzCl (zz_kf [10] 37) RX12 (.array .int) := zi_fq_of (List.forall_mem_cons.mpr ⟨⟨(RX_10, zzT10, 50), rfl, rfl, rfl, by decide +kernel⟩, (fun _ h => absurd h List.not_mem_nil)⟩)
set_option maxRecDepth 100000 in
theorem fq_M38 : zi_fq zzCl (zz_kf [10] 38) RX12 (.array .int) := zi_fq_of (List.forall_mem_cons.mpr ⟨⟨(RX_10, zzT10, 50), rfl, rfl, rfl, by decide +kernel⟩, (fun _ h => absurd h List.not_mem_nil)⟩)
set_option maxRecDepth 100000 in
theorem fq_M39 : zi_fq zzCl (zz_kf [10] 39) RX12 (.array .int) := zi_fq_of (List.forall_mem_cons.mpr ⟨⟨(RX_10, zzT10, 50), rfl, rfl, rfl, by decide +kernel⟩, (fun _ h => absurd h List.not_mem_nil)⟩)
set_option maxRecDepth 100000 in
theorem fq_M40 : zi_fq zzCl (zz_kf [10] 40) RX12 (.array .int) := zi_fq_of (List.forall_mem_cons.mpr ⟨⟨(RX_10, zzT10, 50), rfl, rfl, rfl, by decide +kernel⟩, (fun _ h => absurd h List.not_mem_nil)⟩)
set_option maxRecDepth 100000 in
theorem fq_M41 : zi_fq zzCl (zz_kf [10] 41) RX12 (.array .int) := zi_fq_of (List.forall_mem_cons.mpr ⟨⟨(RX_10, zzT10, 50), rfl, rfl, rfl, by decide +kernel⟩, (fun _ h => absurd h List.not_mem_nil)⟩)
set_option maxRecDepth 100000 in
theorem fq_M44 : zi_fq zzCl (zz_kf [10] 44) RX12 (.array .int) := zi_fq_of (List.forall_mem_cons.mpr ⟨⟨(RX_10, zzT10, 50), rfl, rfl, rfl, by decide +kernel⟩, (fun _ h => absurd h List.not_mem_nil)⟩)
set_option maxRecDepth 100000 in
theorem fq_M45 : zi_fq zzCl (zz_kf [10] 45) RX12 (.array .int) := zi_fq_of (List.forall_mem_cons.mpr ⟨⟨(RX_10, zzT10, 50), rfl, rfl, rfl, by decide +kernel⟩, (fun _ h => absurd h List.not_mem_nil)⟩)
set_option maxRecDepth 100000 in
theorem fq_M46 : zi_fq zzCl (zz_kf [10] 46) RX12 (.array .int) := zi_fq_of (List.forall_mem_cons.mpr ⟨⟨(RX_10, zzT10, 50), rfl, rfl, rfl, by decide +kernel⟩, (fun _ h => absurd h List.not_mem_nil)⟩)
theorem zi_df10 {fs : List Value} (h : fs = [.null, .null, .null, .null, .null, .int 0, .null, .null, .null, .null, .null, .null, .null, .null, .int 0, .int 0, .null, .null, .null, .int 0, .null, .null, .null, .null, .null, .null, .int 0, .null, .null, .null, .int 0, .int 0, .null, .null, .null, .null, .null, .null, .null, .null, .null, .null, .int 0, .int 0, .null, .null, .null, .int 0, .int 0, .int 0]) : ∀ j, j < 50 → defaultValue (zzY10 j) = vp_V fs j := by
  subst h
  intro j hj
  revert hj
  suffices h : ∀ j, 0 ≤ j → j < 50 → defaultValue (zzY10 j) = vp_V ([.null, .null, .null, .null, .null, .int 0, .null, .null, .null, .null, .null, .null, .null, .null, .int 0, .int 0, .null, .null, .null, .int 0, .null, .null, .null, .null, .null, .null, .int 0, .null, .null, .null, .int 0, .int 0, .null, .null, .null, .null, .null, .null, .null, .null, .null, .null, .int 0, .int 0, .null, .null, .null, .int 0, .int 0, .int 0] : List Value) j from h j (Nat.zero_le j)
  refine zw_d 0 (fun _ => rfl) ?_
  refine zw_d 1 (fun _ => rfl) ?_
  refine zw_d 2 (fun _ => rfl) ?_
  refine zw_d 3 (fun _ => rfl) ?_
  refine zw_d 4 (fun _ => rfl) ?_
  refine zw_d 5 (fun _ => rfl) ?_
  refine zw_d 6 (fun _ => rfl) ?_
  refine zw_d 7 (fun _ => rfl) ?_
  refine zw_d 8 (fun _ => rfl) ?_
  refine zw_d 9 (fun _ => rfl) ?_
  refine zw_d 10 (fun _ => rfl) ?_
  refine zw_d 11 (fun _ => rfl) ?_
  refine zw_d 12 (fun _ => rfl) ?_
  refine zw_d 13 (fun _ => rfl) ?_
  refine zw_d 14 (fun _ => rfl) ?_
  refine zw_d 15 (fun _ => rfl) ?_
  refine zw_d 16 (fun _ => rfl) ?_
  refine zw_d 17 (fun _ => rfl) ?_
  refine zw_d 18 (fun _ => rfl) ?_
  refine zw_d 19 (fun _ => rfl) ?_
  refine zw_d 20 (fun _ => rfl) ?_
  refine zw_d 21 (fun _ => rfl) ?_
  refine zw_d 22 (fun _ => rfl) ?_
  refine zw_d 23 (fun _ => rfl) ?_
  refine zw_d 24 (fun _ => rfl) ?_
  refine zw_d 25 (fun _ => rfl) ?_
  refine zw_d 26 (fun _ => rfl) ?_
  refine zw_d 27 (fun _ => rfl) ?_
  refine zw_d 28 (fun _ => rfl) ?_
  refine zw_d 29 (fun _ => rfl) ?_
  refine zw_d 30 (fun _ => rfl) ?_
  refine zw_d 31 (fun _ => rfl) ?_
  refine zw_d 32 (fun _ => rfl) ?_
  refine zw_d 33 (fun _ => rfl) ?_
  refine zw_d 34 (fun _ => rfl) ?_
  refine zw_d 35 (fun _ => rfl) ?_
  refine zw_d 36 (fun _ => rfl) ?_
  refine zw_d 37 (fun _ => rfl) ?_
  refine zw_d 38 (fun _ => rfl) ?_
  refine zw_d 39 (fun _ => rfl) ?_
  refine zw_d 40 (fun _ => rfl) ?_
  refine zw_d 41 (fun _ => rfl) ?_
  refine zw_d 42 (fun _ => rfl) ?_
  refine zw_d 43 (fun _ => rfl) ?_
  refine zw_d 44 (fun _ => rfl) ?_
  refine zw_d 45 (fun _ => rfl) ?_
  refine zw_d 46 (fun _ => rfl) ?_
  refine zw_d 47 (fun _ => rfl) ?_
  refine zw_d 48 (fun _ => rfl) ?_
  refine zw_d 49 (fun _ => rfl) ?_
  exact fun j h1 h2 => absurd h2 (by omega)
theorem zR0_z {i : Nat} (h : 5 < i ∧ i ≠ 12 ∧ i ≠ 13) : zR0.1 i = fun _ => 0 := by
  obtain ⟨h1, h2, h3⟩ := h
  funext b
  show (if i = 0 then (if b = 30 then 30 else 0) else if i = 1 then (if b < 17 then zn (pL b) else 0) else if i = 2 then (if b < 17 then zn (wL b) else 0) else if i = 3 then (if b < 11 then zn (leastF b) else 0) else if i = 4 then (if b < 11 then zn (mostF b) else 0) else if i = 5 then ([127, 3, 2, 1027, 896, 2] : List Int32).getD b 0 else if i = 12 ∨ i = 13 then fil 60 b else 0) = 0
  rw [if_neg (by omega), if_neg (by omega), if_neg (by omega), if_neg (by omega), if_neg (by omega), if_neg (by omega), if_neg (by omega)]
theorem zR0_0 : zR0.1 0 = fun b => if b = 30 then 30 else 0 := by
  funext b
  show (if 0 = 0 then (if b = 30 then 30 else 0) else if 0 = 1 then (if b < 17 then zn (pL b) else 0) else if 0 = 2 then (if b < 17 then zn (wL b) else 0) else if 0 = 3 then (if b < 11 then zn (leastF b) else 0) else if 0 = 4 then (if b < 11 then zn (mostF b) else 0) else if 0 = 5 then ([127, 3, 2, 1027, 896, 2] : List Int32).getD b 0 else if 0 = 12 ∨ 0 = 13 then fil 60 b else 0) = _
  rw [if_pos (by decide)]
theorem zR0_1 : zR0.1 1 = flF (fun b => zn (pL b)) 17 := by
  funext b
  show (if 1 = 0 then (if b = 30 then 30 else 0) else if 1 = 1 then (if b < 17 then zn (pL b) else 0) else if 1 = 2 then (if b < 17 then zn (wL b) else 0) else if 1 = 3 then (if b < 11 then zn (leastF b) else 0) else if 1 = 4 then (if b < 11 then zn (mostF b) else 0) else if 1 = 5 then ([127, 3, 2, 1027, 896, 2] : List Int32).getD b 0 else if 1 = 12 ∨ 1 = 13 then fil 60 b else 0) = _
  rw [if_neg (by decide), if_pos (by decide)]
  rfl
theorem zR0_2 : zR0.1 2 = flF (fun b => zn (wL b)) 17 := by
  funext b
  show (if 2 = 0 then (if b = 30 then 30 else 0) else if 2 = 1 then (if b < 17 then zn (pL b) else 0) else if 2 = 2 then (if b < 17 then zn (wL b) else 0) else if 2 = 3 then (if b < 11 then zn (leastF b) else 0) else if 2 = 4 then (if b < 11 then zn (mostF b) else 0) else if 2 = 5 then ([127, 3, 2, 1027, 896, 2] : List Int32).getD b 0 else if 2 = 12 ∨ 2 = 13 then fil 60 b else 0) = _
  rw [if_neg (by decide), if_neg (by decide), if_pos (by decide)]
  rfl
theorem zR0_3 : zR0.1 3 = flF (fun b => zn (leastF b)) 11 := by
  funext b
  show (if 3 = 0 then (if b = 30 then 30 else 0) else if 3 = 1 then (if b < 17 then zn (pL b) else 0) else if 3 = 2 then (if b < 17 then zn (wL b) else 0) else if 3 = 3 then (if b < 11 then zn (leastF b) else 0) else if 3 = 4 then (if b < 11 then zn (mostF b) else 0) else if 3 = 5 then ([127, 3, 2, 1027, 896, 2] : List Int32).getD b 0 else if 3 = 12 ∨ 3 = 13 then fil 60 b else 0) = _
  rw [if_neg (by decide), if_neg (by decide), if_neg (by decide), if_pos (by decide)]
  rfl
theorem zR0_4 : zR0.1 4 = flF (fun b => zn (mostF b)) 11 := by
  funext b
  show (if 4 = 0 then (if b = 30 then 30 else 0) else if 4 = 1 then (if b < 17 then zn (pL b) else 0) else if 4 = 2 then (if b < 17 then zn (wL b) else 0) else if 4 = 3 then (if b < 11 then zn (leastF b) else 0) else if 4 = 4 then (if b < 11 then zn (mostF b) else 0) else if 4 = 5 then ([127, 3, 2, 1027, 896, 2] : List Int32).getD b 0 else if 4 = 12 ∨ 4 = 13 then fil 60 b else 0) = _
  rw [if_neg (by decide), if_neg (by decide), if_neg (by decide), if_neg (by decide), if_pos (by decide)]
  rfl
theorem zR0_5 : zR0.1 5 = fun b => ([127, 3, 2, 1027, 896, 2] : List Int32).getD b 0 := by
  funext b
  show (if 5 = 0 then (if b = 30 then 30 else 0) else if 5 = 1 then (if b < 17 then zn (pL b) else 0) else if 5 = 2 then (if b < 17 then zn (wL b) else 0) else if 5 = 3 then (if b < 11 then zn (leastF b) else 0) else if 5 = 4 then (if b < 11 then zn (mostF b) else 0) else if 5 = 5 then ([127, 3, 2, 1027, 896, 2] : List Int32).getD b 0 else if 5 = 12 ∨ 5 = 13 then fil 60 b else 0) = _
  rw [if_neg (by decide), if_neg (by decide), if_neg (by decide), if_neg (by decide), if_neg (by decide), if_pos (by decide)]
theorem zR0_12 : zR0.1 12 = fil 60 := by
  funext b
  show (if 12 = 0 then (if b = 30 then 30 else 0) else if 12 = 1 then (if b < 17 then zn (pL b) else 0) else if 12 = 2 then (if b < 17 then zn (wL b) else 0) else if 12 = 3 then (if b < 11 then zn (leastF b) else 0) else if 12 = 4 then (if b < 11 then zn (mostF b) else 0) else if 12 = 5 then ([127, 3, 2, 1027, 896, 2] : List Int32).getD b 0 else if 12 = 12 ∨ 12 = 13 then fil 60 b else 0) = _
  rw [if_neg (by decide), if_neg (by decide), if_neg (by decide), if_neg (by decide), if_neg (by decide), if_neg (by decide), if_pos (by decide)]
theorem zR0_13 : zR0.1 13 = fil 60 := by
  funext b
  show (if 13 = 0 then (if b = 30 then 30 else 0) else if 13 = 1 then (if b < 17 then zn (pL b) else 0) else if 13 = 2 then (if b < 17 then zn (wL b) else 0) else if 13 = 3 then (if b < 11 then zn (leastF b) else 0) else if 13 = 4 then (if b < 11 then zn (mostF b) else 0) else if 13 = 5 then ([127, 3, 2, 1027, 896, 2] : List Int32).getD b 0 else if 13 = 12 ∨ 13 = 13 then fil 60 b else 0) = _
  rw [if_neg (by decide), if_neg (by decide), if_neg (by decide), if_neg (by decide), if_neg (by decide), if_neg (by decide), if_pos (by decide)]
theorem zw_fs {ad : Nat → Nat} {f : Nat → Int32} {g : Nat → Int64} {ks : List Nat} {j x : Nat} (h : ks[j]? = some x) : (zz_fs ad f g ks)[j]? = some (zz_fv ad f g j x) := by
  simp [zz_fs, List.getElem?_mapIdx, h]
theorem zw_fsN {ad : Nat → Nat} {f : Nat → Int32} {g : Nat → Int64} {ks : List Nat} {V : List Value} {n : Nat} (hV : V.length = n) (hS : ks.length = n) (i : Nat) (hi : n ≤ i) : (zz_fs ad f g ks)[i]? = V[i]? := by
  rw [List.getElem?_eq_none (by simp only [zz_fs, List.length_mapIdx]; omega), List.getElem?_eq_none (by omega)]
set_option maxHeartbeats 4000000 in
set_option maxRecDepth 100000 in
theorem zi_fs10 (k0 k1 k2 k3 k4 k5 k6 k7 k8 k9 k10 k11 k12 k13 k14 k15 k16 k17 k18 k19 k20 k21 k22 k23 k24 k25 k26 k27 k28 k29 k30 k31 k32 k33 k34 k35 k36 k37 k38 : Nat) : zz_fs (fun i => ([k0, k1, k2, k3, k4, k5, k6, k7, k8, k9, k10, k11, k12, k13, k14, k15, k16, k17, k18, k19, k20, k21, k22, k23, k24, k25, k26, k27, k28, k29, k30, k31, k32, k33, k34, k35, k36, k37, k38] : List Nat).getD i 0) (fun b => if b = 30 then 30 else 0) (fun _ => 0) [3, 4, 5, 6, 7, 0, 8, 9, 10, 11, 12, 13, 14, 15, 0, 0, 16, 17, 18, 0, 19, 20, 21, 22, 23, 24, 0, 25, 26, 27, 0, 0, 28, 29, 30, 31, 32, 33, 34, 35, 36, 37, 0, 0, 38, 39, 40, 0, 0, 0] = [.ref k1, .ref k2, .ref k3, .ref k4, .ref k5, .int 0, .ref k6, .ref k7, .ref k8, .ref k9, .ref k10, .ref k11, .ref k12, .ref k13, .int 0, .int 0, .ref k14, .ref k15, .ref k16, .int 0, .ref k17, .ref k18, .ref k19, .ref k20, .ref k21, .ref k22, .int 0, .ref k23, .ref k24, .ref k25, .int 30, .int 0, .ref k26, .ref k27, .ref k28, .ref k29, .ref k30, .ref k31, .ref k32, .ref k33, .ref k34, .ref k35, .int 0, .int 0, .ref k36, .ref k37, .ref k38, .int 0, .int 0, .int 0] := by
  refine List.ext_getElem? (fun i => ?_)
  revert i
  suffices h : ∀ i, 0 ≤ i → (zz_fs (fun i => ([k0, k1, k2, k3, k4, k5, k6, k7, k8, k9, k10, k11, k12, k13, k14, k15, k16, k17, k18, k19, k20, k21, k22, k23, k24, k25, k26, k27, k28, k29, k30, k31, k32, k33, k34, k35, k36, k37, k38] : List Nat).getD i 0) (fun b => if b = 30 then 30 else 0) (fun _ => 0) [3, 4, 5, 6, 7, 0, 8, 9, 10, 11, 12, 13, 14, 15, 0, 0, 16, 17, 18, 0, 19, 20, 21, 22, 23, 24, 0, 25, 26, 27, 0, 0, 28, 29, 30, 31, 32, 33, 34, 35, 36, 37, 0, 0, 38, 39, 40, 0, 0, 0])[i]? = ([.ref k1, .ref k2, .ref k3, .ref k4, .ref k5, .int 0, .ref k6, .ref k7, .ref k8, .ref k9, .ref k10, .ref k11, .ref k12, .ref k13, .int 0, .int 0, .ref k14, .ref k15, .ref k16, .int 0, .ref k17, .ref k18, .ref k19, .ref k20, .ref k21, .ref k22, .int 0, .ref k23, .ref k24, .ref k25, .int 30, .int 0, .ref k26, .ref k27, .ref k28, .ref k29, .ref k30, .ref k31, .ref k32, .ref k33, .ref k34, .ref k35, .int 0, .int 0, .ref k36, .ref k37, .ref k38, .int 0, .int 0, .int 0] : List Value)[i]? from fun i => h i (Nat.zero_le i)
  refine zw_d 0 ((zw_fs rfl).trans rfl) ?_
  refine zw_d 1 ((zw_fs rfl).trans rfl) ?_
  refine zw_d 2 ((zw_fs rfl).trans rfl) ?_
  refine zw_d 3 ((zw_fs rfl).trans rfl) ?_
  refine zw_d 4 ((zw_fs rfl).trans rfl) ?_
  refine zw_d 5 ((zw_fs rfl).trans rfl) ?_
  refine zw_d 6 ((zw_fs rfl).trans rfl) ?_
  refine zw_d 7 ((zw_fs rfl).trans rfl) ?_
  refine zw_d 8 ((zw_fs rfl).trans rfl) ?_
  refine zw_d 9 ((zw_fs rfl).trans rfl) ?_
  refine zw_d 10 ((zw_fs rfl).trans rfl) ?_
  refine zw_d 11 ((zw_fs rfl).trans rfl) ?_
  refine zw_d 12 ((zw_fs rfl).trans rfl) ?_
  refine zw_d 13 ((zw_fs rfl).trans rfl) ?_
  refine zw_d 14 ((zw_fs rfl).trans rfl) ?_
  refine zw_d 15 ((zw_fs rfl).trans rfl) ?_
  refine zw_d 16 ((zw_fs rfl).trans rfl) ?_
  refine zw_d 17 ((zw_fs rfl).trans rfl) ?_
  refine zw_d 18 ((zw_fs rfl).trans rfl) ?_
  refine zw_d 19 ((zw_fs rfl).trans rfl) ?_
  refine zw_d 20 ((zw_fs rfl).trans rfl) ?_
  refine zw_d 21 ((zw_fs rfl).trans rfl) ?_
  refine zw_d 22 ((zw_fs rfl).trans rfl) ?_
  refine zw_d 23 ((zw_fs rfl).trans rfl) ?_
  refine zw_d 24 ((zw_fs rfl).trans rfl) ?_
  refine zw_d 25 ((zw_fs rfl).trans rfl) ?_
  refine zw_d 26 ((zw_fs rfl).trans rfl) ?_
  refine zw_d 27 ((zw_fs rfl).trans rfl) ?_
  refine zw_d 28 ((zw_fs rfl).trans rfl) ?_
  refine zw_d 29 ((zw_fs rfl).trans rfl) ?_
  refine zw_d 30 ((zw_fs rfl).trans rfl) ?_
  refine zw_d 31 ((zw_fs rfl).trans rfl) ?_
  refine zw_d 32 ((zw_fs rfl).trans rfl) ?_
  refine zw_d 33 ((zw_fs rfl).trans rfl) ?_
  refine zw_d 34 ((zw_fs rfl).trans rfl) ?_
  refine zw_d 35 ((zw_fs rfl).trans rfl) ?_
  refine zw_d 36 ((zw_fs rfl).trans rfl) ?_
  refine zw_d 37 ((zw_fs rfl).trans rfl) ?_
  refine zw_d 38 ((zw_fs rfl).trans rfl) ?_
  refine zw_d 39 ((zw_fs rfl).trans rfl) ?_
  refine zw_d 40 ((zw_fs rfl).trans rfl) ?_
  refine zw_d 41 ((zw_fs rfl).trans rfl) ?_
  refine zw_d 42 ((zw_fs rfl).trans rfl) ?_
  refine zw_d 43 ((zw_fs rfl).trans rfl) ?_
  refine zw_d 44 ((zw_fs rfl).trans rfl) ?_
  refine zw_d 45 ((zw_fs rfl).trans rfl) ?_
  refine zw_d 46 ((zw_fs rfl).trans rfl) ?_
  refine zw_d 47 ((zw_fs rfl).trans rfl) ?_
  refine zw_d 48 ((zw_fs rfl).trans rfl) ?_
  refine zw_d 49 ((zw_fs rfl).trans rfl) ?_
  exact zw_fsN rfl rfl
set_option maxHeartbeats 4000000 in
set_option maxRecDepth 100000 in
theorem zi_wl1 {cA : Nat → ClassId} (k0 k1 k2 k3 k4 k5 k6 k7 k8 k9 k10 k11 k12 k13 k14 k15 k16 k17 k18 k19 k20 k21 k22 k23 k24 k25 k26 k27 k28 k29 k30 k31 k32 k33 k34 k35 k36 k37 k38 : Nat) : [(k0, .inr (10, [.ref k1, .ref k2, .ref k3, .ref k4, .ref k5, .int 0, .ref k6, .ref k7, .ref k8, .ref k9, .ref k10, .ref k11, .ref k12, .ref k13, .int 0, .int 0, .ref k14, .ref k15, .ref k16, .int 0, .ref k17, .ref k18, .ref k19, .ref k20, .ref k21, .ref k22, .int 0, .ref k23, .ref k24, .ref k25, .int 30, .int 0, .ref k26, .ref k27, .ref k28, .ref k29, .ref k30, .ref k31, .ref k32, .ref k33, .ref k34, .ref k35, .int 0, .int 0, .ref k36, .ref k37, .ref k38, .int 0, .int 0, .int 0])), (k1, .inl (cA 0, 17, .inl (flF (fun b => zn (pL b)) 17))), (k2, .inl (cA 0, 17, .inl (flF (fun b => zn (wL b)) 17))), (k3, .inl (cA 0, 11, .inl (flF (fun b => zn (leastF b)) 11))), (k4, .inl (cA 0, 11, .inl (flF (fun b => zn (mostF b)) 11))), (k5, .inl (cA 0, 6, .inl (fun b => ([127, 3, 2, 1027, 896, 2] : List Int32).getD b 0))), (k6, .inl (cA 0, 60, .inl fun _ => 0)), (k7, .inl (cA 2, 60, .inr (.inl fun _ => 0))), (k8, .inl (cA 2, 60, .inr (.inl fun _ => 0))), (k9, .inl (cA 0, 60, .inl fun _ => 0)), (k10, .inl (cA 0, 660, .inl fun _ => 0)), (k11, .inl (cA 0, 60, .inl fun _ => 0)), (k12, .inl (cA 0, 60, .inl (fil 60))), (k13, .inl (cA 0, 60, .inl (fil 60))), (k14, .inl (cA 0, 401, .inl fun _ => 0)), (k15, .inl (cA 2, 401, .inr (.inl fun _ => 0))), (k16, .inl (cA 2, 401, .inr (.inl fun _ => 0))), (k17, .inl (cA 0, 8, .inl fun _ => 0)), (k18, .inl (cA 0, 8, .inl fun _ => 0)), (k19, .inl (cA 0, 8, .inl fun _ => 0)), (k20, .inl (cA 0, 8, .inl fun _ => 0)), (k21, .inl (cA 0, 8, .inl fun _ => 0)), (k22, .inl (cA 0, 8, .inl fun _ => 0)), (k23, .inl (cA 0, 8, .inl fun _ => 0)), (k24, .inl (cA 0, 8, .inl fun _ => 0)), (k25, .inl (cA 0, 8, .inl fun _ => 0)), (k26, .inl (cA 0, 8, .inl fun _ => 0)), (k27, .inl (cA 1, 480, .inl fun _ => 0)), (k28, .inl (cA 2, 480, .inr (.inl fun _ => 0))), (k29, .inl (cA 2, 480, .inr (.inl fun _ => 0))), (k30, .inl (cA 0, 480, .inl fun _ => 0)), (k31, .inl (cA 0, 8, .inl fun _ => 0)), (k32, .inl (cA 0, 480, .inl fun _ => 0)), (k33, .inl (cA 0, 480, .inl fun _ => 0)), (k34, .inl (cA 0, 480, .inl fun _ => 0)), (k35, .inl (cA 0, 480, .inl fun _ => 0)), (k36, .inl (cA 0, 60, .inl fun _ => 0)), (k37, .inl (cA 0, 60, .inl fun _ => 0)), (k38, .inl (cA 0, 4, .inl fun _ => 0))] = zz_wl (fun i => ([k0, k1, k2, k3, k4, k5, k6, k7, k8, k9, k10, k11, k12, k13, k14, k15, k16, k17, k18, k19, k20, k21, k22, k23, k24, k25, k26, k27, k28, k29, k30, k31, k32, k33, k34, k35, k36, k37, k38] : List Nat).getD i 0) cA zzSR zR0 := by
  refine List.ext_getElem? (fun i => Eq.symm ?_)
  revert i
  suffices h : ∀ i, 0 ≤ i → (zz_wl (fun i => ([k0, k1, k2, k3, k4, k5, k6, k7, k8, k9, k10, k11, k12, k13, k14, k15, k16, k17, k18, k19, k20, k21, k22, k23, k24, k25, k26, k27, k28, k29, k30, k31, k32, k33, k34, k35, k36, k37, k38] : List Nat).getD i 0) cA zzSR zR0)[i]? = ([(k0, .inr (10, [.ref k1, .ref k2, .ref k3, .ref k4, .ref k5, .int 0, .ref k6, .ref k7, .ref k8, .ref k9, .ref k10, .ref k11, .ref k12, .ref k13, .int 0, .int 0, .ref k14, .ref k15, .ref k16, .int 0, .ref k17, .ref k18, .ref k19, .ref k20, .ref k21, .ref k22, .int 0, .ref k23, .ref k24, .ref k25, .int 30, .int 0, .ref k26, .ref k27, .ref k28, .ref k29, .ref k30, .ref k31, .ref k32, .ref k33, .ref k34, .ref k35, .int 0, .int 0, .ref k36, .ref k37, .ref k38, .int 0, .int 0, .int 0])), (k1, .inl (cA 0, 17, .inl (flF (fun b => zn (pL b)) 17))), (k2, .inl (cA 0, 17, .inl (flF (fun b => zn (wL b)) 17))), (k3, .inl (cA 0, 11, .inl (flF (fun b => zn (leastF b)) 11))), (k4, .inl (cA 0, 11, .inl (flF (fun b => zn (mostF b)) 11))), (k5, .inl (cA 0, 6, .inl (fun b => ([127, 3, 2, 1027, 896, 2] : List Int32).getD b 0))), (k6, .inl (cA 0, 60, .inl fun _ => 0)), (k7, .inl (cA 2, 60, .inr (.inl fun _ => 0))), (k8, .inl (cA 2, 60, .inr (.inl fun _ => 0))), (k9, .inl (cA 0, 60, .inl fun _ => 0)), (k10, .inl (cA 0, 660, .inl fun _ => 0)), (k11, .inl (cA 0, 60, .inl fun _ => 0)), (k12, .inl (cA 0, 60, .inl (fil 60))), (k13, .inl (cA 0, 60, .inl (fil 60))), (k14, .inl (cA 0, 401, .inl fun _ => 0)), (k15, .inl (cA 2, 401, .inr (.inl fun _ => 0))), (k16, .inl (cA 2, 401, .inr (.inl fun _ => 0))), (k17, .inl (cA 0, 8, .inl fun _ => 0)), (k18, .inl (cA 0, 8, .inl fun _ => 0)), (k19, .inl (cA 0, 8, .inl fun _ => 0)), (k20, .inl (cA 0, 8, .inl fun _ => 0)), (k21, .inl (cA 0, 8, .inl fun _ => 0)), (k22, .inl (cA 0, 8, .inl fun _ => 0)), (k23, .inl (cA 0, 8, .inl fun _ => 0)), (k24, .inl (cA 0, 8, .inl fun _ => 0)), (k25, .inl (cA 0, 8, .inl fun _ => 0)), (k26, .inl (cA 0, 8, .inl fun _ => 0)), (k27, .inl (cA 1, 480, .inl fun _ => 0)), (k28, .inl (cA 2, 480, .inr (.inl fun _ => 0))), (k29, .inl (cA 2, 480, .inr (.inl fun _ => 0))), (k30, .inl (cA 0, 480, .inl fun _ => 0)), (k31, .inl (cA 0, 8, .inl fun _ => 0)), (k32, .inl (cA 0, 480, .inl fun _ => 0)), (k33, .inl (cA 0, 480, .inl fun _ => 0)), (k34, .inl (cA 0, 480, .inl fun _ => 0)), (k35, .inl (cA 0, 480, .inl fun _ => 0)), (k36, .inl (cA 0, 60, .inl fun _ => 0)), (k37, .inl (cA 0, 60, .inl fun _ => 0)), (k38, .inl (cA 0, 4, .inl fun _ => 0))] : va_W)[i]? from fun i => h i (Nat.zero_le i)
  refine zw_d 0 ((zw_get (sh := (0, 10, 50, [3, 4, 5, 6, 7, 0, 8, 9, 10, 11, 12, 13, 14, 15, 0, 0, 16, 17, 18, 0, 19, 20, 21, 22, 23, 24, 0, 25, 26, 27, 0, 0, 28, 29, 30, 31, 32, 33, 34, 35, 36, 37, 0, 0, 38, 39, 40, 0, 0, 0])) (f := fun b => if b = 30 then 30 else 0) (g := fun _ => 0) rfl zR0_0 rfl).trans (congrArg (fun t => some ((k0, Sum.inr (10, t)) : Nat × va_E)) (zi_fs10 k0 k1 k2 k3 k4 k5 k6 k7 k8 k9 k10 k11 k12 k13 k14 k15 k16 k17 k18 k19 k20 k21 k22 k23 k24 k25 k26 k27 k28 k29 k30 k31 k32 k33 k34 k35 k36 k37 k38))) ?_
  refine zw_d 1 ((zw_get (f := flF (fun b => zn (pL b)) 17) (g := fun _ => 0) rfl zR0_1 rfl).trans rfl) ?_
  refine zw_d 2 ((zw_get (f := flF (fun b => zn (wL b)) 17) (g := fun _ => 0) rfl zR0_2 rfl).trans rfl) ?_
  refine zw_d 3 ((zw_get (f := flF (fun b => zn (leastF b)) 11) (g := fun _ => 0) rfl zR0_3 rfl).trans rfl) ?_
  refine zw_d 4 ((zw_get (f := flF (fun b => zn (mostF b)) 11) (g := fun _ => 0) rfl zR0_4 rfl).trans rfl) ?_
  refine zw_d 5 ((zw_get (f := fun b => ([127, 3, 2, 1027, 896, 2] : List Int32).getD b 0) (g := fun _ => 0) rfl zR0_5 rfl).trans rfl) ?_
  refine zw_d 6 ((zw_get (f := fun _ => 0) (g := fun _ => 0) rfl (zR0_z (by decide)) rfl).trans rfl) ?_
  refine zw_d 7 ((zw_get (f := fun _ => 0) (g := fun _ => 0) rfl (zR0_z (by decide)) rfl).trans rfl) ?_
  refine zw_d 8 ((zw_get (f := fun _ => 0) (g := fun _ => 0) rfl (zR0_z (by decide)) rfl).trans rfl) ?_
  refine zw_d 9 ((zw_get (f := fun _ => 0) (g := fun _ => 0) rfl (zR0_z (by decide)) rfl).trans rfl) ?_
  refine zw_d 10 ((zw_get (f := fun _ => 0) (g := fun _ => 0) rfl (zR0_z (by decide)) rfl).trans rfl) ?_
  refine zw_d 11 ((zw_get (f := fun _ => 0) (g := fun _ => 0) rfl (zR0_z (by decide)) rfl).trans rfl) ?_
  refine zw_d 12 ((zw_get (f := fil 60) (g := fun _ => 0) rfl zR0_12 rfl).trans rfl) ?_
  refine zw_d 13 ((zw_get (f := fil 60) (g := fun _ => 0) rfl zR0_13 rfl).trans rfl) ?_
  refine zw_d 14 ((zw_get (f := fun _ => 0) (g := fun _ => 0) rfl (zR0_z (by decide)) rfl).trans rfl) ?_
  refine zw_d 15 ((zw_get (f := fun _ => 0) (g := fun _ => 0) rfl (zR0_z (by decide)) rfl).trans rfl) ?_
  refine zw_d 16 ((zw_get (f := fun _ => 0) (g := fun _ => 0) rfl (zR0_z (by decide)) rfl).trans rfl) ?_
  refine zw_d 17 ((zw_get (f := fun _ => 0) (g := fun _ => 0) rfl (zR0_z (by decide)) rfl).trans rfl) ?_
  refine zw_d 18 ((zw_get (f := fun _ => 0) (g := fun _ => 0) rfl (zR0_z (by decide)) rfl).trans rfl) ?_
  refine zw_d 19 ((zw_get (f := fun _ => 0) (g := fun _ => 0) rfl (zR0_z (by decide)) rfl).trans rfl) ?_
  refine zw_d 20 ((zw_get (f := fun _ => 0) (g := fun _ => 0) rfl (zR0_z (by decide)) rfl).trans rfl) ?_
  refine zw_d 21 ((zw_get (f := fun _ => 0) (g := fun _ => 0) rfl (zR0_z (by decide)) rfl).trans rfl) ?_
  refine zw_d 22 ((zw_get (f := fun _ => 0) (g := fun _ => 0) rfl (zR0_z (by decide)) rfl).trans rfl) ?_
  refine zw_d 23 ((zw_get (f := fun _ => 0) (g := fun _ => 0) rfl (zR0_z (by decide)) rfl).trans rfl) ?_
  refine zw_d 24 ((zw_get (f := fun _ => 0) (g := fun _ => 0) rfl (zR0_z (by decide)) rfl).trans rfl) ?_
  refine zw_d 25 ((zw_get (f := fun _ => 0) (g := fun _ => 0) rfl (zR0_z (by decide)) rfl).trans rfl) ?_
  refine zw_d 26 ((zw_get (f := fun _ => 0) (g := fun _ => 0) rfl (zR0_z (by decide)) rfl).trans rfl) ?_
  refine zw_d 27 ((zw_get (f := fun _ => 0) (g := fun _ => 0) rfl (zR0_z (by decide)) rfl).trans rfl) ?_
  refine zw_d 28 ((zw_get (f := fun _ => 0) (g := fun _ => 0) rfl (zR0_z (by decide)) rfl).trans rfl) ?_
  refine zw_d 29 ((zw_get (f := fun _ => 0) (g := fun _ => 0) rfl (zR0_z (by decide)) rfl).trans rfl) ?_
  refine zw_d 30 ((zw_get (f := fun _ => 0) (g := fun _ => 0) rfl (zR0_z (by decide)) rfl).trans rfl) ?_
  refine zw_d 31 ((zw_get (f := fun _ => 0) (g := fun _ => 0) rfl (zR0_z (by decide)) rfl).trans rfl) ?_
  refine zw_d 32 ((zw_get (f := fun _ => 0) (g := fun _ => 0) rfl (zR0_z (by decide)) rfl).trans rfl) ?_
  refine zw_d 33 ((zw_get (f := fun _ => 0) (g := fun _ => 0) rfl (zR0_z (by decide)) rfl).trans rfl) ?_
  refine zw_d 34 ((zw_get (f := fun _ => 0) (g := fun _ => 0) rfl (zR0_z (by decide)) rfl).trans rfl) ?_
  refine zw_d 35 ((zw_get (f := fun _ => 0) (g := fun _ => 0) rfl (zR0_z (by decide)) rfl).trans rfl) ?_
  refine zw_d 36 ((zw_get (f := fun _ => 0) (g := fun _ => 0) rfl (zR0_z (by decide)) rfl).trans rfl) ?_
  refine zw_d 37 ((zw_get (f := fun _ => 0) (g := fun _ => 0) rfl (zR0_z (by decide)) rfl).trans rfl) ?_
  refine zw_d 38 ((zw_get (f := fun _ => 0) (g := fun _ => 0) rfl (zR0_z (by decide)) rfl).trans rfl) ?_
  exact zw_none rfl rfl
section
variable {p : Program} {l : Launch} {e : Env} {R : Room} {s : State} {m : MethodId} {args : Array Value} {below : List Frame} {meth : Method} {c : Code} {cc : ByteArray} {H0 H : Heap} {locs : List Loc} {cells slots : Nat} {Q : State → Prop} {pc : Nat} {ls : Array Slot} {rest : List Value} {A : Nat → Prop} {D : va_G} {cA : Nat → ClassId} {ws : va_W} {Ex : (Nat → Prop) → State → Heap → Prop}
/-- a static method of the same class is called, in the midst of a constructor -/
theorem zi_callS2 {nL : Nat} {own : String} {y : MethodName} {bytes : ByteArray} {maxL rfc rlc mc ms n index : Nat} {ret : Option FieldType} {As : List Value} {Wp : Option Value → va_W → Prop} (h : ∀ w ∈ wsS own index y [Cond.code y bytes maxL ret], w ∈ zzG0)
    (hd : y.cls = own ∧ y.cls ≠ "java/lang/invoke/MethodHandle" ∧ y.cls ≠ "java/lang/invoke/VarHandle" ∧ (parseMethodDescriptor y.desc).map (fun d => d.parameters.length) = some n) (hC : zi_C l D cA Ex y bytes maxL ret rfc rlc mc ms As ws Wp)
    (hx : p.tables.exec = Jvm.exec) (hb : c.code = cc) (hml : c.maxLocals = nL) (hown : s.vm.findClass own = some m.cls) (hts : ∀ w ∈ zzG0, w.before args s = true) (hK : va_K D zzCl (zz_tys cA) s) (hX : zi_X s) (hEo : zz_ExOk Ex) (hE : Ex A s s.heap)
    (hlen : As.length = n) (hR : rfc + 1 ≤ R.frames ∧ 8 + (maxL + 11) + rlc ≤ R.locals) (hf : cells + mc ≤ R.cells ∧ slots + ms ≤ R.slots)
    (hsz : ls.size = nL) (h8 : (rest.map fun v => v.category).sum ≤ 8) (hP : va_P D zzCl ws H) (hD : va_D A ws) (hS : va_S A s.heap H locs) (hA : ∀ q, s.heap.size ≤ q → A q) (hdg : decode cc pc = .ok (.invokestatic index, 3))
    (kk : ∀ (v : Option Value) (w : va_W) (H1 : Heap) (locs1 : List Loc), Wp v w → va_P D zzCl w H1 → va_D A w → va_S A s.heap H1 locs1 → W p l e R s m args below meth c H1 locs1 (cells + mc) (slots + ms) Q (F0 m (pc + 3) ls (v.toList ++ rest))) : W p l e R s m args below meth c H locs cells slots Q (F0 m pc ls (As.reverse ++ rest)) := by
  refine zi_after (a := As.toArray) (va_runS (As := As) (rest := rest) ⟨hx, hb, hml, hown, hts⟩ (hC H.size) (cwS n hts (zz_gin fun w hw => ?_) rfl rfl rfl hd hR) ⟨zi_fb hEo, fun U hU hW => zi_pre hEo hK hX hE hP hD hS hA U hU hW⟩ rfl hlen hsz rfl (lv_room h8) hdg hf) hD hS hA kk
  rcases List.mem_append.mp hw with q | q
  · exact h w (List.mem_append_left _ q)
  · rcases List.mem_cons.mp q with q | q
    · rw [q]; exact h _ (List.mem_append_right _ List.mem_cons_self)
    · exact q
end
end

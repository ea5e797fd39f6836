section
theorem lz_1 {T : List lzOp} {pc : Nat} {o : lzOp} (h : T.getD pc lo_none = o) (hT : ∀ pc, lz_Tl (T.getD pc lo_none)) (L : zzLc) (st : List Value) (M : lzMd) : lz_ev T pc L st M = o (lz_ev T) L st M := by
  rw [← h]
  exact lz_ev_eq hT pc L st M
set_option maxRecDepth 100000 in
theorem e_L_dice (sc : List Int32) : (∀ L st M, lz_ev (tL_dice sc) 0 L st M = lo_iload 1 1 (lz_ev (tL_dice sc)) L st M) ∧
  (∀ L st M, lz_ev (tL_dice sc) 1 L st M = lo_aload 0 2 (lz_ev (tL_dice sc)) L st M) ∧
  (∀ L st M, lz_ev (tL_dice sc) 2 L st M = lo_alen (zzSTC ++ [sc]) 3 (lz_ev (tL_dice sc)) L st M) ∧
  (∀ L st M, lz_ev (tL_dice sc) 3 L st M = lo_icmp (fun x y => decide (y ≤ x)) 12 6 (lz_ev (tL_dice sc)) L st M) ∧
  (∀ L st M, lz_ev (tL_dice sc) 6 L st M = lo_aload 0 7 (lz_ev (tL_dice sc)) L st M) ∧
  (∀ L st M, lz_ev (tL_dice sc) 7 L st M = lo_iload 1 8 (lz_ev (tL_dice sc)) L st M) ∧
  (∀ L st M, lz_ev (tL_dice sc) 8 L st M = lo_iald zzSC (zzSTC ++ [sc]) 9 (lz_ev (tL_dice sc)) L st M) ∧
  (∀ L st M, lz_ev (tL_dice sc) 9 L st M = lo_goto 32 (lz_ev (tL_dice sc)) L st M) ∧
  (∀ L st M, lz_ev (tL_dice sc) 12 L st M = lo_pushI (953160567) 14 (lz_ev (tL_dice sc)) L st M) ∧
  (∀ L st M, lz_ev (tL_dice sc) 14 L st M = lo_iload 1 15 (lz_ev (tL_dice sc)) L st M) ∧
  (∀ L st M, lz_ev (tL_dice sc) 15 L st M = lo_pushI 337 18 (lz_ev (tL_dice sc)) L st M) ∧
  (∀ L st M, lz_ev (tL_dice sc) 18 L st M = lo_ii (fun x y => x + y) 19 (lz_ev (tL_dice sc)) L st M) ∧
  (∀ L st M, lz_ev (tL_dice sc) 19 L st M = lo_ii (fun x y => x * y) 20 (lz_ev (tL_dice sc)) L st M) ∧
  (∀ L st M, lz_ev (tL_dice sc) 20 L st M = lo_pushI 729 23 (lz_ev (tL_dice sc)) L st M) ∧
  (∀ L st M, lz_ev (tL_dice sc) 23 L st M = lo_iload 1 24 (lz_ev (tL_dice sc)) L st M) ∧
  (∀ L st M, lz_ev (tL_dice sc) 24 L st M = lo_ii (fun x y => x * y) 25 (lz_ev (tL_dice sc)) L st M) ∧
  (∀ L st M, lz_ev (tL_dice sc) 25 L st M = lo_iload 1 26 (lz_ev (tL_dice sc)) L st M) ∧
  (∀ L st M, lz_ev (tL_dice sc) 26 L st M = lo_ii (fun x y => x * y) 27 (lz_ev (tL_dice sc)) L st M) ∧
  (∀ L st M, lz_ev (tL_dice sc) 27 L st M = lo_ii (fun x y => x + y) 28 (lz_ev (tL_dice sc)) L st M) ∧
  (∀ L st M, lz_ev (tL_dice sc) 28 L st M = lo_pushI 229 31 (lz_ev (tL_dice sc)) L st M) ∧
  (∀ L st M, lz_ev (tL_dice sc) 31 L st M = lo_ii (fun x y => x + y) 32 (lz_ev (tL_dice sc)) L st M) ∧
  (∀ L st M, lz_ev (tL_dice sc) 32 L st M = lo_pushI (2147483647) 34 (lz_ev (tL_dice sc)) L st M) ∧
  (∀ L st M, lz_ev (tL_dice sc) 34 L st M = lo_ii (fun x y => x &&& y) 35 (lz_ev (tL_dice sc)) L st M) ∧
  (∀ L st M, lz_ev (tL_dice sc) 35 L st M = lo_iret 0 false (lz_ev (tL_dice sc)) L st M) :=
  ⟨lz_1 rfl (tl_L_dice sc), lz_1 rfl (tl_L_dice sc), lz_1 rfl (tl_L_dice sc), lz_1 rfl (tl_L_dice sc), lz_1 rfl (tl_L_dice sc), lz_1 rfl (tl_L_dice sc), lz_1 rfl (tl_L_dice sc), lz_1 rfl (tl_L_dice sc), lz_1 rfl (tl_L_dice sc), lz_1 rfl (tl_L_dice sc), lz_1 rfl (tl_L_dice sc), lz_1 rfl (tl_L_dice sc), lz_1 rfl (tl_L_dice sc), lz_1 rfl (tl_L_dice sc), lz_1 rfl (tl_L_dice sc), lz_1 rfl (tl_L_dice sc), lz_1 rfl (tl_L_dice sc), lz_1 rfl (tl_L_dice sc), lz_1 rfl (tl_L_dice sc), lz_1 rfl (tl_L_dice sc), lz_1 rfl (tl_L_dice sc), lz_1 rfl (tl_L_dice sc), lz_1 rfl (tl_L_dice sc), lz_1 rfl (tl_L_dice sc)⟩
theorem s_L_dice (sc : List Int32) (a1 : Int32) (a0 : Nat) {A A' : zzMd} {v : Option Value} {n : Nat} (h : lz_ev (tL_dice sc) 0 [some (.ref a0), some (.int a1)] [] (A, 0) = some (v, (A', n))) : (fL_dice sc) [.ref a0, .int a1] A = some (v, A') := lz_fn_of (T := (tL_dice sc)) (nL := 2) (Nat.le_of_ble_eq_true rfl) h
set_option maxRecDepth 100000 in
theorem e_L_act_p0 : (∀ L st M, lz_ev tL_act 0 L st M = lo_iload 1 1 (lz_ev tL_act) L st M) ∧
  (∀ L st M, lz_ev tL_act 1 L st M = lo_if (fun x => decide (¬ x = 0)) 13 4 (lz_ev tL_act) L st M) ∧
  (∀ L st M, lz_ev tL_act 4 L st M = lo_aload 0 5 (lz_ev tL_act) L st M) ∧
  (∀ L st M, lz_ev tL_act 5 L st M = lo_iload 2 6 (lz_ev tL_act) L st M) ∧
  (∀ L st M, lz_ev tL_act 6 L st M = lo_iload 3 7 (lz_ev tL_act) L st M) ∧
  (∀ (L : zzLc) (a0 a1 : Int32) (r : List Value) (A : zzMd) (n : Nat), lz_ev tL_act 7 L (.int a1 :: .int a0 :: .ref 0 :: r) (A, n) = bif zz_cat8 r && decide (n ≤ 1) then lz_bh (lz_ev tL_act) 10 L r n 1 hcA (lz_g fX11_make [.ref 0, .int a0, .int a1] A) else none) ∧
  (∀ L st M, lz_ev tL_act 10 L st M = lo_goto 335 (lz_ev tL_act) L st M) ∧
  (∀ L st M, lz_ev tL_act 13 L st M = lo_iload 1 14 (lz_ev tL_act) L st M) ∧
  (∀ L st M, lz_ev tL_act 14 L st M = lo_pushI 1 15 (lz_ev tL_act) L st M) ∧
  (∀ L st M, lz_ev tL_act 15 L st M = lo_icmp (fun x y => decide (¬ x = y)) 44 18 (lz_ev tL_act) L st M) ∧
  (∀ L st M, lz_ev tL_act 18 L st M = lo_aload 0 19 (lz_ev tL_act) L st M) ∧
  (∀ L st M, lz_ev tL_act 19 L st M = lo_iload 2 20 (lz_ev tL_act) L st M) ∧
  (∀ L st M, lz_ev tL_act 20 L st M = lo_iload 3 21 (lz_ev tL_act) L st M) ∧
  (∀ L st M, lz_ev tL_act 21 L st M = lo_iload 4 23 (lz_ev tL_act) L st M) ∧
  (∀ L st M, lz_ev tL_act 23 L st M = lo_iload 5 25 (lz_ev tL_act) L st M) ∧
  (∀ L st M, lz_ev tL_act 25 L st M = lo_iload 6 27 (lz_ev tL_act) L st M) ∧
  (∀ L st M, lz_ev tL_act 27 L st M = lo_iload 7 29 (lz_ev tL_act) L st M) ∧
  (∀ L st M, lz_ev tL_act 29 L st M = lo_pushI 1 30 (lz_ev tL_act) L st M) ∧
  (∀ L st M, lz_ev tL_act 30 L st M = lo_icmp (fun x y => decide (¬ x = y)) 37 33 (lz_ev tL_act) L st M) ∧
  (∀ L st M, lz_ev tL_act 33 L st M = lo_pushI 1 34 (lz_ev tL_act) L st M) ∧
  (∀ L st M, lz_ev tL_act 34 L st M = lo_goto 38 (lz_ev tL_act) L st M) ∧
  (∀ L st M, lz_ev tL_act 37 L st M = lo_pushI 0 38 (lz_ev tL_act) L st M) ∧
  (∀ (L : zzLc) (a0 a1 a2 a3 a4 a5 : Int32) (r : List Value) (A : zzMd) (n : Nat), lz_ev tL_act 38 L (.int a5 :: .int a4 :: .int a3 :: .int a2 :: .int a1 :: .int a0 :: .ref 0 :: r) (A, n) = bif zz_cat8 r && decide (n ≤ 1) then lz_bh (lz_ev tL_act) 41 L r n 1 hcA (lz_g fX11_apply [.ref 0, .int a0, .int a1, .int a2, .int a3, .int a4, .int a5] A) else none) ∧
  (∀ L st M, lz_ev tL_act 41 L st M = lo_goto 335 (lz_ev tL_act) L st M) ∧
  (∀ L st M, lz_ev tL_act 44 L st M = lo_iload 1 45 (lz_ev tL_act) L st M) ∧
  (∀ L st M, lz_ev tL_act 45 L st M = lo_pushI 2 46 (lz_ev tL_act) L st M) ∧
  (∀ L st M, lz_ev tL_act 46 L st M = lo_icmp (fun x y => decide (¬ x = y)) 71 49 (lz_ev tL_act) L st M) ∧
  (∀ L st M, lz_ev tL_act 49 L st M = lo_aload 0 50 (lz_ev tL_act) L st M) ∧
  (∀ L st M, lz_ev tL_act 50 L st M = lo_iload 2 51 (lz_ev tL_act) L st M) ∧
  (∀ L st M, lz_ev tL_act 51 L st M = lo_iload 3 52 (lz_ev tL_act) L st M) ∧
  (∀ L st M, lz_ev tL_act 52 L st M = lo_iload 4 54 (lz_ev tL_act) L st M) ∧
  (∀ L st M, lz_ev tL_act 54 L st M = lo_iload 5 56 (lz_ev tL_act) L st M) ∧
  (∀ L st M, lz_ev tL_act 56 L st M = lo_pushI 1 57 (lz_ev tL_act) L st M) ∧
  (∀ L st M, lz_ev tL_act 57 L st M = lo_icmp (fun x y => decide (¬ x = y)) 64 60 (lz_ev tL_act) L st M) ∧
  (∀ L st M, lz_ev tL_act 60 L st M = lo_pushI 1 61 (lz_ev tL_act) L st M) ∧
  (∀ L st M, lz_ev tL_act 61 L st M = lo_goto 65 (lz_ev tL_act) L st M) ∧
  (∀ L st M, lz_ev tL_act 64 L st M = lo_pushI 0 65 (lz_ev tL_act) L st M) ∧
  (∀ (L : zzLc) (a0 a1 a2 a3 : Int32) (r : List Value) (A : zzMd) (n : Nat), lz_ev tL_act 65 L (.int a3 :: .int a2 :: .int a1 :: .int a0 :: .ref 0 :: r) (A, n) = bif zz_cat8 r && decide (n ≤ 1) then lz_bh (lz_ev tL_act) 68 L r n 1 hcA (lz_g fX11_applyBudget [.ref 0, .int a0, .int a1, .int a2, .int a3] A) else none) ∧
  (∀ L st M, lz_ev tL_act 68 L st M = lo_goto 335 (lz_ev tL_act) L st M) ∧
  (∀ L st M, lz_ev tL_act 71 L st M = lo_iload 1 72 (lz_ev tL_act) L st M) ∧
  (∀ L st M, lz_ev tL_act 72 L st M = lo_pushI 3 73 (lz_ev tL_act) L st M) ∧
  (∀ L st M, lz_ev tL_act 73 L st M = lo_icmp (fun x y => decide (¬ x = y)) 85 76 (lz_ev tL_act) L st M) ∧
  (∀ L st M, lz_ev tL_act 76 L st M = lo_aload 0 77 (lz_ev tL_act) L st M) ∧
  (∀ L st M, lz_ev tL_act 77 L st M = lo_iload 2 78 (lz_ev tL_act) L st M) ∧
  (∀ L st M, lz_ev tL_act 78 L st M = lo_iload 3 79 (lz_ev tL_act) L st M) ∧
  (∀ (L : zzLc) (a0 a1 : Int32) (r : List Value) (A : zzMd) (n : Nat), lz_ev tL_act 79 L (.int a1 :: .int a0 :: .ref 0 :: r) (A, n) = bif zz_cat8 r && decide (n ≤ 1) then lz_bh (lz_ev tL_act) 82 L r n 1 hcA (lz_g fX11_delete [.ref 0, .int a0, .int a1] A) else none) ∧
  (∀ L st M, lz_ev tL_act 82 L st M = lo_goto 335 (lz_ev tL_act) L st M) ∧
  (∀ L st M, lz_ev tL_act 85 L st M = lo_iload 1 86 (lz_ev tL_act) L st M) ∧
  (∀ L st M, lz_ev tL_act 86 L st M = lo_pushI 4 87 (lz_ev tL_act) L st M) ∧
  (∀ L st M, lz_ev tL_act 87 L st M = lo_icmp (fun x y => decide (¬ x = y)) 116 90 (lz_ev tL_act) L st M) ∧
  (∀ L st M, lz_ev tL_act 90 L st M = lo_aload 0 91 (lz_ev tL_act) L st M) ∧
  (∀ L st M, lz_ev tL_act 91 L st M = lo_iload 2 92 (lz_ev tL_act) L st M) ∧
  (∀ L st M, lz_ev tL_act 92 L st M = lo_iload 3 93 (lz_ev tL_act) L st M) ∧
  (∀ L st M, lz_ev tL_act 93 L st M = lo_pushI 1 94 (lz_ev tL_act) L st M) ∧
  (∀ L st M, lz_ev tL_act 94 L st M = lo_icmp (fun x y => decide (¬ x = y)) 101 97 (lz_ev tL_act) L st M) ∧
  (∀ L st M, lz_ev tL_act 97 L st M = lo_pushI 1 98 (lz_ev tL_act) L st M) ∧
  (∀ L st M, lz_ev tL_act 98 L st M = lo_goto 102 (lz_ev tL_act) L st M) ∧
  (∀ L st M, lz_ev tL_act 101 L st M = lo_pushI 0 102 (lz_ev tL_act) L st M) ∧
  (∀ (L : zzLc) (a0 a1 : Int32) (r : List Value) (A : zzMd) (n : Nat), lz_ev tL_act 102 L (.int a1 :: .int a0 :: .ref 0 :: r) (A, n) = bif zz_cat8 r && decide (n ≤ 1) then lz_bh (lz_ev tL_act) 105 L r n 1 hcA (lz_g fX11_hold [.ref 0, .int a0, .int a1] A) else none) ∧
  (∀ L st M, lz_ev tL_act 105 L st M = lo_if (fun x => decide (x = 0)) 112 108 (lz_ev tL_act) L st M) ∧
  (∀ L st M, lz_ev tL_act 108 L st M = lo_pushI 1 109 (lz_ev tL_act) L st M) ∧
  (∀ L st M, lz_ev tL_act 109 L st M = lo_goto 335 (lz_ev tL_act) L st M) ∧
  (∀ L st M, lz_ev tL_act 112 L st M = lo_pushI 0 113 (lz_ev tL_act) L st M) ∧
  (∀ L st M, lz_ev tL_act 113 L st M = lo_goto 335 (lz_ev tL_act) L st M) ∧
  (∀ L st M, lz_ev tL_act 116 L st M = lo_iload 1 117 (lz_ev tL_act) L st M) ∧
  (∀ L st M, lz_ev tL_act 117 L st M = lo_pushI 5 118 (lz_ev tL_act) L st M) ∧
  (∀ L st M, lz_ev tL_act 118 L st M = lo_icmp (fun x y => decide (¬ x = y)) 139 121 (lz_ev tL_act) L st M) ∧
  (∀ L st M, lz_ev tL_act 121 L st M = lo_aload 0 122 (lz_ev tL_act) L st M) ∧
  (∀ L st M, lz_ev tL_act 122 L st M = lo_iload 2 123 (lz_ev tL_act) L st M) ∧
  (∀ L st M, lz_ev tL_act 123 L st M = lo_iload 3 124 (lz_ev tL_act) L st M) ∧
  (∀ L st M, lz_ev tL_act 124 L st M = lo_pushI 1 125 (lz_ev tL_act) L st M) ∧
  (∀ L st M, lz_ev tL_act 125 L st M = lo_icmp (fun x y => decide (¬ x = y)) 132 128 (lz_ev tL_act) L st M) ∧
  (∀ L st M, lz_ev tL_act 128 L st M = lo_pushI 1 129 (lz_ev tL_act) L st M) ∧
  (∀ L st M, lz_ev tL_act 129 L st M = lo_goto 133 (lz_ev tL_act) L st M) ∧
  (∀ L st M, lz_ev tL_act 132 L st M = lo_pushI 0 133 (lz_ev tL_act) L st M) ∧
  (∀ (L : zzLc) (a0 a1 : Int32) (r : List Value) (A : zzMd) (n : Nat), lz_ev tL_act 133 L (.int a1 :: .int a0 :: .ref 0 :: r) (A, n) = bif zz_cat8 r && decide (n ≤ 1) then lz_bh (lz_ev tL_act) 136 L r n 1 hcA (lz_g fX11_finish [.ref 0, .int a0, .int a1] A) else none) ∧
  (∀ L st M, lz_ev tL_act 136 L st M = lo_goto 335 (lz_ev tL_act) L st M) ∧
  (∀ L st M, lz_ev tL_act 139 L st M = lo_iload 1 140 (lz_ev tL_act) L st M) ∧
  (∀ L st M, lz_ev tL_act 140 L st M = lo_pushI 6 142 (lz_ev tL_act) L st M) ∧
  (∀ L st M, lz_ev tL_act 142 L st M = lo_icmp (fun x y => decide (¬ x = y)) 162 145 (lz_ev tL_act) L st M) ∧
  (∀ L st M, lz_ev tL_act 145 L st M = lo_aload 0 146 (lz_ev tL_act) L st M) ∧
  (∀ L st M, lz_ev tL_act 146 L st M = lo_iload 2 147 (lz_ev tL_act) L st M) ∧
  (∀ L st M, lz_ev tL_act 147 L st M = lo_iload 3 148 (lz_ev tL_act) L st M) ∧
  (∀ L st M, lz_ev tL_act 148 L st M = lo_iload 4 150 (lz_ev tL_act) L st M) ∧
  (∀ L st M, lz_ev tL_act 150 L st M = lo_iload 5 152 (lz_ev tL_act) L st M) ∧
  (∀ L st M, lz_ev tL_act 152 L st M = lo_iload 6 154 (lz_ev tL_act) L st M) ∧
  (∀ L st M, lz_ev tL_act 154 L st M = lo_iload 7 156 (lz_ev tL_act) L st M) ∧
  (∀ (L : zzLc) (a0 a1 a2 a3 a4 a5 : Int32) (r : List Value) (A : zzMd) (n : Nat), lz_ev tL_act 156 L (.int a5 :: .int a4 :: .int a3 :: .int a2 :: .int a1 :: .int a0 :: .ref 0 :: r) (A, n) = bif zz_cat8 r && decide (n ≤ 1) then lz_bh (lz_ev tL_act) 159 L r n 1 hcA (lz_g fX11_rule [.ref 0, .int a0, .int a1, .int a2, .int a3, .int a4, .int a5] A) else none) ∧
  (∀ L st M, lz_ev tL_act 159 L st M = lo_goto 335 (lz_ev tL_act) L st M) ∧
  (∀ L st M, lz_ev tL_act 162 L st M = lo_iload 1 163 (lz_ev tL_act) L st M) ∧
  (∀ L st M, lz_ev tL_act 163 L st M = lo_pushI 7 165 (lz_ev tL_act) L st M) ∧
  (∀ L st M, lz_ev tL_act 165 L st M = lo_icmp (fun x y => decide (¬ x = y)) 179 168 (lz_ev tL_act) L st M) ∧
  (∀ L st M, lz_ev tL_act 168 L st M = lo_aload 0 169 (lz_ev tL_act) L st M) ∧
  (∀ L st M, lz_ev tL_act 169 L st M = lo_iload 2 170 (lz_ev tL_act) L st M) ∧
  (∀ L st M, lz_ev tL_act 170 L st M = lo_iload 3 171 (lz_ev tL_act) L st M) ∧
  (∀ L st M, lz_ev tL_act 171 L st M = lo_iload 4 173 (lz_ev tL_act) L st M) ∧
  (∀ (L : zzLc) (a0 a1 a2 : Int32) (r : List Value) (A : zzMd) (n : Nat), lz_ev tL_act 173 L (.int a2 :: .int a1 :: .int a0 :: .ref 0 :: r) (A, n) = bif zz_cat8 r && decide (n ≤ 1) then lz_bh (lz_ev tL_act) 176 L r n 1 hcA (lz_g fX11_check [.ref 0, .int a0, .int a1, .int a2] A) else none) ∧
  (∀ L st M, lz_ev tL_act 176 L st M = lo_goto 335 (lz_ev tL_act) L st M) ∧
  (∀ L st M, lz_ev tL_act 179 L st M = lo_iload 1 180 (lz_ev tL_act) L st M) ∧
  (∀ L st M, lz_ev tL_act 180 L st M = lo_pushI 8 182 (lz_ev tL_act) L st M) ∧
  (∀ L st M, lz_ev tL_act 182 L st M = lo_icmp (fun x y => decide (¬ x = y)) 193 185 (lz_ev tL_act) L st M) ∧
  (∀ L st M, lz_ev tL_act 185 L st M = lo_aload 0 186 (lz_ev tL_act) L st M) ∧
  (∀ L st M, lz_ev tL_act 186 L st M = lo_iload 2 187 (lz_ev tL_act) L st M) ∧
  (∀ (L : zzLc) (a0 : Int32) (r : List Value) (A : zzMd) (n : Nat), lz_ev tL_act 187 L (.int a0 :: .ref 0 :: r) (A, n) = bif zz_cat8 r && decide (n ≤ 1) then lz_bh (lz_ev tL_act) 190 L r n 1 hcA (lz_g fX11_quota [.ref 0, .int a0] A) else none) ∧
  (∀ L st M, lz_ev tL_act 190 L st M = lo_goto 335 (lz_ev tL_act) L st M) ∧
  (∀ L st M, lz_ev tL_act 193 L st M = lo_iload 1 194 (lz_ev tL_act) L st M) ∧
  (∀ L st M, lz_ev tL_act 194 L st M = lo_pushI 9 196 (lz_ev tL_act) L st M) ∧
  (∀ L st M, lz_ev tL_act 196 L st M = lo_icmp (fun x y => decide (¬ x = y)) 208 199 (lz_ev tL_act) L st M) ∧
  (∀ L st M, lz_ev tL_act 199 L st M = lo_aload 0 200 (lz_ev tL_act) L st M) ∧
  (∀ L st M, lz_ev tL_act 200 L st M = lo_iload 2 201 (lz_ev tL_act) L st M) ∧
  (∀ L st M, lz_ev tL_act 201 L st M = lo_iload 3 202 (lz_ev tL_act) L st M) ∧
  (∀ (L : zzLc) (a0 a1 : Int32) (r : List Value) (A : zzMd) (n : Nat), lz_ev tL_act 202 L (.int a1 :: .int a0 :: .ref 0 :: r) (A, n) = bif zz_cat8 r && decide (n ≤ 1) then lz_bh (lz_ev tL_act) 205 L r n 1 hcA (lz_g fX11_see [.ref 0, .int a0, .int a1] A) else none) ∧
  (∀ L st M, lz_ev tL_act 205 L st M = lo_goto 335 (lz_ev tL_act) L st M) ∧
  (∀ L st M, lz_ev tL_act 208 L st M = lo_iload 1 209 (lz_ev tL_act) L st M) ∧
  (∀ L st M, lz_ev tL_act 209 L st M = lo_pushI 10 211 (lz_ev tL_act) L st M) ∧
  (∀ L st M, lz_ev tL_act 211 L st M = lo_icmp (fun x y => decide (¬ x = y)) 222 214 (lz_ev tL_act) L st M) ∧
  (∀ L st M, lz_ev tL_act 214 L st M = lo_aload 0 215 (lz_ev tL_act) L st M) ∧
  (∀ L st M, lz_ev tL_act 215 L st M = lo_iload 2 216 (lz_ev tL_act) L st M) ∧
  (∀ (L : zzLc) (a0 : Int32) (r : List Value) (A : zzMd) (n : Nat), lz_ev tL_act 216 L (.int a0 :: .ref 0 :: r) (A, n) = bif zz_cat8 r && decide (n ≤ 1) then lz_bh (lz_ev tL_act) 219 L r n 1 hcA (lz_g fX11_work [.ref 0, .int a0] A) else none) ∧
  (∀ L st M, lz_ev tL_act 219 L st M = lo_goto 335 (lz_ev tL_act) L st M) ∧
  (∀ L st M, lz_ev tL_act 222 L st M = lo_iload 1 223 (lz_ev tL_act) L st M) ∧
  (∀ L st M, lz_ev tL_act 223 L st M = lo_pushI 11 225 (lz_ev tL_act) L st M) ∧
  (∀ L st M, lz_ev tL_act 225 L st M = lo_icmp (fun x y => decide (¬ x = y)) 236 228 (lz_ev tL_act) L st M) ∧
  (∀ L st M, lz_ev tL_act 228 L st M = lo_aload 0 229 (lz_ev tL_act) L st M) ∧
  (∀ L st M, lz_ev tL_act 229 L st M = lo_iload 2 230 (lz_ev tL_act) L st M) ∧
  (∀ (L : zzLc) (a0 : Int32) (r : List Value) (A : zzMd) (n : Nat), lz_ev tL_act 230 L (.int a0 :: .ref 0 :: r) (A, n) = bif zz_cat8 r && decide (n ≤ 1) then lz_bh (lz_ev tL_act) 233 L r n 1 hcA (lz_g fX11_turn [.ref 0, .int a0] A) else none) ∧
  (∀ L st M, lz_ev tL_act 233 L st M = lo_goto 335 (lz_ev tL_act) L st M) ∧
  (∀ L st M, lz_ev tL_act 236 L st M = lo_iload 1 237 (lz_ev tL_act) L st M) ∧
  (∀ L st M, lz_ev tL_act 237 L st M = lo_pushI 12 239 (lz_ev tL_act) L st M) ∧
  (∀ L st M, lz_ev tL_act 239 L st M = lo_icmp (fun x y => decide (¬ x = y)) 251 242 (lz_ev tL_act) L st M) ∧
  (∀ L st M, lz_ev tL_act 242 L st M = lo_aload 0 243 (lz_ev tL_act) L st M) ∧
  (∀ L st M, lz_ev tL_act 243 L st M = lo_iload 2 244 (lz_ev tL_act) L st M) ∧
  (∀ L st M, lz_ev tL_act 244 L st M = lo_iload 3 245 (lz_ev tL_act) L st M) ∧
  (∀ (L : zzLc) (a0 a1 : Int32) (r : List Value) (A : zzMd) (n : Nat), lz_ev tL_act 245 L (.int a1 :: .int a0 :: .ref 0 :: r) (A, n) = bif zz_cat8 r && decide (n ≤ 1) then lz_bh (lz_ev tL_act) 248 L r n 1 hcA (lz_g fX11_watch [.ref 0, .int a0, .int a1] A) else none) ∧
  (∀ L st M, lz_ev tL_act 248 L st M = lo_goto 335 (lz_ev tL_act) L st M) ∧
  (∀ L st M, lz_ev tL_act 251 L st M = lo_iload 1 252 (lz_ev tL_act) L st M) ∧
  (∀ L st M, lz_ev tL_act 252 L st M = lo_pushI 13 254 (lz_ev tL_act) L st M) ∧
  (∀ L st M, lz_ev tL_act 254 L st M = lo_icmp (fun x y => decide (¬ x = y)) 265 257 (lz_ev tL_act) L st M) ∧
  (∀ L st M, lz_ev tL_act 257 L st M = lo_aload 0 258 (lz_ev tL_act) L st M) ∧
  (∀ L st M, lz_ev tL_act 258 L st M = lo_iload 2 259 (lz_ev tL_act) L st M) ∧
  (∀ (L : zzLc) (a0 : Int32) (r : List Value) (A : zzMd) (n : Nat), lz_ev tL_act 259 L (.int a0 :: .ref 0 :: r) (A, n) = bif zz_cat8 r && decide (n ≤ 1) then lz_bh (lz_ev tL_act) 262 L r n 1 hcA (lz_g fX11_next [.ref 0, .int a0] A) else none) ∧
  (∀ L st M, lz_ev tL_act 262 L st M = lo_goto 335 (lz_ev tL_act) L st M) ∧
  (∀ L st M, lz_ev tL_act 265 L st M = lo_iload 1 266 (lz_ev tL_act) L st M) ∧
  (∀ L st M, lz_ev tL_act 266 L st M = lo_pushI 14 268 (lz_ev tL_act) L st M) ∧
  (∀ L st M, lz_ev tL_act 268 L st M = lo_icmp (fun x y => decide (¬ x = y)) 279 271 (lz_ev tL_act) L st M) ∧
  (∀ L st M, lz_ev tL_act 271 L st M = lo_aload 0 272 (lz_ev tL_act) L st M) ∧
  (∀ L st M, lz_ev tL_act 272 L st M = lo_iload 2 273 (lz_ev tL_act) L st M) ∧
  (∀ (L : zzLc) (a0 : Int32) (r : List Value) (A : zzMd) (n : Nat), lz_ev tL_act 273 L (.int a0 :: .ref 0 :: r) (A, n) = bif zz_cat8 r && decide (n ≤ 1) then lz_bh (lz_ev tL_act) 276 L r n 1 hcA (lz_g fX11_compact [.ref 0, .int a0] A) else none) ∧
  (∀ L st M, lz_ev tL_act 276 L st M = lo_goto 335 (lz_ev tL_act) L st M) ∧
  (∀ L st M, lz_ev tL_act 279 L st M = lo_iload 1 280 (lz_ev tL_act) L st M) :=
  ⟨lz_1 rfl tl_L_act, lz_1 rfl tl_L_act, lz_1 rfl tl_L_act, lz_1 rfl tl_L_act, lz_1 rfl tl_L_act, fun L a0 a1 r A n => (lz_1 rfl tl_L_act _ _ _).trans rfl, lz_1 rfl tl_L_act, lz_1 rfl tl_L_act, lz_1 rfl tl_L_act, lz_1 rfl tl_L_act, lz_1 rfl tl_L_act, lz_1 rfl tl_L_act, lz_1 rfl tl_L_act, lz_1 rfl tl_L_act, lz_1 rfl tl_L_act, lz_1 rfl tl_L_act, lz_1 rfl tl_L_act, lz_1 rfl tl_L_act, lz_1 rfl tl_L_act, lz_1 rfl tl_L_act, lz_1 rfl tl_L_act, lz_1 rfl tl_L_act, fun L a0 a1 a2 a3 a4 a5 r A n => (lz_1 rfl tl_L_act _ _ _).trans rfl, lz_1 rfl tl_L_act, lz_1 rfl tl_L_act, lz_1 rfl tl_L_act, lz_1 rfl tl_L_act, lz_1 rfl tl_L_act, lz_1 rfl tl_L_act, lz_1 rfl tl_L_act, lz_1 rfl tl_L_act, lz_1 rfl tl_L_act, lz_1 rfl tl_L_act, lz_1 rfl tl_L_act, lz_1 rfl tl_L_act, lz_1 rfl tl_L_act, lz_1 rfl tl_L_act, fun L a0 a1 a2 a3 r A n => (lz_1 rfl tl_L_act _ _ _).trans rfl, lz_1 rfl tl_L_act, lz_1 rfl tl_L_act, lz_1 rfl tl_L_act, lz_1 rfl tl_L_act, lz_1 rfl tl_L_act, lz_1 rfl tl_L_act, lz_1 rfl tl_L_act, fun L a0 a1 r A n => (lz_1 rfl tl_L_act _ _ _).trans rfl, lz_1 rfl tl_L_act, lz_1 rfl tl_L_act, lz_1 rfl tl_L_act, lz_1 rfl tl_L_act, lz_1 rfl tl_L_act, lz_1 rfl tl_L_act, lz_1 rfl tl_L_act, lz_1 rfl tl_L_act, lz_1 rfl tl_L_act, lz_1 rfl tl_L_act, lz_1 rfl tl_L_act, lz_1 rfl tl_L_act, fun L a0 a1 r A n => (lz_1 rfl tl_L_act _ _ _).trans rfl, lz_1 rfl tl_L_act, lz_1 rfl tl_L_act, lz_1 rfl tl_L_act, lz_1 rfl tl_L_act, lz_1 rfl tl_L_act, lz_1 rfl tl_L_act, lz_1 rfl tl_L_act, lz_1 rfl tl_L_act, lz_1 rfl tl_L_act, lz_1 rfl tl_L_act, lz_1 rfl tl_L_act, lz_1 rfl tl_L_act, lz_1 rfl tl_L_act, lz_1 rfl tl_L_act, lz_1 rfl tl_L_act, lz_1 rfl tl_L_act, fun L a0 a1 r A n => (lz_1 rfl tl_L_act _ _ _).trans rfl, lz_1 rfl tl_L_act, lz_1 rfl tl_L_act, lz_1 rfl tl_L_act, lz_1 rfl tl_L_act, lz_1 rfl tl_L_act, lz_1 rfl tl_L_act, lz_1 rfl tl_L_act, lz_1 rfl tl_L_act, lz_1 rfl tl_L_act, lz_1 rfl tl_L_act, lz_1 rfl tl_L_act, fun L a0 a1 a2 a3 a4 a5 r A n => (lz_1 rfl tl_L_act _ _ _).trans rfl, lz_1 rfl tl_L_act, lz_1 rfl tl_L_act, lz_1 rfl tl_L_act, lz_1 rfl tl_L_act, lz_1 rfl tl_L_act, lz_1 rfl tl_L_act, lz_1 rfl tl_L_act, lz_1 rfl tl_L_act, fun L a0 a1 a2 r A n => (lz_1 rfl tl_L_act _ _ _).trans rfl, lz_1 rfl tl_L_act, lz_1 rfl tl_L_act, lz_1 rfl tl_L_act, lz_1 rfl tl_L_act, lz_1 rfl tl_L_act, lz_1 rfl tl_L_act, fun L a0 r A n => (lz_1 rfl tl_L_act _ _ _).trans rfl, lz_1 rfl tl_L_act, lz_1 rfl tl_L_act, lz_1 rfl tl_L_act, lz_1 rfl tl_L_act, lz_1 rfl tl_L_act, lz_1 rfl tl_L_act, lz_1 rfl tl_L_act, fun L a0 a1 r A n => (lz_1 rfl tl_L_act _ _ _).trans rfl, lz_1 rfl tl_L_act, lz_1 rfl tl_L_act, lz_1 rfl tl_L_act, lz_1 rfl tl_L_act, lz_1 rfl tl_L_act, lz_1 rfl tl_L_act, fun L a0 r A n => (lz_1 rfl tl_L_act _ _ _).trans rfl, lz_1 rfl tl_L_act, lz_1 rfl tl_L_act, lz_1 rfl tl_L_act, lz_1 rfl tl_L_act, lz_1 rfl tl_L_act, lz_1 rfl tl_L_act, fun L a0 r A n => (lz_1 rfl tl_L_act _ _ _).trans rfl, lz_1 rfl tl_L_act, lz_1 rfl tl_L_act, lz_1 rfl tl_L_act, lz_1 rfl tl_L_act, lz_1 rfl tl_L_act, lz_1 rfl tl_L_act, lz_1 rfl tl_L_act, fun L a0 a1 r A n => (lz_1 rfl tl_L_act _ _ _).trans rfl, lz_1 rfl tl_L_act, lz_1 rfl tl_L_act, lz_1 rfl tl_L_act, lz_1 rfl tl_L_act, lz_1 rfl tl_L_act, lz_1 rfl tl_L_act, fun L a0 r A n => (lz_1 rfl tl_L_act _ _ _).trans rfl, lz_1 rfl tl_L_act, lz_1 rfl tl_L_act, lz_1 rfl tl_L_act, lz_1 rfl tl_L_act, lz_1 rfl tl_L_act, lz_1 rfl tl_L_act, fun L a0 r A n => (lz_1 rfl tl_L_act _ _ _).trans rfl, lz_1 rfl tl_L_act, lz_1 rfl tl_L_act⟩
set_option maxRecDepth 100000 in
theorem e_L_act_p1 : (∀ L st M, lz_ev tL_act 280 L st M = lo_pushI 15 282 (lz_ev tL_act) L st M) ∧
  (∀ L st M, lz_ev tL_act 282 L st M = lo_icmp (fun x y => decide (¬ x = y)) 293 285 (lz_ev tL_act) L st M) ∧
  (∀ L st M, lz_ev tL_act 285 L st M = lo_aload 0 286 (lz_ev tL_act) L st M) ∧
  (∀ L st M, lz_ev tL_act 286 L st M = lo_iload 2 287 (lz_ev tL_act) L st M) ∧
  (∀ (L : zzLc) (a0 : Int32) (r : List Value) (A : zzMd) (n : Nat), lz_ev tL_act 287 L (.int a0 :: .ref 0 :: r) (A, n) = bif zz_cat8 r && decide (n ≤ 1) then lz_bh (lz_ev tL_act) 290 L r n 1 hcA (lz_g fX11_tick [.ref 0, .int a0] A) else none) ∧
  (∀ L st M, lz_ev tL_act 290 L st M = lo_goto 335 (lz_ev tL_act) L st M) ∧
  (∀ L st M, lz_ev tL_act 293 L st M = lo_iload 1 294 (lz_ev tL_act) L st M) ∧
  (∀ L st M, lz_ev tL_act 294 L st M = lo_pushI 16 296 (lz_ev tL_act) L st M) ∧
  (∀ L st M, lz_ev tL_act 296 L st M = lo_icmp (fun x y => decide (¬ x = y)) 315 299 (lz_ev tL_act) L st M) ∧
  (∀ L st M, lz_ev tL_act 299 L st M = lo_aload 0 300 (lz_ev tL_act) L st M) ∧
  (∀ L st M, lz_ev tL_act 300 L st M = lo_iload 2 301 (lz_ev tL_act) L st M) ∧
  (∀ (L : zzLc) (a0 : Int32) (r : List Value) (A : zzMd) (n : Nat), lz_ev tL_act 301 L (.int a0 :: .ref 0 :: r) (A, n) = bif zz_cat8 r && decide (n ≤ 1) then lz_bh (lz_ev tL_act) 304 L r n 1 hcA (lz_g fX11_beat [.ref 0, .int a0] A) else none) ∧
  (∀ L st M, lz_ev tL_act 304 L st M = lo_if (fun x => decide (x = 0)) 311 307 (lz_ev tL_act) L st M) ∧
  (∀ L st M, lz_ev tL_act 307 L st M = lo_pushI 1 308 (lz_ev tL_act) L st M) ∧
  (∀ L st M, lz_ev tL_act 308 L st M = lo_goto 335 (lz_ev tL_act) L st M) ∧
  (∀ L st M, lz_ev tL_act 311 L st M = lo_pushI 0 312 (lz_ev tL_act) L st M) ∧
  (∀ L st M, lz_ev tL_act 312 L st M = lo_goto 335 (lz_ev tL_act) L st M) ∧
  (∀ L st M, lz_ev tL_act 315 L st M = lo_iload 1 316 (lz_ev tL_act) L st M) ∧
  (∀ L st M, lz_ev tL_act 316 L st M = lo_pushI 17 318 (lz_ev tL_act) L st M) ∧
  (∀ L st M, lz_ev tL_act 318 L st M = lo_icmp (fun x y => decide (¬ x = y)) 330 321 (lz_ev tL_act) L st M) ∧
  (∀ L st M, lz_ev tL_act 321 L st M = lo_aload 0 322 (lz_ev tL_act) L st M) ∧
  (∀ L st M, lz_ev tL_act 322 L st M = lo_iload 2 323 (lz_ev tL_act) L st M) ∧
  (∀ L st M, lz_ev tL_act 323 L st M = lo_iload 3 324 (lz_ev tL_act) L st M) ∧
  (∀ (L : zzLc) (a0 a1 : Int32) (r : List Value) (A : zzMd) (n : Nat), lz_ev tL_act 324 L (.int a1 :: .int a0 :: .ref 0 :: r) (A, n) = bif zz_cat8 r && decide (n ≤ 1) then lz_bh (lz_ev tL_act) 327 L r n 1 hcA (lz_g fX11_wish [.ref 0, .int a0, .int a1] A) else none) ∧
  (∀ L st M, lz_ev tL_act 327 L st M = lo_goto 335 (lz_ev tL_act) L st M) ∧
  (∀ L st M, lz_ev tL_act 330 L st M = lo_aload 0 331 (lz_ev tL_act) L st M) ∧
  (∀ L st M, lz_ev tL_act 331 L st M = lo_iload 2 332 (lz_ev tL_act) L st M) ∧
  (∀ (L : zzLc) (a0 : Int32) (r : List Value) (A : zzMd) (n : Nat), lz_ev tL_act 332 L (.int a0 :: .ref 0 :: r) (A, n) = bif zz_cat8 r && decide (n ≤ 1) then lz_bh (lz_ev tL_act) 335 L r n 1 hcA (lz_g fX11_list [.ref 0, .int a0] A) else none) ∧
  (∀ L st M, lz_ev tL_act 335 L st M = lo_iret 1 false (lz_ev tL_act) L st M) :=
  ⟨lz_1 rfl tl_L_act, lz_1 rfl tl_L_act, lz_1 rfl tl_L_act, lz_1 rfl tl_L_act, fun L a0 r A n => (lz_1 rfl tl_L_act _ _ _).trans rfl, lz_1 rfl tl_L_act, lz_1 rfl tl_L_act, lz_1 rfl tl_L_act, lz_1 rfl tl_L_act, lz_1 rfl tl_L_act, lz_1 rfl tl_L_act, fun L a0 r A n => (lz_1 rfl tl_L_act _ _ _).trans rfl, lz_1 rfl tl_L_act, lz_1 rfl tl_L_act, lz_1 rfl tl_L_act, lz_1 rfl tl_L_act, lz_1 rfl tl_L_act, lz_1 rfl tl_L_act, lz_1 rfl tl_L_act, lz_1 rfl tl_L_act, lz_1 rfl tl_L_act, lz_1 rfl tl_L_act, lz_1 rfl tl_L_act, fun L a0 a1 r A n => (lz_1 rfl tl_L_act _ _ _).trans rfl, lz_1 rfl tl_L_act, lz_1 rfl tl_L_act, lz_1 rfl tl_L_act, fun L a0 r A n => (lz_1 rfl tl_L_act _ _ _).trans rfl, lz_1 rfl tl_L_act⟩
theorem s_L_act (a1 a2 a3 a4 a5 a6 a7 : Int32) (a0 : Nat) {A A' : zzMd} {v : Option Value} {n : Nat} (h : lz_ev tL_act 0 [some (.ref a0), some (.int a1), some (.int a2), some (.int a3), some (.int a4), some (.int a5), some (.int a6), some (.int a7), none] [] (A, 0) = some (v, (A', n))) : fL_act [.ref a0, .int a1, .int a2, .int a3, .int a4, .int a5, .int a6, .int a7] A = some (v, A') := lz_fn_of (T := tL_act) (nL := 9) (Nat.le_of_ble_eq_true rfl) h
set_option maxRecDepth 100000 in
theorem e_L_of : (∀ L st M, lz_ev tL_of 0 L st M = lo_iload 1 1 (lz_ev tL_of) L st M) ∧
  (∀ L st M, lz_ev tL_of 1 L st M = lo_if (fun x => decide (¬ x = 0)) 12 4 (lz_ev tL_of) L st M) ∧
  (∀ L st M, lz_ev tL_of 4 L st M = lo_aload 0 5 (lz_ev tL_of) L st M) ∧
  (∀ L st M, lz_ev tL_of 5 L st M = lo_iload 2 6 (lz_ev tL_of) L st M) ∧
  (∀ (L : zzLc) (a0 : Int32) (r : List Value) (A : zzMd) (n : Nat), lz_ev tL_of 6 L (.int a0 :: .ref 0 :: r) (A, n) = bif zz_cat8 r && decide (n ≤ 1) then lz_bh (lz_ev tL_of) 9 L r n 1 hcO (lz_g fX11_kindOf [.ref 0, .int a0] A) else none) ∧
  (∀ L st M, lz_ev tL_of 9 L st M = lo_goto 256 (lz_ev tL_of) L st M) ∧
  (∀ L st M, lz_ev tL_of 12 L st M = lo_iload 1 13 (lz_ev tL_of) L st M) ∧
  (∀ L st M, lz_ev tL_of 13 L st M = lo_pushI 1 14 (lz_ev tL_of) L st M) ∧
  (∀ L st M, lz_ev tL_of 14 L st M = lo_icmp (fun x y => decide (¬ x = y)) 26 17 (lz_ev tL_of) L st M) ∧
  (∀ L st M, lz_ev tL_of 17 L st M = lo_aload 0 18 (lz_ev tL_of) L st M) ∧
  (∀ L st M, lz_ev tL_of 18 L st M = lo_iload 2 19 (lz_ev tL_of) L st M) ∧
  (∀ L st M, lz_ev tL_of 19 L st M = lo_iload 3 20 (lz_ev tL_of) L st M) ∧
  (∀ (L : zzLc) (a0 a1 : Int32) (r : List Value) (A : zzMd) (n : Nat), lz_ev tL_of 20 L (.int a1 :: .int a0 :: .ref 0 :: r) (A, n) = bif zz_cat8 r && decide (n ≤ 1) then lz_bh (lz_ev tL_of) 23 L r n 1 hcO (lz_g fX11_field [.ref 0, .int a0, .int a1] A) else none) ∧
  (∀ L st M, lz_ev tL_of 23 L st M = lo_goto 256 (lz_ev tL_of) L st M) ∧
  (∀ L st M, lz_ev tL_of 26 L st M = lo_iload 1 27 (lz_ev tL_of) L st M) ∧
  (∀ L st M, lz_ev tL_of 27 L st M = lo_pushI 2 28 (lz_ev tL_of) L st M) ∧
  (∀ L st M, lz_ev tL_of 28 L st M = lo_icmp (fun x y => decide (¬ x = y)) 40 31 (lz_ev tL_of) L st M) ∧
  (∀ L st M, lz_ev tL_of 31 L st M = lo_aload 0 32 (lz_ev tL_of) L st M) ∧
  (∀ L st M, lz_ev tL_of 32 L st M = lo_iload 2 33 (lz_ev tL_of) L st M) ∧
  (∀ L st M, lz_ev tL_of 33 L st M = lo_iload 3 34 (lz_ev tL_of) L st M) ∧
  (∀ (L : zzLc) (a0 a1 : Int32) (r : List Value) (A : zzMd) (n : Nat), lz_ev tL_of 34 L (.int a1 :: .int a0 :: .ref 0 :: r) (A, n) = bif zz_cat8 r && decide (n ≤ 1) then lz_bh (lz_ev tL_of) 37 L r n 1 hcO (lz_g fX11_managerOf [.ref 0, .int a0, .int a1] A) else none) ∧
  (∀ L st M, lz_ev tL_of 37 L st M = lo_goto 256 (lz_ev tL_of) L st M) ∧
  (∀ L st M, lz_ev tL_of 40 L st M = lo_iload 1 41 (lz_ev tL_of) L st M) ∧
  (∀ L st M, lz_ev tL_of 41 L st M = lo_pushI 3 42 (lz_ev tL_of) L st M) ∧
  (∀ L st M, lz_ev tL_of 42 L st M = lo_icmp (fun x y => decide (¬ x = y)) 53 45 (lz_ev tL_of) L st M) ∧
  (∀ L st M, lz_ev tL_of 45 L st M = lo_aload 0 46 (lz_ev tL_of) L st M) ∧
  (∀ L st M, lz_ev tL_of 46 L st M = lo_iload 2 47 (lz_ev tL_of) L st M) ∧
  (∀ (L : zzLc) (a0 : Int32) (r : List Value) (A : zzMd) (n : Nat), lz_ev tL_of 47 L (.int a0 :: .ref 0 :: r) (A, n) = bif zz_cat8 r && decide (n ≤ 1) then lz_bh (lz_ev tL_of) 50 L r n 1 hcO (lz_g fX11_budget [.ref 0, .int a0] A) else none) ∧
  (∀ L st M, lz_ev tL_of 50 L st M = lo_goto 256 (lz_ev tL_of) L st M) ∧
  (∀ L st M, lz_ev tL_of 53 L st M = lo_iload 1 54 (lz_ev tL_of) L st M) ∧
  (∀ L st M, lz_ev tL_of 54 L st M = lo_pushI 4 55 (lz_ev tL_of) L st M) ∧
  (∀ L st M, lz_ev tL_of 55 L st M = lo_icmp (fun x y => decide (¬ x = y)) 66 58 (lz_ev tL_of) L st M) ∧
  (∀ L st M, lz_ev tL_of 58 L st M = lo_aload 0 59 (lz_ev tL_of) L st M) ∧
  (∀ L st M, lz_ev tL_of 59 L st M = lo_iload 2 60 (lz_ev tL_of) L st M) ∧
  (∀ (L : zzLc) (a0 : Int32) (r : List Value) (A : zzMd) (n : Nat), lz_ev tL_of 60 L (.int a0 :: .ref 0 :: r) (A, n) = bif zz_cat8 r && decide (n ≤ 1) then lz_bh (lz_ev tL_of) 63 L r n 1 hcO (lz_g fX11_versionOf [.ref 0, .int a0] A) else none) ∧
  (∀ L st M, lz_ev tL_of 63 L st M = lo_goto 256 (lz_ev tL_of) L st M) ∧
  (∀ L st M, lz_ev tL_of 66 L st M = lo_iload 1 67 (lz_ev tL_of) L st M) ∧
  (∀ L st M, lz_ev tL_of 67 L st M = lo_pushI 5 68 (lz_ev tL_of) L st M) ∧
  (∀ L st M, lz_ev tL_of 68 L st M = lo_icmp (fun x y => decide (¬ x = y)) 79 71 (lz_ev tL_of) L st M) ∧
  (∀ L st M, lz_ev tL_of 71 L st M = lo_aload 0 72 (lz_ev tL_of) L st M) ∧
  (∀ L st M, lz_ev tL_of 72 L st M = lo_iload 2 73 (lz_ev tL_of) L st M) ∧
  (∀ (L : zzLc) (a0 : Int32) (r : List Value) (A : zzMd) (n : Nat), lz_ev tL_of 73 L (.int a0 :: .ref 0 :: r) (A, n) = bif zz_cat8 r && decide (n ≤ 1) then lz_bh (lz_ev tL_of) 76 L r n 1 hcO (lz_g fX11_goingOf [.ref 0, .int a0] A) else none) ∧
  (∀ L st M, lz_ev tL_of 76 L st M = lo_goto 256 (lz_ev tL_of) L st M) ∧
  (∀ L st M, lz_ev tL_of 79 L st M = lo_iload 1 80 (lz_ev tL_of) L st M) ∧
  (∀ L st M, lz_ev tL_of 80 L st M = lo_pushI 6 82 (lz_ev tL_of) L st M) ∧
  (∀ L st M, lz_ev tL_of 82 L st M = lo_icmp (fun x y => decide (¬ x = y)) 93 85 (lz_ev tL_of) L st M) ∧
  (∀ L st M, lz_ev tL_of 85 L st M = lo_aload 0 86 (lz_ev tL_of) L st M) ∧
  (∀ L st M, lz_ev tL_of 86 L st M = lo_iload 2 87 (lz_ev tL_of) L st M) ∧
  (∀ (L : zzLc) (a0 : Int32) (r : List Value) (A : zzMd) (n : Nat), lz_ev tL_of 87 L (.int a0 :: .ref 0 :: r) (A, n) = bif zz_cat8 r && decide (n ≤ 1) then lz_bh (lz_ev tL_of) 90 L r n 1 hcO (lz_g fX11_ownerOf [.ref 0, .int a0] A) else none) ∧
  (∀ L st M, lz_ev tL_of 90 L st M = lo_goto 256 (lz_ev tL_of) L st M) ∧
  (∀ L st M, lz_ev tL_of 93 L st M = lo_iload 1 94 (lz_ev tL_of) L st M) ∧
  (∀ L st M, lz_ev tL_of 94 L st M = lo_pushI 7 96 (lz_ev tL_of) L st M) ∧
  (∀ L st M, lz_ev tL_of 96 L st M = lo_icmp (fun x y => decide (¬ x = y)) 107 99 (lz_ev tL_of) L st M) ∧
  (∀ L st M, lz_ev tL_of 99 L st M = lo_aload 0 100 (lz_ev tL_of) L st M) ∧
  (∀ L st M, lz_ev tL_of 100 L st M = lo_iload 2 101 (lz_ev tL_of) L st M) ∧
  (∀ (L : zzLc) (a0 : Int32) (r : List Value) (A : zzMd) (n : Nat), lz_ev tL_of 101 L (.int a0 :: .ref 0 :: r) (A, n) = bif zz_cat8 r && decide (n ≤ 1) then lz_bh (lz_ev tL_of) 104 L r n 1 hcO (lz_g fX11_phaseOf [.ref 0, .int a0] A) else none) ∧
  (∀ L st M, lz_ev tL_of 104 L st M = lo_goto 256 (lz_ev tL_of) L st M) ∧
  (∀ L st M, lz_ev tL_of 107 L st M = lo_iload 1 108 (lz_ev tL_of) L st M) ∧
  (∀ L st M, lz_ev tL_of 108 L st M = lo_pushI 8 110 (lz_ev tL_of) L st M) ∧
  (∀ L st M, lz_ev tL_of 110 L st M = lo_icmp (fun x y => decide (¬ x = y)) 121 113 (lz_ev tL_of) L st M) ∧
  (∀ L st M, lz_ev tL_of 113 L st M = lo_aload 0 114 (lz_ev tL_of) L st M) ∧
  (∀ L st M, lz_ev tL_of 114 L st M = lo_iload 2 115 (lz_ev tL_of) L st M) ∧
  (∀ (L : zzLc) (a0 : Int32) (r : List Value) (A : zzMd) (n : Nat), lz_ev tL_of 115 L (.int a0 :: .ref 0 :: r) (A, n) = bif zz_cat8 r && decide (n ≤ 1) then lz_bh (lz_ev tL_of) 118 L r n 1 hcO (lz_g fX11_placeOf [.ref 0, .int a0] A) else none) ∧
  (∀ L st M, lz_ev tL_of 118 L st M = lo_goto 256 (lz_ev tL_of) L st M) ∧
  (∀ L st M, lz_ev tL_of 121 L st M = lo_iload 1 122 (lz_ev tL_of) L st M) ∧
  (∀ L st M, lz_ev tL_of 122 L st M = lo_pushI 9 124 (lz_ev tL_of) L st M) ∧
  (∀ L st M, lz_ev tL_of 124 L st M = lo_icmp (fun x y => decide (¬ x = y)) 143 127 (lz_ev tL_of) L st M) ∧
  (∀ L st M, lz_ev tL_of 127 L st M = lo_aload 0 128 (lz_ev tL_of) L st M) ∧
  (∀ L st M, lz_ev tL_of 128 L st M = lo_iload 2 129 (lz_ev tL_of) L st M) ∧
  (∀ (L : zzLc) (a0 : Int32) (r : List Value) (A : zzMd) (n : Nat), lz_ev tL_of 129 L (.int a0 :: .ref 0 :: r) (A, n) = bif zz_cat8 r && decide (n ≤ 1) then lz_bh (lz_ev tL_of) 132 L r n 1 hcO (lz_g fX11_isReady [.ref 0, .int a0] A) else none) ∧
  (∀ L st M, lz_ev tL_of 132 L st M = lo_if (fun x => decide (x = 0)) 139 135 (lz_ev tL_of) L st M) ∧
  (∀ L st M, lz_ev tL_of 135 L st M = lo_pushI 1 136 (lz_ev tL_of) L st M) ∧
  (∀ L st M, lz_ev tL_of 136 L st M = lo_goto 256 (lz_ev tL_of) L st M) ∧
  (∀ L st M, lz_ev tL_of 139 L st M = lo_pushI 0 140 (lz_ev tL_of) L st M) ∧
  (∀ L st M, lz_ev tL_of 140 L st M = lo_goto 256 (lz_ev tL_of) L st M) ∧
  (∀ L st M, lz_ev tL_of 143 L st M = lo_iload 1 144 (lz_ev tL_of) L st M) ∧
  (∀ L st M, lz_ev tL_of 144 L st M = lo_pushI 10 146 (lz_ev tL_of) L st M) ∧
  (∀ L st M, lz_ev tL_of 146 L st M = lo_icmp (fun x y => decide (¬ x = y)) 166 149 (lz_ev tL_of) L st M) ∧
  (∀ L st M, lz_ev tL_of 149 L st M = lo_aload 0 150 (lz_ev tL_of) L st M) ∧
  (∀ L st M, lz_ev tL_of 150 L st M = lo_iload 2 151 (lz_ev tL_of) L st M) ∧
  (∀ L st M, lz_ev tL_of 151 L st M = lo_iload 3 152 (lz_ev tL_of) L st M) ∧
  (∀ (L : zzLc) (a0 a1 : Int32) (r : List Value) (A : zzMd) (n : Nat), lz_ev tL_of 152 L (.int a1 :: .int a0 :: .ref 0 :: r) (A, n) = bif zz_cat8 r && decide (n ≤ 1) then lz_bh (lz_ev tL_of) 155 L r n 1 hcO (lz_g fX11_isBehind [.ref 0, .int a0, .int a1] A) else none) ∧
  (∀ L st M, lz_ev tL_of 155 L st M = lo_if (fun x => decide (x = 0)) 162 158 (lz_ev tL_of) L st M) ∧
  (∀ L st M, lz_ev tL_of 158 L st M = lo_pushI 1 159 (lz_ev tL_of) L st M) ∧
  (∀ L st M, lz_ev tL_of 159 L st M = lo_goto 256 (lz_ev tL_of) L st M) ∧
  (∀ L st M, lz_ev tL_of 162 L st M = lo_pushI 0 163 (lz_ev tL_of) L st M) ∧
  (∀ L st M, lz_ev tL_of 163 L st M = lo_goto 256 (lz_ev tL_of) L st M) ∧
  (∀ L st M, lz_ev tL_of 166 L st M = lo_iload 1 167 (lz_ev tL_of) L st M) ∧
  (∀ L st M, lz_ev tL_of 167 L st M = lo_pushI 11 169 (lz_ev tL_of) L st M) ∧
  (∀ L st M, lz_ev tL_of 169 L st M = lo_icmp (fun x y => decide (¬ x = y)) 190 172 (lz_ev tL_of) L st M) ∧
  (∀ L st M, lz_ev tL_of 172 L st M = lo_aload 0 173 (lz_ev tL_of) L st M) ∧
  (∀ L st M, lz_ev tL_of 173 L st M = lo_iload 2 174 (lz_ev tL_of) L st M) ∧
  (∀ L st M, lz_ev tL_of 174 L st M = lo_iload 3 175 (lz_ev tL_of) L st M) ∧
  (∀ L st M, lz_ev tL_of 175 L st M = lo_pushI 1 176 (lz_ev tL_of) L st M) ∧
  (∀ L st M, lz_ev tL_of 176 L st M = lo_icmp (fun x y => decide (¬ x = y)) 183 179 (lz_ev tL_of) L st M) ∧
  (∀ L st M, lz_ev tL_of 179 L st M = lo_pushI 1 180 (lz_ev tL_of) L st M) ∧
  (∀ L st M, lz_ev tL_of 180 L st M = lo_goto 184 (lz_ev tL_of) L st M) ∧
  (∀ L st M, lz_ev tL_of 183 L st M = lo_pushI 0 184 (lz_ev tL_of) L st M) ∧
  (∀ (L : zzLc) (a0 a1 : Int32) (r : List Value) (A : zzMd) (n : Nat), lz_ev tL_of 184 L (.int a1 :: .int a0 :: .ref 0 :: r) (A, n) = bif zz_cat8 r && decide (n ≤ 1) then lz_bh (lz_ev tL_of) 187 L r n 1 hcO (lz_g fX11_running [.ref 0, .int a0, .int a1] A) else none) ∧
  (∀ L st M, lz_ev tL_of 187 L st M = lo_goto 256 (lz_ev tL_of) L st M) ∧
  (∀ L st M, lz_ev tL_of 190 L st M = lo_iload 1 191 (lz_ev tL_of) L st M) ∧
  (∀ L st M, lz_ev tL_of 191 L st M = lo_pushI 12 193 (lz_ev tL_of) L st M) ∧
  (∀ L st M, lz_ev tL_of 193 L st M = lo_icmp (fun x y => decide (¬ x = y)) 204 196 (lz_ev tL_of) L st M) ∧
  (∀ L st M, lz_ev tL_of 196 L st M = lo_aload 0 197 (lz_ev tL_of) L st M) ∧
  (∀ L st M, lz_ev tL_of 197 L st M = lo_iload 2 198 (lz_ev tL_of) L st M) ∧
  (∀ (L : zzLc) (a0 : Int32) (r : List Value) (A : zzMd) (n : Nat), lz_ev tL_of 198 L (.int a0 :: .ref 0 :: r) (A, n) = bif zz_cat8 r && decide (n ≤ 1) then lz_bh (lz_ev tL_of) 201 L r n 1 hcO (lz_g fX11_objectOf [.ref 0, .int a0] A) else none) ∧
  (∀ L st M, lz_ev tL_of 201 L st M = lo_goto 256 (lz_ev tL_of) L st M) ∧
  (∀ L st M, lz_ev tL_of 204 L st M = lo_iload 1 205 (lz_ev tL_of) L st M) ∧
  (∀ L st M, lz_ev tL_of 205 L st M = lo_pushI 13 207 (lz_ev tL_of) L st M) ∧
  (∀ L st M, lz_ev tL_of 207 L st M = lo_icmp (fun x y => decide (¬ x = y)) 218 210 (lz_ev tL_of) L st M) ∧
  (∀ L st M, lz_ev tL_of 210 L st M = lo_aload 0 211 (lz_ev tL_of) L st M) ∧
  (∀ L st M, lz_ev tL_of 211 L st M = lo_iload 2 212 (lz_ev tL_of) L st M) ∧
  (∀ (L : zzLc) (a0 : Int32) (r : List Value) (A : zzMd) (n : Nat), lz_ev tL_of 212 L (.int a0 :: .ref 0 :: r) (A, n) = bif zz_cat8 r && decide (n ≤ 1) then lz_bh (lz_ev tL_of) 215 L r n 1 hcO (lz_g fX11_seen [.ref 0, .int a0] A) else none) ∧
  (∀ L st M, lz_ev tL_of 215 L st M = lo_goto 256 (lz_ev tL_of) L st M) ∧
  (∀ L st M, lz_ev tL_of 218 L st M = lo_iload 1 219 (lz_ev tL_of) L st M) ∧
  (∀ L st M, lz_ev tL_of 219 L st M = lo_pushI 14 221 (lz_ev tL_of) L st M) ∧
  (∀ L st M, lz_ev tL_of 221 L st M = lo_icmp (fun x y => decide (¬ x = y)) 233 224 (lz_ev tL_of) L st M) ∧
  (∀ L st M, lz_ev tL_of 224 L st M = lo_aload 0 225 (lz_ev tL_of) L st M) ∧
  (∀ L st M, lz_ev tL_of 225 L st M = lo_iload 2 226 (lz_ev tL_of) L st M) ∧
  (∀ L st M, lz_ev tL_of 226 L st M = lo_iload 3 227 (lz_ev tL_of) L st M) ∧
  (∀ (L : zzLc) (a0 a1 : Int32) (r : List Value) (A : zzMd) (n : Nat), lz_ev tL_of 227 L (.int a1 :: .int a0 :: .ref 0 :: r) (A, n) = bif zz_cat8 r && decide (n ≤ 1) then lz_bh (lz_ev tL_of) 230 L r n 1 hcO (lz_g fX11_queued [.ref 0, .int a0, .int a1] A) else none) ∧
  (∀ L st M, lz_ev tL_of 230 L st M = lo_goto 256 (lz_ev tL_of) L st M) ∧
  (∀ L st M, lz_ev tL_of 233 L st M = lo_iload 1 234 (lz_ev tL_of) L st M) ∧
  (∀ L st M, lz_ev tL_of 234 L st M = lo_pushI 15 236 (lz_ev tL_of) L st M) ∧
  (∀ L st M, lz_ev tL_of 236 L st M = lo_icmp (fun x y => decide (¬ x = y)) 248 239 (lz_ev tL_of) L st M) ∧
  (∀ L st M, lz_ev tL_of 239 L st M = lo_aload 0 240 (lz_ev tL_of) L st M) ∧
  (∀ L st M, lz_ev tL_of 240 L st M = lo_iload 2 241 (lz_ev tL_of) L st M) ∧
  (∀ L st M, lz_ev tL_of 241 L st M = lo_iload 3 242 (lz_ev tL_of) L st M) ∧
  (∀ (L : zzLc) (a0 a1 : Int32) (r : List Value) (A : zzMd) (n : Nat), lz_ev tL_of 242 L (.int a1 :: .int a0 :: .ref 0 :: r) (A, n) = bif zz_cat8 r && decide (n ≤ 1) then lz_bh (lz_ev tL_of) 245 L r n 1 hcO (lz_g fX11_failures [.ref 0, .int a0, .int a1] A) else none) ∧
  (∀ L st M, lz_ev tL_of 245 L st M = lo_goto 256 (lz_ev tL_of) L st M) ∧
  (∀ L st M, lz_ev tL_of 248 L st M = lo_aload 0 249 (lz_ev tL_of) L st M) ∧
  (∀ L st M, lz_ev tL_of 249 L st M = lo_iload 2 250 (lz_ev tL_of) L st M) ∧
  (∀ L st M, lz_ev tL_of 250 L st M = lo_iload 3 251 (lz_ev tL_of) L st M) ∧
  (∀ L st M, lz_ev tL_of 251 L st M = lo_iload 4 253 (lz_ev tL_of) L st M) ∧
  (∀ (L : zzLc) (a0 a1 a2 : Int32) (r : List Value) (A : zzMd) (n : Nat), lz_ev tL_of 253 L (.int a2 :: .int a1 :: .int a0 :: .ref 0 :: r) (A, n) = bif zz_cat8 r && decide (n ≤ 1) then lz_bh (lz_ev tL_of) 256 L r n 1 hcO (lz_g fX11_believed [.ref 0, .int a0, .int a1, .int a2] A) else none) ∧
  (∀ L st M, lz_ev tL_of 256 L st M = lo_iret 1 false (lz_ev tL_of) L st M) :=
  ⟨lz_1 rfl tl_L_of, lz_1 rfl tl_L_of, lz_1 rfl tl_L_of, lz_1 rfl tl_L_of, fun L a0 r A n => (lz_1 rfl tl_L_of _ _ _).trans rfl, lz_1 rfl tl_L_of, lz_1 rfl tl_L_of, lz_1 rfl tl_L_of, lz_1 rfl tl_L_of, lz_1 rfl tl_L_of, lz_1 rfl tl_L_of, lz_1 rfl tl_L_of, fun L a0 a1 r A n => (lz_1 rfl tl_L_of _ _ _).trans rfl, lz_1 rfl tl_L_of, lz_1 rfl tl_L_of, lz_1 rfl tl_L_of, lz_1 rfl tl_L_of, lz_1 rfl tl_L_of, lz_1 rfl tl_L_of, lz_1 rfl tl_L_of, fun L a0 a1 r A n => (lz_1 rfl tl_L_of _ _ _).trans rfl, lz_1 rfl tl_L_of, lz_1 rfl tl_L_of, lz_1 rfl tl_L_of, lz_1 rfl tl_L_of, lz_1 rfl tl_L_of, lz_1 rfl tl_L_of, fun L a0 r A n => (lz_1 rfl tl_L_of _ _ _).trans rfl, lz_1 rfl tl_L_of, lz_1 rfl tl_L_of, lz_1 rfl tl_L_of, lz_1 rfl tl_L_of, lz_1 rfl tl_L_of, lz_1 rfl tl_L_of, fun L a0 r A n => (lz_1 rfl tl_L_of _ _ _).trans rfl, lz_1 rfl tl_L_of, lz_1 rfl tl_L_of, lz_1 rfl tl_L_of, lz_1 rfl tl_L_of, lz_1 rfl tl_L_of, lz_1 rfl tl_L_of, fun L a0 r A n => (lz_1 rfl tl_L_of _ _ _).trans rfl, lz_1 rfl tl_L_of, lz_1 rfl tl_L_of, lz_1 rfl tl_L_of, lz_1 rfl tl_L_of, lz_1 rfl tl_L_of, lz_1 rfl tl_L_of, fun L a0 r A n => (lz_1 rfl tl_L_of _ _ _).trans rfl, lz_1 rfl tl_L_of, lz_1 rfl tl_L_of, lz_1 rfl tl_L_of, lz_1 rfl tl_L_of, lz_1 rfl tl_L_of, lz_1 rfl tl_L_of, fun L a0 r A n => (lz_1 rfl tl_L_of _ _ _).trans rfl, lz_1 rfl tl_L_of, lz_1 rfl tl_L_of, lz_1 rfl tl_L_of, lz_1 rfl tl_L_of, lz_1 rfl tl_L_of, lz_1 rfl tl_L_of, fun L a0 r A n => (lz_1 rfl tl_L_of _ _ _).trans rfl, lz_1 rfl tl_L_of, lz_1 rfl tl_L_of, lz_1 rfl tl_L_of, lz_1 rfl tl_L_of, lz_1 rfl tl_L_of, lz_1 rfl tl_L_of, fun L a0 r A n => (lz_1 rfl tl_L_of _ _ _).trans rfl, lz_1 rfl tl_L_of, lz_1 rfl tl_L_of, lz_1 rfl tl_L_of, lz_1 rfl tl_L_of, lz_1 rfl tl_L_of, lz_1 rfl tl_L_of, lz_1 rfl tl_L_of, lz_1 rfl tl_L_of, lz_1 rfl tl_L_of, lz_1 rfl tl_L_of, lz_1 rfl tl_L_of, fun L a0 a1 r A n => (lz_1 rfl tl_L_of _ _ _).trans rfl, lz_1 rfl tl_L_of, lz_1 rfl tl_L_of, lz_1 rfl tl_L_of, lz_1 rfl tl_L_of, lz_1 rfl tl_L_of, lz_1 rfl tl_L_of, lz_1 rfl tl_L_of, lz_1 rfl tl_L_of, lz_1 rfl tl_L_of, lz_1 rfl tl_L_of, lz_1 rfl tl_L_of, lz_1 rfl tl_L_of, lz_1 rfl tl_L_of, lz_1 rfl tl_L_of, lz_1 rfl tl_L_of, lz_1 rfl tl_L_of, fun L a0 a1 r A n => (lz_1 rfl tl_L_of _ _ _).trans rfl, lz_1 rfl tl_L_of, lz_1 rfl tl_L_of, lz_1 rfl tl_L_of, lz_1 rfl tl_L_of, lz_1 rfl tl_L_of, lz_1 rfl tl_L_of, fun L a0 r A n => (lz_1 rfl tl_L_of _ _ _).trans rfl, lz_1 rfl tl_L_of, lz_1 rfl tl_L_of, lz_1 rfl tl_L_of, lz_1 rfl tl_L_of, lz_1 rfl tl_L_of, lz_1 rfl tl_L_of, fun L a0 r A n => (lz_1 rfl tl_L_of _ _ _).trans rfl, lz_1 rfl tl_L_of, lz_1 rfl tl_L_of, lz_1 rfl tl_L_of, lz_1 rfl tl_L_of, lz_1 rfl tl_L_of, lz_1 rfl tl_L_of, lz_1 rfl tl_L_of, fun L a0 a1 r A n => (lz_1 rfl tl_L_of _ _ _).trans rfl, lz_1 rfl tl_L_of, lz_1 rfl tl_L_of, lz_1 rfl tl_L_of, lz_1 rfl tl_L_of, lz_1 rfl tl_L_of, lz_1 rfl tl_L_of, lz_1 rfl tl_L_of, fun L a0 a1 r A n => (lz_1 rfl tl_L_of _ _ _).trans rfl, lz_1 rfl tl_L_of, lz_1 rfl tl_L_of, lz_1 rfl tl_L_of, lz_1 rfl tl_L_of, lz_1 rfl tl_L_of, fun L a0 a1 a2 r A n => (lz_1 rfl tl_L_of _ _ _).trans rfl, lz_1 rfl tl_L_of⟩
theorem s_L_of (a1 a2 a3 a4 : Int32) (a0 : Nat) {A A' : zzMd} {v : Option Value} {n : Nat} (h : lz_ev tL_of 0 [some (.ref a0), some (.int a1), some (.int a2), some (.int a3), some (.int a4), none] [] (A, 0) = some (v, (A', n))) : fL_of [.ref a0, .int a1, .int a2, .int a3, .int a4] A = some (v, A') := lz_fn_of (T := tL_of) (nL := 6) (Nat.le_of_ble_eq_true rfl) h
set_option maxRecDepth 100000 in
theorem e_L_like : (∀ L st M, lz_ev tL_like 0 L st M = lo_aload 0 1 (lz_ev tL_like) L st M) ∧
  (∀ L st M, lz_ev tL_like 1 L st M = lo_iload 1 2 (lz_ev tL_like) L st M) ∧
  (∀ (L : zzLc) (a0 : Int32) (r : List Value) (A : zzMd) (n : Nat), lz_ev tL_like 2 L (.int a0 :: .ref 0 :: r) (A, n) = bif zz_cat8 r && decide (n ≤ 22) then lz_bv (lz_ev tL_like) 5 L r n (lz_g fX11_kindOf [.ref 0, .int a0] A) else none) ∧
  (∀ L st M, lz_ev tL_like 5 L st M = lo_i2l 6 (lz_ev tL_like) L st M) ∧
  (∀ L st M, lz_ev tL_like 6 L st M = lo_pushL (7) 9 (lz_ev tL_like) L st M) ∧
  (∀ L st M, lz_ev tL_like 9 L st M = lo_aload 0 10 (lz_ev tL_like) L st M) ∧
  (∀ L st M, lz_ev tL_like 10 L st M = lo_iload 1 11 (lz_ev tL_like) L st M) ∧
  (∀ (L : zzLc) (a0 : Int32) (r : List Value) (A : zzMd) (n : Nat), lz_ev tL_like 11 L (.int a0 :: .ref 0 :: r) (A, n) = bif zz_cat8 r && decide (n ≤ 22) then lz_bv (lz_ev tL_like) 14 L r n (lz_g fX11_goingOf [.ref 0, .int a0] A) else none) ∧
  (∀ L st M, lz_ev tL_like 14 L st M = lo_i2l 15 (lz_ev tL_like) L st M) ∧
  (∀ L st M, lz_ev tL_like 15 L st M = lo_ll (fun x y => x * y) 16 (lz_ev tL_like) L st M) ∧
  (∀ L st M, lz_ev tL_like 16 L st M = lo_ll (fun x y => x + y) 17 (lz_ev tL_like) L st M) ∧
  (∀ L st M, lz_ev tL_like 17 L st M = lo_pushL (61) 20 (lz_ev tL_like) L st M) ∧
  (∀ L st M, lz_ev tL_like 20 L st M = lo_aload 0 21 (lz_ev tL_like) L st M) ∧
  (∀ L st M, lz_ev tL_like 21 L st M = lo_iload 1 22 (lz_ev tL_like) L st M) ∧
  (∀ (L : zzLc) (a0 : Int32) (r : List Value) (A : zzMd) (n : Nat), lz_ev tL_like 22 L (.int a0 :: .ref 0 :: r) (A, n) = bif zz_cat8 r && decide (n ≤ 22) then lz_bv (lz_ev tL_like) 25 L r n (lz_g fX11_ownerOf [.ref 0, .int a0] A) else none) ∧
  (∀ L st M, lz_ev tL_like 25 L st M = lo_i2l 26 (lz_ev tL_like) L st M) ∧
  (∀ L st M, lz_ev tL_like 26 L st M = lo_ll (fun x y => x * y) 27 (lz_ev tL_like) L st M) ∧
  (∀ L st M, lz_ev tL_like 27 L st M = lo_ll (fun x y => x + y) 28 (lz_ev tL_like) L st M) ∧
  (∀ L st M, lz_ev tL_like 28 L st M = lo_lstore 2 29 (lz_ev tL_like) L st M) ∧
  (∀ L st M, lz_ev tL_like 29 L st M = lo_pushI 0 30 (lz_ev tL_like) L st M) ∧
  (∀ L st M, lz_ev tL_like 30 L st M = lo_istore 4 32 (lz_ev tL_like) L st M) ∧
  (∀ L st M, lz_ev tL_like 34 L st M = lo_pushI 11 36 (lz_ev tL_like) L st M) ∧
  (∀ L st M, lz_ev tL_like 36 L st M = lo_icmp (fun x y => decide (y ≤ x)) 77 39 (lz_ev tL_like) L st M) ∧
  (∀ L st M, lz_ev tL_like 39 L st M = lo_pushL (1000003) 42 (lz_ev tL_like) L st M) ∧
  (∀ L st M, lz_ev tL_like 42 L st M = lo_lload 2 43 (lz_ev tL_like) L st M) ∧
  (∀ L st M, lz_ev tL_like 43 L st M = lo_ll (fun x y => x * y) 44 (lz_ev tL_like) L st M) ∧
  (∀ L st M, lz_ev tL_like 44 L st M = lo_aload 0 45 (lz_ev tL_like) L st M) ∧
  (∀ L st M, lz_ev tL_like 45 L st M = lo_pushI 1 46 (lz_ev tL_like) L st M) ∧
  (∀ L st M, lz_ev tL_like 46 L st M = lo_iload 1 47 (lz_ev tL_like) L st M) ∧
  (∀ L st M, lz_ev tL_like 47 L st M = lo_iload 4 49 (lz_ev tL_like) L st M) ∧
  (∀ L st M, lz_ev tL_like 49 L st M = lo_pushI 0 50 (lz_ev tL_like) L st M) ∧
  (∀ (L : zzLc) (a1 a2 a3 a4 : Int32) (a0 : Nat) (r : List Value) (A : zzMd) (n : Nat), lz_ev tL_like 50 L (.int a4 :: .int a3 :: .int a2 :: .int a1 :: .ref a0 :: r) (A, n) = bif zz_cat8 r && decide (n + 1 ≤ 22) then lz_bs (lz_ev tL_like) 53 L r (n + 1) (fL_of [.ref a0, .int a1, .int a2, .int a3, .int a4] A) else none) ∧
  (∀ L st M, lz_ev tL_like 53 L st M = lo_i2l 54 (lz_ev tL_like) L st M) ∧
  (∀ L st M, lz_ev tL_like 54 L st M = lo_ll (fun x y => x + y) 55 (lz_ev tL_like) L st M) ∧
  (∀ L st M, lz_ev tL_like 55 L st M = lo_pushL (31) 58 (lz_ev tL_like) L st M) ∧
  (∀ L st M, lz_ev tL_like 58 L st M = lo_aload 0 59 (lz_ev tL_like) L st M) ∧
  (∀ L st M, lz_ev tL_like 59 L st M = lo_pushI 2 60 (lz_ev tL_like) L st M) ∧
  (∀ L st M, lz_ev tL_like 60 L st M = lo_iload 1 61 (lz_ev tL_like) L st M) ∧
  (∀ L st M, lz_ev tL_like 61 L st M = lo_iload 4 63 (lz_ev tL_like) L st M) ∧
  (∀ L st M, lz_ev tL_like 63 L st M = lo_pushI 0 64 (lz_ev tL_like) L st M) ∧
  (∀ (L : zzLc) (a1 a2 a3 a4 : Int32) (a0 : Nat) (r : List Value) (A : zzMd) (n : Nat), lz_ev tL_like 64 L (.int a4 :: .int a3 :: .int a2 :: .int a1 :: .ref a0 :: r) (A, n) = bif zz_cat8 r && decide (n + 1 ≤ 22) then lz_bs (lz_ev tL_like) 67 L r (n + 1) (fL_of [.ref a0, .int a1, .int a2, .int a3, .int a4] A) else none) ∧
  (∀ L st M, lz_ev tL_like 67 L st M = lo_i2l 68 (lz_ev tL_like) L st M) ∧
  (∀ L st M, lz_ev tL_like 68 L st M = lo_ll (fun x y => x * y) 69 (lz_ev tL_like) L st M) ∧
  (∀ L st M, lz_ev tL_like 69 L st M = lo_ll (fun x y => x + y) 70 (lz_ev tL_like) L st M) ∧
  (∀ L st M, lz_ev tL_like 70 L st M = lo_lstore 2 71 (lz_ev tL_like) L st M) ∧
  (∀ L st M, lz_ev tL_like 71 L st M = lo_iinc 4 1 74 (lz_ev tL_like) L st M) ∧
  (∀ L st M, lz_ev tL_like 74 L st M = lo_goto 32 (lz_ev tL_like) L st M) ∧
  (∀ L st M, lz_ev tL_like 77 L st M = lo_aload 0 78 (lz_ev tL_like) L st M) ∧
  (∀ L st M, lz_ev tL_like 78 L st M = lo_iload 1 79 (lz_ev tL_like) L st M) ∧
  (∀ (L : zzLc) (a0 : Int32) (r : List Value) (A : zzMd) (n : Nat), lz_ev tL_like 79 L (.int a0 :: .ref 0 :: r) (A, n) = bif zz_cat8 r && decide (n ≤ 22) then lz_bv (lz_ev tL_like) 82 L r n (lz_g fX11_kindOf [.ref 0, .int a0] A) else none) ∧
  (∀ L st M, lz_ev tL_like 82 L st M = lo_pushI 2 83 (lz_ev tL_like) L st M) ∧
  (∀ L st M, lz_ev tL_like 83 L st M = lo_icmp (fun x y => decide (¬ x = y)) 112 86 (lz_ev tL_like) L st M) ∧
  (∀ L st M, lz_ev tL_like 86 L st M = lo_pushL (31) 89 (lz_ev tL_like) L st M) ∧
  (∀ L st M, lz_ev tL_like 89 L st M = lo_lload 2 90 (lz_ev tL_like) L st M) ∧
  (∀ L st M, lz_ev tL_like 90 L st M = lo_ll (fun x y => x * y) 91 (lz_ev tL_like) L st M) ∧
  (∀ L st M, lz_ev tL_like 91 L st M = lo_aload 0 92 (lz_ev tL_like) L st M) ∧
  (∀ L st M, lz_ev tL_like 92 L st M = lo_iload 1 93 (lz_ev tL_like) L st M) ∧
  (∀ (L : zzLc) (a0 : Int32) (r : List Value) (A : zzMd) (n : Nat), lz_ev tL_like 93 L (.int a0 :: .ref 0 :: r) (A, n) = bif zz_cat8 r && decide (n ≤ 22) then lz_bv (lz_ev tL_like) 96 L r n (lz_g fX11_phaseOf [.ref 0, .int a0] A) else none) ∧
  (∀ L st M, lz_ev tL_like 96 L st M = lo_i2l 97 (lz_ev tL_like) L st M) ∧
  (∀ L st M, lz_ev tL_like 97 L st M = lo_ll (fun x y => x + y) 98 (lz_ev tL_like) L st M) ∧
  (∀ L st M, lz_ev tL_like 98 L st M = lo_pushL (7) 101 (lz_ev tL_like) L st M) ∧
  (∀ L st M, lz_ev tL_like 101 L st M = lo_aload 0 102 (lz_ev tL_like) L st M) ∧
  (∀ L st M, lz_ev tL_like 102 L st M = lo_iload 1 103 (lz_ev tL_like) L st M) ∧
  (∀ (L : zzLc) (a0 : Int32) (r : List Value) (A : zzMd) (n : Nat), lz_ev tL_like 103 L (.int a0 :: .ref 0 :: r) (A, n) = bif zz_cat8 r && decide (n ≤ 22) then lz_bv (lz_ev tL_like) 106 L r n (lz_g fX11_placeOf [.ref 0, .int a0] A) else none) ∧
  (∀ L st M, lz_ev tL_like 106 L st M = lo_i2l 107 (lz_ev tL_like) L st M) ∧
  (∀ L st M, lz_ev tL_like 107 L st M = lo_ll (fun x y => x * y) 108 (lz_ev tL_like) L st M) ∧
  (∀ L st M, lz_ev tL_like 108 L st M = lo_ll (fun x y => x + y) 109 (lz_ev tL_like) L st M) ∧
  (∀ L st M, lz_ev tL_like 109 L st M = lo_goto 138 (lz_ev tL_like) L st M) ∧
  (∀ L st M, lz_ev tL_like 112 L st M = lo_aload 0 113 (lz_ev tL_like) L st M) ∧
  (∀ L st M, lz_ev tL_like 113 L st M = lo_iload 1 114 (lz_ev tL_like) L st M) ∧
  (∀ (L : zzLc) (a0 : Int32) (r : List Value) (A : zzMd) (n : Nat), lz_ev tL_like 114 L (.int a0 :: .ref 0 :: r) (A, n) = bif zz_cat8 r && decide (n ≤ 22) then lz_bv (lz_ev tL_like) 117 L r n (lz_g fX11_kindOf [.ref 0, .int a0] A) else none) ∧
  (∀ L st M, lz_ev tL_like 117 L st M = lo_pushI 4 118 (lz_ev tL_like) L st M) ∧
  (∀ L st M, lz_ev tL_like 118 L st M = lo_icmp (fun x y => decide (¬ x = y)) 137 121 (lz_ev tL_like) L st M) ∧
  (∀ L st M, lz_ev tL_like 121 L st M = lo_aload 0 122 (lz_ev tL_like) L st M) ∧
  (∀ L st M, lz_ev tL_like 122 L st M = lo_iload 1 123 (lz_ev tL_like) L st M) ∧
  (∀ (L : zzLc) (a0 : Int32) (r : List Value) (A : zzMd) (n : Nat), lz_ev tL_like 123 L (.int a0 :: .ref 0 :: r) (A, n) = bif zz_cat8 r && decide (n ≤ 22) then lz_bv (lz_ev tL_like) 126 L r n (lz_g fX11_isReady [.ref 0, .int a0] A) else none) ∧
  (∀ L st M, lz_ev tL_like 126 L st M = lo_if (fun x => decide (x = 0)) 137 129 (lz_ev tL_like) L st M) ∧
  (∀ L st M, lz_ev tL_like 129 L st M = lo_lload 2 130 (lz_ev tL_like) L st M) ∧
  (∀ L st M, lz_ev tL_like 130 L st M = lo_pushL (5) 133 (lz_ev tL_like) L st M) ∧
  (∀ L st M, lz_ev tL_like 133 L st M = lo_ll (fun x y => x + y) 134 (lz_ev tL_like) L st M) ∧
  (∀ L st M, lz_ev tL_like 134 L st M = lo_goto 138 (lz_ev tL_like) L st M) ∧
  (∀ L st M, lz_ev tL_like 137 L st M = lo_lload 2 138 (lz_ev tL_like) L st M) ∧
  (∀ L st M, lz_ev tL_like 138 L st M = lo_lret 22 (lz_ev tL_like) L st M) :=
  ⟨lz_1 rfl tl_L_like, lz_1 rfl tl_L_like, fun L a0 r A n => (lz_1 rfl tl_L_like _ _ _).trans rfl, lz_1 rfl tl_L_like, lz_1 rfl tl_L_like, lz_1 rfl tl_L_like, lz_1 rfl tl_L_like, fun L a0 r A n => (lz_1 rfl tl_L_like _ _ _).trans rfl, lz_1 rfl tl_L_like, lz_1 rfl tl_L_like, lz_1 rfl tl_L_like, lz_1 rfl tl_L_like, lz_1 rfl tl_L_like, lz_1 rfl tl_L_like, fun L a0 r A n => (lz_1 rfl tl_L_like _ _ _).trans rfl, lz_1 rfl tl_L_like, lz_1 rfl tl_L_like, lz_1 rfl tl_L_like, lz_1 rfl tl_L_like, lz_1 rfl tl_L_like, lz_1 rfl tl_L_like, lz_1 rfl tl_L_like, lz_1 rfl tl_L_like, lz_1 rfl tl_L_like, lz_1 rfl tl_L_like, lz_1 rfl tl_L_like, lz_1 rfl tl_L_like, lz_1 rfl tl_L_like, lz_1 rfl tl_L_like, lz_1 rfl tl_L_like, lz_1 rfl tl_L_like, fun L a1 a2 a3 a4 a0 r A n => (lz_1 rfl tl_L_like _ _ _).trans rfl, lz_1 rfl tl_L_like, lz_1 rfl tl_L_like, lz_1 rfl tl_L_like, lz_1 rfl tl_L_like, lz_1 rfl tl_L_like, lz_1 rfl tl_L_like, lz_1 rfl tl_L_like, lz_1 rfl tl_L_like, fun L a1 a2 a3 a4 a0 r A n => (lz_1 rfl tl_L_like _ _ _).trans rfl, lz_1 rfl tl_L_like, lz_1 rfl tl_L_like, lz_1 rfl tl_L_like, lz_1 rfl tl_L_like, lz_1 rfl tl_L_like, lz_1 rfl tl_L_like, lz_1 rfl tl_L_like, lz_1 rfl tl_L_like, fun L a0 r A n => (lz_1 rfl tl_L_like _ _ _).trans rfl, lz_1 rfl tl_L_like, lz_1 rfl tl_L_like, lz_1 rfl tl_L_like, lz_1 rfl tl_L_like, lz_1 rfl tl_L_like, lz_1 rfl tl_L_like, lz_1 rfl tl_L_like, fun L a0 r A n => (lz_1 rfl tl_L_like _ _ _).trans rfl, lz_1 rfl tl_L_like, lz_1 rfl tl_L_like, lz_1 rfl tl_L_like, lz_1 rfl tl_L_like, lz_1 rfl tl_L_like, fun L a0 r A n => (lz_1 rfl tl_L_like _ _ _).trans rfl, lz_1 rfl tl_L_like, lz_1 rfl tl_L_like, lz_1 rfl tl_L_like, lz_1 rfl tl_L_like, lz_1 rfl tl_L_like, lz_1 rfl tl_L_like, fun L a0 r A n => (lz_1 rfl tl_L_like _ _ _).trans rfl, lz_1 rfl tl_L_like, lz_1 rfl tl_L_like, lz_1 rfl tl_L_like, lz_1 rfl tl_L_like, fun L a0 r A n => (lz_1 rfl tl_L_like _ _ _).trans rfl, lz_1 rfl tl_L_like, lz_1 rfl tl_L_like, lz_1 rfl tl_L_like, lz_1 rfl tl_L_like, lz_1 rfl tl_L_like, lz_1 rfl tl_L_like, lz_1 rfl tl_L_like⟩
set_option maxRecDepth 100000 in
theorem e_L_like_32 : (∀ L st M, lz_ev tL_like 32 L st M = lo_iload 4 34 (lz_ev tL_like) L st M) := lz_1 rfl tl_L_like
theorem s_L_like (a1 : Int32) (a0 : Nat) {A A' : zzMd} {v : Option Value} {n : Nat} (h : lz_ev tL_like 0 [some (.ref a0), some (.int a1), none, none, none] [] (A, 0) = some (v, (A', n))) : fL_like [.ref a0, .int a1] A = some (v, A') := lz_fn_of (T := tL_like) (nL := 5) (Nat.le_of_ble_eq_true rfl) h
set_option maxRecDepth 100000 in
theorem e_L_all : (∀ L st M, lz_ev tL_all 0 L st M = lo_aload 0 1 (lz_ev tL_all) L st M) ∧
  (∀ (L : zzLc) (r : List Value) (A : zzMd) (n : Nat), lz_ev tL_all 1 L (.ref 0 :: r) (A, n) = bif zz_cat8 r && decide (n ≤ 1320) then lz_bv (lz_ev tL_all) 4 L r n (lz_g fX11_version [.ref 0] A) else none) ∧
  (∀ L st M, lz_ev tL_all 4 L st M = lo_i2l 5 (lz_ev tL_all) L st M) ∧
  (∀ L st M, lz_ev tL_all 5 L st M = lo_pushL (31) 8 (lz_ev tL_all) L st M) ∧
  (∀ L st M, lz_ev tL_all 8 L st M = lo_aload 0 9 (lz_ev tL_all) L st M) ∧
  (∀ (L : zzLc) (r : List Value) (A : zzMd) (n : Nat), lz_ev tL_all 9 L (.ref 0 :: r) (A, n) = bif zz_cat8 r && decide (n ≤ 1320) then lz_bv (lz_ev tL_all) 12 L r n (lz_g fX11_objects [.ref 0] A) else none) ∧
  (∀ L st M, lz_ev tL_all 12 L st M = lo_i2l 13 (lz_ev tL_all) L st M) ∧
  (∀ L st M, lz_ev tL_all 13 L st M = lo_ll (fun x y => x * y) 14 (lz_ev tL_all) L st M) ∧
  (∀ L st M, lz_ev tL_all 14 L st M = lo_ll (fun x y => x + y) 15 (lz_ev tL_all) L st M) ∧
  (∀ L st M, lz_ev tL_all 15 L st M = lo_lstore 1 16 (lz_ev tL_all) L st M) ∧
  (∀ L st M, lz_ev tL_all 16 L st M = lo_pushI 0 17 (lz_ev tL_all) L st M) ∧
  (∀ L st M, lz_ev tL_all 17 L st M = lo_istore 3 18 (lz_ev tL_all) L st M) ∧
  (∀ L st M, lz_ev tL_all 19 L st M = lo_aload 0 20 (lz_ev tL_all) L st M) ∧
  (∀ (L : zzLc) (r : List Value) (A : zzMd) (n : Nat), lz_ev tL_all 20 L (.ref 0 :: r) (A, n) = bif zz_cat8 r && decide (n ≤ 1320) then lz_bv (lz_ev tL_all) 23 L r n (lz_g fX11_objects [.ref 0] A) else none) ∧
  (∀ L st M, lz_ev tL_all 23 L st M = lo_icmp (fun x y => decide (y ≤ x)) 55 26 (lz_ev tL_all) L st M) ∧
  (∀ L st M, lz_ev tL_all 26 L st M = lo_pushL (1000003) 29 (lz_ev tL_all) L st M) ∧
  (∀ L st M, lz_ev tL_all 29 L st M = lo_lload 1 30 (lz_ev tL_all) L st M) ∧
  (∀ L st M, lz_ev tL_all 30 L st M = lo_ll (fun x y => x * y) 31 (lz_ev tL_all) L st M) ∧
  (∀ L st M, lz_ev tL_all 31 L st M = lo_aload 0 32 (lz_ev tL_all) L st M) ∧
  (∀ L st M, lz_ev tL_all 32 L st M = lo_iload 3 33 (lz_ev tL_all) L st M) ∧
  (∀ (L : zzLc) (a1 : Int32) (a0 : Nat) (r : List Value) (A : zzMd) (n : Nat), lz_ev tL_all 33 L (.int a1 :: .ref a0 :: r) (A, n) = bif zz_cat8 r && decide (n + 22 ≤ 1320) then lz_bs (lz_ev tL_all) 36 L r (n + 22) (fL_like [.ref a0, .int a1] A) else none) ∧
  (∀ L st M, lz_ev tL_all 36 L st M = lo_ll (fun x y => x + y) 37 (lz_ev tL_all) L st M) ∧
  (∀ L st M, lz_ev tL_all 37 L st M = lo_pushL (7) 40 (lz_ev tL_all) L st M) ∧
  (∀ L st M, lz_ev tL_all 40 L st M = lo_aload 0 41 (lz_ev tL_all) L st M) ∧
  (∀ L st M, lz_ev tL_all 41 L st M = lo_iload 3 42 (lz_ev tL_all) L st M) ∧
  (∀ (L : zzLc) (a0 : Int32) (r : List Value) (A : zzMd) (n : Nat), lz_ev tL_all 42 L (.int a0 :: .ref 0 :: r) (A, n) = bif zz_cat8 r && decide (n ≤ 1320) then lz_bv (lz_ev tL_all) 45 L r n (lz_g fX11_versionOf [.ref 0, .int a0] A) else none) ∧
  (∀ L st M, lz_ev tL_all 45 L st M = lo_i2l 46 (lz_ev tL_all) L st M) ∧
  (∀ L st M, lz_ev tL_all 46 L st M = lo_ll (fun x y => x * y) 47 (lz_ev tL_all) L st M) ∧
  (∀ L st M, lz_ev tL_all 47 L st M = lo_ll (fun x y => x + y) 48 (lz_ev tL_all) L st M) ∧
  (∀ L st M, lz_ev tL_all 48 L st M = lo_lstore 1 49 (lz_ev tL_all) L st M) ∧
  (∀ L st M, lz_ev tL_all 49 L st M = lo_iinc 3 1 52 (lz_ev tL_all) L st M) ∧
  (∀ L st M, lz_ev tL_all 52 L st M = lo_goto 18 (lz_ev tL_all) L st M) ∧
  (∀ L st M, lz_ev tL_all 55 L st M = lo_pushI 0 56 (lz_ev tL_all) L st M) ∧
  (∀ L st M, lz_ev tL_all 56 L st M = lo_istore 3 57 (lz_ev tL_all) L st M) ∧
  (∀ L st M, lz_ev tL_all 58 L st M = lo_pushI 8 60 (lz_ev tL_all) L st M) ∧
  (∀ L st M, lz_ev tL_all 60 L st M = lo_icmp (fun x y => decide (y ≤ x)) 106 63 (lz_ev tL_all) L st M) ∧
  (∀ L st M, lz_ev tL_all 63 L st M = lo_pushL (31) 66 (lz_ev tL_all) L st M) ∧
  (∀ L st M, lz_ev tL_all 66 L st M = lo_lload 1 67 (lz_ev tL_all) L st M) ∧
  (∀ L st M, lz_ev tL_all 67 L st M = lo_ll (fun x y => x * y) 68 (lz_ev tL_all) L st M) ∧
  (∀ L st M, lz_ev tL_all 68 L st M = lo_aload 0 69 (lz_ev tL_all) L st M) ∧
  (∀ L st M, lz_ev tL_all 69 L st M = lo_iload 3 70 (lz_ev tL_all) L st M) ∧
  (∀ (L : zzLc) (a0 : Int32) (r : List Value) (A : zzMd) (n : Nat), lz_ev tL_all 70 L (.int a0 :: .ref 0 :: r) (A, n) = bif zz_cat8 r && decide (n ≤ 1320) then lz_bv (lz_ev tL_all) 73 L r n (lz_g fX11_seen [.ref 0, .int a0] A) else none) ∧
  (∀ L st M, lz_ev tL_all 73 L st M = lo_i2l 74 (lz_ev tL_all) L st M) ∧
  (∀ L st M, lz_ev tL_all 74 L st M = lo_ll (fun x y => x + y) 75 (lz_ev tL_all) L st M) ∧
  (∀ L st M, lz_ev tL_all 75 L st M = lo_pushL (7) 78 (lz_ev tL_all) L st M) ∧
  (∀ L st M, lz_ev tL_all 78 L st M = lo_aload 0 79 (lz_ev tL_all) L st M) ∧
  (∀ L st M, lz_ev tL_all 79 L st M = lo_iload 3 80 (lz_ev tL_all) L st M) ∧
  (∀ L st M, lz_ev tL_all 80 L st M = lo_pushI 0 81 (lz_ev tL_all) L st M) ∧
  (∀ (L : zzLc) (a0 a1 : Int32) (r : List Value) (A : zzMd) (n : Nat), lz_ev tL_all 81 L (.int a1 :: .int a0 :: .ref 0 :: r) (A, n) = bif zz_cat8 r && decide (n ≤ 1320) then lz_bv (lz_ev tL_all) 84 L r n (lz_g fX11_queued [.ref 0, .int a0, .int a1] A) else none) ∧
  (∀ L st M, lz_ev tL_all 84 L st M = lo_i2l 85 (lz_ev tL_all) L st M) ∧
  (∀ L st M, lz_ev tL_all 85 L st M = lo_ll (fun x y => x * y) 86 (lz_ev tL_all) L st M) ∧
  (∀ L st M, lz_ev tL_all 86 L st M = lo_ll (fun x y => x + y) 87 (lz_ev tL_all) L st M) ∧
  (∀ L st M, lz_ev tL_all 87 L st M = lo_pushL (3) 90 (lz_ev tL_all) L st M) ∧
  (∀ L st M, lz_ev tL_all 90 L st M = lo_aload 0 91 (lz_ev tL_all) L st M) ∧
  (∀ L st M, lz_ev tL_all 91 L st M = lo_iload 3 92 (lz_ev tL_all) L st M) ∧
  (∀ L st M, lz_ev tL_all 92 L st M = lo_pushI 2 93 (lz_ev tL_all) L st M) ∧
  (∀ (L : zzLc) (a0 a1 : Int32) (r : List Value) (A : zzMd) (n : Nat), lz_ev tL_all 93 L (.int a1 :: .int a0 :: .ref 0 :: r) (A, n) = bif zz_cat8 r && decide (n ≤ 1320) then lz_bv (lz_ev tL_all) 96 L r n (lz_g fX11_queued [.ref 0, .int a0, .int a1] A) else none) ∧
  (∀ L st M, lz_ev tL_all 96 L st M = lo_i2l 97 (lz_ev tL_all) L st M) ∧
  (∀ L st M, lz_ev tL_all 97 L st M = lo_ll (fun x y => x * y) 98 (lz_ev tL_all) L st M) ∧
  (∀ L st M, lz_ev tL_all 98 L st M = lo_ll (fun x y => x + y) 99 (lz_ev tL_all) L st M) ∧
  (∀ L st M, lz_ev tL_all 99 L st M = lo_lstore 1 100 (lz_ev tL_all) L st M) ∧
  (∀ L st M, lz_ev tL_all 100 L st M = lo_iinc 3 1 103 (lz_ev tL_all) L st M) ∧
  (∀ L st M, lz_ev tL_all 103 L st M = lo_goto 57 (lz_ev tL_all) L st M) ∧
  (∀ L st M, lz_ev tL_all 106 L st M = lo_lload 1 107 (lz_ev tL_all) L st M) ∧
  (∀ L st M, lz_ev tL_all 107 L st M = lo_lret 1320 (lz_ev tL_all) L st M) :=
  ⟨lz_1 rfl tl_L_all, fun L  r A n => (lz_1 rfl tl_L_all _ _ _).trans rfl, lz_1 rfl tl_L_all, lz_1 rfl tl_L_all, lz_1 rfl tl_L_all, fun L  r A n => (lz_1 rfl tl_L_all _ _ _).trans rfl, lz_1 rfl tl_L_all, lz_1 rfl tl_L_all, lz_1 rfl tl_L_all, lz_1 rfl tl_L_all, lz_1 rfl tl_L_all, lz_1 rfl tl_L_all, lz_1 rfl tl_L_all, fun L  r A n => (lz_1 rfl tl_L_all _ _ _).trans rfl, lz_1 rfl tl_L_all, lz_1 rfl tl_L_all, lz_1 rfl tl_L_all, lz_1 rfl tl_L_all, lz_1 rfl tl_L_all, lz_1 rfl tl_L_all, fun L a1 a0 r A n => (lz_1 rfl tl_L_all _ _ _).trans rfl, lz_1 rfl tl_L_all, lz_1 rfl tl_L_all, lz_1 rfl tl_L_all, lz_1 rfl tl_L_all, fun L a0 r A n => (lz_1 rfl tl_L_all _ _ _).trans rfl, lz_1 rfl tl_L_all, lz_1 rfl tl_L_all, lz_1 rfl tl_L_all, lz_1 rfl tl_L_all, lz_1 rfl tl_L_all, lz_1 rfl tl_L_all, lz_1 rfl tl_L_all, lz_1 rfl tl_L_all, lz_1 rfl tl_L_all, lz_1 rfl tl_L_all, lz_1 rfl tl_L_all, lz_1 rfl tl_L_all, lz_1 rfl tl_L_all, lz_1 rfl tl_L_all, lz_1 rfl tl_L_all, fun L a0 r A n => (lz_1 rfl tl_L_all _ _ _).trans rfl, lz_1 rfl tl_L_all, lz_1 rfl tl_L_all, lz_1 rfl tl_L_all, lz_1 rfl tl_L_all, lz_1 rfl tl_L_all, lz_1 rfl tl_L_all, fun L a0 a1 r A n => (lz_1 rfl tl_L_all _ _ _).trans rfl, lz_1 rfl tl_L_all, lz_1 rfl tl_L_all, lz_1 rfl tl_L_all, lz_1 rfl tl_L_all, lz_1 rfl tl_L_all, lz_1 rfl tl_L_all, lz_1 rfl tl_L_all, fun L a0 a1 r A n => (lz_1 rfl tl_L_all _ _ _).trans rfl, lz_1 rfl tl_L_all, lz_1 rfl tl_L_all, lz_1 rfl tl_L_all, lz_1 rfl tl_L_all, lz_1 rfl tl_L_all, lz_1 rfl tl_L_all, lz_1 rfl tl_L_all, lz_1 rfl tl_L_all⟩
set_option maxRecDepth 100000 in
theorem e_L_all_18 : (∀ L st M, lz_ev tL_all 18 L st M = lo_iload 3 19 (lz_ev tL_all) L st M) := lz_1 rfl tl_L_all
set_option maxRecDepth 100000 in
theorem e_L_all_57 : (∀ L st M, lz_ev tL_all 57 L st M = lo_iload 3 58 (lz_ev tL_all) L st M) := lz_1 rfl tl_L_all
theorem s_L_all (a0 : Nat) {A A' : zzMd} {v : Option Value} {n : Nat} (h : lz_ev tL_all 0 [some (.ref a0), none, none, none] [] (A, 0) = some (v, (A', n))) : fL_all [.ref a0] A = some (v, A') := lz_fn_of (T := tL_all) (nL := 4) (Nat.le_of_ble_eq_true rfl) h
set_option maxRecDepth 100000 in
theorem e_L_areVersions : (∀ L st M, lz_ev tL_areVersions 0 L st M = lo_aload 0 1 (lz_ev tL_areVersions) L st M) ∧
  (∀ L st M, lz_ev tL_areVersions 1 L st M = lo_pushI 12 3 (lz_ev tL_areVersions) L st M) ∧
  (∀ L st M, lz_ev tL_areVersions 3 L st M = lo_pushI 0 4 (lz_ev tL_areVersions) L st M) ∧
  (∀ L st M, lz_ev tL_areVersions 4 L st M = lo_pushI 0 5 (lz_ev tL_areVersions) L st M) ∧
  (∀ L st M, lz_ev tL_areVersions 5 L st M = lo_pushI 0 6 (lz_ev tL_areVersions) L st M) ∧
  (∀ (L : zzLc) (a1 a2 a3 a4 : Int32) (a0 : Nat) (r : List Value) (A : zzMd) (n : Nat), lz_ev tL_areVersions 6 L (.int a4 :: .int a3 :: .int a2 :: .int a1 :: .ref a0 :: r) (A, n) = bif zz_cat8 r && decide (n + 1 ≤ 2) then lz_bs (lz_ev tL_areVersions) 9 L r (n + 1) (fL_of [.ref a0, .int a1, .int a2, .int a3, .int a4] A) else none) ∧
  (∀ L st M, lz_ev tL_areVersions 9 L st M = lo_pushI (-1271) 12 (lz_ev tL_areVersions) L st M) ∧
  (∀ L st M, lz_ev tL_areVersions 12 L st M = lo_icmp (fun x y => decide (¬ x = y)) 39 15 (lz_ev tL_areVersions) L st M) ∧
  (∀ L st M, lz_ev tL_areVersions 15 L st M = lo_aload 0 16 (lz_ev tL_areVersions) L st M) ∧
  (∀ L st M, lz_ev tL_areVersions 16 L st M = lo_pushI 12 18 (lz_ev tL_areVersions) L st M) ∧
  (∀ L st M, lz_ev tL_areVersions 18 L st M = lo_aload 0 19 (lz_ev tL_areVersions) L st M) ∧
  (∀ (L : zzLc) (r : List Value) (A : zzMd) (n : Nat), lz_ev tL_areVersions 19 L (.ref 0 :: r) (A, n) = bif zz_cat8 r && decide (n ≤ 2) then lz_bv (lz_ev tL_areVersions) 22 L r n (lz_g fX11_version [.ref 0] A) else none) ∧
  (∀ L st M, lz_ev tL_areVersions 22 L st M = lo_pushI 1 23 (lz_ev tL_areVersions) L st M) ∧
  (∀ L st M, lz_ev tL_areVersions 23 L st M = lo_ii (fun x y => x + y) 24 (lz_ev tL_areVersions) L st M) ∧
  (∀ L st M, lz_ev tL_areVersions 24 L st M = lo_pushI 0 25 (lz_ev tL_areVersions) L st M) ∧
  (∀ L st M, lz_ev tL_areVersions 25 L st M = lo_pushI 0 26 (lz_ev tL_areVersions) L st M) ∧
  (∀ (L : zzLc) (a1 a2 a3 a4 : Int32) (a0 : Nat) (r : List Value) (A : zzMd) (n : Nat), lz_ev tL_areVersions 26 L (.int a4 :: .int a3 :: .int a2 :: .int a1 :: .ref a0 :: r) (A, n) = bif zz_cat8 r && decide (n + 1 ≤ 2) then lz_bs (lz_ev tL_areVersions) 29 L r (n + 1) (fL_of [.ref a0, .int a1, .int a2, .int a3, .int a4] A) else none) ∧
  (∀ L st M, lz_ev tL_areVersions 29 L st M = lo_pushI (-1271) 32 (lz_ev tL_areVersions) L st M) ∧
  (∀ L st M, lz_ev tL_areVersions 32 L st M = lo_icmp (fun x y => decide (¬ x = y)) 39 35 (lz_ev tL_areVersions) L st M) ∧
  (∀ L st M, lz_ev tL_areVersions 35 L st M = lo_pushI 1 36 (lz_ev tL_areVersions) L st M) ∧
  (∀ L st M, lz_ev tL_areVersions 36 L st M = lo_goto 40 (lz_ev tL_areVersions) L st M) ∧
  (∀ L st M, lz_ev tL_areVersions 39 L st M = lo_pushI 0 40 (lz_ev tL_areVersions) L st M) ∧
  (∀ L st M, lz_ev tL_areVersions 40 L st M = lo_istore 2 41 (lz_ev tL_areVersions) L st M) ∧
  (∀ L st M, lz_ev tL_areVersions 41 L st M = lo_pushI 0 42 (lz_ev tL_areVersions) L st M) ∧
  (∀ L st M, lz_ev tL_areVersions 42 L st M = lo_istore 3 43 (lz_ev tL_areVersions) L st M) ∧
  (∀ L st M, lz_ev tL_areVersions 44 L st M = lo_aload 0 45 (lz_ev tL_areVersions) L st M) ∧
  (∀ (L : zzLc) (r : List Value) (A : zzMd) (n : Nat), lz_ev tL_areVersions 45 L (.ref 0 :: r) (A, n) = bif zz_cat8 r && decide (n ≤ 2) then lz_bv (lz_ev tL_areVersions) 48 L r n (lz_g fX11_objects [.ref 0] A) else none) ∧
  (∀ L st M, lz_ev tL_areVersions 48 L st M = lo_icmp (fun x y => decide (y ≤ x)) 61 51 (lz_ev tL_areVersions) L st M) ∧
  (∀ L st M, lz_ev tL_areVersions 51 L st M = lo_aload 1 52 (lz_ev tL_areVersions) L st M) ∧
  (∀ L st M, lz_ev tL_areVersions 52 L st M = lo_iload 3 53 (lz_ev tL_areVersions) L st M) ∧
  (∀ L st M, lz_ev tL_areVersions 53 L st M = lo_pushI 0 54 (lz_ev tL_areVersions) L st M) ∧
  (∀ L st M, lz_ev tL_areVersions 54 L st M = lo_iast zzSC 55 (lz_ev tL_areVersions) L st M) ∧
  (∀ L st M, lz_ev tL_areVersions 55 L st M = lo_iinc 3 1 58 (lz_ev tL_areVersions) L st M) ∧
  (∀ L st M, lz_ev tL_areVersions 58 L st M = lo_goto 43 (lz_ev tL_areVersions) L st M) ∧
  (∀ L st M, lz_ev tL_areVersions 61 L st M = lo_pushI 1 62 (lz_ev tL_areVersions) L st M) ∧
  (∀ L st M, lz_ev tL_areVersions 62 L st M = lo_istore 3 63 (lz_ev tL_areVersions) L st M) ∧
  (∀ L st M, lz_ev tL_areVersions 64 L st M = lo_aload 0 65 (lz_ev tL_areVersions) L st M) ∧
  (∀ (L : zzLc) (r : List Value) (A : zzMd) (n : Nat), lz_ev tL_areVersions 65 L (.ref 0 :: r) (A, n) = bif zz_cat8 r && decide (n ≤ 2) then lz_bv (lz_ev tL_areVersions) 68 L r n (lz_g fX11_version [.ref 0] A) else none) ∧
  (∀ L st M, lz_ev tL_areVersions 68 L st M = lo_icmp (fun x y => decide (y < x)) 89 71 (lz_ev tL_areVersions) L st M) ∧
  (∀ L st M, lz_ev tL_areVersions 71 L st M = lo_iload 2 72 (lz_ev tL_areVersions) L st M) ∧
  (∀ L st M, lz_ev tL_areVersions 72 L st M = lo_if (fun x => decide (x = 0)) 89 75 (lz_ev tL_areVersions) L st M) ∧
  (∀ L st M, lz_ev tL_areVersions 75 L st M = lo_aload 1 76 (lz_ev tL_areVersions) L st M) ∧
  (∀ L st M, lz_ev tL_areVersions 76 L st M = lo_aload 0 77 (lz_ev tL_areVersions) L st M) ∧
  (∀ L st M, lz_ev tL_areVersions 77 L st M = lo_iload 3 78 (lz_ev tL_areVersions) L st M) ∧
  (∀ (L : zzLc) (a0 : Int32) (r : List Value) (A : zzMd) (n : Nat), lz_ev tL_areVersions 78 L (.int a0 :: .ref 0 :: r) (A, n) = bif zz_cat8 r && decide (n ≤ 2) then lz_bv (lz_ev tL_areVersions) 81 L r n (lz_g fX11_objectOf [.ref 0, .int a0] A) else none) ∧
  (∀ L st M, lz_ev tL_areVersions 81 L st M = lo_iload 3 82 (lz_ev tL_areVersions) L st M) ∧
  (∀ L st M, lz_ev tL_areVersions 82 L st M = lo_iast zzSC 83 (lz_ev tL_areVersions) L st M) ∧
  (∀ L st M, lz_ev tL_areVersions 83 L st M = lo_iinc 3 1 86 (lz_ev tL_areVersions) L st M) ∧
  (∀ L st M, lz_ev tL_areVersions 86 L st M = lo_goto 63 (lz_ev tL_areVersions) L st M) ∧
  (∀ L st M, lz_ev tL_areVersions 89 L st M = lo_pushI 0 90 (lz_ev tL_areVersions) L st M) ∧
  (∀ L st M, lz_ev tL_areVersions 90 L st M = lo_istore 3 91 (lz_ev tL_areVersions) L st M) ∧
  (∀ L st M, lz_ev tL_areVersions 92 L st M = lo_aload 0 93 (lz_ev tL_areVersions) L st M) ∧
  (∀ (L : zzLc) (r : List Value) (A : zzMd) (n : Nat), lz_ev tL_areVersions 93 L (.ref 0 :: r) (A, n) = bif zz_cat8 r && decide (n ≤ 2) then lz_bv (lz_ev tL_areVersions) 96 L r n (lz_g fX11_objects [.ref 0] A) else none) ∧
  (∀ L st M, lz_ev tL_areVersions 96 L st M = lo_icmp (fun x y => decide (y ≤ x)) 132 99 (lz_ev tL_areVersions) L st M) ∧
  (∀ L st M, lz_ev tL_areVersions 99 L st M = lo_iload 2 100 (lz_ev tL_areVersions) L st M) ∧
  (∀ L st M, lz_ev tL_areVersions 100 L st M = lo_if (fun x => decide (x = 0)) 132 103 (lz_ev tL_areVersions) L st M) ∧
  (∀ L st M, lz_ev tL_areVersions 103 L st M = lo_aload 1 104 (lz_ev tL_areVersions) L st M) ∧
  (∀ L st M, lz_ev tL_areVersions 104 L st M = lo_iload 3 105 (lz_ev tL_areVersions) L st M) ∧
  (∀ L st M, lz_ev tL_areVersions 105 L st M = lo_iald zzSC zzSTC 106 (lz_ev tL_areVersions) L st M) ∧
  (∀ L st M, lz_ev tL_areVersions 106 L st M = lo_if (fun x => decide (x ≤ 0)) 124 109 (lz_ev tL_areVersions) L st M) ∧
  (∀ L st M, lz_ev tL_areVersions 109 L st M = lo_aload 0 110 (lz_ev tL_areVersions) L st M) ∧
  (∀ L st M, lz_ev tL_areVersions 110 L st M = lo_iload 3 111 (lz_ev tL_areVersions) L st M) ∧
  (∀ (L : zzLc) (a0 : Int32) (r : List Value) (A : zzMd) (n : Nat), lz_ev tL_areVersions 111 L (.int a0 :: .ref 0 :: r) (A, n) = bif zz_cat8 r && decide (n ≤ 2) then lz_bv (lz_ev tL_areVersions) 114 L r n (lz_g fX11_versionOf [.ref 0, .int a0] A) else none) ∧
  (∀ L st M, lz_ev tL_areVersions 114 L st M = lo_aload 1 115 (lz_ev tL_areVersions) L st M) ∧
  (∀ L st M, lz_ev tL_areVersions 115 L st M = lo_iload 3 116 (lz_ev tL_areVersions) L st M) ∧
  (∀ L st M, lz_ev tL_areVersions 116 L st M = lo_iald zzSC zzSTC 117 (lz_ev tL_areVersions) L st M) ∧
  (∀ L st M, lz_ev tL_areVersions 117 L st M = lo_icmp (fun x y => decide (¬ x = y)) 124 120 (lz_ev tL_areVersions) L st M) ∧
  (∀ L st M, lz_ev tL_areVersions 120 L st M = lo_pushI 1 121 (lz_ev tL_areVersions) L st M) ∧
  (∀ L st M, lz_ev tL_areVersions 121 L st M = lo_goto 125 (lz_ev tL_areVersions) L st M) ∧
  (∀ L st M, lz_ev tL_areVersions 124 L st M = lo_pushI 0 125 (lz_ev tL_areVersions) L st M) ∧
  (∀ L st M, lz_ev tL_areVersions 125 L st M = lo_istore 2 126 (lz_ev tL_areVersions) L st M) ∧
  (∀ L st M, lz_ev tL_areVersions 126 L st M = lo_iinc 3 1 129 (lz_ev tL_areVersions) L st M) ∧
  (∀ L st M, lz_ev tL_areVersions 129 L st M = lo_goto 91 (lz_ev tL_areVersions) L st M) ∧
  (∀ L st M, lz_ev tL_areVersions 132 L st M = lo_iload 2 133 (lz_ev tL_areVersions) L st M) ∧
  (∀ L st M, lz_ev tL_areVersions 133 L st M = lo_iret 2 true (lz_ev tL_areVersions) L st M) :=
  ⟨lz_1 rfl tl_L_areVersions, lz_1 rfl tl_L_areVersions, lz_1 rfl tl_L_areVersions, lz_1 rfl tl_L_areVersions, lz_1 rfl tl_L_areVersions, fun L a1 a2 a3 a4 a0 r A n => (lz_1 rfl tl_L_areVersions _ _ _).trans rfl, lz_1 rfl tl_L_areVersions, lz_1 rfl tl_L_areVersions, lz_1 rfl tl_L_areVersions, lz_1 rfl tl_L_areVersions, lz_1 rfl tl_L_areVersions, fun L  r A n => (lz_1 rfl tl_L_areVersions _ _ _).trans rfl, lz_1 rfl tl_L_areVersions, lz_1 rfl tl_L_areVersions, lz_1 rfl tl_L_areVersions, lz_1 rfl tl_L_areVersions, fun L a1 a2 a3 a4 a0 r A n => (lz_1 rfl tl_L_areVersions _ _ _).trans rfl, lz_1 rfl tl_L_areVersions, lz_1 rfl tl_L_areVersions, lz_1 rfl tl_L_areVersions, lz_1 rfl tl_L_areVersions, lz_1 rfl tl_L_areVersions, lz_1 rfl tl_L_areVersions, lz_1 rfl tl_L_areVersions, lz_1 rfl tl_L_areVersions, lz_1 rfl tl_L_areVersions, fun L  r A n => (lz_1 rfl tl_L_areVersions _ _ _).trans rfl, lz_1 rfl tl_L_areVersions, lz_1 rfl tl_L_areVersions, lz_1 rfl tl_L_areVersions, lz_1 rfl tl_L_areVersions, lz_1 rfl tl_L_areVersions, lz_1 rfl tl_L_areVersions, lz_1 rfl tl_L_areVersions, lz_1 rfl tl_L_areVersions, lz_1 rfl tl_L_areVersions, lz_1 rfl tl_L_areVersions, fun L  r A n => (lz_1 rfl tl_L_areVersions _ _ _).trans rfl, lz_1 rfl tl_L_areVersions, lz_1 rfl tl_L_areVersions, lz_1 rfl tl_L_areVersions, lz_1 rfl tl_L_areVersions, lz_1 rfl tl_L_areVersions, lz_1 rfl tl_L_areVersions, fun L a0 r A n => (lz_1 rfl tl_L_areVersions _ _ _).trans rfl, lz_1 rfl tl_L_areVersions, lz_1 rfl tl_L_areVersions, lz_1 rfl tl_L_areVersions, lz_1 rfl tl_L_areVersions, lz_1 rfl tl_L_areVersions, lz_1 rfl tl_L_areVersions, lz_1 rfl tl_L_areVersions, fun L  r A n => (lz_1 rfl tl_L_areVersions _ _ _).trans rfl, lz_1 rfl tl_L_areVersions, lz_1 rfl tl_L_areVersions, lz_1 rfl tl_L_areVersions, lz_1 rfl tl_L_areVersions, lz_1 rfl tl_L_areVersions, lz_1 rfl tl_L_areVersions, lz_1 rfl tl_L_areVersions, lz_1 rfl tl_L_areVersions, lz_1 rfl tl_L_areVersions, fun L a0 r A n => (lz_1 rfl tl_L_areVersions _ _ _).trans rfl, lz_1 rfl tl_L_areVersions, lz_1 rfl tl_L_areVersions, lz_1 rfl tl_L_areVersions, lz_1 rfl tl_L_areVersions, lz_1 rfl tl_L_areVersions, lz_1 rfl tl_L_areVersions, lz_1 rfl tl_L_areVersions, lz_1 rfl tl_L_areVersions, lz_1 rfl tl_L_areVersions, lz_1 rfl tl_L_areVersions, lz_1 rfl tl_L_areVersions, lz_1 rfl tl_L_areVersions⟩
set_option maxRecDepth 100000 in
theorem e_L_areVersions_43 : (∀ L st M, lz_ev tL_areVersions 43 L st M = lo_iload 3 44 (lz_ev tL_areVersions) L st M) := lz_1 rfl tl_L_areVersions
set_option maxRecDepth 100000 in
theorem e_L_areVersions_63 : (∀ L st M, lz_ev tL_areVersions 63 L st M = lo_iload 3 64 (lz_ev tL_areVersions) L st M) := lz_1 rfl tl_L_areVersions
set_option maxRecDepth 100000 in
theorem e_L_areVersions_91 : (∀ L st M, lz_ev tL_areVersions 91 L st M = lo_iload 3 92 (lz_ev tL_areVersions) L st M) := lz_1 rfl tl_L_areVersions
theorem s_L_areVersions (a0 a1 : Nat) {A A' : zzMd} {v : Option Value} {n : Nat} (h : lz_ev tL_areVersions 0 [some (.ref a0), some (.ref a1), none, none] [] (A, 0) = some (v, (A', n))) : fL_areVersions [.ref a0, .ref a1] A = some (v, A') := lz_fn_of (T := tL_areVersions) (nL := 4) (Nat.le_of_ble_eq_true rfl) h
set_option maxRecDepth 100000 in
theorem e_L_areQueues_p0 : (∀ L st M, lz_ev tL_areQueues 0 L st M = lo_pushI 1 1 (lz_ev tL_areQueues) L st M) ∧
  (∀ L st M, lz_ev tL_areQueues 1 L st M = lo_istore 1 2 (lz_ev tL_areQueues) L st M) ∧
  (∀ L st M, lz_ev tL_areQueues 2 L st M = lo_pushI 1 3 (lz_ev tL_areQueues) L st M) ∧
  (∀ L st M, lz_ev tL_areQueues 3 L st M = lo_istore 2 4 (lz_ev tL_areQueues) L st M) ∧
  (∀ L st M, lz_ev tL_areQueues 4 L st M = lo_pushI 0 5 (lz_ev tL_areQueues) L st M) ∧
  (∀ L st M, lz_ev tL_areQueues 5 L st M = lo_istore 3 6 (lz_ev tL_areQueues) L st M) ∧
  (∀ L st M, lz_ev tL_areQueues 7 L st M = lo_pushI 8 9 (lz_ev tL_areQueues) L st M) ∧
  (∀ L st M, lz_ev tL_areQueues 9 L st M = lo_icmp (fun x y => decide (y ≤ x)) 284 12 (lz_ev tL_areQueues) L st M) ∧
  (∀ L st M, lz_ev tL_areQueues 12 L st M = lo_iload 1 13 (lz_ev tL_areQueues) L st M) ∧
  (∀ L st M, lz_ev tL_areQueues 13 L st M = lo_if (fun x => decide (x = 0)) 284 16 (lz_ev tL_areQueues) L st M) ∧
  (∀ L st M, lz_ev tL_areQueues 16 L st M = lo_pushL 0 17 (lz_ev tL_areQueues) L st M) ∧
  (∀ L st M, lz_ev tL_areQueues 17 L st M = lo_lstore 4 19 (lz_ev tL_areQueues) L st M) ∧
  (∀ L st M, lz_ev tL_areQueues 19 L st M = lo_pushI 0 20 (lz_ev tL_areQueues) L st M) ∧
  (∀ L st M, lz_ev tL_areQueues 20 L st M = lo_istore 6 22 (lz_ev tL_areQueues) L st M) ∧
  (∀ L st M, lz_ev tL_areQueues 23 L st M = lo_if (fun x => decide (x = 0)) 148 26 (lz_ev tL_areQueues) L st M) ∧
  (∀ L st M, lz_ev tL_areQueues 26 L st M = lo_aload 0 27 (lz_ev tL_areQueues) L st M) ∧
  (∀ L st M, lz_ev tL_areQueues 27 L st M = lo_iload 3 28 (lz_ev tL_areQueues) L st M) ∧
  (∀ L st M, lz_ev tL_areQueues 28 L st M = lo_iload 6 30 (lz_ev tL_areQueues) L st M) ∧
  (∀ (L : zzLc) (a0 a1 : Int32) (r : List Value) (A : zzMd) (n : Nat), lz_ev tL_areQueues 30 L (.int a1 :: .int a0 :: .ref 0 :: r) (A, n) = bif zz_cat8 r && decide (n ≤ 0) then lz_bv (lz_ev tL_areQueues) 33 L r n (lz_g fX11_queued [.ref 0, .int a0, .int a1] A) else none) ∧
  (∀ L st M, lz_ev tL_areQueues 33 L st M = lo_if (fun x => decide (x < 0)) 148 36 (lz_ev tL_areQueues) L st M) ∧
  (∀ L st M, lz_ev tL_areQueues 36 L st M = lo_aload 0 37 (lz_ev tL_areQueues) L st M) ∧
  (∀ L st M, lz_ev tL_areQueues 37 L st M = lo_iload 3 38 (lz_ev tL_areQueues) L st M) ∧
  (∀ L st M, lz_ev tL_areQueues 38 L st M = lo_iload 6 40 (lz_ev tL_areQueues) L st M) ∧
  (∀ (L : zzLc) (a0 a1 : Int32) (r : List Value) (A : zzMd) (n : Nat), lz_ev tL_areQueues 40 L (.int a1 :: .int a0 :: .ref 0 :: r) (A, n) = bif zz_cat8 r && decide (n ≤ 0) then lz_bv (lz_ev tL_areQueues) 43 L r n (lz_g fX11_queued [.ref 0, .int a0, .int a1] A) else none) ∧
  (∀ L st M, lz_ev tL_areQueues 43 L st M = lo_istore 7 45 (lz_ev tL_areQueues) L st M) ∧
  (∀ L st M, lz_ev tL_areQueues 45 L st M = lo_iload 3 46 (lz_ev tL_areQueues) L st M) ∧
  (∀ L st M, lz_ev tL_areQueues 46 L st M = lo_if (fun x => decide (x = 0)) 55 49 (lz_ev tL_areQueues) L st M) ∧
  (∀ L st M, lz_ev tL_areQueues 49 L st M = lo_iload 3 50 (lz_ev tL_areQueues) L st M) ∧
  (∀ L st M, lz_ev tL_areQueues 50 L st M = lo_pushI 7 52 (lz_ev tL_areQueues) L st M) ∧
  (∀ L st M, lz_ev tL_areQueues 52 L st M = lo_icmp (fun x y => decide (¬ x = y)) 59 55 (lz_ev tL_areQueues) L st M) ∧
  (∀ L st M, lz_ev tL_areQueues 55 L st M = lo_pushI 0 56 (lz_ev tL_areQueues) L st M) ∧
  (∀ L st M, lz_ev tL_areQueues 56 L st M = lo_goto 102 (lz_ev tL_areQueues) L st M) ∧
  (∀ L st M, lz_ev tL_areQueues 59 L st M = lo_iload 3 60 (lz_ev tL_areQueues) L st M) ∧
  (∀ L st M, lz_ev tL_areQueues 60 L st M = lo_pushI 1 61 (lz_ev tL_areQueues) L st M) ∧
  (∀ L st M, lz_ev tL_areQueues 61 L st M = lo_icmp (fun x y => decide (¬ x = y)) 68 64 (lz_ev tL_areQueues) L st M) ∧
  (∀ L st M, lz_ev tL_areQueues 64 L st M = lo_pushI 1 65 (lz_ev tL_areQueues) L st M) ∧
  (∀ L st M, lz_ev tL_areQueues 65 L st M = lo_goto 102 (lz_ev tL_areQueues) L st M) ∧
  (∀ L st M, lz_ev tL_areQueues 68 L st M = lo_iload 3 69 (lz_ev tL_areQueues) L st M) ∧
  (∀ L st M, lz_ev tL_areQueues 69 L st M = lo_pushI 2 70 (lz_ev tL_areQueues) L st M) ∧
  (∀ L st M, lz_ev tL_areQueues 70 L st M = lo_icmp (fun x y => decide (¬ x = y)) 77 73 (lz_ev tL_areQueues) L st M) ∧
  (∀ L st M, lz_ev tL_areQueues 73 L st M = lo_pushI 3 74 (lz_ev tL_areQueues) L st M) ∧
  (∀ L st M, lz_ev tL_areQueues 74 L st M = lo_goto 102 (lz_ev tL_areQueues) L st M) ∧
  (∀ L st M, lz_ev tL_areQueues 77 L st M = lo_iload 3 78 (lz_ev tL_areQueues) L st M) ∧
  (∀ L st M, lz_ev tL_areQueues 78 L st M = lo_pushI 6 80 (lz_ev tL_areQueues) L st M) ∧
  (∀ L st M, lz_ev tL_areQueues 80 L st M = lo_icmp (fun x y => decide (¬ x = y)) 87 83 (lz_ev tL_areQueues) L st M) ∧
  (∀ L st M, lz_ev tL_areQueues 83 L st M = lo_pushI 5 84 (lz_ev tL_areQueues) L st M) ∧
  (∀ L st M, lz_ev tL_areQueues 84 L st M = lo_goto 102 (lz_ev tL_areQueues) L st M) ∧
  (∀ L st M, lz_ev tL_areQueues 87 L st M = lo_iload 3 88 (lz_ev tL_areQueues) L st M) ∧
  (∀ L st M, lz_ev tL_areQueues 88 L st M = lo_pushI 5 89 (lz_ev tL_areQueues) L st M) ∧
  (∀ L st M, lz_ev tL_areQueues 89 L st M = lo_icmp (fun x y => decide (¬ x = y)) 101 92 (lz_ev tL_areQueues) L st M) ∧
  (∀ L st M, lz_ev tL_areQueues 92 L st M = lo_aload 0 93 (lz_ev tL_areQueues) L st M) ∧
  (∀ L st M, lz_ev tL_areQueues 93 L st M = lo_iload 7 95 (lz_ev tL_areQueues) L st M) ∧
  (∀ (L : zzLc) (a0 : Int32) (r : List Value) (A : zzMd) (n : Nat), lz_ev tL_areQueues 95 L (.int a0 :: .ref 0 :: r) (A, n) = bif zz_cat8 r && decide (n ≤ 0) then lz_bv (lz_ev tL_areQueues) 98 L r n (lz_g fX11_kindOf [.ref 0, .int a0] A) else none) ∧
  (∀ L st M, lz_ev tL_areQueues 98 L st M = lo_goto 102 (lz_ev tL_areQueues) L st M) ∧
  (∀ L st M, lz_ev tL_areQueues 101 L st M = lo_pushI 2 102 (lz_ev tL_areQueues) L st M) ∧
  (∀ L st M, lz_ev tL_areQueues 102 L st M = lo_istore 8 104 (lz_ev tL_areQueues) L st M) ∧
  (∀ L st M, lz_ev tL_areQueues 104 L st M = lo_lload 4 106 (lz_ev tL_areQueues) L st M) ∧
  (∀ L st M, lz_ev tL_areQueues 106 L st M = lo_iload 7 108 (lz_ev tL_areQueues) L st M) ∧
  (∀ L st M, lz_ev tL_areQueues 108 L st M = lo_li (fun x y => x >>> (y.toInt64 &&& 63)) 109 (lz_ev tL_areQueues) L st M) ∧
  (∀ L st M, lz_ev tL_areQueues 109 L st M = lo_pushL 1 110 (lz_ev tL_areQueues) L st M) ∧
  (∀ L st M, lz_ev tL_areQueues 110 L st M = lo_ll (fun x y => x &&& y) 111 (lz_ev tL_areQueues) L st M) ∧
  (∀ L st M, lz_ev tL_areQueues 111 L st M = lo_pushL 0 112 (lz_ev tL_areQueues) L st M) ∧
  (∀ L st M, lz_ev tL_areQueues 112 L st M = lo_lcmp 113 (lz_ev tL_areQueues) L st M) ∧
  (∀ L st M, lz_ev tL_areQueues 113 L st M = lo_if (fun x => decide (¬ x = 0)) 131 116 (lz_ev tL_areQueues) L st M) ∧
  (∀ L st M, lz_ev tL_areQueues 116 L st M = lo_aload 0 117 (lz_ev tL_areQueues) L st M) ∧
  (∀ L st M, lz_ev tL_areQueues 117 L st M = lo_iload 7 119 (lz_ev tL_areQueues) L st M) ∧
  (∀ (L : zzLc) (a0 : Int32) (r : List Value) (A : zzMd) (n : Nat), lz_ev tL_areQueues 119 L (.int a0 :: .ref 0 :: r) (A, n) = bif zz_cat8 r && decide (n ≤ 0) then lz_bv (lz_ev tL_areQueues) 122 L r n (lz_g fX11_kindOf [.ref 0, .int a0] A) else none) ∧
  (∀ L st M, lz_ev tL_areQueues 122 L st M = lo_iload 8 124 (lz_ev tL_areQueues) L st M) ∧
  (∀ L st M, lz_ev tL_areQueues 124 L st M = lo_icmp (fun x y => decide (¬ x = y)) 131 127 (lz_ev tL_areQueues) L st M) ∧
  (∀ L st M, lz_ev tL_areQueues 127 L st M = lo_pushI 1 128 (lz_ev tL_areQueues) L st M) ∧
  (∀ L st M, lz_ev tL_areQueues 128 L st M = lo_goto 132 (lz_ev tL_areQueues) L st M) ∧
  (∀ L st M, lz_ev tL_areQueues 131 L st M = lo_pushI 0 132 (lz_ev tL_areQueues) L st M) ∧
  (∀ L st M, lz_ev tL_areQueues 132 L st M = lo_istore 1 133 (lz_ev tL_areQueues) L st M) ∧
  (∀ L st M, lz_ev tL_areQueues 133 L st M = lo_lload 4 135 (lz_ev tL_areQueues) L st M) ∧
  (∀ L st M, lz_ev tL_areQueues 135 L st M = lo_pushL 1 136 (lz_ev tL_areQueues) L st M) ∧
  (∀ L st M, lz_ev tL_areQueues 136 L st M = lo_iload 7 138 (lz_ev tL_areQueues) L st M) ∧
  (∀ L st M, lz_ev tL_areQueues 138 L st M = lo_li (fun x y => x <<< (y.toInt64 &&& 63)) 139 (lz_ev tL_areQueues) L st M) ∧
  (∀ L st M, lz_ev tL_areQueues 139 L st M = lo_ll (fun x y => x ||| y) 140 (lz_ev tL_areQueues) L st M) ∧
  (∀ L st M, lz_ev tL_areQueues 140 L st M = lo_lstore 4 142 (lz_ev tL_areQueues) L st M) ∧
  (∀ L st M, lz_ev tL_areQueues 142 L st M = lo_iinc 6 1 145 (lz_ev tL_areQueues) L st M) ∧
  (∀ L st M, lz_ev tL_areQueues 145 L st M = lo_goto 22 (lz_ev tL_areQueues) L st M) ∧
  (∀ L st M, lz_ev tL_areQueues 148 L st M = lo_iload 2 149 (lz_ev tL_areQueues) L st M) ∧
  (∀ L st M, lz_ev tL_areQueues 149 L st M = lo_if (fun x => decide (x = 0)) 173 152 (lz_ev tL_areQueues) L st M) ∧
  (∀ L st M, lz_ev tL_areQueues 152 L st M = lo_iload 6 154 (lz_ev tL_areQueues) L st M) ∧
  (∀ L st M, lz_ev tL_areQueues 154 L st M = lo_if (fun x => decide (¬ x = 0)) 173 157 (lz_ev tL_areQueues) L st M) ∧
  (∀ L st M, lz_ev tL_areQueues 157 L st M = lo_aload 0 158 (lz_ev tL_areQueues) L st M) ∧
  (∀ L st M, lz_ev tL_areQueues 158 L st M = lo_iload 3 159 (lz_ev tL_areQueues) L st M) ∧
  (∀ (L : zzLc) (a0 : Int32) (r : List Value) (A : zzMd) (n : Nat), lz_ev tL_areQueues 159 L (.int a0 :: .ref 0 :: r) (A, n) = bif zz_cat8 r && decide (n ≤ 0) then lz_bv (lz_ev tL_areQueues) 162 L r n (lz_g fX11_seen [.ref 0, .int a0] A) else none) ∧
  (∀ L st M, lz_ev tL_areQueues 162 L st M = lo_aload 0 163 (lz_ev tL_areQueues) L st M) ∧
  (∀ (L : zzLc) (r : List Value) (A : zzMd) (n : Nat), lz_ev tL_areQueues 163 L (.ref 0 :: r) (A, n) = bif zz_cat8 r && decide (n ≤ 0) then lz_bv (lz_ev tL_areQueues) 166 L r n (lz_g fX11_version [.ref 0] A) else none) ∧
  (∀ L st M, lz_ev tL_areQueues 166 L st M = lo_icmp (fun x y => decide (¬ x = y)) 173 169 (lz_ev tL_areQueues) L st M) ∧
  (∀ L st M, lz_ev tL_areQueues 169 L st M = lo_pushI 1 170 (lz_ev tL_areQueues) L st M) ∧
  (∀ L st M, lz_ev tL_areQueues 170 L st M = lo_goto 174 (lz_ev tL_areQueues) L st M) ∧
  (∀ L st M, lz_ev tL_areQueues 173 L st M = lo_pushI 0 174 (lz_ev tL_areQueues) L st M) ∧
  (∀ L st M, lz_ev tL_areQueues 174 L st M = lo_istore 2 175 (lz_ev tL_areQueues) L st M) ∧
  (∀ L st M, lz_ev tL_areQueues 175 L st M = lo_iload 1 176 (lz_ev tL_areQueues) L st M) ∧
  (∀ L st M, lz_ev tL_areQueues 176 L st M = lo_if (fun x => decide (x = 0)) 216 179 (lz_ev tL_areQueues) L st M) ∧
  (∀ L st M, lz_ev tL_areQueues 179 L st M = lo_aload 0 180 (lz_ev tL_areQueues) L st M) ∧
  (∀ L st M, lz_ev tL_areQueues 180 L st M = lo_iload 3 181 (lz_ev tL_areQueues) L st M) ∧
  (∀ L st M, lz_ev tL_areQueues 181 L st M = lo_iload 6 183 (lz_ev tL_areQueues) L st M) ∧
  (∀ L st M, lz_ev tL_areQueues 183 L st M = lo_pushI 1 184 (lz_ev tL_areQueues) L st M) ∧
  (∀ L st M, lz_ev tL_areQueues 184 L st M = lo_ii (fun x y => x + y) 185 (lz_ev tL_areQueues) L st M) ∧
  (∀ (L : zzLc) (a0 a1 : Int32) (r : List Value) (A : zzMd) (n : Nat), lz_ev tL_areQueues 185 L (.int a1 :: .int a0 :: .ref 0 :: r) (A, n) = bif zz_cat8 r && decide (n ≤ 0) then lz_bv (lz_ev tL_areQueues) 188 L r n (lz_g fX11_queued [.ref 0, .int a0, .int a1] A) else none) ∧
  (∀ L st M, lz_ev tL_areQueues 188 L st M = lo_pushI (-1) 189 (lz_ev tL_areQueues) L st M) ∧
  (∀ L st M, lz_ev tL_areQueues 189 L st M = lo_icmp (fun x y => decide (¬ x = y)) 216 192 (lz_ev tL_areQueues) L st M) ∧
  (∀ L st M, lz_ev tL_areQueues 192 L st M = lo_aload 0 193 (lz_ev tL_areQueues) L st M) ∧
  (∀ L st M, lz_ev tL_areQueues 193 L st M = lo_iload 3 194 (lz_ev tL_areQueues) L st M) ∧
  (∀ (L : zzLc) (a0 : Int32) (r : List Value) (A : zzMd) (n : Nat), lz_ev tL_areQueues 194 L (.int a0 :: .ref 0 :: r) (A, n) = bif zz_cat8 r && decide (n ≤ 0) then lz_bv (lz_ev tL_areQueues) 197 L r n (lz_g fX11_seen [.ref 0, .int a0] A) else none) ∧
  (∀ L st M, lz_ev tL_areQueues 197 L st M = lo_if (fun x => decide (x < 0)) 216 200 (lz_ev tL_areQueues) L st M) ∧
  (∀ L st M, lz_ev tL_areQueues 200 L st M = lo_aload 0 201 (lz_ev tL_areQueues) L st M) ∧
  (∀ L st M, lz_ev tL_areQueues 201 L st M = lo_iload 3 202 (lz_ev tL_areQueues) L st M) ∧
  (∀ (L : zzLc) (a0 : Int32) (r : List Value) (A : zzMd) (n : Nat), lz_ev tL_areQueues 202 L (.int a0 :: .ref 0 :: r) (A, n) = bif zz_cat8 r && decide (n ≤ 0) then lz_bv (lz_ev tL_areQueues) 205 L r n (lz_g fX11_seen [.ref 0, .int a0] A) else none) ∧
  (∀ L st M, lz_ev tL_areQueues 205 L st M = lo_aload 0 206 (lz_ev tL_areQueues) L st M) ∧
  (∀ (L : zzLc) (r : List Value) (A : zzMd) (n : Nat), lz_ev tL_areQueues 206 L (.ref 0 :: r) (A, n) = bif zz_cat8 r && decide (n ≤ 0) then lz_bv (lz_ev tL_areQueues) 209 L r n (lz_g fX11_version [.ref 0] A) else none) ∧
  (∀ L st M, lz_ev tL_areQueues 209 L st M = lo_icmp (fun x y => decide (y < x)) 216 212 (lz_ev tL_areQueues) L st M) ∧
  (∀ L st M, lz_ev tL_areQueues 212 L st M = lo_pushI 1 213 (lz_ev tL_areQueues) L st M) ∧
  (∀ L st M, lz_ev tL_areQueues 213 L st M = lo_goto 217 (lz_ev tL_areQueues) L st M) ∧
  (∀ L st M, lz_ev tL_areQueues 216 L st M = lo_pushI 0 217 (lz_ev tL_areQueues) L st M) ∧
  (∀ L st M, lz_ev tL_areQueues 217 L st M = lo_istore 1 218 (lz_ev tL_areQueues) L st M) ∧
  (∀ L st M, lz_ev tL_areQueues 218 L st M = lo_pushI 0 219 (lz_ev tL_areQueues) L st M) ∧
  (∀ L st M, lz_ev tL_areQueues 219 L st M = lo_istore 7 221 (lz_ev tL_areQueues) L st M) ∧
  (∀ L st M, lz_ev tL_areQueues 223 L st M = lo_aload 0 224 (lz_ev tL_areQueues) L st M) ∧
  (∀ (L : zzLc) (r : List Value) (A : zzMd) (n : Nat), lz_ev tL_areQueues 224 L (.ref 0 :: r) (A, n) = bif zz_cat8 r && decide (n ≤ 0) then lz_bv (lz_ev tL_areQueues) 227 L r n (lz_g fX11_objects [.ref 0] A) else none) ∧
  (∀ L st M, lz_ev tL_areQueues 227 L st M = lo_icmp (fun x y => decide (y ≤ x)) 278 230 (lz_ev tL_areQueues) L st M) ∧
  (∀ L st M, lz_ev tL_areQueues 230 L st M = lo_iload 1 231 (lz_ev tL_areQueues) L st M) ∧
  (∀ L st M, lz_ev tL_areQueues 231 L st M = lo_if (fun x => decide (x = 0)) 278 234 (lz_ev tL_areQueues) L st M) ∧
  (∀ L st M, lz_ev tL_areQueues 234 L st M = lo_aload 0 235 (lz_ev tL_areQueues) L st M) ∧
  (∀ L st M, lz_ev tL_areQueues 235 L st M = lo_iload 3 236 (lz_ev tL_areQueues) L st M) ∧
  (∀ L st M, lz_ev tL_areQueues 236 L st M = lo_iload 7 238 (lz_ev tL_areQueues) L st M) ∧
  (∀ (L : zzLc) (a0 a1 : Int32) (r : List Value) (A : zzMd) (n : Nat), lz_ev tL_areQueues 238 L (.int a1 :: .int a0 :: .ref 0 :: r) (A, n) = bif zz_cat8 r && decide (n ≤ 0) then lz_bv (lz_ev tL_areQueues) 241 L r n (lz_g fX11_failures [.ref 0, .int a0, .int a1] A) else none) ∧
  (∀ L st M, lz_ev tL_areQueues 241 L st M = lo_if (fun x => decide (x < 0)) 270 244 (lz_ev tL_areQueues) L st M) ∧
  (∀ L st M, lz_ev tL_areQueues 244 L st M = lo_aload 0 245 (lz_ev tL_areQueues) L st M) ∧
  (∀ L st M, lz_ev tL_areQueues 245 L st M = lo_iload 3 246 (lz_ev tL_areQueues) L st M) ∧
  (∀ L st M, lz_ev tL_areQueues 246 L st M = lo_iload 7 248 (lz_ev tL_areQueues) L st M) ∧
  (∀ (L : zzLc) (a0 a1 : Int32) (r : List Value) (A : zzMd) (n : Nat), lz_ev tL_areQueues 248 L (.int a1 :: .int a0 :: .ref 0 :: r) (A, n) = bif zz_cat8 r && decide (n ≤ 0) then lz_bv (lz_ev tL_areQueues) 251 L r n (lz_g fX11_failures [.ref 0, .int a0, .int a1] A) else none) ∧
  (∀ L st M, lz_ev tL_areQueues 251 L st M = lo_if (fun x => decide (x = 0)) 266 254 (lz_ev tL_areQueues) L st M) ∧
  (∀ L st M, lz_ev tL_areQueues 254 L st M = lo_lload 4 256 (lz_ev tL_areQueues) L st M) ∧
  (∀ L st M, lz_ev tL_areQueues 256 L st M = lo_iload 7 258 (lz_ev tL_areQueues) L st M) ∧
  (∀ L st M, lz_ev tL_areQueues 258 L st M = lo_li (fun x y => x >>> (y.toInt64 &&& 63)) 259 (lz_ev tL_areQueues) L st M) ∧
  (∀ L st M, lz_ev tL_areQueues 259 L st M = lo_pushL 1 260 (lz_ev tL_areQueues) L st M) ∧
  (∀ L st M, lz_ev tL_areQueues 260 L st M = lo_ll (fun x y => x &&& y) 261 (lz_ev tL_areQueues) L st M) ∧
  (∀ L st M, lz_ev tL_areQueues 261 L st M = lo_pushL 1 262 (lz_ev tL_areQueues) L st M) ∧
  (∀ L st M, lz_ev tL_areQueues 262 L st M = lo_lcmp 263 (lz_ev tL_areQueues) L st M) ∧
  (∀ L st M, lz_ev tL_areQueues 263 L st M = lo_if (fun x => decide (¬ x = 0)) 270 266 (lz_ev tL_areQueues) L st M) ∧
  (∀ L st M, lz_ev tL_areQueues 266 L st M = lo_pushI 1 267 (lz_ev tL_areQueues) L st M) ∧
  (∀ L st M, lz_ev tL_areQueues 267 L st M = lo_goto 271 (lz_ev tL_areQueues) L st M) ∧
  (∀ L st M, lz_ev tL_areQueues 270 L st M = lo_pushI 0 271 (lz_ev tL_areQueues) L st M) ∧
  (∀ L st M, lz_ev tL_areQueues 271 L st M = lo_istore 1 272 (lz_ev tL_areQueues) L st M) ∧
  (∀ L st M, lz_ev tL_areQueues 272 L st M = lo_iinc 7 1 275 (lz_ev tL_areQueues) L st M) ∧
  (∀ L st M, lz_ev tL_areQueues 275 L st M = lo_goto 221 (lz_ev tL_areQueues) L st M) :=
  ⟨lz_1 rfl tl_L_areQueues, lz_1 rfl tl_L_areQueues, lz_1 rfl tl_L_areQueues, lz_1 rfl tl_L_areQueues, lz_1 rfl tl_L_areQueues, lz_1 rfl tl_L_areQueues, lz_1 rfl tl_L_areQueues, lz_1 rfl tl_L_areQueues, lz_1 rfl tl_L_areQueues, lz_1 rfl tl_L_areQueues, lz_1 rfl tl_L_areQueues, lz_1 rfl tl_L_areQueues, lz_1 rfl tl_L_areQueues, lz_1 rfl tl_L_areQueues, lz_1 rfl tl_L_areQueues, lz_1 rfl tl_L_areQueues, lz_1 rfl tl_L_areQueues, lz_1 rfl tl_L_areQueues, fun L a0 a1 r A n => (lz_1 rfl tl_L_areQueues _ _ _).trans rfl, lz_1 rfl tl_L_areQueues, lz_1 rfl tl_L_areQueues, lz_1 rfl tl_L_areQueues, lz_1 rfl tl_L_areQueues, fun L a0 a1 r A n => (lz_1 rfl tl_L_areQueues _ _ _).trans rfl, lz_1 rfl tl_L_areQueues, lz_1 rfl tl_L_areQueues, lz_1 rfl tl_L_areQueues, lz_1 rfl tl_L_areQueues, lz_1 rfl tl_L_areQueues, lz_1 rfl tl_L_areQueues, lz_1 rfl tl_L_areQueues, lz_1 rfl tl_L_areQueues, lz_1 rfl tl_L_areQueues, lz_1 rfl tl_L_areQueues, lz_1 rfl tl_L_areQueues, lz_1 rfl tl_L_areQueues, lz_1 rfl tl_L_areQueues, lz_1 rfl tl_L_areQueues, lz_1 rfl tl_L_areQueues, lz_1 rfl tl_L_areQueues, lz_1 rfl tl_L_areQueues, lz_1 rfl tl_L_areQueues, lz_1 rfl tl_L_areQueues, lz_1 rfl tl_L_areQueues, lz_1 rfl tl_L_areQueues, lz_1 rfl tl_L_areQueues, lz_1 rfl tl_L_areQueues, lz_1 rfl tl_L_areQueues, lz_1 rfl tl_L_areQueues, lz_1 rfl tl_L_areQueues, lz_1 rfl tl_L_areQueues, lz_1 rfl tl_L_areQueues, fun L a0 r A n => (lz_1 rfl tl_L_areQueues _ _ _).trans rfl, lz_1 rfl tl_L_areQueues, lz_1 rfl tl_L_areQueues, lz_1 rfl tl_L_areQueues, lz_1 rfl tl_L_areQueues, lz_1 rfl tl_L_areQueues, lz_1 rfl tl_L_areQueues, lz_1 rfl tl_L_areQueues, lz_1 rfl tl_L_areQueues, lz_1 rfl tl_L_areQueues, lz_1 rfl tl_L_areQueues, lz_1 rfl tl_L_areQueues, lz_1 rfl tl_L_areQueues, lz_1 rfl tl_L_areQueues, fun L a0 r A n => (lz_1 rfl tl_L_areQueues _ _ _).trans rfl, lz_1 rfl tl_L_areQueues, lz_1 rfl tl_L_areQueues, lz_1 rfl tl_L_areQueues, lz_1 rfl tl_L_areQueues, lz_1 rfl tl_L_areQueues, lz_1 rfl tl_L_areQueues, lz_1 rfl tl_L_areQueues, lz_1 rfl tl_L_areQueues, lz_1 rfl tl_L_areQueues, lz_1 rfl tl_L_areQueues, lz_1 rfl tl_L_areQueues, lz_1 rfl tl_L_areQueues, lz_1 rfl tl_L_areQueues, lz_1 rfl tl_L_areQueues, lz_1 rfl tl_L_areQueues, lz_1 rfl tl_L_areQueues, lz_1 rfl tl_L_areQueues, lz_1 rfl tl_L_areQueues, lz_1 rfl tl_L_areQueues, lz_1 rfl tl_L_areQueues, fun L a0 r A n => (lz_1 rfl tl_L_areQueues _ _ _).trans rfl, lz_1 rfl tl_L_areQueues, fun L  r A n => (lz_1 rfl tl_L_areQueues _ _ _).trans rfl, lz_1 rfl tl_L_areQueues, lz_1 rfl tl_L_areQueues, lz_1 rfl tl_L_areQueues, lz_1 rfl tl_L_areQueues, lz_1 rfl tl_L_areQueues, lz_1 rfl tl_L_areQueues, lz_1 rfl tl_L_areQueues, lz_1 rfl tl_L_areQueues, lz_1 rfl tl_L_areQueues, lz_1 rfl tl_L_areQueues, lz_1 rfl tl_L_areQueues, lz_1 rfl tl_L_areQueues, fun L a0 a1 r A n => (lz_1 rfl tl_L_areQueues _ _ _).trans rfl, lz_1 rfl tl_L_areQueues, lz_1 rfl tl_L_areQueues, lz_1 rfl tl_L_areQueues, lz_1 rfl tl_L_areQueues, fun L a0 r A n => (lz_1 rfl tl_L_areQueues _ _ _).trans rfl, lz_1 rfl tl_L_areQueues, lz_1 rfl tl_L_areQueues, lz_1 rfl tl_L_areQueues, fun L a0 r A n => (lz_1 rfl tl_L_areQueues _ _ _).trans rfl, lz_1 rfl tl_L_areQueues, fun L  r A n => (lz_1 rfl tl_L_areQueues _ _ _).trans rfl, lz_1 rfl tl_L_areQueues, lz_1 rfl tl_L_areQueues, lz_1 rfl tl_L_areQueues, lz_1 rfl tl_L_areQueues, lz_1 rfl tl_L_areQueues, lz_1 rfl tl_L_areQueues, lz_1 rfl tl_L_areQueues, lz_1 rfl tl_L_areQueues, fun L  r A n => (lz_1 rfl tl_L_areQueues _ _ _).trans rfl, lz_1 rfl tl_L_areQueues, lz_1 rfl tl_L_areQueues, lz_1 rfl tl_L_areQueues, lz_1 rfl tl_L_areQueues, lz_1 rfl tl_L_areQueues, lz_1 rfl tl_L_areQueues, fun L a0 a1 r A n => (lz_1 rfl tl_L_areQueues _ _ _).trans rfl, lz_1 rfl tl_L_areQueues, lz_1 rfl tl_L_areQueues, lz_1 rfl tl_L_areQueues, lz_1 rfl tl_L_areQueues, fun L a0 a1 r A n => (lz_1 rfl tl_L_areQueues _ _ _).trans rfl, lz_1 rfl tl_L_areQueues, lz_1 rfl tl_L_areQueues, lz_1 rfl tl_L_areQueues, lz_1 rfl tl_L_areQueues, lz_1 rfl tl_L_areQueues, lz_1 rfl tl_L_areQueues, lz_1 rfl tl_L_areQueues, lz_1 rfl tl_L_areQueues, lz_1 rfl tl_L_areQueues, lz_1 rfl tl_L_areQueues, lz_1 rfl tl_L_areQueues, lz_1 rfl tl_L_areQueues, lz_1 rfl tl_L_areQueues, lz_1 rfl tl_L_areQueues, lz_1 rfl tl_L_areQueues⟩
set_option maxRecDepth 100000 in
theorem e_L_areQueues_p1 : (∀ L st M, lz_ev tL_areQueues 278 L st M = lo_iinc 3 1 281 (lz_ev tL_areQueues) L st M) ∧
  (∀ L st M, lz_ev tL_areQueues 281 L st M = lo_goto 6 (lz_ev tL_areQueues) L st M) ∧
  (∀ L st M, lz_ev tL_areQueues 284 L st M = lo_iload 1 285 (lz_ev tL_areQueues) L st M) ∧
  (∀ L st M, lz_ev tL_areQueues 285 L st M = lo_if (fun x => decide (x = 0)) 300 288 (lz_ev tL_areQueues) L st M) ∧
  (∀ L st M, lz_ev tL_areQueues 288 L st M = lo_aload 0 289 (lz_ev tL_areQueues) L st M) ∧
  (∀ (L : zzLc) (r : List Value) (A : zzMd) (n : Nat), lz_ev tL_areQueues 289 L (.ref 0 :: r) (A, n) = bif zz_cat8 r && decide (n ≤ 0) then lz_bv (lz_ev tL_areQueues) 292 L r n (lz_g fX11_isSettled [.ref 0] A) else none) ∧
  (∀ L st M, lz_ev tL_areQueues 292 L st M = lo_iload 2 293 (lz_ev tL_areQueues) L st M) ∧
  (∀ L st M, lz_ev tL_areQueues 293 L st M = lo_icmp (fun x y => decide (¬ x = y)) 300 296 (lz_ev tL_areQueues) L st M) ∧
  (∀ L st M, lz_ev tL_areQueues 296 L st M = lo_pushI 1 297 (lz_ev tL_areQueues) L st M) ∧
  (∀ L st M, lz_ev tL_areQueues 297 L st M = lo_goto 301 (lz_ev tL_areQueues) L st M) ∧
  (∀ L st M, lz_ev tL_areQueues 300 L st M = lo_pushI 0 301 (lz_ev tL_areQueues) L st M) ∧
  (∀ L st M, lz_ev tL_areQueues 301 L st M = lo_iret 0 true (lz_ev tL_areQueues) L st M) :=
  ⟨lz_1 rfl tl_L_areQueues, lz_1 rfl tl_L_areQueues, lz_1 rfl tl_L_areQueues, lz_1 rfl tl_L_areQueues, lz_1 rfl tl_L_areQueues, fun L  r A n => (lz_1 rfl tl_L_areQueues _ _ _).trans rfl, lz_1 rfl tl_L_areQueues, lz_1 rfl tl_L_areQueues, lz_1 rfl tl_L_areQueues, lz_1 rfl tl_L_areQueues, lz_1 rfl tl_L_areQueues, lz_1 rfl tl_L_areQueues⟩
set_option maxRecDepth 100000 in
theorem e_L_areQueues_6 : (∀ L st M, lz_ev tL_areQueues 6 L st M = lo_iload 3 7 (lz_ev tL_areQueues) L st M) := lz_1 rfl tl_L_areQueues
set_option maxRecDepth 100000 in
theorem e_L_areQueues_22 : (∀ L st M, lz_ev tL_areQueues 22 L st M = lo_iload 1 23 (lz_ev tL_areQueues) L st M) := lz_1 rfl tl_L_areQueues
set_option maxRecDepth 100000 in
theorem e_L_areQueues_221 : (∀ L st M, lz_ev tL_areQueues 221 L st M = lo_iload 7 223 (lz_ev tL_areQueues) L st M) := lz_1 rfl tl_L_areQueues
theorem s_L_areQueues (a0 : Nat) {A A' : zzMd} {v : Option Value} {n : Nat} (h : lz_ev tL_areQueues 0 [some (.ref a0), none, none, none, none, none, none, none, none] [] (A, 0) = some (v, (A', n))) : fL_areQueues [.ref a0] A = some (v, A') := lz_fn_of (T := tL_areQueues) (nL := 9) (Nat.le_of_ble_eq_true rfl) h
end

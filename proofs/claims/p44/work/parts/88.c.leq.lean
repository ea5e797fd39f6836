section
set_option maxRecDepth 100000 in
theorem e_L_isRefused_p0 : (∀ L st M, lz_ev tL_isRefused 0 L st M = lo_iload 1 1 (lz_ev tL_isRefused) L st M) ∧
  (∀ L st M, lz_ev tL_isRefused 1 L st M = lo_pushI 2 2 (lz_ev tL_isRefused) L st M) ∧
  (∀ L st M, lz_ev tL_isRefused 2 L st M = lo_iid (fun x y => x - x / y * y) 3 (lz_ev tL_isRefused) L st M) ∧
  (∀ L st M, lz_ev tL_isRefused 3 L st M = lo_if (fun x => decide (¬ x = 0)) 10 6 (lz_ev tL_isRefused) L st M) ∧
  (∀ L st M, lz_ev tL_isRefused 6 L st M = lo_pushI 1 7 (lz_ev tL_isRefused) L st M) ∧
  (∀ L st M, lz_ev tL_isRefused 7 L st M = lo_goto 11 (lz_ev tL_isRefused) L st M) ∧
  (∀ L st M, lz_ev tL_isRefused 10 L st M = lo_pushI 0 11 (lz_ev tL_isRefused) L st M) ∧
  (∀ L st M, lz_ev tL_isRefused 11 L st M = lo_istore 2 12 (lz_ev tL_isRefused) L st M) ∧
  (∀ L st M, lz_ev tL_isRefused 12 L st M = lo_iload 2 13 (lz_ev tL_isRefused) L st M) ∧
  (∀ L st M, lz_ev tL_isRefused 13 L st M = lo_if (fun x => decide (x = 0)) 25 16 (lz_ev tL_isRefused) L st M) ∧
  (∀ L st M, lz_ev tL_isRefused 16 L st M = lo_pushI (-1) 17 (lz_ev tL_isRefused) L st M) ∧
  (∀ L st M, lz_ev tL_isRefused 17 L st M = lo_iload 1 18 (lz_ev tL_isRefused) L st M) ∧
  (∀ L st M, lz_ev tL_isRefused 18 L st M = lo_pushI 30 20 (lz_ev tL_isRefused) L st M) ∧
  (∀ L st M, lz_ev tL_isRefused 20 L st M = lo_iid (fun x y => x - x / y * y) 21 (lz_ev tL_isRefused) L st M) ∧
  (∀ L st M, lz_ev tL_isRefused 21 L st M = lo_ii (fun x y => x - y) 22 (lz_ev tL_isRefused) L st M) ∧
  (∀ L st M, lz_ev tL_isRefused 22 L st M = lo_goto 34 (lz_ev tL_isRefused) L st M) ∧
  (∀ L st M, lz_ev tL_isRefused 25 L st M = lo_aload 0 26 (lz_ev tL_isRefused) L st M) ∧
  (∀ (L : zzLc) (r : List Value) (A : zzMd) (n : Nat), lz_ev tL_isRefused 26 L (.ref 0 :: r) (A, n) = bif zz_cat8 r && decide (n ≤ 3600) then lz_bv (lz_ev tL_isRefused) 29 L r n (lz_g fX11_objects [.ref 0] A) else none) ∧
  (∀ L st M, lz_ev tL_isRefused 29 L st M = lo_iload 1 30 (lz_ev tL_isRefused) L st M) ∧
  (∀ L st M, lz_ev tL_isRefused 30 L st M = lo_pushI 30 32 (lz_ev tL_isRefused) L st M) ∧
  (∀ L st M, lz_ev tL_isRefused 32 L st M = lo_iid (fun x y => x - x / y * y) 33 (lz_ev tL_isRefused) L st M) ∧
  (∀ L st M, lz_ev tL_isRefused 33 L st M = lo_ii (fun x y => x + y) 34 (lz_ev tL_isRefused) L st M) ∧
  (∀ L st M, lz_ev tL_isRefused 34 L st M = lo_istore 3 35 (lz_ev tL_isRefused) L st M) ∧
  (∀ L st M, lz_ev tL_isRefused 35 L st M = lo_iload 2 36 (lz_ev tL_isRefused) L st M) ∧
  (∀ L st M, lz_ev tL_isRefused 36 L st M = lo_if (fun x => decide (x = 0)) 48 39 (lz_ev tL_isRefused) L st M) ∧
  (∀ L st M, lz_ev tL_isRefused 39 L st M = lo_pushI (-1) 40 (lz_ev tL_isRefused) L st M) ∧
  (∀ L st M, lz_ev tL_isRefused 40 L st M = lo_iload 1 41 (lz_ev tL_isRefused) L st M) ∧
  (∀ L st M, lz_ev tL_isRefused 41 L st M = lo_pushI 30 43 (lz_ev tL_isRefused) L st M) ∧
  (∀ L st M, lz_ev tL_isRefused 43 L st M = lo_iid (fun x y => x - x / y * y) 44 (lz_ev tL_isRefused) L st M) ∧
  (∀ L st M, lz_ev tL_isRefused 44 L st M = lo_ii (fun x y => x - y) 45 (lz_ev tL_isRefused) L st M) ∧
  (∀ L st M, lz_ev tL_isRefused 45 L st M = lo_goto 55 (lz_ev tL_isRefused) L st M) ∧
  (∀ L st M, lz_ev tL_isRefused 48 L st M = lo_pushI 8 50 (lz_ev tL_isRefused) L st M) ∧
  (∀ L st M, lz_ev tL_isRefused 50 L st M = lo_iload 1 51 (lz_ev tL_isRefused) L st M) ∧
  (∀ L st M, lz_ev tL_isRefused 51 L st M = lo_pushI 30 53 (lz_ev tL_isRefused) L st M) ∧
  (∀ L st M, lz_ev tL_isRefused 53 L st M = lo_iid (fun x y => x - x / y * y) 54 (lz_ev tL_isRefused) L st M) ∧
  (∀ L st M, lz_ev tL_isRefused 54 L st M = lo_ii (fun x y => x + y) 55 (lz_ev tL_isRefused) L st M) ∧
  (∀ L st M, lz_ev tL_isRefused 55 L st M = lo_istore 4 57 (lz_ev tL_isRefused) L st M) ∧
  (∀ L st M, lz_ev tL_isRefused 57 L st M = lo_iload 2 58 (lz_ev tL_isRefused) L st M) ∧
  (∀ L st M, lz_ev tL_isRefused 58 L st M = lo_if (fun x => decide (x = 0)) 70 61 (lz_ev tL_isRefused) L st M) ∧
  (∀ L st M, lz_ev tL_isRefused 61 L st M = lo_pushI (-1) 62 (lz_ev tL_isRefused) L st M) ∧
  (∀ L st M, lz_ev tL_isRefused 62 L st M = lo_iload 1 63 (lz_ev tL_isRefused) L st M) ∧
  (∀ L st M, lz_ev tL_isRefused 63 L st M = lo_pushI 30 65 (lz_ev tL_isRefused) L st M) ∧
  (∀ L st M, lz_ev tL_isRefused 65 L st M = lo_iid (fun x y => x - x / y * y) 66 (lz_ev tL_isRefused) L st M) ∧
  (∀ L st M, lz_ev tL_isRefused 66 L st M = lo_ii (fun x y => x - y) 67 (lz_ev tL_isRefused) L st M) ∧
  (∀ L st M, lz_ev tL_isRefused 67 L st M = lo_goto 76 (lz_ev tL_isRefused) L st M) ∧
  (∀ L st M, lz_ev tL_isRefused 70 L st M = lo_pushI 4 71 (lz_ev tL_isRefused) L st M) ∧
  (∀ L st M, lz_ev tL_isRefused 71 L st M = lo_iload 1 72 (lz_ev tL_isRefused) L st M) ∧
  (∀ L st M, lz_ev tL_isRefused 72 L st M = lo_pushI 30 74 (lz_ev tL_isRefused) L st M) ∧
  (∀ L st M, lz_ev tL_isRefused 74 L st M = lo_iid (fun x y => x - x / y * y) 75 (lz_ev tL_isRefused) L st M) ∧
  (∀ L st M, lz_ev tL_isRefused 75 L st M = lo_ii (fun x y => x + y) 76 (lz_ev tL_isRefused) L st M) ∧
  (∀ L st M, lz_ev tL_isRefused 76 L st M = lo_istore 5 78 (lz_ev tL_isRefused) L st M) ∧
  (∀ L st M, lz_ev tL_isRefused 78 L st M = lo_aload 0 79 (lz_ev tL_isRefused) L st M) ∧
  (∀ (L : zzLc) (a0 : Nat) (r : List Value) (A : zzMd) (n : Nat), lz_ev tL_isRefused 79 L (.ref a0 :: r) (A, n) = bif zz_cat8 r && decide (n + 1320 ≤ 3600) then lz_bs (lz_ev tL_isRefused) 82 L r (n + 1320) (fL_all [.ref a0] A) else none) ∧
  (∀ L st M, lz_ev tL_isRefused 82 L st M = lo_lstore 6 84 (lz_ev tL_isRefused) L st M) ∧
  (∀ L st M, lz_ev tL_isRefused 84 L st M = lo_aload 0 85 (lz_ev tL_isRefused) L st M) ∧
  (∀ L st M, lz_ev tL_isRefused 85 L st M = lo_pushI 0 86 (lz_ev tL_isRefused) L st M) ∧
  (∀ L st M, lz_ev tL_isRefused 86 L st M = lo_iload 5 88 (lz_ev tL_isRefused) L st M) ∧
  (∀ L st M, lz_ev tL_isRefused 88 L st M = lo_pushI 0 89 (lz_ev tL_isRefused) L st M) ∧
  (∀ L st M, lz_ev tL_isRefused 89 L st M = lo_pushI 0 90 (lz_ev tL_isRefused) L st M) ∧
  (∀ L st M, lz_ev tL_isRefused 90 L st M = lo_pushI 0 91 (lz_ev tL_isRefused) L st M) ∧
  (∀ L st M, lz_ev tL_isRefused 91 L st M = lo_pushI 0 92 (lz_ev tL_isRefused) L st M) ∧
  (∀ L st M, lz_ev tL_isRefused 92 L st M = lo_pushI 0 93 (lz_ev tL_isRefused) L st M) ∧
  (∀ (L : zzLc) (a1 a2 a3 a4 a5 a6 a7 : Int32) (a0 : Nat) (r : List Value) (A : zzMd) (n : Nat), lz_ev tL_isRefused 93 L (.int a7 :: .int a6 :: .int a5 :: .int a4 :: .int a3 :: .int a2 :: .int a1 :: .ref a0 :: r) (A, n) = bif zz_cat8 r && decide (n + 1 ≤ 3600) then lz_bs (lz_ev tL_isRefused) 96 L r (n + 1) (fL_act [.ref a0, .int a1, .int a2, .int a3, .int a4, .int a5, .int a6, .int a7] A) else none) ∧
  (∀ L st M, lz_ev tL_isRefused 96 L st M = lo_pushI (-1272) 99 (lz_ev tL_isRefused) L st M) ∧
  (∀ L st M, lz_ev tL_isRefused 99 L st M = lo_icmp (fun x y => decide (¬ x = y)) 682 102 (lz_ev tL_isRefused) L st M) ∧
  (∀ L st M, lz_ev tL_isRefused 102 L st M = lo_aload 0 103 (lz_ev tL_isRefused) L st M) ∧
  (∀ L st M, lz_ev tL_isRefused 103 L st M = lo_pushI 0 104 (lz_ev tL_isRefused) L st M) ∧
  (∀ L st M, lz_ev tL_isRefused 104 L st M = lo_pushI 0 105 (lz_ev tL_isRefused) L st M) ∧
  (∀ L st M, lz_ev tL_isRefused 105 L st M = lo_iload 2 106 (lz_ev tL_isRefused) L st M) ∧
  (∀ L st M, lz_ev tL_isRefused 106 L st M = lo_if (fun x => decide (x = 0)) 118 109 (lz_ev tL_isRefused) L st M) ∧
  (∀ L st M, lz_ev tL_isRefused 109 L st M = lo_pushI (-1) 110 (lz_ev tL_isRefused) L st M) ∧
  (∀ L st M, lz_ev tL_isRefused 110 L st M = lo_iload 1 111 (lz_ev tL_isRefused) L st M) ∧
  (∀ L st M, lz_ev tL_isRefused 111 L st M = lo_pushI 30 113 (lz_ev tL_isRefused) L st M) ∧
  (∀ L st M, lz_ev tL_isRefused 113 L st M = lo_iid (fun x y => x - x / y * y) 114 (lz_ev tL_isRefused) L st M) ∧
  (∀ L st M, lz_ev tL_isRefused 114 L st M = lo_ii (fun x y => x - y) 115 (lz_ev tL_isRefused) L st M) ∧
  (∀ L st M, lz_ev tL_isRefused 115 L st M = lo_goto 120 (lz_ev tL_isRefused) L st M) ∧
  (∀ L st M, lz_ev tL_isRefused 118 L st M = lo_pushI 6 120 (lz_ev tL_isRefused) L st M) ∧
  (∀ L st M, lz_ev tL_isRefused 120 L st M = lo_pushI 0 121 (lz_ev tL_isRefused) L st M) ∧
  (∀ L st M, lz_ev tL_isRefused 121 L st M = lo_pushI 0 122 (lz_ev tL_isRefused) L st M) ∧
  (∀ L st M, lz_ev tL_isRefused 122 L st M = lo_pushI 0 123 (lz_ev tL_isRefused) L st M) ∧
  (∀ L st M, lz_ev tL_isRefused 123 L st M = lo_pushI 0 124 (lz_ev tL_isRefused) L st M) ∧
  (∀ (L : zzLc) (a1 a2 a3 a4 a5 a6 a7 : Int32) (a0 : Nat) (r : List Value) (A : zzMd) (n : Nat), lz_ev tL_isRefused 124 L (.int a7 :: .int a6 :: .int a5 :: .int a4 :: .int a3 :: .int a2 :: .int a1 :: .ref a0 :: r) (A, n) = bif zz_cat8 r && decide (n + 1 ≤ 3600) then lz_bs (lz_ev tL_isRefused) 127 L r (n + 1) (fL_act [.ref a0, .int a1, .int a2, .int a3, .int a4, .int a5, .int a6, .int a7] A) else none) ∧
  (∀ L st M, lz_ev tL_isRefused 127 L st M = lo_pushI (-1272) 130 (lz_ev tL_isRefused) L st M) ∧
  (∀ L st M, lz_ev tL_isRefused 130 L st M = lo_icmp (fun x y => decide (¬ x = y)) 682 133 (lz_ev tL_isRefused) L st M) ∧
  (∀ L st M, lz_ev tL_isRefused 133 L st M = lo_aload 0 134 (lz_ev tL_isRefused) L st M) ∧
  (∀ L st M, lz_ev tL_isRefused 134 L st M = lo_pushI 1 135 (lz_ev tL_isRefused) L st M) ∧
  (∀ L st M, lz_ev tL_isRefused 135 L st M = lo_pushI 0 136 (lz_ev tL_isRefused) L st M) ∧
  (∀ L st M, lz_ev tL_isRefused 136 L st M = lo_iload 3 137 (lz_ev tL_isRefused) L st M) ∧
  (∀ L st M, lz_ev tL_isRefused 137 L st M = lo_pushI 0 138 (lz_ev tL_isRefused) L st M) ∧
  (∀ L st M, lz_ev tL_isRefused 138 L st M = lo_pushI 0 139 (lz_ev tL_isRefused) L st M) ∧
  (∀ L st M, lz_ev tL_isRefused 139 L st M = lo_pushI (-1) 140 (lz_ev tL_isRefused) L st M) ∧
  (∀ L st M, lz_ev tL_isRefused 140 L st M = lo_pushI 0 141 (lz_ev tL_isRefused) L st M) ∧
  (∀ (L : zzLc) (a1 a2 a3 a4 a5 a6 a7 : Int32) (a0 : Nat) (r : List Value) (A : zzMd) (n : Nat), lz_ev tL_isRefused 141 L (.int a7 :: .int a6 :: .int a5 :: .int a4 :: .int a3 :: .int a2 :: .int a1 :: .ref a0 :: r) (A, n) = bif zz_cat8 r && decide (n + 1 ≤ 3600) then lz_bs (lz_ev tL_isRefused) 144 L r (n + 1) (fL_act [.ref a0, .int a1, .int a2, .int a3, .int a4, .int a5, .int a6, .int a7] A) else none) ∧
  (∀ L st M, lz_ev tL_isRefused 144 L st M = lo_pushI (-1271) 147 (lz_ev tL_isRefused) L st M) ∧
  (∀ L st M, lz_ev tL_isRefused 147 L st M = lo_icmp (fun x y => decide (¬ x = y)) 682 150 (lz_ev tL_isRefused) L st M) ∧
  (∀ L st M, lz_ev tL_isRefused 150 L st M = lo_aload 0 151 (lz_ev tL_isRefused) L st M) ∧
  (∀ L st M, lz_ev tL_isRefused 151 L st M = lo_pushI 2 152 (lz_ev tL_isRefused) L st M) ∧
  (∀ L st M, lz_ev tL_isRefused 152 L st M = lo_pushI 0 153 (lz_ev tL_isRefused) L st M) ∧
  (∀ L st M, lz_ev tL_isRefused 153 L st M = lo_iload 3 154 (lz_ev tL_isRefused) L st M) ∧
  (∀ L st M, lz_ev tL_isRefused 154 L st M = lo_pushI 0 155 (lz_ev tL_isRefused) L st M) ∧
  (∀ L st M, lz_ev tL_isRefused 155 L st M = lo_pushI 0 156 (lz_ev tL_isRefused) L st M) ∧
  (∀ L st M, lz_ev tL_isRefused 156 L st M = lo_pushI 0 157 (lz_ev tL_isRefused) L st M) ∧
  (∀ L st M, lz_ev tL_isRefused 157 L st M = lo_pushI 0 158 (lz_ev tL_isRefused) L st M) ∧
  (∀ (L : zzLc) (a1 a2 a3 a4 a5 a6 a7 : Int32) (a0 : Nat) (r : List Value) (A : zzMd) (n : Nat), lz_ev tL_isRefused 158 L (.int a7 :: .int a6 :: .int a5 :: .int a4 :: .int a3 :: .int a2 :: .int a1 :: .ref a0 :: r) (A, n) = bif zz_cat8 r && decide (n + 1 ≤ 3600) then lz_bs (lz_ev tL_isRefused) 161 L r (n + 1) (fL_act [.ref a0, .int a1, .int a2, .int a3, .int a4, .int a5, .int a6, .int a7] A) else none) ∧
  (∀ L st M, lz_ev tL_isRefused 161 L st M = lo_pushI (-1271) 164 (lz_ev tL_isRefused) L st M) ∧
  (∀ L st M, lz_ev tL_isRefused 164 L st M = lo_icmp (fun x y => decide (¬ x = y)) 682 167 (lz_ev tL_isRefused) L st M) ∧
  (∀ L st M, lz_ev tL_isRefused 167 L st M = lo_aload 0 168 (lz_ev tL_isRefused) L st M) ∧
  (∀ L st M, lz_ev tL_isRefused 168 L st M = lo_pushI 3 169 (lz_ev tL_isRefused) L st M) ∧
  (∀ L st M, lz_ev tL_isRefused 169 L st M = lo_iload 3 170 (lz_ev tL_isRefused) L st M) ∧
  (∀ L st M, lz_ev tL_isRefused 170 L st M = lo_pushI 9 172 (lz_ev tL_isRefused) L st M) ∧
  (∀ L st M, lz_ev tL_isRefused 172 L st M = lo_pushI 0 173 (lz_ev tL_isRefused) L st M) ∧
  (∀ L st M, lz_ev tL_isRefused 173 L st M = lo_pushI 0 174 (lz_ev tL_isRefused) L st M) ∧
  (∀ L st M, lz_ev tL_isRefused 174 L st M = lo_pushI 0 175 (lz_ev tL_isRefused) L st M) ∧
  (∀ L st M, lz_ev tL_isRefused 175 L st M = lo_pushI 0 176 (lz_ev tL_isRefused) L st M) ∧
  (∀ (L : zzLc) (a1 a2 a3 a4 a5 a6 a7 : Int32) (a0 : Nat) (r : List Value) (A : zzMd) (n : Nat), lz_ev tL_isRefused 176 L (.int a7 :: .int a6 :: .int a5 :: .int a4 :: .int a3 :: .int a2 :: .int a1 :: .ref a0 :: r) (A, n) = bif zz_cat8 r && decide (n + 1 ≤ 3600) then lz_bs (lz_ev tL_isRefused) 179 L r (n + 1) (fL_act [.ref a0, .int a1, .int a2, .int a3, .int a4, .int a5, .int a6, .int a7] A) else none) ∧
  (∀ L st M, lz_ev tL_isRefused 179 L st M = lo_pushI (-1271) 182 (lz_ev tL_isRefused) L st M) ∧
  (∀ L st M, lz_ev tL_isRefused 182 L st M = lo_icmp (fun x y => decide (¬ x = y)) 682 185 (lz_ev tL_isRefused) L st M) ∧
  (∀ L st M, lz_ev tL_isRefused 185 L st M = lo_aload 0 186 (lz_ev tL_isRefused) L st M) ∧
  (∀ L st M, lz_ev tL_isRefused 186 L st M = lo_pushI 4 187 (lz_ev tL_isRefused) L st M) ∧
  (∀ L st M, lz_ev tL_isRefused 187 L st M = lo_iload 3 188 (lz_ev tL_isRefused) L st M) ∧
  (∀ L st M, lz_ev tL_isRefused 188 L st M = lo_pushI 1 189 (lz_ev tL_isRefused) L st M) ∧
  (∀ L st M, lz_ev tL_isRefused 189 L st M = lo_pushI 0 190 (lz_ev tL_isRefused) L st M) ∧
  (∀ L st M, lz_ev tL_isRefused 190 L st M = lo_pushI 0 191 (lz_ev tL_isRefused) L st M) ∧
  (∀ L st M, lz_ev tL_isRefused 191 L st M = lo_pushI 0 192 (lz_ev tL_isRefused) L st M) ∧
  (∀ L st M, lz_ev tL_isRefused 192 L st M = lo_pushI 0 193 (lz_ev tL_isRefused) L st M) ∧
  (∀ (L : zzLc) (a1 a2 a3 a4 a5 a6 a7 : Int32) (a0 : Nat) (r : List Value) (A : zzMd) (n : Nat), lz_ev tL_isRefused 193 L (.int a7 :: .int a6 :: .int a5 :: .int a4 :: .int a3 :: .int a2 :: .int a1 :: .ref a0 :: r) (A, n) = bif zz_cat8 r && decide (n + 1 ≤ 3600) then lz_bs (lz_ev tL_isRefused) 196 L r (n + 1) (fL_act [.ref a0, .int a1, .int a2, .int a3, .int a4, .int a5, .int a6, .int a7] A) else none) ∧
  (∀ L st M, lz_ev tL_isRefused 196 L st M = lo_pushI (-1271) 199 (lz_ev tL_isRefused) L st M) ∧
  (∀ L st M, lz_ev tL_isRefused 199 L st M = lo_icmp (fun x y => decide (¬ x = y)) 682 202 (lz_ev tL_isRefused) L st M) ∧
  (∀ L st M, lz_ev tL_isRefused 202 L st M = lo_aload 0 203 (lz_ev tL_isRefused) L st M) ∧
  (∀ L st M, lz_ev tL_isRefused 203 L st M = lo_pushI 5 204 (lz_ev tL_isRefused) L st M) ∧
  (∀ L st M, lz_ev tL_isRefused 204 L st M = lo_iload 3 205 (lz_ev tL_isRefused) L st M) ∧
  (∀ L st M, lz_ev tL_isRefused 205 L st M = lo_pushI 1 206 (lz_ev tL_isRefused) L st M) ∧
  (∀ L st M, lz_ev tL_isRefused 206 L st M = lo_pushI 0 207 (lz_ev tL_isRefused) L st M) ∧
  (∀ L st M, lz_ev tL_isRefused 207 L st M = lo_pushI 0 208 (lz_ev tL_isRefused) L st M) ∧
  (∀ L st M, lz_ev tL_isRefused 208 L st M = lo_pushI 0 209 (lz_ev tL_isRefused) L st M) ∧
  (∀ L st M, lz_ev tL_isRefused 209 L st M = lo_pushI 0 210 (lz_ev tL_isRefused) L st M) ∧
  (∀ (L : zzLc) (a1 a2 a3 a4 a5 a6 a7 : Int32) (a0 : Nat) (r : List Value) (A : zzMd) (n : Nat), lz_ev tL_isRefused 210 L (.int a7 :: .int a6 :: .int a5 :: .int a4 :: .int a3 :: .int a2 :: .int a1 :: .ref a0 :: r) (A, n) = bif zz_cat8 r && decide (n + 1 ≤ 3600) then lz_bs (lz_ev tL_isRefused) 213 L r (n + 1) (fL_act [.ref a0, .int a1, .int a2, .int a3, .int a4, .int a5, .int a6, .int a7] A) else none) ∧
  (∀ L st M, lz_ev tL_isRefused 213 L st M = lo_pushI (-1271) 216 (lz_ev tL_isRefused) L st M) ∧
  (∀ L st M, lz_ev tL_isRefused 216 L st M = lo_icmp (fun x y => decide (¬ x = y)) 682 219 (lz_ev tL_isRefused) L st M) ∧
  (∀ L st M, lz_ev tL_isRefused 219 L st M = lo_aload 0 220 (lz_ev tL_isRefused) L st M) ∧
  (∀ L st M, lz_ev tL_isRefused 220 L st M = lo_pushI 6 222 (lz_ev tL_isRefused) L st M) ∧
  (∀ L st M, lz_ev tL_isRefused 222 L st M = lo_iload 2 223 (lz_ev tL_isRefused) L st M) ∧
  (∀ L st M, lz_ev tL_isRefused 223 L st M = lo_if (fun x => decide (x = 0)) 235 226 (lz_ev tL_isRefused) L st M) ∧
  (∀ L st M, lz_ev tL_isRefused 226 L st M = lo_pushI (-1) 227 (lz_ev tL_isRefused) L st M) ∧
  (∀ L st M, lz_ev tL_isRefused 227 L st M = lo_iload 1 228 (lz_ev tL_isRefused) L st M) ∧
  (∀ L st M, lz_ev tL_isRefused 228 L st M = lo_pushI 30 230 (lz_ev tL_isRefused) L st M) ∧
  (∀ L st M, lz_ev tL_isRefused 230 L st M = lo_iid (fun x y => x - x / y * y) 231 (lz_ev tL_isRefused) L st M) ∧
  (∀ L st M, lz_ev tL_isRefused 231 L st M = lo_ii (fun x y => x - y) 232 (lz_ev tL_isRefused) L st M) ∧
  (∀ L st M, lz_ev tL_isRefused 232 L st M = lo_goto 237 (lz_ev tL_isRefused) L st M) ∧
  (∀ L st M, lz_ev tL_isRefused 235 L st M = lo_pushI 6 237 (lz_ev tL_isRefused) L st M) :=
  ⟨lz_1 rfl tl_L_isRefused, lz_1 rfl tl_L_isRefused, lz_1 rfl tl_L_isRefused, lz_1 rfl tl_L_isRefused, lz_1 rfl tl_L_isRefused, lz_1 rfl tl_L_isRefused, lz_1 rfl tl_L_isRefused, lz_1 rfl tl_L_isRefused, lz_1 rfl tl_L_isRefused, lz_1 rfl tl_L_isRefused, lz_1 rfl tl_L_isRefused, lz_1 rfl tl_L_isRefused, lz_1 rfl tl_L_isRefused, lz_1 rfl tl_L_isRefused, lz_1 rfl tl_L_isRefused, lz_1 rfl tl_L_isRefused, lz_1 rfl tl_L_isRefused, fun L  r A n => (lz_1 rfl tl_L_isRefused _ _ _).trans rfl, lz_1 rfl tl_L_isRefused, lz_1 rfl tl_L_isRefused, lz_1 rfl tl_L_isRefused, lz_1 rfl tl_L_isRefused, lz_1 rfl tl_L_isRefused, lz_1 rfl tl_L_isRefused, lz_1 rfl tl_L_isRefused, lz_1 rfl tl_L_isRefused, lz_1 rfl tl_L_isRefused, lz_1 rfl tl_L_isRefused, lz_1 rfl tl_L_isRefused, lz_1 rfl tl_L_isRefused, lz_1 rfl tl_L_isRefused, lz_1 rfl tl_L_isRefused, lz_1 rfl tl_L_isRefused, lz_1 rfl tl_L_isRefused, lz_1 rfl tl_L_isRefused, lz_1 rfl tl_L_isRefused, lz_1 rfl tl_L_isRefused, lz_1 rfl tl_L_isRefused, lz_1 rfl tl_L_isRefused, lz_1 rfl tl_L_isRefused, lz_1 rfl tl_L_isRefused, lz_1 rfl tl_L_isRefused, lz_1 rfl tl_L_isRefused, lz_1 rfl tl_L_isRefused, lz_1 rfl tl_L_isRefused, lz_1 rfl tl_L_isRefused, lz_1 rfl tl_L_isRefused, lz_1 rfl tl_L_isRefused, lz_1 rfl tl_L_isRefused, lz_1 rfl tl_L_isRefused, lz_1 rfl tl_L_isRefused, lz_1 rfl tl_L_isRefused, fun L a0 r A n => (lz_1 rfl tl_L_isRefused _ _ _).trans rfl, lz_1 rfl tl_L_isRefused, lz_1 rfl tl_L_isRefused, lz_1 rfl tl_L_isRefused, lz_1 rfl tl_L_isRefused, lz_1 rfl tl_L_isRefused, lz_1 rfl tl_L_isRefused, lz_1 rfl tl_L_isRefused, lz_1 rfl tl_L_isRefused, lz_1 rfl tl_L_isRefused, fun L a1 a2 a3 a4 a5 a6 a7 a0 r A n => (lz_1 rfl tl_L_isRefused _ _ _).trans rfl, lz_1 rfl tl_L_isRefused, lz_1 rfl tl_L_isRefused, lz_1 rfl tl_L_isRefused, lz_1 rfl tl_L_isRefused, lz_1 rfl tl_L_isRefused, lz_1 rfl tl_L_isRefused, lz_1 rfl tl_L_isRefused, lz_1 rfl tl_L_isRefused, lz_1 rfl tl_L_isRefused, lz_1 rfl tl_L_isRefused, lz_1 rfl tl_L_isRefused, lz_1 rfl tl_L_isRefused, lz_1 rfl tl_L_isRefused, lz_1 rfl tl_L_isRefused, lz_1 rfl tl_L_isRefused, lz_1 rfl tl_L_isRefused, lz_1 rfl tl_L_isRefused, lz_1 rfl tl_L_isRefused, fun L a1 a2 a3 a4 a5 a6 a7 a0 r A n => (lz_1 rfl tl_L_isRefused _ _ _).trans rfl, lz_1 rfl tl_L_isRefused, lz_1 rfl tl_L_isRefused, lz_1 rfl tl_L_isRefused, lz_1 rfl tl_L_isRefused, lz_1 rfl tl_L_isRefused, lz_1 rfl tl_L_isRefused, lz_1 rfl tl_L_isRefused, lz_1 rfl tl_L_isRefused, lz_1 rfl tl_L_isRefused, lz_1 rfl tl_L_isRefused, fun L a1 a2 a3 a4 a5 a6 a7 a0 r A n => (lz_1 rfl tl_L_isRefused _ _ _).trans rfl, lz_1 rfl tl_L_isRefused, lz_1 rfl tl_L_isRefused, lz_1 rfl tl_L_isRefused, lz_1 rfl tl_L_isRefused, lz_1 rfl tl_L_isRefused, lz_1 rfl tl_L_isRefused, lz_1 rfl tl_L_isRefused, lz_1 rfl tl_L_isRefused, lz_1 rfl tl_L_isRefused, lz_1 rfl tl_L_isRefused, fun L a1 a2 a3 a4 a5 a6 a7 a0 r A n => (lz_1 rfl tl_L_isRefused _ _ _).trans rfl, lz_1 rfl tl_L_isRefused, lz_1 rfl tl_L_isRefused, lz_1 rfl tl_L_isRefused, lz_1 rfl tl_L_isRefused, lz_1 rfl tl_L_isRefused, lz_1 rfl tl_L_isRefused, lz_1 rfl tl_L_isRefused, lz_1 rfl tl_L_isRefused, lz_1 rfl tl_L_isRefused, lz_1 rfl tl_L_isRefused, fun L a1 a2 a3 a4 a5 a6 a7 a0 r A n => (lz_1 rfl tl_L_isRefused _ _ _).trans rfl, lz_1 rfl tl_L_isRefused, lz_1 rfl tl_L_isRefused, lz_1 rfl tl_L_isRefused, lz_1 rfl tl_L_isRefused, lz_1 rfl tl_L_isRefused, lz_1 rfl tl_L_isRefused, lz_1 rfl tl_L_isRefused, lz_1 rfl tl_L_isRefused, lz_1 rfl tl_L_isRefused, lz_1 rfl tl_L_isRefused, fun L a1 a2 a3 a4 a5 a6 a7 a0 r A n => (lz_1 rfl tl_L_isRefused _ _ _).trans rfl, lz_1 rfl tl_L_isRefused, lz_1 rfl tl_L_isRefused, lz_1 rfl tl_L_isRefused, lz_1 rfl tl_L_isRefused, lz_1 rfl tl_L_isRefused, lz_1 rfl tl_L_isRefused, lz_1 rfl tl_L_isRefused, lz_1 rfl tl_L_isRefused, lz_1 rfl tl_L_isRefused, lz_1 rfl tl_L_isRefused, fun L a1 a2 a3 a4 a5 a6 a7 a0 r A n => (lz_1 rfl tl_L_isRefused _ _ _).trans rfl, lz_1 rfl tl_L_isRefused, lz_1 rfl tl_L_isRefused, lz_1 rfl tl_L_isRefused, lz_1 rfl tl_L_isRefused, lz_1 rfl tl_L_isRefused, lz_1 rfl tl_L_isRefused, lz_1 rfl tl_L_isRefused, lz_1 rfl tl_L_isRefused, lz_1 rfl tl_L_isRefused, lz_1 rfl tl_L_isRefused, lz_1 rfl tl_L_isRefused, lz_1 rfl tl_L_isRefused, lz_1 rfl tl_L_isRefused⟩
set_option maxRecDepth 100000 in
theorem e_L_isRefused_p1 : (∀ L st M, lz_ev tL_isRefused 237 L st M = lo_pushI 0 238 (lz_ev tL_isRefused) L st M) ∧
  (∀ L st M, lz_ev tL_isRefused 238 L st M = lo_pushI 0 239 (lz_ev tL_isRefused) L st M) ∧
  (∀ L st M, lz_ev tL_isRefused 239 L st M = lo_pushI 5 240 (lz_ev tL_isRefused) L st M) ∧
  (∀ L st M, lz_ev tL_isRefused 240 L st M = lo_pushI 0 241 (lz_ev tL_isRefused) L st M) ∧
  (∀ L st M, lz_ev tL_isRefused 241 L st M = lo_pushI 0 242 (lz_ev tL_isRefused) L st M) ∧
  (∀ (L : zzLc) (a1 a2 a3 a4 a5 a6 a7 : Int32) (a0 : Nat) (r : List Value) (A : zzMd) (n : Nat), lz_ev tL_isRefused 242 L (.int a7 :: .int a6 :: .int a5 :: .int a4 :: .int a3 :: .int a2 :: .int a1 :: .ref a0 :: r) (A, n) = bif zz_cat8 r && decide (n + 1 ≤ 3600) then lz_bs (lz_ev tL_isRefused) 245 L r (n + 1) (fL_act [.ref a0, .int a1, .int a2, .int a3, .int a4, .int a5, .int a6, .int a7] A) else none) ∧
  (∀ L st M, lz_ev tL_isRefused 245 L st M = lo_pushI (-1272) 248 (lz_ev tL_isRefused) L st M) ∧
  (∀ L st M, lz_ev tL_isRefused 248 L st M = lo_icmp (fun x y => decide (¬ x = y)) 682 251 (lz_ev tL_isRefused) L st M) ∧
  (∀ L st M, lz_ev tL_isRefused 251 L st M = lo_aload 0 252 (lz_ev tL_isRefused) L st M) ∧
  (∀ L st M, lz_ev tL_isRefused 252 L st M = lo_pushI 6 254 (lz_ev tL_isRefused) L st M) ∧
  (∀ L st M, lz_ev tL_isRefused 254 L st M = lo_pushI 0 255 (lz_ev tL_isRefused) L st M) ∧
  (∀ L st M, lz_ev tL_isRefused 255 L st M = lo_pushI 0 256 (lz_ev tL_isRefused) L st M) ∧
  (∀ L st M, lz_ev tL_isRefused 256 L st M = lo_iload 1 257 (lz_ev tL_isRefused) L st M) ∧
  (∀ L st M, lz_ev tL_isRefused 257 L st M = lo_pushI 30 259 (lz_ev tL_isRefused) L st M) ∧
  (∀ L st M, lz_ev tL_isRefused 259 L st M = lo_iid (fun x y => x - x / y * y) 260 (lz_ev tL_isRefused) L st M) ∧
  (∀ L st M, lz_ev tL_isRefused 260 L st M = lo_pushI 1 261 (lz_ev tL_isRefused) L st M) ∧
  (∀ L st M, lz_ev tL_isRefused 261 L st M = lo_ii (fun x y => x + y) 262 (lz_ev tL_isRefused) L st M) ∧
  (∀ L st M, lz_ev tL_isRefused 262 L st M = lo_iload 1 263 (lz_ev tL_isRefused) L st M) ∧
  (∀ L st M, lz_ev tL_isRefused 263 L st M = lo_pushI 30 265 (lz_ev tL_isRefused) L st M) ∧
  (∀ L st M, lz_ev tL_isRefused 265 L st M = lo_iid (fun x y => x - x / y * y) 266 (lz_ev tL_isRefused) L st M) ∧
  (∀ L st M, lz_ev tL_isRefused 266 L st M = lo_pushI 0 267 (lz_ev tL_isRefused) L st M) ∧
  (∀ L st M, lz_ev tL_isRefused 267 L st M = lo_pushI 0 268 (lz_ev tL_isRefused) L st M) ∧
  (∀ (L : zzLc) (a1 a2 a3 a4 a5 a6 a7 : Int32) (a0 : Nat) (r : List Value) (A : zzMd) (n : Nat), lz_ev tL_isRefused 268 L (.int a7 :: .int a6 :: .int a5 :: .int a4 :: .int a3 :: .int a2 :: .int a1 :: .ref a0 :: r) (A, n) = bif zz_cat8 r && decide (n + 1 ≤ 3600) then lz_bs (lz_ev tL_isRefused) 271 L r (n + 1) (fL_act [.ref a0, .int a1, .int a2, .int a3, .int a4, .int a5, .int a6, .int a7] A) else none) ∧
  (∀ L st M, lz_ev tL_isRefused 271 L st M = lo_pushI (-1272) 274 (lz_ev tL_isRefused) L st M) ∧
  (∀ L st M, lz_ev tL_isRefused 274 L st M = lo_icmp (fun x y => decide (¬ x = y)) 682 277 (lz_ev tL_isRefused) L st M) ∧
  (∀ L st M, lz_ev tL_isRefused 277 L st M = lo_aload 0 278 (lz_ev tL_isRefused) L st M) ∧
  (∀ L st M, lz_ev tL_isRefused 278 L st M = lo_pushI 6 280 (lz_ev tL_isRefused) L st M) ∧
  (∀ L st M, lz_ev tL_isRefused 280 L st M = lo_pushI 1 281 (lz_ev tL_isRefused) L st M) ∧
  (∀ L st M, lz_ev tL_isRefused 281 L st M = lo_pushI 0 282 (lz_ev tL_isRefused) L st M) ∧
  (∀ L st M, lz_ev tL_isRefused 282 L st M = lo_pushI 0 283 (lz_ev tL_isRefused) L st M) ∧
  (∀ L st M, lz_ev tL_isRefused 283 L st M = lo_pushI 5 284 (lz_ev tL_isRefused) L st M) ∧
  (∀ L st M, lz_ev tL_isRefused 284 L st M = lo_pushI 2 285 (lz_ev tL_isRefused) L st M) ∧
  (∀ L st M, lz_ev tL_isRefused 285 L st M = lo_pushI 0 286 (lz_ev tL_isRefused) L st M) ∧
  (∀ (L : zzLc) (a1 a2 a3 a4 a5 a6 a7 : Int32) (a0 : Nat) (r : List Value) (A : zzMd) (n : Nat), lz_ev tL_isRefused 286 L (.int a7 :: .int a6 :: .int a5 :: .int a4 :: .int a3 :: .int a2 :: .int a1 :: .ref a0 :: r) (A, n) = bif zz_cat8 r && decide (n + 1 ≤ 3600) then lz_bs (lz_ev tL_isRefused) 289 L r (n + 1) (fL_act [.ref a0, .int a1, .int a2, .int a3, .int a4, .int a5, .int a6, .int a7] A) else none) ∧
  (∀ L st M, lz_ev tL_isRefused 289 L st M = lo_pushI (-1272) 292 (lz_ev tL_isRefused) L st M) ∧
  (∀ L st M, lz_ev tL_isRefused 292 L st M = lo_icmp (fun x y => decide (¬ x = y)) 682 295 (lz_ev tL_isRefused) L st M) ∧
  (∀ L st M, lz_ev tL_isRefused 295 L st M = lo_aload 0 296 (lz_ev tL_isRefused) L st M) ∧
  (∀ L st M, lz_ev tL_isRefused 296 L st M = lo_pushI 6 298 (lz_ev tL_isRefused) L st M) ∧
  (∀ L st M, lz_ev tL_isRefused 298 L st M = lo_pushI 0 299 (lz_ev tL_isRefused) L st M) ∧
  (∀ L st M, lz_ev tL_isRefused 299 L st M = lo_pushI 0 300 (lz_ev tL_isRefused) L st M) ∧
  (∀ L st M, lz_ev tL_isRefused 300 L st M = lo_pushI 0 301 (lz_ev tL_isRefused) L st M) ∧
  (∀ L st M, lz_ev tL_isRefused 301 L st M = lo_pushI 5 302 (lz_ev tL_isRefused) L st M) ∧
  (∀ L st M, lz_ev tL_isRefused 302 L st M = lo_pushI 0 303 (lz_ev tL_isRefused) L st M) ∧
  (∀ L st M, lz_ev tL_isRefused 303 L st M = lo_iload 2 304 (lz_ev tL_isRefused) L st M) ∧
  (∀ L st M, lz_ev tL_isRefused 304 L st M = lo_if (fun x => decide (x = 0)) 316 307 (lz_ev tL_isRefused) L st M) ∧
  (∀ L st M, lz_ev tL_isRefused 307 L st M = lo_pushI (-1) 308 (lz_ev tL_isRefused) L st M) ∧
  (∀ L st M, lz_ev tL_isRefused 308 L st M = lo_iload 1 309 (lz_ev tL_isRefused) L st M) ∧
  (∀ L st M, lz_ev tL_isRefused 309 L st M = lo_pushI 30 311 (lz_ev tL_isRefused) L st M) ∧
  (∀ L st M, lz_ev tL_isRefused 311 L st M = lo_iid (fun x y => x - x / y * y) 312 (lz_ev tL_isRefused) L st M) ∧
  (∀ L st M, lz_ev tL_isRefused 312 L st M = lo_ii (fun x y => x - y) 313 (lz_ev tL_isRefused) L st M) ∧
  (∀ L st M, lz_ev tL_isRefused 313 L st M = lo_goto 318 (lz_ev tL_isRefused) L st M) ∧
  (∀ L st M, lz_ev tL_isRefused 316 L st M = lo_pushI 6 318 (lz_ev tL_isRefused) L st M) ∧
  (∀ (L : zzLc) (a1 a2 a3 a4 a5 a6 a7 : Int32) (a0 : Nat) (r : List Value) (A : zzMd) (n : Nat), lz_ev tL_isRefused 318 L (.int a7 :: .int a6 :: .int a5 :: .int a4 :: .int a3 :: .int a2 :: .int a1 :: .ref a0 :: r) (A, n) = bif zz_cat8 r && decide (n + 1 ≤ 3600) then lz_bs (lz_ev tL_isRefused) 321 L r (n + 1) (fL_act [.ref a0, .int a1, .int a2, .int a3, .int a4, .int a5, .int a6, .int a7] A) else none) ∧
  (∀ L st M, lz_ev tL_isRefused 321 L st M = lo_pushI (-1272) 324 (lz_ev tL_isRefused) L st M) ∧
  (∀ L st M, lz_ev tL_isRefused 324 L st M = lo_icmp (fun x y => decide (¬ x = y)) 682 327 (lz_ev tL_isRefused) L st M) ∧
  (∀ L st M, lz_ev tL_isRefused 327 L st M = lo_aload 0 328 (lz_ev tL_isRefused) L st M) ∧
  (∀ L st M, lz_ev tL_isRefused 328 L st M = lo_pushI 7 330 (lz_ev tL_isRefused) L st M) ∧
  (∀ L st M, lz_ev tL_isRefused 330 L st M = lo_pushI 4 331 (lz_ev tL_isRefused) L st M) ∧
  (∀ L st M, lz_ev tL_isRefused 331 L st M = lo_pushI 0 332 (lz_ev tL_isRefused) L st M) ∧
  (∀ L st M, lz_ev tL_isRefused 332 L st M = lo_pushI 5 333 (lz_ev tL_isRefused) L st M) ∧
  (∀ L st M, lz_ev tL_isRefused 333 L st M = lo_pushI 0 334 (lz_ev tL_isRefused) L st M) ∧
  (∀ L st M, lz_ev tL_isRefused 334 L st M = lo_pushI 0 335 (lz_ev tL_isRefused) L st M) ∧
  (∀ L st M, lz_ev tL_isRefused 335 L st M = lo_pushI 0 336 (lz_ev tL_isRefused) L st M) ∧
  (∀ (L : zzLc) (a1 a2 a3 a4 a5 a6 a7 : Int32) (a0 : Nat) (r : List Value) (A : zzMd) (n : Nat), lz_ev tL_isRefused 336 L (.int a7 :: .int a6 :: .int a5 :: .int a4 :: .int a3 :: .int a2 :: .int a1 :: .ref a0 :: r) (A, n) = bif zz_cat8 r && decide (n + 1 ≤ 3600) then lz_bs (lz_ev tL_isRefused) 339 L r (n + 1) (fL_act [.ref a0, .int a1, .int a2, .int a3, .int a4, .int a5, .int a6, .int a7] A) else none) ∧
  (∀ L st M, lz_ev tL_isRefused 339 L st M = lo_pushI (-1272) 342 (lz_ev tL_isRefused) L st M) ∧
  (∀ L st M, lz_ev tL_isRefused 342 L st M = lo_icmp (fun x y => decide (¬ x = y)) 682 345 (lz_ev tL_isRefused) L st M) ∧
  (∀ L st M, lz_ev tL_isRefused 345 L st M = lo_aload 0 346 (lz_ev tL_isRefused) L st M) ∧
  (∀ L st M, lz_ev tL_isRefused 346 L st M = lo_pushI 8 348 (lz_ev tL_isRefused) L st M) ∧
  (∀ L st M, lz_ev tL_isRefused 348 L st M = lo_iload 2 349 (lz_ev tL_isRefused) L st M) ∧
  (∀ L st M, lz_ev tL_isRefused 349 L st M = lo_if (fun x => decide (x = 0)) 361 352 (lz_ev tL_isRefused) L st M) ∧
  (∀ L st M, lz_ev tL_isRefused 352 L st M = lo_pushI (-1) 353 (lz_ev tL_isRefused) L st M) ∧
  (∀ L st M, lz_ev tL_isRefused 353 L st M = lo_iload 1 354 (lz_ev tL_isRefused) L st M) ∧
  (∀ L st M, lz_ev tL_isRefused 354 L st M = lo_pushI 30 356 (lz_ev tL_isRefused) L st M) ∧
  (∀ L st M, lz_ev tL_isRefused 356 L st M = lo_iid (fun x y => x - x / y * y) 357 (lz_ev tL_isRefused) L st M) ∧
  (∀ L st M, lz_ev tL_isRefused 357 L st M = lo_ii (fun x y => x - y) 358 (lz_ev tL_isRefused) L st M) ∧
  (∀ L st M, lz_ev tL_isRefused 358 L st M = lo_goto 363 (lz_ev tL_isRefused) L st M) ∧
  (∀ L st M, lz_ev tL_isRefused 361 L st M = lo_pushI 61 363 (lz_ev tL_isRefused) L st M) ∧
  (∀ L st M, lz_ev tL_isRefused 363 L st M = lo_pushI 0 364 (lz_ev tL_isRefused) L st M) ∧
  (∀ L st M, lz_ev tL_isRefused 364 L st M = lo_pushI 0 365 (lz_ev tL_isRefused) L st M) ∧
  (∀ L st M, lz_ev tL_isRefused 365 L st M = lo_pushI 0 366 (lz_ev tL_isRefused) L st M) ∧
  (∀ L st M, lz_ev tL_isRefused 366 L st M = lo_pushI 0 367 (lz_ev tL_isRefused) L st M) ∧
  (∀ L st M, lz_ev tL_isRefused 367 L st M = lo_pushI 0 368 (lz_ev tL_isRefused) L st M) ∧
  (∀ (L : zzLc) (a1 a2 a3 a4 a5 a6 a7 : Int32) (a0 : Nat) (r : List Value) (A : zzMd) (n : Nat), lz_ev tL_isRefused 368 L (.int a7 :: .int a6 :: .int a5 :: .int a4 :: .int a3 :: .int a2 :: .int a1 :: .ref a0 :: r) (A, n) = bif zz_cat8 r && decide (n + 1 ≤ 3600) then lz_bs (lz_ev tL_isRefused) 371 L r (n + 1) (fL_act [.ref a0, .int a1, .int a2, .int a3, .int a4, .int a5, .int a6, .int a7] A) else none) ∧
  (∀ L st M, lz_ev tL_isRefused 371 L st M = lo_pushI (-1272) 374 (lz_ev tL_isRefused) L st M) ∧
  (∀ L st M, lz_ev tL_isRefused 374 L st M = lo_icmp (fun x y => decide (¬ x = y)) 682 377 (lz_ev tL_isRefused) L st M) ∧
  (∀ L st M, lz_ev tL_isRefused 377 L st M = lo_aload 0 378 (lz_ev tL_isRefused) L st M) ∧
  (∀ L st M, lz_ev tL_isRefused 378 L st M = lo_pushI 9 380 (lz_ev tL_isRefused) L st M) ∧
  (∀ L st M, lz_ev tL_isRefused 380 L st M = lo_iload 4 382 (lz_ev tL_isRefused) L st M) ∧
  (∀ L st M, lz_ev tL_isRefused 382 L st M = lo_pushI 5 383 (lz_ev tL_isRefused) L st M) ∧
  (∀ L st M, lz_ev tL_isRefused 383 L st M = lo_pushI 0 384 (lz_ev tL_isRefused) L st M) ∧
  (∀ L st M, lz_ev tL_isRefused 384 L st M = lo_pushI 0 385 (lz_ev tL_isRefused) L st M) ∧
  (∀ L st M, lz_ev tL_isRefused 385 L st M = lo_pushI 0 386 (lz_ev tL_isRefused) L st M) ∧
  (∀ L st M, lz_ev tL_isRefused 386 L st M = lo_pushI 0 387 (lz_ev tL_isRefused) L st M) ∧
  (∀ (L : zzLc) (a1 a2 a3 a4 a5 a6 a7 : Int32) (a0 : Nat) (r : List Value) (A : zzMd) (n : Nat), lz_ev tL_isRefused 387 L (.int a7 :: .int a6 :: .int a5 :: .int a4 :: .int a3 :: .int a2 :: .int a1 :: .ref a0 :: r) (A, n) = bif zz_cat8 r && decide (n + 1 ≤ 3600) then lz_bs (lz_ev tL_isRefused) 390 L r (n + 1) (fL_act [.ref a0, .int a1, .int a2, .int a3, .int a4, .int a5, .int a6, .int a7] A) else none) ∧
  (∀ L st M, lz_ev tL_isRefused 390 L st M = lo_pushI (-1272) 393 (lz_ev tL_isRefused) L st M) ∧
  (∀ L st M, lz_ev tL_isRefused 393 L st M = lo_icmp (fun x y => decide (¬ x = y)) 682 396 (lz_ev tL_isRefused) L st M) ∧
  (∀ L st M, lz_ev tL_isRefused 396 L st M = lo_aload 0 397 (lz_ev tL_isRefused) L st M) ∧
  (∀ L st M, lz_ev tL_isRefused 397 L st M = lo_pushI 9 399 (lz_ev tL_isRefused) L st M) ∧
  (∀ L st M, lz_ev tL_isRefused 399 L st M = lo_pushI 0 400 (lz_ev tL_isRefused) L st M) ∧
  (∀ L st M, lz_ev tL_isRefused 400 L st M = lo_iload 2 401 (lz_ev tL_isRefused) L st M) ∧
  (∀ L st M, lz_ev tL_isRefused 401 L st M = lo_if (fun x => decide (x = 0)) 413 404 (lz_ev tL_isRefused) L st M) ∧
  (∀ L st M, lz_ev tL_isRefused 404 L st M = lo_pushI 0 405 (lz_ev tL_isRefused) L st M) ∧
  (∀ L st M, lz_ev tL_isRefused 405 L st M = lo_iload 1 406 (lz_ev tL_isRefused) L st M) ∧
  (∀ L st M, lz_ev tL_isRefused 406 L st M = lo_pushI 30 408 (lz_ev tL_isRefused) L st M) ∧
  (∀ L st M, lz_ev tL_isRefused 408 L st M = lo_iid (fun x y => x - x / y * y) 409 (lz_ev tL_isRefused) L st M) ∧
  (∀ L st M, lz_ev tL_isRefused 409 L st M = lo_ii (fun x y => x - y) 410 (lz_ev tL_isRefused) L st M) ∧
  (∀ L st M, lz_ev tL_isRefused 410 L st M = lo_goto 416 (lz_ev tL_isRefused) L st M) ∧
  (∀ L st M, lz_ev tL_isRefused 413 L st M = lo_pushI 401 416 (lz_ev tL_isRefused) L st M) ∧
  (∀ L st M, lz_ev tL_isRefused 416 L st M = lo_pushI 0 417 (lz_ev tL_isRefused) L st M) ∧
  (∀ L st M, lz_ev tL_isRefused 417 L st M = lo_pushI 0 418 (lz_ev tL_isRefused) L st M) ∧
  (∀ L st M, lz_ev tL_isRefused 418 L st M = lo_pushI 0 419 (lz_ev tL_isRefused) L st M) ∧
  (∀ L st M, lz_ev tL_isRefused 419 L st M = lo_pushI 0 420 (lz_ev tL_isRefused) L st M) ∧
  (∀ (L : zzLc) (a1 a2 a3 a4 a5 a6 a7 : Int32) (a0 : Nat) (r : List Value) (A : zzMd) (n : Nat), lz_ev tL_isRefused 420 L (.int a7 :: .int a6 :: .int a5 :: .int a4 :: .int a3 :: .int a2 :: .int a1 :: .ref a0 :: r) (A, n) = bif zz_cat8 r && decide (n + 1 ≤ 3600) then lz_bs (lz_ev tL_isRefused) 423 L r (n + 1) (fL_act [.ref a0, .int a1, .int a2, .int a3, .int a4, .int a5, .int a6, .int a7] A) else none) ∧
  (∀ L st M, lz_ev tL_isRefused 423 L st M = lo_pushI (-1272) 426 (lz_ev tL_isRefused) L st M) ∧
  (∀ L st M, lz_ev tL_isRefused 426 L st M = lo_icmp (fun x y => decide (¬ x = y)) 682 429 (lz_ev tL_isRefused) L st M) ∧
  (∀ L st M, lz_ev tL_isRefused 429 L st M = lo_aload 0 430 (lz_ev tL_isRefused) L st M) ∧
  (∀ L st M, lz_ev tL_isRefused 430 L st M = lo_pushI 10 432 (lz_ev tL_isRefused) L st M) ∧
  (∀ L st M, lz_ev tL_isRefused 432 L st M = lo_iload 4 434 (lz_ev tL_isRefused) L st M) ∧
  (∀ L st M, lz_ev tL_isRefused 434 L st M = lo_pushI 0 435 (lz_ev tL_isRefused) L st M) ∧
  (∀ L st M, lz_ev tL_isRefused 435 L st M = lo_pushI 0 436 (lz_ev tL_isRefused) L st M) ∧
  (∀ L st M, lz_ev tL_isRefused 436 L st M = lo_pushI 0 437 (lz_ev tL_isRefused) L st M) ∧
  (∀ L st M, lz_ev tL_isRefused 437 L st M = lo_pushI 0 438 (lz_ev tL_isRefused) L st M) ∧
  (∀ L st M, lz_ev tL_isRefused 438 L st M = lo_pushI 0 439 (lz_ev tL_isRefused) L st M) ∧
  (∀ (L : zzLc) (a1 a2 a3 a4 a5 a6 a7 : Int32) (a0 : Nat) (r : List Value) (A : zzMd) (n : Nat), lz_ev tL_isRefused 439 L (.int a7 :: .int a6 :: .int a5 :: .int a4 :: .int a3 :: .int a2 :: .int a1 :: .ref a0 :: r) (A, n) = bif zz_cat8 r && decide (n + 1 ≤ 3600) then lz_bs (lz_ev tL_isRefused) 442 L r (n + 1) (fL_act [.ref a0, .int a1, .int a2, .int a3, .int a4, .int a5, .int a6, .int a7] A) else none) ∧
  (∀ L st M, lz_ev tL_isRefused 442 L st M = lo_pushI (-1272) 445 (lz_ev tL_isRefused) L st M) ∧
  (∀ L st M, lz_ev tL_isRefused 445 L st M = lo_icmp (fun x y => decide (¬ x = y)) 682 448 (lz_ev tL_isRefused) L st M) ∧
  (∀ L st M, lz_ev tL_isRefused 448 L st M = lo_aload 0 449 (lz_ev tL_isRefused) L st M) ∧
  (∀ L st M, lz_ev tL_isRefused 449 L st M = lo_pushI 11 451 (lz_ev tL_isRefused) L st M) ∧
  (∀ L st M, lz_ev tL_isRefused 451 L st M = lo_iload 2 452 (lz_ev tL_isRefused) L st M) ∧
  (∀ L st M, lz_ev tL_isRefused 452 L st M = lo_if (fun x => decide (x = 0)) 464 455 (lz_ev tL_isRefused) L st M) ∧
  (∀ L st M, lz_ev tL_isRefused 455 L st M = lo_pushI 0 456 (lz_ev tL_isRefused) L st M) ∧
  (∀ L st M, lz_ev tL_isRefused 456 L st M = lo_iload 1 457 (lz_ev tL_isRefused) L st M) ∧
  (∀ L st M, lz_ev tL_isRefused 457 L st M = lo_pushI 30 459 (lz_ev tL_isRefused) L st M) ∧
  (∀ L st M, lz_ev tL_isRefused 459 L st M = lo_iid (fun x y => x - x / y * y) 460 (lz_ev tL_isRefused) L st M) ∧
  (∀ L st M, lz_ev tL_isRefused 460 L st M = lo_ii (fun x y => x - y) 461 (lz_ev tL_isRefused) L st M) ∧
  (∀ L st M, lz_ev tL_isRefused 461 L st M = lo_goto 466 (lz_ev tL_isRefused) L st M) ∧
  (∀ L st M, lz_ev tL_isRefused 464 L st M = lo_pushI 11 466 (lz_ev tL_isRefused) L st M) ∧
  (∀ L st M, lz_ev tL_isRefused 466 L st M = lo_pushI 0 467 (lz_ev tL_isRefused) L st M) ∧
  (∀ L st M, lz_ev tL_isRefused 467 L st M = lo_pushI 0 468 (lz_ev tL_isRefused) L st M) ∧
  (∀ L st M, lz_ev tL_isRefused 468 L st M = lo_pushI 0 469 (lz_ev tL_isRefused) L st M) ∧
  (∀ L st M, lz_ev tL_isRefused 469 L st M = lo_pushI 0 470 (lz_ev tL_isRefused) L st M) ∧
  (∀ L st M, lz_ev tL_isRefused 470 L st M = lo_pushI 0 471 (lz_ev tL_isRefused) L st M) ∧
  (∀ (L : zzLc) (a1 a2 a3 a4 a5 a6 a7 : Int32) (a0 : Nat) (r : List Value) (A : zzMd) (n : Nat), lz_ev tL_isRefused 471 L (.int a7 :: .int a6 :: .int a5 :: .int a4 :: .int a3 :: .int a2 :: .int a1 :: .ref a0 :: r) (A, n) = bif zz_cat8 r && decide (n + 1 ≤ 3600) then lz_bs (lz_ev tL_isRefused) 474 L r (n + 1) (fL_act [.ref a0, .int a1, .int a2, .int a3, .int a4, .int a5, .int a6, .int a7] A) else none) ∧
  (∀ L st M, lz_ev tL_isRefused 474 L st M = lo_pushI (-1272) 477 (lz_ev tL_isRefused) L st M) ∧
  (∀ L st M, lz_ev tL_isRefused 477 L st M = lo_icmp (fun x y => decide (¬ x = y)) 682 480 (lz_ev tL_isRefused) L st M) ∧
  (∀ L st M, lz_ev tL_isRefused 480 L st M = lo_aload 0 481 (lz_ev tL_isRefused) L st M) ∧
  (∀ L st M, lz_ev tL_isRefused 481 L st M = lo_pushI 12 483 (lz_ev tL_isRefused) L st M) ∧
  (∀ L st M, lz_ev tL_isRefused 483 L st M = lo_iload 5 485 (lz_ev tL_isRefused) L st M) ∧
  (∀ L st M, lz_ev tL_isRefused 485 L st M = lo_pushI 0 486 (lz_ev tL_isRefused) L st M) ∧
  (∀ L st M, lz_ev tL_isRefused 486 L st M = lo_pushI 0 487 (lz_ev tL_isRefused) L st M) :=
  ⟨lz_1 rfl tl_L_isRefused, lz_1 rfl tl_L_isRefused, lz_1 rfl tl_L_isRefused, lz_1 rfl tl_L_isRefused, lz_1 rfl tl_L_isRefused, fun L a1 a2 a3 a4 a5 a6 a7 a0 r A n => (lz_1 rfl tl_L_isRefused _ _ _).trans rfl, lz_1 rfl tl_L_isRefused, lz_1 rfl tl_L_isRefused, lz_1 rfl tl_L_isRefused, lz_1 rfl tl_L_isRefused, lz_1 rfl tl_L_isRefused, lz_1 rfl tl_L_isRefused, lz_1 rfl tl_L_isRefused, lz_1 rfl tl_L_isRefused, lz_1 rfl tl_L_isRefused, lz_1 rfl tl_L_isRefused, lz_1 rfl tl_L_isRefused, lz_1 rfl tl_L_isRefused, lz_1 rfl tl_L_isRefused, lz_1 rfl tl_L_isRefused, lz_1 rfl tl_L_isRefused, lz_1 rfl tl_L_isRefused, fun L a1 a2 a3 a4 a5 a6 a7 a0 r A n => (lz_1 rfl tl_L_isRefused _ _ _).trans rfl, lz_1 rfl tl_L_isRefused, lz_1 rfl tl_L_isRefused, lz_1 rfl tl_L_isRefused, lz_1 rfl tl_L_isRefused, lz_1 rfl tl_L_isRefused, lz_1 rfl tl_L_isRefused, lz_1 rfl tl_L_isRefused, lz_1 rfl tl_L_isRefused, lz_1 rfl tl_L_isRefused, lz_1 rfl tl_L_isRefused, fun L a1 a2 a3 a4 a5 a6 a7 a0 r A n => (lz_1 rfl tl_L_isRefused _ _ _).trans rfl, lz_1 rfl tl_L_isRefused, lz_1 rfl tl_L_isRefused, lz_1 rfl tl_L_isRefused, lz_1 rfl tl_L_isRefused, lz_1 rfl tl_L_isRefused, lz_1 rfl tl_L_isRefused, lz_1 rfl tl_L_isRefused, lz_1 rfl tl_L_isRefused, lz_1 rfl tl_L_isRefused, lz_1 rfl tl_L_isRefused, lz_1 rfl tl_L_isRefused, lz_1 rfl tl_L_isRefused, lz_1 rfl tl_L_isRefused, lz_1 rfl tl_L_isRefused, lz_1 rfl tl_L_isRefused, lz_1 rfl tl_L_isRefused, lz_1 rfl tl_L_isRefused, lz_1 rfl tl_L_isRefused, fun L a1 a2 a3 a4 a5 a6 a7 a0 r A n => (lz_1 rfl tl_L_isRefused _ _ _).trans rfl, lz_1 rfl tl_L_isRefused, lz_1 rfl tl_L_isRefused, lz_1 rfl tl_L_isRefused, lz_1 rfl tl_L_isRefused, lz_1 rfl tl_L_isRefused, lz_1 rfl tl_L_isRefused, lz_1 rfl tl_L_isRefused, lz_1 rfl tl_L_isRefused, lz_1 rfl tl_L_isRefused, lz_1 rfl tl_L_isRefused, fun L a1 a2 a3 a4 a5 a6 a7 a0 r A n => (lz_1 rfl tl_L_isRefused _ _ _).trans rfl, lz_1 rfl tl_L_isRefused, lz_1 rfl tl_L_isRefused, lz_1 rfl tl_L_isRefused, lz_1 rfl tl_L_isRefused, lz_1 rfl tl_L_isRefused, lz_1 rfl tl_L_isRefused, lz_1 rfl tl_L_isRefused, lz_1 rfl tl_L_isRefused, lz_1 rfl tl_L_isRefused, lz_1 rfl tl_L_isRefused, lz_1 rfl tl_L_isRefused, lz_1 rfl tl_L_isRefused, lz_1 rfl tl_L_isRefused, lz_1 rfl tl_L_isRefused, lz_1 rfl tl_L_isRefused, lz_1 rfl tl_L_isRefused, lz_1 rfl tl_L_isRefused, lz_1 rfl tl_L_isRefused, fun L a1 a2 a3 a4 a5 a6 a7 a0 r A n => (lz_1 rfl tl_L_isRefused _ _ _).trans rfl, lz_1 rfl tl_L_isRefused, lz_1 rfl tl_L_isRefused, lz_1 rfl tl_L_isRefused, lz_1 rfl tl_L_isRefused, lz_1 rfl tl_L_isRefused, lz_1 rfl tl_L_isRefused, lz_1 rfl tl_L_isRefused, lz_1 rfl tl_L_isRefused, lz_1 rfl tl_L_isRefused, lz_1 rfl tl_L_isRefused, fun L a1 a2 a3 a4 a5 a6 a7 a0 r A n => (lz_1 rfl tl_L_isRefused _ _ _).trans rfl, lz_1 rfl tl_L_isRefused, lz_1 rfl tl_L_isRefused, lz_1 rfl tl_L_isRefused, lz_1 rfl tl_L_isRefused, lz_1 rfl tl_L_isRefused, lz_1 rfl tl_L_isRefused, lz_1 rfl tl_L_isRefused, lz_1 rfl tl_L_isRefused, lz_1 rfl tl_L_isRefused, lz_1 rfl tl_L_isRefused, lz_1 rfl tl_L_isRefused, lz_1 rfl tl_L_isRefused, lz_1 rfl tl_L_isRefused, lz_1 rfl tl_L_isRefused, lz_1 rfl tl_L_isRefused, lz_1 rfl tl_L_isRefused, lz_1 rfl tl_L_isRefused, lz_1 rfl tl_L_isRefused, fun L a1 a2 a3 a4 a5 a6 a7 a0 r A n => (lz_1 rfl tl_L_isRefused _ _ _).trans rfl, lz_1 rfl tl_L_isRefused, lz_1 rfl tl_L_isRefused, lz_1 rfl tl_L_isRefused, lz_1 rfl tl_L_isRefused, lz_1 rfl tl_L_isRefused, lz_1 rfl tl_L_isRefused, lz_1 rfl tl_L_isRefused, lz_1 rfl tl_L_isRefused, lz_1 rfl tl_L_isRefused, lz_1 rfl tl_L_isRefused, fun L a1 a2 a3 a4 a5 a6 a7 a0 r A n => (lz_1 rfl tl_L_isRefused _ _ _).trans rfl, lz_1 rfl tl_L_isRefused, lz_1 rfl tl_L_isRefused, lz_1 rfl tl_L_isRefused, lz_1 rfl tl_L_isRefused, lz_1 rfl tl_L_isRefused, lz_1 rfl tl_L_isRefused, lz_1 rfl tl_L_isRefused, lz_1 rfl tl_L_isRefused, lz_1 rfl tl_L_isRefused, lz_1 rfl tl_L_isRefused, lz_1 rfl tl_L_isRefused, lz_1 rfl tl_L_isRefused, lz_1 rfl tl_L_isRefused, lz_1 rfl tl_L_isRefused, lz_1 rfl tl_L_isRefused, lz_1 rfl tl_L_isRefused, lz_1 rfl tl_L_isRefused, lz_1 rfl tl_L_isRefused, fun L a1 a2 a3 a4 a5 a6 a7 a0 r A n => (lz_1 rfl tl_L_isRefused _ _ _).trans rfl, lz_1 rfl tl_L_isRefused, lz_1 rfl tl_L_isRefused, lz_1 rfl tl_L_isRefused, lz_1 rfl tl_L_isRefused, lz_1 rfl tl_L_isRefused, lz_1 rfl tl_L_isRefused, lz_1 rfl tl_L_isRefused⟩
set_option maxRecDepth 100000 in
theorem e_L_isRefused_p2 : (∀ L st M, lz_ev tL_isRefused 487 L st M = lo_pushI 0 488 (lz_ev tL_isRefused) L st M) ∧
  (∀ L st M, lz_ev tL_isRefused 488 L st M = lo_pushI 0 489 (lz_ev tL_isRefused) L st M) ∧
  (∀ L st M, lz_ev tL_isRefused 489 L st M = lo_pushI 0 490 (lz_ev tL_isRefused) L st M) ∧
  (∀ (L : zzLc) (a1 a2 a3 a4 a5 a6 a7 : Int32) (a0 : Nat) (r : List Value) (A : zzMd) (n : Nat), lz_ev tL_isRefused 490 L (.int a7 :: .int a6 :: .int a5 :: .int a4 :: .int a3 :: .int a2 :: .int a1 :: .ref a0 :: r) (A, n) = bif zz_cat8 r && decide (n + 1 ≤ 3600) then lz_bs (lz_ev tL_isRefused) 493 L r (n + 1) (fL_act [.ref a0, .int a1, .int a2, .int a3, .int a4, .int a5, .int a6, .int a7] A) else none) ∧
  (∀ L st M, lz_ev tL_isRefused 493 L st M = lo_pushI (-1272) 496 (lz_ev tL_isRefused) L st M) ∧
  (∀ L st M, lz_ev tL_isRefused 496 L st M = lo_icmp (fun x y => decide (¬ x = y)) 682 499 (lz_ev tL_isRefused) L st M) ∧
  (∀ L st M, lz_ev tL_isRefused 499 L st M = lo_aload 0 500 (lz_ev tL_isRefused) L st M) ∧
  (∀ L st M, lz_ev tL_isRefused 500 L st M = lo_pushI 12 502 (lz_ev tL_isRefused) L st M) ∧
  (∀ L st M, lz_ev tL_isRefused 502 L st M = lo_pushI 0 503 (lz_ev tL_isRefused) L st M) ∧
  (∀ L st M, lz_ev tL_isRefused 503 L st M = lo_iload 2 504 (lz_ev tL_isRefused) L st M) ∧
  (∀ L st M, lz_ev tL_isRefused 504 L st M = lo_if (fun x => decide (x = 0)) 516 507 (lz_ev tL_isRefused) L st M) ∧
  (∀ L st M, lz_ev tL_isRefused 507 L st M = lo_pushI (-1) 508 (lz_ev tL_isRefused) L st M) ∧
  (∀ L st M, lz_ev tL_isRefused 508 L st M = lo_iload 1 509 (lz_ev tL_isRefused) L st M) ∧
  (∀ L st M, lz_ev tL_isRefused 509 L st M = lo_pushI 30 511 (lz_ev tL_isRefused) L st M) ∧
  (∀ L st M, lz_ev tL_isRefused 511 L st M = lo_iid (fun x y => x - x / y * y) 512 (lz_ev tL_isRefused) L st M) ∧
  (∀ L st M, lz_ev tL_isRefused 512 L st M = lo_ii (fun x y => x - y) 513 (lz_ev tL_isRefused) L st M) ∧
  (∀ L st M, lz_ev tL_isRefused 513 L st M = lo_goto 522 (lz_ev tL_isRefused) L st M) ∧
  (∀ L st M, lz_ev tL_isRefused 516 L st M = lo_aload 0 517 (lz_ev tL_isRefused) L st M) ∧
  (∀ (L : zzLc) (r : List Value) (A : zzMd) (n : Nat), lz_ev tL_isRefused 517 L (.ref 0 :: r) (A, n) = bif zz_cat8 r && decide (n ≤ 3600) then lz_bv (lz_ev tL_isRefused) 520 L r n (lz_g fX11_version [.ref 0] A) else none) ∧
  (∀ L st M, lz_ev tL_isRefused 520 L st M = lo_pushI 1 521 (lz_ev tL_isRefused) L st M) ∧
  (∀ L st M, lz_ev tL_isRefused 521 L st M = lo_ii (fun x y => x + y) 522 (lz_ev tL_isRefused) L st M) ∧
  (∀ L st M, lz_ev tL_isRefused 522 L st M = lo_pushI 0 523 (lz_ev tL_isRefused) L st M) ∧
  (∀ L st M, lz_ev tL_isRefused 523 L st M = lo_pushI 0 524 (lz_ev tL_isRefused) L st M) ∧
  (∀ L st M, lz_ev tL_isRefused 524 L st M = lo_pushI 0 525 (lz_ev tL_isRefused) L st M) ∧
  (∀ L st M, lz_ev tL_isRefused 525 L st M = lo_pushI 0 526 (lz_ev tL_isRefused) L st M) ∧
  (∀ (L : zzLc) (a1 a2 a3 a4 a5 a6 a7 : Int32) (a0 : Nat) (r : List Value) (A : zzMd) (n : Nat), lz_ev tL_isRefused 526 L (.int a7 :: .int a6 :: .int a5 :: .int a4 :: .int a3 :: .int a2 :: .int a1 :: .ref a0 :: r) (A, n) = bif zz_cat8 r && decide (n + 1 ≤ 3600) then lz_bs (lz_ev tL_isRefused) 529 L r (n + 1) (fL_act [.ref a0, .int a1, .int a2, .int a3, .int a4, .int a5, .int a6, .int a7] A) else none) ∧
  (∀ L st M, lz_ev tL_isRefused 529 L st M = lo_pushI (-1272) 532 (lz_ev tL_isRefused) L st M) ∧
  (∀ L st M, lz_ev tL_isRefused 532 L st M = lo_icmp (fun x y => decide (¬ x = y)) 682 535 (lz_ev tL_isRefused) L st M) ∧
  (∀ L st M, lz_ev tL_isRefused 535 L st M = lo_aload 0 536 (lz_ev tL_isRefused) L st M) ∧
  (∀ L st M, lz_ev tL_isRefused 536 L st M = lo_pushI 13 538 (lz_ev tL_isRefused) L st M) ∧
  (∀ L st M, lz_ev tL_isRefused 538 L st M = lo_iload 5 540 (lz_ev tL_isRefused) L st M) ∧
  (∀ L st M, lz_ev tL_isRefused 540 L st M = lo_pushI 0 541 (lz_ev tL_isRefused) L st M) ∧
  (∀ L st M, lz_ev tL_isRefused 541 L st M = lo_pushI 0 542 (lz_ev tL_isRefused) L st M) ∧
  (∀ L st M, lz_ev tL_isRefused 542 L st M = lo_pushI 0 543 (lz_ev tL_isRefused) L st M) ∧
  (∀ L st M, lz_ev tL_isRefused 543 L st M = lo_pushI 0 544 (lz_ev tL_isRefused) L st M) ∧
  (∀ L st M, lz_ev tL_isRefused 544 L st M = lo_pushI 0 545 (lz_ev tL_isRefused) L st M) ∧
  (∀ (L : zzLc) (a1 a2 a3 a4 a5 a6 a7 : Int32) (a0 : Nat) (r : List Value) (A : zzMd) (n : Nat), lz_ev tL_isRefused 545 L (.int a7 :: .int a6 :: .int a5 :: .int a4 :: .int a3 :: .int a2 :: .int a1 :: .ref a0 :: r) (A, n) = bif zz_cat8 r && decide (n + 1 ≤ 3600) then lz_bs (lz_ev tL_isRefused) 548 L r (n + 1) (fL_act [.ref a0, .int a1, .int a2, .int a3, .int a4, .int a5, .int a6, .int a7] A) else none) ∧
  (∀ L st M, lz_ev tL_isRefused 548 L st M = lo_pushI (-1272) 551 (lz_ev tL_isRefused) L st M) ∧
  (∀ L st M, lz_ev tL_isRefused 551 L st M = lo_icmp (fun x y => decide (¬ x = y)) 682 554 (lz_ev tL_isRefused) L st M) ∧
  (∀ L st M, lz_ev tL_isRefused 554 L st M = lo_aload 0 555 (lz_ev tL_isRefused) L st M) ∧
  (∀ L st M, lz_ev tL_isRefused 555 L st M = lo_pushI 14 557 (lz_ev tL_isRefused) L st M) ∧
  (∀ L st M, lz_ev tL_isRefused 557 L st M = lo_iload 2 558 (lz_ev tL_isRefused) L st M) ∧
  (∀ L st M, lz_ev tL_isRefused 558 L st M = lo_if (fun x => decide (x = 0)) 570 561 (lz_ev tL_isRefused) L st M) ∧
  (∀ L st M, lz_ev tL_isRefused 561 L st M = lo_pushI (-1) 562 (lz_ev tL_isRefused) L st M) ∧
  (∀ L st M, lz_ev tL_isRefused 562 L st M = lo_iload 1 563 (lz_ev tL_isRefused) L st M) ∧
  (∀ L st M, lz_ev tL_isRefused 563 L st M = lo_pushI 30 565 (lz_ev tL_isRefused) L st M) ∧
  (∀ L st M, lz_ev tL_isRefused 565 L st M = lo_iid (fun x y => x - x / y * y) 566 (lz_ev tL_isRefused) L st M) ∧
  (∀ L st M, lz_ev tL_isRefused 566 L st M = lo_ii (fun x y => x - y) 567 (lz_ev tL_isRefused) L st M) ∧
  (∀ L st M, lz_ev tL_isRefused 567 L st M = lo_goto 576 (lz_ev tL_isRefused) L st M) ∧
  (∀ L st M, lz_ev tL_isRefused 570 L st M = lo_aload 0 571 (lz_ev tL_isRefused) L st M) ∧
  (∀ (L : zzLc) (r : List Value) (A : zzMd) (n : Nat), lz_ev tL_isRefused 571 L (.ref 0 :: r) (A, n) = bif zz_cat8 r && decide (n ≤ 3600) then lz_bv (lz_ev tL_isRefused) 574 L r n (lz_g fX11_version [.ref 0] A) else none) ∧
  (∀ L st M, lz_ev tL_isRefused 574 L st M = lo_pushI 1 575 (lz_ev tL_isRefused) L st M) ∧
  (∀ L st M, lz_ev tL_isRefused 575 L st M = lo_ii (fun x y => x + y) 576 (lz_ev tL_isRefused) L st M) ∧
  (∀ L st M, lz_ev tL_isRefused 576 L st M = lo_pushI 0 577 (lz_ev tL_isRefused) L st M) ∧
  (∀ L st M, lz_ev tL_isRefused 577 L st M = lo_pushI 0 578 (lz_ev tL_isRefused) L st M) ∧
  (∀ L st M, lz_ev tL_isRefused 578 L st M = lo_pushI 0 579 (lz_ev tL_isRefused) L st M) ∧
  (∀ L st M, lz_ev tL_isRefused 579 L st M = lo_pushI 0 580 (lz_ev tL_isRefused) L st M) ∧
  (∀ L st M, lz_ev tL_isRefused 580 L st M = lo_pushI 0 581 (lz_ev tL_isRefused) L st M) ∧
  (∀ (L : zzLc) (a1 a2 a3 a4 a5 a6 a7 : Int32) (a0 : Nat) (r : List Value) (A : zzMd) (n : Nat), lz_ev tL_isRefused 581 L (.int a7 :: .int a6 :: .int a5 :: .int a4 :: .int a3 :: .int a2 :: .int a1 :: .ref a0 :: r) (A, n) = bif zz_cat8 r && decide (n + 1 ≤ 3600) then lz_bs (lz_ev tL_isRefused) 584 L r (n + 1) (fL_act [.ref a0, .int a1, .int a2, .int a3, .int a4, .int a5, .int a6, .int a7] A) else none) ∧
  (∀ L st M, lz_ev tL_isRefused 584 L st M = lo_pushI (-1272) 587 (lz_ev tL_isRefused) L st M) ∧
  (∀ L st M, lz_ev tL_isRefused 587 L st M = lo_icmp (fun x y => decide (¬ x = y)) 682 590 (lz_ev tL_isRefused) L st M) ∧
  (∀ L st M, lz_ev tL_isRefused 590 L st M = lo_aload 0 591 (lz_ev tL_isRefused) L st M) ∧
  (∀ L st M, lz_ev tL_isRefused 591 L st M = lo_pushI 15 593 (lz_ev tL_isRefused) L st M) ∧
  (∀ L st M, lz_ev tL_isRefused 593 L st M = lo_iload 2 594 (lz_ev tL_isRefused) L st M) ∧
  (∀ L st M, lz_ev tL_isRefused 594 L st M = lo_if (fun x => decide (x = 0)) 606 597 (lz_ev tL_isRefused) L st M) ∧
  (∀ L st M, lz_ev tL_isRefused 597 L st M = lo_pushI 0 598 (lz_ev tL_isRefused) L st M) ∧
  (∀ L st M, lz_ev tL_isRefused 598 L st M = lo_iload 1 599 (lz_ev tL_isRefused) L st M) ∧
  (∀ L st M, lz_ev tL_isRefused 599 L st M = lo_pushI 30 601 (lz_ev tL_isRefused) L st M) ∧
  (∀ L st M, lz_ev tL_isRefused 601 L st M = lo_iid (fun x y => x - x / y * y) 602 (lz_ev tL_isRefused) L st M) ∧
  (∀ L st M, lz_ev tL_isRefused 602 L st M = lo_ii (fun x y => x - y) 603 (lz_ev tL_isRefused) L st M) ∧
  (∀ L st M, lz_ev tL_isRefused 603 L st M = lo_goto 608 (lz_ev tL_isRefused) L st M) ∧
  (∀ L st M, lz_ev tL_isRefused 606 L st M = lo_pushI 101 608 (lz_ev tL_isRefused) L st M) ∧
  (∀ L st M, lz_ev tL_isRefused 608 L st M = lo_pushI 0 609 (lz_ev tL_isRefused) L st M) ∧
  (∀ L st M, lz_ev tL_isRefused 609 L st M = lo_pushI 0 610 (lz_ev tL_isRefused) L st M) ∧
  (∀ L st M, lz_ev tL_isRefused 610 L st M = lo_pushI 0 611 (lz_ev tL_isRefused) L st M) ∧
  (∀ L st M, lz_ev tL_isRefused 611 L st M = lo_pushI 0 612 (lz_ev tL_isRefused) L st M) ∧
  (∀ L st M, lz_ev tL_isRefused 612 L st M = lo_pushI 0 613 (lz_ev tL_isRefused) L st M) ∧
  (∀ (L : zzLc) (a1 a2 a3 a4 a5 a6 a7 : Int32) (a0 : Nat) (r : List Value) (A : zzMd) (n : Nat), lz_ev tL_isRefused 613 L (.int a7 :: .int a6 :: .int a5 :: .int a4 :: .int a3 :: .int a2 :: .int a1 :: .ref a0 :: r) (A, n) = bif zz_cat8 r && decide (n + 1 ≤ 3600) then lz_bs (lz_ev tL_isRefused) 616 L r (n + 1) (fL_act [.ref a0, .int a1, .int a2, .int a3, .int a4, .int a5, .int a6, .int a7] A) else none) ∧
  (∀ L st M, lz_ev tL_isRefused 616 L st M = lo_pushI (-1272) 619 (lz_ev tL_isRefused) L st M) ∧
  (∀ L st M, lz_ev tL_isRefused 619 L st M = lo_icmp (fun x y => decide (¬ x = y)) 682 622 (lz_ev tL_isRefused) L st M) ∧
  (∀ L st M, lz_ev tL_isRefused 622 L st M = lo_aload 0 623 (lz_ev tL_isRefused) L st M) ∧
  (∀ L st M, lz_ev tL_isRefused 623 L st M = lo_pushI 16 625 (lz_ev tL_isRefused) L st M) ∧
  (∀ L st M, lz_ev tL_isRefused 625 L st M = lo_iload 3 626 (lz_ev tL_isRefused) L st M) ∧
  (∀ L st M, lz_ev tL_isRefused 626 L st M = lo_pushI 0 627 (lz_ev tL_isRefused) L st M) ∧
  (∀ L st M, lz_ev tL_isRefused 627 L st M = lo_pushI 0 628 (lz_ev tL_isRefused) L st M) ∧
  (∀ L st M, lz_ev tL_isRefused 628 L st M = lo_pushI 0 629 (lz_ev tL_isRefused) L st M) ∧
  (∀ L st M, lz_ev tL_isRefused 629 L st M = lo_pushI 0 630 (lz_ev tL_isRefused) L st M) ∧
  (∀ L st M, lz_ev tL_isRefused 630 L st M = lo_pushI 0 631 (lz_ev tL_isRefused) L st M) ∧
  (∀ (L : zzLc) (a1 a2 a3 a4 a5 a6 a7 : Int32) (a0 : Nat) (r : List Value) (A : zzMd) (n : Nat), lz_ev tL_isRefused 631 L (.int a7 :: .int a6 :: .int a5 :: .int a4 :: .int a3 :: .int a2 :: .int a1 :: .ref a0 :: r) (A, n) = bif zz_cat8 r && decide (n + 1 ≤ 3600) then lz_bs (lz_ev tL_isRefused) 634 L r (n + 1) (fL_act [.ref a0, .int a1, .int a2, .int a3, .int a4, .int a5, .int a6, .int a7] A) else none) ∧
  (∀ L st M, lz_ev tL_isRefused 634 L st M = lo_pushI (-1271) 637 (lz_ev tL_isRefused) L st M) ∧
  (∀ L st M, lz_ev tL_isRefused 637 L st M = lo_icmp (fun x y => decide (¬ x = y)) 682 640 (lz_ev tL_isRefused) L st M) ∧
  (∀ L st M, lz_ev tL_isRefused 640 L st M = lo_aload 0 641 (lz_ev tL_isRefused) L st M) ∧
  (∀ L st M, lz_ev tL_isRefused 641 L st M = lo_pushI 17 643 (lz_ev tL_isRefused) L st M) ∧
  (∀ L st M, lz_ev tL_isRefused 643 L st M = lo_iload 3 644 (lz_ev tL_isRefused) L st M) ∧
  (∀ L st M, lz_ev tL_isRefused 644 L st M = lo_pushI 50 646 (lz_ev tL_isRefused) L st M) ∧
  (∀ L st M, lz_ev tL_isRefused 646 L st M = lo_pushI 0 647 (lz_ev tL_isRefused) L st M) ∧
  (∀ L st M, lz_ev tL_isRefused 647 L st M = lo_pushI 0 648 (lz_ev tL_isRefused) L st M) ∧
  (∀ L st M, lz_ev tL_isRefused 648 L st M = lo_pushI 0 649 (lz_ev tL_isRefused) L st M) ∧
  (∀ L st M, lz_ev tL_isRefused 649 L st M = lo_pushI 0 650 (lz_ev tL_isRefused) L st M) ∧
  (∀ (L : zzLc) (a1 a2 a3 a4 a5 a6 a7 : Int32) (a0 : Nat) (r : List Value) (A : zzMd) (n : Nat), lz_ev tL_isRefused 650 L (.int a7 :: .int a6 :: .int a5 :: .int a4 :: .int a3 :: .int a2 :: .int a1 :: .ref a0 :: r) (A, n) = bif zz_cat8 r && decide (n + 1 ≤ 3600) then lz_bs (lz_ev tL_isRefused) 653 L r (n + 1) (fL_act [.ref a0, .int a1, .int a2, .int a3, .int a4, .int a5, .int a6, .int a7] A) else none) ∧
  (∀ L st M, lz_ev tL_isRefused 653 L st M = lo_pushI (-1271) 656 (lz_ev tL_isRefused) L st M) ∧
  (∀ L st M, lz_ev tL_isRefused 656 L st M = lo_icmp (fun x y => decide (¬ x = y)) 682 659 (lz_ev tL_isRefused) L st M) ∧
  (∀ L st M, lz_ev tL_isRefused 659 L st M = lo_aload 0 660 (lz_ev tL_isRefused) L st M) ∧
  (∀ L st M, lz_ev tL_isRefused 660 L st M = lo_pushI 18 662 (lz_ev tL_isRefused) L st M) ∧
  (∀ L st M, lz_ev tL_isRefused 662 L st M = lo_iload 5 664 (lz_ev tL_isRefused) L st M) ∧
  (∀ L st M, lz_ev tL_isRefused 664 L st M = lo_pushI 0 665 (lz_ev tL_isRefused) L st M) ∧
  (∀ L st M, lz_ev tL_isRefused 665 L st M = lo_pushI 0 666 (lz_ev tL_isRefused) L st M) ∧
  (∀ L st M, lz_ev tL_isRefused 666 L st M = lo_pushI 0 667 (lz_ev tL_isRefused) L st M) ∧
  (∀ L st M, lz_ev tL_isRefused 667 L st M = lo_pushI 0 668 (lz_ev tL_isRefused) L st M) ∧
  (∀ L st M, lz_ev tL_isRefused 668 L st M = lo_pushI 0 669 (lz_ev tL_isRefused) L st M) ∧
  (∀ (L : zzLc) (a1 a2 a3 a4 a5 a6 a7 : Int32) (a0 : Nat) (r : List Value) (A : zzMd) (n : Nat), lz_ev tL_isRefused 669 L (.int a7 :: .int a6 :: .int a5 :: .int a4 :: .int a3 :: .int a2 :: .int a1 :: .ref a0 :: r) (A, n) = bif zz_cat8 r && decide (n + 1 ≤ 3600) then lz_bs (lz_ev tL_isRefused) 672 L r (n + 1) (fL_act [.ref a0, .int a1, .int a2, .int a3, .int a4, .int a5, .int a6, .int a7] A) else none) ∧
  (∀ L st M, lz_ev tL_isRefused 672 L st M = lo_pushI (-1272) 675 (lz_ev tL_isRefused) L st M) ∧
  (∀ L st M, lz_ev tL_isRefused 675 L st M = lo_icmp (fun x y => decide (¬ x = y)) 682 678 (lz_ev tL_isRefused) L st M) ∧
  (∀ L st M, lz_ev tL_isRefused 678 L st M = lo_pushI 1 679 (lz_ev tL_isRefused) L st M) ∧
  (∀ L st M, lz_ev tL_isRefused 679 L st M = lo_goto 683 (lz_ev tL_isRefused) L st M) ∧
  (∀ L st M, lz_ev tL_isRefused 682 L st M = lo_pushI 0 683 (lz_ev tL_isRefused) L st M) ∧
  (∀ L st M, lz_ev tL_isRefused 683 L st M = lo_istore 8 685 (lz_ev tL_isRefused) L st M) ∧
  (∀ L st M, lz_ev tL_isRefused 685 L st M = lo_pushI 0 686 (lz_ev tL_isRefused) L st M) ∧
  (∀ L st M, lz_ev tL_isRefused 686 L st M = lo_istore 9 688 (lz_ev tL_isRefused) L st M) ∧
  (∀ L st M, lz_ev tL_isRefused 690 L st M = lo_pushI 12 692 (lz_ev tL_isRefused) L st M) ∧
  (∀ L st M, lz_ev tL_isRefused 692 L st M = lo_icmp (fun x y => decide (y ≤ x)) 728 695 (lz_ev tL_isRefused) L st M) ∧
  (∀ L st M, lz_ev tL_isRefused 695 L st M = lo_iload 8 697 (lz_ev tL_isRefused) L st M) ∧
  (∀ L st M, lz_ev tL_isRefused 697 L st M = lo_if (fun x => decide (x = 0)) 728 700 (lz_ev tL_isRefused) L st M) ∧
  (∀ L st M, lz_ev tL_isRefused 700 L st M = lo_aload 0 701 (lz_ev tL_isRefused) L st M) ∧
  (∀ L st M, lz_ev tL_isRefused 701 L st M = lo_iload 9 703 (lz_ev tL_isRefused) L st M) ∧
  (∀ L st M, lz_ev tL_isRefused 703 L st M = lo_iload 3 704 (lz_ev tL_isRefused) L st M) ∧
  (∀ L st M, lz_ev tL_isRefused 704 L st M = lo_pushI 0 705 (lz_ev tL_isRefused) L st M) ∧
  (∀ L st M, lz_ev tL_isRefused 705 L st M = lo_pushI 0 706 (lz_ev tL_isRefused) L st M) ∧
  (∀ (L : zzLc) (a1 a2 a3 a4 : Int32) (a0 : Nat) (r : List Value) (A : zzMd) (n : Nat), lz_ev tL_isRefused 706 L (.int a4 :: .int a3 :: .int a2 :: .int a1 :: .ref a0 :: r) (A, n) = bif zz_cat8 r && decide (n + 1 ≤ 3600) then lz_bs (lz_ev tL_isRefused) 709 L r (n + 1) (fL_of [.ref a0, .int a1, .int a2, .int a3, .int a4] A) else none) ∧
  (∀ L st M, lz_ev tL_isRefused 709 L st M = lo_pushI (-1271) 712 (lz_ev tL_isRefused) L st M) ∧
  (∀ L st M, lz_ev tL_isRefused 712 L st M = lo_icmp (fun x y => decide (¬ x = y)) 719 715 (lz_ev tL_isRefused) L st M) ∧
  (∀ L st M, lz_ev tL_isRefused 715 L st M = lo_pushI 1 716 (lz_ev tL_isRefused) L st M) ∧
  (∀ L st M, lz_ev tL_isRefused 716 L st M = lo_goto 720 (lz_ev tL_isRefused) L st M) ∧
  (∀ L st M, lz_ev tL_isRefused 719 L st M = lo_pushI 0 720 (lz_ev tL_isRefused) L st M) ∧
  (∀ L st M, lz_ev tL_isRefused 720 L st M = lo_istore 8 722 (lz_ev tL_isRefused) L st M) ∧
  (∀ L st M, lz_ev tL_isRefused 722 L st M = lo_iinc 9 1 725 (lz_ev tL_isRefused) L st M) ∧
  (∀ L st M, lz_ev tL_isRefused 725 L st M = lo_goto 688 (lz_ev tL_isRefused) L st M) ∧
  (∀ L st M, lz_ev tL_isRefused 728 L st M = lo_iload 8 730 (lz_ev tL_isRefused) L st M) ∧
  (∀ L st M, lz_ev tL_isRefused 730 L st M = lo_if (fun x => decide (x = 0)) 835 733 (lz_ev tL_isRefused) L st M) ∧
  (∀ L st M, lz_ev tL_isRefused 733 L st M = lo_aload 0 734 (lz_ev tL_isRefused) L st M) ∧
  (∀ L st M, lz_ev tL_isRefused 734 L st M = lo_pushI 13 736 (lz_ev tL_isRefused) L st M) ∧
  (∀ L st M, lz_ev tL_isRefused 736 L st M = lo_iload 4 738 (lz_ev tL_isRefused) L st M) ∧
  (∀ L st M, lz_ev tL_isRefused 738 L st M = lo_pushI 0 739 (lz_ev tL_isRefused) L st M) ∧
  (∀ L st M, lz_ev tL_isRefused 739 L st M = lo_pushI 0 740 (lz_ev tL_isRefused) L st M) ∧
  (∀ (L : zzLc) (a1 a2 a3 a4 : Int32) (a0 : Nat) (r : List Value) (A : zzMd) (n : Nat), lz_ev tL_isRefused 740 L (.int a4 :: .int a3 :: .int a2 :: .int a1 :: .ref a0 :: r) (A, n) = bif zz_cat8 r && decide (n + 1 ≤ 3600) then lz_bs (lz_ev tL_isRefused) 743 L r (n + 1) (fL_of [.ref a0, .int a1, .int a2, .int a3, .int a4] A) else none) ∧
  (∀ L st M, lz_ev tL_isRefused 743 L st M = lo_pushI (-1272) 746 (lz_ev tL_isRefused) L st M) ∧
  (∀ L st M, lz_ev tL_isRefused 746 L st M = lo_icmp (fun x y => decide (¬ x = y)) 835 749 (lz_ev tL_isRefused) L st M) ∧
  (∀ L st M, lz_ev tL_isRefused 749 L st M = lo_aload 0 750 (lz_ev tL_isRefused) L st M) ∧
  (∀ L st M, lz_ev tL_isRefused 750 L st M = lo_pushI 14 752 (lz_ev tL_isRefused) L st M) ∧
  (∀ L st M, lz_ev tL_isRefused 752 L st M = lo_iload 4 754 (lz_ev tL_isRefused) L st M) :=
  ⟨lz_1 rfl tl_L_isRefused, lz_1 rfl tl_L_isRefused, lz_1 rfl tl_L_isRefused, fun L a1 a2 a3 a4 a5 a6 a7 a0 r A n => (lz_1 rfl tl_L_isRefused _ _ _).trans rfl, lz_1 rfl tl_L_isRefused, lz_1 rfl tl_L_isRefused, lz_1 rfl tl_L_isRefused, lz_1 rfl tl_L_isRefused, lz_1 rfl tl_L_isRefused, lz_1 rfl tl_L_isRefused, lz_1 rfl tl_L_isRefused, lz_1 rfl tl_L_isRefused, lz_1 rfl tl_L_isRefused, lz_1 rfl tl_L_isRefused, lz_1 rfl tl_L_isRefused, lz_1 rfl tl_L_isRefused, lz_1 rfl tl_L_isRefused, lz_1 rfl tl_L_isRefused, fun L  r A n => (lz_1 rfl tl_L_isRefused _ _ _).trans rfl, lz_1 rfl tl_L_isRefused, lz_1 rfl tl_L_isRefused, lz_1 rfl tl_L_isRefused, lz_1 rfl tl_L_isRefused, lz_1 rfl tl_L_isRefused, lz_1 rfl tl_L_isRefused, fun L a1 a2 a3 a4 a5 a6 a7 a0 r A n => (lz_1 rfl tl_L_isRefused _ _ _).trans rfl, lz_1 rfl tl_L_isRefused, lz_1 rfl tl_L_isRefused, lz_1 rfl tl_L_isRefused, lz_1 rfl tl_L_isRefused, lz_1 rfl tl_L_isRefused, lz_1 rfl tl_L_isRefused, lz_1 rfl tl_L_isRefused, lz_1 rfl tl_L_isRefused, lz_1 rfl tl_L_isRefused, lz_1 rfl tl_L_isRefused, fun L a1 a2 a3 a4 a5 a6 a7 a0 r A n => (lz_1 rfl tl_L_isRefused _ _ _).trans rfl, lz_1 rfl tl_L_isRefused, lz_1 rfl tl_L_isRefused, lz_1 rfl tl_L_isRefused, lz_1 rfl tl_L_isRefused, lz_1 rfl tl_L_isRefused, lz_1 rfl tl_L_isRefused, lz_1 rfl tl_L_isRefused, lz_1 rfl tl_L_isRefused, lz_1 rfl tl_L_isRefused, lz_1 rfl tl_L_isRefused, lz_1 rfl tl_L_isRefused, lz_1 rfl tl_L_isRefused, lz_1 rfl tl_L_isRefused, fun L  r A n => (lz_1 rfl tl_L_isRefused _ _ _).trans rfl, lz_1 rfl tl_L_isRefused, lz_1 rfl tl_L_isRefused, lz_1 rfl tl_L_isRefused, lz_1 rfl tl_L_isRefused, lz_1 rfl tl_L_isRefused, lz_1 rfl tl_L_isRefused, lz_1 rfl tl_L_isRefused, fun L a1 a2 a3 a4 a5 a6 a7 a0 r A n => (lz_1 rfl tl_L_isRefused _ _ _).trans rfl, lz_1 rfl tl_L_isRefused, lz_1 rfl tl_L_isRefused, lz_1 rfl tl_L_isRefused, lz_1 rfl tl_L_isRefused, lz_1 rfl tl_L_isRefused, lz_1 rfl tl_L_isRefused, lz_1 rfl tl_L_isRefused, lz_1 rfl tl_L_isRefused, lz_1 rfl tl_L_isRefused, lz_1 rfl tl_L_isRefused, lz_1 rfl tl_L_isRefused, lz_1 rfl tl_L_isRefused, lz_1 rfl tl_L_isRefused, lz_1 rfl tl_L_isRefused, lz_1 rfl tl_L_isRefused, lz_1 rfl tl_L_isRefused, lz_1 rfl tl_L_isRefused, lz_1 rfl tl_L_isRefused, fun L a1 a2 a3 a4 a5 a6 a7 a0 r A n => (lz_1 rfl tl_L_isRefused _ _ _).trans rfl, lz_1 rfl tl_L_isRefused, lz_1 rfl tl_L_isRefused, lz_1 rfl tl_L_isRefused, lz_1 rfl tl_L_isRefused, lz_1 rfl tl_L_isRefused, lz_1 rfl tl_L_isRefused, lz_1 rfl tl_L_isRefused, lz_1 rfl tl_L_isRefused, lz_1 rfl tl_L_isRefused, lz_1 rfl tl_L_isRefused, fun L a1 a2 a3 a4 a5 a6 a7 a0 r A n => (lz_1 rfl tl_L_isRefused _ _ _).trans rfl, lz_1 rfl tl_L_isRefused, lz_1 rfl tl_L_isRefused, lz_1 rfl tl_L_isRefused, lz_1 rfl tl_L_isRefused, lz_1 rfl tl_L_isRefused, lz_1 rfl tl_L_isRefused, lz_1 rfl tl_L_isRefused, lz_1 rfl tl_L_isRefused, lz_1 rfl tl_L_isRefused, lz_1 rfl tl_L_isRefused, fun L a1 a2 a3 a4 a5 a6 a7 a0 r A n => (lz_1 rfl tl_L_isRefused _ _ _).trans rfl, lz_1 rfl tl_L_isRefused, lz_1 rfl tl_L_isRefused, lz_1 rfl tl_L_isRefused, lz_1 rfl tl_L_isRefused, lz_1 rfl tl_L_isRefused, lz_1 rfl tl_L_isRefused, lz_1 rfl tl_L_isRefused, lz_1 rfl tl_L_isRefused, lz_1 rfl tl_L_isRefused, lz_1 rfl tl_L_isRefused, fun L a1 a2 a3 a4 a5 a6 a7 a0 r A n => (lz_1 rfl tl_L_isRefused _ _ _).trans rfl, lz_1 rfl tl_L_isRefused, lz_1 rfl tl_L_isRefused, lz_1 rfl tl_L_isRefused, lz_1 rfl tl_L_isRefused, lz_1 rfl tl_L_isRefused, lz_1 rfl tl_L_isRefused, lz_1 rfl tl_L_isRefused, lz_1 rfl tl_L_isRefused, lz_1 rfl tl_L_isRefused, lz_1 rfl tl_L_isRefused, lz_1 rfl tl_L_isRefused, lz_1 rfl tl_L_isRefused, lz_1 rfl tl_L_isRefused, lz_1 rfl tl_L_isRefused, lz_1 rfl tl_L_isRefused, lz_1 rfl tl_L_isRefused, lz_1 rfl tl_L_isRefused, fun L a1 a2 a3 a4 a0 r A n => (lz_1 rfl tl_L_isRefused _ _ _).trans rfl, lz_1 rfl tl_L_isRefused, lz_1 rfl tl_L_isRefused, lz_1 rfl tl_L_isRefused, lz_1 rfl tl_L_isRefused, lz_1 rfl tl_L_isRefused, lz_1 rfl tl_L_isRefused, lz_1 rfl tl_L_isRefused, lz_1 rfl tl_L_isRefused, lz_1 rfl tl_L_isRefused, lz_1 rfl tl_L_isRefused, lz_1 rfl tl_L_isRefused, lz_1 rfl tl_L_isRefused, lz_1 rfl tl_L_isRefused, lz_1 rfl tl_L_isRefused, lz_1 rfl tl_L_isRefused, fun L a1 a2 a3 a4 a0 r A n => (lz_1 rfl tl_L_isRefused _ _ _).trans rfl, lz_1 rfl tl_L_isRefused, lz_1 rfl tl_L_isRefused, lz_1 rfl tl_L_isRefused, lz_1 rfl tl_L_isRefused, lz_1 rfl tl_L_isRefused⟩
set_option maxRecDepth 100000 in
theorem e_L_isRefused_p3 : (∀ L st M, lz_ev tL_isRefused 754 L st M = lo_pushI (-1) 755 (lz_ev tL_isRefused) L st M) ∧
  (∀ L st M, lz_ev tL_isRefused 755 L st M = lo_pushI 0 756 (lz_ev tL_isRefused) L st M) ∧
  (∀ (L : zzLc) (a1 a2 a3 a4 : Int32) (a0 : Nat) (r : List Value) (A : zzMd) (n : Nat), lz_ev tL_isRefused 756 L (.int a4 :: .int a3 :: .int a2 :: .int a1 :: .ref a0 :: r) (A, n) = bif zz_cat8 r && decide (n + 1 ≤ 3600) then lz_bs (lz_ev tL_isRefused) 759 L r (n + 1) (fL_of [.ref a0, .int a1, .int a2, .int a3, .int a4] A) else none) ∧
  (∀ L st M, lz_ev tL_isRefused 759 L st M = lo_pushI (-1272) 762 (lz_ev tL_isRefused) L st M) ∧
  (∀ L st M, lz_ev tL_isRefused 762 L st M = lo_icmp (fun x y => decide (¬ x = y)) 835 765 (lz_ev tL_isRefused) L st M) ∧
  (∀ L st M, lz_ev tL_isRefused 765 L st M = lo_aload 0 766 (lz_ev tL_isRefused) L st M) ∧
  (∀ L st M, lz_ev tL_isRefused 766 L st M = lo_pushI 14 768 (lz_ev tL_isRefused) L st M) ∧
  (∀ L st M, lz_ev tL_isRefused 768 L st M = lo_pushI 0 769 (lz_ev tL_isRefused) L st M) ∧
  (∀ L st M, lz_ev tL_isRefused 769 L st M = lo_pushI (-1) 770 (lz_ev tL_isRefused) L st M) ∧
  (∀ L st M, lz_ev tL_isRefused 770 L st M = lo_iload 1 771 (lz_ev tL_isRefused) L st M) ∧
  (∀ L st M, lz_ev tL_isRefused 771 L st M = lo_pushI 30 773 (lz_ev tL_isRefused) L st M) ∧
  (∀ L st M, lz_ev tL_isRefused 773 L st M = lo_iid (fun x y => x - x / y * y) 774 (lz_ev tL_isRefused) L st M) ∧
  (∀ L st M, lz_ev tL_isRefused 774 L st M = lo_ii (fun x y => x - y) 775 (lz_ev tL_isRefused) L st M) ∧
  (∀ L st M, lz_ev tL_isRefused 775 L st M = lo_pushI 0 776 (lz_ev tL_isRefused) L st M) ∧
  (∀ (L : zzLc) (a1 a2 a3 a4 : Int32) (a0 : Nat) (r : List Value) (A : zzMd) (n : Nat), lz_ev tL_isRefused 776 L (.int a4 :: .int a3 :: .int a2 :: .int a1 :: .ref a0 :: r) (A, n) = bif zz_cat8 r && decide (n + 1 ≤ 3600) then lz_bs (lz_ev tL_isRefused) 779 L r (n + 1) (fL_of [.ref a0, .int a1, .int a2, .int a3, .int a4] A) else none) ∧
  (∀ L st M, lz_ev tL_isRefused 779 L st M = lo_pushI (-1271) 782 (lz_ev tL_isRefused) L st M) ∧
  (∀ L st M, lz_ev tL_isRefused 782 L st M = lo_icmp (fun x y => decide (¬ x = y)) 835 785 (lz_ev tL_isRefused) L st M) ∧
  (∀ L st M, lz_ev tL_isRefused 785 L st M = lo_aload 0 786 (lz_ev tL_isRefused) L st M) ∧
  (∀ L st M, lz_ev tL_isRefused 786 L st M = lo_pushI 15 788 (lz_ev tL_isRefused) L st M) ∧
  (∀ L st M, lz_ev tL_isRefused 788 L st M = lo_pushI 0 789 (lz_ev tL_isRefused) L st M) ∧
  (∀ L st M, lz_ev tL_isRefused 789 L st M = lo_iload 3 790 (lz_ev tL_isRefused) L st M) ∧
  (∀ L st M, lz_ev tL_isRefused 790 L st M = lo_pushI 0 791 (lz_ev tL_isRefused) L st M) ∧
  (∀ (L : zzLc) (a1 a2 a3 a4 : Int32) (a0 : Nat) (r : List Value) (A : zzMd) (n : Nat), lz_ev tL_isRefused 791 L (.int a4 :: .int a3 :: .int a2 :: .int a1 :: .ref a0 :: r) (A, n) = bif zz_cat8 r && decide (n + 1 ≤ 3600) then lz_bs (lz_ev tL_isRefused) 794 L r (n + 1) (fL_of [.ref a0, .int a1, .int a2, .int a3, .int a4] A) else none) ∧
  (∀ L st M, lz_ev tL_isRefused 794 L st M = lo_pushI (-1271) 797 (lz_ev tL_isRefused) L st M) ∧
  (∀ L st M, lz_ev tL_isRefused 797 L st M = lo_icmp (fun x y => decide (¬ x = y)) 835 800 (lz_ev tL_isRefused) L st M) ∧
  (∀ L st M, lz_ev tL_isRefused 800 L st M = lo_aload 0 801 (lz_ev tL_isRefused) L st M) ∧
  (∀ L st M, lz_ev tL_isRefused 801 L st M = lo_pushI 16 803 (lz_ev tL_isRefused) L st M) ∧
  (∀ L st M, lz_ev tL_isRefused 803 L st M = lo_iload 4 805 (lz_ev tL_isRefused) L st M) ∧
  (∀ L st M, lz_ev tL_isRefused 805 L st M = lo_iload 3 806 (lz_ev tL_isRefused) L st M) ∧
  (∀ L st M, lz_ev tL_isRefused 806 L st M = lo_pushI 0 807 (lz_ev tL_isRefused) L st M) ∧
  (∀ (L : zzLc) (a1 a2 a3 a4 : Int32) (a0 : Nat) (r : List Value) (A : zzMd) (n : Nat), lz_ev tL_isRefused 807 L (.int a4 :: .int a3 :: .int a2 :: .int a1 :: .ref a0 :: r) (A, n) = bif zz_cat8 r && decide (n + 1 ≤ 3600) then lz_bs (lz_ev tL_isRefused) 810 L r (n + 1) (fL_of [.ref a0, .int a1, .int a2, .int a3, .int a4] A) else none) ∧
  (∀ L st M, lz_ev tL_isRefused 810 L st M = lo_pushI (-1272) 813 (lz_ev tL_isRefused) L st M) ∧
  (∀ L st M, lz_ev tL_isRefused 813 L st M = lo_icmp (fun x y => decide (¬ x = y)) 835 816 (lz_ev tL_isRefused) L st M) ∧
  (∀ L st M, lz_ev tL_isRefused 816 L st M = lo_aload 0 817 (lz_ev tL_isRefused) L st M) ∧
  (∀ L st M, lz_ev tL_isRefused 817 L st M = lo_pushI 16 819 (lz_ev tL_isRefused) L st M) ∧
  (∀ L st M, lz_ev tL_isRefused 819 L st M = lo_pushI 0 820 (lz_ev tL_isRefused) L st M) ∧
  (∀ L st M, lz_ev tL_isRefused 820 L st M = lo_iload 3 821 (lz_ev tL_isRefused) L st M) ∧
  (∀ L st M, lz_ev tL_isRefused 821 L st M = lo_pushI 0 822 (lz_ev tL_isRefused) L st M) ∧
  (∀ (L : zzLc) (a1 a2 a3 a4 : Int32) (a0 : Nat) (r : List Value) (A : zzMd) (n : Nat), lz_ev tL_isRefused 822 L (.int a4 :: .int a3 :: .int a2 :: .int a1 :: .ref a0 :: r) (A, n) = bif zz_cat8 r && decide (n + 1 ≤ 3600) then lz_bs (lz_ev tL_isRefused) 825 L r (n + 1) (fL_of [.ref a0, .int a1, .int a2, .int a3, .int a4] A) else none) ∧
  (∀ L st M, lz_ev tL_isRefused 825 L st M = lo_pushI (-1271) 828 (lz_ev tL_isRefused) L st M) ∧
  (∀ L st M, lz_ev tL_isRefused 828 L st M = lo_icmp (fun x y => decide (¬ x = y)) 835 831 (lz_ev tL_isRefused) L st M) ∧
  (∀ L st M, lz_ev tL_isRefused 831 L st M = lo_pushI 1 832 (lz_ev tL_isRefused) L st M) ∧
  (∀ L st M, lz_ev tL_isRefused 832 L st M = lo_goto 836 (lz_ev tL_isRefused) L st M) ∧
  (∀ L st M, lz_ev tL_isRefused 835 L st M = lo_pushI 0 836 (lz_ev tL_isRefused) L st M) ∧
  (∀ L st M, lz_ev tL_isRefused 836 L st M = lo_istore 8 838 (lz_ev tL_isRefused) L st M) ∧
  (∀ L st M, lz_ev tL_isRefused 838 L st M = lo_pushI 0 839 (lz_ev tL_isRefused) L st M) ∧
  (∀ L st M, lz_ev tL_isRefused 839 L st M = lo_istore 9 841 (lz_ev tL_isRefused) L st M) ∧
  (∀ L st M, lz_ev tL_isRefused 843 L st M = lo_aload 0 844 (lz_ev tL_isRefused) L st M) ∧
  (∀ (L : zzLc) (r : List Value) (A : zzMd) (n : Nat), lz_ev tL_isRefused 844 L (.ref 0 :: r) (A, n) = bif zz_cat8 r && decide (n ≤ 3600) then lz_bv (lz_ev tL_isRefused) 847 L r n (lz_g fX11_objects [.ref 0] A) else none) ∧
  (∀ L st M, lz_ev tL_isRefused 847 L st M = lo_icmp (fun x y => decide (y ≤ x)) 1347 850 (lz_ev tL_isRefused) L st M) ∧
  (∀ L st M, lz_ev tL_isRefused 850 L st M = lo_iload 8 852 (lz_ev tL_isRefused) L st M) ∧
  (∀ L st M, lz_ev tL_isRefused 852 L st M = lo_if (fun x => decide (x = 0)) 1347 855 (lz_ev tL_isRefused) L st M) ∧
  (∀ L st M, lz_ev tL_isRefused 855 L st M = lo_aload 0 856 (lz_ev tL_isRefused) L st M) ∧
  (∀ L st M, lz_ev tL_isRefused 856 L st M = lo_iload 9 858 (lz_ev tL_isRefused) L st M) ∧
  (∀ (L : zzLc) (a0 : Int32) (r : List Value) (A : zzMd) (n : Nat), lz_ev tL_isRefused 858 L (.int a0 :: .ref 0 :: r) (A, n) = bif zz_cat8 r && decide (n ≤ 3600) then lz_bv (lz_ev tL_isRefused) 861 L r n (lz_g fX11_kindOf [.ref 0, .int a0] A) else none) ∧
  (∀ L st M, lz_ev tL_isRefused 861 L st M = lo_istore 10 863 (lz_ev tL_isRefused) L st M) ∧
  (∀ L st M, lz_ev tL_isRefused 863 L st M = lo_iload 10 865 (lz_ev tL_isRefused) L st M) ∧
  (∀ L st M, lz_ev tL_isRefused 865 L st M = lo_pushI 4 866 (lz_ev tL_isRefused) L st M) ∧
  (∀ L st M, lz_ev tL_isRefused 866 L st M = lo_icmp (fun x y => decide (¬ x = y)) 874 869 (lz_ev tL_isRefused) L st M) ∧
  (∀ L st M, lz_ev tL_isRefused 869 L st M = lo_pushI 7 871 (lz_ev tL_isRefused) L st M) ∧
  (∀ L st M, lz_ev tL_isRefused 871 L st M = lo_goto 875 (lz_ev tL_isRefused) L st M) ∧
  (∀ L st M, lz_ev tL_isRefused 874 L st M = lo_pushI 1 875 (lz_ev tL_isRefused) L st M) ∧
  (∀ L st M, lz_ev tL_isRefused 875 L st M = lo_istore 11 877 (lz_ev tL_isRefused) L st M) ∧
  (∀ L st M, lz_ev tL_isRefused 877 L st M = lo_aload 0 878 (lz_ev tL_isRefused) L st M) ∧
  (∀ L st M, lz_ev tL_isRefused 878 L st M = lo_iload 9 880 (lz_ev tL_isRefused) L st M) ∧
  (∀ L st M, lz_ev tL_isRefused 880 L st M = lo_iload 11 882 (lz_ev tL_isRefused) L st M) ∧
  (∀ (L : zzLc) (a0 a1 : Int32) (r : List Value) (A : zzMd) (n : Nat), lz_ev tL_isRefused 882 L (.int a1 :: .int a0 :: .ref 0 :: r) (A, n) = bif zz_cat8 r && decide (n ≤ 3600) then lz_bv (lz_ev tL_isRefused) 885 L r n (lz_g fX11_managerOf [.ref 0, .int a0, .int a1] A) else none) ∧
  (∀ L st M, lz_ev tL_isRefused 885 L st M = lo_if (fun x => decide (¬ x = 0)) 892 888 (lz_ev tL_isRefused) L st M) ∧
  (∀ L st M, lz_ev tL_isRefused 888 L st M = lo_pushI 1 889 (lz_ev tL_isRefused) L st M) ∧
  (∀ L st M, lz_ev tL_isRefused 889 L st M = lo_goto 893 (lz_ev tL_isRefused) L st M) ∧
  (∀ L st M, lz_ev tL_isRefused 892 L st M = lo_pushI 0 893 (lz_ev tL_isRefused) L st M) ∧
  (∀ L st M, lz_ev tL_isRefused 893 L st M = lo_istore 12 895 (lz_ev tL_isRefused) L st M) ∧
  (∀ L st M, lz_ev tL_isRefused 895 L st M = lo_aload 0 896 (lz_ev tL_isRefused) L st M) ∧
  (∀ L st M, lz_ev tL_isRefused 896 L st M = lo_pushI 1 897 (lz_ev tL_isRefused) L st M) ∧
  (∀ L st M, lz_ev tL_isRefused 897 L st M = lo_iload 5 899 (lz_ev tL_isRefused) L st M) ∧
  (∀ L st M, lz_ev tL_isRefused 899 L st M = lo_iload 9 901 (lz_ev tL_isRefused) L st M) ∧
  (∀ L st M, lz_ev tL_isRefused 901 L st M = lo_iload 11 903 (lz_ev tL_isRefused) L st M) ∧
  (∀ L st M, lz_ev tL_isRefused 903 L st M = lo_pushI 0 904 (lz_ev tL_isRefused) L st M) ∧
  (∀ L st M, lz_ev tL_isRefused 904 L st M = lo_pushI (-1) 905 (lz_ev tL_isRefused) L st M) ∧
  (∀ L st M, lz_ev tL_isRefused 905 L st M = lo_pushI 1 906 (lz_ev tL_isRefused) L st M) ∧
  (∀ (L : zzLc) (a1 a2 a3 a4 a5 a6 a7 : Int32) (a0 : Nat) (r : List Value) (A : zzMd) (n : Nat), lz_ev tL_isRefused 906 L (.int a7 :: .int a6 :: .int a5 :: .int a4 :: .int a3 :: .int a2 :: .int a1 :: .ref a0 :: r) (A, n) = bif zz_cat8 r && decide (n + 1 ≤ 3600) then lz_bs (lz_ev tL_isRefused) 909 L r (n + 1) (fL_act [.ref a0, .int a1, .int a2, .int a3, .int a4, .int a5, .int a6, .int a7] A) else none) ∧
  (∀ L st M, lz_ev tL_isRefused 909 L st M = lo_pushI (-1272) 912 (lz_ev tL_isRefused) L st M) ∧
  (∀ L st M, lz_ev tL_isRefused 912 L st M = lo_icmp (fun x y => decide (¬ x = y)) 1338 915 (lz_ev tL_isRefused) L st M) ∧
  (∀ L st M, lz_ev tL_isRefused 915 L st M = lo_aload 0 916 (lz_ev tL_isRefused) L st M) ∧
  (∀ L st M, lz_ev tL_isRefused 916 L st M = lo_pushI 1 917 (lz_ev tL_isRefused) L st M) ∧
  (∀ L st M, lz_ev tL_isRefused 917 L st M = lo_pushI 0 918 (lz_ev tL_isRefused) L st M) ∧
  (∀ L st M, lz_ev tL_isRefused 918 L st M = lo_iload 9 920 (lz_ev tL_isRefused) L st M) ∧
  (∀ L st M, lz_ev tL_isRefused 920 L st M = lo_iload 10 922 (lz_ev tL_isRefused) L st M) ∧
  (∀ L st M, lz_ev tL_isRefused 922 L st M = lo_pushI 4 923 (lz_ev tL_isRefused) L st M) ∧
  (∀ L st M, lz_ev tL_isRefused 923 L st M = lo_icmp (fun x y => decide (¬ x = y)) 930 926 (lz_ev tL_isRefused) L st M) ∧
  (∀ L st M, lz_ev tL_isRefused 926 L st M = lo_pushI 1 927 (lz_ev tL_isRefused) L st M) ∧
  (∀ L st M, lz_ev tL_isRefused 927 L st M = lo_goto 932 (lz_ev tL_isRefused) L st M) ∧
  (∀ L st M, lz_ev tL_isRefused 930 L st M = lo_pushI 7 932 (lz_ev tL_isRefused) L st M) ∧
  (∀ L st M, lz_ev tL_isRefused 932 L st M = lo_pushI 0 933 (lz_ev tL_isRefused) L st M) ∧
  (∀ L st M, lz_ev tL_isRefused 933 L st M = lo_pushI (-1) 934 (lz_ev tL_isRefused) L st M) ∧
  (∀ L st M, lz_ev tL_isRefused 934 L st M = lo_pushI 1 935 (lz_ev tL_isRefused) L st M) ∧
  (∀ (L : zzLc) (a1 a2 a3 a4 a5 a6 a7 : Int32) (a0 : Nat) (r : List Value) (A : zzMd) (n : Nat), lz_ev tL_isRefused 935 L (.int a7 :: .int a6 :: .int a5 :: .int a4 :: .int a3 :: .int a2 :: .int a1 :: .ref a0 :: r) (A, n) = bif zz_cat8 r && decide (n + 1 ≤ 3600) then lz_bs (lz_ev tL_isRefused) 938 L r (n + 1) (fL_act [.ref a0, .int a1, .int a2, .int a3, .int a4, .int a5, .int a6, .int a7] A) else none) ∧
  (∀ L st M, lz_ev tL_isRefused 938 L st M = lo_pushI (-1272) 941 (lz_ev tL_isRefused) L st M) ∧
  (∀ L st M, lz_ev tL_isRefused 941 L st M = lo_icmp (fun x y => decide (¬ x = y)) 1338 944 (lz_ev tL_isRefused) L st M) ∧
  (∀ L st M, lz_ev tL_isRefused 944 L st M = lo_aload 0 945 (lz_ev tL_isRefused) L st M) ∧
  (∀ L st M, lz_ev tL_isRefused 945 L st M = lo_pushI 1 946 (lz_ev tL_isRefused) L st M) ∧
  (∀ L st M, lz_ev tL_isRefused 946 L st M = lo_pushI 0 947 (lz_ev tL_isRefused) L st M) ∧
  (∀ L st M, lz_ev tL_isRefused 947 L st M = lo_iload 9 949 (lz_ev tL_isRefused) L st M) ∧
  (∀ L st M, lz_ev tL_isRefused 949 L st M = lo_iload 11 951 (lz_ev tL_isRefused) L st M) ∧
  (∀ L st M, lz_ev tL_isRefused 951 L st M = lo_iload 2 952 (lz_ev tL_isRefused) L st M) ∧
  (∀ L st M, lz_ev tL_isRefused 952 L st M = lo_if (fun x => decide (x = 0)) 964 955 (lz_ev tL_isRefused) L st M) ∧
  (∀ L st M, lz_ev tL_isRefused 955 L st M = lo_pushI (-1) 956 (lz_ev tL_isRefused) L st M) ∧
  (∀ L st M, lz_ev tL_isRefused 956 L st M = lo_iload 1 957 (lz_ev tL_isRefused) L st M) ∧
  (∀ L st M, lz_ev tL_isRefused 957 L st M = lo_pushI 30 959 (lz_ev tL_isRefused) L st M) ∧
  (∀ L st M, lz_ev tL_isRefused 959 L st M = lo_iid (fun x y => x - x / y * y) 960 (lz_ev tL_isRefused) L st M) ∧
  (∀ L st M, lz_ev tL_isRefused 960 L st M = lo_ii (fun x y => x - y) 961 (lz_ev tL_isRefused) L st M) ∧
  (∀ L st M, lz_ev tL_isRefused 961 L st M = lo_goto 966 (lz_ev tL_isRefused) L st M) ∧
  (∀ L st M, lz_ev tL_isRefused 964 L st M = lo_pushI 10 966 (lz_ev tL_isRefused) L st M) ∧
  (∀ L st M, lz_ev tL_isRefused 966 L st M = lo_pushI (-1) 967 (lz_ev tL_isRefused) L st M) ∧
  (∀ L st M, lz_ev tL_isRefused 967 L st M = lo_pushI 1 968 (lz_ev tL_isRefused) L st M) ∧
  (∀ (L : zzLc) (a1 a2 a3 a4 a5 a6 a7 : Int32) (a0 : Nat) (r : List Value) (A : zzMd) (n : Nat), lz_ev tL_isRefused 968 L (.int a7 :: .int a6 :: .int a5 :: .int a4 :: .int a3 :: .int a2 :: .int a1 :: .ref a0 :: r) (A, n) = bif zz_cat8 r && decide (n + 1 ≤ 3600) then lz_bs (lz_ev tL_isRefused) 971 L r (n + 1) (fL_act [.ref a0, .int a1, .int a2, .int a3, .int a4, .int a5, .int a6, .int a7] A) else none) ∧
  (∀ L st M, lz_ev tL_isRefused 971 L st M = lo_pushI (-1272) 974 (lz_ev tL_isRefused) L st M) ∧
  (∀ L st M, lz_ev tL_isRefused 974 L st M = lo_icmp (fun x y => decide (¬ x = y)) 1338 977 (lz_ev tL_isRefused) L st M) ∧
  (∀ L st M, lz_ev tL_isRefused 977 L st M = lo_aload 0 978 (lz_ev tL_isRefused) L st M) ∧
  (∀ L st M, lz_ev tL_isRefused 978 L st M = lo_pushI 1 979 (lz_ev tL_isRefused) L st M) ∧
  (∀ L st M, lz_ev tL_isRefused 979 L st M = lo_pushI 0 980 (lz_ev tL_isRefused) L st M) ∧
  (∀ L st M, lz_ev tL_isRefused 980 L st M = lo_iload 9 982 (lz_ev tL_isRefused) L st M) ∧
  (∀ L st M, lz_ev tL_isRefused 982 L st M = lo_iload 11 984 (lz_ev tL_isRefused) L st M) ∧
  (∀ L st M, lz_ev tL_isRefused 984 L st M = lo_pushI 0 985 (lz_ev tL_isRefused) L st M) ∧
  (∀ L st M, lz_ev tL_isRefused 985 L st M = lo_aload 0 986 (lz_ev tL_isRefused) L st M) ∧
  (∀ L st M, lz_ev tL_isRefused 986 L st M = lo_iload 9 988 (lz_ev tL_isRefused) L st M) ∧
  (∀ (L : zzLc) (a0 : Int32) (r : List Value) (A : zzMd) (n : Nat), lz_ev tL_isRefused 988 L (.int a0 :: .ref 0 :: r) (A, n) = bif zz_cat8 r && decide (n ≤ 3600) then lz_bv (lz_ev tL_isRefused) 991 L r n (lz_g fX11_versionOf [.ref 0, .int a0] A) else none) ∧
  (∀ L st M, lz_ev tL_isRefused 991 L st M = lo_pushI 1 992 (lz_ev tL_isRefused) L st M) ∧
  (∀ L st M, lz_ev tL_isRefused 992 L st M = lo_ii (fun x y => x + y) 993 (lz_ev tL_isRefused) L st M) ∧
  (∀ L st M, lz_ev tL_isRefused 993 L st M = lo_iload 1 994 (lz_ev tL_isRefused) L st M) ∧
  (∀ L st M, lz_ev tL_isRefused 994 L st M = lo_pushI 30 996 (lz_ev tL_isRefused) L st M) ∧
  (∀ L st M, lz_ev tL_isRefused 996 L st M = lo_iid (fun x y => x - x / y * y) 997 (lz_ev tL_isRefused) L st M) ∧
  (∀ L st M, lz_ev tL_isRefused 997 L st M = lo_ii (fun x y => x + y) 998 (lz_ev tL_isRefused) L st M) ∧
  (∀ L st M, lz_ev tL_isRefused 998 L st M = lo_pushI 1 999 (lz_ev tL_isRefused) L st M) ∧
  (∀ (L : zzLc) (a1 a2 a3 a4 a5 a6 a7 : Int32) (a0 : Nat) (r : List Value) (A : zzMd) (n : Nat), lz_ev tL_isRefused 999 L (.int a7 :: .int a6 :: .int a5 :: .int a4 :: .int a3 :: .int a2 :: .int a1 :: .ref a0 :: r) (A, n) = bif zz_cat8 r && decide (n + 1 ≤ 3600) then lz_bs (lz_ev tL_isRefused) 1002 L r (n + 1) (fL_act [.ref a0, .int a1, .int a2, .int a3, .int a4, .int a5, .int a6, .int a7] A) else none) ∧
  (∀ L st M, lz_ev tL_isRefused 1002 L st M = lo_pushI (-1273) 1005 (lz_ev tL_isRefused) L st M) ∧
  (∀ L st M, lz_ev tL_isRefused 1005 L st M = lo_icmp (fun x y => decide (¬ x = y)) 1338 1008 (lz_ev tL_isRefused) L st M) ∧
  (∀ L st M, lz_ev tL_isRefused 1008 L st M = lo_aload 0 1009 (lz_ev tL_isRefused) L st M) ∧
  (∀ L st M, lz_ev tL_isRefused 1009 L st M = lo_pushI 1 1010 (lz_ev tL_isRefused) L st M) ∧
  (∀ L st M, lz_ev tL_isRefused 1010 L st M = lo_iload 12 1012 (lz_ev tL_isRefused) L st M) ∧
  (∀ L st M, lz_ev tL_isRefused 1012 L st M = lo_iload 9 1014 (lz_ev tL_isRefused) L st M) ∧
  (∀ L st M, lz_ev tL_isRefused 1014 L st M = lo_iload 11 1016 (lz_ev tL_isRefused) L st M) ∧
  (∀ L st M, lz_ev tL_isRefused 1016 L st M = lo_pushI 0 1017 (lz_ev tL_isRefused) L st M) ∧
  (∀ L st M, lz_ev tL_isRefused 1017 L st M = lo_pushI (-1) 1018 (lz_ev tL_isRefused) L st M) ∧
  (∀ L st M, lz_ev tL_isRefused 1018 L st M = lo_pushI 0 1019 (lz_ev tL_isRefused) L st M) ∧
  (∀ (L : zzLc) (a1 a2 a3 a4 a5 a6 a7 : Int32) (a0 : Nat) (r : List Value) (A : zzMd) (n : Nat), lz_ev tL_isRefused 1019 L (.int a7 :: .int a6 :: .int a5 :: .int a4 :: .int a3 :: .int a2 :: .int a1 :: .ref a0 :: r) (A, n) = bif zz_cat8 r && decide (n + 1 ≤ 3600) then lz_bs (lz_ev tL_isRefused) 1022 L r (n + 1) (fL_act [.ref a0, .int a1, .int a2, .int a3, .int a4, .int a5, .int a6, .int a7] A) else none) ∧
  (∀ L st M, lz_ev tL_isRefused 1022 L st M = lo_pushI (-1273) 1025 (lz_ev tL_isRefused) L st M) ∧
  (∀ L st M, lz_ev tL_isRefused 1025 L st M = lo_icmp (fun x y => decide (¬ x = y)) 1338 1028 (lz_ev tL_isRefused) L st M) ∧
  (∀ L st M, lz_ev tL_isRefused 1028 L st M = lo_aload 0 1029 (lz_ev tL_isRefused) L st M) ∧
  (∀ L st M, lz_ev tL_isRefused 1029 L st M = lo_pushI 3 1030 (lz_ev tL_isRefused) L st M) :=
  ⟨lz_1 rfl tl_L_isRefused, lz_1 rfl tl_L_isRefused, fun L a1 a2 a3 a4 a0 r A n => (lz_1 rfl tl_L_isRefused _ _ _).trans rfl, lz_1 rfl tl_L_isRefused, lz_1 rfl tl_L_isRefused, lz_1 rfl tl_L_isRefused, lz_1 rfl tl_L_isRefused, lz_1 rfl tl_L_isRefused, lz_1 rfl tl_L_isRefused, lz_1 rfl tl_L_isRefused, lz_1 rfl tl_L_isRefused, lz_1 rfl tl_L_isRefused, lz_1 rfl tl_L_isRefused, lz_1 rfl tl_L_isRefused, fun L a1 a2 a3 a4 a0 r A n => (lz_1 rfl tl_L_isRefused _ _ _).trans rfl, lz_1 rfl tl_L_isRefused, lz_1 rfl tl_L_isRefused, lz_1 rfl tl_L_isRefused, lz_1 rfl tl_L_isRefused, lz_1 rfl tl_L_isRefused, lz_1 rfl tl_L_isRefused, lz_1 rfl tl_L_isRefused, fun L a1 a2 a3 a4 a0 r A n => (lz_1 rfl tl_L_isRefused _ _ _).trans rfl, lz_1 rfl tl_L_isRefused, lz_1 rfl tl_L_isRefused, lz_1 rfl tl_L_isRefused, lz_1 rfl tl_L_isRefused, lz_1 rfl tl_L_isRefused, lz_1 rfl tl_L_isRefused, lz_1 rfl tl_L_isRefused, fun L a1 a2 a3 a4 a0 r A n => (lz_1 rfl tl_L_isRefused _ _ _).trans rfl, lz_1 rfl tl_L_isRefused, lz_1 rfl tl_L_isRefused, lz_1 rfl tl_L_isRefused, lz_1 rfl tl_L_isRefused, lz_1 rfl tl_L_isRefused, lz_1 rfl tl_L_isRefused, lz_1 rfl tl_L_isRefused, fun L a1 a2 a3 a4 a0 r A n => (lz_1 rfl tl_L_isRefused _ _ _).trans rfl, lz_1 rfl tl_L_isRefused, lz_1 rfl tl_L_isRefused, lz_1 rfl tl_L_isRefused, lz_1 rfl tl_L_isRefused, lz_1 rfl tl_L_isRefused, lz_1 rfl tl_L_isRefused, lz_1 rfl tl_L_isRefused, lz_1 rfl tl_L_isRefused, lz_1 rfl tl_L_isRefused, fun L  r A n => (lz_1 rfl tl_L_isRefused _ _ _).trans rfl, lz_1 rfl tl_L_isRefused, lz_1 rfl tl_L_isRefused, lz_1 rfl tl_L_isRefused, lz_1 rfl tl_L_isRefused, lz_1 rfl tl_L_isRefused, fun L a0 r A n => (lz_1 rfl tl_L_isRefused _ _ _).trans rfl, lz_1 rfl tl_L_isRefused, lz_1 rfl tl_L_isRefused, lz_1 rfl tl_L_isRefused, lz_1 rfl tl_L_isRefused, lz_1 rfl tl_L_isRefused, lz_1 rfl tl_L_isRefused, lz_1 rfl tl_L_isRefused, lz_1 rfl tl_L_isRefused, lz_1 rfl tl_L_isRefused, lz_1 rfl tl_L_isRefused, lz_1 rfl tl_L_isRefused, fun L a0 a1 r A n => (lz_1 rfl tl_L_isRefused _ _ _).trans rfl, lz_1 rfl tl_L_isRefused, lz_1 rfl tl_L_isRefused, lz_1 rfl tl_L_isRefused, lz_1 rfl tl_L_isRefused, lz_1 rfl tl_L_isRefused, lz_1 rfl tl_L_isRefused, lz_1 rfl tl_L_isRefused, lz_1 rfl tl_L_isRefused, lz_1 rfl tl_L_isRefused, lz_1 rfl tl_L_isRefused, lz_1 rfl tl_L_isRefused, lz_1 rfl tl_L_isRefused, lz_1 rfl tl_L_isRefused, fun L a1 a2 a3 a4 a5 a6 a7 a0 r A n => (lz_1 rfl tl_L_isRefused _ _ _).trans rfl, lz_1 rfl tl_L_isRefused, lz_1 rfl tl_L_isRefused, lz_1 rfl tl_L_isRefused, lz_1 rfl tl_L_isRefused, lz_1 rfl tl_L_isRefused, lz_1 rfl tl_L_isRefused, lz_1 rfl tl_L_isRefused, lz_1 rfl tl_L_isRefused, lz_1 rfl tl_L_isRefused, lz_1 rfl tl_L_isRefused, lz_1 rfl tl_L_isRefused, lz_1 rfl tl_L_isRefused, lz_1 rfl tl_L_isRefused, lz_1 rfl tl_L_isRefused, lz_1 rfl tl_L_isRefused, fun L a1 a2 a3 a4 a5 a6 a7 a0 r A n => (lz_1 rfl tl_L_isRefused _ _ _).trans rfl, lz_1 rfl tl_L_isRefused, lz_1 rfl tl_L_isRefused, lz_1 rfl tl_L_isRefused, lz_1 rfl tl_L_isRefused, lz_1 rfl tl_L_isRefused, lz_1 rfl tl_L_isRefused, lz_1 rfl tl_L_isRefused, lz_1 rfl tl_L_isRefused, lz_1 rfl tl_L_isRefused, lz_1 rfl tl_L_isRefused, lz_1 rfl tl_L_isRefused, lz_1 rfl tl_L_isRefused, lz_1 rfl tl_L_isRefused, lz_1 rfl tl_L_isRefused, lz_1 rfl tl_L_isRefused, lz_1 rfl tl_L_isRefused, lz_1 rfl tl_L_isRefused, lz_1 rfl tl_L_isRefused, fun L a1 a2 a3 a4 a5 a6 a7 a0 r A n => (lz_1 rfl tl_L_isRefused _ _ _).trans rfl, lz_1 rfl tl_L_isRefused, lz_1 rfl tl_L_isRefused, lz_1 rfl tl_L_isRefused, lz_1 rfl tl_L_isRefused, lz_1 rfl tl_L_isRefused, lz_1 rfl tl_L_isRefused, lz_1 rfl tl_L_isRefused, lz_1 rfl tl_L_isRefused, lz_1 rfl tl_L_isRefused, lz_1 rfl tl_L_isRefused, fun L a0 r A n => (lz_1 rfl tl_L_isRefused _ _ _).trans rfl, lz_1 rfl tl_L_isRefused, lz_1 rfl tl_L_isRefused, lz_1 rfl tl_L_isRefused, lz_1 rfl tl_L_isRefused, lz_1 rfl tl_L_isRefused, lz_1 rfl tl_L_isRefused, lz_1 rfl tl_L_isRefused, fun L a1 a2 a3 a4 a5 a6 a7 a0 r A n => (lz_1 rfl tl_L_isRefused _ _ _).trans rfl, lz_1 rfl tl_L_isRefused, lz_1 rfl tl_L_isRefused, lz_1 rfl tl_L_isRefused, lz_1 rfl tl_L_isRefused, lz_1 rfl tl_L_isRefused, lz_1 rfl tl_L_isRefused, lz_1 rfl tl_L_isRefused, lz_1 rfl tl_L_isRefused, lz_1 rfl tl_L_isRefused, lz_1 rfl tl_L_isRefused, fun L a1 a2 a3 a4 a5 a6 a7 a0 r A n => (lz_1 rfl tl_L_isRefused _ _ _).trans rfl, lz_1 rfl tl_L_isRefused, lz_1 rfl tl_L_isRefused, lz_1 rfl tl_L_isRefused, lz_1 rfl tl_L_isRefused⟩
set_option maxRecDepth 100000 in
theorem e_L_isRefused_p4 : (∀ L st M, lz_ev tL_isRefused 1030 L st M = lo_iload 9 1032 (lz_ev tL_isRefused) L st M) ∧
  (∀ L st M, lz_ev tL_isRefused 1032 L st M = lo_iload 2 1033 (lz_ev tL_isRefused) L st M) ∧
  (∀ L st M, lz_ev tL_isRefused 1033 L st M = lo_if (fun x => decide (x = 0)) 1045 1036 (lz_ev tL_isRefused) L st M) ∧
  (∀ L st M, lz_ev tL_isRefused 1036 L st M = lo_pushI 0 1037 (lz_ev tL_isRefused) L st M) ∧
  (∀ L st M, lz_ev tL_isRefused 1037 L st M = lo_iload 1 1038 (lz_ev tL_isRefused) L st M) ∧
  (∀ L st M, lz_ev tL_isRefused 1038 L st M = lo_pushI 30 1040 (lz_ev tL_isRefused) L st M) ∧
  (∀ L st M, lz_ev tL_isRefused 1040 L st M = lo_iid (fun x y => x - x / y * y) 1041 (lz_ev tL_isRefused) L st M) ∧
  (∀ L st M, lz_ev tL_isRefused 1041 L st M = lo_ii (fun x y => x - y) 1042 (lz_ev tL_isRefused) L st M) ∧
  (∀ L st M, lz_ev tL_isRefused 1042 L st M = lo_goto 1046 (lz_ev tL_isRefused) L st M) ∧
  (∀ L st M, lz_ev tL_isRefused 1045 L st M = lo_pushI 4 1046 (lz_ev tL_isRefused) L st M) ∧
  (∀ L st M, lz_ev tL_isRefused 1046 L st M = lo_pushI 0 1047 (lz_ev tL_isRefused) L st M) ∧
  (∀ L st M, lz_ev tL_isRefused 1047 L st M = lo_pushI 0 1048 (lz_ev tL_isRefused) L st M) ∧
  (∀ L st M, lz_ev tL_isRefused 1048 L st M = lo_pushI 0 1049 (lz_ev tL_isRefused) L st M) ∧
  (∀ L st M, lz_ev tL_isRefused 1049 L st M = lo_pushI 0 1050 (lz_ev tL_isRefused) L st M) ∧
  (∀ (L : zzLc) (a1 a2 a3 a4 a5 a6 a7 : Int32) (a0 : Nat) (r : List Value) (A : zzMd) (n : Nat), lz_ev tL_isRefused 1050 L (.int a7 :: .int a6 :: .int a5 :: .int a4 :: .int a3 :: .int a2 :: .int a1 :: .ref a0 :: r) (A, n) = bif zz_cat8 r && decide (n + 1 ≤ 3600) then lz_bs (lz_ev tL_isRefused) 1053 L r (n + 1) (fL_act [.ref a0, .int a1, .int a2, .int a3, .int a4, .int a5, .int a6, .int a7] A) else none) ∧
  (∀ L st M, lz_ev tL_isRefused 1053 L st M = lo_pushI (-1272) 1056 (lz_ev tL_isRefused) L st M) ∧
  (∀ L st M, lz_ev tL_isRefused 1056 L st M = lo_icmp (fun x y => decide (¬ x = y)) 1338 1059 (lz_ev tL_isRefused) L st M) ∧
  (∀ L st M, lz_ev tL_isRefused 1059 L st M = lo_iload 10 1061 (lz_ev tL_isRefused) L st M) ∧
  (∀ L st M, lz_ev tL_isRefused 1061 L st M = lo_pushI 2 1062 (lz_ev tL_isRefused) L st M) ∧
  (∀ L st M, lz_ev tL_isRefused 1062 L st M = lo_icmp (fun x y => decide (x = y)) 1083 1065 (lz_ev tL_isRefused) L st M) ∧
  (∀ L st M, lz_ev tL_isRefused 1065 L st M = lo_aload 0 1066 (lz_ev tL_isRefused) L st M) ∧
  (∀ L st M, lz_ev tL_isRefused 1066 L st M = lo_pushI 5 1067 (lz_ev tL_isRefused) L st M) ∧
  (∀ L st M, lz_ev tL_isRefused 1067 L st M = lo_iload 9 1069 (lz_ev tL_isRefused) L st M) ∧
  (∀ L st M, lz_ev tL_isRefused 1069 L st M = lo_pushI 0 1070 (lz_ev tL_isRefused) L st M) ∧
  (∀ L st M, lz_ev tL_isRefused 1070 L st M = lo_pushI 0 1071 (lz_ev tL_isRefused) L st M) ∧
  (∀ L st M, lz_ev tL_isRefused 1071 L st M = lo_pushI 0 1072 (lz_ev tL_isRefused) L st M) ∧
  (∀ L st M, lz_ev tL_isRefused 1072 L st M = lo_pushI 0 1073 (lz_ev tL_isRefused) L st M) ∧
  (∀ L st M, lz_ev tL_isRefused 1073 L st M = lo_pushI 0 1074 (lz_ev tL_isRefused) L st M) ∧
  (∀ (L : zzLc) (a1 a2 a3 a4 a5 a6 a7 : Int32) (a0 : Nat) (r : List Value) (A : zzMd) (n : Nat), lz_ev tL_isRefused 1074 L (.int a7 :: .int a6 :: .int a5 :: .int a4 :: .int a3 :: .int a2 :: .int a1 :: .ref a0 :: r) (A, n) = bif zz_cat8 r && decide (n + 1 ≤ 3600) then lz_bs (lz_ev tL_isRefused) 1077 L r (n + 1) (fL_act [.ref a0, .int a1, .int a2, .int a3, .int a4, .int a5, .int a6, .int a7] A) else none) ∧
  (∀ L st M, lz_ev tL_isRefused 1077 L st M = lo_pushI (-1272) 1080 (lz_ev tL_isRefused) L st M) ∧
  (∀ L st M, lz_ev tL_isRefused 1080 L st M = lo_icmp (fun x y => decide (¬ x = y)) 1338 1083 (lz_ev tL_isRefused) L st M) ∧
  (∀ L st M, lz_ev tL_isRefused 1083 L st M = lo_iload 10 1085 (lz_ev tL_isRefused) L st M) ∧
  (∀ L st M, lz_ev tL_isRefused 1085 L st M = lo_pushI 4 1086 (lz_ev tL_isRefused) L st M) ∧
  (∀ L st M, lz_ev tL_isRefused 1086 L st M = lo_icmp (fun x y => decide (x = y)) 1108 1089 (lz_ev tL_isRefused) L st M) ∧
  (∀ L st M, lz_ev tL_isRefused 1089 L st M = lo_aload 0 1090 (lz_ev tL_isRefused) L st M) ∧
  (∀ L st M, lz_ev tL_isRefused 1090 L st M = lo_pushI 16 1092 (lz_ev tL_isRefused) L st M) ∧
  (∀ L st M, lz_ev tL_isRefused 1092 L st M = lo_iload 9 1094 (lz_ev tL_isRefused) L st M) ∧
  (∀ L st M, lz_ev tL_isRefused 1094 L st M = lo_pushI 0 1095 (lz_ev tL_isRefused) L st M) ∧
  (∀ L st M, lz_ev tL_isRefused 1095 L st M = lo_pushI 0 1096 (lz_ev tL_isRefused) L st M) ∧
  (∀ L st M, lz_ev tL_isRefused 1096 L st M = lo_pushI 0 1097 (lz_ev tL_isRefused) L st M) ∧
  (∀ L st M, lz_ev tL_isRefused 1097 L st M = lo_pushI 0 1098 (lz_ev tL_isRefused) L st M) ∧
  (∀ L st M, lz_ev tL_isRefused 1098 L st M = lo_pushI 0 1099 (lz_ev tL_isRefused) L st M) ∧
  (∀ (L : zzLc) (a1 a2 a3 a4 a5 a6 a7 : Int32) (a0 : Nat) (r : List Value) (A : zzMd) (n : Nat), lz_ev tL_isRefused 1099 L (.int a7 :: .int a6 :: .int a5 :: .int a4 :: .int a3 :: .int a2 :: .int a1 :: .ref a0 :: r) (A, n) = bif zz_cat8 r && decide (n + 1 ≤ 3600) then lz_bs (lz_ev tL_isRefused) 1102 L r (n + 1) (fL_act [.ref a0, .int a1, .int a2, .int a3, .int a4, .int a5, .int a6, .int a7] A) else none) ∧
  (∀ L st M, lz_ev tL_isRefused 1102 L st M = lo_pushI (-1272) 1105 (lz_ev tL_isRefused) L st M) ∧
  (∀ L st M, lz_ev tL_isRefused 1105 L st M = lo_icmp (fun x y => decide (¬ x = y)) 1338 1108 (lz_ev tL_isRefused) L st M) ∧
  (∀ L st M, lz_ev tL_isRefused 1108 L st M = lo_iload 10 1110 (lz_ev tL_isRefused) L st M) ∧
  (∀ L st M, lz_ev tL_isRefused 1110 L st M = lo_if (fun x => decide (¬ x = 0)) 1218 1113 (lz_ev tL_isRefused) L st M) ∧
  (∀ L st M, lz_ev tL_isRefused 1113 L st M = lo_aload 0 1114 (lz_ev tL_isRefused) L st M) ∧
  (∀ L st M, lz_ev tL_isRefused 1114 L st M = lo_pushI 2 1115 (lz_ev tL_isRefused) L st M) ∧
  (∀ L st M, lz_ev tL_isRefused 1115 L st M = lo_pushI 0 1116 (lz_ev tL_isRefused) L st M) ∧
  (∀ L st M, lz_ev tL_isRefused 1116 L st M = lo_iload 9 1118 (lz_ev tL_isRefused) L st M) ∧
  (∀ L st M, lz_ev tL_isRefused 1118 L st M = lo_iload 2 1119 (lz_ev tL_isRefused) L st M) ∧
  (∀ L st M, lz_ev tL_isRefused 1119 L st M = lo_if (fun x => decide (x = 0)) 1131 1122 (lz_ev tL_isRefused) L st M) ∧
  (∀ L st M, lz_ev tL_isRefused 1122 L st M = lo_pushI (-1) 1123 (lz_ev tL_isRefused) L st M) ∧
  (∀ L st M, lz_ev tL_isRefused 1123 L st M = lo_iload 1 1124 (lz_ev tL_isRefused) L st M) ∧
  (∀ L st M, lz_ev tL_isRefused 1124 L st M = lo_pushI 30 1126 (lz_ev tL_isRefused) L st M) ∧
  (∀ L st M, lz_ev tL_isRefused 1126 L st M = lo_iid (fun x y => x - x / y * y) 1127 (lz_ev tL_isRefused) L st M) ∧
  (∀ L st M, lz_ev tL_isRefused 1127 L st M = lo_ii (fun x y => x - y) 1128 (lz_ev tL_isRefused) L st M) ∧
  (∀ L st M, lz_ev tL_isRefused 1128 L st M = lo_goto 1133 (lz_ev tL_isRefused) L st M) ∧
  (∀ L st M, lz_ev tL_isRefused 1131 L st M = lo_pushI 30 1133 (lz_ev tL_isRefused) L st M) ∧
  (∀ L st M, lz_ev tL_isRefused 1133 L st M = lo_pushI 1 1134 (lz_ev tL_isRefused) L st M) ∧
  (∀ L st M, lz_ev tL_isRefused 1134 L st M = lo_pushI 0 1135 (lz_ev tL_isRefused) L st M) ∧
  (∀ L st M, lz_ev tL_isRefused 1135 L st M = lo_pushI 0 1136 (lz_ev tL_isRefused) L st M) ∧
  (∀ (L : zzLc) (a1 a2 a3 a4 a5 a6 a7 : Int32) (a0 : Nat) (r : List Value) (A : zzMd) (n : Nat), lz_ev tL_isRefused 1136 L (.int a7 :: .int a6 :: .int a5 :: .int a4 :: .int a3 :: .int a2 :: .int a1 :: .ref a0 :: r) (A, n) = bif zz_cat8 r && decide (n + 1 ≤ 3600) then lz_bs (lz_ev tL_isRefused) 1139 L r (n + 1) (fL_act [.ref a0, .int a1, .int a2, .int a3, .int a4, .int a5, .int a6, .int a7] A) else none) ∧
  (∀ L st M, lz_ev tL_isRefused 1139 L st M = lo_pushI (-1272) 1142 (lz_ev tL_isRefused) L st M) ∧
  (∀ L st M, lz_ev tL_isRefused 1142 L st M = lo_icmp (fun x y => decide (¬ x = y)) 1338 1145 (lz_ev tL_isRefused) L st M) ∧
  (∀ L st M, lz_ev tL_isRefused 1145 L st M = lo_aload 0 1146 (lz_ev tL_isRefused) L st M) ∧
  (∀ L st M, lz_ev tL_isRefused 1146 L st M = lo_pushI 2 1147 (lz_ev tL_isRefused) L st M) ∧
  (∀ L st M, lz_ev tL_isRefused 1147 L st M = lo_pushI 0 1148 (lz_ev tL_isRefused) L st M) ∧
  (∀ L st M, lz_ev tL_isRefused 1148 L st M = lo_iload 9 1150 (lz_ev tL_isRefused) L st M) ∧
  (∀ L st M, lz_ev tL_isRefused 1150 L st M = lo_pushI 3 1151 (lz_ev tL_isRefused) L st M) ∧
  (∀ L st M, lz_ev tL_isRefused 1151 L st M = lo_pushI 1 1152 (lz_ev tL_isRefused) L st M) ∧
  (∀ L st M, lz_ev tL_isRefused 1152 L st M = lo_pushI 0 1153 (lz_ev tL_isRefused) L st M) ∧
  (∀ L st M, lz_ev tL_isRefused 1153 L st M = lo_pushI 0 1154 (lz_ev tL_isRefused) L st M) ∧
  (∀ (L : zzLc) (a1 a2 a3 a4 a5 a6 a7 : Int32) (a0 : Nat) (r : List Value) (A : zzMd) (n : Nat), lz_ev tL_isRefused 1154 L (.int a7 :: .int a6 :: .int a5 :: .int a4 :: .int a3 :: .int a2 :: .int a1 :: .ref a0 :: r) (A, n) = bif zz_cat8 r && decide (n + 1 ≤ 3600) then lz_bs (lz_ev tL_isRefused) 1157 L r (n + 1) (fL_act [.ref a0, .int a1, .int a2, .int a3, .int a4, .int a5, .int a6, .int a7] A) else none) ∧
  (∀ L st M, lz_ev tL_isRefused 1157 L st M = lo_pushI (-1272) 1160 (lz_ev tL_isRefused) L st M) ∧
  (∀ L st M, lz_ev tL_isRefused 1160 L st M = lo_icmp (fun x y => decide (¬ x = y)) 1338 1163 (lz_ev tL_isRefused) L st M) ∧
  (∀ L st M, lz_ev tL_isRefused 1163 L st M = lo_aload 0 1164 (lz_ev tL_isRefused) L st M) ∧
  (∀ L st M, lz_ev tL_isRefused 1164 L st M = lo_pushI 2 1165 (lz_ev tL_isRefused) L st M) ∧
  (∀ L st M, lz_ev tL_isRefused 1165 L st M = lo_pushI 0 1166 (lz_ev tL_isRefused) L st M) ∧
  (∀ L st M, lz_ev tL_isRefused 1166 L st M = lo_iload 9 1168 (lz_ev tL_isRefused) L st M) ∧
  (∀ L st M, lz_ev tL_isRefused 1168 L st M = lo_pushI 0 1169 (lz_ev tL_isRefused) L st M) ∧
  (∀ L st M, lz_ev tL_isRefused 1169 L st M = lo_pushI 1 1170 (lz_ev tL_isRefused) L st M) ∧
  (∀ L st M, lz_ev tL_isRefused 1170 L st M = lo_pushI 0 1171 (lz_ev tL_isRefused) L st M) ∧
  (∀ L st M, lz_ev tL_isRefused 1171 L st M = lo_pushI 0 1172 (lz_ev tL_isRefused) L st M) ∧
  (∀ (L : zzLc) (a1 a2 a3 a4 a5 a6 a7 : Int32) (a0 : Nat) (r : List Value) (A : zzMd) (n : Nat), lz_ev tL_isRefused 1172 L (.int a7 :: .int a6 :: .int a5 :: .int a4 :: .int a3 :: .int a2 :: .int a1 :: .ref a0 :: r) (A, n) = bif zz_cat8 r && decide (n + 1 ≤ 3600) then lz_bs (lz_ev tL_isRefused) 1175 L r (n + 1) (fL_act [.ref a0, .int a1, .int a2, .int a3, .int a4, .int a5, .int a6, .int a7] A) else none) ∧
  (∀ L st M, lz_ev tL_isRefused 1175 L st M = lo_pushI (-1273) 1178 (lz_ev tL_isRefused) L st M) ∧
  (∀ L st M, lz_ev tL_isRefused 1178 L st M = lo_icmp (fun x y => decide (¬ x = y)) 1338 1181 (lz_ev tL_isRefused) L st M) ∧
  (∀ L st M, lz_ev tL_isRefused 1181 L st M = lo_aload 0 1182 (lz_ev tL_isRefused) L st M) ∧
  (∀ L st M, lz_ev tL_isRefused 1182 L st M = lo_pushI 17 1184 (lz_ev tL_isRefused) L st M) ∧
  (∀ L st M, lz_ev tL_isRefused 1184 L st M = lo_iload 9 1186 (lz_ev tL_isRefused) L st M) ∧
  (∀ L st M, lz_ev tL_isRefused 1186 L st M = lo_iload 2 1187 (lz_ev tL_isRefused) L st M) ∧
  (∀ L st M, lz_ev tL_isRefused 1187 L st M = lo_if (fun x => decide (x = 0)) 1200 1190 (lz_ev tL_isRefused) L st M) ∧
  (∀ L st M, lz_ev tL_isRefused 1190 L st M = lo_pushI (-2) 1192 (lz_ev tL_isRefused) L st M) ∧
  (∀ L st M, lz_ev tL_isRefused 1192 L st M = lo_iload 1 1193 (lz_ev tL_isRefused) L st M) ∧
  (∀ L st M, lz_ev tL_isRefused 1193 L st M = lo_pushI 30 1195 (lz_ev tL_isRefused) L st M) ∧
  (∀ L st M, lz_ev tL_isRefused 1195 L st M = lo_iid (fun x y => x - x / y * y) 1196 (lz_ev tL_isRefused) L st M) ∧
  (∀ L st M, lz_ev tL_isRefused 1196 L st M = lo_ii (fun x y => x - y) 1197 (lz_ev tL_isRefused) L st M) ∧
  (∀ L st M, lz_ev tL_isRefused 1197 L st M = lo_goto 1202 (lz_ev tL_isRefused) L st M) ∧
  (∀ L st M, lz_ev tL_isRefused 1200 L st M = lo_pushI 10 1202 (lz_ev tL_isRefused) L st M) ∧
  (∀ L st M, lz_ev tL_isRefused 1202 L st M = lo_pushI 0 1203 (lz_ev tL_isRefused) L st M) ∧
  (∀ L st M, lz_ev tL_isRefused 1203 L st M = lo_pushI 0 1204 (lz_ev tL_isRefused) L st M) ∧
  (∀ L st M, lz_ev tL_isRefused 1204 L st M = lo_pushI 0 1205 (lz_ev tL_isRefused) L st M) ∧
  (∀ L st M, lz_ev tL_isRefused 1205 L st M = lo_pushI 0 1206 (lz_ev tL_isRefused) L st M) ∧
  (∀ (L : zzLc) (a1 a2 a3 a4 a5 a6 a7 : Int32) (a0 : Nat) (r : List Value) (A : zzMd) (n : Nat), lz_ev tL_isRefused 1206 L (.int a7 :: .int a6 :: .int a5 :: .int a4 :: .int a3 :: .int a2 :: .int a1 :: .ref a0 :: r) (A, n) = bif zz_cat8 r && decide (n + 1 ≤ 3600) then lz_bs (lz_ev tL_isRefused) 1209 L r (n + 1) (fL_act [.ref a0, .int a1, .int a2, .int a3, .int a4, .int a5, .int a6, .int a7] A) else none) ∧
  (∀ L st M, lz_ev tL_isRefused 1209 L st M = lo_pushI (-1272) 1212 (lz_ev tL_isRefused) L st M) ∧
  (∀ L st M, lz_ev tL_isRefused 1212 L st M = lo_icmp (fun x y => decide (¬ x = y)) 1338 1215 (lz_ev tL_isRefused) L st M) ∧
  (∀ L st M, lz_ev tL_isRefused 1215 L st M = lo_goto 1256 (lz_ev tL_isRefused) L st M) ∧
  (∀ L st M, lz_ev tL_isRefused 1218 L st M = lo_aload 0 1219 (lz_ev tL_isRefused) L st M) ∧
  (∀ L st M, lz_ev tL_isRefused 1219 L st M = lo_pushI 2 1220 (lz_ev tL_isRefused) L st M) ∧
  (∀ L st M, lz_ev tL_isRefused 1220 L st M = lo_pushI 0 1221 (lz_ev tL_isRefused) L st M) ∧
  (∀ L st M, lz_ev tL_isRefused 1221 L st M = lo_iload 9 1223 (lz_ev tL_isRefused) L st M) ∧
  (∀ L st M, lz_ev tL_isRefused 1223 L st M = lo_pushI 10 1225 (lz_ev tL_isRefused) L st M) ∧
  (∀ L st M, lz_ev tL_isRefused 1225 L st M = lo_pushI 1 1226 (lz_ev tL_isRefused) L st M) ∧
  (∀ L st M, lz_ev tL_isRefused 1226 L st M = lo_pushI 0 1227 (lz_ev tL_isRefused) L st M) ∧
  (∀ L st M, lz_ev tL_isRefused 1227 L st M = lo_pushI 0 1228 (lz_ev tL_isRefused) L st M) ∧
  (∀ (L : zzLc) (a1 a2 a3 a4 a5 a6 a7 : Int32) (a0 : Nat) (r : List Value) (A : zzMd) (n : Nat), lz_ev tL_isRefused 1228 L (.int a7 :: .int a6 :: .int a5 :: .int a4 :: .int a3 :: .int a2 :: .int a1 :: .ref a0 :: r) (A, n) = bif zz_cat8 r && decide (n + 1 ≤ 3600) then lz_bs (lz_ev tL_isRefused) 1231 L r (n + 1) (fL_act [.ref a0, .int a1, .int a2, .int a3, .int a4, .int a5, .int a6, .int a7] A) else none) ∧
  (∀ L st M, lz_ev tL_isRefused 1231 L st M = lo_pushI (-1272) 1234 (lz_ev tL_isRefused) L st M) ∧
  (∀ L st M, lz_ev tL_isRefused 1234 L st M = lo_icmp (fun x y => decide (¬ x = y)) 1338 1237 (lz_ev tL_isRefused) L st M) ∧
  (∀ L st M, lz_ev tL_isRefused 1237 L st M = lo_aload 0 1238 (lz_ev tL_isRefused) L st M) ∧
  (∀ L st M, lz_ev tL_isRefused 1238 L st M = lo_pushI 17 1240 (lz_ev tL_isRefused) L st M) ∧
  (∀ L st M, lz_ev tL_isRefused 1240 L st M = lo_iload 9 1242 (lz_ev tL_isRefused) L st M) ∧
  (∀ L st M, lz_ev tL_isRefused 1242 L st M = lo_pushI 1 1243 (lz_ev tL_isRefused) L st M) ∧
  (∀ L st M, lz_ev tL_isRefused 1243 L st M = lo_pushI 0 1244 (lz_ev tL_isRefused) L st M) ∧
  (∀ L st M, lz_ev tL_isRefused 1244 L st M = lo_pushI 0 1245 (lz_ev tL_isRefused) L st M) ∧
  (∀ L st M, lz_ev tL_isRefused 1245 L st M = lo_pushI 0 1246 (lz_ev tL_isRefused) L st M) ∧
  (∀ L st M, lz_ev tL_isRefused 1246 L st M = lo_pushI 0 1247 (lz_ev tL_isRefused) L st M) ∧
  (∀ (L : zzLc) (a1 a2 a3 a4 a5 a6 a7 : Int32) (a0 : Nat) (r : List Value) (A : zzMd) (n : Nat), lz_ev tL_isRefused 1247 L (.int a7 :: .int a6 :: .int a5 :: .int a4 :: .int a3 :: .int a2 :: .int a1 :: .ref a0 :: r) (A, n) = bif zz_cat8 r && decide (n + 1 ≤ 3600) then lz_bs (lz_ev tL_isRefused) 1250 L r (n + 1) (fL_act [.ref a0, .int a1, .int a2, .int a3, .int a4, .int a5, .int a6, .int a7] A) else none) ∧
  (∀ L st M, lz_ev tL_isRefused 1250 L st M = lo_pushI (-1272) 1253 (lz_ev tL_isRefused) L st M) ∧
  (∀ L st M, lz_ev tL_isRefused 1253 L st M = lo_icmp (fun x y => decide (¬ x = y)) 1338 1256 (lz_ev tL_isRefused) L st M) ∧
  (∀ L st M, lz_ev tL_isRefused 1256 L st M = lo_aload 0 1257 (lz_ev tL_isRefused) L st M) ∧
  (∀ L st M, lz_ev tL_isRefused 1257 L st M = lo_iload 9 1259 (lz_ev tL_isRefused) L st M) ∧
  (∀ (L : zzLc) (a0 : Int32) (r : List Value) (A : zzMd) (n : Nat), lz_ev tL_isRefused 1259 L (.int a0 :: .ref 0 :: r) (A, n) = bif zz_cat8 r && decide (n ≤ 3600) then lz_bv (lz_ev tL_isRefused) 1262 L r n (lz_g fX11_goingOf [.ref 0, .int a0] A) else none) ∧
  (∀ L st M, lz_ev tL_isRefused 1262 L st M = lo_if (fun x => decide (x = 0)) 1287 1265 (lz_ev tL_isRefused) L st M) ∧
  (∀ L st M, lz_ev tL_isRefused 1265 L st M = lo_aload 0 1266 (lz_ev tL_isRefused) L st M) ∧
  (∀ L st M, lz_ev tL_isRefused 1266 L st M = lo_pushI 3 1267 (lz_ev tL_isRefused) L st M) ∧
  (∀ L st M, lz_ev tL_isRefused 1267 L st M = lo_iload 9 1269 (lz_ev tL_isRefused) L st M) ∧
  (∀ L st M, lz_ev tL_isRefused 1269 L st M = lo_pushI 1 1270 (lz_ev tL_isRefused) L st M) ∧
  (∀ L st M, lz_ev tL_isRefused 1270 L st M = lo_iload 1 1271 (lz_ev tL_isRefused) L st M) ∧
  (∀ L st M, lz_ev tL_isRefused 1271 L st M = lo_pushI 3 1272 (lz_ev tL_isRefused) L st M) ∧
  (∀ L st M, lz_ev tL_isRefused 1272 L st M = lo_iid (fun x y => x - x / y * y) 1273 (lz_ev tL_isRefused) L st M) ∧
  (∀ L st M, lz_ev tL_isRefused 1273 L st M = lo_ii (fun x y => x + y) 1274 (lz_ev tL_isRefused) L st M) ∧
  (∀ L st M, lz_ev tL_isRefused 1274 L st M = lo_pushI 0 1275 (lz_ev tL_isRefused) L st M) ∧
  (∀ L st M, lz_ev tL_isRefused 1275 L st M = lo_pushI 0 1276 (lz_ev tL_isRefused) L st M) ∧
  (∀ L st M, lz_ev tL_isRefused 1276 L st M = lo_pushI 0 1277 (lz_ev tL_isRefused) L st M) ∧
  (∀ L st M, lz_ev tL_isRefused 1277 L st M = lo_pushI 0 1278 (lz_ev tL_isRefused) L st M) ∧
  (∀ (L : zzLc) (a1 a2 a3 a4 a5 a6 a7 : Int32) (a0 : Nat) (r : List Value) (A : zzMd) (n : Nat), lz_ev tL_isRefused 1278 L (.int a7 :: .int a6 :: .int a5 :: .int a4 :: .int a3 :: .int a2 :: .int a1 :: .ref a0 :: r) (A, n) = bif zz_cat8 r && decide (n + 1 ≤ 3600) then lz_bs (lz_ev tL_isRefused) 1281 L r (n + 1) (fL_act [.ref a0, .int a1, .int a2, .int a3, .int a4, .int a5, .int a6, .int a7] A) else none) ∧
  (∀ L st M, lz_ev tL_isRefused 1281 L st M = lo_pushI (-1273) 1284 (lz_ev tL_isRefused) L st M) ∧
  (∀ L st M, lz_ev tL_isRefused 1284 L st M = lo_icmp (fun x y => decide (¬ x = y)) 1338 1287 (lz_ev tL_isRefused) L st M) ∧
  (∀ L st M, lz_ev tL_isRefused 1287 L st M = lo_aload 0 1288 (lz_ev tL_isRefused) L st M) :=
  ⟨lz_1 rfl tl_L_isRefused, lz_1 rfl tl_L_isRefused, lz_1 rfl tl_L_isRefused, lz_1 rfl tl_L_isRefused, lz_1 rfl tl_L_isRefused, lz_1 rfl tl_L_isRefused, lz_1 rfl tl_L_isRefused, lz_1 rfl tl_L_isRefused, lz_1 rfl tl_L_isRefused, lz_1 rfl tl_L_isRefused, lz_1 rfl tl_L_isRefused, lz_1 rfl tl_L_isRefused, lz_1 rfl tl_L_isRefused, lz_1 rfl tl_L_isRefused, fun L a1 a2 a3 a4 a5 a6 a7 a0 r A n => (lz_1 rfl tl_L_isRefused _ _ _).trans rfl, lz_1 rfl tl_L_isRefused, lz_1 rfl tl_L_isRefused, lz_1 rfl tl_L_isRefused, lz_1 rfl tl_L_isRefused, lz_1 rfl tl_L_isRefused, lz_1 rfl tl_L_isRefused, lz_1 rfl tl_L_isRefused, lz_1 rfl tl_L_isRefused, lz_1 rfl tl_L_isRefused, lz_1 rfl tl_L_isRefused, lz_1 rfl tl_L_isRefused, lz_1 rfl tl_L_isRefused, lz_1 rfl tl_L_isRefused, fun L a1 a2 a3 a4 a5 a6 a7 a0 r A n => (lz_1 rfl tl_L_isRefused _ _ _).trans rfl, lz_1 rfl tl_L_isRefused, lz_1 rfl tl_L_isRefused, lz_1 rfl tl_L_isRefused, lz_1 rfl tl_L_isRefused, lz_1 rfl tl_L_isRefused, lz_1 rfl tl_L_isRefused, lz_1 rfl tl_L_isRefused, lz_1 rfl tl_L_isRefused, lz_1 rfl tl_L_isRefused, lz_1 rfl tl_L_isRefused, lz_1 rfl tl_L_isRefused, lz_1 rfl tl_L_isRefused, lz_1 rfl tl_L_isRefused, fun L a1 a2 a3 a4 a5 a6 a7 a0 r A n => (lz_1 rfl tl_L_isRefused _ _ _).trans rfl, lz_1 rfl tl_L_isRefused, lz_1 rfl tl_L_isRefused, lz_1 rfl tl_L_isRefused, lz_1 rfl tl_L_isRefused, lz_1 rfl tl_L_isRefused, lz_1 rfl tl_L_isRefused, lz_1 rfl tl_L_isRefused, lz_1 rfl tl_L_isRefused, lz_1 rfl tl_L_isRefused, lz_1 rfl tl_L_isRefused, lz_1 rfl tl_L_isRefused, lz_1 rfl tl_L_isRefused, lz_1 rfl tl_L_isRefused, lz_1 rfl tl_L_isRefused, lz_1 rfl tl_L_isRefused, lz_1 rfl tl_L_isRefused, lz_1 rfl tl_L_isRefused, lz_1 rfl tl_L_isRefused, lz_1 rfl tl_L_isRefused, lz_1 rfl tl_L_isRefused, fun L a1 a2 a3 a4 a5 a6 a7 a0 r A n => (lz_1 rfl tl_L_isRefused _ _ _).trans rfl, lz_1 rfl tl_L_isRefused, lz_1 rfl tl_L_isRefused, lz_1 rfl tl_L_isRefused, lz_1 rfl tl_L_isRefused, lz_1 rfl tl_L_isRefused, lz_1 rfl tl_L_isRefused, lz_1 rfl tl_L_isRefused, lz_1 rfl tl_L_isRefused, lz_1 rfl tl_L_isRefused, lz_1 rfl tl_L_isRefused, fun L a1 a2 a3 a4 a5 a6 a7 a0 r A n => (lz_1 rfl tl_L_isRefused _ _ _).trans rfl, lz_1 rfl tl_L_isRefused, lz_1 rfl tl_L_isRefused, lz_1 rfl tl_L_isRefused, lz_1 rfl tl_L_isRefused, lz_1 rfl tl_L_isRefused, lz_1 rfl tl_L_isRefused, lz_1 rfl tl_L_isRefused, lz_1 rfl tl_L_isRefused, lz_1 rfl tl_L_isRefused, lz_1 rfl tl_L_isRefused, fun L a1 a2 a3 a4 a5 a6 a7 a0 r A n => (lz_1 rfl tl_L_isRefused _ _ _).trans rfl, lz_1 rfl tl_L_isRefused, lz_1 rfl tl_L_isRefused, lz_1 rfl tl_L_isRefused, lz_1 rfl tl_L_isRefused, lz_1 rfl tl_L_isRefused, lz_1 rfl tl_L_isRefused, lz_1 rfl tl_L_isRefused, lz_1 rfl tl_L_isRefused, lz_1 rfl tl_L_isRefused, lz_1 rfl tl_L_isRefused, lz_1 rfl tl_L_isRefused, lz_1 rfl tl_L_isRefused, lz_1 rfl tl_L_isRefused, lz_1 rfl tl_L_isRefused, lz_1 rfl tl_L_isRefused, lz_1 rfl tl_L_isRefused, lz_1 rfl tl_L_isRefused, lz_1 rfl tl_L_isRefused, fun L a1 a2 a3 a4 a5 a6 a7 a0 r A n => (lz_1 rfl tl_L_isRefused _ _ _).trans rfl, lz_1 rfl tl_L_isRefused, lz_1 rfl tl_L_isRefused, lz_1 rfl tl_L_isRefused, lz_1 rfl tl_L_isRefused, lz_1 rfl tl_L_isRefused, lz_1 rfl tl_L_isRefused, lz_1 rfl tl_L_isRefused, lz_1 rfl tl_L_isRefused, lz_1 rfl tl_L_isRefused, lz_1 rfl tl_L_isRefused, lz_1 rfl tl_L_isRefused, fun L a1 a2 a3 a4 a5 a6 a7 a0 r A n => (lz_1 rfl tl_L_isRefused _ _ _).trans rfl, lz_1 rfl tl_L_isRefused, lz_1 rfl tl_L_isRefused, lz_1 rfl tl_L_isRefused, lz_1 rfl tl_L_isRefused, lz_1 rfl tl_L_isRefused, lz_1 rfl tl_L_isRefused, lz_1 rfl tl_L_isRefused, lz_1 rfl tl_L_isRefused, lz_1 rfl tl_L_isRefused, lz_1 rfl tl_L_isRefused, fun L a1 a2 a3 a4 a5 a6 a7 a0 r A n => (lz_1 rfl tl_L_isRefused _ _ _).trans rfl, lz_1 rfl tl_L_isRefused, lz_1 rfl tl_L_isRefused, lz_1 rfl tl_L_isRefused, lz_1 rfl tl_L_isRefused, fun L a0 r A n => (lz_1 rfl tl_L_isRefused _ _ _).trans rfl, lz_1 rfl tl_L_isRefused, lz_1 rfl tl_L_isRefused, lz_1 rfl tl_L_isRefused, lz_1 rfl tl_L_isRefused, lz_1 rfl tl_L_isRefused, lz_1 rfl tl_L_isRefused, lz_1 rfl tl_L_isRefused, lz_1 rfl tl_L_isRefused, lz_1 rfl tl_L_isRefused, lz_1 rfl tl_L_isRefused, lz_1 rfl tl_L_isRefused, lz_1 rfl tl_L_isRefused, lz_1 rfl tl_L_isRefused, fun L a1 a2 a3 a4 a5 a6 a7 a0 r A n => (lz_1 rfl tl_L_isRefused _ _ _).trans rfl, lz_1 rfl tl_L_isRefused, lz_1 rfl tl_L_isRefused, lz_1 rfl tl_L_isRefused⟩
set_option maxRecDepth 100000 in
theorem e_L_isRefused_p5 : (∀ L st M, lz_ev tL_isRefused 1288 L st M = lo_iload 9 1290 (lz_ev tL_isRefused) L st M) ∧
  (∀ (L : zzLc) (a0 : Int32) (r : List Value) (A : zzMd) (n : Nat), lz_ev tL_isRefused 1290 L (.int a0 :: .ref 0 :: r) (A, n) = bif zz_cat8 r && decide (n ≤ 3600) then lz_bv (lz_ev tL_isRefused) 1293 L r n (lz_g fX11_goingOf [.ref 0, .int a0] A) else none) ∧
  (∀ L st M, lz_ev tL_isRefused 1293 L st M = lo_pushI 4 1294 (lz_ev tL_isRefused) L st M) ∧
  (∀ L st M, lz_ev tL_isRefused 1294 L st M = lo_icmp (fun x y => decide (x < y)) 1334 1297 (lz_ev tL_isRefused) L st M) ∧
  (∀ L st M, lz_ev tL_isRefused 1297 L st M = lo_aload 0 1298 (lz_ev tL_isRefused) L st M) ∧
  (∀ L st M, lz_ev tL_isRefused 1298 L st M = lo_pushI 4 1299 (lz_ev tL_isRefused) L st M) ∧
  (∀ L st M, lz_ev tL_isRefused 1299 L st M = lo_iload 9 1301 (lz_ev tL_isRefused) L st M) ∧
  (∀ L st M, lz_ev tL_isRefused 1301 L st M = lo_pushI 1 1302 (lz_ev tL_isRefused) L st M) ∧
  (∀ L st M, lz_ev tL_isRefused 1302 L st M = lo_pushI 0 1303 (lz_ev tL_isRefused) L st M) ∧
  (∀ L st M, lz_ev tL_isRefused 1303 L st M = lo_pushI 0 1304 (lz_ev tL_isRefused) L st M) ∧
  (∀ L st M, lz_ev tL_isRefused 1304 L st M = lo_pushI 0 1305 (lz_ev tL_isRefused) L st M) ∧
  (∀ L st M, lz_ev tL_isRefused 1305 L st M = lo_pushI 0 1306 (lz_ev tL_isRefused) L st M) ∧
  (∀ (L : zzLc) (a1 a2 a3 a4 a5 a6 a7 : Int32) (a0 : Nat) (r : List Value) (A : zzMd) (n : Nat), lz_ev tL_isRefused 1306 L (.int a7 :: .int a6 :: .int a5 :: .int a4 :: .int a3 :: .int a2 :: .int a1 :: .ref a0 :: r) (A, n) = bif zz_cat8 r && decide (n + 1 ≤ 3600) then lz_bs (lz_ev tL_isRefused) 1309 L r (n + 1) (fL_act [.ref a0, .int a1, .int a2, .int a3, .int a4, .int a5, .int a6, .int a7] A) else none) ∧
  (∀ L st M, lz_ev tL_isRefused 1309 L st M = lo_pushI (-1273) 1312 (lz_ev tL_isRefused) L st M) ∧
  (∀ L st M, lz_ev tL_isRefused 1312 L st M = lo_icmp (fun x y => decide (¬ x = y)) 1338 1315 (lz_ev tL_isRefused) L st M) ∧
  (∀ L st M, lz_ev tL_isRefused 1315 L st M = lo_aload 0 1316 (lz_ev tL_isRefused) L st M) ∧
  (∀ L st M, lz_ev tL_isRefused 1316 L st M = lo_pushI 1 1317 (lz_ev tL_isRefused) L st M) ∧
  (∀ L st M, lz_ev tL_isRefused 1317 L st M = lo_pushI 0 1318 (lz_ev tL_isRefused) L st M) ∧
  (∀ L st M, lz_ev tL_isRefused 1318 L st M = lo_iload 9 1320 (lz_ev tL_isRefused) L st M) ∧
  (∀ L st M, lz_ev tL_isRefused 1320 L st M = lo_iload 11 1322 (lz_ev tL_isRefused) L st M) ∧
  (∀ L st M, lz_ev tL_isRefused 1322 L st M = lo_pushI 1 1323 (lz_ev tL_isRefused) L st M) ∧
  (∀ L st M, lz_ev tL_isRefused 1323 L st M = lo_pushI (-1) 1324 (lz_ev tL_isRefused) L st M) ∧
  (∀ L st M, lz_ev tL_isRefused 1324 L st M = lo_pushI 1 1325 (lz_ev tL_isRefused) L st M) ∧
  (∀ (L : zzLc) (a1 a2 a3 a4 a5 a6 a7 : Int32) (a0 : Nat) (r : List Value) (A : zzMd) (n : Nat), lz_ev tL_isRefused 1325 L (.int a7 :: .int a6 :: .int a5 :: .int a4 :: .int a3 :: .int a2 :: .int a1 :: .ref a0 :: r) (A, n) = bif zz_cat8 r && decide (n + 1 ≤ 3600) then lz_bs (lz_ev tL_isRefused) 1328 L r (n + 1) (fL_act [.ref a0, .int a1, .int a2, .int a3, .int a4, .int a5, .int a6, .int a7] A) else none) ∧
  (∀ L st M, lz_ev tL_isRefused 1328 L st M = lo_pushI (-1273) 1331 (lz_ev tL_isRefused) L st M) ∧
  (∀ L st M, lz_ev tL_isRefused 1331 L st M = lo_icmp (fun x y => decide (¬ x = y)) 1338 1334 (lz_ev tL_isRefused) L st M) ∧
  (∀ L st M, lz_ev tL_isRefused 1334 L st M = lo_pushI 1 1335 (lz_ev tL_isRefused) L st M) ∧
  (∀ L st M, lz_ev tL_isRefused 1335 L st M = lo_goto 1339 (lz_ev tL_isRefused) L st M) ∧
  (∀ L st M, lz_ev tL_isRefused 1338 L st M = lo_pushI 0 1339 (lz_ev tL_isRefused) L st M) ∧
  (∀ L st M, lz_ev tL_isRefused 1339 L st M = lo_istore 8 1341 (lz_ev tL_isRefused) L st M) ∧
  (∀ L st M, lz_ev tL_isRefused 1341 L st M = lo_iinc 9 1 1344 (lz_ev tL_isRefused) L st M) ∧
  (∀ L st M, lz_ev tL_isRefused 1344 L st M = lo_goto 841 (lz_ev tL_isRefused) L st M) ∧
  (∀ L st M, lz_ev tL_isRefused 1347 L st M = lo_iload 8 1349 (lz_ev tL_isRefused) L st M) ∧
  (∀ L st M, lz_ev tL_isRefused 1349 L st M = lo_if (fun x => decide (x = 0)) 1366 1352 (lz_ev tL_isRefused) L st M) ∧
  (∀ L st M, lz_ev tL_isRefused 1352 L st M = lo_aload 0 1353 (lz_ev tL_isRefused) L st M) ∧
  (∀ (L : zzLc) (a0 : Nat) (r : List Value) (A : zzMd) (n : Nat), lz_ev tL_isRefused 1353 L (.ref a0 :: r) (A, n) = bif zz_cat8 r && decide (n + 1320 ≤ 3600) then lz_bs (lz_ev tL_isRefused) 1356 L r (n + 1320) (fL_all [.ref a0] A) else none) ∧
  (∀ L st M, lz_ev tL_isRefused 1356 L st M = lo_lload 6 1358 (lz_ev tL_isRefused) L st M) ∧
  (∀ L st M, lz_ev tL_isRefused 1358 L st M = lo_lcmp 1359 (lz_ev tL_isRefused) L st M) ∧
  (∀ L st M, lz_ev tL_isRefused 1359 L st M = lo_if (fun x => decide (¬ x = 0)) 1366 1362 (lz_ev tL_isRefused) L st M) ∧
  (∀ L st M, lz_ev tL_isRefused 1362 L st M = lo_pushI 1 1363 (lz_ev tL_isRefused) L st M) ∧
  (∀ L st M, lz_ev tL_isRefused 1363 L st M = lo_goto 1367 (lz_ev tL_isRefused) L st M) ∧
  (∀ L st M, lz_ev tL_isRefused 1366 L st M = lo_pushI 0 1367 (lz_ev tL_isRefused) L st M) ∧
  (∀ L st M, lz_ev tL_isRefused 1367 L st M = lo_iret 3600 true (lz_ev tL_isRefused) L st M) :=
  ⟨lz_1 rfl tl_L_isRefused, fun L a0 r A n => (lz_1 rfl tl_L_isRefused _ _ _).trans rfl, lz_1 rfl tl_L_isRefused, lz_1 rfl tl_L_isRefused, lz_1 rfl tl_L_isRefused, lz_1 rfl tl_L_isRefused, lz_1 rfl tl_L_isRefused, lz_1 rfl tl_L_isRefused, lz_1 rfl tl_L_isRefused, lz_1 rfl tl_L_isRefused, lz_1 rfl tl_L_isRefused, lz_1 rfl tl_L_isRefused, fun L a1 a2 a3 a4 a5 a6 a7 a0 r A n => (lz_1 rfl tl_L_isRefused _ _ _).trans rfl, lz_1 rfl tl_L_isRefused, lz_1 rfl tl_L_isRefused, lz_1 rfl tl_L_isRefused, lz_1 rfl tl_L_isRefused, lz_1 rfl tl_L_isRefused, lz_1 rfl tl_L_isRefused, lz_1 rfl tl_L_isRefused, lz_1 rfl tl_L_isRefused, lz_1 rfl tl_L_isRefused, lz_1 rfl tl_L_isRefused, fun L a1 a2 a3 a4 a5 a6 a7 a0 r A n => (lz_1 rfl tl_L_isRefused _ _ _).trans rfl, lz_1 rfl tl_L_isRefused, lz_1 rfl tl_L_isRefused, lz_1 rfl tl_L_isRefused, lz_1 rfl tl_L_isRefused, lz_1 rfl tl_L_isRefused, lz_1 rfl tl_L_isRefused, lz_1 rfl tl_L_isRefused, lz_1 rfl tl_L_isRefused, lz_1 rfl tl_L_isRefused, lz_1 rfl tl_L_isRefused, lz_1 rfl tl_L_isRefused, fun L a0 r A n => (lz_1 rfl tl_L_isRefused _ _ _).trans rfl, lz_1 rfl tl_L_isRefused, lz_1 rfl tl_L_isRefused, lz_1 rfl tl_L_isRefused, lz_1 rfl tl_L_isRefused, lz_1 rfl tl_L_isRefused, lz_1 rfl tl_L_isRefused, lz_1 rfl tl_L_isRefused⟩
set_option maxRecDepth 100000 in
theorem e_L_isRefused_688 : (∀ L st M, lz_ev tL_isRefused 688 L st M = lo_iload 9 690 (lz_ev tL_isRefused) L st M) := lz_1 rfl tl_L_isRefused
set_option maxRecDepth 100000 in
theorem e_L_isRefused_841 : (∀ L st M, lz_ev tL_isRefused 841 L st M = lo_iload 9 843 (lz_ev tL_isRefused) L st M) := lz_1 rfl tl_L_isRefused
theorem s_L_isRefused (a1 : Int32) (a0 : Nat) {A A' : zzMd} {v : Option Value} {n : Nat} (h : lz_ev tL_isRefused 0 [some (.ref a0), some (.int a1), none, none, none, none, none, none, none, none, none, none, none] [] (A, 0) = some (v, (A', n))) : fL_isRefused [.ref a0, .int a1] A = some (v, A') := lz_fn_of (T := tL_isRefused) (nL := 13) (Nat.le_of_ble_eq_true rfl) h
end

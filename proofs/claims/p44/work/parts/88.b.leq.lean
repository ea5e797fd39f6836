section
set_option maxRecDepth 100000 in
theorem e_L_areObjects_p0 : (∀ L st M, lz_ev tL_areObjects 0 L st M = lo_pushI 1 1 (lz_ev tL_areObjects) L st M) ∧
  (∀ L st M, lz_ev tL_areObjects 1 L st M = lo_istore 1 2 (lz_ev tL_areObjects) L st M) ∧
  (∀ L st M, lz_ev tL_areObjects 2 L st M = lo_pushI 0 3 (lz_ev tL_areObjects) L st M) ∧
  (∀ L st M, lz_ev tL_areObjects 3 L st M = lo_istore 2 4 (lz_ev tL_areObjects) L st M) ∧
  (∀ L st M, lz_ev tL_areObjects 5 L st M = lo_aload 0 6 (lz_ev tL_areObjects) L st M) ∧
  (∀ (L : zzLc) (r : List Value) (A : zzMd) (n : Nat), lz_ev tL_areObjects 6 L (.ref 0 :: r) (A, n) = bif zz_cat8 r && decide (n ≤ 1320) then lz_bv (lz_ev tL_areObjects) 9 L r n (lz_g fX11_objects [.ref 0] A) else none) ∧
  (∀ L st M, lz_ev tL_areObjects 9 L st M = lo_icmp (fun x y => decide (y ≤ x)) 518 12 (lz_ev tL_areObjects) L st M) ∧
  (∀ L st M, lz_ev tL_areObjects 12 L st M = lo_iload 1 13 (lz_ev tL_areObjects) L st M) ∧
  (∀ L st M, lz_ev tL_areObjects 13 L st M = lo_if (fun x => decide (x = 0)) 518 16 (lz_ev tL_areObjects) L st M) ∧
  (∀ L st M, lz_ev tL_areObjects 16 L st M = lo_aload 0 17 (lz_ev tL_areObjects) L st M) ∧
  (∀ L st M, lz_ev tL_areObjects 17 L st M = lo_iload 2 18 (lz_ev tL_areObjects) L st M) ∧
  (∀ (L : zzLc) (a0 : Int32) (r : List Value) (A : zzMd) (n : Nat), lz_ev tL_areObjects 18 L (.int a0 :: .ref 0 :: r) (A, n) = bif zz_cat8 r && decide (n ≤ 1320) then lz_bv (lz_ev tL_areObjects) 21 L r n (lz_g fX11_kindOf [.ref 0, .int a0] A) else none) ∧
  (∀ L st M, lz_ev tL_areObjects 21 L st M = lo_istore 3 22 (lz_ev tL_areObjects) L st M) ∧
  (∀ L st M, lz_ev tL_areObjects 22 L st M = lo_aload 0 23 (lz_ev tL_areObjects) L st M) ∧
  (∀ L st M, lz_ev tL_areObjects 23 L st M = lo_iload 2 24 (lz_ev tL_areObjects) L st M) ∧
  (∀ (L : zzLc) (a0 : Int32) (r : List Value) (A : zzMd) (n : Nat), lz_ev tL_areObjects 24 L (.int a0 :: .ref 0 :: r) (A, n) = bif zz_cat8 r && decide (n ≤ 1320) then lz_bv (lz_ev tL_areObjects) 27 L r n (lz_g fX11_ownerOf [.ref 0, .int a0] A) else none) ∧
  (∀ L st M, lz_ev tL_areObjects 27 L st M = lo_istore 4 29 (lz_ev tL_areObjects) L st M) ∧
  (∀ L st M, lz_ev tL_areObjects 29 L st M = lo_iload 4 31 (lz_ev tL_areObjects) L st M) ∧
  (∀ L st M, lz_ev tL_areObjects 31 L st M = lo_iload 2 32 (lz_ev tL_areObjects) L st M) ∧
  (∀ L st M, lz_ev tL_areObjects 32 L st M = lo_icmp (fun x y => decide (y ≤ x)) 98 35 (lz_ev tL_areObjects) L st M) ∧
  (∀ L st M, lz_ev tL_areObjects 35 L st M = lo_iload 4 37 (lz_ev tL_areObjects) L st M) ∧
  (∀ L st M, lz_ev tL_areObjects 37 L st M = lo_pushI (-1) 38 (lz_ev tL_areObjects) L st M) ∧
  (∀ L st M, lz_ev tL_areObjects 38 L st M = lo_icmp (fun x y => decide (x < y)) 98 41 (lz_ev tL_areObjects) L st M) ∧
  (∀ L st M, lz_ev tL_areObjects 41 L st M = lo_iload 4 43 (lz_ev tL_areObjects) L st M) ∧
  (∀ L st M, lz_ev tL_areObjects 43 L st M = lo_if (fun x => decide (x < 0)) 94 46 (lz_ev tL_areObjects) L st M) ∧
  (∀ L st M, lz_ev tL_areObjects 46 L st M = lo_aload 0 47 (lz_ev tL_areObjects) L st M) ∧
  (∀ L st M, lz_ev tL_areObjects 47 L st M = lo_iload 2 48 (lz_ev tL_areObjects) L st M) ∧
  (∀ (L : zzLc) (a0 : Int32) (r : List Value) (A : zzMd) (n : Nat), lz_ev tL_areObjects 48 L (.int a0 :: .ref 0 :: r) (A, n) = bif zz_cat8 r && decide (n ≤ 1320) then lz_bv (lz_ev tL_areObjects) 51 L r n (lz_g fX11_goingOf [.ref 0, .int a0] A) else none) ∧
  (∀ L st M, lz_ev tL_areObjects 51 L st M = lo_pushI 4 52 (lz_ev tL_areObjects) L st M) ∧
  (∀ L st M, lz_ev tL_areObjects 52 L st M = lo_icmp (fun x y => decide (y ≤ x)) 98 55 (lz_ev tL_areObjects) L st M) ∧
  (∀ L st M, lz_ev tL_areObjects 55 L st M = lo_iload 3 56 (lz_ev tL_areObjects) L st M) ∧
  (∀ L st M, lz_ev tL_areObjects 56 L st M = lo_pushI 1 57 (lz_ev tL_areObjects) L st M) ∧
  (∀ L st M, lz_ev tL_areObjects 57 L st M = lo_icmp (fun x y => decide (¬ x = y)) 69 60 (lz_ev tL_areObjects) L st M) ∧
  (∀ L st M, lz_ev tL_areObjects 60 L st M = lo_aload 0 61 (lz_ev tL_areObjects) L st M) ∧
  (∀ L st M, lz_ev tL_areObjects 61 L st M = lo_iload 4 63 (lz_ev tL_areObjects) L st M) ∧
  (∀ (L : zzLc) (a0 : Int32) (r : List Value) (A : zzMd) (n : Nat), lz_ev tL_areObjects 63 L (.int a0 :: .ref 0 :: r) (A, n) = bif zz_cat8 r && decide (n ≤ 1320) then lz_bv (lz_ev tL_areObjects) 66 L r n (lz_g fX11_kindOf [.ref 0, .int a0] A) else none) ∧
  (∀ L st M, lz_ev tL_areObjects 66 L st M = lo_if (fun x => decide (x = 0)) 94 69 (lz_ev tL_areObjects) L st M) ∧
  (∀ L st M, lz_ev tL_areObjects 69 L st M = lo_iload 3 70 (lz_ev tL_areObjects) L st M) ∧
  (∀ L st M, lz_ev tL_areObjects 70 L st M = lo_pushI 2 71 (lz_ev tL_areObjects) L st M) ∧
  (∀ L st M, lz_ev tL_areObjects 71 L st M = lo_icmp (fun x y => decide (¬ x = y)) 98 74 (lz_ev tL_areObjects) L st M) ∧
  (∀ L st M, lz_ev tL_areObjects 74 L st M = lo_aload 0 75 (lz_ev tL_areObjects) L st M) ∧
  (∀ L st M, lz_ev tL_areObjects 75 L st M = lo_iload 4 77 (lz_ev tL_areObjects) L st M) ∧
  (∀ (L : zzLc) (a0 : Int32) (r : List Value) (A : zzMd) (n : Nat), lz_ev tL_areObjects 77 L (.int a0 :: .ref 0 :: r) (A, n) = bif zz_cat8 r && decide (n ≤ 1320) then lz_bv (lz_ev tL_areObjects) 80 L r n (lz_g fX11_kindOf [.ref 0, .int a0] A) else none) ∧
  (∀ L st M, lz_ev tL_areObjects 80 L st M = lo_pushI 1 81 (lz_ev tL_areObjects) L st M) ∧
  (∀ L st M, lz_ev tL_areObjects 81 L st M = lo_icmp (fun x y => decide (x = y)) 94 84 (lz_ev tL_areObjects) L st M) ∧
  (∀ L st M, lz_ev tL_areObjects 84 L st M = lo_aload 0 85 (lz_ev tL_areObjects) L st M) ∧
  (∀ L st M, lz_ev tL_areObjects 85 L st M = lo_iload 4 87 (lz_ev tL_areObjects) L st M) ∧
  (∀ (L : zzLc) (a0 : Int32) (r : List Value) (A : zzMd) (n : Nat), lz_ev tL_areObjects 87 L (.int a0 :: .ref 0 :: r) (A, n) = bif zz_cat8 r && decide (n ≤ 1320) then lz_bv (lz_ev tL_areObjects) 90 L r n (lz_g fX11_kindOf [.ref 0, .int a0] A) else none) ∧
  (∀ L st M, lz_ev tL_areObjects 90 L st M = lo_pushI 3 91 (lz_ev tL_areObjects) L st M) ∧
  (∀ L st M, lz_ev tL_areObjects 91 L st M = lo_icmp (fun x y => decide (¬ x = y)) 98 94 (lz_ev tL_areObjects) L st M) ∧
  (∀ L st M, lz_ev tL_areObjects 94 L st M = lo_pushI 1 95 (lz_ev tL_areObjects) L st M) ∧
  (∀ L st M, lz_ev tL_areObjects 95 L st M = lo_goto 99 (lz_ev tL_areObjects) L st M) ∧
  (∀ L st M, lz_ev tL_areObjects 98 L st M = lo_pushI 0 99 (lz_ev tL_areObjects) L st M) ∧
  (∀ L st M, lz_ev tL_areObjects 99 L st M = lo_istore 1 100 (lz_ev tL_areObjects) L st M) ∧
  (∀ L st M, lz_ev tL_areObjects 100 L st M = lo_pushI 0 101 (lz_ev tL_areObjects) L st M) ∧
  (∀ L st M, lz_ev tL_areObjects 101 L st M = lo_istore 5 103 (lz_ev tL_areObjects) L st M) ∧
  (∀ L st M, lz_ev tL_areObjects 105 L st M = lo_pushI 11 107 (lz_ev tL_areObjects) L st M) ∧
  (∀ L st M, lz_ev tL_areObjects 107 L st M = lo_icmp (fun x y => decide (y ≤ x)) 378 110 (lz_ev tL_areObjects) L st M) ∧
  (∀ L st M, lz_ev tL_areObjects 110 L st M = lo_iload 1 111 (lz_ev tL_areObjects) L st M) ∧
  (∀ L st M, lz_ev tL_areObjects 111 L st M = lo_if (fun x => decide (x = 0)) 378 114 (lz_ev tL_areObjects) L st M) ∧
  (∀ L st M, lz_ev tL_areObjects 114 L st M = lo_iload 3 115 (lz_ev tL_areObjects) L st M) ∧
  (∀ L st M, lz_ev tL_areObjects 115 L st M = lo_if (fun x => decide (¬ x = 0)) 125 118 (lz_ev tL_areObjects) L st M) ∧
  (∀ L st M, lz_ev tL_areObjects 118 L st M = lo_iload 5 120 (lz_ev tL_areObjects) L st M) ∧
  (∀ L st M, lz_ev tL_areObjects 120 L st M = lo_pushI 7 122 (lz_ev tL_areObjects) L st M) ∧
  (∀ L st M, lz_ev tL_areObjects 122 L st M = lo_icmp (fun x y => decide (x < y)) 195 125 (lz_ev tL_areObjects) L st M) ∧
  (∀ L st M, lz_ev tL_areObjects 125 L st M = lo_iload 3 126 (lz_ev tL_areObjects) L st M) ∧
  (∀ L st M, lz_ev tL_areObjects 126 L st M = lo_pushI 1 127 (lz_ev tL_areObjects) L st M) ∧
  (∀ L st M, lz_ev tL_areObjects 127 L st M = lo_icmp (fun x y => decide (¬ x = y)) 136 130 (lz_ev tL_areObjects) L st M) ∧
  (∀ L st M, lz_ev tL_areObjects 130 L st M = lo_iload 5 132 (lz_ev tL_areObjects) L st M) ∧
  (∀ L st M, lz_ev tL_areObjects 132 L st M = lo_pushI 2 133 (lz_ev tL_areObjects) L st M) ∧
  (∀ L st M, lz_ev tL_areObjects 133 L st M = lo_icmp (fun x y => decide (x < y)) 195 136 (lz_ev tL_areObjects) L st M) ∧
  (∀ L st M, lz_ev tL_areObjects 136 L st M = lo_iload 3 137 (lz_ev tL_areObjects) L st M) ∧
  (∀ L st M, lz_ev tL_areObjects 137 L st M = lo_pushI 2 138 (lz_ev tL_areObjects) L st M) ∧
  (∀ L st M, lz_ev tL_areObjects 138 L st M = lo_icmp (fun x y => decide (¬ x = y)) 147 141 (lz_ev tL_areObjects) L st M) ∧
  (∀ L st M, lz_ev tL_areObjects 141 L st M = lo_iload 5 143 (lz_ev tL_areObjects) L st M) ∧
  (∀ L st M, lz_ev tL_areObjects 143 L st M = lo_pushI 1 144 (lz_ev tL_areObjects) L st M) ∧
  (∀ L st M, lz_ev tL_areObjects 144 L st M = lo_icmp (fun x y => decide (x = y)) 195 147 (lz_ev tL_areObjects) L st M) ∧
  (∀ L st M, lz_ev tL_areObjects 147 L st M = lo_iload 3 148 (lz_ev tL_areObjects) L st M) ∧
  (∀ L st M, lz_ev tL_areObjects 148 L st M = lo_pushI 3 149 (lz_ev tL_areObjects) L st M) ∧
  (∀ L st M, lz_ev tL_areObjects 149 L st M = lo_icmp (fun x y => decide (¬ x = y)) 165 152 (lz_ev tL_areObjects) L st M) ∧
  (∀ L st M, lz_ev tL_areObjects 152 L st M = lo_iload 5 154 (lz_ev tL_areObjects) L st M) ∧
  (∀ L st M, lz_ev tL_areObjects 154 L st M = lo_pushI 2 155 (lz_ev tL_areObjects) L st M) ∧
  (∀ L st M, lz_ev tL_areObjects 155 L st M = lo_icmp (fun x y => decide (x < y)) 195 158 (lz_ev tL_areObjects) L st M) ∧
  (∀ L st M, lz_ev tL_areObjects 158 L st M = lo_iload 5 160 (lz_ev tL_areObjects) L st M) ∧
  (∀ L st M, lz_ev tL_areObjects 160 L st M = lo_pushI 10 162 (lz_ev tL_areObjects) L st M) ∧
  (∀ L st M, lz_ev tL_areObjects 162 L st M = lo_icmp (fun x y => decide (x = y)) 195 165 (lz_ev tL_areObjects) L st M) ∧
  (∀ L st M, lz_ev tL_areObjects 165 L st M = lo_iload 3 166 (lz_ev tL_areObjects) L st M) ∧
  (∀ L st M, lz_ev tL_areObjects 166 L st M = lo_pushI 4 167 (lz_ev tL_areObjects) L st M) ∧
  (∀ L st M, lz_ev tL_areObjects 167 L st M = lo_icmp (fun x y => decide (¬ x = y)) 184 170 (lz_ev tL_areObjects) L st M) ∧
  (∀ L st M, lz_ev tL_areObjects 170 L st M = lo_iload 5 172 (lz_ev tL_areObjects) L st M) ∧
  (∀ L st M, lz_ev tL_areObjects 172 L st M = lo_pushI 6 174 (lz_ev tL_areObjects) L st M) ∧
  (∀ L st M, lz_ev tL_areObjects 174 L st M = lo_icmp (fun x y => decide (x ≤ y)) 184 177 (lz_ev tL_areObjects) L st M) ∧
  (∀ L st M, lz_ev tL_areObjects 177 L st M = lo_iload 5 179 (lz_ev tL_areObjects) L st M) ∧
  (∀ L st M, lz_ev tL_areObjects 179 L st M = lo_pushI 10 181 (lz_ev tL_areObjects) L st M) ∧
  (∀ L st M, lz_ev tL_areObjects 181 L st M = lo_icmp (fun x y => decide (x < y)) 195 184 (lz_ev tL_areObjects) L st M) ∧
  (∀ L st M, lz_ev tL_areObjects 184 L st M = lo_iload 3 185 (lz_ev tL_areObjects) L st M) ∧
  (∀ L st M, lz_ev tL_areObjects 185 L st M = lo_pushI 5 186 (lz_ev tL_areObjects) L st M) ∧
  (∀ L st M, lz_ev tL_areObjects 186 L st M = lo_icmp (fun x y => decide (¬ x = y)) 199 189 (lz_ev tL_areObjects) L st M) ∧
  (∀ L st M, lz_ev tL_areObjects 189 L st M = lo_iload 5 191 (lz_ev tL_areObjects) L st M) ∧
  (∀ L st M, lz_ev tL_areObjects 191 L st M = lo_pushI 1 192 (lz_ev tL_areObjects) L st M) ∧
  (∀ L st M, lz_ev tL_areObjects 192 L st M = lo_icmp (fun x y => decide (¬ x = y)) 199 195 (lz_ev tL_areObjects) L st M) ∧
  (∀ L st M, lz_ev tL_areObjects 195 L st M = lo_pushI 1 196 (lz_ev tL_areObjects) L st M) ∧
  (∀ L st M, lz_ev tL_areObjects 196 L st M = lo_goto 200 (lz_ev tL_areObjects) L st M) ∧
  (∀ L st M, lz_ev tL_areObjects 199 L st M = lo_pushI 0 200 (lz_ev tL_areObjects) L st M) ∧
  (∀ L st M, lz_ev tL_areObjects 200 L st M = lo_istore 6 202 (lz_ev tL_areObjects) L st M) ∧
  (∀ L st M, lz_ev tL_areObjects 202 L st M = lo_aload 0 203 (lz_ev tL_areObjects) L st M) ∧
  (∀ L st M, lz_ev tL_areObjects 203 L st M = lo_pushI 1 204 (lz_ev tL_areObjects) L st M) ∧
  (∀ L st M, lz_ev tL_areObjects 204 L st M = lo_iload 2 205 (lz_ev tL_areObjects) L st M) ∧
  (∀ L st M, lz_ev tL_areObjects 205 L st M = lo_iload 5 207 (lz_ev tL_areObjects) L st M) ∧
  (∀ L st M, lz_ev tL_areObjects 207 L st M = lo_pushI 0 208 (lz_ev tL_areObjects) L st M) ∧
  (∀ (L : zzLc) (a1 a2 a3 a4 : Int32) (a0 : Nat) (r : List Value) (A : zzMd) (n : Nat), lz_ev tL_areObjects 208 L (.int a4 :: .int a3 :: .int a2 :: .int a1 :: .ref a0 :: r) (A, n) = bif zz_cat8 r && decide (n + 1 ≤ 1320) then lz_bs (lz_ev tL_areObjects) 211 L r (n + 1) (fL_of [.ref a0, .int a1, .int a2, .int a3, .int a4] A) else none) ∧
  (∀ L st M, lz_ev tL_areObjects 211 L st M = lo_istore 7 213 (lz_ev tL_areObjects) L st M) ∧
  (∀ L st M, lz_ev tL_areObjects 213 L st M = lo_iload 5 215 (lz_ev tL_areObjects) L st M) ∧
  (∀ L st M, lz_ev tL_areObjects 215 L st M = lo_pushI 6 217 (lz_ev tL_areObjects) L st M) ∧
  (∀ L st M, lz_ev tL_areObjects 217 L st M = lo_icmp (fun x y => decide (¬ x = y)) 225 220 (lz_ev tL_areObjects) L st M) ∧
  (∀ L st M, lz_ev tL_areObjects 220 L st M = lo_pushI 99 222 (lz_ev tL_areObjects) L st M) ∧
  (∀ L st M, lz_ev tL_areObjects 222 L st M = lo_goto 283 (lz_ev tL_areObjects) L st M) ∧
  (∀ L st M, lz_ev tL_areObjects 225 L st M = lo_iload 5 227 (lz_ev tL_areObjects) L st M) ∧
  (∀ L st M, lz_ev tL_areObjects 227 L st M = lo_pushI 1 228 (lz_ev tL_areObjects) L st M) ∧
  (∀ L st M, lz_ev tL_areObjects 228 L st M = lo_icmp (fun x y => decide (x = y)) 238 231 (lz_ev tL_areObjects) L st M) ∧
  (∀ L st M, lz_ev tL_areObjects 231 L st M = lo_iload 5 233 (lz_ev tL_areObjects) L st M) ∧
  (∀ L st M, lz_ev tL_areObjects 233 L st M = lo_pushI 7 235 (lz_ev tL_areObjects) L st M) ∧
  (∀ L st M, lz_ev tL_areObjects 235 L st M = lo_icmp (fun x y => decide (¬ x = y)) 243 238 (lz_ev tL_areObjects) L st M) ∧
  (∀ L st M, lz_ev tL_areObjects 238 L st M = lo_pushI 9 240 (lz_ev tL_areObjects) L st M) ∧
  (∀ L st M, lz_ev tL_areObjects 240 L st M = lo_goto 283 (lz_ev tL_areObjects) L st M) ∧
  (∀ L st M, lz_ev tL_areObjects 243 L st M = lo_iload 5 245 (lz_ev tL_areObjects) L st M) ∧
  (∀ L st M, lz_ev tL_areObjects 245 L st M = lo_pushI 4 246 (lz_ev tL_areObjects) L st M) ∧
  (∀ L st M, lz_ev tL_areObjects 246 L st M = lo_icmp (fun x y => decide (x = y)) 256 249 (lz_ev tL_areObjects) L st M) ∧
  (∀ L st M, lz_ev tL_areObjects 249 L st M = lo_iload 5 251 (lz_ev tL_areObjects) L st M) ∧
  (∀ L st M, lz_ev tL_areObjects 251 L st M = lo_pushI 9 253 (lz_ev tL_areObjects) L st M) ∧
  (∀ L st M, lz_ev tL_areObjects 253 L st M = lo_icmp (fun x y => decide (¬ x = y)) 260 256 (lz_ev tL_areObjects) L st M) ∧
  (∀ L st M, lz_ev tL_areObjects 256 L st M = lo_pushI 1 257 (lz_ev tL_areObjects) L st M) ∧
  (∀ L st M, lz_ev tL_areObjects 257 L st M = lo_goto 283 (lz_ev tL_areObjects) L st M) ∧
  (∀ L st M, lz_ev tL_areObjects 260 L st M = lo_iload 5 262 (lz_ev tL_areObjects) L st M) ∧
  (∀ L st M, lz_ev tL_areObjects 262 L st M = lo_if (fun x => decide (x = 0)) 278 265 (lz_ev tL_areObjects) L st M) ∧
  (∀ L st M, lz_ev tL_areObjects 265 L st M = lo_iload 5 267 (lz_ev tL_areObjects) L st M) ∧
  (∀ L st M, lz_ev tL_areObjects 267 L st M = lo_pushI 5 268 (lz_ev tL_areObjects) L st M) ∧
  (∀ L st M, lz_ev tL_areObjects 268 L st M = lo_icmp (fun x y => decide (x = y)) 278 271 (lz_ev tL_areObjects) L st M) ∧
  (∀ L st M, lz_ev tL_areObjects 271 L st M = lo_iload 5 273 (lz_ev tL_areObjects) L st M) ∧
  (∀ L st M, lz_ev tL_areObjects 273 L st M = lo_pushI 10 275 (lz_ev tL_areObjects) L st M) ∧
  (∀ L st M, lz_ev tL_areObjects 275 L st M = lo_icmp (fun x y => decide (¬ x = y)) 282 278 (lz_ev tL_areObjects) L st M) ∧
  (∀ L st M, lz_ev tL_areObjects 278 L st M = lo_pushI 5 279 (lz_ev tL_areObjects) L st M) ∧
  (∀ L st M, lz_ev tL_areObjects 279 L st M = lo_goto 283 (lz_ev tL_areObjects) L st M) ∧
  (∀ L st M, lz_ev tL_areObjects 282 L st M = lo_pushI 2 283 (lz_ev tL_areObjects) L st M) ∧
  (∀ L st M, lz_ev tL_areObjects 283 L st M = lo_istore 8 285 (lz_ev tL_areObjects) L st M) ∧
  (∀ L st M, lz_ev tL_areObjects 285 L st M = lo_iload 6 287 (lz_ev tL_areObjects) L st M) ∧
  (∀ L st M, lz_ev tL_areObjects 287 L st M = lo_if (fun x => decide (x = 0)) 343 290 (lz_ev tL_areObjects) L st M) ∧
  (∀ L st M, lz_ev tL_areObjects 290 L st M = lo_iload 7 292 (lz_ev tL_areObjects) L st M) ∧
  (∀ L st M, lz_ev tL_areObjects 292 L st M = lo_iload 5 294 (lz_ev tL_areObjects) L st M) ∧
  (∀ L st M, lz_ev tL_areObjects 294 L st M = lo_pushI 10 296 (lz_ev tL_areObjects) L st M) :=
  ⟨lz_1 rfl tl_L_areObjects, lz_1 rfl tl_L_areObjects, lz_1 rfl tl_L_areObjects, lz_1 rfl tl_L_areObjects, lz_1 rfl tl_L_areObjects, fun L  r A n => (lz_1 rfl tl_L_areObjects _ _ _).trans rfl, lz_1 rfl tl_L_areObjects, lz_1 rfl tl_L_areObjects, lz_1 rfl tl_L_areObjects, lz_1 rfl tl_L_areObjects, lz_1 rfl tl_L_areObjects, fun L a0 r A n => (lz_1 rfl tl_L_areObjects _ _ _).trans rfl, lz_1 rfl tl_L_areObjects, lz_1 rfl tl_L_areObjects, lz_1 rfl tl_L_areObjects, fun L a0 r A n => (lz_1 rfl tl_L_areObjects _ _ _).trans rfl, lz_1 rfl tl_L_areObjects, lz_1 rfl tl_L_areObjects, lz_1 rfl tl_L_areObjects, lz_1 rfl tl_L_areObjects, lz_1 rfl tl_L_areObjects, lz_1 rfl tl_L_areObjects, lz_1 rfl tl_L_areObjects, lz_1 rfl tl_L_areObjects, lz_1 rfl tl_L_areObjects, lz_1 rfl tl_L_areObjects, lz_1 rfl tl_L_areObjects, fun L a0 r A n => (lz_1 rfl tl_L_areObjects _ _ _).trans rfl, lz_1 rfl tl_L_areObjects, lz_1 rfl tl_L_areObjects, lz_1 rfl tl_L_areObjects, lz_1 rfl tl_L_areObjects, lz_1 rfl tl_L_areObjects, lz_1 rfl tl_L_areObjects, lz_1 rfl tl_L_areObjects, fun L a0 r A n => (lz_1 rfl tl_L_areObjects _ _ _).trans rfl, lz_1 rfl tl_L_areObjects, lz_1 rfl tl_L_areObjects, lz_1 rfl tl_L_areObjects, lz_1 rfl tl_L_areObjects, lz_1 rfl tl_L_areObjects, lz_1 rfl tl_L_areObjects, fun L a0 r A n => (lz_1 rfl tl_L_areObjects _ _ _).trans rfl, lz_1 rfl tl_L_areObjects, lz_1 rfl tl_L_areObjects, lz_1 rfl tl_L_areObjects, lz_1 rfl tl_L_areObjects, fun L a0 r A n => (lz_1 rfl tl_L_areObjects _ _ _).trans rfl, lz_1 rfl tl_L_areObjects, lz_1 rfl tl_L_areObjects, lz_1 rfl tl_L_areObjects, lz_1 rfl tl_L_areObjects, lz_1 rfl tl_L_areObjects, lz_1 rfl tl_L_areObjects, lz_1 rfl tl_L_areObjects, lz_1 rfl tl_L_areObjects, lz_1 rfl tl_L_areObjects, lz_1 rfl tl_L_areObjects, lz_1 rfl tl_L_areObjects, lz_1 rfl tl_L_areObjects, lz_1 rfl tl_L_areObjects, lz_1 rfl tl_L_areObjects, lz_1 rfl tl_L_areObjects, lz_1 rfl tl_L_areObjects, lz_1 rfl tl_L_areObjects, lz_1 rfl tl_L_areObjects, lz_1 rfl tl_L_areObjects, lz_1 rfl tl_L_areObjects, lz_1 rfl tl_L_areObjects, lz_1 rfl tl_L_areObjects, lz_1 rfl tl_L_areObjects, lz_1 rfl tl_L_areObjects, lz_1 rfl tl_L_areObjects, lz_1 rfl tl_L_areObjects, lz_1 rfl tl_L_areObjects, lz_1 rfl tl_L_areObjects, lz_1 rfl tl_L_areObjects, lz_1 rfl tl_L_areObjects, lz_1 rfl tl_L_areObjects, lz_1 rfl tl_L_areObjects, lz_1 rfl tl_L_areObjects, lz_1 rfl tl_L_areObjects, lz_1 rfl tl_L_areObjects, lz_1 rfl tl_L_areObjects, lz_1 rfl tl_L_areObjects, lz_1 rfl tl_L_areObjects, lz_1 rfl tl_L_areObjects, lz_1 rfl tl_L_areObjects, lz_1 rfl tl_L_areObjects, lz_1 rfl tl_L_areObjects, lz_1 rfl tl_L_areObjects, lz_1 rfl tl_L_areObjects, lz_1 rfl tl_L_areObjects, lz_1 rfl tl_L_areObjects, lz_1 rfl tl_L_areObjects, lz_1 rfl tl_L_areObjects, lz_1 rfl tl_L_areObjects, lz_1 rfl tl_L_areObjects, lz_1 rfl tl_L_areObjects, lz_1 rfl tl_L_areObjects, lz_1 rfl tl_L_areObjects, lz_1 rfl tl_L_areObjects, lz_1 rfl tl_L_areObjects, lz_1 rfl tl_L_areObjects, lz_1 rfl tl_L_areObjects, lz_1 rfl tl_L_areObjects, lz_1 rfl tl_L_areObjects, lz_1 rfl tl_L_areObjects, lz_1 rfl tl_L_areObjects, lz_1 rfl tl_L_areObjects, fun L a1 a2 a3 a4 a0 r A n => (lz_1 rfl tl_L_areObjects _ _ _).trans rfl, lz_1 rfl tl_L_areObjects, lz_1 rfl tl_L_areObjects, lz_1 rfl tl_L_areObjects, lz_1 rfl tl_L_areObjects, lz_1 rfl tl_L_areObjects, lz_1 rfl tl_L_areObjects, lz_1 rfl tl_L_areObjects, lz_1 rfl tl_L_areObjects, lz_1 rfl tl_L_areObjects, lz_1 rfl tl_L_areObjects, lz_1 rfl tl_L_areObjects, lz_1 rfl tl_L_areObjects, lz_1 rfl tl_L_areObjects, lz_1 rfl tl_L_areObjects, lz_1 rfl tl_L_areObjects, lz_1 rfl tl_L_areObjects, lz_1 rfl tl_L_areObjects, lz_1 rfl tl_L_areObjects, lz_1 rfl tl_L_areObjects, lz_1 rfl tl_L_areObjects, lz_1 rfl tl_L_areObjects, lz_1 rfl tl_L_areObjects, lz_1 rfl tl_L_areObjects, lz_1 rfl tl_L_areObjects, lz_1 rfl tl_L_areObjects, lz_1 rfl tl_L_areObjects, lz_1 rfl tl_L_areObjects, lz_1 rfl tl_L_areObjects, lz_1 rfl tl_L_areObjects, lz_1 rfl tl_L_areObjects, lz_1 rfl tl_L_areObjects, lz_1 rfl tl_L_areObjects, lz_1 rfl tl_L_areObjects, lz_1 rfl tl_L_areObjects, lz_1 rfl tl_L_areObjects, lz_1 rfl tl_L_areObjects, lz_1 rfl tl_L_areObjects, lz_1 rfl tl_L_areObjects, lz_1 rfl tl_L_areObjects⟩
set_option maxRecDepth 100000 in
theorem e_L_areObjects_p1 : (∀ L st M, lz_ev tL_areObjects 296 L st M = lo_icmp (fun x y => decide (¬ x = y)) 303 299 (lz_ev tL_areObjects) L st M) ∧
  (∀ L st M, lz_ev tL_areObjects 299 L st M = lo_pushI 1 300 (lz_ev tL_areObjects) L st M) ∧
  (∀ L st M, lz_ev tL_areObjects 300 L st M = lo_goto 304 (lz_ev tL_areObjects) L st M) ∧
  (∀ L st M, lz_ev tL_areObjects 303 L st M = lo_pushI 0 304 (lz_ev tL_areObjects) L st M) ∧
  (∀ L st M, lz_ev tL_areObjects 304 L st M = lo_icmp (fun x y => decide (x < y)) 339 307 (lz_ev tL_areObjects) L st M) ∧
  (∀ L st M, lz_ev tL_areObjects 307 L st M = lo_iload 7 309 (lz_ev tL_areObjects) L st M) ∧
  (∀ L st M, lz_ev tL_areObjects 309 L st M = lo_iload 8 311 (lz_ev tL_areObjects) L st M) ∧
  (∀ L st M, lz_ev tL_areObjects 311 L st M = lo_icmp (fun x y => decide (y < x)) 339 314 (lz_ev tL_areObjects) L st M) ∧
  (∀ L st M, lz_ev tL_areObjects 314 L st M = lo_aload 0 315 (lz_ev tL_areObjects) L st M) ∧
  (∀ L st M, lz_ev tL_areObjects 315 L st M = lo_iload 2 316 (lz_ev tL_areObjects) L st M) ∧
  (∀ L st M, lz_ev tL_areObjects 316 L st M = lo_iload 5 318 (lz_ev tL_areObjects) L st M) ∧
  (∀ (L : zzLc) (a0 a1 : Int32) (r : List Value) (A : zzMd) (n : Nat), lz_ev tL_areObjects 318 L (.int a1 :: .int a0 :: .ref 0 :: r) (A, n) = bif zz_cat8 r && decide (n ≤ 1320) then lz_bv (lz_ev tL_areObjects) 321 L r n (lz_g fX11_managerOf [.ref 0, .int a0, .int a1] A) else none) ∧
  (∀ L st M, lz_ev tL_areObjects 321 L st M = lo_if (fun x => decide (x < 0)) 339 324 (lz_ev tL_areObjects) L st M) ∧
  (∀ L st M, lz_ev tL_areObjects 324 L st M = lo_aload 0 325 (lz_ev tL_areObjects) L st M) ∧
  (∀ L st M, lz_ev tL_areObjects 325 L st M = lo_iload 2 326 (lz_ev tL_areObjects) L st M) ∧
  (∀ L st M, lz_ev tL_areObjects 326 L st M = lo_iload 5 328 (lz_ev tL_areObjects) L st M) ∧
  (∀ (L : zzLc) (a0 a1 : Int32) (r : List Value) (A : zzMd) (n : Nat), lz_ev tL_areObjects 328 L (.int a1 :: .int a0 :: .ref 0 :: r) (A, n) = bif zz_cat8 r && decide (n ≤ 1320) then lz_bv (lz_ev tL_areObjects) 331 L r n (lz_g fX11_managerOf [.ref 0, .int a0, .int a1] A) else none) ∧
  (∀ L st M, lz_ev tL_areObjects 331 L st M = lo_pushI 5 332 (lz_ev tL_areObjects) L st M) ∧
  (∀ L st M, lz_ev tL_areObjects 332 L st M = lo_icmp (fun x y => decide (y < x)) 339 335 (lz_ev tL_areObjects) L st M) ∧
  (∀ L st M, lz_ev tL_areObjects 335 L st M = lo_pushI 1 336 (lz_ev tL_areObjects) L st M) ∧
  (∀ L st M, lz_ev tL_areObjects 336 L st M = lo_goto 371 (lz_ev tL_areObjects) L st M) ∧
  (∀ L st M, lz_ev tL_areObjects 339 L st M = lo_pushI 0 340 (lz_ev tL_areObjects) L st M) ∧
  (∀ L st M, lz_ev tL_areObjects 340 L st M = lo_goto 371 (lz_ev tL_areObjects) L st M) ∧
  (∀ L st M, lz_ev tL_areObjects 343 L st M = lo_iload 7 345 (lz_ev tL_areObjects) L st M) ∧
  (∀ L st M, lz_ev tL_areObjects 345 L st M = lo_pushI (-1272) 348 (lz_ev tL_areObjects) L st M) ∧
  (∀ L st M, lz_ev tL_areObjects 348 L st M = lo_icmp (fun x y => decide (¬ x = y)) 370 351 (lz_ev tL_areObjects) L st M) ∧
  (∀ L st M, lz_ev tL_areObjects 351 L st M = lo_aload 0 352 (lz_ev tL_areObjects) L st M) ∧
  (∀ L st M, lz_ev tL_areObjects 352 L st M = lo_pushI 2 353 (lz_ev tL_areObjects) L st M) ∧
  (∀ L st M, lz_ev tL_areObjects 353 L st M = lo_iload 2 354 (lz_ev tL_areObjects) L st M) ∧
  (∀ L st M, lz_ev tL_areObjects 354 L st M = lo_iload 5 356 (lz_ev tL_areObjects) L st M) ∧
  (∀ L st M, lz_ev tL_areObjects 356 L st M = lo_pushI 0 357 (lz_ev tL_areObjects) L st M) ∧
  (∀ (L : zzLc) (a1 a2 a3 a4 : Int32) (a0 : Nat) (r : List Value) (A : zzMd) (n : Nat), lz_ev tL_areObjects 357 L (.int a4 :: .int a3 :: .int a2 :: .int a1 :: .ref a0 :: r) (A, n) = bif zz_cat8 r && decide (n + 1 ≤ 1320) then lz_bs (lz_ev tL_areObjects) 360 L r (n + 1) (fL_of [.ref a0, .int a1, .int a2, .int a3, .int a4] A) else none) ∧
  (∀ L st M, lz_ev tL_areObjects 360 L st M = lo_pushI (-1272) 363 (lz_ev tL_areObjects) L st M) ∧
  (∀ L st M, lz_ev tL_areObjects 363 L st M = lo_icmp (fun x y => decide (¬ x = y)) 370 366 (lz_ev tL_areObjects) L st M) ∧
  (∀ L st M, lz_ev tL_areObjects 366 L st M = lo_pushI 1 367 (lz_ev tL_areObjects) L st M) ∧
  (∀ L st M, lz_ev tL_areObjects 367 L st M = lo_goto 371 (lz_ev tL_areObjects) L st M) ∧
  (∀ L st M, lz_ev tL_areObjects 370 L st M = lo_pushI 0 371 (lz_ev tL_areObjects) L st M) ∧
  (∀ L st M, lz_ev tL_areObjects 371 L st M = lo_istore 1 372 (lz_ev tL_areObjects) L st M) ∧
  (∀ L st M, lz_ev tL_areObjects 372 L st M = lo_iinc 5 1 375 (lz_ev tL_areObjects) L st M) ∧
  (∀ L st M, lz_ev tL_areObjects 375 L st M = lo_goto 103 (lz_ev tL_areObjects) L st M) ∧
  (∀ L st M, lz_ev tL_areObjects 378 L st M = lo_iload 1 379 (lz_ev tL_areObjects) L st M) ∧
  (∀ L st M, lz_ev tL_areObjects 379 L st M = lo_if (fun x => decide (x = 0)) 439 382 (lz_ev tL_areObjects) L st M) ∧
  (∀ L st M, lz_ev tL_areObjects 382 L st M = lo_iload 3 383 (lz_ev tL_areObjects) L st M) ∧
  (∀ L st M, lz_ev tL_areObjects 383 L st M = lo_if (fun x => decide (¬ x = 0)) 439 386 (lz_ev tL_areObjects) L st M) ∧
  (∀ L st M, lz_ev tL_areObjects 386 L st M = lo_aload 0 387 (lz_ev tL_areObjects) L st M) ∧
  (∀ L st M, lz_ev tL_areObjects 387 L st M = lo_iload 2 388 (lz_ev tL_areObjects) L st M) ∧
  (∀ (L : zzLc) (a0 : Int32) (r : List Value) (A : zzMd) (n : Nat), lz_ev tL_areObjects 388 L (.int a0 :: .ref 0 :: r) (A, n) = bif zz_cat8 r && decide (n ≤ 1320) then lz_bv (lz_ev tL_areObjects) 391 L r n (lz_g fX11_budget [.ref 0, .int a0] A) else none) ∧
  (∀ L st M, lz_ev tL_areObjects 391 L st M = lo_pushI 10 393 (lz_ev tL_areObjects) L st M) ∧
  (∀ L st M, lz_ev tL_areObjects 393 L st M = lo_aload 0 394 (lz_ev tL_areObjects) L st M) ∧
  (∀ L st M, lz_ev tL_areObjects 394 L st M = lo_iload 2 395 (lz_ev tL_areObjects) L st M) ∧
  (∀ L st M, lz_ev tL_areObjects 395 L st M = lo_pushI 2 396 (lz_ev tL_areObjects) L st M) ∧
  (∀ (L : zzLc) (a0 a1 : Int32) (r : List Value) (A : zzMd) (n : Nat), lz_ev tL_areObjects 396 L (.int a1 :: .int a0 :: .ref 0 :: r) (A, n) = bif zz_cat8 r && decide (n ≤ 1320) then lz_bv (lz_ev tL_areObjects) 399 L r n (lz_g fX11_field [.ref 0, .int a0, .int a1] A) else none) ∧
  (∀ L st M, lz_ev tL_areObjects 399 L st M = lo_ii (fun x y => x * y) 400 (lz_ev tL_areObjects) L st M) ∧
  (∀ L st M, lz_ev tL_areObjects 400 L st M = lo_aload 0 401 (lz_ev tL_areObjects) L st M) ∧
  (∀ L st M, lz_ev tL_areObjects 401 L st M = lo_iload 2 402 (lz_ev tL_areObjects) L st M) ∧
  (∀ L st M, lz_ev tL_areObjects 402 L st M = lo_pushI 3 403 (lz_ev tL_areObjects) L st M) ∧
  (∀ (L : zzLc) (a0 a1 : Int32) (r : List Value) (A : zzMd) (n : Nat), lz_ev tL_areObjects 403 L (.int a1 :: .int a0 :: .ref 0 :: r) (A, n) = bif zz_cat8 r && decide (n ≤ 1320) then lz_bv (lz_ev tL_areObjects) 406 L r n (lz_g fX11_field [.ref 0, .int a0, .int a1] A) else none) ∧
  (∀ L st M, lz_ev tL_areObjects 406 L st M = lo_ii (fun x y => x + y) 407 (lz_ev tL_areObjects) L st M) ∧
  (∀ L st M, lz_ev tL_areObjects 407 L st M = lo_icmp (fun x y => decide (¬ x = y)) 437 410 (lz_ev tL_areObjects) L st M) ∧
  (∀ L st M, lz_ev tL_areObjects 410 L st M = lo_aload 0 411 (lz_ev tL_areObjects) L st M) ∧
  (∀ L st M, lz_ev tL_areObjects 411 L st M = lo_iload 2 412 (lz_ev tL_areObjects) L st M) ∧
  (∀ (L : zzLc) (a0 : Int32) (r : List Value) (A : zzMd) (n : Nat), lz_ev tL_areObjects 412 L (.int a0 :: .ref 0 :: r) (A, n) = bif zz_cat8 r && decide (n ≤ 1320) then lz_bv (lz_ev tL_areObjects) 415 L r n (lz_g fX11_budget [.ref 0, .int a0] A) else none) ∧
  (∀ L st M, lz_ev tL_areObjects 415 L st M = lo_if (fun x => decide (x ≤ 0)) 437 418 (lz_ev tL_areObjects) L st M) ∧
  (∀ L st M, lz_ev tL_areObjects 418 L st M = lo_aload 0 419 (lz_ev tL_areObjects) L st M) ∧
  (∀ L st M, lz_ev tL_areObjects 419 L st M = lo_iload 2 420 (lz_ev tL_areObjects) L st M) ∧
  (∀ L st M, lz_ev tL_areObjects 420 L st M = lo_pushI 1 421 (lz_ev tL_areObjects) L st M) ∧
  (∀ (L : zzLc) (a0 a1 : Int32) (r : List Value) (A : zzMd) (n : Nat), lz_ev tL_areObjects 421 L (.int a1 :: .int a0 :: .ref 0 :: r) (A, n) = bif zz_cat8 r && decide (n ≤ 1320) then lz_bv (lz_ev tL_areObjects) 424 L r n (lz_g fX11_running [.ref 0, .int a0, .int a1] A) else none) ∧
  (∀ L st M, lz_ev tL_areObjects 424 L st M = lo_aload 0 425 (lz_ev tL_areObjects) L st M) ∧
  (∀ L st M, lz_ev tL_areObjects 425 L st M = lo_iload 2 426 (lz_ev tL_areObjects) L st M) ∧
  (∀ L st M, lz_ev tL_areObjects 426 L st M = lo_pushI 0 427 (lz_ev tL_areObjects) L st M) ∧
  (∀ (L : zzLc) (a0 a1 : Int32) (r : List Value) (A : zzMd) (n : Nat), lz_ev tL_areObjects 427 L (.int a1 :: .int a0 :: .ref 0 :: r) (A, n) = bif zz_cat8 r && decide (n ≤ 1320) then lz_bv (lz_ev tL_areObjects) 430 L r n (lz_g fX11_running [.ref 0, .int a0, .int a1] A) else none) ∧
  (∀ L st M, lz_ev tL_areObjects 430 L st M = lo_icmp (fun x y => decide (y < x)) 437 433 (lz_ev tL_areObjects) L st M) ∧
  (∀ L st M, lz_ev tL_areObjects 433 L st M = lo_pushI 1 434 (lz_ev tL_areObjects) L st M) ∧
  (∀ L st M, lz_ev tL_areObjects 434 L st M = lo_goto 438 (lz_ev tL_areObjects) L st M) ∧
  (∀ L st M, lz_ev tL_areObjects 437 L st M = lo_pushI 0 438 (lz_ev tL_areObjects) L st M) ∧
  (∀ L st M, lz_ev tL_areObjects 438 L st M = lo_istore 1 439 (lz_ev tL_areObjects) L st M) ∧
  (∀ L st M, lz_ev tL_areObjects 439 L st M = lo_iload 1 440 (lz_ev tL_areObjects) L st M) ∧
  (∀ L st M, lz_ev tL_areObjects 440 L st M = lo_if (fun x => decide (x = 0)) 512 443 (lz_ev tL_areObjects) L st M) ∧
  (∀ L st M, lz_ev tL_areObjects 443 L st M = lo_iload 3 444 (lz_ev tL_areObjects) L st M) ∧
  (∀ L st M, lz_ev tL_areObjects 444 L st M = lo_pushI 2 445 (lz_ev tL_areObjects) L st M) ∧
  (∀ L st M, lz_ev tL_areObjects 445 L st M = lo_icmp (fun x y => decide (¬ x = y)) 512 448 (lz_ev tL_areObjects) L st M) ∧
  (∀ L st M, lz_ev tL_areObjects 448 L st M = lo_aload 0 449 (lz_ev tL_areObjects) L st M) ∧
  (∀ L st M, lz_ev tL_areObjects 449 L st M = lo_iload 2 450 (lz_ev tL_areObjects) L st M) ∧
  (∀ (L : zzLc) (a0 : Int32) (r : List Value) (A : zzMd) (n : Nat), lz_ev tL_areObjects 450 L (.int a0 :: .ref 0 :: r) (A, n) = bif zz_cat8 r && decide (n ≤ 1320) then lz_bv (lz_ev tL_areObjects) 453 L r n (lz_g fX11_placeOf [.ref 0, .int a0] A) else none) ∧
  (∀ L st M, lz_ev tL_areObjects 453 L st M = lo_istore 5 455 (lz_ev tL_areObjects) L st M) ∧
  (∀ L st M, lz_ev tL_areObjects 455 L st M = lo_iload 5 457 (lz_ev tL_areObjects) L st M) ∧
  (∀ L st M, lz_ev tL_areObjects 457 L st M = lo_pushI (-1) 458 (lz_ev tL_areObjects) L st M) ∧
  (∀ L st M, lz_ev tL_areObjects 458 L st M = lo_icmp (fun x y => decide (x < y)) 510 461 (lz_ev tL_areObjects) L st M) ∧
  (∀ L st M, lz_ev tL_areObjects 461 L st M = lo_iload 5 463 (lz_ev tL_areObjects) L st M) ∧
  (∀ L st M, lz_ev tL_areObjects 463 L st M = lo_if (fun x => decide (x < 0)) 485 466 (lz_ev tL_areObjects) L st M) ∧
  (∀ L st M, lz_ev tL_areObjects 466 L st M = lo_aload 0 467 (lz_ev tL_areObjects) L st M) ∧
  (∀ L st M, lz_ev tL_areObjects 467 L st M = lo_iload 5 469 (lz_ev tL_areObjects) L st M) ∧
  (∀ (L : zzLc) (a0 : Int32) (r : List Value) (A : zzMd) (n : Nat), lz_ev tL_areObjects 469 L (.int a0 :: .ref 0 :: r) (A, n) = bif zz_cat8 r && decide (n ≤ 1320) then lz_bv (lz_ev tL_areObjects) 472 L r n (lz_g fX11_kindOf [.ref 0, .int a0] A) else none) ∧
  (∀ L st M, lz_ev tL_areObjects 472 L st M = lo_pushI 4 473 (lz_ev tL_areObjects) L st M) ∧
  (∀ L st M, lz_ev tL_areObjects 473 L st M = lo_icmp (fun x y => decide (¬ x = y)) 510 476 (lz_ev tL_areObjects) L st M) ∧
  (∀ L st M, lz_ev tL_areObjects 476 L st M = lo_aload 0 477 (lz_ev tL_areObjects) L st M) ∧
  (∀ L st M, lz_ev tL_areObjects 477 L st M = lo_iload 2 478 (lz_ev tL_areObjects) L st M) ∧
  (∀ (L : zzLc) (a0 : Int32) (r : List Value) (A : zzMd) (n : Nat), lz_ev tL_areObjects 478 L (.int a0 :: .ref 0 :: r) (A, n) = bif zz_cat8 r && decide (n ≤ 1320) then lz_bv (lz_ev tL_areObjects) 481 L r n (lz_g fX11_goingOf [.ref 0, .int a0] A) else none) ∧
  (∀ L st M, lz_ev tL_areObjects 481 L st M = lo_pushI 4 482 (lz_ev tL_areObjects) L st M) ∧
  (∀ L st M, lz_ev tL_areObjects 482 L st M = lo_icmp (fun x y => decide (y ≤ x)) 510 485 (lz_ev tL_areObjects) L st M) ∧
  (∀ L st M, lz_ev tL_areObjects 485 L st M = lo_aload 0 486 (lz_ev tL_areObjects) L st M) ∧
  (∀ L st M, lz_ev tL_areObjects 486 L st M = lo_iload 2 487 (lz_ev tL_areObjects) L st M) ∧
  (∀ (L : zzLc) (a0 : Int32) (r : List Value) (A : zzMd) (n : Nat), lz_ev tL_areObjects 487 L (.int a0 :: .ref 0 :: r) (A, n) = bif zz_cat8 r && decide (n ≤ 1320) then lz_bv (lz_ev tL_areObjects) 490 L r n (lz_g fX11_phaseOf [.ref 0, .int a0] A) else none) ∧
  (∀ L st M, lz_ev tL_areObjects 490 L st M = lo_if (fun x => decide (x = 0)) 506 493 (lz_ev tL_areObjects) L st M) ∧
  (∀ L st M, lz_ev tL_areObjects 493 L st M = lo_iload 5 495 (lz_ev tL_areObjects) L st M) ∧
  (∀ L st M, lz_ev tL_areObjects 495 L st M = lo_if (fun x => decide (0 ≤ x)) 506 498 (lz_ev tL_areObjects) L st M) ∧
  (∀ L st M, lz_ev tL_areObjects 498 L st M = lo_aload 0 499 (lz_ev tL_areObjects) L st M) ∧
  (∀ L st M, lz_ev tL_areObjects 499 L st M = lo_iload 2 500 (lz_ev tL_areObjects) L st M) ∧
  (∀ (L : zzLc) (a0 : Int32) (r : List Value) (A : zzMd) (n : Nat), lz_ev tL_areObjects 500 L (.int a0 :: .ref 0 :: r) (A, n) = bif zz_cat8 r && decide (n ≤ 1320) then lz_bv (lz_ev tL_areObjects) 503 L r n (lz_g fX11_goingOf [.ref 0, .int a0] A) else none) ∧
  (∀ L st M, lz_ev tL_areObjects 503 L st M = lo_if (fun x => decide (x ≤ 0)) 510 506 (lz_ev tL_areObjects) L st M) ∧
  (∀ L st M, lz_ev tL_areObjects 506 L st M = lo_pushI 1 507 (lz_ev tL_areObjects) L st M) ∧
  (∀ L st M, lz_ev tL_areObjects 507 L st M = lo_goto 511 (lz_ev tL_areObjects) L st M) ∧
  (∀ L st M, lz_ev tL_areObjects 510 L st M = lo_pushI 0 511 (lz_ev tL_areObjects) L st M) ∧
  (∀ L st M, lz_ev tL_areObjects 511 L st M = lo_istore 1 512 (lz_ev tL_areObjects) L st M) ∧
  (∀ L st M, lz_ev tL_areObjects 512 L st M = lo_iinc 2 1 515 (lz_ev tL_areObjects) L st M) ∧
  (∀ L st M, lz_ev tL_areObjects 515 L st M = lo_goto 4 (lz_ev tL_areObjects) L st M) ∧
  (∀ L st M, lz_ev tL_areObjects 518 L st M = lo_iload 1 519 (lz_ev tL_areObjects) L st M) ∧
  (∀ L st M, lz_ev tL_areObjects 519 L st M = lo_iret 1320 true (lz_ev tL_areObjects) L st M) :=
  ⟨lz_1 rfl tl_L_areObjects, lz_1 rfl tl_L_areObjects, lz_1 rfl tl_L_areObjects, lz_1 rfl tl_L_areObjects, lz_1 rfl tl_L_areObjects, lz_1 rfl tl_L_areObjects, lz_1 rfl tl_L_areObjects, lz_1 rfl tl_L_areObjects, lz_1 rfl tl_L_areObjects, lz_1 rfl tl_L_areObjects, lz_1 rfl tl_L_areObjects, fun L a0 a1 r A n => (lz_1 rfl tl_L_areObjects _ _ _).trans rfl, lz_1 rfl tl_L_areObjects, lz_1 rfl tl_L_areObjects, lz_1 rfl tl_L_areObjects, lz_1 rfl tl_L_areObjects, fun L a0 a1 r A n => (lz_1 rfl tl_L_areObjects _ _ _).trans rfl, lz_1 rfl tl_L_areObjects, lz_1 rfl tl_L_areObjects, lz_1 rfl tl_L_areObjects, lz_1 rfl tl_L_areObjects, lz_1 rfl tl_L_areObjects, lz_1 rfl tl_L_areObjects, lz_1 rfl tl_L_areObjects, lz_1 rfl tl_L_areObjects, lz_1 rfl tl_L_areObjects, lz_1 rfl tl_L_areObjects, lz_1 rfl tl_L_areObjects, lz_1 rfl tl_L_areObjects, lz_1 rfl tl_L_areObjects, lz_1 rfl tl_L_areObjects, fun L a1 a2 a3 a4 a0 r A n => (lz_1 rfl tl_L_areObjects _ _ _).trans rfl, lz_1 rfl tl_L_areObjects, lz_1 rfl tl_L_areObjects, lz_1 rfl tl_L_areObjects, lz_1 rfl tl_L_areObjects, lz_1 rfl tl_L_areObjects, lz_1 rfl tl_L_areObjects, lz_1 rfl tl_L_areObjects, lz_1 rfl tl_L_areObjects, lz_1 rfl tl_L_areObjects, lz_1 rfl tl_L_areObjects, lz_1 rfl tl_L_areObjects, lz_1 rfl tl_L_areObjects, lz_1 rfl tl_L_areObjects, lz_1 rfl tl_L_areObjects, fun L a0 r A n => (lz_1 rfl tl_L_areObjects _ _ _).trans rfl, lz_1 rfl tl_L_areObjects, lz_1 rfl tl_L_areObjects, lz_1 rfl tl_L_areObjects, lz_1 rfl tl_L_areObjects, fun L a0 a1 r A n => (lz_1 rfl tl_L_areObjects _ _ _).trans rfl, lz_1 rfl tl_L_areObjects, lz_1 rfl tl_L_areObjects, lz_1 rfl tl_L_areObjects, lz_1 rfl tl_L_areObjects, fun L a0 a1 r A n => (lz_1 rfl tl_L_areObjects _ _ _).trans rfl, lz_1 rfl tl_L_areObjects, lz_1 rfl tl_L_areObjects, lz_1 rfl tl_L_areObjects, lz_1 rfl tl_L_areObjects, fun L a0 r A n => (lz_1 rfl tl_L_areObjects _ _ _).trans rfl, lz_1 rfl tl_L_areObjects, lz_1 rfl tl_L_areObjects, lz_1 rfl tl_L_areObjects, lz_1 rfl tl_L_areObjects, fun L a0 a1 r A n => (lz_1 rfl tl_L_areObjects _ _ _).trans rfl, lz_1 rfl tl_L_areObjects, lz_1 rfl tl_L_areObjects, lz_1 rfl tl_L_areObjects, fun L a0 a1 r A n => (lz_1 rfl tl_L_areObjects _ _ _).trans rfl, lz_1 rfl tl_L_areObjects, lz_1 rfl tl_L_areObjects, lz_1 rfl tl_L_areObjects, lz_1 rfl tl_L_areObjects, lz_1 rfl tl_L_areObjects, lz_1 rfl tl_L_areObjects, lz_1 rfl tl_L_areObjects, lz_1 rfl tl_L_areObjects, lz_1 rfl tl_L_areObjects, lz_1 rfl tl_L_areObjects, lz_1 rfl tl_L_areObjects, lz_1 rfl tl_L_areObjects, fun L a0 r A n => (lz_1 rfl tl_L_areObjects _ _ _).trans rfl, lz_1 rfl tl_L_areObjects, lz_1 rfl tl_L_areObjects, lz_1 rfl tl_L_areObjects, lz_1 rfl tl_L_areObjects, lz_1 rfl tl_L_areObjects, lz_1 rfl tl_L_areObjects, lz_1 rfl tl_L_areObjects, lz_1 rfl tl_L_areObjects, fun L a0 r A n => (lz_1 rfl tl_L_areObjects _ _ _).trans rfl, lz_1 rfl tl_L_areObjects, lz_1 rfl tl_L_areObjects, lz_1 rfl tl_L_areObjects, lz_1 rfl tl_L_areObjects, fun L a0 r A n => (lz_1 rfl tl_L_areObjects _ _ _).trans rfl, lz_1 rfl tl_L_areObjects, lz_1 rfl tl_L_areObjects, lz_1 rfl tl_L_areObjects, lz_1 rfl tl_L_areObjects, fun L a0 r A n => (lz_1 rfl tl_L_areObjects _ _ _).trans rfl, lz_1 rfl tl_L_areObjects, lz_1 rfl tl_L_areObjects, lz_1 rfl tl_L_areObjects, lz_1 rfl tl_L_areObjects, lz_1 rfl tl_L_areObjects, fun L a0 r A n => (lz_1 rfl tl_L_areObjects _ _ _).trans rfl, lz_1 rfl tl_L_areObjects, lz_1 rfl tl_L_areObjects, lz_1 rfl tl_L_areObjects, lz_1 rfl tl_L_areObjects, lz_1 rfl tl_L_areObjects, lz_1 rfl tl_L_areObjects, lz_1 rfl tl_L_areObjects, lz_1 rfl tl_L_areObjects, lz_1 rfl tl_L_areObjects⟩
set_option maxRecDepth 100000 in
theorem e_L_areObjects_4 : (∀ L st M, lz_ev tL_areObjects 4 L st M = lo_iload 2 5 (lz_ev tL_areObjects) L st M) := lz_1 rfl tl_L_areObjects
set_option maxRecDepth 100000 in
theorem e_L_areObjects_103 : (∀ L st M, lz_ev tL_areObjects 103 L st M = lo_iload 5 105 (lz_ev tL_areObjects) L st M) := lz_1 rfl tl_L_areObjects
theorem s_L_areObjects (a0 : Nat) {A A' : zzMd} {v : Option Value} {n : Nat} (h : lz_ev tL_areObjects 0 [some (.ref a0), none, none, none, none, none, none, none, none] [] (A, 0) = some (v, (A', n))) : fL_areObjects [.ref a0] A = some (v, A') := lz_fn_of (T := tL_areObjects) (nL := 9) (Nat.le_of_ble_eq_true rfl) h
set_option maxRecDepth 100000 in
theorem e_L_isAtRest_p0 : (∀ L st M, lz_ev tL_isAtRest 0 L st M = lo_pushI 1 1 (lz_ev tL_isAtRest) L st M) ∧
  (∀ L st M, lz_ev tL_isAtRest 1 L st M = lo_istore 1 2 (lz_ev tL_isAtRest) L st M) ∧
  (∀ L st M, lz_ev tL_isAtRest 2 L st M = lo_pushI 0 3 (lz_ev tL_isAtRest) L st M) ∧
  (∀ L st M, lz_ev tL_isAtRest 3 L st M = lo_istore 2 4 (lz_ev tL_isAtRest) L st M) ∧
  (∀ L st M, lz_ev tL_isAtRest 5 L st M = lo_aload 0 6 (lz_ev tL_isAtRest) L st M) ∧
  (∀ (L : zzLc) (r : List Value) (A : zzMd) (n : Nat), lz_ev tL_isAtRest 6 L (.ref 0 :: r) (A, n) = bif zz_cat8 r && decide (n ≤ 84) then lz_bv (lz_ev tL_isAtRest) 9 L r n (lz_g fX11_objects [.ref 0] A) else none) ∧
  (∀ L st M, lz_ev tL_isAtRest 9 L st M = lo_icmp (fun x y => decide (y ≤ x)) 61 12 (lz_ev tL_isAtRest) L st M) ∧
  (∀ L st M, lz_ev tL_isAtRest 12 L st M = lo_iload 1 13 (lz_ev tL_isAtRest) L st M) ∧
  (∀ L st M, lz_ev tL_isAtRest 13 L st M = lo_if (fun x => decide (x = 0)) 61 16 (lz_ev tL_isAtRest) L st M) ∧
  (∀ L st M, lz_ev tL_isAtRest 16 L st M = lo_aload 0 17 (lz_ev tL_isAtRest) L st M) ∧
  (∀ L st M, lz_ev tL_isAtRest 17 L st M = lo_iload 2 18 (lz_ev tL_isAtRest) L st M) ∧
  (∀ (L : zzLc) (a0 : Int32) (r : List Value) (A : zzMd) (n : Nat), lz_ev tL_isAtRest 18 L (.int a0 :: .ref 0 :: r) (A, n) = bif zz_cat8 r && decide (n ≤ 84) then lz_bv (lz_ev tL_isAtRest) 21 L r n (lz_g fX11_kindOf [.ref 0, .int a0] A) else none) ∧
  (∀ L st M, lz_ev tL_isAtRest 21 L st M = lo_pushI 4 22 (lz_ev tL_isAtRest) L st M) ∧
  (∀ L st M, lz_ev tL_isAtRest 22 L st M = lo_icmp (fun x y => decide (¬ x = y)) 49 25 (lz_ev tL_isAtRest) L st M) ∧
  (∀ L st M, lz_ev tL_isAtRest 25 L st M = lo_aload 0 26 (lz_ev tL_isAtRest) L st M) ∧
  (∀ L st M, lz_ev tL_isAtRest 26 L st M = lo_iload 2 27 (lz_ev tL_isAtRest) L st M) ∧
  (∀ (L : zzLc) (a0 : Int32) (r : List Value) (A : zzMd) (n : Nat), lz_ev tL_isAtRest 27 L (.int a0 :: .ref 0 :: r) (A, n) = bif zz_cat8 r && decide (n ≤ 84) then lz_bv (lz_ev tL_isAtRest) 30 L r n (lz_g fX11_goingOf [.ref 0, .int a0] A) else none) ∧
  (∀ L st M, lz_ev tL_isAtRest 30 L st M = lo_pushI 4 31 (lz_ev tL_isAtRest) L st M) ∧
  (∀ L st M, lz_ev tL_isAtRest 31 L st M = lo_icmp (fun x y => decide (x = y)) 49 34 (lz_ev tL_isAtRest) L st M) ∧
  (∀ L st M, lz_ev tL_isAtRest 34 L st M = lo_aload 0 35 (lz_ev tL_isAtRest) L st M) ∧
  (∀ L st M, lz_ev tL_isAtRest 35 L st M = lo_pushI 16 37 (lz_ev tL_isAtRest) L st M) ∧
  (∀ L st M, lz_ev tL_isAtRest 37 L st M = lo_iload 2 38 (lz_ev tL_isAtRest) L st M) ∧
  (∀ L st M, lz_ev tL_isAtRest 38 L st M = lo_pushI 0 39 (lz_ev tL_isAtRest) L st M) ∧
  (∀ L st M, lz_ev tL_isAtRest 39 L st M = lo_pushI 0 40 (lz_ev tL_isAtRest) L st M) ∧
  (∀ L st M, lz_ev tL_isAtRest 40 L st M = lo_pushI 0 41 (lz_ev tL_isAtRest) L st M) ∧
  (∀ L st M, lz_ev tL_isAtRest 41 L st M = lo_pushI 0 42 (lz_ev tL_isAtRest) L st M) ∧
  (∀ L st M, lz_ev tL_isAtRest 42 L st M = lo_pushI 0 43 (lz_ev tL_isAtRest) L st M) ∧
  (∀ (L : zzLc) (a1 a2 a3 a4 a5 a6 a7 : Int32) (a0 : Nat) (r : List Value) (A : zzMd) (n : Nat), lz_ev tL_isAtRest 43 L (.int a7 :: .int a6 :: .int a5 :: .int a4 :: .int a3 :: .int a2 :: .int a1 :: .ref a0 :: r) (A, n) = bif zz_cat8 r && decide (n + 1 ≤ 84) then lz_bs (lz_ev tL_isAtRest) 46 L r (n + 1) (fL_act [.ref a0, .int a1, .int a2, .int a3, .int a4, .int a5, .int a6, .int a7] A) else none) ∧
  (∀ L st M, lz_ev tL_isAtRest 46 L st M = lo_if (fun x => decide (x < 0)) 53 49 (lz_ev tL_isAtRest) L st M) ∧
  (∀ L st M, lz_ev tL_isAtRest 49 L st M = lo_pushI 1 50 (lz_ev tL_isAtRest) L st M) ∧
  (∀ L st M, lz_ev tL_isAtRest 50 L st M = lo_goto 54 (lz_ev tL_isAtRest) L st M) ∧
  (∀ L st M, lz_ev tL_isAtRest 53 L st M = lo_pushI 0 54 (lz_ev tL_isAtRest) L st M) ∧
  (∀ L st M, lz_ev tL_isAtRest 54 L st M = lo_istore 1 55 (lz_ev tL_isAtRest) L st M) ∧
  (∀ L st M, lz_ev tL_isAtRest 55 L st M = lo_iinc 2 1 58 (lz_ev tL_isAtRest) L st M) ∧
  (∀ L st M, lz_ev tL_isAtRest 58 L st M = lo_goto 4 (lz_ev tL_isAtRest) L st M) ∧
  (∀ L st M, lz_ev tL_isAtRest 61 L st M = lo_pushI (-1) 62 (lz_ev tL_isAtRest) L st M) ∧
  (∀ L st M, lz_ev tL_isAtRest 62 L st M = lo_istore 2 63 (lz_ev tL_isAtRest) L st M) ∧
  (∀ L st M, lz_ev tL_isAtRest 63 L st M = lo_pushI 0 64 (lz_ev tL_isAtRest) L st M) ∧
  (∀ L st M, lz_ev tL_isAtRest 64 L st M = lo_istore 3 65 (lz_ev tL_isAtRest) L st M) ∧
  (∀ L st M, lz_ev tL_isAtRest 66 L st M = lo_pushI 12 68 (lz_ev tL_isAtRest) L st M) ∧
  (∀ L st M, lz_ev tL_isAtRest 68 L st M = lo_icmp (fun x y => decide (y ≤ x)) 146 71 (lz_ev tL_isAtRest) L st M) ∧
  (∀ L st M, lz_ev tL_isAtRest 71 L st M = lo_iload 1 72 (lz_ev tL_isAtRest) L st M) ∧
  (∀ L st M, lz_ev tL_isAtRest 72 L st M = lo_if (fun x => decide (x = 0)) 146 75 (lz_ev tL_isAtRest) L st M) ∧
  (∀ L st M, lz_ev tL_isAtRest 75 L st M = lo_iload 2 76 (lz_ev tL_isAtRest) L st M) ∧
  (∀ L st M, lz_ev tL_isAtRest 76 L st M = lo_aload 0 77 (lz_ev tL_isAtRest) L st M) ∧
  (∀ (L : zzLc) (r : List Value) (A : zzMd) (n : Nat), lz_ev tL_isAtRest 77 L (.ref 0 :: r) (A, n) = bif zz_cat8 r && decide (n ≤ 84) then lz_bv (lz_ev tL_isAtRest) 80 L r n (lz_g fX11_version [.ref 0] A) else none) ∧
  (∀ L st M, lz_ev tL_isAtRest 80 L st M = lo_icmp (fun x y => decide (x = y)) 146 83 (lz_ev tL_isAtRest) L st M) ∧
  (∀ L st M, lz_ev tL_isAtRest 83 L st M = lo_aload 0 84 (lz_ev tL_isAtRest) L st M) ∧
  (∀ (L : zzLc) (r : List Value) (A : zzMd) (n : Nat), lz_ev tL_isAtRest 84 L (.ref 0 :: r) (A, n) = bif zz_cat8 r && decide (n ≤ 84) then lz_bv (lz_ev tL_isAtRest) 87 L r n (lz_g fX11_version [.ref 0] A) else none) ∧
  (∀ L st M, lz_ev tL_isAtRest 87 L st M = lo_pushI 330 90 (lz_ev tL_isAtRest) L st M) ∧
  (∀ L st M, lz_ev tL_isAtRest 90 L st M = lo_icmp (fun x y => decide (y ≤ x)) 146 93 (lz_ev tL_isAtRest) L st M) ∧
  (∀ L st M, lz_ev tL_isAtRest 93 L st M = lo_aload 0 94 (lz_ev tL_isAtRest) L st M) ∧
  (∀ (L : zzLc) (r : List Value) (A : zzMd) (n : Nat), lz_ev tL_isAtRest 94 L (.ref 0 :: r) (A, n) = bif zz_cat8 r && decide (n ≤ 84) then lz_bv (lz_ev tL_isAtRest) 97 L r n (lz_g fX11_version [.ref 0] A) else none) ∧
  (∀ L st M, lz_ev tL_isAtRest 97 L st M = lo_istore 2 98 (lz_ev tL_isAtRest) L st M) ∧
  (∀ L st M, lz_ev tL_isAtRest 98 L st M = lo_aload 0 99 (lz_ev tL_isAtRest) L st M) ∧
  (∀ L st M, lz_ev tL_isAtRest 99 L st M = lo_pushI 11 101 (lz_ev tL_isAtRest) L st M) ∧
  (∀ L st M, lz_ev tL_isAtRest 101 L st M = lo_pushI 2 102 (lz_ev tL_isAtRest) L st M) ∧
  (∀ L st M, lz_ev tL_isAtRest 102 L st M = lo_pushI 0 103 (lz_ev tL_isAtRest) L st M) ∧
  (∀ L st M, lz_ev tL_isAtRest 103 L st M = lo_pushI 0 104 (lz_ev tL_isAtRest) L st M) ∧
  (∀ L st M, lz_ev tL_isAtRest 104 L st M = lo_pushI 0 105 (lz_ev tL_isAtRest) L st M) ∧
  (∀ L st M, lz_ev tL_isAtRest 105 L st M = lo_pushI 0 106 (lz_ev tL_isAtRest) L st M) ∧
  (∀ L st M, lz_ev tL_isAtRest 106 L st M = lo_pushI 0 107 (lz_ev tL_isAtRest) L st M) ∧
  (∀ (L : zzLc) (a1 a2 a3 a4 a5 a6 a7 : Int32) (a0 : Nat) (r : List Value) (A : zzMd) (n : Nat), lz_ev tL_isAtRest 107 L (.int a7 :: .int a6 :: .int a5 :: .int a4 :: .int a3 :: .int a2 :: .int a1 :: .ref a0 :: r) (A, n) = bif zz_cat8 r && decide (n + 1 ≤ 84) then lz_bs (lz_ev tL_isAtRest) 110 L r (n + 1) (fL_act [.ref a0, .int a1, .int a2, .int a3, .int a4, .int a5, .int a6, .int a7] A) else none) ∧
  (∀ L st M, lz_ev tL_isAtRest 110 L st M = lo_aload 0 111 (lz_ev tL_isAtRest) L st M) ∧
  (∀ (L : zzLc) (r : List Value) (A : zzMd) (n : Nat), lz_ev tL_isAtRest 111 L (.ref 0 :: r) (A, n) = bif zz_cat8 r && decide (n ≤ 84) then lz_bv (lz_ev tL_isAtRest) 114 L r n (lz_g fX11_version [.ref 0] A) else none) ∧
  (∀ L st M, lz_ev tL_isAtRest 114 L st M = lo_iload 2 115 (lz_ev tL_isAtRest) L st M) ∧
  (∀ L st M, lz_ev tL_isAtRest 115 L st M = lo_ii (fun x y => x - y) 116 (lz_ev tL_isAtRest) L st M) ∧
  (∀ L st M, lz_ev tL_isAtRest 116 L st M = lo_icmp (fun x y => decide (¬ x = y)) 138 119 (lz_ev tL_isAtRest) L st M) ∧
  (∀ L st M, lz_ev tL_isAtRest 119 L st M = lo_aload 0 120 (lz_ev tL_isAtRest) L st M) ∧
  (∀ L st M, lz_ev tL_isAtRest 120 L st M = lo_pushI 15 122 (lz_ev tL_isAtRest) L st M) ∧
  (∀ L st M, lz_ev tL_isAtRest 122 L st M = lo_pushI 1 123 (lz_ev tL_isAtRest) L st M) ∧
  (∀ L st M, lz_ev tL_isAtRest 123 L st M = lo_pushI 0 124 (lz_ev tL_isAtRest) L st M) ∧
  (∀ L st M, lz_ev tL_isAtRest 124 L st M = lo_pushI 0 125 (lz_ev tL_isAtRest) L st M) ∧
  (∀ L st M, lz_ev tL_isAtRest 125 L st M = lo_pushI 0 126 (lz_ev tL_isAtRest) L st M) ∧
  (∀ L st M, lz_ev tL_isAtRest 126 L st M = lo_pushI 0 127 (lz_ev tL_isAtRest) L st M) ∧
  (∀ L st M, lz_ev tL_isAtRest 127 L st M = lo_pushI 0 128 (lz_ev tL_isAtRest) L st M) ∧
  (∀ (L : zzLc) (a1 a2 a3 a4 a5 a6 a7 : Int32) (a0 : Nat) (r : List Value) (A : zzMd) (n : Nat), lz_ev tL_isAtRest 128 L (.int a7 :: .int a6 :: .int a5 :: .int a4 :: .int a3 :: .int a2 :: .int a1 :: .ref a0 :: r) (A, n) = bif zz_cat8 r && decide (n + 1 ≤ 84) then lz_bs (lz_ev tL_isAtRest) 131 L r (n + 1) (fL_act [.ref a0, .int a1, .int a2, .int a3, .int a4, .int a5, .int a6, .int a7] A) else none) ∧
  (∀ L st M, lz_ev tL_isAtRest 131 L st M = lo_if (fun x => decide (x ≤ 0)) 138 134 (lz_ev tL_isAtRest) L st M) ∧
  (∀ L st M, lz_ev tL_isAtRest 134 L st M = lo_pushI 1 135 (lz_ev tL_isAtRest) L st M) ∧
  (∀ L st M, lz_ev tL_isAtRest 135 L st M = lo_goto 139 (lz_ev tL_isAtRest) L st M) ∧
  (∀ L st M, lz_ev tL_isAtRest 138 L st M = lo_pushI 0 139 (lz_ev tL_isAtRest) L st M) ∧
  (∀ L st M, lz_ev tL_isAtRest 139 L st M = lo_istore 1 140 (lz_ev tL_isAtRest) L st M) ∧
  (∀ L st M, lz_ev tL_isAtRest 140 L st M = lo_iinc 3 1 143 (lz_ev tL_isAtRest) L st M) ∧
  (∀ L st M, lz_ev tL_isAtRest 143 L st M = lo_goto 65 (lz_ev tL_isAtRest) L st M) ∧
  (∀ L st M, lz_ev tL_isAtRest 146 L st M = lo_iload 1 147 (lz_ev tL_isAtRest) L st M) ∧
  (∀ L st M, lz_ev tL_isAtRest 147 L st M = lo_if (fun x => decide (x = 0)) 165 150 (lz_ev tL_isAtRest) L st M) ∧
  (∀ L st M, lz_ev tL_isAtRest 150 L st M = lo_iload 2 151 (lz_ev tL_isAtRest) L st M) ∧
  (∀ L st M, lz_ev tL_isAtRest 151 L st M = lo_aload 0 152 (lz_ev tL_isAtRest) L st M) ∧
  (∀ (L : zzLc) (r : List Value) (A : zzMd) (n : Nat), lz_ev tL_isAtRest 152 L (.ref 0 :: r) (A, n) = bif zz_cat8 r && decide (n ≤ 84) then lz_bv (lz_ev tL_isAtRest) 155 L r n (lz_g fX11_version [.ref 0] A) else none) ∧
  (∀ L st M, lz_ev tL_isAtRest 155 L st M = lo_icmp (fun x y => decide (¬ x = y)) 165 158 (lz_ev tL_isAtRest) L st M) ∧
  (∀ L st M, lz_ev tL_isAtRest 158 L st M = lo_aload 0 159 (lz_ev tL_isAtRest) L st M) ∧
  (∀ (L : zzLc) (r : List Value) (A : zzMd) (n : Nat), lz_ev tL_isAtRest 159 L (.ref 0 :: r) (A, n) = bif zz_cat8 r && decide (n ≤ 84) then lz_bv (lz_ev tL_isAtRest) 162 L r n (lz_g fX11_isSettled [.ref 0] A) else none) ∧
  (∀ L st M, lz_ev tL_isAtRest 162 L st M = lo_if (fun x => decide (¬ x = 0)) 167 165 (lz_ev tL_isAtRest) L st M) ∧
  (∀ L st M, lz_ev tL_isAtRest 165 L st M = lo_iload 1 166 (lz_ev tL_isAtRest) L st M) ∧
  (∀ L st M, lz_ev tL_isAtRest 166 L st M = lo_iret 84 true (lz_ev tL_isAtRest) L st M) ∧
  (∀ L st M, lz_ev tL_isAtRest 167 L st M = lo_pushI 0 168 (lz_ev tL_isAtRest) L st M) ∧
  (∀ L st M, lz_ev tL_isAtRest 168 L st M = lo_istore 3 169 (lz_ev tL_isAtRest) L st M) ∧
  (∀ L st M, lz_ev tL_isAtRest 170 L st M = lo_aload 0 171 (lz_ev tL_isAtRest) L st M) ∧
  (∀ (L : zzLc) (r : List Value) (A : zzMd) (n : Nat), lz_ev tL_isAtRest 171 L (.ref 0 :: r) (A, n) = bif zz_cat8 r && decide (n ≤ 84) then lz_bv (lz_ev tL_isAtRest) 174 L r n (lz_g fX11_objects [.ref 0] A) else none) ∧
  (∀ L st M, lz_ev tL_isAtRest 174 L st M = lo_icmp (fun x y => decide (y ≤ x)) 521 177 (lz_ev tL_isAtRest) L st M) ∧
  (∀ L st M, lz_ev tL_isAtRest 177 L st M = lo_iload 1 178 (lz_ev tL_isAtRest) L st M) ∧
  (∀ L st M, lz_ev tL_isAtRest 178 L st M = lo_if (fun x => decide (x = 0)) 521 181 (lz_ev tL_isAtRest) L st M) ∧
  (∀ L st M, lz_ev tL_isAtRest 181 L st M = lo_aload 0 182 (lz_ev tL_isAtRest) L st M) ∧
  (∀ L st M, lz_ev tL_isAtRest 182 L st M = lo_iload 3 183 (lz_ev tL_isAtRest) L st M) ∧
  (∀ (L : zzLc) (a0 : Int32) (r : List Value) (A : zzMd) (n : Nat), lz_ev tL_isAtRest 183 L (.int a0 :: .ref 0 :: r) (A, n) = bif zz_cat8 r && decide (n ≤ 84) then lz_bv (lz_ev tL_isAtRest) 186 L r n (lz_g fX11_kindOf [.ref 0, .int a0] A) else none) ∧
  (∀ L st M, lz_ev tL_isAtRest 186 L st M = lo_istore 4 188 (lz_ev tL_isAtRest) L st M) ∧
  (∀ L st M, lz_ev tL_isAtRest 188 L st M = lo_pushI 0 189 (lz_ev tL_isAtRest) L st M) ∧
  (∀ L st M, lz_ev tL_isAtRest 189 L st M = lo_istore 5 191 (lz_ev tL_isAtRest) L st M) ∧
  (∀ L st M, lz_ev tL_isAtRest 191 L st M = lo_pushI 0 192 (lz_ev tL_isAtRest) L st M) ∧
  (∀ L st M, lz_ev tL_isAtRest 192 L st M = lo_istore 6 194 (lz_ev tL_isAtRest) L st M) ∧
  (∀ L st M, lz_ev tL_isAtRest 194 L st M = lo_pushI 0 195 (lz_ev tL_isAtRest) L st M) ∧
  (∀ L st M, lz_ev tL_isAtRest 195 L st M = lo_istore 7 197 (lz_ev tL_isAtRest) L st M) ∧
  (∀ L st M, lz_ev tL_isAtRest 199 L st M = lo_aload 0 200 (lz_ev tL_isAtRest) L st M) ∧
  (∀ (L : zzLc) (r : List Value) (A : zzMd) (n : Nat), lz_ev tL_isAtRest 200 L (.ref 0 :: r) (A, n) = bif zz_cat8 r && decide (n ≤ 84) then lz_bv (lz_ev tL_isAtRest) 203 L r n (lz_g fX11_objects [.ref 0] A) else none) ∧
  (∀ L st M, lz_ev tL_isAtRest 203 L st M = lo_icmp (fun x y => decide (y ≤ x)) 368 206 (lz_ev tL_isAtRest) L st M) ∧
  (∀ L st M, lz_ev tL_isAtRest 206 L st M = lo_aload 0 207 (lz_ev tL_isAtRest) L st M) ∧
  (∀ L st M, lz_ev tL_isAtRest 207 L st M = lo_iload 7 209 (lz_ev tL_isAtRest) L st M) ∧
  (∀ (L : zzLc) (a0 : Int32) (r : List Value) (A : zzMd) (n : Nat), lz_ev tL_isAtRest 209 L (.int a0 :: .ref 0 :: r) (A, n) = bif zz_cat8 r && decide (n ≤ 84) then lz_bv (lz_ev tL_isAtRest) 212 L r n (lz_g fX11_kindOf [.ref 0, .int a0] A) else none) ∧
  (∀ L st M, lz_ev tL_isAtRest 212 L st M = lo_pushI 2 213 (lz_ev tL_isAtRest) L st M) ∧
  (∀ L st M, lz_ev tL_isAtRest 213 L st M = lo_icmp (fun x y => decide (¬ x = y)) 229 216 (lz_ev tL_isAtRest) L st M) ∧
  (∀ L st M, lz_ev tL_isAtRest 216 L st M = lo_aload 0 217 (lz_ev tL_isAtRest) L st M) ∧
  (∀ L st M, lz_ev tL_isAtRest 217 L st M = lo_iload 7 219 (lz_ev tL_isAtRest) L st M) ∧
  (∀ (L : zzLc) (a0 : Int32) (r : List Value) (A : zzMd) (n : Nat), lz_ev tL_isAtRest 219 L (.int a0 :: .ref 0 :: r) (A, n) = bif zz_cat8 r && decide (n ≤ 84) then lz_bv (lz_ev tL_isAtRest) 222 L r n (lz_g fX11_goingOf [.ref 0, .int a0] A) else none) ∧
  (∀ L st M, lz_ev tL_isAtRest 222 L st M = lo_if (fun x => decide (¬ x = 0)) 229 225 (lz_ev tL_isAtRest) L st M) ∧
  (∀ L st M, lz_ev tL_isAtRest 225 L st M = lo_pushI 1 226 (lz_ev tL_isAtRest) L st M) ∧
  (∀ L st M, lz_ev tL_isAtRest 226 L st M = lo_goto 230 (lz_ev tL_isAtRest) L st M) ∧
  (∀ L st M, lz_ev tL_isAtRest 229 L st M = lo_pushI 0 230 (lz_ev tL_isAtRest) L st M) ∧
  (∀ L st M, lz_ev tL_isAtRest 230 L st M = lo_istore 8 232 (lz_ev tL_isAtRest) L st M) ∧
  (∀ L st M, lz_ev tL_isAtRest 232 L st M = lo_iload 5 234 (lz_ev tL_isAtRest) L st M) ∧
  (∀ L st M, lz_ev tL_isAtRest 234 L st M = lo_iload 8 236 (lz_ev tL_isAtRest) L st M) ∧
  (∀ L st M, lz_ev tL_isAtRest 236 L st M = lo_if (fun x => decide (x = 0)) 253 239 (lz_ev tL_isAtRest) L st M) ∧
  (∀ L st M, lz_ev tL_isAtRest 239 L st M = lo_aload 0 240 (lz_ev tL_isAtRest) L st M) ∧
  (∀ L st M, lz_ev tL_isAtRest 240 L st M = lo_iload 7 242 (lz_ev tL_isAtRest) L st M) ∧
  (∀ (L : zzLc) (a0 : Int32) (r : List Value) (A : zzMd) (n : Nat), lz_ev tL_isAtRest 242 L (.int a0 :: .ref 0 :: r) (A, n) = bif zz_cat8 r && decide (n ≤ 84) then lz_bv (lz_ev tL_isAtRest) 245 L r n (lz_g fX11_ownerOf [.ref 0, .int a0] A) else none) ∧
  (∀ L st M, lz_ev tL_isAtRest 245 L st M = lo_iload 3 246 (lz_ev tL_isAtRest) L st M) ∧
  (∀ L st M, lz_ev tL_isAtRest 246 L st M = lo_icmp (fun x y => decide (¬ x = y)) 253 249 (lz_ev tL_isAtRest) L st M) ∧
  (∀ L st M, lz_ev tL_isAtRest 249 L st M = lo_pushI 1 250 (lz_ev tL_isAtRest) L st M) ∧
  (∀ L st M, lz_ev tL_isAtRest 250 L st M = lo_goto 254 (lz_ev tL_isAtRest) L st M) ∧
  (∀ L st M, lz_ev tL_isAtRest 253 L st M = lo_pushI 0 254 (lz_ev tL_isAtRest) L st M) ∧
  (∀ L st M, lz_ev tL_isAtRest 254 L st M = lo_ii (fun x y => x + y) 255 (lz_ev tL_isAtRest) L st M) ∧
  (∀ L st M, lz_ev tL_isAtRest 255 L st M = lo_istore 5 257 (lz_ev tL_isAtRest) L st M) ∧
  (∀ L st M, lz_ev tL_isAtRest 257 L st M = lo_iload 6 259 (lz_ev tL_isAtRest) L st M) ∧
  (∀ L st M, lz_ev tL_isAtRest 259 L st M = lo_iload 8 261 (lz_ev tL_isAtRest) L st M) ∧
  (∀ L st M, lz_ev tL_isAtRest 261 L st M = lo_if (fun x => decide (x = 0)) 288 264 (lz_ev tL_isAtRest) L st M) ∧
  (∀ L st M, lz_ev tL_isAtRest 264 L st M = lo_aload 0 265 (lz_ev tL_isAtRest) L st M) ∧
  (∀ L st M, lz_ev tL_isAtRest 265 L st M = lo_iload 7 267 (lz_ev tL_isAtRest) L st M) ∧
  (∀ (L : zzLc) (a0 : Int32) (r : List Value) (A : zzMd) (n : Nat), lz_ev tL_isAtRest 267 L (.int a0 :: .ref 0 :: r) (A, n) = bif zz_cat8 r && decide (n ≤ 84) then lz_bv (lz_ev tL_isAtRest) 270 L r n (lz_g fX11_ownerOf [.ref 0, .int a0] A) else none) ∧
  (∀ L st M, lz_ev tL_isAtRest 270 L st M = lo_iload 3 271 (lz_ev tL_isAtRest) L st M) ∧
  (∀ L st M, lz_ev tL_isAtRest 271 L st M = lo_icmp (fun x y => decide (¬ x = y)) 288 274 (lz_ev tL_isAtRest) L st M) ∧
  (∀ L st M, lz_ev tL_isAtRest 274 L st M = lo_aload 0 275 (lz_ev tL_isAtRest) L st M) :=
  ⟨lz_1 rfl tl_L_isAtRest, lz_1 rfl tl_L_isAtRest, lz_1 rfl tl_L_isAtRest, lz_1 rfl tl_L_isAtRest, lz_1 rfl tl_L_isAtRest, fun L  r A n => (lz_1 rfl tl_L_isAtRest _ _ _).trans rfl, lz_1 rfl tl_L_isAtRest, lz_1 rfl tl_L_isAtRest, lz_1 rfl tl_L_isAtRest, lz_1 rfl tl_L_isAtRest, lz_1 rfl tl_L_isAtRest, fun L a0 r A n => (lz_1 rfl tl_L_isAtRest _ _ _).trans rfl, lz_1 rfl tl_L_isAtRest, lz_1 rfl tl_L_isAtRest, lz_1 rfl tl_L_isAtRest, lz_1 rfl tl_L_isAtRest, fun L a0 r A n => (lz_1 rfl tl_L_isAtRest _ _ _).trans rfl, lz_1 rfl tl_L_isAtRest, lz_1 rfl tl_L_isAtRest, lz_1 rfl tl_L_isAtRest, lz_1 rfl tl_L_isAtRest, lz_1 rfl tl_L_isAtRest, lz_1 rfl tl_L_isAtRest, lz_1 rfl tl_L_isAtRest, lz_1 rfl tl_L_isAtRest, lz_1 rfl tl_L_isAtRest, lz_1 rfl tl_L_isAtRest, fun L a1 a2 a3 a4 a5 a6 a7 a0 r A n => (lz_1 rfl tl_L_isAtRest _ _ _).trans rfl, lz_1 rfl tl_L_isAtRest, lz_1 rfl tl_L_isAtRest, lz_1 rfl tl_L_isAtRest, lz_1 rfl tl_L_isAtRest, lz_1 rfl tl_L_isAtRest, lz_1 rfl tl_L_isAtRest, lz_1 rfl tl_L_isAtRest, lz_1 rfl tl_L_isAtRest, lz_1 rfl tl_L_isAtRest, lz_1 rfl tl_L_isAtRest, lz_1 rfl tl_L_isAtRest, lz_1 rfl tl_L_isAtRest, lz_1 rfl tl_L_isAtRest, lz_1 rfl tl_L_isAtRest, lz_1 rfl tl_L_isAtRest, lz_1 rfl tl_L_isAtRest, lz_1 rfl tl_L_isAtRest, fun L  r A n => (lz_1 rfl tl_L_isAtRest _ _ _).trans rfl, lz_1 rfl tl_L_isAtRest, lz_1 rfl tl_L_isAtRest, fun L  r A n => (lz_1 rfl tl_L_isAtRest _ _ _).trans rfl, lz_1 rfl tl_L_isAtRest, lz_1 rfl tl_L_isAtRest, lz_1 rfl tl_L_isAtRest, fun L  r A n => (lz_1 rfl tl_L_isAtRest _ _ _).trans rfl, lz_1 rfl tl_L_isAtRest, lz_1 rfl tl_L_isAtRest, lz_1 rfl tl_L_isAtRest, lz_1 rfl tl_L_isAtRest, lz_1 rfl tl_L_isAtRest, lz_1 rfl tl_L_isAtRest, lz_1 rfl tl_L_isAtRest, lz_1 rfl tl_L_isAtRest, lz_1 rfl tl_L_isAtRest, fun L a1 a2 a3 a4 a5 a6 a7 a0 r A n => (lz_1 rfl tl_L_isAtRest _ _ _).trans rfl, lz_1 rfl tl_L_isAtRest, fun L  r A n => (lz_1 rfl tl_L_isAtRest _ _ _).trans rfl, lz_1 rfl tl_L_isAtRest, lz_1 rfl tl_L_isAtRest, lz_1 rfl tl_L_isAtRest, lz_1 rfl tl_L_isAtRest, lz_1 rfl tl_L_isAtRest, lz_1 rfl tl_L_isAtRest, lz_1 rfl tl_L_isAtRest, lz_1 rfl tl_L_isAtRest, lz_1 rfl tl_L_isAtRest, lz_1 rfl tl_L_isAtRest, lz_1 rfl tl_L_isAtRest, fun L a1 a2 a3 a4 a5 a6 a7 a0 r A n => (lz_1 rfl tl_L_isAtRest _ _ _).trans rfl, lz_1 rfl tl_L_isAtRest, lz_1 rfl tl_L_isAtRest, lz_1 rfl tl_L_isAtRest, lz_1 rfl tl_L_isAtRest, lz_1 rfl tl_L_isAtRest, lz_1 rfl tl_L_isAtRest, lz_1 rfl tl_L_isAtRest, lz_1 rfl tl_L_isAtRest, lz_1 rfl tl_L_isAtRest, lz_1 rfl tl_L_isAtRest, lz_1 rfl tl_L_isAtRest, fun L  r A n => (lz_1 rfl tl_L_isAtRest _ _ _).trans rfl, lz_1 rfl tl_L_isAtRest, lz_1 rfl tl_L_isAtRest, fun L  r A n => (lz_1 rfl tl_L_isAtRest _ _ _).trans rfl, lz_1 rfl tl_L_isAtRest, lz_1 rfl tl_L_isAtRest, lz_1 rfl tl_L_isAtRest, lz_1 rfl tl_L_isAtRest, lz_1 rfl tl_L_isAtRest, lz_1 rfl tl_L_isAtRest, fun L  r A n => (lz_1 rfl tl_L_isAtRest _ _ _).trans rfl, lz_1 rfl tl_L_isAtRest, lz_1 rfl tl_L_isAtRest, lz_1 rfl tl_L_isAtRest, lz_1 rfl tl_L_isAtRest, lz_1 rfl tl_L_isAtRest, fun L a0 r A n => (lz_1 rfl tl_L_isAtRest _ _ _).trans rfl, lz_1 rfl tl_L_isAtRest, lz_1 rfl tl_L_isAtRest, lz_1 rfl tl_L_isAtRest, lz_1 rfl tl_L_isAtRest, lz_1 rfl tl_L_isAtRest, lz_1 rfl tl_L_isAtRest, lz_1 rfl tl_L_isAtRest, lz_1 rfl tl_L_isAtRest, fun L  r A n => (lz_1 rfl tl_L_isAtRest _ _ _).trans rfl, lz_1 rfl tl_L_isAtRest, lz_1 rfl tl_L_isAtRest, lz_1 rfl tl_L_isAtRest, fun L a0 r A n => (lz_1 rfl tl_L_isAtRest _ _ _).trans rfl, lz_1 rfl tl_L_isAtRest, lz_1 rfl tl_L_isAtRest, lz_1 rfl tl_L_isAtRest, lz_1 rfl tl_L_isAtRest, fun L a0 r A n => (lz_1 rfl tl_L_isAtRest _ _ _).trans rfl, lz_1 rfl tl_L_isAtRest, lz_1 rfl tl_L_isAtRest, lz_1 rfl tl_L_isAtRest, lz_1 rfl tl_L_isAtRest, lz_1 rfl tl_L_isAtRest, lz_1 rfl tl_L_isAtRest, lz_1 rfl tl_L_isAtRest, lz_1 rfl tl_L_isAtRest, lz_1 rfl tl_L_isAtRest, lz_1 rfl tl_L_isAtRest, fun L a0 r A n => (lz_1 rfl tl_L_isAtRest _ _ _).trans rfl, lz_1 rfl tl_L_isAtRest, lz_1 rfl tl_L_isAtRest, lz_1 rfl tl_L_isAtRest, lz_1 rfl tl_L_isAtRest, lz_1 rfl tl_L_isAtRest, lz_1 rfl tl_L_isAtRest, lz_1 rfl tl_L_isAtRest, lz_1 rfl tl_L_isAtRest, lz_1 rfl tl_L_isAtRest, lz_1 rfl tl_L_isAtRest, lz_1 rfl tl_L_isAtRest, lz_1 rfl tl_L_isAtRest, fun L a0 r A n => (lz_1 rfl tl_L_isAtRest _ _ _).trans rfl, lz_1 rfl tl_L_isAtRest, lz_1 rfl tl_L_isAtRest, lz_1 rfl tl_L_isAtRest⟩
set_option maxRecDepth 100000 in
theorem e_L_isAtRest_p1 : (∀ L st M, lz_ev tL_isAtRest 275 L st M = lo_iload 7 277 (lz_ev tL_isAtRest) L st M) ∧
  (∀ (L : zzLc) (a0 : Int32) (r : List Value) (A : zzMd) (n : Nat), lz_ev tL_isAtRest 277 L (.int a0 :: .ref 0 :: r) (A, n) = bif zz_cat8 r && decide (n ≤ 84) then lz_bv (lz_ev tL_isAtRest) 280 L r n (lz_g fX11_phaseOf [.ref 0, .int a0] A) else none) ∧
  (∀ L st M, lz_ev tL_isAtRest 280 L st M = lo_pushI 2 281 (lz_ev tL_isAtRest) L st M) ∧
  (∀ L st M, lz_ev tL_isAtRest 281 L st M = lo_icmp (fun x y => decide (y ≤ x)) 288 284 (lz_ev tL_isAtRest) L st M) ∧
  (∀ L st M, lz_ev tL_isAtRest 284 L st M = lo_pushI 1 285 (lz_ev tL_isAtRest) L st M) ∧
  (∀ L st M, lz_ev tL_isAtRest 285 L st M = lo_goto 289 (lz_ev tL_isAtRest) L st M) ∧
  (∀ L st M, lz_ev tL_isAtRest 288 L st M = lo_pushI 0 289 (lz_ev tL_isAtRest) L st M) ∧
  (∀ L st M, lz_ev tL_isAtRest 289 L st M = lo_ii (fun x y => x + y) 290 (lz_ev tL_isAtRest) L st M) ∧
  (∀ L st M, lz_ev tL_isAtRest 290 L st M = lo_istore 6 292 (lz_ev tL_isAtRest) L st M) ∧
  (∀ L st M, lz_ev tL_isAtRest 292 L st M = lo_iload 1 293 (lz_ev tL_isAtRest) L st M) ∧
  (∀ L st M, lz_ev tL_isAtRest 293 L st M = lo_if (fun x => decide (x = 0)) 360 296 (lz_ev tL_isAtRest) L st M) ∧
  (∀ L st M, lz_ev tL_isAtRest 296 L st M = lo_iload 4 298 (lz_ev tL_isAtRest) L st M) ∧
  (∀ L st M, lz_ev tL_isAtRest 298 L st M = lo_pushI 5 299 (lz_ev tL_isAtRest) L st M) ∧
  (∀ L st M, lz_ev tL_isAtRest 299 L st M = lo_icmp (fun x y => decide (¬ x = y)) 356 302 (lz_ev tL_isAtRest) L st M) ∧
  (∀ L st M, lz_ev tL_isAtRest 302 L st M = lo_aload 0 303 (lz_ev tL_isAtRest) L st M) ∧
  (∀ L st M, lz_ev tL_isAtRest 303 L st M = lo_iload 3 304 (lz_ev tL_isAtRest) L st M) ∧
  (∀ (L : zzLc) (a0 : Int32) (r : List Value) (A : zzMd) (n : Nat), lz_ev tL_isAtRest 304 L (.int a0 :: .ref 0 :: r) (A, n) = bif zz_cat8 r && decide (n ≤ 84) then lz_bv (lz_ev tL_isAtRest) 307 L r n (lz_g fX11_goingOf [.ref 0, .int a0] A) else none) ∧
  (∀ L st M, lz_ev tL_isAtRest 307 L st M = lo_if (fun x => decide (0 < x)) 356 310 (lz_ev tL_isAtRest) L st M) ∧
  (∀ L st M, lz_ev tL_isAtRest 310 L st M = lo_aload 0 311 (lz_ev tL_isAtRest) L st M) ∧
  (∀ L st M, lz_ev tL_isAtRest 311 L st M = lo_iload 3 312 (lz_ev tL_isAtRest) L st M) ∧
  (∀ L st M, lz_ev tL_isAtRest 312 L st M = lo_iload 7 314 (lz_ev tL_isAtRest) L st M) ∧
  (∀ (L : zzLc) (a0 a1 : Int32) (r : List Value) (A : zzMd) (n : Nat), lz_ev tL_isAtRest 314 L (.int a1 :: .int a0 :: .ref 0 :: r) (A, n) = bif zz_cat8 r && decide (n ≤ 84) then lz_bv (lz_ev tL_isAtRest) 317 L r n (lz_g fX11_isBehind [.ref 0, .int a0, .int a1] A) else none) ∧
  (∀ L st M, lz_ev tL_isAtRest 317 L st M = lo_iload 8 319 (lz_ev tL_isAtRest) L st M) ∧
  (∀ L st M, lz_ev tL_isAtRest 319 L st M = lo_if (fun x => decide (x = 0)) 352 322 (lz_ev tL_isAtRest) L st M) ∧
  (∀ L st M, lz_ev tL_isAtRest 322 L st M = lo_aload 0 323 (lz_ev tL_isAtRest) L st M) ∧
  (∀ L st M, lz_ev tL_isAtRest 323 L st M = lo_iload 7 325 (lz_ev tL_isAtRest) L st M) ∧
  (∀ (L : zzLc) (a0 : Int32) (r : List Value) (A : zzMd) (n : Nat), lz_ev tL_isAtRest 325 L (.int a0 :: .ref 0 :: r) (A, n) = bif zz_cat8 r && decide (n ≤ 84) then lz_bv (lz_ev tL_isAtRest) 328 L r n (lz_g fX11_phaseOf [.ref 0, .int a0] A) else none) ∧
  (∀ L st M, lz_ev tL_isAtRest 328 L st M = lo_pushI 1 329 (lz_ev tL_isAtRest) L st M) ∧
  (∀ L st M, lz_ev tL_isAtRest 329 L st M = lo_icmp (fun x y => decide (¬ x = y)) 352 332 (lz_ev tL_isAtRest) L st M) ∧
  (∀ L st M, lz_ev tL_isAtRest 332 L st M = lo_aload 0 333 (lz_ev tL_isAtRest) L st M) ∧
  (∀ L st M, lz_ev tL_isAtRest 333 L st M = lo_iload 7 335 (lz_ev tL_isAtRest) L st M) ∧
  (∀ L st M, lz_ev tL_isAtRest 335 L st M = lo_pushI 1 336 (lz_ev tL_isAtRest) L st M) ∧
  (∀ (L : zzLc) (a0 a1 : Int32) (r : List Value) (A : zzMd) (n : Nat), lz_ev tL_isAtRest 336 L (.int a1 :: .int a0 :: .ref 0 :: r) (A, n) = bif zz_cat8 r && decide (n ≤ 84) then lz_bv (lz_ev tL_isAtRest) 339 L r n (lz_g fX11_field [.ref 0, .int a0, .int a1] A) else none) ∧
  (∀ L st M, lz_ev tL_isAtRest 339 L st M = lo_aload 0 340 (lz_ev tL_isAtRest) L st M) ∧
  (∀ L st M, lz_ev tL_isAtRest 340 L st M = lo_iload 3 341 (lz_ev tL_isAtRest) L st M) ∧
  (∀ L st M, lz_ev tL_isAtRest 341 L st M = lo_pushI 1 342 (lz_ev tL_isAtRest) L st M) ∧
  (∀ (L : zzLc) (a0 a1 : Int32) (r : List Value) (A : zzMd) (n : Nat), lz_ev tL_isAtRest 342 L (.int a1 :: .int a0 :: .ref 0 :: r) (A, n) = bif zz_cat8 r && decide (n ≤ 84) then lz_bv (lz_ev tL_isAtRest) 345 L r n (lz_g fX11_field [.ref 0, .int a0, .int a1] A) else none) ∧
  (∀ L st M, lz_ev tL_isAtRest 345 L st M = lo_icmp (fun x y => decide (¬ x = y)) 352 348 (lz_ev tL_isAtRest) L st M) ∧
  (∀ L st M, lz_ev tL_isAtRest 348 L st M = lo_pushI 1 349 (lz_ev tL_isAtRest) L st M) ∧
  (∀ L st M, lz_ev tL_isAtRest 349 L st M = lo_goto 353 (lz_ev tL_isAtRest) L st M) ∧
  (∀ L st M, lz_ev tL_isAtRest 352 L st M = lo_pushI 0 353 (lz_ev tL_isAtRest) L st M) ∧
  (∀ L st M, lz_ev tL_isAtRest 353 L st M = lo_icmp (fun x y => decide (¬ x = y)) 360 356 (lz_ev tL_isAtRest) L st M) ∧
  (∀ L st M, lz_ev tL_isAtRest 356 L st M = lo_pushI 1 357 (lz_ev tL_isAtRest) L st M) ∧
  (∀ L st M, lz_ev tL_isAtRest 357 L st M = lo_goto 361 (lz_ev tL_isAtRest) L st M) ∧
  (∀ L st M, lz_ev tL_isAtRest 360 L st M = lo_pushI 0 361 (lz_ev tL_isAtRest) L st M) ∧
  (∀ L st M, lz_ev tL_isAtRest 361 L st M = lo_istore 1 362 (lz_ev tL_isAtRest) L st M) ∧
  (∀ L st M, lz_ev tL_isAtRest 362 L st M = lo_iinc 7 1 365 (lz_ev tL_isAtRest) L st M) ∧
  (∀ L st M, lz_ev tL_isAtRest 365 L st M = lo_goto 197 (lz_ev tL_isAtRest) L st M) ∧
  (∀ L st M, lz_ev tL_isAtRest 368 L st M = lo_aload 0 369 (lz_ev tL_isAtRest) L st M) ∧
  (∀ L st M, lz_ev tL_isAtRest 369 L st M = lo_iload 3 370 (lz_ev tL_isAtRest) L st M) ∧
  (∀ (L : zzLc) (a0 : Int32) (r : List Value) (A : zzMd) (n : Nat), lz_ev tL_isAtRest 370 L (.int a0 :: .ref 0 :: r) (A, n) = bif zz_cat8 r && decide (n ≤ 84) then lz_bv (lz_ev tL_isAtRest) 373 L r n (lz_g fX11_goingOf [.ref 0, .int a0] A) else none) ∧
  (∀ L st M, lz_ev tL_isAtRest 373 L st M = lo_if (fun x => decide (¬ x = 0)) 380 376 (lz_ev tL_isAtRest) L st M) ∧
  (∀ L st M, lz_ev tL_isAtRest 376 L st M = lo_pushI 1 377 (lz_ev tL_isAtRest) L st M) ∧
  (∀ L st M, lz_ev tL_isAtRest 377 L st M = lo_goto 381 (lz_ev tL_isAtRest) L st M) ∧
  (∀ L st M, lz_ev tL_isAtRest 380 L st M = lo_pushI 0 381 (lz_ev tL_isAtRest) L st M) ∧
  (∀ L st M, lz_ev tL_isAtRest 381 L st M = lo_istore 7 383 (lz_ev tL_isAtRest) L st M) ∧
  (∀ L st M, lz_ev tL_isAtRest 383 L st M = lo_iload 1 384 (lz_ev tL_isAtRest) L st M) ∧
  (∀ L st M, lz_ev tL_isAtRest 384 L st M = lo_if (fun x => decide (x = 0)) 474 387 (lz_ev tL_isAtRest) L st M) ∧
  (∀ L st M, lz_ev tL_isAtRest 387 L st M = lo_iload 4 389 (lz_ev tL_isAtRest) L st M) ∧
  (∀ L st M, lz_ev tL_isAtRest 389 L st M = lo_pushI 1 390 (lz_ev tL_isAtRest) L st M) ∧
  (∀ L st M, lz_ev tL_isAtRest 390 L st M = lo_icmp (fun x y => decide (¬ x = y)) 416 393 (lz_ev tL_isAtRest) L st M) ∧
  (∀ L st M, lz_ev tL_isAtRest 393 L st M = lo_iload 7 395 (lz_ev tL_isAtRest) L st M) ∧
  (∀ L st M, lz_ev tL_isAtRest 395 L st M = lo_if (fun x => decide (x = 0)) 416 398 (lz_ev tL_isAtRest) L st M) ∧
  (∀ L st M, lz_ev tL_isAtRest 398 L st M = lo_iload 5 400 (lz_ev tL_isAtRest) L st M) ∧
  (∀ L st M, lz_ev tL_isAtRest 400 L st M = lo_aload 0 401 (lz_ev tL_isAtRest) L st M) ∧
  (∀ L st M, lz_ev tL_isAtRest 401 L st M = lo_iload 3 402 (lz_ev tL_isAtRest) L st M) ∧
  (∀ L st M, lz_ev tL_isAtRest 402 L st M = lo_pushI 0 403 (lz_ev tL_isAtRest) L st M) ∧
  (∀ (L : zzLc) (a0 a1 : Int32) (r : List Value) (A : zzMd) (n : Nat), lz_ev tL_isAtRest 403 L (.int a1 :: .int a0 :: .ref 0 :: r) (A, n) = bif zz_cat8 r && decide (n ≤ 84) then lz_bv (lz_ev tL_isAtRest) 406 L r n (lz_g fX11_field [.ref 0, .int a0, .int a1] A) else none) ∧
  (∀ L st M, lz_ev tL_isAtRest 406 L st M = lo_icmp (fun x y => decide (¬ x = y)) 474 409 (lz_ev tL_isAtRest) L st M) ∧
  (∀ L st M, lz_ev tL_isAtRest 409 L st M = lo_iload 6 411 (lz_ev tL_isAtRest) L st M) ∧
  (∀ L st M, lz_ev tL_isAtRest 411 L st M = lo_iload 5 413 (lz_ev tL_isAtRest) L st M) ∧
  (∀ L st M, lz_ev tL_isAtRest 413 L st M = lo_icmp (fun x y => decide (¬ x = y)) 474 416 (lz_ev tL_isAtRest) L st M) ∧
  (∀ L st M, lz_ev tL_isAtRest 416 L st M = lo_iload 4 418 (lz_ev tL_isAtRest) L st M) ∧
  (∀ L st M, lz_ev tL_isAtRest 418 L st M = lo_if (fun x => decide (¬ x = 0)) 470 421 (lz_ev tL_isAtRest) L st M) ∧
  (∀ L st M, lz_ev tL_isAtRest 421 L st M = lo_iload 7 423 (lz_ev tL_isAtRest) L st M) ∧
  (∀ L st M, lz_ev tL_isAtRest 423 L st M = lo_if (fun x => decide (x = 0)) 470 426 (lz_ev tL_isAtRest) L st M) ∧
  (∀ L st M, lz_ev tL_isAtRest 426 L st M = lo_aload 0 427 (lz_ev tL_isAtRest) L st M) ∧
  (∀ L st M, lz_ev tL_isAtRest 427 L st M = lo_iload 3 428 (lz_ev tL_isAtRest) L st M) ∧
  (∀ L st M, lz_ev tL_isAtRest 428 L st M = lo_pushI 4 429 (lz_ev tL_isAtRest) L st M) ∧
  (∀ (L : zzLc) (a0 a1 : Int32) (r : List Value) (A : zzMd) (n : Nat), lz_ev tL_isAtRest 429 L (.int a1 :: .int a0 :: .ref 0 :: r) (A, n) = bif zz_cat8 r && decide (n ≤ 84) then lz_bv (lz_ev tL_isAtRest) 432 L r n (lz_g fX11_field [.ref 0, .int a0, .int a1] A) else none) ∧
  (∀ L st M, lz_ev tL_isAtRest 432 L st M = lo_pushI 1 433 (lz_ev tL_isAtRest) L st M) ∧
  (∀ L st M, lz_ev tL_isAtRest 433 L st M = lo_icmp (fun x y => decide (x = y)) 470 436 (lz_ev tL_isAtRest) L st M) ∧
  (∀ L st M, lz_ev tL_isAtRest 436 L st M = lo_aload 0 437 (lz_ev tL_isAtRest) L st M) ∧
  (∀ L st M, lz_ev tL_isAtRest 437 L st M = lo_iload 3 438 (lz_ev tL_isAtRest) L st M) ∧
  (∀ L st M, lz_ev tL_isAtRest 438 L st M = lo_pushI 5 439 (lz_ev tL_isAtRest) L st M) ∧
  (∀ (L : zzLc) (a0 a1 : Int32) (r : List Value) (A : zzMd) (n : Nat), lz_ev tL_isAtRest 439 L (.int a1 :: .int a0 :: .ref 0 :: r) (A, n) = bif zz_cat8 r && decide (n ≤ 84) then lz_bv (lz_ev tL_isAtRest) 442 L r n (lz_g fX11_field [.ref 0, .int a0, .int a1] A) else none) ∧
  (∀ L st M, lz_ev tL_isAtRest 442 L st M = lo_if (fun x => decide (x = 0)) 470 445 (lz_ev tL_isAtRest) L st M) ∧
  (∀ L st M, lz_ev tL_isAtRest 445 L st M = lo_aload 0 446 (lz_ev tL_isAtRest) L st M) ∧
  (∀ L st M, lz_ev tL_isAtRest 446 L st M = lo_iload 3 447 (lz_ev tL_isAtRest) L st M) ∧
  (∀ L st M, lz_ev tL_isAtRest 447 L st M = lo_pushI 0 448 (lz_ev tL_isAtRest) L st M) ∧
  (∀ (L : zzLc) (a0 a1 : Int32) (r : List Value) (A : zzMd) (n : Nat), lz_ev tL_isAtRest 448 L (.int a1 :: .int a0 :: .ref 0 :: r) (A, n) = bif zz_cat8 r && decide (n ≤ 84) then lz_bv (lz_ev tL_isAtRest) 451 L r n (lz_g fX11_field [.ref 0, .int a0, .int a1] A) else none) ∧
  (∀ L st M, lz_ev tL_isAtRest 451 L st M = lo_pushI 1 452 (lz_ev tL_isAtRest) L st M) ∧
  (∀ L st M, lz_ev tL_isAtRest 452 L st M = lo_icmp (fun x y => decide (x < y)) 474 455 (lz_ev tL_isAtRest) L st M) ∧
  (∀ L st M, lz_ev tL_isAtRest 455 L st M = lo_aload 0 456 (lz_ev tL_isAtRest) L st M) ∧
  (∀ L st M, lz_ev tL_isAtRest 456 L st M = lo_iload 3 457 (lz_ev tL_isAtRest) L st M) ∧
  (∀ L st M, lz_ev tL_isAtRest 457 L st M = lo_pushI 0 458 (lz_ev tL_isAtRest) L st M) ∧
  (∀ (L : zzLc) (a0 a1 : Int32) (r : List Value) (A : zzMd) (n : Nat), lz_ev tL_isAtRest 458 L (.int a1 :: .int a0 :: .ref 0 :: r) (A, n) = bif zz_cat8 r && decide (n ≤ 84) then lz_bv (lz_ev tL_isAtRest) 461 L r n (lz_g fX11_field [.ref 0, .int a0, .int a1] A) else none) ∧
  (∀ L st M, lz_ev tL_isAtRest 461 L st M = lo_aload 0 462 (lz_ev tL_isAtRest) L st M) ∧
  (∀ L st M, lz_ev tL_isAtRest 462 L st M = lo_iload 3 463 (lz_ev tL_isAtRest) L st M) ∧
  (∀ L st M, lz_ev tL_isAtRest 463 L st M = lo_pushI 5 464 (lz_ev tL_isAtRest) L st M) ∧
  (∀ (L : zzLc) (a0 a1 : Int32) (r : List Value) (A : zzMd) (n : Nat), lz_ev tL_isAtRest 464 L (.int a1 :: .int a0 :: .ref 0 :: r) (A, n) = bif zz_cat8 r && decide (n ≤ 84) then lz_bv (lz_ev tL_isAtRest) 467 L r n (lz_g fX11_field [.ref 0, .int a0, .int a1] A) else none) ∧
  (∀ L st M, lz_ev tL_isAtRest 467 L st M = lo_icmp (fun x y => decide (y < x)) 474 470 (lz_ev tL_isAtRest) L st M) ∧
  (∀ L st M, lz_ev tL_isAtRest 470 L st M = lo_pushI 1 471 (lz_ev tL_isAtRest) L st M) ∧
  (∀ L st M, lz_ev tL_isAtRest 471 L st M = lo_goto 475 (lz_ev tL_isAtRest) L st M) ∧
  (∀ L st M, lz_ev tL_isAtRest 474 L st M = lo_pushI 0 475 (lz_ev tL_isAtRest) L st M) ∧
  (∀ L st M, lz_ev tL_isAtRest 475 L st M = lo_istore 1 476 (lz_ev tL_isAtRest) L st M) ∧
  (∀ L st M, lz_ev tL_isAtRest 476 L st M = lo_iload 1 477 (lz_ev tL_isAtRest) L st M) ∧
  (∀ L st M, lz_ev tL_isAtRest 477 L st M = lo_if (fun x => decide (x = 0)) 513 480 (lz_ev tL_isAtRest) L st M) ∧
  (∀ L st M, lz_ev tL_isAtRest 480 L st M = lo_aload 0 481 (lz_ev tL_isAtRest) L st M) ∧
  (∀ L st M, lz_ev tL_isAtRest 481 L st M = lo_iload 3 482 (lz_ev tL_isAtRest) L st M) ∧
  (∀ (L : zzLc) (a0 : Int32) (r : List Value) (A : zzMd) (n : Nat), lz_ev tL_isAtRest 482 L (.int a0 :: .ref 0 :: r) (A, n) = bif zz_cat8 r && decide (n ≤ 84) then lz_bv (lz_ev tL_isAtRest) 485 L r n (lz_g fX11_ownerOf [.ref 0, .int a0] A) else none) ∧
  (∀ L st M, lz_ev tL_isAtRest 485 L st M = lo_if (fun x => decide (x < 0)) 509 488 (lz_ev tL_isAtRest) L st M) ∧
  (∀ L st M, lz_ev tL_isAtRest 488 L st M = lo_aload 0 489 (lz_ev tL_isAtRest) L st M) ∧
  (∀ L st M, lz_ev tL_isAtRest 489 L st M = lo_aload 0 490 (lz_ev tL_isAtRest) L st M) ∧
  (∀ L st M, lz_ev tL_isAtRest 490 L st M = lo_iload 3 491 (lz_ev tL_isAtRest) L st M) ∧
  (∀ (L : zzLc) (a0 : Int32) (r : List Value) (A : zzMd) (n : Nat), lz_ev tL_isAtRest 491 L (.int a0 :: .ref 0 :: r) (A, n) = bif zz_cat8 r && decide (n ≤ 84) then lz_bv (lz_ev tL_isAtRest) 494 L r n (lz_g fX11_ownerOf [.ref 0, .int a0] A) else none) ∧
  (∀ (L : zzLc) (a0 : Int32) (r : List Value) (A : zzMd) (n : Nat), lz_ev tL_isAtRest 494 L (.int a0 :: .ref 0 :: r) (A, n) = bif zz_cat8 r && decide (n ≤ 84) then lz_bv (lz_ev tL_isAtRest) 497 L r n (lz_g fX11_goingOf [.ref 0, .int a0] A) else none) ∧
  (∀ L st M, lz_ev tL_isAtRest 497 L st M = lo_pushI 4 498 (lz_ev tL_isAtRest) L st M) ∧
  (∀ L st M, lz_ev tL_isAtRest 498 L st M = lo_icmp (fun x y => decide (x < y)) 509 501 (lz_ev tL_isAtRest) L st M) ∧
  (∀ L st M, lz_ev tL_isAtRest 501 L st M = lo_aload 0 502 (lz_ev tL_isAtRest) L st M) ∧
  (∀ L st M, lz_ev tL_isAtRest 502 L st M = lo_iload 3 503 (lz_ev tL_isAtRest) L st M) ∧
  (∀ (L : zzLc) (a0 : Int32) (r : List Value) (A : zzMd) (n : Nat), lz_ev tL_isAtRest 503 L (.int a0 :: .ref 0 :: r) (A, n) = bif zz_cat8 r && decide (n ≤ 84) then lz_bv (lz_ev tL_isAtRest) 506 L r n (lz_g fX11_goingOf [.ref 0, .int a0] A) else none) ∧
  (∀ L st M, lz_ev tL_isAtRest 506 L st M = lo_if (fun x => decide (x ≤ 0)) 513 509 (lz_ev tL_isAtRest) L st M) ∧
  (∀ L st M, lz_ev tL_isAtRest 509 L st M = lo_pushI 1 510 (lz_ev tL_isAtRest) L st M) ∧
  (∀ L st M, lz_ev tL_isAtRest 510 L st M = lo_goto 514 (lz_ev tL_isAtRest) L st M) ∧
  (∀ L st M, lz_ev tL_isAtRest 513 L st M = lo_pushI 0 514 (lz_ev tL_isAtRest) L st M) ∧
  (∀ L st M, lz_ev tL_isAtRest 514 L st M = lo_istore 1 515 (lz_ev tL_isAtRest) L st M) ∧
  (∀ L st M, lz_ev tL_isAtRest 515 L st M = lo_iinc 3 1 518 (lz_ev tL_isAtRest) L st M) ∧
  (∀ L st M, lz_ev tL_isAtRest 518 L st M = lo_goto 169 (lz_ev tL_isAtRest) L st M) ∧
  (∀ L st M, lz_ev tL_isAtRest 521 L st M = lo_iload 1 522 (lz_ev tL_isAtRest) L st M) ∧
  (∀ L st M, lz_ev tL_isAtRest 522 L st M = lo_iret 84 true (lz_ev tL_isAtRest) L st M) :=
  ⟨lz_1 rfl tl_L_isAtRest, fun L a0 r A n => (lz_1 rfl tl_L_isAtRest _ _ _).trans rfl, lz_1 rfl tl_L_isAtRest, lz_1 rfl tl_L_isAtRest, lz_1 rfl tl_L_isAtRest, lz_1 rfl tl_L_isAtRest, lz_1 rfl tl_L_isAtRest, lz_1 rfl tl_L_isAtRest, lz_1 rfl tl_L_isAtRest, lz_1 rfl tl_L_isAtRest, lz_1 rfl tl_L_isAtRest, lz_1 rfl tl_L_isAtRest, lz_1 rfl tl_L_isAtRest, lz_1 rfl tl_L_isAtRest, lz_1 rfl tl_L_isAtRest, lz_1 rfl tl_L_isAtRest, fun L a0 r A n => (lz_1 rfl tl_L_isAtRest _ _ _).trans rfl, lz_1 rfl tl_L_isAtRest, lz_1 rfl tl_L_isAtRest, lz_1 rfl tl_L_isAtRest, lz_1 rfl tl_L_isAtRest, fun L a0 a1 r A n => (lz_1 rfl tl_L_isAtRest _ _ _).trans rfl, lz_1 rfl tl_L_isAtRest, lz_1 rfl tl_L_isAtRest, lz_1 rfl tl_L_isAtRest, lz_1 rfl tl_L_isAtRest, fun L a0 r A n => (lz_1 rfl tl_L_isAtRest _ _ _).trans rfl, lz_1 rfl tl_L_isAtRest, lz_1 rfl tl_L_isAtRest, lz_1 rfl tl_L_isAtRest, lz_1 rfl tl_L_isAtRest, lz_1 rfl tl_L_isAtRest, fun L a0 a1 r A n => (lz_1 rfl tl_L_isAtRest _ _ _).trans rfl, lz_1 rfl tl_L_isAtRest, lz_1 rfl tl_L_isAtRest, lz_1 rfl tl_L_isAtRest, fun L a0 a1 r A n => (lz_1 rfl tl_L_isAtRest _ _ _).trans rfl, lz_1 rfl tl_L_isAtRest, lz_1 rfl tl_L_isAtRest, lz_1 rfl tl_L_isAtRest, lz_1 rfl tl_L_isAtRest, lz_1 rfl tl_L_isAtRest, lz_1 rfl tl_L_isAtRest, lz_1 rfl tl_L_isAtRest, lz_1 rfl tl_L_isAtRest, lz_1 rfl tl_L_isAtRest, lz_1 rfl tl_L_isAtRest, lz_1 rfl tl_L_isAtRest, lz_1 rfl tl_L_isAtRest, lz_1 rfl tl_L_isAtRest, fun L a0 r A n => (lz_1 rfl tl_L_isAtRest _ _ _).trans rfl, lz_1 rfl tl_L_isAtRest, lz_1 rfl tl_L_isAtRest, lz_1 rfl tl_L_isAtRest, lz_1 rfl tl_L_isAtRest, lz_1 rfl tl_L_isAtRest, lz_1 rfl tl_L_isAtRest, lz_1 rfl tl_L_isAtRest, lz_1 rfl tl_L_isAtRest, lz_1 rfl tl_L_isAtRest, lz_1 rfl tl_L_isAtRest, lz_1 rfl tl_L_isAtRest, lz_1 rfl tl_L_isAtRest, lz_1 rfl tl_L_isAtRest, lz_1 rfl tl_L_isAtRest, lz_1 rfl tl_L_isAtRest, lz_1 rfl tl_L_isAtRest, fun L a0 a1 r A n => (lz_1 rfl tl_L_isAtRest _ _ _).trans rfl, lz_1 rfl tl_L_isAtRest, lz_1 rfl tl_L_isAtRest, lz_1 rfl tl_L_isAtRest, lz_1 rfl tl_L_isAtRest, lz_1 rfl tl_L_isAtRest, lz_1 rfl tl_L_isAtRest, lz_1 rfl tl_L_isAtRest, lz_1 rfl tl_L_isAtRest, lz_1 rfl tl_L_isAtRest, lz_1 rfl tl_L_isAtRest, lz_1 rfl tl_L_isAtRest, fun L a0 a1 r A n => (lz_1 rfl tl_L_isAtRest _ _ _).trans rfl, lz_1 rfl tl_L_isAtRest, lz_1 rfl tl_L_isAtRest, lz_1 rfl tl_L_isAtRest, lz_1 rfl tl_L_isAtRest, lz_1 rfl tl_L_isAtRest, fun L a0 a1 r A n => (lz_1 rfl tl_L_isAtRest _ _ _).trans rfl, lz_1 rfl tl_L_isAtRest, lz_1 rfl tl_L_isAtRest, lz_1 rfl tl_L_isAtRest, lz_1 rfl tl_L_isAtRest, fun L a0 a1 r A n => (lz_1 rfl tl_L_isAtRest _ _ _).trans rfl, lz_1 rfl tl_L_isAtRest, lz_1 rfl tl_L_isAtRest, lz_1 rfl tl_L_isAtRest, lz_1 rfl tl_L_isAtRest, lz_1 rfl tl_L_isAtRest, fun L a0 a1 r A n => (lz_1 rfl tl_L_isAtRest _ _ _).trans rfl, lz_1 rfl tl_L_isAtRest, lz_1 rfl tl_L_isAtRest, lz_1 rfl tl_L_isAtRest, fun L a0 a1 r A n => (lz_1 rfl tl_L_isAtRest _ _ _).trans rfl, lz_1 rfl tl_L_isAtRest, lz_1 rfl tl_L_isAtRest, lz_1 rfl tl_L_isAtRest, lz_1 rfl tl_L_isAtRest, lz_1 rfl tl_L_isAtRest, lz_1 rfl tl_L_isAtRest, lz_1 rfl tl_L_isAtRest, lz_1 rfl tl_L_isAtRest, lz_1 rfl tl_L_isAtRest, fun L a0 r A n => (lz_1 rfl tl_L_isAtRest _ _ _).trans rfl, lz_1 rfl tl_L_isAtRest, lz_1 rfl tl_L_isAtRest, lz_1 rfl tl_L_isAtRest, lz_1 rfl tl_L_isAtRest, fun L a0 r A n => (lz_1 rfl tl_L_isAtRest _ _ _).trans rfl, fun L a0 r A n => (lz_1 rfl tl_L_isAtRest _ _ _).trans rfl, lz_1 rfl tl_L_isAtRest, lz_1 rfl tl_L_isAtRest, lz_1 rfl tl_L_isAtRest, lz_1 rfl tl_L_isAtRest, fun L a0 r A n => (lz_1 rfl tl_L_isAtRest _ _ _).trans rfl, lz_1 rfl tl_L_isAtRest, lz_1 rfl tl_L_isAtRest, lz_1 rfl tl_L_isAtRest, lz_1 rfl tl_L_isAtRest, lz_1 rfl tl_L_isAtRest, lz_1 rfl tl_L_isAtRest, lz_1 rfl tl_L_isAtRest, lz_1 rfl tl_L_isAtRest, lz_1 rfl tl_L_isAtRest⟩
set_option maxRecDepth 100000 in
theorem e_L_isAtRest_4 : (∀ L st M, lz_ev tL_isAtRest 4 L st M = lo_iload 2 5 (lz_ev tL_isAtRest) L st M) := lz_1 rfl tl_L_isAtRest
set_option maxRecDepth 100000 in
theorem e_L_isAtRest_65 : (∀ L st M, lz_ev tL_isAtRest 65 L st M = lo_iload 3 66 (lz_ev tL_isAtRest) L st M) := lz_1 rfl tl_L_isAtRest
set_option maxRecDepth 100000 in
theorem e_L_isAtRest_169 : (∀ L st M, lz_ev tL_isAtRest 169 L st M = lo_iload 3 170 (lz_ev tL_isAtRest) L st M) := lz_1 rfl tl_L_isAtRest
set_option maxRecDepth 100000 in
theorem e_L_isAtRest_197 : (∀ L st M, lz_ev tL_isAtRest 197 L st M = lo_iload 7 199 (lz_ev tL_isAtRest) L st M) := lz_1 rfl tl_L_isAtRest
theorem s_L_isAtRest (a0 : Nat) {A A' : zzMd} {v : Option Value} {n : Nat} (h : lz_ev tL_isAtRest 0 [some (.ref a0), none, none, none, none, none, none, none, none] [] (A, 0) = some (v, (A', n))) : fL_isAtRest [.ref a0] A = some (v, A') := lz_fn_of (T := tL_isAtRest) (nL := 9) (Nat.le_of_ble_eq_true rfl) h
set_option maxRecDepth 100000 in
theorem e_L_isWorked : (∀ L st M, lz_ev tL_isWorked 0 L st M = lo_aload 0 1 (lz_ev tL_isWorked) L st M) ∧
  (∀ (L : zzLc) (r : List Value) (A : zzMd) (n : Nat), lz_ev tL_isWorked 1 L (.ref 0 :: r) (A, n) = bif zz_cat8 r && decide (n ≤ 2641) then lz_bv (lz_ev tL_isWorked) 4 L r n (lz_g fX11_version [.ref 0] A) else none) ∧
  (∀ L st M, lz_ev tL_isWorked 4 L st M = lo_istore 2 5 (lz_ev tL_isWorked) L st M) ∧
  (∀ L st M, lz_ev tL_isWorked 5 L st M = lo_aload 0 6 (lz_ev tL_isWorked) L st M) ∧
  (∀ L st M, lz_ev tL_isWorked 6 L st M = lo_iload 1 7 (lz_ev tL_isWorked) L st M) ∧
  (∀ L st M, lz_ev tL_isWorked 7 L st M = lo_pushI 0 8 (lz_ev tL_isWorked) L st M) ∧
  (∀ (L : zzLc) (a0 a1 : Int32) (r : List Value) (A : zzMd) (n : Nat), lz_ev tL_isWorked 8 L (.int a1 :: .int a0 :: .ref 0 :: r) (A, n) = bif zz_cat8 r && decide (n ≤ 2641) then lz_bv (lz_ev tL_isWorked) 11 L r n (lz_g fX11_queued [.ref 0, .int a0, .int a1] A) else none) ∧
  (∀ L st M, lz_ev tL_isWorked 11 L st M = lo_istore 3 12 (lz_ev tL_isWorked) L st M) ∧
  (∀ L st M, lz_ev tL_isWorked 12 L st M = lo_aload 0 13 (lz_ev tL_isWorked) L st M) ∧
  (∀ (L : zzLc) (a0 : Nat) (r : List Value) (A : zzMd) (n : Nat), lz_ev tL_isWorked 13 L (.ref a0 :: r) (A, n) = bif zz_cat8 r && decide (n + 1320 ≤ 2641) then lz_bs (lz_ev tL_isWorked) 16 L r (n + 1320) (fL_all [.ref a0] A) else none) ∧
  (∀ L st M, lz_ev tL_isWorked 16 L st M = lo_lstore 4 18 (lz_ev tL_isWorked) L st M) ∧
  (∀ L st M, lz_ev tL_isWorked 18 L st M = lo_aload 0 19 (lz_ev tL_isWorked) L st M) ∧
  (∀ (L : zzLc) (r : List Value) (A : zzMd) (n : Nat), lz_ev tL_isWorked 19 L (.ref 0 :: r) (A, n) = bif zz_cat8 r && decide (n ≤ 2641) then lz_bv (lz_ev tL_isWorked) 22 L r n (lz_g fX11_objects [.ref 0] A) else none) ∧
  (∀ L st M, lz_ev tL_isWorked 22 L st M = lo_istore 6 24 (lz_ev tL_isWorked) L st M) ∧
  (∀ L st M, lz_ev tL_isWorked 24 L st M = lo_aload 0 25 (lz_ev tL_isWorked) L st M) ∧
  (∀ L st M, lz_ev tL_isWorked 25 L st M = lo_pushI 10 27 (lz_ev tL_isWorked) L st M) ∧
  (∀ L st M, lz_ev tL_isWorked 27 L st M = lo_iload 1 28 (lz_ev tL_isWorked) L st M) ∧
  (∀ L st M, lz_ev tL_isWorked 28 L st M = lo_pushI 0 29 (lz_ev tL_isWorked) L st M) ∧
  (∀ L st M, lz_ev tL_isWorked 29 L st M = lo_pushI 0 30 (lz_ev tL_isWorked) L st M) ∧
  (∀ L st M, lz_ev tL_isWorked 30 L st M = lo_pushI 0 31 (lz_ev tL_isWorked) L st M) ∧
  (∀ L st M, lz_ev tL_isWorked 31 L st M = lo_pushI 0 32 (lz_ev tL_isWorked) L st M) ∧
  (∀ L st M, lz_ev tL_isWorked 32 L st M = lo_pushI 0 33 (lz_ev tL_isWorked) L st M) ∧
  (∀ (L : zzLc) (a1 a2 a3 a4 a5 a6 a7 : Int32) (a0 : Nat) (r : List Value) (A : zzMd) (n : Nat), lz_ev tL_isWorked 33 L (.int a7 :: .int a6 :: .int a5 :: .int a4 :: .int a3 :: .int a2 :: .int a1 :: .ref a0 :: r) (A, n) = bif zz_cat8 r && decide (n + 1 ≤ 2641) then lz_bs (lz_ev tL_isWorked) 36 L r (n + 1) (fL_act [.ref a0, .int a1, .int a2, .int a3, .int a4, .int a5, .int a6, .int a7] A) else none) ∧
  (∀ L st M, lz_ev tL_isWorked 36 L st M = lo_istore 7 38 (lz_ev tL_isWorked) L st M) ∧
  (∀ L st M, lz_ev tL_isWorked 38 L st M = lo_iload 7 40 (lz_ev tL_isWorked) L st M) ∧
  (∀ L st M, lz_ev tL_isWorked 40 L st M = lo_if (fun x => decide (¬ x = 0)) 59 43 (lz_ev tL_isWorked) L st M) ∧
  (∀ L st M, lz_ev tL_isWorked 43 L st M = lo_aload 0 44 (lz_ev tL_isWorked) L st M) ∧
  (∀ (L : zzLc) (a0 : Nat) (r : List Value) (A : zzMd) (n : Nat), lz_ev tL_isWorked 44 L (.ref a0 :: r) (A, n) = bif zz_cat8 r && decide (n + 1320 ≤ 2641) then lz_bs (lz_ev tL_isWorked) 47 L r (n + 1320) (fL_all [.ref a0] A) else none) ∧
  (∀ L st M, lz_ev tL_isWorked 47 L st M = lo_lload 4 49 (lz_ev tL_isWorked) L st M) ∧
  (∀ L st M, lz_ev tL_isWorked 49 L st M = lo_lcmp 50 (lz_ev tL_isWorked) L st M) ∧
  (∀ L st M, lz_ev tL_isWorked 50 L st M = lo_if (fun x => decide (¬ x = 0)) 57 53 (lz_ev tL_isWorked) L st M) ∧
  (∀ L st M, lz_ev tL_isWorked 53 L st M = lo_pushI 1 54 (lz_ev tL_isWorked) L st M) ∧
  (∀ L st M, lz_ev tL_isWorked 54 L st M = lo_goto 58 (lz_ev tL_isWorked) L st M) ∧
  (∀ L st M, lz_ev tL_isWorked 57 L st M = lo_pushI 0 58 (lz_ev tL_isWorked) L st M) ∧
  (∀ L st M, lz_ev tL_isWorked 58 L st M = lo_iret 2641 true (lz_ev tL_isWorked) L st M) ∧
  (∀ L st M, lz_ev tL_isWorked 59 L st M = lo_pushI 0 60 (lz_ev tL_isWorked) L st M) ∧
  (∀ L st M, lz_ev tL_isWorked 60 L st M = lo_istore 8 62 (lz_ev tL_isWorked) L st M) ∧
  (∀ L st M, lz_ev tL_isWorked 62 L st M = lo_iload 2 63 (lz_ev tL_isWorked) L st M) ∧
  (∀ L st M, lz_ev tL_isWorked 63 L st M = lo_pushI 1 64 (lz_ev tL_isWorked) L st M) ∧
  (∀ L st M, lz_ev tL_isWorked 64 L st M = lo_ii (fun x y => x + y) 65 (lz_ev tL_isWorked) L st M) ∧
  (∀ L st M, lz_ev tL_isWorked 65 L st M = lo_istore 9 67 (lz_ev tL_isWorked) L st M) ∧
  (∀ L st M, lz_ev tL_isWorked 69 L st M = lo_aload 0 70 (lz_ev tL_isWorked) L st M) ∧
  (∀ (L : zzLc) (r : List Value) (A : zzMd) (n : Nat), lz_ev tL_isWorked 70 L (.ref 0 :: r) (A, n) = bif zz_cat8 r && decide (n ≤ 2641) then lz_bv (lz_ev tL_isWorked) 73 L r n (lz_g fX11_version [.ref 0] A) else none) ∧
  (∀ L st M, lz_ev tL_isWorked 73 L st M = lo_icmp (fun x y => decide (y < x)) 103 76 (lz_ev tL_isWorked) L st M) ∧
  (∀ L st M, lz_ev tL_isWorked 76 L st M = lo_iload 8 78 (lz_ev tL_isWorked) L st M) ∧
  (∀ L st M, lz_ev tL_isWorked 78 L st M = lo_aload 0 79 (lz_ev tL_isWorked) L st M) ∧
  (∀ L st M, lz_ev tL_isWorked 79 L st M = lo_iload 9 81 (lz_ev tL_isWorked) L st M) ∧
  (∀ (L : zzLc) (a0 : Int32) (r : List Value) (A : zzMd) (n : Nat), lz_ev tL_isWorked 81 L (.int a0 :: .ref 0 :: r) (A, n) = bif zz_cat8 r && decide (n ≤ 2641) then lz_bv (lz_ev tL_isWorked) 84 L r n (lz_g fX11_objectOf [.ref 0, .int a0] A) else none) ∧
  (∀ L st M, lz_ev tL_isWorked 84 L st M = lo_iload 6 86 (lz_ev tL_isWorked) L st M) ∧
  (∀ L st M, lz_ev tL_isWorked 86 L st M = lo_icmp (fun x y => decide (x < y)) 93 89 (lz_ev tL_isWorked) L st M) ∧
  (∀ L st M, lz_ev tL_isWorked 89 L st M = lo_pushI 1 90 (lz_ev tL_isWorked) L st M) ∧
  (∀ L st M, lz_ev tL_isWorked 90 L st M = lo_goto 94 (lz_ev tL_isWorked) L st M) ∧
  (∀ L st M, lz_ev tL_isWorked 93 L st M = lo_pushI 0 94 (lz_ev tL_isWorked) L st M) ∧
  (∀ L st M, lz_ev tL_isWorked 94 L st M = lo_ii (fun x y => x + y) 95 (lz_ev tL_isWorked) L st M) ∧
  (∀ L st M, lz_ev tL_isWorked 95 L st M = lo_istore 8 97 (lz_ev tL_isWorked) L st M) ∧
  (∀ L st M, lz_ev tL_isWorked 97 L st M = lo_iinc 9 1 100 (lz_ev tL_isWorked) L st M) ∧
  (∀ L st M, lz_ev tL_isWorked 100 L st M = lo_goto 67 (lz_ev tL_isWorked) L st M) ∧
  (∀ L st M, lz_ev tL_isWorked 103 L st M = lo_iload 7 105 (lz_ev tL_isWorked) L st M) ∧
  (∀ L st M, lz_ev tL_isWorked 105 L st M = lo_pushI 1 106 (lz_ev tL_isWorked) L st M) ∧
  (∀ L st M, lz_ev tL_isWorked 106 L st M = lo_icmp (fun x y => decide (x < y)) 172 109 (lz_ev tL_isWorked) L st M) ∧
  (∀ L st M, lz_ev tL_isWorked 109 L st M = lo_iload 7 111 (lz_ev tL_isWorked) L st M) ∧
  (∀ L st M, lz_ev tL_isWorked 111 L st M = lo_pushI 3 112 (lz_ev tL_isWorked) L st M) ∧
  (∀ L st M, lz_ev tL_isWorked 112 L st M = lo_icmp (fun x y => decide (y < x)) 172 115 (lz_ev tL_isWorked) L st M) ∧
  (∀ L st M, lz_ev tL_isWorked 115 L st M = lo_iload 3 116 (lz_ev tL_isWorked) L st M) ∧
  (∀ L st M, lz_ev tL_isWorked 116 L st M = lo_if (fun x => decide (x < 0)) 172 119 (lz_ev tL_isWorked) L st M) ∧
  (∀ L st M, lz_ev tL_isWorked 119 L st M = lo_aload 0 120 (lz_ev tL_isWorked) L st M) ∧
  (∀ (L : zzLc) (r : List Value) (A : zzMd) (n : Nat), lz_ev tL_isWorked 120 L (.ref 0 :: r) (A, n) = bif zz_cat8 r && decide (n ≤ 2641) then lz_bv (lz_ev tL_isWorked) 123 L r n (lz_g fX11_version [.ref 0] A) else none) ∧
  (∀ L st M, lz_ev tL_isWorked 123 L st M = lo_iload 2 124 (lz_ev tL_isWorked) L st M) ∧
  (∀ L st M, lz_ev tL_isWorked 124 L st M = lo_icmp (fun x y => decide (x < y)) 172 127 (lz_ev tL_isWorked) L st M) ∧
  (∀ L st M, lz_ev tL_isWorked 127 L st M = lo_aload 0 128 (lz_ev tL_isWorked) L st M) ∧
  (∀ (L : zzLc) (r : List Value) (A : zzMd) (n : Nat), lz_ev tL_isWorked 128 L (.ref 0 :: r) (A, n) = bif zz_cat8 r && decide (n ≤ 2641) then lz_bv (lz_ev tL_isWorked) 131 L r n (lz_g fX11_objects [.ref 0] A) else none) ∧
  (∀ L st M, lz_ev tL_isWorked 131 L st M = lo_iload 6 133 (lz_ev tL_isWorked) L st M) ∧
  (∀ L st M, lz_ev tL_isWorked 133 L st M = lo_iload 8 135 (lz_ev tL_isWorked) L st M) ∧
  (∀ L st M, lz_ev tL_isWorked 135 L st M = lo_ii (fun x y => x + y) 136 (lz_ev tL_isWorked) L st M) ∧
  (∀ L st M, lz_ev tL_isWorked 136 L st M = lo_icmp (fun x y => decide (¬ x = y)) 172 139 (lz_ev tL_isWorked) L st M) ∧
  (∀ L st M, lz_ev tL_isWorked 139 L st M = lo_iload 8 141 (lz_ev tL_isWorked) L st M) ∧
  (∀ L st M, lz_ev tL_isWorked 141 L st M = lo_pushI 1 142 (lz_ev tL_isWorked) L st M) ∧
  (∀ L st M, lz_ev tL_isWorked 142 L st M = lo_icmp (fun x y => decide (y < x)) 172 145 (lz_ev tL_isWorked) L st M) ∧
  (∀ L st M, lz_ev tL_isWorked 145 L st M = lo_iload 7 147 (lz_ev tL_isWorked) L st M) ∧
  (∀ L st M, lz_ev tL_isWorked 147 L st M = lo_pushI 2 148 (lz_ev tL_isWorked) L st M) ∧
  (∀ L st M, lz_ev tL_isWorked 148 L st M = lo_icmp (fun x y => decide (¬ x = y)) 168 151 (lz_ev tL_isWorked) L st M) ∧
  (∀ L st M, lz_ev tL_isWorked 151 L st M = lo_aload 0 152 (lz_ev tL_isWorked) L st M) ∧
  (∀ (L : zzLc) (r : List Value) (A : zzMd) (n : Nat), lz_ev tL_isWorked 152 L (.ref 0 :: r) (A, n) = bif zz_cat8 r && decide (n ≤ 2641) then lz_bv (lz_ev tL_isWorked) 155 L r n (lz_g fX11_version [.ref 0] A) else none) ∧
  (∀ L st M, lz_ev tL_isWorked 155 L st M = lo_iload 2 156 (lz_ev tL_isWorked) L st M) ∧
  (∀ L st M, lz_ev tL_isWorked 156 L st M = lo_icmp (fun x y => decide (¬ x = y)) 172 159 (lz_ev tL_isWorked) L st M) ∧
  (∀ L st M, lz_ev tL_isWorked 159 L st M = lo_aload 0 160 (lz_ev tL_isWorked) L st M) ∧
  (∀ (L : zzLc) (r : List Value) (A : zzMd) (n : Nat), lz_ev tL_isWorked 160 L (.ref 0 :: r) (A, n) = bif zz_cat8 r && decide (n ≤ 2641) then lz_bv (lz_ev tL_isWorked) 163 L r n (lz_g fX11_objects [.ref 0] A) else none) ∧
  (∀ L st M, lz_ev tL_isWorked 163 L st M = lo_iload 6 165 (lz_ev tL_isWorked) L st M) ∧
  (∀ L st M, lz_ev tL_isWorked 165 L st M = lo_icmp (fun x y => decide (¬ x = y)) 172 168 (lz_ev tL_isWorked) L st M) ∧
  (∀ L st M, lz_ev tL_isWorked 168 L st M = lo_pushI 1 169 (lz_ev tL_isWorked) L st M) ∧
  (∀ L st M, lz_ev tL_isWorked 169 L st M = lo_goto 173 (lz_ev tL_isWorked) L st M) ∧
  (∀ L st M, lz_ev tL_isWorked 172 L st M = lo_pushI 0 173 (lz_ev tL_isWorked) L st M) ∧
  (∀ L st M, lz_ev tL_isWorked 173 L st M = lo_iret 2641 true (lz_ev tL_isWorked) L st M) :=
  ⟨lz_1 rfl tl_L_isWorked, fun L  r A n => (lz_1 rfl tl_L_isWorked _ _ _).trans rfl, lz_1 rfl tl_L_isWorked, lz_1 rfl tl_L_isWorked, lz_1 rfl tl_L_isWorked, lz_1 rfl tl_L_isWorked, fun L a0 a1 r A n => (lz_1 rfl tl_L_isWorked _ _ _).trans rfl, lz_1 rfl tl_L_isWorked, lz_1 rfl tl_L_isWorked, fun L a0 r A n => (lz_1 rfl tl_L_isWorked _ _ _).trans rfl, lz_1 rfl tl_L_isWorked, lz_1 rfl tl_L_isWorked, fun L  r A n => (lz_1 rfl tl_L_isWorked _ _ _).trans rfl, lz_1 rfl tl_L_isWorked, lz_1 rfl tl_L_isWorked, lz_1 rfl tl_L_isWorked, lz_1 rfl tl_L_isWorked, lz_1 rfl tl_L_isWorked, lz_1 rfl tl_L_isWorked, lz_1 rfl tl_L_isWorked, lz_1 rfl tl_L_isWorked, lz_1 rfl tl_L_isWorked, fun L a1 a2 a3 a4 a5 a6 a7 a0 r A n => (lz_1 rfl tl_L_isWorked _ _ _).trans rfl, lz_1 rfl tl_L_isWorked, lz_1 rfl tl_L_isWorked, lz_1 rfl tl_L_isWorked, lz_1 rfl tl_L_isWorked, fun L a0 r A n => (lz_1 rfl tl_L_isWorked _ _ _).trans rfl, lz_1 rfl tl_L_isWorked, lz_1 rfl tl_L_isWorked, lz_1 rfl tl_L_isWorked, lz_1 rfl tl_L_isWorked, lz_1 rfl tl_L_isWorked, lz_1 rfl tl_L_isWorked, lz_1 rfl tl_L_isWorked, lz_1 rfl tl_L_isWorked, lz_1 rfl tl_L_isWorked, lz_1 rfl tl_L_isWorked, lz_1 rfl tl_L_isWorked, lz_1 rfl tl_L_isWorked, lz_1 rfl tl_L_isWorked, lz_1 rfl tl_L_isWorked, fun L  r A n => (lz_1 rfl tl_L_isWorked _ _ _).trans rfl, lz_1 rfl tl_L_isWorked, lz_1 rfl tl_L_isWorked, lz_1 rfl tl_L_isWorked, lz_1 rfl tl_L_isWorked, fun L a0 r A n => (lz_1 rfl tl_L_isWorked _ _ _).trans rfl, lz_1 rfl tl_L_isWorked, lz_1 rfl tl_L_isWorked, lz_1 rfl tl_L_isWorked, lz_1 rfl tl_L_isWorked, lz_1 rfl tl_L_isWorked, lz_1 rfl tl_L_isWorked, lz_1 rfl tl_L_isWorked, lz_1 rfl tl_L_isWorked, lz_1 rfl tl_L_isWorked, lz_1 rfl tl_L_isWorked, lz_1 rfl tl_L_isWorked, lz_1 rfl tl_L_isWorked, lz_1 rfl tl_L_isWorked, lz_1 rfl tl_L_isWorked, lz_1 rfl tl_L_isWorked, lz_1 rfl tl_L_isWorked, lz_1 rfl tl_L_isWorked, lz_1 rfl tl_L_isWorked, fun L  r A n => (lz_1 rfl tl_L_isWorked _ _ _).trans rfl, lz_1 rfl tl_L_isWorked, lz_1 rfl tl_L_isWorked, lz_1 rfl tl_L_isWorked, fun L  r A n => (lz_1 rfl tl_L_isWorked _ _ _).trans rfl, lz_1 rfl tl_L_isWorked, lz_1 rfl tl_L_isWorked, lz_1 rfl tl_L_isWorked, lz_1 rfl tl_L_isWorked, lz_1 rfl tl_L_isWorked, lz_1 rfl tl_L_isWorked, lz_1 rfl tl_L_isWorked, lz_1 rfl tl_L_isWorked, lz_1 rfl tl_L_isWorked, lz_1 rfl tl_L_isWorked, lz_1 rfl tl_L_isWorked, fun L  r A n => (lz_1 rfl tl_L_isWorked _ _ _).trans rfl, lz_1 rfl tl_L_isWorked, lz_1 rfl tl_L_isWorked, lz_1 rfl tl_L_isWorked, fun L  r A n => (lz_1 rfl tl_L_isWorked _ _ _).trans rfl, lz_1 rfl tl_L_isWorked, lz_1 rfl tl_L_isWorked, lz_1 rfl tl_L_isWorked, lz_1 rfl tl_L_isWorked, lz_1 rfl tl_L_isWorked, lz_1 rfl tl_L_isWorked⟩
set_option maxRecDepth 100000 in
theorem e_L_isWorked_67 : (∀ L st M, lz_ev tL_isWorked 67 L st M = lo_iload 9 69 (lz_ev tL_isWorked) L st M) := lz_1 rfl tl_L_isWorked
theorem s_L_isWorked (a1 : Int32) (a0 : Nat) {A A' : zzMd} {v : Option Value} {n : Nat} (h : lz_ev tL_isWorked 0 [some (.ref a0), some (.int a1), none, none, none, none, none, none, none, none] [] (A, 0) = some (v, (A', n))) : fL_isWorked [.ref a0, .int a1] A = some (v, A') := lz_fn_of (T := tL_isWorked) (nL := 10) (Nat.le_of_ble_eq_true rfl) h
end

section
set_option maxRecDepth 100000 in
theorem e_L_law_p0 (sc : List Int32) : (∀ L st M, lz_ev (tL_law sc) 17 L st M = lo_pushI 0 18 (lz_ev (tL_law sc)) L st M) ∧
  (∀ L st M, lz_ev (tL_law sc) 18 L st M = lo_istore 4 20 (lz_ev (tL_law sc)) L st M) ∧
  (∀ L st M, lz_ev (tL_law sc) 20 L st M = lo_aload 1 21 (lz_ev (tL_law sc)) L st M) ∧
  (∀ L st M, lz_ev (tL_law sc) 21 L st M = lo_pushI 0 22 (lz_ev (tL_law sc)) L st M) ∧
  (∀ (L : zzLc) (a1 : Int32) (a0 : Nat) (r : List Value) (A : zzMd) (n : Nat), lz_ev (tL_law sc) 22 L (.int a1 :: .ref a0 :: r) (A, n) = bif zz_cat8 r && decide (n + 3600 ≤ 727906) then lz_bs (lz_ev (tL_law sc)) 25 L r (n + 3600) (fL_isRefused [.ref a0, .int a1] A) else none) ∧
  (∀ L st M, lz_ev (tL_law sc) 25 L st M = lo_if (fun x => decide (x = 0)) 47 28 (lz_ev (tL_law sc)) L st M) ∧
  (∀ L st M, lz_ev (tL_law sc) 28 L st M = lo_aload 1 29 (lz_ev (tL_law sc)) L st M) ∧
  (∀ L st M, lz_ev (tL_law sc) 29 L st M = lo_pushI 1 30 (lz_ev (tL_law sc)) L st M) ∧
  (∀ (L : zzLc) (a1 : Int32) (a0 : Nat) (r : List Value) (A : zzMd) (n : Nat), lz_ev (tL_law sc) 30 L (.int a1 :: .ref a0 :: r) (A, n) = bif zz_cat8 r && decide (n + 3600 ≤ 727906) then lz_bs (lz_ev (tL_law sc)) 33 L r (n + 3600) (fL_isRefused [.ref a0, .int a1] A) else none) ∧
  (∀ L st M, lz_ev (tL_law sc) 33 L st M = lo_if (fun x => decide (x = 0)) 47 36 (lz_ev (tL_law sc)) L st M) ∧
  (∀ L st M, lz_ev (tL_law sc) 36 L st M = lo_aload 1 37 (lz_ev (tL_law sc)) L st M) ∧
  (∀ (L : zzLc) (r : List Value) (A : zzMd) (n : Nat), lz_ev (tL_law sc) 37 L (.ref 0 :: r) (A, n) = bif zz_cat8 r && decide (n ≤ 727906) then lz_bv (lz_ev (tL_law sc)) 40 L r n (lz_g fX11_isSettled [.ref 0] A) else none) ∧
  (∀ L st M, lz_ev (tL_law sc) 40 L st M = lo_if (fun x => decide (x = 0)) 47 43 (lz_ev (tL_law sc)) L st M) ∧
  (∀ L st M, lz_ev (tL_law sc) 43 L st M = lo_pushI 1 44 (lz_ev (tL_law sc)) L st M) ∧
  (∀ L st M, lz_ev (tL_law sc) 44 L st M = lo_goto 48 (lz_ev (tL_law sc)) L st M) ∧
  (∀ L st M, lz_ev (tL_law sc) 47 L st M = lo_pushI 0 48 (lz_ev (tL_law sc)) L st M) ∧
  (∀ L st M, lz_ev (tL_law sc) 48 L st M = lo_istore 5 50 (lz_ev (tL_law sc)) L st M) ∧
  (∀ L st M, lz_ev (tL_law sc) 50 L st M = lo_pushI 0 51 (lz_ev (tL_law sc)) L st M) ∧
  (∀ L st M, lz_ev (tL_law sc) 51 L st M = lo_istore 6 53 (lz_ev (tL_law sc)) L st M) ∧
  (∀ L st M, lz_ev (tL_law sc) 55 L st M = lo_pushI 110 57 (lz_ev (tL_law sc)) L st M) ∧
  (∀ L st M, lz_ev (tL_law sc) 57 L st M = lo_icmp (fun x y => decide (y ≤ x)) 1788 60 (lz_ev (tL_law sc)) L st M) ∧
  (∀ L st M, lz_ev (tL_law sc) 60 L st M = lo_iload 5 62 (lz_ev (tL_law sc)) L st M) ∧
  (∀ L st M, lz_ev (tL_law sc) 62 L st M = lo_if (fun x => decide (x = 0)) 1788 65 (lz_ev (tL_law sc)) L st M) ∧
  (∀ L st M, lz_ev (tL_law sc) 65 L st M = lo_aload 1 66 (lz_ev (tL_law sc)) L st M) ∧
  (∀ (L : zzLc) (r : List Value) (A : zzMd) (n : Nat), lz_ev (tL_law sc) 66 L (.ref 0 :: r) (A, n) = bif zz_cat8 r && decide (n ≤ 727906) then lz_bv (lz_ev (tL_law sc)) 69 L r n (lz_g fX11_version [.ref 0] A) else none) ∧
  (∀ L st M, lz_ev (tL_law sc) 69 L st M = lo_pushI 300 72 (lz_ev (tL_law sc)) L st M) ∧
  (∀ L st M, lz_ev (tL_law sc) 72 L st M = lo_icmp (fun x y => decide (y ≤ x)) 1788 75 (lz_ev (tL_law sc)) L st M) ∧
  (∀ L st M, lz_ev (tL_law sc) 75 L st M = lo_aload 0 76 (lz_ev (tL_law sc)) L st M) ∧
  (∀ L st M, lz_ev (tL_law sc) 76 L st M = lo_iload 6 78 (lz_ev (tL_law sc)) L st M) ∧
  (∀ (L : zzLc) (a1 : Int32) (a0 : Nat) (r : List Value) (A : zzMd) (n : Nat), lz_ev (tL_law sc) 78 L (.int a1 :: .ref a0 :: r) (A, n) = bif zz_cat8 r && decide (n + 0 ≤ 727906) then lz_bs (lz_ev (tL_law sc)) 81 L r (n + 0) ((fL_dice sc) [.ref a0, .int a1] A) else none) ∧
  (∀ L st M, lz_ev (tL_law sc) 81 L st M = lo_istore 7 83 (lz_ev (tL_law sc)) L st M) ∧
  (∀ L st M, lz_ev (tL_law sc) 83 L st M = lo_iload 7 85 (lz_ev (tL_law sc)) L st M) ∧
  (∀ L st M, lz_ev (tL_law sc) 85 L st M = lo_pushI 32 87 (lz_ev (tL_law sc)) L st M) ∧
  (∀ L st M, lz_ev (tL_law sc) 87 L st M = lo_iid (fun x y => x / y) 88 (lz_ev (tL_law sc)) L st M) ∧
  (∀ L st M, lz_ev (tL_law sc) 88 L st M = lo_istore 8 90 (lz_ev (tL_law sc)) L st M) ∧
  (∀ L st M, lz_ev (tL_law sc) 90 L st M = lo_iload 7 92 (lz_ev (tL_law sc)) L st M) ∧
  (∀ L st M, lz_ev (tL_law sc) 92 L st M = lo_pushI 32 94 (lz_ev (tL_law sc)) L st M) ∧
  (∀ L st M, lz_ev (tL_law sc) 94 L st M = lo_iid (fun x y => x - x / y * y) 95 (lz_ev (tL_law sc)) L st M) ∧
  (∀ L st M, lz_ev (tL_law sc) 95 L st M = lo_istore 9 97 (lz_ev (tL_law sc)) L st M) ∧
  (∀ L st M, lz_ev (tL_law sc) 97 L st M = lo_aload 1 98 (lz_ev (tL_law sc)) L st M) ∧
  (∀ (L : zzLc) (r : List Value) (A : zzMd) (n : Nat), lz_ev (tL_law sc) 98 L (.ref 0 :: r) (A, n) = bif zz_cat8 r && decide (n ≤ 727906) then lz_bv (lz_ev (tL_law sc)) 101 L r n (lz_g fX11_objects [.ref 0] A) else none) ∧
  (∀ L st M, lz_ev (tL_law sc) 101 L st M = lo_istore 10 103 (lz_ev (tL_law sc)) L st M) ∧
  (∀ L st M, lz_ev (tL_law sc) 103 L st M = lo_iload 10 105 (lz_ev (tL_law sc)) L st M) ∧
  (∀ L st M, lz_ev (tL_law sc) 105 L st M = lo_if (fun x => decide (¬ x = 0)) 112 108 (lz_ev (tL_law sc)) L st M) ∧
  (∀ L st M, lz_ev (tL_law sc) 108 L st M = lo_pushI 0 109 (lz_ev (tL_law sc)) L st M) ∧
  (∀ L st M, lz_ev (tL_law sc) 109 L st M = lo_goto 117 (lz_ev (tL_law sc)) L st M) ∧
  (∀ L st M, lz_ev (tL_law sc) 112 L st M = lo_iload 8 114 (lz_ev (tL_law sc)) L st M) ∧
  (∀ L st M, lz_ev (tL_law sc) 114 L st M = lo_iload 10 116 (lz_ev (tL_law sc)) L st M) ∧
  (∀ L st M, lz_ev (tL_law sc) 116 L st M = lo_iid (fun x y => x - x / y * y) 117 (lz_ev (tL_law sc)) L st M) ∧
  (∀ L st M, lz_ev (tL_law sc) 117 L st M = lo_istore 11 119 (lz_ev (tL_law sc)) L st M) ∧
  (∀ L st M, lz_ev (tL_law sc) 119 L st M = lo_iload 10 121 (lz_ev (tL_law sc)) L st M) ∧
  (∀ L st M, lz_ev (tL_law sc) 121 L st M = lo_if (fun x => decide (¬ x = 0)) 128 124 (lz_ev (tL_law sc)) L st M) ∧
  (∀ L st M, lz_ev (tL_law sc) 124 L st M = lo_pushI 0 125 (lz_ev (tL_law sc)) L st M) ∧
  (∀ L st M, lz_ev (tL_law sc) 125 L st M = lo_goto 134 (lz_ev (tL_law sc)) L st M) ∧
  (∀ L st M, lz_ev (tL_law sc) 128 L st M = lo_aload 1 129 (lz_ev (tL_law sc)) L st M) ∧
  (∀ L st M, lz_ev (tL_law sc) 129 L st M = lo_iload 11 131 (lz_ev (tL_law sc)) L st M) ∧
  (∀ (L : zzLc) (a0 : Int32) (r : List Value) (A : zzMd) (n : Nat), lz_ev (tL_law sc) 131 L (.int a0 :: .ref 0 :: r) (A, n) = bif zz_cat8 r && decide (n ≤ 727906) then lz_bv (lz_ev (tL_law sc)) 134 L r n (lz_g fX11_kindOf [.ref 0, .int a0] A) else none) ∧
  (∀ L st M, lz_ev (tL_law sc) 134 L st M = lo_istore 12 136 (lz_ev (tL_law sc)) L st M) ∧
  (∀ L st M, lz_ev (tL_law sc) 136 L st M = lo_aload 1 137 (lz_ev (tL_law sc)) L st M) ∧
  (∀ (L : zzLc) (r : List Value) (A : zzMd) (n : Nat), lz_ev (tL_law sc) 137 L (.ref 0 :: r) (A, n) = bif zz_cat8 r && decide (n ≤ 727906) then lz_bv (lz_ev (tL_law sc)) 140 L r n (lz_g fX11_version [.ref 0] A) else none) ∧
  (∀ L st M, lz_ev (tL_law sc) 140 L st M = lo_istore 13 142 (lz_ev (tL_law sc)) L st M) ∧
  (∀ L st M, lz_ev (tL_law sc) 142 L st M = lo_iload 10 144 (lz_ev (tL_law sc)) L st M) ∧
  (∀ L st M, lz_ev (tL_law sc) 144 L st M = lo_pushI 3 145 (lz_ev (tL_law sc)) L st M) ∧
  (∀ L st M, lz_ev (tL_law sc) 145 L st M = lo_icmp (fun x y => decide (x < y)) 161 148 (lz_ev (tL_law sc)) L st M) ∧
  (∀ L st M, lz_ev (tL_law sc) 148 L st M = lo_iload 9 150 (lz_ev (tL_law sc)) L st M) ∧
  (∀ L st M, lz_ev (tL_law sc) 150 L st M = lo_pushI 3 151 (lz_ev (tL_law sc)) L st M) ∧
  (∀ L st M, lz_ev (tL_law sc) 151 L st M = lo_icmp (fun x y => decide (y ≤ x)) 298 154 (lz_ev (tL_law sc)) L st M) ∧
  (∀ L st M, lz_ev (tL_law sc) 154 L st M = lo_iload 10 156 (lz_ev (tL_law sc)) L st M) ∧
  (∀ L st M, lz_ev (tL_law sc) 156 L st M = lo_pushI 16 158 (lz_ev (tL_law sc)) L st M) ∧
  (∀ L st M, lz_ev (tL_law sc) 158 L st M = lo_icmp (fun x y => decide (y ≤ x)) 298 161 (lz_ev (tL_law sc)) L st M) ∧
  (∀ L st M, lz_ev (tL_law sc) 161 L st M = lo_iload 10 163 (lz_ev (tL_law sc)) L st M) ∧
  (∀ L st M, lz_ev (tL_law sc) 163 L st M = lo_pushI 3 164 (lz_ev (tL_law sc)) L st M) ∧
  (∀ L st M, lz_ev (tL_law sc) 164 L st M = lo_icmp (fun x y => decide (y ≤ x)) 178 167 (lz_ev (tL_law sc)) L st M) ∧
  (∀ L st M, lz_ev (tL_law sc) 167 L st M = lo_pushI 4 168 (lz_ev (tL_law sc)) L st M) ∧
  (∀ L st M, lz_ev (tL_law sc) 168 L st M = lo_pushI 1 169 (lz_ev (tL_law sc)) L st M) ∧
  (∀ L st M, lz_ev (tL_law sc) 169 L st M = lo_iload 10 171 (lz_ev (tL_law sc)) L st M) ∧
  (∀ L st M, lz_ev (tL_law sc) 171 L st M = lo_pushI 2 172 (lz_ev (tL_law sc)) L st M) ∧
  (∀ L st M, lz_ev (tL_law sc) 172 L st M = lo_iid (fun x y => x - x / y * y) 173 (lz_ev (tL_law sc)) L st M) ∧
  (∀ L st M, lz_ev (tL_law sc) 173 L st M = lo_ii (fun x y => x - y) 174 (lz_ev (tL_law sc)) L st M) ∧
  (∀ L st M, lz_ev (tL_law sc) 174 L st M = lo_ii (fun x y => x * y) 175 (lz_ev (tL_law sc)) L st M) ∧
  (∀ L st M, lz_ev (tL_law sc) 175 L st M = lo_goto 196 (lz_ev (tL_law sc)) L st M) ∧
  (∀ L st M, lz_ev (tL_law sc) 178 L st M = lo_iload 8 180 (lz_ev (tL_law sc)) L st M) ∧
  (∀ L st M, lz_ev (tL_law sc) 180 L st M = lo_pushI 6 182 (lz_ev (tL_law sc)) L st M) ∧
  (∀ L st M, lz_ev (tL_law sc) 182 L st M = lo_iid (fun x y => x - x / y * y) 183 (lz_ev (tL_law sc)) L st M) ∧
  (∀ L st M, lz_ev (tL_law sc) 183 L st M = lo_pushI 1 184 (lz_ev (tL_law sc)) L st M) ∧
  (∀ L st M, lz_ev (tL_law sc) 184 L st M = lo_icmp (fun x y => decide (¬ x = y)) 191 187 (lz_ev (tL_law sc)) L st M) ∧
  (∀ L st M, lz_ev (tL_law sc) 187 L st M = lo_pushI 0 188 (lz_ev (tL_law sc)) L st M) ∧
  (∀ L st M, lz_ev (tL_law sc) 188 L st M = lo_goto 196 (lz_ev (tL_law sc)) L st M) ∧
  (∀ L st M, lz_ev (tL_law sc) 191 L st M = lo_iload 8 193 (lz_ev (tL_law sc)) L st M) ∧
  (∀ L st M, lz_ev (tL_law sc) 193 L st M = lo_pushI 6 195 (lz_ev (tL_law sc)) L st M) ∧
  (∀ L st M, lz_ev (tL_law sc) 195 L st M = lo_iid (fun x y => x - x / y * y) 196 (lz_ev (tL_law sc)) L st M) ∧
  (∀ L st M, lz_ev (tL_law sc) 196 L st M = lo_istore 14 198 (lz_ev (tL_law sc)) L st M) ∧
  (∀ L st M, lz_ev (tL_law sc) 198 L st M = lo_aload 1 199 (lz_ev (tL_law sc)) L st M) ∧
  (∀ L st M, lz_ev (tL_law sc) 199 L st M = lo_pushI 0 200 (lz_ev (tL_law sc)) L st M) ∧
  (∀ L st M, lz_ev (tL_law sc) 200 L st M = lo_iload 8 202 (lz_ev (tL_law sc)) L st M) ∧
  (∀ L st M, lz_ev (tL_law sc) 202 L st M = lo_pushI 6 204 (lz_ev (tL_law sc)) L st M) ∧
  (∀ L st M, lz_ev (tL_law sc) 204 L st M = lo_iid (fun x y => x / y) 205 (lz_ev (tL_law sc)) L st M) ∧
  (∀ L st M, lz_ev (tL_law sc) 205 L st M = lo_pushI 4 206 (lz_ev (tL_law sc)) L st M) ∧
  (∀ L st M, lz_ev (tL_law sc) 206 L st M = lo_iid (fun x y => x - x / y * y) 207 (lz_ev (tL_law sc)) L st M) ∧
  (∀ L st M, lz_ev (tL_law sc) 207 L st M = lo_iload 14 209 (lz_ev (tL_law sc)) L st M) ∧
  (∀ L st M, lz_ev (tL_law sc) 209 L st M = lo_pushI 0 210 (lz_ev (tL_law sc)) L st M) ∧
  (∀ L st M, lz_ev (tL_law sc) 210 L st M = lo_pushI 0 211 (lz_ev (tL_law sc)) L st M) ∧
  (∀ L st M, lz_ev (tL_law sc) 211 L st M = lo_pushI 0 212 (lz_ev (tL_law sc)) L st M) ∧
  (∀ L st M, lz_ev (tL_law sc) 212 L st M = lo_pushI 0 213 (lz_ev (tL_law sc)) L st M) ∧
  (∀ (L : zzLc) (a1 a2 a3 a4 a5 a6 a7 : Int32) (a0 : Nat) (r : List Value) (A : zzMd) (n : Nat), lz_ev (tL_law sc) 213 L (.int a7 :: .int a6 :: .int a5 :: .int a4 :: .int a3 :: .int a2 :: .int a1 :: .ref a0 :: r) (A, n) = bif zz_cat8 r && decide (n + 1 ≤ 727906) then lz_bs (lz_ev (tL_law sc)) 216 L r (n + 1) (fL_act [.ref a0, .int a1, .int a2, .int a3, .int a4, .int a5, .int a6, .int a7] A) else none) ∧
  (∀ L st M, lz_ev (tL_law sc) 216 L st M = lo_istore 15 218 (lz_ev (tL_law sc)) L st M) ∧
  (∀ L st M, lz_ev (tL_law sc) 218 L st M = lo_iload 15 220 (lz_ev (tL_law sc)) L st M) ∧
  (∀ L st M, lz_ev (tL_law sc) 220 L st M = lo_pushI (-1273) 223 (lz_ev (tL_law sc)) L st M) ∧
  (∀ L st M, lz_ev (tL_law sc) 223 L st M = lo_icmp (fun x y => decide (¬ x = y)) 240 226 (lz_ev (tL_law sc)) L st M) ∧
  (∀ L st M, lz_ev (tL_law sc) 226 L st M = lo_iload 14 228 (lz_ev (tL_law sc)) L st M) ∧
  (∀ L st M, lz_ev (tL_law sc) 228 L st M = lo_pushI 2 229 (lz_ev (tL_law sc)) L st M) ∧
  (∀ L st M, lz_ev (tL_law sc) 229 L st M = lo_icmp (fun x y => decide (¬ x = y)) 236 232 (lz_ev (tL_law sc)) L st M) ∧
  (∀ L st M, lz_ev (tL_law sc) 232 L st M = lo_pushI 1 233 (lz_ev (tL_law sc)) L st M) ∧
  (∀ L st M, lz_ev (tL_law sc) 233 L st M = lo_goto 293 (lz_ev (tL_law sc)) L st M) ∧
  (∀ L st M, lz_ev (tL_law sc) 236 L st M = lo_pushI 0 237 (lz_ev (tL_law sc)) L st M) ∧
  (∀ L st M, lz_ev (tL_law sc) 237 L st M = lo_goto 293 (lz_ev (tL_law sc)) L st M) ∧
  (∀ L st M, lz_ev (tL_law sc) 240 L st M = lo_iload 15 242 (lz_ev (tL_law sc)) L st M) ∧
  (∀ L st M, lz_ev (tL_law sc) 242 L st M = lo_iload 10 244 (lz_ev (tL_law sc)) L st M) ∧
  (∀ L st M, lz_ev (tL_law sc) 244 L st M = lo_icmp (fun x y => decide (¬ x = y)) 292 247 (lz_ev (tL_law sc)) L st M) ∧
  (∀ L st M, lz_ev (tL_law sc) 247 L st M = lo_aload 1 248 (lz_ev (tL_law sc)) L st M) ∧
  (∀ L st M, lz_ev (tL_law sc) 248 L st M = lo_iload 10 250 (lz_ev (tL_law sc)) L st M) ∧
  (∀ (L : zzLc) (a0 : Int32) (r : List Value) (A : zzMd) (n : Nat), lz_ev (tL_law sc) 250 L (.int a0 :: .ref 0 :: r) (A, n) = bif zz_cat8 r && decide (n ≤ 727906) then lz_bv (lz_ev (tL_law sc)) 253 L r n (lz_g fX11_kindOf [.ref 0, .int a0] A) else none) ∧
  (∀ L st M, lz_ev (tL_law sc) 253 L st M = lo_iload 14 255 (lz_ev (tL_law sc)) L st M) ∧
  (∀ L st M, lz_ev (tL_law sc) 255 L st M = lo_icmp (fun x y => decide (¬ x = y)) 292 258 (lz_ev (tL_law sc)) L st M) ∧
  (∀ L st M, lz_ev (tL_law sc) 258 L st M = lo_aload 1 259 (lz_ev (tL_law sc)) L st M) ∧
  (∀ (L : zzLc) (r : List Value) (A : zzMd) (n : Nat), lz_ev (tL_law sc) 259 L (.ref 0 :: r) (A, n) = bif zz_cat8 r && decide (n ≤ 727906) then lz_bv (lz_ev (tL_law sc)) 262 L r n (lz_g fX11_version [.ref 0] A) else none) ∧
  (∀ L st M, lz_ev (tL_law sc) 262 L st M = lo_iload 13 264 (lz_ev (tL_law sc)) L st M) ∧
  (∀ L st M, lz_ev (tL_law sc) 264 L st M = lo_pushI 1 265 (lz_ev (tL_law sc)) L st M) ∧
  (∀ L st M, lz_ev (tL_law sc) 265 L st M = lo_ii (fun x y => x + y) 266 (lz_ev (tL_law sc)) L st M) ∧
  (∀ L st M, lz_ev (tL_law sc) 266 L st M = lo_icmp (fun x y => decide (¬ x = y)) 292 269 (lz_ev (tL_law sc)) L st M) ∧
  (∀ L st M, lz_ev (tL_law sc) 269 L st M = lo_aload 1 270 (lz_ev (tL_law sc)) L st M) ∧
  (∀ L st M, lz_ev (tL_law sc) 270 L st M = lo_iload 10 272 (lz_ev (tL_law sc)) L st M) ∧
  (∀ (L : zzLc) (a0 : Int32) (r : List Value) (A : zzMd) (n : Nat), lz_ev (tL_law sc) 272 L (.int a0 :: .ref 0 :: r) (A, n) = bif zz_cat8 r && decide (n ≤ 727906) then lz_bv (lz_ev (tL_law sc)) 275 L r n (lz_g fX11_goingOf [.ref 0, .int a0] A) else none) ∧
  (∀ L st M, lz_ev (tL_law sc) 275 L st M = lo_if (fun x => decide (¬ x = 0)) 292 278 (lz_ev (tL_law sc)) L st M) ∧
  (∀ L st M, lz_ev (tL_law sc) 278 L st M = lo_aload 1 279 (lz_ev (tL_law sc)) L st M) ∧
  (∀ L st M, lz_ev (tL_law sc) 279 L st M = lo_iload 10 281 (lz_ev (tL_law sc)) L st M) ∧
  (∀ (L : zzLc) (a0 : Int32) (r : List Value) (A : zzMd) (n : Nat), lz_ev (tL_law sc) 281 L (.int a0 :: .ref 0 :: r) (A, n) = bif zz_cat8 r && decide (n ≤ 727906) then lz_bv (lz_ev (tL_law sc)) 284 L r n (lz_g fX11_ownerOf [.ref 0, .int a0] A) else none) ∧
  (∀ L st M, lz_ev (tL_law sc) 284 L st M = lo_pushI (-1) 285 (lz_ev (tL_law sc)) L st M) ∧
  (∀ L st M, lz_ev (tL_law sc) 285 L st M = lo_icmp (fun x y => decide (¬ x = y)) 292 288 (lz_ev (tL_law sc)) L st M) ∧
  (∀ L st M, lz_ev (tL_law sc) 288 L st M = lo_pushI 1 289 (lz_ev (tL_law sc)) L st M) ∧
  (∀ L st M, lz_ev (tL_law sc) 289 L st M = lo_goto 293 (lz_ev (tL_law sc)) L st M) ∧
  (∀ L st M, lz_ev (tL_law sc) 292 L st M = lo_pushI 0 293 (lz_ev (tL_law sc)) L st M) ∧
  (∀ L st M, lz_ev (tL_law sc) 293 L st M = lo_istore 5 295 (lz_ev (tL_law sc)) L st M) ∧
  (∀ L st M, lz_ev (tL_law sc) 295 L st M = lo_goto 1715 (lz_ev (tL_law sc)) L st M) ∧
  (∀ L st M, lz_ev (tL_law sc) 298 L st M = lo_iload 9 300 (lz_ev (tL_law sc)) L st M) ∧
  (∀ L st M, lz_ev (tL_law sc) 300 L st M = lo_pushI 9 302 (lz_ev (tL_law sc)) L st M) ∧
  (∀ L st M, lz_ev (tL_law sc) 302 L st M = lo_icmp (fun x y => decide (y ≤ x)) 706 305 (lz_ev (tL_law sc)) L st M) ∧
  (∀ L st M, lz_ev (tL_law sc) 305 L st M = lo_iload 12 307 (lz_ev (tL_law sc)) L st M) ∧
  (∀ L st M, lz_ev (tL_law sc) 307 L st M = lo_if (fun x => decide (¬ x = 0)) 321 310 (lz_ev (tL_law sc)) L st M) ∧
  (∀ L st M, lz_ev (tL_law sc) 310 L st M = lo_iload 8 312 (lz_ev (tL_law sc)) L st M) :=
  ⟨lz_1 rfl (tl_L_law sc), lz_1 rfl (tl_L_law sc), lz_1 rfl (tl_L_law sc), lz_1 rfl (tl_L_law sc), fun L a1 a0 r A n => (lz_1 rfl (tl_L_law sc) _ _ _).trans rfl, lz_1 rfl (tl_L_law sc), lz_1 rfl (tl_L_law sc), lz_1 rfl (tl_L_law sc), fun L a1 a0 r A n => (lz_1 rfl (tl_L_law sc) _ _ _).trans rfl, lz_1 rfl (tl_L_law sc), lz_1 rfl (tl_L_law sc), fun L  r A n => (lz_1 rfl (tl_L_law sc) _ _ _).trans rfl, lz_1 rfl (tl_L_law sc), lz_1 rfl (tl_L_law sc), lz_1 rfl (tl_L_law sc), lz_1 rfl (tl_L_law sc), lz_1 rfl (tl_L_law sc), lz_1 rfl (tl_L_law sc), lz_1 rfl (tl_L_law sc), lz_1 rfl (tl_L_law sc), lz_1 rfl (tl_L_law sc), lz_1 rfl (tl_L_law sc), lz_1 rfl (tl_L_law sc), lz_1 rfl (tl_L_law sc), fun L  r A n => (lz_1 rfl (tl_L_law sc) _ _ _).trans rfl, lz_1 rfl (tl_L_law sc), lz_1 rfl (tl_L_law sc), lz_1 rfl (tl_L_law sc), lz_1 rfl (tl_L_law sc), fun L a1 a0 r A n => (lz_1 rfl (tl_L_law sc) _ _ _).trans rfl, lz_1 rfl (tl_L_law sc), lz_1 rfl (tl_L_law sc), lz_1 rfl (tl_L_law sc), lz_1 rfl (tl_L_law sc), lz_1 rfl (tl_L_law sc), lz_1 rfl (tl_L_law sc), lz_1 rfl (tl_L_law sc), lz_1 rfl (tl_L_law sc), lz_1 rfl (tl_L_law sc), lz_1 rfl (tl_L_law sc), fun L  r A n => (lz_1 rfl (tl_L_law sc) _ _ _).trans rfl, lz_1 rfl (tl_L_law sc), lz_1 rfl (tl_L_law sc), lz_1 rfl (tl_L_law sc), lz_1 rfl (tl_L_law sc), lz_1 rfl (tl_L_law sc), lz_1 rfl (tl_L_law sc), lz_1 rfl (tl_L_law sc), lz_1 rfl (tl_L_law sc), lz_1 rfl (tl_L_law sc), lz_1 rfl (tl_L_law sc), lz_1 rfl (tl_L_law sc), lz_1 rfl (tl_L_law sc), lz_1 rfl (tl_L_law sc), lz_1 rfl (tl_L_law sc), lz_1 rfl (tl_L_law sc), fun L a0 r A n => (lz_1 rfl (tl_L_law sc) _ _ _).trans rfl, lz_1 rfl (tl_L_law sc), lz_1 rfl (tl_L_law sc), fun L  r A n => (lz_1 rfl (tl_L_law sc) _ _ _).trans rfl, lz_1 rfl (tl_L_law sc), lz_1 rfl (tl_L_law sc), lz_1 rfl (tl_L_law sc), lz_1 rfl (tl_L_law sc), lz_1 rfl (tl_L_law sc), lz_1 rfl (tl_L_law sc), lz_1 rfl (tl_L_law sc), lz_1 rfl (tl_L_law sc), lz_1 rfl (tl_L_law sc), lz_1 rfl (tl_L_law sc), lz_1 rfl (tl_L_law sc), lz_1 rfl (tl_L_law sc), lz_1 rfl (tl_L_law sc), lz_1 rfl (tl_L_law sc), lz_1 rfl (tl_L_law sc), lz_1 rfl (tl_L_law sc), lz_1 rfl (tl_L_law sc), lz_1 rfl (tl_L_law sc), lz_1 rfl (tl_L_law sc), lz_1 rfl (tl_L_law sc), lz_1 rfl (tl_L_law sc), lz_1 rfl (tl_L_law sc), lz_1 rfl (tl_L_law sc), lz_1 rfl (tl_L_law sc), lz_1 rfl (tl_L_law sc), lz_1 rfl (tl_L_law sc), lz_1 rfl (tl_L_law sc), lz_1 rfl (tl_L_law sc), lz_1 rfl (tl_L_law sc), lz_1 rfl (tl_L_law sc), lz_1 rfl (tl_L_law sc), lz_1 rfl (tl_L_law sc), lz_1 rfl (tl_L_law sc), lz_1 rfl (tl_L_law sc), lz_1 rfl (tl_L_law sc), lz_1 rfl (tl_L_law sc), lz_1 rfl (tl_L_law sc), lz_1 rfl (tl_L_law sc), lz_1 rfl (tl_L_law sc), lz_1 rfl (tl_L_law sc), lz_1 rfl (tl_L_law sc), lz_1 rfl (tl_L_law sc), lz_1 rfl (tl_L_law sc), lz_1 rfl (tl_L_law sc), fun L a1 a2 a3 a4 a5 a6 a7 a0 r A n => (lz_1 rfl (tl_L_law sc) _ _ _).trans rfl, lz_1 rfl (tl_L_law sc), lz_1 rfl (tl_L_law sc), lz_1 rfl (tl_L_law sc), lz_1 rfl (tl_L_law sc), lz_1 rfl (tl_L_law sc), lz_1 rfl (tl_L_law sc), lz_1 rfl (tl_L_law sc), lz_1 rfl (tl_L_law sc), lz_1 rfl (tl_L_law sc), lz_1 rfl (tl_L_law sc), lz_1 rfl (tl_L_law sc), lz_1 rfl (tl_L_law sc), lz_1 rfl (tl_L_law sc), lz_1 rfl (tl_L_law sc), lz_1 rfl (tl_L_law sc), lz_1 rfl (tl_L_law sc), fun L a0 r A n => (lz_1 rfl (tl_L_law sc) _ _ _).trans rfl, lz_1 rfl (tl_L_law sc), lz_1 rfl (tl_L_law sc), lz_1 rfl (tl_L_law sc), fun L  r A n => (lz_1 rfl (tl_L_law sc) _ _ _).trans rfl, lz_1 rfl (tl_L_law sc), lz_1 rfl (tl_L_law sc), lz_1 rfl (tl_L_law sc), lz_1 rfl (tl_L_law sc), lz_1 rfl (tl_L_law sc), lz_1 rfl (tl_L_law sc), fun L a0 r A n => (lz_1 rfl (tl_L_law sc) _ _ _).trans rfl, lz_1 rfl (tl_L_law sc), lz_1 rfl (tl_L_law sc), lz_1 rfl (tl_L_law sc), fun L a0 r A n => (lz_1 rfl (tl_L_law sc) _ _ _).trans rfl, lz_1 rfl (tl_L_law sc), lz_1 rfl (tl_L_law sc), lz_1 rfl (tl_L_law sc), lz_1 rfl (tl_L_law sc), lz_1 rfl (tl_L_law sc), lz_1 rfl (tl_L_law sc), lz_1 rfl (tl_L_law sc), lz_1 rfl (tl_L_law sc), lz_1 rfl (tl_L_law sc), lz_1 rfl (tl_L_law sc), lz_1 rfl (tl_L_law sc), lz_1 rfl (tl_L_law sc), lz_1 rfl (tl_L_law sc)⟩
set_option maxRecDepth 100000 in
theorem e_L_law_p1 (sc : List Int32) : (∀ L st M, lz_ev (tL_law sc) 312 L st M = lo_pushI 60 314 (lz_ev (tL_law sc)) L st M) ∧
  (∀ L st M, lz_ev (tL_law sc) 314 L st M = lo_iid (fun x y => x / y) 315 (lz_ev (tL_law sc)) L st M) ∧
  (∀ L st M, lz_ev (tL_law sc) 315 L st M = lo_pushI 7 317 (lz_ev (tL_law sc)) L st M) ∧
  (∀ L st M, lz_ev (tL_law sc) 317 L st M = lo_iid (fun x y => x - x / y * y) 318 (lz_ev (tL_law sc)) L st M) ∧
  (∀ L st M, lz_ev (tL_law sc) 318 L st M = lo_goto 385 (lz_ev (tL_law sc)) L st M) ∧
  (∀ L st M, lz_ev (tL_law sc) 321 L st M = lo_iload 12 323 (lz_ev (tL_law sc)) L st M) ∧
  (∀ L st M, lz_ev (tL_law sc) 323 L st M = lo_pushI 4 324 (lz_ev (tL_law sc)) L st M) ∧
  (∀ L st M, lz_ev (tL_law sc) 324 L st M = lo_icmp (fun x y => decide (¬ x = y)) 340 327 (lz_ev (tL_law sc)) L st M) ∧
  (∀ L st M, lz_ev (tL_law sc) 327 L st M = lo_pushI 7 329 (lz_ev (tL_law sc)) L st M) ∧
  (∀ L st M, lz_ev (tL_law sc) 329 L st M = lo_iload 8 331 (lz_ev (tL_law sc)) L st M) ∧
  (∀ L st M, lz_ev (tL_law sc) 331 L st M = lo_pushI 60 333 (lz_ev (tL_law sc)) L st M) ∧
  (∀ L st M, lz_ev (tL_law sc) 333 L st M = lo_iid (fun x y => x / y) 334 (lz_ev (tL_law sc)) L st M) ∧
  (∀ L st M, lz_ev (tL_law sc) 334 L st M = lo_pushI 3 335 (lz_ev (tL_law sc)) L st M) ∧
  (∀ L st M, lz_ev (tL_law sc) 335 L st M = lo_iid (fun x y => x - x / y * y) 336 (lz_ev (tL_law sc)) L st M) ∧
  (∀ L st M, lz_ev (tL_law sc) 336 L st M = lo_ii (fun x y => x + y) 337 (lz_ev (tL_law sc)) L st M) ∧
  (∀ L st M, lz_ev (tL_law sc) 337 L st M = lo_goto 385 (lz_ev (tL_law sc)) L st M) ∧
  (∀ L st M, lz_ev (tL_law sc) 340 L st M = lo_iload 12 342 (lz_ev (tL_law sc)) L st M) ∧
  (∀ L st M, lz_ev (tL_law sc) 342 L st M = lo_pushI 3 343 (lz_ev (tL_law sc)) L st M) ∧
  (∀ L st M, lz_ev (tL_law sc) 343 L st M = lo_icmp (fun x y => decide (¬ x = y)) 362 346 (lz_ev (tL_law sc)) L st M) ∧
  (∀ L st M, lz_ev (tL_law sc) 346 L st M = lo_iload 8 348 (lz_ev (tL_law sc)) L st M) ∧
  (∀ L st M, lz_ev (tL_law sc) 348 L st M = lo_pushI 60 350 (lz_ev (tL_law sc)) L st M) ∧
  (∀ L st M, lz_ev (tL_law sc) 350 L st M = lo_iid (fun x y => x / y) 351 (lz_ev (tL_law sc)) L st M) ∧
  (∀ L st M, lz_ev (tL_law sc) 351 L st M = lo_pushI 3 352 (lz_ev (tL_law sc)) L st M) ∧
  (∀ L st M, lz_ev (tL_law sc) 352 L st M = lo_iid (fun x y => x - x / y * y) 353 (lz_ev (tL_law sc)) L st M) ∧
  (∀ L st M, lz_ev (tL_law sc) 353 L st M = lo_pushI 2 354 (lz_ev (tL_law sc)) L st M) ∧
  (∀ L st M, lz_ev (tL_law sc) 354 L st M = lo_icmp (fun x y => decide (¬ x = y)) 362 357 (lz_ev (tL_law sc)) L st M) ∧
  (∀ L st M, lz_ev (tL_law sc) 357 L st M = lo_pushI 10 359 (lz_ev (tL_law sc)) L st M) ∧
  (∀ L st M, lz_ev (tL_law sc) 359 L st M = lo_goto 385 (lz_ev (tL_law sc)) L st M) ∧
  (∀ L st M, lz_ev (tL_law sc) 362 L st M = lo_iload 12 364 (lz_ev (tL_law sc)) L st M) ∧
  (∀ L st M, lz_ev (tL_law sc) 364 L st M = lo_pushI 1 365 (lz_ev (tL_law sc)) L st M) ∧
  (∀ L st M, lz_ev (tL_law sc) 365 L st M = lo_icmp (fun x y => decide (x = y)) 374 368 (lz_ev (tL_law sc)) L st M) ∧
  (∀ L st M, lz_ev (tL_law sc) 368 L st M = lo_iload 12 370 (lz_ev (tL_law sc)) L st M) ∧
  (∀ L st M, lz_ev (tL_law sc) 370 L st M = lo_pushI 3 371 (lz_ev (tL_law sc)) L st M) ∧
  (∀ L st M, lz_ev (tL_law sc) 371 L st M = lo_icmp (fun x y => decide (¬ x = y)) 384 374 (lz_ev (tL_law sc)) L st M) ∧
  (∀ L st M, lz_ev (tL_law sc) 374 L st M = lo_iload 8 376 (lz_ev (tL_law sc)) L st M) ∧
  (∀ L st M, lz_ev (tL_law sc) 376 L st M = lo_pushI 60 378 (lz_ev (tL_law sc)) L st M) ∧
  (∀ L st M, lz_ev (tL_law sc) 378 L st M = lo_iid (fun x y => x / y) 379 (lz_ev (tL_law sc)) L st M) ∧
  (∀ L st M, lz_ev (tL_law sc) 379 L st M = lo_pushI 2 380 (lz_ev (tL_law sc)) L st M) ∧
  (∀ L st M, lz_ev (tL_law sc) 380 L st M = lo_iid (fun x y => x - x / y * y) 381 (lz_ev (tL_law sc)) L st M) ∧
  (∀ L st M, lz_ev (tL_law sc) 381 L st M = lo_goto 385 (lz_ev (tL_law sc)) L st M) ∧
  (∀ L st M, lz_ev (tL_law sc) 384 L st M = lo_pushI 1 385 (lz_ev (tL_law sc)) L st M) ∧
  (∀ L st M, lz_ev (tL_law sc) 385 L st M = lo_istore 14 387 (lz_ev (tL_law sc)) L st M) ∧
  (∀ L st M, lz_ev (tL_law sc) 387 L st M = lo_iload 14 389 (lz_ev (tL_law sc)) L st M) ∧
  (∀ L st M, lz_ev (tL_law sc) 389 L st M = lo_pushI 6 391 (lz_ev (tL_law sc)) L st M) ∧
  (∀ L st M, lz_ev (tL_law sc) 391 L st M = lo_icmp (fun x y => decide (¬ x = y)) 406 394 (lz_ev (tL_law sc)) L st M) ∧
  (∀ L st M, lz_ev (tL_law sc) 394 L st M = lo_iload 8 396 (lz_ev (tL_law sc)) L st M) ∧
  (∀ L st M, lz_ev (tL_law sc) 396 L st M = lo_pushI 420 399 (lz_ev (tL_law sc)) L st M) ∧
  (∀ L st M, lz_ev (tL_law sc) 399 L st M = lo_iid (fun x y => x / y) 400 (lz_ev (tL_law sc)) L st M) ∧
  (∀ L st M, lz_ev (tL_law sc) 400 L st M = lo_pushI 100 402 (lz_ev (tL_law sc)) L st M) ∧
  (∀ L st M, lz_ev (tL_law sc) 402 L st M = lo_iid (fun x y => x - x / y * y) 403 (lz_ev (tL_law sc)) L st M) ∧
  (∀ L st M, lz_ev (tL_law sc) 403 L st M = lo_goto 473 (lz_ev (tL_law sc)) L st M) ∧
  (∀ L st M, lz_ev (tL_law sc) 406 L st M = lo_iload 14 408 (lz_ev (tL_law sc)) L st M) ∧
  (∀ L st M, lz_ev (tL_law sc) 408 L st M = lo_pushI 4 409 (lz_ev (tL_law sc)) L st M) ∧
  (∀ L st M, lz_ev (tL_law sc) 409 L st M = lo_icmp (fun x y => decide (x = y)) 419 412 (lz_ev (tL_law sc)) L st M) ∧
  (∀ L st M, lz_ev (tL_law sc) 412 L st M = lo_iload 14 414 (lz_ev (tL_law sc)) L st M) ∧
  (∀ L st M, lz_ev (tL_law sc) 414 L st M = lo_pushI 9 416 (lz_ev (tL_law sc)) L st M) ∧
  (∀ L st M, lz_ev (tL_law sc) 416 L st M = lo_icmp (fun x y => decide (¬ x = y)) 433 419 (lz_ev (tL_law sc)) L st M) ∧
  (∀ L st M, lz_ev (tL_law sc) 419 L st M = lo_iload 8 421 (lz_ev (tL_law sc)) L st M) ∧
  (∀ L st M, lz_ev (tL_law sc) 421 L st M = lo_pushI 420 424 (lz_ev (tL_law sc)) L st M) ∧
  (∀ L st M, lz_ev (tL_law sc) 424 L st M = lo_iid (fun x y => x / y) 425 (lz_ev (tL_law sc)) L st M) ∧
  (∀ L st M, lz_ev (tL_law sc) 425 L st M = lo_pushI 6 427 (lz_ev (tL_law sc)) L st M) ∧
  (∀ L st M, lz_ev (tL_law sc) 427 L st M = lo_iid (fun x y => x - x / y * y) 428 (lz_ev (tL_law sc)) L st M) ∧
  (∀ L st M, lz_ev (tL_law sc) 428 L st M = lo_pushI 5 429 (lz_ev (tL_law sc)) L st M) ∧
  (∀ L st M, lz_ev (tL_law sc) 429 L st M = lo_iid (fun x y => x / y) 430 (lz_ev (tL_law sc)) L st M) ∧
  (∀ L st M, lz_ev (tL_law sc) 430 L st M = lo_goto 473 (lz_ev (tL_law sc)) L st M) ∧
  (∀ L st M, lz_ev (tL_law sc) 433 L st M = lo_iload 14 435 (lz_ev (tL_law sc)) L st M) ∧
  (∀ L st M, lz_ev (tL_law sc) 435 L st M = lo_pushI 2 436 (lz_ev (tL_law sc)) L st M) ∧
  (∀ L st M, lz_ev (tL_law sc) 436 L st M = lo_icmp (fun x y => decide (x = y)) 452 439 (lz_ev (tL_law sc)) L st M) ∧
  (∀ L st M, lz_ev (tL_law sc) 439 L st M = lo_iload 14 441 (lz_ev (tL_law sc)) L st M) ∧
  (∀ L st M, lz_ev (tL_law sc) 441 L st M = lo_pushI 3 442 (lz_ev (tL_law sc)) L st M) ∧
  (∀ L st M, lz_ev (tL_law sc) 442 L st M = lo_icmp (fun x y => decide (x = y)) 452 445 (lz_ev (tL_law sc)) L st M) ∧
  (∀ L st M, lz_ev (tL_law sc) 445 L st M = lo_iload 14 447 (lz_ev (tL_law sc)) L st M) ∧
  (∀ L st M, lz_ev (tL_law sc) 447 L st M = lo_pushI 8 449 (lz_ev (tL_law sc)) L st M) ∧
  (∀ L st M, lz_ev (tL_law sc) 449 L st M = lo_icmp (fun x y => decide (¬ x = y)) 463 452 (lz_ev (tL_law sc)) L st M) ∧
  (∀ L st M, lz_ev (tL_law sc) 452 L st M = lo_iload 8 454 (lz_ev (tL_law sc)) L st M) ∧
  (∀ L st M, lz_ev (tL_law sc) 454 L st M = lo_pushI 420 457 (lz_ev (tL_law sc)) L st M) ∧
  (∀ L st M, lz_ev (tL_law sc) 457 L st M = lo_iid (fun x y => x / y) 458 (lz_ev (tL_law sc)) L st M) ∧
  (∀ L st M, lz_ev (tL_law sc) 458 L st M = lo_pushI 3 459 (lz_ev (tL_law sc)) L st M) ∧
  (∀ L st M, lz_ev (tL_law sc) 459 L st M = lo_iid (fun x y => x - x / y * y) 460 (lz_ev (tL_law sc)) L st M) ∧
  (∀ L st M, lz_ev (tL_law sc) 460 L st M = lo_goto 473 (lz_ev (tL_law sc)) L st M) ∧
  (∀ L st M, lz_ev (tL_law sc) 463 L st M = lo_pushI 1 464 (lz_ev (tL_law sc)) L st M) ∧
  (∀ L st M, lz_ev (tL_law sc) 464 L st M = lo_iload 8 466 (lz_ev (tL_law sc)) L st M) ∧
  (∀ L st M, lz_ev (tL_law sc) 466 L st M = lo_pushI 420 469 (lz_ev (tL_law sc)) L st M) ∧
  (∀ L st M, lz_ev (tL_law sc) 469 L st M = lo_iid (fun x y => x / y) 470 (lz_ev (tL_law sc)) L st M) ∧
  (∀ L st M, lz_ev (tL_law sc) 470 L st M = lo_pushI 5 471 (lz_ev (tL_law sc)) L st M) ∧
  (∀ L st M, lz_ev (tL_law sc) 471 L st M = lo_iid (fun x y => x - x / y * y) 472 (lz_ev (tL_law sc)) L st M) ∧
  (∀ L st M, lz_ev (tL_law sc) 472 L st M = lo_ii (fun x y => x + y) 473 (lz_ev (tL_law sc)) L st M) ∧
  (∀ L st M, lz_ev (tL_law sc) 473 L st M = lo_istore 15 475 (lz_ev (tL_law sc)) L st M) ∧
  (∀ L st M, lz_ev (tL_law sc) 475 L st M = lo_iload 8 477 (lz_ev (tL_law sc)) L st M) ∧
  (∀ L st M, lz_ev (tL_law sc) 477 L st M = lo_pushI 7 479 (lz_ev (tL_law sc)) L st M) ∧
  (∀ L st M, lz_ev (tL_law sc) 479 L st M = lo_iid (fun x y => x / y) 480 (lz_ev (tL_law sc)) L st M) ∧
  (∀ L st M, lz_ev (tL_law sc) 480 L st M = lo_pushI 4 481 (lz_ev (tL_law sc)) L st M) ∧
  (∀ L st M, lz_ev (tL_law sc) 481 L st M = lo_iid (fun x y => x - x / y * y) 482 (lz_ev (tL_law sc)) L st M) ∧
  (∀ L st M, lz_ev (tL_law sc) 482 L st M = lo_istore 16 484 (lz_ev (tL_law sc)) L st M) ∧
  (∀ L st M, lz_ev (tL_law sc) 484 L st M = lo_iload 8 486 (lz_ev (tL_law sc)) L st M) ∧
  (∀ L st M, lz_ev (tL_law sc) 486 L st M = lo_pushI 28 488 (lz_ev (tL_law sc)) L st M) ∧
  (∀ L st M, lz_ev (tL_law sc) 488 L st M = lo_iid (fun x y => x / y) 489 (lz_ev (tL_law sc)) L st M) ∧
  (∀ L st M, lz_ev (tL_law sc) 489 L st M = lo_pushI 3 490 (lz_ev (tL_law sc)) L st M) ∧
  (∀ L st M, lz_ev (tL_law sc) 490 L st M = lo_iid (fun x y => x - x / y * y) 491 (lz_ev (tL_law sc)) L st M) ∧
  (∀ L st M, lz_ev (tL_law sc) 491 L st M = lo_if (fun x => decide (x ≤ 0)) 498 494 (lz_ev (tL_law sc)) L st M) ∧
  (∀ L st M, lz_ev (tL_law sc) 494 L st M = lo_pushI 1 495 (lz_ev (tL_law sc)) L st M) ∧
  (∀ L st M, lz_ev (tL_law sc) 495 L st M = lo_goto 499 (lz_ev (tL_law sc)) L st M) ∧
  (∀ L st M, lz_ev (tL_law sc) 498 L st M = lo_pushI 0 499 (lz_ev (tL_law sc)) L st M) ∧
  (∀ L st M, lz_ev (tL_law sc) 499 L st M = lo_istore 17 501 (lz_ev (tL_law sc)) L st M) ∧
  (∀ L st M, lz_ev (tL_law sc) 501 L st M = lo_aload 1 502 (lz_ev (tL_law sc)) L st M) ∧
  (∀ L st M, lz_ev (tL_law sc) 502 L st M = lo_iload 11 504 (lz_ev (tL_law sc)) L st M) ∧
  (∀ L st M, lz_ev (tL_law sc) 504 L st M = lo_iload 14 506 (lz_ev (tL_law sc)) L st M) ∧
  (∀ (L : zzLc) (a0 a1 : Int32) (r : List Value) (A : zzMd) (n : Nat), lz_ev (tL_law sc) 506 L (.int a1 :: .int a0 :: .ref 0 :: r) (A, n) = bif zz_cat8 r && decide (n ≤ 727906) then lz_bv (lz_ev (tL_law sc)) 509 L r n (lz_g fX11_managerOf [.ref 0, .int a0, .int a1] A) else none) ∧
  (∀ L st M, lz_ev (tL_law sc) 509 L st M = lo_iload 16 511 (lz_ev (tL_law sc)) L st M) ∧
  (∀ L st M, lz_ev (tL_law sc) 511 L st M = lo_icmp (fun x y => decide (¬ x = y)) 518 514 (lz_ev (tL_law sc)) L st M) ∧
  (∀ L st M, lz_ev (tL_law sc) 514 L st M = lo_pushI 1 515 (lz_ev (tL_law sc)) L st M) ∧
  (∀ L st M, lz_ev (tL_law sc) 515 L st M = lo_goto 519 (lz_ev (tL_law sc)) L st M) ∧
  (∀ L st M, lz_ev (tL_law sc) 518 L st M = lo_pushI 0 519 (lz_ev (tL_law sc)) L st M) ∧
  (∀ L st M, lz_ev (tL_law sc) 519 L st M = lo_istore 18 521 (lz_ev (tL_law sc)) L st M) ∧
  (∀ L st M, lz_ev (tL_law sc) 521 L st M = lo_aload 1 522 (lz_ev (tL_law sc)) L st M) ∧
  (∀ L st M, lz_ev (tL_law sc) 522 L st M = lo_iload 11 524 (lz_ev (tL_law sc)) L st M) ∧
  (∀ L st M, lz_ev (tL_law sc) 524 L st M = lo_iload 14 526 (lz_ev (tL_law sc)) L st M) ∧
  (∀ (L : zzLc) (a0 a1 : Int32) (r : List Value) (A : zzMd) (n : Nat), lz_ev (tL_law sc) 526 L (.int a1 :: .int a0 :: .ref 0 :: r) (A, n) = bif zz_cat8 r && decide (n ≤ 727906) then lz_bv (lz_ev (tL_law sc)) 529 L r n (lz_g fX11_field [.ref 0, .int a0, .int a1] A) else none) ∧
  (∀ L st M, lz_ev (tL_law sc) 529 L st M = lo_iload 15 531 (lz_ev (tL_law sc)) L st M) ∧
  (∀ L st M, lz_ev (tL_law sc) 531 L st M = lo_icmp (fun x y => decide (¬ x = y)) 543 534 (lz_ev (tL_law sc)) L st M) ∧
  (∀ L st M, lz_ev (tL_law sc) 534 L st M = lo_iload 18 536 (lz_ev (tL_law sc)) L st M) ∧
  (∀ L st M, lz_ev (tL_law sc) 536 L st M = lo_if (fun x => decide (x = 0)) 543 539 (lz_ev (tL_law sc)) L st M) ∧
  (∀ L st M, lz_ev (tL_law sc) 539 L st M = lo_pushI 1 540 (lz_ev (tL_law sc)) L st M) ∧
  (∀ L st M, lz_ev (tL_law sc) 540 L st M = lo_goto 544 (lz_ev (tL_law sc)) L st M) ∧
  (∀ L st M, lz_ev (tL_law sc) 543 L st M = lo_pushI 0 544 (lz_ev (tL_law sc)) L st M) ∧
  (∀ L st M, lz_ev (tL_law sc) 544 L st M = lo_istore 19 546 (lz_ev (tL_law sc)) L st M) ∧
  (∀ L st M, lz_ev (tL_law sc) 546 L st M = lo_aload 1 547 (lz_ev (tL_law sc)) L st M) ∧
  (∀ L st M, lz_ev (tL_law sc) 547 L st M = lo_pushI 1 548 (lz_ev (tL_law sc)) L st M) ∧
  (∀ L st M, lz_ev (tL_law sc) 548 L st M = lo_iload 16 550 (lz_ev (tL_law sc)) L st M) ∧
  (∀ L st M, lz_ev (tL_law sc) 550 L st M = lo_iload 11 552 (lz_ev (tL_law sc)) L st M) ∧
  (∀ L st M, lz_ev (tL_law sc) 552 L st M = lo_iload 14 554 (lz_ev (tL_law sc)) L st M) ∧
  (∀ L st M, lz_ev (tL_law sc) 554 L st M = lo_iload 15 556 (lz_ev (tL_law sc)) L st M) ∧
  (∀ L st M, lz_ev (tL_law sc) 556 L st M = lo_pushI (-1) 557 (lz_ev (tL_law sc)) L st M) ∧
  (∀ L st M, lz_ev (tL_law sc) 557 L st M = lo_iload 17 559 (lz_ev (tL_law sc)) L st M) ∧
  (∀ L st M, lz_ev (tL_law sc) 559 L st M = lo_if (fun x => decide (x = 0)) 566 562 (lz_ev (tL_law sc)) L st M) ∧
  (∀ L st M, lz_ev (tL_law sc) 562 L st M = lo_pushI 1 563 (lz_ev (tL_law sc)) L st M) ∧
  (∀ L st M, lz_ev (tL_law sc) 563 L st M = lo_goto 567 (lz_ev (tL_law sc)) L st M) ∧
  (∀ L st M, lz_ev (tL_law sc) 566 L st M = lo_pushI 0 567 (lz_ev (tL_law sc)) L st M) ∧
  (∀ (L : zzLc) (a1 a2 a3 a4 a5 a6 a7 : Int32) (a0 : Nat) (r : List Value) (A : zzMd) (n : Nat), lz_ev (tL_law sc) 567 L (.int a7 :: .int a6 :: .int a5 :: .int a4 :: .int a3 :: .int a2 :: .int a1 :: .ref a0 :: r) (A, n) = bif zz_cat8 r && decide (n + 1 ≤ 727906) then lz_bs (lz_ev (tL_law sc)) 570 L r (n + 1) (fL_act [.ref a0, .int a1, .int a2, .int a3, .int a4, .int a5, .int a6, .int a7] A) else none) ∧
  (∀ L st M, lz_ev (tL_law sc) 570 L st M = lo_istore 20 572 (lz_ev (tL_law sc)) L st M) ∧
  (∀ L st M, lz_ev (tL_law sc) 572 L st M = lo_iload 20 574 (lz_ev (tL_law sc)) L st M) ∧
  (∀ L st M, lz_ev (tL_law sc) 574 L st M = lo_if (fun x => decide (0 ≤ x)) 639 577 (lz_ev (tL_law sc)) L st M) ∧
  (∀ L st M, lz_ev (tL_law sc) 577 L st M = lo_iload 20 579 (lz_ev (tL_law sc)) L st M) ∧
  (∀ L st M, lz_ev (tL_law sc) 579 L st M = lo_pushI (-1273) 582 (lz_ev (tL_law sc)) L st M) ∧
  (∀ L st M, lz_ev (tL_law sc) 582 L st M = lo_icmp (fun x y => decide (¬ x = y)) 635 585 (lz_ev (tL_law sc)) L st M) ∧
  (∀ L st M, lz_ev (tL_law sc) 585 L st M = lo_aload 1 586 (lz_ev (tL_law sc)) L st M) ∧
  (∀ (L : zzLc) (r : List Value) (A : zzMd) (n : Nat), lz_ev (tL_law sc) 586 L (.ref 0 :: r) (A, n) = bif zz_cat8 r && decide (n ≤ 727906) then lz_bv (lz_ev (tL_law sc)) 589 L r n (lz_g fX11_version [.ref 0] A) else none) ∧
  (∀ L st M, lz_ev (tL_law sc) 589 L st M = lo_iload 13 591 (lz_ev (tL_law sc)) L st M) ∧
  (∀ L st M, lz_ev (tL_law sc) 591 L st M = lo_icmp (fun x y => decide (¬ x = y)) 635 594 (lz_ev (tL_law sc)) L st M) ∧
  (∀ L st M, lz_ev (tL_law sc) 594 L st M = lo_aload 1 595 (lz_ev (tL_law sc)) L st M) :=
  ⟨lz_1 rfl (tl_L_law sc), lz_1 rfl (tl_L_law sc), lz_1 rfl (tl_L_law sc), lz_1 rfl (tl_L_law sc), lz_1 rfl (tl_L_law sc), lz_1 rfl (tl_L_law sc), lz_1 rfl (tl_L_law sc), lz_1 rfl (tl_L_law sc), lz_1 rfl (tl_L_law sc), lz_1 rfl (tl_L_law sc), lz_1 rfl (tl_L_law sc), lz_1 rfl (tl_L_law sc), lz_1 rfl (tl_L_law sc), lz_1 rfl (tl_L_law sc), lz_1 rfl (tl_L_law sc), lz_1 rfl (tl_L_law sc), lz_1 rfl (tl_L_law sc), lz_1 rfl (tl_L_law sc), lz_1 rfl (tl_L_law sc), lz_1 rfl (tl_L_law sc), lz_1 rfl (tl_L_law sc), lz_1 rfl (tl_L_law sc), lz_1 rfl (tl_L_law sc), lz_1 rfl (tl_L_law sc), lz_1 rfl (tl_L_law sc), lz_1 rfl (tl_L_law sc), lz_1 rfl (tl_L_law sc), lz_1 rfl (tl_L_law sc), lz_1 rfl (tl_L_law sc), lz_1 rfl (tl_L_law sc), lz_1 rfl (tl_L_law sc), lz_1 rfl (tl_L_law sc), lz_1 rfl (tl_L_law sc), lz_1 rfl (tl_L_law sc), lz_1 rfl (tl_L_law sc), lz_1 rfl (tl_L_law sc), lz_1 rfl (tl_L_law sc), lz_1 rfl (tl_L_law sc), lz_1 rfl (tl_L_law sc), lz_1 rfl (tl_L_law sc), lz_1 rfl (tl_L_law sc), lz_1 rfl (tl_L_law sc), lz_1 rfl (tl_L_law sc), lz_1 rfl (tl_L_law sc), lz_1 rfl (tl_L_law sc), lz_1 rfl (tl_L_law sc), lz_1 rfl (tl_L_law sc), lz_1 rfl (tl_L_law sc), lz_1 rfl (tl_L_law sc), lz_1 rfl (tl_L_law sc), lz_1 rfl (tl_L_law sc), lz_1 rfl (tl_L_law sc), lz_1 rfl (tl_L_law sc), lz_1 rfl (tl_L_law sc), lz_1 rfl (tl_L_law sc), lz_1 rfl (tl_L_law sc), lz_1 rfl (tl_L_law sc), lz_1 rfl (tl_L_law sc), lz_1 rfl (tl_L_law sc), lz_1 rfl (tl_L_law sc), lz_1 rfl (tl_L_law sc), lz_1 rfl (tl_L_law sc), lz_1 rfl (tl_L_law sc), lz_1 rfl (tl_L_law sc), lz_1 rfl (tl_L_law sc), lz_1 rfl (tl_L_law sc), lz_1 rfl (tl_L_law sc), lz_1 rfl (tl_L_law sc), lz_1 rfl (tl_L_law sc), lz_1 rfl (tl_L_law sc), lz_1 rfl (tl_L_law sc), lz_1 rfl (tl_L_law sc), lz_1 rfl (tl_L_law sc), lz_1 rfl (tl_L_law sc), lz_1 rfl (tl_L_law sc), lz_1 rfl (tl_L_law sc), lz_1 rfl (tl_L_law sc), lz_1 rfl (tl_L_law sc), lz_1 rfl (tl_L_law sc), lz_1 rfl (tl_L_law sc), lz_1 rfl (tl_L_law sc), lz_1 rfl (tl_L_law sc), lz_1 rfl (tl_L_law sc), lz_1 rfl (tl_L_law sc), lz_1 rfl (tl_L_law sc), lz_1 rfl (tl_L_law sc), lz_1 rfl (tl_L_law sc), lz_1 rfl (tl_L_law sc), lz_1 rfl (tl_L_law sc), lz_1 rfl (tl_L_law sc), lz_1 rfl (tl_L_law sc), lz_1 rfl (tl_L_law sc), lz_1 rfl (tl_L_law sc), lz_1 rfl (tl_L_law sc), lz_1 rfl (tl_L_law sc), lz_1 rfl (tl_L_law sc), lz_1 rfl (tl_L_law sc), lz_1 rfl (tl_L_law sc), lz_1 rfl (tl_L_law sc), lz_1 rfl (tl_L_law sc), lz_1 rfl (tl_L_law sc), lz_1 rfl (tl_L_law sc), lz_1 rfl (tl_L_law sc), lz_1 rfl (tl_L_law sc), lz_1 rfl (tl_L_law sc), lz_1 rfl (tl_L_law sc), lz_1 rfl (tl_L_law sc), fun L a0 a1 r A n => (lz_1 rfl (tl_L_law sc) _ _ _).trans rfl, lz_1 rfl (tl_L_law sc), lz_1 rfl (tl_L_law sc), lz_1 rfl (tl_L_law sc), lz_1 rfl (tl_L_law sc), lz_1 rfl (tl_L_law sc), lz_1 rfl (tl_L_law sc), lz_1 rfl (tl_L_law sc), lz_1 rfl (tl_L_law sc), lz_1 rfl (tl_L_law sc), fun L a0 a1 r A n => (lz_1 rfl (tl_L_law sc) _ _ _).trans rfl, lz_1 rfl (tl_L_law sc), lz_1 rfl (tl_L_law sc), lz_1 rfl (tl_L_law sc), lz_1 rfl (tl_L_law sc), lz_1 rfl (tl_L_law sc), lz_1 rfl (tl_L_law sc), lz_1 rfl (tl_L_law sc), lz_1 rfl (tl_L_law sc), lz_1 rfl (tl_L_law sc), lz_1 rfl (tl_L_law sc), lz_1 rfl (tl_L_law sc), lz_1 rfl (tl_L_law sc), lz_1 rfl (tl_L_law sc), lz_1 rfl (tl_L_law sc), lz_1 rfl (tl_L_law sc), lz_1 rfl (tl_L_law sc), lz_1 rfl (tl_L_law sc), lz_1 rfl (tl_L_law sc), lz_1 rfl (tl_L_law sc), lz_1 rfl (tl_L_law sc), fun L a1 a2 a3 a4 a5 a6 a7 a0 r A n => (lz_1 rfl (tl_L_law sc) _ _ _).trans rfl, lz_1 rfl (tl_L_law sc), lz_1 rfl (tl_L_law sc), lz_1 rfl (tl_L_law sc), lz_1 rfl (tl_L_law sc), lz_1 rfl (tl_L_law sc), lz_1 rfl (tl_L_law sc), lz_1 rfl (tl_L_law sc), fun L  r A n => (lz_1 rfl (tl_L_law sc) _ _ _).trans rfl, lz_1 rfl (tl_L_law sc), lz_1 rfl (tl_L_law sc), lz_1 rfl (tl_L_law sc)⟩
set_option maxRecDepth 100000 in
theorem e_L_law_p2 (sc : List Int32) : (∀ L st M, lz_ev (tL_law sc) 595 L st M = lo_iload 11 597 (lz_ev (tL_law sc)) L st M) ∧
  (∀ (L : zzLc) (a0 : Int32) (r : List Value) (A : zzMd) (n : Nat), lz_ev (tL_law sc) 597 L (.int a0 :: .ref 0 :: r) (A, n) = bif zz_cat8 r && decide (n ≤ 727906) then lz_bv (lz_ev (tL_law sc)) 600 L r n (lz_g fX11_goingOf [.ref 0, .int a0] A) else none) ∧
  (∀ L st M, lz_ev (tL_law sc) 600 L st M = lo_pushI 4 601 (lz_ev (tL_law sc)) L st M) ∧
  (∀ L st M, lz_ev (tL_law sc) 601 L st M = lo_icmp (fun x y => decide (x = y)) 631 604 (lz_ev (tL_law sc)) L st M) ∧
  (∀ L st M, lz_ev (tL_law sc) 604 L st M = lo_iload 18 606 (lz_ev (tL_law sc)) L st M) ∧
  (∀ L st M, lz_ev (tL_law sc) 606 L st M = lo_if (fun x => decide (¬ x = 0)) 614 609 (lz_ev (tL_law sc)) L st M) ∧
  (∀ L st M, lz_ev (tL_law sc) 609 L st M = lo_iload 17 611 (lz_ev (tL_law sc)) L st M) ∧
  (∀ L st M, lz_ev (tL_law sc) 611 L st M = lo_if (fun x => decide (x = 0)) 631 614 (lz_ev (tL_law sc)) L st M) ∧
  (∀ L st M, lz_ev (tL_law sc) 614 L st M = lo_iload 12 616 (lz_ev (tL_law sc)) L st M) ∧
  (∀ L st M, lz_ev (tL_law sc) 616 L st M = lo_if (fun x => decide (¬ x = 0)) 635 619 (lz_ev (tL_law sc)) L st M) ∧
  (∀ L st M, lz_ev (tL_law sc) 619 L st M = lo_iload 14 621 (lz_ev (tL_law sc)) L st M) ∧
  (∀ L st M, lz_ev (tL_law sc) 621 L st M = lo_pushI 2 622 (lz_ev (tL_law sc)) L st M) ∧
  (∀ L st M, lz_ev (tL_law sc) 622 L st M = lo_icmp (fun x y => decide (x = y)) 631 625 (lz_ev (tL_law sc)) L st M) ∧
  (∀ L st M, lz_ev (tL_law sc) 625 L st M = lo_iload 14 627 (lz_ev (tL_law sc)) L st M) ∧
  (∀ L st M, lz_ev (tL_law sc) 627 L st M = lo_pushI 3 628 (lz_ev (tL_law sc)) L st M) ∧
  (∀ L st M, lz_ev (tL_law sc) 628 L st M = lo_icmp (fun x y => decide (¬ x = y)) 635 631 (lz_ev (tL_law sc)) L st M) ∧
  (∀ L st M, lz_ev (tL_law sc) 631 L st M = lo_pushI 1 632 (lz_ev (tL_law sc)) L st M) ∧
  (∀ L st M, lz_ev (tL_law sc) 632 L st M = lo_goto 701 (lz_ev (tL_law sc)) L st M) ∧
  (∀ L st M, lz_ev (tL_law sc) 635 L st M = lo_pushI 0 636 (lz_ev (tL_law sc)) L st M) ∧
  (∀ L st M, lz_ev (tL_law sc) 636 L st M = lo_goto 701 (lz_ev (tL_law sc)) L st M) ∧
  (∀ L st M, lz_ev (tL_law sc) 639 L st M = lo_iload 20 641 (lz_ev (tL_law sc)) L st M) ∧
  (∀ L st M, lz_ev (tL_law sc) 641 L st M = lo_aload 1 642 (lz_ev (tL_law sc)) L st M) ∧
  (∀ L st M, lz_ev (tL_law sc) 642 L st M = lo_iload 11 644 (lz_ev (tL_law sc)) L st M) ∧
  (∀ (L : zzLc) (a0 : Int32) (r : List Value) (A : zzMd) (n : Nat), lz_ev (tL_law sc) 644 L (.int a0 :: .ref 0 :: r) (A, n) = bif zz_cat8 r && decide (n ≤ 727906) then lz_bv (lz_ev (tL_law sc)) 647 L r n (lz_g fX11_versionOf [.ref 0, .int a0] A) else none) ∧
  (∀ L st M, lz_ev (tL_law sc) 647 L st M = lo_icmp (fun x y => decide (¬ x = y)) 700 650 (lz_ev (tL_law sc)) L st M) ∧
  (∀ L st M, lz_ev (tL_law sc) 650 L st M = lo_aload 1 651 (lz_ev (tL_law sc)) L st M) ∧
  (∀ L st M, lz_ev (tL_law sc) 651 L st M = lo_iload 11 653 (lz_ev (tL_law sc)) L st M) ∧
  (∀ L st M, lz_ev (tL_law sc) 653 L st M = lo_iload 14 655 (lz_ev (tL_law sc)) L st M) ∧
  (∀ (L : zzLc) (a0 a1 : Int32) (r : List Value) (A : zzMd) (n : Nat), lz_ev (tL_law sc) 655 L (.int a1 :: .int a0 :: .ref 0 :: r) (A, n) = bif zz_cat8 r && decide (n ≤ 727906) then lz_bv (lz_ev (tL_law sc)) 658 L r n (lz_g fX11_field [.ref 0, .int a0, .int a1] A) else none) ∧
  (∀ L st M, lz_ev (tL_law sc) 658 L st M = lo_iload 15 660 (lz_ev (tL_law sc)) L st M) ∧
  (∀ L st M, lz_ev (tL_law sc) 660 L st M = lo_icmp (fun x y => decide (¬ x = y)) 700 663 (lz_ev (tL_law sc)) L st M) ∧
  (∀ L st M, lz_ev (tL_law sc) 663 L st M = lo_aload 1 664 (lz_ev (tL_law sc)) L st M) ∧
  (∀ L st M, lz_ev (tL_law sc) 664 L st M = lo_iload 11 666 (lz_ev (tL_law sc)) L st M) ∧
  (∀ L st M, lz_ev (tL_law sc) 666 L st M = lo_iload 14 668 (lz_ev (tL_law sc)) L st M) ∧
  (∀ (L : zzLc) (a0 a1 : Int32) (r : List Value) (A : zzMd) (n : Nat), lz_ev (tL_law sc) 668 L (.int a1 :: .int a0 :: .ref 0 :: r) (A, n) = bif zz_cat8 r && decide (n ≤ 727906) then lz_bv (lz_ev (tL_law sc)) 671 L r n (lz_g fX11_managerOf [.ref 0, .int a0, .int a1] A) else none) ∧
  (∀ L st M, lz_ev (tL_law sc) 671 L st M = lo_iload 16 673 (lz_ev (tL_law sc)) L st M) ∧
  (∀ L st M, lz_ev (tL_law sc) 673 L st M = lo_icmp (fun x y => decide (¬ x = y)) 700 676 (lz_ev (tL_law sc)) L st M) ∧
  (∀ L st M, lz_ev (tL_law sc) 676 L st M = lo_aload 1 677 (lz_ev (tL_law sc)) L st M) ∧
  (∀ (L : zzLc) (r : List Value) (A : zzMd) (n : Nat), lz_ev (tL_law sc) 677 L (.ref 0 :: r) (A, n) = bif zz_cat8 r && decide (n ≤ 727906) then lz_bv (lz_ev (tL_law sc)) 680 L r n (lz_g fX11_version [.ref 0] A) else none) ∧
  (∀ L st M, lz_ev (tL_law sc) 680 L st M = lo_iload 13 682 (lz_ev (tL_law sc)) L st M) ∧
  (∀ L st M, lz_ev (tL_law sc) 682 L st M = lo_iload 19 684 (lz_ev (tL_law sc)) L st M) ∧
  (∀ L st M, lz_ev (tL_law sc) 684 L st M = lo_if (fun x => decide (x = 0)) 691 687 (lz_ev (tL_law sc)) L st M) ∧
  (∀ L st M, lz_ev (tL_law sc) 687 L st M = lo_pushI 0 688 (lz_ev (tL_law sc)) L st M) ∧
  (∀ L st M, lz_ev (tL_law sc) 688 L st M = lo_goto 692 (lz_ev (tL_law sc)) L st M) ∧
  (∀ L st M, lz_ev (tL_law sc) 691 L st M = lo_pushI 1 692 (lz_ev (tL_law sc)) L st M) ∧
  (∀ L st M, lz_ev (tL_law sc) 692 L st M = lo_ii (fun x y => x + y) 693 (lz_ev (tL_law sc)) L st M) ∧
  (∀ L st M, lz_ev (tL_law sc) 693 L st M = lo_icmp (fun x y => decide (¬ x = y)) 700 696 (lz_ev (tL_law sc)) L st M) ∧
  (∀ L st M, lz_ev (tL_law sc) 696 L st M = lo_pushI 1 697 (lz_ev (tL_law sc)) L st M) ∧
  (∀ L st M, lz_ev (tL_law sc) 697 L st M = lo_goto 701 (lz_ev (tL_law sc)) L st M) ∧
  (∀ L st M, lz_ev (tL_law sc) 700 L st M = lo_pushI 0 701 (lz_ev (tL_law sc)) L st M) ∧
  (∀ L st M, lz_ev (tL_law sc) 701 L st M = lo_istore 5 703 (lz_ev (tL_law sc)) L st M) ∧
  (∀ L st M, lz_ev (tL_law sc) 703 L st M = lo_goto 1715 (lz_ev (tL_law sc)) L st M) ∧
  (∀ L st M, lz_ev (tL_law sc) 706 L st M = lo_iload 9 708 (lz_ev (tL_law sc)) L st M) ∧
  (∀ L st M, lz_ev (tL_law sc) 708 L st M = lo_pushI 9 710 (lz_ev (tL_law sc)) L st M) ∧
  (∀ L st M, lz_ev (tL_law sc) 710 L st M = lo_icmp (fun x y => decide (¬ x = y)) 825 713 (lz_ev (tL_law sc)) L st M) ∧
  (∀ L st M, lz_ev (tL_law sc) 713 L st M = lo_aload 1 714 (lz_ev (tL_law sc)) L st M) ∧
  (∀ L st M, lz_ev (tL_law sc) 714 L st M = lo_iload 11 716 (lz_ev (tL_law sc)) L st M) ∧
  (∀ (L : zzLc) (a0 : Int32) (r : List Value) (A : zzMd) (n : Nat), lz_ev (tL_law sc) 716 L (.int a0 :: .ref 0 :: r) (A, n) = bif zz_cat8 r && decide (n ≤ 727906) then lz_bv (lz_ev (tL_law sc)) 719 L r n (lz_g fX11_goingOf [.ref 0, .int a0] A) else none) ∧
  (∀ L st M, lz_ev (tL_law sc) 719 L st M = lo_if (fun x => decide (¬ x = 0)) 726 722 (lz_ev (tL_law sc)) L st M) ∧
  (∀ L st M, lz_ev (tL_law sc) 722 L st M = lo_pushI 1 723 (lz_ev (tL_law sc)) L st M) ∧
  (∀ L st M, lz_ev (tL_law sc) 723 L st M = lo_goto 727 (lz_ev (tL_law sc)) L st M) ∧
  (∀ L st M, lz_ev (tL_law sc) 726 L st M = lo_pushI 0 727 (lz_ev (tL_law sc)) L st M) ∧
  (∀ L st M, lz_ev (tL_law sc) 727 L st M = lo_istore 14 729 (lz_ev (tL_law sc)) L st M) ∧
  (∀ L st M, lz_ev (tL_law sc) 729 L st M = lo_aload 1 730 (lz_ev (tL_law sc)) L st M) ∧
  (∀ L st M, lz_ev (tL_law sc) 730 L st M = lo_pushI 3 731 (lz_ev (tL_law sc)) L st M) ∧
  (∀ L st M, lz_ev (tL_law sc) 731 L st M = lo_iload 11 733 (lz_ev (tL_law sc)) L st M) ∧
  (∀ L st M, lz_ev (tL_law sc) 733 L st M = lo_pushI 1 734 (lz_ev (tL_law sc)) L st M) ∧
  (∀ L st M, lz_ev (tL_law sc) 734 L st M = lo_iload 8 736 (lz_ev (tL_law sc)) L st M) ∧
  (∀ L st M, lz_ev (tL_law sc) 736 L st M = lo_pushI 60 738 (lz_ev (tL_law sc)) L st M) ∧
  (∀ L st M, lz_ev (tL_law sc) 738 L st M = lo_iid (fun x y => x / y) 739 (lz_ev (tL_law sc)) L st M) ∧
  (∀ L st M, lz_ev (tL_law sc) 739 L st M = lo_pushI 3 740 (lz_ev (tL_law sc)) L st M) ∧
  (∀ L st M, lz_ev (tL_law sc) 740 L st M = lo_iid (fun x y => x - x / y * y) 741 (lz_ev (tL_law sc)) L st M) ∧
  (∀ L st M, lz_ev (tL_law sc) 741 L st M = lo_ii (fun x y => x + y) 742 (lz_ev (tL_law sc)) L st M) ∧
  (∀ L st M, lz_ev (tL_law sc) 742 L st M = lo_pushI 0 743 (lz_ev (tL_law sc)) L st M) ∧
  (∀ L st M, lz_ev (tL_law sc) 743 L st M = lo_pushI 0 744 (lz_ev (tL_law sc)) L st M) ∧
  (∀ L st M, lz_ev (tL_law sc) 744 L st M = lo_pushI 0 745 (lz_ev (tL_law sc)) L st M) ∧
  (∀ L st M, lz_ev (tL_law sc) 745 L st M = lo_pushI 0 746 (lz_ev (tL_law sc)) L st M) ∧
  (∀ (L : zzLc) (a1 a2 a3 a4 a5 a6 a7 : Int32) (a0 : Nat) (r : List Value) (A : zzMd) (n : Nat), lz_ev (tL_law sc) 746 L (.int a7 :: .int a6 :: .int a5 :: .int a4 :: .int a3 :: .int a2 :: .int a1 :: .ref a0 :: r) (A, n) = bif zz_cat8 r && decide (n + 1 ≤ 727906) then lz_bs (lz_ev (tL_law sc)) 749 L r (n + 1) (fL_act [.ref a0, .int a1, .int a2, .int a3, .int a4, .int a5, .int a6, .int a7] A) else none) ∧
  (∀ L st M, lz_ev (tL_law sc) 749 L st M = lo_istore 15 751 (lz_ev (tL_law sc)) L st M) ∧
  (∀ L st M, lz_ev (tL_law sc) 751 L st M = lo_iload 14 753 (lz_ev (tL_law sc)) L st M) ∧
  (∀ L st M, lz_ev (tL_law sc) 753 L st M = lo_if (fun x => decide (x = 0)) 807 756 (lz_ev (tL_law sc)) L st M) ∧
  (∀ L st M, lz_ev (tL_law sc) 756 L st M = lo_iload 15 758 (lz_ev (tL_law sc)) L st M) ∧
  (∀ L st M, lz_ev (tL_law sc) 758 L st M = lo_aload 1 759 (lz_ev (tL_law sc)) L st M) ∧
  (∀ L st M, lz_ev (tL_law sc) 759 L st M = lo_iload 11 761 (lz_ev (tL_law sc)) L st M) ∧
  (∀ (L : zzLc) (a0 : Int32) (r : List Value) (A : zzMd) (n : Nat), lz_ev (tL_law sc) 761 L (.int a0 :: .ref 0 :: r) (A, n) = bif zz_cat8 r && decide (n ≤ 727906) then lz_bv (lz_ev (tL_law sc)) 764 L r n (lz_g fX11_goingOf [.ref 0, .int a0] A) else none) ∧
  (∀ L st M, lz_ev (tL_law sc) 764 L st M = lo_icmp (fun x y => decide (¬ x = y)) 803 767 (lz_ev (tL_law sc)) L st M) ∧
  (∀ L st M, lz_ev (tL_law sc) 767 L st M = lo_iload 15 769 (lz_ev (tL_law sc)) L st M) ∧
  (∀ L st M, lz_ev (tL_law sc) 769 L st M = lo_if (fun x => decide (x ≤ 0)) 803 772 (lz_ev (tL_law sc)) L st M) ∧
  (∀ L st M, lz_ev (tL_law sc) 772 L st M = lo_iload 15 774 (lz_ev (tL_law sc)) L st M) ∧
  (∀ L st M, lz_ev (tL_law sc) 774 L st M = lo_pushI 4 775 (lz_ev (tL_law sc)) L st M) ∧
  (∀ L st M, lz_ev (tL_law sc) 775 L st M = lo_icmp (fun x y => decide (x < y)) 788 778 (lz_ev (tL_law sc)) L st M) ∧
  (∀ L st M, lz_ev (tL_law sc) 778 L st M = lo_aload 1 779 (lz_ev (tL_law sc)) L st M) ∧
  (∀ L st M, lz_ev (tL_law sc) 779 L st M = lo_iload 11 781 (lz_ev (tL_law sc)) L st M) ∧
  (∀ (L : zzLc) (a0 : Int32) (r : List Value) (A : zzMd) (n : Nat), lz_ev (tL_law sc) 781 L (.int a0 :: .ref 0 :: r) (A, n) = bif zz_cat8 r && decide (n ≤ 727906) then lz_bv (lz_ev (tL_law sc)) 784 L r n (lz_g fX11_ownerOf [.ref 0, .int a0] A) else none) ∧
  (∀ L st M, lz_ev (tL_law sc) 784 L st M = lo_pushI (-1) 785 (lz_ev (tL_law sc)) L st M) ∧
  (∀ L st M, lz_ev (tL_law sc) 785 L st M = lo_icmp (fun x y => decide (¬ x = y)) 803 788 (lz_ev (tL_law sc)) L st M) ∧
  (∀ L st M, lz_ev (tL_law sc) 788 L st M = lo_aload 1 789 (lz_ev (tL_law sc)) L st M) ∧
  (∀ (L : zzLc) (r : List Value) (A : zzMd) (n : Nat), lz_ev (tL_law sc) 789 L (.ref 0 :: r) (A, n) = bif zz_cat8 r && decide (n ≤ 727906) then lz_bv (lz_ev (tL_law sc)) 792 L r n (lz_g fX11_version [.ref 0] A) else none) ∧
  (∀ L st M, lz_ev (tL_law sc) 792 L st M = lo_iload 13 794 (lz_ev (tL_law sc)) L st M) ∧
  (∀ L st M, lz_ev (tL_law sc) 794 L st M = lo_pushI 1 795 (lz_ev (tL_law sc)) L st M) ∧
  (∀ L st M, lz_ev (tL_law sc) 795 L st M = lo_ii (fun x y => x + y) 796 (lz_ev (tL_law sc)) L st M) ∧
  (∀ L st M, lz_ev (tL_law sc) 796 L st M = lo_icmp (fun x y => decide (¬ x = y)) 803 799 (lz_ev (tL_law sc)) L st M) ∧
  (∀ L st M, lz_ev (tL_law sc) 799 L st M = lo_pushI 1 800 (lz_ev (tL_law sc)) L st M) ∧
  (∀ L st M, lz_ev (tL_law sc) 800 L st M = lo_goto 820 (lz_ev (tL_law sc)) L st M) ∧
  (∀ L st M, lz_ev (tL_law sc) 803 L st M = lo_pushI 0 804 (lz_ev (tL_law sc)) L st M) ∧
  (∀ L st M, lz_ev (tL_law sc) 804 L st M = lo_goto 820 (lz_ev (tL_law sc)) L st M) ∧
  (∀ L st M, lz_ev (tL_law sc) 807 L st M = lo_iload 15 809 (lz_ev (tL_law sc)) L st M) ∧
  (∀ L st M, lz_ev (tL_law sc) 809 L st M = lo_pushI (-1273) 812 (lz_ev (tL_law sc)) L st M) ∧
  (∀ L st M, lz_ev (tL_law sc) 812 L st M = lo_icmp (fun x y => decide (¬ x = y)) 819 815 (lz_ev (tL_law sc)) L st M) ∧
  (∀ L st M, lz_ev (tL_law sc) 815 L st M = lo_pushI 1 816 (lz_ev (tL_law sc)) L st M) ∧
  (∀ L st M, lz_ev (tL_law sc) 816 L st M = lo_goto 820 (lz_ev (tL_law sc)) L st M) ∧
  (∀ L st M, lz_ev (tL_law sc) 819 L st M = lo_pushI 0 820 (lz_ev (tL_law sc)) L st M) ∧
  (∀ L st M, lz_ev (tL_law sc) 820 L st M = lo_istore 5 822 (lz_ev (tL_law sc)) L st M) ∧
  (∀ L st M, lz_ev (tL_law sc) 822 L st M = lo_goto 1715 (lz_ev (tL_law sc)) L st M) ∧
  (∀ L st M, lz_ev (tL_law sc) 825 L st M = lo_iload 9 827 (lz_ev (tL_law sc)) L st M) ∧
  (∀ L st M, lz_ev (tL_law sc) 827 L st M = lo_pushI 10 829 (lz_ev (tL_law sc)) L st M) ∧
  (∀ L st M, lz_ev (tL_law sc) 829 L st M = lo_icmp (fun x y => decide (¬ x = y)) 922 832 (lz_ev (tL_law sc)) L st M) ∧
  (∀ L st M, lz_ev (tL_law sc) 832 L st M = lo_aload 1 833 (lz_ev (tL_law sc)) L st M) ∧
  (∀ L st M, lz_ev (tL_law sc) 833 L st M = lo_pushI 4 834 (lz_ev (tL_law sc)) L st M) ∧
  (∀ L st M, lz_ev (tL_law sc) 834 L st M = lo_iload 11 836 (lz_ev (tL_law sc)) L st M) ∧
  (∀ L st M, lz_ev (tL_law sc) 836 L st M = lo_iload 8 838 (lz_ev (tL_law sc)) L st M) ∧
  (∀ L st M, lz_ev (tL_law sc) 838 L st M = lo_pushI 60 840 (lz_ev (tL_law sc)) L st M) ∧
  (∀ L st M, lz_ev (tL_law sc) 840 L st M = lo_iid (fun x y => x / y) 841 (lz_ev (tL_law sc)) L st M) ∧
  (∀ L st M, lz_ev (tL_law sc) 841 L st M = lo_pushI 3 842 (lz_ev (tL_law sc)) L st M) ∧
  (∀ L st M, lz_ev (tL_law sc) 842 L st M = lo_iid (fun x y => x - x / y * y) 843 (lz_ev (tL_law sc)) L st M) ∧
  (∀ L st M, lz_ev (tL_law sc) 843 L st M = lo_pushI 2 844 (lz_ev (tL_law sc)) L st M) ∧
  (∀ L st M, lz_ev (tL_law sc) 844 L st M = lo_iid (fun x y => x / y) 845 (lz_ev (tL_law sc)) L st M) ∧
  (∀ L st M, lz_ev (tL_law sc) 845 L st M = lo_pushI 0 846 (lz_ev (tL_law sc)) L st M) ∧
  (∀ L st M, lz_ev (tL_law sc) 846 L st M = lo_pushI 0 847 (lz_ev (tL_law sc)) L st M) ∧
  (∀ L st M, lz_ev (tL_law sc) 847 L st M = lo_pushI 0 848 (lz_ev (tL_law sc)) L st M) ∧
  (∀ L st M, lz_ev (tL_law sc) 848 L st M = lo_pushI 0 849 (lz_ev (tL_law sc)) L st M) ∧
  (∀ (L : zzLc) (a1 a2 a3 a4 a5 a6 a7 : Int32) (a0 : Nat) (r : List Value) (A : zzMd) (n : Nat), lz_ev (tL_law sc) 849 L (.int a7 :: .int a6 :: .int a5 :: .int a4 :: .int a3 :: .int a2 :: .int a1 :: .ref a0 :: r) (A, n) = bif zz_cat8 r && decide (n + 1 ≤ 727906) then lz_bs (lz_ev (tL_law sc)) 852 L r (n + 1) (fL_act [.ref a0, .int a1, .int a2, .int a3, .int a4, .int a5, .int a6, .int a7] A) else none) ∧
  (∀ L st M, lz_ev (tL_law sc) 852 L st M = lo_istore 14 854 (lz_ev (tL_law sc)) L st M) ∧
  (∀ L st M, lz_ev (tL_law sc) 854 L st M = lo_iload 14 856 (lz_ev (tL_law sc)) L st M) ∧
  (∀ L st M, lz_ev (tL_law sc) 856 L st M = lo_pushI (-1273) 859 (lz_ev (tL_law sc)) L st M) ∧
  (∀ L st M, lz_ev (tL_law sc) 859 L st M = lo_icmp (fun x y => decide (¬ x = y)) 880 862 (lz_ev (tL_law sc)) L st M) ∧
  (∀ L st M, lz_ev (tL_law sc) 862 L st M = lo_aload 1 863 (lz_ev (tL_law sc)) L st M) ∧
  (∀ L st M, lz_ev (tL_law sc) 863 L st M = lo_iload 11 865 (lz_ev (tL_law sc)) L st M) ∧
  (∀ (L : zzLc) (a0 : Int32) (r : List Value) (A : zzMd) (n : Nat), lz_ev (tL_law sc) 865 L (.int a0 :: .ref 0 :: r) (A, n) = bif zz_cat8 r && decide (n ≤ 727906) then lz_bv (lz_ev (tL_law sc)) 868 L r n (lz_g fX11_goingOf [.ref 0, .int a0] A) else none) ∧
  (∀ L st M, lz_ev (tL_law sc) 868 L st M = lo_pushI 4 869 (lz_ev (tL_law sc)) L st M) ∧
  (∀ L st M, lz_ev (tL_law sc) 869 L st M = lo_icmp (fun x y => decide (¬ x = y)) 876 872 (lz_ev (tL_law sc)) L st M) ∧
  (∀ L st M, lz_ev (tL_law sc) 872 L st M = lo_pushI 1 873 (lz_ev (tL_law sc)) L st M) ∧
  (∀ L st M, lz_ev (tL_law sc) 873 L st M = lo_goto 917 (lz_ev (tL_law sc)) L st M) ∧
  (∀ L st M, lz_ev (tL_law sc) 876 L st M = lo_pushI 0 877 (lz_ev (tL_law sc)) L st M) ∧
  (∀ L st M, lz_ev (tL_law sc) 877 L st M = lo_goto 917 (lz_ev (tL_law sc)) L st M) ∧
  (∀ L st M, lz_ev (tL_law sc) 880 L st M = lo_aload 1 881 (lz_ev (tL_law sc)) L st M) ∧
  (∀ L st M, lz_ev (tL_law sc) 881 L st M = lo_pushI 4 882 (lz_ev (tL_law sc)) L st M) ∧
  (∀ L st M, lz_ev (tL_law sc) 882 L st M = lo_iload 11 884 (lz_ev (tL_law sc)) L st M) ∧
  (∀ L st M, lz_ev (tL_law sc) 884 L st M = lo_iload 8 886 (lz_ev (tL_law sc)) L st M) ∧
  (∀ L st M, lz_ev (tL_law sc) 886 L st M = lo_pushI 60 888 (lz_ev (tL_law sc)) L st M) :=
  ⟨lz_1 rfl (tl_L_law sc), fun L a0 r A n => (lz_1 rfl (tl_L_law sc) _ _ _).trans rfl, lz_1 rfl (tl_L_law sc), lz_1 rfl (tl_L_law sc), lz_1 rfl (tl_L_law sc), lz_1 rfl (tl_L_law sc), lz_1 rfl (tl_L_law sc), lz_1 rfl (tl_L_law sc), lz_1 rfl (tl_L_law sc), lz_1 rfl (tl_L_law sc), lz_1 rfl (tl_L_law sc), lz_1 rfl (tl_L_law sc), lz_1 rfl (tl_L_law sc), lz_1 rfl (tl_L_law sc), lz_1 rfl (tl_L_law sc), lz_1 rfl (tl_L_law sc), lz_1 rfl (tl_L_law sc), lz_1 rfl (tl_L_law sc), lz_1 rfl (tl_L_law sc), lz_1 rfl (tl_L_law sc), lz_1 rfl (tl_L_law sc), lz_1 rfl (tl_L_law sc), lz_1 rfl (tl_L_law sc), fun L a0 r A n => (lz_1 rfl (tl_L_law sc) _ _ _).trans rfl, lz_1 rfl (tl_L_law sc), lz_1 rfl (tl_L_law sc), lz_1 rfl (tl_L_law sc), lz_1 rfl (tl_L_law sc), fun L a0 a1 r A n => (lz_1 rfl (tl_L_law sc) _ _ _).trans rfl, lz_1 rfl (tl_L_law sc), lz_1 rfl (tl_L_law sc), lz_1 rfl (tl_L_law sc), lz_1 rfl (tl_L_law sc), lz_1 rfl (tl_L_law sc), fun L a0 a1 r A n => (lz_1 rfl (tl_L_law sc) _ _ _).trans rfl, lz_1 rfl (tl_L_law sc), lz_1 rfl (tl_L_law sc), lz_1 rfl (tl_L_law sc), fun L  r A n => (lz_1 rfl (tl_L_law sc) _ _ _).trans rfl, lz_1 rfl (tl_L_law sc), lz_1 rfl (tl_L_law sc), lz_1 rfl (tl_L_law sc), lz_1 rfl (tl_L_law sc), lz_1 rfl (tl_L_law sc), lz_1 rfl (tl_L_law sc), lz_1 rfl (tl_L_law sc), lz_1 rfl (tl_L_law sc), lz_1 rfl (tl_L_law sc), lz_1 rfl (tl_L_law sc), lz_1 rfl (tl_L_law sc), lz_1 rfl (tl_L_law sc), lz_1 rfl (tl_L_law sc), lz_1 rfl (tl_L_law sc), lz_1 rfl (tl_L_law sc), lz_1 rfl (tl_L_law sc), lz_1 rfl (tl_L_law sc), lz_1 rfl (tl_L_law sc), fun L a0 r A n => (lz_1 rfl (tl_L_law sc) _ _ _).trans rfl, lz_1 rfl (tl_L_law sc), lz_1 rfl (tl_L_law sc), lz_1 rfl (tl_L_law sc), lz_1 rfl (tl_L_law sc), lz_1 rfl (tl_L_law sc), lz_1 rfl (tl_L_law sc), lz_1 rfl (tl_L_law sc), lz_1 rfl (tl_L_law sc), lz_1 rfl (tl_L_law sc), lz_1 rfl (tl_L_law sc), lz_1 rfl (tl_L_law sc), lz_1 rfl (tl_L_law sc), lz_1 rfl (tl_L_law sc), lz_1 rfl (tl_L_law sc), lz_1 rfl (tl_L_law sc), lz_1 rfl (tl_L_law sc), lz_1 rfl (tl_L_law sc), lz_1 rfl (tl_L_law sc), lz_1 rfl (tl_L_law sc), fun L a1 a2 a3 a4 a5 a6 a7 a0 r A n => (lz_1 rfl (tl_L_law sc) _ _ _).trans rfl, lz_1 rfl (tl_L_law sc), lz_1 rfl (tl_L_law sc), lz_1 rfl (tl_L_law sc), lz_1 rfl (tl_L_law sc), lz_1 rfl (tl_L_law sc), lz_1 rfl (tl_L_law sc), fun L a0 r A n => (lz_1 rfl (tl_L_law sc) _ _ _).trans rfl, lz_1 rfl (tl_L_law sc), lz_1 rfl (tl_L_law sc), lz_1 rfl (tl_L_law sc), lz_1 rfl (tl_L_law sc), lz_1 rfl (tl_L_law sc), lz_1 rfl (tl_L_law sc), lz_1 rfl (tl_L_law sc), lz_1 rfl (tl_L_law sc), fun L a0 r A n => (lz_1 rfl (tl_L_law sc) _ _ _).trans rfl, lz_1 rfl (tl_L_law sc), lz_1 rfl (tl_L_law sc), lz_1 rfl (tl_L_law sc), fun L  r A n => (lz_1 rfl (tl_L_law sc) _ _ _).trans rfl, lz_1 rfl (tl_L_law sc), lz_1 rfl (tl_L_law sc), lz_1 rfl (tl_L_law sc), lz_1 rfl (tl_L_law sc), lz_1 rfl (tl_L_law sc), lz_1 rfl (tl_L_law sc), lz_1 rfl (tl_L_law sc), lz_1 rfl (tl_L_law sc), lz_1 rfl (tl_L_law sc), lz_1 rfl (tl_L_law sc), lz_1 rfl (tl_L_law sc), lz_1 rfl (tl_L_law sc), lz_1 rfl (tl_L_law sc), lz_1 rfl (tl_L_law sc), lz_1 rfl (tl_L_law sc), lz_1 rfl (tl_L_law sc), lz_1 rfl (tl_L_law sc), lz_1 rfl (tl_L_law sc), lz_1 rfl (tl_L_law sc), lz_1 rfl (tl_L_law sc), lz_1 rfl (tl_L_law sc), lz_1 rfl (tl_L_law sc), lz_1 rfl (tl_L_law sc), lz_1 rfl (tl_L_law sc), lz_1 rfl (tl_L_law sc), lz_1 rfl (tl_L_law sc), lz_1 rfl (tl_L_law sc), lz_1 rfl (tl_L_law sc), lz_1 rfl (tl_L_law sc), lz_1 rfl (tl_L_law sc), lz_1 rfl (tl_L_law sc), lz_1 rfl (tl_L_law sc), lz_1 rfl (tl_L_law sc), fun L a1 a2 a3 a4 a5 a6 a7 a0 r A n => (lz_1 rfl (tl_L_law sc) _ _ _).trans rfl, lz_1 rfl (tl_L_law sc), lz_1 rfl (tl_L_law sc), lz_1 rfl (tl_L_law sc), lz_1 rfl (tl_L_law sc), lz_1 rfl (tl_L_law sc), lz_1 rfl (tl_L_law sc), fun L a0 r A n => (lz_1 rfl (tl_L_law sc) _ _ _).trans rfl, lz_1 rfl (tl_L_law sc), lz_1 rfl (tl_L_law sc), lz_1 rfl (tl_L_law sc), lz_1 rfl (tl_L_law sc), lz_1 rfl (tl_L_law sc), lz_1 rfl (tl_L_law sc), lz_1 rfl (tl_L_law sc), lz_1 rfl (tl_L_law sc), lz_1 rfl (tl_L_law sc), lz_1 rfl (tl_L_law sc), lz_1 rfl (tl_L_law sc)⟩
set_option maxRecDepth 100000 in
theorem e_L_law_p3 (sc : List Int32) : (∀ L st M, lz_ev (tL_law sc) 888 L st M = lo_iid (fun x y => x / y) 889 (lz_ev (tL_law sc)) L st M) ∧
  (∀ L st M, lz_ev (tL_law sc) 889 L st M = lo_pushI 3 890 (lz_ev (tL_law sc)) L st M) ∧
  (∀ L st M, lz_ev (tL_law sc) 890 L st M = lo_iid (fun x y => x - x / y * y) 891 (lz_ev (tL_law sc)) L st M) ∧
  (∀ L st M, lz_ev (tL_law sc) 891 L st M = lo_pushI 2 892 (lz_ev (tL_law sc)) L st M) ∧
  (∀ L st M, lz_ev (tL_law sc) 892 L st M = lo_iid (fun x y => x / y) 893 (lz_ev (tL_law sc)) L st M) ∧
  (∀ L st M, lz_ev (tL_law sc) 893 L st M = lo_pushI 0 894 (lz_ev (tL_law sc)) L st M) ∧
  (∀ L st M, lz_ev (tL_law sc) 894 L st M = lo_pushI 0 895 (lz_ev (tL_law sc)) L st M) ∧
  (∀ L st M, lz_ev (tL_law sc) 895 L st M = lo_pushI 0 896 (lz_ev (tL_law sc)) L st M) ∧
  (∀ L st M, lz_ev (tL_law sc) 896 L st M = lo_pushI 0 897 (lz_ev (tL_law sc)) L st M) ∧
  (∀ (L : zzLc) (a1 a2 a3 a4 a5 a6 a7 : Int32) (a0 : Nat) (r : List Value) (A : zzMd) (n : Nat), lz_ev (tL_law sc) 897 L (.int a7 :: .int a6 :: .int a5 :: .int a4 :: .int a3 :: .int a2 :: .int a1 :: .ref a0 :: r) (A, n) = bif zz_cat8 r && decide (n + 1 ≤ 727906) then lz_bs (lz_ev (tL_law sc)) 900 L r (n + 1) (fL_act [.ref a0, .int a1, .int a2, .int a3, .int a4, .int a5, .int a6, .int a7] A) else none) ∧
  (∀ L st M, lz_ev (tL_law sc) 900 L st M = lo_iload 8 902 (lz_ev (tL_law sc)) L st M) ∧
  (∀ L st M, lz_ev (tL_law sc) 902 L st M = lo_pushI 60 904 (lz_ev (tL_law sc)) L st M) ∧
  (∀ L st M, lz_ev (tL_law sc) 904 L st M = lo_iid (fun x y => x / y) 905 (lz_ev (tL_law sc)) L st M) ∧
  (∀ L st M, lz_ev (tL_law sc) 905 L st M = lo_pushI 3 906 (lz_ev (tL_law sc)) L st M) ∧
  (∀ L st M, lz_ev (tL_law sc) 906 L st M = lo_iid (fun x y => x - x / y * y) 907 (lz_ev (tL_law sc)) L st M) ∧
  (∀ L st M, lz_ev (tL_law sc) 907 L st M = lo_pushI 2 908 (lz_ev (tL_law sc)) L st M) ∧
  (∀ L st M, lz_ev (tL_law sc) 908 L st M = lo_iid (fun x y => x / y) 909 (lz_ev (tL_law sc)) L st M) ∧
  (∀ L st M, lz_ev (tL_law sc) 909 L st M = lo_icmp (fun x y => decide (¬ x = y)) 916 912 (lz_ev (tL_law sc)) L st M) ∧
  (∀ L st M, lz_ev (tL_law sc) 912 L st M = lo_pushI 1 913 (lz_ev (tL_law sc)) L st M) ∧
  (∀ L st M, lz_ev (tL_law sc) 913 L st M = lo_goto 917 (lz_ev (tL_law sc)) L st M) ∧
  (∀ L st M, lz_ev (tL_law sc) 916 L st M = lo_pushI 0 917 (lz_ev (tL_law sc)) L st M) ∧
  (∀ L st M, lz_ev (tL_law sc) 917 L st M = lo_istore 5 919 (lz_ev (tL_law sc)) L st M) ∧
  (∀ L st M, lz_ev (tL_law sc) 919 L st M = lo_goto 1715 (lz_ev (tL_law sc)) L st M) ∧
  (∀ L st M, lz_ev (tL_law sc) 922 L st M = lo_iload 9 924 (lz_ev (tL_law sc)) L st M) ∧
  (∀ L st M, lz_ev (tL_law sc) 924 L st M = lo_pushI 11 926 (lz_ev (tL_law sc)) L st M) ∧
  (∀ L st M, lz_ev (tL_law sc) 926 L st M = lo_icmp (fun x y => decide (¬ x = y)) 1040 929 (lz_ev (tL_law sc)) L st M) ∧
  (∀ L st M, lz_ev (tL_law sc) 929 L st M = lo_iload 12 931 (lz_ev (tL_law sc)) L st M) ∧
  (∀ L st M, lz_ev (tL_law sc) 931 L st M = lo_pushI 2 932 (lz_ev (tL_law sc)) L st M) ∧
  (∀ L st M, lz_ev (tL_law sc) 932 L st M = lo_icmp (fun x y => decide (¬ x = y)) 1040 935 (lz_ev (tL_law sc)) L st M) ∧
  (∀ L st M, lz_ev (tL_law sc) 935 L st M = lo_aload 1 936 (lz_ev (tL_law sc)) L st M) ∧
  (∀ L st M, lz_ev (tL_law sc) 936 L st M = lo_iload 11 938 (lz_ev (tL_law sc)) L st M) ∧
  (∀ (L : zzLc) (a0 : Int32) (r : List Value) (A : zzMd) (n : Nat), lz_ev (tL_law sc) 938 L (.int a0 :: .ref 0 :: r) (A, n) = bif zz_cat8 r && decide (n ≤ 727906) then lz_bv (lz_ev (tL_law sc)) 941 L r n (lz_g fX11_goingOf [.ref 0, .int a0] A) else none) ∧
  (∀ L st M, lz_ev (tL_law sc) 941 L st M = lo_pushI 4 942 (lz_ev (tL_law sc)) L st M) ∧
  (∀ L st M, lz_ev (tL_law sc) 942 L st M = lo_icmp (fun x y => decide (y ≤ x)) 959 945 (lz_ev (tL_law sc)) L st M) ∧
  (∀ L st M, lz_ev (tL_law sc) 945 L st M = lo_aload 1 946 (lz_ev (tL_law sc)) L st M) ∧
  (∀ L st M, lz_ev (tL_law sc) 946 L st M = lo_iload 11 948 (lz_ev (tL_law sc)) L st M) ∧
  (∀ (L : zzLc) (a0 : Int32) (r : List Value) (A : zzMd) (n : Nat), lz_ev (tL_law sc) 948 L (.int a0 :: .ref 0 :: r) (A, n) = bif zz_cat8 r && decide (n ≤ 727906) then lz_bv (lz_ev (tL_law sc)) 951 L r n (lz_g fX11_phaseOf [.ref 0, .int a0] A) else none) ∧
  (∀ L st M, lz_ev (tL_law sc) 951 L st M = lo_pushI 1 952 (lz_ev (tL_law sc)) L st M) ∧
  (∀ L st M, lz_ev (tL_law sc) 952 L st M = lo_icmp (fun x y => decide (¬ x = y)) 959 955 (lz_ev (tL_law sc)) L st M) ∧
  (∀ L st M, lz_ev (tL_law sc) 955 L st M = lo_pushI 1 956 (lz_ev (tL_law sc)) L st M) ∧
  (∀ L st M, lz_ev (tL_law sc) 956 L st M = lo_goto 960 (lz_ev (tL_law sc)) L st M) ∧
  (∀ L st M, lz_ev (tL_law sc) 959 L st M = lo_pushI 0 960 (lz_ev (tL_law sc)) L st M) ∧
  (∀ L st M, lz_ev (tL_law sc) 960 L st M = lo_istore 14 962 (lz_ev (tL_law sc)) L st M) ∧
  (∀ L st M, lz_ev (tL_law sc) 962 L st M = lo_aload 1 963 (lz_ev (tL_law sc)) L st M) ∧
  (∀ L st M, lz_ev (tL_law sc) 963 L st M = lo_pushI 5 964 (lz_ev (tL_law sc)) L st M) ∧
  (∀ L st M, lz_ev (tL_law sc) 964 L st M = lo_iload 11 966 (lz_ev (tL_law sc)) L st M) ∧
  (∀ L st M, lz_ev (tL_law sc) 966 L st M = lo_iload 8 968 (lz_ev (tL_law sc)) L st M) ∧
  (∀ L st M, lz_ev (tL_law sc) 968 L st M = lo_pushI 60 970 (lz_ev (tL_law sc)) L st M) ∧
  (∀ L st M, lz_ev (tL_law sc) 970 L st M = lo_iid (fun x y => x / y) 971 (lz_ev (tL_law sc)) L st M) ∧
  (∀ L st M, lz_ev (tL_law sc) 971 L st M = lo_pushI 2 972 (lz_ev (tL_law sc)) L st M) ∧
  (∀ L st M, lz_ev (tL_law sc) 972 L st M = lo_iid (fun x y => x - x / y * y) 973 (lz_ev (tL_law sc)) L st M) ∧
  (∀ L st M, lz_ev (tL_law sc) 973 L st M = lo_pushI 0 974 (lz_ev (tL_law sc)) L st M) ∧
  (∀ L st M, lz_ev (tL_law sc) 974 L st M = lo_pushI 0 975 (lz_ev (tL_law sc)) L st M) ∧
  (∀ L st M, lz_ev (tL_law sc) 975 L st M = lo_pushI 0 976 (lz_ev (tL_law sc)) L st M) ∧
  (∀ L st M, lz_ev (tL_law sc) 976 L st M = lo_pushI 0 977 (lz_ev (tL_law sc)) L st M) ∧
  (∀ (L : zzLc) (a1 a2 a3 a4 a5 a6 a7 : Int32) (a0 : Nat) (r : List Value) (A : zzMd) (n : Nat), lz_ev (tL_law sc) 977 L (.int a7 :: .int a6 :: .int a5 :: .int a4 :: .int a3 :: .int a2 :: .int a1 :: .ref a0 :: r) (A, n) = bif zz_cat8 r && decide (n + 1 ≤ 727906) then lz_bs (lz_ev (tL_law sc)) 980 L r (n + 1) (fL_act [.ref a0, .int a1, .int a2, .int a3, .int a4, .int a5, .int a6, .int a7] A) else none) ∧
  (∀ L st M, lz_ev (tL_law sc) 980 L st M = lo_istore 15 982 (lz_ev (tL_law sc)) L st M) ∧
  (∀ L st M, lz_ev (tL_law sc) 982 L st M = lo_iload 14 984 (lz_ev (tL_law sc)) L st M) ∧
  (∀ L st M, lz_ev (tL_law sc) 984 L st M = lo_if (fun x => decide (x = 0)) 1022 987 (lz_ev (tL_law sc)) L st M) ∧
  (∀ L st M, lz_ev (tL_law sc) 987 L st M = lo_iload 15 989 (lz_ev (tL_law sc)) L st M) ∧
  (∀ L st M, lz_ev (tL_law sc) 989 L st M = lo_iload 13 991 (lz_ev (tL_law sc)) L st M) ∧
  (∀ L st M, lz_ev (tL_law sc) 991 L st M = lo_pushI 1 992 (lz_ev (tL_law sc)) L st M) ∧
  (∀ L st M, lz_ev (tL_law sc) 992 L st M = lo_ii (fun x y => x + y) 993 (lz_ev (tL_law sc)) L st M) ∧
  (∀ L st M, lz_ev (tL_law sc) 993 L st M = lo_icmp (fun x y => decide (¬ x = y)) 1018 996 (lz_ev (tL_law sc)) L st M) ∧
  (∀ L st M, lz_ev (tL_law sc) 996 L st M = lo_aload 1 997 (lz_ev (tL_law sc)) L st M) ∧
  (∀ L st M, lz_ev (tL_law sc) 997 L st M = lo_iload 11 999 (lz_ev (tL_law sc)) L st M) ∧
  (∀ (L : zzLc) (a0 : Int32) (r : List Value) (A : zzMd) (n : Nat), lz_ev (tL_law sc) 999 L (.int a0 :: .ref 0 :: r) (A, n) = bif zz_cat8 r && decide (n ≤ 727906) then lz_bv (lz_ev (tL_law sc)) 1002 L r n (lz_g fX11_phaseOf [.ref 0, .int a0] A) else none) ∧
  (∀ L st M, lz_ev (tL_law sc) 1002 L st M = lo_pushI 3 1003 (lz_ev (tL_law sc)) L st M) ∧
  (∀ L st M, lz_ev (tL_law sc) 1003 L st M = lo_iload 8 1005 (lz_ev (tL_law sc)) L st M) ∧
  (∀ L st M, lz_ev (tL_law sc) 1005 L st M = lo_pushI 60 1007 (lz_ev (tL_law sc)) L st M) ∧
  (∀ L st M, lz_ev (tL_law sc) 1007 L st M = lo_iid (fun x y => x / y) 1008 (lz_ev (tL_law sc)) L st M) ∧
  (∀ L st M, lz_ev (tL_law sc) 1008 L st M = lo_pushI 2 1009 (lz_ev (tL_law sc)) L st M) ∧
  (∀ L st M, lz_ev (tL_law sc) 1009 L st M = lo_iid (fun x y => x - x / y * y) 1010 (lz_ev (tL_law sc)) L st M) ∧
  (∀ L st M, lz_ev (tL_law sc) 1010 L st M = lo_ii (fun x y => x - y) 1011 (lz_ev (tL_law sc)) L st M) ∧
  (∀ L st M, lz_ev (tL_law sc) 1011 L st M = lo_icmp (fun x y => decide (¬ x = y)) 1018 1014 (lz_ev (tL_law sc)) L st M) ∧
  (∀ L st M, lz_ev (tL_law sc) 1014 L st M = lo_pushI 1 1015 (lz_ev (tL_law sc)) L st M) ∧
  (∀ L st M, lz_ev (tL_law sc) 1015 L st M = lo_goto 1035 (lz_ev (tL_law sc)) L st M) ∧
  (∀ L st M, lz_ev (tL_law sc) 1018 L st M = lo_pushI 0 1019 (lz_ev (tL_law sc)) L st M) ∧
  (∀ L st M, lz_ev (tL_law sc) 1019 L st M = lo_goto 1035 (lz_ev (tL_law sc)) L st M) ∧
  (∀ L st M, lz_ev (tL_law sc) 1022 L st M = lo_iload 15 1024 (lz_ev (tL_law sc)) L st M) ∧
  (∀ L st M, lz_ev (tL_law sc) 1024 L st M = lo_pushI (-1273) 1027 (lz_ev (tL_law sc)) L st M) ∧
  (∀ L st M, lz_ev (tL_law sc) 1027 L st M = lo_icmp (fun x y => decide (¬ x = y)) 1034 1030 (lz_ev (tL_law sc)) L st M) ∧
  (∀ L st M, lz_ev (tL_law sc) 1030 L st M = lo_pushI 1 1031 (lz_ev (tL_law sc)) L st M) ∧
  (∀ L st M, lz_ev (tL_law sc) 1031 L st M = lo_goto 1035 (lz_ev (tL_law sc)) L st M) ∧
  (∀ L st M, lz_ev (tL_law sc) 1034 L st M = lo_pushI 0 1035 (lz_ev (tL_law sc)) L st M) ∧
  (∀ L st M, lz_ev (tL_law sc) 1035 L st M = lo_istore 5 1037 (lz_ev (tL_law sc)) L st M) ∧
  (∀ L st M, lz_ev (tL_law sc) 1037 L st M = lo_goto 1715 (lz_ev (tL_law sc)) L st M) ∧
  (∀ L st M, lz_ev (tL_law sc) 1040 L st M = lo_iload 9 1042 (lz_ev (tL_law sc)) L st M) ∧
  (∀ L st M, lz_ev (tL_law sc) 1042 L st M = lo_pushI 12 1044 (lz_ev (tL_law sc)) L st M) ∧
  (∀ L st M, lz_ev (tL_law sc) 1044 L st M = lo_icmp (fun x y => decide (¬ x = y)) 1056 1047 (lz_ev (tL_law sc)) L st M) ∧
  (∀ L st M, lz_ev (tL_law sc) 1047 L st M = lo_aload 1 1048 (lz_ev (tL_law sc)) L st M) ∧
  (∀ (L : zzLc) (a0 : Nat) (r : List Value) (A : zzMd) (n : Nat), lz_ev (tL_law sc) 1048 L (.ref a0 :: r) (A, n) = bif zz_cat8 r && decide (n + 84 ≤ 727906) then lz_bs (lz_ev (tL_law sc)) 1051 L r (n + 84) (fL_isAtRest [.ref a0] A) else none) ∧
  (∀ L st M, lz_ev (tL_law sc) 1051 L st M = lo_istore 5 1053 (lz_ev (tL_law sc)) L st M) ∧
  (∀ L st M, lz_ev (tL_law sc) 1053 L st M = lo_goto 1715 (lz_ev (tL_law sc)) L st M) ∧
  (∀ L st M, lz_ev (tL_law sc) 1056 L st M = lo_iload 9 1058 (lz_ev (tL_law sc)) L st M) ∧
  (∀ L st M, lz_ev (tL_law sc) 1058 L st M = lo_pushI 13 1060 (lz_ev (tL_law sc)) L st M) ∧
  (∀ L st M, lz_ev (tL_law sc) 1060 L st M = lo_icmp (fun x y => decide (¬ x = y)) 1154 1063 (lz_ev (tL_law sc)) L st M) ∧
  (∀ L st M, lz_ev (tL_law sc) 1063 L st M = lo_iload 8 1065 (lz_ev (tL_law sc)) L st M) ∧
  (∀ L st M, lz_ev (tL_law sc) 1065 L st M = lo_pushI 4 1066 (lz_ev (tL_law sc)) L st M) ∧
  (∀ L st M, lz_ev (tL_law sc) 1066 L st M = lo_iid (fun x y => x - x / y * y) 1067 (lz_ev (tL_law sc)) L st M) ∧
  (∀ L st M, lz_ev (tL_law sc) 1067 L st M = lo_istore 14 1069 (lz_ev (tL_law sc)) L st M) ∧
  (∀ L st M, lz_ev (tL_law sc) 1069 L st M = lo_aload 3 1070 (lz_ev (tL_law sc)) L st M) ∧
  (∀ L st M, lz_ev (tL_law sc) 1070 L st M = lo_iload 14 1072 (lz_ev (tL_law sc)) L st M) ∧
  (∀ L st M, lz_ev (tL_law sc) 1072 L st M = lo_iald zzSC (zzSTC ++ [sc]) 1073 (lz_ev (tL_law sc)) L st M) ∧
  (∀ L st M, lz_ev (tL_law sc) 1073 L st M = lo_iload 4 1075 (lz_ev (tL_law sc)) L st M) ∧
  (∀ L st M, lz_ev (tL_law sc) 1075 L st M = lo_icmp (fun x y => decide (y ≤ x)) 1084 1078 (lz_ev (tL_law sc)) L st M) ∧
  (∀ L st M, lz_ev (tL_law sc) 1078 L st M = lo_pushI (-1273) 1081 (lz_ev (tL_law sc)) L st M) ∧
  (∀ L st M, lz_ev (tL_law sc) 1081 L st M = lo_goto 1107 (lz_ev (tL_law sc)) L st M) ∧
  (∀ L st M, lz_ev (tL_law sc) 1084 L st M = lo_aload 3 1085 (lz_ev (tL_law sc)) L st M) ∧
  (∀ L st M, lz_ev (tL_law sc) 1085 L st M = lo_iload 14 1087 (lz_ev (tL_law sc)) L st M) ∧
  (∀ L st M, lz_ev (tL_law sc) 1087 L st M = lo_iald zzSC (zzSTC ++ [sc]) 1088 (lz_ev (tL_law sc)) L st M) ∧
  (∀ L st M, lz_ev (tL_law sc) 1088 L st M = lo_iload 13 1090 (lz_ev (tL_law sc)) L st M) ∧
  (∀ L st M, lz_ev (tL_law sc) 1090 L st M = lo_icmp (fun x y => decide (¬ x = y)) 1097 1093 (lz_ev (tL_law sc)) L st M) ∧
  (∀ L st M, lz_ev (tL_law sc) 1093 L st M = lo_pushI (-1) 1094 (lz_ev (tL_law sc)) L st M) ∧
  (∀ L st M, lz_ev (tL_law sc) 1094 L st M = lo_goto 1107 (lz_ev (tL_law sc)) L st M) ∧
  (∀ L st M, lz_ev (tL_law sc) 1097 L st M = lo_aload 1 1098 (lz_ev (tL_law sc)) L st M) ∧
  (∀ L st M, lz_ev (tL_law sc) 1098 L st M = lo_aload 3 1099 (lz_ev (tL_law sc)) L st M) ∧
  (∀ L st M, lz_ev (tL_law sc) 1099 L st M = lo_iload 14 1101 (lz_ev (tL_law sc)) L st M) ∧
  (∀ L st M, lz_ev (tL_law sc) 1101 L st M = lo_iald zzSC (zzSTC ++ [sc]) 1102 (lz_ev (tL_law sc)) L st M) ∧
  (∀ L st M, lz_ev (tL_law sc) 1102 L st M = lo_pushI 1 1103 (lz_ev (tL_law sc)) L st M) ∧
  (∀ L st M, lz_ev (tL_law sc) 1103 L st M = lo_ii (fun x y => x + y) 1104 (lz_ev (tL_law sc)) L st M) ∧
  (∀ (L : zzLc) (a0 : Int32) (r : List Value) (A : zzMd) (n : Nat), lz_ev (tL_law sc) 1104 L (.int a0 :: .ref 0 :: r) (A, n) = bif zz_cat8 r && decide (n ≤ 727906) then lz_bv (lz_ev (tL_law sc)) 1107 L r n (lz_g fX11_objectOf [.ref 0, .int a0] A) else none) ∧
  (∀ L st M, lz_ev (tL_law sc) 1107 L st M = lo_istore 15 1109 (lz_ev (tL_law sc)) L st M) ∧
  (∀ L st M, lz_ev (tL_law sc) 1109 L st M = lo_aload 1 1110 (lz_ev (tL_law sc)) L st M) ∧
  (∀ L st M, lz_ev (tL_law sc) 1110 L st M = lo_pushI 13 1112 (lz_ev (tL_law sc)) L st M) ∧
  (∀ L st M, lz_ev (tL_law sc) 1112 L st M = lo_iload 14 1114 (lz_ev (tL_law sc)) L st M) ∧
  (∀ L st M, lz_ev (tL_law sc) 1114 L st M = lo_pushI 0 1115 (lz_ev (tL_law sc)) L st M) ∧
  (∀ L st M, lz_ev (tL_law sc) 1115 L st M = lo_pushI 0 1116 (lz_ev (tL_law sc)) L st M) ∧
  (∀ L st M, lz_ev (tL_law sc) 1116 L st M = lo_pushI 0 1117 (lz_ev (tL_law sc)) L st M) ∧
  (∀ L st M, lz_ev (tL_law sc) 1117 L st M = lo_pushI 0 1118 (lz_ev (tL_law sc)) L st M) ∧
  (∀ L st M, lz_ev (tL_law sc) 1118 L st M = lo_pushI 0 1119 (lz_ev (tL_law sc)) L st M) ∧
  (∀ (L : zzLc) (a1 a2 a3 a4 a5 a6 a7 : Int32) (a0 : Nat) (r : List Value) (A : zzMd) (n : Nat), lz_ev (tL_law sc) 1119 L (.int a7 :: .int a6 :: .int a5 :: .int a4 :: .int a3 :: .int a2 :: .int a1 :: .ref a0 :: r) (A, n) = bif zz_cat8 r && decide (n + 1 ≤ 727906) then lz_bs (lz_ev (tL_law sc)) 1122 L r (n + 1) (fL_act [.ref a0, .int a1, .int a2, .int a3, .int a4, .int a5, .int a6, .int a7] A) else none) ∧
  (∀ L st M, lz_ev (tL_law sc) 1122 L st M = lo_iload 15 1124 (lz_ev (tL_law sc)) L st M) ∧
  (∀ L st M, lz_ev (tL_law sc) 1124 L st M = lo_icmp (fun x y => decide (¬ x = y)) 1131 1127 (lz_ev (tL_law sc)) L st M) ∧
  (∀ L st M, lz_ev (tL_law sc) 1127 L st M = lo_pushI 1 1128 (lz_ev (tL_law sc)) L st M) ∧
  (∀ L st M, lz_ev (tL_law sc) 1128 L st M = lo_goto 1132 (lz_ev (tL_law sc)) L st M) ∧
  (∀ L st M, lz_ev (tL_law sc) 1131 L st M = lo_pushI 0 1132 (lz_ev (tL_law sc)) L st M) ∧
  (∀ L st M, lz_ev (tL_law sc) 1132 L st M = lo_istore 5 1134 (lz_ev (tL_law sc)) L st M) ∧
  (∀ L st M, lz_ev (tL_law sc) 1134 L st M = lo_aload 3 1135 (lz_ev (tL_law sc)) L st M) ∧
  (∀ L st M, lz_ev (tL_law sc) 1135 L st M = lo_iload 14 1137 (lz_ev (tL_law sc)) L st M) ∧
  (∀ L st M, lz_ev (tL_law sc) 1137 L st M = lo_dup2 1138 (lz_ev (tL_law sc)) L st M) ∧
  (∀ L st M, lz_ev (tL_law sc) 1138 L st M = lo_iald zzSC (zzSTC ++ [sc]) 1139 (lz_ev (tL_law sc)) L st M) ∧
  (∀ L st M, lz_ev (tL_law sc) 1139 L st M = lo_iload 15 1141 (lz_ev (tL_law sc)) L st M) ∧
  (∀ L st M, lz_ev (tL_law sc) 1141 L st M = lo_if (fun x => decide (x < 0)) 1148 1144 (lz_ev (tL_law sc)) L st M) ∧
  (∀ L st M, lz_ev (tL_law sc) 1144 L st M = lo_pushI 1 1145 (lz_ev (tL_law sc)) L st M) ∧
  (∀ L st M, lz_ev (tL_law sc) 1145 L st M = lo_goto 1149 (lz_ev (tL_law sc)) L st M) ∧
  (∀ L st M, lz_ev (tL_law sc) 1148 L st M = lo_pushI 0 1149 (lz_ev (tL_law sc)) L st M) ∧
  (∀ L st M, lz_ev (tL_law sc) 1149 L st M = lo_ii (fun x y => x + y) 1150 (lz_ev (tL_law sc)) L st M) ∧
  (∀ L st M, lz_ev (tL_law sc) 1150 L st M = lo_iast zzSC 1151 (lz_ev (tL_law sc)) L st M) ∧
  (∀ L st M, lz_ev (tL_law sc) 1151 L st M = lo_goto 1715 (lz_ev (tL_law sc)) L st M) :=
  ⟨lz_1 rfl (tl_L_law sc), lz_1 rfl (tl_L_law sc), lz_1 rfl (tl_L_law sc), lz_1 rfl (tl_L_law sc), lz_1 rfl (tl_L_law sc), lz_1 rfl (tl_L_law sc), lz_1 rfl (tl_L_law sc), lz_1 rfl (tl_L_law sc), lz_1 rfl (tl_L_law sc), fun L a1 a2 a3 a4 a5 a6 a7 a0 r A n => (lz_1 rfl (tl_L_law sc) _ _ _).trans rfl, lz_1 rfl (tl_L_law sc), lz_1 rfl (tl_L_law sc), lz_1 rfl (tl_L_law sc), lz_1 rfl (tl_L_law sc), lz_1 rfl (tl_L_law sc), lz_1 rfl (tl_L_law sc), lz_1 rfl (tl_L_law sc), lz_1 rfl (tl_L_law sc), lz_1 rfl (tl_L_law sc), lz_1 rfl (tl_L_law sc), lz_1 rfl (tl_L_law sc), lz_1 rfl (tl_L_law sc), lz_1 rfl (tl_L_law sc), lz_1 rfl (tl_L_law sc), lz_1 rfl (tl_L_law sc), lz_1 rfl (tl_L_law sc), lz_1 rfl (tl_L_law sc), lz_1 rfl (tl_L_law sc), lz_1 rfl (tl_L_law sc), lz_1 rfl (tl_L_law sc), lz_1 rfl (tl_L_law sc), fun L a0 r A n => (lz_1 rfl (tl_L_law sc) _ _ _).trans rfl, lz_1 rfl (tl_L_law sc), lz_1 rfl (tl_L_law sc), lz_1 rfl (tl_L_law sc), lz_1 rfl (tl_L_law sc), fun L a0 r A n => (lz_1 rfl (tl_L_law sc) _ _ _).trans rfl, lz_1 rfl (tl_L_law sc), lz_1 rfl (tl_L_law sc), lz_1 rfl (tl_L_law sc), lz_1 rfl (tl_L_law sc), lz_1 rfl (tl_L_law sc), lz_1 rfl (tl_L_law sc), lz_1 rfl (tl_L_law sc), lz_1 rfl (tl_L_law sc), lz_1 rfl (tl_L_law sc), lz_1 rfl (tl_L_law sc), lz_1 rfl (tl_L_law sc), lz_1 rfl (tl_L_law sc), lz_1 rfl (tl_L_law sc), lz_1 rfl (tl_L_law sc), lz_1 rfl (tl_L_law sc), lz_1 rfl (tl_L_law sc), lz_1 rfl (tl_L_law sc), lz_1 rfl (tl_L_law sc), fun L a1 a2 a3 a4 a5 a6 a7 a0 r A n => (lz_1 rfl (tl_L_law sc) _ _ _).trans rfl, lz_1 rfl (tl_L_law sc), lz_1 rfl (tl_L_law sc), lz_1 rfl (tl_L_law sc), lz_1 rfl (tl_L_law sc), lz_1 rfl (tl_L_law sc), lz_1 rfl (tl_L_law sc), lz_1 rfl (tl_L_law sc), lz_1 rfl (tl_L_law sc), lz_1 rfl (tl_L_law sc), lz_1 rfl (tl_L_law sc), fun L a0 r A n => (lz_1 rfl (tl_L_law sc) _ _ _).trans rfl, lz_1 rfl (tl_L_law sc), lz_1 rfl (tl_L_law sc), lz_1 rfl (tl_L_law sc), lz_1 rfl (tl_L_law sc), lz_1 rfl (tl_L_law sc), lz_1 rfl (tl_L_law sc), lz_1 rfl (tl_L_law sc), lz_1 rfl (tl_L_law sc), lz_1 rfl (tl_L_law sc), lz_1 rfl (tl_L_law sc), lz_1 rfl (tl_L_law sc), lz_1 rfl (tl_L_law sc), lz_1 rfl (tl_L_law sc), lz_1 rfl (tl_L_law sc), lz_1 rfl (tl_L_law sc), lz_1 rfl (tl_L_law sc), lz_1 rfl (tl_L_law sc), lz_1 rfl (tl_L_law sc), lz_1 rfl (tl_L_law sc), lz_1 rfl (tl_L_law sc), lz_1 rfl (tl_L_law sc), lz_1 rfl (tl_L_law sc), lz_1 rfl (tl_L_law sc), lz_1 rfl (tl_L_law sc), fun L a0 r A n => (lz_1 rfl (tl_L_law sc) _ _ _).trans rfl, lz_1 rfl (tl_L_law sc), lz_1 rfl (tl_L_law sc), lz_1 rfl (tl_L_law sc), lz_1 rfl (tl_L_law sc), lz_1 rfl (tl_L_law sc), lz_1 rfl (tl_L_law sc), lz_1 rfl (tl_L_law sc), lz_1 rfl (tl_L_law sc), lz_1 rfl (tl_L_law sc), lz_1 rfl (tl_L_law sc), lz_1 rfl (tl_L_law sc), lz_1 rfl (tl_L_law sc), lz_1 rfl (tl_L_law sc), lz_1 rfl (tl_L_law sc), lz_1 rfl (tl_L_law sc), lz_1 rfl (tl_L_law sc), lz_1 rfl (tl_L_law sc), lz_1 rfl (tl_L_law sc), lz_1 rfl (tl_L_law sc), lz_1 rfl (tl_L_law sc), lz_1 rfl (tl_L_law sc), lz_1 rfl (tl_L_law sc), lz_1 rfl (tl_L_law sc), lz_1 rfl (tl_L_law sc), lz_1 rfl (tl_L_law sc), lz_1 rfl (tl_L_law sc), lz_1 rfl (tl_L_law sc), lz_1 rfl (tl_L_law sc), lz_1 rfl (tl_L_law sc), fun L a0 r A n => (lz_1 rfl (tl_L_law sc) _ _ _).trans rfl, lz_1 rfl (tl_L_law sc), lz_1 rfl (tl_L_law sc), lz_1 rfl (tl_L_law sc), lz_1 rfl (tl_L_law sc), lz_1 rfl (tl_L_law sc), lz_1 rfl (tl_L_law sc), lz_1 rfl (tl_L_law sc), lz_1 rfl (tl_L_law sc), lz_1 rfl (tl_L_law sc), fun L a1 a2 a3 a4 a5 a6 a7 a0 r A n => (lz_1 rfl (tl_L_law sc) _ _ _).trans rfl, lz_1 rfl (tl_L_law sc), lz_1 rfl (tl_L_law sc), lz_1 rfl (tl_L_law sc), lz_1 rfl (tl_L_law sc), lz_1 rfl (tl_L_law sc), lz_1 rfl (tl_L_law sc), lz_1 rfl (tl_L_law sc), lz_1 rfl (tl_L_law sc), lz_1 rfl (tl_L_law sc), lz_1 rfl (tl_L_law sc), lz_1 rfl (tl_L_law sc), lz_1 rfl (tl_L_law sc), lz_1 rfl (tl_L_law sc), lz_1 rfl (tl_L_law sc), lz_1 rfl (tl_L_law sc), lz_1 rfl (tl_L_law sc), lz_1 rfl (tl_L_law sc), lz_1 rfl (tl_L_law sc)⟩
set_option maxRecDepth 100000 in
theorem e_L_law_p4 (sc : List Int32) : (∀ L st M, lz_ev (tL_law sc) 1154 L st M = lo_iload 9 1156 (lz_ev (tL_law sc)) L st M) ∧
  (∀ L st M, lz_ev (tL_law sc) 1156 L st M = lo_pushI 14 1158 (lz_ev (tL_law sc)) L st M) ∧
  (∀ L st M, lz_ev (tL_law sc) 1158 L st M = lo_icmp (fun x y => decide (¬ x = y)) 1243 1161 (lz_ev (tL_law sc)) L st M) ∧
  (∀ L st M, lz_ev (tL_law sc) 1161 L st M = lo_iload 8 1163 (lz_ev (tL_law sc)) L st M) ∧
  (∀ L st M, lz_ev (tL_law sc) 1163 L st M = lo_pushI 4 1164 (lz_ev (tL_law sc)) L st M) ∧
  (∀ L st M, lz_ev (tL_law sc) 1164 L st M = lo_iid (fun x y => x - x / y * y) 1165 (lz_ev (tL_law sc)) L st M) ∧
  (∀ L st M, lz_ev (tL_law sc) 1165 L st M = lo_istore 14 1167 (lz_ev (tL_law sc)) L st M) ∧
  (∀ L st M, lz_ev (tL_law sc) 1167 L st M = lo_iload 8 1169 (lz_ev (tL_law sc)) L st M) ∧
  (∀ L st M, lz_ev (tL_law sc) 1169 L st M = lo_pushI 4 1170 (lz_ev (tL_law sc)) L st M) ∧
  (∀ L st M, lz_ev (tL_law sc) 1170 L st M = lo_iid (fun x y => x / y) 1171 (lz_ev (tL_law sc)) L st M) ∧
  (∀ L st M, lz_ev (tL_law sc) 1171 L st M = lo_iload 13 1173 (lz_ev (tL_law sc)) L st M) ∧
  (∀ L st M, lz_ev (tL_law sc) 1173 L st M = lo_pushI 1 1174 (lz_ev (tL_law sc)) L st M) ∧
  (∀ L st M, lz_ev (tL_law sc) 1174 L st M = lo_ii (fun x y => x + y) 1175 (lz_ev (tL_law sc)) L st M) ∧
  (∀ L st M, lz_ev (tL_law sc) 1175 L st M = lo_iid (fun x y => x - x / y * y) 1176 (lz_ev (tL_law sc)) L st M) ∧
  (∀ L st M, lz_ev (tL_law sc) 1176 L st M = lo_istore 15 1178 (lz_ev (tL_law sc)) L st M) ∧
  (∀ L st M, lz_ev (tL_law sc) 1178 L st M = lo_aload 1 1179 (lz_ev (tL_law sc)) L st M) ∧
  (∀ L st M, lz_ev (tL_law sc) 1179 L st M = lo_pushI 12 1181 (lz_ev (tL_law sc)) L st M) ∧
  (∀ L st M, lz_ev (tL_law sc) 1181 L st M = lo_iload 14 1183 (lz_ev (tL_law sc)) L st M) ∧
  (∀ L st M, lz_ev (tL_law sc) 1183 L st M = lo_iload 15 1185 (lz_ev (tL_law sc)) L st M) ∧
  (∀ L st M, lz_ev (tL_law sc) 1185 L st M = lo_pushI 0 1186 (lz_ev (tL_law sc)) L st M) ∧
  (∀ L st M, lz_ev (tL_law sc) 1186 L st M = lo_pushI 0 1187 (lz_ev (tL_law sc)) L st M) ∧
  (∀ L st M, lz_ev (tL_law sc) 1187 L st M = lo_pushI 0 1188 (lz_ev (tL_law sc)) L st M) ∧
  (∀ L st M, lz_ev (tL_law sc) 1188 L st M = lo_pushI 0 1189 (lz_ev (tL_law sc)) L st M) ∧
  (∀ (L : zzLc) (a1 a2 a3 a4 a5 a6 a7 : Int32) (a0 : Nat) (r : List Value) (A : zzMd) (n : Nat), lz_ev (tL_law sc) 1189 L (.int a7 :: .int a6 :: .int a5 :: .int a4 :: .int a3 :: .int a2 :: .int a1 :: .ref a0 :: r) (A, n) = bif zz_cat8 r && decide (n + 1 ≤ 727906) then lz_bs (lz_ev (tL_law sc)) 1192 L r (n + 1) (fL_act [.ref a0, .int a1, .int a2, .int a3, .int a4, .int a5, .int a6, .int a7] A) else none) ∧
  (∀ L st M, lz_ev (tL_law sc) 1192 L st M = lo_iload 15 1194 (lz_ev (tL_law sc)) L st M) ∧
  (∀ L st M, lz_ev (tL_law sc) 1194 L st M = lo_iload 4 1196 (lz_ev (tL_law sc)) L st M) ∧
  (∀ L st M, lz_ev (tL_law sc) 1196 L st M = lo_icmp (fun x y => decide (y ≤ x)) 1205 1199 (lz_ev (tL_law sc)) L st M) ∧
  (∀ L st M, lz_ev (tL_law sc) 1199 L st M = lo_pushI (-1273) 1202 (lz_ev (tL_law sc)) L st M) ∧
  (∀ L st M, lz_ev (tL_law sc) 1202 L st M = lo_goto 1210 (lz_ev (tL_law sc)) L st M) ∧
  (∀ L st M, lz_ev (tL_law sc) 1205 L st M = lo_iload 13 1207 (lz_ev (tL_law sc)) L st M) ∧
  (∀ L st M, lz_ev (tL_law sc) 1207 L st M = lo_iload 15 1209 (lz_ev (tL_law sc)) L st M) ∧
  (∀ L st M, lz_ev (tL_law sc) 1209 L st M = lo_ii (fun x y => x - y) 1210 (lz_ev (tL_law sc)) L st M) ∧
  (∀ L st M, lz_ev (tL_law sc) 1210 L st M = lo_icmp (fun x y => decide (¬ x = y)) 1217 1213 (lz_ev (tL_law sc)) L st M) ∧
  (∀ L st M, lz_ev (tL_law sc) 1213 L st M = lo_pushI 1 1214 (lz_ev (tL_law sc)) L st M) ∧
  (∀ L st M, lz_ev (tL_law sc) 1214 L st M = lo_goto 1218 (lz_ev (tL_law sc)) L st M) ∧
  (∀ L st M, lz_ev (tL_law sc) 1217 L st M = lo_pushI 0 1218 (lz_ev (tL_law sc)) L st M) ∧
  (∀ L st M, lz_ev (tL_law sc) 1218 L st M = lo_istore 5 1220 (lz_ev (tL_law sc)) L st M) ∧
  (∀ L st M, lz_ev (tL_law sc) 1220 L st M = lo_aload 3 1221 (lz_ev (tL_law sc)) L st M) ∧
  (∀ L st M, lz_ev (tL_law sc) 1221 L st M = lo_iload 14 1223 (lz_ev (tL_law sc)) L st M) ∧
  (∀ L st M, lz_ev (tL_law sc) 1223 L st M = lo_iload 15 1225 (lz_ev (tL_law sc)) L st M) ∧
  (∀ L st M, lz_ev (tL_law sc) 1225 L st M = lo_iload 4 1227 (lz_ev (tL_law sc)) L st M) ∧
  (∀ L st M, lz_ev (tL_law sc) 1227 L st M = lo_icmp (fun x y => decide (y ≤ x)) 1237 1230 (lz_ev (tL_law sc)) L st M) ∧
  (∀ L st M, lz_ev (tL_law sc) 1230 L st M = lo_aload 3 1231 (lz_ev (tL_law sc)) L st M) ∧
  (∀ L st M, lz_ev (tL_law sc) 1231 L st M = lo_iload 14 1233 (lz_ev (tL_law sc)) L st M) ∧
  (∀ L st M, lz_ev (tL_law sc) 1233 L st M = lo_iald zzSC (zzSTC ++ [sc]) 1234 (lz_ev (tL_law sc)) L st M) ∧
  (∀ L st M, lz_ev (tL_law sc) 1234 L st M = lo_goto 1239 (lz_ev (tL_law sc)) L st M) ∧
  (∀ L st M, lz_ev (tL_law sc) 1237 L st M = lo_iload 15 1239 (lz_ev (tL_law sc)) L st M) ∧
  (∀ L st M, lz_ev (tL_law sc) 1239 L st M = lo_iast zzSC 1240 (lz_ev (tL_law sc)) L st M) ∧
  (∀ L st M, lz_ev (tL_law sc) 1240 L st M = lo_goto 1715 (lz_ev (tL_law sc)) L st M) ∧
  (∀ L st M, lz_ev (tL_law sc) 1243 L st M = lo_iload 9 1245 (lz_ev (tL_law sc)) L st M) ∧
  (∀ L st M, lz_ev (tL_law sc) 1245 L st M = lo_pushI 15 1247 (lz_ev (tL_law sc)) L st M) ∧
  (∀ L st M, lz_ev (tL_law sc) 1247 L st M = lo_icmp (fun x y => decide (¬ x = y)) 1312 1250 (lz_ev (tL_law sc)) L st M) ∧
  (∀ L st M, lz_ev (tL_law sc) 1250 L st M = lo_iload 8 1252 (lz_ev (tL_law sc)) L st M) ∧
  (∀ L st M, lz_ev (tL_law sc) 1252 L st M = lo_pushI 3 1253 (lz_ev (tL_law sc)) L st M) ∧
  (∀ L st M, lz_ev (tL_law sc) 1253 L st M = lo_iid (fun x y => x - x / y * y) 1254 (lz_ev (tL_law sc)) L st M) ∧
  (∀ L st M, lz_ev (tL_law sc) 1254 L st M = lo_if (fun x => decide (¬ x = 0)) 1312 1257 (lz_ev (tL_law sc)) L st M) ∧
  (∀ L st M, lz_ev (tL_law sc) 1257 L st M = lo_iload 8 1259 (lz_ev (tL_law sc)) L st M) ∧
  (∀ L st M, lz_ev (tL_law sc) 1259 L st M = lo_pushI 4 1260 (lz_ev (tL_law sc)) L st M) ∧
  (∀ L st M, lz_ev (tL_law sc) 1260 L st M = lo_iid (fun x y => x / y) 1261 (lz_ev (tL_law sc)) L st M) ∧
  (∀ L st M, lz_ev (tL_law sc) 1261 L st M = lo_iload 13 1263 (lz_ev (tL_law sc)) L st M) ∧
  (∀ L st M, lz_ev (tL_law sc) 1263 L st M = lo_pushI 1 1264 (lz_ev (tL_law sc)) L st M) ∧
  (∀ L st M, lz_ev (tL_law sc) 1264 L st M = lo_ii (fun x y => x + y) 1265 (lz_ev (tL_law sc)) L st M) ∧
  (∀ L st M, lz_ev (tL_law sc) 1265 L st M = lo_iid (fun x y => x - x / y * y) 1266 (lz_ev (tL_law sc)) L st M) ∧
  (∀ L st M, lz_ev (tL_law sc) 1266 L st M = lo_istore 14 1268 (lz_ev (tL_law sc)) L st M) ∧
  (∀ L st M, lz_ev (tL_law sc) 1268 L st M = lo_iload 14 1270 (lz_ev (tL_law sc)) L st M) ∧
  (∀ L st M, lz_ev (tL_law sc) 1270 L st M = lo_iload 4 1272 (lz_ev (tL_law sc)) L st M) ∧
  (∀ L st M, lz_ev (tL_law sc) 1272 L st M = lo_icmp (fun x y => decide (x ≤ y)) 1280 1275 (lz_ev (tL_law sc)) L st M) ∧
  (∀ L st M, lz_ev (tL_law sc) 1275 L st M = lo_iload 14 1277 (lz_ev (tL_law sc)) L st M) ∧
  (∀ L st M, lz_ev (tL_law sc) 1277 L st M = lo_goto 1282 (lz_ev (tL_law sc)) L st M) ∧
  (∀ L st M, lz_ev (tL_law sc) 1280 L st M = lo_iload 4 1282 (lz_ev (tL_law sc)) L st M) ∧
  (∀ L st M, lz_ev (tL_law sc) 1282 L st M = lo_istore 4 1284 (lz_ev (tL_law sc)) L st M) ∧
  (∀ L st M, lz_ev (tL_law sc) 1284 L st M = lo_aload 1 1285 (lz_ev (tL_law sc)) L st M) ∧
  (∀ L st M, lz_ev (tL_law sc) 1285 L st M = lo_pushI 14 1287 (lz_ev (tL_law sc)) L st M) ∧
  (∀ L st M, lz_ev (tL_law sc) 1287 L st M = lo_iload 14 1289 (lz_ev (tL_law sc)) L st M) ∧
  (∀ L st M, lz_ev (tL_law sc) 1289 L st M = lo_pushI 0 1290 (lz_ev (tL_law sc)) L st M) ∧
  (∀ L st M, lz_ev (tL_law sc) 1290 L st M = lo_pushI 0 1291 (lz_ev (tL_law sc)) L st M) ∧
  (∀ L st M, lz_ev (tL_law sc) 1291 L st M = lo_pushI 0 1292 (lz_ev (tL_law sc)) L st M) ∧
  (∀ L st M, lz_ev (tL_law sc) 1292 L st M = lo_pushI 0 1293 (lz_ev (tL_law sc)) L st M) ∧
  (∀ L st M, lz_ev (tL_law sc) 1293 L st M = lo_pushI 0 1294 (lz_ev (tL_law sc)) L st M) ∧
  (∀ (L : zzLc) (a1 a2 a3 a4 a5 a6 a7 : Int32) (a0 : Nat) (r : List Value) (A : zzMd) (n : Nat), lz_ev (tL_law sc) 1294 L (.int a7 :: .int a6 :: .int a5 :: .int a4 :: .int a3 :: .int a2 :: .int a1 :: .ref a0 :: r) (A, n) = bif zz_cat8 r && decide (n + 1 ≤ 727906) then lz_bs (lz_ev (tL_law sc)) 1297 L r (n + 1) (fL_act [.ref a0, .int a1, .int a2, .int a3, .int a4, .int a5, .int a6, .int a7] A) else none) ∧
  (∀ L st M, lz_ev (tL_law sc) 1297 L st M = lo_iload 4 1299 (lz_ev (tL_law sc)) L st M) ∧
  (∀ L st M, lz_ev (tL_law sc) 1299 L st M = lo_icmp (fun x y => decide (¬ x = y)) 1306 1302 (lz_ev (tL_law sc)) L st M) ∧
  (∀ L st M, lz_ev (tL_law sc) 1302 L st M = lo_pushI 1 1303 (lz_ev (tL_law sc)) L st M) ∧
  (∀ L st M, lz_ev (tL_law sc) 1303 L st M = lo_goto 1307 (lz_ev (tL_law sc)) L st M) ∧
  (∀ L st M, lz_ev (tL_law sc) 1306 L st M = lo_pushI 0 1307 (lz_ev (tL_law sc)) L st M) ∧
  (∀ L st M, lz_ev (tL_law sc) 1307 L st M = lo_istore 5 1309 (lz_ev (tL_law sc)) L st M) ∧
  (∀ L st M, lz_ev (tL_law sc) 1309 L st M = lo_goto 1715 (lz_ev (tL_law sc)) L st M) ∧
  (∀ L st M, lz_ev (tL_law sc) 1312 L st M = lo_iload 9 1314 (lz_ev (tL_law sc)) L st M) ∧
  (∀ L st M, lz_ev (tL_law sc) 1314 L st M = lo_pushI 15 1316 (lz_ev (tL_law sc)) L st M) ∧
  (∀ L st M, lz_ev (tL_law sc) 1316 L st M = lo_icmp (fun x y => decide (¬ x = y)) 1396 1319 (lz_ev (tL_law sc)) L st M) ∧
  (∀ L st M, lz_ev (tL_law sc) 1319 L st M = lo_pushI 0 1320 (lz_ev (tL_law sc)) L st M) ∧
  (∀ L st M, lz_ev (tL_law sc) 1320 L st M = lo_istore 14 1322 (lz_ev (tL_law sc)) L st M) ∧
  (∀ L st M, lz_ev (tL_law sc) 1322 L st M = lo_pushI 0 1323 (lz_ev (tL_law sc)) L st M) ∧
  (∀ L st M, lz_ev (tL_law sc) 1323 L st M = lo_istore 15 1325 (lz_ev (tL_law sc)) L st M) ∧
  (∀ L st M, lz_ev (tL_law sc) 1327 L st M = lo_iload 10 1329 (lz_ev (tL_law sc)) L st M) ∧
  (∀ L st M, lz_ev (tL_law sc) 1329 L st M = lo_icmp (fun x y => decide (y ≤ x)) 1358 1332 (lz_ev (tL_law sc)) L st M) ∧
  (∀ L st M, lz_ev (tL_law sc) 1332 L st M = lo_iload 14 1334 (lz_ev (tL_law sc)) L st M) ∧
  (∀ L st M, lz_ev (tL_law sc) 1334 L st M = lo_aload 1 1335 (lz_ev (tL_law sc)) L st M) ∧
  (∀ L st M, lz_ev (tL_law sc) 1335 L st M = lo_iload 15 1337 (lz_ev (tL_law sc)) L st M) ∧
  (∀ (L : zzLc) (a0 : Int32) (r : List Value) (A : zzMd) (n : Nat), lz_ev (tL_law sc) 1337 L (.int a0 :: .ref 0 :: r) (A, n) = bif zz_cat8 r && decide (n ≤ 727906) then lz_bv (lz_ev (tL_law sc)) 1340 L r n (lz_g fX11_goingOf [.ref 0, .int a0] A) else none) ∧
  (∀ L st M, lz_ev (tL_law sc) 1340 L st M = lo_pushI 4 1341 (lz_ev (tL_law sc)) L st M) ∧
  (∀ L st M, lz_ev (tL_law sc) 1341 L st M = lo_icmp (fun x y => decide (y ≤ x)) 1348 1344 (lz_ev (tL_law sc)) L st M) ∧
  (∀ L st M, lz_ev (tL_law sc) 1344 L st M = lo_pushI 1 1345 (lz_ev (tL_law sc)) L st M) ∧
  (∀ L st M, lz_ev (tL_law sc) 1345 L st M = lo_goto 1349 (lz_ev (tL_law sc)) L st M) ∧
  (∀ L st M, lz_ev (tL_law sc) 1348 L st M = lo_pushI 0 1349 (lz_ev (tL_law sc)) L st M) ∧
  (∀ L st M, lz_ev (tL_law sc) 1349 L st M = lo_ii (fun x y => x + y) 1350 (lz_ev (tL_law sc)) L st M) ∧
  (∀ L st M, lz_ev (tL_law sc) 1350 L st M = lo_istore 14 1352 (lz_ev (tL_law sc)) L st M) ∧
  (∀ L st M, lz_ev (tL_law sc) 1352 L st M = lo_iinc 15 1 1355 (lz_ev (tL_law sc)) L st M) ∧
  (∀ L st M, lz_ev (tL_law sc) 1355 L st M = lo_goto 1325 (lz_ev (tL_law sc)) L st M) ∧
  (∀ L st M, lz_ev (tL_law sc) 1358 L st M = lo_aload 1 1359 (lz_ev (tL_law sc)) L st M) ∧
  (∀ L st M, lz_ev (tL_law sc) 1359 L st M = lo_pushI 18 1361 (lz_ev (tL_law sc)) L st M) ∧
  (∀ L st M, lz_ev (tL_law sc) 1361 L st M = lo_iload 8 1363 (lz_ev (tL_law sc)) L st M) ∧
  (∀ L st M, lz_ev (tL_law sc) 1363 L st M = lo_pushI 4 1364 (lz_ev (tL_law sc)) L st M) ∧
  (∀ L st M, lz_ev (tL_law sc) 1364 L st M = lo_iid (fun x y => x - x / y * y) 1365 (lz_ev (tL_law sc)) L st M) ∧
  (∀ L st M, lz_ev (tL_law sc) 1365 L st M = lo_pushI 0 1366 (lz_ev (tL_law sc)) L st M) ∧
  (∀ L st M, lz_ev (tL_law sc) 1366 L st M = lo_pushI 0 1367 (lz_ev (tL_law sc)) L st M) ∧
  (∀ L st M, lz_ev (tL_law sc) 1367 L st M = lo_pushI 0 1368 (lz_ev (tL_law sc)) L st M) ∧
  (∀ L st M, lz_ev (tL_law sc) 1368 L st M = lo_pushI 0 1369 (lz_ev (tL_law sc)) L st M) ∧
  (∀ L st M, lz_ev (tL_law sc) 1369 L st M = lo_pushI 0 1370 (lz_ev (tL_law sc)) L st M) ∧
  (∀ (L : zzLc) (a1 a2 a3 a4 a5 a6 a7 : Int32) (a0 : Nat) (r : List Value) (A : zzMd) (n : Nat), lz_ev (tL_law sc) 1370 L (.int a7 :: .int a6 :: .int a5 :: .int a4 :: .int a3 :: .int a2 :: .int a1 :: .ref a0 :: r) (A, n) = bif zz_cat8 r && decide (n + 1 ≤ 727906) then lz_bs (lz_ev (tL_law sc)) 1373 L r (n + 1) (fL_act [.ref a0, .int a1, .int a2, .int a3, .int a4, .int a5, .int a6, .int a7] A) else none) ∧
  (∀ L st M, lz_ev (tL_law sc) 1373 L st M = lo_iload 14 1375 (lz_ev (tL_law sc)) L st M) ∧
  (∀ L st M, lz_ev (tL_law sc) 1375 L st M = lo_icmp (fun x y => decide (¬ x = y)) 1382 1378 (lz_ev (tL_law sc)) L st M) ∧
  (∀ L st M, lz_ev (tL_law sc) 1378 L st M = lo_pushI 1 1379 (lz_ev (tL_law sc)) L st M) ∧
  (∀ L st M, lz_ev (tL_law sc) 1379 L st M = lo_goto 1383 (lz_ev (tL_law sc)) L st M) ∧
  (∀ L st M, lz_ev (tL_law sc) 1382 L st M = lo_pushI 0 1383 (lz_ev (tL_law sc)) L st M) ∧
  (∀ L st M, lz_ev (tL_law sc) 1383 L st M = lo_istore 5 1385 (lz_ev (tL_law sc)) L st M) ∧
  (∀ L st M, lz_ev (tL_law sc) 1385 L st M = lo_aload 3 1386 (lz_ev (tL_law sc)) L st M) ∧
  (∀ L st M, lz_ev (tL_law sc) 1386 L st M = lo_iload 8 1388 (lz_ev (tL_law sc)) L st M) ∧
  (∀ L st M, lz_ev (tL_law sc) 1388 L st M = lo_pushI 4 1389 (lz_ev (tL_law sc)) L st M) ∧
  (∀ L st M, lz_ev (tL_law sc) 1389 L st M = lo_iid (fun x y => x - x / y * y) 1390 (lz_ev (tL_law sc)) L st M) ∧
  (∀ L st M, lz_ev (tL_law sc) 1390 L st M = lo_iload 13 1392 (lz_ev (tL_law sc)) L st M) ∧
  (∀ L st M, lz_ev (tL_law sc) 1392 L st M = lo_iast zzSC 1393 (lz_ev (tL_law sc)) L st M) ∧
  (∀ L st M, lz_ev (tL_law sc) 1393 L st M = lo_goto 1715 (lz_ev (tL_law sc)) L st M) ∧
  (∀ L st M, lz_ev (tL_law sc) 1396 L st M = lo_iload 9 1398 (lz_ev (tL_law sc)) L st M) ∧
  (∀ L st M, lz_ev (tL_law sc) 1398 L st M = lo_pushI 16 1400 (lz_ev (tL_law sc)) L st M) ∧
  (∀ L st M, lz_ev (tL_law sc) 1400 L st M = lo_icmp (fun x y => decide (¬ x = y)) 1443 1403 (lz_ev (tL_law sc)) L st M) ∧
  (∀ L st M, lz_ev (tL_law sc) 1403 L st M = lo_aload 1 1404 (lz_ev (tL_law sc)) L st M) ∧
  (∀ L st M, lz_ev (tL_law sc) 1404 L st M = lo_pushI 15 1406 (lz_ev (tL_law sc)) L st M) ∧
  (∀ L st M, lz_ev (tL_law sc) 1406 L st M = lo_pushI 1 1407 (lz_ev (tL_law sc)) L st M) ∧
  (∀ L st M, lz_ev (tL_law sc) 1407 L st M = lo_iload 8 1409 (lz_ev (tL_law sc)) L st M) ∧
  (∀ L st M, lz_ev (tL_law sc) 1409 L st M = lo_pushI 12 1411 (lz_ev (tL_law sc)) L st M) ∧
  (∀ L st M, lz_ev (tL_law sc) 1411 L st M = lo_iid (fun x y => x - x / y * y) 1412 (lz_ev (tL_law sc)) L st M) ∧
  (∀ L st M, lz_ev (tL_law sc) 1412 L st M = lo_ii (fun x y => x + y) 1413 (lz_ev (tL_law sc)) L st M) ∧
  (∀ L st M, lz_ev (tL_law sc) 1413 L st M = lo_pushI 0 1414 (lz_ev (tL_law sc)) L st M) ∧
  (∀ L st M, lz_ev (tL_law sc) 1414 L st M = lo_pushI 0 1415 (lz_ev (tL_law sc)) L st M) ∧
  (∀ L st M, lz_ev (tL_law sc) 1415 L st M = lo_pushI 0 1416 (lz_ev (tL_law sc)) L st M) ∧
  (∀ L st M, lz_ev (tL_law sc) 1416 L st M = lo_pushI 0 1417 (lz_ev (tL_law sc)) L st M) ∧
  (∀ L st M, lz_ev (tL_law sc) 1417 L st M = lo_pushI 0 1418 (lz_ev (tL_law sc)) L st M) ∧
  (∀ (L : zzLc) (a1 a2 a3 a4 a5 a6 a7 : Int32) (a0 : Nat) (r : List Value) (A : zzMd) (n : Nat), lz_ev (tL_law sc) 1418 L (.int a7 :: .int a6 :: .int a5 :: .int a4 :: .int a3 :: .int a2 :: .int a1 :: .ref a0 :: r) (A, n) = bif zz_cat8 r && decide (n + 1 ≤ 727906) then lz_bs (lz_ev (tL_law sc)) 1421 L r (n + 1) (fL_act [.ref a0, .int a1, .int a2, .int a3, .int a4, .int a5, .int a6, .int a7] A) else none) ∧
  (∀ L st M, lz_ev (tL_law sc) 1421 L st M = lo_if (fun x => decide (x ≤ 0)) 1437 1424 (lz_ev (tL_law sc)) L st M) :=
  ⟨lz_1 rfl (tl_L_law sc), lz_1 rfl (tl_L_law sc), lz_1 rfl (tl_L_law sc), lz_1 rfl (tl_L_law sc), lz_1 rfl (tl_L_law sc), lz_1 rfl (tl_L_law sc), lz_1 rfl (tl_L_law sc), lz_1 rfl (tl_L_law sc), lz_1 rfl (tl_L_law sc), lz_1 rfl (tl_L_law sc), lz_1 rfl (tl_L_law sc), lz_1 rfl (tl_L_law sc), lz_1 rfl (tl_L_law sc), lz_1 rfl (tl_L_law sc), lz_1 rfl (tl_L_law sc), lz_1 rfl (tl_L_law sc), lz_1 rfl (tl_L_law sc), lz_1 rfl (tl_L_law sc), lz_1 rfl (tl_L_law sc), lz_1 rfl (tl_L_law sc), lz_1 rfl (tl_L_law sc), lz_1 rfl (tl_L_law sc), lz_1 rfl (tl_L_law sc), fun L a1 a2 a3 a4 a5 a6 a7 a0 r A n => (lz_1 rfl (tl_L_law sc) _ _ _).trans rfl, lz_1 rfl (tl_L_law sc), lz_1 rfl (tl_L_law sc), lz_1 rfl (tl_L_law sc), lz_1 rfl (tl_L_law sc), lz_1 rfl (tl_L_law sc), lz_1 rfl (tl_L_law sc), lz_1 rfl (tl_L_law sc), lz_1 rfl (tl_L_law sc), lz_1 rfl (tl_L_law sc), lz_1 rfl (tl_L_law sc), lz_1 rfl (tl_L_law sc), lz_1 rfl (tl_L_law sc), lz_1 rfl (tl_L_law sc), lz_1 rfl (tl_L_law sc), lz_1 rfl (tl_L_law sc), lz_1 rfl (tl_L_law sc), lz_1 rfl (tl_L_law sc), lz_1 rfl (tl_L_law sc), lz_1 rfl (tl_L_law sc), lz_1 rfl (tl_L_law sc), lz_1 rfl (tl_L_law sc), lz_1 rfl (tl_L_law sc), lz_1 rfl (tl_L_law sc), lz_1 rfl (tl_L_law sc), lz_1 rfl (tl_L_law sc), lz_1 rfl (tl_L_law sc), lz_1 rfl (tl_L_law sc), lz_1 rfl (tl_L_law sc), lz_1 rfl (tl_L_law sc), lz_1 rfl (tl_L_law sc), lz_1 rfl (tl_L_law sc), lz_1 rfl (tl_L_law sc), lz_1 rfl (tl_L_law sc), lz_1 rfl (tl_L_law sc), lz_1 rfl (tl_L_law sc), lz_1 rfl (tl_L_law sc), lz_1 rfl (tl_L_law sc), lz_1 rfl (tl_L_law sc), lz_1 rfl (tl_L_law sc), lz_1 rfl (tl_L_law sc), lz_1 rfl (tl_L_law sc), lz_1 rfl (tl_L_law sc), lz_1 rfl (tl_L_law sc), lz_1 rfl (tl_L_law sc), lz_1 rfl (tl_L_law sc), lz_1 rfl (tl_L_law sc), lz_1 rfl (tl_L_law sc), lz_1 rfl (tl_L_law sc), lz_1 rfl (tl_L_law sc), lz_1 rfl (tl_L_law sc), lz_1 rfl (tl_L_law sc), lz_1 rfl (tl_L_law sc), lz_1 rfl (tl_L_law sc), lz_1 rfl (tl_L_law sc), lz_1 rfl (tl_L_law sc), fun L a1 a2 a3 a4 a5 a6 a7 a0 r A n => (lz_1 rfl (tl_L_law sc) _ _ _).trans rfl, lz_1 rfl (tl_L_law sc), lz_1 rfl (tl_L_law sc), lz_1 rfl (tl_L_law sc), lz_1 rfl (tl_L_law sc), lz_1 rfl (tl_L_law sc), lz_1 rfl (tl_L_law sc), lz_1 rfl (tl_L_law sc), lz_1 rfl (tl_L_law sc), lz_1 rfl (tl_L_law sc), lz_1 rfl (tl_L_law sc), lz_1 rfl (tl_L_law sc), lz_1 rfl (tl_L_law sc), lz_1 rfl (tl_L_law sc), lz_1 rfl (tl_L_law sc), lz_1 rfl (tl_L_law sc), lz_1 rfl (tl_L_law sc), lz_1 rfl (tl_L_law sc), lz_1 rfl (tl_L_law sc), lz_1 rfl (tl_L_law sc), fun L a0 r A n => (lz_1 rfl (tl_L_law sc) _ _ _).trans rfl, lz_1 rfl (tl_L_law sc), lz_1 rfl (tl_L_law sc), lz_1 rfl (tl_L_law sc), lz_1 rfl (tl_L_law sc), lz_1 rfl (tl_L_law sc), lz_1 rfl (tl_L_law sc), lz_1 rfl (tl_L_law sc), lz_1 rfl (tl_L_law sc), lz_1 rfl (tl_L_law sc), lz_1 rfl (tl_L_law sc), lz_1 rfl (tl_L_law sc), lz_1 rfl (tl_L_law sc), lz_1 rfl (tl_L_law sc), lz_1 rfl (tl_L_law sc), lz_1 rfl (tl_L_law sc), lz_1 rfl (tl_L_law sc), lz_1 rfl (tl_L_law sc), lz_1 rfl (tl_L_law sc), lz_1 rfl (tl_L_law sc), fun L a1 a2 a3 a4 a5 a6 a7 a0 r A n => (lz_1 rfl (tl_L_law sc) _ _ _).trans rfl, lz_1 rfl (tl_L_law sc), lz_1 rfl (tl_L_law sc), lz_1 rfl (tl_L_law sc), lz_1 rfl (tl_L_law sc), lz_1 rfl (tl_L_law sc), lz_1 rfl (tl_L_law sc), lz_1 rfl (tl_L_law sc), lz_1 rfl (tl_L_law sc), lz_1 rfl (tl_L_law sc), lz_1 rfl (tl_L_law sc), lz_1 rfl (tl_L_law sc), lz_1 rfl (tl_L_law sc), lz_1 rfl (tl_L_law sc), lz_1 rfl (tl_L_law sc), lz_1 rfl (tl_L_law sc), lz_1 rfl (tl_L_law sc), lz_1 rfl (tl_L_law sc), lz_1 rfl (tl_L_law sc), lz_1 rfl (tl_L_law sc), lz_1 rfl (tl_L_law sc), lz_1 rfl (tl_L_law sc), lz_1 rfl (tl_L_law sc), lz_1 rfl (tl_L_law sc), lz_1 rfl (tl_L_law sc), lz_1 rfl (tl_L_law sc), lz_1 rfl (tl_L_law sc), lz_1 rfl (tl_L_law sc), lz_1 rfl (tl_L_law sc), fun L a1 a2 a3 a4 a5 a6 a7 a0 r A n => (lz_1 rfl (tl_L_law sc) _ _ _).trans rfl, lz_1 rfl (tl_L_law sc)⟩
set_option maxRecDepth 100000 in
theorem e_L_law_p5 (sc : List Int32) : (∀ L st M, lz_ev (tL_law sc) 1424 L st M = lo_aload 1 1425 (lz_ev (tL_law sc)) L st M) ∧
  (∀ (L : zzLc) (r : List Value) (A : zzMd) (n : Nat), lz_ev (tL_law sc) 1425 L (.ref 0 :: r) (A, n) = bif zz_cat8 r && decide (n ≤ 727906) then lz_bv (lz_ev (tL_law sc)) 1428 L r n (lz_g fX11_version [.ref 0] A) else none) ∧
  (∀ L st M, lz_ev (tL_law sc) 1428 L st M = lo_iload 13 1430 (lz_ev (tL_law sc)) L st M) ∧
  (∀ L st M, lz_ev (tL_law sc) 1430 L st M = lo_icmp (fun x y => decide (x < y)) 1437 1433 (lz_ev (tL_law sc)) L st M) ∧
  (∀ L st M, lz_ev (tL_law sc) 1433 L st M = lo_pushI 1 1434 (lz_ev (tL_law sc)) L st M) ∧
  (∀ L st M, lz_ev (tL_law sc) 1434 L st M = lo_goto 1438 (lz_ev (tL_law sc)) L st M) ∧
  (∀ L st M, lz_ev (tL_law sc) 1437 L st M = lo_pushI 0 1438 (lz_ev (tL_law sc)) L st M) ∧
  (∀ L st M, lz_ev (tL_law sc) 1438 L st M = lo_istore 5 1440 (lz_ev (tL_law sc)) L st M) ∧
  (∀ L st M, lz_ev (tL_law sc) 1440 L st M = lo_goto 1715 (lz_ev (tL_law sc)) L st M) ∧
  (∀ L st M, lz_ev (tL_law sc) 1443 L st M = lo_iload 9 1445 (lz_ev (tL_law sc)) L st M) ∧
  (∀ L st M, lz_ev (tL_law sc) 1445 L st M = lo_pushI 17 1447 (lz_ev (tL_law sc)) L st M) ∧
  (∀ L st M, lz_ev (tL_law sc) 1447 L st M = lo_icmp (fun x y => decide (¬ x = y)) 1568 1450 (lz_ev (tL_law sc)) L st M) ∧
  (∀ L st M, lz_ev (tL_law sc) 1450 L st M = lo_iload 12 1452 (lz_ev (tL_law sc)) L st M) ∧
  (∀ L st M, lz_ev (tL_law sc) 1452 L st M = lo_pushI 4 1453 (lz_ev (tL_law sc)) L st M) ∧
  (∀ L st M, lz_ev (tL_law sc) 1453 L st M = lo_icmp (fun x y => decide (¬ x = y)) 1568 1456 (lz_ev (tL_law sc)) L st M) ∧
  (∀ L st M, lz_ev (tL_law sc) 1456 L st M = lo_aload 1 1457 (lz_ev (tL_law sc)) L st M) ∧
  (∀ L st M, lz_ev (tL_law sc) 1457 L st M = lo_iload 11 1459 (lz_ev (tL_law sc)) L st M) ∧
  (∀ (L : zzLc) (a0 : Int32) (r : List Value) (A : zzMd) (n : Nat), lz_ev (tL_law sc) 1459 L (.int a0 :: .ref 0 :: r) (A, n) = bif zz_cat8 r && decide (n ≤ 727906) then lz_bv (lz_ev (tL_law sc)) 1462 L r n (lz_g fX11_goingOf [.ref 0, .int a0] A) else none) ∧
  (∀ L st M, lz_ev (tL_law sc) 1462 L st M = lo_pushI 4 1463 (lz_ev (tL_law sc)) L st M) ∧
  (∀ L st M, lz_ev (tL_law sc) 1463 L st M = lo_icmp (fun x y => decide (¬ x = y)) 1470 1466 (lz_ev (tL_law sc)) L st M) ∧
  (∀ L st M, lz_ev (tL_law sc) 1466 L st M = lo_pushI 1 1467 (lz_ev (tL_law sc)) L st M) ∧
  (∀ L st M, lz_ev (tL_law sc) 1467 L st M = lo_goto 1471 (lz_ev (tL_law sc)) L st M) ∧
  (∀ L st M, lz_ev (tL_law sc) 1470 L st M = lo_pushI 0 1471 (lz_ev (tL_law sc)) L st M) ∧
  (∀ L st M, lz_ev (tL_law sc) 1471 L st M = lo_istore 14 1473 (lz_ev (tL_law sc)) L st M) ∧
  (∀ L st M, lz_ev (tL_law sc) 1473 L st M = lo_aload 1 1474 (lz_ev (tL_law sc)) L st M) ∧
  (∀ L st M, lz_ev (tL_law sc) 1474 L st M = lo_iload 11 1476 (lz_ev (tL_law sc)) L st M) ∧
  (∀ (L : zzLc) (a0 : Int32) (r : List Value) (A : zzMd) (n : Nat), lz_ev (tL_law sc) 1476 L (.int a0 :: .ref 0 :: r) (A, n) = bif zz_cat8 r && decide (n ≤ 727906) then lz_bv (lz_ev (tL_law sc)) 1479 L r n (lz_g fX11_isReady [.ref 0, .int a0] A) else none) ∧
  (∀ L st M, lz_ev (tL_law sc) 1479 L st M = lo_if (fun x => decide (x = 0)) 1486 1482 (lz_ev (tL_law sc)) L st M) ∧
  (∀ L st M, lz_ev (tL_law sc) 1482 L st M = lo_pushI 1 1483 (lz_ev (tL_law sc)) L st M) ∧
  (∀ L st M, lz_ev (tL_law sc) 1483 L st M = lo_goto 1487 (lz_ev (tL_law sc)) L st M) ∧
  (∀ L st M, lz_ev (tL_law sc) 1486 L st M = lo_pushI 0 1487 (lz_ev (tL_law sc)) L st M) ∧
  (∀ L st M, lz_ev (tL_law sc) 1487 L st M = lo_istore 15 1489 (lz_ev (tL_law sc)) L st M) ∧
  (∀ L st M, lz_ev (tL_law sc) 1489 L st M = lo_aload 1 1490 (lz_ev (tL_law sc)) L st M) ∧
  (∀ L st M, lz_ev (tL_law sc) 1490 L st M = lo_pushI 16 1492 (lz_ev (tL_law sc)) L st M) ∧
  (∀ L st M, lz_ev (tL_law sc) 1492 L st M = lo_iload 11 1494 (lz_ev (tL_law sc)) L st M) ∧
  (∀ L st M, lz_ev (tL_law sc) 1494 L st M = lo_pushI 0 1495 (lz_ev (tL_law sc)) L st M) ∧
  (∀ L st M, lz_ev (tL_law sc) 1495 L st M = lo_pushI 0 1496 (lz_ev (tL_law sc)) L st M) ∧
  (∀ L st M, lz_ev (tL_law sc) 1496 L st M = lo_pushI 0 1497 (lz_ev (tL_law sc)) L st M) ∧
  (∀ L st M, lz_ev (tL_law sc) 1497 L st M = lo_pushI 0 1498 (lz_ev (tL_law sc)) L st M) ∧
  (∀ L st M, lz_ev (tL_law sc) 1498 L st M = lo_pushI 0 1499 (lz_ev (tL_law sc)) L st M) ∧
  (∀ (L : zzLc) (a1 a2 a3 a4 a5 a6 a7 : Int32) (a0 : Nat) (r : List Value) (A : zzMd) (n : Nat), lz_ev (tL_law sc) 1499 L (.int a7 :: .int a6 :: .int a5 :: .int a4 :: .int a3 :: .int a2 :: .int a1 :: .ref a0 :: r) (A, n) = bif zz_cat8 r && decide (n + 1 ≤ 727906) then lz_bs (lz_ev (tL_law sc)) 1502 L r (n + 1) (fL_act [.ref a0, .int a1, .int a2, .int a3, .int a4, .int a5, .int a6, .int a7] A) else none) ∧
  (∀ L st M, lz_ev (tL_law sc) 1502 L st M = lo_iload 14 1504 (lz_ev (tL_law sc)) L st M) ∧
  (∀ L st M, lz_ev (tL_law sc) 1504 L st M = lo_if (fun x => decide (x = 0)) 1513 1507 (lz_ev (tL_law sc)) L st M) ∧
  (∀ L st M, lz_ev (tL_law sc) 1507 L st M = lo_pushI (-1273) 1510 (lz_ev (tL_law sc)) L st M) ∧
  (∀ L st M, lz_ev (tL_law sc) 1510 L st M = lo_goto 1515 (lz_ev (tL_law sc)) L st M) ∧
  (∀ L st M, lz_ev (tL_law sc) 1513 L st M = lo_iload 15 1515 (lz_ev (tL_law sc)) L st M) ∧
  (∀ L st M, lz_ev (tL_law sc) 1515 L st M = lo_icmp (fun x y => decide (¬ x = y)) 1562 1518 (lz_ev (tL_law sc)) L st M) ∧
  (∀ L st M, lz_ev (tL_law sc) 1518 L st M = lo_iload 14 1520 (lz_ev (tL_law sc)) L st M) ∧
  (∀ L st M, lz_ev (tL_law sc) 1520 L st M = lo_if (fun x => decide (¬ x = 0)) 1532 1523 (lz_ev (tL_law sc)) L st M) ∧
  (∀ L st M, lz_ev (tL_law sc) 1523 L st M = lo_aload 1 1524 (lz_ev (tL_law sc)) L st M) ∧
  (∀ L st M, lz_ev (tL_law sc) 1524 L st M = lo_iload 11 1526 (lz_ev (tL_law sc)) L st M) ∧
  (∀ (L : zzLc) (a0 : Int32) (r : List Value) (A : zzMd) (n : Nat), lz_ev (tL_law sc) 1526 L (.int a0 :: .ref 0 :: r) (A, n) = bif zz_cat8 r && decide (n ≤ 727906) then lz_bv (lz_ev (tL_law sc)) 1529 L r n (lz_g fX11_isReady [.ref 0, .int a0] A) else none) ∧
  (∀ L st M, lz_ev (tL_law sc) 1529 L st M = lo_if (fun x => decide (x = 0)) 1562 1532 (lz_ev (tL_law sc)) L st M) ∧
  (∀ L st M, lz_ev (tL_law sc) 1532 L st M = lo_aload 1 1533 (lz_ev (tL_law sc)) L st M) ∧
  (∀ (L : zzLc) (r : List Value) (A : zzMd) (n : Nat), lz_ev (tL_law sc) 1533 L (.ref 0 :: r) (A, n) = bif zz_cat8 r && decide (n ≤ 727906) then lz_bv (lz_ev (tL_law sc)) 1536 L r n (lz_g fX11_version [.ref 0] A) else none) ∧
  (∀ L st M, lz_ev (tL_law sc) 1536 L st M = lo_iload 13 1538 (lz_ev (tL_law sc)) L st M) ∧
  (∀ L st M, lz_ev (tL_law sc) 1538 L st M = lo_iload 14 1540 (lz_ev (tL_law sc)) L st M) ∧
  (∀ L st M, lz_ev (tL_law sc) 1540 L st M = lo_if (fun x => decide (¬ x = 0)) 1549 1543 (lz_ev (tL_law sc)) L st M) ∧
  (∀ L st M, lz_ev (tL_law sc) 1543 L st M = lo_iload 15 1545 (lz_ev (tL_law sc)) L st M) ∧
  (∀ L st M, lz_ev (tL_law sc) 1545 L st M = lo_pushI 1 1546 (lz_ev (tL_law sc)) L st M) ∧
  (∀ L st M, lz_ev (tL_law sc) 1546 L st M = lo_icmp (fun x y => decide (¬ x = y)) 1553 1549 (lz_ev (tL_law sc)) L st M) ∧
  (∀ L st M, lz_ev (tL_law sc) 1549 L st M = lo_pushI 0 1550 (lz_ev (tL_law sc)) L st M) ∧
  (∀ L st M, lz_ev (tL_law sc) 1550 L st M = lo_goto 1554 (lz_ev (tL_law sc)) L st M) ∧
  (∀ L st M, lz_ev (tL_law sc) 1553 L st M = lo_pushI 1 1554 (lz_ev (tL_law sc)) L st M) ∧
  (∀ L st M, lz_ev (tL_law sc) 1554 L st M = lo_ii (fun x y => x + y) 1555 (lz_ev (tL_law sc)) L st M) ∧
  (∀ L st M, lz_ev (tL_law sc) 1555 L st M = lo_icmp (fun x y => decide (¬ x = y)) 1562 1558 (lz_ev (tL_law sc)) L st M) ∧
  (∀ L st M, lz_ev (tL_law sc) 1558 L st M = lo_pushI 1 1559 (lz_ev (tL_law sc)) L st M) ∧
  (∀ L st M, lz_ev (tL_law sc) 1559 L st M = lo_goto 1563 (lz_ev (tL_law sc)) L st M) ∧
  (∀ L st M, lz_ev (tL_law sc) 1562 L st M = lo_pushI 0 1563 (lz_ev (tL_law sc)) L st M) ∧
  (∀ L st M, lz_ev (tL_law sc) 1563 L st M = lo_istore 5 1565 (lz_ev (tL_law sc)) L st M) ∧
  (∀ L st M, lz_ev (tL_law sc) 1565 L st M = lo_goto 1715 (lz_ev (tL_law sc)) L st M) ∧
  (∀ L st M, lz_ev (tL_law sc) 1568 L st M = lo_iload 9 1570 (lz_ev (tL_law sc)) L st M) ∧
  (∀ L st M, lz_ev (tL_law sc) 1570 L st M = lo_pushI 25 1572 (lz_ev (tL_law sc)) L st M) ∧
  (∀ L st M, lz_ev (tL_law sc) 1572 L st M = lo_icmp (fun x y => decide (y ≤ x)) 1704 1575 (lz_ev (tL_law sc)) L st M) ∧
  (∀ L st M, lz_ev (tL_law sc) 1575 L st M = lo_iload 8 1577 (lz_ev (tL_law sc)) L st M) ∧
  (∀ L st M, lz_ev (tL_law sc) 1577 L st M = lo_pushI 8 1579 (lz_ev (tL_law sc)) L st M) ∧
  (∀ L st M, lz_ev (tL_law sc) 1579 L st M = lo_iid (fun x y => x - x / y * y) 1580 (lz_ev (tL_law sc)) L st M) ∧
  (∀ L st M, lz_ev (tL_law sc) 1580 L st M = lo_istore 14 1582 (lz_ev (tL_law sc)) L st M) ∧
  (∀ L st M, lz_ev (tL_law sc) 1582 L st M = lo_aload 1 1583 (lz_ev (tL_law sc)) L st M) ∧
  (∀ L st M, lz_ev (tL_law sc) 1583 L st M = lo_iload 14 1585 (lz_ev (tL_law sc)) L st M) ∧
  (∀ (L : zzLc) (a0 : Int32) (r : List Value) (A : zzMd) (n : Nat), lz_ev (tL_law sc) 1585 L (.int a0 :: .ref 0 :: r) (A, n) = bif zz_cat8 r && decide (n ≤ 727906) then lz_bv (lz_ev (tL_law sc)) 1588 L r n (lz_g fX11_seen [.ref 0, .int a0] A) else none) ∧
  (∀ L st M, lz_ev (tL_law sc) 1588 L st M = lo_istore 15 1590 (lz_ev (tL_law sc)) L st M) ∧
  (∀ L st M, lz_ev (tL_law sc) 1590 L st M = lo_aload 1 1591 (lz_ev (tL_law sc)) L st M) ∧
  (∀ L st M, lz_ev (tL_law sc) 1591 L st M = lo_pushI 9 1593 (lz_ev (tL_law sc)) L st M) ∧
  (∀ L st M, lz_ev (tL_law sc) 1593 L st M = lo_iload 14 1595 (lz_ev (tL_law sc)) L st M) ∧
  (∀ L st M, lz_ev (tL_law sc) 1595 L st M = lo_pushI 1 1596 (lz_ev (tL_law sc)) L st M) ∧
  (∀ L st M, lz_ev (tL_law sc) 1596 L st M = lo_iload 8 1598 (lz_ev (tL_law sc)) L st M) ∧
  (∀ L st M, lz_ev (tL_law sc) 1598 L st M = lo_pushI 8 1600 (lz_ev (tL_law sc)) L st M) ∧
  (∀ L st M, lz_ev (tL_law sc) 1600 L st M = lo_iid (fun x y => x / y) 1601 (lz_ev (tL_law sc)) L st M) ∧
  (∀ L st M, lz_ev (tL_law sc) 1601 L st M = lo_pushI 30 1603 (lz_ev (tL_law sc)) L st M) ∧
  (∀ L st M, lz_ev (tL_law sc) 1603 L st M = lo_iid (fun x y => x - x / y * y) 1604 (lz_ev (tL_law sc)) L st M) ∧
  (∀ L st M, lz_ev (tL_law sc) 1604 L st M = lo_ii (fun x y => x + y) 1605 (lz_ev (tL_law sc)) L st M) ∧
  (∀ L st M, lz_ev (tL_law sc) 1605 L st M = lo_pushI 0 1606 (lz_ev (tL_law sc)) L st M) ∧
  (∀ L st M, lz_ev (tL_law sc) 1606 L st M = lo_pushI 0 1607 (lz_ev (tL_law sc)) L st M) ∧
  (∀ L st M, lz_ev (tL_law sc) 1607 L st M = lo_pushI 0 1608 (lz_ev (tL_law sc)) L st M) ∧
  (∀ L st M, lz_ev (tL_law sc) 1608 L st M = lo_pushI 0 1609 (lz_ev (tL_law sc)) L st M) ∧
  (∀ (L : zzLc) (a1 a2 a3 a4 a5 a6 a7 : Int32) (a0 : Nat) (r : List Value) (A : zzMd) (n : Nat), lz_ev (tL_law sc) 1609 L (.int a7 :: .int a6 :: .int a5 :: .int a4 :: .int a3 :: .int a2 :: .int a1 :: .ref a0 :: r) (A, n) = bif zz_cat8 r && decide (n + 1 ≤ 727906) then lz_bs (lz_ev (tL_law sc)) 1612 L r (n + 1) (fL_act [.ref a0, .int a1, .int a2, .int a3, .int a4, .int a5, .int a6, .int a7] A) else none) ∧
  (∀ L st M, lz_ev (tL_law sc) 1612 L st M = lo_istore 16 1614 (lz_ev (tL_law sc)) L st M) ∧
  (∀ L st M, lz_ev (tL_law sc) 1614 L st M = lo_iload 16 1616 (lz_ev (tL_law sc)) L st M) ∧
  (∀ L st M, lz_ev (tL_law sc) 1616 L st M = lo_if (fun x => decide (x < 0)) 1698 1619 (lz_ev (tL_law sc)) L st M) ∧
  (∀ L st M, lz_ev (tL_law sc) 1619 L st M = lo_iload 15 1621 (lz_ev (tL_law sc)) L st M) ∧
  (∀ L st M, lz_ev (tL_law sc) 1621 L st M = lo_iload 4 1623 (lz_ev (tL_law sc)) L st M) ∧
  (∀ L st M, lz_ev (tL_law sc) 1623 L st M = lo_icmp (fun x y => decide (y ≤ x)) 1640 1626 (lz_ev (tL_law sc)) L st M) ∧
  (∀ L st M, lz_ev (tL_law sc) 1626 L st M = lo_aload 1 1627 (lz_ev (tL_law sc)) L st M) ∧
  (∀ L st M, lz_ev (tL_law sc) 1627 L st M = lo_iload 14 1629 (lz_ev (tL_law sc)) L st M) ∧
  (∀ (L : zzLc) (a0 : Int32) (r : List Value) (A : zzMd) (n : Nat), lz_ev (tL_law sc) 1629 L (.int a0 :: .ref 0 :: r) (A, n) = bif zz_cat8 r && decide (n ≤ 727906) then lz_bv (lz_ev (tL_law sc)) 1632 L r n (lz_g fX11_seen [.ref 0, .int a0] A) else none) ∧
  (∀ L st M, lz_ev (tL_law sc) 1632 L st M = lo_iload 13 1634 (lz_ev (tL_law sc)) L st M) ∧
  (∀ L st M, lz_ev (tL_law sc) 1634 L st M = lo_icmp (fun x y => decide (¬ x = y)) 1698 1637 (lz_ev (tL_law sc)) L st M) ∧
  (∀ L st M, lz_ev (tL_law sc) 1637 L st M = lo_goto 1685 (lz_ev (tL_law sc)) L st M) ∧
  (∀ L st M, lz_ev (tL_law sc) 1640 L st M = lo_aload 1 1641 (lz_ev (tL_law sc)) L st M) ∧
  (∀ L st M, lz_ev (tL_law sc) 1641 L st M = lo_iload 14 1643 (lz_ev (tL_law sc)) L st M) ∧
  (∀ (L : zzLc) (a0 : Int32) (r : List Value) (A : zzMd) (n : Nat), lz_ev (tL_law sc) 1643 L (.int a0 :: .ref 0 :: r) (A, n) = bif zz_cat8 r && decide (n ≤ 727906) then lz_bv (lz_ev (tL_law sc)) 1646 L r n (lz_g fX11_seen [.ref 0, .int a0] A) else none) ∧
  (∀ L st M, lz_ev (tL_law sc) 1646 L st M = lo_iload 15 1648 (lz_ev (tL_law sc)) L st M) ∧
  (∀ L st M, lz_ev (tL_law sc) 1648 L st M = lo_pushI 1 1649 (lz_ev (tL_law sc)) L st M) ∧
  (∀ L st M, lz_ev (tL_law sc) 1649 L st M = lo_ii (fun x y => x + y) 1650 (lz_ev (tL_law sc)) L st M) ∧
  (∀ L st M, lz_ev (tL_law sc) 1650 L st M = lo_iload 8 1652 (lz_ev (tL_law sc)) L st M) ∧
  (∀ L st M, lz_ev (tL_law sc) 1652 L st M = lo_pushI 8 1654 (lz_ev (tL_law sc)) L st M) ∧
  (∀ L st M, lz_ev (tL_law sc) 1654 L st M = lo_iid (fun x y => x / y) 1655 (lz_ev (tL_law sc)) L st M) ∧
  (∀ L st M, lz_ev (tL_law sc) 1655 L st M = lo_pushI 30 1657 (lz_ev (tL_law sc)) L st M) ∧
  (∀ L st M, lz_ev (tL_law sc) 1657 L st M = lo_iid (fun x y => x - x / y * y) 1658 (lz_ev (tL_law sc)) L st M) ∧
  (∀ L st M, lz_ev (tL_law sc) 1658 L st M = lo_ii (fun x y => x + y) 1659 (lz_ev (tL_law sc)) L st M) ∧
  (∀ L st M, lz_ev (tL_law sc) 1659 L st M = lo_iload 13 1661 (lz_ev (tL_law sc)) L st M) ∧
  (∀ L st M, lz_ev (tL_law sc) 1661 L st M = lo_icmp (fun x y => decide (y ≤ x)) 1680 1664 (lz_ev (tL_law sc)) L st M) ∧
  (∀ L st M, lz_ev (tL_law sc) 1664 L st M = lo_iload 15 1666 (lz_ev (tL_law sc)) L st M) ∧
  (∀ L st M, lz_ev (tL_law sc) 1666 L st M = lo_pushI 1 1667 (lz_ev (tL_law sc)) L st M) ∧
  (∀ L st M, lz_ev (tL_law sc) 1667 L st M = lo_ii (fun x y => x + y) 1668 (lz_ev (tL_law sc)) L st M) ∧
  (∀ L st M, lz_ev (tL_law sc) 1668 L st M = lo_iload 8 1670 (lz_ev (tL_law sc)) L st M) ∧
  (∀ L st M, lz_ev (tL_law sc) 1670 L st M = lo_pushI 8 1672 (lz_ev (tL_law sc)) L st M) ∧
  (∀ L st M, lz_ev (tL_law sc) 1672 L st M = lo_iid (fun x y => x / y) 1673 (lz_ev (tL_law sc)) L st M) ∧
  (∀ L st M, lz_ev (tL_law sc) 1673 L st M = lo_pushI 30 1675 (lz_ev (tL_law sc)) L st M) ∧
  (∀ L st M, lz_ev (tL_law sc) 1675 L st M = lo_iid (fun x y => x - x / y * y) 1676 (lz_ev (tL_law sc)) L st M) ∧
  (∀ L st M, lz_ev (tL_law sc) 1676 L st M = lo_ii (fun x y => x + y) 1677 (lz_ev (tL_law sc)) L st M) ∧
  (∀ L st M, lz_ev (tL_law sc) 1677 L st M = lo_goto 1682 (lz_ev (tL_law sc)) L st M) ∧
  (∀ L st M, lz_ev (tL_law sc) 1680 L st M = lo_iload 13 1682 (lz_ev (tL_law sc)) L st M) ∧
  (∀ L st M, lz_ev (tL_law sc) 1682 L st M = lo_icmp (fun x y => decide (¬ x = y)) 1698 1685 (lz_ev (tL_law sc)) L st M) ∧
  (∀ L st M, lz_ev (tL_law sc) 1685 L st M = lo_aload 1 1686 (lz_ev (tL_law sc)) L st M) ∧
  (∀ (L : zzLc) (r : List Value) (A : zzMd) (n : Nat), lz_ev (tL_law sc) 1686 L (.ref 0 :: r) (A, n) = bif zz_cat8 r && decide (n ≤ 727906) then lz_bv (lz_ev (tL_law sc)) 1689 L r n (lz_g fX11_version [.ref 0] A) else none) ∧
  (∀ L st M, lz_ev (tL_law sc) 1689 L st M = lo_iload 13 1691 (lz_ev (tL_law sc)) L st M) ∧
  (∀ L st M, lz_ev (tL_law sc) 1691 L st M = lo_icmp (fun x y => decide (¬ x = y)) 1698 1694 (lz_ev (tL_law sc)) L st M) ∧
  (∀ L st M, lz_ev (tL_law sc) 1694 L st M = lo_pushI 1 1695 (lz_ev (tL_law sc)) L st M) ∧
  (∀ L st M, lz_ev (tL_law sc) 1695 L st M = lo_goto 1699 (lz_ev (tL_law sc)) L st M) ∧
  (∀ L st M, lz_ev (tL_law sc) 1698 L st M = lo_pushI 0 1699 (lz_ev (tL_law sc)) L st M) ∧
  (∀ L st M, lz_ev (tL_law sc) 1699 L st M = lo_istore 5 1701 (lz_ev (tL_law sc)) L st M) ∧
  (∀ L st M, lz_ev (tL_law sc) 1701 L st M = lo_goto 1715 (lz_ev (tL_law sc)) L st M) ∧
  (∀ L st M, lz_ev (tL_law sc) 1704 L st M = lo_aload 1 1705 (lz_ev (tL_law sc)) L st M) ∧
  (∀ L st M, lz_ev (tL_law sc) 1705 L st M = lo_iload 8 1707 (lz_ev (tL_law sc)) L st M) ∧
  (∀ L st M, lz_ev (tL_law sc) 1707 L st M = lo_pushI 8 1709 (lz_ev (tL_law sc)) L st M) ∧
  (∀ L st M, lz_ev (tL_law sc) 1709 L st M = lo_iid (fun x y => x - x / y * y) 1710 (lz_ev (tL_law sc)) L st M) ∧
  (∀ (L : zzLc) (a1 : Int32) (a0 : Nat) (r : List Value) (A : zzMd) (n : Nat), lz_ev (tL_law sc) 1710 L (.int a1 :: .ref a0 :: r) (A, n) = bif zz_cat8 r && decide (n + 2641 ≤ 727906) then lz_bs (lz_ev (tL_law sc)) 1713 L r (n + 2641) (fL_isWorked [.ref a0, .int a1] A) else none) ∧
  (∀ L st M, lz_ev (tL_law sc) 1713 L st M = lo_istore 5 1715 (lz_ev (tL_law sc)) L st M) :=
  ⟨lz_1 rfl (tl_L_law sc), fun L  r A n => (lz_1 rfl (tl_L_law sc) _ _ _).trans rfl, lz_1 rfl (tl_L_law sc), lz_1 rfl (tl_L_law sc), lz_1 rfl (tl_L_law sc), lz_1 rfl (tl_L_law sc), lz_1 rfl (tl_L_law sc), lz_1 rfl (tl_L_law sc), lz_1 rfl (tl_L_law sc), lz_1 rfl (tl_L_law sc), lz_1 rfl (tl_L_law sc), lz_1 rfl (tl_L_law sc), lz_1 rfl (tl_L_law sc), lz_1 rfl (tl_L_law sc), lz_1 rfl (tl_L_law sc), lz_1 rfl (tl_L_law sc), lz_1 rfl (tl_L_law sc), fun L a0 r A n => (lz_1 rfl (tl_L_law sc) _ _ _).trans rfl, lz_1 rfl (tl_L_law sc), lz_1 rfl (tl_L_law sc), lz_1 rfl (tl_L_law sc), lz_1 rfl (tl_L_law sc), lz_1 rfl (tl_L_law sc), lz_1 rfl (tl_L_law sc), lz_1 rfl (tl_L_law sc), lz_1 rfl (tl_L_law sc), fun L a0 r A n => (lz_1 rfl (tl_L_law sc) _ _ _).trans rfl, lz_1 rfl (tl_L_law sc), lz_1 rfl (tl_L_law sc), lz_1 rfl (tl_L_law sc), lz_1 rfl (tl_L_law sc), lz_1 rfl (tl_L_law sc), lz_1 rfl (tl_L_law sc), lz_1 rfl (tl_L_law sc), lz_1 rfl (tl_L_law sc), lz_1 rfl (tl_L_law sc), lz_1 rfl (tl_L_law sc), lz_1 rfl (tl_L_law sc), lz_1 rfl (tl_L_law sc), lz_1 rfl (tl_L_law sc), fun L a1 a2 a3 a4 a5 a6 a7 a0 r A n => (lz_1 rfl (tl_L_law sc) _ _ _).trans rfl, lz_1 rfl (tl_L_law sc), lz_1 rfl (tl_L_law sc), lz_1 rfl (tl_L_law sc), lz_1 rfl (tl_L_law sc), lz_1 rfl (tl_L_law sc), lz_1 rfl (tl_L_law sc), lz_1 rfl (tl_L_law sc), lz_1 rfl (tl_L_law sc), lz_1 rfl (tl_L_law sc), lz_1 rfl (tl_L_law sc), fun L a0 r A n => (lz_1 rfl (tl_L_law sc) _ _ _).trans rfl, lz_1 rfl (tl_L_law sc), lz_1 rfl (tl_L_law sc), fun L  r A n => (lz_1 rfl (tl_L_law sc) _ _ _).trans rfl, lz_1 rfl (tl_L_law sc), lz_1 rfl (tl_L_law sc), lz_1 rfl (tl_L_law sc), lz_1 rfl (tl_L_law sc), lz_1 rfl (tl_L_law sc), lz_1 rfl (tl_L_law sc), lz_1 rfl (tl_L_law sc), lz_1 rfl (tl_L_law sc), lz_1 rfl (tl_L_law sc), lz_1 rfl (tl_L_law sc), lz_1 rfl (tl_L_law sc), lz_1 rfl (tl_L_law sc), lz_1 rfl (tl_L_law sc), lz_1 rfl (tl_L_law sc), lz_1 rfl (tl_L_law sc), lz_1 rfl (tl_L_law sc), lz_1 rfl (tl_L_law sc), lz_1 rfl (tl_L_law sc), lz_1 rfl (tl_L_law sc), lz_1 rfl (tl_L_law sc), lz_1 rfl (tl_L_law sc), lz_1 rfl (tl_L_law sc), lz_1 rfl (tl_L_law sc), lz_1 rfl (tl_L_law sc), lz_1 rfl (tl_L_law sc), fun L a0 r A n => (lz_1 rfl (tl_L_law sc) _ _ _).trans rfl, lz_1 rfl (tl_L_law sc), lz_1 rfl (tl_L_law sc), lz_1 rfl (tl_L_law sc), lz_1 rfl (tl_L_law sc), lz_1 rfl (tl_L_law sc), lz_1 rfl (tl_L_law sc), lz_1 rfl (tl_L_law sc), lz_1 rfl (tl_L_law sc), lz_1 rfl (tl_L_law sc), lz_1 rfl (tl_L_law sc), lz_1 rfl (tl_L_law sc), lz_1 rfl (tl_L_law sc), lz_1 rfl (tl_L_law sc), lz_1 rfl (tl_L_law sc), lz_1 rfl (tl_L_law sc), fun L a1 a2 a3 a4 a5 a6 a7 a0 r A n => (lz_1 rfl (tl_L_law sc) _ _ _).trans rfl, lz_1 rfl (tl_L_law sc), lz_1 rfl (tl_L_law sc), lz_1 rfl (tl_L_law sc), lz_1 rfl (tl_L_law sc), lz_1 rfl (tl_L_law sc), lz_1 rfl (tl_L_law sc), lz_1 rfl (tl_L_law sc), lz_1 rfl (tl_L_law sc), fun L a0 r A n => (lz_1 rfl (tl_L_law sc) _ _ _).trans rfl, lz_1 rfl (tl_L_law sc), lz_1 rfl (tl_L_law sc), lz_1 rfl (tl_L_law sc), lz_1 rfl (tl_L_law sc), lz_1 rfl (tl_L_law sc), fun L a0 r A n => (lz_1 rfl (tl_L_law sc) _ _ _).trans rfl, lz_1 rfl (tl_L_law sc), lz_1 rfl (tl_L_law sc), lz_1 rfl (tl_L_law sc), lz_1 rfl (tl_L_law sc), lz_1 rfl (tl_L_law sc), lz_1 rfl (tl_L_law sc), lz_1 rfl (tl_L_law sc), lz_1 rfl (tl_L_law sc), lz_1 rfl (tl_L_law sc), lz_1 rfl (tl_L_law sc), lz_1 rfl (tl_L_law sc), lz_1 rfl (tl_L_law sc), lz_1 rfl (tl_L_law sc), lz_1 rfl (tl_L_law sc), lz_1 rfl (tl_L_law sc), lz_1 rfl (tl_L_law sc), lz_1 rfl (tl_L_law sc), lz_1 rfl (tl_L_law sc), lz_1 rfl (tl_L_law sc), lz_1 rfl (tl_L_law sc), lz_1 rfl (tl_L_law sc), lz_1 rfl (tl_L_law sc), lz_1 rfl (tl_L_law sc), lz_1 rfl (tl_L_law sc), fun L  r A n => (lz_1 rfl (tl_L_law sc) _ _ _).trans rfl, lz_1 rfl (tl_L_law sc), lz_1 rfl (tl_L_law sc), lz_1 rfl (tl_L_law sc), lz_1 rfl (tl_L_law sc), lz_1 rfl (tl_L_law sc), lz_1 rfl (tl_L_law sc), lz_1 rfl (tl_L_law sc), lz_1 rfl (tl_L_law sc), lz_1 rfl (tl_L_law sc), lz_1 rfl (tl_L_law sc), lz_1 rfl (tl_L_law sc), fun L a1 a0 r A n => (lz_1 rfl (tl_L_law sc) _ _ _).trans rfl, lz_1 rfl (tl_L_law sc)⟩
set_option maxRecDepth 100000 in
theorem e_L_law_p6 (sc : List Int32) : (∀ L st M, lz_ev (tL_law sc) 1715 L st M = lo_iload 5 1717 (lz_ev (tL_law sc)) L st M) ∧
  (∀ L st M, lz_ev (tL_law sc) 1717 L st M = lo_if (fun x => decide (x = 0)) 1779 1720 (lz_ev (tL_law sc)) L st M) ∧
  (∀ L st M, lz_ev (tL_law sc) 1720 L st M = lo_iload 6 1722 (lz_ev (tL_law sc)) L st M) ∧
  (∀ L st M, lz_ev (tL_law sc) 1722 L st M = lo_pushI 3 1723 (lz_ev (tL_law sc)) L st M) ∧
  (∀ L st M, lz_ev (tL_law sc) 1723 L st M = lo_iid (fun x y => x - x / y * y) 1724 (lz_ev (tL_law sc)) L st M) ∧
  (∀ L st M, lz_ev (tL_law sc) 1724 L st M = lo_if (fun x => decide (0 < x)) 1742 1727 (lz_ev (tL_law sc)) L st M) ∧
  (∀ L st M, lz_ev (tL_law sc) 1727 L st M = lo_aload 1 1728 (lz_ev (tL_law sc)) L st M) ∧
  (∀ L st M, lz_ev (tL_law sc) 1728 L st M = lo_aload 2 1729 (lz_ev (tL_law sc)) L st M) ∧
  (∀ (L : zzLc) (a0 a1 : Nat) (r : List Value) (A : zzMd) (n : Nat), lz_ev (tL_law sc) 1729 L (.ref a1 :: .ref a0 :: r) (A, n) = bif zz_cat8 r && decide (n + 2 ≤ 727906) then lz_bs (lz_ev (tL_law sc)) 1732 L r (n + 2) (fL_areVersions [.ref a0, .ref a1] A) else none) ∧
  (∀ L st M, lz_ev (tL_law sc) 1732 L st M = lo_if (fun x => decide (x = 0)) 1779 1735 (lz_ev (tL_law sc)) L st M) ∧
  (∀ L st M, lz_ev (tL_law sc) 1735 L st M = lo_aload 1 1736 (lz_ev (tL_law sc)) L st M) ∧
  (∀ (L : zzLc) (a0 : Nat) (r : List Value) (A : zzMd) (n : Nat), lz_ev (tL_law sc) 1736 L (.ref a0 :: r) (A, n) = bif zz_cat8 r && decide (n + 1320 ≤ 727906) then lz_bs (lz_ev (tL_law sc)) 1739 L r (n + 1320) (fL_areObjects [.ref a0] A) else none) ∧
  (∀ L st M, lz_ev (tL_law sc) 1739 L st M = lo_if (fun x => decide (x = 0)) 1779 1742 (lz_ev (tL_law sc)) L st M) ∧
  (∀ L st M, lz_ev (tL_law sc) 1742 L st M = lo_iload 6 1744 (lz_ev (tL_law sc)) L st M) ∧
  (∀ L st M, lz_ev (tL_law sc) 1744 L st M = lo_pushI 2 1745 (lz_ev (tL_law sc)) L st M) ∧
  (∀ L st M, lz_ev (tL_law sc) 1745 L st M = lo_iid (fun x y => x - x / y * y) 1746 (lz_ev (tL_law sc)) L st M) ∧
  (∀ L st M, lz_ev (tL_law sc) 1746 L st M = lo_if (fun x => decide (0 < x)) 1756 1749 (lz_ev (tL_law sc)) L st M) ∧
  (∀ L st M, lz_ev (tL_law sc) 1749 L st M = lo_aload 1 1750 (lz_ev (tL_law sc)) L st M) ∧
  (∀ (L : zzLc) (a0 : Nat) (r : List Value) (A : zzMd) (n : Nat), lz_ev (tL_law sc) 1750 L (.ref a0 :: r) (A, n) = bif zz_cat8 r && decide (n + 0 ≤ 727906) then lz_bs (lz_ev (tL_law sc)) 1753 L r (n + 0) (fL_areQueues [.ref a0] A) else none) ∧
  (∀ L st M, lz_ev (tL_law sc) 1753 L st M = lo_if (fun x => decide (x = 0)) 1779 1756 (lz_ev (tL_law sc)) L st M) ∧
  (∀ L st M, lz_ev (tL_law sc) 1756 L st M = lo_iload 6 1758 (lz_ev (tL_law sc)) L st M) ∧
  (∀ L st M, lz_ev (tL_law sc) 1758 L st M = lo_pushI 25 1760 (lz_ev (tL_law sc)) L st M) ∧
  (∀ L st M, lz_ev (tL_law sc) 1760 L st M = lo_iid (fun x y => x - x / y * y) 1761 (lz_ev (tL_law sc)) L st M) ∧
  (∀ L st M, lz_ev (tL_law sc) 1761 L st M = lo_if (fun x => decide (0 < x)) 1775 1764 (lz_ev (tL_law sc)) L st M) ∧
  (∀ L st M, lz_ev (tL_law sc) 1764 L st M = lo_aload 1 1765 (lz_ev (tL_law sc)) L st M) ∧
  (∀ L st M, lz_ev (tL_law sc) 1765 L st M = lo_iload 7 1767 (lz_ev (tL_law sc)) L st M) ∧
  (∀ L st M, lz_ev (tL_law sc) 1767 L st M = lo_pushI 3 1768 (lz_ev (tL_law sc)) L st M) ∧
  (∀ L st M, lz_ev (tL_law sc) 1768 L st M = lo_iid (fun x y => x / y) 1769 (lz_ev (tL_law sc)) L st M) ∧
  (∀ (L : zzLc) (a1 : Int32) (a0 : Nat) (r : List Value) (A : zzMd) (n : Nat), lz_ev (tL_law sc) 1769 L (.int a1 :: .ref a0 :: r) (A, n) = bif zz_cat8 r && decide (n + 3600 ≤ 727906) then lz_bs (lz_ev (tL_law sc)) 1772 L r (n + 3600) (fL_isRefused [.ref a0, .int a1] A) else none) ∧
  (∀ L st M, lz_ev (tL_law sc) 1772 L st M = lo_if (fun x => decide (x = 0)) 1779 1775 (lz_ev (tL_law sc)) L st M) ∧
  (∀ L st M, lz_ev (tL_law sc) 1775 L st M = lo_pushI 1 1776 (lz_ev (tL_law sc)) L st M) ∧
  (∀ L st M, lz_ev (tL_law sc) 1776 L st M = lo_goto 1780 (lz_ev (tL_law sc)) L st M) ∧
  (∀ L st M, lz_ev (tL_law sc) 1779 L st M = lo_pushI 0 1780 (lz_ev (tL_law sc)) L st M) ∧
  (∀ L st M, lz_ev (tL_law sc) 1780 L st M = lo_istore 5 1782 (lz_ev (tL_law sc)) L st M) ∧
  (∀ L st M, lz_ev (tL_law sc) 1782 L st M = lo_iinc 6 1 1785 (lz_ev (tL_law sc)) L st M) ∧
  (∀ L st M, lz_ev (tL_law sc) 1785 L st M = lo_goto 53 (lz_ev (tL_law sc)) L st M) ∧
  (∀ L st M, lz_ev (tL_law sc) 1788 L st M = lo_iload 5 1790 (lz_ev (tL_law sc)) L st M) ∧
  (∀ L st M, lz_ev (tL_law sc) 1790 L st M = lo_if (fun x => decide (x = 0)) 1819 1793 (lz_ev (tL_law sc)) L st M) ∧
  (∀ L st M, lz_ev (tL_law sc) 1793 L st M = lo_aload 1 1794 (lz_ev (tL_law sc)) L st M) ∧
  (∀ L st M, lz_ev (tL_law sc) 1794 L st M = lo_aload 2 1795 (lz_ev (tL_law sc)) L st M) ∧
  (∀ (L : zzLc) (a0 a1 : Nat) (r : List Value) (A : zzMd) (n : Nat), lz_ev (tL_law sc) 1795 L (.ref a1 :: .ref a0 :: r) (A, n) = bif zz_cat8 r && decide (n + 2 ≤ 727906) then lz_bs (lz_ev (tL_law sc)) 1798 L r (n + 2) (fL_areVersions [.ref a0, .ref a1] A) else none) ∧
  (∀ L st M, lz_ev (tL_law sc) 1798 L st M = lo_if (fun x => decide (x = 0)) 1819 1801 (lz_ev (tL_law sc)) L st M) ∧
  (∀ L st M, lz_ev (tL_law sc) 1801 L st M = lo_aload 1 1802 (lz_ev (tL_law sc)) L st M) ∧
  (∀ (L : zzLc) (a0 : Nat) (r : List Value) (A : zzMd) (n : Nat), lz_ev (tL_law sc) 1802 L (.ref a0 :: r) (A, n) = bif zz_cat8 r && decide (n + 0 ≤ 727906) then lz_bs (lz_ev (tL_law sc)) 1805 L r (n + 0) (fL_areQueues [.ref a0] A) else none) ∧
  (∀ L st M, lz_ev (tL_law sc) 1805 L st M = lo_if (fun x => decide (x = 0)) 1819 1808 (lz_ev (tL_law sc)) L st M) ∧
  (∀ L st M, lz_ev (tL_law sc) 1808 L st M = lo_aload 1 1809 (lz_ev (tL_law sc)) L st M) ∧
  (∀ (L : zzLc) (a0 : Nat) (r : List Value) (A : zzMd) (n : Nat), lz_ev (tL_law sc) 1809 L (.ref a0 :: r) (A, n) = bif zz_cat8 r && decide (n + 1320 ≤ 727906) then lz_bs (lz_ev (tL_law sc)) 1812 L r (n + 1320) (fL_areObjects [.ref a0] A) else none) ∧
  (∀ L st M, lz_ev (tL_law sc) 1812 L st M = lo_if (fun x => decide (x = 0)) 1819 1815 (lz_ev (tL_law sc)) L st M) ∧
  (∀ L st M, lz_ev (tL_law sc) 1815 L st M = lo_pushI 1 1816 (lz_ev (tL_law sc)) L st M) ∧
  (∀ L st M, lz_ev (tL_law sc) 1816 L st M = lo_goto 1820 (lz_ev (tL_law sc)) L st M) ∧
  (∀ L st M, lz_ev (tL_law sc) 1819 L st M = lo_pushI 0 1820 (lz_ev (tL_law sc)) L st M) ∧
  (∀ L st M, lz_ev (tL_law sc) 1820 L st M = lo_iret 727906 true (lz_ev (tL_law sc)) L st M) :=
  ⟨lz_1 rfl (tl_L_law sc), lz_1 rfl (tl_L_law sc), lz_1 rfl (tl_L_law sc), lz_1 rfl (tl_L_law sc), lz_1 rfl (tl_L_law sc), lz_1 rfl (tl_L_law sc), lz_1 rfl (tl_L_law sc), lz_1 rfl (tl_L_law sc), fun L a0 a1 r A n => (lz_1 rfl (tl_L_law sc) _ _ _).trans rfl, lz_1 rfl (tl_L_law sc), lz_1 rfl (tl_L_law sc), fun L a0 r A n => (lz_1 rfl (tl_L_law sc) _ _ _).trans rfl, lz_1 rfl (tl_L_law sc), lz_1 rfl (tl_L_law sc), lz_1 rfl (tl_L_law sc), lz_1 rfl (tl_L_law sc), lz_1 rfl (tl_L_law sc), lz_1 rfl (tl_L_law sc), fun L a0 r A n => (lz_1 rfl (tl_L_law sc) _ _ _).trans rfl, lz_1 rfl (tl_L_law sc), lz_1 rfl (tl_L_law sc), lz_1 rfl (tl_L_law sc), lz_1 rfl (tl_L_law sc), lz_1 rfl (tl_L_law sc), lz_1 rfl (tl_L_law sc), lz_1 rfl (tl_L_law sc), lz_1 rfl (tl_L_law sc), lz_1 rfl (tl_L_law sc), fun L a1 a0 r A n => (lz_1 rfl (tl_L_law sc) _ _ _).trans rfl, lz_1 rfl (tl_L_law sc), lz_1 rfl (tl_L_law sc), lz_1 rfl (tl_L_law sc), lz_1 rfl (tl_L_law sc), lz_1 rfl (tl_L_law sc), lz_1 rfl (tl_L_law sc), lz_1 rfl (tl_L_law sc), lz_1 rfl (tl_L_law sc), lz_1 rfl (tl_L_law sc), lz_1 rfl (tl_L_law sc), lz_1 rfl (tl_L_law sc), fun L a0 a1 r A n => (lz_1 rfl (tl_L_law sc) _ _ _).trans rfl, lz_1 rfl (tl_L_law sc), lz_1 rfl (tl_L_law sc), fun L a0 r A n => (lz_1 rfl (tl_L_law sc) _ _ _).trans rfl, lz_1 rfl (tl_L_law sc), lz_1 rfl (tl_L_law sc), fun L a0 r A n => (lz_1 rfl (tl_L_law sc) _ _ _).trans rfl, lz_1 rfl (tl_L_law sc), lz_1 rfl (tl_L_law sc), lz_1 rfl (tl_L_law sc), lz_1 rfl (tl_L_law sc), lz_1 rfl (tl_L_law sc)⟩
set_option maxRecDepth 100000 in
theorem e_L_law_53 (sc : List Int32) : (∀ L st M, lz_ev (tL_law sc) 53 L st M = lo_iload 6 55 (lz_ev (tL_law sc)) L st M) := lz_1 rfl (tl_L_law sc)
set_option maxRecDepth 100000 in
theorem e_L_law_1325 (sc : List Int32) : (∀ L st M, lz_ev (tL_law sc) 1325 L st M = lo_iload 15 1327 (lz_ev (tL_law sc)) L st M) := lz_1 rfl (tl_L_law sc)
end

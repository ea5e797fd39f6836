section
set_option maxRecDepth 100000 in
theorem e_X12_widthOf : (∀ L st M, zz_ev tX12_widthOf 0 L st M = zo_iload 0 1 (zz_ev tX12_widthOf) L st M) ∧
  (∀ L st M, zz_ev tX12_widthOf 1 L st M = zo_pushI 6 3 (zz_ev tX12_widthOf) L st M) ∧
  (∀ L st M, zz_ev tX12_widthOf 3 L st M = zo_icmp (fun x y => decide (x = y)) 18 6 (zz_ev tX12_widthOf) L st M) ∧
  (∀ L st M, zz_ev tX12_widthOf 6 L st M = zo_iload 0 7 (zz_ev tX12_widthOf) L st M) ∧
  (∀ L st M, zz_ev tX12_widthOf 7 L st M = zo_pushI 11 9 (zz_ev tX12_widthOf) L st M) ∧
  (∀ L st M, zz_ev tX12_widthOf 9 L st M = zo_icmp (fun x y => decide (x = y)) 18 12 (zz_ev tX12_widthOf) L st M) ∧
  (∀ L st M, zz_ev tX12_widthOf 12 L st M = zo_iload 0 13 (zz_ev tX12_widthOf) L st M) ∧
  (∀ L st M, zz_ev tX12_widthOf 13 L st M = zo_pushI 15 15 (zz_ev tX12_widthOf) L st M) ∧
  (∀ L st M, zz_ev tX12_widthOf 15 L st M = zo_icmp (fun x y => decide (¬ x = y)) 23 18 (zz_ev tX12_widthOf) L st M) ∧
  (∀ L st M, zz_ev tX12_widthOf 18 L st M = zo_pushI 7 20 (zz_ev tX12_widthOf) L st M) ∧
  (∀ L st M, zz_ev tX12_widthOf 20 L st M = zo_goto 92 (zz_ev tX12_widthOf) L st M) ∧
  (∀ L st M, zz_ev tX12_widthOf 23 L st M = zo_iload 0 24 (zz_ev tX12_widthOf) L st M) ∧
  (∀ L st M, zz_ev tX12_widthOf 24 L st M = zo_pushI 1 25 (zz_ev tX12_widthOf) L st M) ∧
  (∀ L st M, zz_ev tX12_widthOf 25 L st M = zo_icmp (fun x y => decide (x = y)) 34 28 (zz_ev tX12_widthOf) L st M) ∧
  (∀ L st M, zz_ev tX12_widthOf 28 L st M = zo_iload 0 29 (zz_ev tX12_widthOf) L st M) ∧
  (∀ L st M, zz_ev tX12_widthOf 29 L st M = zo_pushI 7 31 (zz_ev tX12_widthOf) L st M) ∧
  (∀ L st M, zz_ev tX12_widthOf 31 L st M = zo_icmp (fun x y => decide (¬ x = y)) 38 34 (zz_ev tX12_widthOf) L st M) ∧
  (∀ L st M, zz_ev tX12_widthOf 34 L st M = zo_pushI 4 35 (zz_ev tX12_widthOf) L st M) ∧
  (∀ L st M, zz_ev tX12_widthOf 35 L st M = zo_goto 92 (zz_ev tX12_widthOf) L st M) ∧
  (∀ L st M, zz_ev tX12_widthOf 38 L st M = zo_iload 0 39 (zz_ev tX12_widthOf) L st M) ∧
  (∀ L st M, zz_ev tX12_widthOf 39 L st M = zo_pushI 12 41 (zz_ev tX12_widthOf) L st M) ∧
  (∀ L st M, zz_ev tX12_widthOf 41 L st M = zo_icmp (fun x y => decide (x = y)) 61 44 (zz_ev tX12_widthOf) L st M) ∧
  (∀ L st M, zz_ev tX12_widthOf 44 L st M = zo_iload 0 45 (zz_ev tX12_widthOf) L st M) ∧
  (∀ L st M, zz_ev tX12_widthOf 45 L st M = zo_pushI 14 47 (zz_ev tX12_widthOf) L st M) ∧
  (∀ L st M, zz_ev tX12_widthOf 47 L st M = zo_icmp (fun x y => decide (x = y)) 61 50 (zz_ev tX12_widthOf) L st M) ∧
  (∀ L st M, zz_ev tX12_widthOf 50 L st M = zo_iload 0 51 (zz_ev tX12_widthOf) L st M) ∧
  (∀ L st M, zz_ev tX12_widthOf 51 L st M = zo_pushI 4 52 (zz_ev tX12_widthOf) L st M) ∧
  (∀ L st M, zz_ev tX12_widthOf 52 L st M = zo_icmp (fun x y => decide (x = y)) 61 55 (zz_ev tX12_widthOf) L st M) ∧
  (∀ L st M, zz_ev tX12_widthOf 55 L st M = zo_iload 0 56 (zz_ev tX12_widthOf) L st M) ∧
  (∀ L st M, zz_ev tX12_widthOf 56 L st M = zo_pushI 9 58 (zz_ev tX12_widthOf) L st M) ∧
  (∀ L st M, zz_ev tX12_widthOf 58 L st M = zo_icmp (fun x y => decide (¬ x = y)) 65 61 (zz_ev tX12_widthOf) L st M) ∧
  (∀ L st M, zz_ev tX12_widthOf 61 L st M = zo_pushI 1 62 (zz_ev tX12_widthOf) L st M) ∧
  (∀ L st M, zz_ev tX12_widthOf 62 L st M = zo_goto 92 (zz_ev tX12_widthOf) L st M) ∧
  (∀ L st M, zz_ev tX12_widthOf 65 L st M = zo_iload 0 66 (zz_ev tX12_widthOf) L st M) ∧
  (∀ L st M, zz_ev tX12_widthOf 66 L st M = zo_pushI 2 67 (zz_ev tX12_widthOf) L st M) ∧
  (∀ L st M, zz_ev tX12_widthOf 67 L st M = zo_icmp (fun x y => decide (x = y)) 87 70 (zz_ev tX12_widthOf) L st M) ∧
  (∀ L st M, zz_ev tX12_widthOf 70 L st M = zo_iload 0 71 (zz_ev tX12_widthOf) L st M) ∧
  (∀ L st M, zz_ev tX12_widthOf 71 L st M = zo_pushI 3 72 (zz_ev tX12_widthOf) L st M) ∧
  (∀ L st M, zz_ev tX12_widthOf 72 L st M = zo_icmp (fun x y => decide (x = y)) 87 75 (zz_ev tX12_widthOf) L st M) ∧
  (∀ L st M, zz_ev tX12_widthOf 75 L st M = zo_iload 0 76 (zz_ev tX12_widthOf) L st M) ∧
  (∀ L st M, zz_ev tX12_widthOf 76 L st M = zo_pushI 8 78 (zz_ev tX12_widthOf) L st M) ∧
  (∀ L st M, zz_ev tX12_widthOf 78 L st M = zo_icmp (fun x y => decide (x = y)) 87 81 (zz_ev tX12_widthOf) L st M) ∧
  (∀ L st M, zz_ev tX12_widthOf 81 L st M = zo_iload 0 82 (zz_ev tX12_widthOf) L st M) ∧
  (∀ L st M, zz_ev tX12_widthOf 82 L st M = zo_pushI 16 84 (zz_ev tX12_widthOf) L st M) ∧
  (∀ L st M, zz_ev tX12_widthOf 84 L st M = zo_icmp (fun x y => decide (¬ x = y)) 91 87 (zz_ev tX12_widthOf) L st M) ∧
  (∀ L st M, zz_ev tX12_widthOf 87 L st M = zo_pushI 2 88 (zz_ev tX12_widthOf) L st M) ∧
  (∀ L st M, zz_ev tX12_widthOf 88 L st M = zo_goto 92 (zz_ev tX12_widthOf) L st M) ∧
  (∀ L st M, zz_ev tX12_widthOf 91 L st M = zo_pushI 3 92 (zz_ev tX12_widthOf) L st M) ∧
  (∀ L st M, zz_ev tX12_widthOf 92 L st M = zo_iret false (zz_ev tX12_widthOf) L st M) :=
  ⟨zz_1 rfl tl_X12_widthOf, zz_1 rfl tl_X12_widthOf, zz_1 rfl tl_X12_widthOf, zz_1 rfl tl_X12_widthOf, zz_1 rfl tl_X12_widthOf, zz_1 rfl tl_X12_widthOf, zz_1 rfl tl_X12_widthOf, zz_1 rfl tl_X12_widthOf, zz_1 rfl tl_X12_widthOf, zz_1 rfl tl_X12_widthOf, zz_1 rfl tl_X12_widthOf, zz_1 rfl tl_X12_widthOf, zz_1 rfl tl_X12_widthOf, zz_1 rfl tl_X12_widthOf, zz_1 rfl tl_X12_widthOf, zz_1 rfl tl_X12_widthOf, zz_1 rfl tl_X12_widthOf, zz_1 rfl tl_X12_widthOf, zz_1 rfl tl_X12_widthOf, zz_1 rfl tl_X12_widthOf, zz_1 rfl tl_X12_widthOf, zz_1 rfl tl_X12_widthOf, zz_1 rfl tl_X12_widthOf, zz_1 rfl tl_X12_widthOf, zz_1 rfl tl_X12_widthOf, zz_1 rfl tl_X12_widthOf, zz_1 rfl tl_X12_widthOf, zz_1 rfl tl_X12_widthOf, zz_1 rfl tl_X12_widthOf, zz_1 rfl tl_X12_widthOf, zz_1 rfl tl_X12_widthOf, zz_1 rfl tl_X12_widthOf, zz_1 rfl tl_X12_widthOf, zz_1 rfl tl_X12_widthOf, zz_1 rfl tl_X12_widthOf, zz_1 rfl tl_X12_widthOf, zz_1 rfl tl_X12_widthOf, zz_1 rfl tl_X12_widthOf, zz_1 rfl tl_X12_widthOf, zz_1 rfl tl_X12_widthOf, zz_1 rfl tl_X12_widthOf, zz_1 rfl tl_X12_widthOf, zz_1 rfl tl_X12_widthOf, zz_1 rfl tl_X12_widthOf, zz_1 rfl tl_X12_widthOf, zz_1 rfl tl_X12_widthOf, zz_1 rfl tl_X12_widthOf, zz_1 rfl tl_X12_widthOf, zz_1 rfl tl_X12_widthOf⟩
set_option maxRecDepth 100000 in
theorem s_X12_widthOf (a0 : Int32) (M : zzMd) : fX12_widthOf [.int a0] M = zz_ev tX12_widthOf 0 [some (.int a0)] [] M := rfl
set_option maxRecDepth 100000 in
theorem e_X12_thrown : (∀ L st M, zz_ev tX12_thrown 0 L st M = zo_aload 0 1 (zz_ev tX12_thrown) L st M) ∧
  (∀ (L : zzLc) (r : List Value) (M : zzMd), zz_ev tX12_thrown 1 L (.ref 0 :: r) M = zz_ev tX12_thrown 4 L (.int (M.1 0 49) :: r) M) ∧
  (∀ L st M, zz_ev tX12_thrown 4 L st M = zo_iret false (zz_ev tX12_thrown) L st M) :=
  ⟨zz_1 rfl tl_X12_thrown, fun L r M => (zz_1 rfl tl_X12_thrown _ _ _).trans rfl, zz_1 rfl tl_X12_thrown⟩
set_option maxRecDepth 100000 in
theorem s_X12_thrown (v : Nat) (M : zzMd) : fX12_thrown [.ref v] M = zz_ev tX12_thrown 0 [some (.ref v)] [] M := rfl
set_option maxRecDepth 100000 in
theorem e_X12_goes : (∀ L st M, zz_ev tX12_goes 0 L st M = zo_aload 0 1 (zz_ev tX12_goes) L st M) ∧
  (∀ L st M, zz_ev tX12_goes 1 L st M = zo_iload 1 2 (zz_ev tX12_goes) L st M) ∧
  (∀ (L : zzLc) (x : Int32) (r : List Value) (M : zzMd), zz_ev tX12_goes 2 L (.int x :: .ref 0 :: r) M = zz_ev tX12_goes 5 L r (zz_sI M 0 49 x)) ∧
  (∀ L st M, zz_ev tX12_goes 5 L st M = zo_iload 1 6 (zz_ev tX12_goes) L st M) ∧
  (∀ L st M, zz_ev tX12_goes 6 L st M = zo_if (fun x => decide (¬ x = 0)) 13 9 (zz_ev tX12_goes) L st M) ∧
  (∀ L st M, zz_ev tX12_goes 9 L st M = zo_pushI 1 10 (zz_ev tX12_goes) L st M) ∧
  (∀ L st M, zz_ev tX12_goes 10 L st M = zo_goto 14 (zz_ev tX12_goes) L st M) ∧
  (∀ L st M, zz_ev tX12_goes 13 L st M = zo_pushI 0 14 (zz_ev tX12_goes) L st M) ∧
  (∀ L st M, zz_ev tX12_goes 14 L st M = zo_iret true (zz_ev tX12_goes) L st M) :=
  ⟨zz_1 rfl tl_X12_goes, zz_1 rfl tl_X12_goes, fun L x r M => (zz_1 rfl tl_X12_goes _ _ _).trans rfl, zz_1 rfl tl_X12_goes, zz_1 rfl tl_X12_goes, zz_1 rfl tl_X12_goes, zz_1 rfl tl_X12_goes, zz_1 rfl tl_X12_goes, zz_1 rfl tl_X12_goes⟩
set_option maxRecDepth 100000 in
theorem s_X12_goes (a0 : Int32) (v : Nat) (M : zzMd) : fX12_goes [.ref v, .int a0] M = zz_ev tX12_goes 0 [some (.ref v), some (.int a0)] [] M := rfl
set_option maxRecDepth 100000 in
theorem e_X12_isIn : (∀ L st M, zz_ev tX12_isIn 0 L st M = zo_iload 0 1 (zz_ev tX12_isIn) L st M) ∧
  (∀ L st M, zz_ev tX12_isIn 1 L st M = zo_iload 1 2 (zz_ev tX12_isIn) L st M) ∧
  (∀ L st M, zz_ev tX12_isIn 2 L st M = zo_icmp (fun x y => decide (x < y)) 14 5 (zz_ev tX12_isIn) L st M) ∧
  (∀ L st M, zz_ev tX12_isIn 5 L st M = zo_iload 0 6 (zz_ev tX12_isIn) L st M) ∧
  (∀ L st M, zz_ev tX12_isIn 6 L st M = zo_iload 2 7 (zz_ev tX12_isIn) L st M) ∧
  (∀ L st M, zz_ev tX12_isIn 7 L st M = zo_icmp (fun x y => decide (y < x)) 14 10 (zz_ev tX12_isIn) L st M) ∧
  (∀ L st M, zz_ev tX12_isIn 10 L st M = zo_pushI 1 11 (zz_ev tX12_isIn) L st M) ∧
  (∀ L st M, zz_ev tX12_isIn 11 L st M = zo_goto 15 (zz_ev tX12_isIn) L st M) ∧
  (∀ L st M, zz_ev tX12_isIn 14 L st M = zo_pushI 0 15 (zz_ev tX12_isIn) L st M) ∧
  (∀ L st M, zz_ev tX12_isIn 15 L st M = zo_iret true (zz_ev tX12_isIn) L st M) :=
  ⟨zz_1 rfl tl_X12_isIn, zz_1 rfl tl_X12_isIn, zz_1 rfl tl_X12_isIn, zz_1 rfl tl_X12_isIn, zz_1 rfl tl_X12_isIn, zz_1 rfl tl_X12_isIn, zz_1 rfl tl_X12_isIn, zz_1 rfl tl_X12_isIn, zz_1 rfl tl_X12_isIn, zz_1 rfl tl_X12_isIn⟩
set_option maxRecDepth 100000 in
theorem s_X12_isIn (a0 a1 a2 : Int32) (M : zzMd) : fX12_isIn [.int a0, .int a1, .int a2] M = zz_ev tX12_isIn 0 [some (.int a0), some (.int a1), some (.int a2)] [] M := rfl
set_option maxRecDepth 100000 in
theorem e_X12_isObject : (∀ L st M, zz_ev tX12_isObject 0 L st M = zo_iload 1 1 (zz_ev tX12_isObject) L st M) ∧
  (∀ L st M, zz_ev tX12_isObject 1 L st M = zo_pushI 0 2 (zz_ev tX12_isObject) L st M) ∧
  (∀ L st M, zz_ev tX12_isObject 2 L st M = zo_aload 0 3 (zz_ev tX12_isObject) L st M) ∧
  (∀ (L : zzLc) (r : List Value) (M : zzMd), zz_ev tX12_isObject 3 L (.ref 0 :: r) M = zz_ev tX12_isObject 6 L (.int (M.1 0 5) :: r) M) ∧
  (∀ L st M, zz_ev tX12_isObject 6 L st M = zo_pushI 1 7 (zz_ev tX12_isObject) L st M) ∧
  (∀ L st M, zz_ev tX12_isObject 7 L st M = zo_ii (fun x y => x - y) 8 (zz_ev tX12_isObject) L st M) ∧
  (∀ (L : zzLc) (a0 a1 a2 : Int32) (r : List Value) (M : zzMd), zz_ev tX12_isObject 8 L (.int a2 :: .int a1 :: .int a0 :: r) M = bif zz_cat8 r then zz_backN (zz_ev tX12_isObject) 11 L r (fX12_isIn [.int a0, .int a1, .int a2] M) else none) ∧
  (∀ L st M, zz_ev tX12_isObject 11 L st M = zo_iret true (zz_ev tX12_isObject) L st M) :=
  ⟨zz_1 rfl tl_X12_isObject, zz_1 rfl tl_X12_isObject, zz_1 rfl tl_X12_isObject, fun L r M => (zz_1 rfl tl_X12_isObject _ _ _).trans rfl, zz_1 rfl tl_X12_isObject, zz_1 rfl tl_X12_isObject, fun L a0 a1 a2 r M => (zz_1 rfl tl_X12_isObject _ _ _).trans rfl, zz_1 rfl tl_X12_isObject⟩
set_option maxRecDepth 100000 in
theorem s_X12_isObject (a0 : Int32) (v : Nat) (M : zzMd) : fX12_isObject [.ref v, .int a0] M = zz_ev tX12_isObject 0 [some (.ref v), some (.int a0)] [] M := rfl
set_option maxRecDepth 100000 in
theorem e_X12_isKind : (∀ L st M, zz_ev tX12_isKind 0 L st M = zo_iload 0 1 (zz_ev tX12_isKind) L st M) ∧
  (∀ L st M, zz_ev tX12_isKind 1 L st M = zo_pushI 0 2 (zz_ev tX12_isKind) L st M) ∧
  (∀ L st M, zz_ev tX12_isKind 2 L st M = zo_pushI 5 3 (zz_ev tX12_isKind) L st M) ∧
  (∀ (L : zzLc) (a0 a1 a2 : Int32) (r : List Value) (M : zzMd), zz_ev tX12_isKind 3 L (.int a2 :: .int a1 :: .int a0 :: r) M = bif zz_cat8 r then zz_backN (zz_ev tX12_isKind) 6 L r (fX12_isIn [.int a0, .int a1, .int a2] M) else none) ∧
  (∀ L st M, zz_ev tX12_isKind 6 L st M = zo_iret true (zz_ev tX12_isKind) L st M) :=
  ⟨zz_1 rfl tl_X12_isKind, zz_1 rfl tl_X12_isKind, zz_1 rfl tl_X12_isKind, fun L a0 a1 a2 r M => (zz_1 rfl tl_X12_isKind _ _ _).trans rfl, zz_1 rfl tl_X12_isKind⟩
set_option maxRecDepth 100000 in
theorem s_X12_isKind (a0 : Int32) (M : zzMd) : fX12_isKind [.int a0] M = zz_ev tX12_isKind 0 [some (.int a0)] [] M := rfl
set_option maxRecDepth 100000 in
theorem e_X12_hasField : (∀ L st M, zz_ev tX12_hasField 0 L st M = zo_iload 2 1 (zz_ev tX12_hasField) L st M) ∧
  (∀ L st M, zz_ev tX12_hasField 1 L st M = zo_pushI 0 2 (zz_ev tX12_hasField) L st M) ∧
  (∀ L st M, zz_ev tX12_hasField 2 L st M = zo_pushI 10 4 (zz_ev tX12_hasField) L st M) ∧
  (∀ (L : zzLc) (a0 a1 a2 : Int32) (r : List Value) (M : zzMd), zz_ev tX12_hasField 4 L (.int a2 :: .int a1 :: .int a0 :: r) M = bif zz_cat8 r then zz_backN (zz_ev tX12_hasField) 7 L r (fX12_isIn [.int a0, .int a1, .int a2] M) else none) ∧
  (∀ L st M, zz_ev tX12_hasField 7 L st M = zo_if (fun x => decide (x = 0)) 28 10 (zz_ev tX12_hasField) L st M) ∧
  (∀ L st M, zz_ev tX12_hasField 10 L st M = zo_aload 0 11 (zz_ev tX12_hasField) L st M) ∧
  (∀ (L : zzLc) (r : List Value) (M : zzMd), zz_ev tX12_hasField 11 L (.ref 0 :: r) M = zz_ev tX12_hasField 14 L (.ref 5 :: r) M) ∧
  (∀ L st M, zz_ev tX12_hasField 14 L st M = zo_iload 1 15 (zz_ev tX12_hasField) L st M) ∧
  (∀ L st M, zz_ev tX12_hasField 15 L st M = zo_iald zzSR zzSTR 16 (zz_ev tX12_hasField) L st M) ∧
  (∀ L st M, zz_ev tX12_hasField 16 L st M = zo_iload 2 17 (zz_ev tX12_hasField) L st M) ∧
  (∀ L st M, zz_ev tX12_hasField 17 L st M = zo_ii (fun x y => x >>> (y &&& 31)) 18 (zz_ev tX12_hasField) L st M) ∧
  (∀ L st M, zz_ev tX12_hasField 18 L st M = zo_pushI 1 19 (zz_ev tX12_hasField) L st M) ∧
  (∀ L st M, zz_ev tX12_hasField 19 L st M = zo_ii (fun x y => x &&& y) 20 (zz_ev tX12_hasField) L st M) ∧
  (∀ L st M, zz_ev tX12_hasField 20 L st M = zo_pushI 1 21 (zz_ev tX12_hasField) L st M) ∧
  (∀ L st M, zz_ev tX12_hasField 21 L st M = zo_icmp (fun x y => decide (¬ x = y)) 28 24 (zz_ev tX12_hasField) L st M) ∧
  (∀ L st M, zz_ev tX12_hasField 24 L st M = zo_pushI 1 25 (zz_ev tX12_hasField) L st M) ∧
  (∀ L st M, zz_ev tX12_hasField 25 L st M = zo_goto 29 (zz_ev tX12_hasField) L st M) ∧
  (∀ L st M, zz_ev tX12_hasField 28 L st M = zo_pushI 0 29 (zz_ev tX12_hasField) L st M) ∧
  (∀ L st M, zz_ev tX12_hasField 29 L st M = zo_iret true (zz_ev tX12_hasField) L st M) :=
  ⟨zz_1 rfl tl_X12_hasField, zz_1 rfl tl_X12_hasField, zz_1 rfl tl_X12_hasField, fun L a0 a1 a2 r M => (zz_1 rfl tl_X12_hasField _ _ _).trans rfl, zz_1 rfl tl_X12_hasField, zz_1 rfl tl_X12_hasField, fun L r M => (zz_1 rfl tl_X12_hasField _ _ _).trans rfl, zz_1 rfl tl_X12_hasField, zz_1 rfl tl_X12_hasField, zz_1 rfl tl_X12_hasField, zz_1 rfl tl_X12_hasField, zz_1 rfl tl_X12_hasField, zz_1 rfl tl_X12_hasField, zz_1 rfl tl_X12_hasField, zz_1 rfl tl_X12_hasField, zz_1 rfl tl_X12_hasField, zz_1 rfl tl_X12_hasField, zz_1 rfl tl_X12_hasField, zz_1 rfl tl_X12_hasField⟩
set_option maxRecDepth 100000 in
theorem s_X12_hasField (a0 a1 : Int32) (v : Nat) (M : zzMd) : fX12_hasField [.ref v, .int a0, .int a1] M = zz_ev tX12_hasField 0 [some (.ref v), some (.int a0), some (.int a1)] [] M := rfl
set_option maxRecDepth 100000 in
theorem e_X12_isValue : (∀ L st M, zz_ev tX12_isValue 0 L st M = zo_iload 2 1 (zz_ev tX12_isValue) L st M) ∧
  (∀ L st M, zz_ev tX12_isValue 1 L st M = zo_aload 0 2 (zz_ev tX12_isValue) L st M) ∧
  (∀ (L : zzLc) (r : List Value) (M : zzMd), zz_ev tX12_isValue 2 L (.ref 0 :: r) M = zz_ev tX12_isValue 5 L (.ref 3 :: r) M) ∧
  (∀ L st M, zz_ev tX12_isValue 5 L st M = zo_iload 1 6 (zz_ev tX12_isValue) L st M) ∧
  (∀ L st M, zz_ev tX12_isValue 6 L st M = zo_iald zzSR zzSTR 7 (zz_ev tX12_isValue) L st M) ∧
  (∀ L st M, zz_ev tX12_isValue 7 L st M = zo_aload 0 8 (zz_ev tX12_isValue) L st M) ∧
  (∀ (L : zzLc) (r : List Value) (M : zzMd), zz_ev tX12_isValue 8 L (.ref 0 :: r) M = zz_ev tX12_isValue 11 L (.ref 4 :: r) M) ∧
  (∀ L st M, zz_ev tX12_isValue 11 L st M = zo_iload 1 12 (zz_ev tX12_isValue) L st M) ∧
  (∀ L st M, zz_ev tX12_isValue 12 L st M = zo_iald zzSR zzSTR 13 (zz_ev tX12_isValue) L st M) ∧
  (∀ (L : zzLc) (a0 a1 a2 : Int32) (r : List Value) (M : zzMd), zz_ev tX12_isValue 13 L (.int a2 :: .int a1 :: .int a0 :: r) M = bif zz_cat8 r then zz_backN (zz_ev tX12_isValue) 16 L r (fX12_isIn [.int a0, .int a1, .int a2] M) else none) ∧
  (∀ L st M, zz_ev tX12_isValue 16 L st M = zo_iret true (zz_ev tX12_isValue) L st M) :=
  ⟨zz_1 rfl tl_X12_isValue, zz_1 rfl tl_X12_isValue, fun L r M => (zz_1 rfl tl_X12_isValue _ _ _).trans rfl, zz_1 rfl tl_X12_isValue, zz_1 rfl tl_X12_isValue, zz_1 rfl tl_X12_isValue, fun L r M => (zz_1 rfl tl_X12_isValue _ _ _).trans rfl, zz_1 rfl tl_X12_isValue, zz_1 rfl tl_X12_isValue, fun L a0 a1 a2 r M => (zz_1 rfl tl_X12_isValue _ _ _).trans rfl, zz_1 rfl tl_X12_isValue⟩
set_option maxRecDepth 100000 in
theorem s_X12_isValue (a0 a1 : Int32) (v : Nat) (M : zzMd) : fX12_isValue [.ref v, .int a0, .int a1] M = zz_ev tX12_isValue 0 [some (.ref v), some (.int a0), some (.int a1)] [] M := rfl
set_option maxRecDepth 100000 in
theorem e_X12_get : (∀ L st M, zz_ev tX12_get 0 L st M = zo_lload 1 1 (zz_ev tX12_get) L st M) ∧
  (∀ L st M, zz_ev tX12_get 1 L st M = zo_aload 0 2 (zz_ev tX12_get) L st M) ∧
  (∀ (L : zzLc) (r : List Value) (M : zzMd), zz_ev tX12_get 2 L (.ref 0 :: r) M = zz_ev tX12_get 5 L (.ref 1 :: r) M) ∧
  (∀ L st M, zz_ev tX12_get 5 L st M = zo_iload 3 6 (zz_ev tX12_get) L st M) ∧
  (∀ L st M, zz_ev tX12_get 6 L st M = zo_iald zzSR zzSTR 7 (zz_ev tX12_get) L st M) ∧
  (∀ L st M, zz_ev tX12_get 7 L st M = zo_li (fun x y => x >>> (y.toInt64 &&& 63)) 8 (zz_ev tX12_get) L st M) ∧
  (∀ L st M, zz_ev tX12_get 8 L st M = zo_pushL 1 9 (zz_ev tX12_get) L st M) ∧
  (∀ L st M, zz_ev tX12_get 9 L st M = zo_aload 0 10 (zz_ev tX12_get) L st M) ∧
  (∀ (L : zzLc) (r : List Value) (M : zzMd), zz_ev tX12_get 10 L (.ref 0 :: r) M = zz_ev tX12_get 13 L (.ref 2 :: r) M) ∧
  (∀ L st M, zz_ev tX12_get 13 L st M = zo_iload 3 14 (zz_ev tX12_get) L st M) ∧
  (∀ L st M, zz_ev tX12_get 14 L st M = zo_iald zzSR zzSTR 15 (zz_ev tX12_get) L st M) ∧
  (∀ L st M, zz_ev tX12_get 15 L st M = zo_li (fun x y => x <<< (y.toInt64 &&& 63)) 16 (zz_ev tX12_get) L st M) ∧
  (∀ L st M, zz_ev tX12_get 16 L st M = zo_pushL 1 17 (zz_ev tX12_get) L st M) ∧
  (∀ L st M, zz_ev tX12_get 17 L st M = zo_ll (fun x y => x - y) 18 (zz_ev tX12_get) L st M) ∧
  (∀ L st M, zz_ev tX12_get 18 L st M = zo_ll (fun x y => x &&& y) 19 (zz_ev tX12_get) L st M) ∧
  (∀ L st M, zz_ev tX12_get 19 L st M = zo_l2i 20 (zz_ev tX12_get) L st M) ∧
  (∀ L st M, zz_ev tX12_get 20 L st M = zo_iret false (zz_ev tX12_get) L st M) :=
  ⟨zz_1 rfl tl_X12_get, zz_1 rfl tl_X12_get, fun L r M => (zz_1 rfl tl_X12_get _ _ _).trans rfl, zz_1 rfl tl_X12_get, zz_1 rfl tl_X12_get, zz_1 rfl tl_X12_get, zz_1 rfl tl_X12_get, zz_1 rfl tl_X12_get, fun L r M => (zz_1 rfl tl_X12_get _ _ _).trans rfl, zz_1 rfl tl_X12_get, zz_1 rfl tl_X12_get, zz_1 rfl tl_X12_get, zz_1 rfl tl_X12_get, zz_1 rfl tl_X12_get, zz_1 rfl tl_X12_get, zz_1 rfl tl_X12_get, zz_1 rfl tl_X12_get⟩
set_option maxRecDepth 100000 in
theorem s_X12_get (a1 : Int32) (a0 : Int64) (v : Nat) (M : zzMd) : fX12_get [.ref v, .long a0, .int a1] M = zz_ev tX12_get 0 [some (.ref v), some (.long a0), none, some (.int a1)] [] M := rfl
set_option maxRecDepth 100000 in
theorem e_X12_with : (∀ L st M, zz_ev tX12_with 0 L st M = zo_pushL 1 1 (zz_ev tX12_with) L st M) ∧
  (∀ L st M, zz_ev tX12_with 1 L st M = zo_aload 0 2 (zz_ev tX12_with) L st M) ∧
  (∀ (L : zzLc) (r : List Value) (M : zzMd), zz_ev tX12_with 2 L (.ref 0 :: r) M = zz_ev tX12_with 5 L (.ref 2 :: r) M) ∧
  (∀ L st M, zz_ev tX12_with 5 L st M = zo_iload 3 6 (zz_ev tX12_with) L st M) ∧
  (∀ L st M, zz_ev tX12_with 6 L st M = zo_iald zzSR zzSTR 7 (zz_ev tX12_with) L st M) ∧
  (∀ L st M, zz_ev tX12_with 7 L st M = zo_li (fun x y => x <<< (y.toInt64 &&& 63)) 8 (zz_ev tX12_with) L st M) ∧
  (∀ L st M, zz_ev tX12_with 8 L st M = zo_pushL 1 9 (zz_ev tX12_with) L st M) ∧
  (∀ L st M, zz_ev tX12_with 9 L st M = zo_ll (fun x y => x - y) 10 (zz_ev tX12_with) L st M) ∧
  (∀ L st M, zz_ev tX12_with 10 L st M = zo_aload 0 11 (zz_ev tX12_with) L st M) ∧
  (∀ (L : zzLc) (r : List Value) (M : zzMd), zz_ev tX12_with 11 L (.ref 0 :: r) M = zz_ev tX12_with 14 L (.ref 1 :: r) M) ∧
  (∀ L st M, zz_ev tX12_with 14 L st M = zo_iload 3 15 (zz_ev tX12_with) L st M) ∧
  (∀ L st M, zz_ev tX12_with 15 L st M = zo_iald zzSR zzSTR 16 (zz_ev tX12_with) L st M) ∧
  (∀ L st M, zz_ev tX12_with 16 L st M = zo_li (fun x y => x <<< (y.toInt64 &&& 63)) 17 (zz_ev tX12_with) L st M) ∧
  (∀ L st M, zz_ev tX12_with 17 L st M = zo_lstore 5 19 (zz_ev tX12_with) L st M) ∧
  (∀ L st M, zz_ev tX12_with 19 L st M = zo_lload 1 20 (zz_ev tX12_with) L st M) ∧
  (∀ L st M, zz_ev tX12_with 20 L st M = zo_lload 5 22 (zz_ev tX12_with) L st M) ∧
  (∀ L st M, zz_ev tX12_with 22 L st M = zo_pushL (-1) 25 (zz_ev tX12_with) L st M) ∧
  (∀ L st M, zz_ev tX12_with 25 L st M = zo_ll (fun x y => x ^^^ y) 26 (zz_ev tX12_with) L st M) ∧
  (∀ L st M, zz_ev tX12_with 26 L st M = zo_ll (fun x y => x &&& y) 27 (zz_ev tX12_with) L st M) ∧
  (∀ L st M, zz_ev tX12_with 27 L st M = zo_iload 4 29 (zz_ev tX12_with) L st M) ∧
  (∀ L st M, zz_ev tX12_with 29 L st M = zo_i2l 30 (zz_ev tX12_with) L st M) ∧
  (∀ L st M, zz_ev tX12_with 30 L st M = zo_aload 0 31 (zz_ev tX12_with) L st M) ∧
  (∀ (L : zzLc) (r : List Value) (M : zzMd), zz_ev tX12_with 31 L (.ref 0 :: r) M = zz_ev tX12_with 34 L (.ref 1 :: r) M) ∧
  (∀ L st M, zz_ev tX12_with 34 L st M = zo_iload 3 35 (zz_ev tX12_with) L st M) ∧
  (∀ L st M, zz_ev tX12_with 35 L st M = zo_iald zzSR zzSTR 36 (zz_ev tX12_with) L st M) ∧
  (∀ L st M, zz_ev tX12_with 36 L st M = zo_li (fun x y => x <<< (y.toInt64 &&& 63)) 37 (zz_ev tX12_with) L st M) ∧
  (∀ L st M, zz_ev tX12_with 37 L st M = zo_ll (fun x y => x ||| y) 38 (zz_ev tX12_with) L st M) ∧
  (∀ L st M, zz_ev tX12_with 38 L st M = zo_lret (zz_ev tX12_with) L st M) :=
  ⟨zz_1 rfl tl_X12_with, zz_1 rfl tl_X12_with, fun L r M => (zz_1 rfl tl_X12_with _ _ _).trans rfl, zz_1 rfl tl_X12_with, zz_1 rfl tl_X12_with, zz_1 rfl tl_X12_with, zz_1 rfl tl_X12_with, zz_1 rfl tl_X12_with, zz_1 rfl tl_X12_with, fun L r M => (zz_1 rfl tl_X12_with _ _ _).trans rfl, zz_1 rfl tl_X12_with, zz_1 rfl tl_X12_with, zz_1 rfl tl_X12_with, zz_1 rfl tl_X12_with, zz_1 rfl tl_X12_with, zz_1 rfl tl_X12_with, zz_1 rfl tl_X12_with, zz_1 rfl tl_X12_with, zz_1 rfl tl_X12_with, zz_1 rfl tl_X12_with, zz_1 rfl tl_X12_with, zz_1 rfl tl_X12_with, fun L r M => (zz_1 rfl tl_X12_with _ _ _).trans rfl, zz_1 rfl tl_X12_with, zz_1 rfl tl_X12_with, zz_1 rfl tl_X12_with, zz_1 rfl tl_X12_with, zz_1 rfl tl_X12_with⟩
set_option maxRecDepth 100000 in
theorem s_X12_with (a1 a2 : Int32) (a0 : Int64) (v : Nat) (M : zzMd) : fX12_with [.ref v, .long a0, .int a1, .int a2] M = zz_ev tX12_with 0 [some (.ref v), some (.long a0), none, some (.int a1), some (.int a2), none, none] [] M := rfl
set_option maxRecDepth 100000 in
theorem e_X12_ownerIn : (∀ L st M, zz_ev tX12_ownerIn 0 L st M = zo_aload 0 1 (zz_ev tX12_ownerIn) L st M) ∧
  (∀ L st M, zz_ev tX12_ownerIn 1 L st M = zo_lload 1 2 (zz_ev tX12_ownerIn) L st M) ∧
  (∀ L st M, zz_ev tX12_ownerIn 2 L st M = zo_pushI 11 4 (zz_ev tX12_ownerIn) L st M) ∧
  (∀ (L : zzLc) (a1 : Int32) (a0 : Int64) (r : List Value) (M : zzMd), zz_ev tX12_ownerIn 4 L (.int a1 :: .long a0 :: .ref 0 :: r) M = bif zz_cat8 r then zz_backN (zz_ev tX12_ownerIn) 7 L r (fX12_get [.ref 0, .long a0, .int a1] M) else none) ∧
  (∀ L st M, zz_ev tX12_ownerIn 7 L st M = zo_pushI 1 8 (zz_ev tX12_ownerIn) L st M) ∧
  (∀ L st M, zz_ev tX12_ownerIn 8 L st M = zo_ii (fun x y => x - y) 9 (zz_ev tX12_ownerIn) L st M) ∧
  (∀ L st M, zz_ev tX12_ownerIn 9 L st M = zo_iret false (zz_ev tX12_ownerIn) L st M) :=
  ⟨zz_1 rfl tl_X12_ownerIn, zz_1 rfl tl_X12_ownerIn, zz_1 rfl tl_X12_ownerIn, fun L a1 a0 r M => (zz_1 rfl tl_X12_ownerIn _ _ _).trans rfl, zz_1 rfl tl_X12_ownerIn, zz_1 rfl tl_X12_ownerIn, zz_1 rfl tl_X12_ownerIn⟩
set_option maxRecDepth 100000 in
theorem s_X12_ownerIn (a0 : Int64) (v : Nat) (M : zzMd) : fX12_ownerIn [.ref v, .long a0] M = zz_ev tX12_ownerIn 0 [some (.ref v), some (.long a0), none] [] M := rfl
set_option maxRecDepth 100000 in
theorem e_X12_gone : (∀ L st M, zz_ev tX12_gone 0 L st M = zo_aload 0 1 (zz_ev tX12_gone) L st M) ∧
  (∀ L st M, zz_ev tX12_gone 1 L st M = zo_aload 0 2 (zz_ev tX12_gone) L st M) ∧
  (∀ L st M, zz_ev tX12_gone 2 L st M = zo_lload 1 3 (zz_ev tX12_gone) L st M) ∧
  (∀ L st M, zz_ev tX12_gone 3 L st M = zo_pushI 13 5 (zz_ev tX12_gone) L st M) ∧
  (∀ L st M, zz_ev tX12_gone 5 L st M = zo_pushI 4 6 (zz_ev tX12_gone) L st M) ∧
  (∀ (L : zzLc) (a1 a2 : Int32) (a0 : Int64) (r : List Value) (M : zzMd), zz_ev tX12_gone 6 L (.int a2 :: .int a1 :: .long a0 :: .ref 0 :: r) M = bif zz_cat8 r then zz_backN (zz_ev tX12_gone) 9 L r (fX12_with [.ref 0, .long a0, .int a1, .int a2] M) else none) ∧
  (∀ L st M, zz_ev tX12_gone 9 L st M = zo_pushI 11 11 (zz_ev tX12_gone) L st M) ∧
  (∀ L st M, zz_ev tX12_gone 11 L st M = zo_pushI 0 12 (zz_ev tX12_gone) L st M) ∧
  (∀ (L : zzLc) (a1 a2 : Int32) (a0 : Int64) (r : List Value) (M : zzMd), zz_ev tX12_gone 12 L (.int a2 :: .int a1 :: .long a0 :: .ref 0 :: r) M = bif zz_cat8 r then zz_backN (zz_ev tX12_gone) 15 L r (fX12_with [.ref 0, .long a0, .int a1, .int a2] M) else none) ∧
  (∀ L st M, zz_ev tX12_gone 15 L st M = zo_lret (zz_ev tX12_gone) L st M) :=
  ⟨zz_1 rfl tl_X12_gone, zz_1 rfl tl_X12_gone, zz_1 rfl tl_X12_gone, zz_1 rfl tl_X12_gone, zz_1 rfl tl_X12_gone, fun L a1 a2 a0 r M => (zz_1 rfl tl_X12_gone _ _ _).trans rfl, zz_1 rfl tl_X12_gone, zz_1 rfl tl_X12_gone, fun L a1 a2 a0 r M => (zz_1 rfl tl_X12_gone _ _ _).trans rfl, zz_1 rfl tl_X12_gone⟩
set_option maxRecDepth 100000 in
theorem s_X12_gone (a0 : Int64) (v : Nat) (M : zzMd) : fX12_gone [.ref v, .long a0] M = zz_ev tX12_gone 0 [some (.ref v), some (.long a0), none] [] M := rfl
set_option maxRecDepth 100000 in
theorem e_X12_isOf : (∀ L st M, zz_ev tX12_isOf 0 L st M = zo_lload 0 1 (zz_ev tX12_isOf) L st M) ∧
  (∀ L st M, zz_ev tX12_isOf 1 L st M = zo_iload 2 2 (zz_ev tX12_isOf) L st M) ∧
  (∀ L st M, zz_ev tX12_isOf 2 L st M = zo_li (fun x y => x >>> (y.toInt64 &&& 63)) 3 (zz_ev tX12_isOf) L st M) ∧
  (∀ L st M, zz_ev tX12_isOf 3 L st M = zo_pushL 1 4 (zz_ev tX12_isOf) L st M) ∧
  (∀ L st M, zz_ev tX12_isOf 4 L st M = zo_ll (fun x y => x &&& y) 5 (zz_ev tX12_isOf) L st M) ∧
  (∀ L st M, zz_ev tX12_isOf 5 L st M = zo_pushL 1 6 (zz_ev tX12_isOf) L st M) ∧
  (∀ L st M, zz_ev tX12_isOf 6 L st M = zo_lcmp 7 (zz_ev tX12_isOf) L st M) ∧
  (∀ L st M, zz_ev tX12_isOf 7 L st M = zo_if (fun x => decide (¬ x = 0)) 14 10 (zz_ev tX12_isOf) L st M) ∧
  (∀ L st M, zz_ev tX12_isOf 10 L st M = zo_pushI 1 11 (zz_ev tX12_isOf) L st M) ∧
  (∀ L st M, zz_ev tX12_isOf 11 L st M = zo_goto 15 (zz_ev tX12_isOf) L st M) ∧
  (∀ L st M, zz_ev tX12_isOf 14 L st M = zo_pushI 0 15 (zz_ev tX12_isOf) L st M) ∧
  (∀ L st M, zz_ev tX12_isOf 15 L st M = zo_iret true (zz_ev tX12_isOf) L st M) :=
  ⟨zz_1 rfl tl_X12_isOf, zz_1 rfl tl_X12_isOf, zz_1 rfl tl_X12_isOf, zz_1 rfl tl_X12_isOf, zz_1 rfl tl_X12_isOf, zz_1 rfl tl_X12_isOf, zz_1 rfl tl_X12_isOf, zz_1 rfl tl_X12_isOf, zz_1 rfl tl_X12_isOf, zz_1 rfl tl_X12_isOf, zz_1 rfl tl_X12_isOf, zz_1 rfl tl_X12_isOf⟩
set_option maxRecDepth 100000 in
theorem s_X12_isOf (a1 : Int32) (a0 : Int64) (M : zzMd) : fX12_isOf [.long a0, .int a1] M = zz_ev tX12_isOf 0 [some (.long a0), none, some (.int a1)] [] M := rfl
set_option maxRecDepth 100000 in
theorem e_X12_isFull : (∀ L st M, zz_ev tX12_isFull 0 L st M = zo_aload 0 1 (zz_ev tX12_isFull) L st M) ∧
  (∀ (L : zzLc) (r : List Value) (M : zzMd), zz_ev tX12_isFull 1 L (.ref 0 :: r) M = zz_ev tX12_isFull 4 L (.int (M.1 0 14) :: r) M) ∧
  (∀ L st M, zz_ev tX12_isFull 4 L st M = zo_pushI 400 7 (zz_ev tX12_isFull) L st M) ∧
  (∀ L st M, zz_ev tX12_isFull 7 L st M = zo_icmp (fun x y => decide (¬ x = y)) 14 10 (zz_ev tX12_isFull) L st M) ∧
  (∀ L st M, zz_ev tX12_isFull 10 L st M = zo_pushI 1 11 (zz_ev tX12_isFull) L st M) ∧
  (∀ L st M, zz_ev tX12_isFull 11 L st M = zo_goto 15 (zz_ev tX12_isFull) L st M) ∧
  (∀ L st M, zz_ev tX12_isFull 14 L st M = zo_pushI 0 15 (zz_ev tX12_isFull) L st M) ∧
  (∀ L st M, zz_ev tX12_isFull 15 L st M = zo_iret true (zz_ev tX12_isFull) L st M) :=
  ⟨zz_1 rfl tl_X12_isFull, fun L r M => (zz_1 rfl tl_X12_isFull _ _ _).trans rfl, zz_1 rfl tl_X12_isFull, zz_1 rfl tl_X12_isFull, zz_1 rfl tl_X12_isFull, zz_1 rfl tl_X12_isFull, zz_1 rfl tl_X12_isFull, zz_1 rfl tl_X12_isFull⟩
set_option maxRecDepth 100000 in
theorem s_X12_isFull (v : Nat) (M : zzMd) : fX12_isFull [.ref v] M = zz_ev tX12_isFull 0 [some (.ref v)] [] M := rfl
set_option maxRecDepth 100000 in
theorem e_X12_logs : (∀ L st M, zz_ev tX12_logs 0 L st M = zo_aload 0 1 (zz_ev tX12_logs) L st M) ∧
  (∀ L st M, zz_ev tX12_logs 1 L st M = zo_dup 2 (zz_ev tX12_logs) L st M) ∧
  (∀ (L : zzLc) (r : List Value) (M : zzMd), zz_ev tX12_logs 2 L (.ref 0 :: r) M = zz_ev tX12_logs 5 L (.int (M.1 0 14) :: r) M) ∧
  (∀ L st M, zz_ev tX12_logs 5 L st M = zo_pushI 1 6 (zz_ev tX12_logs) L st M) ∧
  (∀ L st M, zz_ev tX12_logs 6 L st M = zo_ii (fun x y => x + y) 7 (zz_ev tX12_logs) L st M) ∧
  (∀ (L : zzLc) (x : Int32) (r : List Value) (M : zzMd), zz_ev tX12_logs 7 L (.int x :: .ref 0 :: r) M = zz_ev tX12_logs 10 L r (zz_sI M 0 14 x)) ∧
  (∀ L st M, zz_ev tX12_logs 10 L st M = zo_aload 0 11 (zz_ev tX12_logs) L st M) ∧
  (∀ (L : zzLc) (r : List Value) (M : zzMd), zz_ev tX12_logs 11 L (.ref 0 :: r) M = zz_ev tX12_logs 14 L (.ref 7 :: r) M) ∧
  (∀ L st M, zz_ev tX12_logs 14 L st M = zo_iload 1 15 (zz_ev tX12_logs) L st M) ∧
  (∀ L st M, zz_ev tX12_logs 15 L st M = zo_lload 2 16 (zz_ev tX12_logs) L st M) ∧
  (∀ L st M, zz_ev tX12_logs 16 L st M = zo_last zzSR 17 (zz_ev tX12_logs) L st M) ∧
  (∀ L st M, zz_ev tX12_logs 17 L st M = zo_aload 0 18 (zz_ev tX12_logs) L st M) ∧
  (∀ (L : zzLc) (r : List Value) (M : zzMd), zz_ev tX12_logs 18 L (.ref 0 :: r) M = zz_ev tX12_logs 21 L (.ref 8 :: r) M) ∧
  (∀ L st M, zz_ev tX12_logs 21 L st M = zo_iload 1 22 (zz_ev tX12_logs) L st M) ∧
  (∀ L st M, zz_ev tX12_logs 22 L st M = zo_lload 4 24 (zz_ev tX12_logs) L st M) ∧
  (∀ L st M, zz_ev tX12_logs 24 L st M = zo_last zzSR 25 (zz_ev tX12_logs) L st M) ∧
  (∀ L st M, zz_ev tX12_logs 25 L st M = zo_aload 0 26 (zz_ev tX12_logs) L st M) ∧
  (∀ (L : zzLc) (r : List Value) (M : zzMd), zz_ev tX12_logs 26 L (.ref 0 :: r) M = zz_ev tX12_logs 29 L (.ref 9 :: r) M) ∧
  (∀ L st M, zz_ev tX12_logs 29 L st M = zo_iload 1 30 (zz_ev tX12_logs) L st M) ∧
  (∀ L st M, zz_ev tX12_logs 30 L st M = zo_aload 0 31 (zz_ev tX12_logs) L st M) ∧
  (∀ (L : zzLc) (r : List Value) (M : zzMd), zz_ev tX12_logs 31 L (.ref 0 :: r) M = zz_ev tX12_logs 34 L (.int (M.1 0 14) :: r) M) ∧
  (∀ L st M, zz_ev tX12_logs 34 L st M = zo_iast zzSR 35 (zz_ev tX12_logs) L st M) ∧
  (∀ L st M, zz_ev tX12_logs 35 L st M = zo_aload 0 36 (zz_ev tX12_logs) L st M) ∧
  (∀ (L : zzLc) (r : List Value) (M : zzMd), zz_ev tX12_logs 36 L (.ref 0 :: r) M = zz_ev tX12_logs 39 L (.ref 14 :: r) M) ∧
  (∀ L st M, zz_ev tX12_logs 39 L st M = zo_aload 0 40 (zz_ev tX12_logs) L st M) ∧
  (∀ (L : zzLc) (r : List Value) (M : zzMd), zz_ev tX12_logs 40 L (.ref 0 :: r) M = zz_ev tX12_logs 43 L (.int (M.1 0 14) :: r) M) ∧
  (∀ L st M, zz_ev tX12_logs 43 L st M = zo_iload 1 44 (zz_ev tX12_logs) L st M) ∧
  (∀ L st M, zz_ev tX12_logs 44 L st M = zo_iast zzSR 45 (zz_ev tX12_logs) L st M) ∧
  (∀ L st M, zz_ev tX12_logs 45 L st M = zo_aload 0 46 (zz_ev tX12_logs) L st M) ∧
  (∀ (L : zzLc) (r : List Value) (M : zzMd), zz_ev tX12_logs 46 L (.ref 0 :: r) M = zz_ev tX12_logs 49 L (.ref 15 :: r) M) ∧
  (∀ L st M, zz_ev tX12_logs 49 L st M = zo_aload 0 50 (zz_ev tX12_logs) L st M) ∧
  (∀ (L : zzLc) (r : List Value) (M : zzMd), zz_ev tX12_logs 50 L (.ref 0 :: r) M = zz_ev tX12_logs 53 L (.int (M.1 0 14) :: r) M) ∧
  (∀ L st M, zz_ev tX12_logs 53 L st M = zo_lload 2 54 (zz_ev tX12_logs) L st M) ∧
  (∀ L st M, zz_ev tX12_logs 54 L st M = zo_last zzSR 55 (zz_ev tX12_logs) L st M) ∧
  (∀ L st M, zz_ev tX12_logs 55 L st M = zo_aload 0 56 (zz_ev tX12_logs) L st M) ∧
  (∀ (L : zzLc) (r : List Value) (M : zzMd), zz_ev tX12_logs 56 L (.ref 0 :: r) M = zz_ev tX12_logs 59 L (.ref 16 :: r) M) ∧
  (∀ L st M, zz_ev tX12_logs 59 L st M = zo_aload 0 60 (zz_ev tX12_logs) L st M) ∧
  (∀ (L : zzLc) (r : List Value) (M : zzMd), zz_ev tX12_logs 60 L (.ref 0 :: r) M = zz_ev tX12_logs 63 L (.int (M.1 0 14) :: r) M) ∧
  (∀ L st M, zz_ev tX12_logs 63 L st M = zo_lload 4 65 (zz_ev tX12_logs) L st M) ∧
  (∀ L st M, zz_ev tX12_logs 65 L st M = zo_last zzSR 66 (zz_ev tX12_logs) L st M) ∧
  (∀ L st M, zz_ev tX12_logs 66 L st M = zo_ret (zz_ev tX12_logs) L st M) :=
  ⟨zz_1 rfl tl_X12_logs, zz_1 rfl tl_X12_logs, fun L r M => (zz_1 rfl tl_X12_logs _ _ _).trans rfl, zz_1 rfl tl_X12_logs, zz_1 rfl tl_X12_logs, fun L x r M => (zz_1 rfl tl_X12_logs _ _ _).trans rfl, zz_1 rfl tl_X12_logs, fun L r M => (zz_1 rfl tl_X12_logs _ _ _).trans rfl, zz_1 rfl tl_X12_logs, zz_1 rfl tl_X12_logs, zz_1 rfl tl_X12_logs, zz_1 rfl tl_X12_logs, fun L r M => (zz_1 rfl tl_X12_logs _ _ _).trans rfl, zz_1 rfl tl_X12_logs, zz_1 rfl tl_X12_logs, zz_1 rfl tl_X12_logs, zz_1 rfl tl_X12_logs, fun L r M => (zz_1 rfl tl_X12_logs _ _ _).trans rfl, zz_1 rfl tl_X12_logs, zz_1 rfl tl_X12_logs, fun L r M => (zz_1 rfl tl_X12_logs _ _ _).trans rfl, zz_1 rfl tl_X12_logs, zz_1 rfl tl_X12_logs, fun L r M => (zz_1 rfl tl_X12_logs _ _ _).trans rfl, zz_1 rfl tl_X12_logs, fun L r M => (zz_1 rfl tl_X12_logs _ _ _).trans rfl, zz_1 rfl tl_X12_logs, zz_1 rfl tl_X12_logs, zz_1 rfl tl_X12_logs, fun L r M => (zz_1 rfl tl_X12_logs _ _ _).trans rfl, zz_1 rfl tl_X12_logs, fun L r M => (zz_1 rfl tl_X12_logs _ _ _).trans rfl, zz_1 rfl tl_X12_logs, zz_1 rfl tl_X12_logs, zz_1 rfl tl_X12_logs, fun L r M => (zz_1 rfl tl_X12_logs _ _ _).trans rfl, zz_1 rfl tl_X12_logs, fun L r M => (zz_1 rfl tl_X12_logs _ _ _).trans rfl, zz_1 rfl tl_X12_logs, zz_1 rfl tl_X12_logs, zz_1 rfl tl_X12_logs⟩
set_option maxRecDepth 100000 in
theorem s_X12_logs (a0 : Int32) (a1 a2 : Int64) (v : Nat) (M : zzMd) : fX12_logs [.ref v, .int a0, .long a1, .long a2] M = zz_ev tX12_logs 0 [some (.ref v), some (.int a0), some (.long a1), none, some (.long a2), none] [] M := rfl
set_option maxRecDepth 100000 in
theorem e_X12_puts : (∀ L st M, zz_ev tX12_puts 0 L st M = zo_iload 6 2 (zz_ev tX12_puts) L st M) ∧
  (∀ L st M, zz_ev tX12_puts 2 L st M = zo_if (fun x => decide (¬ x = 0)) 28 5 (zz_ev tX12_puts) L st M) ∧
  (∀ L st M, zz_ev tX12_puts 5 L st M = zo_aload 0 6 (zz_ev tX12_puts) L st M) ∧
  (∀ (L : zzLc) (r : List Value) (M : zzMd), zz_ev tX12_puts 6 L (.ref 0 :: r) M = zz_ev tX12_puts 9 L (.ref 7 :: r) M) ∧
  (∀ L st M, zz_ev tX12_puts 9 L st M = zo_iload 1 10 (zz_ev tX12_puts) L st M) ∧
  (∀ L st M, zz_ev tX12_puts 10 L st M = zo_lald zzSR 11 (zz_ev tX12_puts) L st M) ∧
  (∀ L st M, zz_ev tX12_puts 11 L st M = zo_lload 2 12 (zz_ev tX12_puts) L st M) ∧
  (∀ L st M, zz_ev tX12_puts 12 L st M = zo_lcmp 13 (zz_ev tX12_puts) L st M) ∧
  (∀ L st M, zz_ev tX12_puts 13 L st M = zo_if (fun x => decide (¬ x = 0)) 28 16 (zz_ev tX12_puts) L st M) ∧
  (∀ L st M, zz_ev tX12_puts 16 L st M = zo_aload 0 17 (zz_ev tX12_puts) L st M) ∧
  (∀ (L : zzLc) (r : List Value) (M : zzMd), zz_ev tX12_puts 17 L (.ref 0 :: r) M = zz_ev tX12_puts 20 L (.ref 8 :: r) M) ∧
  (∀ L st M, zz_ev tX12_puts 20 L st M = zo_iload 1 21 (zz_ev tX12_puts) L st M) ∧
  (∀ L st M, zz_ev tX12_puts 21 L st M = zo_lald zzSR 22 (zz_ev tX12_puts) L st M) ∧
  (∀ L st M, zz_ev tX12_puts 22 L st M = zo_lload 4 24 (zz_ev tX12_puts) L st M) ∧
  (∀ L st M, zz_ev tX12_puts 24 L st M = zo_lcmp 25 (zz_ev tX12_puts) L st M) ∧
  (∀ L st M, zz_ev tX12_puts 25 L st M = zo_if (fun x => decide (x = 0)) 32 28 (zz_ev tX12_puts) L st M) ∧
  (∀ L st M, zz_ev tX12_puts 28 L st M = zo_pushI 1 29 (zz_ev tX12_puts) L st M) ∧
  (∀ L st M, zz_ev tX12_puts 29 L st M = zo_goto 33 (zz_ev tX12_puts) L st M) ∧
  (∀ L st M, zz_ev tX12_puts 32 L st M = zo_pushI 0 33 (zz_ev tX12_puts) L st M) ∧
  (∀ L st M, zz_ev tX12_puts 33 L st M = zo_istore 7 35 (zz_ev tX12_puts) L st M) ∧
  (∀ L st M, zz_ev tX12_puts 35 L st M = zo_iload 7 37 (zz_ev tX12_puts) L st M) ∧
  (∀ L st M, zz_ev tX12_puts 37 L st M = zo_if (fun x => decide (x = 0)) 49 40 (zz_ev tX12_puts) L st M) ∧
  (∀ L st M, zz_ev tX12_puts 40 L st M = zo_aload 0 41 (zz_ev tX12_puts) L st M) ∧
  (∀ (L : zzLc) (r : List Value) (M : zzMd), zz_ev tX12_puts 41 L (.ref 0 :: r) M = bif zz_cat8 r then zz_backN (zz_ev tX12_puts) 44 L r (fX12_isFull [.ref 0] M) else none) ∧
  (∀ L st M, zz_ev tX12_puts 44 L st M = zo_if (fun x => decide (x = 0)) 49 47 (zz_ev tX12_puts) L st M) ∧
  (∀ L st M, zz_ev tX12_puts 47 L st M = zo_pushI 0 48 (zz_ev tX12_puts) L st M) ∧
  (∀ L st M, zz_ev tX12_puts 48 L st M = zo_iret true (zz_ev tX12_puts) L st M) ∧
  (∀ L st M, zz_ev tX12_puts 49 L st M = zo_iload 7 51 (zz_ev tX12_puts) L st M) ∧
  (∀ L st M, zz_ev tX12_puts 51 L st M = zo_if (fun x => decide (x = 0)) 62 54 (zz_ev tX12_puts) L st M) ∧
  (∀ L st M, zz_ev tX12_puts 54 L st M = zo_aload 0 55 (zz_ev tX12_puts) L st M) ∧
  (∀ L st M, zz_ev tX12_puts 55 L st M = zo_iload 1 56 (zz_ev tX12_puts) L st M) ∧
  (∀ L st M, zz_ev tX12_puts 56 L st M = zo_lload 2 57 (zz_ev tX12_puts) L st M) ∧
  (∀ L st M, zz_ev tX12_puts 57 L st M = zo_lload 4 59 (zz_ev tX12_puts) L st M) ∧
  (∀ (L : zzLc) (a0 : Int32) (a1 a2 : Int64) (r : List Value) (M : zzMd), zz_ev tX12_puts 59 L (.long a2 :: .long a1 :: .int a0 :: .ref 0 :: r) M = bif zz_cat8 r then zz_backN (zz_ev tX12_puts) 62 L r (fX12_logs [.ref 0, .int a0, .long a1, .long a2] M) else none) ∧
  (∀ L st M, zz_ev tX12_puts 62 L st M = zo_pushI 1 63 (zz_ev tX12_puts) L st M) ∧
  (∀ L st M, zz_ev tX12_puts 63 L st M = zo_iret true (zz_ev tX12_puts) L st M) :=
  ⟨zz_1 rfl tl_X12_puts, zz_1 rfl tl_X12_puts, zz_1 rfl tl_X12_puts, fun L r M => (zz_1 rfl tl_X12_puts _ _ _).trans rfl, zz_1 rfl tl_X12_puts, zz_1 rfl tl_X12_puts, zz_1 rfl tl_X12_puts, zz_1 rfl tl_X12_puts, zz_1 rfl tl_X12_puts, zz_1 rfl tl_X12_puts, fun L r M => (zz_1 rfl tl_X12_puts _ _ _).trans rfl, zz_1 rfl tl_X12_puts, zz_1 rfl tl_X12_puts, zz_1 rfl tl_X12_puts, zz_1 rfl tl_X12_puts, zz_1 rfl tl_X12_puts, zz_1 rfl tl_X12_puts, zz_1 rfl tl_X12_puts, zz_1 rfl tl_X12_puts, zz_1 rfl tl_X12_puts, zz_1 rfl tl_X12_puts, zz_1 rfl tl_X12_puts, zz_1 rfl tl_X12_puts, fun L  r M => (zz_1 rfl tl_X12_puts _ _ _).trans rfl, zz_1 rfl tl_X12_puts, zz_1 rfl tl_X12_puts, zz_1 rfl tl_X12_puts, zz_1 rfl tl_X12_puts, zz_1 rfl tl_X12_puts, zz_1 rfl tl_X12_puts, zz_1 rfl tl_X12_puts, zz_1 rfl tl_X12_puts, zz_1 rfl tl_X12_puts, fun L a0 a1 a2 r M => (zz_1 rfl tl_X12_puts _ _ _).trans rfl, zz_1 rfl tl_X12_puts, zz_1 rfl tl_X12_puts⟩
set_option maxRecDepth 100000 in
theorem s_X12_puts (a0 a3 : Int32) (a1 a2 : Int64) (v : Nat) (M : zzMd) : fX12_puts [.ref v, .int a0, .long a1, .long a2, .int a3] M = zz_ev tX12_puts 0 [some (.ref v), some (.int a0), some (.long a1), none, some (.long a2), none, some (.int a3), none] [] M := rfl
set_option maxRecDepth 100000 in
theorem e_X12_living : (∀ L st M, zz_ev tX12_living 0 L st M = zo_pushI 0 1 (zz_ev tX12_living) L st M) ∧
  (∀ L st M, zz_ev tX12_living 1 L st M = zo_istore 2 2 (zz_ev tX12_living) L st M) ∧
  (∀ L st M, zz_ev tX12_living 2 L st M = zo_pushI 0 3 (zz_ev tX12_living) L st M) ∧
  (∀ L st M, zz_ev tX12_living 3 L st M = zo_istore 3 4 (zz_ev tX12_living) L st M) ∧
  (∀ L st M, zz_ev tX12_living 5 L st M = zo_aload 0 6 (zz_ev tX12_living) L st M) ∧
  (∀ (L : zzLc) (r : List Value) (M : zzMd), zz_ev tX12_living 6 L (.ref 0 :: r) M = zz_ev tX12_living 9 L (.int (M.1 0 5) :: r) M) ∧
  (∀ L st M, zz_ev tX12_living 9 L st M = zo_icmp (fun x y => decide (y ≤ x)) 52 12 (zz_ev tX12_living) L st M) ∧
  (∀ L st M, zz_ev tX12_living 12 L st M = zo_iload 2 13 (zz_ev tX12_living) L st M) ∧
  (∀ L st M, zz_ev tX12_living 13 L st M = zo_aload 0 14 (zz_ev tX12_living) L st M) ∧
  (∀ (L : zzLc) (r : List Value) (M : zzMd), zz_ev tX12_living 14 L (.ref 0 :: r) M = zz_ev tX12_living 17 L (.ref 6 :: r) M) ∧
  (∀ L st M, zz_ev tX12_living 17 L st M = zo_iload 3 18 (zz_ev tX12_living) L st M) ∧
  (∀ L st M, zz_ev tX12_living 18 L st M = zo_iald zzSR zzSTR 19 (zz_ev tX12_living) L st M) ∧
  (∀ L st M, zz_ev tX12_living 19 L st M = zo_iload 1 20 (zz_ev tX12_living) L st M) ∧
  (∀ L st M, zz_ev tX12_living 20 L st M = zo_icmp (fun x y => decide (¬ x = y)) 43 23 (zz_ev tX12_living) L st M) ∧
  (∀ L st M, zz_ev tX12_living 23 L st M = zo_aload 0 24 (zz_ev tX12_living) L st M) ∧
  (∀ L st M, zz_ev tX12_living 24 L st M = zo_aload 0 25 (zz_ev tX12_living) L st M) ∧
  (∀ (L : zzLc) (r : List Value) (M : zzMd), zz_ev tX12_living 25 L (.ref 0 :: r) M = zz_ev tX12_living 28 L (.ref 7 :: r) M) ∧
  (∀ L st M, zz_ev tX12_living 28 L st M = zo_iload 3 29 (zz_ev tX12_living) L st M) ∧
  (∀ L st M, zz_ev tX12_living 29 L st M = zo_lald zzSR 30 (zz_ev tX12_living) L st M) ∧
  (∀ L st M, zz_ev tX12_living 30 L st M = zo_pushI 13 32 (zz_ev tX12_living) L st M) ∧
  (∀ (L : zzLc) (a1 : Int32) (a0 : Int64) (r : List Value) (M : zzMd), zz_ev tX12_living 32 L (.int a1 :: .long a0 :: .ref 0 :: r) M = bif zz_cat8 r then zz_backN (zz_ev tX12_living) 35 L r (fX12_get [.ref 0, .long a0, .int a1] M) else none) ∧
  (∀ L st M, zz_ev tX12_living 35 L st M = zo_pushI 4 36 (zz_ev tX12_living) L st M) ∧
  (∀ L st M, zz_ev tX12_living 36 L st M = zo_icmp (fun x y => decide (x = y)) 43 39 (zz_ev tX12_living) L st M) ∧
  (∀ L st M, zz_ev tX12_living 39 L st M = zo_pushI 1 40 (zz_ev tX12_living) L st M) ∧
  (∀ L st M, zz_ev tX12_living 40 L st M = zo_goto 44 (zz_ev tX12_living) L st M) ∧
  (∀ L st M, zz_ev tX12_living 43 L st M = zo_pushI 0 44 (zz_ev tX12_living) L st M) ∧
  (∀ L st M, zz_ev tX12_living 44 L st M = zo_ii (fun x y => x + y) 45 (zz_ev tX12_living) L st M) ∧
  (∀ L st M, zz_ev tX12_living 45 L st M = zo_istore 2 46 (zz_ev tX12_living) L st M) ∧
  (∀ L st M, zz_ev tX12_living 46 L st M = zo_iinc 3 1 49 (zz_ev tX12_living) L st M) ∧
  (∀ L st M, zz_ev tX12_living 49 L st M = zo_goto 4 (zz_ev tX12_living) L st M) ∧
  (∀ L st M, zz_ev tX12_living 52 L st M = zo_iload 2 53 (zz_ev tX12_living) L st M) ∧
  (∀ L st M, zz_ev tX12_living 53 L st M = zo_iret false (zz_ev tX12_living) L st M) :=
  ⟨zz_1 rfl tl_X12_living, zz_1 rfl tl_X12_living, zz_1 rfl tl_X12_living, zz_1 rfl tl_X12_living, zz_1 rfl tl_X12_living, fun L r M => (zz_1 rfl tl_X12_living _ _ _).trans rfl, zz_1 rfl tl_X12_living, zz_1 rfl tl_X12_living, zz_1 rfl tl_X12_living, fun L r M => (zz_1 rfl tl_X12_living _ _ _).trans rfl, zz_1 rfl tl_X12_living, zz_1 rfl tl_X12_living, zz_1 rfl tl_X12_living, zz_1 rfl tl_X12_living, zz_1 rfl tl_X12_living, zz_1 rfl tl_X12_living, fun L r M => (zz_1 rfl tl_X12_living _ _ _).trans rfl, zz_1 rfl tl_X12_living, zz_1 rfl tl_X12_living, zz_1 rfl tl_X12_living, fun L a1 a0 r M => (zz_1 rfl tl_X12_living _ _ _).trans rfl, zz_1 rfl tl_X12_living, zz_1 rfl tl_X12_living, zz_1 rfl tl_X12_living, zz_1 rfl tl_X12_living, zz_1 rfl tl_X12_living, zz_1 rfl tl_X12_living, zz_1 rfl tl_X12_living, zz_1 rfl tl_X12_living, zz_1 rfl tl_X12_living, zz_1 rfl tl_X12_living, zz_1 rfl tl_X12_living⟩
set_option maxRecDepth 100000 in
theorem e_X12_living_4 : (∀ L st M, zz_ev tX12_living 4 L st M = zo_iload 3 5 (zz_ev tX12_living) L st M) := zz_1 rfl tl_X12_living
set_option maxRecDepth 100000 in
theorem s_X12_living (a0 : Int32) (v : Nat) (M : zzMd) : fX12_living [.ref v, .int a0] M = zz_ev tX12_living 0 [some (.ref v), some (.int a0), none, none] [] M := rfl
set_option maxRecDepth 100000 in
theorem e_X12_admitted : (∀ L st M, zz_ev tX12_admitted 0 L st M = zo_lload 2 1 (zz_ev tX12_admitted) L st M) ∧
  (∀ L st M, zz_ev tX12_admitted 1 L st M = zo_lstore 4 3 (zz_ev tX12_admitted) L st M) ∧
  (∀ L st M, zz_ev tX12_admitted 3 L st M = zo_pushI 1 4 (zz_ev tX12_admitted) L st M) ∧
  (∀ L st M, zz_ev tX12_admitted 4 L st M = zo_istore 6 6 (zz_ev tX12_admitted) L st M) ∧
  (∀ L st M, zz_ev tX12_admitted 6 L st M = zo_pushI 0 7 (zz_ev tX12_admitted) L st M) ∧
  (∀ L st M, zz_ev tX12_admitted 7 L st M = zo_istore 7 9 (zz_ev tX12_admitted) L st M) ∧
  (∀ L st M, zz_ev tX12_admitted 11 L st M = zo_if (fun x => decide (x = 0)) 147 14 (zz_ev tX12_admitted) L st M) ∧
  (∀ L st M, zz_ev tX12_admitted 14 L st M = zo_iload 7 16 (zz_ev tX12_admitted) L st M) ∧
  (∀ L st M, zz_ev tX12_admitted 16 L st M = zo_pushI 6 18 (zz_ev tX12_admitted) L st M) ∧
  (∀ L st M, zz_ev tX12_admitted 18 L st M = zo_icmp (fun x y => decide (y ≤ x)) 147 21 (zz_ev tX12_admitted) L st M) ∧
  (∀ L st M, zz_ev tX12_admitted 21 L st M = zo_lload 4 23 (zz_ev tX12_admitted) L st M) ∧
  (∀ L st M, zz_ev tX12_admitted 23 L st M = zo_lstore 8 25 (zz_ev tX12_admitted) L st M) ∧
  (∀ L st M, zz_ev tX12_admitted 25 L st M = zo_pushI 0 26 (zz_ev tX12_admitted) L st M) ∧
  (∀ L st M, zz_ev tX12_admitted 26 L st M = zo_istore 10 28 (zz_ev tX12_admitted) L st M) ∧
  (∀ L st M, zz_ev tX12_admitted 30 L st M = zo_aload 0 31 (zz_ev tX12_admitted) L st M) ∧
  (∀ (L : zzLc) (r : List Value) (M : zzMd), zz_ev tX12_admitted 31 L (.ref 0 :: r) M = zz_ev tX12_admitted 34 L (.int (M.1 0 19) :: r) M) ∧
  (∀ L st M, zz_ev tX12_admitted 34 L st M = zo_icmp (fun x y => decide (y ≤ x)) 126 37 (zz_ev tX12_admitted) L st M) ∧
  (∀ L st M, zz_ev tX12_admitted 37 L st M = zo_aload 0 38 (zz_ev tX12_admitted) L st M) ∧
  (∀ (L : zzLc) (r : List Value) (M : zzMd), zz_ev tX12_admitted 38 L (.ref 0 :: r) M = zz_ev tX12_admitted 41 L (.ref 17 :: r) M) ∧
  (∀ L st M, zz_ev tX12_admitted 41 L st M = zo_iload 10 43 (zz_ev tX12_admitted) L st M) ∧
  (∀ L st M, zz_ev tX12_admitted 43 L st M = zo_iald zzSR zzSTR 44 (zz_ev tX12_admitted) L st M) ∧
  (∀ L st M, zz_ev tX12_admitted 44 L st M = zo_iload 1 45 (zz_ev tX12_admitted) L st M) ∧
  (∀ L st M, zz_ev tX12_admitted 45 L st M = zo_icmp (fun x y => decide (¬ x = y)) 85 48 (zz_ev tX12_admitted) L st M) ∧
  (∀ L st M, zz_ev tX12_admitted 48 L st M = zo_aload 0 49 (zz_ev tX12_admitted) L st M) ∧
  (∀ L st M, zz_ev tX12_admitted 49 L st M = zo_lload 4 51 (zz_ev tX12_admitted) L st M) ∧
  (∀ L st M, zz_ev tX12_admitted 51 L st M = zo_aload 0 52 (zz_ev tX12_admitted) L st M) ∧
  (∀ (L : zzLc) (r : List Value) (M : zzMd), zz_ev tX12_admitted 52 L (.ref 0 :: r) M = zz_ev tX12_admitted 55 L (.ref 18 :: r) M) ∧
  (∀ L st M, zz_ev tX12_admitted 55 L st M = zo_iload 10 57 (zz_ev tX12_admitted) L st M) ∧
  (∀ L st M, zz_ev tX12_admitted 57 L st M = zo_iald zzSR zzSTR 58 (zz_ev tX12_admitted) L st M) ∧
  (∀ (L : zzLc) (a1 : Int32) (a0 : Int64) (r : List Value) (M : zzMd), zz_ev tX12_admitted 58 L (.int a1 :: .long a0 :: .ref 0 :: r) M = bif zz_cat8 r then zz_backN (zz_ev tX12_admitted) 61 L r (fX12_get [.ref 0, .long a0, .int a1] M) else none) ∧
  (∀ L st M, zz_ev tX12_admitted 61 L st M = zo_aload 0 62 (zz_ev tX12_admitted) L st M) ∧
  (∀ (L : zzLc) (r : List Value) (M : zzMd), zz_ev tX12_admitted 62 L (.ref 0 :: r) M = zz_ev tX12_admitted 65 L (.ref 19 :: r) M) ∧
  (∀ L st M, zz_ev tX12_admitted 65 L st M = zo_iload 10 67 (zz_ev tX12_admitted) L st M) ∧
  (∀ L st M, zz_ev tX12_admitted 67 L st M = zo_iald zzSR zzSTR 68 (zz_ev tX12_admitted) L st M) ∧
  (∀ L st M, zz_ev tX12_admitted 68 L st M = zo_aload 0 69 (zz_ev tX12_admitted) L st M) ∧
  (∀ (L : zzLc) (r : List Value) (M : zzMd), zz_ev tX12_admitted 69 L (.ref 0 :: r) M = zz_ev tX12_admitted 72 L (.ref 20 :: r) M) ∧
  (∀ L st M, zz_ev tX12_admitted 72 L st M = zo_iload 10 74 (zz_ev tX12_admitted) L st M) ∧
  (∀ L st M, zz_ev tX12_admitted 74 L st M = zo_iald zzSR zzSTR 75 (zz_ev tX12_admitted) L st M) ∧
  (∀ (L : zzLc) (a0 a1 a2 : Int32) (r : List Value) (M : zzMd), zz_ev tX12_admitted 75 L (.int a2 :: .int a1 :: .int a0 :: r) M = bif zz_cat8 r then zz_backN (zz_ev tX12_admitted) 78 L r (fX12_isIn [.int a0, .int a1, .int a2] M) else none) ∧
  (∀ L st M, zz_ev tX12_admitted 78 L st M = zo_if (fun x => decide (x = 0)) 85 81 (zz_ev tX12_admitted) L st M) ∧
  (∀ L st M, zz_ev tX12_admitted 81 L st M = zo_pushI 1 82 (zz_ev tX12_admitted) L st M) ∧
  (∀ L st M, zz_ev tX12_admitted 82 L st M = zo_goto 86 (zz_ev tX12_admitted) L st M) ∧
  (∀ L st M, zz_ev tX12_admitted 85 L st M = zo_pushI 0 86 (zz_ev tX12_admitted) L st M) ∧
  (∀ L st M, zz_ev tX12_admitted 86 L st M = zo_istore 11 88 (zz_ev tX12_admitted) L st M) ∧
  (∀ L st M, zz_ev tX12_admitted 88 L st M = zo_iload 11 90 (zz_ev tX12_admitted) L st M) ∧
  (∀ L st M, zz_ev tX12_admitted 90 L st M = zo_if (fun x => decide (x = 0)) 116 93 (zz_ev tX12_admitted) L st M) ∧
  (∀ L st M, zz_ev tX12_admitted 93 L st M = zo_aload 0 94 (zz_ev tX12_admitted) L st M) ∧
  (∀ L st M, zz_ev tX12_admitted 94 L st M = zo_lload 4 96 (zz_ev tX12_admitted) L st M) ∧
  (∀ L st M, zz_ev tX12_admitted 96 L st M = zo_aload 0 97 (zz_ev tX12_admitted) L st M) ∧
  (∀ (L : zzLc) (r : List Value) (M : zzMd), zz_ev tX12_admitted 97 L (.ref 0 :: r) M = zz_ev tX12_admitted 100 L (.ref 21 :: r) M) ∧
  (∀ L st M, zz_ev tX12_admitted 100 L st M = zo_iload 10 102 (zz_ev tX12_admitted) L st M) ∧
  (∀ L st M, zz_ev tX12_admitted 102 L st M = zo_iald zzSR zzSTR 103 (zz_ev tX12_admitted) L st M) ∧
  (∀ L st M, zz_ev tX12_admitted 103 L st M = zo_aload 0 104 (zz_ev tX12_admitted) L st M) ∧
  (∀ (L : zzLc) (r : List Value) (M : zzMd), zz_ev tX12_admitted 104 L (.ref 0 :: r) M = zz_ev tX12_admitted 107 L (.ref 22 :: r) M) ∧
  (∀ L st M, zz_ev tX12_admitted 107 L st M = zo_iload 10 109 (zz_ev tX12_admitted) L st M) ∧
  (∀ L st M, zz_ev tX12_admitted 109 L st M = zo_iald zzSR zzSTR 110 (zz_ev tX12_admitted) L st M) ∧
  (∀ (L : zzLc) (a1 a2 : Int32) (a0 : Int64) (r : List Value) (M : zzMd), zz_ev tX12_admitted 110 L (.int a2 :: .int a1 :: .long a0 :: .ref 0 :: r) M = bif zz_cat8 r then zz_backN (zz_ev tX12_admitted) 113 L r (fX12_with [.ref 0, .long a0, .int a1, .int a2] M) else none) ∧
  (∀ L st M, zz_ev tX12_admitted 113 L st M = zo_goto 118 (zz_ev tX12_admitted) L st M) ∧
  (∀ L st M, zz_ev tX12_admitted 116 L st M = zo_lload 4 118 (zz_ev tX12_admitted) L st M) ∧
  (∀ L st M, zz_ev tX12_admitted 118 L st M = zo_lstore 4 120 (zz_ev tX12_admitted) L st M) ∧
  (∀ L st M, zz_ev tX12_admitted 120 L st M = zo_iinc 10 1 123 (zz_ev tX12_admitted) L st M) ∧
  (∀ L st M, zz_ev tX12_admitted 123 L st M = zo_goto 28 (zz_ev tX12_admitted) L st M) ∧
  (∀ L st M, zz_ev tX12_admitted 126 L st M = zo_lload 4 128 (zz_ev tX12_admitted) L st M) ∧
  (∀ L st M, zz_ev tX12_admitted 128 L st M = zo_lload 8 130 (zz_ev tX12_admitted) L st M) ∧
  (∀ L st M, zz_ev tX12_admitted 130 L st M = zo_lcmp 131 (zz_ev tX12_admitted) L st M) ∧
  (∀ L st M, zz_ev tX12_admitted 131 L st M = zo_if (fun x => decide (x = 0)) 138 134 (zz_ev tX12_admitted) L st M) ∧
  (∀ L st M, zz_ev tX12_admitted 134 L st M = zo_pushI 1 135 (zz_ev tX12_admitted) L st M) ∧
  (∀ L st M, zz_ev tX12_admitted 135 L st M = zo_goto 139 (zz_ev tX12_admitted) L st M) ∧
  (∀ L st M, zz_ev tX12_admitted 138 L st M = zo_pushI 0 139 (zz_ev tX12_admitted) L st M) ∧
  (∀ L st M, zz_ev tX12_admitted 139 L st M = zo_istore 6 141 (zz_ev tX12_admitted) L st M) ∧
  (∀ L st M, zz_ev tX12_admitted 141 L st M = zo_iinc 7 1 144 (zz_ev tX12_admitted) L st M) ∧
  (∀ L st M, zz_ev tX12_admitted 144 L st M = zo_goto 9 (zz_ev tX12_admitted) L st M) ∧
  (∀ L st M, zz_ev tX12_admitted 147 L st M = zo_aload 0 148 (zz_ev tX12_admitted) L st M) ∧
  (∀ L st M, zz_ev tX12_admitted 148 L st M = zo_iload 6 150 (zz_ev tX12_admitted) L st M) ∧
  (∀ L st M, zz_ev tX12_admitted 150 L st M = zo_if (fun x => decide (¬ x = 0)) 175 153 (zz_ev tX12_admitted) L st M) ∧
  (∀ L st M, zz_ev tX12_admitted 153 L st M = zo_iload 1 154 (zz_ev tX12_admitted) L st M) ∧
  (∀ L st M, zz_ev tX12_admitted 154 L st M = zo_if (fun x => decide (¬ x = 0)) 179 157 (zz_ev tX12_admitted) L st M) ∧
  (∀ L st M, zz_ev tX12_admitted 157 L st M = zo_aload 0 158 (zz_ev tX12_admitted) L st M) ∧
  (∀ L st M, zz_ev tX12_admitted 158 L st M = zo_lload 4 160 (zz_ev tX12_admitted) L st M) ∧
  (∀ L st M, zz_ev tX12_admitted 160 L st M = zo_pushI 2 161 (zz_ev tX12_admitted) L st M) ∧
  (∀ (L : zzLc) (a1 : Int32) (a0 : Int64) (r : List Value) (M : zzMd), zz_ev tX12_admitted 161 L (.int a1 :: .long a0 :: .ref 0 :: r) M = bif zz_cat8 r then zz_backN (zz_ev tX12_admitted) 164 L r (fX12_get [.ref 0, .long a0, .int a1] M) else none) ∧
  (∀ L st M, zz_ev tX12_admitted 164 L st M = zo_aload 0 165 (zz_ev tX12_admitted) L st M) ∧
  (∀ L st M, zz_ev tX12_admitted 165 L st M = zo_lload 4 167 (zz_ev tX12_admitted) L st M) ∧
  (∀ L st M, zz_ev tX12_admitted 167 L st M = zo_pushI 3 168 (zz_ev tX12_admitted) L st M) ∧
  (∀ (L : zzLc) (a1 : Int32) (a0 : Int64) (r : List Value) (M : zzMd), zz_ev tX12_admitted 168 L (.int a1 :: .long a0 :: .ref 0 :: r) M = bif zz_cat8 r then zz_backN (zz_ev tX12_admitted) 171 L r (fX12_get [.ref 0, .long a0, .int a1] M) else none) ∧
  (∀ L st M, zz_ev tX12_admitted 171 L st M = zo_ii (fun x y => x + y) 172 (zz_ev tX12_admitted) L st M) ∧
  (∀ L st M, zz_ev tX12_admitted 172 L st M = zo_if (fun x => decide (¬ x = 0)) 179 175 (zz_ev tX12_admitted) L st M) ∧
  (∀ L st M, zz_ev tX12_admitted 175 L st M = zo_pushI 1 176 (zz_ev tX12_admitted) L st M) ∧
  (∀ L st M, zz_ev tX12_admitted 176 L st M = zo_goto 180 (zz_ev tX12_admitted) L st M) ∧
  (∀ L st M, zz_ev tX12_admitted 179 L st M = zo_pushI 0 180 (zz_ev tX12_admitted) L st M) ∧
  (∀ (L : zzLc) (x : Int32) (r : List Value) (M : zzMd), zz_ev tX12_admitted 180 L (.int x :: .ref 0 :: r) M = (bif zz_b01 x then zz_ev tX12_admitted 183 L r (zz_sI M 0 31 x) else none)) ∧
  (∀ L st M, zz_ev tX12_admitted 183 L st M = zo_pushI 0 184 (zz_ev tX12_admitted) L st M) ∧
  (∀ L st M, zz_ev tX12_admitted 184 L st M = zo_istore 8 186 (zz_ev tX12_admitted) L st M) ∧
  (∀ L st M, zz_ev tX12_admitted 188 L st M = zo_aload 0 189 (zz_ev tX12_admitted) L st M) ∧
  (∀ (L : zzLc) (r : List Value) (M : zzMd), zz_ev tX12_admitted 189 L (.ref 0 :: r) M = zz_ev tX12_admitted 192 L (.int (M.1 0 26) :: r) M) ∧
  (∀ L st M, zz_ev tX12_admitted 192 L st M = zo_icmp (fun x y => decide (y ≤ x)) 251 195 (zz_ev tX12_admitted) L st M) ∧
  (∀ L st M, zz_ev tX12_admitted 195 L st M = zo_aload 0 196 (zz_ev tX12_admitted) L st M) ∧
  (∀ L st M, zz_ev tX12_admitted 196 L st M = zo_aload 0 197 (zz_ev tX12_admitted) L st M) ∧
  (∀ (L : zzLc) (r : List Value) (M : zzMd), zz_ev tX12_admitted 197 L (.ref 0 :: r) M = zz_ev tX12_admitted 200 L (.int (M.1 0 31) :: r) M) ∧
  (∀ L st M, zz_ev tX12_admitted 200 L st M = zo_if (fun x => decide (¬ x = 0)) 237 203 (zz_ev tX12_admitted) L st M) ∧
  (∀ L st M, zz_ev tX12_admitted 203 L st M = zo_aload 0 204 (zz_ev tX12_admitted) L st M) ∧
  (∀ (L : zzLc) (r : List Value) (M : zzMd), zz_ev tX12_admitted 204 L (.ref 0 :: r) M = zz_ev tX12_admitted 207 L (.ref 23 :: r) M) ∧
  (∀ L st M, zz_ev tX12_admitted 207 L st M = zo_iload 8 209 (zz_ev tX12_admitted) L st M) ∧
  (∀ L st M, zz_ev tX12_admitted 209 L st M = zo_iald zzSR zzSTR 210 (zz_ev tX12_admitted) L st M) ∧
  (∀ L st M, zz_ev tX12_admitted 210 L st M = zo_iload 1 211 (zz_ev tX12_admitted) L st M) ∧
  (∀ L st M, zz_ev tX12_admitted 211 L st M = zo_icmp (fun x y => decide (¬ x = y)) 241 214 (zz_ev tX12_admitted) L st M) ∧
  (∀ L st M, zz_ev tX12_admitted 214 L st M = zo_aload 0 215 (zz_ev tX12_admitted) L st M) ∧
  (∀ L st M, zz_ev tX12_admitted 215 L st M = zo_lload 4 217 (zz_ev tX12_admitted) L st M) ∧
  (∀ L st M, zz_ev tX12_admitted 217 L st M = zo_aload 0 218 (zz_ev tX12_admitted) L st M) ∧
  (∀ (L : zzLc) (r : List Value) (M : zzMd), zz_ev tX12_admitted 218 L (.ref 0 :: r) M = zz_ev tX12_admitted 221 L (.ref 24 :: r) M) ∧
  (∀ L st M, zz_ev tX12_admitted 221 L st M = zo_iload 8 223 (zz_ev tX12_admitted) L st M) ∧
  (∀ L st M, zz_ev tX12_admitted 223 L st M = zo_iald zzSR zzSTR 224 (zz_ev tX12_admitted) L st M) ∧
  (∀ (L : zzLc) (a1 : Int32) (a0 : Int64) (r : List Value) (M : zzMd), zz_ev tX12_admitted 224 L (.int a1 :: .long a0 :: .ref 0 :: r) M = bif zz_cat8 r then zz_backN (zz_ev tX12_admitted) 227 L r (fX12_get [.ref 0, .long a0, .int a1] M) else none) ∧
  (∀ L st M, zz_ev tX12_admitted 227 L st M = zo_aload 0 228 (zz_ev tX12_admitted) L st M) ∧
  (∀ (L : zzLc) (r : List Value) (M : zzMd), zz_ev tX12_admitted 228 L (.ref 0 :: r) M = zz_ev tX12_admitted 231 L (.ref 25 :: r) M) ∧
  (∀ L st M, zz_ev tX12_admitted 231 L st M = zo_iload 8 233 (zz_ev tX12_admitted) L st M) ∧
  (∀ L st M, zz_ev tX12_admitted 233 L st M = zo_iald zzSR zzSTR 234 (zz_ev tX12_admitted) L st M) ∧
  (∀ L st M, zz_ev tX12_admitted 234 L st M = zo_icmp (fun x y => decide (x ≤ y)) 241 237 (zz_ev tX12_admitted) L st M) ∧
  (∀ L st M, zz_ev tX12_admitted 237 L st M = zo_pushI 1 238 (zz_ev tX12_admitted) L st M) ∧
  (∀ L st M, zz_ev tX12_admitted 238 L st M = zo_goto 242 (zz_ev tX12_admitted) L st M) ∧
  (∀ L st M, zz_ev tX12_admitted 241 L st M = zo_pushI 0 242 (zz_ev tX12_admitted) L st M) ∧
  (∀ (L : zzLc) (x : Int32) (r : List Value) (M : zzMd), zz_ev tX12_admitted 242 L (.int x :: .ref 0 :: r) M = (bif zz_b01 x then zz_ev tX12_admitted 245 L r (zz_sI M 0 31 x) else none)) ∧
  (∀ L st M, zz_ev tX12_admitted 245 L st M = zo_iinc 8 1 248 (zz_ev tX12_admitted) L st M) ∧
  (∀ L st M, zz_ev tX12_admitted 248 L st M = zo_goto 186 (zz_ev tX12_admitted) L st M) ∧
  (∀ L st M, zz_ev tX12_admitted 251 L st M = zo_lload 4 253 (zz_ev tX12_admitted) L st M) ∧
  (∀ L st M, zz_ev tX12_admitted 253 L st M = zo_lret (zz_ev tX12_admitted) L st M) :=
  ⟨zz_1 rfl tl_X12_admitted, zz_1 rfl tl_X12_admitted, zz_1 rfl tl_X12_admitted, zz_1 rfl tl_X12_admitted, zz_1 rfl tl_X12_admitted, zz_1 rfl tl_X12_admitted, zz_1 rfl tl_X12_admitted, zz_1 rfl tl_X12_admitted, zz_1 rfl tl_X12_admitted, zz_1 rfl tl_X12_admitted, zz_1 rfl tl_X12_admitted, zz_1 rfl tl_X12_admitted, zz_1 rfl tl_X12_admitted, zz_1 rfl tl_X12_admitted, zz_1 rfl tl_X12_admitted, fun L r M => (zz_1 rfl tl_X12_admitted _ _ _).trans rfl, zz_1 rfl tl_X12_admitted, zz_1 rfl tl_X12_admitted, fun L r M => (zz_1 rfl tl_X12_admitted _ _ _).trans rfl, zz_1 rfl tl_X12_admitted, zz_1 rfl tl_X12_admitted, zz_1 rfl tl_X12_admitted, zz_1 rfl tl_X12_admitted, zz_1 rfl tl_X12_admitted, zz_1 rfl tl_X12_admitted, zz_1 rfl tl_X12_admitted, fun L r M => (zz_1 rfl tl_X12_admitted _ _ _).trans rfl, zz_1 rfl tl_X12_admitted, zz_1 rfl tl_X12_admitted, fun L a1 a0 r M => (zz_1 rfl tl_X12_admitted _ _ _).trans rfl, zz_1 rfl tl_X12_admitted, fun L r M => (zz_1 rfl tl_X12_admitted _ _ _).trans rfl, zz_1 rfl tl_X12_admitted, zz_1 rfl tl_X12_admitted, zz_1 rfl tl_X12_admitted, fun L r M => (zz_1 rfl tl_X12_admitted _ _ _).trans rfl, zz_1 rfl tl_X12_admitted, zz_1 rfl tl_X12_admitted, fun L a0 a1 a2 r M => (zz_1 rfl tl_X12_admitted _ _ _).trans rfl, zz_1 rfl tl_X12_admitted, zz_1 rfl tl_X12_admitted, zz_1 rfl tl_X12_admitted, zz_1 rfl tl_X12_admitted, zz_1 rfl tl_X12_admitted, zz_1 rfl tl_X12_admitted, zz_1 rfl tl_X12_admitted, zz_1 rfl tl_X12_admitted, zz_1 rfl tl_X12_admitted, zz_1 rfl tl_X12_admitted, fun L r M => (zz_1 rfl tl_X12_admitted _ _ _).trans rfl, zz_1 rfl tl_X12_admitted, zz_1 rfl tl_X12_admitted, zz_1 rfl tl_X12_admitted, fun L r M => (zz_1 rfl tl_X12_admitted _ _ _).trans rfl, zz_1 rfl tl_X12_admitted, zz_1 rfl tl_X12_admitted, fun L a1 a2 a0 r M => (zz_1 rfl tl_X12_admitted _ _ _).trans rfl, zz_1 rfl tl_X12_admitted, zz_1 rfl tl_X12_admitted, zz_1 rfl tl_X12_admitted, zz_1 rfl tl_X12_admitted, zz_1 rfl tl_X12_admitted, zz_1 rfl tl_X12_admitted, zz_1 rfl tl_X12_admitted, zz_1 rfl tl_X12_admitted, zz_1 rfl tl_X12_admitted, zz_1 rfl tl_X12_admitted, zz_1 rfl tl_X12_admitted, zz_1 rfl tl_X12_admitted, zz_1 rfl tl_X12_admitted, zz_1 rfl tl_X12_admitted, zz_1 rfl tl_X12_admitted, zz_1 rfl tl_X12_admitted, zz_1 rfl tl_X12_admitted, zz_1 rfl tl_X12_admitted, zz_1 rfl tl_X12_admitted, zz_1 rfl tl_X12_admitted, zz_1 rfl tl_X12_admitted, zz_1 rfl tl_X12_admitted, zz_1 rfl tl_X12_admitted, fun L a1 a0 r M => (zz_1 rfl tl_X12_admitted _ _ _).trans rfl, zz_1 rfl tl_X12_admitted, zz_1 rfl tl_X12_admitted, zz_1 rfl tl_X12_admitted, fun L a1 a0 r M => (zz_1 rfl tl_X12_admitted _ _ _).trans rfl, zz_1 rfl tl_X12_admitted, zz_1 rfl tl_X12_admitted, zz_1 rfl tl_X12_admitted, zz_1 rfl tl_X12_admitted, zz_1 rfl tl_X12_admitted, fun L x r M => (zz_1 rfl tl_X12_admitted _ _ _).trans rfl, zz_1 rfl tl_X12_admitted, zz_1 rfl tl_X12_admitted, zz_1 rfl tl_X12_admitted, fun L r M => (zz_1 rfl tl_X12_admitted _ _ _).trans rfl, zz_1 rfl tl_X12_admitted, zz_1 rfl tl_X12_admitted, zz_1 rfl tl_X12_admitted, fun L r M => (zz_1 rfl tl_X12_admitted _ _ _).trans rfl, zz_1 rfl tl_X12_admitted, zz_1 rfl tl_X12_admitted, fun L r M => (zz_1 rfl tl_X12_admitted _ _ _).trans rfl, zz_1 rfl tl_X12_admitted, zz_1 rfl tl_X12_admitted, zz_1 rfl tl_X12_admitted, zz_1 rfl tl_X12_admitted, zz_1 rfl tl_X12_admitted, zz_1 rfl tl_X12_admitted, zz_1 rfl tl_X12_admitted, fun L r M => (zz_1 rfl tl_X12_admitted _ _ _).trans rfl, zz_1 rfl tl_X12_admitted, zz_1 rfl tl_X12_admitted, fun L a1 a0 r M => (zz_1 rfl tl_X12_admitted _ _ _).trans rfl, zz_1 rfl tl_X12_admitted, fun L r M => (zz_1 rfl tl_X12_admitted _ _ _).trans rfl, zz_1 rfl tl_X12_admitted, zz_1 rfl tl_X12_admitted, zz_1 rfl tl_X12_admitted, zz_1 rfl tl_X12_admitted, zz_1 rfl tl_X12_admitted, zz_1 rfl tl_X12_admitted, fun L x r M => (zz_1 rfl tl_X12_admitted _ _ _).trans rfl, zz_1 rfl tl_X12_admitted, zz_1 rfl tl_X12_admitted, zz_1 rfl tl_X12_admitted, zz_1 rfl tl_X12_admitted⟩
set_option maxRecDepth 100000 in
theorem e_X12_admitted_9 : (∀ L st M, zz_ev tX12_admitted 9 L st M = zo_iload 6 11 (zz_ev tX12_admitted) L st M) := zz_1 rfl tl_X12_admitted
set_option maxRecDepth 100000 in
theorem e_X12_admitted_28 : (∀ L st M, zz_ev tX12_admitted 28 L st M = zo_iload 10 30 (zz_ev tX12_admitted) L st M) := zz_1 rfl tl_X12_admitted
set_option maxRecDepth 100000 in
theorem e_X12_admitted_186 : (∀ L st M, zz_ev tX12_admitted 186 L st M = zo_iload 8 188 (zz_ev tX12_admitted) L st M) := zz_1 rfl tl_X12_admitted
set_option maxRecDepth 100000 in
theorem s_X12_admitted (a0 : Int32) (a1 : Int64) (v : Nat) (M : zzMd) : fX12_admitted [.ref v, .int a0, .long a1] M = zz_ev tX12_admitted 0 [some (.ref v), some (.int a0), some (.long a1), none, none, none, none, none, none, none, none, none] [] M := rfl
set_option maxRecDepth 100000 in
theorem e_X12_makes : (∀ L st M, zz_ev tX12_makes 0 L st M = zo_aload 0 1 (zz_ev tX12_makes) L st M) ∧
  (∀ L st M, zz_ev tX12_makes 1 L st M = zo_aload 0 2 (zz_ev tX12_makes) L st M) ∧
  (∀ L st M, zz_ev tX12_makes 2 L st M = zo_aload 0 3 (zz_ev tX12_makes) L st M) ∧
  (∀ L st M, zz_ev tX12_makes 3 L st M = zo_pushL 0 4 (zz_ev tX12_makes) L st M) ∧
  (∀ L st M, zz_ev tX12_makes 4 L st M = zo_pushI 2 5 (zz_ev tX12_makes) L st M) ∧
  (∀ L st M, zz_ev tX12_makes 5 L st M = zo_pushI 1 6 (zz_ev tX12_makes) L st M) ∧
  (∀ (L : zzLc) (a1 a2 : Int32) (a0 : Int64) (r : List Value) (M : zzMd), zz_ev tX12_makes 6 L (.int a2 :: .int a1 :: .long a0 :: .ref 0 :: r) M = bif zz_cat8 r then zz_backN (zz_ev tX12_makes) 9 L r (fX12_with [.ref 0, .long a0, .int a1, .int a2] M) else none) ∧
  (∀ L st M, zz_ev tX12_makes 9 L st M = zo_pushI 7 11 (zz_ev tX12_makes) L st M) ∧
  (∀ L st M, zz_ev tX12_makes 11 L st M = zo_pushI 4 12 (zz_ev tX12_makes) L st M) ∧
  (∀ (L : zzLc) (a1 a2 : Int32) (a0 : Int64) (r : List Value) (M : zzMd), zz_ev tX12_makes 12 L (.int a2 :: .int a1 :: .long a0 :: .ref 0 :: r) M = bif zz_cat8 r then zz_backN (zz_ev tX12_makes) 15 L r (fX12_with [.ref 0, .long a0, .int a1, .int a2] M) else none) ∧
  (∀ L st M, zz_ev tX12_makes 15 L st M = zo_pushI 10 17 (zz_ev tX12_makes) L st M) ∧
  (∀ L st M, zz_ev tX12_makes 17 L st M = zo_pushI 1 18 (zz_ev tX12_makes) L st M) ∧
  (∀ (L : zzLc) (a1 a2 : Int32) (a0 : Int64) (r : List Value) (M : zzMd), zz_ev tX12_makes 18 L (.int a2 :: .int a1 :: .long a0 :: .ref 0 :: r) M = bif zz_cat8 r then zz_backN (zz_ev tX12_makes) 21 L r (fX12_with [.ref 0, .long a0, .int a1, .int a2] M) else none) ∧
  (∀ L st M, zz_ev tX12_makes 21 L st M = zo_lstore 5 23 (zz_ev tX12_makes) L st M) ∧
  (∀ L st M, zz_ev tX12_makes 23 L st M = zo_aload 0 24 (zz_ev tX12_makes) L st M) ∧
  (∀ L st M, zz_ev tX12_makes 24 L st M = zo_iload 2 25 (zz_ev tX12_makes) L st M) ∧
  (∀ L st M, zz_ev tX12_makes 25 L st M = zo_aload 0 26 (zz_ev tX12_makes) L st M) ∧
  (∀ L st M, zz_ev tX12_makes 26 L st M = zo_aload 0 27 (zz_ev tX12_makes) L st M) ∧
  (∀ L st M, zz_ev tX12_makes 27 L st M = zo_aload 0 28 (zz_ev tX12_makes) L st M) ∧
  (∀ L st M, zz_ev tX12_makes 28 L st M = zo_lload 5 30 (zz_ev tX12_makes) L st M) ∧
  (∀ L st M, zz_ev tX12_makes 30 L st M = zo_pushI 14 32 (zz_ev tX12_makes) L st M) ∧
  (∀ L st M, zz_ev tX12_makes 32 L st M = zo_pushI 1 33 (zz_ev tX12_makes) L st M) ∧
  (∀ (L : zzLc) (a1 a2 : Int32) (a0 : Int64) (r : List Value) (M : zzMd), zz_ev tX12_makes 33 L (.int a2 :: .int a1 :: .long a0 :: .ref 0 :: r) M = bif zz_cat8 r then zz_backN (zz_ev tX12_makes) 36 L r (fX12_with [.ref 0, .long a0, .int a1, .int a2] M) else none) ∧
  (∀ L st M, zz_ev tX12_makes 36 L st M = zo_pushI 11 38 (zz_ev tX12_makes) L st M) ∧
  (∀ L st M, zz_ev tX12_makes 38 L st M = zo_iload 3 39 (zz_ev tX12_makes) L st M) ∧
  (∀ L st M, zz_ev tX12_makes 39 L st M = zo_pushI 1 40 (zz_ev tX12_makes) L st M) ∧
  (∀ L st M, zz_ev tX12_makes 40 L st M = zo_ii (fun x y => x + y) 41 (zz_ev tX12_makes) L st M) ∧
  (∀ (L : zzLc) (a1 a2 : Int32) (a0 : Int64) (r : List Value) (M : zzMd), zz_ev tX12_makes 41 L (.int a2 :: .int a1 :: .long a0 :: .ref 0 :: r) M = bif zz_cat8 r then zz_backN (zz_ev tX12_makes) 44 L r (fX12_with [.ref 0, .long a0, .int a1, .int a2] M) else none) ∧
  (∀ L st M, zz_ev tX12_makes 44 L st M = zo_pushI 1 45 (zz_ev tX12_makes) L st M) ∧
  (∀ L st M, zz_ev tX12_makes 45 L st M = zo_iload 4 47 (zz_ev tX12_makes) L st M) ∧
  (∀ (L : zzLc) (a1 a2 : Int32) (a0 : Int64) (r : List Value) (M : zzMd), zz_ev tX12_makes 47 L (.int a2 :: .int a1 :: .long a0 :: .ref 0 :: r) M = bif zz_cat8 r then zz_backN (zz_ev tX12_makes) 50 L r (fX12_with [.ref 0, .long a0, .int a1, .int a2] M) else none) ∧
  (∀ (L : zzLc) (a0 : Int32) (a1 : Int64) (r : List Value) (M : zzMd), zz_ev tX12_makes 50 L (.long a1 :: .int a0 :: .ref 0 :: r) M = bif zz_cat8 r then zz_backN (zz_ev tX12_makes) 53 L r (fX12_admitted [.ref 0, .int a0, .long a1] M) else none) ∧
  (∀ L st M, zz_ev tX12_makes 53 L st M = zo_lstore 5 55 (zz_ev tX12_makes) L st M) ∧
  (∀ L st M, zz_ev tX12_makes 55 L st M = zo_aload 0 56 (zz_ev tX12_makes) L st M) ∧
  (∀ (L : zzLc) (r : List Value) (M : zzMd), zz_ev tX12_makes 56 L (.ref 0 :: r) M = zz_ev tX12_makes 59 L (.int (M.1 0 31) :: r) M) ∧
  (∀ L st M, zz_ev tX12_makes 59 L st M = zo_if (fun x => decide (¬ x = 0)) 95 62 (zz_ev tX12_makes) L st M) ∧
  (∀ L st M, zz_ev tX12_makes 62 L st M = zo_aload 0 63 (zz_ev tX12_makes) L st M) ∧
  (∀ (L : zzLc) (r : List Value) (M : zzMd), zz_ev tX12_makes 63 L (.ref 0 :: r) M = zz_ev tX12_makes 66 L (.int (M.1 0 5) :: r) M) ∧
  (∀ L st M, zz_ev tX12_makes 66 L st M = zo_pushI 60 68 (zz_ev tX12_makes) L st M) ∧
  (∀ L st M, zz_ev tX12_makes 68 L st M = zo_icmp (fun x y => decide (x = y)) 95 71 (zz_ev tX12_makes) L st M) ∧
  (∀ L st M, zz_ev tX12_makes 71 L st M = zo_aload 0 72 (zz_ev tX12_makes) L st M) ∧
  (∀ (L : zzLc) (r : List Value) (M : zzMd), zz_ev tX12_makes 72 L (.ref 0 :: r) M = bif zz_cat8 r then zz_backN (zz_ev tX12_makes) 75 L r (fX12_isFull [.ref 0] M) else none) ∧
  (∀ L st M, zz_ev tX12_makes 75 L st M = zo_if (fun x => decide (¬ x = 0)) 95 78 (zz_ev tX12_makes) L st M) ∧
  (∀ L st M, zz_ev tX12_makes 78 L st M = zo_iload 2 79 (zz_ev tX12_makes) L st M) ∧
  (∀ L st M, zz_ev tX12_makes 79 L st M = zo_pushI 2 80 (zz_ev tX12_makes) L st M) ∧
  (∀ L st M, zz_ev tX12_makes 80 L st M = zo_icmp (fun x y => decide (¬ x = y)) 99 83 (zz_ev tX12_makes) L st M) ∧
  (∀ L st M, zz_ev tX12_makes 83 L st M = zo_aload 0 84 (zz_ev tX12_makes) L st M) ∧
  (∀ L st M, zz_ev tX12_makes 84 L st M = zo_pushI 2 85 (zz_ev tX12_makes) L st M) ∧
  (∀ (L : zzLc) (a0 : Int32) (r : List Value) (M : zzMd), zz_ev tX12_makes 85 L (.int a0 :: .ref 0 :: r) M = bif zz_cat8 r then zz_backN (zz_ev tX12_makes) 88 L r (fX12_living [.ref 0, .int a0] M) else none) ∧
  (∀ L st M, zz_ev tX12_makes 88 L st M = zo_aload 0 89 (zz_ev tX12_makes) L st M) ∧
  (∀ (L : zzLc) (r : List Value) (M : zzMd), zz_ev tX12_makes 89 L (.ref 0 :: r) M = zz_ev tX12_makes 92 L (.int (M.1 0 30) :: r) M) ∧
  (∀ L st M, zz_ev tX12_makes 92 L st M = zo_icmp (fun x y => decide (x < y)) 99 95 (zz_ev tX12_makes) L st M) ∧
  (∀ L st M, zz_ev tX12_makes 95 L st M = zo_pushI 1 96 (zz_ev tX12_makes) L st M) ∧
  (∀ L st M, zz_ev tX12_makes 96 L st M = zo_goto 100 (zz_ev tX12_makes) L st M) ∧
  (∀ L st M, zz_ev tX12_makes 99 L st M = zo_pushI 0 100 (zz_ev tX12_makes) L st M) ∧
  (∀ L st M, zz_ev tX12_makes 100 L st M = zo_istore 7 102 (zz_ev tX12_makes) L st M) ∧
  (∀ L st M, zz_ev tX12_makes 102 L st M = zo_iload 7 104 (zz_ev tX12_makes) L st M) ∧
  (∀ L st M, zz_ev tX12_makes 104 L st M = zo_if (fun x => decide (x = 0)) 109 107 (zz_ev tX12_makes) L st M) ∧
  (∀ L st M, zz_ev tX12_makes 107 L st M = zo_pushI (-1) 108 (zz_ev tX12_makes) L st M) ∧
  (∀ L st M, zz_ev tX12_makes 108 L st M = zo_iret false (zz_ev tX12_makes) L st M) ∧
  (∀ L st M, zz_ev tX12_makes 109 L st M = zo_aload 0 110 (zz_ev tX12_makes) L st M) ∧
  (∀ (L : zzLc) (r : List Value) (M : zzMd), zz_ev tX12_makes 110 L (.ref 0 :: r) M = zz_ev tX12_makes 113 L (.ref 6 :: r) M) ∧
  (∀ L st M, zz_ev tX12_makes 113 L st M = zo_aload 0 114 (zz_ev tX12_makes) L st M) ∧
  (∀ (L : zzLc) (r : List Value) (M : zzMd), zz_ev tX12_makes 114 L (.ref 0 :: r) M = zz_ev tX12_makes 117 L (.int (M.1 0 5) :: r) M) ∧
  (∀ L st M, zz_ev tX12_makes 117 L st M = zo_iload 2 118 (zz_ev tX12_makes) L st M) ∧
  (∀ L st M, zz_ev tX12_makes 118 L st M = zo_iast zzSR 119 (zz_ev tX12_makes) L st M) ∧
  (∀ L st M, zz_ev tX12_makes 119 L st M = zo_aload 0 120 (zz_ev tX12_makes) L st M) ∧
  (∀ (L : zzLc) (r : List Value) (M : zzMd), zz_ev tX12_makes 120 L (.ref 0 :: r) M = zz_ev tX12_makes 123 L (.ref 11 :: r) M) ∧
  (∀ L st M, zz_ev tX12_makes 123 L st M = zo_aload 0 124 (zz_ev tX12_makes) L st M) ∧
  (∀ (L : zzLc) (r : List Value) (M : zzMd), zz_ev tX12_makes 124 L (.ref 0 :: r) M = zz_ev tX12_makes 127 L (.int (M.1 0 5) :: r) M) ∧
  (∀ L st M, zz_ev tX12_makes 127 L st M = zo_aload 0 128 (zz_ev tX12_makes) L st M) ∧
  (∀ (L : zzLc) (r : List Value) (M : zzMd), zz_ev tX12_makes 128 L (.ref 0 :: r) M = zz_ev tX12_makes 131 L (.int (M.1 0 48) :: r) M) ∧
  (∀ L st M, zz_ev tX12_makes 131 L st M = zo_iast zzSR 132 (zz_ev tX12_makes) L st M) ∧
  (∀ L st M, zz_ev tX12_makes 132 L st M = zo_pushI 0 133 (zz_ev tX12_makes) L st M) ∧
  (∀ L st M, zz_ev tX12_makes 133 L st M = zo_istore 8 135 (zz_ev tX12_makes) L st M) ∧
  (∀ L st M, zz_ev tX12_makes 137 L st M = zo_pushI 11 139 (zz_ev tX12_makes) L st M) ∧
  (∀ L st M, zz_ev tX12_makes 139 L st M = zo_icmp (fun x y => decide (y ≤ x)) 164 142 (zz_ev tX12_makes) L st M) ∧
  (∀ L st M, zz_ev tX12_makes 142 L st M = zo_aload 0 143 (zz_ev tX12_makes) L st M) ∧
  (∀ (L : zzLc) (r : List Value) (M : zzMd), zz_ev tX12_makes 143 L (.ref 0 :: r) M = zz_ev tX12_makes 146 L (.ref 10 :: r) M) ∧
  (∀ L st M, zz_ev tX12_makes 146 L st M = zo_pushI 11 148 (zz_ev tX12_makes) L st M) ∧
  (∀ L st M, zz_ev tX12_makes 148 L st M = zo_aload 0 149 (zz_ev tX12_makes) L st M) ∧
  (∀ (L : zzLc) (r : List Value) (M : zzMd), zz_ev tX12_makes 149 L (.ref 0 :: r) M = zz_ev tX12_makes 152 L (.int (M.1 0 5) :: r) M) ∧
  (∀ L st M, zz_ev tX12_makes 152 L st M = zo_ii (fun x y => x * y) 153 (zz_ev tX12_makes) L st M) ∧
  (∀ L st M, zz_ev tX12_makes 153 L st M = zo_iload 8 155 (zz_ev tX12_makes) L st M) ∧
  (∀ L st M, zz_ev tX12_makes 155 L st M = zo_ii (fun x y => x + y) 156 (zz_ev tX12_makes) L st M) ∧
  (∀ L st M, zz_ev tX12_makes 156 L st M = zo_iload 1 157 (zz_ev tX12_makes) L st M) ∧
  (∀ L st M, zz_ev tX12_makes 157 L st M = zo_iast zzSR 158 (zz_ev tX12_makes) L st M) ∧
  (∀ L st M, zz_ev tX12_makes 158 L st M = zo_iinc 8 1 161 (zz_ev tX12_makes) L st M) ∧
  (∀ L st M, zz_ev tX12_makes 161 L st M = zo_goto 135 (zz_ev tX12_makes) L st M) ∧
  (∀ L st M, zz_ev tX12_makes 164 L st M = zo_aload 0 165 (zz_ev tX12_makes) L st M) ∧
  (∀ L st M, zz_ev tX12_makes 165 L st M = zo_dup 166 (zz_ev tX12_makes) L st M) ∧
  (∀ (L : zzLc) (r : List Value) (M : zzMd), zz_ev tX12_makes 166 L (.ref 0 :: r) M = zz_ev tX12_makes 169 L (.int (M.1 0 5) :: r) M) ∧
  (∀ L st M, zz_ev tX12_makes 169 L st M = zo_pushI 1 170 (zz_ev tX12_makes) L st M) ∧
  (∀ L st M, zz_ev tX12_makes 170 L st M = zo_ii (fun x y => x + y) 171 (zz_ev tX12_makes) L st M) ∧
  (∀ (L : zzLc) (x : Int32) (r : List Value) (M : zzMd), zz_ev tX12_makes 171 L (.int x :: .ref 0 :: r) M = zz_ev tX12_makes 174 L r (zz_sI M 0 5 x)) ∧
  (∀ L st M, zz_ev tX12_makes 174 L st M = zo_aload 0 175 (zz_ev tX12_makes) L st M) ∧
  (∀ L st M, zz_ev tX12_makes 175 L st M = zo_aload 0 176 (zz_ev tX12_makes) L st M) ∧
  (∀ (L : zzLc) (r : List Value) (M : zzMd), zz_ev tX12_makes 176 L (.ref 0 :: r) M = zz_ev tX12_makes 179 L (.int (M.1 0 5) :: r) M) ∧
  (∀ L st M, zz_ev tX12_makes 179 L st M = zo_pushI 1 180 (zz_ev tX12_makes) L st M) ∧
  (∀ L st M, zz_ev tX12_makes 180 L st M = zo_ii (fun x y => x - y) 181 (zz_ev tX12_makes) L st M) ∧
  (∀ L st M, zz_ev tX12_makes 181 L st M = zo_lload 5 183 (zz_ev tX12_makes) L st M) ∧
  (∀ L st M, zz_ev tX12_makes 183 L st M = zo_pushL 0 184 (zz_ev tX12_makes) L st M) ∧
  (∀ (L : zzLc) (a0 : Int32) (a1 a2 : Int64) (r : List Value) (M : zzMd), zz_ev tX12_makes 184 L (.long a2 :: .long a1 :: .int a0 :: .ref 0 :: r) M = bif zz_cat8 r then zz_backN (zz_ev tX12_makes) 187 L r (fX12_logs [.ref 0, .int a0, .long a1, .long a2] M) else none) ∧
  (∀ L st M, zz_ev tX12_makes 187 L st M = zo_aload 0 188 (zz_ev tX12_makes) L st M) ∧
  (∀ (L : zzLc) (r : List Value) (M : zzMd), zz_ev tX12_makes 188 L (.ref 0 :: r) M = zz_ev tX12_makes 191 L (.int (M.1 0 5) :: r) M) ∧
  (∀ L st M, zz_ev tX12_makes 191 L st M = zo_pushI 1 192 (zz_ev tX12_makes) L st M) ∧
  (∀ L st M, zz_ev tX12_makes 192 L st M = zo_ii (fun x y => x - y) 193 (zz_ev tX12_makes) L st M) ∧
  (∀ L st M, zz_ev tX12_makes 193 L st M = zo_iret false (zz_ev tX12_makes) L st M) :=
  ⟨zz_1 rfl tl_X12_makes, zz_1 rfl tl_X12_makes, zz_1 rfl tl_X12_makes, zz_1 rfl tl_X12_makes, zz_1 rfl tl_X12_makes, zz_1 rfl tl_X12_makes, fun L a1 a2 a0 r M => (zz_1 rfl tl_X12_makes _ _ _).trans rfl, zz_1 rfl tl_X12_makes, zz_1 rfl tl_X12_makes, fun L a1 a2 a0 r M => (zz_1 rfl tl_X12_makes _ _ _).trans rfl, zz_1 rfl tl_X12_makes, zz_1 rfl tl_X12_makes, fun L a1 a2 a0 r M => (zz_1 rfl tl_X12_makes _ _ _).trans rfl, zz_1 rfl tl_X12_makes, zz_1 rfl tl_X12_makes, zz_1 rfl tl_X12_makes, zz_1 rfl tl_X12_makes, zz_1 rfl tl_X12_makes, zz_1 rfl tl_X12_makes, zz_1 rfl tl_X12_makes, zz_1 rfl tl_X12_makes, zz_1 rfl tl_X12_makes, fun L a1 a2 a0 r M => (zz_1 rfl tl_X12_makes _ _ _).trans rfl, zz_1 rfl tl_X12_makes, zz_1 rfl tl_X12_makes, zz_1 rfl tl_X12_makes, zz_1 rfl tl_X12_makes, fun L a1 a2 a0 r M => (zz_1 rfl tl_X12_makes _ _ _).trans rfl, zz_1 rfl tl_X12_makes, zz_1 rfl tl_X12_makes, fun L a1 a2 a0 r M => (zz_1 rfl tl_X12_makes _ _ _).trans rfl, fun L a0 a1 r M => (zz_1 rfl tl_X12_makes _ _ _).trans rfl, zz_1 rfl tl_X12_makes, zz_1 rfl tl_X12_makes, fun L r M => (zz_1 rfl tl_X12_makes _ _ _).trans rfl, zz_1 rfl tl_X12_makes, zz_1 rfl tl_X12_makes, fun L r M => (zz_1 rfl tl_X12_makes _ _ _).trans rfl, zz_1 rfl tl_X12_makes, zz_1 rfl tl_X12_makes, zz_1 rfl tl_X12_makes, fun L  r M => (zz_1 rfl tl_X12_makes _ _ _).trans rfl, zz_1 rfl tl_X12_makes, zz_1 rfl tl_X12_makes, zz_1 rfl tl_X12_makes, zz_1 rfl tl_X12_makes, zz_1 rfl tl_X12_makes, zz_1 rfl tl_X12_makes, fun L a0 r M => (zz_1 rfl tl_X12_makes _ _ _).trans rfl, zz_1 rfl tl_X12_makes, fun L r M => (zz_1 rfl tl_X12_makes _ _ _).trans rfl, zz_1 rfl tl_X12_makes, zz_1 rfl tl_X12_makes, zz_1 rfl tl_X12_makes, zz_1 rfl tl_X12_makes, zz_1 rfl tl_X12_makes, zz_1 rfl tl_X12_makes, zz_1 rfl tl_X12_makes, zz_1 rfl tl_X12_makes, zz_1 rfl tl_X12_makes, zz_1 rfl tl_X12_makes, fun L r M => (zz_1 rfl tl_X12_makes _ _ _).trans rfl, zz_1 rfl tl_X12_makes, fun L r M => (zz_1 rfl tl_X12_makes _ _ _).trans rfl, zz_1 rfl tl_X12_makes, zz_1 rfl tl_X12_makes, zz_1 rfl tl_X12_makes, fun L r M => (zz_1 rfl tl_X12_makes _ _ _).trans rfl, zz_1 rfl tl_X12_makes, fun L r M => (zz_1 rfl tl_X12_makes _ _ _).trans rfl, zz_1 rfl tl_X12_makes, fun L r M => (zz_1 rfl tl_X12_makes _ _ _).trans rfl, zz_1 rfl tl_X12_makes, zz_1 rfl tl_X12_makes, zz_1 rfl tl_X12_makes, zz_1 rfl tl_X12_makes, zz_1 rfl tl_X12_makes, zz_1 rfl tl_X12_makes, fun L r M => (zz_1 rfl tl_X12_makes _ _ _).trans rfl, zz_1 rfl tl_X12_makes, zz_1 rfl tl_X12_makes, fun L r M => (zz_1 rfl tl_X12_makes _ _ _).trans rfl, zz_1 rfl tl_X12_makes, zz_1 rfl tl_X12_makes, zz_1 rfl tl_X12_makes, zz_1 rfl tl_X12_makes, zz_1 rfl tl_X12_makes, zz_1 rfl tl_X12_makes, zz_1 rfl tl_X12_makes, zz_1 rfl tl_X12_makes, zz_1 rfl tl_X12_makes, fun L r M => (zz_1 rfl tl_X12_makes _ _ _).trans rfl, zz_1 rfl tl_X12_makes, zz_1 rfl tl_X12_makes, fun L x r M => (zz_1 rfl tl_X12_makes _ _ _).trans rfl, zz_1 rfl tl_X12_makes, zz_1 rfl tl_X12_makes, fun L r M => (zz_1 rfl tl_X12_makes _ _ _).trans rfl, zz_1 rfl tl_X12_makes, zz_1 rfl tl_X12_makes, zz_1 rfl tl_X12_makes, zz_1 rfl tl_X12_makes, fun L a0 a1 a2 r M => (zz_1 rfl tl_X12_makes _ _ _).trans rfl, zz_1 rfl tl_X12_makes, fun L r M => (zz_1 rfl tl_X12_makes _ _ _).trans rfl, zz_1 rfl tl_X12_makes, zz_1 rfl tl_X12_makes, zz_1 rfl tl_X12_makes⟩
set_option maxRecDepth 100000 in
theorem e_X12_makes_135 : (∀ L st M, zz_ev tX12_makes 135 L st M = zo_iload 8 137 (zz_ev tX12_makes) L st M) := zz_1 rfl tl_X12_makes
set_option maxRecDepth 100000 in
theorem s_X12_makes (a0 a1 a2 a3 : Int32) (v : Nat) (M : zzMd) : fX12_makes [.ref v, .int a0, .int a1, .int a2, .int a3] M = zz_ev tX12_makes 0 [some (.ref v), some (.int a0), some (.int a1), some (.int a2), some (.int a3), none, none, none, none] [] M := rfl
set_option maxRecDepth 100000 in
theorem e_X12_applies : (∀ L st M, zz_ev tX12_applies 0 L st M = zo_aload 0 1 (zz_ev tX12_applies) L st M) ∧
  (∀ L st M, zz_ev tX12_applies 1 L st M = zo_aload 0 2 (zz_ev tX12_applies) L st M) ∧
  (∀ (L : zzLc) (r : List Value) (M : zzMd), zz_ev tX12_applies 2 L (.ref 0 :: r) M = zz_ev tX12_applies 5 L (.ref 6 :: r) M) ∧
  (∀ L st M, zz_ev tX12_applies 5 L st M = zo_iload 2 6 (zz_ev tX12_applies) L st M) ∧
  (∀ L st M, zz_ev tX12_applies 6 L st M = zo_iald zzSR zzSTR 7 (zz_ev tX12_applies) L st M) ∧
  (∀ L st M, zz_ev tX12_applies 7 L st M = zo_aload 0 8 (zz_ev tX12_applies) L st M) ∧
  (∀ L st M, zz_ev tX12_applies 8 L st M = zo_aload 0 9 (zz_ev tX12_applies) L st M) ∧
  (∀ (L : zzLc) (r : List Value) (M : zzMd), zz_ev tX12_applies 9 L (.ref 0 :: r) M = zz_ev tX12_applies 12 L (.ref 7 :: r) M) ∧
  (∀ L st M, zz_ev tX12_applies 12 L st M = zo_iload 2 13 (zz_ev tX12_applies) L st M) ∧
  (∀ L st M, zz_ev tX12_applies 13 L st M = zo_lald zzSR 14 (zz_ev tX12_applies) L st M) ∧
  (∀ L st M, zz_ev tX12_applies 14 L st M = zo_iload 3 15 (zz_ev tX12_applies) L st M) ∧
  (∀ L st M, zz_ev tX12_applies 15 L st M = zo_iload 4 17 (zz_ev tX12_applies) L st M) ∧
  (∀ (L : zzLc) (a1 a2 : Int32) (a0 : Int64) (r : List Value) (M : zzMd), zz_ev tX12_applies 17 L (.int a2 :: .int a1 :: .long a0 :: .ref 0 :: r) M = bif zz_cat8 r then zz_backN (zz_ev tX12_applies) 20 L r (fX12_with [.ref 0, .long a0, .int a1, .int a2] M) else none) ∧
  (∀ (L : zzLc) (a0 : Int32) (a1 : Int64) (r : List Value) (M : zzMd), zz_ev tX12_applies 20 L (.long a1 :: .int a0 :: .ref 0 :: r) M = bif zz_cat8 r then zz_backN (zz_ev tX12_applies) 23 L r (fX12_admitted [.ref 0, .int a0, .long a1] M) else none) ∧
  (∀ L st M, zz_ev tX12_applies 23 L st M = zo_lstore 5 25 (zz_ev tX12_applies) L st M) ∧
  (∀ L st M, zz_ev tX12_applies 25 L st M = zo_aload 0 26 (zz_ev tX12_applies) L st M) ∧
  (∀ (L : zzLc) (r : List Value) (M : zzMd), zz_ev tX12_applies 26 L (.ref 0 :: r) M = zz_ev tX12_applies 29 L (.ref 10 :: r) M) ∧
  (∀ L st M, zz_ev tX12_applies 29 L st M = zo_pushI 11 31 (zz_ev tX12_applies) L st M) ∧
  (∀ L st M, zz_ev tX12_applies 31 L st M = zo_iload 2 32 (zz_ev tX12_applies) L st M) ∧
  (∀ L st M, zz_ev tX12_applies 32 L st M = zo_ii (fun x y => x * y) 33 (zz_ev tX12_applies) L st M) ∧
  (∀ L st M, zz_ev tX12_applies 33 L st M = zo_iload 3 34 (zz_ev tX12_applies) L st M) ∧
  (∀ L st M, zz_ev tX12_applies 34 L st M = zo_ii (fun x y => x + y) 35 (zz_ev tX12_applies) L st M) ∧
  (∀ L st M, zz_ev tX12_applies 35 L st M = zo_iald zzSR zzSTR 36 (zz_ev tX12_applies) L st M) ∧
  (∀ L st M, zz_ev tX12_applies 36 L st M = zo_iload 1 37 (zz_ev tX12_applies) L st M) ∧
  (∀ L st M, zz_ev tX12_applies 37 L st M = zo_icmp (fun x y => decide (x = y)) 44 40 (zz_ev tX12_applies) L st M) ∧
  (∀ L st M, zz_ev tX12_applies 40 L st M = zo_pushI 1 41 (zz_ev tX12_applies) L st M) ∧
  (∀ L st M, zz_ev tX12_applies 41 L st M = zo_goto 45 (zz_ev tX12_applies) L st M) ∧
  (∀ L st M, zz_ev tX12_applies 44 L st M = zo_pushI 0 45 (zz_ev tX12_applies) L st M) ∧
  (∀ L st M, zz_ev tX12_applies 45 L st M = zo_istore 7 47 (zz_ev tX12_applies) L st M) ∧
  (∀ L st M, zz_ev tX12_applies 47 L st M = zo_aload 0 48 (zz_ev tX12_applies) L st M) ∧
  (∀ (L : zzLc) (r : List Value) (M : zzMd), zz_ev tX12_applies 48 L (.ref 0 :: r) M = zz_ev tX12_applies 51 L (.int (M.1 0 31) :: r) M) ∧
  (∀ L st M, zz_ev tX12_applies 51 L st M = zo_if (fun x => decide (¬ x = 0)) 72 54 (zz_ev tX12_applies) L st M) ∧
  (∀ L st M, zz_ev tX12_applies 54 L st M = zo_aload 0 55 (zz_ev tX12_applies) L st M) ∧
  (∀ L st M, zz_ev tX12_applies 55 L st M = zo_iload 2 56 (zz_ev tX12_applies) L st M) ∧
  (∀ L st M, zz_ev tX12_applies 56 L st M = zo_lload 5 58 (zz_ev tX12_applies) L st M) ∧
  (∀ L st M, zz_ev tX12_applies 58 L st M = zo_aload 0 59 (zz_ev tX12_applies) L st M) ∧
  (∀ (L : zzLc) (r : List Value) (M : zzMd), zz_ev tX12_applies 59 L (.ref 0 :: r) M = zz_ev tX12_applies 62 L (.ref 8 :: r) M) ∧
  (∀ L st M, zz_ev tX12_applies 62 L st M = zo_iload 2 63 (zz_ev tX12_applies) L st M) ∧
  (∀ L st M, zz_ev tX12_applies 63 L st M = zo_lald zzSR 64 (zz_ev tX12_applies) L st M) ∧
  (∀ L st M, zz_ev tX12_applies 64 L st M = zo_iload 7 66 (zz_ev tX12_applies) L st M) ∧
  (∀ (L : zzLc) (a0 a3 : Int32) (a1 a2 : Int64) (r : List Value) (M : zzMd), zz_ev tX12_applies 66 L (.int a3 :: .long a2 :: .long a1 :: .int a0 :: .ref 0 :: r) M = bif zz_cat8 r then zz_backN (zz_ev tX12_applies) 69 L r (fX12_puts [.ref 0, .int a0, .long a1, .long a2, .int a3] M) else none) ∧
  (∀ L st M, zz_ev tX12_applies 69 L st M = zo_if (fun x => decide (¬ x = 0)) 74 72 (zz_ev tX12_applies) L st M) ∧
  (∀ L st M, zz_ev tX12_applies 72 L st M = zo_pushI 0 73 (zz_ev tX12_applies) L st M) ∧
  (∀ L st M, zz_ev tX12_applies 73 L st M = zo_iret true (zz_ev tX12_applies) L st M) ∧
  (∀ L st M, zz_ev tX12_applies 74 L st M = zo_aload 0 75 (zz_ev tX12_applies) L st M) ∧
  (∀ (L : zzLc) (r : List Value) (M : zzMd), zz_ev tX12_applies 75 L (.ref 0 :: r) M = zz_ev tX12_applies 78 L (.ref 10 :: r) M) ∧
  (∀ L st M, zz_ev tX12_applies 78 L st M = zo_pushI 11 80 (zz_ev tX12_applies) L st M) ∧
  (∀ L st M, zz_ev tX12_applies 80 L st M = zo_iload 2 81 (zz_ev tX12_applies) L st M) ∧
  (∀ L st M, zz_ev tX12_applies 81 L st M = zo_ii (fun x y => x * y) 82 (zz_ev tX12_applies) L st M) ∧
  (∀ L st M, zz_ev tX12_applies 82 L st M = zo_iload 3 83 (zz_ev tX12_applies) L st M) ∧
  (∀ L st M, zz_ev tX12_applies 83 L st M = zo_ii (fun x y => x + y) 84 (zz_ev tX12_applies) L st M) ∧
  (∀ L st M, zz_ev tX12_applies 84 L st M = zo_iload 1 85 (zz_ev tX12_applies) L st M) ∧
  (∀ L st M, zz_ev tX12_applies 85 L st M = zo_iast zzSR 86 (zz_ev tX12_applies) L st M) ∧
  (∀ L st M, zz_ev tX12_applies 86 L st M = zo_pushI 1 87 (zz_ev tX12_applies) L st M) ∧
  (∀ L st M, zz_ev tX12_applies 87 L st M = zo_iret true (zz_ev tX12_applies) L st M) :=
  ⟨zz_1 rfl tl_X12_applies, zz_1 rfl tl_X12_applies, fun L r M => (zz_1 rfl tl_X12_applies _ _ _).trans rfl, zz_1 rfl tl_X12_applies, zz_1 rfl tl_X12_applies, zz_1 rfl tl_X12_applies, zz_1 rfl tl_X12_applies, fun L r M => (zz_1 rfl tl_X12_applies _ _ _).trans rfl, zz_1 rfl tl_X12_applies, zz_1 rfl tl_X12_applies, zz_1 rfl tl_X12_applies, zz_1 rfl tl_X12_applies, fun L a1 a2 a0 r M => (zz_1 rfl tl_X12_applies _ _ _).trans rfl, fun L a0 a1 r M => (zz_1 rfl tl_X12_applies _ _ _).trans rfl, zz_1 rfl tl_X12_applies, zz_1 rfl tl_X12_applies, fun L r M => (zz_1 rfl tl_X12_applies _ _ _).trans rfl, zz_1 rfl tl_X12_applies, zz_1 rfl tl_X12_applies, zz_1 rfl tl_X12_applies, zz_1 rfl tl_X12_applies, zz_1 rfl tl_X12_applies, zz_1 rfl tl_X12_applies, zz_1 rfl tl_X12_applies, zz_1 rfl tl_X12_applies, zz_1 rfl tl_X12_applies, zz_1 rfl tl_X12_applies, zz_1 rfl tl_X12_applies, zz_1 rfl tl_X12_applies, zz_1 rfl tl_X12_applies, fun L r M => (zz_1 rfl tl_X12_applies _ _ _).trans rfl, zz_1 rfl tl_X12_applies, zz_1 rfl tl_X12_applies, zz_1 rfl tl_X12_applies, zz_1 rfl tl_X12_applies, zz_1 rfl tl_X12_applies, fun L r M => (zz_1 rfl tl_X12_applies _ _ _).trans rfl, zz_1 rfl tl_X12_applies, zz_1 rfl tl_X12_applies, zz_1 rfl tl_X12_applies, fun L a0 a3 a1 a2 r M => (zz_1 rfl tl_X12_applies _ _ _).trans rfl, zz_1 rfl tl_X12_applies, zz_1 rfl tl_X12_applies, zz_1 rfl tl_X12_applies, zz_1 rfl tl_X12_applies, fun L r M => (zz_1 rfl tl_X12_applies _ _ _).trans rfl, zz_1 rfl tl_X12_applies, zz_1 rfl tl_X12_applies, zz_1 rfl tl_X12_applies, zz_1 rfl tl_X12_applies, zz_1 rfl tl_X12_applies, zz_1 rfl tl_X12_applies, zz_1 rfl tl_X12_applies, zz_1 rfl tl_X12_applies, zz_1 rfl tl_X12_applies⟩
set_option maxRecDepth 100000 in
theorem s_X12_applies (a0 a1 a2 a3 : Int32) (v : Nat) (M : zzMd) : fX12_applies [.ref v, .int a0, .int a1, .int a2, .int a3] M = zz_ev tX12_applies 0 [some (.ref v), some (.int a0), some (.int a1), some (.int a2), some (.int a3), none, none, none] [] M := rfl
set_option maxRecDepth 100000 in
theorem e_X12_deleted : (∀ L st M, zz_ev tX12_deleted 0 L st M = zo_iload 4 2 (zz_ev tX12_deleted) L st M) ∧
  (∀ L st M, zz_ev tX12_deleted 2 L st M = zo_pushI 2 3 (zz_ev tX12_deleted) L st M) ∧
  (∀ L st M, zz_ev tX12_deleted 3 L st M = zo_icmp (fun x y => decide (¬ x = y)) 40 6 (zz_ev tX12_deleted) L st M) ∧
  (∀ L st M, zz_ev tX12_deleted 6 L st M = zo_aload 0 7 (zz_ev tX12_deleted) L st M) ∧
  (∀ L st M, zz_ev tX12_deleted 7 L st M = zo_lload 2 8 (zz_ev tX12_deleted) L st M) ∧
  (∀ L st M, zz_ev tX12_deleted 8 L st M = zo_pushI 12 10 (zz_ev tX12_deleted) L st M) ∧
  (∀ (L : zzLc) (a1 : Int32) (a0 : Int64) (r : List Value) (M : zzMd), zz_ev tX12_deleted 10 L (.int a1 :: .long a0 :: .ref 0 :: r) M = bif zz_cat8 r then zz_backN (zz_ev tX12_deleted) 13 L r (fX12_get [.ref 0, .long a0, .int a1] M) else none) ∧
  (∀ L st M, zz_ev tX12_deleted 13 L st M = zo_if (fun x => decide (¬ x = 0)) 40 16 (zz_ev tX12_deleted) L st M) ∧
  (∀ L st M, zz_ev tX12_deleted 16 L st M = zo_aload 0 17 (zz_ev tX12_deleted) L st M) ∧
  (∀ (L : zzLc) (r : List Value) (M : zzMd), zz_ev tX12_deleted 17 L (.ref 0 :: r) M = zz_ev tX12_deleted 20 L (.ref 6 :: r) M) ∧
  (∀ L st M, zz_ev tX12_deleted 20 L st M = zo_iload 1 21 (zz_ev tX12_deleted) L st M) ∧
  (∀ L st M, zz_ev tX12_deleted 21 L st M = zo_iald zzSR zzSTR 22 (zz_ev tX12_deleted) L st M) ∧
  (∀ L st M, zz_ev tX12_deleted 22 L st M = zo_pushI 2 23 (zz_ev tX12_deleted) L st M) ∧
  (∀ L st M, zz_ev tX12_deleted 23 L st M = zo_icmp (fun x y => decide (¬ x = y)) 36 26 (zz_ev tX12_deleted) L st M) ∧
  (∀ L st M, zz_ev tX12_deleted 26 L st M = zo_aload 0 27 (zz_ev tX12_deleted) L st M) ∧
  (∀ L st M, zz_ev tX12_deleted 27 L st M = zo_lload 2 28 (zz_ev tX12_deleted) L st M) ∧
  (∀ L st M, zz_ev tX12_deleted 28 L st M = zo_pushI 15 30 (zz_ev tX12_deleted) L st M) ∧
  (∀ (L : zzLc) (a1 : Int32) (a0 : Int64) (r : List Value) (M : zzMd), zz_ev tX12_deleted 30 L (.int a1 :: .long a0 :: .ref 0 :: r) M = bif zz_cat8 r then zz_backN (zz_ev tX12_deleted) 33 L r (fX12_get [.ref 0, .long a0, .int a1] M) else none) ∧
  (∀ L st M, zz_ev tX12_deleted 33 L st M = zo_if (fun x => decide (¬ x = 0)) 40 36 (zz_ev tX12_deleted) L st M) ∧
  (∀ L st M, zz_ev tX12_deleted 36 L st M = zo_pushI 1 37 (zz_ev tX12_deleted) L st M) ∧
  (∀ L st M, zz_ev tX12_deleted 37 L st M = zo_goto 41 (zz_ev tX12_deleted) L st M) ∧
  (∀ L st M, zz_ev tX12_deleted 40 L st M = zo_pushI 0 41 (zz_ev tX12_deleted) L st M) ∧
  (∀ L st M, zz_ev tX12_deleted 41 L st M = zo_istore 5 43 (zz_ev tX12_deleted) L st M) ∧
  (∀ L st M, zz_ev tX12_deleted 43 L st M = zo_iload 5 45 (zz_ev tX12_deleted) L st M) ∧
  (∀ L st M, zz_ev tX12_deleted 45 L st M = zo_if (fun x => decide (x = 0)) 56 48 (zz_ev tX12_deleted) L st M) ∧
  (∀ L st M, zz_ev tX12_deleted 48 L st M = zo_aload 0 49 (zz_ev tX12_deleted) L st M) ∧
  (∀ L st M, zz_ev tX12_deleted 49 L st M = zo_lload 2 50 (zz_ev tX12_deleted) L st M) ∧
  (∀ (L : zzLc) (a0 : Int64) (r : List Value) (M : zzMd), zz_ev tX12_deleted 50 L (.long a0 :: .ref 0 :: r) M = bif zz_cat8 r then zz_backN (zz_ev tX12_deleted) 53 L r (fX12_gone [.ref 0, .long a0] M) else none) ∧
  (∀ L st M, zz_ev tX12_deleted 53 L st M = zo_goto 65 (zz_ev tX12_deleted) L st M) ∧
  (∀ L st M, zz_ev tX12_deleted 56 L st M = zo_aload 0 57 (zz_ev tX12_deleted) L st M) ∧
  (∀ L st M, zz_ev tX12_deleted 57 L st M = zo_lload 2 58 (zz_ev tX12_deleted) L st M) ∧
  (∀ L st M, zz_ev tX12_deleted 58 L st M = zo_pushI 13 60 (zz_ev tX12_deleted) L st M) ∧
  (∀ L st M, zz_ev tX12_deleted 60 L st M = zo_iload 4 62 (zz_ev tX12_deleted) L st M) ∧
  (∀ (L : zzLc) (a1 a2 : Int32) (a0 : Int64) (r : List Value) (M : zzMd), zz_ev tX12_deleted 62 L (.int a2 :: .int a1 :: .long a0 :: .ref 0 :: r) M = bif zz_cat8 r then zz_backN (zz_ev tX12_deleted) 65 L r (fX12_with [.ref 0, .long a0, .int a1, .int a2] M) else none) ∧
  (∀ L st M, zz_ev tX12_deleted 65 L st M = zo_lret (zz_ev tX12_deleted) L st M) :=
  ⟨zz_1 rfl tl_X12_deleted, zz_1 rfl tl_X12_deleted, zz_1 rfl tl_X12_deleted, zz_1 rfl tl_X12_deleted, zz_1 rfl tl_X12_deleted, zz_1 rfl tl_X12_deleted, fun L a1 a0 r M => (zz_1 rfl tl_X12_deleted _ _ _).trans rfl, zz_1 rfl tl_X12_deleted, zz_1 rfl tl_X12_deleted, fun L r M => (zz_1 rfl tl_X12_deleted _ _ _).trans rfl, zz_1 rfl tl_X12_deleted, zz_1 rfl tl_X12_deleted, zz_1 rfl tl_X12_deleted, zz_1 rfl tl_X12_deleted, zz_1 rfl tl_X12_deleted, zz_1 rfl tl_X12_deleted, zz_1 rfl tl_X12_deleted, fun L a1 a0 r M => (zz_1 rfl tl_X12_deleted _ _ _).trans rfl, zz_1 rfl tl_X12_deleted, zz_1 rfl tl_X12_deleted, zz_1 rfl tl_X12_deleted, zz_1 rfl tl_X12_deleted, zz_1 rfl tl_X12_deleted, zz_1 rfl tl_X12_deleted, zz_1 rfl tl_X12_deleted, zz_1 rfl tl_X12_deleted, zz_1 rfl tl_X12_deleted, fun L a0 r M => (zz_1 rfl tl_X12_deleted _ _ _).trans rfl, zz_1 rfl tl_X12_deleted, zz_1 rfl tl_X12_deleted, zz_1 rfl tl_X12_deleted, zz_1 rfl tl_X12_deleted, zz_1 rfl tl_X12_deleted, fun L a1 a2 a0 r M => (zz_1 rfl tl_X12_deleted _ _ _).trans rfl, zz_1 rfl tl_X12_deleted⟩
set_option maxRecDepth 100000 in
theorem s_X12_deleted (a0 a2 : Int32) (a1 : Int64) (v : Nat) (M : zzMd) : fX12_deleted [.ref v, .int a0, .long a1, .int a2] M = zz_ev tX12_deleted 0 [some (.ref v), some (.int a0), some (.long a1), none, some (.int a2), none] [] M := rfl
set_option maxRecDepth 100000 in
theorem e_X12_view : (∀ L st M, zz_ev tX12_view 0 L st M = zo_aload 0 1 (zz_ev tX12_view) L st M) ∧
  (∀ (L : zzLc) (r : List Value) (M : zzMd), zz_ev tX12_view 1 L (.ref 0 :: r) M = zz_ev tX12_view 4 L (.ref 28 :: r) M) ∧
  (∀ L st M, zz_ev tX12_view 4 L st M = zo_pushI 60 6 (zz_ev tX12_view) L st M) ∧
  (∀ L st M, zz_ev tX12_view 6 L st M = zo_aload 0 7 (zz_ev tX12_view) L st M) ∧
  (∀ (L : zzLc) (r : List Value) (M : zzMd), zz_ev tX12_view 7 L (.ref 0 :: r) M = zz_ev tX12_view 10 L (.int (M.1 0 42) :: r) M) ∧
  (∀ L st M, zz_ev tX12_view 10 L st M = zo_ii (fun x y => x * y) 11 (zz_ev tX12_view) L st M) ∧
  (∀ L st M, zz_ev tX12_view 11 L st M = zo_iload 1 12 (zz_ev tX12_view) L st M) ∧
  (∀ L st M, zz_ev tX12_view 12 L st M = zo_ii (fun x y => x + y) 13 (zz_ev tX12_view) L st M) ∧
  (∀ L st M, zz_ev tX12_view 13 L st M = zo_lald zzSR 14 (zz_ev tX12_view) L st M) ∧
  (∀ L st M, zz_ev tX12_view 14 L st M = zo_lret (zz_ev tX12_view) L st M) :=
  ⟨zz_1 rfl tl_X12_view, fun L r M => (zz_1 rfl tl_X12_view _ _ _).trans rfl, zz_1 rfl tl_X12_view, zz_1 rfl tl_X12_view, fun L r M => (zz_1 rfl tl_X12_view _ _ _).trans rfl, zz_1 rfl tl_X12_view, zz_1 rfl tl_X12_view, zz_1 rfl tl_X12_view, zz_1 rfl tl_X12_view, zz_1 rfl tl_X12_view⟩
set_option maxRecDepth 100000 in
theorem s_X12_view (a0 : Int32) (v : Nat) (M : zzMd) : fX12_view [.ref v, .int a0] M = zz_ev tX12_view 0 [some (.ref v), some (.int a0)] [] M := rfl
set_option maxRecDepth 100000 in
theorem e_X12_isSeen : (∀ L st M, zz_ev tX12_isSeen 0 L st M = zo_iload 1 1 (zz_ev tX12_isSeen) L st M) ∧
  (∀ L st M, zz_ev tX12_isSeen 1 L st M = zo_pushI (-1) 2 (zz_ev tX12_isSeen) L st M) ∧
  (∀ L st M, zz_ev tX12_isSeen 2 L st M = zo_icmp (fun x y => decide (x = y)) 26 5 (zz_ev tX12_isSeen) L st M) ∧
  (∀ L st M, zz_ev tX12_isSeen 5 L st M = zo_aload 0 6 (zz_ev tX12_isSeen) L st M) ∧
  (∀ (L : zzLc) (r : List Value) (M : zzMd), zz_ev tX12_isSeen 6 L (.ref 0 :: r) M = zz_ev tX12_isSeen 9 L (.ref 27 :: r) M) ∧
  (∀ L st M, zz_ev tX12_isSeen 9 L st M = zo_pushI 60 11 (zz_ev tX12_isSeen) L st M) ∧
  (∀ L st M, zz_ev tX12_isSeen 11 L st M = zo_aload 0 12 (zz_ev tX12_isSeen) L st M) ∧
  (∀ (L : zzLc) (r : List Value) (M : zzMd), zz_ev tX12_isSeen 12 L (.ref 0 :: r) M = zz_ev tX12_isSeen 15 L (.int (M.1 0 42) :: r) M) ∧
  (∀ L st M, zz_ev tX12_isSeen 15 L st M = zo_ii (fun x y => x * y) 16 (zz_ev tX12_isSeen) L st M) ∧
  (∀ L st M, zz_ev tX12_isSeen 16 L st M = zo_iload 1 17 (zz_ev tX12_isSeen) L st M) ∧
  (∀ L st M, zz_ev tX12_isSeen 17 L st M = zo_ii (fun x y => x + y) 18 (zz_ev tX12_isSeen) L st M) ∧
  (∀ L st M, zz_ev tX12_isSeen 18 L st M = zo_zald zzSR 19 (zz_ev tX12_isSeen) L st M) ∧
  (∀ L st M, zz_ev tX12_isSeen 19 L st M = zo_if (fun x => decide (x = 0)) 26 22 (zz_ev tX12_isSeen) L st M) ∧
  (∀ L st M, zz_ev tX12_isSeen 22 L st M = zo_pushI 1 23 (zz_ev tX12_isSeen) L st M) ∧
  (∀ L st M, zz_ev tX12_isSeen 23 L st M = zo_goto 27 (zz_ev tX12_isSeen) L st M) ∧
  (∀ L st M, zz_ev tX12_isSeen 26 L st M = zo_pushI 0 27 (zz_ev tX12_isSeen) L st M) ∧
  (∀ L st M, zz_ev tX12_isSeen 27 L st M = zo_iret true (zz_ev tX12_isSeen) L st M) :=
  ⟨zz_1 rfl tl_X12_isSeen, zz_1 rfl tl_X12_isSeen, zz_1 rfl tl_X12_isSeen, zz_1 rfl tl_X12_isSeen, fun L r M => (zz_1 rfl tl_X12_isSeen _ _ _).trans rfl, zz_1 rfl tl_X12_isSeen, zz_1 rfl tl_X12_isSeen, fun L r M => (zz_1 rfl tl_X12_isSeen _ _ _).trans rfl, zz_1 rfl tl_X12_isSeen, zz_1 rfl tl_X12_isSeen, zz_1 rfl tl_X12_isSeen, zz_1 rfl tl_X12_isSeen, zz_1 rfl tl_X12_isSeen, zz_1 rfl tl_X12_isSeen, zz_1 rfl tl_X12_isSeen, zz_1 rfl tl_X12_isSeen, zz_1 rfl tl_X12_isSeen⟩
set_option maxRecDepth 100000 in
theorem s_X12_isSeen (a0 : Int32) (v : Nat) (M : zzMd) : fX12_isSeen [.ref v, .int a0] M = zz_ev tX12_isSeen 0 [some (.ref v), some (.int a0)] [] M := rfl
set_option maxRecDepth 100000 in
theorem e_X12_viewed : (∀ L st M, zz_ev tX12_viewed 0 L st M = zo_aload 0 1 (zz_ev tX12_viewed) L st M) ∧
  (∀ L st M, zz_ev tX12_viewed 1 L st M = zo_aload 0 2 (zz_ev tX12_viewed) L st M) ∧
  (∀ L st M, zz_ev tX12_viewed 2 L st M = zo_iload 1 3 (zz_ev tX12_viewed) L st M) ∧
  (∀ (L : zzLc) (a0 : Int32) (r : List Value) (M : zzMd), zz_ev tX12_viewed 3 L (.int a0 :: .ref 0 :: r) M = bif zz_cat8 r then zz_backN (zz_ev tX12_viewed) 6 L r (fX12_view [.ref 0, .int a0] M) else none) ∧
  (∀ L st M, zz_ev tX12_viewed 6 L st M = zo_iload 2 7 (zz_ev tX12_viewed) L st M) ∧
  (∀ (L : zzLc) (a1 : Int32) (a0 : Int64) (r : List Value) (M : zzMd), zz_ev tX12_viewed 7 L (.int a1 :: .long a0 :: .ref 0 :: r) M = bif zz_cat8 r then zz_backN (zz_ev tX12_viewed) 10 L r (fX12_get [.ref 0, .long a0, .int a1] M) else none) ∧
  (∀ L st M, zz_ev tX12_viewed 10 L st M = zo_iret false (zz_ev tX12_viewed) L st M) :=
  ⟨zz_1 rfl tl_X12_viewed, zz_1 rfl tl_X12_viewed, zz_1 rfl tl_X12_viewed, fun L a0 r M => (zz_1 rfl tl_X12_viewed _ _ _).trans rfl, zz_1 rfl tl_X12_viewed, fun L a1 a0 r M => (zz_1 rfl tl_X12_viewed _ _ _).trans rfl, zz_1 rfl tl_X12_viewed⟩
set_option maxRecDepth 100000 in
theorem s_X12_viewed (a0 a1 : Int32) (v : Nat) (M : zzMd) : fX12_viewed [.ref v, .int a0, .int a1] M = zz_ev tX12_viewed 0 [some (.ref v), some (.int a0), some (.int a1)] [] M := rfl
set_option maxRecDepth 100000 in
theorem e_X12_isGoneThere : (∀ L st M, zz_ev tX12_isGoneThere 0 L st M = zo_aload 0 1 (zz_ev tX12_isGoneThere) L st M) ∧
  (∀ L st M, zz_ev tX12_isGoneThere 1 L st M = zo_iload 1 2 (zz_ev tX12_isGoneThere) L st M) ∧
  (∀ (L : zzLc) (a0 : Int32) (r : List Value) (M : zzMd), zz_ev tX12_isGoneThere 2 L (.int a0 :: .ref 0 :: r) M = bif zz_cat8 r then zz_backN (zz_ev tX12_isGoneThere) 5 L r (fX12_isSeen [.ref 0, .int a0] M) else none) ∧
  (∀ L st M, zz_ev tX12_isGoneThere 5 L st M = zo_if (fun x => decide (x = 0)) 19 8 (zz_ev tX12_isGoneThere) L st M) ∧
  (∀ L st M, zz_ev tX12_isGoneThere 8 L st M = zo_aload 0 9 (zz_ev tX12_isGoneThere) L st M) ∧
  (∀ L st M, zz_ev tX12_isGoneThere 9 L st M = zo_iload 1 10 (zz_ev tX12_isGoneThere) L st M) ∧
  (∀ L st M, zz_ev tX12_isGoneThere 10 L st M = zo_pushI 13 12 (zz_ev tX12_isGoneThere) L st M) ∧
  (∀ (L : zzLc) (a0 a1 : Int32) (r : List Value) (M : zzMd), zz_ev tX12_isGoneThere 12 L (.int a1 :: .int a0 :: .ref 0 :: r) M = bif zz_cat8 r then zz_backN (zz_ev tX12_isGoneThere) 15 L r (fX12_viewed [.ref 0, .int a0, .int a1] M) else none) ∧
  (∀ L st M, zz_ev tX12_isGoneThere 15 L st M = zo_pushI 4 16 (zz_ev tX12_isGoneThere) L st M) ∧
  (∀ L st M, zz_ev tX12_isGoneThere 16 L st M = zo_icmp (fun x y => decide (¬ x = y)) 23 19 (zz_ev tX12_isGoneThere) L st M) ∧
  (∀ L st M, zz_ev tX12_isGoneThere 19 L st M = zo_pushI 1 20 (zz_ev tX12_isGoneThere) L st M) ∧
  (∀ L st M, zz_ev tX12_isGoneThere 20 L st M = zo_goto 24 (zz_ev tX12_isGoneThere) L st M) ∧
  (∀ L st M, zz_ev tX12_isGoneThere 23 L st M = zo_pushI 0 24 (zz_ev tX12_isGoneThere) L st M) ∧
  (∀ L st M, zz_ev tX12_isGoneThere 24 L st M = zo_iret true (zz_ev tX12_isGoneThere) L st M) :=
  ⟨zz_1 rfl tl_X12_isGoneThere, zz_1 rfl tl_X12_isGoneThere, fun L a0 r M => (zz_1 rfl tl_X12_isGoneThere _ _ _).trans rfl, zz_1 rfl tl_X12_isGoneThere, zz_1 rfl tl_X12_isGoneThere, zz_1 rfl tl_X12_isGoneThere, zz_1 rfl tl_X12_isGoneThere, fun L a0 a1 r M => (zz_1 rfl tl_X12_isGoneThere _ _ _).trans rfl, zz_1 rfl tl_X12_isGoneThere, zz_1 rfl tl_X12_isGoneThere, zz_1 rfl tl_X12_isGoneThere, zz_1 rfl tl_X12_isGoneThere, zz_1 rfl tl_X12_isGoneThere, zz_1 rfl tl_X12_isGoneThere⟩
set_option maxRecDepth 100000 in
theorem s_X12_isGoneThere (a0 : Int32) (v : Nat) (M : zzMd) : fX12_isGoneThere [.ref v, .int a0] M = zz_ev tX12_isGoneThere 0 [some (.ref v), some (.int a0)] [] M := rfl
set_option maxRecDepth 100000 in
theorem e_X12_stays : (∀ L st M, zz_ev tX12_stays 0 L st M = zo_aload 0 1 (zz_ev tX12_stays) L st M) ∧
  (∀ L st M, zz_ev tX12_stays 1 L st M = zo_iload 1 2 (zz_ev tX12_stays) L st M) ∧
  (∀ (L : zzLc) (a0 : Int32) (r : List Value) (M : zzMd), zz_ev tX12_stays 2 L (.int a0 :: .ref 0 :: r) M = bif zz_cat8 r then zz_backN (zz_ev tX12_stays) 5 L r (fX12_isSeen [.ref 0, .int a0] M) else none) ∧
  (∀ L st M, zz_ev tX12_stays 5 L st M = zo_if (fun x => decide (x = 0)) 32 8 (zz_ev tX12_stays) L st M) ∧
  (∀ L st M, zz_ev tX12_stays 8 L st M = zo_aload 0 9 (zz_ev tX12_stays) L st M) ∧
  (∀ (L : zzLc) (r : List Value) (M : zzMd), zz_ev tX12_stays 9 L (.ref 0 :: r) M = zz_ev tX12_stays 12 L (.ref 6 :: r) M) ∧
  (∀ L st M, zz_ev tX12_stays 12 L st M = zo_iload 1 13 (zz_ev tX12_stays) L st M) ∧
  (∀ L st M, zz_ev tX12_stays 13 L st M = zo_iald zzSR zzSTR 14 (zz_ev tX12_stays) L st M) ∧
  (∀ L st M, zz_ev tX12_stays 14 L st M = zo_iload 2 15 (zz_ev tX12_stays) L st M) ∧
  (∀ L st M, zz_ev tX12_stays 15 L st M = zo_icmp (fun x y => decide (¬ x = y)) 32 18 (zz_ev tX12_stays) L st M) ∧
  (∀ L st M, zz_ev tX12_stays 18 L st M = zo_aload 0 19 (zz_ev tX12_stays) L st M) ∧
  (∀ L st M, zz_ev tX12_stays 19 L st M = zo_iload 1 20 (zz_ev tX12_stays) L st M) ∧
  (∀ L st M, zz_ev tX12_stays 20 L st M = zo_pushI 13 22 (zz_ev tX12_stays) L st M) ∧
  (∀ (L : zzLc) (a0 a1 : Int32) (r : List Value) (M : zzMd), zz_ev tX12_stays 22 L (.int a1 :: .int a0 :: .ref 0 :: r) M = bif zz_cat8 r then zz_backN (zz_ev tX12_stays) 25 L r (fX12_viewed [.ref 0, .int a0, .int a1] M) else none) ∧
  (∀ L st M, zz_ev tX12_stays 25 L st M = zo_if (fun x => decide (¬ x = 0)) 32 28 (zz_ev tX12_stays) L st M) ∧
  (∀ L st M, zz_ev tX12_stays 28 L st M = zo_pushI 1 29 (zz_ev tX12_stays) L st M) ∧
  (∀ L st M, zz_ev tX12_stays 29 L st M = zo_goto 33 (zz_ev tX12_stays) L st M) ∧
  (∀ L st M, zz_ev tX12_stays 32 L st M = zo_pushI 0 33 (zz_ev tX12_stays) L st M) ∧
  (∀ L st M, zz_ev tX12_stays 33 L st M = zo_iret true (zz_ev tX12_stays) L st M) :=
  ⟨zz_1 rfl tl_X12_stays, zz_1 rfl tl_X12_stays, fun L a0 r M => (zz_1 rfl tl_X12_stays _ _ _).trans rfl, zz_1 rfl tl_X12_stays, zz_1 rfl tl_X12_stays, fun L r M => (zz_1 rfl tl_X12_stays _ _ _).trans rfl, zz_1 rfl tl_X12_stays, zz_1 rfl tl_X12_stays, zz_1 rfl tl_X12_stays, zz_1 rfl tl_X12_stays, zz_1 rfl tl_X12_stays, zz_1 rfl tl_X12_stays, zz_1 rfl tl_X12_stays, fun L a0 a1 r M => (zz_1 rfl tl_X12_stays _ _ _).trans rfl, zz_1 rfl tl_X12_stays, zz_1 rfl tl_X12_stays, zz_1 rfl tl_X12_stays, zz_1 rfl tl_X12_stays, zz_1 rfl tl_X12_stays⟩
set_option maxRecDepth 100000 in
theorem s_X12_stays (a0 a1 : Int32) (v : Nat) (M : zzMd) : fX12_stays [.ref v, .int a0, .int a1] M = zz_ev tX12_stays 0 [some (.ref v), some (.int a0), some (.int a1)] [] M := rfl
set_option maxRecDepth 100000 in
theorem e_X12_comes : (∀ L st M, zz_ev tX12_comes 0 L st M = zo_pushI 60 2 (zz_ev tX12_comes) L st M) ∧
  (∀ L st M, zz_ev tX12_comes 2 L st M = zo_aload 0 3 (zz_ev tX12_comes) L st M) ∧
  (∀ (L : zzLc) (r : List Value) (M : zzMd), zz_ev tX12_comes 3 L (.ref 0 :: r) M = zz_ev tX12_comes 6 L (.int (M.1 0 42) :: r) M) ∧
  (∀ L st M, zz_ev tX12_comes 6 L st M = zo_ii (fun x y => x * y) 7 (zz_ev tX12_comes) L st M) ∧
  (∀ L st M, zz_ev tX12_comes 7 L st M = zo_istore 2 8 (zz_ev tX12_comes) L st M) ∧
  (∀ L st M, zz_ev tX12_comes 8 L st M = zo_iload 2 9 (zz_ev tX12_comes) L st M) ∧
  (∀ L st M, zz_ev tX12_comes 9 L st M = zo_istore 3 10 (zz_ev tX12_comes) L st M) ∧
  (∀ L st M, zz_ev tX12_comes 11 L st M = zo_iload 2 12 (zz_ev tX12_comes) L st M) ∧
  (∀ L st M, zz_ev tX12_comes 12 L st M = zo_aload 0 13 (zz_ev tX12_comes) L st M) ∧
  (∀ (L : zzLc) (r : List Value) (M : zzMd), zz_ev tX12_comes 13 L (.ref 0 :: r) M = zz_ev tX12_comes 16 L (.ref 31 :: r) M) ∧
  (∀ L st M, zz_ev tX12_comes 16 L st M = zo_aload 0 17 (zz_ev tX12_comes) L st M) ∧
  (∀ (L : zzLc) (r : List Value) (M : zzMd), zz_ev tX12_comes 17 L (.ref 0 :: r) M = zz_ev tX12_comes 20 L (.int (M.1 0 42) :: r) M) ∧
  (∀ L st M, zz_ev tX12_comes 20 L st M = zo_iald zzSR zzSTR 21 (zz_ev tX12_comes) L st M) ∧
  (∀ L st M, zz_ev tX12_comes 21 L st M = zo_ii (fun x y => x + y) 22 (zz_ev tX12_comes) L st M) ∧
  (∀ L st M, zz_ev tX12_comes 22 L st M = zo_icmp (fun x y => decide (y ≤ x)) 43 25 (zz_ev tX12_comes) L st M) ∧
  (∀ L st M, zz_ev tX12_comes 25 L st M = zo_aload 0 26 (zz_ev tX12_comes) L st M) ∧
  (∀ (L : zzLc) (r : List Value) (M : zzMd), zz_ev tX12_comes 26 L (.ref 0 :: r) M = zz_ev tX12_comes 29 L (.ref 32 :: r) M) ∧
  (∀ L st M, zz_ev tX12_comes 29 L st M = zo_iload 3 30 (zz_ev tX12_comes) L st M) ∧
  (∀ L st M, zz_ev tX12_comes 30 L st M = zo_iald zzSR zzSTR 31 (zz_ev tX12_comes) L st M) ∧
  (∀ L st M, zz_ev tX12_comes 31 L st M = zo_iload 1 32 (zz_ev tX12_comes) L st M) ∧
  (∀ L st M, zz_ev tX12_comes 32 L st M = zo_icmp (fun x y => decide (¬ x = y)) 37 35 (zz_ev tX12_comes) L st M) ∧
  (∀ L st M, zz_ev tX12_comes 35 L st M = zo_pushI 0 36 (zz_ev tX12_comes) L st M) ∧
  (∀ L st M, zz_ev tX12_comes 36 L st M = zo_iret false (zz_ev tX12_comes) L st M) ∧
  (∀ L st M, zz_ev tX12_comes 37 L st M = zo_iinc 3 1 40 (zz_ev tX12_comes) L st M) ∧
  (∀ L st M, zz_ev tX12_comes 40 L st M = zo_goto 10 (zz_ev tX12_comes) L st M) ∧
  (∀ L st M, zz_ev tX12_comes 43 L st M = zo_aload 0 44 (zz_ev tX12_comes) L st M) ∧
  (∀ (L : zzLc) (r : List Value) (M : zzMd), zz_ev tX12_comes 44 L (.ref 0 :: r) M = zz_ev tX12_comes 47 L (.ref 32 :: r) M) ∧
  (∀ L st M, zz_ev tX12_comes 47 L st M = zo_iload 2 48 (zz_ev tX12_comes) L st M) ∧
  (∀ L st M, zz_ev tX12_comes 48 L st M = zo_aload 0 49 (zz_ev tX12_comes) L st M) ∧
  (∀ (L : zzLc) (r : List Value) (M : zzMd), zz_ev tX12_comes 49 L (.ref 0 :: r) M = zz_ev tX12_comes 52 L (.ref 31 :: r) M) ∧
  (∀ L st M, zz_ev tX12_comes 52 L st M = zo_aload 0 53 (zz_ev tX12_comes) L st M) ∧
  (∀ (L : zzLc) (r : List Value) (M : zzMd), zz_ev tX12_comes 53 L (.ref 0 :: r) M = zz_ev tX12_comes 56 L (.int (M.1 0 42) :: r) M) ∧
  (∀ L st M, zz_ev tX12_comes 56 L st M = zo_iald zzSR zzSTR 57 (zz_ev tX12_comes) L st M) ∧
  (∀ L st M, zz_ev tX12_comes 57 L st M = zo_ii (fun x y => x + y) 58 (zz_ev tX12_comes) L st M) ∧
  (∀ L st M, zz_ev tX12_comes 58 L st M = zo_iload 1 59 (zz_ev tX12_comes) L st M) ∧
  (∀ L st M, zz_ev tX12_comes 59 L st M = zo_iast zzSR 60 (zz_ev tX12_comes) L st M) ∧
  (∀ L st M, zz_ev tX12_comes 60 L st M = zo_aload 0 61 (zz_ev tX12_comes) L st M) ∧
  (∀ (L : zzLc) (r : List Value) (M : zzMd), zz_ev tX12_comes 61 L (.ref 0 :: r) M = zz_ev tX12_comes 64 L (.ref 34 :: r) M) ∧
  (∀ L st M, zz_ev tX12_comes 64 L st M = zo_iload 2 65 (zz_ev tX12_comes) L st M) ∧
  (∀ L st M, zz_ev tX12_comes 65 L st M = zo_iload 1 66 (zz_ev tX12_comes) L st M) ∧
  (∀ L st M, zz_ev tX12_comes 66 L st M = zo_ii (fun x y => x + y) 67 (zz_ev tX12_comes) L st M) ∧
  (∀ L st M, zz_ev tX12_comes 67 L st M = zo_pushI 0 68 (zz_ev tX12_comes) L st M) ∧
  (∀ L st M, zz_ev tX12_comes 68 L st M = zo_iast zzSR 69 (zz_ev tX12_comes) L st M) ∧
  (∀ L st M, zz_ev tX12_comes 69 L st M = zo_aload 0 70 (zz_ev tX12_comes) L st M) ∧
  (∀ (L : zzLc) (r : List Value) (M : zzMd), zz_ev tX12_comes 70 L (.ref 0 :: r) M = zz_ev tX12_comes 73 L (.ref 31 :: r) M) ∧
  (∀ L st M, zz_ev tX12_comes 73 L st M = zo_aload 0 74 (zz_ev tX12_comes) L st M) ∧
  (∀ (L : zzLc) (r : List Value) (M : zzMd), zz_ev tX12_comes 74 L (.ref 0 :: r) M = zz_ev tX12_comes 77 L (.int (M.1 0 42) :: r) M) ∧
  (∀ L st M, zz_ev tX12_comes 77 L st M = zo_dup2 78 (zz_ev tX12_comes) L st M) ∧
  (∀ L st M, zz_ev tX12_comes 78 L st M = zo_iald zzSR zzSTR 79 (zz_ev tX12_comes) L st M) ∧
  (∀ L st M, zz_ev tX12_comes 79 L st M = zo_pushI 1 80 (zz_ev tX12_comes) L st M) ∧
  (∀ L st M, zz_ev tX12_comes 80 L st M = zo_ii (fun x y => x + y) 81 (zz_ev tX12_comes) L st M) ∧
  (∀ L st M, zz_ev tX12_comes 81 L st M = zo_iast zzSR 82 (zz_ev tX12_comes) L st M) ∧
  (∀ L st M, zz_ev tX12_comes 82 L st M = zo_pushI 1 83 (zz_ev tX12_comes) L st M) ∧
  (∀ L st M, zz_ev tX12_comes 83 L st M = zo_iret false (zz_ev tX12_comes) L st M) :=
  ⟨zz_1 rfl tl_X12_comes, zz_1 rfl tl_X12_comes, fun L r M => (zz_1 rfl tl_X12_comes _ _ _).trans rfl, zz_1 rfl tl_X12_comes, zz_1 rfl tl_X12_comes, zz_1 rfl tl_X12_comes, zz_1 rfl tl_X12_comes, zz_1 rfl tl_X12_comes, zz_1 rfl tl_X12_comes, fun L r M => (zz_1 rfl tl_X12_comes _ _ _).trans rfl, zz_1 rfl tl_X12_comes, fun L r M => (zz_1 rfl tl_X12_comes _ _ _).trans rfl, zz_1 rfl tl_X12_comes, zz_1 rfl tl_X12_comes, zz_1 rfl tl_X12_comes, zz_1 rfl tl_X12_comes, fun L r M => (zz_1 rfl tl_X12_comes _ _ _).trans rfl, zz_1 rfl tl_X12_comes, zz_1 rfl tl_X12_comes, zz_1 rfl tl_X12_comes, zz_1 rfl tl_X12_comes, zz_1 rfl tl_X12_comes, zz_1 rfl tl_X12_comes, zz_1 rfl tl_X12_comes, zz_1 rfl tl_X12_comes, zz_1 rfl tl_X12_comes, fun L r M => (zz_1 rfl tl_X12_comes _ _ _).trans rfl, zz_1 rfl tl_X12_comes, zz_1 rfl tl_X12_comes, fun L r M => (zz_1 rfl tl_X12_comes _ _ _).trans rfl, zz_1 rfl tl_X12_comes, fun L r M => (zz_1 rfl tl_X12_comes _ _ _).trans rfl, zz_1 rfl tl_X12_comes, zz_1 rfl tl_X12_comes, zz_1 rfl tl_X12_comes, zz_1 rfl tl_X12_comes, zz_1 rfl tl_X12_comes, fun L r M => (zz_1 rfl tl_X12_comes _ _ _).trans rfl, zz_1 rfl tl_X12_comes, zz_1 rfl tl_X12_comes, zz_1 rfl tl_X12_comes, zz_1 rfl tl_X12_comes, zz_1 rfl tl_X12_comes, zz_1 rfl tl_X12_comes, fun L r M => (zz_1 rfl tl_X12_comes _ _ _).trans rfl, zz_1 rfl tl_X12_comes, fun L r M => (zz_1 rfl tl_X12_comes _ _ _).trans rfl, zz_1 rfl tl_X12_comes, zz_1 rfl tl_X12_comes, zz_1 rfl tl_X12_comes, zz_1 rfl tl_X12_comes, zz_1 rfl tl_X12_comes, zz_1 rfl tl_X12_comes, zz_1 rfl tl_X12_comes⟩
set_option maxRecDepth 100000 in
theorem e_X12_comes_10 : (∀ L st M, zz_ev tX12_comes 10 L st M = zo_iload 3 11 (zz_ev tX12_comes) L st M) := zz_1 rfl tl_X12_comes
set_option maxRecDepth 100000 in
theorem s_X12_comes (a0 : Int32) (v : Nat) (M : zzMd) : fX12_comes [.ref v, .int a0] M = zz_ev tX12_comes 0 [some (.ref v), some (.int a0), none, none] [] M := rfl
set_option maxRecDepth 100000 in
theorem e_X12_comesIf : (∀ L st M, zz_ev tX12_comesIf 0 L st M = zo_iload 1 1 (zz_ev tX12_comesIf) L st M) ∧
  (∀ L st M, zz_ev tX12_comesIf 1 L st M = zo_pushI (-1) 2 (zz_ev tX12_comesIf) L st M) ∧
  (∀ L st M, zz_ev tX12_comesIf 2 L st M = zo_icmp (fun x y => decide (x = y)) 23 5 (zz_ev tX12_comesIf) L st M) ∧
  (∀ L st M, zz_ev tX12_comesIf 5 L st M = zo_aload 0 6 (zz_ev tX12_comesIf) L st M) ∧
  (∀ (L : zzLc) (r : List Value) (M : zzMd), zz_ev tX12_comesIf 6 L (.ref 0 :: r) M = zz_ev tX12_comesIf 9 L (.ref 6 :: r) M) ∧
  (∀ L st M, zz_ev tX12_comesIf 9 L st M = zo_iload 1 10 (zz_ev tX12_comesIf) L st M) ∧
  (∀ L st M, zz_ev tX12_comesIf 10 L st M = zo_iald zzSR zzSTR 11 (zz_ev tX12_comesIf) L st M) ∧
  (∀ L st M, zz_ev tX12_comesIf 11 L st M = zo_iload 2 12 (zz_ev tX12_comesIf) L st M) ∧
  (∀ L st M, zz_ev tX12_comesIf 12 L st M = zo_icmp (fun x y => decide (¬ x = y)) 23 15 (zz_ev tX12_comesIf) L st M) ∧
  (∀ L st M, zz_ev tX12_comesIf 15 L st M = zo_aload 0 16 (zz_ev tX12_comesIf) L st M) ∧
  (∀ L st M, zz_ev tX12_comesIf 16 L st M = zo_iload 1 17 (zz_ev tX12_comesIf) L st M) ∧
  (∀ (L : zzLc) (a0 : Int32) (r : List Value) (M : zzMd), zz_ev tX12_comesIf 17 L (.int a0 :: .ref 0 :: r) M = bif zz_cat8 r then zz_backN (zz_ev tX12_comesIf) 20 L r (fX12_comes [.ref 0, .int a0] M) else none) ∧
  (∀ L st M, zz_ev tX12_comesIf 20 L st M = zo_goto 24 (zz_ev tX12_comesIf) L st M) ∧
  (∀ L st M, zz_ev tX12_comesIf 23 L st M = zo_pushI 0 24 (zz_ev tX12_comesIf) L st M) ∧
  (∀ L st M, zz_ev tX12_comesIf 24 L st M = zo_iret false (zz_ev tX12_comesIf) L st M) :=
  ⟨zz_1 rfl tl_X12_comesIf, zz_1 rfl tl_X12_comesIf, zz_1 rfl tl_X12_comesIf, zz_1 rfl tl_X12_comesIf, fun L r M => (zz_1 rfl tl_X12_comesIf _ _ _).trans rfl, zz_1 rfl tl_X12_comesIf, zz_1 rfl tl_X12_comesIf, zz_1 rfl tl_X12_comesIf, zz_1 rfl tl_X12_comesIf, zz_1 rfl tl_X12_comesIf, zz_1 rfl tl_X12_comesIf, fun L a0 r M => (zz_1 rfl tl_X12_comesIf _ _ _).trans rfl, zz_1 rfl tl_X12_comesIf, zz_1 rfl tl_X12_comesIf, zz_1 rfl tl_X12_comesIf⟩
set_option maxRecDepth 100000 in
theorem s_X12_comesIf (a0 a1 : Int32) (v : Nat) (M : zzMd) : fX12_comesIf [.ref v, .int a0, .int a1] M = zz_ev tX12_comesIf 0 [some (.ref v), some (.int a0), some (.int a1)] [] M := rfl
set_option maxRecDepth 100000 in
theorem e_X12_ownKind : (∀ L st M, zz_ev tX12_ownKind 0 L st M = zo_aload 0 1 (zz_ev tX12_ownKind) L st M) ∧
  (∀ (L : zzLc) (r : List Value) (M : zzMd), zz_ev tX12_ownKind 1 L (.ref 0 :: r) M = zz_ev tX12_ownKind 4 L (.int (M.1 0 42) :: r) M) ∧
  (∀ L st M, zz_ev tX12_ownKind 4 L st M = zo_if (fun x => decide (x = 0)) 16 7 (zz_ev tX12_ownKind) L st M) ∧
  (∀ L st M, zz_ev tX12_ownKind 7 L st M = zo_aload 0 8 (zz_ev tX12_ownKind) L st M) ∧
  (∀ (L : zzLc) (r : List Value) (M : zzMd), zz_ev tX12_ownKind 8 L (.ref 0 :: r) M = zz_ev tX12_ownKind 11 L (.int (M.1 0 42) :: r) M) ∧
  (∀ L st M, zz_ev tX12_ownKind 11 L st M = zo_pushI 7 13 (zz_ev tX12_ownKind) L st M) ∧
  (∀ L st M, zz_ev tX12_ownKind 13 L st M = zo_icmp (fun x y => decide (¬ x = y)) 20 16 (zz_ev tX12_ownKind) L st M) ∧
  (∀ L st M, zz_ev tX12_ownKind 16 L st M = zo_pushI 0 17 (zz_ev tX12_ownKind) L st M) ∧
  (∀ L st M, zz_ev tX12_ownKind 17 L st M = zo_goto 70 (zz_ev tX12_ownKind) L st M) ∧
  (∀ L st M, zz_ev tX12_ownKind 20 L st M = zo_aload 0 21 (zz_ev tX12_ownKind) L st M) ∧
  (∀ (L : zzLc) (r : List Value) (M : zzMd), zz_ev tX12_ownKind 21 L (.ref 0 :: r) M = zz_ev tX12_ownKind 24 L (.int (M.1 0 42) :: r) M) ∧
  (∀ L st M, zz_ev tX12_ownKind 24 L st M = zo_pushI 1 25 (zz_ev tX12_ownKind) L st M) ∧
  (∀ L st M, zz_ev tX12_ownKind 25 L st M = zo_icmp (fun x y => decide (¬ x = y)) 32 28 (zz_ev tX12_ownKind) L st M) ∧
  (∀ L st M, zz_ev tX12_ownKind 28 L st M = zo_pushI 1 29 (zz_ev tX12_ownKind) L st M) ∧
  (∀ L st M, zz_ev tX12_ownKind 29 L st M = zo_goto 70 (zz_ev tX12_ownKind) L st M) ∧
  (∀ L st M, zz_ev tX12_ownKind 32 L st M = zo_aload 0 33 (zz_ev tX12_ownKind) L st M) ∧
  (∀ (L : zzLc) (r : List Value) (M : zzMd), zz_ev tX12_ownKind 33 L (.ref 0 :: r) M = zz_ev tX12_ownKind 36 L (.int (M.1 0 42) :: r) M) ∧
  (∀ L st M, zz_ev tX12_ownKind 36 L st M = zo_pushI 2 37 (zz_ev tX12_ownKind) L st M) ∧
  (∀ L st M, zz_ev tX12_ownKind 37 L st M = zo_icmp (fun x y => decide (¬ x = y)) 44 40 (zz_ev tX12_ownKind) L st M) ∧
  (∀ L st M, zz_ev tX12_ownKind 40 L st M = zo_pushI 3 41 (zz_ev tX12_ownKind) L st M) ∧
  (∀ L st M, zz_ev tX12_ownKind 41 L st M = zo_goto 70 (zz_ev tX12_ownKind) L st M) ∧
  (∀ L st M, zz_ev tX12_ownKind 44 L st M = zo_aload 0 45 (zz_ev tX12_ownKind) L st M) ∧
  (∀ (L : zzLc) (r : List Value) (M : zzMd), zz_ev tX12_ownKind 45 L (.ref 0 :: r) M = zz_ev tX12_ownKind 48 L (.int (M.1 0 42) :: r) M) ∧
  (∀ L st M, zz_ev tX12_ownKind 48 L st M = zo_pushI 6 50 (zz_ev tX12_ownKind) L st M) ∧
  (∀ L st M, zz_ev tX12_ownKind 50 L st M = zo_icmp (fun x y => decide (¬ x = y)) 57 53 (zz_ev tX12_ownKind) L st M) ∧
  (∀ L st M, zz_ev tX12_ownKind 53 L st M = zo_pushI 5 54 (zz_ev tX12_ownKind) L st M) ∧
  (∀ L st M, zz_ev tX12_ownKind 54 L st M = zo_goto 70 (zz_ev tX12_ownKind) L st M) ∧
  (∀ L st M, zz_ev tX12_ownKind 57 L st M = zo_aload 0 58 (zz_ev tX12_ownKind) L st M) ∧
  (∀ (L : zzLc) (r : List Value) (M : zzMd), zz_ev tX12_ownKind 58 L (.ref 0 :: r) M = zz_ev tX12_ownKind 61 L (.int (M.1 0 42) :: r) M) ∧
  (∀ L st M, zz_ev tX12_ownKind 61 L st M = zo_pushI 5 62 (zz_ev tX12_ownKind) L st M) ∧
  (∀ L st M, zz_ev tX12_ownKind 62 L st M = zo_icmp (fun x y => decide (¬ x = y)) 69 65 (zz_ev tX12_ownKind) L st M) ∧
  (∀ L st M, zz_ev tX12_ownKind 65 L st M = zo_pushI (-1) 66 (zz_ev tX12_ownKind) L st M) ∧
  (∀ L st M, zz_ev tX12_ownKind 66 L st M = zo_goto 70 (zz_ev tX12_ownKind) L st M) ∧
  (∀ L st M, zz_ev tX12_ownKind 69 L st M = zo_pushI 2 70 (zz_ev tX12_ownKind) L st M) ∧
  (∀ L st M, zz_ev tX12_ownKind 70 L st M = zo_iret false (zz_ev tX12_ownKind) L st M) :=
  ⟨zz_1 rfl tl_X12_ownKind, fun L r M => (zz_1 rfl tl_X12_ownKind _ _ _).trans rfl, zz_1 rfl tl_X12_ownKind, zz_1 rfl tl_X12_ownKind, fun L r M => (zz_1 rfl tl_X12_ownKind _ _ _).trans rfl, zz_1 rfl tl_X12_ownKind, zz_1 rfl tl_X12_ownKind, zz_1 rfl tl_X12_ownKind, zz_1 rfl tl_X12_ownKind, zz_1 rfl tl_X12_ownKind, fun L r M => (zz_1 rfl tl_X12_ownKind _ _ _).trans rfl, zz_1 rfl tl_X12_ownKind, zz_1 rfl tl_X12_ownKind, zz_1 rfl tl_X12_ownKind, zz_1 rfl tl_X12_ownKind, zz_1 rfl tl_X12_ownKind, fun L r M => (zz_1 rfl tl_X12_ownKind _ _ _).trans rfl, zz_1 rfl tl_X12_ownKind, zz_1 rfl tl_X12_ownKind, zz_1 rfl tl_X12_ownKind, zz_1 rfl tl_X12_ownKind, zz_1 rfl tl_X12_ownKind, fun L r M => (zz_1 rfl tl_X12_ownKind _ _ _).trans rfl, zz_1 rfl tl_X12_ownKind, zz_1 rfl tl_X12_ownKind, zz_1 rfl tl_X12_ownKind, zz_1 rfl tl_X12_ownKind, zz_1 rfl tl_X12_ownKind, fun L r M => (zz_1 rfl tl_X12_ownKind _ _ _).trans rfl, zz_1 rfl tl_X12_ownKind, zz_1 rfl tl_X12_ownKind, zz_1 rfl tl_X12_ownKind, zz_1 rfl tl_X12_ownKind, zz_1 rfl tl_X12_ownKind, zz_1 rfl tl_X12_ownKind⟩
set_option maxRecDepth 100000 in
theorem s_X12_ownKind (v : Nat) (M : zzMd) : fX12_ownKind [.ref v] M = zz_ev tX12_ownKind 0 [some (.ref v)] [] M := rfl
set_option maxRecDepth 100000 in
theorem e_X12_comeAll : (∀ L st M, zz_ev tX12_comeAll 0 L st M = zo_pushI 0 1 (zz_ev tX12_comeAll) L st M) ∧
  (∀ L st M, zz_ev tX12_comeAll 1 L st M = zo_istore 3 2 (zz_ev tX12_comeAll) L st M) ∧
  (∀ L st M, zz_ev tX12_comeAll 2 L st M = zo_pushI 0 3 (zz_ev tX12_comeAll) L st M) ∧
  (∀ L st M, zz_ev tX12_comeAll 3 L st M = zo_istore 4 5 (zz_ev tX12_comeAll) L st M) ∧
  (∀ L st M, zz_ev tX12_comeAll 7 L st M = zo_aload 0 8 (zz_ev tX12_comeAll) L st M) ∧
  (∀ (L : zzLc) (r : List Value) (M : zzMd), zz_ev tX12_comeAll 8 L (.ref 0 :: r) M = zz_ev tX12_comeAll 11 L (.int (M.1 0 5) :: r) M) ∧
  (∀ L st M, zz_ev tX12_comeAll 11 L st M = zo_icmp (fun x y => decide (y ≤ x)) 226 14 (zz_ev tX12_comeAll) L st M) ∧
  (∀ L st M, zz_ev tX12_comeAll 14 L st M = zo_aload 0 15 (zz_ev tX12_comeAll) L st M) ∧
  (∀ L st M, zz_ev tX12_comeAll 15 L st M = zo_iload 4 17 (zz_ev tX12_comeAll) L st M) ∧
  (∀ (L : zzLc) (a0 : Int32) (r : List Value) (M : zzMd), zz_ev tX12_comeAll 17 L (.int a0 :: .ref 0 :: r) M = bif zz_cat8 r then zz_backN (zz_ev tX12_comeAll) 20 L r (fX12_isGoneThere [.ref 0, .int a0] M) else none) ∧
  (∀ L st M, zz_ev tX12_comeAll 20 L st M = zo_if (fun x => decide (¬ x = 0)) 27 23 (zz_ev tX12_comeAll) L st M) ∧
  (∀ L st M, zz_ev tX12_comeAll 23 L st M = zo_pushI 1 24 (zz_ev tX12_comeAll) L st M) ∧
  (∀ L st M, zz_ev tX12_comeAll 24 L st M = zo_goto 28 (zz_ev tX12_comeAll) L st M) ∧
  (∀ L st M, zz_ev tX12_comeAll 27 L st M = zo_pushI 0 28 (zz_ev tX12_comeAll) L st M) ∧
  (∀ L st M, zz_ev tX12_comeAll 28 L st M = zo_istore 5 30 (zz_ev tX12_comeAll) L st M) ∧
  (∀ L st M, zz_ev tX12_comeAll 30 L st M = zo_iload 5 32 (zz_ev tX12_comeAll) L st M) ∧
  (∀ L st M, zz_ev tX12_comeAll 32 L st M = zo_if (fun x => decide (x = 0)) 50 35 (zz_ev tX12_comeAll) L st M) ∧
  (∀ L st M, zz_ev tX12_comeAll 35 L st M = zo_aload 0 36 (zz_ev tX12_comeAll) L st M) ∧
  (∀ (L : zzLc) (r : List Value) (M : zzMd), zz_ev tX12_comeAll 36 L (.ref 0 :: r) M = zz_ev tX12_comeAll 39 L (.ref 6 :: r) M) ∧
  (∀ L st M, zz_ev tX12_comeAll 39 L st M = zo_iload 4 41 (zz_ev tX12_comeAll) L st M) ∧
  (∀ L st M, zz_ev tX12_comeAll 41 L st M = zo_iald zzSR zzSTR 42 (zz_ev tX12_comeAll) L st M) ∧
  (∀ L st M, zz_ev tX12_comeAll 42 L st M = zo_pushI 2 43 (zz_ev tX12_comeAll) L st M) ∧
  (∀ L st M, zz_ev tX12_comeAll 43 L st M = zo_icmp (fun x y => decide (¬ x = y)) 50 46 (zz_ev tX12_comeAll) L st M) ∧
  (∀ L st M, zz_ev tX12_comeAll 46 L st M = zo_pushI 1 47 (zz_ev tX12_comeAll) L st M) ∧
  (∀ L st M, zz_ev tX12_comeAll 47 L st M = zo_goto 51 (zz_ev tX12_comeAll) L st M) ∧
  (∀ L st M, zz_ev tX12_comeAll 50 L st M = zo_pushI 0 51 (zz_ev tX12_comeAll) L st M) ∧
  (∀ L st M, zz_ev tX12_comeAll 51 L st M = zo_istore 6 53 (zz_ev tX12_comeAll) L st M) ∧
  (∀ L st M, zz_ev tX12_comeAll 53 L st M = zo_iload 6 55 (zz_ev tX12_comeAll) L st M) ∧
  (∀ L st M, zz_ev tX12_comeAll 55 L st M = zo_if (fun x => decide (x = 0)) 95 58 (zz_ev tX12_comeAll) L st M) ∧
  (∀ L st M, zz_ev tX12_comeAll 58 L st M = zo_aload 0 59 (zz_ev tX12_comeAll) L st M) ∧
  (∀ L st M, zz_ev tX12_comeAll 59 L st M = zo_iload 4 61 (zz_ev tX12_comeAll) L st M) ∧
  (∀ L st M, zz_ev tX12_comeAll 61 L st M = zo_pushI 13 63 (zz_ev tX12_comeAll) L st M) ∧
  (∀ (L : zzLc) (a0 a1 : Int32) (r : List Value) (M : zzMd), zz_ev tX12_comeAll 63 L (.int a1 :: .int a0 :: .ref 0 :: r) M = bif zz_cat8 r then zz_backN (zz_ev tX12_comeAll) 66 L r (fX12_viewed [.ref 0, .int a0, .int a1] M) else none) ∧
  (∀ L st M, zz_ev tX12_comeAll 66 L st M = zo_if (fun x => decide (¬ x = 0)) 95 69 (zz_ev tX12_comeAll) L st M) ∧
  (∀ L st M, zz_ev tX12_comeAll 69 L st M = zo_aload 0 70 (zz_ev tX12_comeAll) L st M) ∧
  (∀ L st M, zz_ev tX12_comeAll 70 L st M = zo_iload 4 72 (zz_ev tX12_comeAll) L st M) ∧
  (∀ L st M, zz_ev tX12_comeAll 72 L st M = zo_pushI 16 74 (zz_ev tX12_comeAll) L st M) ∧
  (∀ (L : zzLc) (a0 a1 : Int32) (r : List Value) (M : zzMd), zz_ev tX12_comeAll 74 L (.int a1 :: .int a0 :: .ref 0 :: r) M = bif zz_cat8 r then zz_backN (zz_ev tX12_comeAll) 77 L r (fX12_viewed [.ref 0, .int a0, .int a1] M) else none) ∧
  (∀ L st M, zz_ev tX12_comeAll 77 L st M = zo_if (fun x => decide (¬ x = 0)) 95 80 (zz_ev tX12_comeAll) L st M) ∧
  (∀ L st M, zz_ev tX12_comeAll 80 L st M = zo_aload 0 81 (zz_ev tX12_comeAll) L st M) ∧
  (∀ L st M, zz_ev tX12_comeAll 81 L st M = zo_iload 4 83 (zz_ev tX12_comeAll) L st M) ∧
  (∀ L st M, zz_ev tX12_comeAll 83 L st M = zo_pushI 15 85 (zz_ev tX12_comeAll) L st M) ∧
  (∀ (L : zzLc) (a0 a1 : Int32) (r : List Value) (M : zzMd), zz_ev tX12_comeAll 85 L (.int a1 :: .int a0 :: .ref 0 :: r) M = bif zz_cat8 r then zz_backN (zz_ev tX12_comeAll) 88 L r (fX12_viewed [.ref 0, .int a0, .int a1] M) else none) ∧
  (∀ L st M, zz_ev tX12_comeAll 88 L st M = zo_if (fun x => decide (¬ x = 0)) 95 91 (zz_ev tX12_comeAll) L st M) ∧
  (∀ L st M, zz_ev tX12_comeAll 91 L st M = zo_pushI 1 92 (zz_ev tX12_comeAll) L st M) ∧
  (∀ L st M, zz_ev tX12_comeAll 92 L st M = zo_goto 96 (zz_ev tX12_comeAll) L st M) ∧
  (∀ L st M, zz_ev tX12_comeAll 95 L st M = zo_pushI 0 96 (zz_ev tX12_comeAll) L st M) ∧
  (∀ L st M, zz_ev tX12_comeAll 96 L st M = zo_istore 7 98 (zz_ev tX12_comeAll) L st M) ∧
  (∀ L st M, zz_ev tX12_comeAll 98 L st M = zo_iload 6 100 (zz_ev tX12_comeAll) L st M) ∧
  (∀ L st M, zz_ev tX12_comeAll 100 L st M = zo_if (fun x => decide (x = 0)) 121 103 (zz_ev tX12_comeAll) L st M) ∧
  (∀ L st M, zz_ev tX12_comeAll 103 L st M = zo_aload 0 104 (zz_ev tX12_comeAll) L st M) ∧
  (∀ L st M, zz_ev tX12_comeAll 104 L st M = zo_iload 4 106 (zz_ev tX12_comeAll) L st M) ∧
  (∀ L st M, zz_ev tX12_comeAll 106 L st M = zo_pushI 15 108 (zz_ev tX12_comeAll) L st M) ∧
  (∀ (L : zzLc) (a0 a1 : Int32) (r : List Value) (M : zzMd), zz_ev tX12_comeAll 108 L (.int a1 :: .int a0 :: .ref 0 :: r) M = bif zz_cat8 r then zz_backN (zz_ev tX12_comeAll) 111 L r (fX12_viewed [.ref 0, .int a0, .int a1] M) else none) ∧
  (∀ L st M, zz_ev tX12_comeAll 111 L st M = zo_iload 2 112 (zz_ev tX12_comeAll) L st M) ∧
  (∀ L st M, zz_ev tX12_comeAll 112 L st M = zo_pushI 1 113 (zz_ev tX12_comeAll) L st M) ∧
  (∀ L st M, zz_ev tX12_comeAll 113 L st M = zo_ii (fun x y => x + y) 114 (zz_ev tX12_comeAll) L st M) ∧
  (∀ L st M, zz_ev tX12_comeAll 114 L st M = zo_icmp (fun x y => decide (¬ x = y)) 121 117 (zz_ev tX12_comeAll) L st M) ∧
  (∀ L st M, zz_ev tX12_comeAll 117 L st M = zo_pushI 1 118 (zz_ev tX12_comeAll) L st M) ∧
  (∀ L st M, zz_ev tX12_comeAll 118 L st M = zo_goto 122 (zz_ev tX12_comeAll) L st M) ∧
  (∀ L st M, zz_ev tX12_comeAll 121 L st M = zo_pushI 0 122 (zz_ev tX12_comeAll) L st M) ∧
  (∀ L st M, zz_ev tX12_comeAll 122 L st M = zo_istore 8 124 (zz_ev tX12_comeAll) L st M) ∧
  (∀ L st M, zz_ev tX12_comeAll 124 L st M = zo_iload 5 126 (zz_ev tX12_comeAll) L st M) ∧
  (∀ L st M, zz_ev tX12_comeAll 126 L st M = zo_if (fun x => decide (x = 0)) 147 129 (zz_ev tX12_comeAll) L st M) ∧
  (∀ L st M, zz_ev tX12_comeAll 129 L st M = zo_aload 0 130 (zz_ev tX12_comeAll) L st M) ∧
  (∀ L st M, zz_ev tX12_comeAll 130 L st M = zo_aload 0 131 (zz_ev tX12_comeAll) L st M) ∧
  (∀ L st M, zz_ev tX12_comeAll 131 L st M = zo_iload 4 133 (zz_ev tX12_comeAll) L st M) ∧
  (∀ (L : zzLc) (a0 : Int32) (r : List Value) (M : zzMd), zz_ev tX12_comeAll 133 L (.int a0 :: .ref 0 :: r) M = bif zz_cat8 r then zz_backN (zz_ev tX12_comeAll) 136 L r (fX12_view [.ref 0, .int a0] M) else none) ∧
  (∀ (L : zzLc) (a0 : Int64) (r : List Value) (M : zzMd), zz_ev tX12_comeAll 136 L (.long a0 :: .ref 0 :: r) M = bif zz_cat8 r then zz_backN (zz_ev tX12_comeAll) 139 L r (fX12_ownerIn [.ref 0, .long a0] M) else none) ∧
  (∀ L st M, zz_ev tX12_comeAll 139 L st M = zo_iload 2 140 (zz_ev tX12_comeAll) L st M) ∧
  (∀ L st M, zz_ev tX12_comeAll 140 L st M = zo_icmp (fun x y => decide (¬ x = y)) 147 143 (zz_ev tX12_comeAll) L st M) ∧
  (∀ L st M, zz_ev tX12_comeAll 143 L st M = zo_pushI 1 144 (zz_ev tX12_comeAll) L st M) ∧
  (∀ L st M, zz_ev tX12_comeAll 144 L st M = zo_goto 148 (zz_ev tX12_comeAll) L st M) ∧
  (∀ L st M, zz_ev tX12_comeAll 147 L st M = zo_pushI 0 148 (zz_ev tX12_comeAll) L st M) ∧
  (∀ L st M, zz_ev tX12_comeAll 148 L st M = zo_istore 9 150 (zz_ev tX12_comeAll) L st M) ∧
  (∀ L st M, zz_ev tX12_comeAll 150 L st M = zo_iload 1 151 (zz_ev tX12_comeAll) L st M) ∧
  (∀ L st M, zz_ev tX12_comeAll 151 L st M = zo_if (fun x => decide (¬ x = 0)) 178 154 (zz_ev tX12_comeAll) L st M) ∧
  (∀ L st M, zz_ev tX12_comeAll 154 L st M = zo_iload 5 156 (zz_ev tX12_comeAll) L st M) ∧
  (∀ L st M, zz_ev tX12_comeAll 156 L st M = zo_if (fun x => decide (x = 0)) 174 159 (zz_ev tX12_comeAll) L st M) ∧
  (∀ L st M, zz_ev tX12_comeAll 159 L st M = zo_aload 0 160 (zz_ev tX12_comeAll) L st M) ∧
  (∀ (L : zzLc) (r : List Value) (M : zzMd), zz_ev tX12_comeAll 160 L (.ref 0 :: r) M = zz_ev tX12_comeAll 163 L (.ref 6 :: r) M) ∧
  (∀ L st M, zz_ev tX12_comeAll 163 L st M = zo_iload 4 165 (zz_ev tX12_comeAll) L st M) ∧
  (∀ L st M, zz_ev tX12_comeAll 165 L st M = zo_iald zzSR zzSTR 166 (zz_ev tX12_comeAll) L st M) ∧
  (∀ L st M, zz_ev tX12_comeAll 166 L st M = zo_pushI 5 167 (zz_ev tX12_comeAll) L st M) ∧
  (∀ L st M, zz_ev tX12_comeAll 167 L st M = zo_icmp (fun x y => decide (¬ x = y)) 174 170 (zz_ev tX12_comeAll) L st M) ∧
  (∀ L st M, zz_ev tX12_comeAll 170 L st M = zo_pushI 1 171 (zz_ev tX12_comeAll) L st M) ∧
  (∀ L st M, zz_ev tX12_comeAll 171 L st M = zo_goto 200 (zz_ev tX12_comeAll) L st M) ∧
  (∀ L st M, zz_ev tX12_comeAll 174 L st M = zo_pushI 0 175 (zz_ev tX12_comeAll) L st M) ∧
  (∀ L st M, zz_ev tX12_comeAll 175 L st M = zo_goto 200 (zz_ev tX12_comeAll) L st M) ∧
  (∀ L st M, zz_ev tX12_comeAll 178 L st M = zo_iload 1 179 (zz_ev tX12_comeAll) L st M) ∧
  (∀ L st M, zz_ev tX12_comeAll 179 L st M = zo_pushI 1 180 (zz_ev tX12_comeAll) L st M) ∧
  (∀ L st M, zz_ev tX12_comeAll 180 L st M = zo_icmp (fun x y => decide (¬ x = y)) 188 183 (zz_ev tX12_comeAll) L st M) ∧
  (∀ L st M, zz_ev tX12_comeAll 183 L st M = zo_iload 7 185 (zz_ev tX12_comeAll) L st M) ∧
  (∀ L st M, zz_ev tX12_comeAll 185 L st M = zo_goto 200 (zz_ev tX12_comeAll) L st M) ∧
  (∀ L st M, zz_ev tX12_comeAll 188 L st M = zo_iload 1 189 (zz_ev tX12_comeAll) L st M) ∧
  (∀ L st M, zz_ev tX12_comeAll 189 L st M = zo_pushI 2 190 (zz_ev tX12_comeAll) L st M) ∧
  (∀ L st M, zz_ev tX12_comeAll 190 L st M = zo_icmp (fun x y => decide (¬ x = y)) 198 193 (zz_ev tX12_comeAll) L st M) ∧
  (∀ L st M, zz_ev tX12_comeAll 193 L st M = zo_iload 8 195 (zz_ev tX12_comeAll) L st M) ∧
  (∀ L st M, zz_ev tX12_comeAll 195 L st M = zo_goto 200 (zz_ev tX12_comeAll) L st M) ∧
  (∀ L st M, zz_ev tX12_comeAll 198 L st M = zo_iload 9 200 (zz_ev tX12_comeAll) L st M) ∧
  (∀ L st M, zz_ev tX12_comeAll 200 L st M = zo_istore 10 202 (zz_ev tX12_comeAll) L st M) ∧
  (∀ L st M, zz_ev tX12_comeAll 202 L st M = zo_iload 3 203 (zz_ev tX12_comeAll) L st M) ∧
  (∀ L st M, zz_ev tX12_comeAll 203 L st M = zo_iload 10 205 (zz_ev tX12_comeAll) L st M) ∧
  (∀ L st M, zz_ev tX12_comeAll 205 L st M = zo_if (fun x => decide (x = 0)) 217 208 (zz_ev tX12_comeAll) L st M) ∧
  (∀ L st M, zz_ev tX12_comeAll 208 L st M = zo_aload 0 209 (zz_ev tX12_comeAll) L st M) ∧
  (∀ L st M, zz_ev tX12_comeAll 209 L st M = zo_iload 4 211 (zz_ev tX12_comeAll) L st M) ∧
  (∀ (L : zzLc) (a0 : Int32) (r : List Value) (M : zzMd), zz_ev tX12_comeAll 211 L (.int a0 :: .ref 0 :: r) M = bif zz_cat8 r then zz_backN (zz_ev tX12_comeAll) 214 L r (fX12_comes [.ref 0, .int a0] M) else none) ∧
  (∀ L st M, zz_ev tX12_comeAll 214 L st M = zo_goto 218 (zz_ev tX12_comeAll) L st M) ∧
  (∀ L st M, zz_ev tX12_comeAll 217 L st M = zo_pushI 0 218 (zz_ev tX12_comeAll) L st M) ∧
  (∀ L st M, zz_ev tX12_comeAll 218 L st M = zo_ii (fun x y => x + y) 219 (zz_ev tX12_comeAll) L st M) ∧
  (∀ L st M, zz_ev tX12_comeAll 219 L st M = zo_istore 3 220 (zz_ev tX12_comeAll) L st M) ∧
  (∀ L st M, zz_ev tX12_comeAll 220 L st M = zo_iinc 4 1 223 (zz_ev tX12_comeAll) L st M) ∧
  (∀ L st M, zz_ev tX12_comeAll 223 L st M = zo_goto 5 (zz_ev tX12_comeAll) L st M) ∧
  (∀ L st M, zz_ev tX12_comeAll 226 L st M = zo_iload 3 227 (zz_ev tX12_comeAll) L st M) ∧
  (∀ L st M, zz_ev tX12_comeAll 227 L st M = zo_iret false (zz_ev tX12_comeAll) L st M) :=
  ⟨zz_1 rfl tl_X12_comeAll, zz_1 rfl tl_X12_comeAll, zz_1 rfl tl_X12_comeAll, zz_1 rfl tl_X12_comeAll, zz_1 rfl tl_X12_comeAll, fun L r M => (zz_1 rfl tl_X12_comeAll _ _ _).trans rfl, zz_1 rfl tl_X12_comeAll, zz_1 rfl tl_X12_comeAll, zz_1 rfl tl_X12_comeAll, fun L a0 r M => (zz_1 rfl tl_X12_comeAll _ _ _).trans rfl, zz_1 rfl tl_X12_comeAll, zz_1 rfl tl_X12_comeAll, zz_1 rfl tl_X12_comeAll, zz_1 rfl tl_X12_comeAll, zz_1 rfl tl_X12_comeAll, zz_1 rfl tl_X12_comeAll, zz_1 rfl tl_X12_comeAll, zz_1 rfl tl_X12_comeAll, fun L r M => (zz_1 rfl tl_X12_comeAll _ _ _).trans rfl, zz_1 rfl tl_X12_comeAll, zz_1 rfl tl_X12_comeAll, zz_1 rfl tl_X12_comeAll, zz_1 rfl tl_X12_comeAll, zz_1 rfl tl_X12_comeAll, zz_1 rfl tl_X12_comeAll, zz_1 rfl tl_X12_comeAll, zz_1 rfl tl_X12_comeAll, zz_1 rfl tl_X12_comeAll, zz_1 rfl tl_X12_comeAll, zz_1 rfl tl_X12_comeAll, zz_1 rfl tl_X12_comeAll, zz_1 rfl tl_X12_comeAll, fun L a0 a1 r M => (zz_1 rfl tl_X12_comeAll _ _ _).trans rfl, zz_1 rfl tl_X12_comeAll, zz_1 rfl tl_X12_comeAll, zz_1 rfl tl_X12_comeAll, zz_1 rfl tl_X12_comeAll, fun L a0 a1 r M => (zz_1 rfl tl_X12_comeAll _ _ _).trans rfl, zz_1 rfl tl_X12_comeAll, zz_1 rfl tl_X12_comeAll, zz_1 rfl tl_X12_comeAll, zz_1 rfl tl_X12_comeAll, fun L a0 a1 r M => (zz_1 rfl tl_X12_comeAll _ _ _).trans rfl, zz_1 rfl tl_X12_comeAll, zz_1 rfl tl_X12_comeAll, zz_1 rfl tl_X12_comeAll, zz_1 rfl tl_X12_comeAll, zz_1 rfl tl_X12_comeAll, zz_1 rfl tl_X12_comeAll, zz_1 rfl tl_X12_comeAll, zz_1 rfl tl_X12_comeAll, zz_1 rfl tl_X12_comeAll, zz_1 rfl tl_X12_comeAll, fun L a0 a1 r M => (zz_1 rfl tl_X12_comeAll _ _ _).trans rfl, zz_1 rfl tl_X12_comeAll, zz_1 rfl tl_X12_comeAll, zz_1 rfl tl_X12_comeAll, zz_1 rfl tl_X12_comeAll, zz_1 rfl tl_X12_comeAll, zz_1 rfl tl_X12_comeAll, zz_1 rfl tl_X12_comeAll, zz_1 rfl tl_X12_comeAll, zz_1 rfl tl_X12_comeAll, zz_1 rfl tl_X12_comeAll, zz_1 rfl tl_X12_comeAll, zz_1 rfl tl_X12_comeAll, zz_1 rfl tl_X12_comeAll, fun L a0 r M => (zz_1 rfl tl_X12_comeAll _ _ _).trans rfl, fun L a0 r M => (zz_1 rfl tl_X12_comeAll _ _ _).trans rfl, zz_1 rfl tl_X12_comeAll, zz_1 rfl tl_X12_comeAll, zz_1 rfl tl_X12_comeAll, zz_1 rfl tl_X12_comeAll, zz_1 rfl tl_X12_comeAll, zz_1 rfl tl_X12_comeAll, zz_1 rfl tl_X12_comeAll, zz_1 rfl tl_X12_comeAll, zz_1 rfl tl_X12_comeAll, zz_1 rfl tl_X12_comeAll, zz_1 rfl tl_X12_comeAll, fun L r M => (zz_1 rfl tl_X12_comeAll _ _ _).trans rfl, zz_1 rfl tl_X12_comeAll, zz_1 rfl tl_X12_comeAll, zz_1 rfl tl_X12_comeAll, zz_1 rfl tl_X12_comeAll, zz_1 rfl tl_X12_comeAll, zz_1 rfl tl_X12_comeAll, zz_1 rfl tl_X12_comeAll, zz_1 rfl tl_X12_comeAll, zz_1 rfl tl_X12_comeAll, zz_1 rfl tl_X12_comeAll, zz_1 rfl tl_X12_comeAll, zz_1 rfl tl_X12_comeAll, zz_1 rfl tl_X12_comeAll, zz_1 rfl tl_X12_comeAll, zz_1 rfl tl_X12_comeAll, zz_1 rfl tl_X12_comeAll, zz_1 rfl tl_X12_comeAll, zz_1 rfl tl_X12_comeAll, zz_1 rfl tl_X12_comeAll, zz_1 rfl tl_X12_comeAll, zz_1 rfl tl_X12_comeAll, zz_1 rfl tl_X12_comeAll, zz_1 rfl tl_X12_comeAll, zz_1 rfl tl_X12_comeAll, zz_1 rfl tl_X12_comeAll, fun L a0 r M => (zz_1 rfl tl_X12_comeAll _ _ _).trans rfl, zz_1 rfl tl_X12_comeAll, zz_1 rfl tl_X12_comeAll, zz_1 rfl tl_X12_comeAll, zz_1 rfl tl_X12_comeAll, zz_1 rfl tl_X12_comeAll, zz_1 rfl tl_X12_comeAll, zz_1 rfl tl_X12_comeAll, zz_1 rfl tl_X12_comeAll⟩
set_option maxRecDepth 100000 in
theorem e_X12_comeAll_5 : (∀ L st M, zz_ev tX12_comeAll 5 L st M = zo_iload 4 7 (zz_ev tX12_comeAll) L st M) := zz_1 rfl tl_X12_comeAll
set_option maxRecDepth 100000 in
theorem s_X12_comeAll (a0 a1 : Int32) (v : Nat) (M : zzMd) : fX12_comeAll [.ref v, .int a0, .int a1] M = zz_ev tX12_comeAll 0 [some (.ref v), some (.int a0), some (.int a1), none, none, none, none, none, none, none, none] [] M := rfl
set_option maxRecDepth 100000 in
theorem e_X12_ownersOwner : (∀ L st M, zz_ev tX12_ownersOwner 0 L st M = zo_iload 1 1 (zz_ev tX12_ownersOwner) L st M) ∧
  (∀ L st M, zz_ev tX12_ownersOwner 1 L st M = zo_pushI (-1) 2 (zz_ev tX12_ownersOwner) L st M) ∧
  (∀ L st M, zz_ev tX12_ownersOwner 2 L st M = zo_icmp (fun x y => decide (x = y)) 35 5 (zz_ev tX12_ownersOwner) L st M) ∧
  (∀ L st M, zz_ev tX12_ownersOwner 5 L st M = zo_aload 0 6 (zz_ev tX12_ownersOwner) L st M) ∧
  (∀ (L : zzLc) (r : List Value) (M : zzMd), zz_ev tX12_ownersOwner 6 L (.ref 0 :: r) M = zz_ev tX12_ownersOwner 9 L (.ref 6 :: r) M) ∧
  (∀ L st M, zz_ev tX12_ownersOwner 9 L st M = zo_iload 1 10 (zz_ev tX12_ownersOwner) L st M) ∧
  (∀ L st M, zz_ev tX12_ownersOwner 10 L st M = zo_iald zzSR zzSTR 11 (zz_ev tX12_ownersOwner) L st M) ∧
  (∀ L st M, zz_ev tX12_ownersOwner 11 L st M = zo_pushI 1 12 (zz_ev tX12_ownersOwner) L st M) ∧
  (∀ L st M, zz_ev tX12_ownersOwner 12 L st M = zo_icmp (fun x y => decide (¬ x = y)) 35 15 (zz_ev tX12_ownersOwner) L st M) ∧
  (∀ L st M, zz_ev tX12_ownersOwner 15 L st M = zo_aload 0 16 (zz_ev tX12_ownersOwner) L st M) ∧
  (∀ L st M, zz_ev tX12_ownersOwner 16 L st M = zo_iload 1 17 (zz_ev tX12_ownersOwner) L st M) ∧
  (∀ (L : zzLc) (a0 : Int32) (r : List Value) (M : zzMd), zz_ev tX12_ownersOwner 17 L (.int a0 :: .ref 0 :: r) M = bif zz_cat8 r then zz_backN (zz_ev tX12_ownersOwner) 20 L r (fX12_isSeen [.ref 0, .int a0] M) else none) ∧
  (∀ L st M, zz_ev tX12_ownersOwner 20 L st M = zo_if (fun x => decide (x = 0)) 35 23 (zz_ev tX12_ownersOwner) L st M) ∧
  (∀ L st M, zz_ev tX12_ownersOwner 23 L st M = zo_aload 0 24 (zz_ev tX12_ownersOwner) L st M) ∧
  (∀ L st M, zz_ev tX12_ownersOwner 24 L st M = zo_aload 0 25 (zz_ev tX12_ownersOwner) L st M) ∧
  (∀ L st M, zz_ev tX12_ownersOwner 25 L st M = zo_iload 1 26 (zz_ev tX12_ownersOwner) L st M) ∧
  (∀ (L : zzLc) (a0 : Int32) (r : List Value) (M : zzMd), zz_ev tX12_ownersOwner 26 L (.int a0 :: .ref 0 :: r) M = bif zz_cat8 r then zz_backN (zz_ev tX12_ownersOwner) 29 L r (fX12_view [.ref 0, .int a0] M) else none) ∧
  (∀ (L : zzLc) (a0 : Int64) (r : List Value) (M : zzMd), zz_ev tX12_ownersOwner 29 L (.long a0 :: .ref 0 :: r) M = bif zz_cat8 r then zz_backN (zz_ev tX12_ownersOwner) 32 L r (fX12_ownerIn [.ref 0, .long a0] M) else none) ∧
  (∀ L st M, zz_ev tX12_ownersOwner 32 L st M = zo_goto 36 (zz_ev tX12_ownersOwner) L st M) ∧
  (∀ L st M, zz_ev tX12_ownersOwner 35 L st M = zo_pushI (-1) 36 (zz_ev tX12_ownersOwner) L st M) ∧
  (∀ L st M, zz_ev tX12_ownersOwner 36 L st M = zo_iret false (zz_ev tX12_ownersOwner) L st M) :=
  ⟨zz_1 rfl tl_X12_ownersOwner, zz_1 rfl tl_X12_ownersOwner, zz_1 rfl tl_X12_ownersOwner, zz_1 rfl tl_X12_ownersOwner, fun L r M => (zz_1 rfl tl_X12_ownersOwner _ _ _).trans rfl, zz_1 rfl tl_X12_ownersOwner, zz_1 rfl tl_X12_ownersOwner, zz_1 rfl tl_X12_ownersOwner, zz_1 rfl tl_X12_ownersOwner, zz_1 rfl tl_X12_ownersOwner, zz_1 rfl tl_X12_ownersOwner, fun L a0 r M => (zz_1 rfl tl_X12_ownersOwner _ _ _).trans rfl, zz_1 rfl tl_X12_ownersOwner, zz_1 rfl tl_X12_ownersOwner, zz_1 rfl tl_X12_ownersOwner, zz_1 rfl tl_X12_ownersOwner, fun L a0 r M => (zz_1 rfl tl_X12_ownersOwner _ _ _).trans rfl, fun L a0 r M => (zz_1 rfl tl_X12_ownersOwner _ _ _).trans rfl, zz_1 rfl tl_X12_ownersOwner, zz_1 rfl tl_X12_ownersOwner, zz_1 rfl tl_X12_ownersOwner⟩
set_option maxRecDepth 100000 in
theorem s_X12_ownersOwner (a0 : Int32) (v : Nat) (M : zzMd) : fX12_ownersOwner [.ref v, .int a0] M = zz_ev tX12_ownersOwner 0 [some (.ref v), some (.int a0)] [] M := rfl
set_option maxRecDepth 100000 in
theorem e_X12_keys : (∀ L st M, zz_ev tX12_keys 0 L st M = zo_aload 0 1 (zz_ev tX12_keys) L st M) ∧
  (∀ (L : zzLc) (r : List Value) (M : zzMd), zz_ev tX12_keys 1 L (.ref 0 :: r) M = zz_ev tX12_keys 4 L (.ref 6 :: r) M) ∧
  (∀ L st M, zz_ev tX12_keys 4 L st M = zo_iload 1 5 (zz_ev tX12_keys) L st M) ∧
  (∀ L st M, zz_ev tX12_keys 5 L st M = zo_iald zzSR zzSTR 6 (zz_ev tX12_keys) L st M) ∧
  (∀ L st M, zz_ev tX12_keys 6 L st M = zo_istore 3 7 (zz_ev tX12_keys) L st M) ∧
  (∀ L st M, zz_ev tX12_keys 7 L st M = zo_aload 0 8 (zz_ev tX12_keys) L st M) ∧
  (∀ (L : zzLc) (r : List Value) (M : zzMd), zz_ev tX12_keys 8 L (.ref 0 :: r) M = zz_ev tX12_keys 11 L (.int (M.1 0 42) :: r) M) ∧
  (∀ L st M, zz_ev tX12_keys 11 L st M = zo_pushI 5 12 (zz_ev tX12_keys) L st M) ∧
  (∀ L st M, zz_ev tX12_keys 12 L st M = zo_icmp (fun x y => decide (¬ x = y)) 43 15 (zz_ev tX12_keys) L st M) ∧
  (∀ L st M, zz_ev tX12_keys 15 L st M = zo_aload 0 16 (zz_ev tX12_keys) L st M) ∧
  (∀ L st M, zz_ev tX12_keys 16 L st M = zo_iload 1 17 (zz_ev tX12_keys) L st M) ∧
  (∀ (L : zzLc) (a0 : Int32) (r : List Value) (M : zzMd), zz_ev tX12_keys 17 L (.int a0 :: .ref 0 :: r) M = bif zz_cat8 r then zz_backN (zz_ev tX12_keys) 20 L r (fX12_comes [.ref 0, .int a0] M) else none) ∧
  (∀ L st M, zz_ev tX12_keys 20 L st M = zo_iload 2 21 (zz_ev tX12_keys) L st M) ∧
  (∀ L st M, zz_ev tX12_keys 21 L st M = zo_pushI (-1) 22 (zz_ev tX12_keys) L st M) ∧
  (∀ L st M, zz_ev tX12_keys 22 L st M = zo_icmp (fun x y => decide (¬ x = y)) 29 25 (zz_ev tX12_keys) L st M) ∧
  (∀ L st M, zz_ev tX12_keys 25 L st M = zo_pushI 0 26 (zz_ev tX12_keys) L st M) ∧
  (∀ L st M, zz_ev tX12_keys 26 L st M = zo_goto 34 (zz_ev tX12_keys) L st M) ∧
  (∀ L st M, zz_ev tX12_keys 29 L st M = zo_aload 0 30 (zz_ev tX12_keys) L st M) ∧
  (∀ L st M, zz_ev tX12_keys 30 L st M = zo_iload 2 31 (zz_ev tX12_keys) L st M) ∧
  (∀ (L : zzLc) (a0 : Int32) (r : List Value) (M : zzMd), zz_ev tX12_keys 31 L (.int a0 :: .ref 0 :: r) M = bif zz_cat8 r then zz_backN (zz_ev tX12_keys) 34 L r (fX12_comes [.ref 0, .int a0] M) else none) ∧
  (∀ L st M, zz_ev tX12_keys 34 L st M = zo_ii (fun x y => x + y) 35 (zz_ev tX12_keys) L st M) ∧
  (∀ L st M, zz_ev tX12_keys 35 L st M = zo_aload 0 36 (zz_ev tX12_keys) L st M) ∧
  (∀ L st M, zz_ev tX12_keys 36 L st M = zo_pushI 3 37 (zz_ev tX12_keys) L st M) ∧
  (∀ L st M, zz_ev tX12_keys 37 L st M = zo_iload 1 38 (zz_ev tX12_keys) L st M) ∧
  (∀ (L : zzLc) (a0 a1 : Int32) (r : List Value) (M : zzMd), zz_ev tX12_keys 38 L (.int a1 :: .int a0 :: .ref 0 :: r) M = bif zz_cat8 r then zz_backN (zz_ev tX12_keys) 41 L r (fX12_comeAll [.ref 0, .int a0, .int a1] M) else none) ∧
  (∀ L st M, zz_ev tX12_keys 41 L st M = zo_ii (fun x y => x + y) 42 (zz_ev tX12_keys) L st M) ∧
  (∀ L st M, zz_ev tX12_keys 42 L st M = zo_iret false (zz_ev tX12_keys) L st M) ∧
  (∀ L st M, zz_ev tX12_keys 43 L st M = zo_iload 3 44 (zz_ev tX12_keys) L st M) ∧
  (∀ L st M, zz_ev tX12_keys 44 L st M = zo_aload 0 45 (zz_ev tX12_keys) L st M) ∧
  (∀ (L : zzLc) (r : List Value) (M : zzMd), zz_ev tX12_keys 45 L (.ref 0 :: r) M = bif zz_cat8 r then zz_backN (zz_ev tX12_keys) 48 L r (fX12_ownKind [.ref 0] M) else none) ∧
  (∀ L st M, zz_ev tX12_keys 48 L st M = zo_icmp (fun x y => decide (¬ x = y)) 59 51 (zz_ev tX12_keys) L st M) ∧
  (∀ L st M, zz_ev tX12_keys 51 L st M = zo_aload 0 52 (zz_ev tX12_keys) L st M) ∧
  (∀ L st M, zz_ev tX12_keys 52 L st M = zo_iload 1 53 (zz_ev tX12_keys) L st M) ∧
  (∀ (L : zzLc) (a0 : Int32) (r : List Value) (M : zzMd), zz_ev tX12_keys 53 L (.int a0 :: .ref 0 :: r) M = bif zz_cat8 r then zz_backN (zz_ev tX12_keys) 56 L r (fX12_comes [.ref 0, .int a0] M) else none) ∧
  (∀ L st M, zz_ev tX12_keys 56 L st M = zo_goto 60 (zz_ev tX12_keys) L st M) ∧
  (∀ L st M, zz_ev tX12_keys 59 L st M = zo_pushI 0 60 (zz_ev tX12_keys) L st M) ∧
  (∀ L st M, zz_ev tX12_keys 60 L st M = zo_istore 4 62 (zz_ev tX12_keys) L st M) ∧
  (∀ L st M, zz_ev tX12_keys 62 L st M = zo_aload 0 63 (zz_ev tX12_keys) L st M) ∧
  (∀ (L : zzLc) (r : List Value) (M : zzMd), zz_ev tX12_keys 63 L (.ref 0 :: r) M = zz_ev tX12_keys 66 L (.int (M.1 0 42) :: r) M) ∧
  (∀ L st M, zz_ev tX12_keys 66 L st M = zo_if (fun x => decide (¬ x = 0)) 96 69 (zz_ev tX12_keys) L st M) ∧
  (∀ L st M, zz_ev tX12_keys 69 L st M = zo_iload 3 70 (zz_ev tX12_keys) L st M) ∧
  (∀ L st M, zz_ev tX12_keys 70 L st M = zo_pushI 1 71 (zz_ev tX12_keys) L st M) ∧
  (∀ L st M, zz_ev tX12_keys 71 L st M = zo_icmp (fun x y => decide (¬ x = y)) 96 74 (zz_ev tX12_keys) L st M) ∧
  (∀ L st M, zz_ev tX12_keys 74 L st M = zo_iload 4 76 (zz_ev tX12_keys) L st M) ∧
  (∀ L st M, zz_ev tX12_keys 76 L st M = zo_iload 2 77 (zz_ev tX12_keys) L st M) ∧
  (∀ L st M, zz_ev tX12_keys 77 L st M = zo_pushI (-1) 78 (zz_ev tX12_keys) L st M) ∧
  (∀ L st M, zz_ev tX12_keys 78 L st M = zo_icmp (fun x y => decide (¬ x = y)) 85 81 (zz_ev tX12_keys) L st M) ∧
  (∀ L st M, zz_ev tX12_keys 81 L st M = zo_pushI 0 82 (zz_ev tX12_keys) L st M) ∧
  (∀ L st M, zz_ev tX12_keys 82 L st M = zo_goto 90 (zz_ev tX12_keys) L st M) ∧
  (∀ L st M, zz_ev tX12_keys 85 L st M = zo_aload 0 86 (zz_ev tX12_keys) L st M) ∧
  (∀ L st M, zz_ev tX12_keys 86 L st M = zo_iload 2 87 (zz_ev tX12_keys) L st M) ∧
  (∀ (L : zzLc) (a0 : Int32) (r : List Value) (M : zzMd), zz_ev tX12_keys 87 L (.int a0 :: .ref 0 :: r) M = bif zz_cat8 r then zz_backN (zz_ev tX12_keys) 90 L r (fX12_comes [.ref 0, .int a0] M) else none) ∧
  (∀ L st M, zz_ev tX12_keys 90 L st M = zo_ii (fun x y => x + y) 91 (zz_ev tX12_keys) L st M) ∧
  (∀ L st M, zz_ev tX12_keys 91 L st M = zo_istore 4 93 (zz_ev tX12_keys) L st M) ∧
  (∀ L st M, zz_ev tX12_keys 93 L st M = zo_goto 264 (zz_ev tX12_keys) L st M) ∧
  (∀ L st M, zz_ev tX12_keys 96 L st M = zo_aload 0 97 (zz_ev tX12_keys) L st M) ∧
  (∀ (L : zzLc) (r : List Value) (M : zzMd), zz_ev tX12_keys 97 L (.ref 0 :: r) M = zz_ev tX12_keys 100 L (.int (M.1 0 42) :: r) M) ∧
  (∀ L st M, zz_ev tX12_keys 100 L st M = zo_if (fun x => decide (¬ x = 0)) 138 103 (zz_ev tX12_keys) L st M) ∧
  (∀ L st M, zz_ev tX12_keys 103 L st M = zo_iload 3 104 (zz_ev tX12_keys) L st M) ∧
  (∀ L st M, zz_ev tX12_keys 104 L st M = zo_pushI 2 105 (zz_ev tX12_keys) L st M) ∧
  (∀ L st M, zz_ev tX12_keys 105 L st M = zo_icmp (fun x y => decide (¬ x = y)) 138 108 (zz_ev tX12_keys) L st M) ∧
  (∀ L st M, zz_ev tX12_keys 108 L st M = zo_iload 4 110 (zz_ev tX12_keys) L st M) ∧
  (∀ L st M, zz_ev tX12_keys 110 L st M = zo_aload 0 111 (zz_ev tX12_keys) L st M) ∧
  (∀ L st M, zz_ev tX12_keys 111 L st M = zo_iload 2 112 (zz_ev tX12_keys) L st M) ∧
  (∀ (L : zzLc) (a0 : Int32) (r : List Value) (M : zzMd), zz_ev tX12_keys 112 L (.int a0 :: .ref 0 :: r) M = bif zz_cat8 r then zz_backN (zz_ev tX12_keys) 115 L r (fX12_ownersOwner [.ref 0, .int a0] M) else none) ∧
  (∀ L st M, zz_ev tX12_keys 115 L st M = zo_pushI (-1) 116 (zz_ev tX12_keys) L st M) ∧
  (∀ L st M, zz_ev tX12_keys 116 L st M = zo_icmp (fun x y => decide (¬ x = y)) 123 119 (zz_ev tX12_keys) L st M) ∧
  (∀ L st M, zz_ev tX12_keys 119 L st M = zo_pushI 0 120 (zz_ev tX12_keys) L st M) ∧
  (∀ L st M, zz_ev tX12_keys 120 L st M = zo_goto 132 (zz_ev tX12_keys) L st M) ∧
  (∀ L st M, zz_ev tX12_keys 123 L st M = zo_aload 0 124 (zz_ev tX12_keys) L st M) ∧
  (∀ L st M, zz_ev tX12_keys 124 L st M = zo_aload 0 125 (zz_ev tX12_keys) L st M) ∧
  (∀ L st M, zz_ev tX12_keys 125 L st M = zo_iload 2 126 (zz_ev tX12_keys) L st M) ∧
  (∀ (L : zzLc) (a0 : Int32) (r : List Value) (M : zzMd), zz_ev tX12_keys 126 L (.int a0 :: .ref 0 :: r) M = bif zz_cat8 r then zz_backN (zz_ev tX12_keys) 129 L r (fX12_ownersOwner [.ref 0, .int a0] M) else none) ∧
  (∀ (L : zzLc) (a0 : Int32) (r : List Value) (M : zzMd), zz_ev tX12_keys 129 L (.int a0 :: .ref 0 :: r) M = bif zz_cat8 r then zz_backN (zz_ev tX12_keys) 132 L r (fX12_comes [.ref 0, .int a0] M) else none) ∧
  (∀ L st M, zz_ev tX12_keys 132 L st M = zo_ii (fun x y => x + y) 133 (zz_ev tX12_keys) L st M) ∧
  (∀ L st M, zz_ev tX12_keys 133 L st M = zo_istore 4 135 (zz_ev tX12_keys) L st M) ∧
  (∀ L st M, zz_ev tX12_keys 135 L st M = zo_goto 264 (zz_ev tX12_keys) L st M) ∧
  (∀ L st M, zz_ev tX12_keys 138 L st M = zo_aload 0 139 (zz_ev tX12_keys) L st M) ∧
  (∀ (L : zzLc) (r : List Value) (M : zzMd), zz_ev tX12_keys 139 L (.ref 0 :: r) M = zz_ev tX12_keys 142 L (.int (M.1 0 42) :: r) M) ∧
  (∀ L st M, zz_ev tX12_keys 142 L st M = zo_pushI 1 143 (zz_ev tX12_keys) L st M) ∧
  (∀ L st M, zz_ev tX12_keys 143 L st M = zo_icmp (fun x y => decide (x = y)) 154 146 (zz_ev tX12_keys) L st M) ∧
  (∀ L st M, zz_ev tX12_keys 146 L st M = zo_aload 0 147 (zz_ev tX12_keys) L st M) ∧
  (∀ (L : zzLc) (r : List Value) (M : zzMd), zz_ev tX12_keys 147 L (.ref 0 :: r) M = zz_ev tX12_keys 150 L (.int (M.1 0 42) :: r) M) ∧
  (∀ L st M, zz_ev tX12_keys 150 L st M = zo_pushI 2 151 (zz_ev tX12_keys) L st M) ∧
  (∀ L st M, zz_ev tX12_keys 151 L st M = zo_icmp (fun x y => decide (¬ x = y)) 185 154 (zz_ev tX12_keys) L st M) ∧
  (∀ L st M, zz_ev tX12_keys 154 L st M = zo_iload 3 155 (zz_ev tX12_keys) L st M) ∧
  (∀ L st M, zz_ev tX12_keys 155 L st M = zo_pushI 2 156 (zz_ev tX12_keys) L st M) ∧
  (∀ L st M, zz_ev tX12_keys 156 L st M = zo_icmp (fun x y => decide (¬ x = y)) 185 159 (zz_ev tX12_keys) L st M) ∧
  (∀ L st M, zz_ev tX12_keys 159 L st M = zo_iload 4 161 (zz_ev tX12_keys) L st M) ∧
  (∀ L st M, zz_ev tX12_keys 161 L st M = zo_aload 0 162 (zz_ev tX12_keys) L st M) ∧
  (∀ L st M, zz_ev tX12_keys 162 L st M = zo_iload 2 163 (zz_ev tX12_keys) L st M) ∧
  (∀ L st M, zz_ev tX12_keys 163 L st M = zo_aload 0 164 (zz_ev tX12_keys) L st M) ∧
  (∀ (L : zzLc) (r : List Value) (M : zzMd), zz_ev tX12_keys 164 L (.ref 0 :: r) M = zz_ev tX12_keys 167 L (.int (M.1 0 42) :: r) M) ∧
  (∀ L st M, zz_ev tX12_keys 167 L st M = zo_pushI 1 168 (zz_ev tX12_keys) L st M) ∧
  (∀ L st M, zz_ev tX12_keys 168 L st M = zo_icmp (fun x y => decide (¬ x = y)) 175 171 (zz_ev tX12_keys) L st M) ∧
  (∀ L st M, zz_ev tX12_keys 171 L st M = zo_pushI 1 172 (zz_ev tX12_keys) L st M) ∧
  (∀ L st M, zz_ev tX12_keys 172 L st M = zo_goto 176 (zz_ev tX12_keys) L st M) ∧
  (∀ L st M, zz_ev tX12_keys 175 L st M = zo_pushI 3 176 (zz_ev tX12_keys) L st M) ∧
  (∀ (L : zzLc) (a0 a1 : Int32) (r : List Value) (M : zzMd), zz_ev tX12_keys 176 L (.int a1 :: .int a0 :: .ref 0 :: r) M = bif zz_cat8 r then zz_backN (zz_ev tX12_keys) 179 L r (fX12_comesIf [.ref 0, .int a0, .int a1] M) else none) ∧
  (∀ L st M, zz_ev tX12_keys 179 L st M = zo_ii (fun x y => x + y) 180 (zz_ev tX12_keys) L st M) ∧
  (∀ L st M, zz_ev tX12_keys 180 L st M = zo_istore 4 182 (zz_ev tX12_keys) L st M) ∧
  (∀ L st M, zz_ev tX12_keys 182 L st M = zo_goto 264 (zz_ev tX12_keys) L st M) ∧
  (∀ L st M, zz_ev tX12_keys 185 L st M = zo_aload 0 186 (zz_ev tX12_keys) L st M) ∧
  (∀ (L : zzLc) (r : List Value) (M : zzMd), zz_ev tX12_keys 186 L (.ref 0 :: r) M = zz_ev tX12_keys 189 L (.int (M.1 0 42) :: r) M) ∧
  (∀ L st M, zz_ev tX12_keys 189 L st M = zo_pushI 3 190 (zz_ev tX12_keys) L st M) ∧
  (∀ L st M, zz_ev tX12_keys 190 L st M = zo_icmp (fun x y => decide (¬ x = y)) 212 193 (zz_ev tX12_keys) L st M) ∧
  (∀ L st M, zz_ev tX12_keys 193 L st M = zo_iload 3 194 (zz_ev tX12_keys) L st M) ∧
  (∀ L st M, zz_ev tX12_keys 194 L st M = zo_pushI 4 195 (zz_ev tX12_keys) L st M) ∧
  (∀ L st M, zz_ev tX12_keys 195 L st M = zo_icmp (fun x y => decide (¬ x = y)) 212 198 (zz_ev tX12_keys) L st M) ∧
  (∀ L st M, zz_ev tX12_keys 198 L st M = zo_iload 4 200 (zz_ev tX12_keys) L st M) ∧
  (∀ L st M, zz_ev tX12_keys 200 L st M = zo_aload 0 201 (zz_ev tX12_keys) L st M) ∧
  (∀ L st M, zz_ev tX12_keys 201 L st M = zo_pushI 1 202 (zz_ev tX12_keys) L st M) ∧
  (∀ L st M, zz_ev tX12_keys 202 L st M = zo_iload 1 203 (zz_ev tX12_keys) L st M) ∧
  (∀ (L : zzLc) (a0 a1 : Int32) (r : List Value) (M : zzMd), zz_ev tX12_keys 203 L (.int a1 :: .int a0 :: .ref 0 :: r) M = bif zz_cat8 r then zz_backN (zz_ev tX12_keys) 206 L r (fX12_comeAll [.ref 0, .int a0, .int a1] M) else none) ∧
  (∀ L st M, zz_ev tX12_keys 206 L st M = zo_ii (fun x y => x + y) 207 (zz_ev tX12_keys) L st M) ∧
  (∀ L st M, zz_ev tX12_keys 207 L st M = zo_istore 4 209 (zz_ev tX12_keys) L st M) ∧
  (∀ L st M, zz_ev tX12_keys 209 L st M = zo_goto 264 (zz_ev tX12_keys) L st M) ∧
  (∀ L st M, zz_ev tX12_keys 212 L st M = zo_aload 0 213 (zz_ev tX12_keys) L st M) ∧
  (∀ (L : zzLc) (r : List Value) (M : zzMd), zz_ev tX12_keys 213 L (.ref 0 :: r) M = zz_ev tX12_keys 216 L (.int (M.1 0 42) :: r) M) ∧
  (∀ L st M, zz_ev tX12_keys 216 L st M = zo_pushI 4 217 (zz_ev tX12_keys) L st M) ∧
  (∀ L st M, zz_ev tX12_keys 217 L st M = zo_icmp (fun x y => decide (¬ x = y)) 239 220 (zz_ev tX12_keys) L st M) ∧
  (∀ L st M, zz_ev tX12_keys 220 L st M = zo_iload 3 221 (zz_ev tX12_keys) L st M) ∧
  (∀ L st M, zz_ev tX12_keys 221 L st M = zo_pushI 4 222 (zz_ev tX12_keys) L st M) ∧
  (∀ L st M, zz_ev tX12_keys 222 L st M = zo_icmp (fun x y => decide (¬ x = y)) 239 225 (zz_ev tX12_keys) L st M) ∧
  (∀ L st M, zz_ev tX12_keys 225 L st M = zo_iload 4 227 (zz_ev tX12_keys) L st M) ∧
  (∀ L st M, zz_ev tX12_keys 227 L st M = zo_aload 0 228 (zz_ev tX12_keys) L st M) ∧
  (∀ L st M, zz_ev tX12_keys 228 L st M = zo_pushI 2 229 (zz_ev tX12_keys) L st M) ∧
  (∀ L st M, zz_ev tX12_keys 229 L st M = zo_iload 1 230 (zz_ev tX12_keys) L st M) ∧
  (∀ (L : zzLc) (a0 a1 : Int32) (r : List Value) (M : zzMd), zz_ev tX12_keys 230 L (.int a1 :: .int a0 :: .ref 0 :: r) M = bif zz_cat8 r then zz_backN (zz_ev tX12_keys) 233 L r (fX12_comeAll [.ref 0, .int a0, .int a1] M) else none) ∧
  (∀ L st M, zz_ev tX12_keys 233 L st M = zo_ii (fun x y => x + y) 234 (zz_ev tX12_keys) L st M) ∧
  (∀ L st M, zz_ev tX12_keys 234 L st M = zo_istore 4 236 (zz_ev tX12_keys) L st M) ∧
  (∀ L st M, zz_ev tX12_keys 236 L st M = zo_goto 264 (zz_ev tX12_keys) L st M) ∧
  (∀ L st M, zz_ev tX12_keys 239 L st M = zo_aload 0 240 (zz_ev tX12_keys) L st M) ∧
  (∀ (L : zzLc) (r : List Value) (M : zzMd), zz_ev tX12_keys 240 L (.ref 0 :: r) M = zz_ev tX12_keys 243 L (.int (M.1 0 42) :: r) M) ∧
  (∀ L st M, zz_ev tX12_keys 243 L st M = zo_pushI 6 245 (zz_ev tX12_keys) L st M) ∧
  (∀ L st M, zz_ev tX12_keys 245 L st M = zo_icmp (fun x y => decide (¬ x = y)) 264 248 (zz_ev tX12_keys) L st M) ∧
  (∀ L st M, zz_ev tX12_keys 248 L st M = zo_iload 3 249 (zz_ev tX12_keys) L st M) ∧
  (∀ L st M, zz_ev tX12_keys 249 L st M = zo_pushI 2 250 (zz_ev tX12_keys) L st M) ∧
  (∀ L st M, zz_ev tX12_keys 250 L st M = zo_icmp (fun x y => decide (¬ x = y)) 264 253 (zz_ev tX12_keys) L st M) ∧
  (∀ L st M, zz_ev tX12_keys 253 L st M = zo_iload 4 255 (zz_ev tX12_keys) L st M) ∧
  (∀ L st M, zz_ev tX12_keys 255 L st M = zo_aload 0 256 (zz_ev tX12_keys) L st M) ∧
  (∀ L st M, zz_ev tX12_keys 256 L st M = zo_pushI 0 257 (zz_ev tX12_keys) L st M) ∧
  (∀ L st M, zz_ev tX12_keys 257 L st M = zo_iload 1 258 (zz_ev tX12_keys) L st M) ∧
  (∀ (L : zzLc) (a0 a1 : Int32) (r : List Value) (M : zzMd), zz_ev tX12_keys 258 L (.int a1 :: .int a0 :: .ref 0 :: r) M = bif zz_cat8 r then zz_backN (zz_ev tX12_keys) 261 L r (fX12_comeAll [.ref 0, .int a0, .int a1] M) else none) ∧
  (∀ L st M, zz_ev tX12_keys 261 L st M = zo_ii (fun x y => x + y) 262 (zz_ev tX12_keys) L st M) ∧
  (∀ L st M, zz_ev tX12_keys 262 L st M = zo_istore 4 264 (zz_ev tX12_keys) L st M) ∧
  (∀ L st M, zz_ev tX12_keys 264 L st M = zo_iload 4 266 (zz_ev tX12_keys) L st M) ∧
  (∀ L st M, zz_ev tX12_keys 266 L st M = zo_iret false (zz_ev tX12_keys) L st M) :=
  ⟨zz_1 rfl tl_X12_keys, fun L r M => (zz_1 rfl tl_X12_keys _ _ _).trans rfl, zz_1 rfl tl_X12_keys, zz_1 rfl tl_X12_keys, zz_1 rfl tl_X12_keys, zz_1 rfl tl_X12_keys, fun L r M => (zz_1 rfl tl_X12_keys _ _ _).trans rfl, zz_1 rfl tl_X12_keys, zz_1 rfl tl_X12_keys, zz_1 rfl tl_X12_keys, zz_1 rfl tl_X12_keys, fun L a0 r M => (zz_1 rfl tl_X12_keys _ _ _).trans rfl, zz_1 rfl tl_X12_keys, zz_1 rfl tl_X12_keys, zz_1 rfl tl_X12_keys, zz_1 rfl tl_X12_keys, zz_1 rfl tl_X12_keys, zz_1 rfl tl_X12_keys, zz_1 rfl tl_X12_keys, fun L a0 r M => (zz_1 rfl tl_X12_keys _ _ _).trans rfl, zz_1 rfl tl_X12_keys, zz_1 rfl tl_X12_keys, zz_1 rfl tl_X12_keys, zz_1 rfl tl_X12_keys, fun L a0 a1 r M => (zz_1 rfl tl_X12_keys _ _ _).trans rfl, zz_1 rfl tl_X12_keys, zz_1 rfl tl_X12_keys, zz_1 rfl tl_X12_keys, zz_1 rfl tl_X12_keys, fun L  r M => (zz_1 rfl tl_X12_keys _ _ _).trans rfl, zz_1 rfl tl_X12_keys, zz_1 rfl tl_X12_keys, zz_1 rfl tl_X12_keys, fun L a0 r M => (zz_1 rfl tl_X12_keys _ _ _).trans rfl, zz_1 rfl tl_X12_keys, zz_1 rfl tl_X12_keys, zz_1 rfl tl_X12_keys, zz_1 rfl tl_X12_keys, fun L r M => (zz_1 rfl tl_X12_keys _ _ _).trans rfl, zz_1 rfl tl_X12_keys, zz_1 rfl tl_X12_keys, zz_1 rfl tl_X12_keys, zz_1 rfl tl_X12_keys, zz_1 rfl tl_X12_keys, zz_1 rfl tl_X12_keys, zz_1 rfl tl_X12_keys, zz_1 rfl tl_X12_keys, zz_1 rfl tl_X12_keys, zz_1 rfl tl_X12_keys, zz_1 rfl tl_X12_keys, zz_1 rfl tl_X12_keys, fun L a0 r M => (zz_1 rfl tl_X12_keys _ _ _).trans rfl, zz_1 rfl tl_X12_keys, zz_1 rfl tl_X12_keys, zz_1 rfl tl_X12_keys, zz_1 rfl tl_X12_keys, fun L r M => (zz_1 rfl tl_X12_keys _ _ _).trans rfl, zz_1 rfl tl_X12_keys, zz_1 rfl tl_X12_keys, zz_1 rfl tl_X12_keys, zz_1 rfl tl_X12_keys, zz_1 rfl tl_X12_keys, zz_1 rfl tl_X12_keys, zz_1 rfl tl_X12_keys, fun L a0 r M => (zz_1 rfl tl_X12_keys _ _ _).trans rfl, zz_1 rfl tl_X12_keys, zz_1 rfl tl_X12_keys, zz_1 rfl tl_X12_keys, zz_1 rfl tl_X12_keys, zz_1 rfl tl_X12_keys, zz_1 rfl tl_X12_keys, zz_1 rfl tl_X12_keys, fun L a0 r M => (zz_1 rfl tl_X12_keys _ _ _).trans rfl, fun L a0 r M => (zz_1 rfl tl_X12_keys _ _ _).trans rfl, zz_1 rfl tl_X12_keys, zz_1 rfl tl_X12_keys, zz_1 rfl tl_X12_keys, zz_1 rfl tl_X12_keys, fun L r M => (zz_1 rfl tl_X12_keys _ _ _).trans rfl, zz_1 rfl tl_X12_keys, zz_1 rfl tl_X12_keys, zz_1 rfl tl_X12_keys, fun L r M => (zz_1 rfl tl_X12_keys _ _ _).trans rfl, zz_1 rfl tl_X12_keys, zz_1 rfl tl_X12_keys, zz_1 rfl tl_X12_keys, zz_1 rfl tl_X12_keys, zz_1 rfl tl_X12_keys, zz_1 rfl tl_X12_keys, zz_1 rfl tl_X12_keys, zz_1 rfl tl_X12_keys, zz_1 rfl tl_X12_keys, fun L r M => (zz_1 rfl tl_X12_keys _ _ _).trans rfl, zz_1 rfl tl_X12_keys, zz_1 rfl tl_X12_keys, zz_1 rfl tl_X12_keys, zz_1 rfl tl_X12_keys, zz_1 rfl tl_X12_keys, fun L a0 a1 r M => (zz_1 rfl tl_X12_keys _ _ _).trans rfl, zz_1 rfl tl_X12_keys, zz_1 rfl tl_X12_keys, zz_1 rfl tl_X12_keys, zz_1 rfl tl_X12_keys, fun L r M => (zz_1 rfl tl_X12_keys _ _ _).trans rfl, zz_1 rfl tl_X12_keys, zz_1 rfl tl_X12_keys, zz_1 rfl tl_X12_keys, zz_1 rfl tl_X12_keys, zz_1 rfl tl_X12_keys, zz_1 rfl tl_X12_keys, zz_1 rfl tl_X12_keys, zz_1 rfl tl_X12_keys, zz_1 rfl tl_X12_keys, fun L a0 a1 r M => (zz_1 rfl tl_X12_keys _ _ _).trans rfl, zz_1 rfl tl_X12_keys, zz_1 rfl tl_X12_keys, zz_1 rfl tl_X12_keys, zz_1 rfl tl_X12_keys, fun L r M => (zz_1 rfl tl_X12_keys _ _ _).trans rfl, zz_1 rfl tl_X12_keys, zz_1 rfl tl_X12_keys, zz_1 rfl tl_X12_keys, zz_1 rfl tl_X12_keys, zz_1 rfl tl_X12_keys, zz_1 rfl tl_X12_keys, zz_1 rfl tl_X12_keys, zz_1 rfl tl_X12_keys, zz_1 rfl tl_X12_keys, fun L a0 a1 r M => (zz_1 rfl tl_X12_keys _ _ _).trans rfl, zz_1 rfl tl_X12_keys, zz_1 rfl tl_X12_keys, zz_1 rfl tl_X12_keys, zz_1 rfl tl_X12_keys, fun L r M => (zz_1 rfl tl_X12_keys _ _ _).trans rfl, zz_1 rfl tl_X12_keys, zz_1 rfl tl_X12_keys, zz_1 rfl tl_X12_keys, zz_1 rfl tl_X12_keys, zz_1 rfl tl_X12_keys, zz_1 rfl tl_X12_keys, zz_1 rfl tl_X12_keys, zz_1 rfl tl_X12_keys, zz_1 rfl tl_X12_keys, fun L a0 a1 r M => (zz_1 rfl tl_X12_keys _ _ _).trans rfl, zz_1 rfl tl_X12_keys, zz_1 rfl tl_X12_keys, zz_1 rfl tl_X12_keys, zz_1 rfl tl_X12_keys⟩
set_option maxRecDepth 100000 in
theorem s_X12_keys (a0 a1 : Int32) (v : Nat) (M : zzMd) : fX12_keys [.ref v, .int a0, .int a1] M = zz_ev tX12_keys 0 [some (.ref v), some (.int a0), some (.int a1), none, none] [] M := rfl
set_option maxRecDepth 100000 in
theorem e_X12_seesOne : (∀ L st M, zz_ev tX12_seesOne 0 L st M = zo_aload 0 1 (zz_ev tX12_seesOne) L st M) ∧
  (∀ (L : zzLc) (r : List Value) (M : zzMd), zz_ev tX12_seesOne 1 L (.ref 0 :: r) M = zz_ev tX12_seesOne 4 L (.ref 26 :: r) M) ∧
  (∀ L st M, zz_ev tX12_seesOne 4 L st M = zo_aload 0 5 (zz_ev tX12_seesOne) L st M) ∧
  (∀ (L : zzLc) (r : List Value) (M : zzMd), zz_ev tX12_seesOne 5 L (.ref 0 :: r) M = zz_ev tX12_seesOne 8 L (.int (M.1 0 42) :: r) M) ∧
  (∀ L st M, zz_ev tX12_seesOne 8 L st M = zo_iald zzSR zzSTR 9 (zz_ev tX12_seesOne) L st M) ∧
  (∀ L st M, zz_ev tX12_seesOne 9 L st M = zo_pushI 1 10 (zz_ev tX12_seesOne) L st M) ∧
  (∀ L st M, zz_ev tX12_seesOne 10 L st M = zo_ii (fun x y => x + y) 11 (zz_ev tX12_seesOne) L st M) ∧
  (∀ L st M, zz_ev tX12_seesOne 11 L st M = zo_istore 1 12 (zz_ev tX12_seesOne) L st M) ∧
  (∀ L st M, zz_ev tX12_seesOne 12 L st M = zo_aload 0 13 (zz_ev tX12_seesOne) L st M) ∧
  (∀ (L : zzLc) (r : List Value) (M : zzMd), zz_ev tX12_seesOne 13 L (.ref 0 :: r) M = zz_ev tX12_seesOne 16 L (.ref 14 :: r) M) ∧
  (∀ L st M, zz_ev tX12_seesOne 16 L st M = zo_iload 1 17 (zz_ev tX12_seesOne) L st M) ∧
  (∀ L st M, zz_ev tX12_seesOne 17 L st M = zo_iald zzSR zzSTR 18 (zz_ev tX12_seesOne) L st M) ∧
  (∀ L st M, zz_ev tX12_seesOne 18 L st M = zo_istore 2 19 (zz_ev tX12_seesOne) L st M) ∧
  (∀ L st M, zz_ev tX12_seesOne 19 L st M = zo_pushI 60 21 (zz_ev tX12_seesOne) L st M) ∧
  (∀ L st M, zz_ev tX12_seesOne 21 L st M = zo_aload 0 22 (zz_ev tX12_seesOne) L st M) ∧
  (∀ (L : zzLc) (r : List Value) (M : zzMd), zz_ev tX12_seesOne 22 L (.ref 0 :: r) M = zz_ev tX12_seesOne 25 L (.int (M.1 0 42) :: r) M) ∧
  (∀ L st M, zz_ev tX12_seesOne 25 L st M = zo_ii (fun x y => x * y) 26 (zz_ev tX12_seesOne) L st M) ∧
  (∀ L st M, zz_ev tX12_seesOne 26 L st M = zo_iload 2 27 (zz_ev tX12_seesOne) L st M) ∧
  (∀ L st M, zz_ev tX12_seesOne 27 L st M = zo_ii (fun x y => x + y) 28 (zz_ev tX12_seesOne) L st M) ∧
  (∀ L st M, zz_ev tX12_seesOne 28 L st M = zo_istore 3 29 (zz_ev tX12_seesOne) L st M) ∧
  (∀ L st M, zz_ev tX12_seesOne 29 L st M = zo_aload 0 30 (zz_ev tX12_seesOne) L st M) ∧
  (∀ L st M, zz_ev tX12_seesOne 30 L st M = zo_aload 0 31 (zz_ev tX12_seesOne) L st M) ∧
  (∀ (L : zzLc) (r : List Value) (M : zzMd), zz_ev tX12_seesOne 31 L (.ref 0 :: r) M = zz_ev tX12_seesOne 34 L (.ref 15 :: r) M) ∧
  (∀ L st M, zz_ev tX12_seesOne 34 L st M = zo_iload 1 35 (zz_ev tX12_seesOne) L st M) ∧
  (∀ L st M, zz_ev tX12_seesOne 35 L st M = zo_lald zzSR 36 (zz_ev tX12_seesOne) L st M) ∧
  (∀ (L : zzLc) (a0 : Int64) (r : List Value) (M : zzMd), zz_ev tX12_seesOne 36 L (.long a0 :: .ref 0 :: r) M = bif zz_cat8 r then zz_backN (zz_ev tX12_seesOne) 39 L r (fX12_ownerIn [.ref 0, .long a0] M) else none) ∧
  (∀ L st M, zz_ev tX12_seesOne 39 L st M = zo_istore 4 41 (zz_ev tX12_seesOne) L st M) ∧
  (∀ L st M, zz_ev tX12_seesOne 41 L st M = zo_iload 4 43 (zz_ev tX12_seesOne) L st M) ∧
  (∀ L st M, zz_ev tX12_seesOne 43 L st M = zo_pushI (-1) 44 (zz_ev tX12_seesOne) L st M) ∧
  (∀ L st M, zz_ev tX12_seesOne 44 L st M = zo_icmp (fun x y => decide (¬ x = y)) 69 47 (zz_ev tX12_seesOne) L st M) ∧
  (∀ L st M, zz_ev tX12_seesOne 47 L st M = zo_aload 0 48 (zz_ev tX12_seesOne) L st M) ∧
  (∀ (L : zzLc) (r : List Value) (M : zzMd), zz_ev tX12_seesOne 48 L (.ref 0 :: r) M = zz_ev tX12_seesOne 51 L (.ref 27 :: r) M) ∧
  (∀ L st M, zz_ev tX12_seesOne 51 L st M = zo_iload 3 52 (zz_ev tX12_seesOne) L st M) ∧
  (∀ L st M, zz_ev tX12_seesOne 52 L st M = zo_zald zzSR 53 (zz_ev tX12_seesOne) L st M) ∧
  (∀ L st M, zz_ev tX12_seesOne 53 L st M = zo_if (fun x => decide (x = 0)) 69 56 (zz_ev tX12_seesOne) L st M) ∧
  (∀ L st M, zz_ev tX12_seesOne 56 L st M = zo_aload 0 57 (zz_ev tX12_seesOne) L st M) ∧
  (∀ L st M, zz_ev tX12_seesOne 57 L st M = zo_aload 0 58 (zz_ev tX12_seesOne) L st M) ∧
  (∀ (L : zzLc) (r : List Value) (M : zzMd), zz_ev tX12_seesOne 58 L (.ref 0 :: r) M = zz_ev tX12_seesOne 61 L (.ref 28 :: r) M) ∧
  (∀ L st M, zz_ev tX12_seesOne 61 L st M = zo_iload 3 62 (zz_ev tX12_seesOne) L st M) ∧
  (∀ L st M, zz_ev tX12_seesOne 62 L st M = zo_lald zzSR 63 (zz_ev tX12_seesOne) L st M) ∧
  (∀ (L : zzLc) (a0 : Int64) (r : List Value) (M : zzMd), zz_ev tX12_seesOne 63 L (.long a0 :: .ref 0 :: r) M = bif zz_cat8 r then zz_backN (zz_ev tX12_seesOne) 66 L r (fX12_ownerIn [.ref 0, .long a0] M) else none) ∧
  (∀ L st M, zz_ev tX12_seesOne 66 L st M = zo_goto 71 (zz_ev tX12_seesOne) L st M) ∧
  (∀ L st M, zz_ev tX12_seesOne 69 L st M = zo_iload 4 71 (zz_ev tX12_seesOne) L st M) ∧
  (∀ L st M, zz_ev tX12_seesOne 71 L st M = zo_istore 4 73 (zz_ev tX12_seesOne) L st M) ∧
  (∀ L st M, zz_ev tX12_seesOne 73 L st M = zo_aload 0 74 (zz_ev tX12_seesOne) L st M) ∧
  (∀ (L : zzLc) (r : List Value) (M : zzMd), zz_ev tX12_seesOne 74 L (.ref 0 :: r) M = zz_ev tX12_seesOne 77 L (.ref 27 :: r) M) ∧
  (∀ L st M, zz_ev tX12_seesOne 77 L st M = zo_iload 3 78 (zz_ev tX12_seesOne) L st M) ∧
  (∀ L st M, zz_ev tX12_seesOne 78 L st M = zo_pushI 1 79 (zz_ev tX12_seesOne) L st M) ∧
  (∀ L st M, zz_ev tX12_seesOne 79 L st M = zo_zast zzSR 80 (zz_ev tX12_seesOne) L st M) ∧
  (∀ L st M, zz_ev tX12_seesOne 80 L st M = zo_aload 0 81 (zz_ev tX12_seesOne) L st M) ∧
  (∀ (L : zzLc) (r : List Value) (M : zzMd), zz_ev tX12_seesOne 81 L (.ref 0 :: r) M = zz_ev tX12_seesOne 84 L (.ref 28 :: r) M) ∧
  (∀ L st M, zz_ev tX12_seesOne 84 L st M = zo_iload 3 85 (zz_ev tX12_seesOne) L st M) ∧
  (∀ L st M, zz_ev tX12_seesOne 85 L st M = zo_aload 0 86 (zz_ev tX12_seesOne) L st M) ∧
  (∀ (L : zzLc) (r : List Value) (M : zzMd), zz_ev tX12_seesOne 86 L (.ref 0 :: r) M = zz_ev tX12_seesOne 89 L (.ref 15 :: r) M) ∧
  (∀ L st M, zz_ev tX12_seesOne 89 L st M = zo_iload 1 90 (zz_ev tX12_seesOne) L st M) ∧
  (∀ L st M, zz_ev tX12_seesOne 90 L st M = zo_lald zzSR 91 (zz_ev tX12_seesOne) L st M) ∧
  (∀ L st M, zz_ev tX12_seesOne 91 L st M = zo_last zzSR 92 (zz_ev tX12_seesOne) L st M) ∧
  (∀ L st M, zz_ev tX12_seesOne 92 L st M = zo_aload 0 93 (zz_ev tX12_seesOne) L st M) ∧
  (∀ (L : zzLc) (r : List Value) (M : zzMd), zz_ev tX12_seesOne 93 L (.ref 0 :: r) M = zz_ev tX12_seesOne 96 L (.ref 29 :: r) M) ∧
  (∀ L st M, zz_ev tX12_seesOne 96 L st M = zo_iload 3 97 (zz_ev tX12_seesOne) L st M) ∧
  (∀ L st M, zz_ev tX12_seesOne 97 L st M = zo_aload 0 98 (zz_ev tX12_seesOne) L st M) ∧
  (∀ (L : zzLc) (r : List Value) (M : zzMd), zz_ev tX12_seesOne 98 L (.ref 0 :: r) M = zz_ev tX12_seesOne 101 L (.ref 16 :: r) M) ∧
  (∀ L st M, zz_ev tX12_seesOne 101 L st M = zo_iload 1 102 (zz_ev tX12_seesOne) L st M) ∧
  (∀ L st M, zz_ev tX12_seesOne 102 L st M = zo_lald zzSR 103 (zz_ev tX12_seesOne) L st M) ∧
  (∀ L st M, zz_ev tX12_seesOne 103 L st M = zo_last zzSR 104 (zz_ev tX12_seesOne) L st M) ∧
  (∀ L st M, zz_ev tX12_seesOne 104 L st M = zo_aload 0 105 (zz_ev tX12_seesOne) L st M) ∧
  (∀ (L : zzLc) (r : List Value) (M : zzMd), zz_ev tX12_seesOne 105 L (.ref 0 :: r) M = zz_ev tX12_seesOne 108 L (.ref 30 :: r) M) ∧
  (∀ L st M, zz_ev tX12_seesOne 108 L st M = zo_iload 3 109 (zz_ev tX12_seesOne) L st M) ∧
  (∀ L st M, zz_ev tX12_seesOne 109 L st M = zo_iload 1 110 (zz_ev tX12_seesOne) L st M) ∧
  (∀ L st M, zz_ev tX12_seesOne 110 L st M = zo_iast zzSR 111 (zz_ev tX12_seesOne) L st M) ∧
  (∀ L st M, zz_ev tX12_seesOne 111 L st M = zo_aload 0 112 (zz_ev tX12_seesOne) L st M) ∧
  (∀ (L : zzLc) (r : List Value) (M : zzMd), zz_ev tX12_seesOne 112 L (.ref 0 :: r) M = zz_ev tX12_seesOne 115 L (.ref 26 :: r) M) ∧
  (∀ L st M, zz_ev tX12_seesOne 115 L st M = zo_aload 0 116 (zz_ev tX12_seesOne) L st M) ∧
  (∀ (L : zzLc) (r : List Value) (M : zzMd), zz_ev tX12_seesOne 116 L (.ref 0 :: r) M = zz_ev tX12_seesOne 119 L (.int (M.1 0 42) :: r) M) ∧
  (∀ L st M, zz_ev tX12_seesOne 119 L st M = zo_iload 1 120 (zz_ev tX12_seesOne) L st M) ∧
  (∀ L st M, zz_ev tX12_seesOne 120 L st M = zo_iast zzSR 121 (zz_ev tX12_seesOne) L st M) ∧
  (∀ L st M, zz_ev tX12_seesOne 121 L st M = zo_aload 0 122 (zz_ev tX12_seesOne) L st M) ∧
  (∀ L st M, zz_ev tX12_seesOne 122 L st M = zo_iload 2 123 (zz_ev tX12_seesOne) L st M) ∧
  (∀ L st M, zz_ev tX12_seesOne 123 L st M = zo_iload 4 125 (zz_ev tX12_seesOne) L st M) ∧
  (∀ (L : zzLc) (a0 a1 : Int32) (r : List Value) (M : zzMd), zz_ev tX12_seesOne 125 L (.int a1 :: .int a0 :: .ref 0 :: r) M = bif zz_cat8 r then zz_backN (zz_ev tX12_seesOne) 128 L r (fX12_keys [.ref 0, .int a0, .int a1] M) else none) ∧
  (∀ L st M, zz_ev tX12_seesOne 128 L st M = zo_iret false (zz_ev tX12_seesOne) L st M) :=
  ⟨zz_1 rfl tl_X12_seesOne, fun L r M => (zz_1 rfl tl_X12_seesOne _ _ _).trans rfl, zz_1 rfl tl_X12_seesOne, fun L r M => (zz_1 rfl tl_X12_seesOne _ _ _).trans rfl, zz_1 rfl tl_X12_seesOne, zz_1 rfl tl_X12_seesOne, zz_1 rfl tl_X12_seesOne, zz_1 rfl tl_X12_seesOne, zz_1 rfl tl_X12_seesOne, fun L r M => (zz_1 rfl tl_X12_seesOne _ _ _).trans rfl, zz_1 rfl tl_X12_seesOne, zz_1 rfl tl_X12_seesOne, zz_1 rfl tl_X12_seesOne, zz_1 rfl tl_X12_seesOne, zz_1 rfl tl_X12_seesOne, fun L r M => (zz_1 rfl tl_X12_seesOne _ _ _).trans rfl, zz_1 rfl tl_X12_seesOne, zz_1 rfl tl_X12_seesOne, zz_1 rfl tl_X12_seesOne, zz_1 rfl tl_X12_seesOne, zz_1 rfl tl_X12_seesOne, zz_1 rfl tl_X12_seesOne, fun L r M => (zz_1 rfl tl_X12_seesOne _ _ _).trans rfl, zz_1 rfl tl_X12_seesOne, zz_1 rfl tl_X12_seesOne, fun L a0 r M => (zz_1 rfl tl_X12_seesOne _ _ _).trans rfl, zz_1 rfl tl_X12_seesOne, zz_1 rfl tl_X12_seesOne, zz_1 rfl tl_X12_seesOne, zz_1 rfl tl_X12_seesOne, zz_1 rfl tl_X12_seesOne, fun L r M => (zz_1 rfl tl_X12_seesOne _ _ _).trans rfl, zz_1 rfl tl_X12_seesOne, zz_1 rfl tl_X12_seesOne, zz_1 rfl tl_X12_seesOne, zz_1 rfl tl_X12_seesOne, zz_1 rfl tl_X12_seesOne, fun L r M => (zz_1 rfl tl_X12_seesOne _ _ _).trans rfl, zz_1 rfl tl_X12_seesOne, zz_1 rfl tl_X12_seesOne, fun L a0 r M => (zz_1 rfl tl_X12_seesOne _ _ _).trans rfl, zz_1 rfl tl_X12_seesOne, zz_1 rfl tl_X12_seesOne, zz_1 rfl tl_X12_seesOne, zz_1 rfl tl_X12_seesOne, fun L r M => (zz_1 rfl tl_X12_seesOne _ _ _).trans rfl, zz_1 rfl tl_X12_seesOne, zz_1 rfl tl_X12_seesOne, zz_1 rfl tl_X12_seesOne, zz_1 rfl tl_X12_seesOne, fun L r M => (zz_1 rfl tl_X12_seesOne _ _ _).trans rfl, zz_1 rfl tl_X12_seesOne, zz_1 rfl tl_X12_seesOne, fun L r M => (zz_1 rfl tl_X12_seesOne _ _ _).trans rfl, zz_1 rfl tl_X12_seesOne, zz_1 rfl tl_X12_seesOne, zz_1 rfl tl_X12_seesOne, zz_1 rfl tl_X12_seesOne, fun L r M => (zz_1 rfl tl_X12_seesOne _ _ _).trans rfl, zz_1 rfl tl_X12_seesOne, zz_1 rfl tl_X12_seesOne, fun L r M => (zz_1 rfl tl_X12_seesOne _ _ _).trans rfl, zz_1 rfl tl_X12_seesOne, zz_1 rfl tl_X12_seesOne, zz_1 rfl tl_X12_seesOne, zz_1 rfl tl_X12_seesOne, fun L r M => (zz_1 rfl tl_X12_seesOne _ _ _).trans rfl, zz_1 rfl tl_X12_seesOne, zz_1 rfl tl_X12_seesOne, zz_1 rfl tl_X12_seesOne, zz_1 rfl tl_X12_seesOne, fun L r M => (zz_1 rfl tl_X12_seesOne _ _ _).trans rfl, zz_1 rfl tl_X12_seesOne, fun L r M => (zz_1 rfl tl_X12_seesOne _ _ _).trans rfl, zz_1 rfl tl_X12_seesOne, zz_1 rfl tl_X12_seesOne, zz_1 rfl tl_X12_seesOne, zz_1 rfl tl_X12_seesOne, zz_1 rfl tl_X12_seesOne, fun L a0 a1 r M => (zz_1 rfl tl_X12_seesOne _ _ _).trans rfl, zz_1 rfl tl_X12_seesOne⟩
set_option maxRecDepth 100000 in
theorem s_X12_seesOne (v : Nat) (M : zzMd) : fX12_seesOne [.ref v] M = zz_ev tX12_seesOne 0 [some (.ref v), none, none, none, none] [] M := rfl
set_option maxRecDepth 100000 in
theorem e_X12_lists : (∀ L st M, zz_ev tX12_lists 0 L st M = zo_pushI 0 1 (zz_ev tX12_lists) L st M) ∧
  (∀ L st M, zz_ev tX12_lists 1 L st M = zo_istore 1 2 (zz_ev tX12_lists) L st M) ∧
  (∀ L st M, zz_ev tX12_lists 2 L st M = zo_pushI 0 3 (zz_ev tX12_lists) L st M) ∧
  (∀ L st M, zz_ev tX12_lists 3 L st M = zo_istore 2 4 (zz_ev tX12_lists) L st M) ∧
  (∀ L st M, zz_ev tX12_lists 5 L st M = zo_aload 0 6 (zz_ev tX12_lists) L st M) ∧
  (∀ (L : zzLc) (r : List Value) (M : zzMd), zz_ev tX12_lists 6 L (.ref 0 :: r) M = zz_ev tX12_lists 9 L (.int (M.1 0 5) :: r) M) ∧
  (∀ L st M, zz_ev tX12_lists 9 L st M = zo_icmp (fun x y => decide (y ≤ x)) 132 12 (zz_ev tX12_lists) L st M) ∧
  (∀ L st M, zz_ev tX12_lists 12 L st M = zo_pushI 60 14 (zz_ev tX12_lists) L st M) ∧
  (∀ L st M, zz_ev tX12_lists 14 L st M = zo_aload 0 15 (zz_ev tX12_lists) L st M) ∧
  (∀ (L : zzLc) (r : List Value) (M : zzMd), zz_ev tX12_lists 15 L (.ref 0 :: r) M = zz_ev tX12_lists 18 L (.int (M.1 0 42) :: r) M) ∧
  (∀ L st M, zz_ev tX12_lists 18 L st M = zo_ii (fun x y => x * y) 19 (zz_ev tX12_lists) L st M) ∧
  (∀ L st M, zz_ev tX12_lists 19 L st M = zo_iload 2 20 (zz_ev tX12_lists) L st M) ∧
  (∀ L st M, zz_ev tX12_lists 20 L st M = zo_ii (fun x y => x + y) 21 (zz_ev tX12_lists) L st M) ∧
  (∀ L st M, zz_ev tX12_lists 21 L st M = zo_istore 3 22 (zz_ev tX12_lists) L st M) ∧
  (∀ L st M, zz_ev tX12_lists 22 L st M = zo_aload 0 23 (zz_ev tX12_lists) L st M) ∧
  (∀ (L : zzLc) (r : List Value) (M : zzMd), zz_ev tX12_lists 23 L (.ref 0 :: r) M = zz_ev tX12_lists 26 L (.ref 27 :: r) M) ∧
  (∀ L st M, zz_ev tX12_lists 26 L st M = zo_iload 3 27 (zz_ev tX12_lists) L st M) ∧
  (∀ L st M, zz_ev tX12_lists 27 L st M = zo_pushI 1 28 (zz_ev tX12_lists) L st M) ∧
  (∀ L st M, zz_ev tX12_lists 28 L st M = zo_zast zzSR 29 (zz_ev tX12_lists) L st M) ∧
  (∀ L st M, zz_ev tX12_lists 29 L st M = zo_aload 0 30 (zz_ev tX12_lists) L st M) ∧
  (∀ (L : zzLc) (r : List Value) (M : zzMd), zz_ev tX12_lists 30 L (.ref 0 :: r) M = zz_ev tX12_lists 33 L (.ref 28 :: r) M) ∧
  (∀ L st M, zz_ev tX12_lists 33 L st M = zo_iload 3 34 (zz_ev tX12_lists) L st M) ∧
  (∀ L st M, zz_ev tX12_lists 34 L st M = zo_aload 0 35 (zz_ev tX12_lists) L st M) ∧
  (∀ (L : zzLc) (r : List Value) (M : zzMd), zz_ev tX12_lists 35 L (.ref 0 :: r) M = zz_ev tX12_lists 38 L (.ref 7 :: r) M) ∧
  (∀ L st M, zz_ev tX12_lists 38 L st M = zo_iload 2 39 (zz_ev tX12_lists) L st M) ∧
  (∀ L st M, zz_ev tX12_lists 39 L st M = zo_lald zzSR 40 (zz_ev tX12_lists) L st M) ∧
  (∀ L st M, zz_ev tX12_lists 40 L st M = zo_last zzSR 41 (zz_ev tX12_lists) L st M) ∧
  (∀ L st M, zz_ev tX12_lists 41 L st M = zo_aload 0 42 (zz_ev tX12_lists) L st M) ∧
  (∀ (L : zzLc) (r : List Value) (M : zzMd), zz_ev tX12_lists 42 L (.ref 0 :: r) M = zz_ev tX12_lists 45 L (.ref 29 :: r) M) ∧
  (∀ L st M, zz_ev tX12_lists 45 L st M = zo_iload 3 46 (zz_ev tX12_lists) L st M) ∧
  (∀ L st M, zz_ev tX12_lists 46 L st M = zo_aload 0 47 (zz_ev tX12_lists) L st M) ∧
  (∀ (L : zzLc) (r : List Value) (M : zzMd), zz_ev tX12_lists 47 L (.ref 0 :: r) M = zz_ev tX12_lists 50 L (.ref 8 :: r) M) ∧
  (∀ L st M, zz_ev tX12_lists 50 L st M = zo_iload 2 51 (zz_ev tX12_lists) L st M) ∧
  (∀ L st M, zz_ev tX12_lists 51 L st M = zo_lald zzSR 52 (zz_ev tX12_lists) L st M) ∧
  (∀ L st M, zz_ev tX12_lists 52 L st M = zo_last zzSR 53 (zz_ev tX12_lists) L st M) ∧
  (∀ L st M, zz_ev tX12_lists 53 L st M = zo_aload 0 54 (zz_ev tX12_lists) L st M) ∧
  (∀ (L : zzLc) (r : List Value) (M : zzMd), zz_ev tX12_lists 54 L (.ref 0 :: r) M = zz_ev tX12_lists 57 L (.ref 30 :: r) M) ∧
  (∀ L st M, zz_ev tX12_lists 57 L st M = zo_iload 3 58 (zz_ev tX12_lists) L st M) ∧
  (∀ L st M, zz_ev tX12_lists 58 L st M = zo_aload 0 59 (zz_ev tX12_lists) L st M) ∧
  (∀ (L : zzLc) (r : List Value) (M : zzMd), zz_ev tX12_lists 59 L (.ref 0 :: r) M = zz_ev tX12_lists 62 L (.ref 9 :: r) M) ∧
  (∀ L st M, zz_ev tX12_lists 62 L st M = zo_iload 2 63 (zz_ev tX12_lists) L st M) ∧
  (∀ L st M, zz_ev tX12_lists 63 L st M = zo_iald zzSR zzSTR 64 (zz_ev tX12_lists) L st M) ∧
  (∀ L st M, zz_ev tX12_lists 64 L st M = zo_iast zzSR 65 (zz_ev tX12_lists) L st M) ∧
  (∀ L st M, zz_ev tX12_lists 65 L st M = zo_aload 0 66 (zz_ev tX12_lists) L st M) ∧
  (∀ L st M, zz_ev tX12_lists 66 L st M = zo_aload 0 67 (zz_ev tX12_lists) L st M) ∧
  (∀ (L : zzLc) (r : List Value) (M : zzMd), zz_ev tX12_lists 67 L (.ref 0 :: r) M = zz_ev tX12_lists 70 L (.ref 7 :: r) M) ∧
  (∀ L st M, zz_ev tX12_lists 70 L st M = zo_iload 2 71 (zz_ev tX12_lists) L st M) ∧
  (∀ L st M, zz_ev tX12_lists 71 L st M = zo_lald zzSR 72 (zz_ev tX12_lists) L st M) ∧
  (∀ L st M, zz_ev tX12_lists 72 L st M = zo_pushI 13 74 (zz_ev tX12_lists) L st M) ∧
  (∀ (L : zzLc) (a1 : Int32) (a0 : Int64) (r : List Value) (M : zzMd), zz_ev tX12_lists 74 L (.int a1 :: .long a0 :: .ref 0 :: r) M = bif zz_cat8 r then zz_backN (zz_ev tX12_lists) 77 L r (fX12_get [.ref 0, .long a0, .int a1] M) else none) ∧
  (∀ L st M, zz_ev tX12_lists 77 L st M = zo_pushI 4 78 (zz_ev tX12_lists) L st M) ∧
  (∀ L st M, zz_ev tX12_lists 78 L st M = zo_icmp (fun x y => decide (x = y)) 106 81 (zz_ev tX12_lists) L st M) ∧
  (∀ L st M, zz_ev tX12_lists 81 L st M = zo_aload 0 82 (zz_ev tX12_lists) L st M) ∧
  (∀ (L : zzLc) (r : List Value) (M : zzMd), zz_ev tX12_lists 82 L (.ref 0 :: r) M = bif zz_cat8 r then zz_backN (zz_ev tX12_lists) 85 L r (fX12_ownKind [.ref 0] M) else none) ∧
  (∀ L st M, zz_ev tX12_lists 85 L st M = zo_pushI (-1) 86 (zz_ev tX12_lists) L st M) ∧
  (∀ L st M, zz_ev tX12_lists 86 L st M = zo_icmp (fun x y => decide (x = y)) 102 89 (zz_ev tX12_lists) L st M) ∧
  (∀ L st M, zz_ev tX12_lists 89 L st M = zo_aload 0 90 (zz_ev tX12_lists) L st M) ∧
  (∀ (L : zzLc) (r : List Value) (M : zzMd), zz_ev tX12_lists 90 L (.ref 0 :: r) M = zz_ev tX12_lists 93 L (.ref 6 :: r) M) ∧
  (∀ L st M, zz_ev tX12_lists 93 L st M = zo_iload 2 94 (zz_ev tX12_lists) L st M) ∧
  (∀ L st M, zz_ev tX12_lists 94 L st M = zo_iald zzSR zzSTR 95 (zz_ev tX12_lists) L st M) ∧
  (∀ L st M, zz_ev tX12_lists 95 L st M = zo_aload 0 96 (zz_ev tX12_lists) L st M) ∧
  (∀ (L : zzLc) (r : List Value) (M : zzMd), zz_ev tX12_lists 96 L (.ref 0 :: r) M = bif zz_cat8 r then zz_backN (zz_ev tX12_lists) 99 L r (fX12_ownKind [.ref 0] M) else none) ∧
  (∀ L st M, zz_ev tX12_lists 99 L st M = zo_icmp (fun x y => decide (¬ x = y)) 106 102 (zz_ev tX12_lists) L st M) ∧
  (∀ L st M, zz_ev tX12_lists 102 L st M = zo_pushI 1 103 (zz_ev tX12_lists) L st M) ∧
  (∀ L st M, zz_ev tX12_lists 103 L st M = zo_goto 107 (zz_ev tX12_lists) L st M) ∧
  (∀ L st M, zz_ev tX12_lists 106 L st M = zo_pushI 0 107 (zz_ev tX12_lists) L st M) ∧
  (∀ L st M, zz_ev tX12_lists 107 L st M = zo_istore 4 109 (zz_ev tX12_lists) L st M) ∧
  (∀ L st M, zz_ev tX12_lists 109 L st M = zo_iload 1 110 (zz_ev tX12_lists) L st M) ∧
  (∀ L st M, zz_ev tX12_lists 110 L st M = zo_iload 4 112 (zz_ev tX12_lists) L st M) ∧
  (∀ L st M, zz_ev tX12_lists 112 L st M = zo_if (fun x => decide (x = 0)) 123 115 (zz_ev tX12_lists) L st M) ∧
  (∀ L st M, zz_ev tX12_lists 115 L st M = zo_aload 0 116 (zz_ev tX12_lists) L st M) ∧
  (∀ L st M, zz_ev tX12_lists 116 L st M = zo_iload 2 117 (zz_ev tX12_lists) L st M) ∧
  (∀ (L : zzLc) (a0 : Int32) (r : List Value) (M : zzMd), zz_ev tX12_lists 117 L (.int a0 :: .ref 0 :: r) M = bif zz_cat8 r then zz_backN (zz_ev tX12_lists) 120 L r (fX12_comes [.ref 0, .int a0] M) else none) ∧
  (∀ L st M, zz_ev tX12_lists 120 L st M = zo_goto 124 (zz_ev tX12_lists) L st M) ∧
  (∀ L st M, zz_ev tX12_lists 123 L st M = zo_pushI 0 124 (zz_ev tX12_lists) L st M) ∧
  (∀ L st M, zz_ev tX12_lists 124 L st M = zo_ii (fun x y => x + y) 125 (zz_ev tX12_lists) L st M) ∧
  (∀ L st M, zz_ev tX12_lists 125 L st M = zo_istore 1 126 (zz_ev tX12_lists) L st M) ∧
  (∀ L st M, zz_ev tX12_lists 126 L st M = zo_iinc 2 1 129 (zz_ev tX12_lists) L st M) ∧
  (∀ L st M, zz_ev tX12_lists 129 L st M = zo_goto 4 (zz_ev tX12_lists) L st M) ∧
  (∀ L st M, zz_ev tX12_lists 132 L st M = zo_aload 0 133 (zz_ev tX12_lists) L st M) ∧
  (∀ (L : zzLc) (r : List Value) (M : zzMd), zz_ev tX12_lists 133 L (.ref 0 :: r) M = zz_ev tX12_lists 136 L (.ref 26 :: r) M) ∧
  (∀ L st M, zz_ev tX12_lists 136 L st M = zo_aload 0 137 (zz_ev tX12_lists) L st M) ∧
  (∀ (L : zzLc) (r : List Value) (M : zzMd), zz_ev tX12_lists 137 L (.ref 0 :: r) M = zz_ev tX12_lists 140 L (.int (M.1 0 42) :: r) M) ∧
  (∀ L st M, zz_ev tX12_lists 140 L st M = zo_aload 0 141 (zz_ev tX12_lists) L st M) ∧
  (∀ (L : zzLc) (r : List Value) (M : zzMd), zz_ev tX12_lists 141 L (.ref 0 :: r) M = zz_ev tX12_lists 144 L (.int (M.1 0 14) :: r) M) ∧
  (∀ L st M, zz_ev tX12_lists 144 L st M = zo_iast zzSR 145 (zz_ev tX12_lists) L st M) ∧
  (∀ L st M, zz_ev tX12_lists 145 L st M = zo_iload 1 146 (zz_ev tX12_lists) L st M) ∧
  (∀ L st M, zz_ev tX12_lists 146 L st M = zo_iret false (zz_ev tX12_lists) L st M) :=
  ⟨zz_1 rfl tl_X12_lists, zz_1 rfl tl_X12_lists, zz_1 rfl tl_X12_lists, zz_1 rfl tl_X12_lists, zz_1 rfl tl_X12_lists, fun L r M => (zz_1 rfl tl_X12_lists _ _ _).trans rfl, zz_1 rfl tl_X12_lists, zz_1 rfl tl_X12_lists, zz_1 rfl tl_X12_lists, fun L r M => (zz_1 rfl tl_X12_lists _ _ _).trans rfl, zz_1 rfl tl_X12_lists, zz_1 rfl tl_X12_lists, zz_1 rfl tl_X12_lists, zz_1 rfl tl_X12_lists, zz_1 rfl tl_X12_lists, fun L r M => (zz_1 rfl tl_X12_lists _ _ _).trans rfl, zz_1 rfl tl_X12_lists, zz_1 rfl tl_X12_lists, zz_1 rfl tl_X12_lists, zz_1 rfl tl_X12_lists, fun L r M => (zz_1 rfl tl_X12_lists _ _ _).trans rfl, zz_1 rfl tl_X12_lists, zz_1 rfl tl_X12_lists, fun L r M => (zz_1 rfl tl_X12_lists _ _ _).trans rfl, zz_1 rfl tl_X12_lists, zz_1 rfl tl_X12_lists, zz_1 rfl tl_X12_lists, zz_1 rfl tl_X12_lists, fun L r M => (zz_1 rfl tl_X12_lists _ _ _).trans rfl, zz_1 rfl tl_X12_lists, zz_1 rfl tl_X12_lists, fun L r M => (zz_1 rfl tl_X12_lists _ _ _).trans rfl, zz_1 rfl tl_X12_lists, zz_1 rfl tl_X12_lists, zz_1 rfl tl_X12_lists, zz_1 rfl tl_X12_lists, fun L r M => (zz_1 rfl tl_X12_lists _ _ _).trans rfl, zz_1 rfl tl_X12_lists, zz_1 rfl tl_X12_lists, fun L r M => (zz_1 rfl tl_X12_lists _ _ _).trans rfl, zz_1 rfl tl_X12_lists, zz_1 rfl tl_X12_lists, zz_1 rfl tl_X12_lists, zz_1 rfl tl_X12_lists, zz_1 rfl tl_X12_lists, fun L r M => (zz_1 rfl tl_X12_lists _ _ _).trans rfl, zz_1 rfl tl_X12_lists, zz_1 rfl tl_X12_lists, zz_1 rfl tl_X12_lists, fun L a1 a0 r M => (zz_1 rfl tl_X12_lists _ _ _).trans rfl, zz_1 rfl tl_X12_lists, zz_1 rfl tl_X12_lists, zz_1 rfl tl_X12_lists, fun L  r M => (zz_1 rfl tl_X12_lists _ _ _).trans rfl, zz_1 rfl tl_X12_lists, zz_1 rfl tl_X12_lists, zz_1 rfl tl_X12_lists, fun L r M => (zz_1 rfl tl_X12_lists _ _ _).trans rfl, zz_1 rfl tl_X12_lists, zz_1 rfl tl_X12_lists, zz_1 rfl tl_X12_lists, fun L  r M => (zz_1 rfl tl_X12_lists _ _ _).trans rfl, zz_1 rfl tl_X12_lists, zz_1 rfl tl_X12_lists, zz_1 rfl tl_X12_lists, zz_1 rfl tl_X12_lists, zz_1 rfl tl_X12_lists, zz_1 rfl tl_X12_lists, zz_1 rfl tl_X12_lists, zz_1 rfl tl_X12_lists, zz_1 rfl tl_X12_lists, zz_1 rfl tl_X12_lists, fun L a0 r M => (zz_1 rfl tl_X12_lists _ _ _).trans rfl, zz_1 rfl tl_X12_lists, zz_1 rfl tl_X12_lists, zz_1 rfl tl_X12_lists, zz_1 rfl tl_X12_lists, zz_1 rfl tl_X12_lists, zz_1 rfl tl_X12_lists, zz_1 rfl tl_X12_lists, fun L r M => (zz_1 rfl tl_X12_lists _ _ _).trans rfl, zz_1 rfl tl_X12_lists, fun L r M => (zz_1 rfl tl_X12_lists _ _ _).trans rfl, zz_1 rfl tl_X12_lists, fun L r M => (zz_1 rfl tl_X12_lists _ _ _).trans rfl, zz_1 rfl tl_X12_lists, zz_1 rfl tl_X12_lists, zz_1 rfl tl_X12_lists⟩
set_option maxRecDepth 100000 in
theorem e_X12_lists_4 : (∀ L st M, zz_ev tX12_lists 4 L st M = zo_iload 2 5 (zz_ev tX12_lists) L st M) := zz_1 rfl tl_X12_lists
set_option maxRecDepth 100000 in
theorem s_X12_lists (v : Nat) (M : zzMd) : fX12_lists [.ref v] M = zz_ev tX12_lists 0 [some (.ref v), none, none, none, none] [] M := rfl
set_option maxRecDepth 100000 in
theorem e_X12_sees : (∀ L st M, zz_ev tX12_sees 0 L st M = zo_aload 0 1 (zz_ev tX12_sees) L st M) ∧
  (∀ (L : zzLc) (r : List Value) (M : zzMd), zz_ev tX12_sees 1 L (.ref 0 :: r) M = zz_ev tX12_sees 4 L (.ref 26 :: r) M) ∧
  (∀ L st M, zz_ev tX12_sees 4 L st M = zo_aload 0 5 (zz_ev tX12_sees) L st M) ∧
  (∀ (L : zzLc) (r : List Value) (M : zzMd), zz_ev tX12_sees 5 L (.ref 0 :: r) M = zz_ev tX12_sees 8 L (.int (M.1 0 42) :: r) M) ∧
  (∀ L st M, zz_ev tX12_sees 8 L st M = zo_iald zzSR zzSTR 9 (zz_ev tX12_sees) L st M) ∧
  (∀ L st M, zz_ev tX12_sees 9 L st M = zo_aload 0 10 (zz_ev tX12_sees) L st M) ∧
  (∀ (L : zzLc) (r : List Value) (M : zzMd), zz_ev tX12_sees 10 L (.ref 0 :: r) M = zz_ev tX12_sees 13 L (.int (M.1 0 15) :: r) M) ∧
  (∀ L st M, zz_ev tX12_sees 13 L st M = zo_icmp (fun x y => decide (y ≤ x)) 21 16 (zz_ev tX12_sees) L st M) ∧
  (∀ L st M, zz_ev tX12_sees 16 L st M = zo_aload 0 17 (zz_ev tX12_sees) L st M) ∧
  (∀ (L : zzLc) (r : List Value) (M : zzMd), zz_ev tX12_sees 17 L (.ref 0 :: r) M = bif zz_cat8 r then zz_backN (zz_ev tX12_sees) 20 L r (fX12_lists [.ref 0] M) else none) ∧
  (∀ L st M, zz_ev tX12_sees 20 L st M = zo_iret false (zz_ev tX12_sees) L st M) ∧
  (∀ L st M, zz_ev tX12_sees 21 L st M = zo_pushI 0 22 (zz_ev tX12_sees) L st M) ∧
  (∀ L st M, zz_ev tX12_sees 22 L st M = zo_istore 2 23 (zz_ev tX12_sees) L st M) ∧
  (∀ L st M, zz_ev tX12_sees 23 L st M = zo_pushI 0 24 (zz_ev tX12_sees) L st M) ∧
  (∀ L st M, zz_ev tX12_sees 24 L st M = zo_istore 3 25 (zz_ev tX12_sees) L st M) ∧
  (∀ L st M, zz_ev tX12_sees 26 L st M = zo_iload 1 27 (zz_ev tX12_sees) L st M) ∧
  (∀ L st M, zz_ev tX12_sees 27 L st M = zo_icmp (fun x y => decide (y ≤ x)) 59 30 (zz_ev tX12_sees) L st M) ∧
  (∀ L st M, zz_ev tX12_sees 30 L st M = zo_aload 0 31 (zz_ev tX12_sees) L st M) ∧
  (∀ (L : zzLc) (r : List Value) (M : zzMd), zz_ev tX12_sees 31 L (.ref 0 :: r) M = zz_ev tX12_sees 34 L (.ref 26 :: r) M) ∧
  (∀ L st M, zz_ev tX12_sees 34 L st M = zo_aload 0 35 (zz_ev tX12_sees) L st M) ∧
  (∀ (L : zzLc) (r : List Value) (M : zzMd), zz_ev tX12_sees 35 L (.ref 0 :: r) M = zz_ev tX12_sees 38 L (.int (M.1 0 42) :: r) M) ∧
  (∀ L st M, zz_ev tX12_sees 38 L st M = zo_iald zzSR zzSTR 39 (zz_ev tX12_sees) L st M) ∧
  (∀ L st M, zz_ev tX12_sees 39 L st M = zo_aload 0 40 (zz_ev tX12_sees) L st M) ∧
  (∀ (L : zzLc) (r : List Value) (M : zzMd), zz_ev tX12_sees 40 L (.ref 0 :: r) M = zz_ev tX12_sees 43 L (.int (M.1 0 14) :: r) M) ∧
  (∀ L st M, zz_ev tX12_sees 43 L st M = zo_icmp (fun x y => decide (y ≤ x)) 59 46 (zz_ev tX12_sees) L st M) ∧
  (∀ L st M, zz_ev tX12_sees 46 L st M = zo_iload 2 47 (zz_ev tX12_sees) L st M) ∧
  (∀ L st M, zz_ev tX12_sees 47 L st M = zo_aload 0 48 (zz_ev tX12_sees) L st M) ∧
  (∀ (L : zzLc) (r : List Value) (M : zzMd), zz_ev tX12_sees 48 L (.ref 0 :: r) M = bif zz_cat8 r then zz_backN (zz_ev tX12_sees) 51 L r (fX12_seesOne [.ref 0] M) else none) ∧
  (∀ L st M, zz_ev tX12_sees 51 L st M = zo_ii (fun x y => x + y) 52 (zz_ev tX12_sees) L st M) ∧
  (∀ L st M, zz_ev tX12_sees 52 L st M = zo_istore 2 53 (zz_ev tX12_sees) L st M) ∧
  (∀ L st M, zz_ev tX12_sees 53 L st M = zo_iinc 3 1 56 (zz_ev tX12_sees) L st M) ∧
  (∀ L st M, zz_ev tX12_sees 56 L st M = zo_goto 25 (zz_ev tX12_sees) L st M) ∧
  (∀ L st M, zz_ev tX12_sees 59 L st M = zo_iload 2 60 (zz_ev tX12_sees) L st M) ∧
  (∀ L st M, zz_ev tX12_sees 60 L st M = zo_iret false (zz_ev tX12_sees) L st M) :=
  ⟨zz_1 rfl tl_X12_sees, fun L r M => (zz_1 rfl tl_X12_sees _ _ _).trans rfl, zz_1 rfl tl_X12_sees, fun L r M => (zz_1 rfl tl_X12_sees _ _ _).trans rfl, zz_1 rfl tl_X12_sees, zz_1 rfl tl_X12_sees, fun L r M => (zz_1 rfl tl_X12_sees _ _ _).trans rfl, zz_1 rfl tl_X12_sees, zz_1 rfl tl_X12_sees, fun L  r M => (zz_1 rfl tl_X12_sees _ _ _).trans rfl, zz_1 rfl tl_X12_sees, zz_1 rfl tl_X12_sees, zz_1 rfl tl_X12_sees, zz_1 rfl tl_X12_sees, zz_1 rfl tl_X12_sees, zz_1 rfl tl_X12_sees, zz_1 rfl tl_X12_sees, zz_1 rfl tl_X12_sees, fun L r M => (zz_1 rfl tl_X12_sees _ _ _).trans rfl, zz_1 rfl tl_X12_sees, fun L r M => (zz_1 rfl tl_X12_sees _ _ _).trans rfl, zz_1 rfl tl_X12_sees, zz_1 rfl tl_X12_sees, fun L r M => (zz_1 rfl tl_X12_sees _ _ _).trans rfl, zz_1 rfl tl_X12_sees, zz_1 rfl tl_X12_sees, zz_1 rfl tl_X12_sees, fun L  r M => (zz_1 rfl tl_X12_sees _ _ _).trans rfl, zz_1 rfl tl_X12_sees, zz_1 rfl tl_X12_sees, zz_1 rfl tl_X12_sees, zz_1 rfl tl_X12_sees, zz_1 rfl tl_X12_sees, zz_1 rfl tl_X12_sees⟩
set_option maxRecDepth 100000 in
theorem e_X12_sees_25 : (∀ L st M, zz_ev tX12_sees 25 L st M = zo_iload 3 26 (zz_ev tX12_sees) L st M) := zz_1 rfl tl_X12_sees
set_option maxRecDepth 100000 in
theorem s_X12_sees (a0 : Int32) (v : Nat) (M : zzMd) : fX12_sees [.ref v, .int a0] M = zz_ev tX12_sees 0 [some (.ref v), some (.int a0), none, none] [] M := rfl
set_option maxRecDepth 100000 in
theorem e_X12_wrote : (∀ L st M, zz_ev tX12_wrote 0 L st M = zo_aload 0 1 (zz_ev tX12_wrote) L st M) ∧
  (∀ (L : zzLc) (r : List Value) (M : zzMd), zz_ev tX12_wrote 1 L (.ref 0 :: r) M = zz_ev tX12_wrote 4 L (.ref 35 :: r) M) ∧
  (∀ L st M, zz_ev tX12_wrote 4 L st M = zo_pushI 60 6 (zz_ev tX12_wrote) L st M) ∧
  (∀ L st M, zz_ev tX12_wrote 6 L st M = zo_aload 0 7 (zz_ev tX12_wrote) L st M) ∧
  (∀ (L : zzLc) (r : List Value) (M : zzMd), zz_ev tX12_wrote 7 L (.ref 0 :: r) M = zz_ev tX12_wrote 10 L (.int (M.1 0 42) :: r) M) ∧
  (∀ L st M, zz_ev tX12_wrote 10 L st M = zo_ii (fun x y => x * y) 11 (zz_ev tX12_wrote) L st M) ∧
  (∀ L st M, zz_ev tX12_wrote 11 L st M = zo_aload 0 12 (zz_ev tX12_wrote) L st M) ∧
  (∀ (L : zzLc) (r : List Value) (M : zzMd), zz_ev tX12_wrote 12 L (.ref 0 :: r) M = zz_ev tX12_wrote 15 L (.int (M.1 0 43) :: r) M) ∧
  (∀ L st M, zz_ev tX12_wrote 15 L st M = zo_ii (fun x y => x + y) 16 (zz_ev tX12_wrote) L st M) ∧
  (∀ L st M, zz_ev tX12_wrote 16 L st M = zo_aload 0 17 (zz_ev tX12_wrote) L st M) ∧
  (∀ (L : zzLc) (r : List Value) (M : zzMd), zz_ev tX12_wrote 17 L (.ref 0 :: r) M = zz_ev tX12_wrote 20 L (.int (M.1 0 14) :: r) M) ∧
  (∀ L st M, zz_ev tX12_wrote 20 L st M = zo_iload 1 21 (zz_ev tX12_wrote) L st M) ∧
  (∀ L st M, zz_ev tX12_wrote 21 L st M = zo_icmp (fun x y => decide (x ≤ y)) 31 24 (zz_ev tX12_wrote) L st M) ∧
  (∀ L st M, zz_ev tX12_wrote 24 L st M = zo_aload 0 25 (zz_ev tX12_wrote) L st M) ∧
  (∀ (L : zzLc) (r : List Value) (M : zzMd), zz_ev tX12_wrote 25 L (.ref 0 :: r) M = zz_ev tX12_wrote 28 L (.int (M.1 0 14) :: r) M) ∧
  (∀ L st M, zz_ev tX12_wrote 28 L st M = zo_goto 48 (zz_ev tX12_wrote) L st M) ∧
  (∀ L st M, zz_ev tX12_wrote 31 L st M = zo_aload 0 32 (zz_ev tX12_wrote) L st M) ∧
  (∀ (L : zzLc) (r : List Value) (M : zzMd), zz_ev tX12_wrote 32 L (.ref 0 :: r) M = zz_ev tX12_wrote 35 L (.ref 35 :: r) M) ∧
  (∀ L st M, zz_ev tX12_wrote 35 L st M = zo_pushI 60 37 (zz_ev tX12_wrote) L st M) ∧
  (∀ L st M, zz_ev tX12_wrote 37 L st M = zo_aload 0 38 (zz_ev tX12_wrote) L st M) ∧
  (∀ (L : zzLc) (r : List Value) (M : zzMd), zz_ev tX12_wrote 38 L (.ref 0 :: r) M = zz_ev tX12_wrote 41 L (.int (M.1 0 42) :: r) M) ∧
  (∀ L st M, zz_ev tX12_wrote 41 L st M = zo_ii (fun x y => x * y) 42 (zz_ev tX12_wrote) L st M) ∧
  (∀ L st M, zz_ev tX12_wrote 42 L st M = zo_aload 0 43 (zz_ev tX12_wrote) L st M) ∧
  (∀ (L : zzLc) (r : List Value) (M : zzMd), zz_ev tX12_wrote 43 L (.ref 0 :: r) M = zz_ev tX12_wrote 46 L (.int (M.1 0 43) :: r) M) ∧
  (∀ L st M, zz_ev tX12_wrote 46 L st M = zo_ii (fun x y => x + y) 47 (zz_ev tX12_wrote) L st M) ∧
  (∀ L st M, zz_ev tX12_wrote 47 L st M = zo_iald zzSR zzSTR 48 (zz_ev tX12_wrote) L st M) ∧
  (∀ L st M, zz_ev tX12_wrote 48 L st M = zo_iast zzSR 49 (zz_ev tX12_wrote) L st M) ∧
  (∀ L st M, zz_ev tX12_wrote 49 L st M = zo_ret (zz_ev tX12_wrote) L st M) :=
  ⟨zz_1 rfl tl_X12_wrote, fun L r M => (zz_1 rfl tl_X12_wrote _ _ _).trans rfl, zz_1 rfl tl_X12_wrote, zz_1 rfl tl_X12_wrote, fun L r M => (zz_1 rfl tl_X12_wrote _ _ _).trans rfl, zz_1 rfl tl_X12_wrote, zz_1 rfl tl_X12_wrote, fun L r M => (zz_1 rfl tl_X12_wrote _ _ _).trans rfl, zz_1 rfl tl_X12_wrote, zz_1 rfl tl_X12_wrote, fun L r M => (zz_1 rfl tl_X12_wrote _ _ _).trans rfl, zz_1 rfl tl_X12_wrote, zz_1 rfl tl_X12_wrote, zz_1 rfl tl_X12_wrote, fun L r M => (zz_1 rfl tl_X12_wrote _ _ _).trans rfl, zz_1 rfl tl_X12_wrote, zz_1 rfl tl_X12_wrote, fun L r M => (zz_1 rfl tl_X12_wrote _ _ _).trans rfl, zz_1 rfl tl_X12_wrote, zz_1 rfl tl_X12_wrote, fun L r M => (zz_1 rfl tl_X12_wrote _ _ _).trans rfl, zz_1 rfl tl_X12_wrote, zz_1 rfl tl_X12_wrote, fun L r M => (zz_1 rfl tl_X12_wrote _ _ _).trans rfl, zz_1 rfl tl_X12_wrote, zz_1 rfl tl_X12_wrote, zz_1 rfl tl_X12_wrote, zz_1 rfl tl_X12_wrote⟩
set_option maxRecDepth 100000 in
theorem s_X12_wrote (a0 : Int32) (v : Nat) (M : zzMd) : fX12_wrote [.ref v, .int a0] M = zz_ev tX12_wrote 0 [some (.ref v), some (.int a0)] [] M := rfl
set_option maxRecDepth 100000 in
theorem e_X12_isCurrent : (∀ L st M, zz_ev tX12_isCurrent 0 L st M = zo_aload 0 1 (zz_ev tX12_isCurrent) L st M) ∧
  (∀ (L : zzLc) (r : List Value) (M : zzMd), zz_ev tX12_isCurrent 1 L (.ref 0 :: r) M = zz_ev tX12_isCurrent 4 L (.ref 9 :: r) M) ∧
  (∀ L st M, zz_ev tX12_isCurrent 4 L st M = zo_iload 1 5 (zz_ev tX12_isCurrent) L st M) ∧
  (∀ L st M, zz_ev tX12_isCurrent 5 L st M = zo_iald zzSR zzSTR 6 (zz_ev tX12_isCurrent) L st M) ∧
  (∀ L st M, zz_ev tX12_isCurrent 6 L st M = zo_aload 0 7 (zz_ev tX12_isCurrent) L st M) ∧
  (∀ (L : zzLc) (r : List Value) (M : zzMd), zz_ev tX12_isCurrent 7 L (.ref 0 :: r) M = zz_ev tX12_isCurrent 10 L (.ref 30 :: r) M) ∧
  (∀ L st M, zz_ev tX12_isCurrent 10 L st M = zo_pushI 60 12 (zz_ev tX12_isCurrent) L st M) ∧
  (∀ L st M, zz_ev tX12_isCurrent 12 L st M = zo_aload 0 13 (zz_ev tX12_isCurrent) L st M) ∧
  (∀ (L : zzLc) (r : List Value) (M : zzMd), zz_ev tX12_isCurrent 13 L (.ref 0 :: r) M = zz_ev tX12_isCurrent 16 L (.int (M.1 0 42) :: r) M) ∧
  (∀ L st M, zz_ev tX12_isCurrent 16 L st M = zo_ii (fun x y => x * y) 17 (zz_ev tX12_isCurrent) L st M) ∧
  (∀ L st M, zz_ev tX12_isCurrent 17 L st M = zo_iload 1 18 (zz_ev tX12_isCurrent) L st M) ∧
  (∀ L st M, zz_ev tX12_isCurrent 18 L st M = zo_ii (fun x y => x + y) 19 (zz_ev tX12_isCurrent) L st M) ∧
  (∀ L st M, zz_ev tX12_isCurrent 19 L st M = zo_iald zzSR zzSTR 20 (zz_ev tX12_isCurrent) L st M) ∧
  (∀ L st M, zz_ev tX12_isCurrent 20 L st M = zo_icmp (fun x y => decide (¬ x = y)) 27 23 (zz_ev tX12_isCurrent) L st M) ∧
  (∀ L st M, zz_ev tX12_isCurrent 23 L st M = zo_pushI 1 24 (zz_ev tX12_isCurrent) L st M) ∧
  (∀ L st M, zz_ev tX12_isCurrent 24 L st M = zo_goto 28 (zz_ev tX12_isCurrent) L st M) ∧
  (∀ L st M, zz_ev tX12_isCurrent 27 L st M = zo_pushI 0 28 (zz_ev tX12_isCurrent) L st M) ∧
  (∀ L st M, zz_ev tX12_isCurrent 28 L st M = zo_iret true (zz_ev tX12_isCurrent) L st M) :=
  ⟨zz_1 rfl tl_X12_isCurrent, fun L r M => (zz_1 rfl tl_X12_isCurrent _ _ _).trans rfl, zz_1 rfl tl_X12_isCurrent, zz_1 rfl tl_X12_isCurrent, zz_1 rfl tl_X12_isCurrent, fun L r M => (zz_1 rfl tl_X12_isCurrent _ _ _).trans rfl, zz_1 rfl tl_X12_isCurrent, zz_1 rfl tl_X12_isCurrent, fun L r M => (zz_1 rfl tl_X12_isCurrent _ _ _).trans rfl, zz_1 rfl tl_X12_isCurrent, zz_1 rfl tl_X12_isCurrent, zz_1 rfl tl_X12_isCurrent, zz_1 rfl tl_X12_isCurrent, zz_1 rfl tl_X12_isCurrent, zz_1 rfl tl_X12_isCurrent, zz_1 rfl tl_X12_isCurrent, zz_1 rfl tl_X12_isCurrent, zz_1 rfl tl_X12_isCurrent⟩
set_option maxRecDepth 100000 in
theorem s_X12_isCurrent (a0 : Int32) (v : Nat) (M : zzMd) : fX12_isCurrent [.ref v, .int a0] M = zz_ev tX12_isCurrent 0 [some (.ref v), some (.int a0)] [] M := rfl
set_option maxRecDepth 100000 in
theorem e_X12_writesIt : (∀ L st M, zz_ev tX12_writesIt 0 L st M = zo_aload 0 1 (zz_ev tX12_writesIt) L st M) ∧
  (∀ (L : zzLc) (r : List Value) (M : zzMd), zz_ev tX12_writesIt 1 L (.ref 0 :: r) M = zz_ev tX12_writesIt 4 L (.int (M.1 0 14) :: r) M) ∧
  (∀ L st M, zz_ev tX12_writesIt 4 L st M = zo_istore 6 6 (zz_ev tX12_writesIt) L st M) ∧
  (∀ L st M, zz_ev tX12_writesIt 6 L st M = zo_aload 0 7 (zz_ev tX12_writesIt) L st M) ∧
  (∀ L st M, zz_ev tX12_writesIt 7 L st M = zo_iload 1 8 (zz_ev tX12_writesIt) L st M) ∧
  (∀ (L : zzLc) (a0 : Int32) (r : List Value) (M : zzMd), zz_ev tX12_writesIt 8 L (.int a0 :: .ref 0 :: r) M = bif zz_cat8 r then zz_backN (zz_ev tX12_writesIt) 11 L r (fX12_isCurrent [.ref 0, .int a0] M) else none) ∧
  (∀ L st M, zz_ev tX12_writesIt 11 L st M = zo_if (fun x => decide (x = 0)) 30 14 (zz_ev tX12_writesIt) L st M) ∧
  (∀ L st M, zz_ev tX12_writesIt 14 L st M = zo_aload 0 15 (zz_ev tX12_writesIt) L st M) ∧
  (∀ L st M, zz_ev tX12_writesIt 15 L st M = zo_iload 1 16 (zz_ev tX12_writesIt) L st M) ∧
  (∀ L st M, zz_ev tX12_writesIt 16 L st M = zo_lload 2 17 (zz_ev tX12_writesIt) L st M) ∧
  (∀ L st M, zz_ev tX12_writesIt 17 L st M = zo_lload 4 19 (zz_ev tX12_writesIt) L st M) ∧
  (∀ L st M, zz_ev tX12_writesIt 19 L st M = zo_pushI 0 20 (zz_ev tX12_writesIt) L st M) ∧
  (∀ (L : zzLc) (a0 a3 : Int32) (a1 a2 : Int64) (r : List Value) (M : zzMd), zz_ev tX12_writesIt 20 L (.int a3 :: .long a2 :: .long a1 :: .int a0 :: .ref 0 :: r) M = bif zz_cat8 r then zz_backN (zz_ev tX12_writesIt) 23 L r (fX12_puts [.ref 0, .int a0, .long a1, .long a2, .int a3] M) else none) ∧
  (∀ L st M, zz_ev tX12_writesIt 23 L st M = zo_if (fun x => decide (x = 0)) 30 26 (zz_ev tX12_writesIt) L st M) ∧
  (∀ L st M, zz_ev tX12_writesIt 26 L st M = zo_pushI 1 27 (zz_ev tX12_writesIt) L st M) ∧
  (∀ L st M, zz_ev tX12_writesIt 27 L st M = zo_goto 31 (zz_ev tX12_writesIt) L st M) ∧
  (∀ L st M, zz_ev tX12_writesIt 30 L st M = zo_pushI 0 31 (zz_ev tX12_writesIt) L st M) ∧
  (∀ L st M, zz_ev tX12_writesIt 31 L st M = zo_istore 7 33 (zz_ev tX12_writesIt) L st M) ∧
  (∀ L st M, zz_ev tX12_writesIt 33 L st M = zo_aload 0 34 (zz_ev tX12_writesIt) L st M) ∧
  (∀ L st M, zz_ev tX12_writesIt 34 L st M = zo_iload 6 36 (zz_ev tX12_writesIt) L st M) ∧
  (∀ (L : zzLc) (a0 : Int32) (r : List Value) (M : zzMd), zz_ev tX12_writesIt 36 L (.int a0 :: .ref 0 :: r) M = bif zz_cat8 r then zz_backN (zz_ev tX12_writesIt) 39 L r (fX12_wrote [.ref 0, .int a0] M) else none) ∧
  (∀ L st M, zz_ev tX12_writesIt 39 L st M = zo_iload 7 41 (zz_ev tX12_writesIt) L st M) ∧
  (∀ L st M, zz_ev tX12_writesIt 41 L st M = zo_iret true (zz_ev tX12_writesIt) L st M) :=
  ⟨zz_1 rfl tl_X12_writesIt, fun L r M => (zz_1 rfl tl_X12_writesIt _ _ _).trans rfl, zz_1 rfl tl_X12_writesIt, zz_1 rfl tl_X12_writesIt, zz_1 rfl tl_X12_writesIt, fun L a0 r M => (zz_1 rfl tl_X12_writesIt _ _ _).trans rfl, zz_1 rfl tl_X12_writesIt, zz_1 rfl tl_X12_writesIt, zz_1 rfl tl_X12_writesIt, zz_1 rfl tl_X12_writesIt, zz_1 rfl tl_X12_writesIt, zz_1 rfl tl_X12_writesIt, fun L a0 a3 a1 a2 r M => (zz_1 rfl tl_X12_writesIt _ _ _).trans rfl, zz_1 rfl tl_X12_writesIt, zz_1 rfl tl_X12_writesIt, zz_1 rfl tl_X12_writesIt, zz_1 rfl tl_X12_writesIt, zz_1 rfl tl_X12_writesIt, zz_1 rfl tl_X12_writesIt, zz_1 rfl tl_X12_writesIt, fun L a0 r M => (zz_1 rfl tl_X12_writesIt _ _ _).trans rfl, zz_1 rfl tl_X12_writesIt, zz_1 rfl tl_X12_writesIt⟩
set_option maxRecDepth 100000 in
theorem s_X12_writesIt (a0 : Int32) (a1 a2 : Int64) (v : Nat) (M : zzMd) : fX12_writesIt [.ref v, .int a0, .long a1, .long a2] M = zz_ev tX12_writesIt 0 [some (.ref v), some (.int a0), some (.long a1), none, some (.long a2), none, none, none] [] M := rfl
set_option maxRecDepth 100000 in
theorem e_X12_wants : (∀ L st M, zz_ev tX12_wants 0 L st M = zo_aload 0 1 (zz_ev tX12_wants) L st M) ∧
  (∀ (L : zzLc) (r : List Value) (M : zzMd), zz_ev tX12_wants 1 L (.ref 0 :: r) M = zz_ev tX12_wants 4 L (.int (M.1 0 14) :: r) M) ∧
  (∀ L st M, zz_ev tX12_wants 4 L st M = zo_istore 3 5 (zz_ev tX12_wants) L st M) ∧
  (∀ L st M, zz_ev tX12_wants 5 L st M = zo_aload 0 6 (zz_ev tX12_wants) L st M) ∧
  (∀ L st M, zz_ev tX12_wants 6 L st M = zo_iload 1 7 (zz_ev tX12_wants) L st M) ∧
  (∀ (L : zzLc) (a0 : Int32) (r : List Value) (M : zzMd), zz_ev tX12_wants 7 L (.int a0 :: .ref 0 :: r) M = bif zz_cat8 r then zz_backN (zz_ev tX12_wants) 10 L r (fX12_isCurrent [.ref 0, .int a0] M) else none) ∧
  (∀ L st M, zz_ev tX12_wants 10 L st M = zo_if (fun x => decide (x = 0)) 28 13 (zz_ev tX12_wants) L st M) ∧
  (∀ L st M, zz_ev tX12_wants 13 L st M = zo_aload 0 14 (zz_ev tX12_wants) L st M) ∧
  (∀ L st M, zz_ev tX12_wants 14 L st M = zo_pushI 4 15 (zz_ev tX12_wants) L st M) ∧
  (∀ L st M, zz_ev tX12_wants 15 L st M = zo_iload 1 16 (zz_ev tX12_wants) L st M) ∧
  (∀ L st M, zz_ev tX12_wants 16 L st M = zo_pushI 0 17 (zz_ev tX12_wants) L st M) ∧
  (∀ L st M, zz_ev tX12_wants 17 L st M = zo_iload 2 18 (zz_ev tX12_wants) L st M) ∧
  (∀ (L : zzLc) (a0 a1 a2 a3 : Int32) (r : List Value) (M : zzMd), zz_ev tX12_wants 18 L (.int a3 :: .int a2 :: .int a1 :: .int a0 :: .ref 0 :: r) M = bif zz_cat8 r then zz_backN (zz_ev tX12_wants) 21 L r (fX12_applies [.ref 0, .int a0, .int a1, .int a2, .int a3] M) else none) ∧
  (∀ L st M, zz_ev tX12_wants 21 L st M = zo_if (fun x => decide (x = 0)) 28 24 (zz_ev tX12_wants) L st M) ∧
  (∀ L st M, zz_ev tX12_wants 24 L st M = zo_pushI 1 25 (zz_ev tX12_wants) L st M) ∧
  (∀ L st M, zz_ev tX12_wants 25 L st M = zo_goto 29 (zz_ev tX12_wants) L st M) ∧
  (∀ L st M, zz_ev tX12_wants 28 L st M = zo_pushI 0 29 (zz_ev tX12_wants) L st M) ∧
  (∀ L st M, zz_ev tX12_wants 29 L st M = zo_istore 4 31 (zz_ev tX12_wants) L st M) ∧
  (∀ L st M, zz_ev tX12_wants 31 L st M = zo_aload 0 32 (zz_ev tX12_wants) L st M) ∧
  (∀ L st M, zz_ev tX12_wants 32 L st M = zo_iload 3 33 (zz_ev tX12_wants) L st M) ∧
  (∀ (L : zzLc) (a0 : Int32) (r : List Value) (M : zzMd), zz_ev tX12_wants 33 L (.int a0 :: .ref 0 :: r) M = bif zz_cat8 r then zz_backN (zz_ev tX12_wants) 36 L r (fX12_wrote [.ref 0, .int a0] M) else none) ∧
  (∀ L st M, zz_ev tX12_wants 36 L st M = zo_iload 4 38 (zz_ev tX12_wants) L st M) ∧
  (∀ L st M, zz_ev tX12_wants 38 L st M = zo_iret true (zz_ev tX12_wants) L st M) :=
  ⟨zz_1 rfl tl_X12_wants, fun L r M => (zz_1 rfl tl_X12_wants _ _ _).trans rfl, zz_1 rfl tl_X12_wants, zz_1 rfl tl_X12_wants, zz_1 rfl tl_X12_wants, fun L a0 r M => (zz_1 rfl tl_X12_wants _ _ _).trans rfl, zz_1 rfl tl_X12_wants, zz_1 rfl tl_X12_wants, zz_1 rfl tl_X12_wants, zz_1 rfl tl_X12_wants, zz_1 rfl tl_X12_wants, zz_1 rfl tl_X12_wants, fun L a0 a1 a2 a3 r M => (zz_1 rfl tl_X12_wants _ _ _).trans rfl, zz_1 rfl tl_X12_wants, zz_1 rfl tl_X12_wants, zz_1 rfl tl_X12_wants, zz_1 rfl tl_X12_wants, zz_1 rfl tl_X12_wants, zz_1 rfl tl_X12_wants, zz_1 rfl tl_X12_wants, fun L a0 r M => (zz_1 rfl tl_X12_wants _ _ _).trans rfl, zz_1 rfl tl_X12_wants, zz_1 rfl tl_X12_wants⟩
set_option maxRecDepth 100000 in
theorem s_X12_wants (a0 a1 : Int32) (v : Nat) (M : zzMd) : fX12_wants [.ref v, .int a0, .int a1] M = zz_ev tX12_wants 0 [some (.ref v), some (.int a0), some (.int a1), none, none] [] M := rfl
set_option maxRecDepth 100000 in
theorem e_X12_deletes : (∀ L st M, zz_ev tX12_deletes 0 L st M = zo_aload 0 1 (zz_ev tX12_deletes) L st M) ∧
  (∀ L st M, zz_ev tX12_deletes 1 L st M = zo_iload 1 2 (zz_ev tX12_deletes) L st M) ∧
  (∀ L st M, zz_ev tX12_deletes 2 L st M = zo_aload 0 3 (zz_ev tX12_deletes) L st M) ∧
  (∀ L st M, zz_ev tX12_deletes 3 L st M = zo_iload 1 4 (zz_ev tX12_deletes) L st M) ∧
  (∀ L st M, zz_ev tX12_deletes 4 L st M = zo_aload 0 5 (zz_ev tX12_deletes) L st M) ∧
  (∀ (L : zzLc) (r : List Value) (M : zzMd), zz_ev tX12_deletes 5 L (.ref 0 :: r) M = zz_ev tX12_deletes 8 L (.ref 7 :: r) M) ∧
  (∀ L st M, zz_ev tX12_deletes 8 L st M = zo_iload 1 9 (zz_ev tX12_deletes) L st M) ∧
  (∀ L st M, zz_ev tX12_deletes 9 L st M = zo_lald zzSR 10 (zz_ev tX12_deletes) L st M) ∧
  (∀ L st M, zz_ev tX12_deletes 10 L st M = zo_pushI 2 11 (zz_ev tX12_deletes) L st M) ∧
  (∀ (L : zzLc) (a0 a2 : Int32) (a1 : Int64) (r : List Value) (M : zzMd), zz_ev tX12_deletes 11 L (.int a2 :: .long a1 :: .int a0 :: .ref 0 :: r) M = bif zz_cat8 r then zz_backN (zz_ev tX12_deletes) 14 L r (fX12_deleted [.ref 0, .int a0, .long a1, .int a2] M) else none) ∧
  (∀ L st M, zz_ev tX12_deletes 14 L st M = zo_aload 0 15 (zz_ev tX12_deletes) L st M) ∧
  (∀ (L : zzLc) (r : List Value) (M : zzMd), zz_ev tX12_deletes 15 L (.ref 0 :: r) M = zz_ev tX12_deletes 18 L (.ref 8 :: r) M) ∧
  (∀ L st M, zz_ev tX12_deletes 18 L st M = zo_iload 1 19 (zz_ev tX12_deletes) L st M) ∧
  (∀ L st M, zz_ev tX12_deletes 19 L st M = zo_lald zzSR 20 (zz_ev tX12_deletes) L st M) ∧
  (∀ (L : zzLc) (a0 : Int32) (a1 a2 : Int64) (r : List Value) (M : zzMd), zz_ev tX12_deletes 20 L (.long a2 :: .long a1 :: .int a0 :: .ref 0 :: r) M = bif zz_cat8 r then zz_backN (zz_ev tX12_deletes) 23 L r (fX12_writesIt [.ref 0, .int a0, .long a1, .long a2] M) else none) ∧
  (∀ L st M, zz_ev tX12_deletes 23 L st M = zo_iret true (zz_ev tX12_deletes) L st M) :=
  ⟨zz_1 rfl tl_X12_deletes, zz_1 rfl tl_X12_deletes, zz_1 rfl tl_X12_deletes, zz_1 rfl tl_X12_deletes, zz_1 rfl tl_X12_deletes, fun L r M => (zz_1 rfl tl_X12_deletes _ _ _).trans rfl, zz_1 rfl tl_X12_deletes, zz_1 rfl tl_X12_deletes, zz_1 rfl tl_X12_deletes, fun L a0 a2 a1 r M => (zz_1 rfl tl_X12_deletes _ _ _).trans rfl, zz_1 rfl tl_X12_deletes, fun L r M => (zz_1 rfl tl_X12_deletes _ _ _).trans rfl, zz_1 rfl tl_X12_deletes, zz_1 rfl tl_X12_deletes, fun L a0 a1 a2 r M => (zz_1 rfl tl_X12_deletes _ _ _).trans rfl, zz_1 rfl tl_X12_deletes⟩
set_option maxRecDepth 100000 in
theorem s_X12_deletes (a0 : Int32) (v : Nat) (M : zzMd) : fX12_deletes [.ref v, .int a0] M = zz_ev tX12_deletes 0 [some (.ref v), some (.int a0)] [] M := rfl
set_option maxRecDepth 100000 in
theorem e_X12_makesOne : (∀ L st M, zz_ev tX12_makesOne 0 L st M = zo_aload 0 1 (zz_ev tX12_makesOne) L st M) ∧
  (∀ (L : zzLc) (r : List Value) (M : zzMd), zz_ev tX12_makesOne 1 L (.ref 0 :: r) M = zz_ev tX12_makesOne 4 L (.int (M.1 0 14) :: r) M) ∧
  (∀ L st M, zz_ev tX12_makesOne 4 L st M = zo_istore 4 6 (zz_ev tX12_makesOne) L st M) ∧
  (∀ L st M, zz_ev tX12_makesOne 6 L st M = zo_aload 0 7 (zz_ev tX12_makesOne) L st M) ∧
  (∀ L st M, zz_ev tX12_makesOne 7 L st M = zo_pushI 4 8 (zz_ev tX12_makesOne) L st M) ∧
  (∀ L st M, zz_ev tX12_makesOne 8 L st M = zo_iload 1 9 (zz_ev tX12_makesOne) L st M) ∧
  (∀ L st M, zz_ev tX12_makesOne 9 L st M = zo_iload 2 10 (zz_ev tX12_makesOne) L st M) ∧
  (∀ L st M, zz_ev tX12_makesOne 10 L st M = zo_iload 3 11 (zz_ev tX12_makesOne) L st M) ∧
  (∀ (L : zzLc) (a0 a1 a2 a3 : Int32) (r : List Value) (M : zzMd), zz_ev tX12_makesOne 11 L (.int a3 :: .int a2 :: .int a1 :: .int a0 :: .ref 0 :: r) M = bif zz_cat8 r then zz_backN (zz_ev tX12_makesOne) 14 L r (fX12_makes [.ref 0, .int a0, .int a1, .int a2, .int a3] M) else none) ∧
  (∀ L st M, zz_ev tX12_makesOne 14 L st M = zo_pushI (-1) 15 (zz_ev tX12_makesOne) L st M) ∧
  (∀ L st M, zz_ev tX12_makesOne 15 L st M = zo_icmp (fun x y => decide (x = y)) 22 18 (zz_ev tX12_makesOne) L st M) ∧
  (∀ L st M, zz_ev tX12_makesOne 18 L st M = zo_pushI 1 19 (zz_ev tX12_makesOne) L st M) ∧
  (∀ L st M, zz_ev tX12_makesOne 19 L st M = zo_goto 23 (zz_ev tX12_makesOne) L st M) ∧
  (∀ L st M, zz_ev tX12_makesOne 22 L st M = zo_pushI 0 23 (zz_ev tX12_makesOne) L st M) ∧
  (∀ L st M, zz_ev tX12_makesOne 23 L st M = zo_istore 5 25 (zz_ev tX12_makesOne) L st M) ∧
  (∀ L st M, zz_ev tX12_makesOne 25 L st M = zo_aload 0 26 (zz_ev tX12_makesOne) L st M) ∧
  (∀ L st M, zz_ev tX12_makesOne 26 L st M = zo_iload 4 28 (zz_ev tX12_makesOne) L st M) ∧
  (∀ (L : zzLc) (a0 : Int32) (r : List Value) (M : zzMd), zz_ev tX12_makesOne 28 L (.int a0 :: .ref 0 :: r) M = bif zz_cat8 r then zz_backN (zz_ev tX12_makesOne) 31 L r (fX12_wrote [.ref 0, .int a0] M) else none) ∧
  (∀ L st M, zz_ev tX12_makesOne 31 L st M = zo_iload 5 33 (zz_ev tX12_makesOne) L st M) ∧
  (∀ L st M, zz_ev tX12_makesOne 33 L st M = zo_iret true (zz_ev tX12_makesOne) L st M) :=
  ⟨zz_1 rfl tl_X12_makesOne, fun L r M => (zz_1 rfl tl_X12_makesOne _ _ _).trans rfl, zz_1 rfl tl_X12_makesOne, zz_1 rfl tl_X12_makesOne, zz_1 rfl tl_X12_makesOne, zz_1 rfl tl_X12_makesOne, zz_1 rfl tl_X12_makesOne, zz_1 rfl tl_X12_makesOne, fun L a0 a1 a2 a3 r M => (zz_1 rfl tl_X12_makesOne _ _ _).trans rfl, zz_1 rfl tl_X12_makesOne, zz_1 rfl tl_X12_makesOne, zz_1 rfl tl_X12_makesOne, zz_1 rfl tl_X12_makesOne, zz_1 rfl tl_X12_makesOne, zz_1 rfl tl_X12_makesOne, zz_1 rfl tl_X12_makesOne, zz_1 rfl tl_X12_makesOne, fun L a0 r M => (zz_1 rfl tl_X12_makesOne _ _ _).trans rfl, zz_1 rfl tl_X12_makesOne, zz_1 rfl tl_X12_makesOne⟩
set_option maxRecDepth 100000 in
theorem s_X12_makesOne (a0 a1 a2 : Int32) (v : Nat) (M : zzMd) : fX12_makesOne [.ref v, .int a0, .int a1, .int a2] M = zz_ev tX12_makesOne 0 [some (.ref v), some (.int a0), some (.int a1), some (.int a2), none, none] [] M := rfl
set_option maxRecDepth 100000 in
theorem e_X12_isOwned : (∀ L st M, zz_ev tX12_isOwned 0 L st M = zo_aload 0 1 (zz_ev tX12_isOwned) L st M) ∧
  (∀ L st M, zz_ev tX12_isOwned 1 L st M = zo_iload 1 2 (zz_ev tX12_isOwned) L st M) ∧
  (∀ L st M, zz_ev tX12_isOwned 2 L st M = zo_iload 2 3 (zz_ev tX12_isOwned) L st M) ∧
  (∀ (L : zzLc) (a0 a1 : Int32) (r : List Value) (M : zzMd), zz_ev tX12_isOwned 3 L (.int a1 :: .int a0 :: .ref 0 :: r) M = bif zz_cat8 r then zz_backN (zz_ev tX12_isOwned) 6 L r (fX12_stays [.ref 0, .int a0, .int a1] M) else none) ∧
  (∀ L st M, zz_ev tX12_isOwned 6 L st M = zo_if (fun x => decide (x = 0)) 26 9 (zz_ev tX12_isOwned) L st M) ∧
  (∀ L st M, zz_ev tX12_isOwned 9 L st M = zo_aload 0 10 (zz_ev tX12_isOwned) L st M) ∧
  (∀ L st M, zz_ev tX12_isOwned 10 L st M = zo_aload 0 11 (zz_ev tX12_isOwned) L st M) ∧
  (∀ L st M, zz_ev tX12_isOwned 11 L st M = zo_iload 1 12 (zz_ev tX12_isOwned) L st M) ∧
  (∀ (L : zzLc) (a0 : Int32) (r : List Value) (M : zzMd), zz_ev tX12_isOwned 12 L (.int a0 :: .ref 0 :: r) M = bif zz_cat8 r then zz_backN (zz_ev tX12_isOwned) 15 L r (fX12_view [.ref 0, .int a0] M) else none) ∧
  (∀ (L : zzLc) (a0 : Int64) (r : List Value) (M : zzMd), zz_ev tX12_isOwned 15 L (.long a0 :: .ref 0 :: r) M = bif zz_cat8 r then zz_backN (zz_ev tX12_isOwned) 18 L r (fX12_ownerIn [.ref 0, .long a0] M) else none) ∧
  (∀ L st M, zz_ev tX12_isOwned 18 L st M = zo_iload 3 19 (zz_ev tX12_isOwned) L st M) ∧
  (∀ L st M, zz_ev tX12_isOwned 19 L st M = zo_icmp (fun x y => decide (¬ x = y)) 26 22 (zz_ev tX12_isOwned) L st M) ∧
  (∀ L st M, zz_ev tX12_isOwned 22 L st M = zo_pushI 1 23 (zz_ev tX12_isOwned) L st M) ∧
  (∀ L st M, zz_ev tX12_isOwned 23 L st M = zo_goto 27 (zz_ev tX12_isOwned) L st M) ∧
  (∀ L st M, zz_ev tX12_isOwned 26 L st M = zo_pushI 0 27 (zz_ev tX12_isOwned) L st M) ∧
  (∀ L st M, zz_ev tX12_isOwned 27 L st M = zo_iret true (zz_ev tX12_isOwned) L st M) :=
  ⟨zz_1 rfl tl_X12_isOwned, zz_1 rfl tl_X12_isOwned, zz_1 rfl tl_X12_isOwned, fun L a0 a1 r M => (zz_1 rfl tl_X12_isOwned _ _ _).trans rfl, zz_1 rfl tl_X12_isOwned, zz_1 rfl tl_X12_isOwned, zz_1 rfl tl_X12_isOwned, zz_1 rfl tl_X12_isOwned, fun L a0 r M => (zz_1 rfl tl_X12_isOwned _ _ _).trans rfl, fun L a0 r M => (zz_1 rfl tl_X12_isOwned _ _ _).trans rfl, zz_1 rfl tl_X12_isOwned, zz_1 rfl tl_X12_isOwned, zz_1 rfl tl_X12_isOwned, zz_1 rfl tl_X12_isOwned, zz_1 rfl tl_X12_isOwned, zz_1 rfl tl_X12_isOwned⟩
set_option maxRecDepth 100000 in
theorem s_X12_isOwned (a0 a1 a2 : Int32) (v : Nat) (M : zzMd) : fX12_isOwned [.ref v, .int a0, .int a1, .int a2] M = zz_ev tX12_isOwned 0 [some (.ref v), some (.int a0), some (.int a1), some (.int a2)] [] M := rfl
set_option maxRecDepth 100000 in
theorem e_X12_pods : (∀ L st M, zz_ev tX12_pods 0 L st M = zo_pushI 0 1 (zz_ev tX12_pods) L st M) ∧
  (∀ L st M, zz_ev tX12_pods 1 L st M = zo_istore 3 2 (zz_ev tX12_pods) L st M) ∧
  (∀ L st M, zz_ev tX12_pods 2 L st M = zo_pushI 0 3 (zz_ev tX12_pods) L st M) ∧
  (∀ L st M, zz_ev tX12_pods 3 L st M = zo_istore 4 5 (zz_ev tX12_pods) L st M) ∧
  (∀ L st M, zz_ev tX12_pods 7 L st M = zo_aload 0 8 (zz_ev tX12_pods) L st M) ∧
  (∀ (L : zzLc) (r : List Value) (M : zzMd), zz_ev tX12_pods 8 L (.ref 0 :: r) M = zz_ev tX12_pods 11 L (.int (M.1 0 5) :: r) M) ∧
  (∀ L st M, zz_ev tX12_pods 11 L st M = zo_icmp (fun x y => decide (y ≤ x)) 55 14 (zz_ev tX12_pods) L st M) ∧
  (∀ L st M, zz_ev tX12_pods 14 L st M = zo_iload 3 15 (zz_ev tX12_pods) L st M) ∧
  (∀ L st M, zz_ev tX12_pods 15 L st M = zo_aload 0 16 (zz_ev tX12_pods) L st M) ∧
  (∀ L st M, zz_ev tX12_pods 16 L st M = zo_iload 4 18 (zz_ev tX12_pods) L st M) ∧
  (∀ L st M, zz_ev tX12_pods 18 L st M = zo_pushI 2 19 (zz_ev tX12_pods) L st M) ∧
  (∀ L st M, zz_ev tX12_pods 19 L st M = zo_iload 1 20 (zz_ev tX12_pods) L st M) ∧
  (∀ (L : zzLc) (a0 a1 a2 : Int32) (r : List Value) (M : zzMd), zz_ev tX12_pods 20 L (.int a2 :: .int a1 :: .int a0 :: .ref 0 :: r) M = bif zz_cat8 r then zz_backN (zz_ev tX12_pods) 23 L r (fX12_isOwned [.ref 0, .int a0, .int a1, .int a2] M) else none) ∧
  (∀ L st M, zz_ev tX12_pods 23 L st M = zo_if (fun x => decide (x = 0)) 46 26 (zz_ev tX12_pods) L st M) ∧
  (∀ L st M, zz_ev tX12_pods 26 L st M = zo_iload 2 27 (zz_ev tX12_pods) L st M) ∧
  (∀ L st M, zz_ev tX12_pods 27 L st M = zo_aload 0 28 (zz_ev tX12_pods) L st M) ∧
  (∀ L st M, zz_ev tX12_pods 28 L st M = zo_iload 4 30 (zz_ev tX12_pods) L st M) ∧
  (∀ L st M, zz_ev tX12_pods 30 L st M = zo_pushI 16 32 (zz_ev tX12_pods) L st M) ∧
  (∀ (L : zzLc) (a0 a1 : Int32) (r : List Value) (M : zzMd), zz_ev tX12_pods 32 L (.int a1 :: .int a0 :: .ref 0 :: r) M = bif zz_cat8 r then zz_backN (zz_ev tX12_pods) 35 L r (fX12_viewed [.ref 0, .int a0, .int a1] M) else none) ∧
  (∀ L st M, zz_ev tX12_pods 35 L st M = zo_ii (fun x y => x >>> (y &&& 31)) 36 (zz_ev tX12_pods) L st M) ∧
  (∀ L st M, zz_ev tX12_pods 36 L st M = zo_pushI 1 37 (zz_ev tX12_pods) L st M) ∧
  (∀ L st M, zz_ev tX12_pods 37 L st M = zo_ii (fun x y => x &&& y) 38 (zz_ev tX12_pods) L st M) ∧
  (∀ L st M, zz_ev tX12_pods 38 L st M = zo_pushI 1 39 (zz_ev tX12_pods) L st M) ∧
  (∀ L st M, zz_ev tX12_pods 39 L st M = zo_icmp (fun x y => decide (¬ x = y)) 46 42 (zz_ev tX12_pods) L st M) ∧
  (∀ L st M, zz_ev tX12_pods 42 L st M = zo_pushI 1 43 (zz_ev tX12_pods) L st M) ∧
  (∀ L st M, zz_ev tX12_pods 43 L st M = zo_goto 47 (zz_ev tX12_pods) L st M) ∧
  (∀ L st M, zz_ev tX12_pods 46 L st M = zo_pushI 0 47 (zz_ev tX12_pods) L st M) ∧
  (∀ L st M, zz_ev tX12_pods 47 L st M = zo_ii (fun x y => x + y) 48 (zz_ev tX12_pods) L st M) ∧
  (∀ L st M, zz_ev tX12_pods 48 L st M = zo_istore 3 49 (zz_ev tX12_pods) L st M) ∧
  (∀ L st M, zz_ev tX12_pods 49 L st M = zo_iinc 4 1 52 (zz_ev tX12_pods) L st M) ∧
  (∀ L st M, zz_ev tX12_pods 52 L st M = zo_goto 5 (zz_ev tX12_pods) L st M) ∧
  (∀ L st M, zz_ev tX12_pods 55 L st M = zo_iload 3 56 (zz_ev tX12_pods) L st M) ∧
  (∀ L st M, zz_ev tX12_pods 56 L st M = zo_iret false (zz_ev tX12_pods) L st M) :=
  ⟨zz_1 rfl tl_X12_pods, zz_1 rfl tl_X12_pods, zz_1 rfl tl_X12_pods, zz_1 rfl tl_X12_pods, zz_1 rfl tl_X12_pods, fun L r M => (zz_1 rfl tl_X12_pods _ _ _).trans rfl, zz_1 rfl tl_X12_pods, zz_1 rfl tl_X12_pods, zz_1 rfl tl_X12_pods, zz_1 rfl tl_X12_pods, zz_1 rfl tl_X12_pods, zz_1 rfl tl_X12_pods, fun L a0 a1 a2 r M => (zz_1 rfl tl_X12_pods _ _ _).trans rfl, zz_1 rfl tl_X12_pods, zz_1 rfl tl_X12_pods, zz_1 rfl tl_X12_pods, zz_1 rfl tl_X12_pods, zz_1 rfl tl_X12_pods, fun L a0 a1 r M => (zz_1 rfl tl_X12_pods _ _ _).trans rfl, zz_1 rfl tl_X12_pods, zz_1 rfl tl_X12_pods, zz_1 rfl tl_X12_pods, zz_1 rfl tl_X12_pods, zz_1 rfl tl_X12_pods, zz_1 rfl tl_X12_pods, zz_1 rfl tl_X12_pods, zz_1 rfl tl_X12_pods, zz_1 rfl tl_X12_pods, zz_1 rfl tl_X12_pods, zz_1 rfl tl_X12_pods, zz_1 rfl tl_X12_pods, zz_1 rfl tl_X12_pods, zz_1 rfl tl_X12_pods⟩
set_option maxRecDepth 100000 in
theorem e_X12_pods_5 : (∀ L st M, zz_ev tX12_pods 5 L st M = zo_iload 4 7 (zz_ev tX12_pods) L st M) := zz_1 rfl tl_X12_pods
set_option maxRecDepth 100000 in
theorem s_X12_pods (a0 a1 : Int32) (v : Nat) (M : zzMd) : fX12_pods [.ref v, .int a0, .int a1] M = zz_ev tX12_pods 0 [some (.ref v), some (.int a0), some (.int a1), none, none] [] M := rfl
set_option maxRecDepth 100000 in
theorem e_X12_need : (∀ L st M, zz_ev tX12_need 0 L st M = zo_pushI 1 1 (zz_ev tX12_need) L st M) ∧
  (∀ L st M, zz_ev tX12_need 1 L st M = zo_iload 0 2 (zz_ev tX12_need) L st M) ∧
  (∀ L st M, zz_ev tX12_need 2 L st M = zo_pushI 3 3 (zz_ev tX12_need) L st M) ∧
  (∀ L st M, zz_ev tX12_need 3 L st M = zo_iid (fun x y => x - x / y * y) 4 (zz_ev tX12_need) L st M) ∧
  (∀ L st M, zz_ev tX12_need 4 L st M = zo_ii (fun x y => x + y) 5 (zz_ev tX12_need) L st M) ∧
  (∀ L st M, zz_ev tX12_need 5 L st M = zo_iret false (zz_ev tX12_need) L st M) :=
  ⟨zz_1 rfl tl_X12_need, zz_1 rfl tl_X12_need, zz_1 rfl tl_X12_need, zz_1 rfl tl_X12_need, zz_1 rfl tl_X12_need, zz_1 rfl tl_X12_need⟩
set_option maxRecDepth 100000 in
theorem s_X12_need (a0 : Int32) (M : zzMd) : fX12_need [.int a0] M = zz_ev tX12_need 0 [some (.int a0)] [] M := rfl
set_option maxRecDepth 100000 in
theorem e_X12_used : (∀ L st M, zz_ev tX12_used 0 L st M = zo_pushI 0 1 (zz_ev tX12_used) L st M) ∧
  (∀ L st M, zz_ev tX12_used 1 L st M = zo_istore 3 2 (zz_ev tX12_used) L st M) ∧
  (∀ L st M, zz_ev tX12_used 2 L st M = zo_pushI 0 3 (zz_ev tX12_used) L st M) ∧
  (∀ L st M, zz_ev tX12_used 3 L st M = zo_istore 4 5 (zz_ev tX12_used) L st M) ∧
  (∀ L st M, zz_ev tX12_used 7 L st M = zo_aload 0 8 (zz_ev tX12_used) L st M) ∧
  (∀ (L : zzLc) (r : List Value) (M : zzMd), zz_ev tX12_used 8 L (.ref 0 :: r) M = zz_ev tX12_used 11 L (.int (M.1 0 5) :: r) M) ∧
  (∀ L st M, zz_ev tX12_used 11 L st M = zo_icmp (fun x y => decide (y ≤ x)) 122 14 (zz_ev tX12_used) L st M) ∧
  (∀ L st M, zz_ev tX12_used 14 L st M = zo_aload 0 15 (zz_ev tX12_used) L st M) ∧
  (∀ L st M, zz_ev tX12_used 15 L st M = zo_iload 4 17 (zz_ev tX12_used) L st M) ∧
  (∀ (L : zzLc) (a0 : Int32) (r : List Value) (M : zzMd), zz_ev tX12_used 17 L (.int a0 :: .ref 0 :: r) M = bif zz_cat8 r then zz_backN (zz_ev tX12_used) 20 L r (fX12_isGoneThere [.ref 0, .int a0] M) else none) ∧
  (∀ L st M, zz_ev tX12_used 20 L st M = zo_if (fun x => decide (¬ x = 0)) 52 23 (zz_ev tX12_used) L st M) ∧
  (∀ L st M, zz_ev tX12_used 23 L st M = zo_aload 0 24 (zz_ev tX12_used) L st M) ∧
  (∀ (L : zzLc) (r : List Value) (M : zzMd), zz_ev tX12_used 24 L (.ref 0 :: r) M = zz_ev tX12_used 27 L (.ref 6 :: r) M) ∧
  (∀ L st M, zz_ev tX12_used 27 L st M = zo_iload 4 29 (zz_ev tX12_used) L st M) ∧
  (∀ L st M, zz_ev tX12_used 29 L st M = zo_iald zzSR zzSTR 30 (zz_ev tX12_used) L st M) ∧
  (∀ L st M, zz_ev tX12_used 30 L st M = zo_pushI 2 31 (zz_ev tX12_used) L st M) ∧
  (∀ L st M, zz_ev tX12_used 31 L st M = zo_icmp (fun x y => decide (¬ x = y)) 52 34 (zz_ev tX12_used) L st M) ∧
  (∀ L st M, zz_ev tX12_used 34 L st M = zo_aload 0 35 (zz_ev tX12_used) L st M) ∧
  (∀ L st M, zz_ev tX12_used 35 L st M = zo_iload 4 37 (zz_ev tX12_used) L st M) ∧
  (∀ L st M, zz_ev tX12_used 37 L st M = zo_pushI 15 39 (zz_ev tX12_used) L st M) ∧
  (∀ (L : zzLc) (a0 a1 : Int32) (r : List Value) (M : zzMd), zz_ev tX12_used 39 L (.int a1 :: .int a0 :: .ref 0 :: r) M = bif zz_cat8 r then zz_backN (zz_ev tX12_used) 42 L r (fX12_viewed [.ref 0, .int a0, .int a1] M) else none) ∧
  (∀ L st M, zz_ev tX12_used 42 L st M = zo_iload 1 43 (zz_ev tX12_used) L st M) ∧
  (∀ L st M, zz_ev tX12_used 43 L st M = zo_pushI 1 44 (zz_ev tX12_used) L st M) ∧
  (∀ L st M, zz_ev tX12_used 44 L st M = zo_ii (fun x y => x + y) 45 (zz_ev tX12_used) L st M) ∧
  (∀ L st M, zz_ev tX12_used 45 L st M = zo_icmp (fun x y => decide (¬ x = y)) 52 48 (zz_ev tX12_used) L st M) ∧
  (∀ L st M, zz_ev tX12_used 48 L st M = zo_pushI 1 49 (zz_ev tX12_used) L st M) ∧
  (∀ L st M, zz_ev tX12_used 49 L st M = zo_goto 53 (zz_ev tX12_used) L st M) ∧
  (∀ L st M, zz_ev tX12_used 52 L st M = zo_pushI 0 53 (zz_ev tX12_used) L st M) ∧
  (∀ L st M, zz_ev tX12_used 53 L st M = zo_istore 5 55 (zz_ev tX12_used) L st M) ∧
  (∀ L st M, zz_ev tX12_used 55 L st M = zo_iload 5 57 (zz_ev tX12_used) L st M) ∧
  (∀ L st M, zz_ev tX12_used 57 L st M = zo_if (fun x => decide (x = 0)) 91 60 (zz_ev tX12_used) L st M) ∧
  (∀ L st M, zz_ev tX12_used 60 L st M = zo_aload 0 61 (zz_ev tX12_used) L st M) ∧
  (∀ L st M, zz_ev tX12_used 61 L st M = zo_iload 4 63 (zz_ev tX12_used) L st M) ∧
  (∀ L st M, zz_ev tX12_used 63 L st M = zo_pushI 16 65 (zz_ev tX12_used) L st M) ∧
  (∀ (L : zzLc) (a0 a1 : Int32) (r : List Value) (M : zzMd), zz_ev tX12_used 65 L (.int a1 :: .int a0 :: .ref 0 :: r) M = bif zz_cat8 r then zz_backN (zz_ev tX12_used) 68 L r (fX12_viewed [.ref 0, .int a0, .int a1] M) else none) ∧
  (∀ L st M, zz_ev tX12_used 68 L st M = zo_pushI 1 69 (zz_ev tX12_used) L st M) ∧
  (∀ L st M, zz_ev tX12_used 69 L st M = zo_icmp (fun x y => decide (x = y)) 87 72 (zz_ev tX12_used) L st M) ∧
  (∀ L st M, zz_ev tX12_used 72 L st M = zo_iload 2 73 (zz_ev tX12_used) L st M) ∧
  (∀ L st M, zz_ev tX12_used 73 L st M = zo_if (fun x => decide (¬ x = 0)) 91 76 (zz_ev tX12_used) L st M) ∧
  (∀ L st M, zz_ev tX12_used 76 L st M = zo_aload 0 77 (zz_ev tX12_used) L st M) ∧
  (∀ L st M, zz_ev tX12_used 77 L st M = zo_iload 4 79 (zz_ev tX12_used) L st M) ∧
  (∀ L st M, zz_ev tX12_used 79 L st M = zo_pushI 16 81 (zz_ev tX12_used) L st M) ∧
  (∀ (L : zzLc) (a0 a1 : Int32) (r : List Value) (M : zzMd), zz_ev tX12_used 81 L (.int a1 :: .int a0 :: .ref 0 :: r) M = bif zz_cat8 r then zz_backN (zz_ev tX12_used) 84 L r (fX12_viewed [.ref 0, .int a0, .int a1] M) else none) ∧
  (∀ L st M, zz_ev tX12_used 84 L st M = zo_if (fun x => decide (¬ x = 0)) 91 87 (zz_ev tX12_used) L st M) ∧
  (∀ L st M, zz_ev tX12_used 87 L st M = zo_pushI 1 88 (zz_ev tX12_used) L st M) ∧
  (∀ L st M, zz_ev tX12_used 88 L st M = zo_goto 92 (zz_ev tX12_used) L st M) ∧
  (∀ L st M, zz_ev tX12_used 91 L st M = zo_pushI 0 92 (zz_ev tX12_used) L st M) ∧
  (∀ L st M, zz_ev tX12_used 92 L st M = zo_istore 6 94 (zz_ev tX12_used) L st M) ∧
  (∀ L st M, zz_ev tX12_used 94 L st M = zo_iload 3 95 (zz_ev tX12_used) L st M) ∧
  (∀ L st M, zz_ev tX12_used 95 L st M = zo_iload 6 97 (zz_ev tX12_used) L st M) ∧
  (∀ L st M, zz_ev tX12_used 97 L st M = zo_if (fun x => decide (x = 0)) 113 100 (zz_ev tX12_used) L st M) ∧
  (∀ L st M, zz_ev tX12_used 100 L st M = zo_aload 0 101 (zz_ev tX12_used) L st M) ∧
  (∀ L st M, zz_ev tX12_used 101 L st M = zo_iload 4 103 (zz_ev tX12_used) L st M) ∧
  (∀ L st M, zz_ev tX12_used 103 L st M = zo_pushI 1 104 (zz_ev tX12_used) L st M) ∧
  (∀ (L : zzLc) (a0 a1 : Int32) (r : List Value) (M : zzMd), zz_ev tX12_used 104 L (.int a1 :: .int a0 :: .ref 0 :: r) M = bif zz_cat8 r then zz_backN (zz_ev tX12_used) 107 L r (fX12_viewed [.ref 0, .int a0, .int a1] M) else none) ∧
  (∀ (L : zzLc) (a0 : Int32) (r : List Value) (M : zzMd), zz_ev tX12_used 107 L (.int a0 :: r) M = bif zz_cat8 r then zz_backN (zz_ev tX12_used) 110 L r (fX12_need [.int a0] M) else none) ∧
  (∀ L st M, zz_ev tX12_used 110 L st M = zo_goto 114 (zz_ev tX12_used) L st M) ∧
  (∀ L st M, zz_ev tX12_used 113 L st M = zo_pushI 0 114 (zz_ev tX12_used) L st M) ∧
  (∀ L st M, zz_ev tX12_used 114 L st M = zo_ii (fun x y => x + y) 115 (zz_ev tX12_used) L st M) ∧
  (∀ L st M, zz_ev tX12_used 115 L st M = zo_istore 3 116 (zz_ev tX12_used) L st M) ∧
  (∀ L st M, zz_ev tX12_used 116 L st M = zo_iinc 4 1 119 (zz_ev tX12_used) L st M) ∧
  (∀ L st M, zz_ev tX12_used 119 L st M = zo_goto 5 (zz_ev tX12_used) L st M) ∧
  (∀ L st M, zz_ev tX12_used 122 L st M = zo_iload 3 123 (zz_ev tX12_used) L st M) ∧
  (∀ L st M, zz_ev tX12_used 123 L st M = zo_iret false (zz_ev tX12_used) L st M) :=
  ⟨zz_1 rfl tl_X12_used, zz_1 rfl tl_X12_used, zz_1 rfl tl_X12_used, zz_1 rfl tl_X12_used, zz_1 rfl tl_X12_used, fun L r M => (zz_1 rfl tl_X12_used _ _ _).trans rfl, zz_1 rfl tl_X12_used, zz_1 rfl tl_X12_used, zz_1 rfl tl_X12_used, fun L a0 r M => (zz_1 rfl tl_X12_used _ _ _).trans rfl, zz_1 rfl tl_X12_used, zz_1 rfl tl_X12_used, fun L r M => (zz_1 rfl tl_X12_used _ _ _).trans rfl, zz_1 rfl tl_X12_used, zz_1 rfl tl_X12_used, zz_1 rfl tl_X12_used, zz_1 rfl tl_X12_used, zz_1 rfl tl_X12_used, zz_1 rfl tl_X12_used, zz_1 rfl tl_X12_used, fun L a0 a1 r M => (zz_1 rfl tl_X12_used _ _ _).trans rfl, zz_1 rfl tl_X12_used, zz_1 rfl tl_X12_used, zz_1 rfl tl_X12_used, zz_1 rfl tl_X12_used, zz_1 rfl tl_X12_used, zz_1 rfl tl_X12_used, zz_1 rfl tl_X12_used, zz_1 rfl tl_X12_used, zz_1 rfl tl_X12_used, zz_1 rfl tl_X12_used, zz_1 rfl tl_X12_used, zz_1 rfl tl_X12_used, zz_1 rfl tl_X12_used, fun L a0 a1 r M => (zz_1 rfl tl_X12_used _ _ _).trans rfl, zz_1 rfl tl_X12_used, zz_1 rfl tl_X12_used, zz_1 rfl tl_X12_used, zz_1 rfl tl_X12_used, zz_1 rfl tl_X12_used, zz_1 rfl tl_X12_used, zz_1 rfl tl_X12_used, fun L a0 a1 r M => (zz_1 rfl tl_X12_used _ _ _).trans rfl, zz_1 rfl tl_X12_used, zz_1 rfl tl_X12_used, zz_1 rfl tl_X12_used, zz_1 rfl tl_X12_used, zz_1 rfl tl_X12_used, zz_1 rfl tl_X12_used, zz_1 rfl tl_X12_used, zz_1 rfl tl_X12_used, zz_1 rfl tl_X12_used, zz_1 rfl tl_X12_used, zz_1 rfl tl_X12_used, fun L a0 a1 r M => (zz_1 rfl tl_X12_used _ _ _).trans rfl, fun L a0 r M => (zz_1 rfl tl_X12_used _ _ _).trans rfl, zz_1 rfl tl_X12_used, zz_1 rfl tl_X12_used, zz_1 rfl tl_X12_used, zz_1 rfl tl_X12_used, zz_1 rfl tl_X12_used, zz_1 rfl tl_X12_used, zz_1 rfl tl_X12_used, zz_1 rfl tl_X12_used⟩
set_option maxRecDepth 100000 in
theorem e_X12_used_5 : (∀ L st M, zz_ev tX12_used 5 L st M = zo_iload 4 7 (zz_ev tX12_used) L st M) := zz_1 rfl tl_X12_used
set_option maxRecDepth 100000 in
theorem s_X12_used (a0 a1 : Int32) (v : Nat) (M : zzMd) : fX12_used [.ref v, .int a0, .int a1] M = zz_ev tX12_used 0 [some (.ref v), some (.int a0), some (.int a1), none, none, none, none] [] M := rfl
set_option maxRecDepth 100000 in
theorem e_X12_setOf : (∀ L st M, zz_ev tX12_setOf 0 L st M = zo_pushI (-1) 1 (zz_ev tX12_setOf) L st M) ∧
  (∀ L st M, zz_ev tX12_setOf 1 L st M = zo_istore 4 3 (zz_ev tX12_setOf) L st M) ∧
  (∀ L st M, zz_ev tX12_setOf 3 L st M = zo_aload 0 4 (zz_ev tX12_setOf) L st M) ∧
  (∀ (L : zzLc) (r : List Value) (M : zzMd), zz_ev tX12_setOf 4 L (.ref 0 :: r) M = zz_ev tX12_setOf 7 L (.int (M.1 0 5) :: r) M) ∧
  (∀ L st M, zz_ev tX12_setOf 7 L st M = zo_pushI 1 8 (zz_ev tX12_setOf) L st M) ∧
  (∀ L st M, zz_ev tX12_setOf 8 L st M = zo_ii (fun x y => x - y) 9 (zz_ev tX12_setOf) L st M) ∧
  (∀ L st M, zz_ev tX12_setOf 9 L st M = zo_istore 5 11 (zz_ev tX12_setOf) L st M) ∧
  (∀ L st M, zz_ev tX12_setOf 13 L st M = zo_if (fun x => decide (x < 0)) 101 16 (zz_ev tX12_setOf) L st M) ∧
  (∀ L st M, zz_ev tX12_setOf 16 L st M = zo_aload 0 17 (zz_ev tX12_setOf) L st M) ∧
  (∀ L st M, zz_ev tX12_setOf 17 L st M = zo_iload 5 19 (zz_ev tX12_setOf) L st M) ∧
  (∀ L st M, zz_ev tX12_setOf 19 L st M = zo_pushI 1 20 (zz_ev tX12_setOf) L st M) ∧
  (∀ L st M, zz_ev tX12_setOf 20 L st M = zo_iload 1 21 (zz_ev tX12_setOf) L st M) ∧
  (∀ (L : zzLc) (a0 a1 a2 : Int32) (r : List Value) (M : zzMd), zz_ev tX12_setOf 21 L (.int a2 :: .int a1 :: .int a0 :: .ref 0 :: r) M = bif zz_cat8 r then zz_backN (zz_ev tX12_setOf) 24 L r (fX12_isOwned [.ref 0, .int a0, .int a1, .int a2] M) else none) ∧
  (∀ L st M, zz_ev tX12_setOf 24 L st M = zo_if (fun x => decide (x = 0)) 37 27 (zz_ev tX12_setOf) L st M) ∧
  (∀ L st M, zz_ev tX12_setOf 27 L st M = zo_iload 5 29 (zz_ev tX12_setOf) L st M) ∧
  (∀ L st M, zz_ev tX12_setOf 29 L st M = zo_iload 3 30 (zz_ev tX12_setOf) L st M) ∧
  (∀ L st M, zz_ev tX12_setOf 30 L st M = zo_icmp (fun x y => decide (x = y)) 37 33 (zz_ev tX12_setOf) L st M) ∧
  (∀ L st M, zz_ev tX12_setOf 33 L st M = zo_pushI 1 34 (zz_ev tX12_setOf) L st M) ∧
  (∀ L st M, zz_ev tX12_setOf 34 L st M = zo_goto 38 (zz_ev tX12_setOf) L st M) ∧
  (∀ L st M, zz_ev tX12_setOf 37 L st M = zo_pushI 0 38 (zz_ev tX12_setOf) L st M) ∧
  (∀ L st M, zz_ev tX12_setOf 38 L st M = zo_istore 6 40 (zz_ev tX12_setOf) L st M) ∧
  (∀ L st M, zz_ev tX12_setOf 40 L st M = zo_iload 6 42 (zz_ev tX12_setOf) L st M) ∧
  (∀ L st M, zz_ev tX12_setOf 42 L st M = zo_if (fun x => decide (x = 0)) 78 45 (zz_ev tX12_setOf) L st M) ∧
  (∀ L st M, zz_ev tX12_setOf 45 L st M = zo_iload 2 46 (zz_ev tX12_setOf) L st M) ∧
  (∀ L st M, zz_ev tX12_setOf 46 L st M = zo_pushI (-1) 47 (zz_ev tX12_setOf) L st M) ∧
  (∀ L st M, zz_ev tX12_setOf 47 L st M = zo_icmp (fun x y => decide (¬ x = y)) 63 50 (zz_ev tX12_setOf) L st M) ∧
  (∀ L st M, zz_ev tX12_setOf 50 L st M = zo_aload 0 51 (zz_ev tX12_setOf) L st M) ∧
  (∀ L st M, zz_ev tX12_setOf 51 L st M = zo_iload 5 53 (zz_ev tX12_setOf) L st M) ∧
  (∀ L st M, zz_ev tX12_setOf 53 L st M = zo_pushI 0 54 (zz_ev tX12_setOf) L st M) ∧
  (∀ (L : zzLc) (a0 a1 : Int32) (r : List Value) (M : zzMd), zz_ev tX12_setOf 54 L (.int a1 :: .int a0 :: .ref 0 :: r) M = bif zz_cat8 r then zz_backN (zz_ev tX12_setOf) 57 L r (fX12_viewed [.ref 0, .int a0, .int a1] M) else none) ∧
  (∀ L st M, zz_ev tX12_setOf 57 L st M = zo_if (fun x => decide (x ≤ 0)) 78 60 (zz_ev tX12_setOf) L st M) ∧
  (∀ L st M, zz_ev tX12_setOf 60 L st M = zo_goto 74 (zz_ev tX12_setOf) L st M) ∧
  (∀ L st M, zz_ev tX12_setOf 63 L st M = zo_aload 0 64 (zz_ev tX12_setOf) L st M) ∧
  (∀ L st M, zz_ev tX12_setOf 64 L st M = zo_iload 5 66 (zz_ev tX12_setOf) L st M) ∧
  (∀ L st M, zz_ev tX12_setOf 66 L st M = zo_pushI 1 67 (zz_ev tX12_setOf) L st M) ∧
  (∀ (L : zzLc) (a0 a1 : Int32) (r : List Value) (M : zzMd), zz_ev tX12_setOf 67 L (.int a1 :: .int a0 :: .ref 0 :: r) M = bif zz_cat8 r then zz_backN (zz_ev tX12_setOf) 70 L r (fX12_viewed [.ref 0, .int a0, .int a1] M) else none) ∧
  (∀ L st M, zz_ev tX12_setOf 70 L st M = zo_iload 2 71 (zz_ev tX12_setOf) L st M) ∧
  (∀ L st M, zz_ev tX12_setOf 71 L st M = zo_icmp (fun x y => decide (¬ x = y)) 78 74 (zz_ev tX12_setOf) L st M) ∧
  (∀ L st M, zz_ev tX12_setOf 74 L st M = zo_pushI 1 75 (zz_ev tX12_setOf) L st M) ∧
  (∀ L st M, zz_ev tX12_setOf 75 L st M = zo_goto 79 (zz_ev tX12_setOf) L st M) ∧
  (∀ L st M, zz_ev tX12_setOf 78 L st M = zo_pushI 0 79 (zz_ev tX12_setOf) L st M) ∧
  (∀ L st M, zz_ev tX12_setOf 79 L st M = zo_istore 7 81 (zz_ev tX12_setOf) L st M) ∧
  (∀ L st M, zz_ev tX12_setOf 81 L st M = zo_iload 7 83 (zz_ev tX12_setOf) L st M) ∧
  (∀ L st M, zz_ev tX12_setOf 83 L st M = zo_if (fun x => decide (x = 0)) 91 86 (zz_ev tX12_setOf) L st M) ∧
  (∀ L st M, zz_ev tX12_setOf 86 L st M = zo_iload 5 88 (zz_ev tX12_setOf) L st M) ∧
  (∀ L st M, zz_ev tX12_setOf 88 L st M = zo_goto 93 (zz_ev tX12_setOf) L st M) ∧
  (∀ L st M, zz_ev tX12_setOf 91 L st M = zo_iload 4 93 (zz_ev tX12_setOf) L st M) ∧
  (∀ L st M, zz_ev tX12_setOf 93 L st M = zo_istore 4 95 (zz_ev tX12_setOf) L st M) ∧
  (∀ L st M, zz_ev tX12_setOf 95 L st M = zo_iinc 5 (-1) 98 (zz_ev tX12_setOf) L st M) ∧
  (∀ L st M, zz_ev tX12_setOf 98 L st M = zo_goto 11 (zz_ev tX12_setOf) L st M) ∧
  (∀ L st M, zz_ev tX12_setOf 101 L st M = zo_iload 4 103 (zz_ev tX12_setOf) L st M) ∧
  (∀ L st M, zz_ev tX12_setOf 103 L st M = zo_iret false (zz_ev tX12_setOf) L st M) :=
  ⟨zz_1 rfl tl_X12_setOf, zz_1 rfl tl_X12_setOf, zz_1 rfl tl_X12_setOf, fun L r M => (zz_1 rfl tl_X12_setOf _ _ _).trans rfl, zz_1 rfl tl_X12_setOf, zz_1 rfl tl_X12_setOf, zz_1 rfl tl_X12_setOf, zz_1 rfl tl_X12_setOf, zz_1 rfl tl_X12_setOf, zz_1 rfl tl_X12_setOf, zz_1 rfl tl_X12_setOf, zz_1 rfl tl_X12_setOf, fun L a0 a1 a2 r M => (zz_1 rfl tl_X12_setOf _ _ _).trans rfl, zz_1 rfl tl_X12_setOf, zz_1 rfl tl_X12_setOf, zz_1 rfl tl_X12_setOf, zz_1 rfl tl_X12_setOf, zz_1 rfl tl_X12_setOf, zz_1 rfl tl_X12_setOf, zz_1 rfl tl_X12_setOf, zz_1 rfl tl_X12_setOf, zz_1 rfl tl_X12_setOf, zz_1 rfl tl_X12_setOf, zz_1 rfl tl_X12_setOf, zz_1 rfl tl_X12_setOf, zz_1 rfl tl_X12_setOf, zz_1 rfl tl_X12_setOf, zz_1 rfl tl_X12_setOf, zz_1 rfl tl_X12_setOf, fun L a0 a1 r M => (zz_1 rfl tl_X12_setOf _ _ _).trans rfl, zz_1 rfl tl_X12_setOf, zz_1 rfl tl_X12_setOf, zz_1 rfl tl_X12_setOf, zz_1 rfl tl_X12_setOf, zz_1 rfl tl_X12_setOf, fun L a0 a1 r M => (zz_1 rfl tl_X12_setOf _ _ _).trans rfl, zz_1 rfl tl_X12_setOf, zz_1 rfl tl_X12_setOf, zz_1 rfl tl_X12_setOf, zz_1 rfl tl_X12_setOf, zz_1 rfl tl_X12_setOf, zz_1 rfl tl_X12_setOf, zz_1 rfl tl_X12_setOf, zz_1 rfl tl_X12_setOf, zz_1 rfl tl_X12_setOf, zz_1 rfl tl_X12_setOf, zz_1 rfl tl_X12_setOf, zz_1 rfl tl_X12_setOf, zz_1 rfl tl_X12_setOf, zz_1 rfl tl_X12_setOf, zz_1 rfl tl_X12_setOf, zz_1 rfl tl_X12_setOf⟩
set_option maxRecDepth 100000 in
theorem e_X12_setOf_11 : (∀ L st M, zz_ev tX12_setOf 11 L st M = zo_iload 5 13 (zz_ev tX12_setOf) L st M) := zz_1 rfl tl_X12_setOf
set_option maxRecDepth 100000 in
theorem s_X12_setOf (a0 a1 a2 : Int32) (v : Nat) (M : zzMd) : fX12_setOf [.ref v, .int a0, .int a1, .int a2] M = zz_ev tX12_setOf 0 [some (.ref v), some (.int a0), some (.int a1), some (.int a2), none, none, none, none] [] M := rfl
set_option maxRecDepth 100000 in
theorem e_X12_together : (∀ L st M, zz_ev tX12_together 0 L st M = zo_pushI 0 1 (zz_ev tX12_together) L st M) ∧
  (∀ L st M, zz_ev tX12_together 1 L st M = zo_istore 3 2 (zz_ev tX12_together) L st M) ∧
  (∀ L st M, zz_ev tX12_together 2 L st M = zo_pushI 0 3 (zz_ev tX12_together) L st M) ∧
  (∀ L st M, zz_ev tX12_together 3 L st M = zo_istore 4 5 (zz_ev tX12_together) L st M) ∧
  (∀ L st M, zz_ev tX12_together 7 L st M = zo_aload 0 8 (zz_ev tX12_together) L st M) ∧
  (∀ (L : zzLc) (r : List Value) (M : zzMd), zz_ev tX12_together 8 L (.ref 0 :: r) M = zz_ev tX12_together 11 L (.int (M.1 0 5) :: r) M) ∧
  (∀ L st M, zz_ev tX12_together 11 L st M = zo_icmp (fun x y => decide (y ≤ x)) 55 14 (zz_ev tX12_together) L st M) ∧
  (∀ L st M, zz_ev tX12_together 14 L st M = zo_aload 0 15 (zz_ev tX12_together) L st M) ∧
  (∀ L st M, zz_ev tX12_together 15 L st M = zo_iload 4 17 (zz_ev tX12_together) L st M) ∧
  (∀ L st M, zz_ev tX12_together 17 L st M = zo_pushI 1 18 (zz_ev tX12_together) L st M) ∧
  (∀ L st M, zz_ev tX12_together 18 L st M = zo_iload 1 19 (zz_ev tX12_together) L st M) ∧
  (∀ (L : zzLc) (a0 a1 a2 : Int32) (r : List Value) (M : zzMd), zz_ev tX12_together 19 L (.int a2 :: .int a1 :: .int a0 :: .ref 0 :: r) M = bif zz_cat8 r then zz_backN (zz_ev tX12_together) 22 L r (fX12_isOwned [.ref 0, .int a0, .int a1, .int a2] M) else none) ∧
  (∀ L st M, zz_ev tX12_together 22 L st M = zo_if (fun x => decide (x = 0)) 49 25 (zz_ev tX12_together) L st M) ∧
  (∀ L st M, zz_ev tX12_together 25 L st M = zo_iload 3 26 (zz_ev tX12_together) L st M) ∧
  (∀ L st M, zz_ev tX12_together 26 L st M = zo_iload 2 27 (zz_ev tX12_together) L st M) ∧
  (∀ L st M, zz_ev tX12_together 27 L st M = zo_if (fun x => decide (x = 0)) 40 30 (zz_ev tX12_together) L st M) ∧
  (∀ L st M, zz_ev tX12_together 30 L st M = zo_aload 0 31 (zz_ev tX12_together) L st M) ∧
  (∀ L st M, zz_ev tX12_together 31 L st M = zo_iload 4 33 (zz_ev tX12_together) L st M) ∧
  (∀ L st M, zz_ev tX12_together 33 L st M = zo_pushI 2 34 (zz_ev tX12_together) L st M) ∧
  (∀ (L : zzLc) (a0 a1 : Int32) (r : List Value) (M : zzMd), zz_ev tX12_together 34 L (.int a1 :: .int a0 :: .ref 0 :: r) M = bif zz_cat8 r then zz_backN (zz_ev tX12_together) 37 L r (fX12_pods [.ref 0, .int a0, .int a1] M) else none) ∧
  (∀ L st M, zz_ev tX12_together 37 L st M = zo_goto 47 (zz_ev tX12_together) L st M) ∧
  (∀ L st M, zz_ev tX12_together 40 L st M = zo_aload 0 41 (zz_ev tX12_together) L st M) ∧
  (∀ L st M, zz_ev tX12_together 41 L st M = zo_iload 4 43 (zz_ev tX12_together) L st M) ∧
  (∀ L st M, zz_ev tX12_together 43 L st M = zo_pushI 0 44 (zz_ev tX12_together) L st M) ∧
  (∀ (L : zzLc) (a0 a1 : Int32) (r : List Value) (M : zzMd), zz_ev tX12_together 44 L (.int a1 :: .int a0 :: .ref 0 :: r) M = bif zz_cat8 r then zz_backN (zz_ev tX12_together) 47 L r (fX12_viewed [.ref 0, .int a0, .int a1] M) else none) ∧
  (∀ L st M, zz_ev tX12_together 47 L st M = zo_ii (fun x y => x + y) 48 (zz_ev tX12_together) L st M) ∧
  (∀ L st M, zz_ev tX12_together 48 L st M = zo_istore 3 49 (zz_ev tX12_together) L st M) ∧
  (∀ L st M, zz_ev tX12_together 49 L st M = zo_iinc 4 1 52 (zz_ev tX12_together) L st M) ∧
  (∀ L st M, zz_ev tX12_together 52 L st M = zo_goto 5 (zz_ev tX12_together) L st M) ∧
  (∀ L st M, zz_ev tX12_together 55 L st M = zo_iload 3 56 (zz_ev tX12_together) L st M) ∧
  (∀ L st M, zz_ev tX12_together 56 L st M = zo_iret false (zz_ev tX12_together) L st M) :=
  ⟨zz_1 rfl tl_X12_together, zz_1 rfl tl_X12_together, zz_1 rfl tl_X12_together, zz_1 rfl tl_X12_together, zz_1 rfl tl_X12_together, fun L r M => (zz_1 rfl tl_X12_together _ _ _).trans rfl, zz_1 rfl tl_X12_together, zz_1 rfl tl_X12_together, zz_1 rfl tl_X12_together, zz_1 rfl tl_X12_together, zz_1 rfl tl_X12_together, fun L a0 a1 a2 r M => (zz_1 rfl tl_X12_together _ _ _).trans rfl, zz_1 rfl tl_X12_together, zz_1 rfl tl_X12_together, zz_1 rfl tl_X12_together, zz_1 rfl tl_X12_together, zz_1 rfl tl_X12_together, zz_1 rfl tl_X12_together, zz_1 rfl tl_X12_together, fun L a0 a1 r M => (zz_1 rfl tl_X12_together _ _ _).trans rfl, zz_1 rfl tl_X12_together, zz_1 rfl tl_X12_together, zz_1 rfl tl_X12_together, zz_1 rfl tl_X12_together, fun L a0 a1 r M => (zz_1 rfl tl_X12_together _ _ _).trans rfl, zz_1 rfl tl_X12_together, zz_1 rfl tl_X12_together, zz_1 rfl tl_X12_together, zz_1 rfl tl_X12_together, zz_1 rfl tl_X12_together, zz_1 rfl tl_X12_together⟩
set_option maxRecDepth 100000 in
theorem e_X12_together_5 : (∀ L st M, zz_ev tX12_together 5 L st M = zo_iload 4 7 (zz_ev tX12_together) L st M) := zz_1 rfl tl_X12_together
set_option maxRecDepth 100000 in
theorem s_X12_together (a0 a1 : Int32) (v : Nat) (M : zzMd) : fX12_together [.ref v, .int a0, .int a1] M = zz_ev tX12_together 0 [some (.ref v), some (.int a0), some (.int a1), none, none] [] M := rfl
set_option maxRecDepth 100000 in
theorem e_X12_lessens : (∀ L st M, zz_ev tX12_lessens 0 L st M = zo_aload 0 1 (zz_ev tX12_lessens) L st M) ∧
  (∀ L st M, zz_ev tX12_lessens 1 L st M = zo_iload 1 2 (zz_ev tX12_lessens) L st M) ∧
  (∀ L st M, zz_ev tX12_lessens 2 L st M = zo_pushI 0 3 (zz_ev tX12_lessens) L st M) ∧
  (∀ (L : zzLc) (a0 a1 : Int32) (r : List Value) (M : zzMd), zz_ev tX12_lessens 3 L (.int a1 :: .int a0 :: .ref 0 :: r) M = bif zz_cat8 r then zz_backN (zz_ev tX12_lessens) 6 L r (fX12_viewed [.ref 0, .int a0, .int a1] M) else none) ∧
  (∀ L st M, zz_ev tX12_lessens 6 L st M = zo_istore 3 7 (zz_ev tX12_lessens) L st M) ∧
  (∀ L st M, zz_ev tX12_lessens 7 L st M = zo_aload 0 8 (zz_ev tX12_lessens) L st M) ∧
  (∀ L st M, zz_ev tX12_lessens 8 L st M = zo_iload 1 9 (zz_ev tX12_lessens) L st M) ∧
  (∀ L st M, zz_ev tX12_lessens 9 L st M = zo_pushI 2 10 (zz_ev tX12_lessens) L st M) ∧
  (∀ (L : zzLc) (a0 a1 : Int32) (r : List Value) (M : zzMd), zz_ev tX12_lessens 10 L (.int a1 :: .int a0 :: .ref 0 :: r) M = bif zz_cat8 r then zz_backN (zz_ev tX12_lessens) 13 L r (fX12_pods [.ref 0, .int a0, .int a1] M) else none) ∧
  (∀ L st M, zz_ev tX12_lessens 13 L st M = zo_istore 4 15 (zz_ev tX12_lessens) L st M) ∧
  (∀ L st M, zz_ev tX12_lessens 15 L st M = zo_iload 3 16 (zz_ev tX12_lessens) L st M) ∧
  (∀ L st M, zz_ev tX12_lessens 16 L st M = zo_iload 4 18 (zz_ev tX12_lessens) L st M) ∧
  (∀ L st M, zz_ev tX12_lessens 18 L st M = zo_icmp (fun x y => decide (x ≤ y)) 29 21 (zz_ev tX12_lessens) L st M) ∧
  (∀ L st M, zz_ev tX12_lessens 21 L st M = zo_aload 0 22 (zz_ev tX12_lessens) L st M) ∧
  (∀ L st M, zz_ev tX12_lessens 22 L st M = zo_iload 1 23 (zz_ev tX12_lessens) L st M) ∧
  (∀ L st M, zz_ev tX12_lessens 23 L st M = zo_iload 4 25 (zz_ev tX12_lessens) L st M) ∧
  (∀ (L : zzLc) (a0 a1 : Int32) (r : List Value) (M : zzMd), zz_ev tX12_lessens 25 L (.int a1 :: .int a0 :: .ref 0 :: r) M = bif zz_cat8 r then zz_backN (zz_ev tX12_lessens) 28 L r (fX12_wants [.ref 0, .int a0, .int a1] M) else none) ∧
  (∀ L st M, zz_ev tX12_lessens 28 L st M = zo_iret true (zz_ev tX12_lessens) L st M) ∧
  (∀ L st M, zz_ev tX12_lessens 29 L st M = zo_iload 2 30 (zz_ev tX12_lessens) L st M) ∧
  (∀ L st M, zz_ev tX12_lessens 30 L st M = zo_if (fun x => decide (x ≤ 0)) 53 33 (zz_ev tX12_lessens) L st M) ∧
  (∀ L st M, zz_ev tX12_lessens 33 L st M = zo_aload 0 34 (zz_ev tX12_lessens) L st M) ∧
  (∀ L st M, zz_ev tX12_lessens 34 L st M = zo_iload 1 35 (zz_ev tX12_lessens) L st M) ∧
  (∀ L st M, zz_ev tX12_lessens 35 L st M = zo_iload 2 36 (zz_ev tX12_lessens) L st M) ∧
  (∀ L st M, zz_ev tX12_lessens 36 L st M = zo_iload 3 37 (zz_ev tX12_lessens) L st M) ∧
  (∀ L st M, zz_ev tX12_lessens 37 L st M = zo_icmp (fun x y => decide (y ≤ x)) 46 40 (zz_ev tX12_lessens) L st M) ∧
  (∀ L st M, zz_ev tX12_lessens 40 L st M = zo_iload 3 41 (zz_ev tX12_lessens) L st M) ∧
  (∀ L st M, zz_ev tX12_lessens 41 L st M = zo_iload 2 42 (zz_ev tX12_lessens) L st M) ∧
  (∀ L st M, zz_ev tX12_lessens 42 L st M = zo_ii (fun x y => x - y) 43 (zz_ev tX12_lessens) L st M) ∧
  (∀ L st M, zz_ev tX12_lessens 43 L st M = zo_goto 47 (zz_ev tX12_lessens) L st M) ∧
  (∀ L st M, zz_ev tX12_lessens 46 L st M = zo_pushI 0 47 (zz_ev tX12_lessens) L st M) ∧
  (∀ (L : zzLc) (a0 a1 : Int32) (r : List Value) (M : zzMd), zz_ev tX12_lessens 47 L (.int a1 :: .int a0 :: .ref 0 :: r) M = bif zz_cat8 r then zz_backN (zz_ev tX12_lessens) 50 L r (fX12_wants [.ref 0, .int a0, .int a1] M) else none) ∧
  (∀ L st M, zz_ev tX12_lessens 50 L st M = zo_if (fun x => decide (x = 0)) 57 53 (zz_ev tX12_lessens) L st M) ∧
  (∀ L st M, zz_ev tX12_lessens 53 L st M = zo_pushI 1 54 (zz_ev tX12_lessens) L st M) ∧
  (∀ L st M, zz_ev tX12_lessens 54 L st M = zo_goto 58 (zz_ev tX12_lessens) L st M) ∧
  (∀ L st M, zz_ev tX12_lessens 57 L st M = zo_pushI 0 58 (zz_ev tX12_lessens) L st M) ∧
  (∀ L st M, zz_ev tX12_lessens 58 L st M = zo_iret true (zz_ev tX12_lessens) L st M) :=
  ⟨zz_1 rfl tl_X12_lessens, zz_1 rfl tl_X12_lessens, zz_1 rfl tl_X12_lessens, fun L a0 a1 r M => (zz_1 rfl tl_X12_lessens _ _ _).trans rfl, zz_1 rfl tl_X12_lessens, zz_1 rfl tl_X12_lessens, zz_1 rfl tl_X12_lessens, zz_1 rfl tl_X12_lessens, fun L a0 a1 r M => (zz_1 rfl tl_X12_lessens _ _ _).trans rfl, zz_1 rfl tl_X12_lessens, zz_1 rfl tl_X12_lessens, zz_1 rfl tl_X12_lessens, zz_1 rfl tl_X12_lessens, zz_1 rfl tl_X12_lessens, zz_1 rfl tl_X12_lessens, zz_1 rfl tl_X12_lessens, fun L a0 a1 r M => (zz_1 rfl tl_X12_lessens _ _ _).trans rfl, zz_1 rfl tl_X12_lessens, zz_1 rfl tl_X12_lessens, zz_1 rfl tl_X12_lessens, zz_1 rfl tl_X12_lessens, zz_1 rfl tl_X12_lessens, zz_1 rfl tl_X12_lessens, zz_1 rfl tl_X12_lessens, zz_1 rfl tl_X12_lessens, zz_1 rfl tl_X12_lessens, zz_1 rfl tl_X12_lessens, zz_1 rfl tl_X12_lessens, zz_1 rfl tl_X12_lessens, zz_1 rfl tl_X12_lessens, fun L a0 a1 r M => (zz_1 rfl tl_X12_lessens _ _ _).trans rfl, zz_1 rfl tl_X12_lessens, zz_1 rfl tl_X12_lessens, zz_1 rfl tl_X12_lessens, zz_1 rfl tl_X12_lessens, zz_1 rfl tl_X12_lessens⟩
set_option maxRecDepth 100000 in
theorem s_X12_lessens (a0 a1 : Int32) (v : Nat) (M : zzMd) : fX12_lessens [.ref v, .int a0, .int a1] M = zz_ev tX12_lessens 0 [some (.ref v), some (.int a0), some (.int a1), none, none] [] M := rfl
set_option maxRecDepth 100000 in
theorem e_X12_deploys : (∀ L st M, zz_ev tX12_deploys 0 L st M = zo_aload 0 1 (zz_ev tX12_deploys) L st M) ∧
  (∀ L st M, zz_ev tX12_deploys 1 L st M = zo_aload 0 2 (zz_ev tX12_deploys) L st M) ∧
  (∀ (L : zzLc) (r : List Value) (M : zzMd), zz_ev tX12_deploys 2 L (.ref 0 :: r) M = zz_ev tX12_deploys 5 L (.int (M.1 0 43) :: r) M) ∧
  (∀ L st M, zz_ev tX12_deploys 5 L st M = zo_pushI 0 6 (zz_ev tX12_deploys) L st M) ∧
  (∀ (L : zzLc) (a0 a1 : Int32) (r : List Value) (M : zzMd), zz_ev tX12_deploys 6 L (.int a1 :: .int a0 :: .ref 0 :: r) M = bif zz_cat8 r then zz_backN (zz_ev tX12_deploys) 9 L r (fX12_stays [.ref 0, .int a0, .int a1] M) else none) ∧
  (∀ L st M, zz_ev tX12_deploys 9 L st M = zo_if (fun x => decide (x = 0)) 25 12 (zz_ev tX12_deploys) L st M) ∧
  (∀ L st M, zz_ev tX12_deploys 12 L st M = zo_aload 0 13 (zz_ev tX12_deploys) L st M) ∧
  (∀ L st M, zz_ev tX12_deploys 13 L st M = zo_aload 0 14 (zz_ev tX12_deploys) L st M) ∧
  (∀ (L : zzLc) (r : List Value) (M : zzMd), zz_ev tX12_deploys 14 L (.ref 0 :: r) M = zz_ev tX12_deploys 17 L (.int (M.1 0 43) :: r) M) ∧
  (∀ L st M, zz_ev tX12_deploys 17 L st M = zo_pushI 4 18 (zz_ev tX12_deploys) L st M) ∧
  (∀ (L : zzLc) (a0 a1 : Int32) (r : List Value) (M : zzMd), zz_ev tX12_deploys 18 L (.int a1 :: .int a0 :: .ref 0 :: r) M = bif zz_cat8 r then zz_backN (zz_ev tX12_deploys) 21 L r (fX12_viewed [.ref 0, .int a0, .int a1] M) else none) ∧
  (∀ L st M, zz_ev tX12_deploys 21 L st M = zo_pushI 1 22 (zz_ev tX12_deploys) L st M) ∧
  (∀ L st M, zz_ev tX12_deploys 22 L st M = zo_icmp (fun x y => decide (¬ x = y)) 27 25 (zz_ev tX12_deploys) L st M) ∧
  (∀ L st M, zz_ev tX12_deploys 25 L st M = zo_pushI 1 26 (zz_ev tX12_deploys) L st M) ∧
  (∀ L st M, zz_ev tX12_deploys 26 L st M = zo_iret true (zz_ev tX12_deploys) L st M) ∧
  (∀ L st M, zz_ev tX12_deploys 27 L st M = zo_aload 0 28 (zz_ev tX12_deploys) L st M) ∧
  (∀ L st M, zz_ev tX12_deploys 28 L st M = zo_aload 0 29 (zz_ev tX12_deploys) L st M) ∧
  (∀ (L : zzLc) (r : List Value) (M : zzMd), zz_ev tX12_deploys 29 L (.ref 0 :: r) M = zz_ev tX12_deploys 32 L (.int (M.1 0 43) :: r) M) ∧
  (∀ L st M, zz_ev tX12_deploys 32 L st M = zo_pushI 0 33 (zz_ev tX12_deploys) L st M) ∧
  (∀ (L : zzLc) (a0 a1 : Int32) (r : List Value) (M : zzMd), zz_ev tX12_deploys 33 L (.int a1 :: .int a0 :: .ref 0 :: r) M = bif zz_cat8 r then zz_backN (zz_ev tX12_deploys) 36 L r (fX12_viewed [.ref 0, .int a0, .int a1] M) else none) ∧
  (∀ L st M, zz_ev tX12_deploys 36 L st M = zo_istore 1 37 (zz_ev tX12_deploys) L st M) ∧
  (∀ L st M, zz_ev tX12_deploys 37 L st M = zo_aload 0 38 (zz_ev tX12_deploys) L st M) ∧
  (∀ L st M, zz_ev tX12_deploys 38 L st M = zo_aload 0 39 (zz_ev tX12_deploys) L st M) ∧
  (∀ (L : zzLc) (r : List Value) (M : zzMd), zz_ev tX12_deploys 39 L (.ref 0 :: r) M = zz_ev tX12_deploys 42 L (.int (M.1 0 43) :: r) M) ∧
  (∀ L st M, zz_ev tX12_deploys 42 L st M = zo_aload 0 43 (zz_ev tX12_deploys) L st M) ∧
  (∀ L st M, zz_ev tX12_deploys 43 L st M = zo_aload 0 44 (zz_ev tX12_deploys) L st M) ∧
  (∀ (L : zzLc) (r : List Value) (M : zzMd), zz_ev tX12_deploys 44 L (.ref 0 :: r) M = zz_ev tX12_deploys 47 L (.int (M.1 0 43) :: r) M) ∧
  (∀ L st M, zz_ev tX12_deploys 47 L st M = zo_pushI 1 48 (zz_ev tX12_deploys) L st M) ∧
  (∀ (L : zzLc) (a0 a1 : Int32) (r : List Value) (M : zzMd), zz_ev tX12_deploys 48 L (.int a1 :: .int a0 :: .ref 0 :: r) M = bif zz_cat8 r then zz_backN (zz_ev tX12_deploys) 51 L r (fX12_viewed [.ref 0, .int a0, .int a1] M) else none) ∧
  (∀ L st M, zz_ev tX12_deploys 51 L st M = zo_pushI (-1) 52 (zz_ev tX12_deploys) L st M) ∧
  (∀ (L : zzLc) (a0 a1 a2 : Int32) (r : List Value) (M : zzMd), zz_ev tX12_deploys 52 L (.int a2 :: .int a1 :: .int a0 :: .ref 0 :: r) M = bif zz_cat8 r then zz_backN (zz_ev tX12_deploys) 55 L r (fX12_setOf [.ref 0, .int a0, .int a1, .int a2] M) else none) ∧
  (∀ L st M, zz_ev tX12_deploys 55 L st M = zo_istore 2 56 (zz_ev tX12_deploys) L st M) ∧
  (∀ L st M, zz_ev tX12_deploys 56 L st M = zo_iload 2 57 (zz_ev tX12_deploys) L st M) ∧
  (∀ L st M, zz_ev tX12_deploys 57 L st M = zo_pushI (-1) 58 (zz_ev tX12_deploys) L st M) ∧
  (∀ L st M, zz_ev tX12_deploys 58 L st M = zo_icmp (fun x y => decide (¬ x = y)) 80 61 (zz_ev tX12_deploys) L st M) ∧
  (∀ L st M, zz_ev tX12_deploys 61 L st M = zo_aload 0 62 (zz_ev tX12_deploys) L st M) ∧
  (∀ L st M, zz_ev tX12_deploys 62 L st M = zo_pushI 1 63 (zz_ev tX12_deploys) L st M) ∧
  (∀ L st M, zz_ev tX12_deploys 63 L st M = zo_aload 0 64 (zz_ev tX12_deploys) L st M) ∧
  (∀ (L : zzLc) (r : List Value) (M : zzMd), zz_ev tX12_deploys 64 L (.ref 0 :: r) M = zz_ev tX12_deploys 67 L (.int (M.1 0 43) :: r) M) ∧
  (∀ L st M, zz_ev tX12_deploys 67 L st M = zo_aload 0 68 (zz_ev tX12_deploys) L st M) ∧
  (∀ L st M, zz_ev tX12_deploys 68 L st M = zo_aload 0 69 (zz_ev tX12_deploys) L st M) ∧
  (∀ (L : zzLc) (r : List Value) (M : zzMd), zz_ev tX12_deploys 69 L (.ref 0 :: r) M = zz_ev tX12_deploys 72 L (.int (M.1 0 43) :: r) M) ∧
  (∀ L st M, zz_ev tX12_deploys 72 L st M = zo_pushI 1 73 (zz_ev tX12_deploys) L st M) ∧
  (∀ (L : zzLc) (a0 a1 : Int32) (r : List Value) (M : zzMd), zz_ev tX12_deploys 73 L (.int a1 :: .int a0 :: .ref 0 :: r) M = bif zz_cat8 r then zz_backN (zz_ev tX12_deploys) 76 L r (fX12_viewed [.ref 0, .int a0, .int a1] M) else none) ∧
  (∀ (L : zzLc) (a0 a1 a2 : Int32) (r : List Value) (M : zzMd), zz_ev tX12_deploys 76 L (.int a2 :: .int a1 :: .int a0 :: .ref 0 :: r) M = bif zz_cat8 r then zz_backN (zz_ev tX12_deploys) 79 L r (fX12_makesOne [.ref 0, .int a0, .int a1, .int a2] M) else none) ∧
  (∀ L st M, zz_ev tX12_deploys 79 L st M = zo_iret true (zz_ev tX12_deploys) L st M) ∧
  (∀ L st M, zz_ev tX12_deploys 80 L st M = zo_aload 0 81 (zz_ev tX12_deploys) L st M) ∧
  (∀ L st M, zz_ev tX12_deploys 81 L st M = zo_iload 2 82 (zz_ev tX12_deploys) L st M) ∧
  (∀ L st M, zz_ev tX12_deploys 82 L st M = zo_pushI 0 83 (zz_ev tX12_deploys) L st M) ∧
  (∀ (L : zzLc) (a0 a1 : Int32) (r : List Value) (M : zzMd), zz_ev tX12_deploys 83 L (.int a1 :: .int a0 :: .ref 0 :: r) M = bif zz_cat8 r then zz_backN (zz_ev tX12_deploys) 86 L r (fX12_viewed [.ref 0, .int a0, .int a1] M) else none) ∧
  (∀ L st M, zz_ev tX12_deploys 86 L st M = zo_iload 1 87 (zz_ev tX12_deploys) L st M) ∧
  (∀ L st M, zz_ev tX12_deploys 87 L st M = zo_icmp (fun x y => decide (x ≤ y)) 97 90 (zz_ev tX12_deploys) L st M) ∧
  (∀ L st M, zz_ev tX12_deploys 90 L st M = zo_aload 0 91 (zz_ev tX12_deploys) L st M) ∧
  (∀ L st M, zz_ev tX12_deploys 91 L st M = zo_iload 2 92 (zz_ev tX12_deploys) L st M) ∧
  (∀ L st M, zz_ev tX12_deploys 92 L st M = zo_iload 1 93 (zz_ev tX12_deploys) L st M) ∧
  (∀ (L : zzLc) (a0 a1 : Int32) (r : List Value) (M : zzMd), zz_ev tX12_deploys 93 L (.int a1 :: .int a0 :: .ref 0 :: r) M = bif zz_cat8 r then zz_backN (zz_ev tX12_deploys) 96 L r (fX12_wants [.ref 0, .int a0, .int a1] M) else none) ∧
  (∀ L st M, zz_ev tX12_deploys 96 L st M = zo_iret true (zz_ev tX12_deploys) L st M) ∧
  (∀ L st M, zz_ev tX12_deploys 97 L st M = zo_iload 1 98 (zz_ev tX12_deploys) L st M) ∧
  (∀ L st M, zz_ev tX12_deploys 98 L st M = zo_aload 0 99 (zz_ev tX12_deploys) L st M) ∧
  (∀ L st M, zz_ev tX12_deploys 99 L st M = zo_aload 0 100 (zz_ev tX12_deploys) L st M) ∧
  (∀ (L : zzLc) (r : List Value) (M : zzMd), zz_ev tX12_deploys 100 L (.ref 0 :: r) M = zz_ev tX12_deploys 103 L (.int (M.1 0 43) :: r) M) ∧
  (∀ L st M, zz_ev tX12_deploys 103 L st M = zo_pushI 2 104 (zz_ev tX12_deploys) L st M) ∧
  (∀ (L : zzLc) (a0 a1 : Int32) (r : List Value) (M : zzMd), zz_ev tX12_deploys 104 L (.int a1 :: .int a0 :: .ref 0 :: r) M = bif zz_cat8 r then zz_backN (zz_ev tX12_deploys) 107 L r (fX12_viewed [.ref 0, .int a0, .int a1] M) else none) ∧
  (∀ L st M, zz_ev tX12_deploys 107 L st M = zo_ii (fun x y => x + y) 108 (zz_ev tX12_deploys) L st M) ∧
  (∀ L st M, zz_ev tX12_deploys 108 L st M = zo_aload 0 109 (zz_ev tX12_deploys) L st M) ∧
  (∀ L st M, zz_ev tX12_deploys 109 L st M = zo_aload 0 110 (zz_ev tX12_deploys) L st M) ∧
  (∀ (L : zzLc) (r : List Value) (M : zzMd), zz_ev tX12_deploys 110 L (.ref 0 :: r) M = zz_ev tX12_deploys 113 L (.int (M.1 0 43) :: r) M) ∧
  (∀ L st M, zz_ev tX12_deploys 113 L st M = zo_pushI 0 114 (zz_ev tX12_deploys) L st M) ∧
  (∀ (L : zzLc) (a0 a1 : Int32) (r : List Value) (M : zzMd), zz_ev tX12_deploys 114 L (.int a1 :: .int a0 :: .ref 0 :: r) M = bif zz_cat8 r then zz_backN (zz_ev tX12_deploys) 117 L r (fX12_together [.ref 0, .int a0, .int a1] M) else none) ∧
  (∀ L st M, zz_ev tX12_deploys 117 L st M = zo_ii (fun x y => x - y) 118 (zz_ev tX12_deploys) L st M) ∧
  (∀ L st M, zz_ev tX12_deploys 118 L st M = zo_istore 3 119 (zz_ev tX12_deploys) L st M) ∧
  (∀ L st M, zz_ev tX12_deploys 119 L st M = zo_aload 0 120 (zz_ev tX12_deploys) L st M) ∧
  (∀ L st M, zz_ev tX12_deploys 120 L st M = zo_iload 2 121 (zz_ev tX12_deploys) L st M) ∧
  (∀ L st M, zz_ev tX12_deploys 121 L st M = zo_pushI 0 122 (zz_ev tX12_deploys) L st M) ∧
  (∀ (L : zzLc) (a0 a1 : Int32) (r : List Value) (M : zzMd), zz_ev tX12_deploys 122 L (.int a1 :: .int a0 :: .ref 0 :: r) M = bif zz_cat8 r then zz_backN (zz_ev tX12_deploys) 125 L r (fX12_viewed [.ref 0, .int a0, .int a1] M) else none) ∧
  (∀ L st M, zz_ev tX12_deploys 125 L st M = zo_iload 1 126 (zz_ev tX12_deploys) L st M) ∧
  (∀ L st M, zz_ev tX12_deploys 126 L st M = zo_icmp (fun x y => decide (y ≤ x)) 168 129 (zz_ev tX12_deploys) L st M) ∧
  (∀ L st M, zz_ev tX12_deploys 129 L st M = zo_iload 3 130 (zz_ev tX12_deploys) L st M) ∧
  (∀ L st M, zz_ev tX12_deploys 130 L st M = zo_if (fun x => decide (x ≤ 0)) 168 133 (zz_ev tX12_deploys) L st M) ∧
  (∀ L st M, zz_ev tX12_deploys 133 L st M = zo_iload 1 134 (zz_ev tX12_deploys) L st M) ∧
  (∀ L st M, zz_ev tX12_deploys 134 L st M = zo_aload 0 135 (zz_ev tX12_deploys) L st M) ∧
  (∀ L st M, zz_ev tX12_deploys 135 L st M = zo_iload 2 136 (zz_ev tX12_deploys) L st M) ∧
  (∀ L st M, zz_ev tX12_deploys 136 L st M = zo_pushI 0 137 (zz_ev tX12_deploys) L st M) ∧
  (∀ (L : zzLc) (a0 a1 : Int32) (r : List Value) (M : zzMd), zz_ev tX12_deploys 137 L (.int a1 :: .int a0 :: .ref 0 :: r) M = bif zz_cat8 r then zz_backN (zz_ev tX12_deploys) 140 L r (fX12_viewed [.ref 0, .int a0, .int a1] M) else none) ∧
  (∀ L st M, zz_ev tX12_deploys 140 L st M = zo_ii (fun x y => x - y) 141 (zz_ev tX12_deploys) L st M) ∧
  (∀ L st M, zz_ev tX12_deploys 141 L st M = zo_istore 4 143 (zz_ev tX12_deploys) L st M) ∧
  (∀ L st M, zz_ev tX12_deploys 143 L st M = zo_aload 0 144 (zz_ev tX12_deploys) L st M) ∧
  (∀ L st M, zz_ev tX12_deploys 144 L st M = zo_iload 2 145 (zz_ev tX12_deploys) L st M) ∧
  (∀ L st M, zz_ev tX12_deploys 145 L st M = zo_aload 0 146 (zz_ev tX12_deploys) L st M) ∧
  (∀ L st M, zz_ev tX12_deploys 146 L st M = zo_iload 2 147 (zz_ev tX12_deploys) L st M) ∧
  (∀ L st M, zz_ev tX12_deploys 147 L st M = zo_pushI 0 148 (zz_ev tX12_deploys) L st M) ∧
  (∀ (L : zzLc) (a0 a1 : Int32) (r : List Value) (M : zzMd), zz_ev tX12_deploys 148 L (.int a1 :: .int a0 :: .ref 0 :: r) M = bif zz_cat8 r then zz_backN (zz_ev tX12_deploys) 151 L r (fX12_viewed [.ref 0, .int a0, .int a1] M) else none) ∧
  (∀ L st M, zz_ev tX12_deploys 151 L st M = zo_iload 4 153 (zz_ev tX12_deploys) L st M) ∧
  (∀ L st M, zz_ev tX12_deploys 153 L st M = zo_iload 3 154 (zz_ev tX12_deploys) L st M) ∧
  (∀ L st M, zz_ev tX12_deploys 154 L st M = zo_icmp (fun x y => decide (y ≤ x)) 162 157 (zz_ev tX12_deploys) L st M) ∧
  (∀ L st M, zz_ev tX12_deploys 157 L st M = zo_iload 4 159 (zz_ev tX12_deploys) L st M) ∧
  (∀ L st M, zz_ev tX12_deploys 159 L st M = zo_goto 163 (zz_ev tX12_deploys) L st M) ∧
  (∀ L st M, zz_ev tX12_deploys 162 L st M = zo_iload 3 163 (zz_ev tX12_deploys) L st M) ∧
  (∀ L st M, zz_ev tX12_deploys 163 L st M = zo_ii (fun x y => x + y) 164 (zz_ev tX12_deploys) L st M) ∧
  (∀ (L : zzLc) (a0 a1 : Int32) (r : List Value) (M : zzMd), zz_ev tX12_deploys 164 L (.int a1 :: .int a0 :: .ref 0 :: r) M = bif zz_cat8 r then zz_backN (zz_ev tX12_deploys) 167 L r (fX12_wants [.ref 0, .int a0, .int a1] M) else none) ∧
  (∀ L st M, zz_ev tX12_deploys 167 L st M = zo_iret true (zz_ev tX12_deploys) L st M) ∧
  (∀ L st M, zz_ev tX12_deploys 168 L st M = zo_aload 0 169 (zz_ev tX12_deploys) L st M) ∧
  (∀ L st M, zz_ev tX12_deploys 169 L st M = zo_aload 0 170 (zz_ev tX12_deploys) L st M) ∧
  (∀ (L : zzLc) (r : List Value) (M : zzMd), zz_ev tX12_deploys 170 L (.ref 0 :: r) M = zz_ev tX12_deploys 173 L (.int (M.1 0 43) :: r) M) ∧
  (∀ L st M, zz_ev tX12_deploys 173 L st M = zo_pushI (-1) 174 (zz_ev tX12_deploys) L st M) ∧
  (∀ L st M, zz_ev tX12_deploys 174 L st M = zo_iload 2 175 (zz_ev tX12_deploys) L st M) ∧
  (∀ (L : zzLc) (a0 a1 a2 : Int32) (r : List Value) (M : zzMd), zz_ev tX12_deploys 175 L (.int a2 :: .int a1 :: .int a0 :: .ref 0 :: r) M = bif zz_cat8 r then zz_backN (zz_ev tX12_deploys) 178 L r (fX12_setOf [.ref 0, .int a0, .int a1, .int a2] M) else none) ∧
  (∀ L st M, zz_ev tX12_deploys 178 L st M = zo_istore 4 180 (zz_ev tX12_deploys) L st M) ∧
  (∀ L st M, zz_ev tX12_deploys 180 L st M = zo_iload 4 182 (zz_ev tX12_deploys) L st M) ∧
  (∀ L st M, zz_ev tX12_deploys 182 L st M = zo_pushI (-1) 183 (zz_ev tX12_deploys) L st M) ∧
  (∀ L st M, zz_ev tX12_deploys 183 L st M = zo_icmp (fun x y => decide (x = y)) 216 186 (zz_ev tX12_deploys) L st M) ∧
  (∀ L st M, zz_ev tX12_deploys 186 L st M = zo_aload 0 187 (zz_ev tX12_deploys) L st M) ∧
  (∀ L st M, zz_ev tX12_deploys 187 L st M = zo_iload 4 189 (zz_ev tX12_deploys) L st M) ∧
  (∀ L st M, zz_ev tX12_deploys 189 L st M = zo_aload 0 190 (zz_ev tX12_deploys) L st M) ∧
  (∀ L st M, zz_ev tX12_deploys 190 L st M = zo_aload 0 191 (zz_ev tX12_deploys) L st M) ∧
  (∀ (L : zzLc) (r : List Value) (M : zzMd), zz_ev tX12_deploys 191 L (.ref 0 :: r) M = zz_ev tX12_deploys 194 L (.int (M.1 0 43) :: r) M) ∧
  (∀ L st M, zz_ev tX12_deploys 194 L st M = zo_pushI 1 195 (zz_ev tX12_deploys) L st M) ∧
  (∀ (L : zzLc) (a0 a1 : Int32) (r : List Value) (M : zzMd), zz_ev tX12_deploys 195 L (.int a1 :: .int a0 :: .ref 0 :: r) M = bif zz_cat8 r then zz_backN (zz_ev tX12_deploys) 198 L r (fX12_together [.ref 0, .int a0, .int a1] M) else none) ∧
  (∀ L st M, zz_ev tX12_deploys 198 L st M = zo_iload 1 199 (zz_ev tX12_deploys) L st M) ∧
  (∀ L st M, zz_ev tX12_deploys 199 L st M = zo_ii (fun x y => x - y) 200 (zz_ev tX12_deploys) L st M) ∧
  (∀ L st M, zz_ev tX12_deploys 200 L st M = zo_aload 0 201 (zz_ev tX12_deploys) L st M) ∧
  (∀ L st M, zz_ev tX12_deploys 201 L st M = zo_aload 0 202 (zz_ev tX12_deploys) L st M) ∧
  (∀ (L : zzLc) (r : List Value) (M : zzMd), zz_ev tX12_deploys 202 L (.ref 0 :: r) M = zz_ev tX12_deploys 205 L (.int (M.1 0 43) :: r) M) ∧
  (∀ L st M, zz_ev tX12_deploys 205 L st M = zo_pushI 3 206 (zz_ev tX12_deploys) L st M) ∧
  (∀ (L : zzLc) (a0 a1 : Int32) (r : List Value) (M : zzMd), zz_ev tX12_deploys 206 L (.int a1 :: .int a0 :: .ref 0 :: r) M = bif zz_cat8 r then zz_backN (zz_ev tX12_deploys) 209 L r (fX12_viewed [.ref 0, .int a0, .int a1] M) else none) ∧
  (∀ L st M, zz_ev tX12_deploys 209 L st M = zo_ii (fun x y => x + y) 210 (zz_ev tX12_deploys) L st M) ∧
  (∀ (L : zzLc) (a0 a1 : Int32) (r : List Value) (M : zzMd), zz_ev tX12_deploys 210 L (.int a1 :: .int a0 :: .ref 0 :: r) M = bif zz_cat8 r then zz_backN (zz_ev tX12_deploys) 213 L r (fX12_lessens [.ref 0, .int a0, .int a1] M) else none) ∧
  (∀ L st M, zz_ev tX12_deploys 213 L st M = zo_if (fun x => decide (x = 0)) 220 216 (zz_ev tX12_deploys) L st M) ∧
  (∀ L st M, zz_ev tX12_deploys 216 L st M = zo_pushI 1 217 (zz_ev tX12_deploys) L st M) ∧
  (∀ L st M, zz_ev tX12_deploys 217 L st M = zo_goto 221 (zz_ev tX12_deploys) L st M) ∧
  (∀ L st M, zz_ev tX12_deploys 220 L st M = zo_pushI 0 221 (zz_ev tX12_deploys) L st M) ∧
  (∀ L st M, zz_ev tX12_deploys 221 L st M = zo_iret true (zz_ev tX12_deploys) L st M) :=
  ⟨zz_1 rfl tl_X12_deploys, zz_1 rfl tl_X12_deploys, fun L r M => (zz_1 rfl tl_X12_deploys _ _ _).trans rfl, zz_1 rfl tl_X12_deploys, fun L a0 a1 r M => (zz_1 rfl tl_X12_deploys _ _ _).trans rfl, zz_1 rfl tl_X12_deploys, zz_1 rfl tl_X12_deploys, zz_1 rfl tl_X12_deploys, fun L r M => (zz_1 rfl tl_X12_deploys _ _ _).trans rfl, zz_1 rfl tl_X12_deploys, fun L a0 a1 r M => (zz_1 rfl tl_X12_deploys _ _ _).trans rfl, zz_1 rfl tl_X12_deploys, zz_1 rfl tl_X12_deploys, zz_1 rfl tl_X12_deploys, zz_1 rfl tl_X12_deploys, zz_1 rfl tl_X12_deploys, zz_1 rfl tl_X12_deploys, fun L r M => (zz_1 rfl tl_X12_deploys _ _ _).trans rfl, zz_1 rfl tl_X12_deploys, fun L a0 a1 r M => (zz_1 rfl tl_X12_deploys _ _ _).trans rfl, zz_1 rfl tl_X12_deploys, zz_1 rfl tl_X12_deploys, zz_1 rfl tl_X12_deploys, fun L r M => (zz_1 rfl tl_X12_deploys _ _ _).trans rfl, zz_1 rfl tl_X12_deploys, zz_1 rfl tl_X12_deploys, fun L r M => (zz_1 rfl tl_X12_deploys _ _ _).trans rfl, zz_1 rfl tl_X12_deploys, fun L a0 a1 r M => (zz_1 rfl tl_X12_deploys _ _ _).trans rfl, zz_1 rfl tl_X12_deploys, fun L a0 a1 a2 r M => (zz_1 rfl tl_X12_deploys _ _ _).trans rfl, zz_1 rfl tl_X12_deploys, zz_1 rfl tl_X12_deploys, zz_1 rfl tl_X12_deploys, zz_1 rfl tl_X12_deploys, zz_1 rfl tl_X12_deploys, zz_1 rfl tl_X12_deploys, zz_1 rfl tl_X12_deploys, fun L r M => (zz_1 rfl tl_X12_deploys _ _ _).trans rfl, zz_1 rfl tl_X12_deploys, zz_1 rfl tl_X12_deploys, fun L r M => (zz_1 rfl tl_X12_deploys _ _ _).trans rfl, zz_1 rfl tl_X12_deploys, fun L a0 a1 r M => (zz_1 rfl tl_X12_deploys _ _ _).trans rfl, fun L a0 a1 a2 r M => (zz_1 rfl tl_X12_deploys _ _ _).trans rfl, zz_1 rfl tl_X12_deploys, zz_1 rfl tl_X12_deploys, zz_1 rfl tl_X12_deploys, zz_1 rfl tl_X12_deploys, fun L a0 a1 r M => (zz_1 rfl tl_X12_deploys _ _ _).trans rfl, zz_1 rfl tl_X12_deploys, zz_1 rfl tl_X12_deploys, zz_1 rfl tl_X12_deploys, zz_1 rfl tl_X12_deploys, zz_1 rfl tl_X12_deploys, fun L a0 a1 r M => (zz_1 rfl tl_X12_deploys _ _ _).trans rfl, zz_1 rfl tl_X12_deploys, zz_1 rfl tl_X12_deploys, zz_1 rfl tl_X12_deploys, zz_1 rfl tl_X12_deploys, fun L r M => (zz_1 rfl tl_X12_deploys _ _ _).trans rfl, zz_1 rfl tl_X12_deploys, fun L a0 a1 r M => (zz_1 rfl tl_X12_deploys _ _ _).trans rfl, zz_1 rfl tl_X12_deploys, zz_1 rfl tl_X12_deploys, zz_1 rfl tl_X12_deploys, fun L r M => (zz_1 rfl tl_X12_deploys _ _ _).trans rfl, zz_1 rfl tl_X12_deploys, fun L a0 a1 r M => (zz_1 rfl tl_X12_deploys _ _ _).trans rfl, zz_1 rfl tl_X12_deploys, zz_1 rfl tl_X12_deploys, zz_1 rfl tl_X12_deploys, zz_1 rfl tl_X12_deploys, zz_1 rfl tl_X12_deploys, fun L a0 a1 r M => (zz_1 rfl tl_X12_deploys _ _ _).trans rfl, zz_1 rfl tl_X12_deploys, zz_1 rfl tl_X12_deploys, zz_1 rfl tl_X12_deploys, zz_1 rfl tl_X12_deploys, zz_1 rfl tl_X12_deploys, zz_1 rfl tl_X12_deploys, zz_1 rfl tl_X12_deploys, zz_1 rfl tl_X12_deploys, fun L a0 a1 r M => (zz_1 rfl tl_X12_deploys _ _ _).trans rfl, zz_1 rfl tl_X12_deploys, zz_1 rfl tl_X12_deploys, zz_1 rfl tl_X12_deploys, zz_1 rfl tl_X12_deploys, zz_1 rfl tl_X12_deploys, zz_1 rfl tl_X12_deploys, zz_1 rfl tl_X12_deploys, fun L a0 a1 r M => (zz_1 rfl tl_X12_deploys _ _ _).trans rfl, zz_1 rfl tl_X12_deploys, zz_1 rfl tl_X12_deploys, zz_1 rfl tl_X12_deploys, zz_1 rfl tl_X12_deploys, zz_1 rfl tl_X12_deploys, zz_1 rfl tl_X12_deploys, zz_1 rfl tl_X12_deploys, fun L a0 a1 r M => (zz_1 rfl tl_X12_deploys _ _ _).trans rfl, zz_1 rfl tl_X12_deploys, zz_1 rfl tl_X12_deploys, zz_1 rfl tl_X12_deploys, fun L r M => (zz_1 rfl tl_X12_deploys _ _ _).trans rfl, zz_1 rfl tl_X12_deploys, zz_1 rfl tl_X12_deploys, fun L a0 a1 a2 r M => (zz_1 rfl tl_X12_deploys _ _ _).trans rfl, zz_1 rfl tl_X12_deploys, zz_1 rfl tl_X12_deploys, zz_1 rfl tl_X12_deploys, zz_1 rfl tl_X12_deploys, zz_1 rfl tl_X12_deploys, zz_1 rfl tl_X12_deploys, zz_1 rfl tl_X12_deploys, zz_1 rfl tl_X12_deploys, fun L r M => (zz_1 rfl tl_X12_deploys _ _ _).trans rfl, zz_1 rfl tl_X12_deploys, fun L a0 a1 r M => (zz_1 rfl tl_X12_deploys _ _ _).trans rfl, zz_1 rfl tl_X12_deploys, zz_1 rfl tl_X12_deploys, zz_1 rfl tl_X12_deploys, zz_1 rfl tl_X12_deploys, fun L r M => (zz_1 rfl tl_X12_deploys _ _ _).trans rfl, zz_1 rfl tl_X12_deploys, fun L a0 a1 r M => (zz_1 rfl tl_X12_deploys _ _ _).trans rfl, zz_1 rfl tl_X12_deploys, fun L a0 a1 r M => (zz_1 rfl tl_X12_deploys _ _ _).trans rfl, zz_1 rfl tl_X12_deploys, zz_1 rfl tl_X12_deploys, zz_1 rfl tl_X12_deploys, zz_1 rfl tl_X12_deploys, zz_1 rfl tl_X12_deploys⟩
set_option maxRecDepth 100000 in
theorem s_X12_deploys (v : Nat) (M : zzMd) : fX12_deploys [.ref v] M = zz_ev tX12_deploys 0 [some (.ref v), none, none, none, none] [] M := rfl
set_option maxRecDepth 100000 in
theorem e_X12_podOf : (∀ L st M, zz_ev tX12_podOf 0 L st M = zo_pushI (-1) 1 (zz_ev tX12_podOf) L st M) ∧
  (∀ L st M, zz_ev tX12_podOf 1 L st M = zo_istore 3 2 (zz_ev tX12_podOf) L st M) ∧
  (∀ L st M, zz_ev tX12_podOf 2 L st M = zo_pushI 0 3 (zz_ev tX12_podOf) L st M) ∧
  (∀ L st M, zz_ev tX12_podOf 3 L st M = zo_istore 4 5 (zz_ev tX12_podOf) L st M) ∧
  (∀ L st M, zz_ev tX12_podOf 5 L st M = zo_pushI 0 6 (zz_ev tX12_podOf) L st M) ∧
  (∀ L st M, zz_ev tX12_podOf 6 L st M = zo_istore 5 8 (zz_ev tX12_podOf) L st M) ∧
  (∀ L st M, zz_ev tX12_podOf 10 L st M = zo_aload 0 11 (zz_ev tX12_podOf) L st M) ∧
  (∀ (L : zzLc) (r : List Value) (M : zzMd), zz_ev tX12_podOf 11 L (.ref 0 :: r) M = zz_ev tX12_podOf 14 L (.int (M.1 0 5) :: r) M) ∧
  (∀ L st M, zz_ev tX12_podOf 14 L st M = zo_icmp (fun x y => decide (y ≤ x)) 160 17 (zz_ev tX12_podOf) L st M) ∧
  (∀ L st M, zz_ev tX12_podOf 17 L st M = zo_aload 0 18 (zz_ev tX12_podOf) L st M) ∧
  (∀ L st M, zz_ev tX12_podOf 18 L st M = zo_iload 5 20 (zz_ev tX12_podOf) L st M) ∧
  (∀ L st M, zz_ev tX12_podOf 20 L st M = zo_pushI 2 21 (zz_ev tX12_podOf) L st M) ∧
  (∀ L st M, zz_ev tX12_podOf 21 L st M = zo_iload 1 22 (zz_ev tX12_podOf) L st M) ∧
  (∀ (L : zzLc) (a0 a1 a2 : Int32) (r : List Value) (M : zzMd), zz_ev tX12_podOf 22 L (.int a2 :: .int a1 :: .int a0 :: .ref 0 :: r) M = bif zz_cat8 r then zz_backN (zz_ev tX12_podOf) 25 L r (fX12_isOwned [.ref 0, .int a0, .int a1, .int a2] M) else none) ∧
  (∀ L st M, zz_ev tX12_podOf 25 L st M = zo_if (fun x => decide (x = 0)) 154 28 (zz_ev tX12_podOf) L st M) ∧
  (∀ L st M, zz_ev tX12_podOf 28 L st M = zo_aload 0 29 (zz_ev tX12_podOf) L st M) ∧
  (∀ L st M, zz_ev tX12_podOf 29 L st M = zo_iload 5 31 (zz_ev tX12_podOf) L st M) ∧
  (∀ L st M, zz_ev tX12_podOf 31 L st M = zo_pushI 15 33 (zz_ev tX12_podOf) L st M) ∧
  (∀ (L : zzLc) (a0 a1 : Int32) (r : List Value) (M : zzMd), zz_ev tX12_podOf 33 L (.int a1 :: .int a0 :: .ref 0 :: r) M = bif zz_cat8 r then zz_backN (zz_ev tX12_podOf) 36 L r (fX12_viewed [.ref 0, .int a0, .int a1] M) else none) ∧
  (∀ L st M, zz_ev tX12_podOf 36 L st M = zo_if (fun x => decide (¬ x = 0)) 43 39 (zz_ev tX12_podOf) L st M) ∧
  (∀ L st M, zz_ev tX12_podOf 39 L st M = zo_pushI 3 40 (zz_ev tX12_podOf) L st M) ∧
  (∀ L st M, zz_ev tX12_podOf 40 L st M = zo_goto 59 (zz_ev tX12_podOf) L st M) ∧
  (∀ L st M, zz_ev tX12_podOf 43 L st M = zo_aload 0 44 (zz_ev tX12_podOf) L st M) ∧
  (∀ L st M, zz_ev tX12_podOf 44 L st M = zo_iload 5 46 (zz_ev tX12_podOf) L st M) ∧
  (∀ L st M, zz_ev tX12_podOf 46 L st M = zo_pushI 16 48 (zz_ev tX12_podOf) L st M) ∧
  (∀ (L : zzLc) (a0 a1 : Int32) (r : List Value) (M : zzMd), zz_ev tX12_podOf 48 L (.int a1 :: .int a0 :: .ref 0 :: r) M = bif zz_cat8 r then zz_backN (zz_ev tX12_podOf) 51 L r (fX12_viewed [.ref 0, .int a0, .int a1] M) else none) ∧
  (∀ L st M, zz_ev tX12_podOf 51 L st M = zo_if (fun x => decide (¬ x = 0)) 58 54 (zz_ev tX12_podOf) L st M) ∧
  (∀ L st M, zz_ev tX12_podOf 54 L st M = zo_pushI 2 55 (zz_ev tX12_podOf) L st M) ∧
  (∀ L st M, zz_ev tX12_podOf 55 L st M = zo_goto 59 (zz_ev tX12_podOf) L st M) ∧
  (∀ L st M, zz_ev tX12_podOf 58 L st M = zo_pushI 1 59 (zz_ev tX12_podOf) L st M) ∧
  (∀ L st M, zz_ev tX12_podOf 59 L st M = zo_istore 6 61 (zz_ev tX12_podOf) L st M) ∧
  (∀ L st M, zz_ev tX12_podOf 61 L st M = zo_aload 0 62 (zz_ev tX12_podOf) L st M) ∧
  (∀ L st M, zz_ev tX12_podOf 62 L st M = zo_iload 5 64 (zz_ev tX12_podOf) L st M) ∧
  (∀ L st M, zz_ev tX12_podOf 64 L st M = zo_pushI 16 66 (zz_ev tX12_podOf) L st M) ∧
  (∀ (L : zzLc) (a0 a1 : Int32) (r : List Value) (M : zzMd), zz_ev tX12_podOf 66 L (.int a1 :: .int a0 :: .ref 0 :: r) M = bif zz_cat8 r then zz_backN (zz_ev tX12_podOf) 69 L r (fX12_viewed [.ref 0, .int a0, .int a1] M) else none) ∧
  (∀ L st M, zz_ev tX12_podOf 69 L st M = zo_pushI 2 70 (zz_ev tX12_podOf) L st M) ∧
  (∀ L st M, zz_ev tX12_podOf 70 L st M = zo_icmp (fun x y => decide (x = y)) 85 73 (zz_ev tX12_podOf) L st M) ∧
  (∀ L st M, zz_ev tX12_podOf 73 L st M = zo_aload 0 74 (zz_ev tX12_podOf) L st M) ∧
  (∀ L st M, zz_ev tX12_podOf 74 L st M = zo_iload 5 76 (zz_ev tX12_podOf) L st M) ∧
  (∀ L st M, zz_ev tX12_podOf 76 L st M = zo_pushI 16 78 (zz_ev tX12_podOf) L st M) ∧
  (∀ (L : zzLc) (a0 a1 : Int32) (r : List Value) (M : zzMd), zz_ev tX12_podOf 78 L (.int a1 :: .int a0 :: .ref 0 :: r) M = bif zz_cat8 r then zz_backN (zz_ev tX12_podOf) 81 L r (fX12_viewed [.ref 0, .int a0, .int a1] M) else none) ∧
  (∀ L st M, zz_ev tX12_podOf 81 L st M = zo_pushI 3 82 (zz_ev tX12_podOf) L st M) ∧
  (∀ L st M, zz_ev tX12_podOf 82 L st M = zo_icmp (fun x y => decide (¬ x = y)) 89 85 (zz_ev tX12_podOf) L st M) ∧
  (∀ L st M, zz_ev tX12_podOf 85 L st M = zo_pushI 1 86 (zz_ev tX12_podOf) L st M) ∧
  (∀ L st M, zz_ev tX12_podOf 86 L st M = zo_goto 90 (zz_ev tX12_podOf) L st M) ∧
  (∀ L st M, zz_ev tX12_podOf 89 L st M = zo_pushI 0 90 (zz_ev tX12_podOf) L st M) ∧
  (∀ L st M, zz_ev tX12_podOf 90 L st M = zo_istore 7 92 (zz_ev tX12_podOf) L st M) ∧
  (∀ L st M, zz_ev tX12_podOf 92 L st M = zo_iload 2 93 (zz_ev tX12_podOf) L st M) ∧
  (∀ L st M, zz_ev tX12_podOf 93 L st M = zo_if (fun x => decide (¬ x = 0)) 114 96 (zz_ev tX12_podOf) L st M) ∧
  (∀ L st M, zz_ev tX12_podOf 96 L st M = zo_iload 7 98 (zz_ev tX12_podOf) L st M) ∧
  (∀ L st M, zz_ev tX12_podOf 98 L st M = zo_if (fun x => decide (x = 0)) 110 101 (zz_ev tX12_podOf) L st M) ∧
  (∀ L st M, zz_ev tX12_podOf 101 L st M = zo_iload 3 102 (zz_ev tX12_podOf) L st M) ∧
  (∀ L st M, zz_ev tX12_podOf 102 L st M = zo_pushI (-1) 103 (zz_ev tX12_podOf) L st M) ∧
  (∀ L st M, zz_ev tX12_podOf 103 L st M = zo_icmp (fun x y => decide (¬ x = y)) 110 106 (zz_ev tX12_podOf) L st M) ∧
  (∀ L st M, zz_ev tX12_podOf 106 L st M = zo_pushI 1 107 (zz_ev tX12_podOf) L st M) ∧
  (∀ L st M, zz_ev tX12_podOf 107 L st M = zo_goto 126 (zz_ev tX12_podOf) L st M) ∧
  (∀ L st M, zz_ev tX12_podOf 110 L st M = zo_pushI 0 111 (zz_ev tX12_podOf) L st M) ∧
  (∀ L st M, zz_ev tX12_podOf 111 L st M = zo_goto 126 (zz_ev tX12_podOf) L st M) ∧
  (∀ L st M, zz_ev tX12_podOf 114 L st M = zo_iload 6 116 (zz_ev tX12_podOf) L st M) ∧
  (∀ L st M, zz_ev tX12_podOf 116 L st M = zo_iload 4 118 (zz_ev tX12_podOf) L st M) ∧
  (∀ L st M, zz_ev tX12_podOf 118 L st M = zo_icmp (fun x y => decide (x < y)) 125 121 (zz_ev tX12_podOf) L st M) ∧
  (∀ L st M, zz_ev tX12_podOf 121 L st M = zo_pushI 1 122 (zz_ev tX12_podOf) L st M) ∧
  (∀ L st M, zz_ev tX12_podOf 122 L st M = zo_goto 126 (zz_ev tX12_podOf) L st M) ∧
  (∀ L st M, zz_ev tX12_podOf 125 L st M = zo_pushI 0 126 (zz_ev tX12_podOf) L st M) ∧
  (∀ L st M, zz_ev tX12_podOf 126 L st M = zo_istore 8 128 (zz_ev tX12_podOf) L st M) ∧
  (∀ L st M, zz_ev tX12_podOf 128 L st M = zo_iload 8 130 (zz_ev tX12_podOf) L st M) ∧
  (∀ L st M, zz_ev tX12_podOf 130 L st M = zo_if (fun x => decide (x = 0)) 138 133 (zz_ev tX12_podOf) L st M) ∧
  (∀ L st M, zz_ev tX12_podOf 133 L st M = zo_iload 5 135 (zz_ev tX12_podOf) L st M) ∧
  (∀ L st M, zz_ev tX12_podOf 135 L st M = zo_goto 139 (zz_ev tX12_podOf) L st M) ∧
  (∀ L st M, zz_ev tX12_podOf 138 L st M = zo_iload 3 139 (zz_ev tX12_podOf) L st M) ∧
  (∀ L st M, zz_ev tX12_podOf 139 L st M = zo_istore 3 140 (zz_ev tX12_podOf) L st M) ∧
  (∀ L st M, zz_ev tX12_podOf 140 L st M = zo_iload 8 142 (zz_ev tX12_podOf) L st M) ∧
  (∀ L st M, zz_ev tX12_podOf 142 L st M = zo_if (fun x => decide (x = 0)) 150 145 (zz_ev tX12_podOf) L st M) ∧
  (∀ L st M, zz_ev tX12_podOf 145 L st M = zo_iload 6 147 (zz_ev tX12_podOf) L st M) ∧
  (∀ L st M, zz_ev tX12_podOf 147 L st M = zo_goto 152 (zz_ev tX12_podOf) L st M) ∧
  (∀ L st M, zz_ev tX12_podOf 150 L st M = zo_iload 4 152 (zz_ev tX12_podOf) L st M) ∧
  (∀ L st M, zz_ev tX12_podOf 152 L st M = zo_istore 4 154 (zz_ev tX12_podOf) L st M) ∧
  (∀ L st M, zz_ev tX12_podOf 154 L st M = zo_iinc 5 1 157 (zz_ev tX12_podOf) L st M) ∧
  (∀ L st M, zz_ev tX12_podOf 157 L st M = zo_goto 8 (zz_ev tX12_podOf) L st M) ∧
  (∀ L st M, zz_ev tX12_podOf 160 L st M = zo_iload 3 161 (zz_ev tX12_podOf) L st M) ∧
  (∀ L st M, zz_ev tX12_podOf 161 L st M = zo_iret false (zz_ev tX12_podOf) L st M) :=
  ⟨zz_1 rfl tl_X12_podOf, zz_1 rfl tl_X12_podOf, zz_1 rfl tl_X12_podOf, zz_1 rfl tl_X12_podOf, zz_1 rfl tl_X12_podOf, zz_1 rfl tl_X12_podOf, zz_1 rfl tl_X12_podOf, fun L r M => (zz_1 rfl tl_X12_podOf _ _ _).trans rfl, zz_1 rfl tl_X12_podOf, zz_1 rfl tl_X12_podOf, zz_1 rfl tl_X12_podOf, zz_1 rfl tl_X12_podOf, zz_1 rfl tl_X12_podOf, fun L a0 a1 a2 r M => (zz_1 rfl tl_X12_podOf _ _ _).trans rfl, zz_1 rfl tl_X12_podOf, zz_1 rfl tl_X12_podOf, zz_1 rfl tl_X12_podOf, zz_1 rfl tl_X12_podOf, fun L a0 a1 r M => (zz_1 rfl tl_X12_podOf _ _ _).trans rfl, zz_1 rfl tl_X12_podOf, zz_1 rfl tl_X12_podOf, zz_1 rfl tl_X12_podOf, zz_1 rfl tl_X12_podOf, zz_1 rfl tl_X12_podOf, zz_1 rfl tl_X12_podOf, fun L a0 a1 r M => (zz_1 rfl tl_X12_podOf _ _ _).trans rfl, zz_1 rfl tl_X12_podOf, zz_1 rfl tl_X12_podOf, zz_1 rfl tl_X12_podOf, zz_1 rfl tl_X12_podOf, zz_1 rfl tl_X12_podOf, zz_1 rfl tl_X12_podOf, zz_1 rfl tl_X12_podOf, zz_1 rfl tl_X12_podOf, fun L a0 a1 r M => (zz_1 rfl tl_X12_podOf _ _ _).trans rfl, zz_1 rfl tl_X12_podOf, zz_1 rfl tl_X12_podOf, zz_1 rfl tl_X12_podOf, zz_1 rfl tl_X12_podOf, zz_1 rfl tl_X12_podOf, fun L a0 a1 r M => (zz_1 rfl tl_X12_podOf _ _ _).trans rfl, zz_1 rfl tl_X12_podOf, zz_1 rfl tl_X12_podOf, zz_1 rfl tl_X12_podOf, zz_1 rfl tl_X12_podOf, zz_1 rfl tl_X12_podOf, zz_1 rfl tl_X12_podOf, zz_1 rfl tl_X12_podOf, zz_1 rfl tl_X12_podOf, zz_1 rfl tl_X12_podOf, zz_1 rfl tl_X12_podOf, zz_1 rfl tl_X12_podOf, zz_1 rfl tl_X12_podOf, zz_1 rfl tl_X12_podOf, zz_1 rfl tl_X12_podOf, zz_1 rfl tl_X12_podOf, zz_1 rfl tl_X12_podOf, zz_1 rfl tl_X12_podOf, zz_1 rfl tl_X12_podOf, zz_1 rfl tl_X12_podOf, zz_1 rfl tl_X12_podOf, zz_1 rfl tl_X12_podOf, zz_1 rfl tl_X12_podOf, zz_1 rfl tl_X12_podOf, zz_1 rfl tl_X12_podOf, zz_1 rfl tl_X12_podOf, zz_1 rfl tl_X12_podOf, zz_1 rfl tl_X12_podOf, zz_1 rfl tl_X12_podOf, zz_1 rfl tl_X12_podOf, zz_1 rfl tl_X12_podOf, zz_1 rfl tl_X12_podOf, zz_1 rfl tl_X12_podOf, zz_1 rfl tl_X12_podOf, zz_1 rfl tl_X12_podOf, zz_1 rfl tl_X12_podOf, zz_1 rfl tl_X12_podOf, zz_1 rfl tl_X12_podOf, zz_1 rfl tl_X12_podOf, zz_1 rfl tl_X12_podOf, zz_1 rfl tl_X12_podOf⟩
set_option maxRecDepth 100000 in
theorem e_X12_podOf_8 : (∀ L st M, zz_ev tX12_podOf 8 L st M = zo_iload 5 10 (zz_ev tX12_podOf) L st M) := zz_1 rfl tl_X12_podOf
set_option maxRecDepth 100000 in
theorem s_X12_podOf (a0 a1 : Int32) (v : Nat) (M : zzMd) : fX12_podOf [.ref v, .int a0, .int a1] M = zz_ev tX12_podOf 0 [some (.ref v), some (.int a0), some (.int a1), none, none, none, none, none, none] [] M := rfl
set_option maxRecDepth 100000 in
theorem e_X12_replicates : (∀ L st M, zz_ev tX12_replicates 0 L st M = zo_aload 0 1 (zz_ev tX12_replicates) L st M) ∧
  (∀ L st M, zz_ev tX12_replicates 1 L st M = zo_aload 0 2 (zz_ev tX12_replicates) L st M) ∧
  (∀ (L : zzLc) (r : List Value) (M : zzMd), zz_ev tX12_replicates 2 L (.ref 0 :: r) M = zz_ev tX12_replicates 5 L (.int (M.1 0 43) :: r) M) ∧
  (∀ L st M, zz_ev tX12_replicates 5 L st M = zo_pushI 1 6 (zz_ev tX12_replicates) L st M) ∧
  (∀ (L : zzLc) (a0 a1 : Int32) (r : List Value) (M : zzMd), zz_ev tX12_replicates 6 L (.int a1 :: .int a0 :: .ref 0 :: r) M = bif zz_cat8 r then zz_backN (zz_ev tX12_replicates) 9 L r (fX12_stays [.ref 0, .int a0, .int a1] M) else none) ∧
  (∀ L st M, zz_ev tX12_replicates 9 L st M = zo_if (fun x => decide (¬ x = 0)) 14 12 (zz_ev tX12_replicates) L st M) ∧
  (∀ L st M, zz_ev tX12_replicates 12 L st M = zo_pushI 1 13 (zz_ev tX12_replicates) L st M) ∧
  (∀ L st M, zz_ev tX12_replicates 13 L st M = zo_iret true (zz_ev tX12_replicates) L st M) ∧
  (∀ L st M, zz_ev tX12_replicates 14 L st M = zo_aload 0 15 (zz_ev tX12_replicates) L st M) ∧
  (∀ L st M, zz_ev tX12_replicates 15 L st M = zo_aload 0 16 (zz_ev tX12_replicates) L st M) ∧
  (∀ (L : zzLc) (r : List Value) (M : zzMd), zz_ev tX12_replicates 16 L (.ref 0 :: r) M = zz_ev tX12_replicates 19 L (.int (M.1 0 43) :: r) M) ∧
  (∀ L st M, zz_ev tX12_replicates 19 L st M = zo_pushI 0 20 (zz_ev tX12_replicates) L st M) ∧
  (∀ (L : zzLc) (a0 a1 : Int32) (r : List Value) (M : zzMd), zz_ev tX12_replicates 20 L (.int a1 :: .int a0 :: .ref 0 :: r) M = bif zz_cat8 r then zz_backN (zz_ev tX12_replicates) 23 L r (fX12_podOf [.ref 0, .int a0, .int a1] M) else none) ∧
  (∀ L st M, zz_ev tX12_replicates 23 L st M = zo_istore 1 24 (zz_ev tX12_replicates) L st M) ∧
  (∀ L st M, zz_ev tX12_replicates 24 L st M = zo_iload 1 25 (zz_ev tX12_replicates) L st M) ∧
  (∀ L st M, zz_ev tX12_replicates 25 L st M = zo_pushI (-1) 26 (zz_ev tX12_replicates) L st M) ∧
  (∀ L st M, zz_ev tX12_replicates 26 L st M = zo_icmp (fun x y => decide (x = y)) 35 29 (zz_ev tX12_replicates) L st M) ∧
  (∀ L st M, zz_ev tX12_replicates 29 L st M = zo_aload 0 30 (zz_ev tX12_replicates) L st M) ∧
  (∀ L st M, zz_ev tX12_replicates 30 L st M = zo_iload 1 31 (zz_ev tX12_replicates) L st M) ∧
  (∀ (L : zzLc) (a0 : Int32) (r : List Value) (M : zzMd), zz_ev tX12_replicates 31 L (.int a0 :: .ref 0 :: r) M = bif zz_cat8 r then zz_backN (zz_ev tX12_replicates) 34 L r (fX12_deletes [.ref 0, .int a0] M) else none) ∧
  (∀ L st M, zz_ev tX12_replicates 34 L st M = zo_iret true (zz_ev tX12_replicates) L st M) ∧
  (∀ L st M, zz_ev tX12_replicates 35 L st M = zo_aload 0 36 (zz_ev tX12_replicates) L st M) ∧
  (∀ L st M, zz_ev tX12_replicates 36 L st M = zo_aload 0 37 (zz_ev tX12_replicates) L st M) ∧
  (∀ (L : zzLc) (r : List Value) (M : zzMd), zz_ev tX12_replicates 37 L (.ref 0 :: r) M = zz_ev tX12_replicates 40 L (.int (M.1 0 43) :: r) M) ∧
  (∀ L st M, zz_ev tX12_replicates 40 L st M = zo_pushI 15 42 (zz_ev tX12_replicates) L st M) ∧
  (∀ (L : zzLc) (a0 a1 : Int32) (r : List Value) (M : zzMd), zz_ev tX12_replicates 42 L (.int a1 :: .int a0 :: .ref 0 :: r) M = bif zz_cat8 r then zz_backN (zz_ev tX12_replicates) 45 L r (fX12_pods [.ref 0, .int a0, .int a1] M) else none) ∧
  (∀ L st M, zz_ev tX12_replicates 45 L st M = zo_istore 2 46 (zz_ev tX12_replicates) L st M) ∧
  (∀ L st M, zz_ev tX12_replicates 46 L st M = zo_aload 0 47 (zz_ev tX12_replicates) L st M) ∧
  (∀ L st M, zz_ev tX12_replicates 47 L st M = zo_aload 0 48 (zz_ev tX12_replicates) L st M) ∧
  (∀ (L : zzLc) (r : List Value) (M : zzMd), zz_ev tX12_replicates 48 L (.ref 0 :: r) M = zz_ev tX12_replicates 51 L (.int (M.1 0 43) :: r) M) ∧
  (∀ L st M, zz_ev tX12_replicates 51 L st M = zo_pushI 0 52 (zz_ev tX12_replicates) L st M) ∧
  (∀ (L : zzLc) (a0 a1 : Int32) (r : List Value) (M : zzMd), zz_ev tX12_replicates 52 L (.int a1 :: .int a0 :: .ref 0 :: r) M = bif zz_cat8 r then zz_backN (zz_ev tX12_replicates) 55 L r (fX12_viewed [.ref 0, .int a0, .int a1] M) else none) ∧
  (∀ L st M, zz_ev tX12_replicates 55 L st M = zo_istore 3 56 (zz_ev tX12_replicates) L st M) ∧
  (∀ L st M, zz_ev tX12_replicates 56 L st M = zo_iload 2 57 (zz_ev tX12_replicates) L st M) ∧
  (∀ L st M, zz_ev tX12_replicates 57 L st M = zo_iload 3 58 (zz_ev tX12_replicates) L st M) ∧
  (∀ L st M, zz_ev tX12_replicates 58 L st M = zo_icmp (fun x y => decide (y ≤ x)) 80 61 (zz_ev tX12_replicates) L st M) ∧
  (∀ L st M, zz_ev tX12_replicates 61 L st M = zo_aload 0 62 (zz_ev tX12_replicates) L st M) ∧
  (∀ L st M, zz_ev tX12_replicates 62 L st M = zo_pushI 2 63 (zz_ev tX12_replicates) L st M) ∧
  (∀ L st M, zz_ev tX12_replicates 63 L st M = zo_aload 0 64 (zz_ev tX12_replicates) L st M) ∧
  (∀ (L : zzLc) (r : List Value) (M : zzMd), zz_ev tX12_replicates 64 L (.ref 0 :: r) M = zz_ev tX12_replicates 67 L (.int (M.1 0 43) :: r) M) ∧
  (∀ L st M, zz_ev tX12_replicates 67 L st M = zo_aload 0 68 (zz_ev tX12_replicates) L st M) ∧
  (∀ L st M, zz_ev tX12_replicates 68 L st M = zo_aload 0 69 (zz_ev tX12_replicates) L st M) ∧
  (∀ (L : zzLc) (r : List Value) (M : zzMd), zz_ev tX12_replicates 69 L (.ref 0 :: r) M = zz_ev tX12_replicates 72 L (.int (M.1 0 43) :: r) M) ∧
  (∀ L st M, zz_ev tX12_replicates 72 L st M = zo_pushI 1 73 (zz_ev tX12_replicates) L st M) ∧
  (∀ (L : zzLc) (a0 a1 : Int32) (r : List Value) (M : zzMd), zz_ev tX12_replicates 73 L (.int a1 :: .int a0 :: .ref 0 :: r) M = bif zz_cat8 r then zz_backN (zz_ev tX12_replicates) 76 L r (fX12_viewed [.ref 0, .int a0, .int a1] M) else none) ∧
  (∀ (L : zzLc) (a0 a1 a2 : Int32) (r : List Value) (M : zzMd), zz_ev tX12_replicates 76 L (.int a2 :: .int a1 :: .int a0 :: .ref 0 :: r) M = bif zz_cat8 r then zz_backN (zz_ev tX12_replicates) 79 L r (fX12_makesOne [.ref 0, .int a0, .int a1, .int a2] M) else none) ∧
  (∀ L st M, zz_ev tX12_replicates 79 L st M = zo_iret true (zz_ev tX12_replicates) L st M) ∧
  (∀ L st M, zz_ev tX12_replicates 80 L st M = zo_iload 2 81 (zz_ev tX12_replicates) L st M) ∧
  (∀ L st M, zz_ev tX12_replicates 81 L st M = zo_iload 3 82 (zz_ev tX12_replicates) L st M) ∧
  (∀ L st M, zz_ev tX12_replicates 82 L st M = zo_icmp (fun x y => decide (x = y)) 101 85 (zz_ev tX12_replicates) L st M) ∧
  (∀ L st M, zz_ev tX12_replicates 85 L st M = zo_aload 0 86 (zz_ev tX12_replicates) L st M) ∧
  (∀ L st M, zz_ev tX12_replicates 86 L st M = zo_aload 0 87 (zz_ev tX12_replicates) L st M) ∧
  (∀ L st M, zz_ev tX12_replicates 87 L st M = zo_aload 0 88 (zz_ev tX12_replicates) L st M) ∧
  (∀ (L : zzLc) (r : List Value) (M : zzMd), zz_ev tX12_replicates 88 L (.ref 0 :: r) M = zz_ev tX12_replicates 91 L (.int (M.1 0 43) :: r) M) ∧
  (∀ L st M, zz_ev tX12_replicates 91 L st M = zo_pushI 1 92 (zz_ev tX12_replicates) L st M) ∧
  (∀ (L : zzLc) (a0 a1 : Int32) (r : List Value) (M : zzMd), zz_ev tX12_replicates 92 L (.int a1 :: .int a0 :: .ref 0 :: r) M = bif zz_cat8 r then zz_backN (zz_ev tX12_replicates) 95 L r (fX12_podOf [.ref 0, .int a0, .int a1] M) else none) ∧
  (∀ (L : zzLc) (a0 : Int32) (r : List Value) (M : zzMd), zz_ev tX12_replicates 95 L (.int a0 :: .ref 0 :: r) M = bif zz_cat8 r then zz_backN (zz_ev tX12_replicates) 98 L r (fX12_deletes [.ref 0, .int a0] M) else none) ∧
  (∀ L st M, zz_ev tX12_replicates 98 L st M = zo_if (fun x => decide (x = 0)) 105 101 (zz_ev tX12_replicates) L st M) ∧
  (∀ L st M, zz_ev tX12_replicates 101 L st M = zo_pushI 1 102 (zz_ev tX12_replicates) L st M) ∧
  (∀ L st M, zz_ev tX12_replicates 102 L st M = zo_goto 106 (zz_ev tX12_replicates) L st M) ∧
  (∀ L st M, zz_ev tX12_replicates 105 L st M = zo_pushI 0 106 (zz_ev tX12_replicates) L st M) ∧
  (∀ L st M, zz_ev tX12_replicates 106 L st M = zo_iret true (zz_ev tX12_replicates) L st M) :=
  ⟨zz_1 rfl tl_X12_replicates, zz_1 rfl tl_X12_replicates, fun L r M => (zz_1 rfl tl_X12_replicates _ _ _).trans rfl, zz_1 rfl tl_X12_replicates, fun L a0 a1 r M => (zz_1 rfl tl_X12_replicates _ _ _).trans rfl, zz_1 rfl tl_X12_replicates, zz_1 rfl tl_X12_replicates, zz_1 rfl tl_X12_replicates, zz_1 rfl tl_X12_replicates, zz_1 rfl tl_X12_replicates, fun L r M => (zz_1 rfl tl_X12_replicates _ _ _).trans rfl, zz_1 rfl tl_X12_replicates, fun L a0 a1 r M => (zz_1 rfl tl_X12_replicates _ _ _).trans rfl, zz_1 rfl tl_X12_replicates, zz_1 rfl tl_X12_replicates, zz_1 rfl tl_X12_replicates, zz_1 rfl tl_X12_replicates, zz_1 rfl tl_X12_replicates, zz_1 rfl tl_X12_replicates, fun L a0 r M => (zz_1 rfl tl_X12_replicates _ _ _).trans rfl, zz_1 rfl tl_X12_replicates, zz_1 rfl tl_X12_replicates, zz_1 rfl tl_X12_replicates, fun L r M => (zz_1 rfl tl_X12_replicates _ _ _).trans rfl, zz_1 rfl tl_X12_replicates, fun L a0 a1 r M => (zz_1 rfl tl_X12_replicates _ _ _).trans rfl, zz_1 rfl tl_X12_replicates, zz_1 rfl tl_X12_replicates, zz_1 rfl tl_X12_replicates, fun L r M => (zz_1 rfl tl_X12_replicates _ _ _).trans rfl, zz_1 rfl tl_X12_replicates, fun L a0 a1 r M => (zz_1 rfl tl_X12_replicates _ _ _).trans rfl, zz_1 rfl tl_X12_replicates, zz_1 rfl tl_X12_replicates, zz_1 rfl tl_X12_replicates, zz_1 rfl tl_X12_replicates, zz_1 rfl tl_X12_replicates, zz_1 rfl tl_X12_replicates, zz_1 rfl tl_X12_replicates, fun L r M => (zz_1 rfl tl_X12_replicates _ _ _).trans rfl, zz_1 rfl tl_X12_replicates, zz_1 rfl tl_X12_replicates, fun L r M => (zz_1 rfl tl_X12_replicates _ _ _).trans rfl, zz_1 rfl tl_X12_replicates, fun L a0 a1 r M => (zz_1 rfl tl_X12_replicates _ _ _).trans rfl, fun L a0 a1 a2 r M => (zz_1 rfl tl_X12_replicates _ _ _).trans rfl, zz_1 rfl tl_X12_replicates, zz_1 rfl tl_X12_replicates, zz_1 rfl tl_X12_replicates, zz_1 rfl tl_X12_replicates, zz_1 rfl tl_X12_replicates, zz_1 rfl tl_X12_replicates, zz_1 rfl tl_X12_replicates, fun L r M => (zz_1 rfl tl_X12_replicates _ _ _).trans rfl, zz_1 rfl tl_X12_replicates, fun L a0 a1 r M => (zz_1 rfl tl_X12_replicates _ _ _).trans rfl, fun L a0 r M => (zz_1 rfl tl_X12_replicates _ _ _).trans rfl, zz_1 rfl tl_X12_replicates, zz_1 rfl tl_X12_replicates, zz_1 rfl tl_X12_replicates, zz_1 rfl tl_X12_replicates, zz_1 rfl tl_X12_replicates⟩
set_option maxRecDepth 100000 in
theorem s_X12_replicates (v : Nat) (M : zzMd) : fX12_replicates [.ref v] M = zz_ev tX12_replicates 0 [some (.ref v), none, none, none] [] M := rfl
set_option maxRecDepth 100000 in
theorem e_X12_doesJobs : (∀ L st M, zz_ev tX12_doesJobs 0 L st M = zo_aload 0 1 (zz_ev tX12_doesJobs) L st M) ∧
  (∀ L st M, zz_ev tX12_doesJobs 1 L st M = zo_aload 0 2 (zz_ev tX12_doesJobs) L st M) ∧
  (∀ (L : zzLc) (r : List Value) (M : zzMd), zz_ev tX12_doesJobs 2 L (.ref 0 :: r) M = zz_ev tX12_doesJobs 5 L (.int (M.1 0 43) :: r) M) ∧
  (∀ L st M, zz_ev tX12_doesJobs 5 L st M = zo_pushI 3 6 (zz_ev tX12_doesJobs) L st M) ∧
  (∀ (L : zzLc) (a0 a1 : Int32) (r : List Value) (M : zzMd), zz_ev tX12_doesJobs 6 L (.int a1 :: .int a0 :: .ref 0 :: r) M = bif zz_cat8 r then zz_backN (zz_ev tX12_doesJobs) 9 L r (fX12_stays [.ref 0, .int a0, .int a1] M) else none) ∧
  (∀ L st M, zz_ev tX12_doesJobs 9 L st M = zo_if (fun x => decide (¬ x = 0)) 14 12 (zz_ev tX12_doesJobs) L st M) ∧
  (∀ L st M, zz_ev tX12_doesJobs 12 L st M = zo_pushI 1 13 (zz_ev tX12_doesJobs) L st M) ∧
  (∀ L st M, zz_ev tX12_doesJobs 13 L st M = zo_iret true (zz_ev tX12_doesJobs) L st M) ∧
  (∀ L st M, zz_ev tX12_doesJobs 14 L st M = zo_aload 0 15 (zz_ev tX12_doesJobs) L st M) ∧
  (∀ L st M, zz_ev tX12_doesJobs 15 L st M = zo_aload 0 16 (zz_ev tX12_doesJobs) L st M) ∧
  (∀ (L : zzLc) (r : List Value) (M : zzMd), zz_ev tX12_doesJobs 16 L (.ref 0 :: r) M = zz_ev tX12_doesJobs 19 L (.int (M.1 0 43) :: r) M) ∧
  (∀ L st M, zz_ev tX12_doesJobs 19 L st M = zo_pushI 3 20 (zz_ev tX12_doesJobs) L st M) ∧
  (∀ (L : zzLc) (a0 a1 : Int32) (r : List Value) (M : zzMd), zz_ev tX12_doesJobs 20 L (.int a1 :: .int a0 :: .ref 0 :: r) M = bif zz_cat8 r then zz_backN (zz_ev tX12_doesJobs) 23 L r (fX12_pods [.ref 0, .int a0, .int a1] M) else none) ∧
  (∀ L st M, zz_ev tX12_doesJobs 23 L st M = zo_istore 1 24 (zz_ev tX12_doesJobs) L st M) ∧
  (∀ L st M, zz_ev tX12_doesJobs 24 L st M = zo_iload 1 25 (zz_ev tX12_doesJobs) L st M) ∧
  (∀ L st M, zz_ev tX12_doesJobs 25 L st M = zo_aload 0 26 (zz_ev tX12_doesJobs) L st M) ∧
  (∀ L st M, zz_ev tX12_doesJobs 26 L st M = zo_aload 0 27 (zz_ev tX12_doesJobs) L st M) ∧
  (∀ (L : zzLc) (r : List Value) (M : zzMd), zz_ev tX12_doesJobs 27 L (.ref 0 :: r) M = zz_ev tX12_doesJobs 30 L (.int (M.1 0 43) :: r) M) ∧
  (∀ L st M, zz_ev tX12_doesJobs 30 L st M = zo_pushI 4 31 (zz_ev tX12_doesJobs) L st M) ∧
  (∀ (L : zzLc) (a0 a1 : Int32) (r : List Value) (M : zzMd), zz_ev tX12_doesJobs 31 L (.int a1 :: .int a0 :: .ref 0 :: r) M = bif zz_cat8 r then zz_backN (zz_ev tX12_doesJobs) 34 L r (fX12_pods [.ref 0, .int a0, .int a1] M) else none) ∧
  (∀ L st M, zz_ev tX12_doesJobs 34 L st M = zo_ii (fun x y => x + y) 35 (zz_ev tX12_doesJobs) L st M) ∧
  (∀ L st M, zz_ev tX12_doesJobs 35 L st M = zo_aload 0 36 (zz_ev tX12_doesJobs) L st M) ∧
  (∀ L st M, zz_ev tX12_doesJobs 36 L st M = zo_aload 0 37 (zz_ev tX12_doesJobs) L st M) ∧
  (∀ (L : zzLc) (r : List Value) (M : zzMd), zz_ev tX12_doesJobs 37 L (.ref 0 :: r) M = zz_ev tX12_doesJobs 40 L (.int (M.1 0 43) :: r) M) ∧
  (∀ L st M, zz_ev tX12_doesJobs 40 L st M = zo_pushI 0 41 (zz_ev tX12_doesJobs) L st M) ∧
  (∀ (L : zzLc) (a0 a1 : Int32) (r : List Value) (M : zzMd), zz_ev tX12_doesJobs 41 L (.int a1 :: .int a0 :: .ref 0 :: r) M = bif zz_cat8 r then zz_backN (zz_ev tX12_doesJobs) 44 L r (fX12_viewed [.ref 0, .int a0, .int a1] M) else none) ∧
  (∀ L st M, zz_ev tX12_doesJobs 44 L st M = zo_icmp (fun x y => decide (y ≤ x)) 65 47 (zz_ev tX12_doesJobs) L st M) ∧
  (∀ L st M, zz_ev tX12_doesJobs 47 L st M = zo_iload 1 48 (zz_ev tX12_doesJobs) L st M) ∧
  (∀ L st M, zz_ev tX12_doesJobs 48 L st M = zo_aload 0 49 (zz_ev tX12_doesJobs) L st M) ∧
  (∀ L st M, zz_ev tX12_doesJobs 49 L st M = zo_aload 0 50 (zz_ev tX12_doesJobs) L st M) ∧
  (∀ (L : zzLc) (r : List Value) (M : zzMd), zz_ev tX12_doesJobs 50 L (.ref 0 :: r) M = zz_ev tX12_doesJobs 53 L (.int (M.1 0 43) :: r) M) ∧
  (∀ L st M, zz_ev tX12_doesJobs 53 L st M = zo_pushI 10 55 (zz_ev tX12_doesJobs) L st M) ∧
  (∀ (L : zzLc) (a0 a1 : Int32) (r : List Value) (M : zzMd), zz_ev tX12_doesJobs 55 L (.int a1 :: .int a0 :: .ref 0 :: r) M = bif zz_cat8 r then zz_backN (zz_ev tX12_doesJobs) 58 L r (fX12_viewed [.ref 0, .int a0, .int a1] M) else none) ∧
  (∀ L st M, zz_ev tX12_doesJobs 58 L st M = zo_icmp (fun x y => decide (y ≤ x)) 65 61 (zz_ev tX12_doesJobs) L st M) ∧
  (∀ L st M, zz_ev tX12_doesJobs 61 L st M = zo_pushI 1 62 (zz_ev tX12_doesJobs) L st M) ∧
  (∀ L st M, zz_ev tX12_doesJobs 62 L st M = zo_goto 66 (zz_ev tX12_doesJobs) L st M) ∧
  (∀ L st M, zz_ev tX12_doesJobs 65 L st M = zo_pushI 0 66 (zz_ev tX12_doesJobs) L st M) ∧
  (∀ L st M, zz_ev tX12_doesJobs 66 L st M = zo_istore 2 67 (zz_ev tX12_doesJobs) L st M) ∧
  (∀ L st M, zz_ev tX12_doesJobs 67 L st M = zo_iload 2 68 (zz_ev tX12_doesJobs) L st M) ∧
  (∀ L st M, zz_ev tX12_doesJobs 68 L st M = zo_if (fun x => decide (x = 0)) 92 71 (zz_ev tX12_doesJobs) L st M) ∧
  (∀ L st M, zz_ev tX12_doesJobs 71 L st M = zo_aload 0 72 (zz_ev tX12_doesJobs) L st M) ∧
  (∀ L st M, zz_ev tX12_doesJobs 72 L st M = zo_pushI 2 73 (zz_ev tX12_doesJobs) L st M) ∧
  (∀ L st M, zz_ev tX12_doesJobs 73 L st M = zo_aload 0 74 (zz_ev tX12_doesJobs) L st M) ∧
  (∀ (L : zzLc) (r : List Value) (M : zzMd), zz_ev tX12_doesJobs 74 L (.ref 0 :: r) M = zz_ev tX12_doesJobs 77 L (.int (M.1 0 43) :: r) M) ∧
  (∀ L st M, zz_ev tX12_doesJobs 77 L st M = zo_aload 0 78 (zz_ev tX12_doesJobs) L st M) ∧
  (∀ L st M, zz_ev tX12_doesJobs 78 L st M = zo_aload 0 79 (zz_ev tX12_doesJobs) L st M) ∧
  (∀ (L : zzLc) (r : List Value) (M : zzMd), zz_ev tX12_doesJobs 79 L (.ref 0 :: r) M = zz_ev tX12_doesJobs 82 L (.int (M.1 0 43) :: r) M) ∧
  (∀ L st M, zz_ev tX12_doesJobs 82 L st M = zo_pushI 1 83 (zz_ev tX12_doesJobs) L st M) ∧
  (∀ (L : zzLc) (a0 a1 : Int32) (r : List Value) (M : zzMd), zz_ev tX12_doesJobs 83 L (.int a1 :: .int a0 :: .ref 0 :: r) M = bif zz_cat8 r then zz_backN (zz_ev tX12_doesJobs) 86 L r (fX12_viewed [.ref 0, .int a0, .int a1] M) else none) ∧
  (∀ (L : zzLc) (a0 a1 a2 : Int32) (r : List Value) (M : zzMd), zz_ev tX12_doesJobs 86 L (.int a2 :: .int a1 :: .int a0 :: .ref 0 :: r) M = bif zz_cat8 r then zz_backN (zz_ev tX12_doesJobs) 89 L r (fX12_makesOne [.ref 0, .int a0, .int a1, .int a2] M) else none) ∧
  (∀ L st M, zz_ev tX12_doesJobs 89 L st M = zo_if (fun x => decide (x = 0)) 96 92 (zz_ev tX12_doesJobs) L st M) ∧
  (∀ L st M, zz_ev tX12_doesJobs 92 L st M = zo_pushI 1 93 (zz_ev tX12_doesJobs) L st M) ∧
  (∀ L st M, zz_ev tX12_doesJobs 93 L st M = zo_goto 97 (zz_ev tX12_doesJobs) L st M) ∧
  (∀ L st M, zz_ev tX12_doesJobs 96 L st M = zo_pushI 0 97 (zz_ev tX12_doesJobs) L st M) ∧
  (∀ L st M, zz_ev tX12_doesJobs 97 L st M = zo_iret true (zz_ev tX12_doesJobs) L st M) :=
  ⟨zz_1 rfl tl_X12_doesJobs, zz_1 rfl tl_X12_doesJobs, fun L r M => (zz_1 rfl tl_X12_doesJobs _ _ _).trans rfl, zz_1 rfl tl_X12_doesJobs, fun L a0 a1 r M => (zz_1 rfl tl_X12_doesJobs _ _ _).trans rfl, zz_1 rfl tl_X12_doesJobs, zz_1 rfl tl_X12_doesJobs, zz_1 rfl tl_X12_doesJobs, zz_1 rfl tl_X12_doesJobs, zz_1 rfl tl_X12_doesJobs, fun L r M => (zz_1 rfl tl_X12_doesJobs _ _ _).trans rfl, zz_1 rfl tl_X12_doesJobs, fun L a0 a1 r M => (zz_1 rfl tl_X12_doesJobs _ _ _).trans rfl, zz_1 rfl tl_X12_doesJobs, zz_1 rfl tl_X12_doesJobs, zz_1 rfl tl_X12_doesJobs, zz_1 rfl tl_X12_doesJobs, fun L r M => (zz_1 rfl tl_X12_doesJobs _ _ _).trans rfl, zz_1 rfl tl_X12_doesJobs, fun L a0 a1 r M => (zz_1 rfl tl_X12_doesJobs _ _ _).trans rfl, zz_1 rfl tl_X12_doesJobs, zz_1 rfl tl_X12_doesJobs, zz_1 rfl tl_X12_doesJobs, fun L r M => (zz_1 rfl tl_X12_doesJobs _ _ _).trans rfl, zz_1 rfl tl_X12_doesJobs, fun L a0 a1 r M => (zz_1 rfl tl_X12_doesJobs _ _ _).trans rfl, zz_1 rfl tl_X12_doesJobs, zz_1 rfl tl_X12_doesJobs, zz_1 rfl tl_X12_doesJobs, zz_1 rfl tl_X12_doesJobs, fun L r M => (zz_1 rfl tl_X12_doesJobs _ _ _).trans rfl, zz_1 rfl tl_X12_doesJobs, fun L a0 a1 r M => (zz_1 rfl tl_X12_doesJobs _ _ _).trans rfl, zz_1 rfl tl_X12_doesJobs, zz_1 rfl tl_X12_doesJobs, zz_1 rfl tl_X12_doesJobs, zz_1 rfl tl_X12_doesJobs, zz_1 rfl tl_X12_doesJobs, zz_1 rfl tl_X12_doesJobs, zz_1 rfl tl_X12_doesJobs, zz_1 rfl tl_X12_doesJobs, zz_1 rfl tl_X12_doesJobs, zz_1 rfl tl_X12_doesJobs, fun L r M => (zz_1 rfl tl_X12_doesJobs _ _ _).trans rfl, zz_1 rfl tl_X12_doesJobs, zz_1 rfl tl_X12_doesJobs, fun L r M => (zz_1 rfl tl_X12_doesJobs _ _ _).trans rfl, zz_1 rfl tl_X12_doesJobs, fun L a0 a1 r M => (zz_1 rfl tl_X12_doesJobs _ _ _).trans rfl, fun L a0 a1 a2 r M => (zz_1 rfl tl_X12_doesJobs _ _ _).trans rfl, zz_1 rfl tl_X12_doesJobs, zz_1 rfl tl_X12_doesJobs, zz_1 rfl tl_X12_doesJobs, zz_1 rfl tl_X12_doesJobs, zz_1 rfl tl_X12_doesJobs⟩
set_option maxRecDepth 100000 in
theorem s_X12_doesJobs (v : Nat) (M : zzMd) : fX12_doesJobs [.ref v] M = zz_ev tX12_doesJobs 0 [some (.ref v), none, none] [] M := rfl
set_option maxRecDepth 100000 in
theorem e_X12_isUsable : (∀ L st M, zz_ev tX12_isUsable 0 L st M = zo_aload 0 1 (zz_ev tX12_isUsable) L st M) ∧
  (∀ L st M, zz_ev tX12_isUsable 1 L st M = zo_iload 1 2 (zz_ev tX12_isUsable) L st M) ∧
  (∀ L st M, zz_ev tX12_isUsable 2 L st M = zo_pushI 4 3 (zz_ev tX12_isUsable) L st M) ∧
  (∀ (L : zzLc) (a0 a1 : Int32) (r : List Value) (M : zzMd), zz_ev tX12_isUsable 3 L (.int a1 :: .int a0 :: .ref 0 :: r) M = bif zz_cat8 r then zz_backN (zz_ev tX12_isUsable) 6 L r (fX12_stays [.ref 0, .int a0, .int a1] M) else none) ∧
  (∀ L st M, zz_ev tX12_isUsable 6 L st M = zo_if (fun x => decide (x = 0)) 34 9 (zz_ev tX12_isUsable) L st M) ∧
  (∀ L st M, zz_ev tX12_isUsable 9 L st M = zo_aload 0 10 (zz_ev tX12_isUsable) L st M) ∧
  (∀ L st M, zz_ev tX12_isUsable 10 L st M = zo_iload 1 11 (zz_ev tX12_isUsable) L st M) ∧
  (∀ L st M, zz_ev tX12_isUsable 11 L st M = zo_pushI 14 13 (zz_ev tX12_isUsable) L st M) ∧
  (∀ (L : zzLc) (a0 a1 : Int32) (r : List Value) (M : zzMd), zz_ev tX12_isUsable 13 L (.int a1 :: .int a0 :: .ref 0 :: r) M = bif zz_cat8 r then zz_backN (zz_ev tX12_isUsable) 16 L r (fX12_viewed [.ref 0, .int a0, .int a1] M) else none) ∧
  (∀ L st M, zz_ev tX12_isUsable 16 L st M = zo_pushI 1 17 (zz_ev tX12_isUsable) L st M) ∧
  (∀ L st M, zz_ev tX12_isUsable 17 L st M = zo_icmp (fun x y => decide (¬ x = y)) 34 20 (zz_ev tX12_isUsable) L st M) ∧
  (∀ L st M, zz_ev tX12_isUsable 20 L st M = zo_aload 0 21 (zz_ev tX12_isUsable) L st M) ∧
  (∀ L st M, zz_ev tX12_isUsable 21 L st M = zo_iload 1 22 (zz_ev tX12_isUsable) L st M) ∧
  (∀ L st M, zz_ev tX12_isUsable 22 L st M = zo_pushI 9 24 (zz_ev tX12_isUsable) L st M) ∧
  (∀ (L : zzLc) (a0 a1 : Int32) (r : List Value) (M : zzMd), zz_ev tX12_isUsable 24 L (.int a1 :: .int a0 :: .ref 0 :: r) M = bif zz_cat8 r then zz_backN (zz_ev tX12_isUsable) 27 L r (fX12_viewed [.ref 0, .int a0, .int a1] M) else none) ∧
  (∀ L st M, zz_ev tX12_isUsable 27 L st M = zo_if (fun x => decide (¬ x = 0)) 34 30 (zz_ev tX12_isUsable) L st M) ∧
  (∀ L st M, zz_ev tX12_isUsable 30 L st M = zo_pushI 1 31 (zz_ev tX12_isUsable) L st M) ∧
  (∀ L st M, zz_ev tX12_isUsable 31 L st M = zo_goto 35 (zz_ev tX12_isUsable) L st M) ∧
  (∀ L st M, zz_ev tX12_isUsable 34 L st M = zo_pushI 0 35 (zz_ev tX12_isUsable) L st M) ∧
  (∀ L st M, zz_ev tX12_isUsable 35 L st M = zo_iret true (zz_ev tX12_isUsable) L st M) :=
  ⟨zz_1 rfl tl_X12_isUsable, zz_1 rfl tl_X12_isUsable, zz_1 rfl tl_X12_isUsable, fun L a0 a1 r M => (zz_1 rfl tl_X12_isUsable _ _ _).trans rfl, zz_1 rfl tl_X12_isUsable, zz_1 rfl tl_X12_isUsable, zz_1 rfl tl_X12_isUsable, zz_1 rfl tl_X12_isUsable, fun L a0 a1 r M => (zz_1 rfl tl_X12_isUsable _ _ _).trans rfl, zz_1 rfl tl_X12_isUsable, zz_1 rfl tl_X12_isUsable, zz_1 rfl tl_X12_isUsable, zz_1 rfl tl_X12_isUsable, zz_1 rfl tl_X12_isUsable, fun L a0 a1 r M => (zz_1 rfl tl_X12_isUsable _ _ _).trans rfl, zz_1 rfl tl_X12_isUsable, zz_1 rfl tl_X12_isUsable, zz_1 rfl tl_X12_isUsable, zz_1 rfl tl_X12_isUsable, zz_1 rfl tl_X12_isUsable⟩
set_option maxRecDepth 100000 in
theorem s_X12_isUsable (a0 : Int32) (v : Nat) (M : zzMd) : fX12_isUsable [.ref v, .int a0] M = zz_ev tX12_isUsable 0 [some (.ref v), some (.int a0)] [] M := rfl
set_option maxRecDepth 100000 in
theorem e_X12_zoned : (∀ L st M, zz_ev tX12_zoned 0 L st M = zo_pushI 0 1 (zz_ev tX12_zoned) L st M) ∧
  (∀ L st M, zz_ev tX12_zoned 1 L st M = zo_istore 3 2 (zz_ev tX12_zoned) L st M) ∧
  (∀ L st M, zz_ev tX12_zoned 2 L st M = zo_pushI 0 3 (zz_ev tX12_zoned) L st M) ∧
  (∀ L st M, zz_ev tX12_zoned 3 L st M = zo_istore 4 5 (zz_ev tX12_zoned) L st M) ∧
  (∀ L st M, zz_ev tX12_zoned 7 L st M = zo_aload 0 8 (zz_ev tX12_zoned) L st M) ∧
  (∀ (L : zzLc) (r : List Value) (M : zzMd), zz_ev tX12_zoned 8 L (.ref 0 :: r) M = zz_ev tX12_zoned 11 L (.int (M.1 0 5) :: r) M) ∧
  (∀ L st M, zz_ev tX12_zoned 11 L st M = zo_icmp (fun x y => decide (y ≤ x)) 135 14 (zz_ev tX12_zoned) L st M) ∧
  (∀ L st M, zz_ev tX12_zoned 14 L st M = zo_aload 0 15 (zz_ev tX12_zoned) L st M) ∧
  (∀ L st M, zz_ev tX12_zoned 15 L st M = zo_iload 4 17 (zz_ev tX12_zoned) L st M) ∧
  (∀ (L : zzLc) (a0 : Int32) (r : List Value) (M : zzMd), zz_ev tX12_zoned 17 L (.int a0 :: .ref 0 :: r) M = bif zz_cat8 r then zz_backN (zz_ev tX12_zoned) 20 L r (fX12_isGoneThere [.ref 0, .int a0] M) else none) ∧
  (∀ L st M, zz_ev tX12_zoned 20 L st M = zo_if (fun x => decide (¬ x = 0)) 71 23 (zz_ev tX12_zoned) L st M) ∧
  (∀ L st M, zz_ev tX12_zoned 23 L st M = zo_aload 0 24 (zz_ev tX12_zoned) L st M) ∧
  (∀ (L : zzLc) (r : List Value) (M : zzMd), zz_ev tX12_zoned 24 L (.ref 0 :: r) M = zz_ev tX12_zoned 27 L (.ref 6 :: r) M) ∧
  (∀ L st M, zz_ev tX12_zoned 27 L st M = zo_iload 4 29 (zz_ev tX12_zoned) L st M) ∧
  (∀ L st M, zz_ev tX12_zoned 29 L st M = zo_iald zzSR zzSTR 30 (zz_ev tX12_zoned) L st M) ∧
  (∀ L st M, zz_ev tX12_zoned 30 L st M = zo_pushI 2 31 (zz_ev tX12_zoned) L st M) ∧
  (∀ L st M, zz_ev tX12_zoned 31 L st M = zo_icmp (fun x y => decide (¬ x = y)) 71 34 (zz_ev tX12_zoned) L st M) ∧
  (∀ L st M, zz_ev tX12_zoned 34 L st M = zo_aload 0 35 (zz_ev tX12_zoned) L st M) ∧
  (∀ L st M, zz_ev tX12_zoned 35 L st M = zo_iload 4 37 (zz_ev tX12_zoned) L st M) ∧
  (∀ L st M, zz_ev tX12_zoned 37 L st M = zo_pushI 15 39 (zz_ev tX12_zoned) L st M) ∧
  (∀ (L : zzLc) (a0 a1 : Int32) (r : List Value) (M : zzMd), zz_ev tX12_zoned 39 L (.int a1 :: .int a0 :: .ref 0 :: r) M = bif zz_cat8 r then zz_backN (zz_ev tX12_zoned) 42 L r (fX12_viewed [.ref 0, .int a0, .int a1] M) else none) ∧
  (∀ L st M, zz_ev tX12_zoned 42 L st M = zo_if (fun x => decide (x ≤ 0)) 71 45 (zz_ev tX12_zoned) L st M) ∧
  (∀ L st M, zz_ev tX12_zoned 45 L st M = zo_aload 0 46 (zz_ev tX12_zoned) L st M) ∧
  (∀ L st M, zz_ev tX12_zoned 46 L st M = zo_aload 0 47 (zz_ev tX12_zoned) L st M) ∧
  (∀ L st M, zz_ev tX12_zoned 47 L st M = zo_iload 4 49 (zz_ev tX12_zoned) L st M) ∧
  (∀ (L : zzLc) (a0 : Int32) (r : List Value) (M : zzMd), zz_ev tX12_zoned 49 L (.int a0 :: .ref 0 :: r) M = bif zz_cat8 r then zz_backN (zz_ev tX12_zoned) 52 L r (fX12_view [.ref 0, .int a0] M) else none) ∧
  (∀ (L : zzLc) (a0 : Int64) (r : List Value) (M : zzMd), zz_ev tX12_zoned 52 L (.long a0 :: .ref 0 :: r) M = bif zz_cat8 r then zz_backN (zz_ev tX12_zoned) 55 L r (fX12_ownerIn [.ref 0, .long a0] M) else none) ∧
  (∀ L st M, zz_ev tX12_zoned 55 L st M = zo_aload 0 56 (zz_ev tX12_zoned) L st M) ∧
  (∀ L st M, zz_ev tX12_zoned 56 L st M = zo_aload 0 57 (zz_ev tX12_zoned) L st M) ∧
  (∀ L st M, zz_ev tX12_zoned 57 L st M = zo_iload 1 58 (zz_ev tX12_zoned) L st M) ∧
  (∀ (L : zzLc) (a0 : Int32) (r : List Value) (M : zzMd), zz_ev tX12_zoned 58 L (.int a0 :: .ref 0 :: r) M = bif zz_cat8 r then zz_backN (zz_ev tX12_zoned) 61 L r (fX12_view [.ref 0, .int a0] M) else none) ∧
  (∀ (L : zzLc) (a0 : Int64) (r : List Value) (M : zzMd), zz_ev tX12_zoned 61 L (.long a0 :: .ref 0 :: r) M = bif zz_cat8 r then zz_backN (zz_ev tX12_zoned) 64 L r (fX12_ownerIn [.ref 0, .long a0] M) else none) ∧
  (∀ L st M, zz_ev tX12_zoned 64 L st M = zo_icmp (fun x y => decide (¬ x = y)) 71 67 (zz_ev tX12_zoned) L st M) ∧
  (∀ L st M, zz_ev tX12_zoned 67 L st M = zo_pushI 1 68 (zz_ev tX12_zoned) L st M) ∧
  (∀ L st M, zz_ev tX12_zoned 68 L st M = zo_goto 72 (zz_ev tX12_zoned) L st M) ∧
  (∀ L st M, zz_ev tX12_zoned 71 L st M = zo_pushI 0 72 (zz_ev tX12_zoned) L st M) ∧
  (∀ L st M, zz_ev tX12_zoned 72 L st M = zo_istore 5 74 (zz_ev tX12_zoned) L st M) ∧
  (∀ L st M, zz_ev tX12_zoned 74 L st M = zo_iload 5 76 (zz_ev tX12_zoned) L st M) ∧
  (∀ L st M, zz_ev tX12_zoned 76 L st M = zo_if (fun x => decide (x = 0)) 92 79 (zz_ev tX12_zoned) L st M) ∧
  (∀ L st M, zz_ev tX12_zoned 79 L st M = zo_aload 0 80 (zz_ev tX12_zoned) L st M) ∧
  (∀ L st M, zz_ev tX12_zoned 80 L st M = zo_iload 4 82 (zz_ev tX12_zoned) L st M) ∧
  (∀ L st M, zz_ev tX12_zoned 82 L st M = zo_pushI 15 84 (zz_ev tX12_zoned) L st M) ∧
  (∀ (L : zzLc) (a0 a1 : Int32) (r : List Value) (M : zzMd), zz_ev tX12_zoned 84 L (.int a1 :: .int a0 :: .ref 0 :: r) M = bif zz_cat8 r then zz_backN (zz_ev tX12_zoned) 87 L r (fX12_viewed [.ref 0, .int a0, .int a1] M) else none) ∧
  (∀ L st M, zz_ev tX12_zoned 87 L st M = zo_pushI 1 88 (zz_ev tX12_zoned) L st M) ∧
  (∀ L st M, zz_ev tX12_zoned 88 L st M = zo_ii (fun x y => x - y) 89 (zz_ev tX12_zoned) L st M) ∧
  (∀ L st M, zz_ev tX12_zoned 89 L st M = zo_goto 93 (zz_ev tX12_zoned) L st M) ∧
  (∀ L st M, zz_ev tX12_zoned 92 L st M = zo_pushI (-1) 93 (zz_ev tX12_zoned) L st M) ∧
  (∀ L st M, zz_ev tX12_zoned 93 L st M = zo_istore 6 95 (zz_ev tX12_zoned) L st M) ∧
  (∀ L st M, zz_ev tX12_zoned 95 L st M = zo_iload 3 96 (zz_ev tX12_zoned) L st M) ∧
  (∀ L st M, zz_ev tX12_zoned 96 L st M = zo_iload 5 98 (zz_ev tX12_zoned) L st M) ∧
  (∀ L st M, zz_ev tX12_zoned 98 L st M = zo_if (fun x => decide (x = 0)) 126 101 (zz_ev tX12_zoned) L st M) ∧
  (∀ L st M, zz_ev tX12_zoned 101 L st M = zo_aload 0 102 (zz_ev tX12_zoned) L st M) ∧
  (∀ L st M, zz_ev tX12_zoned 102 L st M = zo_iload 6 104 (zz_ev tX12_zoned) L st M) ∧
  (∀ (L : zzLc) (a0 : Int32) (r : List Value) (M : zzMd), zz_ev tX12_zoned 104 L (.int a0 :: .ref 0 :: r) M = bif zz_cat8 r then zz_backN (zz_ev tX12_zoned) 107 L r (fX12_isGoneThere [.ref 0, .int a0] M) else none) ∧
  (∀ L st M, zz_ev tX12_zoned 107 L st M = zo_if (fun x => decide (¬ x = 0)) 126 110 (zz_ev tX12_zoned) L st M) ∧
  (∀ L st M, zz_ev tX12_zoned 110 L st M = zo_aload 0 111 (zz_ev tX12_zoned) L st M) ∧
  (∀ L st M, zz_ev tX12_zoned 111 L st M = zo_iload 6 113 (zz_ev tX12_zoned) L st M) ∧
  (∀ L st M, zz_ev tX12_zoned 113 L st M = zo_pushI 8 115 (zz_ev tX12_zoned) L st M) ∧
  (∀ (L : zzLc) (a0 a1 : Int32) (r : List Value) (M : zzMd), zz_ev tX12_zoned 115 L (.int a1 :: .int a0 :: .ref 0 :: r) M = bif zz_cat8 r then zz_backN (zz_ev tX12_zoned) 118 L r (fX12_viewed [.ref 0, .int a0, .int a1] M) else none) ∧
  (∀ L st M, zz_ev tX12_zoned 118 L st M = zo_iload 2 119 (zz_ev tX12_zoned) L st M) ∧
  (∀ L st M, zz_ev tX12_zoned 119 L st M = zo_icmp (fun x y => decide (¬ x = y)) 126 122 (zz_ev tX12_zoned) L st M) ∧
  (∀ L st M, zz_ev tX12_zoned 122 L st M = zo_pushI 1 123 (zz_ev tX12_zoned) L st M) ∧
  (∀ L st M, zz_ev tX12_zoned 123 L st M = zo_goto 127 (zz_ev tX12_zoned) L st M) ∧
  (∀ L st M, zz_ev tX12_zoned 126 L st M = zo_pushI 0 127 (zz_ev tX12_zoned) L st M) ∧
  (∀ L st M, zz_ev tX12_zoned 127 L st M = zo_ii (fun x y => x + y) 128 (zz_ev tX12_zoned) L st M) ∧
  (∀ L st M, zz_ev tX12_zoned 128 L st M = zo_istore 3 129 (zz_ev tX12_zoned) L st M) ∧
  (∀ L st M, zz_ev tX12_zoned 129 L st M = zo_iinc 4 1 132 (zz_ev tX12_zoned) L st M) ∧
  (∀ L st M, zz_ev tX12_zoned 132 L st M = zo_goto 5 (zz_ev tX12_zoned) L st M) ∧
  (∀ L st M, zz_ev tX12_zoned 135 L st M = zo_iload 3 136 (zz_ev tX12_zoned) L st M) ∧
  (∀ L st M, zz_ev tX12_zoned 136 L st M = zo_iret false (zz_ev tX12_zoned) L st M) :=
  ⟨zz_1 rfl tl_X12_zoned, zz_1 rfl tl_X12_zoned, zz_1 rfl tl_X12_zoned, zz_1 rfl tl_X12_zoned, zz_1 rfl tl_X12_zoned, fun L r M => (zz_1 rfl tl_X12_zoned _ _ _).trans rfl, zz_1 rfl tl_X12_zoned, zz_1 rfl tl_X12_zoned, zz_1 rfl tl_X12_zoned, fun L a0 r M => (zz_1 rfl tl_X12_zoned _ _ _).trans rfl, zz_1 rfl tl_X12_zoned, zz_1 rfl tl_X12_zoned, fun L r M => (zz_1 rfl tl_X12_zoned _ _ _).trans rfl, zz_1 rfl tl_X12_zoned, zz_1 rfl tl_X12_zoned, zz_1 rfl tl_X12_zoned, zz_1 rfl tl_X12_zoned, zz_1 rfl tl_X12_zoned, zz_1 rfl tl_X12_zoned, zz_1 rfl tl_X12_zoned, fun L a0 a1 r M => (zz_1 rfl tl_X12_zoned _ _ _).trans rfl, zz_1 rfl tl_X12_zoned, zz_1 rfl tl_X12_zoned, zz_1 rfl tl_X12_zoned, zz_1 rfl tl_X12_zoned, fun L a0 r M => (zz_1 rfl tl_X12_zoned _ _ _).trans rfl, fun L a0 r M => (zz_1 rfl tl_X12_zoned _ _ _).trans rfl, zz_1 rfl tl_X12_zoned, zz_1 rfl tl_X12_zoned, zz_1 rfl tl_X12_zoned, fun L a0 r M => (zz_1 rfl tl_X12_zoned _ _ _).trans rfl, fun L a0 r M => (zz_1 rfl tl_X12_zoned _ _ _).trans rfl, zz_1 rfl tl_X12_zoned, zz_1 rfl tl_X12_zoned, zz_1 rfl tl_X12_zoned, zz_1 rfl tl_X12_zoned, zz_1 rfl tl_X12_zoned, zz_1 rfl tl_X12_zoned, zz_1 rfl tl_X12_zoned, zz_1 rfl tl_X12_zoned, zz_1 rfl tl_X12_zoned, zz_1 rfl tl_X12_zoned, fun L a0 a1 r M => (zz_1 rfl tl_X12_zoned _ _ _).trans rfl, zz_1 rfl tl_X12_zoned, zz_1 rfl tl_X12_zoned, zz_1 rfl tl_X12_zoned, zz_1 rfl tl_X12_zoned, zz_1 rfl tl_X12_zoned, zz_1 rfl tl_X12_zoned, zz_1 rfl tl_X12_zoned, zz_1 rfl tl_X12_zoned, zz_1 rfl tl_X12_zoned, zz_1 rfl tl_X12_zoned, fun L a0 r M => (zz_1 rfl tl_X12_zoned _ _ _).trans rfl, zz_1 rfl tl_X12_zoned, zz_1 rfl tl_X12_zoned, zz_1 rfl tl_X12_zoned, zz_1 rfl tl_X12_zoned, fun L a0 a1 r M => (zz_1 rfl tl_X12_zoned _ _ _).trans rfl, zz_1 rfl tl_X12_zoned, zz_1 rfl tl_X12_zoned, zz_1 rfl tl_X12_zoned, zz_1 rfl tl_X12_zoned, zz_1 rfl tl_X12_zoned, zz_1 rfl tl_X12_zoned, zz_1 rfl tl_X12_zoned, zz_1 rfl tl_X12_zoned, zz_1 rfl tl_X12_zoned, zz_1 rfl tl_X12_zoned, zz_1 rfl tl_X12_zoned⟩
set_option maxRecDepth 100000 in
theorem e_X12_zoned_5 : (∀ L st M, zz_ev tX12_zoned 5 L st M = zo_iload 4 7 (zz_ev tX12_zoned) L st M) := zz_1 rfl tl_X12_zoned
set_option maxRecDepth 100000 in
theorem s_X12_zoned (a0 a1 : Int32) (v : Nat) (M : zzMd) : fX12_zoned [.ref v, .int a0, .int a1] M = zz_ev tX12_zoned 0 [some (.ref v), some (.int a0), some (.int a1), none, none, none, none] [] M := rfl
set_option maxRecDepth 100000 in
theorem e_X12_nodeFor : (∀ L st M, zz_ev tX12_nodeFor 0 L st M = zo_pushI (-1) 1 (zz_ev tX12_nodeFor) L st M) ∧
  (∀ L st M, zz_ev tX12_nodeFor 1 L st M = zo_istore 2 2 (zz_ev tX12_nodeFor) L st M) ∧
  (∀ L st M, zz_ev tX12_nodeFor 2 L st M = zo_pushI 0 3 (zz_ev tX12_nodeFor) L st M) ∧
  (∀ L st M, zz_ev tX12_nodeFor 3 L st M = zo_istore 3 4 (zz_ev tX12_nodeFor) L st M) ∧
  (∀ L st M, zz_ev tX12_nodeFor 4 L st M = zo_pushI 0 5 (zz_ev tX12_nodeFor) L st M) ∧
  (∀ L st M, zz_ev tX12_nodeFor 5 L st M = zo_istore 4 7 (zz_ev tX12_nodeFor) L st M) ∧
  (∀ L st M, zz_ev tX12_nodeFor 7 L st M = zo_pushI 0 8 (zz_ev tX12_nodeFor) L st M) ∧
  (∀ L st M, zz_ev tX12_nodeFor 8 L st M = zo_istore 5 10 (zz_ev tX12_nodeFor) L st M) ∧
  (∀ L st M, zz_ev tX12_nodeFor 12 L st M = zo_aload 0 13 (zz_ev tX12_nodeFor) L st M) ∧
  (∀ (L : zzLc) (r : List Value) (M : zzMd), zz_ev tX12_nodeFor 13 L (.ref 0 :: r) M = zz_ev tX12_nodeFor 16 L (.int (M.1 0 5) :: r) M) ∧
  (∀ L st M, zz_ev tX12_nodeFor 16 L st M = zo_icmp (fun x y => decide (y ≤ x)) 163 19 (zz_ev tX12_nodeFor) L st M) ∧
  (∀ L st M, zz_ev tX12_nodeFor 19 L st M = zo_aload 0 20 (zz_ev tX12_nodeFor) L st M) ∧
  (∀ L st M, zz_ev tX12_nodeFor 20 L st M = zo_iload 5 22 (zz_ev tX12_nodeFor) L st M) ∧
  (∀ (L : zzLc) (a0 : Int32) (r : List Value) (M : zzMd), zz_ev tX12_nodeFor 22 L (.int a0 :: .ref 0 :: r) M = bif zz_cat8 r then zz_backN (zz_ev tX12_nodeFor) 25 L r (fX12_isUsable [.ref 0, .int a0] M) else none) ∧
  (∀ L st M, zz_ev tX12_nodeFor 25 L st M = zo_if (fun x => decide (x = 0)) 47 28 (zz_ev tX12_nodeFor) L st M) ∧
  (∀ L st M, zz_ev tX12_nodeFor 28 L st M = zo_aload 0 29 (zz_ev tX12_nodeFor) L st M) ∧
  (∀ L st M, zz_ev tX12_nodeFor 29 L st M = zo_iload 5 31 (zz_ev tX12_nodeFor) L st M) ∧
  (∀ L st M, zz_ev tX12_nodeFor 31 L st M = zo_pushI 7 33 (zz_ev tX12_nodeFor) L st M) ∧
  (∀ (L : zzLc) (a0 a1 : Int32) (r : List Value) (M : zzMd), zz_ev tX12_nodeFor 33 L (.int a1 :: .int a0 :: .ref 0 :: r) M = bif zz_cat8 r then zz_backN (zz_ev tX12_nodeFor) 36 L r (fX12_viewed [.ref 0, .int a0, .int a1] M) else none) ∧
  (∀ L st M, zz_ev tX12_nodeFor 36 L st M = zo_aload 0 37 (zz_ev tX12_nodeFor) L st M) ∧
  (∀ L st M, zz_ev tX12_nodeFor 37 L st M = zo_iload 5 39 (zz_ev tX12_nodeFor) L st M) ∧
  (∀ L st M, zz_ev tX12_nodeFor 39 L st M = zo_pushI 0 40 (zz_ev tX12_nodeFor) L st M) ∧
  (∀ (L : zzLc) (a0 a1 : Int32) (r : List Value) (M : zzMd), zz_ev tX12_nodeFor 40 L (.int a1 :: .int a0 :: .ref 0 :: r) M = bif zz_cat8 r then zz_backN (zz_ev tX12_nodeFor) 43 L r (fX12_used [.ref 0, .int a0, .int a1] M) else none) ∧
  (∀ L st M, zz_ev tX12_nodeFor 43 L st M = zo_ii (fun x y => x - y) 44 (zz_ev tX12_nodeFor) L st M) ∧
  (∀ L st M, zz_ev tX12_nodeFor 44 L st M = zo_goto 48 (zz_ev tX12_nodeFor) L st M) ∧
  (∀ L st M, zz_ev tX12_nodeFor 47 L st M = zo_pushI 0 48 (zz_ev tX12_nodeFor) L st M) ∧
  (∀ L st M, zz_ev tX12_nodeFor 48 L st M = zo_istore 6 50 (zz_ev tX12_nodeFor) L st M) ∧
  (∀ L st M, zz_ev tX12_nodeFor 50 L st M = zo_aload 0 51 (zz_ev tX12_nodeFor) L st M) ∧
  (∀ L st M, zz_ev tX12_nodeFor 51 L st M = zo_iload 5 53 (zz_ev tX12_nodeFor) L st M) ∧
  (∀ (L : zzLc) (a0 : Int32) (r : List Value) (M : zzMd), zz_ev tX12_nodeFor 53 L (.int a0 :: .ref 0 :: r) M = bif zz_cat8 r then zz_backN (zz_ev tX12_nodeFor) 56 L r (fX12_isUsable [.ref 0, .int a0] M) else none) ∧
  (∀ L st M, zz_ev tX12_nodeFor 56 L st M = zo_if (fun x => decide (x = 0)) 157 59 (zz_ev tX12_nodeFor) L st M) ∧
  (∀ L st M, zz_ev tX12_nodeFor 59 L st M = zo_iload 6 61 (zz_ev tX12_nodeFor) L st M) ∧
  (∀ L st M, zz_ev tX12_nodeFor 61 L st M = zo_aload 0 62 (zz_ev tX12_nodeFor) L st M) ∧
  (∀ L st M, zz_ev tX12_nodeFor 62 L st M = zo_iload 1 63 (zz_ev tX12_nodeFor) L st M) ∧
  (∀ L st M, zz_ev tX12_nodeFor 63 L st M = zo_pushI 1 64 (zz_ev tX12_nodeFor) L st M) ∧
  (∀ (L : zzLc) (a0 a1 : Int32) (r : List Value) (M : zzMd), zz_ev tX12_nodeFor 64 L (.int a1 :: .int a0 :: .ref 0 :: r) M = bif zz_cat8 r then zz_backN (zz_ev tX12_nodeFor) 67 L r (fX12_viewed [.ref 0, .int a0, .int a1] M) else none) ∧
  (∀ (L : zzLc) (a0 : Int32) (r : List Value) (M : zzMd), zz_ev tX12_nodeFor 67 L (.int a0 :: r) M = bif zz_cat8 r then zz_backN (zz_ev tX12_nodeFor) 70 L r (fX12_need [.int a0] M) else none) ∧
  (∀ L st M, zz_ev tX12_nodeFor 70 L st M = zo_icmp (fun x y => decide (x < y)) 157 73 (zz_ev tX12_nodeFor) L st M) ∧
  (∀ L st M, zz_ev tX12_nodeFor 73 L st M = zo_aload 0 74 (zz_ev tX12_nodeFor) L st M) ∧
  (∀ L st M, zz_ev tX12_nodeFor 74 L st M = zo_iload 1 75 (zz_ev tX12_nodeFor) L st M) ∧
  (∀ L st M, zz_ev tX12_nodeFor 75 L st M = zo_aload 0 76 (zz_ev tX12_nodeFor) L st M) ∧
  (∀ L st M, zz_ev tX12_nodeFor 76 L st M = zo_iload 5 78 (zz_ev tX12_nodeFor) L st M) ∧
  (∀ L st M, zz_ev tX12_nodeFor 78 L st M = zo_pushI 8 80 (zz_ev tX12_nodeFor) L st M) ∧
  (∀ (L : zzLc) (a0 a1 : Int32) (r : List Value) (M : zzMd), zz_ev tX12_nodeFor 80 L (.int a1 :: .int a0 :: .ref 0 :: r) M = bif zz_cat8 r then zz_backN (zz_ev tX12_nodeFor) 83 L r (fX12_viewed [.ref 0, .int a0, .int a1] M) else none) ∧
  (∀ (L : zzLc) (a0 a1 : Int32) (r : List Value) (M : zzMd), zz_ev tX12_nodeFor 83 L (.int a1 :: .int a0 :: .ref 0 :: r) M = bif zz_cat8 r then zz_backN (zz_ev tX12_nodeFor) 86 L r (fX12_zoned [.ref 0, .int a0, .int a1] M) else none) ∧
  (∀ L st M, zz_ev tX12_nodeFor 86 L st M = zo_istore 7 88 (zz_ev tX12_nodeFor) L st M) ∧
  (∀ L st M, zz_ev tX12_nodeFor 88 L st M = zo_iload 2 89 (zz_ev tX12_nodeFor) L st M) ∧
  (∀ L st M, zz_ev tX12_nodeFor 89 L st M = zo_pushI (-1) 90 (zz_ev tX12_nodeFor) L st M) ∧
  (∀ L st M, zz_ev tX12_nodeFor 90 L st M = zo_icmp (fun x y => decide (x = y)) 112 93 (zz_ev tX12_nodeFor) L st M) ∧
  (∀ L st M, zz_ev tX12_nodeFor 93 L st M = zo_iload 7 95 (zz_ev tX12_nodeFor) L st M) ∧
  (∀ L st M, zz_ev tX12_nodeFor 95 L st M = zo_iload 3 96 (zz_ev tX12_nodeFor) L st M) ∧
  (∀ L st M, zz_ev tX12_nodeFor 96 L st M = zo_icmp (fun x y => decide (x < y)) 112 99 (zz_ev tX12_nodeFor) L st M) ∧
  (∀ L st M, zz_ev tX12_nodeFor 99 L st M = zo_iload 7 101 (zz_ev tX12_nodeFor) L st M) ∧
  (∀ L st M, zz_ev tX12_nodeFor 101 L st M = zo_iload 3 102 (zz_ev tX12_nodeFor) L st M) ∧
  (∀ L st M, zz_ev tX12_nodeFor 102 L st M = zo_icmp (fun x y => decide (¬ x = y)) 116 105 (zz_ev tX12_nodeFor) L st M) ∧
  (∀ L st M, zz_ev tX12_nodeFor 105 L st M = zo_iload 6 107 (zz_ev tX12_nodeFor) L st M) ∧
  (∀ L st M, zz_ev tX12_nodeFor 107 L st M = zo_iload 4 109 (zz_ev tX12_nodeFor) L st M) ∧
  (∀ L st M, zz_ev tX12_nodeFor 109 L st M = zo_icmp (fun x y => decide (x ≤ y)) 116 112 (zz_ev tX12_nodeFor) L st M) ∧
  (∀ L st M, zz_ev tX12_nodeFor 112 L st M = zo_pushI 1 113 (zz_ev tX12_nodeFor) L st M) ∧
  (∀ L st M, zz_ev tX12_nodeFor 113 L st M = zo_goto 117 (zz_ev tX12_nodeFor) L st M) ∧
  (∀ L st M, zz_ev tX12_nodeFor 116 L st M = zo_pushI 0 117 (zz_ev tX12_nodeFor) L st M) ∧
  (∀ L st M, zz_ev tX12_nodeFor 117 L st M = zo_istore 8 119 (zz_ev tX12_nodeFor) L st M) ∧
  (∀ L st M, zz_ev tX12_nodeFor 119 L st M = zo_iload 8 121 (zz_ev tX12_nodeFor) L st M) ∧
  (∀ L st M, zz_ev tX12_nodeFor 121 L st M = zo_if (fun x => decide (x = 0)) 129 124 (zz_ev tX12_nodeFor) L st M) ∧
  (∀ L st M, zz_ev tX12_nodeFor 124 L st M = zo_iload 5 126 (zz_ev tX12_nodeFor) L st M) ∧
  (∀ L st M, zz_ev tX12_nodeFor 126 L st M = zo_goto 130 (zz_ev tX12_nodeFor) L st M) ∧
  (∀ L st M, zz_ev tX12_nodeFor 129 L st M = zo_iload 2 130 (zz_ev tX12_nodeFor) L st M) ∧
  (∀ L st M, zz_ev tX12_nodeFor 130 L st M = zo_istore 2 131 (zz_ev tX12_nodeFor) L st M) ∧
  (∀ L st M, zz_ev tX12_nodeFor 131 L st M = zo_iload 8 133 (zz_ev tX12_nodeFor) L st M) ∧
  (∀ L st M, zz_ev tX12_nodeFor 133 L st M = zo_if (fun x => decide (x = 0)) 141 136 (zz_ev tX12_nodeFor) L st M) ∧
  (∀ L st M, zz_ev tX12_nodeFor 136 L st M = zo_iload 7 138 (zz_ev tX12_nodeFor) L st M) ∧
  (∀ L st M, zz_ev tX12_nodeFor 138 L st M = zo_goto 142 (zz_ev tX12_nodeFor) L st M) ∧
  (∀ L st M, zz_ev tX12_nodeFor 141 L st M = zo_iload 3 142 (zz_ev tX12_nodeFor) L st M) ∧
  (∀ L st M, zz_ev tX12_nodeFor 142 L st M = zo_istore 3 143 (zz_ev tX12_nodeFor) L st M) ∧
  (∀ L st M, zz_ev tX12_nodeFor 143 L st M = zo_iload 8 145 (zz_ev tX12_nodeFor) L st M) ∧
  (∀ L st M, zz_ev tX12_nodeFor 145 L st M = zo_if (fun x => decide (x = 0)) 153 148 (zz_ev tX12_nodeFor) L st M) ∧
  (∀ L st M, zz_ev tX12_nodeFor 148 L st M = zo_iload 6 150 (zz_ev tX12_nodeFor) L st M) ∧
  (∀ L st M, zz_ev tX12_nodeFor 150 L st M = zo_goto 155 (zz_ev tX12_nodeFor) L st M) ∧
  (∀ L st M, zz_ev tX12_nodeFor 153 L st M = zo_iload 4 155 (zz_ev tX12_nodeFor) L st M) ∧
  (∀ L st M, zz_ev tX12_nodeFor 155 L st M = zo_istore 4 157 (zz_ev tX12_nodeFor) L st M) ∧
  (∀ L st M, zz_ev tX12_nodeFor 157 L st M = zo_iinc 5 1 160 (zz_ev tX12_nodeFor) L st M) ∧
  (∀ L st M, zz_ev tX12_nodeFor 160 L st M = zo_goto 10 (zz_ev tX12_nodeFor) L st M) ∧
  (∀ L st M, zz_ev tX12_nodeFor 163 L st M = zo_iload 2 164 (zz_ev tX12_nodeFor) L st M) ∧
  (∀ L st M, zz_ev tX12_nodeFor 164 L st M = zo_iret false (zz_ev tX12_nodeFor) L st M) :=
  ⟨zz_1 rfl tl_X12_nodeFor, zz_1 rfl tl_X12_nodeFor, zz_1 rfl tl_X12_nodeFor, zz_1 rfl tl_X12_nodeFor, zz_1 rfl tl_X12_nodeFor, zz_1 rfl tl_X12_nodeFor, zz_1 rfl tl_X12_nodeFor, zz_1 rfl tl_X12_nodeFor, zz_1 rfl tl_X12_nodeFor, fun L r M => (zz_1 rfl tl_X12_nodeFor _ _ _).trans rfl, zz_1 rfl tl_X12_nodeFor, zz_1 rfl tl_X12_nodeFor, zz_1 rfl tl_X12_nodeFor, fun L a0 r M => (zz_1 rfl tl_X12_nodeFor _ _ _).trans rfl, zz_1 rfl tl_X12_nodeFor, zz_1 rfl tl_X12_nodeFor, zz_1 rfl tl_X12_nodeFor, zz_1 rfl tl_X12_nodeFor, fun L a0 a1 r M => (zz_1 rfl tl_X12_nodeFor _ _ _).trans rfl, zz_1 rfl tl_X12_nodeFor, zz_1 rfl tl_X12_nodeFor, zz_1 rfl tl_X12_nodeFor, fun L a0 a1 r M => (zz_1 rfl tl_X12_nodeFor _ _ _).trans rfl, zz_1 rfl tl_X12_nodeFor, zz_1 rfl tl_X12_nodeFor, zz_1 rfl tl_X12_nodeFor, zz_1 rfl tl_X12_nodeFor, zz_1 rfl tl_X12_nodeFor, zz_1 rfl tl_X12_nodeFor, fun L a0 r M => (zz_1 rfl tl_X12_nodeFor _ _ _).trans rfl, zz_1 rfl tl_X12_nodeFor, zz_1 rfl tl_X12_nodeFor, zz_1 rfl tl_X12_nodeFor, zz_1 rfl tl_X12_nodeFor, zz_1 rfl tl_X12_nodeFor, fun L a0 a1 r M => (zz_1 rfl tl_X12_nodeFor _ _ _).trans rfl, fun L a0 r M => (zz_1 rfl tl_X12_nodeFor _ _ _).trans rfl, zz_1 rfl tl_X12_nodeFor, zz_1 rfl tl_X12_nodeFor, zz_1 rfl tl_X12_nodeFor, zz_1 rfl tl_X12_nodeFor, zz_1 rfl tl_X12_nodeFor, zz_1 rfl tl_X12_nodeFor, fun L a0 a1 r M => (zz_1 rfl tl_X12_nodeFor _ _ _).trans rfl, fun L a0 a1 r M => (zz_1 rfl tl_X12_nodeFor _ _ _).trans rfl, zz_1 rfl tl_X12_nodeFor, zz_1 rfl tl_X12_nodeFor, zz_1 rfl tl_X12_nodeFor, zz_1 rfl tl_X12_nodeFor, zz_1 rfl tl_X12_nodeFor, zz_1 rfl tl_X12_nodeFor, zz_1 rfl tl_X12_nodeFor, zz_1 rfl tl_X12_nodeFor, zz_1 rfl tl_X12_nodeFor, zz_1 rfl tl_X12_nodeFor, zz_1 rfl tl_X12_nodeFor, zz_1 rfl tl_X12_nodeFor, zz_1 rfl tl_X12_nodeFor, zz_1 rfl tl_X12_nodeFor, zz_1 rfl tl_X12_nodeFor, zz_1 rfl tl_X12_nodeFor, zz_1 rfl tl_X12_nodeFor, zz_1 rfl tl_X12_nodeFor, zz_1 rfl tl_X12_nodeFor, zz_1 rfl tl_X12_nodeFor, zz_1 rfl tl_X12_nodeFor, zz_1 rfl tl_X12_nodeFor, zz_1 rfl tl_X12_nodeFor, zz_1 rfl tl_X12_nodeFor, zz_1 rfl tl_X12_nodeFor, zz_1 rfl tl_X12_nodeFor, zz_1 rfl tl_X12_nodeFor, zz_1 rfl tl_X12_nodeFor, zz_1 rfl tl_X12_nodeFor, zz_1 rfl tl_X12_nodeFor, zz_1 rfl tl_X12_nodeFor, zz_1 rfl tl_X12_nodeFor, zz_1 rfl tl_X12_nodeFor, zz_1 rfl tl_X12_nodeFor, zz_1 rfl tl_X12_nodeFor, zz_1 rfl tl_X12_nodeFor, zz_1 rfl tl_X12_nodeFor, zz_1 rfl tl_X12_nodeFor, zz_1 rfl tl_X12_nodeFor⟩
set_option maxRecDepth 100000 in
theorem e_X12_nodeFor_10 : (∀ L st M, zz_ev tX12_nodeFor 10 L st M = zo_iload 5 12 (zz_ev tX12_nodeFor) L st M) := zz_1 rfl tl_X12_nodeFor
set_option maxRecDepth 100000 in
theorem s_X12_nodeFor (a0 : Int32) (v : Nat) (M : zzMd) : fX12_nodeFor [.ref v, .int a0] M = zz_ev tX12_nodeFor 0 [some (.ref v), some (.int a0), none, none, none, none, none, none, none] [] M := rfl
set_option maxRecDepth 100000 in
theorem e_X12_laysVictims : (∀ L st M, zz_ev tX12_laysVictims 0 L st M = zo_aload 0 1 (zz_ev tX12_laysVictims) L st M) ∧
  (∀ L st M, zz_ev tX12_laysVictims 1 L st M = zo_iload 1 2 (zz_ev tX12_laysVictims) L st M) ∧
  (∀ L st M, zz_ev tX12_laysVictims 2 L st M = zo_pushI 1 3 (zz_ev tX12_laysVictims) L st M) ∧
  (∀ (L : zzLc) (a0 a1 : Int32) (r : List Value) (M : zzMd), zz_ev tX12_laysVictims 3 L (.int a1 :: .int a0 :: .ref 0 :: r) M = bif zz_cat8 r then zz_backN (zz_ev tX12_laysVictims) 6 L r (fX12_viewed [.ref 0, .int a0, .int a1] M) else none) ∧
  (∀ L st M, zz_ev tX12_laysVictims 6 L st M = zo_pushI 4 7 (zz_ev tX12_laysVictims) L st M) ∧
  (∀ L st M, zz_ev tX12_laysVictims 7 L st M = zo_iid (fun x y => x / y) 8 (zz_ev tX12_laysVictims) L st M) ∧
  (∀ L st M, zz_ev tX12_laysVictims 8 L st M = zo_istore 3 9 (zz_ev tX12_laysVictims) L st M) ∧
  (∀ L st M, zz_ev tX12_laysVictims 9 L st M = zo_aload 0 10 (zz_ev tX12_laysVictims) L st M) ∧
  (∀ L st M, zz_ev tX12_laysVictims 10 L st M = zo_iload 1 11 (zz_ev tX12_laysVictims) L st M) ∧
  (∀ L st M, zz_ev tX12_laysVictims 11 L st M = zo_pushI 1 12 (zz_ev tX12_laysVictims) L st M) ∧
  (∀ (L : zzLc) (a0 a1 : Int32) (r : List Value) (M : zzMd), zz_ev tX12_laysVictims 12 L (.int a1 :: .int a0 :: .ref 0 :: r) M = bif zz_cat8 r then zz_backN (zz_ev tX12_laysVictims) 15 L r (fX12_viewed [.ref 0, .int a0, .int a1] M) else none) ∧
  (∀ (L : zzLc) (a0 : Int32) (r : List Value) (M : zzMd), zz_ev tX12_laysVictims 15 L (.int a0 :: r) M = bif zz_cat8 r then zz_backN (zz_ev tX12_laysVictims) 18 L r (fX12_need [.int a0] M) else none) ∧
  (∀ L st M, zz_ev tX12_laysVictims 18 L st M = zo_aload 0 19 (zz_ev tX12_laysVictims) L st M) ∧
  (∀ L st M, zz_ev tX12_laysVictims 19 L st M = zo_iload 2 20 (zz_ev tX12_laysVictims) L st M) ∧
  (∀ L st M, zz_ev tX12_laysVictims 20 L st M = zo_pushI 7 22 (zz_ev tX12_laysVictims) L st M) ∧
  (∀ (L : zzLc) (a0 a1 : Int32) (r : List Value) (M : zzMd), zz_ev tX12_laysVictims 22 L (.int a1 :: .int a0 :: .ref 0 :: r) M = bif zz_cat8 r then zz_backN (zz_ev tX12_laysVictims) 25 L r (fX12_viewed [.ref 0, .int a0, .int a1] M) else none) ∧
  (∀ L st M, zz_ev tX12_laysVictims 25 L st M = zo_ii (fun x y => x - y) 26 (zz_ev tX12_laysVictims) L st M) ∧
  (∀ L st M, zz_ev tX12_laysVictims 26 L st M = zo_aload 0 27 (zz_ev tX12_laysVictims) L st M) ∧
  (∀ L st M, zz_ev tX12_laysVictims 27 L st M = zo_iload 2 28 (zz_ev tX12_laysVictims) L st M) ∧
  (∀ L st M, zz_ev tX12_laysVictims 28 L st M = zo_pushI 0 29 (zz_ev tX12_laysVictims) L st M) ∧
  (∀ (L : zzLc) (a0 a1 : Int32) (r : List Value) (M : zzMd), zz_ev tX12_laysVictims 29 L (.int a1 :: .int a0 :: .ref 0 :: r) M = bif zz_cat8 r then zz_backN (zz_ev tX12_laysVictims) 32 L r (fX12_used [.ref 0, .int a0, .int a1] M) else none) ∧
  (∀ L st M, zz_ev tX12_laysVictims 32 L st M = zo_ii (fun x y => x + y) 33 (zz_ev tX12_laysVictims) L st M) ∧
  (∀ L st M, zz_ev tX12_laysVictims 33 L st M = zo_istore 4 35 (zz_ev tX12_laysVictims) L st M) ∧
  (∀ L st M, zz_ev tX12_laysVictims 35 L st M = zo_pushI 0 36 (zz_ev tX12_laysVictims) L st M) ∧
  (∀ L st M, zz_ev tX12_laysVictims 36 L st M = zo_istore 5 38 (zz_ev tX12_laysVictims) L st M) ∧
  (∀ L st M, zz_ev tX12_laysVictims 38 L st M = zo_pushI 0 39 (zz_ev tX12_laysVictims) L st M) ∧
  (∀ L st M, zz_ev tX12_laysVictims 39 L st M = zo_istore 6 41 (zz_ev tX12_laysVictims) L st M) ∧
  (∀ L st M, zz_ev tX12_laysVictims 43 L st M = zo_iload 3 44 (zz_ev tX12_laysVictims) L st M) ∧
  (∀ L st M, zz_ev tX12_laysVictims 44 L st M = zo_icmp (fun x y => decide (y ≤ x)) 166 47 (zz_ev tX12_laysVictims) L st M) ∧
  (∀ L st M, zz_ev tX12_laysVictims 47 L st M = zo_aload 0 48 (zz_ev tX12_laysVictims) L st M) ∧
  (∀ (L : zzLc) (r : List Value) (M : zzMd), zz_ev tX12_laysVictims 48 L (.ref 0 :: r) M = zz_ev tX12_laysVictims 51 L (.int (M.1 0 5) :: r) M) ∧
  (∀ L st M, zz_ev tX12_laysVictims 51 L st M = zo_pushI 1 52 (zz_ev tX12_laysVictims) L st M) ∧
  (∀ L st M, zz_ev tX12_laysVictims 52 L st M = zo_ii (fun x y => x - y) 53 (zz_ev tX12_laysVictims) L st M) ∧
  (∀ L st M, zz_ev tX12_laysVictims 53 L st M = zo_istore 7 55 (zz_ev tX12_laysVictims) L st M) ∧
  (∀ L st M, zz_ev tX12_laysVictims 57 L st M = zo_if (fun x => decide (x < 0)) 160 60 (zz_ev tX12_laysVictims) L st M) ∧
  (∀ L st M, zz_ev tX12_laysVictims 60 L st M = zo_iload 4 62 (zz_ev tX12_laysVictims) L st M) ∧
  (∀ L st M, zz_ev tX12_laysVictims 62 L st M = zo_if (fun x => decide (x ≤ 0)) 160 65 (zz_ev tX12_laysVictims) L st M) ∧
  (∀ L st M, zz_ev tX12_laysVictims 65 L st M = zo_aload 0 66 (zz_ev tX12_laysVictims) L st M) ∧
  (∀ L st M, zz_ev tX12_laysVictims 66 L st M = zo_iload 7 68 (zz_ev tX12_laysVictims) L st M) ∧
  (∀ L st M, zz_ev tX12_laysVictims 68 L st M = zo_pushI 2 69 (zz_ev tX12_laysVictims) L st M) ∧
  (∀ (L : zzLc) (a0 a1 : Int32) (r : List Value) (M : zzMd), zz_ev tX12_laysVictims 69 L (.int a1 :: .int a0 :: .ref 0 :: r) M = bif zz_cat8 r then zz_backN (zz_ev tX12_laysVictims) 72 L r (fX12_stays [.ref 0, .int a0, .int a1] M) else none) ∧
  (∀ L st M, zz_ev tX12_laysVictims 72 L st M = zo_if (fun x => decide (x = 0)) 119 75 (zz_ev tX12_laysVictims) L st M) ∧
  (∀ L st M, zz_ev tX12_laysVictims 75 L st M = zo_aload 0 76 (zz_ev tX12_laysVictims) L st M) ∧
  (∀ L st M, zz_ev tX12_laysVictims 76 L st M = zo_iload 7 78 (zz_ev tX12_laysVictims) L st M) ∧
  (∀ L st M, zz_ev tX12_laysVictims 78 L st M = zo_pushI 15 80 (zz_ev tX12_laysVictims) L st M) ∧
  (∀ (L : zzLc) (a0 a1 : Int32) (r : List Value) (M : zzMd), zz_ev tX12_laysVictims 80 L (.int a1 :: .int a0 :: .ref 0 :: r) M = bif zz_cat8 r then zz_backN (zz_ev tX12_laysVictims) 83 L r (fX12_viewed [.ref 0, .int a0, .int a1] M) else none) ∧
  (∀ L st M, zz_ev tX12_laysVictims 83 L st M = zo_iload 2 84 (zz_ev tX12_laysVictims) L st M) ∧
  (∀ L st M, zz_ev tX12_laysVictims 84 L st M = zo_pushI 1 85 (zz_ev tX12_laysVictims) L st M) ∧
  (∀ L st M, zz_ev tX12_laysVictims 85 L st M = zo_ii (fun x y => x + y) 86 (zz_ev tX12_laysVictims) L st M) ∧
  (∀ L st M, zz_ev tX12_laysVictims 86 L st M = zo_icmp (fun x y => decide (¬ x = y)) 119 89 (zz_ev tX12_laysVictims) L st M) ∧
  (∀ L st M, zz_ev tX12_laysVictims 89 L st M = zo_aload 0 90 (zz_ev tX12_laysVictims) L st M) ∧
  (∀ L st M, zz_ev tX12_laysVictims 90 L st M = zo_iload 7 92 (zz_ev tX12_laysVictims) L st M) ∧
  (∀ L st M, zz_ev tX12_laysVictims 92 L st M = zo_pushI 16 94 (zz_ev tX12_laysVictims) L st M) ∧
  (∀ (L : zzLc) (a0 a1 : Int32) (r : List Value) (M : zzMd), zz_ev tX12_laysVictims 94 L (.int a1 :: .int a0 :: .ref 0 :: r) M = bif zz_cat8 r then zz_backN (zz_ev tX12_laysVictims) 97 L r (fX12_viewed [.ref 0, .int a0, .int a1] M) else none) ∧
  (∀ L st M, zz_ev tX12_laysVictims 97 L st M = zo_pushI 1 98 (zz_ev tX12_laysVictims) L st M) ∧
  (∀ L st M, zz_ev tX12_laysVictims 98 L st M = zo_icmp (fun x y => decide (y < x)) 119 101 (zz_ev tX12_laysVictims) L st M) ∧
  (∀ L st M, zz_ev tX12_laysVictims 101 L st M = zo_aload 0 102 (zz_ev tX12_laysVictims) L st M) ∧
  (∀ L st M, zz_ev tX12_laysVictims 102 L st M = zo_iload 7 104 (zz_ev tX12_laysVictims) L st M) ∧
  (∀ L st M, zz_ev tX12_laysVictims 104 L st M = zo_pushI 1 105 (zz_ev tX12_laysVictims) L st M) ∧
  (∀ (L : zzLc) (a0 a1 : Int32) (r : List Value) (M : zzMd), zz_ev tX12_laysVictims 105 L (.int a1 :: .int a0 :: .ref 0 :: r) M = bif zz_cat8 r then zz_backN (zz_ev tX12_laysVictims) 108 L r (fX12_viewed [.ref 0, .int a0, .int a1] M) else none) ∧
  (∀ L st M, zz_ev tX12_laysVictims 108 L st M = zo_pushI 4 109 (zz_ev tX12_laysVictims) L st M) ∧
  (∀ L st M, zz_ev tX12_laysVictims 109 L st M = zo_iid (fun x y => x / y) 110 (zz_ev tX12_laysVictims) L st M) ∧
  (∀ L st M, zz_ev tX12_laysVictims 110 L st M = zo_iload 6 112 (zz_ev tX12_laysVictims) L st M) ∧
  (∀ L st M, zz_ev tX12_laysVictims 112 L st M = zo_icmp (fun x y => decide (¬ x = y)) 119 115 (zz_ev tX12_laysVictims) L st M) ∧
  (∀ L st M, zz_ev tX12_laysVictims 115 L st M = zo_pushI 1 116 (zz_ev tX12_laysVictims) L st M) ∧
  (∀ L st M, zz_ev tX12_laysVictims 116 L st M = zo_goto 120 (zz_ev tX12_laysVictims) L st M) ∧
  (∀ L st M, zz_ev tX12_laysVictims 119 L st M = zo_pushI 0 120 (zz_ev tX12_laysVictims) L st M) ∧
  (∀ L st M, zz_ev tX12_laysVictims 120 L st M = zo_istore 8 122 (zz_ev tX12_laysVictims) L st M) ∧
  (∀ L st M, zz_ev tX12_laysVictims 122 L st M = zo_iload 8 124 (zz_ev tX12_laysVictims) L st M) ∧
  (∀ L st M, zz_ev tX12_laysVictims 124 L st M = zo_if (fun x => decide (x = 0)) 154 127 (zz_ev tX12_laysVictims) L st M) ∧
  (∀ L st M, zz_ev tX12_laysVictims 127 L st M = zo_aload 0 128 (zz_ev tX12_laysVictims) L st M) ∧
  (∀ (L : zzLc) (r : List Value) (M : zzMd), zz_ev tX12_laysVictims 128 L (.ref 0 :: r) M = zz_ev tX12_laysVictims 131 L (.ref 36 :: r) M) ∧
  (∀ L st M, zz_ev tX12_laysVictims 131 L st M = zo_iload 5 133 (zz_ev tX12_laysVictims) L st M) ∧
  (∀ L st M, zz_ev tX12_laysVictims 133 L st M = zo_iload 7 135 (zz_ev tX12_laysVictims) L st M) ∧
  (∀ L st M, zz_ev tX12_laysVictims 135 L st M = zo_iast zzSR 136 (zz_ev tX12_laysVictims) L st M) ∧
  (∀ L st M, zz_ev tX12_laysVictims 136 L st M = zo_iinc 5 1 139 (zz_ev tX12_laysVictims) L st M) ∧
  (∀ L st M, zz_ev tX12_laysVictims 139 L st M = zo_iload 4 141 (zz_ev tX12_laysVictims) L st M) ∧
  (∀ L st M, zz_ev tX12_laysVictims 141 L st M = zo_aload 0 142 (zz_ev tX12_laysVictims) L st M) ∧
  (∀ L st M, zz_ev tX12_laysVictims 142 L st M = zo_iload 7 144 (zz_ev tX12_laysVictims) L st M) ∧
  (∀ L st M, zz_ev tX12_laysVictims 144 L st M = zo_pushI 1 145 (zz_ev tX12_laysVictims) L st M) ∧
  (∀ (L : zzLc) (a0 a1 : Int32) (r : List Value) (M : zzMd), zz_ev tX12_laysVictims 145 L (.int a1 :: .int a0 :: .ref 0 :: r) M = bif zz_cat8 r then zz_backN (zz_ev tX12_laysVictims) 148 L r (fX12_viewed [.ref 0, .int a0, .int a1] M) else none) ∧
  (∀ (L : zzLc) (a0 : Int32) (r : List Value) (M : zzMd), zz_ev tX12_laysVictims 148 L (.int a0 :: r) M = bif zz_cat8 r then zz_backN (zz_ev tX12_laysVictims) 151 L r (fX12_need [.int a0] M) else none) ∧
  (∀ L st M, zz_ev tX12_laysVictims 151 L st M = zo_ii (fun x y => x - y) 152 (zz_ev tX12_laysVictims) L st M) ∧
  (∀ L st M, zz_ev tX12_laysVictims 152 L st M = zo_istore 4 154 (zz_ev tX12_laysVictims) L st M) ∧
  (∀ L st M, zz_ev tX12_laysVictims 154 L st M = zo_iinc 7 (-1) 157 (zz_ev tX12_laysVictims) L st M) ∧
  (∀ L st M, zz_ev tX12_laysVictims 157 L st M = zo_goto 55 (zz_ev tX12_laysVictims) L st M) ∧
  (∀ L st M, zz_ev tX12_laysVictims 160 L st M = zo_iinc 6 1 163 (zz_ev tX12_laysVictims) L st M) ∧
  (∀ L st M, zz_ev tX12_laysVictims 163 L st M = zo_goto 41 (zz_ev tX12_laysVictims) L st M) ∧
  (∀ L st M, zz_ev tX12_laysVictims 166 L st M = zo_iload 4 168 (zz_ev tX12_laysVictims) L st M) ∧
  (∀ L st M, zz_ev tX12_laysVictims 168 L st M = zo_if (fun x => decide (x ≤ 0)) 175 171 (zz_ev tX12_laysVictims) L st M) ∧
  (∀ L st M, zz_ev tX12_laysVictims 171 L st M = zo_pushI (-1) 172 (zz_ev tX12_laysVictims) L st M) ∧
  (∀ L st M, zz_ev tX12_laysVictims 172 L st M = zo_goto 177 (zz_ev tX12_laysVictims) L st M) ∧
  (∀ L st M, zz_ev tX12_laysVictims 175 L st M = zo_iload 5 177 (zz_ev tX12_laysVictims) L st M) ∧
  (∀ L st M, zz_ev tX12_laysVictims 177 L st M = zo_iret false (zz_ev tX12_laysVictims) L st M) :=
  ⟨zz_1 rfl tl_X12_laysVictims, zz_1 rfl tl_X12_laysVictims, zz_1 rfl tl_X12_laysVictims, fun L a0 a1 r M => (zz_1 rfl tl_X12_laysVictims _ _ _).trans rfl, zz_1 rfl tl_X12_laysVictims, zz_1 rfl tl_X12_laysVictims, zz_1 rfl tl_X12_laysVictims, zz_1 rfl tl_X12_laysVictims, zz_1 rfl tl_X12_laysVictims, zz_1 rfl tl_X12_laysVictims, fun L a0 a1 r M => (zz_1 rfl tl_X12_laysVictims _ _ _).trans rfl, fun L a0 r M => (zz_1 rfl tl_X12_laysVictims _ _ _).trans rfl, zz_1 rfl tl_X12_laysVictims, zz_1 rfl tl_X12_laysVictims, zz_1 rfl tl_X12_laysVictims, fun L a0 a1 r M => (zz_1 rfl tl_X12_laysVictims _ _ _).trans rfl, zz_1 rfl tl_X12_laysVictims, zz_1 rfl tl_X12_laysVictims, zz_1 rfl tl_X12_laysVictims, zz_1 rfl tl_X12_laysVictims, fun L a0 a1 r M => (zz_1 rfl tl_X12_laysVictims _ _ _).trans rfl, zz_1 rfl tl_X12_laysVictims, zz_1 rfl tl_X12_laysVictims, zz_1 rfl tl_X12_laysVictims, zz_1 rfl tl_X12_laysVictims, zz_1 rfl tl_X12_laysVictims, zz_1 rfl tl_X12_laysVictims, zz_1 rfl tl_X12_laysVictims, zz_1 rfl tl_X12_laysVictims, zz_1 rfl tl_X12_laysVictims, fun L r M => (zz_1 rfl tl_X12_laysVictims _ _ _).trans rfl, zz_1 rfl tl_X12_laysVictims, zz_1 rfl tl_X12_laysVictims, zz_1 rfl tl_X12_laysVictims, zz_1 rfl tl_X12_laysVictims, zz_1 rfl tl_X12_laysVictims, zz_1 rfl tl_X12_laysVictims, zz_1 rfl tl_X12_laysVictims, zz_1 rfl tl_X12_laysVictims, zz_1 rfl tl_X12_laysVictims, fun L a0 a1 r M => (zz_1 rfl tl_X12_laysVictims _ _ _).trans rfl, zz_1 rfl tl_X12_laysVictims, zz_1 rfl tl_X12_laysVictims, zz_1 rfl tl_X12_laysVictims, zz_1 rfl tl_X12_laysVictims, fun L a0 a1 r M => (zz_1 rfl tl_X12_laysVictims _ _ _).trans rfl, zz_1 rfl tl_X12_laysVictims, zz_1 rfl tl_X12_laysVictims, zz_1 rfl tl_X12_laysVictims, zz_1 rfl tl_X12_laysVictims, zz_1 rfl tl_X12_laysVictims, zz_1 rfl tl_X12_laysVictims, zz_1 rfl tl_X12_laysVictims, fun L a0 a1 r M => (zz_1 rfl tl_X12_laysVictims _ _ _).trans rfl, zz_1 rfl tl_X12_laysVictims, zz_1 rfl tl_X12_laysVictims, zz_1 rfl tl_X12_laysVictims, zz_1 rfl tl_X12_laysVictims, zz_1 rfl tl_X12_laysVictims, fun L a0 a1 r M => (zz_1 rfl tl_X12_laysVictims _ _ _).trans rfl, zz_1 rfl tl_X12_laysVictims, zz_1 rfl tl_X12_laysVictims, zz_1 rfl tl_X12_laysVictims, zz_1 rfl tl_X12_laysVictims, zz_1 rfl tl_X12_laysVictims, zz_1 rfl tl_X12_laysVictims, zz_1 rfl tl_X12_laysVictims, zz_1 rfl tl_X12_laysVictims, zz_1 rfl tl_X12_laysVictims, zz_1 rfl tl_X12_laysVictims, zz_1 rfl tl_X12_laysVictims, fun L r M => (zz_1 rfl tl_X12_laysVictims _ _ _).trans rfl, zz_1 rfl tl_X12_laysVictims, zz_1 rfl tl_X12_laysVictims, zz_1 rfl tl_X12_laysVictims, zz_1 rfl tl_X12_laysVictims, zz_1 rfl tl_X12_laysVictims, zz_1 rfl tl_X12_laysVictims, zz_1 rfl tl_X12_laysVictims, zz_1 rfl tl_X12_laysVictims, fun L a0 a1 r M => (zz_1 rfl tl_X12_laysVictims _ _ _).trans rfl, fun L a0 r M => (zz_1 rfl tl_X12_laysVictims _ _ _).trans rfl, zz_1 rfl tl_X12_laysVictims, zz_1 rfl tl_X12_laysVictims, zz_1 rfl tl_X12_laysVictims, zz_1 rfl tl_X12_laysVictims, zz_1 rfl tl_X12_laysVictims, zz_1 rfl tl_X12_laysVictims, zz_1 rfl tl_X12_laysVictims, zz_1 rfl tl_X12_laysVictims, zz_1 rfl tl_X12_laysVictims, zz_1 rfl tl_X12_laysVictims, zz_1 rfl tl_X12_laysVictims, zz_1 rfl tl_X12_laysVictims⟩
set_option maxRecDepth 100000 in
theorem e_X12_laysVictims_41 : (∀ L st M, zz_ev tX12_laysVictims 41 L st M = zo_iload 6 43 (zz_ev tX12_laysVictims) L st M) := zz_1 rfl tl_X12_laysVictims
set_option maxRecDepth 100000 in
theorem e_X12_laysVictims_55 : (∀ L st M, zz_ev tX12_laysVictims 55 L st M = zo_iload 7 57 (zz_ev tX12_laysVictims) L st M) := zz_1 rfl tl_X12_laysVictims
set_option maxRecDepth 100000 in
theorem s_X12_laysVictims (a0 a1 : Int32) (v : Nat) (M : zzMd) : fX12_laysVictims [.ref v, .int a0, .int a1] M = zz_ev tX12_laysVictims 0 [some (.ref v), some (.int a0), some (.int a1), none, none, none, none, none, none] [] M := rfl
set_option maxRecDepth 100000 in
theorem e_X12_preempts : (∀ L st M, zz_ev tX12_preempts 0 L st M = zo_pushI (-1) 1 (zz_ev tX12_preempts) L st M) ∧
  (∀ L st M, zz_ev tX12_preempts 1 L st M = zo_istore 2 2 (zz_ev tX12_preempts) L st M) ∧
  (∀ L st M, zz_ev tX12_preempts 2 L st M = zo_pushI 0 3 (zz_ev tX12_preempts) L st M) ∧
  (∀ L st M, zz_ev tX12_preempts 3 L st M = zo_istore 3 4 (zz_ev tX12_preempts) L st M) ∧
  (∀ L st M, zz_ev tX12_preempts 5 L st M = zo_aload 0 6 (zz_ev tX12_preempts) L st M) ∧
  (∀ (L : zzLc) (r : List Value) (M : zzMd), zz_ev tX12_preempts 6 L (.ref 0 :: r) M = zz_ev tX12_preempts 9 L (.int (M.1 0 5) :: r) M) ∧
  (∀ L st M, zz_ev tX12_preempts 9 L st M = zo_icmp (fun x y => decide (y ≤ x)) 88 12 (zz_ev tX12_preempts) L st M) ∧
  (∀ L st M, zz_ev tX12_preempts 12 L st M = zo_aload 0 13 (zz_ev tX12_preempts) L st M) ∧
  (∀ L st M, zz_ev tX12_preempts 13 L st M = zo_iload 3 14 (zz_ev tX12_preempts) L st M) ∧
  (∀ (L : zzLc) (a0 : Int32) (r : List Value) (M : zzMd), zz_ev tX12_preempts 14 L (.int a0 :: .ref 0 :: r) M = bif zz_cat8 r then zz_backN (zz_ev tX12_preempts) 17 L r (fX12_isUsable [.ref 0, .int a0] M) else none) ∧
  (∀ L st M, zz_ev tX12_preempts 17 L st M = zo_if (fun x => decide (x = 0)) 29 20 (zz_ev tX12_preempts) L st M) ∧
  (∀ L st M, zz_ev tX12_preempts 20 L st M = zo_aload 0 21 (zz_ev tX12_preempts) L st M) ∧
  (∀ L st M, zz_ev tX12_preempts 21 L st M = zo_iload 1 22 (zz_ev tX12_preempts) L st M) ∧
  (∀ L st M, zz_ev tX12_preempts 22 L st M = zo_iload 3 23 (zz_ev tX12_preempts) L st M) ∧
  (∀ (L : zzLc) (a0 a1 : Int32) (r : List Value) (M : zzMd), zz_ev tX12_preempts 23 L (.int a1 :: .int a0 :: .ref 0 :: r) M = bif zz_cat8 r then zz_backN (zz_ev tX12_preempts) 26 L r (fX12_laysVictims [.ref 0, .int a0, .int a1] M) else none) ∧
  (∀ L st M, zz_ev tX12_preempts 26 L st M = zo_goto 30 (zz_ev tX12_preempts) L st M) ∧
  (∀ L st M, zz_ev tX12_preempts 29 L st M = zo_pushI (-1) 30 (zz_ev tX12_preempts) L st M) ∧
  (∀ L st M, zz_ev tX12_preempts 30 L st M = zo_istore 4 32 (zz_ev tX12_preempts) L st M) ∧
  (∀ L st M, zz_ev tX12_preempts 32 L st M = zo_iload 4 34 (zz_ev tX12_preempts) L st M) ∧
  (∀ L st M, zz_ev tX12_preempts 34 L st M = zo_pushI (-1) 35 (zz_ev tX12_preempts) L st M) ∧
  (∀ L st M, zz_ev tX12_preempts 35 L st M = zo_icmp (fun x y => decide (x = y)) 82 38 (zz_ev tX12_preempts) L st M) ∧
  (∀ L st M, zz_ev tX12_preempts 38 L st M = zo_iload 2 39 (zz_ev tX12_preempts) L st M) ∧
  (∀ L st M, zz_ev tX12_preempts 39 L st M = zo_pushI (-1) 40 (zz_ev tX12_preempts) L st M) ∧
  (∀ L st M, zz_ev tX12_preempts 40 L st M = zo_icmp (fun x y => decide (x = y)) 49 43 (zz_ev tX12_preempts) L st M) ∧
  (∀ L st M, zz_ev tX12_preempts 43 L st M = zo_iload 4 45 (zz_ev tX12_preempts) L st M) ∧
  (∀ L st M, zz_ev tX12_preempts 45 L st M = zo_iload 2 46 (zz_ev tX12_preempts) L st M) ∧
  (∀ L st M, zz_ev tX12_preempts 46 L st M = zo_icmp (fun x y => decide (y ≤ x)) 82 49 (zz_ev tX12_preempts) L st M) ∧
  (∀ L st M, zz_ev tX12_preempts 49 L st M = zo_iload 4 51 (zz_ev tX12_preempts) L st M) ∧
  (∀ L st M, zz_ev tX12_preempts 51 L st M = zo_istore 2 52 (zz_ev tX12_preempts) L st M) ∧
  (∀ L st M, zz_ev tX12_preempts 52 L st M = zo_pushI 0 53 (zz_ev tX12_preempts) L st M) ∧
  (∀ L st M, zz_ev tX12_preempts 53 L st M = zo_istore 5 55 (zz_ev tX12_preempts) L st M) ∧
  (∀ L st M, zz_ev tX12_preempts 57 L st M = zo_iload 4 59 (zz_ev tX12_preempts) L st M) ∧
  (∀ L st M, zz_ev tX12_preempts 59 L st M = zo_icmp (fun x y => decide (y ≤ x)) 82 62 (zz_ev tX12_preempts) L st M) ∧
  (∀ L st M, zz_ev tX12_preempts 62 L st M = zo_aload 0 63 (zz_ev tX12_preempts) L st M) ∧
  (∀ (L : zzLc) (r : List Value) (M : zzMd), zz_ev tX12_preempts 63 L (.ref 0 :: r) M = zz_ev tX12_preempts 66 L (.ref 37 :: r) M) ∧
  (∀ L st M, zz_ev tX12_preempts 66 L st M = zo_iload 5 68 (zz_ev tX12_preempts) L st M) ∧
  (∀ L st M, zz_ev tX12_preempts 68 L st M = zo_aload 0 69 (zz_ev tX12_preempts) L st M) ∧
  (∀ (L : zzLc) (r : List Value) (M : zzMd), zz_ev tX12_preempts 69 L (.ref 0 :: r) M = zz_ev tX12_preempts 72 L (.ref 36 :: r) M) ∧
  (∀ L st M, zz_ev tX12_preempts 72 L st M = zo_iload 5 74 (zz_ev tX12_preempts) L st M) ∧
  (∀ L st M, zz_ev tX12_preempts 74 L st M = zo_iald zzSR zzSTR 75 (zz_ev tX12_preempts) L st M) ∧
  (∀ L st M, zz_ev tX12_preempts 75 L st M = zo_iast zzSR 76 (zz_ev tX12_preempts) L st M) ∧
  (∀ L st M, zz_ev tX12_preempts 76 L st M = zo_iinc 5 1 79 (zz_ev tX12_preempts) L st M) ∧
  (∀ L st M, zz_ev tX12_preempts 79 L st M = zo_goto 55 (zz_ev tX12_preempts) L st M) ∧
  (∀ L st M, zz_ev tX12_preempts 82 L st M = zo_iinc 3 1 85 (zz_ev tX12_preempts) L st M) ∧
  (∀ L st M, zz_ev tX12_preempts 85 L st M = zo_goto 4 (zz_ev tX12_preempts) L st M) ∧
  (∀ L st M, zz_ev tX12_preempts 88 L st M = zo_pushI 1 89 (zz_ev tX12_preempts) L st M) ∧
  (∀ L st M, zz_ev tX12_preempts 89 L st M = zo_istore 3 90 (zz_ev tX12_preempts) L st M) ∧
  (∀ L st M, zz_ev tX12_preempts 90 L st M = zo_pushI 0 91 (zz_ev tX12_preempts) L st M) ∧
  (∀ L st M, zz_ev tX12_preempts 91 L st M = zo_istore 4 93 (zz_ev tX12_preempts) L st M) ∧
  (∀ L st M, zz_ev tX12_preempts 95 L st M = zo_iload 2 96 (zz_ev tX12_preempts) L st M) ∧
  (∀ L st M, zz_ev tX12_preempts 96 L st M = zo_icmp (fun x y => decide (y ≤ x)) 121 99 (zz_ev tX12_preempts) L st M) ∧
  (∀ L st M, zz_ev tX12_preempts 99 L st M = zo_iload 3 100 (zz_ev tX12_preempts) L st M) ∧
  (∀ L st M, zz_ev tX12_preempts 100 L st M = zo_if (fun x => decide (x = 0)) 121 103 (zz_ev tX12_preempts) L st M) ∧
  (∀ L st M, zz_ev tX12_preempts 103 L st M = zo_aload 0 104 (zz_ev tX12_preempts) L st M) ∧
  (∀ L st M, zz_ev tX12_preempts 104 L st M = zo_aload 0 105 (zz_ev tX12_preempts) L st M) ∧
  (∀ (L : zzLc) (r : List Value) (M : zzMd), zz_ev tX12_preempts 105 L (.ref 0 :: r) M = zz_ev tX12_preempts 108 L (.ref 37 :: r) M) ∧
  (∀ L st M, zz_ev tX12_preempts 108 L st M = zo_iload 4 110 (zz_ev tX12_preempts) L st M) ∧
  (∀ L st M, zz_ev tX12_preempts 110 L st M = zo_iald zzSR zzSTR 111 (zz_ev tX12_preempts) L st M) ∧
  (∀ (L : zzLc) (a0 : Int32) (r : List Value) (M : zzMd), zz_ev tX12_preempts 111 L (.int a0 :: .ref 0 :: r) M = bif zz_cat8 r then zz_backN (zz_ev tX12_preempts) 114 L r (fX12_deletes [.ref 0, .int a0] M) else none) ∧
  (∀ L st M, zz_ev tX12_preempts 114 L st M = zo_istore 3 115 (zz_ev tX12_preempts) L st M) ∧
  (∀ L st M, zz_ev tX12_preempts 115 L st M = zo_iinc 4 1 118 (zz_ev tX12_preempts) L st M) ∧
  (∀ L st M, zz_ev tX12_preempts 118 L st M = zo_goto 93 (zz_ev tX12_preempts) L st M) ∧
  (∀ L st M, zz_ev tX12_preempts 121 L st M = zo_ret (zz_ev tX12_preempts) L st M) :=
  ⟨zz_1 rfl tl_X12_preempts, zz_1 rfl tl_X12_preempts, zz_1 rfl tl_X12_preempts, zz_1 rfl tl_X12_preempts, zz_1 rfl tl_X12_preempts, fun L r M => (zz_1 rfl tl_X12_preempts _ _ _).trans rfl, zz_1 rfl tl_X12_preempts, zz_1 rfl tl_X12_preempts, zz_1 rfl tl_X12_preempts, fun L a0 r M => (zz_1 rfl tl_X12_preempts _ _ _).trans rfl, zz_1 rfl tl_X12_preempts, zz_1 rfl tl_X12_preempts, zz_1 rfl tl_X12_preempts, zz_1 rfl tl_X12_preempts, fun L a0 a1 r M => (zz_1 rfl tl_X12_preempts _ _ _).trans rfl, zz_1 rfl tl_X12_preempts, zz_1 rfl tl_X12_preempts, zz_1 rfl tl_X12_preempts, zz_1 rfl tl_X12_preempts, zz_1 rfl tl_X12_preempts, zz_1 rfl tl_X12_preempts, zz_1 rfl tl_X12_preempts, zz_1 rfl tl_X12_preempts, zz_1 rfl tl_X12_preempts, zz_1 rfl tl_X12_preempts, zz_1 rfl tl_X12_preempts, zz_1 rfl tl_X12_preempts, zz_1 rfl tl_X12_preempts, zz_1 rfl tl_X12_preempts, zz_1 rfl tl_X12_preempts, zz_1 rfl tl_X12_preempts, zz_1 rfl tl_X12_preempts, zz_1 rfl tl_X12_preempts, zz_1 rfl tl_X12_preempts, fun L r M => (zz_1 rfl tl_X12_preempts _ _ _).trans rfl, zz_1 rfl tl_X12_preempts, zz_1 rfl tl_X12_preempts, fun L r M => (zz_1 rfl tl_X12_preempts _ _ _).trans rfl, zz_1 rfl tl_X12_preempts, zz_1 rfl tl_X12_preempts, zz_1 rfl tl_X12_preempts, zz_1 rfl tl_X12_preempts, zz_1 rfl tl_X12_preempts, zz_1 rfl tl_X12_preempts, zz_1 rfl tl_X12_preempts, zz_1 rfl tl_X12_preempts, zz_1 rfl tl_X12_preempts, zz_1 rfl tl_X12_preempts, zz_1 rfl tl_X12_preempts, zz_1 rfl tl_X12_preempts, zz_1 rfl tl_X12_preempts, zz_1 rfl tl_X12_preempts, zz_1 rfl tl_X12_preempts, zz_1 rfl tl_X12_preempts, zz_1 rfl tl_X12_preempts, fun L r M => (zz_1 rfl tl_X12_preempts _ _ _).trans rfl, zz_1 rfl tl_X12_preempts, zz_1 rfl tl_X12_preempts, fun L a0 r M => (zz_1 rfl tl_X12_preempts _ _ _).trans rfl, zz_1 rfl tl_X12_preempts, zz_1 rfl tl_X12_preempts, zz_1 rfl tl_X12_preempts, zz_1 rfl tl_X12_preempts⟩
set_option maxRecDepth 100000 in
theorem e_X12_preempts_4 : (∀ L st M, zz_ev tX12_preempts 4 L st M = zo_iload 3 5 (zz_ev tX12_preempts) L st M) := zz_1 rfl tl_X12_preempts
set_option maxRecDepth 100000 in
theorem e_X12_preempts_55 : (∀ L st M, zz_ev tX12_preempts 55 L st M = zo_iload 5 57 (zz_ev tX12_preempts) L st M) := zz_1 rfl tl_X12_preempts
set_option maxRecDepth 100000 in
theorem e_X12_preempts_93 : (∀ L st M, zz_ev tX12_preempts 93 L st M = zo_iload 4 95 (zz_ev tX12_preempts) L st M) := zz_1 rfl tl_X12_preempts
set_option maxRecDepth 100000 in
theorem s_X12_preempts (a0 : Int32) (v : Nat) (M : zzMd) : fX12_preempts [.ref v, .int a0] M = zz_ev tX12_preempts 0 [some (.ref v), some (.int a0), none, none, none, none] [] M := rfl
set_option maxRecDepth 100000 in
theorem e_X12_schedules : (∀ L st M, zz_ev tX12_schedules 0 L st M = zo_aload 0 1 (zz_ev tX12_schedules) L st M) ∧
  (∀ L st M, zz_ev tX12_schedules 1 L st M = zo_aload 0 2 (zz_ev tX12_schedules) L st M) ∧
  (∀ (L : zzLc) (r : List Value) (M : zzMd), zz_ev tX12_schedules 2 L (.ref 0 :: r) M = zz_ev tX12_schedules 5 L (.int (M.1 0 43) :: r) M) ∧
  (∀ L st M, zz_ev tX12_schedules 5 L st M = zo_pushI 2 6 (zz_ev tX12_schedules) L st M) ∧
  (∀ (L : zzLc) (a0 a1 : Int32) (r : List Value) (M : zzMd), zz_ev tX12_schedules 6 L (.int a1 :: .int a0 :: .ref 0 :: r) M = bif zz_cat8 r then zz_backN (zz_ev tX12_schedules) 9 L r (fX12_stays [.ref 0, .int a0, .int a1] M) else none) ∧
  (∀ L st M, zz_ev tX12_schedules 9 L st M = zo_if (fun x => decide (x = 0)) 38 12 (zz_ev tX12_schedules) L st M) ∧
  (∀ L st M, zz_ev tX12_schedules 12 L st M = zo_aload 0 13 (zz_ev tX12_schedules) L st M) ∧
  (∀ L st M, zz_ev tX12_schedules 13 L st M = zo_aload 0 14 (zz_ev tX12_schedules) L st M) ∧
  (∀ (L : zzLc) (r : List Value) (M : zzMd), zz_ev tX12_schedules 14 L (.ref 0 :: r) M = zz_ev tX12_schedules 17 L (.int (M.1 0 43) :: r) M) ∧
  (∀ L st M, zz_ev tX12_schedules 17 L st M = zo_pushI 16 19 (zz_ev tX12_schedules) L st M) ∧
  (∀ (L : zzLc) (a0 a1 : Int32) (r : List Value) (M : zzMd), zz_ev tX12_schedules 19 L (.int a1 :: .int a0 :: .ref 0 :: r) M = bif zz_cat8 r then zz_backN (zz_ev tX12_schedules) 22 L r (fX12_viewed [.ref 0, .int a0, .int a1] M) else none) ∧
  (∀ L st M, zz_ev tX12_schedules 22 L st M = zo_if (fun x => decide (¬ x = 0)) 38 25 (zz_ev tX12_schedules) L st M) ∧
  (∀ L st M, zz_ev tX12_schedules 25 L st M = zo_aload 0 26 (zz_ev tX12_schedules) L st M) ∧
  (∀ L st M, zz_ev tX12_schedules 26 L st M = zo_aload 0 27 (zz_ev tX12_schedules) L st M) ∧
  (∀ (L : zzLc) (r : List Value) (M : zzMd), zz_ev tX12_schedules 27 L (.ref 0 :: r) M = zz_ev tX12_schedules 30 L (.int (M.1 0 43) :: r) M) ∧
  (∀ L st M, zz_ev tX12_schedules 30 L st M = zo_pushI 15 32 (zz_ev tX12_schedules) L st M) ∧
  (∀ (L : zzLc) (a0 a1 : Int32) (r : List Value) (M : zzMd), zz_ev tX12_schedules 32 L (.int a1 :: .int a0 :: .ref 0 :: r) M = bif zz_cat8 r then zz_backN (zz_ev tX12_schedules) 35 L r (fX12_viewed [.ref 0, .int a0, .int a1] M) else none) ∧
  (∀ L st M, zz_ev tX12_schedules 35 L st M = zo_if (fun x => decide (x ≤ 0)) 40 38 (zz_ev tX12_schedules) L st M) ∧
  (∀ L st M, zz_ev tX12_schedules 38 L st M = zo_pushI 1 39 (zz_ev tX12_schedules) L st M) ∧
  (∀ L st M, zz_ev tX12_schedules 39 L st M = zo_iret true (zz_ev tX12_schedules) L st M) ∧
  (∀ L st M, zz_ev tX12_schedules 40 L st M = zo_aload 0 41 (zz_ev tX12_schedules) L st M) ∧
  (∀ L st M, zz_ev tX12_schedules 41 L st M = zo_aload 0 42 (zz_ev tX12_schedules) L st M) ∧
  (∀ (L : zzLc) (r : List Value) (M : zzMd), zz_ev tX12_schedules 42 L (.ref 0 :: r) M = zz_ev tX12_schedules 45 L (.int (M.1 0 43) :: r) M) ∧
  (∀ (L : zzLc) (a0 : Int32) (r : List Value) (M : zzMd), zz_ev tX12_schedules 45 L (.int a0 :: .ref 0 :: r) M = bif zz_cat8 r then zz_backN (zz_ev tX12_schedules) 48 L r (fX12_nodeFor [.ref 0, .int a0] M) else none) ∧
  (∀ L st M, zz_ev tX12_schedules 48 L st M = zo_istore 1 49 (zz_ev tX12_schedules) L st M) ∧
  (∀ L st M, zz_ev tX12_schedules 49 L st M = zo_iload 1 50 (zz_ev tX12_schedules) L st M) ∧
  (∀ L st M, zz_ev tX12_schedules 50 L st M = zo_pushI (-1) 51 (zz_ev tX12_schedules) L st M) ∧
  (∀ L st M, zz_ev tX12_schedules 51 L st M = zo_icmp (fun x y => decide (x = y)) 90 54 (zz_ev tX12_schedules) L st M) ∧
  (∀ L st M, zz_ev tX12_schedules 54 L st M = zo_aload 0 55 (zz_ev tX12_schedules) L st M) ∧
  (∀ L st M, zz_ev tX12_schedules 55 L st M = zo_aload 0 56 (zz_ev tX12_schedules) L st M) ∧
  (∀ (L : zzLc) (r : List Value) (M : zzMd), zz_ev tX12_schedules 56 L (.ref 0 :: r) M = zz_ev tX12_schedules 59 L (.int (M.1 0 43) :: r) M) ∧
  (∀ L st M, zz_ev tX12_schedules 59 L st M = zo_aload 0 60 (zz_ev tX12_schedules) L st M) ∧
  (∀ L st M, zz_ev tX12_schedules 60 L st M = zo_aload 0 61 (zz_ev tX12_schedules) L st M) ∧
  (∀ (L : zzLc) (r : List Value) (M : zzMd), zz_ev tX12_schedules 61 L (.ref 0 :: r) M = zz_ev tX12_schedules 64 L (.ref 7 :: r) M) ∧
  (∀ L st M, zz_ev tX12_schedules 64 L st M = zo_aload 0 65 (zz_ev tX12_schedules) L st M) ∧
  (∀ (L : zzLc) (r : List Value) (M : zzMd), zz_ev tX12_schedules 65 L (.ref 0 :: r) M = zz_ev tX12_schedules 68 L (.int (M.1 0 43) :: r) M) ∧
  (∀ L st M, zz_ev tX12_schedules 68 L st M = zo_lald zzSR 69 (zz_ev tX12_schedules) L st M) ∧
  (∀ L st M, zz_ev tX12_schedules 69 L st M = zo_pushI 15 71 (zz_ev tX12_schedules) L st M) ∧
  (∀ L st M, zz_ev tX12_schedules 71 L st M = zo_iload 1 72 (zz_ev tX12_schedules) L st M) ∧
  (∀ L st M, zz_ev tX12_schedules 72 L st M = zo_pushI 1 73 (zz_ev tX12_schedules) L st M) ∧
  (∀ L st M, zz_ev tX12_schedules 73 L st M = zo_ii (fun x y => x + y) 74 (zz_ev tX12_schedules) L st M) ∧
  (∀ (L : zzLc) (a1 a2 : Int32) (a0 : Int64) (r : List Value) (M : zzMd), zz_ev tX12_schedules 74 L (.int a2 :: .int a1 :: .long a0 :: .ref 0 :: r) M = bif zz_cat8 r then zz_backN (zz_ev tX12_schedules) 77 L r (fX12_with [.ref 0, .long a0, .int a1, .int a2] M) else none) ∧
  (∀ L st M, zz_ev tX12_schedules 77 L st M = zo_aload 0 78 (zz_ev tX12_schedules) L st M) ∧
  (∀ (L : zzLc) (r : List Value) (M : zzMd), zz_ev tX12_schedules 78 L (.ref 0 :: r) M = zz_ev tX12_schedules 81 L (.ref 8 :: r) M) ∧
  (∀ L st M, zz_ev tX12_schedules 81 L st M = zo_aload 0 82 (zz_ev tX12_schedules) L st M) ∧
  (∀ (L : zzLc) (r : List Value) (M : zzMd), zz_ev tX12_schedules 82 L (.ref 0 :: r) M = zz_ev tX12_schedules 85 L (.int (M.1 0 43) :: r) M) ∧
  (∀ L st M, zz_ev tX12_schedules 85 L st M = zo_lald zzSR 86 (zz_ev tX12_schedules) L st M) ∧
  (∀ (L : zzLc) (a0 : Int32) (a1 a2 : Int64) (r : List Value) (M : zzMd), zz_ev tX12_schedules 86 L (.long a2 :: .long a1 :: .int a0 :: .ref 0 :: r) M = bif zz_cat8 r then zz_backN (zz_ev tX12_schedules) 89 L r (fX12_writesIt [.ref 0, .int a0, .long a1, .long a2] M) else none) ∧
  (∀ L st M, zz_ev tX12_schedules 89 L st M = zo_iret true (zz_ev tX12_schedules) L st M) ∧
  (∀ L st M, zz_ev tX12_schedules 90 L st M = zo_aload 0 91 (zz_ev tX12_schedules) L st M) ∧
  (∀ L st M, zz_ev tX12_schedules 91 L st M = zo_aload 0 92 (zz_ev tX12_schedules) L st M) ∧
  (∀ (L : zzLc) (r : List Value) (M : zzMd), zz_ev tX12_schedules 92 L (.ref 0 :: r) M = zz_ev tX12_schedules 95 L (.int (M.1 0 43) :: r) M) ∧
  (∀ (L : zzLc) (a0 : Int32) (r : List Value) (M : zzMd), zz_ev tX12_schedules 95 L (.int a0 :: .ref 0 :: r) M = bif zz_cat8 r then zz_backN (zz_ev tX12_schedules) 98 L r (fX12_preempts [.ref 0, .int a0] M) else none) ∧
  (∀ L st M, zz_ev tX12_schedules 98 L st M = zo_pushI 0 99 (zz_ev tX12_schedules) L st M) ∧
  (∀ L st M, zz_ev tX12_schedules 99 L st M = zo_iret true (zz_ev tX12_schedules) L st M) :=
  ⟨zz_1 rfl tl_X12_schedules, zz_1 rfl tl_X12_schedules, fun L r M => (zz_1 rfl tl_X12_schedules _ _ _).trans rfl, zz_1 rfl tl_X12_schedules, fun L a0 a1 r M => (zz_1 rfl tl_X12_schedules _ _ _).trans rfl, zz_1 rfl tl_X12_schedules, zz_1 rfl tl_X12_schedules, zz_1 rfl tl_X12_schedules, fun L r M => (zz_1 rfl tl_X12_schedules _ _ _).trans rfl, zz_1 rfl tl_X12_schedules, fun L a0 a1 r M => (zz_1 rfl tl_X12_schedules _ _ _).trans rfl, zz_1 rfl tl_X12_schedules, zz_1 rfl tl_X12_schedules, zz_1 rfl tl_X12_schedules, fun L r M => (zz_1 rfl tl_X12_schedules _ _ _).trans rfl, zz_1 rfl tl_X12_schedules, fun L a0 a1 r M => (zz_1 rfl tl_X12_schedules _ _ _).trans rfl, zz_1 rfl tl_X12_schedules, zz_1 rfl tl_X12_schedules, zz_1 rfl tl_X12_schedules, zz_1 rfl tl_X12_schedules, zz_1 rfl tl_X12_schedules, fun L r M => (zz_1 rfl tl_X12_schedules _ _ _).trans rfl, fun L a0 r M => (zz_1 rfl tl_X12_schedules _ _ _).trans rfl, zz_1 rfl tl_X12_schedules, zz_1 rfl tl_X12_schedules, zz_1 rfl tl_X12_schedules, zz_1 rfl tl_X12_schedules, zz_1 rfl tl_X12_schedules, zz_1 rfl tl_X12_schedules, fun L r M => (zz_1 rfl tl_X12_schedules _ _ _).trans rfl, zz_1 rfl tl_X12_schedules, zz_1 rfl tl_X12_schedules, fun L r M => (zz_1 rfl tl_X12_schedules _ _ _).trans rfl, zz_1 rfl tl_X12_schedules, fun L r M => (zz_1 rfl tl_X12_schedules _ _ _).trans rfl, zz_1 rfl tl_X12_schedules, zz_1 rfl tl_X12_schedules, zz_1 rfl tl_X12_schedules, zz_1 rfl tl_X12_schedules, zz_1 rfl tl_X12_schedules, fun L a1 a2 a0 r M => (zz_1 rfl tl_X12_schedules _ _ _).trans rfl, zz_1 rfl tl_X12_schedules, fun L r M => (zz_1 rfl tl_X12_schedules _ _ _).trans rfl, zz_1 rfl tl_X12_schedules, fun L r M => (zz_1 rfl tl_X12_schedules _ _ _).trans rfl, zz_1 rfl tl_X12_schedules, fun L a0 a1 a2 r M => (zz_1 rfl tl_X12_schedules _ _ _).trans rfl, zz_1 rfl tl_X12_schedules, zz_1 rfl tl_X12_schedules, zz_1 rfl tl_X12_schedules, fun L r M => (zz_1 rfl tl_X12_schedules _ _ _).trans rfl, fun L a0 r M => (zz_1 rfl tl_X12_schedules _ _ _).trans rfl, zz_1 rfl tl_X12_schedules, zz_1 rfl tl_X12_schedules⟩
set_option maxRecDepth 100000 in
theorem s_X12_schedules (v : Nat) (M : zzMd) : fX12_schedules [.ref v] M = zz_ev tX12_schedules 0 [some (.ref v), none] [] M := rfl
set_option maxRecDepth 100000 in
theorem e_X12_runs : (∀ L st M, zz_ev tX12_runs 0 L st M = zo_aload 0 1 (zz_ev tX12_runs) L st M) ∧
  (∀ L st M, zz_ev tX12_runs 1 L st M = zo_aload 0 2 (zz_ev tX12_runs) L st M) ∧
  (∀ (L : zzLc) (r : List Value) (M : zzMd), zz_ev tX12_runs 2 L (.ref 0 :: r) M = zz_ev tX12_runs 5 L (.int (M.1 0 43) :: r) M) ∧
  (∀ (L : zzLc) (a0 : Int32) (r : List Value) (M : zzMd), zz_ev tX12_runs 5 L (.int a0 :: .ref 0 :: r) M = bif zz_cat8 r then zz_backN (zz_ev tX12_runs) 8 L r (fX12_isGoneThere [.ref 0, .int a0] M) else none) ∧
  (∀ L st M, zz_ev tX12_runs 8 L st M = zo_if (fun x => decide (¬ x = 0)) 37 11 (zz_ev tX12_runs) L st M) ∧
  (∀ L st M, zz_ev tX12_runs 11 L st M = zo_aload 0 12 (zz_ev tX12_runs) L st M) ∧
  (∀ (L : zzLc) (r : List Value) (M : zzMd), zz_ev tX12_runs 12 L (.ref 0 :: r) M = zz_ev tX12_runs 15 L (.ref 6 :: r) M) ∧
  (∀ L st M, zz_ev tX12_runs 15 L st M = zo_aload 0 16 (zz_ev tX12_runs) L st M) ∧
  (∀ (L : zzLc) (r : List Value) (M : zzMd), zz_ev tX12_runs 16 L (.ref 0 :: r) M = zz_ev tX12_runs 19 L (.int (M.1 0 43) :: r) M) ∧
  (∀ L st M, zz_ev tX12_runs 19 L st M = zo_iald zzSR zzSTR 20 (zz_ev tX12_runs) L st M) ∧
  (∀ L st M, zz_ev tX12_runs 20 L st M = zo_pushI 2 21 (zz_ev tX12_runs) L st M) ∧
  (∀ L st M, zz_ev tX12_runs 21 L st M = zo_icmp (fun x y => decide (¬ x = y)) 37 24 (zz_ev tX12_runs) L st M) ∧
  (∀ L st M, zz_ev tX12_runs 24 L st M = zo_aload 0 25 (zz_ev tX12_runs) L st M) ∧
  (∀ L st M, zz_ev tX12_runs 25 L st M = zo_aload 0 26 (zz_ev tX12_runs) L st M) ∧
  (∀ (L : zzLc) (r : List Value) (M : zzMd), zz_ev tX12_runs 26 L (.ref 0 :: r) M = zz_ev tX12_runs 29 L (.int (M.1 0 43) :: r) M) ∧
  (∀ L st M, zz_ev tX12_runs 29 L st M = zo_pushI 15 31 (zz_ev tX12_runs) L st M) ∧
  (∀ (L : zzLc) (a0 a1 : Int32) (r : List Value) (M : zzMd), zz_ev tX12_runs 31 L (.int a1 :: .int a0 :: .ref 0 :: r) M = bif zz_cat8 r then zz_backN (zz_ev tX12_runs) 34 L r (fX12_viewed [.ref 0, .int a0, .int a1] M) else none) ∧
  (∀ L st M, zz_ev tX12_runs 34 L st M = zo_if (fun x => decide (¬ x = 0)) 39 37 (zz_ev tX12_runs) L st M) ∧
  (∀ L st M, zz_ev tX12_runs 37 L st M = zo_pushI 1 38 (zz_ev tX12_runs) L st M) ∧
  (∀ L st M, zz_ev tX12_runs 38 L st M = zo_iret true (zz_ev tX12_runs) L st M) ∧
  (∀ L st M, zz_ev tX12_runs 39 L st M = zo_aload 0 40 (zz_ev tX12_runs) L st M) ∧
  (∀ (L : zzLc) (r : List Value) (M : zzMd), zz_ev tX12_runs 40 L (.ref 0 :: r) M = zz_ev tX12_runs 43 L (.ref 7 :: r) M) ∧
  (∀ L st M, zz_ev tX12_runs 43 L st M = zo_aload 0 44 (zz_ev tX12_runs) L st M) ∧
  (∀ (L : zzLc) (r : List Value) (M : zzMd), zz_ev tX12_runs 44 L (.ref 0 :: r) M = zz_ev tX12_runs 47 L (.int (M.1 0 43) :: r) M) ∧
  (∀ L st M, zz_ev tX12_runs 47 L st M = zo_lald zzSR 48 (zz_ev tX12_runs) L st M) ∧
  (∀ L st M, zz_ev tX12_runs 48 L st M = zo_lstore 1 49 (zz_ev tX12_runs) L st M) ∧
  (∀ L st M, zz_ev tX12_runs 49 L st M = zo_aload 0 50 (zz_ev tX12_runs) L st M) ∧
  (∀ L st M, zz_ev tX12_runs 50 L st M = zo_aload 0 51 (zz_ev tX12_runs) L st M) ∧
  (∀ (L : zzLc) (r : List Value) (M : zzMd), zz_ev tX12_runs 51 L (.ref 0 :: r) M = zz_ev tX12_runs 54 L (.int (M.1 0 43) :: r) M) ∧
  (∀ L st M, zz_ev tX12_runs 54 L st M = zo_pushI 15 56 (zz_ev tX12_runs) L st M) ∧
  (∀ (L : zzLc) (a0 a1 : Int32) (r : List Value) (M : zzMd), zz_ev tX12_runs 56 L (.int a1 :: .int a0 :: .ref 0 :: r) M = bif zz_cat8 r then zz_backN (zz_ev tX12_runs) 59 L r (fX12_viewed [.ref 0, .int a0, .int a1] M) else none) ∧
  (∀ L st M, zz_ev tX12_runs 59 L st M = zo_pushI 1 60 (zz_ev tX12_runs) L st M) ∧
  (∀ L st M, zz_ev tX12_runs 60 L st M = zo_ii (fun x y => x - y) 61 (zz_ev tX12_runs) L st M) ∧
  (∀ L st M, zz_ev tX12_runs 61 L st M = zo_istore 3 62 (zz_ev tX12_runs) L st M) ∧
  (∀ L st M, zz_ev tX12_runs 62 L st M = zo_aload 0 63 (zz_ev tX12_runs) L st M) ∧
  (∀ L st M, zz_ev tX12_runs 63 L st M = zo_aload 0 64 (zz_ev tX12_runs) L st M) ∧
  (∀ (L : zzLc) (r : List Value) (M : zzMd), zz_ev tX12_runs 64 L (.ref 0 :: r) M = zz_ev tX12_runs 67 L (.int (M.1 0 43) :: r) M) ∧
  (∀ L st M, zz_ev tX12_runs 67 L st M = zo_pushI 16 69 (zz_ev tX12_runs) L st M) ∧
  (∀ (L : zzLc) (a0 a1 : Int32) (r : List Value) (M : zzMd), zz_ev tX12_runs 69 L (.int a1 :: .int a0 :: .ref 0 :: r) M = bif zz_cat8 r then zz_backN (zz_ev tX12_runs) 72 L r (fX12_viewed [.ref 0, .int a0, .int a1] M) else none) ∧
  (∀ L st M, zz_ev tX12_runs 72 L st M = zo_istore 4 74 (zz_ev tX12_runs) L st M) ∧
  (∀ L st M, zz_ev tX12_runs 74 L st M = zo_aload 0 75 (zz_ev tX12_runs) L st M) ∧
  (∀ L st M, zz_ev tX12_runs 75 L st M = zo_aload 0 76 (zz_ev tX12_runs) L st M) ∧
  (∀ (L : zzLc) (r : List Value) (M : zzMd), zz_ev tX12_runs 76 L (.ref 0 :: r) M = zz_ev tX12_runs 79 L (.int (M.1 0 43) :: r) M) ∧
  (∀ L st M, zz_ev tX12_runs 79 L st M = zo_pushI 13 81 (zz_ev tX12_runs) L st M) ∧
  (∀ (L : zzLc) (a0 a1 : Int32) (r : List Value) (M : zzMd), zz_ev tX12_runs 81 L (.int a1 :: .int a0 :: .ref 0 :: r) M = bif zz_cat8 r then zz_backN (zz_ev tX12_runs) 84 L r (fX12_viewed [.ref 0, .int a0, .int a1] M) else none) ∧
  (∀ L st M, zz_ev tX12_runs 84 L st M = zo_if (fun x => decide (x = 0)) 133 87 (zz_ev tX12_runs) L st M) ∧
  (∀ L st M, zz_ev tX12_runs 87 L st M = zo_aload 0 88 (zz_ev tX12_runs) L st M) ∧
  (∀ L st M, zz_ev tX12_runs 88 L st M = zo_lload 1 89 (zz_ev tX12_runs) L st M) ∧
  (∀ L st M, zz_ev tX12_runs 89 L st M = zo_pushI 15 91 (zz_ev tX12_runs) L st M) ∧
  (∀ L st M, zz_ev tX12_runs 91 L st M = zo_pushI 0 92 (zz_ev tX12_runs) L st M) ∧
  (∀ (L : zzLc) (a1 a2 : Int32) (a0 : Int64) (r : List Value) (M : zzMd), zz_ev tX12_runs 92 L (.int a2 :: .int a1 :: .long a0 :: .ref 0 :: r) M = bif zz_cat8 r then zz_backN (zz_ev tX12_runs) 95 L r (fX12_with [.ref 0, .long a0, .int a1, .int a2] M) else none) ∧
  (∀ L st M, zz_ev tX12_runs 95 L st M = zo_lstore 1 96 (zz_ev tX12_runs) L st M) ∧
  (∀ L st M, zz_ev tX12_runs 96 L st M = zo_aload 0 97 (zz_ev tX12_runs) L st M) ∧
  (∀ L st M, zz_ev tX12_runs 97 L st M = zo_aload 0 98 (zz_ev tX12_runs) L st M) ∧
  (∀ (L : zzLc) (r : List Value) (M : zzMd), zz_ev tX12_runs 98 L (.ref 0 :: r) M = zz_ev tX12_runs 101 L (.int (M.1 0 43) :: r) M) ∧
  (∀ L st M, zz_ev tX12_runs 101 L st M = zo_aload 0 102 (zz_ev tX12_runs) L st M) ∧
  (∀ L st M, zz_ev tX12_runs 102 L st M = zo_lload 1 103 (zz_ev tX12_runs) L st M) ∧
  (∀ L st M, zz_ev tX12_runs 103 L st M = zo_pushI 12 105 (zz_ev tX12_runs) L st M) ∧
  (∀ (L : zzLc) (a1 : Int32) (a0 : Int64) (r : List Value) (M : zzMd), zz_ev tX12_runs 105 L (.int a1 :: .long a0 :: .ref 0 :: r) M = bif zz_cat8 r then zz_backN (zz_ev tX12_runs) 108 L r (fX12_get [.ref 0, .long a0, .int a1] M) else none) ∧
  (∀ L st M, zz_ev tX12_runs 108 L st M = zo_if (fun x => decide (¬ x = 0)) 119 111 (zz_ev tX12_runs) L st M) ∧
  (∀ L st M, zz_ev tX12_runs 111 L st M = zo_aload 0 112 (zz_ev tX12_runs) L st M) ∧
  (∀ L st M, zz_ev tX12_runs 112 L st M = zo_lload 1 113 (zz_ev tX12_runs) L st M) ∧
  (∀ (L : zzLc) (a0 : Int64) (r : List Value) (M : zzMd), zz_ev tX12_runs 113 L (.long a0 :: .ref 0 :: r) M = bif zz_cat8 r then zz_backN (zz_ev tX12_runs) 116 L r (fX12_gone [.ref 0, .long a0] M) else none) ∧
  (∀ L st M, zz_ev tX12_runs 116 L st M = zo_goto 120 (zz_ev tX12_runs) L st M) ∧
  (∀ L st M, zz_ev tX12_runs 119 L st M = zo_lload 1 120 (zz_ev tX12_runs) L st M) ∧
  (∀ L st M, zz_ev tX12_runs 120 L st M = zo_aload 0 121 (zz_ev tX12_runs) L st M) ∧
  (∀ (L : zzLc) (r : List Value) (M : zzMd), zz_ev tX12_runs 121 L (.ref 0 :: r) M = zz_ev tX12_runs 124 L (.ref 8 :: r) M) ∧
  (∀ L st M, zz_ev tX12_runs 124 L st M = zo_aload 0 125 (zz_ev tX12_runs) L st M) ∧
  (∀ (L : zzLc) (r : List Value) (M : zzMd), zz_ev tX12_runs 125 L (.ref 0 :: r) M = zz_ev tX12_runs 128 L (.int (M.1 0 43) :: r) M) ∧
  (∀ L st M, zz_ev tX12_runs 128 L st M = zo_lald zzSR 129 (zz_ev tX12_runs) L st M) ∧
  (∀ (L : zzLc) (a0 : Int32) (a1 a2 : Int64) (r : List Value) (M : zzMd), zz_ev tX12_runs 129 L (.long a2 :: .long a1 :: .int a0 :: .ref 0 :: r) M = bif zz_cat8 r then zz_backN (zz_ev tX12_runs) 132 L r (fX12_writesIt [.ref 0, .int a0, .long a1, .long a2] M) else none) ∧
  (∀ L st M, zz_ev tX12_runs 132 L st M = zo_iret true (zz_ev tX12_runs) L st M) ∧
  (∀ L st M, zz_ev tX12_runs 133 L st M = zo_aload 0 134 (zz_ev tX12_runs) L st M) ∧
  (∀ L st M, zz_ev tX12_runs 134 L st M = zo_iload 3 135 (zz_ev tX12_runs) L st M) ∧
  (∀ (L : zzLc) (a0 : Int32) (r : List Value) (M : zzMd), zz_ev tX12_runs 135 L (.int a0 :: .ref 0 :: r) M = bif zz_cat8 r then zz_backN (zz_ev tX12_runs) 138 L r (fX12_isGoneThere [.ref 0, .int a0] M) else none) ∧
  (∀ L st M, zz_ev tX12_runs 138 L st M = zo_if (fun x => decide (¬ x = 0)) 162 141 (zz_ev tX12_runs) L st M) ∧
  (∀ L st M, zz_ev tX12_runs 141 L st M = zo_aload 0 142 (zz_ev tX12_runs) L st M) ∧
  (∀ L st M, zz_ev tX12_runs 142 L st M = zo_iload 3 143 (zz_ev tX12_runs) L st M) ∧
  (∀ L st M, zz_ev tX12_runs 143 L st M = zo_pushI 14 145 (zz_ev tX12_runs) L st M) ∧
  (∀ (L : zzLc) (a0 a1 : Int32) (r : List Value) (M : zzMd), zz_ev tX12_runs 145 L (.int a1 :: .int a0 :: .ref 0 :: r) M = bif zz_cat8 r then zz_backN (zz_ev tX12_runs) 148 L r (fX12_viewed [.ref 0, .int a0, .int a1] M) else none) ∧
  (∀ L st M, zz_ev tX12_runs 148 L st M = zo_if (fun x => decide (x = 0)) 162 151 (zz_ev tX12_runs) L st M) ∧
  (∀ L st M, zz_ev tX12_runs 151 L st M = zo_aload 0 152 (zz_ev tX12_runs) L st M) ∧
  (∀ L st M, zz_ev tX12_runs 152 L st M = zo_iload 3 153 (zz_ev tX12_runs) L st M) ∧
  (∀ L st M, zz_ev tX12_runs 153 L st M = zo_pushI 9 155 (zz_ev tX12_runs) L st M) ∧
  (∀ (L : zzLc) (a0 a1 : Int32) (r : List Value) (M : zzMd), zz_ev tX12_runs 155 L (.int a1 :: .int a0 :: .ref 0 :: r) M = bif zz_cat8 r then zz_backN (zz_ev tX12_runs) 158 L r (fX12_viewed [.ref 0, .int a0, .int a1] M) else none) ∧
  (∀ L st M, zz_ev tX12_runs 158 L st M = zo_pushI 1 159 (zz_ev tX12_runs) L st M) ∧
  (∀ L st M, zz_ev tX12_runs 159 L st M = zo_icmp (fun x y => decide (¬ x = y)) 166 162 (zz_ev tX12_runs) L st M) ∧
  (∀ L st M, zz_ev tX12_runs 162 L st M = zo_pushI 1 163 (zz_ev tX12_runs) L st M) ∧
  (∀ L st M, zz_ev tX12_runs 163 L st M = zo_goto 167 (zz_ev tX12_runs) L st M) ∧
  (∀ L st M, zz_ev tX12_runs 166 L st M = zo_pushI 0 167 (zz_ev tX12_runs) L st M) ∧
  (∀ L st M, zz_ev tX12_runs 167 L st M = zo_istore 5 169 (zz_ev tX12_runs) L st M) ∧
  (∀ L st M, zz_ev tX12_runs 169 L st M = zo_iload 5 171 (zz_ev tX12_runs) L st M) ∧
  (∀ L st M, zz_ev tX12_runs 171 L st M = zo_if (fun x => decide (x = 0)) 206 174 (zz_ev tX12_runs) L st M) ∧
  (∀ L st M, zz_ev tX12_runs 174 L st M = zo_iload 4 176 (zz_ev tX12_runs) L st M) ∧
  (∀ L st M, zz_ev tX12_runs 176 L st M = zo_pushI 1 177 (zz_ev tX12_runs) L st M) ∧
  (∀ L st M, zz_ev tX12_runs 177 L st M = zo_icmp (fun x y => decide (y < x)) 206 180 (zz_ev tX12_runs) L st M) ∧
  (∀ L st M, zz_ev tX12_runs 180 L st M = zo_aload 0 181 (zz_ev tX12_runs) L st M) ∧
  (∀ L st M, zz_ev tX12_runs 181 L st M = zo_aload 0 182 (zz_ev tX12_runs) L st M) ∧
  (∀ (L : zzLc) (r : List Value) (M : zzMd), zz_ev tX12_runs 182 L (.ref 0 :: r) M = zz_ev tX12_runs 185 L (.int (M.1 0 43) :: r) M) ∧
  (∀ L st M, zz_ev tX12_runs 185 L st M = zo_aload 0 186 (zz_ev tX12_runs) L st M) ∧
  (∀ L st M, zz_ev tX12_runs 186 L st M = zo_lload 1 187 (zz_ev tX12_runs) L st M) ∧
  (∀ L st M, zz_ev tX12_runs 187 L st M = zo_pushI 16 189 (zz_ev tX12_runs) L st M) ∧
  (∀ L st M, zz_ev tX12_runs 189 L st M = zo_pushI 3 190 (zz_ev tX12_runs) L st M) ∧
  (∀ (L : zzLc) (a1 a2 : Int32) (a0 : Int64) (r : List Value) (M : zzMd), zz_ev tX12_runs 190 L (.int a2 :: .int a1 :: .long a0 :: .ref 0 :: r) M = bif zz_cat8 r then zz_backN (zz_ev tX12_runs) 193 L r (fX12_with [.ref 0, .long a0, .int a1, .int a2] M) else none) ∧
  (∀ L st M, zz_ev tX12_runs 193 L st M = zo_aload 0 194 (zz_ev tX12_runs) L st M) ∧
  (∀ (L : zzLc) (r : List Value) (M : zzMd), zz_ev tX12_runs 194 L (.ref 0 :: r) M = zz_ev tX12_runs 197 L (.ref 8 :: r) M) ∧
  (∀ L st M, zz_ev tX12_runs 197 L st M = zo_aload 0 198 (zz_ev tX12_runs) L st M) ∧
  (∀ (L : zzLc) (r : List Value) (M : zzMd), zz_ev tX12_runs 198 L (.ref 0 :: r) M = zz_ev tX12_runs 201 L (.int (M.1 0 43) :: r) M) ∧
  (∀ L st M, zz_ev tX12_runs 201 L st M = zo_lald zzSR 202 (zz_ev tX12_runs) L st M) ∧
  (∀ (L : zzLc) (a0 : Int32) (a1 a2 : Int64) (r : List Value) (M : zzMd), zz_ev tX12_runs 202 L (.long a2 :: .long a1 :: .int a0 :: .ref 0 :: r) M = bif zz_cat8 r then zz_backN (zz_ev tX12_runs) 205 L r (fX12_writesIt [.ref 0, .int a0, .long a1, .long a2] M) else none) ∧
  (∀ L st M, zz_ev tX12_runs 205 L st M = zo_iret true (zz_ev tX12_runs) L st M) ∧
  (∀ L st M, zz_ev tX12_runs 206 L st M = zo_iload 4 208 (zz_ev tX12_runs) L st M) ∧
  (∀ L st M, zz_ev tX12_runs 208 L st M = zo_if (fun x => decide (x = 0)) 213 211 (zz_ev tX12_runs) L st M) ∧
  (∀ L st M, zz_ev tX12_runs 211 L st M = zo_pushI 1 212 (zz_ev tX12_runs) L st M) ∧
  (∀ L st M, zz_ev tX12_runs 212 L st M = zo_iret true (zz_ev tX12_runs) L st M) ∧
  (∀ L st M, zz_ev tX12_runs 213 L st M = zo_aload 0 214 (zz_ev tX12_runs) L st M) ∧
  (∀ L st M, zz_ev tX12_runs 214 L st M = zo_iload 3 215 (zz_ev tX12_runs) L st M) ∧
  (∀ L st M, zz_ev tX12_runs 215 L st M = zo_pushI 7 217 (zz_ev tX12_runs) L st M) ∧
  (∀ (L : zzLc) (a0 a1 : Int32) (r : List Value) (M : zzMd), zz_ev tX12_runs 217 L (.int a1 :: .int a0 :: .ref 0 :: r) M = bif zz_cat8 r then zz_backN (zz_ev tX12_runs) 220 L r (fX12_viewed [.ref 0, .int a0, .int a1] M) else none) ∧
  (∀ L st M, zz_ev tX12_runs 220 L st M = zo_aload 0 221 (zz_ev tX12_runs) L st M) ∧
  (∀ L st M, zz_ev tX12_runs 221 L st M = zo_aload 0 222 (zz_ev tX12_runs) L st M) ∧
  (∀ (L : zzLc) (r : List Value) (M : zzMd), zz_ev tX12_runs 222 L (.ref 0 :: r) M = zz_ev tX12_runs 225 L (.int (M.1 0 43) :: r) M) ∧
  (∀ L st M, zz_ev tX12_runs 225 L st M = zo_pushI 1 226 (zz_ev tX12_runs) L st M) ∧
  (∀ (L : zzLc) (a0 a1 : Int32) (r : List Value) (M : zzMd), zz_ev tX12_runs 226 L (.int a1 :: .int a0 :: .ref 0 :: r) M = bif zz_cat8 r then zz_backN (zz_ev tX12_runs) 229 L r (fX12_viewed [.ref 0, .int a0, .int a1] M) else none) ∧
  (∀ (L : zzLc) (a0 : Int32) (r : List Value) (M : zzMd), zz_ev tX12_runs 229 L (.int a0 :: r) M = bif zz_cat8 r then zz_backN (zz_ev tX12_runs) 232 L r (fX12_need [.int a0] M) else none) ∧
  (∀ L st M, zz_ev tX12_runs 232 L st M = zo_aload 0 233 (zz_ev tX12_runs) L st M) ∧
  (∀ L st M, zz_ev tX12_runs 233 L st M = zo_iload 3 234 (zz_ev tX12_runs) L st M) ∧
  (∀ L st M, zz_ev tX12_runs 234 L st M = zo_pushI 1 235 (zz_ev tX12_runs) L st M) ∧
  (∀ (L : zzLc) (a0 a1 : Int32) (r : List Value) (M : zzMd), zz_ev tX12_runs 235 L (.int a1 :: .int a0 :: .ref 0 :: r) M = bif zz_cat8 r then zz_backN (zz_ev tX12_runs) 238 L r (fX12_used [.ref 0, .int a0, .int a1] M) else none) ∧
  (∀ L st M, zz_ev tX12_runs 238 L st M = zo_ii (fun x y => x + y) 239 (zz_ev tX12_runs) L st M) ∧
  (∀ L st M, zz_ev tX12_runs 239 L st M = zo_icmp (fun x y => decide (x < y)) 246 242 (zz_ev tX12_runs) L st M) ∧
  (∀ L st M, zz_ev tX12_runs 242 L st M = zo_pushI 1 243 (zz_ev tX12_runs) L st M) ∧
  (∀ L st M, zz_ev tX12_runs 243 L st M = zo_goto 247 (zz_ev tX12_runs) L st M) ∧
  (∀ L st M, zz_ev tX12_runs 246 L st M = zo_pushI 0 247 (zz_ev tX12_runs) L st M) ∧
  (∀ L st M, zz_ev tX12_runs 247 L st M = zo_istore 6 249 (zz_ev tX12_runs) L st M) ∧
  (∀ L st M, zz_ev tX12_runs 249 L st M = zo_aload 0 250 (zz_ev tX12_runs) L st M) ∧
  (∀ L st M, zz_ev tX12_runs 250 L st M = zo_aload 0 251 (zz_ev tX12_runs) L st M) ∧
  (∀ (L : zzLc) (r : List Value) (M : zzMd), zz_ev tX12_runs 251 L (.ref 0 :: r) M = zz_ev tX12_runs 254 L (.int (M.1 0 43) :: r) M) ∧
  (∀ L st M, zz_ev tX12_runs 254 L st M = zo_aload 0 255 (zz_ev tX12_runs) L st M) ∧
  (∀ L st M, zz_ev tX12_runs 255 L st M = zo_lload 1 256 (zz_ev tX12_runs) L st M) ∧
  (∀ L st M, zz_ev tX12_runs 256 L st M = zo_pushI 16 258 (zz_ev tX12_runs) L st M) ∧
  (∀ L st M, zz_ev tX12_runs 258 L st M = zo_iload 6 260 (zz_ev tX12_runs) L st M) ∧
  (∀ L st M, zz_ev tX12_runs 260 L st M = zo_if (fun x => decide (x = 0)) 267 263 (zz_ev tX12_runs) L st M) ∧
  (∀ L st M, zz_ev tX12_runs 263 L st M = zo_pushI 1 264 (zz_ev tX12_runs) L st M) ∧
  (∀ L st M, zz_ev tX12_runs 264 L st M = zo_goto 268 (zz_ev tX12_runs) L st M) ∧
  (∀ L st M, zz_ev tX12_runs 267 L st M = zo_pushI 3 268 (zz_ev tX12_runs) L st M) ∧
  (∀ (L : zzLc) (a1 a2 : Int32) (a0 : Int64) (r : List Value) (M : zzMd), zz_ev tX12_runs 268 L (.int a2 :: .int a1 :: .long a0 :: .ref 0 :: r) M = bif zz_cat8 r then zz_backN (zz_ev tX12_runs) 271 L r (fX12_with [.ref 0, .long a0, .int a1, .int a2] M) else none) ∧
  (∀ L st M, zz_ev tX12_runs 271 L st M = zo_aload 0 272 (zz_ev tX12_runs) L st M) ∧
  (∀ (L : zzLc) (r : List Value) (M : zzMd), zz_ev tX12_runs 272 L (.ref 0 :: r) M = zz_ev tX12_runs 275 L (.ref 8 :: r) M) ∧
  (∀ L st M, zz_ev tX12_runs 275 L st M = zo_aload 0 276 (zz_ev tX12_runs) L st M) ∧
  (∀ (L : zzLc) (r : List Value) (M : zzMd), zz_ev tX12_runs 276 L (.ref 0 :: r) M = zz_ev tX12_runs 279 L (.int (M.1 0 43) :: r) M) ∧
  (∀ L st M, zz_ev tX12_runs 279 L st M = zo_lald zzSR 280 (zz_ev tX12_runs) L st M) ∧
  (∀ (L : zzLc) (a0 : Int32) (a1 a2 : Int64) (r : List Value) (M : zzMd), zz_ev tX12_runs 280 L (.long a2 :: .long a1 :: .int a0 :: .ref 0 :: r) M = bif zz_cat8 r then zz_backN (zz_ev tX12_runs) 283 L r (fX12_writesIt [.ref 0, .int a0, .long a1, .long a2] M) else none) ∧
  (∀ L st M, zz_ev tX12_runs 283 L st M = zo_iret true (zz_ev tX12_runs) L st M) :=
  ⟨zz_1 rfl tl_X12_runs, zz_1 rfl tl_X12_runs, fun L r M => (zz_1 rfl tl_X12_runs _ _ _).trans rfl, fun L a0 r M => (zz_1 rfl tl_X12_runs _ _ _).trans rfl, zz_1 rfl tl_X12_runs, zz_1 rfl tl_X12_runs, fun L r M => (zz_1 rfl tl_X12_runs _ _ _).trans rfl, zz_1 rfl tl_X12_runs, fun L r M => (zz_1 rfl tl_X12_runs _ _ _).trans rfl, zz_1 rfl tl_X12_runs, zz_1 rfl tl_X12_runs, zz_1 rfl tl_X12_runs, zz_1 rfl tl_X12_runs, zz_1 rfl tl_X12_runs, fun L r M => (zz_1 rfl tl_X12_runs _ _ _).trans rfl, zz_1 rfl tl_X12_runs, fun L a0 a1 r M => (zz_1 rfl tl_X12_runs _ _ _).trans rfl, zz_1 rfl tl_X12_runs, zz_1 rfl tl_X12_runs, zz_1 rfl tl_X12_runs, zz_1 rfl tl_X12_runs, fun L r M => (zz_1 rfl tl_X12_runs _ _ _).trans rfl, zz_1 rfl tl_X12_runs, fun L r M => (zz_1 rfl tl_X12_runs _ _ _).trans rfl, zz_1 rfl tl_X12_runs, zz_1 rfl tl_X12_runs, zz_1 rfl tl_X12_runs, zz_1 rfl tl_X12_runs, fun L r M => (zz_1 rfl tl_X12_runs _ _ _).trans rfl, zz_1 rfl tl_X12_runs, fun L a0 a1 r M => (zz_1 rfl tl_X12_runs _ _ _).trans rfl, zz_1 rfl tl_X12_runs, zz_1 rfl tl_X12_runs, zz_1 rfl tl_X12_runs, zz_1 rfl tl_X12_runs, zz_1 rfl tl_X12_runs, fun L r M => (zz_1 rfl tl_X12_runs _ _ _).trans rfl, zz_1 rfl tl_X12_runs, fun L a0 a1 r M => (zz_1 rfl tl_X12_runs _ _ _).trans rfl, zz_1 rfl tl_X12_runs, zz_1 rfl tl_X12_runs, zz_1 rfl tl_X12_runs, fun L r M => (zz_1 rfl tl_X12_runs _ _ _).trans rfl, zz_1 rfl tl_X12_runs, fun L a0 a1 r M => (zz_1 rfl tl_X12_runs _ _ _).trans rfl, zz_1 rfl tl_X12_runs, zz_1 rfl tl_X12_runs, zz_1 rfl tl_X12_runs, zz_1 rfl tl_X12_runs, zz_1 rfl tl_X12_runs, fun L a1 a2 a0 r M => (zz_1 rfl tl_X12_runs _ _ _).trans rfl, zz_1 rfl tl_X12_runs, zz_1 rfl tl_X12_runs, zz_1 rfl tl_X12_runs, fun L r M => (zz_1 rfl tl_X12_runs _ _ _).trans rfl, zz_1 rfl tl_X12_runs, zz_1 rfl tl_X12_runs, zz_1 rfl tl_X12_runs, fun L a1 a0 r M => (zz_1 rfl tl_X12_runs _ _ _).trans rfl, zz_1 rfl tl_X12_runs, zz_1 rfl tl_X12_runs, zz_1 rfl tl_X12_runs, fun L a0 r M => (zz_1 rfl tl_X12_runs _ _ _).trans rfl, zz_1 rfl tl_X12_runs, zz_1 rfl tl_X12_runs, zz_1 rfl tl_X12_runs, fun L r M => (zz_1 rfl tl_X12_runs _ _ _).trans rfl, zz_1 rfl tl_X12_runs, fun L r M => (zz_1 rfl tl_X12_runs _ _ _).trans rfl, zz_1 rfl tl_X12_runs, fun L a0 a1 a2 r M => (zz_1 rfl tl_X12_runs _ _ _).trans rfl, zz_1 rfl tl_X12_runs, zz_1 rfl tl_X12_runs, zz_1 rfl tl_X12_runs, fun L a0 r M => (zz_1 rfl tl_X12_runs _ _ _).trans rfl, zz_1 rfl tl_X12_runs, zz_1 rfl tl_X12_runs, zz_1 rfl tl_X12_runs, zz_1 rfl tl_X12_runs, fun L a0 a1 r M => (zz_1 rfl tl_X12_runs _ _ _).trans rfl, zz_1 rfl tl_X12_runs, zz_1 rfl tl_X12_runs, zz_1 rfl tl_X12_runs, zz_1 rfl tl_X12_runs, fun L a0 a1 r M => (zz_1 rfl tl_X12_runs _ _ _).trans rfl, zz_1 rfl tl_X12_runs, zz_1 rfl tl_X12_runs, zz_1 rfl tl_X12_runs, zz_1 rfl tl_X12_runs, zz_1 rfl tl_X12_runs, zz_1 rfl tl_X12_runs, zz_1 rfl tl_X12_runs, zz_1 rfl tl_X12_runs, zz_1 rfl tl_X12_runs, zz_1 rfl tl_X12_runs, zz_1 rfl tl_X12_runs, zz_1 rfl tl_X12_runs, zz_1 rfl tl_X12_runs, fun L r M => (zz_1 rfl tl_X12_runs _ _ _).trans rfl, zz_1 rfl tl_X12_runs, zz_1 rfl tl_X12_runs, zz_1 rfl tl_X12_runs, zz_1 rfl tl_X12_runs, fun L a1 a2 a0 r M => (zz_1 rfl tl_X12_runs _ _ _).trans rfl, zz_1 rfl tl_X12_runs, fun L r M => (zz_1 rfl tl_X12_runs _ _ _).trans rfl, zz_1 rfl tl_X12_runs, fun L r M => (zz_1 rfl tl_X12_runs _ _ _).trans rfl, zz_1 rfl tl_X12_runs, fun L a0 a1 a2 r M => (zz_1 rfl tl_X12_runs _ _ _).trans rfl, zz_1 rfl tl_X12_runs, zz_1 rfl tl_X12_runs, zz_1 rfl tl_X12_runs, zz_1 rfl tl_X12_runs, zz_1 rfl tl_X12_runs, zz_1 rfl tl_X12_runs, zz_1 rfl tl_X12_runs, zz_1 rfl tl_X12_runs, fun L a0 a1 r M => (zz_1 rfl tl_X12_runs _ _ _).trans rfl, zz_1 rfl tl_X12_runs, zz_1 rfl tl_X12_runs, fun L r M => (zz_1 rfl tl_X12_runs _ _ _).trans rfl, zz_1 rfl tl_X12_runs, fun L a0 a1 r M => (zz_1 rfl tl_X12_runs _ _ _).trans rfl, fun L a0 r M => (zz_1 rfl tl_X12_runs _ _ _).trans rfl, zz_1 rfl tl_X12_runs, zz_1 rfl tl_X12_runs, zz_1 rfl tl_X12_runs, fun L a0 a1 r M => (zz_1 rfl tl_X12_runs _ _ _).trans rfl, zz_1 rfl tl_X12_runs, zz_1 rfl tl_X12_runs, zz_1 rfl tl_X12_runs, zz_1 rfl tl_X12_runs, zz_1 rfl tl_X12_runs, zz_1 rfl tl_X12_runs, zz_1 rfl tl_X12_runs, zz_1 rfl tl_X12_runs, fun L r M => (zz_1 rfl tl_X12_runs _ _ _).trans rfl, zz_1 rfl tl_X12_runs, zz_1 rfl tl_X12_runs, zz_1 rfl tl_X12_runs, zz_1 rfl tl_X12_runs, zz_1 rfl tl_X12_runs, zz_1 rfl tl_X12_runs, zz_1 rfl tl_X12_runs, zz_1 rfl tl_X12_runs, fun L a1 a2 a0 r M => (zz_1 rfl tl_X12_runs _ _ _).trans rfl, zz_1 rfl tl_X12_runs, fun L r M => (zz_1 rfl tl_X12_runs _ _ _).trans rfl, zz_1 rfl tl_X12_runs, fun L r M => (zz_1 rfl tl_X12_runs _ _ _).trans rfl, zz_1 rfl tl_X12_runs, fun L a0 a1 a2 r M => (zz_1 rfl tl_X12_runs _ _ _).trans rfl, zz_1 rfl tl_X12_runs⟩
set_option maxRecDepth 100000 in
theorem s_X12_runs (v : Nat) (M : zzMd) : fX12_runs [.ref v] M = zz_ev tX12_runs 0 [some (.ref v), none, none, none, none, none, none] [] M := rfl
set_option maxRecDepth 100000 in
theorem e_X12_owned : (∀ L st M, zz_ev tX12_owned 0 L st M = zo_pushI 0 1 (zz_ev tX12_owned) L st M) ∧
  (∀ L st M, zz_ev tX12_owned 1 L st M = zo_istore 1 2 (zz_ev tX12_owned) L st M) ∧
  (∀ L st M, zz_ev tX12_owned 2 L st M = zo_pushI 0 3 (zz_ev tX12_owned) L st M) ∧
  (∀ L st M, zz_ev tX12_owned 3 L st M = zo_istore 2 4 (zz_ev tX12_owned) L st M) ∧
  (∀ L st M, zz_ev tX12_owned 5 L st M = zo_aload 0 6 (zz_ev tX12_owned) L st M) ∧
  (∀ (L : zzLc) (r : List Value) (M : zzMd), zz_ev tX12_owned 6 L (.ref 0 :: r) M = zz_ev tX12_owned 9 L (.int (M.1 0 5) :: r) M) ∧
  (∀ L st M, zz_ev tX12_owned 9 L st M = zo_icmp (fun x y => decide (y ≤ x)) 50 12 (zz_ev tX12_owned) L st M) ∧
  (∀ L st M, zz_ev tX12_owned 12 L st M = zo_iload 1 13 (zz_ev tX12_owned) L st M) ∧
  (∀ L st M, zz_ev tX12_owned 13 L st M = zo_aload 0 14 (zz_ev tX12_owned) L st M) ∧
  (∀ L st M, zz_ev tX12_owned 14 L st M = zo_iload 2 15 (zz_ev tX12_owned) L st M) ∧
  (∀ (L : zzLc) (a0 : Int32) (r : List Value) (M : zzMd), zz_ev tX12_owned 15 L (.int a0 :: .ref 0 :: r) M = bif zz_cat8 r then zz_backN (zz_ev tX12_owned) 18 L r (fX12_isGoneThere [.ref 0, .int a0] M) else none) ∧
  (∀ L st M, zz_ev tX12_owned 18 L st M = zo_if (fun x => decide (¬ x = 0)) 41 21 (zz_ev tX12_owned) L st M) ∧
  (∀ L st M, zz_ev tX12_owned 21 L st M = zo_aload 0 22 (zz_ev tX12_owned) L st M) ∧
  (∀ L st M, zz_ev tX12_owned 22 L st M = zo_aload 0 23 (zz_ev tX12_owned) L st M) ∧
  (∀ L st M, zz_ev tX12_owned 23 L st M = zo_iload 2 24 (zz_ev tX12_owned) L st M) ∧
  (∀ (L : zzLc) (a0 : Int32) (r : List Value) (M : zzMd), zz_ev tX12_owned 24 L (.int a0 :: .ref 0 :: r) M = bif zz_cat8 r then zz_backN (zz_ev tX12_owned) 27 L r (fX12_view [.ref 0, .int a0] M) else none) ∧
  (∀ (L : zzLc) (a0 : Int64) (r : List Value) (M : zzMd), zz_ev tX12_owned 27 L (.long a0 :: .ref 0 :: r) M = bif zz_cat8 r then zz_backN (zz_ev tX12_owned) 30 L r (fX12_ownerIn [.ref 0, .long a0] M) else none) ∧
  (∀ L st M, zz_ev tX12_owned 30 L st M = zo_aload 0 31 (zz_ev tX12_owned) L st M) ∧
  (∀ (L : zzLc) (r : List Value) (M : zzMd), zz_ev tX12_owned 31 L (.ref 0 :: r) M = zz_ev tX12_owned 34 L (.int (M.1 0 43) :: r) M) ∧
  (∀ L st M, zz_ev tX12_owned 34 L st M = zo_icmp (fun x y => decide (¬ x = y)) 41 37 (zz_ev tX12_owned) L st M) ∧
  (∀ L st M, zz_ev tX12_owned 37 L st M = zo_pushI 1 38 (zz_ev tX12_owned) L st M) ∧
  (∀ L st M, zz_ev tX12_owned 38 L st M = zo_goto 42 (zz_ev tX12_owned) L st M) ∧
  (∀ L st M, zz_ev tX12_owned 41 L st M = zo_pushI 0 42 (zz_ev tX12_owned) L st M) ∧
  (∀ L st M, zz_ev tX12_owned 42 L st M = zo_ii (fun x y => x + y) 43 (zz_ev tX12_owned) L st M) ∧
  (∀ L st M, zz_ev tX12_owned 43 L st M = zo_istore 1 44 (zz_ev tX12_owned) L st M) ∧
  (∀ L st M, zz_ev tX12_owned 44 L st M = zo_iinc 2 1 47 (zz_ev tX12_owned) L st M) ∧
  (∀ L st M, zz_ev tX12_owned 47 L st M = zo_goto 4 (zz_ev tX12_owned) L st M) ∧
  (∀ L st M, zz_ev tX12_owned 50 L st M = zo_iload 1 51 (zz_ev tX12_owned) L st M) ∧
  (∀ L st M, zz_ev tX12_owned 51 L st M = zo_iret false (zz_ev tX12_owned) L st M) :=
  ⟨zz_1 rfl tl_X12_owned, zz_1 rfl tl_X12_owned, zz_1 rfl tl_X12_owned, zz_1 rfl tl_X12_owned, zz_1 rfl tl_X12_owned, fun L r M => (zz_1 rfl tl_X12_owned _ _ _).trans rfl, zz_1 rfl tl_X12_owned, zz_1 rfl tl_X12_owned, zz_1 rfl tl_X12_owned, zz_1 rfl tl_X12_owned, fun L a0 r M => (zz_1 rfl tl_X12_owned _ _ _).trans rfl, zz_1 rfl tl_X12_owned, zz_1 rfl tl_X12_owned, zz_1 rfl tl_X12_owned, zz_1 rfl tl_X12_owned, fun L a0 r M => (zz_1 rfl tl_X12_owned _ _ _).trans rfl, fun L a0 r M => (zz_1 rfl tl_X12_owned _ _ _).trans rfl, zz_1 rfl tl_X12_owned, fun L r M => (zz_1 rfl tl_X12_owned _ _ _).trans rfl, zz_1 rfl tl_X12_owned, zz_1 rfl tl_X12_owned, zz_1 rfl tl_X12_owned, zz_1 rfl tl_X12_owned, zz_1 rfl tl_X12_owned, zz_1 rfl tl_X12_owned, zz_1 rfl tl_X12_owned, zz_1 rfl tl_X12_owned, zz_1 rfl tl_X12_owned, zz_1 rfl tl_X12_owned⟩
set_option maxRecDepth 100000 in
theorem e_X12_owned_4 : (∀ L st M, zz_ev tX12_owned 4 L st M = zo_iload 2 5 (zz_ev tX12_owned) L st M) := zz_1 rfl tl_X12_owned
set_option maxRecDepth 100000 in
theorem s_X12_owned (v : Nat) (M : zzMd) : fX12_owned [.ref v] M = zz_ev tX12_owned 0 [some (.ref v), none, none] [] M := rfl
set_option maxRecDepth 100000 in
theorem e_X12_passesOn : (∀ L st M, zz_ev tX12_passesOn 0 L st M = zo_pushI 1 1 (zz_ev tX12_passesOn) L st M) ∧
  (∀ L st M, zz_ev tX12_passesOn 1 L st M = zo_istore 2 2 (zz_ev tX12_passesOn) L st M) ∧
  (∀ L st M, zz_ev tX12_passesOn 2 L st M = zo_pushI 0 3 (zz_ev tX12_passesOn) L st M) ∧
  (∀ L st M, zz_ev tX12_passesOn 3 L st M = zo_istore 3 4 (zz_ev tX12_passesOn) L st M) ∧
  (∀ L st M, zz_ev tX12_passesOn 5 L st M = zo_aload 0 6 (zz_ev tX12_passesOn) L st M) ∧
  (∀ (L : zzLc) (r : List Value) (M : zzMd), zz_ev tX12_passesOn 6 L (.ref 0 :: r) M = zz_ev tX12_passesOn 9 L (.int (M.1 0 5) :: r) M) ∧
  (∀ L st M, zz_ev tX12_passesOn 9 L st M = zo_icmp (fun x y => decide (y ≤ x)) 143 12 (zz_ev tX12_passesOn) L st M) ∧
  (∀ L st M, zz_ev tX12_passesOn 12 L st M = zo_iload 2 13 (zz_ev tX12_passesOn) L st M) ∧
  (∀ L st M, zz_ev tX12_passesOn 13 L st M = zo_if (fun x => decide (x = 0)) 143 16 (zz_ev tX12_passesOn) L st M) ∧
  (∀ L st M, zz_ev tX12_passesOn 16 L st M = zo_aload 0 17 (zz_ev tX12_passesOn) L st M) ∧
  (∀ L st M, zz_ev tX12_passesOn 17 L st M = zo_iload 3 18 (zz_ev tX12_passesOn) L st M) ∧
  (∀ (L : zzLc) (a0 : Int32) (r : List Value) (M : zzMd), zz_ev tX12_passesOn 18 L (.int a0 :: .ref 0 :: r) M = bif zz_cat8 r then zz_backN (zz_ev tX12_passesOn) 21 L r (fX12_isGoneThere [.ref 0, .int a0] M) else none) ∧
  (∀ L st M, zz_ev tX12_passesOn 21 L st M = zo_if (fun x => decide (¬ x = 0)) 44 24 (zz_ev tX12_passesOn) L st M) ∧
  (∀ L st M, zz_ev tX12_passesOn 24 L st M = zo_aload 0 25 (zz_ev tX12_passesOn) L st M) ∧
  (∀ L st M, zz_ev tX12_passesOn 25 L st M = zo_aload 0 26 (zz_ev tX12_passesOn) L st M) ∧
  (∀ L st M, zz_ev tX12_passesOn 26 L st M = zo_iload 3 27 (zz_ev tX12_passesOn) L st M) ∧
  (∀ (L : zzLc) (a0 : Int32) (r : List Value) (M : zzMd), zz_ev tX12_passesOn 27 L (.int a0 :: .ref 0 :: r) M = bif zz_cat8 r then zz_backN (zz_ev tX12_passesOn) 30 L r (fX12_view [.ref 0, .int a0] M) else none) ∧
  (∀ (L : zzLc) (a0 : Int64) (r : List Value) (M : zzMd), zz_ev tX12_passesOn 30 L (.long a0 :: .ref 0 :: r) M = bif zz_cat8 r then zz_backN (zz_ev tX12_passesOn) 33 L r (fX12_ownerIn [.ref 0, .long a0] M) else none) ∧
  (∀ L st M, zz_ev tX12_passesOn 33 L st M = zo_aload 0 34 (zz_ev tX12_passesOn) L st M) ∧
  (∀ (L : zzLc) (r : List Value) (M : zzMd), zz_ev tX12_passesOn 34 L (.ref 0 :: r) M = zz_ev tX12_passesOn 37 L (.int (M.1 0 43) :: r) M) ∧
  (∀ L st M, zz_ev tX12_passesOn 37 L st M = zo_icmp (fun x y => decide (¬ x = y)) 44 40 (zz_ev tX12_passesOn) L st M) ∧
  (∀ L st M, zz_ev tX12_passesOn 40 L st M = zo_pushI 1 41 (zz_ev tX12_passesOn) L st M) ∧
  (∀ L st M, zz_ev tX12_passesOn 41 L st M = zo_goto 45 (zz_ev tX12_passesOn) L st M) ∧
  (∀ L st M, zz_ev tX12_passesOn 44 L st M = zo_pushI 0 45 (zz_ev tX12_passesOn) L st M) ∧
  (∀ L st M, zz_ev tX12_passesOn 45 L st M = zo_istore 4 47 (zz_ev tX12_passesOn) L st M) ∧
  (∀ L st M, zz_ev tX12_passesOn 47 L st M = zo_iload 4 49 (zz_ev tX12_passesOn) L st M) ∧
  (∀ L st M, zz_ev tX12_passesOn 49 L st M = zo_if (fun x => decide (x = 0)) 71 52 (zz_ev tX12_passesOn) L st M) ∧
  (∀ L st M, zz_ev tX12_passesOn 52 L st M = zo_iload 1 53 (zz_ev tX12_passesOn) L st M) ∧
  (∀ L st M, zz_ev tX12_passesOn 53 L st M = zo_pushI 3 54 (zz_ev tX12_passesOn) L st M) ∧
  (∀ L st M, zz_ev tX12_passesOn 54 L st M = zo_icmp (fun x y => decide (x = y)) 67 57 (zz_ev tX12_passesOn) L st M) ∧
  (∀ L st M, zz_ev tX12_passesOn 57 L st M = zo_aload 0 58 (zz_ev tX12_passesOn) L st M) ∧
  (∀ L st M, zz_ev tX12_passesOn 58 L st M = zo_iload 3 59 (zz_ev tX12_passesOn) L st M) ∧
  (∀ L st M, zz_ev tX12_passesOn 59 L st M = zo_pushI 13 61 (zz_ev tX12_passesOn) L st M) ∧
  (∀ (L : zzLc) (a0 a1 : Int32) (r : List Value) (M : zzMd), zz_ev tX12_passesOn 61 L (.int a1 :: .int a0 :: .ref 0 :: r) M = bif zz_cat8 r then zz_backN (zz_ev tX12_passesOn) 64 L r (fX12_viewed [.ref 0, .int a0, .int a1] M) else none) ∧
  (∀ L st M, zz_ev tX12_passesOn 64 L st M = zo_if (fun x => decide (¬ x = 0)) 71 67 (zz_ev tX12_passesOn) L st M) ∧
  (∀ L st M, zz_ev tX12_passesOn 67 L st M = zo_pushI 1 68 (zz_ev tX12_passesOn) L st M) ∧
  (∀ L st M, zz_ev tX12_passesOn 68 L st M = zo_goto 72 (zz_ev tX12_passesOn) L st M) ∧
  (∀ L st M, zz_ev tX12_passesOn 71 L st M = zo_pushI 0 72 (zz_ev tX12_passesOn) L st M) ∧
  (∀ L st M, zz_ev tX12_passesOn 72 L st M = zo_istore 5 74 (zz_ev tX12_passesOn) L st M) ∧
  (∀ L st M, zz_ev tX12_passesOn 74 L st M = zo_iload 1 75 (zz_ev tX12_passesOn) L st M) ∧
  (∀ L st M, zz_ev tX12_passesOn 75 L st M = zo_pushI 3 76 (zz_ev tX12_passesOn) L st M) ∧
  (∀ L st M, zz_ev tX12_passesOn 76 L st M = zo_icmp (fun x y => decide (¬ x = y)) 95 79 (zz_ev tX12_passesOn) L st M) ∧
  (∀ L st M, zz_ev tX12_passesOn 79 L st M = zo_aload 0 80 (zz_ev tX12_passesOn) L st M) ∧
  (∀ L st M, zz_ev tX12_passesOn 80 L st M = zo_aload 0 81 (zz_ev tX12_passesOn) L st M) ∧
  (∀ (L : zzLc) (r : List Value) (M : zzMd), zz_ev tX12_passesOn 81 L (.ref 0 :: r) M = zz_ev tX12_passesOn 84 L (.ref 7 :: r) M) ∧
  (∀ L st M, zz_ev tX12_passesOn 84 L st M = zo_iload 3 85 (zz_ev tX12_passesOn) L st M) ∧
  (∀ L st M, zz_ev tX12_passesOn 85 L st M = zo_lald zzSR 86 (zz_ev tX12_passesOn) L st M) ∧
  (∀ L st M, zz_ev tX12_passesOn 86 L st M = zo_pushI 11 88 (zz_ev tX12_passesOn) L st M) ∧
  (∀ L st M, zz_ev tX12_passesOn 88 L st M = zo_pushI 0 89 (zz_ev tX12_passesOn) L st M) ∧
  (∀ (L : zzLc) (a1 a2 : Int32) (a0 : Int64) (r : List Value) (M : zzMd), zz_ev tX12_passesOn 89 L (.int a2 :: .int a1 :: .long a0 :: .ref 0 :: r) M = bif zz_cat8 r then zz_backN (zz_ev tX12_passesOn) 92 L r (fX12_with [.ref 0, .long a0, .int a1, .int a2] M) else none) ∧
  (∀ L st M, zz_ev tX12_passesOn 92 L st M = zo_goto 108 (zz_ev tX12_passesOn) L st M) ∧
  (∀ L st M, zz_ev tX12_passesOn 95 L st M = zo_aload 0 96 (zz_ev tX12_passesOn) L st M) ∧
  (∀ L st M, zz_ev tX12_passesOn 96 L st M = zo_aload 0 97 (zz_ev tX12_passesOn) L st M) ∧
  (∀ (L : zzLc) (r : List Value) (M : zzMd), zz_ev tX12_passesOn 97 L (.ref 0 :: r) M = zz_ev tX12_passesOn 100 L (.ref 7 :: r) M) ∧
  (∀ L st M, zz_ev tX12_passesOn 100 L st M = zo_iload 3 101 (zz_ev tX12_passesOn) L st M) ∧
  (∀ L st M, zz_ev tX12_passesOn 101 L st M = zo_lald zzSR 102 (zz_ev tX12_passesOn) L st M) ∧
  (∀ L st M, zz_ev tX12_passesOn 102 L st M = zo_pushI 13 104 (zz_ev tX12_passesOn) L st M) ∧
  (∀ L st M, zz_ev tX12_passesOn 104 L st M = zo_pushI 1 105 (zz_ev tX12_passesOn) L st M) ∧
  (∀ (L : zzLc) (a1 a2 : Int32) (a0 : Int64) (r : List Value) (M : zzMd), zz_ev tX12_passesOn 105 L (.int a2 :: .int a1 :: .long a0 :: .ref 0 :: r) M = bif zz_cat8 r then zz_backN (zz_ev tX12_passesOn) 108 L r (fX12_with [.ref 0, .long a0, .int a1, .int a2] M) else none) ∧
  (∀ L st M, zz_ev tX12_passesOn 108 L st M = zo_lstore 6 110 (zz_ev tX12_passesOn) L st M) ∧
  (∀ L st M, zz_ev tX12_passesOn 110 L st M = zo_iload 5 112 (zz_ev tX12_passesOn) L st M) ∧
  (∀ L st M, zz_ev tX12_passesOn 112 L st M = zo_if (fun x => decide (x = 0)) 131 115 (zz_ev tX12_passesOn) L st M) ∧
  (∀ L st M, zz_ev tX12_passesOn 115 L st M = zo_aload 0 116 (zz_ev tX12_passesOn) L st M) ∧
  (∀ L st M, zz_ev tX12_passesOn 116 L st M = zo_iload 3 117 (zz_ev tX12_passesOn) L st M) ∧
  (∀ L st M, zz_ev tX12_passesOn 117 L st M = zo_lload 6 119 (zz_ev tX12_passesOn) L st M) ∧
  (∀ L st M, zz_ev tX12_passesOn 119 L st M = zo_aload 0 120 (zz_ev tX12_passesOn) L st M) ∧
  (∀ (L : zzLc) (r : List Value) (M : zzMd), zz_ev tX12_passesOn 120 L (.ref 0 :: r) M = zz_ev tX12_passesOn 123 L (.ref 8 :: r) M) ∧
  (∀ L st M, zz_ev tX12_passesOn 123 L st M = zo_iload 3 124 (zz_ev tX12_passesOn) L st M) ∧
  (∀ L st M, zz_ev tX12_passesOn 124 L st M = zo_lald zzSR 125 (zz_ev tX12_passesOn) L st M) ∧
  (∀ (L : zzLc) (a0 : Int32) (a1 a2 : Int64) (r : List Value) (M : zzMd), zz_ev tX12_passesOn 125 L (.long a2 :: .long a1 :: .int a0 :: .ref 0 :: r) M = bif zz_cat8 r then zz_backN (zz_ev tX12_passesOn) 128 L r (fX12_writesIt [.ref 0, .int a0, .long a1, .long a2] M) else none) ∧
  (∀ L st M, zz_ev tX12_passesOn 128 L st M = zo_if (fun x => decide (x = 0)) 135 131 (zz_ev tX12_passesOn) L st M) ∧
  (∀ L st M, zz_ev tX12_passesOn 131 L st M = zo_pushI 1 132 (zz_ev tX12_passesOn) L st M) ∧
  (∀ L st M, zz_ev tX12_passesOn 132 L st M = zo_goto 136 (zz_ev tX12_passesOn) L st M) ∧
  (∀ L st M, zz_ev tX12_passesOn 135 L st M = zo_pushI 0 136 (zz_ev tX12_passesOn) L st M) ∧
  (∀ L st M, zz_ev tX12_passesOn 136 L st M = zo_istore 2 137 (zz_ev tX12_passesOn) L st M) ∧
  (∀ L st M, zz_ev tX12_passesOn 137 L st M = zo_iinc 3 1 140 (zz_ev tX12_passesOn) L st M) ∧
  (∀ L st M, zz_ev tX12_passesOn 140 L st M = zo_goto 4 (zz_ev tX12_passesOn) L st M) ∧
  (∀ L st M, zz_ev tX12_passesOn 143 L st M = zo_iload 2 144 (zz_ev tX12_passesOn) L st M) ∧
  (∀ L st M, zz_ev tX12_passesOn 144 L st M = zo_iret true (zz_ev tX12_passesOn) L st M) :=
  ⟨zz_1 rfl tl_X12_passesOn, zz_1 rfl tl_X12_passesOn, zz_1 rfl tl_X12_passesOn, zz_1 rfl tl_X12_passesOn, zz_1 rfl tl_X12_passesOn, fun L r M => (zz_1 rfl tl_X12_passesOn _ _ _).trans rfl, zz_1 rfl tl_X12_passesOn, zz_1 rfl tl_X12_passesOn, zz_1 rfl tl_X12_passesOn, zz_1 rfl tl_X12_passesOn, zz_1 rfl tl_X12_passesOn, fun L a0 r M => (zz_1 rfl tl_X12_passesOn _ _ _).trans rfl, zz_1 rfl tl_X12_passesOn, zz_1 rfl tl_X12_passesOn, zz_1 rfl tl_X12_passesOn, zz_1 rfl tl_X12_passesOn, fun L a0 r M => (zz_1 rfl tl_X12_passesOn _ _ _).trans rfl, fun L a0 r M => (zz_1 rfl tl_X12_passesOn _ _ _).trans rfl, zz_1 rfl tl_X12_passesOn, fun L r M => (zz_1 rfl tl_X12_passesOn _ _ _).trans rfl, zz_1 rfl tl_X12_passesOn, zz_1 rfl tl_X12_passesOn, zz_1 rfl tl_X12_passesOn, zz_1 rfl tl_X12_passesOn, zz_1 rfl tl_X12_passesOn, zz_1 rfl tl_X12_passesOn, zz_1 rfl tl_X12_passesOn, zz_1 rfl tl_X12_passesOn, zz_1 rfl tl_X12_passesOn, zz_1 rfl tl_X12_passesOn, zz_1 rfl tl_X12_passesOn, zz_1 rfl tl_X12_passesOn, zz_1 rfl tl_X12_passesOn, fun L a0 a1 r M => (zz_1 rfl tl_X12_passesOn _ _ _).trans rfl, zz_1 rfl tl_X12_passesOn, zz_1 rfl tl_X12_passesOn, zz_1 rfl tl_X12_passesOn, zz_1 rfl tl_X12_passesOn, zz_1 rfl tl_X12_passesOn, zz_1 rfl tl_X12_passesOn, zz_1 rfl tl_X12_passesOn, zz_1 rfl tl_X12_passesOn, zz_1 rfl tl_X12_passesOn, zz_1 rfl tl_X12_passesOn, fun L r M => (zz_1 rfl tl_X12_passesOn _ _ _).trans rfl, zz_1 rfl tl_X12_passesOn, zz_1 rfl tl_X12_passesOn, zz_1 rfl tl_X12_passesOn, zz_1 rfl tl_X12_passesOn, fun L a1 a2 a0 r M => (zz_1 rfl tl_X12_passesOn _ _ _).trans rfl, zz_1 rfl tl_X12_passesOn, zz_1 rfl tl_X12_passesOn, zz_1 rfl tl_X12_passesOn, fun L r M => (zz_1 rfl tl_X12_passesOn _ _ _).trans rfl, zz_1 rfl tl_X12_passesOn, zz_1 rfl tl_X12_passesOn, zz_1 rfl tl_X12_passesOn, zz_1 rfl tl_X12_passesOn, fun L a1 a2 a0 r M => (zz_1 rfl tl_X12_passesOn _ _ _).trans rfl, zz_1 rfl tl_X12_passesOn, zz_1 rfl tl_X12_passesOn, zz_1 rfl tl_X12_passesOn, zz_1 rfl tl_X12_passesOn, zz_1 rfl tl_X12_passesOn, zz_1 rfl tl_X12_passesOn, zz_1 rfl tl_X12_passesOn, fun L r M => (zz_1 rfl tl_X12_passesOn _ _ _).trans rfl, zz_1 rfl tl_X12_passesOn, zz_1 rfl tl_X12_passesOn, fun L a0 a1 a2 r M => (zz_1 rfl tl_X12_passesOn _ _ _).trans rfl, zz_1 rfl tl_X12_passesOn, zz_1 rfl tl_X12_passesOn, zz_1 rfl tl_X12_passesOn, zz_1 rfl tl_X12_passesOn, zz_1 rfl tl_X12_passesOn, zz_1 rfl tl_X12_passesOn, zz_1 rfl tl_X12_passesOn, zz_1 rfl tl_X12_passesOn, zz_1 rfl tl_X12_passesOn⟩
set_option maxRecDepth 100000 in
theorem e_X12_passesOn_4 : (∀ L st M, zz_ev tX12_passesOn 4 L st M = zo_iload 3 5 (zz_ev tX12_passesOn) L st M) := zz_1 rfl tl_X12_passesOn
set_option maxRecDepth 100000 in
theorem s_X12_passesOn (a0 : Int32) (v : Nat) (M : zzMd) : fX12_passesOn [.ref v, .int a0] M = zz_ev tX12_passesOn 0 [some (.ref v), some (.int a0), none, none, none, none, none, none] [] M := rfl
set_option maxRecDepth 100000 in
theorem e_X12_collects : (∀ L st M, zz_ev tX12_collects 0 L st M = zo_aload 0 1 (zz_ev tX12_collects) L st M) ∧
  (∀ L st M, zz_ev tX12_collects 1 L st M = zo_aload 0 2 (zz_ev tX12_collects) L st M) ∧
  (∀ (L : zzLc) (r : List Value) (M : zzMd), zz_ev tX12_collects 2 L (.ref 0 :: r) M = zz_ev tX12_collects 5 L (.int (M.1 0 43) :: r) M) ∧
  (∀ (L : zzLc) (a0 : Int32) (r : List Value) (M : zzMd), zz_ev tX12_collects 5 L (.int a0 :: .ref 0 :: r) M = bif zz_cat8 r then zz_backN (zz_ev tX12_collects) 8 L r (fX12_isGoneThere [.ref 0, .int a0] M) else none) ∧
  (∀ L st M, zz_ev tX12_collects 8 L st M = zo_if (fun x => decide (x = 0)) 13 11 (zz_ev tX12_collects) L st M) ∧
  (∀ L st M, zz_ev tX12_collects 11 L st M = zo_pushI 1 12 (zz_ev tX12_collects) L st M) ∧
  (∀ L st M, zz_ev tX12_collects 12 L st M = zo_iret true (zz_ev tX12_collects) L st M) ∧
  (∀ L st M, zz_ev tX12_collects 13 L st M = zo_aload 0 14 (zz_ev tX12_collects) L st M) ∧
  (∀ L st M, zz_ev tX12_collects 14 L st M = zo_aload 0 15 (zz_ev tX12_collects) L st M) ∧
  (∀ (L : zzLc) (r : List Value) (M : zzMd), zz_ev tX12_collects 15 L (.ref 0 :: r) M = zz_ev tX12_collects 18 L (.int (M.1 0 43) :: r) M) ∧
  (∀ L st M, zz_ev tX12_collects 18 L st M = zo_pushI 13 20 (zz_ev tX12_collects) L st M) ∧
  (∀ (L : zzLc) (a0 a1 : Int32) (r : List Value) (M : zzMd), zz_ev tX12_collects 20 L (.int a1 :: .int a0 :: .ref 0 :: r) M = bif zz_cat8 r then zz_backN (zz_ev tX12_collects) 23 L r (fX12_viewed [.ref 0, .int a0, .int a1] M) else none) ∧
  (∀ L st M, zz_ev tX12_collects 23 L st M = zo_istore 1 24 (zz_ev tX12_collects) L st M) ∧
  (∀ L st M, zz_ev tX12_collects 24 L st M = zo_iload 1 25 (zz_ev tX12_collects) L st M) ∧
  (∀ L st M, zz_ev tX12_collects 25 L st M = zo_if (fun x => decide (¬ x = 0)) 92 28 (zz_ev tX12_collects) L st M) ∧
  (∀ L st M, zz_ev tX12_collects 28 L st M = zo_aload 0 29 (zz_ev tX12_collects) L st M) ∧
  (∀ L st M, zz_ev tX12_collects 29 L st M = zo_aload 0 30 (zz_ev tX12_collects) L st M) ∧
  (∀ L st M, zz_ev tX12_collects 30 L st M = zo_aload 0 31 (zz_ev tX12_collects) L st M) ∧
  (∀ (L : zzLc) (r : List Value) (M : zzMd), zz_ev tX12_collects 31 L (.ref 0 :: r) M = zz_ev tX12_collects 34 L (.int (M.1 0 43) :: r) M) ∧
  (∀ (L : zzLc) (a0 : Int32) (r : List Value) (M : zzMd), zz_ev tX12_collects 34 L (.int a0 :: .ref 0 :: r) M = bif zz_cat8 r then zz_backN (zz_ev tX12_collects) 37 L r (fX12_view [.ref 0, .int a0] M) else none) ∧
  (∀ (L : zzLc) (a0 : Int64) (r : List Value) (M : zzMd), zz_ev tX12_collects 37 L (.long a0 :: .ref 0 :: r) M = bif zz_cat8 r then zz_backN (zz_ev tX12_collects) 40 L r (fX12_ownerIn [.ref 0, .long a0] M) else none) ∧
  (∀ L st M, zz_ev tX12_collects 40 L st M = zo_istore 2 41 (zz_ev tX12_collects) L st M) ∧
  (∀ L st M, zz_ev tX12_collects 41 L st M = zo_iload 2 42 (zz_ev tX12_collects) L st M) ∧
  (∀ L st M, zz_ev tX12_collects 42 L st M = zo_pushI (-1) 43 (zz_ev tX12_collects) L st M) ∧
  (∀ L st M, zz_ev tX12_collects 43 L st M = zo_icmp (fun x y => decide (x = y)) 69 46 (zz_ev tX12_collects) L st M) ∧
  (∀ L st M, zz_ev tX12_collects 46 L st M = zo_aload 0 47 (zz_ev tX12_collects) L st M) ∧
  (∀ L st M, zz_ev tX12_collects 47 L st M = zo_iload 2 48 (zz_ev tX12_collects) L st M) ∧
  (∀ (L : zzLc) (a0 : Int32) (r : List Value) (M : zzMd), zz_ev tX12_collects 48 L (.int a0 :: .ref 0 :: r) M = bif zz_cat8 r then zz_backN (zz_ev tX12_collects) 51 L r (fX12_isSeen [.ref 0, .int a0] M) else none) ∧
  (∀ L st M, zz_ev tX12_collects 51 L st M = zo_if (fun x => decide (x = 0)) 69 54 (zz_ev tX12_collects) L st M) ∧
  (∀ L st M, zz_ev tX12_collects 54 L st M = zo_aload 0 55 (zz_ev tX12_collects) L st M) ∧
  (∀ L st M, zz_ev tX12_collects 55 L st M = zo_iload 2 56 (zz_ev tX12_collects) L st M) ∧
  (∀ L st M, zz_ev tX12_collects 56 L st M = zo_pushI 13 58 (zz_ev tX12_collects) L st M) ∧
  (∀ (L : zzLc) (a0 a1 : Int32) (r : List Value) (M : zzMd), zz_ev tX12_collects 58 L (.int a1 :: .int a0 :: .ref 0 :: r) M = bif zz_cat8 r then zz_backN (zz_ev tX12_collects) 61 L r (fX12_viewed [.ref 0, .int a0, .int a1] M) else none) ∧
  (∀ L st M, zz_ev tX12_collects 61 L st M = zo_pushI 4 62 (zz_ev tX12_collects) L st M) ∧
  (∀ L st M, zz_ev tX12_collects 62 L st M = zo_icmp (fun x y => decide (¬ x = y)) 69 65 (zz_ev tX12_collects) L st M) ∧
  (∀ L st M, zz_ev tX12_collects 65 L st M = zo_pushI 1 66 (zz_ev tX12_collects) L st M) ∧
  (∀ L st M, zz_ev tX12_collects 66 L st M = zo_goto 70 (zz_ev tX12_collects) L st M) ∧
  (∀ L st M, zz_ev tX12_collects 69 L st M = zo_pushI 0 70 (zz_ev tX12_collects) L st M) ∧
  (∀ L st M, zz_ev tX12_collects 70 L st M = zo_istore 3 71 (zz_ev tX12_collects) L st M) ∧
  (∀ L st M, zz_ev tX12_collects 71 L st M = zo_iload 3 72 (zz_ev tX12_collects) L st M) ∧
  (∀ L st M, zz_ev tX12_collects 72 L st M = zo_if (fun x => decide (x = 0)) 86 75 (zz_ev tX12_collects) L st M) ∧
  (∀ L st M, zz_ev tX12_collects 75 L st M = zo_aload 0 76 (zz_ev tX12_collects) L st M) ∧
  (∀ L st M, zz_ev tX12_collects 76 L st M = zo_aload 0 77 (zz_ev tX12_collects) L st M) ∧
  (∀ (L : zzLc) (r : List Value) (M : zzMd), zz_ev tX12_collects 77 L (.ref 0 :: r) M = zz_ev tX12_collects 80 L (.int (M.1 0 43) :: r) M) ∧
  (∀ (L : zzLc) (a0 : Int32) (r : List Value) (M : zzMd), zz_ev tX12_collects 80 L (.int a0 :: .ref 0 :: r) M = bif zz_cat8 r then zz_backN (zz_ev tX12_collects) 83 L r (fX12_deletes [.ref 0, .int a0] M) else none) ∧
  (∀ L st M, zz_ev tX12_collects 83 L st M = zo_if (fun x => decide (x = 0)) 90 86 (zz_ev tX12_collects) L st M) ∧
  (∀ L st M, zz_ev tX12_collects 86 L st M = zo_pushI 1 87 (zz_ev tX12_collects) L st M) ∧
  (∀ L st M, zz_ev tX12_collects 87 L st M = zo_goto 91 (zz_ev tX12_collects) L st M) ∧
  (∀ L st M, zz_ev tX12_collects 90 L st M = zo_pushI 0 91 (zz_ev tX12_collects) L st M) ∧
  (∀ L st M, zz_ev tX12_collects 91 L st M = zo_iret true (zz_ev tX12_collects) L st M) ∧
  (∀ L st M, zz_ev tX12_collects 92 L st M = zo_iload 1 93 (zz_ev tX12_collects) L st M) ∧
  (∀ L st M, zz_ev tX12_collects 93 L st M = zo_pushI 2 94 (zz_ev tX12_collects) L st M) ∧
  (∀ L st M, zz_ev tX12_collects 94 L st M = zo_icmp (fun x y => decide (x = y)) 110 97 (zz_ev tX12_collects) L st M) ∧
  (∀ L st M, zz_ev tX12_collects 97 L st M = zo_aload 0 98 (zz_ev tX12_collects) L st M) ∧
  (∀ (L : zzLc) (r : List Value) (M : zzMd), zz_ev tX12_collects 98 L (.ref 0 :: r) M = bif zz_cat8 r then zz_backN (zz_ev tX12_collects) 101 L r (fX12_owned [.ref 0] M) else none) ∧
  (∀ L st M, zz_ev tX12_collects 101 L st M = zo_if (fun x => decide (x ≤ 0)) 110 104 (zz_ev tX12_collects) L st M) ∧
  (∀ L st M, zz_ev tX12_collects 104 L st M = zo_aload 0 105 (zz_ev tX12_collects) L st M) ∧
  (∀ L st M, zz_ev tX12_collects 105 L st M = zo_iload 1 106 (zz_ev tX12_collects) L st M) ∧
  (∀ (L : zzLc) (a0 : Int32) (r : List Value) (M : zzMd), zz_ev tX12_collects 106 L (.int a0 :: .ref 0 :: r) M = bif zz_cat8 r then zz_backN (zz_ev tX12_collects) 109 L r (fX12_passesOn [.ref 0, .int a0] M) else none) ∧
  (∀ L st M, zz_ev tX12_collects 109 L st M = zo_iret true (zz_ev tX12_collects) L st M) ∧
  (∀ L st M, zz_ev tX12_collects 110 L st M = zo_aload 0 111 (zz_ev tX12_collects) L st M) ∧
  (∀ L st M, zz_ev tX12_collects 111 L st M = zo_aload 0 112 (zz_ev tX12_collects) L st M) ∧
  (∀ (L : zzLc) (r : List Value) (M : zzMd), zz_ev tX12_collects 112 L (.ref 0 :: r) M = zz_ev tX12_collects 115 L (.int (M.1 0 43) :: r) M) ∧
  (∀ L st M, zz_ev tX12_collects 115 L st M = zo_pushI 12 117 (zz_ev tX12_collects) L st M) ∧
  (∀ (L : zzLc) (a0 a1 : Int32) (r : List Value) (M : zzMd), zz_ev tX12_collects 117 L (.int a1 :: .int a0 :: .ref 0 :: r) M = bif zz_cat8 r then zz_backN (zz_ev tX12_collects) 120 L r (fX12_viewed [.ref 0, .int a0, .int a1] M) else none) ∧
  (∀ L st M, zz_ev tX12_collects 120 L st M = zo_pushI 1 121 (zz_ev tX12_collects) L st M) ∧
  (∀ L st M, zz_ev tX12_collects 121 L st M = zo_icmp (fun x y => decide (x = y)) 150 124 (zz_ev tX12_collects) L st M) ∧
  (∀ L st M, zz_ev tX12_collects 124 L st M = zo_aload 0 125 (zz_ev tX12_collects) L st M) ∧
  (∀ (L : zzLc) (r : List Value) (M : zzMd), zz_ev tX12_collects 125 L (.ref 0 :: r) M = zz_ev tX12_collects 128 L (.ref 6 :: r) M) ∧
  (∀ L st M, zz_ev tX12_collects 128 L st M = zo_aload 0 129 (zz_ev tX12_collects) L st M) ∧
  (∀ (L : zzLc) (r : List Value) (M : zzMd), zz_ev tX12_collects 129 L (.ref 0 :: r) M = zz_ev tX12_collects 132 L (.int (M.1 0 43) :: r) M) ∧
  (∀ L st M, zz_ev tX12_collects 132 L st M = zo_iald zzSR zzSTR 133 (zz_ev tX12_collects) L st M) ∧
  (∀ L st M, zz_ev tX12_collects 133 L st M = zo_pushI 2 134 (zz_ev tX12_collects) L st M) ∧
  (∀ L st M, zz_ev tX12_collects 134 L st M = zo_icmp (fun x y => decide (¬ x = y)) 154 137 (zz_ev tX12_collects) L st M) ∧
  (∀ L st M, zz_ev tX12_collects 137 L st M = zo_aload 0 138 (zz_ev tX12_collects) L st M) ∧
  (∀ L st M, zz_ev tX12_collects 138 L st M = zo_aload 0 139 (zz_ev tX12_collects) L st M) ∧
  (∀ (L : zzLc) (r : List Value) (M : zzMd), zz_ev tX12_collects 139 L (.ref 0 :: r) M = zz_ev tX12_collects 142 L (.int (M.1 0 43) :: r) M) ∧
  (∀ L st M, zz_ev tX12_collects 142 L st M = zo_pushI 15 144 (zz_ev tX12_collects) L st M) ∧
  (∀ (L : zzLc) (a0 a1 : Int32) (r : List Value) (M : zzMd), zz_ev tX12_collects 144 L (.int a1 :: .int a0 :: .ref 0 :: r) M = bif zz_cat8 r then zz_backN (zz_ev tX12_collects) 147 L r (fX12_viewed [.ref 0, .int a0, .int a1] M) else none) ∧
  (∀ L st M, zz_ev tX12_collects 147 L st M = zo_if (fun x => decide (x ≤ 0)) 154 150 (zz_ev tX12_collects) L st M) ∧
  (∀ L st M, zz_ev tX12_collects 150 L st M = zo_pushI 1 151 (zz_ev tX12_collects) L st M) ∧
  (∀ L st M, zz_ev tX12_collects 151 L st M = zo_goto 155 (zz_ev tX12_collects) L st M) ∧
  (∀ L st M, zz_ev tX12_collects 154 L st M = zo_pushI 0 155 (zz_ev tX12_collects) L st M) ∧
  (∀ L st M, zz_ev tX12_collects 155 L st M = zo_istore 2 156 (zz_ev tX12_collects) L st M) ∧
  (∀ L st M, zz_ev tX12_collects 156 L st M = zo_iload 2 157 (zz_ev tX12_collects) L st M) ∧
  (∀ L st M, zz_ev tX12_collects 157 L st M = zo_if (fun x => decide (¬ x = 0)) 193 160 (zz_ev tX12_collects) L st M) ∧
  (∀ L st M, zz_ev tX12_collects 160 L st M = zo_aload 0 161 (zz_ev tX12_collects) L st M) ∧
  (∀ L st M, zz_ev tX12_collects 161 L st M = zo_aload 0 162 (zz_ev tX12_collects) L st M) ∧
  (∀ (L : zzLc) (r : List Value) (M : zzMd), zz_ev tX12_collects 162 L (.ref 0 :: r) M = zz_ev tX12_collects 165 L (.int (M.1 0 43) :: r) M) ∧
  (∀ L st M, zz_ev tX12_collects 165 L st M = zo_aload 0 166 (zz_ev tX12_collects) L st M) ∧
  (∀ L st M, zz_ev tX12_collects 166 L st M = zo_aload 0 167 (zz_ev tX12_collects) L st M) ∧
  (∀ (L : zzLc) (r : List Value) (M : zzMd), zz_ev tX12_collects 167 L (.ref 0 :: r) M = zz_ev tX12_collects 170 L (.ref 7 :: r) M) ∧
  (∀ L st M, zz_ev tX12_collects 170 L st M = zo_aload 0 171 (zz_ev tX12_collects) L st M) ∧
  (∀ (L : zzLc) (r : List Value) (M : zzMd), zz_ev tX12_collects 171 L (.ref 0 :: r) M = zz_ev tX12_collects 174 L (.int (M.1 0 43) :: r) M) ∧
  (∀ L st M, zz_ev tX12_collects 174 L st M = zo_lald zzSR 175 (zz_ev tX12_collects) L st M) ∧
  (∀ (L : zzLc) (a0 : Int64) (r : List Value) (M : zzMd), zz_ev tX12_collects 175 L (.long a0 :: .ref 0 :: r) M = bif zz_cat8 r then zz_backN (zz_ev tX12_collects) 178 L r (fX12_gone [.ref 0, .long a0] M) else none) ∧
  (∀ L st M, zz_ev tX12_collects 178 L st M = zo_aload 0 179 (zz_ev tX12_collects) L st M) ∧
  (∀ (L : zzLc) (r : List Value) (M : zzMd), zz_ev tX12_collects 179 L (.ref 0 :: r) M = zz_ev tX12_collects 182 L (.ref 8 :: r) M) ∧
  (∀ L st M, zz_ev tX12_collects 182 L st M = zo_aload 0 183 (zz_ev tX12_collects) L st M) ∧
  (∀ (L : zzLc) (r : List Value) (M : zzMd), zz_ev tX12_collects 183 L (.ref 0 :: r) M = zz_ev tX12_collects 186 L (.int (M.1 0 43) :: r) M) ∧
  (∀ L st M, zz_ev tX12_collects 186 L st M = zo_lald zzSR 187 (zz_ev tX12_collects) L st M) ∧
  (∀ (L : zzLc) (a0 : Int32) (a1 a2 : Int64) (r : List Value) (M : zzMd), zz_ev tX12_collects 187 L (.long a2 :: .long a1 :: .int a0 :: .ref 0 :: r) M = bif zz_cat8 r then zz_backN (zz_ev tX12_collects) 190 L r (fX12_writesIt [.ref 0, .int a0, .long a1, .long a2] M) else none) ∧
  (∀ L st M, zz_ev tX12_collects 190 L st M = zo_if (fun x => decide (x = 0)) 197 193 (zz_ev tX12_collects) L st M) ∧
  (∀ L st M, zz_ev tX12_collects 193 L st M = zo_pushI 1 194 (zz_ev tX12_collects) L st M) ∧
  (∀ L st M, zz_ev tX12_collects 194 L st M = zo_goto 198 (zz_ev tX12_collects) L st M) ∧
  (∀ L st M, zz_ev tX12_collects 197 L st M = zo_pushI 0 198 (zz_ev tX12_collects) L st M) ∧
  (∀ L st M, zz_ev tX12_collects 198 L st M = zo_iret true (zz_ev tX12_collects) L st M) :=
  ⟨zz_1 rfl tl_X12_collects, zz_1 rfl tl_X12_collects, fun L r M => (zz_1 rfl tl_X12_collects _ _ _).trans rfl, fun L a0 r M => (zz_1 rfl tl_X12_collects _ _ _).trans rfl, zz_1 rfl tl_X12_collects, zz_1 rfl tl_X12_collects, zz_1 rfl tl_X12_collects, zz_1 rfl tl_X12_collects, zz_1 rfl tl_X12_collects, fun L r M => (zz_1 rfl tl_X12_collects _ _ _).trans rfl, zz_1 rfl tl_X12_collects, fun L a0 a1 r M => (zz_1 rfl tl_X12_collects _ _ _).trans rfl, zz_1 rfl tl_X12_collects, zz_1 rfl tl_X12_collects, zz_1 rfl tl_X12_collects, zz_1 rfl tl_X12_collects, zz_1 rfl tl_X12_collects, zz_1 rfl tl_X12_collects, fun L r M => (zz_1 rfl tl_X12_collects _ _ _).trans rfl, fun L a0 r M => (zz_1 rfl tl_X12_collects _ _ _).trans rfl, fun L a0 r M => (zz_1 rfl tl_X12_collects _ _ _).trans rfl, zz_1 rfl tl_X12_collects, zz_1 rfl tl_X12_collects, zz_1 rfl tl_X12_collects, zz_1 rfl tl_X12_collects, zz_1 rfl tl_X12_collects, zz_1 rfl tl_X12_collects, fun L a0 r M => (zz_1 rfl tl_X12_collects _ _ _).trans rfl, zz_1 rfl tl_X12_collects, zz_1 rfl tl_X12_collects, zz_1 rfl tl_X12_collects, zz_1 rfl tl_X12_collects, fun L a0 a1 r M => (zz_1 rfl tl_X12_collects _ _ _).trans rfl, zz_1 rfl tl_X12_collects, zz_1 rfl tl_X12_collects, zz_1 rfl tl_X12_collects, zz_1 rfl tl_X12_collects, zz_1 rfl tl_X12_collects, zz_1 rfl tl_X12_collects, zz_1 rfl tl_X12_collects, zz_1 rfl tl_X12_collects, zz_1 rfl tl_X12_collects, zz_1 rfl tl_X12_collects, fun L r M => (zz_1 rfl tl_X12_collects _ _ _).trans rfl, fun L a0 r M => (zz_1 rfl tl_X12_collects _ _ _).trans rfl, zz_1 rfl tl_X12_collects, zz_1 rfl tl_X12_collects, zz_1 rfl tl_X12_collects, zz_1 rfl tl_X12_collects, zz_1 rfl tl_X12_collects, zz_1 rfl tl_X12_collects, zz_1 rfl tl_X12_collects, zz_1 rfl tl_X12_collects, zz_1 rfl tl_X12_collects, fun L  r M => (zz_1 rfl tl_X12_collects _ _ _).trans rfl, zz_1 rfl tl_X12_collects, zz_1 rfl tl_X12_collects, zz_1 rfl tl_X12_collects, fun L a0 r M => (zz_1 rfl tl_X12_collects _ _ _).trans rfl, zz_1 rfl tl_X12_collects, zz_1 rfl tl_X12_collects, zz_1 rfl tl_X12_collects, fun L r M => (zz_1 rfl tl_X12_collects _ _ _).trans rfl, zz_1 rfl tl_X12_collects, fun L a0 a1 r M => (zz_1 rfl tl_X12_collects _ _ _).trans rfl, zz_1 rfl tl_X12_collects, zz_1 rfl tl_X12_collects, zz_1 rfl tl_X12_collects, fun L r M => (zz_1 rfl tl_X12_collects _ _ _).trans rfl, zz_1 rfl tl_X12_collects, fun L r M => (zz_1 rfl tl_X12_collects _ _ _).trans rfl, zz_1 rfl tl_X12_collects, zz_1 rfl tl_X12_collects, zz_1 rfl tl_X12_collects, zz_1 rfl tl_X12_collects, zz_1 rfl tl_X12_collects, fun L r M => (zz_1 rfl tl_X12_collects _ _ _).trans rfl, zz_1 rfl tl_X12_collects, fun L a0 a1 r M => (zz_1 rfl tl_X12_collects _ _ _).trans rfl, zz_1 rfl tl_X12_collects, zz_1 rfl tl_X12_collects, zz_1 rfl tl_X12_collects, zz_1 rfl tl_X12_collects, zz_1 rfl tl_X12_collects, zz_1 rfl tl_X12_collects, zz_1 rfl tl_X12_collects, zz_1 rfl tl_X12_collects, zz_1 rfl tl_X12_collects, fun L r M => (zz_1 rfl tl_X12_collects _ _ _).trans rfl, zz_1 rfl tl_X12_collects, zz_1 rfl tl_X12_collects, fun L r M => (zz_1 rfl tl_X12_collects _ _ _).trans rfl, zz_1 rfl tl_X12_collects, fun L r M => (zz_1 rfl tl_X12_collects _ _ _).trans rfl, zz_1 rfl tl_X12_collects, fun L a0 r M => (zz_1 rfl tl_X12_collects _ _ _).trans rfl, zz_1 rfl tl_X12_collects, fun L r M => (zz_1 rfl tl_X12_collects _ _ _).trans rfl, zz_1 rfl tl_X12_collects, fun L r M => (zz_1 rfl tl_X12_collects _ _ _).trans rfl, zz_1 rfl tl_X12_collects, fun L a0 a1 a2 r M => (zz_1 rfl tl_X12_collects _ _ _).trans rfl, zz_1 rfl tl_X12_collects, zz_1 rfl tl_X12_collects, zz_1 rfl tl_X12_collects, zz_1 rfl tl_X12_collects, zz_1 rfl tl_X12_collects⟩
set_option maxRecDepth 100000 in
theorem s_X12_collects (v : Nat) (M : zzMd) : fX12_collects [.ref v] M = zz_ev tX12_collects 0 [some (.ref v), none, none, none] [] M := rfl
set_option maxRecDepth 100000 in
theorem e_X12_routes : (∀ L st M, zz_ev tX12_routes 0 L st M = zo_aload 0 1 (zz_ev tX12_routes) L st M) ∧
  (∀ L st M, zz_ev tX12_routes 1 L st M = zo_aload 0 2 (zz_ev tX12_routes) L st M) ∧
  (∀ (L : zzLc) (r : List Value) (M : zzMd), zz_ev tX12_routes 2 L (.ref 0 :: r) M = zz_ev tX12_routes 5 L (.int (M.1 0 43) :: r) M) ∧
  (∀ L st M, zz_ev tX12_routes 5 L st M = zo_pushI 5 6 (zz_ev tX12_routes) L st M) ∧
  (∀ (L : zzLc) (a0 a1 : Int32) (r : List Value) (M : zzMd), zz_ev tX12_routes 6 L (.int a1 :: .int a0 :: .ref 0 :: r) M = bif zz_cat8 r then zz_backN (zz_ev tX12_routes) 9 L r (fX12_stays [.ref 0, .int a0, .int a1] M) else none) ∧
  (∀ L st M, zz_ev tX12_routes 9 L st M = zo_if (fun x => decide (¬ x = 0)) 14 12 (zz_ev tX12_routes) L st M) ∧
  (∀ L st M, zz_ev tX12_routes 12 L st M = zo_pushI 1 13 (zz_ev tX12_routes) L st M) ∧
  (∀ L st M, zz_ev tX12_routes 13 L st M = zo_iret true (zz_ev tX12_routes) L st M) ∧
  (∀ L st M, zz_ev tX12_routes 14 L st M = zo_pushL 0 15 (zz_ev tX12_routes) L st M) ∧
  (∀ L st M, zz_ev tX12_routes 15 L st M = zo_lstore 1 16 (zz_ev tX12_routes) L st M) ∧
  (∀ L st M, zz_ev tX12_routes 16 L st M = zo_pushI 0 17 (zz_ev tX12_routes) L st M) ∧
  (∀ L st M, zz_ev tX12_routes 17 L st M = zo_istore 3 18 (zz_ev tX12_routes) L st M) ∧
  (∀ L st M, zz_ev tX12_routes 19 L st M = zo_aload 0 20 (zz_ev tX12_routes) L st M) ∧
  (∀ (L : zzLc) (r : List Value) (M : zzMd), zz_ev tX12_routes 20 L (.ref 0 :: r) M = zz_ev tX12_routes 23 L (.int (M.1 0 5) :: r) M) ∧
  (∀ L st M, zz_ev tX12_routes 23 L st M = zo_icmp (fun x y => decide (y ≤ x)) 92 26 (zz_ev tX12_routes) L st M) ∧
  (∀ L st M, zz_ev tX12_routes 26 L st M = zo_aload 0 27 (zz_ev tX12_routes) L st M) ∧
  (∀ L st M, zz_ev tX12_routes 27 L st M = zo_iload 3 28 (zz_ev tX12_routes) L st M) ∧
  (∀ L st M, zz_ev tX12_routes 28 L st M = zo_pushI 2 29 (zz_ev tX12_routes) L st M) ∧
  (∀ (L : zzLc) (a0 a1 : Int32) (r : List Value) (M : zzMd), zz_ev tX12_routes 29 L (.int a1 :: .int a0 :: .ref 0 :: r) M = bif zz_cat8 r then zz_backN (zz_ev tX12_routes) 32 L r (fX12_stays [.ref 0, .int a0, .int a1] M) else none) ∧
  (∀ L st M, zz_ev tX12_routes 32 L st M = zo_if (fun x => decide (x = 0)) 68 35 (zz_ev tX12_routes) L st M) ∧
  (∀ L st M, zz_ev tX12_routes 35 L st M = zo_aload 0 36 (zz_ev tX12_routes) L st M) ∧
  (∀ L st M, zz_ev tX12_routes 36 L st M = zo_iload 3 37 (zz_ev tX12_routes) L st M) ∧
  (∀ L st M, zz_ev tX12_routes 37 L st M = zo_pushI 16 39 (zz_ev tX12_routes) L st M) ∧
  (∀ (L : zzLc) (a0 a1 : Int32) (r : List Value) (M : zzMd), zz_ev tX12_routes 39 L (.int a1 :: .int a0 :: .ref 0 :: r) M = bif zz_cat8 r then zz_backN (zz_ev tX12_routes) 42 L r (fX12_viewed [.ref 0, .int a0, .int a1] M) else none) ∧
  (∀ L st M, zz_ev tX12_routes 42 L st M = zo_pushI 1 43 (zz_ev tX12_routes) L st M) ∧
  (∀ L st M, zz_ev tX12_routes 43 L st M = zo_icmp (fun x y => decide (¬ x = y)) 68 46 (zz_ev tX12_routes) L st M) ∧
  (∀ L st M, zz_ev tX12_routes 46 L st M = zo_aload 0 47 (zz_ev tX12_routes) L st M) ∧
  (∀ L st M, zz_ev tX12_routes 47 L st M = zo_iload 3 48 (zz_ev tX12_routes) L st M) ∧
  (∀ L st M, zz_ev tX12_routes 48 L st M = zo_pushI 1 49 (zz_ev tX12_routes) L st M) ∧
  (∀ (L : zzLc) (a0 a1 : Int32) (r : List Value) (M : zzMd), zz_ev tX12_routes 49 L (.int a1 :: .int a0 :: .ref 0 :: r) M = bif zz_cat8 r then zz_backN (zz_ev tX12_routes) 52 L r (fX12_viewed [.ref 0, .int a0, .int a1] M) else none) ∧
  (∀ L st M, zz_ev tX12_routes 52 L st M = zo_aload 0 53 (zz_ev tX12_routes) L st M) ∧
  (∀ L st M, zz_ev tX12_routes 53 L st M = zo_aload 0 54 (zz_ev tX12_routes) L st M) ∧
  (∀ (L : zzLc) (r : List Value) (M : zzMd), zz_ev tX12_routes 54 L (.ref 0 :: r) M = zz_ev tX12_routes 57 L (.int (M.1 0 43) :: r) M) ∧
  (∀ L st M, zz_ev tX12_routes 57 L st M = zo_pushI 1 58 (zz_ev tX12_routes) L st M) ∧
  (∀ (L : zzLc) (a0 a1 : Int32) (r : List Value) (M : zzMd), zz_ev tX12_routes 58 L (.int a1 :: .int a0 :: .ref 0 :: r) M = bif zz_cat8 r then zz_backN (zz_ev tX12_routes) 61 L r (fX12_viewed [.ref 0, .int a0, .int a1] M) else none) ∧
  (∀ L st M, zz_ev tX12_routes 61 L st M = zo_icmp (fun x y => decide (¬ x = y)) 68 64 (zz_ev tX12_routes) L st M) ∧
  (∀ L st M, zz_ev tX12_routes 64 L st M = zo_pushI 1 65 (zz_ev tX12_routes) L st M) ∧
  (∀ L st M, zz_ev tX12_routes 65 L st M = zo_goto 69 (zz_ev tX12_routes) L st M) ∧
  (∀ L st M, zz_ev tX12_routes 68 L st M = zo_pushI 0 69 (zz_ev tX12_routes) L st M) ∧
  (∀ L st M, zz_ev tX12_routes 69 L st M = zo_istore 4 71 (zz_ev tX12_routes) L st M) ∧
  (∀ L st M, zz_ev tX12_routes 71 L st M = zo_lload 1 72 (zz_ev tX12_routes) L st M) ∧
  (∀ L st M, zz_ev tX12_routes 72 L st M = zo_iload 4 74 (zz_ev tX12_routes) L st M) ∧
  (∀ L st M, zz_ev tX12_routes 74 L st M = zo_if (fun x => decide (x = 0)) 83 77 (zz_ev tX12_routes) L st M) ∧
  (∀ L st M, zz_ev tX12_routes 77 L st M = zo_pushL 1 78 (zz_ev tX12_routes) L st M) ∧
  (∀ L st M, zz_ev tX12_routes 78 L st M = zo_iload 3 79 (zz_ev tX12_routes) L st M) ∧
  (∀ L st M, zz_ev tX12_routes 79 L st M = zo_li (fun x y => x <<< (y.toInt64 &&& 63)) 80 (zz_ev tX12_routes) L st M) ∧
  (∀ L st M, zz_ev tX12_routes 80 L st M = zo_goto 84 (zz_ev tX12_routes) L st M) ∧
  (∀ L st M, zz_ev tX12_routes 83 L st M = zo_pushL 0 84 (zz_ev tX12_routes) L st M) ∧
  (∀ L st M, zz_ev tX12_routes 84 L st M = zo_ll (fun x y => x ||| y) 85 (zz_ev tX12_routes) L st M) ∧
  (∀ L st M, zz_ev tX12_routes 85 L st M = zo_lstore 1 86 (zz_ev tX12_routes) L st M) ∧
  (∀ L st M, zz_ev tX12_routes 86 L st M = zo_iinc 3 1 89 (zz_ev tX12_routes) L st M) ∧
  (∀ L st M, zz_ev tX12_routes 89 L st M = zo_goto 18 (zz_ev tX12_routes) L st M) ∧
  (∀ L st M, zz_ev tX12_routes 92 L st M = zo_lload 1 93 (zz_ev tX12_routes) L st M) ∧
  (∀ L st M, zz_ev tX12_routes 93 L st M = zo_aload 0 94 (zz_ev tX12_routes) L st M) ∧
  (∀ (L : zzLc) (r : List Value) (M : zzMd), zz_ev tX12_routes 94 L (.ref 0 :: r) M = zz_ev tX12_routes 97 L (.ref 29 :: r) M) ∧
  (∀ L st M, zz_ev tX12_routes 97 L st M = zo_pushI 60 99 (zz_ev tX12_routes) L st M) ∧
  (∀ L st M, zz_ev tX12_routes 99 L st M = zo_aload 0 100 (zz_ev tX12_routes) L st M) ∧
  (∀ (L : zzLc) (r : List Value) (M : zzMd), zz_ev tX12_routes 100 L (.ref 0 :: r) M = zz_ev tX12_routes 103 L (.int (M.1 0 42) :: r) M) ∧
  (∀ L st M, zz_ev tX12_routes 103 L st M = zo_ii (fun x y => x * y) 104 (zz_ev tX12_routes) L st M) ∧
  (∀ L st M, zz_ev tX12_routes 104 L st M = zo_aload 0 105 (zz_ev tX12_routes) L st M) ∧
  (∀ (L : zzLc) (r : List Value) (M : zzMd), zz_ev tX12_routes 105 L (.ref 0 :: r) M = zz_ev tX12_routes 108 L (.int (M.1 0 43) :: r) M) ∧
  (∀ L st M, zz_ev tX12_routes 108 L st M = zo_ii (fun x y => x + y) 109 (zz_ev tX12_routes) L st M) ∧
  (∀ L st M, zz_ev tX12_routes 109 L st M = zo_lald zzSR 110 (zz_ev tX12_routes) L st M) ∧
  (∀ L st M, zz_ev tX12_routes 110 L st M = zo_lcmp 111 (zz_ev tX12_routes) L st M) ∧
  (∀ L st M, zz_ev tX12_routes 111 L st M = zo_if (fun x => decide (x = 0)) 135 114 (zz_ev tX12_routes) L st M) ∧
  (∀ L st M, zz_ev tX12_routes 114 L st M = zo_aload 0 115 (zz_ev tX12_routes) L st M) ∧
  (∀ L st M, zz_ev tX12_routes 115 L st M = zo_aload 0 116 (zz_ev tX12_routes) L st M) ∧
  (∀ (L : zzLc) (r : List Value) (M : zzMd), zz_ev tX12_routes 116 L (.ref 0 :: r) M = zz_ev tX12_routes 119 L (.int (M.1 0 43) :: r) M) ∧
  (∀ L st M, zz_ev tX12_routes 119 L st M = zo_aload 0 120 (zz_ev tX12_routes) L st M) ∧
  (∀ (L : zzLc) (r : List Value) (M : zzMd), zz_ev tX12_routes 120 L (.ref 0 :: r) M = zz_ev tX12_routes 123 L (.ref 7 :: r) M) ∧
  (∀ L st M, zz_ev tX12_routes 123 L st M = zo_aload 0 124 (zz_ev tX12_routes) L st M) ∧
  (∀ (L : zzLc) (r : List Value) (M : zzMd), zz_ev tX12_routes 124 L (.ref 0 :: r) M = zz_ev tX12_routes 127 L (.int (M.1 0 43) :: r) M) ∧
  (∀ L st M, zz_ev tX12_routes 127 L st M = zo_lald zzSR 128 (zz_ev tX12_routes) L st M) ∧
  (∀ L st M, zz_ev tX12_routes 128 L st M = zo_lload 1 129 (zz_ev tX12_routes) L st M) ∧
  (∀ (L : zzLc) (a0 : Int32) (a1 a2 : Int64) (r : List Value) (M : zzMd), zz_ev tX12_routes 129 L (.long a2 :: .long a1 :: .int a0 :: .ref 0 :: r) M = bif zz_cat8 r then zz_backN (zz_ev tX12_routes) 132 L r (fX12_writesIt [.ref 0, .int a0, .long a1, .long a2] M) else none) ∧
  (∀ L st M, zz_ev tX12_routes 132 L st M = zo_if (fun x => decide (x = 0)) 139 135 (zz_ev tX12_routes) L st M) ∧
  (∀ L st M, zz_ev tX12_routes 135 L st M = zo_pushI 1 136 (zz_ev tX12_routes) L st M) ∧
  (∀ L st M, zz_ev tX12_routes 136 L st M = zo_goto 140 (zz_ev tX12_routes) L st M) ∧
  (∀ L st M, zz_ev tX12_routes 139 L st M = zo_pushI 0 140 (zz_ev tX12_routes) L st M) ∧
  (∀ L st M, zz_ev tX12_routes 140 L st M = zo_iret true (zz_ev tX12_routes) L st M) :=
  ⟨zz_1 rfl tl_X12_routes, zz_1 rfl tl_X12_routes, fun L r M => (zz_1 rfl tl_X12_routes _ _ _).trans rfl, zz_1 rfl tl_X12_routes, fun L a0 a1 r M => (zz_1 rfl tl_X12_routes _ _ _).trans rfl, zz_1 rfl tl_X12_routes, zz_1 rfl tl_X12_routes, zz_1 rfl tl_X12_routes, zz_1 rfl tl_X12_routes, zz_1 rfl tl_X12_routes, zz_1 rfl tl_X12_routes, zz_1 rfl tl_X12_routes, zz_1 rfl tl_X12_routes, fun L r M => (zz_1 rfl tl_X12_routes _ _ _).trans rfl, zz_1 rfl tl_X12_routes, zz_1 rfl tl_X12_routes, zz_1 rfl tl_X12_routes, zz_1 rfl tl_X12_routes, fun L a0 a1 r M => (zz_1 rfl tl_X12_routes _ _ _).trans rfl, zz_1 rfl tl_X12_routes, zz_1 rfl tl_X12_routes, zz_1 rfl tl_X12_routes, zz_1 rfl tl_X12_routes, fun L a0 a1 r M => (zz_1 rfl tl_X12_routes _ _ _).trans rfl, zz_1 rfl tl_X12_routes, zz_1 rfl tl_X12_routes, zz_1 rfl tl_X12_routes, zz_1 rfl tl_X12_routes, zz_1 rfl tl_X12_routes, fun L a0 a1 r M => (zz_1 rfl tl_X12_routes _ _ _).trans rfl, zz_1 rfl tl_X12_routes, zz_1 rfl tl_X12_routes, fun L r M => (zz_1 rfl tl_X12_routes _ _ _).trans rfl, zz_1 rfl tl_X12_routes, fun L a0 a1 r M => (zz_1 rfl tl_X12_routes _ _ _).trans rfl, zz_1 rfl tl_X12_routes, zz_1 rfl tl_X12_routes, zz_1 rfl tl_X12_routes, zz_1 rfl tl_X12_routes, zz_1 rfl tl_X12_routes, zz_1 rfl tl_X12_routes, zz_1 rfl tl_X12_routes, zz_1 rfl tl_X12_routes, zz_1 rfl tl_X12_routes, zz_1 rfl tl_X12_routes, zz_1 rfl tl_X12_routes, zz_1 rfl tl_X12_routes, zz_1 rfl tl_X12_routes, zz_1 rfl tl_X12_routes, zz_1 rfl tl_X12_routes, zz_1 rfl tl_X12_routes, zz_1 rfl tl_X12_routes, zz_1 rfl tl_X12_routes, zz_1 rfl tl_X12_routes, fun L r M => (zz_1 rfl tl_X12_routes _ _ _).trans rfl, zz_1 rfl tl_X12_routes, zz_1 rfl tl_X12_routes, fun L r M => (zz_1 rfl tl_X12_routes _ _ _).trans rfl, zz_1 rfl tl_X12_routes, zz_1 rfl tl_X12_routes, fun L r M => (zz_1 rfl tl_X12_routes _ _ _).trans rfl, zz_1 rfl tl_X12_routes, zz_1 rfl tl_X12_routes, zz_1 rfl tl_X12_routes, zz_1 rfl tl_X12_routes, zz_1 rfl tl_X12_routes, zz_1 rfl tl_X12_routes, fun L r M => (zz_1 rfl tl_X12_routes _ _ _).trans rfl, zz_1 rfl tl_X12_routes, fun L r M => (zz_1 rfl tl_X12_routes _ _ _).trans rfl, zz_1 rfl tl_X12_routes, fun L r M => (zz_1 rfl tl_X12_routes _ _ _).trans rfl, zz_1 rfl tl_X12_routes, zz_1 rfl tl_X12_routes, fun L a0 a1 a2 r M => (zz_1 rfl tl_X12_routes _ _ _).trans rfl, zz_1 rfl tl_X12_routes, zz_1 rfl tl_X12_routes, zz_1 rfl tl_X12_routes, zz_1 rfl tl_X12_routes, zz_1 rfl tl_X12_routes⟩
set_option maxRecDepth 100000 in
theorem e_X12_routes_18 : (∀ L st M, zz_ev tX12_routes 18 L st M = zo_iload 3 19 (zz_ev tX12_routes) L st M) := zz_1 rfl tl_X12_routes
set_option maxRecDepth 100000 in
theorem s_X12_routes (v : Nat) (M : zzMd) : fX12_routes [.ref v] M = zz_ev tX12_routes 0 [some (.ref v), none, none, none, none] [] M := rfl
set_option maxRecDepth 100000 in
theorem e_X12_shouldWant : (∀ L st M, zz_ev tX12_shouldWant 0 L st M = zo_aload 0 1 (zz_ev tX12_shouldWant) L st M) ∧
  (∀ L st M, zz_ev tX12_shouldWant 1 L st M = zo_aload 0 2 (zz_ev tX12_shouldWant) L st M) ∧
  (∀ (L : zzLc) (r : List Value) (M : zzMd), zz_ev tX12_shouldWant 2 L (.ref 0 :: r) M = zz_ev tX12_shouldWant 5 L (.int (M.1 0 43) :: r) M) ∧
  (∀ L st M, zz_ev tX12_shouldWant 5 L st M = zo_pushI 6 7 (zz_ev tX12_shouldWant) L st M) ∧
  (∀ (L : zzLc) (a0 a1 : Int32) (r : List Value) (M : zzMd), zz_ev tX12_shouldWant 7 L (.int a1 :: .int a0 :: .ref 0 :: r) M = bif zz_cat8 r then zz_backN (zz_ev tX12_shouldWant) 10 L r (fX12_viewed [.ref 0, .int a0, .int a1] M) else none) ∧
  (∀ L st M, zz_ev tX12_shouldWant 10 L st M = zo_pushI 9 12 (zz_ev tX12_shouldWant) L st M) ∧
  (∀ L st M, zz_ev tX12_shouldWant 12 L st M = zo_ii (fun x y => x + y) 13 (zz_ev tX12_shouldWant) L st M) ∧
  (∀ L st M, zz_ev tX12_shouldWant 13 L st M = zo_pushI 10 15 (zz_ev tX12_shouldWant) L st M) ∧
  (∀ L st M, zz_ev tX12_shouldWant 15 L st M = zo_iid (fun x y => x / y) 16 (zz_ev tX12_shouldWant) L st M) ∧
  (∀ L st M, zz_ev tX12_shouldWant 16 L st M = zo_istore 1 17 (zz_ev tX12_shouldWant) L st M) ∧
  (∀ L st M, zz_ev tX12_shouldWant 17 L st M = zo_iload 1 18 (zz_ev tX12_shouldWant) L st M) ∧
  (∀ L st M, zz_ev tX12_shouldWant 18 L st M = zo_pushI 1 19 (zz_ev tX12_shouldWant) L st M) ∧
  (∀ L st M, zz_ev tX12_shouldWant 19 L st M = zo_icmp (fun x y => decide (y ≤ x)) 26 22 (zz_ev tX12_shouldWant) L st M) ∧
  (∀ L st M, zz_ev tX12_shouldWant 22 L st M = zo_pushI 1 23 (zz_ev tX12_shouldWant) L st M) ∧
  (∀ L st M, zz_ev tX12_shouldWant 23 L st M = zo_goto 27 (zz_ev tX12_shouldWant) L st M) ∧
  (∀ L st M, zz_ev tX12_shouldWant 26 L st M = zo_iload 1 27 (zz_ev tX12_shouldWant) L st M) ∧
  (∀ L st M, zz_ev tX12_shouldWant 27 L st M = zo_istore 2 28 (zz_ev tX12_shouldWant) L st M) ∧
  (∀ L st M, zz_ev tX12_shouldWant 28 L st M = zo_iload 2 29 (zz_ev tX12_shouldWant) L st M) ∧
  (∀ L st M, zz_ev tX12_shouldWant 29 L st M = zo_aload 0 30 (zz_ev tX12_shouldWant) L st M) ∧
  (∀ L st M, zz_ev tX12_shouldWant 30 L st M = zo_aload 0 31 (zz_ev tX12_shouldWant) L st M) ∧
  (∀ (L : zzLc) (r : List Value) (M : zzMd), zz_ev tX12_shouldWant 31 L (.ref 0 :: r) M = zz_ev tX12_shouldWant 34 L (.int (M.1 0 43) :: r) M) ∧
  (∀ L st M, zz_ev tX12_shouldWant 34 L st M = zo_pushI 5 35 (zz_ev tX12_shouldWant) L st M) ∧
  (∀ (L : zzLc) (a0 a1 : Int32) (r : List Value) (M : zzMd), zz_ev tX12_shouldWant 35 L (.int a1 :: .int a0 :: .ref 0 :: r) M = bif zz_cat8 r then zz_backN (zz_ev tX12_shouldWant) 38 L r (fX12_viewed [.ref 0, .int a0, .int a1] M) else none) ∧
  (∀ L st M, zz_ev tX12_shouldWant 38 L st M = zo_icmp (fun x y => decide (y ≤ x)) 45 41 (zz_ev tX12_shouldWant) L st M) ∧
  (∀ L st M, zz_ev tX12_shouldWant 41 L st M = zo_iload 2 42 (zz_ev tX12_shouldWant) L st M) ∧
  (∀ L st M, zz_ev tX12_shouldWant 42 L st M = zo_goto 54 (zz_ev tX12_shouldWant) L st M) ∧
  (∀ L st M, zz_ev tX12_shouldWant 45 L st M = zo_aload 0 46 (zz_ev tX12_shouldWant) L st M) ∧
  (∀ L st M, zz_ev tX12_shouldWant 46 L st M = zo_aload 0 47 (zz_ev tX12_shouldWant) L st M) ∧
  (∀ (L : zzLc) (r : List Value) (M : zzMd), zz_ev tX12_shouldWant 47 L (.ref 0 :: r) M = zz_ev tX12_shouldWant 50 L (.int (M.1 0 43) :: r) M) ∧
  (∀ L st M, zz_ev tX12_shouldWant 50 L st M = zo_pushI 5 51 (zz_ev tX12_shouldWant) L st M) ∧
  (∀ (L : zzLc) (a0 a1 : Int32) (r : List Value) (M : zzMd), zz_ev tX12_shouldWant 51 L (.int a1 :: .int a0 :: .ref 0 :: r) M = bif zz_cat8 r then zz_backN (zz_ev tX12_shouldWant) 54 L r (fX12_viewed [.ref 0, .int a0, .int a1] M) else none) ∧
  (∀ L st M, zz_ev tX12_shouldWant 54 L st M = zo_iret false (zz_ev tX12_shouldWant) L st M) :=
  ⟨zz_1 rfl tl_X12_shouldWant, zz_1 rfl tl_X12_shouldWant, fun L r M => (zz_1 rfl tl_X12_shouldWant _ _ _).trans rfl, zz_1 rfl tl_X12_shouldWant, fun L a0 a1 r M => (zz_1 rfl tl_X12_shouldWant _ _ _).trans rfl, zz_1 rfl tl_X12_shouldWant, zz_1 rfl tl_X12_shouldWant, zz_1 rfl tl_X12_shouldWant, zz_1 rfl tl_X12_shouldWant, zz_1 rfl tl_X12_shouldWant, zz_1 rfl tl_X12_shouldWant, zz_1 rfl tl_X12_shouldWant, zz_1 rfl tl_X12_shouldWant, zz_1 rfl tl_X12_shouldWant, zz_1 rfl tl_X12_shouldWant, zz_1 rfl tl_X12_shouldWant, zz_1 rfl tl_X12_shouldWant, zz_1 rfl tl_X12_shouldWant, zz_1 rfl tl_X12_shouldWant, zz_1 rfl tl_X12_shouldWant, fun L r M => (zz_1 rfl tl_X12_shouldWant _ _ _).trans rfl, zz_1 rfl tl_X12_shouldWant, fun L a0 a1 r M => (zz_1 rfl tl_X12_shouldWant _ _ _).trans rfl, zz_1 rfl tl_X12_shouldWant, zz_1 rfl tl_X12_shouldWant, zz_1 rfl tl_X12_shouldWant, zz_1 rfl tl_X12_shouldWant, zz_1 rfl tl_X12_shouldWant, fun L r M => (zz_1 rfl tl_X12_shouldWant _ _ _).trans rfl, zz_1 rfl tl_X12_shouldWant, fun L a0 a1 r M => (zz_1 rfl tl_X12_shouldWant _ _ _).trans rfl, zz_1 rfl tl_X12_shouldWant⟩
set_option maxRecDepth 100000 in
theorem s_X12_shouldWant (v : Nat) (M : zzMd) : fX12_shouldWant [.ref v] M = zz_ev tX12_shouldWant 0 [some (.ref v), none, none] [] M := rfl
set_option maxRecDepth 100000 in
theorem e_X12_isEarly : (∀ L st M, zz_ev tX12_isEarly 0 L st M = zo_aload 0 1 (zz_ev tX12_isEarly) L st M) ∧
  (∀ (L : zzLc) (r : List Value) (M : zzMd), zz_ev tX12_isEarly 1 L (.ref 0 :: r) M = zz_ev tX12_isEarly 4 L (.int (M.1 0 42) :: r) M) ∧
  (∀ L st M, zz_ev tX12_isEarly 4 L st M = zo_pushI 7 6 (zz_ev tX12_isEarly) L st M) ∧
  (∀ L st M, zz_ev tX12_isEarly 6 L st M = zo_icmp (fun x y => decide (¬ x = y)) 37 9 (zz_ev tX12_isEarly) L st M) ∧
  (∀ L st M, zz_ev tX12_isEarly 9 L st M = zo_aload 0 10 (zz_ev tX12_isEarly) L st M) ∧
  (∀ L st M, zz_ev tX12_isEarly 10 L st M = zo_aload 0 11 (zz_ev tX12_isEarly) L st M) ∧
  (∀ (L : zzLc) (r : List Value) (M : zzMd), zz_ev tX12_isEarly 11 L (.ref 0 :: r) M = zz_ev tX12_isEarly 14 L (.int (M.1 0 43) :: r) M) ∧
  (∀ L st M, zz_ev tX12_isEarly 14 L st M = zo_pushI 0 15 (zz_ev tX12_isEarly) L st M) ∧
  (∀ (L : zzLc) (a0 a1 : Int32) (r : List Value) (M : zzMd), zz_ev tX12_isEarly 15 L (.int a1 :: .int a0 :: .ref 0 :: r) M = bif zz_cat8 r then zz_backN (zz_ev tX12_isEarly) 18 L r (fX12_stays [.ref 0, .int a0, .int a1] M) else none) ∧
  (∀ L st M, zz_ev tX12_isEarly 18 L st M = zo_if (fun x => decide (x = 0)) 37 21 (zz_ev tX12_isEarly) L st M) ∧
  (∀ L st M, zz_ev tX12_isEarly 21 L st M = zo_aload 0 22 (zz_ev tX12_isEarly) L st M) ∧
  (∀ L st M, zz_ev tX12_isEarly 22 L st M = zo_aload 0 23 (zz_ev tX12_isEarly) L st M) ∧
  (∀ (L : zzLc) (r : List Value) (M : zzMd), zz_ev tX12_isEarly 23 L (.ref 0 :: r) M = zz_ev tX12_isEarly 26 L (.int (M.1 0 43) :: r) M) ∧
  (∀ L st M, zz_ev tX12_isEarly 26 L st M = zo_pushI 5 27 (zz_ev tX12_isEarly) L st M) ∧
  (∀ (L : zzLc) (a0 a1 : Int32) (r : List Value) (M : zzMd), zz_ev tX12_isEarly 27 L (.int a1 :: .int a0 :: .ref 0 :: r) M = bif zz_cat8 r then zz_backN (zz_ev tX12_isEarly) 30 L r (fX12_viewed [.ref 0, .int a0, .int a1] M) else none) ∧
  (∀ L st M, zz_ev tX12_isEarly 30 L st M = zo_if (fun x => decide (x ≤ 0)) 37 33 (zz_ev tX12_isEarly) L st M) ∧
  (∀ L st M, zz_ev tX12_isEarly 33 L st M = zo_pushI 1 34 (zz_ev tX12_isEarly) L st M) ∧
  (∀ L st M, zz_ev tX12_isEarly 34 L st M = zo_goto 38 (zz_ev tX12_isEarly) L st M) ∧
  (∀ L st M, zz_ev tX12_isEarly 37 L st M = zo_pushI 0 38 (zz_ev tX12_isEarly) L st M) ∧
  (∀ L st M, zz_ev tX12_isEarly 38 L st M = zo_istore 1 39 (zz_ev tX12_isEarly) L st M) ∧
  (∀ L st M, zz_ev tX12_isEarly 39 L st M = zo_iload 1 40 (zz_ev tX12_isEarly) L st M) ∧
  (∀ L st M, zz_ev tX12_isEarly 40 L st M = zo_if (fun x => decide (x = 0)) 95 43 (zz_ev tX12_isEarly) L st M) ∧
  (∀ L st M, zz_ev tX12_isEarly 43 L st M = zo_aload 0 44 (zz_ev tX12_isEarly) L st M) ∧
  (∀ L st M, zz_ev tX12_isEarly 44 L st M = zo_aload 0 45 (zz_ev tX12_isEarly) L st M) ∧
  (∀ (L : zzLc) (r : List Value) (M : zzMd), zz_ev tX12_isEarly 45 L (.ref 0 :: r) M = zz_ev tX12_isEarly 48 L (.int (M.1 0 43) :: r) M) ∧
  (∀ L st M, zz_ev tX12_isEarly 48 L st M = zo_pushI 0 49 (zz_ev tX12_isEarly) L st M) ∧
  (∀ (L : zzLc) (a0 a1 : Int32) (r : List Value) (M : zzMd), zz_ev tX12_isEarly 49 L (.int a1 :: .int a0 :: .ref 0 :: r) M = bif zz_cat8 r then zz_backN (zz_ev tX12_isEarly) 52 L r (fX12_viewed [.ref 0, .int a0, .int a1] M) else none) ∧
  (∀ L st M, zz_ev tX12_isEarly 52 L st M = zo_aload 0 53 (zz_ev tX12_isEarly) L st M) ∧
  (∀ (L : zzLc) (r : List Value) (M : zzMd), zz_ev tX12_isEarly 53 L (.ref 0 :: r) M = bif zz_cat8 r then zz_backN (zz_ev tX12_isEarly) 56 L r (fX12_shouldWant [.ref 0] M) else none) ∧
  (∀ L st M, zz_ev tX12_isEarly 56 L st M = zo_icmp (fun x y => decide (x ≤ y)) 95 59 (zz_ev tX12_isEarly) L st M) ∧
  (∀ L st M, zz_ev tX12_isEarly 59 L st M = zo_aload 0 60 (zz_ev tX12_isEarly) L st M) ∧
  (∀ (L : zzLc) (r : List Value) (M : zzMd), zz_ev tX12_isEarly 60 L (.ref 0 :: r) M = zz_ev tX12_isEarly 63 L (.ref 13 :: r) M) ∧
  (∀ L st M, zz_ev tX12_isEarly 63 L st M = zo_aload 0 64 (zz_ev tX12_isEarly) L st M) ∧
  (∀ (L : zzLc) (r : List Value) (M : zzMd), zz_ev tX12_isEarly 64 L (.ref 0 :: r) M = zz_ev tX12_isEarly 67 L (.int (M.1 0 43) :: r) M) ∧
  (∀ L st M, zz_ev tX12_isEarly 67 L st M = zo_iald zzSR zzSTR 68 (zz_ev tX12_isEarly) L st M) ∧
  (∀ L st M, zz_ev tX12_isEarly 68 L st M = zo_pushI (-1) 69 (zz_ev tX12_isEarly) L st M) ∧
  (∀ L st M, zz_ev tX12_isEarly 69 L st M = zo_icmp (fun x y => decide (x = y)) 95 72 (zz_ev tX12_isEarly) L st M) ∧
  (∀ L st M, zz_ev tX12_isEarly 72 L st M = zo_aload 0 73 (zz_ev tX12_isEarly) L st M) ∧
  (∀ (L : zzLc) (r : List Value) (M : zzMd), zz_ev tX12_isEarly 73 L (.ref 0 :: r) M = zz_ev tX12_isEarly 76 L (.int (M.1 0 48) :: r) M) ∧
  (∀ L st M, zz_ev tX12_isEarly 76 L st M = zo_aload 0 77 (zz_ev tX12_isEarly) L st M) ∧
  (∀ (L : zzLc) (r : List Value) (M : zzMd), zz_ev tX12_isEarly 77 L (.ref 0 :: r) M = zz_ev tX12_isEarly 80 L (.ref 13 :: r) M) ∧
  (∀ L st M, zz_ev tX12_isEarly 80 L st M = zo_aload 0 81 (zz_ev tX12_isEarly) L st M) ∧
  (∀ (L : zzLc) (r : List Value) (M : zzMd), zz_ev tX12_isEarly 81 L (.ref 0 :: r) M = zz_ev tX12_isEarly 84 L (.int (M.1 0 43) :: r) M) ∧
  (∀ L st M, zz_ev tX12_isEarly 84 L st M = zo_iald zzSR zzSTR 85 (zz_ev tX12_isEarly) L st M) ∧
  (∀ L st M, zz_ev tX12_isEarly 85 L st M = zo_ii (fun x y => x - y) 86 (zz_ev tX12_isEarly) L st M) ∧
  (∀ L st M, zz_ev tX12_isEarly 86 L st M = zo_pushI 10 88 (zz_ev tX12_isEarly) L st M) ∧
  (∀ L st M, zz_ev tX12_isEarly 88 L st M = zo_icmp (fun x y => decide (y ≤ x)) 95 91 (zz_ev tX12_isEarly) L st M) ∧
  (∀ L st M, zz_ev tX12_isEarly 91 L st M = zo_pushI 1 92 (zz_ev tX12_isEarly) L st M) ∧
  (∀ L st M, zz_ev tX12_isEarly 92 L st M = zo_goto 96 (zz_ev tX12_isEarly) L st M) ∧
  (∀ L st M, zz_ev tX12_isEarly 95 L st M = zo_pushI 0 96 (zz_ev tX12_isEarly) L st M) ∧
  (∀ L st M, zz_ev tX12_isEarly 96 L st M = zo_iret true (zz_ev tX12_isEarly) L st M) :=
  ⟨zz_1 rfl tl_X12_isEarly, fun L r M => (zz_1 rfl tl_X12_isEarly _ _ _).trans rfl, zz_1 rfl tl_X12_isEarly, zz_1 rfl tl_X12_isEarly, zz_1 rfl tl_X12_isEarly, zz_1 rfl tl_X12_isEarly, fun L r M => (zz_1 rfl tl_X12_isEarly _ _ _).trans rfl, zz_1 rfl tl_X12_isEarly, fun L a0 a1 r M => (zz_1 rfl tl_X12_isEarly _ _ _).trans rfl, zz_1 rfl tl_X12_isEarly, zz_1 rfl tl_X12_isEarly, zz_1 rfl tl_X12_isEarly, fun L r M => (zz_1 rfl tl_X12_isEarly _ _ _).trans rfl, zz_1 rfl tl_X12_isEarly, fun L a0 a1 r M => (zz_1 rfl tl_X12_isEarly _ _ _).trans rfl, zz_1 rfl tl_X12_isEarly, zz_1 rfl tl_X12_isEarly, zz_1 rfl tl_X12_isEarly, zz_1 rfl tl_X12_isEarly, zz_1 rfl tl_X12_isEarly, zz_1 rfl tl_X12_isEarly, zz_1 rfl tl_X12_isEarly, zz_1 rfl tl_X12_isEarly, zz_1 rfl tl_X12_isEarly, fun L r M => (zz_1 rfl tl_X12_isEarly _ _ _).trans rfl, zz_1 rfl tl_X12_isEarly, fun L a0 a1 r M => (zz_1 rfl tl_X12_isEarly _ _ _).trans rfl, zz_1 rfl tl_X12_isEarly, fun L  r M => (zz_1 rfl tl_X12_isEarly _ _ _).trans rfl, zz_1 rfl tl_X12_isEarly, zz_1 rfl tl_X12_isEarly, fun L r M => (zz_1 rfl tl_X12_isEarly _ _ _).trans rfl, zz_1 rfl tl_X12_isEarly, fun L r M => (zz_1 rfl tl_X12_isEarly _ _ _).trans rfl, zz_1 rfl tl_X12_isEarly, zz_1 rfl tl_X12_isEarly, zz_1 rfl tl_X12_isEarly, zz_1 rfl tl_X12_isEarly, fun L r M => (zz_1 rfl tl_X12_isEarly _ _ _).trans rfl, zz_1 rfl tl_X12_isEarly, fun L r M => (zz_1 rfl tl_X12_isEarly _ _ _).trans rfl, zz_1 rfl tl_X12_isEarly, fun L r M => (zz_1 rfl tl_X12_isEarly _ _ _).trans rfl, zz_1 rfl tl_X12_isEarly, zz_1 rfl tl_X12_isEarly, zz_1 rfl tl_X12_isEarly, zz_1 rfl tl_X12_isEarly, zz_1 rfl tl_X12_isEarly, zz_1 rfl tl_X12_isEarly, zz_1 rfl tl_X12_isEarly, zz_1 rfl tl_X12_isEarly⟩
set_option maxRecDepth 100000 in
theorem s_X12_isEarly (v : Nat) (M : zzMd) : fX12_isEarly [.ref v] M = zz_ev tX12_isEarly 0 [some (.ref v), none] [] M := rfl
set_option maxRecDepth 100000 in
theorem e_X12_scales : (∀ L st M, zz_ev tX12_scales 0 L st M = zo_aload 0 1 (zz_ev tX12_scales) L st M) ∧
  (∀ L st M, zz_ev tX12_scales 1 L st M = zo_aload 0 2 (zz_ev tX12_scales) L st M) ∧
  (∀ (L : zzLc) (r : List Value) (M : zzMd), zz_ev tX12_scales 2 L (.ref 0 :: r) M = zz_ev tX12_scales 5 L (.int (M.1 0 43) :: r) M) ∧
  (∀ L st M, zz_ev tX12_scales 5 L st M = zo_pushI 0 6 (zz_ev tX12_scales) L st M) ∧
  (∀ (L : zzLc) (a0 a1 : Int32) (r : List Value) (M : zzMd), zz_ev tX12_scales 6 L (.int a1 :: .int a0 :: .ref 0 :: r) M = bif zz_cat8 r then zz_backN (zz_ev tX12_scales) 9 L r (fX12_stays [.ref 0, .int a0, .int a1] M) else none) ∧
  (∀ L st M, zz_ev tX12_scales 9 L st M = zo_if (fun x => decide (x = 0)) 40 12 (zz_ev tX12_scales) L st M) ∧
  (∀ L st M, zz_ev tX12_scales 12 L st M = zo_aload 0 13 (zz_ev tX12_scales) L st M) ∧
  (∀ L st M, zz_ev tX12_scales 13 L st M = zo_aload 0 14 (zz_ev tX12_scales) L st M) ∧
  (∀ (L : zzLc) (r : List Value) (M : zzMd), zz_ev tX12_scales 14 L (.ref 0 :: r) M = zz_ev tX12_scales 17 L (.int (M.1 0 43) :: r) M) ∧
  (∀ L st M, zz_ev tX12_scales 17 L st M = zo_pushI 5 18 (zz_ev tX12_scales) L st M) ∧
  (∀ (L : zzLc) (a0 a1 : Int32) (r : List Value) (M : zzMd), zz_ev tX12_scales 18 L (.int a1 :: .int a0 :: .ref 0 :: r) M = bif zz_cat8 r then zz_backN (zz_ev tX12_scales) 21 L r (fX12_viewed [.ref 0, .int a0, .int a1] M) else none) ∧
  (∀ L st M, zz_ev tX12_scales 21 L st M = zo_if (fun x => decide (x = 0)) 40 24 (zz_ev tX12_scales) L st M) ∧
  (∀ L st M, zz_ev tX12_scales 24 L st M = zo_aload 0 25 (zz_ev tX12_scales) L st M) ∧
  (∀ L st M, zz_ev tX12_scales 25 L st M = zo_aload 0 26 (zz_ev tX12_scales) L st M) ∧
  (∀ (L : zzLc) (r : List Value) (M : zzMd), zz_ev tX12_scales 26 L (.ref 0 :: r) M = zz_ev tX12_scales 29 L (.int (M.1 0 43) :: r) M) ∧
  (∀ L st M, zz_ev tX12_scales 29 L st M = zo_pushI 0 30 (zz_ev tX12_scales) L st M) ∧
  (∀ (L : zzLc) (a0 a1 : Int32) (r : List Value) (M : zzMd), zz_ev tX12_scales 30 L (.int a1 :: .int a0 :: .ref 0 :: r) M = bif zz_cat8 r then zz_backN (zz_ev tX12_scales) 33 L r (fX12_viewed [.ref 0, .int a0, .int a1] M) else none) ∧
  (∀ L st M, zz_ev tX12_scales 33 L st M = zo_aload 0 34 (zz_ev tX12_scales) L st M) ∧
  (∀ (L : zzLc) (r : List Value) (M : zzMd), zz_ev tX12_scales 34 L (.ref 0 :: r) M = bif zz_cat8 r then zz_backN (zz_ev tX12_scales) 37 L r (fX12_shouldWant [.ref 0] M) else none) ∧
  (∀ L st M, zz_ev tX12_scales 37 L st M = zo_icmp (fun x y => decide (¬ x = y)) 42 40 (zz_ev tX12_scales) L st M) ∧
  (∀ L st M, zz_ev tX12_scales 40 L st M = zo_pushI 1 41 (zz_ev tX12_scales) L st M) ∧
  (∀ L st M, zz_ev tX12_scales 41 L st M = zo_iret true (zz_ev tX12_scales) L st M) ∧
  (∀ L st M, zz_ev tX12_scales 42 L st M = zo_aload 0 43 (zz_ev tX12_scales) L st M) ∧
  (∀ (L : zzLc) (r : List Value) (M : zzMd), zz_ev tX12_scales 43 L (.ref 0 :: r) M = zz_ev tX12_scales 46 L (.int (M.1 0 14) :: r) M) ∧
  (∀ L st M, zz_ev tX12_scales 46 L st M = zo_istore 1 47 (zz_ev tX12_scales) L st M) ∧
  (∀ L st M, zz_ev tX12_scales 47 L st M = zo_aload 0 48 (zz_ev tX12_scales) L st M) ∧
  (∀ L st M, zz_ev tX12_scales 48 L st M = zo_aload 0 49 (zz_ev tX12_scales) L st M) ∧
  (∀ (L : zzLc) (r : List Value) (M : zzMd), zz_ev tX12_scales 49 L (.ref 0 :: r) M = zz_ev tX12_scales 52 L (.int (M.1 0 43) :: r) M) ∧
  (∀ L st M, zz_ev tX12_scales 52 L st M = zo_aload 0 53 (zz_ev tX12_scales) L st M) ∧
  (∀ (L : zzLc) (r : List Value) (M : zzMd), zz_ev tX12_scales 53 L (.ref 0 :: r) M = bif zz_cat8 r then zz_backN (zz_ev tX12_scales) 56 L r (fX12_shouldWant [.ref 0] M) else none) ∧
  (∀ (L : zzLc) (a0 a1 : Int32) (r : List Value) (M : zzMd), zz_ev tX12_scales 56 L (.int a1 :: .int a0 :: .ref 0 :: r) M = bif zz_cat8 r then zz_backN (zz_ev tX12_scales) 59 L r (fX12_wants [.ref 0, .int a0, .int a1] M) else none) ∧
  (∀ L st M, zz_ev tX12_scales 59 L st M = zo_istore 2 60 (zz_ev tX12_scales) L st M) ∧
  (∀ L st M, zz_ev tX12_scales 60 L st M = zo_aload 0 61 (zz_ev tX12_scales) L st M) ∧
  (∀ (L : zzLc) (r : List Value) (M : zzMd), zz_ev tX12_scales 61 L (.ref 0 :: r) M = zz_ev tX12_scales 64 L (.ref 13 :: r) M) ∧
  (∀ L st M, zz_ev tX12_scales 64 L st M = zo_aload 0 65 (zz_ev tX12_scales) L st M) ∧
  (∀ (L : zzLc) (r : List Value) (M : zzMd), zz_ev tX12_scales 65 L (.ref 0 :: r) M = zz_ev tX12_scales 68 L (.int (M.1 0 43) :: r) M) ∧
  (∀ L st M, zz_ev tX12_scales 68 L st M = zo_aload 0 69 (zz_ev tX12_scales) L st M) ∧
  (∀ (L : zzLc) (r : List Value) (M : zzMd), zz_ev tX12_scales 69 L (.ref 0 :: r) M = zz_ev tX12_scales 72 L (.int (M.1 0 14) :: r) M) ∧
  (∀ L st M, zz_ev tX12_scales 72 L st M = zo_iload 1 73 (zz_ev tX12_scales) L st M) ∧
  (∀ L st M, zz_ev tX12_scales 73 L st M = zo_icmp (fun x y => decide (x ≤ y)) 83 76 (zz_ev tX12_scales) L st M) ∧
  (∀ L st M, zz_ev tX12_scales 76 L st M = zo_aload 0 77 (zz_ev tX12_scales) L st M) ∧
  (∀ (L : zzLc) (r : List Value) (M : zzMd), zz_ev tX12_scales 77 L (.ref 0 :: r) M = zz_ev tX12_scales 80 L (.int (M.1 0 48) :: r) M) ∧
  (∀ L st M, zz_ev tX12_scales 80 L st M = zo_goto 92 (zz_ev tX12_scales) L st M) ∧
  (∀ L st M, zz_ev tX12_scales 83 L st M = zo_aload 0 84 (zz_ev tX12_scales) L st M) ∧
  (∀ (L : zzLc) (r : List Value) (M : zzMd), zz_ev tX12_scales 84 L (.ref 0 :: r) M = zz_ev tX12_scales 87 L (.ref 13 :: r) M) ∧
  (∀ L st M, zz_ev tX12_scales 87 L st M = zo_aload 0 88 (zz_ev tX12_scales) L st M) ∧
  (∀ (L : zzLc) (r : List Value) (M : zzMd), zz_ev tX12_scales 88 L (.ref 0 :: r) M = zz_ev tX12_scales 91 L (.int (M.1 0 43) :: r) M) ∧
  (∀ L st M, zz_ev tX12_scales 91 L st M = zo_iald zzSR zzSTR 92 (zz_ev tX12_scales) L st M) ∧
  (∀ L st M, zz_ev tX12_scales 92 L st M = zo_iast zzSR 93 (zz_ev tX12_scales) L st M) ∧
  (∀ L st M, zz_ev tX12_scales 93 L st M = zo_iload 2 94 (zz_ev tX12_scales) L st M) ∧
  (∀ L st M, zz_ev tX12_scales 94 L st M = zo_iret true (zz_ev tX12_scales) L st M) :=
  ⟨zz_1 rfl tl_X12_scales, zz_1 rfl tl_X12_scales, fun L r M => (zz_1 rfl tl_X12_scales _ _ _).trans rfl, zz_1 rfl tl_X12_scales, fun L a0 a1 r M => (zz_1 rfl tl_X12_scales _ _ _).trans rfl, zz_1 rfl tl_X12_scales, zz_1 rfl tl_X12_scales, zz_1 rfl tl_X12_scales, fun L r M => (zz_1 rfl tl_X12_scales _ _ _).trans rfl, zz_1 rfl tl_X12_scales, fun L a0 a1 r M => (zz_1 rfl tl_X12_scales _ _ _).trans rfl, zz_1 rfl tl_X12_scales, zz_1 rfl tl_X12_scales, zz_1 rfl tl_X12_scales, fun L r M => (zz_1 rfl tl_X12_scales _ _ _).trans rfl, zz_1 rfl tl_X12_scales, fun L a0 a1 r M => (zz_1 rfl tl_X12_scales _ _ _).trans rfl, zz_1 rfl tl_X12_scales, fun L  r M => (zz_1 rfl tl_X12_scales _ _ _).trans rfl, zz_1 rfl tl_X12_scales, zz_1 rfl tl_X12_scales, zz_1 rfl tl_X12_scales, zz_1 rfl tl_X12_scales, fun L r M => (zz_1 rfl tl_X12_scales _ _ _).trans rfl, zz_1 rfl tl_X12_scales, zz_1 rfl tl_X12_scales, zz_1 rfl tl_X12_scales, fun L r M => (zz_1 rfl tl_X12_scales _ _ _).trans rfl, zz_1 rfl tl_X12_scales, fun L  r M => (zz_1 rfl tl_X12_scales _ _ _).trans rfl, fun L a0 a1 r M => (zz_1 rfl tl_X12_scales _ _ _).trans rfl, zz_1 rfl tl_X12_scales, zz_1 rfl tl_X12_scales, fun L r M => (zz_1 rfl tl_X12_scales _ _ _).trans rfl, zz_1 rfl tl_X12_scales, fun L r M => (zz_1 rfl tl_X12_scales _ _ _).trans rfl, zz_1 rfl tl_X12_scales, fun L r M => (zz_1 rfl tl_X12_scales _ _ _).trans rfl, zz_1 rfl tl_X12_scales, zz_1 rfl tl_X12_scales, zz_1 rfl tl_X12_scales, fun L r M => (zz_1 rfl tl_X12_scales _ _ _).trans rfl, zz_1 rfl tl_X12_scales, zz_1 rfl tl_X12_scales, fun L r M => (zz_1 rfl tl_X12_scales _ _ _).trans rfl, zz_1 rfl tl_X12_scales, fun L r M => (zz_1 rfl tl_X12_scales _ _ _).trans rfl, zz_1 rfl tl_X12_scales, zz_1 rfl tl_X12_scales, zz_1 rfl tl_X12_scales, zz_1 rfl tl_X12_scales⟩
set_option maxRecDepth 100000 in
theorem s_X12_scales (v : Nat) (M : zzMd) : fX12_scales [.ref v] M = zz_ev tX12_scales 0 [some (.ref v), none, none] [] M := rfl
set_option maxRecDepth 100000 in
theorem e_X12_does : (∀ L st M, zz_ev tX12_does 0 L st M = zo_aload 0 1 (zz_ev tX12_does) L st M) ∧
  (∀ (L : zzLc) (r : List Value) (M : zzMd), zz_ev tX12_does 1 L (.ref 0 :: r) M = zz_ev tX12_does 4 L (.int (M.1 0 42) :: r) M) ∧
  (∀ L st M, zz_ev tX12_does 4 L st M = zo_if (fun x => decide (¬ x = 0)) 14 7 (zz_ev tX12_does) L st M) ∧
  (∀ L st M, zz_ev tX12_does 7 L st M = zo_aload 0 8 (zz_ev tX12_does) L st M) ∧
  (∀ (L : zzLc) (r : List Value) (M : zzMd), zz_ev tX12_does 8 L (.ref 0 :: r) M = bif zz_cat8 r then zz_backN (zz_ev tX12_does) 11 L r (fX12_deploys [.ref 0] M) else none) ∧
  (∀ L st M, zz_ev tX12_does 11 L st M = zo_goto 109 (zz_ev tX12_does) L st M) ∧
  (∀ L st M, zz_ev tX12_does 14 L st M = zo_aload 0 15 (zz_ev tX12_does) L st M) ∧
  (∀ (L : zzLc) (r : List Value) (M : zzMd), zz_ev tX12_does 15 L (.ref 0 :: r) M = zz_ev tX12_does 18 L (.int (M.1 0 42) :: r) M) ∧
  (∀ L st M, zz_ev tX12_does 18 L st M = zo_pushI 1 19 (zz_ev tX12_does) L st M) ∧
  (∀ L st M, zz_ev tX12_does 19 L st M = zo_icmp (fun x y => decide (¬ x = y)) 29 22 (zz_ev tX12_does) L st M) ∧
  (∀ L st M, zz_ev tX12_does 22 L st M = zo_aload 0 23 (zz_ev tX12_does) L st M) ∧
  (∀ (L : zzLc) (r : List Value) (M : zzMd), zz_ev tX12_does 23 L (.ref 0 :: r) M = bif zz_cat8 r then zz_backN (zz_ev tX12_does) 26 L r (fX12_replicates [.ref 0] M) else none) ∧
  (∀ L st M, zz_ev tX12_does 26 L st M = zo_goto 109 (zz_ev tX12_does) L st M) ∧
  (∀ L st M, zz_ev tX12_does 29 L st M = zo_aload 0 30 (zz_ev tX12_does) L st M) ∧
  (∀ (L : zzLc) (r : List Value) (M : zzMd), zz_ev tX12_does 30 L (.ref 0 :: r) M = zz_ev tX12_does 33 L (.int (M.1 0 42) :: r) M) ∧
  (∀ L st M, zz_ev tX12_does 33 L st M = zo_pushI 2 34 (zz_ev tX12_does) L st M) ∧
  (∀ L st M, zz_ev tX12_does 34 L st M = zo_icmp (fun x y => decide (¬ x = y)) 44 37 (zz_ev tX12_does) L st M) ∧
  (∀ L st M, zz_ev tX12_does 37 L st M = zo_aload 0 38 (zz_ev tX12_does) L st M) ∧
  (∀ (L : zzLc) (r : List Value) (M : zzMd), zz_ev tX12_does 38 L (.ref 0 :: r) M = bif zz_cat8 r then zz_backN (zz_ev tX12_does) 41 L r (fX12_doesJobs [.ref 0] M) else none) ∧
  (∀ L st M, zz_ev tX12_does 41 L st M = zo_goto 109 (zz_ev tX12_does) L st M) ∧
  (∀ L st M, zz_ev tX12_does 44 L st M = zo_aload 0 45 (zz_ev tX12_does) L st M) ∧
  (∀ (L : zzLc) (r : List Value) (M : zzMd), zz_ev tX12_does 45 L (.ref 0 :: r) M = zz_ev tX12_does 48 L (.int (M.1 0 42) :: r) M) ∧
  (∀ L st M, zz_ev tX12_does 48 L st M = zo_pushI 3 49 (zz_ev tX12_does) L st M) ∧
  (∀ L st M, zz_ev tX12_does 49 L st M = zo_icmp (fun x y => decide (¬ x = y)) 59 52 (zz_ev tX12_does) L st M) ∧
  (∀ L st M, zz_ev tX12_does 52 L st M = zo_aload 0 53 (zz_ev tX12_does) L st M) ∧
  (∀ (L : zzLc) (r : List Value) (M : zzMd), zz_ev tX12_does 53 L (.ref 0 :: r) M = bif zz_cat8 r then zz_backN (zz_ev tX12_does) 56 L r (fX12_schedules [.ref 0] M) else none) ∧
  (∀ L st M, zz_ev tX12_does 56 L st M = zo_goto 109 (zz_ev tX12_does) L st M) ∧
  (∀ L st M, zz_ev tX12_does 59 L st M = zo_aload 0 60 (zz_ev tX12_does) L st M) ∧
  (∀ (L : zzLc) (r : List Value) (M : zzMd), zz_ev tX12_does 60 L (.ref 0 :: r) M = zz_ev tX12_does 63 L (.int (M.1 0 42) :: r) M) ∧
  (∀ L st M, zz_ev tX12_does 63 L st M = zo_pushI 4 64 (zz_ev tX12_does) L st M) ∧
  (∀ L st M, zz_ev tX12_does 64 L st M = zo_icmp (fun x y => decide (¬ x = y)) 74 67 (zz_ev tX12_does) L st M) ∧
  (∀ L st M, zz_ev tX12_does 67 L st M = zo_aload 0 68 (zz_ev tX12_does) L st M) ∧
  (∀ (L : zzLc) (r : List Value) (M : zzMd), zz_ev tX12_does 68 L (.ref 0 :: r) M = bif zz_cat8 r then zz_backN (zz_ev tX12_does) 71 L r (fX12_runs [.ref 0] M) else none) ∧
  (∀ L st M, zz_ev tX12_does 71 L st M = zo_goto 109 (zz_ev tX12_does) L st M) ∧
  (∀ L st M, zz_ev tX12_does 74 L st M = zo_aload 0 75 (zz_ev tX12_does) L st M) ∧
  (∀ (L : zzLc) (r : List Value) (M : zzMd), zz_ev tX12_does 75 L (.ref 0 :: r) M = zz_ev tX12_does 78 L (.int (M.1 0 42) :: r) M) ∧
  (∀ L st M, zz_ev tX12_does 78 L st M = zo_pushI 5 79 (zz_ev tX12_does) L st M) ∧
  (∀ L st M, zz_ev tX12_does 79 L st M = zo_icmp (fun x y => decide (¬ x = y)) 89 82 (zz_ev tX12_does) L st M) ∧
  (∀ L st M, zz_ev tX12_does 82 L st M = zo_aload 0 83 (zz_ev tX12_does) L st M) ∧
  (∀ (L : zzLc) (r : List Value) (M : zzMd), zz_ev tX12_does 83 L (.ref 0 :: r) M = bif zz_cat8 r then zz_backN (zz_ev tX12_does) 86 L r (fX12_collects [.ref 0] M) else none) ∧
  (∀ L st M, zz_ev tX12_does 86 L st M = zo_goto 109 (zz_ev tX12_does) L st M) ∧
  (∀ L st M, zz_ev tX12_does 89 L st M = zo_aload 0 90 (zz_ev tX12_does) L st M) ∧
  (∀ (L : zzLc) (r : List Value) (M : zzMd), zz_ev tX12_does 90 L (.ref 0 :: r) M = zz_ev tX12_does 93 L (.int (M.1 0 42) :: r) M) ∧
  (∀ L st M, zz_ev tX12_does 93 L st M = zo_pushI 6 95 (zz_ev tX12_does) L st M) ∧
  (∀ L st M, zz_ev tX12_does 95 L st M = zo_icmp (fun x y => decide (¬ x = y)) 105 98 (zz_ev tX12_does) L st M) ∧
  (∀ L st M, zz_ev tX12_does 98 L st M = zo_aload 0 99 (zz_ev tX12_does) L st M) ∧
  (∀ (L : zzLc) (r : List Value) (M : zzMd), zz_ev tX12_does 99 L (.ref 0 :: r) M = bif zz_cat8 r then zz_backN (zz_ev tX12_does) 102 L r (fX12_routes [.ref 0] M) else none) ∧
  (∀ L st M, zz_ev tX12_does 102 L st M = zo_goto 109 (zz_ev tX12_does) L st M) ∧
  (∀ L st M, zz_ev tX12_does 105 L st M = zo_aload 0 106 (zz_ev tX12_does) L st M) ∧
  (∀ (L : zzLc) (r : List Value) (M : zzMd), zz_ev tX12_does 106 L (.ref 0 :: r) M = bif zz_cat8 r then zz_backN (zz_ev tX12_does) 109 L r (fX12_scales [.ref 0] M) else none) ∧
  (∀ L st M, zz_ev tX12_does 109 L st M = zo_iret true (zz_ev tX12_does) L st M) :=
  ⟨zz_1 rfl tl_X12_does, fun L r M => (zz_1 rfl tl_X12_does _ _ _).trans rfl, zz_1 rfl tl_X12_does, zz_1 rfl tl_X12_does, fun L  r M => (zz_1 rfl tl_X12_does _ _ _).trans rfl, zz_1 rfl tl_X12_does, zz_1 rfl tl_X12_does, fun L r M => (zz_1 rfl tl_X12_does _ _ _).trans rfl, zz_1 rfl tl_X12_does, zz_1 rfl tl_X12_does, zz_1 rfl tl_X12_does, fun L  r M => (zz_1 rfl tl_X12_does _ _ _).trans rfl, zz_1 rfl tl_X12_does, zz_1 rfl tl_X12_does, fun L r M => (zz_1 rfl tl_X12_does _ _ _).trans rfl, zz_1 rfl tl_X12_does, zz_1 rfl tl_X12_does, zz_1 rfl tl_X12_does, fun L  r M => (zz_1 rfl tl_X12_does _ _ _).trans rfl, zz_1 rfl tl_X12_does, zz_1 rfl tl_X12_does, fun L r M => (zz_1 rfl tl_X12_does _ _ _).trans rfl, zz_1 rfl tl_X12_does, zz_1 rfl tl_X12_does, zz_1 rfl tl_X12_does, fun L  r M => (zz_1 rfl tl_X12_does _ _ _).trans rfl, zz_1 rfl tl_X12_does, zz_1 rfl tl_X12_does, fun L r M => (zz_1 rfl tl_X12_does _ _ _).trans rfl, zz_1 rfl tl_X12_does, zz_1 rfl tl_X12_does, zz_1 rfl tl_X12_does, fun L  r M => (zz_1 rfl tl_X12_does _ _ _).trans rfl, zz_1 rfl tl_X12_does, zz_1 rfl tl_X12_does, fun L r M => (zz_1 rfl tl_X12_does _ _ _).trans rfl, zz_1 rfl tl_X12_does, zz_1 rfl tl_X12_does, zz_1 rfl tl_X12_does, fun L  r M => (zz_1 rfl tl_X12_does _ _ _).trans rfl, zz_1 rfl tl_X12_does, zz_1 rfl tl_X12_does, fun L r M => (zz_1 rfl tl_X12_does _ _ _).trans rfl, zz_1 rfl tl_X12_does, zz_1 rfl tl_X12_does, zz_1 rfl tl_X12_does, fun L  r M => (zz_1 rfl tl_X12_does _ _ _).trans rfl, zz_1 rfl tl_X12_does, zz_1 rfl tl_X12_does, fun L  r M => (zz_1 rfl tl_X12_does _ _ _).trans rfl, zz_1 rfl tl_X12_does⟩
set_option maxRecDepth 100000 in
theorem s_X12_does (v : Nat) (M : zzMd) : fX12_does [.ref v] M = zz_ev tX12_does 0 [some (.ref v)] [] M := rfl
set_option maxRecDepth 100000 in
theorem e_X12_takesOut : (∀ L st M, zz_ev tX12_takesOut 0 L st M = zo_aload 0 1 (zz_ev tX12_takesOut) L st M) ∧
  (∀ (L : zzLc) (r : List Value) (M : zzMd), zz_ev tX12_takesOut 1 L (.ref 0 :: r) M = zz_ev tX12_takesOut 4 L (.ref 31 :: r) M) ∧
  (∀ L st M, zz_ev tX12_takesOut 4 L st M = zo_aload 0 5 (zz_ev tX12_takesOut) L st M) ∧
  (∀ (L : zzLc) (r : List Value) (M : zzMd), zz_ev tX12_takesOut 5 L (.ref 0 :: r) M = zz_ev tX12_takesOut 8 L (.int (M.1 0 42) :: r) M) ∧
  (∀ L st M, zz_ev tX12_takesOut 8 L st M = zo_dup2 9 (zz_ev tX12_takesOut) L st M) ∧
  (∀ L st M, zz_ev tX12_takesOut 9 L st M = zo_iald zzSR zzSTR 10 (zz_ev tX12_takesOut) L st M) ∧
  (∀ L st M, zz_ev tX12_takesOut 10 L st M = zo_pushI 1 11 (zz_ev tX12_takesOut) L st M) ∧
  (∀ L st M, zz_ev tX12_takesOut 11 L st M = zo_ii (fun x y => x - y) 12 (zz_ev tX12_takesOut) L st M) ∧
  (∀ L st M, zz_ev tX12_takesOut 12 L st M = zo_iast zzSR 13 (zz_ev tX12_takesOut) L st M) ∧
  (∀ L st M, zz_ev tX12_takesOut 13 L st M = zo_iload 1 14 (zz_ev tX12_takesOut) L st M) ∧
  (∀ L st M, zz_ev tX12_takesOut 14 L st M = zo_istore 2 15 (zz_ev tX12_takesOut) L st M) ∧
  (∀ L st M, zz_ev tX12_takesOut 16 L st M = zo_pushI 60 18 (zz_ev tX12_takesOut) L st M) ∧
  (∀ L st M, zz_ev tX12_takesOut 18 L st M = zo_aload 0 19 (zz_ev tX12_takesOut) L st M) ∧
  (∀ (L : zzLc) (r : List Value) (M : zzMd), zz_ev tX12_takesOut 19 L (.ref 0 :: r) M = zz_ev tX12_takesOut 22 L (.int (M.1 0 42) :: r) M) ∧
  (∀ L st M, zz_ev tX12_takesOut 22 L st M = zo_ii (fun x y => x * y) 23 (zz_ev tX12_takesOut) L st M) ∧
  (∀ L st M, zz_ev tX12_takesOut 23 L st M = zo_aload 0 24 (zz_ev tX12_takesOut) L st M) ∧
  (∀ (L : zzLc) (r : List Value) (M : zzMd), zz_ev tX12_takesOut 24 L (.ref 0 :: r) M = zz_ev tX12_takesOut 27 L (.ref 31 :: r) M) ∧
  (∀ L st M, zz_ev tX12_takesOut 27 L st M = zo_aload 0 28 (zz_ev tX12_takesOut) L st M) ∧
  (∀ (L : zzLc) (r : List Value) (M : zzMd), zz_ev tX12_takesOut 28 L (.ref 0 :: r) M = zz_ev tX12_takesOut 31 L (.int (M.1 0 42) :: r) M) ∧
  (∀ L st M, zz_ev tX12_takesOut 31 L st M = zo_iald zzSR zzSTR 32 (zz_ev tX12_takesOut) L st M) ∧
  (∀ L st M, zz_ev tX12_takesOut 32 L st M = zo_ii (fun x y => x + y) 33 (zz_ev tX12_takesOut) L st M) ∧
  (∀ L st M, zz_ev tX12_takesOut 33 L st M = zo_icmp (fun x y => decide (y ≤ x)) 56 36 (zz_ev tX12_takesOut) L st M) ∧
  (∀ L st M, zz_ev tX12_takesOut 36 L st M = zo_aload 0 37 (zz_ev tX12_takesOut) L st M) ∧
  (∀ (L : zzLc) (r : List Value) (M : zzMd), zz_ev tX12_takesOut 37 L (.ref 0 :: r) M = zz_ev tX12_takesOut 40 L (.ref 32 :: r) M) ∧
  (∀ L st M, zz_ev tX12_takesOut 40 L st M = zo_iload 2 41 (zz_ev tX12_takesOut) L st M) ∧
  (∀ L st M, zz_ev tX12_takesOut 41 L st M = zo_aload 0 42 (zz_ev tX12_takesOut) L st M) ∧
  (∀ (L : zzLc) (r : List Value) (M : zzMd), zz_ev tX12_takesOut 42 L (.ref 0 :: r) M = zz_ev tX12_takesOut 45 L (.ref 32 :: r) M) ∧
  (∀ L st M, zz_ev tX12_takesOut 45 L st M = zo_iload 2 46 (zz_ev tX12_takesOut) L st M) ∧
  (∀ L st M, zz_ev tX12_takesOut 46 L st M = zo_pushI 1 47 (zz_ev tX12_takesOut) L st M) ∧
  (∀ L st M, zz_ev tX12_takesOut 47 L st M = zo_ii (fun x y => x + y) 48 (zz_ev tX12_takesOut) L st M) ∧
  (∀ L st M, zz_ev tX12_takesOut 48 L st M = zo_iald zzSR zzSTR 49 (zz_ev tX12_takesOut) L st M) ∧
  (∀ L st M, zz_ev tX12_takesOut 49 L st M = zo_iast zzSR 50 (zz_ev tX12_takesOut) L st M) ∧
  (∀ L st M, zz_ev tX12_takesOut 50 L st M = zo_iinc 2 1 53 (zz_ev tX12_takesOut) L st M) ∧
  (∀ L st M, zz_ev tX12_takesOut 53 L st M = zo_goto 15 (zz_ev tX12_takesOut) L st M) ∧
  (∀ L st M, zz_ev tX12_takesOut 56 L st M = zo_ret (zz_ev tX12_takesOut) L st M) :=
  ⟨zz_1 rfl tl_X12_takesOut, fun L r M => (zz_1 rfl tl_X12_takesOut _ _ _).trans rfl, zz_1 rfl tl_X12_takesOut, fun L r M => (zz_1 rfl tl_X12_takesOut _ _ _).trans rfl, zz_1 rfl tl_X12_takesOut, zz_1 rfl tl_X12_takesOut, zz_1 rfl tl_X12_takesOut, zz_1 rfl tl_X12_takesOut, zz_1 rfl tl_X12_takesOut, zz_1 rfl tl_X12_takesOut, zz_1 rfl tl_X12_takesOut, zz_1 rfl tl_X12_takesOut, zz_1 rfl tl_X12_takesOut, fun L r M => (zz_1 rfl tl_X12_takesOut _ _ _).trans rfl, zz_1 rfl tl_X12_takesOut, zz_1 rfl tl_X12_takesOut, fun L r M => (zz_1 rfl tl_X12_takesOut _ _ _).trans rfl, zz_1 rfl tl_X12_takesOut, fun L r M => (zz_1 rfl tl_X12_takesOut _ _ _).trans rfl, zz_1 rfl tl_X12_takesOut, zz_1 rfl tl_X12_takesOut, zz_1 rfl tl_X12_takesOut, zz_1 rfl tl_X12_takesOut, fun L r M => (zz_1 rfl tl_X12_takesOut _ _ _).trans rfl, zz_1 rfl tl_X12_takesOut, zz_1 rfl tl_X12_takesOut, fun L r M => (zz_1 rfl tl_X12_takesOut _ _ _).trans rfl, zz_1 rfl tl_X12_takesOut, zz_1 rfl tl_X12_takesOut, zz_1 rfl tl_X12_takesOut, zz_1 rfl tl_X12_takesOut, zz_1 rfl tl_X12_takesOut, zz_1 rfl tl_X12_takesOut, zz_1 rfl tl_X12_takesOut, zz_1 rfl tl_X12_takesOut⟩
set_option maxRecDepth 100000 in
theorem e_X12_takesOut_15 : (∀ L st M, zz_ev tX12_takesOut 15 L st M = zo_iload 2 16 (zz_ev tX12_takesOut) L st M) := zz_1 rfl tl_X12_takesOut
set_option maxRecDepth 100000 in
theorem s_X12_takesOut (a0 : Int32) (v : Nat) (M : zzMd) : fX12_takesOut [.ref v, .int a0] M = zz_ev tX12_takesOut 0 [some (.ref v), some (.int a0), none] [] M := rfl
set_option maxRecDepth 100000 in
theorem e_X12_putsBack : (∀ L st M, zz_ev tX12_putsBack 0 L st M = zo_aload 0 1 (zz_ev tX12_putsBack) L st M) ∧
  (∀ (L : zzLc) (r : List Value) (M : zzMd), zz_ev tX12_putsBack 1 L (.ref 0 :: r) M = zz_ev tX12_putsBack 4 L (.ref 32 :: r) M) ∧
  (∀ L st M, zz_ev tX12_putsBack 4 L st M = zo_pushI 60 6 (zz_ev tX12_putsBack) L st M) ∧
  (∀ L st M, zz_ev tX12_putsBack 6 L st M = zo_aload 0 7 (zz_ev tX12_putsBack) L st M) ∧
  (∀ (L : zzLc) (r : List Value) (M : zzMd), zz_ev tX12_putsBack 7 L (.ref 0 :: r) M = zz_ev tX12_putsBack 10 L (.int (M.1 0 42) :: r) M) ∧
  (∀ L st M, zz_ev tX12_putsBack 10 L st M = zo_ii (fun x y => x * y) 11 (zz_ev tX12_putsBack) L st M) ∧
  (∀ L st M, zz_ev tX12_putsBack 11 L st M = zo_aload 0 12 (zz_ev tX12_putsBack) L st M) ∧
  (∀ (L : zzLc) (r : List Value) (M : zzMd), zz_ev tX12_putsBack 12 L (.ref 0 :: r) M = zz_ev tX12_putsBack 15 L (.ref 31 :: r) M) ∧
  (∀ L st M, zz_ev tX12_putsBack 15 L st M = zo_aload 0 16 (zz_ev tX12_putsBack) L st M) ∧
  (∀ (L : zzLc) (r : List Value) (M : zzMd), zz_ev tX12_putsBack 16 L (.ref 0 :: r) M = zz_ev tX12_putsBack 19 L (.int (M.1 0 42) :: r) M) ∧
  (∀ L st M, zz_ev tX12_putsBack 19 L st M = zo_iald zzSR zzSTR 20 (zz_ev tX12_putsBack) L st M) ∧
  (∀ L st M, zz_ev tX12_putsBack 20 L st M = zo_ii (fun x y => x + y) 21 (zz_ev tX12_putsBack) L st M) ∧
  (∀ L st M, zz_ev tX12_putsBack 21 L st M = zo_aload 0 22 (zz_ev tX12_putsBack) L st M) ∧
  (∀ (L : zzLc) (r : List Value) (M : zzMd), zz_ev tX12_putsBack 22 L (.ref 0 :: r) M = zz_ev tX12_putsBack 25 L (.int (M.1 0 43) :: r) M) ∧
  (∀ L st M, zz_ev tX12_putsBack 25 L st M = zo_iast zzSR 26 (zz_ev tX12_putsBack) L st M) ∧
  (∀ L st M, zz_ev tX12_putsBack 26 L st M = zo_aload 0 27 (zz_ev tX12_putsBack) L st M) ∧
  (∀ (L : zzLc) (r : List Value) (M : zzMd), zz_ev tX12_putsBack 27 L (.ref 0 :: r) M = zz_ev tX12_putsBack 30 L (.ref 31 :: r) M) ∧
  (∀ L st M, zz_ev tX12_putsBack 30 L st M = zo_aload 0 31 (zz_ev tX12_putsBack) L st M) ∧
  (∀ (L : zzLc) (r : List Value) (M : zzMd), zz_ev tX12_putsBack 31 L (.ref 0 :: r) M = zz_ev tX12_putsBack 34 L (.int (M.1 0 42) :: r) M) ∧
  (∀ L st M, zz_ev tX12_putsBack 34 L st M = zo_dup2 35 (zz_ev tX12_putsBack) L st M) ∧
  (∀ L st M, zz_ev tX12_putsBack 35 L st M = zo_iald zzSR zzSTR 36 (zz_ev tX12_putsBack) L st M) ∧
  (∀ L st M, zz_ev tX12_putsBack 36 L st M = zo_pushI 1 37 (zz_ev tX12_putsBack) L st M) ∧
  (∀ L st M, zz_ev tX12_putsBack 37 L st M = zo_ii (fun x y => x + y) 38 (zz_ev tX12_putsBack) L st M) ∧
  (∀ L st M, zz_ev tX12_putsBack 38 L st M = zo_iast zzSR 39 (zz_ev tX12_putsBack) L st M) ∧
  (∀ L st M, zz_ev tX12_putsBack 39 L st M = zo_ret (zz_ev tX12_putsBack) L st M) :=
  ⟨zz_1 rfl tl_X12_putsBack, fun L r M => (zz_1 rfl tl_X12_putsBack _ _ _).trans rfl, zz_1 rfl tl_X12_putsBack, zz_1 rfl tl_X12_putsBack, fun L r M => (zz_1 rfl tl_X12_putsBack _ _ _).trans rfl, zz_1 rfl tl_X12_putsBack, zz_1 rfl tl_X12_putsBack, fun L r M => (zz_1 rfl tl_X12_putsBack _ _ _).trans rfl, zz_1 rfl tl_X12_putsBack, fun L r M => (zz_1 rfl tl_X12_putsBack _ _ _).trans rfl, zz_1 rfl tl_X12_putsBack, zz_1 rfl tl_X12_putsBack, zz_1 rfl tl_X12_putsBack, fun L r M => (zz_1 rfl tl_X12_putsBack _ _ _).trans rfl, zz_1 rfl tl_X12_putsBack, zz_1 rfl tl_X12_putsBack, fun L r M => (zz_1 rfl tl_X12_putsBack _ _ _).trans rfl, zz_1 rfl tl_X12_putsBack, fun L r M => (zz_1 rfl tl_X12_putsBack _ _ _).trans rfl, zz_1 rfl tl_X12_putsBack, zz_1 rfl tl_X12_putsBack, zz_1 rfl tl_X12_putsBack, zz_1 rfl tl_X12_putsBack, zz_1 rfl tl_X12_putsBack, zz_1 rfl tl_X12_putsBack⟩
set_option maxRecDepth 100000 in
theorem s_X12_putsBack (v : Nat) (M : zzMd) : fX12_putsBack [.ref v] M = zz_ev tX12_putsBack 0 [some (.ref v)] [] M := rfl
set_option maxRecDepth 100000 in
theorem e_X12_works : (∀ L st M, zz_ev tX12_works 0 L st M = zo_pushI 60 2 (zz_ev tX12_works) L st M) ∧
  (∀ L st M, zz_ev tX12_works 2 L st M = zo_aload 0 3 (zz_ev tX12_works) L st M) ∧
  (∀ (L : zzLc) (r : List Value) (M : zzMd), zz_ev tX12_works 3 L (.ref 0 :: r) M = zz_ev tX12_works 6 L (.int (M.1 0 42) :: r) M) ∧
  (∀ L st M, zz_ev tX12_works 6 L st M = zo_ii (fun x y => x * y) 7 (zz_ev tX12_works) L st M) ∧
  (∀ L st M, zz_ev tX12_works 7 L st M = zo_istore 1 8 (zz_ev tX12_works) L st M) ∧
  (∀ L st M, zz_ev tX12_works 9 L st M = zo_pushI 60 11 (zz_ev tX12_works) L st M) ∧
  (∀ L st M, zz_ev tX12_works 11 L st M = zo_aload 0 12 (zz_ev tX12_works) L st M) ∧
  (∀ (L : zzLc) (r : List Value) (M : zzMd), zz_ev tX12_works 12 L (.ref 0 :: r) M = zz_ev tX12_works 15 L (.int (M.1 0 42) :: r) M) ∧
  (∀ L st M, zz_ev tX12_works 15 L st M = zo_ii (fun x y => x * y) 16 (zz_ev tX12_works) L st M) ∧
  (∀ L st M, zz_ev tX12_works 16 L st M = zo_aload 0 17 (zz_ev tX12_works) L st M) ∧
  (∀ (L : zzLc) (r : List Value) (M : zzMd), zz_ev tX12_works 17 L (.ref 0 :: r) M = zz_ev tX12_works 20 L (.ref 31 :: r) M) ∧
  (∀ L st M, zz_ev tX12_works 20 L st M = zo_aload 0 21 (zz_ev tX12_works) L st M) ∧
  (∀ (L : zzLc) (r : List Value) (M : zzMd), zz_ev tX12_works 21 L (.ref 0 :: r) M = zz_ev tX12_works 24 L (.int (M.1 0 42) :: r) M) ∧
  (∀ L st M, zz_ev tX12_works 24 L st M = zo_iald zzSR zzSTR 25 (zz_ev tX12_works) L st M) ∧
  (∀ L st M, zz_ev tX12_works 25 L st M = zo_ii (fun x y => x + y) 26 (zz_ev tX12_works) L st M) ∧
  (∀ L st M, zz_ev tX12_works 26 L st M = zo_icmp (fun x y => decide (y ≤ x)) 61 29 (zz_ev tX12_works) L st M) ∧
  (∀ L st M, zz_ev tX12_works 29 L st M = zo_aload 0 30 (zz_ev tX12_works) L st M) ∧
  (∀ (L : zzLc) (r : List Value) (M : zzMd), zz_ev tX12_works 30 L (.ref 0 :: r) M = zz_ev tX12_works 33 L (.ref 34 :: r) M) ∧
  (∀ L st M, zz_ev tX12_works 33 L st M = zo_pushI 60 35 (zz_ev tX12_works) L st M) ∧
  (∀ L st M, zz_ev tX12_works 35 L st M = zo_aload 0 36 (zz_ev tX12_works) L st M) ∧
  (∀ (L : zzLc) (r : List Value) (M : zzMd), zz_ev tX12_works 36 L (.ref 0 :: r) M = zz_ev tX12_works 39 L (.int (M.1 0 42) :: r) M) ∧
  (∀ L st M, zz_ev tX12_works 39 L st M = zo_ii (fun x y => x * y) 40 (zz_ev tX12_works) L st M) ∧
  (∀ L st M, zz_ev tX12_works 40 L st M = zo_aload 0 41 (zz_ev tX12_works) L st M) ∧
  (∀ (L : zzLc) (r : List Value) (M : zzMd), zz_ev tX12_works 41 L (.ref 0 :: r) M = zz_ev tX12_works 44 L (.ref 32 :: r) M) ∧
  (∀ L st M, zz_ev tX12_works 44 L st M = zo_iload 1 45 (zz_ev tX12_works) L st M) ∧
  (∀ L st M, zz_ev tX12_works 45 L st M = zo_iald zzSR zzSTR 46 (zz_ev tX12_works) L st M) ∧
  (∀ L st M, zz_ev tX12_works 46 L st M = zo_ii (fun x y => x + y) 47 (zz_ev tX12_works) L st M) ∧
  (∀ L st M, zz_ev tX12_works 47 L st M = zo_iald zzSR zzSTR 48 (zz_ev tX12_works) L st M) ∧
  (∀ L st M, zz_ev tX12_works 48 L st M = zo_aload 0 49 (zz_ev tX12_works) L st M) ∧
  (∀ (L : zzLc) (r : List Value) (M : zzMd), zz_ev tX12_works 49 L (.ref 0 :: r) M = zz_ev tX12_works 52 L (.int (M.1 0 48) :: r) M) ∧
  (∀ L st M, zz_ev tX12_works 52 L st M = zo_icmp (fun x y => decide (x ≤ y)) 61 55 (zz_ev tX12_works) L st M) ∧
  (∀ L st M, zz_ev tX12_works 55 L st M = zo_iinc 1 1 58 (zz_ev tX12_works) L st M) ∧
  (∀ L st M, zz_ev tX12_works 58 L st M = zo_goto 8 (zz_ev tX12_works) L st M) ∧
  (∀ L st M, zz_ev tX12_works 61 L st M = zo_iload 1 62 (zz_ev tX12_works) L st M) ∧
  (∀ L st M, zz_ev tX12_works 62 L st M = zo_pushI 60 64 (zz_ev tX12_works) L st M) ∧
  (∀ L st M, zz_ev tX12_works 64 L st M = zo_aload 0 65 (zz_ev tX12_works) L st M) ∧
  (∀ (L : zzLc) (r : List Value) (M : zzMd), zz_ev tX12_works 65 L (.ref 0 :: r) M = zz_ev tX12_works 68 L (.int (M.1 0 42) :: r) M) ∧
  (∀ L st M, zz_ev tX12_works 68 L st M = zo_ii (fun x y => x * y) 69 (zz_ev tX12_works) L st M) ∧
  (∀ L st M, zz_ev tX12_works 69 L st M = zo_aload 0 70 (zz_ev tX12_works) L st M) ∧
  (∀ (L : zzLc) (r : List Value) (M : zzMd), zz_ev tX12_works 70 L (.ref 0 :: r) M = zz_ev tX12_works 73 L (.ref 31 :: r) M) ∧
  (∀ L st M, zz_ev tX12_works 73 L st M = zo_aload 0 74 (zz_ev tX12_works) L st M) ∧
  (∀ (L : zzLc) (r : List Value) (M : zzMd), zz_ev tX12_works 74 L (.ref 0 :: r) M = zz_ev tX12_works 77 L (.int (M.1 0 42) :: r) M) ∧
  (∀ L st M, zz_ev tX12_works 77 L st M = zo_iald zzSR zzSTR 78 (zz_ev tX12_works) L st M) ∧
  (∀ L st M, zz_ev tX12_works 78 L st M = zo_ii (fun x y => x + y) 79 (zz_ev tX12_works) L st M) ∧
  (∀ L st M, zz_ev tX12_works 79 L st M = zo_icmp (fun x y => decide (¬ x = y)) 84 82 (zz_ev tX12_works) L st M) ∧
  (∀ L st M, zz_ev tX12_works 82 L st M = zo_pushI 0 83 (zz_ev tX12_works) L st M) ∧
  (∀ L st M, zz_ev tX12_works 83 L st M = zo_iret false (zz_ev tX12_works) L st M) ∧
  (∀ L st M, zz_ev tX12_works 84 L st M = zo_aload 0 85 (zz_ev tX12_works) L st M) ∧
  (∀ L st M, zz_ev tX12_works 85 L st M = zo_aload 0 86 (zz_ev tX12_works) L st M) ∧
  (∀ (L : zzLc) (r : List Value) (M : zzMd), zz_ev tX12_works 86 L (.ref 0 :: r) M = zz_ev tX12_works 89 L (.ref 32 :: r) M) ∧
  (∀ L st M, zz_ev tX12_works 89 L st M = zo_iload 1 90 (zz_ev tX12_works) L st M) ∧
  (∀ L st M, zz_ev tX12_works 90 L st M = zo_iald zzSR zzSTR 91 (zz_ev tX12_works) L st M) ∧
  (∀ (L : zzLc) (x : Int32) (r : List Value) (M : zzMd), zz_ev tX12_works 91 L (.int x :: .ref 0 :: r) M = zz_ev tX12_works 94 L r (zz_sI M 0 43 x)) ∧
  (∀ L st M, zz_ev tX12_works 94 L st M = zo_pushI 60 96 (zz_ev tX12_works) L st M) ∧
  (∀ L st M, zz_ev tX12_works 96 L st M = zo_aload 0 97 (zz_ev tX12_works) L st M) ∧
  (∀ (L : zzLc) (r : List Value) (M : zzMd), zz_ev tX12_works 97 L (.ref 0 :: r) M = zz_ev tX12_works 100 L (.int (M.1 0 42) :: r) M) ∧
  (∀ L st M, zz_ev tX12_works 100 L st M = zo_ii (fun x y => x * y) 101 (zz_ev tX12_works) L st M) ∧
  (∀ L st M, zz_ev tX12_works 101 L st M = zo_aload 0 102 (zz_ev tX12_works) L st M) ∧
  (∀ (L : zzLc) (r : List Value) (M : zzMd), zz_ev tX12_works 102 L (.ref 0 :: r) M = zz_ev tX12_works 105 L (.int (M.1 0 43) :: r) M) ∧
  (∀ L st M, zz_ev tX12_works 105 L st M = zo_ii (fun x y => x + y) 106 (zz_ev tX12_works) L st M) ∧
  (∀ L st M, zz_ev tX12_works 106 L st M = zo_istore 2 107 (zz_ev tX12_works) L st M) ∧
  (∀ L st M, zz_ev tX12_works 107 L st M = zo_aload 0 108 (zz_ev tX12_works) L st M) ∧
  (∀ L st M, zz_ev tX12_works 108 L st M = zo_iload 1 109 (zz_ev tX12_works) L st M) ∧
  (∀ (L : zzLc) (a0 : Int32) (r : List Value) (M : zzMd), zz_ev tX12_works 109 L (.int a0 :: .ref 0 :: r) M = bif zz_cat8 r then zz_backN (zz_ev tX12_works) 112 L r (fX12_takesOut [.ref 0, .int a0] M) else none) ∧
  (∀ L st M, zz_ev tX12_works 112 L st M = zo_aload 0 113 (zz_ev tX12_works) L st M) ∧
  (∀ (L : zzLc) (r : List Value) (M : zzMd), zz_ev tX12_works 113 L (.ref 0 :: r) M = zz_ev tX12_works 116 L (.ref 35 :: r) M) ∧
  (∀ L st M, zz_ev tX12_works 116 L st M = zo_iload 2 117 (zz_ev tX12_works) L st M) ∧
  (∀ L st M, zz_ev tX12_works 117 L st M = zo_iald zzSR zzSTR 118 (zz_ev tX12_works) L st M) ∧
  (∀ L st M, zz_ev tX12_works 118 L st M = zo_aload 0 119 (zz_ev tX12_works) L st M) ∧
  (∀ (L : zzLc) (r : List Value) (M : zzMd), zz_ev tX12_works 119 L (.ref 0 :: r) M = zz_ev tX12_works 122 L (.ref 26 :: r) M) ∧
  (∀ L st M, zz_ev tX12_works 122 L st M = zo_aload 0 123 (zz_ev tX12_works) L st M) ∧
  (∀ (L : zzLc) (r : List Value) (M : zzMd), zz_ev tX12_works 123 L (.ref 0 :: r) M = zz_ev tX12_works 126 L (.int (M.1 0 42) :: r) M) ∧
  (∀ L st M, zz_ev tX12_works 126 L st M = zo_iald zzSR zzSTR 127 (zz_ev tX12_works) L st M) ∧
  (∀ L st M, zz_ev tX12_works 127 L st M = zo_icmp (fun x y => decide (y < x)) 137 130 (zz_ev tX12_works) L st M) ∧
  (∀ L st M, zz_ev tX12_works 130 L st M = zo_aload 0 131 (zz_ev tX12_works) L st M) ∧
  (∀ (L : zzLc) (r : List Value) (M : zzMd), zz_ev tX12_works 131 L (.ref 0 :: r) M = bif zz_cat8 r then zz_backN (zz_ev tX12_works) 134 L r (fX12_isEarly [.ref 0] M) else none) ∧
  (∀ L st M, zz_ev tX12_works 134 L st M = zo_if (fun x => decide (x = 0)) 188 137 (zz_ev tX12_works) L st M) ∧
  (∀ L st M, zz_ev tX12_works 137 L st M = zo_aload 0 138 (zz_ev tX12_works) L st M) ∧
  (∀ (L : zzLc) (r : List Value) (M : zzMd), zz_ev tX12_works 138 L (.ref 0 :: r) M = zz_ev tX12_works 141 L (.ref 34 :: r) M) ∧
  (∀ L st M, zz_ev tX12_works 141 L st M = zo_iload 2 142 (zz_ev tX12_works) L st M) ∧
  (∀ L st M, zz_ev tX12_works 142 L st M = zo_aload 0 143 (zz_ev tX12_works) L st M) ∧
  (∀ (L : zzLc) (r : List Value) (M : zzMd), zz_ev tX12_works 143 L (.ref 0 :: r) M = zz_ev tX12_works 146 L (.ref 35 :: r) M) ∧
  (∀ L st M, zz_ev tX12_works 146 L st M = zo_iload 2 147 (zz_ev tX12_works) L st M) ∧
  (∀ L st M, zz_ev tX12_works 147 L st M = zo_iald zzSR zzSTR 148 (zz_ev tX12_works) L st M) ∧
  (∀ L st M, zz_ev tX12_works 148 L st M = zo_aload 0 149 (zz_ev tX12_works) L st M) ∧
  (∀ (L : zzLc) (r : List Value) (M : zzMd), zz_ev tX12_works 149 L (.ref 0 :: r) M = zz_ev tX12_works 152 L (.ref 26 :: r) M) ∧
  (∀ L st M, zz_ev tX12_works 152 L st M = zo_aload 0 153 (zz_ev tX12_works) L st M) ∧
  (∀ (L : zzLc) (r : List Value) (M : zzMd), zz_ev tX12_works 153 L (.ref 0 :: r) M = zz_ev tX12_works 156 L (.int (M.1 0 42) :: r) M) ∧
  (∀ L st M, zz_ev tX12_works 156 L st M = zo_iald zzSR zzSTR 157 (zz_ev tX12_works) L st M) ∧
  (∀ L st M, zz_ev tX12_works 157 L st M = zo_icmp (fun x y => decide (x ≤ y)) 169 160 (zz_ev tX12_works) L st M) ∧
  (∀ L st M, zz_ev tX12_works 160 L st M = zo_aload 0 161 (zz_ev tX12_works) L st M) ∧
  (∀ (L : zzLc) (r : List Value) (M : zzMd), zz_ev tX12_works 161 L (.ref 0 :: r) M = zz_ev tX12_works 164 L (.ref 34 :: r) M) ∧
  (∀ L st M, zz_ev tX12_works 164 L st M = zo_iload 2 165 (zz_ev tX12_works) L st M) ∧
  (∀ L st M, zz_ev tX12_works 165 L st M = zo_iald zzSR zzSTR 166 (zz_ev tX12_works) L st M) ∧
  (∀ L st M, zz_ev tX12_works 166 L st M = zo_goto 181 (zz_ev tX12_works) L st M) ∧
  (∀ L st M, zz_ev tX12_works 169 L st M = zo_aload 0 170 (zz_ev tX12_works) L st M) ∧
  (∀ (L : zzLc) (r : List Value) (M : zzMd), zz_ev tX12_works 170 L (.ref 0 :: r) M = zz_ev tX12_works 173 L (.ref 13 :: r) M) ∧
  (∀ L st M, zz_ev tX12_works 173 L st M = zo_aload 0 174 (zz_ev tX12_works) L st M) ∧
  (∀ (L : zzLc) (r : List Value) (M : zzMd), zz_ev tX12_works 174 L (.ref 0 :: r) M = zz_ev tX12_works 177 L (.int (M.1 0 43) :: r) M) ∧
  (∀ L st M, zz_ev tX12_works 177 L st M = zo_iald zzSR zzSTR 178 (zz_ev tX12_works) L st M) ∧
  (∀ L st M, zz_ev tX12_works 178 L st M = zo_pushI 10 180 (zz_ev tX12_works) L st M) ∧
  (∀ L st M, zz_ev tX12_works 180 L st M = zo_ii (fun x y => x + y) 181 (zz_ev tX12_works) L st M) ∧
  (∀ L st M, zz_ev tX12_works 181 L st M = zo_iast zzSR 182 (zz_ev tX12_works) L st M) ∧
  (∀ L st M, zz_ev tX12_works 182 L st M = zo_aload 0 183 (zz_ev tX12_works) L st M) ∧
  (∀ (L : zzLc) (r : List Value) (M : zzMd), zz_ev tX12_works 183 L (.ref 0 :: r) M = bif zz_cat8 r then zz_backN (zz_ev tX12_works) 186 L r (fX12_putsBack [.ref 0] M) else none) ∧
  (∀ L st M, zz_ev tX12_works 186 L st M = zo_pushI 2 187 (zz_ev tX12_works) L st M) ∧
  (∀ L st M, zz_ev tX12_works 187 L st M = zo_iret false (zz_ev tX12_works) L st M) ∧
  (∀ L st M, zz_ev tX12_works 188 L st M = zo_aload 0 189 (zz_ev tX12_works) L st M) ∧
  (∀ (L : zzLc) (r : List Value) (M : zzMd), zz_ev tX12_works 189 L (.ref 0 :: r) M = bif zz_cat8 r then zz_backN (zz_ev tX12_works) 192 L r (fX12_does [.ref 0] M) else none) ∧
  (∀ L st M, zz_ev tX12_works 192 L st M = zo_if (fun x => decide (x = 0)) 204 195 (zz_ev tX12_works) L st M) ∧
  (∀ L st M, zz_ev tX12_works 195 L st M = zo_aload 0 196 (zz_ev tX12_works) L st M) ∧
  (∀ (L : zzLc) (r : List Value) (M : zzMd), zz_ev tX12_works 196 L (.ref 0 :: r) M = zz_ev tX12_works 199 L (.ref 33 :: r) M) ∧
  (∀ L st M, zz_ev tX12_works 199 L st M = zo_iload 2 200 (zz_ev tX12_works) L st M) ∧
  (∀ L st M, zz_ev tX12_works 200 L st M = zo_pushI 0 201 (zz_ev tX12_works) L st M) ∧
  (∀ L st M, zz_ev tX12_works 201 L st M = zo_iast zzSR 202 (zz_ev tX12_works) L st M) ∧
  (∀ L st M, zz_ev tX12_works 202 L st M = zo_pushI 1 203 (zz_ev tX12_works) L st M) ∧
  (∀ L st M, zz_ev tX12_works 203 L st M = zo_iret false (zz_ev tX12_works) L st M) ∧
  (∀ L st M, zz_ev tX12_works 204 L st M = zo_aload 0 205 (zz_ev tX12_works) L st M) ∧
  (∀ (L : zzLc) (r : List Value) (M : zzMd), zz_ev tX12_works 205 L (.ref 0 :: r) M = zz_ev tX12_works 208 L (.ref 34 :: r) M) ∧
  (∀ L st M, zz_ev tX12_works 208 L st M = zo_iload 2 209 (zz_ev tX12_works) L st M) ∧
  (∀ L st M, zz_ev tX12_works 209 L st M = zo_aload 0 210 (zz_ev tX12_works) L st M) ∧
  (∀ (L : zzLc) (r : List Value) (M : zzMd), zz_ev tX12_works 210 L (.ref 0 :: r) M = zz_ev tX12_works 213 L (.int (M.1 0 48) :: r) M) ∧
  (∀ L st M, zz_ev tX12_works 213 L st M = zo_aload 0 214 (zz_ev tX12_works) L st M) ∧
  (∀ (L : zzLc) (r : List Value) (M : zzMd), zz_ev tX12_works 214 L (.ref 0 :: r) M = zz_ev tX12_works 217 L (.ref 33 :: r) M) ∧
  (∀ L st M, zz_ev tX12_works 217 L st M = zo_iload 2 218 (zz_ev tX12_works) L st M) ∧
  (∀ L st M, zz_ev tX12_works 218 L st M = zo_iald zzSR zzSTR 219 (zz_ev tX12_works) L st M) ∧
  (∀ L st M, zz_ev tX12_works 219 L st M = zo_pushI 3 220 (zz_ev tX12_works) L st M) ∧
  (∀ L st M, zz_ev tX12_works 220 L st M = zo_icmp (fun x y => decide (x ≤ y)) 228 223 (zz_ev tX12_works) L st M) ∧
  (∀ L st M, zz_ev tX12_works 223 L st M = zo_pushI 16 225 (zz_ev tX12_works) L st M) ∧
  (∀ L st M, zz_ev tX12_works 225 L st M = zo_goto 236 (zz_ev tX12_works) L st M) ∧
  (∀ L st M, zz_ev tX12_works 228 L st M = zo_pushI 1 229 (zz_ev tX12_works) L st M) ∧
  (∀ L st M, zz_ev tX12_works 229 L st M = zo_aload 0 230 (zz_ev tX12_works) L st M) ∧
  (∀ (L : zzLc) (r : List Value) (M : zzMd), zz_ev tX12_works 230 L (.ref 0 :: r) M = zz_ev tX12_works 233 L (.ref 33 :: r) M) ∧
  (∀ L st M, zz_ev tX12_works 233 L st M = zo_iload 2 234 (zz_ev tX12_works) L st M) ∧
  (∀ L st M, zz_ev tX12_works 234 L st M = zo_iald zzSR zzSTR 235 (zz_ev tX12_works) L st M) ∧
  (∀ L st M, zz_ev tX12_works 235 L st M = zo_ii (fun x y => x <<< (y &&& 31)) 236 (zz_ev tX12_works) L st M) ∧
  (∀ L st M, zz_ev tX12_works 236 L st M = zo_ii (fun x y => x + y) 237 (zz_ev tX12_works) L st M) ∧
  (∀ L st M, zz_ev tX12_works 237 L st M = zo_iast zzSR 238 (zz_ev tX12_works) L st M) ∧
  (∀ L st M, zz_ev tX12_works 238 L st M = zo_aload 0 239 (zz_ev tX12_works) L st M) ∧
  (∀ (L : zzLc) (r : List Value) (M : zzMd), zz_ev tX12_works 239 L (.ref 0 :: r) M = zz_ev tX12_works 242 L (.ref 33 :: r) M) ∧
  (∀ L st M, zz_ev tX12_works 242 L st M = zo_iload 2 243 (zz_ev tX12_works) L st M) ∧
  (∀ L st M, zz_ev tX12_works 243 L st M = zo_dup2 244 (zz_ev tX12_works) L st M) ∧
  (∀ L st M, zz_ev tX12_works 244 L st M = zo_iald zzSR zzSTR 245 (zz_ev tX12_works) L st M) ∧
  (∀ L st M, zz_ev tX12_works 245 L st M = zo_pushI 1 246 (zz_ev tX12_works) L st M) ∧
  (∀ L st M, zz_ev tX12_works 246 L st M = zo_ii (fun x y => x + y) 247 (zz_ev tX12_works) L st M) ∧
  (∀ L st M, zz_ev tX12_works 247 L st M = zo_iast zzSR 248 (zz_ev tX12_works) L st M) ∧
  (∀ L st M, zz_ev tX12_works 248 L st M = zo_aload 0 249 (zz_ev tX12_works) L st M) ∧
  (∀ (L : zzLc) (r : List Value) (M : zzMd), zz_ev tX12_works 249 L (.ref 0 :: r) M = bif zz_cat8 r then zz_backN (zz_ev tX12_works) 252 L r (fX12_putsBack [.ref 0] M) else none) ∧
  (∀ L st M, zz_ev tX12_works 252 L st M = zo_pushI 3 253 (zz_ev tX12_works) L st M) ∧
  (∀ L st M, zz_ev tX12_works 253 L st M = zo_iret false (zz_ev tX12_works) L st M) :=
  ⟨zz_1 rfl tl_X12_works, zz_1 rfl tl_X12_works, fun L r M => (zz_1 rfl tl_X12_works _ _ _).trans rfl, zz_1 rfl tl_X12_works, zz_1 rfl tl_X12_works, zz_1 rfl tl_X12_works, zz_1 rfl tl_X12_works, fun L r M => (zz_1 rfl tl_X12_works _ _ _).trans rfl, zz_1 rfl tl_X12_works, zz_1 rfl tl_X12_works, fun L r M => (zz_1 rfl tl_X12_works _ _ _).trans rfl, zz_1 rfl tl_X12_works, fun L r M => (zz_1 rfl tl_X12_works _ _ _).trans rfl, zz_1 rfl tl_X12_works, zz_1 rfl tl_X12_works, zz_1 rfl tl_X12_works, zz_1 rfl tl_X12_works, fun L r M => (zz_1 rfl tl_X12_works _ _ _).trans rfl, zz_1 rfl tl_X12_works, zz_1 rfl tl_X12_works, fun L r M => (zz_1 rfl tl_X12_works _ _ _).trans rfl, zz_1 rfl tl_X12_works, zz_1 rfl tl_X12_works, fun L r M => (zz_1 rfl tl_X12_works _ _ _).trans rfl, zz_1 rfl tl_X12_works, zz_1 rfl tl_X12_works, zz_1 rfl tl_X12_works, zz_1 rfl tl_X12_works, zz_1 rfl tl_X12_works, fun L r M => (zz_1 rfl tl_X12_works _ _ _).trans rfl, zz_1 rfl tl_X12_works, zz_1 rfl tl_X12_works, zz_1 rfl tl_X12_works, zz_1 rfl tl_X12_works, zz_1 rfl tl_X12_works, zz_1 rfl tl_X12_works, fun L r M => (zz_1 rfl tl_X12_works _ _ _).trans rfl, zz_1 rfl tl_X12_works, zz_1 rfl tl_X12_works, fun L r M => (zz_1 rfl tl_X12_works _ _ _).trans rfl, zz_1 rfl tl_X12_works, fun L r M => (zz_1 rfl tl_X12_works _ _ _).trans rfl, zz_1 rfl tl_X12_works, zz_1 rfl tl_X12_works, zz_1 rfl tl_X12_works, zz_1 rfl tl_X12_works, zz_1 rfl tl_X12_works, zz_1 rfl tl_X12_works, zz_1 rfl tl_X12_works, fun L r M => (zz_1 rfl tl_X12_works _ _ _).trans rfl, zz_1 rfl tl_X12_works, zz_1 rfl tl_X12_works, fun L x r M => (zz_1 rfl tl_X12_works _ _ _).trans rfl, zz_1 rfl tl_X12_works, zz_1 rfl tl_X12_works, fun L r M => (zz_1 rfl tl_X12_works _ _ _).trans rfl, zz_1 rfl tl_X12_works, zz_1 rfl tl_X12_works, fun L r M => (zz_1 rfl tl_X12_works _ _ _).trans rfl, zz_1 rfl tl_X12_works, zz_1 rfl tl_X12_works, zz_1 rfl tl_X12_works, zz_1 rfl tl_X12_works, fun L a0 r M => (zz_1 rfl tl_X12_works _ _ _).trans rfl, zz_1 rfl tl_X12_works, fun L r M => (zz_1 rfl tl_X12_works _ _ _).trans rfl, zz_1 rfl tl_X12_works, zz_1 rfl tl_X12_works, zz_1 rfl tl_X12_works, fun L r M => (zz_1 rfl tl_X12_works _ _ _).trans rfl, zz_1 rfl tl_X12_works, fun L r M => (zz_1 rfl tl_X12_works _ _ _).trans rfl, zz_1 rfl tl_X12_works, zz_1 rfl tl_X12_works, zz_1 rfl tl_X12_works, fun L  r M => (zz_1 rfl tl_X12_works _ _ _).trans rfl, zz_1 rfl tl_X12_works, zz_1 rfl tl_X12_works, fun L r M => (zz_1 rfl tl_X12_works _ _ _).trans rfl, zz_1 rfl tl_X12_works, zz_1 rfl tl_X12_works, fun L r M => (zz_1 rfl tl_X12_works _ _ _).trans rfl, zz_1 rfl tl_X12_works, zz_1 rfl tl_X12_works, zz_1 rfl tl_X12_works, fun L r M => (zz_1 rfl tl_X12_works _ _ _).trans rfl, zz_1 rfl tl_X12_works, fun L r M => (zz_1 rfl tl_X12_works _ _ _).trans rfl, zz_1 rfl tl_X12_works, zz_1 rfl tl_X12_works, zz_1 rfl tl_X12_works, fun L r M => (zz_1 rfl tl_X12_works _ _ _).trans rfl, zz_1 rfl tl_X12_works, zz_1 rfl tl_X12_works, zz_1 rfl tl_X12_works, zz_1 rfl tl_X12_works, fun L r M => (zz_1 rfl tl_X12_works _ _ _).trans rfl, zz_1 rfl tl_X12_works, fun L r M => (zz_1 rfl tl_X12_works _ _ _).trans rfl, zz_1 rfl tl_X12_works, zz_1 rfl tl_X12_works, zz_1 rfl tl_X12_works, zz_1 rfl tl_X12_works, zz_1 rfl tl_X12_works, fun L  r M => (zz_1 rfl tl_X12_works _ _ _).trans rfl, zz_1 rfl tl_X12_works, zz_1 rfl tl_X12_works, zz_1 rfl tl_X12_works, fun L  r M => (zz_1 rfl tl_X12_works _ _ _).trans rfl, zz_1 rfl tl_X12_works, zz_1 rfl tl_X12_works, fun L r M => (zz_1 rfl tl_X12_works _ _ _).trans rfl, zz_1 rfl tl_X12_works, zz_1 rfl tl_X12_works, zz_1 rfl tl_X12_works, zz_1 rfl tl_X12_works, zz_1 rfl tl_X12_works, zz_1 rfl tl_X12_works, fun L r M => (zz_1 rfl tl_X12_works _ _ _).trans rfl, zz_1 rfl tl_X12_works, zz_1 rfl tl_X12_works, fun L r M => (zz_1 rfl tl_X12_works _ _ _).trans rfl, zz_1 rfl tl_X12_works, fun L r M => (zz_1 rfl tl_X12_works _ _ _).trans rfl, zz_1 rfl tl_X12_works, zz_1 rfl tl_X12_works, zz_1 rfl tl_X12_works, zz_1 rfl tl_X12_works, zz_1 rfl tl_X12_works, zz_1 rfl tl_X12_works, zz_1 rfl tl_X12_works, zz_1 rfl tl_X12_works, fun L r M => (zz_1 rfl tl_X12_works _ _ _).trans rfl, zz_1 rfl tl_X12_works, zz_1 rfl tl_X12_works, zz_1 rfl tl_X12_works, zz_1 rfl tl_X12_works, zz_1 rfl tl_X12_works, zz_1 rfl tl_X12_works, fun L r M => (zz_1 rfl tl_X12_works _ _ _).trans rfl, zz_1 rfl tl_X12_works, zz_1 rfl tl_X12_works, zz_1 rfl tl_X12_works, zz_1 rfl tl_X12_works, zz_1 rfl tl_X12_works, zz_1 rfl tl_X12_works, zz_1 rfl tl_X12_works, fun L  r M => (zz_1 rfl tl_X12_works _ _ _).trans rfl, zz_1 rfl tl_X12_works, zz_1 rfl tl_X12_works⟩
set_option maxRecDepth 100000 in
theorem e_X12_works_8 : (∀ L st M, zz_ev tX12_works 8 L st M = zo_iload 1 9 (zz_ev tX12_works) L st M) := zz_1 rfl tl_X12_works
set_option maxRecDepth 100000 in
theorem s_X12_works (v : Nat) (M : zzMd) : fX12_works [.ref v] M = zz_ev tX12_works 0 [some (.ref v), none, none] [] M := rfl
set_option maxRecDepth 100000 in
theorem e_X12_isManager : (∀ L st M, zz_ev tX12_isManager 0 L st M = zo_iload 0 1 (zz_ev tX12_isManager) L st M) ∧
  (∀ L st M, zz_ev tX12_isManager 1 L st M = zo_pushI 0 2 (zz_ev tX12_isManager) L st M) ∧
  (∀ L st M, zz_ev tX12_isManager 2 L st M = zo_pushI 3 3 (zz_ev tX12_isManager) L st M) ∧
  (∀ (L : zzLc) (a0 a1 a2 : Int32) (r : List Value) (M : zzMd), zz_ev tX12_isManager 3 L (.int a2 :: .int a1 :: .int a0 :: r) M = bif zz_cat8 r then zz_backN (zz_ev tX12_isManager) 6 L r (fX12_isIn [.int a0, .int a1, .int a2] M) else none) ∧
  (∀ L st M, zz_ev tX12_isManager 6 L st M = zo_iret true (zz_ev tX12_isManager) L st M) :=
  ⟨zz_1 rfl tl_X12_isManager, zz_1 rfl tl_X12_isManager, zz_1 rfl tl_X12_isManager, fun L a0 a1 a2 r M => (zz_1 rfl tl_X12_isManager _ _ _).trans rfl, zz_1 rfl tl_X12_isManager⟩
set_option maxRecDepth 100000 in
theorem s_X12_isManager (a0 : Int32) (M : zzMd) : fX12_isManager [.int a0] M = zz_ev tX12_isManager 0 [some (.int a0)] [] M := rfl
set_option maxRecDepth 100000 in
theorem e_X12_make : (∀ L st M, zz_ev tX12_make 0 L st M = zo_aload 0 1 (zz_ev tX12_make) L st M) ∧
  (∀ L st M, zz_ev tX12_make 1 L st M = zo_iload 1 2 (zz_ev tX12_make) L st M) ∧
  (∀ (L : zzLc) (a0 : Int32) (r : List Value) (M : zzMd), zz_ev tX12_make 2 L (.int a0 :: r) M = bif zz_cat8 r then zz_backN (zz_ev tX12_make) 5 L r (fX12_isManager [.int a0] M) else none) ∧
  (∀ L st M, zz_ev tX12_make 5 L st M = zo_if (fun x => decide (x = 0)) 19 8 (zz_ev tX12_make) L st M) ∧
  (∀ L st M, zz_ev tX12_make 8 L st M = zo_iload 2 9 (zz_ev tX12_make) L st M) ∧
  (∀ (L : zzLc) (a0 : Int32) (r : List Value) (M : zzMd), zz_ev tX12_make 9 L (.int a0 :: r) M = bif zz_cat8 r then zz_backN (zz_ev tX12_make) 12 L r (fX12_isKind [.int a0] M) else none) ∧
  (∀ L st M, zz_ev tX12_make 12 L st M = zo_if (fun x => decide (x = 0)) 19 15 (zz_ev tX12_make) L st M) ∧
  (∀ L st M, zz_ev tX12_make 15 L st M = zo_pushI 0 16 (zz_ev tX12_make) L st M) ∧
  (∀ L st M, zz_ev tX12_make 16 L st M = zo_goto 20 (zz_ev tX12_make) L st M) ∧
  (∀ L st M, zz_ev tX12_make 19 L st M = zo_pushI 1 20 (zz_ev tX12_make) L st M) ∧
  (∀ (L : zzLc) (a0 : Int32) (r : List Value) (M : zzMd), zz_ev tX12_make 20 L (.int a0 :: .ref 0 :: r) M = bif zz_cat8 r then zz_backN (zz_ev tX12_make) 23 L r (fX12_goes [.ref 0, .int a0] M) else none) ∧
  (∀ L st M, zz_ev tX12_make 23 L st M = zo_if (fun x => decide (¬ x = 0)) 28 26 (zz_ev tX12_make) L st M) ∧
  (∀ L st M, zz_ev tX12_make 26 L st M = zo_pushI 0 27 (zz_ev tX12_make) L st M) ∧
  (∀ L st M, zz_ev tX12_make 27 L st M = zo_iret false (zz_ev tX12_make) L st M) ∧
  (∀ L st M, zz_ev tX12_make 28 L st M = zo_aload 0 29 (zz_ev tX12_make) L st M) ∧
  (∀ L st M, zz_ev tX12_make 29 L st M = zo_iload 1 30 (zz_ev tX12_make) L st M) ∧
  (∀ L st M, zz_ev tX12_make 30 L st M = zo_iload 2 31 (zz_ev tX12_make) L st M) ∧
  (∀ L st M, zz_ev tX12_make 31 L st M = zo_pushI (-1) 32 (zz_ev tX12_make) L st M) ∧
  (∀ L st M, zz_ev tX12_make 32 L st M = zo_pushI 0 33 (zz_ev tX12_make) L st M) ∧
  (∀ (L : zzLc) (a0 a1 a2 a3 : Int32) (r : List Value) (M : zzMd), zz_ev tX12_make 33 L (.int a3 :: .int a2 :: .int a1 :: .int a0 :: .ref 0 :: r) M = bif zz_cat8 r then zz_backN (zz_ev tX12_make) 36 L r (fX12_makes [.ref 0, .int a0, .int a1, .int a2, .int a3] M) else none) ∧
  (∀ L st M, zz_ev tX12_make 36 L st M = zo_istore 3 37 (zz_ev tX12_make) L st M) ∧
  (∀ L st M, zz_ev tX12_make 37 L st M = zo_aload 0 38 (zz_ev tX12_make) L st M) ∧
  (∀ L st M, zz_ev tX12_make 38 L st M = zo_iload 3 39 (zz_ev tX12_make) L st M) ∧
  (∀ L st M, zz_ev tX12_make 39 L st M = zo_pushI (-1) 40 (zz_ev tX12_make) L st M) ∧
  (∀ L st M, zz_ev tX12_make 40 L st M = zo_icmp (fun x y => decide (¬ x = y)) 47 43 (zz_ev tX12_make) L st M) ∧
  (∀ L st M, zz_ev tX12_make 43 L st M = zo_pushI 2 44 (zz_ev tX12_make) L st M) ∧
  (∀ L st M, zz_ev tX12_make 44 L st M = zo_goto 48 (zz_ev tX12_make) L st M) ∧
  (∀ L st M, zz_ev tX12_make 47 L st M = zo_pushI 0 48 (zz_ev tX12_make) L st M) ∧
  (∀ (L : zzLc) (a0 : Int32) (r : List Value) (M : zzMd), zz_ev tX12_make 48 L (.int a0 :: .ref 0 :: r) M = bif zz_cat8 r then zz_backN (zz_ev tX12_make) 51 L r (fX12_goes [.ref 0, .int a0] M) else none) ∧
  (∀ L st M, zz_ev tX12_make 51 L st M = zo_if (fun x => decide (x = 0)) 58 54 (zz_ev tX12_make) L st M) ∧
  (∀ L st M, zz_ev tX12_make 54 L st M = zo_iload 3 55 (zz_ev tX12_make) L st M) ∧
  (∀ L st M, zz_ev tX12_make 55 L st M = zo_goto 59 (zz_ev tX12_make) L st M) ∧
  (∀ L st M, zz_ev tX12_make 58 L st M = zo_pushI 0 59 (zz_ev tX12_make) L st M) ∧
  (∀ L st M, zz_ev tX12_make 59 L st M = zo_iret false (zz_ev tX12_make) L st M) :=
  ⟨zz_1 rfl tl_X12_make, zz_1 rfl tl_X12_make, fun L a0 r M => (zz_1 rfl tl_X12_make _ _ _).trans rfl, zz_1 rfl tl_X12_make, zz_1 rfl tl_X12_make, fun L a0 r M => (zz_1 rfl tl_X12_make _ _ _).trans rfl, zz_1 rfl tl_X12_make, zz_1 rfl tl_X12_make, zz_1 rfl tl_X12_make, zz_1 rfl tl_X12_make, fun L a0 r M => (zz_1 rfl tl_X12_make _ _ _).trans rfl, zz_1 rfl tl_X12_make, zz_1 rfl tl_X12_make, zz_1 rfl tl_X12_make, zz_1 rfl tl_X12_make, zz_1 rfl tl_X12_make, zz_1 rfl tl_X12_make, zz_1 rfl tl_X12_make, zz_1 rfl tl_X12_make, fun L a0 a1 a2 a3 r M => (zz_1 rfl tl_X12_make _ _ _).trans rfl, zz_1 rfl tl_X12_make, zz_1 rfl tl_X12_make, zz_1 rfl tl_X12_make, zz_1 rfl tl_X12_make, zz_1 rfl tl_X12_make, zz_1 rfl tl_X12_make, zz_1 rfl tl_X12_make, zz_1 rfl tl_X12_make, fun L a0 r M => (zz_1 rfl tl_X12_make _ _ _).trans rfl, zz_1 rfl tl_X12_make, zz_1 rfl tl_X12_make, zz_1 rfl tl_X12_make, zz_1 rfl tl_X12_make, zz_1 rfl tl_X12_make⟩
set_option maxRecDepth 100000 in
theorem s_X12_make (a0 a1 : Int32) (v : Nat) (M : zzMd) : fX12_make [.ref v, .int a0, .int a1] M = zz_ev tX12_make 0 [some (.ref v), some (.int a0), some (.int a1), none] [] M := rfl
set_option maxRecDepth 100000 in
theorem e_X12_isGone : (∀ L st M, zz_ev tX12_isGone 0 L st M = zo_aload 0 1 (zz_ev tX12_isGone) L st M) ∧
  (∀ L st M, zz_ev tX12_isGone 1 L st M = zo_aload 0 2 (zz_ev tX12_isGone) L st M) ∧
  (∀ (L : zzLc) (r : List Value) (M : zzMd), zz_ev tX12_isGone 2 L (.ref 0 :: r) M = zz_ev tX12_isGone 5 L (.ref 7 :: r) M) ∧
  (∀ L st M, zz_ev tX12_isGone 5 L st M = zo_iload 1 6 (zz_ev tX12_isGone) L st M) ∧
  (∀ L st M, zz_ev tX12_isGone 6 L st M = zo_lald zzSR 7 (zz_ev tX12_isGone) L st M) ∧
  (∀ L st M, zz_ev tX12_isGone 7 L st M = zo_pushI 13 9 (zz_ev tX12_isGone) L st M) ∧
  (∀ (L : zzLc) (a1 : Int32) (a0 : Int64) (r : List Value) (M : zzMd), zz_ev tX12_isGone 9 L (.int a1 :: .long a0 :: .ref 0 :: r) M = bif zz_cat8 r then zz_backN (zz_ev tX12_isGone) 12 L r (fX12_get [.ref 0, .long a0, .int a1] M) else none) ∧
  (∀ L st M, zz_ev tX12_isGone 12 L st M = zo_pushI 4 13 (zz_ev tX12_isGone) L st M) ∧
  (∀ L st M, zz_ev tX12_isGone 13 L st M = zo_icmp (fun x y => decide (¬ x = y)) 20 16 (zz_ev tX12_isGone) L st M) ∧
  (∀ L st M, zz_ev tX12_isGone 16 L st M = zo_pushI 1 17 (zz_ev tX12_isGone) L st M) ∧
  (∀ L st M, zz_ev tX12_isGone 17 L st M = zo_goto 21 (zz_ev tX12_isGone) L st M) ∧
  (∀ L st M, zz_ev tX12_isGone 20 L st M = zo_pushI 0 21 (zz_ev tX12_isGone) L st M) ∧
  (∀ L st M, zz_ev tX12_isGone 21 L st M = zo_iret true (zz_ev tX12_isGone) L st M) :=
  ⟨zz_1 rfl tl_X12_isGone, zz_1 rfl tl_X12_isGone, fun L r M => (zz_1 rfl tl_X12_isGone _ _ _).trans rfl, zz_1 rfl tl_X12_isGone, zz_1 rfl tl_X12_isGone, zz_1 rfl tl_X12_isGone, fun L a1 a0 r M => (zz_1 rfl tl_X12_isGone _ _ _).trans rfl, zz_1 rfl tl_X12_isGone, zz_1 rfl tl_X12_isGone, zz_1 rfl tl_X12_isGone, zz_1 rfl tl_X12_isGone, zz_1 rfl tl_X12_isGone, zz_1 rfl tl_X12_isGone⟩
set_option maxRecDepth 100000 in
theorem s_X12_isGone (a0 : Int32) (v : Nat) (M : zzMd) : fX12_isGone [.ref v, .int a0] M = zz_ev tX12_isGone 0 [some (.ref v), some (.int a0)] [] M := rfl
set_option maxRecDepth 100000 in
theorem e_X12_apply : (∀ L st M, zz_ev tX12_apply 0 L st M = zo_aload 0 1 (zz_ev tX12_apply) L st M) ∧
  (∀ L st M, zz_ev tX12_apply 1 L st M = zo_aload 0 2 (zz_ev tX12_apply) L st M) ∧
  (∀ L st M, zz_ev tX12_apply 2 L st M = zo_iload 2 3 (zz_ev tX12_apply) L st M) ∧
  (∀ (L : zzLc) (a0 : Int32) (r : List Value) (M : zzMd), zz_ev tX12_apply 3 L (.int a0 :: .ref 0 :: r) M = bif zz_cat8 r then zz_backN (zz_ev tX12_apply) 6 L r (fX12_isObject [.ref 0, .int a0] M) else none) ∧
  (∀ L st M, zz_ev tX12_apply 6 L st M = zo_if (fun x => decide (x = 0)) 13 9 (zz_ev tX12_apply) L st M) ∧
  (∀ L st M, zz_ev tX12_apply 9 L st M = zo_pushI 0 10 (zz_ev tX12_apply) L st M) ∧
  (∀ L st M, zz_ev tX12_apply 10 L st M = zo_goto 14 (zz_ev tX12_apply) L st M) ∧
  (∀ L st M, zz_ev tX12_apply 13 L st M = zo_pushI 1 14 (zz_ev tX12_apply) L st M) ∧
  (∀ (L : zzLc) (a0 : Int32) (r : List Value) (M : zzMd), zz_ev tX12_apply 14 L (.int a0 :: .ref 0 :: r) M = bif zz_cat8 r then zz_backN (zz_ev tX12_apply) 17 L r (fX12_goes [.ref 0, .int a0] M) else none) ∧
  (∀ L st M, zz_ev tX12_apply 17 L st M = zo_if (fun x => decide (x = 0)) 63 20 (zz_ev tX12_apply) L st M) ∧
  (∀ L st M, zz_ev tX12_apply 20 L st M = zo_aload 0 21 (zz_ev tX12_apply) L st M) ∧
  (∀ L st M, zz_ev tX12_apply 21 L st M = zo_iload 1 22 (zz_ev tX12_apply) L st M) ∧
  (∀ (L : zzLc) (a0 : Int32) (r : List Value) (M : zzMd), zz_ev tX12_apply 22 L (.int a0 :: r) M = bif zz_cat8 r then zz_backN (zz_ev tX12_apply) 25 L r (fX12_isManager [.int a0] M) else none) ∧
  (∀ L st M, zz_ev tX12_apply 25 L st M = zo_if (fun x => decide (x = 0)) 56 28 (zz_ev tX12_apply) L st M) ∧
  (∀ L st M, zz_ev tX12_apply 28 L st M = zo_aload 0 29 (zz_ev tX12_apply) L st M) ∧
  (∀ L st M, zz_ev tX12_apply 29 L st M = zo_aload 0 30 (zz_ev tX12_apply) L st M) ∧
  (∀ (L : zzLc) (r : List Value) (M : zzMd), zz_ev tX12_apply 30 L (.ref 0 :: r) M = zz_ev tX12_apply 33 L (.ref 6 :: r) M) ∧
  (∀ L st M, zz_ev tX12_apply 33 L st M = zo_iload 2 34 (zz_ev tX12_apply) L st M) ∧
  (∀ L st M, zz_ev tX12_apply 34 L st M = zo_iald zzSR zzSTR 35 (zz_ev tX12_apply) L st M) ∧
  (∀ L st M, zz_ev tX12_apply 35 L st M = zo_iload 3 36 (zz_ev tX12_apply) L st M) ∧
  (∀ (L : zzLc) (a0 a1 : Int32) (r : List Value) (M : zzMd), zz_ev tX12_apply 36 L (.int a1 :: .int a0 :: .ref 0 :: r) M = bif zz_cat8 r then zz_backN (zz_ev tX12_apply) 39 L r (fX12_hasField [.ref 0, .int a0, .int a1] M) else none) ∧
  (∀ L st M, zz_ev tX12_apply 39 L st M = zo_if (fun x => decide (x = 0)) 56 42 (zz_ev tX12_apply) L st M) ∧
  (∀ L st M, zz_ev tX12_apply 42 L st M = zo_aload 0 43 (zz_ev tX12_apply) L st M) ∧
  (∀ L st M, zz_ev tX12_apply 43 L st M = zo_iload 3 44 (zz_ev tX12_apply) L st M) ∧
  (∀ L st M, zz_ev tX12_apply 44 L st M = zo_iload 4 46 (zz_ev tX12_apply) L st M) ∧
  (∀ (L : zzLc) (a0 a1 : Int32) (r : List Value) (M : zzMd), zz_ev tX12_apply 46 L (.int a1 :: .int a0 :: .ref 0 :: r) M = bif zz_cat8 r then zz_backN (zz_ev tX12_apply) 49 L r (fX12_isValue [.ref 0, .int a0, .int a1] M) else none) ∧
  (∀ L st M, zz_ev tX12_apply 49 L st M = zo_if (fun x => decide (x = 0)) 56 52 (zz_ev tX12_apply) L st M) ∧
  (∀ L st M, zz_ev tX12_apply 52 L st M = zo_pushI 0 53 (zz_ev tX12_apply) L st M) ∧
  (∀ L st M, zz_ev tX12_apply 53 L st M = zo_goto 57 (zz_ev tX12_apply) L st M) ∧
  (∀ L st M, zz_ev tX12_apply 56 L st M = zo_pushI 2 57 (zz_ev tX12_apply) L st M) ∧
  (∀ (L : zzLc) (a0 : Int32) (r : List Value) (M : zzMd), zz_ev tX12_apply 57 L (.int a0 :: .ref 0 :: r) M = bif zz_cat8 r then zz_backN (zz_ev tX12_apply) 60 L r (fX12_goes [.ref 0, .int a0] M) else none) ∧
  (∀ L st M, zz_ev tX12_apply 60 L st M = zo_if (fun x => decide (¬ x = 0)) 65 63 (zz_ev tX12_apply) L st M) ∧
  (∀ L st M, zz_ev tX12_apply 63 L st M = zo_pushI 0 64 (zz_ev tX12_apply) L st M) ∧
  (∀ L st M, zz_ev tX12_apply 64 L st M = zo_iret false (zz_ev tX12_apply) L st M) ∧
  (∀ L st M, zz_ev tX12_apply 65 L st M = zo_aload 0 66 (zz_ev tX12_apply) L st M) ∧
  (∀ L st M, zz_ev tX12_apply 66 L st M = zo_iload 2 67 (zz_ev tX12_apply) L st M) ∧
  (∀ (L : zzLc) (a0 : Int32) (r : List Value) (M : zzMd), zz_ev tX12_apply 67 L (.int a0 :: .ref 0 :: r) M = bif zz_cat8 r then zz_backN (zz_ev tX12_apply) 70 L r (fX12_isGone [.ref 0, .int a0] M) else none) ∧
  (∀ L st M, zz_ev tX12_apply 70 L st M = zo_if (fun x => decide (¬ x = 0)) 110 73 (zz_ev tX12_apply) L st M) ∧
  (∀ L st M, zz_ev tX12_apply 73 L st M = zo_iload 5 75 (zz_ev tX12_apply) L st M) ∧
  (∀ L st M, zz_ev tX12_apply 75 L st M = zo_pushI (-1) 76 (zz_ev tX12_apply) L st M) ∧
  (∀ L st M, zz_ev tX12_apply 76 L st M = zo_icmp (fun x y => decide (x = y)) 90 79 (zz_ev tX12_apply) L st M) ∧
  (∀ L st M, zz_ev tX12_apply 79 L st M = zo_iload 5 81 (zz_ev tX12_apply) L st M) ∧
  (∀ L st M, zz_ev tX12_apply 81 L st M = zo_aload 0 82 (zz_ev tX12_apply) L st M) ∧
  (∀ (L : zzLc) (r : List Value) (M : zzMd), zz_ev tX12_apply 82 L (.ref 0 :: r) M = zz_ev tX12_apply 85 L (.ref 9 :: r) M) ∧
  (∀ L st M, zz_ev tX12_apply 85 L st M = zo_iload 2 86 (zz_ev tX12_apply) L st M) ∧
  (∀ L st M, zz_ev tX12_apply 86 L st M = zo_iald zzSR zzSTR 87 (zz_ev tX12_apply) L st M) ∧
  (∀ L st M, zz_ev tX12_apply 87 L st M = zo_icmp (fun x y => decide (¬ x = y)) 110 90 (zz_ev tX12_apply) L st M) ∧
  (∀ L st M, zz_ev tX12_apply 90 L st M = zo_iload 6 92 (zz_ev tX12_apply) L st M) ∧
  (∀ L st M, zz_ev tX12_apply 92 L st M = zo_if (fun x => decide (¬ x = 0)) 114 95 (zz_ev tX12_apply) L st M) ∧
  (∀ L st M, zz_ev tX12_apply 95 L st M = zo_aload 0 96 (zz_ev tX12_apply) L st M) ∧
  (∀ (L : zzLc) (r : List Value) (M : zzMd), zz_ev tX12_apply 96 L (.ref 0 :: r) M = zz_ev tX12_apply 99 L (.ref 10 :: r) M) ∧
  (∀ L st M, zz_ev tX12_apply 99 L st M = zo_pushI 11 101 (zz_ev tX12_apply) L st M) ∧
  (∀ L st M, zz_ev tX12_apply 101 L st M = zo_iload 2 102 (zz_ev tX12_apply) L st M) ∧
  (∀ L st M, zz_ev tX12_apply 102 L st M = zo_ii (fun x y => x * y) 103 (zz_ev tX12_apply) L st M) ∧
  (∀ L st M, zz_ev tX12_apply 103 L st M = zo_iload 3 104 (zz_ev tX12_apply) L st M) ∧
  (∀ L st M, zz_ev tX12_apply 104 L st M = zo_ii (fun x y => x + y) 105 (zz_ev tX12_apply) L st M) ∧
  (∀ L st M, zz_ev tX12_apply 105 L st M = zo_iald zzSR zzSTR 106 (zz_ev tX12_apply) L st M) ∧
  (∀ L st M, zz_ev tX12_apply 106 L st M = zo_iload 1 107 (zz_ev tX12_apply) L st M) ∧
  (∀ L st M, zz_ev tX12_apply 107 L st M = zo_icmp (fun x y => decide (x = y)) 114 110 (zz_ev tX12_apply) L st M) ∧
  (∀ L st M, zz_ev tX12_apply 110 L st M = zo_pushI 1 111 (zz_ev tX12_apply) L st M) ∧
  (∀ L st M, zz_ev tX12_apply 111 L st M = zo_goto 115 (zz_ev tX12_apply) L st M) ∧
  (∀ L st M, zz_ev tX12_apply 114 L st M = zo_pushI 0 115 (zz_ev tX12_apply) L st M) ∧
  (∀ L st M, zz_ev tX12_apply 115 L st M = zo_istore 7 117 (zz_ev tX12_apply) L st M) ∧
  (∀ L st M, zz_ev tX12_apply 117 L st M = zo_aload 0 118 (zz_ev tX12_apply) L st M) ∧
  (∀ L st M, zz_ev tX12_apply 118 L st M = zo_iload 7 120 (zz_ev tX12_apply) L st M) ∧
  (∀ L st M, zz_ev tX12_apply 120 L st M = zo_if (fun x => decide (¬ x = 0)) 135 123 (zz_ev tX12_apply) L st M) ∧
  (∀ L st M, zz_ev tX12_apply 123 L st M = zo_aload 0 124 (zz_ev tX12_apply) L st M) ∧
  (∀ L st M, zz_ev tX12_apply 124 L st M = zo_iload 1 125 (zz_ev tX12_apply) L st M) ∧
  (∀ L st M, zz_ev tX12_apply 125 L st M = zo_iload 2 126 (zz_ev tX12_apply) L st M) ∧
  (∀ L st M, zz_ev tX12_apply 126 L st M = zo_iload 3 127 (zz_ev tX12_apply) L st M) ∧
  (∀ L st M, zz_ev tX12_apply 127 L st M = zo_iload 4 129 (zz_ev tX12_apply) L st M) ∧
  (∀ (L : zzLc) (a0 a1 a2 a3 : Int32) (r : List Value) (M : zzMd), zz_ev tX12_apply 129 L (.int a3 :: .int a2 :: .int a1 :: .int a0 :: .ref 0 :: r) M = bif zz_cat8 r then zz_backN (zz_ev tX12_apply) 132 L r (fX12_applies [.ref 0, .int a0, .int a1, .int a2, .int a3] M) else none) ∧
  (∀ L st M, zz_ev tX12_apply 132 L st M = zo_if (fun x => decide (¬ x = 0)) 139 135 (zz_ev tX12_apply) L st M) ∧
  (∀ L st M, zz_ev tX12_apply 135 L st M = zo_pushI 3 136 (zz_ev tX12_apply) L st M) ∧
  (∀ L st M, zz_ev tX12_apply 136 L st M = zo_goto 140 (zz_ev tX12_apply) L st M) ∧
  (∀ L st M, zz_ev tX12_apply 139 L st M = zo_pushI 0 140 (zz_ev tX12_apply) L st M) ∧
  (∀ (L : zzLc) (a0 : Int32) (r : List Value) (M : zzMd), zz_ev tX12_apply 140 L (.int a0 :: .ref 0 :: r) M = bif zz_cat8 r then zz_backN (zz_ev tX12_apply) 143 L r (fX12_goes [.ref 0, .int a0] M) else none) ∧
  (∀ L st M, zz_ev tX12_apply 143 L st M = zo_if (fun x => decide (x = 0)) 155 146 (zz_ev tX12_apply) L st M) ∧
  (∀ L st M, zz_ev tX12_apply 146 L st M = zo_aload 0 147 (zz_ev tX12_apply) L st M) ∧
  (∀ (L : zzLc) (r : List Value) (M : zzMd), zz_ev tX12_apply 147 L (.ref 0 :: r) M = zz_ev tX12_apply 150 L (.ref 9 :: r) M) ∧
  (∀ L st M, zz_ev tX12_apply 150 L st M = zo_iload 2 151 (zz_ev tX12_apply) L st M) ∧
  (∀ L st M, zz_ev tX12_apply 151 L st M = zo_iald zzSR zzSTR 152 (zz_ev tX12_apply) L st M) ∧
  (∀ L st M, zz_ev tX12_apply 152 L st M = zo_goto 156 (zz_ev tX12_apply) L st M) ∧
  (∀ L st M, zz_ev tX12_apply 155 L st M = zo_pushI 0 156 (zz_ev tX12_apply) L st M) ∧
  (∀ L st M, zz_ev tX12_apply 156 L st M = zo_iret false (zz_ev tX12_apply) L st M) :=
  ⟨zz_1 rfl tl_X12_apply, zz_1 rfl tl_X12_apply, zz_1 rfl tl_X12_apply, fun L a0 r M => (zz_1 rfl tl_X12_apply _ _ _).trans rfl, zz_1 rfl tl_X12_apply, zz_1 rfl tl_X12_apply, zz_1 rfl tl_X12_apply, zz_1 rfl tl_X12_apply, fun L a0 r M => (zz_1 rfl tl_X12_apply _ _ _).trans rfl, zz_1 rfl tl_X12_apply, zz_1 rfl tl_X12_apply, zz_1 rfl tl_X12_apply, fun L a0 r M => (zz_1 rfl tl_X12_apply _ _ _).trans rfl, zz_1 rfl tl_X12_apply, zz_1 rfl tl_X12_apply, zz_1 rfl tl_X12_apply, fun L r M => (zz_1 rfl tl_X12_apply _ _ _).trans rfl, zz_1 rfl tl_X12_apply, zz_1 rfl tl_X12_apply, zz_1 rfl tl_X12_apply, fun L a0 a1 r M => (zz_1 rfl tl_X12_apply _ _ _).trans rfl, zz_1 rfl tl_X12_apply, zz_1 rfl tl_X12_apply, zz_1 rfl tl_X12_apply, zz_1 rfl tl_X12_apply, fun L a0 a1 r M => (zz_1 rfl tl_X12_apply _ _ _).trans rfl, zz_1 rfl tl_X12_apply, zz_1 rfl tl_X12_apply, zz_1 rfl tl_X12_apply, zz_1 rfl tl_X12_apply, fun L a0 r M => (zz_1 rfl tl_X12_apply _ _ _).trans rfl, zz_1 rfl tl_X12_apply, zz_1 rfl tl_X12_apply, zz_1 rfl tl_X12_apply, zz_1 rfl tl_X12_apply, zz_1 rfl tl_X12_apply, fun L a0 r M => (zz_1 rfl tl_X12_apply _ _ _).trans rfl, zz_1 rfl tl_X12_apply, zz_1 rfl tl_X12_apply, zz_1 rfl tl_X12_apply, zz_1 rfl tl_X12_apply, zz_1 rfl tl_X12_apply, zz_1 rfl tl_X12_apply, fun L r M => (zz_1 rfl tl_X12_apply _ _ _).trans rfl, zz_1 rfl tl_X12_apply, zz_1 rfl tl_X12_apply, zz_1 rfl tl_X12_apply, zz_1 rfl tl_X12_apply, zz_1 rfl tl_X12_apply, zz_1 rfl tl_X12_apply, fun L r M => (zz_1 rfl tl_X12_apply _ _ _).trans rfl, zz_1 rfl tl_X12_apply, zz_1 rfl tl_X12_apply, zz_1 rfl tl_X12_apply, zz_1 rfl tl_X12_apply, zz_1 rfl tl_X12_apply, zz_1 rfl tl_X12_apply, zz_1 rfl tl_X12_apply, zz_1 rfl tl_X12_apply, zz_1 rfl tl_X12_apply, zz_1 rfl tl_X12_apply, zz_1 rfl tl_X12_apply, zz_1 rfl tl_X12_apply, zz_1 rfl tl_X12_apply, zz_1 rfl tl_X12_apply, zz_1 rfl tl_X12_apply, zz_1 rfl tl_X12_apply, zz_1 rfl tl_X12_apply, zz_1 rfl tl_X12_apply, zz_1 rfl tl_X12_apply, zz_1 rfl tl_X12_apply, fun L a0 a1 a2 a3 r M => (zz_1 rfl tl_X12_apply _ _ _).trans rfl, zz_1 rfl tl_X12_apply, zz_1 rfl tl_X12_apply, zz_1 rfl tl_X12_apply, zz_1 rfl tl_X12_apply, fun L a0 r M => (zz_1 rfl tl_X12_apply _ _ _).trans rfl, zz_1 rfl tl_X12_apply, zz_1 rfl tl_X12_apply, fun L r M => (zz_1 rfl tl_X12_apply _ _ _).trans rfl, zz_1 rfl tl_X12_apply, zz_1 rfl tl_X12_apply, zz_1 rfl tl_X12_apply, zz_1 rfl tl_X12_apply, zz_1 rfl tl_X12_apply⟩
set_option maxRecDepth 100000 in
theorem s_X12_apply (a0 a1 a2 a3 a4 a5 : Int32) (v : Nat) (M : zzMd) : fX12_apply [.ref v, .int a0, .int a1, .int a2, .int a3, .int a4, .int a5] M = zz_ev tX12_apply 0 [some (.ref v), some (.int a0), some (.int a1), some (.int a2), some (.int a3), some (.int a4), some (.int a5), none] [] M := rfl
set_option maxRecDepth 100000 in
theorem e_X12_applyBudget : (∀ L st M, zz_ev tX12_applyBudget 0 L st M = zo_aload 0 1 (zz_ev tX12_applyBudget) L st M) ∧
  (∀ L st M, zz_ev tX12_applyBudget 1 L st M = zo_aload 0 2 (zz_ev tX12_applyBudget) L st M) ∧
  (∀ L st M, zz_ev tX12_applyBudget 2 L st M = zo_iload 2 3 (zz_ev tX12_applyBudget) L st M) ∧
  (∀ (L : zzLc) (a0 : Int32) (r : List Value) (M : zzMd), zz_ev tX12_applyBudget 3 L (.int a0 :: .ref 0 :: r) M = bif zz_cat8 r then zz_backN (zz_ev tX12_applyBudget) 6 L r (fX12_isObject [.ref 0, .int a0] M) else none) ∧
  (∀ L st M, zz_ev tX12_applyBudget 6 L st M = zo_if (fun x => decide (x = 0)) 13 9 (zz_ev tX12_applyBudget) L st M) ∧
  (∀ L st M, zz_ev tX12_applyBudget 9 L st M = zo_pushI 0 10 (zz_ev tX12_applyBudget) L st M) ∧
  (∀ L st M, zz_ev tX12_applyBudget 10 L st M = zo_goto 14 (zz_ev tX12_applyBudget) L st M) ∧
  (∀ L st M, zz_ev tX12_applyBudget 13 L st M = zo_pushI 1 14 (zz_ev tX12_applyBudget) L st M) ∧
  (∀ (L : zzLc) (a0 : Int32) (r : List Value) (M : zzMd), zz_ev tX12_applyBudget 14 L (.int a0 :: .ref 0 :: r) M = bif zz_cat8 r then zz_backN (zz_ev tX12_applyBudget) 17 L r (fX12_goes [.ref 0, .int a0] M) else none) ∧
  (∀ L st M, zz_ev tX12_applyBudget 17 L st M = zo_if (fun x => decide (¬ x = 0)) 22 20 (zz_ev tX12_applyBudget) L st M) ∧
  (∀ L st M, zz_ev tX12_applyBudget 20 L st M = zo_pushI 0 21 (zz_ev tX12_applyBudget) L st M) ∧
  (∀ L st M, zz_ev tX12_applyBudget 21 L st M = zo_iret false (zz_ev tX12_applyBudget) L st M) ∧
  (∀ L st M, zz_ev tX12_applyBudget 22 L st M = zo_iload 1 23 (zz_ev tX12_applyBudget) L st M) ∧
  (∀ (L : zzLc) (a0 : Int32) (r : List Value) (M : zzMd), zz_ev tX12_applyBudget 23 L (.int a0 :: r) M = bif zz_cat8 r then zz_backN (zz_ev tX12_applyBudget) 26 L r (fX12_isManager [.int a0] M) else none) ∧
  (∀ L st M, zz_ev tX12_applyBudget 26 L st M = zo_if (fun x => decide (x = 0)) 70 29 (zz_ev tX12_applyBudget) L st M) ∧
  (∀ L st M, zz_ev tX12_applyBudget 29 L st M = zo_aload 0 30 (zz_ev tX12_applyBudget) L st M) ∧
  (∀ (L : zzLc) (r : List Value) (M : zzMd), zz_ev tX12_applyBudget 30 L (.ref 0 :: r) M = zz_ev tX12_applyBudget 33 L (.ref 6 :: r) M) ∧
  (∀ L st M, zz_ev tX12_applyBudget 33 L st M = zo_iload 2 34 (zz_ev tX12_applyBudget) L st M) ∧
  (∀ L st M, zz_ev tX12_applyBudget 34 L st M = zo_iald zzSR zzSTR 35 (zz_ev tX12_applyBudget) L st M) ∧
  (∀ L st M, zz_ev tX12_applyBudget 35 L st M = zo_if (fun x => decide (¬ x = 0)) 70 38 (zz_ev tX12_applyBudget) L st M) ∧
  (∀ L st M, zz_ev tX12_applyBudget 38 L st M = zo_iload 3 39 (zz_ev tX12_applyBudget) L st M) ∧
  (∀ L st M, zz_ev tX12_applyBudget 39 L st M = zo_if (fun x => decide (x < 0)) 70 42 (zz_ev tX12_applyBudget) L st M) ∧
  (∀ L st M, zz_ev tX12_applyBudget 42 L st M = zo_aload 0 43 (zz_ev tX12_applyBudget) L st M) ∧
  (∀ L st M, zz_ev tX12_applyBudget 43 L st M = zo_pushI 2 44 (zz_ev tX12_applyBudget) L st M) ∧
  (∀ L st M, zz_ev tX12_applyBudget 44 L st M = zo_iload 3 45 (zz_ev tX12_applyBudget) L st M) ∧
  (∀ L st M, zz_ev tX12_applyBudget 45 L st M = zo_pushI 10 47 (zz_ev tX12_applyBudget) L st M) ∧
  (∀ L st M, zz_ev tX12_applyBudget 47 L st M = zo_iid (fun x y => x / y) 48 (zz_ev tX12_applyBudget) L st M) ∧
  (∀ (L : zzLc) (a0 a1 : Int32) (r : List Value) (M : zzMd), zz_ev tX12_applyBudget 48 L (.int a1 :: .int a0 :: .ref 0 :: r) M = bif zz_cat8 r then zz_backN (zz_ev tX12_applyBudget) 51 L r (fX12_isValue [.ref 0, .int a0, .int a1] M) else none) ∧
  (∀ L st M, zz_ev tX12_applyBudget 51 L st M = zo_if (fun x => decide (x = 0)) 70 54 (zz_ev tX12_applyBudget) L st M) ∧
  (∀ L st M, zz_ev tX12_applyBudget 54 L st M = zo_aload 0 55 (zz_ev tX12_applyBudget) L st M) ∧
  (∀ L st M, zz_ev tX12_applyBudget 55 L st M = zo_pushI 3 56 (zz_ev tX12_applyBudget) L st M) ∧
  (∀ L st M, zz_ev tX12_applyBudget 56 L st M = zo_iload 3 57 (zz_ev tX12_applyBudget) L st M) ∧
  (∀ L st M, zz_ev tX12_applyBudget 57 L st M = zo_pushI 10 59 (zz_ev tX12_applyBudget) L st M) ∧
  (∀ L st M, zz_ev tX12_applyBudget 59 L st M = zo_iid (fun x y => x - x / y * y) 60 (zz_ev tX12_applyBudget) L st M) ∧
  (∀ (L : zzLc) (a0 a1 : Int32) (r : List Value) (M : zzMd), zz_ev tX12_applyBudget 60 L (.int a1 :: .int a0 :: .ref 0 :: r) M = bif zz_cat8 r then zz_backN (zz_ev tX12_applyBudget) 63 L r (fX12_isValue [.ref 0, .int a0, .int a1] M) else none) ∧
  (∀ L st M, zz_ev tX12_applyBudget 63 L st M = zo_if (fun x => decide (x = 0)) 70 66 (zz_ev tX12_applyBudget) L st M) ∧
  (∀ L st M, zz_ev tX12_applyBudget 66 L st M = zo_pushI 1 67 (zz_ev tX12_applyBudget) L st M) ∧
  (∀ L st M, zz_ev tX12_applyBudget 67 L st M = zo_goto 71 (zz_ev tX12_applyBudget) L st M) ∧
  (∀ L st M, zz_ev tX12_applyBudget 70 L st M = zo_pushI 0 71 (zz_ev tX12_applyBudget) L st M) ∧
  (∀ L st M, zz_ev tX12_applyBudget 71 L st M = zo_istore 5 73 (zz_ev tX12_applyBudget) L st M) ∧
  (∀ L st M, zz_ev tX12_applyBudget 73 L st M = zo_aload 0 74 (zz_ev tX12_applyBudget) L st M) ∧
  (∀ L st M, zz_ev tX12_applyBudget 74 L st M = zo_iload 5 76 (zz_ev tX12_applyBudget) L st M) ∧
  (∀ L st M, zz_ev tX12_applyBudget 76 L st M = zo_if (fun x => decide (x = 0)) 83 79 (zz_ev tX12_applyBudget) L st M) ∧
  (∀ L st M, zz_ev tX12_applyBudget 79 L st M = zo_pushI 0 80 (zz_ev tX12_applyBudget) L st M) ∧
  (∀ L st M, zz_ev tX12_applyBudget 80 L st M = zo_goto 84 (zz_ev tX12_applyBudget) L st M) ∧
  (∀ L st M, zz_ev tX12_applyBudget 83 L st M = zo_pushI 2 84 (zz_ev tX12_applyBudget) L st M) ∧
  (∀ (L : zzLc) (a0 : Int32) (r : List Value) (M : zzMd), zz_ev tX12_applyBudget 84 L (.int a0 :: .ref 0 :: r) M = bif zz_cat8 r then zz_backN (zz_ev tX12_applyBudget) 87 L r (fX12_goes [.ref 0, .int a0] M) else none) ∧
  (∀ L st M, zz_ev tX12_applyBudget 87 L st M = zo_if (fun x => decide (¬ x = 0)) 92 90 (zz_ev tX12_applyBudget) L st M) ∧
  (∀ L st M, zz_ev tX12_applyBudget 90 L st M = zo_pushI 0 91 (zz_ev tX12_applyBudget) L st M) ∧
  (∀ L st M, zz_ev tX12_applyBudget 91 L st M = zo_iret false (zz_ev tX12_applyBudget) L st M) ∧
  (∀ L st M, zz_ev tX12_applyBudget 92 L st M = zo_pushI 11 94 (zz_ev tX12_applyBudget) L st M) ∧
  (∀ L st M, zz_ev tX12_applyBudget 94 L st M = zo_iload 2 95 (zz_ev tX12_applyBudget) L st M) ∧
  (∀ L st M, zz_ev tX12_applyBudget 95 L st M = zo_ii (fun x y => x * y) 96 (zz_ev tX12_applyBudget) L st M) ∧
  (∀ L st M, zz_ev tX12_applyBudget 96 L st M = zo_istore 6 98 (zz_ev tX12_applyBudget) L st M) ∧
  (∀ L st M, zz_ev tX12_applyBudget 98 L st M = zo_aload 0 99 (zz_ev tX12_applyBudget) L st M) ∧
  (∀ (L : zzLc) (r : List Value) (M : zzMd), zz_ev tX12_applyBudget 99 L (.ref 0 :: r) M = zz_ev tX12_applyBudget 102 L (.ref 10 :: r) M) ∧
  (∀ L st M, zz_ev tX12_applyBudget 102 L st M = zo_iload 6 104 (zz_ev tX12_applyBudget) L st M) ∧
  (∀ L st M, zz_ev tX12_applyBudget 104 L st M = zo_pushI 2 105 (zz_ev tX12_applyBudget) L st M) ∧
  (∀ L st M, zz_ev tX12_applyBudget 105 L st M = zo_ii (fun x y => x + y) 106 (zz_ev tX12_applyBudget) L st M) ∧
  (∀ L st M, zz_ev tX12_applyBudget 106 L st M = zo_iald zzSR zzSTR 107 (zz_ev tX12_applyBudget) L st M) ∧
  (∀ L st M, zz_ev tX12_applyBudget 107 L st M = zo_iload 1 108 (zz_ev tX12_applyBudget) L st M) ∧
  (∀ L st M, zz_ev tX12_applyBudget 108 L st M = zo_icmp (fun x y => decide (¬ x = y)) 124 111 (zz_ev tX12_applyBudget) L st M) ∧
  (∀ L st M, zz_ev tX12_applyBudget 111 L st M = zo_aload 0 112 (zz_ev tX12_applyBudget) L st M) ∧
  (∀ (L : zzLc) (r : List Value) (M : zzMd), zz_ev tX12_applyBudget 112 L (.ref 0 :: r) M = zz_ev tX12_applyBudget 115 L (.ref 10 :: r) M) ∧
  (∀ L st M, zz_ev tX12_applyBudget 115 L st M = zo_iload 6 117 (zz_ev tX12_applyBudget) L st M) ∧
  (∀ L st M, zz_ev tX12_applyBudget 117 L st M = zo_pushI 3 118 (zz_ev tX12_applyBudget) L st M) ∧
  (∀ L st M, zz_ev tX12_applyBudget 118 L st M = zo_ii (fun x y => x + y) 119 (zz_ev tX12_applyBudget) L st M) ∧
  (∀ L st M, zz_ev tX12_applyBudget 119 L st M = zo_iald zzSR zzSTR 120 (zz_ev tX12_applyBudget) L st M) ∧
  (∀ L st M, zz_ev tX12_applyBudget 120 L st M = zo_iload 1 121 (zz_ev tX12_applyBudget) L st M) ∧
  (∀ L st M, zz_ev tX12_applyBudget 121 L st M = zo_icmp (fun x y => decide (x = y)) 128 124 (zz_ev tX12_applyBudget) L st M) ∧
  (∀ L st M, zz_ev tX12_applyBudget 124 L st M = zo_pushI 1 125 (zz_ev tX12_applyBudget) L st M) ∧
  (∀ L st M, zz_ev tX12_applyBudget 125 L st M = zo_goto 129 (zz_ev tX12_applyBudget) L st M) ∧
  (∀ L st M, zz_ev tX12_applyBudget 128 L st M = zo_pushI 0 129 (zz_ev tX12_applyBudget) L st M) ∧
  (∀ L st M, zz_ev tX12_applyBudget 129 L st M = zo_istore 7 131 (zz_ev tX12_applyBudget) L st M) ∧
  (∀ L st M, zz_ev tX12_applyBudget 131 L st M = zo_aload 0 132 (zz_ev tX12_applyBudget) L st M) ∧
  (∀ L st M, zz_ev tX12_applyBudget 132 L st M = zo_pushI 0 133 (zz_ev tX12_applyBudget) L st M) ∧
  (∀ L st M, zz_ev tX12_applyBudget 133 L st M = zo_aload 0 134 (zz_ev tX12_applyBudget) L st M) ∧
  (∀ L st M, zz_ev tX12_applyBudget 134 L st M = zo_aload 0 135 (zz_ev tX12_applyBudget) L st M) ∧
  (∀ L st M, zz_ev tX12_applyBudget 135 L st M = zo_aload 0 136 (zz_ev tX12_applyBudget) L st M) ∧
  (∀ (L : zzLc) (r : List Value) (M : zzMd), zz_ev tX12_applyBudget 136 L (.ref 0 :: r) M = zz_ev tX12_applyBudget 139 L (.ref 7 :: r) M) ∧
  (∀ L st M, zz_ev tX12_applyBudget 139 L st M = zo_iload 2 140 (zz_ev tX12_applyBudget) L st M) ∧
  (∀ L st M, zz_ev tX12_applyBudget 140 L st M = zo_lald zzSR 141 (zz_ev tX12_applyBudget) L st M) ∧
  (∀ L st M, zz_ev tX12_applyBudget 141 L st M = zo_pushI 2 142 (zz_ev tX12_applyBudget) L st M) ∧
  (∀ L st M, zz_ev tX12_applyBudget 142 L st M = zo_iload 3 143 (zz_ev tX12_applyBudget) L st M) ∧
  (∀ L st M, zz_ev tX12_applyBudget 143 L st M = zo_pushI 10 145 (zz_ev tX12_applyBudget) L st M) ∧
  (∀ L st M, zz_ev tX12_applyBudget 145 L st M = zo_iid (fun x y => x / y) 146 (zz_ev tX12_applyBudget) L st M) ∧
  (∀ (L : zzLc) (a1 a2 : Int32) (a0 : Int64) (r : List Value) (M : zzMd), zz_ev tX12_applyBudget 146 L (.int a2 :: .int a1 :: .long a0 :: .ref 0 :: r) M = bif zz_cat8 r then zz_backN (zz_ev tX12_applyBudget) 149 L r (fX12_with [.ref 0, .long a0, .int a1, .int a2] M) else none) ∧
  (∀ L st M, zz_ev tX12_applyBudget 149 L st M = zo_pushI 3 150 (zz_ev tX12_applyBudget) L st M) ∧
  (∀ L st M, zz_ev tX12_applyBudget 150 L st M = zo_iload 3 151 (zz_ev tX12_applyBudget) L st M) ∧
  (∀ L st M, zz_ev tX12_applyBudget 151 L st M = zo_pushI 10 153 (zz_ev tX12_applyBudget) L st M) ∧
  (∀ L st M, zz_ev tX12_applyBudget 153 L st M = zo_iid (fun x y => x - x / y * y) 154 (zz_ev tX12_applyBudget) L st M) ∧
  (∀ (L : zzLc) (a1 a2 : Int32) (a0 : Int64) (r : List Value) (M : zzMd), zz_ev tX12_applyBudget 154 L (.int a2 :: .int a1 :: .long a0 :: .ref 0 :: r) M = bif zz_cat8 r then zz_backN (zz_ev tX12_applyBudget) 157 L r (fX12_with [.ref 0, .long a0, .int a1, .int a2] M) else none) ∧
  (∀ (L : zzLc) (a0 : Int32) (a1 : Int64) (r : List Value) (M : zzMd), zz_ev tX12_applyBudget 157 L (.long a1 :: .int a0 :: .ref 0 :: r) M = bif zz_cat8 r then zz_backN (zz_ev tX12_applyBudget) 160 L r (fX12_admitted [.ref 0, .int a0, .long a1] M) else none) ∧
  (∀ L st M, zz_ev tX12_applyBudget 160 L st M = zo_lstore 8 162 (zz_ev tX12_applyBudget) L st M) ∧
  (∀ L st M, zz_ev tX12_applyBudget 162 L st M = zo_aload 0 163 (zz_ev tX12_applyBudget) L st M) ∧
  (∀ L st M, zz_ev tX12_applyBudget 163 L st M = zo_iload 2 164 (zz_ev tX12_applyBudget) L st M) ∧
  (∀ (L : zzLc) (a0 : Int32) (r : List Value) (M : zzMd), zz_ev tX12_applyBudget 164 L (.int a0 :: .ref 0 :: r) M = bif zz_cat8 r then zz_backN (zz_ev tX12_applyBudget) 167 L r (fX12_isGone [.ref 0, .int a0] M) else none) ∧
  (∀ L st M, zz_ev tX12_applyBudget 167 L st M = zo_if (fun x => decide (¬ x = 0)) 187 170 (zz_ev tX12_applyBudget) L st M) ∧
  (∀ L st M, zz_ev tX12_applyBudget 170 L st M = zo_iload 7 172 (zz_ev tX12_applyBudget) L st M) ∧
  (∀ L st M, zz_ev tX12_applyBudget 172 L st M = zo_if (fun x => decide (x = 0)) 180 175 (zz_ev tX12_applyBudget) L st M) ∧
  (∀ L st M, zz_ev tX12_applyBudget 175 L st M = zo_iload 4 177 (zz_ev tX12_applyBudget) L st M) ∧
  (∀ L st M, zz_ev tX12_applyBudget 177 L st M = zo_if (fun x => decide (x = 0)) 187 180 (zz_ev tX12_applyBudget) L st M) ∧
  (∀ L st M, zz_ev tX12_applyBudget 180 L st M = zo_aload 0 181 (zz_ev tX12_applyBudget) L st M) ∧
  (∀ (L : zzLc) (r : List Value) (M : zzMd), zz_ev tX12_applyBudget 181 L (.ref 0 :: r) M = zz_ev tX12_applyBudget 184 L (.int (M.1 0 31) :: r) M) ∧
  (∀ L st M, zz_ev tX12_applyBudget 184 L st M = zo_if (fun x => decide (x = 0)) 191 187 (zz_ev tX12_applyBudget) L st M) ∧
  (∀ L st M, zz_ev tX12_applyBudget 187 L st M = zo_pushI 1 188 (zz_ev tX12_applyBudget) L st M) ∧
  (∀ L st M, zz_ev tX12_applyBudget 188 L st M = zo_goto 192 (zz_ev tX12_applyBudget) L st M) ∧
  (∀ L st M, zz_ev tX12_applyBudget 191 L st M = zo_pushI 0 192 (zz_ev tX12_applyBudget) L st M) ∧
  (∀ L st M, zz_ev tX12_applyBudget 192 L st M = zo_istore 10 194 (zz_ev tX12_applyBudget) L st M) ∧
  (∀ L st M, zz_ev tX12_applyBudget 194 L st M = zo_aload 0 195 (zz_ev tX12_applyBudget) L st M) ∧
  (∀ L st M, zz_ev tX12_applyBudget 195 L st M = zo_iload 10 197 (zz_ev tX12_applyBudget) L st M) ∧
  (∀ L st M, zz_ev tX12_applyBudget 197 L st M = zo_if (fun x => decide (¬ x = 0)) 218 200 (zz_ev tX12_applyBudget) L st M) ∧
  (∀ L st M, zz_ev tX12_applyBudget 200 L st M = zo_aload 0 201 (zz_ev tX12_applyBudget) L st M) ∧
  (∀ L st M, zz_ev tX12_applyBudget 201 L st M = zo_iload 2 202 (zz_ev tX12_applyBudget) L st M) ∧
  (∀ L st M, zz_ev tX12_applyBudget 202 L st M = zo_lload 8 204 (zz_ev tX12_applyBudget) L st M) ∧
  (∀ L st M, zz_ev tX12_applyBudget 204 L st M = zo_aload 0 205 (zz_ev tX12_applyBudget) L st M) ∧
  (∀ (L : zzLc) (r : List Value) (M : zzMd), zz_ev tX12_applyBudget 205 L (.ref 0 :: r) M = zz_ev tX12_applyBudget 208 L (.ref 8 :: r) M) ∧
  (∀ L st M, zz_ev tX12_applyBudget 208 L st M = zo_iload 2 209 (zz_ev tX12_applyBudget) L st M) ∧
  (∀ L st M, zz_ev tX12_applyBudget 209 L st M = zo_lald zzSR 210 (zz_ev tX12_applyBudget) L st M) ∧
  (∀ L st M, zz_ev tX12_applyBudget 210 L st M = zo_iload 7 212 (zz_ev tX12_applyBudget) L st M) ∧
  (∀ (L : zzLc) (a0 a3 : Int32) (a1 a2 : Int64) (r : List Value) (M : zzMd), zz_ev tX12_applyBudget 212 L (.int a3 :: .long a2 :: .long a1 :: .int a0 :: .ref 0 :: r) M = bif zz_cat8 r then zz_backN (zz_ev tX12_applyBudget) 215 L r (fX12_puts [.ref 0, .int a0, .long a1, .long a2, .int a3] M) else none) ∧
  (∀ L st M, zz_ev tX12_applyBudget 215 L st M = zo_if (fun x => decide (¬ x = 0)) 222 218 (zz_ev tX12_applyBudget) L st M) ∧
  (∀ L st M, zz_ev tX12_applyBudget 218 L st M = zo_pushI 3 219 (zz_ev tX12_applyBudget) L st M) ∧
  (∀ L st M, zz_ev tX12_applyBudget 219 L st M = zo_goto 223 (zz_ev tX12_applyBudget) L st M) ∧
  (∀ L st M, zz_ev tX12_applyBudget 222 L st M = zo_pushI 0 223 (zz_ev tX12_applyBudget) L st M) ∧
  (∀ (L : zzLc) (a0 : Int32) (r : List Value) (M : zzMd), zz_ev tX12_applyBudget 223 L (.int a0 :: .ref 0 :: r) M = bif zz_cat8 r then zz_backN (zz_ev tX12_applyBudget) 226 L r (fX12_goes [.ref 0, .int a0] M) else none) ∧
  (∀ L st M, zz_ev tX12_applyBudget 226 L st M = zo_if (fun x => decide (¬ x = 0)) 231 229 (zz_ev tX12_applyBudget) L st M) ∧
  (∀ L st M, zz_ev tX12_applyBudget 229 L st M = zo_pushI 0 230 (zz_ev tX12_applyBudget) L st M) ∧
  (∀ L st M, zz_ev tX12_applyBudget 230 L st M = zo_iret false (zz_ev tX12_applyBudget) L st M) ∧
  (∀ L st M, zz_ev tX12_applyBudget 231 L st M = zo_aload 0 232 (zz_ev tX12_applyBudget) L st M) ∧
  (∀ (L : zzLc) (r : List Value) (M : zzMd), zz_ev tX12_applyBudget 232 L (.ref 0 :: r) M = zz_ev tX12_applyBudget 235 L (.ref 10 :: r) M) ∧
  (∀ L st M, zz_ev tX12_applyBudget 235 L st M = zo_iload 6 237 (zz_ev tX12_applyBudget) L st M) ∧
  (∀ L st M, zz_ev tX12_applyBudget 237 L st M = zo_pushI 2 238 (zz_ev tX12_applyBudget) L st M) ∧
  (∀ L st M, zz_ev tX12_applyBudget 238 L st M = zo_ii (fun x y => x + y) 239 (zz_ev tX12_applyBudget) L st M) ∧
  (∀ L st M, zz_ev tX12_applyBudget 239 L st M = zo_iload 1 240 (zz_ev tX12_applyBudget) L st M) ∧
  (∀ L st M, zz_ev tX12_applyBudget 240 L st M = zo_iast zzSR 241 (zz_ev tX12_applyBudget) L st M) ∧
  (∀ L st M, zz_ev tX12_applyBudget 241 L st M = zo_aload 0 242 (zz_ev tX12_applyBudget) L st M) ∧
  (∀ (L : zzLc) (r : List Value) (M : zzMd), zz_ev tX12_applyBudget 242 L (.ref 0 :: r) M = zz_ev tX12_applyBudget 245 L (.ref 10 :: r) M) ∧
  (∀ L st M, zz_ev tX12_applyBudget 245 L st M = zo_iload 6 247 (zz_ev tX12_applyBudget) L st M) ∧
  (∀ L st M, zz_ev tX12_applyBudget 247 L st M = zo_pushI 3 248 (zz_ev tX12_applyBudget) L st M) ∧
  (∀ L st M, zz_ev tX12_applyBudget 248 L st M = zo_ii (fun x y => x + y) 249 (zz_ev tX12_applyBudget) L st M) ∧
  (∀ L st M, zz_ev tX12_applyBudget 249 L st M = zo_iload 1 250 (zz_ev tX12_applyBudget) L st M) ∧
  (∀ L st M, zz_ev tX12_applyBudget 250 L st M = zo_iast zzSR 251 (zz_ev tX12_applyBudget) L st M) ∧
  (∀ L st M, zz_ev tX12_applyBudget 251 L st M = zo_aload 0 252 (zz_ev tX12_applyBudget) L st M) ∧
  (∀ (L : zzLc) (r : List Value) (M : zzMd), zz_ev tX12_applyBudget 252 L (.ref 0 :: r) M = zz_ev tX12_applyBudget 255 L (.ref 9 :: r) M) ∧
  (∀ L st M, zz_ev tX12_applyBudget 255 L st M = zo_iload 2 256 (zz_ev tX12_applyBudget) L st M) ∧
  (∀ L st M, zz_ev tX12_applyBudget 256 L st M = zo_iald zzSR zzSTR 257 (zz_ev tX12_applyBudget) L st M) ∧
  (∀ L st M, zz_ev tX12_applyBudget 257 L st M = zo_iret false (zz_ev tX12_applyBudget) L st M) :=
  ⟨zz_1 rfl tl_X12_applyBudget, zz_1 rfl tl_X12_applyBudget, zz_1 rfl tl_X12_applyBudget, fun L a0 r M => (zz_1 rfl tl_X12_applyBudget _ _ _).trans rfl, zz_1 rfl tl_X12_applyBudget, zz_1 rfl tl_X12_applyBudget, zz_1 rfl tl_X12_applyBudget, zz_1 rfl tl_X12_applyBudget, fun L a0 r M => (zz_1 rfl tl_X12_applyBudget _ _ _).trans rfl, zz_1 rfl tl_X12_applyBudget, zz_1 rfl tl_X12_applyBudget, zz_1 rfl tl_X12_applyBudget, zz_1 rfl tl_X12_applyBudget, fun L a0 r M => (zz_1 rfl tl_X12_applyBudget _ _ _).trans rfl, zz_1 rfl tl_X12_applyBudget, zz_1 rfl tl_X12_applyBudget, fun L r M => (zz_1 rfl tl_X12_applyBudget _ _ _).trans rfl, zz_1 rfl tl_X12_applyBudget, zz_1 rfl tl_X12_applyBudget, zz_1 rfl tl_X12_applyBudget, zz_1 rfl tl_X12_applyBudget, zz_1 rfl tl_X12_applyBudget, zz_1 rfl tl_X12_applyBudget, zz_1 rfl tl_X12_applyBudget, zz_1 rfl tl_X12_applyBudget, zz_1 rfl tl_X12_applyBudget, zz_1 rfl tl_X12_applyBudget, fun L a0 a1 r M => (zz_1 rfl tl_X12_applyBudget _ _ _).trans rfl, zz_1 rfl tl_X12_applyBudget, zz_1 rfl tl_X12_applyBudget, zz_1 rfl tl_X12_applyBudget, zz_1 rfl tl_X12_applyBudget, zz_1 rfl tl_X12_applyBudget, zz_1 rfl tl_X12_applyBudget, fun L a0 a1 r M => (zz_1 rfl tl_X12_applyBudget _ _ _).trans rfl, zz_1 rfl tl_X12_applyBudget, zz_1 rfl tl_X12_applyBudget, zz_1 rfl tl_X12_applyBudget, zz_1 rfl tl_X12_applyBudget, zz_1 rfl tl_X12_applyBudget, zz_1 rfl tl_X12_applyBudget, zz_1 rfl tl_X12_applyBudget, zz_1 rfl tl_X12_applyBudget, zz_1 rfl tl_X12_applyBudget, zz_1 rfl tl_X12_applyBudget, zz_1 rfl tl_X12_applyBudget, fun L a0 r M => (zz_1 rfl tl_X12_applyBudget _ _ _).trans rfl, zz_1 rfl tl_X12_applyBudget, zz_1 rfl tl_X12_applyBudget, zz_1 rfl tl_X12_applyBudget, zz_1 rfl tl_X12_applyBudget, zz_1 rfl tl_X12_applyBudget, zz_1 rfl tl_X12_applyBudget, zz_1 rfl tl_X12_applyBudget, zz_1 rfl tl_X12_applyBudget, fun L r M => (zz_1 rfl tl_X12_applyBudget _ _ _).trans rfl, zz_1 rfl tl_X12_applyBudget, zz_1 rfl tl_X12_applyBudget, zz_1 rfl tl_X12_applyBudget, zz_1 rfl tl_X12_applyBudget, zz_1 rfl tl_X12_applyBudget, zz_1 rfl tl_X12_applyBudget, zz_1 rfl tl_X12_applyBudget, fun L r M => (zz_1 rfl tl_X12_applyBudget _ _ _).trans rfl, zz_1 rfl tl_X12_applyBudget, zz_1 rfl tl_X12_applyBudget, zz_1 rfl tl_X12_applyBudget, zz_1 rfl tl_X12_applyBudget, zz_1 rfl tl_X12_applyBudget, zz_1 rfl tl_X12_applyBudget, zz_1 rfl tl_X12_applyBudget, zz_1 rfl tl_X12_applyBudget, zz_1 rfl tl_X12_applyBudget, zz_1 rfl tl_X12_applyBudget, zz_1 rfl tl_X12_applyBudget, zz_1 rfl tl_X12_applyBudget, zz_1 rfl tl_X12_applyBudget, zz_1 rfl tl_X12_applyBudget, zz_1 rfl tl_X12_applyBudget, fun L r M => (zz_1 rfl tl_X12_applyBudget _ _ _).trans rfl, zz_1 rfl tl_X12_applyBudget, zz_1 rfl tl_X12_applyBudget, zz_1 rfl tl_X12_applyBudget, zz_1 rfl tl_X12_applyBudget, zz_1 rfl tl_X12_applyBudget, zz_1 rfl tl_X12_applyBudget, fun L a1 a2 a0 r M => (zz_1 rfl tl_X12_applyBudget _ _ _).trans rfl, zz_1 rfl tl_X12_applyBudget, zz_1 rfl tl_X12_applyBudget, zz_1 rfl tl_X12_applyBudget, zz_1 rfl tl_X12_applyBudget, fun L a1 a2 a0 r M => (zz_1 rfl tl_X12_applyBudget _ _ _).trans rfl, fun L a0 a1 r M => (zz_1 rfl tl_X12_applyBudget _ _ _).trans rfl, zz_1 rfl tl_X12_applyBudget, zz_1 rfl tl_X12_applyBudget, zz_1 rfl tl_X12_applyBudget, fun L a0 r M => (zz_1 rfl tl_X12_applyBudget _ _ _).trans rfl, zz_1 rfl tl_X12_applyBudget, zz_1 rfl tl_X12_applyBudget, zz_1 rfl tl_X12_applyBudget, zz_1 rfl tl_X12_applyBudget, zz_1 rfl tl_X12_applyBudget, zz_1 rfl tl_X12_applyBudget, fun L r M => (zz_1 rfl tl_X12_applyBudget _ _ _).trans rfl, zz_1 rfl tl_X12_applyBudget, zz_1 rfl tl_X12_applyBudget, zz_1 rfl tl_X12_applyBudget, zz_1 rfl tl_X12_applyBudget, zz_1 rfl tl_X12_applyBudget, zz_1 rfl tl_X12_applyBudget, zz_1 rfl tl_X12_applyBudget, zz_1 rfl tl_X12_applyBudget, zz_1 rfl tl_X12_applyBudget, zz_1 rfl tl_X12_applyBudget, zz_1 rfl tl_X12_applyBudget, zz_1 rfl tl_X12_applyBudget, fun L r M => (zz_1 rfl tl_X12_applyBudget _ _ _).trans rfl, zz_1 rfl tl_X12_applyBudget, zz_1 rfl tl_X12_applyBudget, zz_1 rfl tl_X12_applyBudget, fun L a0 a3 a1 a2 r M => (zz_1 rfl tl_X12_applyBudget _ _ _).trans rfl, zz_1 rfl tl_X12_applyBudget, zz_1 rfl tl_X12_applyBudget, zz_1 rfl tl_X12_applyBudget, zz_1 rfl tl_X12_applyBudget, fun L a0 r M => (zz_1 rfl tl_X12_applyBudget _ _ _).trans rfl, zz_1 rfl tl_X12_applyBudget, zz_1 rfl tl_X12_applyBudget, zz_1 rfl tl_X12_applyBudget, zz_1 rfl tl_X12_applyBudget, fun L r M => (zz_1 rfl tl_X12_applyBudget _ _ _).trans rfl, zz_1 rfl tl_X12_applyBudget, zz_1 rfl tl_X12_applyBudget, zz_1 rfl tl_X12_applyBudget, zz_1 rfl tl_X12_applyBudget, zz_1 rfl tl_X12_applyBudget, zz_1 rfl tl_X12_applyBudget, fun L r M => (zz_1 rfl tl_X12_applyBudget _ _ _).trans rfl, zz_1 rfl tl_X12_applyBudget, zz_1 rfl tl_X12_applyBudget, zz_1 rfl tl_X12_applyBudget, zz_1 rfl tl_X12_applyBudget, zz_1 rfl tl_X12_applyBudget, zz_1 rfl tl_X12_applyBudget, fun L r M => (zz_1 rfl tl_X12_applyBudget _ _ _).trans rfl, zz_1 rfl tl_X12_applyBudget, zz_1 rfl tl_X12_applyBudget, zz_1 rfl tl_X12_applyBudget⟩
set_option maxRecDepth 100000 in
theorem s_X12_applyBudget (a0 a1 a2 a3 : Int32) (v : Nat) (M : zzMd) : fX12_applyBudget [.ref v, .int a0, .int a1, .int a2, .int a3] M = zz_ev tX12_applyBudget 0 [some (.ref v), some (.int a0), some (.int a1), some (.int a2), some (.int a3), none, none, none, none, none, none] [] M := rfl
set_option maxRecDepth 100000 in
theorem e_X12_delete : (∀ L st M, zz_ev tX12_delete 0 L st M = zo_aload 0 1 (zz_ev tX12_delete) L st M) ∧
  (∀ L st M, zz_ev tX12_delete 1 L st M = zo_aload 0 2 (zz_ev tX12_delete) L st M) ∧
  (∀ L st M, zz_ev tX12_delete 2 L st M = zo_iload 1 3 (zz_ev tX12_delete) L st M) ∧
  (∀ (L : zzLc) (a0 : Int32) (r : List Value) (M : zzMd), zz_ev tX12_delete 3 L (.int a0 :: .ref 0 :: r) M = bif zz_cat8 r then zz_backN (zz_ev tX12_delete) 6 L r (fX12_isObject [.ref 0, .int a0] M) else none) ∧
  (∀ L st M, zz_ev tX12_delete 6 L st M = zo_if (fun x => decide (¬ x = 0)) 13 9 (zz_ev tX12_delete) L st M) ∧
  (∀ L st M, zz_ev tX12_delete 9 L st M = zo_pushI 1 10 (zz_ev tX12_delete) L st M) ∧
  (∀ L st M, zz_ev tX12_delete 10 L st M = zo_goto 27 (zz_ev tX12_delete) L st M) ∧
  (∀ L st M, zz_ev tX12_delete 13 L st M = zo_iload 2 14 (zz_ev tX12_delete) L st M) ∧
  (∀ L st M, zz_ev tX12_delete 14 L st M = zo_pushI 1 15 (zz_ev tX12_delete) L st M) ∧
  (∀ L st M, zz_ev tX12_delete 15 L st M = zo_pushI 3 16 (zz_ev tX12_delete) L st M) ∧
  (∀ (L : zzLc) (a0 a1 a2 : Int32) (r : List Value) (M : zzMd), zz_ev tX12_delete 16 L (.int a2 :: .int a1 :: .int a0 :: r) M = bif zz_cat8 r then zz_backN (zz_ev tX12_delete) 19 L r (fX12_isIn [.int a0, .int a1, .int a2] M) else none) ∧
  (∀ L st M, zz_ev tX12_delete 19 L st M = zo_if (fun x => decide (x = 0)) 26 22 (zz_ev tX12_delete) L st M) ∧
  (∀ L st M, zz_ev tX12_delete 22 L st M = zo_pushI 0 23 (zz_ev tX12_delete) L st M) ∧
  (∀ L st M, zz_ev tX12_delete 23 L st M = zo_goto 27 (zz_ev tX12_delete) L st M) ∧
  (∀ L st M, zz_ev tX12_delete 26 L st M = zo_pushI 2 27 (zz_ev tX12_delete) L st M) ∧
  (∀ (L : zzLc) (a0 : Int32) (r : List Value) (M : zzMd), zz_ev tX12_delete 27 L (.int a0 :: .ref 0 :: r) M = bif zz_cat8 r then zz_backN (zz_ev tX12_delete) 30 L r (fX12_goes [.ref 0, .int a0] M) else none) ∧
  (∀ L st M, zz_ev tX12_delete 30 L st M = zo_if (fun x => decide (¬ x = 0)) 35 33 (zz_ev tX12_delete) L st M) ∧
  (∀ L st M, zz_ev tX12_delete 33 L st M = zo_pushI 0 34 (zz_ev tX12_delete) L st M) ∧
  (∀ L st M, zz_ev tX12_delete 34 L st M = zo_iret false (zz_ev tX12_delete) L st M) ∧
  (∀ L st M, zz_ev tX12_delete 35 L st M = zo_aload 0 36 (zz_ev tX12_delete) L st M) ∧
  (∀ L st M, zz_ev tX12_delete 36 L st M = zo_aload 0 37 (zz_ev tX12_delete) L st M) ∧
  (∀ (L : zzLc) (r : List Value) (M : zzMd), zz_ev tX12_delete 37 L (.ref 0 :: r) M = zz_ev tX12_delete 40 L (.ref 7 :: r) M) ∧
  (∀ L st M, zz_ev tX12_delete 40 L st M = zo_iload 1 41 (zz_ev tX12_delete) L st M) ∧
  (∀ L st M, zz_ev tX12_delete 41 L st M = zo_lald zzSR 42 (zz_ev tX12_delete) L st M) ∧
  (∀ L st M, zz_ev tX12_delete 42 L st M = zo_pushI 13 44 (zz_ev tX12_delete) L st M) ∧
  (∀ (L : zzLc) (a1 : Int32) (a0 : Int64) (r : List Value) (M : zzMd), zz_ev tX12_delete 44 L (.int a1 :: .long a0 :: .ref 0 :: r) M = bif zz_cat8 r then zz_backN (zz_ev tX12_delete) 47 L r (fX12_get [.ref 0, .long a0, .int a1] M) else none) ∧
  (∀ L st M, zz_ev tX12_delete 47 L st M = zo_if (fun x => decide (¬ x = 0)) 77 50 (zz_ev tX12_delete) L st M) ∧
  (∀ L st M, zz_ev tX12_delete 50 L st M = zo_aload 0 51 (zz_ev tX12_delete) L st M) ∧
  (∀ L st M, zz_ev tX12_delete 51 L st M = zo_iload 1 52 (zz_ev tX12_delete) L st M) ∧
  (∀ L st M, zz_ev tX12_delete 52 L st M = zo_aload 0 53 (zz_ev tX12_delete) L st M) ∧
  (∀ L st M, zz_ev tX12_delete 53 L st M = zo_iload 1 54 (zz_ev tX12_delete) L st M) ∧
  (∀ L st M, zz_ev tX12_delete 54 L st M = zo_aload 0 55 (zz_ev tX12_delete) L st M) ∧
  (∀ (L : zzLc) (r : List Value) (M : zzMd), zz_ev tX12_delete 55 L (.ref 0 :: r) M = zz_ev tX12_delete 58 L (.ref 7 :: r) M) ∧
  (∀ L st M, zz_ev tX12_delete 58 L st M = zo_iload 1 59 (zz_ev tX12_delete) L st M) ∧
  (∀ L st M, zz_ev tX12_delete 59 L st M = zo_lald zzSR 60 (zz_ev tX12_delete) L st M) ∧
  (∀ L st M, zz_ev tX12_delete 60 L st M = zo_iload 2 61 (zz_ev tX12_delete) L st M) ∧
  (∀ (L : zzLc) (a0 a2 : Int32) (a1 : Int64) (r : List Value) (M : zzMd), zz_ev tX12_delete 61 L (.int a2 :: .long a1 :: .int a0 :: .ref 0 :: r) M = bif zz_cat8 r then zz_backN (zz_ev tX12_delete) 64 L r (fX12_deleted [.ref 0, .int a0, .long a1, .int a2] M) else none) ∧
  (∀ L st M, zz_ev tX12_delete 64 L st M = zo_aload 0 65 (zz_ev tX12_delete) L st M) ∧
  (∀ (L : zzLc) (r : List Value) (M : zzMd), zz_ev tX12_delete 65 L (.ref 0 :: r) M = zz_ev tX12_delete 68 L (.ref 8 :: r) M) ∧
  (∀ L st M, zz_ev tX12_delete 68 L st M = zo_iload 1 69 (zz_ev tX12_delete) L st M) ∧
  (∀ L st M, zz_ev tX12_delete 69 L st M = zo_lald zzSR 70 (zz_ev tX12_delete) L st M) ∧
  (∀ L st M, zz_ev tX12_delete 70 L st M = zo_pushI 0 71 (zz_ev tX12_delete) L st M) ∧
  (∀ (L : zzLc) (a0 a3 : Int32) (a1 a2 : Int64) (r : List Value) (M : zzMd), zz_ev tX12_delete 71 L (.int a3 :: .long a2 :: .long a1 :: .int a0 :: .ref 0 :: r) M = bif zz_cat8 r then zz_backN (zz_ev tX12_delete) 74 L r (fX12_puts [.ref 0, .int a0, .long a1, .long a2, .int a3] M) else none) ∧
  (∀ L st M, zz_ev tX12_delete 74 L st M = zo_if (fun x => decide (¬ x = 0)) 81 77 (zz_ev tX12_delete) L st M) ∧
  (∀ L st M, zz_ev tX12_delete 77 L st M = zo_pushI 1 78 (zz_ev tX12_delete) L st M) ∧
  (∀ L st M, zz_ev tX12_delete 78 L st M = zo_goto 82 (zz_ev tX12_delete) L st M) ∧
  (∀ L st M, zz_ev tX12_delete 81 L st M = zo_pushI 0 82 (zz_ev tX12_delete) L st M) ∧
  (∀ L st M, zz_ev tX12_delete 82 L st M = zo_istore 3 83 (zz_ev tX12_delete) L st M) ∧
  (∀ L st M, zz_ev tX12_delete 83 L st M = zo_aload 0 84 (zz_ev tX12_delete) L st M) ∧
  (∀ L st M, zz_ev tX12_delete 84 L st M = zo_iload 3 85 (zz_ev tX12_delete) L st M) ∧
  (∀ L st M, zz_ev tX12_delete 85 L st M = zo_if (fun x => decide (x = 0)) 92 88 (zz_ev tX12_delete) L st M) ∧
  (∀ L st M, zz_ev tX12_delete 88 L st M = zo_pushI 3 89 (zz_ev tX12_delete) L st M) ∧
  (∀ L st M, zz_ev tX12_delete 89 L st M = zo_goto 93 (zz_ev tX12_delete) L st M) ∧
  (∀ L st M, zz_ev tX12_delete 92 L st M = zo_pushI 0 93 (zz_ev tX12_delete) L st M) ∧
  (∀ (L : zzLc) (a0 : Int32) (r : List Value) (M : zzMd), zz_ev tX12_delete 93 L (.int a0 :: .ref 0 :: r) M = bif zz_cat8 r then zz_backN (zz_ev tX12_delete) 96 L r (fX12_goes [.ref 0, .int a0] M) else none) ∧
  (∀ L st M, zz_ev tX12_delete 96 L st M = zo_if (fun x => decide (x = 0)) 114 99 (zz_ev tX12_delete) L st M) ∧
  (∀ L st M, zz_ev tX12_delete 99 L st M = zo_aload 0 100 (zz_ev tX12_delete) L st M) ∧
  (∀ L st M, zz_ev tX12_delete 100 L st M = zo_aload 0 101 (zz_ev tX12_delete) L st M) ∧
  (∀ (L : zzLc) (r : List Value) (M : zzMd), zz_ev tX12_delete 101 L (.ref 0 :: r) M = zz_ev tX12_delete 104 L (.ref 7 :: r) M) ∧
  (∀ L st M, zz_ev tX12_delete 104 L st M = zo_iload 1 105 (zz_ev tX12_delete) L st M) ∧
  (∀ L st M, zz_ev tX12_delete 105 L st M = zo_lald zzSR 106 (zz_ev tX12_delete) L st M) ∧
  (∀ L st M, zz_ev tX12_delete 106 L st M = zo_pushI 13 108 (zz_ev tX12_delete) L st M) ∧
  (∀ (L : zzLc) (a1 : Int32) (a0 : Int64) (r : List Value) (M : zzMd), zz_ev tX12_delete 108 L (.int a1 :: .long a0 :: .ref 0 :: r) M = bif zz_cat8 r then zz_backN (zz_ev tX12_delete) 111 L r (fX12_get [.ref 0, .long a0, .int a1] M) else none) ∧
  (∀ L st M, zz_ev tX12_delete 111 L st M = zo_goto 115 (zz_ev tX12_delete) L st M) ∧
  (∀ L st M, zz_ev tX12_delete 114 L st M = zo_pushI 0 115 (zz_ev tX12_delete) L st M) ∧
  (∀ L st M, zz_ev tX12_delete 115 L st M = zo_iret false (zz_ev tX12_delete) L st M) :=
  ⟨zz_1 rfl tl_X12_delete, zz_1 rfl tl_X12_delete, zz_1 rfl tl_X12_delete, fun L a0 r M => (zz_1 rfl tl_X12_delete _ _ _).trans rfl, zz_1 rfl tl_X12_delete, zz_1 rfl tl_X12_delete, zz_1 rfl tl_X12_delete, zz_1 rfl tl_X12_delete, zz_1 rfl tl_X12_delete, zz_1 rfl tl_X12_delete, fun L a0 a1 a2 r M => (zz_1 rfl tl_X12_delete _ _ _).trans rfl, zz_1 rfl tl_X12_delete, zz_1 rfl tl_X12_delete, zz_1 rfl tl_X12_delete, zz_1 rfl tl_X12_delete, fun L a0 r M => (zz_1 rfl tl_X12_delete _ _ _).trans rfl, zz_1 rfl tl_X12_delete, zz_1 rfl tl_X12_delete, zz_1 rfl tl_X12_delete, zz_1 rfl tl_X12_delete, zz_1 rfl tl_X12_delete, fun L r M => (zz_1 rfl tl_X12_delete _ _ _).trans rfl, zz_1 rfl tl_X12_delete, zz_1 rfl tl_X12_delete, zz_1 rfl tl_X12_delete, fun L a1 a0 r M => (zz_1 rfl tl_X12_delete _ _ _).trans rfl, zz_1 rfl tl_X12_delete, zz_1 rfl tl_X12_delete, zz_1 rfl tl_X12_delete, zz_1 rfl tl_X12_delete, zz_1 rfl tl_X12_delete, zz_1 rfl tl_X12_delete, fun L r M => (zz_1 rfl tl_X12_delete _ _ _).trans rfl, zz_1 rfl tl_X12_delete, zz_1 rfl tl_X12_delete, zz_1 rfl tl_X12_delete, fun L a0 a2 a1 r M => (zz_1 rfl tl_X12_delete _ _ _).trans rfl, zz_1 rfl tl_X12_delete, fun L r M => (zz_1 rfl tl_X12_delete _ _ _).trans rfl, zz_1 rfl tl_X12_delete, zz_1 rfl tl_X12_delete, zz_1 rfl tl_X12_delete, fun L a0 a3 a1 a2 r M => (zz_1 rfl tl_X12_delete _ _ _).trans rfl, zz_1 rfl tl_X12_delete, zz_1 rfl tl_X12_delete, zz_1 rfl tl_X12_delete, zz_1 rfl tl_X12_delete, zz_1 rfl tl_X12_delete, zz_1 rfl tl_X12_delete, zz_1 rfl tl_X12_delete, zz_1 rfl tl_X12_delete, zz_1 rfl tl_X12_delete, zz_1 rfl tl_X12_delete, zz_1 rfl tl_X12_delete, fun L a0 r M => (zz_1 rfl tl_X12_delete _ _ _).trans rfl, zz_1 rfl tl_X12_delete, zz_1 rfl tl_X12_delete, zz_1 rfl tl_X12_delete, fun L r M => (zz_1 rfl tl_X12_delete _ _ _).trans rfl, zz_1 rfl tl_X12_delete, zz_1 rfl tl_X12_delete, zz_1 rfl tl_X12_delete, fun L a1 a0 r M => (zz_1 rfl tl_X12_delete _ _ _).trans rfl, zz_1 rfl tl_X12_delete, zz_1 rfl tl_X12_delete, zz_1 rfl tl_X12_delete⟩
set_option maxRecDepth 100000 in
theorem s_X12_delete (a0 a1 : Int32) (v : Nat) (M : zzMd) : fX12_delete [.ref v, .int a0, .int a1] M = zz_ev tX12_delete 0 [some (.ref v), some (.int a0), some (.int a1), none] [] M := rfl
set_option maxRecDepth 100000 in
theorem e_X12_hold : (∀ L st M, zz_ev tX12_hold 0 L st M = zo_aload 0 1 (zz_ev tX12_hold) L st M) ∧
  (∀ L st M, zz_ev tX12_hold 1 L st M = zo_aload 0 2 (zz_ev tX12_hold) L st M) ∧
  (∀ L st M, zz_ev tX12_hold 2 L st M = zo_iload 1 3 (zz_ev tX12_hold) L st M) ∧
  (∀ (L : zzLc) (a0 : Int32) (r : List Value) (M : zzMd), zz_ev tX12_hold 3 L (.int a0 :: .ref 0 :: r) M = bif zz_cat8 r then zz_backN (zz_ev tX12_hold) 6 L r (fX12_isObject [.ref 0, .int a0] M) else none) ∧
  (∀ L st M, zz_ev tX12_hold 6 L st M = zo_if (fun x => decide (x = 0)) 13 9 (zz_ev tX12_hold) L st M) ∧
  (∀ L st M, zz_ev tX12_hold 9 L st M = zo_pushI 0 10 (zz_ev tX12_hold) L st M) ∧
  (∀ L st M, zz_ev tX12_hold 10 L st M = zo_goto 14 (zz_ev tX12_hold) L st M) ∧
  (∀ L st M, zz_ev tX12_hold 13 L st M = zo_pushI 1 14 (zz_ev tX12_hold) L st M) ∧
  (∀ (L : zzLc) (a0 : Int32) (r : List Value) (M : zzMd), zz_ev tX12_hold 14 L (.int a0 :: .ref 0 :: r) M = bif zz_cat8 r then zz_backN (zz_ev tX12_hold) 17 L r (fX12_goes [.ref 0, .int a0] M) else none) ∧
  (∀ L st M, zz_ev tX12_hold 17 L st M = zo_if (fun x => decide (¬ x = 0)) 22 20 (zz_ev tX12_hold) L st M) ∧
  (∀ L st M, zz_ev tX12_hold 20 L st M = zo_pushI 0 21 (zz_ev tX12_hold) L st M) ∧
  (∀ L st M, zz_ev tX12_hold 21 L st M = zo_iret true (zz_ev tX12_hold) L st M) ∧
  (∀ L st M, zz_ev tX12_hold 22 L st M = zo_aload 0 23 (zz_ev tX12_hold) L st M) ∧
  (∀ L st M, zz_ev tX12_hold 23 L st M = zo_aload 0 24 (zz_ev tX12_hold) L st M) ∧
  (∀ (L : zzLc) (r : List Value) (M : zzMd), zz_ev tX12_hold 24 L (.ref 0 :: r) M = zz_ev tX12_hold 27 L (.ref 7 :: r) M) ∧
  (∀ L st M, zz_ev tX12_hold 27 L st M = zo_iload 1 28 (zz_ev tX12_hold) L st M) ∧
  (∀ L st M, zz_ev tX12_hold 28 L st M = zo_lald zzSR 29 (zz_ev tX12_hold) L st M) ∧
  (∀ L st M, zz_ev tX12_hold 29 L st M = zo_pushI 12 31 (zz_ev tX12_hold) L st M) ∧
  (∀ (L : zzLc) (a1 : Int32) (a0 : Int64) (r : List Value) (M : zzMd), zz_ev tX12_hold 31 L (.int a1 :: .long a0 :: .ref 0 :: r) M = bif zz_cat8 r then zz_backN (zz_ev tX12_hold) 34 L r (fX12_get [.ref 0, .long a0, .int a1] M) else none) ∧
  (∀ L st M, zz_ev tX12_hold 34 L st M = zo_pushI 1 35 (zz_ev tX12_hold) L st M) ∧
  (∀ L st M, zz_ev tX12_hold 35 L st M = zo_icmp (fun x y => decide (¬ x = y)) 42 38 (zz_ev tX12_hold) L st M) ∧
  (∀ L st M, zz_ev tX12_hold 38 L st M = zo_pushI 1 39 (zz_ev tX12_hold) L st M) ∧
  (∀ L st M, zz_ev tX12_hold 39 L st M = zo_goto 43 (zz_ev tX12_hold) L st M) ∧
  (∀ L st M, zz_ev tX12_hold 42 L st M = zo_pushI 0 43 (zz_ev tX12_hold) L st M) ∧
  (∀ L st M, zz_ev tX12_hold 43 L st M = zo_istore 3 44 (zz_ev tX12_hold) L st M) ∧
  (∀ L st M, zz_ev tX12_hold 44 L st M = zo_aload 0 45 (zz_ev tX12_hold) L st M) ∧
  (∀ L st M, zz_ev tX12_hold 45 L st M = zo_iload 1 46 (zz_ev tX12_hold) L st M) ∧
  (∀ (L : zzLc) (a0 : Int32) (r : List Value) (M : zzMd), zz_ev tX12_hold 46 L (.int a0 :: .ref 0 :: r) M = bif zz_cat8 r then zz_backN (zz_ev tX12_hold) 49 L r (fX12_isGone [.ref 0, .int a0] M) else none) ∧
  (∀ L st M, zz_ev tX12_hold 49 L st M = zo_if (fun x => decide (¬ x = 0)) 88 52 (zz_ev tX12_hold) L st M) ∧
  (∀ L st M, zz_ev tX12_hold 52 L st M = zo_aload 0 53 (zz_ev tX12_hold) L st M) ∧
  (∀ L st M, zz_ev tX12_hold 53 L st M = zo_iload 1 54 (zz_ev tX12_hold) L st M) ∧
  (∀ L st M, zz_ev tX12_hold 54 L st M = zo_aload 0 55 (zz_ev tX12_hold) L st M) ∧
  (∀ L st M, zz_ev tX12_hold 55 L st M = zo_aload 0 56 (zz_ev tX12_hold) L st M) ∧
  (∀ (L : zzLc) (r : List Value) (M : zzMd), zz_ev tX12_hold 56 L (.ref 0 :: r) M = zz_ev tX12_hold 59 L (.ref 7 :: r) M) ∧
  (∀ L st M, zz_ev tX12_hold 59 L st M = zo_iload 1 60 (zz_ev tX12_hold) L st M) ∧
  (∀ L st M, zz_ev tX12_hold 60 L st M = zo_lald zzSR 61 (zz_ev tX12_hold) L st M) ∧
  (∀ L st M, zz_ev tX12_hold 61 L st M = zo_pushI 12 63 (zz_ev tX12_hold) L st M) ∧
  (∀ L st M, zz_ev tX12_hold 63 L st M = zo_iload 2 64 (zz_ev tX12_hold) L st M) ∧
  (∀ L st M, zz_ev tX12_hold 64 L st M = zo_if (fun x => decide (x = 0)) 71 67 (zz_ev tX12_hold) L st M) ∧
  (∀ L st M, zz_ev tX12_hold 67 L st M = zo_pushI 1 68 (zz_ev tX12_hold) L st M) ∧
  (∀ L st M, zz_ev tX12_hold 68 L st M = zo_goto 72 (zz_ev tX12_hold) L st M) ∧
  (∀ L st M, zz_ev tX12_hold 71 L st M = zo_pushI 0 72 (zz_ev tX12_hold) L st M) ∧
  (∀ (L : zzLc) (a1 a2 : Int32) (a0 : Int64) (r : List Value) (M : zzMd), zz_ev tX12_hold 72 L (.int a2 :: .int a1 :: .long a0 :: .ref 0 :: r) M = bif zz_cat8 r then zz_backN (zz_ev tX12_hold) 75 L r (fX12_with [.ref 0, .long a0, .int a1, .int a2] M) else none) ∧
  (∀ L st M, zz_ev tX12_hold 75 L st M = zo_aload 0 76 (zz_ev tX12_hold) L st M) ∧
  (∀ (L : zzLc) (r : List Value) (M : zzMd), zz_ev tX12_hold 76 L (.ref 0 :: r) M = zz_ev tX12_hold 79 L (.ref 8 :: r) M) ∧
  (∀ L st M, zz_ev tX12_hold 79 L st M = zo_iload 1 80 (zz_ev tX12_hold) L st M) ∧
  (∀ L st M, zz_ev tX12_hold 80 L st M = zo_lald zzSR 81 (zz_ev tX12_hold) L st M) ∧
  (∀ L st M, zz_ev tX12_hold 81 L st M = zo_pushI 0 82 (zz_ev tX12_hold) L st M) ∧
  (∀ (L : zzLc) (a0 a3 : Int32) (a1 a2 : Int64) (r : List Value) (M : zzMd), zz_ev tX12_hold 82 L (.int a3 :: .long a2 :: .long a1 :: .int a0 :: .ref 0 :: r) M = bif zz_cat8 r then zz_backN (zz_ev tX12_hold) 85 L r (fX12_puts [.ref 0, .int a0, .long a1, .long a2, .int a3] M) else none) ∧
  (∀ L st M, zz_ev tX12_hold 85 L st M = zo_if (fun x => decide (¬ x = 0)) 92 88 (zz_ev tX12_hold) L st M) ∧
  (∀ L st M, zz_ev tX12_hold 88 L st M = zo_pushI 1 89 (zz_ev tX12_hold) L st M) ∧
  (∀ L st M, zz_ev tX12_hold 89 L st M = zo_goto 93 (zz_ev tX12_hold) L st M) ∧
  (∀ L st M, zz_ev tX12_hold 92 L st M = zo_pushI 0 93 (zz_ev tX12_hold) L st M) ∧
  (∀ L st M, zz_ev tX12_hold 93 L st M = zo_istore 4 95 (zz_ev tX12_hold) L st M) ∧
  (∀ L st M, zz_ev tX12_hold 95 L st M = zo_aload 0 96 (zz_ev tX12_hold) L st M) ∧
  (∀ L st M, zz_ev tX12_hold 96 L st M = zo_iload 4 98 (zz_ev tX12_hold) L st M) ∧
  (∀ L st M, zz_ev tX12_hold 98 L st M = zo_if (fun x => decide (x = 0)) 105 101 (zz_ev tX12_hold) L st M) ∧
  (∀ L st M, zz_ev tX12_hold 101 L st M = zo_pushI 2 102 (zz_ev tX12_hold) L st M) ∧
  (∀ L st M, zz_ev tX12_hold 102 L st M = zo_goto 106 (zz_ev tX12_hold) L st M) ∧
  (∀ L st M, zz_ev tX12_hold 105 L st M = zo_pushI 0 106 (zz_ev tX12_hold) L st M) ∧
  (∀ (L : zzLc) (a0 : Int32) (r : List Value) (M : zzMd), zz_ev tX12_hold 106 L (.int a0 :: .ref 0 :: r) M = bif zz_cat8 r then zz_backN (zz_ev tX12_hold) 109 L r (fX12_goes [.ref 0, .int a0] M) else none) ∧
  (∀ L st M, zz_ev tX12_hold 109 L st M = zo_if (fun x => decide (x = 0)) 120 112 (zz_ev tX12_hold) L st M) ∧
  (∀ L st M, zz_ev tX12_hold 112 L st M = zo_iload 3 113 (zz_ev tX12_hold) L st M) ∧
  (∀ L st M, zz_ev tX12_hold 113 L st M = zo_if (fun x => decide (x = 0)) 120 116 (zz_ev tX12_hold) L st M) ∧
  (∀ L st M, zz_ev tX12_hold 116 L st M = zo_pushI 1 117 (zz_ev tX12_hold) L st M) ∧
  (∀ L st M, zz_ev tX12_hold 117 L st M = zo_goto 121 (zz_ev tX12_hold) L st M) ∧
  (∀ L st M, zz_ev tX12_hold 120 L st M = zo_pushI 0 121 (zz_ev tX12_hold) L st M) ∧
  (∀ L st M, zz_ev tX12_hold 121 L st M = zo_iret true (zz_ev tX12_hold) L st M) :=
  ⟨zz_1 rfl tl_X12_hold, zz_1 rfl tl_X12_hold, zz_1 rfl tl_X12_hold, fun L a0 r M => (zz_1 rfl tl_X12_hold _ _ _).trans rfl, zz_1 rfl tl_X12_hold, zz_1 rfl tl_X12_hold, zz_1 rfl tl_X12_hold, zz_1 rfl tl_X12_hold, fun L a0 r M => (zz_1 rfl tl_X12_hold _ _ _).trans rfl, zz_1 rfl tl_X12_hold, zz_1 rfl tl_X12_hold, zz_1 rfl tl_X12_hold, zz_1 rfl tl_X12_hold, zz_1 rfl tl_X12_hold, fun L r M => (zz_1 rfl tl_X12_hold _ _ _).trans rfl, zz_1 rfl tl_X12_hold, zz_1 rfl tl_X12_hold, zz_1 rfl tl_X12_hold, fun L a1 a0 r M => (zz_1 rfl tl_X12_hold _ _ _).trans rfl, zz_1 rfl tl_X12_hold, zz_1 rfl tl_X12_hold, zz_1 rfl tl_X12_hold, zz_1 rfl tl_X12_hold, zz_1 rfl tl_X12_hold, zz_1 rfl tl_X12_hold, zz_1 rfl tl_X12_hold, zz_1 rfl tl_X12_hold, fun L a0 r M => (zz_1 rfl tl_X12_hold _ _ _).trans rfl, zz_1 rfl tl_X12_hold, zz_1 rfl tl_X12_hold, zz_1 rfl tl_X12_hold, zz_1 rfl tl_X12_hold, zz_1 rfl tl_X12_hold, fun L r M => (zz_1 rfl tl_X12_hold _ _ _).trans rfl, zz_1 rfl tl_X12_hold, zz_1 rfl tl_X12_hold, zz_1 rfl tl_X12_hold, zz_1 rfl tl_X12_hold, zz_1 rfl tl_X12_hold, zz_1 rfl tl_X12_hold, zz_1 rfl tl_X12_hold, zz_1 rfl tl_X12_hold, fun L a1 a2 a0 r M => (zz_1 rfl tl_X12_hold _ _ _).trans rfl, zz_1 rfl tl_X12_hold, fun L r M => (zz_1 rfl tl_X12_hold _ _ _).trans rfl, zz_1 rfl tl_X12_hold, zz_1 rfl tl_X12_hold, zz_1 rfl tl_X12_hold, fun L a0 a3 a1 a2 r M => (zz_1 rfl tl_X12_hold _ _ _).trans rfl, zz_1 rfl tl_X12_hold, zz_1 rfl tl_X12_hold, zz_1 rfl tl_X12_hold, zz_1 rfl tl_X12_hold, zz_1 rfl tl_X12_hold, zz_1 rfl tl_X12_hold, zz_1 rfl tl_X12_hold, zz_1 rfl tl_X12_hold, zz_1 rfl tl_X12_hold, zz_1 rfl tl_X12_hold, zz_1 rfl tl_X12_hold, fun L a0 r M => (zz_1 rfl tl_X12_hold _ _ _).trans rfl, zz_1 rfl tl_X12_hold, zz_1 rfl tl_X12_hold, zz_1 rfl tl_X12_hold, zz_1 rfl tl_X12_hold, zz_1 rfl tl_X12_hold, zz_1 rfl tl_X12_hold, zz_1 rfl tl_X12_hold⟩
set_option maxRecDepth 100000 in
theorem s_X12_hold (a0 a1 : Int32) (v : Nat) (M : zzMd) : fX12_hold [.ref v, .int a0, .int a1] M = zz_ev tX12_hold 0 [some (.ref v), some (.int a0), some (.int a1), none, none] [] M := rfl
set_option maxRecDepth 100000 in
theorem e_X12_finish : (∀ L st M, zz_ev tX12_finish 0 L st M = zo_aload 0 1 (zz_ev tX12_finish) L st M) ∧
  (∀ L st M, zz_ev tX12_finish 1 L st M = zo_aload 0 2 (zz_ev tX12_finish) L st M) ∧
  (∀ L st M, zz_ev tX12_finish 2 L st M = zo_iload 1 3 (zz_ev tX12_finish) L st M) ∧
  (∀ (L : zzLc) (a0 : Int32) (r : List Value) (M : zzMd), zz_ev tX12_finish 3 L (.int a0 :: .ref 0 :: r) M = bif zz_cat8 r then zz_backN (zz_ev tX12_finish) 6 L r (fX12_isObject [.ref 0, .int a0] M) else none) ∧
  (∀ L st M, zz_ev tX12_finish 6 L st M = zo_if (fun x => decide (¬ x = 0)) 13 9 (zz_ev tX12_finish) L st M) ∧
  (∀ L st M, zz_ev tX12_finish 9 L st M = zo_pushI 1 10 (zz_ev tX12_finish) L st M) ∧
  (∀ L st M, zz_ev tX12_finish 10 L st M = zo_goto 28 (zz_ev tX12_finish) L st M) ∧
  (∀ L st M, zz_ev tX12_finish 13 L st M = zo_aload 0 14 (zz_ev tX12_finish) L st M) ∧
  (∀ (L : zzLc) (r : List Value) (M : zzMd), zz_ev tX12_finish 14 L (.ref 0 :: r) M = zz_ev tX12_finish 17 L (.ref 6 :: r) M) ∧
  (∀ L st M, zz_ev tX12_finish 17 L st M = zo_iload 1 18 (zz_ev tX12_finish) L st M) ∧
  (∀ L st M, zz_ev tX12_finish 18 L st M = zo_iald zzSR zzSTR 19 (zz_ev tX12_finish) L st M) ∧
  (∀ L st M, zz_ev tX12_finish 19 L st M = zo_pushI 2 20 (zz_ev tX12_finish) L st M) ∧
  (∀ L st M, zz_ev tX12_finish 20 L st M = zo_icmp (fun x y => decide (¬ x = y)) 27 23 (zz_ev tX12_finish) L st M) ∧
  (∀ L st M, zz_ev tX12_finish 23 L st M = zo_pushI 0 24 (zz_ev tX12_finish) L st M) ∧
  (∀ L st M, zz_ev tX12_finish 24 L st M = zo_goto 28 (zz_ev tX12_finish) L st M) ∧
  (∀ L st M, zz_ev tX12_finish 27 L st M = zo_pushI 2 28 (zz_ev tX12_finish) L st M) ∧
  (∀ (L : zzLc) (a0 : Int32) (r : List Value) (M : zzMd), zz_ev tX12_finish 28 L (.int a0 :: .ref 0 :: r) M = bif zz_cat8 r then zz_backN (zz_ev tX12_finish) 31 L r (fX12_goes [.ref 0, .int a0] M) else none) ∧
  (∀ L st M, zz_ev tX12_finish 31 L st M = zo_if (fun x => decide (¬ x = 0)) 36 34 (zz_ev tX12_finish) L st M) ∧
  (∀ L st M, zz_ev tX12_finish 34 L st M = zo_pushI 0 35 (zz_ev tX12_finish) L st M) ∧
  (∀ L st M, zz_ev tX12_finish 35 L st M = zo_iret false (zz_ev tX12_finish) L st M) ∧
  (∀ L st M, zz_ev tX12_finish 36 L st M = zo_aload 0 37 (zz_ev tX12_finish) L st M) ∧
  (∀ L st M, zz_ev tX12_finish 37 L st M = zo_iload 1 38 (zz_ev tX12_finish) L st M) ∧
  (∀ (L : zzLc) (a0 : Int32) (r : List Value) (M : zzMd), zz_ev tX12_finish 38 L (.int a0 :: .ref 0 :: r) M = bif zz_cat8 r then zz_backN (zz_ev tX12_finish) 41 L r (fX12_isGone [.ref 0, .int a0] M) else none) ∧
  (∀ L st M, zz_ev tX12_finish 41 L st M = zo_if (fun x => decide (¬ x = 0)) 96 44 (zz_ev tX12_finish) L st M) ∧
  (∀ L st M, zz_ev tX12_finish 44 L st M = zo_aload 0 45 (zz_ev tX12_finish) L st M) ∧
  (∀ L st M, zz_ev tX12_finish 45 L st M = zo_aload 0 46 (zz_ev tX12_finish) L st M) ∧
  (∀ (L : zzLc) (r : List Value) (M : zzMd), zz_ev tX12_finish 46 L (.ref 0 :: r) M = zz_ev tX12_finish 49 L (.ref 7 :: r) M) ∧
  (∀ L st M, zz_ev tX12_finish 49 L st M = zo_iload 1 50 (zz_ev tX12_finish) L st M) ∧
  (∀ L st M, zz_ev tX12_finish 50 L st M = zo_lald zzSR 51 (zz_ev tX12_finish) L st M) ∧
  (∀ L st M, zz_ev tX12_finish 51 L st M = zo_pushI 16 53 (zz_ev tX12_finish) L st M) ∧
  (∀ (L : zzLc) (a1 : Int32) (a0 : Int64) (r : List Value) (M : zzMd), zz_ev tX12_finish 53 L (.int a1 :: .long a0 :: .ref 0 :: r) M = bif zz_cat8 r then zz_backN (zz_ev tX12_finish) 56 L r (fX12_get [.ref 0, .long a0, .int a1] M) else none) ∧
  (∀ L st M, zz_ev tX12_finish 56 L st M = zo_pushI 1 57 (zz_ev tX12_finish) L st M) ∧
  (∀ L st M, zz_ev tX12_finish 57 L st M = zo_icmp (fun x y => decide (¬ x = y)) 96 60 (zz_ev tX12_finish) L st M) ∧
  (∀ L st M, zz_ev tX12_finish 60 L st M = zo_aload 0 61 (zz_ev tX12_finish) L st M) ∧
  (∀ L st M, zz_ev tX12_finish 61 L st M = zo_iload 1 62 (zz_ev tX12_finish) L st M) ∧
  (∀ L st M, zz_ev tX12_finish 62 L st M = zo_aload 0 63 (zz_ev tX12_finish) L st M) ∧
  (∀ L st M, zz_ev tX12_finish 63 L st M = zo_aload 0 64 (zz_ev tX12_finish) L st M) ∧
  (∀ (L : zzLc) (r : List Value) (M : zzMd), zz_ev tX12_finish 64 L (.ref 0 :: r) M = zz_ev tX12_finish 67 L (.ref 7 :: r) M) ∧
  (∀ L st M, zz_ev tX12_finish 67 L st M = zo_iload 1 68 (zz_ev tX12_finish) L st M) ∧
  (∀ L st M, zz_ev tX12_finish 68 L st M = zo_lald zzSR 69 (zz_ev tX12_finish) L st M) ∧
  (∀ L st M, zz_ev tX12_finish 69 L st M = zo_pushI 16 71 (zz_ev tX12_finish) L st M) ∧
  (∀ L st M, zz_ev tX12_finish 71 L st M = zo_iload 2 72 (zz_ev tX12_finish) L st M) ∧
  (∀ L st M, zz_ev tX12_finish 72 L st M = zo_if (fun x => decide (x = 0)) 79 75 (zz_ev tX12_finish) L st M) ∧
  (∀ L st M, zz_ev tX12_finish 75 L st M = zo_pushI 2 76 (zz_ev tX12_finish) L st M) ∧
  (∀ L st M, zz_ev tX12_finish 76 L st M = zo_goto 80 (zz_ev tX12_finish) L st M) ∧
  (∀ L st M, zz_ev tX12_finish 79 L st M = zo_pushI 3 80 (zz_ev tX12_finish) L st M) ∧
  (∀ (L : zzLc) (a1 a2 : Int32) (a0 : Int64) (r : List Value) (M : zzMd), zz_ev tX12_finish 80 L (.int a2 :: .int a1 :: .long a0 :: .ref 0 :: r) M = bif zz_cat8 r then zz_backN (zz_ev tX12_finish) 83 L r (fX12_with [.ref 0, .long a0, .int a1, .int a2] M) else none) ∧
  (∀ L st M, zz_ev tX12_finish 83 L st M = zo_aload 0 84 (zz_ev tX12_finish) L st M) ∧
  (∀ (L : zzLc) (r : List Value) (M : zzMd), zz_ev tX12_finish 84 L (.ref 0 :: r) M = zz_ev tX12_finish 87 L (.ref 8 :: r) M) ∧
  (∀ L st M, zz_ev tX12_finish 87 L st M = zo_iload 1 88 (zz_ev tX12_finish) L st M) ∧
  (∀ L st M, zz_ev tX12_finish 88 L st M = zo_lald zzSR 89 (zz_ev tX12_finish) L st M) ∧
  (∀ L st M, zz_ev tX12_finish 89 L st M = zo_pushI 0 90 (zz_ev tX12_finish) L st M) ∧
  (∀ (L : zzLc) (a0 a3 : Int32) (a1 a2 : Int64) (r : List Value) (M : zzMd), zz_ev tX12_finish 90 L (.int a3 :: .long a2 :: .long a1 :: .int a0 :: .ref 0 :: r) M = bif zz_cat8 r then zz_backN (zz_ev tX12_finish) 93 L r (fX12_puts [.ref 0, .int a0, .long a1, .long a2, .int a3] M) else none) ∧
  (∀ L st M, zz_ev tX12_finish 93 L st M = zo_if (fun x => decide (¬ x = 0)) 100 96 (zz_ev tX12_finish) L st M) ∧
  (∀ L st M, zz_ev tX12_finish 96 L st M = zo_pushI 1 97 (zz_ev tX12_finish) L st M) ∧
  (∀ L st M, zz_ev tX12_finish 97 L st M = zo_goto 101 (zz_ev tX12_finish) L st M) ∧
  (∀ L st M, zz_ev tX12_finish 100 L st M = zo_pushI 0 101 (zz_ev tX12_finish) L st M) ∧
  (∀ L st M, zz_ev tX12_finish 101 L st M = zo_istore 3 102 (zz_ev tX12_finish) L st M) ∧
  (∀ L st M, zz_ev tX12_finish 102 L st M = zo_aload 0 103 (zz_ev tX12_finish) L st M) ∧
  (∀ L st M, zz_ev tX12_finish 103 L st M = zo_iload 3 104 (zz_ev tX12_finish) L st M) ∧
  (∀ L st M, zz_ev tX12_finish 104 L st M = zo_if (fun x => decide (x = 0)) 111 107 (zz_ev tX12_finish) L st M) ∧
  (∀ L st M, zz_ev tX12_finish 107 L st M = zo_pushI 3 108 (zz_ev tX12_finish) L st M) ∧
  (∀ L st M, zz_ev tX12_finish 108 L st M = zo_goto 112 (zz_ev tX12_finish) L st M) ∧
  (∀ L st M, zz_ev tX12_finish 111 L st M = zo_pushI 0 112 (zz_ev tX12_finish) L st M) ∧
  (∀ (L : zzLc) (a0 : Int32) (r : List Value) (M : zzMd), zz_ev tX12_finish 112 L (.int a0 :: .ref 0 :: r) M = bif zz_cat8 r then zz_backN (zz_ev tX12_finish) 115 L r (fX12_goes [.ref 0, .int a0] M) else none) ∧
  (∀ L st M, zz_ev tX12_finish 115 L st M = zo_if (fun x => decide (x = 0)) 127 118 (zz_ev tX12_finish) L st M) ∧
  (∀ L st M, zz_ev tX12_finish 118 L st M = zo_aload 0 119 (zz_ev tX12_finish) L st M) ∧
  (∀ (L : zzLc) (r : List Value) (M : zzMd), zz_ev tX12_finish 119 L (.ref 0 :: r) M = zz_ev tX12_finish 122 L (.ref 9 :: r) M) ∧
  (∀ L st M, zz_ev tX12_finish 122 L st M = zo_iload 1 123 (zz_ev tX12_finish) L st M) ∧
  (∀ L st M, zz_ev tX12_finish 123 L st M = zo_iald zzSR zzSTR 124 (zz_ev tX12_finish) L st M) ∧
  (∀ L st M, zz_ev tX12_finish 124 L st M = zo_goto 128 (zz_ev tX12_finish) L st M) ∧
  (∀ L st M, zz_ev tX12_finish 127 L st M = zo_pushI 0 128 (zz_ev tX12_finish) L st M) ∧
  (∀ L st M, zz_ev tX12_finish 128 L st M = zo_iret false (zz_ev tX12_finish) L st M) :=
  ⟨zz_1 rfl tl_X12_finish, zz_1 rfl tl_X12_finish, zz_1 rfl tl_X12_finish, fun L a0 r M => (zz_1 rfl tl_X12_finish _ _ _).trans rfl, zz_1 rfl tl_X12_finish, zz_1 rfl tl_X12_finish, zz_1 rfl tl_X12_finish, zz_1 rfl tl_X12_finish, fun L r M => (zz_1 rfl tl_X12_finish _ _ _).trans rfl, zz_1 rfl tl_X12_finish, zz_1 rfl tl_X12_finish, zz_1 rfl tl_X12_finish, zz_1 rfl tl_X12_finish, zz_1 rfl tl_X12_finish, zz_1 rfl tl_X12_finish, zz_1 rfl tl_X12_finish, fun L a0 r M => (zz_1 rfl tl_X12_finish _ _ _).trans rfl, zz_1 rfl tl_X12_finish, zz_1 rfl tl_X12_finish, zz_1 rfl tl_X12_finish, zz_1 rfl tl_X12_finish, zz_1 rfl tl_X12_finish, fun L a0 r M => (zz_1 rfl tl_X12_finish _ _ _).trans rfl, zz_1 rfl tl_X12_finish, zz_1 rfl tl_X12_finish, zz_1 rfl tl_X12_finish, fun L r M => (zz_1 rfl tl_X12_finish _ _ _).trans rfl, zz_1 rfl tl_X12_finish, zz_1 rfl tl_X12_finish, zz_1 rfl tl_X12_finish, fun L a1 a0 r M => (zz_1 rfl tl_X12_finish _ _ _).trans rfl, zz_1 rfl tl_X12_finish, zz_1 rfl tl_X12_finish, zz_1 rfl tl_X12_finish, zz_1 rfl tl_X12_finish, zz_1 rfl tl_X12_finish, zz_1 rfl tl_X12_finish, fun L r M => (zz_1 rfl tl_X12_finish _ _ _).trans rfl, zz_1 rfl tl_X12_finish, zz_1 rfl tl_X12_finish, zz_1 rfl tl_X12_finish, zz_1 rfl tl_X12_finish, zz_1 rfl tl_X12_finish, zz_1 rfl tl_X12_finish, zz_1 rfl tl_X12_finish, zz_1 rfl tl_X12_finish, fun L a1 a2 a0 r M => (zz_1 rfl tl_X12_finish _ _ _).trans rfl, zz_1 rfl tl_X12_finish, fun L r M => (zz_1 rfl tl_X12_finish _ _ _).trans rfl, zz_1 rfl tl_X12_finish, zz_1 rfl tl_X12_finish, zz_1 rfl tl_X12_finish, fun L a0 a3 a1 a2 r M => (zz_1 rfl tl_X12_finish _ _ _).trans rfl, zz_1 rfl tl_X12_finish, zz_1 rfl tl_X12_finish, zz_1 rfl tl_X12_finish, zz_1 rfl tl_X12_finish, zz_1 rfl tl_X12_finish, zz_1 rfl tl_X12_finish, zz_1 rfl tl_X12_finish, zz_1 rfl tl_X12_finish, zz_1 rfl tl_X12_finish, zz_1 rfl tl_X12_finish, zz_1 rfl tl_X12_finish, fun L a0 r M => (zz_1 rfl tl_X12_finish _ _ _).trans rfl, zz_1 rfl tl_X12_finish, zz_1 rfl tl_X12_finish, fun L r M => (zz_1 rfl tl_X12_finish _ _ _).trans rfl, zz_1 rfl tl_X12_finish, zz_1 rfl tl_X12_finish, zz_1 rfl tl_X12_finish, zz_1 rfl tl_X12_finish, zz_1 rfl tl_X12_finish⟩
set_option maxRecDepth 100000 in
theorem s_X12_finish (a0 a1 : Int32) (v : Nat) (M : zzMd) : fX12_finish [.ref v, .int a0, .int a1] M = zz_ev tX12_finish 0 [some (.ref v), some (.int a0), some (.int a1), none] [] M := rfl
set_option maxRecDepth 100000 in
theorem e_X12_rule : (∀ L st M, zz_ev tX12_rule 0 L st M = zo_iload 1 1 (zz_ev tX12_rule) L st M) ∧
  (∀ (L : zzLc) (a0 : Int32) (r : List Value) (M : zzMd), zz_ev tX12_rule 1 L (.int a0 :: r) M = bif zz_cat8 r then zz_backN (zz_ev tX12_rule) 4 L r (fX12_isKind [.int a0] M) else none) ∧
  (∀ L st M, zz_ev tX12_rule 4 L st M = zo_if (fun x => decide (x = 0)) 47 7 (zz_ev tX12_rule) L st M) ∧
  (∀ L st M, zz_ev tX12_rule 7 L st M = zo_aload 0 8 (zz_ev tX12_rule) L st M) ∧
  (∀ L st M, zz_ev tX12_rule 8 L st M = zo_iload 1 9 (zz_ev tX12_rule) L st M) ∧
  (∀ L st M, zz_ev tX12_rule 9 L st M = zo_iload 2 10 (zz_ev tX12_rule) L st M) ∧
  (∀ (L : zzLc) (a0 a1 : Int32) (r : List Value) (M : zzMd), zz_ev tX12_rule 10 L (.int a1 :: .int a0 :: .ref 0 :: r) M = bif zz_cat8 r then zz_backN (zz_ev tX12_rule) 13 L r (fX12_hasField [.ref 0, .int a0, .int a1] M) else none) ∧
  (∀ L st M, zz_ev tX12_rule 13 L st M = zo_if (fun x => decide (x = 0)) 47 16 (zz_ev tX12_rule) L st M) ∧
  (∀ L st M, zz_ev tX12_rule 16 L st M = zo_iload 3 17 (zz_ev tX12_rule) L st M) ∧
  (∀ L st M, zz_ev tX12_rule 17 L st M = zo_iload 4 19 (zz_ev tX12_rule) L st M) ∧
  (∀ L st M, zz_ev tX12_rule 19 L st M = zo_icmp (fun x y => decide (y < x)) 47 22 (zz_ev tX12_rule) L st M) ∧
  (∀ L st M, zz_ev tX12_rule 22 L st M = zo_aload 0 23 (zz_ev tX12_rule) L st M) ∧
  (∀ L st M, zz_ev tX12_rule 23 L st M = zo_iload 1 24 (zz_ev tX12_rule) L st M) ∧
  (∀ L st M, zz_ev tX12_rule 24 L st M = zo_iload 5 26 (zz_ev tX12_rule) L st M) ∧
  (∀ (L : zzLc) (a0 a1 : Int32) (r : List Value) (M : zzMd), zz_ev tX12_rule 26 L (.int a1 :: .int a0 :: .ref 0 :: r) M = bif zz_cat8 r then zz_backN (zz_ev tX12_rule) 29 L r (fX12_hasField [.ref 0, .int a0, .int a1] M) else none) ∧
  (∀ L st M, zz_ev tX12_rule 29 L st M = zo_if (fun x => decide (x = 0)) 47 32 (zz_ev tX12_rule) L st M) ∧
  (∀ L st M, zz_ev tX12_rule 32 L st M = zo_aload 0 33 (zz_ev tX12_rule) L st M) ∧
  (∀ L st M, zz_ev tX12_rule 33 L st M = zo_iload 5 35 (zz_ev tX12_rule) L st M) ∧
  (∀ L st M, zz_ev tX12_rule 35 L st M = zo_iload 6 37 (zz_ev tX12_rule) L st M) ∧
  (∀ (L : zzLc) (a0 a1 : Int32) (r : List Value) (M : zzMd), zz_ev tX12_rule 37 L (.int a1 :: .int a0 :: .ref 0 :: r) M = bif zz_cat8 r then zz_backN (zz_ev tX12_rule) 40 L r (fX12_isValue [.ref 0, .int a0, .int a1] M) else none) ∧
  (∀ L st M, zz_ev tX12_rule 40 L st M = zo_if (fun x => decide (x = 0)) 47 43 (zz_ev tX12_rule) L st M) ∧
  (∀ L st M, zz_ev tX12_rule 43 L st M = zo_pushI 1 44 (zz_ev tX12_rule) L st M) ∧
  (∀ L st M, zz_ev tX12_rule 44 L st M = zo_goto 48 (zz_ev tX12_rule) L st M) ∧
  (∀ L st M, zz_ev tX12_rule 47 L st M = zo_pushI 0 48 (zz_ev tX12_rule) L st M) ∧
  (∀ L st M, zz_ev tX12_rule 48 L st M = zo_istore 7 50 (zz_ev tX12_rule) L st M) ∧
  (∀ L st M, zz_ev tX12_rule 50 L st M = zo_aload 0 51 (zz_ev tX12_rule) L st M) ∧
  (∀ L st M, zz_ev tX12_rule 51 L st M = zo_iload 7 53 (zz_ev tX12_rule) L st M) ∧
  (∀ L st M, zz_ev tX12_rule 53 L st M = zo_if (fun x => decide (¬ x = 0)) 60 56 (zz_ev tX12_rule) L st M) ∧
  (∀ L st M, zz_ev tX12_rule 56 L st M = zo_pushI 1 57 (zz_ev tX12_rule) L st M) ∧
  (∀ L st M, zz_ev tX12_rule 57 L st M = zo_goto 74 (zz_ev tX12_rule) L st M) ∧
  (∀ L st M, zz_ev tX12_rule 60 L st M = zo_aload 0 61 (zz_ev tX12_rule) L st M) ∧
  (∀ (L : zzLc) (r : List Value) (M : zzMd), zz_ev tX12_rule 61 L (.ref 0 :: r) M = zz_ev tX12_rule 64 L (.int (M.1 0 19) :: r) M) ∧
  (∀ L st M, zz_ev tX12_rule 64 L st M = zo_pushI 8 66 (zz_ev tX12_rule) L st M) ∧
  (∀ L st M, zz_ev tX12_rule 66 L st M = zo_icmp (fun x y => decide (¬ x = y)) 73 69 (zz_ev tX12_rule) L st M) ∧
  (∀ L st M, zz_ev tX12_rule 69 L st M = zo_pushI 2 70 (zz_ev tX12_rule) L st M) ∧
  (∀ L st M, zz_ev tX12_rule 70 L st M = zo_goto 74 (zz_ev tX12_rule) L st M) ∧
  (∀ L st M, zz_ev tX12_rule 73 L st M = zo_pushI 0 74 (zz_ev tX12_rule) L st M) ∧
  (∀ (L : zzLc) (a0 : Int32) (r : List Value) (M : zzMd), zz_ev tX12_rule 74 L (.int a0 :: .ref 0 :: r) M = bif zz_cat8 r then zz_backN (zz_ev tX12_rule) 77 L r (fX12_goes [.ref 0, .int a0] M) else none) ∧
  (∀ L st M, zz_ev tX12_rule 77 L st M = zo_if (fun x => decide (¬ x = 0)) 82 80 (zz_ev tX12_rule) L st M) ∧
  (∀ L st M, zz_ev tX12_rule 80 L st M = zo_pushI 0 81 (zz_ev tX12_rule) L st M) ∧
  (∀ L st M, zz_ev tX12_rule 81 L st M = zo_iret false (zz_ev tX12_rule) L st M) ∧
  (∀ L st M, zz_ev tX12_rule 82 L st M = zo_aload 0 83 (zz_ev tX12_rule) L st M) ∧
  (∀ (L : zzLc) (r : List Value) (M : zzMd), zz_ev tX12_rule 83 L (.ref 0 :: r) M = zz_ev tX12_rule 86 L (.ref 17 :: r) M) ∧
  (∀ L st M, zz_ev tX12_rule 86 L st M = zo_aload 0 87 (zz_ev tX12_rule) L st M) ∧
  (∀ (L : zzLc) (r : List Value) (M : zzMd), zz_ev tX12_rule 87 L (.ref 0 :: r) M = zz_ev tX12_rule 90 L (.int (M.1 0 19) :: r) M) ∧
  (∀ L st M, zz_ev tX12_rule 90 L st M = zo_iload 1 91 (zz_ev tX12_rule) L st M) ∧
  (∀ L st M, zz_ev tX12_rule 91 L st M = zo_iast zzSR 92 (zz_ev tX12_rule) L st M) ∧
  (∀ L st M, zz_ev tX12_rule 92 L st M = zo_aload 0 93 (zz_ev tX12_rule) L st M) ∧
  (∀ (L : zzLc) (r : List Value) (M : zzMd), zz_ev tX12_rule 93 L (.ref 0 :: r) M = zz_ev tX12_rule 96 L (.ref 18 :: r) M) ∧
  (∀ L st M, zz_ev tX12_rule 96 L st M = zo_aload 0 97 (zz_ev tX12_rule) L st M) ∧
  (∀ (L : zzLc) (r : List Value) (M : zzMd), zz_ev tX12_rule 97 L (.ref 0 :: r) M = zz_ev tX12_rule 100 L (.int (M.1 0 19) :: r) M) ∧
  (∀ L st M, zz_ev tX12_rule 100 L st M = zo_iload 2 101 (zz_ev tX12_rule) L st M) ∧
  (∀ L st M, zz_ev tX12_rule 101 L st M = zo_iast zzSR 102 (zz_ev tX12_rule) L st M) ∧
  (∀ L st M, zz_ev tX12_rule 102 L st M = zo_aload 0 103 (zz_ev tX12_rule) L st M) ∧
  (∀ (L : zzLc) (r : List Value) (M : zzMd), zz_ev tX12_rule 103 L (.ref 0 :: r) M = zz_ev tX12_rule 106 L (.ref 19 :: r) M) ∧
  (∀ L st M, zz_ev tX12_rule 106 L st M = zo_aload 0 107 (zz_ev tX12_rule) L st M) ∧
  (∀ (L : zzLc) (r : List Value) (M : zzMd), zz_ev tX12_rule 107 L (.ref 0 :: r) M = zz_ev tX12_rule 110 L (.int (M.1 0 19) :: r) M) ∧
  (∀ L st M, zz_ev tX12_rule 110 L st M = zo_iload 3 111 (zz_ev tX12_rule) L st M) ∧
  (∀ L st M, zz_ev tX12_rule 111 L st M = zo_iast zzSR 112 (zz_ev tX12_rule) L st M) ∧
  (∀ L st M, zz_ev tX12_rule 112 L st M = zo_aload 0 113 (zz_ev tX12_rule) L st M) ∧
  (∀ (L : zzLc) (r : List Value) (M : zzMd), zz_ev tX12_rule 113 L (.ref 0 :: r) M = zz_ev tX12_rule 116 L (.ref 20 :: r) M) ∧
  (∀ L st M, zz_ev tX12_rule 116 L st M = zo_aload 0 117 (zz_ev tX12_rule) L st M) ∧
  (∀ (L : zzLc) (r : List Value) (M : zzMd), zz_ev tX12_rule 117 L (.ref 0 :: r) M = zz_ev tX12_rule 120 L (.int (M.1 0 19) :: r) M) ∧
  (∀ L st M, zz_ev tX12_rule 120 L st M = zo_iload 4 122 (zz_ev tX12_rule) L st M) ∧
  (∀ L st M, zz_ev tX12_rule 122 L st M = zo_iast zzSR 123 (zz_ev tX12_rule) L st M) ∧
  (∀ L st M, zz_ev tX12_rule 123 L st M = zo_aload 0 124 (zz_ev tX12_rule) L st M) ∧
  (∀ (L : zzLc) (r : List Value) (M : zzMd), zz_ev tX12_rule 124 L (.ref 0 :: r) M = zz_ev tX12_rule 127 L (.ref 21 :: r) M) ∧
  (∀ L st M, zz_ev tX12_rule 127 L st M = zo_aload 0 128 (zz_ev tX12_rule) L st M) ∧
  (∀ (L : zzLc) (r : List Value) (M : zzMd), zz_ev tX12_rule 128 L (.ref 0 :: r) M = zz_ev tX12_rule 131 L (.int (M.1 0 19) :: r) M) ∧
  (∀ L st M, zz_ev tX12_rule 131 L st M = zo_iload 5 133 (zz_ev tX12_rule) L st M) ∧
  (∀ L st M, zz_ev tX12_rule 133 L st M = zo_iast zzSR 134 (zz_ev tX12_rule) L st M) ∧
  (∀ L st M, zz_ev tX12_rule 134 L st M = zo_aload 0 135 (zz_ev tX12_rule) L st M) ∧
  (∀ (L : zzLc) (r : List Value) (M : zzMd), zz_ev tX12_rule 135 L (.ref 0 :: r) M = zz_ev tX12_rule 138 L (.ref 22 :: r) M) ∧
  (∀ L st M, zz_ev tX12_rule 138 L st M = zo_aload 0 139 (zz_ev tX12_rule) L st M) ∧
  (∀ (L : zzLc) (r : List Value) (M : zzMd), zz_ev tX12_rule 139 L (.ref 0 :: r) M = zz_ev tX12_rule 142 L (.int (M.1 0 19) :: r) M) ∧
  (∀ L st M, zz_ev tX12_rule 142 L st M = zo_iload 6 144 (zz_ev tX12_rule) L st M) ∧
  (∀ L st M, zz_ev tX12_rule 144 L st M = zo_iast zzSR 145 (zz_ev tX12_rule) L st M) ∧
  (∀ L st M, zz_ev tX12_rule 145 L st M = zo_aload 0 146 (zz_ev tX12_rule) L st M) ∧
  (∀ L st M, zz_ev tX12_rule 146 L st M = zo_dup 147 (zz_ev tX12_rule) L st M) ∧
  (∀ (L : zzLc) (r : List Value) (M : zzMd), zz_ev tX12_rule 147 L (.ref 0 :: r) M = zz_ev tX12_rule 150 L (.int (M.1 0 19) :: r) M) ∧
  (∀ L st M, zz_ev tX12_rule 150 L st M = zo_pushI 1 151 (zz_ev tX12_rule) L st M) ∧
  (∀ L st M, zz_ev tX12_rule 151 L st M = zo_ii (fun x y => x + y) 152 (zz_ev tX12_rule) L st M) ∧
  (∀ (L : zzLc) (x : Int32) (r : List Value) (M : zzMd), zz_ev tX12_rule 152 L (.int x :: .ref 0 :: r) M = zz_ev tX12_rule 155 L r (zz_sI M 0 19 x)) ∧
  (∀ L st M, zz_ev tX12_rule 155 L st M = zo_aload 0 156 (zz_ev tX12_rule) L st M) ∧
  (∀ (L : zzLc) (r : List Value) (M : zzMd), zz_ev tX12_rule 156 L (.ref 0 :: r) M = zz_ev tX12_rule 159 L (.int (M.1 0 19) :: r) M) ∧
  (∀ L st M, zz_ev tX12_rule 159 L st M = zo_iret false (zz_ev tX12_rule) L st M) :=
  ⟨zz_1 rfl tl_X12_rule, fun L a0 r M => (zz_1 rfl tl_X12_rule _ _ _).trans rfl, zz_1 rfl tl_X12_rule, zz_1 rfl tl_X12_rule, zz_1 rfl tl_X12_rule, zz_1 rfl tl_X12_rule, fun L a0 a1 r M => (zz_1 rfl tl_X12_rule _ _ _).trans rfl, zz_1 rfl tl_X12_rule, zz_1 rfl tl_X12_rule, zz_1 rfl tl_X12_rule, zz_1 rfl tl_X12_rule, zz_1 rfl tl_X12_rule, zz_1 rfl tl_X12_rule, zz_1 rfl tl_X12_rule, fun L a0 a1 r M => (zz_1 rfl tl_X12_rule _ _ _).trans rfl, zz_1 rfl tl_X12_rule, zz_1 rfl tl_X12_rule, zz_1 rfl tl_X12_rule, zz_1 rfl tl_X12_rule, fun L a0 a1 r M => (zz_1 rfl tl_X12_rule _ _ _).trans rfl, zz_1 rfl tl_X12_rule, zz_1 rfl tl_X12_rule, zz_1 rfl tl_X12_rule, zz_1 rfl tl_X12_rule, zz_1 rfl tl_X12_rule, zz_1 rfl tl_X12_rule, zz_1 rfl tl_X12_rule, zz_1 rfl tl_X12_rule, zz_1 rfl tl_X12_rule, zz_1 rfl tl_X12_rule, zz_1 rfl tl_X12_rule, fun L r M => (zz_1 rfl tl_X12_rule _ _ _).trans rfl, zz_1 rfl tl_X12_rule, zz_1 rfl tl_X12_rule, zz_1 rfl tl_X12_rule, zz_1 rfl tl_X12_rule, zz_1 rfl tl_X12_rule, fun L a0 r M => (zz_1 rfl tl_X12_rule _ _ _).trans rfl, zz_1 rfl tl_X12_rule, zz_1 rfl tl_X12_rule, zz_1 rfl tl_X12_rule, zz_1 rfl tl_X12_rule, fun L r M => (zz_1 rfl tl_X12_rule _ _ _).trans rfl, zz_1 rfl tl_X12_rule, fun L r M => (zz_1 rfl tl_X12_rule _ _ _).trans rfl, zz_1 rfl tl_X12_rule, zz_1 rfl tl_X12_rule, zz_1 rfl tl_X12_rule, fun L r M => (zz_1 rfl tl_X12_rule _ _ _).trans rfl, zz_1 rfl tl_X12_rule, fun L r M => (zz_1 rfl tl_X12_rule _ _ _).trans rfl, zz_1 rfl tl_X12_rule, zz_1 rfl tl_X12_rule, zz_1 rfl tl_X12_rule, fun L r M => (zz_1 rfl tl_X12_rule _ _ _).trans rfl, zz_1 rfl tl_X12_rule, fun L r M => (zz_1 rfl tl_X12_rule _ _ _).trans rfl, zz_1 rfl tl_X12_rule, zz_1 rfl tl_X12_rule, zz_1 rfl tl_X12_rule, fun L r M => (zz_1 rfl tl_X12_rule _ _ _).trans rfl, zz_1 rfl tl_X12_rule, fun L r M => (zz_1 rfl tl_X12_rule _ _ _).trans rfl, zz_1 rfl tl_X12_rule, zz_1 rfl tl_X12_rule, zz_1 rfl tl_X12_rule, fun L r M => (zz_1 rfl tl_X12_rule _ _ _).trans rfl, zz_1 rfl tl_X12_rule, fun L r M => (zz_1 rfl tl_X12_rule _ _ _).trans rfl, zz_1 rfl tl_X12_rule, zz_1 rfl tl_X12_rule, zz_1 rfl tl_X12_rule, fun L r M => (zz_1 rfl tl_X12_rule _ _ _).trans rfl, zz_1 rfl tl_X12_rule, fun L r M => (zz_1 rfl tl_X12_rule _ _ _).trans rfl, zz_1 rfl tl_X12_rule, zz_1 rfl tl_X12_rule, zz_1 rfl tl_X12_rule, zz_1 rfl tl_X12_rule, fun L r M => (zz_1 rfl tl_X12_rule _ _ _).trans rfl, zz_1 rfl tl_X12_rule, zz_1 rfl tl_X12_rule, fun L x r M => (zz_1 rfl tl_X12_rule _ _ _).trans rfl, zz_1 rfl tl_X12_rule, fun L r M => (zz_1 rfl tl_X12_rule _ _ _).trans rfl, zz_1 rfl tl_X12_rule⟩
set_option maxRecDepth 100000 in
theorem s_X12_rule (a0 a1 a2 a3 a4 a5 : Int32) (v : Nat) (M : zzMd) : fX12_rule [.ref v, .int a0, .int a1, .int a2, .int a3, .int a4, .int a5] M = zz_ev tX12_rule 0 [some (.ref v), some (.int a0), some (.int a1), some (.int a2), some (.int a3), some (.int a4), some (.int a5), none] [] M := rfl
set_option maxRecDepth 100000 in
theorem e_X12_check : (∀ L st M, zz_ev tX12_check 0 L st M = zo_aload 0 1 (zz_ev tX12_check) L st M) ∧
  (∀ L st M, zz_ev tX12_check 1 L st M = zo_iload 1 2 (zz_ev tX12_check) L st M) ∧
  (∀ (L : zzLc) (a0 : Int32) (r : List Value) (M : zzMd), zz_ev tX12_check 2 L (.int a0 :: r) M = bif zz_cat8 r then zz_backN (zz_ev tX12_check) 5 L r (fX12_isKind [.int a0] M) else none) ∧
  (∀ L st M, zz_ev tX12_check 5 L st M = zo_if (fun x => decide (x = 0)) 17 8 (zz_ev tX12_check) L st M) ∧
  (∀ L st M, zz_ev tX12_check 8 L st M = zo_aload 0 9 (zz_ev tX12_check) L st M) ∧
  (∀ L st M, zz_ev tX12_check 9 L st M = zo_iload 1 10 (zz_ev tX12_check) L st M) ∧
  (∀ L st M, zz_ev tX12_check 10 L st M = zo_iload 2 11 (zz_ev tX12_check) L st M) ∧
  (∀ (L : zzLc) (a0 a1 : Int32) (r : List Value) (M : zzMd), zz_ev tX12_check 11 L (.int a1 :: .int a0 :: .ref 0 :: r) M = bif zz_cat8 r then zz_backN (zz_ev tX12_check) 14 L r (fX12_hasField [.ref 0, .int a0, .int a1] M) else none) ∧
  (∀ L st M, zz_ev tX12_check 14 L st M = zo_if (fun x => decide (¬ x = 0)) 21 17 (zz_ev tX12_check) L st M) ∧
  (∀ L st M, zz_ev tX12_check 17 L st M = zo_pushI 1 18 (zz_ev tX12_check) L st M) ∧
  (∀ L st M, zz_ev tX12_check 18 L st M = zo_goto 35 (zz_ev tX12_check) L st M) ∧
  (∀ L st M, zz_ev tX12_check 21 L st M = zo_aload 0 22 (zz_ev tX12_check) L st M) ∧
  (∀ (L : zzLc) (r : List Value) (M : zzMd), zz_ev tX12_check 22 L (.ref 0 :: r) M = zz_ev tX12_check 25 L (.int (M.1 0 26) :: r) M) ∧
  (∀ L st M, zz_ev tX12_check 25 L st M = zo_pushI 8 27 (zz_ev tX12_check) L st M) ∧
  (∀ L st M, zz_ev tX12_check 27 L st M = zo_icmp (fun x y => decide (¬ x = y)) 34 30 (zz_ev tX12_check) L st M) ∧
  (∀ L st M, zz_ev tX12_check 30 L st M = zo_pushI 2 31 (zz_ev tX12_check) L st M) ∧
  (∀ L st M, zz_ev tX12_check 31 L st M = zo_goto 35 (zz_ev tX12_check) L st M) ∧
  (∀ L st M, zz_ev tX12_check 34 L st M = zo_pushI 0 35 (zz_ev tX12_check) L st M) ∧
  (∀ (L : zzLc) (a0 : Int32) (r : List Value) (M : zzMd), zz_ev tX12_check 35 L (.int a0 :: .ref 0 :: r) M = bif zz_cat8 r then zz_backN (zz_ev tX12_check) 38 L r (fX12_goes [.ref 0, .int a0] M) else none) ∧
  (∀ L st M, zz_ev tX12_check 38 L st M = zo_if (fun x => decide (¬ x = 0)) 43 41 (zz_ev tX12_check) L st M) ∧
  (∀ L st M, zz_ev tX12_check 41 L st M = zo_pushI 0 42 (zz_ev tX12_check) L st M) ∧
  (∀ L st M, zz_ev tX12_check 42 L st M = zo_iret false (zz_ev tX12_check) L st M) ∧
  (∀ L st M, zz_ev tX12_check 43 L st M = zo_aload 0 44 (zz_ev tX12_check) L st M) ∧
  (∀ (L : zzLc) (r : List Value) (M : zzMd), zz_ev tX12_check 44 L (.ref 0 :: r) M = zz_ev tX12_check 47 L (.ref 23 :: r) M) ∧
  (∀ L st M, zz_ev tX12_check 47 L st M = zo_aload 0 48 (zz_ev tX12_check) L st M) ∧
  (∀ (L : zzLc) (r : List Value) (M : zzMd), zz_ev tX12_check 48 L (.ref 0 :: r) M = zz_ev tX12_check 51 L (.int (M.1 0 26) :: r) M) ∧
  (∀ L st M, zz_ev tX12_check 51 L st M = zo_iload 1 52 (zz_ev tX12_check) L st M) ∧
  (∀ L st M, zz_ev tX12_check 52 L st M = zo_iast zzSR 53 (zz_ev tX12_check) L st M) ∧
  (∀ L st M, zz_ev tX12_check 53 L st M = zo_aload 0 54 (zz_ev tX12_check) L st M) ∧
  (∀ (L : zzLc) (r : List Value) (M : zzMd), zz_ev tX12_check 54 L (.ref 0 :: r) M = zz_ev tX12_check 57 L (.ref 24 :: r) M) ∧
  (∀ L st M, zz_ev tX12_check 57 L st M = zo_aload 0 58 (zz_ev tX12_check) L st M) ∧
  (∀ (L : zzLc) (r : List Value) (M : zzMd), zz_ev tX12_check 58 L (.ref 0 :: r) M = zz_ev tX12_check 61 L (.int (M.1 0 26) :: r) M) ∧
  (∀ L st M, zz_ev tX12_check 61 L st M = zo_iload 2 62 (zz_ev tX12_check) L st M) ∧
  (∀ L st M, zz_ev tX12_check 62 L st M = zo_iast zzSR 63 (zz_ev tX12_check) L st M) ∧
  (∀ L st M, zz_ev tX12_check 63 L st M = zo_aload 0 64 (zz_ev tX12_check) L st M) ∧
  (∀ (L : zzLc) (r : List Value) (M : zzMd), zz_ev tX12_check 64 L (.ref 0 :: r) M = zz_ev tX12_check 67 L (.ref 25 :: r) M) ∧
  (∀ L st M, zz_ev tX12_check 67 L st M = zo_aload 0 68 (zz_ev tX12_check) L st M) ∧
  (∀ (L : zzLc) (r : List Value) (M : zzMd), zz_ev tX12_check 68 L (.ref 0 :: r) M = zz_ev tX12_check 71 L (.int (M.1 0 26) :: r) M) ∧
  (∀ L st M, zz_ev tX12_check 71 L st M = zo_iload 3 72 (zz_ev tX12_check) L st M) ∧
  (∀ L st M, zz_ev tX12_check 72 L st M = zo_iast zzSR 73 (zz_ev tX12_check) L st M) ∧
  (∀ L st M, zz_ev tX12_check 73 L st M = zo_aload 0 74 (zz_ev tX12_check) L st M) ∧
  (∀ L st M, zz_ev tX12_check 74 L st M = zo_dup 75 (zz_ev tX12_check) L st M) ∧
  (∀ (L : zzLc) (r : List Value) (M : zzMd), zz_ev tX12_check 75 L (.ref 0 :: r) M = zz_ev tX12_check 78 L (.int (M.1 0 26) :: r) M) ∧
  (∀ L st M, zz_ev tX12_check 78 L st M = zo_pushI 1 79 (zz_ev tX12_check) L st M) ∧
  (∀ L st M, zz_ev tX12_check 79 L st M = zo_ii (fun x y => x + y) 80 (zz_ev tX12_check) L st M) ∧
  (∀ (L : zzLc) (x : Int32) (r : List Value) (M : zzMd), zz_ev tX12_check 80 L (.int x :: .ref 0 :: r) M = zz_ev tX12_check 83 L r (zz_sI M 0 26 x)) ∧
  (∀ L st M, zz_ev tX12_check 83 L st M = zo_aload 0 84 (zz_ev tX12_check) L st M) ∧
  (∀ (L : zzLc) (r : List Value) (M : zzMd), zz_ev tX12_check 84 L (.ref 0 :: r) M = zz_ev tX12_check 87 L (.int (M.1 0 26) :: r) M) ∧
  (∀ L st M, zz_ev tX12_check 87 L st M = zo_iret false (zz_ev tX12_check) L st M) :=
  ⟨zz_1 rfl tl_X12_check, zz_1 rfl tl_X12_check, fun L a0 r M => (zz_1 rfl tl_X12_check _ _ _).trans rfl, zz_1 rfl tl_X12_check, zz_1 rfl tl_X12_check, zz_1 rfl tl_X12_check, zz_1 rfl tl_X12_check, fun L a0 a1 r M => (zz_1 rfl tl_X12_check _ _ _).trans rfl, zz_1 rfl tl_X12_check, zz_1 rfl tl_X12_check, zz_1 rfl tl_X12_check, zz_1 rfl tl_X12_check, fun L r M => (zz_1 rfl tl_X12_check _ _ _).trans rfl, zz_1 rfl tl_X12_check, zz_1 rfl tl_X12_check, zz_1 rfl tl_X12_check, zz_1 rfl tl_X12_check, zz_1 rfl tl_X12_check, fun L a0 r M => (zz_1 rfl tl_X12_check _ _ _).trans rfl, zz_1 rfl tl_X12_check, zz_1 rfl tl_X12_check, zz_1 rfl tl_X12_check, zz_1 rfl tl_X12_check, fun L r M => (zz_1 rfl tl_X12_check _ _ _).trans rfl, zz_1 rfl tl_X12_check, fun L r M => (zz_1 rfl tl_X12_check _ _ _).trans rfl, zz_1 rfl tl_X12_check, zz_1 rfl tl_X12_check, zz_1 rfl tl_X12_check, fun L r M => (zz_1 rfl tl_X12_check _ _ _).trans rfl, zz_1 rfl tl_X12_check, fun L r M => (zz_1 rfl tl_X12_check _ _ _).trans rfl, zz_1 rfl tl_X12_check, zz_1 rfl tl_X12_check, zz_1 rfl tl_X12_check, fun L r M => (zz_1 rfl tl_X12_check _ _ _).trans rfl, zz_1 rfl tl_X12_check, fun L r M => (zz_1 rfl tl_X12_check _ _ _).trans rfl, zz_1 rfl tl_X12_check, zz_1 rfl tl_X12_check, zz_1 rfl tl_X12_check, zz_1 rfl tl_X12_check, fun L r M => (zz_1 rfl tl_X12_check _ _ _).trans rfl, zz_1 rfl tl_X12_check, zz_1 rfl tl_X12_check, fun L x r M => (zz_1 rfl tl_X12_check _ _ _).trans rfl, zz_1 rfl tl_X12_check, fun L r M => (zz_1 rfl tl_X12_check _ _ _).trans rfl, zz_1 rfl tl_X12_check⟩
set_option maxRecDepth 100000 in
theorem s_X12_check (a0 a1 a2 : Int32) (v : Nat) (M : zzMd) : fX12_check [.ref v, .int a0, .int a1, .int a2] M = zz_ev tX12_check 0 [some (.ref v), some (.int a0), some (.int a1), some (.int a2)] [] M := rfl
set_option maxRecDepth 100000 in
theorem e_X12_clear : (∀ L st M, zz_ev tX12_clear 0 L st M = zo_aload 0 1 (zz_ev tX12_clear) L st M) ∧
  (∀ L st M, zz_ev tX12_clear 1 L st M = zo_pushI 0 2 (zz_ev tX12_clear) L st M) ∧
  (∀ (L : zzLc) (x : Int32) (r : List Value) (M : zzMd), zz_ev tX12_clear 2 L (.int x :: .ref 0 :: r) M = zz_ev tX12_clear 5 L r (zz_sI M 0 49 x)) ∧
  (∀ L st M, zz_ev tX12_clear 5 L st M = zo_aload 0 6 (zz_ev tX12_clear) L st M) ∧
  (∀ (L : zzLc) (r : List Value) (M : zzMd), zz_ev tX12_clear 6 L (.ref 0 :: r) M = zz_ev tX12_clear 9 L (.int (M.1 0 19) :: r) M) ∧
  (∀ L st M, zz_ev tX12_clear 9 L st M = zo_aload 0 10 (zz_ev tX12_clear) L st M) ∧
  (∀ (L : zzLc) (r : List Value) (M : zzMd), zz_ev tX12_clear 10 L (.ref 0 :: r) M = zz_ev tX12_clear 13 L (.int (M.1 0 26) :: r) M) ∧
  (∀ L st M, zz_ev tX12_clear 13 L st M = zo_ii (fun x y => x + y) 14 (zz_ev tX12_clear) L st M) ∧
  (∀ L st M, zz_ev tX12_clear 14 L st M = zo_istore 1 15 (zz_ev tX12_clear) L st M) ∧
  (∀ L st M, zz_ev tX12_clear 15 L st M = zo_aload 0 16 (zz_ev tX12_clear) L st M) ∧
  (∀ L st M, zz_ev tX12_clear 16 L st M = zo_pushI 0 17 (zz_ev tX12_clear) L st M) ∧
  (∀ (L : zzLc) (x : Int32) (r : List Value) (M : zzMd), zz_ev tX12_clear 17 L (.int x :: .ref 0 :: r) M = zz_ev tX12_clear 20 L r (zz_sI M 0 19 x)) ∧
  (∀ L st M, zz_ev tX12_clear 20 L st M = zo_aload 0 21 (zz_ev tX12_clear) L st M) ∧
  (∀ L st M, zz_ev tX12_clear 21 L st M = zo_pushI 0 22 (zz_ev tX12_clear) L st M) ∧
  (∀ (L : zzLc) (x : Int32) (r : List Value) (M : zzMd), zz_ev tX12_clear 22 L (.int x :: .ref 0 :: r) M = zz_ev tX12_clear 25 L r (zz_sI M 0 26 x)) ∧
  (∀ L st M, zz_ev tX12_clear 25 L st M = zo_iload 1 26 (zz_ev tX12_clear) L st M) ∧
  (∀ L st M, zz_ev tX12_clear 26 L st M = zo_iret false (zz_ev tX12_clear) L st M) :=
  ⟨zz_1 rfl tl_X12_clear, zz_1 rfl tl_X12_clear, fun L x r M => (zz_1 rfl tl_X12_clear _ _ _).trans rfl, zz_1 rfl tl_X12_clear, fun L r M => (zz_1 rfl tl_X12_clear _ _ _).trans rfl, zz_1 rfl tl_X12_clear, fun L r M => (zz_1 rfl tl_X12_clear _ _ _).trans rfl, zz_1 rfl tl_X12_clear, zz_1 rfl tl_X12_clear, zz_1 rfl tl_X12_clear, zz_1 rfl tl_X12_clear, fun L x r M => (zz_1 rfl tl_X12_clear _ _ _).trans rfl, zz_1 rfl tl_X12_clear, zz_1 rfl tl_X12_clear, fun L x r M => (zz_1 rfl tl_X12_clear _ _ _).trans rfl, zz_1 rfl tl_X12_clear, zz_1 rfl tl_X12_clear⟩
set_option maxRecDepth 100000 in
theorem s_X12_clear (v : Nat) (M : zzMd) : fX12_clear [.ref v] M = zz_ev tX12_clear 0 [some (.ref v), none] [] M := rfl
set_option maxRecDepth 100000 in
theorem e_X12_quota : (∀ L st M, zz_ev tX12_quota 0 L st M = zo_aload 0 1 (zz_ev tX12_quota) L st M) ∧
  (∀ L st M, zz_ev tX12_quota 1 L st M = zo_iload 1 2 (zz_ev tX12_quota) L st M) ∧
  (∀ L st M, zz_ev tX12_quota 2 L st M = zo_pushI 0 3 (zz_ev tX12_quota) L st M) ∧
  (∀ L st M, zz_ev tX12_quota 3 L st M = zo_pushI 60 5 (zz_ev tX12_quota) L st M) ∧
  (∀ (L : zzLc) (a0 a1 a2 : Int32) (r : List Value) (M : zzMd), zz_ev tX12_quota 5 L (.int a2 :: .int a1 :: .int a0 :: r) M = bif zz_cat8 r then zz_backN (zz_ev tX12_quota) 8 L r (fX12_isIn [.int a0, .int a1, .int a2] M) else none) ∧
  (∀ L st M, zz_ev tX12_quota 8 L st M = zo_if (fun x => decide (x = 0)) 15 11 (zz_ev tX12_quota) L st M) ∧
  (∀ L st M, zz_ev tX12_quota 11 L st M = zo_pushI 0 12 (zz_ev tX12_quota) L st M) ∧
  (∀ L st M, zz_ev tX12_quota 12 L st M = zo_goto 16 (zz_ev tX12_quota) L st M) ∧
  (∀ L st M, zz_ev tX12_quota 15 L st M = zo_pushI 1 16 (zz_ev tX12_quota) L st M) ∧
  (∀ (L : zzLc) (a0 : Int32) (r : List Value) (M : zzMd), zz_ev tX12_quota 16 L (.int a0 :: .ref 0 :: r) M = bif zz_cat8 r then zz_backN (zz_ev tX12_quota) 19 L r (fX12_goes [.ref 0, .int a0] M) else none) ∧
  (∀ L st M, zz_ev tX12_quota 19 L st M = zo_if (fun x => decide (¬ x = 0)) 24 22 (zz_ev tX12_quota) L st M) ∧
  (∀ L st M, zz_ev tX12_quota 22 L st M = zo_pushI 0 23 (zz_ev tX12_quota) L st M) ∧
  (∀ L st M, zz_ev tX12_quota 23 L st M = zo_iret false (zz_ev tX12_quota) L st M) ∧
  (∀ L st M, zz_ev tX12_quota 24 L st M = zo_aload 0 25 (zz_ev tX12_quota) L st M) ∧
  (∀ (L : zzLc) (r : List Value) (M : zzMd), zz_ev tX12_quota 25 L (.ref 0 :: r) M = zz_ev tX12_quota 28 L (.int (M.1 0 30) :: r) M) ∧
  (∀ L st M, zz_ev tX12_quota 28 L st M = zo_istore 2 29 (zz_ev tX12_quota) L st M) ∧
  (∀ L st M, zz_ev tX12_quota 29 L st M = zo_aload 0 30 (zz_ev tX12_quota) L st M) ∧
  (∀ L st M, zz_ev tX12_quota 30 L st M = zo_iload 1 31 (zz_ev tX12_quota) L st M) ∧
  (∀ (L : zzLc) (x : Int32) (r : List Value) (M : zzMd), zz_ev tX12_quota 31 L (.int x :: .ref 0 :: r) M = zz_ev tX12_quota 34 L r (zz_sI M 0 30 x)) ∧
  (∀ L st M, zz_ev tX12_quota 34 L st M = zo_iload 2 35 (zz_ev tX12_quota) L st M) ∧
  (∀ L st M, zz_ev tX12_quota 35 L st M = zo_iret false (zz_ev tX12_quota) L st M) :=
  ⟨zz_1 rfl tl_X12_quota, zz_1 rfl tl_X12_quota, zz_1 rfl tl_X12_quota, zz_1 rfl tl_X12_quota, fun L a0 a1 a2 r M => (zz_1 rfl tl_X12_quota _ _ _).trans rfl, zz_1 rfl tl_X12_quota, zz_1 rfl tl_X12_quota, zz_1 rfl tl_X12_quota, zz_1 rfl tl_X12_quota, fun L a0 r M => (zz_1 rfl tl_X12_quota _ _ _).trans rfl, zz_1 rfl tl_X12_quota, zz_1 rfl tl_X12_quota, zz_1 rfl tl_X12_quota, zz_1 rfl tl_X12_quota, fun L r M => (zz_1 rfl tl_X12_quota _ _ _).trans rfl, zz_1 rfl tl_X12_quota, zz_1 rfl tl_X12_quota, zz_1 rfl tl_X12_quota, fun L x r M => (zz_1 rfl tl_X12_quota _ _ _).trans rfl, zz_1 rfl tl_X12_quota, zz_1 rfl tl_X12_quota⟩
set_option maxRecDepth 100000 in
theorem s_X12_quota (a0 : Int32) (v : Nat) (M : zzMd) : fX12_quota [.ref v, .int a0] M = zz_ev tX12_quota 0 [some (.ref v), some (.int a0), none] [] M := rfl
set_option maxRecDepth 100000 in
theorem e_X12_isController : (∀ L st M, zz_ev tX12_isController 0 L st M = zo_iload 0 1 (zz_ev tX12_isController) L st M) ∧
  (∀ L st M, zz_ev tX12_isController 1 L st M = zo_pushI 0 2 (zz_ev tX12_isController) L st M) ∧
  (∀ L st M, zz_ev tX12_isController 2 L st M = zo_pushI 7 4 (zz_ev tX12_isController) L st M) ∧
  (∀ (L : zzLc) (a0 a1 a2 : Int32) (r : List Value) (M : zzMd), zz_ev tX12_isController 4 L (.int a2 :: .int a1 :: .int a0 :: r) M = bif zz_cat8 r then zz_backN (zz_ev tX12_isController) 7 L r (fX12_isIn [.int a0, .int a1, .int a2] M) else none) ∧
  (∀ L st M, zz_ev tX12_isController 7 L st M = zo_iret true (zz_ev tX12_isController) L st M) :=
  ⟨zz_1 rfl tl_X12_isController, zz_1 rfl tl_X12_isController, zz_1 rfl tl_X12_isController, fun L a0 a1 a2 r M => (zz_1 rfl tl_X12_isController _ _ _).trans rfl, zz_1 rfl tl_X12_isController⟩
set_option maxRecDepth 100000 in
theorem s_X12_isController (a0 : Int32) (M : zzMd) : fX12_isController [.int a0] M = zz_ev tX12_isController 0 [some (.int a0)] [] M := rfl
set_option maxRecDepth 100000 in
theorem e_X12_asks : (∀ L st M, zz_ev tX12_asks 0 L st M = zo_aload 0 1 (zz_ev tX12_asks) L st M) ∧
  (∀ L st M, zz_ev tX12_asks 1 L st M = zo_iload 1 2 (zz_ev tX12_asks) L st M) ∧
  (∀ (L : zzLc) (a0 : Int32) (r : List Value) (M : zzMd), zz_ev tX12_asks 2 L (.int a0 :: r) M = bif zz_cat8 r then zz_backN (zz_ev tX12_asks) 5 L r (fX12_isController [.int a0] M) else none) ∧
  (∀ L st M, zz_ev tX12_asks 5 L st M = zo_if (fun x => decide (x = 0)) 12 8 (zz_ev tX12_asks) L st M) ∧
  (∀ L st M, zz_ev tX12_asks 8 L st M = zo_pushI 0 9 (zz_ev tX12_asks) L st M) ∧
  (∀ L st M, zz_ev tX12_asks 9 L st M = zo_goto 13 (zz_ev tX12_asks) L st M) ∧
  (∀ L st M, zz_ev tX12_asks 12 L st M = zo_pushI 1 13 (zz_ev tX12_asks) L st M) ∧
  (∀ (L : zzLc) (a0 : Int32) (r : List Value) (M : zzMd), zz_ev tX12_asks 13 L (.int a0 :: .ref 0 :: r) M = bif zz_cat8 r then zz_backN (zz_ev tX12_asks) 16 L r (fX12_goes [.ref 0, .int a0] M) else none) ∧
  (∀ L st M, zz_ev tX12_asks 16 L st M = zo_iret true (zz_ev tX12_asks) L st M) :=
  ⟨zz_1 rfl tl_X12_asks, zz_1 rfl tl_X12_asks, fun L a0 r M => (zz_1 rfl tl_X12_asks _ _ _).trans rfl, zz_1 rfl tl_X12_asks, zz_1 rfl tl_X12_asks, zz_1 rfl tl_X12_asks, zz_1 rfl tl_X12_asks, fun L a0 r M => (zz_1 rfl tl_X12_asks _ _ _).trans rfl, zz_1 rfl tl_X12_asks⟩
set_option maxRecDepth 100000 in
theorem s_X12_asks (a0 : Int32) (v : Nat) (M : zzMd) : fX12_asks [.ref v, .int a0] M = zz_ev tX12_asks 0 [some (.ref v), some (.int a0)] [] M := rfl
set_option maxRecDepth 100000 in
theorem e_X12_see : (∀ L st M, zz_ev tX12_see 0 L st M = zo_aload 0 1 (zz_ev tX12_see) L st M) ∧
  (∀ L st M, zz_ev tX12_see 1 L st M = zo_iload 1 2 (zz_ev tX12_see) L st M) ∧
  (∀ (L : zzLc) (a0 : Int32) (r : List Value) (M : zzMd), zz_ev tX12_see 2 L (.int a0 :: r) M = bif zz_cat8 r then zz_backN (zz_ev tX12_see) 5 L r (fX12_isController [.int a0] M) else none) ∧
  (∀ L st M, zz_ev tX12_see 5 L st M = zo_if (fun x => decide (x = 0)) 23 8 (zz_ev tX12_see) L st M) ∧
  (∀ L st M, zz_ev tX12_see 8 L st M = zo_iload 2 9 (zz_ev tX12_see) L st M) ∧
  (∀ L st M, zz_ev tX12_see 9 L st M = zo_pushI 1 10 (zz_ev tX12_see) L st M) ∧
  (∀ L st M, zz_ev tX12_see 10 L st M = zo_pushI 400 13 (zz_ev tX12_see) L st M) ∧
  (∀ (L : zzLc) (a0 a1 a2 : Int32) (r : List Value) (M : zzMd), zz_ev tX12_see 13 L (.int a2 :: .int a1 :: .int a0 :: r) M = bif zz_cat8 r then zz_backN (zz_ev tX12_see) 16 L r (fX12_isIn [.int a0, .int a1, .int a2] M) else none) ∧
  (∀ L st M, zz_ev tX12_see 16 L st M = zo_if (fun x => decide (x = 0)) 23 19 (zz_ev tX12_see) L st M) ∧
  (∀ L st M, zz_ev tX12_see 19 L st M = zo_pushI 0 20 (zz_ev tX12_see) L st M) ∧
  (∀ L st M, zz_ev tX12_see 20 L st M = zo_goto 24 (zz_ev tX12_see) L st M) ∧
  (∀ L st M, zz_ev tX12_see 23 L st M = zo_pushI 1 24 (zz_ev tX12_see) L st M) ∧
  (∀ (L : zzLc) (a0 : Int32) (r : List Value) (M : zzMd), zz_ev tX12_see 24 L (.int a0 :: .ref 0 :: r) M = bif zz_cat8 r then zz_backN (zz_ev tX12_see) 27 L r (fX12_goes [.ref 0, .int a0] M) else none) ∧
  (∀ L st M, zz_ev tX12_see 27 L st M = zo_if (fun x => decide (¬ x = 0)) 32 30 (zz_ev tX12_see) L st M) ∧
  (∀ L st M, zz_ev tX12_see 30 L st M = zo_pushI 0 31 (zz_ev tX12_see) L st M) ∧
  (∀ L st M, zz_ev tX12_see 31 L st M = zo_iret false (zz_ev tX12_see) L st M) ∧
  (∀ L st M, zz_ev tX12_see 32 L st M = zo_aload 0 33 (zz_ev tX12_see) L st M) ∧
  (∀ L st M, zz_ev tX12_see 33 L st M = zo_iload 1 34 (zz_ev tX12_see) L st M) ∧
  (∀ (L : zzLc) (x : Int32) (r : List Value) (M : zzMd), zz_ev tX12_see 34 L (.int x :: .ref 0 :: r) M = zz_ev tX12_see 37 L r (zz_sI M 0 42 x)) ∧
  (∀ L st M, zz_ev tX12_see 37 L st M = zo_aload 0 38 (zz_ev tX12_see) L st M) ∧
  (∀ L st M, zz_ev tX12_see 38 L st M = zo_iload 2 39 (zz_ev tX12_see) L st M) ∧
  (∀ (L : zzLc) (a0 : Int32) (r : List Value) (M : zzMd), zz_ev tX12_see 39 L (.int a0 :: .ref 0 :: r) M = bif zz_cat8 r then zz_backN (zz_ev tX12_see) 42 L r (fX12_sees [.ref 0, .int a0] M) else none) ∧
  (∀ L st M, zz_ev tX12_see 42 L st M = zo_iret false (zz_ev tX12_see) L st M) :=
  ⟨zz_1 rfl tl_X12_see, zz_1 rfl tl_X12_see, fun L a0 r M => (zz_1 rfl tl_X12_see _ _ _).trans rfl, zz_1 rfl tl_X12_see, zz_1 rfl tl_X12_see, zz_1 rfl tl_X12_see, zz_1 rfl tl_X12_see, fun L a0 a1 a2 r M => (zz_1 rfl tl_X12_see _ _ _).trans rfl, zz_1 rfl tl_X12_see, zz_1 rfl tl_X12_see, zz_1 rfl tl_X12_see, zz_1 rfl tl_X12_see, fun L a0 r M => (zz_1 rfl tl_X12_see _ _ _).trans rfl, zz_1 rfl tl_X12_see, zz_1 rfl tl_X12_see, zz_1 rfl tl_X12_see, zz_1 rfl tl_X12_see, zz_1 rfl tl_X12_see, fun L x r M => (zz_1 rfl tl_X12_see _ _ _).trans rfl, zz_1 rfl tl_X12_see, zz_1 rfl tl_X12_see, fun L a0 r M => (zz_1 rfl tl_X12_see _ _ _).trans rfl, zz_1 rfl tl_X12_see⟩
set_option maxRecDepth 100000 in
theorem s_X12_see (a0 a1 : Int32) (v : Nat) (M : zzMd) : fX12_see [.ref v, .int a0, .int a1] M = zz_ev tX12_see 0 [some (.ref v), some (.int a0), some (.int a1)] [] M := rfl
set_option maxRecDepth 100000 in
theorem e_X12_work : (∀ L st M, zz_ev tX12_work 0 L st M = zo_aload 0 1 (zz_ev tX12_work) L st M) ∧
  (∀ L st M, zz_ev tX12_work 1 L st M = zo_iload 1 2 (zz_ev tX12_work) L st M) ∧
  (∀ (L : zzLc) (a0 : Int32) (r : List Value) (M : zzMd), zz_ev tX12_work 2 L (.int a0 :: .ref 0 :: r) M = bif zz_cat8 r then zz_backN (zz_ev tX12_work) 5 L r (fX12_asks [.ref 0, .int a0] M) else none) ∧
  (∀ L st M, zz_ev tX12_work 5 L st M = zo_if (fun x => decide (¬ x = 0)) 10 8 (zz_ev tX12_work) L st M) ∧
  (∀ L st M, zz_ev tX12_work 8 L st M = zo_pushI 0 9 (zz_ev tX12_work) L st M) ∧
  (∀ L st M, zz_ev tX12_work 9 L st M = zo_iret false (zz_ev tX12_work) L st M) ∧
  (∀ L st M, zz_ev tX12_work 10 L st M = zo_aload 0 11 (zz_ev tX12_work) L st M) ∧
  (∀ L st M, zz_ev tX12_work 11 L st M = zo_iload 1 12 (zz_ev tX12_work) L st M) ∧
  (∀ (L : zzLc) (x : Int32) (r : List Value) (M : zzMd), zz_ev tX12_work 12 L (.int x :: .ref 0 :: r) M = zz_ev tX12_work 15 L r (zz_sI M 0 42 x)) ∧
  (∀ L st M, zz_ev tX12_work 15 L st M = zo_aload 0 16 (zz_ev tX12_work) L st M) ∧
  (∀ (L : zzLc) (r : List Value) (M : zzMd), zz_ev tX12_work 16 L (.ref 0 :: r) M = bif zz_cat8 r then zz_backN (zz_ev tX12_work) 19 L r (fX12_works [.ref 0] M) else none) ∧
  (∀ L st M, zz_ev tX12_work 19 L st M = zo_iret false (zz_ev tX12_work) L st M) :=
  ⟨zz_1 rfl tl_X12_work, zz_1 rfl tl_X12_work, fun L a0 r M => (zz_1 rfl tl_X12_work _ _ _).trans rfl, zz_1 rfl tl_X12_work, zz_1 rfl tl_X12_work, zz_1 rfl tl_X12_work, zz_1 rfl tl_X12_work, zz_1 rfl tl_X12_work, fun L x r M => (zz_1 rfl tl_X12_work _ _ _).trans rfl, zz_1 rfl tl_X12_work, fun L  r M => (zz_1 rfl tl_X12_work _ _ _).trans rfl, zz_1 rfl tl_X12_work⟩
set_option maxRecDepth 100000 in
theorem s_X12_work (a0 : Int32) (v : Nat) (M : zzMd) : fX12_work [.ref v, .int a0] M = zz_ev tX12_work 0 [some (.ref v), some (.int a0)] [] M := rfl
set_option maxRecDepth 100000 in
theorem e_X12_turn : (∀ L st M, zz_ev tX12_turn 0 L st M = zo_aload 0 1 (zz_ev tX12_turn) L st M) ∧
  (∀ L st M, zz_ev tX12_turn 1 L st M = zo_iload 1 2 (zz_ev tX12_turn) L st M) ∧
  (∀ L st M, zz_ev tX12_turn 2 L st M = zo_pushI 1 3 (zz_ev tX12_turn) L st M) ∧
  (∀ L st M, zz_ev tX12_turn 3 L st M = zo_pushI 10 5 (zz_ev tX12_turn) L st M) ∧
  (∀ (L : zzLc) (a0 a1 a2 : Int32) (r : List Value) (M : zzMd), zz_ev tX12_turn 5 L (.int a2 :: .int a1 :: .int a0 :: r) M = bif zz_cat8 r then zz_backN (zz_ev tX12_turn) 8 L r (fX12_isIn [.int a0, .int a1, .int a2] M) else none) ∧
  (∀ L st M, zz_ev tX12_turn 8 L st M = zo_if (fun x => decide (x = 0)) 15 11 (zz_ev tX12_turn) L st M) ∧
  (∀ L st M, zz_ev tX12_turn 11 L st M = zo_pushI 0 12 (zz_ev tX12_turn) L st M) ∧
  (∀ L st M, zz_ev tX12_turn 12 L st M = zo_goto 16 (zz_ev tX12_turn) L st M) ∧
  (∀ L st M, zz_ev tX12_turn 15 L st M = zo_pushI 1 16 (zz_ev tX12_turn) L st M) ∧
  (∀ (L : zzLc) (a0 : Int32) (r : List Value) (M : zzMd), zz_ev tX12_turn 16 L (.int a0 :: .ref 0 :: r) M = bif zz_cat8 r then zz_backN (zz_ev tX12_turn) 19 L r (fX12_goes [.ref 0, .int a0] M) else none) ∧
  (∀ L st M, zz_ev tX12_turn 19 L st M = zo_if (fun x => decide (¬ x = 0)) 24 22 (zz_ev tX12_turn) L st M) ∧
  (∀ L st M, zz_ev tX12_turn 22 L st M = zo_pushI 0 23 (zz_ev tX12_turn) L st M) ∧
  (∀ L st M, zz_ev tX12_turn 23 L st M = zo_iret false (zz_ev tX12_turn) L st M) ∧
  (∀ L st M, zz_ev tX12_turn 24 L st M = zo_aload 0 25 (zz_ev tX12_turn) L st M) ∧
  (∀ (L : zzLc) (r : List Value) (M : zzMd), zz_ev tX12_turn 25 L (.ref 0 :: r) M = zz_ev tX12_turn 28 L (.int (M.1 0 14) :: r) M) ∧
  (∀ L st M, zz_ev tX12_turn 28 L st M = zo_istore 2 29 (zz_ev tX12_turn) L st M) ∧
  (∀ L st M, zz_ev tX12_turn 29 L st M = zo_pushI 0 30 (zz_ev tX12_turn) L st M) ∧
  (∀ L st M, zz_ev tX12_turn 30 L st M = zo_istore 3 31 (zz_ev tX12_turn) L st M) ∧
  (∀ L st M, zz_ev tX12_turn 32 L st M = zo_iload 1 33 (zz_ev tX12_turn) L st M) ∧
  (∀ L st M, zz_ev tX12_turn 33 L st M = zo_pushI 8 35 (zz_ev tX12_turn) L st M) ∧
  (∀ L st M, zz_ev tX12_turn 35 L st M = zo_ii (fun x y => x * y) 36 (zz_ev tX12_turn) L st M) ∧
  (∀ L st M, zz_ev tX12_turn 36 L st M = zo_icmp (fun x y => decide (y ≤ x)) 98 39 (zz_ev tX12_turn) L st M) ∧
  (∀ L st M, zz_ev tX12_turn 39 L st M = zo_aload 0 40 (zz_ev tX12_turn) L st M) ∧
  (∀ L st M, zz_ev tX12_turn 40 L st M = zo_iload 3 41 (zz_ev tX12_turn) L st M) ∧
  (∀ L st M, zz_ev tX12_turn 41 L st M = zo_pushI 8 43 (zz_ev tX12_turn) L st M) ∧
  (∀ L st M, zz_ev tX12_turn 43 L st M = zo_iid (fun x y => x - x / y * y) 44 (zz_ev tX12_turn) L st M) ∧
  (∀ (L : zzLc) (x : Int32) (r : List Value) (M : zzMd), zz_ev tX12_turn 44 L (.int x :: .ref 0 :: r) M = zz_ev tX12_turn 47 L r (zz_sI M 0 42 x)) ∧
  (∀ L st M, zz_ev tX12_turn 47 L st M = zo_aload 0 48 (zz_ev tX12_turn) L st M) ∧
  (∀ L st M, zz_ev tX12_turn 48 L st M = zo_pushI 400 51 (zz_ev tX12_turn) L st M) ∧
  (∀ (L : zzLc) (a0 : Int32) (r : List Value) (M : zzMd), zz_ev tX12_turn 51 L (.int a0 :: .ref 0 :: r) M = bif zz_cat8 r then zz_backN (zz_ev tX12_turn) 54 L r (fX12_sees [.ref 0, .int a0] M) else none) ∧
  (∀ L st M, zz_ev tX12_turn 54 L st M = zo_istore 4 56 (zz_ev tX12_turn) L st M) ∧
  (∀ L st M, zz_ev tX12_turn 56 L st M = zo_aload 0 57 (zz_ev tX12_turn) L st M) ∧
  (∀ (L : zzLc) (r : List Value) (M : zzMd), zz_ev tX12_turn 57 L (.ref 0 :: r) M = zz_ev tX12_turn 60 L (.ref 31 :: r) M) ∧
  (∀ L st M, zz_ev tX12_turn 60 L st M = zo_aload 0 61 (zz_ev tX12_turn) L st M) ∧
  (∀ (L : zzLc) (r : List Value) (M : zzMd), zz_ev tX12_turn 61 L (.ref 0 :: r) M = zz_ev tX12_turn 64 L (.int (M.1 0 42) :: r) M) ∧
  (∀ L st M, zz_ev tX12_turn 64 L st M = zo_iald zzSR zzSTR 65 (zz_ev tX12_turn) L st M) ∧
  (∀ L st M, zz_ev tX12_turn 65 L st M = zo_istore 5 67 (zz_ev tX12_turn) L st M) ∧
  (∀ L st M, zz_ev tX12_turn 67 L st M = zo_pushI 0 68 (zz_ev tX12_turn) L st M) ∧
  (∀ L st M, zz_ev tX12_turn 68 L st M = zo_istore 6 70 (zz_ev tX12_turn) L st M) ∧
  (∀ L st M, zz_ev tX12_turn 72 L st M = zo_iload 5 74 (zz_ev tX12_turn) L st M) ∧
  (∀ L st M, zz_ev tX12_turn 74 L st M = zo_icmp (fun x y => decide (y ≤ x)) 92 77 (zz_ev tX12_turn) L st M) ∧
  (∀ L st M, zz_ev tX12_turn 77 L st M = zo_iload 4 79 (zz_ev tX12_turn) L st M) ∧
  (∀ L st M, zz_ev tX12_turn 79 L st M = zo_aload 0 80 (zz_ev tX12_turn) L st M) ∧
  (∀ (L : zzLc) (r : List Value) (M : zzMd), zz_ev tX12_turn 80 L (.ref 0 :: r) M = bif zz_cat8 r then zz_backN (zz_ev tX12_turn) 83 L r (fX12_works [.ref 0] M) else none) ∧
  (∀ L st M, zz_ev tX12_turn 83 L st M = zo_ii (fun x y => x + y) 84 (zz_ev tX12_turn) L st M) ∧
  (∀ L st M, zz_ev tX12_turn 84 L st M = zo_istore 4 86 (zz_ev tX12_turn) L st M) ∧
  (∀ L st M, zz_ev tX12_turn 86 L st M = zo_iinc 6 1 89 (zz_ev tX12_turn) L st M) ∧
  (∀ L st M, zz_ev tX12_turn 89 L st M = zo_goto 70 (zz_ev tX12_turn) L st M) ∧
  (∀ L st M, zz_ev tX12_turn 92 L st M = zo_iinc 3 1 95 (zz_ev tX12_turn) L st M) ∧
  (∀ L st M, zz_ev tX12_turn 95 L st M = zo_goto 31 (zz_ev tX12_turn) L st M) ∧
  (∀ L st M, zz_ev tX12_turn 98 L st M = zo_aload 0 99 (zz_ev tX12_turn) L st M) ∧
  (∀ (L : zzLc) (r : List Value) (M : zzMd), zz_ev tX12_turn 99 L (.ref 0 :: r) M = zz_ev tX12_turn 102 L (.int (M.1 0 14) :: r) M) ∧
  (∀ L st M, zz_ev tX12_turn 102 L st M = zo_iload 2 103 (zz_ev tX12_turn) L st M) ∧
  (∀ L st M, zz_ev tX12_turn 103 L st M = zo_ii (fun x y => x - y) 104 (zz_ev tX12_turn) L st M) ∧
  (∀ L st M, zz_ev tX12_turn 104 L st M = zo_iret false (zz_ev tX12_turn) L st M) :=
  ⟨zz_1 rfl tl_X12_turn, zz_1 rfl tl_X12_turn, zz_1 rfl tl_X12_turn, zz_1 rfl tl_X12_turn, fun L a0 a1 a2 r M => (zz_1 rfl tl_X12_turn _ _ _).trans rfl, zz_1 rfl tl_X12_turn, zz_1 rfl tl_X12_turn, zz_1 rfl tl_X12_turn, zz_1 rfl tl_X12_turn, fun L a0 r M => (zz_1 rfl tl_X12_turn _ _ _).trans rfl, zz_1 rfl tl_X12_turn, zz_1 rfl tl_X12_turn, zz_1 rfl tl_X12_turn, zz_1 rfl tl_X12_turn, fun L r M => (zz_1 rfl tl_X12_turn _ _ _).trans rfl, zz_1 rfl tl_X12_turn, zz_1 rfl tl_X12_turn, zz_1 rfl tl_X12_turn, zz_1 rfl tl_X12_turn, zz_1 rfl tl_X12_turn, zz_1 rfl tl_X12_turn, zz_1 rfl tl_X12_turn, zz_1 rfl tl_X12_turn, zz_1 rfl tl_X12_turn, zz_1 rfl tl_X12_turn, zz_1 rfl tl_X12_turn, fun L x r M => (zz_1 rfl tl_X12_turn _ _ _).trans rfl, zz_1 rfl tl_X12_turn, zz_1 rfl tl_X12_turn, fun L a0 r M => (zz_1 rfl tl_X12_turn _ _ _).trans rfl, zz_1 rfl tl_X12_turn, zz_1 rfl tl_X12_turn, fun L r M => (zz_1 rfl tl_X12_turn _ _ _).trans rfl, zz_1 rfl tl_X12_turn, fun L r M => (zz_1 rfl tl_X12_turn _ _ _).trans rfl, zz_1 rfl tl_X12_turn, zz_1 rfl tl_X12_turn, zz_1 rfl tl_X12_turn, zz_1 rfl tl_X12_turn, zz_1 rfl tl_X12_turn, zz_1 rfl tl_X12_turn, zz_1 rfl tl_X12_turn, zz_1 rfl tl_X12_turn, fun L  r M => (zz_1 rfl tl_X12_turn _ _ _).trans rfl, zz_1 rfl tl_X12_turn, zz_1 rfl tl_X12_turn, zz_1 rfl tl_X12_turn, zz_1 rfl tl_X12_turn, zz_1 rfl tl_X12_turn, zz_1 rfl tl_X12_turn, zz_1 rfl tl_X12_turn, fun L r M => (zz_1 rfl tl_X12_turn _ _ _).trans rfl, zz_1 rfl tl_X12_turn, zz_1 rfl tl_X12_turn, zz_1 rfl tl_X12_turn⟩
set_option maxRecDepth 100000 in
theorem e_X12_turn_31 : (∀ L st M, zz_ev tX12_turn 31 L st M = zo_iload 3 32 (zz_ev tX12_turn) L st M) := zz_1 rfl tl_X12_turn
set_option maxRecDepth 100000 in
theorem e_X12_turn_70 : (∀ L st M, zz_ev tX12_turn 70 L st M = zo_iload 6 72 (zz_ev tX12_turn) L st M) := zz_1 rfl tl_X12_turn
set_option maxRecDepth 100000 in
theorem s_X12_turn (a0 : Int32) (v : Nat) (M : zzMd) : fX12_turn [.ref v, .int a0] M = zz_ev tX12_turn 0 [some (.ref v), some (.int a0), none, none, none, none, none] [] M := rfl
set_option maxRecDepth 100000 in
theorem e_X12_seen : (∀ L st M, zz_ev tX12_seen 0 L st M = zo_aload 0 1 (zz_ev tX12_seen) L st M) ∧
  (∀ L st M, zz_ev tX12_seen 1 L st M = zo_iload 1 2 (zz_ev tX12_seen) L st M) ∧
  (∀ (L : zzLc) (a0 : Int32) (r : List Value) (M : zzMd), zz_ev tX12_seen 2 L (.int a0 :: .ref 0 :: r) M = bif zz_cat8 r then zz_backN (zz_ev tX12_seen) 5 L r (fX12_asks [.ref 0, .int a0] M) else none) ∧
  (∀ L st M, zz_ev tX12_seen 5 L st M = zo_if (fun x => decide (x = 0)) 17 8 (zz_ev tX12_seen) L st M) ∧
  (∀ L st M, zz_ev tX12_seen 8 L st M = zo_aload 0 9 (zz_ev tX12_seen) L st M) ∧
  (∀ (L : zzLc) (r : List Value) (M : zzMd), zz_ev tX12_seen 9 L (.ref 0 :: r) M = zz_ev tX12_seen 12 L (.ref 26 :: r) M) ∧
  (∀ L st M, zz_ev tX12_seen 12 L st M = zo_iload 1 13 (zz_ev tX12_seen) L st M) ∧
  (∀ L st M, zz_ev tX12_seen 13 L st M = zo_iald zzSR zzSTR 14 (zz_ev tX12_seen) L st M) ∧
  (∀ L st M, zz_ev tX12_seen 14 L st M = zo_goto 18 (zz_ev tX12_seen) L st M) ∧
  (∀ L st M, zz_ev tX12_seen 17 L st M = zo_pushI 0 18 (zz_ev tX12_seen) L st M) ∧
  (∀ L st M, zz_ev tX12_seen 18 L st M = zo_iret false (zz_ev tX12_seen) L st M) :=
  ⟨zz_1 rfl tl_X12_seen, zz_1 rfl tl_X12_seen, fun L a0 r M => (zz_1 rfl tl_X12_seen _ _ _).trans rfl, zz_1 rfl tl_X12_seen, zz_1 rfl tl_X12_seen, fun L r M => (zz_1 rfl tl_X12_seen _ _ _).trans rfl, zz_1 rfl tl_X12_seen, zz_1 rfl tl_X12_seen, zz_1 rfl tl_X12_seen, zz_1 rfl tl_X12_seen, zz_1 rfl tl_X12_seen⟩
set_option maxRecDepth 100000 in
theorem s_X12_seen (a0 : Int32) (v : Nat) (M : zzMd) : fX12_seen [.ref v, .int a0] M = zz_ev tX12_seen 0 [some (.ref v), some (.int a0)] [] M := rfl
set_option maxRecDepth 100000 in
theorem e_X12_queued : (∀ L st M, zz_ev tX12_queued 0 L st M = zo_aload 0 1 (zz_ev tX12_queued) L st M) ∧
  (∀ L st M, zz_ev tX12_queued 1 L st M = zo_iload 1 2 (zz_ev tX12_queued) L st M) ∧
  (∀ (L : zzLc) (a0 : Int32) (r : List Value) (M : zzMd), zz_ev tX12_queued 2 L (.int a0 :: .ref 0 :: r) M = bif zz_cat8 r then zz_backN (zz_ev tX12_queued) 5 L r (fX12_asks [.ref 0, .int a0] M) else none) ∧
  (∀ L st M, zz_ev tX12_queued 5 L st M = zo_if (fun x => decide (x = 0)) 24 8 (zz_ev tX12_queued) L st M) ∧
  (∀ L st M, zz_ev tX12_queued 8 L st M = zo_aload 0 9 (zz_ev tX12_queued) L st M) ∧
  (∀ L st M, zz_ev tX12_queued 9 L st M = zo_iload 2 10 (zz_ev tX12_queued) L st M) ∧
  (∀ L st M, zz_ev tX12_queued 10 L st M = zo_if (fun x => decide (x < 0)) 17 13 (zz_ev tX12_queued) L st M) ∧
  (∀ L st M, zz_ev tX12_queued 13 L st M = zo_pushI 0 14 (zz_ev tX12_queued) L st M) ∧
  (∀ L st M, zz_ev tX12_queued 14 L st M = zo_goto 18 (zz_ev tX12_queued) L st M) ∧
  (∀ L st M, zz_ev tX12_queued 17 L st M = zo_pushI 2 18 (zz_ev tX12_queued) L st M) ∧
  (∀ (L : zzLc) (a0 : Int32) (r : List Value) (M : zzMd), zz_ev tX12_queued 18 L (.int a0 :: .ref 0 :: r) M = bif zz_cat8 r then zz_backN (zz_ev tX12_queued) 21 L r (fX12_goes [.ref 0, .int a0] M) else none) ∧
  (∀ L st M, zz_ev tX12_queued 21 L st M = zo_if (fun x => decide (¬ x = 0)) 26 24 (zz_ev tX12_queued) L st M) ∧
  (∀ L st M, zz_ev tX12_queued 24 L st M = zo_pushI 0 25 (zz_ev tX12_queued) L st M) ∧
  (∀ L st M, zz_ev tX12_queued 25 L st M = zo_iret false (zz_ev tX12_queued) L st M) ∧
  (∀ L st M, zz_ev tX12_queued 26 L st M = zo_iload 2 27 (zz_ev tX12_queued) L st M) ∧
  (∀ L st M, zz_ev tX12_queued 27 L st M = zo_aload 0 28 (zz_ev tX12_queued) L st M) ∧
  (∀ (L : zzLc) (r : List Value) (M : zzMd), zz_ev tX12_queued 28 L (.ref 0 :: r) M = zz_ev tX12_queued 31 L (.ref 31 :: r) M) ∧
  (∀ L st M, zz_ev tX12_queued 31 L st M = zo_iload 1 32 (zz_ev tX12_queued) L st M) ∧
  (∀ L st M, zz_ev tX12_queued 32 L st M = zo_iald zzSR zzSTR 33 (zz_ev tX12_queued) L st M) ∧
  (∀ L st M, zz_ev tX12_queued 33 L st M = zo_icmp (fun x y => decide (y ≤ x)) 50 36 (zz_ev tX12_queued) L st M) ∧
  (∀ L st M, zz_ev tX12_queued 36 L st M = zo_aload 0 37 (zz_ev tX12_queued) L st M) ∧
  (∀ (L : zzLc) (r : List Value) (M : zzMd), zz_ev tX12_queued 37 L (.ref 0 :: r) M = zz_ev tX12_queued 40 L (.ref 32 :: r) M) ∧
  (∀ L st M, zz_ev tX12_queued 40 L st M = zo_pushI 60 42 (zz_ev tX12_queued) L st M) ∧
  (∀ L st M, zz_ev tX12_queued 42 L st M = zo_iload 1 43 (zz_ev tX12_queued) L st M) ∧
  (∀ L st M, zz_ev tX12_queued 43 L st M = zo_ii (fun x y => x * y) 44 (zz_ev tX12_queued) L st M) ∧
  (∀ L st M, zz_ev tX12_queued 44 L st M = zo_iload 2 45 (zz_ev tX12_queued) L st M) ∧
  (∀ L st M, zz_ev tX12_queued 45 L st M = zo_ii (fun x y => x + y) 46 (zz_ev tX12_queued) L st M) ∧
  (∀ L st M, zz_ev tX12_queued 46 L st M = zo_iald zzSR zzSTR 47 (zz_ev tX12_queued) L st M) ∧
  (∀ L st M, zz_ev tX12_queued 47 L st M = zo_goto 51 (zz_ev tX12_queued) L st M) ∧
  (∀ L st M, zz_ev tX12_queued 50 L st M = zo_pushI (-1) 51 (zz_ev tX12_queued) L st M) ∧
  (∀ L st M, zz_ev tX12_queued 51 L st M = zo_iret false (zz_ev tX12_queued) L st M) :=
  ⟨zz_1 rfl tl_X12_queued, zz_1 rfl tl_X12_queued, fun L a0 r M => (zz_1 rfl tl_X12_queued _ _ _).trans rfl, zz_1 rfl tl_X12_queued, zz_1 rfl tl_X12_queued, zz_1 rfl tl_X12_queued, zz_1 rfl tl_X12_queued, zz_1 rfl tl_X12_queued, zz_1 rfl tl_X12_queued, zz_1 rfl tl_X12_queued, fun L a0 r M => (zz_1 rfl tl_X12_queued _ _ _).trans rfl, zz_1 rfl tl_X12_queued, zz_1 rfl tl_X12_queued, zz_1 rfl tl_X12_queued, zz_1 rfl tl_X12_queued, zz_1 rfl tl_X12_queued, fun L r M => (zz_1 rfl tl_X12_queued _ _ _).trans rfl, zz_1 rfl tl_X12_queued, zz_1 rfl tl_X12_queued, zz_1 rfl tl_X12_queued, zz_1 rfl tl_X12_queued, fun L r M => (zz_1 rfl tl_X12_queued _ _ _).trans rfl, zz_1 rfl tl_X12_queued, zz_1 rfl tl_X12_queued, zz_1 rfl tl_X12_queued, zz_1 rfl tl_X12_queued, zz_1 rfl tl_X12_queued, zz_1 rfl tl_X12_queued, zz_1 rfl tl_X12_queued, zz_1 rfl tl_X12_queued, zz_1 rfl tl_X12_queued⟩
set_option maxRecDepth 100000 in
theorem s_X12_queued (a0 a1 : Int32) (v : Nat) (M : zzMd) : fX12_queued [.ref v, .int a0, .int a1] M = zz_ev tX12_queued 0 [some (.ref v), some (.int a0), some (.int a1)] [] M := rfl
set_option maxRecDepth 100000 in
theorem e_X12_failures : (∀ L st M, zz_ev tX12_failures 0 L st M = zo_aload 0 1 (zz_ev tX12_failures) L st M) ∧
  (∀ L st M, zz_ev tX12_failures 1 L st M = zo_iload 1 2 (zz_ev tX12_failures) L st M) ∧
  (∀ (L : zzLc) (a0 : Int32) (r : List Value) (M : zzMd), zz_ev tX12_failures 2 L (.int a0 :: .ref 0 :: r) M = bif zz_cat8 r then zz_backN (zz_ev tX12_failures) 5 L r (fX12_asks [.ref 0, .int a0] M) else none) ∧
  (∀ L st M, zz_ev tX12_failures 5 L st M = zo_if (fun x => decide (x = 0)) 42 8 (zz_ev tX12_failures) L st M) ∧
  (∀ L st M, zz_ev tX12_failures 8 L st M = zo_aload 0 9 (zz_ev tX12_failures) L st M) ∧
  (∀ L st M, zz_ev tX12_failures 9 L st M = zo_aload 0 10 (zz_ev tX12_failures) L st M) ∧
  (∀ L st M, zz_ev tX12_failures 10 L st M = zo_iload 2 11 (zz_ev tX12_failures) L st M) ∧
  (∀ (L : zzLc) (a0 : Int32) (r : List Value) (M : zzMd), zz_ev tX12_failures 11 L (.int a0 :: .ref 0 :: r) M = bif zz_cat8 r then zz_backN (zz_ev tX12_failures) 14 L r (fX12_isObject [.ref 0, .int a0] M) else none) ∧
  (∀ L st M, zz_ev tX12_failures 14 L st M = zo_if (fun x => decide (x = 0)) 21 17 (zz_ev tX12_failures) L st M) ∧
  (∀ L st M, zz_ev tX12_failures 17 L st M = zo_pushI 0 18 (zz_ev tX12_failures) L st M) ∧
  (∀ L st M, zz_ev tX12_failures 18 L st M = zo_goto 22 (zz_ev tX12_failures) L st M) ∧
  (∀ L st M, zz_ev tX12_failures 21 L st M = zo_pushI 2 22 (zz_ev tX12_failures) L st M) ∧
  (∀ (L : zzLc) (a0 : Int32) (r : List Value) (M : zzMd), zz_ev tX12_failures 22 L (.int a0 :: .ref 0 :: r) M = bif zz_cat8 r then zz_backN (zz_ev tX12_failures) 25 L r (fX12_goes [.ref 0, .int a0] M) else none) ∧
  (∀ L st M, zz_ev tX12_failures 25 L st M = zo_if (fun x => decide (x = 0)) 42 28 (zz_ev tX12_failures) L st M) ∧
  (∀ L st M, zz_ev tX12_failures 28 L st M = zo_aload 0 29 (zz_ev tX12_failures) L st M) ∧
  (∀ (L : zzLc) (r : List Value) (M : zzMd), zz_ev tX12_failures 29 L (.ref 0 :: r) M = zz_ev tX12_failures 32 L (.ref 33 :: r) M) ∧
  (∀ L st M, zz_ev tX12_failures 32 L st M = zo_pushI 60 34 (zz_ev tX12_failures) L st M) ∧
  (∀ L st M, zz_ev tX12_failures 34 L st M = zo_iload 1 35 (zz_ev tX12_failures) L st M) ∧
  (∀ L st M, zz_ev tX12_failures 35 L st M = zo_ii (fun x y => x * y) 36 (zz_ev tX12_failures) L st M) ∧
  (∀ L st M, zz_ev tX12_failures 36 L st M = zo_iload 2 37 (zz_ev tX12_failures) L st M) ∧
  (∀ L st M, zz_ev tX12_failures 37 L st M = zo_ii (fun x y => x + y) 38 (zz_ev tX12_failures) L st M) ∧
  (∀ L st M, zz_ev tX12_failures 38 L st M = zo_iald zzSR zzSTR 39 (zz_ev tX12_failures) L st M) ∧
  (∀ L st M, zz_ev tX12_failures 39 L st M = zo_goto 43 (zz_ev tX12_failures) L st M) ∧
  (∀ L st M, zz_ev tX12_failures 42 L st M = zo_pushI 0 43 (zz_ev tX12_failures) L st M) ∧
  (∀ L st M, zz_ev tX12_failures 43 L st M = zo_iret false (zz_ev tX12_failures) L st M) :=
  ⟨zz_1 rfl tl_X12_failures, zz_1 rfl tl_X12_failures, fun L a0 r M => (zz_1 rfl tl_X12_failures _ _ _).trans rfl, zz_1 rfl tl_X12_failures, zz_1 rfl tl_X12_failures, zz_1 rfl tl_X12_failures, zz_1 rfl tl_X12_failures, fun L a0 r M => (zz_1 rfl tl_X12_failures _ _ _).trans rfl, zz_1 rfl tl_X12_failures, zz_1 rfl tl_X12_failures, zz_1 rfl tl_X12_failures, zz_1 rfl tl_X12_failures, fun L a0 r M => (zz_1 rfl tl_X12_failures _ _ _).trans rfl, zz_1 rfl tl_X12_failures, zz_1 rfl tl_X12_failures, fun L r M => (zz_1 rfl tl_X12_failures _ _ _).trans rfl, zz_1 rfl tl_X12_failures, zz_1 rfl tl_X12_failures, zz_1 rfl tl_X12_failures, zz_1 rfl tl_X12_failures, zz_1 rfl tl_X12_failures, zz_1 rfl tl_X12_failures, zz_1 rfl tl_X12_failures, zz_1 rfl tl_X12_failures, zz_1 rfl tl_X12_failures⟩
set_option maxRecDepth 100000 in
theorem s_X12_failures (a0 a1 : Int32) (v : Nat) (M : zzMd) : fX12_failures [.ref v, .int a0, .int a1] M = zz_ev tX12_failures 0 [some (.ref v), some (.int a0), some (.int a1)] [] M := rfl
set_option maxRecDepth 100000 in
theorem e_X12_believed : (∀ L st M, zz_ev tX12_believed 0 L st M = zo_aload 0 1 (zz_ev tX12_believed) L st M) ∧
  (∀ L st M, zz_ev tX12_believed 1 L st M = zo_iload 1 2 (zz_ev tX12_believed) L st M) ∧
  (∀ (L : zzLc) (a0 : Int32) (r : List Value) (M : zzMd), zz_ev tX12_believed 2 L (.int a0 :: .ref 0 :: r) M = bif zz_cat8 r then zz_backN (zz_ev tX12_believed) 5 L r (fX12_asks [.ref 0, .int a0] M) else none) ∧
  (∀ L st M, zz_ev tX12_believed 5 L st M = zo_if (fun x => decide (x = 0)) 54 8 (zz_ev tX12_believed) L st M) ∧
  (∀ L st M, zz_ev tX12_believed 8 L st M = zo_aload 0 9 (zz_ev tX12_believed) L st M) ∧
  (∀ L st M, zz_ev tX12_believed 9 L st M = zo_aload 0 10 (zz_ev tX12_believed) L st M) ∧
  (∀ L st M, zz_ev tX12_believed 10 L st M = zo_iload 2 11 (zz_ev tX12_believed) L st M) ∧
  (∀ (L : zzLc) (a0 : Int32) (r : List Value) (M : zzMd), zz_ev tX12_believed 11 L (.int a0 :: .ref 0 :: r) M = bif zz_cat8 r then zz_backN (zz_ev tX12_believed) 14 L r (fX12_isObject [.ref 0, .int a0] M) else none) ∧
  (∀ L st M, zz_ev tX12_believed 14 L st M = zo_if (fun x => decide (x = 0)) 21 17 (zz_ev tX12_believed) L st M) ∧
  (∀ L st M, zz_ev tX12_believed 17 L st M = zo_pushI 0 18 (zz_ev tX12_believed) L st M) ∧
  (∀ L st M, zz_ev tX12_believed 18 L st M = zo_goto 22 (zz_ev tX12_believed) L st M) ∧
  (∀ L st M, zz_ev tX12_believed 21 L st M = zo_pushI 2 22 (zz_ev tX12_believed) L st M) ∧
  (∀ (L : zzLc) (a0 : Int32) (r : List Value) (M : zzMd), zz_ev tX12_believed 22 L (.int a0 :: .ref 0 :: r) M = bif zz_cat8 r then zz_backN (zz_ev tX12_believed) 25 L r (fX12_goes [.ref 0, .int a0] M) else none) ∧
  (∀ L st M, zz_ev tX12_believed 25 L st M = zo_if (fun x => decide (x = 0)) 54 28 (zz_ev tX12_believed) L st M) ∧
  (∀ L st M, zz_ev tX12_believed 28 L st M = zo_aload 0 29 (zz_ev tX12_believed) L st M) ∧
  (∀ L st M, zz_ev tX12_believed 29 L st M = zo_aload 0 30 (zz_ev tX12_believed) L st M) ∧
  (∀ L st M, zz_ev tX12_believed 30 L st M = zo_aload 0 31 (zz_ev tX12_believed) L st M) ∧
  (∀ (L : zzLc) (r : List Value) (M : zzMd), zz_ev tX12_believed 31 L (.ref 0 :: r) M = zz_ev tX12_believed 34 L (.ref 6 :: r) M) ∧
  (∀ L st M, zz_ev tX12_believed 34 L st M = zo_iload 2 35 (zz_ev tX12_believed) L st M) ∧
  (∀ L st M, zz_ev tX12_believed 35 L st M = zo_iald zzSR zzSTR 36 (zz_ev tX12_believed) L st M) ∧
  (∀ L st M, zz_ev tX12_believed 36 L st M = zo_iload 3 37 (zz_ev tX12_believed) L st M) ∧
  (∀ (L : zzLc) (a0 a1 : Int32) (r : List Value) (M : zzMd), zz_ev tX12_believed 37 L (.int a1 :: .int a0 :: .ref 0 :: r) M = bif zz_cat8 r then zz_backN (zz_ev tX12_believed) 40 L r (fX12_hasField [.ref 0, .int a0, .int a1] M) else none) ∧
  (∀ L st M, zz_ev tX12_believed 40 L st M = zo_if (fun x => decide (x = 0)) 47 43 (zz_ev tX12_believed) L st M) ∧
  (∀ L st M, zz_ev tX12_believed 43 L st M = zo_pushI 0 44 (zz_ev tX12_believed) L st M) ∧
  (∀ L st M, zz_ev tX12_believed 44 L st M = zo_goto 48 (zz_ev tX12_believed) L st M) ∧
  (∀ L st M, zz_ev tX12_believed 47 L st M = zo_pushI 1 48 (zz_ev tX12_believed) L st M) ∧
  (∀ (L : zzLc) (a0 : Int32) (r : List Value) (M : zzMd), zz_ev tX12_believed 48 L (.int a0 :: .ref 0 :: r) M = bif zz_cat8 r then zz_backN (zz_ev tX12_believed) 51 L r (fX12_goes [.ref 0, .int a0] M) else none) ∧
  (∀ L st M, zz_ev tX12_believed 51 L st M = zo_if (fun x => decide (¬ x = 0)) 56 54 (zz_ev tX12_believed) L st M) ∧
  (∀ L st M, zz_ev tX12_believed 54 L st M = zo_pushI 0 55 (zz_ev tX12_believed) L st M) ∧
  (∀ L st M, zz_ev tX12_believed 55 L st M = zo_iret false (zz_ev tX12_believed) L st M) ∧
  (∀ L st M, zz_ev tX12_believed 56 L st M = zo_aload 0 57 (zz_ev tX12_believed) L st M) ∧
  (∀ (L : zzLc) (r : List Value) (M : zzMd), zz_ev tX12_believed 57 L (.ref 0 :: r) M = zz_ev tX12_believed 60 L (.ref 27 :: r) M) ∧
  (∀ L st M, zz_ev tX12_believed 60 L st M = zo_pushI 60 62 (zz_ev tX12_believed) L st M) ∧
  (∀ L st M, zz_ev tX12_believed 62 L st M = zo_iload 1 63 (zz_ev tX12_believed) L st M) ∧
  (∀ L st M, zz_ev tX12_believed 63 L st M = zo_ii (fun x y => x * y) 64 (zz_ev tX12_believed) L st M) ∧
  (∀ L st M, zz_ev tX12_believed 64 L st M = zo_iload 2 65 (zz_ev tX12_believed) L st M) ∧
  (∀ L st M, zz_ev tX12_believed 65 L st M = zo_ii (fun x y => x + y) 66 (zz_ev tX12_believed) L st M) ∧
  (∀ L st M, zz_ev tX12_believed 66 L st M = zo_zald zzSR 67 (zz_ev tX12_believed) L st M) ∧
  (∀ L st M, zz_ev tX12_believed 67 L st M = zo_if (fun x => decide (x = 0)) 89 70 (zz_ev tX12_believed) L st M) ∧
  (∀ L st M, zz_ev tX12_believed 70 L st M = zo_aload 0 71 (zz_ev tX12_believed) L st M) ∧
  (∀ L st M, zz_ev tX12_believed 71 L st M = zo_aload 0 72 (zz_ev tX12_believed) L st M) ∧
  (∀ (L : zzLc) (r : List Value) (M : zzMd), zz_ev tX12_believed 72 L (.ref 0 :: r) M = zz_ev tX12_believed 75 L (.ref 28 :: r) M) ∧
  (∀ L st M, zz_ev tX12_believed 75 L st M = zo_pushI 60 77 (zz_ev tX12_believed) L st M) ∧
  (∀ L st M, zz_ev tX12_believed 77 L st M = zo_iload 1 78 (zz_ev tX12_believed) L st M) ∧
  (∀ L st M, zz_ev tX12_believed 78 L st M = zo_ii (fun x y => x * y) 79 (zz_ev tX12_believed) L st M) ∧
  (∀ L st M, zz_ev tX12_believed 79 L st M = zo_iload 2 80 (zz_ev tX12_believed) L st M) ∧
  (∀ L st M, zz_ev tX12_believed 80 L st M = zo_ii (fun x y => x + y) 81 (zz_ev tX12_believed) L st M) ∧
  (∀ L st M, zz_ev tX12_believed 81 L st M = zo_lald zzSR 82 (zz_ev tX12_believed) L st M) ∧
  (∀ L st M, zz_ev tX12_believed 82 L st M = zo_iload 3 83 (zz_ev tX12_believed) L st M) ∧
  (∀ (L : zzLc) (a1 : Int32) (a0 : Int64) (r : List Value) (M : zzMd), zz_ev tX12_believed 83 L (.int a1 :: .long a0 :: .ref 0 :: r) M = bif zz_cat8 r then zz_backN (zz_ev tX12_believed) 86 L r (fX12_get [.ref 0, .long a0, .int a1] M) else none) ∧
  (∀ L st M, zz_ev tX12_believed 86 L st M = zo_goto 90 (zz_ev tX12_believed) L st M) ∧
  (∀ L st M, zz_ev tX12_believed 89 L st M = zo_pushI (-1) 90 (zz_ev tX12_believed) L st M) ∧
  (∀ L st M, zz_ev tX12_believed 90 L st M = zo_iret false (zz_ev tX12_believed) L st M) :=
  ⟨zz_1 rfl tl_X12_believed, zz_1 rfl tl_X12_believed, fun L a0 r M => (zz_1 rfl tl_X12_believed _ _ _).trans rfl, zz_1 rfl tl_X12_believed, zz_1 rfl tl_X12_believed, zz_1 rfl tl_X12_believed, zz_1 rfl tl_X12_believed, fun L a0 r M => (zz_1 rfl tl_X12_believed _ _ _).trans rfl, zz_1 rfl tl_X12_believed, zz_1 rfl tl_X12_believed, zz_1 rfl tl_X12_believed, zz_1 rfl tl_X12_believed, fun L a0 r M => (zz_1 rfl tl_X12_believed _ _ _).trans rfl, zz_1 rfl tl_X12_believed, zz_1 rfl tl_X12_believed, zz_1 rfl tl_X12_believed, zz_1 rfl tl_X12_believed, fun L r M => (zz_1 rfl tl_X12_believed _ _ _).trans rfl, zz_1 rfl tl_X12_believed, zz_1 rfl tl_X12_believed, zz_1 rfl tl_X12_believed, fun L a0 a1 r M => (zz_1 rfl tl_X12_believed _ _ _).trans rfl, zz_1 rfl tl_X12_believed, zz_1 rfl tl_X12_believed, zz_1 rfl tl_X12_believed, zz_1 rfl tl_X12_believed, fun L a0 r M => (zz_1 rfl tl_X12_believed _ _ _).trans rfl, zz_1 rfl tl_X12_believed, zz_1 rfl tl_X12_believed, zz_1 rfl tl_X12_believed, zz_1 rfl tl_X12_believed, fun L r M => (zz_1 rfl tl_X12_believed _ _ _).trans rfl, zz_1 rfl tl_X12_believed, zz_1 rfl tl_X12_believed, zz_1 rfl tl_X12_believed, zz_1 rfl tl_X12_believed, zz_1 rfl tl_X12_believed, zz_1 rfl tl_X12_believed, zz_1 rfl tl_X12_believed, zz_1 rfl tl_X12_believed, zz_1 rfl tl_X12_believed, fun L r M => (zz_1 rfl tl_X12_believed _ _ _).trans rfl, zz_1 rfl tl_X12_believed, zz_1 rfl tl_X12_believed, zz_1 rfl tl_X12_believed, zz_1 rfl tl_X12_believed, zz_1 rfl tl_X12_believed, zz_1 rfl tl_X12_believed, zz_1 rfl tl_X12_believed, fun L a1 a0 r M => (zz_1 rfl tl_X12_believed _ _ _).trans rfl, zz_1 rfl tl_X12_believed, zz_1 rfl tl_X12_believed, zz_1 rfl tl_X12_believed⟩
set_option maxRecDepth 100000 in
theorem s_X12_believed (a0 a1 a2 : Int32) (v : Nat) (M : zzMd) : fX12_believed [.ref v, .int a0, .int a1, .int a2] M = zz_ev tX12_believed 0 [some (.ref v), some (.int a0), some (.int a1), some (.int a2)] [] M := rfl
set_option maxRecDepth 100000 in
theorem e_X12_isSettled : (∀ L st M, zz_ev tX12_isSettled 0 L st M = zo_aload 0 1 (zz_ev tX12_isSettled) L st M) ∧
  (∀ L st M, zz_ev tX12_isSettled 1 L st M = zo_pushI 0 2 (zz_ev tX12_isSettled) L st M) ∧
  (∀ (L : zzLc) (x : Int32) (r : List Value) (M : zzMd), zz_ev tX12_isSettled 2 L (.int x :: .ref 0 :: r) M = zz_ev tX12_isSettled 5 L r (zz_sI M 0 49 x)) ∧
  (∀ L st M, zz_ev tX12_isSettled 5 L st M = zo_pushI 1 6 (zz_ev tX12_isSettled) L st M) ∧
  (∀ L st M, zz_ev tX12_isSettled 6 L st M = zo_istore 1 7 (zz_ev tX12_isSettled) L st M) ∧
  (∀ L st M, zz_ev tX12_isSettled 7 L st M = zo_pushI 0 8 (zz_ev tX12_isSettled) L st M) ∧
  (∀ L st M, zz_ev tX12_isSettled 8 L st M = zo_istore 2 9 (zz_ev tX12_isSettled) L st M) ∧
  (∀ L st M, zz_ev tX12_isSettled 10 L st M = zo_pushI 8 12 (zz_ev tX12_isSettled) L st M) ∧
  (∀ L st M, zz_ev tX12_isSettled 12 L st M = zo_icmp (fun x y => decide (y ≤ x)) 53 15 (zz_ev tX12_isSettled) L st M) ∧
  (∀ L st M, zz_ev tX12_isSettled 15 L st M = zo_iload 1 16 (zz_ev tX12_isSettled) L st M) ∧
  (∀ L st M, zz_ev tX12_isSettled 16 L st M = zo_if (fun x => decide (x = 0)) 45 19 (zz_ev tX12_isSettled) L st M) ∧
  (∀ L st M, zz_ev tX12_isSettled 19 L st M = zo_aload 0 20 (zz_ev tX12_isSettled) L st M) ∧
  (∀ (L : zzLc) (r : List Value) (M : zzMd), zz_ev tX12_isSettled 20 L (.ref 0 :: r) M = zz_ev tX12_isSettled 23 L (.ref 26 :: r) M) ∧
  (∀ L st M, zz_ev tX12_isSettled 23 L st M = zo_iload 2 24 (zz_ev tX12_isSettled) L st M) ∧
  (∀ L st M, zz_ev tX12_isSettled 24 L st M = zo_iald zzSR zzSTR 25 (zz_ev tX12_isSettled) L st M) ∧
  (∀ L st M, zz_ev tX12_isSettled 25 L st M = zo_aload 0 26 (zz_ev tX12_isSettled) L st M) ∧
  (∀ (L : zzLc) (r : List Value) (M : zzMd), zz_ev tX12_isSettled 26 L (.ref 0 :: r) M = zz_ev tX12_isSettled 29 L (.int (M.1 0 14) :: r) M) ∧
  (∀ L st M, zz_ev tX12_isSettled 29 L st M = zo_icmp (fun x y => decide (¬ x = y)) 45 32 (zz_ev tX12_isSettled) L st M) ∧
  (∀ L st M, zz_ev tX12_isSettled 32 L st M = zo_aload 0 33 (zz_ev tX12_isSettled) L st M) ∧
  (∀ (L : zzLc) (r : List Value) (M : zzMd), zz_ev tX12_isSettled 33 L (.ref 0 :: r) M = zz_ev tX12_isSettled 36 L (.ref 31 :: r) M) ∧
  (∀ L st M, zz_ev tX12_isSettled 36 L st M = zo_iload 2 37 (zz_ev tX12_isSettled) L st M) ∧
  (∀ L st M, zz_ev tX12_isSettled 37 L st M = zo_iald zzSR zzSTR 38 (zz_ev tX12_isSettled) L st M) ∧
  (∀ L st M, zz_ev tX12_isSettled 38 L st M = zo_if (fun x => decide (¬ x = 0)) 45 41 (zz_ev tX12_isSettled) L st M) ∧
  (∀ L st M, zz_ev tX12_isSettled 41 L st M = zo_pushI 1 42 (zz_ev tX12_isSettled) L st M) ∧
  (∀ L st M, zz_ev tX12_isSettled 42 L st M = zo_goto 46 (zz_ev tX12_isSettled) L st M) ∧
  (∀ L st M, zz_ev tX12_isSettled 45 L st M = zo_pushI 0 46 (zz_ev tX12_isSettled) L st M) ∧
  (∀ L st M, zz_ev tX12_isSettled 46 L st M = zo_istore 1 47 (zz_ev tX12_isSettled) L st M) ∧
  (∀ L st M, zz_ev tX12_isSettled 47 L st M = zo_iinc 2 1 50 (zz_ev tX12_isSettled) L st M) ∧
  (∀ L st M, zz_ev tX12_isSettled 50 L st M = zo_goto 9 (zz_ev tX12_isSettled) L st M) ∧
  (∀ L st M, zz_ev tX12_isSettled 53 L st M = zo_iload 1 54 (zz_ev tX12_isSettled) L st M) ∧
  (∀ L st M, zz_ev tX12_isSettled 54 L st M = zo_iret true (zz_ev tX12_isSettled) L st M) :=
  ⟨zz_1 rfl tl_X12_isSettled, zz_1 rfl tl_X12_isSettled, fun L x r M => (zz_1 rfl tl_X12_isSettled _ _ _).trans rfl, zz_1 rfl tl_X12_isSettled, zz_1 rfl tl_X12_isSettled, zz_1 rfl tl_X12_isSettled, zz_1 rfl tl_X12_isSettled, zz_1 rfl tl_X12_isSettled, zz_1 rfl tl_X12_isSettled, zz_1 rfl tl_X12_isSettled, zz_1 rfl tl_X12_isSettled, zz_1 rfl tl_X12_isSettled, fun L r M => (zz_1 rfl tl_X12_isSettled _ _ _).trans rfl, zz_1 rfl tl_X12_isSettled, zz_1 rfl tl_X12_isSettled, zz_1 rfl tl_X12_isSettled, fun L r M => (zz_1 rfl tl_X12_isSettled _ _ _).trans rfl, zz_1 rfl tl_X12_isSettled, zz_1 rfl tl_X12_isSettled, fun L r M => (zz_1 rfl tl_X12_isSettled _ _ _).trans rfl, zz_1 rfl tl_X12_isSettled, zz_1 rfl tl_X12_isSettled, zz_1 rfl tl_X12_isSettled, zz_1 rfl tl_X12_isSettled, zz_1 rfl tl_X12_isSettled, zz_1 rfl tl_X12_isSettled, zz_1 rfl tl_X12_isSettled, zz_1 rfl tl_X12_isSettled, zz_1 rfl tl_X12_isSettled, zz_1 rfl tl_X12_isSettled, zz_1 rfl tl_X12_isSettled⟩
set_option maxRecDepth 100000 in
theorem e_X12_isSettled_9 : (∀ L st M, zz_ev tX12_isSettled 9 L st M = zo_iload 2 10 (zz_ev tX12_isSettled) L st M) := zz_1 rfl tl_X12_isSettled
set_option maxRecDepth 100000 in
theorem s_X12_isSettled (v : Nat) (M : zzMd) : fX12_isSettled [.ref v] M = zz_ev tX12_isSettled 0 [some (.ref v), none, none] [] M := rfl
set_option maxRecDepth 100000 in
theorem e_X12_isReader : (∀ L st M, zz_ev tX12_isReader 0 L st M = zo_iload 0 1 (zz_ev tX12_isReader) L st M) ∧
  (∀ L st M, zz_ev tX12_isReader 1 L st M = zo_pushI 0 2 (zz_ev tX12_isReader) L st M) ∧
  (∀ L st M, zz_ev tX12_isReader 2 L st M = zo_pushI 3 3 (zz_ev tX12_isReader) L st M) ∧
  (∀ (L : zzLc) (a0 a1 a2 : Int32) (r : List Value) (M : zzMd), zz_ev tX12_isReader 3 L (.int a2 :: .int a1 :: .int a0 :: r) M = bif zz_cat8 r then zz_backN (zz_ev tX12_isReader) 6 L r (fX12_isIn [.int a0, .int a1, .int a2] M) else none) ∧
  (∀ L st M, zz_ev tX12_isReader 6 L st M = zo_iret true (zz_ev tX12_isReader) L st M) :=
  ⟨zz_1 rfl tl_X12_isReader, zz_1 rfl tl_X12_isReader, zz_1 rfl tl_X12_isReader, fun L a0 a1 a2 r M => (zz_1 rfl tl_X12_isReader _ _ _).trans rfl, zz_1 rfl tl_X12_isReader⟩
set_option maxRecDepth 100000 in
theorem s_X12_isReader (a0 : Int32) (M : zzMd) : fX12_isReader [.int a0] M = zz_ev tX12_isReader 0 [some (.int a0)] [] M := rfl
set_option maxRecDepth 100000 in
theorem e_X12_watch : (∀ L st M, zz_ev tX12_watch 0 L st M = zo_aload 0 1 (zz_ev tX12_watch) L st M) ∧
  (∀ L st M, zz_ev tX12_watch 1 L st M = zo_iload 1 2 (zz_ev tX12_watch) L st M) ∧
  (∀ (L : zzLc) (a0 : Int32) (r : List Value) (M : zzMd), zz_ev tX12_watch 2 L (.int a0 :: r) M = bif zz_cat8 r then zz_backN (zz_ev tX12_watch) 5 L r (fX12_isReader [.int a0] M) else none) ∧
  (∀ L st M, zz_ev tX12_watch 5 L st M = zo_if (fun x => decide (x = 0)) 20 8 (zz_ev tX12_watch) L st M) ∧
  (∀ L st M, zz_ev tX12_watch 8 L st M = zo_iload 2 9 (zz_ev tX12_watch) L st M) ∧
  (∀ L st M, zz_ev tX12_watch 9 L st M = zo_pushI 0 10 (zz_ev tX12_watch) L st M) ∧
  (∀ L st M, zz_ev tX12_watch 10 L st M = zo_aload 0 11 (zz_ev tX12_watch) L st M) ∧
  (∀ (L : zzLc) (r : List Value) (M : zzMd), zz_ev tX12_watch 11 L (.ref 0 :: r) M = zz_ev tX12_watch 14 L (.int (M.1 0 14) :: r) M) ∧
  (∀ (L : zzLc) (a0 a1 a2 : Int32) (r : List Value) (M : zzMd), zz_ev tX12_watch 14 L (.int a2 :: .int a1 :: .int a0 :: r) M = bif zz_cat8 r then zz_backN (zz_ev tX12_watch) 17 L r (fX12_isIn [.int a0, .int a1, .int a2] M) else none) ∧
  (∀ L st M, zz_ev tX12_watch 17 L st M = zo_if (fun x => decide (¬ x = 0)) 24 20 (zz_ev tX12_watch) L st M) ∧
  (∀ L st M, zz_ev tX12_watch 20 L st M = zo_pushI 1 21 (zz_ev tX12_watch) L st M) ∧
  (∀ L st M, zz_ev tX12_watch 21 L st M = zo_goto 37 (zz_ev tX12_watch) L st M) ∧
  (∀ L st M, zz_ev tX12_watch 24 L st M = zo_iload 2 25 (zz_ev tX12_watch) L st M) ∧
  (∀ L st M, zz_ev tX12_watch 25 L st M = zo_aload 0 26 (zz_ev tX12_watch) L st M) ∧
  (∀ (L : zzLc) (r : List Value) (M : zzMd), zz_ev tX12_watch 26 L (.ref 0 :: r) M = zz_ev tX12_watch 29 L (.int (M.1 0 15) :: r) M) ∧
  (∀ L st M, zz_ev tX12_watch 29 L st M = zo_icmp (fun x y => decide (y ≤ x)) 36 32 (zz_ev tX12_watch) L st M) ∧
  (∀ L st M, zz_ev tX12_watch 32 L st M = zo_pushI 2 33 (zz_ev tX12_watch) L st M) ∧
  (∀ L st M, zz_ev tX12_watch 33 L st M = zo_goto 37 (zz_ev tX12_watch) L st M) ∧
  (∀ L st M, zz_ev tX12_watch 36 L st M = zo_pushI 0 37 (zz_ev tX12_watch) L st M) ∧
  (∀ (L : zzLc) (a0 : Int32) (r : List Value) (M : zzMd), zz_ev tX12_watch 37 L (.int a0 :: .ref 0 :: r) M = bif zz_cat8 r then zz_backN (zz_ev tX12_watch) 40 L r (fX12_goes [.ref 0, .int a0] M) else none) ∧
  (∀ L st M, zz_ev tX12_watch 40 L st M = zo_if (fun x => decide (¬ x = 0)) 45 43 (zz_ev tX12_watch) L st M) ∧
  (∀ L st M, zz_ev tX12_watch 43 L st M = zo_pushI 0 44 (zz_ev tX12_watch) L st M) ∧
  (∀ L st M, zz_ev tX12_watch 44 L st M = zo_iret false (zz_ev tX12_watch) L st M) ∧
  (∀ L st M, zz_ev tX12_watch 45 L st M = zo_aload 0 46 (zz_ev tX12_watch) L st M) ∧
  (∀ (L : zzLc) (r : List Value) (M : zzMd), zz_ev tX12_watch 46 L (.ref 0 :: r) M = zz_ev tX12_watch 49 L (.ref 38 :: r) M) ∧
  (∀ L st M, zz_ev tX12_watch 49 L st M = zo_iload 1 50 (zz_ev tX12_watch) L st M) ∧
  (∀ L st M, zz_ev tX12_watch 50 L st M = zo_iload 2 51 (zz_ev tX12_watch) L st M) ∧
  (∀ L st M, zz_ev tX12_watch 51 L st M = zo_iast zzSR 52 (zz_ev tX12_watch) L st M) ∧
  (∀ L st M, zz_ev tX12_watch 52 L st M = zo_aload 0 53 (zz_ev tX12_watch) L st M) ∧
  (∀ (L : zzLc) (r : List Value) (M : zzMd), zz_ev tX12_watch 53 L (.ref 0 :: r) M = zz_ev tX12_watch 56 L (.int (M.1 0 14) :: r) M) ∧
  (∀ L st M, zz_ev tX12_watch 56 L st M = zo_iload 2 57 (zz_ev tX12_watch) L st M) ∧
  (∀ L st M, zz_ev tX12_watch 57 L st M = zo_ii (fun x y => x - y) 58 (zz_ev tX12_watch) L st M) ∧
  (∀ L st M, zz_ev tX12_watch 58 L st M = zo_iret false (zz_ev tX12_watch) L st M) :=
  ⟨zz_1 rfl tl_X12_watch, zz_1 rfl tl_X12_watch, fun L a0 r M => (zz_1 rfl tl_X12_watch _ _ _).trans rfl, zz_1 rfl tl_X12_watch, zz_1 rfl tl_X12_watch, zz_1 rfl tl_X12_watch, zz_1 rfl tl_X12_watch, fun L r M => (zz_1 rfl tl_X12_watch _ _ _).trans rfl, fun L a0 a1 a2 r M => (zz_1 rfl tl_X12_watch _ _ _).trans rfl, zz_1 rfl tl_X12_watch, zz_1 rfl tl_X12_watch, zz_1 rfl tl_X12_watch, zz_1 rfl tl_X12_watch, zz_1 rfl tl_X12_watch, fun L r M => (zz_1 rfl tl_X12_watch _ _ _).trans rfl, zz_1 rfl tl_X12_watch, zz_1 rfl tl_X12_watch, zz_1 rfl tl_X12_watch, zz_1 rfl tl_X12_watch, fun L a0 r M => (zz_1 rfl tl_X12_watch _ _ _).trans rfl, zz_1 rfl tl_X12_watch, zz_1 rfl tl_X12_watch, zz_1 rfl tl_X12_watch, zz_1 rfl tl_X12_watch, fun L r M => (zz_1 rfl tl_X12_watch _ _ _).trans rfl, zz_1 rfl tl_X12_watch, zz_1 rfl tl_X12_watch, zz_1 rfl tl_X12_watch, zz_1 rfl tl_X12_watch, fun L r M => (zz_1 rfl tl_X12_watch _ _ _).trans rfl, zz_1 rfl tl_X12_watch, zz_1 rfl tl_X12_watch, zz_1 rfl tl_X12_watch⟩
set_option maxRecDepth 100000 in
theorem s_X12_watch (a0 a1 : Int32) (v : Nat) (M : zzMd) : fX12_watch [.ref v, .int a0, .int a1] M = zz_ev tX12_watch 0 [some (.ref v), some (.int a0), some (.int a1)] [] M := rfl
set_option maxRecDepth 100000 in
theorem e_X12_next : (∀ L st M, zz_ev tX12_next 0 L st M = zo_aload 0 1 (zz_ev tX12_next) L st M) ∧
  (∀ L st M, zz_ev tX12_next 1 L st M = zo_iload 1 2 (zz_ev tX12_next) L st M) ∧
  (∀ (L : zzLc) (a0 : Int32) (r : List Value) (M : zzMd), zz_ev tX12_next 2 L (.int a0 :: r) M = bif zz_cat8 r then zz_backN (zz_ev tX12_next) 5 L r (fX12_isReader [.int a0] M) else none) ∧
  (∀ L st M, zz_ev tX12_next 5 L st M = zo_if (fun x => decide (¬ x = 0)) 12 8 (zz_ev tX12_next) L st M) ∧
  (∀ L st M, zz_ev tX12_next 8 L st M = zo_pushI 1 9 (zz_ev tX12_next) L st M) ∧
  (∀ L st M, zz_ev tX12_next 9 L st M = zo_goto 13 (zz_ev tX12_next) L st M) ∧
  (∀ L st M, zz_ev tX12_next 12 L st M = zo_pushI 0 13 (zz_ev tX12_next) L st M) ∧
  (∀ (L : zzLc) (a0 : Int32) (r : List Value) (M : zzMd), zz_ev tX12_next 13 L (.int a0 :: .ref 0 :: r) M = bif zz_cat8 r then zz_backN (zz_ev tX12_next) 16 L r (fX12_goes [.ref 0, .int a0] M) else none) ∧
  (∀ L st M, zz_ev tX12_next 16 L st M = zo_if (fun x => decide (x = 0)) 44 19 (zz_ev tX12_next) L st M) ∧
  (∀ L st M, zz_ev tX12_next 19 L st M = zo_aload 0 20 (zz_ev tX12_next) L st M) ∧
  (∀ L st M, zz_ev tX12_next 20 L st M = zo_aload 0 21 (zz_ev tX12_next) L st M) ∧
  (∀ (L : zzLc) (r : List Value) (M : zzMd), zz_ev tX12_next 21 L (.ref 0 :: r) M = zz_ev tX12_next 24 L (.ref 38 :: r) M) ∧
  (∀ L st M, zz_ev tX12_next 24 L st M = zo_iload 1 25 (zz_ev tX12_next) L st M) ∧
  (∀ L st M, zz_ev tX12_next 25 L st M = zo_iald zzSR zzSTR 26 (zz_ev tX12_next) L st M) ∧
  (∀ L st M, zz_ev tX12_next 26 L st M = zo_aload 0 27 (zz_ev tX12_next) L st M) ∧
  (∀ (L : zzLc) (r : List Value) (M : zzMd), zz_ev tX12_next 27 L (.ref 0 :: r) M = zz_ev tX12_next 30 L (.int (M.1 0 15) :: r) M) ∧
  (∀ L st M, zz_ev tX12_next 30 L st M = zo_icmp (fun x y => decide (y ≤ x)) 37 33 (zz_ev tX12_next) L st M) ∧
  (∀ L st M, zz_ev tX12_next 33 L st M = zo_pushI 2 34 (zz_ev tX12_next) L st M) ∧
  (∀ L st M, zz_ev tX12_next 34 L st M = zo_goto 38 (zz_ev tX12_next) L st M) ∧
  (∀ L st M, zz_ev tX12_next 37 L st M = zo_pushI 0 38 (zz_ev tX12_next) L st M) ∧
  (∀ (L : zzLc) (a0 : Int32) (r : List Value) (M : zzMd), zz_ev tX12_next 38 L (.int a0 :: .ref 0 :: r) M = bif zz_cat8 r then zz_backN (zz_ev tX12_next) 41 L r (fX12_goes [.ref 0, .int a0] M) else none) ∧
  (∀ L st M, zz_ev tX12_next 41 L st M = zo_if (fun x => decide (¬ x = 0)) 46 44 (zz_ev tX12_next) L st M) ∧
  (∀ L st M, zz_ev tX12_next 44 L st M = zo_pushI 0 45 (zz_ev tX12_next) L st M) ∧
  (∀ L st M, zz_ev tX12_next 45 L st M = zo_iret false (zz_ev tX12_next) L st M) ∧
  (∀ L st M, zz_ev tX12_next 46 L st M = zo_aload 0 47 (zz_ev tX12_next) L st M) ∧
  (∀ (L : zzLc) (r : List Value) (M : zzMd), zz_ev tX12_next 47 L (.ref 0 :: r) M = zz_ev tX12_next 50 L (.ref 38 :: r) M) ∧
  (∀ L st M, zz_ev tX12_next 50 L st M = zo_iload 1 51 (zz_ev tX12_next) L st M) ∧
  (∀ L st M, zz_ev tX12_next 51 L st M = zo_iald zzSR zzSTR 52 (zz_ev tX12_next) L st M) ∧
  (∀ L st M, zz_ev tX12_next 52 L st M = zo_aload 0 53 (zz_ev tX12_next) L st M) ∧
  (∀ (L : zzLc) (r : List Value) (M : zzMd), zz_ev tX12_next 53 L (.ref 0 :: r) M = zz_ev tX12_next 56 L (.int (M.1 0 14) :: r) M) ∧
  (∀ L st M, zz_ev tX12_next 56 L st M = zo_icmp (fun x y => decide (¬ x = y)) 61 59 (zz_ev tX12_next) L st M) ∧
  (∀ L st M, zz_ev tX12_next 59 L st M = zo_pushI (-1) 60 (zz_ev tX12_next) L st M) ∧
  (∀ L st M, zz_ev tX12_next 60 L st M = zo_iret false (zz_ev tX12_next) L st M) ∧
  (∀ L st M, zz_ev tX12_next 61 L st M = zo_aload 0 62 (zz_ev tX12_next) L st M) ∧
  (∀ (L : zzLc) (r : List Value) (M : zzMd), zz_ev tX12_next 62 L (.ref 0 :: r) M = zz_ev tX12_next 65 L (.ref 38 :: r) M) ∧
  (∀ L st M, zz_ev tX12_next 65 L st M = zo_iload 1 66 (zz_ev tX12_next) L st M) ∧
  (∀ L st M, zz_ev tX12_next 66 L st M = zo_dup2 67 (zz_ev tX12_next) L st M) ∧
  (∀ L st M, zz_ev tX12_next 67 L st M = zo_iald zzSR zzSTR 68 (zz_ev tX12_next) L st M) ∧
  (∀ L st M, zz_ev tX12_next 68 L st M = zo_pushI 1 69 (zz_ev tX12_next) L st M) ∧
  (∀ L st M, zz_ev tX12_next 69 L st M = zo_ii (fun x y => x + y) 70 (zz_ev tX12_next) L st M) ∧
  (∀ L st M, zz_ev tX12_next 70 L st M = zo_iast zzSR 71 (zz_ev tX12_next) L st M) ∧
  (∀ L st M, zz_ev tX12_next 71 L st M = zo_aload 0 72 (zz_ev tX12_next) L st M) ∧
  (∀ (L : zzLc) (r : List Value) (M : zzMd), zz_ev tX12_next 72 L (.ref 0 :: r) M = zz_ev tX12_next 75 L (.ref 14 :: r) M) ∧
  (∀ L st M, zz_ev tX12_next 75 L st M = zo_aload 0 76 (zz_ev tX12_next) L st M) ∧
  (∀ (L : zzLc) (r : List Value) (M : zzMd), zz_ev tX12_next 76 L (.ref 0 :: r) M = zz_ev tX12_next 79 L (.ref 38 :: r) M) ∧
  (∀ L st M, zz_ev tX12_next 79 L st M = zo_iload 1 80 (zz_ev tX12_next) L st M) ∧
  (∀ L st M, zz_ev tX12_next 80 L st M = zo_iald zzSR zzSTR 81 (zz_ev tX12_next) L st M) ∧
  (∀ L st M, zz_ev tX12_next 81 L st M = zo_iald zzSR zzSTR 82 (zz_ev tX12_next) L st M) ∧
  (∀ L st M, zz_ev tX12_next 82 L st M = zo_iret false (zz_ev tX12_next) L st M) :=
  ⟨zz_1 rfl tl_X12_next, zz_1 rfl tl_X12_next, fun L a0 r M => (zz_1 rfl tl_X12_next _ _ _).trans rfl, zz_1 rfl tl_X12_next, zz_1 rfl tl_X12_next, zz_1 rfl tl_X12_next, zz_1 rfl tl_X12_next, fun L a0 r M => (zz_1 rfl tl_X12_next _ _ _).trans rfl, zz_1 rfl tl_X12_next, zz_1 rfl tl_X12_next, zz_1 rfl tl_X12_next, fun L r M => (zz_1 rfl tl_X12_next _ _ _).trans rfl, zz_1 rfl tl_X12_next, zz_1 rfl tl_X12_next, zz_1 rfl tl_X12_next, fun L r M => (zz_1 rfl tl_X12_next _ _ _).trans rfl, zz_1 rfl tl_X12_next, zz_1 rfl tl_X12_next, zz_1 rfl tl_X12_next, zz_1 rfl tl_X12_next, fun L a0 r M => (zz_1 rfl tl_X12_next _ _ _).trans rfl, zz_1 rfl tl_X12_next, zz_1 rfl tl_X12_next, zz_1 rfl tl_X12_next, zz_1 rfl tl_X12_next, fun L r M => (zz_1 rfl tl_X12_next _ _ _).trans rfl, zz_1 rfl tl_X12_next, zz_1 rfl tl_X12_next, zz_1 rfl tl_X12_next, fun L r M => (zz_1 rfl tl_X12_next _ _ _).trans rfl, zz_1 rfl tl_X12_next, zz_1 rfl tl_X12_next, zz_1 rfl tl_X12_next, zz_1 rfl tl_X12_next, fun L r M => (zz_1 rfl tl_X12_next _ _ _).trans rfl, zz_1 rfl tl_X12_next, zz_1 rfl tl_X12_next, zz_1 rfl tl_X12_next, zz_1 rfl tl_X12_next, zz_1 rfl tl_X12_next, zz_1 rfl tl_X12_next, zz_1 rfl tl_X12_next, fun L r M => (zz_1 rfl tl_X12_next _ _ _).trans rfl, zz_1 rfl tl_X12_next, fun L r M => (zz_1 rfl tl_X12_next _ _ _).trans rfl, zz_1 rfl tl_X12_next, zz_1 rfl tl_X12_next, zz_1 rfl tl_X12_next, zz_1 rfl tl_X12_next⟩
set_option maxRecDepth 100000 in
theorem s_X12_next (a0 : Int32) (v : Nat) (M : zzMd) : fX12_next [.ref v, .int a0] M = zz_ev tX12_next 0 [some (.ref v), some (.int a0)] [] M := rfl
set_option maxRecDepth 100000 in
theorem e_X12_list : (∀ L st M, zz_ev tX12_list 0 L st M = zo_aload 0 1 (zz_ev tX12_list) L st M) ∧
  (∀ L st M, zz_ev tX12_list 1 L st M = zo_iload 1 2 (zz_ev tX12_list) L st M) ∧
  (∀ (L : zzLc) (a0 : Int32) (r : List Value) (M : zzMd), zz_ev tX12_list 2 L (.int a0 :: r) M = bif zz_cat8 r then zz_backN (zz_ev tX12_list) 5 L r (fX12_isReader [.int a0] M) else none) ∧
  (∀ L st M, zz_ev tX12_list 5 L st M = zo_if (fun x => decide (x = 0)) 12 8 (zz_ev tX12_list) L st M) ∧
  (∀ L st M, zz_ev tX12_list 8 L st M = zo_pushI 0 9 (zz_ev tX12_list) L st M) ∧
  (∀ L st M, zz_ev tX12_list 9 L st M = zo_goto 13 (zz_ev tX12_list) L st M) ∧
  (∀ L st M, zz_ev tX12_list 12 L st M = zo_pushI 1 13 (zz_ev tX12_list) L st M) ∧
  (∀ (L : zzLc) (a0 : Int32) (r : List Value) (M : zzMd), zz_ev tX12_list 13 L (.int a0 :: .ref 0 :: r) M = bif zz_cat8 r then zz_backN (zz_ev tX12_list) 16 L r (fX12_goes [.ref 0, .int a0] M) else none) ∧
  (∀ L st M, zz_ev tX12_list 16 L st M = zo_if (fun x => decide (¬ x = 0)) 21 19 (zz_ev tX12_list) L st M) ∧
  (∀ L st M, zz_ev tX12_list 19 L st M = zo_pushI 0 20 (zz_ev tX12_list) L st M) ∧
  (∀ L st M, zz_ev tX12_list 20 L st M = zo_iret false (zz_ev tX12_list) L st M) ∧
  (∀ L st M, zz_ev tX12_list 21 L st M = zo_aload 0 22 (zz_ev tX12_list) L st M) ∧
  (∀ (L : zzLc) (r : List Value) (M : zzMd), zz_ev tX12_list 22 L (.ref 0 :: r) M = zz_ev tX12_list 25 L (.ref 38 :: r) M) ∧
  (∀ L st M, zz_ev tX12_list 25 L st M = zo_iload 1 26 (zz_ev tX12_list) L st M) ∧
  (∀ L st M, zz_ev tX12_list 26 L st M = zo_aload 0 27 (zz_ev tX12_list) L st M) ∧
  (∀ (L : zzLc) (r : List Value) (M : zzMd), zz_ev tX12_list 27 L (.ref 0 :: r) M = zz_ev tX12_list 30 L (.int (M.1 0 14) :: r) M) ∧
  (∀ L st M, zz_ev tX12_list 30 L st M = zo_iast zzSR 31 (zz_ev tX12_list) L st M) ∧
  (∀ L st M, zz_ev tX12_list 31 L st M = zo_pushI 0 32 (zz_ev tX12_list) L st M) ∧
  (∀ L st M, zz_ev tX12_list 32 L st M = zo_istore 2 33 (zz_ev tX12_list) L st M) ∧
  (∀ L st M, zz_ev tX12_list 33 L st M = zo_pushI 0 34 (zz_ev tX12_list) L st M) ∧
  (∀ L st M, zz_ev tX12_list 34 L st M = zo_istore 3 35 (zz_ev tX12_list) L st M) ∧
  (∀ L st M, zz_ev tX12_list 36 L st M = zo_aload 0 37 (zz_ev tX12_list) L st M) ∧
  (∀ (L : zzLc) (r : List Value) (M : zzMd), zz_ev tX12_list 37 L (.ref 0 :: r) M = zz_ev tX12_list 40 L (.int (M.1 0 5) :: r) M) ∧
  (∀ L st M, zz_ev tX12_list 40 L st M = zo_icmp (fun x y => decide (y ≤ x)) 65 43 (zz_ev tX12_list) L st M) ∧
  (∀ L st M, zz_ev tX12_list 43 L st M = zo_iload 2 44 (zz_ev tX12_list) L st M) ∧
  (∀ L st M, zz_ev tX12_list 44 L st M = zo_aload 0 45 (zz_ev tX12_list) L st M) ∧
  (∀ L st M, zz_ev tX12_list 45 L st M = zo_iload 3 46 (zz_ev tX12_list) L st M) ∧
  (∀ (L : zzLc) (a0 : Int32) (r : List Value) (M : zzMd), zz_ev tX12_list 46 L (.int a0 :: .ref 0 :: r) M = bif zz_cat8 r then zz_backN (zz_ev tX12_list) 49 L r (fX12_isGone [.ref 0, .int a0] M) else none) ∧
  (∀ L st M, zz_ev tX12_list 49 L st M = zo_if (fun x => decide (x = 0)) 56 52 (zz_ev tX12_list) L st M) ∧
  (∀ L st M, zz_ev tX12_list 52 L st M = zo_pushI 0 53 (zz_ev tX12_list) L st M) ∧
  (∀ L st M, zz_ev tX12_list 53 L st M = zo_goto 57 (zz_ev tX12_list) L st M) ∧
  (∀ L st M, zz_ev tX12_list 56 L st M = zo_pushI 1 57 (zz_ev tX12_list) L st M) ∧
  (∀ L st M, zz_ev tX12_list 57 L st M = zo_ii (fun x y => x + y) 58 (zz_ev tX12_list) L st M) ∧
  (∀ L st M, zz_ev tX12_list 58 L st M = zo_istore 2 59 (zz_ev tX12_list) L st M) ∧
  (∀ L st M, zz_ev tX12_list 59 L st M = zo_iinc 3 1 62 (zz_ev tX12_list) L st M) ∧
  (∀ L st M, zz_ev tX12_list 62 L st M = zo_goto 35 (zz_ev tX12_list) L st M) ∧
  (∀ L st M, zz_ev tX12_list 65 L st M = zo_iload 2 66 (zz_ev tX12_list) L st M) ∧
  (∀ L st M, zz_ev tX12_list 66 L st M = zo_iret false (zz_ev tX12_list) L st M) :=
  ⟨zz_1 rfl tl_X12_list, zz_1 rfl tl_X12_list, fun L a0 r M => (zz_1 rfl tl_X12_list _ _ _).trans rfl, zz_1 rfl tl_X12_list, zz_1 rfl tl_X12_list, zz_1 rfl tl_X12_list, zz_1 rfl tl_X12_list, fun L a0 r M => (zz_1 rfl tl_X12_list _ _ _).trans rfl, zz_1 rfl tl_X12_list, zz_1 rfl tl_X12_list, zz_1 rfl tl_X12_list, zz_1 rfl tl_X12_list, fun L r M => (zz_1 rfl tl_X12_list _ _ _).trans rfl, zz_1 rfl tl_X12_list, zz_1 rfl tl_X12_list, fun L r M => (zz_1 rfl tl_X12_list _ _ _).trans rfl, zz_1 rfl tl_X12_list, zz_1 rfl tl_X12_list, zz_1 rfl tl_X12_list, zz_1 rfl tl_X12_list, zz_1 rfl tl_X12_list, zz_1 rfl tl_X12_list, fun L r M => (zz_1 rfl tl_X12_list _ _ _).trans rfl, zz_1 rfl tl_X12_list, zz_1 rfl tl_X12_list, zz_1 rfl tl_X12_list, zz_1 rfl tl_X12_list, fun L a0 r M => (zz_1 rfl tl_X12_list _ _ _).trans rfl, zz_1 rfl tl_X12_list, zz_1 rfl tl_X12_list, zz_1 rfl tl_X12_list, zz_1 rfl tl_X12_list, zz_1 rfl tl_X12_list, zz_1 rfl tl_X12_list, zz_1 rfl tl_X12_list, zz_1 rfl tl_X12_list, zz_1 rfl tl_X12_list, zz_1 rfl tl_X12_list⟩
set_option maxRecDepth 100000 in
theorem e_X12_list_35 : (∀ L st M, zz_ev tX12_list 35 L st M = zo_iload 3 36 (zz_ev tX12_list) L st M) := zz_1 rfl tl_X12_list
set_option maxRecDepth 100000 in
theorem s_X12_list (a0 : Int32) (v : Nat) (M : zzMd) : fX12_list [.ref v, .int a0] M = zz_ev tX12_list 0 [some (.ref v), some (.int a0), none, none] [] M := rfl
set_option maxRecDepth 100000 in
theorem e_X12_compact : (∀ L st M, zz_ev tX12_compact 0 L st M = zo_aload 0 1 (zz_ev tX12_compact) L st M) ∧
  (∀ L st M, zz_ev tX12_compact 1 L st M = zo_iload 1 2 (zz_ev tX12_compact) L st M) ∧
  (∀ L st M, zz_ev tX12_compact 2 L st M = zo_pushI 0 3 (zz_ev tX12_compact) L st M) ∧
  (∀ L st M, zz_ev tX12_compact 3 L st M = zo_aload 0 4 (zz_ev tX12_compact) L st M) ∧
  (∀ (L : zzLc) (r : List Value) (M : zzMd), zz_ev tX12_compact 4 L (.ref 0 :: r) M = zz_ev tX12_compact 7 L (.int (M.1 0 14) :: r) M) ∧
  (∀ (L : zzLc) (a0 a1 a2 : Int32) (r : List Value) (M : zzMd), zz_ev tX12_compact 7 L (.int a2 :: .int a1 :: .int a0 :: r) M = bif zz_cat8 r then zz_backN (zz_ev tX12_compact) 10 L r (fX12_isIn [.int a0, .int a1, .int a2] M) else none) ∧
  (∀ L st M, zz_ev tX12_compact 10 L st M = zo_if (fun x => decide (x = 0)) 17 13 (zz_ev tX12_compact) L st M) ∧
  (∀ L st M, zz_ev tX12_compact 13 L st M = zo_pushI 0 14 (zz_ev tX12_compact) L st M) ∧
  (∀ L st M, zz_ev tX12_compact 14 L st M = zo_goto 18 (zz_ev tX12_compact) L st M) ∧
  (∀ L st M, zz_ev tX12_compact 17 L st M = zo_pushI 1 18 (zz_ev tX12_compact) L st M) ∧
  (∀ (L : zzLc) (a0 : Int32) (r : List Value) (M : zzMd), zz_ev tX12_compact 18 L (.int a0 :: .ref 0 :: r) M = bif zz_cat8 r then zz_backN (zz_ev tX12_compact) 21 L r (fX12_goes [.ref 0, .int a0] M) else none) ∧
  (∀ L st M, zz_ev tX12_compact 21 L st M = zo_if (fun x => decide (¬ x = 0)) 26 24 (zz_ev tX12_compact) L st M) ∧
  (∀ L st M, zz_ev tX12_compact 24 L st M = zo_pushI 0 25 (zz_ev tX12_compact) L st M) ∧
  (∀ L st M, zz_ev tX12_compact 25 L st M = zo_iret false (zz_ev tX12_compact) L st M) ∧
  (∀ L st M, zz_ev tX12_compact 26 L st M = zo_aload 0 27 (zz_ev tX12_compact) L st M) ∧
  (∀ L st M, zz_ev tX12_compact 27 L st M = zo_iload 1 28 (zz_ev tX12_compact) L st M) ∧
  (∀ L st M, zz_ev tX12_compact 28 L st M = zo_aload 0 29 (zz_ev tX12_compact) L st M) ∧
  (∀ (L : zzLc) (r : List Value) (M : zzMd), zz_ev tX12_compact 29 L (.ref 0 :: r) M = zz_ev tX12_compact 32 L (.int (M.1 0 15) :: r) M) ∧
  (∀ L st M, zz_ev tX12_compact 32 L st M = zo_icmp (fun x y => decide (x ≤ y)) 39 35 (zz_ev tX12_compact) L st M) ∧
  (∀ L st M, zz_ev tX12_compact 35 L st M = zo_iload 1 36 (zz_ev tX12_compact) L st M) ∧
  (∀ L st M, zz_ev tX12_compact 36 L st M = zo_goto 43 (zz_ev tX12_compact) L st M) ∧
  (∀ L st M, zz_ev tX12_compact 39 L st M = zo_aload 0 40 (zz_ev tX12_compact) L st M) ∧
  (∀ (L : zzLc) (r : List Value) (M : zzMd), zz_ev tX12_compact 40 L (.ref 0 :: r) M = zz_ev tX12_compact 43 L (.int (M.1 0 15) :: r) M) ∧
  (∀ (L : zzLc) (x : Int32) (r : List Value) (M : zzMd), zz_ev tX12_compact 43 L (.int x :: .ref 0 :: r) M = zz_ev tX12_compact 46 L r (zz_sI M 0 15 x)) ∧
  (∀ L st M, zz_ev tX12_compact 46 L st M = zo_aload 0 47 (zz_ev tX12_compact) L st M) ∧
  (∀ (L : zzLc) (r : List Value) (M : zzMd), zz_ev tX12_compact 47 L (.ref 0 :: r) M = zz_ev tX12_compact 50 L (.int (M.1 0 15) :: r) M) ∧
  (∀ L st M, zz_ev tX12_compact 50 L st M = zo_iret false (zz_ev tX12_compact) L st M) :=
  ⟨zz_1 rfl tl_X12_compact, zz_1 rfl tl_X12_compact, zz_1 rfl tl_X12_compact, zz_1 rfl tl_X12_compact, fun L r M => (zz_1 rfl tl_X12_compact _ _ _).trans rfl, fun L a0 a1 a2 r M => (zz_1 rfl tl_X12_compact _ _ _).trans rfl, zz_1 rfl tl_X12_compact, zz_1 rfl tl_X12_compact, zz_1 rfl tl_X12_compact, zz_1 rfl tl_X12_compact, fun L a0 r M => (zz_1 rfl tl_X12_compact _ _ _).trans rfl, zz_1 rfl tl_X12_compact, zz_1 rfl tl_X12_compact, zz_1 rfl tl_X12_compact, zz_1 rfl tl_X12_compact, zz_1 rfl tl_X12_compact, zz_1 rfl tl_X12_compact, fun L r M => (zz_1 rfl tl_X12_compact _ _ _).trans rfl, zz_1 rfl tl_X12_compact, zz_1 rfl tl_X12_compact, zz_1 rfl tl_X12_compact, zz_1 rfl tl_X12_compact, fun L r M => (zz_1 rfl tl_X12_compact _ _ _).trans rfl, fun L x r M => (zz_1 rfl tl_X12_compact _ _ _).trans rfl, zz_1 rfl tl_X12_compact, fun L r M => (zz_1 rfl tl_X12_compact _ _ _).trans rfl, zz_1 rfl tl_X12_compact⟩
set_option maxRecDepth 100000 in
theorem s_X12_compact (a0 : Int32) (v : Nat) (M : zzMd) : fX12_compact [.ref v, .int a0] M = zz_ev tX12_compact 0 [some (.ref v), some (.int a0)] [] M := rfl
set_option maxRecDepth 100000 in
theorem e_X12_tick : (∀ L st M, zz_ev tX12_tick 0 L st M = zo_aload 0 1 (zz_ev tX12_tick) L st M) ∧
  (∀ L st M, zz_ev tX12_tick 1 L st M = zo_iload 1 2 (zz_ev tX12_tick) L st M) ∧
  (∀ L st M, zz_ev tX12_tick 2 L st M = zo_pushI 1 3 (zz_ev tX12_tick) L st M) ∧
  (∀ L st M, zz_ev tX12_tick 3 L st M = zo_pushI 100 5 (zz_ev tX12_tick) L st M) ∧
  (∀ (L : zzLc) (a0 a1 a2 : Int32) (r : List Value) (M : zzMd), zz_ev tX12_tick 5 L (.int a2 :: .int a1 :: .int a0 :: r) M = bif zz_cat8 r then zz_backN (zz_ev tX12_tick) 8 L r (fX12_isIn [.int a0, .int a1, .int a2] M) else none) ∧
  (∀ L st M, zz_ev tX12_tick 8 L st M = zo_if (fun x => decide (¬ x = 0)) 15 11 (zz_ev tX12_tick) L st M) ∧
  (∀ L st M, zz_ev tX12_tick 11 L st M = zo_pushI 1 12 (zz_ev tX12_tick) L st M) ∧
  (∀ L st M, zz_ev tX12_tick 12 L st M = zo_goto 32 (zz_ev tX12_tick) L st M) ∧
  (∀ L st M, zz_ev tX12_tick 15 L st M = zo_aload 0 16 (zz_ev tX12_tick) L st M) ∧
  (∀ (L : zzLc) (r : List Value) (M : zzMd), zz_ev tX12_tick 16 L (.ref 0 :: r) M = zz_ev tX12_tick 19 L (.int (M.1 0 48) :: r) M) ∧
  (∀ L st M, zz_ev tX12_tick 19 L st M = zo_iload 1 20 (zz_ev tX12_tick) L st M) ∧
  (∀ L st M, zz_ev tX12_tick 20 L st M = zo_ii (fun x y => x + y) 21 (zz_ev tX12_tick) L st M) ∧
  (∀ L st M, zz_ev tX12_tick 21 L st M = zo_pushI 10000 24 (zz_ev tX12_tick) L st M) ∧
  (∀ L st M, zz_ev tX12_tick 24 L st M = zo_icmp (fun x y => decide (x ≤ y)) 31 27 (zz_ev tX12_tick) L st M) ∧
  (∀ L st M, zz_ev tX12_tick 27 L st M = zo_pushI 2 28 (zz_ev tX12_tick) L st M) ∧
  (∀ L st M, zz_ev tX12_tick 28 L st M = zo_goto 32 (zz_ev tX12_tick) L st M) ∧
  (∀ L st M, zz_ev tX12_tick 31 L st M = zo_pushI 0 32 (zz_ev tX12_tick) L st M) ∧
  (∀ (L : zzLc) (a0 : Int32) (r : List Value) (M : zzMd), zz_ev tX12_tick 32 L (.int a0 :: .ref 0 :: r) M = bif zz_cat8 r then zz_backN (zz_ev tX12_tick) 35 L r (fX12_goes [.ref 0, .int a0] M) else none) ∧
  (∀ L st M, zz_ev tX12_tick 35 L st M = zo_if (fun x => decide (¬ x = 0)) 40 38 (zz_ev tX12_tick) L st M) ∧
  (∀ L st M, zz_ev tX12_tick 38 L st M = zo_pushI 0 39 (zz_ev tX12_tick) L st M) ∧
  (∀ L st M, zz_ev tX12_tick 39 L st M = zo_iret false (zz_ev tX12_tick) L st M) ∧
  (∀ L st M, zz_ev tX12_tick 40 L st M = zo_pushI 0 41 (zz_ev tX12_tick) L st M) ∧
  (∀ L st M, zz_ev tX12_tick 41 L st M = zo_istore 2 42 (zz_ev tX12_tick) L st M) ∧
  (∀ L st M, zz_ev tX12_tick 43 L st M = zo_iload 1 44 (zz_ev tX12_tick) L st M) ∧
  (∀ L st M, zz_ev tX12_tick 44 L st M = zo_icmp (fun x y => decide (y ≤ x)) 160 47 (zz_ev tX12_tick) L st M) ∧
  (∀ L st M, zz_ev tX12_tick 47 L st M = zo_aload 0 48 (zz_ev tX12_tick) L st M) ∧
  (∀ L st M, zz_ev tX12_tick 48 L st M = zo_dup 49 (zz_ev tX12_tick) L st M) ∧
  (∀ (L : zzLc) (r : List Value) (M : zzMd), zz_ev tX12_tick 49 L (.ref 0 :: r) M = zz_ev tX12_tick 52 L (.int (M.1 0 48) :: r) M) ∧
  (∀ L st M, zz_ev tX12_tick 52 L st M = zo_pushI 1 53 (zz_ev tX12_tick) L st M) ∧
  (∀ L st M, zz_ev tX12_tick 53 L st M = zo_ii (fun x y => x + y) 54 (zz_ev tX12_tick) L st M) ∧
  (∀ (L : zzLc) (x : Int32) (r : List Value) (M : zzMd), zz_ev tX12_tick 54 L (.int x :: .ref 0 :: r) M = zz_ev tX12_tick 57 L r (zz_sI M 0 48 x)) ∧
  (∀ L st M, zz_ev tX12_tick 57 L st M = zo_pushI 0 58 (zz_ev tX12_tick) L st M) ∧
  (∀ L st M, zz_ev tX12_tick 58 L st M = zo_istore 3 59 (zz_ev tX12_tick) L st M) ∧
  (∀ L st M, zz_ev tX12_tick 60 L st M = zo_aload 0 61 (zz_ev tX12_tick) L st M) ∧
  (∀ (L : zzLc) (r : List Value) (M : zzMd), zz_ev tX12_tick 61 L (.ref 0 :: r) M = zz_ev tX12_tick 64 L (.int (M.1 0 5) :: r) M) ∧
  (∀ L st M, zz_ev tX12_tick 64 L st M = zo_icmp (fun x y => decide (y ≤ x)) 154 67 (zz_ev tX12_tick) L st M) ∧
  (∀ L st M, zz_ev tX12_tick 67 L st M = zo_aload 0 68 (zz_ev tX12_tick) L st M) ∧
  (∀ (L : zzLc) (r : List Value) (M : zzMd), zz_ev tX12_tick 68 L (.ref 0 :: r) M = zz_ev tX12_tick 71 L (.ref 6 :: r) M) ∧
  (∀ L st M, zz_ev tX12_tick 71 L st M = zo_iload 3 72 (zz_ev tX12_tick) L st M) ∧
  (∀ L st M, zz_ev tX12_tick 72 L st M = zo_iald zzSR zzSTR 73 (zz_ev tX12_tick) L st M) ∧
  (∀ L st M, zz_ev tX12_tick 73 L st M = zo_pushI 4 74 (zz_ev tX12_tick) L st M) ∧
  (∀ L st M, zz_ev tX12_tick 74 L st M = zo_icmp (fun x y => decide (¬ x = y)) 105 77 (zz_ev tX12_tick) L st M) ∧
  (∀ L st M, zz_ev tX12_tick 77 L st M = zo_aload 0 78 (zz_ev tX12_tick) L st M) ∧
  (∀ L st M, zz_ev tX12_tick 78 L st M = zo_iload 3 79 (zz_ev tX12_tick) L st M) ∧
  (∀ (L : zzLc) (a0 : Int32) (r : List Value) (M : zzMd), zz_ev tX12_tick 79 L (.int a0 :: .ref 0 :: r) M = bif zz_cat8 r then zz_backN (zz_ev tX12_tick) 82 L r (fX12_isGone [.ref 0, .int a0] M) else none) ∧
  (∀ L st M, zz_ev tX12_tick 82 L st M = zo_if (fun x => decide (¬ x = 0)) 105 85 (zz_ev tX12_tick) L st M) ∧
  (∀ L st M, zz_ev tX12_tick 85 L st M = zo_aload 0 86 (zz_ev tX12_tick) L st M) ∧
  (∀ (L : zzLc) (r : List Value) (M : zzMd), zz_ev tX12_tick 86 L (.ref 0 :: r) M = zz_ev tX12_tick 89 L (.int (M.1 0 48) :: r) M) ∧
  (∀ L st M, zz_ev tX12_tick 89 L st M = zo_aload 0 90 (zz_ev tX12_tick) L st M) ∧
  (∀ (L : zzLc) (r : List Value) (M : zzMd), zz_ev tX12_tick 90 L (.ref 0 :: r) M = zz_ev tX12_tick 93 L (.ref 11 :: r) M) ∧
  (∀ L st M, zz_ev tX12_tick 93 L st M = zo_iload 3 94 (zz_ev tX12_tick) L st M) ∧
  (∀ L st M, zz_ev tX12_tick 94 L st M = zo_iald zzSR zzSTR 95 (zz_ev tX12_tick) L st M) ∧
  (∀ L st M, zz_ev tX12_tick 95 L st M = zo_ii (fun x y => x - y) 96 (zz_ev tX12_tick) L st M) ∧
  (∀ L st M, zz_ev tX12_tick 96 L st M = zo_pushI 20 98 (zz_ev tX12_tick) L st M) ∧
  (∀ L st M, zz_ev tX12_tick 98 L st M = zo_icmp (fun x y => decide (x ≤ y)) 105 101 (zz_ev tX12_tick) L st M) ∧
  (∀ L st M, zz_ev tX12_tick 101 L st M = zo_pushI 1 102 (zz_ev tX12_tick) L st M) ∧
  (∀ L st M, zz_ev tX12_tick 102 L st M = zo_goto 106 (zz_ev tX12_tick) L st M) ∧
  (∀ L st M, zz_ev tX12_tick 105 L st M = zo_pushI 0 106 (zz_ev tX12_tick) L st M) ∧
  (∀ L st M, zz_ev tX12_tick 106 L st M = zo_istore 4 108 (zz_ev tX12_tick) L st M) ∧
  (∀ L st M, zz_ev tX12_tick 108 L st M = zo_iload 4 110 (zz_ev tX12_tick) L st M) ∧
  (∀ L st M, zz_ev tX12_tick 110 L st M = zo_if (fun x => decide (x = 0)) 145 113 (zz_ev tX12_tick) L st M) ∧
  (∀ L st M, zz_ev tX12_tick 113 L st M = zo_aload 0 114 (zz_ev tX12_tick) L st M) ∧
  (∀ L st M, zz_ev tX12_tick 114 L st M = zo_iload 3 115 (zz_ev tX12_tick) L st M) ∧
  (∀ L st M, zz_ev tX12_tick 115 L st M = zo_aload 0 116 (zz_ev tX12_tick) L st M) ∧
  (∀ L st M, zz_ev tX12_tick 116 L st M = zo_aload 0 117 (zz_ev tX12_tick) L st M) ∧
  (∀ (L : zzLc) (r : List Value) (M : zzMd), zz_ev tX12_tick 117 L (.ref 0 :: r) M = zz_ev tX12_tick 120 L (.ref 7 :: r) M) ∧
  (∀ L st M, zz_ev tX12_tick 120 L st M = zo_iload 3 121 (zz_ev tX12_tick) L st M) ∧
  (∀ L st M, zz_ev tX12_tick 121 L st M = zo_lald zzSR 122 (zz_ev tX12_tick) L st M) ∧
  (∀ L st M, zz_ev tX12_tick 122 L st M = zo_pushI 14 124 (zz_ev tX12_tick) L st M) ∧
  (∀ L st M, zz_ev tX12_tick 124 L st M = zo_pushI 0 125 (zz_ev tX12_tick) L st M) ∧
  (∀ (L : zzLc) (a1 a2 : Int32) (a0 : Int64) (r : List Value) (M : zzMd), zz_ev tX12_tick 125 L (.int a2 :: .int a1 :: .long a0 :: .ref 0 :: r) M = bif zz_cat8 r then zz_backN (zz_ev tX12_tick) 128 L r (fX12_with [.ref 0, .long a0, .int a1, .int a2] M) else none) ∧
  (∀ L st M, zz_ev tX12_tick 128 L st M = zo_aload 0 129 (zz_ev tX12_tick) L st M) ∧
  (∀ (L : zzLc) (r : List Value) (M : zzMd), zz_ev tX12_tick 129 L (.ref 0 :: r) M = zz_ev tX12_tick 132 L (.ref 8 :: r) M) ∧
  (∀ L st M, zz_ev tX12_tick 132 L st M = zo_iload 3 133 (zz_ev tX12_tick) L st M) ∧
  (∀ L st M, zz_ev tX12_tick 133 L st M = zo_lald zzSR 134 (zz_ev tX12_tick) L st M) ∧
  (∀ L st M, zz_ev tX12_tick 134 L st M = zo_pushI 0 135 (zz_ev tX12_tick) L st M) ∧
  (∀ (L : zzLc) (a0 a3 : Int32) (a1 a2 : Int64) (r : List Value) (M : zzMd), zz_ev tX12_tick 135 L (.int a3 :: .long a2 :: .long a1 :: .int a0 :: .ref 0 :: r) M = bif zz_cat8 r then zz_backN (zz_ev tX12_tick) 138 L r (fX12_puts [.ref 0, .int a0, .long a1, .long a2, .int a3] M) else none) ∧
  (∀ L st M, zz_ev tX12_tick 138 L st M = zo_if (fun x => decide (x = 0)) 145 141 (zz_ev tX12_tick) L st M) ∧
  (∀ L st M, zz_ev tX12_tick 141 L st M = zo_pushI 1 142 (zz_ev tX12_tick) L st M) ∧
  (∀ L st M, zz_ev tX12_tick 142 L st M = zo_goto 146 (zz_ev tX12_tick) L st M) ∧
  (∀ L st M, zz_ev tX12_tick 145 L st M = zo_pushI 0 146 (zz_ev tX12_tick) L st M) ∧
  (∀ L st M, zz_ev tX12_tick 146 L st M = zo_istore 5 148 (zz_ev tX12_tick) L st M) ∧
  (∀ L st M, zz_ev tX12_tick 148 L st M = zo_iinc 3 1 151 (zz_ev tX12_tick) L st M) ∧
  (∀ L st M, zz_ev tX12_tick 151 L st M = zo_goto 59 (zz_ev tX12_tick) L st M) ∧
  (∀ L st M, zz_ev tX12_tick 154 L st M = zo_iinc 2 1 157 (zz_ev tX12_tick) L st M) ∧
  (∀ L st M, zz_ev tX12_tick 157 L st M = zo_goto 42 (zz_ev tX12_tick) L st M) ∧
  (∀ L st M, zz_ev tX12_tick 160 L st M = zo_aload 0 161 (zz_ev tX12_tick) L st M) ∧
  (∀ (L : zzLc) (r : List Value) (M : zzMd), zz_ev tX12_tick 161 L (.ref 0 :: r) M = zz_ev tX12_tick 164 L (.int (M.1 0 48) :: r) M) ∧
  (∀ L st M, zz_ev tX12_tick 164 L st M = zo_iret false (zz_ev tX12_tick) L st M) :=
  ⟨zz_1 rfl tl_X12_tick, zz_1 rfl tl_X12_tick, zz_1 rfl tl_X12_tick, zz_1 rfl tl_X12_tick, fun L a0 a1 a2 r M => (zz_1 rfl tl_X12_tick _ _ _).trans rfl, zz_1 rfl tl_X12_tick, zz_1 rfl tl_X12_tick, zz_1 rfl tl_X12_tick, zz_1 rfl tl_X12_tick, fun L r M => (zz_1 rfl tl_X12_tick _ _ _).trans rfl, zz_1 rfl tl_X12_tick, zz_1 rfl tl_X12_tick, zz_1 rfl tl_X12_tick, zz_1 rfl tl_X12_tick, zz_1 rfl tl_X12_tick, zz_1 rfl tl_X12_tick, zz_1 rfl tl_X12_tick, fun L a0 r M => (zz_1 rfl tl_X12_tick _ _ _).trans rfl, zz_1 rfl tl_X12_tick, zz_1 rfl tl_X12_tick, zz_1 rfl tl_X12_tick, zz_1 rfl tl_X12_tick, zz_1 rfl tl_X12_tick, zz_1 rfl tl_X12_tick, zz_1 rfl tl_X12_tick, zz_1 rfl tl_X12_tick, zz_1 rfl tl_X12_tick, fun L r M => (zz_1 rfl tl_X12_tick _ _ _).trans rfl, zz_1 rfl tl_X12_tick, zz_1 rfl tl_X12_tick, fun L x r M => (zz_1 rfl tl_X12_tick _ _ _).trans rfl, zz_1 rfl tl_X12_tick, zz_1 rfl tl_X12_tick, zz_1 rfl tl_X12_tick, fun L r M => (zz_1 rfl tl_X12_tick _ _ _).trans rfl, zz_1 rfl tl_X12_tick, zz_1 rfl tl_X12_tick, fun L r M => (zz_1 rfl tl_X12_tick _ _ _).trans rfl, zz_1 rfl tl_X12_tick, zz_1 rfl tl_X12_tick, zz_1 rfl tl_X12_tick, zz_1 rfl tl_X12_tick, zz_1 rfl tl_X12_tick, zz_1 rfl tl_X12_tick, fun L a0 r M => (zz_1 rfl tl_X12_tick _ _ _).trans rfl, zz_1 rfl tl_X12_tick, zz_1 rfl tl_X12_tick, fun L r M => (zz_1 rfl tl_X12_tick _ _ _).trans rfl, zz_1 rfl tl_X12_tick, fun L r M => (zz_1 rfl tl_X12_tick _ _ _).trans rfl, zz_1 rfl tl_X12_tick, zz_1 rfl tl_X12_tick, zz_1 rfl tl_X12_tick, zz_1 rfl tl_X12_tick, zz_1 rfl tl_X12_tick, zz_1 rfl tl_X12_tick, zz_1 rfl tl_X12_tick, zz_1 rfl tl_X12_tick, zz_1 rfl tl_X12_tick, zz_1 rfl tl_X12_tick, zz_1 rfl tl_X12_tick, zz_1 rfl tl_X12_tick, zz_1 rfl tl_X12_tick, zz_1 rfl tl_X12_tick, zz_1 rfl tl_X12_tick, fun L r M => (zz_1 rfl tl_X12_tick _ _ _).trans rfl, zz_1 rfl tl_X12_tick, zz_1 rfl tl_X12_tick, zz_1 rfl tl_X12_tick, zz_1 rfl tl_X12_tick, fun L a1 a2 a0 r M => (zz_1 rfl tl_X12_tick _ _ _).trans rfl, zz_1 rfl tl_X12_tick, fun L r M => (zz_1 rfl tl_X12_tick _ _ _).trans rfl, zz_1 rfl tl_X12_tick, zz_1 rfl tl_X12_tick, zz_1 rfl tl_X12_tick, fun L a0 a3 a1 a2 r M => (zz_1 rfl tl_X12_tick _ _ _).trans rfl, zz_1 rfl tl_X12_tick, zz_1 rfl tl_X12_tick, zz_1 rfl tl_X12_tick, zz_1 rfl tl_X12_tick, zz_1 rfl tl_X12_tick, zz_1 rfl tl_X12_tick, zz_1 rfl tl_X12_tick, zz_1 rfl tl_X12_tick, zz_1 rfl tl_X12_tick, zz_1 rfl tl_X12_tick, fun L r M => (zz_1 rfl tl_X12_tick _ _ _).trans rfl, zz_1 rfl tl_X12_tick⟩
set_option maxRecDepth 100000 in
theorem e_X12_tick_42 : (∀ L st M, zz_ev tX12_tick 42 L st M = zo_iload 2 43 (zz_ev tX12_tick) L st M) := zz_1 rfl tl_X12_tick
set_option maxRecDepth 100000 in
theorem e_X12_tick_59 : (∀ L st M, zz_ev tX12_tick 59 L st M = zo_iload 3 60 (zz_ev tX12_tick) L st M) := zz_1 rfl tl_X12_tick
set_option maxRecDepth 100000 in
theorem s_X12_tick (a0 : Int32) (v : Nat) (M : zzMd) : fX12_tick [.ref v, .int a0] M = zz_ev tX12_tick 0 [some (.ref v), some (.int a0), none, none, none, none] [] M := rfl
set_option maxRecDepth 100000 in
theorem e_X12_beat : (∀ L st M, zz_ev tX12_beat 0 L st M = zo_aload 0 1 (zz_ev tX12_beat) L st M) ∧
  (∀ L st M, zz_ev tX12_beat 1 L st M = zo_aload 0 2 (zz_ev tX12_beat) L st M) ∧
  (∀ L st M, zz_ev tX12_beat 2 L st M = zo_iload 1 3 (zz_ev tX12_beat) L st M) ∧
  (∀ (L : zzLc) (a0 : Int32) (r : List Value) (M : zzMd), zz_ev tX12_beat 3 L (.int a0 :: .ref 0 :: r) M = bif zz_cat8 r then zz_backN (zz_ev tX12_beat) 6 L r (fX12_isObject [.ref 0, .int a0] M) else none) ∧
  (∀ L st M, zz_ev tX12_beat 6 L st M = zo_if (fun x => decide (¬ x = 0)) 13 9 (zz_ev tX12_beat) L st M) ∧
  (∀ L st M, zz_ev tX12_beat 9 L st M = zo_pushI 1 10 (zz_ev tX12_beat) L st M) ∧
  (∀ L st M, zz_ev tX12_beat 10 L st M = zo_goto 28 (zz_ev tX12_beat) L st M) ∧
  (∀ L st M, zz_ev tX12_beat 13 L st M = zo_aload 0 14 (zz_ev tX12_beat) L st M) ∧
  (∀ (L : zzLc) (r : List Value) (M : zzMd), zz_ev tX12_beat 14 L (.ref 0 :: r) M = zz_ev tX12_beat 17 L (.ref 6 :: r) M) ∧
  (∀ L st M, zz_ev tX12_beat 17 L st M = zo_iload 1 18 (zz_ev tX12_beat) L st M) ∧
  (∀ L st M, zz_ev tX12_beat 18 L st M = zo_iald zzSR zzSTR 19 (zz_ev tX12_beat) L st M) ∧
  (∀ L st M, zz_ev tX12_beat 19 L st M = zo_pushI 4 20 (zz_ev tX12_beat) L st M) ∧
  (∀ L st M, zz_ev tX12_beat 20 L st M = zo_icmp (fun x y => decide (¬ x = y)) 27 23 (zz_ev tX12_beat) L st M) ∧
  (∀ L st M, zz_ev tX12_beat 23 L st M = zo_pushI 0 24 (zz_ev tX12_beat) L st M) ∧
  (∀ L st M, zz_ev tX12_beat 24 L st M = zo_goto 28 (zz_ev tX12_beat) L st M) ∧
  (∀ L st M, zz_ev tX12_beat 27 L st M = zo_pushI 2 28 (zz_ev tX12_beat) L st M) ∧
  (∀ (L : zzLc) (a0 : Int32) (r : List Value) (M : zzMd), zz_ev tX12_beat 28 L (.int a0 :: .ref 0 :: r) M = bif zz_cat8 r then zz_backN (zz_ev tX12_beat) 31 L r (fX12_goes [.ref 0, .int a0] M) else none) ∧
  (∀ L st M, zz_ev tX12_beat 31 L st M = zo_if (fun x => decide (¬ x = 0)) 36 34 (zz_ev tX12_beat) L st M) ∧
  (∀ L st M, zz_ev tX12_beat 34 L st M = zo_pushI 0 35 (zz_ev tX12_beat) L st M) ∧
  (∀ L st M, zz_ev tX12_beat 35 L st M = zo_iret true (zz_ev tX12_beat) L st M) ∧
  (∀ L st M, zz_ev tX12_beat 36 L st M = zo_aload 0 37 (zz_ev tX12_beat) L st M) ∧
  (∀ L st M, zz_ev tX12_beat 37 L st M = zo_aload 0 38 (zz_ev tX12_beat) L st M) ∧
  (∀ (L : zzLc) (r : List Value) (M : zzMd), zz_ev tX12_beat 38 L (.ref 0 :: r) M = zz_ev tX12_beat 41 L (.ref 7 :: r) M) ∧
  (∀ L st M, zz_ev tX12_beat 41 L st M = zo_iload 1 42 (zz_ev tX12_beat) L st M) ∧
  (∀ L st M, zz_ev tX12_beat 42 L st M = zo_lald zzSR 43 (zz_ev tX12_beat) L st M) ∧
  (∀ L st M, zz_ev tX12_beat 43 L st M = zo_pushI 14 45 (zz_ev tX12_beat) L st M) ∧
  (∀ (L : zzLc) (a1 : Int32) (a0 : Int64) (r : List Value) (M : zzMd), zz_ev tX12_beat 45 L (.int a1 :: .long a0 :: .ref 0 :: r) M = bif zz_cat8 r then zz_backN (zz_ev tX12_beat) 48 L r (fX12_get [.ref 0, .long a0, .int a1] M) else none) ∧
  (∀ L st M, zz_ev tX12_beat 48 L st M = zo_pushI 1 49 (zz_ev tX12_beat) L st M) ∧
  (∀ L st M, zz_ev tX12_beat 49 L st M = zo_icmp (fun x y => decide (¬ x = y)) 56 52 (zz_ev tX12_beat) L st M) ∧
  (∀ L st M, zz_ev tX12_beat 52 L st M = zo_pushI 1 53 (zz_ev tX12_beat) L st M) ∧
  (∀ L st M, zz_ev tX12_beat 53 L st M = zo_goto 57 (zz_ev tX12_beat) L st M) ∧
  (∀ L st M, zz_ev tX12_beat 56 L st M = zo_pushI 0 57 (zz_ev tX12_beat) L st M) ∧
  (∀ L st M, zz_ev tX12_beat 57 L st M = zo_istore 2 58 (zz_ev tX12_beat) L st M) ∧
  (∀ L st M, zz_ev tX12_beat 58 L st M = zo_aload 0 59 (zz_ev tX12_beat) L st M) ∧
  (∀ L st M, zz_ev tX12_beat 59 L st M = zo_iload 1 60 (zz_ev tX12_beat) L st M) ∧
  (∀ (L : zzLc) (a0 : Int32) (r : List Value) (M : zzMd), zz_ev tX12_beat 60 L (.int a0 :: .ref 0 :: r) M = bif zz_cat8 r then zz_backN (zz_ev tX12_beat) 63 L r (fX12_isGone [.ref 0, .int a0] M) else none) ∧
  (∀ L st M, zz_ev tX12_beat 63 L st M = zo_if (fun x => decide (¬ x = 0)) 94 66 (zz_ev tX12_beat) L st M) ∧
  (∀ L st M, zz_ev tX12_beat 66 L st M = zo_aload 0 67 (zz_ev tX12_beat) L st M) ∧
  (∀ L st M, zz_ev tX12_beat 67 L st M = zo_iload 1 68 (zz_ev tX12_beat) L st M) ∧
  (∀ L st M, zz_ev tX12_beat 68 L st M = zo_aload 0 69 (zz_ev tX12_beat) L st M) ∧
  (∀ L st M, zz_ev tX12_beat 69 L st M = zo_aload 0 70 (zz_ev tX12_beat) L st M) ∧
  (∀ (L : zzLc) (r : List Value) (M : zzMd), zz_ev tX12_beat 70 L (.ref 0 :: r) M = zz_ev tX12_beat 73 L (.ref 7 :: r) M) ∧
  (∀ L st M, zz_ev tX12_beat 73 L st M = zo_iload 1 74 (zz_ev tX12_beat) L st M) ∧
  (∀ L st M, zz_ev tX12_beat 74 L st M = zo_lald zzSR 75 (zz_ev tX12_beat) L st M) ∧
  (∀ L st M, zz_ev tX12_beat 75 L st M = zo_pushI 14 77 (zz_ev tX12_beat) L st M) ∧
  (∀ L st M, zz_ev tX12_beat 77 L st M = zo_pushI 1 78 (zz_ev tX12_beat) L st M) ∧
  (∀ (L : zzLc) (a1 a2 : Int32) (a0 : Int64) (r : List Value) (M : zzMd), zz_ev tX12_beat 78 L (.int a2 :: .int a1 :: .long a0 :: .ref 0 :: r) M = bif zz_cat8 r then zz_backN (zz_ev tX12_beat) 81 L r (fX12_with [.ref 0, .long a0, .int a1, .int a2] M) else none) ∧
  (∀ L st M, zz_ev tX12_beat 81 L st M = zo_aload 0 82 (zz_ev tX12_beat) L st M) ∧
  (∀ (L : zzLc) (r : List Value) (M : zzMd), zz_ev tX12_beat 82 L (.ref 0 :: r) M = zz_ev tX12_beat 85 L (.ref 8 :: r) M) ∧
  (∀ L st M, zz_ev tX12_beat 85 L st M = zo_iload 1 86 (zz_ev tX12_beat) L st M) ∧
  (∀ L st M, zz_ev tX12_beat 86 L st M = zo_lald zzSR 87 (zz_ev tX12_beat) L st M) ∧
  (∀ L st M, zz_ev tX12_beat 87 L st M = zo_pushI 0 88 (zz_ev tX12_beat) L st M) ∧
  (∀ (L : zzLc) (a0 a3 : Int32) (a1 a2 : Int64) (r : List Value) (M : zzMd), zz_ev tX12_beat 88 L (.int a3 :: .long a2 :: .long a1 :: .int a0 :: .ref 0 :: r) M = bif zz_cat8 r then zz_backN (zz_ev tX12_beat) 91 L r (fX12_puts [.ref 0, .int a0, .long a1, .long a2, .int a3] M) else none) ∧
  (∀ L st M, zz_ev tX12_beat 91 L st M = zo_if (fun x => decide (¬ x = 0)) 98 94 (zz_ev tX12_beat) L st M) ∧
  (∀ L st M, zz_ev tX12_beat 94 L st M = zo_pushI 1 95 (zz_ev tX12_beat) L st M) ∧
  (∀ L st M, zz_ev tX12_beat 95 L st M = zo_goto 99 (zz_ev tX12_beat) L st M) ∧
  (∀ L st M, zz_ev tX12_beat 98 L st M = zo_pushI 0 99 (zz_ev tX12_beat) L st M) ∧
  (∀ L st M, zz_ev tX12_beat 99 L st M = zo_istore 3 100 (zz_ev tX12_beat) L st M) ∧
  (∀ L st M, zz_ev tX12_beat 100 L st M = zo_aload 0 101 (zz_ev tX12_beat) L st M) ∧
  (∀ L st M, zz_ev tX12_beat 101 L st M = zo_iload 3 102 (zz_ev tX12_beat) L st M) ∧
  (∀ L st M, zz_ev tX12_beat 102 L st M = zo_if (fun x => decide (x = 0)) 109 105 (zz_ev tX12_beat) L st M) ∧
  (∀ L st M, zz_ev tX12_beat 105 L st M = zo_pushI 3 106 (zz_ev tX12_beat) L st M) ∧
  (∀ L st M, zz_ev tX12_beat 106 L st M = zo_goto 110 (zz_ev tX12_beat) L st M) ∧
  (∀ L st M, zz_ev tX12_beat 109 L st M = zo_pushI 0 110 (zz_ev tX12_beat) L st M) ∧
  (∀ (L : zzLc) (a0 : Int32) (r : List Value) (M : zzMd), zz_ev tX12_beat 110 L (.int a0 :: .ref 0 :: r) M = bif zz_cat8 r then zz_backN (zz_ev tX12_beat) 113 L r (fX12_goes [.ref 0, .int a0] M) else none) ∧
  (∀ L st M, zz_ev tX12_beat 113 L st M = zo_if (fun x => decide (¬ x = 0)) 118 116 (zz_ev tX12_beat) L st M) ∧
  (∀ L st M, zz_ev tX12_beat 116 L st M = zo_pushI 0 117 (zz_ev tX12_beat) L st M) ∧
  (∀ L st M, zz_ev tX12_beat 117 L st M = zo_iret true (zz_ev tX12_beat) L st M) ∧
  (∀ L st M, zz_ev tX12_beat 118 L st M = zo_aload 0 119 (zz_ev tX12_beat) L st M) ∧
  (∀ (L : zzLc) (r : List Value) (M : zzMd), zz_ev tX12_beat 119 L (.ref 0 :: r) M = zz_ev tX12_beat 122 L (.ref 11 :: r) M) ∧
  (∀ L st M, zz_ev tX12_beat 122 L st M = zo_iload 1 123 (zz_ev tX12_beat) L st M) ∧
  (∀ L st M, zz_ev tX12_beat 123 L st M = zo_aload 0 124 (zz_ev tX12_beat) L st M) ∧
  (∀ (L : zzLc) (r : List Value) (M : zzMd), zz_ev tX12_beat 124 L (.ref 0 :: r) M = zz_ev tX12_beat 127 L (.int (M.1 0 48) :: r) M) ∧
  (∀ L st M, zz_ev tX12_beat 127 L st M = zo_iast zzSR 128 (zz_ev tX12_beat) L st M) ∧
  (∀ L st M, zz_ev tX12_beat 128 L st M = zo_iload 2 129 (zz_ev tX12_beat) L st M) ∧
  (∀ L st M, zz_ev tX12_beat 129 L st M = zo_iret true (zz_ev tX12_beat) L st M) :=
  ⟨zz_1 rfl tl_X12_beat, zz_1 rfl tl_X12_beat, zz_1 rfl tl_X12_beat, fun L a0 r M => (zz_1 rfl tl_X12_beat _ _ _).trans rfl, zz_1 rfl tl_X12_beat, zz_1 rfl tl_X12_beat, zz_1 rfl tl_X12_beat, zz_1 rfl tl_X12_beat, fun L r M => (zz_1 rfl tl_X12_beat _ _ _).trans rfl, zz_1 rfl tl_X12_beat, zz_1 rfl tl_X12_beat, zz_1 rfl tl_X12_beat, zz_1 rfl tl_X12_beat, zz_1 rfl tl_X12_beat, zz_1 rfl tl_X12_beat, zz_1 rfl tl_X12_beat, fun L a0 r M => (zz_1 rfl tl_X12_beat _ _ _).trans rfl, zz_1 rfl tl_X12_beat, zz_1 rfl tl_X12_beat, zz_1 rfl tl_X12_beat, zz_1 rfl tl_X12_beat, zz_1 rfl tl_X12_beat, fun L r M => (zz_1 rfl tl_X12_beat _ _ _).trans rfl, zz_1 rfl tl_X12_beat, zz_1 rfl tl_X12_beat, zz_1 rfl tl_X12_beat, fun L a1 a0 r M => (zz_1 rfl tl_X12_beat _ _ _).trans rfl, zz_1 rfl tl_X12_beat, zz_1 rfl tl_X12_beat, zz_1 rfl tl_X12_beat, zz_1 rfl tl_X12_beat, zz_1 rfl tl_X12_beat, zz_1 rfl tl_X12_beat, zz_1 rfl tl_X12_beat, zz_1 rfl tl_X12_beat, fun L a0 r M => (zz_1 rfl tl_X12_beat _ _ _).trans rfl, zz_1 rfl tl_X12_beat, zz_1 rfl tl_X12_beat, zz_1 rfl tl_X12_beat, zz_1 rfl tl_X12_beat, zz_1 rfl tl_X12_beat, fun L r M => (zz_1 rfl tl_X12_beat _ _ _).trans rfl, zz_1 rfl tl_X12_beat, zz_1 rfl tl_X12_beat, zz_1 rfl tl_X12_beat, zz_1 rfl tl_X12_beat, fun L a1 a2 a0 r M => (zz_1 rfl tl_X12_beat _ _ _).trans rfl, zz_1 rfl tl_X12_beat, fun L r M => (zz_1 rfl tl_X12_beat _ _ _).trans rfl, zz_1 rfl tl_X12_beat, zz_1 rfl tl_X12_beat, zz_1 rfl tl_X12_beat, fun L a0 a3 a1 a2 r M => (zz_1 rfl tl_X12_beat _ _ _).trans rfl, zz_1 rfl tl_X12_beat, zz_1 rfl tl_X12_beat, zz_1 rfl tl_X12_beat, zz_1 rfl tl_X12_beat, zz_1 rfl tl_X12_beat, zz_1 rfl tl_X12_beat, zz_1 rfl tl_X12_beat, zz_1 rfl tl_X12_beat, zz_1 rfl tl_X12_beat, zz_1 rfl tl_X12_beat, zz_1 rfl tl_X12_beat, fun L a0 r M => (zz_1 rfl tl_X12_beat _ _ _).trans rfl, zz_1 rfl tl_X12_beat, zz_1 rfl tl_X12_beat, zz_1 rfl tl_X12_beat, zz_1 rfl tl_X12_beat, fun L r M => (zz_1 rfl tl_X12_beat _ _ _).trans rfl, zz_1 rfl tl_X12_beat, zz_1 rfl tl_X12_beat, fun L r M => (zz_1 rfl tl_X12_beat _ _ _).trans rfl, zz_1 rfl tl_X12_beat, zz_1 rfl tl_X12_beat, zz_1 rfl tl_X12_beat⟩
set_option maxRecDepth 100000 in
theorem s_X12_beat (a0 : Int32) (v : Nat) (M : zzMd) : fX12_beat [.ref v, .int a0] M = zz_ev tX12_beat 0 [some (.ref v), some (.int a0), none, none] [] M := rfl
set_option maxRecDepth 100000 in
theorem e_X12_wish : (∀ L st M, zz_ev tX12_wish 0 L st M = zo_aload 0 1 (zz_ev tX12_wish) L st M) ∧
  (∀ L st M, zz_ev tX12_wish 1 L st M = zo_aload 0 2 (zz_ev tX12_wish) L st M) ∧
  (∀ L st M, zz_ev tX12_wish 2 L st M = zo_iload 1 3 (zz_ev tX12_wish) L st M) ∧
  (∀ (L : zzLc) (a0 : Int32) (r : List Value) (M : zzMd), zz_ev tX12_wish 3 L (.int a0 :: .ref 0 :: r) M = bif zz_cat8 r then zz_backN (zz_ev tX12_wish) 6 L r (fX12_isObject [.ref 0, .int a0] M) else none) ∧
  (∀ L st M, zz_ev tX12_wish 6 L st M = zo_if (fun x => decide (¬ x = 0)) 13 9 (zz_ev tX12_wish) L st M) ∧
  (∀ L st M, zz_ev tX12_wish 9 L st M = zo_pushI 1 10 (zz_ev tX12_wish) L st M) ∧
  (∀ L st M, zz_ev tX12_wish 10 L st M = zo_goto 37 (zz_ev tX12_wish) L st M) ∧
  (∀ L st M, zz_ev tX12_wish 13 L st M = zo_aload 0 14 (zz_ev tX12_wish) L st M) ∧
  (∀ (L : zzLc) (r : List Value) (M : zzMd), zz_ev tX12_wish 14 L (.ref 0 :: r) M = zz_ev tX12_wish 17 L (.ref 6 :: r) M) ∧
  (∀ L st M, zz_ev tX12_wish 17 L st M = zo_iload 1 18 (zz_ev tX12_wish) L st M) ∧
  (∀ L st M, zz_ev tX12_wish 18 L st M = zo_iald zzSR zzSTR 19 (zz_ev tX12_wish) L st M) ∧
  (∀ L st M, zz_ev tX12_wish 19 L st M = zo_if (fun x => decide (¬ x = 0)) 36 22 (zz_ev tX12_wish) L st M) ∧
  (∀ L st M, zz_ev tX12_wish 22 L st M = zo_iload 2 23 (zz_ev tX12_wish) L st M) ∧
  (∀ L st M, zz_ev tX12_wish 23 L st M = zo_pushI (-1) 24 (zz_ev tX12_wish) L st M) ∧
  (∀ L st M, zz_ev tX12_wish 24 L st M = zo_pushI 9 26 (zz_ev tX12_wish) L st M) ∧
  (∀ (L : zzLc) (a0 a1 a2 : Int32) (r : List Value) (M : zzMd), zz_ev tX12_wish 26 L (.int a2 :: .int a1 :: .int a0 :: r) M = bif zz_cat8 r then zz_backN (zz_ev tX12_wish) 29 L r (fX12_isIn [.int a0, .int a1, .int a2] M) else none) ∧
  (∀ L st M, zz_ev tX12_wish 29 L st M = zo_if (fun x => decide (x = 0)) 36 32 (zz_ev tX12_wish) L st M) ∧
  (∀ L st M, zz_ev tX12_wish 32 L st M = zo_pushI 0 33 (zz_ev tX12_wish) L st M) ∧
  (∀ L st M, zz_ev tX12_wish 33 L st M = zo_goto 37 (zz_ev tX12_wish) L st M) ∧
  (∀ L st M, zz_ev tX12_wish 36 L st M = zo_pushI 2 37 (zz_ev tX12_wish) L st M) ∧
  (∀ (L : zzLc) (a0 : Int32) (r : List Value) (M : zzMd), zz_ev tX12_wish 37 L (.int a0 :: .ref 0 :: r) M = bif zz_cat8 r then zz_backN (zz_ev tX12_wish) 40 L r (fX12_goes [.ref 0, .int a0] M) else none) ∧
  (∀ L st M, zz_ev tX12_wish 40 L st M = zo_if (fun x => decide (¬ x = 0)) 45 43 (zz_ev tX12_wish) L st M) ∧
  (∀ L st M, zz_ev tX12_wish 43 L st M = zo_pushI 0 44 (zz_ev tX12_wish) L st M) ∧
  (∀ L st M, zz_ev tX12_wish 44 L st M = zo_iret false (zz_ev tX12_wish) L st M) ∧
  (∀ L st M, zz_ev tX12_wish 45 L st M = zo_aload 0 46 (zz_ev tX12_wish) L st M) ∧
  (∀ (L : zzLc) (r : List Value) (M : zzMd), zz_ev tX12_wish 46 L (.ref 0 :: r) M = zz_ev tX12_wish 49 L (.ref 12 :: r) M) ∧
  (∀ L st M, zz_ev tX12_wish 49 L st M = zo_iload 1 50 (zz_ev tX12_wish) L st M) ∧
  (∀ L st M, zz_ev tX12_wish 50 L st M = zo_iald zzSR zzSTR 51 (zz_ev tX12_wish) L st M) ∧
  (∀ L st M, zz_ev tX12_wish 51 L st M = zo_istore 3 52 (zz_ev tX12_wish) L st M) ∧
  (∀ L st M, zz_ev tX12_wish 52 L st M = zo_aload 0 53 (zz_ev tX12_wish) L st M) ∧
  (∀ (L : zzLc) (r : List Value) (M : zzMd), zz_ev tX12_wish 53 L (.ref 0 :: r) M = zz_ev tX12_wish 56 L (.ref 12 :: r) M) ∧
  (∀ L st M, zz_ev tX12_wish 56 L st M = zo_iload 1 57 (zz_ev tX12_wish) L st M) ∧
  (∀ L st M, zz_ev tX12_wish 57 L st M = zo_iload 2 58 (zz_ev tX12_wish) L st M) ∧
  (∀ L st M, zz_ev tX12_wish 58 L st M = zo_iast zzSR 59 (zz_ev tX12_wish) L st M) ∧
  (∀ L st M, zz_ev tX12_wish 59 L st M = zo_iload 3 60 (zz_ev tX12_wish) L st M) ∧
  (∀ L st M, zz_ev tX12_wish 60 L st M = zo_iret false (zz_ev tX12_wish) L st M) :=
  ⟨zz_1 rfl tl_X12_wish, zz_1 rfl tl_X12_wish, zz_1 rfl tl_X12_wish, fun L a0 r M => (zz_1 rfl tl_X12_wish _ _ _).trans rfl, zz_1 rfl tl_X12_wish, zz_1 rfl tl_X12_wish, zz_1 rfl tl_X12_wish, zz_1 rfl tl_X12_wish, fun L r M => (zz_1 rfl tl_X12_wish _ _ _).trans rfl, zz_1 rfl tl_X12_wish, zz_1 rfl tl_X12_wish, zz_1 rfl tl_X12_wish, zz_1 rfl tl_X12_wish, zz_1 rfl tl_X12_wish, zz_1 rfl tl_X12_wish, fun L a0 a1 a2 r M => (zz_1 rfl tl_X12_wish _ _ _).trans rfl, zz_1 rfl tl_X12_wish, zz_1 rfl tl_X12_wish, zz_1 rfl tl_X12_wish, zz_1 rfl tl_X12_wish, fun L a0 r M => (zz_1 rfl tl_X12_wish _ _ _).trans rfl, zz_1 rfl tl_X12_wish, zz_1 rfl tl_X12_wish, zz_1 rfl tl_X12_wish, zz_1 rfl tl_X12_wish, fun L r M => (zz_1 rfl tl_X12_wish _ _ _).trans rfl, zz_1 rfl tl_X12_wish, zz_1 rfl tl_X12_wish, zz_1 rfl tl_X12_wish, zz_1 rfl tl_X12_wish, fun L r M => (zz_1 rfl tl_X12_wish _ _ _).trans rfl, zz_1 rfl tl_X12_wish, zz_1 rfl tl_X12_wish, zz_1 rfl tl_X12_wish, zz_1 rfl tl_X12_wish, zz_1 rfl tl_X12_wish⟩
set_option maxRecDepth 100000 in
theorem s_X12_wish (a0 a1 : Int32) (v : Nat) (M : zzMd) : fX12_wish [.ref v, .int a0, .int a1] M = zz_ev tX12_wish 0 [some (.ref v), some (.int a0), some (.int a1), none] [] M := rfl
set_option maxRecDepth 100000 in
theorem e_X12_hub : (∀ L st M, zz_ev tX12_hub 0 L st M = zo_aload 0 1 (zz_ev tX12_hub) L st M) ∧
  (∀ L st M, zz_ev tX12_hub 1 L st M = zo_pushI 0 2 (zz_ev tX12_hub) L st M) ∧
  (∀ (L : zzLc) (x : Int32) (r : List Value) (M : zzMd), zz_ev tX12_hub 2 L (.int x :: .ref 0 :: r) M = zz_ev tX12_hub 5 L r (zz_sI M 0 49 x)) ∧
  (∀ L st M, zz_ev tX12_hub 5 L st M = zo_aload 0 6 (zz_ev tX12_hub) L st M) ∧
  (∀ L st M, zz_ev tX12_hub 6 L st M = zo_iload 1 7 (zz_ev tX12_hub) L st M) ∧
  (∀ (L : zzLc) (x : Int32) (r : List Value) (M : zzMd), zz_ev tX12_hub 7 L (.int x :: .ref 0 :: r) M = (bif zz_b01 x then zz_ev tX12_hub 10 L r (zz_sI M 0 47 x) else none)) ∧
  (∀ L st M, zz_ev tX12_hub 10 L st M = zo_aload 0 11 (zz_ev tX12_hub) L st M) ∧
  (∀ (L : zzLc) (r : List Value) (M : zzMd), zz_ev tX12_hub 11 L (.ref 0 :: r) M = zz_ev tX12_hub 14 L (.int (M.1 0 14) :: r) M) ∧
  (∀ L st M, zz_ev tX12_hub 14 L st M = zo_istore 2 15 (zz_ev tX12_hub) L st M) ∧
  (∀ L st M, zz_ev tX12_hub 15 L st M = zo_pushI 0 16 (zz_ev tX12_hub) L st M) ∧
  (∀ L st M, zz_ev tX12_hub 16 L st M = zo_istore 3 17 (zz_ev tX12_hub) L st M) ∧
  (∀ L st M, zz_ev tX12_hub 18 L st M = zo_aload 0 19 (zz_ev tX12_hub) L st M) ∧
  (∀ (L : zzLc) (r : List Value) (M : zzMd), zz_ev tX12_hub 19 L (.ref 0 :: r) M = zz_ev tX12_hub 22 L (.int (M.1 0 5) :: r) M) ∧
  (∀ L st M, zz_ev tX12_hub 22 L st M = zo_icmp (fun x y => decide (y ≤ x)) 100 25 (zz_ev tX12_hub) L st M) ∧
  (∀ L st M, zz_ev tX12_hub 25 L st M = zo_aload 0 26 (zz_ev tX12_hub) L st M) ∧
  (∀ (L : zzLc) (r : List Value) (M : zzMd), zz_ev tX12_hub 26 L (.ref 0 :: r) M = zz_ev tX12_hub 29 L (.int (M.1 0 47) :: r) M) ∧
  (∀ L st M, zz_ev tX12_hub 29 L st M = zo_if (fun x => decide (¬ x = 0)) 100 32 (zz_ev tX12_hub) L st M) ∧
  (∀ L st M, zz_ev tX12_hub 32 L st M = zo_aload 0 33 (zz_ev tX12_hub) L st M) ∧
  (∀ (L : zzLc) (r : List Value) (M : zzMd), zz_ev tX12_hub 33 L (.ref 0 :: r) M = zz_ev tX12_hub 36 L (.ref 6 :: r) M) ∧
  (∀ L st M, zz_ev tX12_hub 36 L st M = zo_iload 3 37 (zz_ev tX12_hub) L st M) ∧
  (∀ L st M, zz_ev tX12_hub 37 L st M = zo_iald zzSR zzSTR 38 (zz_ev tX12_hub) L st M) ∧
  (∀ L st M, zz_ev tX12_hub 38 L st M = zo_if (fun x => decide (¬ x = 0)) 63 41 (zz_ev tX12_hub) L st M) ∧
  (∀ L st M, zz_ev tX12_hub 41 L st M = zo_aload 0 42 (zz_ev tX12_hub) L st M) ∧
  (∀ (L : zzLc) (r : List Value) (M : zzMd), zz_ev tX12_hub 42 L (.ref 0 :: r) M = zz_ev tX12_hub 45 L (.ref 12 :: r) M) ∧
  (∀ L st M, zz_ev tX12_hub 45 L st M = zo_iload 3 46 (zz_ev tX12_hub) L st M) ∧
  (∀ L st M, zz_ev tX12_hub 46 L st M = zo_iald zzSR zzSTR 47 (zz_ev tX12_hub) L st M) ∧
  (∀ L st M, zz_ev tX12_hub 47 L st M = zo_pushI (-1) 48 (zz_ev tX12_hub) L st M) ∧
  (∀ L st M, zz_ev tX12_hub 48 L st M = zo_icmp (fun x y => decide (x = y)) 63 51 (zz_ev tX12_hub) L st M) ∧
  (∀ L st M, zz_ev tX12_hub 51 L st M = zo_aload 0 52 (zz_ev tX12_hub) L st M) ∧
  (∀ L st M, zz_ev tX12_hub 52 L st M = zo_iload 3 53 (zz_ev tX12_hub) L st M) ∧
  (∀ (L : zzLc) (a0 : Int32) (r : List Value) (M : zzMd), zz_ev tX12_hub 53 L (.int a0 :: .ref 0 :: r) M = bif zz_cat8 r then zz_backN (zz_ev tX12_hub) 56 L r (fX12_isGone [.ref 0, .int a0] M) else none) ∧
  (∀ L st M, zz_ev tX12_hub 56 L st M = zo_if (fun x => decide (¬ x = 0)) 63 59 (zz_ev tX12_hub) L st M) ∧
  (∀ L st M, zz_ev tX12_hub 59 L st M = zo_pushI 1 60 (zz_ev tX12_hub) L st M) ∧
  (∀ L st M, zz_ev tX12_hub 60 L st M = zo_goto 64 (zz_ev tX12_hub) L st M) ∧
  (∀ L st M, zz_ev tX12_hub 63 L st M = zo_pushI 0 64 (zz_ev tX12_hub) L st M) ∧
  (∀ L st M, zz_ev tX12_hub 64 L st M = zo_istore 4 66 (zz_ev tX12_hub) L st M) ∧
  (∀ L st M, zz_ev tX12_hub 66 L st M = zo_iload 4 68 (zz_ev tX12_hub) L st M) ∧
  (∀ L st M, zz_ev tX12_hub 68 L st M = zo_if (fun x => decide (x = 0)) 91 71 (zz_ev tX12_hub) L st M) ∧
  (∀ L st M, zz_ev tX12_hub 71 L st M = zo_aload 0 72 (zz_ev tX12_hub) L st M) ∧
  (∀ L st M, zz_ev tX12_hub 72 L st M = zo_pushI 5 73 (zz_ev tX12_hub) L st M) ∧
  (∀ L st M, zz_ev tX12_hub 73 L st M = zo_iload 3 74 (zz_ev tX12_hub) L st M) ∧
  (∀ L st M, zz_ev tX12_hub 74 L st M = zo_pushI 1 75 (zz_ev tX12_hub) L st M) ∧
  (∀ L st M, zz_ev tX12_hub 75 L st M = zo_aload 0 76 (zz_ev tX12_hub) L st M) ∧
  (∀ (L : zzLc) (r : List Value) (M : zzMd), zz_ev tX12_hub 76 L (.ref 0 :: r) M = zz_ev tX12_hub 79 L (.ref 12 :: r) M) ∧
  (∀ L st M, zz_ev tX12_hub 79 L st M = zo_iload 3 80 (zz_ev tX12_hub) L st M) ∧
  (∀ L st M, zz_ev tX12_hub 80 L st M = zo_iald zzSR zzSTR 81 (zz_ev tX12_hub) L st M) ∧
  (∀ (L : zzLc) (a0 a1 a2 a3 : Int32) (r : List Value) (M : zzMd), zz_ev tX12_hub 81 L (.int a3 :: .int a2 :: .int a1 :: .int a0 :: .ref 0 :: r) M = bif zz_cat8 r then zz_backN (zz_ev tX12_hub) 84 L r (fX12_applies [.ref 0, .int a0, .int a1, .int a2, .int a3] M) else none) ∧
  (∀ L st M, zz_ev tX12_hub 84 L st M = zo_if (fun x => decide (x = 0)) 91 87 (zz_ev tX12_hub) L st M) ∧
  (∀ L st M, zz_ev tX12_hub 87 L st M = zo_pushI 1 88 (zz_ev tX12_hub) L st M) ∧
  (∀ L st M, zz_ev tX12_hub 88 L st M = zo_goto 92 (zz_ev tX12_hub) L st M) ∧
  (∀ L st M, zz_ev tX12_hub 91 L st M = zo_pushI 0 92 (zz_ev tX12_hub) L st M) ∧
  (∀ L st M, zz_ev tX12_hub 92 L st M = zo_istore 5 94 (zz_ev tX12_hub) L st M) ∧
  (∀ L st M, zz_ev tX12_hub 94 L st M = zo_iinc 3 1 97 (zz_ev tX12_hub) L st M) ∧
  (∀ L st M, zz_ev tX12_hub 97 L st M = zo_goto 17 (zz_ev tX12_hub) L st M) ∧
  (∀ L st M, zz_ev tX12_hub 100 L st M = zo_aload 0 101 (zz_ev tX12_hub) L st M) ∧
  (∀ (L : zzLc) (r : List Value) (M : zzMd), zz_ev tX12_hub 101 L (.ref 0 :: r) M = zz_ev tX12_hub 104 L (.int (M.1 0 14) :: r) M) ∧
  (∀ L st M, zz_ev tX12_hub 104 L st M = zo_iload 2 105 (zz_ev tX12_hub) L st M) ∧
  (∀ L st M, zz_ev tX12_hub 105 L st M = zo_ii (fun x y => x - y) 106 (zz_ev tX12_hub) L st M) ∧
  (∀ L st M, zz_ev tX12_hub 106 L st M = zo_iret false (zz_ev tX12_hub) L st M) :=
  ⟨zz_1 rfl tl_X12_hub, zz_1 rfl tl_X12_hub, fun L x r M => (zz_1 rfl tl_X12_hub _ _ _).trans rfl, zz_1 rfl tl_X12_hub, zz_1 rfl tl_X12_hub, fun L x r M => (zz_1 rfl tl_X12_hub _ _ _).trans rfl, zz_1 rfl tl_X12_hub, fun L r M => (zz_1 rfl tl_X12_hub _ _ _).trans rfl, zz_1 rfl tl_X12_hub, zz_1 rfl tl_X12_hub, zz_1 rfl tl_X12_hub, zz_1 rfl tl_X12_hub, fun L r M => (zz_1 rfl tl_X12_hub _ _ _).trans rfl, zz_1 rfl tl_X12_hub, zz_1 rfl tl_X12_hub, fun L r M => (zz_1 rfl tl_X12_hub _ _ _).trans rfl, zz_1 rfl tl_X12_hub, zz_1 rfl tl_X12_hub, fun L r M => (zz_1 rfl tl_X12_hub _ _ _).trans rfl, zz_1 rfl tl_X12_hub, zz_1 rfl tl_X12_hub, zz_1 rfl tl_X12_hub, zz_1 rfl tl_X12_hub, fun L r M => (zz_1 rfl tl_X12_hub _ _ _).trans rfl, zz_1 rfl tl_X12_hub, zz_1 rfl tl_X12_hub, zz_1 rfl tl_X12_hub, zz_1 rfl tl_X12_hub, zz_1 rfl tl_X12_hub, zz_1 rfl tl_X12_hub, fun L a0 r M => (zz_1 rfl tl_X12_hub _ _ _).trans rfl, zz_1 rfl tl_X12_hub, zz_1 rfl tl_X12_hub, zz_1 rfl tl_X12_hub, zz_1 rfl tl_X12_hub, zz_1 rfl tl_X12_hub, zz_1 rfl tl_X12_hub, zz_1 rfl tl_X12_hub, zz_1 rfl tl_X12_hub, zz_1 rfl tl_X12_hub, zz_1 rfl tl_X12_hub, zz_1 rfl tl_X12_hub, zz_1 rfl tl_X12_hub, fun L r M => (zz_1 rfl tl_X12_hub _ _ _).trans rfl, zz_1 rfl tl_X12_hub, zz_1 rfl tl_X12_hub, fun L a0 a1 a2 a3 r M => (zz_1 rfl tl_X12_hub _ _ _).trans rfl, zz_1 rfl tl_X12_hub, zz_1 rfl tl_X12_hub, zz_1 rfl tl_X12_hub, zz_1 rfl tl_X12_hub, zz_1 rfl tl_X12_hub, zz_1 rfl tl_X12_hub, zz_1 rfl tl_X12_hub, zz_1 rfl tl_X12_hub, fun L r M => (zz_1 rfl tl_X12_hub _ _ _).trans rfl, zz_1 rfl tl_X12_hub, zz_1 rfl tl_X12_hub, zz_1 rfl tl_X12_hub⟩
set_option maxRecDepth 100000 in
theorem e_X12_hub_17 : (∀ L st M, zz_ev tX12_hub 17 L st M = zo_iload 3 18 (zz_ev tX12_hub) L st M) := zz_1 rfl tl_X12_hub
set_option maxRecDepth 100000 in
theorem s_X12_hub (a0 : Int32) (v : Nat) (M : zzMd) : fX12_hub [.ref v, .int a0] M = zz_ev tX12_hub 0 [some (.ref v), some (.int a0), none, none, none, none] [] M := rfl
set_option maxRecDepth 100000 in
theorem e_X12_objects : (∀ L st M, zz_ev tX12_objects 0 L st M = zo_aload 0 1 (zz_ev tX12_objects) L st M) ∧
  (∀ L st M, zz_ev tX12_objects 1 L st M = zo_pushI 0 2 (zz_ev tX12_objects) L st M) ∧
  (∀ (L : zzLc) (x : Int32) (r : List Value) (M : zzMd), zz_ev tX12_objects 2 L (.int x :: .ref 0 :: r) M = zz_ev tX12_objects 5 L r (zz_sI M 0 49 x)) ∧
  (∀ L st M, zz_ev tX12_objects 5 L st M = zo_aload 0 6 (zz_ev tX12_objects) L st M) ∧
  (∀ (L : zzLc) (r : List Value) (M : zzMd), zz_ev tX12_objects 6 L (.ref 0 :: r) M = zz_ev tX12_objects 9 L (.int (M.1 0 5) :: r) M) ∧
  (∀ L st M, zz_ev tX12_objects 9 L st M = zo_iret false (zz_ev tX12_objects) L st M) :=
  ⟨zz_1 rfl tl_X12_objects, zz_1 rfl tl_X12_objects, fun L x r M => (zz_1 rfl tl_X12_objects _ _ _).trans rfl, zz_1 rfl tl_X12_objects, fun L r M => (zz_1 rfl tl_X12_objects _ _ _).trans rfl, zz_1 rfl tl_X12_objects⟩
set_option maxRecDepth 100000 in
theorem s_X12_objects (v : Nat) (M : zzMd) : fX12_objects [.ref v] M = zz_ev tX12_objects 0 [some (.ref v)] [] M := rfl
set_option maxRecDepth 100000 in
theorem e_X12_version : (∀ L st M, zz_ev tX12_version 0 L st M = zo_aload 0 1 (zz_ev tX12_version) L st M) ∧
  (∀ L st M, zz_ev tX12_version 1 L st M = zo_pushI 0 2 (zz_ev tX12_version) L st M) ∧
  (∀ (L : zzLc) (x : Int32) (r : List Value) (M : zzMd), zz_ev tX12_version 2 L (.int x :: .ref 0 :: r) M = zz_ev tX12_version 5 L r (zz_sI M 0 49 x)) ∧
  (∀ L st M, zz_ev tX12_version 5 L st M = zo_aload 0 6 (zz_ev tX12_version) L st M) ∧
  (∀ (L : zzLc) (r : List Value) (M : zzMd), zz_ev tX12_version 6 L (.ref 0 :: r) M = zz_ev tX12_version 9 L (.int (M.1 0 14) :: r) M) ∧
  (∀ L st M, zz_ev tX12_version 9 L st M = zo_iret false (zz_ev tX12_version) L st M) :=
  ⟨zz_1 rfl tl_X12_version, zz_1 rfl tl_X12_version, fun L x r M => (zz_1 rfl tl_X12_version _ _ _).trans rfl, zz_1 rfl tl_X12_version, fun L r M => (zz_1 rfl tl_X12_version _ _ _).trans rfl, zz_1 rfl tl_X12_version⟩
set_option maxRecDepth 100000 in
theorem s_X12_version (v : Nat) (M : zzMd) : fX12_version [.ref v] M = zz_ev tX12_version 0 [some (.ref v)] [] M := rfl
set_option maxRecDepth 100000 in
theorem e_X12_asksObject : (∀ L st M, zz_ev tX12_asksObject 0 L st M = zo_aload 0 1 (zz_ev tX12_asksObject) L st M) ∧
  (∀ L st M, zz_ev tX12_asksObject 1 L st M = zo_aload 0 2 (zz_ev tX12_asksObject) L st M) ∧
  (∀ L st M, zz_ev tX12_asksObject 2 L st M = zo_iload 1 3 (zz_ev tX12_asksObject) L st M) ∧
  (∀ (L : zzLc) (a0 : Int32) (r : List Value) (M : zzMd), zz_ev tX12_asksObject 3 L (.int a0 :: .ref 0 :: r) M = bif zz_cat8 r then zz_backN (zz_ev tX12_asksObject) 6 L r (fX12_isObject [.ref 0, .int a0] M) else none) ∧
  (∀ L st M, zz_ev tX12_asksObject 6 L st M = zo_if (fun x => decide (x = 0)) 13 9 (zz_ev tX12_asksObject) L st M) ∧
  (∀ L st M, zz_ev tX12_asksObject 9 L st M = zo_pushI 0 10 (zz_ev tX12_asksObject) L st M) ∧
  (∀ L st M, zz_ev tX12_asksObject 10 L st M = zo_goto 14 (zz_ev tX12_asksObject) L st M) ∧
  (∀ L st M, zz_ev tX12_asksObject 13 L st M = zo_pushI 1 14 (zz_ev tX12_asksObject) L st M) ∧
  (∀ (L : zzLc) (a0 : Int32) (r : List Value) (M : zzMd), zz_ev tX12_asksObject 14 L (.int a0 :: .ref 0 :: r) M = bif zz_cat8 r then zz_backN (zz_ev tX12_asksObject) 17 L r (fX12_goes [.ref 0, .int a0] M) else none) ∧
  (∀ L st M, zz_ev tX12_asksObject 17 L st M = zo_iret true (zz_ev tX12_asksObject) L st M) :=
  ⟨zz_1 rfl tl_X12_asksObject, zz_1 rfl tl_X12_asksObject, zz_1 rfl tl_X12_asksObject, fun L a0 r M => (zz_1 rfl tl_X12_asksObject _ _ _).trans rfl, zz_1 rfl tl_X12_asksObject, zz_1 rfl tl_X12_asksObject, zz_1 rfl tl_X12_asksObject, zz_1 rfl tl_X12_asksObject, fun L a0 r M => (zz_1 rfl tl_X12_asksObject _ _ _).trans rfl, zz_1 rfl tl_X12_asksObject⟩
set_option maxRecDepth 100000 in
theorem s_X12_asksObject (a0 : Int32) (v : Nat) (M : zzMd) : fX12_asksObject [.ref v, .int a0] M = zz_ev tX12_asksObject 0 [some (.ref v), some (.int a0)] [] M := rfl
set_option maxRecDepth 100000 in
theorem e_X12_asksOf : (∀ L st M, zz_ev tX12_asksOf 0 L st M = zo_aload 0 1 (zz_ev tX12_asksOf) L st M) ∧
  (∀ L st M, zz_ev tX12_asksOf 1 L st M = zo_aload 0 2 (zz_ev tX12_asksOf) L st M) ∧
  (∀ L st M, zz_ev tX12_asksOf 2 L st M = zo_iload 1 3 (zz_ev tX12_asksOf) L st M) ∧
  (∀ (L : zzLc) (a0 : Int32) (r : List Value) (M : zzMd), zz_ev tX12_asksOf 3 L (.int a0 :: .ref 0 :: r) M = bif zz_cat8 r then zz_backN (zz_ev tX12_asksOf) 6 L r (fX12_isObject [.ref 0, .int a0] M) else none) ∧
  (∀ L st M, zz_ev tX12_asksOf 6 L st M = zo_if (fun x => decide (¬ x = 0)) 13 9 (zz_ev tX12_asksOf) L st M) ∧
  (∀ L st M, zz_ev tX12_asksOf 9 L st M = zo_pushI 1 10 (zz_ev tX12_asksOf) L st M) ∧
  (∀ L st M, zz_ev tX12_asksOf 10 L st M = zo_goto 28 (zz_ev tX12_asksOf) L st M) ∧
  (∀ L st M, zz_ev tX12_asksOf 13 L st M = zo_aload 0 14 (zz_ev tX12_asksOf) L st M) ∧
  (∀ (L : zzLc) (r : List Value) (M : zzMd), zz_ev tX12_asksOf 14 L (.ref 0 :: r) M = zz_ev tX12_asksOf 17 L (.ref 6 :: r) M) ∧
  (∀ L st M, zz_ev tX12_asksOf 17 L st M = zo_iload 1 18 (zz_ev tX12_asksOf) L st M) ∧
  (∀ L st M, zz_ev tX12_asksOf 18 L st M = zo_iald zzSR zzSTR 19 (zz_ev tX12_asksOf) L st M) ∧
  (∀ L st M, zz_ev tX12_asksOf 19 L st M = zo_iload 2 20 (zz_ev tX12_asksOf) L st M) ∧
  (∀ L st M, zz_ev tX12_asksOf 20 L st M = zo_icmp (fun x y => decide (¬ x = y)) 27 23 (zz_ev tX12_asksOf) L st M) ∧
  (∀ L st M, zz_ev tX12_asksOf 23 L st M = zo_pushI 0 24 (zz_ev tX12_asksOf) L st M) ∧
  (∀ L st M, zz_ev tX12_asksOf 24 L st M = zo_goto 28 (zz_ev tX12_asksOf) L st M) ∧
  (∀ L st M, zz_ev tX12_asksOf 27 L st M = zo_pushI 2 28 (zz_ev tX12_asksOf) L st M) ∧
  (∀ (L : zzLc) (a0 : Int32) (r : List Value) (M : zzMd), zz_ev tX12_asksOf 28 L (.int a0 :: .ref 0 :: r) M = bif zz_cat8 r then zz_backN (zz_ev tX12_asksOf) 31 L r (fX12_goes [.ref 0, .int a0] M) else none) ∧
  (∀ L st M, zz_ev tX12_asksOf 31 L st M = zo_iret true (zz_ev tX12_asksOf) L st M) :=
  ⟨zz_1 rfl tl_X12_asksOf, zz_1 rfl tl_X12_asksOf, zz_1 rfl tl_X12_asksOf, fun L a0 r M => (zz_1 rfl tl_X12_asksOf _ _ _).trans rfl, zz_1 rfl tl_X12_asksOf, zz_1 rfl tl_X12_asksOf, zz_1 rfl tl_X12_asksOf, zz_1 rfl tl_X12_asksOf, fun L r M => (zz_1 rfl tl_X12_asksOf _ _ _).trans rfl, zz_1 rfl tl_X12_asksOf, zz_1 rfl tl_X12_asksOf, zz_1 rfl tl_X12_asksOf, zz_1 rfl tl_X12_asksOf, zz_1 rfl tl_X12_asksOf, zz_1 rfl tl_X12_asksOf, zz_1 rfl tl_X12_asksOf, fun L a0 r M => (zz_1 rfl tl_X12_asksOf _ _ _).trans rfl, zz_1 rfl tl_X12_asksOf⟩
set_option maxRecDepth 100000 in
theorem s_X12_asksOf (a0 a1 : Int32) (v : Nat) (M : zzMd) : fX12_asksOf [.ref v, .int a0, .int a1] M = zz_ev tX12_asksOf 0 [some (.ref v), some (.int a0), some (.int a1)] [] M := rfl
set_option maxRecDepth 100000 in
theorem e_X12_asksField : (∀ L st M, zz_ev tX12_asksField 0 L st M = zo_aload 0 1 (zz_ev tX12_asksField) L st M) ∧
  (∀ L st M, zz_ev tX12_asksField 1 L st M = zo_aload 0 2 (zz_ev tX12_asksField) L st M) ∧
  (∀ L st M, zz_ev tX12_asksField 2 L st M = zo_iload 1 3 (zz_ev tX12_asksField) L st M) ∧
  (∀ (L : zzLc) (a0 : Int32) (r : List Value) (M : zzMd), zz_ev tX12_asksField 3 L (.int a0 :: .ref 0 :: r) M = bif zz_cat8 r then zz_backN (zz_ev tX12_asksField) 6 L r (fX12_isObject [.ref 0, .int a0] M) else none) ∧
  (∀ L st M, zz_ev tX12_asksField 6 L st M = zo_if (fun x => decide (¬ x = 0)) 13 9 (zz_ev tX12_asksField) L st M) ∧
  (∀ L st M, zz_ev tX12_asksField 9 L st M = zo_pushI 1 10 (zz_ev tX12_asksField) L st M) ∧
  (∀ L st M, zz_ev tX12_asksField 10 L st M = zo_goto 32 (zz_ev tX12_asksField) L st M) ∧
  (∀ L st M, zz_ev tX12_asksField 13 L st M = zo_aload 0 14 (zz_ev tX12_asksField) L st M) ∧
  (∀ L st M, zz_ev tX12_asksField 14 L st M = zo_aload 0 15 (zz_ev tX12_asksField) L st M) ∧
  (∀ (L : zzLc) (r : List Value) (M : zzMd), zz_ev tX12_asksField 15 L (.ref 0 :: r) M = zz_ev tX12_asksField 18 L (.ref 6 :: r) M) ∧
  (∀ L st M, zz_ev tX12_asksField 18 L st M = zo_iload 1 19 (zz_ev tX12_asksField) L st M) ∧
  (∀ L st M, zz_ev tX12_asksField 19 L st M = zo_iald zzSR zzSTR 20 (zz_ev tX12_asksField) L st M) ∧
  (∀ L st M, zz_ev tX12_asksField 20 L st M = zo_iload 2 21 (zz_ev tX12_asksField) L st M) ∧
  (∀ (L : zzLc) (a0 a1 : Int32) (r : List Value) (M : zzMd), zz_ev tX12_asksField 21 L (.int a1 :: .int a0 :: .ref 0 :: r) M = bif zz_cat8 r then zz_backN (zz_ev tX12_asksField) 24 L r (fX12_hasField [.ref 0, .int a0, .int a1] M) else none) ∧
  (∀ L st M, zz_ev tX12_asksField 24 L st M = zo_if (fun x => decide (x = 0)) 31 27 (zz_ev tX12_asksField) L st M) ∧
  (∀ L st M, zz_ev tX12_asksField 27 L st M = zo_pushI 0 28 (zz_ev tX12_asksField) L st M) ∧
  (∀ L st M, zz_ev tX12_asksField 28 L st M = zo_goto 32 (zz_ev tX12_asksField) L st M) ∧
  (∀ L st M, zz_ev tX12_asksField 31 L st M = zo_pushI 2 32 (zz_ev tX12_asksField) L st M) ∧
  (∀ (L : zzLc) (a0 : Int32) (r : List Value) (M : zzMd), zz_ev tX12_asksField 32 L (.int a0 :: .ref 0 :: r) M = bif zz_cat8 r then zz_backN (zz_ev tX12_asksField) 35 L r (fX12_goes [.ref 0, .int a0] M) else none) ∧
  (∀ L st M, zz_ev tX12_asksField 35 L st M = zo_iret true (zz_ev tX12_asksField) L st M) :=
  ⟨zz_1 rfl tl_X12_asksField, zz_1 rfl tl_X12_asksField, zz_1 rfl tl_X12_asksField, fun L a0 r M => (zz_1 rfl tl_X12_asksField _ _ _).trans rfl, zz_1 rfl tl_X12_asksField, zz_1 rfl tl_X12_asksField, zz_1 rfl tl_X12_asksField, zz_1 rfl tl_X12_asksField, zz_1 rfl tl_X12_asksField, fun L r M => (zz_1 rfl tl_X12_asksField _ _ _).trans rfl, zz_1 rfl tl_X12_asksField, zz_1 rfl tl_X12_asksField, zz_1 rfl tl_X12_asksField, fun L a0 a1 r M => (zz_1 rfl tl_X12_asksField _ _ _).trans rfl, zz_1 rfl tl_X12_asksField, zz_1 rfl tl_X12_asksField, zz_1 rfl tl_X12_asksField, zz_1 rfl tl_X12_asksField, fun L a0 r M => (zz_1 rfl tl_X12_asksField _ _ _).trans rfl, zz_1 rfl tl_X12_asksField⟩
set_option maxRecDepth 100000 in
theorem s_X12_asksField (a0 a1 : Int32) (v : Nat) (M : zzMd) : fX12_asksField [.ref v, .int a0, .int a1] M = zz_ev tX12_asksField 0 [some (.ref v), some (.int a0), some (.int a1)] [] M := rfl
set_option maxRecDepth 100000 in
theorem e_X12_kindOf : (∀ L st M, zz_ev tX12_kindOf 0 L st M = zo_aload 0 1 (zz_ev tX12_kindOf) L st M) ∧
  (∀ L st M, zz_ev tX12_kindOf 1 L st M = zo_iload 1 2 (zz_ev tX12_kindOf) L st M) ∧
  (∀ (L : zzLc) (a0 : Int32) (r : List Value) (M : zzMd), zz_ev tX12_kindOf 2 L (.int a0 :: .ref 0 :: r) M = bif zz_cat8 r then zz_backN (zz_ev tX12_kindOf) 5 L r (fX12_asksObject [.ref 0, .int a0] M) else none) ∧
  (∀ L st M, zz_ev tX12_kindOf 5 L st M = zo_if (fun x => decide (x = 0)) 17 8 (zz_ev tX12_kindOf) L st M) ∧
  (∀ L st M, zz_ev tX12_kindOf 8 L st M = zo_aload 0 9 (zz_ev tX12_kindOf) L st M) ∧
  (∀ (L : zzLc) (r : List Value) (M : zzMd), zz_ev tX12_kindOf 9 L (.ref 0 :: r) M = zz_ev tX12_kindOf 12 L (.ref 6 :: r) M) ∧
  (∀ L st M, zz_ev tX12_kindOf 12 L st M = zo_iload 1 13 (zz_ev tX12_kindOf) L st M) ∧
  (∀ L st M, zz_ev tX12_kindOf 13 L st M = zo_iald zzSR zzSTR 14 (zz_ev tX12_kindOf) L st M) ∧
  (∀ L st M, zz_ev tX12_kindOf 14 L st M = zo_goto 18 (zz_ev tX12_kindOf) L st M) ∧
  (∀ L st M, zz_ev tX12_kindOf 17 L st M = zo_pushI 0 18 (zz_ev tX12_kindOf) L st M) ∧
  (∀ L st M, zz_ev tX12_kindOf 18 L st M = zo_iret false (zz_ev tX12_kindOf) L st M) :=
  ⟨zz_1 rfl tl_X12_kindOf, zz_1 rfl tl_X12_kindOf, fun L a0 r M => (zz_1 rfl tl_X12_kindOf _ _ _).trans rfl, zz_1 rfl tl_X12_kindOf, zz_1 rfl tl_X12_kindOf, fun L r M => (zz_1 rfl tl_X12_kindOf _ _ _).trans rfl, zz_1 rfl tl_X12_kindOf, zz_1 rfl tl_X12_kindOf, zz_1 rfl tl_X12_kindOf, zz_1 rfl tl_X12_kindOf, zz_1 rfl tl_X12_kindOf⟩
set_option maxRecDepth 100000 in
theorem s_X12_kindOf (a0 : Int32) (v : Nat) (M : zzMd) : fX12_kindOf [.ref v, .int a0] M = zz_ev tX12_kindOf 0 [some (.ref v), some (.int a0)] [] M := rfl
set_option maxRecDepth 100000 in
theorem e_X12_field : (∀ L st M, zz_ev tX12_field 0 L st M = zo_aload 0 1 (zz_ev tX12_field) L st M) ∧
  (∀ L st M, zz_ev tX12_field 1 L st M = zo_iload 1 2 (zz_ev tX12_field) L st M) ∧
  (∀ L st M, zz_ev tX12_field 2 L st M = zo_iload 2 3 (zz_ev tX12_field) L st M) ∧
  (∀ (L : zzLc) (a0 a1 : Int32) (r : List Value) (M : zzMd), zz_ev tX12_field 3 L (.int a1 :: .int a0 :: .ref 0 :: r) M = bif zz_cat8 r then zz_backN (zz_ev tX12_field) 6 L r (fX12_asksField [.ref 0, .int a0, .int a1] M) else none) ∧
  (∀ L st M, zz_ev tX12_field 6 L st M = zo_if (fun x => decide (x = 0)) 23 9 (zz_ev tX12_field) L st M) ∧
  (∀ L st M, zz_ev tX12_field 9 L st M = zo_aload 0 10 (zz_ev tX12_field) L st M) ∧
  (∀ L st M, zz_ev tX12_field 10 L st M = zo_aload 0 11 (zz_ev tX12_field) L st M) ∧
  (∀ (L : zzLc) (r : List Value) (M : zzMd), zz_ev tX12_field 11 L (.ref 0 :: r) M = zz_ev tX12_field 14 L (.ref 7 :: r) M) ∧
  (∀ L st M, zz_ev tX12_field 14 L st M = zo_iload 1 15 (zz_ev tX12_field) L st M) ∧
  (∀ L st M, zz_ev tX12_field 15 L st M = zo_lald zzSR 16 (zz_ev tX12_field) L st M) ∧
  (∀ L st M, zz_ev tX12_field 16 L st M = zo_iload 2 17 (zz_ev tX12_field) L st M) ∧
  (∀ (L : zzLc) (a1 : Int32) (a0 : Int64) (r : List Value) (M : zzMd), zz_ev tX12_field 17 L (.int a1 :: .long a0 :: .ref 0 :: r) M = bif zz_cat8 r then zz_backN (zz_ev tX12_field) 20 L r (fX12_get [.ref 0, .long a0, .int a1] M) else none) ∧
  (∀ L st M, zz_ev tX12_field 20 L st M = zo_goto 24 (zz_ev tX12_field) L st M) ∧
  (∀ L st M, zz_ev tX12_field 23 L st M = zo_pushI 0 24 (zz_ev tX12_field) L st M) ∧
  (∀ L st M, zz_ev tX12_field 24 L st M = zo_iret false (zz_ev tX12_field) L st M) :=
  ⟨zz_1 rfl tl_X12_field, zz_1 rfl tl_X12_field, zz_1 rfl tl_X12_field, fun L a0 a1 r M => (zz_1 rfl tl_X12_field _ _ _).trans rfl, zz_1 rfl tl_X12_field, zz_1 rfl tl_X12_field, zz_1 rfl tl_X12_field, fun L r M => (zz_1 rfl tl_X12_field _ _ _).trans rfl, zz_1 rfl tl_X12_field, zz_1 rfl tl_X12_field, zz_1 rfl tl_X12_field, fun L a1 a0 r M => (zz_1 rfl tl_X12_field _ _ _).trans rfl, zz_1 rfl tl_X12_field, zz_1 rfl tl_X12_field, zz_1 rfl tl_X12_field⟩
set_option maxRecDepth 100000 in
theorem s_X12_field (a0 a1 : Int32) (v : Nat) (M : zzMd) : fX12_field [.ref v, .int a0, .int a1] M = zz_ev tX12_field 0 [some (.ref v), some (.int a0), some (.int a1)] [] M := rfl
set_option maxRecDepth 100000 in
theorem e_X12_managerOf : (∀ L st M, zz_ev tX12_managerOf 0 L st M = zo_aload 0 1 (zz_ev tX12_managerOf) L st M) ∧
  (∀ L st M, zz_ev tX12_managerOf 1 L st M = zo_iload 1 2 (zz_ev tX12_managerOf) L st M) ∧
  (∀ L st M, zz_ev tX12_managerOf 2 L st M = zo_iload 2 3 (zz_ev tX12_managerOf) L st M) ∧
  (∀ (L : zzLc) (a0 a1 : Int32) (r : List Value) (M : zzMd), zz_ev tX12_managerOf 3 L (.int a1 :: .int a0 :: .ref 0 :: r) M = bif zz_cat8 r then zz_backN (zz_ev tX12_managerOf) 6 L r (fX12_asksField [.ref 0, .int a0, .int a1] M) else none) ∧
  (∀ L st M, zz_ev tX12_managerOf 6 L st M = zo_if (fun x => decide (x = 0)) 23 9 (zz_ev tX12_managerOf) L st M) ∧
  (∀ L st M, zz_ev tX12_managerOf 9 L st M = zo_aload 0 10 (zz_ev tX12_managerOf) L st M) ∧
  (∀ (L : zzLc) (r : List Value) (M : zzMd), zz_ev tX12_managerOf 10 L (.ref 0 :: r) M = zz_ev tX12_managerOf 13 L (.ref 10 :: r) M) ∧
  (∀ L st M, zz_ev tX12_managerOf 13 L st M = zo_pushI 11 15 (zz_ev tX12_managerOf) L st M) ∧
  (∀ L st M, zz_ev tX12_managerOf 15 L st M = zo_iload 1 16 (zz_ev tX12_managerOf) L st M) ∧
  (∀ L st M, zz_ev tX12_managerOf 16 L st M = zo_ii (fun x y => x * y) 17 (zz_ev tX12_managerOf) L st M) ∧
  (∀ L st M, zz_ev tX12_managerOf 17 L st M = zo_iload 2 18 (zz_ev tX12_managerOf) L st M) ∧
  (∀ L st M, zz_ev tX12_managerOf 18 L st M = zo_ii (fun x y => x + y) 19 (zz_ev tX12_managerOf) L st M) ∧
  (∀ L st M, zz_ev tX12_managerOf 19 L st M = zo_iald zzSR zzSTR 20 (zz_ev tX12_managerOf) L st M) ∧
  (∀ L st M, zz_ev tX12_managerOf 20 L st M = zo_goto 24 (zz_ev tX12_managerOf) L st M) ∧
  (∀ L st M, zz_ev tX12_managerOf 23 L st M = zo_pushI 0 24 (zz_ev tX12_managerOf) L st M) ∧
  (∀ L st M, zz_ev tX12_managerOf 24 L st M = zo_iret false (zz_ev tX12_managerOf) L st M) :=
  ⟨zz_1 rfl tl_X12_managerOf, zz_1 rfl tl_X12_managerOf, zz_1 rfl tl_X12_managerOf, fun L a0 a1 r M => (zz_1 rfl tl_X12_managerOf _ _ _).trans rfl, zz_1 rfl tl_X12_managerOf, zz_1 rfl tl_X12_managerOf, fun L r M => (zz_1 rfl tl_X12_managerOf _ _ _).trans rfl, zz_1 rfl tl_X12_managerOf, zz_1 rfl tl_X12_managerOf, zz_1 rfl tl_X12_managerOf, zz_1 rfl tl_X12_managerOf, zz_1 rfl tl_X12_managerOf, zz_1 rfl tl_X12_managerOf, zz_1 rfl tl_X12_managerOf, zz_1 rfl tl_X12_managerOf, zz_1 rfl tl_X12_managerOf⟩
set_option maxRecDepth 100000 in
theorem s_X12_managerOf (a0 a1 : Int32) (v : Nat) (M : zzMd) : fX12_managerOf [.ref v, .int a0, .int a1] M = zz_ev tX12_managerOf 0 [some (.ref v), some (.int a0), some (.int a1)] [] M := rfl
set_option maxRecDepth 100000 in
theorem e_X12_budget : (∀ L st M, zz_ev tX12_budget 0 L st M = zo_aload 0 1 (zz_ev tX12_budget) L st M) ∧
  (∀ L st M, zz_ev tX12_budget 1 L st M = zo_iload 1 2 (zz_ev tX12_budget) L st M) ∧
  (∀ L st M, zz_ev tX12_budget 2 L st M = zo_pushI 0 3 (zz_ev tX12_budget) L st M) ∧
  (∀ (L : zzLc) (a0 a1 : Int32) (r : List Value) (M : zzMd), zz_ev tX12_budget 3 L (.int a1 :: .int a0 :: .ref 0 :: r) M = bif zz_cat8 r then zz_backN (zz_ev tX12_budget) 6 L r (fX12_asksOf [.ref 0, .int a0, .int a1] M) else none) ∧
  (∀ L st M, zz_ev tX12_budget 6 L st M = zo_if (fun x => decide (x = 0)) 38 9 (zz_ev tX12_budget) L st M) ∧
  (∀ L st M, zz_ev tX12_budget 9 L st M = zo_pushI 10 11 (zz_ev tX12_budget) L st M) ∧
  (∀ L st M, zz_ev tX12_budget 11 L st M = zo_aload 0 12 (zz_ev tX12_budget) L st M) ∧
  (∀ L st M, zz_ev tX12_budget 12 L st M = zo_aload 0 13 (zz_ev tX12_budget) L st M) ∧
  (∀ (L : zzLc) (r : List Value) (M : zzMd), zz_ev tX12_budget 13 L (.ref 0 :: r) M = zz_ev tX12_budget 16 L (.ref 7 :: r) M) ∧
  (∀ L st M, zz_ev tX12_budget 16 L st M = zo_iload 1 17 (zz_ev tX12_budget) L st M) ∧
  (∀ L st M, zz_ev tX12_budget 17 L st M = zo_lald zzSR 18 (zz_ev tX12_budget) L st M) ∧
  (∀ L st M, zz_ev tX12_budget 18 L st M = zo_pushI 2 19 (zz_ev tX12_budget) L st M) ∧
  (∀ (L : zzLc) (a1 : Int32) (a0 : Int64) (r : List Value) (M : zzMd), zz_ev tX12_budget 19 L (.int a1 :: .long a0 :: .ref 0 :: r) M = bif zz_cat8 r then zz_backN (zz_ev tX12_budget) 22 L r (fX12_get [.ref 0, .long a0, .int a1] M) else none) ∧
  (∀ L st M, zz_ev tX12_budget 22 L st M = zo_ii (fun x y => x * y) 23 (zz_ev tX12_budget) L st M) ∧
  (∀ L st M, zz_ev tX12_budget 23 L st M = zo_aload 0 24 (zz_ev tX12_budget) L st M) ∧
  (∀ L st M, zz_ev tX12_budget 24 L st M = zo_aload 0 25 (zz_ev tX12_budget) L st M) ∧
  (∀ (L : zzLc) (r : List Value) (M : zzMd), zz_ev tX12_budget 25 L (.ref 0 :: r) M = zz_ev tX12_budget 28 L (.ref 7 :: r) M) ∧
  (∀ L st M, zz_ev tX12_budget 28 L st M = zo_iload 1 29 (zz_ev tX12_budget) L st M) ∧
  (∀ L st M, zz_ev tX12_budget 29 L st M = zo_lald zzSR 30 (zz_ev tX12_budget) L st M) ∧
  (∀ L st M, zz_ev tX12_budget 30 L st M = zo_pushI 3 31 (zz_ev tX12_budget) L st M) ∧
  (∀ (L : zzLc) (a1 : Int32) (a0 : Int64) (r : List Value) (M : zzMd), zz_ev tX12_budget 31 L (.int a1 :: .long a0 :: .ref 0 :: r) M = bif zz_cat8 r then zz_backN (zz_ev tX12_budget) 34 L r (fX12_get [.ref 0, .long a0, .int a1] M) else none) ∧
  (∀ L st M, zz_ev tX12_budget 34 L st M = zo_ii (fun x y => x + y) 35 (zz_ev tX12_budget) L st M) ∧
  (∀ L st M, zz_ev tX12_budget 35 L st M = zo_goto 39 (zz_ev tX12_budget) L st M) ∧
  (∀ L st M, zz_ev tX12_budget 38 L st M = zo_pushI 0 39 (zz_ev tX12_budget) L st M) ∧
  (∀ L st M, zz_ev tX12_budget 39 L st M = zo_iret false (zz_ev tX12_budget) L st M) :=
  ⟨zz_1 rfl tl_X12_budget, zz_1 rfl tl_X12_budget, zz_1 rfl tl_X12_budget, fun L a0 a1 r M => (zz_1 rfl tl_X12_budget _ _ _).trans rfl, zz_1 rfl tl_X12_budget, zz_1 rfl tl_X12_budget, zz_1 rfl tl_X12_budget, zz_1 rfl tl_X12_budget, fun L r M => (zz_1 rfl tl_X12_budget _ _ _).trans rfl, zz_1 rfl tl_X12_budget, zz_1 rfl tl_X12_budget, zz_1 rfl tl_X12_budget, fun L a1 a0 r M => (zz_1 rfl tl_X12_budget _ _ _).trans rfl, zz_1 rfl tl_X12_budget, zz_1 rfl tl_X12_budget, zz_1 rfl tl_X12_budget, fun L r M => (zz_1 rfl tl_X12_budget _ _ _).trans rfl, zz_1 rfl tl_X12_budget, zz_1 rfl tl_X12_budget, zz_1 rfl tl_X12_budget, fun L a1 a0 r M => (zz_1 rfl tl_X12_budget _ _ _).trans rfl, zz_1 rfl tl_X12_budget, zz_1 rfl tl_X12_budget, zz_1 rfl tl_X12_budget, zz_1 rfl tl_X12_budget⟩
set_option maxRecDepth 100000 in
theorem s_X12_budget (a0 : Int32) (v : Nat) (M : zzMd) : fX12_budget [.ref v, .int a0] M = zz_ev tX12_budget 0 [some (.ref v), some (.int a0)] [] M := rfl
set_option maxRecDepth 100000 in
theorem e_X12_versionOf : (∀ L st M, zz_ev tX12_versionOf 0 L st M = zo_aload 0 1 (zz_ev tX12_versionOf) L st M) ∧
  (∀ L st M, zz_ev tX12_versionOf 1 L st M = zo_iload 1 2 (zz_ev tX12_versionOf) L st M) ∧
  (∀ (L : zzLc) (a0 : Int32) (r : List Value) (M : zzMd), zz_ev tX12_versionOf 2 L (.int a0 :: .ref 0 :: r) M = bif zz_cat8 r then zz_backN (zz_ev tX12_versionOf) 5 L r (fX12_asksObject [.ref 0, .int a0] M) else none) ∧
  (∀ L st M, zz_ev tX12_versionOf 5 L st M = zo_if (fun x => decide (x = 0)) 17 8 (zz_ev tX12_versionOf) L st M) ∧
  (∀ L st M, zz_ev tX12_versionOf 8 L st M = zo_aload 0 9 (zz_ev tX12_versionOf) L st M) ∧
  (∀ (L : zzLc) (r : List Value) (M : zzMd), zz_ev tX12_versionOf 9 L (.ref 0 :: r) M = zz_ev tX12_versionOf 12 L (.ref 9 :: r) M) ∧
  (∀ L st M, zz_ev tX12_versionOf 12 L st M = zo_iload 1 13 (zz_ev tX12_versionOf) L st M) ∧
  (∀ L st M, zz_ev tX12_versionOf 13 L st M = zo_iald zzSR zzSTR 14 (zz_ev tX12_versionOf) L st M) ∧
  (∀ L st M, zz_ev tX12_versionOf 14 L st M = zo_goto 18 (zz_ev tX12_versionOf) L st M) ∧
  (∀ L st M, zz_ev tX12_versionOf 17 L st M = zo_pushI 0 18 (zz_ev tX12_versionOf) L st M) ∧
  (∀ L st M, zz_ev tX12_versionOf 18 L st M = zo_iret false (zz_ev tX12_versionOf) L st M) :=
  ⟨zz_1 rfl tl_X12_versionOf, zz_1 rfl tl_X12_versionOf, fun L a0 r M => (zz_1 rfl tl_X12_versionOf _ _ _).trans rfl, zz_1 rfl tl_X12_versionOf, zz_1 rfl tl_X12_versionOf, fun L r M => (zz_1 rfl tl_X12_versionOf _ _ _).trans rfl, zz_1 rfl tl_X12_versionOf, zz_1 rfl tl_X12_versionOf, zz_1 rfl tl_X12_versionOf, zz_1 rfl tl_X12_versionOf, zz_1 rfl tl_X12_versionOf⟩
set_option maxRecDepth 100000 in
theorem s_X12_versionOf (a0 : Int32) (v : Nat) (M : zzMd) : fX12_versionOf [.ref v, .int a0] M = zz_ev tX12_versionOf 0 [some (.ref v), some (.int a0)] [] M := rfl
set_option maxRecDepth 100000 in
theorem e_X12_goingOf : (∀ L st M, zz_ev tX12_goingOf 0 L st M = zo_aload 0 1 (zz_ev tX12_goingOf) L st M) ∧
  (∀ L st M, zz_ev tX12_goingOf 1 L st M = zo_iload 1 2 (zz_ev tX12_goingOf) L st M) ∧
  (∀ (L : zzLc) (a0 : Int32) (r : List Value) (M : zzMd), zz_ev tX12_goingOf 2 L (.int a0 :: .ref 0 :: r) M = bif zz_cat8 r then zz_backN (zz_ev tX12_goingOf) 5 L r (fX12_asksObject [.ref 0, .int a0] M) else none) ∧
  (∀ L st M, zz_ev tX12_goingOf 5 L st M = zo_if (fun x => decide (x = 0)) 23 8 (zz_ev tX12_goingOf) L st M) ∧
  (∀ L st M, zz_ev tX12_goingOf 8 L st M = zo_aload 0 9 (zz_ev tX12_goingOf) L st M) ∧
  (∀ L st M, zz_ev tX12_goingOf 9 L st M = zo_aload 0 10 (zz_ev tX12_goingOf) L st M) ∧
  (∀ (L : zzLc) (r : List Value) (M : zzMd), zz_ev tX12_goingOf 10 L (.ref 0 :: r) M = zz_ev tX12_goingOf 13 L (.ref 7 :: r) M) ∧
  (∀ L st M, zz_ev tX12_goingOf 13 L st M = zo_iload 1 14 (zz_ev tX12_goingOf) L st M) ∧
  (∀ L st M, zz_ev tX12_goingOf 14 L st M = zo_lald zzSR 15 (zz_ev tX12_goingOf) L st M) ∧
  (∀ L st M, zz_ev tX12_goingOf 15 L st M = zo_pushI 13 17 (zz_ev tX12_goingOf) L st M) ∧
  (∀ (L : zzLc) (a1 : Int32) (a0 : Int64) (r : List Value) (M : zzMd), zz_ev tX12_goingOf 17 L (.int a1 :: .long a0 :: .ref 0 :: r) M = bif zz_cat8 r then zz_backN (zz_ev tX12_goingOf) 20 L r (fX12_get [.ref 0, .long a0, .int a1] M) else none) ∧
  (∀ L st M, zz_ev tX12_goingOf 20 L st M = zo_goto 24 (zz_ev tX12_goingOf) L st M) ∧
  (∀ L st M, zz_ev tX12_goingOf 23 L st M = zo_pushI 0 24 (zz_ev tX12_goingOf) L st M) ∧
  (∀ L st M, zz_ev tX12_goingOf 24 L st M = zo_iret false (zz_ev tX12_goingOf) L st M) :=
  ⟨zz_1 rfl tl_X12_goingOf, zz_1 rfl tl_X12_goingOf, fun L a0 r M => (zz_1 rfl tl_X12_goingOf _ _ _).trans rfl, zz_1 rfl tl_X12_goingOf, zz_1 rfl tl_X12_goingOf, zz_1 rfl tl_X12_goingOf, fun L r M => (zz_1 rfl tl_X12_goingOf _ _ _).trans rfl, zz_1 rfl tl_X12_goingOf, zz_1 rfl tl_X12_goingOf, zz_1 rfl tl_X12_goingOf, fun L a1 a0 r M => (zz_1 rfl tl_X12_goingOf _ _ _).trans rfl, zz_1 rfl tl_X12_goingOf, zz_1 rfl tl_X12_goingOf, zz_1 rfl tl_X12_goingOf⟩
set_option maxRecDepth 100000 in
theorem s_X12_goingOf (a0 : Int32) (v : Nat) (M : zzMd) : fX12_goingOf [.ref v, .int a0] M = zz_ev tX12_goingOf 0 [some (.ref v), some (.int a0)] [] M := rfl
set_option maxRecDepth 100000 in
theorem e_X12_ownerOf : (∀ L st M, zz_ev tX12_ownerOf 0 L st M = zo_aload 0 1 (zz_ev tX12_ownerOf) L st M) ∧
  (∀ L st M, zz_ev tX12_ownerOf 1 L st M = zo_iload 1 2 (zz_ev tX12_ownerOf) L st M) ∧
  (∀ (L : zzLc) (a0 : Int32) (r : List Value) (M : zzMd), zz_ev tX12_ownerOf 2 L (.int a0 :: .ref 0 :: r) M = bif zz_cat8 r then zz_backN (zz_ev tX12_ownerOf) 5 L r (fX12_asksObject [.ref 0, .int a0] M) else none) ∧
  (∀ L st M, zz_ev tX12_ownerOf 5 L st M = zo_if (fun x => decide (x = 0)) 21 8 (zz_ev tX12_ownerOf) L st M) ∧
  (∀ L st M, zz_ev tX12_ownerOf 8 L st M = zo_aload 0 9 (zz_ev tX12_ownerOf) L st M) ∧
  (∀ L st M, zz_ev tX12_ownerOf 9 L st M = zo_aload 0 10 (zz_ev tX12_ownerOf) L st M) ∧
  (∀ (L : zzLc) (r : List Value) (M : zzMd), zz_ev tX12_ownerOf 10 L (.ref 0 :: r) M = zz_ev tX12_ownerOf 13 L (.ref 7 :: r) M) ∧
  (∀ L st M, zz_ev tX12_ownerOf 13 L st M = zo_iload 1 14 (zz_ev tX12_ownerOf) L st M) ∧
  (∀ L st M, zz_ev tX12_ownerOf 14 L st M = zo_lald zzSR 15 (zz_ev tX12_ownerOf) L st M) ∧
  (∀ (L : zzLc) (a0 : Int64) (r : List Value) (M : zzMd), zz_ev tX12_ownerOf 15 L (.long a0 :: .ref 0 :: r) M = bif zz_cat8 r then zz_backN (zz_ev tX12_ownerOf) 18 L r (fX12_ownerIn [.ref 0, .long a0] M) else none) ∧
  (∀ L st M, zz_ev tX12_ownerOf 18 L st M = zo_goto 22 (zz_ev tX12_ownerOf) L st M) ∧
  (∀ L st M, zz_ev tX12_ownerOf 21 L st M = zo_pushI 0 22 (zz_ev tX12_ownerOf) L st M) ∧
  (∀ L st M, zz_ev tX12_ownerOf 22 L st M = zo_iret false (zz_ev tX12_ownerOf) L st M) :=
  ⟨zz_1 rfl tl_X12_ownerOf, zz_1 rfl tl_X12_ownerOf, fun L a0 r M => (zz_1 rfl tl_X12_ownerOf _ _ _).trans rfl, zz_1 rfl tl_X12_ownerOf, zz_1 rfl tl_X12_ownerOf, zz_1 rfl tl_X12_ownerOf, fun L r M => (zz_1 rfl tl_X12_ownerOf _ _ _).trans rfl, zz_1 rfl tl_X12_ownerOf, zz_1 rfl tl_X12_ownerOf, fun L a0 r M => (zz_1 rfl tl_X12_ownerOf _ _ _).trans rfl, zz_1 rfl tl_X12_ownerOf, zz_1 rfl tl_X12_ownerOf, zz_1 rfl tl_X12_ownerOf⟩
set_option maxRecDepth 100000 in
theorem s_X12_ownerOf (a0 : Int32) (v : Nat) (M : zzMd) : fX12_ownerOf [.ref v, .int a0] M = zz_ev tX12_ownerOf 0 [some (.ref v), some (.int a0)] [] M := rfl
set_option maxRecDepth 100000 in
theorem e_X12_phaseOf : (∀ L st M, zz_ev tX12_phaseOf 0 L st M = zo_aload 0 1 (zz_ev tX12_phaseOf) L st M) ∧
  (∀ L st M, zz_ev tX12_phaseOf 1 L st M = zo_iload 1 2 (zz_ev tX12_phaseOf) L st M) ∧
  (∀ L st M, zz_ev tX12_phaseOf 2 L st M = zo_pushI 2 3 (zz_ev tX12_phaseOf) L st M) ∧
  (∀ (L : zzLc) (a0 a1 : Int32) (r : List Value) (M : zzMd), zz_ev tX12_phaseOf 3 L (.int a1 :: .int a0 :: .ref 0 :: r) M = bif zz_cat8 r then zz_backN (zz_ev tX12_phaseOf) 6 L r (fX12_asksOf [.ref 0, .int a0, .int a1] M) else none) ∧
  (∀ L st M, zz_ev tX12_phaseOf 6 L st M = zo_if (fun x => decide (x = 0)) 24 9 (zz_ev tX12_phaseOf) L st M) ∧
  (∀ L st M, zz_ev tX12_phaseOf 9 L st M = zo_aload 0 10 (zz_ev tX12_phaseOf) L st M) ∧
  (∀ L st M, zz_ev tX12_phaseOf 10 L st M = zo_aload 0 11 (zz_ev tX12_phaseOf) L st M) ∧
  (∀ (L : zzLc) (r : List Value) (M : zzMd), zz_ev tX12_phaseOf 11 L (.ref 0 :: r) M = zz_ev tX12_phaseOf 14 L (.ref 7 :: r) M) ∧
  (∀ L st M, zz_ev tX12_phaseOf 14 L st M = zo_iload 1 15 (zz_ev tX12_phaseOf) L st M) ∧
  (∀ L st M, zz_ev tX12_phaseOf 15 L st M = zo_lald zzSR 16 (zz_ev tX12_phaseOf) L st M) ∧
  (∀ L st M, zz_ev tX12_phaseOf 16 L st M = zo_pushI 16 18 (zz_ev tX12_phaseOf) L st M) ∧
  (∀ (L : zzLc) (a1 : Int32) (a0 : Int64) (r : List Value) (M : zzMd), zz_ev tX12_phaseOf 18 L (.int a1 :: .long a0 :: .ref 0 :: r) M = bif zz_cat8 r then zz_backN (zz_ev tX12_phaseOf) 21 L r (fX12_get [.ref 0, .long a0, .int a1] M) else none) ∧
  (∀ L st M, zz_ev tX12_phaseOf 21 L st M = zo_goto 25 (zz_ev tX12_phaseOf) L st M) ∧
  (∀ L st M, zz_ev tX12_phaseOf 24 L st M = zo_pushI 0 25 (zz_ev tX12_phaseOf) L st M) ∧
  (∀ L st M, zz_ev tX12_phaseOf 25 L st M = zo_iret false (zz_ev tX12_phaseOf) L st M) :=
  ⟨zz_1 rfl tl_X12_phaseOf, zz_1 rfl tl_X12_phaseOf, zz_1 rfl tl_X12_phaseOf, fun L a0 a1 r M => (zz_1 rfl tl_X12_phaseOf _ _ _).trans rfl, zz_1 rfl tl_X12_phaseOf, zz_1 rfl tl_X12_phaseOf, zz_1 rfl tl_X12_phaseOf, fun L r M => (zz_1 rfl tl_X12_phaseOf _ _ _).trans rfl, zz_1 rfl tl_X12_phaseOf, zz_1 rfl tl_X12_phaseOf, zz_1 rfl tl_X12_phaseOf, fun L a1 a0 r M => (zz_1 rfl tl_X12_phaseOf _ _ _).trans rfl, zz_1 rfl tl_X12_phaseOf, zz_1 rfl tl_X12_phaseOf, zz_1 rfl tl_X12_phaseOf⟩
set_option maxRecDepth 100000 in
theorem s_X12_phaseOf (a0 : Int32) (v : Nat) (M : zzMd) : fX12_phaseOf [.ref v, .int a0] M = zz_ev tX12_phaseOf 0 [some (.ref v), some (.int a0)] [] M := rfl
set_option maxRecDepth 100000 in
theorem e_X12_placeOf : (∀ L st M, zz_ev tX12_placeOf 0 L st M = zo_aload 0 1 (zz_ev tX12_placeOf) L st M) ∧
  (∀ L st M, zz_ev tX12_placeOf 1 L st M = zo_iload 1 2 (zz_ev tX12_placeOf) L st M) ∧
  (∀ L st M, zz_ev tX12_placeOf 2 L st M = zo_pushI 2 3 (zz_ev tX12_placeOf) L st M) ∧
  (∀ (L : zzLc) (a0 a1 : Int32) (r : List Value) (M : zzMd), zz_ev tX12_placeOf 3 L (.int a1 :: .int a0 :: .ref 0 :: r) M = bif zz_cat8 r then zz_backN (zz_ev tX12_placeOf) 6 L r (fX12_asksOf [.ref 0, .int a0, .int a1] M) else none) ∧
  (∀ L st M, zz_ev tX12_placeOf 6 L st M = zo_if (fun x => decide (x = 0)) 26 9 (zz_ev tX12_placeOf) L st M) ∧
  (∀ L st M, zz_ev tX12_placeOf 9 L st M = zo_aload 0 10 (zz_ev tX12_placeOf) L st M) ∧
  (∀ L st M, zz_ev tX12_placeOf 10 L st M = zo_aload 0 11 (zz_ev tX12_placeOf) L st M) ∧
  (∀ (L : zzLc) (r : List Value) (M : zzMd), zz_ev tX12_placeOf 11 L (.ref 0 :: r) M = zz_ev tX12_placeOf 14 L (.ref 7 :: r) M) ∧
  (∀ L st M, zz_ev tX12_placeOf 14 L st M = zo_iload 1 15 (zz_ev tX12_placeOf) L st M) ∧
  (∀ L st M, zz_ev tX12_placeOf 15 L st M = zo_lald zzSR 16 (zz_ev tX12_placeOf) L st M) ∧
  (∀ L st M, zz_ev tX12_placeOf 16 L st M = zo_pushI 15 18 (zz_ev tX12_placeOf) L st M) ∧
  (∀ (L : zzLc) (a1 : Int32) (a0 : Int64) (r : List Value) (M : zzMd), zz_ev tX12_placeOf 18 L (.int a1 :: .long a0 :: .ref 0 :: r) M = bif zz_cat8 r then zz_backN (zz_ev tX12_placeOf) 21 L r (fX12_get [.ref 0, .long a0, .int a1] M) else none) ∧
  (∀ L st M, zz_ev tX12_placeOf 21 L st M = zo_pushI 1 22 (zz_ev tX12_placeOf) L st M) ∧
  (∀ L st M, zz_ev tX12_placeOf 22 L st M = zo_ii (fun x y => x - y) 23 (zz_ev tX12_placeOf) L st M) ∧
  (∀ L st M, zz_ev tX12_placeOf 23 L st M = zo_goto 27 (zz_ev tX12_placeOf) L st M) ∧
  (∀ L st M, zz_ev tX12_placeOf 26 L st M = zo_pushI 0 27 (zz_ev tX12_placeOf) L st M) ∧
  (∀ L st M, zz_ev tX12_placeOf 27 L st M = zo_iret false (zz_ev tX12_placeOf) L st M) :=
  ⟨zz_1 rfl tl_X12_placeOf, zz_1 rfl tl_X12_placeOf, zz_1 rfl tl_X12_placeOf, fun L a0 a1 r M => (zz_1 rfl tl_X12_placeOf _ _ _).trans rfl, zz_1 rfl tl_X12_placeOf, zz_1 rfl tl_X12_placeOf, zz_1 rfl tl_X12_placeOf, fun L r M => (zz_1 rfl tl_X12_placeOf _ _ _).trans rfl, zz_1 rfl tl_X12_placeOf, zz_1 rfl tl_X12_placeOf, zz_1 rfl tl_X12_placeOf, fun L a1 a0 r M => (zz_1 rfl tl_X12_placeOf _ _ _).trans rfl, zz_1 rfl tl_X12_placeOf, zz_1 rfl tl_X12_placeOf, zz_1 rfl tl_X12_placeOf, zz_1 rfl tl_X12_placeOf, zz_1 rfl tl_X12_placeOf⟩
set_option maxRecDepth 100000 in
theorem s_X12_placeOf (a0 : Int32) (v : Nat) (M : zzMd) : fX12_placeOf [.ref v, .int a0] M = zz_ev tX12_placeOf 0 [some (.ref v), some (.int a0)] [] M := rfl
set_option maxRecDepth 100000 in
theorem e_X12_isReady : (∀ L st M, zz_ev tX12_isReady 0 L st M = zo_aload 0 1 (zz_ev tX12_isReady) L st M) ∧
  (∀ L st M, zz_ev tX12_isReady 1 L st M = zo_iload 1 2 (zz_ev tX12_isReady) L st M) ∧
  (∀ L st M, zz_ev tX12_isReady 2 L st M = zo_pushI 4 3 (zz_ev tX12_isReady) L st M) ∧
  (∀ (L : zzLc) (a0 a1 : Int32) (r : List Value) (M : zzMd), zz_ev tX12_isReady 3 L (.int a1 :: .int a0 :: .ref 0 :: r) M = bif zz_cat8 r then zz_backN (zz_ev tX12_isReady) 6 L r (fX12_asksOf [.ref 0, .int a0, .int a1] M) else none) ∧
  (∀ L st M, zz_ev tX12_isReady 6 L st M = zo_if (fun x => decide (x = 0)) 29 9 (zz_ev tX12_isReady) L st M) ∧
  (∀ L st M, zz_ev tX12_isReady 9 L st M = zo_aload 0 10 (zz_ev tX12_isReady) L st M) ∧
  (∀ L st M, zz_ev tX12_isReady 10 L st M = zo_aload 0 11 (zz_ev tX12_isReady) L st M) ∧
  (∀ (L : zzLc) (r : List Value) (M : zzMd), zz_ev tX12_isReady 11 L (.ref 0 :: r) M = zz_ev tX12_isReady 14 L (.ref 7 :: r) M) ∧
  (∀ L st M, zz_ev tX12_isReady 14 L st M = zo_iload 1 15 (zz_ev tX12_isReady) L st M) ∧
  (∀ L st M, zz_ev tX12_isReady 15 L st M = zo_lald zzSR 16 (zz_ev tX12_isReady) L st M) ∧
  (∀ L st M, zz_ev tX12_isReady 16 L st M = zo_pushI 14 18 (zz_ev tX12_isReady) L st M) ∧
  (∀ (L : zzLc) (a1 : Int32) (a0 : Int64) (r : List Value) (M : zzMd), zz_ev tX12_isReady 18 L (.int a1 :: .long a0 :: .ref 0 :: r) M = bif zz_cat8 r then zz_backN (zz_ev tX12_isReady) 21 L r (fX12_get [.ref 0, .long a0, .int a1] M) else none) ∧
  (∀ L st M, zz_ev tX12_isReady 21 L st M = zo_pushI 1 22 (zz_ev tX12_isReady) L st M) ∧
  (∀ L st M, zz_ev tX12_isReady 22 L st M = zo_icmp (fun x y => decide (¬ x = y)) 29 25 (zz_ev tX12_isReady) L st M) ∧
  (∀ L st M, zz_ev tX12_isReady 25 L st M = zo_pushI 1 26 (zz_ev tX12_isReady) L st M) ∧
  (∀ L st M, zz_ev tX12_isReady 26 L st M = zo_goto 30 (zz_ev tX12_isReady) L st M) ∧
  (∀ L st M, zz_ev tX12_isReady 29 L st M = zo_pushI 0 30 (zz_ev tX12_isReady) L st M) ∧
  (∀ L st M, zz_ev tX12_isReady 30 L st M = zo_iret true (zz_ev tX12_isReady) L st M) :=
  ⟨zz_1 rfl tl_X12_isReady, zz_1 rfl tl_X12_isReady, zz_1 rfl tl_X12_isReady, fun L a0 a1 r M => (zz_1 rfl tl_X12_isReady _ _ _).trans rfl, zz_1 rfl tl_X12_isReady, zz_1 rfl tl_X12_isReady, zz_1 rfl tl_X12_isReady, fun L r M => (zz_1 rfl tl_X12_isReady _ _ _).trans rfl, zz_1 rfl tl_X12_isReady, zz_1 rfl tl_X12_isReady, zz_1 rfl tl_X12_isReady, fun L a1 a0 r M => (zz_1 rfl tl_X12_isReady _ _ _).trans rfl, zz_1 rfl tl_X12_isReady, zz_1 rfl tl_X12_isReady, zz_1 rfl tl_X12_isReady, zz_1 rfl tl_X12_isReady, zz_1 rfl tl_X12_isReady, zz_1 rfl tl_X12_isReady⟩
set_option maxRecDepth 100000 in
theorem s_X12_isReady (a0 : Int32) (v : Nat) (M : zzMd) : fX12_isReady [.ref v, .int a0] M = zz_ev tX12_isReady 0 [some (.ref v), some (.int a0)] [] M := rfl
set_option maxRecDepth 100000 in
theorem e_X12_isBehind : (∀ L st M, zz_ev tX12_isBehind 0 L st M = zo_aload 0 1 (zz_ev tX12_isBehind) L st M) ∧
  (∀ L st M, zz_ev tX12_isBehind 1 L st M = zo_iload 1 2 (zz_ev tX12_isBehind) L st M) ∧
  (∀ (L : zzLc) (a0 : Int32) (r : List Value) (M : zzMd), zz_ev tX12_isBehind 2 L (.int a0 :: .ref 0 :: r) M = bif zz_cat8 r then zz_backN (zz_ev tX12_isBehind) 5 L r (fX12_isObject [.ref 0, .int a0] M) else none) ∧
  (∀ L st M, zz_ev tX12_isBehind 5 L st M = zo_if (fun x => decide (x = 0)) 20 8 (zz_ev tX12_isBehind) L st M) ∧
  (∀ L st M, zz_ev tX12_isBehind 8 L st M = zo_aload 0 9 (zz_ev tX12_isBehind) L st M) ∧
  (∀ L st M, zz_ev tX12_isBehind 9 L st M = zo_iload 2 10 (zz_ev tX12_isBehind) L st M) ∧
  (∀ (L : zzLc) (a0 : Int32) (r : List Value) (M : zzMd), zz_ev tX12_isBehind 10 L (.int a0 :: .ref 0 :: r) M = bif zz_cat8 r then zz_backN (zz_ev tX12_isBehind) 13 L r (fX12_isObject [.ref 0, .int a0] M) else none) ∧
  (∀ L st M, zz_ev tX12_isBehind 13 L st M = zo_if (fun x => decide (x = 0)) 20 16 (zz_ev tX12_isBehind) L st M) ∧
  (∀ L st M, zz_ev tX12_isBehind 16 L st M = zo_pushI 1 17 (zz_ev tX12_isBehind) L st M) ∧
  (∀ L st M, zz_ev tX12_isBehind 17 L st M = zo_goto 21 (zz_ev tX12_isBehind) L st M) ∧
  (∀ L st M, zz_ev tX12_isBehind 20 L st M = zo_pushI 0 21 (zz_ev tX12_isBehind) L st M) ∧
  (∀ L st M, zz_ev tX12_isBehind 21 L st M = zo_istore 3 22 (zz_ev tX12_isBehind) L st M) ∧
  (∀ L st M, zz_ev tX12_isBehind 22 L st M = zo_aload 0 23 (zz_ev tX12_isBehind) L st M) ∧
  (∀ L st M, zz_ev tX12_isBehind 23 L st M = zo_iload 3 24 (zz_ev tX12_isBehind) L st M) ∧
  (∀ L st M, zz_ev tX12_isBehind 24 L st M = zo_if (fun x => decide (¬ x = 0)) 31 27 (zz_ev tX12_isBehind) L st M) ∧
  (∀ L st M, zz_ev tX12_isBehind 27 L st M = zo_pushI 1 28 (zz_ev tX12_isBehind) L st M) ∧
  (∀ L st M, zz_ev tX12_isBehind 28 L st M = zo_goto 46 (zz_ev tX12_isBehind) L st M) ∧
  (∀ L st M, zz_ev tX12_isBehind 31 L st M = zo_aload 0 32 (zz_ev tX12_isBehind) L st M) ∧
  (∀ (L : zzLc) (r : List Value) (M : zzMd), zz_ev tX12_isBehind 32 L (.ref 0 :: r) M = zz_ev tX12_isBehind 35 L (.ref 6 :: r) M) ∧
  (∀ L st M, zz_ev tX12_isBehind 35 L st M = zo_iload 1 36 (zz_ev tX12_isBehind) L st M) ∧
  (∀ L st M, zz_ev tX12_isBehind 36 L st M = zo_iald zzSR zzSTR 37 (zz_ev tX12_isBehind) L st M) ∧
  (∀ L st M, zz_ev tX12_isBehind 37 L st M = zo_pushI 5 38 (zz_ev tX12_isBehind) L st M) ∧
  (∀ L st M, zz_ev tX12_isBehind 38 L st M = zo_icmp (fun x y => decide (¬ x = y)) 45 41 (zz_ev tX12_isBehind) L st M) ∧
  (∀ L st M, zz_ev tX12_isBehind 41 L st M = zo_pushI 0 42 (zz_ev tX12_isBehind) L st M) ∧
  (∀ L st M, zz_ev tX12_isBehind 42 L st M = zo_goto 46 (zz_ev tX12_isBehind) L st M) ∧
  (∀ L st M, zz_ev tX12_isBehind 45 L st M = zo_pushI 2 46 (zz_ev tX12_isBehind) L st M) ∧
  (∀ (L : zzLc) (a0 : Int32) (r : List Value) (M : zzMd), zz_ev tX12_isBehind 46 L (.int a0 :: .ref 0 :: r) M = bif zz_cat8 r then zz_backN (zz_ev tX12_isBehind) 49 L r (fX12_goes [.ref 0, .int a0] M) else none) ∧
  (∀ L st M, zz_ev tX12_isBehind 49 L st M = zo_if (fun x => decide (x = 0)) 69 52 (zz_ev tX12_isBehind) L st M) ∧
  (∀ L st M, zz_ev tX12_isBehind 52 L st M = zo_aload 0 53 (zz_ev tX12_isBehind) L st M) ∧
  (∀ (L : zzLc) (r : List Value) (M : zzMd), zz_ev tX12_isBehind 53 L (.ref 0 :: r) M = zz_ev tX12_isBehind 56 L (.ref 8 :: r) M) ∧
  (∀ L st M, zz_ev tX12_isBehind 56 L st M = zo_iload 1 57 (zz_ev tX12_isBehind) L st M) ∧
  (∀ L st M, zz_ev tX12_isBehind 57 L st M = zo_lald zzSR 58 (zz_ev tX12_isBehind) L st M) ∧
  (∀ L st M, zz_ev tX12_isBehind 58 L st M = zo_iload 2 59 (zz_ev tX12_isBehind) L st M) ∧
  (∀ (L : zzLc) (a1 : Int32) (a0 : Int64) (r : List Value) (M : zzMd), zz_ev tX12_isBehind 59 L (.int a1 :: .long a0 :: r) M = bif zz_cat8 r then zz_backN (zz_ev tX12_isBehind) 62 L r (fX12_isOf [.long a0, .int a1] M) else none) ∧
  (∀ L st M, zz_ev tX12_isBehind 62 L st M = zo_if (fun x => decide (x = 0)) 69 65 (zz_ev tX12_isBehind) L st M) ∧
  (∀ L st M, zz_ev tX12_isBehind 65 L st M = zo_pushI 1 66 (zz_ev tX12_isBehind) L st M) ∧
  (∀ L st M, zz_ev tX12_isBehind 66 L st M = zo_goto 70 (zz_ev tX12_isBehind) L st M) ∧
  (∀ L st M, zz_ev tX12_isBehind 69 L st M = zo_pushI 0 70 (zz_ev tX12_isBehind) L st M) ∧
  (∀ L st M, zz_ev tX12_isBehind 70 L st M = zo_iret true (zz_ev tX12_isBehind) L st M) :=
  ⟨zz_1 rfl tl_X12_isBehind, zz_1 rfl tl_X12_isBehind, fun L a0 r M => (zz_1 rfl tl_X12_isBehind _ _ _).trans rfl, zz_1 rfl tl_X12_isBehind, zz_1 rfl tl_X12_isBehind, zz_1 rfl tl_X12_isBehind, fun L a0 r M => (zz_1 rfl tl_X12_isBehind _ _ _).trans rfl, zz_1 rfl tl_X12_isBehind, zz_1 rfl tl_X12_isBehind, zz_1 rfl tl_X12_isBehind, zz_1 rfl tl_X12_isBehind, zz_1 rfl tl_X12_isBehind, zz_1 rfl tl_X12_isBehind, zz_1 rfl tl_X12_isBehind, zz_1 rfl tl_X12_isBehind, zz_1 rfl tl_X12_isBehind, zz_1 rfl tl_X12_isBehind, zz_1 rfl tl_X12_isBehind, fun L r M => (zz_1 rfl tl_X12_isBehind _ _ _).trans rfl, zz_1 rfl tl_X12_isBehind, zz_1 rfl tl_X12_isBehind, zz_1 rfl tl_X12_isBehind, zz_1 rfl tl_X12_isBehind, zz_1 rfl tl_X12_isBehind, zz_1 rfl tl_X12_isBehind, zz_1 rfl tl_X12_isBehind, fun L a0 r M => (zz_1 rfl tl_X12_isBehind _ _ _).trans rfl, zz_1 rfl tl_X12_isBehind, zz_1 rfl tl_X12_isBehind, fun L r M => (zz_1 rfl tl_X12_isBehind _ _ _).trans rfl, zz_1 rfl tl_X12_isBehind, zz_1 rfl tl_X12_isBehind, zz_1 rfl tl_X12_isBehind, fun L a1 a0 r M => (zz_1 rfl tl_X12_isBehind _ _ _).trans rfl, zz_1 rfl tl_X12_isBehind, zz_1 rfl tl_X12_isBehind, zz_1 rfl tl_X12_isBehind, zz_1 rfl tl_X12_isBehind, zz_1 rfl tl_X12_isBehind⟩
set_option maxRecDepth 100000 in
theorem s_X12_isBehind (a0 a1 : Int32) (v : Nat) (M : zzMd) : fX12_isBehind [.ref v, .int a0, .int a1] M = zz_ev tX12_isBehind 0 [some (.ref v), some (.int a0), some (.int a1), none] [] M := rfl
set_option maxRecDepth 100000 in
theorem e_X12_isSetOf : (∀ L st M, zz_ev tX12_isSetOf 0 L st M = zo_iload 1 1 (zz_ev tX12_isSetOf) L st M) ∧
  (∀ L st M, zz_ev tX12_isSetOf 1 L st M = zo_pushI (-1) 2 (zz_ev tX12_isSetOf) L st M) ∧
  (∀ L st M, zz_ev tX12_isSetOf 2 L st M = zo_icmp (fun x y => decide (x = y)) 48 5 (zz_ev tX12_isSetOf) L st M) ∧
  (∀ L st M, zz_ev tX12_isSetOf 5 L st M = zo_aload 0 6 (zz_ev tX12_isSetOf) L st M) ∧
  (∀ (L : zzLc) (r : List Value) (M : zzMd), zz_ev tX12_isSetOf 6 L (.ref 0 :: r) M = zz_ev tX12_isSetOf 9 L (.ref 6 :: r) M) ∧
  (∀ L st M, zz_ev tX12_isSetOf 9 L st M = zo_iload 1 10 (zz_ev tX12_isSetOf) L st M) ∧
  (∀ L st M, zz_ev tX12_isSetOf 10 L st M = zo_iald zzSR zzSTR 11 (zz_ev tX12_isSetOf) L st M) ∧
  (∀ L st M, zz_ev tX12_isSetOf 11 L st M = zo_pushI 1 12 (zz_ev tX12_isSetOf) L st M) ∧
  (∀ L st M, zz_ev tX12_isSetOf 12 L st M = zo_icmp (fun x y => decide (¬ x = y)) 48 15 (zz_ev tX12_isSetOf) L st M) ∧
  (∀ L st M, zz_ev tX12_isSetOf 15 L st M = zo_aload 0 16 (zz_ev tX12_isSetOf) L st M) ∧
  (∀ L st M, zz_ev tX12_isSetOf 16 L st M = zo_aload 0 17 (zz_ev tX12_isSetOf) L st M) ∧
  (∀ (L : zzLc) (r : List Value) (M : zzMd), zz_ev tX12_isSetOf 17 L (.ref 0 :: r) M = zz_ev tX12_isSetOf 20 L (.ref 7 :: r) M) ∧
  (∀ L st M, zz_ev tX12_isSetOf 20 L st M = zo_iload 1 21 (zz_ev tX12_isSetOf) L st M) ∧
  (∀ L st M, zz_ev tX12_isSetOf 21 L st M = zo_lald zzSR 22 (zz_ev tX12_isSetOf) L st M) ∧
  (∀ L st M, zz_ev tX12_isSetOf 22 L st M = zo_pushI 13 24 (zz_ev tX12_isSetOf) L st M) ∧
  (∀ (L : zzLc) (a1 : Int32) (a0 : Int64) (r : List Value) (M : zzMd), zz_ev tX12_isSetOf 24 L (.int a1 :: .long a0 :: .ref 0 :: r) M = bif zz_cat8 r then zz_backN (zz_ev tX12_isSetOf) 27 L r (fX12_get [.ref 0, .long a0, .int a1] M) else none) ∧
  (∀ L st M, zz_ev tX12_isSetOf 27 L st M = zo_if (fun x => decide (¬ x = 0)) 48 30 (zz_ev tX12_isSetOf) L st M) ∧
  (∀ L st M, zz_ev tX12_isSetOf 30 L st M = zo_aload 0 31 (zz_ev tX12_isSetOf) L st M) ∧
  (∀ L st M, zz_ev tX12_isSetOf 31 L st M = zo_aload 0 32 (zz_ev tX12_isSetOf) L st M) ∧
  (∀ (L : zzLc) (r : List Value) (M : zzMd), zz_ev tX12_isSetOf 32 L (.ref 0 :: r) M = zz_ev tX12_isSetOf 35 L (.ref 7 :: r) M) ∧
  (∀ L st M, zz_ev tX12_isSetOf 35 L st M = zo_iload 1 36 (zz_ev tX12_isSetOf) L st M) ∧
  (∀ L st M, zz_ev tX12_isSetOf 36 L st M = zo_lald zzSR 37 (zz_ev tX12_isSetOf) L st M) ∧
  (∀ (L : zzLc) (a0 : Int64) (r : List Value) (M : zzMd), zz_ev tX12_isSetOf 37 L (.long a0 :: .ref 0 :: r) M = bif zz_cat8 r then zz_backN (zz_ev tX12_isSetOf) 40 L r (fX12_ownerIn [.ref 0, .long a0] M) else none) ∧
  (∀ L st M, zz_ev tX12_isSetOf 40 L st M = zo_iload 2 41 (zz_ev tX12_isSetOf) L st M) ∧
  (∀ L st M, zz_ev tX12_isSetOf 41 L st M = zo_icmp (fun x y => decide (¬ x = y)) 48 44 (zz_ev tX12_isSetOf) L st M) ∧
  (∀ L st M, zz_ev tX12_isSetOf 44 L st M = zo_pushI 1 45 (zz_ev tX12_isSetOf) L st M) ∧
  (∀ L st M, zz_ev tX12_isSetOf 45 L st M = zo_goto 49 (zz_ev tX12_isSetOf) L st M) ∧
  (∀ L st M, zz_ev tX12_isSetOf 48 L st M = zo_pushI 0 49 (zz_ev tX12_isSetOf) L st M) ∧
  (∀ L st M, zz_ev tX12_isSetOf 49 L st M = zo_iret true (zz_ev tX12_isSetOf) L st M) :=
  ⟨zz_1 rfl tl_X12_isSetOf, zz_1 rfl tl_X12_isSetOf, zz_1 rfl tl_X12_isSetOf, zz_1 rfl tl_X12_isSetOf, fun L r M => (zz_1 rfl tl_X12_isSetOf _ _ _).trans rfl, zz_1 rfl tl_X12_isSetOf, zz_1 rfl tl_X12_isSetOf, zz_1 rfl tl_X12_isSetOf, zz_1 rfl tl_X12_isSetOf, zz_1 rfl tl_X12_isSetOf, zz_1 rfl tl_X12_isSetOf, fun L r M => (zz_1 rfl tl_X12_isSetOf _ _ _).trans rfl, zz_1 rfl tl_X12_isSetOf, zz_1 rfl tl_X12_isSetOf, zz_1 rfl tl_X12_isSetOf, fun L a1 a0 r M => (zz_1 rfl tl_X12_isSetOf _ _ _).trans rfl, zz_1 rfl tl_X12_isSetOf, zz_1 rfl tl_X12_isSetOf, zz_1 rfl tl_X12_isSetOf, fun L r M => (zz_1 rfl tl_X12_isSetOf _ _ _).trans rfl, zz_1 rfl tl_X12_isSetOf, zz_1 rfl tl_X12_isSetOf, fun L a0 r M => (zz_1 rfl tl_X12_isSetOf _ _ _).trans rfl, zz_1 rfl tl_X12_isSetOf, zz_1 rfl tl_X12_isSetOf, zz_1 rfl tl_X12_isSetOf, zz_1 rfl tl_X12_isSetOf, zz_1 rfl tl_X12_isSetOf, zz_1 rfl tl_X12_isSetOf⟩
set_option maxRecDepth 100000 in
theorem s_X12_isSetOf (a0 a1 : Int32) (v : Nat) (M : zzMd) : fX12_isSetOf [.ref v, .int a0, .int a1] M = zz_ev tX12_isSetOf 0 [some (.ref v), some (.int a0), some (.int a1)] [] M := rfl
set_option maxRecDepth 100000 in
theorem e_X12_latestOf : (∀ L st M, zz_ev tX12_latestOf 0 L st M = zo_pushI (-1) 1 (zz_ev tX12_latestOf) L st M) ∧
  (∀ L st M, zz_ev tX12_latestOf 1 L st M = zo_istore 2 2 (zz_ev tX12_latestOf) L st M) ∧
  (∀ L st M, zz_ev tX12_latestOf 2 L st M = zo_aload 0 3 (zz_ev tX12_latestOf) L st M) ∧
  (∀ (L : zzLc) (r : List Value) (M : zzMd), zz_ev tX12_latestOf 3 L (.ref 0 :: r) M = zz_ev tX12_latestOf 6 L (.int (M.1 0 5) :: r) M) ∧
  (∀ L st M, zz_ev tX12_latestOf 6 L st M = zo_pushI 1 7 (zz_ev tX12_latestOf) L st M) ∧
  (∀ L st M, zz_ev tX12_latestOf 7 L st M = zo_ii (fun x y => x - y) 8 (zz_ev tX12_latestOf) L st M) ∧
  (∀ L st M, zz_ev tX12_latestOf 8 L st M = zo_istore 3 9 (zz_ev tX12_latestOf) L st M) ∧
  (∀ L st M, zz_ev tX12_latestOf 10 L st M = zo_if (fun x => decide (x < 0)) 71 13 (zz_ev tX12_latestOf) L st M) ∧
  (∀ L st M, zz_ev tX12_latestOf 13 L st M = zo_aload 0 14 (zz_ev tX12_latestOf) L st M) ∧
  (∀ L st M, zz_ev tX12_latestOf 14 L st M = zo_iload 3 15 (zz_ev tX12_latestOf) L st M) ∧
  (∀ L st M, zz_ev tX12_latestOf 15 L st M = zo_iload 1 16 (zz_ev tX12_latestOf) L st M) ∧
  (∀ (L : zzLc) (a0 a1 : Int32) (r : List Value) (M : zzMd), zz_ev tX12_latestOf 16 L (.int a1 :: .int a0 :: .ref 0 :: r) M = bif zz_cat8 r then zz_backN (zz_ev tX12_latestOf) 19 L r (fX12_isSetOf [.ref 0, .int a0, .int a1] M) else none) ∧
  (∀ L st M, zz_ev tX12_latestOf 19 L st M = zo_if (fun x => decide (x = 0)) 51 22 (zz_ev tX12_latestOf) L st M) ∧
  (∀ L st M, zz_ev tX12_latestOf 22 L st M = zo_aload 0 23 (zz_ev tX12_latestOf) L st M) ∧
  (∀ L st M, zz_ev tX12_latestOf 23 L st M = zo_aload 0 24 (zz_ev tX12_latestOf) L st M) ∧
  (∀ (L : zzLc) (r : List Value) (M : zzMd), zz_ev tX12_latestOf 24 L (.ref 0 :: r) M = zz_ev tX12_latestOf 27 L (.ref 7 :: r) M) ∧
  (∀ L st M, zz_ev tX12_latestOf 27 L st M = zo_iload 3 28 (zz_ev tX12_latestOf) L st M) ∧
  (∀ L st M, zz_ev tX12_latestOf 28 L st M = zo_lald zzSR 29 (zz_ev tX12_latestOf) L st M) ∧
  (∀ L st M, zz_ev tX12_latestOf 29 L st M = zo_pushI 1 30 (zz_ev tX12_latestOf) L st M) ∧
  (∀ (L : zzLc) (a1 : Int32) (a0 : Int64) (r : List Value) (M : zzMd), zz_ev tX12_latestOf 30 L (.int a1 :: .long a0 :: .ref 0 :: r) M = bif zz_cat8 r then zz_backN (zz_ev tX12_latestOf) 33 L r (fX12_get [.ref 0, .long a0, .int a1] M) else none) ∧
  (∀ L st M, zz_ev tX12_latestOf 33 L st M = zo_aload 0 34 (zz_ev tX12_latestOf) L st M) ∧
  (∀ L st M, zz_ev tX12_latestOf 34 L st M = zo_aload 0 35 (zz_ev tX12_latestOf) L st M) ∧
  (∀ (L : zzLc) (r : List Value) (M : zzMd), zz_ev tX12_latestOf 35 L (.ref 0 :: r) M = zz_ev tX12_latestOf 38 L (.ref 7 :: r) M) ∧
  (∀ L st M, zz_ev tX12_latestOf 38 L st M = zo_iload 1 39 (zz_ev tX12_latestOf) L st M) ∧
  (∀ L st M, zz_ev tX12_latestOf 39 L st M = zo_lald zzSR 40 (zz_ev tX12_latestOf) L st M) ∧
  (∀ L st M, zz_ev tX12_latestOf 40 L st M = zo_pushI 1 41 (zz_ev tX12_latestOf) L st M) ∧
  (∀ (L : zzLc) (a1 : Int32) (a0 : Int64) (r : List Value) (M : zzMd), zz_ev tX12_latestOf 41 L (.int a1 :: .long a0 :: .ref 0 :: r) M = bif zz_cat8 r then zz_backN (zz_ev tX12_latestOf) 44 L r (fX12_get [.ref 0, .long a0, .int a1] M) else none) ∧
  (∀ L st M, zz_ev tX12_latestOf 44 L st M = zo_icmp (fun x y => decide (¬ x = y)) 51 47 (zz_ev tX12_latestOf) L st M) ∧
  (∀ L st M, zz_ev tX12_latestOf 47 L st M = zo_pushI 1 48 (zz_ev tX12_latestOf) L st M) ∧
  (∀ L st M, zz_ev tX12_latestOf 48 L st M = zo_goto 52 (zz_ev tX12_latestOf) L st M) ∧
  (∀ L st M, zz_ev tX12_latestOf 51 L st M = zo_pushI 0 52 (zz_ev tX12_latestOf) L st M) ∧
  (∀ L st M, zz_ev tX12_latestOf 52 L st M = zo_istore 4 54 (zz_ev tX12_latestOf) L st M) ∧
  (∀ L st M, zz_ev tX12_latestOf 54 L st M = zo_iload 4 56 (zz_ev tX12_latestOf) L st M) ∧
  (∀ L st M, zz_ev tX12_latestOf 56 L st M = zo_if (fun x => decide (x = 0)) 63 59 (zz_ev tX12_latestOf) L st M) ∧
  (∀ L st M, zz_ev tX12_latestOf 59 L st M = zo_iload 3 60 (zz_ev tX12_latestOf) L st M) ∧
  (∀ L st M, zz_ev tX12_latestOf 60 L st M = zo_goto 64 (zz_ev tX12_latestOf) L st M) ∧
  (∀ L st M, zz_ev tX12_latestOf 63 L st M = zo_iload 2 64 (zz_ev tX12_latestOf) L st M) ∧
  (∀ L st M, zz_ev tX12_latestOf 64 L st M = zo_istore 2 65 (zz_ev tX12_latestOf) L st M) ∧
  (∀ L st M, zz_ev tX12_latestOf 65 L st M = zo_iinc 3 (-1) 68 (zz_ev tX12_latestOf) L st M) ∧
  (∀ L st M, zz_ev tX12_latestOf 68 L st M = zo_goto 9 (zz_ev tX12_latestOf) L st M) ∧
  (∀ L st M, zz_ev tX12_latestOf 71 L st M = zo_iload 2 72 (zz_ev tX12_latestOf) L st M) ∧
  (∀ L st M, zz_ev tX12_latestOf 72 L st M = zo_iret false (zz_ev tX12_latestOf) L st M) :=
  ⟨zz_1 rfl tl_X12_latestOf, zz_1 rfl tl_X12_latestOf, zz_1 rfl tl_X12_latestOf, fun L r M => (zz_1 rfl tl_X12_latestOf _ _ _).trans rfl, zz_1 rfl tl_X12_latestOf, zz_1 rfl tl_X12_latestOf, zz_1 rfl tl_X12_latestOf, zz_1 rfl tl_X12_latestOf, zz_1 rfl tl_X12_latestOf, zz_1 rfl tl_X12_latestOf, zz_1 rfl tl_X12_latestOf, fun L a0 a1 r M => (zz_1 rfl tl_X12_latestOf _ _ _).trans rfl, zz_1 rfl tl_X12_latestOf, zz_1 rfl tl_X12_latestOf, zz_1 rfl tl_X12_latestOf, fun L r M => (zz_1 rfl tl_X12_latestOf _ _ _).trans rfl, zz_1 rfl tl_X12_latestOf, zz_1 rfl tl_X12_latestOf, zz_1 rfl tl_X12_latestOf, fun L a1 a0 r M => (zz_1 rfl tl_X12_latestOf _ _ _).trans rfl, zz_1 rfl tl_X12_latestOf, zz_1 rfl tl_X12_latestOf, fun L r M => (zz_1 rfl tl_X12_latestOf _ _ _).trans rfl, zz_1 rfl tl_X12_latestOf, zz_1 rfl tl_X12_latestOf, zz_1 rfl tl_X12_latestOf, fun L a1 a0 r M => (zz_1 rfl tl_X12_latestOf _ _ _).trans rfl, zz_1 rfl tl_X12_latestOf, zz_1 rfl tl_X12_latestOf, zz_1 rfl tl_X12_latestOf, zz_1 rfl tl_X12_latestOf, zz_1 rfl tl_X12_latestOf, zz_1 rfl tl_X12_latestOf, zz_1 rfl tl_X12_latestOf, zz_1 rfl tl_X12_latestOf, zz_1 rfl tl_X12_latestOf, zz_1 rfl tl_X12_latestOf, zz_1 rfl tl_X12_latestOf, zz_1 rfl tl_X12_latestOf, zz_1 rfl tl_X12_latestOf, zz_1 rfl tl_X12_latestOf, zz_1 rfl tl_X12_latestOf⟩
set_option maxRecDepth 100000 in
theorem e_X12_latestOf_9 : (∀ L st M, zz_ev tX12_latestOf 9 L st M = zo_iload 3 10 (zz_ev tX12_latestOf) L st M) := zz_1 rfl tl_X12_latestOf
set_option maxRecDepth 100000 in
theorem s_X12_latestOf (a0 : Int32) (v : Nat) (M : zzMd) : fX12_latestOf [.ref v, .int a0] M = zz_ev tX12_latestOf 0 [some (.ref v), some (.int a0), none, none, none] [] M := rfl
set_option maxRecDepth 100000 in
theorem e_X12_running : (∀ L st M, zz_ev tX12_running 0 L st M = zo_aload 0 1 (zz_ev tX12_running) L st M) ∧
  (∀ L st M, zz_ev tX12_running 1 L st M = zo_iload 1 2 (zz_ev tX12_running) L st M) ∧
  (∀ L st M, zz_ev tX12_running 2 L st M = zo_pushI 0 3 (zz_ev tX12_running) L st M) ∧
  (∀ (L : zzLc) (a0 a1 : Int32) (r : List Value) (M : zzMd), zz_ev tX12_running 3 L (.int a1 :: .int a0 :: .ref 0 :: r) M = bif zz_cat8 r then zz_backN (zz_ev tX12_running) 6 L r (fX12_asksOf [.ref 0, .int a0, .int a1] M) else none) ∧
  (∀ L st M, zz_ev tX12_running 6 L st M = zo_if (fun x => decide (¬ x = 0)) 11 9 (zz_ev tX12_running) L st M) ∧
  (∀ L st M, zz_ev tX12_running 9 L st M = zo_pushI 0 10 (zz_ev tX12_running) L st M) ∧
  (∀ L st M, zz_ev tX12_running 10 L st M = zo_iret false (zz_ev tX12_running) L st M) ∧
  (∀ L st M, zz_ev tX12_running 11 L st M = zo_aload 0 12 (zz_ev tX12_running) L st M) ∧
  (∀ L st M, zz_ev tX12_running 12 L st M = zo_iload 1 13 (zz_ev tX12_running) L st M) ∧
  (∀ (L : zzLc) (a0 : Int32) (r : List Value) (M : zzMd), zz_ev tX12_running 13 L (.int a0 :: .ref 0 :: r) M = bif zz_cat8 r then zz_backN (zz_ev tX12_running) 16 L r (fX12_latestOf [.ref 0, .int a0] M) else none) ∧
  (∀ L st M, zz_ev tX12_running 16 L st M = zo_istore 3 17 (zz_ev tX12_running) L st M) ∧
  (∀ L st M, zz_ev tX12_running 17 L st M = zo_pushI 0 18 (zz_ev tX12_running) L st M) ∧
  (∀ L st M, zz_ev tX12_running 18 L st M = zo_istore 4 20 (zz_ev tX12_running) L st M) ∧
  (∀ L st M, zz_ev tX12_running 20 L st M = zo_pushI 0 21 (zz_ev tX12_running) L st M) ∧
  (∀ L st M, zz_ev tX12_running 21 L st M = zo_istore 5 23 (zz_ev tX12_running) L st M) ∧
  (∀ L st M, zz_ev tX12_running 25 L st M = zo_aload 0 26 (zz_ev tX12_running) L st M) ∧
  (∀ (L : zzLc) (r : List Value) (M : zzMd), zz_ev tX12_running 26 L (.ref 0 :: r) M = zz_ev tX12_running 29 L (.int (M.1 0 5) :: r) M) ∧
  (∀ L st M, zz_ev tX12_running 29 L st M = zo_icmp (fun x y => decide (y ≤ x)) 137 32 (zz_ev tX12_running) L st M) ∧
  (∀ L st M, zz_ev tX12_running 32 L st M = zo_aload 0 33 (zz_ev tX12_running) L st M) ∧
  (∀ L st M, zz_ev tX12_running 33 L st M = zo_aload 0 34 (zz_ev tX12_running) L st M) ∧
  (∀ (L : zzLc) (r : List Value) (M : zzMd), zz_ev tX12_running 34 L (.ref 0 :: r) M = zz_ev tX12_running 37 L (.ref 7 :: r) M) ∧
  (∀ L st M, zz_ev tX12_running 37 L st M = zo_iload 5 39 (zz_ev tX12_running) L st M) ∧
  (∀ L st M, zz_ev tX12_running 39 L st M = zo_lald zzSR 40 (zz_ev tX12_running) L st M) ∧
  (∀ (L : zzLc) (a0 : Int64) (r : List Value) (M : zzMd), zz_ev tX12_running 40 L (.long a0 :: .ref 0 :: r) M = bif zz_cat8 r then zz_backN (zz_ev tX12_running) 43 L r (fX12_ownerIn [.ref 0, .long a0] M) else none) ∧
  (∀ L st M, zz_ev tX12_running 43 L st M = zo_istore 6 45 (zz_ev tX12_running) L st M) ∧
  (∀ L st M, zz_ev tX12_running 45 L st M = zo_aload 0 46 (zz_ev tX12_running) L st M) ∧
  (∀ (L : zzLc) (r : List Value) (M : zzMd), zz_ev tX12_running 46 L (.ref 0 :: r) M = zz_ev tX12_running 49 L (.ref 6 :: r) M) ∧
  (∀ L st M, zz_ev tX12_running 49 L st M = zo_iload 5 51 (zz_ev tX12_running) L st M) ∧
  (∀ L st M, zz_ev tX12_running 51 L st M = zo_iald zzSR zzSTR 52 (zz_ev tX12_running) L st M) ∧
  (∀ L st M, zz_ev tX12_running 52 L st M = zo_pushI 2 53 (zz_ev tX12_running) L st M) ∧
  (∀ L st M, zz_ev tX12_running 53 L st M = zo_icmp (fun x y => decide (¬ x = y)) 93 56 (zz_ev tX12_running) L st M) ∧
  (∀ L st M, zz_ev tX12_running 56 L st M = zo_aload 0 57 (zz_ev tX12_running) L st M) ∧
  (∀ L st M, zz_ev tX12_running 57 L st M = zo_aload 0 58 (zz_ev tX12_running) L st M) ∧
  (∀ (L : zzLc) (r : List Value) (M : zzMd), zz_ev tX12_running 58 L (.ref 0 :: r) M = zz_ev tX12_running 61 L (.ref 7 :: r) M) ∧
  (∀ L st M, zz_ev tX12_running 61 L st M = zo_iload 5 63 (zz_ev tX12_running) L st M) ∧
  (∀ L st M, zz_ev tX12_running 63 L st M = zo_lald zzSR 64 (zz_ev tX12_running) L st M) ∧
  (∀ L st M, zz_ev tX12_running 64 L st M = zo_pushI 13 66 (zz_ev tX12_running) L st M) ∧
  (∀ (L : zzLc) (a1 : Int32) (a0 : Int64) (r : List Value) (M : zzMd), zz_ev tX12_running 66 L (.int a1 :: .long a0 :: .ref 0 :: r) M = bif zz_cat8 r then zz_backN (zz_ev tX12_running) 69 L r (fX12_get [.ref 0, .long a0, .int a1] M) else none) ∧
  (∀ L st M, zz_ev tX12_running 69 L st M = zo_if (fun x => decide (¬ x = 0)) 93 72 (zz_ev tX12_running) L st M) ∧
  (∀ L st M, zz_ev tX12_running 72 L st M = zo_aload 0 73 (zz_ev tX12_running) L st M) ∧
  (∀ L st M, zz_ev tX12_running 73 L st M = zo_aload 0 74 (zz_ev tX12_running) L st M) ∧
  (∀ (L : zzLc) (r : List Value) (M : zzMd), zz_ev tX12_running 74 L (.ref 0 :: r) M = zz_ev tX12_running 77 L (.ref 7 :: r) M) ∧
  (∀ L st M, zz_ev tX12_running 77 L st M = zo_iload 5 79 (zz_ev tX12_running) L st M) ∧
  (∀ L st M, zz_ev tX12_running 79 L st M = zo_lald zzSR 80 (zz_ev tX12_running) L st M) ∧
  (∀ L st M, zz_ev tX12_running 80 L st M = zo_pushI 16 82 (zz_ev tX12_running) L st M) ∧
  (∀ (L : zzLc) (a1 : Int32) (a0 : Int64) (r : List Value) (M : zzMd), zz_ev tX12_running 82 L (.int a1 :: .long a0 :: .ref 0 :: r) M = bif zz_cat8 r then zz_backN (zz_ev tX12_running) 85 L r (fX12_get [.ref 0, .long a0, .int a1] M) else none) ∧
  (∀ L st M, zz_ev tX12_running 85 L st M = zo_pushI 1 86 (zz_ev tX12_running) L st M) ∧
  (∀ L st M, zz_ev tX12_running 86 L st M = zo_icmp (fun x y => decide (¬ x = y)) 93 89 (zz_ev tX12_running) L st M) ∧
  (∀ L st M, zz_ev tX12_running 89 L st M = zo_pushI 1 90 (zz_ev tX12_running) L st M) ∧
  (∀ L st M, zz_ev tX12_running 90 L st M = zo_goto 94 (zz_ev tX12_running) L st M) ∧
  (∀ L st M, zz_ev tX12_running 93 L st M = zo_pushI 0 94 (zz_ev tX12_running) L st M) ∧
  (∀ L st M, zz_ev tX12_running 94 L st M = zo_istore 7 96 (zz_ev tX12_running) L st M) ∧
  (∀ L st M, zz_ev tX12_running 96 L st M = zo_iload 4 98 (zz_ev tX12_running) L st M) ∧
  (∀ L st M, zz_ev tX12_running 98 L st M = zo_iload 7 100 (zz_ev tX12_running) L st M) ∧
  (∀ L st M, zz_ev tX12_running 100 L st M = zo_if (fun x => decide (x = 0)) 127 103 (zz_ev tX12_running) L st M) ∧
  (∀ L st M, zz_ev tX12_running 103 L st M = zo_aload 0 104 (zz_ev tX12_running) L st M) ∧
  (∀ L st M, zz_ev tX12_running 104 L st M = zo_iload 6 106 (zz_ev tX12_running) L st M) ∧
  (∀ L st M, zz_ev tX12_running 106 L st M = zo_iload 1 107 (zz_ev tX12_running) L st M) ∧
  (∀ (L : zzLc) (a0 a1 : Int32) (r : List Value) (M : zzMd), zz_ev tX12_running 107 L (.int a1 :: .int a0 :: .ref 0 :: r) M = bif zz_cat8 r then zz_backN (zz_ev tX12_running) 110 L r (fX12_isSetOf [.ref 0, .int a0, .int a1] M) else none) ∧
  (∀ L st M, zz_ev tX12_running 110 L st M = zo_if (fun x => decide (x = 0)) 127 113 (zz_ev tX12_running) L st M) ∧
  (∀ L st M, zz_ev tX12_running 113 L st M = zo_iload 2 114 (zz_ev tX12_running) L st M) ∧
  (∀ L st M, zz_ev tX12_running 114 L st M = zo_if (fun x => decide (x = 0)) 123 117 (zz_ev tX12_running) L st M) ∧
  (∀ L st M, zz_ev tX12_running 117 L st M = zo_iload 6 119 (zz_ev tX12_running) L st M) ∧
  (∀ L st M, zz_ev tX12_running 119 L st M = zo_iload 3 120 (zz_ev tX12_running) L st M) ∧
  (∀ L st M, zz_ev tX12_running 120 L st M = zo_icmp (fun x y => decide (¬ x = y)) 127 123 (zz_ev tX12_running) L st M) ∧
  (∀ L st M, zz_ev tX12_running 123 L st M = zo_pushI 1 124 (zz_ev tX12_running) L st M) ∧
  (∀ L st M, zz_ev tX12_running 124 L st M = zo_goto 128 (zz_ev tX12_running) L st M) ∧
  (∀ L st M, zz_ev tX12_running 127 L st M = zo_pushI 0 128 (zz_ev tX12_running) L st M) ∧
  (∀ L st M, zz_ev tX12_running 128 L st M = zo_ii (fun x y => x + y) 129 (zz_ev tX12_running) L st M) ∧
  (∀ L st M, zz_ev tX12_running 129 L st M = zo_istore 4 131 (zz_ev tX12_running) L st M) ∧
  (∀ L st M, zz_ev tX12_running 131 L st M = zo_iinc 5 1 134 (zz_ev tX12_running) L st M) ∧
  (∀ L st M, zz_ev tX12_running 134 L st M = zo_goto 23 (zz_ev tX12_running) L st M) ∧
  (∀ L st M, zz_ev tX12_running 137 L st M = zo_iload 4 139 (zz_ev tX12_running) L st M) ∧
  (∀ L st M, zz_ev tX12_running 139 L st M = zo_iret false (zz_ev tX12_running) L st M) :=
  ⟨zz_1 rfl tl_X12_running, zz_1 rfl tl_X12_running, zz_1 rfl tl_X12_running, fun L a0 a1 r M => (zz_1 rfl tl_X12_running _ _ _).trans rfl, zz_1 rfl tl_X12_running, zz_1 rfl tl_X12_running, zz_1 rfl tl_X12_running, zz_1 rfl tl_X12_running, zz_1 rfl tl_X12_running, fun L a0 r M => (zz_1 rfl tl_X12_running _ _ _).trans rfl, zz_1 rfl tl_X12_running, zz_1 rfl tl_X12_running, zz_1 rfl tl_X12_running, zz_1 rfl tl_X12_running, zz_1 rfl tl_X12_running, zz_1 rfl tl_X12_running, fun L r M => (zz_1 rfl tl_X12_running _ _ _).trans rfl, zz_1 rfl tl_X12_running, zz_1 rfl tl_X12_running, zz_1 rfl tl_X12_running, fun L r M => (zz_1 rfl tl_X12_running _ _ _).trans rfl, zz_1 rfl tl_X12_running, zz_1 rfl tl_X12_running, fun L a0 r M => (zz_1 rfl tl_X12_running _ _ _).trans rfl, zz_1 rfl tl_X12_running, zz_1 rfl tl_X12_running, fun L r M => (zz_1 rfl tl_X12_running _ _ _).trans rfl, zz_1 rfl tl_X12_running, zz_1 rfl tl_X12_running, zz_1 rfl tl_X12_running, zz_1 rfl tl_X12_running, zz_1 rfl tl_X12_running, zz_1 rfl tl_X12_running, fun L r M => (zz_1 rfl tl_X12_running _ _ _).trans rfl, zz_1 rfl tl_X12_running, zz_1 rfl tl_X12_running, zz_1 rfl tl_X12_running, fun L a1 a0 r M => (zz_1 rfl tl_X12_running _ _ _).trans rfl, zz_1 rfl tl_X12_running, zz_1 rfl tl_X12_running, zz_1 rfl tl_X12_running, fun L r M => (zz_1 rfl tl_X12_running _ _ _).trans rfl, zz_1 rfl tl_X12_running, zz_1 rfl tl_X12_running, zz_1 rfl tl_X12_running, fun L a1 a0 r M => (zz_1 rfl tl_X12_running _ _ _).trans rfl, zz_1 rfl tl_X12_running, zz_1 rfl tl_X12_running, zz_1 rfl tl_X12_running, zz_1 rfl tl_X12_running, zz_1 rfl tl_X12_running, zz_1 rfl tl_X12_running, zz_1 rfl tl_X12_running, zz_1 rfl tl_X12_running, zz_1 rfl tl_X12_running, zz_1 rfl tl_X12_running, zz_1 rfl tl_X12_running, zz_1 rfl tl_X12_running, fun L a0 a1 r M => (zz_1 rfl tl_X12_running _ _ _).trans rfl, zz_1 rfl tl_X12_running, zz_1 rfl tl_X12_running, zz_1 rfl tl_X12_running, zz_1 rfl tl_X12_running, zz_1 rfl tl_X12_running, zz_1 rfl tl_X12_running, zz_1 rfl tl_X12_running, zz_1 rfl tl_X12_running, zz_1 rfl tl_X12_running, zz_1 rfl tl_X12_running, zz_1 rfl tl_X12_running, zz_1 rfl tl_X12_running, zz_1 rfl tl_X12_running, zz_1 rfl tl_X12_running, zz_1 rfl tl_X12_running⟩
set_option maxRecDepth 100000 in
theorem e_X12_running_23 : (∀ L st M, zz_ev tX12_running 23 L st M = zo_iload 5 25 (zz_ev tX12_running) L st M) := zz_1 rfl tl_X12_running
set_option maxRecDepth 100000 in
theorem s_X12_running (a0 a1 : Int32) (v : Nat) (M : zzMd) : fX12_running [.ref v, .int a0, .int a1] M = zz_ev tX12_running 0 [some (.ref v), some (.int a0), some (.int a1), none, none, none, none, none] [] M := rfl
set_option maxRecDepth 100000 in
theorem e_X12_objectOf : (∀ L st M, zz_ev tX12_objectOf 0 L st M = zo_aload 0 1 (zz_ev tX12_objectOf) L st M) ∧
  (∀ L st M, zz_ev tX12_objectOf 1 L st M = zo_iload 1 2 (zz_ev tX12_objectOf) L st M) ∧
  (∀ L st M, zz_ev tX12_objectOf 2 L st M = zo_pushI 1 3 (zz_ev tX12_objectOf) L st M) ∧
  (∀ L st M, zz_ev tX12_objectOf 3 L st M = zo_aload 0 4 (zz_ev tX12_objectOf) L st M) ∧
  (∀ (L : zzLc) (r : List Value) (M : zzMd), zz_ev tX12_objectOf 4 L (.ref 0 :: r) M = zz_ev tX12_objectOf 7 L (.int (M.1 0 14) :: r) M) ∧
  (∀ (L : zzLc) (a0 a1 a2 : Int32) (r : List Value) (M : zzMd), zz_ev tX12_objectOf 7 L (.int a2 :: .int a1 :: .int a0 :: r) M = bif zz_cat8 r then zz_backN (zz_ev tX12_objectOf) 10 L r (fX12_isIn [.int a0, .int a1, .int a2] M) else none) ∧
  (∀ L st M, zz_ev tX12_objectOf 10 L st M = zo_if (fun x => decide (x = 0)) 17 13 (zz_ev tX12_objectOf) L st M) ∧
  (∀ L st M, zz_ev tX12_objectOf 13 L st M = zo_pushI 0 14 (zz_ev tX12_objectOf) L st M) ∧
  (∀ L st M, zz_ev tX12_objectOf 14 L st M = zo_goto 18 (zz_ev tX12_objectOf) L st M) ∧
  (∀ L st M, zz_ev tX12_objectOf 17 L st M = zo_pushI 1 18 (zz_ev tX12_objectOf) L st M) ∧
  (∀ (L : zzLc) (a0 : Int32) (r : List Value) (M : zzMd), zz_ev tX12_objectOf 18 L (.int a0 :: .ref 0 :: r) M = bif zz_cat8 r then zz_backN (zz_ev tX12_objectOf) 21 L r (fX12_goes [.ref 0, .int a0] M) else none) ∧
  (∀ L st M, zz_ev tX12_objectOf 21 L st M = zo_if (fun x => decide (x = 0)) 33 24 (zz_ev tX12_objectOf) L st M) ∧
  (∀ L st M, zz_ev tX12_objectOf 24 L st M = zo_aload 0 25 (zz_ev tX12_objectOf) L st M) ∧
  (∀ (L : zzLc) (r : List Value) (M : zzMd), zz_ev tX12_objectOf 25 L (.ref 0 :: r) M = zz_ev tX12_objectOf 28 L (.ref 14 :: r) M) ∧
  (∀ L st M, zz_ev tX12_objectOf 28 L st M = zo_iload 1 29 (zz_ev tX12_objectOf) L st M) ∧
  (∀ L st M, zz_ev tX12_objectOf 29 L st M = zo_iald zzSR zzSTR 30 (zz_ev tX12_objectOf) L st M) ∧
  (∀ L st M, zz_ev tX12_objectOf 30 L st M = zo_goto 34 (zz_ev tX12_objectOf) L st M) ∧
  (∀ L st M, zz_ev tX12_objectOf 33 L st M = zo_pushI 0 34 (zz_ev tX12_objectOf) L st M) ∧
  (∀ L st M, zz_ev tX12_objectOf 34 L st M = zo_iret false (zz_ev tX12_objectOf) L st M) :=
  ⟨zz_1 rfl tl_X12_objectOf, zz_1 rfl tl_X12_objectOf, zz_1 rfl tl_X12_objectOf, zz_1 rfl tl_X12_objectOf, fun L r M => (zz_1 rfl tl_X12_objectOf _ _ _).trans rfl, fun L a0 a1 a2 r M => (zz_1 rfl tl_X12_objectOf _ _ _).trans rfl, zz_1 rfl tl_X12_objectOf, zz_1 rfl tl_X12_objectOf, zz_1 rfl tl_X12_objectOf, zz_1 rfl tl_X12_objectOf, fun L a0 r M => (zz_1 rfl tl_X12_objectOf _ _ _).trans rfl, zz_1 rfl tl_X12_objectOf, zz_1 rfl tl_X12_objectOf, fun L r M => (zz_1 rfl tl_X12_objectOf _ _ _).trans rfl, zz_1 rfl tl_X12_objectOf, zz_1 rfl tl_X12_objectOf, zz_1 rfl tl_X12_objectOf, zz_1 rfl tl_X12_objectOf, zz_1 rfl tl_X12_objectOf⟩
set_option maxRecDepth 100000 in
theorem s_X12_objectOf (a0 : Int32) (v : Nat) (M : zzMd) : fX12_objectOf [.ref v, .int a0] M = zz_ev tX12_objectOf 0 [some (.ref v), some (.int a0)] [] M := rfl
end

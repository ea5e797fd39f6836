section
theorem zz_1 {T : List zzOp} {pc : Nat} {o : zzOp} (h : T.getD pc zo_none = o) (hT : ∀ pc, zz_Tl (T.getD pc zo_none)) (L : zzLc) (st : List Value) (M : zzMd) : zz_ev T pc L st M = o (zz_ev T) L st M := by
  rw [← h]
  exact zz_ev_eq hT pc L st M
set_option maxRecDepth 100000 in
theorem e_X11_isKind : (∀ L st M, zz_ev tX11_isKind 0 L st M = zo_iload 0 1 (zz_ev tX11_isKind) L st M) ∧
  (∀ L st M, zz_ev tX11_isKind 1 L st M = zo_if (fun x => decide (x < 0)) 14 4 (zz_ev tX11_isKind) L st M) ∧
  (∀ L st M, zz_ev tX11_isKind 4 L st M = zo_iload 0 5 (zz_ev tX11_isKind) L st M) ∧
  (∀ L st M, zz_ev tX11_isKind 5 L st M = zo_pushI 6 7 (zz_ev tX11_isKind) L st M) ∧
  (∀ L st M, zz_ev tX11_isKind 7 L st M = zo_icmp (fun x y => decide (y ≤ x)) 14 10 (zz_ev tX11_isKind) L st M) ∧
  (∀ L st M, zz_ev tX11_isKind 10 L st M = zo_pushI 1 11 (zz_ev tX11_isKind) L st M) ∧
  (∀ L st M, zz_ev tX11_isKind 11 L st M = zo_goto 15 (zz_ev tX11_isKind) L st M) ∧
  (∀ L st M, zz_ev tX11_isKind 14 L st M = zo_pushI 0 15 (zz_ev tX11_isKind) L st M) ∧
  (∀ L st M, zz_ev tX11_isKind 15 L st M = zo_iret true (zz_ev tX11_isKind) L st M) :=
  ⟨zz_1 rfl tl_X11_isKind, zz_1 rfl tl_X11_isKind, zz_1 rfl tl_X11_isKind, zz_1 rfl tl_X11_isKind, zz_1 rfl tl_X11_isKind, zz_1 rfl tl_X11_isKind, zz_1 rfl tl_X11_isKind, zz_1 rfl tl_X11_isKind, zz_1 rfl tl_X11_isKind⟩
set_option maxRecDepth 100000 in
theorem s_X11_isKind (a0 : Int32) (M : zzMd) : fX11_isKind [.int a0] M = zz_ev tX11_isKind 0 [some (.int a0)] [] M := rfl
set_option maxRecDepth 100000 in
theorem e_X11_hasField : (∀ L st M, zz_ev tX11_hasField 0 L st M = zo_iload 0 1 (zz_ev tX11_hasField) L st M) ∧
  (∀ (L : zzLc) (a0 : Int32) (r : List Value) (M : zzMd), zz_ev tX11_hasField 1 L (.int a0 :: r) M = bif zz_cat8 r then zz_backN (zz_ev tX11_hasField) 4 L r (fX11_isKind [.int a0] M) else none) ∧
  (∀ L st M, zz_ev tX11_hasField 4 L st M = zo_if (fun x => decide (x = 0)) 34 7 (zz_ev tX11_hasField) L st M) ∧
  (∀ L st M, zz_ev tX11_hasField 7 L st M = zo_iload 1 8 (zz_ev tX11_hasField) L st M) ∧
  (∀ L st M, zz_ev tX11_hasField 8 L st M = zo_if (fun x => decide (x < 0)) 34 11 (zz_ev tX11_hasField) L st M) ∧
  (∀ L st M, zz_ev tX11_hasField 11 L st M = zo_iload 1 12 (zz_ev tX11_hasField) L st M) ∧
  (∀ L st M, zz_ev tX11_hasField 12 L st M = zo_pushI 11 14 (zz_ev tX11_hasField) L st M) ∧
  (∀ L st M, zz_ev tX11_hasField 14 L st M = zo_icmp (fun x y => decide (y ≤ x)) 34 17 (zz_ev tX11_hasField) L st M) ∧
  (∀ L st M, zz_ev tX11_hasField 17 L st M = zo_gets 1003 20 (zz_ev tX11_hasField) L st M) ∧
  (∀ L st M, zz_ev tX11_hasField 20 L st M = zo_iload 0 21 (zz_ev tX11_hasField) L st M) ∧
  (∀ L st M, zz_ev tX11_hasField 21 L st M = zo_iald zzSC zzSTC 22 (zz_ev tX11_hasField) L st M) ∧
  (∀ L st M, zz_ev tX11_hasField 22 L st M = zo_iload 1 23 (zz_ev tX11_hasField) L st M) ∧
  (∀ L st M, zz_ev tX11_hasField 23 L st M = zo_ii (fun x y => x >>> (y &&& 31)) 24 (zz_ev tX11_hasField) L st M) ∧
  (∀ L st M, zz_ev tX11_hasField 24 L st M = zo_pushI 1 25 (zz_ev tX11_hasField) L st M) ∧
  (∀ L st M, zz_ev tX11_hasField 25 L st M = zo_ii (fun x y => x &&& y) 26 (zz_ev tX11_hasField) L st M) ∧
  (∀ L st M, zz_ev tX11_hasField 26 L st M = zo_pushI 1 27 (zz_ev tX11_hasField) L st M) ∧
  (∀ L st M, zz_ev tX11_hasField 27 L st M = zo_icmp (fun x y => decide (¬ x = y)) 34 30 (zz_ev tX11_hasField) L st M) ∧
  (∀ L st M, zz_ev tX11_hasField 30 L st M = zo_pushI 1 31 (zz_ev tX11_hasField) L st M) ∧
  (∀ L st M, zz_ev tX11_hasField 31 L st M = zo_goto 35 (zz_ev tX11_hasField) L st M) ∧
  (∀ L st M, zz_ev tX11_hasField 34 L st M = zo_pushI 0 35 (zz_ev tX11_hasField) L st M) ∧
  (∀ L st M, zz_ev tX11_hasField 35 L st M = zo_iret true (zz_ev tX11_hasField) L st M) :=
  ⟨zz_1 rfl tl_X11_hasField, fun L a0 r M => (zz_1 rfl tl_X11_hasField _ _ _).trans rfl, zz_1 rfl tl_X11_hasField, zz_1 rfl tl_X11_hasField, zz_1 rfl tl_X11_hasField, zz_1 rfl tl_X11_hasField, zz_1 rfl tl_X11_hasField, zz_1 rfl tl_X11_hasField, zz_1 rfl tl_X11_hasField, zz_1 rfl tl_X11_hasField, zz_1 rfl tl_X11_hasField, zz_1 rfl tl_X11_hasField, zz_1 rfl tl_X11_hasField, zz_1 rfl tl_X11_hasField, zz_1 rfl tl_X11_hasField, zz_1 rfl tl_X11_hasField, zz_1 rfl tl_X11_hasField, zz_1 rfl tl_X11_hasField, zz_1 rfl tl_X11_hasField, zz_1 rfl tl_X11_hasField, zz_1 rfl tl_X11_hasField⟩
set_option maxRecDepth 100000 in
theorem s_X11_hasField (a0 a1 : Int32) (M : zzMd) : fX11_hasField [.int a0, .int a1] M = zz_ev tX11_hasField 0 [some (.int a0), some (.int a1)] [] M := rfl
set_option maxRecDepth 100000 in
theorem e_X0_addRule : (∀ L st M, zz_ev tX0_addRule 0 L st M = zo_aload 0 1 (zz_ev tX0_addRule) L st M) ∧
  (∀ (L : zzLc) (r : List Value) (M : zzMd), zz_ev tX0_addRule 1 L (.ref 2 :: r) M = zz_ev tX0_addRule 4 L (.int (M.1 2 3) :: r) M) ∧
  (∀ L st M, zz_ev tX0_addRule 4 L st M = zo_pushI 8 6 (zz_ev tX0_addRule) L st M) ∧
  (∀ L st M, zz_ev tX0_addRule 6 L st M = zo_icmp (fun x y => decide (x < y)) 11 9 (zz_ev tX0_addRule) L st M) ∧
  (∀ L st M, zz_ev tX0_addRule 9 L st M = zo_pushI 0 10 (zz_ev tX0_addRule) L st M) ∧
  (∀ L st M, zz_ev tX0_addRule 10 L st M = zo_iret true (zz_ev tX0_addRule) L st M) ∧
  (∀ L st M, zz_ev tX0_addRule 11 L st M = zo_aload 0 12 (zz_ev tX0_addRule) L st M) ∧
  (∀ (L : zzLc) (r : List Value) (M : zzMd), zz_ev tX0_addRule 12 L (.ref 2 :: r) M = zz_ev tX0_addRule 15 L (.int (M.1 2 3) :: r) M) ∧
  (∀ L st M, zz_ev tX0_addRule 15 L st M = zo_pushI 6 17 (zz_ev tX0_addRule) L st M) ∧
  (∀ L st M, zz_ev tX0_addRule 17 L st M = zo_ii (fun x y => x * y) 18 (zz_ev tX0_addRule) L st M) ∧
  (∀ L st M, zz_ev tX0_addRule 18 L st M = zo_istore 7 20 (zz_ev tX0_addRule) L st M) ∧
  (∀ L st M, zz_ev tX0_addRule 20 L st M = zo_aload 0 21 (zz_ev tX0_addRule) L st M) ∧
  (∀ (L : zzLc) (r : List Value) (M : zzMd), zz_ev tX0_addRule 21 L (.ref 2 :: r) M = zz_ev tX0_addRule 24 L (.ref 18 :: r) M) ∧
  (∀ L st M, zz_ev tX0_addRule 24 L st M = zo_iload 7 26 (zz_ev tX0_addRule) L st M) ∧
  (∀ L st M, zz_ev tX0_addRule 26 L st M = zo_iload 1 27 (zz_ev tX0_addRule) L st M) ∧
  (∀ L st M, zz_ev tX0_addRule 27 L st M = zo_iast zzSC 28 (zz_ev tX0_addRule) L st M) ∧
  (∀ L st M, zz_ev tX0_addRule 28 L st M = zo_aload 0 29 (zz_ev tX0_addRule) L st M) ∧
  (∀ (L : zzLc) (r : List Value) (M : zzMd), zz_ev tX0_addRule 29 L (.ref 2 :: r) M = zz_ev tX0_addRule 32 L (.ref 18 :: r) M) ∧
  (∀ L st M, zz_ev tX0_addRule 32 L st M = zo_iload 7 34 (zz_ev tX0_addRule) L st M) ∧
  (∀ L st M, zz_ev tX0_addRule 34 L st M = zo_pushI 1 35 (zz_ev tX0_addRule) L st M) ∧
  (∀ L st M, zz_ev tX0_addRule 35 L st M = zo_ii (fun x y => x + y) 36 (zz_ev tX0_addRule) L st M) ∧
  (∀ L st M, zz_ev tX0_addRule 36 L st M = zo_iload 2 37 (zz_ev tX0_addRule) L st M) ∧
  (∀ L st M, zz_ev tX0_addRule 37 L st M = zo_iast zzSC 38 (zz_ev tX0_addRule) L st M) ∧
  (∀ L st M, zz_ev tX0_addRule 38 L st M = zo_aload 0 39 (zz_ev tX0_addRule) L st M) ∧
  (∀ (L : zzLc) (r : List Value) (M : zzMd), zz_ev tX0_addRule 39 L (.ref 2 :: r) M = zz_ev tX0_addRule 42 L (.ref 18 :: r) M) ∧
  (∀ L st M, zz_ev tX0_addRule 42 L st M = zo_iload 7 44 (zz_ev tX0_addRule) L st M) ∧
  (∀ L st M, zz_ev tX0_addRule 44 L st M = zo_pushI 2 45 (zz_ev tX0_addRule) L st M) ∧
  (∀ L st M, zz_ev tX0_addRule 45 L st M = zo_ii (fun x y => x + y) 46 (zz_ev tX0_addRule) L st M) ∧
  (∀ L st M, zz_ev tX0_addRule 46 L st M = zo_iload 3 47 (zz_ev tX0_addRule) L st M) ∧
  (∀ L st M, zz_ev tX0_addRule 47 L st M = zo_iast zzSC 48 (zz_ev tX0_addRule) L st M) ∧
  (∀ L st M, zz_ev tX0_addRule 48 L st M = zo_aload 0 49 (zz_ev tX0_addRule) L st M) ∧
  (∀ (L : zzLc) (r : List Value) (M : zzMd), zz_ev tX0_addRule 49 L (.ref 2 :: r) M = zz_ev tX0_addRule 52 L (.ref 18 :: r) M) ∧
  (∀ L st M, zz_ev tX0_addRule 52 L st M = zo_iload 7 54 (zz_ev tX0_addRule) L st M) ∧
  (∀ L st M, zz_ev tX0_addRule 54 L st M = zo_pushI 3 55 (zz_ev tX0_addRule) L st M) ∧
  (∀ L st M, zz_ev tX0_addRule 55 L st M = zo_ii (fun x y => x + y) 56 (zz_ev tX0_addRule) L st M) ∧
  (∀ L st M, zz_ev tX0_addRule 56 L st M = zo_iload 4 58 (zz_ev tX0_addRule) L st M) ∧
  (∀ L st M, zz_ev tX0_addRule 58 L st M = zo_iast zzSC 59 (zz_ev tX0_addRule) L st M) ∧
  (∀ L st M, zz_ev tX0_addRule 59 L st M = zo_aload 0 60 (zz_ev tX0_addRule) L st M) ∧
  (∀ (L : zzLc) (r : List Value) (M : zzMd), zz_ev tX0_addRule 60 L (.ref 2 :: r) M = zz_ev tX0_addRule 63 L (.ref 18 :: r) M) ∧
  (∀ L st M, zz_ev tX0_addRule 63 L st M = zo_iload 7 65 (zz_ev tX0_addRule) L st M) ∧
  (∀ L st M, zz_ev tX0_addRule 65 L st M = zo_pushI 4 66 (zz_ev tX0_addRule) L st M) ∧
  (∀ L st M, zz_ev tX0_addRule 66 L st M = zo_ii (fun x y => x + y) 67 (zz_ev tX0_addRule) L st M) ∧
  (∀ L st M, zz_ev tX0_addRule 67 L st M = zo_iload 5 69 (zz_ev tX0_addRule) L st M) ∧
  (∀ L st M, zz_ev tX0_addRule 69 L st M = zo_iast zzSC 70 (zz_ev tX0_addRule) L st M) ∧
  (∀ L st M, zz_ev tX0_addRule 70 L st M = zo_aload 0 71 (zz_ev tX0_addRule) L st M) ∧
  (∀ (L : zzLc) (r : List Value) (M : zzMd), zz_ev tX0_addRule 71 L (.ref 2 :: r) M = zz_ev tX0_addRule 74 L (.ref 18 :: r) M) ∧
  (∀ L st M, zz_ev tX0_addRule 74 L st M = zo_iload 7 76 (zz_ev tX0_addRule) L st M) ∧
  (∀ L st M, zz_ev tX0_addRule 76 L st M = zo_pushI 5 77 (zz_ev tX0_addRule) L st M) ∧
  (∀ L st M, zz_ev tX0_addRule 77 L st M = zo_ii (fun x y => x + y) 78 (zz_ev tX0_addRule) L st M) ∧
  (∀ L st M, zz_ev tX0_addRule 78 L st M = zo_iload 6 80 (zz_ev tX0_addRule) L st M) ∧
  (∀ L st M, zz_ev tX0_addRule 80 L st M = zo_iast zzSC 81 (zz_ev tX0_addRule) L st M) ∧
  (∀ L st M, zz_ev tX0_addRule 81 L st M = zo_aload 0 82 (zz_ev tX0_addRule) L st M) ∧
  (∀ L st M, zz_ev tX0_addRule 82 L st M = zo_dup 83 (zz_ev tX0_addRule) L st M) ∧
  (∀ (L : zzLc) (r : List Value) (M : zzMd), zz_ev tX0_addRule 83 L (.ref 2 :: r) M = zz_ev tX0_addRule 86 L (.int (M.1 2 3) :: r) M) ∧
  (∀ L st M, zz_ev tX0_addRule 86 L st M = zo_pushI 1 87 (zz_ev tX0_addRule) L st M) ∧
  (∀ L st M, zz_ev tX0_addRule 87 L st M = zo_ii (fun x y => x + y) 88 (zz_ev tX0_addRule) L st M) ∧
  (∀ (L : zzLc) (x : Int32) (r : List Value) (M : zzMd), zz_ev tX0_addRule 88 L (.int x :: .ref 2 :: r) M = zz_ev tX0_addRule 91 L r (zz_sI M 2 3 x)) ∧
  (∀ L st M, zz_ev tX0_addRule 91 L st M = zo_pushI 1 92 (zz_ev tX0_addRule) L st M) ∧
  (∀ L st M, zz_ev tX0_addRule 92 L st M = zo_iret true (zz_ev tX0_addRule) L st M) :=
  ⟨zz_1 rfl tl_X0_addRule, fun L r M => (zz_1 rfl tl_X0_addRule _ _ _).trans rfl, zz_1 rfl tl_X0_addRule, zz_1 rfl tl_X0_addRule, zz_1 rfl tl_X0_addRule, zz_1 rfl tl_X0_addRule, zz_1 rfl tl_X0_addRule, fun L r M => (zz_1 rfl tl_X0_addRule _ _ _).trans rfl, zz_1 rfl tl_X0_addRule, zz_1 rfl tl_X0_addRule, zz_1 rfl tl_X0_addRule, zz_1 rfl tl_X0_addRule, fun L r M => (zz_1 rfl tl_X0_addRule _ _ _).trans rfl, zz_1 rfl tl_X0_addRule, zz_1 rfl tl_X0_addRule, zz_1 rfl tl_X0_addRule, zz_1 rfl tl_X0_addRule, fun L r M => (zz_1 rfl tl_X0_addRule _ _ _).trans rfl, zz_1 rfl tl_X0_addRule, zz_1 rfl tl_X0_addRule, zz_1 rfl tl_X0_addRule, zz_1 rfl tl_X0_addRule, zz_1 rfl tl_X0_addRule, zz_1 rfl tl_X0_addRule, fun L r M => (zz_1 rfl tl_X0_addRule _ _ _).trans rfl, zz_1 rfl tl_X0_addRule, zz_1 rfl tl_X0_addRule, zz_1 rfl tl_X0_addRule, zz_1 rfl tl_X0_addRule, zz_1 rfl tl_X0_addRule, zz_1 rfl tl_X0_addRule, fun L r M => (zz_1 rfl tl_X0_addRule _ _ _).trans rfl, zz_1 rfl tl_X0_addRule, zz_1 rfl tl_X0_addRule, zz_1 rfl tl_X0_addRule, zz_1 rfl tl_X0_addRule, zz_1 rfl tl_X0_addRule, zz_1 rfl tl_X0_addRule, fun L r M => (zz_1 rfl tl_X0_addRule _ _ _).trans rfl, zz_1 rfl tl_X0_addRule, zz_1 rfl tl_X0_addRule, zz_1 rfl tl_X0_addRule, zz_1 rfl tl_X0_addRule, zz_1 rfl tl_X0_addRule, zz_1 rfl tl_X0_addRule, fun L r M => (zz_1 rfl tl_X0_addRule _ _ _).trans rfl, zz_1 rfl tl_X0_addRule, zz_1 rfl tl_X0_addRule, zz_1 rfl tl_X0_addRule, zz_1 rfl tl_X0_addRule, zz_1 rfl tl_X0_addRule, zz_1 rfl tl_X0_addRule, zz_1 rfl tl_X0_addRule, fun L r M => (zz_1 rfl tl_X0_addRule _ _ _).trans rfl, zz_1 rfl tl_X0_addRule, zz_1 rfl tl_X0_addRule, fun L x r M => (zz_1 rfl tl_X0_addRule _ _ _).trans rfl, zz_1 rfl tl_X0_addRule, zz_1 rfl tl_X0_addRule⟩
set_option maxRecDepth 100000 in
theorem s_X0_addRule (a0 a1 a2 a3 a4 a5 : Int32) (v : Nat) (M : zzMd) : fX0_addRule [.ref v, .int a0, .int a1, .int a2, .int a3, .int a4, .int a5] M = zz_ev tX0_addRule 0 [some (.ref v), some (.int a0), some (.int a1), some (.int a2), some (.int a3), some (.int a4), some (.int a5), none] [] M := rfl
set_option maxRecDepth 100000 in
theorem e_X0_addCheck : (∀ L st M, zz_ev tX0_addCheck 0 L st M = zo_aload 0 1 (zz_ev tX0_addCheck) L st M) ∧
  (∀ (L : zzLc) (r : List Value) (M : zzMd), zz_ev tX0_addCheck 1 L (.ref 2 :: r) M = zz_ev tX0_addCheck 4 L (.int (M.1 2 4) :: r) M) ∧
  (∀ L st M, zz_ev tX0_addCheck 4 L st M = zo_pushI 8 6 (zz_ev tX0_addCheck) L st M) ∧
  (∀ L st M, zz_ev tX0_addCheck 6 L st M = zo_icmp (fun x y => decide (x < y)) 11 9 (zz_ev tX0_addCheck) L st M) ∧
  (∀ L st M, zz_ev tX0_addCheck 9 L st M = zo_pushI 0 10 (zz_ev tX0_addCheck) L st M) ∧
  (∀ L st M, zz_ev tX0_addCheck 10 L st M = zo_iret true (zz_ev tX0_addCheck) L st M) ∧
  (∀ L st M, zz_ev tX0_addCheck 11 L st M = zo_aload 0 12 (zz_ev tX0_addCheck) L st M) ∧
  (∀ (L : zzLc) (r : List Value) (M : zzMd), zz_ev tX0_addCheck 12 L (.ref 2 :: r) M = zz_ev tX0_addCheck 15 L (.int (M.1 2 4) :: r) M) ∧
  (∀ L st M, zz_ev tX0_addCheck 15 L st M = zo_pushI 3 16 (zz_ev tX0_addCheck) L st M) ∧
  (∀ L st M, zz_ev tX0_addCheck 16 L st M = zo_ii (fun x y => x * y) 17 (zz_ev tX0_addCheck) L st M) ∧
  (∀ L st M, zz_ev tX0_addCheck 17 L st M = zo_istore 4 19 (zz_ev tX0_addCheck) L st M) ∧
  (∀ L st M, zz_ev tX0_addCheck 19 L st M = zo_aload 0 20 (zz_ev tX0_addCheck) L st M) ∧
  (∀ (L : zzLc) (r : List Value) (M : zzMd), zz_ev tX0_addCheck 20 L (.ref 2 :: r) M = zz_ev tX0_addCheck 23 L (.ref 19 :: r) M) ∧
  (∀ L st M, zz_ev tX0_addCheck 23 L st M = zo_iload 4 25 (zz_ev tX0_addCheck) L st M) ∧
  (∀ L st M, zz_ev tX0_addCheck 25 L st M = zo_iload 1 26 (zz_ev tX0_addCheck) L st M) ∧
  (∀ L st M, zz_ev tX0_addCheck 26 L st M = zo_iast zzSC 27 (zz_ev tX0_addCheck) L st M) ∧
  (∀ L st M, zz_ev tX0_addCheck 27 L st M = zo_aload 0 28 (zz_ev tX0_addCheck) L st M) ∧
  (∀ (L : zzLc) (r : List Value) (M : zzMd), zz_ev tX0_addCheck 28 L (.ref 2 :: r) M = zz_ev tX0_addCheck 31 L (.ref 19 :: r) M) ∧
  (∀ L st M, zz_ev tX0_addCheck 31 L st M = zo_iload 4 33 (zz_ev tX0_addCheck) L st M) ∧
  (∀ L st M, zz_ev tX0_addCheck 33 L st M = zo_pushI 1 34 (zz_ev tX0_addCheck) L st M) ∧
  (∀ L st M, zz_ev tX0_addCheck 34 L st M = zo_ii (fun x y => x + y) 35 (zz_ev tX0_addCheck) L st M) ∧
  (∀ L st M, zz_ev tX0_addCheck 35 L st M = zo_iload 2 36 (zz_ev tX0_addCheck) L st M) ∧
  (∀ L st M, zz_ev tX0_addCheck 36 L st M = zo_iast zzSC 37 (zz_ev tX0_addCheck) L st M) ∧
  (∀ L st M, zz_ev tX0_addCheck 37 L st M = zo_aload 0 38 (zz_ev tX0_addCheck) L st M) ∧
  (∀ (L : zzLc) (r : List Value) (M : zzMd), zz_ev tX0_addCheck 38 L (.ref 2 :: r) M = zz_ev tX0_addCheck 41 L (.ref 19 :: r) M) ∧
  (∀ L st M, zz_ev tX0_addCheck 41 L st M = zo_iload 4 43 (zz_ev tX0_addCheck) L st M) ∧
  (∀ L st M, zz_ev tX0_addCheck 43 L st M = zo_pushI 2 44 (zz_ev tX0_addCheck) L st M) ∧
  (∀ L st M, zz_ev tX0_addCheck 44 L st M = zo_ii (fun x y => x + y) 45 (zz_ev tX0_addCheck) L st M) ∧
  (∀ L st M, zz_ev tX0_addCheck 45 L st M = zo_iload 3 46 (zz_ev tX0_addCheck) L st M) ∧
  (∀ L st M, zz_ev tX0_addCheck 46 L st M = zo_iast zzSC 47 (zz_ev tX0_addCheck) L st M) ∧
  (∀ L st M, zz_ev tX0_addCheck 47 L st M = zo_aload 0 48 (zz_ev tX0_addCheck) L st M) ∧
  (∀ L st M, zz_ev tX0_addCheck 48 L st M = zo_dup 49 (zz_ev tX0_addCheck) L st M) ∧
  (∀ (L : zzLc) (r : List Value) (M : zzMd), zz_ev tX0_addCheck 49 L (.ref 2 :: r) M = zz_ev tX0_addCheck 52 L (.int (M.1 2 4) :: r) M) ∧
  (∀ L st M, zz_ev tX0_addCheck 52 L st M = zo_pushI 1 53 (zz_ev tX0_addCheck) L st M) ∧
  (∀ L st M, zz_ev tX0_addCheck 53 L st M = zo_ii (fun x y => x + y) 54 (zz_ev tX0_addCheck) L st M) ∧
  (∀ (L : zzLc) (x : Int32) (r : List Value) (M : zzMd), zz_ev tX0_addCheck 54 L (.int x :: .ref 2 :: r) M = zz_ev tX0_addCheck 57 L r (zz_sI M 2 4 x)) ∧
  (∀ L st M, zz_ev tX0_addCheck 57 L st M = zo_pushI 1 58 (zz_ev tX0_addCheck) L st M) ∧
  (∀ L st M, zz_ev tX0_addCheck 58 L st M = zo_iret true (zz_ev tX0_addCheck) L st M) :=
  ⟨zz_1 rfl tl_X0_addCheck, fun L r M => (zz_1 rfl tl_X0_addCheck _ _ _).trans rfl, zz_1 rfl tl_X0_addCheck, zz_1 rfl tl_X0_addCheck, zz_1 rfl tl_X0_addCheck, zz_1 rfl tl_X0_addCheck, zz_1 rfl tl_X0_addCheck, fun L r M => (zz_1 rfl tl_X0_addCheck _ _ _).trans rfl, zz_1 rfl tl_X0_addCheck, zz_1 rfl tl_X0_addCheck, zz_1 rfl tl_X0_addCheck, zz_1 rfl tl_X0_addCheck, fun L r M => (zz_1 rfl tl_X0_addCheck _ _ _).trans rfl, zz_1 rfl tl_X0_addCheck, zz_1 rfl tl_X0_addCheck, zz_1 rfl tl_X0_addCheck, zz_1 rfl tl_X0_addCheck, fun L r M => (zz_1 rfl tl_X0_addCheck _ _ _).trans rfl, zz_1 rfl tl_X0_addCheck, zz_1 rfl tl_X0_addCheck, zz_1 rfl tl_X0_addCheck, zz_1 rfl tl_X0_addCheck, zz_1 rfl tl_X0_addCheck, zz_1 rfl tl_X0_addCheck, fun L r M => (zz_1 rfl tl_X0_addCheck _ _ _).trans rfl, zz_1 rfl tl_X0_addCheck, zz_1 rfl tl_X0_addCheck, zz_1 rfl tl_X0_addCheck, zz_1 rfl tl_X0_addCheck, zz_1 rfl tl_X0_addCheck, zz_1 rfl tl_X0_addCheck, zz_1 rfl tl_X0_addCheck, fun L r M => (zz_1 rfl tl_X0_addCheck _ _ _).trans rfl, zz_1 rfl tl_X0_addCheck, zz_1 rfl tl_X0_addCheck, fun L x r M => (zz_1 rfl tl_X0_addCheck _ _ _).trans rfl, zz_1 rfl tl_X0_addCheck, zz_1 rfl tl_X0_addCheck⟩
set_option maxRecDepth 100000 in
theorem s_X0_addCheck (a0 a1 a2 : Int32) (v : Nat) (M : zzMd) : fX0_addCheck [.ref v, .int a0, .int a1, .int a2] M = zz_ev tX0_addCheck 0 [some (.ref v), some (.int a0), some (.int a1), some (.int a2), none] [] M := rfl
set_option maxRecDepth 100000 in
theorem e_X0_removeAll : (∀ L st M, zz_ev tX0_removeAll 0 L st M = zo_aload 0 1 (zz_ev tX0_removeAll) L st M) ∧
  (∀ (L : zzLc) (r : List Value) (M : zzMd), zz_ev tX0_removeAll 1 L (.ref 2 :: r) M = zz_ev tX0_removeAll 4 L (.int (M.1 2 3) :: r) M) ∧
  (∀ L st M, zz_ev tX0_removeAll 4 L st M = zo_aload 0 5 (zz_ev tX0_removeAll) L st M) ∧
  (∀ (L : zzLc) (r : List Value) (M : zzMd), zz_ev tX0_removeAll 5 L (.ref 2 :: r) M = zz_ev tX0_removeAll 8 L (.int (M.1 2 4) :: r) M) ∧
  (∀ L st M, zz_ev tX0_removeAll 8 L st M = zo_ii (fun x y => x + y) 9 (zz_ev tX0_removeAll) L st M) ∧
  (∀ L st M, zz_ev tX0_removeAll 9 L st M = zo_istore 1 10 (zz_ev tX0_removeAll) L st M) ∧
  (∀ L st M, zz_ev tX0_removeAll 10 L st M = zo_aload 0 11 (zz_ev tX0_removeAll) L st M) ∧
  (∀ L st M, zz_ev tX0_removeAll 11 L st M = zo_pushI 0 12 (zz_ev tX0_removeAll) L st M) ∧
  (∀ (L : zzLc) (x : Int32) (r : List Value) (M : zzMd), zz_ev tX0_removeAll 12 L (.int x :: .ref 2 :: r) M = zz_ev tX0_removeAll 15 L r (zz_sI M 2 3 x)) ∧
  (∀ L st M, zz_ev tX0_removeAll 15 L st M = zo_aload 0 16 (zz_ev tX0_removeAll) L st M) ∧
  (∀ L st M, zz_ev tX0_removeAll 16 L st M = zo_pushI 0 17 (zz_ev tX0_removeAll) L st M) ∧
  (∀ (L : zzLc) (x : Int32) (r : List Value) (M : zzMd), zz_ev tX0_removeAll 17 L (.int x :: .ref 2 :: r) M = zz_ev tX0_removeAll 20 L r (zz_sI M 2 4 x)) ∧
  (∀ L st M, zz_ev tX0_removeAll 20 L st M = zo_iload 1 21 (zz_ev tX0_removeAll) L st M) ∧
  (∀ L st M, zz_ev tX0_removeAll 21 L st M = zo_iret false (zz_ev tX0_removeAll) L st M) :=
  ⟨zz_1 rfl tl_X0_removeAll, fun L r M => (zz_1 rfl tl_X0_removeAll _ _ _).trans rfl, zz_1 rfl tl_X0_removeAll, fun L r M => (zz_1 rfl tl_X0_removeAll _ _ _).trans rfl, zz_1 rfl tl_X0_removeAll, zz_1 rfl tl_X0_removeAll, zz_1 rfl tl_X0_removeAll, zz_1 rfl tl_X0_removeAll, fun L x r M => (zz_1 rfl tl_X0_removeAll _ _ _).trans rfl, zz_1 rfl tl_X0_removeAll, zz_1 rfl tl_X0_removeAll, fun L x r M => (zz_1 rfl tl_X0_removeAll _ _ _).trans rfl, zz_1 rfl tl_X0_removeAll, zz_1 rfl tl_X0_removeAll⟩
set_option maxRecDepth 100000 in
theorem s_X0_removeAll (v : Nat) (M : zzMd) : fX0_removeAll [.ref v] M = zz_ev tX0_removeAll 0 [some (.ref v), none] [] M := rfl
set_option maxRecDepth 100000 in
theorem e_X0_runRules : (∀ L st M, zz_ev tX0_runRules 0 L st M = zo_pushI 0 1 (zz_ev tX0_runRules) L st M) ∧
  (∀ L st M, zz_ev tX0_runRules 1 L st M = zo_istore 2 2 (zz_ev tX0_runRules) L st M) ∧
  (∀ L st M, zz_ev tX0_runRules 3 L st M = zo_aload 0 4 (zz_ev tX0_runRules) L st M) ∧
  (∀ (L : zzLc) (r : List Value) (M : zzMd), zz_ev tX0_runRules 4 L (.ref 2 :: r) M = zz_ev tX0_runRules 7 L (.int (M.1 2 3) :: r) M) ∧
  (∀ L st M, zz_ev tX0_runRules 7 L st M = zo_icmp (fun x y => decide (y ≤ x)) 90 10 (zz_ev tX0_runRules) L st M) ∧
  (∀ L st M, zz_ev tX0_runRules 10 L st M = zo_iload 2 11 (zz_ev tX0_runRules) L st M) ∧
  (∀ L st M, zz_ev tX0_runRules 11 L st M = zo_pushI 6 13 (zz_ev tX0_runRules) L st M) ∧
  (∀ L st M, zz_ev tX0_runRules 13 L st M = zo_ii (fun x y => x * y) 14 (zz_ev tX0_runRules) L st M) ∧
  (∀ L st M, zz_ev tX0_runRules 14 L st M = zo_istore 3 15 (zz_ev tX0_runRules) L st M) ∧
  (∀ L st M, zz_ev tX0_runRules 15 L st M = zo_aload 1 16 (zz_ev tX0_runRules) L st M) ∧
  (∀ L st M, zz_ev tX0_runRules 16 L st M = zo_aload 0 17 (zz_ev tX0_runRules) L st M) ∧
  (∀ (L : zzLc) (r : List Value) (M : zzMd), zz_ev tX0_runRules 17 L (.ref 2 :: r) M = zz_ev tX0_runRules 20 L (.ref 18 :: r) M) ∧
  (∀ L st M, zz_ev tX0_runRules 20 L st M = zo_iload 3 21 (zz_ev tX0_runRules) L st M) ∧
  (∀ L st M, zz_ev tX0_runRules 21 L st M = zo_pushI 1 22 (zz_ev tX0_runRules) L st M) ∧
  (∀ L st M, zz_ev tX0_runRules 22 L st M = zo_ii (fun x y => x + y) 23 (zz_ev tX0_runRules) L st M) ∧
  (∀ L st M, zz_ev tX0_runRules 23 L st M = zo_iald zzSC zzSTC 24 (zz_ev tX0_runRules) L st M) ∧
  (∀ L st M, zz_ev tX0_runRules 24 L st M = zo_iald zzSC zzSTC 25 (zz_ev tX0_runRules) L st M) ∧
  (∀ L st M, zz_ev tX0_runRules 25 L st M = zo_istore 4 27 (zz_ev tX0_runRules) L st M) ∧
  (∀ L st M, zz_ev tX0_runRules 27 L st M = zo_aload 0 28 (zz_ev tX0_runRules) L st M) ∧
  (∀ (L : zzLc) (r : List Value) (M : zzMd), zz_ev tX0_runRules 28 L (.ref 2 :: r) M = zz_ev tX0_runRules 31 L (.ref 18 :: r) M) ∧
  (∀ L st M, zz_ev tX0_runRules 31 L st M = zo_iload 3 32 (zz_ev tX0_runRules) L st M) ∧
  (∀ L st M, zz_ev tX0_runRules 32 L st M = zo_iald zzSC zzSTC 33 (zz_ev tX0_runRules) L st M) ∧
  (∀ L st M, zz_ev tX0_runRules 33 L st M = zo_aload 1 34 (zz_ev tX0_runRules) L st M) ∧
  (∀ L st M, zz_ev tX0_runRules 34 L st M = zo_pushI 23 36 (zz_ev tX0_runRules) L st M) ∧
  (∀ L st M, zz_ev tX0_runRules 36 L st M = zo_iald zzSC zzSTC 37 (zz_ev tX0_runRules) L st M) ∧
  (∀ L st M, zz_ev tX0_runRules 37 L st M = zo_icmp (fun x y => decide (¬ x = y)) 84 40 (zz_ev tX0_runRules) L st M) ∧
  (∀ L st M, zz_ev tX0_runRules 40 L st M = zo_iload 4 42 (zz_ev tX0_runRules) L st M) ∧
  (∀ L st M, zz_ev tX0_runRules 42 L st M = zo_aload 0 43 (zz_ev tX0_runRules) L st M) ∧
  (∀ (L : zzLc) (r : List Value) (M : zzMd), zz_ev tX0_runRules 43 L (.ref 2 :: r) M = zz_ev tX0_runRules 46 L (.ref 18 :: r) M) ∧
  (∀ L st M, zz_ev tX0_runRules 46 L st M = zo_iload 3 47 (zz_ev tX0_runRules) L st M) ∧
  (∀ L st M, zz_ev tX0_runRules 47 L st M = zo_pushI 2 48 (zz_ev tX0_runRules) L st M) ∧
  (∀ L st M, zz_ev tX0_runRules 48 L st M = zo_ii (fun x y => x + y) 49 (zz_ev tX0_runRules) L st M) ∧
  (∀ L st M, zz_ev tX0_runRules 49 L st M = zo_iald zzSC zzSTC 50 (zz_ev tX0_runRules) L st M) ∧
  (∀ L st M, zz_ev tX0_runRules 50 L st M = zo_icmp (fun x y => decide (x < y)) 84 53 (zz_ev tX0_runRules) L st M) ∧
  (∀ L st M, zz_ev tX0_runRules 53 L st M = zo_iload 4 55 (zz_ev tX0_runRules) L st M) ∧
  (∀ L st M, zz_ev tX0_runRules 55 L st M = zo_aload 0 56 (zz_ev tX0_runRules) L st M) ∧
  (∀ (L : zzLc) (r : List Value) (M : zzMd), zz_ev tX0_runRules 56 L (.ref 2 :: r) M = zz_ev tX0_runRules 59 L (.ref 18 :: r) M) ∧
  (∀ L st M, zz_ev tX0_runRules 59 L st M = zo_iload 3 60 (zz_ev tX0_runRules) L st M) ∧
  (∀ L st M, zz_ev tX0_runRules 60 L st M = zo_pushI 3 61 (zz_ev tX0_runRules) L st M) ∧
  (∀ L st M, zz_ev tX0_runRules 61 L st M = zo_ii (fun x y => x + y) 62 (zz_ev tX0_runRules) L st M) ∧
  (∀ L st M, zz_ev tX0_runRules 62 L st M = zo_iald zzSC zzSTC 63 (zz_ev tX0_runRules) L st M) ∧
  (∀ L st M, zz_ev tX0_runRules 63 L st M = zo_icmp (fun x y => decide (y < x)) 84 66 (zz_ev tX0_runRules) L st M) ∧
  (∀ L st M, zz_ev tX0_runRules 66 L st M = zo_aload 1 67 (zz_ev tX0_runRules) L st M) ∧
  (∀ L st M, zz_ev tX0_runRules 67 L st M = zo_aload 0 68 (zz_ev tX0_runRules) L st M) ∧
  (∀ (L : zzLc) (r : List Value) (M : zzMd), zz_ev tX0_runRules 68 L (.ref 2 :: r) M = zz_ev tX0_runRules 71 L (.ref 18 :: r) M) ∧
  (∀ L st M, zz_ev tX0_runRules 71 L st M = zo_iload 3 72 (zz_ev tX0_runRules) L st M) ∧
  (∀ L st M, zz_ev tX0_runRules 72 L st M = zo_pushI 4 73 (zz_ev tX0_runRules) L st M) ∧
  (∀ L st M, zz_ev tX0_runRules 73 L st M = zo_ii (fun x y => x + y) 74 (zz_ev tX0_runRules) L st M) ∧
  (∀ L st M, zz_ev tX0_runRules 74 L st M = zo_iald zzSC zzSTC 75 (zz_ev tX0_runRules) L st M) ∧
  (∀ L st M, zz_ev tX0_runRules 75 L st M = zo_aload 0 76 (zz_ev tX0_runRules) L st M) ∧
  (∀ (L : zzLc) (r : List Value) (M : zzMd), zz_ev tX0_runRules 76 L (.ref 2 :: r) M = zz_ev tX0_runRules 79 L (.ref 18 :: r) M) ∧
  (∀ L st M, zz_ev tX0_runRules 79 L st M = zo_iload 3 80 (zz_ev tX0_runRules) L st M) ∧
  (∀ L st M, zz_ev tX0_runRules 80 L st M = zo_pushI 5 81 (zz_ev tX0_runRules) L st M) ∧
  (∀ L st M, zz_ev tX0_runRules 81 L st M = zo_ii (fun x y => x + y) 82 (zz_ev tX0_runRules) L st M) ∧
  (∀ L st M, zz_ev tX0_runRules 82 L st M = zo_iald zzSC zzSTC 83 (zz_ev tX0_runRules) L st M) ∧
  (∀ L st M, zz_ev tX0_runRules 83 L st M = zo_iast zzSC 84 (zz_ev tX0_runRules) L st M) ∧
  (∀ L st M, zz_ev tX0_runRules 84 L st M = zo_iinc 2 1 87 (zz_ev tX0_runRules) L st M) ∧
  (∀ L st M, zz_ev tX0_runRules 87 L st M = zo_goto 2 (zz_ev tX0_runRules) L st M) ∧
  (∀ L st M, zz_ev tX0_runRules 90 L st M = zo_ret (zz_ev tX0_runRules) L st M) :=
  ⟨zz_1 rfl tl_X0_runRules, zz_1 rfl tl_X0_runRules, zz_1 rfl tl_X0_runRules, fun L r M => (zz_1 rfl tl_X0_runRules _ _ _).trans rfl, zz_1 rfl tl_X0_runRules, zz_1 rfl tl_X0_runRules, zz_1 rfl tl_X0_runRules, zz_1 rfl tl_X0_runRules, zz_1 rfl tl_X0_runRules, zz_1 rfl tl_X0_runRules, zz_1 rfl tl_X0_runRules, fun L r M => (zz_1 rfl tl_X0_runRules _ _ _).trans rfl, zz_1 rfl tl_X0_runRules, zz_1 rfl tl_X0_runRules, zz_1 rfl tl_X0_runRules, zz_1 rfl tl_X0_runRules, zz_1 rfl tl_X0_runRules, zz_1 rfl tl_X0_runRules, zz_1 rfl tl_X0_runRules, fun L r M => (zz_1 rfl tl_X0_runRules _ _ _).trans rfl, zz_1 rfl tl_X0_runRules, zz_1 rfl tl_X0_runRules, zz_1 rfl tl_X0_runRules, zz_1 rfl tl_X0_runRules, zz_1 rfl tl_X0_runRules, zz_1 rfl tl_X0_runRules, zz_1 rfl tl_X0_runRules, zz_1 rfl tl_X0_runRules, fun L r M => (zz_1 rfl tl_X0_runRules _ _ _).trans rfl, zz_1 rfl tl_X0_runRules, zz_1 rfl tl_X0_runRules, zz_1 rfl tl_X0_runRules, zz_1 rfl tl_X0_runRules, zz_1 rfl tl_X0_runRules, zz_1 rfl tl_X0_runRules, zz_1 rfl tl_X0_runRules, fun L r M => (zz_1 rfl tl_X0_runRules _ _ _).trans rfl, zz_1 rfl tl_X0_runRules, zz_1 rfl tl_X0_runRules, zz_1 rfl tl_X0_runRules, zz_1 rfl tl_X0_runRules, zz_1 rfl tl_X0_runRules, zz_1 rfl tl_X0_runRules, zz_1 rfl tl_X0_runRules, fun L r M => (zz_1 rfl tl_X0_runRules _ _ _).trans rfl, zz_1 rfl tl_X0_runRules, zz_1 rfl tl_X0_runRules, zz_1 rfl tl_X0_runRules, zz_1 rfl tl_X0_runRules, zz_1 rfl tl_X0_runRules, fun L r M => (zz_1 rfl tl_X0_runRules _ _ _).trans rfl, zz_1 rfl tl_X0_runRules, zz_1 rfl tl_X0_runRules, zz_1 rfl tl_X0_runRules, zz_1 rfl tl_X0_runRules, zz_1 rfl tl_X0_runRules, zz_1 rfl tl_X0_runRules, zz_1 rfl tl_X0_runRules, zz_1 rfl tl_X0_runRules⟩
set_option maxRecDepth 100000 in
theorem e_X0_runRules_2 : (∀ L st M, zz_ev tX0_runRules 2 L st M = zo_iload 2 3 (zz_ev tX0_runRules) L st M) := zz_1 rfl tl_X0_runRules
set_option maxRecDepth 100000 in
theorem s_X0_runRules (v a0 : Nat) (M : zzMd) : fX0_runRules [.ref v, .ref a0] M = zz_ev tX0_runRules 0 [some (.ref v), some (.ref a0), none, none, none] [] M := rfl
set_option maxRecDepth 100000 in
theorem e_X0_settles : (∀ L st M, zz_ev tX0_settles 0 L st M = zo_pushI 0 1 (zz_ev tX0_settles) L st M) ∧
  (∀ L st M, zz_ev tX0_settles 1 L st M = zo_istore 2 2 (zz_ev tX0_settles) L st M) ∧
  (∀ L st M, zz_ev tX0_settles 3 L st M = zo_pushI 6 5 (zz_ev tX0_settles) L st M) ∧
  (∀ L st M, zz_ev tX0_settles 5 L st M = zo_icmp (fun x y => decide (y ≤ x)) 79 8 (zz_ev tX0_settles) L st M) ∧
  (∀ L st M, zz_ev tX0_settles 8 L st M = zo_aload 1 9 (zz_ev tX0_settles) L st M) ∧
  (∀ L st M, zz_ev tX0_settles 9 L st M = zo_pushI 0 10 (zz_ev tX0_settles) L st M) ∧
  (∀ L st M, zz_ev tX0_settles 10 L st M = zo_aload 0 11 (zz_ev tX0_settles) L st M) ∧
  (∀ (L : zzLc) (r : List Value) (M : zzMd), zz_ev tX0_settles 11 L (.ref 2 :: r) M = zz_ev tX0_settles 14 L (.ref 20 :: r) M) ∧
  (∀ L st M, zz_ev tX0_settles 14 L st M = zo_pushI 0 15 (zz_ev tX0_settles) L st M) ∧
  (∀ L st M, zz_ev tX0_settles 15 L st M = zo_pushI 11 17 (zz_ev tX0_settles) L st M) ∧
  (∀ L st M, zz_ev tX0_settles 17 L st M = zo_copy zzSC 20 (zz_ev tX0_settles) L st M) ∧
  (∀ L st M, zz_ev tX0_settles 20 L st M = zo_aload 0 21 (zz_ev tX0_settles) L st M) ∧
  (∀ L st M, zz_ev tX0_settles 21 L st M = zo_aload 1 22 (zz_ev tX0_settles) L st M) ∧
  (∀ (L : zzLc) (a0 : Nat) (r : List Value) (M : zzMd), zz_ev tX0_settles 22 L (.ref a0 :: .ref 2 :: r) M = bif zz_cat8 r then zz_backN (zz_ev tX0_settles) 25 L r (fX0_runRules [.ref 2, .ref a0] M) else none) ∧
  (∀ L st M, zz_ev tX0_settles 25 L st M = zo_pushI 1 26 (zz_ev tX0_settles) L st M) ∧
  (∀ L st M, zz_ev tX0_settles 26 L st M = zo_istore 3 27 (zz_ev tX0_settles) L st M) ∧
  (∀ L st M, zz_ev tX0_settles 27 L st M = zo_pushI 0 28 (zz_ev tX0_settles) L st M) ∧
  (∀ L st M, zz_ev tX0_settles 28 L st M = zo_istore 4 30 (zz_ev tX0_settles) L st M) ∧
  (∀ L st M, zz_ev tX0_settles 32 L st M = zo_pushI 11 34 (zz_ev tX0_settles) L st M) ∧
  (∀ L st M, zz_ev tX0_settles 34 L st M = zo_icmp (fun x y => decide (y ≤ x)) 67 37 (zz_ev tX0_settles) L st M) ∧
  (∀ L st M, zz_ev tX0_settles 37 L st M = zo_iload 3 38 (zz_ev tX0_settles) L st M) ∧
  (∀ L st M, zz_ev tX0_settles 38 L st M = zo_if (fun x => decide (x = 0)) 59 41 (zz_ev tX0_settles) L st M) ∧
  (∀ L st M, zz_ev tX0_settles 41 L st M = zo_aload 1 42 (zz_ev tX0_settles) L st M) ∧
  (∀ L st M, zz_ev tX0_settles 42 L st M = zo_iload 4 44 (zz_ev tX0_settles) L st M) ∧
  (∀ L st M, zz_ev tX0_settles 44 L st M = zo_iald zzSC zzSTC 45 (zz_ev tX0_settles) L st M) ∧
  (∀ L st M, zz_ev tX0_settles 45 L st M = zo_aload 0 46 (zz_ev tX0_settles) L st M) ∧
  (∀ (L : zzLc) (r : List Value) (M : zzMd), zz_ev tX0_settles 46 L (.ref 2 :: r) M = zz_ev tX0_settles 49 L (.ref 20 :: r) M) ∧
  (∀ L st M, zz_ev tX0_settles 49 L st M = zo_iload 4 51 (zz_ev tX0_settles) L st M) ∧
  (∀ L st M, zz_ev tX0_settles 51 L st M = zo_iald zzSC zzSTC 52 (zz_ev tX0_settles) L st M) ∧
  (∀ L st M, zz_ev tX0_settles 52 L st M = zo_icmp (fun x y => decide (¬ x = y)) 59 55 (zz_ev tX0_settles) L st M) ∧
  (∀ L st M, zz_ev tX0_settles 55 L st M = zo_pushI 1 56 (zz_ev tX0_settles) L st M) ∧
  (∀ L st M, zz_ev tX0_settles 56 L st M = zo_goto 60 (zz_ev tX0_settles) L st M) ∧
  (∀ L st M, zz_ev tX0_settles 59 L st M = zo_pushI 0 60 (zz_ev tX0_settles) L st M) ∧
  (∀ L st M, zz_ev tX0_settles 60 L st M = zo_istore 3 61 (zz_ev tX0_settles) L st M) ∧
  (∀ L st M, zz_ev tX0_settles 61 L st M = zo_iinc 4 1 64 (zz_ev tX0_settles) L st M) ∧
  (∀ L st M, zz_ev tX0_settles 64 L st M = zo_goto 30 (zz_ev tX0_settles) L st M) ∧
  (∀ L st M, zz_ev tX0_settles 67 L st M = zo_iload 3 68 (zz_ev tX0_settles) L st M) ∧
  (∀ L st M, zz_ev tX0_settles 68 L st M = zo_if (fun x => decide (x = 0)) 73 71 (zz_ev tX0_settles) L st M) ∧
  (∀ L st M, zz_ev tX0_settles 71 L st M = zo_pushI 1 72 (zz_ev tX0_settles) L st M) ∧
  (∀ L st M, zz_ev tX0_settles 72 L st M = zo_iret true (zz_ev tX0_settles) L st M) ∧
  (∀ L st M, zz_ev tX0_settles 73 L st M = zo_iinc 2 1 76 (zz_ev tX0_settles) L st M) ∧
  (∀ L st M, zz_ev tX0_settles 76 L st M = zo_goto 2 (zz_ev tX0_settles) L st M) ∧
  (∀ L st M, zz_ev tX0_settles 79 L st M = zo_pushI 0 80 (zz_ev tX0_settles) L st M) ∧
  (∀ L st M, zz_ev tX0_settles 80 L st M = zo_iret true (zz_ev tX0_settles) L st M) :=
  ⟨zz_1 rfl tl_X0_settles, zz_1 rfl tl_X0_settles, zz_1 rfl tl_X0_settles, zz_1 rfl tl_X0_settles, zz_1 rfl tl_X0_settles, zz_1 rfl tl_X0_settles, zz_1 rfl tl_X0_settles, fun L r M => (zz_1 rfl tl_X0_settles _ _ _).trans rfl, zz_1 rfl tl_X0_settles, zz_1 rfl tl_X0_settles, zz_1 rfl tl_X0_settles, zz_1 rfl tl_X0_settles, zz_1 rfl tl_X0_settles, fun L a0 r M => (zz_1 rfl tl_X0_settles _ _ _).trans rfl, zz_1 rfl tl_X0_settles, zz_1 rfl tl_X0_settles, zz_1 rfl tl_X0_settles, zz_1 rfl tl_X0_settles, zz_1 rfl tl_X0_settles, zz_1 rfl tl_X0_settles, zz_1 rfl tl_X0_settles, zz_1 rfl tl_X0_settles, zz_1 rfl tl_X0_settles, zz_1 rfl tl_X0_settles, zz_1 rfl tl_X0_settles, zz_1 rfl tl_X0_settles, fun L r M => (zz_1 rfl tl_X0_settles _ _ _).trans rfl, zz_1 rfl tl_X0_settles, zz_1 rfl tl_X0_settles, zz_1 rfl tl_X0_settles, zz_1 rfl tl_X0_settles, zz_1 rfl tl_X0_settles, zz_1 rfl tl_X0_settles, zz_1 rfl tl_X0_settles, zz_1 rfl tl_X0_settles, zz_1 rfl tl_X0_settles, zz_1 rfl tl_X0_settles, zz_1 rfl tl_X0_settles, zz_1 rfl tl_X0_settles, zz_1 rfl tl_X0_settles, zz_1 rfl tl_X0_settles, zz_1 rfl tl_X0_settles, zz_1 rfl tl_X0_settles, zz_1 rfl tl_X0_settles⟩
set_option maxRecDepth 100000 in
theorem e_X0_settles_2 : (∀ L st M, zz_ev tX0_settles 2 L st M = zo_iload 2 3 (zz_ev tX0_settles) L st M) := zz_1 rfl tl_X0_settles
set_option maxRecDepth 100000 in
theorem e_X0_settles_30 : (∀ L st M, zz_ev tX0_settles 30 L st M = zo_iload 4 32 (zz_ev tX0_settles) L st M) := zz_1 rfl tl_X0_settles
set_option maxRecDepth 100000 in
theorem s_X0_settles (v a0 : Nat) (M : zzMd) : fX0_settles [.ref v, .ref a0] M = zz_ev tX0_settles 0 [some (.ref v), some (.ref a0), none, none, none] [] M := rfl
set_option maxRecDepth 100000 in
theorem e_X0_allows : (∀ L st M, zz_ev tX0_allows 0 L st M = zo_aload 1 1 (zz_ev tX0_allows) L st M) ∧
  (∀ L st M, zz_ev tX0_allows 1 L st M = zo_pushI 23 3 (zz_ev tX0_allows) L st M) ∧
  (∀ L st M, zz_ev tX0_allows 3 L st M = zo_iald zzSC zzSTC 4 (zz_ev tX0_allows) L st M) ∧
  (∀ L st M, zz_ev tX0_allows 4 L st M = zo_if (fun x => decide (¬ x = 0)) 21 7 (zz_ev tX0_allows) L st M) ∧
  (∀ L st M, zz_ev tX0_allows 7 L st M = zo_aload 1 8 (zz_ev tX0_allows) L st M) ∧
  (∀ L st M, zz_ev tX0_allows 8 L st M = zo_pushI 2 9 (zz_ev tX0_allows) L st M) ∧
  (∀ L st M, zz_ev tX0_allows 9 L st M = zo_iald zzSC zzSTC 10 (zz_ev tX0_allows) L st M) ∧
  (∀ L st M, zz_ev tX0_allows 10 L st M = zo_if (fun x => decide (¬ x = 0)) 21 13 (zz_ev tX0_allows) L st M) ∧
  (∀ L st M, zz_ev tX0_allows 13 L st M = zo_aload 1 14 (zz_ev tX0_allows) L st M) ∧
  (∀ L st M, zz_ev tX0_allows 14 L st M = zo_pushI 3 15 (zz_ev tX0_allows) L st M) ∧
  (∀ L st M, zz_ev tX0_allows 15 L st M = zo_iald zzSC zzSTC 16 (zz_ev tX0_allows) L st M) ∧
  (∀ L st M, zz_ev tX0_allows 16 L st M = zo_if (fun x => decide (¬ x = 0)) 21 19 (zz_ev tX0_allows) L st M) ∧
  (∀ L st M, zz_ev tX0_allows 19 L st M = zo_pushI 0 20 (zz_ev tX0_allows) L st M) ∧
  (∀ L st M, zz_ev tX0_allows 20 L st M = zo_iret true (zz_ev tX0_allows) L st M) ∧
  (∀ L st M, zz_ev tX0_allows 21 L st M = zo_pushI 0 22 (zz_ev tX0_allows) L st M) ∧
  (∀ L st M, zz_ev tX0_allows 22 L st M = zo_istore 2 23 (zz_ev tX0_allows) L st M) ∧
  (∀ L st M, zz_ev tX0_allows 24 L st M = zo_aload 0 25 (zz_ev tX0_allows) L st M) ∧
  (∀ (L : zzLc) (r : List Value) (M : zzMd), zz_ev tX0_allows 25 L (.ref 2 :: r) M = zz_ev tX0_allows 28 L (.int (M.1 2 4) :: r) M) ∧
  (∀ L st M, zz_ev tX0_allows 28 L st M = zo_icmp (fun x y => decide (y ≤ x)) 77 31 (zz_ev tX0_allows) L st M) ∧
  (∀ L st M, zz_ev tX0_allows 31 L st M = zo_iload 2 32 (zz_ev tX0_allows) L st M) ∧
  (∀ L st M, zz_ev tX0_allows 32 L st M = zo_pushI 3 33 (zz_ev tX0_allows) L st M) ∧
  (∀ L st M, zz_ev tX0_allows 33 L st M = zo_ii (fun x y => x * y) 34 (zz_ev tX0_allows) L st M) ∧
  (∀ L st M, zz_ev tX0_allows 34 L st M = zo_istore 3 35 (zz_ev tX0_allows) L st M) ∧
  (∀ L st M, zz_ev tX0_allows 35 L st M = zo_aload 0 36 (zz_ev tX0_allows) L st M) ∧
  (∀ (L : zzLc) (r : List Value) (M : zzMd), zz_ev tX0_allows 36 L (.ref 2 :: r) M = zz_ev tX0_allows 39 L (.ref 19 :: r) M) ∧
  (∀ L st M, zz_ev tX0_allows 39 L st M = zo_iload 3 40 (zz_ev tX0_allows) L st M) ∧
  (∀ L st M, zz_ev tX0_allows 40 L st M = zo_iald zzSC zzSTC 41 (zz_ev tX0_allows) L st M) ∧
  (∀ L st M, zz_ev tX0_allows 41 L st M = zo_aload 1 42 (zz_ev tX0_allows) L st M) ∧
  (∀ L st M, zz_ev tX0_allows 42 L st M = zo_pushI 23 44 (zz_ev tX0_allows) L st M) ∧
  (∀ L st M, zz_ev tX0_allows 44 L st M = zo_iald zzSC zzSTC 45 (zz_ev tX0_allows) L st M) ∧
  (∀ L st M, zz_ev tX0_allows 45 L st M = zo_icmp (fun x y => decide (¬ x = y)) 71 48 (zz_ev tX0_allows) L st M) ∧
  (∀ L st M, zz_ev tX0_allows 48 L st M = zo_aload 1 49 (zz_ev tX0_allows) L st M) ∧
  (∀ L st M, zz_ev tX0_allows 49 L st M = zo_aload 0 50 (zz_ev tX0_allows) L st M) ∧
  (∀ (L : zzLc) (r : List Value) (M : zzMd), zz_ev tX0_allows 50 L (.ref 2 :: r) M = zz_ev tX0_allows 53 L (.ref 19 :: r) M) ∧
  (∀ L st M, zz_ev tX0_allows 53 L st M = zo_iload 3 54 (zz_ev tX0_allows) L st M) ∧
  (∀ L st M, zz_ev tX0_allows 54 L st M = zo_pushI 1 55 (zz_ev tX0_allows) L st M) ∧
  (∀ L st M, zz_ev tX0_allows 55 L st M = zo_ii (fun x y => x + y) 56 (zz_ev tX0_allows) L st M) ∧
  (∀ L st M, zz_ev tX0_allows 56 L st M = zo_iald zzSC zzSTC 57 (zz_ev tX0_allows) L st M) ∧
  (∀ L st M, zz_ev tX0_allows 57 L st M = zo_iald zzSC zzSTC 58 (zz_ev tX0_allows) L st M) ∧
  (∀ L st M, zz_ev tX0_allows 58 L st M = zo_aload 0 59 (zz_ev tX0_allows) L st M) ∧
  (∀ (L : zzLc) (r : List Value) (M : zzMd), zz_ev tX0_allows 59 L (.ref 2 :: r) M = zz_ev tX0_allows 62 L (.ref 19 :: r) M) ∧
  (∀ L st M, zz_ev tX0_allows 62 L st M = zo_iload 3 63 (zz_ev tX0_allows) L st M) ∧
  (∀ L st M, zz_ev tX0_allows 63 L st M = zo_pushI 2 64 (zz_ev tX0_allows) L st M) ∧
  (∀ L st M, zz_ev tX0_allows 64 L st M = zo_ii (fun x y => x + y) 65 (zz_ev tX0_allows) L st M) ∧
  (∀ L st M, zz_ev tX0_allows 65 L st M = zo_iald zzSC zzSTC 66 (zz_ev tX0_allows) L st M) ∧
  (∀ L st M, zz_ev tX0_allows 66 L st M = zo_icmp (fun x y => decide (x ≤ y)) 71 69 (zz_ev tX0_allows) L st M) ∧
  (∀ L st M, zz_ev tX0_allows 69 L st M = zo_pushI 0 70 (zz_ev tX0_allows) L st M) ∧
  (∀ L st M, zz_ev tX0_allows 70 L st M = zo_iret true (zz_ev tX0_allows) L st M) ∧
  (∀ L st M, zz_ev tX0_allows 71 L st M = zo_iinc 2 1 74 (zz_ev tX0_allows) L st M) ∧
  (∀ L st M, zz_ev tX0_allows 74 L st M = zo_goto 23 (zz_ev tX0_allows) L st M) ∧
  (∀ L st M, zz_ev tX0_allows 77 L st M = zo_pushI 1 78 (zz_ev tX0_allows) L st M) ∧
  (∀ L st M, zz_ev tX0_allows 78 L st M = zo_iret true (zz_ev tX0_allows) L st M) :=
  ⟨zz_1 rfl tl_X0_allows, zz_1 rfl tl_X0_allows, zz_1 rfl tl_X0_allows, zz_1 rfl tl_X0_allows, zz_1 rfl tl_X0_allows, zz_1 rfl tl_X0_allows, zz_1 rfl tl_X0_allows, zz_1 rfl tl_X0_allows, zz_1 rfl tl_X0_allows, zz_1 rfl tl_X0_allows, zz_1 rfl tl_X0_allows, zz_1 rfl tl_X0_allows, zz_1 rfl tl_X0_allows, zz_1 rfl tl_X0_allows, zz_1 rfl tl_X0_allows, zz_1 rfl tl_X0_allows, zz_1 rfl tl_X0_allows, fun L r M => (zz_1 rfl tl_X0_allows _ _ _).trans rfl, zz_1 rfl tl_X0_allows, zz_1 rfl tl_X0_allows, zz_1 rfl tl_X0_allows, zz_1 rfl tl_X0_allows, zz_1 rfl tl_X0_allows, zz_1 rfl tl_X0_allows, fun L r M => (zz_1 rfl tl_X0_allows _ _ _).trans rfl, zz_1 rfl tl_X0_allows, zz_1 rfl tl_X0_allows, zz_1 rfl tl_X0_allows, zz_1 rfl tl_X0_allows, zz_1 rfl tl_X0_allows, zz_1 rfl tl_X0_allows, zz_1 rfl tl_X0_allows, zz_1 rfl tl_X0_allows, fun L r M => (zz_1 rfl tl_X0_allows _ _ _).trans rfl, zz_1 rfl tl_X0_allows, zz_1 rfl tl_X0_allows, zz_1 rfl tl_X0_allows, zz_1 rfl tl_X0_allows, zz_1 rfl tl_X0_allows, zz_1 rfl tl_X0_allows, fun L r M => (zz_1 rfl tl_X0_allows _ _ _).trans rfl, zz_1 rfl tl_X0_allows, zz_1 rfl tl_X0_allows, zz_1 rfl tl_X0_allows, zz_1 rfl tl_X0_allows, zz_1 rfl tl_X0_allows, zz_1 rfl tl_X0_allows, zz_1 rfl tl_X0_allows, zz_1 rfl tl_X0_allows, zz_1 rfl tl_X0_allows, zz_1 rfl tl_X0_allows, zz_1 rfl tl_X0_allows⟩
set_option maxRecDepth 100000 in
theorem e_X0_allows_23 : (∀ L st M, zz_ev tX0_allows 23 L st M = zo_iload 2 24 (zz_ev tX0_allows) L st M) := zz_1 rfl tl_X0_allows
set_option maxRecDepth 100000 in
theorem s_X0_allows (v a0 : Nat) (M : zzMd) : fX0_allows [.ref v, .ref a0] M = zz_ev tX0_allows 0 [some (.ref v), some (.ref a0), none, none] [] M := rfl
set_option maxRecDepth 100000 in
theorem e_X10_read : (∀ L st M, zz_ev tX10_read 0 L st M = zo_iload 1 1 (zz_ev tX10_read) L st M) ∧
  (∀ L st M, zz_ev tX10_read 1 L st M = zo_if (fun x => decide (x < 0)) 20 4 (zz_ev tX10_read) L st M) ∧
  (∀ L st M, zz_ev tX10_read 4 L st M = zo_iload 1 5 (zz_ev tX10_read) L st M) ∧
  (∀ L st M, zz_ev tX10_read 5 L st M = zo_pushI 60 7 (zz_ev tX10_read) L st M) ∧
  (∀ L st M, zz_ev tX10_read 7 L st M = zo_icmp (fun x y => decide (y ≤ x)) 20 10 (zz_ev tX10_read) L st M) ∧
  (∀ L st M, zz_ev tX10_read 10 L st M = zo_iload 2 11 (zz_ev tX10_read) L st M) ∧
  (∀ L st M, zz_ev tX10_read 11 L st M = zo_if (fun x => decide (x < 0)) 20 14 (zz_ev tX10_read) L st M) ∧
  (∀ L st M, zz_ev tX10_read 14 L st M = zo_iload 2 15 (zz_ev tX10_read) L st M) ∧
  (∀ L st M, zz_ev tX10_read 15 L st M = zo_pushI 32 17 (zz_ev tX10_read) L st M) ∧
  (∀ L st M, zz_ev tX10_read 17 L st M = zo_icmp (fun x y => decide (x < y)) 22 20 (zz_ev tX10_read) L st M) ∧
  (∀ L st M, zz_ev tX10_read 20 L st M = zo_pushI (-1) 21 (zz_ev tX10_read) L st M) ∧
  (∀ L st M, zz_ev tX10_read 21 L st M = zo_iret false (zz_ev tX10_read) L st M) ∧
  (∀ L st M, zz_ev tX10_read 22 L st M = zo_aload 0 23 (zz_ev tX10_read) L st M) ∧
  (∀ (L : zzLc) (r : List Value) (M : zzMd), zz_ev tX10_read 23 L (.ref 1 :: r) M = zz_ev tX10_read 26 L (.ref 14 :: r) M) ∧
  (∀ (L : zzLc) (r : List Value) (M : zzMd), zz_ev tX10_read 23 L (.ref 3 :: r) M = zz_ev tX10_read 26 L (.ref 14 :: r) M) ∧
  (∀ (L : zzLc) (r : List Value) (M : zzMd), zz_ev tX10_read 23 L (.ref 4 :: r) M = zz_ev tX10_read 26 L (.ref 14 :: r) M) ∧
  (∀ (L : zzLc) (r : List Value) (M : zzMd), zz_ev tX10_read 23 L (.ref 5 :: r) M = zz_ev tX10_read 26 L (.ref 14 :: r) M) ∧
  (∀ (L : zzLc) (r : List Value) (M : zzMd), zz_ev tX10_read 23 L (.ref 6 :: r) M = zz_ev tX10_read 26 L (.ref 14 :: r) M) ∧
  (∀ (L : zzLc) (r : List Value) (M : zzMd), zz_ev tX10_read 23 L (.ref 7 :: r) M = zz_ev tX10_read 26 L (.ref 14 :: r) M) ∧
  (∀ (L : zzLc) (r : List Value) (M : zzMd), zz_ev tX10_read 23 L (.ref 8 :: r) M = zz_ev tX10_read 26 L (.ref 14 :: r) M) ∧
  (∀ (L : zzLc) (r : List Value) (M : zzMd), zz_ev tX10_read 23 L (.ref 9 :: r) M = zz_ev tX10_read 26 L (.ref 14 :: r) M) ∧
  (∀ (L : zzLc) (r : List Value) (M : zzMd), zz_ev tX10_read 23 L (.ref 10 :: r) M = zz_ev tX10_read 26 L (.ref 14 :: r) M) ∧
  (∀ L st M, zz_ev tX10_read 26 L st M = zo_aload 0 27 (zz_ev tX10_read) L st M) ∧
  (∀ (L : zzLc) (r : List Value) (M : zzMd), zz_ev tX10_read 27 L (.ref 1 :: r) M = zz_ev tX10_read 30 L (.ref 15 :: r) M) ∧
  (∀ (L : zzLc) (r : List Value) (M : zzMd), zz_ev tX10_read 27 L (.ref 3 :: r) M = zz_ev tX10_read 30 L (.ref 21 :: r) M) ∧
  (∀ (L : zzLc) (r : List Value) (M : zzMd), zz_ev tX10_read 27 L (.ref 4 :: r) M = zz_ev tX10_read 30 L (.ref 27 :: r) M) ∧
  (∀ (L : zzLc) (r : List Value) (M : zzMd), zz_ev tX10_read 27 L (.ref 5 :: r) M = zz_ev tX10_read 30 L (.ref 33 :: r) M) ∧
  (∀ (L : zzLc) (r : List Value) (M : zzMd), zz_ev tX10_read 27 L (.ref 6 :: r) M = zz_ev tX10_read 30 L (.ref 39 :: r) M) ∧
  (∀ (L : zzLc) (r : List Value) (M : zzMd), zz_ev tX10_read 27 L (.ref 7 :: r) M = zz_ev tX10_read 30 L (.ref 45 :: r) M) ∧
  (∀ (L : zzLc) (r : List Value) (M : zzMd), zz_ev tX10_read 27 L (.ref 8 :: r) M = zz_ev tX10_read 30 L (.ref 51 :: r) M) ∧
  (∀ (L : zzLc) (r : List Value) (M : zzMd), zz_ev tX10_read 27 L (.ref 9 :: r) M = zz_ev tX10_read 30 L (.ref 57 :: r) M) ∧
  (∀ (L : zzLc) (r : List Value) (M : zzMd), zz_ev tX10_read 27 L (.ref 10 :: r) M = zz_ev tX10_read 30 L (.ref 63 :: r) M) ∧
  (∀ L st M, zz_ev tX10_read 30 L st M = zo_iload 1 31 (zz_ev tX10_read) L st M) ∧
  (∀ L st M, zz_ev tX10_read 31 L st M = zo_iald zzSC zzSTC 32 (zz_ev tX10_read) L st M) ∧
  (∀ L st M, zz_ev tX10_read 32 L st M = zo_pushI 32 34 (zz_ev tX10_read) L st M) ∧
  (∀ L st M, zz_ev tX10_read 34 L st M = zo_ii (fun x y => x * y) 35 (zz_ev tX10_read) L st M) ∧
  (∀ L st M, zz_ev tX10_read 35 L st M = zo_iload 2 36 (zz_ev tX10_read) L st M) ∧
  (∀ L st M, zz_ev tX10_read 36 L st M = zo_ii (fun x y => x + y) 37 (zz_ev tX10_read) L st M) ∧
  (∀ L st M, zz_ev tX10_read 37 L st M = zo_iald zzSC zzSTC 38 (zz_ev tX10_read) L st M) ∧
  (∀ L st M, zz_ev tX10_read 38 L st M = zo_iret false (zz_ev tX10_read) L st M) :=
  ⟨zz_1 rfl tl_X10_read, zz_1 rfl tl_X10_read, zz_1 rfl tl_X10_read, zz_1 rfl tl_X10_read, zz_1 rfl tl_X10_read, zz_1 rfl tl_X10_read, zz_1 rfl tl_X10_read, zz_1 rfl tl_X10_read, zz_1 rfl tl_X10_read, zz_1 rfl tl_X10_read, zz_1 rfl tl_X10_read, zz_1 rfl tl_X10_read, zz_1 rfl tl_X10_read, fun L r M => (zz_1 rfl tl_X10_read _ _ _).trans rfl, fun L r M => (zz_1 rfl tl_X10_read _ _ _).trans rfl, fun L r M => (zz_1 rfl tl_X10_read _ _ _).trans rfl, fun L r M => (zz_1 rfl tl_X10_read _ _ _).trans rfl, fun L r M => (zz_1 rfl tl_X10_read _ _ _).trans rfl, fun L r M => (zz_1 rfl tl_X10_read _ _ _).trans rfl, fun L r M => (zz_1 rfl tl_X10_read _ _ _).trans rfl, fun L r M => (zz_1 rfl tl_X10_read _ _ _).trans rfl, fun L r M => (zz_1 rfl tl_X10_read _ _ _).trans rfl, zz_1 rfl tl_X10_read, fun L r M => (zz_1 rfl tl_X10_read _ _ _).trans rfl, fun L r M => (zz_1 rfl tl_X10_read _ _ _).trans rfl, fun L r M => (zz_1 rfl tl_X10_read _ _ _).trans rfl, fun L r M => (zz_1 rfl tl_X10_read _ _ _).trans rfl, fun L r M => (zz_1 rfl tl_X10_read _ _ _).trans rfl, fun L r M => (zz_1 rfl tl_X10_read _ _ _).trans rfl, fun L r M => (zz_1 rfl tl_X10_read _ _ _).trans rfl, fun L r M => (zz_1 rfl tl_X10_read _ _ _).trans rfl, fun L r M => (zz_1 rfl tl_X10_read _ _ _).trans rfl, zz_1 rfl tl_X10_read, zz_1 rfl tl_X10_read, zz_1 rfl tl_X10_read, zz_1 rfl tl_X10_read, zz_1 rfl tl_X10_read, zz_1 rfl tl_X10_read, zz_1 rfl tl_X10_read, zz_1 rfl tl_X10_read⟩
set_option maxRecDepth 100000 in
theorem s_X10_read (a0 a1 : Int32) (v : Nat) (M : zzMd) : fX10_read [.ref v, .int a0, .int a1] M = zz_ev tX10_read 0 [some (.ref v), some (.int a0), some (.int a1)] [] M := rfl
set_option maxRecDepth 100000 in
theorem e_X10_isGone : (∀ L st M, zz_ev tX10_isGone 0 L st M = zo_aload 0 1 (zz_ev tX10_isGone) L st M) ∧
  (∀ L st M, zz_ev tX10_isGone 1 L st M = zo_iload 1 2 (zz_ev tX10_isGone) L st M) ∧
  (∀ L st M, zz_ev tX10_isGone 2 L st M = zo_pushI 25 4 (zz_ev tX10_isGone) L st M) ∧
  (∀ (L : zzLc) (a0 a1 : Int32) (r : List Value) (M : zzMd), zz_ev tX10_isGone 4 L (.int a1 :: .int a0 :: .ref 8 :: r) M = bif zz_cat8 r then zz_backN (zz_ev tX10_isGone) 7 L r (fX10_read [.ref 8, .int a0, .int a1] M) else none) ∧
  (∀ (L : zzLc) (a0 a1 : Int32) (r : List Value) (M : zzMd), zz_ev tX10_isGone 4 L (.int a1 :: .int a0 :: .ref 3 :: r) M = bif zz_cat8 r then zz_backN (zz_ev tX10_isGone) 7 L r (fX10_read [.ref 3, .int a0, .int a1] M) else none) ∧
  (∀ (L : zzLc) (a0 a1 : Int32) (r : List Value) (M : zzMd), zz_ev tX10_isGone 4 L (.int a1 :: .int a0 :: .ref 4 :: r) M = bif zz_cat8 r then zz_backN (zz_ev tX10_isGone) 7 L r (fX10_read [.ref 4, .int a0, .int a1] M) else none) ∧
  (∀ (L : zzLc) (a0 a1 : Int32) (r : List Value) (M : zzMd), zz_ev tX10_isGone 4 L (.int a1 :: .int a0 :: .ref 5 :: r) M = bif zz_cat8 r then zz_backN (zz_ev tX10_isGone) 7 L r (fX10_read [.ref 5, .int a0, .int a1] M) else none) ∧
  (∀ (L : zzLc) (a0 a1 : Int32) (r : List Value) (M : zzMd), zz_ev tX10_isGone 4 L (.int a1 :: .int a0 :: .ref 9 :: r) M = bif zz_cat8 r then zz_backN (zz_ev tX10_isGone) 7 L r (fX10_read [.ref 9, .int a0, .int a1] M) else none) ∧
  (∀ (L : zzLc) (a0 a1 : Int32) (r : List Value) (M : zzMd), zz_ev tX10_isGone 4 L (.int a1 :: .int a0 :: .ref 7 :: r) M = bif zz_cat8 r then zz_backN (zz_ev tX10_isGone) 7 L r (fX10_read [.ref 7, .int a0, .int a1] M) else none) ∧
  (∀ (L : zzLc) (a0 a1 : Int32) (r : List Value) (M : zzMd), zz_ev tX10_isGone 4 L (.int a1 :: .int a0 :: .ref 10 :: r) M = bif zz_cat8 r then zz_backN (zz_ev tX10_isGone) 7 L r (fX10_read [.ref 10, .int a0, .int a1] M) else none) ∧
  (∀ (L : zzLc) (a0 a1 : Int32) (r : List Value) (M : zzMd), zz_ev tX10_isGone 4 L (.int a1 :: .int a0 :: .ref 6 :: r) M = bif zz_cat8 r then zz_backN (zz_ev tX10_isGone) 7 L r (fX10_read [.ref 6, .int a0, .int a1] M) else none) ∧
  (∀ (L : zzLc) (a0 a1 : Int32) (r : List Value) (M : zzMd), zz_ev tX10_isGone 4 L (.int a1 :: .int a0 :: .ref 1 :: r) M = bif zz_cat8 r then zz_backN (zz_ev tX10_isGone) 7 L r (fX10_read [.ref 1, .int a0, .int a1] M) else none) ∧
  (∀ L st M, zz_ev tX10_isGone 7 L st M = zo_pushI 4 8 (zz_ev tX10_isGone) L st M) ∧
  (∀ L st M, zz_ev tX10_isGone 8 L st M = zo_icmp (fun x y => decide (¬ x = y)) 15 11 (zz_ev tX10_isGone) L st M) ∧
  (∀ L st M, zz_ev tX10_isGone 11 L st M = zo_pushI 1 12 (zz_ev tX10_isGone) L st M) ∧
  (∀ L st M, zz_ev tX10_isGone 12 L st M = zo_goto 16 (zz_ev tX10_isGone) L st M) ∧
  (∀ L st M, zz_ev tX10_isGone 15 L st M = zo_pushI 0 16 (zz_ev tX10_isGone) L st M) ∧
  (∀ L st M, zz_ev tX10_isGone 16 L st M = zo_iret true (zz_ev tX10_isGone) L st M) :=
  ⟨zz_1 rfl tl_X10_isGone, zz_1 rfl tl_X10_isGone, zz_1 rfl tl_X10_isGone, fun L a0 a1 r M => (zz_1 rfl tl_X10_isGone _ _ _).trans rfl, fun L a0 a1 r M => (zz_1 rfl tl_X10_isGone _ _ _).trans rfl, fun L a0 a1 r M => (zz_1 rfl tl_X10_isGone _ _ _).trans rfl, fun L a0 a1 r M => (zz_1 rfl tl_X10_isGone _ _ _).trans rfl, fun L a0 a1 r M => (zz_1 rfl tl_X10_isGone _ _ _).trans rfl, fun L a0 a1 r M => (zz_1 rfl tl_X10_isGone _ _ _).trans rfl, fun L a0 a1 r M => (zz_1 rfl tl_X10_isGone _ _ _).trans rfl, fun L a0 a1 r M => (zz_1 rfl tl_X10_isGone _ _ _).trans rfl, fun L a0 a1 r M => (zz_1 rfl tl_X10_isGone _ _ _).trans rfl, zz_1 rfl tl_X10_isGone, zz_1 rfl tl_X10_isGone, zz_1 rfl tl_X10_isGone, zz_1 rfl tl_X10_isGone, zz_1 rfl tl_X10_isGone, zz_1 rfl tl_X10_isGone⟩
set_option maxRecDepth 100000 in
theorem s_X10_isGone (a0 : Int32) (v : Nat) (M : zzMd) : fX10_isGone [.ref v, .int a0] M = zz_ev tX10_isGone 0 [some (.ref v), some (.int a0)] [] M := rfl
set_option maxRecDepth 100000 in
theorem e_X10_latestOf : (∀ L st M, zz_ev tX10_latestOf 0 L st M = zo_iload 1 1 (zz_ev tX10_latestOf) L st M) ∧
  (∀ L st M, zz_ev tX10_latestOf 1 L st M = zo_if (fun x => decide (x < 0)) 10 4 (zz_ev tX10_latestOf) L st M) ∧
  (∀ L st M, zz_ev tX10_latestOf 4 L st M = zo_iload 1 5 (zz_ev tX10_latestOf) L st M) ∧
  (∀ L st M, zz_ev tX10_latestOf 5 L st M = zo_pushI 60 7 (zz_ev tX10_latestOf) L st M) ∧
  (∀ L st M, zz_ev tX10_latestOf 7 L st M = zo_icmp (fun x y => decide (x < y)) 14 10 (zz_ev tX10_latestOf) L st M) ∧
  (∀ L st M, zz_ev tX10_latestOf 10 L st M = zo_pushI 0 11 (zz_ev tX10_latestOf) L st M) ∧
  (∀ L st M, zz_ev tX10_latestOf 11 L st M = zo_goto 20 (zz_ev tX10_latestOf) L st M) ∧
  (∀ L st M, zz_ev tX10_latestOf 14 L st M = zo_aload 0 15 (zz_ev tX10_latestOf) L st M) ∧
  (∀ (L : zzLc) (r : List Value) (M : zzMd), zz_ev tX10_latestOf 15 L (.ref 1 :: r) M = zz_ev tX10_latestOf 18 L (.ref 15 :: r) M) ∧
  (∀ (L : zzLc) (r : List Value) (M : zzMd), zz_ev tX10_latestOf 15 L (.ref 3 :: r) M = zz_ev tX10_latestOf 18 L (.ref 21 :: r) M) ∧
  (∀ (L : zzLc) (r : List Value) (M : zzMd), zz_ev tX10_latestOf 15 L (.ref 4 :: r) M = zz_ev tX10_latestOf 18 L (.ref 27 :: r) M) ∧
  (∀ (L : zzLc) (r : List Value) (M : zzMd), zz_ev tX10_latestOf 15 L (.ref 5 :: r) M = zz_ev tX10_latestOf 18 L (.ref 33 :: r) M) ∧
  (∀ (L : zzLc) (r : List Value) (M : zzMd), zz_ev tX10_latestOf 15 L (.ref 6 :: r) M = zz_ev tX10_latestOf 18 L (.ref 39 :: r) M) ∧
  (∀ (L : zzLc) (r : List Value) (M : zzMd), zz_ev tX10_latestOf 15 L (.ref 7 :: r) M = zz_ev tX10_latestOf 18 L (.ref 45 :: r) M) ∧
  (∀ (L : zzLc) (r : List Value) (M : zzMd), zz_ev tX10_latestOf 15 L (.ref 8 :: r) M = zz_ev tX10_latestOf 18 L (.ref 51 :: r) M) ∧
  (∀ (L : zzLc) (r : List Value) (M : zzMd), zz_ev tX10_latestOf 15 L (.ref 9 :: r) M = zz_ev tX10_latestOf 18 L (.ref 57 :: r) M) ∧
  (∀ (L : zzLc) (r : List Value) (M : zzMd), zz_ev tX10_latestOf 15 L (.ref 10 :: r) M = zz_ev tX10_latestOf 18 L (.ref 63 :: r) M) ∧
  (∀ L st M, zz_ev tX10_latestOf 18 L st M = zo_iload 1 19 (zz_ev tX10_latestOf) L st M) ∧
  (∀ L st M, zz_ev tX10_latestOf 19 L st M = zo_iald zzSC zzSTC 20 (zz_ev tX10_latestOf) L st M) ∧
  (∀ L st M, zz_ev tX10_latestOf 20 L st M = zo_iret false (zz_ev tX10_latestOf) L st M) :=
  ⟨zz_1 rfl tl_X10_latestOf, zz_1 rfl tl_X10_latestOf, zz_1 rfl tl_X10_latestOf, zz_1 rfl tl_X10_latestOf, zz_1 rfl tl_X10_latestOf, zz_1 rfl tl_X10_latestOf, zz_1 rfl tl_X10_latestOf, zz_1 rfl tl_X10_latestOf, fun L r M => (zz_1 rfl tl_X10_latestOf _ _ _).trans rfl, fun L r M => (zz_1 rfl tl_X10_latestOf _ _ _).trans rfl, fun L r M => (zz_1 rfl tl_X10_latestOf _ _ _).trans rfl, fun L r M => (zz_1 rfl tl_X10_latestOf _ _ _).trans rfl, fun L r M => (zz_1 rfl tl_X10_latestOf _ _ _).trans rfl, fun L r M => (zz_1 rfl tl_X10_latestOf _ _ _).trans rfl, fun L r M => (zz_1 rfl tl_X10_latestOf _ _ _).trans rfl, fun L r M => (zz_1 rfl tl_X10_latestOf _ _ _).trans rfl, fun L r M => (zz_1 rfl tl_X10_latestOf _ _ _).trans rfl, zz_1 rfl tl_X10_latestOf, zz_1 rfl tl_X10_latestOf, zz_1 rfl tl_X10_latestOf⟩
set_option maxRecDepth 100000 in
theorem s_X10_latestOf (a0 : Int32) (v : Nat) (M : zzMd) : fX10_latestOf [.ref v, .int a0] M = zz_ev tX10_latestOf 0 [some (.ref v), some (.int a0)] [] M := rfl
set_option maxRecDepth 100000 in
theorem e_X9_draftFrom : (∀ L st M, zz_ev tX9_draftFrom 0 L st M = zo_aload 0 1 (zz_ev tX9_draftFrom) L st M) ∧
  (∀ (L : zzLc) (r : List Value) (M : zzMd), zz_ev tX9_draftFrom 1 L (.ref 1 :: r) M = zz_ev tX9_draftFrom 4 L (.ref 14 :: r) M) ∧
  (∀ L st M, zz_ev tX9_draftFrom 4 L st M = zo_aload 0 5 (zz_ev tX9_draftFrom) L st M) ∧
  (∀ L st M, zz_ev tX9_draftFrom 5 L st M = zo_iload 1 6 (zz_ev tX9_draftFrom) L st M) ∧
  (∀ (L : zzLc) (a0 : Int32) (r : List Value) (M : zzMd), zz_ev tX9_draftFrom 6 L (.int a0 :: .ref 1 :: r) M = bif zz_cat8 r then zz_backN (zz_ev tX9_draftFrom) 9 L r (fX10_latestOf [.ref 1, .int a0] M) else none) ∧
  (∀ L st M, zz_ev tX9_draftFrom 9 L st M = zo_pushI 32 11 (zz_ev tX9_draftFrom) L st M) ∧
  (∀ L st M, zz_ev tX9_draftFrom 11 L st M = zo_ii (fun x y => x * y) 12 (zz_ev tX9_draftFrom) L st M) ∧
  (∀ L st M, zz_ev tX9_draftFrom 12 L st M = zo_aload 0 13 (zz_ev tX9_draftFrom) L st M) ∧
  (∀ (L : zzLc) (r : List Value) (M : zzMd), zz_ev tX9_draftFrom 13 L (.ref 1 :: r) M = zz_ev tX9_draftFrom 16 L (.ref 17 :: r) M) ∧
  (∀ L st M, zz_ev tX9_draftFrom 16 L st M = zo_pushI 0 17 (zz_ev tX9_draftFrom) L st M) ∧
  (∀ L st M, zz_ev tX9_draftFrom 17 L st M = zo_pushI 32 19 (zz_ev tX9_draftFrom) L st M) ∧
  (∀ L st M, zz_ev tX9_draftFrom 19 L st M = zo_copy zzSC 22 (zz_ev tX9_draftFrom) L st M) ∧
  (∀ L st M, zz_ev tX9_draftFrom 22 L st M = zo_ret (zz_ev tX9_draftFrom) L st M) :=
  ⟨zz_1 rfl tl_X9_draftFrom, fun L r M => (zz_1 rfl tl_X9_draftFrom _ _ _).trans rfl, zz_1 rfl tl_X9_draftFrom, zz_1 rfl tl_X9_draftFrom, fun L a0 r M => (zz_1 rfl tl_X9_draftFrom _ _ _).trans rfl, zz_1 rfl tl_X9_draftFrom, zz_1 rfl tl_X9_draftFrom, zz_1 rfl tl_X9_draftFrom, fun L r M => (zz_1 rfl tl_X9_draftFrom _ _ _).trans rfl, zz_1 rfl tl_X9_draftFrom, zz_1 rfl tl_X9_draftFrom, zz_1 rfl tl_X9_draftFrom, zz_1 rfl tl_X9_draftFrom⟩
set_option maxRecDepth 100000 in
theorem s_X9_draftFrom (a0 : Int32) (v : Nat) (M : zzMd) : fX9_draftFrom [.ref v, .int a0] M = zz_ev tX9_draftFrom 0 [some (.ref v), some (.int a0)] [] M := rfl
set_option maxRecDepth 100000 in
theorem e_X10_isKept : (∀ L st M, zz_ev tX10_isKept 0 L st M = zo_aload 0 1 (zz_ev tX10_isKept) L st M) ∧
  (∀ L st M, zz_ev tX10_isKept 1 L st M = zo_iload 1 2 (zz_ev tX10_isKept) L st M) ∧
  (∀ L st M, zz_ev tX10_isKept 2 L st M = zo_pushI 26 4 (zz_ev tX10_isKept) L st M) ∧
  (∀ (L : zzLc) (a0 a1 : Int32) (r : List Value) (M : zzMd), zz_ev tX10_isKept 4 L (.int a1 :: .int a0 :: .ref 8 :: r) M = bif zz_cat8 r then zz_backN (zz_ev tX10_isKept) 7 L r (fX10_read [.ref 8, .int a0, .int a1] M) else none) ∧
  (∀ (L : zzLc) (a0 a1 : Int32) (r : List Value) (M : zzMd), zz_ev tX10_isKept 4 L (.int a1 :: .int a0 :: .ref 3 :: r) M = bif zz_cat8 r then zz_backN (zz_ev tX10_isKept) 7 L r (fX10_read [.ref 3, .int a0, .int a1] M) else none) ∧
  (∀ (L : zzLc) (a0 a1 : Int32) (r : List Value) (M : zzMd), zz_ev tX10_isKept 4 L (.int a1 :: .int a0 :: .ref 4 :: r) M = bif zz_cat8 r then zz_backN (zz_ev tX10_isKept) 7 L r (fX10_read [.ref 4, .int a0, .int a1] M) else none) ∧
  (∀ (L : zzLc) (a0 a1 : Int32) (r : List Value) (M : zzMd), zz_ev tX10_isKept 4 L (.int a1 :: .int a0 :: .ref 5 :: r) M = bif zz_cat8 r then zz_backN (zz_ev tX10_isKept) 7 L r (fX10_read [.ref 5, .int a0, .int a1] M) else none) ∧
  (∀ (L : zzLc) (a0 a1 : Int32) (r : List Value) (M : zzMd), zz_ev tX10_isKept 4 L (.int a1 :: .int a0 :: .ref 9 :: r) M = bif zz_cat8 r then zz_backN (zz_ev tX10_isKept) 7 L r (fX10_read [.ref 9, .int a0, .int a1] M) else none) ∧
  (∀ (L : zzLc) (a0 a1 : Int32) (r : List Value) (M : zzMd), zz_ev tX10_isKept 4 L (.int a1 :: .int a0 :: .ref 7 :: r) M = bif zz_cat8 r then zz_backN (zz_ev tX10_isKept) 7 L r (fX10_read [.ref 7, .int a0, .int a1] M) else none) ∧
  (∀ (L : zzLc) (a0 a1 : Int32) (r : List Value) (M : zzMd), zz_ev tX10_isKept 4 L (.int a1 :: .int a0 :: .ref 10 :: r) M = bif zz_cat8 r then zz_backN (zz_ev tX10_isKept) 7 L r (fX10_read [.ref 10, .int a0, .int a1] M) else none) ∧
  (∀ (L : zzLc) (a0 a1 : Int32) (r : List Value) (M : zzMd), zz_ev tX10_isKept 4 L (.int a1 :: .int a0 :: .ref 6 :: r) M = bif zz_cat8 r then zz_backN (zz_ev tX10_isKept) 7 L r (fX10_read [.ref 6, .int a0, .int a1] M) else none) ∧
  (∀ (L : zzLc) (a0 a1 : Int32) (r : List Value) (M : zzMd), zz_ev tX10_isKept 4 L (.int a1 :: .int a0 :: .ref 1 :: r) M = bif zz_cat8 r then zz_backN (zz_ev tX10_isKept) 7 L r (fX10_read [.ref 1, .int a0, .int a1] M) else none) ∧
  (∀ L st M, zz_ev tX10_isKept 7 L st M = zo_pushI 1 8 (zz_ev tX10_isKept) L st M) ∧
  (∀ L st M, zz_ev tX10_isKept 8 L st M = zo_icmp (fun x y => decide (x = y)) 22 11 (zz_ev tX10_isKept) L st M) ∧
  (∀ L st M, zz_ev tX10_isKept 11 L st M = zo_aload 0 12 (zz_ev tX10_isKept) L st M) ∧
  (∀ L st M, zz_ev tX10_isKept 12 L st M = zo_iload 1 13 (zz_ev tX10_isKept) L st M) ∧
  (∀ L st M, zz_ev tX10_isKept 13 L st M = zo_pushI 28 15 (zz_ev tX10_isKept) L st M) ∧
  (∀ (L : zzLc) (a0 a1 : Int32) (r : List Value) (M : zzMd), zz_ev tX10_isKept 15 L (.int a1 :: .int a0 :: .ref 8 :: r) M = bif zz_cat8 r then zz_backN (zz_ev tX10_isKept) 18 L r (fX10_read [.ref 8, .int a0, .int a1] M) else none) ∧
  (∀ (L : zzLc) (a0 a1 : Int32) (r : List Value) (M : zzMd), zz_ev tX10_isKept 15 L (.int a1 :: .int a0 :: .ref 3 :: r) M = bif zz_cat8 r then zz_backN (zz_ev tX10_isKept) 18 L r (fX10_read [.ref 3, .int a0, .int a1] M) else none) ∧
  (∀ (L : zzLc) (a0 a1 : Int32) (r : List Value) (M : zzMd), zz_ev tX10_isKept 15 L (.int a1 :: .int a0 :: .ref 4 :: r) M = bif zz_cat8 r then zz_backN (zz_ev tX10_isKept) 18 L r (fX10_read [.ref 4, .int a0, .int a1] M) else none) ∧
  (∀ (L : zzLc) (a0 a1 : Int32) (r : List Value) (M : zzMd), zz_ev tX10_isKept 15 L (.int a1 :: .int a0 :: .ref 5 :: r) M = bif zz_cat8 r then zz_backN (zz_ev tX10_isKept) 18 L r (fX10_read [.ref 5, .int a0, .int a1] M) else none) ∧
  (∀ (L : zzLc) (a0 a1 : Int32) (r : List Value) (M : zzMd), zz_ev tX10_isKept 15 L (.int a1 :: .int a0 :: .ref 9 :: r) M = bif zz_cat8 r then zz_backN (zz_ev tX10_isKept) 18 L r (fX10_read [.ref 9, .int a0, .int a1] M) else none) ∧
  (∀ (L : zzLc) (a0 a1 : Int32) (r : List Value) (M : zzMd), zz_ev tX10_isKept 15 L (.int a1 :: .int a0 :: .ref 7 :: r) M = bif zz_cat8 r then zz_backN (zz_ev tX10_isKept) 18 L r (fX10_read [.ref 7, .int a0, .int a1] M) else none) ∧
  (∀ (L : zzLc) (a0 a1 : Int32) (r : List Value) (M : zzMd), zz_ev tX10_isKept 15 L (.int a1 :: .int a0 :: .ref 10 :: r) M = bif zz_cat8 r then zz_backN (zz_ev tX10_isKept) 18 L r (fX10_read [.ref 10, .int a0, .int a1] M) else none) ∧
  (∀ (L : zzLc) (a0 a1 : Int32) (r : List Value) (M : zzMd), zz_ev tX10_isKept 15 L (.int a1 :: .int a0 :: .ref 6 :: r) M = bif zz_cat8 r then zz_backN (zz_ev tX10_isKept) 18 L r (fX10_read [.ref 6, .int a0, .int a1] M) else none) ∧
  (∀ (L : zzLc) (a0 a1 : Int32) (r : List Value) (M : zzMd), zz_ev tX10_isKept 15 L (.int a1 :: .int a0 :: .ref 1 :: r) M = bif zz_cat8 r then zz_backN (zz_ev tX10_isKept) 18 L r (fX10_read [.ref 1, .int a0, .int a1] M) else none) ∧
  (∀ L st M, zz_ev tX10_isKept 18 L st M = zo_pushI (-1) 19 (zz_ev tX10_isKept) L st M) ∧
  (∀ L st M, zz_ev tX10_isKept 19 L st M = zo_icmp (fun x y => decide (x = y)) 26 22 (zz_ev tX10_isKept) L st M) ∧
  (∀ L st M, zz_ev tX10_isKept 22 L st M = zo_pushI 1 23 (zz_ev tX10_isKept) L st M) ∧
  (∀ L st M, zz_ev tX10_isKept 23 L st M = zo_goto 27 (zz_ev tX10_isKept) L st M) ∧
  (∀ L st M, zz_ev tX10_isKept 26 L st M = zo_pushI 0 27 (zz_ev tX10_isKept) L st M) ∧
  (∀ L st M, zz_ev tX10_isKept 27 L st M = zo_iret true (zz_ev tX10_isKept) L st M) :=
  ⟨zz_1 rfl tl_X10_isKept, zz_1 rfl tl_X10_isKept, zz_1 rfl tl_X10_isKept, fun L a0 a1 r M => (zz_1 rfl tl_X10_isKept _ _ _).trans rfl, fun L a0 a1 r M => (zz_1 rfl tl_X10_isKept _ _ _).trans rfl, fun L a0 a1 r M => (zz_1 rfl tl_X10_isKept _ _ _).trans rfl, fun L a0 a1 r M => (zz_1 rfl tl_X10_isKept _ _ _).trans rfl, fun L a0 a1 r M => (zz_1 rfl tl_X10_isKept _ _ _).trans rfl, fun L a0 a1 r M => (zz_1 rfl tl_X10_isKept _ _ _).trans rfl, fun L a0 a1 r M => (zz_1 rfl tl_X10_isKept _ _ _).trans rfl, fun L a0 a1 r M => (zz_1 rfl tl_X10_isKept _ _ _).trans rfl, fun L a0 a1 r M => (zz_1 rfl tl_X10_isKept _ _ _).trans rfl, zz_1 rfl tl_X10_isKept, zz_1 rfl tl_X10_isKept, zz_1 rfl tl_X10_isKept, zz_1 rfl tl_X10_isKept, zz_1 rfl tl_X10_isKept, fun L a0 a1 r M => (zz_1 rfl tl_X10_isKept _ _ _).trans rfl, fun L a0 a1 r M => (zz_1 rfl tl_X10_isKept _ _ _).trans rfl, fun L a0 a1 r M => (zz_1 rfl tl_X10_isKept _ _ _).trans rfl, fun L a0 a1 r M => (zz_1 rfl tl_X10_isKept _ _ _).trans rfl, fun L a0 a1 r M => (zz_1 rfl tl_X10_isKept _ _ _).trans rfl, fun L a0 a1 r M => (zz_1 rfl tl_X10_isKept _ _ _).trans rfl, fun L a0 a1 r M => (zz_1 rfl tl_X10_isKept _ _ _).trans rfl, fun L a0 a1 r M => (zz_1 rfl tl_X10_isKept _ _ _).trans rfl, fun L a0 a1 r M => (zz_1 rfl tl_X10_isKept _ _ _).trans rfl, zz_1 rfl tl_X10_isKept, zz_1 rfl tl_X10_isKept, zz_1 rfl tl_X10_isKept, zz_1 rfl tl_X10_isKept, zz_1 rfl tl_X10_isKept, zz_1 rfl tl_X10_isKept⟩
set_option maxRecDepth 100000 in
theorem s_X10_isKept (a0 : Int32) (v : Nat) (M : zzMd) : fX10_isKept [.ref v, .int a0] M = zz_ev tX10_isKept 0 [some (.ref v), some (.int a0)] [] M := rfl
set_option maxRecDepth 100000 in
theorem e_X9_isDraftAs : (∀ L st M, zz_ev tX9_isDraftAs 0 L st M = zo_pushI 0 1 (zz_ev tX9_isDraftAs) L st M) ∧
  (∀ L st M, zz_ev tX9_isDraftAs 1 L st M = zo_istore 2 2 (zz_ev tX9_isDraftAs) L st M) ∧
  (∀ L st M, zz_ev tX9_isDraftAs 3 L st M = zo_pushI 32 5 (zz_ev tX9_isDraftAs) L st M) ∧
  (∀ L st M, zz_ev tX9_isDraftAs 5 L st M = zo_icmp (fun x y => decide (y ≤ x)) 36 8 (zz_ev tX9_isDraftAs) L st M) ∧
  (∀ L st M, zz_ev tX9_isDraftAs 8 L st M = zo_aload 0 9 (zz_ev tX9_isDraftAs) L st M) ∧
  (∀ (L : zzLc) (r : List Value) (M : zzMd), zz_ev tX9_isDraftAs 9 L (.ref 1 :: r) M = zz_ev tX9_isDraftAs 12 L (.ref 17 :: r) M) ∧
  (∀ L st M, zz_ev tX9_isDraftAs 12 L st M = zo_iload 2 13 (zz_ev tX9_isDraftAs) L st M) ∧
  (∀ L st M, zz_ev tX9_isDraftAs 13 L st M = zo_iald zzSC zzSTC 14 (zz_ev tX9_isDraftAs) L st M) ∧
  (∀ L st M, zz_ev tX9_isDraftAs 14 L st M = zo_aload 0 15 (zz_ev tX9_isDraftAs) L st M) ∧
  (∀ (L : zzLc) (r : List Value) (M : zzMd), zz_ev tX9_isDraftAs 15 L (.ref 1 :: r) M = zz_ev tX9_isDraftAs 18 L (.ref 14 :: r) M) ∧
  (∀ L st M, zz_ev tX9_isDraftAs 18 L st M = zo_iload 1 19 (zz_ev tX9_isDraftAs) L st M) ∧
  (∀ L st M, zz_ev tX9_isDraftAs 19 L st M = zo_pushI 32 21 (zz_ev tX9_isDraftAs) L st M) ∧
  (∀ L st M, zz_ev tX9_isDraftAs 21 L st M = zo_ii (fun x y => x * y) 22 (zz_ev tX9_isDraftAs) L st M) ∧
  (∀ L st M, zz_ev tX9_isDraftAs 22 L st M = zo_iload 2 23 (zz_ev tX9_isDraftAs) L st M) ∧
  (∀ L st M, zz_ev tX9_isDraftAs 23 L st M = zo_ii (fun x y => x + y) 24 (zz_ev tX9_isDraftAs) L st M) ∧
  (∀ L st M, zz_ev tX9_isDraftAs 24 L st M = zo_iald zzSC zzSTC 25 (zz_ev tX9_isDraftAs) L st M) ∧
  (∀ L st M, zz_ev tX9_isDraftAs 25 L st M = zo_icmp (fun x y => decide (x = y)) 30 28 (zz_ev tX9_isDraftAs) L st M) ∧
  (∀ L st M, zz_ev tX9_isDraftAs 28 L st M = zo_pushI 0 29 (zz_ev tX9_isDraftAs) L st M) ∧
  (∀ L st M, zz_ev tX9_isDraftAs 29 L st M = zo_iret true (zz_ev tX9_isDraftAs) L st M) ∧
  (∀ L st M, zz_ev tX9_isDraftAs 30 L st M = zo_iinc 2 1 33 (zz_ev tX9_isDraftAs) L st M) ∧
  (∀ L st M, zz_ev tX9_isDraftAs 33 L st M = zo_goto 2 (zz_ev tX9_isDraftAs) L st M) ∧
  (∀ L st M, zz_ev tX9_isDraftAs 36 L st M = zo_pushI 1 37 (zz_ev tX9_isDraftAs) L st M) ∧
  (∀ L st M, zz_ev tX9_isDraftAs 37 L st M = zo_iret true (zz_ev tX9_isDraftAs) L st M) :=
  ⟨zz_1 rfl tl_X9_isDraftAs, zz_1 rfl tl_X9_isDraftAs, zz_1 rfl tl_X9_isDraftAs, zz_1 rfl tl_X9_isDraftAs, zz_1 rfl tl_X9_isDraftAs, fun L r M => (zz_1 rfl tl_X9_isDraftAs _ _ _).trans rfl, zz_1 rfl tl_X9_isDraftAs, zz_1 rfl tl_X9_isDraftAs, zz_1 rfl tl_X9_isDraftAs, fun L r M => (zz_1 rfl tl_X9_isDraftAs _ _ _).trans rfl, zz_1 rfl tl_X9_isDraftAs, zz_1 rfl tl_X9_isDraftAs, zz_1 rfl tl_X9_isDraftAs, zz_1 rfl tl_X9_isDraftAs, zz_1 rfl tl_X9_isDraftAs, zz_1 rfl tl_X9_isDraftAs, zz_1 rfl tl_X9_isDraftAs, zz_1 rfl tl_X9_isDraftAs, zz_1 rfl tl_X9_isDraftAs, zz_1 rfl tl_X9_isDraftAs, zz_1 rfl tl_X9_isDraftAs, zz_1 rfl tl_X9_isDraftAs, zz_1 rfl tl_X9_isDraftAs⟩
set_option maxRecDepth 100000 in
theorem e_X9_isDraftAs_2 : (∀ L st M, zz_ev tX9_isDraftAs 2 L st M = zo_iload 2 3 (zz_ev tX9_isDraftAs) L st M) := zz_1 rfl tl_X9_isDraftAs
set_option maxRecDepth 100000 in
theorem s_X9_isDraftAs (a0 : Int32) (v : Nat) (M : zzMd) : fX9_isDraftAs [.ref v, .int a0] M = zz_ev tX9_isDraftAs 0 [some (.ref v), some (.int a0), none] [] M := rfl
set_option maxRecDepth 100000 in
theorem e_X10_takeIn : (∀ L st M, zz_ev tX10_takeIn 0 L st M = zo_iload 1 1 (zz_ev tX10_takeIn) L st M) ∧
  (∀ L st M, zz_ev tX10_takeIn 1 L st M = zo_if (fun x => decide (x < 0)) 22 4 (zz_ev tX10_takeIn) L st M) ∧
  (∀ L st M, zz_ev tX10_takeIn 4 L st M = zo_iload 1 5 (zz_ev tX10_takeIn) L st M) ∧
  (∀ L st M, zz_ev tX10_takeIn 5 L st M = zo_pushI 60 7 (zz_ev tX10_takeIn) L st M) ∧
  (∀ L st M, zz_ev tX10_takeIn 7 L st M = zo_icmp (fun x y => decide (y ≤ x)) 22 10 (zz_ev tX10_takeIn) L st M) ∧
  (∀ L st M, zz_ev tX10_takeIn 10 L st M = zo_iload 2 11 (zz_ev tX10_takeIn) L st M) ∧
  (∀ L st M, zz_ev tX10_takeIn 11 L st M = zo_pushI 1 12 (zz_ev tX10_takeIn) L st M) ∧
  (∀ L st M, zz_ev tX10_takeIn 12 L st M = zo_icmp (fun x y => decide (x < y)) 22 15 (zz_ev tX10_takeIn) L st M) ∧
  (∀ L st M, zz_ev tX10_takeIn 15 L st M = zo_iload 2 16 (zz_ev tX10_takeIn) L st M) ∧
  (∀ L st M, zz_ev tX10_takeIn 16 L st M = zo_pushI 400 19 (zz_ev tX10_takeIn) L st M) ∧
  (∀ L st M, zz_ev tX10_takeIn 19 L st M = zo_icmp (fun x y => decide (x ≤ y)) 23 22 (zz_ev tX10_takeIn) L st M) ∧
  (∀ L st M, zz_ev tX10_takeIn 22 L st M = zo_ret (zz_ev tX10_takeIn) L st M) ∧
  (∀ L st M, zz_ev tX10_takeIn 23 L st M = zo_aload 0 24 (zz_ev tX10_takeIn) L st M) ∧
  (∀ (L : zzLc) (r : List Value) (M : zzMd), zz_ev tX10_takeIn 24 L (.ref 1 :: r) M = zz_ev tX10_takeIn 27 L (.ref 15 :: r) M) ∧
  (∀ (L : zzLc) (r : List Value) (M : zzMd), zz_ev tX10_takeIn 24 L (.ref 3 :: r) M = zz_ev tX10_takeIn 27 L (.ref 21 :: r) M) ∧
  (∀ (L : zzLc) (r : List Value) (M : zzMd), zz_ev tX10_takeIn 24 L (.ref 4 :: r) M = zz_ev tX10_takeIn 27 L (.ref 27 :: r) M) ∧
  (∀ (L : zzLc) (r : List Value) (M : zzMd), zz_ev tX10_takeIn 24 L (.ref 5 :: r) M = zz_ev tX10_takeIn 27 L (.ref 33 :: r) M) ∧
  (∀ (L : zzLc) (r : List Value) (M : zzMd), zz_ev tX10_takeIn 24 L (.ref 6 :: r) M = zz_ev tX10_takeIn 27 L (.ref 39 :: r) M) ∧
  (∀ (L : zzLc) (r : List Value) (M : zzMd), zz_ev tX10_takeIn 24 L (.ref 7 :: r) M = zz_ev tX10_takeIn 27 L (.ref 45 :: r) M) ∧
  (∀ (L : zzLc) (r : List Value) (M : zzMd), zz_ev tX10_takeIn 24 L (.ref 8 :: r) M = zz_ev tX10_takeIn 27 L (.ref 51 :: r) M) ∧
  (∀ (L : zzLc) (r : List Value) (M : zzMd), zz_ev tX10_takeIn 24 L (.ref 9 :: r) M = zz_ev tX10_takeIn 27 L (.ref 57 :: r) M) ∧
  (∀ (L : zzLc) (r : List Value) (M : zzMd), zz_ev tX10_takeIn 24 L (.ref 10 :: r) M = zz_ev tX10_takeIn 27 L (.ref 63 :: r) M) ∧
  (∀ L st M, zz_ev tX10_takeIn 27 L st M = zo_iload 1 28 (zz_ev tX10_takeIn) L st M) ∧
  (∀ L st M, zz_ev tX10_takeIn 28 L st M = zo_iload 2 29 (zz_ev tX10_takeIn) L st M) ∧
  (∀ L st M, zz_ev tX10_takeIn 29 L st M = zo_iast zzSC 30 (zz_ev tX10_takeIn) L st M) ∧
  (∀ L st M, zz_ev tX10_takeIn 30 L st M = zo_aload 0 31 (zz_ev tX10_takeIn) L st M) ∧
  (∀ L st M, zz_ev tX10_takeIn 31 L st M = zo_iload 1 32 (zz_ev tX10_takeIn) L st M) ∧
  (∀ L st M, zz_ev tX10_takeIn 32 L st M = zo_aload 0 33 (zz_ev tX10_takeIn) L st M) ∧
  (∀ (L : zzLc) (r : List Value) (M : zzMd), zz_ev tX10_takeIn 33 L (.ref 1 :: r) M = zz_ev tX10_takeIn 36 L (.int (M.1 1 2) :: r) M) ∧
  (∀ (L : zzLc) (r : List Value) (M : zzMd), zz_ev tX10_takeIn 33 L (.ref 3 :: r) M = zz_ev tX10_takeIn 36 L (.int (M.1 3 2) :: r) M) ∧
  (∀ (L : zzLc) (r : List Value) (M : zzMd), zz_ev tX10_takeIn 33 L (.ref 4 :: r) M = zz_ev tX10_takeIn 36 L (.int (M.1 4 2) :: r) M) ∧
  (∀ (L : zzLc) (r : List Value) (M : zzMd), zz_ev tX10_takeIn 33 L (.ref 5 :: r) M = zz_ev tX10_takeIn 36 L (.int (M.1 5 2) :: r) M) ∧
  (∀ (L : zzLc) (r : List Value) (M : zzMd), zz_ev tX10_takeIn 33 L (.ref 6 :: r) M = zz_ev tX10_takeIn 36 L (.int (M.1 6 2) :: r) M) ∧
  (∀ (L : zzLc) (r : List Value) (M : zzMd), zz_ev tX10_takeIn 33 L (.ref 7 :: r) M = zz_ev tX10_takeIn 36 L (.int (M.1 7 2) :: r) M) ∧
  (∀ (L : zzLc) (r : List Value) (M : zzMd), zz_ev tX10_takeIn 33 L (.ref 8 :: r) M = zz_ev tX10_takeIn 36 L (.int (M.1 8 2) :: r) M) ∧
  (∀ (L : zzLc) (r : List Value) (M : zzMd), zz_ev tX10_takeIn 33 L (.ref 9 :: r) M = zz_ev tX10_takeIn 36 L (.int (M.1 9 2) :: r) M) ∧
  (∀ (L : zzLc) (r : List Value) (M : zzMd), zz_ev tX10_takeIn 33 L (.ref 10 :: r) M = zz_ev tX10_takeIn 36 L (.int (M.1 10 2) :: r) M) ∧
  (∀ L st M, zz_ev tX10_takeIn 36 L st M = zo_icmp (fun x y => decide (x < y)) 45 39 (zz_ev tX10_takeIn) L st M) ∧
  (∀ L st M, zz_ev tX10_takeIn 39 L st M = zo_iload 1 40 (zz_ev tX10_takeIn) L st M) ∧
  (∀ L st M, zz_ev tX10_takeIn 40 L st M = zo_pushI 1 41 (zz_ev tX10_takeIn) L st M) ∧
  (∀ L st M, zz_ev tX10_takeIn 41 L st M = zo_ii (fun x y => x + y) 42 (zz_ev tX10_takeIn) L st M) ∧
  (∀ L st M, zz_ev tX10_takeIn 42 L st M = zo_goto 49 (zz_ev tX10_takeIn) L st M) ∧
  (∀ L st M, zz_ev tX10_takeIn 45 L st M = zo_aload 0 46 (zz_ev tX10_takeIn) L st M) ∧
  (∀ (L : zzLc) (r : List Value) (M : zzMd), zz_ev tX10_takeIn 46 L (.ref 1 :: r) M = zz_ev tX10_takeIn 49 L (.int (M.1 1 2) :: r) M) ∧
  (∀ (L : zzLc) (r : List Value) (M : zzMd), zz_ev tX10_takeIn 46 L (.ref 3 :: r) M = zz_ev tX10_takeIn 49 L (.int (M.1 3 2) :: r) M) ∧
  (∀ (L : zzLc) (r : List Value) (M : zzMd), zz_ev tX10_takeIn 46 L (.ref 4 :: r) M = zz_ev tX10_takeIn 49 L (.int (M.1 4 2) :: r) M) ∧
  (∀ (L : zzLc) (r : List Value) (M : zzMd), zz_ev tX10_takeIn 46 L (.ref 5 :: r) M = zz_ev tX10_takeIn 49 L (.int (M.1 5 2) :: r) M) ∧
  (∀ (L : zzLc) (r : List Value) (M : zzMd), zz_ev tX10_takeIn 46 L (.ref 6 :: r) M = zz_ev tX10_takeIn 49 L (.int (M.1 6 2) :: r) M) ∧
  (∀ (L : zzLc) (r : List Value) (M : zzMd), zz_ev tX10_takeIn 46 L (.ref 7 :: r) M = zz_ev tX10_takeIn 49 L (.int (M.1 7 2) :: r) M) ∧
  (∀ (L : zzLc) (r : List Value) (M : zzMd), zz_ev tX10_takeIn 46 L (.ref 8 :: r) M = zz_ev tX10_takeIn 49 L (.int (M.1 8 2) :: r) M) ∧
  (∀ (L : zzLc) (r : List Value) (M : zzMd), zz_ev tX10_takeIn 46 L (.ref 9 :: r) M = zz_ev tX10_takeIn 49 L (.int (M.1 9 2) :: r) M) ∧
  (∀ (L : zzLc) (r : List Value) (M : zzMd), zz_ev tX10_takeIn 46 L (.ref 10 :: r) M = zz_ev tX10_takeIn 49 L (.int (M.1 10 2) :: r) M) ∧
  (∀ (L : zzLc) (x : Int32) (r : List Value) (M : zzMd), zz_ev tX10_takeIn 49 L (.int x :: .ref 1 :: r) M = zz_ev tX10_takeIn 52 L r (zz_sI M 1 2 x)) ∧
  (∀ (L : zzLc) (x : Int32) (r : List Value) (M : zzMd), zz_ev tX10_takeIn 49 L (.int x :: .ref 3 :: r) M = zz_ev tX10_takeIn 52 L r (zz_sI M 3 2 x)) ∧
  (∀ (L : zzLc) (x : Int32) (r : List Value) (M : zzMd), zz_ev tX10_takeIn 49 L (.int x :: .ref 4 :: r) M = zz_ev tX10_takeIn 52 L r (zz_sI M 4 2 x)) ∧
  (∀ (L : zzLc) (x : Int32) (r : List Value) (M : zzMd), zz_ev tX10_takeIn 49 L (.int x :: .ref 5 :: r) M = zz_ev tX10_takeIn 52 L r (zz_sI M 5 2 x)) ∧
  (∀ (L : zzLc) (x : Int32) (r : List Value) (M : zzMd), zz_ev tX10_takeIn 49 L (.int x :: .ref 6 :: r) M = zz_ev tX10_takeIn 52 L r (zz_sI M 6 2 x)) ∧
  (∀ (L : zzLc) (x : Int32) (r : List Value) (M : zzMd), zz_ev tX10_takeIn 49 L (.int x :: .ref 7 :: r) M = zz_ev tX10_takeIn 52 L r (zz_sI M 7 2 x)) ∧
  (∀ (L : zzLc) (x : Int32) (r : List Value) (M : zzMd), zz_ev tX10_takeIn 49 L (.int x :: .ref 8 :: r) M = zz_ev tX10_takeIn 52 L r (zz_sI M 8 2 x)) ∧
  (∀ (L : zzLc) (x : Int32) (r : List Value) (M : zzMd), zz_ev tX10_takeIn 49 L (.int x :: .ref 9 :: r) M = zz_ev tX10_takeIn 52 L r (zz_sI M 9 2 x)) ∧
  (∀ (L : zzLc) (x : Int32) (r : List Value) (M : zzMd), zz_ev tX10_takeIn 49 L (.int x :: .ref 10 :: r) M = zz_ev tX10_takeIn 52 L r (zz_sI M 10 2 x)) ∧
  (∀ L st M, zz_ev tX10_takeIn 52 L st M = zo_aload 0 53 (zz_ev tX10_takeIn) L st M) ∧
  (∀ L st M, zz_ev tX10_takeIn 53 L st M = zo_iload 2 54 (zz_ev tX10_takeIn) L st M) ∧
  (∀ (L : zzLc) (x : Int32) (r : List Value) (M : zzMd), zz_ev tX10_takeIn 54 L (.int x :: .ref 1 :: r) M = zz_ev tX10_takeIn 57 L r (zz_sI M 1 3 x)) ∧
  (∀ (L : zzLc) (x : Int32) (r : List Value) (M : zzMd), zz_ev tX10_takeIn 54 L (.int x :: .ref 3 :: r) M = zz_ev tX10_takeIn 57 L r (zz_sI M 3 3 x)) ∧
  (∀ (L : zzLc) (x : Int32) (r : List Value) (M : zzMd), zz_ev tX10_takeIn 54 L (.int x :: .ref 4 :: r) M = zz_ev tX10_takeIn 57 L r (zz_sI M 4 3 x)) ∧
  (∀ (L : zzLc) (x : Int32) (r : List Value) (M : zzMd), zz_ev tX10_takeIn 54 L (.int x :: .ref 5 :: r) M = zz_ev tX10_takeIn 57 L r (zz_sI M 5 3 x)) ∧
  (∀ (L : zzLc) (x : Int32) (r : List Value) (M : zzMd), zz_ev tX10_takeIn 54 L (.int x :: .ref 6 :: r) M = zz_ev tX10_takeIn 57 L r (zz_sI M 6 3 x)) ∧
  (∀ (L : zzLc) (x : Int32) (r : List Value) (M : zzMd), zz_ev tX10_takeIn 54 L (.int x :: .ref 7 :: r) M = zz_ev tX10_takeIn 57 L r (zz_sI M 7 3 x)) ∧
  (∀ (L : zzLc) (x : Int32) (r : List Value) (M : zzMd), zz_ev tX10_takeIn 54 L (.int x :: .ref 8 :: r) M = zz_ev tX10_takeIn 57 L r (zz_sI M 8 3 x)) ∧
  (∀ (L : zzLc) (x : Int32) (r : List Value) (M : zzMd), zz_ev tX10_takeIn 54 L (.int x :: .ref 9 :: r) M = zz_ev tX10_takeIn 57 L r (zz_sI M 9 3 x)) ∧
  (∀ (L : zzLc) (x : Int32) (r : List Value) (M : zzMd), zz_ev tX10_takeIn 54 L (.int x :: .ref 10 :: r) M = zz_ev tX10_takeIn 57 L r (zz_sI M 10 3 x)) ∧
  (∀ L st M, zz_ev tX10_takeIn 57 L st M = zo_ret (zz_ev tX10_takeIn) L st M) :=
  ⟨zz_1 rfl tl_X10_takeIn, zz_1 rfl tl_X10_takeIn, zz_1 rfl tl_X10_takeIn, zz_1 rfl tl_X10_takeIn, zz_1 rfl tl_X10_takeIn, zz_1 rfl tl_X10_takeIn, zz_1 rfl tl_X10_takeIn, zz_1 rfl tl_X10_takeIn, zz_1 rfl tl_X10_takeIn, zz_1 rfl tl_X10_takeIn, zz_1 rfl tl_X10_takeIn, zz_1 rfl tl_X10_takeIn, zz_1 rfl tl_X10_takeIn, fun L r M => (zz_1 rfl tl_X10_takeIn _ _ _).trans rfl, fun L r M => (zz_1 rfl tl_X10_takeIn _ _ _).trans rfl, fun L r M => (zz_1 rfl tl_X10_takeIn _ _ _).trans rfl, fun L r M => (zz_1 rfl tl_X10_takeIn _ _ _).trans rfl, fun L r M => (zz_1 rfl tl_X10_takeIn _ _ _).trans rfl, fun L r M => (zz_1 rfl tl_X10_takeIn _ _ _).trans rfl, fun L r M => (zz_1 rfl tl_X10_takeIn _ _ _).trans rfl, fun L r M => (zz_1 rfl tl_X10_takeIn _ _ _).trans rfl, fun L r M => (zz_1 rfl tl_X10_takeIn _ _ _).trans rfl, zz_1 rfl tl_X10_takeIn, zz_1 rfl tl_X10_takeIn, zz_1 rfl tl_X10_takeIn, zz_1 rfl tl_X10_takeIn, zz_1 rfl tl_X10_takeIn, zz_1 rfl tl_X10_takeIn, fun L r M => (zz_1 rfl tl_X10_takeIn _ _ _).trans rfl, fun L r M => (zz_1 rfl tl_X10_takeIn _ _ _).trans rfl, fun L r M => (zz_1 rfl tl_X10_takeIn _ _ _).trans rfl, fun L r M => (zz_1 rfl tl_X10_takeIn _ _ _).trans rfl, fun L r M => (zz_1 rfl tl_X10_takeIn _ _ _).trans rfl, fun L r M => (zz_1 rfl tl_X10_takeIn _ _ _).trans rfl, fun L r M => (zz_1 rfl tl_X10_takeIn _ _ _).trans rfl, fun L r M => (zz_1 rfl tl_X10_takeIn _ _ _).trans rfl, fun L r M => (zz_1 rfl tl_X10_takeIn _ _ _).trans rfl, zz_1 rfl tl_X10_takeIn, zz_1 rfl tl_X10_takeIn, zz_1 rfl tl_X10_takeIn, zz_1 rfl tl_X10_takeIn, zz_1 rfl tl_X10_takeIn, zz_1 rfl tl_X10_takeIn, fun L r M => (zz_1 rfl tl_X10_takeIn _ _ _).trans rfl, fun L r M => (zz_1 rfl tl_X10_takeIn _ _ _).trans rfl, fun L r M => (zz_1 rfl tl_X10_takeIn _ _ _).trans rfl, fun L r M => (zz_1 rfl tl_X10_takeIn _ _ _).trans rfl, fun L r M => (zz_1 rfl tl_X10_takeIn _ _ _).trans rfl, fun L r M => (zz_1 rfl tl_X10_takeIn _ _ _).trans rfl, fun L r M => (zz_1 rfl tl_X10_takeIn _ _ _).trans rfl, fun L r M => (zz_1 rfl tl_X10_takeIn _ _ _).trans rfl, fun L r M => (zz_1 rfl tl_X10_takeIn _ _ _).trans rfl, fun L x r M => (zz_1 rfl tl_X10_takeIn _ _ _).trans rfl, fun L x r M => (zz_1 rfl tl_X10_takeIn _ _ _).trans rfl, fun L x r M => (zz_1 rfl tl_X10_takeIn _ _ _).trans rfl, fun L x r M => (zz_1 rfl tl_X10_takeIn _ _ _).trans rfl, fun L x r M => (zz_1 rfl tl_X10_takeIn _ _ _).trans rfl, fun L x r M => (zz_1 rfl tl_X10_takeIn _ _ _).trans rfl, fun L x r M => (zz_1 rfl tl_X10_takeIn _ _ _).trans rfl, fun L x r M => (zz_1 rfl tl_X10_takeIn _ _ _).trans rfl, fun L x r M => (zz_1 rfl tl_X10_takeIn _ _ _).trans rfl, zz_1 rfl tl_X10_takeIn, zz_1 rfl tl_X10_takeIn, fun L x r M => (zz_1 rfl tl_X10_takeIn _ _ _).trans rfl, fun L x r M => (zz_1 rfl tl_X10_takeIn _ _ _).trans rfl, fun L x r M => (zz_1 rfl tl_X10_takeIn _ _ _).trans rfl, fun L x r M => (zz_1 rfl tl_X10_takeIn _ _ _).trans rfl, fun L x r M => (zz_1 rfl tl_X10_takeIn _ _ _).trans rfl, fun L x r M => (zz_1 rfl tl_X10_takeIn _ _ _).trans rfl, fun L x r M => (zz_1 rfl tl_X10_takeIn _ _ _).trans rfl, fun L x r M => (zz_1 rfl tl_X10_takeIn _ _ _).trans rfl, fun L x r M => (zz_1 rfl tl_X10_takeIn _ _ _).trans rfl, zz_1 rfl tl_X10_takeIn⟩
set_option maxRecDepth 100000 in
theorem s_X10_takeIn (a0 a1 : Int32) (v : Nat) (M : zzMd) : fX10_takeIn [.ref v, .int a0, .int a1] M = zz_ev tX10_takeIn 0 [some (.ref v), some (.int a0), some (.int a1)] [] M := rfl
set_option maxRecDepth 100000 in
theorem e_X9_write : (∀ L st M, zz_ev tX9_write 0 L st M = zo_aload 0 1 (zz_ev tX9_write) L st M) ∧
  (∀ (L : zzLc) (r : List Value) (M : zzMd), zz_ev tX9_write 1 L (.ref 1 :: r) M = zz_ev tX9_write 4 L (.ref 17 :: r) M) ∧
  (∀ L st M, zz_ev tX9_write 4 L st M = zo_pushI 25 6 (zz_ev tX9_write) L st M) ∧
  (∀ L st M, zz_ev tX9_write 6 L st M = zo_iald zzSC zzSTC 7 (zz_ev tX9_write) L st M) ∧
  (∀ L st M, zz_ev tX9_write 7 L st M = zo_pushI 4 8 (zz_ev tX9_write) L st M) ∧
  (∀ L st M, zz_ev tX9_write 8 L st M = zo_icmp (fun x y => decide (¬ x = y)) 19 11 (zz_ev tX9_write) L st M) ∧
  (∀ L st M, zz_ev tX9_write 11 L st M = zo_aload 0 12 (zz_ev tX9_write) L st M) ∧
  (∀ (L : zzLc) (r : List Value) (M : zzMd), zz_ev tX9_write 12 L (.ref 1 :: r) M = zz_ev tX9_write 15 L (.ref 17 :: r) M) ∧
  (∀ L st M, zz_ev tX9_write 15 L st M = zo_pushI 24 17 (zz_ev tX9_write) L st M) ∧
  (∀ L st M, zz_ev tX9_write 17 L st M = zo_pushI (-1) 18 (zz_ev tX9_write) L st M) ∧
  (∀ L st M, zz_ev tX9_write 18 L st M = zo_iast zzSC 19 (zz_ev tX9_write) L st M) ∧
  (∀ L st M, zz_ev tX9_write 19 L st M = zo_aload 0 20 (zz_ev tX9_write) L st M) ∧
  (∀ L st M, zz_ev tX9_write 20 L st M = zo_aload 0 21 (zz_ev tX9_write) L st M) ∧
  (∀ L st M, zz_ev tX9_write 21 L st M = zo_iload 1 22 (zz_ev tX9_write) L st M) ∧
  (∀ (L : zzLc) (a0 : Int32) (r : List Value) (M : zzMd), zz_ev tX9_write 22 L (.int a0 :: .ref 1 :: r) M = bif zz_cat8 r then zz_backN (zz_ev tX9_write) 25 L r (fX10_latestOf [.ref 1, .int a0] M) else none) ∧
  (∀ (L : zzLc) (a0 : Int32) (r : List Value) (M : zzMd), zz_ev tX9_write 25 L (.int a0 :: .ref 1 :: r) M = bif zz_cat8 r then zz_backN (zz_ev tX9_write) 28 L r (fX9_isDraftAs [.ref 1, .int a0] M) else none) ∧
  (∀ L st M, zz_ev tX9_write 28 L st M = zo_if (fun x => decide (x = 0)) 33 31 (zz_ev tX9_write) L st M) ∧
  (∀ L st M, zz_ev tX9_write 31 L st M = zo_pushI 1 32 (zz_ev tX9_write) L st M) ∧
  (∀ L st M, zz_ev tX9_write 32 L st M = zo_iret true (zz_ev tX9_write) L st M) ∧
  (∀ L st M, zz_ev tX9_write 33 L st M = zo_aload 0 34 (zz_ev tX9_write) L st M) ∧
  (∀ (L : zzLc) (r : List Value) (M : zzMd), zz_ev tX9_write 34 L (.ref 1 :: r) M = zz_ev tX9_write 37 L (.int (M.1 1 3) :: r) M) ∧
  (∀ L st M, zz_ev tX9_write 37 L st M = zo_pushI 400 40 (zz_ev tX9_write) L st M) ∧
  (∀ L st M, zz_ev tX9_write 40 L st M = zo_icmp (fun x y => decide (x < y)) 45 43 (zz_ev tX9_write) L st M) ∧
  (∀ L st M, zz_ev tX9_write 43 L st M = zo_pushI 0 44 (zz_ev tX9_write) L st M) ∧
  (∀ L st M, zz_ev tX9_write 44 L st M = zo_iret true (zz_ev tX9_write) L st M) ∧
  (∀ L st M, zz_ev tX9_write 45 L st M = zo_aload 0 46 (zz_ev tX9_write) L st M) ∧
  (∀ (L : zzLc) (r : List Value) (M : zzMd), zz_ev tX9_write 46 L (.ref 1 :: r) M = zz_ev tX9_write 49 L (.ref 17 :: r) M) ∧
  (∀ L st M, zz_ev tX9_write 49 L st M = zo_pushI 0 50 (zz_ev tX9_write) L st M) ∧
  (∀ L st M, zz_ev tX9_write 50 L st M = zo_aload 0 51 (zz_ev tX9_write) L st M) ∧
  (∀ (L : zzLc) (r : List Value) (M : zzMd), zz_ev tX9_write 51 L (.ref 1 :: r) M = zz_ev tX9_write 54 L (.ref 14 :: r) M) ∧
  (∀ L st M, zz_ev tX9_write 54 L st M = zo_aload 0 55 (zz_ev tX9_write) L st M) ∧
  (∀ (L : zzLc) (r : List Value) (M : zzMd), zz_ev tX9_write 55 L (.ref 1 :: r) M = zz_ev tX9_write 58 L (.int (M.1 1 3) :: r) M) ∧
  (∀ L st M, zz_ev tX9_write 58 L st M = zo_pushI 1 59 (zz_ev tX9_write) L st M) ∧
  (∀ L st M, zz_ev tX9_write 59 L st M = zo_ii (fun x y => x + y) 60 (zz_ev tX9_write) L st M) ∧
  (∀ L st M, zz_ev tX9_write 60 L st M = zo_pushI 32 62 (zz_ev tX9_write) L st M) ∧
  (∀ L st M, zz_ev tX9_write 62 L st M = zo_ii (fun x y => x * y) 63 (zz_ev tX9_write) L st M) ∧
  (∀ L st M, zz_ev tX9_write 63 L st M = zo_pushI 32 65 (zz_ev tX9_write) L st M) ∧
  (∀ L st M, zz_ev tX9_write 65 L st M = zo_copy zzSC 68 (zz_ev tX9_write) L st M) ∧
  (∀ L st M, zz_ev tX9_write 68 L st M = zo_aload 0 69 (zz_ev tX9_write) L st M) ∧
  (∀ L st M, zz_ev tX9_write 69 L st M = zo_iload 1 70 (zz_ev tX9_write) L st M) ∧
  (∀ L st M, zz_ev tX9_write 70 L st M = zo_aload 0 71 (zz_ev tX9_write) L st M) ∧
  (∀ (L : zzLc) (r : List Value) (M : zzMd), zz_ev tX9_write 71 L (.ref 1 :: r) M = zz_ev tX9_write 74 L (.int (M.1 1 3) :: r) M) ∧
  (∀ L st M, zz_ev tX9_write 74 L st M = zo_pushI 1 75 (zz_ev tX9_write) L st M) ∧
  (∀ L st M, zz_ev tX9_write 75 L st M = zo_ii (fun x y => x + y) 76 (zz_ev tX9_write) L st M) ∧
  (∀ (L : zzLc) (a0 a1 : Int32) (r : List Value) (M : zzMd), zz_ev tX9_write 76 L (.int a1 :: .int a0 :: .ref 1 :: r) M = bif zz_cat8 r then zz_backN (zz_ev tX9_write) 79 L r (fX10_takeIn [.ref 1, .int a0, .int a1] M) else none) ∧
  (∀ L st M, zz_ev tX9_write 79 L st M = zo_pushI 1 80 (zz_ev tX9_write) L st M) ∧
  (∀ L st M, zz_ev tX9_write 80 L st M = zo_iret true (zz_ev tX9_write) L st M) :=
  ⟨zz_1 rfl tl_X9_write, fun L r M => (zz_1 rfl tl_X9_write _ _ _).trans rfl, zz_1 rfl tl_X9_write, zz_1 rfl tl_X9_write, zz_1 rfl tl_X9_write, zz_1 rfl tl_X9_write, zz_1 rfl tl_X9_write, fun L r M => (zz_1 rfl tl_X9_write _ _ _).trans rfl, zz_1 rfl tl_X9_write, zz_1 rfl tl_X9_write, zz_1 rfl tl_X9_write, zz_1 rfl tl_X9_write, zz_1 rfl tl_X9_write, zz_1 rfl tl_X9_write, fun L a0 r M => (zz_1 rfl tl_X9_write _ _ _).trans rfl, fun L a0 r M => (zz_1 rfl tl_X9_write _ _ _).trans rfl, zz_1 rfl tl_X9_write, zz_1 rfl tl_X9_write, zz_1 rfl tl_X9_write, zz_1 rfl tl_X9_write, fun L r M => (zz_1 rfl tl_X9_write _ _ _).trans rfl, zz_1 rfl tl_X9_write, zz_1 rfl tl_X9_write, zz_1 rfl tl_X9_write, zz_1 rfl tl_X9_write, zz_1 rfl tl_X9_write, fun L r M => (zz_1 rfl tl_X9_write _ _ _).trans rfl, zz_1 rfl tl_X9_write, zz_1 rfl tl_X9_write, fun L r M => (zz_1 rfl tl_X9_write _ _ _).trans rfl, zz_1 rfl tl_X9_write, fun L r M => (zz_1 rfl tl_X9_write _ _ _).trans rfl, zz_1 rfl tl_X9_write, zz_1 rfl tl_X9_write, zz_1 rfl tl_X9_write, zz_1 rfl tl_X9_write, zz_1 rfl tl_X9_write, zz_1 rfl tl_X9_write, zz_1 rfl tl_X9_write, zz_1 rfl tl_X9_write, zz_1 rfl tl_X9_write, fun L r M => (zz_1 rfl tl_X9_write _ _ _).trans rfl, zz_1 rfl tl_X9_write, zz_1 rfl tl_X9_write, fun L a0 a1 r M => (zz_1 rfl tl_X9_write _ _ _).trans rfl, zz_1 rfl tl_X9_write, zz_1 rfl tl_X9_write⟩
set_option maxRecDepth 100000 in
theorem s_X9_write (a0 : Int32) (v : Nat) (M : zzMd) : fX9_write [.ref v, .int a0] M = zz_ev tX9_write 0 [some (.ref v), some (.int a0)] [] M := rfl
set_option maxRecDepth 100000 in
theorem e_X9_startGoing : (∀ L st M, zz_ev tX9_startGoing 0 L st M = zo_aload 0 1 (zz_ev tX9_startGoing) L st M) ∧
  (∀ L st M, zz_ev tX9_startGoing 1 L st M = zo_iload 1 2 (zz_ev tX9_startGoing) L st M) ∧
  (∀ (L : zzLc) (a0 : Int32) (r : List Value) (M : zzMd), zz_ev tX9_startGoing 2 L (.int a0 :: .ref 1 :: r) M = bif zz_cat8 r then zz_backN (zz_ev tX9_startGoing) 5 L r (fX9_draftFrom [.ref 1, .int a0] M) else none) ∧
  (∀ L st M, zz_ev tX9_startGoing 5 L st M = zo_aload 0 6 (zz_ev tX9_startGoing) L st M) ∧
  (∀ (L : zzLc) (r : List Value) (M : zzMd), zz_ev tX9_startGoing 6 L (.ref 1 :: r) M = zz_ev tX9_startGoing 9 L (.ref 17 :: r) M) ∧
  (∀ L st M, zz_ev tX9_startGoing 9 L st M = zo_pushI 25 11 (zz_ev tX9_startGoing) L st M) ∧
  (∀ L st M, zz_ev tX9_startGoing 11 L st M = zo_iload 2 12 (zz_ev tX9_startGoing) L st M) ∧
  (∀ L st M, zz_ev tX9_startGoing 12 L st M = zo_pushI 2 13 (zz_ev tX9_startGoing) L st M) ∧
  (∀ L st M, zz_ev tX9_startGoing 13 L st M = zo_icmp (fun x y => decide (¬ x = y)) 28 16 (zz_ev tX9_startGoing) L st M) ∧
  (∀ L st M, zz_ev tX9_startGoing 16 L st M = zo_aload 0 17 (zz_ev tX9_startGoing) L st M) ∧
  (∀ L st M, zz_ev tX9_startGoing 17 L st M = zo_iload 1 18 (zz_ev tX9_startGoing) L st M) ∧
  (∀ (L : zzLc) (a0 : Int32) (r : List Value) (M : zzMd), zz_ev tX9_startGoing 18 L (.int a0 :: .ref 1 :: r) M = bif zz_cat8 r then zz_backN (zz_ev tX9_startGoing) 21 L r (fX10_isKept [.ref 1, .int a0] M) else none) ∧
  (∀ L st M, zz_ev tX9_startGoing 21 L st M = zo_if (fun x => decide (¬ x = 0)) 28 24 (zz_ev tX9_startGoing) L st M) ∧
  (∀ L st M, zz_ev tX9_startGoing 24 L st M = zo_pushI 4 25 (zz_ev tX9_startGoing) L st M) ∧
  (∀ L st M, zz_ev tX9_startGoing 25 L st M = zo_goto 29 (zz_ev tX9_startGoing) L st M) ∧
  (∀ L st M, zz_ev tX9_startGoing 28 L st M = zo_iload 2 29 (zz_ev tX9_startGoing) L st M) ∧
  (∀ L st M, zz_ev tX9_startGoing 29 L st M = zo_iast zzSC 30 (zz_ev tX9_startGoing) L st M) ∧
  (∀ L st M, zz_ev tX9_startGoing 30 L st M = zo_aload 0 31 (zz_ev tX9_startGoing) L st M) ∧
  (∀ L st M, zz_ev tX9_startGoing 31 L st M = zo_iload 1 32 (zz_ev tX9_startGoing) L st M) ∧
  (∀ (L : zzLc) (a0 : Int32) (r : List Value) (M : zzMd), zz_ev tX9_startGoing 32 L (.int a0 :: .ref 1 :: r) M = bif zz_cat8 r then zz_backN (zz_ev tX9_startGoing) 35 L r (fX9_write [.ref 1, .int a0] M) else none) ∧
  (∀ L st M, zz_ev tX9_startGoing 35 L st M = zo_iret true (zz_ev tX9_startGoing) L st M) :=
  ⟨zz_1 rfl tl_X9_startGoing, zz_1 rfl tl_X9_startGoing, fun L a0 r M => (zz_1 rfl tl_X9_startGoing _ _ _).trans rfl, zz_1 rfl tl_X9_startGoing, fun L r M => (zz_1 rfl tl_X9_startGoing _ _ _).trans rfl, zz_1 rfl tl_X9_startGoing, zz_1 rfl tl_X9_startGoing, zz_1 rfl tl_X9_startGoing, zz_1 rfl tl_X9_startGoing, zz_1 rfl tl_X9_startGoing, zz_1 rfl tl_X9_startGoing, fun L a0 r M => (zz_1 rfl tl_X9_startGoing _ _ _).trans rfl, zz_1 rfl tl_X9_startGoing, zz_1 rfl tl_X9_startGoing, zz_1 rfl tl_X9_startGoing, zz_1 rfl tl_X9_startGoing, zz_1 rfl tl_X9_startGoing, zz_1 rfl tl_X9_startGoing, zz_1 rfl tl_X9_startGoing, fun L a0 r M => (zz_1 rfl tl_X9_startGoing _ _ _).trans rfl, zz_1 rfl tl_X9_startGoing⟩
set_option maxRecDepth 100000 in
theorem s_X9_startGoing (a0 a1 : Int32) (v : Nat) (M : zzMd) : fX9_startGoing [.ref v, .int a0, .int a1] M = zz_ev tX9_startGoing 0 [some (.ref v), some (.int a0), some (.int a1)] [] M := rfl
set_option maxRecDepth 100000 in
theorem e_X9_change : (∀ L st M, zz_ev tX9_change 0 L st M = zo_iload 2 1 (zz_ev tX9_change) L st M) ∧
  (∀ L st M, zz_ev tX9_change 1 L st M = zo_if (fun x => decide (x < 0)) 10 4 (zz_ev tX9_change) L st M) ∧
  (∀ L st M, zz_ev tX9_change 4 L st M = zo_iload 2 5 (zz_ev tX9_change) L st M) ∧
  (∀ L st M, zz_ev tX9_change 5 L st M = zo_pushI 32 7 (zz_ev tX9_change) L st M) ∧
  (∀ L st M, zz_ev tX9_change 7 L st M = zo_icmp (fun x y => decide (x < y)) 12 10 (zz_ev tX9_change) L st M) ∧
  (∀ L st M, zz_ev tX9_change 10 L st M = zo_pushI 0 11 (zz_ev tX9_change) L st M) ∧
  (∀ L st M, zz_ev tX9_change 11 L st M = zo_iret true (zz_ev tX9_change) L st M) ∧
  (∀ L st M, zz_ev tX9_change 12 L st M = zo_aload 0 13 (zz_ev tX9_change) L st M) ∧
  (∀ L st M, zz_ev tX9_change 13 L st M = zo_iload 1 14 (zz_ev tX9_change) L st M) ∧
  (∀ (L : zzLc) (a0 : Int32) (r : List Value) (M : zzMd), zz_ev tX9_change 14 L (.int a0 :: .ref 1 :: r) M = bif zz_cat8 r then zz_backN (zz_ev tX9_change) 17 L r (fX9_draftFrom [.ref 1, .int a0] M) else none) ∧
  (∀ L st M, zz_ev tX9_change 17 L st M = zo_aload 0 18 (zz_ev tX9_change) L st M) ∧
  (∀ (L : zzLc) (r : List Value) (M : zzMd), zz_ev tX9_change 18 L (.ref 1 :: r) M = zz_ev tX9_change 21 L (.ref 17 :: r) M) ∧
  (∀ L st M, zz_ev tX9_change 21 L st M = zo_iload 2 22 (zz_ev tX9_change) L st M) ∧
  (∀ L st M, zz_ev tX9_change 22 L st M = zo_iload 3 23 (zz_ev tX9_change) L st M) ∧
  (∀ L st M, zz_ev tX9_change 23 L st M = zo_iast zzSC 24 (zz_ev tX9_change) L st M) ∧
  (∀ L st M, zz_ev tX9_change 24 L st M = zo_aload 0 25 (zz_ev tX9_change) L st M) ∧
  (∀ L st M, zz_ev tX9_change 25 L st M = zo_iload 1 26 (zz_ev tX9_change) L st M) ∧
  (∀ (L : zzLc) (a0 : Int32) (r : List Value) (M : zzMd), zz_ev tX9_change 26 L (.int a0 :: .ref 1 :: r) M = bif zz_cat8 r then zz_backN (zz_ev tX9_change) 29 L r (fX9_write [.ref 1, .int a0] M) else none) ∧
  (∀ L st M, zz_ev tX9_change 29 L st M = zo_iret true (zz_ev tX9_change) L st M) :=
  ⟨zz_1 rfl tl_X9_change, zz_1 rfl tl_X9_change, zz_1 rfl tl_X9_change, zz_1 rfl tl_X9_change, zz_1 rfl tl_X9_change, zz_1 rfl tl_X9_change, zz_1 rfl tl_X9_change, zz_1 rfl tl_X9_change, zz_1 rfl tl_X9_change, fun L a0 r M => (zz_1 rfl tl_X9_change _ _ _).trans rfl, zz_1 rfl tl_X9_change, fun L r M => (zz_1 rfl tl_X9_change _ _ _).trans rfl, zz_1 rfl tl_X9_change, zz_1 rfl tl_X9_change, zz_1 rfl tl_X9_change, zz_1 rfl tl_X9_change, zz_1 rfl tl_X9_change, fun L a0 r M => (zz_1 rfl tl_X9_change _ _ _).trans rfl, zz_1 rfl tl_X9_change⟩
set_option maxRecDepth 100000 in
theorem s_X9_change (a0 a1 a2 : Int32) (v : Nat) (M : zzMd) : fX9_change [.ref v, .int a0, .int a1, .int a2] M = zz_ev tX9_change 0 [some (.ref v), some (.int a0), some (.int a1), some (.int a2)] [] M := rfl
set_option maxRecDepth 100000 in
theorem e_X10_takeAll : (∀ L st M, zz_ev tX10_takeAll 0 L st M = zo_aload 1 1 (zz_ev tX10_takeAll) L st M) ∧
  (∀ (L : zzLc) (r : List Value) (M : zzMd), zz_ev tX10_takeAll 1 L (.ref 1 :: r) M = zz_ev tX10_takeAll 4 L (.ref 15 :: r) M) ∧
  (∀ (L : zzLc) (r : List Value) (M : zzMd), zz_ev tX10_takeAll 1 L (.ref 3 :: r) M = zz_ev tX10_takeAll 4 L (.ref 21 :: r) M) ∧
  (∀ (L : zzLc) (r : List Value) (M : zzMd), zz_ev tX10_takeAll 1 L (.ref 4 :: r) M = zz_ev tX10_takeAll 4 L (.ref 27 :: r) M) ∧
  (∀ (L : zzLc) (r : List Value) (M : zzMd), zz_ev tX10_takeAll 1 L (.ref 5 :: r) M = zz_ev tX10_takeAll 4 L (.ref 33 :: r) M) ∧
  (∀ (L : zzLc) (r : List Value) (M : zzMd), zz_ev tX10_takeAll 1 L (.ref 6 :: r) M = zz_ev tX10_takeAll 4 L (.ref 39 :: r) M) ∧
  (∀ (L : zzLc) (r : List Value) (M : zzMd), zz_ev tX10_takeAll 1 L (.ref 7 :: r) M = zz_ev tX10_takeAll 4 L (.ref 45 :: r) M) ∧
  (∀ (L : zzLc) (r : List Value) (M : zzMd), zz_ev tX10_takeAll 1 L (.ref 8 :: r) M = zz_ev tX10_takeAll 4 L (.ref 51 :: r) M) ∧
  (∀ (L : zzLc) (r : List Value) (M : zzMd), zz_ev tX10_takeAll 1 L (.ref 9 :: r) M = zz_ev tX10_takeAll 4 L (.ref 57 :: r) M) ∧
  (∀ (L : zzLc) (r : List Value) (M : zzMd), zz_ev tX10_takeAll 1 L (.ref 10 :: r) M = zz_ev tX10_takeAll 4 L (.ref 63 :: r) M) ∧
  (∀ L st M, zz_ev tX10_takeAll 4 L st M = zo_pushI 0 5 (zz_ev tX10_takeAll) L st M) ∧
  (∀ L st M, zz_ev tX10_takeAll 5 L st M = zo_aload 0 6 (zz_ev tX10_takeAll) L st M) ∧
  (∀ (L : zzLc) (r : List Value) (M : zzMd), zz_ev tX10_takeAll 6 L (.ref 1 :: r) M = zz_ev tX10_takeAll 9 L (.ref 15 :: r) M) ∧
  (∀ (L : zzLc) (r : List Value) (M : zzMd), zz_ev tX10_takeAll 6 L (.ref 3 :: r) M = zz_ev tX10_takeAll 9 L (.ref 21 :: r) M) ∧
  (∀ (L : zzLc) (r : List Value) (M : zzMd), zz_ev tX10_takeAll 6 L (.ref 4 :: r) M = zz_ev tX10_takeAll 9 L (.ref 27 :: r) M) ∧
  (∀ (L : zzLc) (r : List Value) (M : zzMd), zz_ev tX10_takeAll 6 L (.ref 5 :: r) M = zz_ev tX10_takeAll 9 L (.ref 33 :: r) M) ∧
  (∀ (L : zzLc) (r : List Value) (M : zzMd), zz_ev tX10_takeAll 6 L (.ref 6 :: r) M = zz_ev tX10_takeAll 9 L (.ref 39 :: r) M) ∧
  (∀ (L : zzLc) (r : List Value) (M : zzMd), zz_ev tX10_takeAll 6 L (.ref 7 :: r) M = zz_ev tX10_takeAll 9 L (.ref 45 :: r) M) ∧
  (∀ (L : zzLc) (r : List Value) (M : zzMd), zz_ev tX10_takeAll 6 L (.ref 8 :: r) M = zz_ev tX10_takeAll 9 L (.ref 51 :: r) M) ∧
  (∀ (L : zzLc) (r : List Value) (M : zzMd), zz_ev tX10_takeAll 6 L (.ref 9 :: r) M = zz_ev tX10_takeAll 9 L (.ref 57 :: r) M) ∧
  (∀ (L : zzLc) (r : List Value) (M : zzMd), zz_ev tX10_takeAll 6 L (.ref 10 :: r) M = zz_ev tX10_takeAll 9 L (.ref 63 :: r) M) ∧
  (∀ L st M, zz_ev tX10_takeAll 9 L st M = zo_pushI 0 10 (zz_ev tX10_takeAll) L st M) ∧
  (∀ L st M, zz_ev tX10_takeAll 10 L st M = zo_pushI 60 12 (zz_ev tX10_takeAll) L st M) ∧
  (∀ L st M, zz_ev tX10_takeAll 12 L st M = zo_copy zzSC 15 (zz_ev tX10_takeAll) L st M) ∧
  (∀ L st M, zz_ev tX10_takeAll 15 L st M = zo_aload 0 16 (zz_ev tX10_takeAll) L st M) ∧
  (∀ L st M, zz_ev tX10_takeAll 16 L st M = zo_aload 1 17 (zz_ev tX10_takeAll) L st M) ∧
  (∀ (L : zzLc) (r : List Value) (M : zzMd), zz_ev tX10_takeAll 17 L (.ref 1 :: r) M = zz_ev tX10_takeAll 20 L (.int (M.1 1 2) :: r) M) ∧
  (∀ (L : zzLc) (r : List Value) (M : zzMd), zz_ev tX10_takeAll 17 L (.ref 3 :: r) M = zz_ev tX10_takeAll 20 L (.int (M.1 3 2) :: r) M) ∧
  (∀ (L : zzLc) (r : List Value) (M : zzMd), zz_ev tX10_takeAll 17 L (.ref 4 :: r) M = zz_ev tX10_takeAll 20 L (.int (M.1 4 2) :: r) M) ∧
  (∀ (L : zzLc) (r : List Value) (M : zzMd), zz_ev tX10_takeAll 17 L (.ref 5 :: r) M = zz_ev tX10_takeAll 20 L (.int (M.1 5 2) :: r) M) ∧
  (∀ (L : zzLc) (r : List Value) (M : zzMd), zz_ev tX10_takeAll 17 L (.ref 6 :: r) M = zz_ev tX10_takeAll 20 L (.int (M.1 6 2) :: r) M) ∧
  (∀ (L : zzLc) (r : List Value) (M : zzMd), zz_ev tX10_takeAll 17 L (.ref 7 :: r) M = zz_ev tX10_takeAll 20 L (.int (M.1 7 2) :: r) M) ∧
  (∀ (L : zzLc) (r : List Value) (M : zzMd), zz_ev tX10_takeAll 17 L (.ref 8 :: r) M = zz_ev tX10_takeAll 20 L (.int (M.1 8 2) :: r) M) ∧
  (∀ (L : zzLc) (r : List Value) (M : zzMd), zz_ev tX10_takeAll 17 L (.ref 9 :: r) M = zz_ev tX10_takeAll 20 L (.int (M.1 9 2) :: r) M) ∧
  (∀ (L : zzLc) (r : List Value) (M : zzMd), zz_ev tX10_takeAll 17 L (.ref 10 :: r) M = zz_ev tX10_takeAll 20 L (.int (M.1 10 2) :: r) M) ∧
  (∀ (L : zzLc) (x : Int32) (r : List Value) (M : zzMd), zz_ev tX10_takeAll 20 L (.int x :: .ref 1 :: r) M = zz_ev tX10_takeAll 23 L r (zz_sI M 1 2 x)) ∧
  (∀ (L : zzLc) (x : Int32) (r : List Value) (M : zzMd), zz_ev tX10_takeAll 20 L (.int x :: .ref 3 :: r) M = zz_ev tX10_takeAll 23 L r (zz_sI M 3 2 x)) ∧
  (∀ (L : zzLc) (x : Int32) (r : List Value) (M : zzMd), zz_ev tX10_takeAll 20 L (.int x :: .ref 4 :: r) M = zz_ev tX10_takeAll 23 L r (zz_sI M 4 2 x)) ∧
  (∀ (L : zzLc) (x : Int32) (r : List Value) (M : zzMd), zz_ev tX10_takeAll 20 L (.int x :: .ref 5 :: r) M = zz_ev tX10_takeAll 23 L r (zz_sI M 5 2 x)) ∧
  (∀ (L : zzLc) (x : Int32) (r : List Value) (M : zzMd), zz_ev tX10_takeAll 20 L (.int x :: .ref 6 :: r) M = zz_ev tX10_takeAll 23 L r (zz_sI M 6 2 x)) ∧
  (∀ (L : zzLc) (x : Int32) (r : List Value) (M : zzMd), zz_ev tX10_takeAll 20 L (.int x :: .ref 7 :: r) M = zz_ev tX10_takeAll 23 L r (zz_sI M 7 2 x)) ∧
  (∀ (L : zzLc) (x : Int32) (r : List Value) (M : zzMd), zz_ev tX10_takeAll 20 L (.int x :: .ref 8 :: r) M = zz_ev tX10_takeAll 23 L r (zz_sI M 8 2 x)) ∧
  (∀ (L : zzLc) (x : Int32) (r : List Value) (M : zzMd), zz_ev tX10_takeAll 20 L (.int x :: .ref 9 :: r) M = zz_ev tX10_takeAll 23 L r (zz_sI M 9 2 x)) ∧
  (∀ (L : zzLc) (x : Int32) (r : List Value) (M : zzMd), zz_ev tX10_takeAll 20 L (.int x :: .ref 10 :: r) M = zz_ev tX10_takeAll 23 L r (zz_sI M 10 2 x)) ∧
  (∀ L st M, zz_ev tX10_takeAll 23 L st M = zo_aload 0 24 (zz_ev tX10_takeAll) L st M) ∧
  (∀ L st M, zz_ev tX10_takeAll 24 L st M = zo_aload 1 25 (zz_ev tX10_takeAll) L st M) ∧
  (∀ (L : zzLc) (r : List Value) (M : zzMd), zz_ev tX10_takeAll 25 L (.ref 1 :: r) M = zz_ev tX10_takeAll 28 L (.int (M.1 1 3) :: r) M) ∧
  (∀ (L : zzLc) (r : List Value) (M : zzMd), zz_ev tX10_takeAll 25 L (.ref 3 :: r) M = zz_ev tX10_takeAll 28 L (.int (M.1 3 3) :: r) M) ∧
  (∀ (L : zzLc) (r : List Value) (M : zzMd), zz_ev tX10_takeAll 25 L (.ref 4 :: r) M = zz_ev tX10_takeAll 28 L (.int (M.1 4 3) :: r) M) ∧
  (∀ (L : zzLc) (r : List Value) (M : zzMd), zz_ev tX10_takeAll 25 L (.ref 5 :: r) M = zz_ev tX10_takeAll 28 L (.int (M.1 5 3) :: r) M) ∧
  (∀ (L : zzLc) (r : List Value) (M : zzMd), zz_ev tX10_takeAll 25 L (.ref 6 :: r) M = zz_ev tX10_takeAll 28 L (.int (M.1 6 3) :: r) M) ∧
  (∀ (L : zzLc) (r : List Value) (M : zzMd), zz_ev tX10_takeAll 25 L (.ref 7 :: r) M = zz_ev tX10_takeAll 28 L (.int (M.1 7 3) :: r) M) ∧
  (∀ (L : zzLc) (r : List Value) (M : zzMd), zz_ev tX10_takeAll 25 L (.ref 8 :: r) M = zz_ev tX10_takeAll 28 L (.int (M.1 8 3) :: r) M) ∧
  (∀ (L : zzLc) (r : List Value) (M : zzMd), zz_ev tX10_takeAll 25 L (.ref 9 :: r) M = zz_ev tX10_takeAll 28 L (.int (M.1 9 3) :: r) M) ∧
  (∀ (L : zzLc) (r : List Value) (M : zzMd), zz_ev tX10_takeAll 25 L (.ref 10 :: r) M = zz_ev tX10_takeAll 28 L (.int (M.1 10 3) :: r) M) ∧
  (∀ (L : zzLc) (x : Int32) (r : List Value) (M : zzMd), zz_ev tX10_takeAll 28 L (.int x :: .ref 1 :: r) M = zz_ev tX10_takeAll 31 L r (zz_sI M 1 3 x)) ∧
  (∀ (L : zzLc) (x : Int32) (r : List Value) (M : zzMd), zz_ev tX10_takeAll 28 L (.int x :: .ref 3 :: r) M = zz_ev tX10_takeAll 31 L r (zz_sI M 3 3 x)) ∧
  (∀ (L : zzLc) (x : Int32) (r : List Value) (M : zzMd), zz_ev tX10_takeAll 28 L (.int x :: .ref 4 :: r) M = zz_ev tX10_takeAll 31 L r (zz_sI M 4 3 x)) ∧
  (∀ (L : zzLc) (x : Int32) (r : List Value) (M : zzMd), zz_ev tX10_takeAll 28 L (.int x :: .ref 5 :: r) M = zz_ev tX10_takeAll 31 L r (zz_sI M 5 3 x)) ∧
  (∀ (L : zzLc) (x : Int32) (r : List Value) (M : zzMd), zz_ev tX10_takeAll 28 L (.int x :: .ref 6 :: r) M = zz_ev tX10_takeAll 31 L r (zz_sI M 6 3 x)) ∧
  (∀ (L : zzLc) (x : Int32) (r : List Value) (M : zzMd), zz_ev tX10_takeAll 28 L (.int x :: .ref 7 :: r) M = zz_ev tX10_takeAll 31 L r (zz_sI M 7 3 x)) ∧
  (∀ (L : zzLc) (x : Int32) (r : List Value) (M : zzMd), zz_ev tX10_takeAll 28 L (.int x :: .ref 8 :: r) M = zz_ev tX10_takeAll 31 L r (zz_sI M 8 3 x)) ∧
  (∀ (L : zzLc) (x : Int32) (r : List Value) (M : zzMd), zz_ev tX10_takeAll 28 L (.int x :: .ref 9 :: r) M = zz_ev tX10_takeAll 31 L r (zz_sI M 9 3 x)) ∧
  (∀ (L : zzLc) (x : Int32) (r : List Value) (M : zzMd), zz_ev tX10_takeAll 28 L (.int x :: .ref 10 :: r) M = zz_ev tX10_takeAll 31 L r (zz_sI M 10 3 x)) ∧
  (∀ L st M, zz_ev tX10_takeAll 31 L st M = zo_ret (zz_ev tX10_takeAll) L st M) :=
  ⟨zz_1 rfl tl_X10_takeAll, fun L r M => (zz_1 rfl tl_X10_takeAll _ _ _).trans rfl, fun L r M => (zz_1 rfl tl_X10_takeAll _ _ _).trans rfl, fun L r M => (zz_1 rfl tl_X10_takeAll _ _ _).trans rfl, fun L r M => (zz_1 rfl tl_X10_takeAll _ _ _).trans rfl, fun L r M => (zz_1 rfl tl_X10_takeAll _ _ _).trans rfl, fun L r M => (zz_1 rfl tl_X10_takeAll _ _ _).trans rfl, fun L r M => (zz_1 rfl tl_X10_takeAll _ _ _).trans rfl, fun L r M => (zz_1 rfl tl_X10_takeAll _ _ _).trans rfl, fun L r M => (zz_1 rfl tl_X10_takeAll _ _ _).trans rfl, zz_1 rfl tl_X10_takeAll, zz_1 rfl tl_X10_takeAll, fun L r M => (zz_1 rfl tl_X10_takeAll _ _ _).trans rfl, fun L r M => (zz_1 rfl tl_X10_takeAll _ _ _).trans rfl, fun L r M => (zz_1 rfl tl_X10_takeAll _ _ _).trans rfl, fun L r M => (zz_1 rfl tl_X10_takeAll _ _ _).trans rfl, fun L r M => (zz_1 rfl tl_X10_takeAll _ _ _).trans rfl, fun L r M => (zz_1 rfl tl_X10_takeAll _ _ _).trans rfl, fun L r M => (zz_1 rfl tl_X10_takeAll _ _ _).trans rfl, fun L r M => (zz_1 rfl tl_X10_takeAll _ _ _).trans rfl, fun L r M => (zz_1 rfl tl_X10_takeAll _ _ _).trans rfl, zz_1 rfl tl_X10_takeAll, zz_1 rfl tl_X10_takeAll, zz_1 rfl tl_X10_takeAll, zz_1 rfl tl_X10_takeAll, zz_1 rfl tl_X10_takeAll, fun L r M => (zz_1 rfl tl_X10_takeAll _ _ _).trans rfl, fun L r M => (zz_1 rfl tl_X10_takeAll _ _ _).trans rfl, fun L r M => (zz_1 rfl tl_X10_takeAll _ _ _).trans rfl, fun L r M => (zz_1 rfl tl_X10_takeAll _ _ _).trans rfl, fun L r M => (zz_1 rfl tl_X10_takeAll _ _ _).trans rfl, fun L r M => (zz_1 rfl tl_X10_takeAll _ _ _).trans rfl, fun L r M => (zz_1 rfl tl_X10_takeAll _ _ _).trans rfl, fun L r M => (zz_1 rfl tl_X10_takeAll _ _ _).trans rfl, fun L r M => (zz_1 rfl tl_X10_takeAll _ _ _).trans rfl, fun L x r M => (zz_1 rfl tl_X10_takeAll _ _ _).trans rfl, fun L x r M => (zz_1 rfl tl_X10_takeAll _ _ _).trans rfl, fun L x r M => (zz_1 rfl tl_X10_takeAll _ _ _).trans rfl, fun L x r M => (zz_1 rfl tl_X10_takeAll _ _ _).trans rfl, fun L x r M => (zz_1 rfl tl_X10_takeAll _ _ _).trans rfl, fun L x r M => (zz_1 rfl tl_X10_takeAll _ _ _).trans rfl, fun L x r M => (zz_1 rfl tl_X10_takeAll _ _ _).trans rfl, fun L x r M => (zz_1 rfl tl_X10_takeAll _ _ _).trans rfl, fun L x r M => (zz_1 rfl tl_X10_takeAll _ _ _).trans rfl, zz_1 rfl tl_X10_takeAll, zz_1 rfl tl_X10_takeAll, fun L r M => (zz_1 rfl tl_X10_takeAll _ _ _).trans rfl, fun L r M => (zz_1 rfl tl_X10_takeAll _ _ _).trans rfl, fun L r M => (zz_1 rfl tl_X10_takeAll _ _ _).trans rfl, fun L r M => (zz_1 rfl tl_X10_takeAll _ _ _).trans rfl, fun L r M => (zz_1 rfl tl_X10_takeAll _ _ _).trans rfl, fun L r M => (zz_1 rfl tl_X10_takeAll _ _ _).trans rfl, fun L r M => (zz_1 rfl tl_X10_takeAll _ _ _).trans rfl, fun L r M => (zz_1 rfl tl_X10_takeAll _ _ _).trans rfl, fun L r M => (zz_1 rfl tl_X10_takeAll _ _ _).trans rfl, fun L x r M => (zz_1 rfl tl_X10_takeAll _ _ _).trans rfl, fun L x r M => (zz_1 rfl tl_X10_takeAll _ _ _).trans rfl, fun L x r M => (zz_1 rfl tl_X10_takeAll _ _ _).trans rfl, fun L x r M => (zz_1 rfl tl_X10_takeAll _ _ _).trans rfl, fun L x r M => (zz_1 rfl tl_X10_takeAll _ _ _).trans rfl, fun L x r M => (zz_1 rfl tl_X10_takeAll _ _ _).trans rfl, fun L x r M => (zz_1 rfl tl_X10_takeAll _ _ _).trans rfl, fun L x r M => (zz_1 rfl tl_X10_takeAll _ _ _).trans rfl, fun L x r M => (zz_1 rfl tl_X10_takeAll _ _ _).trans rfl, zz_1 rfl tl_X10_takeAll⟩
set_option maxRecDepth 100000 in
theorem s_X10_takeAll (v a0 : Nat) (M : zzMd) : fX10_takeAll [.ref v, .ref a0] M = zz_ev tX10_takeAll 0 [some (.ref v), some (.ref a0)] [] M := rfl
set_option maxRecDepth 100000 in
theorem e_X10_objectAt : (∀ L st M, zz_ev tX10_objectAt 0 L st M = zo_iload 1 1 (zz_ev tX10_objectAt) L st M) ∧
  (∀ L st M, zz_ev tX10_objectAt 1 L st M = zo_pushI 1 2 (zz_ev tX10_objectAt) L st M) ∧
  (∀ L st M, zz_ev tX10_objectAt 2 L st M = zo_icmp (fun x y => decide (x < y)) 12 5 (zz_ev tX10_objectAt) L st M) ∧
  (∀ L st M, zz_ev tX10_objectAt 5 L st M = zo_iload 1 6 (zz_ev tX10_objectAt) L st M) ∧
  (∀ L st M, zz_ev tX10_objectAt 6 L st M = zo_pushI 400 9 (zz_ev tX10_objectAt) L st M) ∧
  (∀ L st M, zz_ev tX10_objectAt 9 L st M = zo_icmp (fun x y => decide (x ≤ y)) 16 12 (zz_ev tX10_objectAt) L st M) ∧
  (∀ L st M, zz_ev tX10_objectAt 12 L st M = zo_pushI (-1) 13 (zz_ev tX10_objectAt) L st M) ∧
  (∀ L st M, zz_ev tX10_objectAt 13 L st M = zo_goto 28 (zz_ev tX10_objectAt) L st M) ∧
  (∀ L st M, zz_ev tX10_objectAt 16 L st M = zo_aload 0 17 (zz_ev tX10_objectAt) L st M) ∧
  (∀ (L : zzLc) (r : List Value) (M : zzMd), zz_ev tX10_objectAt 17 L (.ref 1 :: r) M = zz_ev tX10_objectAt 20 L (.ref 14 :: r) M) ∧
  (∀ (L : zzLc) (r : List Value) (M : zzMd), zz_ev tX10_objectAt 17 L (.ref 3 :: r) M = zz_ev tX10_objectAt 20 L (.ref 14 :: r) M) ∧
  (∀ (L : zzLc) (r : List Value) (M : zzMd), zz_ev tX10_objectAt 17 L (.ref 4 :: r) M = zz_ev tX10_objectAt 20 L (.ref 14 :: r) M) ∧
  (∀ (L : zzLc) (r : List Value) (M : zzMd), zz_ev tX10_objectAt 17 L (.ref 5 :: r) M = zz_ev tX10_objectAt 20 L (.ref 14 :: r) M) ∧
  (∀ (L : zzLc) (r : List Value) (M : zzMd), zz_ev tX10_objectAt 17 L (.ref 6 :: r) M = zz_ev tX10_objectAt 20 L (.ref 14 :: r) M) ∧
  (∀ (L : zzLc) (r : List Value) (M : zzMd), zz_ev tX10_objectAt 17 L (.ref 7 :: r) M = zz_ev tX10_objectAt 20 L (.ref 14 :: r) M) ∧
  (∀ (L : zzLc) (r : List Value) (M : zzMd), zz_ev tX10_objectAt 17 L (.ref 8 :: r) M = zz_ev tX10_objectAt 20 L (.ref 14 :: r) M) ∧
  (∀ (L : zzLc) (r : List Value) (M : zzMd), zz_ev tX10_objectAt 17 L (.ref 9 :: r) M = zz_ev tX10_objectAt 20 L (.ref 14 :: r) M) ∧
  (∀ (L : zzLc) (r : List Value) (M : zzMd), zz_ev tX10_objectAt 17 L (.ref 10 :: r) M = zz_ev tX10_objectAt 20 L (.ref 14 :: r) M) ∧
  (∀ L st M, zz_ev tX10_objectAt 20 L st M = zo_iload 1 21 (zz_ev tX10_objectAt) L st M) ∧
  (∀ L st M, zz_ev tX10_objectAt 21 L st M = zo_pushI 32 23 (zz_ev tX10_objectAt) L st M) ∧
  (∀ L st M, zz_ev tX10_objectAt 23 L st M = zo_ii (fun x y => x * y) 24 (zz_ev tX10_objectAt) L st M) ∧
  (∀ L st M, zz_ev tX10_objectAt 24 L st M = zo_pushI 22 26 (zz_ev tX10_objectAt) L st M) ∧
  (∀ L st M, zz_ev tX10_objectAt 26 L st M = zo_ii (fun x y => x + y) 27 (zz_ev tX10_objectAt) L st M) ∧
  (∀ L st M, zz_ev tX10_objectAt 27 L st M = zo_iald zzSC zzSTC 28 (zz_ev tX10_objectAt) L st M) ∧
  (∀ L st M, zz_ev tX10_objectAt 28 L st M = zo_iret false (zz_ev tX10_objectAt) L st M) :=
  ⟨zz_1 rfl tl_X10_objectAt, zz_1 rfl tl_X10_objectAt, zz_1 rfl tl_X10_objectAt, zz_1 rfl tl_X10_objectAt, zz_1 rfl tl_X10_objectAt, zz_1 rfl tl_X10_objectAt, zz_1 rfl tl_X10_objectAt, zz_1 rfl tl_X10_objectAt, zz_1 rfl tl_X10_objectAt, fun L r M => (zz_1 rfl tl_X10_objectAt _ _ _).trans rfl, fun L r M => (zz_1 rfl tl_X10_objectAt _ _ _).trans rfl, fun L r M => (zz_1 rfl tl_X10_objectAt _ _ _).trans rfl, fun L r M => (zz_1 rfl tl_X10_objectAt _ _ _).trans rfl, fun L r M => (zz_1 rfl tl_X10_objectAt _ _ _).trans rfl, fun L r M => (zz_1 rfl tl_X10_objectAt _ _ _).trans rfl, fun L r M => (zz_1 rfl tl_X10_objectAt _ _ _).trans rfl, fun L r M => (zz_1 rfl tl_X10_objectAt _ _ _).trans rfl, fun L r M => (zz_1 rfl tl_X10_objectAt _ _ _).trans rfl, zz_1 rfl tl_X10_objectAt, zz_1 rfl tl_X10_objectAt, zz_1 rfl tl_X10_objectAt, zz_1 rfl tl_X10_objectAt, zz_1 rfl tl_X10_objectAt, zz_1 rfl tl_X10_objectAt, zz_1 rfl tl_X10_objectAt⟩
set_option maxRecDepth 100000 in
theorem s_X10_objectAt (a0 : Int32) (v : Nat) (M : zzMd) : fX10_objectAt [.ref v, .int a0] M = zz_ev tX10_objectAt 0 [some (.ref v), some (.int a0)] [] M := rfl
set_option maxRecDepth 100000 in
theorem e_X10_isStaying : (∀ L st M, zz_ev tX10_isStaying 0 L st M = zo_aload 0 1 (zz_ev tX10_isStaying) L st M) ∧
  (∀ L st M, zz_ev tX10_isStaying 1 L st M = zo_iload 1 2 (zz_ev tX10_isStaying) L st M) ∧
  (∀ L st M, zz_ev tX10_isStaying 2 L st M = zo_pushI 23 4 (zz_ev tX10_isStaying) L st M) ∧
  (∀ (L : zzLc) (a0 a1 : Int32) (r : List Value) (M : zzMd), zz_ev tX10_isStaying 4 L (.int a1 :: .int a0 :: .ref 8 :: r) M = bif zz_cat8 r then zz_backN (zz_ev tX10_isStaying) 7 L r (fX10_read [.ref 8, .int a0, .int a1] M) else none) ∧
  (∀ (L : zzLc) (a0 a1 : Int32) (r : List Value) (M : zzMd), zz_ev tX10_isStaying 4 L (.int a1 :: .int a0 :: .ref 3 :: r) M = bif zz_cat8 r then zz_backN (zz_ev tX10_isStaying) 7 L r (fX10_read [.ref 3, .int a0, .int a1] M) else none) ∧
  (∀ (L : zzLc) (a0 a1 : Int32) (r : List Value) (M : zzMd), zz_ev tX10_isStaying 4 L (.int a1 :: .int a0 :: .ref 4 :: r) M = bif zz_cat8 r then zz_backN (zz_ev tX10_isStaying) 7 L r (fX10_read [.ref 4, .int a0, .int a1] M) else none) ∧
  (∀ (L : zzLc) (a0 a1 : Int32) (r : List Value) (M : zzMd), zz_ev tX10_isStaying 4 L (.int a1 :: .int a0 :: .ref 5 :: r) M = bif zz_cat8 r then zz_backN (zz_ev tX10_isStaying) 7 L r (fX10_read [.ref 5, .int a0, .int a1] M) else none) ∧
  (∀ (L : zzLc) (a0 a1 : Int32) (r : List Value) (M : zzMd), zz_ev tX10_isStaying 4 L (.int a1 :: .int a0 :: .ref 9 :: r) M = bif zz_cat8 r then zz_backN (zz_ev tX10_isStaying) 7 L r (fX10_read [.ref 9, .int a0, .int a1] M) else none) ∧
  (∀ (L : zzLc) (a0 a1 : Int32) (r : List Value) (M : zzMd), zz_ev tX10_isStaying 4 L (.int a1 :: .int a0 :: .ref 7 :: r) M = bif zz_cat8 r then zz_backN (zz_ev tX10_isStaying) 7 L r (fX10_read [.ref 7, .int a0, .int a1] M) else none) ∧
  (∀ (L : zzLc) (a0 a1 : Int32) (r : List Value) (M : zzMd), zz_ev tX10_isStaying 4 L (.int a1 :: .int a0 :: .ref 10 :: r) M = bif zz_cat8 r then zz_backN (zz_ev tX10_isStaying) 7 L r (fX10_read [.ref 10, .int a0, .int a1] M) else none) ∧
  (∀ (L : zzLc) (a0 a1 : Int32) (r : List Value) (M : zzMd), zz_ev tX10_isStaying 4 L (.int a1 :: .int a0 :: .ref 6 :: r) M = bif zz_cat8 r then zz_backN (zz_ev tX10_isStaying) 7 L r (fX10_read [.ref 6, .int a0, .int a1] M) else none) ∧
  (∀ (L : zzLc) (a0 a1 : Int32) (r : List Value) (M : zzMd), zz_ev tX10_isStaying 4 L (.int a1 :: .int a0 :: .ref 1 :: r) M = bif zz_cat8 r then zz_backN (zz_ev tX10_isStaying) 7 L r (fX10_read [.ref 1, .int a0, .int a1] M) else none) ∧
  (∀ L st M, zz_ev tX10_isStaying 7 L st M = zo_iload 2 8 (zz_ev tX10_isStaying) L st M) ∧
  (∀ L st M, zz_ev tX10_isStaying 8 L st M = zo_icmp (fun x y => decide (¬ x = y)) 25 11 (zz_ev tX10_isStaying) L st M) ∧
  (∀ L st M, zz_ev tX10_isStaying 11 L st M = zo_aload 0 12 (zz_ev tX10_isStaying) L st M) ∧
  (∀ L st M, zz_ev tX10_isStaying 12 L st M = zo_iload 1 13 (zz_ev tX10_isStaying) L st M) ∧
  (∀ L st M, zz_ev tX10_isStaying 13 L st M = zo_pushI 25 15 (zz_ev tX10_isStaying) L st M) ∧
  (∀ (L : zzLc) (a0 a1 : Int32) (r : List Value) (M : zzMd), zz_ev tX10_isStaying 15 L (.int a1 :: .int a0 :: .ref 8 :: r) M = bif zz_cat8 r then zz_backN (zz_ev tX10_isStaying) 18 L r (fX10_read [.ref 8, .int a0, .int a1] M) else none) ∧
  (∀ (L : zzLc) (a0 a1 : Int32) (r : List Value) (M : zzMd), zz_ev tX10_isStaying 15 L (.int a1 :: .int a0 :: .ref 3 :: r) M = bif zz_cat8 r then zz_backN (zz_ev tX10_isStaying) 18 L r (fX10_read [.ref 3, .int a0, .int a1] M) else none) ∧
  (∀ (L : zzLc) (a0 a1 : Int32) (r : List Value) (M : zzMd), zz_ev tX10_isStaying 15 L (.int a1 :: .int a0 :: .ref 4 :: r) M = bif zz_cat8 r then zz_backN (zz_ev tX10_isStaying) 18 L r (fX10_read [.ref 4, .int a0, .int a1] M) else none) ∧
  (∀ (L : zzLc) (a0 a1 : Int32) (r : List Value) (M : zzMd), zz_ev tX10_isStaying 15 L (.int a1 :: .int a0 :: .ref 5 :: r) M = bif zz_cat8 r then zz_backN (zz_ev tX10_isStaying) 18 L r (fX10_read [.ref 5, .int a0, .int a1] M) else none) ∧
  (∀ (L : zzLc) (a0 a1 : Int32) (r : List Value) (M : zzMd), zz_ev tX10_isStaying 15 L (.int a1 :: .int a0 :: .ref 9 :: r) M = bif zz_cat8 r then zz_backN (zz_ev tX10_isStaying) 18 L r (fX10_read [.ref 9, .int a0, .int a1] M) else none) ∧
  (∀ (L : zzLc) (a0 a1 : Int32) (r : List Value) (M : zzMd), zz_ev tX10_isStaying 15 L (.int a1 :: .int a0 :: .ref 7 :: r) M = bif zz_cat8 r then zz_backN (zz_ev tX10_isStaying) 18 L r (fX10_read [.ref 7, .int a0, .int a1] M) else none) ∧
  (∀ (L : zzLc) (a0 a1 : Int32) (r : List Value) (M : zzMd), zz_ev tX10_isStaying 15 L (.int a1 :: .int a0 :: .ref 10 :: r) M = bif zz_cat8 r then zz_backN (zz_ev tX10_isStaying) 18 L r (fX10_read [.ref 10, .int a0, .int a1] M) else none) ∧
  (∀ (L : zzLc) (a0 a1 : Int32) (r : List Value) (M : zzMd), zz_ev tX10_isStaying 15 L (.int a1 :: .int a0 :: .ref 6 :: r) M = bif zz_cat8 r then zz_backN (zz_ev tX10_isStaying) 18 L r (fX10_read [.ref 6, .int a0, .int a1] M) else none) ∧
  (∀ (L : zzLc) (a0 a1 : Int32) (r : List Value) (M : zzMd), zz_ev tX10_isStaying 15 L (.int a1 :: .int a0 :: .ref 1 :: r) M = bif zz_cat8 r then zz_backN (zz_ev tX10_isStaying) 18 L r (fX10_read [.ref 1, .int a0, .int a1] M) else none) ∧
  (∀ L st M, zz_ev tX10_isStaying 18 L st M = zo_if (fun x => decide (¬ x = 0)) 25 21 (zz_ev tX10_isStaying) L st M) ∧
  (∀ L st M, zz_ev tX10_isStaying 21 L st M = zo_pushI 1 22 (zz_ev tX10_isStaying) L st M) ∧
  (∀ L st M, zz_ev tX10_isStaying 22 L st M = zo_goto 26 (zz_ev tX10_isStaying) L st M) ∧
  (∀ L st M, zz_ev tX10_isStaying 25 L st M = zo_pushI 0 26 (zz_ev tX10_isStaying) L st M) ∧
  (∀ L st M, zz_ev tX10_isStaying 26 L st M = zo_iret true (zz_ev tX10_isStaying) L st M) :=
  ⟨zz_1 rfl tl_X10_isStaying, zz_1 rfl tl_X10_isStaying, zz_1 rfl tl_X10_isStaying, fun L a0 a1 r M => (zz_1 rfl tl_X10_isStaying _ _ _).trans rfl, fun L a0 a1 r M => (zz_1 rfl tl_X10_isStaying _ _ _).trans rfl, fun L a0 a1 r M => (zz_1 rfl tl_X10_isStaying _ _ _).trans rfl, fun L a0 a1 r M => (zz_1 rfl tl_X10_isStaying _ _ _).trans rfl, fun L a0 a1 r M => (zz_1 rfl tl_X10_isStaying _ _ _).trans rfl, fun L a0 a1 r M => (zz_1 rfl tl_X10_isStaying _ _ _).trans rfl, fun L a0 a1 r M => (zz_1 rfl tl_X10_isStaying _ _ _).trans rfl, fun L a0 a1 r M => (zz_1 rfl tl_X10_isStaying _ _ _).trans rfl, fun L a0 a1 r M => (zz_1 rfl tl_X10_isStaying _ _ _).trans rfl, zz_1 rfl tl_X10_isStaying, zz_1 rfl tl_X10_isStaying, zz_1 rfl tl_X10_isStaying, zz_1 rfl tl_X10_isStaying, zz_1 rfl tl_X10_isStaying, fun L a0 a1 r M => (zz_1 rfl tl_X10_isStaying _ _ _).trans rfl, fun L a0 a1 r M => (zz_1 rfl tl_X10_isStaying _ _ _).trans rfl, fun L a0 a1 r M => (zz_1 rfl tl_X10_isStaying _ _ _).trans rfl, fun L a0 a1 r M => (zz_1 rfl tl_X10_isStaying _ _ _).trans rfl, fun L a0 a1 r M => (zz_1 rfl tl_X10_isStaying _ _ _).trans rfl, fun L a0 a1 r M => (zz_1 rfl tl_X10_isStaying _ _ _).trans rfl, fun L a0 a1 r M => (zz_1 rfl tl_X10_isStaying _ _ _).trans rfl, fun L a0 a1 r M => (zz_1 rfl tl_X10_isStaying _ _ _).trans rfl, fun L a0 a1 r M => (zz_1 rfl tl_X10_isStaying _ _ _).trans rfl, zz_1 rfl tl_X10_isStaying, zz_1 rfl tl_X10_isStaying, zz_1 rfl tl_X10_isStaying, zz_1 rfl tl_X10_isStaying, zz_1 rfl tl_X10_isStaying⟩
set_option maxRecDepth 100000 in
theorem s_X10_isStaying (a0 a1 : Int32) (v : Nat) (M : zzMd) : fX10_isStaying [.ref v, .int a0, .int a1] M = zz_ev tX10_isStaying 0 [some (.ref v), some (.int a0), some (.int a1)] [] M := rfl
set_option maxRecDepth 100000 in
theorem e_X10_isOwned : (∀ L st M, zz_ev tX10_isOwned 0 L st M = zo_aload 0 1 (zz_ev tX10_isOwned) L st M) ∧
  (∀ L st M, zz_ev tX10_isOwned 1 L st M = zo_iload 1 2 (zz_ev tX10_isOwned) L st M) ∧
  (∀ L st M, zz_ev tX10_isOwned 2 L st M = zo_pushI 24 4 (zz_ev tX10_isOwned) L st M) ∧
  (∀ (L : zzLc) (a0 a1 : Int32) (r : List Value) (M : zzMd), zz_ev tX10_isOwned 4 L (.int a1 :: .int a0 :: .ref 8 :: r) M = bif zz_cat8 r then zz_backN (zz_ev tX10_isOwned) 7 L r (fX10_read [.ref 8, .int a0, .int a1] M) else none) ∧
  (∀ (L : zzLc) (a0 a1 : Int32) (r : List Value) (M : zzMd), zz_ev tX10_isOwned 4 L (.int a1 :: .int a0 :: .ref 3 :: r) M = bif zz_cat8 r then zz_backN (zz_ev tX10_isOwned) 7 L r (fX10_read [.ref 3, .int a0, .int a1] M) else none) ∧
  (∀ (L : zzLc) (a0 a1 : Int32) (r : List Value) (M : zzMd), zz_ev tX10_isOwned 4 L (.int a1 :: .int a0 :: .ref 4 :: r) M = bif zz_cat8 r then zz_backN (zz_ev tX10_isOwned) 7 L r (fX10_read [.ref 4, .int a0, .int a1] M) else none) ∧
  (∀ (L : zzLc) (a0 a1 : Int32) (r : List Value) (M : zzMd), zz_ev tX10_isOwned 4 L (.int a1 :: .int a0 :: .ref 5 :: r) M = bif zz_cat8 r then zz_backN (zz_ev tX10_isOwned) 7 L r (fX10_read [.ref 5, .int a0, .int a1] M) else none) ∧
  (∀ (L : zzLc) (a0 a1 : Int32) (r : List Value) (M : zzMd), zz_ev tX10_isOwned 4 L (.int a1 :: .int a0 :: .ref 9 :: r) M = bif zz_cat8 r then zz_backN (zz_ev tX10_isOwned) 7 L r (fX10_read [.ref 9, .int a0, .int a1] M) else none) ∧
  (∀ (L : zzLc) (a0 a1 : Int32) (r : List Value) (M : zzMd), zz_ev tX10_isOwned 4 L (.int a1 :: .int a0 :: .ref 7 :: r) M = bif zz_cat8 r then zz_backN (zz_ev tX10_isOwned) 7 L r (fX10_read [.ref 7, .int a0, .int a1] M) else none) ∧
  (∀ (L : zzLc) (a0 a1 : Int32) (r : List Value) (M : zzMd), zz_ev tX10_isOwned 4 L (.int a1 :: .int a0 :: .ref 10 :: r) M = bif zz_cat8 r then zz_backN (zz_ev tX10_isOwned) 7 L r (fX10_read [.ref 10, .int a0, .int a1] M) else none) ∧
  (∀ (L : zzLc) (a0 a1 : Int32) (r : List Value) (M : zzMd), zz_ev tX10_isOwned 4 L (.int a1 :: .int a0 :: .ref 6 :: r) M = bif zz_cat8 r then zz_backN (zz_ev tX10_isOwned) 7 L r (fX10_read [.ref 6, .int a0, .int a1] M) else none) ∧
  (∀ (L : zzLc) (a0 a1 : Int32) (r : List Value) (M : zzMd), zz_ev tX10_isOwned 4 L (.int a1 :: .int a0 :: .ref 1 :: r) M = bif zz_cat8 r then zz_backN (zz_ev tX10_isOwned) 7 L r (fX10_read [.ref 1, .int a0, .int a1] M) else none) ∧
  (∀ L st M, zz_ev tX10_isOwned 7 L st M = zo_iload 3 8 (zz_ev tX10_isOwned) L st M) ∧
  (∀ L st M, zz_ev tX10_isOwned 8 L st M = zo_icmp (fun x y => decide (¬ x = y)) 36 11 (zz_ev tX10_isOwned) L st M) ∧
  (∀ L st M, zz_ev tX10_isOwned 11 L st M = zo_aload 0 12 (zz_ev tX10_isOwned) L st M) ∧
  (∀ L st M, zz_ev tX10_isOwned 12 L st M = zo_iload 1 13 (zz_ev tX10_isOwned) L st M) ∧
  (∀ L st M, zz_ev tX10_isOwned 13 L st M = zo_pushI 23 15 (zz_ev tX10_isOwned) L st M) ∧
  (∀ (L : zzLc) (a0 a1 : Int32) (r : List Value) (M : zzMd), zz_ev tX10_isOwned 15 L (.int a1 :: .int a0 :: .ref 8 :: r) M = bif zz_cat8 r then zz_backN (zz_ev tX10_isOwned) 18 L r (fX10_read [.ref 8, .int a0, .int a1] M) else none) ∧
  (∀ (L : zzLc) (a0 a1 : Int32) (r : List Value) (M : zzMd), zz_ev tX10_isOwned 15 L (.int a1 :: .int a0 :: .ref 3 :: r) M = bif zz_cat8 r then zz_backN (zz_ev tX10_isOwned) 18 L r (fX10_read [.ref 3, .int a0, .int a1] M) else none) ∧
  (∀ (L : zzLc) (a0 a1 : Int32) (r : List Value) (M : zzMd), zz_ev tX10_isOwned 15 L (.int a1 :: .int a0 :: .ref 4 :: r) M = bif zz_cat8 r then zz_backN (zz_ev tX10_isOwned) 18 L r (fX10_read [.ref 4, .int a0, .int a1] M) else none) ∧
  (∀ (L : zzLc) (a0 a1 : Int32) (r : List Value) (M : zzMd), zz_ev tX10_isOwned 15 L (.int a1 :: .int a0 :: .ref 5 :: r) M = bif zz_cat8 r then zz_backN (zz_ev tX10_isOwned) 18 L r (fX10_read [.ref 5, .int a0, .int a1] M) else none) ∧
  (∀ (L : zzLc) (a0 a1 : Int32) (r : List Value) (M : zzMd), zz_ev tX10_isOwned 15 L (.int a1 :: .int a0 :: .ref 9 :: r) M = bif zz_cat8 r then zz_backN (zz_ev tX10_isOwned) 18 L r (fX10_read [.ref 9, .int a0, .int a1] M) else none) ∧
  (∀ (L : zzLc) (a0 a1 : Int32) (r : List Value) (M : zzMd), zz_ev tX10_isOwned 15 L (.int a1 :: .int a0 :: .ref 7 :: r) M = bif zz_cat8 r then zz_backN (zz_ev tX10_isOwned) 18 L r (fX10_read [.ref 7, .int a0, .int a1] M) else none) ∧
  (∀ (L : zzLc) (a0 a1 : Int32) (r : List Value) (M : zzMd), zz_ev tX10_isOwned 15 L (.int a1 :: .int a0 :: .ref 10 :: r) M = bif zz_cat8 r then zz_backN (zz_ev tX10_isOwned) 18 L r (fX10_read [.ref 10, .int a0, .int a1] M) else none) ∧
  (∀ (L : zzLc) (a0 a1 : Int32) (r : List Value) (M : zzMd), zz_ev tX10_isOwned 15 L (.int a1 :: .int a0 :: .ref 6 :: r) M = bif zz_cat8 r then zz_backN (zz_ev tX10_isOwned) 18 L r (fX10_read [.ref 6, .int a0, .int a1] M) else none) ∧
  (∀ (L : zzLc) (a0 a1 : Int32) (r : List Value) (M : zzMd), zz_ev tX10_isOwned 15 L (.int a1 :: .int a0 :: .ref 1 :: r) M = bif zz_cat8 r then zz_backN (zz_ev tX10_isOwned) 18 L r (fX10_read [.ref 1, .int a0, .int a1] M) else none) ∧
  (∀ L st M, zz_ev tX10_isOwned 18 L st M = zo_iload 2 19 (zz_ev tX10_isOwned) L st M) ∧
  (∀ L st M, zz_ev tX10_isOwned 19 L st M = zo_icmp (fun x y => decide (¬ x = y)) 36 22 (zz_ev tX10_isOwned) L st M) ∧
  (∀ L st M, zz_ev tX10_isOwned 22 L st M = zo_aload 0 23 (zz_ev tX10_isOwned) L st M) ∧
  (∀ L st M, zz_ev tX10_isOwned 23 L st M = zo_iload 1 24 (zz_ev tX10_isOwned) L st M) ∧
  (∀ L st M, zz_ev tX10_isOwned 24 L st M = zo_pushI 25 26 (zz_ev tX10_isOwned) L st M) ∧
  (∀ (L : zzLc) (a0 a1 : Int32) (r : List Value) (M : zzMd), zz_ev tX10_isOwned 26 L (.int a1 :: .int a0 :: .ref 8 :: r) M = bif zz_cat8 r then zz_backN (zz_ev tX10_isOwned) 29 L r (fX10_read [.ref 8, .int a0, .int a1] M) else none) ∧
  (∀ (L : zzLc) (a0 a1 : Int32) (r : List Value) (M : zzMd), zz_ev tX10_isOwned 26 L (.int a1 :: .int a0 :: .ref 3 :: r) M = bif zz_cat8 r then zz_backN (zz_ev tX10_isOwned) 29 L r (fX10_read [.ref 3, .int a0, .int a1] M) else none) ∧
  (∀ (L : zzLc) (a0 a1 : Int32) (r : List Value) (M : zzMd), zz_ev tX10_isOwned 26 L (.int a1 :: .int a0 :: .ref 4 :: r) M = bif zz_cat8 r then zz_backN (zz_ev tX10_isOwned) 29 L r (fX10_read [.ref 4, .int a0, .int a1] M) else none) ∧
  (∀ (L : zzLc) (a0 a1 : Int32) (r : List Value) (M : zzMd), zz_ev tX10_isOwned 26 L (.int a1 :: .int a0 :: .ref 5 :: r) M = bif zz_cat8 r then zz_backN (zz_ev tX10_isOwned) 29 L r (fX10_read [.ref 5, .int a0, .int a1] M) else none) ∧
  (∀ (L : zzLc) (a0 a1 : Int32) (r : List Value) (M : zzMd), zz_ev tX10_isOwned 26 L (.int a1 :: .int a0 :: .ref 9 :: r) M = bif zz_cat8 r then zz_backN (zz_ev tX10_isOwned) 29 L r (fX10_read [.ref 9, .int a0, .int a1] M) else none) ∧
  (∀ (L : zzLc) (a0 a1 : Int32) (r : List Value) (M : zzMd), zz_ev tX10_isOwned 26 L (.int a1 :: .int a0 :: .ref 7 :: r) M = bif zz_cat8 r then zz_backN (zz_ev tX10_isOwned) 29 L r (fX10_read [.ref 7, .int a0, .int a1] M) else none) ∧
  (∀ (L : zzLc) (a0 a1 : Int32) (r : List Value) (M : zzMd), zz_ev tX10_isOwned 26 L (.int a1 :: .int a0 :: .ref 10 :: r) M = bif zz_cat8 r then zz_backN (zz_ev tX10_isOwned) 29 L r (fX10_read [.ref 10, .int a0, .int a1] M) else none) ∧
  (∀ (L : zzLc) (a0 a1 : Int32) (r : List Value) (M : zzMd), zz_ev tX10_isOwned 26 L (.int a1 :: .int a0 :: .ref 6 :: r) M = bif zz_cat8 r then zz_backN (zz_ev tX10_isOwned) 29 L r (fX10_read [.ref 6, .int a0, .int a1] M) else none) ∧
  (∀ (L : zzLc) (a0 a1 : Int32) (r : List Value) (M : zzMd), zz_ev tX10_isOwned 26 L (.int a1 :: .int a0 :: .ref 1 :: r) M = bif zz_cat8 r then zz_backN (zz_ev tX10_isOwned) 29 L r (fX10_read [.ref 1, .int a0, .int a1] M) else none) ∧
  (∀ L st M, zz_ev tX10_isOwned 29 L st M = zo_if (fun x => decide (¬ x = 0)) 36 32 (zz_ev tX10_isOwned) L st M) ∧
  (∀ L st M, zz_ev tX10_isOwned 32 L st M = zo_pushI 1 33 (zz_ev tX10_isOwned) L st M) ∧
  (∀ L st M, zz_ev tX10_isOwned 33 L st M = zo_goto 37 (zz_ev tX10_isOwned) L st M) ∧
  (∀ L st M, zz_ev tX10_isOwned 36 L st M = zo_pushI 0 37 (zz_ev tX10_isOwned) L st M) ∧
  (∀ L st M, zz_ev tX10_isOwned 37 L st M = zo_iret true (zz_ev tX10_isOwned) L st M) :=
  ⟨zz_1 rfl tl_X10_isOwned, zz_1 rfl tl_X10_isOwned, zz_1 rfl tl_X10_isOwned, fun L a0 a1 r M => (zz_1 rfl tl_X10_isOwned _ _ _).trans rfl, fun L a0 a1 r M => (zz_1 rfl tl_X10_isOwned _ _ _).trans rfl, fun L a0 a1 r M => (zz_1 rfl tl_X10_isOwned _ _ _).trans rfl, fun L a0 a1 r M => (zz_1 rfl tl_X10_isOwned _ _ _).trans rfl, fun L a0 a1 r M => (zz_1 rfl tl_X10_isOwned _ _ _).trans rfl, fun L a0 a1 r M => (zz_1 rfl tl_X10_isOwned _ _ _).trans rfl, fun L a0 a1 r M => (zz_1 rfl tl_X10_isOwned _ _ _).trans rfl, fun L a0 a1 r M => (zz_1 rfl tl_X10_isOwned _ _ _).trans rfl, fun L a0 a1 r M => (zz_1 rfl tl_X10_isOwned _ _ _).trans rfl, zz_1 rfl tl_X10_isOwned, zz_1 rfl tl_X10_isOwned, zz_1 rfl tl_X10_isOwned, zz_1 rfl tl_X10_isOwned, zz_1 rfl tl_X10_isOwned, fun L a0 a1 r M => (zz_1 rfl tl_X10_isOwned _ _ _).trans rfl, fun L a0 a1 r M => (zz_1 rfl tl_X10_isOwned _ _ _).trans rfl, fun L a0 a1 r M => (zz_1 rfl tl_X10_isOwned _ _ _).trans rfl, fun L a0 a1 r M => (zz_1 rfl tl_X10_isOwned _ _ _).trans rfl, fun L a0 a1 r M => (zz_1 rfl tl_X10_isOwned _ _ _).trans rfl, fun L a0 a1 r M => (zz_1 rfl tl_X10_isOwned _ _ _).trans rfl, fun L a0 a1 r M => (zz_1 rfl tl_X10_isOwned _ _ _).trans rfl, fun L a0 a1 r M => (zz_1 rfl tl_X10_isOwned _ _ _).trans rfl, fun L a0 a1 r M => (zz_1 rfl tl_X10_isOwned _ _ _).trans rfl, zz_1 rfl tl_X10_isOwned, zz_1 rfl tl_X10_isOwned, zz_1 rfl tl_X10_isOwned, zz_1 rfl tl_X10_isOwned, zz_1 rfl tl_X10_isOwned, fun L a0 a1 r M => (zz_1 rfl tl_X10_isOwned _ _ _).trans rfl, fun L a0 a1 r M => (zz_1 rfl tl_X10_isOwned _ _ _).trans rfl, fun L a0 a1 r M => (zz_1 rfl tl_X10_isOwned _ _ _).trans rfl, fun L a0 a1 r M => (zz_1 rfl tl_X10_isOwned _ _ _).trans rfl, fun L a0 a1 r M => (zz_1 rfl tl_X10_isOwned _ _ _).trans rfl, fun L a0 a1 r M => (zz_1 rfl tl_X10_isOwned _ _ _).trans rfl, fun L a0 a1 r M => (zz_1 rfl tl_X10_isOwned _ _ _).trans rfl, fun L a0 a1 r M => (zz_1 rfl tl_X10_isOwned _ _ _).trans rfl, fun L a0 a1 r M => (zz_1 rfl tl_X10_isOwned _ _ _).trans rfl, zz_1 rfl tl_X10_isOwned, zz_1 rfl tl_X10_isOwned, zz_1 rfl tl_X10_isOwned, zz_1 rfl tl_X10_isOwned, zz_1 rfl tl_X10_isOwned⟩
set_option maxRecDepth 100000 in
theorem s_X10_isOwned (a0 a1 a2 : Int32) (v : Nat) (M : zzMd) : fX10_isOwned [.ref v, .int a0, .int a1, .int a2] M = zz_ev tX10_isOwned 0 [some (.ref v), some (.int a0), some (.int a1), some (.int a2)] [] M := rfl
set_option maxRecDepth 100000 in
theorem e_X10_newSetOf : (∀ L st M, zz_ev tX10_newSetOf 0 L st M = zo_aload 0 1 (zz_ev tX10_newSetOf) L st M) ∧
  (∀ L st M, zz_ev tX10_newSetOf 1 L st M = zo_iload 1 2 (zz_ev tX10_newSetOf) L st M) ∧
  (∀ L st M, zz_ev tX10_newSetOf 2 L st M = zo_pushI 1 3 (zz_ev tX10_newSetOf) L st M) ∧
  (∀ (L : zzLc) (a0 a1 : Int32) (r : List Value) (M : zzMd), zz_ev tX10_newSetOf 3 L (.int a1 :: .int a0 :: .ref 8 :: r) M = bif zz_cat8 r then zz_backN (zz_ev tX10_newSetOf) 6 L r (fX10_read [.ref 8, .int a0, .int a1] M) else none) ∧
  (∀ (L : zzLc) (a0 a1 : Int32) (r : List Value) (M : zzMd), zz_ev tX10_newSetOf 3 L (.int a1 :: .int a0 :: .ref 3 :: r) M = bif zz_cat8 r then zz_backN (zz_ev tX10_newSetOf) 6 L r (fX10_read [.ref 3, .int a0, .int a1] M) else none) ∧
  (∀ (L : zzLc) (a0 a1 : Int32) (r : List Value) (M : zzMd), zz_ev tX10_newSetOf 3 L (.int a1 :: .int a0 :: .ref 4 :: r) M = bif zz_cat8 r then zz_backN (zz_ev tX10_newSetOf) 6 L r (fX10_read [.ref 4, .int a0, .int a1] M) else none) ∧
  (∀ (L : zzLc) (a0 a1 : Int32) (r : List Value) (M : zzMd), zz_ev tX10_newSetOf 3 L (.int a1 :: .int a0 :: .ref 5 :: r) M = bif zz_cat8 r then zz_backN (zz_ev tX10_newSetOf) 6 L r (fX10_read [.ref 5, .int a0, .int a1] M) else none) ∧
  (∀ (L : zzLc) (a0 a1 : Int32) (r : List Value) (M : zzMd), zz_ev tX10_newSetOf 3 L (.int a1 :: .int a0 :: .ref 9 :: r) M = bif zz_cat8 r then zz_backN (zz_ev tX10_newSetOf) 6 L r (fX10_read [.ref 9, .int a0, .int a1] M) else none) ∧
  (∀ (L : zzLc) (a0 a1 : Int32) (r : List Value) (M : zzMd), zz_ev tX10_newSetOf 3 L (.int a1 :: .int a0 :: .ref 7 :: r) M = bif zz_cat8 r then zz_backN (zz_ev tX10_newSetOf) 6 L r (fX10_read [.ref 7, .int a0, .int a1] M) else none) ∧
  (∀ (L : zzLc) (a0 a1 : Int32) (r : List Value) (M : zzMd), zz_ev tX10_newSetOf 3 L (.int a1 :: .int a0 :: .ref 10 :: r) M = bif zz_cat8 r then zz_backN (zz_ev tX10_newSetOf) 6 L r (fX10_read [.ref 10, .int a0, .int a1] M) else none) ∧
  (∀ (L : zzLc) (a0 a1 : Int32) (r : List Value) (M : zzMd), zz_ev tX10_newSetOf 3 L (.int a1 :: .int a0 :: .ref 6 :: r) M = bif zz_cat8 r then zz_backN (zz_ev tX10_newSetOf) 6 L r (fX10_read [.ref 6, .int a0, .int a1] M) else none) ∧
  (∀ (L : zzLc) (a0 a1 : Int32) (r : List Value) (M : zzMd), zz_ev tX10_newSetOf 3 L (.int a1 :: .int a0 :: .ref 1 :: r) M = bif zz_cat8 r then zz_backN (zz_ev tX10_newSetOf) 6 L r (fX10_read [.ref 1, .int a0, .int a1] M) else none) ∧
  (∀ L st M, zz_ev tX10_newSetOf 6 L st M = zo_istore 2 7 (zz_ev tX10_newSetOf) L st M) ∧
  (∀ L st M, zz_ev tX10_newSetOf 7 L st M = zo_pushI 0 8 (zz_ev tX10_newSetOf) L st M) ∧
  (∀ L st M, zz_ev tX10_newSetOf 8 L st M = zo_istore 3 9 (zz_ev tX10_newSetOf) L st M) ∧
  (∀ L st M, zz_ev tX10_newSetOf 10 L st M = zo_aload 0 11 (zz_ev tX10_newSetOf) L st M) ∧
  (∀ (L : zzLc) (r : List Value) (M : zzMd), zz_ev tX10_newSetOf 11 L (.ref 1 :: r) M = zz_ev tX10_newSetOf 14 L (.int (M.1 1 2) :: r) M) ∧
  (∀ (L : zzLc) (r : List Value) (M : zzMd), zz_ev tX10_newSetOf 11 L (.ref 3 :: r) M = zz_ev tX10_newSetOf 14 L (.int (M.1 3 2) :: r) M) ∧
  (∀ (L : zzLc) (r : List Value) (M : zzMd), zz_ev tX10_newSetOf 11 L (.ref 4 :: r) M = zz_ev tX10_newSetOf 14 L (.int (M.1 4 2) :: r) M) ∧
  (∀ (L : zzLc) (r : List Value) (M : zzMd), zz_ev tX10_newSetOf 11 L (.ref 5 :: r) M = zz_ev tX10_newSetOf 14 L (.int (M.1 5 2) :: r) M) ∧
  (∀ (L : zzLc) (r : List Value) (M : zzMd), zz_ev tX10_newSetOf 11 L (.ref 6 :: r) M = zz_ev tX10_newSetOf 14 L (.int (M.1 6 2) :: r) M) ∧
  (∀ (L : zzLc) (r : List Value) (M : zzMd), zz_ev tX10_newSetOf 11 L (.ref 7 :: r) M = zz_ev tX10_newSetOf 14 L (.int (M.1 7 2) :: r) M) ∧
  (∀ (L : zzLc) (r : List Value) (M : zzMd), zz_ev tX10_newSetOf 11 L (.ref 8 :: r) M = zz_ev tX10_newSetOf 14 L (.int (M.1 8 2) :: r) M) ∧
  (∀ (L : zzLc) (r : List Value) (M : zzMd), zz_ev tX10_newSetOf 11 L (.ref 9 :: r) M = zz_ev tX10_newSetOf 14 L (.int (M.1 9 2) :: r) M) ∧
  (∀ (L : zzLc) (r : List Value) (M : zzMd), zz_ev tX10_newSetOf 11 L (.ref 10 :: r) M = zz_ev tX10_newSetOf 14 L (.int (M.1 10 2) :: r) M) ∧
  (∀ L st M, zz_ev tX10_newSetOf 14 L st M = zo_icmp (fun x y => decide (y ≤ x)) 45 17 (zz_ev tX10_newSetOf) L st M) ∧
  (∀ L st M, zz_ev tX10_newSetOf 17 L st M = zo_aload 0 18 (zz_ev tX10_newSetOf) L st M) ∧
  (∀ L st M, zz_ev tX10_newSetOf 18 L st M = zo_iload 3 19 (zz_ev tX10_newSetOf) L st M) ∧
  (∀ L st M, zz_ev tX10_newSetOf 19 L st M = zo_pushI 1 20 (zz_ev tX10_newSetOf) L st M) ∧
  (∀ L st M, zz_ev tX10_newSetOf 20 L st M = zo_iload 1 21 (zz_ev tX10_newSetOf) L st M) ∧
  (∀ (L : zzLc) (a0 a1 a2 : Int32) (r : List Value) (M : zzMd), zz_ev tX10_newSetOf 21 L (.int a2 :: .int a1 :: .int a0 :: .ref 8 :: r) M = bif zz_cat8 r then zz_backN (zz_ev tX10_newSetOf) 24 L r (fX10_isOwned [.ref 8, .int a0, .int a1, .int a2] M) else none) ∧
  (∀ (L : zzLc) (a0 a1 a2 : Int32) (r : List Value) (M : zzMd), zz_ev tX10_newSetOf 21 L (.int a2 :: .int a1 :: .int a0 :: .ref 3 :: r) M = bif zz_cat8 r then zz_backN (zz_ev tX10_newSetOf) 24 L r (fX10_isOwned [.ref 3, .int a0, .int a1, .int a2] M) else none) ∧
  (∀ (L : zzLc) (a0 a1 a2 : Int32) (r : List Value) (M : zzMd), zz_ev tX10_newSetOf 21 L (.int a2 :: .int a1 :: .int a0 :: .ref 4 :: r) M = bif zz_cat8 r then zz_backN (zz_ev tX10_newSetOf) 24 L r (fX10_isOwned [.ref 4, .int a0, .int a1, .int a2] M) else none) ∧
  (∀ (L : zzLc) (a0 a1 a2 : Int32) (r : List Value) (M : zzMd), zz_ev tX10_newSetOf 21 L (.int a2 :: .int a1 :: .int a0 :: .ref 5 :: r) M = bif zz_cat8 r then zz_backN (zz_ev tX10_newSetOf) 24 L r (fX10_isOwned [.ref 5, .int a0, .int a1, .int a2] M) else none) ∧
  (∀ (L : zzLc) (a0 a1 a2 : Int32) (r : List Value) (M : zzMd), zz_ev tX10_newSetOf 21 L (.int a2 :: .int a1 :: .int a0 :: .ref 9 :: r) M = bif zz_cat8 r then zz_backN (zz_ev tX10_newSetOf) 24 L r (fX10_isOwned [.ref 9, .int a0, .int a1, .int a2] M) else none) ∧
  (∀ (L : zzLc) (a0 a1 a2 : Int32) (r : List Value) (M : zzMd), zz_ev tX10_newSetOf 21 L (.int a2 :: .int a1 :: .int a0 :: .ref 7 :: r) M = bif zz_cat8 r then zz_backN (zz_ev tX10_newSetOf) 24 L r (fX10_isOwned [.ref 7, .int a0, .int a1, .int a2] M) else none) ∧
  (∀ (L : zzLc) (a0 a1 a2 : Int32) (r : List Value) (M : zzMd), zz_ev tX10_newSetOf 21 L (.int a2 :: .int a1 :: .int a0 :: .ref 10 :: r) M = bif zz_cat8 r then zz_backN (zz_ev tX10_newSetOf) 24 L r (fX10_isOwned [.ref 10, .int a0, .int a1, .int a2] M) else none) ∧
  (∀ (L : zzLc) (a0 a1 a2 : Int32) (r : List Value) (M : zzMd), zz_ev tX10_newSetOf 21 L (.int a2 :: .int a1 :: .int a0 :: .ref 6 :: r) M = bif zz_cat8 r then zz_backN (zz_ev tX10_newSetOf) 24 L r (fX10_isOwned [.ref 6, .int a0, .int a1, .int a2] M) else none) ∧
  (∀ (L : zzLc) (a0 a1 a2 : Int32) (r : List Value) (M : zzMd), zz_ev tX10_newSetOf 21 L (.int a2 :: .int a1 :: .int a0 :: .ref 1 :: r) M = bif zz_cat8 r then zz_backN (zz_ev tX10_newSetOf) 24 L r (fX10_isOwned [.ref 1, .int a0, .int a1, .int a2] M) else none) ∧
  (∀ L st M, zz_ev tX10_newSetOf 24 L st M = zo_if (fun x => decide (x = 0)) 39 27 (zz_ev tX10_newSetOf) L st M) ∧
  (∀ L st M, zz_ev tX10_newSetOf 27 L st M = zo_aload 0 28 (zz_ev tX10_newSetOf) L st M) ∧
  (∀ L st M, zz_ev tX10_newSetOf 28 L st M = zo_iload 3 29 (zz_ev tX10_newSetOf) L st M) ∧
  (∀ L st M, zz_ev tX10_newSetOf 29 L st M = zo_pushI 1 30 (zz_ev tX10_newSetOf) L st M) ∧
  (∀ (L : zzLc) (a0 a1 : Int32) (r : List Value) (M : zzMd), zz_ev tX10_newSetOf 30 L (.int a1 :: .int a0 :: .ref 8 :: r) M = bif zz_cat8 r then zz_backN (zz_ev tX10_newSetOf) 33 L r (fX10_read [.ref 8, .int a0, .int a1] M) else none) ∧
  (∀ (L : zzLc) (a0 a1 : Int32) (r : List Value) (M : zzMd), zz_ev tX10_newSetOf 30 L (.int a1 :: .int a0 :: .ref 3 :: r) M = bif zz_cat8 r then zz_backN (zz_ev tX10_newSetOf) 33 L r (fX10_read [.ref 3, .int a0, .int a1] M) else none) ∧
  (∀ (L : zzLc) (a0 a1 : Int32) (r : List Value) (M : zzMd), zz_ev tX10_newSetOf 30 L (.int a1 :: .int a0 :: .ref 4 :: r) M = bif zz_cat8 r then zz_backN (zz_ev tX10_newSetOf) 33 L r (fX10_read [.ref 4, .int a0, .int a1] M) else none) ∧
  (∀ (L : zzLc) (a0 a1 : Int32) (r : List Value) (M : zzMd), zz_ev tX10_newSetOf 30 L (.int a1 :: .int a0 :: .ref 5 :: r) M = bif zz_cat8 r then zz_backN (zz_ev tX10_newSetOf) 33 L r (fX10_read [.ref 5, .int a0, .int a1] M) else none) ∧
  (∀ (L : zzLc) (a0 a1 : Int32) (r : List Value) (M : zzMd), zz_ev tX10_newSetOf 30 L (.int a1 :: .int a0 :: .ref 9 :: r) M = bif zz_cat8 r then zz_backN (zz_ev tX10_newSetOf) 33 L r (fX10_read [.ref 9, .int a0, .int a1] M) else none) ∧
  (∀ (L : zzLc) (a0 a1 : Int32) (r : List Value) (M : zzMd), zz_ev tX10_newSetOf 30 L (.int a1 :: .int a0 :: .ref 7 :: r) M = bif zz_cat8 r then zz_backN (zz_ev tX10_newSetOf) 33 L r (fX10_read [.ref 7, .int a0, .int a1] M) else none) ∧
  (∀ (L : zzLc) (a0 a1 : Int32) (r : List Value) (M : zzMd), zz_ev tX10_newSetOf 30 L (.int a1 :: .int a0 :: .ref 10 :: r) M = bif zz_cat8 r then zz_backN (zz_ev tX10_newSetOf) 33 L r (fX10_read [.ref 10, .int a0, .int a1] M) else none) ∧
  (∀ (L : zzLc) (a0 a1 : Int32) (r : List Value) (M : zzMd), zz_ev tX10_newSetOf 30 L (.int a1 :: .int a0 :: .ref 6 :: r) M = bif zz_cat8 r then zz_backN (zz_ev tX10_newSetOf) 33 L r (fX10_read [.ref 6, .int a0, .int a1] M) else none) ∧
  (∀ (L : zzLc) (a0 a1 : Int32) (r : List Value) (M : zzMd), zz_ev tX10_newSetOf 30 L (.int a1 :: .int a0 :: .ref 1 :: r) M = bif zz_cat8 r then zz_backN (zz_ev tX10_newSetOf) 33 L r (fX10_read [.ref 1, .int a0, .int a1] M) else none) ∧
  (∀ L st M, zz_ev tX10_newSetOf 33 L st M = zo_iload 2 34 (zz_ev tX10_newSetOf) L st M) ∧
  (∀ L st M, zz_ev tX10_newSetOf 34 L st M = zo_icmp (fun x y => decide (¬ x = y)) 39 37 (zz_ev tX10_newSetOf) L st M) ∧
  (∀ L st M, zz_ev tX10_newSetOf 37 L st M = zo_iload 3 38 (zz_ev tX10_newSetOf) L st M) ∧
  (∀ L st M, zz_ev tX10_newSetOf 38 L st M = zo_iret false (zz_ev tX10_newSetOf) L st M) ∧
  (∀ L st M, zz_ev tX10_newSetOf 39 L st M = zo_iinc 3 1 42 (zz_ev tX10_newSetOf) L st M) ∧
  (∀ L st M, zz_ev tX10_newSetOf 42 L st M = zo_goto 9 (zz_ev tX10_newSetOf) L st M) ∧
  (∀ L st M, zz_ev tX10_newSetOf 45 L st M = zo_pushI (-1) 46 (zz_ev tX10_newSetOf) L st M) ∧
  (∀ L st M, zz_ev tX10_newSetOf 46 L st M = zo_iret false (zz_ev tX10_newSetOf) L st M) :=
  ⟨zz_1 rfl tl_X10_newSetOf, zz_1 rfl tl_X10_newSetOf, zz_1 rfl tl_X10_newSetOf, fun L a0 a1 r M => (zz_1 rfl tl_X10_newSetOf _ _ _).trans rfl, fun L a0 a1 r M => (zz_1 rfl tl_X10_newSetOf _ _ _).trans rfl, fun L a0 a1 r M => (zz_1 rfl tl_X10_newSetOf _ _ _).trans rfl, fun L a0 a1 r M => (zz_1 rfl tl_X10_newSetOf _ _ _).trans rfl, fun L a0 a1 r M => (zz_1 rfl tl_X10_newSetOf _ _ _).trans rfl, fun L a0 a1 r M => (zz_1 rfl tl_X10_newSetOf _ _ _).trans rfl, fun L a0 a1 r M => (zz_1 rfl tl_X10_newSetOf _ _ _).trans rfl, fun L a0 a1 r M => (zz_1 rfl tl_X10_newSetOf _ _ _).trans rfl, fun L a0 a1 r M => (zz_1 rfl tl_X10_newSetOf _ _ _).trans rfl, zz_1 rfl tl_X10_newSetOf, zz_1 rfl tl_X10_newSetOf, zz_1 rfl tl_X10_newSetOf, zz_1 rfl tl_X10_newSetOf, fun L r M => (zz_1 rfl tl_X10_newSetOf _ _ _).trans rfl, fun L r M => (zz_1 rfl tl_X10_newSetOf _ _ _).trans rfl, fun L r M => (zz_1 rfl tl_X10_newSetOf _ _ _).trans rfl, fun L r M => (zz_1 rfl tl_X10_newSetOf _ _ _).trans rfl, fun L r M => (zz_1 rfl tl_X10_newSetOf _ _ _).trans rfl, fun L r M => (zz_1 rfl tl_X10_newSetOf _ _ _).trans rfl, fun L r M => (zz_1 rfl tl_X10_newSetOf _ _ _).trans rfl, fun L r M => (zz_1 rfl tl_X10_newSetOf _ _ _).trans rfl, fun L r M => (zz_1 rfl tl_X10_newSetOf _ _ _).trans rfl, zz_1 rfl tl_X10_newSetOf, zz_1 rfl tl_X10_newSetOf, zz_1 rfl tl_X10_newSetOf, zz_1 rfl tl_X10_newSetOf, zz_1 rfl tl_X10_newSetOf, fun L a0 a1 a2 r M => (zz_1 rfl tl_X10_newSetOf _ _ _).trans rfl, fun L a0 a1 a2 r M => (zz_1 rfl tl_X10_newSetOf _ _ _).trans rfl, fun L a0 a1 a2 r M => (zz_1 rfl tl_X10_newSetOf _ _ _).trans rfl, fun L a0 a1 a2 r M => (zz_1 rfl tl_X10_newSetOf _ _ _).trans rfl, fun L a0 a1 a2 r M => (zz_1 rfl tl_X10_newSetOf _ _ _).trans rfl, fun L a0 a1 a2 r M => (zz_1 rfl tl_X10_newSetOf _ _ _).trans rfl, fun L a0 a1 a2 r M => (zz_1 rfl tl_X10_newSetOf _ _ _).trans rfl, fun L a0 a1 a2 r M => (zz_1 rfl tl_X10_newSetOf _ _ _).trans rfl, fun L a0 a1 a2 r M => (zz_1 rfl tl_X10_newSetOf _ _ _).trans rfl, zz_1 rfl tl_X10_newSetOf, zz_1 rfl tl_X10_newSetOf, zz_1 rfl tl_X10_newSetOf, zz_1 rfl tl_X10_newSetOf, fun L a0 a1 r M => (zz_1 rfl tl_X10_newSetOf _ _ _).trans rfl, fun L a0 a1 r M => (zz_1 rfl tl_X10_newSetOf _ _ _).trans rfl, fun L a0 a1 r M => (zz_1 rfl tl_X10_newSetOf _ _ _).trans rfl, fun L a0 a1 r M => (zz_1 rfl tl_X10_newSetOf _ _ _).trans rfl, fun L a0 a1 r M => (zz_1 rfl tl_X10_newSetOf _ _ _).trans rfl, fun L a0 a1 r M => (zz_1 rfl tl_X10_newSetOf _ _ _).trans rfl, fun L a0 a1 r M => (zz_1 rfl tl_X10_newSetOf _ _ _).trans rfl, fun L a0 a1 r M => (zz_1 rfl tl_X10_newSetOf _ _ _).trans rfl, fun L a0 a1 r M => (zz_1 rfl tl_X10_newSetOf _ _ _).trans rfl, zz_1 rfl tl_X10_newSetOf, zz_1 rfl tl_X10_newSetOf, zz_1 rfl tl_X10_newSetOf, zz_1 rfl tl_X10_newSetOf, zz_1 rfl tl_X10_newSetOf, zz_1 rfl tl_X10_newSetOf, zz_1 rfl tl_X10_newSetOf, zz_1 rfl tl_X10_newSetOf⟩
set_option maxRecDepth 100000 in
theorem e_X10_newSetOf_9 : (∀ L st M, zz_ev tX10_newSetOf 9 L st M = zo_iload 3 10 (zz_ev tX10_newSetOf) L st M) := zz_1 rfl tl_X10_newSetOf
set_option maxRecDepth 100000 in
theorem s_X10_newSetOf (a0 : Int32) (v : Nat) (M : zzMd) : fX10_newSetOf [.ref v, .int a0] M = zz_ev tX10_newSetOf 0 [some (.ref v), some (.int a0), none, none] [] M := rfl
set_option maxRecDepth 100000 in
theorem e_X9_livingPods : (∀ L st M, zz_ev tX9_livingPods 0 L st M = zo_pushI 0 1 (zz_ev tX9_livingPods) L st M) ∧
  (∀ L st M, zz_ev tX9_livingPods 1 L st M = zo_istore 1 2 (zz_ev tX9_livingPods) L st M) ∧
  (∀ L st M, zz_ev tX9_livingPods 2 L st M = zo_pushI 0 3 (zz_ev tX9_livingPods) L st M) ∧
  (∀ L st M, zz_ev tX9_livingPods 3 L st M = zo_istore 2 4 (zz_ev tX9_livingPods) L st M) ∧
  (∀ L st M, zz_ev tX9_livingPods 5 L st M = zo_aload 0 6 (zz_ev tX9_livingPods) L st M) ∧
  (∀ (L : zzLc) (r : List Value) (M : zzMd), zz_ev tX9_livingPods 6 L (.ref 1 :: r) M = zz_ev tX9_livingPods 9 L (.int (M.1 1 2) :: r) M) ∧
  (∀ L st M, zz_ev tX9_livingPods 9 L st M = zo_icmp (fun x y => decide (y ≤ x)) 48 12 (zz_ev tX9_livingPods) L st M) ∧
  (∀ L st M, zz_ev tX9_livingPods 12 L st M = zo_iload 1 13 (zz_ev tX9_livingPods) L st M) ∧
  (∀ L st M, zz_ev tX9_livingPods 13 L st M = zo_aload 0 14 (zz_ev tX9_livingPods) L st M) ∧
  (∀ L st M, zz_ev tX9_livingPods 14 L st M = zo_iload 2 15 (zz_ev tX9_livingPods) L st M) ∧
  (∀ L st M, zz_ev tX9_livingPods 15 L st M = zo_pushI 23 17 (zz_ev tX9_livingPods) L st M) ∧
  (∀ (L : zzLc) (a0 a1 : Int32) (r : List Value) (M : zzMd), zz_ev tX9_livingPods 17 L (.int a1 :: .int a0 :: .ref 1 :: r) M = bif zz_cat8 r then zz_backN (zz_ev tX9_livingPods) 20 L r (fX10_read [.ref 1, .int a0, .int a1] M) else none) ∧
  (∀ L st M, zz_ev tX9_livingPods 20 L st M = zo_pushI 2 21 (zz_ev tX9_livingPods) L st M) ∧
  (∀ L st M, zz_ev tX9_livingPods 21 L st M = zo_icmp (fun x y => decide (¬ x = y)) 39 24 (zz_ev tX9_livingPods) L st M) ∧
  (∀ L st M, zz_ev tX9_livingPods 24 L st M = zo_aload 0 25 (zz_ev tX9_livingPods) L st M) ∧
  (∀ L st M, zz_ev tX9_livingPods 25 L st M = zo_iload 2 26 (zz_ev tX9_livingPods) L st M) ∧
  (∀ L st M, zz_ev tX9_livingPods 26 L st M = zo_pushI 25 28 (zz_ev tX9_livingPods) L st M) ∧
  (∀ (L : zzLc) (a0 a1 : Int32) (r : List Value) (M : zzMd), zz_ev tX9_livingPods 28 L (.int a1 :: .int a0 :: .ref 1 :: r) M = bif zz_cat8 r then zz_backN (zz_ev tX9_livingPods) 31 L r (fX10_read [.ref 1, .int a0, .int a1] M) else none) ∧
  (∀ L st M, zz_ev tX9_livingPods 31 L st M = zo_pushI 4 32 (zz_ev tX9_livingPods) L st M) ∧
  (∀ L st M, zz_ev tX9_livingPods 32 L st M = zo_icmp (fun x y => decide (x = y)) 39 35 (zz_ev tX9_livingPods) L st M) ∧
  (∀ L st M, zz_ev tX9_livingPods 35 L st M = zo_pushI 1 36 (zz_ev tX9_livingPods) L st M) ∧
  (∀ L st M, zz_ev tX9_livingPods 36 L st M = zo_goto 40 (zz_ev tX9_livingPods) L st M) ∧
  (∀ L st M, zz_ev tX9_livingPods 39 L st M = zo_pushI 0 40 (zz_ev tX9_livingPods) L st M) ∧
  (∀ L st M, zz_ev tX9_livingPods 40 L st M = zo_ii (fun x y => x + y) 41 (zz_ev tX9_livingPods) L st M) ∧
  (∀ L st M, zz_ev tX9_livingPods 41 L st M = zo_istore 1 42 (zz_ev tX9_livingPods) L st M) ∧
  (∀ L st M, zz_ev tX9_livingPods 42 L st M = zo_iinc 2 1 45 (zz_ev tX9_livingPods) L st M) ∧
  (∀ L st M, zz_ev tX9_livingPods 45 L st M = zo_goto 4 (zz_ev tX9_livingPods) L st M) ∧
  (∀ L st M, zz_ev tX9_livingPods 48 L st M = zo_iload 1 49 (zz_ev tX9_livingPods) L st M) ∧
  (∀ L st M, zz_ev tX9_livingPods 49 L st M = zo_iret false (zz_ev tX9_livingPods) L st M) :=
  ⟨zz_1 rfl tl_X9_livingPods, zz_1 rfl tl_X9_livingPods, zz_1 rfl tl_X9_livingPods, zz_1 rfl tl_X9_livingPods, zz_1 rfl tl_X9_livingPods, fun L r M => (zz_1 rfl tl_X9_livingPods _ _ _).trans rfl, zz_1 rfl tl_X9_livingPods, zz_1 rfl tl_X9_livingPods, zz_1 rfl tl_X9_livingPods, zz_1 rfl tl_X9_livingPods, zz_1 rfl tl_X9_livingPods, fun L a0 a1 r M => (zz_1 rfl tl_X9_livingPods _ _ _).trans rfl, zz_1 rfl tl_X9_livingPods, zz_1 rfl tl_X9_livingPods, zz_1 rfl tl_X9_livingPods, zz_1 rfl tl_X9_livingPods, zz_1 rfl tl_X9_livingPods, fun L a0 a1 r M => (zz_1 rfl tl_X9_livingPods _ _ _).trans rfl, zz_1 rfl tl_X9_livingPods, zz_1 rfl tl_X9_livingPods, zz_1 rfl tl_X9_livingPods, zz_1 rfl tl_X9_livingPods, zz_1 rfl tl_X9_livingPods, zz_1 rfl tl_X9_livingPods, zz_1 rfl tl_X9_livingPods, zz_1 rfl tl_X9_livingPods, zz_1 rfl tl_X9_livingPods, zz_1 rfl tl_X9_livingPods, zz_1 rfl tl_X9_livingPods⟩
set_option maxRecDepth 100000 in
theorem e_X9_livingPods_4 : (∀ L st M, zz_ev tX9_livingPods 4 L st M = zo_iload 2 5 (zz_ev tX9_livingPods) L st M) := zz_1 rfl tl_X9_livingPods
set_option maxRecDepth 100000 in
theorem s_X9_livingPods (v : Nat) (M : zzMd) : fX9_livingPods [.ref v] M = zz_ev tX9_livingPods 0 [some (.ref v), none, none] [] M := rfl
set_option maxRecDepth 100000 in
theorem e_X9_draftNew : (∀ L st M, zz_ev tX9_draftNew 0 L st M = zo_pushI 0 1 (zz_ev tX9_draftNew) L st M) ∧
  (∀ L st M, zz_ev tX9_draftNew 1 L st M = zo_istore 3 2 (zz_ev tX9_draftNew) L st M) ∧
  (∀ L st M, zz_ev tX9_draftNew 3 L st M = zo_pushI 11 5 (zz_ev tX9_draftNew) L st M) ∧
  (∀ L st M, zz_ev tX9_draftNew 5 L st M = zo_icmp (fun x y => decide (y ≤ x)) 35 8 (zz_ev tX9_draftNew) L st M) ∧
  (∀ L st M, zz_ev tX9_draftNew 8 L st M = zo_aload 0 9 (zz_ev tX9_draftNew) L st M) ∧
  (∀ (L : zzLc) (r : List Value) (M : zzMd), zz_ev tX9_draftNew 9 L (.ref 1 :: r) M = zz_ev tX9_draftNew 12 L (.ref 17 :: r) M) ∧
  (∀ L st M, zz_ev tX9_draftNew 12 L st M = zo_iload 3 13 (zz_ev tX9_draftNew) L st M) ∧
  (∀ L st M, zz_ev tX9_draftNew 13 L st M = zo_gets 1002 16 (zz_ev tX9_draftNew) L st M) ∧
  (∀ L st M, zz_ev tX9_draftNew 16 L st M = zo_iload 3 17 (zz_ev tX9_draftNew) L st M) ∧
  (∀ L st M, zz_ev tX9_draftNew 17 L st M = zo_iald zzSC zzSTC 18 (zz_ev tX9_draftNew) L st M) ∧
  (∀ L st M, zz_ev tX9_draftNew 18 L st M = zo_iast zzSC 19 (zz_ev tX9_draftNew) L st M) ∧
  (∀ L st M, zz_ev tX9_draftNew 19 L st M = zo_aload 0 20 (zz_ev tX9_draftNew) L st M) ∧
  (∀ (L : zzLc) (r : List Value) (M : zzMd), zz_ev tX9_draftNew 20 L (.ref 1 :: r) M = zz_ev tX9_draftNew 23 L (.ref 17 :: r) M) ∧
  (∀ L st M, zz_ev tX9_draftNew 23 L st M = zo_pushI 11 25 (zz_ev tX9_draftNew) L st M) ∧
  (∀ L st M, zz_ev tX9_draftNew 25 L st M = zo_iload 3 26 (zz_ev tX9_draftNew) L st M) ∧
  (∀ L st M, zz_ev tX9_draftNew 26 L st M = zo_ii (fun x y => x + y) 27 (zz_ev tX9_draftNew) L st M) ∧
  (∀ L st M, zz_ev tX9_draftNew 27 L st M = zo_iload 1 28 (zz_ev tX9_draftNew) L st M) ∧
  (∀ L st M, zz_ev tX9_draftNew 28 L st M = zo_iast zzSC 29 (zz_ev tX9_draftNew) L st M) ∧
  (∀ L st M, zz_ev tX9_draftNew 29 L st M = zo_iinc 3 1 32 (zz_ev tX9_draftNew) L st M) ∧
  (∀ L st M, zz_ev tX9_draftNew 32 L st M = zo_goto 2 (zz_ev tX9_draftNew) L st M) ∧
  (∀ L st M, zz_ev tX9_draftNew 35 L st M = zo_aload 0 36 (zz_ev tX9_draftNew) L st M) ∧
  (∀ (L : zzLc) (r : List Value) (M : zzMd), zz_ev tX9_draftNew 36 L (.ref 1 :: r) M = zz_ev tX9_draftNew 39 L (.ref 17 :: r) M) ∧
  (∀ L st M, zz_ev tX9_draftNew 39 L st M = zo_pushI 23 41 (zz_ev tX9_draftNew) L st M) ∧
  (∀ L st M, zz_ev tX9_draftNew 41 L st M = zo_iload 2 42 (zz_ev tX9_draftNew) L st M) ∧
  (∀ L st M, zz_ev tX9_draftNew 42 L st M = zo_iast zzSC 43 (zz_ev tX9_draftNew) L st M) ∧
  (∀ L st M, zz_ev tX9_draftNew 43 L st M = zo_aload 0 44 (zz_ev tX9_draftNew) L st M) ∧
  (∀ (L : zzLc) (r : List Value) (M : zzMd), zz_ev tX9_draftNew 44 L (.ref 1 :: r) M = zz_ev tX9_draftNew 47 L (.ref 17 :: r) M) ∧
  (∀ L st M, zz_ev tX9_draftNew 47 L st M = zo_pushI 25 49 (zz_ev tX9_draftNew) L st M) ∧
  (∀ L st M, zz_ev tX9_draftNew 49 L st M = zo_pushI 0 50 (zz_ev tX9_draftNew) L st M) ∧
  (∀ L st M, zz_ev tX9_draftNew 50 L st M = zo_iast zzSC 51 (zz_ev tX9_draftNew) L st M) ∧
  (∀ L st M, zz_ev tX9_draftNew 51 L st M = zo_aload 0 52 (zz_ev tX9_draftNew) L st M) ∧
  (∀ (L : zzLc) (r : List Value) (M : zzMd), zz_ev tX9_draftNew 52 L (.ref 1 :: r) M = zz_ev tX9_draftNew 55 L (.ref 17 :: r) M) ∧
  (∀ L st M, zz_ev tX9_draftNew 55 L st M = zo_pushI 26 57 (zz_ev tX9_draftNew) L st M) ∧
  (∀ L st M, zz_ev tX9_draftNew 57 L st M = zo_pushI 0 58 (zz_ev tX9_draftNew) L st M) ∧
  (∀ L st M, zz_ev tX9_draftNew 58 L st M = zo_iast zzSC 59 (zz_ev tX9_draftNew) L st M) ∧
  (∀ L st M, zz_ev tX9_draftNew 59 L st M = zo_aload 0 60 (zz_ev tX9_draftNew) L st M) ∧
  (∀ (L : zzLc) (r : List Value) (M : zzMd), zz_ev tX9_draftNew 60 L (.ref 1 :: r) M = zz_ev tX9_draftNew 63 L (.ref 17 :: r) M) ∧
  (∀ L st M, zz_ev tX9_draftNew 63 L st M = zo_pushI 27 65 (zz_ev tX9_draftNew) L st M) ∧
  (∀ L st M, zz_ev tX9_draftNew 65 L st M = zo_pushI 1 66 (zz_ev tX9_draftNew) L st M) ∧
  (∀ L st M, zz_ev tX9_draftNew 66 L st M = zo_iast zzSC 67 (zz_ev tX9_draftNew) L st M) ∧
  (∀ L st M, zz_ev tX9_draftNew 67 L st M = zo_aload 0 68 (zz_ev tX9_draftNew) L st M) ∧
  (∀ (L : zzLc) (r : List Value) (M : zzMd), zz_ev tX9_draftNew 68 L (.ref 1 :: r) M = zz_ev tX9_draftNew 71 L (.ref 17 :: r) M) ∧
  (∀ L st M, zz_ev tX9_draftNew 71 L st M = zo_pushI 28 73 (zz_ev tX9_draftNew) L st M) ∧
  (∀ L st M, zz_ev tX9_draftNew 73 L st M = zo_pushI (-1) 74 (zz_ev tX9_draftNew) L st M) ∧
  (∀ L st M, zz_ev tX9_draftNew 74 L st M = zo_iast zzSC 75 (zz_ev tX9_draftNew) L st M) ∧
  (∀ L st M, zz_ev tX9_draftNew 75 L st M = zo_aload 0 76 (zz_ev tX9_draftNew) L st M) ∧
  (∀ (L : zzLc) (r : List Value) (M : zzMd), zz_ev tX9_draftNew 76 L (.ref 1 :: r) M = zz_ev tX9_draftNew 79 L (.ref 17 :: r) M) ∧
  (∀ L st M, zz_ev tX9_draftNew 79 L st M = zo_pushI 29 81 (zz_ev tX9_draftNew) L st M) ∧
  (∀ L st M, zz_ev tX9_draftNew 81 L st M = zo_pushI 0 82 (zz_ev tX9_draftNew) L st M) ∧
  (∀ L st M, zz_ev tX9_draftNew 82 L st M = zo_iast zzSC 83 (zz_ev tX9_draftNew) L st M) ∧
  (∀ L st M, zz_ev tX9_draftNew 83 L st M = zo_aload 0 84 (zz_ev tX9_draftNew) L st M) ∧
  (∀ (L : zzLc) (r : List Value) (M : zzMd), zz_ev tX9_draftNew 84 L (.ref 1 :: r) M = zz_ev tX9_draftNew 87 L (.ref 17 :: r) M) ∧
  (∀ L st M, zz_ev tX9_draftNew 87 L st M = zo_pushI 30 89 (zz_ev tX9_draftNew) L st M) ∧
  (∀ L st M, zz_ev tX9_draftNew 89 L st M = zo_pushI 0 90 (zz_ev tX9_draftNew) L st M) ∧
  (∀ L st M, zz_ev tX9_draftNew 90 L st M = zo_iast zzSC 91 (zz_ev tX9_draftNew) L st M) ∧
  (∀ L st M, zz_ev tX9_draftNew 91 L st M = zo_aload 0 92 (zz_ev tX9_draftNew) L st M) ∧
  (∀ (L : zzLc) (r : List Value) (M : zzMd), zz_ev tX9_draftNew 92 L (.ref 1 :: r) M = zz_ev tX9_draftNew 95 L (.ref 17 :: r) M) ∧
  (∀ L st M, zz_ev tX9_draftNew 95 L st M = zo_pushI 31 97 (zz_ev tX9_draftNew) L st M) ∧
  (∀ L st M, zz_ev tX9_draftNew 97 L st M = zo_pushI 0 98 (zz_ev tX9_draftNew) L st M) ∧
  (∀ L st M, zz_ev tX9_draftNew 98 L st M = zo_iast zzSC 99 (zz_ev tX9_draftNew) L st M) ∧
  (∀ L st M, zz_ev tX9_draftNew 99 L st M = zo_ret (zz_ev tX9_draftNew) L st M) :=
  ⟨zz_1 rfl tl_X9_draftNew, zz_1 rfl tl_X9_draftNew, zz_1 rfl tl_X9_draftNew, zz_1 rfl tl_X9_draftNew, zz_1 rfl tl_X9_draftNew, fun L r M => (zz_1 rfl tl_X9_draftNew _ _ _).trans rfl, zz_1 rfl tl_X9_draftNew, zz_1 rfl tl_X9_draftNew, zz_1 rfl tl_X9_draftNew, zz_1 rfl tl_X9_draftNew, zz_1 rfl tl_X9_draftNew, zz_1 rfl tl_X9_draftNew, fun L r M => (zz_1 rfl tl_X9_draftNew _ _ _).trans rfl, zz_1 rfl tl_X9_draftNew, zz_1 rfl tl_X9_draftNew, zz_1 rfl tl_X9_draftNew, zz_1 rfl tl_X9_draftNew, zz_1 rfl tl_X9_draftNew, zz_1 rfl tl_X9_draftNew, zz_1 rfl tl_X9_draftNew, zz_1 rfl tl_X9_draftNew, fun L r M => (zz_1 rfl tl_X9_draftNew _ _ _).trans rfl, zz_1 rfl tl_X9_draftNew, zz_1 rfl tl_X9_draftNew, zz_1 rfl tl_X9_draftNew, zz_1 rfl tl_X9_draftNew, fun L r M => (zz_1 rfl tl_X9_draftNew _ _ _).trans rfl, zz_1 rfl tl_X9_draftNew, zz_1 rfl tl_X9_draftNew, zz_1 rfl tl_X9_draftNew, zz_1 rfl tl_X9_draftNew, fun L r M => (zz_1 rfl tl_X9_draftNew _ _ _).trans rfl, zz_1 rfl tl_X9_draftNew, zz_1 rfl tl_X9_draftNew, zz_1 rfl tl_X9_draftNew, zz_1 rfl tl_X9_draftNew, fun L r M => (zz_1 rfl tl_X9_draftNew _ _ _).trans rfl, zz_1 rfl tl_X9_draftNew, zz_1 rfl tl_X9_draftNew, zz_1 rfl tl_X9_draftNew, zz_1 rfl tl_X9_draftNew, fun L r M => (zz_1 rfl tl_X9_draftNew _ _ _).trans rfl, zz_1 rfl tl_X9_draftNew, zz_1 rfl tl_X9_draftNew, zz_1 rfl tl_X9_draftNew, zz_1 rfl tl_X9_draftNew, fun L r M => (zz_1 rfl tl_X9_draftNew _ _ _).trans rfl, zz_1 rfl tl_X9_draftNew, zz_1 rfl tl_X9_draftNew, zz_1 rfl tl_X9_draftNew, zz_1 rfl tl_X9_draftNew, fun L r M => (zz_1 rfl tl_X9_draftNew _ _ _).trans rfl, zz_1 rfl tl_X9_draftNew, zz_1 rfl tl_X9_draftNew, zz_1 rfl tl_X9_draftNew, zz_1 rfl tl_X9_draftNew, fun L r M => (zz_1 rfl tl_X9_draftNew _ _ _).trans rfl, zz_1 rfl tl_X9_draftNew, zz_1 rfl tl_X9_draftNew, zz_1 rfl tl_X9_draftNew, zz_1 rfl tl_X9_draftNew⟩
set_option maxRecDepth 100000 in
theorem e_X9_draftNew_2 : (∀ L st M, zz_ev tX9_draftNew 2 L st M = zo_iload 3 3 (zz_ev tX9_draftNew) L st M) := zz_1 rfl tl_X9_draftNew
set_option maxRecDepth 100000 in
theorem s_X9_draftNew (a0 a1 : Int32) (v : Nat) (M : zzMd) : fX9_draftNew [.ref v, .int a0, .int a1] M = zz_ev tX9_draftNew 0 [some (.ref v), some (.int a0), some (.int a1), none] [] M := rfl
set_option maxRecDepth 100000 in
theorem e_X9_open : (∀ L st M, zz_ev tX9_open 0 L st M = zo_aload 0 1 (zz_ev tX9_open) L st M) ∧
  (∀ (L : zzLc) (r : List Value) (M : zzMd), zz_ev tX9_open 1 L (.ref 1 :: r) M = zz_ev tX9_open 4 L (.int (M.1 1 2) :: r) M) ∧
  (∀ L st M, zz_ev tX9_open 4 L st M = zo_istore 5 6 (zz_ev tX9_open) L st M) ∧
  (∀ L st M, zz_ev tX9_open 6 L st M = zo_iload 5 8 (zz_ev tX9_open) L st M) ∧
  (∀ L st M, zz_ev tX9_open 8 L st M = zo_pushI 60 10 (zz_ev tX9_open) L st M) ∧
  (∀ L st M, zz_ev tX9_open 10 L st M = zo_icmp (fun x y => decide (y ≤ x)) 32 13 (zz_ev tX9_open) L st M) ∧
  (∀ L st M, zz_ev tX9_open 13 L st M = zo_iload 2 14 (zz_ev tX9_open) L st M) ∧
  (∀ L st M, zz_ev tX9_open 14 L st M = zo_pushI 2 15 (zz_ev tX9_open) L st M) ∧
  (∀ L st M, zz_ev tX9_open 15 L st M = zo_icmp (fun x y => decide (¬ x = y)) 34 18 (zz_ev tX9_open) L st M) ∧
  (∀ L st M, zz_ev tX9_open 18 L st M = zo_aload 0 19 (zz_ev tX9_open) L st M) ∧
  (∀ (L : zzLc) (r : List Value) (M : zzMd), zz_ev tX9_open 19 L (.ref 1 :: r) M = bif zz_cat8 r then zz_backN (zz_ev tX9_open) 22 L r (fX9_livingPods [.ref 1] M) else none) ∧
  (∀ L st M, zz_ev tX9_open 22 L st M = zo_aload 0 23 (zz_ev tX9_open) L st M) ∧
  (∀ (L : zzLc) (r : List Value) (M : zzMd), zz_ev tX9_open 23 L (.ref 1 :: r) M = zz_ev tX9_open 26 L (.ref 2 :: r) M) ∧
  (∀ (L : zzLc) (r : List Value) (M : zzMd), zz_ev tX9_open 26 L (.ref 2 :: r) M = zz_ev tX9_open 29 L (.int (M.1 2 5) :: r) M) ∧
  (∀ L st M, zz_ev tX9_open 29 L st M = zo_icmp (fun x y => decide (x < y)) 34 32 (zz_ev tX9_open) L st M) ∧
  (∀ L st M, zz_ev tX9_open 32 L st M = zo_pushI (-1) 33 (zz_ev tX9_open) L st M) ∧
  (∀ L st M, zz_ev tX9_open 33 L st M = zo_iret false (zz_ev tX9_open) L st M) ∧
  (∀ L st M, zz_ev tX9_open 34 L st M = zo_aload 0 35 (zz_ev tX9_open) L st M) ∧
  (∀ L st M, zz_ev tX9_open 35 L st M = zo_iload 1 36 (zz_ev tX9_open) L st M) ∧
  (∀ L st M, zz_ev tX9_open 36 L st M = zo_iload 2 37 (zz_ev tX9_open) L st M) ∧
  (∀ (L : zzLc) (a0 a1 : Int32) (r : List Value) (M : zzMd), zz_ev tX9_open 37 L (.int a1 :: .int a0 :: .ref 1 :: r) M = bif zz_cat8 r then zz_backN (zz_ev tX9_open) 40 L r (fX9_draftNew [.ref 1, .int a0, .int a1] M) else none) ∧
  (∀ L st M, zz_ev tX9_open 40 L st M = zo_aload 0 41 (zz_ev tX9_open) L st M) ∧
  (∀ (L : zzLc) (r : List Value) (M : zzMd), zz_ev tX9_open 41 L (.ref 1 :: r) M = zz_ev tX9_open 44 L (.ref 17 :: r) M) ∧
  (∀ L st M, zz_ev tX9_open 44 L st M = zo_pushI 22 46 (zz_ev tX9_open) L st M) ∧
  (∀ L st M, zz_ev tX9_open 46 L st M = zo_iload 5 48 (zz_ev tX9_open) L st M) ∧
  (∀ L st M, zz_ev tX9_open 48 L st M = zo_iast zzSC 49 (zz_ev tX9_open) L st M) ∧
  (∀ L st M, zz_ev tX9_open 49 L st M = zo_aload 0 50 (zz_ev tX9_open) L st M) ∧
  (∀ (L : zzLc) (r : List Value) (M : zzMd), zz_ev tX9_open 50 L (.ref 1 :: r) M = zz_ev tX9_open 53 L (.ref 17 :: r) M) ∧
  (∀ L st M, zz_ev tX9_open 53 L st M = zo_pushI 24 55 (zz_ev tX9_open) L st M) ∧
  (∀ L st M, zz_ev tX9_open 55 L st M = zo_iload 3 56 (zz_ev tX9_open) L st M) ∧
  (∀ L st M, zz_ev tX9_open 56 L st M = zo_iast zzSC 57 (zz_ev tX9_open) L st M) ∧
  (∀ L st M, zz_ev tX9_open 57 L st M = zo_aload 0 58 (zz_ev tX9_open) L st M) ∧
  (∀ (L : zzLc) (r : List Value) (M : zzMd), zz_ev tX9_open 58 L (.ref 1 :: r) M = zz_ev tX9_open 61 L (.ref 17 :: r) M) ∧
  (∀ L st M, zz_ev tX9_open 61 L st M = zo_pushI 1 62 (zz_ev tX9_open) L st M) ∧
  (∀ L st M, zz_ev tX9_open 62 L st M = zo_iload 4 64 (zz_ev tX9_open) L st M) ∧
  (∀ L st M, zz_ev tX9_open 64 L st M = zo_iast zzSC 65 (zz_ev tX9_open) L st M) ∧
  (∀ L st M, zz_ev tX9_open 65 L st M = zo_aload 0 66 (zz_ev tX9_open) L st M) ∧
  (∀ (L : zzLc) (r : List Value) (M : zzMd), zz_ev tX9_open 66 L (.ref 1 :: r) M = zz_ev tX9_open 69 L (.ref 2 :: r) M) ∧
  (∀ L st M, zz_ev tX9_open 69 L st M = zo_aload 0 70 (zz_ev tX9_open) L st M) ∧
  (∀ (L : zzLc) (r : List Value) (M : zzMd), zz_ev tX9_open 70 L (.ref 1 :: r) M = zz_ev tX9_open 73 L (.ref 17 :: r) M) ∧
  (∀ (L : zzLc) (a0 : Nat) (r : List Value) (M : zzMd), zz_ev tX9_open 73 L (.ref a0 :: .ref 2 :: r) M = bif zz_cat8 r then zz_backN (zz_ev tX9_open) 76 L r (fX0_settles [.ref 2, .ref a0] M) else none) ∧
  (∀ L st M, zz_ev tX9_open 76 L st M = zo_if (fun x => decide (x = 0)) 102 79 (zz_ev tX9_open) L st M) ∧
  (∀ L st M, zz_ev tX9_open 79 L st M = zo_aload 0 80 (zz_ev tX9_open) L st M) ∧
  (∀ (L : zzLc) (r : List Value) (M : zzMd), zz_ev tX9_open 80 L (.ref 1 :: r) M = zz_ev tX9_open 83 L (.ref 2 :: r) M) ∧
  (∀ L st M, zz_ev tX9_open 83 L st M = zo_aload 0 84 (zz_ev tX9_open) L st M) ∧
  (∀ (L : zzLc) (r : List Value) (M : zzMd), zz_ev tX9_open 84 L (.ref 1 :: r) M = zz_ev tX9_open 87 L (.ref 17 :: r) M) ∧
  (∀ (L : zzLc) (a0 : Nat) (r : List Value) (M : zzMd), zz_ev tX9_open 87 L (.ref a0 :: .ref 2 :: r) M = bif zz_cat8 r then zz_backN (zz_ev tX9_open) 90 L r (fX0_allows [.ref 2, .ref a0] M) else none) ∧
  (∀ L st M, zz_ev tX9_open 90 L st M = zo_if (fun x => decide (x = 0)) 102 93 (zz_ev tX9_open) L st M) ∧
  (∀ L st M, zz_ev tX9_open 93 L st M = zo_aload 0 94 (zz_ev tX9_open) L st M) ∧
  (∀ L st M, zz_ev tX9_open 94 L st M = zo_iload 5 96 (zz_ev tX9_open) L st M) ∧
  (∀ (L : zzLc) (a0 : Int32) (r : List Value) (M : zzMd), zz_ev tX9_open 96 L (.int a0 :: .ref 1 :: r) M = bif zz_cat8 r then zz_backN (zz_ev tX9_open) 99 L r (fX9_write [.ref 1, .int a0] M) else none) ∧
  (∀ L st M, zz_ev tX9_open 99 L st M = zo_if (fun x => decide (¬ x = 0)) 104 102 (zz_ev tX9_open) L st M) ∧
  (∀ L st M, zz_ev tX9_open 102 L st M = zo_pushI (-1) 103 (zz_ev tX9_open) L st M) ∧
  (∀ L st M, zz_ev tX9_open 103 L st M = zo_iret false (zz_ev tX9_open) L st M) ∧
  (∀ L st M, zz_ev tX9_open 104 L st M = zo_aload 0 105 (zz_ev tX9_open) L st M) ∧
  (∀ (L : zzLc) (r : List Value) (M : zzMd), zz_ev tX9_open 105 L (.ref 1 :: r) M = zz_ev tX9_open 108 L (.ref 16 :: r) M) ∧
  (∀ L st M, zz_ev tX9_open 108 L st M = zo_iload 5 110 (zz_ev tX9_open) L st M) ∧
  (∀ L st M, zz_ev tX9_open 110 L st M = zo_aload 0 111 (zz_ev tX9_open) L st M) ∧
  (∀ (L : zzLc) (r : List Value) (M : zzMd), zz_ev tX9_open 111 L (.ref 1 :: r) M = zz_ev tX9_open 114 L (.int (M.1 1 7) :: r) M) ∧
  (∀ L st M, zz_ev tX9_open 114 L st M = zo_iast zzSC 115 (zz_ev tX9_open) L st M) ∧
  (∀ L st M, zz_ev tX9_open 115 L st M = zo_iload 5 117 (zz_ev tX9_open) L st M) ∧
  (∀ L st M, zz_ev tX9_open 117 L st M = zo_iret false (zz_ev tX9_open) L st M) :=
  ⟨zz_1 rfl tl_X9_open, fun L r M => (zz_1 rfl tl_X9_open _ _ _).trans rfl, zz_1 rfl tl_X9_open, zz_1 rfl tl_X9_open, zz_1 rfl tl_X9_open, zz_1 rfl tl_X9_open, zz_1 rfl tl_X9_open, zz_1 rfl tl_X9_open, zz_1 rfl tl_X9_open, zz_1 rfl tl_X9_open, fun L  r M => (zz_1 rfl tl_X9_open _ _ _).trans rfl, zz_1 rfl tl_X9_open, fun L r M => (zz_1 rfl tl_X9_open _ _ _).trans rfl, fun L r M => (zz_1 rfl tl_X9_open _ _ _).trans rfl, zz_1 rfl tl_X9_open, zz_1 rfl tl_X9_open, zz_1 rfl tl_X9_open, zz_1 rfl tl_X9_open, zz_1 rfl tl_X9_open, zz_1 rfl tl_X9_open, fun L a0 a1 r M => (zz_1 rfl tl_X9_open _ _ _).trans rfl, zz_1 rfl tl_X9_open, fun L r M => (zz_1 rfl tl_X9_open _ _ _).trans rfl, zz_1 rfl tl_X9_open, zz_1 rfl tl_X9_open, zz_1 rfl tl_X9_open, zz_1 rfl tl_X9_open, fun L r M => (zz_1 rfl tl_X9_open _ _ _).trans rfl, zz_1 rfl tl_X9_open, zz_1 rfl tl_X9_open, zz_1 rfl tl_X9_open, zz_1 rfl tl_X9_open, fun L r M => (zz_1 rfl tl_X9_open _ _ _).trans rfl, zz_1 rfl tl_X9_open, zz_1 rfl tl_X9_open, zz_1 rfl tl_X9_open, zz_1 rfl tl_X9_open, fun L r M => (zz_1 rfl tl_X9_open _ _ _).trans rfl, zz_1 rfl tl_X9_open, fun L r M => (zz_1 rfl tl_X9_open _ _ _).trans rfl, fun L a0 r M => (zz_1 rfl tl_X9_open _ _ _).trans rfl, zz_1 rfl tl_X9_open, zz_1 rfl tl_X9_open, fun L r M => (zz_1 rfl tl_X9_open _ _ _).trans rfl, zz_1 rfl tl_X9_open, fun L r M => (zz_1 rfl tl_X9_open _ _ _).trans rfl, fun L a0 r M => (zz_1 rfl tl_X9_open _ _ _).trans rfl, zz_1 rfl tl_X9_open, zz_1 rfl tl_X9_open, zz_1 rfl tl_X9_open, fun L a0 r M => (zz_1 rfl tl_X9_open _ _ _).trans rfl, zz_1 rfl tl_X9_open, zz_1 rfl tl_X9_open, zz_1 rfl tl_X9_open, zz_1 rfl tl_X9_open, fun L r M => (zz_1 rfl tl_X9_open _ _ _).trans rfl, zz_1 rfl tl_X9_open, zz_1 rfl tl_X9_open, fun L r M => (zz_1 rfl tl_X9_open _ _ _).trans rfl, zz_1 rfl tl_X9_open, zz_1 rfl tl_X9_open, zz_1 rfl tl_X9_open⟩
set_option maxRecDepth 100000 in
theorem s_X9_open (a0 a1 a2 a3 : Int32) (v : Nat) (M : zzMd) : fX9_open [.ref v, .int a0, .int a1, .int a2, .int a3] M = zz_ev tX9_open 0 [some (.ref v), some (.int a0), some (.int a1), some (.int a2), some (.int a3), none] [] M := rfl
set_option maxRecDepth 100000 in
theorem e_X9_applyField : (∀ L st M, zz_ev tX9_applyField 0 L st M = zo_aload 0 1 (zz_ev tX9_applyField) L st M) ∧
  (∀ L st M, zz_ev tX9_applyField 1 L st M = zo_iload 2 2 (zz_ev tX9_applyField) L st M) ∧
  (∀ L st M, zz_ev tX9_applyField 2 L st M = zo_pushI 23 4 (zz_ev tX9_applyField) L st M) ∧
  (∀ (L : zzLc) (a0 a1 : Int32) (r : List Value) (M : zzMd), zz_ev tX9_applyField 4 L (.int a1 :: .int a0 :: .ref 1 :: r) M = bif zz_cat8 r then zz_backN (zz_ev tX9_applyField) 7 L r (fX10_read [.ref 1, .int a0, .int a1] M) else none) ∧
  (∀ L st M, zz_ev tX9_applyField 7 L st M = zo_iload 3 8 (zz_ev tX9_applyField) L st M) ∧
  (∀ (L : zzLc) (a0 a1 : Int32) (r : List Value) (M : zzMd), zz_ev tX9_applyField 8 L (.int a1 :: .int a0 :: r) M = bif zz_cat8 r then zz_backN (zz_ev tX9_applyField) 11 L r (fX11_hasField [.int a0, .int a1] M) else none) ∧
  (∀ L st M, zz_ev tX9_applyField 11 L st M = zo_if (fun x => decide (¬ x = 0)) 16 14 (zz_ev tX9_applyField) L st M) ∧
  (∀ L st M, zz_ev tX9_applyField 14 L st M = zo_pushI 0 15 (zz_ev tX9_applyField) L st M) ∧
  (∀ L st M, zz_ev tX9_applyField 15 L st M = zo_iret true (zz_ev tX9_applyField) L st M) ∧
  (∀ L st M, zz_ev tX9_applyField 16 L st M = zo_aload 0 17 (zz_ev tX9_applyField) L st M) ∧
  (∀ L st M, zz_ev tX9_applyField 17 L st M = zo_iload 2 18 (zz_ev tX9_applyField) L st M) ∧
  (∀ (L : zzLc) (a0 : Int32) (r : List Value) (M : zzMd), zz_ev tX9_applyField 18 L (.int a0 :: .ref 1 :: r) M = bif zz_cat8 r then zz_backN (zz_ev tX9_applyField) 21 L r (fX9_draftFrom [.ref 1, .int a0] M) else none) ∧
  (∀ L st M, zz_ev tX9_applyField 21 L st M = zo_aload 0 22 (zz_ev tX9_applyField) L st M) ∧
  (∀ (L : zzLc) (r : List Value) (M : zzMd), zz_ev tX9_applyField 22 L (.ref 1 :: r) M = zz_ev tX9_applyField 25 L (.ref 17 :: r) M) ∧
  (∀ L st M, zz_ev tX9_applyField 25 L st M = zo_iload 3 26 (zz_ev tX9_applyField) L st M) ∧
  (∀ L st M, zz_ev tX9_applyField 26 L st M = zo_iload 4 28 (zz_ev tX9_applyField) L st M) ∧
  (∀ L st M, zz_ev tX9_applyField 28 L st M = zo_iast zzSC 29 (zz_ev tX9_applyField) L st M) ∧
  (∀ L st M, zz_ev tX9_applyField 29 L st M = zo_aload 0 30 (zz_ev tX9_applyField) L st M) ∧
  (∀ (L : zzLc) (r : List Value) (M : zzMd), zz_ev tX9_applyField 30 L (.ref 1 :: r) M = zz_ev tX9_applyField 33 L (.ref 17 :: r) M) ∧
  (∀ L st M, zz_ev tX9_applyField 33 L st M = zo_pushI 11 35 (zz_ev tX9_applyField) L st M) ∧
  (∀ L st M, zz_ev tX9_applyField 35 L st M = zo_iload 3 36 (zz_ev tX9_applyField) L st M) ∧
  (∀ L st M, zz_ev tX9_applyField 36 L st M = zo_ii (fun x y => x + y) 37 (zz_ev tX9_applyField) L st M) ∧
  (∀ L st M, zz_ev tX9_applyField 37 L st M = zo_iload 1 38 (zz_ev tX9_applyField) L st M) ∧
  (∀ L st M, zz_ev tX9_applyField 38 L st M = zo_iast zzSC 39 (zz_ev tX9_applyField) L st M) ∧
  (∀ L st M, zz_ev tX9_applyField 39 L st M = zo_aload 0 40 (zz_ev tX9_applyField) L st M) ∧
  (∀ (L : zzLc) (r : List Value) (M : zzMd), zz_ev tX9_applyField 40 L (.ref 1 :: r) M = zz_ev tX9_applyField 43 L (.ref 2 :: r) M) ∧
  (∀ L st M, zz_ev tX9_applyField 43 L st M = zo_aload 0 44 (zz_ev tX9_applyField) L st M) ∧
  (∀ (L : zzLc) (r : List Value) (M : zzMd), zz_ev tX9_applyField 44 L (.ref 1 :: r) M = zz_ev tX9_applyField 47 L (.ref 17 :: r) M) ∧
  (∀ (L : zzLc) (a0 : Nat) (r : List Value) (M : zzMd), zz_ev tX9_applyField 47 L (.ref a0 :: .ref 2 :: r) M = bif zz_cat8 r then zz_backN (zz_ev tX9_applyField) 50 L r (fX0_settles [.ref 2, .ref a0] M) else none) ∧
  (∀ L st M, zz_ev tX9_applyField 50 L st M = zo_if (fun x => decide (x = 0)) 79 53 (zz_ev tX9_applyField) L st M) ∧
  (∀ L st M, zz_ev tX9_applyField 53 L st M = zo_aload 0 54 (zz_ev tX9_applyField) L st M) ∧
  (∀ (L : zzLc) (r : List Value) (M : zzMd), zz_ev tX9_applyField 54 L (.ref 1 :: r) M = zz_ev tX9_applyField 57 L (.ref 2 :: r) M) ∧
  (∀ L st M, zz_ev tX9_applyField 57 L st M = zo_aload 0 58 (zz_ev tX9_applyField) L st M) ∧
  (∀ (L : zzLc) (r : List Value) (M : zzMd), zz_ev tX9_applyField 58 L (.ref 1 :: r) M = zz_ev tX9_applyField 61 L (.ref 17 :: r) M) ∧
  (∀ (L : zzLc) (a0 : Nat) (r : List Value) (M : zzMd), zz_ev tX9_applyField 61 L (.ref a0 :: .ref 2 :: r) M = bif zz_cat8 r then zz_backN (zz_ev tX9_applyField) 64 L r (fX0_allows [.ref 2, .ref a0] M) else none) ∧
  (∀ L st M, zz_ev tX9_applyField 64 L st M = zo_if (fun x => decide (x = 0)) 79 67 (zz_ev tX9_applyField) L st M) ∧
  (∀ L st M, zz_ev tX9_applyField 67 L st M = zo_aload 0 68 (zz_ev tX9_applyField) L st M) ∧
  (∀ L st M, zz_ev tX9_applyField 68 L st M = zo_iload 2 69 (zz_ev tX9_applyField) L st M) ∧
  (∀ (L : zzLc) (a0 : Int32) (r : List Value) (M : zzMd), zz_ev tX9_applyField 69 L (.int a0 :: .ref 1 :: r) M = bif zz_cat8 r then zz_backN (zz_ev tX9_applyField) 72 L r (fX9_write [.ref 1, .int a0] M) else none) ∧
  (∀ L st M, zz_ev tX9_applyField 72 L st M = zo_if (fun x => decide (x = 0)) 79 75 (zz_ev tX9_applyField) L st M) ∧
  (∀ L st M, zz_ev tX9_applyField 75 L st M = zo_pushI 1 76 (zz_ev tX9_applyField) L st M) ∧
  (∀ L st M, zz_ev tX9_applyField 76 L st M = zo_goto 80 (zz_ev tX9_applyField) L st M) ∧
  (∀ L st M, zz_ev tX9_applyField 79 L st M = zo_pushI 0 80 (zz_ev tX9_applyField) L st M) ∧
  (∀ L st M, zz_ev tX9_applyField 80 L st M = zo_iret true (zz_ev tX9_applyField) L st M) :=
  ⟨zz_1 rfl tl_X9_applyField, zz_1 rfl tl_X9_applyField, zz_1 rfl tl_X9_applyField, fun L a0 a1 r M => (zz_1 rfl tl_X9_applyField _ _ _).trans rfl, zz_1 rfl tl_X9_applyField, fun L a0 a1 r M => (zz_1 rfl tl_X9_applyField _ _ _).trans rfl, zz_1 rfl tl_X9_applyField, zz_1 rfl tl_X9_applyField, zz_1 rfl tl_X9_applyField, zz_1 rfl tl_X9_applyField, zz_1 rfl tl_X9_applyField, fun L a0 r M => (zz_1 rfl tl_X9_applyField _ _ _).trans rfl, zz_1 rfl tl_X9_applyField, fun L r M => (zz_1 rfl tl_X9_applyField _ _ _).trans rfl, zz_1 rfl tl_X9_applyField, zz_1 rfl tl_X9_applyField, zz_1 rfl tl_X9_applyField, zz_1 rfl tl_X9_applyField, fun L r M => (zz_1 rfl tl_X9_applyField _ _ _).trans rfl, zz_1 rfl tl_X9_applyField, zz_1 rfl tl_X9_applyField, zz_1 rfl tl_X9_applyField, zz_1 rfl tl_X9_applyField, zz_1 rfl tl_X9_applyField, zz_1 rfl tl_X9_applyField, fun L r M => (zz_1 rfl tl_X9_applyField _ _ _).trans rfl, zz_1 rfl tl_X9_applyField, fun L r M => (zz_1 rfl tl_X9_applyField _ _ _).trans rfl, fun L a0 r M => (zz_1 rfl tl_X9_applyField _ _ _).trans rfl, zz_1 rfl tl_X9_applyField, zz_1 rfl tl_X9_applyField, fun L r M => (zz_1 rfl tl_X9_applyField _ _ _).trans rfl, zz_1 rfl tl_X9_applyField, fun L r M => (zz_1 rfl tl_X9_applyField _ _ _).trans rfl, fun L a0 r M => (zz_1 rfl tl_X9_applyField _ _ _).trans rfl, zz_1 rfl tl_X9_applyField, zz_1 rfl tl_X9_applyField, zz_1 rfl tl_X9_applyField, fun L a0 r M => (zz_1 rfl tl_X9_applyField _ _ _).trans rfl, zz_1 rfl tl_X9_applyField, zz_1 rfl tl_X9_applyField, zz_1 rfl tl_X9_applyField, zz_1 rfl tl_X9_applyField, zz_1 rfl tl_X9_applyField⟩
set_option maxRecDepth 100000 in
theorem s_X9_applyField (a0 a1 a2 a3 : Int32) (v : Nat) (M : zzMd) : fX9_applyField [.ref v, .int a0, .int a1, .int a2, .int a3] M = zz_ev tX9_applyField 0 [some (.ref v), some (.int a0), some (.int a1), some (.int a2), some (.int a3)] [] M := rfl
set_option maxRecDepth 100000 in
theorem e_X10_countRunning : (∀ L st M, zz_ev tX10_countRunning 0 L st M = zo_pushI 0 1 (zz_ev tX10_countRunning) L st M) ∧
  (∀ L st M, zz_ev tX10_countRunning 1 L st M = zo_istore 2 2 (zz_ev tX10_countRunning) L st M) ∧
  (∀ L st M, zz_ev tX10_countRunning 2 L st M = zo_pushI 0 3 (zz_ev tX10_countRunning) L st M) ∧
  (∀ L st M, zz_ev tX10_countRunning 3 L st M = zo_istore 3 4 (zz_ev tX10_countRunning) L st M) ∧
  (∀ L st M, zz_ev tX10_countRunning 5 L st M = zo_aload 0 6 (zz_ev tX10_countRunning) L st M) ∧
  (∀ (L : zzLc) (r : List Value) (M : zzMd), zz_ev tX10_countRunning 6 L (.ref 1 :: r) M = zz_ev tX10_countRunning 9 L (.int (M.1 1 2) :: r) M) ∧
  (∀ (L : zzLc) (r : List Value) (M : zzMd), zz_ev tX10_countRunning 6 L (.ref 3 :: r) M = zz_ev tX10_countRunning 9 L (.int (M.1 3 2) :: r) M) ∧
  (∀ (L : zzLc) (r : List Value) (M : zzMd), zz_ev tX10_countRunning 6 L (.ref 4 :: r) M = zz_ev tX10_countRunning 9 L (.int (M.1 4 2) :: r) M) ∧
  (∀ (L : zzLc) (r : List Value) (M : zzMd), zz_ev tX10_countRunning 6 L (.ref 5 :: r) M = zz_ev tX10_countRunning 9 L (.int (M.1 5 2) :: r) M) ∧
  (∀ (L : zzLc) (r : List Value) (M : zzMd), zz_ev tX10_countRunning 6 L (.ref 6 :: r) M = zz_ev tX10_countRunning 9 L (.int (M.1 6 2) :: r) M) ∧
  (∀ (L : zzLc) (r : List Value) (M : zzMd), zz_ev tX10_countRunning 6 L (.ref 7 :: r) M = zz_ev tX10_countRunning 9 L (.int (M.1 7 2) :: r) M) ∧
  (∀ (L : zzLc) (r : List Value) (M : zzMd), zz_ev tX10_countRunning 6 L (.ref 8 :: r) M = zz_ev tX10_countRunning 9 L (.int (M.1 8 2) :: r) M) ∧
  (∀ (L : zzLc) (r : List Value) (M : zzMd), zz_ev tX10_countRunning 6 L (.ref 9 :: r) M = zz_ev tX10_countRunning 9 L (.int (M.1 9 2) :: r) M) ∧
  (∀ (L : zzLc) (r : List Value) (M : zzMd), zz_ev tX10_countRunning 6 L (.ref 10 :: r) M = zz_ev tX10_countRunning 9 L (.int (M.1 10 2) :: r) M) ∧
  (∀ L st M, zz_ev tX10_countRunning 9 L st M = zo_icmp (fun x y => decide (y ≤ x)) 52 12 (zz_ev tX10_countRunning) L st M) ∧
  (∀ L st M, zz_ev tX10_countRunning 12 L st M = zo_iload 1 13 (zz_ev tX10_countRunning) L st M) ∧
  (∀ L st M, zz_ev tX10_countRunning 13 L st M = zo_pushI (-1) 14 (zz_ev tX10_countRunning) L st M) ∧
  (∀ L st M, zz_ev tX10_countRunning 14 L st M = zo_icmp (fun x y => decide (x = y)) 52 17 (zz_ev tX10_countRunning) L st M) ∧
  (∀ L st M, zz_ev tX10_countRunning 17 L st M = zo_iload 2 18 (zz_ev tX10_countRunning) L st M) ∧
  (∀ L st M, zz_ev tX10_countRunning 18 L st M = zo_aload 0 19 (zz_ev tX10_countRunning) L st M) ∧
  (∀ L st M, zz_ev tX10_countRunning 19 L st M = zo_iload 3 20 (zz_ev tX10_countRunning) L st M) ∧
  (∀ L st M, zz_ev tX10_countRunning 20 L st M = zo_pushI 2 21 (zz_ev tX10_countRunning) L st M) ∧
  (∀ L st M, zz_ev tX10_countRunning 21 L st M = zo_iload 1 22 (zz_ev tX10_countRunning) L st M) ∧
  (∀ (L : zzLc) (a0 a1 a2 : Int32) (r : List Value) (M : zzMd), zz_ev tX10_countRunning 22 L (.int a2 :: .int a1 :: .int a0 :: .ref 8 :: r) M = bif zz_cat8 r then zz_backN (zz_ev tX10_countRunning) 25 L r (fX10_isOwned [.ref 8, .int a0, .int a1, .int a2] M) else none) ∧
  (∀ (L : zzLc) (a0 a1 a2 : Int32) (r : List Value) (M : zzMd), zz_ev tX10_countRunning 22 L (.int a2 :: .int a1 :: .int a0 :: .ref 3 :: r) M = bif zz_cat8 r then zz_backN (zz_ev tX10_countRunning) 25 L r (fX10_isOwned [.ref 3, .int a0, .int a1, .int a2] M) else none) ∧
  (∀ (L : zzLc) (a0 a1 a2 : Int32) (r : List Value) (M : zzMd), zz_ev tX10_countRunning 22 L (.int a2 :: .int a1 :: .int a0 :: .ref 4 :: r) M = bif zz_cat8 r then zz_backN (zz_ev tX10_countRunning) 25 L r (fX10_isOwned [.ref 4, .int a0, .int a1, .int a2] M) else none) ∧
  (∀ (L : zzLc) (a0 a1 a2 : Int32) (r : List Value) (M : zzMd), zz_ev tX10_countRunning 22 L (.int a2 :: .int a1 :: .int a0 :: .ref 5 :: r) M = bif zz_cat8 r then zz_backN (zz_ev tX10_countRunning) 25 L r (fX10_isOwned [.ref 5, .int a0, .int a1, .int a2] M) else none) ∧
  (∀ (L : zzLc) (a0 a1 a2 : Int32) (r : List Value) (M : zzMd), zz_ev tX10_countRunning 22 L (.int a2 :: .int a1 :: .int a0 :: .ref 9 :: r) M = bif zz_cat8 r then zz_backN (zz_ev tX10_countRunning) 25 L r (fX10_isOwned [.ref 9, .int a0, .int a1, .int a2] M) else none) ∧
  (∀ (L : zzLc) (a0 a1 a2 : Int32) (r : List Value) (M : zzMd), zz_ev tX10_countRunning 22 L (.int a2 :: .int a1 :: .int a0 :: .ref 7 :: r) M = bif zz_cat8 r then zz_backN (zz_ev tX10_countRunning) 25 L r (fX10_isOwned [.ref 7, .int a0, .int a1, .int a2] M) else none) ∧
  (∀ (L : zzLc) (a0 a1 a2 : Int32) (r : List Value) (M : zzMd), zz_ev tX10_countRunning 22 L (.int a2 :: .int a1 :: .int a0 :: .ref 10 :: r) M = bif zz_cat8 r then zz_backN (zz_ev tX10_countRunning) 25 L r (fX10_isOwned [.ref 10, .int a0, .int a1, .int a2] M) else none) ∧
  (∀ (L : zzLc) (a0 a1 a2 : Int32) (r : List Value) (M : zzMd), zz_ev tX10_countRunning 22 L (.int a2 :: .int a1 :: .int a0 :: .ref 6 :: r) M = bif zz_cat8 r then zz_backN (zz_ev tX10_countRunning) 25 L r (fX10_isOwned [.ref 6, .int a0, .int a1, .int a2] M) else none) ∧
  (∀ (L : zzLc) (a0 a1 a2 : Int32) (r : List Value) (M : zzMd), zz_ev tX10_countRunning 22 L (.int a2 :: .int a1 :: .int a0 :: .ref 1 :: r) M = bif zz_cat8 r then zz_backN (zz_ev tX10_countRunning) 25 L r (fX10_isOwned [.ref 1, .int a0, .int a1, .int a2] M) else none) ∧
  (∀ L st M, zz_ev tX10_countRunning 25 L st M = zo_if (fun x => decide (x = 0)) 43 28 (zz_ev tX10_countRunning) L st M) ∧
  (∀ L st M, zz_ev tX10_countRunning 28 L st M = zo_aload 0 29 (zz_ev tX10_countRunning) L st M) ∧
  (∀ L st M, zz_ev tX10_countRunning 29 L st M = zo_iload 3 30 (zz_ev tX10_countRunning) L st M) ∧
  (∀ L st M, zz_ev tX10_countRunning 30 L st M = zo_pushI 29 32 (zz_ev tX10_countRunning) L st M) ∧
  (∀ (L : zzLc) (a0 a1 : Int32) (r : List Value) (M : zzMd), zz_ev tX10_countRunning 32 L (.int a1 :: .int a0 :: .ref 8 :: r) M = bif zz_cat8 r then zz_backN (zz_ev tX10_countRunning) 35 L r (fX10_read [.ref 8, .int a0, .int a1] M) else none) ∧
  (∀ (L : zzLc) (a0 a1 : Int32) (r : List Value) (M : zzMd), zz_ev tX10_countRunning 32 L (.int a1 :: .int a0 :: .ref 3 :: r) M = bif zz_cat8 r then zz_backN (zz_ev tX10_countRunning) 35 L r (fX10_read [.ref 3, .int a0, .int a1] M) else none) ∧
  (∀ (L : zzLc) (a0 a1 : Int32) (r : List Value) (M : zzMd), zz_ev tX10_countRunning 32 L (.int a1 :: .int a0 :: .ref 4 :: r) M = bif zz_cat8 r then zz_backN (zz_ev tX10_countRunning) 35 L r (fX10_read [.ref 4, .int a0, .int a1] M) else none) ∧
  (∀ (L : zzLc) (a0 a1 : Int32) (r : List Value) (M : zzMd), zz_ev tX10_countRunning 32 L (.int a1 :: .int a0 :: .ref 5 :: r) M = bif zz_cat8 r then zz_backN (zz_ev tX10_countRunning) 35 L r (fX10_read [.ref 5, .int a0, .int a1] M) else none) ∧
  (∀ (L : zzLc) (a0 a1 : Int32) (r : List Value) (M : zzMd), zz_ev tX10_countRunning 32 L (.int a1 :: .int a0 :: .ref 9 :: r) M = bif zz_cat8 r then zz_backN (zz_ev tX10_countRunning) 35 L r (fX10_read [.ref 9, .int a0, .int a1] M) else none) ∧
  (∀ (L : zzLc) (a0 a1 : Int32) (r : List Value) (M : zzMd), zz_ev tX10_countRunning 32 L (.int a1 :: .int a0 :: .ref 7 :: r) M = bif zz_cat8 r then zz_backN (zz_ev tX10_countRunning) 35 L r (fX10_read [.ref 7, .int a0, .int a1] M) else none) ∧
  (∀ (L : zzLc) (a0 a1 : Int32) (r : List Value) (M : zzMd), zz_ev tX10_countRunning 32 L (.int a1 :: .int a0 :: .ref 10 :: r) M = bif zz_cat8 r then zz_backN (zz_ev tX10_countRunning) 35 L r (fX10_read [.ref 10, .int a0, .int a1] M) else none) ∧
  (∀ (L : zzLc) (a0 a1 : Int32) (r : List Value) (M : zzMd), zz_ev tX10_countRunning 32 L (.int a1 :: .int a0 :: .ref 6 :: r) M = bif zz_cat8 r then zz_backN (zz_ev tX10_countRunning) 35 L r (fX10_read [.ref 6, .int a0, .int a1] M) else none) ∧
  (∀ (L : zzLc) (a0 a1 : Int32) (r : List Value) (M : zzMd), zz_ev tX10_countRunning 32 L (.int a1 :: .int a0 :: .ref 1 :: r) M = bif zz_cat8 r then zz_backN (zz_ev tX10_countRunning) 35 L r (fX10_read [.ref 1, .int a0, .int a1] M) else none) ∧
  (∀ L st M, zz_ev tX10_countRunning 35 L st M = zo_pushI 1 36 (zz_ev tX10_countRunning) L st M) ∧
  (∀ L st M, zz_ev tX10_countRunning 36 L st M = zo_icmp (fun x y => decide (¬ x = y)) 43 39 (zz_ev tX10_countRunning) L st M) ∧
  (∀ L st M, zz_ev tX10_countRunning 39 L st M = zo_pushI 1 40 (zz_ev tX10_countRunning) L st M) ∧
  (∀ L st M, zz_ev tX10_countRunning 40 L st M = zo_goto 44 (zz_ev tX10_countRunning) L st M) ∧
  (∀ L st M, zz_ev tX10_countRunning 43 L st M = zo_pushI 0 44 (zz_ev tX10_countRunning) L st M) ∧
  (∀ L st M, zz_ev tX10_countRunning 44 L st M = zo_ii (fun x y => x + y) 45 (zz_ev tX10_countRunning) L st M) ∧
  (∀ L st M, zz_ev tX10_countRunning 45 L st M = zo_istore 2 46 (zz_ev tX10_countRunning) L st M) ∧
  (∀ L st M, zz_ev tX10_countRunning 46 L st M = zo_iinc 3 1 49 (zz_ev tX10_countRunning) L st M) ∧
  (∀ L st M, zz_ev tX10_countRunning 49 L st M = zo_goto 4 (zz_ev tX10_countRunning) L st M) ∧
  (∀ L st M, zz_ev tX10_countRunning 52 L st M = zo_iload 2 53 (zz_ev tX10_countRunning) L st M) ∧
  (∀ L st M, zz_ev tX10_countRunning 53 L st M = zo_iret false (zz_ev tX10_countRunning) L st M) :=
  ⟨zz_1 rfl tl_X10_countRunning, zz_1 rfl tl_X10_countRunning, zz_1 rfl tl_X10_countRunning, zz_1 rfl tl_X10_countRunning, zz_1 rfl tl_X10_countRunning, fun L r M => (zz_1 rfl tl_X10_countRunning _ _ _).trans rfl, fun L r M => (zz_1 rfl tl_X10_countRunning _ _ _).trans rfl, fun L r M => (zz_1 rfl tl_X10_countRunning _ _ _).trans rfl, fun L r M => (zz_1 rfl tl_X10_countRunning _ _ _).trans rfl, fun L r M => (zz_1 rfl tl_X10_countRunning _ _ _).trans rfl, fun L r M => (zz_1 rfl tl_X10_countRunning _ _ _).trans rfl, fun L r M => (zz_1 rfl tl_X10_countRunning _ _ _).trans rfl, fun L r M => (zz_1 rfl tl_X10_countRunning _ _ _).trans rfl, fun L r M => (zz_1 rfl tl_X10_countRunning _ _ _).trans rfl, zz_1 rfl tl_X10_countRunning, zz_1 rfl tl_X10_countRunning, zz_1 rfl tl_X10_countRunning, zz_1 rfl tl_X10_countRunning, zz_1 rfl tl_X10_countRunning, zz_1 rfl tl_X10_countRunning, zz_1 rfl tl_X10_countRunning, zz_1 rfl tl_X10_countRunning, zz_1 rfl tl_X10_countRunning, fun L a0 a1 a2 r M => (zz_1 rfl tl_X10_countRunning _ _ _).trans rfl, fun L a0 a1 a2 r M => (zz_1 rfl tl_X10_countRunning _ _ _).trans rfl, fun L a0 a1 a2 r M => (zz_1 rfl tl_X10_countRunning _ _ _).trans rfl, fun L a0 a1 a2 r M => (zz_1 rfl tl_X10_countRunning _ _ _).trans rfl, fun L a0 a1 a2 r M => (zz_1 rfl tl_X10_countRunning _ _ _).trans rfl, fun L a0 a1 a2 r M => (zz_1 rfl tl_X10_countRunning _ _ _).trans rfl, fun L a0 a1 a2 r M => (zz_1 rfl tl_X10_countRunning _ _ _).trans rfl, fun L a0 a1 a2 r M => (zz_1 rfl tl_X10_countRunning _ _ _).trans rfl, fun L a0 a1 a2 r M => (zz_1 rfl tl_X10_countRunning _ _ _).trans rfl, zz_1 rfl tl_X10_countRunning, zz_1 rfl tl_X10_countRunning, zz_1 rfl tl_X10_countRunning, zz_1 rfl tl_X10_countRunning, fun L a0 a1 r M => (zz_1 rfl tl_X10_countRunning _ _ _).trans rfl, fun L a0 a1 r M => (zz_1 rfl tl_X10_countRunning _ _ _).trans rfl, fun L a0 a1 r M => (zz_1 rfl tl_X10_countRunning _ _ _).trans rfl, fun L a0 a1 r M => (zz_1 rfl tl_X10_countRunning _ _ _).trans rfl, fun L a0 a1 r M => (zz_1 rfl tl_X10_countRunning _ _ _).trans rfl, fun L a0 a1 r M => (zz_1 rfl tl_X10_countRunning _ _ _).trans rfl, fun L a0 a1 r M => (zz_1 rfl tl_X10_countRunning _ _ _).trans rfl, fun L a0 a1 r M => (zz_1 rfl tl_X10_countRunning _ _ _).trans rfl, fun L a0 a1 r M => (zz_1 rfl tl_X10_countRunning _ _ _).trans rfl, zz_1 rfl tl_X10_countRunning, zz_1 rfl tl_X10_countRunning, zz_1 rfl tl_X10_countRunning, zz_1 rfl tl_X10_countRunning, zz_1 rfl tl_X10_countRunning, zz_1 rfl tl_X10_countRunning, zz_1 rfl tl_X10_countRunning, zz_1 rfl tl_X10_countRunning, zz_1 rfl tl_X10_countRunning, zz_1 rfl tl_X10_countRunning, zz_1 rfl tl_X10_countRunning⟩
set_option maxRecDepth 100000 in
theorem e_X10_countRunning_4 : (∀ L st M, zz_ev tX10_countRunning 4 L st M = zo_iload 3 5 (zz_ev tX10_countRunning) L st M) := zz_1 rfl tl_X10_countRunning
set_option maxRecDepth 100000 in
theorem s_X10_countRunning (a0 : Int32) (v : Nat) (M : zzMd) : fX10_countRunning [.ref v, .int a0] M = zz_ev tX10_countRunning 0 [some (.ref v), some (.int a0), none, none] [] M := rfl
set_option maxRecDepth 100000 in
theorem e_X10_countRunningOfAll : (∀ L st M, zz_ev tX10_countRunningOfAll 0 L st M = zo_pushI 0 1 (zz_ev tX10_countRunningOfAll) L st M) ∧
  (∀ L st M, zz_ev tX10_countRunningOfAll 1 L st M = zo_istore 2 2 (zz_ev tX10_countRunningOfAll) L st M) ∧
  (∀ L st M, zz_ev tX10_countRunningOfAll 2 L st M = zo_pushI 0 3 (zz_ev tX10_countRunningOfAll) L st M) ∧
  (∀ L st M, zz_ev tX10_countRunningOfAll 3 L st M = zo_istore 3 4 (zz_ev tX10_countRunningOfAll) L st M) ∧
  (∀ L st M, zz_ev tX10_countRunningOfAll 5 L st M = zo_aload 0 6 (zz_ev tX10_countRunningOfAll) L st M) ∧
  (∀ (L : zzLc) (r : List Value) (M : zzMd), zz_ev tX10_countRunningOfAll 6 L (.ref 1 :: r) M = zz_ev tX10_countRunningOfAll 9 L (.int (M.1 1 2) :: r) M) ∧
  (∀ (L : zzLc) (r : List Value) (M : zzMd), zz_ev tX10_countRunningOfAll 6 L (.ref 3 :: r) M = zz_ev tX10_countRunningOfAll 9 L (.int (M.1 3 2) :: r) M) ∧
  (∀ (L : zzLc) (r : List Value) (M : zzMd), zz_ev tX10_countRunningOfAll 6 L (.ref 4 :: r) M = zz_ev tX10_countRunningOfAll 9 L (.int (M.1 4 2) :: r) M) ∧
  (∀ (L : zzLc) (r : List Value) (M : zzMd), zz_ev tX10_countRunningOfAll 6 L (.ref 5 :: r) M = zz_ev tX10_countRunningOfAll 9 L (.int (M.1 5 2) :: r) M) ∧
  (∀ (L : zzLc) (r : List Value) (M : zzMd), zz_ev tX10_countRunningOfAll 6 L (.ref 6 :: r) M = zz_ev tX10_countRunningOfAll 9 L (.int (M.1 6 2) :: r) M) ∧
  (∀ (L : zzLc) (r : List Value) (M : zzMd), zz_ev tX10_countRunningOfAll 6 L (.ref 7 :: r) M = zz_ev tX10_countRunningOfAll 9 L (.int (M.1 7 2) :: r) M) ∧
  (∀ (L : zzLc) (r : List Value) (M : zzMd), zz_ev tX10_countRunningOfAll 6 L (.ref 8 :: r) M = zz_ev tX10_countRunningOfAll 9 L (.int (M.1 8 2) :: r) M) ∧
  (∀ (L : zzLc) (r : List Value) (M : zzMd), zz_ev tX10_countRunningOfAll 6 L (.ref 9 :: r) M = zz_ev tX10_countRunningOfAll 9 L (.int (M.1 9 2) :: r) M) ∧
  (∀ (L : zzLc) (r : List Value) (M : zzMd), zz_ev tX10_countRunningOfAll 6 L (.ref 10 :: r) M = zz_ev tX10_countRunningOfAll 9 L (.int (M.1 10 2) :: r) M) ∧
  (∀ L st M, zz_ev tX10_countRunningOfAll 9 L st M = zo_icmp (fun x y => decide (y ≤ x)) 40 12 (zz_ev tX10_countRunningOfAll) L st M) ∧
  (∀ L st M, zz_ev tX10_countRunningOfAll 12 L st M = zo_iload 2 13 (zz_ev tX10_countRunningOfAll) L st M) ∧
  (∀ L st M, zz_ev tX10_countRunningOfAll 13 L st M = zo_aload 0 14 (zz_ev tX10_countRunningOfAll) L st M) ∧
  (∀ L st M, zz_ev tX10_countRunningOfAll 14 L st M = zo_iload 3 15 (zz_ev tX10_countRunningOfAll) L st M) ∧
  (∀ L st M, zz_ev tX10_countRunningOfAll 15 L st M = zo_pushI 1 16 (zz_ev tX10_countRunningOfAll) L st M) ∧
  (∀ L st M, zz_ev tX10_countRunningOfAll 16 L st M = zo_iload 1 17 (zz_ev tX10_countRunningOfAll) L st M) ∧
  (∀ (L : zzLc) (a0 a1 a2 : Int32) (r : List Value) (M : zzMd), zz_ev tX10_countRunningOfAll 17 L (.int a2 :: .int a1 :: .int a0 :: .ref 8 :: r) M = bif zz_cat8 r then zz_backN (zz_ev tX10_countRunningOfAll) 20 L r (fX10_isOwned [.ref 8, .int a0, .int a1, .int a2] M) else none) ∧
  (∀ (L : zzLc) (a0 a1 a2 : Int32) (r : List Value) (M : zzMd), zz_ev tX10_countRunningOfAll 17 L (.int a2 :: .int a1 :: .int a0 :: .ref 3 :: r) M = bif zz_cat8 r then zz_backN (zz_ev tX10_countRunningOfAll) 20 L r (fX10_isOwned [.ref 3, .int a0, .int a1, .int a2] M) else none) ∧
  (∀ (L : zzLc) (a0 a1 a2 : Int32) (r : List Value) (M : zzMd), zz_ev tX10_countRunningOfAll 17 L (.int a2 :: .int a1 :: .int a0 :: .ref 4 :: r) M = bif zz_cat8 r then zz_backN (zz_ev tX10_countRunningOfAll) 20 L r (fX10_isOwned [.ref 4, .int a0, .int a1, .int a2] M) else none) ∧
  (∀ (L : zzLc) (a0 a1 a2 : Int32) (r : List Value) (M : zzMd), zz_ev tX10_countRunningOfAll 17 L (.int a2 :: .int a1 :: .int a0 :: .ref 5 :: r) M = bif zz_cat8 r then zz_backN (zz_ev tX10_countRunningOfAll) 20 L r (fX10_isOwned [.ref 5, .int a0, .int a1, .int a2] M) else none) ∧
  (∀ (L : zzLc) (a0 a1 a2 : Int32) (r : List Value) (M : zzMd), zz_ev tX10_countRunningOfAll 17 L (.int a2 :: .int a1 :: .int a0 :: .ref 9 :: r) M = bif zz_cat8 r then zz_backN (zz_ev tX10_countRunningOfAll) 20 L r (fX10_isOwned [.ref 9, .int a0, .int a1, .int a2] M) else none) ∧
  (∀ (L : zzLc) (a0 a1 a2 : Int32) (r : List Value) (M : zzMd), zz_ev tX10_countRunningOfAll 17 L (.int a2 :: .int a1 :: .int a0 :: .ref 7 :: r) M = bif zz_cat8 r then zz_backN (zz_ev tX10_countRunningOfAll) 20 L r (fX10_isOwned [.ref 7, .int a0, .int a1, .int a2] M) else none) ∧
  (∀ (L : zzLc) (a0 a1 a2 : Int32) (r : List Value) (M : zzMd), zz_ev tX10_countRunningOfAll 17 L (.int a2 :: .int a1 :: .int a0 :: .ref 10 :: r) M = bif zz_cat8 r then zz_backN (zz_ev tX10_countRunningOfAll) 20 L r (fX10_isOwned [.ref 10, .int a0, .int a1, .int a2] M) else none) ∧
  (∀ (L : zzLc) (a0 a1 a2 : Int32) (r : List Value) (M : zzMd), zz_ev tX10_countRunningOfAll 17 L (.int a2 :: .int a1 :: .int a0 :: .ref 6 :: r) M = bif zz_cat8 r then zz_backN (zz_ev tX10_countRunningOfAll) 20 L r (fX10_isOwned [.ref 6, .int a0, .int a1, .int a2] M) else none) ∧
  (∀ (L : zzLc) (a0 a1 a2 : Int32) (r : List Value) (M : zzMd), zz_ev tX10_countRunningOfAll 17 L (.int a2 :: .int a1 :: .int a0 :: .ref 1 :: r) M = bif zz_cat8 r then zz_backN (zz_ev tX10_countRunningOfAll) 20 L r (fX10_isOwned [.ref 1, .int a0, .int a1, .int a2] M) else none) ∧
  (∀ L st M, zz_ev tX10_countRunningOfAll 20 L st M = zo_if (fun x => decide (x = 0)) 31 23 (zz_ev tX10_countRunningOfAll) L st M) ∧
  (∀ L st M, zz_ev tX10_countRunningOfAll 23 L st M = zo_aload 0 24 (zz_ev tX10_countRunningOfAll) L st M) ∧
  (∀ L st M, zz_ev tX10_countRunningOfAll 24 L st M = zo_iload 3 25 (zz_ev tX10_countRunningOfAll) L st M) ∧
  (∀ (L : zzLc) (a0 : Int32) (r : List Value) (M : zzMd), zz_ev tX10_countRunningOfAll 25 L (.int a0 :: .ref 8 :: r) M = bif zz_cat8 r then zz_backN (zz_ev tX10_countRunningOfAll) 28 L r (fX10_countRunning [.ref 8, .int a0] M) else none) ∧
  (∀ (L : zzLc) (a0 : Int32) (r : List Value) (M : zzMd), zz_ev tX10_countRunningOfAll 25 L (.int a0 :: .ref 3 :: r) M = bif zz_cat8 r then zz_backN (zz_ev tX10_countRunningOfAll) 28 L r (fX10_countRunning [.ref 3, .int a0] M) else none) ∧
  (∀ (L : zzLc) (a0 : Int32) (r : List Value) (M : zzMd), zz_ev tX10_countRunningOfAll 25 L (.int a0 :: .ref 4 :: r) M = bif zz_cat8 r then zz_backN (zz_ev tX10_countRunningOfAll) 28 L r (fX10_countRunning [.ref 4, .int a0] M) else none) ∧
  (∀ (L : zzLc) (a0 : Int32) (r : List Value) (M : zzMd), zz_ev tX10_countRunningOfAll 25 L (.int a0 :: .ref 5 :: r) M = bif zz_cat8 r then zz_backN (zz_ev tX10_countRunningOfAll) 28 L r (fX10_countRunning [.ref 5, .int a0] M) else none) ∧
  (∀ (L : zzLc) (a0 : Int32) (r : List Value) (M : zzMd), zz_ev tX10_countRunningOfAll 25 L (.int a0 :: .ref 9 :: r) M = bif zz_cat8 r then zz_backN (zz_ev tX10_countRunningOfAll) 28 L r (fX10_countRunning [.ref 9, .int a0] M) else none) ∧
  (∀ (L : zzLc) (a0 : Int32) (r : List Value) (M : zzMd), zz_ev tX10_countRunningOfAll 25 L (.int a0 :: .ref 7 :: r) M = bif zz_cat8 r then zz_backN (zz_ev tX10_countRunningOfAll) 28 L r (fX10_countRunning [.ref 7, .int a0] M) else none) ∧
  (∀ (L : zzLc) (a0 : Int32) (r : List Value) (M : zzMd), zz_ev tX10_countRunningOfAll 25 L (.int a0 :: .ref 10 :: r) M = bif zz_cat8 r then zz_backN (zz_ev tX10_countRunningOfAll) 28 L r (fX10_countRunning [.ref 10, .int a0] M) else none) ∧
  (∀ (L : zzLc) (a0 : Int32) (r : List Value) (M : zzMd), zz_ev tX10_countRunningOfAll 25 L (.int a0 :: .ref 6 :: r) M = bif zz_cat8 r then zz_backN (zz_ev tX10_countRunningOfAll) 28 L r (fX10_countRunning [.ref 6, .int a0] M) else none) ∧
  (∀ (L : zzLc) (a0 : Int32) (r : List Value) (M : zzMd), zz_ev tX10_countRunningOfAll 25 L (.int a0 :: .ref 1 :: r) M = bif zz_cat8 r then zz_backN (zz_ev tX10_countRunningOfAll) 28 L r (fX10_countRunning [.ref 1, .int a0] M) else none) ∧
  (∀ L st M, zz_ev tX10_countRunningOfAll 28 L st M = zo_goto 32 (zz_ev tX10_countRunningOfAll) L st M) ∧
  (∀ L st M, zz_ev tX10_countRunningOfAll 31 L st M = zo_pushI 0 32 (zz_ev tX10_countRunningOfAll) L st M) ∧
  (∀ L st M, zz_ev tX10_countRunningOfAll 32 L st M = zo_ii (fun x y => x + y) 33 (zz_ev tX10_countRunningOfAll) L st M) ∧
  (∀ L st M, zz_ev tX10_countRunningOfAll 33 L st M = zo_istore 2 34 (zz_ev tX10_countRunningOfAll) L st M) ∧
  (∀ L st M, zz_ev tX10_countRunningOfAll 34 L st M = zo_iinc 3 1 37 (zz_ev tX10_countRunningOfAll) L st M) ∧
  (∀ L st M, zz_ev tX10_countRunningOfAll 37 L st M = zo_goto 4 (zz_ev tX10_countRunningOfAll) L st M) ∧
  (∀ L st M, zz_ev tX10_countRunningOfAll 40 L st M = zo_iload 2 41 (zz_ev tX10_countRunningOfAll) L st M) ∧
  (∀ L st M, zz_ev tX10_countRunningOfAll 41 L st M = zo_iret false (zz_ev tX10_countRunningOfAll) L st M) :=
  ⟨zz_1 rfl tl_X10_countRunningOfAll, zz_1 rfl tl_X10_countRunningOfAll, zz_1 rfl tl_X10_countRunningOfAll, zz_1 rfl tl_X10_countRunningOfAll, zz_1 rfl tl_X10_countRunningOfAll, fun L r M => (zz_1 rfl tl_X10_countRunningOfAll _ _ _).trans rfl, fun L r M => (zz_1 rfl tl_X10_countRunningOfAll _ _ _).trans rfl, fun L r M => (zz_1 rfl tl_X10_countRunningOfAll _ _ _).trans rfl, fun L r M => (zz_1 rfl tl_X10_countRunningOfAll _ _ _).trans rfl, fun L r M => (zz_1 rfl tl_X10_countRunningOfAll _ _ _).trans rfl, fun L r M => (zz_1 rfl tl_X10_countRunningOfAll _ _ _).trans rfl, fun L r M => (zz_1 rfl tl_X10_countRunningOfAll _ _ _).trans rfl, fun L r M => (zz_1 rfl tl_X10_countRunningOfAll _ _ _).trans rfl, fun L r M => (zz_1 rfl tl_X10_countRunningOfAll _ _ _).trans rfl, zz_1 rfl tl_X10_countRunningOfAll, zz_1 rfl tl_X10_countRunningOfAll, zz_1 rfl tl_X10_countRunningOfAll, zz_1 rfl tl_X10_countRunningOfAll, zz_1 rfl tl_X10_countRunningOfAll, zz_1 rfl tl_X10_countRunningOfAll, fun L a0 a1 a2 r M => (zz_1 rfl tl_X10_countRunningOfAll _ _ _).trans rfl, fun L a0 a1 a2 r M => (zz_1 rfl tl_X10_countRunningOfAll _ _ _).trans rfl, fun L a0 a1 a2 r M => (zz_1 rfl tl_X10_countRunningOfAll _ _ _).trans rfl, fun L a0 a1 a2 r M => (zz_1 rfl tl_X10_countRunningOfAll _ _ _).trans rfl, fun L a0 a1 a2 r M => (zz_1 rfl tl_X10_countRunningOfAll _ _ _).trans rfl, fun L a0 a1 a2 r M => (zz_1 rfl tl_X10_countRunningOfAll _ _ _).trans rfl, fun L a0 a1 a2 r M => (zz_1 rfl tl_X10_countRunningOfAll _ _ _).trans rfl, fun L a0 a1 a2 r M => (zz_1 rfl tl_X10_countRunningOfAll _ _ _).trans rfl, fun L a0 a1 a2 r M => (zz_1 rfl tl_X10_countRunningOfAll _ _ _).trans rfl, zz_1 rfl tl_X10_countRunningOfAll, zz_1 rfl tl_X10_countRunningOfAll, zz_1 rfl tl_X10_countRunningOfAll, fun L a0 r M => (zz_1 rfl tl_X10_countRunningOfAll _ _ _).trans rfl, fun L a0 r M => (zz_1 rfl tl_X10_countRunningOfAll _ _ _).trans rfl, fun L a0 r M => (zz_1 rfl tl_X10_countRunningOfAll _ _ _).trans rfl, fun L a0 r M => (zz_1 rfl tl_X10_countRunningOfAll _ _ _).trans rfl, fun L a0 r M => (zz_1 rfl tl_X10_countRunningOfAll _ _ _).trans rfl, fun L a0 r M => (zz_1 rfl tl_X10_countRunningOfAll _ _ _).trans rfl, fun L a0 r M => (zz_1 rfl tl_X10_countRunningOfAll _ _ _).trans rfl, fun L a0 r M => (zz_1 rfl tl_X10_countRunningOfAll _ _ _).trans rfl, fun L a0 r M => (zz_1 rfl tl_X10_countRunningOfAll _ _ _).trans rfl, zz_1 rfl tl_X10_countRunningOfAll, zz_1 rfl tl_X10_countRunningOfAll, zz_1 rfl tl_X10_countRunningOfAll, zz_1 rfl tl_X10_countRunningOfAll, zz_1 rfl tl_X10_countRunningOfAll, zz_1 rfl tl_X10_countRunningOfAll, zz_1 rfl tl_X10_countRunningOfAll, zz_1 rfl tl_X10_countRunningOfAll⟩
set_option maxRecDepth 100000 in
theorem e_X10_countRunningOfAll_4 : (∀ L st M, zz_ev tX10_countRunningOfAll 4 L st M = zo_iload 3 5 (zz_ev tX10_countRunningOfAll) L st M) := zz_1 rfl tl_X10_countRunningOfAll
set_option maxRecDepth 100000 in
theorem s_X10_countRunningOfAll (a0 : Int32) (v : Nat) (M : zzMd) : fX10_countRunningOfAll [.ref v, .int a0] M = zz_ev tX10_countRunningOfAll 0 [some (.ref v), some (.int a0), none, none] [] M := rfl
set_option maxRecDepth 100000 in
theorem e_X9_changeBoth : (∀ L st M, zz_ev tX9_changeBoth 0 L st M = zo_iload 2 1 (zz_ev tX9_changeBoth) L st M) ∧
  (∀ L st M, zz_ev tX9_changeBoth 1 L st M = zo_if (fun x => decide (x < 0)) 22 4 (zz_ev tX9_changeBoth) L st M) ∧
  (∀ L st M, zz_ev tX9_changeBoth 4 L st M = zo_iload 2 5 (zz_ev tX9_changeBoth) L st M) ∧
  (∀ L st M, zz_ev tX9_changeBoth 5 L st M = zo_pushI 32 7 (zz_ev tX9_changeBoth) L st M) ∧
  (∀ L st M, zz_ev tX9_changeBoth 7 L st M = zo_icmp (fun x y => decide (y ≤ x)) 22 10 (zz_ev tX9_changeBoth) L st M) ∧
  (∀ L st M, zz_ev tX9_changeBoth 10 L st M = zo_iload 4 12 (zz_ev tX9_changeBoth) L st M) ∧
  (∀ L st M, zz_ev tX9_changeBoth 12 L st M = zo_if (fun x => decide (x < 0)) 22 15 (zz_ev tX9_changeBoth) L st M) ∧
  (∀ L st M, zz_ev tX9_changeBoth 15 L st M = zo_iload 4 17 (zz_ev tX9_changeBoth) L st M) ∧
  (∀ L st M, zz_ev tX9_changeBoth 17 L st M = zo_pushI 32 19 (zz_ev tX9_changeBoth) L st M) ∧
  (∀ L st M, zz_ev tX9_changeBoth 19 L st M = zo_icmp (fun x y => decide (x < y)) 24 22 (zz_ev tX9_changeBoth) L st M) ∧
  (∀ L st M, zz_ev tX9_changeBoth 22 L st M = zo_pushI 0 23 (zz_ev tX9_changeBoth) L st M) ∧
  (∀ L st M, zz_ev tX9_changeBoth 23 L st M = zo_iret true (zz_ev tX9_changeBoth) L st M) ∧
  (∀ L st M, zz_ev tX9_changeBoth 24 L st M = zo_aload 0 25 (zz_ev tX9_changeBoth) L st M) ∧
  (∀ L st M, zz_ev tX9_changeBoth 25 L st M = zo_iload 1 26 (zz_ev tX9_changeBoth) L st M) ∧
  (∀ (L : zzLc) (a0 : Int32) (r : List Value) (M : zzMd), zz_ev tX9_changeBoth 26 L (.int a0 :: .ref 1 :: r) M = bif zz_cat8 r then zz_backN (zz_ev tX9_changeBoth) 29 L r (fX9_draftFrom [.ref 1, .int a0] M) else none) ∧
  (∀ L st M, zz_ev tX9_changeBoth 29 L st M = zo_aload 0 30 (zz_ev tX9_changeBoth) L st M) ∧
  (∀ (L : zzLc) (r : List Value) (M : zzMd), zz_ev tX9_changeBoth 30 L (.ref 1 :: r) M = zz_ev tX9_changeBoth 33 L (.ref 17 :: r) M) ∧
  (∀ L st M, zz_ev tX9_changeBoth 33 L st M = zo_iload 2 34 (zz_ev tX9_changeBoth) L st M) ∧
  (∀ L st M, zz_ev tX9_changeBoth 34 L st M = zo_iload 3 35 (zz_ev tX9_changeBoth) L st M) ∧
  (∀ L st M, zz_ev tX9_changeBoth 35 L st M = zo_iast zzSC 36 (zz_ev tX9_changeBoth) L st M) ∧
  (∀ L st M, zz_ev tX9_changeBoth 36 L st M = zo_aload 0 37 (zz_ev tX9_changeBoth) L st M) ∧
  (∀ (L : zzLc) (r : List Value) (M : zzMd), zz_ev tX9_changeBoth 37 L (.ref 1 :: r) M = zz_ev tX9_changeBoth 40 L (.ref 17 :: r) M) ∧
  (∀ L st M, zz_ev tX9_changeBoth 40 L st M = zo_iload 4 42 (zz_ev tX9_changeBoth) L st M) ∧
  (∀ L st M, zz_ev tX9_changeBoth 42 L st M = zo_iload 5 44 (zz_ev tX9_changeBoth) L st M) ∧
  (∀ L st M, zz_ev tX9_changeBoth 44 L st M = zo_iast zzSC 45 (zz_ev tX9_changeBoth) L st M) ∧
  (∀ L st M, zz_ev tX9_changeBoth 45 L st M = zo_aload 0 46 (zz_ev tX9_changeBoth) L st M) ∧
  (∀ L st M, zz_ev tX9_changeBoth 46 L st M = zo_iload 1 47 (zz_ev tX9_changeBoth) L st M) ∧
  (∀ (L : zzLc) (a0 : Int32) (r : List Value) (M : zzMd), zz_ev tX9_changeBoth 47 L (.int a0 :: .ref 1 :: r) M = bif zz_cat8 r then zz_backN (zz_ev tX9_changeBoth) 50 L r (fX9_write [.ref 1, .int a0] M) else none) ∧
  (∀ L st M, zz_ev tX9_changeBoth 50 L st M = zo_iret true (zz_ev tX9_changeBoth) L st M) :=
  ⟨zz_1 rfl tl_X9_changeBoth, zz_1 rfl tl_X9_changeBoth, zz_1 rfl tl_X9_changeBoth, zz_1 rfl tl_X9_changeBoth, zz_1 rfl tl_X9_changeBoth, zz_1 rfl tl_X9_changeBoth, zz_1 rfl tl_X9_changeBoth, zz_1 rfl tl_X9_changeBoth, zz_1 rfl tl_X9_changeBoth, zz_1 rfl tl_X9_changeBoth, zz_1 rfl tl_X9_changeBoth, zz_1 rfl tl_X9_changeBoth, zz_1 rfl tl_X9_changeBoth, zz_1 rfl tl_X9_changeBoth, fun L a0 r M => (zz_1 rfl tl_X9_changeBoth _ _ _).trans rfl, zz_1 rfl tl_X9_changeBoth, fun L r M => (zz_1 rfl tl_X9_changeBoth _ _ _).trans rfl, zz_1 rfl tl_X9_changeBoth, zz_1 rfl tl_X9_changeBoth, zz_1 rfl tl_X9_changeBoth, zz_1 rfl tl_X9_changeBoth, fun L r M => (zz_1 rfl tl_X9_changeBoth _ _ _).trans rfl, zz_1 rfl tl_X9_changeBoth, zz_1 rfl tl_X9_changeBoth, zz_1 rfl tl_X9_changeBoth, zz_1 rfl tl_X9_changeBoth, zz_1 rfl tl_X9_changeBoth, fun L a0 r M => (zz_1 rfl tl_X9_changeBoth _ _ _).trans rfl, zz_1 rfl tl_X9_changeBoth⟩
set_option maxRecDepth 100000 in
theorem s_X9_changeBoth (a0 a1 a2 a3 a4 : Int32) (v : Nat) (M : zzMd) : fX9_changeBoth [.ref v, .int a0, .int a1, .int a2, .int a3, .int a4] M = zz_ev tX9_changeBoth 0 [some (.ref v), some (.int a0), some (.int a1), some (.int a2), some (.int a3), some (.int a4)] [] M := rfl
set_option maxRecDepth 100000 in
theorem e_X10_needOf : (∀ L st M, zz_ev tX10_needOf 0 L st M = zo_pushI 1 1 (zz_ev tX10_needOf) L st M) ∧
  (∀ L st M, zz_ev tX10_needOf 1 L st M = zo_aload 0 2 (zz_ev tX10_needOf) L st M) ∧
  (∀ L st M, zz_ev tX10_needOf 2 L st M = zo_iload 1 3 (zz_ev tX10_needOf) L st M) ∧
  (∀ L st M, zz_ev tX10_needOf 3 L st M = zo_pushI 1 4 (zz_ev tX10_needOf) L st M) ∧
  (∀ (L : zzLc) (a0 a1 : Int32) (r : List Value) (M : zzMd), zz_ev tX10_needOf 4 L (.int a1 :: .int a0 :: .ref 8 :: r) M = bif zz_cat8 r then zz_backN (zz_ev tX10_needOf) 7 L r (fX10_read [.ref 8, .int a0, .int a1] M) else none) ∧
  (∀ (L : zzLc) (a0 a1 : Int32) (r : List Value) (M : zzMd), zz_ev tX10_needOf 4 L (.int a1 :: .int a0 :: .ref 3 :: r) M = bif zz_cat8 r then zz_backN (zz_ev tX10_needOf) 7 L r (fX10_read [.ref 3, .int a0, .int a1] M) else none) ∧
  (∀ (L : zzLc) (a0 a1 : Int32) (r : List Value) (M : zzMd), zz_ev tX10_needOf 4 L (.int a1 :: .int a0 :: .ref 4 :: r) M = bif zz_cat8 r then zz_backN (zz_ev tX10_needOf) 7 L r (fX10_read [.ref 4, .int a0, .int a1] M) else none) ∧
  (∀ (L : zzLc) (a0 a1 : Int32) (r : List Value) (M : zzMd), zz_ev tX10_needOf 4 L (.int a1 :: .int a0 :: .ref 5 :: r) M = bif zz_cat8 r then zz_backN (zz_ev tX10_needOf) 7 L r (fX10_read [.ref 5, .int a0, .int a1] M) else none) ∧
  (∀ (L : zzLc) (a0 a1 : Int32) (r : List Value) (M : zzMd), zz_ev tX10_needOf 4 L (.int a1 :: .int a0 :: .ref 9 :: r) M = bif zz_cat8 r then zz_backN (zz_ev tX10_needOf) 7 L r (fX10_read [.ref 9, .int a0, .int a1] M) else none) ∧
  (∀ (L : zzLc) (a0 a1 : Int32) (r : List Value) (M : zzMd), zz_ev tX10_needOf 4 L (.int a1 :: .int a0 :: .ref 7 :: r) M = bif zz_cat8 r then zz_backN (zz_ev tX10_needOf) 7 L r (fX10_read [.ref 7, .int a0, .int a1] M) else none) ∧
  (∀ (L : zzLc) (a0 a1 : Int32) (r : List Value) (M : zzMd), zz_ev tX10_needOf 4 L (.int a1 :: .int a0 :: .ref 10 :: r) M = bif zz_cat8 r then zz_backN (zz_ev tX10_needOf) 7 L r (fX10_read [.ref 10, .int a0, .int a1] M) else none) ∧
  (∀ (L : zzLc) (a0 a1 : Int32) (r : List Value) (M : zzMd), zz_ev tX10_needOf 4 L (.int a1 :: .int a0 :: .ref 6 :: r) M = bif zz_cat8 r then zz_backN (zz_ev tX10_needOf) 7 L r (fX10_read [.ref 6, .int a0, .int a1] M) else none) ∧
  (∀ (L : zzLc) (a0 a1 : Int32) (r : List Value) (M : zzMd), zz_ev tX10_needOf 4 L (.int a1 :: .int a0 :: .ref 1 :: r) M = bif zz_cat8 r then zz_backN (zz_ev tX10_needOf) 7 L r (fX10_read [.ref 1, .int a0, .int a1] M) else none) ∧
  (∀ L st M, zz_ev tX10_needOf 7 L st M = zo_pushI 3 8 (zz_ev tX10_needOf) L st M) ∧
  (∀ L st M, zz_ev tX10_needOf 8 L st M = zo_iid (fun x y => x - x / y * y) 9 (zz_ev tX10_needOf) L st M) ∧
  (∀ L st M, zz_ev tX10_needOf 9 L st M = zo_ii (fun x y => x + y) 10 (zz_ev tX10_needOf) L st M) ∧
  (∀ L st M, zz_ev tX10_needOf 10 L st M = zo_iret false (zz_ev tX10_needOf) L st M) :=
  ⟨zz_1 rfl tl_X10_needOf, zz_1 rfl tl_X10_needOf, zz_1 rfl tl_X10_needOf, zz_1 rfl tl_X10_needOf, fun L a0 a1 r M => (zz_1 rfl tl_X10_needOf _ _ _).trans rfl, fun L a0 a1 r M => (zz_1 rfl tl_X10_needOf _ _ _).trans rfl, fun L a0 a1 r M => (zz_1 rfl tl_X10_needOf _ _ _).trans rfl, fun L a0 a1 r M => (zz_1 rfl tl_X10_needOf _ _ _).trans rfl, fun L a0 a1 r M => (zz_1 rfl tl_X10_needOf _ _ _).trans rfl, fun L a0 a1 r M => (zz_1 rfl tl_X10_needOf _ _ _).trans rfl, fun L a0 a1 r M => (zz_1 rfl tl_X10_needOf _ _ _).trans rfl, fun L a0 a1 r M => (zz_1 rfl tl_X10_needOf _ _ _).trans rfl, fun L a0 a1 r M => (zz_1 rfl tl_X10_needOf _ _ _).trans rfl, zz_1 rfl tl_X10_needOf, zz_1 rfl tl_X10_needOf, zz_1 rfl tl_X10_needOf, zz_1 rfl tl_X10_needOf⟩
set_option maxRecDepth 100000 in
theorem s_X10_needOf (a0 : Int32) (v : Nat) (M : zzMd) : fX10_needOf [.ref v, .int a0] M = zz_ev tX10_needOf 0 [some (.ref v), some (.int a0)] [] M := rfl
set_option maxRecDepth 100000 in
theorem e_X9_applyBoth : (∀ L st M, zz_ev tX9_applyBoth 0 L st M = zo_aload 0 1 (zz_ev tX9_applyBoth) L st M) ∧
  (∀ L st M, zz_ev tX9_applyBoth 1 L st M = zo_iload 2 2 (zz_ev tX9_applyBoth) L st M) ∧
  (∀ (L : zzLc) (a0 : Int32) (r : List Value) (M : zzMd), zz_ev tX9_applyBoth 2 L (.int a0 :: .ref 1 :: r) M = bif zz_cat8 r then zz_backN (zz_ev tX9_applyBoth) 5 L r (fX9_draftFrom [.ref 1, .int a0] M) else none) ∧
  (∀ L st M, zz_ev tX9_applyBoth 5 L st M = zo_aload 0 6 (zz_ev tX9_applyBoth) L st M) ∧
  (∀ (L : zzLc) (r : List Value) (M : zzMd), zz_ev tX9_applyBoth 6 L (.ref 1 :: r) M = zz_ev tX9_applyBoth 9 L (.ref 17 :: r) M) ∧
  (∀ L st M, zz_ev tX9_applyBoth 9 L st M = zo_pushI 2 10 (zz_ev tX9_applyBoth) L st M) ∧
  (∀ L st M, zz_ev tX9_applyBoth 10 L st M = zo_iload 3 11 (zz_ev tX9_applyBoth) L st M) ∧
  (∀ L st M, zz_ev tX9_applyBoth 11 L st M = zo_iast zzSC 12 (zz_ev tX9_applyBoth) L st M) ∧
  (∀ L st M, zz_ev tX9_applyBoth 12 L st M = zo_aload 0 13 (zz_ev tX9_applyBoth) L st M) ∧
  (∀ (L : zzLc) (r : List Value) (M : zzMd), zz_ev tX9_applyBoth 13 L (.ref 1 :: r) M = zz_ev tX9_applyBoth 16 L (.ref 17 :: r) M) ∧
  (∀ L st M, zz_ev tX9_applyBoth 16 L st M = zo_pushI 3 17 (zz_ev tX9_applyBoth) L st M) ∧
  (∀ L st M, zz_ev tX9_applyBoth 17 L st M = zo_iload 4 19 (zz_ev tX9_applyBoth) L st M) ∧
  (∀ L st M, zz_ev tX9_applyBoth 19 L st M = zo_iast zzSC 20 (zz_ev tX9_applyBoth) L st M) ∧
  (∀ L st M, zz_ev tX9_applyBoth 20 L st M = zo_aload 0 21 (zz_ev tX9_applyBoth) L st M) ∧
  (∀ (L : zzLc) (r : List Value) (M : zzMd), zz_ev tX9_applyBoth 21 L (.ref 1 :: r) M = zz_ev tX9_applyBoth 24 L (.ref 17 :: r) M) ∧
  (∀ L st M, zz_ev tX9_applyBoth 24 L st M = zo_pushI 13 26 (zz_ev tX9_applyBoth) L st M) ∧
  (∀ L st M, zz_ev tX9_applyBoth 26 L st M = zo_iload 1 27 (zz_ev tX9_applyBoth) L st M) ∧
  (∀ L st M, zz_ev tX9_applyBoth 27 L st M = zo_iast zzSC 28 (zz_ev tX9_applyBoth) L st M) ∧
  (∀ L st M, zz_ev tX9_applyBoth 28 L st M = zo_aload 0 29 (zz_ev tX9_applyBoth) L st M) ∧
  (∀ (L : zzLc) (r : List Value) (M : zzMd), zz_ev tX9_applyBoth 29 L (.ref 1 :: r) M = zz_ev tX9_applyBoth 32 L (.ref 17 :: r) M) ∧
  (∀ L st M, zz_ev tX9_applyBoth 32 L st M = zo_pushI 14 34 (zz_ev tX9_applyBoth) L st M) ∧
  (∀ L st M, zz_ev tX9_applyBoth 34 L st M = zo_iload 1 35 (zz_ev tX9_applyBoth) L st M) ∧
  (∀ L st M, zz_ev tX9_applyBoth 35 L st M = zo_iast zzSC 36 (zz_ev tX9_applyBoth) L st M) ∧
  (∀ L st M, zz_ev tX9_applyBoth 36 L st M = zo_aload 0 37 (zz_ev tX9_applyBoth) L st M) ∧
  (∀ (L : zzLc) (r : List Value) (M : zzMd), zz_ev tX9_applyBoth 37 L (.ref 1 :: r) M = zz_ev tX9_applyBoth 40 L (.ref 2 :: r) M) ∧
  (∀ L st M, zz_ev tX9_applyBoth 40 L st M = zo_aload 0 41 (zz_ev tX9_applyBoth) L st M) ∧
  (∀ (L : zzLc) (r : List Value) (M : zzMd), zz_ev tX9_applyBoth 41 L (.ref 1 :: r) M = zz_ev tX9_applyBoth 44 L (.ref 17 :: r) M) ∧
  (∀ (L : zzLc) (a0 : Nat) (r : List Value) (M : zzMd), zz_ev tX9_applyBoth 44 L (.ref a0 :: .ref 2 :: r) M = bif zz_cat8 r then zz_backN (zz_ev tX9_applyBoth) 47 L r (fX0_settles [.ref 2, .ref a0] M) else none) ∧
  (∀ L st M, zz_ev tX9_applyBoth 47 L st M = zo_if (fun x => decide (x = 0)) 76 50 (zz_ev tX9_applyBoth) L st M) ∧
  (∀ L st M, zz_ev tX9_applyBoth 50 L st M = zo_aload 0 51 (zz_ev tX9_applyBoth) L st M) ∧
  (∀ (L : zzLc) (r : List Value) (M : zzMd), zz_ev tX9_applyBoth 51 L (.ref 1 :: r) M = zz_ev tX9_applyBoth 54 L (.ref 2 :: r) M) ∧
  (∀ L st M, zz_ev tX9_applyBoth 54 L st M = zo_aload 0 55 (zz_ev tX9_applyBoth) L st M) ∧
  (∀ (L : zzLc) (r : List Value) (M : zzMd), zz_ev tX9_applyBoth 55 L (.ref 1 :: r) M = zz_ev tX9_applyBoth 58 L (.ref 17 :: r) M) ∧
  (∀ (L : zzLc) (a0 : Nat) (r : List Value) (M : zzMd), zz_ev tX9_applyBoth 58 L (.ref a0 :: .ref 2 :: r) M = bif zz_cat8 r then zz_backN (zz_ev tX9_applyBoth) 61 L r (fX0_allows [.ref 2, .ref a0] M) else none) ∧
  (∀ L st M, zz_ev tX9_applyBoth 61 L st M = zo_if (fun x => decide (x = 0)) 76 64 (zz_ev tX9_applyBoth) L st M) ∧
  (∀ L st M, zz_ev tX9_applyBoth 64 L st M = zo_aload 0 65 (zz_ev tX9_applyBoth) L st M) ∧
  (∀ L st M, zz_ev tX9_applyBoth 65 L st M = zo_iload 2 66 (zz_ev tX9_applyBoth) L st M) ∧
  (∀ (L : zzLc) (a0 : Int32) (r : List Value) (M : zzMd), zz_ev tX9_applyBoth 66 L (.int a0 :: .ref 1 :: r) M = bif zz_cat8 r then zz_backN (zz_ev tX9_applyBoth) 69 L r (fX9_write [.ref 1, .int a0] M) else none) ∧
  (∀ L st M, zz_ev tX9_applyBoth 69 L st M = zo_if (fun x => decide (x = 0)) 76 72 (zz_ev tX9_applyBoth) L st M) ∧
  (∀ L st M, zz_ev tX9_applyBoth 72 L st M = zo_pushI 1 73 (zz_ev tX9_applyBoth) L st M) ∧
  (∀ L st M, zz_ev tX9_applyBoth 73 L st M = zo_goto 77 (zz_ev tX9_applyBoth) L st M) ∧
  (∀ L st M, zz_ev tX9_applyBoth 76 L st M = zo_pushI 0 77 (zz_ev tX9_applyBoth) L st M) ∧
  (∀ L st M, zz_ev tX9_applyBoth 77 L st M = zo_iret true (zz_ev tX9_applyBoth) L st M) :=
  ⟨zz_1 rfl tl_X9_applyBoth, zz_1 rfl tl_X9_applyBoth, fun L a0 r M => (zz_1 rfl tl_X9_applyBoth _ _ _).trans rfl, zz_1 rfl tl_X9_applyBoth, fun L r M => (zz_1 rfl tl_X9_applyBoth _ _ _).trans rfl, zz_1 rfl tl_X9_applyBoth, zz_1 rfl tl_X9_applyBoth, zz_1 rfl tl_X9_applyBoth, zz_1 rfl tl_X9_applyBoth, fun L r M => (zz_1 rfl tl_X9_applyBoth _ _ _).trans rfl, zz_1 rfl tl_X9_applyBoth, zz_1 rfl tl_X9_applyBoth, zz_1 rfl tl_X9_applyBoth, zz_1 rfl tl_X9_applyBoth, fun L r M => (zz_1 rfl tl_X9_applyBoth _ _ _).trans rfl, zz_1 rfl tl_X9_applyBoth, zz_1 rfl tl_X9_applyBoth, zz_1 rfl tl_X9_applyBoth, zz_1 rfl tl_X9_applyBoth, fun L r M => (zz_1 rfl tl_X9_applyBoth _ _ _).trans rfl, zz_1 rfl tl_X9_applyBoth, zz_1 rfl tl_X9_applyBoth, zz_1 rfl tl_X9_applyBoth, zz_1 rfl tl_X9_applyBoth, fun L r M => (zz_1 rfl tl_X9_applyBoth _ _ _).trans rfl, zz_1 rfl tl_X9_applyBoth, fun L r M => (zz_1 rfl tl_X9_applyBoth _ _ _).trans rfl, fun L a0 r M => (zz_1 rfl tl_X9_applyBoth _ _ _).trans rfl, zz_1 rfl tl_X9_applyBoth, zz_1 rfl tl_X9_applyBoth, fun L r M => (zz_1 rfl tl_X9_applyBoth _ _ _).trans rfl, zz_1 rfl tl_X9_applyBoth, fun L r M => (zz_1 rfl tl_X9_applyBoth _ _ _).trans rfl, fun L a0 r M => (zz_1 rfl tl_X9_applyBoth _ _ _).trans rfl, zz_1 rfl tl_X9_applyBoth, zz_1 rfl tl_X9_applyBoth, zz_1 rfl tl_X9_applyBoth, fun L a0 r M => (zz_1 rfl tl_X9_applyBoth _ _ _).trans rfl, zz_1 rfl tl_X9_applyBoth, zz_1 rfl tl_X9_applyBoth, zz_1 rfl tl_X9_applyBoth, zz_1 rfl tl_X9_applyBoth, zz_1 rfl tl_X9_applyBoth⟩
set_option maxRecDepth 100000 in
theorem s_X9_applyBoth (a0 a1 a2 a3 : Int32) (v : Nat) (M : zzMd) : fX9_applyBoth [.ref v, .int a0, .int a1, .int a2, .int a3] M = zz_ev tX9_applyBoth 0 [some (.ref v), some (.int a0), some (.int a1), some (.int a2), some (.int a3)] [] M := rfl
set_option maxRecDepth 100000 in
theorem e_X9_beginTick : (∀ L st M, zz_ev tX9_beginTick 0 L st M = zo_aload 0 1 (zz_ev tX9_beginTick) L st M) ∧
  (∀ L st M, zz_ev tX9_beginTick 1 L st M = zo_dup 2 (zz_ev tX9_beginTick) L st M) ∧
  (∀ (L : zzLc) (r : List Value) (M : zzMd), zz_ev tX9_beginTick 2 L (.ref 1 :: r) M = zz_ev tX9_beginTick 5 L (.int (M.1 1 7) :: r) M) ∧
  (∀ L st M, zz_ev tX9_beginTick 5 L st M = zo_pushI 1 6 (zz_ev tX9_beginTick) L st M) ∧
  (∀ L st M, zz_ev tX9_beginTick 6 L st M = zo_ii (fun x y => x + y) 7 (zz_ev tX9_beginTick) L st M) ∧
  (∀ (L : zzLc) (x : Int32) (r : List Value) (M : zzMd), zz_ev tX9_beginTick 7 L (.int x :: .ref 1 :: r) M = zz_ev tX9_beginTick 10 L r (zz_sI M 1 7 x)) ∧
  (∀ L st M, zz_ev tX9_beginTick 10 L st M = zo_pushI 0 11 (zz_ev tX9_beginTick) L st M) ∧
  (∀ L st M, zz_ev tX9_beginTick 11 L st M = zo_istore 1 12 (zz_ev tX9_beginTick) L st M) ∧
  (∀ L st M, zz_ev tX9_beginTick 13 L st M = zo_aload 0 14 (zz_ev tX9_beginTick) L st M) ∧
  (∀ (L : zzLc) (r : List Value) (M : zzMd), zz_ev tX9_beginTick 14 L (.ref 1 :: r) M = zz_ev tX9_beginTick 17 L (.int (M.1 1 2) :: r) M) ∧
  (∀ L st M, zz_ev tX9_beginTick 17 L st M = zo_icmp (fun x y => decide (y ≤ x)) 70 20 (zz_ev tX9_beginTick) L st M) ∧
  (∀ L st M, zz_ev tX9_beginTick 20 L st M = zo_aload 0 21 (zz_ev tX9_beginTick) L st M) ∧
  (∀ L st M, zz_ev tX9_beginTick 21 L st M = zo_iload 1 22 (zz_ev tX9_beginTick) L st M) ∧
  (∀ L st M, zz_ev tX9_beginTick 22 L st M = zo_pushI 23 24 (zz_ev tX9_beginTick) L st M) ∧
  (∀ (L : zzLc) (a0 a1 : Int32) (r : List Value) (M : zzMd), zz_ev tX9_beginTick 24 L (.int a1 :: .int a0 :: .ref 1 :: r) M = bif zz_cat8 r then zz_backN (zz_ev tX9_beginTick) 27 L r (fX10_read [.ref 1, .int a0, .int a1] M) else none) ∧
  (∀ L st M, zz_ev tX9_beginTick 27 L st M = zo_pushI 4 28 (zz_ev tX9_beginTick) L st M) ∧
  (∀ L st M, zz_ev tX9_beginTick 28 L st M = zo_icmp (fun x y => decide (¬ x = y)) 64 31 (zz_ev tX9_beginTick) L st M) ∧
  (∀ L st M, zz_ev tX9_beginTick 31 L st M = zo_aload 0 32 (zz_ev tX9_beginTick) L st M) ∧
  (∀ L st M, zz_ev tX9_beginTick 32 L st M = zo_iload 1 33 (zz_ev tX9_beginTick) L st M) ∧
  (∀ (L : zzLc) (a0 : Int32) (r : List Value) (M : zzMd), zz_ev tX9_beginTick 33 L (.int a0 :: .ref 1 :: r) M = bif zz_cat8 r then zz_backN (zz_ev tX9_beginTick) 36 L r (fX10_isGone [.ref 1, .int a0] M) else none) ∧
  (∀ L st M, zz_ev tX9_beginTick 36 L st M = zo_if (fun x => decide (¬ x = 0)) 64 39 (zz_ev tX9_beginTick) L st M) ∧
  (∀ L st M, zz_ev tX9_beginTick 39 L st M = zo_aload 0 40 (zz_ev tX9_beginTick) L st M) ∧
  (∀ (L : zzLc) (r : List Value) (M : zzMd), zz_ev tX9_beginTick 40 L (.ref 1 :: r) M = zz_ev tX9_beginTick 43 L (.int (M.1 1 7) :: r) M) ∧
  (∀ L st M, zz_ev tX9_beginTick 43 L st M = zo_aload 0 44 (zz_ev tX9_beginTick) L st M) ∧
  (∀ (L : zzLc) (r : List Value) (M : zzMd), zz_ev tX9_beginTick 44 L (.ref 1 :: r) M = zz_ev tX9_beginTick 47 L (.ref 16 :: r) M) ∧
  (∀ L st M, zz_ev tX9_beginTick 47 L st M = zo_iload 1 48 (zz_ev tX9_beginTick) L st M) ∧
  (∀ L st M, zz_ev tX9_beginTick 48 L st M = zo_iald zzSC zzSTC 49 (zz_ev tX9_beginTick) L st M) ∧
  (∀ L st M, zz_ev tX9_beginTick 49 L st M = zo_ii (fun x y => x - y) 50 (zz_ev tX9_beginTick) L st M) ∧
  (∀ L st M, zz_ev tX9_beginTick 50 L st M = zo_pushI 20 52 (zz_ev tX9_beginTick) L st M) ∧
  (∀ L st M, zz_ev tX9_beginTick 52 L st M = zo_icmp (fun x y => decide (x ≤ y)) 64 55 (zz_ev tX9_beginTick) L st M) ∧
  (∀ L st M, zz_ev tX9_beginTick 55 L st M = zo_aload 0 56 (zz_ev tX9_beginTick) L st M) ∧
  (∀ L st M, zz_ev tX9_beginTick 56 L st M = zo_iload 1 57 (zz_ev tX9_beginTick) L st M) ∧
  (∀ L st M, zz_ev tX9_beginTick 57 L st M = zo_pushI 27 59 (zz_ev tX9_beginTick) L st M) ∧
  (∀ L st M, zz_ev tX9_beginTick 59 L st M = zo_pushI 0 60 (zz_ev tX9_beginTick) L st M) ∧
  (∀ (L : zzLc) (a0 a1 a2 : Int32) (r : List Value) (M : zzMd), zz_ev tX9_beginTick 60 L (.int a2 :: .int a1 :: .int a0 :: .ref 1 :: r) M = bif zz_cat8 r then zz_backN (zz_ev tX9_beginTick) 63 L r (fX9_change [.ref 1, .int a0, .int a1, .int a2] M) else none) ∧
  (∀ L st M, zz_ev tX9_beginTick 63 L st M = zo_pop 64 (zz_ev tX9_beginTick) L st M) ∧
  (∀ L st M, zz_ev tX9_beginTick 64 L st M = zo_iinc 1 1 67 (zz_ev tX9_beginTick) L st M) ∧
  (∀ L st M, zz_ev tX9_beginTick 67 L st M = zo_goto 12 (zz_ev tX9_beginTick) L st M) ∧
  (∀ L st M, zz_ev tX9_beginTick 70 L st M = zo_ret (zz_ev tX9_beginTick) L st M) :=
  ⟨zz_1 rfl tl_X9_beginTick, zz_1 rfl tl_X9_beginTick, fun L r M => (zz_1 rfl tl_X9_beginTick _ _ _).trans rfl, zz_1 rfl tl_X9_beginTick, zz_1 rfl tl_X9_beginTick, fun L x r M => (zz_1 rfl tl_X9_beginTick _ _ _).trans rfl, zz_1 rfl tl_X9_beginTick, zz_1 rfl tl_X9_beginTick, zz_1 rfl tl_X9_beginTick, fun L r M => (zz_1 rfl tl_X9_beginTick _ _ _).trans rfl, zz_1 rfl tl_X9_beginTick, zz_1 rfl tl_X9_beginTick, zz_1 rfl tl_X9_beginTick, zz_1 rfl tl_X9_beginTick, fun L a0 a1 r M => (zz_1 rfl tl_X9_beginTick _ _ _).trans rfl, zz_1 rfl tl_X9_beginTick, zz_1 rfl tl_X9_beginTick, zz_1 rfl tl_X9_beginTick, zz_1 rfl tl_X9_beginTick, fun L a0 r M => (zz_1 rfl tl_X9_beginTick _ _ _).trans rfl, zz_1 rfl tl_X9_beginTick, zz_1 rfl tl_X9_beginTick, fun L r M => (zz_1 rfl tl_X9_beginTick _ _ _).trans rfl, zz_1 rfl tl_X9_beginTick, fun L r M => (zz_1 rfl tl_X9_beginTick _ _ _).trans rfl, zz_1 rfl tl_X9_beginTick, zz_1 rfl tl_X9_beginTick, zz_1 rfl tl_X9_beginTick, zz_1 rfl tl_X9_beginTick, zz_1 rfl tl_X9_beginTick, zz_1 rfl tl_X9_beginTick, zz_1 rfl tl_X9_beginTick, zz_1 rfl tl_X9_beginTick, zz_1 rfl tl_X9_beginTick, fun L a0 a1 a2 r M => (zz_1 rfl tl_X9_beginTick _ _ _).trans rfl, zz_1 rfl tl_X9_beginTick, zz_1 rfl tl_X9_beginTick, zz_1 rfl tl_X9_beginTick, zz_1 rfl tl_X9_beginTick⟩
set_option maxRecDepth 100000 in
theorem e_X9_beginTick_12 : (∀ L st M, zz_ev tX9_beginTick 12 L st M = zo_iload 1 13 (zz_ev tX9_beginTick) L st M) := zz_1 rfl tl_X9_beginTick
set_option maxRecDepth 100000 in
theorem s_X9_beginTick (v : Nat) (M : zzMd) : fX9_beginTick [.ref v] M = zz_ev tX9_beginTick 0 [some (.ref v), none] [] M := rfl
set_option maxRecDepth 100000 in
theorem e_J9_floorDiv_7cf53 : (∀ L st M, zz_ev tJ9_floorDiv_7cf53 0 L st M = zo_iload 0 1 (zz_ev tJ9_floorDiv_7cf53) L st M) ∧
  (∀ L st M, zz_ev tJ9_floorDiv_7cf53 1 L st M = zo_iload 1 2 (zz_ev tJ9_floorDiv_7cf53) L st M) ∧
  (∀ L st M, zz_ev tJ9_floorDiv_7cf53 2 L st M = zo_iid (fun x y => x / y) 3 (zz_ev tJ9_floorDiv_7cf53) L st M) ∧
  (∀ L st M, zz_ev tJ9_floorDiv_7cf53 3 L st M = zo_istore 2 4 (zz_ev tJ9_floorDiv_7cf53) L st M) ∧
  (∀ L st M, zz_ev tJ9_floorDiv_7cf53 4 L st M = zo_iload 0 5 (zz_ev tJ9_floorDiv_7cf53) L st M) ∧
  (∀ L st M, zz_ev tJ9_floorDiv_7cf53 5 L st M = zo_iload 1 6 (zz_ev tJ9_floorDiv_7cf53) L st M) ∧
  (∀ L st M, zz_ev tJ9_floorDiv_7cf53 6 L st M = zo_ii (fun x y => x ^^^ y) 7 (zz_ev tJ9_floorDiv_7cf53) L st M) ∧
  (∀ L st M, zz_ev tJ9_floorDiv_7cf53 7 L st M = zo_if (fun x => decide (0 ≤ x)) 21 10 (zz_ev tJ9_floorDiv_7cf53) L st M) ∧
  (∀ L st M, zz_ev tJ9_floorDiv_7cf53 10 L st M = zo_iload 2 11 (zz_ev tJ9_floorDiv_7cf53) L st M) ∧
  (∀ L st M, zz_ev tJ9_floorDiv_7cf53 11 L st M = zo_iload 1 12 (zz_ev tJ9_floorDiv_7cf53) L st M) ∧
  (∀ L st M, zz_ev tJ9_floorDiv_7cf53 12 L st M = zo_ii (fun x y => x * y) 13 (zz_ev tJ9_floorDiv_7cf53) L st M) ∧
  (∀ L st M, zz_ev tJ9_floorDiv_7cf53 13 L st M = zo_iload 0 14 (zz_ev tJ9_floorDiv_7cf53) L st M) ∧
  (∀ L st M, zz_ev tJ9_floorDiv_7cf53 14 L st M = zo_icmp (fun x y => decide (x = y)) 21 17 (zz_ev tJ9_floorDiv_7cf53) L st M) ∧
  (∀ L st M, zz_ev tJ9_floorDiv_7cf53 17 L st M = zo_iload 2 18 (zz_ev tJ9_floorDiv_7cf53) L st M) ∧
  (∀ L st M, zz_ev tJ9_floorDiv_7cf53 18 L st M = zo_pushI 1 19 (zz_ev tJ9_floorDiv_7cf53) L st M) ∧
  (∀ L st M, zz_ev tJ9_floorDiv_7cf53 19 L st M = zo_ii (fun x y => x - y) 20 (zz_ev tJ9_floorDiv_7cf53) L st M) ∧
  (∀ L st M, zz_ev tJ9_floorDiv_7cf53 20 L st M = zo_iret false (zz_ev tJ9_floorDiv_7cf53) L st M) ∧
  (∀ L st M, zz_ev tJ9_floorDiv_7cf53 21 L st M = zo_iload 2 22 (zz_ev tJ9_floorDiv_7cf53) L st M) ∧
  (∀ L st M, zz_ev tJ9_floorDiv_7cf53 22 L st M = zo_iret false (zz_ev tJ9_floorDiv_7cf53) L st M) :=
  ⟨zz_1 rfl tl_J9_floorDiv_7cf53, zz_1 rfl tl_J9_floorDiv_7cf53, zz_1 rfl tl_J9_floorDiv_7cf53, zz_1 rfl tl_J9_floorDiv_7cf53, zz_1 rfl tl_J9_floorDiv_7cf53, zz_1 rfl tl_J9_floorDiv_7cf53, zz_1 rfl tl_J9_floorDiv_7cf53, zz_1 rfl tl_J9_floorDiv_7cf53, zz_1 rfl tl_J9_floorDiv_7cf53, zz_1 rfl tl_J9_floorDiv_7cf53, zz_1 rfl tl_J9_floorDiv_7cf53, zz_1 rfl tl_J9_floorDiv_7cf53, zz_1 rfl tl_J9_floorDiv_7cf53, zz_1 rfl tl_J9_floorDiv_7cf53, zz_1 rfl tl_J9_floorDiv_7cf53, zz_1 rfl tl_J9_floorDiv_7cf53, zz_1 rfl tl_J9_floorDiv_7cf53, zz_1 rfl tl_J9_floorDiv_7cf53, zz_1 rfl tl_J9_floorDiv_7cf53⟩
set_option maxRecDepth 100000 in
theorem s_J9_floorDiv_7cf53 (a0 a1 : Int32) (M : zzMd) : fJ9_floorDiv_7cf53 [.int a0, .int a1] M = zz_ev tJ9_floorDiv_7cf53 0 [some (.int a0), some (.int a1), none] [] M := rfl
set_option maxRecDepth 100000 in
theorem e_J9_floorMod_7cf53 : (∀ L st M, zz_ev tJ9_floorMod_7cf53 0 L st M = zo_iload 0 1 (zz_ev tJ9_floorMod_7cf53) L st M) ∧
  (∀ L st M, zz_ev tJ9_floorMod_7cf53 1 L st M = zo_iload 1 2 (zz_ev tJ9_floorMod_7cf53) L st M) ∧
  (∀ L st M, zz_ev tJ9_floorMod_7cf53 2 L st M = zo_iid (fun x y => x - x / y * y) 3 (zz_ev tJ9_floorMod_7cf53) L st M) ∧
  (∀ L st M, zz_ev tJ9_floorMod_7cf53 3 L st M = zo_istore 2 4 (zz_ev tJ9_floorMod_7cf53) L st M) ∧
  (∀ L st M, zz_ev tJ9_floorMod_7cf53 4 L st M = zo_iload 0 5 (zz_ev tJ9_floorMod_7cf53) L st M) ∧
  (∀ L st M, zz_ev tJ9_floorMod_7cf53 5 L st M = zo_iload 1 6 (zz_ev tJ9_floorMod_7cf53) L st M) ∧
  (∀ L st M, zz_ev tJ9_floorMod_7cf53 6 L st M = zo_ii (fun x y => x ^^^ y) 7 (zz_ev tJ9_floorMod_7cf53) L st M) ∧
  (∀ L st M, zz_ev tJ9_floorMod_7cf53 7 L st M = zo_if (fun x => decide (0 ≤ x)) 18 10 (zz_ev tJ9_floorMod_7cf53) L st M) ∧
  (∀ L st M, zz_ev tJ9_floorMod_7cf53 10 L st M = zo_iload 2 11 (zz_ev tJ9_floorMod_7cf53) L st M) ∧
  (∀ L st M, zz_ev tJ9_floorMod_7cf53 11 L st M = zo_if (fun x => decide (x = 0)) 18 14 (zz_ev tJ9_floorMod_7cf53) L st M) ∧
  (∀ L st M, zz_ev tJ9_floorMod_7cf53 14 L st M = zo_iload 2 15 (zz_ev tJ9_floorMod_7cf53) L st M) ∧
  (∀ L st M, zz_ev tJ9_floorMod_7cf53 15 L st M = zo_iload 1 16 (zz_ev tJ9_floorMod_7cf53) L st M) ∧
  (∀ L st M, zz_ev tJ9_floorMod_7cf53 16 L st M = zo_ii (fun x y => x + y) 17 (zz_ev tJ9_floorMod_7cf53) L st M) ∧
  (∀ L st M, zz_ev tJ9_floorMod_7cf53 17 L st M = zo_iret false (zz_ev tJ9_floorMod_7cf53) L st M) ∧
  (∀ L st M, zz_ev tJ9_floorMod_7cf53 18 L st M = zo_iload 2 19 (zz_ev tJ9_floorMod_7cf53) L st M) ∧
  (∀ L st M, zz_ev tJ9_floorMod_7cf53 19 L st M = zo_iret false (zz_ev tJ9_floorMod_7cf53) L st M) :=
  ⟨zz_1 rfl tl_J9_floorMod_7cf53, zz_1 rfl tl_J9_floorMod_7cf53, zz_1 rfl tl_J9_floorMod_7cf53, zz_1 rfl tl_J9_floorMod_7cf53, zz_1 rfl tl_J9_floorMod_7cf53, zz_1 rfl tl_J9_floorMod_7cf53, zz_1 rfl tl_J9_floorMod_7cf53, zz_1 rfl tl_J9_floorMod_7cf53, zz_1 rfl tl_J9_floorMod_7cf53, zz_1 rfl tl_J9_floorMod_7cf53, zz_1 rfl tl_J9_floorMod_7cf53, zz_1 rfl tl_J9_floorMod_7cf53, zz_1 rfl tl_J9_floorMod_7cf53, zz_1 rfl tl_J9_floorMod_7cf53, zz_1 rfl tl_J9_floorMod_7cf53, zz_1 rfl tl_J9_floorMod_7cf53⟩
set_option maxRecDepth 100000 in
theorem s_J9_floorMod_7cf53 (a0 a1 : Int32) (M : zzMd) : fJ9_floorMod_7cf53 [.int a0, .int a1] M = zz_ev tJ9_floorMod_7cf53 0 [some (.int a0), some (.int a1), none] [] M := rfl
set_option maxRecDepth 100000 in
theorem e_X2_enqueue : (∀ L st M, zz_ev tX2_enqueue 0 L st M = zo_iload 1 1 (zz_ev tX2_enqueue) L st M) ∧
  (∀ L st M, zz_ev tX2_enqueue 1 L st M = zo_if (fun x => decide (x < 0)) 28 4 (zz_ev tX2_enqueue) L st M) ∧
  (∀ L st M, zz_ev tX2_enqueue 4 L st M = zo_iload 1 5 (zz_ev tX2_enqueue) L st M) ∧
  (∀ L st M, zz_ev tX2_enqueue 5 L st M = zo_pushI 60 7 (zz_ev tX2_enqueue) L st M) ∧
  (∀ L st M, zz_ev tX2_enqueue 7 L st M = zo_icmp (fun x y => decide (y ≤ x)) 28 10 (zz_ev tX2_enqueue) L st M) ∧
  (∀ L st M, zz_ev tX2_enqueue 10 L st M = zo_aload 0 11 (zz_ev tX2_enqueue) L st M) ∧
  (∀ (L : zzLc) (r : List Value) (M : zzMd), zz_ev tX2_enqueue 11 L (.ref 3 :: r) M = zz_ev tX2_enqueue 14 L (.int (M.1 3 11) :: r) M) ∧
  (∀ (L : zzLc) (r : List Value) (M : zzMd), zz_ev tX2_enqueue 11 L (.ref 4 :: r) M = zz_ev tX2_enqueue 14 L (.int (M.1 4 11) :: r) M) ∧
  (∀ (L : zzLc) (r : List Value) (M : zzMd), zz_ev tX2_enqueue 11 L (.ref 5 :: r) M = zz_ev tX2_enqueue 14 L (.int (M.1 5 11) :: r) M) ∧
  (∀ (L : zzLc) (r : List Value) (M : zzMd), zz_ev tX2_enqueue 11 L (.ref 6 :: r) M = zz_ev tX2_enqueue 14 L (.int (M.1 6 11) :: r) M) ∧
  (∀ (L : zzLc) (r : List Value) (M : zzMd), zz_ev tX2_enqueue 11 L (.ref 7 :: r) M = zz_ev tX2_enqueue 14 L (.int (M.1 7 11) :: r) M) ∧
  (∀ (L : zzLc) (r : List Value) (M : zzMd), zz_ev tX2_enqueue 11 L (.ref 8 :: r) M = zz_ev tX2_enqueue 14 L (.int (M.1 8 11) :: r) M) ∧
  (∀ (L : zzLc) (r : List Value) (M : zzMd), zz_ev tX2_enqueue 11 L (.ref 9 :: r) M = zz_ev tX2_enqueue 14 L (.int (M.1 9 11) :: r) M) ∧
  (∀ (L : zzLc) (r : List Value) (M : zzMd), zz_ev tX2_enqueue 11 L (.ref 10 :: r) M = zz_ev tX2_enqueue 14 L (.int (M.1 10 11) :: r) M) ∧
  (∀ L st M, zz_ev tX2_enqueue 14 L st M = zo_pushI 60 16 (zz_ev tX2_enqueue) L st M) ∧
  (∀ L st M, zz_ev tX2_enqueue 16 L st M = zo_icmp (fun x y => decide (y ≤ x)) 28 19 (zz_ev tX2_enqueue) L st M) ∧
  (∀ L st M, zz_ev tX2_enqueue 19 L st M = zo_aload 0 20 (zz_ev tX2_enqueue) L st M) ∧
  (∀ (L : zzLc) (r : List Value) (M : zzMd), zz_ev tX2_enqueue 20 L (.ref 3 :: r) M = zz_ev tX2_enqueue 23 L (.ref 23 :: r) M) ∧
  (∀ (L : zzLc) (r : List Value) (M : zzMd), zz_ev tX2_enqueue 20 L (.ref 4 :: r) M = zz_ev tX2_enqueue 23 L (.ref 29 :: r) M) ∧
  (∀ (L : zzLc) (r : List Value) (M : zzMd), zz_ev tX2_enqueue 20 L (.ref 5 :: r) M = zz_ev tX2_enqueue 23 L (.ref 35 :: r) M) ∧
  (∀ (L : zzLc) (r : List Value) (M : zzMd), zz_ev tX2_enqueue 20 L (.ref 6 :: r) M = zz_ev tX2_enqueue 23 L (.ref 41 :: r) M) ∧
  (∀ (L : zzLc) (r : List Value) (M : zzMd), zz_ev tX2_enqueue 20 L (.ref 7 :: r) M = zz_ev tX2_enqueue 23 L (.ref 47 :: r) M) ∧
  (∀ (L : zzLc) (r : List Value) (M : zzMd), zz_ev tX2_enqueue 20 L (.ref 8 :: r) M = zz_ev tX2_enqueue 23 L (.ref 53 :: r) M) ∧
  (∀ (L : zzLc) (r : List Value) (M : zzMd), zz_ev tX2_enqueue 20 L (.ref 9 :: r) M = zz_ev tX2_enqueue 23 L (.ref 59 :: r) M) ∧
  (∀ (L : zzLc) (r : List Value) (M : zzMd), zz_ev tX2_enqueue 20 L (.ref 10 :: r) M = zz_ev tX2_enqueue 23 L (.ref 65 :: r) M) ∧
  (∀ L st M, zz_ev tX2_enqueue 23 L st M = zo_iload 1 24 (zz_ev tX2_enqueue) L st M) ∧
  (∀ L st M, zz_ev tX2_enqueue 24 L st M = zo_zald zzSC 25 (zz_ev tX2_enqueue) L st M) ∧
  (∀ L st M, zz_ev tX2_enqueue 25 L st M = zo_if (fun x => decide (x = 0)) 29 28 (zz_ev tX2_enqueue) L st M) ∧
  (∀ L st M, zz_ev tX2_enqueue 28 L st M = zo_ret (zz_ev tX2_enqueue) L st M) ∧
  (∀ L st M, zz_ev tX2_enqueue 29 L st M = zo_aload 0 30 (zz_ev tX2_enqueue) L st M) ∧
  (∀ (L : zzLc) (r : List Value) (M : zzMd), zz_ev tX2_enqueue 30 L (.ref 3 :: r) M = zz_ev tX2_enqueue 33 L (.ref 23 :: r) M) ∧
  (∀ (L : zzLc) (r : List Value) (M : zzMd), zz_ev tX2_enqueue 30 L (.ref 4 :: r) M = zz_ev tX2_enqueue 33 L (.ref 29 :: r) M) ∧
  (∀ (L : zzLc) (r : List Value) (M : zzMd), zz_ev tX2_enqueue 30 L (.ref 5 :: r) M = zz_ev tX2_enqueue 33 L (.ref 35 :: r) M) ∧
  (∀ (L : zzLc) (r : List Value) (M : zzMd), zz_ev tX2_enqueue 30 L (.ref 6 :: r) M = zz_ev tX2_enqueue 33 L (.ref 41 :: r) M) ∧
  (∀ (L : zzLc) (r : List Value) (M : zzMd), zz_ev tX2_enqueue 30 L (.ref 7 :: r) M = zz_ev tX2_enqueue 33 L (.ref 47 :: r) M) ∧
  (∀ (L : zzLc) (r : List Value) (M : zzMd), zz_ev tX2_enqueue 30 L (.ref 8 :: r) M = zz_ev tX2_enqueue 33 L (.ref 53 :: r) M) ∧
  (∀ (L : zzLc) (r : List Value) (M : zzMd), zz_ev tX2_enqueue 30 L (.ref 9 :: r) M = zz_ev tX2_enqueue 33 L (.ref 59 :: r) M) ∧
  (∀ (L : zzLc) (r : List Value) (M : zzMd), zz_ev tX2_enqueue 30 L (.ref 10 :: r) M = zz_ev tX2_enqueue 33 L (.ref 65 :: r) M) ∧
  (∀ L st M, zz_ev tX2_enqueue 33 L st M = zo_iload 1 34 (zz_ev tX2_enqueue) L st M) ∧
  (∀ L st M, zz_ev tX2_enqueue 34 L st M = zo_pushI 1 35 (zz_ev tX2_enqueue) L st M) ∧
  (∀ L st M, zz_ev tX2_enqueue 35 L st M = zo_zast zzSC 36 (zz_ev tX2_enqueue) L st M) ∧
  (∀ L st M, zz_ev tX2_enqueue 36 L st M = zo_aload 0 37 (zz_ev tX2_enqueue) L st M) ∧
  (∀ (L : zzLc) (r : List Value) (M : zzMd), zz_ev tX2_enqueue 37 L (.ref 3 :: r) M = zz_ev tX2_enqueue 40 L (.ref 22 :: r) M) ∧
  (∀ (L : zzLc) (r : List Value) (M : zzMd), zz_ev tX2_enqueue 37 L (.ref 4 :: r) M = zz_ev tX2_enqueue 40 L (.ref 28 :: r) M) ∧
  (∀ (L : zzLc) (r : List Value) (M : zzMd), zz_ev tX2_enqueue 37 L (.ref 5 :: r) M = zz_ev tX2_enqueue 40 L (.ref 34 :: r) M) ∧
  (∀ (L : zzLc) (r : List Value) (M : zzMd), zz_ev tX2_enqueue 37 L (.ref 6 :: r) M = zz_ev tX2_enqueue 40 L (.ref 40 :: r) M) ∧
  (∀ (L : zzLc) (r : List Value) (M : zzMd), zz_ev tX2_enqueue 37 L (.ref 7 :: r) M = zz_ev tX2_enqueue 40 L (.ref 46 :: r) M) ∧
  (∀ (L : zzLc) (r : List Value) (M : zzMd), zz_ev tX2_enqueue 37 L (.ref 8 :: r) M = zz_ev tX2_enqueue 40 L (.ref 52 :: r) M) ∧
  (∀ (L : zzLc) (r : List Value) (M : zzMd), zz_ev tX2_enqueue 37 L (.ref 9 :: r) M = zz_ev tX2_enqueue 40 L (.ref 58 :: r) M) ∧
  (∀ (L : zzLc) (r : List Value) (M : zzMd), zz_ev tX2_enqueue 37 L (.ref 10 :: r) M = zz_ev tX2_enqueue 40 L (.ref 64 :: r) M) ∧
  (∀ L st M, zz_ev tX2_enqueue 40 L st M = zo_aload 0 41 (zz_ev tX2_enqueue) L st M) ∧
  (∀ (L : zzLc) (r : List Value) (M : zzMd), zz_ev tX2_enqueue 41 L (.ref 3 :: r) M = zz_ev tX2_enqueue 44 L (.int (M.1 3 11) :: r) M) ∧
  (∀ (L : zzLc) (r : List Value) (M : zzMd), zz_ev tX2_enqueue 41 L (.ref 4 :: r) M = zz_ev tX2_enqueue 44 L (.int (M.1 4 11) :: r) M) ∧
  (∀ (L : zzLc) (r : List Value) (M : zzMd), zz_ev tX2_enqueue 41 L (.ref 5 :: r) M = zz_ev tX2_enqueue 44 L (.int (M.1 5 11) :: r) M) ∧
  (∀ (L : zzLc) (r : List Value) (M : zzMd), zz_ev tX2_enqueue 41 L (.ref 6 :: r) M = zz_ev tX2_enqueue 44 L (.int (M.1 6 11) :: r) M) ∧
  (∀ (L : zzLc) (r : List Value) (M : zzMd), zz_ev tX2_enqueue 41 L (.ref 7 :: r) M = zz_ev tX2_enqueue 44 L (.int (M.1 7 11) :: r) M) ∧
  (∀ (L : zzLc) (r : List Value) (M : zzMd), zz_ev tX2_enqueue 41 L (.ref 8 :: r) M = zz_ev tX2_enqueue 44 L (.int (M.1 8 11) :: r) M) ∧
  (∀ (L : zzLc) (r : List Value) (M : zzMd), zz_ev tX2_enqueue 41 L (.ref 9 :: r) M = zz_ev tX2_enqueue 44 L (.int (M.1 9 11) :: r) M) ∧
  (∀ (L : zzLc) (r : List Value) (M : zzMd), zz_ev tX2_enqueue 41 L (.ref 10 :: r) M = zz_ev tX2_enqueue 44 L (.int (M.1 10 11) :: r) M) ∧
  (∀ L st M, zz_ev tX2_enqueue 44 L st M = zo_iload 1 45 (zz_ev tX2_enqueue) L st M) ∧
  (∀ L st M, zz_ev tX2_enqueue 45 L st M = zo_iast zzSC 46 (zz_ev tX2_enqueue) L st M) ∧
  (∀ L st M, zz_ev tX2_enqueue 46 L st M = zo_aload 0 47 (zz_ev tX2_enqueue) L st M) ∧
  (∀ L st M, zz_ev tX2_enqueue 47 L st M = zo_dup 48 (zz_ev tX2_enqueue) L st M) ∧
  (∀ (L : zzLc) (r : List Value) (M : zzMd), zz_ev tX2_enqueue 48 L (.ref 3 :: r) M = zz_ev tX2_enqueue 51 L (.int (M.1 3 11) :: r) M) ∧
  (∀ (L : zzLc) (r : List Value) (M : zzMd), zz_ev tX2_enqueue 48 L (.ref 4 :: r) M = zz_ev tX2_enqueue 51 L (.int (M.1 4 11) :: r) M) ∧
  (∀ (L : zzLc) (r : List Value) (M : zzMd), zz_ev tX2_enqueue 48 L (.ref 5 :: r) M = zz_ev tX2_enqueue 51 L (.int (M.1 5 11) :: r) M) ∧
  (∀ (L : zzLc) (r : List Value) (M : zzMd), zz_ev tX2_enqueue 48 L (.ref 6 :: r) M = zz_ev tX2_enqueue 51 L (.int (M.1 6 11) :: r) M) ∧
  (∀ (L : zzLc) (r : List Value) (M : zzMd), zz_ev tX2_enqueue 48 L (.ref 7 :: r) M = zz_ev tX2_enqueue 51 L (.int (M.1 7 11) :: r) M) ∧
  (∀ (L : zzLc) (r : List Value) (M : zzMd), zz_ev tX2_enqueue 48 L (.ref 8 :: r) M = zz_ev tX2_enqueue 51 L (.int (M.1 8 11) :: r) M) ∧
  (∀ (L : zzLc) (r : List Value) (M : zzMd), zz_ev tX2_enqueue 48 L (.ref 9 :: r) M = zz_ev tX2_enqueue 51 L (.int (M.1 9 11) :: r) M) ∧
  (∀ (L : zzLc) (r : List Value) (M : zzMd), zz_ev tX2_enqueue 48 L (.ref 10 :: r) M = zz_ev tX2_enqueue 51 L (.int (M.1 10 11) :: r) M) ∧
  (∀ L st M, zz_ev tX2_enqueue 51 L st M = zo_pushI 1 52 (zz_ev tX2_enqueue) L st M) ∧
  (∀ L st M, zz_ev tX2_enqueue 52 L st M = zo_ii (fun x y => x + y) 53 (zz_ev tX2_enqueue) L st M) ∧
  (∀ (L : zzLc) (x : Int32) (r : List Value) (M : zzMd), zz_ev tX2_enqueue 53 L (.int x :: .ref 3 :: r) M = zz_ev tX2_enqueue 56 L r (zz_sI M 3 11 x)) ∧
  (∀ (L : zzLc) (x : Int32) (r : List Value) (M : zzMd), zz_ev tX2_enqueue 53 L (.int x :: .ref 4 :: r) M = zz_ev tX2_enqueue 56 L r (zz_sI M 4 11 x)) ∧
  (∀ (L : zzLc) (x : Int32) (r : List Value) (M : zzMd), zz_ev tX2_enqueue 53 L (.int x :: .ref 5 :: r) M = zz_ev tX2_enqueue 56 L r (zz_sI M 5 11 x)) ∧
  (∀ (L : zzLc) (x : Int32) (r : List Value) (M : zzMd), zz_ev tX2_enqueue 53 L (.int x :: .ref 6 :: r) M = zz_ev tX2_enqueue 56 L r (zz_sI M 6 11 x)) ∧
  (∀ (L : zzLc) (x : Int32) (r : List Value) (M : zzMd), zz_ev tX2_enqueue 53 L (.int x :: .ref 7 :: r) M = zz_ev tX2_enqueue 56 L r (zz_sI M 7 11 x)) ∧
  (∀ (L : zzLc) (x : Int32) (r : List Value) (M : zzMd), zz_ev tX2_enqueue 53 L (.int x :: .ref 8 :: r) M = zz_ev tX2_enqueue 56 L r (zz_sI M 8 11 x)) ∧
  (∀ (L : zzLc) (x : Int32) (r : List Value) (M : zzMd), zz_ev tX2_enqueue 53 L (.int x :: .ref 9 :: r) M = zz_ev tX2_enqueue 56 L r (zz_sI M 9 11 x)) ∧
  (∀ (L : zzLc) (x : Int32) (r : List Value) (M : zzMd), zz_ev tX2_enqueue 53 L (.int x :: .ref 10 :: r) M = zz_ev tX2_enqueue 56 L r (zz_sI M 10 11 x)) ∧
  (∀ L st M, zz_ev tX2_enqueue 56 L st M = zo_ret (zz_ev tX2_enqueue) L st M) :=
  ⟨zz_1 rfl tl_X2_enqueue, zz_1 rfl tl_X2_enqueue, zz_1 rfl tl_X2_enqueue, zz_1 rfl tl_X2_enqueue, zz_1 rfl tl_X2_enqueue, zz_1 rfl tl_X2_enqueue, fun L r M => (zz_1 rfl tl_X2_enqueue _ _ _).trans rfl, fun L r M => (zz_1 rfl tl_X2_enqueue _ _ _).trans rfl, fun L r M => (zz_1 rfl tl_X2_enqueue _ _ _).trans rfl, fun L r M => (zz_1 rfl tl_X2_enqueue _ _ _).trans rfl, fun L r M => (zz_1 rfl tl_X2_enqueue _ _ _).trans rfl, fun L r M => (zz_1 rfl tl_X2_enqueue _ _ _).trans rfl, fun L r M => (zz_1 rfl tl_X2_enqueue _ _ _).trans rfl, fun L r M => (zz_1 rfl tl_X2_enqueue _ _ _).trans rfl, zz_1 rfl tl_X2_enqueue, zz_1 rfl tl_X2_enqueue, zz_1 rfl tl_X2_enqueue, fun L r M => (zz_1 rfl tl_X2_enqueue _ _ _).trans rfl, fun L r M => (zz_1 rfl tl_X2_enqueue _ _ _).trans rfl, fun L r M => (zz_1 rfl tl_X2_enqueue _ _ _).trans rfl, fun L r M => (zz_1 rfl tl_X2_enqueue _ _ _).trans rfl, fun L r M => (zz_1 rfl tl_X2_enqueue _ _ _).trans rfl, fun L r M => (zz_1 rfl tl_X2_enqueue _ _ _).trans rfl, fun L r M => (zz_1 rfl tl_X2_enqueue _ _ _).trans rfl, fun L r M => (zz_1 rfl tl_X2_enqueue _ _ _).trans rfl, zz_1 rfl tl_X2_enqueue, zz_1 rfl tl_X2_enqueue, zz_1 rfl tl_X2_enqueue, zz_1 rfl tl_X2_enqueue, zz_1 rfl tl_X2_enqueue, fun L r M => (zz_1 rfl tl_X2_enqueue _ _ _).trans rfl, fun L r M => (zz_1 rfl tl_X2_enqueue _ _ _).trans rfl, fun L r M => (zz_1 rfl tl_X2_enqueue _ _ _).trans rfl, fun L r M => (zz_1 rfl tl_X2_enqueue _ _ _).trans rfl, fun L r M => (zz_1 rfl tl_X2_enqueue _ _ _).trans rfl, fun L r M => (zz_1 rfl tl_X2_enqueue _ _ _).trans rfl, fun L r M => (zz_1 rfl tl_X2_enqueue _ _ _).trans rfl, fun L r M => (zz_1 rfl tl_X2_enqueue _ _ _).trans rfl, zz_1 rfl tl_X2_enqueue, zz_1 rfl tl_X2_enqueue, zz_1 rfl tl_X2_enqueue, zz_1 rfl tl_X2_enqueue, fun L r M => (zz_1 rfl tl_X2_enqueue _ _ _).trans rfl, fun L r M => (zz_1 rfl tl_X2_enqueue _ _ _).trans rfl, fun L r M => (zz_1 rfl tl_X2_enqueue _ _ _).trans rfl, fun L r M => (zz_1 rfl tl_X2_enqueue _ _ _).trans rfl, fun L r M => (zz_1 rfl tl_X2_enqueue _ _ _).trans rfl, fun L r M => (zz_1 rfl tl_X2_enqueue _ _ _).trans rfl, fun L r M => (zz_1 rfl tl_X2_enqueue _ _ _).trans rfl, fun L r M => (zz_1 rfl tl_X2_enqueue _ _ _).trans rfl, zz_1 rfl tl_X2_enqueue, fun L r M => (zz_1 rfl tl_X2_enqueue _ _ _).trans rfl, fun L r M => (zz_1 rfl tl_X2_enqueue _ _ _).trans rfl, fun L r M => (zz_1 rfl tl_X2_enqueue _ _ _).trans rfl, fun L r M => (zz_1 rfl tl_X2_enqueue _ _ _).trans rfl, fun L r M => (zz_1 rfl tl_X2_enqueue _ _ _).trans rfl, fun L r M => (zz_1 rfl tl_X2_enqueue _ _ _).trans rfl, fun L r M => (zz_1 rfl tl_X2_enqueue _ _ _).trans rfl, fun L r M => (zz_1 rfl tl_X2_enqueue _ _ _).trans rfl, zz_1 rfl tl_X2_enqueue, zz_1 rfl tl_X2_enqueue, zz_1 rfl tl_X2_enqueue, zz_1 rfl tl_X2_enqueue, fun L r M => (zz_1 rfl tl_X2_enqueue _ _ _).trans rfl, fun L r M => (zz_1 rfl tl_X2_enqueue _ _ _).trans rfl, fun L r M => (zz_1 rfl tl_X2_enqueue _ _ _).trans rfl, fun L r M => (zz_1 rfl tl_X2_enqueue _ _ _).trans rfl, fun L r M => (zz_1 rfl tl_X2_enqueue _ _ _).trans rfl, fun L r M => (zz_1 rfl tl_X2_enqueue _ _ _).trans rfl, fun L r M => (zz_1 rfl tl_X2_enqueue _ _ _).trans rfl, fun L r M => (zz_1 rfl tl_X2_enqueue _ _ _).trans rfl, zz_1 rfl tl_X2_enqueue, zz_1 rfl tl_X2_enqueue, fun L x r M => (zz_1 rfl tl_X2_enqueue _ _ _).trans rfl, fun L x r M => (zz_1 rfl tl_X2_enqueue _ _ _).trans rfl, fun L x r M => (zz_1 rfl tl_X2_enqueue _ _ _).trans rfl, fun L x r M => (zz_1 rfl tl_X2_enqueue _ _ _).trans rfl, fun L x r M => (zz_1 rfl tl_X2_enqueue _ _ _).trans rfl, fun L x r M => (zz_1 rfl tl_X2_enqueue _ _ _).trans rfl, fun L x r M => (zz_1 rfl tl_X2_enqueue _ _ _).trans rfl, fun L x r M => (zz_1 rfl tl_X2_enqueue _ _ _).trans rfl, zz_1 rfl tl_X2_enqueue⟩
set_option maxRecDepth 100000 in
theorem s_X2_enqueue (a0 : Int32) (v : Nat) (M : zzMd) : fX2_enqueue [.ref v, .int a0] M = zz_ev tX2_enqueue 0 [some (.ref v), some (.int a0)] [] M := rfl
set_option maxRecDepth 100000 in
theorem e_X1_queueOthers : (∀ L st M, zz_ev tX1_queueOthers 0 L st M = zo_aload 0 1 (zz_ev tX1_queueOthers) L st M) ∧
  (∀ L st M, zz_ev tX1_queueOthers 1 L st M = zo_iload 2 2 (zz_ev tX1_queueOthers) L st M) ∧
  (∀ (L : zzLc) (a0 : Int32) (r : List Value) (M : zzMd), zz_ev tX1_queueOthers 2 L (.int a0 :: .ref 8 :: r) M = bif zz_cat8 r then zz_backN (zz_ev tX1_queueOthers) 5 L r (fX2_enqueue [.ref 8, .int a0] M) else none) ∧
  (∀ L st M, zz_ev tX1_queueOthers 5 L st M = zo_pushI 0 6 (zz_ev tX1_queueOthers) L st M) ∧
  (∀ L st M, zz_ev tX1_queueOthers 6 L st M = zo_istore 3 7 (zz_ev tX1_queueOthers) L st M) ∧
  (∀ L st M, zz_ev tX1_queueOthers 8 L st M = zo_aload 0 9 (zz_ev tX1_queueOthers) L st M) ∧
  (∀ (L : zzLc) (r : List Value) (M : zzMd), zz_ev tX1_queueOthers 9 L (.ref 8 :: r) M = zz_ev tX1_queueOthers 12 L (.int (M.1 8 2) :: r) M) ∧
  (∀ L st M, zz_ev tX1_queueOthers 12 L st M = zo_icmp (fun x y => decide (y ≤ x)) 37 15 (zz_ev tX1_queueOthers) L st M) ∧
  (∀ L st M, zz_ev tX1_queueOthers 15 L st M = zo_aload 0 16 (zz_ev tX1_queueOthers) L st M) ∧
  (∀ L st M, zz_ev tX1_queueOthers 16 L st M = zo_iload 3 17 (zz_ev tX1_queueOthers) L st M) ∧
  (∀ L st M, zz_ev tX1_queueOthers 17 L st M = zo_pushI 24 19 (zz_ev tX1_queueOthers) L st M) ∧
  (∀ (L : zzLc) (a0 a1 : Int32) (r : List Value) (M : zzMd), zz_ev tX1_queueOthers 19 L (.int a1 :: .int a0 :: .ref 8 :: r) M = bif zz_cat8 r then zz_backN (zz_ev tX1_queueOthers) 22 L r (fX10_read [.ref 8, .int a0, .int a1] M) else none) ∧
  (∀ L st M, zz_ev tX1_queueOthers 22 L st M = zo_iload 1 23 (zz_ev tX1_queueOthers) L st M) ∧
  (∀ L st M, zz_ev tX1_queueOthers 23 L st M = zo_icmp (fun x y => decide (¬ x = y)) 31 26 (zz_ev tX1_queueOthers) L st M) ∧
  (∀ L st M, zz_ev tX1_queueOthers 26 L st M = zo_aload 0 27 (zz_ev tX1_queueOthers) L st M) ∧
  (∀ L st M, zz_ev tX1_queueOthers 27 L st M = zo_iload 3 28 (zz_ev tX1_queueOthers) L st M) ∧
  (∀ (L : zzLc) (a0 : Int32) (r : List Value) (M : zzMd), zz_ev tX1_queueOthers 28 L (.int a0 :: .ref 8 :: r) M = bif zz_cat8 r then zz_backN (zz_ev tX1_queueOthers) 31 L r (fX2_enqueue [.ref 8, .int a0] M) else none) ∧
  (∀ L st M, zz_ev tX1_queueOthers 31 L st M = zo_iinc 3 1 34 (zz_ev tX1_queueOthers) L st M) ∧
  (∀ L st M, zz_ev tX1_queueOthers 34 L st M = zo_goto 7 (zz_ev tX1_queueOthers) L st M) ∧
  (∀ L st M, zz_ev tX1_queueOthers 37 L st M = zo_ret (zz_ev tX1_queueOthers) L st M) :=
  ⟨zz_1 rfl tl_X1_queueOthers, zz_1 rfl tl_X1_queueOthers, fun L a0 r M => (zz_1 rfl tl_X1_queueOthers _ _ _).trans rfl, zz_1 rfl tl_X1_queueOthers, zz_1 rfl tl_X1_queueOthers, zz_1 rfl tl_X1_queueOthers, fun L r M => (zz_1 rfl tl_X1_queueOthers _ _ _).trans rfl, zz_1 rfl tl_X1_queueOthers, zz_1 rfl tl_X1_queueOthers, zz_1 rfl tl_X1_queueOthers, zz_1 rfl tl_X1_queueOthers, fun L a0 a1 r M => (zz_1 rfl tl_X1_queueOthers _ _ _).trans rfl, zz_1 rfl tl_X1_queueOthers, zz_1 rfl tl_X1_queueOthers, zz_1 rfl tl_X1_queueOthers, zz_1 rfl tl_X1_queueOthers, fun L a0 r M => (zz_1 rfl tl_X1_queueOthers _ _ _).trans rfl, zz_1 rfl tl_X1_queueOthers, zz_1 rfl tl_X1_queueOthers, zz_1 rfl tl_X1_queueOthers⟩
set_option maxRecDepth 100000 in
theorem e_X1_queueOthers_7 : (∀ L st M, zz_ev tX1_queueOthers 7 L st M = zo_iload 3 8 (zz_ev tX1_queueOthers) L st M) := zz_1 rfl tl_X1_queueOthers
set_option maxRecDepth 100000 in
theorem s_X1_queueOthers (a0 a1 : Int32) (v : Nat) (M : zzMd) : fX1_queueOthers [.ref v, .int a0, .int a1] M = zz_ev tX1_queueOthers 0 [some (.ref v), some (.int a0), some (.int a1), none] [] M := rfl
set_option maxRecDepth 100000 in
theorem e_X2_isUpToDate : (∀ L st M, zz_ev tX2_isUpToDate 0 L st M = zo_aload 0 1 (zz_ev tX2_isUpToDate) L st M) ∧
  (∀ L st M, zz_ev tX2_isUpToDate 1 L st M = zo_iload 1 2 (zz_ev tX2_isUpToDate) L st M) ∧
  (∀ (L : zzLc) (a0 : Int32) (r : List Value) (M : zzMd), zz_ev tX2_isUpToDate 2 L (.int a0 :: .ref 8 :: r) M = bif zz_cat8 r then zz_backN (zz_ev tX2_isUpToDate) 5 L r (fX10_latestOf [.ref 8, .int a0] M) else none) ∧
  (∀ (L : zzLc) (a0 : Int32) (r : List Value) (M : zzMd), zz_ev tX2_isUpToDate 2 L (.int a0 :: .ref 3 :: r) M = bif zz_cat8 r then zz_backN (zz_ev tX2_isUpToDate) 5 L r (fX10_latestOf [.ref 3, .int a0] M) else none) ∧
  (∀ (L : zzLc) (a0 : Int32) (r : List Value) (M : zzMd), zz_ev tX2_isUpToDate 2 L (.int a0 :: .ref 4 :: r) M = bif zz_cat8 r then zz_backN (zz_ev tX2_isUpToDate) 5 L r (fX10_latestOf [.ref 4, .int a0] M) else none) ∧
  (∀ (L : zzLc) (a0 : Int32) (r : List Value) (M : zzMd), zz_ev tX2_isUpToDate 2 L (.int a0 :: .ref 5 :: r) M = bif zz_cat8 r then zz_backN (zz_ev tX2_isUpToDate) 5 L r (fX10_latestOf [.ref 5, .int a0] M) else none) ∧
  (∀ (L : zzLc) (a0 : Int32) (r : List Value) (M : zzMd), zz_ev tX2_isUpToDate 2 L (.int a0 :: .ref 9 :: r) M = bif zz_cat8 r then zz_backN (zz_ev tX2_isUpToDate) 5 L r (fX10_latestOf [.ref 9, .int a0] M) else none) ∧
  (∀ (L : zzLc) (a0 : Int32) (r : List Value) (M : zzMd), zz_ev tX2_isUpToDate 2 L (.int a0 :: .ref 7 :: r) M = bif zz_cat8 r then zz_backN (zz_ev tX2_isUpToDate) 5 L r (fX10_latestOf [.ref 7, .int a0] M) else none) ∧
  (∀ (L : zzLc) (a0 : Int32) (r : List Value) (M : zzMd), zz_ev tX2_isUpToDate 2 L (.int a0 :: .ref 10 :: r) M = bif zz_cat8 r then zz_backN (zz_ev tX2_isUpToDate) 5 L r (fX10_latestOf [.ref 10, .int a0] M) else none) ∧
  (∀ (L : zzLc) (a0 : Int32) (r : List Value) (M : zzMd), zz_ev tX2_isUpToDate 2 L (.int a0 :: .ref 6 :: r) M = bif zz_cat8 r then zz_backN (zz_ev tX2_isUpToDate) 5 L r (fX10_latestOf [.ref 6, .int a0] M) else none) ∧
  (∀ L st M, zz_ev tX2_isUpToDate 5 L st M = zo_aload 0 6 (zz_ev tX2_isUpToDate) L st M) ∧
  (∀ (L : zzLc) (r : List Value) (M : zzMd), zz_ev tX2_isUpToDate 6 L (.ref 3 :: r) M = zz_ev tX2_isUpToDate 9 L (.ref 1 :: r) M) ∧
  (∀ (L : zzLc) (r : List Value) (M : zzMd), zz_ev tX2_isUpToDate 6 L (.ref 4 :: r) M = zz_ev tX2_isUpToDate 9 L (.ref 1 :: r) M) ∧
  (∀ (L : zzLc) (r : List Value) (M : zzMd), zz_ev tX2_isUpToDate 6 L (.ref 5 :: r) M = zz_ev tX2_isUpToDate 9 L (.ref 1 :: r) M) ∧
  (∀ (L : zzLc) (r : List Value) (M : zzMd), zz_ev tX2_isUpToDate 6 L (.ref 6 :: r) M = zz_ev tX2_isUpToDate 9 L (.ref 1 :: r) M) ∧
  (∀ (L : zzLc) (r : List Value) (M : zzMd), zz_ev tX2_isUpToDate 6 L (.ref 7 :: r) M = zz_ev tX2_isUpToDate 9 L (.ref 1 :: r) M) ∧
  (∀ (L : zzLc) (r : List Value) (M : zzMd), zz_ev tX2_isUpToDate 6 L (.ref 8 :: r) M = zz_ev tX2_isUpToDate 9 L (.ref 1 :: r) M) ∧
  (∀ (L : zzLc) (r : List Value) (M : zzMd), zz_ev tX2_isUpToDate 6 L (.ref 9 :: r) M = zz_ev tX2_isUpToDate 9 L (.ref 1 :: r) M) ∧
  (∀ (L : zzLc) (r : List Value) (M : zzMd), zz_ev tX2_isUpToDate 6 L (.ref 10 :: r) M = zz_ev tX2_isUpToDate 9 L (.ref 1 :: r) M) ∧
  (∀ L st M, zz_ev tX2_isUpToDate 9 L st M = zo_iload 1 10 (zz_ev tX2_isUpToDate) L st M) ∧
  (∀ (L : zzLc) (a0 : Int32) (r : List Value) (M : zzMd), zz_ev tX2_isUpToDate 10 L (.int a0 :: .ref 1 :: r) M = bif zz_cat8 r then zz_backN (zz_ev tX2_isUpToDate) 13 L r (fX10_latestOf [.ref 1, .int a0] M) else none) ∧
  (∀ L st M, zz_ev tX2_isUpToDate 13 L st M = zo_icmp (fun x y => decide (¬ x = y)) 20 16 (zz_ev tX2_isUpToDate) L st M) ∧
  (∀ L st M, zz_ev tX2_isUpToDate 16 L st M = zo_pushI 1 17 (zz_ev tX2_isUpToDate) L st M) ∧
  (∀ L st M, zz_ev tX2_isUpToDate 17 L st M = zo_goto 21 (zz_ev tX2_isUpToDate) L st M) ∧
  (∀ L st M, zz_ev tX2_isUpToDate 20 L st M = zo_pushI 0 21 (zz_ev tX2_isUpToDate) L st M) ∧
  (∀ L st M, zz_ev tX2_isUpToDate 21 L st M = zo_iret true (zz_ev tX2_isUpToDate) L st M) :=
  ⟨zz_1 rfl tl_X2_isUpToDate, zz_1 rfl tl_X2_isUpToDate, fun L a0 r M => (zz_1 rfl tl_X2_isUpToDate _ _ _).trans rfl, fun L a0 r M => (zz_1 rfl tl_X2_isUpToDate _ _ _).trans rfl, fun L a0 r M => (zz_1 rfl tl_X2_isUpToDate _ _ _).trans rfl, fun L a0 r M => (zz_1 rfl tl_X2_isUpToDate _ _ _).trans rfl, fun L a0 r M => (zz_1 rfl tl_X2_isUpToDate _ _ _).trans rfl, fun L a0 r M => (zz_1 rfl tl_X2_isUpToDate _ _ _).trans rfl, fun L a0 r M => (zz_1 rfl tl_X2_isUpToDate _ _ _).trans rfl, fun L a0 r M => (zz_1 rfl tl_X2_isUpToDate _ _ _).trans rfl, zz_1 rfl tl_X2_isUpToDate, fun L r M => (zz_1 rfl tl_X2_isUpToDate _ _ _).trans rfl, fun L r M => (zz_1 rfl tl_X2_isUpToDate _ _ _).trans rfl, fun L r M => (zz_1 rfl tl_X2_isUpToDate _ _ _).trans rfl, fun L r M => (zz_1 rfl tl_X2_isUpToDate _ _ _).trans rfl, fun L r M => (zz_1 rfl tl_X2_isUpToDate _ _ _).trans rfl, fun L r M => (zz_1 rfl tl_X2_isUpToDate _ _ _).trans rfl, fun L r M => (zz_1 rfl tl_X2_isUpToDate _ _ _).trans rfl, fun L r M => (zz_1 rfl tl_X2_isUpToDate _ _ _).trans rfl, zz_1 rfl tl_X2_isUpToDate, fun L a0 r M => (zz_1 rfl tl_X2_isUpToDate _ _ _).trans rfl, zz_1 rfl tl_X2_isUpToDate, zz_1 rfl tl_X2_isUpToDate, zz_1 rfl tl_X2_isUpToDate, zz_1 rfl tl_X2_isUpToDate, zz_1 rfl tl_X2_isUpToDate⟩
set_option maxRecDepth 100000 in
theorem s_X2_isUpToDate (a0 : Int32) (v : Nat) (M : zzMd) : fX2_isUpToDate [.ref v, .int a0] M = zz_ev tX2_isUpToDate 0 [some (.ref v), some (.int a0)] [] M := rfl
set_option maxRecDepth 100000 in
theorem e_X2_remove : (∀ L st M, zz_ev tX2_remove 0 L st M = zo_aload 0 1 (zz_ev tX2_remove) L st M) ∧
  (∀ L st M, zz_ev tX2_remove 1 L st M = zo_iload 1 2 (zz_ev tX2_remove) L st M) ∧
  (∀ (L : zzLc) (a0 : Int32) (r : List Value) (M : zzMd), zz_ev tX2_remove 2 L (.int a0 :: .ref 8 :: r) M = bif zz_cat8 r then zz_backN (zz_ev tX2_remove) 5 L r (fX2_isUpToDate [.ref 8, .int a0] M) else none) ∧
  (∀ (L : zzLc) (a0 : Int32) (r : List Value) (M : zzMd), zz_ev tX2_remove 2 L (.int a0 :: .ref 3 :: r) M = bif zz_cat8 r then zz_backN (zz_ev tX2_remove) 5 L r (fX2_isUpToDate [.ref 3, .int a0] M) else none) ∧
  (∀ (L : zzLc) (a0 : Int32) (r : List Value) (M : zzMd), zz_ev tX2_remove 2 L (.int a0 :: .ref 4 :: r) M = bif zz_cat8 r then zz_backN (zz_ev tX2_remove) 5 L r (fX2_isUpToDate [.ref 4, .int a0] M) else none) ∧
  (∀ (L : zzLc) (a0 : Int32) (r : List Value) (M : zzMd), zz_ev tX2_remove 2 L (.int a0 :: .ref 5 :: r) M = bif zz_cat8 r then zz_backN (zz_ev tX2_remove) 5 L r (fX2_isUpToDate [.ref 5, .int a0] M) else none) ∧
  (∀ (L : zzLc) (a0 : Int32) (r : List Value) (M : zzMd), zz_ev tX2_remove 2 L (.int a0 :: .ref 9 :: r) M = bif zz_cat8 r then zz_backN (zz_ev tX2_remove) 5 L r (fX2_isUpToDate [.ref 9, .int a0] M) else none) ∧
  (∀ (L : zzLc) (a0 : Int32) (r : List Value) (M : zzMd), zz_ev tX2_remove 2 L (.int a0 :: .ref 7 :: r) M = bif zz_cat8 r then zz_backN (zz_ev tX2_remove) 5 L r (fX2_isUpToDate [.ref 7, .int a0] M) else none) ∧
  (∀ (L : zzLc) (a0 : Int32) (r : List Value) (M : zzMd), zz_ev tX2_remove 2 L (.int a0 :: .ref 10 :: r) M = bif zz_cat8 r then zz_backN (zz_ev tX2_remove) 5 L r (fX2_isUpToDate [.ref 10, .int a0] M) else none) ∧
  (∀ (L : zzLc) (a0 : Int32) (r : List Value) (M : zzMd), zz_ev tX2_remove 2 L (.int a0 :: .ref 6 :: r) M = bif zz_cat8 r then zz_backN (zz_ev tX2_remove) 5 L r (fX2_isUpToDate [.ref 6, .int a0] M) else none) ∧
  (∀ L st M, zz_ev tX2_remove 5 L st M = zo_if (fun x => decide (x = 0)) 24 8 (zz_ev tX2_remove) L st M) ∧
  (∀ L st M, zz_ev tX2_remove 8 L st M = zo_aload 0 9 (zz_ev tX2_remove) L st M) ∧
  (∀ (L : zzLc) (r : List Value) (M : zzMd), zz_ev tX2_remove 9 L (.ref 3 :: r) M = zz_ev tX2_remove 12 L (.ref 1 :: r) M) ∧
  (∀ (L : zzLc) (r : List Value) (M : zzMd), zz_ev tX2_remove 9 L (.ref 4 :: r) M = zz_ev tX2_remove 12 L (.ref 1 :: r) M) ∧
  (∀ (L : zzLc) (r : List Value) (M : zzMd), zz_ev tX2_remove 9 L (.ref 5 :: r) M = zz_ev tX2_remove 12 L (.ref 1 :: r) M) ∧
  (∀ (L : zzLc) (r : List Value) (M : zzMd), zz_ev tX2_remove 9 L (.ref 6 :: r) M = zz_ev tX2_remove 12 L (.ref 1 :: r) M) ∧
  (∀ (L : zzLc) (r : List Value) (M : zzMd), zz_ev tX2_remove 9 L (.ref 7 :: r) M = zz_ev tX2_remove 12 L (.ref 1 :: r) M) ∧
  (∀ (L : zzLc) (r : List Value) (M : zzMd), zz_ev tX2_remove 9 L (.ref 8 :: r) M = zz_ev tX2_remove 12 L (.ref 1 :: r) M) ∧
  (∀ (L : zzLc) (r : List Value) (M : zzMd), zz_ev tX2_remove 9 L (.ref 9 :: r) M = zz_ev tX2_remove 12 L (.ref 1 :: r) M) ∧
  (∀ (L : zzLc) (r : List Value) (M : zzMd), zz_ev tX2_remove 9 L (.ref 10 :: r) M = zz_ev tX2_remove 12 L (.ref 1 :: r) M) ∧
  (∀ L st M, zz_ev tX2_remove 12 L st M = zo_iload 1 13 (zz_ev tX2_remove) L st M) ∧
  (∀ L st M, zz_ev tX2_remove 13 L st M = zo_pushI 2 14 (zz_ev tX2_remove) L st M) ∧
  (∀ (L : zzLc) (a0 a1 : Int32) (r : List Value) (M : zzMd), zz_ev tX2_remove 14 L (.int a1 :: .int a0 :: .ref 1 :: r) M = bif zz_cat8 r then zz_backN (zz_ev tX2_remove) 17 L r (fX9_startGoing [.ref 1, .int a0, .int a1] M) else none) ∧
  (∀ L st M, zz_ev tX2_remove 17 L st M = zo_if (fun x => decide (x = 0)) 24 20 (zz_ev tX2_remove) L st M) ∧
  (∀ L st M, zz_ev tX2_remove 20 L st M = zo_pushI 1 21 (zz_ev tX2_remove) L st M) ∧
  (∀ L st M, zz_ev tX2_remove 21 L st M = zo_goto 25 (zz_ev tX2_remove) L st M) ∧
  (∀ L st M, zz_ev tX2_remove 24 L st M = zo_pushI 0 25 (zz_ev tX2_remove) L st M) ∧
  (∀ L st M, zz_ev tX2_remove 25 L st M = zo_iret true (zz_ev tX2_remove) L st M) :=
  ⟨zz_1 rfl tl_X2_remove, zz_1 rfl tl_X2_remove, fun L a0 r M => (zz_1 rfl tl_X2_remove _ _ _).trans rfl, fun L a0 r M => (zz_1 rfl tl_X2_remove _ _ _).trans rfl, fun L a0 r M => (zz_1 rfl tl_X2_remove _ _ _).trans rfl, fun L a0 r M => (zz_1 rfl tl_X2_remove _ _ _).trans rfl, fun L a0 r M => (zz_1 rfl tl_X2_remove _ _ _).trans rfl, fun L a0 r M => (zz_1 rfl tl_X2_remove _ _ _).trans rfl, fun L a0 r M => (zz_1 rfl tl_X2_remove _ _ _).trans rfl, fun L a0 r M => (zz_1 rfl tl_X2_remove _ _ _).trans rfl, zz_1 rfl tl_X2_remove, zz_1 rfl tl_X2_remove, fun L r M => (zz_1 rfl tl_X2_remove _ _ _).trans rfl, fun L r M => (zz_1 rfl tl_X2_remove _ _ _).trans rfl, fun L r M => (zz_1 rfl tl_X2_remove _ _ _).trans rfl, fun L r M => (zz_1 rfl tl_X2_remove _ _ _).trans rfl, fun L r M => (zz_1 rfl tl_X2_remove _ _ _).trans rfl, fun L r M => (zz_1 rfl tl_X2_remove _ _ _).trans rfl, fun L r M => (zz_1 rfl tl_X2_remove _ _ _).trans rfl, fun L r M => (zz_1 rfl tl_X2_remove _ _ _).trans rfl, zz_1 rfl tl_X2_remove, zz_1 rfl tl_X2_remove, fun L a0 a1 r M => (zz_1 rfl tl_X2_remove _ _ _).trans rfl, zz_1 rfl tl_X2_remove, zz_1 rfl tl_X2_remove, zz_1 rfl tl_X2_remove, zz_1 rfl tl_X2_remove, zz_1 rfl tl_X2_remove⟩
set_option maxRecDepth 100000 in
theorem s_X2_remove (a0 : Int32) (v : Nat) (M : zzMd) : fX2_remove [.ref v, .int a0] M = zz_ev tX2_remove 0 [some (.ref v), some (.int a0)] [] M := rfl
set_option maxRecDepth 100000 in
theorem e_X2_outcomeOf : (∀ L st M, zz_ev tX2_outcomeOf 0 L st M = zo_iload 0 1 (zz_ev tX2_outcomeOf) L st M) ∧
  (∀ L st M, zz_ev tX2_outcomeOf 1 L st M = zo_if (fun x => decide (x = 0)) 8 4 (zz_ev tX2_outcomeOf) L st M) ∧
  (∀ L st M, zz_ev tX2_outcomeOf 4 L st M = zo_pushI 1 5 (zz_ev tX2_outcomeOf) L st M) ∧
  (∀ L st M, zz_ev tX2_outcomeOf 5 L st M = zo_goto 9 (zz_ev tX2_outcomeOf) L st M) ∧
  (∀ L st M, zz_ev tX2_outcomeOf 8 L st M = zo_pushI 3 9 (zz_ev tX2_outcomeOf) L st M) ∧
  (∀ L st M, zz_ev tX2_outcomeOf 9 L st M = zo_iret false (zz_ev tX2_outcomeOf) L st M) :=
  ⟨zz_1 rfl tl_X2_outcomeOf, zz_1 rfl tl_X2_outcomeOf, zz_1 rfl tl_X2_outcomeOf, zz_1 rfl tl_X2_outcomeOf, zz_1 rfl tl_X2_outcomeOf, zz_1 rfl tl_X2_outcomeOf⟩
set_option maxRecDepth 100000 in
theorem s_X2_outcomeOf (a0 : Int32) (M : zzMd) : fX2_outcomeOf [.int a0] M = zz_ev tX2_outcomeOf 0 [some (.int a0)] [] M := rfl
set_option maxRecDepth 100000 in
theorem e_X1_ownsSome : (∀ L st M, zz_ev tX1_ownsSome 0 L st M = zo_pushI 0 1 (zz_ev tX1_ownsSome) L st M) ∧
  (∀ L st M, zz_ev tX1_ownsSome 1 L st M = zo_istore 2 2 (zz_ev tX1_ownsSome) L st M) ∧
  (∀ L st M, zz_ev tX1_ownsSome 3 L st M = zo_aload 0 4 (zz_ev tX1_ownsSome) L st M) ∧
  (∀ (L : zzLc) (r : List Value) (M : zzMd), zz_ev tX1_ownsSome 4 L (.ref 8 :: r) M = zz_ev tX1_ownsSome 7 L (.int (M.1 8 2) :: r) M) ∧
  (∀ L st M, zz_ev tX1_ownsSome 7 L st M = zo_icmp (fun x y => decide (y ≤ x)) 29 10 (zz_ev tX1_ownsSome) L st M) ∧
  (∀ L st M, zz_ev tX1_ownsSome 10 L st M = zo_aload 0 11 (zz_ev tX1_ownsSome) L st M) ∧
  (∀ L st M, zz_ev tX1_ownsSome 11 L st M = zo_iload 2 12 (zz_ev tX1_ownsSome) L st M) ∧
  (∀ L st M, zz_ev tX1_ownsSome 12 L st M = zo_pushI 24 14 (zz_ev tX1_ownsSome) L st M) ∧
  (∀ (L : zzLc) (a0 a1 : Int32) (r : List Value) (M : zzMd), zz_ev tX1_ownsSome 14 L (.int a1 :: .int a0 :: .ref 8 :: r) M = bif zz_cat8 r then zz_backN (zz_ev tX1_ownsSome) 17 L r (fX10_read [.ref 8, .int a0, .int a1] M) else none) ∧
  (∀ L st M, zz_ev tX1_ownsSome 17 L st M = zo_iload 1 18 (zz_ev tX1_ownsSome) L st M) ∧
  (∀ L st M, zz_ev tX1_ownsSome 18 L st M = zo_icmp (fun x y => decide (¬ x = y)) 23 21 (zz_ev tX1_ownsSome) L st M) ∧
  (∀ L st M, zz_ev tX1_ownsSome 21 L st M = zo_pushI 1 22 (zz_ev tX1_ownsSome) L st M) ∧
  (∀ L st M, zz_ev tX1_ownsSome 22 L st M = zo_iret true (zz_ev tX1_ownsSome) L st M) ∧
  (∀ L st M, zz_ev tX1_ownsSome 23 L st M = zo_iinc 2 1 26 (zz_ev tX1_ownsSome) L st M) ∧
  (∀ L st M, zz_ev tX1_ownsSome 26 L st M = zo_goto 2 (zz_ev tX1_ownsSome) L st M) ∧
  (∀ L st M, zz_ev tX1_ownsSome 29 L st M = zo_pushI 0 30 (zz_ev tX1_ownsSome) L st M) ∧
  (∀ L st M, zz_ev tX1_ownsSome 30 L st M = zo_iret true (zz_ev tX1_ownsSome) L st M) :=
  ⟨zz_1 rfl tl_X1_ownsSome, zz_1 rfl tl_X1_ownsSome, zz_1 rfl tl_X1_ownsSome, fun L r M => (zz_1 rfl tl_X1_ownsSome _ _ _).trans rfl, zz_1 rfl tl_X1_ownsSome, zz_1 rfl tl_X1_ownsSome, zz_1 rfl tl_X1_ownsSome, zz_1 rfl tl_X1_ownsSome, fun L a0 a1 r M => (zz_1 rfl tl_X1_ownsSome _ _ _).trans rfl, zz_1 rfl tl_X1_ownsSome, zz_1 rfl tl_X1_ownsSome, zz_1 rfl tl_X1_ownsSome, zz_1 rfl tl_X1_ownsSome, zz_1 rfl tl_X1_ownsSome, zz_1 rfl tl_X1_ownsSome, zz_1 rfl tl_X1_ownsSome, zz_1 rfl tl_X1_ownsSome⟩
set_option maxRecDepth 100000 in
theorem e_X1_ownsSome_2 : (∀ L st M, zz_ev tX1_ownsSome 2 L st M = zo_iload 2 3 (zz_ev tX1_ownsSome) L st M) := zz_1 rfl tl_X1_ownsSome
set_option maxRecDepth 100000 in
theorem s_X1_ownsSome (a0 : Int32) (v : Nat) (M : zzMd) : fX1_ownsSome [.ref v, .int a0] M = zz_ev tX1_ownsSome 0 [some (.ref v), some (.int a0), none] [] M := rfl
set_option maxRecDepth 100000 in
theorem e_X2_set : (∀ L st M, zz_ev tX2_set 0 L st M = zo_aload 0 1 (zz_ev tX2_set) L st M) ∧
  (∀ L st M, zz_ev tX2_set 1 L st M = zo_iload 1 2 (zz_ev tX2_set) L st M) ∧
  (∀ (L : zzLc) (a0 : Int32) (r : List Value) (M : zzMd), zz_ev tX2_set 2 L (.int a0 :: .ref 8 :: r) M = bif zz_cat8 r then zz_backN (zz_ev tX2_set) 5 L r (fX2_isUpToDate [.ref 8, .int a0] M) else none) ∧
  (∀ (L : zzLc) (a0 : Int32) (r : List Value) (M : zzMd), zz_ev tX2_set 2 L (.int a0 :: .ref 3 :: r) M = bif zz_cat8 r then zz_backN (zz_ev tX2_set) 5 L r (fX2_isUpToDate [.ref 3, .int a0] M) else none) ∧
  (∀ (L : zzLc) (a0 : Int32) (r : List Value) (M : zzMd), zz_ev tX2_set 2 L (.int a0 :: .ref 4 :: r) M = bif zz_cat8 r then zz_backN (zz_ev tX2_set) 5 L r (fX2_isUpToDate [.ref 4, .int a0] M) else none) ∧
  (∀ (L : zzLc) (a0 : Int32) (r : List Value) (M : zzMd), zz_ev tX2_set 2 L (.int a0 :: .ref 5 :: r) M = bif zz_cat8 r then zz_backN (zz_ev tX2_set) 5 L r (fX2_isUpToDate [.ref 5, .int a0] M) else none) ∧
  (∀ (L : zzLc) (a0 : Int32) (r : List Value) (M : zzMd), zz_ev tX2_set 2 L (.int a0 :: .ref 9 :: r) M = bif zz_cat8 r then zz_backN (zz_ev tX2_set) 5 L r (fX2_isUpToDate [.ref 9, .int a0] M) else none) ∧
  (∀ (L : zzLc) (a0 : Int32) (r : List Value) (M : zzMd), zz_ev tX2_set 2 L (.int a0 :: .ref 7 :: r) M = bif zz_cat8 r then zz_backN (zz_ev tX2_set) 5 L r (fX2_isUpToDate [.ref 7, .int a0] M) else none) ∧
  (∀ (L : zzLc) (a0 : Int32) (r : List Value) (M : zzMd), zz_ev tX2_set 2 L (.int a0 :: .ref 10 :: r) M = bif zz_cat8 r then zz_backN (zz_ev tX2_set) 5 L r (fX2_isUpToDate [.ref 10, .int a0] M) else none) ∧
  (∀ (L : zzLc) (a0 : Int32) (r : List Value) (M : zzMd), zz_ev tX2_set 2 L (.int a0 :: .ref 6 :: r) M = bif zz_cat8 r then zz_backN (zz_ev tX2_set) 5 L r (fX2_isUpToDate [.ref 6, .int a0] M) else none) ∧
  (∀ L st M, zz_ev tX2_set 5 L st M = zo_if (fun x => decide (x = 0)) 25 8 (zz_ev tX2_set) L st M) ∧
  (∀ L st M, zz_ev tX2_set 8 L st M = zo_aload 0 9 (zz_ev tX2_set) L st M) ∧
  (∀ (L : zzLc) (r : List Value) (M : zzMd), zz_ev tX2_set 9 L (.ref 3 :: r) M = zz_ev tX2_set 12 L (.ref 1 :: r) M) ∧
  (∀ (L : zzLc) (r : List Value) (M : zzMd), zz_ev tX2_set 9 L (.ref 4 :: r) M = zz_ev tX2_set 12 L (.ref 1 :: r) M) ∧
  (∀ (L : zzLc) (r : List Value) (M : zzMd), zz_ev tX2_set 9 L (.ref 5 :: r) M = zz_ev tX2_set 12 L (.ref 1 :: r) M) ∧
  (∀ (L : zzLc) (r : List Value) (M : zzMd), zz_ev tX2_set 9 L (.ref 6 :: r) M = zz_ev tX2_set 12 L (.ref 1 :: r) M) ∧
  (∀ (L : zzLc) (r : List Value) (M : zzMd), zz_ev tX2_set 9 L (.ref 7 :: r) M = zz_ev tX2_set 12 L (.ref 1 :: r) M) ∧
  (∀ (L : zzLc) (r : List Value) (M : zzMd), zz_ev tX2_set 9 L (.ref 8 :: r) M = zz_ev tX2_set 12 L (.ref 1 :: r) M) ∧
  (∀ (L : zzLc) (r : List Value) (M : zzMd), zz_ev tX2_set 9 L (.ref 9 :: r) M = zz_ev tX2_set 12 L (.ref 1 :: r) M) ∧
  (∀ (L : zzLc) (r : List Value) (M : zzMd), zz_ev tX2_set 9 L (.ref 10 :: r) M = zz_ev tX2_set 12 L (.ref 1 :: r) M) ∧
  (∀ L st M, zz_ev tX2_set 12 L st M = zo_iload 1 13 (zz_ev tX2_set) L st M) ∧
  (∀ L st M, zz_ev tX2_set 13 L st M = zo_iload 2 14 (zz_ev tX2_set) L st M) ∧
  (∀ L st M, zz_ev tX2_set 14 L st M = zo_iload 3 15 (zz_ev tX2_set) L st M) ∧
  (∀ (L : zzLc) (a0 a1 a2 : Int32) (r : List Value) (M : zzMd), zz_ev tX2_set 15 L (.int a2 :: .int a1 :: .int a0 :: .ref 1 :: r) M = bif zz_cat8 r then zz_backN (zz_ev tX2_set) 18 L r (fX9_change [.ref 1, .int a0, .int a1, .int a2] M) else none) ∧
  (∀ L st M, zz_ev tX2_set 18 L st M = zo_if (fun x => decide (x = 0)) 25 21 (zz_ev tX2_set) L st M) ∧
  (∀ L st M, zz_ev tX2_set 21 L st M = zo_pushI 1 22 (zz_ev tX2_set) L st M) ∧
  (∀ L st M, zz_ev tX2_set 22 L st M = zo_goto 26 (zz_ev tX2_set) L st M) ∧
  (∀ L st M, zz_ev tX2_set 25 L st M = zo_pushI 0 26 (zz_ev tX2_set) L st M) ∧
  (∀ L st M, zz_ev tX2_set 26 L st M = zo_iret true (zz_ev tX2_set) L st M) :=
  ⟨zz_1 rfl tl_X2_set, zz_1 rfl tl_X2_set, fun L a0 r M => (zz_1 rfl tl_X2_set _ _ _).trans rfl, fun L a0 r M => (zz_1 rfl tl_X2_set _ _ _).trans rfl, fun L a0 r M => (zz_1 rfl tl_X2_set _ _ _).trans rfl, fun L a0 r M => (zz_1 rfl tl_X2_set _ _ _).trans rfl, fun L a0 r M => (zz_1 rfl tl_X2_set _ _ _).trans rfl, fun L a0 r M => (zz_1 rfl tl_X2_set _ _ _).trans rfl, fun L a0 r M => (zz_1 rfl tl_X2_set _ _ _).trans rfl, fun L a0 r M => (zz_1 rfl tl_X2_set _ _ _).trans rfl, zz_1 rfl tl_X2_set, zz_1 rfl tl_X2_set, fun L r M => (zz_1 rfl tl_X2_set _ _ _).trans rfl, fun L r M => (zz_1 rfl tl_X2_set _ _ _).trans rfl, fun L r M => (zz_1 rfl tl_X2_set _ _ _).trans rfl, fun L r M => (zz_1 rfl tl_X2_set _ _ _).trans rfl, fun L r M => (zz_1 rfl tl_X2_set _ _ _).trans rfl, fun L r M => (zz_1 rfl tl_X2_set _ _ _).trans rfl, fun L r M => (zz_1 rfl tl_X2_set _ _ _).trans rfl, fun L r M => (zz_1 rfl tl_X2_set _ _ _).trans rfl, zz_1 rfl tl_X2_set, zz_1 rfl tl_X2_set, zz_1 rfl tl_X2_set, fun L a0 a1 a2 r M => (zz_1 rfl tl_X2_set _ _ _).trans rfl, zz_1 rfl tl_X2_set, zz_1 rfl tl_X2_set, zz_1 rfl tl_X2_set, zz_1 rfl tl_X2_set, zz_1 rfl tl_X2_set⟩
set_option maxRecDepth 100000 in
theorem s_X2_set (a0 a1 a2 : Int32) (v : Nat) (M : zzMd) : fX2_set [.ref v, .int a0, .int a1, .int a2] M = zz_ev tX2_set 0 [some (.ref v), some (.int a0), some (.int a1), some (.int a2)] [] M := rfl
set_option maxRecDepth 100000 in
theorem e_X1_deleteOwned : (∀ L st M, zz_ev tX1_deleteOwned 0 L st M = zo_pushI 0 1 (zz_ev tX1_deleteOwned) L st M) ∧
  (∀ L st M, zz_ev tX1_deleteOwned 1 L st M = zo_istore 2 2 (zz_ev tX1_deleteOwned) L st M) ∧
  (∀ L st M, zz_ev tX1_deleteOwned 3 L st M = zo_aload 0 4 (zz_ev tX1_deleteOwned) L st M) ∧
  (∀ (L : zzLc) (r : List Value) (M : zzMd), zz_ev tX1_deleteOwned 4 L (.ref 8 :: r) M = zz_ev tX1_deleteOwned 7 L (.int (M.1 8 2) :: r) M) ∧
  (∀ L st M, zz_ev tX1_deleteOwned 7 L st M = zo_icmp (fun x y => decide (y ≤ x)) 60 10 (zz_ev tX1_deleteOwned) L st M) ∧
  (∀ L st M, zz_ev tX1_deleteOwned 10 L st M = zo_aload 0 11 (zz_ev tX1_deleteOwned) L st M) ∧
  (∀ L st M, zz_ev tX1_deleteOwned 11 L st M = zo_iload 2 12 (zz_ev tX1_deleteOwned) L st M) ∧
  (∀ L st M, zz_ev tX1_deleteOwned 12 L st M = zo_pushI 24 14 (zz_ev tX1_deleteOwned) L st M) ∧
  (∀ (L : zzLc) (a0 a1 : Int32) (r : List Value) (M : zzMd), zz_ev tX1_deleteOwned 14 L (.int a1 :: .int a0 :: .ref 8 :: r) M = bif zz_cat8 r then zz_backN (zz_ev tX1_deleteOwned) 17 L r (fX10_read [.ref 8, .int a0, .int a1] M) else none) ∧
  (∀ L st M, zz_ev tX1_deleteOwned 17 L st M = zo_iload 1 18 (zz_ev tX1_deleteOwned) L st M) ∧
  (∀ L st M, zz_ev tX1_deleteOwned 18 L st M = zo_icmp (fun x y => decide (¬ x = y)) 35 21 (zz_ev tX1_deleteOwned) L st M) ∧
  (∀ L st M, zz_ev tX1_deleteOwned 21 L st M = zo_aload 0 22 (zz_ev tX1_deleteOwned) L st M) ∧
  (∀ L st M, zz_ev tX1_deleteOwned 22 L st M = zo_iload 2 23 (zz_ev tX1_deleteOwned) L st M) ∧
  (∀ L st M, zz_ev tX1_deleteOwned 23 L st M = zo_pushI 25 25 (zz_ev tX1_deleteOwned) L st M) ∧
  (∀ (L : zzLc) (a0 a1 : Int32) (r : List Value) (M : zzMd), zz_ev tX1_deleteOwned 25 L (.int a1 :: .int a0 :: .ref 8 :: r) M = bif zz_cat8 r then zz_backN (zz_ev tX1_deleteOwned) 28 L r (fX10_read [.ref 8, .int a0, .int a1] M) else none) ∧
  (∀ L st M, zz_ev tX1_deleteOwned 28 L st M = zo_if (fun x => decide (¬ x = 0)) 35 31 (zz_ev tX1_deleteOwned) L st M) ∧
  (∀ L st M, zz_ev tX1_deleteOwned 31 L st M = zo_pushI 1 32 (zz_ev tX1_deleteOwned) L st M) ∧
  (∀ L st M, zz_ev tX1_deleteOwned 32 L st M = zo_goto 36 (zz_ev tX1_deleteOwned) L st M) ∧
  (∀ L st M, zz_ev tX1_deleteOwned 35 L st M = zo_pushI 0 36 (zz_ev tX1_deleteOwned) L st M) ∧
  (∀ L st M, zz_ev tX1_deleteOwned 36 L st M = zo_istore 3 37 (zz_ev tX1_deleteOwned) L st M) ∧
  (∀ L st M, zz_ev tX1_deleteOwned 37 L st M = zo_iload 3 38 (zz_ev tX1_deleteOwned) L st M) ∧
  (∀ L st M, zz_ev tX1_deleteOwned 38 L st M = zo_if (fun x => decide (x = 0)) 54 41 (zz_ev tX1_deleteOwned) L st M) ∧
  (∀ L st M, zz_ev tX1_deleteOwned 41 L st M = zo_aload 0 42 (zz_ev tX1_deleteOwned) L st M) ∧
  (∀ L st M, zz_ev tX1_deleteOwned 42 L st M = zo_iload 2 43 (zz_ev tX1_deleteOwned) L st M) ∧
  (∀ L st M, zz_ev tX1_deleteOwned 43 L st M = zo_pushI 25 45 (zz_ev tX1_deleteOwned) L st M) ∧
  (∀ L st M, zz_ev tX1_deleteOwned 45 L st M = zo_pushI 1 46 (zz_ev tX1_deleteOwned) L st M) ∧
  (∀ (L : zzLc) (a0 a1 a2 : Int32) (r : List Value) (M : zzMd), zz_ev tX1_deleteOwned 46 L (.int a2 :: .int a1 :: .int a0 :: .ref 8 :: r) M = bif zz_cat8 r then zz_backN (zz_ev tX1_deleteOwned) 49 L r (fX2_set [.ref 8, .int a0, .int a1, .int a2] M) else none) ∧
  (∀ L st M, zz_ev tX1_deleteOwned 49 L st M = zo_if (fun x => decide (¬ x = 0)) 54 52 (zz_ev tX1_deleteOwned) L st M) ∧
  (∀ L st M, zz_ev tX1_deleteOwned 52 L st M = zo_pushI 0 53 (zz_ev tX1_deleteOwned) L st M) ∧
  (∀ L st M, zz_ev tX1_deleteOwned 53 L st M = zo_iret true (zz_ev tX1_deleteOwned) L st M) ∧
  (∀ L st M, zz_ev tX1_deleteOwned 54 L st M = zo_iinc 2 1 57 (zz_ev tX1_deleteOwned) L st M) ∧
  (∀ L st M, zz_ev tX1_deleteOwned 57 L st M = zo_goto 2 (zz_ev tX1_deleteOwned) L st M) ∧
  (∀ L st M, zz_ev tX1_deleteOwned 60 L st M = zo_pushI 1 61 (zz_ev tX1_deleteOwned) L st M) ∧
  (∀ L st M, zz_ev tX1_deleteOwned 61 L st M = zo_iret true (zz_ev tX1_deleteOwned) L st M) :=
  ⟨zz_1 rfl tl_X1_deleteOwned, zz_1 rfl tl_X1_deleteOwned, zz_1 rfl tl_X1_deleteOwned, fun L r M => (zz_1 rfl tl_X1_deleteOwned _ _ _).trans rfl, zz_1 rfl tl_X1_deleteOwned, zz_1 rfl tl_X1_deleteOwned, zz_1 rfl tl_X1_deleteOwned, zz_1 rfl tl_X1_deleteOwned, fun L a0 a1 r M => (zz_1 rfl tl_X1_deleteOwned _ _ _).trans rfl, zz_1 rfl tl_X1_deleteOwned, zz_1 rfl tl_X1_deleteOwned, zz_1 rfl tl_X1_deleteOwned, zz_1 rfl tl_X1_deleteOwned, zz_1 rfl tl_X1_deleteOwned, fun L a0 a1 r M => (zz_1 rfl tl_X1_deleteOwned _ _ _).trans rfl, zz_1 rfl tl_X1_deleteOwned, zz_1 rfl tl_X1_deleteOwned, zz_1 rfl tl_X1_deleteOwned, zz_1 rfl tl_X1_deleteOwned, zz_1 rfl tl_X1_deleteOwned, zz_1 rfl tl_X1_deleteOwned, zz_1 rfl tl_X1_deleteOwned, zz_1 rfl tl_X1_deleteOwned, zz_1 rfl tl_X1_deleteOwned, zz_1 rfl tl_X1_deleteOwned, zz_1 rfl tl_X1_deleteOwned, fun L a0 a1 a2 r M => (zz_1 rfl tl_X1_deleteOwned _ _ _).trans rfl, zz_1 rfl tl_X1_deleteOwned, zz_1 rfl tl_X1_deleteOwned, zz_1 rfl tl_X1_deleteOwned, zz_1 rfl tl_X1_deleteOwned, zz_1 rfl tl_X1_deleteOwned, zz_1 rfl tl_X1_deleteOwned, zz_1 rfl tl_X1_deleteOwned⟩
set_option maxRecDepth 100000 in
theorem e_X1_deleteOwned_2 : (∀ L st M, zz_ev tX1_deleteOwned 2 L st M = zo_iload 2 3 (zz_ev tX1_deleteOwned) L st M) := zz_1 rfl tl_X1_deleteOwned
set_option maxRecDepth 100000 in
theorem s_X1_deleteOwned (a0 : Int32) (v : Nat) (M : zzMd) : fX1_deleteOwned [.ref v, .int a0] M = zz_ev tX1_deleteOwned 0 [some (.ref v), some (.int a0), none, none] [] M := rfl
set_option maxRecDepth 100000 in
theorem e_X1_disownAll : (∀ L st M, zz_ev tX1_disownAll 0 L st M = zo_pushI 0 1 (zz_ev tX1_disownAll) L st M) ∧
  (∀ L st M, zz_ev tX1_disownAll 1 L st M = zo_istore 2 2 (zz_ev tX1_disownAll) L st M) ∧
  (∀ L st M, zz_ev tX1_disownAll 3 L st M = zo_aload 0 4 (zz_ev tX1_disownAll) L st M) ∧
  (∀ (L : zzLc) (r : List Value) (M : zzMd), zz_ev tX1_disownAll 4 L (.ref 8 :: r) M = zz_ev tX1_disownAll 7 L (.int (M.1 8 2) :: r) M) ∧
  (∀ L st M, zz_ev tX1_disownAll 7 L st M = zo_icmp (fun x y => decide (y ≤ x)) 40 10 (zz_ev tX1_disownAll) L st M) ∧
  (∀ L st M, zz_ev tX1_disownAll 10 L st M = zo_aload 0 11 (zz_ev tX1_disownAll) L st M) ∧
  (∀ L st M, zz_ev tX1_disownAll 11 L st M = zo_iload 2 12 (zz_ev tX1_disownAll) L st M) ∧
  (∀ L st M, zz_ev tX1_disownAll 12 L st M = zo_pushI 24 14 (zz_ev tX1_disownAll) L st M) ∧
  (∀ (L : zzLc) (a0 a1 : Int32) (r : List Value) (M : zzMd), zz_ev tX1_disownAll 14 L (.int a1 :: .int a0 :: .ref 8 :: r) M = bif zz_cat8 r then zz_backN (zz_ev tX1_disownAll) 17 L r (fX10_read [.ref 8, .int a0, .int a1] M) else none) ∧
  (∀ L st M, zz_ev tX1_disownAll 17 L st M = zo_iload 1 18 (zz_ev tX1_disownAll) L st M) ∧
  (∀ L st M, zz_ev tX1_disownAll 18 L st M = zo_icmp (fun x y => decide (¬ x = y)) 34 21 (zz_ev tX1_disownAll) L st M) ∧
  (∀ L st M, zz_ev tX1_disownAll 21 L st M = zo_aload 0 22 (zz_ev tX1_disownAll) L st M) ∧
  (∀ L st M, zz_ev tX1_disownAll 22 L st M = zo_iload 2 23 (zz_ev tX1_disownAll) L st M) ∧
  (∀ L st M, zz_ev tX1_disownAll 23 L st M = zo_pushI 24 25 (zz_ev tX1_disownAll) L st M) ∧
  (∀ L st M, zz_ev tX1_disownAll 25 L st M = zo_pushI (-1) 26 (zz_ev tX1_disownAll) L st M) ∧
  (∀ (L : zzLc) (a0 a1 a2 : Int32) (r : List Value) (M : zzMd), zz_ev tX1_disownAll 26 L (.int a2 :: .int a1 :: .int a0 :: .ref 8 :: r) M = bif zz_cat8 r then zz_backN (zz_ev tX1_disownAll) 29 L r (fX2_set [.ref 8, .int a0, .int a1, .int a2] M) else none) ∧
  (∀ L st M, zz_ev tX1_disownAll 29 L st M = zo_if (fun x => decide (¬ x = 0)) 34 32 (zz_ev tX1_disownAll) L st M) ∧
  (∀ L st M, zz_ev tX1_disownAll 32 L st M = zo_pushI 0 33 (zz_ev tX1_disownAll) L st M) ∧
  (∀ L st M, zz_ev tX1_disownAll 33 L st M = zo_iret true (zz_ev tX1_disownAll) L st M) ∧
  (∀ L st M, zz_ev tX1_disownAll 34 L st M = zo_iinc 2 1 37 (zz_ev tX1_disownAll) L st M) ∧
  (∀ L st M, zz_ev tX1_disownAll 37 L st M = zo_goto 2 (zz_ev tX1_disownAll) L st M) ∧
  (∀ L st M, zz_ev tX1_disownAll 40 L st M = zo_pushI 1 41 (zz_ev tX1_disownAll) L st M) ∧
  (∀ L st M, zz_ev tX1_disownAll 41 L st M = zo_iret true (zz_ev tX1_disownAll) L st M) :=
  ⟨zz_1 rfl tl_X1_disownAll, zz_1 rfl tl_X1_disownAll, zz_1 rfl tl_X1_disownAll, fun L r M => (zz_1 rfl tl_X1_disownAll _ _ _).trans rfl, zz_1 rfl tl_X1_disownAll, zz_1 rfl tl_X1_disownAll, zz_1 rfl tl_X1_disownAll, zz_1 rfl tl_X1_disownAll, fun L a0 a1 r M => (zz_1 rfl tl_X1_disownAll _ _ _).trans rfl, zz_1 rfl tl_X1_disownAll, zz_1 rfl tl_X1_disownAll, zz_1 rfl tl_X1_disownAll, zz_1 rfl tl_X1_disownAll, zz_1 rfl tl_X1_disownAll, zz_1 rfl tl_X1_disownAll, fun L a0 a1 a2 r M => (zz_1 rfl tl_X1_disownAll _ _ _).trans rfl, zz_1 rfl tl_X1_disownAll, zz_1 rfl tl_X1_disownAll, zz_1 rfl tl_X1_disownAll, zz_1 rfl tl_X1_disownAll, zz_1 rfl tl_X1_disownAll, zz_1 rfl tl_X1_disownAll, zz_1 rfl tl_X1_disownAll⟩
set_option maxRecDepth 100000 in
theorem e_X1_disownAll_2 : (∀ L st M, zz_ev tX1_disownAll 2 L st M = zo_iload 2 3 (zz_ev tX1_disownAll) L st M) := zz_1 rfl tl_X1_disownAll
set_option maxRecDepth 100000 in
theorem s_X1_disownAll (a0 : Int32) (v : Nat) (M : zzMd) : fX1_disownAll [.ref v, .int a0] M = zz_ev tX1_disownAll 0 [some (.ref v), some (.int a0), none] [] M := rfl
set_option maxRecDepth 100000 in
theorem e_X1_serve : (∀ L st M, zz_ev tX1_serve 0 L st M = zo_aload 0 1 (zz_ev tX1_serve) L st M) ∧
  (∀ L st M, zz_ev tX1_serve 1 L st M = zo_iload 1 2 (zz_ev tX1_serve) L st M) ∧
  (∀ L st M, zz_ev tX1_serve 2 L st M = zo_pushI 25 4 (zz_ev tX1_serve) L st M) ∧
  (∀ (L : zzLc) (a0 a1 : Int32) (r : List Value) (M : zzMd), zz_ev tX1_serve 4 L (.int a1 :: .int a0 :: .ref 8 :: r) M = bif zz_cat8 r then zz_backN (zz_ev tX1_serve) 7 L r (fX10_read [.ref 8, .int a0, .int a1] M) else none) ∧
  (∀ L st M, zz_ev tX1_serve 7 L st M = zo_istore 2 8 (zz_ev tX1_serve) L st M) ∧
  (∀ L st M, zz_ev tX1_serve 8 L st M = zo_iload 2 9 (zz_ev tX1_serve) L st M) ∧
  (∀ L st M, zz_ev tX1_serve 9 L st M = zo_pushI 4 10 (zz_ev tX1_serve) L st M) ∧
  (∀ L st M, zz_ev tX1_serve 10 L st M = zo_icmp (fun x y => decide (¬ x = y)) 15 13 (zz_ev tX1_serve) L st M) ∧
  (∀ L st M, zz_ev tX1_serve 13 L st M = zo_pushI 1 14 (zz_ev tX1_serve) L st M) ∧
  (∀ L st M, zz_ev tX1_serve 14 L st M = zo_iret false (zz_ev tX1_serve) L st M) ∧
  (∀ L st M, zz_ev tX1_serve 15 L st M = zo_iload 2 16 (zz_ev tX1_serve) L st M) ∧
  (∀ L st M, zz_ev tX1_serve 16 L st M = zo_if (fun x => decide (¬ x = 0)) 53 19 (zz_ev tX1_serve) L st M) ∧
  (∀ L st M, zz_ev tX1_serve 19 L st M = zo_aload 0 20 (zz_ev tX1_serve) L st M) ∧
  (∀ L st M, zz_ev tX1_serve 20 L st M = zo_iload 1 21 (zz_ev tX1_serve) L st M) ∧
  (∀ L st M, zz_ev tX1_serve 21 L st M = zo_pushI 24 23 (zz_ev tX1_serve) L st M) ∧
  (∀ (L : zzLc) (a0 a1 : Int32) (r : List Value) (M : zzMd), zz_ev tX1_serve 23 L (.int a1 :: .int a0 :: .ref 8 :: r) M = bif zz_cat8 r then zz_backN (zz_ev tX1_serve) 26 L r (fX10_read [.ref 8, .int a0, .int a1] M) else none) ∧
  (∀ L st M, zz_ev tX1_serve 26 L st M = zo_istore 3 27 (zz_ev tX1_serve) L st M) ∧
  (∀ L st M, zz_ev tX1_serve 27 L st M = zo_iload 3 28 (zz_ev tX1_serve) L st M) ∧
  (∀ L st M, zz_ev tX1_serve 28 L st M = zo_pushI (-1) 29 (zz_ev tX1_serve) L st M) ∧
  (∀ L st M, zz_ev tX1_serve 29 L st M = zo_icmp (fun x y => decide (x = y)) 51 32 (zz_ev tX1_serve) L st M) ∧
  (∀ L st M, zz_ev tX1_serve 32 L st M = zo_aload 0 33 (zz_ev tX1_serve) L st M) ∧
  (∀ L st M, zz_ev tX1_serve 33 L st M = zo_iload 3 34 (zz_ev tX1_serve) L st M) ∧
  (∀ (L : zzLc) (a0 : Int32) (r : List Value) (M : zzMd), zz_ev tX1_serve 34 L (.int a0 :: .ref 8 :: r) M = bif zz_cat8 r then zz_backN (zz_ev tX1_serve) 37 L r (fX10_isGone [.ref 8, .int a0] M) else none) ∧
  (∀ L st M, zz_ev tX1_serve 37 L st M = zo_if (fun x => decide (x = 0)) 51 40 (zz_ev tX1_serve) L st M) ∧
  (∀ L st M, zz_ev tX1_serve 40 L st M = zo_aload 0 41 (zz_ev tX1_serve) L st M) ∧
  (∀ L st M, zz_ev tX1_serve 41 L st M = zo_iload 1 42 (zz_ev tX1_serve) L st M) ∧
  (∀ (L : zzLc) (a0 : Int32) (r : List Value) (M : zzMd), zz_ev tX1_serve 42 L (.int a0 :: .ref 8 :: r) M = bif zz_cat8 r then zz_backN (zz_ev tX1_serve) 45 L r (fX2_remove [.ref 8, .int a0] M) else none) ∧
  (∀ (L : zzLc) (a0 : Int32) (r : List Value) (M : zzMd), zz_ev tX1_serve 45 L (.int a0 :: r) M = bif zz_cat8 r then zz_backN (zz_ev tX1_serve) 48 L r (fX2_outcomeOf [.int a0] M) else none) ∧
  (∀ L st M, zz_ev tX1_serve 48 L st M = zo_goto 52 (zz_ev tX1_serve) L st M) ∧
  (∀ L st M, zz_ev tX1_serve 51 L st M = zo_pushI 1 52 (zz_ev tX1_serve) L st M) ∧
  (∀ L st M, zz_ev tX1_serve 52 L st M = zo_iret false (zz_ev tX1_serve) L st M) ∧
  (∀ L st M, zz_ev tX1_serve 53 L st M = zo_iload 2 54 (zz_ev tX1_serve) L st M) ∧
  (∀ L st M, zz_ev tX1_serve 54 L st M = zo_pushI 2 55 (zz_ev tX1_serve) L st M) ∧
  (∀ L st M, zz_ev tX1_serve 55 L st M = zo_icmp (fun x y => decide (x = y)) 88 58 (zz_ev tX1_serve) L st M) ∧
  (∀ L st M, zz_ev tX1_serve 58 L st M = zo_aload 0 59 (zz_ev tX1_serve) L st M) ∧
  (∀ L st M, zz_ev tX1_serve 59 L st M = zo_iload 1 60 (zz_ev tX1_serve) L st M) ∧
  (∀ (L : zzLc) (a0 : Int32) (r : List Value) (M : zzMd), zz_ev tX1_serve 60 L (.int a0 :: .ref 8 :: r) M = bif zz_cat8 r then zz_backN (zz_ev tX1_serve) 63 L r (fX1_ownsSome [.ref 8, .int a0] M) else none) ∧
  (∀ L st M, zz_ev tX1_serve 63 L st M = zo_if (fun x => decide (x = 0)) 88 66 (zz_ev tX1_serve) L st M) ∧
  (∀ L st M, zz_ev tX1_serve 66 L st M = zo_iload 2 67 (zz_ev tX1_serve) L st M) ∧
  (∀ L st M, zz_ev tX1_serve 67 L st M = zo_pushI 1 68 (zz_ev tX1_serve) L st M) ∧
  (∀ L st M, zz_ev tX1_serve 68 L st M = zo_icmp (fun x y => decide (¬ x = y)) 79 71 (zz_ev tX1_serve) L st M) ∧
  (∀ L st M, zz_ev tX1_serve 71 L st M = zo_aload 0 72 (zz_ev tX1_serve) L st M) ∧
  (∀ L st M, zz_ev tX1_serve 72 L st M = zo_iload 1 73 (zz_ev tX1_serve) L st M) ∧
  (∀ (L : zzLc) (a0 : Int32) (r : List Value) (M : zzMd), zz_ev tX1_serve 73 L (.int a0 :: .ref 8 :: r) M = bif zz_cat8 r then zz_backN (zz_ev tX1_serve) 76 L r (fX1_deleteOwned [.ref 8, .int a0] M) else none) ∧
  (∀ L st M, zz_ev tX1_serve 76 L st M = zo_goto 84 (zz_ev tX1_serve) L st M) ∧
  (∀ L st M, zz_ev tX1_serve 79 L st M = zo_aload 0 80 (zz_ev tX1_serve) L st M) ∧
  (∀ L st M, zz_ev tX1_serve 80 L st M = zo_iload 1 81 (zz_ev tX1_serve) L st M) ∧
  (∀ (L : zzLc) (a0 : Int32) (r : List Value) (M : zzMd), zz_ev tX1_serve 81 L (.int a0 :: .ref 8 :: r) M = bif zz_cat8 r then zz_backN (zz_ev tX1_serve) 84 L r (fX1_disownAll [.ref 8, .int a0] M) else none) ∧
  (∀ (L : zzLc) (a0 : Int32) (r : List Value) (M : zzMd), zz_ev tX1_serve 84 L (.int a0 :: r) M = bif zz_cat8 r then zz_backN (zz_ev tX1_serve) 87 L r (fX2_outcomeOf [.int a0] M) else none) ∧
  (∀ L st M, zz_ev tX1_serve 87 L st M = zo_iret false (zz_ev tX1_serve) L st M) ∧
  (∀ L st M, zz_ev tX1_serve 88 L st M = zo_aload 0 89 (zz_ev tX1_serve) L st M) ∧
  (∀ L st M, zz_ev tX1_serve 89 L st M = zo_iload 1 90 (zz_ev tX1_serve) L st M) ∧
  (∀ (L : zzLc) (a0 : Int32) (r : List Value) (M : zzMd), zz_ev tX1_serve 90 L (.int a0 :: .ref 8 :: r) M = bif zz_cat8 r then zz_backN (zz_ev tX1_serve) 93 L r (fX10_isKept [.ref 8, .int a0] M) else none) ∧
  (∀ L st M, zz_ev tX1_serve 93 L st M = zo_if (fun x => decide (x = 0)) 100 96 (zz_ev tX1_serve) L st M) ∧
  (∀ L st M, zz_ev tX1_serve 96 L st M = zo_pushI 1 97 (zz_ev tX1_serve) L st M) ∧
  (∀ L st M, zz_ev tX1_serve 97 L st M = zo_goto 111 (zz_ev tX1_serve) L st M) ∧
  (∀ L st M, zz_ev tX1_serve 100 L st M = zo_aload 0 101 (zz_ev tX1_serve) L st M) ∧
  (∀ L st M, zz_ev tX1_serve 101 L st M = zo_iload 1 102 (zz_ev tX1_serve) L st M) ∧
  (∀ L st M, zz_ev tX1_serve 102 L st M = zo_pushI 25 104 (zz_ev tX1_serve) L st M) ∧
  (∀ L st M, zz_ev tX1_serve 104 L st M = zo_pushI 4 105 (zz_ev tX1_serve) L st M) ∧
  (∀ (L : zzLc) (a0 a1 a2 : Int32) (r : List Value) (M : zzMd), zz_ev tX1_serve 105 L (.int a2 :: .int a1 :: .int a0 :: .ref 8 :: r) M = bif zz_cat8 r then zz_backN (zz_ev tX1_serve) 108 L r (fX2_set [.ref 8, .int a0, .int a1, .int a2] M) else none) ∧
  (∀ (L : zzLc) (a0 : Int32) (r : List Value) (M : zzMd), zz_ev tX1_serve 108 L (.int a0 :: r) M = bif zz_cat8 r then zz_backN (zz_ev tX1_serve) 111 L r (fX2_outcomeOf [.int a0] M) else none) ∧
  (∀ L st M, zz_ev tX1_serve 111 L st M = zo_iret false (zz_ev tX1_serve) L st M) :=
  ⟨zz_1 rfl tl_X1_serve, zz_1 rfl tl_X1_serve, zz_1 rfl tl_X1_serve, fun L a0 a1 r M => (zz_1 rfl tl_X1_serve _ _ _).trans rfl, zz_1 rfl tl_X1_serve, zz_1 rfl tl_X1_serve, zz_1 rfl tl_X1_serve, zz_1 rfl tl_X1_serve, zz_1 rfl tl_X1_serve, zz_1 rfl tl_X1_serve, zz_1 rfl tl_X1_serve, zz_1 rfl tl_X1_serve, zz_1 rfl tl_X1_serve, zz_1 rfl tl_X1_serve, zz_1 rfl tl_X1_serve, fun L a0 a1 r M => (zz_1 rfl tl_X1_serve _ _ _).trans rfl, zz_1 rfl tl_X1_serve, zz_1 rfl tl_X1_serve, zz_1 rfl tl_X1_serve, zz_1 rfl tl_X1_serve, zz_1 rfl tl_X1_serve, zz_1 rfl tl_X1_serve, fun L a0 r M => (zz_1 rfl tl_X1_serve _ _ _).trans rfl, zz_1 rfl tl_X1_serve, zz_1 rfl tl_X1_serve, zz_1 rfl tl_X1_serve, fun L a0 r M => (zz_1 rfl tl_X1_serve _ _ _).trans rfl, fun L a0 r M => (zz_1 rfl tl_X1_serve _ _ _).trans rfl, zz_1 rfl tl_X1_serve, zz_1 rfl tl_X1_serve, zz_1 rfl tl_X1_serve, zz_1 rfl tl_X1_serve, zz_1 rfl tl_X1_serve, zz_1 rfl tl_X1_serve, zz_1 rfl tl_X1_serve, zz_1 rfl tl_X1_serve, fun L a0 r M => (zz_1 rfl tl_X1_serve _ _ _).trans rfl, zz_1 rfl tl_X1_serve, zz_1 rfl tl_X1_serve, zz_1 rfl tl_X1_serve, zz_1 rfl tl_X1_serve, zz_1 rfl tl_X1_serve, zz_1 rfl tl_X1_serve, fun L a0 r M => (zz_1 rfl tl_X1_serve _ _ _).trans rfl, zz_1 rfl tl_X1_serve, zz_1 rfl tl_X1_serve, zz_1 rfl tl_X1_serve, fun L a0 r M => (zz_1 rfl tl_X1_serve _ _ _).trans rfl, fun L a0 r M => (zz_1 rfl tl_X1_serve _ _ _).trans rfl, zz_1 rfl tl_X1_serve, zz_1 rfl tl_X1_serve, zz_1 rfl tl_X1_serve, fun L a0 r M => (zz_1 rfl tl_X1_serve _ _ _).trans rfl, zz_1 rfl tl_X1_serve, zz_1 rfl tl_X1_serve, zz_1 rfl tl_X1_serve, zz_1 rfl tl_X1_serve, zz_1 rfl tl_X1_serve, zz_1 rfl tl_X1_serve, zz_1 rfl tl_X1_serve, fun L a0 a1 a2 r M => (zz_1 rfl tl_X1_serve _ _ _).trans rfl, fun L a0 r M => (zz_1 rfl tl_X1_serve _ _ _).trans rfl, zz_1 rfl tl_X1_serve⟩
set_option maxRecDepth 100000 in
theorem s_X1_serve (a0 : Int32) (v : Nat) (M : zzMd) : fX1_serve [.ref v, .int a0] M = zz_ev tX1_serve 0 [some (.ref v), some (.int a0), none, none] [] M := rfl
set_option maxRecDepth 100000 in
theorem e_X2_isOwnKey : (∀ L st M, zz_ev tX2_isOwnKey 0 L st M = zo_aload 0 1 (zz_ev tX2_isOwnKey) L st M) ∧
  (∀ (L : zzLc) (r : List Value) (M : zzMd), zz_ev tX2_isOwnKey 1 L (.ref 3 :: r) M = zz_ev tX2_isOwnKey 4 L (.int (M.1 3 5) :: r) M) ∧
  (∀ (L : zzLc) (r : List Value) (M : zzMd), zz_ev tX2_isOwnKey 1 L (.ref 4 :: r) M = zz_ev tX2_isOwnKey 4 L (.int (M.1 4 5) :: r) M) ∧
  (∀ (L : zzLc) (r : List Value) (M : zzMd), zz_ev tX2_isOwnKey 1 L (.ref 5 :: r) M = zz_ev tX2_isOwnKey 4 L (.int (M.1 5 5) :: r) M) ∧
  (∀ (L : zzLc) (r : List Value) (M : zzMd), zz_ev tX2_isOwnKey 1 L (.ref 6 :: r) M = zz_ev tX2_isOwnKey 4 L (.int (M.1 6 5) :: r) M) ∧
  (∀ (L : zzLc) (r : List Value) (M : zzMd), zz_ev tX2_isOwnKey 1 L (.ref 7 :: r) M = zz_ev tX2_isOwnKey 4 L (.int (M.1 7 5) :: r) M) ∧
  (∀ (L : zzLc) (r : List Value) (M : zzMd), zz_ev tX2_isOwnKey 1 L (.ref 8 :: r) M = zz_ev tX2_isOwnKey 4 L (.int (M.1 8 5) :: r) M) ∧
  (∀ (L : zzLc) (r : List Value) (M : zzMd), zz_ev tX2_isOwnKey 1 L (.ref 9 :: r) M = zz_ev tX2_isOwnKey 4 L (.int (M.1 9 5) :: r) M) ∧
  (∀ (L : zzLc) (r : List Value) (M : zzMd), zz_ev tX2_isOwnKey 1 L (.ref 10 :: r) M = zz_ev tX2_isOwnKey 4 L (.int (M.1 10 5) :: r) M) ∧
  (∀ L st M, zz_ev tX2_isOwnKey 4 L st M = zo_pushI (-1) 5 (zz_ev tX2_isOwnKey) L st M) ∧
  (∀ L st M, zz_ev tX2_isOwnKey 5 L st M = zo_icmp (fun x y => decide (x = y)) 22 8 (zz_ev tX2_isOwnKey) L st M) ∧
  (∀ L st M, zz_ev tX2_isOwnKey 8 L st M = zo_aload 0 9 (zz_ev tX2_isOwnKey) L st M) ∧
  (∀ L st M, zz_ev tX2_isOwnKey 9 L st M = zo_iload 1 10 (zz_ev tX2_isOwnKey) L st M) ∧
  (∀ L st M, zz_ev tX2_isOwnKey 10 L st M = zo_pushI 23 12 (zz_ev tX2_isOwnKey) L st M) ∧
  (∀ (L : zzLc) (a0 a1 : Int32) (r : List Value) (M : zzMd), zz_ev tX2_isOwnKey 12 L (.int a1 :: .int a0 :: .ref 8 :: r) M = bif zz_cat8 r then zz_backN (zz_ev tX2_isOwnKey) 15 L r (fX10_read [.ref 8, .int a0, .int a1] M) else none) ∧
  (∀ (L : zzLc) (a0 a1 : Int32) (r : List Value) (M : zzMd), zz_ev tX2_isOwnKey 12 L (.int a1 :: .int a0 :: .ref 3 :: r) M = bif zz_cat8 r then zz_backN (zz_ev tX2_isOwnKey) 15 L r (fX10_read [.ref 3, .int a0, .int a1] M) else none) ∧
  (∀ (L : zzLc) (a0 a1 : Int32) (r : List Value) (M : zzMd), zz_ev tX2_isOwnKey 12 L (.int a1 :: .int a0 :: .ref 4 :: r) M = bif zz_cat8 r then zz_backN (zz_ev tX2_isOwnKey) 15 L r (fX10_read [.ref 4, .int a0, .int a1] M) else none) ∧
  (∀ (L : zzLc) (a0 a1 : Int32) (r : List Value) (M : zzMd), zz_ev tX2_isOwnKey 12 L (.int a1 :: .int a0 :: .ref 5 :: r) M = bif zz_cat8 r then zz_backN (zz_ev tX2_isOwnKey) 15 L r (fX10_read [.ref 5, .int a0, .int a1] M) else none) ∧
  (∀ (L : zzLc) (a0 a1 : Int32) (r : List Value) (M : zzMd), zz_ev tX2_isOwnKey 12 L (.int a1 :: .int a0 :: .ref 9 :: r) M = bif zz_cat8 r then zz_backN (zz_ev tX2_isOwnKey) 15 L r (fX10_read [.ref 9, .int a0, .int a1] M) else none) ∧
  (∀ (L : zzLc) (a0 a1 : Int32) (r : List Value) (M : zzMd), zz_ev tX2_isOwnKey 12 L (.int a1 :: .int a0 :: .ref 7 :: r) M = bif zz_cat8 r then zz_backN (zz_ev tX2_isOwnKey) 15 L r (fX10_read [.ref 7, .int a0, .int a1] M) else none) ∧
  (∀ (L : zzLc) (a0 a1 : Int32) (r : List Value) (M : zzMd), zz_ev tX2_isOwnKey 12 L (.int a1 :: .int a0 :: .ref 10 :: r) M = bif zz_cat8 r then zz_backN (zz_ev tX2_isOwnKey) 15 L r (fX10_read [.ref 10, .int a0, .int a1] M) else none) ∧
  (∀ (L : zzLc) (a0 a1 : Int32) (r : List Value) (M : zzMd), zz_ev tX2_isOwnKey 12 L (.int a1 :: .int a0 :: .ref 6 :: r) M = bif zz_cat8 r then zz_backN (zz_ev tX2_isOwnKey) 15 L r (fX10_read [.ref 6, .int a0, .int a1] M) else none) ∧
  (∀ L st M, zz_ev tX2_isOwnKey 15 L st M = zo_aload 0 16 (zz_ev tX2_isOwnKey) L st M) ∧
  (∀ (L : zzLc) (r : List Value) (M : zzMd), zz_ev tX2_isOwnKey 16 L (.ref 3 :: r) M = zz_ev tX2_isOwnKey 19 L (.int (M.1 3 5) :: r) M) ∧
  (∀ (L : zzLc) (r : List Value) (M : zzMd), zz_ev tX2_isOwnKey 16 L (.ref 4 :: r) M = zz_ev tX2_isOwnKey 19 L (.int (M.1 4 5) :: r) M) ∧
  (∀ (L : zzLc) (r : List Value) (M : zzMd), zz_ev tX2_isOwnKey 16 L (.ref 5 :: r) M = zz_ev tX2_isOwnKey 19 L (.int (M.1 5 5) :: r) M) ∧
  (∀ (L : zzLc) (r : List Value) (M : zzMd), zz_ev tX2_isOwnKey 16 L (.ref 6 :: r) M = zz_ev tX2_isOwnKey 19 L (.int (M.1 6 5) :: r) M) ∧
  (∀ (L : zzLc) (r : List Value) (M : zzMd), zz_ev tX2_isOwnKey 16 L (.ref 7 :: r) M = zz_ev tX2_isOwnKey 19 L (.int (M.1 7 5) :: r) M) ∧
  (∀ (L : zzLc) (r : List Value) (M : zzMd), zz_ev tX2_isOwnKey 16 L (.ref 8 :: r) M = zz_ev tX2_isOwnKey 19 L (.int (M.1 8 5) :: r) M) ∧
  (∀ (L : zzLc) (r : List Value) (M : zzMd), zz_ev tX2_isOwnKey 16 L (.ref 9 :: r) M = zz_ev tX2_isOwnKey 19 L (.int (M.1 9 5) :: r) M) ∧
  (∀ (L : zzLc) (r : List Value) (M : zzMd), zz_ev tX2_isOwnKey 16 L (.ref 10 :: r) M = zz_ev tX2_isOwnKey 19 L (.int (M.1 10 5) :: r) M) ∧
  (∀ L st M, zz_ev tX2_isOwnKey 19 L st M = zo_icmp (fun x y => decide (¬ x = y)) 26 22 (zz_ev tX2_isOwnKey) L st M) ∧
  (∀ L st M, zz_ev tX2_isOwnKey 22 L st M = zo_pushI 1 23 (zz_ev tX2_isOwnKey) L st M) ∧
  (∀ L st M, zz_ev tX2_isOwnKey 23 L st M = zo_goto 27 (zz_ev tX2_isOwnKey) L st M) ∧
  (∀ L st M, zz_ev tX2_isOwnKey 26 L st M = zo_pushI 0 27 (zz_ev tX2_isOwnKey) L st M) ∧
  (∀ L st M, zz_ev tX2_isOwnKey 27 L st M = zo_iret true (zz_ev tX2_isOwnKey) L st M) :=
  ⟨zz_1 rfl tl_X2_isOwnKey, fun L r M => (zz_1 rfl tl_X2_isOwnKey _ _ _).trans rfl, fun L r M => (zz_1 rfl tl_X2_isOwnKey _ _ _).trans rfl, fun L r M => (zz_1 rfl tl_X2_isOwnKey _ _ _).trans rfl, fun L r M => (zz_1 rfl tl_X2_isOwnKey _ _ _).trans rfl, fun L r M => (zz_1 rfl tl_X2_isOwnKey _ _ _).trans rfl, fun L r M => (zz_1 rfl tl_X2_isOwnKey _ _ _).trans rfl, fun L r M => (zz_1 rfl tl_X2_isOwnKey _ _ _).trans rfl, fun L r M => (zz_1 rfl tl_X2_isOwnKey _ _ _).trans rfl, zz_1 rfl tl_X2_isOwnKey, zz_1 rfl tl_X2_isOwnKey, zz_1 rfl tl_X2_isOwnKey, zz_1 rfl tl_X2_isOwnKey, zz_1 rfl tl_X2_isOwnKey, fun L a0 a1 r M => (zz_1 rfl tl_X2_isOwnKey _ _ _).trans rfl, fun L a0 a1 r M => (zz_1 rfl tl_X2_isOwnKey _ _ _).trans rfl, fun L a0 a1 r M => (zz_1 rfl tl_X2_isOwnKey _ _ _).trans rfl, fun L a0 a1 r M => (zz_1 rfl tl_X2_isOwnKey _ _ _).trans rfl, fun L a0 a1 r M => (zz_1 rfl tl_X2_isOwnKey _ _ _).trans rfl, fun L a0 a1 r M => (zz_1 rfl tl_X2_isOwnKey _ _ _).trans rfl, fun L a0 a1 r M => (zz_1 rfl tl_X2_isOwnKey _ _ _).trans rfl, fun L a0 a1 r M => (zz_1 rfl tl_X2_isOwnKey _ _ _).trans rfl, zz_1 rfl tl_X2_isOwnKey, fun L r M => (zz_1 rfl tl_X2_isOwnKey _ _ _).trans rfl, fun L r M => (zz_1 rfl tl_X2_isOwnKey _ _ _).trans rfl, fun L r M => (zz_1 rfl tl_X2_isOwnKey _ _ _).trans rfl, fun L r M => (zz_1 rfl tl_X2_isOwnKey _ _ _).trans rfl, fun L r M => (zz_1 rfl tl_X2_isOwnKey _ _ _).trans rfl, fun L r M => (zz_1 rfl tl_X2_isOwnKey _ _ _).trans rfl, fun L r M => (zz_1 rfl tl_X2_isOwnKey _ _ _).trans rfl, fun L r M => (zz_1 rfl tl_X2_isOwnKey _ _ _).trans rfl, zz_1 rfl tl_X2_isOwnKey, zz_1 rfl tl_X2_isOwnKey, zz_1 rfl tl_X2_isOwnKey, zz_1 rfl tl_X2_isOwnKey, zz_1 rfl tl_X2_isOwnKey⟩
set_option maxRecDepth 100000 in
theorem s_X2_isOwnKey (a0 : Int32) (v : Nat) (M : zzMd) : fX2_isOwnKey [.ref v, .int a0] M = zz_ev tX2_isOwnKey 0 [some (.ref v), some (.int a0)] [] M := rfl
set_option maxRecDepth 100000 in
theorem e_X2_relist : (∀ L st M, zz_ev tX2_relist 0 L st M = zo_aload 0 1 (zz_ev tX2_relist) L st M) ∧
  (∀ L st M, zz_ev tX2_relist 1 L st M = zo_aload 0 2 (zz_ev tX2_relist) L st M) ∧
  (∀ (L : zzLc) (r : List Value) (M : zzMd), zz_ev tX2_relist 2 L (.ref 3 :: r) M = zz_ev tX2_relist 5 L (.ref 1 :: r) M) ∧
  (∀ (L : zzLc) (r : List Value) (M : zzMd), zz_ev tX2_relist 2 L (.ref 4 :: r) M = zz_ev tX2_relist 5 L (.ref 1 :: r) M) ∧
  (∀ (L : zzLc) (r : List Value) (M : zzMd), zz_ev tX2_relist 2 L (.ref 5 :: r) M = zz_ev tX2_relist 5 L (.ref 1 :: r) M) ∧
  (∀ (L : zzLc) (r : List Value) (M : zzMd), zz_ev tX2_relist 2 L (.ref 6 :: r) M = zz_ev tX2_relist 5 L (.ref 1 :: r) M) ∧
  (∀ (L : zzLc) (r : List Value) (M : zzMd), zz_ev tX2_relist 2 L (.ref 7 :: r) M = zz_ev tX2_relist 5 L (.ref 1 :: r) M) ∧
  (∀ (L : zzLc) (r : List Value) (M : zzMd), zz_ev tX2_relist 2 L (.ref 8 :: r) M = zz_ev tX2_relist 5 L (.ref 1 :: r) M) ∧
  (∀ (L : zzLc) (r : List Value) (M : zzMd), zz_ev tX2_relist 2 L (.ref 9 :: r) M = zz_ev tX2_relist 5 L (.ref 1 :: r) M) ∧
  (∀ (L : zzLc) (r : List Value) (M : zzMd), zz_ev tX2_relist 2 L (.ref 10 :: r) M = zz_ev tX2_relist 5 L (.ref 1 :: r) M) ∧
  (∀ (L : zzLc) (a0 : Nat) (r : List Value) (M : zzMd), zz_ev tX2_relist 5 L (.ref a0 :: .ref 8 :: r) M = bif zz_cat8 r then zz_backN (zz_ev tX2_relist) 8 L r (fX10_takeAll [.ref 8, .ref a0] M) else none) ∧
  (∀ (L : zzLc) (a0 : Nat) (r : List Value) (M : zzMd), zz_ev tX2_relist 5 L (.ref a0 :: .ref 3 :: r) M = bif zz_cat8 r then zz_backN (zz_ev tX2_relist) 8 L r (fX10_takeAll [.ref 3, .ref a0] M) else none) ∧
  (∀ (L : zzLc) (a0 : Nat) (r : List Value) (M : zzMd), zz_ev tX2_relist 5 L (.ref a0 :: .ref 4 :: r) M = bif zz_cat8 r then zz_backN (zz_ev tX2_relist) 8 L r (fX10_takeAll [.ref 4, .ref a0] M) else none) ∧
  (∀ (L : zzLc) (a0 : Nat) (r : List Value) (M : zzMd), zz_ev tX2_relist 5 L (.ref a0 :: .ref 5 :: r) M = bif zz_cat8 r then zz_backN (zz_ev tX2_relist) 8 L r (fX10_takeAll [.ref 5, .ref a0] M) else none) ∧
  (∀ (L : zzLc) (a0 : Nat) (r : List Value) (M : zzMd), zz_ev tX2_relist 5 L (.ref a0 :: .ref 9 :: r) M = bif zz_cat8 r then zz_backN (zz_ev tX2_relist) 8 L r (fX10_takeAll [.ref 9, .ref a0] M) else none) ∧
  (∀ (L : zzLc) (a0 : Nat) (r : List Value) (M : zzMd), zz_ev tX2_relist 5 L (.ref a0 :: .ref 7 :: r) M = bif zz_cat8 r then zz_backN (zz_ev tX2_relist) 8 L r (fX10_takeAll [.ref 7, .ref a0] M) else none) ∧
  (∀ (L : zzLc) (a0 : Nat) (r : List Value) (M : zzMd), zz_ev tX2_relist 5 L (.ref a0 :: .ref 10 :: r) M = bif zz_cat8 r then zz_backN (zz_ev tX2_relist) 8 L r (fX10_takeAll [.ref 10, .ref a0] M) else none) ∧
  (∀ (L : zzLc) (a0 : Nat) (r : List Value) (M : zzMd), zz_ev tX2_relist 5 L (.ref a0 :: .ref 6 :: r) M = bif zz_cat8 r then zz_backN (zz_ev tX2_relist) 8 L r (fX10_takeAll [.ref 6, .ref a0] M) else none) ∧
  (∀ L st M, zz_ev tX2_relist 8 L st M = zo_pushI 0 9 (zz_ev tX2_relist) L st M) ∧
  (∀ L st M, zz_ev tX2_relist 9 L st M = zo_istore 1 10 (zz_ev tX2_relist) L st M) ∧
  (∀ L st M, zz_ev tX2_relist 11 L st M = zo_aload 0 12 (zz_ev tX2_relist) L st M) ∧
  (∀ (L : zzLc) (r : List Value) (M : zzMd), zz_ev tX2_relist 12 L (.ref 3 :: r) M = zz_ev tX2_relist 15 L (.int (M.1 3 2) :: r) M) ∧
  (∀ (L : zzLc) (r : List Value) (M : zzMd), zz_ev tX2_relist 12 L (.ref 4 :: r) M = zz_ev tX2_relist 15 L (.int (M.1 4 2) :: r) M) ∧
  (∀ (L : zzLc) (r : List Value) (M : zzMd), zz_ev tX2_relist 12 L (.ref 5 :: r) M = zz_ev tX2_relist 15 L (.int (M.1 5 2) :: r) M) ∧
  (∀ (L : zzLc) (r : List Value) (M : zzMd), zz_ev tX2_relist 12 L (.ref 6 :: r) M = zz_ev tX2_relist 15 L (.int (M.1 6 2) :: r) M) ∧
  (∀ (L : zzLc) (r : List Value) (M : zzMd), zz_ev tX2_relist 12 L (.ref 7 :: r) M = zz_ev tX2_relist 15 L (.int (M.1 7 2) :: r) M) ∧
  (∀ (L : zzLc) (r : List Value) (M : zzMd), zz_ev tX2_relist 12 L (.ref 8 :: r) M = zz_ev tX2_relist 15 L (.int (M.1 8 2) :: r) M) ∧
  (∀ (L : zzLc) (r : List Value) (M : zzMd), zz_ev tX2_relist 12 L (.ref 9 :: r) M = zz_ev tX2_relist 15 L (.int (M.1 9 2) :: r) M) ∧
  (∀ (L : zzLc) (r : List Value) (M : zzMd), zz_ev tX2_relist 12 L (.ref 10 :: r) M = zz_ev tX2_relist 15 L (.int (M.1 10 2) :: r) M) ∧
  (∀ L st M, zz_ev tX2_relist 15 L st M = zo_icmp (fun x y => decide (y ≤ x)) 45 18 (zz_ev tX2_relist) L st M) ∧
  (∀ L st M, zz_ev tX2_relist 18 L st M = zo_aload 0 19 (zz_ev tX2_relist) L st M) ∧
  (∀ L st M, zz_ev tX2_relist 19 L st M = zo_iload 1 20 (zz_ev tX2_relist) L st M) ∧
  (∀ (L : zzLc) (a0 : Int32) (r : List Value) (M : zzMd), zz_ev tX2_relist 20 L (.int a0 :: .ref 8 :: r) M = bif zz_cat8 r then zz_backN (zz_ev tX2_relist) 23 L r (fX10_isGone [.ref 8, .int a0] M) else none) ∧
  (∀ (L : zzLc) (a0 : Int32) (r : List Value) (M : zzMd), zz_ev tX2_relist 20 L (.int a0 :: .ref 3 :: r) M = bif zz_cat8 r then zz_backN (zz_ev tX2_relist) 23 L r (fX10_isGone [.ref 3, .int a0] M) else none) ∧
  (∀ (L : zzLc) (a0 : Int32) (r : List Value) (M : zzMd), zz_ev tX2_relist 20 L (.int a0 :: .ref 4 :: r) M = bif zz_cat8 r then zz_backN (zz_ev tX2_relist) 23 L r (fX10_isGone [.ref 4, .int a0] M) else none) ∧
  (∀ (L : zzLc) (a0 : Int32) (r : List Value) (M : zzMd), zz_ev tX2_relist 20 L (.int a0 :: .ref 5 :: r) M = bif zz_cat8 r then zz_backN (zz_ev tX2_relist) 23 L r (fX10_isGone [.ref 5, .int a0] M) else none) ∧
  (∀ (L : zzLc) (a0 : Int32) (r : List Value) (M : zzMd), zz_ev tX2_relist 20 L (.int a0 :: .ref 9 :: r) M = bif zz_cat8 r then zz_backN (zz_ev tX2_relist) 23 L r (fX10_isGone [.ref 9, .int a0] M) else none) ∧
  (∀ (L : zzLc) (a0 : Int32) (r : List Value) (M : zzMd), zz_ev tX2_relist 20 L (.int a0 :: .ref 7 :: r) M = bif zz_cat8 r then zz_backN (zz_ev tX2_relist) 23 L r (fX10_isGone [.ref 7, .int a0] M) else none) ∧
  (∀ (L : zzLc) (a0 : Int32) (r : List Value) (M : zzMd), zz_ev tX2_relist 20 L (.int a0 :: .ref 10 :: r) M = bif zz_cat8 r then zz_backN (zz_ev tX2_relist) 23 L r (fX10_isGone [.ref 10, .int a0] M) else none) ∧
  (∀ (L : zzLc) (a0 : Int32) (r : List Value) (M : zzMd), zz_ev tX2_relist 20 L (.int a0 :: .ref 6 :: r) M = bif zz_cat8 r then zz_backN (zz_ev tX2_relist) 23 L r (fX10_isGone [.ref 6, .int a0] M) else none) ∧
  (∀ L st M, zz_ev tX2_relist 23 L st M = zo_if (fun x => decide (¬ x = 0)) 39 26 (zz_ev tX2_relist) L st M) ∧
  (∀ L st M, zz_ev tX2_relist 26 L st M = zo_aload 0 27 (zz_ev tX2_relist) L st M) ∧
  (∀ L st M, zz_ev tX2_relist 27 L st M = zo_iload 1 28 (zz_ev tX2_relist) L st M) ∧
  (∀ (L : zzLc) (a0 : Int32) (r : List Value) (M : zzMd), zz_ev tX2_relist 28 L (.int a0 :: .ref 8 :: r) M = bif zz_cat8 r then zz_backN (zz_ev tX2_relist) 31 L r (fX2_isOwnKey [.ref 8, .int a0] M) else none) ∧
  (∀ (L : zzLc) (a0 : Int32) (r : List Value) (M : zzMd), zz_ev tX2_relist 28 L (.int a0 :: .ref 3 :: r) M = bif zz_cat8 r then zz_backN (zz_ev tX2_relist) 31 L r (fX2_isOwnKey [.ref 3, .int a0] M) else none) ∧
  (∀ (L : zzLc) (a0 : Int32) (r : List Value) (M : zzMd), zz_ev tX2_relist 28 L (.int a0 :: .ref 4 :: r) M = bif zz_cat8 r then zz_backN (zz_ev tX2_relist) 31 L r (fX2_isOwnKey [.ref 4, .int a0] M) else none) ∧
  (∀ (L : zzLc) (a0 : Int32) (r : List Value) (M : zzMd), zz_ev tX2_relist 28 L (.int a0 :: .ref 5 :: r) M = bif zz_cat8 r then zz_backN (zz_ev tX2_relist) 31 L r (fX2_isOwnKey [.ref 5, .int a0] M) else none) ∧
  (∀ (L : zzLc) (a0 : Int32) (r : List Value) (M : zzMd), zz_ev tX2_relist 28 L (.int a0 :: .ref 9 :: r) M = bif zz_cat8 r then zz_backN (zz_ev tX2_relist) 31 L r (fX2_isOwnKey [.ref 9, .int a0] M) else none) ∧
  (∀ (L : zzLc) (a0 : Int32) (r : List Value) (M : zzMd), zz_ev tX2_relist 28 L (.int a0 :: .ref 7 :: r) M = bif zz_cat8 r then zz_backN (zz_ev tX2_relist) 31 L r (fX2_isOwnKey [.ref 7, .int a0] M) else none) ∧
  (∀ (L : zzLc) (a0 : Int32) (r : List Value) (M : zzMd), zz_ev tX2_relist 28 L (.int a0 :: .ref 10 :: r) M = bif zz_cat8 r then zz_backN (zz_ev tX2_relist) 31 L r (fX2_isOwnKey [.ref 10, .int a0] M) else none) ∧
  (∀ (L : zzLc) (a0 : Int32) (r : List Value) (M : zzMd), zz_ev tX2_relist 28 L (.int a0 :: .ref 6 :: r) M = bif zz_cat8 r then zz_backN (zz_ev tX2_relist) 31 L r (fX2_isOwnKey [.ref 6, .int a0] M) else none) ∧
  (∀ L st M, zz_ev tX2_relist 31 L st M = zo_if (fun x => decide (x = 0)) 39 34 (zz_ev tX2_relist) L st M) ∧
  (∀ L st M, zz_ev tX2_relist 34 L st M = zo_aload 0 35 (zz_ev tX2_relist) L st M) ∧
  (∀ L st M, zz_ev tX2_relist 35 L st M = zo_iload 1 36 (zz_ev tX2_relist) L st M) ∧
  (∀ (L : zzLc) (a0 : Int32) (r : List Value) (M : zzMd), zz_ev tX2_relist 36 L (.int a0 :: .ref 8 :: r) M = bif zz_cat8 r then zz_backN (zz_ev tX2_relist) 39 L r (fX2_enqueue [.ref 8, .int a0] M) else none) ∧
  (∀ (L : zzLc) (a0 : Int32) (r : List Value) (M : zzMd), zz_ev tX2_relist 36 L (.int a0 :: .ref 3 :: r) M = bif zz_cat8 r then zz_backN (zz_ev tX2_relist) 39 L r (fX2_enqueue [.ref 3, .int a0] M) else none) ∧
  (∀ (L : zzLc) (a0 : Int32) (r : List Value) (M : zzMd), zz_ev tX2_relist 36 L (.int a0 :: .ref 4 :: r) M = bif zz_cat8 r then zz_backN (zz_ev tX2_relist) 39 L r (fX2_enqueue [.ref 4, .int a0] M) else none) ∧
  (∀ (L : zzLc) (a0 : Int32) (r : List Value) (M : zzMd), zz_ev tX2_relist 36 L (.int a0 :: .ref 5 :: r) M = bif zz_cat8 r then zz_backN (zz_ev tX2_relist) 39 L r (fX2_enqueue [.ref 5, .int a0] M) else none) ∧
  (∀ (L : zzLc) (a0 : Int32) (r : List Value) (M : zzMd), zz_ev tX2_relist 36 L (.int a0 :: .ref 9 :: r) M = bif zz_cat8 r then zz_backN (zz_ev tX2_relist) 39 L r (fX2_enqueue [.ref 9, .int a0] M) else none) ∧
  (∀ (L : zzLc) (a0 : Int32) (r : List Value) (M : zzMd), zz_ev tX2_relist 36 L (.int a0 :: .ref 7 :: r) M = bif zz_cat8 r then zz_backN (zz_ev tX2_relist) 39 L r (fX2_enqueue [.ref 7, .int a0] M) else none) ∧
  (∀ (L : zzLc) (a0 : Int32) (r : List Value) (M : zzMd), zz_ev tX2_relist 36 L (.int a0 :: .ref 10 :: r) M = bif zz_cat8 r then zz_backN (zz_ev tX2_relist) 39 L r (fX2_enqueue [.ref 10, .int a0] M) else none) ∧
  (∀ (L : zzLc) (a0 : Int32) (r : List Value) (M : zzMd), zz_ev tX2_relist 36 L (.int a0 :: .ref 6 :: r) M = bif zz_cat8 r then zz_backN (zz_ev tX2_relist) 39 L r (fX2_enqueue [.ref 6, .int a0] M) else none) ∧
  (∀ L st M, zz_ev tX2_relist 39 L st M = zo_iinc 1 1 42 (zz_ev tX2_relist) L st M) ∧
  (∀ L st M, zz_ev tX2_relist 42 L st M = zo_goto 10 (zz_ev tX2_relist) L st M) ∧
  (∀ L st M, zz_ev tX2_relist 45 L st M = zo_ret (zz_ev tX2_relist) L st M) :=
  ⟨zz_1 rfl tl_X2_relist, zz_1 rfl tl_X2_relist, fun L r M => (zz_1 rfl tl_X2_relist _ _ _).trans rfl, fun L r M => (zz_1 rfl tl_X2_relist _ _ _).trans rfl, fun L r M => (zz_1 rfl tl_X2_relist _ _ _).trans rfl, fun L r M => (zz_1 rfl tl_X2_relist _ _ _).trans rfl, fun L r M => (zz_1 rfl tl_X2_relist _ _ _).trans rfl, fun L r M => (zz_1 rfl tl_X2_relist _ _ _).trans rfl, fun L r M => (zz_1 rfl tl_X2_relist _ _ _).trans rfl, fun L r M => (zz_1 rfl tl_X2_relist _ _ _).trans rfl, fun L a0 r M => (zz_1 rfl tl_X2_relist _ _ _).trans rfl, fun L a0 r M => (zz_1 rfl tl_X2_relist _ _ _).trans rfl, fun L a0 r M => (zz_1 rfl tl_X2_relist _ _ _).trans rfl, fun L a0 r M => (zz_1 rfl tl_X2_relist _ _ _).trans rfl, fun L a0 r M => (zz_1 rfl tl_X2_relist _ _ _).trans rfl, fun L a0 r M => (zz_1 rfl tl_X2_relist _ _ _).trans rfl, fun L a0 r M => (zz_1 rfl tl_X2_relist _ _ _).trans rfl, fun L a0 r M => (zz_1 rfl tl_X2_relist _ _ _).trans rfl, zz_1 rfl tl_X2_relist, zz_1 rfl tl_X2_relist, zz_1 rfl tl_X2_relist, fun L r M => (zz_1 rfl tl_X2_relist _ _ _).trans rfl, fun L r M => (zz_1 rfl tl_X2_relist _ _ _).trans rfl, fun L r M => (zz_1 rfl tl_X2_relist _ _ _).trans rfl, fun L r M => (zz_1 rfl tl_X2_relist _ _ _).trans rfl, fun L r M => (zz_1 rfl tl_X2_relist _ _ _).trans rfl, fun L r M => (zz_1 rfl tl_X2_relist _ _ _).trans rfl, fun L r M => (zz_1 rfl tl_X2_relist _ _ _).trans rfl, fun L r M => (zz_1 rfl tl_X2_relist _ _ _).trans rfl, zz_1 rfl tl_X2_relist, zz_1 rfl tl_X2_relist, zz_1 rfl tl_X2_relist, fun L a0 r M => (zz_1 rfl tl_X2_relist _ _ _).trans rfl, fun L a0 r M => (zz_1 rfl tl_X2_relist _ _ _).trans rfl, fun L a0 r M => (zz_1 rfl tl_X2_relist _ _ _).trans rfl, fun L a0 r M => (zz_1 rfl tl_X2_relist _ _ _).trans rfl, fun L a0 r M => (zz_1 rfl tl_X2_relist _ _ _).trans rfl, fun L a0 r M => (zz_1 rfl tl_X2_relist _ _ _).trans rfl, fun L a0 r M => (zz_1 rfl tl_X2_relist _ _ _).trans rfl, fun L a0 r M => (zz_1 rfl tl_X2_relist _ _ _).trans rfl, zz_1 rfl tl_X2_relist, zz_1 rfl tl_X2_relist, zz_1 rfl tl_X2_relist, fun L a0 r M => (zz_1 rfl tl_X2_relist _ _ _).trans rfl, fun L a0 r M => (zz_1 rfl tl_X2_relist _ _ _).trans rfl, fun L a0 r M => (zz_1 rfl tl_X2_relist _ _ _).trans rfl, fun L a0 r M => (zz_1 rfl tl_X2_relist _ _ _).trans rfl, fun L a0 r M => (zz_1 rfl tl_X2_relist _ _ _).trans rfl, fun L a0 r M => (zz_1 rfl tl_X2_relist _ _ _).trans rfl, fun L a0 r M => (zz_1 rfl tl_X2_relist _ _ _).trans rfl, fun L a0 r M => (zz_1 rfl tl_X2_relist _ _ _).trans rfl, zz_1 rfl tl_X2_relist, zz_1 rfl tl_X2_relist, zz_1 rfl tl_X2_relist, fun L a0 r M => (zz_1 rfl tl_X2_relist _ _ _).trans rfl, fun L a0 r M => (zz_1 rfl tl_X2_relist _ _ _).trans rfl, fun L a0 r M => (zz_1 rfl tl_X2_relist _ _ _).trans rfl, fun L a0 r M => (zz_1 rfl tl_X2_relist _ _ _).trans rfl, fun L a0 r M => (zz_1 rfl tl_X2_relist _ _ _).trans rfl, fun L a0 r M => (zz_1 rfl tl_X2_relist _ _ _).trans rfl, fun L a0 r M => (zz_1 rfl tl_X2_relist _ _ _).trans rfl, fun L a0 r M => (zz_1 rfl tl_X2_relist _ _ _).trans rfl, zz_1 rfl tl_X2_relist, zz_1 rfl tl_X2_relist, zz_1 rfl tl_X2_relist⟩
set_option maxRecDepth 100000 in
theorem e_X2_relist_10 : (∀ L st M, zz_ev tX2_relist 10 L st M = zo_iload 1 11 (zz_ev tX2_relist) L st M) := zz_1 rfl tl_X2_relist
set_option maxRecDepth 100000 in
theorem s_X2_relist (v : Nat) (M : zzMd) : fX2_relist [.ref v] M = zz_ev tX2_relist 0 [some (.ref v), none] [] M := rfl
set_option maxRecDepth 100000 in
theorem e_X3_queueOthers : (∀ L st M, zz_ev tX3_queueOthers 0 L st M = zo_aload 0 1 (zz_ev tX3_queueOthers) L st M) ∧
  (∀ L st M, zz_ev tX3_queueOthers 1 L st M = zo_iload 1 2 (zz_ev tX3_queueOthers) L st M) ∧
  (∀ L st M, zz_ev tX3_queueOthers 2 L st M = zo_pushI 23 4 (zz_ev tX3_queueOthers) L st M) ∧
  (∀ (L : zzLc) (a0 a1 : Int32) (r : List Value) (M : zzMd), zz_ev tX3_queueOthers 4 L (.int a1 :: .int a0 :: .ref 3 :: r) M = bif zz_cat8 r then zz_backN (zz_ev tX3_queueOthers) 7 L r (fX10_read [.ref 3, .int a0, .int a1] M) else none) ∧
  (∀ L st M, zz_ev tX3_queueOthers 7 L st M = zo_pushI 1 8 (zz_ev tX3_queueOthers) L st M) ∧
  (∀ L st M, zz_ev tX3_queueOthers 8 L st M = zo_icmp (fun x y => decide (¬ x = y)) 16 11 (zz_ev tX3_queueOthers) L st M) ∧
  (∀ L st M, zz_ev tX3_queueOthers 11 L st M = zo_aload 0 12 (zz_ev tX3_queueOthers) L st M) ∧
  (∀ L st M, zz_ev tX3_queueOthers 12 L st M = zo_iload 2 13 (zz_ev tX3_queueOthers) L st M) ∧
  (∀ (L : zzLc) (a0 : Int32) (r : List Value) (M : zzMd), zz_ev tX3_queueOthers 13 L (.int a0 :: .ref 3 :: r) M = bif zz_cat8 r then zz_backN (zz_ev tX3_queueOthers) 16 L r (fX2_enqueue [.ref 3, .int a0] M) else none) ∧
  (∀ L st M, zz_ev tX3_queueOthers 16 L st M = zo_aload 0 17 (zz_ev tX3_queueOthers) L st M) ∧
  (∀ L st M, zz_ev tX3_queueOthers 17 L st M = zo_iload 1 18 (zz_ev tX3_queueOthers) L st M) ∧
  (∀ L st M, zz_ev tX3_queueOthers 18 L st M = zo_pushI 23 20 (zz_ev tX3_queueOthers) L st M) ∧
  (∀ (L : zzLc) (a0 a1 : Int32) (r : List Value) (M : zzMd), zz_ev tX3_queueOthers 20 L (.int a1 :: .int a0 :: .ref 3 :: r) M = bif zz_cat8 r then zz_backN (zz_ev tX3_queueOthers) 23 L r (fX10_read [.ref 3, .int a0, .int a1] M) else none) ∧
  (∀ L st M, zz_ev tX3_queueOthers 23 L st M = zo_pushI 2 24 (zz_ev tX3_queueOthers) L st M) ∧
  (∀ L st M, zz_ev tX3_queueOthers 24 L st M = zo_icmp (fun x y => decide (¬ x = y)) 49 27 (zz_ev tX3_queueOthers) L st M) ∧
  (∀ L st M, zz_ev tX3_queueOthers 27 L st M = zo_aload 0 28 (zz_ev tX3_queueOthers) L st M) ∧
  (∀ L st M, zz_ev tX3_queueOthers 28 L st M = zo_iload 2 29 (zz_ev tX3_queueOthers) L st M) ∧
  (∀ L st M, zz_ev tX3_queueOthers 29 L st M = zo_pushI 23 31 (zz_ev tX3_queueOthers) L st M) ∧
  (∀ (L : zzLc) (a0 a1 : Int32) (r : List Value) (M : zzMd), zz_ev tX3_queueOthers 31 L (.int a1 :: .int a0 :: .ref 3 :: r) M = bif zz_cat8 r then zz_backN (zz_ev tX3_queueOthers) 34 L r (fX10_read [.ref 3, .int a0, .int a1] M) else none) ∧
  (∀ L st M, zz_ev tX3_queueOthers 34 L st M = zo_pushI 1 35 (zz_ev tX3_queueOthers) L st M) ∧
  (∀ L st M, zz_ev tX3_queueOthers 35 L st M = zo_icmp (fun x y => decide (¬ x = y)) 49 38 (zz_ev tX3_queueOthers) L st M) ∧
  (∀ L st M, zz_ev tX3_queueOthers 38 L st M = zo_aload 0 39 (zz_ev tX3_queueOthers) L st M) ∧
  (∀ L st M, zz_ev tX3_queueOthers 39 L st M = zo_aload 0 40 (zz_ev tX3_queueOthers) L st M) ∧
  (∀ L st M, zz_ev tX3_queueOthers 40 L st M = zo_iload 2 41 (zz_ev tX3_queueOthers) L st M) ∧
  (∀ L st M, zz_ev tX3_queueOthers 41 L st M = zo_pushI 24 43 (zz_ev tX3_queueOthers) L st M) ∧
  (∀ (L : zzLc) (a0 a1 : Int32) (r : List Value) (M : zzMd), zz_ev tX3_queueOthers 43 L (.int a1 :: .int a0 :: .ref 3 :: r) M = bif zz_cat8 r then zz_backN (zz_ev tX3_queueOthers) 46 L r (fX10_read [.ref 3, .int a0, .int a1] M) else none) ∧
  (∀ (L : zzLc) (a0 : Int32) (r : List Value) (M : zzMd), zz_ev tX3_queueOthers 46 L (.int a0 :: .ref 3 :: r) M = bif zz_cat8 r then zz_backN (zz_ev tX3_queueOthers) 49 L r (fX2_enqueue [.ref 3, .int a0] M) else none) ∧
  (∀ L st M, zz_ev tX3_queueOthers 49 L st M = zo_ret (zz_ev tX3_queueOthers) L st M) :=
  ⟨zz_1 rfl tl_X3_queueOthers, zz_1 rfl tl_X3_queueOthers, zz_1 rfl tl_X3_queueOthers, fun L a0 a1 r M => (zz_1 rfl tl_X3_queueOthers _ _ _).trans rfl, zz_1 rfl tl_X3_queueOthers, zz_1 rfl tl_X3_queueOthers, zz_1 rfl tl_X3_queueOthers, zz_1 rfl tl_X3_queueOthers, fun L a0 r M => (zz_1 rfl tl_X3_queueOthers _ _ _).trans rfl, zz_1 rfl tl_X3_queueOthers, zz_1 rfl tl_X3_queueOthers, zz_1 rfl tl_X3_queueOthers, fun L a0 a1 r M => (zz_1 rfl tl_X3_queueOthers _ _ _).trans rfl, zz_1 rfl tl_X3_queueOthers, zz_1 rfl tl_X3_queueOthers, zz_1 rfl tl_X3_queueOthers, zz_1 rfl tl_X3_queueOthers, zz_1 rfl tl_X3_queueOthers, fun L a0 a1 r M => (zz_1 rfl tl_X3_queueOthers _ _ _).trans rfl, zz_1 rfl tl_X3_queueOthers, zz_1 rfl tl_X3_queueOthers, zz_1 rfl tl_X3_queueOthers, zz_1 rfl tl_X3_queueOthers, zz_1 rfl tl_X3_queueOthers, zz_1 rfl tl_X3_queueOthers, fun L a0 a1 r M => (zz_1 rfl tl_X3_queueOthers _ _ _).trans rfl, fun L a0 r M => (zz_1 rfl tl_X3_queueOthers _ _ _).trans rfl, zz_1 rfl tl_X3_queueOthers⟩
set_option maxRecDepth 100000 in
theorem s_X3_queueOthers (a0 a1 : Int32) (v : Nat) (M : zzMd) : fX3_queueOthers [.ref v, .int a0, .int a1] M = zz_ev tX3_queueOthers 0 [some (.ref v), some (.int a0), some (.int a1)] [] M := rfl
set_option maxRecDepth 100000 in
theorem e_X4_queueOthers : (∀ L st M, zz_ev tX4_queueOthers 0 L st M = zo_aload 0 1 (zz_ev tX4_queueOthers) L st M) ∧
  (∀ L st M, zz_ev tX4_queueOthers 1 L st M = zo_iload 1 2 (zz_ev tX4_queueOthers) L st M) ∧
  (∀ L st M, zz_ev tX4_queueOthers 2 L st M = zo_pushI 23 4 (zz_ev tX4_queueOthers) L st M) ∧
  (∀ (L : zzLc) (a0 a1 : Int32) (r : List Value) (M : zzMd), zz_ev tX4_queueOthers 4 L (.int a1 :: .int a0 :: .ref 4 :: r) M = bif zz_cat8 r then zz_backN (zz_ev tX4_queueOthers) 7 L r (fX10_read [.ref 4, .int a0, .int a1] M) else none) ∧
  (∀ (L : zzLc) (a0 a1 : Int32) (r : List Value) (M : zzMd), zz_ev tX4_queueOthers 4 L (.int a1 :: .int a0 :: .ref 5 :: r) M = bif zz_cat8 r then zz_backN (zz_ev tX4_queueOthers) 7 L r (fX10_read [.ref 5, .int a0, .int a1] M) else none) ∧
  (∀ L st M, zz_ev tX4_queueOthers 7 L st M = zo_pushI 2 8 (zz_ev tX4_queueOthers) L st M) ∧
  (∀ L st M, zz_ev tX4_queueOthers 8 L st M = zo_icmp (fun x y => decide (¬ x = y)) 30 11 (zz_ev tX4_queueOthers) L st M) ∧
  (∀ L st M, zz_ev tX4_queueOthers 11 L st M = zo_aload 0 12 (zz_ev tX4_queueOthers) L st M) ∧
  (∀ L st M, zz_ev tX4_queueOthers 12 L st M = zo_iload 2 13 (zz_ev tX4_queueOthers) L st M) ∧
  (∀ L st M, zz_ev tX4_queueOthers 13 L st M = zo_pushI 23 15 (zz_ev tX4_queueOthers) L st M) ∧
  (∀ (L : zzLc) (a0 a1 : Int32) (r : List Value) (M : zzMd), zz_ev tX4_queueOthers 15 L (.int a1 :: .int a0 :: .ref 4 :: r) M = bif zz_cat8 r then zz_backN (zz_ev tX4_queueOthers) 18 L r (fX10_read [.ref 4, .int a0, .int a1] M) else none) ∧
  (∀ (L : zzLc) (a0 a1 : Int32) (r : List Value) (M : zzMd), zz_ev tX4_queueOthers 15 L (.int a1 :: .int a0 :: .ref 5 :: r) M = bif zz_cat8 r then zz_backN (zz_ev tX4_queueOthers) 18 L r (fX10_read [.ref 5, .int a0, .int a1] M) else none) ∧
  (∀ L st M, zz_ev tX4_queueOthers 18 L st M = zo_aload 0 19 (zz_ev tX4_queueOthers) L st M) ∧
  (∀ (L : zzLc) (r : List Value) (M : zzMd), zz_ev tX4_queueOthers 19 L (.ref 4 :: r) M = zz_ev tX4_queueOthers 22 L (.int (M.1 4 5) :: r) M) ∧
  (∀ (L : zzLc) (r : List Value) (M : zzMd), zz_ev tX4_queueOthers 19 L (.ref 5 :: r) M = zz_ev tX4_queueOthers 22 L (.int (M.1 5 5) :: r) M) ∧
  (∀ L st M, zz_ev tX4_queueOthers 22 L st M = zo_icmp (fun x y => decide (¬ x = y)) 30 25 (zz_ev tX4_queueOthers) L st M) ∧
  (∀ L st M, zz_ev tX4_queueOthers 25 L st M = zo_aload 0 26 (zz_ev tX4_queueOthers) L st M) ∧
  (∀ L st M, zz_ev tX4_queueOthers 26 L st M = zo_iload 2 27 (zz_ev tX4_queueOthers) L st M) ∧
  (∀ (L : zzLc) (a0 : Int32) (r : List Value) (M : zzMd), zz_ev tX4_queueOthers 27 L (.int a0 :: .ref 4 :: r) M = bif zz_cat8 r then zz_backN (zz_ev tX4_queueOthers) 30 L r (fX2_enqueue [.ref 4, .int a0] M) else none) ∧
  (∀ (L : zzLc) (a0 : Int32) (r : List Value) (M : zzMd), zz_ev tX4_queueOthers 27 L (.int a0 :: .ref 5 :: r) M = bif zz_cat8 r then zz_backN (zz_ev tX4_queueOthers) 30 L r (fX2_enqueue [.ref 5, .int a0] M) else none) ∧
  (∀ L st M, zz_ev tX4_queueOthers 30 L st M = zo_ret (zz_ev tX4_queueOthers) L st M) :=
  ⟨zz_1 rfl tl_X4_queueOthers, zz_1 rfl tl_X4_queueOthers, zz_1 rfl tl_X4_queueOthers, fun L a0 a1 r M => (zz_1 rfl tl_X4_queueOthers _ _ _).trans rfl, fun L a0 a1 r M => (zz_1 rfl tl_X4_queueOthers _ _ _).trans rfl, zz_1 rfl tl_X4_queueOthers, zz_1 rfl tl_X4_queueOthers, zz_1 rfl tl_X4_queueOthers, zz_1 rfl tl_X4_queueOthers, zz_1 rfl tl_X4_queueOthers, fun L a0 a1 r M => (zz_1 rfl tl_X4_queueOthers _ _ _).trans rfl, fun L a0 a1 r M => (zz_1 rfl tl_X4_queueOthers _ _ _).trans rfl, zz_1 rfl tl_X4_queueOthers, fun L r M => (zz_1 rfl tl_X4_queueOthers _ _ _).trans rfl, fun L r M => (zz_1 rfl tl_X4_queueOthers _ _ _).trans rfl, zz_1 rfl tl_X4_queueOthers, zz_1 rfl tl_X4_queueOthers, zz_1 rfl tl_X4_queueOthers, fun L a0 r M => (zz_1 rfl tl_X4_queueOthers _ _ _).trans rfl, fun L a0 r M => (zz_1 rfl tl_X4_queueOthers _ _ _).trans rfl, zz_1 rfl tl_X4_queueOthers⟩
set_option maxRecDepth 100000 in
theorem s_X4_queueOthers (a0 a1 : Int32) (v : Nat) (M : zzMd) : fX4_queueOthers [.ref v, .int a0, .int a1] M = zz_ev tX4_queueOthers 0 [some (.ref v), some (.int a0), some (.int a1)] [] M := rfl
set_option maxRecDepth 100000 in
theorem e_X5_queueOthers : (∀ L st M, zz_ev tX5_queueOthers 0 L st M = zo_pushI 0 1 (zz_ev tX5_queueOthers) L st M) ∧
  (∀ L st M, zz_ev tX5_queueOthers 1 L st M = zo_istore 3 2 (zz_ev tX5_queueOthers) L st M) ∧
  (∀ L st M, zz_ev tX5_queueOthers 3 L st M = zo_aload 0 4 (zz_ev tX5_queueOthers) L st M) ∧
  (∀ (L : zzLc) (r : List Value) (M : zzMd), zz_ev tX5_queueOthers 4 L (.ref 9 :: r) M = zz_ev tX5_queueOthers 7 L (.int (M.1 9 2) :: r) M) ∧
  (∀ L st M, zz_ev tX5_queueOthers 7 L st M = zo_icmp (fun x y => decide (y ≤ x)) 51 10 (zz_ev tX5_queueOthers) L st M) ∧
  (∀ L st M, zz_ev tX5_queueOthers 10 L st M = zo_aload 0 11 (zz_ev tX5_queueOthers) L st M) ∧
  (∀ L st M, zz_ev tX5_queueOthers 11 L st M = zo_iload 1 12 (zz_ev tX5_queueOthers) L st M) ∧
  (∀ L st M, zz_ev tX5_queueOthers 12 L st M = zo_pushI 23 14 (zz_ev tX5_queueOthers) L st M) ∧
  (∀ (L : zzLc) (a0 a1 : Int32) (r : List Value) (M : zzMd), zz_ev tX5_queueOthers 14 L (.int a1 :: .int a0 :: .ref 9 :: r) M = bif zz_cat8 r then zz_backN (zz_ev tX5_queueOthers) 17 L r (fX10_read [.ref 9, .int a0, .int a1] M) else none) ∧
  (∀ L st M, zz_ev tX5_queueOthers 17 L st M = zo_pushI 2 18 (zz_ev tX5_queueOthers) L st M) ∧
  (∀ L st M, zz_ev tX5_queueOthers 18 L st M = zo_icmp (fun x y => decide (¬ x = y)) 51 21 (zz_ev tX5_queueOthers) L st M) ∧
  (∀ L st M, zz_ev tX5_queueOthers 21 L st M = zo_aload 0 22 (zz_ev tX5_queueOthers) L st M) ∧
  (∀ L st M, zz_ev tX5_queueOthers 22 L st M = zo_iload 3 23 (zz_ev tX5_queueOthers) L st M) ∧
  (∀ L st M, zz_ev tX5_queueOthers 23 L st M = zo_pushI 23 25 (zz_ev tX5_queueOthers) L st M) ∧
  (∀ (L : zzLc) (a0 a1 : Int32) (r : List Value) (M : zzMd), zz_ev tX5_queueOthers 25 L (.int a1 :: .int a0 :: .ref 9 :: r) M = bif zz_cat8 r then zz_backN (zz_ev tX5_queueOthers) 28 L r (fX10_read [.ref 9, .int a0, .int a1] M) else none) ∧
  (∀ L st M, zz_ev tX5_queueOthers 28 L st M = zo_pushI 5 29 (zz_ev tX5_queueOthers) L st M) ∧
  (∀ L st M, zz_ev tX5_queueOthers 29 L st M = zo_icmp (fun x y => decide (¬ x = y)) 45 32 (zz_ev tX5_queueOthers) L st M) ∧
  (∀ L st M, zz_ev tX5_queueOthers 32 L st M = zo_aload 0 33 (zz_ev tX5_queueOthers) L st M) ∧
  (∀ L st M, zz_ev tX5_queueOthers 33 L st M = zo_iload 3 34 (zz_ev tX5_queueOthers) L st M) ∧
  (∀ (L : zzLc) (a0 : Int32) (r : List Value) (M : zzMd), zz_ev tX5_queueOthers 34 L (.int a0 :: .ref 9 :: r) M = bif zz_cat8 r then zz_backN (zz_ev tX5_queueOthers) 37 L r (fX10_isGone [.ref 9, .int a0] M) else none) ∧
  (∀ L st M, zz_ev tX5_queueOthers 37 L st M = zo_if (fun x => decide (¬ x = 0)) 45 40 (zz_ev tX5_queueOthers) L st M) ∧
  (∀ L st M, zz_ev tX5_queueOthers 40 L st M = zo_aload 0 41 (zz_ev tX5_queueOthers) L st M) ∧
  (∀ L st M, zz_ev tX5_queueOthers 41 L st M = zo_iload 3 42 (zz_ev tX5_queueOthers) L st M) ∧
  (∀ (L : zzLc) (a0 : Int32) (r : List Value) (M : zzMd), zz_ev tX5_queueOthers 42 L (.int a0 :: .ref 9 :: r) M = bif zz_cat8 r then zz_backN (zz_ev tX5_queueOthers) 45 L r (fX2_enqueue [.ref 9, .int a0] M) else none) ∧
  (∀ L st M, zz_ev tX5_queueOthers 45 L st M = zo_iinc 3 1 48 (zz_ev tX5_queueOthers) L st M) ∧
  (∀ L st M, zz_ev tX5_queueOthers 48 L st M = zo_goto 2 (zz_ev tX5_queueOthers) L st M) ∧
  (∀ L st M, zz_ev tX5_queueOthers 51 L st M = zo_ret (zz_ev tX5_queueOthers) L st M) :=
  ⟨zz_1 rfl tl_X5_queueOthers, zz_1 rfl tl_X5_queueOthers, zz_1 rfl tl_X5_queueOthers, fun L r M => (zz_1 rfl tl_X5_queueOthers _ _ _).trans rfl, zz_1 rfl tl_X5_queueOthers, zz_1 rfl tl_X5_queueOthers, zz_1 rfl tl_X5_queueOthers, zz_1 rfl tl_X5_queueOthers, fun L a0 a1 r M => (zz_1 rfl tl_X5_queueOthers _ _ _).trans rfl, zz_1 rfl tl_X5_queueOthers, zz_1 rfl tl_X5_queueOthers, zz_1 rfl tl_X5_queueOthers, zz_1 rfl tl_X5_queueOthers, zz_1 rfl tl_X5_queueOthers, fun L a0 a1 r M => (zz_1 rfl tl_X5_queueOthers _ _ _).trans rfl, zz_1 rfl tl_X5_queueOthers, zz_1 rfl tl_X5_queueOthers, zz_1 rfl tl_X5_queueOthers, zz_1 rfl tl_X5_queueOthers, fun L a0 r M => (zz_1 rfl tl_X5_queueOthers _ _ _).trans rfl, zz_1 rfl tl_X5_queueOthers, zz_1 rfl tl_X5_queueOthers, zz_1 rfl tl_X5_queueOthers, fun L a0 r M => (zz_1 rfl tl_X5_queueOthers _ _ _).trans rfl, zz_1 rfl tl_X5_queueOthers, zz_1 rfl tl_X5_queueOthers, zz_1 rfl tl_X5_queueOthers⟩
set_option maxRecDepth 100000 in
theorem e_X5_queueOthers_2 : (∀ L st M, zz_ev tX5_queueOthers 2 L st M = zo_iload 3 3 (zz_ev tX5_queueOthers) L st M) := zz_1 rfl tl_X5_queueOthers
set_option maxRecDepth 100000 in
theorem s_X5_queueOthers (a0 a1 : Int32) (v : Nat) (M : zzMd) : fX5_queueOthers [.ref v, .int a0, .int a1] M = zz_ev tX5_queueOthers 0 [some (.ref v), some (.int a0), some (.int a1), none] [] M := rfl
set_option maxRecDepth 100000 in
theorem e_X6_queueOthers : (∀ L st M, zz_ev tX6_queueOthers 0 L st M = zo_pushI 0 1 (zz_ev tX6_queueOthers) L st M) ∧
  (∀ L st M, zz_ev tX6_queueOthers 1 L st M = zo_istore 3 2 (zz_ev tX6_queueOthers) L st M) ∧
  (∀ L st M, zz_ev tX6_queueOthers 3 L st M = zo_aload 0 4 (zz_ev tX6_queueOthers) L st M) ∧
  (∀ (L : zzLc) (r : List Value) (M : zzMd), zz_ev tX6_queueOthers 4 L (.ref 7 :: r) M = zz_ev tX6_queueOthers 7 L (.int (M.1 7 2) :: r) M) ∧
  (∀ L st M, zz_ev tX6_queueOthers 7 L st M = zo_icmp (fun x y => decide (y ≤ x)) 54 10 (zz_ev tX6_queueOthers) L st M) ∧
  (∀ L st M, zz_ev tX6_queueOthers 10 L st M = zo_aload 0 11 (zz_ev tX6_queueOthers) L st M) ∧
  (∀ L st M, zz_ev tX6_queueOthers 11 L st M = zo_iload 1 12 (zz_ev tX6_queueOthers) L st M) ∧
  (∀ L st M, zz_ev tX6_queueOthers 12 L st M = zo_pushI 23 14 (zz_ev tX6_queueOthers) L st M) ∧
  (∀ (L : zzLc) (a0 a1 : Int32) (r : List Value) (M : zzMd), zz_ev tX6_queueOthers 14 L (.int a1 :: .int a0 :: .ref 7 :: r) M = bif zz_cat8 r then zz_backN (zz_ev tX6_queueOthers) 17 L r (fX10_read [.ref 7, .int a0, .int a1] M) else none) ∧
  (∀ L st M, zz_ev tX6_queueOthers 17 L st M = zo_pushI 4 18 (zz_ev tX6_queueOthers) L st M) ∧
  (∀ L st M, zz_ev tX6_queueOthers 18 L st M = zo_icmp (fun x y => decide (¬ x = y)) 54 21 (zz_ev tX6_queueOthers) L st M) ∧
  (∀ L st M, zz_ev tX6_queueOthers 21 L st M = zo_aload 0 22 (zz_ev tX6_queueOthers) L st M) ∧
  (∀ L st M, zz_ev tX6_queueOthers 22 L st M = zo_iload 3 23 (zz_ev tX6_queueOthers) L st M) ∧
  (∀ L st M, zz_ev tX6_queueOthers 23 L st M = zo_pushI 23 25 (zz_ev tX6_queueOthers) L st M) ∧
  (∀ (L : zzLc) (a0 a1 : Int32) (r : List Value) (M : zzMd), zz_ev tX6_queueOthers 25 L (.int a1 :: .int a0 :: .ref 7 :: r) M = bif zz_cat8 r then zz_backN (zz_ev tX6_queueOthers) 28 L r (fX10_read [.ref 7, .int a0, .int a1] M) else none) ∧
  (∀ L st M, zz_ev tX6_queueOthers 28 L st M = zo_pushI 2 29 (zz_ev tX6_queueOthers) L st M) ∧
  (∀ L st M, zz_ev tX6_queueOthers 29 L st M = zo_icmp (fun x y => decide (¬ x = y)) 48 32 (zz_ev tX6_queueOthers) L st M) ∧
  (∀ L st M, zz_ev tX6_queueOthers 32 L st M = zo_aload 0 33 (zz_ev tX6_queueOthers) L st M) ∧
  (∀ L st M, zz_ev tX6_queueOthers 33 L st M = zo_iload 3 34 (zz_ev tX6_queueOthers) L st M) ∧
  (∀ L st M, zz_ev tX6_queueOthers 34 L st M = zo_pushI 28 36 (zz_ev tX6_queueOthers) L st M) ∧
  (∀ (L : zzLc) (a0 a1 : Int32) (r : List Value) (M : zzMd), zz_ev tX6_queueOthers 36 L (.int a1 :: .int a0 :: .ref 7 :: r) M = bif zz_cat8 r then zz_backN (zz_ev tX6_queueOthers) 39 L r (fX10_read [.ref 7, .int a0, .int a1] M) else none) ∧
  (∀ L st M, zz_ev tX6_queueOthers 39 L st M = zo_iload 1 40 (zz_ev tX6_queueOthers) L st M) ∧
  (∀ L st M, zz_ev tX6_queueOthers 40 L st M = zo_icmp (fun x y => decide (¬ x = y)) 48 43 (zz_ev tX6_queueOthers) L st M) ∧
  (∀ L st M, zz_ev tX6_queueOthers 43 L st M = zo_aload 0 44 (zz_ev tX6_queueOthers) L st M) ∧
  (∀ L st M, zz_ev tX6_queueOthers 44 L st M = zo_iload 3 45 (zz_ev tX6_queueOthers) L st M) ∧
  (∀ (L : zzLc) (a0 : Int32) (r : List Value) (M : zzMd), zz_ev tX6_queueOthers 45 L (.int a0 :: .ref 7 :: r) M = bif zz_cat8 r then zz_backN (zz_ev tX6_queueOthers) 48 L r (fX2_enqueue [.ref 7, .int a0] M) else none) ∧
  (∀ L st M, zz_ev tX6_queueOthers 48 L st M = zo_iinc 3 1 51 (zz_ev tX6_queueOthers) L st M) ∧
  (∀ L st M, zz_ev tX6_queueOthers 51 L st M = zo_goto 2 (zz_ev tX6_queueOthers) L st M) ∧
  (∀ L st M, zz_ev tX6_queueOthers 54 L st M = zo_ret (zz_ev tX6_queueOthers) L st M) :=
  ⟨zz_1 rfl tl_X6_queueOthers, zz_1 rfl tl_X6_queueOthers, zz_1 rfl tl_X6_queueOthers, fun L r M => (zz_1 rfl tl_X6_queueOthers _ _ _).trans rfl, zz_1 rfl tl_X6_queueOthers, zz_1 rfl tl_X6_queueOthers, zz_1 rfl tl_X6_queueOthers, zz_1 rfl tl_X6_queueOthers, fun L a0 a1 r M => (zz_1 rfl tl_X6_queueOthers _ _ _).trans rfl, zz_1 rfl tl_X6_queueOthers, zz_1 rfl tl_X6_queueOthers, zz_1 rfl tl_X6_queueOthers, zz_1 rfl tl_X6_queueOthers, zz_1 rfl tl_X6_queueOthers, fun L a0 a1 r M => (zz_1 rfl tl_X6_queueOthers _ _ _).trans rfl, zz_1 rfl tl_X6_queueOthers, zz_1 rfl tl_X6_queueOthers, zz_1 rfl tl_X6_queueOthers, zz_1 rfl tl_X6_queueOthers, zz_1 rfl tl_X6_queueOthers, fun L a0 a1 r M => (zz_1 rfl tl_X6_queueOthers _ _ _).trans rfl, zz_1 rfl tl_X6_queueOthers, zz_1 rfl tl_X6_queueOthers, zz_1 rfl tl_X6_queueOthers, zz_1 rfl tl_X6_queueOthers, fun L a0 r M => (zz_1 rfl tl_X6_queueOthers _ _ _).trans rfl, zz_1 rfl tl_X6_queueOthers, zz_1 rfl tl_X6_queueOthers, zz_1 rfl tl_X6_queueOthers⟩
set_option maxRecDepth 100000 in
theorem e_X6_queueOthers_2 : (∀ L st M, zz_ev tX6_queueOthers 2 L st M = zo_iload 3 3 (zz_ev tX6_queueOthers) L st M) := zz_1 rfl tl_X6_queueOthers
set_option maxRecDepth 100000 in
theorem s_X6_queueOthers (a0 a1 : Int32) (v : Nat) (M : zzMd) : fX6_queueOthers [.ref v, .int a0, .int a1] M = zz_ev tX6_queueOthers 0 [some (.ref v), some (.int a0), some (.int a1), none] [] M := rfl
set_option maxRecDepth 100000 in
theorem e_X7_queueOthers : (∀ L st M, zz_ev tX7_queueOthers 0 L st M = zo_ret (zz_ev tX7_queueOthers) L st M) :=
  zz_1 rfl tl_X7_queueOthers
set_option maxRecDepth 100000 in
theorem s_X7_queueOthers (a0 a1 : Int32) (v : Nat) (M : zzMd) : fX7_queueOthers [.ref v, .int a0, .int a1] M = zz_ev tX7_queueOthers 0 [some (.ref v), some (.int a0), some (.int a1)] [] M := rfl
set_option maxRecDepth 100000 in
theorem e_X8_isWithoutPlace : (∀ L st M, zz_ev tX8_isWithoutPlace 0 L st M = zo_aload 0 1 (zz_ev tX8_isWithoutPlace) L st M) ∧
  (∀ L st M, zz_ev tX8_isWithoutPlace 1 L st M = zo_iload 1 2 (zz_ev tX8_isWithoutPlace) L st M) ∧
  (∀ L st M, zz_ev tX8_isWithoutPlace 2 L st M = zo_pushI 2 3 (zz_ev tX8_isWithoutPlace) L st M) ∧
  (∀ (L : zzLc) (a0 a1 : Int32) (r : List Value) (M : zzMd), zz_ev tX8_isWithoutPlace 3 L (.int a1 :: .int a0 :: .ref 6 :: r) M = bif zz_cat8 r then zz_backN (zz_ev tX8_isWithoutPlace) 6 L r (fX10_isStaying [.ref 6, .int a0, .int a1] M) else none) ∧
  (∀ L st M, zz_ev tX8_isWithoutPlace 6 L st M = zo_if (fun x => decide (x = 0)) 34 9 (zz_ev tX8_isWithoutPlace) L st M) ∧
  (∀ L st M, zz_ev tX8_isWithoutPlace 9 L st M = zo_aload 0 10 (zz_ev tX8_isWithoutPlace) L st M) ∧
  (∀ L st M, zz_ev tX8_isWithoutPlace 10 L st M = zo_iload 1 11 (zz_ev tX8_isWithoutPlace) L st M) ∧
  (∀ L st M, zz_ev tX8_isWithoutPlace 11 L st M = zo_pushI 29 13 (zz_ev tX8_isWithoutPlace) L st M) ∧
  (∀ (L : zzLc) (a0 a1 : Int32) (r : List Value) (M : zzMd), zz_ev tX8_isWithoutPlace 13 L (.int a1 :: .int a0 :: .ref 6 :: r) M = bif zz_cat8 r then zz_backN (zz_ev tX8_isWithoutPlace) 16 L r (fX10_read [.ref 6, .int a0, .int a1] M) else none) ∧
  (∀ L st M, zz_ev tX8_isWithoutPlace 16 L st M = zo_if (fun x => decide (¬ x = 0)) 34 19 (zz_ev tX8_isWithoutPlace) L st M) ∧
  (∀ L st M, zz_ev tX8_isWithoutPlace 19 L st M = zo_aload 0 20 (zz_ev tX8_isWithoutPlace) L st M) ∧
  (∀ L st M, zz_ev tX8_isWithoutPlace 20 L st M = zo_iload 1 21 (zz_ev tX8_isWithoutPlace) L st M) ∧
  (∀ L st M, zz_ev tX8_isWithoutPlace 21 L st M = zo_pushI 28 23 (zz_ev tX8_isWithoutPlace) L st M) ∧
  (∀ (L : zzLc) (a0 a1 : Int32) (r : List Value) (M : zzMd), zz_ev tX8_isWithoutPlace 23 L (.int a1 :: .int a0 :: .ref 6 :: r) M = bif zz_cat8 r then zz_backN (zz_ev tX8_isWithoutPlace) 26 L r (fX10_read [.ref 6, .int a0, .int a1] M) else none) ∧
  (∀ L st M, zz_ev tX8_isWithoutPlace 26 L st M = zo_pushI (-1) 27 (zz_ev tX8_isWithoutPlace) L st M) ∧
  (∀ L st M, zz_ev tX8_isWithoutPlace 27 L st M = zo_icmp (fun x y => decide (¬ x = y)) 34 30 (zz_ev tX8_isWithoutPlace) L st M) ∧
  (∀ L st M, zz_ev tX8_isWithoutPlace 30 L st M = zo_pushI 1 31 (zz_ev tX8_isWithoutPlace) L st M) ∧
  (∀ L st M, zz_ev tX8_isWithoutPlace 31 L st M = zo_goto 35 (zz_ev tX8_isWithoutPlace) L st M) ∧
  (∀ L st M, zz_ev tX8_isWithoutPlace 34 L st M = zo_pushI 0 35 (zz_ev tX8_isWithoutPlace) L st M) ∧
  (∀ L st M, zz_ev tX8_isWithoutPlace 35 L st M = zo_iret true (zz_ev tX8_isWithoutPlace) L st M) :=
  ⟨zz_1 rfl tl_X8_isWithoutPlace, zz_1 rfl tl_X8_isWithoutPlace, zz_1 rfl tl_X8_isWithoutPlace, fun L a0 a1 r M => (zz_1 rfl tl_X8_isWithoutPlace _ _ _).trans rfl, zz_1 rfl tl_X8_isWithoutPlace, zz_1 rfl tl_X8_isWithoutPlace, zz_1 rfl tl_X8_isWithoutPlace, zz_1 rfl tl_X8_isWithoutPlace, fun L a0 a1 r M => (zz_1 rfl tl_X8_isWithoutPlace _ _ _).trans rfl, zz_1 rfl tl_X8_isWithoutPlace, zz_1 rfl tl_X8_isWithoutPlace, zz_1 rfl tl_X8_isWithoutPlace, zz_1 rfl tl_X8_isWithoutPlace, fun L a0 a1 r M => (zz_1 rfl tl_X8_isWithoutPlace _ _ _).trans rfl, zz_1 rfl tl_X8_isWithoutPlace, zz_1 rfl tl_X8_isWithoutPlace, zz_1 rfl tl_X8_isWithoutPlace, zz_1 rfl tl_X8_isWithoutPlace, zz_1 rfl tl_X8_isWithoutPlace, zz_1 rfl tl_X8_isWithoutPlace⟩
set_option maxRecDepth 100000 in
theorem s_X8_isWithoutPlace (a0 : Int32) (v : Nat) (M : zzMd) : fX8_isWithoutPlace [.ref v, .int a0] M = zz_ev tX8_isWithoutPlace 0 [some (.ref v), some (.int a0)] [] M := rfl
set_option maxRecDepth 100000 in
theorem e_X8_queueOthers : (∀ L st M, zz_ev tX8_queueOthers 0 L st M = zo_pushI 0 1 (zz_ev tX8_queueOthers) L st M) ∧
  (∀ L st M, zz_ev tX8_queueOthers 1 L st M = zo_istore 3 2 (zz_ev tX8_queueOthers) L st M) ∧
  (∀ L st M, zz_ev tX8_queueOthers 3 L st M = zo_aload 0 4 (zz_ev tX8_queueOthers) L st M) ∧
  (∀ (L : zzLc) (r : List Value) (M : zzMd), zz_ev tX8_queueOthers 4 L (.ref 6 :: r) M = zz_ev tX8_queueOthers 7 L (.int (M.1 6 2) :: r) M) ∧
  (∀ L st M, zz_ev tX8_queueOthers 7 L st M = zo_icmp (fun x y => decide (y ≤ x)) 40 10 (zz_ev tX8_queueOthers) L st M) ∧
  (∀ L st M, zz_ev tX8_queueOthers 10 L st M = zo_aload 0 11 (zz_ev tX8_queueOthers) L st M) ∧
  (∀ L st M, zz_ev tX8_queueOthers 11 L st M = zo_iload 1 12 (zz_ev tX8_queueOthers) L st M) ∧
  (∀ L st M, zz_ev tX8_queueOthers 12 L st M = zo_pushI 23 14 (zz_ev tX8_queueOthers) L st M) ∧
  (∀ (L : zzLc) (a0 a1 : Int32) (r : List Value) (M : zzMd), zz_ev tX8_queueOthers 14 L (.int a1 :: .int a0 :: .ref 6 :: r) M = bif zz_cat8 r then zz_backN (zz_ev tX8_queueOthers) 17 L r (fX10_read [.ref 6, .int a0, .int a1] M) else none) ∧
  (∀ L st M, zz_ev tX8_queueOthers 17 L st M = zo_pushI 4 18 (zz_ev tX8_queueOthers) L st M) ∧
  (∀ L st M, zz_ev tX8_queueOthers 18 L st M = zo_icmp (fun x y => decide (¬ x = y)) 40 21 (zz_ev tX8_queueOthers) L st M) ∧
  (∀ L st M, zz_ev tX8_queueOthers 21 L st M = zo_aload 0 22 (zz_ev tX8_queueOthers) L st M) ∧
  (∀ L st M, zz_ev tX8_queueOthers 22 L st M = zo_iload 3 23 (zz_ev tX8_queueOthers) L st M) ∧
  (∀ (L : zzLc) (a0 : Int32) (r : List Value) (M : zzMd), zz_ev tX8_queueOthers 23 L (.int a0 :: .ref 6 :: r) M = bif zz_cat8 r then zz_backN (zz_ev tX8_queueOthers) 26 L r (fX8_isWithoutPlace [.ref 6, .int a0] M) else none) ∧
  (∀ L st M, zz_ev tX8_queueOthers 26 L st M = zo_if (fun x => decide (x = 0)) 34 29 (zz_ev tX8_queueOthers) L st M) ∧
  (∀ L st M, zz_ev tX8_queueOthers 29 L st M = zo_aload 0 30 (zz_ev tX8_queueOthers) L st M) ∧
  (∀ L st M, zz_ev tX8_queueOthers 30 L st M = zo_iload 3 31 (zz_ev tX8_queueOthers) L st M) ∧
  (∀ (L : zzLc) (a0 : Int32) (r : List Value) (M : zzMd), zz_ev tX8_queueOthers 31 L (.int a0 :: .ref 6 :: r) M = bif zz_cat8 r then zz_backN (zz_ev tX8_queueOthers) 34 L r (fX2_enqueue [.ref 6, .int a0] M) else none) ∧
  (∀ L st M, zz_ev tX8_queueOthers 34 L st M = zo_iinc 3 1 37 (zz_ev tX8_queueOthers) L st M) ∧
  (∀ L st M, zz_ev tX8_queueOthers 37 L st M = zo_goto 2 (zz_ev tX8_queueOthers) L st M) ∧
  (∀ L st M, zz_ev tX8_queueOthers 40 L st M = zo_ret (zz_ev tX8_queueOthers) L st M) :=
  ⟨zz_1 rfl tl_X8_queueOthers, zz_1 rfl tl_X8_queueOthers, zz_1 rfl tl_X8_queueOthers, fun L r M => (zz_1 rfl tl_X8_queueOthers _ _ _).trans rfl, zz_1 rfl tl_X8_queueOthers, zz_1 rfl tl_X8_queueOthers, zz_1 rfl tl_X8_queueOthers, zz_1 rfl tl_X8_queueOthers, fun L a0 a1 r M => (zz_1 rfl tl_X8_queueOthers _ _ _).trans rfl, zz_1 rfl tl_X8_queueOthers, zz_1 rfl tl_X8_queueOthers, zz_1 rfl tl_X8_queueOthers, zz_1 rfl tl_X8_queueOthers, fun L a0 r M => (zz_1 rfl tl_X8_queueOthers _ _ _).trans rfl, zz_1 rfl tl_X8_queueOthers, zz_1 rfl tl_X8_queueOthers, zz_1 rfl tl_X8_queueOthers, fun L a0 r M => (zz_1 rfl tl_X8_queueOthers _ _ _).trans rfl, zz_1 rfl tl_X8_queueOthers, zz_1 rfl tl_X8_queueOthers, zz_1 rfl tl_X8_queueOthers⟩
set_option maxRecDepth 100000 in
theorem e_X8_queueOthers_2 : (∀ L st M, zz_ev tX8_queueOthers 2 L st M = zo_iload 3 3 (zz_ev tX8_queueOthers) L st M) := zz_1 rfl tl_X8_queueOthers
set_option maxRecDepth 100000 in
theorem s_X8_queueOthers (a0 a1 : Int32) (v : Nat) (M : zzMd) : fX8_queueOthers [.ref v, .int a0, .int a1] M = zz_ev tX8_queueOthers 0 [some (.ref v), some (.int a0), some (.int a1), none] [] M := rfl
set_option maxRecDepth 100000 in
theorem e_X2_lookAtNext : (∀ L st M, zz_ev tX2_lookAtNext 0 L st M = zo_aload 0 1 (zz_ev tX2_lookAtNext) L st M) ∧
  (∀ (L : zzLc) (r : List Value) (M : zzMd), zz_ev tX2_lookAtNext 1 L (.ref 3 :: r) M = zz_ev tX2_lookAtNext 4 L (.int (M.1 3 3) :: r) M) ∧
  (∀ (L : zzLc) (r : List Value) (M : zzMd), zz_ev tX2_lookAtNext 1 L (.ref 4 :: r) M = zz_ev tX2_lookAtNext 4 L (.int (M.1 4 3) :: r) M) ∧
  (∀ (L : zzLc) (r : List Value) (M : zzMd), zz_ev tX2_lookAtNext 1 L (.ref 5 :: r) M = zz_ev tX2_lookAtNext 4 L (.int (M.1 5 3) :: r) M) ∧
  (∀ (L : zzLc) (r : List Value) (M : zzMd), zz_ev tX2_lookAtNext 1 L (.ref 6 :: r) M = zz_ev tX2_lookAtNext 4 L (.int (M.1 6 3) :: r) M) ∧
  (∀ (L : zzLc) (r : List Value) (M : zzMd), zz_ev tX2_lookAtNext 1 L (.ref 7 :: r) M = zz_ev tX2_lookAtNext 4 L (.int (M.1 7 3) :: r) M) ∧
  (∀ (L : zzLc) (r : List Value) (M : zzMd), zz_ev tX2_lookAtNext 1 L (.ref 8 :: r) M = zz_ev tX2_lookAtNext 4 L (.int (M.1 8 3) :: r) M) ∧
  (∀ (L : zzLc) (r : List Value) (M : zzMd), zz_ev tX2_lookAtNext 1 L (.ref 9 :: r) M = zz_ev tX2_lookAtNext 4 L (.int (M.1 9 3) :: r) M) ∧
  (∀ (L : zzLc) (r : List Value) (M : zzMd), zz_ev tX2_lookAtNext 1 L (.ref 10 :: r) M = zz_ev tX2_lookAtNext 4 L (.int (M.1 10 3) :: r) M) ∧
  (∀ L st M, zz_ev tX2_lookAtNext 4 L st M = zo_pushI 1 5 (zz_ev tX2_lookAtNext) L st M) ∧
  (∀ L st M, zz_ev tX2_lookAtNext 5 L st M = zo_ii (fun x y => x + y) 6 (zz_ev tX2_lookAtNext) L st M) ∧
  (∀ L st M, zz_ev tX2_lookAtNext 6 L st M = zo_istore 1 7 (zz_ev tX2_lookAtNext) L st M) ∧
  (∀ L st M, zz_ev tX2_lookAtNext 7 L st M = zo_aload 0 8 (zz_ev tX2_lookAtNext) L st M) ∧
  (∀ L st M, zz_ev tX2_lookAtNext 8 L st M = zo_iload 1 9 (zz_ev tX2_lookAtNext) L st M) ∧
  (∀ (L : zzLc) (a0 : Int32) (r : List Value) (M : zzMd), zz_ev tX2_lookAtNext 9 L (.int a0 :: .ref 8 :: r) M = bif zz_cat8 r then zz_backN (zz_ev tX2_lookAtNext) 12 L r (fX10_objectAt [.ref 8, .int a0] M) else none) ∧
  (∀ (L : zzLc) (a0 : Int32) (r : List Value) (M : zzMd), zz_ev tX2_lookAtNext 9 L (.int a0 :: .ref 3 :: r) M = bif zz_cat8 r then zz_backN (zz_ev tX2_lookAtNext) 12 L r (fX10_objectAt [.ref 3, .int a0] M) else none) ∧
  (∀ (L : zzLc) (a0 : Int32) (r : List Value) (M : zzMd), zz_ev tX2_lookAtNext 9 L (.int a0 :: .ref 4 :: r) M = bif zz_cat8 r then zz_backN (zz_ev tX2_lookAtNext) 12 L r (fX10_objectAt [.ref 4, .int a0] M) else none) ∧
  (∀ (L : zzLc) (a0 : Int32) (r : List Value) (M : zzMd), zz_ev tX2_lookAtNext 9 L (.int a0 :: .ref 5 :: r) M = bif zz_cat8 r then zz_backN (zz_ev tX2_lookAtNext) 12 L r (fX10_objectAt [.ref 5, .int a0] M) else none) ∧
  (∀ (L : zzLc) (a0 : Int32) (r : List Value) (M : zzMd), zz_ev tX2_lookAtNext 9 L (.int a0 :: .ref 9 :: r) M = bif zz_cat8 r then zz_backN (zz_ev tX2_lookAtNext) 12 L r (fX10_objectAt [.ref 9, .int a0] M) else none) ∧
  (∀ (L : zzLc) (a0 : Int32) (r : List Value) (M : zzMd), zz_ev tX2_lookAtNext 9 L (.int a0 :: .ref 7 :: r) M = bif zz_cat8 r then zz_backN (zz_ev tX2_lookAtNext) 12 L r (fX10_objectAt [.ref 7, .int a0] M) else none) ∧
  (∀ (L : zzLc) (a0 : Int32) (r : List Value) (M : zzMd), zz_ev tX2_lookAtNext 9 L (.int a0 :: .ref 10 :: r) M = bif zz_cat8 r then zz_backN (zz_ev tX2_lookAtNext) 12 L r (fX10_objectAt [.ref 10, .int a0] M) else none) ∧
  (∀ (L : zzLc) (a0 : Int32) (r : List Value) (M : zzMd), zz_ev tX2_lookAtNext 9 L (.int a0 :: .ref 6 :: r) M = bif zz_cat8 r then zz_backN (zz_ev tX2_lookAtNext) 12 L r (fX10_objectAt [.ref 6, .int a0] M) else none) ∧
  (∀ L st M, zz_ev tX2_lookAtNext 12 L st M = zo_istore 2 13 (zz_ev tX2_lookAtNext) L st M) ∧
  (∀ L st M, zz_ev tX2_lookAtNext 13 L st M = zo_aload 0 14 (zz_ev tX2_lookAtNext) L st M) ∧
  (∀ L st M, zz_ev tX2_lookAtNext 14 L st M = zo_iload 2 15 (zz_ev tX2_lookAtNext) L st M) ∧
  (∀ L st M, zz_ev tX2_lookAtNext 15 L st M = zo_pushI 24 17 (zz_ev tX2_lookAtNext) L st M) ∧
  (∀ (L : zzLc) (a0 a1 : Int32) (r : List Value) (M : zzMd), zz_ev tX2_lookAtNext 17 L (.int a1 :: .int a0 :: .ref 8 :: r) M = bif zz_cat8 r then zz_backN (zz_ev tX2_lookAtNext) 20 L r (fX10_read [.ref 8, .int a0, .int a1] M) else none) ∧
  (∀ (L : zzLc) (a0 a1 : Int32) (r : List Value) (M : zzMd), zz_ev tX2_lookAtNext 17 L (.int a1 :: .int a0 :: .ref 3 :: r) M = bif zz_cat8 r then zz_backN (zz_ev tX2_lookAtNext) 20 L r (fX10_read [.ref 3, .int a0, .int a1] M) else none) ∧
  (∀ (L : zzLc) (a0 a1 : Int32) (r : List Value) (M : zzMd), zz_ev tX2_lookAtNext 17 L (.int a1 :: .int a0 :: .ref 4 :: r) M = bif zz_cat8 r then zz_backN (zz_ev tX2_lookAtNext) 20 L r (fX10_read [.ref 4, .int a0, .int a1] M) else none) ∧
  (∀ (L : zzLc) (a0 a1 : Int32) (r : List Value) (M : zzMd), zz_ev tX2_lookAtNext 17 L (.int a1 :: .int a0 :: .ref 5 :: r) M = bif zz_cat8 r then zz_backN (zz_ev tX2_lookAtNext) 20 L r (fX10_read [.ref 5, .int a0, .int a1] M) else none) ∧
  (∀ (L : zzLc) (a0 a1 : Int32) (r : List Value) (M : zzMd), zz_ev tX2_lookAtNext 17 L (.int a1 :: .int a0 :: .ref 9 :: r) M = bif zz_cat8 r then zz_backN (zz_ev tX2_lookAtNext) 20 L r (fX10_read [.ref 9, .int a0, .int a1] M) else none) ∧
  (∀ (L : zzLc) (a0 a1 : Int32) (r : List Value) (M : zzMd), zz_ev tX2_lookAtNext 17 L (.int a1 :: .int a0 :: .ref 7 :: r) M = bif zz_cat8 r then zz_backN (zz_ev tX2_lookAtNext) 20 L r (fX10_read [.ref 7, .int a0, .int a1] M) else none) ∧
  (∀ (L : zzLc) (a0 a1 : Int32) (r : List Value) (M : zzMd), zz_ev tX2_lookAtNext 17 L (.int a1 :: .int a0 :: .ref 10 :: r) M = bif zz_cat8 r then zz_backN (zz_ev tX2_lookAtNext) 20 L r (fX10_read [.ref 10, .int a0, .int a1] M) else none) ∧
  (∀ (L : zzLc) (a0 a1 : Int32) (r : List Value) (M : zzMd), zz_ev tX2_lookAtNext 17 L (.int a1 :: .int a0 :: .ref 6 :: r) M = bif zz_cat8 r then zz_backN (zz_ev tX2_lookAtNext) 20 L r (fX10_read [.ref 6, .int a0, .int a1] M) else none) ∧
  (∀ L st M, zz_ev tX2_lookAtNext 20 L st M = zo_istore 3 21 (zz_ev tX2_lookAtNext) L st M) ∧
  (∀ L st M, zz_ev tX2_lookAtNext 21 L st M = zo_aload 0 22 (zz_ev tX2_lookAtNext) L st M) ∧
  (∀ L st M, zz_ev tX2_lookAtNext 22 L st M = zo_iload 2 23 (zz_ev tX2_lookAtNext) L st M) ∧
  (∀ L st M, zz_ev tX2_lookAtNext 23 L st M = zo_iload 1 24 (zz_ev tX2_lookAtNext) L st M) ∧
  (∀ (L : zzLc) (a0 a1 : Int32) (r : List Value) (M : zzMd), zz_ev tX2_lookAtNext 24 L (.int a1 :: .int a0 :: .ref 8 :: r) M = bif zz_cat8 r then zz_backN (zz_ev tX2_lookAtNext) 27 L r (fX10_takeIn [.ref 8, .int a0, .int a1] M) else none) ∧
  (∀ (L : zzLc) (a0 a1 : Int32) (r : List Value) (M : zzMd), zz_ev tX2_lookAtNext 24 L (.int a1 :: .int a0 :: .ref 3 :: r) M = bif zz_cat8 r then zz_backN (zz_ev tX2_lookAtNext) 27 L r (fX10_takeIn [.ref 3, .int a0, .int a1] M) else none) ∧
  (∀ (L : zzLc) (a0 a1 : Int32) (r : List Value) (M : zzMd), zz_ev tX2_lookAtNext 24 L (.int a1 :: .int a0 :: .ref 4 :: r) M = bif zz_cat8 r then zz_backN (zz_ev tX2_lookAtNext) 27 L r (fX10_takeIn [.ref 4, .int a0, .int a1] M) else none) ∧
  (∀ (L : zzLc) (a0 a1 : Int32) (r : List Value) (M : zzMd), zz_ev tX2_lookAtNext 24 L (.int a1 :: .int a0 :: .ref 5 :: r) M = bif zz_cat8 r then zz_backN (zz_ev tX2_lookAtNext) 27 L r (fX10_takeIn [.ref 5, .int a0, .int a1] M) else none) ∧
  (∀ (L : zzLc) (a0 a1 : Int32) (r : List Value) (M : zzMd), zz_ev tX2_lookAtNext 24 L (.int a1 :: .int a0 :: .ref 9 :: r) M = bif zz_cat8 r then zz_backN (zz_ev tX2_lookAtNext) 27 L r (fX10_takeIn [.ref 9, .int a0, .int a1] M) else none) ∧
  (∀ (L : zzLc) (a0 a1 : Int32) (r : List Value) (M : zzMd), zz_ev tX2_lookAtNext 24 L (.int a1 :: .int a0 :: .ref 7 :: r) M = bif zz_cat8 r then zz_backN (zz_ev tX2_lookAtNext) 27 L r (fX10_takeIn [.ref 7, .int a0, .int a1] M) else none) ∧
  (∀ (L : zzLc) (a0 a1 : Int32) (r : List Value) (M : zzMd), zz_ev tX2_lookAtNext 24 L (.int a1 :: .int a0 :: .ref 10 :: r) M = bif zz_cat8 r then zz_backN (zz_ev tX2_lookAtNext) 27 L r (fX10_takeIn [.ref 10, .int a0, .int a1] M) else none) ∧
  (∀ (L : zzLc) (a0 a1 : Int32) (r : List Value) (M : zzMd), zz_ev tX2_lookAtNext 24 L (.int a1 :: .int a0 :: .ref 6 :: r) M = bif zz_cat8 r then zz_backN (zz_ev tX2_lookAtNext) 27 L r (fX10_takeIn [.ref 6, .int a0, .int a1] M) else none) ∧
  (∀ L st M, zz_ev tX2_lookAtNext 27 L st M = zo_aload 0 28 (zz_ev tX2_lookAtNext) L st M) ∧
  (∀ L st M, zz_ev tX2_lookAtNext 28 L st M = zo_iload 2 29 (zz_ev tX2_lookAtNext) L st M) ∧
  (∀ L st M, zz_ev tX2_lookAtNext 29 L st M = zo_pushI 24 31 (zz_ev tX2_lookAtNext) L st M) ∧
  (∀ (L : zzLc) (a0 a1 : Int32) (r : List Value) (M : zzMd), zz_ev tX2_lookAtNext 31 L (.int a1 :: .int a0 :: .ref 8 :: r) M = bif zz_cat8 r then zz_backN (zz_ev tX2_lookAtNext) 34 L r (fX10_read [.ref 8, .int a0, .int a1] M) else none) ∧
  (∀ (L : zzLc) (a0 a1 : Int32) (r : List Value) (M : zzMd), zz_ev tX2_lookAtNext 31 L (.int a1 :: .int a0 :: .ref 3 :: r) M = bif zz_cat8 r then zz_backN (zz_ev tX2_lookAtNext) 34 L r (fX10_read [.ref 3, .int a0, .int a1] M) else none) ∧
  (∀ (L : zzLc) (a0 a1 : Int32) (r : List Value) (M : zzMd), zz_ev tX2_lookAtNext 31 L (.int a1 :: .int a0 :: .ref 4 :: r) M = bif zz_cat8 r then zz_backN (zz_ev tX2_lookAtNext) 34 L r (fX10_read [.ref 4, .int a0, .int a1] M) else none) ∧
  (∀ (L : zzLc) (a0 a1 : Int32) (r : List Value) (M : zzMd), zz_ev tX2_lookAtNext 31 L (.int a1 :: .int a0 :: .ref 5 :: r) M = bif zz_cat8 r then zz_backN (zz_ev tX2_lookAtNext) 34 L r (fX10_read [.ref 5, .int a0, .int a1] M) else none) ∧
  (∀ (L : zzLc) (a0 a1 : Int32) (r : List Value) (M : zzMd), zz_ev tX2_lookAtNext 31 L (.int a1 :: .int a0 :: .ref 9 :: r) M = bif zz_cat8 r then zz_backN (zz_ev tX2_lookAtNext) 34 L r (fX10_read [.ref 9, .int a0, .int a1] M) else none) ∧
  (∀ (L : zzLc) (a0 a1 : Int32) (r : List Value) (M : zzMd), zz_ev tX2_lookAtNext 31 L (.int a1 :: .int a0 :: .ref 7 :: r) M = bif zz_cat8 r then zz_backN (zz_ev tX2_lookAtNext) 34 L r (fX10_read [.ref 7, .int a0, .int a1] M) else none) ∧
  (∀ (L : zzLc) (a0 a1 : Int32) (r : List Value) (M : zzMd), zz_ev tX2_lookAtNext 31 L (.int a1 :: .int a0 :: .ref 10 :: r) M = bif zz_cat8 r then zz_backN (zz_ev tX2_lookAtNext) 34 L r (fX10_read [.ref 10, .int a0, .int a1] M) else none) ∧
  (∀ (L : zzLc) (a0 a1 : Int32) (r : List Value) (M : zzMd), zz_ev tX2_lookAtNext 31 L (.int a1 :: .int a0 :: .ref 6 :: r) M = bif zz_cat8 r then zz_backN (zz_ev tX2_lookAtNext) 34 L r (fX10_read [.ref 6, .int a0, .int a1] M) else none) ∧
  (∀ L st M, zz_ev tX2_lookAtNext 34 L st M = zo_istore 4 36 (zz_ev tX2_lookAtNext) L st M) ∧
  (∀ L st M, zz_ev tX2_lookAtNext 36 L st M = zo_aload 0 37 (zz_ev tX2_lookAtNext) L st M) ∧
  (∀ L st M, zz_ev tX2_lookAtNext 37 L st M = zo_iload 2 38 (zz_ev tX2_lookAtNext) L st M) ∧
  (∀ (L : zzLc) (a0 : Int32) (r : List Value) (M : zzMd), zz_ev tX2_lookAtNext 38 L (.int a0 :: .ref 8 :: r) M = bif zz_cat8 r then zz_backN (zz_ev tX2_lookAtNext) 41 L r (fX2_isOwnKey [.ref 8, .int a0] M) else none) ∧
  (∀ (L : zzLc) (a0 : Int32) (r : List Value) (M : zzMd), zz_ev tX2_lookAtNext 38 L (.int a0 :: .ref 3 :: r) M = bif zz_cat8 r then zz_backN (zz_ev tX2_lookAtNext) 41 L r (fX2_isOwnKey [.ref 3, .int a0] M) else none) ∧
  (∀ (L : zzLc) (a0 : Int32) (r : List Value) (M : zzMd), zz_ev tX2_lookAtNext 38 L (.int a0 :: .ref 4 :: r) M = bif zz_cat8 r then zz_backN (zz_ev tX2_lookAtNext) 41 L r (fX2_isOwnKey [.ref 4, .int a0] M) else none) ∧
  (∀ (L : zzLc) (a0 : Int32) (r : List Value) (M : zzMd), zz_ev tX2_lookAtNext 38 L (.int a0 :: .ref 5 :: r) M = bif zz_cat8 r then zz_backN (zz_ev tX2_lookAtNext) 41 L r (fX2_isOwnKey [.ref 5, .int a0] M) else none) ∧
  (∀ (L : zzLc) (a0 : Int32) (r : List Value) (M : zzMd), zz_ev tX2_lookAtNext 38 L (.int a0 :: .ref 9 :: r) M = bif zz_cat8 r then zz_backN (zz_ev tX2_lookAtNext) 41 L r (fX2_isOwnKey [.ref 9, .int a0] M) else none) ∧
  (∀ (L : zzLc) (a0 : Int32) (r : List Value) (M : zzMd), zz_ev tX2_lookAtNext 38 L (.int a0 :: .ref 7 :: r) M = bif zz_cat8 r then zz_backN (zz_ev tX2_lookAtNext) 41 L r (fX2_isOwnKey [.ref 7, .int a0] M) else none) ∧
  (∀ (L : zzLc) (a0 : Int32) (r : List Value) (M : zzMd), zz_ev tX2_lookAtNext 38 L (.int a0 :: .ref 10 :: r) M = bif zz_cat8 r then zz_backN (zz_ev tX2_lookAtNext) 41 L r (fX2_isOwnKey [.ref 10, .int a0] M) else none) ∧
  (∀ (L : zzLc) (a0 : Int32) (r : List Value) (M : zzMd), zz_ev tX2_lookAtNext 38 L (.int a0 :: .ref 6 :: r) M = bif zz_cat8 r then zz_backN (zz_ev tX2_lookAtNext) 41 L r (fX2_isOwnKey [.ref 6, .int a0] M) else none) ∧
  (∀ L st M, zz_ev tX2_lookAtNext 41 L st M = zo_if (fun x => decide (x = 0)) 49 44 (zz_ev tX2_lookAtNext) L st M) ∧
  (∀ L st M, zz_ev tX2_lookAtNext 44 L st M = zo_aload 0 45 (zz_ev tX2_lookAtNext) L st M) ∧
  (∀ L st M, zz_ev tX2_lookAtNext 45 L st M = zo_iload 2 46 (zz_ev tX2_lookAtNext) L st M) ∧
  (∀ (L : zzLc) (a0 : Int32) (r : List Value) (M : zzMd), zz_ev tX2_lookAtNext 46 L (.int a0 :: .ref 8 :: r) M = bif zz_cat8 r then zz_backN (zz_ev tX2_lookAtNext) 49 L r (fX2_enqueue [.ref 8, .int a0] M) else none) ∧
  (∀ (L : zzLc) (a0 : Int32) (r : List Value) (M : zzMd), zz_ev tX2_lookAtNext 46 L (.int a0 :: .ref 3 :: r) M = bif zz_cat8 r then zz_backN (zz_ev tX2_lookAtNext) 49 L r (fX2_enqueue [.ref 3, .int a0] M) else none) ∧
  (∀ (L : zzLc) (a0 : Int32) (r : List Value) (M : zzMd), zz_ev tX2_lookAtNext 46 L (.int a0 :: .ref 4 :: r) M = bif zz_cat8 r then zz_backN (zz_ev tX2_lookAtNext) 49 L r (fX2_enqueue [.ref 4, .int a0] M) else none) ∧
  (∀ (L : zzLc) (a0 : Int32) (r : List Value) (M : zzMd), zz_ev tX2_lookAtNext 46 L (.int a0 :: .ref 5 :: r) M = bif zz_cat8 r then zz_backN (zz_ev tX2_lookAtNext) 49 L r (fX2_enqueue [.ref 5, .int a0] M) else none) ∧
  (∀ (L : zzLc) (a0 : Int32) (r : List Value) (M : zzMd), zz_ev tX2_lookAtNext 46 L (.int a0 :: .ref 9 :: r) M = bif zz_cat8 r then zz_backN (zz_ev tX2_lookAtNext) 49 L r (fX2_enqueue [.ref 9, .int a0] M) else none) ∧
  (∀ (L : zzLc) (a0 : Int32) (r : List Value) (M : zzMd), zz_ev tX2_lookAtNext 46 L (.int a0 :: .ref 7 :: r) M = bif zz_cat8 r then zz_backN (zz_ev tX2_lookAtNext) 49 L r (fX2_enqueue [.ref 7, .int a0] M) else none) ∧
  (∀ (L : zzLc) (a0 : Int32) (r : List Value) (M : zzMd), zz_ev tX2_lookAtNext 46 L (.int a0 :: .ref 10 :: r) M = bif zz_cat8 r then zz_backN (zz_ev tX2_lookAtNext) 49 L r (fX2_enqueue [.ref 10, .int a0] M) else none) ∧
  (∀ (L : zzLc) (a0 : Int32) (r : List Value) (M : zzMd), zz_ev tX2_lookAtNext 46 L (.int a0 :: .ref 6 :: r) M = bif zz_cat8 r then zz_backN (zz_ev tX2_lookAtNext) 49 L r (fX2_enqueue [.ref 6, .int a0] M) else none) ∧
  (∀ L st M, zz_ev tX2_lookAtNext 49 L st M = zo_aload 0 50 (zz_ev tX2_lookAtNext) L st M) ∧
  (∀ L st M, zz_ev tX2_lookAtNext 50 L st M = zo_iload 2 51 (zz_ev tX2_lookAtNext) L st M) ∧
  (∀ L st M, zz_ev tX2_lookAtNext 51 L st M = zo_iload 4 53 (zz_ev tX2_lookAtNext) L st M) ∧
  (∀ L st M, zz_ev tX2_lookAtNext 53 L st M = zo_pushI (-1) 54 (zz_ev tX2_lookAtNext) L st M) ∧
  (∀ L st M, zz_ev tX2_lookAtNext 54 L st M = zo_icmp (fun x y => decide (¬ x = y)) 61 57 (zz_ev tX2_lookAtNext) L st M) ∧
  (∀ L st M, zz_ev tX2_lookAtNext 57 L st M = zo_iload 3 58 (zz_ev tX2_lookAtNext) L st M) ∧
  (∀ L st M, zz_ev tX2_lookAtNext 58 L st M = zo_goto 63 (zz_ev tX2_lookAtNext) L st M) ∧
  (∀ L st M, zz_ev tX2_lookAtNext 61 L st M = zo_iload 4 63 (zz_ev tX2_lookAtNext) L st M) ∧
  (∀ (L : zzLc) (a0 a1 : Int32) (r : List Value) (M : zzMd), zz_ev tX2_lookAtNext 63 L (.int a1 :: .int a0 :: .ref 8 :: r) M = bif zz_cat8 r then zz_backN (zz_ev tX2_lookAtNext) 66 L r (fX1_queueOthers [.ref 8, .int a0, .int a1] M) else none) ∧
  (∀ (L : zzLc) (a0 a1 : Int32) (r : List Value) (M : zzMd), zz_ev tX2_lookAtNext 63 L (.int a1 :: .int a0 :: .ref 3 :: r) M = bif zz_cat8 r then zz_backN (zz_ev tX2_lookAtNext) 66 L r (fX3_queueOthers [.ref 3, .int a0, .int a1] M) else none) ∧
  (∀ (L : zzLc) (a0 a1 : Int32) (r : List Value) (M : zzMd), zz_ev tX2_lookAtNext 63 L (.int a1 :: .int a0 :: .ref 4 :: r) M = bif zz_cat8 r then zz_backN (zz_ev tX2_lookAtNext) 66 L r (fX4_queueOthers [.ref 4, .int a0, .int a1] M) else none) ∧
  (∀ (L : zzLc) (a0 a1 : Int32) (r : List Value) (M : zzMd), zz_ev tX2_lookAtNext 63 L (.int a1 :: .int a0 :: .ref 5 :: r) M = bif zz_cat8 r then zz_backN (zz_ev tX2_lookAtNext) 66 L r (fX4_queueOthers [.ref 5, .int a0, .int a1] M) else none) ∧
  (∀ (L : zzLc) (a0 a1 : Int32) (r : List Value) (M : zzMd), zz_ev tX2_lookAtNext 63 L (.int a1 :: .int a0 :: .ref 9 :: r) M = bif zz_cat8 r then zz_backN (zz_ev tX2_lookAtNext) 66 L r (fX5_queueOthers [.ref 9, .int a0, .int a1] M) else none) ∧
  (∀ (L : zzLc) (a0 a1 : Int32) (r : List Value) (M : zzMd), zz_ev tX2_lookAtNext 63 L (.int a1 :: .int a0 :: .ref 7 :: r) M = bif zz_cat8 r then zz_backN (zz_ev tX2_lookAtNext) 66 L r (fX6_queueOthers [.ref 7, .int a0, .int a1] M) else none) ∧
  (∀ (L : zzLc) (a0 a1 : Int32) (r : List Value) (M : zzMd), zz_ev tX2_lookAtNext 63 L (.int a1 :: .int a0 :: .ref 10 :: r) M = bif zz_cat8 r then zz_backN (zz_ev tX2_lookAtNext) 66 L r (fX7_queueOthers [.ref 10, .int a0, .int a1] M) else none) ∧
  (∀ (L : zzLc) (a0 a1 : Int32) (r : List Value) (M : zzMd), zz_ev tX2_lookAtNext 63 L (.int a1 :: .int a0 :: .ref 6 :: r) M = bif zz_cat8 r then zz_backN (zz_ev tX2_lookAtNext) 66 L r (fX8_queueOthers [.ref 6, .int a0, .int a1] M) else none) ∧
  (∀ L st M, zz_ev tX2_lookAtNext 66 L st M = zo_ret (zz_ev tX2_lookAtNext) L st M) :=
  ⟨zz_1 rfl tl_X2_lookAtNext, fun L r M => (zz_1 rfl tl_X2_lookAtNext _ _ _).trans rfl, fun L r M => (zz_1 rfl tl_X2_lookAtNext _ _ _).trans rfl, fun L r M => (zz_1 rfl tl_X2_lookAtNext _ _ _).trans rfl, fun L r M => (zz_1 rfl tl_X2_lookAtNext _ _ _).trans rfl, fun L r M => (zz_1 rfl tl_X2_lookAtNext _ _ _).trans rfl, fun L r M => (zz_1 rfl tl_X2_lookAtNext _ _ _).trans rfl, fun L r M => (zz_1 rfl tl_X2_lookAtNext _ _ _).trans rfl, fun L r M => (zz_1 rfl tl_X2_lookAtNext _ _ _).trans rfl, zz_1 rfl tl_X2_lookAtNext, zz_1 rfl tl_X2_lookAtNext, zz_1 rfl tl_X2_lookAtNext, zz_1 rfl tl_X2_lookAtNext, zz_1 rfl tl_X2_lookAtNext, fun L a0 r M => (zz_1 rfl tl_X2_lookAtNext _ _ _).trans rfl, fun L a0 r M => (zz_1 rfl tl_X2_lookAtNext _ _ _).trans rfl, fun L a0 r M => (zz_1 rfl tl_X2_lookAtNext _ _ _).trans rfl, fun L a0 r M => (zz_1 rfl tl_X2_lookAtNext _ _ _).trans rfl, fun L a0 r M => (zz_1 rfl tl_X2_lookAtNext _ _ _).trans rfl, fun L a0 r M => (zz_1 rfl tl_X2_lookAtNext _ _ _).trans rfl, fun L a0 r M => (zz_1 rfl tl_X2_lookAtNext _ _ _).trans rfl, fun L a0 r M => (zz_1 rfl tl_X2_lookAtNext _ _ _).trans rfl, zz_1 rfl tl_X2_lookAtNext, zz_1 rfl tl_X2_lookAtNext, zz_1 rfl tl_X2_lookAtNext, zz_1 rfl tl_X2_lookAtNext, fun L a0 a1 r M => (zz_1 rfl tl_X2_lookAtNext _ _ _).trans rfl, fun L a0 a1 r M => (zz_1 rfl tl_X2_lookAtNext _ _ _).trans rfl, fun L a0 a1 r M => (zz_1 rfl tl_X2_lookAtNext _ _ _).trans rfl, fun L a0 a1 r M => (zz_1 rfl tl_X2_lookAtNext _ _ _).trans rfl, fun L a0 a1 r M => (zz_1 rfl tl_X2_lookAtNext _ _ _).trans rfl, fun L a0 a1 r M => (zz_1 rfl tl_X2_lookAtNext _ _ _).trans rfl, fun L a0 a1 r M => (zz_1 rfl tl_X2_lookAtNext _ _ _).trans rfl, fun L a0 a1 r M => (zz_1 rfl tl_X2_lookAtNext _ _ _).trans rfl, zz_1 rfl tl_X2_lookAtNext, zz_1 rfl tl_X2_lookAtNext, zz_1 rfl tl_X2_lookAtNext, zz_1 rfl tl_X2_lookAtNext, fun L a0 a1 r M => (zz_1 rfl tl_X2_lookAtNext _ _ _).trans rfl, fun L a0 a1 r M => (zz_1 rfl tl_X2_lookAtNext _ _ _).trans rfl, fun L a0 a1 r M => (zz_1 rfl tl_X2_lookAtNext _ _ _).trans rfl, fun L a0 a1 r M => (zz_1 rfl tl_X2_lookAtNext _ _ _).trans rfl, fun L a0 a1 r M => (zz_1 rfl tl_X2_lookAtNext _ _ _).trans rfl, fun L a0 a1 r M => (zz_1 rfl tl_X2_lookAtNext _ _ _).trans rfl, fun L a0 a1 r M => (zz_1 rfl tl_X2_lookAtNext _ _ _).trans rfl, fun L a0 a1 r M => (zz_1 rfl tl_X2_lookAtNext _ _ _).trans rfl, zz_1 rfl tl_X2_lookAtNext, zz_1 rfl tl_X2_lookAtNext, zz_1 rfl tl_X2_lookAtNext, fun L a0 a1 r M => (zz_1 rfl tl_X2_lookAtNext _ _ _).trans rfl, fun L a0 a1 r M => (zz_1 rfl tl_X2_lookAtNext _ _ _).trans rfl, fun L a0 a1 r M => (zz_1 rfl tl_X2_lookAtNext _ _ _).trans rfl, fun L a0 a1 r M => (zz_1 rfl tl_X2_lookAtNext _ _ _).trans rfl, fun L a0 a1 r M => (zz_1 rfl tl_X2_lookAtNext _ _ _).trans rfl, fun L a0 a1 r M => (zz_1 rfl tl_X2_lookAtNext _ _ _).trans rfl, fun L a0 a1 r M => (zz_1 rfl tl_X2_lookAtNext _ _ _).trans rfl, fun L a0 a1 r M => (zz_1 rfl tl_X2_lookAtNext _ _ _).trans rfl, zz_1 rfl tl_X2_lookAtNext, zz_1 rfl tl_X2_lookAtNext, zz_1 rfl tl_X2_lookAtNext, fun L a0 r M => (zz_1 rfl tl_X2_lookAtNext _ _ _).trans rfl, fun L a0 r M => (zz_1 rfl tl_X2_lookAtNext _ _ _).trans rfl, fun L a0 r M => (zz_1 rfl tl_X2_lookAtNext _ _ _).trans rfl, fun L a0 r M => (zz_1 rfl tl_X2_lookAtNext _ _ _).trans rfl, fun L a0 r M => (zz_1 rfl tl_X2_lookAtNext _ _ _).trans rfl, fun L a0 r M => (zz_1 rfl tl_X2_lookAtNext _ _ _).trans rfl, fun L a0 r M => (zz_1 rfl tl_X2_lookAtNext _ _ _).trans rfl, fun L a0 r M => (zz_1 rfl tl_X2_lookAtNext _ _ _).trans rfl, zz_1 rfl tl_X2_lookAtNext, zz_1 rfl tl_X2_lookAtNext, zz_1 rfl tl_X2_lookAtNext, fun L a0 r M => (zz_1 rfl tl_X2_lookAtNext _ _ _).trans rfl, fun L a0 r M => (zz_1 rfl tl_X2_lookAtNext _ _ _).trans rfl, fun L a0 r M => (zz_1 rfl tl_X2_lookAtNext _ _ _).trans rfl, fun L a0 r M => (zz_1 rfl tl_X2_lookAtNext _ _ _).trans rfl, fun L a0 r M => (zz_1 rfl tl_X2_lookAtNext _ _ _).trans rfl, fun L a0 r M => (zz_1 rfl tl_X2_lookAtNext _ _ _).trans rfl, fun L a0 r M => (zz_1 rfl tl_X2_lookAtNext _ _ _).trans rfl, fun L a0 r M => (zz_1 rfl tl_X2_lookAtNext _ _ _).trans rfl, zz_1 rfl tl_X2_lookAtNext, zz_1 rfl tl_X2_lookAtNext, zz_1 rfl tl_X2_lookAtNext, zz_1 rfl tl_X2_lookAtNext, zz_1 rfl tl_X2_lookAtNext, zz_1 rfl tl_X2_lookAtNext, zz_1 rfl tl_X2_lookAtNext, zz_1 rfl tl_X2_lookAtNext, fun L a0 a1 r M => (zz_1 rfl tl_X2_lookAtNext _ _ _).trans rfl, fun L a0 a1 r M => (zz_1 rfl tl_X2_lookAtNext _ _ _).trans rfl, fun L a0 a1 r M => (zz_1 rfl tl_X2_lookAtNext _ _ _).trans rfl, fun L a0 a1 r M => (zz_1 rfl tl_X2_lookAtNext _ _ _).trans rfl, fun L a0 a1 r M => (zz_1 rfl tl_X2_lookAtNext _ _ _).trans rfl, fun L a0 a1 r M => (zz_1 rfl tl_X2_lookAtNext _ _ _).trans rfl, fun L a0 a1 r M => (zz_1 rfl tl_X2_lookAtNext _ _ _).trans rfl, fun L a0 a1 r M => (zz_1 rfl tl_X2_lookAtNext _ _ _).trans rfl, zz_1 rfl tl_X2_lookAtNext⟩
set_option maxRecDepth 100000 in
theorem s_X2_lookAtNext (v : Nat) (M : zzMd) : fX2_lookAtNext [.ref v] M = zz_ev tX2_lookAtNext 0 [some (.ref v), none, none, none, none] [] M := rfl
set_option maxRecDepth 100000 in
theorem e_X2_look : (∀ L st M, zz_ev tX2_look 0 L st M = zo_aload 0 1 (zz_ev tX2_look) L st M) ∧
  (∀ (L : zzLc) (r : List Value) (M : zzMd), zz_ev tX2_look 1 L (.ref 3 :: r) M = zz_ev tX2_look 4 L (.int (M.1 3 11) :: r) M) ∧
  (∀ (L : zzLc) (r : List Value) (M : zzMd), zz_ev tX2_look 1 L (.ref 4 :: r) M = zz_ev tX2_look 4 L (.int (M.1 4 11) :: r) M) ∧
  (∀ (L : zzLc) (r : List Value) (M : zzMd), zz_ev tX2_look 1 L (.ref 5 :: r) M = zz_ev tX2_look 4 L (.int (M.1 5 11) :: r) M) ∧
  (∀ (L : zzLc) (r : List Value) (M : zzMd), zz_ev tX2_look 1 L (.ref 6 :: r) M = zz_ev tX2_look 4 L (.int (M.1 6 11) :: r) M) ∧
  (∀ (L : zzLc) (r : List Value) (M : zzMd), zz_ev tX2_look 1 L (.ref 7 :: r) M = zz_ev tX2_look 4 L (.int (M.1 7 11) :: r) M) ∧
  (∀ (L : zzLc) (r : List Value) (M : zzMd), zz_ev tX2_look 1 L (.ref 8 :: r) M = zz_ev tX2_look 4 L (.int (M.1 8 11) :: r) M) ∧
  (∀ (L : zzLc) (r : List Value) (M : zzMd), zz_ev tX2_look 1 L (.ref 9 :: r) M = zz_ev tX2_look 4 L (.int (M.1 9 11) :: r) M) ∧
  (∀ (L : zzLc) (r : List Value) (M : zzMd), zz_ev tX2_look 1 L (.ref 10 :: r) M = zz_ev tX2_look 4 L (.int (M.1 10 11) :: r) M) ∧
  (∀ L st M, zz_ev tX2_look 4 L st M = zo_istore 2 5 (zz_ev tX2_look) L st M) ∧
  (∀ L st M, zz_ev tX2_look 5 L st M = zo_aload 0 6 (zz_ev tX2_look) L st M) ∧
  (∀ (L : zzLc) (r : List Value) (M : zzMd), zz_ev tX2_look 6 L (.ref 3 :: r) M = zz_ev tX2_look 9 L (.int (M.1 3 3) :: r) M) ∧
  (∀ (L : zzLc) (r : List Value) (M : zzMd), zz_ev tX2_look 6 L (.ref 4 :: r) M = zz_ev tX2_look 9 L (.int (M.1 4 3) :: r) M) ∧
  (∀ (L : zzLc) (r : List Value) (M : zzMd), zz_ev tX2_look 6 L (.ref 5 :: r) M = zz_ev tX2_look 9 L (.int (M.1 5 3) :: r) M) ∧
  (∀ (L : zzLc) (r : List Value) (M : zzMd), zz_ev tX2_look 6 L (.ref 6 :: r) M = zz_ev tX2_look 9 L (.int (M.1 6 3) :: r) M) ∧
  (∀ (L : zzLc) (r : List Value) (M : zzMd), zz_ev tX2_look 6 L (.ref 7 :: r) M = zz_ev tX2_look 9 L (.int (M.1 7 3) :: r) M) ∧
  (∀ (L : zzLc) (r : List Value) (M : zzMd), zz_ev tX2_look 6 L (.ref 8 :: r) M = zz_ev tX2_look 9 L (.int (M.1 8 3) :: r) M) ∧
  (∀ (L : zzLc) (r : List Value) (M : zzMd), zz_ev tX2_look 6 L (.ref 9 :: r) M = zz_ev tX2_look 9 L (.int (M.1 9 3) :: r) M) ∧
  (∀ (L : zzLc) (r : List Value) (M : zzMd), zz_ev tX2_look 6 L (.ref 10 :: r) M = zz_ev tX2_look 9 L (.int (M.1 10 3) :: r) M) ∧
  (∀ L st M, zz_ev tX2_look 9 L st M = zo_aload 0 10 (zz_ev tX2_look) L st M) ∧
  (∀ (L : zzLc) (r : List Value) (M : zzMd), zz_ev tX2_look 10 L (.ref 3 :: r) M = zz_ev tX2_look 13 L (.ref 1 :: r) M) ∧
  (∀ (L : zzLc) (r : List Value) (M : zzMd), zz_ev tX2_look 10 L (.ref 4 :: r) M = zz_ev tX2_look 13 L (.ref 1 :: r) M) ∧
  (∀ (L : zzLc) (r : List Value) (M : zzMd), zz_ev tX2_look 10 L (.ref 5 :: r) M = zz_ev tX2_look 13 L (.ref 1 :: r) M) ∧
  (∀ (L : zzLc) (r : List Value) (M : zzMd), zz_ev tX2_look 10 L (.ref 6 :: r) M = zz_ev tX2_look 13 L (.ref 1 :: r) M) ∧
  (∀ (L : zzLc) (r : List Value) (M : zzMd), zz_ev tX2_look 10 L (.ref 7 :: r) M = zz_ev tX2_look 13 L (.ref 1 :: r) M) ∧
  (∀ (L : zzLc) (r : List Value) (M : zzMd), zz_ev tX2_look 10 L (.ref 8 :: r) M = zz_ev tX2_look 13 L (.ref 1 :: r) M) ∧
  (∀ (L : zzLc) (r : List Value) (M : zzMd), zz_ev tX2_look 10 L (.ref 9 :: r) M = zz_ev tX2_look 13 L (.ref 1 :: r) M) ∧
  (∀ (L : zzLc) (r : List Value) (M : zzMd), zz_ev tX2_look 10 L (.ref 10 :: r) M = zz_ev tX2_look 13 L (.ref 1 :: r) M) ∧
  (∀ (L : zzLc) (r : List Value) (M : zzMd), zz_ev tX2_look 13 L (.ref 1 :: r) M = zz_ev tX2_look 16 L (.int (M.1 1 8) :: r) M) ∧
  (∀ L st M, zz_ev tX2_look 16 L st M = zo_icmp (fun x y => decide (y ≤ x)) 30 19 (zz_ev tX2_look) L st M) ∧
  (∀ L st M, zz_ev tX2_look 19 L st M = zo_aload 0 20 (zz_ev tX2_look) L st M) ∧
  (∀ (L : zzLc) (r : List Value) (M : zzMd), zz_ev tX2_look 20 L (.ref 8 :: r) M = bif zz_cat8 r then zz_backN (zz_ev tX2_look) 23 L r (fX2_relist [.ref 8] M) else none) ∧
  (∀ (L : zzLc) (r : List Value) (M : zzMd), zz_ev tX2_look 20 L (.ref 3 :: r) M = bif zz_cat8 r then zz_backN (zz_ev tX2_look) 23 L r (fX2_relist [.ref 3] M) else none) ∧
  (∀ (L : zzLc) (r : List Value) (M : zzMd), zz_ev tX2_look 20 L (.ref 4 :: r) M = bif zz_cat8 r then zz_backN (zz_ev tX2_look) 23 L r (fX2_relist [.ref 4] M) else none) ∧
  (∀ (L : zzLc) (r : List Value) (M : zzMd), zz_ev tX2_look 20 L (.ref 5 :: r) M = bif zz_cat8 r then zz_backN (zz_ev tX2_look) 23 L r (fX2_relist [.ref 5] M) else none) ∧
  (∀ (L : zzLc) (r : List Value) (M : zzMd), zz_ev tX2_look 20 L (.ref 9 :: r) M = bif zz_cat8 r then zz_backN (zz_ev tX2_look) 23 L r (fX2_relist [.ref 9] M) else none) ∧
  (∀ (L : zzLc) (r : List Value) (M : zzMd), zz_ev tX2_look 20 L (.ref 7 :: r) M = bif zz_cat8 r then zz_backN (zz_ev tX2_look) 23 L r (fX2_relist [.ref 7] M) else none) ∧
  (∀ (L : zzLc) (r : List Value) (M : zzMd), zz_ev tX2_look 20 L (.ref 10 :: r) M = bif zz_cat8 r then zz_backN (zz_ev tX2_look) 23 L r (fX2_relist [.ref 10] M) else none) ∧
  (∀ (L : zzLc) (r : List Value) (M : zzMd), zz_ev tX2_look 20 L (.ref 6 :: r) M = bif zz_cat8 r then zz_backN (zz_ev tX2_look) 23 L r (fX2_relist [.ref 6] M) else none) ∧
  (∀ L st M, zz_ev tX2_look 23 L st M = zo_aload 0 24 (zz_ev tX2_look) L st M) ∧
  (∀ (L : zzLc) (r : List Value) (M : zzMd), zz_ev tX2_look 24 L (.ref 3 :: r) M = zz_ev tX2_look 27 L (.int (M.1 3 11) :: r) M) ∧
  (∀ (L : zzLc) (r : List Value) (M : zzMd), zz_ev tX2_look 24 L (.ref 4 :: r) M = zz_ev tX2_look 27 L (.int (M.1 4 11) :: r) M) ∧
  (∀ (L : zzLc) (r : List Value) (M : zzMd), zz_ev tX2_look 24 L (.ref 5 :: r) M = zz_ev tX2_look 27 L (.int (M.1 5 11) :: r) M) ∧
  (∀ (L : zzLc) (r : List Value) (M : zzMd), zz_ev tX2_look 24 L (.ref 6 :: r) M = zz_ev tX2_look 27 L (.int (M.1 6 11) :: r) M) ∧
  (∀ (L : zzLc) (r : List Value) (M : zzMd), zz_ev tX2_look 24 L (.ref 7 :: r) M = zz_ev tX2_look 27 L (.int (M.1 7 11) :: r) M) ∧
  (∀ (L : zzLc) (r : List Value) (M : zzMd), zz_ev tX2_look 24 L (.ref 8 :: r) M = zz_ev tX2_look 27 L (.int (M.1 8 11) :: r) M) ∧
  (∀ (L : zzLc) (r : List Value) (M : zzMd), zz_ev tX2_look 24 L (.ref 9 :: r) M = zz_ev tX2_look 27 L (.int (M.1 9 11) :: r) M) ∧
  (∀ (L : zzLc) (r : List Value) (M : zzMd), zz_ev tX2_look 24 L (.ref 10 :: r) M = zz_ev tX2_look 27 L (.int (M.1 10 11) :: r) M) ∧
  (∀ L st M, zz_ev tX2_look 27 L st M = zo_iload 2 28 (zz_ev tX2_look) L st M) ∧
  (∀ L st M, zz_ev tX2_look 28 L st M = zo_ii (fun x y => x - y) 29 (zz_ev tX2_look) L st M) ∧
  (∀ L st M, zz_ev tX2_look 29 L st M = zo_iret false (zz_ev tX2_look) L st M) ∧
  (∀ L st M, zz_ev tX2_look 30 L st M = zo_pushI 0 31 (zz_ev tX2_look) L st M) ∧
  (∀ L st M, zz_ev tX2_look 31 L st M = zo_istore 3 32 (zz_ev tX2_look) L st M) ∧
  (∀ L st M, zz_ev tX2_look 33 L st M = zo_iload 1 34 (zz_ev tX2_look) L st M) ∧
  (∀ L st M, zz_ev tX2_look 34 L st M = zo_icmp (fun x y => decide (y ≤ x)) 61 37 (zz_ev tX2_look) L st M) ∧
  (∀ L st M, zz_ev tX2_look 37 L st M = zo_aload 0 38 (zz_ev tX2_look) L st M) ∧
  (∀ (L : zzLc) (r : List Value) (M : zzMd), zz_ev tX2_look 38 L (.ref 3 :: r) M = zz_ev tX2_look 41 L (.int (M.1 3 3) :: r) M) ∧
  (∀ (L : zzLc) (r : List Value) (M : zzMd), zz_ev tX2_look 38 L (.ref 4 :: r) M = zz_ev tX2_look 41 L (.int (M.1 4 3) :: r) M) ∧
  (∀ (L : zzLc) (r : List Value) (M : zzMd), zz_ev tX2_look 38 L (.ref 5 :: r) M = zz_ev tX2_look 41 L (.int (M.1 5 3) :: r) M) ∧
  (∀ (L : zzLc) (r : List Value) (M : zzMd), zz_ev tX2_look 38 L (.ref 6 :: r) M = zz_ev tX2_look 41 L (.int (M.1 6 3) :: r) M) ∧
  (∀ (L : zzLc) (r : List Value) (M : zzMd), zz_ev tX2_look 38 L (.ref 7 :: r) M = zz_ev tX2_look 41 L (.int (M.1 7 3) :: r) M) ∧
  (∀ (L : zzLc) (r : List Value) (M : zzMd), zz_ev tX2_look 38 L (.ref 8 :: r) M = zz_ev tX2_look 41 L (.int (M.1 8 3) :: r) M) ∧
  (∀ (L : zzLc) (r : List Value) (M : zzMd), zz_ev tX2_look 38 L (.ref 9 :: r) M = zz_ev tX2_look 41 L (.int (M.1 9 3) :: r) M) ∧
  (∀ (L : zzLc) (r : List Value) (M : zzMd), zz_ev tX2_look 38 L (.ref 10 :: r) M = zz_ev tX2_look 41 L (.int (M.1 10 3) :: r) M) ∧
  (∀ L st M, zz_ev tX2_look 41 L st M = zo_aload 0 42 (zz_ev tX2_look) L st M) ∧
  (∀ (L : zzLc) (r : List Value) (M : zzMd), zz_ev tX2_look 42 L (.ref 3 :: r) M = zz_ev tX2_look 45 L (.ref 1 :: r) M) ∧
  (∀ (L : zzLc) (r : List Value) (M : zzMd), zz_ev tX2_look 42 L (.ref 4 :: r) M = zz_ev tX2_look 45 L (.ref 1 :: r) M) ∧
  (∀ (L : zzLc) (r : List Value) (M : zzMd), zz_ev tX2_look 42 L (.ref 5 :: r) M = zz_ev tX2_look 45 L (.ref 1 :: r) M) ∧
  (∀ (L : zzLc) (r : List Value) (M : zzMd), zz_ev tX2_look 42 L (.ref 6 :: r) M = zz_ev tX2_look 45 L (.ref 1 :: r) M) ∧
  (∀ (L : zzLc) (r : List Value) (M : zzMd), zz_ev tX2_look 42 L (.ref 7 :: r) M = zz_ev tX2_look 45 L (.ref 1 :: r) M) ∧
  (∀ (L : zzLc) (r : List Value) (M : zzMd), zz_ev tX2_look 42 L (.ref 8 :: r) M = zz_ev tX2_look 45 L (.ref 1 :: r) M) ∧
  (∀ (L : zzLc) (r : List Value) (M : zzMd), zz_ev tX2_look 42 L (.ref 9 :: r) M = zz_ev tX2_look 45 L (.ref 1 :: r) M) ∧
  (∀ (L : zzLc) (r : List Value) (M : zzMd), zz_ev tX2_look 42 L (.ref 10 :: r) M = zz_ev tX2_look 45 L (.ref 1 :: r) M) ∧
  (∀ (L : zzLc) (r : List Value) (M : zzMd), zz_ev tX2_look 45 L (.ref 1 :: r) M = zz_ev tX2_look 48 L (.int (M.1 1 3) :: r) M) ∧
  (∀ L st M, zz_ev tX2_look 48 L st M = zo_icmp (fun x y => decide (y ≤ x)) 61 51 (zz_ev tX2_look) L st M) ∧
  (∀ L st M, zz_ev tX2_look 51 L st M = zo_aload 0 52 (zz_ev tX2_look) L st M) ∧
  (∀ (L : zzLc) (r : List Value) (M : zzMd), zz_ev tX2_look 52 L (.ref 8 :: r) M = bif zz_cat8 r then zz_backN (zz_ev tX2_look) 55 L r (fX2_lookAtNext [.ref 8] M) else none) ∧
  (∀ (L : zzLc) (r : List Value) (M : zzMd), zz_ev tX2_look 52 L (.ref 3 :: r) M = bif zz_cat8 r then zz_backN (zz_ev tX2_look) 55 L r (fX2_lookAtNext [.ref 3] M) else none) ∧
  (∀ (L : zzLc) (r : List Value) (M : zzMd), zz_ev tX2_look 52 L (.ref 4 :: r) M = bif zz_cat8 r then zz_backN (zz_ev tX2_look) 55 L r (fX2_lookAtNext [.ref 4] M) else none) ∧
  (∀ (L : zzLc) (r : List Value) (M : zzMd), zz_ev tX2_look 52 L (.ref 5 :: r) M = bif zz_cat8 r then zz_backN (zz_ev tX2_look) 55 L r (fX2_lookAtNext [.ref 5] M) else none) ∧
  (∀ (L : zzLc) (r : List Value) (M : zzMd), zz_ev tX2_look 52 L (.ref 9 :: r) M = bif zz_cat8 r then zz_backN (zz_ev tX2_look) 55 L r (fX2_lookAtNext [.ref 9] M) else none) ∧
  (∀ (L : zzLc) (r : List Value) (M : zzMd), zz_ev tX2_look 52 L (.ref 7 :: r) M = bif zz_cat8 r then zz_backN (zz_ev tX2_look) 55 L r (fX2_lookAtNext [.ref 7] M) else none) ∧
  (∀ (L : zzLc) (r : List Value) (M : zzMd), zz_ev tX2_look 52 L (.ref 10 :: r) M = bif zz_cat8 r then zz_backN (zz_ev tX2_look) 55 L r (fX2_lookAtNext [.ref 10] M) else none) ∧
  (∀ (L : zzLc) (r : List Value) (M : zzMd), zz_ev tX2_look 52 L (.ref 6 :: r) M = bif zz_cat8 r then zz_backN (zz_ev tX2_look) 55 L r (fX2_lookAtNext [.ref 6] M) else none) ∧
  (∀ L st M, zz_ev tX2_look 55 L st M = zo_iinc 3 1 58 (zz_ev tX2_look) L st M) ∧
  (∀ L st M, zz_ev tX2_look 58 L st M = zo_goto 32 (zz_ev tX2_look) L st M) ∧
  (∀ L st M, zz_ev tX2_look 61 L st M = zo_aload 0 62 (zz_ev tX2_look) L st M) ∧
  (∀ (L : zzLc) (r : List Value) (M : zzMd), zz_ev tX2_look 62 L (.ref 3 :: r) M = zz_ev tX2_look 65 L (.int (M.1 3 11) :: r) M) ∧
  (∀ (L : zzLc) (r : List Value) (M : zzMd), zz_ev tX2_look 62 L (.ref 4 :: r) M = zz_ev tX2_look 65 L (.int (M.1 4 11) :: r) M) ∧
  (∀ (L : zzLc) (r : List Value) (M : zzMd), zz_ev tX2_look 62 L (.ref 5 :: r) M = zz_ev tX2_look 65 L (.int (M.1 5 11) :: r) M) ∧
  (∀ (L : zzLc) (r : List Value) (M : zzMd), zz_ev tX2_look 62 L (.ref 6 :: r) M = zz_ev tX2_look 65 L (.int (M.1 6 11) :: r) M) ∧
  (∀ (L : zzLc) (r : List Value) (M : zzMd), zz_ev tX2_look 62 L (.ref 7 :: r) M = zz_ev tX2_look 65 L (.int (M.1 7 11) :: r) M) ∧
  (∀ (L : zzLc) (r : List Value) (M : zzMd), zz_ev tX2_look 62 L (.ref 8 :: r) M = zz_ev tX2_look 65 L (.int (M.1 8 11) :: r) M) ∧
  (∀ (L : zzLc) (r : List Value) (M : zzMd), zz_ev tX2_look 62 L (.ref 9 :: r) M = zz_ev tX2_look 65 L (.int (M.1 9 11) :: r) M) ∧
  (∀ (L : zzLc) (r : List Value) (M : zzMd), zz_ev tX2_look 62 L (.ref 10 :: r) M = zz_ev tX2_look 65 L (.int (M.1 10 11) :: r) M) ∧
  (∀ L st M, zz_ev tX2_look 65 L st M = zo_iload 2 66 (zz_ev tX2_look) L st M) ∧
  (∀ L st M, zz_ev tX2_look 66 L st M = zo_ii (fun x y => x - y) 67 (zz_ev tX2_look) L st M) ∧
  (∀ L st M, zz_ev tX2_look 67 L st M = zo_iret false (zz_ev tX2_look) L st M) :=
  ⟨zz_1 rfl tl_X2_look, fun L r M => (zz_1 rfl tl_X2_look _ _ _).trans rfl, fun L r M => (zz_1 rfl tl_X2_look _ _ _).trans rfl, fun L r M => (zz_1 rfl tl_X2_look _ _ _).trans rfl, fun L r M => (zz_1 rfl tl_X2_look _ _ _).trans rfl, fun L r M => (zz_1 rfl tl_X2_look _ _ _).trans rfl, fun L r M => (zz_1 rfl tl_X2_look _ _ _).trans rfl, fun L r M => (zz_1 rfl tl_X2_look _ _ _).trans rfl, fun L r M => (zz_1 rfl tl_X2_look _ _ _).trans rfl, zz_1 rfl tl_X2_look, zz_1 rfl tl_X2_look, fun L r M => (zz_1 rfl tl_X2_look _ _ _).trans rfl, fun L r M => (zz_1 rfl tl_X2_look _ _ _).trans rfl, fun L r M => (zz_1 rfl tl_X2_look _ _ _).trans rfl, fun L r M => (zz_1 rfl tl_X2_look _ _ _).trans rfl, fun L r M => (zz_1 rfl tl_X2_look _ _ _).trans rfl, fun L r M => (zz_1 rfl tl_X2_look _ _ _).trans rfl, fun L r M => (zz_1 rfl tl_X2_look _ _ _).trans rfl, fun L r M => (zz_1 rfl tl_X2_look _ _ _).trans rfl, zz_1 rfl tl_X2_look, fun L r M => (zz_1 rfl tl_X2_look _ _ _).trans rfl, fun L r M => (zz_1 rfl tl_X2_look _ _ _).trans rfl, fun L r M => (zz_1 rfl tl_X2_look _ _ _).trans rfl, fun L r M => (zz_1 rfl tl_X2_look _ _ _).trans rfl, fun L r M => (zz_1 rfl tl_X2_look _ _ _).trans rfl, fun L r M => (zz_1 rfl tl_X2_look _ _ _).trans rfl, fun L r M => (zz_1 rfl tl_X2_look _ _ _).trans rfl, fun L r M => (zz_1 rfl tl_X2_look _ _ _).trans rfl, fun L r M => (zz_1 rfl tl_X2_look _ _ _).trans rfl, zz_1 rfl tl_X2_look, zz_1 rfl tl_X2_look, fun L  r M => (zz_1 rfl tl_X2_look _ _ _).trans rfl, fun L  r M => (zz_1 rfl tl_X2_look _ _ _).trans rfl, fun L  r M => (zz_1 rfl tl_X2_look _ _ _).trans rfl, fun L  r M => (zz_1 rfl tl_X2_look _ _ _).trans rfl, fun L  r M => (zz_1 rfl tl_X2_look _ _ _).trans rfl, fun L  r M => (zz_1 rfl tl_X2_look _ _ _).trans rfl, fun L  r M => (zz_1 rfl tl_X2_look _ _ _).trans rfl, fun L  r M => (zz_1 rfl tl_X2_look _ _ _).trans rfl, zz_1 rfl tl_X2_look, fun L r M => (zz_1 rfl tl_X2_look _ _ _).trans rfl, fun L r M => (zz_1 rfl tl_X2_look _ _ _).trans rfl, fun L r M => (zz_1 rfl tl_X2_look _ _ _).trans rfl, fun L r M => (zz_1 rfl tl_X2_look _ _ _).trans rfl, fun L r M => (zz_1 rfl tl_X2_look _ _ _).trans rfl, fun L r M => (zz_1 rfl tl_X2_look _ _ _).trans rfl, fun L r M => (zz_1 rfl tl_X2_look _ _ _).trans rfl, fun L r M => (zz_1 rfl tl_X2_look _ _ _).trans rfl, zz_1 rfl tl_X2_look, zz_1 rfl tl_X2_look, zz_1 rfl tl_X2_look, zz_1 rfl tl_X2_look, zz_1 rfl tl_X2_look, zz_1 rfl tl_X2_look, zz_1 rfl tl_X2_look, zz_1 rfl tl_X2_look, fun L r M => (zz_1 rfl tl_X2_look _ _ _).trans rfl, fun L r M => (zz_1 rfl tl_X2_look _ _ _).trans rfl, fun L r M => (zz_1 rfl tl_X2_look _ _ _).trans rfl, fun L r M => (zz_1 rfl tl_X2_look _ _ _).trans rfl, fun L r M => (zz_1 rfl tl_X2_look _ _ _).trans rfl, fun L r M => (zz_1 rfl tl_X2_look _ _ _).trans rfl, fun L r M => (zz_1 rfl tl_X2_look _ _ _).trans rfl, fun L r M => (zz_1 rfl tl_X2_look _ _ _).trans rfl, zz_1 rfl tl_X2_look, fun L r M => (zz_1 rfl tl_X2_look _ _ _).trans rfl, fun L r M => (zz_1 rfl tl_X2_look _ _ _).trans rfl, fun L r M => (zz_1 rfl tl_X2_look _ _ _).trans rfl, fun L r M => (zz_1 rfl tl_X2_look _ _ _).trans rfl, fun L r M => (zz_1 rfl tl_X2_look _ _ _).trans rfl, fun L r M => (zz_1 rfl tl_X2_look _ _ _).trans rfl, fun L r M => (zz_1 rfl tl_X2_look _ _ _).trans rfl, fun L r M => (zz_1 rfl tl_X2_look _ _ _).trans rfl, fun L r M => (zz_1 rfl tl_X2_look _ _ _).trans rfl, zz_1 rfl tl_X2_look, zz_1 rfl tl_X2_look, fun L  r M => (zz_1 rfl tl_X2_look _ _ _).trans rfl, fun L  r M => (zz_1 rfl tl_X2_look _ _ _).trans rfl, fun L  r M => (zz_1 rfl tl_X2_look _ _ _).trans rfl, fun L  r M => (zz_1 rfl tl_X2_look _ _ _).trans rfl, fun L  r M => (zz_1 rfl tl_X2_look _ _ _).trans rfl, fun L  r M => (zz_1 rfl tl_X2_look _ _ _).trans rfl, fun L  r M => (zz_1 rfl tl_X2_look _ _ _).trans rfl, fun L  r M => (zz_1 rfl tl_X2_look _ _ _).trans rfl, zz_1 rfl tl_X2_look, zz_1 rfl tl_X2_look, zz_1 rfl tl_X2_look, fun L r M => (zz_1 rfl tl_X2_look _ _ _).trans rfl, fun L r M => (zz_1 rfl tl_X2_look _ _ _).trans rfl, fun L r M => (zz_1 rfl tl_X2_look _ _ _).trans rfl, fun L r M => (zz_1 rfl tl_X2_look _ _ _).trans rfl, fun L r M => (zz_1 rfl tl_X2_look _ _ _).trans rfl, fun L r M => (zz_1 rfl tl_X2_look _ _ _).trans rfl, fun L r M => (zz_1 rfl tl_X2_look _ _ _).trans rfl, fun L r M => (zz_1 rfl tl_X2_look _ _ _).trans rfl, zz_1 rfl tl_X2_look, zz_1 rfl tl_X2_look, zz_1 rfl tl_X2_look⟩
set_option maxRecDepth 100000 in
theorem e_X2_look_32 : (∀ L st M, zz_ev tX2_look 32 L st M = zo_iload 3 33 (zz_ev tX2_look) L st M) := zz_1 rfl tl_X2_look
set_option maxRecDepth 100000 in
theorem s_X2_look (a0 : Int32) (v : Nat) (M : zzMd) : fX2_look [.ref v, .int a0] M = zz_ev tX2_look 0 [some (.ref v), some (.int a0), none, none] [] M := rfl
set_option maxRecDepth 100000 in
theorem e_X2_lookAtAll : (∀ L st M, zz_ev tX2_lookAtAll 0 L st M = zo_aload 0 1 (zz_ev tX2_lookAtAll) L st M) ∧
  (∀ L st M, zz_ev tX2_lookAtAll 1 L st M = zo_pushI 400 4 (zz_ev tX2_lookAtAll) L st M) ∧
  (∀ (L : zzLc) (a0 : Int32) (r : List Value) (M : zzMd), zz_ev tX2_lookAtAll 4 L (.int a0 :: .ref 8 :: r) M = bif zz_cat8 r then zz_backN (zz_ev tX2_lookAtAll) 7 L r (fX2_look [.ref 8, .int a0] M) else none) ∧
  (∀ (L : zzLc) (a0 : Int32) (r : List Value) (M : zzMd), zz_ev tX2_lookAtAll 4 L (.int a0 :: .ref 3 :: r) M = bif zz_cat8 r then zz_backN (zz_ev tX2_lookAtAll) 7 L r (fX2_look [.ref 3, .int a0] M) else none) ∧
  (∀ (L : zzLc) (a0 : Int32) (r : List Value) (M : zzMd), zz_ev tX2_lookAtAll 4 L (.int a0 :: .ref 4 :: r) M = bif zz_cat8 r then zz_backN (zz_ev tX2_lookAtAll) 7 L r (fX2_look [.ref 4, .int a0] M) else none) ∧
  (∀ (L : zzLc) (a0 : Int32) (r : List Value) (M : zzMd), zz_ev tX2_lookAtAll 4 L (.int a0 :: .ref 5 :: r) M = bif zz_cat8 r then zz_backN (zz_ev tX2_lookAtAll) 7 L r (fX2_look [.ref 5, .int a0] M) else none) ∧
  (∀ (L : zzLc) (a0 : Int32) (r : List Value) (M : zzMd), zz_ev tX2_lookAtAll 4 L (.int a0 :: .ref 9 :: r) M = bif zz_cat8 r then zz_backN (zz_ev tX2_lookAtAll) 7 L r (fX2_look [.ref 9, .int a0] M) else none) ∧
  (∀ (L : zzLc) (a0 : Int32) (r : List Value) (M : zzMd), zz_ev tX2_lookAtAll 4 L (.int a0 :: .ref 7 :: r) M = bif zz_cat8 r then zz_backN (zz_ev tX2_lookAtAll) 7 L r (fX2_look [.ref 7, .int a0] M) else none) ∧
  (∀ (L : zzLc) (a0 : Int32) (r : List Value) (M : zzMd), zz_ev tX2_lookAtAll 4 L (.int a0 :: .ref 10 :: r) M = bif zz_cat8 r then zz_backN (zz_ev tX2_lookAtAll) 7 L r (fX2_look [.ref 10, .int a0] M) else none) ∧
  (∀ (L : zzLc) (a0 : Int32) (r : List Value) (M : zzMd), zz_ev tX2_lookAtAll 4 L (.int a0 :: .ref 6 :: r) M = bif zz_cat8 r then zz_backN (zz_ev tX2_lookAtAll) 7 L r (fX2_look [.ref 6, .int a0] M) else none) ∧
  (∀ L st M, zz_ev tX2_lookAtAll 7 L st M = zo_pop 8 (zz_ev tX2_lookAtAll) L st M) ∧
  (∀ L st M, zz_ev tX2_lookAtAll 8 L st M = zo_aload 0 9 (zz_ev tX2_lookAtAll) L st M) ∧
  (∀ (L : zzLc) (r : List Value) (M : zzMd), zz_ev tX2_lookAtAll 9 L (.ref 3 :: r) M = zz_ev tX2_lookAtAll 12 L (.int (M.1 3 11) :: r) M) ∧
  (∀ (L : zzLc) (r : List Value) (M : zzMd), zz_ev tX2_lookAtAll 9 L (.ref 4 :: r) M = zz_ev tX2_lookAtAll 12 L (.int (M.1 4 11) :: r) M) ∧
  (∀ (L : zzLc) (r : List Value) (M : zzMd), zz_ev tX2_lookAtAll 9 L (.ref 5 :: r) M = zz_ev tX2_lookAtAll 12 L (.int (M.1 5 11) :: r) M) ∧
  (∀ (L : zzLc) (r : List Value) (M : zzMd), zz_ev tX2_lookAtAll 9 L (.ref 6 :: r) M = zz_ev tX2_lookAtAll 12 L (.int (M.1 6 11) :: r) M) ∧
  (∀ (L : zzLc) (r : List Value) (M : zzMd), zz_ev tX2_lookAtAll 9 L (.ref 7 :: r) M = zz_ev tX2_lookAtAll 12 L (.int (M.1 7 11) :: r) M) ∧
  (∀ (L : zzLc) (r : List Value) (M : zzMd), zz_ev tX2_lookAtAll 9 L (.ref 8 :: r) M = zz_ev tX2_lookAtAll 12 L (.int (M.1 8 11) :: r) M) ∧
  (∀ (L : zzLc) (r : List Value) (M : zzMd), zz_ev tX2_lookAtAll 9 L (.ref 9 :: r) M = zz_ev tX2_lookAtAll 12 L (.int (M.1 9 11) :: r) M) ∧
  (∀ (L : zzLc) (r : List Value) (M : zzMd), zz_ev tX2_lookAtAll 9 L (.ref 10 :: r) M = zz_ev tX2_lookAtAll 12 L (.int (M.1 10 11) :: r) M) ∧
  (∀ L st M, zz_ev tX2_lookAtAll 12 L st M = zo_iret false (zz_ev tX2_lookAtAll) L st M) :=
  ⟨zz_1 rfl tl_X2_lookAtAll, zz_1 rfl tl_X2_lookAtAll, fun L a0 r M => (zz_1 rfl tl_X2_lookAtAll _ _ _).trans rfl, fun L a0 r M => (zz_1 rfl tl_X2_lookAtAll _ _ _).trans rfl, fun L a0 r M => (zz_1 rfl tl_X2_lookAtAll _ _ _).trans rfl, fun L a0 r M => (zz_1 rfl tl_X2_lookAtAll _ _ _).trans rfl, fun L a0 r M => (zz_1 rfl tl_X2_lookAtAll _ _ _).trans rfl, fun L a0 r M => (zz_1 rfl tl_X2_lookAtAll _ _ _).trans rfl, fun L a0 r M => (zz_1 rfl tl_X2_lookAtAll _ _ _).trans rfl, fun L a0 r M => (zz_1 rfl tl_X2_lookAtAll _ _ _).trans rfl, zz_1 rfl tl_X2_lookAtAll, zz_1 rfl tl_X2_lookAtAll, fun L r M => (zz_1 rfl tl_X2_lookAtAll _ _ _).trans rfl, fun L r M => (zz_1 rfl tl_X2_lookAtAll _ _ _).trans rfl, fun L r M => (zz_1 rfl tl_X2_lookAtAll _ _ _).trans rfl, fun L r M => (zz_1 rfl tl_X2_lookAtAll _ _ _).trans rfl, fun L r M => (zz_1 rfl tl_X2_lookAtAll _ _ _).trans rfl, fun L r M => (zz_1 rfl tl_X2_lookAtAll _ _ _).trans rfl, fun L r M => (zz_1 rfl tl_X2_lookAtAll _ _ _).trans rfl, fun L r M => (zz_1 rfl tl_X2_lookAtAll _ _ _).trans rfl, zz_1 rfl tl_X2_lookAtAll⟩
set_option maxRecDepth 100000 in
theorem s_X2_lookAtAll (v : Nat) (M : zzMd) : fX2_lookAtAll [.ref v] M = zz_ev tX2_lookAtAll 0 [some (.ref v)] [] M := rfl
set_option maxRecDepth 100000 in
theorem e_X2_keyAt : (∀ L st M, zz_ev tX2_keyAt 0 L st M = zo_iload 1 1 (zz_ev tX2_keyAt) L st M) ∧
  (∀ L st M, zz_ev tX2_keyAt 1 L st M = zo_if (fun x => decide (x < 0)) 21 4 (zz_ev tX2_keyAt) L st M) ∧
  (∀ L st M, zz_ev tX2_keyAt 4 L st M = zo_iload 1 5 (zz_ev tX2_keyAt) L st M) ∧
  (∀ L st M, zz_ev tX2_keyAt 5 L st M = zo_aload 0 6 (zz_ev tX2_keyAt) L st M) ∧
  (∀ (L : zzLc) (r : List Value) (M : zzMd), zz_ev tX2_keyAt 6 L (.ref 3 :: r) M = zz_ev tX2_keyAt 9 L (.int (M.1 3 11) :: r) M) ∧
  (∀ (L : zzLc) (r : List Value) (M : zzMd), zz_ev tX2_keyAt 6 L (.ref 4 :: r) M = zz_ev tX2_keyAt 9 L (.int (M.1 4 11) :: r) M) ∧
  (∀ (L : zzLc) (r : List Value) (M : zzMd), zz_ev tX2_keyAt 6 L (.ref 5 :: r) M = zz_ev tX2_keyAt 9 L (.int (M.1 5 11) :: r) M) ∧
  (∀ (L : zzLc) (r : List Value) (M : zzMd), zz_ev tX2_keyAt 6 L (.ref 6 :: r) M = zz_ev tX2_keyAt 9 L (.int (M.1 6 11) :: r) M) ∧
  (∀ (L : zzLc) (r : List Value) (M : zzMd), zz_ev tX2_keyAt 6 L (.ref 7 :: r) M = zz_ev tX2_keyAt 9 L (.int (M.1 7 11) :: r) M) ∧
  (∀ (L : zzLc) (r : List Value) (M : zzMd), zz_ev tX2_keyAt 6 L (.ref 8 :: r) M = zz_ev tX2_keyAt 9 L (.int (M.1 8 11) :: r) M) ∧
  (∀ (L : zzLc) (r : List Value) (M : zzMd), zz_ev tX2_keyAt 6 L (.ref 9 :: r) M = zz_ev tX2_keyAt 9 L (.int (M.1 9 11) :: r) M) ∧
  (∀ (L : zzLc) (r : List Value) (M : zzMd), zz_ev tX2_keyAt 6 L (.ref 10 :: r) M = zz_ev tX2_keyAt 9 L (.int (M.1 10 11) :: r) M) ∧
  (∀ L st M, zz_ev tX2_keyAt 9 L st M = zo_icmp (fun x y => decide (y ≤ x)) 21 12 (zz_ev tX2_keyAt) L st M) ∧
  (∀ L st M, zz_ev tX2_keyAt 12 L st M = zo_aload 0 13 (zz_ev tX2_keyAt) L st M) ∧
  (∀ (L : zzLc) (r : List Value) (M : zzMd), zz_ev tX2_keyAt 13 L (.ref 3 :: r) M = zz_ev tX2_keyAt 16 L (.ref 22 :: r) M) ∧
  (∀ (L : zzLc) (r : List Value) (M : zzMd), zz_ev tX2_keyAt 13 L (.ref 4 :: r) M = zz_ev tX2_keyAt 16 L (.ref 28 :: r) M) ∧
  (∀ (L : zzLc) (r : List Value) (M : zzMd), zz_ev tX2_keyAt 13 L (.ref 5 :: r) M = zz_ev tX2_keyAt 16 L (.ref 34 :: r) M) ∧
  (∀ (L : zzLc) (r : List Value) (M : zzMd), zz_ev tX2_keyAt 13 L (.ref 6 :: r) M = zz_ev tX2_keyAt 16 L (.ref 40 :: r) M) ∧
  (∀ (L : zzLc) (r : List Value) (M : zzMd), zz_ev tX2_keyAt 13 L (.ref 7 :: r) M = zz_ev tX2_keyAt 16 L (.ref 46 :: r) M) ∧
  (∀ (L : zzLc) (r : List Value) (M : zzMd), zz_ev tX2_keyAt 13 L (.ref 8 :: r) M = zz_ev tX2_keyAt 16 L (.ref 52 :: r) M) ∧
  (∀ (L : zzLc) (r : List Value) (M : zzMd), zz_ev tX2_keyAt 13 L (.ref 9 :: r) M = zz_ev tX2_keyAt 16 L (.ref 58 :: r) M) ∧
  (∀ (L : zzLc) (r : List Value) (M : zzMd), zz_ev tX2_keyAt 13 L (.ref 10 :: r) M = zz_ev tX2_keyAt 16 L (.ref 64 :: r) M) ∧
  (∀ L st M, zz_ev tX2_keyAt 16 L st M = zo_iload 1 17 (zz_ev tX2_keyAt) L st M) ∧
  (∀ L st M, zz_ev tX2_keyAt 17 L st M = zo_iald zzSC zzSTC 18 (zz_ev tX2_keyAt) L st M) ∧
  (∀ L st M, zz_ev tX2_keyAt 18 L st M = zo_goto 22 (zz_ev tX2_keyAt) L st M) ∧
  (∀ L st M, zz_ev tX2_keyAt 21 L st M = zo_pushI (-1) 22 (zz_ev tX2_keyAt) L st M) ∧
  (∀ L st M, zz_ev tX2_keyAt 22 L st M = zo_iret false (zz_ev tX2_keyAt) L st M) :=
  ⟨zz_1 rfl tl_X2_keyAt, zz_1 rfl tl_X2_keyAt, zz_1 rfl tl_X2_keyAt, zz_1 rfl tl_X2_keyAt, fun L r M => (zz_1 rfl tl_X2_keyAt _ _ _).trans rfl, fun L r M => (zz_1 rfl tl_X2_keyAt _ _ _).trans rfl, fun L r M => (zz_1 rfl tl_X2_keyAt _ _ _).trans rfl, fun L r M => (zz_1 rfl tl_X2_keyAt _ _ _).trans rfl, fun L r M => (zz_1 rfl tl_X2_keyAt _ _ _).trans rfl, fun L r M => (zz_1 rfl tl_X2_keyAt _ _ _).trans rfl, fun L r M => (zz_1 rfl tl_X2_keyAt _ _ _).trans rfl, fun L r M => (zz_1 rfl tl_X2_keyAt _ _ _).trans rfl, zz_1 rfl tl_X2_keyAt, zz_1 rfl tl_X2_keyAt, fun L r M => (zz_1 rfl tl_X2_keyAt _ _ _).trans rfl, fun L r M => (zz_1 rfl tl_X2_keyAt _ _ _).trans rfl, fun L r M => (zz_1 rfl tl_X2_keyAt _ _ _).trans rfl, fun L r M => (zz_1 rfl tl_X2_keyAt _ _ _).trans rfl, fun L r M => (zz_1 rfl tl_X2_keyAt _ _ _).trans rfl, fun L r M => (zz_1 rfl tl_X2_keyAt _ _ _).trans rfl, fun L r M => (zz_1 rfl tl_X2_keyAt _ _ _).trans rfl, fun L r M => (zz_1 rfl tl_X2_keyAt _ _ _).trans rfl, zz_1 rfl tl_X2_keyAt, zz_1 rfl tl_X2_keyAt, zz_1 rfl tl_X2_keyAt, zz_1 rfl tl_X2_keyAt, zz_1 rfl tl_X2_keyAt⟩
set_option maxRecDepth 100000 in
theorem s_X2_keyAt (a0 : Int32) (v : Nat) (M : zzMd) : fX2_keyAt [.ref v, .int a0] M = zz_ev tX2_keyAt 0 [some (.ref v), some (.int a0)] [] M := rfl
set_option maxRecDepth 100000 in
theorem e_X2_takeKey : (∀ L st M, zz_ev tX2_takeKey 0 L st M = zo_pushI 0 1 (zz_ev tX2_takeKey) L st M) ∧
  (∀ L st M, zz_ev tX2_takeKey 1 L st M = zo_istore 1 2 (zz_ev tX2_takeKey) L st M) ∧
  (∀ L st M, zz_ev tX2_takeKey 3 L st M = zo_aload 0 4 (zz_ev tX2_takeKey) L st M) ∧
  (∀ (L : zzLc) (r : List Value) (M : zzMd), zz_ev tX2_takeKey 4 L (.ref 3 :: r) M = zz_ev tX2_takeKey 7 L (.int (M.1 3 11) :: r) M) ∧
  (∀ (L : zzLc) (r : List Value) (M : zzMd), zz_ev tX2_takeKey 4 L (.ref 4 :: r) M = zz_ev tX2_takeKey 7 L (.int (M.1 4 11) :: r) M) ∧
  (∀ (L : zzLc) (r : List Value) (M : zzMd), zz_ev tX2_takeKey 4 L (.ref 5 :: r) M = zz_ev tX2_takeKey 7 L (.int (M.1 5 11) :: r) M) ∧
  (∀ (L : zzLc) (r : List Value) (M : zzMd), zz_ev tX2_takeKey 4 L (.ref 6 :: r) M = zz_ev tX2_takeKey 7 L (.int (M.1 6 11) :: r) M) ∧
  (∀ (L : zzLc) (r : List Value) (M : zzMd), zz_ev tX2_takeKey 4 L (.ref 7 :: r) M = zz_ev tX2_takeKey 7 L (.int (M.1 7 11) :: r) M) ∧
  (∀ (L : zzLc) (r : List Value) (M : zzMd), zz_ev tX2_takeKey 4 L (.ref 8 :: r) M = zz_ev tX2_takeKey 7 L (.int (M.1 8 11) :: r) M) ∧
  (∀ (L : zzLc) (r : List Value) (M : zzMd), zz_ev tX2_takeKey 4 L (.ref 9 :: r) M = zz_ev tX2_takeKey 7 L (.int (M.1 9 11) :: r) M) ∧
  (∀ (L : zzLc) (r : List Value) (M : zzMd), zz_ev tX2_takeKey 4 L (.ref 10 :: r) M = zz_ev tX2_takeKey 7 L (.int (M.1 10 11) :: r) M) ∧
  (∀ L st M, zz_ev tX2_takeKey 7 L st M = zo_icmp (fun x y => decide (y ≤ x)) 81 10 (zz_ev tX2_takeKey) L st M) ∧
  (∀ L st M, zz_ev tX2_takeKey 10 L st M = zo_aload 0 11 (zz_ev tX2_takeKey) L st M) ∧
  (∀ (L : zzLc) (r : List Value) (M : zzMd), zz_ev tX2_takeKey 11 L (.ref 3 :: r) M = zz_ev tX2_takeKey 14 L (.ref 22 :: r) M) ∧
  (∀ (L : zzLc) (r : List Value) (M : zzMd), zz_ev tX2_takeKey 11 L (.ref 4 :: r) M = zz_ev tX2_takeKey 14 L (.ref 28 :: r) M) ∧
  (∀ (L : zzLc) (r : List Value) (M : zzMd), zz_ev tX2_takeKey 11 L (.ref 5 :: r) M = zz_ev tX2_takeKey 14 L (.ref 34 :: r) M) ∧
  (∀ (L : zzLc) (r : List Value) (M : zzMd), zz_ev tX2_takeKey 11 L (.ref 6 :: r) M = zz_ev tX2_takeKey 14 L (.ref 40 :: r) M) ∧
  (∀ (L : zzLc) (r : List Value) (M : zzMd), zz_ev tX2_takeKey 11 L (.ref 7 :: r) M = zz_ev tX2_takeKey 14 L (.ref 46 :: r) M) ∧
  (∀ (L : zzLc) (r : List Value) (M : zzMd), zz_ev tX2_takeKey 11 L (.ref 8 :: r) M = zz_ev tX2_takeKey 14 L (.ref 52 :: r) M) ∧
  (∀ (L : zzLc) (r : List Value) (M : zzMd), zz_ev tX2_takeKey 11 L (.ref 9 :: r) M = zz_ev tX2_takeKey 14 L (.ref 58 :: r) M) ∧
  (∀ (L : zzLc) (r : List Value) (M : zzMd), zz_ev tX2_takeKey 11 L (.ref 10 :: r) M = zz_ev tX2_takeKey 14 L (.ref 64 :: r) M) ∧
  (∀ L st M, zz_ev tX2_takeKey 14 L st M = zo_iload 1 15 (zz_ev tX2_takeKey) L st M) ∧
  (∀ L st M, zz_ev tX2_takeKey 15 L st M = zo_iald zzSC zzSTC 16 (zz_ev tX2_takeKey) L st M) ∧
  (∀ L st M, zz_ev tX2_takeKey 16 L st M = zo_istore 2 17 (zz_ev tX2_takeKey) L st M) ∧
  (∀ L st M, zz_ev tX2_takeKey 17 L st M = zo_aload 0 18 (zz_ev tX2_takeKey) L st M) ∧
  (∀ (L : zzLc) (r : List Value) (M : zzMd), zz_ev tX2_takeKey 18 L (.ref 3 :: r) M = zz_ev tX2_takeKey 21 L (.ref 25 :: r) M) ∧
  (∀ (L : zzLc) (r : List Value) (M : zzMd), zz_ev tX2_takeKey 18 L (.ref 4 :: r) M = zz_ev tX2_takeKey 21 L (.ref 31 :: r) M) ∧
  (∀ (L : zzLc) (r : List Value) (M : zzMd), zz_ev tX2_takeKey 18 L (.ref 5 :: r) M = zz_ev tX2_takeKey 21 L (.ref 37 :: r) M) ∧
  (∀ (L : zzLc) (r : List Value) (M : zzMd), zz_ev tX2_takeKey 18 L (.ref 6 :: r) M = zz_ev tX2_takeKey 21 L (.ref 43 :: r) M) ∧
  (∀ (L : zzLc) (r : List Value) (M : zzMd), zz_ev tX2_takeKey 18 L (.ref 7 :: r) M = zz_ev tX2_takeKey 21 L (.ref 49 :: r) M) ∧
  (∀ (L : zzLc) (r : List Value) (M : zzMd), zz_ev tX2_takeKey 18 L (.ref 8 :: r) M = zz_ev tX2_takeKey 21 L (.ref 55 :: r) M) ∧
  (∀ (L : zzLc) (r : List Value) (M : zzMd), zz_ev tX2_takeKey 18 L (.ref 9 :: r) M = zz_ev tX2_takeKey 21 L (.ref 61 :: r) M) ∧
  (∀ (L : zzLc) (r : List Value) (M : zzMd), zz_ev tX2_takeKey 18 L (.ref 10 :: r) M = zz_ev tX2_takeKey 21 L (.ref 67 :: r) M) ∧
  (∀ L st M, zz_ev tX2_takeKey 21 L st M = zo_iload 2 22 (zz_ev tX2_takeKey) L st M) ∧
  (∀ L st M, zz_ev tX2_takeKey 22 L st M = zo_iald zzSC zzSTC 23 (zz_ev tX2_takeKey) L st M) ∧
  (∀ L st M, zz_ev tX2_takeKey 23 L st M = zo_aload 0 24 (zz_ev tX2_takeKey) L st M) ∧
  (∀ (L : zzLc) (r : List Value) (M : zzMd), zz_ev tX2_takeKey 24 L (.ref 3 :: r) M = zz_ev tX2_takeKey 27 L (.ref 1 :: r) M) ∧
  (∀ (L : zzLc) (r : List Value) (M : zzMd), zz_ev tX2_takeKey 24 L (.ref 4 :: r) M = zz_ev tX2_takeKey 27 L (.ref 1 :: r) M) ∧
  (∀ (L : zzLc) (r : List Value) (M : zzMd), zz_ev tX2_takeKey 24 L (.ref 5 :: r) M = zz_ev tX2_takeKey 27 L (.ref 1 :: r) M) ∧
  (∀ (L : zzLc) (r : List Value) (M : zzMd), zz_ev tX2_takeKey 24 L (.ref 6 :: r) M = zz_ev tX2_takeKey 27 L (.ref 1 :: r) M) ∧
  (∀ (L : zzLc) (r : List Value) (M : zzMd), zz_ev tX2_takeKey 24 L (.ref 7 :: r) M = zz_ev tX2_takeKey 27 L (.ref 1 :: r) M) ∧
  (∀ (L : zzLc) (r : List Value) (M : zzMd), zz_ev tX2_takeKey 24 L (.ref 8 :: r) M = zz_ev tX2_takeKey 27 L (.ref 1 :: r) M) ∧
  (∀ (L : zzLc) (r : List Value) (M : zzMd), zz_ev tX2_takeKey 24 L (.ref 9 :: r) M = zz_ev tX2_takeKey 27 L (.ref 1 :: r) M) ∧
  (∀ (L : zzLc) (r : List Value) (M : zzMd), zz_ev tX2_takeKey 24 L (.ref 10 :: r) M = zz_ev tX2_takeKey 27 L (.ref 1 :: r) M) ∧
  (∀ (L : zzLc) (r : List Value) (M : zzMd), zz_ev tX2_takeKey 27 L (.ref 1 :: r) M = zz_ev tX2_takeKey 30 L (.int (M.1 1 7) :: r) M) ∧
  (∀ L st M, zz_ev tX2_takeKey 30 L st M = zo_icmp (fun x y => decide (y < x)) 75 33 (zz_ev tX2_takeKey) L st M) ∧
  (∀ L st M, zz_ev tX2_takeKey 33 L st M = zo_aload 0 34 (zz_ev tX2_takeKey) L st M) ∧
  (∀ (L : zzLc) (r : List Value) (M : zzMd), zz_ev tX2_takeKey 34 L (.ref 3 :: r) M = zz_ev tX2_takeKey 37 L (.ref 22 :: r) M) ∧
  (∀ (L : zzLc) (r : List Value) (M : zzMd), zz_ev tX2_takeKey 34 L (.ref 4 :: r) M = zz_ev tX2_takeKey 37 L (.ref 28 :: r) M) ∧
  (∀ (L : zzLc) (r : List Value) (M : zzMd), zz_ev tX2_takeKey 34 L (.ref 5 :: r) M = zz_ev tX2_takeKey 37 L (.ref 34 :: r) M) ∧
  (∀ (L : zzLc) (r : List Value) (M : zzMd), zz_ev tX2_takeKey 34 L (.ref 6 :: r) M = zz_ev tX2_takeKey 37 L (.ref 40 :: r) M) ∧
  (∀ (L : zzLc) (r : List Value) (M : zzMd), zz_ev tX2_takeKey 34 L (.ref 7 :: r) M = zz_ev tX2_takeKey 37 L (.ref 46 :: r) M) ∧
  (∀ (L : zzLc) (r : List Value) (M : zzMd), zz_ev tX2_takeKey 34 L (.ref 8 :: r) M = zz_ev tX2_takeKey 37 L (.ref 52 :: r) M) ∧
  (∀ (L : zzLc) (r : List Value) (M : zzMd), zz_ev tX2_takeKey 34 L (.ref 9 :: r) M = zz_ev tX2_takeKey 37 L (.ref 58 :: r) M) ∧
  (∀ (L : zzLc) (r : List Value) (M : zzMd), zz_ev tX2_takeKey 34 L (.ref 10 :: r) M = zz_ev tX2_takeKey 37 L (.ref 64 :: r) M) ∧
  (∀ L st M, zz_ev tX2_takeKey 37 L st M = zo_iload 1 38 (zz_ev tX2_takeKey) L st M) ∧
  (∀ L st M, zz_ev tX2_takeKey 38 L st M = zo_pushI 1 39 (zz_ev tX2_takeKey) L st M) ∧
  (∀ L st M, zz_ev tX2_takeKey 39 L st M = zo_ii (fun x y => x + y) 40 (zz_ev tX2_takeKey) L st M) ∧
  (∀ L st M, zz_ev tX2_takeKey 40 L st M = zo_aload 0 41 (zz_ev tX2_takeKey) L st M) ∧
  (∀ (L : zzLc) (r : List Value) (M : zzMd), zz_ev tX2_takeKey 41 L (.ref 3 :: r) M = zz_ev tX2_takeKey 44 L (.ref 22 :: r) M) ∧
  (∀ (L : zzLc) (r : List Value) (M : zzMd), zz_ev tX2_takeKey 41 L (.ref 4 :: r) M = zz_ev tX2_takeKey 44 L (.ref 28 :: r) M) ∧
  (∀ (L : zzLc) (r : List Value) (M : zzMd), zz_ev tX2_takeKey 41 L (.ref 5 :: r) M = zz_ev tX2_takeKey 44 L (.ref 34 :: r) M) ∧
  (∀ (L : zzLc) (r : List Value) (M : zzMd), zz_ev tX2_takeKey 41 L (.ref 6 :: r) M = zz_ev tX2_takeKey 44 L (.ref 40 :: r) M) ∧
  (∀ (L : zzLc) (r : List Value) (M : zzMd), zz_ev tX2_takeKey 41 L (.ref 7 :: r) M = zz_ev tX2_takeKey 44 L (.ref 46 :: r) M) ∧
  (∀ (L : zzLc) (r : List Value) (M : zzMd), zz_ev tX2_takeKey 41 L (.ref 8 :: r) M = zz_ev tX2_takeKey 44 L (.ref 52 :: r) M) ∧
  (∀ (L : zzLc) (r : List Value) (M : zzMd), zz_ev tX2_takeKey 41 L (.ref 9 :: r) M = zz_ev tX2_takeKey 44 L (.ref 58 :: r) M) ∧
  (∀ (L : zzLc) (r : List Value) (M : zzMd), zz_ev tX2_takeKey 41 L (.ref 10 :: r) M = zz_ev tX2_takeKey 44 L (.ref 64 :: r) M) ∧
  (∀ L st M, zz_ev tX2_takeKey 44 L st M = zo_iload 1 45 (zz_ev tX2_takeKey) L st M) ∧
  (∀ L st M, zz_ev tX2_takeKey 45 L st M = zo_aload 0 46 (zz_ev tX2_takeKey) L st M) ∧
  (∀ (L : zzLc) (r : List Value) (M : zzMd), zz_ev tX2_takeKey 46 L (.ref 3 :: r) M = zz_ev tX2_takeKey 49 L (.int (M.1 3 11) :: r) M) ∧
  (∀ (L : zzLc) (r : List Value) (M : zzMd), zz_ev tX2_takeKey 46 L (.ref 4 :: r) M = zz_ev tX2_takeKey 49 L (.int (M.1 4 11) :: r) M) ∧
  (∀ (L : zzLc) (r : List Value) (M : zzMd), zz_ev tX2_takeKey 46 L (.ref 5 :: r) M = zz_ev tX2_takeKey 49 L (.int (M.1 5 11) :: r) M) ∧
  (∀ (L : zzLc) (r : List Value) (M : zzMd), zz_ev tX2_takeKey 46 L (.ref 6 :: r) M = zz_ev tX2_takeKey 49 L (.int (M.1 6 11) :: r) M) ∧
  (∀ (L : zzLc) (r : List Value) (M : zzMd), zz_ev tX2_takeKey 46 L (.ref 7 :: r) M = zz_ev tX2_takeKey 49 L (.int (M.1 7 11) :: r) M) ∧
  (∀ (L : zzLc) (r : List Value) (M : zzMd), zz_ev tX2_takeKey 46 L (.ref 8 :: r) M = zz_ev tX2_takeKey 49 L (.int (M.1 8 11) :: r) M) ∧
  (∀ (L : zzLc) (r : List Value) (M : zzMd), zz_ev tX2_takeKey 46 L (.ref 9 :: r) M = zz_ev tX2_takeKey 49 L (.int (M.1 9 11) :: r) M) ∧
  (∀ (L : zzLc) (r : List Value) (M : zzMd), zz_ev tX2_takeKey 46 L (.ref 10 :: r) M = zz_ev tX2_takeKey 49 L (.int (M.1 10 11) :: r) M) ∧
  (∀ L st M, zz_ev tX2_takeKey 49 L st M = zo_iload 1 50 (zz_ev tX2_takeKey) L st M) ∧
  (∀ L st M, zz_ev tX2_takeKey 50 L st M = zo_ii (fun x y => x - y) 51 (zz_ev tX2_takeKey) L st M) ∧
  (∀ L st M, zz_ev tX2_takeKey 51 L st M = zo_pushI 1 52 (zz_ev tX2_takeKey) L st M) ∧
  (∀ L st M, zz_ev tX2_takeKey 52 L st M = zo_ii (fun x y => x - y) 53 (zz_ev tX2_takeKey) L st M) ∧
  (∀ L st M, zz_ev tX2_takeKey 53 L st M = zo_copy zzSC 56 (zz_ev tX2_takeKey) L st M) ∧
  (∀ L st M, zz_ev tX2_takeKey 56 L st M = zo_aload 0 57 (zz_ev tX2_takeKey) L st M) ∧
  (∀ L st M, zz_ev tX2_takeKey 57 L st M = zo_dup 58 (zz_ev tX2_takeKey) L st M) ∧
  (∀ (L : zzLc) (r : List Value) (M : zzMd), zz_ev tX2_takeKey 58 L (.ref 3 :: r) M = zz_ev tX2_takeKey 61 L (.int (M.1 3 11) :: r) M) ∧
  (∀ (L : zzLc) (r : List Value) (M : zzMd), zz_ev tX2_takeKey 58 L (.ref 4 :: r) M = zz_ev tX2_takeKey 61 L (.int (M.1 4 11) :: r) M) ∧
  (∀ (L : zzLc) (r : List Value) (M : zzMd), zz_ev tX2_takeKey 58 L (.ref 5 :: r) M = zz_ev tX2_takeKey 61 L (.int (M.1 5 11) :: r) M) ∧
  (∀ (L : zzLc) (r : List Value) (M : zzMd), zz_ev tX2_takeKey 58 L (.ref 6 :: r) M = zz_ev tX2_takeKey 61 L (.int (M.1 6 11) :: r) M) ∧
  (∀ (L : zzLc) (r : List Value) (M : zzMd), zz_ev tX2_takeKey 58 L (.ref 7 :: r) M = zz_ev tX2_takeKey 61 L (.int (M.1 7 11) :: r) M) ∧
  (∀ (L : zzLc) (r : List Value) (M : zzMd), zz_ev tX2_takeKey 58 L (.ref 8 :: r) M = zz_ev tX2_takeKey 61 L (.int (M.1 8 11) :: r) M) ∧
  (∀ (L : zzLc) (r : List Value) (M : zzMd), zz_ev tX2_takeKey 58 L (.ref 9 :: r) M = zz_ev tX2_takeKey 61 L (.int (M.1 9 11) :: r) M) ∧
  (∀ (L : zzLc) (r : List Value) (M : zzMd), zz_ev tX2_takeKey 58 L (.ref 10 :: r) M = zz_ev tX2_takeKey 61 L (.int (M.1 10 11) :: r) M) ∧
  (∀ L st M, zz_ev tX2_takeKey 61 L st M = zo_pushI 1 62 (zz_ev tX2_takeKey) L st M) ∧
  (∀ L st M, zz_ev tX2_takeKey 62 L st M = zo_ii (fun x y => x - y) 63 (zz_ev tX2_takeKey) L st M) ∧
  (∀ (L : zzLc) (x : Int32) (r : List Value) (M : zzMd), zz_ev tX2_takeKey 63 L (.int x :: .ref 3 :: r) M = zz_ev tX2_takeKey 66 L r (zz_sI M 3 11 x)) ∧
  (∀ (L : zzLc) (x : Int32) (r : List Value) (M : zzMd), zz_ev tX2_takeKey 63 L (.int x :: .ref 4 :: r) M = zz_ev tX2_takeKey 66 L r (zz_sI M 4 11 x)) ∧
  (∀ (L : zzLc) (x : Int32) (r : List Value) (M : zzMd), zz_ev tX2_takeKey 63 L (.int x :: .ref 5 :: r) M = zz_ev tX2_takeKey 66 L r (zz_sI M 5 11 x)) ∧
  (∀ (L : zzLc) (x : Int32) (r : List Value) (M : zzMd), zz_ev tX2_takeKey 63 L (.int x :: .ref 6 :: r) M = zz_ev tX2_takeKey 66 L r (zz_sI M 6 11 x)) ∧
  (∀ (L : zzLc) (x : Int32) (r : List Value) (M : zzMd), zz_ev tX2_takeKey 63 L (.int x :: .ref 7 :: r) M = zz_ev tX2_takeKey 66 L r (zz_sI M 7 11 x)) ∧
  (∀ (L : zzLc) (x : Int32) (r : List Value) (M : zzMd), zz_ev tX2_takeKey 63 L (.int x :: .ref 8 :: r) M = zz_ev tX2_takeKey 66 L r (zz_sI M 8 11 x)) ∧
  (∀ (L : zzLc) (x : Int32) (r : List Value) (M : zzMd), zz_ev tX2_takeKey 63 L (.int x :: .ref 9 :: r) M = zz_ev tX2_takeKey 66 L r (zz_sI M 9 11 x)) ∧
  (∀ (L : zzLc) (x : Int32) (r : List Value) (M : zzMd), zz_ev tX2_takeKey 63 L (.int x :: .ref 10 :: r) M = zz_ev tX2_takeKey 66 L r (zz_sI M 10 11 x)) ∧
  (∀ L st M, zz_ev tX2_takeKey 66 L st M = zo_aload 0 67 (zz_ev tX2_takeKey) L st M) ∧
  (∀ (L : zzLc) (r : List Value) (M : zzMd), zz_ev tX2_takeKey 67 L (.ref 3 :: r) M = zz_ev tX2_takeKey 70 L (.ref 23 :: r) M) ∧
  (∀ (L : zzLc) (r : List Value) (M : zzMd), zz_ev tX2_takeKey 67 L (.ref 4 :: r) M = zz_ev tX2_takeKey 70 L (.ref 29 :: r) M) ∧
  (∀ (L : zzLc) (r : List Value) (M : zzMd), zz_ev tX2_takeKey 67 L (.ref 5 :: r) M = zz_ev tX2_takeKey 70 L (.ref 35 :: r) M) ∧
  (∀ (L : zzLc) (r : List Value) (M : zzMd), zz_ev tX2_takeKey 67 L (.ref 6 :: r) M = zz_ev tX2_takeKey 70 L (.ref 41 :: r) M) ∧
  (∀ (L : zzLc) (r : List Value) (M : zzMd), zz_ev tX2_takeKey 67 L (.ref 7 :: r) M = zz_ev tX2_takeKey 70 L (.ref 47 :: r) M) ∧
  (∀ (L : zzLc) (r : List Value) (M : zzMd), zz_ev tX2_takeKey 67 L (.ref 8 :: r) M = zz_ev tX2_takeKey 70 L (.ref 53 :: r) M) ∧
  (∀ (L : zzLc) (r : List Value) (M : zzMd), zz_ev tX2_takeKey 67 L (.ref 9 :: r) M = zz_ev tX2_takeKey 70 L (.ref 59 :: r) M) ∧
  (∀ (L : zzLc) (r : List Value) (M : zzMd), zz_ev tX2_takeKey 67 L (.ref 10 :: r) M = zz_ev tX2_takeKey 70 L (.ref 65 :: r) M) ∧
  (∀ L st M, zz_ev tX2_takeKey 70 L st M = zo_iload 2 71 (zz_ev tX2_takeKey) L st M) ∧
  (∀ L st M, zz_ev tX2_takeKey 71 L st M = zo_pushI 0 72 (zz_ev tX2_takeKey) L st M) ∧
  (∀ L st M, zz_ev tX2_takeKey 72 L st M = zo_zast zzSC 73 (zz_ev tX2_takeKey) L st M) ∧
  (∀ L st M, zz_ev tX2_takeKey 73 L st M = zo_iload 2 74 (zz_ev tX2_takeKey) L st M) ∧
  (∀ L st M, zz_ev tX2_takeKey 74 L st M = zo_iret false (zz_ev tX2_takeKey) L st M) ∧
  (∀ L st M, zz_ev tX2_takeKey 75 L st M = zo_iinc 1 1 78 (zz_ev tX2_takeKey) L st M) ∧
  (∀ L st M, zz_ev tX2_takeKey 78 L st M = zo_goto 2 (zz_ev tX2_takeKey) L st M) ∧
  (∀ L st M, zz_ev tX2_takeKey 81 L st M = zo_pushI (-1) 82 (zz_ev tX2_takeKey) L st M) ∧
  (∀ L st M, zz_ev tX2_takeKey 82 L st M = zo_iret false (zz_ev tX2_takeKey) L st M) :=
  ⟨zz_1 rfl tl_X2_takeKey, zz_1 rfl tl_X2_takeKey, zz_1 rfl tl_X2_takeKey, fun L r M => (zz_1 rfl tl_X2_takeKey _ _ _).trans rfl, fun L r M => (zz_1 rfl tl_X2_takeKey _ _ _).trans rfl, fun L r M => (zz_1 rfl tl_X2_takeKey _ _ _).trans rfl, fun L r M => (zz_1 rfl tl_X2_takeKey _ _ _).trans rfl, fun L r M => (zz_1 rfl tl_X2_takeKey _ _ _).trans rfl, fun L r M => (zz_1 rfl tl_X2_takeKey _ _ _).trans rfl, fun L r M => (zz_1 rfl tl_X2_takeKey _ _ _).trans rfl, fun L r M => (zz_1 rfl tl_X2_takeKey _ _ _).trans rfl, zz_1 rfl tl_X2_takeKey, zz_1 rfl tl_X2_takeKey, fun L r M => (zz_1 rfl tl_X2_takeKey _ _ _).trans rfl, fun L r M => (zz_1 rfl tl_X2_takeKey _ _ _).trans rfl, fun L r M => (zz_1 rfl tl_X2_takeKey _ _ _).trans rfl, fun L r M => (zz_1 rfl tl_X2_takeKey _ _ _).trans rfl, fun L r M => (zz_1 rfl tl_X2_takeKey _ _ _).trans rfl, fun L r M => (zz_1 rfl tl_X2_takeKey _ _ _).trans rfl, fun L r M => (zz_1 rfl tl_X2_takeKey _ _ _).trans rfl, fun L r M => (zz_1 rfl tl_X2_takeKey _ _ _).trans rfl, zz_1 rfl tl_X2_takeKey, zz_1 rfl tl_X2_takeKey, zz_1 rfl tl_X2_takeKey, zz_1 rfl tl_X2_takeKey, fun L r M => (zz_1 rfl tl_X2_takeKey _ _ _).trans rfl, fun L r M => (zz_1 rfl tl_X2_takeKey _ _ _).trans rfl, fun L r M => (zz_1 rfl tl_X2_takeKey _ _ _).trans rfl, fun L r M => (zz_1 rfl tl_X2_takeKey _ _ _).trans rfl, fun L r M => (zz_1 rfl tl_X2_takeKey _ _ _).trans rfl, fun L r M => (zz_1 rfl tl_X2_takeKey _ _ _).trans rfl, fun L r M => (zz_1 rfl tl_X2_takeKey _ _ _).trans rfl, fun L r M => (zz_1 rfl tl_X2_takeKey _ _ _).trans rfl, zz_1 rfl tl_X2_takeKey, zz_1 rfl tl_X2_takeKey, zz_1 rfl tl_X2_takeKey, fun L r M => (zz_1 rfl tl_X2_takeKey _ _ _).trans rfl, fun L r M => (zz_1 rfl tl_X2_takeKey _ _ _).trans rfl, fun L r M => (zz_1 rfl tl_X2_takeKey _ _ _).trans rfl, fun L r M => (zz_1 rfl tl_X2_takeKey _ _ _).trans rfl, fun L r M => (zz_1 rfl tl_X2_takeKey _ _ _).trans rfl, fun L r M => (zz_1 rfl tl_X2_takeKey _ _ _).trans rfl, fun L r M => (zz_1 rfl tl_X2_takeKey _ _ _).trans rfl, fun L r M => (zz_1 rfl tl_X2_takeKey _ _ _).trans rfl, fun L r M => (zz_1 rfl tl_X2_takeKey _ _ _).trans rfl, zz_1 rfl tl_X2_takeKey, zz_1 rfl tl_X2_takeKey, fun L r M => (zz_1 rfl tl_X2_takeKey _ _ _).trans rfl, fun L r M => (zz_1 rfl tl_X2_takeKey _ _ _).trans rfl, fun L r M => (zz_1 rfl tl_X2_takeKey _ _ _).trans rfl, fun L r M => (zz_1 rfl tl_X2_takeKey _ _ _).trans rfl, fun L r M => (zz_1 rfl tl_X2_takeKey _ _ _).trans rfl, fun L r M => (zz_1 rfl tl_X2_takeKey _ _ _).trans rfl, fun L r M => (zz_1 rfl tl_X2_takeKey _ _ _).trans rfl, fun L r M => (zz_1 rfl tl_X2_takeKey _ _ _).trans rfl, zz_1 rfl tl_X2_takeKey, zz_1 rfl tl_X2_takeKey, zz_1 rfl tl_X2_takeKey, zz_1 rfl tl_X2_takeKey, fun L r M => (zz_1 rfl tl_X2_takeKey _ _ _).trans rfl, fun L r M => (zz_1 rfl tl_X2_takeKey _ _ _).trans rfl, fun L r M => (zz_1 rfl tl_X2_takeKey _ _ _).trans rfl, fun L r M => (zz_1 rfl tl_X2_takeKey _ _ _).trans rfl, fun L r M => (zz_1 rfl tl_X2_takeKey _ _ _).trans rfl, fun L r M => (zz_1 rfl tl_X2_takeKey _ _ _).trans rfl, fun L r M => (zz_1 rfl tl_X2_takeKey _ _ _).trans rfl, fun L r M => (zz_1 rfl tl_X2_takeKey _ _ _).trans rfl, zz_1 rfl tl_X2_takeKey, zz_1 rfl tl_X2_takeKey, fun L r M => (zz_1 rfl tl_X2_takeKey _ _ _).trans rfl, fun L r M => (zz_1 rfl tl_X2_takeKey _ _ _).trans rfl, fun L r M => (zz_1 rfl tl_X2_takeKey _ _ _).trans rfl, fun L r M => (zz_1 rfl tl_X2_takeKey _ _ _).trans rfl, fun L r M => (zz_1 rfl tl_X2_takeKey _ _ _).trans rfl, fun L r M => (zz_1 rfl tl_X2_takeKey _ _ _).trans rfl, fun L r M => (zz_1 rfl tl_X2_takeKey _ _ _).trans rfl, fun L r M => (zz_1 rfl tl_X2_takeKey _ _ _).trans rfl, zz_1 rfl tl_X2_takeKey, zz_1 rfl tl_X2_takeKey, zz_1 rfl tl_X2_takeKey, zz_1 rfl tl_X2_takeKey, zz_1 rfl tl_X2_takeKey, zz_1 rfl tl_X2_takeKey, zz_1 rfl tl_X2_takeKey, fun L r M => (zz_1 rfl tl_X2_takeKey _ _ _).trans rfl, fun L r M => (zz_1 rfl tl_X2_takeKey _ _ _).trans rfl, fun L r M => (zz_1 rfl tl_X2_takeKey _ _ _).trans rfl, fun L r M => (zz_1 rfl tl_X2_takeKey _ _ _).trans rfl, fun L r M => (zz_1 rfl tl_X2_takeKey _ _ _).trans rfl, fun L r M => (zz_1 rfl tl_X2_takeKey _ _ _).trans rfl, fun L r M => (zz_1 rfl tl_X2_takeKey _ _ _).trans rfl, fun L r M => (zz_1 rfl tl_X2_takeKey _ _ _).trans rfl, zz_1 rfl tl_X2_takeKey, zz_1 rfl tl_X2_takeKey, fun L x r M => (zz_1 rfl tl_X2_takeKey _ _ _).trans rfl, fun L x r M => (zz_1 rfl tl_X2_takeKey _ _ _).trans rfl, fun L x r M => (zz_1 rfl tl_X2_takeKey _ _ _).trans rfl, fun L x r M => (zz_1 rfl tl_X2_takeKey _ _ _).trans rfl, fun L x r M => (zz_1 rfl tl_X2_takeKey _ _ _).trans rfl, fun L x r M => (zz_1 rfl tl_X2_takeKey _ _ _).trans rfl, fun L x r M => (zz_1 rfl tl_X2_takeKey _ _ _).trans rfl, fun L x r M => (zz_1 rfl tl_X2_takeKey _ _ _).trans rfl, zz_1 rfl tl_X2_takeKey, fun L r M => (zz_1 rfl tl_X2_takeKey _ _ _).trans rfl, fun L r M => (zz_1 rfl tl_X2_takeKey _ _ _).trans rfl, fun L r M => (zz_1 rfl tl_X2_takeKey _ _ _).trans rfl, fun L r M => (zz_1 rfl tl_X2_takeKey _ _ _).trans rfl, fun L r M => (zz_1 rfl tl_X2_takeKey _ _ _).trans rfl, fun L r M => (zz_1 rfl tl_X2_takeKey _ _ _).trans rfl, fun L r M => (zz_1 rfl tl_X2_takeKey _ _ _).trans rfl, fun L r M => (zz_1 rfl tl_X2_takeKey _ _ _).trans rfl, zz_1 rfl tl_X2_takeKey, zz_1 rfl tl_X2_takeKey, zz_1 rfl tl_X2_takeKey, zz_1 rfl tl_X2_takeKey, zz_1 rfl tl_X2_takeKey, zz_1 rfl tl_X2_takeKey, zz_1 rfl tl_X2_takeKey, zz_1 rfl tl_X2_takeKey, zz_1 rfl tl_X2_takeKey⟩
set_option maxRecDepth 100000 in
theorem e_X2_takeKey_2 : (∀ L st M, zz_ev tX2_takeKey 2 L st M = zo_iload 1 3 (zz_ev tX2_takeKey) L st M) := zz_1 rfl tl_X2_takeKey
set_option maxRecDepth 100000 in
theorem s_X2_takeKey (v : Nat) (M : zzMd) : fX2_takeKey [.ref v] M = zz_ev tX2_takeKey 0 [some (.ref v), none, none] [] M := rfl
set_option maxRecDepth 100000 in
theorem e_X2_makeFor : (∀ L st M, zz_ev tX2_makeFor 0 L st M = zo_aload 0 1 (zz_ev tX2_makeFor) L st M) ∧
  (∀ (L : zzLc) (r : List Value) (M : zzMd), zz_ev tX2_makeFor 1 L (.ref 3 :: r) M = zz_ev tX2_makeFor 4 L (.ref 1 :: r) M) ∧
  (∀ (L : zzLc) (r : List Value) (M : zzMd), zz_ev tX2_makeFor 1 L (.ref 4 :: r) M = zz_ev tX2_makeFor 4 L (.ref 1 :: r) M) ∧
  (∀ (L : zzLc) (r : List Value) (M : zzMd), zz_ev tX2_makeFor 1 L (.ref 5 :: r) M = zz_ev tX2_makeFor 4 L (.ref 1 :: r) M) ∧
  (∀ (L : zzLc) (r : List Value) (M : zzMd), zz_ev tX2_makeFor 1 L (.ref 6 :: r) M = zz_ev tX2_makeFor 4 L (.ref 1 :: r) M) ∧
  (∀ (L : zzLc) (r : List Value) (M : zzMd), zz_ev tX2_makeFor 1 L (.ref 7 :: r) M = zz_ev tX2_makeFor 4 L (.ref 1 :: r) M) ∧
  (∀ (L : zzLc) (r : List Value) (M : zzMd), zz_ev tX2_makeFor 1 L (.ref 8 :: r) M = zz_ev tX2_makeFor 4 L (.ref 1 :: r) M) ∧
  (∀ (L : zzLc) (r : List Value) (M : zzMd), zz_ev tX2_makeFor 1 L (.ref 9 :: r) M = zz_ev tX2_makeFor 4 L (.ref 1 :: r) M) ∧
  (∀ (L : zzLc) (r : List Value) (M : zzMd), zz_ev tX2_makeFor 1 L (.ref 10 :: r) M = zz_ev tX2_makeFor 4 L (.ref 1 :: r) M) ∧
  (∀ L st M, zz_ev tX2_makeFor 4 L st M = zo_pushI 4 5 (zz_ev tX2_makeFor) L st M) ∧
  (∀ L st M, zz_ev tX2_makeFor 5 L st M = zo_iload 2 6 (zz_ev tX2_makeFor) L st M) ∧
  (∀ L st M, zz_ev tX2_makeFor 6 L st M = zo_iload 1 7 (zz_ev tX2_makeFor) L st M) ∧
  (∀ L st M, zz_ev tX2_makeFor 7 L st M = zo_aload 0 8 (zz_ev tX2_makeFor) L st M) ∧
  (∀ L st M, zz_ev tX2_makeFor 8 L st M = zo_iload 1 9 (zz_ev tX2_makeFor) L st M) ∧
  (∀ L st M, zz_ev tX2_makeFor 9 L st M = zo_pushI 1 10 (zz_ev tX2_makeFor) L st M) ∧
  (∀ (L : zzLc) (a0 a1 : Int32) (r : List Value) (M : zzMd), zz_ev tX2_makeFor 10 L (.int a1 :: .int a0 :: .ref 8 :: r) M = bif zz_cat8 r then zz_backN (zz_ev tX2_makeFor) 13 L r (fX10_read [.ref 8, .int a0, .int a1] M) else none) ∧
  (∀ (L : zzLc) (a0 a1 : Int32) (r : List Value) (M : zzMd), zz_ev tX2_makeFor 10 L (.int a1 :: .int a0 :: .ref 3 :: r) M = bif zz_cat8 r then zz_backN (zz_ev tX2_makeFor) 13 L r (fX10_read [.ref 3, .int a0, .int a1] M) else none) ∧
  (∀ (L : zzLc) (a0 a1 : Int32) (r : List Value) (M : zzMd), zz_ev tX2_makeFor 10 L (.int a1 :: .int a0 :: .ref 4 :: r) M = bif zz_cat8 r then zz_backN (zz_ev tX2_makeFor) 13 L r (fX10_read [.ref 4, .int a0, .int a1] M) else none) ∧
  (∀ (L : zzLc) (a0 a1 : Int32) (r : List Value) (M : zzMd), zz_ev tX2_makeFor 10 L (.int a1 :: .int a0 :: .ref 5 :: r) M = bif zz_cat8 r then zz_backN (zz_ev tX2_makeFor) 13 L r (fX10_read [.ref 5, .int a0, .int a1] M) else none) ∧
  (∀ (L : zzLc) (a0 a1 : Int32) (r : List Value) (M : zzMd), zz_ev tX2_makeFor 10 L (.int a1 :: .int a0 :: .ref 9 :: r) M = bif zz_cat8 r then zz_backN (zz_ev tX2_makeFor) 13 L r (fX10_read [.ref 9, .int a0, .int a1] M) else none) ∧
  (∀ (L : zzLc) (a0 a1 : Int32) (r : List Value) (M : zzMd), zz_ev tX2_makeFor 10 L (.int a1 :: .int a0 :: .ref 7 :: r) M = bif zz_cat8 r then zz_backN (zz_ev tX2_makeFor) 13 L r (fX10_read [.ref 7, .int a0, .int a1] M) else none) ∧
  (∀ (L : zzLc) (a0 a1 : Int32) (r : List Value) (M : zzMd), zz_ev tX2_makeFor 10 L (.int a1 :: .int a0 :: .ref 10 :: r) M = bif zz_cat8 r then zz_backN (zz_ev tX2_makeFor) 13 L r (fX10_read [.ref 10, .int a0, .int a1] M) else none) ∧
  (∀ (L : zzLc) (a0 a1 : Int32) (r : List Value) (M : zzMd), zz_ev tX2_makeFor 10 L (.int a1 :: .int a0 :: .ref 6 :: r) M = bif zz_cat8 r then zz_backN (zz_ev tX2_makeFor) 13 L r (fX10_read [.ref 6, .int a0, .int a1] M) else none) ∧
  (∀ (L : zzLc) (a0 a1 a2 a3 : Int32) (r : List Value) (M : zzMd), zz_ev tX2_makeFor 13 L (.int a3 :: .int a2 :: .int a1 :: .int a0 :: .ref 1 :: r) M = bif zz_cat8 r then zz_backN (zz_ev tX2_makeFor) 16 L r (fX9_open [.ref 1, .int a0, .int a1, .int a2, .int a3] M) else none) ∧
  (∀ L st M, zz_ev tX2_makeFor 16 L st M = zo_pushI (-1) 17 (zz_ev tX2_makeFor) L st M) ∧
  (∀ L st M, zz_ev tX2_makeFor 17 L st M = zo_icmp (fun x y => decide (x = y)) 24 20 (zz_ev tX2_makeFor) L st M) ∧
  (∀ L st M, zz_ev tX2_makeFor 20 L st M = zo_pushI 1 21 (zz_ev tX2_makeFor) L st M) ∧
  (∀ L st M, zz_ev tX2_makeFor 21 L st M = zo_goto 25 (zz_ev tX2_makeFor) L st M) ∧
  (∀ L st M, zz_ev tX2_makeFor 24 L st M = zo_pushI 0 25 (zz_ev tX2_makeFor) L st M) ∧
  (∀ L st M, zz_ev tX2_makeFor 25 L st M = zo_iret true (zz_ev tX2_makeFor) L st M) :=
  ⟨zz_1 rfl tl_X2_makeFor, fun L r M => (zz_1 rfl tl_X2_makeFor _ _ _).trans rfl, fun L r M => (zz_1 rfl tl_X2_makeFor _ _ _).trans rfl, fun L r M => (zz_1 rfl tl_X2_makeFor _ _ _).trans rfl, fun L r M => (zz_1 rfl tl_X2_makeFor _ _ _).trans rfl, fun L r M => (zz_1 rfl tl_X2_makeFor _ _ _).trans rfl, fun L r M => (zz_1 rfl tl_X2_makeFor _ _ _).trans rfl, fun L r M => (zz_1 rfl tl_X2_makeFor _ _ _).trans rfl, fun L r M => (zz_1 rfl tl_X2_makeFor _ _ _).trans rfl, zz_1 rfl tl_X2_makeFor, zz_1 rfl tl_X2_makeFor, zz_1 rfl tl_X2_makeFor, zz_1 rfl tl_X2_makeFor, zz_1 rfl tl_X2_makeFor, zz_1 rfl tl_X2_makeFor, fun L a0 a1 r M => (zz_1 rfl tl_X2_makeFor _ _ _).trans rfl, fun L a0 a1 r M => (zz_1 rfl tl_X2_makeFor _ _ _).trans rfl, fun L a0 a1 r M => (zz_1 rfl tl_X2_makeFor _ _ _).trans rfl, fun L a0 a1 r M => (zz_1 rfl tl_X2_makeFor _ _ _).trans rfl, fun L a0 a1 r M => (zz_1 rfl tl_X2_makeFor _ _ _).trans rfl, fun L a0 a1 r M => (zz_1 rfl tl_X2_makeFor _ _ _).trans rfl, fun L a0 a1 r M => (zz_1 rfl tl_X2_makeFor _ _ _).trans rfl, fun L a0 a1 r M => (zz_1 rfl tl_X2_makeFor _ _ _).trans rfl, fun L a0 a1 a2 a3 r M => (zz_1 rfl tl_X2_makeFor _ _ _).trans rfl, zz_1 rfl tl_X2_makeFor, zz_1 rfl tl_X2_makeFor, zz_1 rfl tl_X2_makeFor, zz_1 rfl tl_X2_makeFor, zz_1 rfl tl_X2_makeFor, zz_1 rfl tl_X2_makeFor⟩
set_option maxRecDepth 100000 in
theorem s_X2_makeFor (a0 a1 : Int32) (v : Nat) (M : zzMd) : fX2_makeFor [.ref v, .int a0, .int a1] M = zz_ev tX2_makeFor 0 [some (.ref v), some (.int a0), some (.int a1)] [] M := rfl
set_option maxRecDepth 100000 in
theorem e_X2_want : (∀ L st M, zz_ev tX2_want 0 L st M = zo_aload 0 1 (zz_ev tX2_want) L st M) ∧
  (∀ L st M, zz_ev tX2_want 1 L st M = zo_iload 1 2 (zz_ev tX2_want) L st M) ∧
  (∀ L st M, zz_ev tX2_want 2 L st M = zo_pushI 0 3 (zz_ev tX2_want) L st M) ∧
  (∀ (L : zzLc) (a0 a1 : Int32) (r : List Value) (M : zzMd), zz_ev tX2_want 3 L (.int a1 :: .int a0 :: .ref 8 :: r) M = bif zz_cat8 r then zz_backN (zz_ev tX2_want) 6 L r (fX10_read [.ref 8, .int a0, .int a1] M) else none) ∧
  (∀ (L : zzLc) (a0 a1 : Int32) (r : List Value) (M : zzMd), zz_ev tX2_want 3 L (.int a1 :: .int a0 :: .ref 3 :: r) M = bif zz_cat8 r then zz_backN (zz_ev tX2_want) 6 L r (fX10_read [.ref 3, .int a0, .int a1] M) else none) ∧
  (∀ (L : zzLc) (a0 a1 : Int32) (r : List Value) (M : zzMd), zz_ev tX2_want 3 L (.int a1 :: .int a0 :: .ref 4 :: r) M = bif zz_cat8 r then zz_backN (zz_ev tX2_want) 6 L r (fX10_read [.ref 4, .int a0, .int a1] M) else none) ∧
  (∀ (L : zzLc) (a0 a1 : Int32) (r : List Value) (M : zzMd), zz_ev tX2_want 3 L (.int a1 :: .int a0 :: .ref 5 :: r) M = bif zz_cat8 r then zz_backN (zz_ev tX2_want) 6 L r (fX10_read [.ref 5, .int a0, .int a1] M) else none) ∧
  (∀ (L : zzLc) (a0 a1 : Int32) (r : List Value) (M : zzMd), zz_ev tX2_want 3 L (.int a1 :: .int a0 :: .ref 9 :: r) M = bif zz_cat8 r then zz_backN (zz_ev tX2_want) 6 L r (fX10_read [.ref 9, .int a0, .int a1] M) else none) ∧
  (∀ (L : zzLc) (a0 a1 : Int32) (r : List Value) (M : zzMd), zz_ev tX2_want 3 L (.int a1 :: .int a0 :: .ref 7 :: r) M = bif zz_cat8 r then zz_backN (zz_ev tX2_want) 6 L r (fX10_read [.ref 7, .int a0, .int a1] M) else none) ∧
  (∀ (L : zzLc) (a0 a1 : Int32) (r : List Value) (M : zzMd), zz_ev tX2_want 3 L (.int a1 :: .int a0 :: .ref 10 :: r) M = bif zz_cat8 r then zz_backN (zz_ev tX2_want) 6 L r (fX10_read [.ref 10, .int a0, .int a1] M) else none) ∧
  (∀ (L : zzLc) (a0 a1 : Int32) (r : List Value) (M : zzMd), zz_ev tX2_want 3 L (.int a1 :: .int a0 :: .ref 6 :: r) M = bif zz_cat8 r then zz_backN (zz_ev tX2_want) 6 L r (fX10_read [.ref 6, .int a0, .int a1] M) else none) ∧
  (∀ L st M, zz_ev tX2_want 6 L st M = zo_iload 2 7 (zz_ev tX2_want) L st M) ∧
  (∀ L st M, zz_ev tX2_want 7 L st M = zo_icmp (fun x y => decide (¬ x = y)) 12 10 (zz_ev tX2_want) L st M) ∧
  (∀ L st M, zz_ev tX2_want 10 L st M = zo_pushI 1 11 (zz_ev tX2_want) L st M) ∧
  (∀ L st M, zz_ev tX2_want 11 L st M = zo_iret true (zz_ev tX2_want) L st M) ∧
  (∀ L st M, zz_ev tX2_want 12 L st M = zo_aload 0 13 (zz_ev tX2_want) L st M) ∧
  (∀ L st M, zz_ev tX2_want 13 L st M = zo_iload 1 14 (zz_ev tX2_want) L st M) ∧
  (∀ (L : zzLc) (a0 : Int32) (r : List Value) (M : zzMd), zz_ev tX2_want 14 L (.int a0 :: .ref 8 :: r) M = bif zz_cat8 r then zz_backN (zz_ev tX2_want) 17 L r (fX2_isUpToDate [.ref 8, .int a0] M) else none) ∧
  (∀ (L : zzLc) (a0 : Int32) (r : List Value) (M : zzMd), zz_ev tX2_want 14 L (.int a0 :: .ref 3 :: r) M = bif zz_cat8 r then zz_backN (zz_ev tX2_want) 17 L r (fX2_isUpToDate [.ref 3, .int a0] M) else none) ∧
  (∀ (L : zzLc) (a0 : Int32) (r : List Value) (M : zzMd), zz_ev tX2_want 14 L (.int a0 :: .ref 4 :: r) M = bif zz_cat8 r then zz_backN (zz_ev tX2_want) 17 L r (fX2_isUpToDate [.ref 4, .int a0] M) else none) ∧
  (∀ (L : zzLc) (a0 : Int32) (r : List Value) (M : zzMd), zz_ev tX2_want 14 L (.int a0 :: .ref 5 :: r) M = bif zz_cat8 r then zz_backN (zz_ev tX2_want) 17 L r (fX2_isUpToDate [.ref 5, .int a0] M) else none) ∧
  (∀ (L : zzLc) (a0 : Int32) (r : List Value) (M : zzMd), zz_ev tX2_want 14 L (.int a0 :: .ref 9 :: r) M = bif zz_cat8 r then zz_backN (zz_ev tX2_want) 17 L r (fX2_isUpToDate [.ref 9, .int a0] M) else none) ∧
  (∀ (L : zzLc) (a0 : Int32) (r : List Value) (M : zzMd), zz_ev tX2_want 14 L (.int a0 :: .ref 7 :: r) M = bif zz_cat8 r then zz_backN (zz_ev tX2_want) 17 L r (fX2_isUpToDate [.ref 7, .int a0] M) else none) ∧
  (∀ (L : zzLc) (a0 : Int32) (r : List Value) (M : zzMd), zz_ev tX2_want 14 L (.int a0 :: .ref 10 :: r) M = bif zz_cat8 r then zz_backN (zz_ev tX2_want) 17 L r (fX2_isUpToDate [.ref 10, .int a0] M) else none) ∧
  (∀ (L : zzLc) (a0 : Int32) (r : List Value) (M : zzMd), zz_ev tX2_want 14 L (.int a0 :: .ref 6 :: r) M = bif zz_cat8 r then zz_backN (zz_ev tX2_want) 17 L r (fX2_isUpToDate [.ref 6, .int a0] M) else none) ∧
  (∀ L st M, zz_ev tX2_want 17 L st M = zo_if (fun x => decide (x = 0)) 38 20 (zz_ev tX2_want) L st M) ∧
  (∀ L st M, zz_ev tX2_want 20 L st M = zo_aload 0 21 (zz_ev tX2_want) L st M) ∧
  (∀ (L : zzLc) (r : List Value) (M : zzMd), zz_ev tX2_want 21 L (.ref 3 :: r) M = zz_ev tX2_want 24 L (.ref 1 :: r) M) ∧
  (∀ (L : zzLc) (r : List Value) (M : zzMd), zz_ev tX2_want 21 L (.ref 4 :: r) M = zz_ev tX2_want 24 L (.ref 1 :: r) M) ∧
  (∀ (L : zzLc) (r : List Value) (M : zzMd), zz_ev tX2_want 21 L (.ref 5 :: r) M = zz_ev tX2_want 24 L (.ref 1 :: r) M) ∧
  (∀ (L : zzLc) (r : List Value) (M : zzMd), zz_ev tX2_want 21 L (.ref 6 :: r) M = zz_ev tX2_want 24 L (.ref 1 :: r) M) ∧
  (∀ (L : zzLc) (r : List Value) (M : zzMd), zz_ev tX2_want 21 L (.ref 7 :: r) M = zz_ev tX2_want 24 L (.ref 1 :: r) M) ∧
  (∀ (L : zzLc) (r : List Value) (M : zzMd), zz_ev tX2_want 21 L (.ref 8 :: r) M = zz_ev tX2_want 24 L (.ref 1 :: r) M) ∧
  (∀ (L : zzLc) (r : List Value) (M : zzMd), zz_ev tX2_want 21 L (.ref 9 :: r) M = zz_ev tX2_want 24 L (.ref 1 :: r) M) ∧
  (∀ (L : zzLc) (r : List Value) (M : zzMd), zz_ev tX2_want 21 L (.ref 10 :: r) M = zz_ev tX2_want 24 L (.ref 1 :: r) M) ∧
  (∀ L st M, zz_ev tX2_want 24 L st M = zo_pushI 4 25 (zz_ev tX2_want) L st M) ∧
  (∀ L st M, zz_ev tX2_want 25 L st M = zo_iload 1 26 (zz_ev tX2_want) L st M) ∧
  (∀ L st M, zz_ev tX2_want 26 L st M = zo_pushI 0 27 (zz_ev tX2_want) L st M) ∧
  (∀ L st M, zz_ev tX2_want 27 L st M = zo_iload 2 28 (zz_ev tX2_want) L st M) ∧
  (∀ (L : zzLc) (a0 a1 a2 a3 : Int32) (r : List Value) (M : zzMd), zz_ev tX2_want 28 L (.int a3 :: .int a2 :: .int a1 :: .int a0 :: .ref 1 :: r) M = bif zz_cat8 r then zz_backN (zz_ev tX2_want) 31 L r (fX9_applyField [.ref 1, .int a0, .int a1, .int a2, .int a3] M) else none) ∧
  (∀ L st M, zz_ev tX2_want 31 L st M = zo_if (fun x => decide (x = 0)) 38 34 (zz_ev tX2_want) L st M) ∧
  (∀ L st M, zz_ev tX2_want 34 L st M = zo_pushI 1 35 (zz_ev tX2_want) L st M) ∧
  (∀ L st M, zz_ev tX2_want 35 L st M = zo_goto 39 (zz_ev tX2_want) L st M) ∧
  (∀ L st M, zz_ev tX2_want 38 L st M = zo_pushI 0 39 (zz_ev tX2_want) L st M) ∧
  (∀ L st M, zz_ev tX2_want 39 L st M = zo_iret true (zz_ev tX2_want) L st M) :=
  ⟨zz_1 rfl tl_X2_want, zz_1 rfl tl_X2_want, zz_1 rfl tl_X2_want, fun L a0 a1 r M => (zz_1 rfl tl_X2_want _ _ _).trans rfl, fun L a0 a1 r M => (zz_1 rfl tl_X2_want _ _ _).trans rfl, fun L a0 a1 r M => (zz_1 rfl tl_X2_want _ _ _).trans rfl, fun L a0 a1 r M => (zz_1 rfl tl_X2_want _ _ _).trans rfl, fun L a0 a1 r M => (zz_1 rfl tl_X2_want _ _ _).trans rfl, fun L a0 a1 r M => (zz_1 rfl tl_X2_want _ _ _).trans rfl, fun L a0 a1 r M => (zz_1 rfl tl_X2_want _ _ _).trans rfl, fun L a0 a1 r M => (zz_1 rfl tl_X2_want _ _ _).trans rfl, zz_1 rfl tl_X2_want, zz_1 rfl tl_X2_want, zz_1 rfl tl_X2_want, zz_1 rfl tl_X2_want, zz_1 rfl tl_X2_want, zz_1 rfl tl_X2_want, fun L a0 r M => (zz_1 rfl tl_X2_want _ _ _).trans rfl, fun L a0 r M => (zz_1 rfl tl_X2_want _ _ _).trans rfl, fun L a0 r M => (zz_1 rfl tl_X2_want _ _ _).trans rfl, fun L a0 r M => (zz_1 rfl tl_X2_want _ _ _).trans rfl, fun L a0 r M => (zz_1 rfl tl_X2_want _ _ _).trans rfl, fun L a0 r M => (zz_1 rfl tl_X2_want _ _ _).trans rfl, fun L a0 r M => (zz_1 rfl tl_X2_want _ _ _).trans rfl, fun L a0 r M => (zz_1 rfl tl_X2_want _ _ _).trans rfl, zz_1 rfl tl_X2_want, zz_1 rfl tl_X2_want, fun L r M => (zz_1 rfl tl_X2_want _ _ _).trans rfl, fun L r M => (zz_1 rfl tl_X2_want _ _ _).trans rfl, fun L r M => (zz_1 rfl tl_X2_want _ _ _).trans rfl, fun L r M => (zz_1 rfl tl_X2_want _ _ _).trans rfl, fun L r M => (zz_1 rfl tl_X2_want _ _ _).trans rfl, fun L r M => (zz_1 rfl tl_X2_want _ _ _).trans rfl, fun L r M => (zz_1 rfl tl_X2_want _ _ _).trans rfl, fun L r M => (zz_1 rfl tl_X2_want _ _ _).trans rfl, zz_1 rfl tl_X2_want, zz_1 rfl tl_X2_want, zz_1 rfl tl_X2_want, zz_1 rfl tl_X2_want, fun L a0 a1 a2 a3 r M => (zz_1 rfl tl_X2_want _ _ _).trans rfl, zz_1 rfl tl_X2_want, zz_1 rfl tl_X2_want, zz_1 rfl tl_X2_want, zz_1 rfl tl_X2_want, zz_1 rfl tl_X2_want⟩
set_option maxRecDepth 100000 in
theorem s_X2_want (a0 a1 : Int32) (v : Nat) (M : zzMd) : fX2_want [.ref v, .int a0, .int a1] M = zz_ev tX2_want 0 [some (.ref v), some (.int a0), some (.int a1)] [] M := rfl
set_option maxRecDepth 100000 in
theorem e_X3_wantedTogether : (∀ L st M, zz_ev tX3_wantedTogether 0 L st M = zo_pushI 0 1 (zz_ev tX3_wantedTogether) L st M) ∧
  (∀ L st M, zz_ev tX3_wantedTogether 1 L st M = zo_istore 2 2 (zz_ev tX3_wantedTogether) L st M) ∧
  (∀ L st M, zz_ev tX3_wantedTogether 2 L st M = zo_pushI 0 3 (zz_ev tX3_wantedTogether) L st M) ∧
  (∀ L st M, zz_ev tX3_wantedTogether 3 L st M = zo_istore 3 4 (zz_ev tX3_wantedTogether) L st M) ∧
  (∀ L st M, zz_ev tX3_wantedTogether 5 L st M = zo_aload 0 6 (zz_ev tX3_wantedTogether) L st M) ∧
  (∀ (L : zzLc) (r : List Value) (M : zzMd), zz_ev tX3_wantedTogether 6 L (.ref 3 :: r) M = zz_ev tX3_wantedTogether 9 L (.int (M.1 3 2) :: r) M) ∧
  (∀ L st M, zz_ev tX3_wantedTogether 9 L st M = zo_icmp (fun x y => decide (y ≤ x)) 41 12 (zz_ev tX3_wantedTogether) L st M) ∧
  (∀ L st M, zz_ev tX3_wantedTogether 12 L st M = zo_iload 2 13 (zz_ev tX3_wantedTogether) L st M) ∧
  (∀ L st M, zz_ev tX3_wantedTogether 13 L st M = zo_aload 0 14 (zz_ev tX3_wantedTogether) L st M) ∧
  (∀ L st M, zz_ev tX3_wantedTogether 14 L st M = zo_iload 3 15 (zz_ev tX3_wantedTogether) L st M) ∧
  (∀ L st M, zz_ev tX3_wantedTogether 15 L st M = zo_pushI 1 16 (zz_ev tX3_wantedTogether) L st M) ∧
  (∀ L st M, zz_ev tX3_wantedTogether 16 L st M = zo_iload 1 17 (zz_ev tX3_wantedTogether) L st M) ∧
  (∀ (L : zzLc) (a0 a1 a2 : Int32) (r : List Value) (M : zzMd), zz_ev tX3_wantedTogether 17 L (.int a2 :: .int a1 :: .int a0 :: .ref 3 :: r) M = bif zz_cat8 r then zz_backN (zz_ev tX3_wantedTogether) 20 L r (fX10_isOwned [.ref 3, .int a0, .int a1, .int a2] M) else none) ∧
  (∀ L st M, zz_ev tX3_wantedTogether 20 L st M = zo_if (fun x => decide (x = 0)) 32 23 (zz_ev tX3_wantedTogether) L st M) ∧
  (∀ L st M, zz_ev tX3_wantedTogether 23 L st M = zo_aload 0 24 (zz_ev tX3_wantedTogether) L st M) ∧
  (∀ L st M, zz_ev tX3_wantedTogether 24 L st M = zo_iload 3 25 (zz_ev tX3_wantedTogether) L st M) ∧
  (∀ L st M, zz_ev tX3_wantedTogether 25 L st M = zo_pushI 0 26 (zz_ev tX3_wantedTogether) L st M) ∧
  (∀ (L : zzLc) (a0 a1 : Int32) (r : List Value) (M : zzMd), zz_ev tX3_wantedTogether 26 L (.int a1 :: .int a0 :: .ref 3 :: r) M = bif zz_cat8 r then zz_backN (zz_ev tX3_wantedTogether) 29 L r (fX10_read [.ref 3, .int a0, .int a1] M) else none) ∧
  (∀ L st M, zz_ev tX3_wantedTogether 29 L st M = zo_goto 33 (zz_ev tX3_wantedTogether) L st M) ∧
  (∀ L st M, zz_ev tX3_wantedTogether 32 L st M = zo_pushI 0 33 (zz_ev tX3_wantedTogether) L st M) ∧
  (∀ L st M, zz_ev tX3_wantedTogether 33 L st M = zo_ii (fun x y => x + y) 34 (zz_ev tX3_wantedTogether) L st M) ∧
  (∀ L st M, zz_ev tX3_wantedTogether 34 L st M = zo_istore 2 35 (zz_ev tX3_wantedTogether) L st M) ∧
  (∀ L st M, zz_ev tX3_wantedTogether 35 L st M = zo_iinc 3 1 38 (zz_ev tX3_wantedTogether) L st M) ∧
  (∀ L st M, zz_ev tX3_wantedTogether 38 L st M = zo_goto 4 (zz_ev tX3_wantedTogether) L st M) ∧
  (∀ L st M, zz_ev tX3_wantedTogether 41 L st M = zo_iload 2 42 (zz_ev tX3_wantedTogether) L st M) ∧
  (∀ L st M, zz_ev tX3_wantedTogether 42 L st M = zo_iret false (zz_ev tX3_wantedTogether) L st M) :=
  ⟨zz_1 rfl tl_X3_wantedTogether, zz_1 rfl tl_X3_wantedTogether, zz_1 rfl tl_X3_wantedTogether, zz_1 rfl tl_X3_wantedTogether, zz_1 rfl tl_X3_wantedTogether, fun L r M => (zz_1 rfl tl_X3_wantedTogether _ _ _).trans rfl, zz_1 rfl tl_X3_wantedTogether, zz_1 rfl tl_X3_wantedTogether, zz_1 rfl tl_X3_wantedTogether, zz_1 rfl tl_X3_wantedTogether, zz_1 rfl tl_X3_wantedTogether, zz_1 rfl tl_X3_wantedTogether, fun L a0 a1 a2 r M => (zz_1 rfl tl_X3_wantedTogether _ _ _).trans rfl, zz_1 rfl tl_X3_wantedTogether, zz_1 rfl tl_X3_wantedTogether, zz_1 rfl tl_X3_wantedTogether, zz_1 rfl tl_X3_wantedTogether, fun L a0 a1 r M => (zz_1 rfl tl_X3_wantedTogether _ _ _).trans rfl, zz_1 rfl tl_X3_wantedTogether, zz_1 rfl tl_X3_wantedTogether, zz_1 rfl tl_X3_wantedTogether, zz_1 rfl tl_X3_wantedTogether, zz_1 rfl tl_X3_wantedTogether, zz_1 rfl tl_X3_wantedTogether, zz_1 rfl tl_X3_wantedTogether, zz_1 rfl tl_X3_wantedTogether⟩
set_option maxRecDepth 100000 in
theorem e_X3_wantedTogether_4 : (∀ L st M, zz_ev tX3_wantedTogether 4 L st M = zo_iload 3 5 (zz_ev tX3_wantedTogether) L st M) := zz_1 rfl tl_X3_wantedTogether
set_option maxRecDepth 100000 in
theorem s_X3_wantedTogether (a0 : Int32) (v : Nat) (M : zzMd) : fX3_wantedTogether [.ref v, .int a0] M = zz_ev tX3_wantedTogether 0 [some (.ref v), some (.int a0), none, none] [] M := rfl
set_option maxRecDepth 100000 in
theorem e_X3_otherSetOf : (∀ L st M, zz_ev tX3_otherSetOf 0 L st M = zo_pushI 0 1 (zz_ev tX3_otherSetOf) L st M) ∧
  (∀ L st M, zz_ev tX3_otherSetOf 1 L st M = zo_istore 3 2 (zz_ev tX3_otherSetOf) L st M) ∧
  (∀ L st M, zz_ev tX3_otherSetOf 3 L st M = zo_aload 0 4 (zz_ev tX3_otherSetOf) L st M) ∧
  (∀ (L : zzLc) (r : List Value) (M : zzMd), zz_ev tX3_otherSetOf 4 L (.ref 3 :: r) M = zz_ev tX3_otherSetOf 7 L (.int (M.1 3 2) :: r) M) ∧
  (∀ L st M, zz_ev tX3_otherSetOf 7 L st M = zo_icmp (fun x y => decide (y ≤ x)) 42 10 (zz_ev tX3_otherSetOf) L st M) ∧
  (∀ L st M, zz_ev tX3_otherSetOf 10 L st M = zo_iload 3 11 (zz_ev tX3_otherSetOf) L st M) ∧
  (∀ L st M, zz_ev tX3_otherSetOf 11 L st M = zo_iload 2 12 (zz_ev tX3_otherSetOf) L st M) ∧
  (∀ L st M, zz_ev tX3_otherSetOf 12 L st M = zo_icmp (fun x y => decide (x = y)) 36 15 (zz_ev tX3_otherSetOf) L st M) ∧
  (∀ L st M, zz_ev tX3_otherSetOf 15 L st M = zo_aload 0 16 (zz_ev tX3_otherSetOf) L st M) ∧
  (∀ L st M, zz_ev tX3_otherSetOf 16 L st M = zo_iload 3 17 (zz_ev tX3_otherSetOf) L st M) ∧
  (∀ L st M, zz_ev tX3_otherSetOf 17 L st M = zo_pushI 1 18 (zz_ev tX3_otherSetOf) L st M) ∧
  (∀ L st M, zz_ev tX3_otherSetOf 18 L st M = zo_iload 1 19 (zz_ev tX3_otherSetOf) L st M) ∧
  (∀ (L : zzLc) (a0 a1 a2 : Int32) (r : List Value) (M : zzMd), zz_ev tX3_otherSetOf 19 L (.int a2 :: .int a1 :: .int a0 :: .ref 3 :: r) M = bif zz_cat8 r then zz_backN (zz_ev tX3_otherSetOf) 22 L r (fX10_isOwned [.ref 3, .int a0, .int a1, .int a2] M) else none) ∧
  (∀ L st M, zz_ev tX3_otherSetOf 22 L st M = zo_if (fun x => decide (x = 0)) 36 25 (zz_ev tX3_otherSetOf) L st M) ∧
  (∀ L st M, zz_ev tX3_otherSetOf 25 L st M = zo_aload 0 26 (zz_ev tX3_otherSetOf) L st M) ∧
  (∀ L st M, zz_ev tX3_otherSetOf 26 L st M = zo_iload 3 27 (zz_ev tX3_otherSetOf) L st M) ∧
  (∀ L st M, zz_ev tX3_otherSetOf 27 L st M = zo_pushI 0 28 (zz_ev tX3_otherSetOf) L st M) ∧
  (∀ (L : zzLc) (a0 a1 : Int32) (r : List Value) (M : zzMd), zz_ev tX3_otherSetOf 28 L (.int a1 :: .int a0 :: .ref 3 :: r) M = bif zz_cat8 r then zz_backN (zz_ev tX3_otherSetOf) 31 L r (fX10_read [.ref 3, .int a0, .int a1] M) else none) ∧
  (∀ L st M, zz_ev tX3_otherSetOf 31 L st M = zo_if (fun x => decide (x ≤ 0)) 36 34 (zz_ev tX3_otherSetOf) L st M) ∧
  (∀ L st M, zz_ev tX3_otherSetOf 34 L st M = zo_iload 3 35 (zz_ev tX3_otherSetOf) L st M) ∧
  (∀ L st M, zz_ev tX3_otherSetOf 35 L st M = zo_iret false (zz_ev tX3_otherSetOf) L st M) ∧
  (∀ L st M, zz_ev tX3_otherSetOf 36 L st M = zo_iinc 3 1 39 (zz_ev tX3_otherSetOf) L st M) ∧
  (∀ L st M, zz_ev tX3_otherSetOf 39 L st M = zo_goto 2 (zz_ev tX3_otherSetOf) L st M) ∧
  (∀ L st M, zz_ev tX3_otherSetOf 42 L st M = zo_pushI (-1) 43 (zz_ev tX3_otherSetOf) L st M) ∧
  (∀ L st M, zz_ev tX3_otherSetOf 43 L st M = zo_iret false (zz_ev tX3_otherSetOf) L st M) :=
  ⟨zz_1 rfl tl_X3_otherSetOf, zz_1 rfl tl_X3_otherSetOf, zz_1 rfl tl_X3_otherSetOf, fun L r M => (zz_1 rfl tl_X3_otherSetOf _ _ _).trans rfl, zz_1 rfl tl_X3_otherSetOf, zz_1 rfl tl_X3_otherSetOf, zz_1 rfl tl_X3_otherSetOf, zz_1 rfl tl_X3_otherSetOf, zz_1 rfl tl_X3_otherSetOf, zz_1 rfl tl_X3_otherSetOf, zz_1 rfl tl_X3_otherSetOf, zz_1 rfl tl_X3_otherSetOf, fun L a0 a1 a2 r M => (zz_1 rfl tl_X3_otherSetOf _ _ _).trans rfl, zz_1 rfl tl_X3_otherSetOf, zz_1 rfl tl_X3_otherSetOf, zz_1 rfl tl_X3_otherSetOf, zz_1 rfl tl_X3_otherSetOf, fun L a0 a1 r M => (zz_1 rfl tl_X3_otherSetOf _ _ _).trans rfl, zz_1 rfl tl_X3_otherSetOf, zz_1 rfl tl_X3_otherSetOf, zz_1 rfl tl_X3_otherSetOf, zz_1 rfl tl_X3_otherSetOf, zz_1 rfl tl_X3_otherSetOf, zz_1 rfl tl_X3_otherSetOf, zz_1 rfl tl_X3_otherSetOf⟩
set_option maxRecDepth 100000 in
theorem e_X3_otherSetOf_2 : (∀ L st M, zz_ev tX3_otherSetOf 2 L st M = zo_iload 3 3 (zz_ev tX3_otherSetOf) L st M) := zz_1 rfl tl_X3_otherSetOf
set_option maxRecDepth 100000 in
theorem s_X3_otherSetOf (a0 a1 : Int32) (v : Nat) (M : zzMd) : fX3_otherSetOf [.ref v, .int a0, .int a1] M = zz_ev tX3_otherSetOf 0 [some (.ref v), some (.int a0), some (.int a1), none] [] M := rfl
set_option maxRecDepth 100000 in
theorem e_X3_lessWanted : (∀ L st M, zz_ev tX3_lessWanted 0 L st M = zo_aload 0 1 (zz_ev tX3_lessWanted) L st M) ∧
  (∀ L st M, zz_ev tX3_lessWanted 1 L st M = zo_iload 2 2 (zz_ev tX3_lessWanted) L st M) ∧
  (∀ L st M, zz_ev tX3_lessWanted 2 L st M = zo_pushI 0 3 (zz_ev tX3_lessWanted) L st M) ∧
  (∀ (L : zzLc) (a0 a1 : Int32) (r : List Value) (M : zzMd), zz_ev tX3_lessWanted 3 L (.int a1 :: .int a0 :: .ref 3 :: r) M = bif zz_cat8 r then zz_backN (zz_ev tX3_lessWanted) 6 L r (fX10_read [.ref 3, .int a0, .int a1] M) else none) ∧
  (∀ L st M, zz_ev tX3_lessWanted 6 L st M = zo_istore 3 7 (zz_ev tX3_lessWanted) L st M) ∧
  (∀ L st M, zz_ev tX3_lessWanted 7 L st M = zo_aload 0 8 (zz_ev tX3_lessWanted) L st M) ∧
  (∀ L st M, zz_ev tX3_lessWanted 8 L st M = zo_iload 2 9 (zz_ev tX3_lessWanted) L st M) ∧
  (∀ (L : zzLc) (a0 : Int32) (r : List Value) (M : zzMd), zz_ev tX3_lessWanted 9 L (.int a0 :: .ref 3 :: r) M = bif zz_cat8 r then zz_backN (zz_ev tX3_lessWanted) 12 L r (fX10_countRunning [.ref 3, .int a0] M) else none) ∧
  (∀ L st M, zz_ev tX3_lessWanted 12 L st M = zo_istore 4 14 (zz_ev tX3_lessWanted) L st M) ∧
  (∀ L st M, zz_ev tX3_lessWanted 14 L st M = zo_iload 3 15 (zz_ev tX3_lessWanted) L st M) ∧
  (∀ L st M, zz_ev tX3_lessWanted 15 L st M = zo_iload 4 17 (zz_ev tX3_lessWanted) L st M) ∧
  (∀ L st M, zz_ev tX3_lessWanted 17 L st M = zo_icmp (fun x y => decide (x ≤ y)) 23 20 (zz_ev tX3_lessWanted) L st M) ∧
  (∀ L st M, zz_ev tX3_lessWanted 20 L st M = zo_iload 4 22 (zz_ev tX3_lessWanted) L st M) ∧
  (∀ L st M, zz_ev tX3_lessWanted 22 L st M = zo_iret false (zz_ev tX3_lessWanted) L st M) ∧
  (∀ L st M, zz_ev tX3_lessWanted 23 L st M = zo_aload 0 24 (zz_ev tX3_lessWanted) L st M) ∧
  (∀ L st M, zz_ev tX3_lessWanted 24 L st M = zo_iload 1 25 (zz_ev tX3_lessWanted) L st M) ∧
  (∀ (L : zzLc) (a0 : Int32) (r : List Value) (M : zzMd), zz_ev tX3_lessWanted 25 L (.int a0 :: .ref 3 :: r) M = bif zz_cat8 r then zz_backN (zz_ev tX3_lessWanted) 28 L r (fX10_countRunningOfAll [.ref 3, .int a0] M) else none) ∧
  (∀ L st M, zz_ev tX3_lessWanted 28 L st M = zo_aload 0 29 (zz_ev tX3_lessWanted) L st M) ∧
  (∀ L st M, zz_ev tX3_lessWanted 29 L st M = zo_iload 1 30 (zz_ev tX3_lessWanted) L st M) ∧
  (∀ L st M, zz_ev tX3_lessWanted 30 L st M = zo_pushI 0 31 (zz_ev tX3_lessWanted) L st M) ∧
  (∀ (L : zzLc) (a0 a1 : Int32) (r : List Value) (M : zzMd), zz_ev tX3_lessWanted 31 L (.int a1 :: .int a0 :: .ref 3 :: r) M = bif zz_cat8 r then zz_backN (zz_ev tX3_lessWanted) 34 L r (fX10_read [.ref 3, .int a0, .int a1] M) else none) ∧
  (∀ L st M, zz_ev tX3_lessWanted 34 L st M = zo_aload 0 35 (zz_ev tX3_lessWanted) L st M) ∧
  (∀ L st M, zz_ev tX3_lessWanted 35 L st M = zo_iload 1 36 (zz_ev tX3_lessWanted) L st M) ∧
  (∀ L st M, zz_ev tX3_lessWanted 36 L st M = zo_pushI 3 37 (zz_ev tX3_lessWanted) L st M) ∧
  (∀ (L : zzLc) (a0 a1 : Int32) (r : List Value) (M : zzMd), zz_ev tX3_lessWanted 37 L (.int a1 :: .int a0 :: .ref 3 :: r) M = bif zz_cat8 r then zz_backN (zz_ev tX3_lessWanted) 40 L r (fX10_read [.ref 3, .int a0, .int a1] M) else none) ∧
  (∀ L st M, zz_ev tX3_lessWanted 40 L st M = zo_ii (fun x y => x - y) 41 (zz_ev tX3_lessWanted) L st M) ∧
  (∀ L st M, zz_ev tX3_lessWanted 41 L st M = zo_ii (fun x y => x - y) 42 (zz_ev tX3_lessWanted) L st M) ∧
  (∀ L st M, zz_ev tX3_lessWanted 42 L st M = zo_istore 5 44 (zz_ev tX3_lessWanted) L st M) ∧
  (∀ L st M, zz_ev tX3_lessWanted 44 L st M = zo_iload 5 46 (zz_ev tX3_lessWanted) L st M) ∧
  (∀ L st M, zz_ev tX3_lessWanted 46 L st M = zo_if (fun x => decide (x ≤ 0)) 60 49 (zz_ev tX3_lessWanted) L st M) ∧
  (∀ L st M, zz_ev tX3_lessWanted 49 L st M = zo_iload 3 50 (zz_ev tX3_lessWanted) L st M) ∧
  (∀ L st M, zz_ev tX3_lessWanted 50 L st M = zo_iload 5 52 (zz_ev tX3_lessWanted) L st M) ∧
  (∀ L st M, zz_ev tX3_lessWanted 52 L st M = zo_iload 3 53 (zz_ev tX3_lessWanted) L st M) ∧
  (∀ L st M, zz_ev tX3_lessWanted 53 L st M = zo_mm (fun x y => if y < x then y else x) 56 (zz_ev tX3_lessWanted) L st M) ∧
  (∀ L st M, zz_ev tX3_lessWanted 56 L st M = zo_ii (fun x y => x - y) 57 (zz_ev tX3_lessWanted) L st M) ∧
  (∀ L st M, zz_ev tX3_lessWanted 57 L st M = zo_goto 61 (zz_ev tX3_lessWanted) L st M) ∧
  (∀ L st M, zz_ev tX3_lessWanted 60 L st M = zo_iload 3 61 (zz_ev tX3_lessWanted) L st M) ∧
  (∀ L st M, zz_ev tX3_lessWanted 61 L st M = zo_iret false (zz_ev tX3_lessWanted) L st M) :=
  ⟨zz_1 rfl tl_X3_lessWanted, zz_1 rfl tl_X3_lessWanted, zz_1 rfl tl_X3_lessWanted, fun L a0 a1 r M => (zz_1 rfl tl_X3_lessWanted _ _ _).trans rfl, zz_1 rfl tl_X3_lessWanted, zz_1 rfl tl_X3_lessWanted, zz_1 rfl tl_X3_lessWanted, fun L a0 r M => (zz_1 rfl tl_X3_lessWanted _ _ _).trans rfl, zz_1 rfl tl_X3_lessWanted, zz_1 rfl tl_X3_lessWanted, zz_1 rfl tl_X3_lessWanted, zz_1 rfl tl_X3_lessWanted, zz_1 rfl tl_X3_lessWanted, zz_1 rfl tl_X3_lessWanted, zz_1 rfl tl_X3_lessWanted, zz_1 rfl tl_X3_lessWanted, fun L a0 r M => (zz_1 rfl tl_X3_lessWanted _ _ _).trans rfl, zz_1 rfl tl_X3_lessWanted, zz_1 rfl tl_X3_lessWanted, zz_1 rfl tl_X3_lessWanted, fun L a0 a1 r M => (zz_1 rfl tl_X3_lessWanted _ _ _).trans rfl, zz_1 rfl tl_X3_lessWanted, zz_1 rfl tl_X3_lessWanted, zz_1 rfl tl_X3_lessWanted, fun L a0 a1 r M => (zz_1 rfl tl_X3_lessWanted _ _ _).trans rfl, zz_1 rfl tl_X3_lessWanted, zz_1 rfl tl_X3_lessWanted, zz_1 rfl tl_X3_lessWanted, zz_1 rfl tl_X3_lessWanted, zz_1 rfl tl_X3_lessWanted, zz_1 rfl tl_X3_lessWanted, zz_1 rfl tl_X3_lessWanted, zz_1 rfl tl_X3_lessWanted, zz_1 rfl tl_X3_lessWanted, zz_1 rfl tl_X3_lessWanted, zz_1 rfl tl_X3_lessWanted, zz_1 rfl tl_X3_lessWanted, zz_1 rfl tl_X3_lessWanted⟩
set_option maxRecDepth 100000 in
theorem s_X3_lessWanted (a0 a1 : Int32) (v : Nat) (M : zzMd) : fX3_lessWanted [.ref v, .int a0, .int a1] M = zz_ev tX3_lessWanted 0 [some (.ref v), some (.int a0), some (.int a1), none, none, none] [] M := rfl
set_option maxRecDepth 100000 in
theorem e_X3_serve : (∀ L st M, zz_ev tX3_serve 0 L st M = zo_aload 0 1 (zz_ev tX3_serve) L st M) ∧
  (∀ L st M, zz_ev tX3_serve 1 L st M = zo_iload 1 2 (zz_ev tX3_serve) L st M) ∧
  (∀ L st M, zz_ev tX3_serve 2 L st M = zo_pushI 0 3 (zz_ev tX3_serve) L st M) ∧
  (∀ (L : zzLc) (a0 a1 : Int32) (r : List Value) (M : zzMd), zz_ev tX3_serve 3 L (.int a1 :: .int a0 :: .ref 3 :: r) M = bif zz_cat8 r then zz_backN (zz_ev tX3_serve) 6 L r (fX10_isStaying [.ref 3, .int a0, .int a1] M) else none) ∧
  (∀ L st M, zz_ev tX3_serve 6 L st M = zo_if (fun x => decide (x = 0)) 19 9 (zz_ev tX3_serve) L st M) ∧
  (∀ L st M, zz_ev tX3_serve 9 L st M = zo_aload 0 10 (zz_ev tX3_serve) L st M) ∧
  (∀ L st M, zz_ev tX3_serve 10 L st M = zo_iload 1 11 (zz_ev tX3_serve) L st M) ∧
  (∀ L st M, zz_ev tX3_serve 11 L st M = zo_pushI 4 12 (zz_ev tX3_serve) L st M) ∧
  (∀ (L : zzLc) (a0 a1 : Int32) (r : List Value) (M : zzMd), zz_ev tX3_serve 12 L (.int a1 :: .int a0 :: .ref 3 :: r) M = bif zz_cat8 r then zz_backN (zz_ev tX3_serve) 15 L r (fX10_read [.ref 3, .int a0, .int a1] M) else none) ∧
  (∀ L st M, zz_ev tX3_serve 15 L st M = zo_pushI 1 16 (zz_ev tX3_serve) L st M) ∧
  (∀ L st M, zz_ev tX3_serve 16 L st M = zo_icmp (fun x y => decide (¬ x = y)) 21 19 (zz_ev tX3_serve) L st M) ∧
  (∀ L st M, zz_ev tX3_serve 19 L st M = zo_pushI 1 20 (zz_ev tX3_serve) L st M) ∧
  (∀ L st M, zz_ev tX3_serve 20 L st M = zo_iret false (zz_ev tX3_serve) L st M) ∧
  (∀ L st M, zz_ev tX3_serve 21 L st M = zo_aload 0 22 (zz_ev tX3_serve) L st M) ∧
  (∀ L st M, zz_ev tX3_serve 22 L st M = zo_iload 1 23 (zz_ev tX3_serve) L st M) ∧
  (∀ (L : zzLc) (a0 : Int32) (r : List Value) (M : zzMd), zz_ev tX3_serve 23 L (.int a0 :: .ref 3 :: r) M = bif zz_cat8 r then zz_backN (zz_ev tX3_serve) 26 L r (fX10_newSetOf [.ref 3, .int a0] M) else none) ∧
  (∀ L st M, zz_ev tX3_serve 26 L st M = zo_istore 2 27 (zz_ev tX3_serve) L st M) ∧
  (∀ L st M, zz_ev tX3_serve 27 L st M = zo_iload 2 28 (zz_ev tX3_serve) L st M) ∧
  (∀ L st M, zz_ev tX3_serve 28 L st M = zo_pushI (-1) 29 (zz_ev tX3_serve) L st M) ∧
  (∀ L st M, zz_ev tX3_serve 29 L st M = zo_icmp (fun x y => decide (¬ x = y)) 42 32 (zz_ev tX3_serve) L st M) ∧
  (∀ L st M, zz_ev tX3_serve 32 L st M = zo_aload 0 33 (zz_ev tX3_serve) L st M) ∧
  (∀ L st M, zz_ev tX3_serve 33 L st M = zo_iload 1 34 (zz_ev tX3_serve) L st M) ∧
  (∀ L st M, zz_ev tX3_serve 34 L st M = zo_pushI 1 35 (zz_ev tX3_serve) L st M) ∧
  (∀ (L : zzLc) (a0 a1 : Int32) (r : List Value) (M : zzMd), zz_ev tX3_serve 35 L (.int a1 :: .int a0 :: .ref 3 :: r) M = bif zz_cat8 r then zz_backN (zz_ev tX3_serve) 38 L r (fX2_makeFor [.ref 3, .int a0, .int a1] M) else none) ∧
  (∀ (L : zzLc) (a0 : Int32) (r : List Value) (M : zzMd), zz_ev tX3_serve 38 L (.int a0 :: r) M = bif zz_cat8 r then zz_backN (zz_ev tX3_serve) 41 L r (fX2_outcomeOf [.int a0] M) else none) ∧
  (∀ L st M, zz_ev tX3_serve 41 L st M = zo_iret false (zz_ev tX3_serve) L st M) ∧
  (∀ L st M, zz_ev tX3_serve 42 L st M = zo_aload 0 43 (zz_ev tX3_serve) L st M) ∧
  (∀ L st M, zz_ev tX3_serve 43 L st M = zo_iload 1 44 (zz_ev tX3_serve) L st M) ∧
  (∀ L st M, zz_ev tX3_serve 44 L st M = zo_pushI 0 45 (zz_ev tX3_serve) L st M) ∧
  (∀ (L : zzLc) (a0 a1 : Int32) (r : List Value) (M : zzMd), zz_ev tX3_serve 45 L (.int a1 :: .int a0 :: .ref 3 :: r) M = bif zz_cat8 r then zz_backN (zz_ev tX3_serve) 48 L r (fX10_read [.ref 3, .int a0, .int a1] M) else none) ∧
  (∀ L st M, zz_ev tX3_serve 48 L st M = zo_istore 3 49 (zz_ev tX3_serve) L st M) ∧
  (∀ L st M, zz_ev tX3_serve 49 L st M = zo_aload 0 50 (zz_ev tX3_serve) L st M) ∧
  (∀ L st M, zz_ev tX3_serve 50 L st M = zo_iload 2 51 (zz_ev tX3_serve) L st M) ∧
  (∀ L st M, zz_ev tX3_serve 51 L st M = zo_pushI 0 52 (zz_ev tX3_serve) L st M) ∧
  (∀ (L : zzLc) (a0 a1 : Int32) (r : List Value) (M : zzMd), zz_ev tX3_serve 52 L (.int a1 :: .int a0 :: .ref 3 :: r) M = bif zz_cat8 r then zz_backN (zz_ev tX3_serve) 55 L r (fX10_read [.ref 3, .int a0, .int a1] M) else none) ∧
  (∀ L st M, zz_ev tX3_serve 55 L st M = zo_istore 4 57 (zz_ev tX3_serve) L st M) ∧
  (∀ L st M, zz_ev tX3_serve 57 L st M = zo_iload 4 59 (zz_ev tX3_serve) L st M) ∧
  (∀ L st M, zz_ev tX3_serve 59 L st M = zo_iload 3 60 (zz_ev tX3_serve) L st M) ∧
  (∀ L st M, zz_ev tX3_serve 60 L st M = zo_icmp (fun x y => decide (x ≤ y)) 73 63 (zz_ev tX3_serve) L st M) ∧
  (∀ L st M, zz_ev tX3_serve 63 L st M = zo_aload 0 64 (zz_ev tX3_serve) L st M) ∧
  (∀ L st M, zz_ev tX3_serve 64 L st M = zo_iload 2 65 (zz_ev tX3_serve) L st M) ∧
  (∀ L st M, zz_ev tX3_serve 65 L st M = zo_iload 3 66 (zz_ev tX3_serve) L st M) ∧
  (∀ (L : zzLc) (a0 a1 : Int32) (r : List Value) (M : zzMd), zz_ev tX3_serve 66 L (.int a1 :: .int a0 :: .ref 3 :: r) M = bif zz_cat8 r then zz_backN (zz_ev tX3_serve) 69 L r (fX2_want [.ref 3, .int a0, .int a1] M) else none) ∧
  (∀ (L : zzLc) (a0 : Int32) (r : List Value) (M : zzMd), zz_ev tX3_serve 69 L (.int a0 :: r) M = bif zz_cat8 r then zz_backN (zz_ev tX3_serve) 72 L r (fX2_outcomeOf [.int a0] M) else none) ∧
  (∀ L st M, zz_ev tX3_serve 72 L st M = zo_iret false (zz_ev tX3_serve) L st M) ∧
  (∀ L st M, zz_ev tX3_serve 73 L st M = zo_iload 3 74 (zz_ev tX3_serve) L st M) ∧
  (∀ L st M, zz_ev tX3_serve 74 L st M = zo_aload 0 75 (zz_ev tX3_serve) L st M) ∧
  (∀ L st M, zz_ev tX3_serve 75 L st M = zo_iload 1 76 (zz_ev tX3_serve) L st M) ∧
  (∀ L st M, zz_ev tX3_serve 76 L st M = zo_pushI 2 77 (zz_ev tX3_serve) L st M) ∧
  (∀ (L : zzLc) (a0 a1 : Int32) (r : List Value) (M : zzMd), zz_ev tX3_serve 77 L (.int a1 :: .int a0 :: .ref 3 :: r) M = bif zz_cat8 r then zz_backN (zz_ev tX3_serve) 80 L r (fX10_read [.ref 3, .int a0, .int a1] M) else none) ∧
  (∀ L st M, zz_ev tX3_serve 80 L st M = zo_ii (fun x y => x + y) 81 (zz_ev tX3_serve) L st M) ∧
  (∀ L st M, zz_ev tX3_serve 81 L st M = zo_aload 0 82 (zz_ev tX3_serve) L st M) ∧
  (∀ L st M, zz_ev tX3_serve 82 L st M = zo_iload 1 83 (zz_ev tX3_serve) L st M) ∧
  (∀ (L : zzLc) (a0 : Int32) (r : List Value) (M : zzMd), zz_ev tX3_serve 83 L (.int a0 :: .ref 3 :: r) M = bif zz_cat8 r then zz_backN (zz_ev tX3_serve) 86 L r (fX3_wantedTogether [.ref 3, .int a0] M) else none) ∧
  (∀ L st M, zz_ev tX3_serve 86 L st M = zo_ii (fun x y => x - y) 87 (zz_ev tX3_serve) L st M) ∧
  (∀ L st M, zz_ev tX3_serve 87 L st M = zo_istore 5 89 (zz_ev tX3_serve) L st M) ∧
  (∀ L st M, zz_ev tX3_serve 89 L st M = zo_iload 4 91 (zz_ev tX3_serve) L st M) ∧
  (∀ L st M, zz_ev tX3_serve 91 L st M = zo_iload 3 92 (zz_ev tX3_serve) L st M) ∧
  (∀ L st M, zz_ev tX3_serve 92 L st M = zo_icmp (fun x y => decide (y ≤ x)) 118 95 (zz_ev tX3_serve) L st M) ∧
  (∀ L st M, zz_ev tX3_serve 95 L st M = zo_iload 5 97 (zz_ev tX3_serve) L st M) ∧
  (∀ L st M, zz_ev tX3_serve 97 L st M = zo_if (fun x => decide (x ≤ 0)) 118 100 (zz_ev tX3_serve) L st M) ∧
  (∀ L st M, zz_ev tX3_serve 100 L st M = zo_aload 0 101 (zz_ev tX3_serve) L st M) ∧
  (∀ L st M, zz_ev tX3_serve 101 L st M = zo_iload 2 102 (zz_ev tX3_serve) L st M) ∧
  (∀ L st M, zz_ev tX3_serve 102 L st M = zo_iload 3 103 (zz_ev tX3_serve) L st M) ∧
  (∀ L st M, zz_ev tX3_serve 103 L st M = zo_iload 4 105 (zz_ev tX3_serve) L st M) ∧
  (∀ L st M, zz_ev tX3_serve 105 L st M = zo_iload 5 107 (zz_ev tX3_serve) L st M) ∧
  (∀ L st M, zz_ev tX3_serve 107 L st M = zo_ii (fun x y => x + y) 108 (zz_ev tX3_serve) L st M) ∧
  (∀ L st M, zz_ev tX3_serve 108 L st M = zo_mm (fun x y => if y < x then y else x) 111 (zz_ev tX3_serve) L st M) ∧
  (∀ (L : zzLc) (a0 a1 : Int32) (r : List Value) (M : zzMd), zz_ev tX3_serve 111 L (.int a1 :: .int a0 :: .ref 3 :: r) M = bif zz_cat8 r then zz_backN (zz_ev tX3_serve) 114 L r (fX2_want [.ref 3, .int a0, .int a1] M) else none) ∧
  (∀ (L : zzLc) (a0 : Int32) (r : List Value) (M : zzMd), zz_ev tX3_serve 114 L (.int a0 :: r) M = bif zz_cat8 r then zz_backN (zz_ev tX3_serve) 117 L r (fX2_outcomeOf [.int a0] M) else none) ∧
  (∀ L st M, zz_ev tX3_serve 117 L st M = zo_iret false (zz_ev tX3_serve) L st M) ∧
  (∀ L st M, zz_ev tX3_serve 118 L st M = zo_aload 0 119 (zz_ev tX3_serve) L st M) ∧
  (∀ L st M, zz_ev tX3_serve 119 L st M = zo_iload 1 120 (zz_ev tX3_serve) L st M) ∧
  (∀ L st M, zz_ev tX3_serve 120 L st M = zo_iload 2 121 (zz_ev tX3_serve) L st M) ∧
  (∀ (L : zzLc) (a0 a1 : Int32) (r : List Value) (M : zzMd), zz_ev tX3_serve 121 L (.int a1 :: .int a0 :: .ref 3 :: r) M = bif zz_cat8 r then zz_backN (zz_ev tX3_serve) 124 L r (fX3_otherSetOf [.ref 3, .int a0, .int a1] M) else none) ∧
  (∀ L st M, zz_ev tX3_serve 124 L st M = zo_istore 6 126 (zz_ev tX3_serve) L st M) ∧
  (∀ L st M, zz_ev tX3_serve 126 L st M = zo_iload 6 128 (zz_ev tX3_serve) L st M) ∧
  (∀ L st M, zz_ev tX3_serve 128 L st M = zo_pushI (-1) 129 (zz_ev tX3_serve) L st M) ∧
  (∀ L st M, zz_ev tX3_serve 129 L st M = zo_icmp (fun x y => decide (¬ x = y)) 136 132 (zz_ev tX3_serve) L st M) ∧
  (∀ L st M, zz_ev tX3_serve 132 L st M = zo_pushI 1 133 (zz_ev tX3_serve) L st M) ∧
  (∀ L st M, zz_ev tX3_serve 133 L st M = zo_goto 152 (zz_ev tX3_serve) L st M) ∧
  (∀ L st M, zz_ev tX3_serve 136 L st M = zo_aload 0 137 (zz_ev tX3_serve) L st M) ∧
  (∀ L st M, zz_ev tX3_serve 137 L st M = zo_iload 6 139 (zz_ev tX3_serve) L st M) ∧
  (∀ L st M, zz_ev tX3_serve 139 L st M = zo_aload 0 140 (zz_ev tX3_serve) L st M) ∧
  (∀ L st M, zz_ev tX3_serve 140 L st M = zo_iload 1 141 (zz_ev tX3_serve) L st M) ∧
  (∀ L st M, zz_ev tX3_serve 141 L st M = zo_iload 6 143 (zz_ev tX3_serve) L st M) ∧
  (∀ (L : zzLc) (a0 a1 : Int32) (r : List Value) (M : zzMd), zz_ev tX3_serve 143 L (.int a1 :: .int a0 :: .ref 3 :: r) M = bif zz_cat8 r then zz_backN (zz_ev tX3_serve) 146 L r (fX3_lessWanted [.ref 3, .int a0, .int a1] M) else none) ∧
  (∀ (L : zzLc) (a0 a1 : Int32) (r : List Value) (M : zzMd), zz_ev tX3_serve 146 L (.int a1 :: .int a0 :: .ref 3 :: r) M = bif zz_cat8 r then zz_backN (zz_ev tX3_serve) 149 L r (fX2_want [.ref 3, .int a0, .int a1] M) else none) ∧
  (∀ (L : zzLc) (a0 : Int32) (r : List Value) (M : zzMd), zz_ev tX3_serve 149 L (.int a0 :: r) M = bif zz_cat8 r then zz_backN (zz_ev tX3_serve) 152 L r (fX2_outcomeOf [.int a0] M) else none) ∧
  (∀ L st M, zz_ev tX3_serve 152 L st M = zo_iret false (zz_ev tX3_serve) L st M) :=
  ⟨zz_1 rfl tl_X3_serve, zz_1 rfl tl_X3_serve, zz_1 rfl tl_X3_serve, fun L a0 a1 r M => (zz_1 rfl tl_X3_serve _ _ _).trans rfl, zz_1 rfl tl_X3_serve, zz_1 rfl tl_X3_serve, zz_1 rfl tl_X3_serve, zz_1 rfl tl_X3_serve, fun L a0 a1 r M => (zz_1 rfl tl_X3_serve _ _ _).trans rfl, zz_1 rfl tl_X3_serve, zz_1 rfl tl_X3_serve, zz_1 rfl tl_X3_serve, zz_1 rfl tl_X3_serve, zz_1 rfl tl_X3_serve, zz_1 rfl tl_X3_serve, fun L a0 r M => (zz_1 rfl tl_X3_serve _ _ _).trans rfl, zz_1 rfl tl_X3_serve, zz_1 rfl tl_X3_serve, zz_1 rfl tl_X3_serve, zz_1 rfl tl_X3_serve, zz_1 rfl tl_X3_serve, zz_1 rfl tl_X3_serve, zz_1 rfl tl_X3_serve, fun L a0 a1 r M => (zz_1 rfl tl_X3_serve _ _ _).trans rfl, fun L a0 r M => (zz_1 rfl tl_X3_serve _ _ _).trans rfl, zz_1 rfl tl_X3_serve, zz_1 rfl tl_X3_serve, zz_1 rfl tl_X3_serve, zz_1 rfl tl_X3_serve, fun L a0 a1 r M => (zz_1 rfl tl_X3_serve _ _ _).trans rfl, zz_1 rfl tl_X3_serve, zz_1 rfl tl_X3_serve, zz_1 rfl tl_X3_serve, zz_1 rfl tl_X3_serve, fun L a0 a1 r M => (zz_1 rfl tl_X3_serve _ _ _).trans rfl, zz_1 rfl tl_X3_serve, zz_1 rfl tl_X3_serve, zz_1 rfl tl_X3_serve, zz_1 rfl tl_X3_serve, zz_1 rfl tl_X3_serve, zz_1 rfl tl_X3_serve, zz_1 rfl tl_X3_serve, fun L a0 a1 r M => (zz_1 rfl tl_X3_serve _ _ _).trans rfl, fun L a0 r M => (zz_1 rfl tl_X3_serve _ _ _).trans rfl, zz_1 rfl tl_X3_serve, zz_1 rfl tl_X3_serve, zz_1 rfl tl_X3_serve, zz_1 rfl tl_X3_serve, zz_1 rfl tl_X3_serve, fun L a0 a1 r M => (zz_1 rfl tl_X3_serve _ _ _).trans rfl, zz_1 rfl tl_X3_serve, zz_1 rfl tl_X3_serve, zz_1 rfl tl_X3_serve, fun L a0 r M => (zz_1 rfl tl_X3_serve _ _ _).trans rfl, zz_1 rfl tl_X3_serve, zz_1 rfl tl_X3_serve, zz_1 rfl tl_X3_serve, zz_1 rfl tl_X3_serve, zz_1 rfl tl_X3_serve, zz_1 rfl tl_X3_serve, zz_1 rfl tl_X3_serve, zz_1 rfl tl_X3_serve, zz_1 rfl tl_X3_serve, zz_1 rfl tl_X3_serve, zz_1 rfl tl_X3_serve, zz_1 rfl tl_X3_serve, zz_1 rfl tl_X3_serve, zz_1 rfl tl_X3_serve, fun L a0 a1 r M => (zz_1 rfl tl_X3_serve _ _ _).trans rfl, fun L a0 r M => (zz_1 rfl tl_X3_serve _ _ _).trans rfl, zz_1 rfl tl_X3_serve, zz_1 rfl tl_X3_serve, zz_1 rfl tl_X3_serve, zz_1 rfl tl_X3_serve, fun L a0 a1 r M => (zz_1 rfl tl_X3_serve _ _ _).trans rfl, zz_1 rfl tl_X3_serve, zz_1 rfl tl_X3_serve, zz_1 rfl tl_X3_serve, zz_1 rfl tl_X3_serve, zz_1 rfl tl_X3_serve, zz_1 rfl tl_X3_serve, zz_1 rfl tl_X3_serve, zz_1 rfl tl_X3_serve, zz_1 rfl tl_X3_serve, zz_1 rfl tl_X3_serve, zz_1 rfl tl_X3_serve, fun L a0 a1 r M => (zz_1 rfl tl_X3_serve _ _ _).trans rfl, fun L a0 a1 r M => (zz_1 rfl tl_X3_serve _ _ _).trans rfl, fun L a0 r M => (zz_1 rfl tl_X3_serve _ _ _).trans rfl, zz_1 rfl tl_X3_serve⟩
set_option maxRecDepth 100000 in
theorem s_X3_serve (a0 : Int32) (v : Nat) (M : zzMd) : fX3_serve [.ref v, .int a0] M = zz_ev tX3_serve 0 [some (.ref v), some (.int a0), none, none, none, none, none] [] M := rfl
set_option maxRecDepth 100000 in
theorem e_X4_podTooMany : (∀ L st M, zz_ev tX4_podTooMany 0 L st M = zo_pushI (-1) 1 (zz_ev tX4_podTooMany) L st M) ∧
  (∀ L st M, zz_ev tX4_podTooMany 1 L st M = zo_istore 2 2 (zz_ev tX4_podTooMany) L st M) ∧
  (∀ L st M, zz_ev tX4_podTooMany 2 L st M = zo_pushI (-1) 3 (zz_ev tX4_podTooMany) L st M) ∧
  (∀ L st M, zz_ev tX4_podTooMany 3 L st M = zo_istore 3 4 (zz_ev tX4_podTooMany) L st M) ∧
  (∀ L st M, zz_ev tX4_podTooMany 4 L st M = zo_pushI 0 5 (zz_ev tX4_podTooMany) L st M) ∧
  (∀ L st M, zz_ev tX4_podTooMany 5 L st M = zo_istore 4 7 (zz_ev tX4_podTooMany) L st M) ∧
  (∀ L st M, zz_ev tX4_podTooMany 9 L st M = zo_aload 0 10 (zz_ev tX4_podTooMany) L st M) ∧
  (∀ (L : zzLc) (r : List Value) (M : zzMd), zz_ev tX4_podTooMany 10 L (.ref 4 :: r) M = zz_ev tX4_podTooMany 13 L (.int (M.1 4 2) :: r) M) ∧
  (∀ (L : zzLc) (r : List Value) (M : zzMd), zz_ev tX4_podTooMany 10 L (.ref 5 :: r) M = zz_ev tX4_podTooMany 13 L (.int (M.1 5 2) :: r) M) ∧
  (∀ L st M, zz_ev tX4_podTooMany 13 L st M = zo_icmp (fun x y => decide (y ≤ x)) 79 16 (zz_ev tX4_podTooMany) L st M) ∧
  (∀ L st M, zz_ev tX4_podTooMany 16 L st M = zo_aload 0 17 (zz_ev tX4_podTooMany) L st M) ∧
  (∀ L st M, zz_ev tX4_podTooMany 17 L st M = zo_iload 4 19 (zz_ev tX4_podTooMany) L st M) ∧
  (∀ L st M, zz_ev tX4_podTooMany 19 L st M = zo_pushI 2 20 (zz_ev tX4_podTooMany) L st M) ∧
  (∀ L st M, zz_ev tX4_podTooMany 20 L st M = zo_iload 1 21 (zz_ev tX4_podTooMany) L st M) ∧
  (∀ (L : zzLc) (a0 a1 a2 : Int32) (r : List Value) (M : zzMd), zz_ev tX4_podTooMany 21 L (.int a2 :: .int a1 :: .int a0 :: .ref 4 :: r) M = bif zz_cat8 r then zz_backN (zz_ev tX4_podTooMany) 24 L r (fX10_isOwned [.ref 4, .int a0, .int a1, .int a2] M) else none) ∧
  (∀ (L : zzLc) (a0 a1 a2 : Int32) (r : List Value) (M : zzMd), zz_ev tX4_podTooMany 21 L (.int a2 :: .int a1 :: .int a0 :: .ref 5 :: r) M = bif zz_cat8 r then zz_backN (zz_ev tX4_podTooMany) 24 L r (fX10_isOwned [.ref 5, .int a0, .int a1, .int a2] M) else none) ∧
  (∀ L st M, zz_ev tX4_podTooMany 24 L st M = zo_if (fun x => decide (x = 0)) 73 27 (zz_ev tX4_podTooMany) L st M) ∧
  (∀ L st M, zz_ev tX4_podTooMany 27 L st M = zo_aload 0 28 (zz_ev tX4_podTooMany) L st M) ∧
  (∀ L st M, zz_ev tX4_podTooMany 28 L st M = zo_iload 4 30 (zz_ev tX4_podTooMany) L st M) ∧
  (∀ L st M, zz_ev tX4_podTooMany 30 L st M = zo_pushI 28 32 (zz_ev tX4_podTooMany) L st M) ∧
  (∀ (L : zzLc) (a0 a1 : Int32) (r : List Value) (M : zzMd), zz_ev tX4_podTooMany 32 L (.int a1 :: .int a0 :: .ref 4 :: r) M = bif zz_cat8 r then zz_backN (zz_ev tX4_podTooMany) 35 L r (fX10_read [.ref 4, .int a0, .int a1] M) else none) ∧
  (∀ (L : zzLc) (a0 a1 : Int32) (r : List Value) (M : zzMd), zz_ev tX4_podTooMany 32 L (.int a1 :: .int a0 :: .ref 5 :: r) M = bif zz_cat8 r then zz_backN (zz_ev tX4_podTooMany) 35 L r (fX10_read [.ref 5, .int a0, .int a1] M) else none) ∧
  (∀ L st M, zz_ev tX4_podTooMany 35 L st M = zo_pushI (-1) 36 (zz_ev tX4_podTooMany) L st M) ∧
  (∀ L st M, zz_ev tX4_podTooMany 36 L st M = zo_icmp (fun x y => decide (¬ x = y)) 43 39 (zz_ev tX4_podTooMany) L st M) ∧
  (∀ L st M, zz_ev tX4_podTooMany 39 L st M = zo_pushI 2 40 (zz_ev tX4_podTooMany) L st M) ∧
  (∀ L st M, zz_ev tX4_podTooMany 40 L st M = zo_goto 59 (zz_ev tX4_podTooMany) L st M) ∧
  (∀ L st M, zz_ev tX4_podTooMany 43 L st M = zo_aload 0 44 (zz_ev tX4_podTooMany) L st M) ∧
  (∀ L st M, zz_ev tX4_podTooMany 44 L st M = zo_iload 4 46 (zz_ev tX4_podTooMany) L st M) ∧
  (∀ L st M, zz_ev tX4_podTooMany 46 L st M = zo_pushI 29 48 (zz_ev tX4_podTooMany) L st M) ∧
  (∀ (L : zzLc) (a0 a1 : Int32) (r : List Value) (M : zzMd), zz_ev tX4_podTooMany 48 L (.int a1 :: .int a0 :: .ref 4 :: r) M = bif zz_cat8 r then zz_backN (zz_ev tX4_podTooMany) 51 L r (fX10_read [.ref 4, .int a0, .int a1] M) else none) ∧
  (∀ (L : zzLc) (a0 a1 : Int32) (r : List Value) (M : zzMd), zz_ev tX4_podTooMany 48 L (.int a1 :: .int a0 :: .ref 5 :: r) M = bif zz_cat8 r then zz_backN (zz_ev tX4_podTooMany) 51 L r (fX10_read [.ref 5, .int a0, .int a1] M) else none) ∧
  (∀ L st M, zz_ev tX4_podTooMany 51 L st M = zo_if (fun x => decide (¬ x = 0)) 58 54 (zz_ev tX4_podTooMany) L st M) ∧
  (∀ L st M, zz_ev tX4_podTooMany 54 L st M = zo_pushI 1 55 (zz_ev tX4_podTooMany) L st M) ∧
  (∀ L st M, zz_ev tX4_podTooMany 55 L st M = zo_goto 59 (zz_ev tX4_podTooMany) L st M) ∧
  (∀ L st M, zz_ev tX4_podTooMany 58 L st M = zo_pushI 0 59 (zz_ev tX4_podTooMany) L st M) ∧
  (∀ L st M, zz_ev tX4_podTooMany 59 L st M = zo_istore 5 61 (zz_ev tX4_podTooMany) L st M) ∧
  (∀ L st M, zz_ev tX4_podTooMany 61 L st M = zo_iload 5 63 (zz_ev tX4_podTooMany) L st M) ∧
  (∀ L st M, zz_ev tX4_podTooMany 63 L st M = zo_iload 3 64 (zz_ev tX4_podTooMany) L st M) ∧
  (∀ L st M, zz_ev tX4_podTooMany 64 L st M = zo_icmp (fun x y => decide (x < y)) 73 67 (zz_ev tX4_podTooMany) L st M) ∧
  (∀ L st M, zz_ev tX4_podTooMany 67 L st M = zo_iload 4 69 (zz_ev tX4_podTooMany) L st M) ∧
  (∀ L st M, zz_ev tX4_podTooMany 69 L st M = zo_istore 2 70 (zz_ev tX4_podTooMany) L st M) ∧
  (∀ L st M, zz_ev tX4_podTooMany 70 L st M = zo_iload 5 72 (zz_ev tX4_podTooMany) L st M) ∧
  (∀ L st M, zz_ev tX4_podTooMany 72 L st M = zo_istore 3 73 (zz_ev tX4_podTooMany) L st M) ∧
  (∀ L st M, zz_ev tX4_podTooMany 73 L st M = zo_iinc 4 1 76 (zz_ev tX4_podTooMany) L st M) ∧
  (∀ L st M, zz_ev tX4_podTooMany 76 L st M = zo_goto 7 (zz_ev tX4_podTooMany) L st M) ∧
  (∀ L st M, zz_ev tX4_podTooMany 79 L st M = zo_iload 2 80 (zz_ev tX4_podTooMany) L st M) ∧
  (∀ L st M, zz_ev tX4_podTooMany 80 L st M = zo_iret false (zz_ev tX4_podTooMany) L st M) :=
  ⟨zz_1 rfl tl_X4_podTooMany, zz_1 rfl tl_X4_podTooMany, zz_1 rfl tl_X4_podTooMany, zz_1 rfl tl_X4_podTooMany, zz_1 rfl tl_X4_podTooMany, zz_1 rfl tl_X4_podTooMany, zz_1 rfl tl_X4_podTooMany, fun L r M => (zz_1 rfl tl_X4_podTooMany _ _ _).trans rfl, fun L r M => (zz_1 rfl tl_X4_podTooMany _ _ _).trans rfl, zz_1 rfl tl_X4_podTooMany, zz_1 rfl tl_X4_podTooMany, zz_1 rfl tl_X4_podTooMany, zz_1 rfl tl_X4_podTooMany, zz_1 rfl tl_X4_podTooMany, fun L a0 a1 a2 r M => (zz_1 rfl tl_X4_podTooMany _ _ _).trans rfl, fun L a0 a1 a2 r M => (zz_1 rfl tl_X4_podTooMany _ _ _).trans rfl, zz_1 rfl tl_X4_podTooMany, zz_1 rfl tl_X4_podTooMany, zz_1 rfl tl_X4_podTooMany, zz_1 rfl tl_X4_podTooMany, fun L a0 a1 r M => (zz_1 rfl tl_X4_podTooMany _ _ _).trans rfl, fun L a0 a1 r M => (zz_1 rfl tl_X4_podTooMany _ _ _).trans rfl, zz_1 rfl tl_X4_podTooMany, zz_1 rfl tl_X4_podTooMany, zz_1 rfl tl_X4_podTooMany, zz_1 rfl tl_X4_podTooMany, zz_1 rfl tl_X4_podTooMany, zz_1 rfl tl_X4_podTooMany, zz_1 rfl tl_X4_podTooMany, fun L a0 a1 r M => (zz_1 rfl tl_X4_podTooMany _ _ _).trans rfl, fun L a0 a1 r M => (zz_1 rfl tl_X4_podTooMany _ _ _).trans rfl, zz_1 rfl tl_X4_podTooMany, zz_1 rfl tl_X4_podTooMany, zz_1 rfl tl_X4_podTooMany, zz_1 rfl tl_X4_podTooMany, zz_1 rfl tl_X4_podTooMany, zz_1 rfl tl_X4_podTooMany, zz_1 rfl tl_X4_podTooMany, zz_1 rfl tl_X4_podTooMany, zz_1 rfl tl_X4_podTooMany, zz_1 rfl tl_X4_podTooMany, zz_1 rfl tl_X4_podTooMany, zz_1 rfl tl_X4_podTooMany, zz_1 rfl tl_X4_podTooMany, zz_1 rfl tl_X4_podTooMany, zz_1 rfl tl_X4_podTooMany, zz_1 rfl tl_X4_podTooMany⟩
set_option maxRecDepth 100000 in
theorem e_X4_podTooMany_7 : (∀ L st M, zz_ev tX4_podTooMany 7 L st M = zo_iload 4 9 (zz_ev tX4_podTooMany) L st M) := zz_1 rfl tl_X4_podTooMany
set_option maxRecDepth 100000 in
theorem s_X4_podTooMany (a0 : Int32) (v : Nat) (M : zzMd) : fX4_podTooMany [.ref v, .int a0] M = zz_ev tX4_podTooMany 0 [some (.ref v), some (.int a0), none, none, none, none] [] M := rfl
set_option maxRecDepth 100000 in
theorem e_X4_serveSet : (∀ L st M, zz_ev tX4_serveSet 0 L st M = zo_pushI 0 1 (zz_ev tX4_serveSet) L st M) ∧
  (∀ L st M, zz_ev tX4_serveSet 1 L st M = zo_istore 2 2 (zz_ev tX4_serveSet) L st M) ∧
  (∀ L st M, zz_ev tX4_serveSet 2 L st M = zo_pushI 0 3 (zz_ev tX4_serveSet) L st M) ∧
  (∀ L st M, zz_ev tX4_serveSet 3 L st M = zo_istore 3 4 (zz_ev tX4_serveSet) L st M) ∧
  (∀ L st M, zz_ev tX4_serveSet 5 L st M = zo_aload 0 6 (zz_ev tX4_serveSet) L st M) ∧
  (∀ (L : zzLc) (r : List Value) (M : zzMd), zz_ev tX4_serveSet 6 L (.ref 4 :: r) M = zz_ev tX4_serveSet 9 L (.int (M.1 4 2) :: r) M) ∧
  (∀ (L : zzLc) (r : List Value) (M : zzMd), zz_ev tX4_serveSet 6 L (.ref 5 :: r) M = zz_ev tX4_serveSet 9 L (.int (M.1 5 2) :: r) M) ∧
  (∀ L st M, zz_ev tX4_serveSet 9 L st M = zo_icmp (fun x y => decide (y ≤ x)) 62 12 (zz_ev tX4_serveSet) L st M) ∧
  (∀ L st M, zz_ev tX4_serveSet 12 L st M = zo_aload 0 13 (zz_ev tX4_serveSet) L st M) ∧
  (∀ L st M, zz_ev tX4_serveSet 13 L st M = zo_iload 3 14 (zz_ev tX4_serveSet) L st M) ∧
  (∀ L st M, zz_ev tX4_serveSet 14 L st M = zo_pushI 2 15 (zz_ev tX4_serveSet) L st M) ∧
  (∀ L st M, zz_ev tX4_serveSet 15 L st M = zo_iload 1 16 (zz_ev tX4_serveSet) L st M) ∧
  (∀ (L : zzLc) (a0 a1 a2 : Int32) (r : List Value) (M : zzMd), zz_ev tX4_serveSet 16 L (.int a2 :: .int a1 :: .int a0 :: .ref 4 :: r) M = bif zz_cat8 r then zz_backN (zz_ev tX4_serveSet) 19 L r (fX10_isOwned [.ref 4, .int a0, .int a1, .int a2] M) else none) ∧
  (∀ (L : zzLc) (a0 a1 a2 : Int32) (r : List Value) (M : zzMd), zz_ev tX4_serveSet 16 L (.int a2 :: .int a1 :: .int a0 :: .ref 5 :: r) M = bif zz_cat8 r then zz_backN (zz_ev tX4_serveSet) 19 L r (fX10_isOwned [.ref 5, .int a0, .int a1, .int a2] M) else none) ∧
  (∀ L st M, zz_ev tX4_serveSet 19 L st M = zo_if (fun x => decide (x = 0)) 56 22 (zz_ev tX4_serveSet) L st M) ∧
  (∀ L st M, zz_ev tX4_serveSet 22 L st M = zo_iinc 2 1 25 (zz_ev tX4_serveSet) L st M) ∧
  (∀ L st M, zz_ev tX4_serveSet 25 L st M = zo_aload 0 26 (zz_ev tX4_serveSet) L st M) ∧
  (∀ L st M, zz_ev tX4_serveSet 26 L st M = zo_iload 3 27 (zz_ev tX4_serveSet) L st M) ∧
  (∀ L st M, zz_ev tX4_serveSet 27 L st M = zo_pushI 29 29 (zz_ev tX4_serveSet) L st M) ∧
  (∀ (L : zzLc) (a0 a1 : Int32) (r : List Value) (M : zzMd), zz_ev tX4_serveSet 29 L (.int a1 :: .int a0 :: .ref 4 :: r) M = bif zz_cat8 r then zz_backN (zz_ev tX4_serveSet) 32 L r (fX10_read [.ref 4, .int a0, .int a1] M) else none) ∧
  (∀ (L : zzLc) (a0 a1 : Int32) (r : List Value) (M : zzMd), zz_ev tX4_serveSet 29 L (.int a1 :: .int a0 :: .ref 5 :: r) M = bif zz_cat8 r then zz_backN (zz_ev tX4_serveSet) 32 L r (fX10_read [.ref 5, .int a0, .int a1] M) else none) ∧
  (∀ L st M, zz_ev tX4_serveSet 32 L st M = zo_pushI 2 33 (zz_ev tX4_serveSet) L st M) ∧
  (∀ L st M, zz_ev tX4_serveSet 33 L st M = zo_icmp (fun x y => decide (x = y)) 47 36 (zz_ev tX4_serveSet) L st M) ∧
  (∀ L st M, zz_ev tX4_serveSet 36 L st M = zo_aload 0 37 (zz_ev tX4_serveSet) L st M) ∧
  (∀ L st M, zz_ev tX4_serveSet 37 L st M = zo_iload 3 38 (zz_ev tX4_serveSet) L st M) ∧
  (∀ L st M, zz_ev tX4_serveSet 38 L st M = zo_pushI 29 40 (zz_ev tX4_serveSet) L st M) ∧
  (∀ (L : zzLc) (a0 a1 : Int32) (r : List Value) (M : zzMd), zz_ev tX4_serveSet 40 L (.int a1 :: .int a0 :: .ref 4 :: r) M = bif zz_cat8 r then zz_backN (zz_ev tX4_serveSet) 43 L r (fX10_read [.ref 4, .int a0, .int a1] M) else none) ∧
  (∀ (L : zzLc) (a0 a1 : Int32) (r : List Value) (M : zzMd), zz_ev tX4_serveSet 40 L (.int a1 :: .int a0 :: .ref 5 :: r) M = bif zz_cat8 r then zz_backN (zz_ev tX4_serveSet) 43 L r (fX10_read [.ref 5, .int a0, .int a1] M) else none) ∧
  (∀ L st M, zz_ev tX4_serveSet 43 L st M = zo_pushI 3 44 (zz_ev tX4_serveSet) L st M) ∧
  (∀ L st M, zz_ev tX4_serveSet 44 L st M = zo_icmp (fun x y => decide (¬ x = y)) 56 47 (zz_ev tX4_serveSet) L st M) ∧
  (∀ L st M, zz_ev tX4_serveSet 47 L st M = zo_aload 0 48 (zz_ev tX4_serveSet) L st M) ∧
  (∀ L st M, zz_ev tX4_serveSet 48 L st M = zo_iload 3 49 (zz_ev tX4_serveSet) L st M) ∧
  (∀ (L : zzLc) (a0 : Int32) (r : List Value) (M : zzMd), zz_ev tX4_serveSet 49 L (.int a0 :: .ref 4 :: r) M = bif zz_cat8 r then zz_backN (zz_ev tX4_serveSet) 52 L r (fX2_remove [.ref 4, .int a0] M) else none) ∧
  (∀ (L : zzLc) (a0 : Int32) (r : List Value) (M : zzMd), zz_ev tX4_serveSet 49 L (.int a0 :: .ref 5 :: r) M = bif zz_cat8 r then zz_backN (zz_ev tX4_serveSet) 52 L r (fX2_remove [.ref 5, .int a0] M) else none) ∧
  (∀ (L : zzLc) (a0 : Int32) (r : List Value) (M : zzMd), zz_ev tX4_serveSet 52 L (.int a0 :: r) M = bif zz_cat8 r then zz_backN (zz_ev tX4_serveSet) 55 L r (fX2_outcomeOf [.int a0] M) else none) ∧
  (∀ L st M, zz_ev tX4_serveSet 55 L st M = zo_iret false (zz_ev tX4_serveSet) L st M) ∧
  (∀ L st M, zz_ev tX4_serveSet 56 L st M = zo_iinc 3 1 59 (zz_ev tX4_serveSet) L st M) ∧
  (∀ L st M, zz_ev tX4_serveSet 59 L st M = zo_goto 4 (zz_ev tX4_serveSet) L st M) ∧
  (∀ L st M, zz_ev tX4_serveSet 62 L st M = zo_iload 2 63 (zz_ev tX4_serveSet) L st M) ∧
  (∀ L st M, zz_ev tX4_serveSet 63 L st M = zo_aload 0 64 (zz_ev tX4_serveSet) L st M) ∧
  (∀ L st M, zz_ev tX4_serveSet 64 L st M = zo_iload 1 65 (zz_ev tX4_serveSet) L st M) ∧
  (∀ L st M, zz_ev tX4_serveSet 65 L st M = zo_pushI 0 66 (zz_ev tX4_serveSet) L st M) ∧
  (∀ (L : zzLc) (a0 a1 : Int32) (r : List Value) (M : zzMd), zz_ev tX4_serveSet 66 L (.int a1 :: .int a0 :: .ref 4 :: r) M = bif zz_cat8 r then zz_backN (zz_ev tX4_serveSet) 69 L r (fX10_read [.ref 4, .int a0, .int a1] M) else none) ∧
  (∀ (L : zzLc) (a0 a1 : Int32) (r : List Value) (M : zzMd), zz_ev tX4_serveSet 66 L (.int a1 :: .int a0 :: .ref 5 :: r) M = bif zz_cat8 r then zz_backN (zz_ev tX4_serveSet) 69 L r (fX10_read [.ref 5, .int a0, .int a1] M) else none) ∧
  (∀ L st M, zz_ev tX4_serveSet 69 L st M = zo_icmp (fun x y => decide (y ≤ x)) 82 72 (zz_ev tX4_serveSet) L st M) ∧
  (∀ L st M, zz_ev tX4_serveSet 72 L st M = zo_aload 0 73 (zz_ev tX4_serveSet) L st M) ∧
  (∀ L st M, zz_ev tX4_serveSet 73 L st M = zo_iload 1 74 (zz_ev tX4_serveSet) L st M) ∧
  (∀ L st M, zz_ev tX4_serveSet 74 L st M = zo_pushI 2 75 (zz_ev tX4_serveSet) L st M) ∧
  (∀ (L : zzLc) (a0 a1 : Int32) (r : List Value) (M : zzMd), zz_ev tX4_serveSet 75 L (.int a1 :: .int a0 :: .ref 4 :: r) M = bif zz_cat8 r then zz_backN (zz_ev tX4_serveSet) 78 L r (fX2_makeFor [.ref 4, .int a0, .int a1] M) else none) ∧
  (∀ (L : zzLc) (a0 a1 : Int32) (r : List Value) (M : zzMd), zz_ev tX4_serveSet 75 L (.int a1 :: .int a0 :: .ref 5 :: r) M = bif zz_cat8 r then zz_backN (zz_ev tX4_serveSet) 78 L r (fX2_makeFor [.ref 5, .int a0, .int a1] M) else none) ∧
  (∀ (L : zzLc) (a0 : Int32) (r : List Value) (M : zzMd), zz_ev tX4_serveSet 78 L (.int a0 :: r) M = bif zz_cat8 r then zz_backN (zz_ev tX4_serveSet) 81 L r (fX2_outcomeOf [.int a0] M) else none) ∧
  (∀ L st M, zz_ev tX4_serveSet 81 L st M = zo_iret false (zz_ev tX4_serveSet) L st M) ∧
  (∀ L st M, zz_ev tX4_serveSet 82 L st M = zo_iload 2 83 (zz_ev tX4_serveSet) L st M) ∧
  (∀ L st M, zz_ev tX4_serveSet 83 L st M = zo_aload 0 84 (zz_ev tX4_serveSet) L st M) ∧
  (∀ L st M, zz_ev tX4_serveSet 84 L st M = zo_iload 1 85 (zz_ev tX4_serveSet) L st M) ∧
  (∀ L st M, zz_ev tX4_serveSet 85 L st M = zo_pushI 0 86 (zz_ev tX4_serveSet) L st M) ∧
  (∀ (L : zzLc) (a0 a1 : Int32) (r : List Value) (M : zzMd), zz_ev tX4_serveSet 86 L (.int a1 :: .int a0 :: .ref 4 :: r) M = bif zz_cat8 r then zz_backN (zz_ev tX4_serveSet) 89 L r (fX10_read [.ref 4, .int a0, .int a1] M) else none) ∧
  (∀ (L : zzLc) (a0 a1 : Int32) (r : List Value) (M : zzMd), zz_ev tX4_serveSet 86 L (.int a1 :: .int a0 :: .ref 5 :: r) M = bif zz_cat8 r then zz_backN (zz_ev tX4_serveSet) 89 L r (fX10_read [.ref 5, .int a0, .int a1] M) else none) ∧
  (∀ L st M, zz_ev tX4_serveSet 89 L st M = zo_icmp (fun x y => decide (x ≤ y)) 107 92 (zz_ev tX4_serveSet) L st M) ∧
  (∀ L st M, zz_ev tX4_serveSet 92 L st M = zo_aload 0 93 (zz_ev tX4_serveSet) L st M) ∧
  (∀ L st M, zz_ev tX4_serveSet 93 L st M = zo_aload 0 94 (zz_ev tX4_serveSet) L st M) ∧
  (∀ L st M, zz_ev tX4_serveSet 94 L st M = zo_iload 1 95 (zz_ev tX4_serveSet) L st M) ∧
  (∀ (L : zzLc) (a0 : Int32) (r : List Value) (M : zzMd), zz_ev tX4_serveSet 95 L (.int a0 :: .ref 4 :: r) M = bif zz_cat8 r then zz_backN (zz_ev tX4_serveSet) 98 L r (fX4_podTooMany [.ref 4, .int a0] M) else none) ∧
  (∀ (L : zzLc) (a0 : Int32) (r : List Value) (M : zzMd), zz_ev tX4_serveSet 95 L (.int a0 :: .ref 5 :: r) M = bif zz_cat8 r then zz_backN (zz_ev tX4_serveSet) 98 L r (fX4_podTooMany [.ref 5, .int a0] M) else none) ∧
  (∀ (L : zzLc) (a0 : Int32) (r : List Value) (M : zzMd), zz_ev tX4_serveSet 98 L (.int a0 :: .ref 4 :: r) M = bif zz_cat8 r then zz_backN (zz_ev tX4_serveSet) 101 L r (fX2_remove [.ref 4, .int a0] M) else none) ∧
  (∀ (L : zzLc) (a0 : Int32) (r : List Value) (M : zzMd), zz_ev tX4_serveSet 98 L (.int a0 :: .ref 5 :: r) M = bif zz_cat8 r then zz_backN (zz_ev tX4_serveSet) 101 L r (fX2_remove [.ref 5, .int a0] M) else none) ∧
  (∀ (L : zzLc) (a0 : Int32) (r : List Value) (M : zzMd), zz_ev tX4_serveSet 101 L (.int a0 :: r) M = bif zz_cat8 r then zz_backN (zz_ev tX4_serveSet) 104 L r (fX2_outcomeOf [.int a0] M) else none) ∧
  (∀ L st M, zz_ev tX4_serveSet 104 L st M = zo_goto 108 (zz_ev tX4_serveSet) L st M) ∧
  (∀ L st M, zz_ev tX4_serveSet 107 L st M = zo_pushI 1 108 (zz_ev tX4_serveSet) L st M) ∧
  (∀ L st M, zz_ev tX4_serveSet 108 L st M = zo_iret false (zz_ev tX4_serveSet) L st M) :=
  ⟨zz_1 rfl tl_X4_serveSet, zz_1 rfl tl_X4_serveSet, zz_1 rfl tl_X4_serveSet, zz_1 rfl tl_X4_serveSet, zz_1 rfl tl_X4_serveSet, fun L r M => (zz_1 rfl tl_X4_serveSet _ _ _).trans rfl, fun L r M => (zz_1 rfl tl_X4_serveSet _ _ _).trans rfl, zz_1 rfl tl_X4_serveSet, zz_1 rfl tl_X4_serveSet, zz_1 rfl tl_X4_serveSet, zz_1 rfl tl_X4_serveSet, zz_1 rfl tl_X4_serveSet, fun L a0 a1 a2 r M => (zz_1 rfl tl_X4_serveSet _ _ _).trans rfl, fun L a0 a1 a2 r M => (zz_1 rfl tl_X4_serveSet _ _ _).trans rfl, zz_1 rfl tl_X4_serveSet, zz_1 rfl tl_X4_serveSet, zz_1 rfl tl_X4_serveSet, zz_1 rfl tl_X4_serveSet, zz_1 rfl tl_X4_serveSet, fun L a0 a1 r M => (zz_1 rfl tl_X4_serveSet _ _ _).trans rfl, fun L a0 a1 r M => (zz_1 rfl tl_X4_serveSet _ _ _).trans rfl, zz_1 rfl tl_X4_serveSet, zz_1 rfl tl_X4_serveSet, zz_1 rfl tl_X4_serveSet, zz_1 rfl tl_X4_serveSet, zz_1 rfl tl_X4_serveSet, fun L a0 a1 r M => (zz_1 rfl tl_X4_serveSet _ _ _).trans rfl, fun L a0 a1 r M => (zz_1 rfl tl_X4_serveSet _ _ _).trans rfl, zz_1 rfl tl_X4_serveSet, zz_1 rfl tl_X4_serveSet, zz_1 rfl tl_X4_serveSet, zz_1 rfl tl_X4_serveSet, fun L a0 r M => (zz_1 rfl tl_X4_serveSet _ _ _).trans rfl, fun L a0 r M => (zz_1 rfl tl_X4_serveSet _ _ _).trans rfl, fun L a0 r M => (zz_1 rfl tl_X4_serveSet _ _ _).trans rfl, zz_1 rfl tl_X4_serveSet, zz_1 rfl tl_X4_serveSet, zz_1 rfl tl_X4_serveSet, zz_1 rfl tl_X4_serveSet, zz_1 rfl tl_X4_serveSet, zz_1 rfl tl_X4_serveSet, zz_1 rfl tl_X4_serveSet, fun L a0 a1 r M => (zz_1 rfl tl_X4_serveSet _ _ _).trans rfl, fun L a0 a1 r M => (zz_1 rfl tl_X4_serveSet _ _ _).trans rfl, zz_1 rfl tl_X4_serveSet, zz_1 rfl tl_X4_serveSet, zz_1 rfl tl_X4_serveSet, zz_1 rfl tl_X4_serveSet, fun L a0 a1 r M => (zz_1 rfl tl_X4_serveSet _ _ _).trans rfl, fun L a0 a1 r M => (zz_1 rfl tl_X4_serveSet _ _ _).trans rfl, fun L a0 r M => (zz_1 rfl tl_X4_serveSet _ _ _).trans rfl, zz_1 rfl tl_X4_serveSet, zz_1 rfl tl_X4_serveSet, zz_1 rfl tl_X4_serveSet, zz_1 rfl tl_X4_serveSet, zz_1 rfl tl_X4_serveSet, fun L a0 a1 r M => (zz_1 rfl tl_X4_serveSet _ _ _).trans rfl, fun L a0 a1 r M => (zz_1 rfl tl_X4_serveSet _ _ _).trans rfl, zz_1 rfl tl_X4_serveSet, zz_1 rfl tl_X4_serveSet, zz_1 rfl tl_X4_serveSet, zz_1 rfl tl_X4_serveSet, fun L a0 r M => (zz_1 rfl tl_X4_serveSet _ _ _).trans rfl, fun L a0 r M => (zz_1 rfl tl_X4_serveSet _ _ _).trans rfl, fun L a0 r M => (zz_1 rfl tl_X4_serveSet _ _ _).trans rfl, fun L a0 r M => (zz_1 rfl tl_X4_serveSet _ _ _).trans rfl, fun L a0 r M => (zz_1 rfl tl_X4_serveSet _ _ _).trans rfl, zz_1 rfl tl_X4_serveSet, zz_1 rfl tl_X4_serveSet, zz_1 rfl tl_X4_serveSet⟩
set_option maxRecDepth 100000 in
theorem e_X4_serveSet_4 : (∀ L st M, zz_ev tX4_serveSet 4 L st M = zo_iload 3 5 (zz_ev tX4_serveSet) L st M) := zz_1 rfl tl_X4_serveSet
set_option maxRecDepth 100000 in
theorem s_X4_serveSet (a0 : Int32) (v : Nat) (M : zzMd) : fX4_serveSet [.ref v, .int a0] M = zz_ev tX4_serveSet 0 [some (.ref v), some (.int a0), none, none] [] M := rfl
set_option maxRecDepth 100000 in
theorem e_X4_serveJob : (∀ L st M, zz_ev tX4_serveJob 0 L st M = zo_pushI 0 1 (zz_ev tX4_serveJob) L st M) ∧
  (∀ L st M, zz_ev tX4_serveJob 1 L st M = zo_istore 2 2 (zz_ev tX4_serveJob) L st M) ∧
  (∀ L st M, zz_ev tX4_serveJob 2 L st M = zo_pushI 0 3 (zz_ev tX4_serveJob) L st M) ∧
  (∀ L st M, zz_ev tX4_serveJob 3 L st M = zo_istore 3 4 (zz_ev tX4_serveJob) L st M) ∧
  (∀ L st M, zz_ev tX4_serveJob 4 L st M = zo_pushI 0 5 (zz_ev tX4_serveJob) L st M) ∧
  (∀ L st M, zz_ev tX4_serveJob 5 L st M = zo_istore 4 7 (zz_ev tX4_serveJob) L st M) ∧
  (∀ L st M, zz_ev tX4_serveJob 9 L st M = zo_aload 0 10 (zz_ev tX4_serveJob) L st M) ∧
  (∀ (L : zzLc) (r : List Value) (M : zzMd), zz_ev tX4_serveJob 10 L (.ref 4 :: r) M = zz_ev tX4_serveJob 13 L (.int (M.1 4 2) :: r) M) ∧
  (∀ (L : zzLc) (r : List Value) (M : zzMd), zz_ev tX4_serveJob 10 L (.ref 5 :: r) M = zz_ev tX4_serveJob 13 L (.int (M.1 5 2) :: r) M) ∧
  (∀ L st M, zz_ev tX4_serveJob 13 L st M = zo_icmp (fun x y => decide (y ≤ x)) 76 16 (zz_ev tX4_serveJob) L st M) ∧
  (∀ L st M, zz_ev tX4_serveJob 16 L st M = zo_aload 0 17 (zz_ev tX4_serveJob) L st M) ∧
  (∀ L st M, zz_ev tX4_serveJob 17 L st M = zo_iload 4 19 (zz_ev tX4_serveJob) L st M) ∧
  (∀ L st M, zz_ev tX4_serveJob 19 L st M = zo_pushI 2 20 (zz_ev tX4_serveJob) L st M) ∧
  (∀ L st M, zz_ev tX4_serveJob 20 L st M = zo_iload 1 21 (zz_ev tX4_serveJob) L st M) ∧
  (∀ (L : zzLc) (a0 a1 a2 : Int32) (r : List Value) (M : zzMd), zz_ev tX4_serveJob 21 L (.int a2 :: .int a1 :: .int a0 :: .ref 4 :: r) M = bif zz_cat8 r then zz_backN (zz_ev tX4_serveJob) 24 L r (fX10_isOwned [.ref 4, .int a0, .int a1, .int a2] M) else none) ∧
  (∀ (L : zzLc) (a0 a1 a2 : Int32) (r : List Value) (M : zzMd), zz_ev tX4_serveJob 21 L (.int a2 :: .int a1 :: .int a0 :: .ref 5 :: r) M = bif zz_cat8 r then zz_backN (zz_ev tX4_serveJob) 24 L r (fX10_isOwned [.ref 5, .int a0, .int a1, .int a2] M) else none) ∧
  (∀ L st M, zz_ev tX4_serveJob 24 L st M = zo_if (fun x => decide (x = 0)) 70 27 (zz_ev tX4_serveJob) L st M) ∧
  (∀ L st M, zz_ev tX4_serveJob 27 L st M = zo_aload 0 28 (zz_ev tX4_serveJob) L st M) ∧
  (∀ L st M, zz_ev tX4_serveJob 28 L st M = zo_iload 4 30 (zz_ev tX4_serveJob) L st M) ∧
  (∀ L st M, zz_ev tX4_serveJob 30 L st M = zo_pushI 29 32 (zz_ev tX4_serveJob) L st M) ∧
  (∀ (L : zzLc) (a0 a1 : Int32) (r : List Value) (M : zzMd), zz_ev tX4_serveJob 32 L (.int a1 :: .int a0 :: .ref 4 :: r) M = bif zz_cat8 r then zz_backN (zz_ev tX4_serveJob) 35 L r (fX10_read [.ref 4, .int a0, .int a1] M) else none) ∧
  (∀ (L : zzLc) (a0 a1 : Int32) (r : List Value) (M : zzMd), zz_ev tX4_serveJob 32 L (.int a1 :: .int a0 :: .ref 5 :: r) M = bif zz_cat8 r then zz_backN (zz_ev tX4_serveJob) 35 L r (fX10_read [.ref 5, .int a0, .int a1] M) else none) ∧
  (∀ L st M, zz_ev tX4_serveJob 35 L st M = zo_istore 5 37 (zz_ev tX4_serveJob) L st M) ∧
  (∀ L st M, zz_ev tX4_serveJob 37 L st M = zo_iload 2 38 (zz_ev tX4_serveJob) L st M) ∧
  (∀ L st M, zz_ev tX4_serveJob 38 L st M = zo_iload 5 40 (zz_ev tX4_serveJob) L st M) ∧
  (∀ L st M, zz_ev tX4_serveJob 40 L st M = zo_pushI 2 41 (zz_ev tX4_serveJob) L st M) ∧
  (∀ L st M, zz_ev tX4_serveJob 41 L st M = zo_icmp (fun x y => decide (¬ x = y)) 48 44 (zz_ev tX4_serveJob) L st M) ∧
  (∀ L st M, zz_ev tX4_serveJob 44 L st M = zo_pushI 1 45 (zz_ev tX4_serveJob) L st M) ∧
  (∀ L st M, zz_ev tX4_serveJob 45 L st M = zo_goto 49 (zz_ev tX4_serveJob) L st M) ∧
  (∀ L st M, zz_ev tX4_serveJob 48 L st M = zo_pushI 0 49 (zz_ev tX4_serveJob) L st M) ∧
  (∀ L st M, zz_ev tX4_serveJob 49 L st M = zo_ii (fun x y => x + y) 50 (zz_ev tX4_serveJob) L st M) ∧
  (∀ L st M, zz_ev tX4_serveJob 50 L st M = zo_istore 2 51 (zz_ev tX4_serveJob) L st M) ∧
  (∀ L st M, zz_ev tX4_serveJob 51 L st M = zo_iload 3 52 (zz_ev tX4_serveJob) L st M) ∧
  (∀ L st M, zz_ev tX4_serveJob 52 L st M = zo_iload 5 54 (zz_ev tX4_serveJob) L st M) ∧
  (∀ L st M, zz_ev tX4_serveJob 54 L st M = zo_if (fun x => decide (x = 0)) 63 57 (zz_ev tX4_serveJob) L st M) ∧
  (∀ L st M, zz_ev tX4_serveJob 57 L st M = zo_iload 5 59 (zz_ev tX4_serveJob) L st M) ∧
  (∀ L st M, zz_ev tX4_serveJob 59 L st M = zo_pushI 1 60 (zz_ev tX4_serveJob) L st M) ∧
  (∀ L st M, zz_ev tX4_serveJob 60 L st M = zo_icmp (fun x y => decide (¬ x = y)) 67 63 (zz_ev tX4_serveJob) L st M) ∧
  (∀ L st M, zz_ev tX4_serveJob 63 L st M = zo_pushI 1 64 (zz_ev tX4_serveJob) L st M) ∧
  (∀ L st M, zz_ev tX4_serveJob 64 L st M = zo_goto 68 (zz_ev tX4_serveJob) L st M) ∧
  (∀ L st M, zz_ev tX4_serveJob 67 L st M = zo_pushI 0 68 (zz_ev tX4_serveJob) L st M) ∧
  (∀ L st M, zz_ev tX4_serveJob 68 L st M = zo_ii (fun x y => x + y) 69 (zz_ev tX4_serveJob) L st M) ∧
  (∀ L st M, zz_ev tX4_serveJob 69 L st M = zo_istore 3 70 (zz_ev tX4_serveJob) L st M) ∧
  (∀ L st M, zz_ev tX4_serveJob 70 L st M = zo_iinc 4 1 73 (zz_ev tX4_serveJob) L st M) ∧
  (∀ L st M, zz_ev tX4_serveJob 73 L st M = zo_goto 7 (zz_ev tX4_serveJob) L st M) ∧
  (∀ L st M, zz_ev tX4_serveJob 76 L st M = zo_iload 2 77 (zz_ev tX4_serveJob) L st M) ∧
  (∀ L st M, zz_ev tX4_serveJob 77 L st M = zo_iload 3 78 (zz_ev tX4_serveJob) L st M) ∧
  (∀ L st M, zz_ev tX4_serveJob 78 L st M = zo_ii (fun x y => x + y) 79 (zz_ev tX4_serveJob) L st M) ∧
  (∀ L st M, zz_ev tX4_serveJob 79 L st M = zo_aload 0 80 (zz_ev tX4_serveJob) L st M) ∧
  (∀ L st M, zz_ev tX4_serveJob 80 L st M = zo_iload 1 81 (zz_ev tX4_serveJob) L st M) ∧
  (∀ L st M, zz_ev tX4_serveJob 81 L st M = zo_pushI 0 82 (zz_ev tX4_serveJob) L st M) ∧
  (∀ (L : zzLc) (a0 a1 : Int32) (r : List Value) (M : zzMd), zz_ev tX4_serveJob 82 L (.int a1 :: .int a0 :: .ref 4 :: r) M = bif zz_cat8 r then zz_backN (zz_ev tX4_serveJob) 85 L r (fX10_read [.ref 4, .int a0, .int a1] M) else none) ∧
  (∀ (L : zzLc) (a0 a1 : Int32) (r : List Value) (M : zzMd), zz_ev tX4_serveJob 82 L (.int a1 :: .int a0 :: .ref 5 :: r) M = bif zz_cat8 r then zz_backN (zz_ev tX4_serveJob) 85 L r (fX10_read [.ref 5, .int a0, .int a1] M) else none) ∧
  (∀ L st M, zz_ev tX4_serveJob 85 L st M = zo_icmp (fun x y => decide (y ≤ x)) 103 88 (zz_ev tX4_serveJob) L st M) ∧
  (∀ L st M, zz_ev tX4_serveJob 88 L st M = zo_iload 3 89 (zz_ev tX4_serveJob) L st M) ∧
  (∀ L st M, zz_ev tX4_serveJob 89 L st M = zo_aload 0 90 (zz_ev tX4_serveJob) L st M) ∧
  (∀ L st M, zz_ev tX4_serveJob 90 L st M = zo_iload 1 91 (zz_ev tX4_serveJob) L st M) ∧
  (∀ L st M, zz_ev tX4_serveJob 91 L st M = zo_pushI 10 93 (zz_ev tX4_serveJob) L st M) ∧
  (∀ (L : zzLc) (a0 a1 : Int32) (r : List Value) (M : zzMd), zz_ev tX4_serveJob 93 L (.int a1 :: .int a0 :: .ref 4 :: r) M = bif zz_cat8 r then zz_backN (zz_ev tX4_serveJob) 96 L r (fX10_read [.ref 4, .int a0, .int a1] M) else none) ∧
  (∀ (L : zzLc) (a0 a1 : Int32) (r : List Value) (M : zzMd), zz_ev tX4_serveJob 93 L (.int a1 :: .int a0 :: .ref 5 :: r) M = bif zz_cat8 r then zz_backN (zz_ev tX4_serveJob) 96 L r (fX10_read [.ref 5, .int a0, .int a1] M) else none) ∧
  (∀ L st M, zz_ev tX4_serveJob 96 L st M = zo_icmp (fun x y => decide (y ≤ x)) 103 99 (zz_ev tX4_serveJob) L st M) ∧
  (∀ L st M, zz_ev tX4_serveJob 99 L st M = zo_pushI 1 100 (zz_ev tX4_serveJob) L st M) ∧
  (∀ L st M, zz_ev tX4_serveJob 100 L st M = zo_goto 104 (zz_ev tX4_serveJob) L st M) ∧
  (∀ L st M, zz_ev tX4_serveJob 103 L st M = zo_pushI 0 104 (zz_ev tX4_serveJob) L st M) ∧
  (∀ L st M, zz_ev tX4_serveJob 104 L st M = zo_istore 4 106 (zz_ev tX4_serveJob) L st M) ∧
  (∀ L st M, zz_ev tX4_serveJob 106 L st M = zo_iload 4 108 (zz_ev tX4_serveJob) L st M) ∧
  (∀ L st M, zz_ev tX4_serveJob 108 L st M = zo_if (fun x => decide (x = 0)) 123 111 (zz_ev tX4_serveJob) L st M) ∧
  (∀ L st M, zz_ev tX4_serveJob 111 L st M = zo_aload 0 112 (zz_ev tX4_serveJob) L st M) ∧
  (∀ L st M, zz_ev tX4_serveJob 112 L st M = zo_iload 1 113 (zz_ev tX4_serveJob) L st M) ∧
  (∀ L st M, zz_ev tX4_serveJob 113 L st M = zo_pushI 2 114 (zz_ev tX4_serveJob) L st M) ∧
  (∀ (L : zzLc) (a0 a1 : Int32) (r : List Value) (M : zzMd), zz_ev tX4_serveJob 114 L (.int a1 :: .int a0 :: .ref 4 :: r) M = bif zz_cat8 r then zz_backN (zz_ev tX4_serveJob) 117 L r (fX2_makeFor [.ref 4, .int a0, .int a1] M) else none) ∧
  (∀ (L : zzLc) (a0 a1 : Int32) (r : List Value) (M : zzMd), zz_ev tX4_serveJob 114 L (.int a1 :: .int a0 :: .ref 5 :: r) M = bif zz_cat8 r then zz_backN (zz_ev tX4_serveJob) 117 L r (fX2_makeFor [.ref 5, .int a0, .int a1] M) else none) ∧
  (∀ (L : zzLc) (a0 : Int32) (r : List Value) (M : zzMd), zz_ev tX4_serveJob 117 L (.int a0 :: r) M = bif zz_cat8 r then zz_backN (zz_ev tX4_serveJob) 120 L r (fX2_outcomeOf [.int a0] M) else none) ∧
  (∀ L st M, zz_ev tX4_serveJob 120 L st M = zo_goto 124 (zz_ev tX4_serveJob) L st M) ∧
  (∀ L st M, zz_ev tX4_serveJob 123 L st M = zo_pushI 1 124 (zz_ev tX4_serveJob) L st M) ∧
  (∀ L st M, zz_ev tX4_serveJob 124 L st M = zo_iret false (zz_ev tX4_serveJob) L st M) :=
  ⟨zz_1 rfl tl_X4_serveJob, zz_1 rfl tl_X4_serveJob, zz_1 rfl tl_X4_serveJob, zz_1 rfl tl_X4_serveJob, zz_1 rfl tl_X4_serveJob, zz_1 rfl tl_X4_serveJob, zz_1 rfl tl_X4_serveJob, fun L r M => (zz_1 rfl tl_X4_serveJob _ _ _).trans rfl, fun L r M => (zz_1 rfl tl_X4_serveJob _ _ _).trans rfl, zz_1 rfl tl_X4_serveJob, zz_1 rfl tl_X4_serveJob, zz_1 rfl tl_X4_serveJob, zz_1 rfl tl_X4_serveJob, zz_1 rfl tl_X4_serveJob, fun L a0 a1 a2 r M => (zz_1 rfl tl_X4_serveJob _ _ _).trans rfl, fun L a0 a1 a2 r M => (zz_1 rfl tl_X4_serveJob _ _ _).trans rfl, zz_1 rfl tl_X4_serveJob, zz_1 rfl tl_X4_serveJob, zz_1 rfl tl_X4_serveJob, zz_1 rfl tl_X4_serveJob, fun L a0 a1 r M => (zz_1 rfl tl_X4_serveJob _ _ _).trans rfl, fun L a0 a1 r M => (zz_1 rfl tl_X4_serveJob _ _ _).trans rfl, zz_1 rfl tl_X4_serveJob, zz_1 rfl tl_X4_serveJob, zz_1 rfl tl_X4_serveJob, zz_1 rfl tl_X4_serveJob, zz_1 rfl tl_X4_serveJob, zz_1 rfl tl_X4_serveJob, zz_1 rfl tl_X4_serveJob, zz_1 rfl tl_X4_serveJob, zz_1 rfl tl_X4_serveJob, zz_1 rfl tl_X4_serveJob, zz_1 rfl tl_X4_serveJob, zz_1 rfl tl_X4_serveJob, zz_1 rfl tl_X4_serveJob, zz_1 rfl tl_X4_serveJob, zz_1 rfl tl_X4_serveJob, zz_1 rfl tl_X4_serveJob, zz_1 rfl tl_X4_serveJob, zz_1 rfl tl_X4_serveJob, zz_1 rfl tl_X4_serveJob, zz_1 rfl tl_X4_serveJob, zz_1 rfl tl_X4_serveJob, zz_1 rfl tl_X4_serveJob, zz_1 rfl tl_X4_serveJob, zz_1 rfl tl_X4_serveJob, zz_1 rfl tl_X4_serveJob, zz_1 rfl tl_X4_serveJob, zz_1 rfl tl_X4_serveJob, zz_1 rfl tl_X4_serveJob, zz_1 rfl tl_X4_serveJob, fun L a0 a1 r M => (zz_1 rfl tl_X4_serveJob _ _ _).trans rfl, fun L a0 a1 r M => (zz_1 rfl tl_X4_serveJob _ _ _).trans rfl, zz_1 rfl tl_X4_serveJob, zz_1 rfl tl_X4_serveJob, zz_1 rfl tl_X4_serveJob, zz_1 rfl tl_X4_serveJob, zz_1 rfl tl_X4_serveJob, fun L a0 a1 r M => (zz_1 rfl tl_X4_serveJob _ _ _).trans rfl, fun L a0 a1 r M => (zz_1 rfl tl_X4_serveJob _ _ _).trans rfl, zz_1 rfl tl_X4_serveJob, zz_1 rfl tl_X4_serveJob, zz_1 rfl tl_X4_serveJob, zz_1 rfl tl_X4_serveJob, zz_1 rfl tl_X4_serveJob, zz_1 rfl tl_X4_serveJob, zz_1 rfl tl_X4_serveJob, zz_1 rfl tl_X4_serveJob, zz_1 rfl tl_X4_serveJob, zz_1 rfl tl_X4_serveJob, fun L a0 a1 r M => (zz_1 rfl tl_X4_serveJob _ _ _).trans rfl, fun L a0 a1 r M => (zz_1 rfl tl_X4_serveJob _ _ _).trans rfl, fun L a0 r M => (zz_1 rfl tl_X4_serveJob _ _ _).trans rfl, zz_1 rfl tl_X4_serveJob, zz_1 rfl tl_X4_serveJob, zz_1 rfl tl_X4_serveJob⟩
set_option maxRecDepth 100000 in
theorem e_X4_serveJob_7 : (∀ L st M, zz_ev tX4_serveJob 7 L st M = zo_iload 4 9 (zz_ev tX4_serveJob) L st M) := zz_1 rfl tl_X4_serveJob
set_option maxRecDepth 100000 in
theorem s_X4_serveJob (a0 : Int32) (v : Nat) (M : zzMd) : fX4_serveJob [.ref v, .int a0] M = zz_ev tX4_serveJob 0 [some (.ref v), some (.int a0), none, none, none, none] [] M := rfl
set_option maxRecDepth 100000 in
theorem e_X4_serve : (∀ L st M, zz_ev tX4_serve 0 L st M = zo_aload 0 1 (zz_ev tX4_serve) L st M) ∧
  (∀ L st M, zz_ev tX4_serve 1 L st M = zo_iload 1 2 (zz_ev tX4_serve) L st M) ∧
  (∀ L st M, zz_ev tX4_serve 2 L st M = zo_aload 0 3 (zz_ev tX4_serve) L st M) ∧
  (∀ (L : zzLc) (r : List Value) (M : zzMd), zz_ev tX4_serve 3 L (.ref 4 :: r) M = zz_ev tX4_serve 6 L (.int (M.1 4 5) :: r) M) ∧
  (∀ (L : zzLc) (r : List Value) (M : zzMd), zz_ev tX4_serve 3 L (.ref 5 :: r) M = zz_ev tX4_serve 6 L (.int (M.1 5 5) :: r) M) ∧
  (∀ (L : zzLc) (a0 a1 : Int32) (r : List Value) (M : zzMd), zz_ev tX4_serve 6 L (.int a1 :: .int a0 :: .ref 4 :: r) M = bif zz_cat8 r then zz_backN (zz_ev tX4_serve) 9 L r (fX10_isStaying [.ref 4, .int a0, .int a1] M) else none) ∧
  (∀ (L : zzLc) (a0 a1 : Int32) (r : List Value) (M : zzMd), zz_ev tX4_serve 6 L (.int a1 :: .int a0 :: .ref 5 :: r) M = bif zz_cat8 r then zz_backN (zz_ev tX4_serve) 9 L r (fX10_isStaying [.ref 5, .int a0, .int a1] M) else none) ∧
  (∀ L st M, zz_ev tX4_serve 9 L st M = zo_if (fun x => decide (¬ x = 0)) 14 12 (zz_ev tX4_serve) L st M) ∧
  (∀ L st M, zz_ev tX4_serve 12 L st M = zo_pushI 1 13 (zz_ev tX4_serve) L st M) ∧
  (∀ L st M, zz_ev tX4_serve 13 L st M = zo_iret false (zz_ev tX4_serve) L st M) ∧
  (∀ L st M, zz_ev tX4_serve 14 L st M = zo_aload 0 15 (zz_ev tX4_serve) L st M) ∧
  (∀ (L : zzLc) (r : List Value) (M : zzMd), zz_ev tX4_serve 15 L (.ref 4 :: r) M = zz_ev tX4_serve 18 L (.int (M.1 4 5) :: r) M) ∧
  (∀ (L : zzLc) (r : List Value) (M : zzMd), zz_ev tX4_serve 15 L (.ref 5 :: r) M = zz_ev tX4_serve 18 L (.int (M.1 5 5) :: r) M) ∧
  (∀ L st M, zz_ev tX4_serve 18 L st M = zo_pushI 1 19 (zz_ev tX4_serve) L st M) ∧
  (∀ L st M, zz_ev tX4_serve 19 L st M = zo_icmp (fun x y => decide (¬ x = y)) 30 22 (zz_ev tX4_serve) L st M) ∧
  (∀ L st M, zz_ev tX4_serve 22 L st M = zo_aload 0 23 (zz_ev tX4_serve) L st M) ∧
  (∀ L st M, zz_ev tX4_serve 23 L st M = zo_iload 1 24 (zz_ev tX4_serve) L st M) ∧
  (∀ (L : zzLc) (a0 : Int32) (r : List Value) (M : zzMd), zz_ev tX4_serve 24 L (.int a0 :: .ref 4 :: r) M = bif zz_cat8 r then zz_backN (zz_ev tX4_serve) 27 L r (fX4_serveSet [.ref 4, .int a0] M) else none) ∧
  (∀ (L : zzLc) (a0 : Int32) (r : List Value) (M : zzMd), zz_ev tX4_serve 24 L (.int a0 :: .ref 5 :: r) M = bif zz_cat8 r then zz_backN (zz_ev tX4_serve) 27 L r (fX4_serveSet [.ref 5, .int a0] M) else none) ∧
  (∀ L st M, zz_ev tX4_serve 27 L st M = zo_goto 35 (zz_ev tX4_serve) L st M) ∧
  (∀ L st M, zz_ev tX4_serve 30 L st M = zo_aload 0 31 (zz_ev tX4_serve) L st M) ∧
  (∀ L st M, zz_ev tX4_serve 31 L st M = zo_iload 1 32 (zz_ev tX4_serve) L st M) ∧
  (∀ (L : zzLc) (a0 : Int32) (r : List Value) (M : zzMd), zz_ev tX4_serve 32 L (.int a0 :: .ref 4 :: r) M = bif zz_cat8 r then zz_backN (zz_ev tX4_serve) 35 L r (fX4_serveJob [.ref 4, .int a0] M) else none) ∧
  (∀ (L : zzLc) (a0 : Int32) (r : List Value) (M : zzMd), zz_ev tX4_serve 32 L (.int a0 :: .ref 5 :: r) M = bif zz_cat8 r then zz_backN (zz_ev tX4_serve) 35 L r (fX4_serveJob [.ref 5, .int a0] M) else none) ∧
  (∀ L st M, zz_ev tX4_serve 35 L st M = zo_iret false (zz_ev tX4_serve) L st M) :=
  ⟨zz_1 rfl tl_X4_serve, zz_1 rfl tl_X4_serve, zz_1 rfl tl_X4_serve, fun L r M => (zz_1 rfl tl_X4_serve _ _ _).trans rfl, fun L r M => (zz_1 rfl tl_X4_serve _ _ _).trans rfl, fun L a0 a1 r M => (zz_1 rfl tl_X4_serve _ _ _).trans rfl, fun L a0 a1 r M => (zz_1 rfl tl_X4_serve _ _ _).trans rfl, zz_1 rfl tl_X4_serve, zz_1 rfl tl_X4_serve, zz_1 rfl tl_X4_serve, zz_1 rfl tl_X4_serve, fun L r M => (zz_1 rfl tl_X4_serve _ _ _).trans rfl, fun L r M => (zz_1 rfl tl_X4_serve _ _ _).trans rfl, zz_1 rfl tl_X4_serve, zz_1 rfl tl_X4_serve, zz_1 rfl tl_X4_serve, zz_1 rfl tl_X4_serve, fun L a0 r M => (zz_1 rfl tl_X4_serve _ _ _).trans rfl, fun L a0 r M => (zz_1 rfl tl_X4_serve _ _ _).trans rfl, zz_1 rfl tl_X4_serve, zz_1 rfl tl_X4_serve, zz_1 rfl tl_X4_serve, fun L a0 r M => (zz_1 rfl tl_X4_serve _ _ _).trans rfl, fun L a0 r M => (zz_1 rfl tl_X4_serve _ _ _).trans rfl, zz_1 rfl tl_X4_serve⟩
set_option maxRecDepth 100000 in
theorem s_X4_serve (a0 : Int32) (v : Nat) (M : zzMd) : fX4_serve [.ref v, .int a0] M = zz_ev tX4_serve 0 [some (.ref v), some (.int a0)] [] M := rfl
set_option maxRecDepth 100000 in
theorem e_X5_podsBehind : (∀ L st M, zz_ev tX5_podsBehind 0 L st M = zo_aload 0 1 (zz_ev tX5_podsBehind) L st M) ∧
  (∀ L st M, zz_ev tX5_podsBehind 1 L st M = zo_iload 1 2 (zz_ev tX5_podsBehind) L st M) ∧
  (∀ L st M, zz_ev tX5_podsBehind 2 L st M = zo_pushI 1 3 (zz_ev tX5_podsBehind) L st M) ∧
  (∀ (L : zzLc) (a0 a1 : Int32) (r : List Value) (M : zzMd), zz_ev tX5_podsBehind 3 L (.int a1 :: .int a0 :: .ref 9 :: r) M = bif zz_cat8 r then zz_backN (zz_ev tX5_podsBehind) 6 L r (fX10_read [.ref 9, .int a0, .int a1] M) else none) ∧
  (∀ L st M, zz_ev tX5_podsBehind 6 L st M = zo_istore 3 7 (zz_ev tX5_podsBehind) L st M) ∧
  (∀ L st M, zz_ev tX5_podsBehind 7 L st M = zo_pushI 0 8 (zz_ev tX5_podsBehind) L st M) ∧
  (∀ L st M, zz_ev tX5_podsBehind 8 L st M = zo_istore 4 10 (zz_ev tX5_podsBehind) L st M) ∧
  (∀ L st M, zz_ev tX5_podsBehind 10 L st M = zo_iload 2 11 (zz_ev tX5_podsBehind) L st M) ∧
  (∀ L st M, zz_ev tX5_podsBehind 11 L st M = zo_istore 5 13 (zz_ev tX5_podsBehind) L st M) ∧
  (∀ L st M, zz_ev tX5_podsBehind 15 L st M = zo_aload 0 16 (zz_ev tX5_podsBehind) L st M) ∧
  (∀ (L : zzLc) (r : List Value) (M : zzMd), zz_ev tX5_podsBehind 16 L (.ref 9 :: r) M = zz_ev tX5_podsBehind 19 L (.int (M.1 9 2) :: r) M) ∧
  (∀ L st M, zz_ev tX5_podsBehind 19 L st M = zo_icmp (fun x y => decide (y ≤ x)) 81 22 (zz_ev tX5_podsBehind) L st M) ∧
  (∀ L st M, zz_ev tX5_podsBehind 22 L st M = zo_iload 5 24 (zz_ev tX5_podsBehind) L st M) ∧
  (∀ L st M, zz_ev tX5_podsBehind 24 L st M = zo_iload 2 25 (zz_ev tX5_podsBehind) L st M) ∧
  (∀ L st M, zz_ev tX5_podsBehind 25 L st M = zo_pushI 30 27 (zz_ev tX5_podsBehind) L st M) ∧
  (∀ L st M, zz_ev tX5_podsBehind 27 L st M = zo_ii (fun x y => x + y) 28 (zz_ev tX5_podsBehind) L st M) ∧
  (∀ L st M, zz_ev tX5_podsBehind 28 L st M = zo_icmp (fun x y => decide (y ≤ x)) 81 31 (zz_ev tX5_podsBehind) L st M) ∧
  (∀ L st M, zz_ev tX5_podsBehind 31 L st M = zo_aload 0 32 (zz_ev tX5_podsBehind) L st M) ∧
  (∀ L st M, zz_ev tX5_podsBehind 32 L st M = zo_iload 5 34 (zz_ev tX5_podsBehind) L st M) ∧
  (∀ L st M, zz_ev tX5_podsBehind 34 L st M = zo_pushI 2 35 (zz_ev tX5_podsBehind) L st M) ∧
  (∀ (L : zzLc) (a0 a1 : Int32) (r : List Value) (M : zzMd), zz_ev tX5_podsBehind 35 L (.int a1 :: .int a0 :: .ref 9 :: r) M = bif zz_cat8 r then zz_backN (zz_ev tX5_podsBehind) 38 L r (fX10_isStaying [.ref 9, .int a0, .int a1] M) else none) ∧
  (∀ L st M, zz_ev tX5_podsBehind 38 L st M = zo_if (fun x => decide (x = 0)) 75 41 (zz_ev tX5_podsBehind) L st M) ∧
  (∀ L st M, zz_ev tX5_podsBehind 41 L st M = zo_aload 0 42 (zz_ev tX5_podsBehind) L st M) ∧
  (∀ L st M, zz_ev tX5_podsBehind 42 L st M = zo_iload 5 44 (zz_ev tX5_podsBehind) L st M) ∧
  (∀ L st M, zz_ev tX5_podsBehind 44 L st M = zo_pushI 29 46 (zz_ev tX5_podsBehind) L st M) ∧
  (∀ (L : zzLc) (a0 a1 : Int32) (r : List Value) (M : zzMd), zz_ev tX5_podsBehind 46 L (.int a1 :: .int a0 :: .ref 9 :: r) M = bif zz_cat8 r then zz_backN (zz_ev tX5_podsBehind) 49 L r (fX10_read [.ref 9, .int a0, .int a1] M) else none) ∧
  (∀ L st M, zz_ev tX5_podsBehind 49 L st M = zo_pushI 1 50 (zz_ev tX5_podsBehind) L st M) ∧
  (∀ L st M, zz_ev tX5_podsBehind 50 L st M = zo_icmp (fun x y => decide (¬ x = y)) 75 53 (zz_ev tX5_podsBehind) L st M) ∧
  (∀ L st M, zz_ev tX5_podsBehind 53 L st M = zo_aload 0 54 (zz_ev tX5_podsBehind) L st M) ∧
  (∀ L st M, zz_ev tX5_podsBehind 54 L st M = zo_iload 5 56 (zz_ev tX5_podsBehind) L st M) ∧
  (∀ L st M, zz_ev tX5_podsBehind 56 L st M = zo_pushI 1 57 (zz_ev tX5_podsBehind) L st M) ∧
  (∀ (L : zzLc) (a0 a1 : Int32) (r : List Value) (M : zzMd), zz_ev tX5_podsBehind 57 L (.int a1 :: .int a0 :: .ref 9 :: r) M = bif zz_cat8 r then zz_backN (zz_ev tX5_podsBehind) 60 L r (fX10_read [.ref 9, .int a0, .int a1] M) else none) ∧
  (∀ L st M, zz_ev tX5_podsBehind 60 L st M = zo_iload 3 61 (zz_ev tX5_podsBehind) L st M) ∧
  (∀ L st M, zz_ev tX5_podsBehind 61 L st M = zo_icmp (fun x y => decide (¬ x = y)) 75 64 (zz_ev tX5_podsBehind) L st M) ∧
  (∀ L st M, zz_ev tX5_podsBehind 64 L st M = zo_iload 4 66 (zz_ev tX5_podsBehind) L st M) ∧
  (∀ L st M, zz_ev tX5_podsBehind 66 L st M = zo_pushI 1 67 (zz_ev tX5_podsBehind) L st M) ∧
  (∀ L st M, zz_ev tX5_podsBehind 67 L st M = zo_iload 5 69 (zz_ev tX5_podsBehind) L st M) ∧
  (∀ L st M, zz_ev tX5_podsBehind 69 L st M = zo_iload 2 70 (zz_ev tX5_podsBehind) L st M) ∧
  (∀ L st M, zz_ev tX5_podsBehind 70 L st M = zo_ii (fun x y => x - y) 71 (zz_ev tX5_podsBehind) L st M) ∧
  (∀ L st M, zz_ev tX5_podsBehind 71 L st M = zo_ii (fun x y => x <<< (y &&& 31)) 72 (zz_ev tX5_podsBehind) L st M) ∧
  (∀ L st M, zz_ev tX5_podsBehind 72 L st M = zo_ii (fun x y => x ||| y) 73 (zz_ev tX5_podsBehind) L st M) ∧
  (∀ L st M, zz_ev tX5_podsBehind 73 L st M = zo_istore 4 75 (zz_ev tX5_podsBehind) L st M) ∧
  (∀ L st M, zz_ev tX5_podsBehind 75 L st M = zo_iinc 5 1 78 (zz_ev tX5_podsBehind) L st M) ∧
  (∀ L st M, zz_ev tX5_podsBehind 78 L st M = zo_goto 13 (zz_ev tX5_podsBehind) L st M) ∧
  (∀ L st M, zz_ev tX5_podsBehind 81 L st M = zo_iload 4 83 (zz_ev tX5_podsBehind) L st M) ∧
  (∀ L st M, zz_ev tX5_podsBehind 83 L st M = zo_iret false (zz_ev tX5_podsBehind) L st M) :=
  ⟨zz_1 rfl tl_X5_podsBehind, zz_1 rfl tl_X5_podsBehind, zz_1 rfl tl_X5_podsBehind, fun L a0 a1 r M => (zz_1 rfl tl_X5_podsBehind _ _ _).trans rfl, zz_1 rfl tl_X5_podsBehind, zz_1 rfl tl_X5_podsBehind, zz_1 rfl tl_X5_podsBehind, zz_1 rfl tl_X5_podsBehind, zz_1 rfl tl_X5_podsBehind, zz_1 rfl tl_X5_podsBehind, fun L r M => (zz_1 rfl tl_X5_podsBehind _ _ _).trans rfl, zz_1 rfl tl_X5_podsBehind, zz_1 rfl tl_X5_podsBehind, zz_1 rfl tl_X5_podsBehind, zz_1 rfl tl_X5_podsBehind, zz_1 rfl tl_X5_podsBehind, zz_1 rfl tl_X5_podsBehind, zz_1 rfl tl_X5_podsBehind, zz_1 rfl tl_X5_podsBehind, zz_1 rfl tl_X5_podsBehind, fun L a0 a1 r M => (zz_1 rfl tl_X5_podsBehind _ _ _).trans rfl, zz_1 rfl tl_X5_podsBehind, zz_1 rfl tl_X5_podsBehind, zz_1 rfl tl_X5_podsBehind, zz_1 rfl tl_X5_podsBehind, fun L a0 a1 r M => (zz_1 rfl tl_X5_podsBehind _ _ _).trans rfl, zz_1 rfl tl_X5_podsBehind, zz_1 rfl tl_X5_podsBehind, zz_1 rfl tl_X5_podsBehind, zz_1 rfl tl_X5_podsBehind, zz_1 rfl tl_X5_podsBehind, fun L a0 a1 r M => (zz_1 rfl tl_X5_podsBehind _ _ _).trans rfl, zz_1 rfl tl_X5_podsBehind, zz_1 rfl tl_X5_podsBehind, zz_1 rfl tl_X5_podsBehind, zz_1 rfl tl_X5_podsBehind, zz_1 rfl tl_X5_podsBehind, zz_1 rfl tl_X5_podsBehind, zz_1 rfl tl_X5_podsBehind, zz_1 rfl tl_X5_podsBehind, zz_1 rfl tl_X5_podsBehind, zz_1 rfl tl_X5_podsBehind, zz_1 rfl tl_X5_podsBehind, zz_1 rfl tl_X5_podsBehind, zz_1 rfl tl_X5_podsBehind, zz_1 rfl tl_X5_podsBehind⟩
set_option maxRecDepth 100000 in
theorem e_X5_podsBehind_13 : (∀ L st M, zz_ev tX5_podsBehind 13 L st M = zo_iload 5 15 (zz_ev tX5_podsBehind) L st M) := zz_1 rfl tl_X5_podsBehind
set_option maxRecDepth 100000 in
theorem s_X5_podsBehind (a0 a1 : Int32) (v : Nat) (M : zzMd) : fX5_podsBehind [.ref v, .int a0, .int a1] M = zz_ev tX5_podsBehind 0 [some (.ref v), some (.int a0), some (.int a1), none, none, none] [] M := rfl
set_option maxRecDepth 100000 in
theorem e_X5_serve : (∀ L st M, zz_ev tX5_serve 0 L st M = zo_aload 0 1 (zz_ev tX5_serve) L st M) ∧
  (∀ L st M, zz_ev tX5_serve 1 L st M = zo_iload 1 2 (zz_ev tX5_serve) L st M) ∧
  (∀ L st M, zz_ev tX5_serve 2 L st M = zo_pushI 5 3 (zz_ev tX5_serve) L st M) ∧
  (∀ (L : zzLc) (a0 a1 : Int32) (r : List Value) (M : zzMd), zz_ev tX5_serve 3 L (.int a1 :: .int a0 :: .ref 9 :: r) M = bif zz_cat8 r then zz_backN (zz_ev tX5_serve) 6 L r (fX10_isStaying [.ref 9, .int a0, .int a1] M) else none) ∧
  (∀ L st M, zz_ev tX5_serve 6 L st M = zo_if (fun x => decide (¬ x = 0)) 11 9 (zz_ev tX5_serve) L st M) ∧
  (∀ L st M, zz_ev tX5_serve 9 L st M = zo_pushI 1 10 (zz_ev tX5_serve) L st M) ∧
  (∀ L st M, zz_ev tX5_serve 10 L st M = zo_iret false (zz_ev tX5_serve) L st M) ∧
  (∀ L st M, zz_ev tX5_serve 11 L st M = zo_aload 0 12 (zz_ev tX5_serve) L st M) ∧
  (∀ L st M, zz_ev tX5_serve 12 L st M = zo_iload 1 13 (zz_ev tX5_serve) L st M) ∧
  (∀ L st M, zz_ev tX5_serve 13 L st M = zo_pushI 0 14 (zz_ev tX5_serve) L st M) ∧
  (∀ (L : zzLc) (a0 a1 : Int32) (r : List Value) (M : zzMd), zz_ev tX5_serve 14 L (.int a1 :: .int a0 :: .ref 9 :: r) M = bif zz_cat8 r then zz_backN (zz_ev tX5_serve) 17 L r (fX5_podsBehind [.ref 9, .int a0, .int a1] M) else none) ∧
  (∀ L st M, zz_ev tX5_serve 17 L st M = zo_istore 2 18 (zz_ev tX5_serve) L st M) ∧
  (∀ L st M, zz_ev tX5_serve 18 L st M = zo_aload 0 19 (zz_ev tX5_serve) L st M) ∧
  (∀ L st M, zz_ev tX5_serve 19 L st M = zo_iload 1 20 (zz_ev tX5_serve) L st M) ∧
  (∀ L st M, zz_ev tX5_serve 20 L st M = zo_pushI 30 22 (zz_ev tX5_serve) L st M) ∧
  (∀ (L : zzLc) (a0 a1 : Int32) (r : List Value) (M : zzMd), zz_ev tX5_serve 22 L (.int a1 :: .int a0 :: .ref 9 :: r) M = bif zz_cat8 r then zz_backN (zz_ev tX5_serve) 25 L r (fX5_podsBehind [.ref 9, .int a0, .int a1] M) else none) ∧
  (∀ L st M, zz_ev tX5_serve 25 L st M = zo_istore 3 26 (zz_ev tX5_serve) L st M) ∧
  (∀ L st M, zz_ev tX5_serve 26 L st M = zo_iload 2 27 (zz_ev tX5_serve) L st M) ∧
  (∀ L st M, zz_ev tX5_serve 27 L st M = zo_aload 0 28 (zz_ev tX5_serve) L st M) ∧
  (∀ L st M, zz_ev tX5_serve 28 L st M = zo_iload 1 29 (zz_ev tX5_serve) L st M) ∧
  (∀ L st M, zz_ev tX5_serve 29 L st M = zo_pushI 30 31 (zz_ev tX5_serve) L st M) ∧
  (∀ (L : zzLc) (a0 a1 : Int32) (r : List Value) (M : zzMd), zz_ev tX5_serve 31 L (.int a1 :: .int a0 :: .ref 9 :: r) M = bif zz_cat8 r then zz_backN (zz_ev tX5_serve) 34 L r (fX10_read [.ref 9, .int a0, .int a1] M) else none) ∧
  (∀ L st M, zz_ev tX5_serve 34 L st M = zo_icmp (fun x y => decide (¬ x = y)) 50 37 (zz_ev tX5_serve) L st M) ∧
  (∀ L st M, zz_ev tX5_serve 37 L st M = zo_iload 3 38 (zz_ev tX5_serve) L st M) ∧
  (∀ L st M, zz_ev tX5_serve 38 L st M = zo_aload 0 39 (zz_ev tX5_serve) L st M) ∧
  (∀ L st M, zz_ev tX5_serve 39 L st M = zo_iload 1 40 (zz_ev tX5_serve) L st M) ∧
  (∀ L st M, zz_ev tX5_serve 40 L st M = zo_pushI 31 42 (zz_ev tX5_serve) L st M) ∧
  (∀ (L : zzLc) (a0 a1 : Int32) (r : List Value) (M : zzMd), zz_ev tX5_serve 42 L (.int a1 :: .int a0 :: .ref 9 :: r) M = bif zz_cat8 r then zz_backN (zz_ev tX5_serve) 45 L r (fX10_read [.ref 9, .int a0, .int a1] M) else none) ∧
  (∀ L st M, zz_ev tX5_serve 45 L st M = zo_icmp (fun x y => decide (¬ x = y)) 50 48 (zz_ev tX5_serve) L st M) ∧
  (∀ L st M, zz_ev tX5_serve 48 L st M = zo_pushI 1 49 (zz_ev tX5_serve) L st M) ∧
  (∀ L st M, zz_ev tX5_serve 49 L st M = zo_iret false (zz_ev tX5_serve) L st M) ∧
  (∀ L st M, zz_ev tX5_serve 50 L st M = zo_aload 0 51 (zz_ev tX5_serve) L st M) ∧
  (∀ L st M, zz_ev tX5_serve 51 L st M = zo_iload 1 52 (zz_ev tX5_serve) L st M) ∧
  (∀ (L : zzLc) (a0 : Int32) (r : List Value) (M : zzMd), zz_ev tX5_serve 52 L (.int a0 :: .ref 9 :: r) M = bif zz_cat8 r then zz_backN (zz_ev tX5_serve) 55 L r (fX2_isUpToDate [.ref 9, .int a0] M) else none) ∧
  (∀ L st M, zz_ev tX5_serve 55 L st M = zo_if (fun x => decide (x = 0)) 79 58 (zz_ev tX5_serve) L st M) ∧
  (∀ L st M, zz_ev tX5_serve 58 L st M = zo_aload 0 59 (zz_ev tX5_serve) L st M) ∧
  (∀ (L : zzLc) (r : List Value) (M : zzMd), zz_ev tX5_serve 59 L (.ref 9 :: r) M = zz_ev tX5_serve 62 L (.ref 1 :: r) M) ∧
  (∀ L st M, zz_ev tX5_serve 62 L st M = zo_iload 1 63 (zz_ev tX5_serve) L st M) ∧
  (∀ L st M, zz_ev tX5_serve 63 L st M = zo_pushI 30 65 (zz_ev tX5_serve) L st M) ∧
  (∀ L st M, zz_ev tX5_serve 65 L st M = zo_iload 2 66 (zz_ev tX5_serve) L st M) ∧
  (∀ L st M, zz_ev tX5_serve 66 L st M = zo_pushI 31 68 (zz_ev tX5_serve) L st M) ∧
  (∀ L st M, zz_ev tX5_serve 68 L st M = zo_iload 3 69 (zz_ev tX5_serve) L st M) ∧
  (∀ (L : zzLc) (a0 a1 a2 a3 a4 : Int32) (r : List Value) (M : zzMd), zz_ev tX5_serve 69 L (.int a4 :: .int a3 :: .int a2 :: .int a1 :: .int a0 :: .ref 1 :: r) M = bif zz_cat8 r then zz_backN (zz_ev tX5_serve) 72 L r (fX9_changeBoth [.ref 1, .int a0, .int a1, .int a2, .int a3, .int a4] M) else none) ∧
  (∀ L st M, zz_ev tX5_serve 72 L st M = zo_if (fun x => decide (x = 0)) 79 75 (zz_ev tX5_serve) L st M) ∧
  (∀ L st M, zz_ev tX5_serve 75 L st M = zo_pushI 1 76 (zz_ev tX5_serve) L st M) ∧
  (∀ L st M, zz_ev tX5_serve 76 L st M = zo_goto 80 (zz_ev tX5_serve) L st M) ∧
  (∀ L st M, zz_ev tX5_serve 79 L st M = zo_pushI 0 80 (zz_ev tX5_serve) L st M) ∧
  (∀ (L : zzLc) (a0 : Int32) (r : List Value) (M : zzMd), zz_ev tX5_serve 80 L (.int a0 :: r) M = bif zz_cat8 r then zz_backN (zz_ev tX5_serve) 83 L r (fX2_outcomeOf [.int a0] M) else none) ∧
  (∀ L st M, zz_ev tX5_serve 83 L st M = zo_iret false (zz_ev tX5_serve) L st M) :=
  ⟨zz_1 rfl tl_X5_serve, zz_1 rfl tl_X5_serve, zz_1 rfl tl_X5_serve, fun L a0 a1 r M => (zz_1 rfl tl_X5_serve _ _ _).trans rfl, zz_1 rfl tl_X5_serve, zz_1 rfl tl_X5_serve, zz_1 rfl tl_X5_serve, zz_1 rfl tl_X5_serve, zz_1 rfl tl_X5_serve, zz_1 rfl tl_X5_serve, fun L a0 a1 r M => (zz_1 rfl tl_X5_serve _ _ _).trans rfl, zz_1 rfl tl_X5_serve, zz_1 rfl tl_X5_serve, zz_1 rfl tl_X5_serve, zz_1 rfl tl_X5_serve, fun L a0 a1 r M => (zz_1 rfl tl_X5_serve _ _ _).trans rfl, zz_1 rfl tl_X5_serve, zz_1 rfl tl_X5_serve, zz_1 rfl tl_X5_serve, zz_1 rfl tl_X5_serve, zz_1 rfl tl_X5_serve, fun L a0 a1 r M => (zz_1 rfl tl_X5_serve _ _ _).trans rfl, zz_1 rfl tl_X5_serve, zz_1 rfl tl_X5_serve, zz_1 rfl tl_X5_serve, zz_1 rfl tl_X5_serve, zz_1 rfl tl_X5_serve, fun L a0 a1 r M => (zz_1 rfl tl_X5_serve _ _ _).trans rfl, zz_1 rfl tl_X5_serve, zz_1 rfl tl_X5_serve, zz_1 rfl tl_X5_serve, zz_1 rfl tl_X5_serve, zz_1 rfl tl_X5_serve, fun L a0 r M => (zz_1 rfl tl_X5_serve _ _ _).trans rfl, zz_1 rfl tl_X5_serve, zz_1 rfl tl_X5_serve, fun L r M => (zz_1 rfl tl_X5_serve _ _ _).trans rfl, zz_1 rfl tl_X5_serve, zz_1 rfl tl_X5_serve, zz_1 rfl tl_X5_serve, zz_1 rfl tl_X5_serve, zz_1 rfl tl_X5_serve, fun L a0 a1 a2 a3 a4 r M => (zz_1 rfl tl_X5_serve _ _ _).trans rfl, zz_1 rfl tl_X5_serve, zz_1 rfl tl_X5_serve, zz_1 rfl tl_X5_serve, zz_1 rfl tl_X5_serve, fun L a0 r M => (zz_1 rfl tl_X5_serve _ _ _).trans rfl, zz_1 rfl tl_X5_serve⟩
set_option maxRecDepth 100000 in
theorem s_X5_serve (a0 : Int32) (v : Nat) (M : zzMd) : fX5_serve [.ref v, .int a0] M = zz_ev tX5_serve 0 [some (.ref v), some (.int a0), none, none] [] M := rfl
set_option maxRecDepth 100000 in
theorem e_X6_clearPlace : (∀ L st M, zz_ev tX6_clearPlace 0 L st M = zo_aload 0 1 (zz_ev tX6_clearPlace) L st M) ∧
  (∀ L st M, zz_ev tX6_clearPlace 1 L st M = zo_iload 1 2 (zz_ev tX6_clearPlace) L st M) ∧
  (∀ L st M, zz_ev tX6_clearPlace 2 L st M = zo_pushI 26 4 (zz_ev tX6_clearPlace) L st M) ∧
  (∀ (L : zzLc) (a0 a1 : Int32) (r : List Value) (M : zzMd), zz_ev tX6_clearPlace 4 L (.int a1 :: .int a0 :: .ref 7 :: r) M = bif zz_cat8 r then zz_backN (zz_ev tX6_clearPlace) 7 L r (fX10_read [.ref 7, .int a0, .int a1] M) else none) ∧
  (∀ L st M, zz_ev tX6_clearPlace 7 L st M = zo_pushI 1 8 (zz_ev tX6_clearPlace) L st M) ∧
  (∀ L st M, zz_ev tX6_clearPlace 8 L st M = zo_icmp (fun x y => decide (¬ x = y)) 21 11 (zz_ev tX6_clearPlace) L st M) ∧
  (∀ L st M, zz_ev tX6_clearPlace 11 L st M = zo_aload 0 12 (zz_ev tX6_clearPlace) L st M) ∧
  (∀ L st M, zz_ev tX6_clearPlace 12 L st M = zo_iload 1 13 (zz_ev tX6_clearPlace) L st M) ∧
  (∀ L st M, zz_ev tX6_clearPlace 13 L st M = zo_pushI 25 15 (zz_ev tX6_clearPlace) L st M) ∧
  (∀ (L : zzLc) (a0 a1 : Int32) (r : List Value) (M : zzMd), zz_ev tX6_clearPlace 15 L (.int a1 :: .int a0 :: .ref 7 :: r) M = bif zz_cat8 r then zz_backN (zz_ev tX6_clearPlace) 18 L r (fX10_read [.ref 7, .int a0, .int a1] M) else none) ∧
  (∀ L st M, zz_ev tX6_clearPlace 18 L st M = zo_goto 22 (zz_ev tX6_clearPlace) L st M) ∧
  (∀ L st M, zz_ev tX6_clearPlace 21 L st M = zo_pushI 4 22 (zz_ev tX6_clearPlace) L st M) ∧
  (∀ L st M, zz_ev tX6_clearPlace 22 L st M = zo_istore 2 23 (zz_ev tX6_clearPlace) L st M) ∧
  (∀ L st M, zz_ev tX6_clearPlace 23 L st M = zo_aload 0 24 (zz_ev tX6_clearPlace) L st M) ∧
  (∀ L st M, zz_ev tX6_clearPlace 24 L st M = zo_iload 1 25 (zz_ev tX6_clearPlace) L st M) ∧
  (∀ (L : zzLc) (a0 : Int32) (r : List Value) (M : zzMd), zz_ev tX6_clearPlace 25 L (.int a0 :: .ref 7 :: r) M = bif zz_cat8 r then zz_backN (zz_ev tX6_clearPlace) 28 L r (fX2_isUpToDate [.ref 7, .int a0] M) else none) ∧
  (∀ L st M, zz_ev tX6_clearPlace 28 L st M = zo_if (fun x => decide (x = 0)) 52 31 (zz_ev tX6_clearPlace) L st M) ∧
  (∀ L st M, zz_ev tX6_clearPlace 31 L st M = zo_aload 0 32 (zz_ev tX6_clearPlace) L st M) ∧
  (∀ (L : zzLc) (r : List Value) (M : zzMd), zz_ev tX6_clearPlace 32 L (.ref 7 :: r) M = zz_ev tX6_clearPlace 35 L (.ref 1 :: r) M) ∧
  (∀ L st M, zz_ev tX6_clearPlace 35 L st M = zo_iload 1 36 (zz_ev tX6_clearPlace) L st M) ∧
  (∀ L st M, zz_ev tX6_clearPlace 36 L st M = zo_pushI 28 38 (zz_ev tX6_clearPlace) L st M) ∧
  (∀ L st M, zz_ev tX6_clearPlace 38 L st M = zo_pushI (-1) 39 (zz_ev tX6_clearPlace) L st M) ∧
  (∀ L st M, zz_ev tX6_clearPlace 39 L st M = zo_pushI 25 41 (zz_ev tX6_clearPlace) L st M) ∧
  (∀ L st M, zz_ev tX6_clearPlace 41 L st M = zo_iload 2 42 (zz_ev tX6_clearPlace) L st M) ∧
  (∀ (L : zzLc) (a0 a1 a2 a3 a4 : Int32) (r : List Value) (M : zzMd), zz_ev tX6_clearPlace 42 L (.int a4 :: .int a3 :: .int a2 :: .int a1 :: .int a0 :: .ref 1 :: r) M = bif zz_cat8 r then zz_backN (zz_ev tX6_clearPlace) 45 L r (fX9_changeBoth [.ref 1, .int a0, .int a1, .int a2, .int a3, .int a4] M) else none) ∧
  (∀ L st M, zz_ev tX6_clearPlace 45 L st M = zo_if (fun x => decide (x = 0)) 52 48 (zz_ev tX6_clearPlace) L st M) ∧
  (∀ L st M, zz_ev tX6_clearPlace 48 L st M = zo_pushI 1 49 (zz_ev tX6_clearPlace) L st M) ∧
  (∀ L st M, zz_ev tX6_clearPlace 49 L st M = zo_goto 53 (zz_ev tX6_clearPlace) L st M) ∧
  (∀ L st M, zz_ev tX6_clearPlace 52 L st M = zo_pushI 0 53 (zz_ev tX6_clearPlace) L st M) ∧
  (∀ L st M, zz_ev tX6_clearPlace 53 L st M = zo_iret true (zz_ev tX6_clearPlace) L st M) :=
  ⟨zz_1 rfl tl_X6_clearPlace, zz_1 rfl tl_X6_clearPlace, zz_1 rfl tl_X6_clearPlace, fun L a0 a1 r M => (zz_1 rfl tl_X6_clearPlace _ _ _).trans rfl, zz_1 rfl tl_X6_clearPlace, zz_1 rfl tl_X6_clearPlace, zz_1 rfl tl_X6_clearPlace, zz_1 rfl tl_X6_clearPlace, zz_1 rfl tl_X6_clearPlace, fun L a0 a1 r M => (zz_1 rfl tl_X6_clearPlace _ _ _).trans rfl, zz_1 rfl tl_X6_clearPlace, zz_1 rfl tl_X6_clearPlace, zz_1 rfl tl_X6_clearPlace, zz_1 rfl tl_X6_clearPlace, zz_1 rfl tl_X6_clearPlace, fun L a0 r M => (zz_1 rfl tl_X6_clearPlace _ _ _).trans rfl, zz_1 rfl tl_X6_clearPlace, zz_1 rfl tl_X6_clearPlace, fun L r M => (zz_1 rfl tl_X6_clearPlace _ _ _).trans rfl, zz_1 rfl tl_X6_clearPlace, zz_1 rfl tl_X6_clearPlace, zz_1 rfl tl_X6_clearPlace, zz_1 rfl tl_X6_clearPlace, zz_1 rfl tl_X6_clearPlace, fun L a0 a1 a2 a3 a4 r M => (zz_1 rfl tl_X6_clearPlace _ _ _).trans rfl, zz_1 rfl tl_X6_clearPlace, zz_1 rfl tl_X6_clearPlace, zz_1 rfl tl_X6_clearPlace, zz_1 rfl tl_X6_clearPlace, zz_1 rfl tl_X6_clearPlace⟩
set_option maxRecDepth 100000 in
theorem s_X6_clearPlace (a0 : Int32) (v : Nat) (M : zzMd) : fX6_clearPlace [.ref v, .int a0] M = zz_ev tX6_clearPlace 0 [some (.ref v), some (.int a0), none] [] M := rfl
set_option maxRecDepth 100000 in
theorem e_X6_runningNeeds : (∀ L st M, zz_ev tX6_runningNeeds 0 L st M = zo_pushI 0 1 (zz_ev tX6_runningNeeds) L st M) ∧
  (∀ L st M, zz_ev tX6_runningNeeds 1 L st M = zo_istore 2 2 (zz_ev tX6_runningNeeds) L st M) ∧
  (∀ L st M, zz_ev tX6_runningNeeds 2 L st M = zo_pushI 0 3 (zz_ev tX6_runningNeeds) L st M) ∧
  (∀ L st M, zz_ev tX6_runningNeeds 3 L st M = zo_istore 3 4 (zz_ev tX6_runningNeeds) L st M) ∧
  (∀ L st M, zz_ev tX6_runningNeeds 5 L st M = zo_aload 0 6 (zz_ev tX6_runningNeeds) L st M) ∧
  (∀ (L : zzLc) (r : List Value) (M : zzMd), zz_ev tX6_runningNeeds 6 L (.ref 7 :: r) M = zz_ev tX6_runningNeeds 9 L (.int (M.1 7 2) :: r) M) ∧
  (∀ L st M, zz_ev tX6_runningNeeds 9 L st M = zo_icmp (fun x y => decide (y ≤ x)) 72 12 (zz_ev tX6_runningNeeds) L st M) ∧
  (∀ L st M, zz_ev tX6_runningNeeds 12 L st M = zo_aload 0 13 (zz_ev tX6_runningNeeds) L st M) ∧
  (∀ L st M, zz_ev tX6_runningNeeds 13 L st M = zo_iload 3 14 (zz_ev tX6_runningNeeds) L st M) ∧
  (∀ L st M, zz_ev tX6_runningNeeds 14 L st M = zo_pushI 28 16 (zz_ev tX6_runningNeeds) L st M) ∧
  (∀ (L : zzLc) (a0 a1 : Int32) (r : List Value) (M : zzMd), zz_ev tX6_runningNeeds 16 L (.int a1 :: .int a0 :: .ref 7 :: r) M = bif zz_cat8 r then zz_backN (zz_ev tX6_runningNeeds) 19 L r (fX10_read [.ref 7, .int a0, .int a1] M) else none) ∧
  (∀ L st M, zz_ev tX6_runningNeeds 19 L st M = zo_iload 1 20 (zz_ev tX6_runningNeeds) L st M) ∧
  (∀ L st M, zz_ev tX6_runningNeeds 20 L st M = zo_icmp (fun x y => decide (¬ x = y)) 46 23 (zz_ev tX6_runningNeeds) L st M) ∧
  (∀ L st M, zz_ev tX6_runningNeeds 23 L st M = zo_aload 0 24 (zz_ev tX6_runningNeeds) L st M) ∧
  (∀ L st M, zz_ev tX6_runningNeeds 24 L st M = zo_iload 3 25 (zz_ev tX6_runningNeeds) L st M) ∧
  (∀ L st M, zz_ev tX6_runningNeeds 25 L st M = zo_pushI 29 27 (zz_ev tX6_runningNeeds) L st M) ∧
  (∀ (L : zzLc) (a0 a1 : Int32) (r : List Value) (M : zzMd), zz_ev tX6_runningNeeds 27 L (.int a1 :: .int a0 :: .ref 7 :: r) M = bif zz_cat8 r then zz_backN (zz_ev tX6_runningNeeds) 30 L r (fX10_read [.ref 7, .int a0, .int a1] M) else none) ∧
  (∀ L st M, zz_ev tX6_runningNeeds 30 L st M = zo_pushI 1 31 (zz_ev tX6_runningNeeds) L st M) ∧
  (∀ L st M, zz_ev tX6_runningNeeds 31 L st M = zo_icmp (fun x y => decide (¬ x = y)) 46 34 (zz_ev tX6_runningNeeds) L st M) ∧
  (∀ L st M, zz_ev tX6_runningNeeds 34 L st M = zo_aload 0 35 (zz_ev tX6_runningNeeds) L st M) ∧
  (∀ L st M, zz_ev tX6_runningNeeds 35 L st M = zo_iload 3 36 (zz_ev tX6_runningNeeds) L st M) ∧
  (∀ (L : zzLc) (a0 : Int32) (r : List Value) (M : zzMd), zz_ev tX6_runningNeeds 36 L (.int a0 :: .ref 7 :: r) M = bif zz_cat8 r then zz_backN (zz_ev tX6_runningNeeds) 39 L r (fX10_isGone [.ref 7, .int a0] M) else none) ∧
  (∀ L st M, zz_ev tX6_runningNeeds 39 L st M = zo_if (fun x => decide (¬ x = 0)) 46 42 (zz_ev tX6_runningNeeds) L st M) ∧
  (∀ L st M, zz_ev tX6_runningNeeds 42 L st M = zo_pushI 1 43 (zz_ev tX6_runningNeeds) L st M) ∧
  (∀ L st M, zz_ev tX6_runningNeeds 43 L st M = zo_goto 47 (zz_ev tX6_runningNeeds) L st M) ∧
  (∀ L st M, zz_ev tX6_runningNeeds 46 L st M = zo_pushI 0 47 (zz_ev tX6_runningNeeds) L st M) ∧
  (∀ L st M, zz_ev tX6_runningNeeds 47 L st M = zo_istore 4 49 (zz_ev tX6_runningNeeds) L st M) ∧
  (∀ L st M, zz_ev tX6_runningNeeds 49 L st M = zo_iload 2 50 (zz_ev tX6_runningNeeds) L st M) ∧
  (∀ L st M, zz_ev tX6_runningNeeds 50 L st M = zo_iload 4 52 (zz_ev tX6_runningNeeds) L st M) ∧
  (∀ L st M, zz_ev tX6_runningNeeds 52 L st M = zo_if (fun x => decide (x = 0)) 63 55 (zz_ev tX6_runningNeeds) L st M) ∧
  (∀ L st M, zz_ev tX6_runningNeeds 55 L st M = zo_aload 0 56 (zz_ev tX6_runningNeeds) L st M) ∧
  (∀ L st M, zz_ev tX6_runningNeeds 56 L st M = zo_iload 3 57 (zz_ev tX6_runningNeeds) L st M) ∧
  (∀ (L : zzLc) (a0 : Int32) (r : List Value) (M : zzMd), zz_ev tX6_runningNeeds 57 L (.int a0 :: .ref 7 :: r) M = bif zz_cat8 r then zz_backN (zz_ev tX6_runningNeeds) 60 L r (fX10_needOf [.ref 7, .int a0] M) else none) ∧
  (∀ L st M, zz_ev tX6_runningNeeds 60 L st M = zo_goto 64 (zz_ev tX6_runningNeeds) L st M) ∧
  (∀ L st M, zz_ev tX6_runningNeeds 63 L st M = zo_pushI 0 64 (zz_ev tX6_runningNeeds) L st M) ∧
  (∀ L st M, zz_ev tX6_runningNeeds 64 L st M = zo_ii (fun x y => x + y) 65 (zz_ev tX6_runningNeeds) L st M) ∧
  (∀ L st M, zz_ev tX6_runningNeeds 65 L st M = zo_istore 2 66 (zz_ev tX6_runningNeeds) L st M) ∧
  (∀ L st M, zz_ev tX6_runningNeeds 66 L st M = zo_iinc 3 1 69 (zz_ev tX6_runningNeeds) L st M) ∧
  (∀ L st M, zz_ev tX6_runningNeeds 69 L st M = zo_goto 4 (zz_ev tX6_runningNeeds) L st M) ∧
  (∀ L st M, zz_ev tX6_runningNeeds 72 L st M = zo_iload 2 73 (zz_ev tX6_runningNeeds) L st M) ∧
  (∀ L st M, zz_ev tX6_runningNeeds 73 L st M = zo_iret false (zz_ev tX6_runningNeeds) L st M) :=
  ⟨zz_1 rfl tl_X6_runningNeeds, zz_1 rfl tl_X6_runningNeeds, zz_1 rfl tl_X6_runningNeeds, zz_1 rfl tl_X6_runningNeeds, zz_1 rfl tl_X6_runningNeeds, fun L r M => (zz_1 rfl tl_X6_runningNeeds _ _ _).trans rfl, zz_1 rfl tl_X6_runningNeeds, zz_1 rfl tl_X6_runningNeeds, zz_1 rfl tl_X6_runningNeeds, zz_1 rfl tl_X6_runningNeeds, fun L a0 a1 r M => (zz_1 rfl tl_X6_runningNeeds _ _ _).trans rfl, zz_1 rfl tl_X6_runningNeeds, zz_1 rfl tl_X6_runningNeeds, zz_1 rfl tl_X6_runningNeeds, zz_1 rfl tl_X6_runningNeeds, zz_1 rfl tl_X6_runningNeeds, fun L a0 a1 r M => (zz_1 rfl tl_X6_runningNeeds _ _ _).trans rfl, zz_1 rfl tl_X6_runningNeeds, zz_1 rfl tl_X6_runningNeeds, zz_1 rfl tl_X6_runningNeeds, zz_1 rfl tl_X6_runningNeeds, fun L a0 r M => (zz_1 rfl tl_X6_runningNeeds _ _ _).trans rfl, zz_1 rfl tl_X6_runningNeeds, zz_1 rfl tl_X6_runningNeeds, zz_1 rfl tl_X6_runningNeeds, zz_1 rfl tl_X6_runningNeeds, zz_1 rfl tl_X6_runningNeeds, zz_1 rfl tl_X6_runningNeeds, zz_1 rfl tl_X6_runningNeeds, zz_1 rfl tl_X6_runningNeeds, zz_1 rfl tl_X6_runningNeeds, zz_1 rfl tl_X6_runningNeeds, fun L a0 r M => (zz_1 rfl tl_X6_runningNeeds _ _ _).trans rfl, zz_1 rfl tl_X6_runningNeeds, zz_1 rfl tl_X6_runningNeeds, zz_1 rfl tl_X6_runningNeeds, zz_1 rfl tl_X6_runningNeeds, zz_1 rfl tl_X6_runningNeeds, zz_1 rfl tl_X6_runningNeeds, zz_1 rfl tl_X6_runningNeeds, zz_1 rfl tl_X6_runningNeeds⟩
set_option maxRecDepth 100000 in
theorem e_X6_runningNeeds_4 : (∀ L st M, zz_ev tX6_runningNeeds 4 L st M = zo_iload 3 5 (zz_ev tX6_runningNeeds) L st M) := zz_1 rfl tl_X6_runningNeeds
set_option maxRecDepth 100000 in
theorem s_X6_runningNeeds (a0 : Int32) (v : Nat) (M : zzMd) : fX6_runningNeeds [.ref v, .int a0] M = zz_ev tX6_runningNeeds 0 [some (.ref v), some (.int a0), none, none, none] [] M := rfl
set_option maxRecDepth 100000 in
theorem e_X6_serve : (∀ L st M, zz_ev tX6_serve 0 L st M = zo_aload 0 1 (zz_ev tX6_serve) L st M) ∧
  (∀ L st M, zz_ev tX6_serve 1 L st M = zo_iload 1 2 (zz_ev tX6_serve) L st M) ∧
  (∀ L st M, zz_ev tX6_serve 2 L st M = zo_pushI 28 4 (zz_ev tX6_serve) L st M) ∧
  (∀ (L : zzLc) (a0 a1 : Int32) (r : List Value) (M : zzMd), zz_ev tX6_serve 4 L (.int a1 :: .int a0 :: .ref 7 :: r) M = bif zz_cat8 r then zz_backN (zz_ev tX6_serve) 7 L r (fX10_read [.ref 7, .int a0, .int a1] M) else none) ∧
  (∀ L st M, zz_ev tX6_serve 7 L st M = zo_istore 2 8 (zz_ev tX6_serve) L st M) ∧
  (∀ L st M, zz_ev tX6_serve 8 L st M = zo_aload 0 9 (zz_ev tX6_serve) L st M) ∧
  (∀ L st M, zz_ev tX6_serve 9 L st M = zo_iload 1 10 (zz_ev tX6_serve) L st M) ∧
  (∀ L st M, zz_ev tX6_serve 10 L st M = zo_pushI 29 12 (zz_ev tX6_serve) L st M) ∧
  (∀ (L : zzLc) (a0 a1 : Int32) (r : List Value) (M : zzMd), zz_ev tX6_serve 12 L (.int a1 :: .int a0 :: .ref 7 :: r) M = bif zz_cat8 r then zz_backN (zz_ev tX6_serve) 15 L r (fX10_read [.ref 7, .int a0, .int a1] M) else none) ∧
  (∀ L st M, zz_ev tX6_serve 15 L st M = zo_istore 3 16 (zz_ev tX6_serve) L st M) ∧
  (∀ L st M, zz_ev tX6_serve 16 L st M = zo_aload 0 17 (zz_ev tX6_serve) L st M) ∧
  (∀ L st M, zz_ev tX6_serve 17 L st M = zo_iload 1 18 (zz_ev tX6_serve) L st M) ∧
  (∀ L st M, zz_ev tX6_serve 18 L st M = zo_pushI 23 20 (zz_ev tX6_serve) L st M) ∧
  (∀ (L : zzLc) (a0 a1 : Int32) (r : List Value) (M : zzMd), zz_ev tX6_serve 20 L (.int a1 :: .int a0 :: .ref 7 :: r) M = bif zz_cat8 r then zz_backN (zz_ev tX6_serve) 23 L r (fX10_read [.ref 7, .int a0, .int a1] M) else none) ∧
  (∀ L st M, zz_ev tX6_serve 23 L st M = zo_pushI 2 24 (zz_ev tX6_serve) L st M) ∧
  (∀ L st M, zz_ev tX6_serve 24 L st M = zo_icmp (fun x y => decide (¬ x = y)) 40 27 (zz_ev tX6_serve) L st M) ∧
  (∀ L st M, zz_ev tX6_serve 27 L st M = zo_aload 0 28 (zz_ev tX6_serve) L st M) ∧
  (∀ L st M, zz_ev tX6_serve 28 L st M = zo_iload 1 29 (zz_ev tX6_serve) L st M) ∧
  (∀ (L : zzLc) (a0 : Int32) (r : List Value) (M : zzMd), zz_ev tX6_serve 29 L (.int a0 :: .ref 7 :: r) M = bif zz_cat8 r then zz_backN (zz_ev tX6_serve) 32 L r (fX10_isGone [.ref 7, .int a0] M) else none) ∧
  (∀ L st M, zz_ev tX6_serve 32 L st M = zo_if (fun x => decide (¬ x = 0)) 40 35 (zz_ev tX6_serve) L st M) ∧
  (∀ L st M, zz_ev tX6_serve 35 L st M = zo_iload 2 36 (zz_ev tX6_serve) L st M) ∧
  (∀ L st M, zz_ev tX6_serve 36 L st M = zo_pushI (-1) 37 (zz_ev tX6_serve) L st M) ∧
  (∀ L st M, zz_ev tX6_serve 37 L st M = zo_icmp (fun x y => decide (¬ x = y)) 42 40 (zz_ev tX6_serve) L st M) ∧
  (∀ L st M, zz_ev tX6_serve 40 L st M = zo_pushI 1 41 (zz_ev tX6_serve) L st M) ∧
  (∀ L st M, zz_ev tX6_serve 41 L st M = zo_iret false (zz_ev tX6_serve) L st M) ∧
  (∀ L st M, zz_ev tX6_serve 42 L st M = zo_aload 0 43 (zz_ev tX6_serve) L st M) ∧
  (∀ L st M, zz_ev tX6_serve 43 L st M = zo_iload 1 44 (zz_ev tX6_serve) L st M) ∧
  (∀ L st M, zz_ev tX6_serve 44 L st M = zo_pushI 25 46 (zz_ev tX6_serve) L st M) ∧
  (∀ (L : zzLc) (a0 a1 : Int32) (r : List Value) (M : zzMd), zz_ev tX6_serve 46 L (.int a1 :: .int a0 :: .ref 7 :: r) M = bif zz_cat8 r then zz_backN (zz_ev tX6_serve) 49 L r (fX10_read [.ref 7, .int a0, .int a1] M) else none) ∧
  (∀ L st M, zz_ev tX6_serve 49 L st M = zo_if (fun x => decide (x = 0)) 61 52 (zz_ev tX6_serve) L st M) ∧
  (∀ L st M, zz_ev tX6_serve 52 L st M = zo_aload 0 53 (zz_ev tX6_serve) L st M) ∧
  (∀ L st M, zz_ev tX6_serve 53 L st M = zo_iload 1 54 (zz_ev tX6_serve) L st M) ∧
  (∀ (L : zzLc) (a0 : Int32) (r : List Value) (M : zzMd), zz_ev tX6_serve 54 L (.int a0 :: .ref 7 :: r) M = bif zz_cat8 r then zz_backN (zz_ev tX6_serve) 57 L r (fX6_clearPlace [.ref 7, .int a0] M) else none) ∧
  (∀ (L : zzLc) (a0 : Int32) (r : List Value) (M : zzMd), zz_ev tX6_serve 57 L (.int a0 :: r) M = bif zz_cat8 r then zz_backN (zz_ev tX6_serve) 60 L r (fX2_outcomeOf [.int a0] M) else none) ∧
  (∀ L st M, zz_ev tX6_serve 60 L st M = zo_iret false (zz_ev tX6_serve) L st M) ∧
  (∀ L st M, zz_ev tX6_serve 61 L st M = zo_aload 0 62 (zz_ev tX6_serve) L st M) ∧
  (∀ L st M, zz_ev tX6_serve 62 L st M = zo_iload 2 63 (zz_ev tX6_serve) L st M) ∧
  (∀ (L : zzLc) (a0 : Int32) (r : List Value) (M : zzMd), zz_ev tX6_serve 63 L (.int a0 :: .ref 7 :: r) M = bif zz_cat8 r then zz_backN (zz_ev tX6_serve) 66 L r (fX10_isGone [.ref 7, .int a0] M) else none) ∧
  (∀ L st M, zz_ev tX6_serve 66 L st M = zo_if (fun x => decide (¬ x = 0)) 90 69 (zz_ev tX6_serve) L st M) ∧
  (∀ L st M, zz_ev tX6_serve 69 L st M = zo_aload 0 70 (zz_ev tX6_serve) L st M) ∧
  (∀ L st M, zz_ev tX6_serve 70 L st M = zo_iload 2 71 (zz_ev tX6_serve) L st M) ∧
  (∀ L st M, zz_ev tX6_serve 71 L st M = zo_pushI 27 73 (zz_ev tX6_serve) L st M) ∧
  (∀ (L : zzLc) (a0 a1 : Int32) (r : List Value) (M : zzMd), zz_ev tX6_serve 73 L (.int a1 :: .int a0 :: .ref 7 :: r) M = bif zz_cat8 r then zz_backN (zz_ev tX6_serve) 76 L r (fX10_read [.ref 7, .int a0, .int a1] M) else none) ∧
  (∀ L st M, zz_ev tX6_serve 76 L st M = zo_if (fun x => decide (x = 0)) 90 79 (zz_ev tX6_serve) L st M) ∧
  (∀ L st M, zz_ev tX6_serve 79 L st M = zo_aload 0 80 (zz_ev tX6_serve) L st M) ∧
  (∀ L st M, zz_ev tX6_serve 80 L st M = zo_iload 2 81 (zz_ev tX6_serve) L st M) ∧
  (∀ L st M, zz_ev tX6_serve 81 L st M = zo_pushI 9 83 (zz_ev tX6_serve) L st M) ∧
  (∀ (L : zzLc) (a0 a1 : Int32) (r : List Value) (M : zzMd), zz_ev tX6_serve 83 L (.int a1 :: .int a0 :: .ref 7 :: r) M = bif zz_cat8 r then zz_backN (zz_ev tX6_serve) 86 L r (fX10_read [.ref 7, .int a0, .int a1] M) else none) ∧
  (∀ L st M, zz_ev tX6_serve 86 L st M = zo_pushI 1 87 (zz_ev tX6_serve) L st M) ∧
  (∀ L st M, zz_ev tX6_serve 87 L st M = zo_icmp (fun x y => decide (¬ x = y)) 94 90 (zz_ev tX6_serve) L st M) ∧
  (∀ L st M, zz_ev tX6_serve 90 L st M = zo_pushI 1 91 (zz_ev tX6_serve) L st M) ∧
  (∀ L st M, zz_ev tX6_serve 91 L st M = zo_goto 95 (zz_ev tX6_serve) L st M) ∧
  (∀ L st M, zz_ev tX6_serve 94 L st M = zo_pushI 0 95 (zz_ev tX6_serve) L st M) ∧
  (∀ L st M, zz_ev tX6_serve 95 L st M = zo_istore 4 97 (zz_ev tX6_serve) L st M) ∧
  (∀ L st M, zz_ev tX6_serve 97 L st M = zo_iload 4 99 (zz_ev tX6_serve) L st M) ∧
  (∀ L st M, zz_ev tX6_serve 99 L st M = zo_if (fun x => decide (x = 0)) 123 102 (zz_ev tX6_serve) L st M) ∧
  (∀ L st M, zz_ev tX6_serve 102 L st M = zo_iload 3 103 (zz_ev tX6_serve) L st M) ∧
  (∀ L st M, zz_ev tX6_serve 103 L st M = zo_if (fun x => decide (x = 0)) 111 106 (zz_ev tX6_serve) L st M) ∧
  (∀ L st M, zz_ev tX6_serve 106 L st M = zo_iload 3 107 (zz_ev tX6_serve) L st M) ∧
  (∀ L st M, zz_ev tX6_serve 107 L st M = zo_pushI 1 108 (zz_ev tX6_serve) L st M) ∧
  (∀ L st M, zz_ev tX6_serve 108 L st M = zo_icmp (fun x y => decide (¬ x = y)) 123 111 (zz_ev tX6_serve) L st M) ∧
  (∀ L st M, zz_ev tX6_serve 111 L st M = zo_aload 0 112 (zz_ev tX6_serve) L st M) ∧
  (∀ L st M, zz_ev tX6_serve 112 L st M = zo_iload 1 113 (zz_ev tX6_serve) L st M) ∧
  (∀ L st M, zz_ev tX6_serve 113 L st M = zo_pushI 29 115 (zz_ev tX6_serve) L st M) ∧
  (∀ L st M, zz_ev tX6_serve 115 L st M = zo_pushI 3 116 (zz_ev tX6_serve) L st M) ∧
  (∀ (L : zzLc) (a0 a1 a2 : Int32) (r : List Value) (M : zzMd), zz_ev tX6_serve 116 L (.int a2 :: .int a1 :: .int a0 :: .ref 7 :: r) M = bif zz_cat8 r then zz_backN (zz_ev tX6_serve) 119 L r (fX2_set [.ref 7, .int a0, .int a1, .int a2] M) else none) ∧
  (∀ (L : zzLc) (a0 : Int32) (r : List Value) (M : zzMd), zz_ev tX6_serve 119 L (.int a0 :: r) M = bif zz_cat8 r then zz_backN (zz_ev tX6_serve) 122 L r (fX2_outcomeOf [.int a0] M) else none) ∧
  (∀ L st M, zz_ev tX6_serve 122 L st M = zo_iret false (zz_ev tX6_serve) L st M) ∧
  (∀ L st M, zz_ev tX6_serve 123 L st M = zo_iload 3 124 (zz_ev tX6_serve) L st M) ∧
  (∀ L st M, zz_ev tX6_serve 124 L st M = zo_if (fun x => decide (x = 0)) 129 127 (zz_ev tX6_serve) L st M) ∧
  (∀ L st M, zz_ev tX6_serve 127 L st M = zo_pushI 1 128 (zz_ev tX6_serve) L st M) ∧
  (∀ L st M, zz_ev tX6_serve 128 L st M = zo_iret false (zz_ev tX6_serve) L st M) ∧
  (∀ L st M, zz_ev tX6_serve 129 L st M = zo_aload 0 130 (zz_ev tX6_serve) L st M) ∧
  (∀ L st M, zz_ev tX6_serve 130 L st M = zo_iload 2 131 (zz_ev tX6_serve) L st M) ∧
  (∀ L st M, zz_ev tX6_serve 131 L st M = zo_pushI 7 133 (zz_ev tX6_serve) L st M) ∧
  (∀ (L : zzLc) (a0 a1 : Int32) (r : List Value) (M : zzMd), zz_ev tX6_serve 133 L (.int a1 :: .int a0 :: .ref 7 :: r) M = bif zz_cat8 r then zz_backN (zz_ev tX6_serve) 136 L r (fX10_read [.ref 7, .int a0, .int a1] M) else none) ∧
  (∀ L st M, zz_ev tX6_serve 136 L st M = zo_aload 0 137 (zz_ev tX6_serve) L st M) ∧
  (∀ L st M, zz_ev tX6_serve 137 L st M = zo_iload 1 138 (zz_ev tX6_serve) L st M) ∧
  (∀ (L : zzLc) (a0 : Int32) (r : List Value) (M : zzMd), zz_ev tX6_serve 138 L (.int a0 :: .ref 7 :: r) M = bif zz_cat8 r then zz_backN (zz_ev tX6_serve) 141 L r (fX10_needOf [.ref 7, .int a0] M) else none) ∧
  (∀ L st M, zz_ev tX6_serve 141 L st M = zo_aload 0 142 (zz_ev tX6_serve) L st M) ∧
  (∀ L st M, zz_ev tX6_serve 142 L st M = zo_iload 2 143 (zz_ev tX6_serve) L st M) ∧
  (∀ (L : zzLc) (a0 : Int32) (r : List Value) (M : zzMd), zz_ev tX6_serve 143 L (.int a0 :: .ref 7 :: r) M = bif zz_cat8 r then zz_backN (zz_ev tX6_serve) 146 L r (fX6_runningNeeds [.ref 7, .int a0] M) else none) ∧
  (∀ L st M, zz_ev tX6_serve 146 L st M = zo_ii (fun x y => x + y) 147 (zz_ev tX6_serve) L st M) ∧
  (∀ L st M, zz_ev tX6_serve 147 L st M = zo_icmp (fun x y => decide (x < y)) 154 150 (zz_ev tX6_serve) L st M) ∧
  (∀ L st M, zz_ev tX6_serve 150 L st M = zo_pushI 1 151 (zz_ev tX6_serve) L st M) ∧
  (∀ L st M, zz_ev tX6_serve 151 L st M = zo_goto 155 (zz_ev tX6_serve) L st M) ∧
  (∀ L st M, zz_ev tX6_serve 154 L st M = zo_pushI 0 155 (zz_ev tX6_serve) L st M) ∧
  (∀ L st M, zz_ev tX6_serve 155 L st M = zo_istore 5 157 (zz_ev tX6_serve) L st M) ∧
  (∀ L st M, zz_ev tX6_serve 157 L st M = zo_aload 0 158 (zz_ev tX6_serve) L st M) ∧
  (∀ L st M, zz_ev tX6_serve 158 L st M = zo_iload 1 159 (zz_ev tX6_serve) L st M) ∧
  (∀ L st M, zz_ev tX6_serve 159 L st M = zo_pushI 29 161 (zz_ev tX6_serve) L st M) ∧
  (∀ L st M, zz_ev tX6_serve 161 L st M = zo_iload 5 163 (zz_ev tX6_serve) L st M) ∧
  (∀ L st M, zz_ev tX6_serve 163 L st M = zo_if (fun x => decide (x = 0)) 170 166 (zz_ev tX6_serve) L st M) ∧
  (∀ L st M, zz_ev tX6_serve 166 L st M = zo_pushI 1 167 (zz_ev tX6_serve) L st M) ∧
  (∀ L st M, zz_ev tX6_serve 167 L st M = zo_goto 171 (zz_ev tX6_serve) L st M) ∧
  (∀ L st M, zz_ev tX6_serve 170 L st M = zo_pushI 3 171 (zz_ev tX6_serve) L st M) ∧
  (∀ (L : zzLc) (a0 a1 a2 : Int32) (r : List Value) (M : zzMd), zz_ev tX6_serve 171 L (.int a2 :: .int a1 :: .int a0 :: .ref 7 :: r) M = bif zz_cat8 r then zz_backN (zz_ev tX6_serve) 174 L r (fX2_set [.ref 7, .int a0, .int a1, .int a2] M) else none) ∧
  (∀ (L : zzLc) (a0 : Int32) (r : List Value) (M : zzMd), zz_ev tX6_serve 174 L (.int a0 :: r) M = bif zz_cat8 r then zz_backN (zz_ev tX6_serve) 177 L r (fX2_outcomeOf [.int a0] M) else none) ∧
  (∀ L st M, zz_ev tX6_serve 177 L st M = zo_iret false (zz_ev tX6_serve) L st M) :=
  ⟨zz_1 rfl tl_X6_serve, zz_1 rfl tl_X6_serve, zz_1 rfl tl_X6_serve, fun L a0 a1 r M => (zz_1 rfl tl_X6_serve _ _ _).trans rfl, zz_1 rfl tl_X6_serve, zz_1 rfl tl_X6_serve, zz_1 rfl tl_X6_serve, zz_1 rfl tl_X6_serve, fun L a0 a1 r M => (zz_1 rfl tl_X6_serve _ _ _).trans rfl, zz_1 rfl tl_X6_serve, zz_1 rfl tl_X6_serve, zz_1 rfl tl_X6_serve, zz_1 rfl tl_X6_serve, fun L a0 a1 r M => (zz_1 rfl tl_X6_serve _ _ _).trans rfl, zz_1 rfl tl_X6_serve, zz_1 rfl tl_X6_serve, zz_1 rfl tl_X6_serve, zz_1 rfl tl_X6_serve, fun L a0 r M => (zz_1 rfl tl_X6_serve _ _ _).trans rfl, zz_1 rfl tl_X6_serve, zz_1 rfl tl_X6_serve, zz_1 rfl tl_X6_serve, zz_1 rfl tl_X6_serve, zz_1 rfl tl_X6_serve, zz_1 rfl tl_X6_serve, zz_1 rfl tl_X6_serve, zz_1 rfl tl_X6_serve, zz_1 rfl tl_X6_serve, fun L a0 a1 r M => (zz_1 rfl tl_X6_serve _ _ _).trans rfl, zz_1 rfl tl_X6_serve, zz_1 rfl tl_X6_serve, zz_1 rfl tl_X6_serve, fun L a0 r M => (zz_1 rfl tl_X6_serve _ _ _).trans rfl, fun L a0 r M => (zz_1 rfl tl_X6_serve _ _ _).trans rfl, zz_1 rfl tl_X6_serve, zz_1 rfl tl_X6_serve, zz_1 rfl tl_X6_serve, fun L a0 r M => (zz_1 rfl tl_X6_serve _ _ _).trans rfl, zz_1 rfl tl_X6_serve, zz_1 rfl tl_X6_serve, zz_1 rfl tl_X6_serve, zz_1 rfl tl_X6_serve, fun L a0 a1 r M => (zz_1 rfl tl_X6_serve _ _ _).trans rfl, zz_1 rfl tl_X6_serve, zz_1 rfl tl_X6_serve, zz_1 rfl tl_X6_serve, zz_1 rfl tl_X6_serve, fun L a0 a1 r M => (zz_1 rfl tl_X6_serve _ _ _).trans rfl, zz_1 rfl tl_X6_serve, zz_1 rfl tl_X6_serve, zz_1 rfl tl_X6_serve, zz_1 rfl tl_X6_serve, zz_1 rfl tl_X6_serve, zz_1 rfl tl_X6_serve, zz_1 rfl tl_X6_serve, zz_1 rfl tl_X6_serve, zz_1 rfl tl_X6_serve, zz_1 rfl tl_X6_serve, zz_1 rfl tl_X6_serve, zz_1 rfl tl_X6_serve, zz_1 rfl tl_X6_serve, zz_1 rfl tl_X6_serve, zz_1 rfl tl_X6_serve, zz_1 rfl tl_X6_serve, zz_1 rfl tl_X6_serve, fun L a0 a1 a2 r M => (zz_1 rfl tl_X6_serve _ _ _).trans rfl, fun L a0 r M => (zz_1 rfl tl_X6_serve _ _ _).trans rfl, zz_1 rfl tl_X6_serve, zz_1 rfl tl_X6_serve, zz_1 rfl tl_X6_serve, zz_1 rfl tl_X6_serve, zz_1 rfl tl_X6_serve, zz_1 rfl tl_X6_serve, zz_1 rfl tl_X6_serve, zz_1 rfl tl_X6_serve, fun L a0 a1 r M => (zz_1 rfl tl_X6_serve _ _ _).trans rfl, zz_1 rfl tl_X6_serve, zz_1 rfl tl_X6_serve, fun L a0 r M => (zz_1 rfl tl_X6_serve _ _ _).trans rfl, zz_1 rfl tl_X6_serve, zz_1 rfl tl_X6_serve, fun L a0 r M => (zz_1 rfl tl_X6_serve _ _ _).trans rfl, zz_1 rfl tl_X6_serve, zz_1 rfl tl_X6_serve, zz_1 rfl tl_X6_serve, zz_1 rfl tl_X6_serve, zz_1 rfl tl_X6_serve, zz_1 rfl tl_X6_serve, zz_1 rfl tl_X6_serve, zz_1 rfl tl_X6_serve, zz_1 rfl tl_X6_serve, zz_1 rfl tl_X6_serve, zz_1 rfl tl_X6_serve, zz_1 rfl tl_X6_serve, zz_1 rfl tl_X6_serve, zz_1 rfl tl_X6_serve, fun L a0 a1 a2 r M => (zz_1 rfl tl_X6_serve _ _ _).trans rfl, fun L a0 r M => (zz_1 rfl tl_X6_serve _ _ _).trans rfl, zz_1 rfl tl_X6_serve⟩
set_option maxRecDepth 100000 in
theorem s_X6_serve (a0 : Int32) (v : Nat) (M : zzMd) : fX6_serve [.ref v, .int a0] M = zz_ev tX6_serve 0 [some (.ref v), some (.int a0), none, none, none, none] [] M := rfl
set_option maxRecDepth 100000 in
theorem e_X7_serve : (∀ L st M, zz_ev tX7_serve 0 L st M = zo_aload 0 1 (zz_ev tX7_serve) L st M) ∧
  (∀ L st M, zz_ev tX7_serve 1 L st M = zo_iload 1 2 (zz_ev tX7_serve) L st M) ∧
  (∀ L st M, zz_ev tX7_serve 2 L st M = zo_pushI 5 3 (zz_ev tX7_serve) L st M) ∧
  (∀ (L : zzLc) (a0 a1 : Int32) (r : List Value) (M : zzMd), zz_ev tX7_serve 3 L (.int a1 :: .int a0 :: .ref 10 :: r) M = bif zz_cat8 r then zz_backN (zz_ev tX7_serve) 6 L r (fX10_read [.ref 10, .int a0, .int a1] M) else none) ∧
  (∀ L st M, zz_ev tX7_serve 6 L st M = zo_istore 2 7 (zz_ev tX7_serve) L st M) ∧
  (∀ L st M, zz_ev tX7_serve 7 L st M = zo_iload 1 8 (zz_ev tX7_serve) L st M) ∧
  (∀ L st M, zz_ev tX7_serve 8 L st M = zo_if (fun x => decide (x < 0)) 30 11 (zz_ev tX7_serve) L st M) ∧
  (∀ L st M, zz_ev tX7_serve 11 L st M = zo_iload 1 12 (zz_ev tX7_serve) L st M) ∧
  (∀ L st M, zz_ev tX7_serve 12 L st M = zo_pushI 60 14 (zz_ev tX7_serve) L st M) ∧
  (∀ L st M, zz_ev tX7_serve 14 L st M = zo_icmp (fun x y => decide (y ≤ x)) 30 17 (zz_ev tX7_serve) L st M) ∧
  (∀ L st M, zz_ev tX7_serve 17 L st M = zo_aload 0 18 (zz_ev tX7_serve) L st M) ∧
  (∀ L st M, zz_ev tX7_serve 18 L st M = zo_iload 1 19 (zz_ev tX7_serve) L st M) ∧
  (∀ L st M, zz_ev tX7_serve 19 L st M = zo_pushI 0 20 (zz_ev tX7_serve) L st M) ∧
  (∀ (L : zzLc) (a0 a1 : Int32) (r : List Value) (M : zzMd), zz_ev tX7_serve 20 L (.int a1 :: .int a0 :: .ref 10 :: r) M = bif zz_cat8 r then zz_backN (zz_ev tX7_serve) 23 L r (fX10_isStaying [.ref 10, .int a0, .int a1] M) else none) ∧
  (∀ L st M, zz_ev tX7_serve 23 L st M = zo_if (fun x => decide (x = 0)) 30 26 (zz_ev tX7_serve) L st M) ∧
  (∀ L st M, zz_ev tX7_serve 26 L st M = zo_iload 2 27 (zz_ev tX7_serve) L st M) ∧
  (∀ L st M, zz_ev tX7_serve 27 L st M = zo_if (fun x => decide (0 < x)) 32 30 (zz_ev tX7_serve) L st M) ∧
  (∀ L st M, zz_ev tX7_serve 30 L st M = zo_pushI 1 31 (zz_ev tX7_serve) L st M) ∧
  (∀ L st M, zz_ev tX7_serve 31 L st M = zo_iret false (zz_ev tX7_serve) L st M) ∧
  (∀ L st M, zz_ev tX7_serve 32 L st M = zo_iload 2 33 (zz_ev tX7_serve) L st M) ∧
  (∀ L st M, zz_ev tX7_serve 33 L st M = zo_pushI 1 34 (zz_ev tX7_serve) L st M) ∧
  (∀ L st M, zz_ev tX7_serve 34 L st M = zo_aload 0 35 (zz_ev tX7_serve) L st M) ∧
  (∀ L st M, zz_ev tX7_serve 35 L st M = zo_iload 1 36 (zz_ev tX7_serve) L st M) ∧
  (∀ L st M, zz_ev tX7_serve 36 L st M = zo_pushI 6 38 (zz_ev tX7_serve) L st M) ∧
  (∀ (L : zzLc) (a0 a1 : Int32) (r : List Value) (M : zzMd), zz_ev tX7_serve 38 L (.int a1 :: .int a0 :: .ref 10 :: r) M = bif zz_cat8 r then zz_backN (zz_ev tX7_serve) 41 L r (fX10_read [.ref 10, .int a0, .int a1] M) else none) ∧
  (∀ L st M, zz_ev tX7_serve 41 L st M = zo_pushI 9 43 (zz_ev tX7_serve) L st M) ∧
  (∀ L st M, zz_ev tX7_serve 43 L st M = zo_ii (fun x y => x + y) 44 (zz_ev tX7_serve) L st M) ∧
  (∀ L st M, zz_ev tX7_serve 44 L st M = zo_pushI 10 46 (zz_ev tX7_serve) L st M) ∧
  (∀ L st M, zz_ev tX7_serve 46 L st M = zo_iid (fun x y => x / y) 47 (zz_ev tX7_serve) L st M) ∧
  (∀ L st M, zz_ev tX7_serve 47 L st M = zo_mm (fun x y => if x < y then y else x) 50 (zz_ev tX7_serve) L st M) ∧
  (∀ L st M, zz_ev tX7_serve 50 L st M = zo_mm (fun x y => if y < x then y else x) 53 (zz_ev tX7_serve) L st M) ∧
  (∀ L st M, zz_ev tX7_serve 53 L st M = zo_istore 3 54 (zz_ev tX7_serve) L st M) ∧
  (∀ L st M, zz_ev tX7_serve 54 L st M = zo_aload 0 55 (zz_ev tX7_serve) L st M) ∧
  (∀ (L : zzLc) (r : List Value) (M : zzMd), zz_ev tX7_serve 55 L (.ref 10 :: r) M = zz_ev tX7_serve 58 L (.ref 72 :: r) M) ∧
  (∀ L st M, zz_ev tX7_serve 58 L st M = zo_iload 1 59 (zz_ev tX7_serve) L st M) ∧
  (∀ L st M, zz_ev tX7_serve 59 L st M = zo_iald zzSC zzSTC 60 (zz_ev tX7_serve) L st M) ∧
  (∀ L st M, zz_ev tX7_serve 60 L st M = zo_pushI (-1) 61 (zz_ev tX7_serve) L st M) ∧
  (∀ L st M, zz_ev tX7_serve 61 L st M = zo_icmp (fun x y => decide (x = y)) 87 64 (zz_ev tX7_serve) L st M) ∧
  (∀ L st M, zz_ev tX7_serve 64 L st M = zo_aload 0 65 (zz_ev tX7_serve) L st M) ∧
  (∀ (L : zzLc) (r : List Value) (M : zzMd), zz_ev tX7_serve 65 L (.ref 10 :: r) M = zz_ev tX7_serve 68 L (.ref 1 :: r) M) ∧
  (∀ (L : zzLc) (r : List Value) (M : zzMd), zz_ev tX7_serve 68 L (.ref 1 :: r) M = zz_ev tX7_serve 71 L (.int (M.1 1 7) :: r) M) ∧
  (∀ L st M, zz_ev tX7_serve 71 L st M = zo_aload 0 72 (zz_ev tX7_serve) L st M) ∧
  (∀ (L : zzLc) (r : List Value) (M : zzMd), zz_ev tX7_serve 72 L (.ref 10 :: r) M = zz_ev tX7_serve 75 L (.ref 72 :: r) M) ∧
  (∀ L st M, zz_ev tX7_serve 75 L st M = zo_iload 1 76 (zz_ev tX7_serve) L st M) ∧
  (∀ L st M, zz_ev tX7_serve 76 L st M = zo_iald zzSC zzSTC 77 (zz_ev tX7_serve) L st M) ∧
  (∀ L st M, zz_ev tX7_serve 77 L st M = zo_ii (fun x y => x - y) 78 (zz_ev tX7_serve) L st M) ∧
  (∀ L st M, zz_ev tX7_serve 78 L st M = zo_pushI 10 80 (zz_ev tX7_serve) L st M) ∧
  (∀ L st M, zz_ev tX7_serve 80 L st M = zo_icmp (fun x y => decide (y ≤ x)) 87 83 (zz_ev tX7_serve) L st M) ∧
  (∀ L st M, zz_ev tX7_serve 83 L st M = zo_pushI 1 84 (zz_ev tX7_serve) L st M) ∧
  (∀ L st M, zz_ev tX7_serve 84 L st M = zo_goto 88 (zz_ev tX7_serve) L st M) ∧
  (∀ L st M, zz_ev tX7_serve 87 L st M = zo_pushI 0 88 (zz_ev tX7_serve) L st M) ∧
  (∀ L st M, zz_ev tX7_serve 88 L st M = zo_istore 4 90 (zz_ev tX7_serve) L st M) ∧
  (∀ L st M, zz_ev tX7_serve 90 L st M = zo_aload 0 91 (zz_ev tX7_serve) L st M) ∧
  (∀ L st M, zz_ev tX7_serve 91 L st M = zo_iload 1 92 (zz_ev tX7_serve) L st M) ∧
  (∀ L st M, zz_ev tX7_serve 92 L st M = zo_pushI 0 93 (zz_ev tX7_serve) L st M) ∧
  (∀ (L : zzLc) (a0 a1 : Int32) (r : List Value) (M : zzMd), zz_ev tX7_serve 93 L (.int a1 :: .int a0 :: .ref 10 :: r) M = bif zz_cat8 r then zz_backN (zz_ev tX7_serve) 96 L r (fX10_read [.ref 10, .int a0, .int a1] M) else none) ∧
  (∀ L st M, zz_ev tX7_serve 96 L st M = zo_iload 3 97 (zz_ev tX7_serve) L st M) ∧
  (∀ L st M, zz_ev tX7_serve 97 L st M = zo_icmp (fun x y => decide (x ≤ y)) 122 100 (zz_ev tX7_serve) L st M) ∧
  (∀ L st M, zz_ev tX7_serve 100 L st M = zo_iload 4 102 (zz_ev tX7_serve) L st M) ∧
  (∀ L st M, zz_ev tX7_serve 102 L st M = zo_if (fun x => decide (x = 0)) 122 105 (zz_ev tX7_serve) L st M) ∧
  (∀ L st M, zz_ev tX7_serve 105 L st M = zo_aload 0 106 (zz_ev tX7_serve) L st M) ∧
  (∀ (L : zzLc) (r : List Value) (M : zzMd), zz_ev tX7_serve 106 L (.ref 10 :: r) M = zz_ev tX7_serve 109 L (.ref 67 :: r) M) ∧
  (∀ L st M, zz_ev tX7_serve 109 L st M = zo_iload 1 110 (zz_ev tX7_serve) L st M) ∧
  (∀ L st M, zz_ev tX7_serve 110 L st M = zo_aload 0 111 (zz_ev tX7_serve) L st M) ∧
  (∀ (L : zzLc) (r : List Value) (M : zzMd), zz_ev tX7_serve 111 L (.ref 10 :: r) M = zz_ev tX7_serve 114 L (.ref 72 :: r) M) ∧
  (∀ L st M, zz_ev tX7_serve 114 L st M = zo_iload 1 115 (zz_ev tX7_serve) L st M) ∧
  (∀ L st M, zz_ev tX7_serve 115 L st M = zo_iald zzSC zzSTC 116 (zz_ev tX7_serve) L st M) ∧
  (∀ L st M, zz_ev tX7_serve 116 L st M = zo_pushI 10 118 (zz_ev tX7_serve) L st M) ∧
  (∀ L st M, zz_ev tX7_serve 118 L st M = zo_ii (fun x y => x + y) 119 (zz_ev tX7_serve) L st M) ∧
  (∀ L st M, zz_ev tX7_serve 119 L st M = zo_iast zzSC 120 (zz_ev tX7_serve) L st M) ∧
  (∀ L st M, zz_ev tX7_serve 120 L st M = zo_pushI 2 121 (zz_ev tX7_serve) L st M) ∧
  (∀ L st M, zz_ev tX7_serve 121 L st M = zo_iret false (zz_ev tX7_serve) L st M) ∧
  (∀ L st M, zz_ev tX7_serve 122 L st M = zo_aload 0 123 (zz_ev tX7_serve) L st M) ∧
  (∀ (L : zzLc) (r : List Value) (M : zzMd), zz_ev tX7_serve 123 L (.ref 10 :: r) M = zz_ev tX7_serve 126 L (.ref 1 :: r) M) ∧
  (∀ (L : zzLc) (r : List Value) (M : zzMd), zz_ev tX7_serve 126 L (.ref 1 :: r) M = zz_ev tX7_serve 129 L (.int (M.1 1 3) :: r) M) ∧
  (∀ L st M, zz_ev tX7_serve 129 L st M = zo_istore 5 131 (zz_ev tX7_serve) L st M) ∧
  (∀ L st M, zz_ev tX7_serve 131 L st M = zo_aload 0 132 (zz_ev tX7_serve) L st M) ∧
  (∀ L st M, zz_ev tX7_serve 132 L st M = zo_iload 1 133 (zz_ev tX7_serve) L st M) ∧
  (∀ L st M, zz_ev tX7_serve 133 L st M = zo_iload 3 134 (zz_ev tX7_serve) L st M) ∧
  (∀ (L : zzLc) (a0 a1 : Int32) (r : List Value) (M : zzMd), zz_ev tX7_serve 134 L (.int a1 :: .int a0 :: .ref 10 :: r) M = bif zz_cat8 r then zz_backN (zz_ev tX7_serve) 137 L r (fX2_want [.ref 10, .int a0, .int a1] M) else none) ∧
  (∀ L st M, zz_ev tX7_serve 137 L st M = zo_istore 6 139 (zz_ev tX7_serve) L st M) ∧
  (∀ L st M, zz_ev tX7_serve 139 L st M = zo_aload 0 140 (zz_ev tX7_serve) L st M) ∧
  (∀ (L : zzLc) (r : List Value) (M : zzMd), zz_ev tX7_serve 140 L (.ref 10 :: r) M = zz_ev tX7_serve 143 L (.ref 1 :: r) M) ∧
  (∀ (L : zzLc) (r : List Value) (M : zzMd), zz_ev tX7_serve 143 L (.ref 1 :: r) M = zz_ev tX7_serve 146 L (.int (M.1 1 3) :: r) M) ∧
  (∀ L st M, zz_ev tX7_serve 146 L st M = zo_iload 5 148 (zz_ev tX7_serve) L st M) ∧
  (∀ L st M, zz_ev tX7_serve 148 L st M = zo_icmp (fun x y => decide (x ≤ y)) 164 151 (zz_ev tX7_serve) L st M) ∧
  (∀ L st M, zz_ev tX7_serve 151 L st M = zo_aload 0 152 (zz_ev tX7_serve) L st M) ∧
  (∀ (L : zzLc) (r : List Value) (M : zzMd), zz_ev tX7_serve 152 L (.ref 10 :: r) M = zz_ev tX7_serve 155 L (.ref 72 :: r) M) ∧
  (∀ L st M, zz_ev tX7_serve 155 L st M = zo_iload 1 156 (zz_ev tX7_serve) L st M) ∧
  (∀ L st M, zz_ev tX7_serve 156 L st M = zo_aload 0 157 (zz_ev tX7_serve) L st M) ∧
  (∀ (L : zzLc) (r : List Value) (M : zzMd), zz_ev tX7_serve 157 L (.ref 10 :: r) M = zz_ev tX7_serve 160 L (.ref 1 :: r) M) ∧
  (∀ (L : zzLc) (r : List Value) (M : zzMd), zz_ev tX7_serve 160 L (.ref 1 :: r) M = zz_ev tX7_serve 163 L (.int (M.1 1 7) :: r) M) ∧
  (∀ L st M, zz_ev tX7_serve 163 L st M = zo_iast zzSC 164 (zz_ev tX7_serve) L st M) ∧
  (∀ L st M, zz_ev tX7_serve 164 L st M = zo_iload 6 166 (zz_ev tX7_serve) L st M) ∧
  (∀ (L : zzLc) (a0 : Int32) (r : List Value) (M : zzMd), zz_ev tX7_serve 166 L (.int a0 :: r) M = bif zz_cat8 r then zz_backN (zz_ev tX7_serve) 169 L r (fX2_outcomeOf [.int a0] M) else none) ∧
  (∀ L st M, zz_ev tX7_serve 169 L st M = zo_iret false (zz_ev tX7_serve) L st M) :=
  ⟨zz_1 rfl tl_X7_serve, zz_1 rfl tl_X7_serve, zz_1 rfl tl_X7_serve, fun L a0 a1 r M => (zz_1 rfl tl_X7_serve _ _ _).trans rfl, zz_1 rfl tl_X7_serve, zz_1 rfl tl_X7_serve, zz_1 rfl tl_X7_serve, zz_1 rfl tl_X7_serve, zz_1 rfl tl_X7_serve, zz_1 rfl tl_X7_serve, zz_1 rfl tl_X7_serve, zz_1 rfl tl_X7_serve, zz_1 rfl tl_X7_serve, fun L a0 a1 r M => (zz_1 rfl tl_X7_serve _ _ _).trans rfl, zz_1 rfl tl_X7_serve, zz_1 rfl tl_X7_serve, zz_1 rfl tl_X7_serve, zz_1 rfl tl_X7_serve, zz_1 rfl tl_X7_serve, zz_1 rfl tl_X7_serve, zz_1 rfl tl_X7_serve, zz_1 rfl tl_X7_serve, zz_1 rfl tl_X7_serve, zz_1 rfl tl_X7_serve, fun L a0 a1 r M => (zz_1 rfl tl_X7_serve _ _ _).trans rfl, zz_1 rfl tl_X7_serve, zz_1 rfl tl_X7_serve, zz_1 rfl tl_X7_serve, zz_1 rfl tl_X7_serve, zz_1 rfl tl_X7_serve, zz_1 rfl tl_X7_serve, zz_1 rfl tl_X7_serve, zz_1 rfl tl_X7_serve, fun L r M => (zz_1 rfl tl_X7_serve _ _ _).trans rfl, zz_1 rfl tl_X7_serve, zz_1 rfl tl_X7_serve, zz_1 rfl tl_X7_serve, zz_1 rfl tl_X7_serve, zz_1 rfl tl_X7_serve, fun L r M => (zz_1 rfl tl_X7_serve _ _ _).trans rfl, fun L r M => (zz_1 rfl tl_X7_serve _ _ _).trans rfl, zz_1 rfl tl_X7_serve, fun L r M => (zz_1 rfl tl_X7_serve _ _ _).trans rfl, zz_1 rfl tl_X7_serve, zz_1 rfl tl_X7_serve, zz_1 rfl tl_X7_serve, zz_1 rfl tl_X7_serve, zz_1 rfl tl_X7_serve, zz_1 rfl tl_X7_serve, zz_1 rfl tl_X7_serve, zz_1 rfl tl_X7_serve, zz_1 rfl tl_X7_serve, zz_1 rfl tl_X7_serve, zz_1 rfl tl_X7_serve, zz_1 rfl tl_X7_serve, fun L a0 a1 r M => (zz_1 rfl tl_X7_serve _ _ _).trans rfl, zz_1 rfl tl_X7_serve, zz_1 rfl tl_X7_serve, zz_1 rfl tl_X7_serve, zz_1 rfl tl_X7_serve, zz_1 rfl tl_X7_serve, fun L r M => (zz_1 rfl tl_X7_serve _ _ _).trans rfl, zz_1 rfl tl_X7_serve, zz_1 rfl tl_X7_serve, fun L r M => (zz_1 rfl tl_X7_serve _ _ _).trans rfl, zz_1 rfl tl_X7_serve, zz_1 rfl tl_X7_serve, zz_1 rfl tl_X7_serve, zz_1 rfl tl_X7_serve, zz_1 rfl tl_X7_serve, zz_1 rfl tl_X7_serve, zz_1 rfl tl_X7_serve, zz_1 rfl tl_X7_serve, fun L r M => (zz_1 rfl tl_X7_serve _ _ _).trans rfl, fun L r M => (zz_1 rfl tl_X7_serve _ _ _).trans rfl, zz_1 rfl tl_X7_serve, zz_1 rfl tl_X7_serve, zz_1 rfl tl_X7_serve, zz_1 rfl tl_X7_serve, fun L a0 a1 r M => (zz_1 rfl tl_X7_serve _ _ _).trans rfl, zz_1 rfl tl_X7_serve, zz_1 rfl tl_X7_serve, fun L r M => (zz_1 rfl tl_X7_serve _ _ _).trans rfl, fun L r M => (zz_1 rfl tl_X7_serve _ _ _).trans rfl, zz_1 rfl tl_X7_serve, zz_1 rfl tl_X7_serve, zz_1 rfl tl_X7_serve, fun L r M => (zz_1 rfl tl_X7_serve _ _ _).trans rfl, zz_1 rfl tl_X7_serve, zz_1 rfl tl_X7_serve, fun L r M => (zz_1 rfl tl_X7_serve _ _ _).trans rfl, fun L r M => (zz_1 rfl tl_X7_serve _ _ _).trans rfl, zz_1 rfl tl_X7_serve, zz_1 rfl tl_X7_serve, fun L a0 r M => (zz_1 rfl tl_X7_serve _ _ _).trans rfl, zz_1 rfl tl_X7_serve⟩
set_option maxRecDepth 100000 in
theorem s_X7_serve (a0 : Int32) (v : Nat) (M : zzMd) : fX7_serve [.ref v, .int a0] M = zz_ev tX7_serve 0 [some (.ref v), some (.int a0), none, none, none, none, none] [] M := rfl
set_option maxRecDepth 100000 in
theorem e_X8_countUsed : (∀ L st M, zz_ev tX8_countUsed 0 L st M = zo_pushI 0 1 (zz_ev tX8_countUsed) L st M) ∧
  (∀ L st M, zz_ev tX8_countUsed 1 L st M = zo_istore 1 2 (zz_ev tX8_countUsed) L st M) ∧
  (∀ L st M, zz_ev tX8_countUsed 3 L st M = zo_pushI 60 5 (zz_ev tX8_countUsed) L st M) ∧
  (∀ L st M, zz_ev tX8_countUsed 5 L st M = zo_icmp (fun x y => decide (y ≤ x)) 21 8 (zz_ev tX8_countUsed) L st M) ∧
  (∀ L st M, zz_ev tX8_countUsed 8 L st M = zo_aload 0 9 (zz_ev tX8_countUsed) L st M) ∧
  (∀ (L : zzLc) (r : List Value) (M : zzMd), zz_ev tX8_countUsed 9 L (.ref 6 :: r) M = zz_ev tX8_countUsed 12 L (.ref 69 :: r) M) ∧
  (∀ L st M, zz_ev tX8_countUsed 12 L st M = zo_iload 1 13 (zz_ev tX8_countUsed) L st M) ∧
  (∀ L st M, zz_ev tX8_countUsed 13 L st M = zo_pushI 0 14 (zz_ev tX8_countUsed) L st M) ∧
  (∀ L st M, zz_ev tX8_countUsed 14 L st M = zo_iast zzSC 15 (zz_ev tX8_countUsed) L st M) ∧
  (∀ L st M, zz_ev tX8_countUsed 15 L st M = zo_iinc 1 1 18 (zz_ev tX8_countUsed) L st M) ∧
  (∀ L st M, zz_ev tX8_countUsed 18 L st M = zo_goto 2 (zz_ev tX8_countUsed) L st M) ∧
  (∀ L st M, zz_ev tX8_countUsed 21 L st M = zo_pushI 0 22 (zz_ev tX8_countUsed) L st M) ∧
  (∀ L st M, zz_ev tX8_countUsed 22 L st M = zo_istore 1 23 (zz_ev tX8_countUsed) L st M) ∧
  (∀ L st M, zz_ev tX8_countUsed 24 L st M = zo_aload 0 25 (zz_ev tX8_countUsed) L st M) ∧
  (∀ (L : zzLc) (r : List Value) (M : zzMd), zz_ev tX8_countUsed 25 L (.ref 6 :: r) M = zz_ev tX8_countUsed 28 L (.int (M.1 6 2) :: r) M) ∧
  (∀ L st M, zz_ev tX8_countUsed 28 L st M = zo_icmp (fun x y => decide (y ≤ x)) 95 31 (zz_ev tX8_countUsed) L st M) ∧
  (∀ L st M, zz_ev tX8_countUsed 31 L st M = zo_aload 0 32 (zz_ev tX8_countUsed) L st M) ∧
  (∀ L st M, zz_ev tX8_countUsed 32 L st M = zo_iload 1 33 (zz_ev tX8_countUsed) L st M) ∧
  (∀ L st M, zz_ev tX8_countUsed 33 L st M = zo_pushI 28 35 (zz_ev tX8_countUsed) L st M) ∧
  (∀ (L : zzLc) (a0 a1 : Int32) (r : List Value) (M : zzMd), zz_ev tX8_countUsed 35 L (.int a1 :: .int a0 :: .ref 6 :: r) M = bif zz_cat8 r then zz_backN (zz_ev tX8_countUsed) 38 L r (fX10_read [.ref 6, .int a0, .int a1] M) else none) ∧
  (∀ L st M, zz_ev tX8_countUsed 38 L st M = zo_istore 2 39 (zz_ev tX8_countUsed) L st M) ∧
  (∀ L st M, zz_ev tX8_countUsed 39 L st M = zo_aload 0 40 (zz_ev tX8_countUsed) L st M) ∧
  (∀ L st M, zz_ev tX8_countUsed 40 L st M = zo_iload 1 41 (zz_ev tX8_countUsed) L st M) ∧
  (∀ L st M, zz_ev tX8_countUsed 41 L st M = zo_pushI 29 43 (zz_ev tX8_countUsed) L st M) ∧
  (∀ (L : zzLc) (a0 a1 : Int32) (r : List Value) (M : zzMd), zz_ev tX8_countUsed 43 L (.int a1 :: .int a0 :: .ref 6 :: r) M = bif zz_cat8 r then zz_backN (zz_ev tX8_countUsed) 46 L r (fX10_read [.ref 6, .int a0, .int a1] M) else none) ∧
  (∀ L st M, zz_ev tX8_countUsed 46 L st M = zo_istore 3 47 (zz_ev tX8_countUsed) L st M) ∧
  (∀ L st M, zz_ev tX8_countUsed 47 L st M = zo_iload 2 48 (zz_ev tX8_countUsed) L st M) ∧
  (∀ L st M, zz_ev tX8_countUsed 48 L st M = zo_if (fun x => decide (x < 0)) 89 51 (zz_ev tX8_countUsed) L st M) ∧
  (∀ L st M, zz_ev tX8_countUsed 51 L st M = zo_iload 2 52 (zz_ev tX8_countUsed) L st M) ∧
  (∀ L st M, zz_ev tX8_countUsed 52 L st M = zo_pushI 60 54 (zz_ev tX8_countUsed) L st M) ∧
  (∀ L st M, zz_ev tX8_countUsed 54 L st M = zo_icmp (fun x y => decide (y ≤ x)) 89 57 (zz_ev tX8_countUsed) L st M) ∧
  (∀ L st M, zz_ev tX8_countUsed 57 L st M = zo_aload 0 58 (zz_ev tX8_countUsed) L st M) ∧
  (∀ L st M, zz_ev tX8_countUsed 58 L st M = zo_iload 1 59 (zz_ev tX8_countUsed) L st M) ∧
  (∀ (L : zzLc) (a0 : Int32) (r : List Value) (M : zzMd), zz_ev tX8_countUsed 59 L (.int a0 :: .ref 6 :: r) M = bif zz_cat8 r then zz_backN (zz_ev tX8_countUsed) 62 L r (fX10_isGone [.ref 6, .int a0] M) else none) ∧
  (∀ L st M, zz_ev tX8_countUsed 62 L st M = zo_if (fun x => decide (¬ x = 0)) 89 65 (zz_ev tX8_countUsed) L st M) ∧
  (∀ L st M, zz_ev tX8_countUsed 65 L st M = zo_iload 3 66 (zz_ev tX8_countUsed) L st M) ∧
  (∀ L st M, zz_ev tX8_countUsed 66 L st M = zo_pushI 2 67 (zz_ev tX8_countUsed) L st M) ∧
  (∀ L st M, zz_ev tX8_countUsed 67 L st M = zo_icmp (fun x y => decide (x = y)) 89 70 (zz_ev tX8_countUsed) L st M) ∧
  (∀ L st M, zz_ev tX8_countUsed 70 L st M = zo_iload 3 71 (zz_ev tX8_countUsed) L st M) ∧
  (∀ L st M, zz_ev tX8_countUsed 71 L st M = zo_pushI 3 72 (zz_ev tX8_countUsed) L st M) ∧
  (∀ L st M, zz_ev tX8_countUsed 72 L st M = zo_icmp (fun x y => decide (x = y)) 89 75 (zz_ev tX8_countUsed) L st M) ∧
  (∀ L st M, zz_ev tX8_countUsed 75 L st M = zo_aload 0 76 (zz_ev tX8_countUsed) L st M) ∧
  (∀ (L : zzLc) (r : List Value) (M : zzMd), zz_ev tX8_countUsed 76 L (.ref 6 :: r) M = zz_ev tX8_countUsed 79 L (.ref 69 :: r) M) ∧
  (∀ L st M, zz_ev tX8_countUsed 79 L st M = zo_iload 2 80 (zz_ev tX8_countUsed) L st M) ∧
  (∀ L st M, zz_ev tX8_countUsed 80 L st M = zo_dup2 81 (zz_ev tX8_countUsed) L st M) ∧
  (∀ L st M, zz_ev tX8_countUsed 81 L st M = zo_iald zzSC zzSTC 82 (zz_ev tX8_countUsed) L st M) ∧
  (∀ L st M, zz_ev tX8_countUsed 82 L st M = zo_aload 0 83 (zz_ev tX8_countUsed) L st M) ∧
  (∀ L st M, zz_ev tX8_countUsed 83 L st M = zo_iload 1 84 (zz_ev tX8_countUsed) L st M) ∧
  (∀ (L : zzLc) (a0 : Int32) (r : List Value) (M : zzMd), zz_ev tX8_countUsed 84 L (.int a0 :: .ref 6 :: r) M = bif zz_cat8 r then zz_backN (zz_ev tX8_countUsed) 87 L r (fX10_needOf [.ref 6, .int a0] M) else none) ∧
  (∀ L st M, zz_ev tX8_countUsed 87 L st M = zo_ii (fun x y => x + y) 88 (zz_ev tX8_countUsed) L st M) ∧
  (∀ L st M, zz_ev tX8_countUsed 88 L st M = zo_iast zzSC 89 (zz_ev tX8_countUsed) L st M) ∧
  (∀ L st M, zz_ev tX8_countUsed 89 L st M = zo_iinc 1 1 92 (zz_ev tX8_countUsed) L st M) ∧
  (∀ L st M, zz_ev tX8_countUsed 92 L st M = zo_goto 23 (zz_ev tX8_countUsed) L st M) ∧
  (∀ L st M, zz_ev tX8_countUsed 95 L st M = zo_ret (zz_ev tX8_countUsed) L st M) :=
  ⟨zz_1 rfl tl_X8_countUsed, zz_1 rfl tl_X8_countUsed, zz_1 rfl tl_X8_countUsed, zz_1 rfl tl_X8_countUsed, zz_1 rfl tl_X8_countUsed, fun L r M => (zz_1 rfl tl_X8_countUsed _ _ _).trans rfl, zz_1 rfl tl_X8_countUsed, zz_1 rfl tl_X8_countUsed, zz_1 rfl tl_X8_countUsed, zz_1 rfl tl_X8_countUsed, zz_1 rfl tl_X8_countUsed, zz_1 rfl tl_X8_countUsed, zz_1 rfl tl_X8_countUsed, zz_1 rfl tl_X8_countUsed, fun L r M => (zz_1 rfl tl_X8_countUsed _ _ _).trans rfl, zz_1 rfl tl_X8_countUsed, zz_1 rfl tl_X8_countUsed, zz_1 rfl tl_X8_countUsed, zz_1 rfl tl_X8_countUsed, fun L a0 a1 r M => (zz_1 rfl tl_X8_countUsed _ _ _).trans rfl, zz_1 rfl tl_X8_countUsed, zz_1 rfl tl_X8_countUsed, zz_1 rfl tl_X8_countUsed, zz_1 rfl tl_X8_countUsed, fun L a0 a1 r M => (zz_1 rfl tl_X8_countUsed _ _ _).trans rfl, zz_1 rfl tl_X8_countUsed, zz_1 rfl tl_X8_countUsed, zz_1 rfl tl_X8_countUsed, zz_1 rfl tl_X8_countUsed, zz_1 rfl tl_X8_countUsed, zz_1 rfl tl_X8_countUsed, zz_1 rfl tl_X8_countUsed, zz_1 rfl tl_X8_countUsed, fun L a0 r M => (zz_1 rfl tl_X8_countUsed _ _ _).trans rfl, zz_1 rfl tl_X8_countUsed, zz_1 rfl tl_X8_countUsed, zz_1 rfl tl_X8_countUsed, zz_1 rfl tl_X8_countUsed, zz_1 rfl tl_X8_countUsed, zz_1 rfl tl_X8_countUsed, zz_1 rfl tl_X8_countUsed, zz_1 rfl tl_X8_countUsed, fun L r M => (zz_1 rfl tl_X8_countUsed _ _ _).trans rfl, zz_1 rfl tl_X8_countUsed, zz_1 rfl tl_X8_countUsed, zz_1 rfl tl_X8_countUsed, zz_1 rfl tl_X8_countUsed, zz_1 rfl tl_X8_countUsed, fun L a0 r M => (zz_1 rfl tl_X8_countUsed _ _ _).trans rfl, zz_1 rfl tl_X8_countUsed, zz_1 rfl tl_X8_countUsed, zz_1 rfl tl_X8_countUsed, zz_1 rfl tl_X8_countUsed, zz_1 rfl tl_X8_countUsed⟩
set_option maxRecDepth 100000 in
theorem e_X8_countUsed_2 : (∀ L st M, zz_ev tX8_countUsed 2 L st M = zo_iload 1 3 (zz_ev tX8_countUsed) L st M) := zz_1 rfl tl_X8_countUsed
set_option maxRecDepth 100000 in
theorem e_X8_countUsed_23 : (∀ L st M, zz_ev tX8_countUsed 23 L st M = zo_iload 1 24 (zz_ev tX8_countUsed) L st M) := zz_1 rfl tl_X8_countUsed
set_option maxRecDepth 100000 in
theorem s_X8_countUsed (v : Nat) (M : zzMd) : fX8_countUsed [.ref v] M = zz_ev tX8_countUsed 0 [some (.ref v), none, none, none] [] M := rfl
set_option maxRecDepth 100000 in
theorem e_X8_zoneOf : (∀ L st M, zz_ev tX8_zoneOf 0 L st M = zo_aload 0 1 (zz_ev tX8_zoneOf) L st M) ∧
  (∀ L st M, zz_ev tX8_zoneOf 1 L st M = zo_iload 1 2 (zz_ev tX8_zoneOf) L st M) ∧
  (∀ L st M, zz_ev tX8_zoneOf 2 L st M = zo_pushI 8 4 (zz_ev tX8_zoneOf) L st M) ∧
  (∀ (L : zzLc) (a0 a1 : Int32) (r : List Value) (M : zzMd), zz_ev tX8_zoneOf 4 L (.int a1 :: .int a0 :: .ref 6 :: r) M = bif zz_cat8 r then zz_backN (zz_ev tX8_zoneOf) 7 L r (fX10_read [.ref 6, .int a0, .int a1] M) else none) ∧
  (∀ L st M, zz_ev tX8_zoneOf 7 L st M = zo_istore 2 8 (zz_ev tX8_zoneOf) L st M) ∧
  (∀ L st M, zz_ev tX8_zoneOf 8 L st M = zo_iload 2 9 (zz_ev tX8_zoneOf) L st M) ∧
  (∀ L st M, zz_ev tX8_zoneOf 9 L st M = zo_if (fun x => decide (x < 0)) 17 12 (zz_ev tX8_zoneOf) L st M) ∧
  (∀ L st M, zz_ev tX8_zoneOf 12 L st M = zo_iload 2 13 (zz_ev tX8_zoneOf) L st M) ∧
  (∀ L st M, zz_ev tX8_zoneOf 13 L st M = zo_pushI 3 14 (zz_ev tX8_zoneOf) L st M) ∧
  (∀ L st M, zz_ev tX8_zoneOf 14 L st M = zo_icmp (fun x y => decide (x < y)) 21 17 (zz_ev tX8_zoneOf) L st M) ∧
  (∀ L st M, zz_ev tX8_zoneOf 17 L st M = zo_pushI 0 18 (zz_ev tX8_zoneOf) L st M) ∧
  (∀ L st M, zz_ev tX8_zoneOf 18 L st M = zo_goto 22 (zz_ev tX8_zoneOf) L st M) ∧
  (∀ L st M, zz_ev tX8_zoneOf 21 L st M = zo_iload 2 22 (zz_ev tX8_zoneOf) L st M) ∧
  (∀ L st M, zz_ev tX8_zoneOf 22 L st M = zo_iret false (zz_ev tX8_zoneOf) L st M) :=
  ⟨zz_1 rfl tl_X8_zoneOf, zz_1 rfl tl_X8_zoneOf, zz_1 rfl tl_X8_zoneOf, fun L a0 a1 r M => (zz_1 rfl tl_X8_zoneOf _ _ _).trans rfl, zz_1 rfl tl_X8_zoneOf, zz_1 rfl tl_X8_zoneOf, zz_1 rfl tl_X8_zoneOf, zz_1 rfl tl_X8_zoneOf, zz_1 rfl tl_X8_zoneOf, zz_1 rfl tl_X8_zoneOf, zz_1 rfl tl_X8_zoneOf, zz_1 rfl tl_X8_zoneOf, zz_1 rfl tl_X8_zoneOf, zz_1 rfl tl_X8_zoneOf⟩
set_option maxRecDepth 100000 in
theorem s_X8_zoneOf (a0 : Int32) (v : Nat) (M : zzMd) : fX8_zoneOf [.ref v, .int a0] M = zz_ev tX8_zoneOf 0 [some (.ref v), some (.int a0), none] [] M := rfl
set_option maxRecDepth 100000 in
theorem e_X8_countMates : (∀ L st M, zz_ev tX8_countMates 0 L st M = zo_pushI 0 1 (zz_ev tX8_countMates) L st M) ∧
  (∀ L st M, zz_ev tX8_countMates 1 L st M = zo_istore 2 2 (zz_ev tX8_countMates) L st M) ∧
  (∀ L st M, zz_ev tX8_countMates 3 L st M = zo_pushI 3 4 (zz_ev tX8_countMates) L st M) ∧
  (∀ L st M, zz_ev tX8_countMates 4 L st M = zo_icmp (fun x y => decide (y ≤ x)) 20 7 (zz_ev tX8_countMates) L st M) ∧
  (∀ L st M, zz_ev tX8_countMates 7 L st M = zo_aload 0 8 (zz_ev tX8_countMates) L st M) ∧
  (∀ (L : zzLc) (r : List Value) (M : zzMd), zz_ev tX8_countMates 8 L (.ref 6 :: r) M = zz_ev tX8_countMates 11 L (.ref 70 :: r) M) ∧
  (∀ L st M, zz_ev tX8_countMates 11 L st M = zo_iload 2 12 (zz_ev tX8_countMates) L st M) ∧
  (∀ L st M, zz_ev tX8_countMates 12 L st M = zo_pushI 0 13 (zz_ev tX8_countMates) L st M) ∧
  (∀ L st M, zz_ev tX8_countMates 13 L st M = zo_iast zzSC 14 (zz_ev tX8_countMates) L st M) ∧
  (∀ L st M, zz_ev tX8_countMates 14 L st M = zo_iinc 2 1 17 (zz_ev tX8_countMates) L st M) ∧
  (∀ L st M, zz_ev tX8_countMates 17 L st M = zo_goto 2 (zz_ev tX8_countMates) L st M) ∧
  (∀ L st M, zz_ev tX8_countMates 20 L st M = zo_pushI 0 21 (zz_ev tX8_countMates) L st M) ∧
  (∀ L st M, zz_ev tX8_countMates 21 L st M = zo_istore 2 22 (zz_ev tX8_countMates) L st M) ∧
  (∀ L st M, zz_ev tX8_countMates 23 L st M = zo_aload 0 24 (zz_ev tX8_countMates) L st M) ∧
  (∀ (L : zzLc) (r : List Value) (M : zzMd), zz_ev tX8_countMates 24 L (.ref 6 :: r) M = zz_ev tX8_countMates 27 L (.int (M.1 6 2) :: r) M) ∧
  (∀ L st M, zz_ev tX8_countMates 27 L st M = zo_icmp (fun x y => decide (y ≤ x)) 90 30 (zz_ev tX8_countMates) L st M) ∧
  (∀ L st M, zz_ev tX8_countMates 30 L st M = zo_aload 0 31 (zz_ev tX8_countMates) L st M) ∧
  (∀ L st M, zz_ev tX8_countMates 31 L st M = zo_iload 2 32 (zz_ev tX8_countMates) L st M) ∧
  (∀ L st M, zz_ev tX8_countMates 32 L st M = zo_pushI 28 34 (zz_ev tX8_countMates) L st M) ∧
  (∀ (L : zzLc) (a0 a1 : Int32) (r : List Value) (M : zzMd), zz_ev tX8_countMates 34 L (.int a1 :: .int a0 :: .ref 6 :: r) M = bif zz_cat8 r then zz_backN (zz_ev tX8_countMates) 37 L r (fX10_read [.ref 6, .int a0, .int a1] M) else none) ∧
  (∀ L st M, zz_ev tX8_countMates 37 L st M = zo_istore 3 38 (zz_ev tX8_countMates) L st M) ∧
  (∀ L st M, zz_ev tX8_countMates 38 L st M = zo_iload 3 39 (zz_ev tX8_countMates) L st M) ∧
  (∀ L st M, zz_ev tX8_countMates 39 L st M = zo_pushI (-1) 40 (zz_ev tX8_countMates) L st M) ∧
  (∀ L st M, zz_ev tX8_countMates 40 L st M = zo_icmp (fun x y => decide (x = y)) 84 43 (zz_ev tX8_countMates) L st M) ∧
  (∀ L st M, zz_ev tX8_countMates 43 L st M = zo_aload 0 44 (zz_ev tX8_countMates) L st M) ∧
  (∀ L st M, zz_ev tX8_countMates 44 L st M = zo_iload 2 45 (zz_ev tX8_countMates) L st M) ∧
  (∀ L st M, zz_ev tX8_countMates 45 L st M = zo_pushI 24 47 (zz_ev tX8_countMates) L st M) ∧
  (∀ (L : zzLc) (a0 a1 : Int32) (r : List Value) (M : zzMd), zz_ev tX8_countMates 47 L (.int a1 :: .int a0 :: .ref 6 :: r) M = bif zz_cat8 r then zz_backN (zz_ev tX8_countMates) 50 L r (fX10_read [.ref 6, .int a0, .int a1] M) else none) ∧
  (∀ L st M, zz_ev tX8_countMates 50 L st M = zo_iload 1 51 (zz_ev tX8_countMates) L st M) ∧
  (∀ L st M, zz_ev tX8_countMates 51 L st M = zo_icmp (fun x y => decide (¬ x = y)) 84 54 (zz_ev tX8_countMates) L st M) ∧
  (∀ L st M, zz_ev tX8_countMates 54 L st M = zo_aload 0 55 (zz_ev tX8_countMates) L st M) ∧
  (∀ L st M, zz_ev tX8_countMates 55 L st M = zo_iload 2 56 (zz_ev tX8_countMates) L st M) ∧
  (∀ (L : zzLc) (a0 : Int32) (r : List Value) (M : zzMd), zz_ev tX8_countMates 56 L (.int a0 :: .ref 6 :: r) M = bif zz_cat8 r then zz_backN (zz_ev tX8_countMates) 59 L r (fX10_isGone [.ref 6, .int a0] M) else none) ∧
  (∀ L st M, zz_ev tX8_countMates 59 L st M = zo_if (fun x => decide (¬ x = 0)) 84 62 (zz_ev tX8_countMates) L st M) ∧
  (∀ L st M, zz_ev tX8_countMates 62 L st M = zo_aload 0 63 (zz_ev tX8_countMates) L st M) ∧
  (∀ L st M, zz_ev tX8_countMates 63 L st M = zo_iload 3 64 (zz_ev tX8_countMates) L st M) ∧
  (∀ (L : zzLc) (a0 : Int32) (r : List Value) (M : zzMd), zz_ev tX8_countMates 64 L (.int a0 :: .ref 6 :: r) M = bif zz_cat8 r then zz_backN (zz_ev tX8_countMates) 67 L r (fX10_isGone [.ref 6, .int a0] M) else none) ∧
  (∀ L st M, zz_ev tX8_countMates 67 L st M = zo_if (fun x => decide (¬ x = 0)) 84 70 (zz_ev tX8_countMates) L st M) ∧
  (∀ L st M, zz_ev tX8_countMates 70 L st M = zo_aload 0 71 (zz_ev tX8_countMates) L st M) ∧
  (∀ (L : zzLc) (r : List Value) (M : zzMd), zz_ev tX8_countMates 71 L (.ref 6 :: r) M = zz_ev tX8_countMates 74 L (.ref 70 :: r) M) ∧
  (∀ L st M, zz_ev tX8_countMates 74 L st M = zo_aload 0 75 (zz_ev tX8_countMates) L st M) ∧
  (∀ L st M, zz_ev tX8_countMates 75 L st M = zo_iload 3 76 (zz_ev tX8_countMates) L st M) ∧
  (∀ (L : zzLc) (a0 : Int32) (r : List Value) (M : zzMd), zz_ev tX8_countMates 76 L (.int a0 :: .ref 6 :: r) M = bif zz_cat8 r then zz_backN (zz_ev tX8_countMates) 79 L r (fX8_zoneOf [.ref 6, .int a0] M) else none) ∧
  (∀ L st M, zz_ev tX8_countMates 79 L st M = zo_dup2 80 (zz_ev tX8_countMates) L st M) ∧
  (∀ L st M, zz_ev tX8_countMates 80 L st M = zo_iald zzSC zzSTC 81 (zz_ev tX8_countMates) L st M) ∧
  (∀ L st M, zz_ev tX8_countMates 81 L st M = zo_pushI 1 82 (zz_ev tX8_countMates) L st M) ∧
  (∀ L st M, zz_ev tX8_countMates 82 L st M = zo_ii (fun x y => x + y) 83 (zz_ev tX8_countMates) L st M) ∧
  (∀ L st M, zz_ev tX8_countMates 83 L st M = zo_iast zzSC 84 (zz_ev tX8_countMates) L st M) ∧
  (∀ L st M, zz_ev tX8_countMates 84 L st M = zo_iinc 2 1 87 (zz_ev tX8_countMates) L st M) ∧
  (∀ L st M, zz_ev tX8_countMates 87 L st M = zo_goto 22 (zz_ev tX8_countMates) L st M) ∧
  (∀ L st M, zz_ev tX8_countMates 90 L st M = zo_ret (zz_ev tX8_countMates) L st M) :=
  ⟨zz_1 rfl tl_X8_countMates, zz_1 rfl tl_X8_countMates, zz_1 rfl tl_X8_countMates, zz_1 rfl tl_X8_countMates, zz_1 rfl tl_X8_countMates, fun L r M => (zz_1 rfl tl_X8_countMates _ _ _).trans rfl, zz_1 rfl tl_X8_countMates, zz_1 rfl tl_X8_countMates, zz_1 rfl tl_X8_countMates, zz_1 rfl tl_X8_countMates, zz_1 rfl tl_X8_countMates, zz_1 rfl tl_X8_countMates, zz_1 rfl tl_X8_countMates, zz_1 rfl tl_X8_countMates, fun L r M => (zz_1 rfl tl_X8_countMates _ _ _).trans rfl, zz_1 rfl tl_X8_countMates, zz_1 rfl tl_X8_countMates, zz_1 rfl tl_X8_countMates, zz_1 rfl tl_X8_countMates, fun L a0 a1 r M => (zz_1 rfl tl_X8_countMates _ _ _).trans rfl, zz_1 rfl tl_X8_countMates, zz_1 rfl tl_X8_countMates, zz_1 rfl tl_X8_countMates, zz_1 rfl tl_X8_countMates, zz_1 rfl tl_X8_countMates, zz_1 rfl tl_X8_countMates, zz_1 rfl tl_X8_countMates, fun L a0 a1 r M => (zz_1 rfl tl_X8_countMates _ _ _).trans rfl, zz_1 rfl tl_X8_countMates, zz_1 rfl tl_X8_countMates, zz_1 rfl tl_X8_countMates, zz_1 rfl tl_X8_countMates, fun L a0 r M => (zz_1 rfl tl_X8_countMates _ _ _).trans rfl, zz_1 rfl tl_X8_countMates, zz_1 rfl tl_X8_countMates, zz_1 rfl tl_X8_countMates, fun L a0 r M => (zz_1 rfl tl_X8_countMates _ _ _).trans rfl, zz_1 rfl tl_X8_countMates, zz_1 rfl tl_X8_countMates, fun L r M => (zz_1 rfl tl_X8_countMates _ _ _).trans rfl, zz_1 rfl tl_X8_countMates, zz_1 rfl tl_X8_countMates, fun L a0 r M => (zz_1 rfl tl_X8_countMates _ _ _).trans rfl, zz_1 rfl tl_X8_countMates, zz_1 rfl tl_X8_countMates, zz_1 rfl tl_X8_countMates, zz_1 rfl tl_X8_countMates, zz_1 rfl tl_X8_countMates, zz_1 rfl tl_X8_countMates, zz_1 rfl tl_X8_countMates, zz_1 rfl tl_X8_countMates⟩
set_option maxRecDepth 100000 in
theorem e_X8_countMates_2 : (∀ L st M, zz_ev tX8_countMates 2 L st M = zo_iload 2 3 (zz_ev tX8_countMates) L st M) := zz_1 rfl tl_X8_countMates
set_option maxRecDepth 100000 in
theorem e_X8_countMates_22 : (∀ L st M, zz_ev tX8_countMates 22 L st M = zo_iload 2 23 (zz_ev tX8_countMates) L st M) := zz_1 rfl tl_X8_countMates
set_option maxRecDepth 100000 in
theorem s_X8_countMates (a0 : Int32) (v : Nat) (M : zzMd) : fX8_countMates [.ref v, .int a0] M = zz_ev tX8_countMates 0 [some (.ref v), some (.int a0), none, none] [] M := rfl
set_option maxRecDepth 100000 in
theorem e_X8_isOpen : (∀ L st M, zz_ev tX8_isOpen 0 L st M = zo_aload 0 1 (zz_ev tX8_isOpen) L st M) ∧
  (∀ L st M, zz_ev tX8_isOpen 1 L st M = zo_iload 1 2 (zz_ev tX8_isOpen) L st M) ∧
  (∀ L st M, zz_ev tX8_isOpen 2 L st M = zo_pushI 4 3 (zz_ev tX8_isOpen) L st M) ∧
  (∀ (L : zzLc) (a0 a1 : Int32) (r : List Value) (M : zzMd), zz_ev tX8_isOpen 3 L (.int a1 :: .int a0 :: .ref 6 :: r) M = bif zz_cat8 r then zz_backN (zz_ev tX8_isOpen) 6 L r (fX10_isStaying [.ref 6, .int a0, .int a1] M) else none) ∧
  (∀ L st M, zz_ev tX8_isOpen 6 L st M = zo_if (fun x => decide (x = 0)) 34 9 (zz_ev tX8_isOpen) L st M) ∧
  (∀ L st M, zz_ev tX8_isOpen 9 L st M = zo_aload 0 10 (zz_ev tX8_isOpen) L st M) ∧
  (∀ L st M, zz_ev tX8_isOpen 10 L st M = zo_iload 1 11 (zz_ev tX8_isOpen) L st M) ∧
  (∀ L st M, zz_ev tX8_isOpen 11 L st M = zo_pushI 27 13 (zz_ev tX8_isOpen) L st M) ∧
  (∀ (L : zzLc) (a0 a1 : Int32) (r : List Value) (M : zzMd), zz_ev tX8_isOpen 13 L (.int a1 :: .int a0 :: .ref 6 :: r) M = bif zz_cat8 r then zz_backN (zz_ev tX8_isOpen) 16 L r (fX10_read [.ref 6, .int a0, .int a1] M) else none) ∧
  (∀ L st M, zz_ev tX8_isOpen 16 L st M = zo_pushI 1 17 (zz_ev tX8_isOpen) L st M) ∧
  (∀ L st M, zz_ev tX8_isOpen 17 L st M = zo_icmp (fun x y => decide (¬ x = y)) 34 20 (zz_ev tX8_isOpen) L st M) ∧
  (∀ L st M, zz_ev tX8_isOpen 20 L st M = zo_aload 0 21 (zz_ev tX8_isOpen) L st M) ∧
  (∀ L st M, zz_ev tX8_isOpen 21 L st M = zo_iload 1 22 (zz_ev tX8_isOpen) L st M) ∧
  (∀ L st M, zz_ev tX8_isOpen 22 L st M = zo_pushI 9 24 (zz_ev tX8_isOpen) L st M) ∧
  (∀ (L : zzLc) (a0 a1 : Int32) (r : List Value) (M : zzMd), zz_ev tX8_isOpen 24 L (.int a1 :: .int a0 :: .ref 6 :: r) M = bif zz_cat8 r then zz_backN (zz_ev tX8_isOpen) 27 L r (fX10_read [.ref 6, .int a0, .int a1] M) else none) ∧
  (∀ L st M, zz_ev tX8_isOpen 27 L st M = zo_if (fun x => decide (¬ x = 0)) 34 30 (zz_ev tX8_isOpen) L st M) ∧
  (∀ L st M, zz_ev tX8_isOpen 30 L st M = zo_pushI 1 31 (zz_ev tX8_isOpen) L st M) ∧
  (∀ L st M, zz_ev tX8_isOpen 31 L st M = zo_goto 35 (zz_ev tX8_isOpen) L st M) ∧
  (∀ L st M, zz_ev tX8_isOpen 34 L st M = zo_pushI 0 35 (zz_ev tX8_isOpen) L st M) ∧
  (∀ L st M, zz_ev tX8_isOpen 35 L st M = zo_iret true (zz_ev tX8_isOpen) L st M) :=
  ⟨zz_1 rfl tl_X8_isOpen, zz_1 rfl tl_X8_isOpen, zz_1 rfl tl_X8_isOpen, fun L a0 a1 r M => (zz_1 rfl tl_X8_isOpen _ _ _).trans rfl, zz_1 rfl tl_X8_isOpen, zz_1 rfl tl_X8_isOpen, zz_1 rfl tl_X8_isOpen, zz_1 rfl tl_X8_isOpen, fun L a0 a1 r M => (zz_1 rfl tl_X8_isOpen _ _ _).trans rfl, zz_1 rfl tl_X8_isOpen, zz_1 rfl tl_X8_isOpen, zz_1 rfl tl_X8_isOpen, zz_1 rfl tl_X8_isOpen, zz_1 rfl tl_X8_isOpen, fun L a0 a1 r M => (zz_1 rfl tl_X8_isOpen _ _ _).trans rfl, zz_1 rfl tl_X8_isOpen, zz_1 rfl tl_X8_isOpen, zz_1 rfl tl_X8_isOpen, zz_1 rfl tl_X8_isOpen, zz_1 rfl tl_X8_isOpen⟩
set_option maxRecDepth 100000 in
theorem s_X8_isOpen (a0 : Int32) (v : Nat) (M : zzMd) : fX8_isOpen [.ref v, .int a0] M = zz_ev tX8_isOpen 0 [some (.ref v), some (.int a0)] [] M := rfl
set_option maxRecDepth 100000 in
theorem e_X8_roomLeft : (∀ L st M, zz_ev tX8_roomLeft 0 L st M = zo_aload 0 1 (zz_ev tX8_roomLeft) L st M) ∧
  (∀ L st M, zz_ev tX8_roomLeft 1 L st M = zo_iload 1 2 (zz_ev tX8_roomLeft) L st M) ∧
  (∀ L st M, zz_ev tX8_roomLeft 2 L st M = zo_pushI 7 4 (zz_ev tX8_roomLeft) L st M) ∧
  (∀ (L : zzLc) (a0 a1 : Int32) (r : List Value) (M : zzMd), zz_ev tX8_roomLeft 4 L (.int a1 :: .int a0 :: .ref 6 :: r) M = bif zz_cat8 r then zz_backN (zz_ev tX8_roomLeft) 7 L r (fX10_read [.ref 6, .int a0, .int a1] M) else none) ∧
  (∀ L st M, zz_ev tX8_roomLeft 7 L st M = zo_aload 0 8 (zz_ev tX8_roomLeft) L st M) ∧
  (∀ (L : zzLc) (r : List Value) (M : zzMd), zz_ev tX8_roomLeft 8 L (.ref 6 :: r) M = zz_ev tX8_roomLeft 11 L (.ref 69 :: r) M) ∧
  (∀ L st M, zz_ev tX8_roomLeft 11 L st M = zo_iload 1 12 (zz_ev tX8_roomLeft) L st M) ∧
  (∀ L st M, zz_ev tX8_roomLeft 12 L st M = zo_iald zzSC zzSTC 13 (zz_ev tX8_roomLeft) L st M) ∧
  (∀ L st M, zz_ev tX8_roomLeft 13 L st M = zo_ii (fun x y => x - y) 14 (zz_ev tX8_roomLeft) L st M) ∧
  (∀ L st M, zz_ev tX8_roomLeft 14 L st M = zo_iret false (zz_ev tX8_roomLeft) L st M) :=
  ⟨zz_1 rfl tl_X8_roomLeft, zz_1 rfl tl_X8_roomLeft, zz_1 rfl tl_X8_roomLeft, fun L a0 a1 r M => (zz_1 rfl tl_X8_roomLeft _ _ _).trans rfl, zz_1 rfl tl_X8_roomLeft, fun L r M => (zz_1 rfl tl_X8_roomLeft _ _ _).trans rfl, zz_1 rfl tl_X8_roomLeft, zz_1 rfl tl_X8_roomLeft, zz_1 rfl tl_X8_roomLeft, zz_1 rfl tl_X8_roomLeft⟩
set_option maxRecDepth 100000 in
theorem s_X8_roomLeft (a0 : Int32) (v : Nat) (M : zzMd) : fX8_roomLeft [.ref v, .int a0] M = zz_ev tX8_roomLeft 0 [some (.ref v), some (.int a0)] [] M := rfl
set_option maxRecDepth 100000 in
theorem e_X8_isBetter : (∀ L st M, zz_ev tX8_isBetter 0 L st M = zo_aload 0 1 (zz_ev tX8_isBetter) L st M) ∧
  (∀ (L : zzLc) (r : List Value) (M : zzMd), zz_ev tX8_isBetter 1 L (.ref 6 :: r) M = zz_ev tX8_isBetter 4 L (.ref 70 :: r) M) ∧
  (∀ L st M, zz_ev tX8_isBetter 4 L st M = zo_aload 0 5 (zz_ev tX8_isBetter) L st M) ∧
  (∀ L st M, zz_ev tX8_isBetter 5 L st M = zo_iload 2 6 (zz_ev tX8_isBetter) L st M) ∧
  (∀ (L : zzLc) (a0 : Int32) (r : List Value) (M : zzMd), zz_ev tX8_isBetter 6 L (.int a0 :: .ref 6 :: r) M = bif zz_cat8 r then zz_backN (zz_ev tX8_isBetter) 9 L r (fX8_zoneOf [.ref 6, .int a0] M) else none) ∧
  (∀ L st M, zz_ev tX8_isBetter 9 L st M = zo_iald zzSC zzSTC 10 (zz_ev tX8_isBetter) L st M) ∧
  (∀ L st M, zz_ev tX8_isBetter 10 L st M = zo_aload 0 11 (zz_ev tX8_isBetter) L st M) ∧
  (∀ (L : zzLc) (r : List Value) (M : zzMd), zz_ev tX8_isBetter 11 L (.ref 6 :: r) M = zz_ev tX8_isBetter 14 L (.ref 70 :: r) M) ∧
  (∀ L st M, zz_ev tX8_isBetter 14 L st M = zo_aload 0 15 (zz_ev tX8_isBetter) L st M) ∧
  (∀ L st M, zz_ev tX8_isBetter 15 L st M = zo_iload 1 16 (zz_ev tX8_isBetter) L st M) ∧
  (∀ (L : zzLc) (a0 : Int32) (r : List Value) (M : zzMd), zz_ev tX8_isBetter 16 L (.int a0 :: .ref 6 :: r) M = bif zz_cat8 r then zz_backN (zz_ev tX8_isBetter) 19 L r (fX8_zoneOf [.ref 6, .int a0] M) else none) ∧
  (∀ L st M, zz_ev tX8_isBetter 19 L st M = zo_iald zzSC zzSTC 20 (zz_ev tX8_isBetter) L st M) ∧
  (∀ L st M, zz_ev tX8_isBetter 20 L st M = zo_ii (fun x y => x - y) 21 (zz_ev tX8_isBetter) L st M) ∧
  (∀ L st M, zz_ev tX8_isBetter 21 L st M = zo_istore 3 22 (zz_ev tX8_isBetter) L st M) ∧
  (∀ L st M, zz_ev tX8_isBetter 22 L st M = zo_iload 3 23 (zz_ev tX8_isBetter) L st M) ∧
  (∀ L st M, zz_ev tX8_isBetter 23 L st M = zo_if (fun x => decide (0 < x)) 43 26 (zz_ev tX8_isBetter) L st M) ∧
  (∀ L st M, zz_ev tX8_isBetter 26 L st M = zo_iload 3 27 (zz_ev tX8_isBetter) L st M) ∧
  (∀ L st M, zz_ev tX8_isBetter 27 L st M = zo_if (fun x => decide (¬ x = 0)) 47 30 (zz_ev tX8_isBetter) L st M) ∧
  (∀ L st M, zz_ev tX8_isBetter 30 L st M = zo_aload 0 31 (zz_ev tX8_isBetter) L st M) ∧
  (∀ L st M, zz_ev tX8_isBetter 31 L st M = zo_iload 1 32 (zz_ev tX8_isBetter) L st M) ∧
  (∀ (L : zzLc) (a0 : Int32) (r : List Value) (M : zzMd), zz_ev tX8_isBetter 32 L (.int a0 :: .ref 6 :: r) M = bif zz_cat8 r then zz_backN (zz_ev tX8_isBetter) 35 L r (fX8_roomLeft [.ref 6, .int a0] M) else none) ∧
  (∀ L st M, zz_ev tX8_isBetter 35 L st M = zo_aload 0 36 (zz_ev tX8_isBetter) L st M) ∧
  (∀ L st M, zz_ev tX8_isBetter 36 L st M = zo_iload 2 37 (zz_ev tX8_isBetter) L st M) ∧
  (∀ (L : zzLc) (a0 : Int32) (r : List Value) (M : zzMd), zz_ev tX8_isBetter 37 L (.int a0 :: .ref 6 :: r) M = bif zz_cat8 r then zz_backN (zz_ev tX8_isBetter) 40 L r (fX8_roomLeft [.ref 6, .int a0] M) else none) ∧
  (∀ L st M, zz_ev tX8_isBetter 40 L st M = zo_icmp (fun x y => decide (x ≤ y)) 47 43 (zz_ev tX8_isBetter) L st M) ∧
  (∀ L st M, zz_ev tX8_isBetter 43 L st M = zo_pushI 1 44 (zz_ev tX8_isBetter) L st M) ∧
  (∀ L st M, zz_ev tX8_isBetter 44 L st M = zo_goto 48 (zz_ev tX8_isBetter) L st M) ∧
  (∀ L st M, zz_ev tX8_isBetter 47 L st M = zo_pushI 0 48 (zz_ev tX8_isBetter) L st M) ∧
  (∀ L st M, zz_ev tX8_isBetter 48 L st M = zo_iret true (zz_ev tX8_isBetter) L st M) :=
  ⟨zz_1 rfl tl_X8_isBetter, fun L r M => (zz_1 rfl tl_X8_isBetter _ _ _).trans rfl, zz_1 rfl tl_X8_isBetter, zz_1 rfl tl_X8_isBetter, fun L a0 r M => (zz_1 rfl tl_X8_isBetter _ _ _).trans rfl, zz_1 rfl tl_X8_isBetter, zz_1 rfl tl_X8_isBetter, fun L r M => (zz_1 rfl tl_X8_isBetter _ _ _).trans rfl, zz_1 rfl tl_X8_isBetter, zz_1 rfl tl_X8_isBetter, fun L a0 r M => (zz_1 rfl tl_X8_isBetter _ _ _).trans rfl, zz_1 rfl tl_X8_isBetter, zz_1 rfl tl_X8_isBetter, zz_1 rfl tl_X8_isBetter, zz_1 rfl tl_X8_isBetter, zz_1 rfl tl_X8_isBetter, zz_1 rfl tl_X8_isBetter, zz_1 rfl tl_X8_isBetter, zz_1 rfl tl_X8_isBetter, zz_1 rfl tl_X8_isBetter, fun L a0 r M => (zz_1 rfl tl_X8_isBetter _ _ _).trans rfl, zz_1 rfl tl_X8_isBetter, zz_1 rfl tl_X8_isBetter, fun L a0 r M => (zz_1 rfl tl_X8_isBetter _ _ _).trans rfl, zz_1 rfl tl_X8_isBetter, zz_1 rfl tl_X8_isBetter, zz_1 rfl tl_X8_isBetter, zz_1 rfl tl_X8_isBetter, zz_1 rfl tl_X8_isBetter⟩
set_option maxRecDepth 100000 in
theorem s_X8_isBetter (a0 a1 : Int32) (v : Nat) (M : zzMd) : fX8_isBetter [.ref v, .int a0, .int a1] M = zz_ev tX8_isBetter 0 [some (.ref v), some (.int a0), some (.int a1), none] [] M := rfl
set_option maxRecDepth 100000 in
theorem e_X8_bestNode : (∀ L st M, zz_ev tX8_bestNode 0 L st M = zo_pushI (-1) 1 (zz_ev tX8_bestNode) L st M) ∧
  (∀ L st M, zz_ev tX8_bestNode 1 L st M = zo_istore 2 2 (zz_ev tX8_bestNode) L st M) ∧
  (∀ L st M, zz_ev tX8_bestNode 2 L st M = zo_pushI 0 3 (zz_ev tX8_bestNode) L st M) ∧
  (∀ L st M, zz_ev tX8_bestNode 3 L st M = zo_istore 3 4 (zz_ev tX8_bestNode) L st M) ∧
  (∀ L st M, zz_ev tX8_bestNode 5 L st M = zo_aload 0 6 (zz_ev tX8_bestNode) L st M) ∧
  (∀ (L : zzLc) (r : List Value) (M : zzMd), zz_ev tX8_bestNode 6 L (.ref 6 :: r) M = zz_ev tX8_bestNode 9 L (.int (M.1 6 2) :: r) M) ∧
  (∀ L st M, zz_ev tX8_bestNode 9 L st M = zo_icmp (fun x y => decide (y ≤ x)) 51 12 (zz_ev tX8_bestNode) L st M) ∧
  (∀ L st M, zz_ev tX8_bestNode 12 L st M = zo_aload 0 13 (zz_ev tX8_bestNode) L st M) ∧
  (∀ L st M, zz_ev tX8_bestNode 13 L st M = zo_iload 3 14 (zz_ev tX8_bestNode) L st M) ∧
  (∀ (L : zzLc) (a0 : Int32) (r : List Value) (M : zzMd), zz_ev tX8_bestNode 14 L (.int a0 :: .ref 6 :: r) M = bif zz_cat8 r then zz_backN (zz_ev tX8_bestNode) 17 L r (fX8_isOpen [.ref 6, .int a0] M) else none) ∧
  (∀ L st M, zz_ev tX8_bestNode 17 L st M = zo_if (fun x => decide (x = 0)) 45 20 (zz_ev tX8_bestNode) L st M) ∧
  (∀ L st M, zz_ev tX8_bestNode 20 L st M = zo_aload 0 21 (zz_ev tX8_bestNode) L st M) ∧
  (∀ L st M, zz_ev tX8_bestNode 21 L st M = zo_iload 3 22 (zz_ev tX8_bestNode) L st M) ∧
  (∀ (L : zzLc) (a0 : Int32) (r : List Value) (M : zzMd), zz_ev tX8_bestNode 22 L (.int a0 :: .ref 6 :: r) M = bif zz_cat8 r then zz_backN (zz_ev tX8_bestNode) 25 L r (fX8_roomLeft [.ref 6, .int a0] M) else none) ∧
  (∀ L st M, zz_ev tX8_bestNode 25 L st M = zo_iload 1 26 (zz_ev tX8_bestNode) L st M) ∧
  (∀ L st M, zz_ev tX8_bestNode 26 L st M = zo_icmp (fun x y => decide (x < y)) 45 29 (zz_ev tX8_bestNode) L st M) ∧
  (∀ L st M, zz_ev tX8_bestNode 29 L st M = zo_iload 2 30 (zz_ev tX8_bestNode) L st M) ∧
  (∀ L st M, zz_ev tX8_bestNode 30 L st M = zo_pushI (-1) 31 (zz_ev tX8_bestNode) L st M) ∧
  (∀ L st M, zz_ev tX8_bestNode 31 L st M = zo_icmp (fun x y => decide (x = y)) 43 34 (zz_ev tX8_bestNode) L st M) ∧
  (∀ L st M, zz_ev tX8_bestNode 34 L st M = zo_aload 0 35 (zz_ev tX8_bestNode) L st M) ∧
  (∀ L st M, zz_ev tX8_bestNode 35 L st M = zo_iload 3 36 (zz_ev tX8_bestNode) L st M) ∧
  (∀ L st M, zz_ev tX8_bestNode 36 L st M = zo_iload 2 37 (zz_ev tX8_bestNode) L st M) ∧
  (∀ (L : zzLc) (a0 a1 : Int32) (r : List Value) (M : zzMd), zz_ev tX8_bestNode 37 L (.int a1 :: .int a0 :: .ref 6 :: r) M = bif zz_cat8 r then zz_backN (zz_ev tX8_bestNode) 40 L r (fX8_isBetter [.ref 6, .int a0, .int a1] M) else none) ∧
  (∀ L st M, zz_ev tX8_bestNode 40 L st M = zo_if (fun x => decide (x = 0)) 45 43 (zz_ev tX8_bestNode) L st M) ∧
  (∀ L st M, zz_ev tX8_bestNode 43 L st M = zo_iload 3 44 (zz_ev tX8_bestNode) L st M) ∧
  (∀ L st M, zz_ev tX8_bestNode 44 L st M = zo_istore 2 45 (zz_ev tX8_bestNode) L st M) ∧
  (∀ L st M, zz_ev tX8_bestNode 45 L st M = zo_iinc 3 1 48 (zz_ev tX8_bestNode) L st M) ∧
  (∀ L st M, zz_ev tX8_bestNode 48 L st M = zo_goto 4 (zz_ev tX8_bestNode) L st M) ∧
  (∀ L st M, zz_ev tX8_bestNode 51 L st M = zo_iload 2 52 (zz_ev tX8_bestNode) L st M) ∧
  (∀ L st M, zz_ev tX8_bestNode 52 L st M = zo_iret false (zz_ev tX8_bestNode) L st M) :=
  ⟨zz_1 rfl tl_X8_bestNode, zz_1 rfl tl_X8_bestNode, zz_1 rfl tl_X8_bestNode, zz_1 rfl tl_X8_bestNode, zz_1 rfl tl_X8_bestNode, fun L r M => (zz_1 rfl tl_X8_bestNode _ _ _).trans rfl, zz_1 rfl tl_X8_bestNode, zz_1 rfl tl_X8_bestNode, zz_1 rfl tl_X8_bestNode, fun L a0 r M => (zz_1 rfl tl_X8_bestNode _ _ _).trans rfl, zz_1 rfl tl_X8_bestNode, zz_1 rfl tl_X8_bestNode, zz_1 rfl tl_X8_bestNode, fun L a0 r M => (zz_1 rfl tl_X8_bestNode _ _ _).trans rfl, zz_1 rfl tl_X8_bestNode, zz_1 rfl tl_X8_bestNode, zz_1 rfl tl_X8_bestNode, zz_1 rfl tl_X8_bestNode, zz_1 rfl tl_X8_bestNode, zz_1 rfl tl_X8_bestNode, zz_1 rfl tl_X8_bestNode, zz_1 rfl tl_X8_bestNode, fun L a0 a1 r M => (zz_1 rfl tl_X8_bestNode _ _ _).trans rfl, zz_1 rfl tl_X8_bestNode, zz_1 rfl tl_X8_bestNode, zz_1 rfl tl_X8_bestNode, zz_1 rfl tl_X8_bestNode, zz_1 rfl tl_X8_bestNode, zz_1 rfl tl_X8_bestNode, zz_1 rfl tl_X8_bestNode⟩
set_option maxRecDepth 100000 in
theorem e_X8_bestNode_4 : (∀ L st M, zz_ev tX8_bestNode 4 L st M = zo_iload 3 5 (zz_ev tX8_bestNode) L st M) := zz_1 rfl tl_X8_bestNode
set_option maxRecDepth 100000 in
theorem s_X8_bestNode (a0 : Int32) (v : Nat) (M : zzMd) : fX8_bestNode [.ref v, .int a0] M = zz_ev tX8_bestNode 0 [some (.ref v), some (.int a0), none, none] [] M := rfl
set_option maxRecDepth 100000 in
theorem e_X8_rankOf : (∀ L st M, zz_ev tX8_rankOf 0 L st M = zo_aload 0 1 (zz_ev tX8_rankOf) L st M) ∧
  (∀ L st M, zz_ev tX8_rankOf 1 L st M = zo_iload 1 2 (zz_ev tX8_rankOf) L st M) ∧
  (∀ L st M, zz_ev tX8_rankOf 2 L st M = zo_pushI 1 3 (zz_ev tX8_rankOf) L st M) ∧
  (∀ (L : zzLc) (a0 a1 : Int32) (r : List Value) (M : zzMd), zz_ev tX8_rankOf 3 L (.int a1 :: .int a0 :: .ref 6 :: r) M = bif zz_cat8 r then zz_backN (zz_ev tX8_rankOf) 6 L r (fX10_read [.ref 6, .int a0, .int a1] M) else none) ∧
  (∀ L st M, zz_ev tX8_rankOf 6 L st M = zo_pushI 4 7 (zz_ev tX8_rankOf) L st M) ∧
  (∀ L st M, zz_ev tX8_rankOf 7 L st M = zo_iid (fun x y => x / y) 8 (zz_ev tX8_rankOf) L st M) ∧
  (∀ L st M, zz_ev tX8_rankOf 8 L st M = zo_iret false (zz_ev tX8_rankOf) L st M) :=
  ⟨zz_1 rfl tl_X8_rankOf, zz_1 rfl tl_X8_rankOf, zz_1 rfl tl_X8_rankOf, fun L a0 a1 r M => (zz_1 rfl tl_X8_rankOf _ _ _).trans rfl, zz_1 rfl tl_X8_rankOf, zz_1 rfl tl_X8_rankOf, zz_1 rfl tl_X8_rankOf⟩
set_option maxRecDepth 100000 in
theorem s_X8_rankOf (a0 : Int32) (v : Nat) (M : zzMd) : fX8_rankOf [.ref v, .int a0] M = zz_ev tX8_rankOf 0 [some (.ref v), some (.int a0)] [] M := rfl
set_option maxRecDepth 100000 in
theorem e_X8_isVictim : (∀ L st M, zz_ev tX8_isVictim 0 L st M = zo_aload 0 1 (zz_ev tX8_isVictim) L st M) ∧
  (∀ L st M, zz_ev tX8_isVictim 1 L st M = zo_iload 1 2 (zz_ev tX8_isVictim) L st M) ∧
  (∀ L st M, zz_ev tX8_isVictim 2 L st M = zo_pushI 29 4 (zz_ev tX8_isVictim) L st M) ∧
  (∀ (L : zzLc) (a0 a1 : Int32) (r : List Value) (M : zzMd), zz_ev tX8_isVictim 4 L (.int a1 :: .int a0 :: .ref 6 :: r) M = bif zz_cat8 r then zz_backN (zz_ev tX8_isVictim) 7 L r (fX10_read [.ref 6, .int a0, .int a1] M) else none) ∧
  (∀ L st M, zz_ev tX8_isVictim 7 L st M = zo_istore 3 8 (zz_ev tX8_isVictim) L st M) ∧
  (∀ L st M, zz_ev tX8_isVictim 8 L st M = zo_aload 0 9 (zz_ev tX8_isVictim) L st M) ∧
  (∀ L st M, zz_ev tX8_isVictim 9 L st M = zo_iload 1 10 (zz_ev tX8_isVictim) L st M) ∧
  (∀ L st M, zz_ev tX8_isVictim 10 L st M = zo_pushI 28 12 (zz_ev tX8_isVictim) L st M) ∧
  (∀ (L : zzLc) (a0 a1 : Int32) (r : List Value) (M : zzMd), zz_ev tX8_isVictim 12 L (.int a1 :: .int a0 :: .ref 6 :: r) M = bif zz_cat8 r then zz_backN (zz_ev tX8_isVictim) 15 L r (fX10_read [.ref 6, .int a0, .int a1] M) else none) ∧
  (∀ L st M, zz_ev tX8_isVictim 15 L st M = zo_iload 2 16 (zz_ev tX8_isVictim) L st M) ∧
  (∀ L st M, zz_ev tX8_isVictim 16 L st M = zo_icmp (fun x y => decide (¬ x = y)) 41 19 (zz_ev tX8_isVictim) L st M) ∧
  (∀ L st M, zz_ev tX8_isVictim 19 L st M = zo_aload 0 20 (zz_ev tX8_isVictim) L st M) ∧
  (∀ L st M, zz_ev tX8_isVictim 20 L st M = zo_iload 1 21 (zz_ev tX8_isVictim) L st M) ∧
  (∀ L st M, zz_ev tX8_isVictim 21 L st M = zo_pushI 2 22 (zz_ev tX8_isVictim) L st M) ∧
  (∀ (L : zzLc) (a0 a1 : Int32) (r : List Value) (M : zzMd), zz_ev tX8_isVictim 22 L (.int a1 :: .int a0 :: .ref 6 :: r) M = bif zz_cat8 r then zz_backN (zz_ev tX8_isVictim) 25 L r (fX10_isStaying [.ref 6, .int a0, .int a1] M) else none) ∧
  (∀ L st M, zz_ev tX8_isVictim 25 L st M = zo_if (fun x => decide (x = 0)) 41 28 (zz_ev tX8_isVictim) L st M) ∧
  (∀ L st M, zz_ev tX8_isVictim 28 L st M = zo_iload 3 29 (zz_ev tX8_isVictim) L st M) ∧
  (∀ L st M, zz_ev tX8_isVictim 29 L st M = zo_if (fun x => decide (x = 0)) 37 32 (zz_ev tX8_isVictim) L st M) ∧
  (∀ L st M, zz_ev tX8_isVictim 32 L st M = zo_iload 3 33 (zz_ev tX8_isVictim) L st M) ∧
  (∀ L st M, zz_ev tX8_isVictim 33 L st M = zo_pushI 1 34 (zz_ev tX8_isVictim) L st M) ∧
  (∀ L st M, zz_ev tX8_isVictim 34 L st M = zo_icmp (fun x y => decide (¬ x = y)) 41 37 (zz_ev tX8_isVictim) L st M) ∧
  (∀ L st M, zz_ev tX8_isVictim 37 L st M = zo_pushI 1 38 (zz_ev tX8_isVictim) L st M) ∧
  (∀ L st M, zz_ev tX8_isVictim 38 L st M = zo_goto 42 (zz_ev tX8_isVictim) L st M) ∧
  (∀ L st M, zz_ev tX8_isVictim 41 L st M = zo_pushI 0 42 (zz_ev tX8_isVictim) L st M) ∧
  (∀ L st M, zz_ev tX8_isVictim 42 L st M = zo_iret true (zz_ev tX8_isVictim) L st M) :=
  ⟨zz_1 rfl tl_X8_isVictim, zz_1 rfl tl_X8_isVictim, zz_1 rfl tl_X8_isVictim, fun L a0 a1 r M => (zz_1 rfl tl_X8_isVictim _ _ _).trans rfl, zz_1 rfl tl_X8_isVictim, zz_1 rfl tl_X8_isVictim, zz_1 rfl tl_X8_isVictim, zz_1 rfl tl_X8_isVictim, fun L a0 a1 r M => (zz_1 rfl tl_X8_isVictim _ _ _).trans rfl, zz_1 rfl tl_X8_isVictim, zz_1 rfl tl_X8_isVictim, zz_1 rfl tl_X8_isVictim, zz_1 rfl tl_X8_isVictim, zz_1 rfl tl_X8_isVictim, fun L a0 a1 r M => (zz_1 rfl tl_X8_isVictim _ _ _).trans rfl, zz_1 rfl tl_X8_isVictim, zz_1 rfl tl_X8_isVictim, zz_1 rfl tl_X8_isVictim, zz_1 rfl tl_X8_isVictim, zz_1 rfl tl_X8_isVictim, zz_1 rfl tl_X8_isVictim, zz_1 rfl tl_X8_isVictim, zz_1 rfl tl_X8_isVictim, zz_1 rfl tl_X8_isVictim, zz_1 rfl tl_X8_isVictim⟩
set_option maxRecDepth 100000 in
theorem s_X8_isVictim (a0 a1 : Int32) (v : Nat) (M : zzMd) : fX8_isVictim [.ref v, .int a0, .int a1] M = zz_ev tX8_isVictim 0 [some (.ref v), some (.int a0), some (.int a1), none] [] M := rfl
set_option maxRecDepth 100000 in
theorem e_X8_chooseVictims : (∀ L st M, zz_ev tX8_chooseVictims 0 L st M = zo_aload 0 1 (zz_ev tX8_chooseVictims) L st M) ∧
  (∀ L st M, zz_ev tX8_chooseVictims 1 L st M = zo_iload 1 2 (zz_ev tX8_chooseVictims) L st M) ∧
  (∀ (L : zzLc) (a0 : Int32) (r : List Value) (M : zzMd), zz_ev tX8_chooseVictims 2 L (.int a0 :: .ref 6 :: r) M = bif zz_cat8 r then zz_backN (zz_ev tX8_chooseVictims) 5 L r (fX10_needOf [.ref 6, .int a0] M) else none) ∧
  (∀ L st M, zz_ev tX8_chooseVictims 5 L st M = zo_aload 0 6 (zz_ev tX8_chooseVictims) L st M) ∧
  (∀ L st M, zz_ev tX8_chooseVictims 6 L st M = zo_iload 2 7 (zz_ev tX8_chooseVictims) L st M) ∧
  (∀ (L : zzLc) (a0 : Int32) (r : List Value) (M : zzMd), zz_ev tX8_chooseVictims 7 L (.int a0 :: .ref 6 :: r) M = bif zz_cat8 r then zz_backN (zz_ev tX8_chooseVictims) 10 L r (fX8_roomLeft [.ref 6, .int a0] M) else none) ∧
  (∀ L st M, zz_ev tX8_chooseVictims 10 L st M = zo_ii (fun x y => x - y) 11 (zz_ev tX8_chooseVictims) L st M) ∧
  (∀ L st M, zz_ev tX8_chooseVictims 11 L st M = zo_istore 3 12 (zz_ev tX8_chooseVictims) L st M) ∧
  (∀ L st M, zz_ev tX8_chooseVictims 12 L st M = zo_pushI 0 13 (zz_ev tX8_chooseVictims) L st M) ∧
  (∀ L st M, zz_ev tX8_chooseVictims 13 L st M = zo_istore 4 15 (zz_ev tX8_chooseVictims) L st M) ∧
  (∀ L st M, zz_ev tX8_chooseVictims 15 L st M = zo_pushI 0 16 (zz_ev tX8_chooseVictims) L st M) ∧
  (∀ L st M, zz_ev tX8_chooseVictims 16 L st M = zo_istore 5 18 (zz_ev tX8_chooseVictims) L st M) ∧
  (∀ L st M, zz_ev tX8_chooseVictims 20 L st M = zo_aload 0 21 (zz_ev tX8_chooseVictims) L st M) ∧
  (∀ L st M, zz_ev tX8_chooseVictims 21 L st M = zo_iload 1 22 (zz_ev tX8_chooseVictims) L st M) ∧
  (∀ (L : zzLc) (a0 : Int32) (r : List Value) (M : zzMd), zz_ev tX8_chooseVictims 22 L (.int a0 :: .ref 6 :: r) M = bif zz_cat8 r then zz_backN (zz_ev tX8_chooseVictims) 25 L r (fX8_rankOf [.ref 6, .int a0] M) else none) ∧
  (∀ L st M, zz_ev tX8_chooseVictims 25 L st M = zo_icmp (fun x y => decide (y ≤ x)) 99 28 (zz_ev tX8_chooseVictims) L st M) ∧
  (∀ L st M, zz_ev tX8_chooseVictims 28 L st M = zo_aload 0 29 (zz_ev tX8_chooseVictims) L st M) ∧
  (∀ (L : zzLc) (r : List Value) (M : zzMd), zz_ev tX8_chooseVictims 29 L (.ref 6 :: r) M = zz_ev tX8_chooseVictims 32 L (.int (M.1 6 2) :: r) M) ∧
  (∀ L st M, zz_ev tX8_chooseVictims 32 L st M = zo_pushI 1 33 (zz_ev tX8_chooseVictims) L st M) ∧
  (∀ L st M, zz_ev tX8_chooseVictims 33 L st M = zo_ii (fun x y => x - y) 34 (zz_ev tX8_chooseVictims) L st M) ∧
  (∀ L st M, zz_ev tX8_chooseVictims 34 L st M = zo_istore 6 36 (zz_ev tX8_chooseVictims) L st M) ∧
  (∀ L st M, zz_ev tX8_chooseVictims 38 L st M = zo_if (fun x => decide (x < 0)) 93 41 (zz_ev tX8_chooseVictims) L st M) ∧
  (∀ L st M, zz_ev tX8_chooseVictims 41 L st M = zo_iload 3 42 (zz_ev tX8_chooseVictims) L st M) ∧
  (∀ L st M, zz_ev tX8_chooseVictims 42 L st M = zo_if (fun x => decide (x ≤ 0)) 93 45 (zz_ev tX8_chooseVictims) L st M) ∧
  (∀ L st M, zz_ev tX8_chooseVictims 45 L st M = zo_aload 0 46 (zz_ev tX8_chooseVictims) L st M) ∧
  (∀ L st M, zz_ev tX8_chooseVictims 46 L st M = zo_iload 6 48 (zz_ev tX8_chooseVictims) L st M) ∧
  (∀ L st M, zz_ev tX8_chooseVictims 48 L st M = zo_iload 2 49 (zz_ev tX8_chooseVictims) L st M) ∧
  (∀ (L : zzLc) (a0 a1 : Int32) (r : List Value) (M : zzMd), zz_ev tX8_chooseVictims 49 L (.int a1 :: .int a0 :: .ref 6 :: r) M = bif zz_cat8 r then zz_backN (zz_ev tX8_chooseVictims) 52 L r (fX8_isVictim [.ref 6, .int a0, .int a1] M) else none) ∧
  (∀ L st M, zz_ev tX8_chooseVictims 52 L st M = zo_if (fun x => decide (x = 0)) 87 55 (zz_ev tX8_chooseVictims) L st M) ∧
  (∀ L st M, zz_ev tX8_chooseVictims 55 L st M = zo_aload 0 56 (zz_ev tX8_chooseVictims) L st M) ∧
  (∀ L st M, zz_ev tX8_chooseVictims 56 L st M = zo_iload 6 58 (zz_ev tX8_chooseVictims) L st M) ∧
  (∀ (L : zzLc) (a0 : Int32) (r : List Value) (M : zzMd), zz_ev tX8_chooseVictims 58 L (.int a0 :: .ref 6 :: r) M = bif zz_cat8 r then zz_backN (zz_ev tX8_chooseVictims) 61 L r (fX8_rankOf [.ref 6, .int a0] M) else none) ∧
  (∀ L st M, zz_ev tX8_chooseVictims 61 L st M = zo_iload 5 63 (zz_ev tX8_chooseVictims) L st M) ∧
  (∀ L st M, zz_ev tX8_chooseVictims 63 L st M = zo_icmp (fun x y => decide (¬ x = y)) 87 66 (zz_ev tX8_chooseVictims) L st M) ∧
  (∀ L st M, zz_ev tX8_chooseVictims 66 L st M = zo_aload 0 67 (zz_ev tX8_chooseVictims) L st M) ∧
  (∀ (L : zzLc) (r : List Value) (M : zzMd), zz_ev tX8_chooseVictims 67 L (.ref 6 :: r) M = zz_ev tX8_chooseVictims 70 L (.ref 71 :: r) M) ∧
  (∀ L st M, zz_ev tX8_chooseVictims 70 L st M = zo_iload 4 72 (zz_ev tX8_chooseVictims) L st M) ∧
  (∀ L st M, zz_ev tX8_chooseVictims 72 L st M = zo_iload 6 74 (zz_ev tX8_chooseVictims) L st M) ∧
  (∀ L st M, zz_ev tX8_chooseVictims 74 L st M = zo_iast zzSC 75 (zz_ev tX8_chooseVictims) L st M) ∧
  (∀ L st M, zz_ev tX8_chooseVictims 75 L st M = zo_iinc 4 1 78 (zz_ev tX8_chooseVictims) L st M) ∧
  (∀ L st M, zz_ev tX8_chooseVictims 78 L st M = zo_iload 3 79 (zz_ev tX8_chooseVictims) L st M) ∧
  (∀ L st M, zz_ev tX8_chooseVictims 79 L st M = zo_aload 0 80 (zz_ev tX8_chooseVictims) L st M) ∧
  (∀ L st M, zz_ev tX8_chooseVictims 80 L st M = zo_iload 6 82 (zz_ev tX8_chooseVictims) L st M) ∧
  (∀ (L : zzLc) (a0 : Int32) (r : List Value) (M : zzMd), zz_ev tX8_chooseVictims 82 L (.int a0 :: .ref 6 :: r) M = bif zz_cat8 r then zz_backN (zz_ev tX8_chooseVictims) 85 L r (fX10_needOf [.ref 6, .int a0] M) else none) ∧
  (∀ L st M, zz_ev tX8_chooseVictims 85 L st M = zo_ii (fun x y => x - y) 86 (zz_ev tX8_chooseVictims) L st M) ∧
  (∀ L st M, zz_ev tX8_chooseVictims 86 L st M = zo_istore 3 87 (zz_ev tX8_chooseVictims) L st M) ∧
  (∀ L st M, zz_ev tX8_chooseVictims 87 L st M = zo_iinc 6 (-1) 90 (zz_ev tX8_chooseVictims) L st M) ∧
  (∀ L st M, zz_ev tX8_chooseVictims 90 L st M = zo_goto 36 (zz_ev tX8_chooseVictims) L st M) ∧
  (∀ L st M, zz_ev tX8_chooseVictims 93 L st M = zo_iinc 5 1 96 (zz_ev tX8_chooseVictims) L st M) ∧
  (∀ L st M, zz_ev tX8_chooseVictims 96 L st M = zo_goto 18 (zz_ev tX8_chooseVictims) L st M) ∧
  (∀ L st M, zz_ev tX8_chooseVictims 99 L st M = zo_iload 3 100 (zz_ev tX8_chooseVictims) L st M) ∧
  (∀ L st M, zz_ev tX8_chooseVictims 100 L st M = zo_if (fun x => decide (x ≤ 0)) 107 103 (zz_ev tX8_chooseVictims) L st M) ∧
  (∀ L st M, zz_ev tX8_chooseVictims 103 L st M = zo_pushI (-1) 104 (zz_ev tX8_chooseVictims) L st M) ∧
  (∀ L st M, zz_ev tX8_chooseVictims 104 L st M = zo_goto 109 (zz_ev tX8_chooseVictims) L st M) ∧
  (∀ L st M, zz_ev tX8_chooseVictims 107 L st M = zo_iload 4 109 (zz_ev tX8_chooseVictims) L st M) ∧
  (∀ L st M, zz_ev tX8_chooseVictims 109 L st M = zo_iret false (zz_ev tX8_chooseVictims) L st M) :=
  ⟨zz_1 rfl tl_X8_chooseVictims, zz_1 rfl tl_X8_chooseVictims, fun L a0 r M => (zz_1 rfl tl_X8_chooseVictims _ _ _).trans rfl, zz_1 rfl tl_X8_chooseVictims, zz_1 rfl tl_X8_chooseVictims, fun L a0 r M => (zz_1 rfl tl_X8_chooseVictims _ _ _).trans rfl, zz_1 rfl tl_X8_chooseVictims, zz_1 rfl tl_X8_chooseVictims, zz_1 rfl tl_X8_chooseVictims, zz_1 rfl tl_X8_chooseVictims, zz_1 rfl tl_X8_chooseVictims, zz_1 rfl tl_X8_chooseVictims, zz_1 rfl tl_X8_chooseVictims, zz_1 rfl tl_X8_chooseVictims, fun L a0 r M => (zz_1 rfl tl_X8_chooseVictims _ _ _).trans rfl, zz_1 rfl tl_X8_chooseVictims, zz_1 rfl tl_X8_chooseVictims, fun L r M => (zz_1 rfl tl_X8_chooseVictims _ _ _).trans rfl, zz_1 rfl tl_X8_chooseVictims, zz_1 rfl tl_X8_chooseVictims, zz_1 rfl tl_X8_chooseVictims, zz_1 rfl tl_X8_chooseVictims, zz_1 rfl tl_X8_chooseVictims, zz_1 rfl tl_X8_chooseVictims, zz_1 rfl tl_X8_chooseVictims, zz_1 rfl tl_X8_chooseVictims, zz_1 rfl tl_X8_chooseVictims, fun L a0 a1 r M => (zz_1 rfl tl_X8_chooseVictims _ _ _).trans rfl, zz_1 rfl tl_X8_chooseVictims, zz_1 rfl tl_X8_chooseVictims, zz_1 rfl tl_X8_chooseVictims, fun L a0 r M => (zz_1 rfl tl_X8_chooseVictims _ _ _).trans rfl, zz_1 rfl tl_X8_chooseVictims, zz_1 rfl tl_X8_chooseVictims, zz_1 rfl tl_X8_chooseVictims, fun L r M => (zz_1 rfl tl_X8_chooseVictims _ _ _).trans rfl, zz_1 rfl tl_X8_chooseVictims, zz_1 rfl tl_X8_chooseVictims, zz_1 rfl tl_X8_chooseVictims, zz_1 rfl tl_X8_chooseVictims, zz_1 rfl tl_X8_chooseVictims, zz_1 rfl tl_X8_chooseVictims, zz_1 rfl tl_X8_chooseVictims, fun L a0 r M => (zz_1 rfl tl_X8_chooseVictims _ _ _).trans rfl, zz_1 rfl tl_X8_chooseVictims, zz_1 rfl tl_X8_chooseVictims, zz_1 rfl tl_X8_chooseVictims, zz_1 rfl tl_X8_chooseVictims, zz_1 rfl tl_X8_chooseVictims, zz_1 rfl tl_X8_chooseVictims, zz_1 rfl tl_X8_chooseVictims, zz_1 rfl tl_X8_chooseVictims, zz_1 rfl tl_X8_chooseVictims, zz_1 rfl tl_X8_chooseVictims, zz_1 rfl tl_X8_chooseVictims, zz_1 rfl tl_X8_chooseVictims⟩
set_option maxRecDepth 100000 in
theorem e_X8_chooseVictims_18 : (∀ L st M, zz_ev tX8_chooseVictims 18 L st M = zo_iload 5 20 (zz_ev tX8_chooseVictims) L st M) := zz_1 rfl tl_X8_chooseVictims
set_option maxRecDepth 100000 in
theorem e_X8_chooseVictims_36 : (∀ L st M, zz_ev tX8_chooseVictims 36 L st M = zo_iload 6 38 (zz_ev tX8_chooseVictims) L st M) := zz_1 rfl tl_X8_chooseVictims
set_option maxRecDepth 100000 in
theorem s_X8_chooseVictims (a0 a1 : Int32) (v : Nat) (M : zzMd) : fX8_chooseVictims [.ref v, .int a0, .int a1] M = zz_ev tX8_chooseVictims 0 [some (.ref v), some (.int a0), some (.int a1), none, none, none, none] [] M := rfl
set_option maxRecDepth 100000 in
theorem e_X8_preempt : (∀ L st M, zz_ev tX8_preempt 0 L st M = zo_pushI (-1) 1 (zz_ev tX8_preempt) L st M) ∧
  (∀ L st M, zz_ev tX8_preempt 1 L st M = zo_istore 2 2 (zz_ev tX8_preempt) L st M) ∧
  (∀ L st M, zz_ev tX8_preempt 2 L st M = zo_pushI 61 4 (zz_ev tX8_preempt) L st M) ∧
  (∀ L st M, zz_ev tX8_preempt 4 L st M = zo_istore 3 5 (zz_ev tX8_preempt) L st M) ∧
  (∀ L st M, zz_ev tX8_preempt 5 L st M = zo_pushI 0 6 (zz_ev tX8_preempt) L st M) ∧
  (∀ L st M, zz_ev tX8_preempt 6 L st M = zo_istore 4 8 (zz_ev tX8_preempt) L st M) ∧
  (∀ L st M, zz_ev tX8_preempt 10 L st M = zo_aload 0 11 (zz_ev tX8_preempt) L st M) ∧
  (∀ (L : zzLc) (r : List Value) (M : zzMd), zz_ev tX8_preempt 11 L (.ref 6 :: r) M = zz_ev tX8_preempt 14 L (.int (M.1 6 2) :: r) M) ∧
  (∀ L st M, zz_ev tX8_preempt 14 L st M = zo_icmp (fun x y => decide (y ≤ x)) 63 17 (zz_ev tX8_preempt) L st M) ∧
  (∀ L st M, zz_ev tX8_preempt 17 L st M = zo_aload 0 18 (zz_ev tX8_preempt) L st M) ∧
  (∀ L st M, zz_ev tX8_preempt 18 L st M = zo_iload 4 20 (zz_ev tX8_preempt) L st M) ∧
  (∀ (L : zzLc) (a0 : Int32) (r : List Value) (M : zzMd), zz_ev tX8_preempt 20 L (.int a0 :: .ref 6 :: r) M = bif zz_cat8 r then zz_backN (zz_ev tX8_preempt) 23 L r (fX8_isOpen [.ref 6, .int a0] M) else none) ∧
  (∀ L st M, zz_ev tX8_preempt 23 L st M = zo_if (fun x => decide (x = 0)) 36 26 (zz_ev tX8_preempt) L st M) ∧
  (∀ L st M, zz_ev tX8_preempt 26 L st M = zo_aload 0 27 (zz_ev tX8_preempt) L st M) ∧
  (∀ L st M, zz_ev tX8_preempt 27 L st M = zo_iload 1 28 (zz_ev tX8_preempt) L st M) ∧
  (∀ L st M, zz_ev tX8_preempt 28 L st M = zo_iload 4 30 (zz_ev tX8_preempt) L st M) ∧
  (∀ (L : zzLc) (a0 a1 : Int32) (r : List Value) (M : zzMd), zz_ev tX8_preempt 30 L (.int a1 :: .int a0 :: .ref 6 :: r) M = bif zz_cat8 r then zz_backN (zz_ev tX8_preempt) 33 L r (fX8_chooseVictims [.ref 6, .int a0, .int a1] M) else none) ∧
  (∀ L st M, zz_ev tX8_preempt 33 L st M = zo_goto 37 (zz_ev tX8_preempt) L st M) ∧
  (∀ L st M, zz_ev tX8_preempt 36 L st M = zo_pushI (-1) 37 (zz_ev tX8_preempt) L st M) ∧
  (∀ L st M, zz_ev tX8_preempt 37 L st M = zo_istore 5 39 (zz_ev tX8_preempt) L st M) ∧
  (∀ L st M, zz_ev tX8_preempt 39 L st M = zo_iload 5 41 (zz_ev tX8_preempt) L st M) ∧
  (∀ L st M, zz_ev tX8_preempt 41 L st M = zo_pushI (-1) 42 (zz_ev tX8_preempt) L st M) ∧
  (∀ L st M, zz_ev tX8_preempt 42 L st M = zo_icmp (fun x y => decide (x = y)) 57 45 (zz_ev tX8_preempt) L st M) ∧
  (∀ L st M, zz_ev tX8_preempt 45 L st M = zo_iload 5 47 (zz_ev tX8_preempt) L st M) ∧
  (∀ L st M, zz_ev tX8_preempt 47 L st M = zo_iload 3 48 (zz_ev tX8_preempt) L st M) ∧
  (∀ L st M, zz_ev tX8_preempt 48 L st M = zo_icmp (fun x y => decide (y ≤ x)) 57 51 (zz_ev tX8_preempt) L st M) ∧
  (∀ L st M, zz_ev tX8_preempt 51 L st M = zo_iload 4 53 (zz_ev tX8_preempt) L st M) ∧
  (∀ L st M, zz_ev tX8_preempt 53 L st M = zo_istore 2 54 (zz_ev tX8_preempt) L st M) ∧
  (∀ L st M, zz_ev tX8_preempt 54 L st M = zo_iload 5 56 (zz_ev tX8_preempt) L st M) ∧
  (∀ L st M, zz_ev tX8_preempt 56 L st M = zo_istore 3 57 (zz_ev tX8_preempt) L st M) ∧
  (∀ L st M, zz_ev tX8_preempt 57 L st M = zo_iinc 4 1 60 (zz_ev tX8_preempt) L st M) ∧
  (∀ L st M, zz_ev tX8_preempt 60 L st M = zo_goto 8 (zz_ev tX8_preempt) L st M) ∧
  (∀ L st M, zz_ev tX8_preempt 63 L st M = zo_iload 2 64 (zz_ev tX8_preempt) L st M) ∧
  (∀ L st M, zz_ev tX8_preempt 64 L st M = zo_pushI (-1) 65 (zz_ev tX8_preempt) L st M) ∧
  (∀ L st M, zz_ev tX8_preempt 65 L st M = zo_icmp (fun x y => decide (¬ x = y)) 72 68 (zz_ev tX8_preempt) L st M) ∧
  (∀ L st M, zz_ev tX8_preempt 68 L st M = zo_pushI 0 69 (zz_ev tX8_preempt) L st M) ∧
  (∀ L st M, zz_ev tX8_preempt 69 L st M = zo_goto 78 (zz_ev tX8_preempt) L st M) ∧
  (∀ L st M, zz_ev tX8_preempt 72 L st M = zo_aload 0 73 (zz_ev tX8_preempt) L st M) ∧
  (∀ L st M, zz_ev tX8_preempt 73 L st M = zo_iload 1 74 (zz_ev tX8_preempt) L st M) ∧
  (∀ L st M, zz_ev tX8_preempt 74 L st M = zo_iload 2 75 (zz_ev tX8_preempt) L st M) ∧
  (∀ (L : zzLc) (a0 a1 : Int32) (r : List Value) (M : zzMd), zz_ev tX8_preempt 75 L (.int a1 :: .int a0 :: .ref 6 :: r) M = bif zz_cat8 r then zz_backN (zz_ev tX8_preempt) 78 L r (fX8_chooseVictims [.ref 6, .int a0, .int a1] M) else none) ∧
  (∀ L st M, zz_ev tX8_preempt 78 L st M = zo_iret false (zz_ev tX8_preempt) L st M) :=
  ⟨zz_1 rfl tl_X8_preempt, zz_1 rfl tl_X8_preempt, zz_1 rfl tl_X8_preempt, zz_1 rfl tl_X8_preempt, zz_1 rfl tl_X8_preempt, zz_1 rfl tl_X8_preempt, zz_1 rfl tl_X8_preempt, fun L r M => (zz_1 rfl tl_X8_preempt _ _ _).trans rfl, zz_1 rfl tl_X8_preempt, zz_1 rfl tl_X8_preempt, zz_1 rfl tl_X8_preempt, fun L a0 r M => (zz_1 rfl tl_X8_preempt _ _ _).trans rfl, zz_1 rfl tl_X8_preempt, zz_1 rfl tl_X8_preempt, zz_1 rfl tl_X8_preempt, zz_1 rfl tl_X8_preempt, fun L a0 a1 r M => (zz_1 rfl tl_X8_preempt _ _ _).trans rfl, zz_1 rfl tl_X8_preempt, zz_1 rfl tl_X8_preempt, zz_1 rfl tl_X8_preempt, zz_1 rfl tl_X8_preempt, zz_1 rfl tl_X8_preempt, zz_1 rfl tl_X8_preempt, zz_1 rfl tl_X8_preempt, zz_1 rfl tl_X8_preempt, zz_1 rfl tl_X8_preempt, zz_1 rfl tl_X8_preempt, zz_1 rfl tl_X8_preempt, zz_1 rfl tl_X8_preempt, zz_1 rfl tl_X8_preempt, zz_1 rfl tl_X8_preempt, zz_1 rfl tl_X8_preempt, zz_1 rfl tl_X8_preempt, zz_1 rfl tl_X8_preempt, zz_1 rfl tl_X8_preempt, zz_1 rfl tl_X8_preempt, zz_1 rfl tl_X8_preempt, zz_1 rfl tl_X8_preempt, zz_1 rfl tl_X8_preempt, zz_1 rfl tl_X8_preempt, fun L a0 a1 r M => (zz_1 rfl tl_X8_preempt _ _ _).trans rfl, zz_1 rfl tl_X8_preempt⟩
set_option maxRecDepth 100000 in
theorem e_X8_preempt_8 : (∀ L st M, zz_ev tX8_preempt 8 L st M = zo_iload 4 10 (zz_ev tX8_preempt) L st M) := zz_1 rfl tl_X8_preempt
set_option maxRecDepth 100000 in
theorem s_X8_preempt (a0 : Int32) (v : Nat) (M : zzMd) : fX8_preempt [.ref v, .int a0] M = zz_ev tX8_preempt 0 [some (.ref v), some (.int a0), none, none, none, none] [] M := rfl
set_option maxRecDepth 100000 in
theorem e_X8_serve : (∀ L st M, zz_ev tX8_serve 0 L st M = zo_aload 0 1 (zz_ev tX8_serve) L st M) ∧
  (∀ L st M, zz_ev tX8_serve 1 L st M = zo_iload 1 2 (zz_ev tX8_serve) L st M) ∧
  (∀ (L : zzLc) (a0 : Int32) (r : List Value) (M : zzMd), zz_ev tX8_serve 2 L (.int a0 :: .ref 6 :: r) M = bif zz_cat8 r then zz_backN (zz_ev tX8_serve) 5 L r (fX8_isWithoutPlace [.ref 6, .int a0] M) else none) ∧
  (∀ L st M, zz_ev tX8_serve 5 L st M = zo_if (fun x => decide (¬ x = 0)) 10 8 (zz_ev tX8_serve) L st M) ∧
  (∀ L st M, zz_ev tX8_serve 8 L st M = zo_pushI 1 9 (zz_ev tX8_serve) L st M) ∧
  (∀ L st M, zz_ev tX8_serve 9 L st M = zo_iret false (zz_ev tX8_serve) L st M) ∧
  (∀ L st M, zz_ev tX8_serve 10 L st M = zo_aload 0 11 (zz_ev tX8_serve) L st M) ∧
  (∀ (L : zzLc) (r : List Value) (M : zzMd), zz_ev tX8_serve 11 L (.ref 6 :: r) M = bif zz_cat8 r then zz_backN (zz_ev tX8_serve) 14 L r (fX8_countUsed [.ref 6] M) else none) ∧
  (∀ L st M, zz_ev tX8_serve 14 L st M = zo_aload 0 15 (zz_ev tX8_serve) L st M) ∧
  (∀ L st M, zz_ev tX8_serve 15 L st M = zo_aload 0 16 (zz_ev tX8_serve) L st M) ∧
  (∀ L st M, zz_ev tX8_serve 16 L st M = zo_iload 1 17 (zz_ev tX8_serve) L st M) ∧
  (∀ L st M, zz_ev tX8_serve 17 L st M = zo_pushI 24 19 (zz_ev tX8_serve) L st M) ∧
  (∀ (L : zzLc) (a0 a1 : Int32) (r : List Value) (M : zzMd), zz_ev tX8_serve 19 L (.int a1 :: .int a0 :: .ref 6 :: r) M = bif zz_cat8 r then zz_backN (zz_ev tX8_serve) 22 L r (fX10_read [.ref 6, .int a0, .int a1] M) else none) ∧
  (∀ (L : zzLc) (a0 : Int32) (r : List Value) (M : zzMd), zz_ev tX8_serve 22 L (.int a0 :: .ref 6 :: r) M = bif zz_cat8 r then zz_backN (zz_ev tX8_serve) 25 L r (fX8_countMates [.ref 6, .int a0] M) else none) ∧
  (∀ L st M, zz_ev tX8_serve 25 L st M = zo_aload 0 26 (zz_ev tX8_serve) L st M) ∧
  (∀ L st M, zz_ev tX8_serve 26 L st M = zo_aload 0 27 (zz_ev tX8_serve) L st M) ∧
  (∀ L st M, zz_ev tX8_serve 27 L st M = zo_iload 1 28 (zz_ev tX8_serve) L st M) ∧
  (∀ (L : zzLc) (a0 : Int32) (r : List Value) (M : zzMd), zz_ev tX8_serve 28 L (.int a0 :: .ref 6 :: r) M = bif zz_cat8 r then zz_backN (zz_ev tX8_serve) 31 L r (fX10_needOf [.ref 6, .int a0] M) else none) ∧
  (∀ (L : zzLc) (a0 : Int32) (r : List Value) (M : zzMd), zz_ev tX8_serve 31 L (.int a0 :: .ref 6 :: r) M = bif zz_cat8 r then zz_backN (zz_ev tX8_serve) 34 L r (fX8_bestNode [.ref 6, .int a0] M) else none) ∧
  (∀ L st M, zz_ev tX8_serve 34 L st M = zo_istore 2 35 (zz_ev tX8_serve) L st M) ∧
  (∀ L st M, zz_ev tX8_serve 35 L st M = zo_iload 2 36 (zz_ev tX8_serve) L st M) ∧
  (∀ L st M, zz_ev tX8_serve 36 L st M = zo_pushI (-1) 37 (zz_ev tX8_serve) L st M) ∧
  (∀ L st M, zz_ev tX8_serve 37 L st M = zo_icmp (fun x y => decide (x = y)) 52 40 (zz_ev tX8_serve) L st M) ∧
  (∀ L st M, zz_ev tX8_serve 40 L st M = zo_aload 0 41 (zz_ev tX8_serve) L st M) ∧
  (∀ L st M, zz_ev tX8_serve 41 L st M = zo_iload 1 42 (zz_ev tX8_serve) L st M) ∧
  (∀ L st M, zz_ev tX8_serve 42 L st M = zo_pushI 28 44 (zz_ev tX8_serve) L st M) ∧
  (∀ L st M, zz_ev tX8_serve 44 L st M = zo_iload 2 45 (zz_ev tX8_serve) L st M) ∧
  (∀ (L : zzLc) (a0 a1 a2 : Int32) (r : List Value) (M : zzMd), zz_ev tX8_serve 45 L (.int a2 :: .int a1 :: .int a0 :: .ref 6 :: r) M = bif zz_cat8 r then zz_backN (zz_ev tX8_serve) 48 L r (fX2_set [.ref 6, .int a0, .int a1, .int a2] M) else none) ∧
  (∀ (L : zzLc) (a0 : Int32) (r : List Value) (M : zzMd), zz_ev tX8_serve 48 L (.int a0 :: r) M = bif zz_cat8 r then zz_backN (zz_ev tX8_serve) 51 L r (fX2_outcomeOf [.int a0] M) else none) ∧
  (∀ L st M, zz_ev tX8_serve 51 L st M = zo_iret false (zz_ev tX8_serve) L st M) ∧
  (∀ L st M, zz_ev tX8_serve 52 L st M = zo_aload 0 53 (zz_ev tX8_serve) L st M) ∧
  (∀ L st M, zz_ev tX8_serve 53 L st M = zo_iload 1 54 (zz_ev tX8_serve) L st M) ∧
  (∀ (L : zzLc) (a0 : Int32) (r : List Value) (M : zzMd), zz_ev tX8_serve 54 L (.int a0 :: .ref 6 :: r) M = bif zz_cat8 r then zz_backN (zz_ev tX8_serve) 57 L r (fX8_preempt [.ref 6, .int a0] M) else none) ∧
  (∀ L st M, zz_ev tX8_serve 57 L st M = zo_istore 3 58 (zz_ev tX8_serve) L st M) ∧
  (∀ L st M, zz_ev tX8_serve 58 L st M = zo_pushI 1 59 (zz_ev tX8_serve) L st M) ∧
  (∀ L st M, zz_ev tX8_serve 59 L st M = zo_istore 4 61 (zz_ev tX8_serve) L st M) ∧
  (∀ L st M, zz_ev tX8_serve 61 L st M = zo_pushI 0 62 (zz_ev tX8_serve) L st M) ∧
  (∀ L st M, zz_ev tX8_serve 62 L st M = zo_istore 5 64 (zz_ev tX8_serve) L st M) ∧
  (∀ L st M, zz_ev tX8_serve 66 L st M = zo_iload 3 67 (zz_ev tX8_serve) L st M) ∧
  (∀ L st M, zz_ev tX8_serve 67 L st M = zo_icmp (fun x y => decide (y ≤ x)) 94 70 (zz_ev tX8_serve) L st M) ∧
  (∀ L st M, zz_ev tX8_serve 70 L st M = zo_iload 4 72 (zz_ev tX8_serve) L st M) ∧
  (∀ L st M, zz_ev tX8_serve 72 L st M = zo_if (fun x => decide (x = 0)) 94 75 (zz_ev tX8_serve) L st M) ∧
  (∀ L st M, zz_ev tX8_serve 75 L st M = zo_aload 0 76 (zz_ev tX8_serve) L st M) ∧
  (∀ L st M, zz_ev tX8_serve 76 L st M = zo_aload 0 77 (zz_ev tX8_serve) L st M) ∧
  (∀ (L : zzLc) (r : List Value) (M : zzMd), zz_ev tX8_serve 77 L (.ref 6 :: r) M = zz_ev tX8_serve 80 L (.ref 71 :: r) M) ∧
  (∀ L st M, zz_ev tX8_serve 80 L st M = zo_iload 5 82 (zz_ev tX8_serve) L st M) ∧
  (∀ L st M, zz_ev tX8_serve 82 L st M = zo_iald zzSC zzSTC 83 (zz_ev tX8_serve) L st M) ∧
  (∀ (L : zzLc) (a0 : Int32) (r : List Value) (M : zzMd), zz_ev tX8_serve 83 L (.int a0 :: .ref 6 :: r) M = bif zz_cat8 r then zz_backN (zz_ev tX8_serve) 86 L r (fX2_remove [.ref 6, .int a0] M) else none) ∧
  (∀ L st M, zz_ev tX8_serve 86 L st M = zo_istore 4 88 (zz_ev tX8_serve) L st M) ∧
  (∀ L st M, zz_ev tX8_serve 88 L st M = zo_iinc 5 1 91 (zz_ev tX8_serve) L st M) ∧
  (∀ L st M, zz_ev tX8_serve 91 L st M = zo_goto 64 (zz_ev tX8_serve) L st M) ∧
  (∀ L st M, zz_ev tX8_serve 94 L st M = zo_pushI 3 95 (zz_ev tX8_serve) L st M) ∧
  (∀ L st M, zz_ev tX8_serve 95 L st M = zo_iret false (zz_ev tX8_serve) L st M) :=
  ⟨zz_1 rfl tl_X8_serve, zz_1 rfl tl_X8_serve, fun L a0 r M => (zz_1 rfl tl_X8_serve _ _ _).trans rfl, zz_1 rfl tl_X8_serve, zz_1 rfl tl_X8_serve, zz_1 rfl tl_X8_serve, zz_1 rfl tl_X8_serve, fun L  r M => (zz_1 rfl tl_X8_serve _ _ _).trans rfl, zz_1 rfl tl_X8_serve, zz_1 rfl tl_X8_serve, zz_1 rfl tl_X8_serve, zz_1 rfl tl_X8_serve, fun L a0 a1 r M => (zz_1 rfl tl_X8_serve _ _ _).trans rfl, fun L a0 r M => (zz_1 rfl tl_X8_serve _ _ _).trans rfl, zz_1 rfl tl_X8_serve, zz_1 rfl tl_X8_serve, zz_1 rfl tl_X8_serve, fun L a0 r M => (zz_1 rfl tl_X8_serve _ _ _).trans rfl, fun L a0 r M => (zz_1 rfl tl_X8_serve _ _ _).trans rfl, zz_1 rfl tl_X8_serve, zz_1 rfl tl_X8_serve, zz_1 rfl tl_X8_serve, zz_1 rfl tl_X8_serve, zz_1 rfl tl_X8_serve, zz_1 rfl tl_X8_serve, zz_1 rfl tl_X8_serve, zz_1 rfl tl_X8_serve, fun L a0 a1 a2 r M => (zz_1 rfl tl_X8_serve _ _ _).trans rfl, fun L a0 r M => (zz_1 rfl tl_X8_serve _ _ _).trans rfl, zz_1 rfl tl_X8_serve, zz_1 rfl tl_X8_serve, zz_1 rfl tl_X8_serve, fun L a0 r M => (zz_1 rfl tl_X8_serve _ _ _).trans rfl, zz_1 rfl tl_X8_serve, zz_1 rfl tl_X8_serve, zz_1 rfl tl_X8_serve, zz_1 rfl tl_X8_serve, zz_1 rfl tl_X8_serve, zz_1 rfl tl_X8_serve, zz_1 rfl tl_X8_serve, zz_1 rfl tl_X8_serve, zz_1 rfl tl_X8_serve, zz_1 rfl tl_X8_serve, zz_1 rfl tl_X8_serve, fun L r M => (zz_1 rfl tl_X8_serve _ _ _).trans rfl, zz_1 rfl tl_X8_serve, zz_1 rfl tl_X8_serve, fun L a0 r M => (zz_1 rfl tl_X8_serve _ _ _).trans rfl, zz_1 rfl tl_X8_serve, zz_1 rfl tl_X8_serve, zz_1 rfl tl_X8_serve, zz_1 rfl tl_X8_serve, zz_1 rfl tl_X8_serve⟩
set_option maxRecDepth 100000 in
theorem e_X8_serve_64 : (∀ L st M, zz_ev tX8_serve 64 L st M = zo_iload 5 66 (zz_ev tX8_serve) L st M) := zz_1 rfl tl_X8_serve
set_option maxRecDepth 100000 in
theorem s_X8_serve (a0 : Int32) (v : Nat) (M : zzMd) : fX8_serve [.ref v, .int a0] M = zz_ev tX8_serve 0 [some (.ref v), some (.int a0), none, none, none, none] [] M := rfl
set_option maxRecDepth 100000 in
theorem e_X2_noteFailure : (∀ L st M, zz_ev tX2_noteFailure 0 L st M = zo_pushI 1 1 (zz_ev tX2_noteFailure) L st M) ∧
  (∀ L st M, zz_ev tX2_noteFailure 1 L st M = zo_istore 2 2 (zz_ev tX2_noteFailure) L st M) ∧
  (∀ L st M, zz_ev tX2_noteFailure 2 L st M = zo_pushI 0 3 (zz_ev tX2_noteFailure) L st M) ∧
  (∀ L st M, zz_ev tX2_noteFailure 3 L st M = zo_istore 3 4 (zz_ev tX2_noteFailure) L st M) ∧
  (∀ L st M, zz_ev tX2_noteFailure 5 L st M = zo_aload 0 6 (zz_ev tX2_noteFailure) L st M) ∧
  (∀ (L : zzLc) (r : List Value) (M : zzMd), zz_ev tX2_noteFailure 6 L (.ref 3 :: r) M = zz_ev tX2_noteFailure 9 L (.ref 24 :: r) M) ∧
  (∀ (L : zzLc) (r : List Value) (M : zzMd), zz_ev tX2_noteFailure 6 L (.ref 4 :: r) M = zz_ev tX2_noteFailure 9 L (.ref 30 :: r) M) ∧
  (∀ (L : zzLc) (r : List Value) (M : zzMd), zz_ev tX2_noteFailure 6 L (.ref 5 :: r) M = zz_ev tX2_noteFailure 9 L (.ref 36 :: r) M) ∧
  (∀ (L : zzLc) (r : List Value) (M : zzMd), zz_ev tX2_noteFailure 6 L (.ref 6 :: r) M = zz_ev tX2_noteFailure 9 L (.ref 42 :: r) M) ∧
  (∀ (L : zzLc) (r : List Value) (M : zzMd), zz_ev tX2_noteFailure 6 L (.ref 7 :: r) M = zz_ev tX2_noteFailure 9 L (.ref 48 :: r) M) ∧
  (∀ (L : zzLc) (r : List Value) (M : zzMd), zz_ev tX2_noteFailure 6 L (.ref 8 :: r) M = zz_ev tX2_noteFailure 9 L (.ref 54 :: r) M) ∧
  (∀ (L : zzLc) (r : List Value) (M : zzMd), zz_ev tX2_noteFailure 6 L (.ref 9 :: r) M = zz_ev tX2_noteFailure 9 L (.ref 60 :: r) M) ∧
  (∀ (L : zzLc) (r : List Value) (M : zzMd), zz_ev tX2_noteFailure 6 L (.ref 10 :: r) M = zz_ev tX2_noteFailure 9 L (.ref 66 :: r) M) ∧
  (∀ L st M, zz_ev tX2_noteFailure 9 L st M = zo_iload 1 10 (zz_ev tX2_noteFailure) L st M) ∧
  (∀ L st M, zz_ev tX2_noteFailure 10 L st M = zo_iald zzSC zzSTC 11 (zz_ev tX2_noteFailure) L st M) ∧
  (∀ L st M, zz_ev tX2_noteFailure 11 L st M = zo_icmp (fun x y => decide (y ≤ x)) 30 14 (zz_ev tX2_noteFailure) L st M) ∧
  (∀ L st M, zz_ev tX2_noteFailure 14 L st M = zo_iload 2 15 (zz_ev tX2_noteFailure) L st M) ∧
  (∀ L st M, zz_ev tX2_noteFailure 15 L st M = zo_pushI 16 17 (zz_ev tX2_noteFailure) L st M) ∧
  (∀ L st M, zz_ev tX2_noteFailure 17 L st M = zo_icmp (fun x y => decide (y ≤ x)) 30 20 (zz_ev tX2_noteFailure) L st M) ∧
  (∀ L st M, zz_ev tX2_noteFailure 20 L st M = zo_iload 2 21 (zz_ev tX2_noteFailure) L st M) ∧
  (∀ L st M, zz_ev tX2_noteFailure 21 L st M = zo_pushI 2 22 (zz_ev tX2_noteFailure) L st M) ∧
  (∀ L st M, zz_ev tX2_noteFailure 22 L st M = zo_ii (fun x y => x * y) 23 (zz_ev tX2_noteFailure) L st M) ∧
  (∀ L st M, zz_ev tX2_noteFailure 23 L st M = zo_istore 2 24 (zz_ev tX2_noteFailure) L st M) ∧
  (∀ L st M, zz_ev tX2_noteFailure 24 L st M = zo_iinc 3 1 27 (zz_ev tX2_noteFailure) L st M) ∧
  (∀ L st M, zz_ev tX2_noteFailure 27 L st M = zo_goto 4 (zz_ev tX2_noteFailure) L st M) ∧
  (∀ L st M, zz_ev tX2_noteFailure 30 L st M = zo_aload 0 31 (zz_ev tX2_noteFailure) L st M) ∧
  (∀ (L : zzLc) (r : List Value) (M : zzMd), zz_ev tX2_noteFailure 31 L (.ref 3 :: r) M = zz_ev tX2_noteFailure 34 L (.ref 24 :: r) M) ∧
  (∀ (L : zzLc) (r : List Value) (M : zzMd), zz_ev tX2_noteFailure 31 L (.ref 4 :: r) M = zz_ev tX2_noteFailure 34 L (.ref 30 :: r) M) ∧
  (∀ (L : zzLc) (r : List Value) (M : zzMd), zz_ev tX2_noteFailure 31 L (.ref 5 :: r) M = zz_ev tX2_noteFailure 34 L (.ref 36 :: r) M) ∧
  (∀ (L : zzLc) (r : List Value) (M : zzMd), zz_ev tX2_noteFailure 31 L (.ref 6 :: r) M = zz_ev tX2_noteFailure 34 L (.ref 42 :: r) M) ∧
  (∀ (L : zzLc) (r : List Value) (M : zzMd), zz_ev tX2_noteFailure 31 L (.ref 7 :: r) M = zz_ev tX2_noteFailure 34 L (.ref 48 :: r) M) ∧
  (∀ (L : zzLc) (r : List Value) (M : zzMd), zz_ev tX2_noteFailure 31 L (.ref 8 :: r) M = zz_ev tX2_noteFailure 34 L (.ref 54 :: r) M) ∧
  (∀ (L : zzLc) (r : List Value) (M : zzMd), zz_ev tX2_noteFailure 31 L (.ref 9 :: r) M = zz_ev tX2_noteFailure 34 L (.ref 60 :: r) M) ∧
  (∀ (L : zzLc) (r : List Value) (M : zzMd), zz_ev tX2_noteFailure 31 L (.ref 10 :: r) M = zz_ev tX2_noteFailure 34 L (.ref 66 :: r) M) ∧
  (∀ L st M, zz_ev tX2_noteFailure 34 L st M = zo_iload 1 35 (zz_ev tX2_noteFailure) L st M) ∧
  (∀ L st M, zz_ev tX2_noteFailure 35 L st M = zo_dup2 36 (zz_ev tX2_noteFailure) L st M) ∧
  (∀ L st M, zz_ev tX2_noteFailure 36 L st M = zo_iald zzSC zzSTC 37 (zz_ev tX2_noteFailure) L st M) ∧
  (∀ L st M, zz_ev tX2_noteFailure 37 L st M = zo_pushI 1 38 (zz_ev tX2_noteFailure) L st M) ∧
  (∀ L st M, zz_ev tX2_noteFailure 38 L st M = zo_ii (fun x y => x + y) 39 (zz_ev tX2_noteFailure) L st M) ∧
  (∀ L st M, zz_ev tX2_noteFailure 39 L st M = zo_iast zzSC 40 (zz_ev tX2_noteFailure) L st M) ∧
  (∀ L st M, zz_ev tX2_noteFailure 40 L st M = zo_aload 0 41 (zz_ev tX2_noteFailure) L st M) ∧
  (∀ (L : zzLc) (r : List Value) (M : zzMd), zz_ev tX2_noteFailure 41 L (.ref 3 :: r) M = zz_ev tX2_noteFailure 44 L (.ref 25 :: r) M) ∧
  (∀ (L : zzLc) (r : List Value) (M : zzMd), zz_ev tX2_noteFailure 41 L (.ref 4 :: r) M = zz_ev tX2_noteFailure 44 L (.ref 31 :: r) M) ∧
  (∀ (L : zzLc) (r : List Value) (M : zzMd), zz_ev tX2_noteFailure 41 L (.ref 5 :: r) M = zz_ev tX2_noteFailure 44 L (.ref 37 :: r) M) ∧
  (∀ (L : zzLc) (r : List Value) (M : zzMd), zz_ev tX2_noteFailure 41 L (.ref 6 :: r) M = zz_ev tX2_noteFailure 44 L (.ref 43 :: r) M) ∧
  (∀ (L : zzLc) (r : List Value) (M : zzMd), zz_ev tX2_noteFailure 41 L (.ref 7 :: r) M = zz_ev tX2_noteFailure 44 L (.ref 49 :: r) M) ∧
  (∀ (L : zzLc) (r : List Value) (M : zzMd), zz_ev tX2_noteFailure 41 L (.ref 8 :: r) M = zz_ev tX2_noteFailure 44 L (.ref 55 :: r) M) ∧
  (∀ (L : zzLc) (r : List Value) (M : zzMd), zz_ev tX2_noteFailure 41 L (.ref 9 :: r) M = zz_ev tX2_noteFailure 44 L (.ref 61 :: r) M) ∧
  (∀ (L : zzLc) (r : List Value) (M : zzMd), zz_ev tX2_noteFailure 41 L (.ref 10 :: r) M = zz_ev tX2_noteFailure 44 L (.ref 67 :: r) M) ∧
  (∀ L st M, zz_ev tX2_noteFailure 44 L st M = zo_iload 1 45 (zz_ev tX2_noteFailure) L st M) ∧
  (∀ L st M, zz_ev tX2_noteFailure 45 L st M = zo_aload 0 46 (zz_ev tX2_noteFailure) L st M) ∧
  (∀ (L : zzLc) (r : List Value) (M : zzMd), zz_ev tX2_noteFailure 46 L (.ref 3 :: r) M = zz_ev tX2_noteFailure 49 L (.ref 1 :: r) M) ∧
  (∀ (L : zzLc) (r : List Value) (M : zzMd), zz_ev tX2_noteFailure 46 L (.ref 4 :: r) M = zz_ev tX2_noteFailure 49 L (.ref 1 :: r) M) ∧
  (∀ (L : zzLc) (r : List Value) (M : zzMd), zz_ev tX2_noteFailure 46 L (.ref 5 :: r) M = zz_ev tX2_noteFailure 49 L (.ref 1 :: r) M) ∧
  (∀ (L : zzLc) (r : List Value) (M : zzMd), zz_ev tX2_noteFailure 46 L (.ref 6 :: r) M = zz_ev tX2_noteFailure 49 L (.ref 1 :: r) M) ∧
  (∀ (L : zzLc) (r : List Value) (M : zzMd), zz_ev tX2_noteFailure 46 L (.ref 7 :: r) M = zz_ev tX2_noteFailure 49 L (.ref 1 :: r) M) ∧
  (∀ (L : zzLc) (r : List Value) (M : zzMd), zz_ev tX2_noteFailure 46 L (.ref 8 :: r) M = zz_ev tX2_noteFailure 49 L (.ref 1 :: r) M) ∧
  (∀ (L : zzLc) (r : List Value) (M : zzMd), zz_ev tX2_noteFailure 46 L (.ref 9 :: r) M = zz_ev tX2_noteFailure 49 L (.ref 1 :: r) M) ∧
  (∀ (L : zzLc) (r : List Value) (M : zzMd), zz_ev tX2_noteFailure 46 L (.ref 10 :: r) M = zz_ev tX2_noteFailure 49 L (.ref 1 :: r) M) ∧
  (∀ (L : zzLc) (r : List Value) (M : zzMd), zz_ev tX2_noteFailure 49 L (.ref 1 :: r) M = zz_ev tX2_noteFailure 52 L (.int (M.1 1 7) :: r) M) ∧
  (∀ L st M, zz_ev tX2_noteFailure 52 L st M = zo_iload 2 53 (zz_ev tX2_noteFailure) L st M) ∧
  (∀ L st M, zz_ev tX2_noteFailure 53 L st M = zo_ii (fun x y => x + y) 54 (zz_ev tX2_noteFailure) L st M) ∧
  (∀ L st M, zz_ev tX2_noteFailure 54 L st M = zo_iast zzSC 55 (zz_ev tX2_noteFailure) L st M) ∧
  (∀ L st M, zz_ev tX2_noteFailure 55 L st M = zo_ret (zz_ev tX2_noteFailure) L st M) :=
  ⟨zz_1 rfl tl_X2_noteFailure, zz_1 rfl tl_X2_noteFailure, zz_1 rfl tl_X2_noteFailure, zz_1 rfl tl_X2_noteFailure, zz_1 rfl tl_X2_noteFailure, fun L r M => (zz_1 rfl tl_X2_noteFailure _ _ _).trans rfl, fun L r M => (zz_1 rfl tl_X2_noteFailure _ _ _).trans rfl, fun L r M => (zz_1 rfl tl_X2_noteFailure _ _ _).trans rfl, fun L r M => (zz_1 rfl tl_X2_noteFailure _ _ _).trans rfl, fun L r M => (zz_1 rfl tl_X2_noteFailure _ _ _).trans rfl, fun L r M => (zz_1 rfl tl_X2_noteFailure _ _ _).trans rfl, fun L r M => (zz_1 rfl tl_X2_noteFailure _ _ _).trans rfl, fun L r M => (zz_1 rfl tl_X2_noteFailure _ _ _).trans rfl, zz_1 rfl tl_X2_noteFailure, zz_1 rfl tl_X2_noteFailure, zz_1 rfl tl_X2_noteFailure, zz_1 rfl tl_X2_noteFailure, zz_1 rfl tl_X2_noteFailure, zz_1 rfl tl_X2_noteFailure, zz_1 rfl tl_X2_noteFailure, zz_1 rfl tl_X2_noteFailure, zz_1 rfl tl_X2_noteFailure, zz_1 rfl tl_X2_noteFailure, zz_1 rfl tl_X2_noteFailure, zz_1 rfl tl_X2_noteFailure, zz_1 rfl tl_X2_noteFailure, fun L r M => (zz_1 rfl tl_X2_noteFailure _ _ _).trans rfl, fun L r M => (zz_1 rfl tl_X2_noteFailure _ _ _).trans rfl, fun L r M => (zz_1 rfl tl_X2_noteFailure _ _ _).trans rfl, fun L r M => (zz_1 rfl tl_X2_noteFailure _ _ _).trans rfl, fun L r M => (zz_1 rfl tl_X2_noteFailure _ _ _).trans rfl, fun L r M => (zz_1 rfl tl_X2_noteFailure _ _ _).trans rfl, fun L r M => (zz_1 rfl tl_X2_noteFailure _ _ _).trans rfl, fun L r M => (zz_1 rfl tl_X2_noteFailure _ _ _).trans rfl, zz_1 rfl tl_X2_noteFailure, zz_1 rfl tl_X2_noteFailure, zz_1 rfl tl_X2_noteFailure, zz_1 rfl tl_X2_noteFailure, zz_1 rfl tl_X2_noteFailure, zz_1 rfl tl_X2_noteFailure, zz_1 rfl tl_X2_noteFailure, fun L r M => (zz_1 rfl tl_X2_noteFailure _ _ _).trans rfl, fun L r M => (zz_1 rfl tl_X2_noteFailure _ _ _).trans rfl, fun L r M => (zz_1 rfl tl_X2_noteFailure _ _ _).trans rfl, fun L r M => (zz_1 rfl tl_X2_noteFailure _ _ _).trans rfl, fun L r M => (zz_1 rfl tl_X2_noteFailure _ _ _).trans rfl, fun L r M => (zz_1 rfl tl_X2_noteFailure _ _ _).trans rfl, fun L r M => (zz_1 rfl tl_X2_noteFailure _ _ _).trans rfl, fun L r M => (zz_1 rfl tl_X2_noteFailure _ _ _).trans rfl, zz_1 rfl tl_X2_noteFailure, zz_1 rfl tl_X2_noteFailure, fun L r M => (zz_1 rfl tl_X2_noteFailure _ _ _).trans rfl, fun L r M => (zz_1 rfl tl_X2_noteFailure _ _ _).trans rfl, fun L r M => (zz_1 rfl tl_X2_noteFailure _ _ _).trans rfl, fun L r M => (zz_1 rfl tl_X2_noteFailure _ _ _).trans rfl, fun L r M => (zz_1 rfl tl_X2_noteFailure _ _ _).trans rfl, fun L r M => (zz_1 rfl tl_X2_noteFailure _ _ _).trans rfl, fun L r M => (zz_1 rfl tl_X2_noteFailure _ _ _).trans rfl, fun L r M => (zz_1 rfl tl_X2_noteFailure _ _ _).trans rfl, fun L r M => (zz_1 rfl tl_X2_noteFailure _ _ _).trans rfl, zz_1 rfl tl_X2_noteFailure, zz_1 rfl tl_X2_noteFailure, zz_1 rfl tl_X2_noteFailure, zz_1 rfl tl_X2_noteFailure⟩
set_option maxRecDepth 100000 in
theorem e_X2_noteFailure_4 : (∀ L st M, zz_ev tX2_noteFailure 4 L st M = zo_iload 3 5 (zz_ev tX2_noteFailure) L st M) := zz_1 rfl tl_X2_noteFailure
set_option maxRecDepth 100000 in
theorem s_X2_noteFailure (a0 : Int32) (v : Nat) (M : zzMd) : fX2_noteFailure [.ref v, .int a0] M = zz_ev tX2_noteFailure 0 [some (.ref v), some (.int a0), none, none] [] M := rfl
set_option maxRecDepth 100000 in
theorem e_X2_workOnce : (∀ L st M, zz_ev tX2_workOnce 0 L st M = zo_aload 0 1 (zz_ev tX2_workOnce) L st M) ∧
  (∀ (L : zzLc) (r : List Value) (M : zzMd), zz_ev tX2_workOnce 1 L (.ref 8 :: r) M = bif zz_cat8 r then zz_backN (zz_ev tX2_workOnce) 4 L r (fX2_takeKey [.ref 8] M) else none) ∧
  (∀ (L : zzLc) (r : List Value) (M : zzMd), zz_ev tX2_workOnce 1 L (.ref 3 :: r) M = bif zz_cat8 r then zz_backN (zz_ev tX2_workOnce) 4 L r (fX2_takeKey [.ref 3] M) else none) ∧
  (∀ (L : zzLc) (r : List Value) (M : zzMd), zz_ev tX2_workOnce 1 L (.ref 4 :: r) M = bif zz_cat8 r then zz_backN (zz_ev tX2_workOnce) 4 L r (fX2_takeKey [.ref 4] M) else none) ∧
  (∀ (L : zzLc) (r : List Value) (M : zzMd), zz_ev tX2_workOnce 1 L (.ref 5 :: r) M = bif zz_cat8 r then zz_backN (zz_ev tX2_workOnce) 4 L r (fX2_takeKey [.ref 5] M) else none) ∧
  (∀ (L : zzLc) (r : List Value) (M : zzMd), zz_ev tX2_workOnce 1 L (.ref 9 :: r) M = bif zz_cat8 r then zz_backN (zz_ev tX2_workOnce) 4 L r (fX2_takeKey [.ref 9] M) else none) ∧
  (∀ (L : zzLc) (r : List Value) (M : zzMd), zz_ev tX2_workOnce 1 L (.ref 7 :: r) M = bif zz_cat8 r then zz_backN (zz_ev tX2_workOnce) 4 L r (fX2_takeKey [.ref 7] M) else none) ∧
  (∀ (L : zzLc) (r : List Value) (M : zzMd), zz_ev tX2_workOnce 1 L (.ref 10 :: r) M = bif zz_cat8 r then zz_backN (zz_ev tX2_workOnce) 4 L r (fX2_takeKey [.ref 10] M) else none) ∧
  (∀ (L : zzLc) (r : List Value) (M : zzMd), zz_ev tX2_workOnce 1 L (.ref 6 :: r) M = bif zz_cat8 r then zz_backN (zz_ev tX2_workOnce) 4 L r (fX2_takeKey [.ref 6] M) else none) ∧
  (∀ L st M, zz_ev tX2_workOnce 4 L st M = zo_istore 1 5 (zz_ev tX2_workOnce) L st M) ∧
  (∀ L st M, zz_ev tX2_workOnce 5 L st M = zo_iload 1 6 (zz_ev tX2_workOnce) L st M) ∧
  (∀ L st M, zz_ev tX2_workOnce 6 L st M = zo_pushI (-1) 7 (zz_ev tX2_workOnce) L st M) ∧
  (∀ L st M, zz_ev tX2_workOnce 7 L st M = zo_icmp (fun x y => decide (¬ x = y)) 12 10 (zz_ev tX2_workOnce) L st M) ∧
  (∀ L st M, zz_ev tX2_workOnce 10 L st M = zo_pushI 0 11 (zz_ev tX2_workOnce) L st M) ∧
  (∀ L st M, zz_ev tX2_workOnce 11 L st M = zo_iret false (zz_ev tX2_workOnce) L st M) ∧
  (∀ L st M, zz_ev tX2_workOnce 12 L st M = zo_aload 0 13 (zz_ev tX2_workOnce) L st M) ∧
  (∀ (L : zzLc) (r : List Value) (M : zzMd), zz_ev tX2_workOnce 13 L (.ref 3 :: r) M = zz_ev tX2_workOnce 16 L (.ref 1 :: r) M) ∧
  (∀ (L : zzLc) (r : List Value) (M : zzMd), zz_ev tX2_workOnce 13 L (.ref 4 :: r) M = zz_ev tX2_workOnce 16 L (.ref 1 :: r) M) ∧
  (∀ (L : zzLc) (r : List Value) (M : zzMd), zz_ev tX2_workOnce 13 L (.ref 5 :: r) M = zz_ev tX2_workOnce 16 L (.ref 1 :: r) M) ∧
  (∀ (L : zzLc) (r : List Value) (M : zzMd), zz_ev tX2_workOnce 13 L (.ref 6 :: r) M = zz_ev tX2_workOnce 16 L (.ref 1 :: r) M) ∧
  (∀ (L : zzLc) (r : List Value) (M : zzMd), zz_ev tX2_workOnce 13 L (.ref 7 :: r) M = zz_ev tX2_workOnce 16 L (.ref 1 :: r) M) ∧
  (∀ (L : zzLc) (r : List Value) (M : zzMd), zz_ev tX2_workOnce 13 L (.ref 8 :: r) M = zz_ev tX2_workOnce 16 L (.ref 1 :: r) M) ∧
  (∀ (L : zzLc) (r : List Value) (M : zzMd), zz_ev tX2_workOnce 13 L (.ref 9 :: r) M = zz_ev tX2_workOnce 16 L (.ref 1 :: r) M) ∧
  (∀ (L : zzLc) (r : List Value) (M : zzMd), zz_ev tX2_workOnce 13 L (.ref 10 :: r) M = zz_ev tX2_workOnce 16 L (.ref 1 :: r) M) ∧
  (∀ (L : zzLc) (r : List Value) (M : zzMd), zz_ev tX2_workOnce 16 L (.ref 1 :: r) M = zz_ev tX2_workOnce 19 L (.int (M.1 1 3) :: r) M) ∧
  (∀ L st M, zz_ev tX2_workOnce 19 L st M = zo_istore 2 20 (zz_ev tX2_workOnce) L st M) ∧
  (∀ L st M, zz_ev tX2_workOnce 20 L st M = zo_aload 0 21 (zz_ev tX2_workOnce) L st M) ∧
  (∀ (L : zzLc) (r : List Value) (M : zzMd), zz_ev tX2_workOnce 21 L (.ref 3 :: r) M = zz_ev tX2_workOnce 24 L (.ref 26 :: r) M) ∧
  (∀ (L : zzLc) (r : List Value) (M : zzMd), zz_ev tX2_workOnce 21 L (.ref 4 :: r) M = zz_ev tX2_workOnce 24 L (.ref 32 :: r) M) ∧
  (∀ (L : zzLc) (r : List Value) (M : zzMd), zz_ev tX2_workOnce 21 L (.ref 5 :: r) M = zz_ev tX2_workOnce 24 L (.ref 38 :: r) M) ∧
  (∀ (L : zzLc) (r : List Value) (M : zzMd), zz_ev tX2_workOnce 21 L (.ref 6 :: r) M = zz_ev tX2_workOnce 24 L (.ref 44 :: r) M) ∧
  (∀ (L : zzLc) (r : List Value) (M : zzMd), zz_ev tX2_workOnce 21 L (.ref 7 :: r) M = zz_ev tX2_workOnce 24 L (.ref 50 :: r) M) ∧
  (∀ (L : zzLc) (r : List Value) (M : zzMd), zz_ev tX2_workOnce 21 L (.ref 8 :: r) M = zz_ev tX2_workOnce 24 L (.ref 56 :: r) M) ∧
  (∀ (L : zzLc) (r : List Value) (M : zzMd), zz_ev tX2_workOnce 21 L (.ref 9 :: r) M = zz_ev tX2_workOnce 24 L (.ref 62 :: r) M) ∧
  (∀ (L : zzLc) (r : List Value) (M : zzMd), zz_ev tX2_workOnce 21 L (.ref 10 :: r) M = zz_ev tX2_workOnce 24 L (.ref 68 :: r) M) ∧
  (∀ L st M, zz_ev tX2_workOnce 24 L st M = zo_iload 1 25 (zz_ev tX2_workOnce) L st M) ∧
  (∀ L st M, zz_ev tX2_workOnce 25 L st M = zo_iald zzSC zzSTC 26 (zz_ev tX2_workOnce) L st M) ∧
  (∀ L st M, zz_ev tX2_workOnce 26 L st M = zo_aload 0 27 (zz_ev tX2_workOnce) L st M) ∧
  (∀ (L : zzLc) (r : List Value) (M : zzMd), zz_ev tX2_workOnce 27 L (.ref 3 :: r) M = zz_ev tX2_workOnce 30 L (.int (M.1 3 3) :: r) M) ∧
  (∀ (L : zzLc) (r : List Value) (M : zzMd), zz_ev tX2_workOnce 27 L (.ref 4 :: r) M = zz_ev tX2_workOnce 30 L (.int (M.1 4 3) :: r) M) ∧
  (∀ (L : zzLc) (r : List Value) (M : zzMd), zz_ev tX2_workOnce 27 L (.ref 5 :: r) M = zz_ev tX2_workOnce 30 L (.int (M.1 5 3) :: r) M) ∧
  (∀ (L : zzLc) (r : List Value) (M : zzMd), zz_ev tX2_workOnce 27 L (.ref 6 :: r) M = zz_ev tX2_workOnce 30 L (.int (M.1 6 3) :: r) M) ∧
  (∀ (L : zzLc) (r : List Value) (M : zzMd), zz_ev tX2_workOnce 27 L (.ref 7 :: r) M = zz_ev tX2_workOnce 30 L (.int (M.1 7 3) :: r) M) ∧
  (∀ (L : zzLc) (r : List Value) (M : zzMd), zz_ev tX2_workOnce 27 L (.ref 8 :: r) M = zz_ev tX2_workOnce 30 L (.int (M.1 8 3) :: r) M) ∧
  (∀ (L : zzLc) (r : List Value) (M : zzMd), zz_ev tX2_workOnce 27 L (.ref 9 :: r) M = zz_ev tX2_workOnce 30 L (.int (M.1 9 3) :: r) M) ∧
  (∀ (L : zzLc) (r : List Value) (M : zzMd), zz_ev tX2_workOnce 27 L (.ref 10 :: r) M = zz_ev tX2_workOnce 30 L (.int (M.1 10 3) :: r) M) ∧
  (∀ L st M, zz_ev tX2_workOnce 30 L st M = zo_icmp (fun x y => decide (x ≤ y)) 37 33 (zz_ev tX2_workOnce) L st M) ∧
  (∀ L st M, zz_ev tX2_workOnce 33 L st M = zo_pushI 2 34 (zz_ev tX2_workOnce) L st M) ∧
  (∀ L st M, zz_ev tX2_workOnce 34 L st M = zo_goto 42 (zz_ev tX2_workOnce) L st M) ∧
  (∀ L st M, zz_ev tX2_workOnce 37 L st M = zo_aload 0 38 (zz_ev tX2_workOnce) L st M) ∧
  (∀ L st M, zz_ev tX2_workOnce 38 L st M = zo_iload 1 39 (zz_ev tX2_workOnce) L st M) ∧
  (∀ (L : zzLc) (a0 : Int32) (r : List Value) (M : zzMd), zz_ev tX2_workOnce 39 L (.int a0 :: .ref 8 :: r) M = bif zz_cat8 r then zz_backN (zz_ev tX2_workOnce) 42 L r (fX1_serve [.ref 8, .int a0] M) else none) ∧
  (∀ (L : zzLc) (a0 : Int32) (r : List Value) (M : zzMd), zz_ev tX2_workOnce 39 L (.int a0 :: .ref 3 :: r) M = bif zz_cat8 r then zz_backN (zz_ev tX2_workOnce) 42 L r (fX3_serve [.ref 3, .int a0] M) else none) ∧
  (∀ (L : zzLc) (a0 : Int32) (r : List Value) (M : zzMd), zz_ev tX2_workOnce 39 L (.int a0 :: .ref 4 :: r) M = bif zz_cat8 r then zz_backN (zz_ev tX2_workOnce) 42 L r (fX4_serve [.ref 4, .int a0] M) else none) ∧
  (∀ (L : zzLc) (a0 : Int32) (r : List Value) (M : zzMd), zz_ev tX2_workOnce 39 L (.int a0 :: .ref 5 :: r) M = bif zz_cat8 r then zz_backN (zz_ev tX2_workOnce) 42 L r (fX4_serve [.ref 5, .int a0] M) else none) ∧
  (∀ (L : zzLc) (a0 : Int32) (r : List Value) (M : zzMd), zz_ev tX2_workOnce 39 L (.int a0 :: .ref 9 :: r) M = bif zz_cat8 r then zz_backN (zz_ev tX2_workOnce) 42 L r (fX5_serve [.ref 9, .int a0] M) else none) ∧
  (∀ (L : zzLc) (a0 : Int32) (r : List Value) (M : zzMd), zz_ev tX2_workOnce 39 L (.int a0 :: .ref 7 :: r) M = bif zz_cat8 r then zz_backN (zz_ev tX2_workOnce) 42 L r (fX6_serve [.ref 7, .int a0] M) else none) ∧
  (∀ (L : zzLc) (a0 : Int32) (r : List Value) (M : zzMd), zz_ev tX2_workOnce 39 L (.int a0 :: .ref 10 :: r) M = bif zz_cat8 r then zz_backN (zz_ev tX2_workOnce) 42 L r (fX7_serve [.ref 10, .int a0] M) else none) ∧
  (∀ (L : zzLc) (a0 : Int32) (r : List Value) (M : zzMd), zz_ev tX2_workOnce 39 L (.int a0 :: .ref 6 :: r) M = bif zz_cat8 r then zz_backN (zz_ev tX2_workOnce) 42 L r (fX8_serve [.ref 6, .int a0] M) else none) ∧
  (∀ L st M, zz_ev tX2_workOnce 42 L st M = zo_istore 3 43 (zz_ev tX2_workOnce) L st M) ∧
  (∀ L st M, zz_ev tX2_workOnce 43 L st M = zo_aload 0 44 (zz_ev tX2_workOnce) L st M) ∧
  (∀ (L : zzLc) (r : List Value) (M : zzMd), zz_ev tX2_workOnce 44 L (.ref 3 :: r) M = zz_ev tX2_workOnce 47 L (.ref 1 :: r) M) ∧
  (∀ (L : zzLc) (r : List Value) (M : zzMd), zz_ev tX2_workOnce 44 L (.ref 4 :: r) M = zz_ev tX2_workOnce 47 L (.ref 1 :: r) M) ∧
  (∀ (L : zzLc) (r : List Value) (M : zzMd), zz_ev tX2_workOnce 44 L (.ref 5 :: r) M = zz_ev tX2_workOnce 47 L (.ref 1 :: r) M) ∧
  (∀ (L : zzLc) (r : List Value) (M : zzMd), zz_ev tX2_workOnce 44 L (.ref 6 :: r) M = zz_ev tX2_workOnce 47 L (.ref 1 :: r) M) ∧
  (∀ (L : zzLc) (r : List Value) (M : zzMd), zz_ev tX2_workOnce 44 L (.ref 7 :: r) M = zz_ev tX2_workOnce 47 L (.ref 1 :: r) M) ∧
  (∀ (L : zzLc) (r : List Value) (M : zzMd), zz_ev tX2_workOnce 44 L (.ref 8 :: r) M = zz_ev tX2_workOnce 47 L (.ref 1 :: r) M) ∧
  (∀ (L : zzLc) (r : List Value) (M : zzMd), zz_ev tX2_workOnce 44 L (.ref 9 :: r) M = zz_ev tX2_workOnce 47 L (.ref 1 :: r) M) ∧
  (∀ (L : zzLc) (r : List Value) (M : zzMd), zz_ev tX2_workOnce 44 L (.ref 10 :: r) M = zz_ev tX2_workOnce 47 L (.ref 1 :: r) M) ∧
  (∀ (L : zzLc) (r : List Value) (M : zzMd), zz_ev tX2_workOnce 47 L (.ref 1 :: r) M = zz_ev tX2_workOnce 50 L (.int (M.1 1 3) :: r) M) ∧
  (∀ L st M, zz_ev tX2_workOnce 50 L st M = zo_iload 2 51 (zz_ev tX2_workOnce) L st M) ∧
  (∀ L st M, zz_ev tX2_workOnce 51 L st M = zo_icmp (fun x y => decide (x ≤ y)) 67 54 (zz_ev tX2_workOnce) L st M) ∧
  (∀ L st M, zz_ev tX2_workOnce 54 L st M = zo_aload 0 55 (zz_ev tX2_workOnce) L st M) ∧
  (∀ (L : zzLc) (r : List Value) (M : zzMd), zz_ev tX2_workOnce 55 L (.ref 3 :: r) M = zz_ev tX2_workOnce 58 L (.ref 26 :: r) M) ∧
  (∀ (L : zzLc) (r : List Value) (M : zzMd), zz_ev tX2_workOnce 55 L (.ref 4 :: r) M = zz_ev tX2_workOnce 58 L (.ref 32 :: r) M) ∧
  (∀ (L : zzLc) (r : List Value) (M : zzMd), zz_ev tX2_workOnce 55 L (.ref 5 :: r) M = zz_ev tX2_workOnce 58 L (.ref 38 :: r) M) ∧
  (∀ (L : zzLc) (r : List Value) (M : zzMd), zz_ev tX2_workOnce 55 L (.ref 6 :: r) M = zz_ev tX2_workOnce 58 L (.ref 44 :: r) M) ∧
  (∀ (L : zzLc) (r : List Value) (M : zzMd), zz_ev tX2_workOnce 55 L (.ref 7 :: r) M = zz_ev tX2_workOnce 58 L (.ref 50 :: r) M) ∧
  (∀ (L : zzLc) (r : List Value) (M : zzMd), zz_ev tX2_workOnce 55 L (.ref 8 :: r) M = zz_ev tX2_workOnce 58 L (.ref 56 :: r) M) ∧
  (∀ (L : zzLc) (r : List Value) (M : zzMd), zz_ev tX2_workOnce 55 L (.ref 9 :: r) M = zz_ev tX2_workOnce 58 L (.ref 62 :: r) M) ∧
  (∀ (L : zzLc) (r : List Value) (M : zzMd), zz_ev tX2_workOnce 55 L (.ref 10 :: r) M = zz_ev tX2_workOnce 58 L (.ref 68 :: r) M) ∧
  (∀ L st M, zz_ev tX2_workOnce 58 L st M = zo_iload 1 59 (zz_ev tX2_workOnce) L st M) ∧
  (∀ L st M, zz_ev tX2_workOnce 59 L st M = zo_aload 0 60 (zz_ev tX2_workOnce) L st M) ∧
  (∀ (L : zzLc) (r : List Value) (M : zzMd), zz_ev tX2_workOnce 60 L (.ref 3 :: r) M = zz_ev tX2_workOnce 63 L (.ref 1 :: r) M) ∧
  (∀ (L : zzLc) (r : List Value) (M : zzMd), zz_ev tX2_workOnce 60 L (.ref 4 :: r) M = zz_ev tX2_workOnce 63 L (.ref 1 :: r) M) ∧
  (∀ (L : zzLc) (r : List Value) (M : zzMd), zz_ev tX2_workOnce 60 L (.ref 5 :: r) M = zz_ev tX2_workOnce 63 L (.ref 1 :: r) M) ∧
  (∀ (L : zzLc) (r : List Value) (M : zzMd), zz_ev tX2_workOnce 60 L (.ref 6 :: r) M = zz_ev tX2_workOnce 63 L (.ref 1 :: r) M) ∧
  (∀ (L : zzLc) (r : List Value) (M : zzMd), zz_ev tX2_workOnce 60 L (.ref 7 :: r) M = zz_ev tX2_workOnce 63 L (.ref 1 :: r) M) ∧
  (∀ (L : zzLc) (r : List Value) (M : zzMd), zz_ev tX2_workOnce 60 L (.ref 8 :: r) M = zz_ev tX2_workOnce 63 L (.ref 1 :: r) M) ∧
  (∀ (L : zzLc) (r : List Value) (M : zzMd), zz_ev tX2_workOnce 60 L (.ref 9 :: r) M = zz_ev tX2_workOnce 63 L (.ref 1 :: r) M) ∧
  (∀ (L : zzLc) (r : List Value) (M : zzMd), zz_ev tX2_workOnce 60 L (.ref 10 :: r) M = zz_ev tX2_workOnce 63 L (.ref 1 :: r) M) ∧
  (∀ (L : zzLc) (r : List Value) (M : zzMd), zz_ev tX2_workOnce 63 L (.ref 1 :: r) M = zz_ev tX2_workOnce 66 L (.int (M.1 1 3) :: r) M) ∧
  (∀ L st M, zz_ev tX2_workOnce 66 L st M = zo_iast zzSC 67 (zz_ev tX2_workOnce) L st M) ∧
  (∀ L st M, zz_ev tX2_workOnce 67 L st M = zo_iload 3 68 (zz_ev tX2_workOnce) L st M) ∧
  (∀ L st M, zz_ev tX2_workOnce 68 L st M = zo_pushI 1 69 (zz_ev tX2_workOnce) L st M) ∧
  (∀ L st M, zz_ev tX2_workOnce 69 L st M = zo_icmp (fun x y => decide (¬ x = y)) 81 72 (zz_ev tX2_workOnce) L st M) ∧
  (∀ L st M, zz_ev tX2_workOnce 72 L st M = zo_aload 0 73 (zz_ev tX2_workOnce) L st M) ∧
  (∀ (L : zzLc) (r : List Value) (M : zzMd), zz_ev tX2_workOnce 73 L (.ref 3 :: r) M = zz_ev tX2_workOnce 76 L (.ref 24 :: r) M) ∧
  (∀ (L : zzLc) (r : List Value) (M : zzMd), zz_ev tX2_workOnce 73 L (.ref 4 :: r) M = zz_ev tX2_workOnce 76 L (.ref 30 :: r) M) ∧
  (∀ (L : zzLc) (r : List Value) (M : zzMd), zz_ev tX2_workOnce 73 L (.ref 5 :: r) M = zz_ev tX2_workOnce 76 L (.ref 36 :: r) M) ∧
  (∀ (L : zzLc) (r : List Value) (M : zzMd), zz_ev tX2_workOnce 73 L (.ref 6 :: r) M = zz_ev tX2_workOnce 76 L (.ref 42 :: r) M) ∧
  (∀ (L : zzLc) (r : List Value) (M : zzMd), zz_ev tX2_workOnce 73 L (.ref 7 :: r) M = zz_ev tX2_workOnce 76 L (.ref 48 :: r) M) ∧
  (∀ (L : zzLc) (r : List Value) (M : zzMd), zz_ev tX2_workOnce 73 L (.ref 8 :: r) M = zz_ev tX2_workOnce 76 L (.ref 54 :: r) M) ∧
  (∀ (L : zzLc) (r : List Value) (M : zzMd), zz_ev tX2_workOnce 73 L (.ref 9 :: r) M = zz_ev tX2_workOnce 76 L (.ref 60 :: r) M) ∧
  (∀ (L : zzLc) (r : List Value) (M : zzMd), zz_ev tX2_workOnce 73 L (.ref 10 :: r) M = zz_ev tX2_workOnce 76 L (.ref 66 :: r) M) ∧
  (∀ L st M, zz_ev tX2_workOnce 76 L st M = zo_iload 1 77 (zz_ev tX2_workOnce) L st M) ∧
  (∀ L st M, zz_ev tX2_workOnce 77 L st M = zo_pushI 0 78 (zz_ev tX2_workOnce) L st M) ∧
  (∀ L st M, zz_ev tX2_workOnce 78 L st M = zo_iast zzSC 79 (zz_ev tX2_workOnce) L st M) ∧
  (∀ L st M, zz_ev tX2_workOnce 79 L st M = zo_pushI 1 80 (zz_ev tX2_workOnce) L st M) ∧
  (∀ L st M, zz_ev tX2_workOnce 80 L st M = zo_iret false (zz_ev tX2_workOnce) L st M) ∧
  (∀ L st M, zz_ev tX2_workOnce 81 L st M = zo_iload 3 82 (zz_ev tX2_workOnce) L st M) ∧
  (∀ L st M, zz_ev tX2_workOnce 82 L st M = zo_pushI 3 83 (zz_ev tX2_workOnce) L st M) ∧
  (∀ L st M, zz_ev tX2_workOnce 83 L st M = zo_icmp (fun x y => decide (¬ x = y)) 91 86 (zz_ev tX2_workOnce) L st M) ∧
  (∀ L st M, zz_ev tX2_workOnce 86 L st M = zo_aload 0 87 (zz_ev tX2_workOnce) L st M) ∧
  (∀ L st M, zz_ev tX2_workOnce 87 L st M = zo_iload 1 88 (zz_ev tX2_workOnce) L st M) ∧
  (∀ (L : zzLc) (a0 : Int32) (r : List Value) (M : zzMd), zz_ev tX2_workOnce 88 L (.int a0 :: .ref 8 :: r) M = bif zz_cat8 r then zz_backN (zz_ev tX2_workOnce) 91 L r (fX2_noteFailure [.ref 8, .int a0] M) else none) ∧
  (∀ (L : zzLc) (a0 : Int32) (r : List Value) (M : zzMd), zz_ev tX2_workOnce 88 L (.int a0 :: .ref 3 :: r) M = bif zz_cat8 r then zz_backN (zz_ev tX2_workOnce) 91 L r (fX2_noteFailure [.ref 3, .int a0] M) else none) ∧
  (∀ (L : zzLc) (a0 : Int32) (r : List Value) (M : zzMd), zz_ev tX2_workOnce 88 L (.int a0 :: .ref 4 :: r) M = bif zz_cat8 r then zz_backN (zz_ev tX2_workOnce) 91 L r (fX2_noteFailure [.ref 4, .int a0] M) else none) ∧
  (∀ (L : zzLc) (a0 : Int32) (r : List Value) (M : zzMd), zz_ev tX2_workOnce 88 L (.int a0 :: .ref 5 :: r) M = bif zz_cat8 r then zz_backN (zz_ev tX2_workOnce) 91 L r (fX2_noteFailure [.ref 5, .int a0] M) else none) ∧
  (∀ (L : zzLc) (a0 : Int32) (r : List Value) (M : zzMd), zz_ev tX2_workOnce 88 L (.int a0 :: .ref 9 :: r) M = bif zz_cat8 r then zz_backN (zz_ev tX2_workOnce) 91 L r (fX2_noteFailure [.ref 9, .int a0] M) else none) ∧
  (∀ (L : zzLc) (a0 : Int32) (r : List Value) (M : zzMd), zz_ev tX2_workOnce 88 L (.int a0 :: .ref 7 :: r) M = bif zz_cat8 r then zz_backN (zz_ev tX2_workOnce) 91 L r (fX2_noteFailure [.ref 7, .int a0] M) else none) ∧
  (∀ (L : zzLc) (a0 : Int32) (r : List Value) (M : zzMd), zz_ev tX2_workOnce 88 L (.int a0 :: .ref 10 :: r) M = bif zz_cat8 r then zz_backN (zz_ev tX2_workOnce) 91 L r (fX2_noteFailure [.ref 10, .int a0] M) else none) ∧
  (∀ (L : zzLc) (a0 : Int32) (r : List Value) (M : zzMd), zz_ev tX2_workOnce 88 L (.int a0 :: .ref 6 :: r) M = bif zz_cat8 r then zz_backN (zz_ev tX2_workOnce) 91 L r (fX2_noteFailure [.ref 6, .int a0] M) else none) ∧
  (∀ L st M, zz_ev tX2_workOnce 91 L st M = zo_aload 0 92 (zz_ev tX2_workOnce) L st M) ∧
  (∀ L st M, zz_ev tX2_workOnce 92 L st M = zo_iload 1 93 (zz_ev tX2_workOnce) L st M) ∧
  (∀ (L : zzLc) (a0 : Int32) (r : List Value) (M : zzMd), zz_ev tX2_workOnce 93 L (.int a0 :: .ref 8 :: r) M = bif zz_cat8 r then zz_backN (zz_ev tX2_workOnce) 96 L r (fX2_enqueue [.ref 8, .int a0] M) else none) ∧
  (∀ (L : zzLc) (a0 : Int32) (r : List Value) (M : zzMd), zz_ev tX2_workOnce 93 L (.int a0 :: .ref 3 :: r) M = bif zz_cat8 r then zz_backN (zz_ev tX2_workOnce) 96 L r (fX2_enqueue [.ref 3, .int a0] M) else none) ∧
  (∀ (L : zzLc) (a0 : Int32) (r : List Value) (M : zzMd), zz_ev tX2_workOnce 93 L (.int a0 :: .ref 4 :: r) M = bif zz_cat8 r then zz_backN (zz_ev tX2_workOnce) 96 L r (fX2_enqueue [.ref 4, .int a0] M) else none) ∧
  (∀ (L : zzLc) (a0 : Int32) (r : List Value) (M : zzMd), zz_ev tX2_workOnce 93 L (.int a0 :: .ref 5 :: r) M = bif zz_cat8 r then zz_backN (zz_ev tX2_workOnce) 96 L r (fX2_enqueue [.ref 5, .int a0] M) else none) ∧
  (∀ (L : zzLc) (a0 : Int32) (r : List Value) (M : zzMd), zz_ev tX2_workOnce 93 L (.int a0 :: .ref 9 :: r) M = bif zz_cat8 r then zz_backN (zz_ev tX2_workOnce) 96 L r (fX2_enqueue [.ref 9, .int a0] M) else none) ∧
  (∀ (L : zzLc) (a0 : Int32) (r : List Value) (M : zzMd), zz_ev tX2_workOnce 93 L (.int a0 :: .ref 7 :: r) M = bif zz_cat8 r then zz_backN (zz_ev tX2_workOnce) 96 L r (fX2_enqueue [.ref 7, .int a0] M) else none) ∧
  (∀ (L : zzLc) (a0 : Int32) (r : List Value) (M : zzMd), zz_ev tX2_workOnce 93 L (.int a0 :: .ref 10 :: r) M = bif zz_cat8 r then zz_backN (zz_ev tX2_workOnce) 96 L r (fX2_enqueue [.ref 10, .int a0] M) else none) ∧
  (∀ (L : zzLc) (a0 : Int32) (r : List Value) (M : zzMd), zz_ev tX2_workOnce 93 L (.int a0 :: .ref 6 :: r) M = bif zz_cat8 r then zz_backN (zz_ev tX2_workOnce) 96 L r (fX2_enqueue [.ref 6, .int a0] M) else none) ∧
  (∀ L st M, zz_ev tX2_workOnce 96 L st M = zo_iload 3 97 (zz_ev tX2_workOnce) L st M) ∧
  (∀ L st M, zz_ev tX2_workOnce 97 L st M = zo_iret false (zz_ev tX2_workOnce) L st M) :=
  ⟨zz_1 rfl tl_X2_workOnce, fun L  r M => (zz_1 rfl tl_X2_workOnce _ _ _).trans rfl, fun L  r M => (zz_1 rfl tl_X2_workOnce _ _ _).trans rfl, fun L  r M => (zz_1 rfl tl_X2_workOnce _ _ _).trans rfl, fun L  r M => (zz_1 rfl tl_X2_workOnce _ _ _).trans rfl, fun L  r M => (zz_1 rfl tl_X2_workOnce _ _ _).trans rfl, fun L  r M => (zz_1 rfl tl_X2_workOnce _ _ _).trans rfl, fun L  r M => (zz_1 rfl tl_X2_workOnce _ _ _).trans rfl, fun L  r M => (zz_1 rfl tl_X2_workOnce _ _ _).trans rfl, zz_1 rfl tl_X2_workOnce, zz_1 rfl tl_X2_workOnce, zz_1 rfl tl_X2_workOnce, zz_1 rfl tl_X2_workOnce, zz_1 rfl tl_X2_workOnce, zz_1 rfl tl_X2_workOnce, zz_1 rfl tl_X2_workOnce, fun L r M => (zz_1 rfl tl_X2_workOnce _ _ _).trans rfl, fun L r M => (zz_1 rfl tl_X2_workOnce _ _ _).trans rfl, fun L r M => (zz_1 rfl tl_X2_workOnce _ _ _).trans rfl, fun L r M => (zz_1 rfl tl_X2_workOnce _ _ _).trans rfl, fun L r M => (zz_1 rfl tl_X2_workOnce _ _ _).trans rfl, fun L r M => (zz_1 rfl tl_X2_workOnce _ _ _).trans rfl, fun L r M => (zz_1 rfl tl_X2_workOnce _ _ _).trans rfl, fun L r M => (zz_1 rfl tl_X2_workOnce _ _ _).trans rfl, fun L r M => (zz_1 rfl tl_X2_workOnce _ _ _).trans rfl, zz_1 rfl tl_X2_workOnce, zz_1 rfl tl_X2_workOnce, fun L r M => (zz_1 rfl tl_X2_workOnce _ _ _).trans rfl, fun L r M => (zz_1 rfl tl_X2_workOnce _ _ _).trans rfl, fun L r M => (zz_1 rfl tl_X2_workOnce _ _ _).trans rfl, fun L r M => (zz_1 rfl tl_X2_workOnce _ _ _).trans rfl, fun L r M => (zz_1 rfl tl_X2_workOnce _ _ _).trans rfl, fun L r M => (zz_1 rfl tl_X2_workOnce _ _ _).trans rfl, fun L r M => (zz_1 rfl tl_X2_workOnce _ _ _).trans rfl, fun L r M => (zz_1 rfl tl_X2_workOnce _ _ _).trans rfl, zz_1 rfl tl_X2_workOnce, zz_1 rfl tl_X2_workOnce, zz_1 rfl tl_X2_workOnce, fun L r M => (zz_1 rfl tl_X2_workOnce _ _ _).trans rfl, fun L r M => (zz_1 rfl tl_X2_workOnce _ _ _).trans rfl, fun L r M => (zz_1 rfl tl_X2_workOnce _ _ _).trans rfl, fun L r M => (zz_1 rfl tl_X2_workOnce _ _ _).trans rfl, fun L r M => (zz_1 rfl tl_X2_workOnce _ _ _).trans rfl, fun L r M => (zz_1 rfl tl_X2_workOnce _ _ _).trans rfl, fun L r M => (zz_1 rfl tl_X2_workOnce _ _ _).trans rfl, fun L r M => (zz_1 rfl tl_X2_workOnce _ _ _).trans rfl, zz_1 rfl tl_X2_workOnce, zz_1 rfl tl_X2_workOnce, zz_1 rfl tl_X2_workOnce, zz_1 rfl tl_X2_workOnce, zz_1 rfl tl_X2_workOnce, fun L a0 r M => (zz_1 rfl tl_X2_workOnce _ _ _).trans rfl, fun L a0 r M => (zz_1 rfl tl_X2_workOnce _ _ _).trans rfl, fun L a0 r M => (zz_1 rfl tl_X2_workOnce _ _ _).trans rfl, fun L a0 r M => (zz_1 rfl tl_X2_workOnce _ _ _).trans rfl, fun L a0 r M => (zz_1 rfl tl_X2_workOnce _ _ _).trans rfl, fun L a0 r M => (zz_1 rfl tl_X2_workOnce _ _ _).trans rfl, fun L a0 r M => (zz_1 rfl tl_X2_workOnce _ _ _).trans rfl, fun L a0 r M => (zz_1 rfl tl_X2_workOnce _ _ _).trans rfl, zz_1 rfl tl_X2_workOnce, zz_1 rfl tl_X2_workOnce, fun L r M => (zz_1 rfl tl_X2_workOnce _ _ _).trans rfl, fun L r M => (zz_1 rfl tl_X2_workOnce _ _ _).trans rfl, fun L r M => (zz_1 rfl tl_X2_workOnce _ _ _).trans rfl, fun L r M => (zz_1 rfl tl_X2_workOnce _ _ _).trans rfl, fun L r M => (zz_1 rfl tl_X2_workOnce _ _ _).trans rfl, fun L r M => (zz_1 rfl tl_X2_workOnce _ _ _).trans rfl, fun L r M => (zz_1 rfl tl_X2_workOnce _ _ _).trans rfl, fun L r M => (zz_1 rfl tl_X2_workOnce _ _ _).trans rfl, fun L r M => (zz_1 rfl tl_X2_workOnce _ _ _).trans rfl, zz_1 rfl tl_X2_workOnce, zz_1 rfl tl_X2_workOnce, zz_1 rfl tl_X2_workOnce, fun L r M => (zz_1 rfl tl_X2_workOnce _ _ _).trans rfl, fun L r M => (zz_1 rfl tl_X2_workOnce _ _ _).trans rfl, fun L r M => (zz_1 rfl tl_X2_workOnce _ _ _).trans rfl, fun L r M => (zz_1 rfl tl_X2_workOnce _ _ _).trans rfl, fun L r M => (zz_1 rfl tl_X2_workOnce _ _ _).trans rfl, fun L r M => (zz_1 rfl tl_X2_workOnce _ _ _).trans rfl, fun L r M => (zz_1 rfl tl_X2_workOnce _ _ _).trans rfl, fun L r M => (zz_1 rfl tl_X2_workOnce _ _ _).trans rfl, zz_1 rfl tl_X2_workOnce, zz_1 rfl tl_X2_workOnce, fun L r M => (zz_1 rfl tl_X2_workOnce _ _ _).trans rfl, fun L r M => (zz_1 rfl tl_X2_workOnce _ _ _).trans rfl, fun L r M => (zz_1 rfl tl_X2_workOnce _ _ _).trans rfl, fun L r M => (zz_1 rfl tl_X2_workOnce _ _ _).trans rfl, fun L r M => (zz_1 rfl tl_X2_workOnce _ _ _).trans rfl, fun L r M => (zz_1 rfl tl_X2_workOnce _ _ _).trans rfl, fun L r M => (zz_1 rfl tl_X2_workOnce _ _ _).trans rfl, fun L r M => (zz_1 rfl tl_X2_workOnce _ _ _).trans rfl, fun L r M => (zz_1 rfl tl_X2_workOnce _ _ _).trans rfl, zz_1 rfl tl_X2_workOnce, zz_1 rfl tl_X2_workOnce, zz_1 rfl tl_X2_workOnce, zz_1 rfl tl_X2_workOnce, zz_1 rfl tl_X2_workOnce, fun L r M => (zz_1 rfl tl_X2_workOnce _ _ _).trans rfl, fun L r M => (zz_1 rfl tl_X2_workOnce _ _ _).trans rfl, fun L r M => (zz_1 rfl tl_X2_workOnce _ _ _).trans rfl, fun L r M => (zz_1 rfl tl_X2_workOnce _ _ _).trans rfl, fun L r M => (zz_1 rfl tl_X2_workOnce _ _ _).trans rfl, fun L r M => (zz_1 rfl tl_X2_workOnce _ _ _).trans rfl, fun L r M => (zz_1 rfl tl_X2_workOnce _ _ _).trans rfl, fun L r M => (zz_1 rfl tl_X2_workOnce _ _ _).trans rfl, zz_1 rfl tl_X2_workOnce, zz_1 rfl tl_X2_workOnce, zz_1 rfl tl_X2_workOnce, zz_1 rfl tl_X2_workOnce, zz_1 rfl tl_X2_workOnce, zz_1 rfl tl_X2_workOnce, zz_1 rfl tl_X2_workOnce, zz_1 rfl tl_X2_workOnce, zz_1 rfl tl_X2_workOnce, zz_1 rfl tl_X2_workOnce, fun L a0 r M => (zz_1 rfl tl_X2_workOnce _ _ _).trans rfl, fun L a0 r M => (zz_1 rfl tl_X2_workOnce _ _ _).trans rfl, fun L a0 r M => (zz_1 rfl tl_X2_workOnce _ _ _).trans rfl, fun L a0 r M => (zz_1 rfl tl_X2_workOnce _ _ _).trans rfl, fun L a0 r M => (zz_1 rfl tl_X2_workOnce _ _ _).trans rfl, fun L a0 r M => (zz_1 rfl tl_X2_workOnce _ _ _).trans rfl, fun L a0 r M => (zz_1 rfl tl_X2_workOnce _ _ _).trans rfl, fun L a0 r M => (zz_1 rfl tl_X2_workOnce _ _ _).trans rfl, zz_1 rfl tl_X2_workOnce, zz_1 rfl tl_X2_workOnce, fun L a0 r M => (zz_1 rfl tl_X2_workOnce _ _ _).trans rfl, fun L a0 r M => (zz_1 rfl tl_X2_workOnce _ _ _).trans rfl, fun L a0 r M => (zz_1 rfl tl_X2_workOnce _ _ _).trans rfl, fun L a0 r M => (zz_1 rfl tl_X2_workOnce _ _ _).trans rfl, fun L a0 r M => (zz_1 rfl tl_X2_workOnce _ _ _).trans rfl, fun L a0 r M => (zz_1 rfl tl_X2_workOnce _ _ _).trans rfl, fun L a0 r M => (zz_1 rfl tl_X2_workOnce _ _ _).trans rfl, fun L a0 r M => (zz_1 rfl tl_X2_workOnce _ _ _).trans rfl, zz_1 rfl tl_X2_workOnce, zz_1 rfl tl_X2_workOnce⟩
set_option maxRecDepth 100000 in
theorem s_X2_workOnce (v : Nat) (M : zzMd) : fX2_workOnce [.ref v] M = zz_ev tX2_workOnce 0 [some (.ref v), none, none, none] [] M := rfl
set_option maxRecDepth 100000 in
theorem e_X11_isCaller : (∀ L st M, zz_ev tX11_isCaller 0 L st M = zo_iload 0 1 (zz_ev tX11_isCaller) L st M) ∧
  (∀ L st M, zz_ev tX11_isCaller 1 L st M = zo_if (fun x => decide (x < 0)) 13 4 (zz_ev tX11_isCaller) L st M) ∧
  (∀ L st M, zz_ev tX11_isCaller 4 L st M = zo_iload 0 5 (zz_ev tX11_isCaller) L st M) ∧
  (∀ L st M, zz_ev tX11_isCaller 5 L st M = zo_pushI 4 6 (zz_ev tX11_isCaller) L st M) ∧
  (∀ L st M, zz_ev tX11_isCaller 6 L st M = zo_icmp (fun x y => decide (y ≤ x)) 13 9 (zz_ev tX11_isCaller) L st M) ∧
  (∀ L st M, zz_ev tX11_isCaller 9 L st M = zo_pushI 1 10 (zz_ev tX11_isCaller) L st M) ∧
  (∀ L st M, zz_ev tX11_isCaller 10 L st M = zo_goto 14 (zz_ev tX11_isCaller) L st M) ∧
  (∀ L st M, zz_ev tX11_isCaller 13 L st M = zo_pushI 0 14 (zz_ev tX11_isCaller) L st M) ∧
  (∀ L st M, zz_ev tX11_isCaller 14 L st M = zo_iret true (zz_ev tX11_isCaller) L st M) :=
  ⟨zz_1 rfl tl_X11_isCaller, zz_1 rfl tl_X11_isCaller, zz_1 rfl tl_X11_isCaller, zz_1 rfl tl_X11_isCaller, zz_1 rfl tl_X11_isCaller, zz_1 rfl tl_X11_isCaller, zz_1 rfl tl_X11_isCaller, zz_1 rfl tl_X11_isCaller, zz_1 rfl tl_X11_isCaller⟩
set_option maxRecDepth 100000 in
theorem s_X11_isCaller (a0 : Int32) (M : zzMd) : fX11_isCaller [.int a0] M = zz_ev tX11_isCaller 0 [some (.int a0)] [] M := rfl
set_option maxRecDepth 100000 in
theorem e_X11_make : (∀ L st M, zz_ev tX11_make 0 L st M = zo_iload 1 1 (zz_ev tX11_make) L st M) ∧
  (∀ (L : zzLc) (a0 : Int32) (r : List Value) (M : zzMd), zz_ev tX11_make 1 L (.int a0 :: r) M = bif zz_cat8 r then zz_backN (zz_ev tX11_make) 4 L r (fX11_isCaller [.int a0] M) else none) ∧
  (∀ L st M, zz_ev tX11_make 4 L st M = zo_if (fun x => decide (x = 0)) 14 7 (zz_ev tX11_make) L st M) ∧
  (∀ L st M, zz_ev tX11_make 7 L st M = zo_iload 2 8 (zz_ev tX11_make) L st M) ∧
  (∀ (L : zzLc) (a0 : Int32) (r : List Value) (M : zzMd), zz_ev tX11_make 8 L (.int a0 :: r) M = bif zz_cat8 r then zz_backN (zz_ev tX11_make) 11 L r (fX11_isKind [.int a0] M) else none) ∧
  (∀ L st M, zz_ev tX11_make 11 L st M = zo_if (fun x => decide (¬ x = 0)) 24 14 (zz_ev tX11_make) L st M) ∧
  (∀ L st M, zz_ev tX11_make 14 L st M = zo_throw 0 (zz_ev tX11_make) L st M) ∧
  (∀ L st M, zz_ev tX11_make 24 L st M = zo_aload 0 25 (zz_ev tX11_make) L st M) ∧
  (∀ (L : zzLc) (r : List Value) (M : zzMd), zz_ev tX11_make 25 L (.ref 0 :: r) M = zz_ev tX11_make 28 L (.ref 1 :: r) M) ∧
  (∀ L st M, zz_ev tX11_make 28 L st M = zo_iload 1 29 (zz_ev tX11_make) L st M) ∧
  (∀ L st M, zz_ev tX11_make 29 L st M = zo_iload 2 30 (zz_ev tX11_make) L st M) ∧
  (∀ L st M, zz_ev tX11_make 30 L st M = zo_pushI (-1) 31 (zz_ev tX11_make) L st M) ∧
  (∀ L st M, zz_ev tX11_make 31 L st M = zo_gets 1002 34 (zz_ev tX11_make) L st M) ∧
  (∀ L st M, zz_ev tX11_make 34 L st M = zo_pushI 1 35 (zz_ev tX11_make) L st M) ∧
  (∀ L st M, zz_ev tX11_make 35 L st M = zo_iald zzSC zzSTC 36 (zz_ev tX11_make) L st M) ∧
  (∀ (L : zzLc) (a0 a1 a2 a3 : Int32) (r : List Value) (M : zzMd), zz_ev tX11_make 36 L (.int a3 :: .int a2 :: .int a1 :: .int a0 :: .ref 1 :: r) M = bif zz_cat8 r then zz_backN (zz_ev tX11_make) 39 L r (fX9_open [.ref 1, .int a0, .int a1, .int a2, .int a3] M) else none) ∧
  (∀ L st M, zz_ev tX11_make 39 L st M = zo_istore 3 40 (zz_ev tX11_make) L st M) ∧
  (∀ L st M, zz_ev tX11_make 40 L st M = zo_iload 3 41 (zz_ev tX11_make) L st M) ∧
  (∀ L st M, zz_ev tX11_make 41 L st M = zo_pushI (-1) 42 (zz_ev tX11_make) L st M) ∧
  (∀ L st M, zz_ev tX11_make 42 L st M = zo_icmp (fun x y => decide (¬ x = y)) 55 45 (zz_ev tX11_make) L st M) ∧
  (∀ L st M, zz_ev tX11_make 45 L st M = zo_throw 1 (zz_ev tX11_make) L st M) ∧
  (∀ L st M, zz_ev tX11_make 55 L st M = zo_iload 3 56 (zz_ev tX11_make) L st M) ∧
  (∀ L st M, zz_ev tX11_make 56 L st M = zo_iret false (zz_ev tX11_make) L st M) :=
  ⟨zz_1 rfl tl_X11_make, fun L a0 r M => (zz_1 rfl tl_X11_make _ _ _).trans rfl, zz_1 rfl tl_X11_make, zz_1 rfl tl_X11_make, fun L a0 r M => (zz_1 rfl tl_X11_make _ _ _).trans rfl, zz_1 rfl tl_X11_make, zz_1 rfl tl_X11_make, zz_1 rfl tl_X11_make, fun L r M => (zz_1 rfl tl_X11_make _ _ _).trans rfl, zz_1 rfl tl_X11_make, zz_1 rfl tl_X11_make, zz_1 rfl tl_X11_make, zz_1 rfl tl_X11_make, zz_1 rfl tl_X11_make, zz_1 rfl tl_X11_make, fun L a0 a1 a2 a3 r M => (zz_1 rfl tl_X11_make _ _ _).trans rfl, zz_1 rfl tl_X11_make, zz_1 rfl tl_X11_make, zz_1 rfl tl_X11_make, zz_1 rfl tl_X11_make, zz_1 rfl tl_X11_make, zz_1 rfl tl_X11_make, zz_1 rfl tl_X11_make⟩
set_option maxRecDepth 100000 in
theorem s_X11_make (a0 a1 : Int32) (v : Nat) (M : zzMd) : fX11_make [.ref v, .int a0, .int a1] M = zz_ev tX11_make 0 [some (.ref v), some (.int a0), some (.int a1), none] [] M := rfl
set_option maxRecDepth 100000 in
theorem e_X11_requireObject : (∀ L st M, zz_ev tX11_requireObject 0 L st M = zo_iload 1 1 (zz_ev tX11_requireObject) L st M) ∧
  (∀ L st M, zz_ev tX11_requireObject 1 L st M = zo_if (fun x => decide (x < 0)) 15 4 (zz_ev tX11_requireObject) L st M) ∧
  (∀ L st M, zz_ev tX11_requireObject 4 L st M = zo_iload 1 5 (zz_ev tX11_requireObject) L st M) ∧
  (∀ L st M, zz_ev tX11_requireObject 5 L st M = zo_aload 0 6 (zz_ev tX11_requireObject) L st M) ∧
  (∀ (L : zzLc) (r : List Value) (M : zzMd), zz_ev tX11_requireObject 6 L (.ref 0 :: r) M = zz_ev tX11_requireObject 9 L (.ref 1 :: r) M) ∧
  (∀ (L : zzLc) (r : List Value) (M : zzMd), zz_ev tX11_requireObject 9 L (.ref 1 :: r) M = zz_ev tX11_requireObject 12 L (.int (M.1 1 2) :: r) M) ∧
  (∀ L st M, zz_ev tX11_requireObject 12 L st M = zo_icmp (fun x y => decide (x < y)) 26 15 (zz_ev tX11_requireObject) L st M) ∧
  (∀ L st M, zz_ev tX11_requireObject 15 L st M = zo_throw 2 (zz_ev tX11_requireObject) L st M) ∧
  (∀ L st M, zz_ev tX11_requireObject 26 L st M = zo_ret (zz_ev tX11_requireObject) L st M) :=
  ⟨zz_1 rfl tl_X11_requireObject, zz_1 rfl tl_X11_requireObject, zz_1 rfl tl_X11_requireObject, zz_1 rfl tl_X11_requireObject, fun L r M => (zz_1 rfl tl_X11_requireObject _ _ _).trans rfl, fun L r M => (zz_1 rfl tl_X11_requireObject _ _ _).trans rfl, zz_1 rfl tl_X11_requireObject, zz_1 rfl tl_X11_requireObject, zz_1 rfl tl_X11_requireObject⟩
set_option maxRecDepth 100000 in
theorem s_X11_requireObject (a0 : Int32) (v : Nat) (M : zzMd) : fX11_requireObject [.ref v, .int a0] M = zz_ev tX11_requireObject 0 [some (.ref v), some (.int a0)] [] M := rfl
set_option maxRecDepth 100000 in
theorem e_X11_isInRange : (∀ L st M, zz_ev tX11_isInRange 0 L st M = zo_iload 0 1 (zz_ev tX11_isInRange) L st M) ∧
  (∀ L st M, zz_ev tX11_isInRange 1 L st M = zo_if (fun x => decide (x < 0)) 32 4 (zz_ev tX11_isInRange) L st M) ∧
  (∀ L st M, zz_ev tX11_isInRange 4 L st M = zo_iload 0 5 (zz_ev tX11_isInRange) L st M) ∧
  (∀ L st M, zz_ev tX11_isInRange 5 L st M = zo_pushI 11 7 (zz_ev tX11_isInRange) L st M) ∧
  (∀ L st M, zz_ev tX11_isInRange 7 L st M = zo_icmp (fun x y => decide (y ≤ x)) 32 10 (zz_ev tX11_isInRange) L st M) ∧
  (∀ L st M, zz_ev tX11_isInRange 10 L st M = zo_iload 1 11 (zz_ev tX11_isInRange) L st M) ∧
  (∀ L st M, zz_ev tX11_isInRange 11 L st M = zo_gets 1000 14 (zz_ev tX11_isInRange) L st M) ∧
  (∀ L st M, zz_ev tX11_isInRange 14 L st M = zo_iload 0 15 (zz_ev tX11_isInRange) L st M) ∧
  (∀ L st M, zz_ev tX11_isInRange 15 L st M = zo_iald zzSC zzSTC 16 (zz_ev tX11_isInRange) L st M) ∧
  (∀ L st M, zz_ev tX11_isInRange 16 L st M = zo_icmp (fun x y => decide (x < y)) 32 19 (zz_ev tX11_isInRange) L st M) ∧
  (∀ L st M, zz_ev tX11_isInRange 19 L st M = zo_iload 1 20 (zz_ev tX11_isInRange) L st M) ∧
  (∀ L st M, zz_ev tX11_isInRange 20 L st M = zo_gets 1001 23 (zz_ev tX11_isInRange) L st M) ∧
  (∀ L st M, zz_ev tX11_isInRange 23 L st M = zo_iload 0 24 (zz_ev tX11_isInRange) L st M) ∧
  (∀ L st M, zz_ev tX11_isInRange 24 L st M = zo_iald zzSC zzSTC 25 (zz_ev tX11_isInRange) L st M) ∧
  (∀ L st M, zz_ev tX11_isInRange 25 L st M = zo_icmp (fun x y => decide (y < x)) 32 28 (zz_ev tX11_isInRange) L st M) ∧
  (∀ L st M, zz_ev tX11_isInRange 28 L st M = zo_pushI 1 29 (zz_ev tX11_isInRange) L st M) ∧
  (∀ L st M, zz_ev tX11_isInRange 29 L st M = zo_goto 33 (zz_ev tX11_isInRange) L st M) ∧
  (∀ L st M, zz_ev tX11_isInRange 32 L st M = zo_pushI 0 33 (zz_ev tX11_isInRange) L st M) ∧
  (∀ L st M, zz_ev tX11_isInRange 33 L st M = zo_iret true (zz_ev tX11_isInRange) L st M) :=
  ⟨zz_1 rfl tl_X11_isInRange, zz_1 rfl tl_X11_isInRange, zz_1 rfl tl_X11_isInRange, zz_1 rfl tl_X11_isInRange, zz_1 rfl tl_X11_isInRange, zz_1 rfl tl_X11_isInRange, zz_1 rfl tl_X11_isInRange, zz_1 rfl tl_X11_isInRange, zz_1 rfl tl_X11_isInRange, zz_1 rfl tl_X11_isInRange, zz_1 rfl tl_X11_isInRange, zz_1 rfl tl_X11_isInRange, zz_1 rfl tl_X11_isInRange, zz_1 rfl tl_X11_isInRange, zz_1 rfl tl_X11_isInRange, zz_1 rfl tl_X11_isInRange, zz_1 rfl tl_X11_isInRange, zz_1 rfl tl_X11_isInRange, zz_1 rfl tl_X11_isInRange⟩
set_option maxRecDepth 100000 in
theorem s_X11_isInRange (a0 a1 : Int32) (M : zzMd) : fX11_isInRange [.int a0, .int a1] M = zz_ev tX11_isInRange 0 [some (.int a0), some (.int a1)] [] M := rfl
set_option maxRecDepth 100000 in
theorem e_X11_apply : (∀ L st M, zz_ev tX11_apply 0 L st M = zo_aload 0 1 (zz_ev tX11_apply) L st M) ∧
  (∀ L st M, zz_ev tX11_apply 1 L st M = zo_iload 2 2 (zz_ev tX11_apply) L st M) ∧
  (∀ (L : zzLc) (a0 : Int32) (r : List Value) (M : zzMd), zz_ev tX11_apply 2 L (.int a0 :: .ref 0 :: r) M = bif zz_cat8 r then zz_back (zz_ev tX11_apply) 5 L r (fX11_requireObject [.ref 0, .int a0] M) else none) ∧
  (∀ L st M, zz_ev tX11_apply 5 L st M = zo_iload 1 6 (zz_ev tX11_apply) L st M) ∧
  (∀ (L : zzLc) (a0 : Int32) (r : List Value) (M : zzMd), zz_ev tX11_apply 6 L (.int a0 :: r) M = bif zz_cat8 r then zz_backN (zz_ev tX11_apply) 9 L r (fX11_isCaller [.int a0] M) else none) ∧
  (∀ L st M, zz_ev tX11_apply 9 L st M = zo_if (fun x => decide (x = 0)) 38 12 (zz_ev tX11_apply) L st M) ∧
  (∀ L st M, zz_ev tX11_apply 12 L st M = zo_aload 0 13 (zz_ev tX11_apply) L st M) ∧
  (∀ (L : zzLc) (r : List Value) (M : zzMd), zz_ev tX11_apply 13 L (.ref 0 :: r) M = zz_ev tX11_apply 16 L (.ref 1 :: r) M) ∧
  (∀ L st M, zz_ev tX11_apply 16 L st M = zo_iload 2 17 (zz_ev tX11_apply) L st M) ∧
  (∀ L st M, zz_ev tX11_apply 17 L st M = zo_pushI 23 19 (zz_ev tX11_apply) L st M) ∧
  (∀ (L : zzLc) (a0 a1 : Int32) (r : List Value) (M : zzMd), zz_ev tX11_apply 19 L (.int a1 :: .int a0 :: .ref 1 :: r) M = bif zz_cat8 r then zz_backN (zz_ev tX11_apply) 22 L r (fX10_read [.ref 1, .int a0, .int a1] M) else none) ∧
  (∀ L st M, zz_ev tX11_apply 22 L st M = zo_iload 3 23 (zz_ev tX11_apply) L st M) ∧
  (∀ (L : zzLc) (a0 a1 : Int32) (r : List Value) (M : zzMd), zz_ev tX11_apply 23 L (.int a1 :: .int a0 :: r) M = bif zz_cat8 r then zz_backN (zz_ev tX11_apply) 26 L r (fX11_hasField [.int a0, .int a1] M) else none) ∧
  (∀ L st M, zz_ev tX11_apply 26 L st M = zo_if (fun x => decide (x = 0)) 38 29 (zz_ev tX11_apply) L st M) ∧
  (∀ L st M, zz_ev tX11_apply 29 L st M = zo_iload 3 30 (zz_ev tX11_apply) L st M) ∧
  (∀ L st M, zz_ev tX11_apply 30 L st M = zo_iload 4 32 (zz_ev tX11_apply) L st M) ∧
  (∀ (L : zzLc) (a0 a1 : Int32) (r : List Value) (M : zzMd), zz_ev tX11_apply 32 L (.int a1 :: .int a0 :: r) M = bif zz_cat8 r then zz_backN (zz_ev tX11_apply) 35 L r (fX11_isInRange [.int a0, .int a1] M) else none) ∧
  (∀ L st M, zz_ev tX11_apply 35 L st M = zo_if (fun x => decide (¬ x = 0)) 48 38 (zz_ev tX11_apply) L st M) ∧
  (∀ L st M, zz_ev tX11_apply 38 L st M = zo_throw 0 (zz_ev tX11_apply) L st M) ∧
  (∀ L st M, zz_ev tX11_apply 48 L st M = zo_aload 0 49 (zz_ev tX11_apply) L st M) ∧
  (∀ (L : zzLc) (r : List Value) (M : zzMd), zz_ev tX11_apply 49 L (.ref 0 :: r) M = zz_ev tX11_apply 52 L (.ref 1 :: r) M) ∧
  (∀ L st M, zz_ev tX11_apply 52 L st M = zo_iload 2 53 (zz_ev tX11_apply) L st M) ∧
  (∀ (L : zzLc) (a0 : Int32) (r : List Value) (M : zzMd), zz_ev tX11_apply 53 L (.int a0 :: .ref 1 :: r) M = bif zz_cat8 r then zz_backN (zz_ev tX11_apply) 56 L r (fX10_isGone [.ref 1, .int a0] M) else none) ∧
  (∀ L st M, zz_ev tX11_apply 56 L st M = zo_if (fun x => decide (¬ x = 0)) 78 59 (zz_ev tX11_apply) L st M) ∧
  (∀ L st M, zz_ev tX11_apply 59 L st M = zo_iload 5 61 (zz_ev tX11_apply) L st M) ∧
  (∀ L st M, zz_ev tX11_apply 61 L st M = zo_pushI (-1) 62 (zz_ev tX11_apply) L st M) ∧
  (∀ L st M, zz_ev tX11_apply 62 L st M = zo_icmp (fun x y => decide (x = y)) 88 65 (zz_ev tX11_apply) L st M) ∧
  (∀ L st M, zz_ev tX11_apply 65 L st M = zo_iload 5 67 (zz_ev tX11_apply) L st M) ∧
  (∀ L st M, zz_ev tX11_apply 67 L st M = zo_aload 0 68 (zz_ev tX11_apply) L st M) ∧
  (∀ (L : zzLc) (r : List Value) (M : zzMd), zz_ev tX11_apply 68 L (.ref 0 :: r) M = zz_ev tX11_apply 71 L (.ref 1 :: r) M) ∧
  (∀ L st M, zz_ev tX11_apply 71 L st M = zo_iload 2 72 (zz_ev tX11_apply) L st M) ∧
  (∀ (L : zzLc) (a0 : Int32) (r : List Value) (M : zzMd), zz_ev tX11_apply 72 L (.int a0 :: .ref 1 :: r) M = bif zz_cat8 r then zz_backN (zz_ev tX11_apply) 75 L r (fX10_latestOf [.ref 1, .int a0] M) else none) ∧
  (∀ L st M, zz_ev tX11_apply 75 L st M = zo_icmp (fun x y => decide (x = y)) 88 78 (zz_ev tX11_apply) L st M) ∧
  (∀ L st M, zz_ev tX11_apply 78 L st M = zo_throw 1 (zz_ev tX11_apply) L st M) ∧
  (∀ L st M, zz_ev tX11_apply 88 L st M = zo_iload 6 90 (zz_ev tX11_apply) L st M) ∧
  (∀ L st M, zz_ev tX11_apply 90 L st M = zo_if (fun x => decide (¬ x = 0)) 119 93 (zz_ev tX11_apply) L st M) ∧
  (∀ L st M, zz_ev tX11_apply 93 L st M = zo_aload 0 94 (zz_ev tX11_apply) L st M) ∧
  (∀ (L : zzLc) (r : List Value) (M : zzMd), zz_ev tX11_apply 94 L (.ref 0 :: r) M = zz_ev tX11_apply 97 L (.ref 1 :: r) M) ∧
  (∀ L st M, zz_ev tX11_apply 97 L st M = zo_iload 2 98 (zz_ev tX11_apply) L st M) ∧
  (∀ L st M, zz_ev tX11_apply 98 L st M = zo_pushI 11 100 (zz_ev tX11_apply) L st M) ∧
  (∀ L st M, zz_ev tX11_apply 100 L st M = zo_iload 3 101 (zz_ev tX11_apply) L st M) ∧
  (∀ L st M, zz_ev tX11_apply 101 L st M = zo_ii (fun x y => x + y) 102 (zz_ev tX11_apply) L st M) ∧
  (∀ (L : zzLc) (a0 a1 : Int32) (r : List Value) (M : zzMd), zz_ev tX11_apply 102 L (.int a1 :: .int a0 :: .ref 1 :: r) M = bif zz_cat8 r then zz_backN (zz_ev tX11_apply) 105 L r (fX10_read [.ref 1, .int a0, .int a1] M) else none) ∧
  (∀ L st M, zz_ev tX11_apply 105 L st M = zo_iload 1 106 (zz_ev tX11_apply) L st M) ∧
  (∀ L st M, zz_ev tX11_apply 106 L st M = zo_icmp (fun x y => decide (x = y)) 119 109 (zz_ev tX11_apply) L st M) ∧
  (∀ L st M, zz_ev tX11_apply 109 L st M = zo_throw 1 (zz_ev tX11_apply) L st M) ∧
  (∀ L st M, zz_ev tX11_apply 119 L st M = zo_aload 0 120 (zz_ev tX11_apply) L st M) ∧
  (∀ (L : zzLc) (r : List Value) (M : zzMd), zz_ev tX11_apply 120 L (.ref 0 :: r) M = zz_ev tX11_apply 123 L (.ref 1 :: r) M) ∧
  (∀ L st M, zz_ev tX11_apply 123 L st M = zo_iload 1 124 (zz_ev tX11_apply) L st M) ∧
  (∀ L st M, zz_ev tX11_apply 124 L st M = zo_iload 2 125 (zz_ev tX11_apply) L st M) ∧
  (∀ L st M, zz_ev tX11_apply 125 L st M = zo_iload 3 126 (zz_ev tX11_apply) L st M) ∧
  (∀ L st M, zz_ev tX11_apply 126 L st M = zo_iload 4 128 (zz_ev tX11_apply) L st M) ∧
  (∀ (L : zzLc) (a0 a1 a2 a3 : Int32) (r : List Value) (M : zzMd), zz_ev tX11_apply 128 L (.int a3 :: .int a2 :: .int a1 :: .int a0 :: .ref 1 :: r) M = bif zz_cat8 r then zz_backN (zz_ev tX11_apply) 131 L r (fX9_applyField [.ref 1, .int a0, .int a1, .int a2, .int a3] M) else none) ∧
  (∀ L st M, zz_ev tX11_apply 131 L st M = zo_if (fun x => decide (¬ x = 0)) 144 134 (zz_ev tX11_apply) L st M) ∧
  (∀ L st M, zz_ev tX11_apply 134 L st M = zo_throw 1 (zz_ev tX11_apply) L st M) ∧
  (∀ L st M, zz_ev tX11_apply 144 L st M = zo_aload 0 145 (zz_ev tX11_apply) L st M) ∧
  (∀ (L : zzLc) (r : List Value) (M : zzMd), zz_ev tX11_apply 145 L (.ref 0 :: r) M = zz_ev tX11_apply 148 L (.ref 1 :: r) M) ∧
  (∀ L st M, zz_ev tX11_apply 148 L st M = zo_iload 2 149 (zz_ev tX11_apply) L st M) ∧
  (∀ (L : zzLc) (a0 : Int32) (r : List Value) (M : zzMd), zz_ev tX11_apply 149 L (.int a0 :: .ref 1 :: r) M = bif zz_cat8 r then zz_backN (zz_ev tX11_apply) 152 L r (fX10_latestOf [.ref 1, .int a0] M) else none) ∧
  (∀ L st M, zz_ev tX11_apply 152 L st M = zo_iret false (zz_ev tX11_apply) L st M) :=
  ⟨zz_1 rfl tl_X11_apply, zz_1 rfl tl_X11_apply, fun L a0 r M => (zz_1 rfl tl_X11_apply _ _ _).trans rfl, zz_1 rfl tl_X11_apply, fun L a0 r M => (zz_1 rfl tl_X11_apply _ _ _).trans rfl, zz_1 rfl tl_X11_apply, zz_1 rfl tl_X11_apply, fun L r M => (zz_1 rfl tl_X11_apply _ _ _).trans rfl, zz_1 rfl tl_X11_apply, zz_1 rfl tl_X11_apply, fun L a0 a1 r M => (zz_1 rfl tl_X11_apply _ _ _).trans rfl, zz_1 rfl tl_X11_apply, fun L a0 a1 r M => (zz_1 rfl tl_X11_apply _ _ _).trans rfl, zz_1 rfl tl_X11_apply, zz_1 rfl tl_X11_apply, zz_1 rfl tl_X11_apply, fun L a0 a1 r M => (zz_1 rfl tl_X11_apply _ _ _).trans rfl, zz_1 rfl tl_X11_apply, zz_1 rfl tl_X11_apply, zz_1 rfl tl_X11_apply, fun L r M => (zz_1 rfl tl_X11_apply _ _ _).trans rfl, zz_1 rfl tl_X11_apply, fun L a0 r M => (zz_1 rfl tl_X11_apply _ _ _).trans rfl, zz_1 rfl tl_X11_apply, zz_1 rfl tl_X11_apply, zz_1 rfl tl_X11_apply, zz_1 rfl tl_X11_apply, zz_1 rfl tl_X11_apply, zz_1 rfl tl_X11_apply, fun L r M => (zz_1 rfl tl_X11_apply _ _ _).trans rfl, zz_1 rfl tl_X11_apply, fun L a0 r M => (zz_1 rfl tl_X11_apply _ _ _).trans rfl, zz_1 rfl tl_X11_apply, zz_1 rfl tl_X11_apply, zz_1 rfl tl_X11_apply, zz_1 rfl tl_X11_apply, zz_1 rfl tl_X11_apply, fun L r M => (zz_1 rfl tl_X11_apply _ _ _).trans rfl, zz_1 rfl tl_X11_apply, zz_1 rfl tl_X11_apply, zz_1 rfl tl_X11_apply, zz_1 rfl tl_X11_apply, fun L a0 a1 r M => (zz_1 rfl tl_X11_apply _ _ _).trans rfl, zz_1 rfl tl_X11_apply, zz_1 rfl tl_X11_apply, zz_1 rfl tl_X11_apply, zz_1 rfl tl_X11_apply, fun L r M => (zz_1 rfl tl_X11_apply _ _ _).trans rfl, zz_1 rfl tl_X11_apply, zz_1 rfl tl_X11_apply, zz_1 rfl tl_X11_apply, zz_1 rfl tl_X11_apply, fun L a0 a1 a2 a3 r M => (zz_1 rfl tl_X11_apply _ _ _).trans rfl, zz_1 rfl tl_X11_apply, zz_1 rfl tl_X11_apply, zz_1 rfl tl_X11_apply, fun L r M => (zz_1 rfl tl_X11_apply _ _ _).trans rfl, zz_1 rfl tl_X11_apply, fun L a0 r M => (zz_1 rfl tl_X11_apply _ _ _).trans rfl, zz_1 rfl tl_X11_apply⟩
set_option maxRecDepth 100000 in
theorem s_X11_apply (a0 a1 a2 a3 a4 a5 : Int32) (v : Nat) (M : zzMd) : fX11_apply [.ref v, .int a0, .int a1, .int a2, .int a3, .int a4, .int a5] M = zz_ev tX11_apply 0 [some (.ref v), some (.int a0), some (.int a1), some (.int a2), some (.int a3), some (.int a4), some (.int a5)] [] M := rfl
set_option maxRecDepth 100000 in
theorem e_X11_applyBudget : (∀ L st M, zz_ev tX11_applyBudget 0 L st M = zo_aload 0 1 (zz_ev tX11_applyBudget) L st M) ∧
  (∀ L st M, zz_ev tX11_applyBudget 1 L st M = zo_iload 2 2 (zz_ev tX11_applyBudget) L st M) ∧
  (∀ (L : zzLc) (a0 : Int32) (r : List Value) (M : zzMd), zz_ev tX11_applyBudget 2 L (.int a0 :: .ref 0 :: r) M = bif zz_cat8 r then zz_back (zz_ev tX11_applyBudget) 5 L r (fX11_requireObject [.ref 0, .int a0] M) else none) ∧
  (∀ L st M, zz_ev tX11_applyBudget 5 L st M = zo_iload 3 6 (zz_ev tX11_applyBudget) L st M) ∧
  (∀ L st M, zz_ev tX11_applyBudget 6 L st M = zo_pushI 10 8 (zz_ev tX11_applyBudget) L st M) ∧
  (∀ (L : zzLc) (a0 a1 : Int32) (r : List Value) (M : zzMd), zz_ev tX11_applyBudget 8 L (.int a1 :: .int a0 :: r) M = bif zz_cat8 r then zz_backN (zz_ev tX11_applyBudget) 11 L r (fJ9_floorDiv_7cf53 [.int a0, .int a1] M) else none) ∧
  (∀ L st M, zz_ev tX11_applyBudget 11 L st M = zo_istore 5 13 (zz_ev tX11_applyBudget) L st M) ∧
  (∀ L st M, zz_ev tX11_applyBudget 13 L st M = zo_iload 3 14 (zz_ev tX11_applyBudget) L st M) ∧
  (∀ L st M, zz_ev tX11_applyBudget 14 L st M = zo_pushI 10 16 (zz_ev tX11_applyBudget) L st M) ∧
  (∀ (L : zzLc) (a0 a1 : Int32) (r : List Value) (M : zzMd), zz_ev tX11_applyBudget 16 L (.int a1 :: .int a0 :: r) M = bif zz_cat8 r then zz_backN (zz_ev tX11_applyBudget) 19 L r (fJ9_floorMod_7cf53 [.int a0, .int a1] M) else none) ∧
  (∀ L st M, zz_ev tX11_applyBudget 19 L st M = zo_istore 6 21 (zz_ev tX11_applyBudget) L st M) ∧
  (∀ L st M, zz_ev tX11_applyBudget 21 L st M = zo_iload 1 22 (zz_ev tX11_applyBudget) L st M) ∧
  (∀ (L : zzLc) (a0 : Int32) (r : List Value) (M : zzMd), zz_ev tX11_applyBudget 22 L (.int a0 :: r) M = bif zz_cat8 r then zz_backN (zz_ev tX11_applyBudget) 25 L r (fX11_isCaller [.int a0] M) else none) ∧
  (∀ L st M, zz_ev tX11_applyBudget 25 L st M = zo_if (fun x => decide (x = 0)) 59 28 (zz_ev tX11_applyBudget) L st M) ∧
  (∀ L st M, zz_ev tX11_applyBudget 28 L st M = zo_aload 0 29 (zz_ev tX11_applyBudget) L st M) ∧
  (∀ (L : zzLc) (r : List Value) (M : zzMd), zz_ev tX11_applyBudget 29 L (.ref 0 :: r) M = zz_ev tX11_applyBudget 32 L (.ref 1 :: r) M) ∧
  (∀ L st M, zz_ev tX11_applyBudget 32 L st M = zo_iload 2 33 (zz_ev tX11_applyBudget) L st M) ∧
  (∀ L st M, zz_ev tX11_applyBudget 33 L st M = zo_pushI 23 35 (zz_ev tX11_applyBudget) L st M) ∧
  (∀ (L : zzLc) (a0 a1 : Int32) (r : List Value) (M : zzMd), zz_ev tX11_applyBudget 35 L (.int a1 :: .int a0 :: .ref 1 :: r) M = bif zz_cat8 r then zz_backN (zz_ev tX11_applyBudget) 38 L r (fX10_read [.ref 1, .int a0, .int a1] M) else none) ∧
  (∀ L st M, zz_ev tX11_applyBudget 38 L st M = zo_if (fun x => decide (¬ x = 0)) 59 41 (zz_ev tX11_applyBudget) L st M) ∧
  (∀ L st M, zz_ev tX11_applyBudget 41 L st M = zo_pushI 2 42 (zz_ev tX11_applyBudget) L st M) ∧
  (∀ L st M, zz_ev tX11_applyBudget 42 L st M = zo_iload 5 44 (zz_ev tX11_applyBudget) L st M) ∧
  (∀ (L : zzLc) (a0 a1 : Int32) (r : List Value) (M : zzMd), zz_ev tX11_applyBudget 44 L (.int a1 :: .int a0 :: r) M = bif zz_cat8 r then zz_backN (zz_ev tX11_applyBudget) 47 L r (fX11_isInRange [.int a0, .int a1] M) else none) ∧
  (∀ L st M, zz_ev tX11_applyBudget 47 L st M = zo_if (fun x => decide (x = 0)) 59 50 (zz_ev tX11_applyBudget) L st M) ∧
  (∀ L st M, zz_ev tX11_applyBudget 50 L st M = zo_pushI 3 51 (zz_ev tX11_applyBudget) L st M) ∧
  (∀ L st M, zz_ev tX11_applyBudget 51 L st M = zo_iload 6 53 (zz_ev tX11_applyBudget) L st M) ∧
  (∀ (L : zzLc) (a0 a1 : Int32) (r : List Value) (M : zzMd), zz_ev tX11_applyBudget 53 L (.int a1 :: .int a0 :: r) M = bif zz_cat8 r then zz_backN (zz_ev tX11_applyBudget) 56 L r (fX11_isInRange [.int a0, .int a1] M) else none) ∧
  (∀ L st M, zz_ev tX11_applyBudget 56 L st M = zo_if (fun x => decide (¬ x = 0)) 69 59 (zz_ev tX11_applyBudget) L st M) ∧
  (∀ L st M, zz_ev tX11_applyBudget 59 L st M = zo_throw 0 (zz_ev tX11_applyBudget) L st M) ∧
  (∀ L st M, zz_ev tX11_applyBudget 69 L st M = zo_aload 0 70 (zz_ev tX11_applyBudget) L st M) ∧
  (∀ (L : zzLc) (r : List Value) (M : zzMd), zz_ev tX11_applyBudget 70 L (.ref 0 :: r) M = zz_ev tX11_applyBudget 73 L (.ref 1 :: r) M) ∧
  (∀ L st M, zz_ev tX11_applyBudget 73 L st M = zo_iload 2 74 (zz_ev tX11_applyBudget) L st M) ∧
  (∀ L st M, zz_ev tX11_applyBudget 74 L st M = zo_pushI 13 76 (zz_ev tX11_applyBudget) L st M) ∧
  (∀ (L : zzLc) (a0 a1 : Int32) (r : List Value) (M : zzMd), zz_ev tX11_applyBudget 76 L (.int a1 :: .int a0 :: .ref 1 :: r) M = bif zz_cat8 r then zz_backN (zz_ev tX11_applyBudget) 79 L r (fX10_read [.ref 1, .int a0, .int a1] M) else none) ∧
  (∀ L st M, zz_ev tX11_applyBudget 79 L st M = zo_iload 1 80 (zz_ev tX11_applyBudget) L st M) ∧
  (∀ L st M, zz_ev tX11_applyBudget 80 L st M = zo_icmp (fun x y => decide (¬ x = y)) 101 83 (zz_ev tX11_applyBudget) L st M) ∧
  (∀ L st M, zz_ev tX11_applyBudget 83 L st M = zo_aload 0 84 (zz_ev tX11_applyBudget) L st M) ∧
  (∀ (L : zzLc) (r : List Value) (M : zzMd), zz_ev tX11_applyBudget 84 L (.ref 0 :: r) M = zz_ev tX11_applyBudget 87 L (.ref 1 :: r) M) ∧
  (∀ L st M, zz_ev tX11_applyBudget 87 L st M = zo_iload 2 88 (zz_ev tX11_applyBudget) L st M) ∧
  (∀ L st M, zz_ev tX11_applyBudget 88 L st M = zo_pushI 14 90 (zz_ev tX11_applyBudget) L st M) ∧
  (∀ (L : zzLc) (a0 a1 : Int32) (r : List Value) (M : zzMd), zz_ev tX11_applyBudget 90 L (.int a1 :: .int a0 :: .ref 1 :: r) M = bif zz_cat8 r then zz_backN (zz_ev tX11_applyBudget) 93 L r (fX10_read [.ref 1, .int a0, .int a1] M) else none) ∧
  (∀ L st M, zz_ev tX11_applyBudget 93 L st M = zo_iload 1 94 (zz_ev tX11_applyBudget) L st M) ∧
  (∀ L st M, zz_ev tX11_applyBudget 94 L st M = zo_icmp (fun x y => decide (¬ x = y)) 101 97 (zz_ev tX11_applyBudget) L st M) ∧
  (∀ L st M, zz_ev tX11_applyBudget 97 L st M = zo_pushI 1 98 (zz_ev tX11_applyBudget) L st M) ∧
  (∀ L st M, zz_ev tX11_applyBudget 98 L st M = zo_goto 102 (zz_ev tX11_applyBudget) L st M) ∧
  (∀ L st M, zz_ev tX11_applyBudget 101 L st M = zo_pushI 0 102 (zz_ev tX11_applyBudget) L st M) ∧
  (∀ L st M, zz_ev tX11_applyBudget 102 L st M = zo_istore 7 104 (zz_ev tX11_applyBudget) L st M) ∧
  (∀ L st M, zz_ev tX11_applyBudget 104 L st M = zo_aload 0 105 (zz_ev tX11_applyBudget) L st M) ∧
  (∀ (L : zzLc) (r : List Value) (M : zzMd), zz_ev tX11_applyBudget 105 L (.ref 0 :: r) M = zz_ev tX11_applyBudget 108 L (.ref 1 :: r) M) ∧
  (∀ L st M, zz_ev tX11_applyBudget 108 L st M = zo_iload 2 109 (zz_ev tX11_applyBudget) L st M) ∧
  (∀ (L : zzLc) (a0 : Int32) (r : List Value) (M : zzMd), zz_ev tX11_applyBudget 109 L (.int a0 :: .ref 1 :: r) M = bif zz_cat8 r then zz_backN (zz_ev tX11_applyBudget) 112 L r (fX10_isGone [.ref 1, .int a0] M) else none) ∧
  (∀ L st M, zz_ev tX11_applyBudget 112 L st M = zo_if (fun x => decide (¬ x = 0)) 125 115 (zz_ev tX11_applyBudget) L st M) ∧
  (∀ L st M, zz_ev tX11_applyBudget 115 L st M = zo_iload 4 117 (zz_ev tX11_applyBudget) L st M) ∧
  (∀ L st M, zz_ev tX11_applyBudget 117 L st M = zo_if (fun x => decide (¬ x = 0)) 135 120 (zz_ev tX11_applyBudget) L st M) ∧
  (∀ L st M, zz_ev tX11_applyBudget 120 L st M = zo_iload 7 122 (zz_ev tX11_applyBudget) L st M) ∧
  (∀ L st M, zz_ev tX11_applyBudget 122 L st M = zo_if (fun x => decide (¬ x = 0)) 135 125 (zz_ev tX11_applyBudget) L st M) ∧
  (∀ L st M, zz_ev tX11_applyBudget 125 L st M = zo_throw 1 (zz_ev tX11_applyBudget) L st M) ∧
  (∀ L st M, zz_ev tX11_applyBudget 135 L st M = zo_aload 0 136 (zz_ev tX11_applyBudget) L st M) ∧
  (∀ (L : zzLc) (r : List Value) (M : zzMd), zz_ev tX11_applyBudget 136 L (.ref 0 :: r) M = zz_ev tX11_applyBudget 139 L (.ref 1 :: r) M) ∧
  (∀ L st M, zz_ev tX11_applyBudget 139 L st M = zo_iload 1 140 (zz_ev tX11_applyBudget) L st M) ∧
  (∀ L st M, zz_ev tX11_applyBudget 140 L st M = zo_iload 2 141 (zz_ev tX11_applyBudget) L st M) ∧
  (∀ L st M, zz_ev tX11_applyBudget 141 L st M = zo_iload 5 143 (zz_ev tX11_applyBudget) L st M) ∧
  (∀ L st M, zz_ev tX11_applyBudget 143 L st M = zo_iload 6 145 (zz_ev tX11_applyBudget) L st M) ∧
  (∀ (L : zzLc) (a0 a1 a2 a3 : Int32) (r : List Value) (M : zzMd), zz_ev tX11_applyBudget 145 L (.int a3 :: .int a2 :: .int a1 :: .int a0 :: .ref 1 :: r) M = bif zz_cat8 r then zz_backN (zz_ev tX11_applyBudget) 148 L r (fX9_applyBoth [.ref 1, .int a0, .int a1, .int a2, .int a3] M) else none) ∧
  (∀ L st M, zz_ev tX11_applyBudget 148 L st M = zo_if (fun x => decide (¬ x = 0)) 161 151 (zz_ev tX11_applyBudget) L st M) ∧
  (∀ L st M, zz_ev tX11_applyBudget 151 L st M = zo_throw 1 (zz_ev tX11_applyBudget) L st M) ∧
  (∀ L st M, zz_ev tX11_applyBudget 161 L st M = zo_aload 0 162 (zz_ev tX11_applyBudget) L st M) ∧
  (∀ (L : zzLc) (r : List Value) (M : zzMd), zz_ev tX11_applyBudget 162 L (.ref 0 :: r) M = zz_ev tX11_applyBudget 165 L (.ref 1 :: r) M) ∧
  (∀ L st M, zz_ev tX11_applyBudget 165 L st M = zo_iload 2 166 (zz_ev tX11_applyBudget) L st M) ∧
  (∀ (L : zzLc) (a0 : Int32) (r : List Value) (M : zzMd), zz_ev tX11_applyBudget 166 L (.int a0 :: .ref 1 :: r) M = bif zz_cat8 r then zz_backN (zz_ev tX11_applyBudget) 169 L r (fX10_latestOf [.ref 1, .int a0] M) else none) ∧
  (∀ L st M, zz_ev tX11_applyBudget 169 L st M = zo_iret false (zz_ev tX11_applyBudget) L st M) :=
  ⟨zz_1 rfl tl_X11_applyBudget, zz_1 rfl tl_X11_applyBudget, fun L a0 r M => (zz_1 rfl tl_X11_applyBudget _ _ _).trans rfl, zz_1 rfl tl_X11_applyBudget, zz_1 rfl tl_X11_applyBudget, fun L a0 a1 r M => (zz_1 rfl tl_X11_applyBudget _ _ _).trans rfl, zz_1 rfl tl_X11_applyBudget, zz_1 rfl tl_X11_applyBudget, zz_1 rfl tl_X11_applyBudget, fun L a0 a1 r M => (zz_1 rfl tl_X11_applyBudget _ _ _).trans rfl, zz_1 rfl tl_X11_applyBudget, zz_1 rfl tl_X11_applyBudget, fun L a0 r M => (zz_1 rfl tl_X11_applyBudget _ _ _).trans rfl, zz_1 rfl tl_X11_applyBudget, zz_1 rfl tl_X11_applyBudget, fun L r M => (zz_1 rfl tl_X11_applyBudget _ _ _).trans rfl, zz_1 rfl tl_X11_applyBudget, zz_1 rfl tl_X11_applyBudget, fun L a0 a1 r M => (zz_1 rfl tl_X11_applyBudget _ _ _).trans rfl, zz_1 rfl tl_X11_applyBudget, zz_1 rfl tl_X11_applyBudget, zz_1 rfl tl_X11_applyBudget, fun L a0 a1 r M => (zz_1 rfl tl_X11_applyBudget _ _ _).trans rfl, zz_1 rfl tl_X11_applyBudget, zz_1 rfl tl_X11_applyBudget, zz_1 rfl tl_X11_applyBudget, fun L a0 a1 r M => (zz_1 rfl tl_X11_applyBudget _ _ _).trans rfl, zz_1 rfl tl_X11_applyBudget, zz_1 rfl tl_X11_applyBudget, zz_1 rfl tl_X11_applyBudget, fun L r M => (zz_1 rfl tl_X11_applyBudget _ _ _).trans rfl, zz_1 rfl tl_X11_applyBudget, zz_1 rfl tl_X11_applyBudget, fun L a0 a1 r M => (zz_1 rfl tl_X11_applyBudget _ _ _).trans rfl, zz_1 rfl tl_X11_applyBudget, zz_1 rfl tl_X11_applyBudget, zz_1 rfl tl_X11_applyBudget, fun L r M => (zz_1 rfl tl_X11_applyBudget _ _ _).trans rfl, zz_1 rfl tl_X11_applyBudget, zz_1 rfl tl_X11_applyBudget, fun L a0 a1 r M => (zz_1 rfl tl_X11_applyBudget _ _ _).trans rfl, zz_1 rfl tl_X11_applyBudget, zz_1 rfl tl_X11_applyBudget, zz_1 rfl tl_X11_applyBudget, zz_1 rfl tl_X11_applyBudget, zz_1 rfl tl_X11_applyBudget, zz_1 rfl tl_X11_applyBudget, zz_1 rfl tl_X11_applyBudget, fun L r M => (zz_1 rfl tl_X11_applyBudget _ _ _).trans rfl, zz_1 rfl tl_X11_applyBudget, fun L a0 r M => (zz_1 rfl tl_X11_applyBudget _ _ _).trans rfl, zz_1 rfl tl_X11_applyBudget, zz_1 rfl tl_X11_applyBudget, zz_1 rfl tl_X11_applyBudget, zz_1 rfl tl_X11_applyBudget, zz_1 rfl tl_X11_applyBudget, zz_1 rfl tl_X11_applyBudget, zz_1 rfl tl_X11_applyBudget, fun L r M => (zz_1 rfl tl_X11_applyBudget _ _ _).trans rfl, zz_1 rfl tl_X11_applyBudget, zz_1 rfl tl_X11_applyBudget, zz_1 rfl tl_X11_applyBudget, zz_1 rfl tl_X11_applyBudget, fun L a0 a1 a2 a3 r M => (zz_1 rfl tl_X11_applyBudget _ _ _).trans rfl, zz_1 rfl tl_X11_applyBudget, zz_1 rfl tl_X11_applyBudget, zz_1 rfl tl_X11_applyBudget, fun L r M => (zz_1 rfl tl_X11_applyBudget _ _ _).trans rfl, zz_1 rfl tl_X11_applyBudget, fun L a0 r M => (zz_1 rfl tl_X11_applyBudget _ _ _).trans rfl, zz_1 rfl tl_X11_applyBudget⟩
set_option maxRecDepth 100000 in
theorem s_X11_applyBudget (a0 a1 a2 a3 : Int32) (v : Nat) (M : zzMd) : fX11_applyBudget [.ref v, .int a0, .int a1, .int a2, .int a3] M = zz_ev tX11_applyBudget 0 [some (.ref v), some (.int a0), some (.int a1), some (.int a2), some (.int a3), none, none, none] [] M := rfl
set_option maxRecDepth 100000 in
theorem e_X11_delete : (∀ L st M, zz_ev tX11_delete 0 L st M = zo_aload 0 1 (zz_ev tX11_delete) L st M) ∧
  (∀ L st M, zz_ev tX11_delete 1 L st M = zo_iload 1 2 (zz_ev tX11_delete) L st M) ∧
  (∀ (L : zzLc) (a0 : Int32) (r : List Value) (M : zzMd), zz_ev tX11_delete 2 L (.int a0 :: .ref 0 :: r) M = bif zz_cat8 r then zz_back (zz_ev tX11_delete) 5 L r (fX11_requireObject [.ref 0, .int a0] M) else none) ∧
  (∀ L st M, zz_ev tX11_delete 5 L st M = zo_iload 2 6 (zz_ev tX11_delete) L st M) ∧
  (∀ L st M, zz_ev tX11_delete 6 L st M = zo_pushI 1 7 (zz_ev tX11_delete) L st M) ∧
  (∀ L st M, zz_ev tX11_delete 7 L st M = zo_icmp (fun x y => decide (x = y)) 30 10 (zz_ev tX11_delete) L st M) ∧
  (∀ L st M, zz_ev tX11_delete 10 L st M = zo_iload 2 11 (zz_ev tX11_delete) L st M) ∧
  (∀ L st M, zz_ev tX11_delete 11 L st M = zo_pushI 2 12 (zz_ev tX11_delete) L st M) ∧
  (∀ L st M, zz_ev tX11_delete 12 L st M = zo_icmp (fun x y => decide (x = y)) 30 15 (zz_ev tX11_delete) L st M) ∧
  (∀ L st M, zz_ev tX11_delete 15 L st M = zo_iload 2 16 (zz_ev tX11_delete) L st M) ∧
  (∀ L st M, zz_ev tX11_delete 16 L st M = zo_pushI 3 17 (zz_ev tX11_delete) L st M) ∧
  (∀ L st M, zz_ev tX11_delete 17 L st M = zo_icmp (fun x y => decide (x = y)) 30 20 (zz_ev tX11_delete) L st M) ∧
  (∀ L st M, zz_ev tX11_delete 20 L st M = zo_throw 0 (zz_ev tX11_delete) L st M) ∧
  (∀ L st M, zz_ev tX11_delete 30 L st M = zo_aload 0 31 (zz_ev tX11_delete) L st M) ∧
  (∀ (L : zzLc) (r : List Value) (M : zzMd), zz_ev tX11_delete 31 L (.ref 0 :: r) M = zz_ev tX11_delete 34 L (.ref 1 :: r) M) ∧
  (∀ L st M, zz_ev tX11_delete 34 L st M = zo_iload 1 35 (zz_ev tX11_delete) L st M) ∧
  (∀ L st M, zz_ev tX11_delete 35 L st M = zo_pushI 25 37 (zz_ev tX11_delete) L st M) ∧
  (∀ (L : zzLc) (a0 a1 : Int32) (r : List Value) (M : zzMd), zz_ev tX11_delete 37 L (.int a1 :: .int a0 :: .ref 1 :: r) M = bif zz_cat8 r then zz_backN (zz_ev tX11_delete) 40 L r (fX10_read [.ref 1, .int a0, .int a1] M) else none) ∧
  (∀ L st M, zz_ev tX11_delete 40 L st M = zo_if (fun x => decide (¬ x = 0)) 55 43 (zz_ev tX11_delete) L st M) ∧
  (∀ L st M, zz_ev tX11_delete 43 L st M = zo_aload 0 44 (zz_ev tX11_delete) L st M) ∧
  (∀ (L : zzLc) (r : List Value) (M : zzMd), zz_ev tX11_delete 44 L (.ref 0 :: r) M = zz_ev tX11_delete 47 L (.ref 1 :: r) M) ∧
  (∀ L st M, zz_ev tX11_delete 47 L st M = zo_iload 1 48 (zz_ev tX11_delete) L st M) ∧
  (∀ L st M, zz_ev tX11_delete 48 L st M = zo_iload 2 49 (zz_ev tX11_delete) L st M) ∧
  (∀ (L : zzLc) (a0 a1 : Int32) (r : List Value) (M : zzMd), zz_ev tX11_delete 49 L (.int a1 :: .int a0 :: .ref 1 :: r) M = bif zz_cat8 r then zz_backN (zz_ev tX11_delete) 52 L r (fX9_startGoing [.ref 1, .int a0, .int a1] M) else none) ∧
  (∀ L st M, zz_ev tX11_delete 52 L st M = zo_if (fun x => decide (¬ x = 0)) 65 55 (zz_ev tX11_delete) L st M) ∧
  (∀ L st M, zz_ev tX11_delete 55 L st M = zo_throw 1 (zz_ev tX11_delete) L st M) ∧
  (∀ L st M, zz_ev tX11_delete 65 L st M = zo_aload 0 66 (zz_ev tX11_delete) L st M) ∧
  (∀ (L : zzLc) (r : List Value) (M : zzMd), zz_ev tX11_delete 66 L (.ref 0 :: r) M = zz_ev tX11_delete 69 L (.ref 1 :: r) M) ∧
  (∀ L st M, zz_ev tX11_delete 69 L st M = zo_iload 1 70 (zz_ev tX11_delete) L st M) ∧
  (∀ L st M, zz_ev tX11_delete 70 L st M = zo_pushI 25 72 (zz_ev tX11_delete) L st M) ∧
  (∀ (L : zzLc) (a0 a1 : Int32) (r : List Value) (M : zzMd), zz_ev tX11_delete 72 L (.int a1 :: .int a0 :: .ref 1 :: r) M = bif zz_cat8 r then zz_backN (zz_ev tX11_delete) 75 L r (fX10_read [.ref 1, .int a0, .int a1] M) else none) ∧
  (∀ L st M, zz_ev tX11_delete 75 L st M = zo_iret false (zz_ev tX11_delete) L st M) :=
  ⟨zz_1 rfl tl_X11_delete, zz_1 rfl tl_X11_delete, fun L a0 r M => (zz_1 rfl tl_X11_delete _ _ _).trans rfl, zz_1 rfl tl_X11_delete, zz_1 rfl tl_X11_delete, zz_1 rfl tl_X11_delete, zz_1 rfl tl_X11_delete, zz_1 rfl tl_X11_delete, zz_1 rfl tl_X11_delete, zz_1 rfl tl_X11_delete, zz_1 rfl tl_X11_delete, zz_1 rfl tl_X11_delete, zz_1 rfl tl_X11_delete, zz_1 rfl tl_X11_delete, fun L r M => (zz_1 rfl tl_X11_delete _ _ _).trans rfl, zz_1 rfl tl_X11_delete, zz_1 rfl tl_X11_delete, fun L a0 a1 r M => (zz_1 rfl tl_X11_delete _ _ _).trans rfl, zz_1 rfl tl_X11_delete, zz_1 rfl tl_X11_delete, fun L r M => (zz_1 rfl tl_X11_delete _ _ _).trans rfl, zz_1 rfl tl_X11_delete, zz_1 rfl tl_X11_delete, fun L a0 a1 r M => (zz_1 rfl tl_X11_delete _ _ _).trans rfl, zz_1 rfl tl_X11_delete, zz_1 rfl tl_X11_delete, zz_1 rfl tl_X11_delete, fun L r M => (zz_1 rfl tl_X11_delete _ _ _).trans rfl, zz_1 rfl tl_X11_delete, zz_1 rfl tl_X11_delete, fun L a0 a1 r M => (zz_1 rfl tl_X11_delete _ _ _).trans rfl, zz_1 rfl tl_X11_delete⟩
set_option maxRecDepth 100000 in
theorem s_X11_delete (a0 a1 : Int32) (v : Nat) (M : zzMd) : fX11_delete [.ref v, .int a0, .int a1] M = zz_ev tX11_delete 0 [some (.ref v), some (.int a0), some (.int a1)] [] M := rfl
set_option maxRecDepth 100000 in
theorem e_X11_hold : (∀ L st M, zz_ev tX11_hold 0 L st M = zo_aload 0 1 (zz_ev tX11_hold) L st M) ∧
  (∀ L st M, zz_ev tX11_hold 1 L st M = zo_iload 1 2 (zz_ev tX11_hold) L st M) ∧
  (∀ (L : zzLc) (a0 : Int32) (r : List Value) (M : zzMd), zz_ev tX11_hold 2 L (.int a0 :: .ref 0 :: r) M = bif zz_cat8 r then zz_back (zz_ev tX11_hold) 5 L r (fX11_requireObject [.ref 0, .int a0] M) else none) ∧
  (∀ L st M, zz_ev tX11_hold 5 L st M = zo_aload 0 6 (zz_ev tX11_hold) L st M) ∧
  (∀ (L : zzLc) (r : List Value) (M : zzMd), zz_ev tX11_hold 6 L (.ref 0 :: r) M = zz_ev tX11_hold 9 L (.ref 1 :: r) M) ∧
  (∀ L st M, zz_ev tX11_hold 9 L st M = zo_iload 1 10 (zz_ev tX11_hold) L st M) ∧
  (∀ L st M, zz_ev tX11_hold 10 L st M = zo_pushI 26 12 (zz_ev tX11_hold) L st M) ∧
  (∀ (L : zzLc) (a0 a1 : Int32) (r : List Value) (M : zzMd), zz_ev tX11_hold 12 L (.int a1 :: .int a0 :: .ref 1 :: r) M = bif zz_cat8 r then zz_backN (zz_ev tX11_hold) 15 L r (fX10_read [.ref 1, .int a0, .int a1] M) else none) ∧
  (∀ L st M, zz_ev tX11_hold 15 L st M = zo_pushI 1 16 (zz_ev tX11_hold) L st M) ∧
  (∀ L st M, zz_ev tX11_hold 16 L st M = zo_icmp (fun x y => decide (¬ x = y)) 23 19 (zz_ev tX11_hold) L st M) ∧
  (∀ L st M, zz_ev tX11_hold 19 L st M = zo_pushI 1 20 (zz_ev tX11_hold) L st M) ∧
  (∀ L st M, zz_ev tX11_hold 20 L st M = zo_goto 24 (zz_ev tX11_hold) L st M) ∧
  (∀ L st M, zz_ev tX11_hold 23 L st M = zo_pushI 0 24 (zz_ev tX11_hold) L st M) ∧
  (∀ L st M, zz_ev tX11_hold 24 L st M = zo_istore 3 25 (zz_ev tX11_hold) L st M) ∧
  (∀ L st M, zz_ev tX11_hold 25 L st M = zo_aload 0 26 (zz_ev tX11_hold) L st M) ∧
  (∀ (L : zzLc) (r : List Value) (M : zzMd), zz_ev tX11_hold 26 L (.ref 0 :: r) M = zz_ev tX11_hold 29 L (.ref 1 :: r) M) ∧
  (∀ L st M, zz_ev tX11_hold 29 L st M = zo_iload 1 30 (zz_ev tX11_hold) L st M) ∧
  (∀ (L : zzLc) (a0 : Int32) (r : List Value) (M : zzMd), zz_ev tX11_hold 30 L (.int a0 :: .ref 1 :: r) M = bif zz_cat8 r then zz_backN (zz_ev tX11_hold) 33 L r (fX10_isGone [.ref 1, .int a0] M) else none) ∧
  (∀ L st M, zz_ev tX11_hold 33 L st M = zo_if (fun x => decide (¬ x = 0)) 58 36 (zz_ev tX11_hold) L st M) ∧
  (∀ L st M, zz_ev tX11_hold 36 L st M = zo_aload 0 37 (zz_ev tX11_hold) L st M) ∧
  (∀ (L : zzLc) (r : List Value) (M : zzMd), zz_ev tX11_hold 37 L (.ref 0 :: r) M = zz_ev tX11_hold 40 L (.ref 1 :: r) M) ∧
  (∀ L st M, zz_ev tX11_hold 40 L st M = zo_iload 1 41 (zz_ev tX11_hold) L st M) ∧
  (∀ L st M, zz_ev tX11_hold 41 L st M = zo_pushI 26 43 (zz_ev tX11_hold) L st M) ∧
  (∀ L st M, zz_ev tX11_hold 43 L st M = zo_iload 2 44 (zz_ev tX11_hold) L st M) ∧
  (∀ L st M, zz_ev tX11_hold 44 L st M = zo_if (fun x => decide (x = 0)) 51 47 (zz_ev tX11_hold) L st M) ∧
  (∀ L st M, zz_ev tX11_hold 47 L st M = zo_pushI 1 48 (zz_ev tX11_hold) L st M) ∧
  (∀ L st M, zz_ev tX11_hold 48 L st M = zo_goto 52 (zz_ev tX11_hold) L st M) ∧
  (∀ L st M, zz_ev tX11_hold 51 L st M = zo_pushI 0 52 (zz_ev tX11_hold) L st M) ∧
  (∀ (L : zzLc) (a0 a1 a2 : Int32) (r : List Value) (M : zzMd), zz_ev tX11_hold 52 L (.int a2 :: .int a1 :: .int a0 :: .ref 1 :: r) M = bif zz_cat8 r then zz_backN (zz_ev tX11_hold) 55 L r (fX9_change [.ref 1, .int a0, .int a1, .int a2] M) else none) ∧
  (∀ L st M, zz_ev tX11_hold 55 L st M = zo_if (fun x => decide (¬ x = 0)) 68 58 (zz_ev tX11_hold) L st M) ∧
  (∀ L st M, zz_ev tX11_hold 58 L st M = zo_throw 1 (zz_ev tX11_hold) L st M) ∧
  (∀ L st M, zz_ev tX11_hold 68 L st M = zo_iload 3 69 (zz_ev tX11_hold) L st M) ∧
  (∀ L st M, zz_ev tX11_hold 69 L st M = zo_iret true (zz_ev tX11_hold) L st M) :=
  ⟨zz_1 rfl tl_X11_hold, zz_1 rfl tl_X11_hold, fun L a0 r M => (zz_1 rfl tl_X11_hold _ _ _).trans rfl, zz_1 rfl tl_X11_hold, fun L r M => (zz_1 rfl tl_X11_hold _ _ _).trans rfl, zz_1 rfl tl_X11_hold, zz_1 rfl tl_X11_hold, fun L a0 a1 r M => (zz_1 rfl tl_X11_hold _ _ _).trans rfl, zz_1 rfl tl_X11_hold, zz_1 rfl tl_X11_hold, zz_1 rfl tl_X11_hold, zz_1 rfl tl_X11_hold, zz_1 rfl tl_X11_hold, zz_1 rfl tl_X11_hold, zz_1 rfl tl_X11_hold, fun L r M => (zz_1 rfl tl_X11_hold _ _ _).trans rfl, zz_1 rfl tl_X11_hold, fun L a0 r M => (zz_1 rfl tl_X11_hold _ _ _).trans rfl, zz_1 rfl tl_X11_hold, zz_1 rfl tl_X11_hold, fun L r M => (zz_1 rfl tl_X11_hold _ _ _).trans rfl, zz_1 rfl tl_X11_hold, zz_1 rfl tl_X11_hold, zz_1 rfl tl_X11_hold, zz_1 rfl tl_X11_hold, zz_1 rfl tl_X11_hold, zz_1 rfl tl_X11_hold, zz_1 rfl tl_X11_hold, fun L a0 a1 a2 r M => (zz_1 rfl tl_X11_hold _ _ _).trans rfl, zz_1 rfl tl_X11_hold, zz_1 rfl tl_X11_hold, zz_1 rfl tl_X11_hold, zz_1 rfl tl_X11_hold⟩
set_option maxRecDepth 100000 in
theorem s_X11_hold (a0 a1 : Int32) (v : Nat) (M : zzMd) : fX11_hold [.ref v, .int a0, .int a1] M = zz_ev tX11_hold 0 [some (.ref v), some (.int a0), some (.int a1), none] [] M := rfl
set_option maxRecDepth 100000 in
theorem e_X11_requireKind : (∀ L st M, zz_ev tX11_requireKind 0 L st M = zo_aload 0 1 (zz_ev tX11_requireKind) L st M) ∧
  (∀ (L : zzLc) (r : List Value) (M : zzMd), zz_ev tX11_requireKind 1 L (.ref 0 :: r) M = zz_ev tX11_requireKind 4 L (.ref 1 :: r) M) ∧
  (∀ L st M, zz_ev tX11_requireKind 4 L st M = zo_iload 1 5 (zz_ev tX11_requireKind) L st M) ∧
  (∀ L st M, zz_ev tX11_requireKind 5 L st M = zo_pushI 23 7 (zz_ev tX11_requireKind) L st M) ∧
  (∀ (L : zzLc) (a0 a1 : Int32) (r : List Value) (M : zzMd), zz_ev tX11_requireKind 7 L (.int a1 :: .int a0 :: .ref 1 :: r) M = bif zz_cat8 r then zz_backN (zz_ev tX11_requireKind) 10 L r (fX10_read [.ref 1, .int a0, .int a1] M) else none) ∧
  (∀ L st M, zz_ev tX11_requireKind 10 L st M = zo_iload 2 11 (zz_ev tX11_requireKind) L st M) ∧
  (∀ L st M, zz_ev tX11_requireKind 11 L st M = zo_icmp (fun x y => decide (x = y)) 25 14 (zz_ev tX11_requireKind) L st M) ∧
  (∀ L st M, zz_ev tX11_requireKind 14 L st M = zo_throw 0 (zz_ev tX11_requireKind) L st M) ∧
  (∀ L st M, zz_ev tX11_requireKind 25 L st M = zo_ret (zz_ev tX11_requireKind) L st M) :=
  ⟨zz_1 rfl tl_X11_requireKind, fun L r M => (zz_1 rfl tl_X11_requireKind _ _ _).trans rfl, zz_1 rfl tl_X11_requireKind, zz_1 rfl tl_X11_requireKind, fun L a0 a1 r M => (zz_1 rfl tl_X11_requireKind _ _ _).trans rfl, zz_1 rfl tl_X11_requireKind, zz_1 rfl tl_X11_requireKind, zz_1 rfl tl_X11_requireKind, zz_1 rfl tl_X11_requireKind⟩
set_option maxRecDepth 100000 in
theorem s_X11_requireKind (a0 a1 : Int32) (v : Nat) (M : zzMd) : fX11_requireKind [.ref v, .int a0, .int a1] M = zz_ev tX11_requireKind 0 [some (.ref v), some (.int a0), some (.int a1)] [] M := rfl
set_option maxRecDepth 100000 in
theorem e_X11_finish : (∀ L st M, zz_ev tX11_finish 0 L st M = zo_aload 0 1 (zz_ev tX11_finish) L st M) ∧
  (∀ L st M, zz_ev tX11_finish 1 L st M = zo_iload 1 2 (zz_ev tX11_finish) L st M) ∧
  (∀ (L : zzLc) (a0 : Int32) (r : List Value) (M : zzMd), zz_ev tX11_finish 2 L (.int a0 :: .ref 0 :: r) M = bif zz_cat8 r then zz_back (zz_ev tX11_finish) 5 L r (fX11_requireObject [.ref 0, .int a0] M) else none) ∧
  (∀ L st M, zz_ev tX11_finish 5 L st M = zo_aload 0 6 (zz_ev tX11_finish) L st M) ∧
  (∀ L st M, zz_ev tX11_finish 6 L st M = zo_iload 1 7 (zz_ev tX11_finish) L st M) ∧
  (∀ L st M, zz_ev tX11_finish 7 L st M = zo_pushI 2 8 (zz_ev tX11_finish) L st M) ∧
  (∀ (L : zzLc) (a0 a1 : Int32) (r : List Value) (M : zzMd), zz_ev tX11_finish 8 L (.int a1 :: .int a0 :: .ref 0 :: r) M = bif zz_cat8 r then zz_back (zz_ev tX11_finish) 11 L r (fX11_requireKind [.ref 0, .int a0, .int a1] M) else none) ∧
  (∀ L st M, zz_ev tX11_finish 11 L st M = zo_aload 0 12 (zz_ev tX11_finish) L st M) ∧
  (∀ (L : zzLc) (r : List Value) (M : zzMd), zz_ev tX11_finish 12 L (.ref 0 :: r) M = zz_ev tX11_finish 15 L (.ref 1 :: r) M) ∧
  (∀ L st M, zz_ev tX11_finish 15 L st M = zo_iload 1 16 (zz_ev tX11_finish) L st M) ∧
  (∀ (L : zzLc) (a0 : Int32) (r : List Value) (M : zzMd), zz_ev tX11_finish 16 L (.int a0 :: .ref 1 :: r) M = bif zz_cat8 r then zz_backN (zz_ev tX11_finish) 19 L r (fX10_isGone [.ref 1, .int a0] M) else none) ∧
  (∀ L st M, zz_ev tX11_finish 19 L st M = zo_if (fun x => decide (¬ x = 0)) 40 22 (zz_ev tX11_finish) L st M) ∧
  (∀ L st M, zz_ev tX11_finish 22 L st M = zo_aload 0 23 (zz_ev tX11_finish) L st M) ∧
  (∀ (L : zzLc) (r : List Value) (M : zzMd), zz_ev tX11_finish 23 L (.ref 0 :: r) M = zz_ev tX11_finish 26 L (.ref 1 :: r) M) ∧
  (∀ L st M, zz_ev tX11_finish 26 L st M = zo_iload 1 27 (zz_ev tX11_finish) L st M) ∧
  (∀ L st M, zz_ev tX11_finish 27 L st M = zo_pushI 29 29 (zz_ev tX11_finish) L st M) ∧
  (∀ (L : zzLc) (a0 a1 : Int32) (r : List Value) (M : zzMd), zz_ev tX11_finish 29 L (.int a1 :: .int a0 :: .ref 1 :: r) M = bif zz_cat8 r then zz_backN (zz_ev tX11_finish) 32 L r (fX10_read [.ref 1, .int a0, .int a1] M) else none) ∧
  (∀ L st M, zz_ev tX11_finish 32 L st M = zo_pushI 1 33 (zz_ev tX11_finish) L st M) ∧
  (∀ L st M, zz_ev tX11_finish 33 L st M = zo_icmp (fun x y => decide (¬ x = y)) 40 36 (zz_ev tX11_finish) L st M) ∧
  (∀ L st M, zz_ev tX11_finish 36 L st M = zo_pushI 1 37 (zz_ev tX11_finish) L st M) ∧
  (∀ L st M, zz_ev tX11_finish 37 L st M = zo_goto 41 (zz_ev tX11_finish) L st M) ∧
  (∀ L st M, zz_ev tX11_finish 40 L st M = zo_pushI 0 41 (zz_ev tX11_finish) L st M) ∧
  (∀ L st M, zz_ev tX11_finish 41 L st M = zo_istore 3 42 (zz_ev tX11_finish) L st M) ∧
  (∀ L st M, zz_ev tX11_finish 42 L st M = zo_iload 3 43 (zz_ev tX11_finish) L st M) ∧
  (∀ L st M, zz_ev tX11_finish 43 L st M = zo_if (fun x => decide (x = 0)) 68 46 (zz_ev tX11_finish) L st M) ∧
  (∀ L st M, zz_ev tX11_finish 46 L st M = zo_aload 0 47 (zz_ev tX11_finish) L st M) ∧
  (∀ (L : zzLc) (r : List Value) (M : zzMd), zz_ev tX11_finish 47 L (.ref 0 :: r) M = zz_ev tX11_finish 50 L (.ref 1 :: r) M) ∧
  (∀ L st M, zz_ev tX11_finish 50 L st M = zo_iload 1 51 (zz_ev tX11_finish) L st M) ∧
  (∀ L st M, zz_ev tX11_finish 51 L st M = zo_pushI 29 53 (zz_ev tX11_finish) L st M) ∧
  (∀ L st M, zz_ev tX11_finish 53 L st M = zo_iload 2 54 (zz_ev tX11_finish) L st M) ∧
  (∀ L st M, zz_ev tX11_finish 54 L st M = zo_if (fun x => decide (x = 0)) 61 57 (zz_ev tX11_finish) L st M) ∧
  (∀ L st M, zz_ev tX11_finish 57 L st M = zo_pushI 2 58 (zz_ev tX11_finish) L st M) ∧
  (∀ L st M, zz_ev tX11_finish 58 L st M = zo_goto 62 (zz_ev tX11_finish) L st M) ∧
  (∀ L st M, zz_ev tX11_finish 61 L st M = zo_pushI 3 62 (zz_ev tX11_finish) L st M) ∧
  (∀ (L : zzLc) (a0 a1 a2 : Int32) (r : List Value) (M : zzMd), zz_ev tX11_finish 62 L (.int a2 :: .int a1 :: .int a0 :: .ref 1 :: r) M = bif zz_cat8 r then zz_backN (zz_ev tX11_finish) 65 L r (fX9_change [.ref 1, .int a0, .int a1, .int a2] M) else none) ∧
  (∀ L st M, zz_ev tX11_finish 65 L st M = zo_if (fun x => decide (¬ x = 0)) 78 68 (zz_ev tX11_finish) L st M) ∧
  (∀ L st M, zz_ev tX11_finish 68 L st M = zo_throw 1 (zz_ev tX11_finish) L st M) ∧
  (∀ L st M, zz_ev tX11_finish 78 L st M = zo_aload 0 79 (zz_ev tX11_finish) L st M) ∧
  (∀ (L : zzLc) (r : List Value) (M : zzMd), zz_ev tX11_finish 79 L (.ref 0 :: r) M = zz_ev tX11_finish 82 L (.ref 1 :: r) M) ∧
  (∀ L st M, zz_ev tX11_finish 82 L st M = zo_iload 1 83 (zz_ev tX11_finish) L st M) ∧
  (∀ (L : zzLc) (a0 : Int32) (r : List Value) (M : zzMd), zz_ev tX11_finish 83 L (.int a0 :: .ref 1 :: r) M = bif zz_cat8 r then zz_backN (zz_ev tX11_finish) 86 L r (fX10_latestOf [.ref 1, .int a0] M) else none) ∧
  (∀ L st M, zz_ev tX11_finish 86 L st M = zo_iret false (zz_ev tX11_finish) L st M) :=
  ⟨zz_1 rfl tl_X11_finish, zz_1 rfl tl_X11_finish, fun L a0 r M => (zz_1 rfl tl_X11_finish _ _ _).trans rfl, zz_1 rfl tl_X11_finish, zz_1 rfl tl_X11_finish, zz_1 rfl tl_X11_finish, fun L a0 a1 r M => (zz_1 rfl tl_X11_finish _ _ _).trans rfl, zz_1 rfl tl_X11_finish, fun L r M => (zz_1 rfl tl_X11_finish _ _ _).trans rfl, zz_1 rfl tl_X11_finish, fun L a0 r M => (zz_1 rfl tl_X11_finish _ _ _).trans rfl, zz_1 rfl tl_X11_finish, zz_1 rfl tl_X11_finish, fun L r M => (zz_1 rfl tl_X11_finish _ _ _).trans rfl, zz_1 rfl tl_X11_finish, zz_1 rfl tl_X11_finish, fun L a0 a1 r M => (zz_1 rfl tl_X11_finish _ _ _).trans rfl, zz_1 rfl tl_X11_finish, zz_1 rfl tl_X11_finish, zz_1 rfl tl_X11_finish, zz_1 rfl tl_X11_finish, zz_1 rfl tl_X11_finish, zz_1 rfl tl_X11_finish, zz_1 rfl tl_X11_finish, zz_1 rfl tl_X11_finish, zz_1 rfl tl_X11_finish, fun L r M => (zz_1 rfl tl_X11_finish _ _ _).trans rfl, zz_1 rfl tl_X11_finish, zz_1 rfl tl_X11_finish, zz_1 rfl tl_X11_finish, zz_1 rfl tl_X11_finish, zz_1 rfl tl_X11_finish, zz_1 rfl tl_X11_finish, zz_1 rfl tl_X11_finish, fun L a0 a1 a2 r M => (zz_1 rfl tl_X11_finish _ _ _).trans rfl, zz_1 rfl tl_X11_finish, zz_1 rfl tl_X11_finish, zz_1 rfl tl_X11_finish, fun L r M => (zz_1 rfl tl_X11_finish _ _ _).trans rfl, zz_1 rfl tl_X11_finish, fun L a0 r M => (zz_1 rfl tl_X11_finish _ _ _).trans rfl, zz_1 rfl tl_X11_finish⟩
set_option maxRecDepth 100000 in
theorem s_X11_finish (a0 a1 : Int32) (v : Nat) (M : zzMd) : fX11_finish [.ref v, .int a0, .int a1] M = zz_ev tX11_finish 0 [some (.ref v), some (.int a0), some (.int a1), none] [] M := rfl
set_option maxRecDepth 100000 in
theorem e_X11_rule : (∀ L st M, zz_ev tX11_rule 0 L st M = zo_iload 1 1 (zz_ev tX11_rule) L st M) ∧
  (∀ L st M, zz_ev tX11_rule 1 L st M = zo_iload 2 2 (zz_ev tX11_rule) L st M) ∧
  (∀ (L : zzLc) (a0 a1 : Int32) (r : List Value) (M : zzMd), zz_ev tX11_rule 2 L (.int a1 :: .int a0 :: r) M = bif zz_cat8 r then zz_backN (zz_ev tX11_rule) 5 L r (fX11_hasField [.int a0, .int a1] M) else none) ∧
  (∀ L st M, zz_ev tX11_rule 5 L st M = zo_if (fun x => decide (x = 0)) 33 8 (zz_ev tX11_rule) L st M) ∧
  (∀ L st M, zz_ev tX11_rule 8 L st M = zo_iload 1 9 (zz_ev tX11_rule) L st M) ∧
  (∀ L st M, zz_ev tX11_rule 9 L st M = zo_iload 5 11 (zz_ev tX11_rule) L st M) ∧
  (∀ (L : zzLc) (a0 a1 : Int32) (r : List Value) (M : zzMd), zz_ev tX11_rule 11 L (.int a1 :: .int a0 :: r) M = bif zz_cat8 r then zz_backN (zz_ev tX11_rule) 14 L r (fX11_hasField [.int a0, .int a1] M) else none) ∧
  (∀ L st M, zz_ev tX11_rule 14 L st M = zo_if (fun x => decide (x = 0)) 33 17 (zz_ev tX11_rule) L st M) ∧
  (∀ L st M, zz_ev tX11_rule 17 L st M = zo_iload 3 18 (zz_ev tX11_rule) L st M) ∧
  (∀ L st M, zz_ev tX11_rule 18 L st M = zo_iload 4 20 (zz_ev tX11_rule) L st M) ∧
  (∀ L st M, zz_ev tX11_rule 20 L st M = zo_icmp (fun x y => decide (y < x)) 33 23 (zz_ev tX11_rule) L st M) ∧
  (∀ L st M, zz_ev tX11_rule 23 L st M = zo_iload 5 25 (zz_ev tX11_rule) L st M) ∧
  (∀ L st M, zz_ev tX11_rule 25 L st M = zo_iload 6 27 (zz_ev tX11_rule) L st M) ∧
  (∀ (L : zzLc) (a0 a1 : Int32) (r : List Value) (M : zzMd), zz_ev tX11_rule 27 L (.int a1 :: .int a0 :: r) M = bif zz_cat8 r then zz_backN (zz_ev tX11_rule) 30 L r (fX11_isInRange [.int a0, .int a1] M) else none) ∧
  (∀ L st M, zz_ev tX11_rule 30 L st M = zo_if (fun x => decide (¬ x = 0)) 43 33 (zz_ev tX11_rule) L st M) ∧
  (∀ L st M, zz_ev tX11_rule 33 L st M = zo_throw 0 (zz_ev tX11_rule) L st M) ∧
  (∀ L st M, zz_ev tX11_rule 43 L st M = zo_aload 0 44 (zz_ev tX11_rule) L st M) ∧
  (∀ (L : zzLc) (r : List Value) (M : zzMd), zz_ev tX11_rule 44 L (.ref 0 :: r) M = zz_ev tX11_rule 47 L (.ref 1 :: r) M) ∧
  (∀ (L : zzLc) (r : List Value) (M : zzMd), zz_ev tX11_rule 47 L (.ref 1 :: r) M = zz_ev tX11_rule 50 L (.ref 2 :: r) M) ∧
  (∀ L st M, zz_ev tX11_rule 50 L st M = zo_iload 1 51 (zz_ev tX11_rule) L st M) ∧
  (∀ L st M, zz_ev tX11_rule 51 L st M = zo_iload 2 52 (zz_ev tX11_rule) L st M) ∧
  (∀ L st M, zz_ev tX11_rule 52 L st M = zo_iload 3 53 (zz_ev tX11_rule) L st M) ∧
  (∀ L st M, zz_ev tX11_rule 53 L st M = zo_iload 4 55 (zz_ev tX11_rule) L st M) ∧
  (∀ L st M, zz_ev tX11_rule 55 L st M = zo_iload 5 57 (zz_ev tX11_rule) L st M) ∧
  (∀ L st M, zz_ev tX11_rule 57 L st M = zo_iload 6 59 (zz_ev tX11_rule) L st M) ∧
  (∀ (L : zzLc) (a0 a1 a2 a3 a4 a5 : Int32) (r : List Value) (M : zzMd), zz_ev tX11_rule 59 L (.int a5 :: .int a4 :: .int a3 :: .int a2 :: .int a1 :: .int a0 :: .ref 2 :: r) M = bif zz_cat8 r then zz_backN (zz_ev tX11_rule) 62 L r (fX0_addRule [.ref 2, .int a0, .int a1, .int a2, .int a3, .int a4, .int a5] M) else none) ∧
  (∀ L st M, zz_ev tX11_rule 62 L st M = zo_if (fun x => decide (¬ x = 0)) 75 65 (zz_ev tX11_rule) L st M) ∧
  (∀ L st M, zz_ev tX11_rule 65 L st M = zo_throw 1 (zz_ev tX11_rule) L st M) ∧
  (∀ L st M, zz_ev tX11_rule 75 L st M = zo_aload 0 76 (zz_ev tX11_rule) L st M) ∧
  (∀ (L : zzLc) (r : List Value) (M : zzMd), zz_ev tX11_rule 76 L (.ref 0 :: r) M = zz_ev tX11_rule 79 L (.ref 1 :: r) M) ∧
  (∀ (L : zzLc) (r : List Value) (M : zzMd), zz_ev tX11_rule 79 L (.ref 1 :: r) M = zz_ev tX11_rule 82 L (.ref 2 :: r) M) ∧
  (∀ (L : zzLc) (r : List Value) (M : zzMd), zz_ev tX11_rule 82 L (.ref 2 :: r) M = zz_ev tX11_rule 85 L (.int (M.1 2 3) :: r) M) ∧
  (∀ L st M, zz_ev tX11_rule 85 L st M = zo_iret false (zz_ev tX11_rule) L st M) :=
  ⟨zz_1 rfl tl_X11_rule, zz_1 rfl tl_X11_rule, fun L a0 a1 r M => (zz_1 rfl tl_X11_rule _ _ _).trans rfl, zz_1 rfl tl_X11_rule, zz_1 rfl tl_X11_rule, zz_1 rfl tl_X11_rule, fun L a0 a1 r M => (zz_1 rfl tl_X11_rule _ _ _).trans rfl, zz_1 rfl tl_X11_rule, zz_1 rfl tl_X11_rule, zz_1 rfl tl_X11_rule, zz_1 rfl tl_X11_rule, zz_1 rfl tl_X11_rule, zz_1 rfl tl_X11_rule, fun L a0 a1 r M => (zz_1 rfl tl_X11_rule _ _ _).trans rfl, zz_1 rfl tl_X11_rule, zz_1 rfl tl_X11_rule, zz_1 rfl tl_X11_rule, fun L r M => (zz_1 rfl tl_X11_rule _ _ _).trans rfl, fun L r M => (zz_1 rfl tl_X11_rule _ _ _).trans rfl, zz_1 rfl tl_X11_rule, zz_1 rfl tl_X11_rule, zz_1 rfl tl_X11_rule, zz_1 rfl tl_X11_rule, zz_1 rfl tl_X11_rule, zz_1 rfl tl_X11_rule, fun L a0 a1 a2 a3 a4 a5 r M => (zz_1 rfl tl_X11_rule _ _ _).trans rfl, zz_1 rfl tl_X11_rule, zz_1 rfl tl_X11_rule, zz_1 rfl tl_X11_rule, fun L r M => (zz_1 rfl tl_X11_rule _ _ _).trans rfl, fun L r M => (zz_1 rfl tl_X11_rule _ _ _).trans rfl, fun L r M => (zz_1 rfl tl_X11_rule _ _ _).trans rfl, zz_1 rfl tl_X11_rule⟩
set_option maxRecDepth 100000 in
theorem s_X11_rule (a0 a1 a2 a3 a4 a5 : Int32) (v : Nat) (M : zzMd) : fX11_rule [.ref v, .int a0, .int a1, .int a2, .int a3, .int a4, .int a5] M = zz_ev tX11_rule 0 [some (.ref v), some (.int a0), some (.int a1), some (.int a2), some (.int a3), some (.int a4), some (.int a5)] [] M := rfl
set_option maxRecDepth 100000 in
theorem e_X11_check : (∀ L st M, zz_ev tX11_check 0 L st M = zo_iload 1 1 (zz_ev tX11_check) L st M) ∧
  (∀ L st M, zz_ev tX11_check 1 L st M = zo_iload 2 2 (zz_ev tX11_check) L st M) ∧
  (∀ (L : zzLc) (a0 a1 : Int32) (r : List Value) (M : zzMd), zz_ev tX11_check 2 L (.int a1 :: .int a0 :: r) M = bif zz_cat8 r then zz_backN (zz_ev tX11_check) 5 L r (fX11_hasField [.int a0, .int a1] M) else none) ∧
  (∀ L st M, zz_ev tX11_check 5 L st M = zo_if (fun x => decide (¬ x = 0)) 18 8 (zz_ev tX11_check) L st M) ∧
  (∀ L st M, zz_ev tX11_check 8 L st M = zo_throw 0 (zz_ev tX11_check) L st M) ∧
  (∀ L st M, zz_ev tX11_check 18 L st M = zo_aload 0 19 (zz_ev tX11_check) L st M) ∧
  (∀ (L : zzLc) (r : List Value) (M : zzMd), zz_ev tX11_check 19 L (.ref 0 :: r) M = zz_ev tX11_check 22 L (.ref 1 :: r) M) ∧
  (∀ (L : zzLc) (r : List Value) (M : zzMd), zz_ev tX11_check 22 L (.ref 1 :: r) M = zz_ev tX11_check 25 L (.ref 2 :: r) M) ∧
  (∀ L st M, zz_ev tX11_check 25 L st M = zo_iload 1 26 (zz_ev tX11_check) L st M) ∧
  (∀ L st M, zz_ev tX11_check 26 L st M = zo_iload 2 27 (zz_ev tX11_check) L st M) ∧
  (∀ L st M, zz_ev tX11_check 27 L st M = zo_iload 3 28 (zz_ev tX11_check) L st M) ∧
  (∀ (L : zzLc) (a0 a1 a2 : Int32) (r : List Value) (M : zzMd), zz_ev tX11_check 28 L (.int a2 :: .int a1 :: .int a0 :: .ref 2 :: r) M = bif zz_cat8 r then zz_backN (zz_ev tX11_check) 31 L r (fX0_addCheck [.ref 2, .int a0, .int a1, .int a2] M) else none) ∧
  (∀ L st M, zz_ev tX11_check 31 L st M = zo_if (fun x => decide (¬ x = 0)) 44 34 (zz_ev tX11_check) L st M) ∧
  (∀ L st M, zz_ev tX11_check 34 L st M = zo_throw 1 (zz_ev tX11_check) L st M) ∧
  (∀ L st M, zz_ev tX11_check 44 L st M = zo_aload 0 45 (zz_ev tX11_check) L st M) ∧
  (∀ (L : zzLc) (r : List Value) (M : zzMd), zz_ev tX11_check 45 L (.ref 0 :: r) M = zz_ev tX11_check 48 L (.ref 1 :: r) M) ∧
  (∀ (L : zzLc) (r : List Value) (M : zzMd), zz_ev tX11_check 48 L (.ref 1 :: r) M = zz_ev tX11_check 51 L (.ref 2 :: r) M) ∧
  (∀ (L : zzLc) (r : List Value) (M : zzMd), zz_ev tX11_check 51 L (.ref 2 :: r) M = zz_ev tX11_check 54 L (.int (M.1 2 4) :: r) M) ∧
  (∀ L st M, zz_ev tX11_check 54 L st M = zo_iret false (zz_ev tX11_check) L st M) :=
  ⟨zz_1 rfl tl_X11_check, zz_1 rfl tl_X11_check, fun L a0 a1 r M => (zz_1 rfl tl_X11_check _ _ _).trans rfl, zz_1 rfl tl_X11_check, zz_1 rfl tl_X11_check, zz_1 rfl tl_X11_check, fun L r M => (zz_1 rfl tl_X11_check _ _ _).trans rfl, fun L r M => (zz_1 rfl tl_X11_check _ _ _).trans rfl, zz_1 rfl tl_X11_check, zz_1 rfl tl_X11_check, zz_1 rfl tl_X11_check, fun L a0 a1 a2 r M => (zz_1 rfl tl_X11_check _ _ _).trans rfl, zz_1 rfl tl_X11_check, zz_1 rfl tl_X11_check, zz_1 rfl tl_X11_check, fun L r M => (zz_1 rfl tl_X11_check _ _ _).trans rfl, fun L r M => (zz_1 rfl tl_X11_check _ _ _).trans rfl, fun L r M => (zz_1 rfl tl_X11_check _ _ _).trans rfl, zz_1 rfl tl_X11_check⟩
set_option maxRecDepth 100000 in
theorem s_X11_check (a0 a1 a2 : Int32) (v : Nat) (M : zzMd) : fX11_check [.ref v, .int a0, .int a1, .int a2] M = zz_ev tX11_check 0 [some (.ref v), some (.int a0), some (.int a1), some (.int a2)] [] M := rfl
set_option maxRecDepth 100000 in
theorem e_X11_clear : (∀ L st M, zz_ev tX11_clear 0 L st M = zo_aload 0 1 (zz_ev tX11_clear) L st M) ∧
  (∀ (L : zzLc) (r : List Value) (M : zzMd), zz_ev tX11_clear 1 L (.ref 0 :: r) M = zz_ev tX11_clear 4 L (.ref 1 :: r) M) ∧
  (∀ (L : zzLc) (r : List Value) (M : zzMd), zz_ev tX11_clear 4 L (.ref 1 :: r) M = zz_ev tX11_clear 7 L (.ref 2 :: r) M) ∧
  (∀ (L : zzLc) (r : List Value) (M : zzMd), zz_ev tX11_clear 7 L (.ref 2 :: r) M = bif zz_cat8 r then zz_backN (zz_ev tX11_clear) 10 L r (fX0_removeAll [.ref 2] M) else none) ∧
  (∀ L st M, zz_ev tX11_clear 10 L st M = zo_iret false (zz_ev tX11_clear) L st M) :=
  ⟨zz_1 rfl tl_X11_clear, fun L r M => (zz_1 rfl tl_X11_clear _ _ _).trans rfl, fun L r M => (zz_1 rfl tl_X11_clear _ _ _).trans rfl, fun L  r M => (zz_1 rfl tl_X11_clear _ _ _).trans rfl, zz_1 rfl tl_X11_clear⟩
set_option maxRecDepth 100000 in
theorem s_X11_clear (v : Nat) (M : zzMd) : fX11_clear [.ref v] M = zz_ev tX11_clear 0 [some (.ref v)] [] M := rfl
set_option maxRecDepth 100000 in
theorem e_X11_quota : (∀ L st M, zz_ev tX11_quota 0 L st M = zo_iload 1 1 (zz_ev tX11_quota) L st M) ∧
  (∀ L st M, zz_ev tX11_quota 1 L st M = zo_if (fun x => decide (x < 0)) 10 4 (zz_ev tX11_quota) L st M) ∧
  (∀ L st M, zz_ev tX11_quota 4 L st M = zo_iload 1 5 (zz_ev tX11_quota) L st M) ∧
  (∀ L st M, zz_ev tX11_quota 5 L st M = zo_pushI 60 7 (zz_ev tX11_quota) L st M) ∧
  (∀ L st M, zz_ev tX11_quota 7 L st M = zo_icmp (fun x y => decide (x ≤ y)) 20 10 (zz_ev tX11_quota) L st M) ∧
  (∀ L st M, zz_ev tX11_quota 10 L st M = zo_throw 0 (zz_ev tX11_quota) L st M) ∧
  (∀ L st M, zz_ev tX11_quota 20 L st M = zo_aload 0 21 (zz_ev tX11_quota) L st M) ∧
  (∀ (L : zzLc) (r : List Value) (M : zzMd), zz_ev tX11_quota 21 L (.ref 0 :: r) M = zz_ev tX11_quota 24 L (.ref 1 :: r) M) ∧
  (∀ (L : zzLc) (r : List Value) (M : zzMd), zz_ev tX11_quota 24 L (.ref 1 :: r) M = zz_ev tX11_quota 27 L (.ref 2 :: r) M) ∧
  (∀ (L : zzLc) (r : List Value) (M : zzMd), zz_ev tX11_quota 27 L (.ref 2 :: r) M = zz_ev tX11_quota 30 L (.int (M.1 2 5) :: r) M) ∧
  (∀ L st M, zz_ev tX11_quota 30 L st M = zo_istore 2 31 (zz_ev tX11_quota) L st M) ∧
  (∀ L st M, zz_ev tX11_quota 31 L st M = zo_aload 0 32 (zz_ev tX11_quota) L st M) ∧
  (∀ (L : zzLc) (r : List Value) (M : zzMd), zz_ev tX11_quota 32 L (.ref 0 :: r) M = zz_ev tX11_quota 35 L (.ref 1 :: r) M) ∧
  (∀ (L : zzLc) (r : List Value) (M : zzMd), zz_ev tX11_quota 35 L (.ref 1 :: r) M = zz_ev tX11_quota 38 L (.ref 2 :: r) M) ∧
  (∀ L st M, zz_ev tX11_quota 38 L st M = zo_iload 1 39 (zz_ev tX11_quota) L st M) ∧
  (∀ (L : zzLc) (x : Int32) (r : List Value) (M : zzMd), zz_ev tX11_quota 39 L (.int x :: .ref 2 :: r) M = zz_ev tX11_quota 42 L r (zz_sI M 2 5 x)) ∧
  (∀ L st M, zz_ev tX11_quota 42 L st M = zo_iload 2 43 (zz_ev tX11_quota) L st M) ∧
  (∀ L st M, zz_ev tX11_quota 43 L st M = zo_iret false (zz_ev tX11_quota) L st M) :=
  ⟨zz_1 rfl tl_X11_quota, zz_1 rfl tl_X11_quota, zz_1 rfl tl_X11_quota, zz_1 rfl tl_X11_quota, zz_1 rfl tl_X11_quota, zz_1 rfl tl_X11_quota, zz_1 rfl tl_X11_quota, fun L r M => (zz_1 rfl tl_X11_quota _ _ _).trans rfl, fun L r M => (zz_1 rfl tl_X11_quota _ _ _).trans rfl, fun L r M => (zz_1 rfl tl_X11_quota _ _ _).trans rfl, zz_1 rfl tl_X11_quota, zz_1 rfl tl_X11_quota, fun L r M => (zz_1 rfl tl_X11_quota _ _ _).trans rfl, fun L r M => (zz_1 rfl tl_X11_quota _ _ _).trans rfl, zz_1 rfl tl_X11_quota, fun L x r M => (zz_1 rfl tl_X11_quota _ _ _).trans rfl, zz_1 rfl tl_X11_quota, zz_1 rfl tl_X11_quota⟩
set_option maxRecDepth 100000 in
theorem s_X11_quota (a0 : Int32) (v : Nat) (M : zzMd) : fX11_quota [.ref v, .int a0] M = zz_ev tX11_quota 0 [some (.ref v), some (.int a0), none] [] M := rfl
set_option maxRecDepth 100000 in
theorem e_X11_controllerAt : (∀ L st M, zz_ev tX11_controllerAt 0 L st M = zo_iload 1 1 (zz_ev tX11_controllerAt) L st M) ∧
  (∀ L st M, zz_ev tX11_controllerAt 1 L st M = zo_if (fun x => decide (x < 0)) 19 4 (zz_ev tX11_controllerAt) L st M) ∧
  (∀ L st M, zz_ev tX11_controllerAt 4 L st M = zo_iload 1 5 (zz_ev tX11_controllerAt) L st M) ∧
  (∀ L st M, zz_ev tX11_controllerAt 5 L st M = zo_pushI 8 7 (zz_ev tX11_controllerAt) L st M) ∧
  (∀ L st M, zz_ev tX11_controllerAt 7 L st M = zo_icmp (fun x y => decide (y ≤ x)) 19 10 (zz_ev tX11_controllerAt) L st M) ∧
  (∀ L st M, zz_ev tX11_controllerAt 10 L st M = zo_aload 0 11 (zz_ev tX11_controllerAt) L st M) ∧
  (∀ (L : zzLc) (r : List Value) (M : zzMd), zz_ev tX11_controllerAt 11 L (.ref 0 :: r) M = zz_ev tX11_controllerAt 14 L (.ref 11 :: r) M) ∧
  (∀ L st M, zz_ev tX11_controllerAt 14 L st M = zo_iload 1 15 (zz_ev tX11_controllerAt) L st M) ∧
  (∀ L st M, zz_ev tX11_controllerAt 15 L st M = zo_aald zzSC 16 (zz_ev tX11_controllerAt) L st M) ∧
  (∀ L st M, zz_ev tX11_controllerAt 16 L st M = zo_goto 20 (zz_ev tX11_controllerAt) L st M) ∧
  (∀ L st M, zz_ev tX11_controllerAt 19 L st M = zo_null 20 (zz_ev tX11_controllerAt) L st M) ∧
  (∀ L st M, zz_ev tX11_controllerAt 20 L st M = zo_aret (zz_ev tX11_controllerAt) L st M) :=
  ⟨zz_1 rfl tl_X11_controllerAt, zz_1 rfl tl_X11_controllerAt, zz_1 rfl tl_X11_controllerAt, zz_1 rfl tl_X11_controllerAt, zz_1 rfl tl_X11_controllerAt, zz_1 rfl tl_X11_controllerAt, fun L r M => (zz_1 rfl tl_X11_controllerAt _ _ _).trans rfl, zz_1 rfl tl_X11_controllerAt, zz_1 rfl tl_X11_controllerAt, zz_1 rfl tl_X11_controllerAt, zz_1 rfl tl_X11_controllerAt, zz_1 rfl tl_X11_controllerAt⟩
set_option maxRecDepth 100000 in
theorem s_X11_controllerAt (a0 : Int32) (v : Nat) (M : zzMd) : fX11_controllerAt [.ref v, .int a0] M = zz_ev tX11_controllerAt 0 [some (.ref v), some (.int a0)] [] M := rfl
set_option maxRecDepth 100000 in
theorem e_X11_see : (∀ L st M, zz_ev tX11_see 0 L st M = zo_aload 0 1 (zz_ev tX11_see) L st M) ∧
  (∀ L st M, zz_ev tX11_see 1 L st M = zo_iload 1 2 (zz_ev tX11_see) L st M) ∧
  (∀ (L : zzLc) (a0 : Int32) (r : List Value) (M : zzMd), zz_ev tX11_see 2 L (.int a0 :: .ref 0 :: r) M = bif zz_cat8 r then zz_backN (zz_ev tX11_see) 5 L r (fX11_controllerAt [.ref 0, .int a0] M) else none) ∧
  (∀ L st M, zz_ev tX11_see 5 L st M = zo_astore 3 6 (zz_ev tX11_see) L st M) ∧
  (∀ L st M, zz_ev tX11_see 6 L st M = zo_aload 3 7 (zz_ev tX11_see) L st M) ∧
  (∀ L st M, zz_ev tX11_see 7 L st M = zo_ifnull 22 10 (zz_ev tX11_see) L st M) ∧
  (∀ L st M, zz_ev tX11_see 10 L st M = zo_iload 2 11 (zz_ev tX11_see) L st M) ∧
  (∀ L st M, zz_ev tX11_see 11 L st M = zo_pushI 1 12 (zz_ev tX11_see) L st M) ∧
  (∀ L st M, zz_ev tX11_see 12 L st M = zo_icmp (fun x y => decide (x < y)) 22 15 (zz_ev tX11_see) L st M) ∧
  (∀ L st M, zz_ev tX11_see 15 L st M = zo_iload 2 16 (zz_ev tX11_see) L st M) ∧
  (∀ L st M, zz_ev tX11_see 16 L st M = zo_pushI 400 19 (zz_ev tX11_see) L st M) ∧
  (∀ L st M, zz_ev tX11_see 19 L st M = zo_icmp (fun x y => decide (x ≤ y)) 32 22 (zz_ev tX11_see) L st M) ∧
  (∀ L st M, zz_ev tX11_see 22 L st M = zo_throw 0 (zz_ev tX11_see) L st M) ∧
  (∀ L st M, zz_ev tX11_see 32 L st M = zo_aload 3 33 (zz_ev tX11_see) L st M) ∧
  (∀ L st M, zz_ev tX11_see 33 L st M = zo_iload 2 34 (zz_ev tX11_see) L st M) ∧
  (∀ (L : zzLc) (a0 : Int32) (r : List Value) (M : zzMd), zz_ev tX11_see 34 L (.int a0 :: .ref 8 :: r) M = bif zz_cat8 r then zz_backN (zz_ev tX11_see) 37 L r (fX2_look [.ref 8, .int a0] M) else none) ∧
  (∀ (L : zzLc) (a0 : Int32) (r : List Value) (M : zzMd), zz_ev tX11_see 34 L (.int a0 :: .ref 3 :: r) M = bif zz_cat8 r then zz_backN (zz_ev tX11_see) 37 L r (fX2_look [.ref 3, .int a0] M) else none) ∧
  (∀ (L : zzLc) (a0 : Int32) (r : List Value) (M : zzMd), zz_ev tX11_see 34 L (.int a0 :: .ref 4 :: r) M = bif zz_cat8 r then zz_backN (zz_ev tX11_see) 37 L r (fX2_look [.ref 4, .int a0] M) else none) ∧
  (∀ (L : zzLc) (a0 : Int32) (r : List Value) (M : zzMd), zz_ev tX11_see 34 L (.int a0 :: .ref 5 :: r) M = bif zz_cat8 r then zz_backN (zz_ev tX11_see) 37 L r (fX2_look [.ref 5, .int a0] M) else none) ∧
  (∀ (L : zzLc) (a0 : Int32) (r : List Value) (M : zzMd), zz_ev tX11_see 34 L (.int a0 :: .ref 9 :: r) M = bif zz_cat8 r then zz_backN (zz_ev tX11_see) 37 L r (fX2_look [.ref 9, .int a0] M) else none) ∧
  (∀ (L : zzLc) (a0 : Int32) (r : List Value) (M : zzMd), zz_ev tX11_see 34 L (.int a0 :: .ref 7 :: r) M = bif zz_cat8 r then zz_backN (zz_ev tX11_see) 37 L r (fX2_look [.ref 7, .int a0] M) else none) ∧
  (∀ (L : zzLc) (a0 : Int32) (r : List Value) (M : zzMd), zz_ev tX11_see 34 L (.int a0 :: .ref 10 :: r) M = bif zz_cat8 r then zz_backN (zz_ev tX11_see) 37 L r (fX2_look [.ref 10, .int a0] M) else none) ∧
  (∀ (L : zzLc) (a0 : Int32) (r : List Value) (M : zzMd), zz_ev tX11_see 34 L (.int a0 :: .ref 6 :: r) M = bif zz_cat8 r then zz_backN (zz_ev tX11_see) 37 L r (fX2_look [.ref 6, .int a0] M) else none) ∧
  (∀ L st M, zz_ev tX11_see 37 L st M = zo_iret false (zz_ev tX11_see) L st M) :=
  ⟨zz_1 rfl tl_X11_see, zz_1 rfl tl_X11_see, fun L a0 r M => (zz_1 rfl tl_X11_see _ _ _).trans rfl, zz_1 rfl tl_X11_see, zz_1 rfl tl_X11_see, zz_1 rfl tl_X11_see, zz_1 rfl tl_X11_see, zz_1 rfl tl_X11_see, zz_1 rfl tl_X11_see, zz_1 rfl tl_X11_see, zz_1 rfl tl_X11_see, zz_1 rfl tl_X11_see, zz_1 rfl tl_X11_see, zz_1 rfl tl_X11_see, zz_1 rfl tl_X11_see, fun L a0 r M => (zz_1 rfl tl_X11_see _ _ _).trans rfl, fun L a0 r M => (zz_1 rfl tl_X11_see _ _ _).trans rfl, fun L a0 r M => (zz_1 rfl tl_X11_see _ _ _).trans rfl, fun L a0 r M => (zz_1 rfl tl_X11_see _ _ _).trans rfl, fun L a0 r M => (zz_1 rfl tl_X11_see _ _ _).trans rfl, fun L a0 r M => (zz_1 rfl tl_X11_see _ _ _).trans rfl, fun L a0 r M => (zz_1 rfl tl_X11_see _ _ _).trans rfl, fun L a0 r M => (zz_1 rfl tl_X11_see _ _ _).trans rfl, zz_1 rfl tl_X11_see⟩
set_option maxRecDepth 100000 in
theorem s_X11_see (a0 a1 : Int32) (v : Nat) (M : zzMd) : fX11_see [.ref v, .int a0, .int a1] M = zz_ev tX11_see 0 [some (.ref v), some (.int a0), some (.int a1), none] [] M := rfl
set_option maxRecDepth 100000 in
theorem e_X11_work : (∀ L st M, zz_ev tX11_work 0 L st M = zo_aload 0 1 (zz_ev tX11_work) L st M) ∧
  (∀ L st M, zz_ev tX11_work 1 L st M = zo_iload 1 2 (zz_ev tX11_work) L st M) ∧
  (∀ (L : zzLc) (a0 : Int32) (r : List Value) (M : zzMd), zz_ev tX11_work 2 L (.int a0 :: .ref 0 :: r) M = bif zz_cat8 r then zz_backN (zz_ev tX11_work) 5 L r (fX11_controllerAt [.ref 0, .int a0] M) else none) ∧
  (∀ L st M, zz_ev tX11_work 5 L st M = zo_astore 2 6 (zz_ev tX11_work) L st M) ∧
  (∀ L st M, zz_ev tX11_work 6 L st M = zo_aload 2 7 (zz_ev tX11_work) L st M) ∧
  (∀ L st M, zz_ev tX11_work 7 L st M = zo_ifnull 10 20 (zz_ev tX11_work) L st M) ∧
  (∀ L st M, zz_ev tX11_work 10 L st M = zo_throw 0 (zz_ev tX11_work) L st M) ∧
  (∀ L st M, zz_ev tX11_work 20 L st M = zo_aload 2 21 (zz_ev tX11_work) L st M) ∧
  (∀ (L : zzLc) (r : List Value) (M : zzMd), zz_ev tX11_work 21 L (.ref 8 :: r) M = bif zz_cat8 r then zz_backN (zz_ev tX11_work) 24 L r (fX2_workOnce [.ref 8] M) else none) ∧
  (∀ (L : zzLc) (r : List Value) (M : zzMd), zz_ev tX11_work 21 L (.ref 3 :: r) M = bif zz_cat8 r then zz_backN (zz_ev tX11_work) 24 L r (fX2_workOnce [.ref 3] M) else none) ∧
  (∀ (L : zzLc) (r : List Value) (M : zzMd), zz_ev tX11_work 21 L (.ref 4 :: r) M = bif zz_cat8 r then zz_backN (zz_ev tX11_work) 24 L r (fX2_workOnce [.ref 4] M) else none) ∧
  (∀ (L : zzLc) (r : List Value) (M : zzMd), zz_ev tX11_work 21 L (.ref 5 :: r) M = bif zz_cat8 r then zz_backN (zz_ev tX11_work) 24 L r (fX2_workOnce [.ref 5] M) else none) ∧
  (∀ (L : zzLc) (r : List Value) (M : zzMd), zz_ev tX11_work 21 L (.ref 9 :: r) M = bif zz_cat8 r then zz_backN (zz_ev tX11_work) 24 L r (fX2_workOnce [.ref 9] M) else none) ∧
  (∀ (L : zzLc) (r : List Value) (M : zzMd), zz_ev tX11_work 21 L (.ref 7 :: r) M = bif zz_cat8 r then zz_backN (zz_ev tX11_work) 24 L r (fX2_workOnce [.ref 7] M) else none) ∧
  (∀ (L : zzLc) (r : List Value) (M : zzMd), zz_ev tX11_work 21 L (.ref 10 :: r) M = bif zz_cat8 r then zz_backN (zz_ev tX11_work) 24 L r (fX2_workOnce [.ref 10] M) else none) ∧
  (∀ (L : zzLc) (r : List Value) (M : zzMd), zz_ev tX11_work 21 L (.ref 6 :: r) M = bif zz_cat8 r then zz_backN (zz_ev tX11_work) 24 L r (fX2_workOnce [.ref 6] M) else none) ∧
  (∀ L st M, zz_ev tX11_work 24 L st M = zo_iret false (zz_ev tX11_work) L st M) :=
  ⟨zz_1 rfl tl_X11_work, zz_1 rfl tl_X11_work, fun L a0 r M => (zz_1 rfl tl_X11_work _ _ _).trans rfl, zz_1 rfl tl_X11_work, zz_1 rfl tl_X11_work, zz_1 rfl tl_X11_work, zz_1 rfl tl_X11_work, zz_1 rfl tl_X11_work, fun L  r M => (zz_1 rfl tl_X11_work _ _ _).trans rfl, fun L  r M => (zz_1 rfl tl_X11_work _ _ _).trans rfl, fun L  r M => (zz_1 rfl tl_X11_work _ _ _).trans rfl, fun L  r M => (zz_1 rfl tl_X11_work _ _ _).trans rfl, fun L  r M => (zz_1 rfl tl_X11_work _ _ _).trans rfl, fun L  r M => (zz_1 rfl tl_X11_work _ _ _).trans rfl, fun L  r M => (zz_1 rfl tl_X11_work _ _ _).trans rfl, fun L  r M => (zz_1 rfl tl_X11_work _ _ _).trans rfl, zz_1 rfl tl_X11_work⟩
set_option maxRecDepth 100000 in
theorem s_X11_work (a0 : Int32) (v : Nat) (M : zzMd) : fX11_work [.ref v, .int a0] M = zz_ev tX11_work 0 [some (.ref v), some (.int a0), none] [] M := rfl
set_option maxRecDepth 100000 in
theorem e_X11_turn : (∀ L st M, zz_ev tX11_turn 0 L st M = zo_iload 1 1 (zz_ev tX11_turn) L st M) ∧
  (∀ L st M, zz_ev tX11_turn 1 L st M = zo_pushI 1 2 (zz_ev tX11_turn) L st M) ∧
  (∀ L st M, zz_ev tX11_turn 2 L st M = zo_icmp (fun x y => decide (x < y)) 11 5 (zz_ev tX11_turn) L st M) ∧
  (∀ L st M, zz_ev tX11_turn 5 L st M = zo_iload 1 6 (zz_ev tX11_turn) L st M) ∧
  (∀ L st M, zz_ev tX11_turn 6 L st M = zo_pushI 10 8 (zz_ev tX11_turn) L st M) ∧
  (∀ L st M, zz_ev tX11_turn 8 L st M = zo_icmp (fun x y => decide (x ≤ y)) 21 11 (zz_ev tX11_turn) L st M) ∧
  (∀ L st M, zz_ev tX11_turn 11 L st M = zo_throw 0 (zz_ev tX11_turn) L st M) ∧
  (∀ L st M, zz_ev tX11_turn 21 L st M = zo_aload 0 22 (zz_ev tX11_turn) L st M) ∧
  (∀ (L : zzLc) (r : List Value) (M : zzMd), zz_ev tX11_turn 22 L (.ref 0 :: r) M = zz_ev tX11_turn 25 L (.ref 1 :: r) M) ∧
  (∀ (L : zzLc) (r : List Value) (M : zzMd), zz_ev tX11_turn 25 L (.ref 1 :: r) M = zz_ev tX11_turn 28 L (.int (M.1 1 3) :: r) M) ∧
  (∀ L st M, zz_ev tX11_turn 28 L st M = zo_istore 2 29 (zz_ev tX11_turn) L st M) ∧
  (∀ L st M, zz_ev tX11_turn 29 L st M = zo_pushI 0 30 (zz_ev tX11_turn) L st M) ∧
  (∀ L st M, zz_ev tX11_turn 30 L st M = zo_istore 3 31 (zz_ev tX11_turn) L st M) ∧
  (∀ L st M, zz_ev tX11_turn 32 L st M = zo_iload 1 33 (zz_ev tX11_turn) L st M) ∧
  (∀ L st M, zz_ev tX11_turn 33 L st M = zo_icmp (fun x y => decide (y ≤ x)) 104 36 (zz_ev tX11_turn) L st M) ∧
  (∀ L st M, zz_ev tX11_turn 36 L st M = zo_pushI 0 37 (zz_ev tX11_turn) L st M) ∧
  (∀ L st M, zz_ev tX11_turn 37 L st M = zo_istore 4 39 (zz_ev tX11_turn) L st M) ∧
  (∀ L st M, zz_ev tX11_turn 41 L st M = zo_pushI 8 43 (zz_ev tX11_turn) L st M) ∧
  (∀ L st M, zz_ev tX11_turn 43 L st M = zo_icmp (fun x y => decide (y ≤ x)) 98 46 (zz_ev tX11_turn) L st M) ∧
  (∀ L st M, zz_ev tX11_turn 46 L st M = zo_aload 0 47 (zz_ev tX11_turn) L st M) ∧
  (∀ L st M, zz_ev tX11_turn 47 L st M = zo_iload 4 49 (zz_ev tX11_turn) L st M) ∧
  (∀ (L : zzLc) (a0 : Int32) (r : List Value) (M : zzMd), zz_ev tX11_turn 49 L (.int a0 :: .ref 0 :: r) M = bif zz_cat8 r then zz_backN (zz_ev tX11_turn) 52 L r (fX11_controllerAt [.ref 0, .int a0] M) else none) ∧
  (∀ L st M, zz_ev tX11_turn 52 L st M = zo_astore 5 54 (zz_ev tX11_turn) L st M) ∧
  (∀ L st M, zz_ev tX11_turn 54 L st M = zo_aload 5 56 (zz_ev tX11_turn) L st M) ∧
  (∀ L st M, zz_ev tX11_turn 56 L st M = zo_ifnull 59 63 (zz_ev tX11_turn) L st M) ∧
  (∀ L st M, zz_ev tX11_turn 59 L st M = zo_pushI 0 60 (zz_ev tX11_turn) L st M) ∧
  (∀ L st M, zz_ev tX11_turn 60 L st M = zo_goto 68 (zz_ev tX11_turn) L st M) ∧
  (∀ L st M, zz_ev tX11_turn 63 L st M = zo_aload 5 65 (zz_ev tX11_turn) L st M) ∧
  (∀ (L : zzLc) (r : List Value) (M : zzMd), zz_ev tX11_turn 65 L (.ref 8 :: r) M = bif zz_cat8 r then zz_backN (zz_ev tX11_turn) 68 L r (fX2_lookAtAll [.ref 8] M) else none) ∧
  (∀ (L : zzLc) (r : List Value) (M : zzMd), zz_ev tX11_turn 65 L (.ref 3 :: r) M = bif zz_cat8 r then zz_backN (zz_ev tX11_turn) 68 L r (fX2_lookAtAll [.ref 3] M) else none) ∧
  (∀ (L : zzLc) (r : List Value) (M : zzMd), zz_ev tX11_turn 65 L (.ref 4 :: r) M = bif zz_cat8 r then zz_backN (zz_ev tX11_turn) 68 L r (fX2_lookAtAll [.ref 4] M) else none) ∧
  (∀ (L : zzLc) (r : List Value) (M : zzMd), zz_ev tX11_turn 65 L (.ref 5 :: r) M = bif zz_cat8 r then zz_backN (zz_ev tX11_turn) 68 L r (fX2_lookAtAll [.ref 5] M) else none) ∧
  (∀ (L : zzLc) (r : List Value) (M : zzMd), zz_ev tX11_turn 65 L (.ref 9 :: r) M = bif zz_cat8 r then zz_backN (zz_ev tX11_turn) 68 L r (fX2_lookAtAll [.ref 9] M) else none) ∧
  (∀ (L : zzLc) (r : List Value) (M : zzMd), zz_ev tX11_turn 65 L (.ref 7 :: r) M = bif zz_cat8 r then zz_backN (zz_ev tX11_turn) 68 L r (fX2_lookAtAll [.ref 7] M) else none) ∧
  (∀ (L : zzLc) (r : List Value) (M : zzMd), zz_ev tX11_turn 65 L (.ref 10 :: r) M = bif zz_cat8 r then zz_backN (zz_ev tX11_turn) 68 L r (fX2_lookAtAll [.ref 10] M) else none) ∧
  (∀ (L : zzLc) (r : List Value) (M : zzMd), zz_ev tX11_turn 65 L (.ref 6 :: r) M = bif zz_cat8 r then zz_backN (zz_ev tX11_turn) 68 L r (fX2_lookAtAll [.ref 6] M) else none) ∧
  (∀ L st M, zz_ev tX11_turn 68 L st M = zo_istore 6 70 (zz_ev tX11_turn) L st M) ∧
  (∀ L st M, zz_ev tX11_turn 70 L st M = zo_pushI 0 71 (zz_ev tX11_turn) L st M) ∧
  (∀ L st M, zz_ev tX11_turn 71 L st M = zo_istore 7 73 (zz_ev tX11_turn) L st M) ∧
  (∀ L st M, zz_ev tX11_turn 75 L st M = zo_iload 6 77 (zz_ev tX11_turn) L st M) ∧
  (∀ L st M, zz_ev tX11_turn 77 L st M = zo_icmp (fun x y => decide (y ≤ x)) 92 80 (zz_ev tX11_turn) L st M) ∧
  (∀ L st M, zz_ev tX11_turn 80 L st M = zo_aload 5 82 (zz_ev tX11_turn) L st M) ∧
  (∀ (L : zzLc) (r : List Value) (M : zzMd), zz_ev tX11_turn 82 L (.ref 8 :: r) M = bif zz_cat8 r then zz_backN (zz_ev tX11_turn) 85 L r (fX2_workOnce [.ref 8] M) else none) ∧
  (∀ (L : zzLc) (r : List Value) (M : zzMd), zz_ev tX11_turn 82 L (.ref 3 :: r) M = bif zz_cat8 r then zz_backN (zz_ev tX11_turn) 85 L r (fX2_workOnce [.ref 3] M) else none) ∧
  (∀ (L : zzLc) (r : List Value) (M : zzMd), zz_ev tX11_turn 82 L (.ref 4 :: r) M = bif zz_cat8 r then zz_backN (zz_ev tX11_turn) 85 L r (fX2_workOnce [.ref 4] M) else none) ∧
  (∀ (L : zzLc) (r : List Value) (M : zzMd), zz_ev tX11_turn 82 L (.ref 5 :: r) M = bif zz_cat8 r then zz_backN (zz_ev tX11_turn) 85 L r (fX2_workOnce [.ref 5] M) else none) ∧
  (∀ (L : zzLc) (r : List Value) (M : zzMd), zz_ev tX11_turn 82 L (.ref 9 :: r) M = bif zz_cat8 r then zz_backN (zz_ev tX11_turn) 85 L r (fX2_workOnce [.ref 9] M) else none) ∧
  (∀ (L : zzLc) (r : List Value) (M : zzMd), zz_ev tX11_turn 82 L (.ref 7 :: r) M = bif zz_cat8 r then zz_backN (zz_ev tX11_turn) 85 L r (fX2_workOnce [.ref 7] M) else none) ∧
  (∀ (L : zzLc) (r : List Value) (M : zzMd), zz_ev tX11_turn 82 L (.ref 10 :: r) M = bif zz_cat8 r then zz_backN (zz_ev tX11_turn) 85 L r (fX2_workOnce [.ref 10] M) else none) ∧
  (∀ (L : zzLc) (r : List Value) (M : zzMd), zz_ev tX11_turn 82 L (.ref 6 :: r) M = bif zz_cat8 r then zz_backN (zz_ev tX11_turn) 85 L r (fX2_workOnce [.ref 6] M) else none) ∧
  (∀ L st M, zz_ev tX11_turn 85 L st M = zo_pop 86 (zz_ev tX11_turn) L st M) ∧
  (∀ L st M, zz_ev tX11_turn 86 L st M = zo_iinc 7 1 89 (zz_ev tX11_turn) L st M) ∧
  (∀ L st M, zz_ev tX11_turn 89 L st M = zo_goto 73 (zz_ev tX11_turn) L st M) ∧
  (∀ L st M, zz_ev tX11_turn 92 L st M = zo_iinc 4 1 95 (zz_ev tX11_turn) L st M) ∧
  (∀ L st M, zz_ev tX11_turn 95 L st M = zo_goto 39 (zz_ev tX11_turn) L st M) ∧
  (∀ L st M, zz_ev tX11_turn 98 L st M = zo_iinc 3 1 101 (zz_ev tX11_turn) L st M) ∧
  (∀ L st M, zz_ev tX11_turn 101 L st M = zo_goto 31 (zz_ev tX11_turn) L st M) ∧
  (∀ L st M, zz_ev tX11_turn 104 L st M = zo_aload 0 105 (zz_ev tX11_turn) L st M) ∧
  (∀ (L : zzLc) (r : List Value) (M : zzMd), zz_ev tX11_turn 105 L (.ref 0 :: r) M = zz_ev tX11_turn 108 L (.ref 1 :: r) M) ∧
  (∀ (L : zzLc) (r : List Value) (M : zzMd), zz_ev tX11_turn 108 L (.ref 1 :: r) M = zz_ev tX11_turn 111 L (.int (M.1 1 3) :: r) M) ∧
  (∀ L st M, zz_ev tX11_turn 111 L st M = zo_iload 2 112 (zz_ev tX11_turn) L st M) ∧
  (∀ L st M, zz_ev tX11_turn 112 L st M = zo_ii (fun x y => x - y) 113 (zz_ev tX11_turn) L st M) ∧
  (∀ L st M, zz_ev tX11_turn 113 L st M = zo_iret false (zz_ev tX11_turn) L st M) :=
  ⟨zz_1 rfl tl_X11_turn, zz_1 rfl tl_X11_turn, zz_1 rfl tl_X11_turn, zz_1 rfl tl_X11_turn, zz_1 rfl tl_X11_turn, zz_1 rfl tl_X11_turn, zz_1 rfl tl_X11_turn, zz_1 rfl tl_X11_turn, fun L r M => (zz_1 rfl tl_X11_turn _ _ _).trans rfl, fun L r M => (zz_1 rfl tl_X11_turn _ _ _).trans rfl, zz_1 rfl tl_X11_turn, zz_1 rfl tl_X11_turn, zz_1 rfl tl_X11_turn, zz_1 rfl tl_X11_turn, zz_1 rfl tl_X11_turn, zz_1 rfl tl_X11_turn, zz_1 rfl tl_X11_turn, zz_1 rfl tl_X11_turn, zz_1 rfl tl_X11_turn, zz_1 rfl tl_X11_turn, zz_1 rfl tl_X11_turn, fun L a0 r M => (zz_1 rfl tl_X11_turn _ _ _).trans rfl, zz_1 rfl tl_X11_turn, zz_1 rfl tl_X11_turn, zz_1 rfl tl_X11_turn, zz_1 rfl tl_X11_turn, zz_1 rfl tl_X11_turn, zz_1 rfl tl_X11_turn, fun L  r M => (zz_1 rfl tl_X11_turn _ _ _).trans rfl, fun L  r M => (zz_1 rfl tl_X11_turn _ _ _).trans rfl, fun L  r M => (zz_1 rfl tl_X11_turn _ _ _).trans rfl, fun L  r M => (zz_1 rfl tl_X11_turn _ _ _).trans rfl, fun L  r M => (zz_1 rfl tl_X11_turn _ _ _).trans rfl, fun L  r M => (zz_1 rfl tl_X11_turn _ _ _).trans rfl, fun L  r M => (zz_1 rfl tl_X11_turn _ _ _).trans rfl, fun L  r M => (zz_1 rfl tl_X11_turn _ _ _).trans rfl, zz_1 rfl tl_X11_turn, zz_1 rfl tl_X11_turn, zz_1 rfl tl_X11_turn, zz_1 rfl tl_X11_turn, zz_1 rfl tl_X11_turn, zz_1 rfl tl_X11_turn, fun L  r M => (zz_1 rfl tl_X11_turn _ _ _).trans rfl, fun L  r M => (zz_1 rfl tl_X11_turn _ _ _).trans rfl, fun L  r M => (zz_1 rfl tl_X11_turn _ _ _).trans rfl, fun L  r M => (zz_1 rfl tl_X11_turn _ _ _).trans rfl, fun L  r M => (zz_1 rfl tl_X11_turn _ _ _).trans rfl, fun L  r M => (zz_1 rfl tl_X11_turn _ _ _).trans rfl, fun L  r M => (zz_1 rfl tl_X11_turn _ _ _).trans rfl, fun L  r M => (zz_1 rfl tl_X11_turn _ _ _).trans rfl, zz_1 rfl tl_X11_turn, zz_1 rfl tl_X11_turn, zz_1 rfl tl_X11_turn, zz_1 rfl tl_X11_turn, zz_1 rfl tl_X11_turn, zz_1 rfl tl_X11_turn, zz_1 rfl tl_X11_turn, zz_1 rfl tl_X11_turn, fun L r M => (zz_1 rfl tl_X11_turn _ _ _).trans rfl, fun L r M => (zz_1 rfl tl_X11_turn _ _ _).trans rfl, zz_1 rfl tl_X11_turn, zz_1 rfl tl_X11_turn, zz_1 rfl tl_X11_turn⟩
set_option maxRecDepth 100000 in
theorem e_X11_turn_31 : (∀ L st M, zz_ev tX11_turn 31 L st M = zo_iload 3 32 (zz_ev tX11_turn) L st M) := zz_1 rfl tl_X11_turn
set_option maxRecDepth 100000 in
theorem e_X11_turn_39 : (∀ L st M, zz_ev tX11_turn 39 L st M = zo_iload 4 41 (zz_ev tX11_turn) L st M) := zz_1 rfl tl_X11_turn
set_option maxRecDepth 100000 in
theorem e_X11_turn_73 : (∀ L st M, zz_ev tX11_turn 73 L st M = zo_iload 7 75 (zz_ev tX11_turn) L st M) := zz_1 rfl tl_X11_turn
set_option maxRecDepth 100000 in
theorem s_X11_turn (a0 : Int32) (v : Nat) (M : zzMd) : fX11_turn [.ref v, .int a0] M = zz_ev tX11_turn 0 [some (.ref v), some (.int a0), none, none, none, none, none, none] [] M := rfl
set_option maxRecDepth 100000 in
theorem e_X11_seen : (∀ L st M, zz_ev tX11_seen 0 L st M = zo_aload 0 1 (zz_ev tX11_seen) L st M) ∧
  (∀ L st M, zz_ev tX11_seen 1 L st M = zo_iload 1 2 (zz_ev tX11_seen) L st M) ∧
  (∀ (L : zzLc) (a0 : Int32) (r : List Value) (M : zzMd), zz_ev tX11_seen 2 L (.int a0 :: .ref 0 :: r) M = bif zz_cat8 r then zz_backN (zz_ev tX11_seen) 5 L r (fX11_controllerAt [.ref 0, .int a0] M) else none) ∧
  (∀ L st M, zz_ev tX11_seen 5 L st M = zo_astore 2 6 (zz_ev tX11_seen) L st M) ∧
  (∀ L st M, zz_ev tX11_seen 6 L st M = zo_aload 2 7 (zz_ev tX11_seen) L st M) ∧
  (∀ L st M, zz_ev tX11_seen 7 L st M = zo_ifnull 10 20 (zz_ev tX11_seen) L st M) ∧
  (∀ L st M, zz_ev tX11_seen 10 L st M = zo_throw 0 (zz_ev tX11_seen) L st M) ∧
  (∀ L st M, zz_ev tX11_seen 20 L st M = zo_aload 2 21 (zz_ev tX11_seen) L st M) ∧
  (∀ (L : zzLc) (r : List Value) (M : zzMd), zz_ev tX11_seen 21 L (.ref 3 :: r) M = zz_ev tX11_seen 24 L (.int (M.1 3 3) :: r) M) ∧
  (∀ (L : zzLc) (r : List Value) (M : zzMd), zz_ev tX11_seen 21 L (.ref 4 :: r) M = zz_ev tX11_seen 24 L (.int (M.1 4 3) :: r) M) ∧
  (∀ (L : zzLc) (r : List Value) (M : zzMd), zz_ev tX11_seen 21 L (.ref 5 :: r) M = zz_ev tX11_seen 24 L (.int (M.1 5 3) :: r) M) ∧
  (∀ (L : zzLc) (r : List Value) (M : zzMd), zz_ev tX11_seen 21 L (.ref 6 :: r) M = zz_ev tX11_seen 24 L (.int (M.1 6 3) :: r) M) ∧
  (∀ (L : zzLc) (r : List Value) (M : zzMd), zz_ev tX11_seen 21 L (.ref 7 :: r) M = zz_ev tX11_seen 24 L (.int (M.1 7 3) :: r) M) ∧
  (∀ (L : zzLc) (r : List Value) (M : zzMd), zz_ev tX11_seen 21 L (.ref 8 :: r) M = zz_ev tX11_seen 24 L (.int (M.1 8 3) :: r) M) ∧
  (∀ (L : zzLc) (r : List Value) (M : zzMd), zz_ev tX11_seen 21 L (.ref 9 :: r) M = zz_ev tX11_seen 24 L (.int (M.1 9 3) :: r) M) ∧
  (∀ (L : zzLc) (r : List Value) (M : zzMd), zz_ev tX11_seen 21 L (.ref 10 :: r) M = zz_ev tX11_seen 24 L (.int (M.1 10 3) :: r) M) ∧
  (∀ L st M, zz_ev tX11_seen 24 L st M = zo_iret false (zz_ev tX11_seen) L st M) :=
  ⟨zz_1 rfl tl_X11_seen, zz_1 rfl tl_X11_seen, fun L a0 r M => (zz_1 rfl tl_X11_seen _ _ _).trans rfl, zz_1 rfl tl_X11_seen, zz_1 rfl tl_X11_seen, zz_1 rfl tl_X11_seen, zz_1 rfl tl_X11_seen, zz_1 rfl tl_X11_seen, fun L r M => (zz_1 rfl tl_X11_seen _ _ _).trans rfl, fun L r M => (zz_1 rfl tl_X11_seen _ _ _).trans rfl, fun L r M => (zz_1 rfl tl_X11_seen _ _ _).trans rfl, fun L r M => (zz_1 rfl tl_X11_seen _ _ _).trans rfl, fun L r M => (zz_1 rfl tl_X11_seen _ _ _).trans rfl, fun L r M => (zz_1 rfl tl_X11_seen _ _ _).trans rfl, fun L r M => (zz_1 rfl tl_X11_seen _ _ _).trans rfl, fun L r M => (zz_1 rfl tl_X11_seen _ _ _).trans rfl, zz_1 rfl tl_X11_seen⟩
set_option maxRecDepth 100000 in
theorem s_X11_seen (a0 : Int32) (v : Nat) (M : zzMd) : fX11_seen [.ref v, .int a0] M = zz_ev tX11_seen 0 [some (.ref v), some (.int a0), none] [] M := rfl
set_option maxRecDepth 100000 in
theorem e_X11_queued : (∀ L st M, zz_ev tX11_queued 0 L st M = zo_aload 0 1 (zz_ev tX11_queued) L st M) ∧
  (∀ L st M, zz_ev tX11_queued 1 L st M = zo_iload 1 2 (zz_ev tX11_queued) L st M) ∧
  (∀ (L : zzLc) (a0 : Int32) (r : List Value) (M : zzMd), zz_ev tX11_queued 2 L (.int a0 :: .ref 0 :: r) M = bif zz_cat8 r then zz_backN (zz_ev tX11_queued) 5 L r (fX11_controllerAt [.ref 0, .int a0] M) else none) ∧
  (∀ L st M, zz_ev tX11_queued 5 L st M = zo_astore 3 6 (zz_ev tX11_queued) L st M) ∧
  (∀ L st M, zz_ev tX11_queued 6 L st M = zo_aload 3 7 (zz_ev tX11_queued) L st M) ∧
  (∀ L st M, zz_ev tX11_queued 7 L st M = zo_ifnull 10 20 (zz_ev tX11_queued) L st M) ∧
  (∀ L st M, zz_ev tX11_queued 10 L st M = zo_throw 0 (zz_ev tX11_queued) L st M) ∧
  (∀ L st M, zz_ev tX11_queued 20 L st M = zo_iload 2 21 (zz_ev tX11_queued) L st M) ∧
  (∀ L st M, zz_ev tX11_queued 21 L st M = zo_if (fun x => decide (0 ≤ x)) 34 24 (zz_ev tX11_queued) L st M) ∧
  (∀ L st M, zz_ev tX11_queued 24 L st M = zo_throw 2 (zz_ev tX11_queued) L st M) ∧
  (∀ L st M, zz_ev tX11_queued 34 L st M = zo_aload 3 35 (zz_ev tX11_queued) L st M) ∧
  (∀ L st M, zz_ev tX11_queued 35 L st M = zo_iload 2 36 (zz_ev tX11_queued) L st M) ∧
  (∀ (L : zzLc) (a0 : Int32) (r : List Value) (M : zzMd), zz_ev tX11_queued 36 L (.int a0 :: .ref 8 :: r) M = bif zz_cat8 r then zz_backN (zz_ev tX11_queued) 39 L r (fX2_keyAt [.ref 8, .int a0] M) else none) ∧
  (∀ (L : zzLc) (a0 : Int32) (r : List Value) (M : zzMd), zz_ev tX11_queued 36 L (.int a0 :: .ref 3 :: r) M = bif zz_cat8 r then zz_backN (zz_ev tX11_queued) 39 L r (fX2_keyAt [.ref 3, .int a0] M) else none) ∧
  (∀ (L : zzLc) (a0 : Int32) (r : List Value) (M : zzMd), zz_ev tX11_queued 36 L (.int a0 :: .ref 4 :: r) M = bif zz_cat8 r then zz_backN (zz_ev tX11_queued) 39 L r (fX2_keyAt [.ref 4, .int a0] M) else none) ∧
  (∀ (L : zzLc) (a0 : Int32) (r : List Value) (M : zzMd), zz_ev tX11_queued 36 L (.int a0 :: .ref 5 :: r) M = bif zz_cat8 r then zz_backN (zz_ev tX11_queued) 39 L r (fX2_keyAt [.ref 5, .int a0] M) else none) ∧
  (∀ (L : zzLc) (a0 : Int32) (r : List Value) (M : zzMd), zz_ev tX11_queued 36 L (.int a0 :: .ref 9 :: r) M = bif zz_cat8 r then zz_backN (zz_ev tX11_queued) 39 L r (fX2_keyAt [.ref 9, .int a0] M) else none) ∧
  (∀ (L : zzLc) (a0 : Int32) (r : List Value) (M : zzMd), zz_ev tX11_queued 36 L (.int a0 :: .ref 7 :: r) M = bif zz_cat8 r then zz_backN (zz_ev tX11_queued) 39 L r (fX2_keyAt [.ref 7, .int a0] M) else none) ∧
  (∀ (L : zzLc) (a0 : Int32) (r : List Value) (M : zzMd), zz_ev tX11_queued 36 L (.int a0 :: .ref 10 :: r) M = bif zz_cat8 r then zz_backN (zz_ev tX11_queued) 39 L r (fX2_keyAt [.ref 10, .int a0] M) else none) ∧
  (∀ (L : zzLc) (a0 : Int32) (r : List Value) (M : zzMd), zz_ev tX11_queued 36 L (.int a0 :: .ref 6 :: r) M = bif zz_cat8 r then zz_backN (zz_ev tX11_queued) 39 L r (fX2_keyAt [.ref 6, .int a0] M) else none) ∧
  (∀ L st M, zz_ev tX11_queued 39 L st M = zo_iret false (zz_ev tX11_queued) L st M) :=
  ⟨zz_1 rfl tl_X11_queued, zz_1 rfl tl_X11_queued, fun L a0 r M => (zz_1 rfl tl_X11_queued _ _ _).trans rfl, zz_1 rfl tl_X11_queued, zz_1 rfl tl_X11_queued, zz_1 rfl tl_X11_queued, zz_1 rfl tl_X11_queued, zz_1 rfl tl_X11_queued, zz_1 rfl tl_X11_queued, zz_1 rfl tl_X11_queued, zz_1 rfl tl_X11_queued, zz_1 rfl tl_X11_queued, fun L a0 r M => (zz_1 rfl tl_X11_queued _ _ _).trans rfl, fun L a0 r M => (zz_1 rfl tl_X11_queued _ _ _).trans rfl, fun L a0 r M => (zz_1 rfl tl_X11_queued _ _ _).trans rfl, fun L a0 r M => (zz_1 rfl tl_X11_queued _ _ _).trans rfl, fun L a0 r M => (zz_1 rfl tl_X11_queued _ _ _).trans rfl, fun L a0 r M => (zz_1 rfl tl_X11_queued _ _ _).trans rfl, fun L a0 r M => (zz_1 rfl tl_X11_queued _ _ _).trans rfl, fun L a0 r M => (zz_1 rfl tl_X11_queued _ _ _).trans rfl, zz_1 rfl tl_X11_queued⟩
set_option maxRecDepth 100000 in
theorem s_X11_queued (a0 a1 : Int32) (v : Nat) (M : zzMd) : fX11_queued [.ref v, .int a0, .int a1] M = zz_ev tX11_queued 0 [some (.ref v), some (.int a0), some (.int a1), none] [] M := rfl
set_option maxRecDepth 100000 in
theorem e_X11_failures : (∀ L st M, zz_ev tX11_failures 0 L st M = zo_aload 0 1 (zz_ev tX11_failures) L st M) ∧
  (∀ L st M, zz_ev tX11_failures 1 L st M = zo_iload 1 2 (zz_ev tX11_failures) L st M) ∧
  (∀ (L : zzLc) (a0 : Int32) (r : List Value) (M : zzMd), zz_ev tX11_failures 2 L (.int a0 :: .ref 0 :: r) M = bif zz_cat8 r then zz_backN (zz_ev tX11_failures) 5 L r (fX11_controllerAt [.ref 0, .int a0] M) else none) ∧
  (∀ L st M, zz_ev tX11_failures 5 L st M = zo_astore 3 6 (zz_ev tX11_failures) L st M) ∧
  (∀ L st M, zz_ev tX11_failures 6 L st M = zo_aload 3 7 (zz_ev tX11_failures) L st M) ∧
  (∀ L st M, zz_ev tX11_failures 7 L st M = zo_ifnull 10 20 (zz_ev tX11_failures) L st M) ∧
  (∀ L st M, zz_ev tX11_failures 10 L st M = zo_throw 0 (zz_ev tX11_failures) L st M) ∧
  (∀ L st M, zz_ev tX11_failures 20 L st M = zo_aload 0 21 (zz_ev tX11_failures) L st M) ∧
  (∀ L st M, zz_ev tX11_failures 21 L st M = zo_iload 2 22 (zz_ev tX11_failures) L st M) ∧
  (∀ (L : zzLc) (a0 : Int32) (r : List Value) (M : zzMd), zz_ev tX11_failures 22 L (.int a0 :: .ref 0 :: r) M = bif zz_cat8 r then zz_back (zz_ev tX11_failures) 25 L r (fX11_requireObject [.ref 0, .int a0] M) else none) ∧
  (∀ L st M, zz_ev tX11_failures 25 L st M = zo_aload 3 26 (zz_ev tX11_failures) L st M) ∧
  (∀ (L : zzLc) (r : List Value) (M : zzMd), zz_ev tX11_failures 26 L (.ref 3 :: r) M = zz_ev tX11_failures 29 L (.ref 24 :: r) M) ∧
  (∀ (L : zzLc) (r : List Value) (M : zzMd), zz_ev tX11_failures 26 L (.ref 4 :: r) M = zz_ev tX11_failures 29 L (.ref 30 :: r) M) ∧
  (∀ (L : zzLc) (r : List Value) (M : zzMd), zz_ev tX11_failures 26 L (.ref 5 :: r) M = zz_ev tX11_failures 29 L (.ref 36 :: r) M) ∧
  (∀ (L : zzLc) (r : List Value) (M : zzMd), zz_ev tX11_failures 26 L (.ref 6 :: r) M = zz_ev tX11_failures 29 L (.ref 42 :: r) M) ∧
  (∀ (L : zzLc) (r : List Value) (M : zzMd), zz_ev tX11_failures 26 L (.ref 7 :: r) M = zz_ev tX11_failures 29 L (.ref 48 :: r) M) ∧
  (∀ (L : zzLc) (r : List Value) (M : zzMd), zz_ev tX11_failures 26 L (.ref 8 :: r) M = zz_ev tX11_failures 29 L (.ref 54 :: r) M) ∧
  (∀ (L : zzLc) (r : List Value) (M : zzMd), zz_ev tX11_failures 26 L (.ref 9 :: r) M = zz_ev tX11_failures 29 L (.ref 60 :: r) M) ∧
  (∀ (L : zzLc) (r : List Value) (M : zzMd), zz_ev tX11_failures 26 L (.ref 10 :: r) M = zz_ev tX11_failures 29 L (.ref 66 :: r) M) ∧
  (∀ L st M, zz_ev tX11_failures 29 L st M = zo_iload 2 30 (zz_ev tX11_failures) L st M) ∧
  (∀ L st M, zz_ev tX11_failures 30 L st M = zo_iald zzSC zzSTC 31 (zz_ev tX11_failures) L st M) ∧
  (∀ L st M, zz_ev tX11_failures 31 L st M = zo_iret false (zz_ev tX11_failures) L st M) :=
  ⟨zz_1 rfl tl_X11_failures, zz_1 rfl tl_X11_failures, fun L a0 r M => (zz_1 rfl tl_X11_failures _ _ _).trans rfl, zz_1 rfl tl_X11_failures, zz_1 rfl tl_X11_failures, zz_1 rfl tl_X11_failures, zz_1 rfl tl_X11_failures, zz_1 rfl tl_X11_failures, zz_1 rfl tl_X11_failures, fun L a0 r M => (zz_1 rfl tl_X11_failures _ _ _).trans rfl, zz_1 rfl tl_X11_failures, fun L r M => (zz_1 rfl tl_X11_failures _ _ _).trans rfl, fun L r M => (zz_1 rfl tl_X11_failures _ _ _).trans rfl, fun L r M => (zz_1 rfl tl_X11_failures _ _ _).trans rfl, fun L r M => (zz_1 rfl tl_X11_failures _ _ _).trans rfl, fun L r M => (zz_1 rfl tl_X11_failures _ _ _).trans rfl, fun L r M => (zz_1 rfl tl_X11_failures _ _ _).trans rfl, fun L r M => (zz_1 rfl tl_X11_failures _ _ _).trans rfl, fun L r M => (zz_1 rfl tl_X11_failures _ _ _).trans rfl, zz_1 rfl tl_X11_failures, zz_1 rfl tl_X11_failures, zz_1 rfl tl_X11_failures⟩
set_option maxRecDepth 100000 in
theorem s_X11_failures (a0 a1 : Int32) (v : Nat) (M : zzMd) : fX11_failures [.ref v, .int a0, .int a1] M = zz_ev tX11_failures 0 [some (.ref v), some (.int a0), some (.int a1), none] [] M := rfl
set_option maxRecDepth 100000 in
theorem e_X11_requireField : (∀ L st M, zz_ev tX11_requireField 0 L st M = zo_aload 0 1 (zz_ev tX11_requireField) L st M) ∧
  (∀ (L : zzLc) (r : List Value) (M : zzMd), zz_ev tX11_requireField 1 L (.ref 0 :: r) M = zz_ev tX11_requireField 4 L (.ref 1 :: r) M) ∧
  (∀ L st M, zz_ev tX11_requireField 4 L st M = zo_iload 1 5 (zz_ev tX11_requireField) L st M) ∧
  (∀ L st M, zz_ev tX11_requireField 5 L st M = zo_pushI 23 7 (zz_ev tX11_requireField) L st M) ∧
  (∀ (L : zzLc) (a0 a1 : Int32) (r : List Value) (M : zzMd), zz_ev tX11_requireField 7 L (.int a1 :: .int a0 :: .ref 1 :: r) M = bif zz_cat8 r then zz_backN (zz_ev tX11_requireField) 10 L r (fX10_read [.ref 1, .int a0, .int a1] M) else none) ∧
  (∀ L st M, zz_ev tX11_requireField 10 L st M = zo_iload 2 11 (zz_ev tX11_requireField) L st M) ∧
  (∀ (L : zzLc) (a0 a1 : Int32) (r : List Value) (M : zzMd), zz_ev tX11_requireField 11 L (.int a1 :: .int a0 :: r) M = bif zz_cat8 r then zz_backN (zz_ev tX11_requireField) 14 L r (fX11_hasField [.int a0, .int a1] M) else none) ∧
  (∀ L st M, zz_ev tX11_requireField 14 L st M = zo_if (fun x => decide (¬ x = 0)) 28 17 (zz_ev tX11_requireField) L st M) ∧
  (∀ L st M, zz_ev tX11_requireField 17 L st M = zo_throw 0 (zz_ev tX11_requireField) L st M) ∧
  (∀ L st M, zz_ev tX11_requireField 28 L st M = zo_ret (zz_ev tX11_requireField) L st M) :=
  ⟨zz_1 rfl tl_X11_requireField, fun L r M => (zz_1 rfl tl_X11_requireField _ _ _).trans rfl, zz_1 rfl tl_X11_requireField, zz_1 rfl tl_X11_requireField, fun L a0 a1 r M => (zz_1 rfl tl_X11_requireField _ _ _).trans rfl, zz_1 rfl tl_X11_requireField, fun L a0 a1 r M => (zz_1 rfl tl_X11_requireField _ _ _).trans rfl, zz_1 rfl tl_X11_requireField, zz_1 rfl tl_X11_requireField, zz_1 rfl tl_X11_requireField⟩
set_option maxRecDepth 100000 in
theorem s_X11_requireField (a0 a1 : Int32) (v : Nat) (M : zzMd) : fX11_requireField [.ref v, .int a0, .int a1] M = zz_ev tX11_requireField 0 [some (.ref v), some (.int a0), some (.int a1)] [] M := rfl
set_option maxRecDepth 100000 in
theorem e_X11_believed : (∀ L st M, zz_ev tX11_believed 0 L st M = zo_aload 0 1 (zz_ev tX11_believed) L st M) ∧
  (∀ L st M, zz_ev tX11_believed 1 L st M = zo_iload 1 2 (zz_ev tX11_believed) L st M) ∧
  (∀ (L : zzLc) (a0 : Int32) (r : List Value) (M : zzMd), zz_ev tX11_believed 2 L (.int a0 :: .ref 0 :: r) M = bif zz_cat8 r then zz_backN (zz_ev tX11_believed) 5 L r (fX11_controllerAt [.ref 0, .int a0] M) else none) ∧
  (∀ L st M, zz_ev tX11_believed 5 L st M = zo_astore 4 7 (zz_ev tX11_believed) L st M) ∧
  (∀ L st M, zz_ev tX11_believed 7 L st M = zo_aload 4 9 (zz_ev tX11_believed) L st M) ∧
  (∀ L st M, zz_ev tX11_believed 9 L st M = zo_ifnull 12 22 (zz_ev tX11_believed) L st M) ∧
  (∀ L st M, zz_ev tX11_believed 12 L st M = zo_throw 0 (zz_ev tX11_believed) L st M) ∧
  (∀ L st M, zz_ev tX11_believed 22 L st M = zo_aload 0 23 (zz_ev tX11_believed) L st M) ∧
  (∀ L st M, zz_ev tX11_believed 23 L st M = zo_iload 2 24 (zz_ev tX11_believed) L st M) ∧
  (∀ (L : zzLc) (a0 : Int32) (r : List Value) (M : zzMd), zz_ev tX11_believed 24 L (.int a0 :: .ref 0 :: r) M = bif zz_cat8 r then zz_back (zz_ev tX11_believed) 27 L r (fX11_requireObject [.ref 0, .int a0] M) else none) ∧
  (∀ L st M, zz_ev tX11_believed 27 L st M = zo_aload 0 28 (zz_ev tX11_believed) L st M) ∧
  (∀ L st M, zz_ev tX11_believed 28 L st M = zo_iload 2 29 (zz_ev tX11_believed) L st M) ∧
  (∀ L st M, zz_ev tX11_believed 29 L st M = zo_iload 3 30 (zz_ev tX11_believed) L st M) ∧
  (∀ (L : zzLc) (a0 a1 : Int32) (r : List Value) (M : zzMd), zz_ev tX11_believed 30 L (.int a1 :: .int a0 :: .ref 0 :: r) M = bif zz_cat8 r then zz_back (zz_ev tX11_believed) 33 L r (fX11_requireField [.ref 0, .int a0, .int a1] M) else none) ∧
  (∀ L st M, zz_ev tX11_believed 33 L st M = zo_aload 4 35 (zz_ev tX11_believed) L st M) ∧
  (∀ L st M, zz_ev tX11_believed 35 L st M = zo_iload 2 36 (zz_ev tX11_believed) L st M) ∧
  (∀ L st M, zz_ev tX11_believed 36 L st M = zo_iload 3 37 (zz_ev tX11_believed) L st M) ∧
  (∀ (L : zzLc) (a0 a1 : Int32) (r : List Value) (M : zzMd), zz_ev tX11_believed 37 L (.int a1 :: .int a0 :: .ref 8 :: r) M = bif zz_cat8 r then zz_backN (zz_ev tX11_believed) 40 L r (fX10_read [.ref 8, .int a0, .int a1] M) else none) ∧
  (∀ (L : zzLc) (a0 a1 : Int32) (r : List Value) (M : zzMd), zz_ev tX11_believed 37 L (.int a1 :: .int a0 :: .ref 3 :: r) M = bif zz_cat8 r then zz_backN (zz_ev tX11_believed) 40 L r (fX10_read [.ref 3, .int a0, .int a1] M) else none) ∧
  (∀ (L : zzLc) (a0 a1 : Int32) (r : List Value) (M : zzMd), zz_ev tX11_believed 37 L (.int a1 :: .int a0 :: .ref 4 :: r) M = bif zz_cat8 r then zz_backN (zz_ev tX11_believed) 40 L r (fX10_read [.ref 4, .int a0, .int a1] M) else none) ∧
  (∀ (L : zzLc) (a0 a1 : Int32) (r : List Value) (M : zzMd), zz_ev tX11_believed 37 L (.int a1 :: .int a0 :: .ref 5 :: r) M = bif zz_cat8 r then zz_backN (zz_ev tX11_believed) 40 L r (fX10_read [.ref 5, .int a0, .int a1] M) else none) ∧
  (∀ (L : zzLc) (a0 a1 : Int32) (r : List Value) (M : zzMd), zz_ev tX11_believed 37 L (.int a1 :: .int a0 :: .ref 9 :: r) M = bif zz_cat8 r then zz_backN (zz_ev tX11_believed) 40 L r (fX10_read [.ref 9, .int a0, .int a1] M) else none) ∧
  (∀ (L : zzLc) (a0 a1 : Int32) (r : List Value) (M : zzMd), zz_ev tX11_believed 37 L (.int a1 :: .int a0 :: .ref 7 :: r) M = bif zz_cat8 r then zz_backN (zz_ev tX11_believed) 40 L r (fX10_read [.ref 7, .int a0, .int a1] M) else none) ∧
  (∀ (L : zzLc) (a0 a1 : Int32) (r : List Value) (M : zzMd), zz_ev tX11_believed 37 L (.int a1 :: .int a0 :: .ref 10 :: r) M = bif zz_cat8 r then zz_backN (zz_ev tX11_believed) 40 L r (fX10_read [.ref 10, .int a0, .int a1] M) else none) ∧
  (∀ (L : zzLc) (a0 a1 : Int32) (r : List Value) (M : zzMd), zz_ev tX11_believed 37 L (.int a1 :: .int a0 :: .ref 6 :: r) M = bif zz_cat8 r then zz_backN (zz_ev tX11_believed) 40 L r (fX10_read [.ref 6, .int a0, .int a1] M) else none) ∧
  (∀ L st M, zz_ev tX11_believed 40 L st M = zo_iret false (zz_ev tX11_believed) L st M) :=
  ⟨zz_1 rfl tl_X11_believed, zz_1 rfl tl_X11_believed, fun L a0 r M => (zz_1 rfl tl_X11_believed _ _ _).trans rfl, zz_1 rfl tl_X11_believed, zz_1 rfl tl_X11_believed, zz_1 rfl tl_X11_believed, zz_1 rfl tl_X11_believed, zz_1 rfl tl_X11_believed, zz_1 rfl tl_X11_believed, fun L a0 r M => (zz_1 rfl tl_X11_believed _ _ _).trans rfl, zz_1 rfl tl_X11_believed, zz_1 rfl tl_X11_believed, zz_1 rfl tl_X11_believed, fun L a0 a1 r M => (zz_1 rfl tl_X11_believed _ _ _).trans rfl, zz_1 rfl tl_X11_believed, zz_1 rfl tl_X11_believed, zz_1 rfl tl_X11_believed, fun L a0 a1 r M => (zz_1 rfl tl_X11_believed _ _ _).trans rfl, fun L a0 a1 r M => (zz_1 rfl tl_X11_believed _ _ _).trans rfl, fun L a0 a1 r M => (zz_1 rfl tl_X11_believed _ _ _).trans rfl, fun L a0 a1 r M => (zz_1 rfl tl_X11_believed _ _ _).trans rfl, fun L a0 a1 r M => (zz_1 rfl tl_X11_believed _ _ _).trans rfl, fun L a0 a1 r M => (zz_1 rfl tl_X11_believed _ _ _).trans rfl, fun L a0 a1 r M => (zz_1 rfl tl_X11_believed _ _ _).trans rfl, fun L a0 a1 r M => (zz_1 rfl tl_X11_believed _ _ _).trans rfl, zz_1 rfl tl_X11_believed⟩
set_option maxRecDepth 100000 in
theorem s_X11_believed (a0 a1 a2 : Int32) (v : Nat) (M : zzMd) : fX11_believed [.ref v, .int a0, .int a1, .int a2] M = zz_ev tX11_believed 0 [some (.ref v), some (.int a0), some (.int a1), some (.int a2), none] [] M := rfl
set_option maxRecDepth 100000 in
theorem e_X11_isSettled : (∀ L st M, zz_ev tX11_isSettled 0 L st M = zo_pushI 0 1 (zz_ev tX11_isSettled) L st M) ∧
  (∀ L st M, zz_ev tX11_isSettled 1 L st M = zo_istore 1 2 (zz_ev tX11_isSettled) L st M) ∧
  (∀ L st M, zz_ev tX11_isSettled 3 L st M = zo_pushI 8 5 (zz_ev tX11_isSettled) L st M) ∧
  (∀ L st M, zz_ev tX11_isSettled 5 L st M = zo_icmp (fun x y => decide (y ≤ x)) 47 8 (zz_ev tX11_isSettled) L st M) ∧
  (∀ L st M, zz_ev tX11_isSettled 8 L st M = zo_aload 0 9 (zz_ev tX11_isSettled) L st M) ∧
  (∀ L st M, zz_ev tX11_isSettled 9 L st M = zo_iload 1 10 (zz_ev tX11_isSettled) L st M) ∧
  (∀ (L : zzLc) (a0 : Int32) (r : List Value) (M : zzMd), zz_ev tX11_isSettled 10 L (.int a0 :: .ref 0 :: r) M = bif zz_cat8 r then zz_backN (zz_ev tX11_isSettled) 13 L r (fX11_controllerAt [.ref 0, .int a0] M) else none) ∧
  (∀ L st M, zz_ev tX11_isSettled 13 L st M = zo_astore 2 14 (zz_ev tX11_isSettled) L st M) ∧
  (∀ L st M, zz_ev tX11_isSettled 14 L st M = zo_aload 2 15 (zz_ev tX11_isSettled) L st M) ∧
  (∀ L st M, zz_ev tX11_isSettled 15 L st M = zo_ifnull 41 18 (zz_ev tX11_isSettled) L st M) ∧
  (∀ L st M, zz_ev tX11_isSettled 18 L st M = zo_aload 2 19 (zz_ev tX11_isSettled) L st M) ∧
  (∀ (L : zzLc) (r : List Value) (M : zzMd), zz_ev tX11_isSettled 19 L (.ref 3 :: r) M = zz_ev tX11_isSettled 22 L (.int (M.1 3 3) :: r) M) ∧
  (∀ (L : zzLc) (r : List Value) (M : zzMd), zz_ev tX11_isSettled 19 L (.ref 4 :: r) M = zz_ev tX11_isSettled 22 L (.int (M.1 4 3) :: r) M) ∧
  (∀ (L : zzLc) (r : List Value) (M : zzMd), zz_ev tX11_isSettled 19 L (.ref 5 :: r) M = zz_ev tX11_isSettled 22 L (.int (M.1 5 3) :: r) M) ∧
  (∀ (L : zzLc) (r : List Value) (M : zzMd), zz_ev tX11_isSettled 19 L (.ref 6 :: r) M = zz_ev tX11_isSettled 22 L (.int (M.1 6 3) :: r) M) ∧
  (∀ (L : zzLc) (r : List Value) (M : zzMd), zz_ev tX11_isSettled 19 L (.ref 7 :: r) M = zz_ev tX11_isSettled 22 L (.int (M.1 7 3) :: r) M) ∧
  (∀ (L : zzLc) (r : List Value) (M : zzMd), zz_ev tX11_isSettled 19 L (.ref 8 :: r) M = zz_ev tX11_isSettled 22 L (.int (M.1 8 3) :: r) M) ∧
  (∀ (L : zzLc) (r : List Value) (M : zzMd), zz_ev tX11_isSettled 19 L (.ref 9 :: r) M = zz_ev tX11_isSettled 22 L (.int (M.1 9 3) :: r) M) ∧
  (∀ (L : zzLc) (r : List Value) (M : zzMd), zz_ev tX11_isSettled 19 L (.ref 10 :: r) M = zz_ev tX11_isSettled 22 L (.int (M.1 10 3) :: r) M) ∧
  (∀ L st M, zz_ev tX11_isSettled 22 L st M = zo_aload 0 23 (zz_ev tX11_isSettled) L st M) ∧
  (∀ (L : zzLc) (r : List Value) (M : zzMd), zz_ev tX11_isSettled 23 L (.ref 0 :: r) M = zz_ev tX11_isSettled 26 L (.ref 1 :: r) M) ∧
  (∀ (L : zzLc) (r : List Value) (M : zzMd), zz_ev tX11_isSettled 26 L (.ref 1 :: r) M = zz_ev tX11_isSettled 29 L (.int (M.1 1 3) :: r) M) ∧
  (∀ L st M, zz_ev tX11_isSettled 29 L st M = zo_icmp (fun x y => decide (¬ x = y)) 39 32 (zz_ev tX11_isSettled) L st M) ∧
  (∀ L st M, zz_ev tX11_isSettled 32 L st M = zo_aload 2 33 (zz_ev tX11_isSettled) L st M) ∧
  (∀ (L : zzLc) (r : List Value) (M : zzMd), zz_ev tX11_isSettled 33 L (.ref 3 :: r) M = zz_ev tX11_isSettled 36 L (.int (M.1 3 11) :: r) M) ∧
  (∀ (L : zzLc) (r : List Value) (M : zzMd), zz_ev tX11_isSettled 33 L (.ref 4 :: r) M = zz_ev tX11_isSettled 36 L (.int (M.1 4 11) :: r) M) ∧
  (∀ (L : zzLc) (r : List Value) (M : zzMd), zz_ev tX11_isSettled 33 L (.ref 5 :: r) M = zz_ev tX11_isSettled 36 L (.int (M.1 5 11) :: r) M) ∧
  (∀ (L : zzLc) (r : List Value) (M : zzMd), zz_ev tX11_isSettled 33 L (.ref 6 :: r) M = zz_ev tX11_isSettled 36 L (.int (M.1 6 11) :: r) M) ∧
  (∀ (L : zzLc) (r : List Value) (M : zzMd), zz_ev tX11_isSettled 33 L (.ref 7 :: r) M = zz_ev tX11_isSettled 36 L (.int (M.1 7 11) :: r) M) ∧
  (∀ (L : zzLc) (r : List Value) (M : zzMd), zz_ev tX11_isSettled 33 L (.ref 8 :: r) M = zz_ev tX11_isSettled 36 L (.int (M.1 8 11) :: r) M) ∧
  (∀ (L : zzLc) (r : List Value) (M : zzMd), zz_ev tX11_isSettled 33 L (.ref 9 :: r) M = zz_ev tX11_isSettled 36 L (.int (M.1 9 11) :: r) M) ∧
  (∀ (L : zzLc) (r : List Value) (M : zzMd), zz_ev tX11_isSettled 33 L (.ref 10 :: r) M = zz_ev tX11_isSettled 36 L (.int (M.1 10 11) :: r) M) ∧
  (∀ L st M, zz_ev tX11_isSettled 36 L st M = zo_if (fun x => decide (x ≤ 0)) 41 39 (zz_ev tX11_isSettled) L st M) ∧
  (∀ L st M, zz_ev tX11_isSettled 39 L st M = zo_pushI 0 40 (zz_ev tX11_isSettled) L st M) ∧
  (∀ L st M, zz_ev tX11_isSettled 40 L st M = zo_iret true (zz_ev tX11_isSettled) L st M) ∧
  (∀ L st M, zz_ev tX11_isSettled 41 L st M = zo_iinc 1 1 44 (zz_ev tX11_isSettled) L st M) ∧
  (∀ L st M, zz_ev tX11_isSettled 44 L st M = zo_goto 2 (zz_ev tX11_isSettled) L st M) ∧
  (∀ L st M, zz_ev tX11_isSettled 47 L st M = zo_pushI 1 48 (zz_ev tX11_isSettled) L st M) ∧
  (∀ L st M, zz_ev tX11_isSettled 48 L st M = zo_iret true (zz_ev tX11_isSettled) L st M) :=
  ⟨zz_1 rfl tl_X11_isSettled, zz_1 rfl tl_X11_isSettled, zz_1 rfl tl_X11_isSettled, zz_1 rfl tl_X11_isSettled, zz_1 rfl tl_X11_isSettled, zz_1 rfl tl_X11_isSettled, fun L a0 r M => (zz_1 rfl tl_X11_isSettled _ _ _).trans rfl, zz_1 rfl tl_X11_isSettled, zz_1 rfl tl_X11_isSettled, zz_1 rfl tl_X11_isSettled, zz_1 rfl tl_X11_isSettled, fun L r M => (zz_1 rfl tl_X11_isSettled _ _ _).trans rfl, fun L r M => (zz_1 rfl tl_X11_isSettled _ _ _).trans rfl, fun L r M => (zz_1 rfl tl_X11_isSettled _ _ _).trans rfl, fun L r M => (zz_1 rfl tl_X11_isSettled _ _ _).trans rfl, fun L r M => (zz_1 rfl tl_X11_isSettled _ _ _).trans rfl, fun L r M => (zz_1 rfl tl_X11_isSettled _ _ _).trans rfl, fun L r M => (zz_1 rfl tl_X11_isSettled _ _ _).trans rfl, fun L r M => (zz_1 rfl tl_X11_isSettled _ _ _).trans rfl, zz_1 rfl tl_X11_isSettled, fun L r M => (zz_1 rfl tl_X11_isSettled _ _ _).trans rfl, fun L r M => (zz_1 rfl tl_X11_isSettled _ _ _).trans rfl, zz_1 rfl tl_X11_isSettled, zz_1 rfl tl_X11_isSettled, fun L r M => (zz_1 rfl tl_X11_isSettled _ _ _).trans rfl, fun L r M => (zz_1 rfl tl_X11_isSettled _ _ _).trans rfl, fun L r M => (zz_1 rfl tl_X11_isSettled _ _ _).trans rfl, fun L r M => (zz_1 rfl tl_X11_isSettled _ _ _).trans rfl, fun L r M => (zz_1 rfl tl_X11_isSettled _ _ _).trans rfl, fun L r M => (zz_1 rfl tl_X11_isSettled _ _ _).trans rfl, fun L r M => (zz_1 rfl tl_X11_isSettled _ _ _).trans rfl, fun L r M => (zz_1 rfl tl_X11_isSettled _ _ _).trans rfl, zz_1 rfl tl_X11_isSettled, zz_1 rfl tl_X11_isSettled, zz_1 rfl tl_X11_isSettled, zz_1 rfl tl_X11_isSettled, zz_1 rfl tl_X11_isSettled, zz_1 rfl tl_X11_isSettled, zz_1 rfl tl_X11_isSettled⟩
set_option maxRecDepth 100000 in
theorem e_X11_isSettled_2 : (∀ L st M, zz_ev tX11_isSettled 2 L st M = zo_iload 1 3 (zz_ev tX11_isSettled) L st M) := zz_1 rfl tl_X11_isSettled
set_option maxRecDepth 100000 in
theorem s_X11_isSettled (v : Nat) (M : zzMd) : fX11_isSettled [.ref v] M = zz_ev tX11_isSettled 0 [some (.ref v), none, none] [] M := rfl
set_option maxRecDepth 100000 in
theorem e_X11_isReader : (∀ L st M, zz_ev tX11_isReader 0 L st M = zo_iload 0 1 (zz_ev tX11_isReader) L st M) ∧
  (∀ L st M, zz_ev tX11_isReader 1 L st M = zo_if (fun x => decide (x < 0)) 13 4 (zz_ev tX11_isReader) L st M) ∧
  (∀ L st M, zz_ev tX11_isReader 4 L st M = zo_iload 0 5 (zz_ev tX11_isReader) L st M) ∧
  (∀ L st M, zz_ev tX11_isReader 5 L st M = zo_pushI 4 6 (zz_ev tX11_isReader) L st M) ∧
  (∀ L st M, zz_ev tX11_isReader 6 L st M = zo_icmp (fun x y => decide (y ≤ x)) 13 9 (zz_ev tX11_isReader) L st M) ∧
  (∀ L st M, zz_ev tX11_isReader 9 L st M = zo_pushI 1 10 (zz_ev tX11_isReader) L st M) ∧
  (∀ L st M, zz_ev tX11_isReader 10 L st M = zo_goto 14 (zz_ev tX11_isReader) L st M) ∧
  (∀ L st M, zz_ev tX11_isReader 13 L st M = zo_pushI 0 14 (zz_ev tX11_isReader) L st M) ∧
  (∀ L st M, zz_ev tX11_isReader 14 L st M = zo_iret true (zz_ev tX11_isReader) L st M) :=
  ⟨zz_1 rfl tl_X11_isReader, zz_1 rfl tl_X11_isReader, zz_1 rfl tl_X11_isReader, zz_1 rfl tl_X11_isReader, zz_1 rfl tl_X11_isReader, zz_1 rfl tl_X11_isReader, zz_1 rfl tl_X11_isReader, zz_1 rfl tl_X11_isReader, zz_1 rfl tl_X11_isReader⟩
set_option maxRecDepth 100000 in
theorem s_X11_isReader (a0 : Int32) (M : zzMd) : fX11_isReader [.int a0] M = zz_ev tX11_isReader 0 [some (.int a0)] [] M := rfl
set_option maxRecDepth 100000 in
theorem e_X11_watch : (∀ L st M, zz_ev tX11_watch 0 L st M = zo_iload 1 1 (zz_ev tX11_watch) L st M) ∧
  (∀ (L : zzLc) (a0 : Int32) (r : List Value) (M : zzMd), zz_ev tX11_watch 1 L (.int a0 :: r) M = bif zz_cat8 r then zz_backN (zz_ev tX11_watch) 4 L r (fX11_isReader [.int a0] M) else none) ∧
  (∀ L st M, zz_ev tX11_watch 4 L st M = zo_if (fun x => decide (x = 0)) 22 7 (zz_ev tX11_watch) L st M) ∧
  (∀ L st M, zz_ev tX11_watch 7 L st M = zo_iload 2 8 (zz_ev tX11_watch) L st M) ∧
  (∀ L st M, zz_ev tX11_watch 8 L st M = zo_if (fun x => decide (x < 0)) 22 11 (zz_ev tX11_watch) L st M) ∧
  (∀ L st M, zz_ev tX11_watch 11 L st M = zo_iload 2 12 (zz_ev tX11_watch) L st M) ∧
  (∀ L st M, zz_ev tX11_watch 12 L st M = zo_aload 0 13 (zz_ev tX11_watch) L st M) ∧
  (∀ (L : zzLc) (r : List Value) (M : zzMd), zz_ev tX11_watch 13 L (.ref 0 :: r) M = zz_ev tX11_watch 16 L (.ref 1 :: r) M) ∧
  (∀ (L : zzLc) (r : List Value) (M : zzMd), zz_ev tX11_watch 16 L (.ref 1 :: r) M = zz_ev tX11_watch 19 L (.int (M.1 1 3) :: r) M) ∧
  (∀ L st M, zz_ev tX11_watch 19 L st M = zo_icmp (fun x y => decide (x ≤ y)) 32 22 (zz_ev tX11_watch) L st M) ∧
  (∀ L st M, zz_ev tX11_watch 22 L st M = zo_throw 0 (zz_ev tX11_watch) L st M) ∧
  (∀ L st M, zz_ev tX11_watch 32 L st M = zo_iload 2 33 (zz_ev tX11_watch) L st M) ∧
  (∀ L st M, zz_ev tX11_watch 33 L st M = zo_aload 0 34 (zz_ev tX11_watch) L st M) ∧
  (∀ (L : zzLc) (r : List Value) (M : zzMd), zz_ev tX11_watch 34 L (.ref 0 :: r) M = zz_ev tX11_watch 37 L (.ref 1 :: r) M) ∧
  (∀ (L : zzLc) (r : List Value) (M : zzMd), zz_ev tX11_watch 37 L (.ref 1 :: r) M = zz_ev tX11_watch 40 L (.int (M.1 1 8) :: r) M) ∧
  (∀ L st M, zz_ev tX11_watch 40 L st M = zo_icmp (fun x y => decide (y ≤ x)) 53 43 (zz_ev tX11_watch) L st M) ∧
  (∀ L st M, zz_ev tX11_watch 43 L st M = zo_throw 1 (zz_ev tX11_watch) L st M) ∧
  (∀ L st M, zz_ev tX11_watch 53 L st M = zo_aload 0 54 (zz_ev tX11_watch) L st M) ∧
  (∀ (L : zzLc) (r : List Value) (M : zzMd), zz_ev tX11_watch 54 L (.ref 0 :: r) M = zz_ev tX11_watch 57 L (.ref 12 :: r) M) ∧
  (∀ L st M, zz_ev tX11_watch 57 L st M = zo_iload 1 58 (zz_ev tX11_watch) L st M) ∧
  (∀ L st M, zz_ev tX11_watch 58 L st M = zo_iload 2 59 (zz_ev tX11_watch) L st M) ∧
  (∀ L st M, zz_ev tX11_watch 59 L st M = zo_iast zzSC 60 (zz_ev tX11_watch) L st M) ∧
  (∀ L st M, zz_ev tX11_watch 60 L st M = zo_aload 0 61 (zz_ev tX11_watch) L st M) ∧
  (∀ (L : zzLc) (r : List Value) (M : zzMd), zz_ev tX11_watch 61 L (.ref 0 :: r) M = zz_ev tX11_watch 64 L (.ref 1 :: r) M) ∧
  (∀ (L : zzLc) (r : List Value) (M : zzMd), zz_ev tX11_watch 64 L (.ref 1 :: r) M = zz_ev tX11_watch 67 L (.int (M.1 1 3) :: r) M) ∧
  (∀ L st M, zz_ev tX11_watch 67 L st M = zo_iload 2 68 (zz_ev tX11_watch) L st M) ∧
  (∀ L st M, zz_ev tX11_watch 68 L st M = zo_ii (fun x y => x - y) 69 (zz_ev tX11_watch) L st M) ∧
  (∀ L st M, zz_ev tX11_watch 69 L st M = zo_iret false (zz_ev tX11_watch) L st M) :=
  ⟨zz_1 rfl tl_X11_watch, fun L a0 r M => (zz_1 rfl tl_X11_watch _ _ _).trans rfl, zz_1 rfl tl_X11_watch, zz_1 rfl tl_X11_watch, zz_1 rfl tl_X11_watch, zz_1 rfl tl_X11_watch, zz_1 rfl tl_X11_watch, fun L r M => (zz_1 rfl tl_X11_watch _ _ _).trans rfl, fun L r M => (zz_1 rfl tl_X11_watch _ _ _).trans rfl, zz_1 rfl tl_X11_watch, zz_1 rfl tl_X11_watch, zz_1 rfl tl_X11_watch, zz_1 rfl tl_X11_watch, fun L r M => (zz_1 rfl tl_X11_watch _ _ _).trans rfl, fun L r M => (zz_1 rfl tl_X11_watch _ _ _).trans rfl, zz_1 rfl tl_X11_watch, zz_1 rfl tl_X11_watch, zz_1 rfl tl_X11_watch, fun L r M => (zz_1 rfl tl_X11_watch _ _ _).trans rfl, zz_1 rfl tl_X11_watch, zz_1 rfl tl_X11_watch, zz_1 rfl tl_X11_watch, zz_1 rfl tl_X11_watch, fun L r M => (zz_1 rfl tl_X11_watch _ _ _).trans rfl, fun L r M => (zz_1 rfl tl_X11_watch _ _ _).trans rfl, zz_1 rfl tl_X11_watch, zz_1 rfl tl_X11_watch, zz_1 rfl tl_X11_watch⟩
set_option maxRecDepth 100000 in
theorem s_X11_watch (a0 a1 : Int32) (v : Nat) (M : zzMd) : fX11_watch [.ref v, .int a0, .int a1] M = zz_ev tX11_watch 0 [some (.ref v), some (.int a0), some (.int a1)] [] M := rfl
set_option maxRecDepth 100000 in
theorem e_X11_next : (∀ L st M, zz_ev tX11_next 0 L st M = zo_iload 1 1 (zz_ev tX11_next) L st M) ∧
  (∀ (L : zzLc) (a0 : Int32) (r : List Value) (M : zzMd), zz_ev tX11_next 1 L (.int a0 :: r) M = bif zz_cat8 r then zz_backN (zz_ev tX11_next) 4 L r (fX11_isReader [.int a0] M) else none) ∧
  (∀ L st M, zz_ev tX11_next 4 L st M = zo_if (fun x => decide (¬ x = 0)) 17 7 (zz_ev tX11_next) L st M) ∧
  (∀ L st M, zz_ev tX11_next 7 L st M = zo_throw 0 (zz_ev tX11_next) L st M) ∧
  (∀ L st M, zz_ev tX11_next 17 L st M = zo_aload 0 18 (zz_ev tX11_next) L st M) ∧
  (∀ (L : zzLc) (r : List Value) (M : zzMd), zz_ev tX11_next 18 L (.ref 0 :: r) M = zz_ev tX11_next 21 L (.ref 12 :: r) M) ∧
  (∀ L st M, zz_ev tX11_next 21 L st M = zo_iload 1 22 (zz_ev tX11_next) L st M) ∧
  (∀ L st M, zz_ev tX11_next 22 L st M = zo_iald zzSC zzSTC 23 (zz_ev tX11_next) L st M) ∧
  (∀ L st M, zz_ev tX11_next 23 L st M = zo_aload 0 24 (zz_ev tX11_next) L st M) ∧
  (∀ (L : zzLc) (r : List Value) (M : zzMd), zz_ev tX11_next 24 L (.ref 0 :: r) M = zz_ev tX11_next 27 L (.ref 1 :: r) M) ∧
  (∀ (L : zzLc) (r : List Value) (M : zzMd), zz_ev tX11_next 27 L (.ref 1 :: r) M = zz_ev tX11_next 30 L (.int (M.1 1 3) :: r) M) ∧
  (∀ L st M, zz_ev tX11_next 30 L st M = zo_icmp (fun x y => decide (x < y)) 35 33 (zz_ev tX11_next) L st M) ∧
  (∀ L st M, zz_ev tX11_next 33 L st M = zo_pushI (-1) 34 (zz_ev tX11_next) L st M) ∧
  (∀ L st M, zz_ev tX11_next 34 L st M = zo_iret false (zz_ev tX11_next) L st M) ∧
  (∀ L st M, zz_ev tX11_next 35 L st M = zo_aload 0 36 (zz_ev tX11_next) L st M) ∧
  (∀ (L : zzLc) (r : List Value) (M : zzMd), zz_ev tX11_next 36 L (.ref 0 :: r) M = zz_ev tX11_next 39 L (.ref 12 :: r) M) ∧
  (∀ L st M, zz_ev tX11_next 39 L st M = zo_iload 1 40 (zz_ev tX11_next) L st M) ∧
  (∀ L st M, zz_ev tX11_next 40 L st M = zo_iald zzSC zzSTC 41 (zz_ev tX11_next) L st M) ∧
  (∀ L st M, zz_ev tX11_next 41 L st M = zo_aload 0 42 (zz_ev tX11_next) L st M) ∧
  (∀ (L : zzLc) (r : List Value) (M : zzMd), zz_ev tX11_next 42 L (.ref 0 :: r) M = zz_ev tX11_next 45 L (.ref 1 :: r) M) ∧
  (∀ (L : zzLc) (r : List Value) (M : zzMd), zz_ev tX11_next 45 L (.ref 1 :: r) M = zz_ev tX11_next 48 L (.int (M.1 1 8) :: r) M) ∧
  (∀ L st M, zz_ev tX11_next 48 L st M = zo_icmp (fun x y => decide (y ≤ x)) 61 51 (zz_ev tX11_next) L st M) ∧
  (∀ L st M, zz_ev tX11_next 51 L st M = zo_throw 1 (zz_ev tX11_next) L st M) ∧
  (∀ L st M, zz_ev tX11_next 61 L st M = zo_aload 0 62 (zz_ev tX11_next) L st M) ∧
  (∀ (L : zzLc) (r : List Value) (M : zzMd), zz_ev tX11_next 62 L (.ref 0 :: r) M = zz_ev tX11_next 65 L (.ref 12 :: r) M) ∧
  (∀ L st M, zz_ev tX11_next 65 L st M = zo_iload 1 66 (zz_ev tX11_next) L st M) ∧
  (∀ L st M, zz_ev tX11_next 66 L st M = zo_dup2 67 (zz_ev tX11_next) L st M) ∧
  (∀ L st M, zz_ev tX11_next 67 L st M = zo_iald zzSC zzSTC 68 (zz_ev tX11_next) L st M) ∧
  (∀ L st M, zz_ev tX11_next 68 L st M = zo_pushI 1 69 (zz_ev tX11_next) L st M) ∧
  (∀ L st M, zz_ev tX11_next 69 L st M = zo_ii (fun x y => x + y) 70 (zz_ev tX11_next) L st M) ∧
  (∀ L st M, zz_ev tX11_next 70 L st M = zo_iast zzSC 71 (zz_ev tX11_next) L st M) ∧
  (∀ L st M, zz_ev tX11_next 71 L st M = zo_aload 0 72 (zz_ev tX11_next) L st M) ∧
  (∀ (L : zzLc) (r : List Value) (M : zzMd), zz_ev tX11_next 72 L (.ref 0 :: r) M = zz_ev tX11_next 75 L (.ref 1 :: r) M) ∧
  (∀ L st M, zz_ev tX11_next 75 L st M = zo_aload 0 76 (zz_ev tX11_next) L st M) ∧
  (∀ (L : zzLc) (r : List Value) (M : zzMd), zz_ev tX11_next 76 L (.ref 0 :: r) M = zz_ev tX11_next 79 L (.ref 12 :: r) M) ∧
  (∀ L st M, zz_ev tX11_next 79 L st M = zo_iload 1 80 (zz_ev tX11_next) L st M) ∧
  (∀ L st M, zz_ev tX11_next 80 L st M = zo_iald zzSC zzSTC 81 (zz_ev tX11_next) L st M) ∧
  (∀ (L : zzLc) (a0 : Int32) (r : List Value) (M : zzMd), zz_ev tX11_next 81 L (.int a0 :: .ref 1 :: r) M = bif zz_cat8 r then zz_backN (zz_ev tX11_next) 84 L r (fX10_objectAt [.ref 1, .int a0] M) else none) ∧
  (∀ L st M, zz_ev tX11_next 84 L st M = zo_iret false (zz_ev tX11_next) L st M) :=
  ⟨zz_1 rfl tl_X11_next, fun L a0 r M => (zz_1 rfl tl_X11_next _ _ _).trans rfl, zz_1 rfl tl_X11_next, zz_1 rfl tl_X11_next, zz_1 rfl tl_X11_next, fun L r M => (zz_1 rfl tl_X11_next _ _ _).trans rfl, zz_1 rfl tl_X11_next, zz_1 rfl tl_X11_next, zz_1 rfl tl_X11_next, fun L r M => (zz_1 rfl tl_X11_next _ _ _).trans rfl, fun L r M => (zz_1 rfl tl_X11_next _ _ _).trans rfl, zz_1 rfl tl_X11_next, zz_1 rfl tl_X11_next, zz_1 rfl tl_X11_next, zz_1 rfl tl_X11_next, fun L r M => (zz_1 rfl tl_X11_next _ _ _).trans rfl, zz_1 rfl tl_X11_next, zz_1 rfl tl_X11_next, zz_1 rfl tl_X11_next, fun L r M => (zz_1 rfl tl_X11_next _ _ _).trans rfl, fun L r M => (zz_1 rfl tl_X11_next _ _ _).trans rfl, zz_1 rfl tl_X11_next, zz_1 rfl tl_X11_next, zz_1 rfl tl_X11_next, fun L r M => (zz_1 rfl tl_X11_next _ _ _).trans rfl, zz_1 rfl tl_X11_next, zz_1 rfl tl_X11_next, zz_1 rfl tl_X11_next, zz_1 rfl tl_X11_next, zz_1 rfl tl_X11_next, zz_1 rfl tl_X11_next, zz_1 rfl tl_X11_next, fun L r M => (zz_1 rfl tl_X11_next _ _ _).trans rfl, zz_1 rfl tl_X11_next, fun L r M => (zz_1 rfl tl_X11_next _ _ _).trans rfl, zz_1 rfl tl_X11_next, zz_1 rfl tl_X11_next, fun L a0 r M => (zz_1 rfl tl_X11_next _ _ _).trans rfl, zz_1 rfl tl_X11_next⟩
set_option maxRecDepth 100000 in
theorem s_X11_next (a0 : Int32) (v : Nat) (M : zzMd) : fX11_next [.ref v, .int a0] M = zz_ev tX11_next 0 [some (.ref v), some (.int a0)] [] M := rfl
set_option maxRecDepth 100000 in
theorem e_X11_list : (∀ L st M, zz_ev tX11_list 0 L st M = zo_iload 1 1 (zz_ev tX11_list) L st M) ∧
  (∀ (L : zzLc) (a0 : Int32) (r : List Value) (M : zzMd), zz_ev tX11_list 1 L (.int a0 :: r) M = bif zz_cat8 r then zz_backN (zz_ev tX11_list) 4 L r (fX11_isReader [.int a0] M) else none) ∧
  (∀ L st M, zz_ev tX11_list 4 L st M = zo_if (fun x => decide (¬ x = 0)) 17 7 (zz_ev tX11_list) L st M) ∧
  (∀ L st M, zz_ev tX11_list 7 L st M = zo_throw 0 (zz_ev tX11_list) L st M) ∧
  (∀ L st M, zz_ev tX11_list 17 L st M = zo_aload 0 18 (zz_ev tX11_list) L st M) ∧
  (∀ (L : zzLc) (r : List Value) (M : zzMd), zz_ev tX11_list 18 L (.ref 0 :: r) M = zz_ev tX11_list 21 L (.ref 12 :: r) M) ∧
  (∀ L st M, zz_ev tX11_list 21 L st M = zo_iload 1 22 (zz_ev tX11_list) L st M) ∧
  (∀ L st M, zz_ev tX11_list 22 L st M = zo_aload 0 23 (zz_ev tX11_list) L st M) ∧
  (∀ (L : zzLc) (r : List Value) (M : zzMd), zz_ev tX11_list 23 L (.ref 0 :: r) M = zz_ev tX11_list 26 L (.ref 1 :: r) M) ∧
  (∀ (L : zzLc) (r : List Value) (M : zzMd), zz_ev tX11_list 26 L (.ref 1 :: r) M = zz_ev tX11_list 29 L (.int (M.1 1 3) :: r) M) ∧
  (∀ L st M, zz_ev tX11_list 29 L st M = zo_iast zzSC 30 (zz_ev tX11_list) L st M) ∧
  (∀ L st M, zz_ev tX11_list 30 L st M = zo_pushI 0 31 (zz_ev tX11_list) L st M) ∧
  (∀ L st M, zz_ev tX11_list 31 L st M = zo_istore 2 32 (zz_ev tX11_list) L st M) ∧
  (∀ L st M, zz_ev tX11_list 32 L st M = zo_pushI 0 33 (zz_ev tX11_list) L st M) ∧
  (∀ L st M, zz_ev tX11_list 33 L st M = zo_istore 3 34 (zz_ev tX11_list) L st M) ∧
  (∀ L st M, zz_ev tX11_list 35 L st M = zo_aload 0 36 (zz_ev tX11_list) L st M) ∧
  (∀ (L : zzLc) (r : List Value) (M : zzMd), zz_ev tX11_list 36 L (.ref 0 :: r) M = zz_ev tX11_list 39 L (.ref 1 :: r) M) ∧
  (∀ (L : zzLc) (r : List Value) (M : zzMd), zz_ev tX11_list 39 L (.ref 1 :: r) M = zz_ev tX11_list 42 L (.int (M.1 1 2) :: r) M) ∧
  (∀ L st M, zz_ev tX11_list 42 L st M = zo_icmp (fun x y => decide (y ≤ x)) 70 45 (zz_ev tX11_list) L st M) ∧
  (∀ L st M, zz_ev tX11_list 45 L st M = zo_iload 2 46 (zz_ev tX11_list) L st M) ∧
  (∀ L st M, zz_ev tX11_list 46 L st M = zo_aload 0 47 (zz_ev tX11_list) L st M) ∧
  (∀ (L : zzLc) (r : List Value) (M : zzMd), zz_ev tX11_list 47 L (.ref 0 :: r) M = zz_ev tX11_list 50 L (.ref 1 :: r) M) ∧
  (∀ L st M, zz_ev tX11_list 50 L st M = zo_iload 3 51 (zz_ev tX11_list) L st M) ∧
  (∀ (L : zzLc) (a0 : Int32) (r : List Value) (M : zzMd), zz_ev tX11_list 51 L (.int a0 :: .ref 1 :: r) M = bif zz_cat8 r then zz_backN (zz_ev tX11_list) 54 L r (fX10_isGone [.ref 1, .int a0] M) else none) ∧
  (∀ L st M, zz_ev tX11_list 54 L st M = zo_if (fun x => decide (x = 0)) 61 57 (zz_ev tX11_list) L st M) ∧
  (∀ L st M, zz_ev tX11_list 57 L st M = zo_pushI 0 58 (zz_ev tX11_list) L st M) ∧
  (∀ L st M, zz_ev tX11_list 58 L st M = zo_goto 62 (zz_ev tX11_list) L st M) ∧
  (∀ L st M, zz_ev tX11_list 61 L st M = zo_pushI 1 62 (zz_ev tX11_list) L st M) ∧
  (∀ L st M, zz_ev tX11_list 62 L st M = zo_ii (fun x y => x + y) 63 (zz_ev tX11_list) L st M) ∧
  (∀ L st M, zz_ev tX11_list 63 L st M = zo_istore 2 64 (zz_ev tX11_list) L st M) ∧
  (∀ L st M, zz_ev tX11_list 64 L st M = zo_iinc 3 1 67 (zz_ev tX11_list) L st M) ∧
  (∀ L st M, zz_ev tX11_list 67 L st M = zo_goto 34 (zz_ev tX11_list) L st M) ∧
  (∀ L st M, zz_ev tX11_list 70 L st M = zo_iload 2 71 (zz_ev tX11_list) L st M) ∧
  (∀ L st M, zz_ev tX11_list 71 L st M = zo_iret false (zz_ev tX11_list) L st M) :=
  ⟨zz_1 rfl tl_X11_list, fun L a0 r M => (zz_1 rfl tl_X11_list _ _ _).trans rfl, zz_1 rfl tl_X11_list, zz_1 rfl tl_X11_list, zz_1 rfl tl_X11_list, fun L r M => (zz_1 rfl tl_X11_list _ _ _).trans rfl, zz_1 rfl tl_X11_list, zz_1 rfl tl_X11_list, fun L r M => (zz_1 rfl tl_X11_list _ _ _).trans rfl, fun L r M => (zz_1 rfl tl_X11_list _ _ _).trans rfl, zz_1 rfl tl_X11_list, zz_1 rfl tl_X11_list, zz_1 rfl tl_X11_list, zz_1 rfl tl_X11_list, zz_1 rfl tl_X11_list, zz_1 rfl tl_X11_list, fun L r M => (zz_1 rfl tl_X11_list _ _ _).trans rfl, fun L r M => (zz_1 rfl tl_X11_list _ _ _).trans rfl, zz_1 rfl tl_X11_list, zz_1 rfl tl_X11_list, zz_1 rfl tl_X11_list, fun L r M => (zz_1 rfl tl_X11_list _ _ _).trans rfl, zz_1 rfl tl_X11_list, fun L a0 r M => (zz_1 rfl tl_X11_list _ _ _).trans rfl, zz_1 rfl tl_X11_list, zz_1 rfl tl_X11_list, zz_1 rfl tl_X11_list, zz_1 rfl tl_X11_list, zz_1 rfl tl_X11_list, zz_1 rfl tl_X11_list, zz_1 rfl tl_X11_list, zz_1 rfl tl_X11_list, zz_1 rfl tl_X11_list, zz_1 rfl tl_X11_list⟩
set_option maxRecDepth 100000 in
theorem e_X11_list_34 : (∀ L st M, zz_ev tX11_list 34 L st M = zo_iload 3 35 (zz_ev tX11_list) L st M) := zz_1 rfl tl_X11_list
set_option maxRecDepth 100000 in
theorem s_X11_list (a0 : Int32) (v : Nat) (M : zzMd) : fX11_list [.ref v, .int a0] M = zz_ev tX11_list 0 [some (.ref v), some (.int a0), none, none] [] M := rfl
set_option maxRecDepth 100000 in
theorem e_X11_compact : (∀ L st M, zz_ev tX11_compact 0 L st M = zo_iload 1 1 (zz_ev tX11_compact) L st M) ∧
  (∀ L st M, zz_ev tX11_compact 1 L st M = zo_if (fun x => decide (x < 0)) 15 4 (zz_ev tX11_compact) L st M) ∧
  (∀ L st M, zz_ev tX11_compact 4 L st M = zo_iload 1 5 (zz_ev tX11_compact) L st M) ∧
  (∀ L st M, zz_ev tX11_compact 5 L st M = zo_aload 0 6 (zz_ev tX11_compact) L st M) ∧
  (∀ (L : zzLc) (r : List Value) (M : zzMd), zz_ev tX11_compact 6 L (.ref 0 :: r) M = zz_ev tX11_compact 9 L (.ref 1 :: r) M) ∧
  (∀ (L : zzLc) (r : List Value) (M : zzMd), zz_ev tX11_compact 9 L (.ref 1 :: r) M = zz_ev tX11_compact 12 L (.int (M.1 1 3) :: r) M) ∧
  (∀ L st M, zz_ev tX11_compact 12 L st M = zo_icmp (fun x y => decide (x ≤ y)) 25 15 (zz_ev tX11_compact) L st M) ∧
  (∀ L st M, zz_ev tX11_compact 15 L st M = zo_throw 0 (zz_ev tX11_compact) L st M) ∧
  (∀ L st M, zz_ev tX11_compact 25 L st M = zo_aload 0 26 (zz_ev tX11_compact) L st M) ∧
  (∀ (L : zzLc) (r : List Value) (M : zzMd), zz_ev tX11_compact 26 L (.ref 0 :: r) M = zz_ev tX11_compact 29 L (.ref 1 :: r) M) ∧
  (∀ L st M, zz_ev tX11_compact 29 L st M = zo_aload 0 30 (zz_ev tX11_compact) L st M) ∧
  (∀ (L : zzLc) (r : List Value) (M : zzMd), zz_ev tX11_compact 30 L (.ref 0 :: r) M = zz_ev tX11_compact 33 L (.ref 1 :: r) M) ∧
  (∀ (L : zzLc) (r : List Value) (M : zzMd), zz_ev tX11_compact 33 L (.ref 1 :: r) M = zz_ev tX11_compact 36 L (.int (M.1 1 8) :: r) M) ∧
  (∀ L st M, zz_ev tX11_compact 36 L st M = zo_iload 1 37 (zz_ev tX11_compact) L st M) ∧
  (∀ L st M, zz_ev tX11_compact 37 L st M = zo_mm (fun x y => if x < y then y else x) 40 (zz_ev tX11_compact) L st M) ∧
  (∀ (L : zzLc) (x : Int32) (r : List Value) (M : zzMd), zz_ev tX11_compact 40 L (.int x :: .ref 1 :: r) M = zz_ev tX11_compact 43 L r (zz_sI M 1 8 x)) ∧
  (∀ L st M, zz_ev tX11_compact 43 L st M = zo_aload 0 44 (zz_ev tX11_compact) L st M) ∧
  (∀ (L : zzLc) (r : List Value) (M : zzMd), zz_ev tX11_compact 44 L (.ref 0 :: r) M = zz_ev tX11_compact 47 L (.ref 1 :: r) M) ∧
  (∀ (L : zzLc) (r : List Value) (M : zzMd), zz_ev tX11_compact 47 L (.ref 1 :: r) M = zz_ev tX11_compact 50 L (.int (M.1 1 8) :: r) M) ∧
  (∀ L st M, zz_ev tX11_compact 50 L st M = zo_iret false (zz_ev tX11_compact) L st M) :=
  ⟨zz_1 rfl tl_X11_compact, zz_1 rfl tl_X11_compact, zz_1 rfl tl_X11_compact, zz_1 rfl tl_X11_compact, fun L r M => (zz_1 rfl tl_X11_compact _ _ _).trans rfl, fun L r M => (zz_1 rfl tl_X11_compact _ _ _).trans rfl, zz_1 rfl tl_X11_compact, zz_1 rfl tl_X11_compact, zz_1 rfl tl_X11_compact, fun L r M => (zz_1 rfl tl_X11_compact _ _ _).trans rfl, zz_1 rfl tl_X11_compact, fun L r M => (zz_1 rfl tl_X11_compact _ _ _).trans rfl, fun L r M => (zz_1 rfl tl_X11_compact _ _ _).trans rfl, zz_1 rfl tl_X11_compact, zz_1 rfl tl_X11_compact, fun L x r M => (zz_1 rfl tl_X11_compact _ _ _).trans rfl, zz_1 rfl tl_X11_compact, fun L r M => (zz_1 rfl tl_X11_compact _ _ _).trans rfl, fun L r M => (zz_1 rfl tl_X11_compact _ _ _).trans rfl, zz_1 rfl tl_X11_compact⟩
set_option maxRecDepth 100000 in
theorem s_X11_compact (a0 : Int32) (v : Nat) (M : zzMd) : fX11_compact [.ref v, .int a0] M = zz_ev tX11_compact 0 [some (.ref v), some (.int a0)] [] M := rfl
set_option maxRecDepth 100000 in
theorem e_X11_tick : (∀ L st M, zz_ev tX11_tick 0 L st M = zo_iload 1 1 (zz_ev tX11_tick) L st M) ∧
  (∀ L st M, zz_ev tX11_tick 1 L st M = zo_pushI 1 2 (zz_ev tX11_tick) L st M) ∧
  (∀ L st M, zz_ev tX11_tick 2 L st M = zo_icmp (fun x y => decide (x < y)) 11 5 (zz_ev tX11_tick) L st M) ∧
  (∀ L st M, zz_ev tX11_tick 5 L st M = zo_iload 1 6 (zz_ev tX11_tick) L st M) ∧
  (∀ L st M, zz_ev tX11_tick 6 L st M = zo_pushI 100 8 (zz_ev tX11_tick) L st M) ∧
  (∀ L st M, zz_ev tX11_tick 8 L st M = zo_icmp (fun x y => decide (x ≤ y)) 21 11 (zz_ev tX11_tick) L st M) ∧
  (∀ L st M, zz_ev tX11_tick 11 L st M = zo_throw 0 (zz_ev tX11_tick) L st M) ∧
  (∀ L st M, zz_ev tX11_tick 21 L st M = zo_aload 0 22 (zz_ev tX11_tick) L st M) ∧
  (∀ (L : zzLc) (r : List Value) (M : zzMd), zz_ev tX11_tick 22 L (.ref 0 :: r) M = zz_ev tX11_tick 25 L (.ref 1 :: r) M) ∧
  (∀ (L : zzLc) (r : List Value) (M : zzMd), zz_ev tX11_tick 25 L (.ref 1 :: r) M = zz_ev tX11_tick 28 L (.int (M.1 1 7) :: r) M) ∧
  (∀ L st M, zz_ev tX11_tick 28 L st M = zo_pushI 10000 31 (zz_ev tX11_tick) L st M) ∧
  (∀ L st M, zz_ev tX11_tick 31 L st M = zo_iload 1 32 (zz_ev tX11_tick) L st M) ∧
  (∀ L st M, zz_ev tX11_tick 32 L st M = zo_ii (fun x y => x - y) 33 (zz_ev tX11_tick) L st M) ∧
  (∀ L st M, zz_ev tX11_tick 33 L st M = zo_icmp (fun x y => decide (x ≤ y)) 47 36 (zz_ev tX11_tick) L st M) ∧
  (∀ L st M, zz_ev tX11_tick 36 L st M = zo_throw 1 (zz_ev tX11_tick) L st M) ∧
  (∀ L st M, zz_ev tX11_tick 47 L st M = zo_pushI 0 48 (zz_ev tX11_tick) L st M) ∧
  (∀ L st M, zz_ev tX11_tick 48 L st M = zo_istore 2 49 (zz_ev tX11_tick) L st M) ∧
  (∀ L st M, zz_ev tX11_tick 50 L st M = zo_iload 1 51 (zz_ev tX11_tick) L st M) ∧
  (∀ L st M, zz_ev tX11_tick 51 L st M = zo_icmp (fun x y => decide (y ≤ x)) 67 54 (zz_ev tX11_tick) L st M) ∧
  (∀ L st M, zz_ev tX11_tick 54 L st M = zo_aload 0 55 (zz_ev tX11_tick) L st M) ∧
  (∀ (L : zzLc) (r : List Value) (M : zzMd), zz_ev tX11_tick 55 L (.ref 0 :: r) M = zz_ev tX11_tick 58 L (.ref 1 :: r) M) ∧
  (∀ (L : zzLc) (r : List Value) (M : zzMd), zz_ev tX11_tick 58 L (.ref 1 :: r) M = bif zz_cat8 r then zz_backN (zz_ev tX11_tick) 61 L r (fX9_beginTick [.ref 1] M) else none) ∧
  (∀ L st M, zz_ev tX11_tick 61 L st M = zo_iinc 2 1 64 (zz_ev tX11_tick) L st M) ∧
  (∀ L st M, zz_ev tX11_tick 64 L st M = zo_goto 49 (zz_ev tX11_tick) L st M) ∧
  (∀ L st M, zz_ev tX11_tick 67 L st M = zo_aload 0 68 (zz_ev tX11_tick) L st M) ∧
  (∀ (L : zzLc) (r : List Value) (M : zzMd), zz_ev tX11_tick 68 L (.ref 0 :: r) M = zz_ev tX11_tick 71 L (.ref 1 :: r) M) ∧
  (∀ (L : zzLc) (r : List Value) (M : zzMd), zz_ev tX11_tick 71 L (.ref 1 :: r) M = zz_ev tX11_tick 74 L (.int (M.1 1 7) :: r) M) ∧
  (∀ L st M, zz_ev tX11_tick 74 L st M = zo_iret false (zz_ev tX11_tick) L st M) :=
  ⟨zz_1 rfl tl_X11_tick, zz_1 rfl tl_X11_tick, zz_1 rfl tl_X11_tick, zz_1 rfl tl_X11_tick, zz_1 rfl tl_X11_tick, zz_1 rfl tl_X11_tick, zz_1 rfl tl_X11_tick, zz_1 rfl tl_X11_tick, fun L r M => (zz_1 rfl tl_X11_tick _ _ _).trans rfl, fun L r M => (zz_1 rfl tl_X11_tick _ _ _).trans rfl, zz_1 rfl tl_X11_tick, zz_1 rfl tl_X11_tick, zz_1 rfl tl_X11_tick, zz_1 rfl tl_X11_tick, zz_1 rfl tl_X11_tick, zz_1 rfl tl_X11_tick, zz_1 rfl tl_X11_tick, zz_1 rfl tl_X11_tick, zz_1 rfl tl_X11_tick, zz_1 rfl tl_X11_tick, fun L r M => (zz_1 rfl tl_X11_tick _ _ _).trans rfl, fun L  r M => (zz_1 rfl tl_X11_tick _ _ _).trans rfl, zz_1 rfl tl_X11_tick, zz_1 rfl tl_X11_tick, zz_1 rfl tl_X11_tick, fun L r M => (zz_1 rfl tl_X11_tick _ _ _).trans rfl, fun L r M => (zz_1 rfl tl_X11_tick _ _ _).trans rfl, zz_1 rfl tl_X11_tick⟩
set_option maxRecDepth 100000 in
theorem e_X11_tick_49 : (∀ L st M, zz_ev tX11_tick 49 L st M = zo_iload 2 50 (zz_ev tX11_tick) L st M) := zz_1 rfl tl_X11_tick
set_option maxRecDepth 100000 in
theorem s_X11_tick (a0 : Int32) (v : Nat) (M : zzMd) : fX11_tick [.ref v, .int a0] M = zz_ev tX11_tick 0 [some (.ref v), some (.int a0), none] [] M := rfl
set_option maxRecDepth 100000 in
theorem e_X11_beat : (∀ L st M, zz_ev tX11_beat 0 L st M = zo_aload 0 1 (zz_ev tX11_beat) L st M) ∧
  (∀ L st M, zz_ev tX11_beat 1 L st M = zo_iload 1 2 (zz_ev tX11_beat) L st M) ∧
  (∀ (L : zzLc) (a0 : Int32) (r : List Value) (M : zzMd), zz_ev tX11_beat 2 L (.int a0 :: .ref 0 :: r) M = bif zz_cat8 r then zz_back (zz_ev tX11_beat) 5 L r (fX11_requireObject [.ref 0, .int a0] M) else none) ∧
  (∀ L st M, zz_ev tX11_beat 5 L st M = zo_aload 0 6 (zz_ev tX11_beat) L st M) ∧
  (∀ L st M, zz_ev tX11_beat 6 L st M = zo_iload 1 7 (zz_ev tX11_beat) L st M) ∧
  (∀ L st M, zz_ev tX11_beat 7 L st M = zo_pushI 4 8 (zz_ev tX11_beat) L st M) ∧
  (∀ (L : zzLc) (a0 a1 : Int32) (r : List Value) (M : zzMd), zz_ev tX11_beat 8 L (.int a1 :: .int a0 :: .ref 0 :: r) M = bif zz_cat8 r then zz_back (zz_ev tX11_beat) 11 L r (fX11_requireKind [.ref 0, .int a0, .int a1] M) else none) ∧
  (∀ L st M, zz_ev tX11_beat 11 L st M = zo_aload 0 12 (zz_ev tX11_beat) L st M) ∧
  (∀ (L : zzLc) (r : List Value) (M : zzMd), zz_ev tX11_beat 12 L (.ref 0 :: r) M = zz_ev tX11_beat 15 L (.ref 1 :: r) M) ∧
  (∀ L st M, zz_ev tX11_beat 15 L st M = zo_iload 1 16 (zz_ev tX11_beat) L st M) ∧
  (∀ L st M, zz_ev tX11_beat 16 L st M = zo_pushI 27 18 (zz_ev tX11_beat) L st M) ∧
  (∀ (L : zzLc) (a0 a1 : Int32) (r : List Value) (M : zzMd), zz_ev tX11_beat 18 L (.int a1 :: .int a0 :: .ref 1 :: r) M = bif zz_cat8 r then zz_backN (zz_ev tX11_beat) 21 L r (fX10_read [.ref 1, .int a0, .int a1] M) else none) ∧
  (∀ L st M, zz_ev tX11_beat 21 L st M = zo_pushI 1 22 (zz_ev tX11_beat) L st M) ∧
  (∀ L st M, zz_ev tX11_beat 22 L st M = zo_icmp (fun x y => decide (¬ x = y)) 29 25 (zz_ev tX11_beat) L st M) ∧
  (∀ L st M, zz_ev tX11_beat 25 L st M = zo_pushI 1 26 (zz_ev tX11_beat) L st M) ∧
  (∀ L st M, zz_ev tX11_beat 26 L st M = zo_goto 30 (zz_ev tX11_beat) L st M) ∧
  (∀ L st M, zz_ev tX11_beat 29 L st M = zo_pushI 0 30 (zz_ev tX11_beat) L st M) ∧
  (∀ L st M, zz_ev tX11_beat 30 L st M = zo_istore 2 31 (zz_ev tX11_beat) L st M) ∧
  (∀ L st M, zz_ev tX11_beat 31 L st M = zo_aload 0 32 (zz_ev tX11_beat) L st M) ∧
  (∀ (L : zzLc) (r : List Value) (M : zzMd), zz_ev tX11_beat 32 L (.ref 0 :: r) M = zz_ev tX11_beat 35 L (.ref 1 :: r) M) ∧
  (∀ L st M, zz_ev tX11_beat 35 L st M = zo_iload 1 36 (zz_ev tX11_beat) L st M) ∧
  (∀ (L : zzLc) (a0 : Int32) (r : List Value) (M : zzMd), zz_ev tX11_beat 36 L (.int a0 :: .ref 1 :: r) M = bif zz_cat8 r then zz_backN (zz_ev tX11_beat) 39 L r (fX10_isGone [.ref 1, .int a0] M) else none) ∧
  (∀ L st M, zz_ev tX11_beat 39 L st M = zo_if (fun x => decide (¬ x = 0)) 56 42 (zz_ev tX11_beat) L st M) ∧
  (∀ L st M, zz_ev tX11_beat 42 L st M = zo_aload 0 43 (zz_ev tX11_beat) L st M) ∧
  (∀ (L : zzLc) (r : List Value) (M : zzMd), zz_ev tX11_beat 43 L (.ref 0 :: r) M = zz_ev tX11_beat 46 L (.ref 1 :: r) M) ∧
  (∀ L st M, zz_ev tX11_beat 46 L st M = zo_iload 1 47 (zz_ev tX11_beat) L st M) ∧
  (∀ L st M, zz_ev tX11_beat 47 L st M = zo_pushI 27 49 (zz_ev tX11_beat) L st M) ∧
  (∀ L st M, zz_ev tX11_beat 49 L st M = zo_pushI 1 50 (zz_ev tX11_beat) L st M) ∧
  (∀ (L : zzLc) (a0 a1 a2 : Int32) (r : List Value) (M : zzMd), zz_ev tX11_beat 50 L (.int a2 :: .int a1 :: .int a0 :: .ref 1 :: r) M = bif zz_cat8 r then zz_backN (zz_ev tX11_beat) 53 L r (fX9_change [.ref 1, .int a0, .int a1, .int a2] M) else none) ∧
  (∀ L st M, zz_ev tX11_beat 53 L st M = zo_if (fun x => decide (¬ x = 0)) 67 56 (zz_ev tX11_beat) L st M) ∧
  (∀ L st M, zz_ev tX11_beat 56 L st M = zo_throw 1 (zz_ev tX11_beat) L st M) ∧
  (∀ L st M, zz_ev tX11_beat 67 L st M = zo_aload 0 68 (zz_ev tX11_beat) L st M) ∧
  (∀ (L : zzLc) (r : List Value) (M : zzMd), zz_ev tX11_beat 68 L (.ref 0 :: r) M = zz_ev tX11_beat 71 L (.ref 1 :: r) M) ∧
  (∀ (L : zzLc) (r : List Value) (M : zzMd), zz_ev tX11_beat 71 L (.ref 1 :: r) M = zz_ev tX11_beat 74 L (.ref 16 :: r) M) ∧
  (∀ L st M, zz_ev tX11_beat 74 L st M = zo_iload 1 75 (zz_ev tX11_beat) L st M) ∧
  (∀ L st M, zz_ev tX11_beat 75 L st M = zo_aload 0 76 (zz_ev tX11_beat) L st M) ∧
  (∀ (L : zzLc) (r : List Value) (M : zzMd), zz_ev tX11_beat 76 L (.ref 0 :: r) M = zz_ev tX11_beat 79 L (.ref 1 :: r) M) ∧
  (∀ (L : zzLc) (r : List Value) (M : zzMd), zz_ev tX11_beat 79 L (.ref 1 :: r) M = zz_ev tX11_beat 82 L (.int (M.1 1 7) :: r) M) ∧
  (∀ L st M, zz_ev tX11_beat 82 L st M = zo_iast zzSC 83 (zz_ev tX11_beat) L st M) ∧
  (∀ L st M, zz_ev tX11_beat 83 L st M = zo_iload 2 84 (zz_ev tX11_beat) L st M) ∧
  (∀ L st M, zz_ev tX11_beat 84 L st M = zo_iret true (zz_ev tX11_beat) L st M) :=
  ⟨zz_1 rfl tl_X11_beat, zz_1 rfl tl_X11_beat, fun L a0 r M => (zz_1 rfl tl_X11_beat _ _ _).trans rfl, zz_1 rfl tl_X11_beat, zz_1 rfl tl_X11_beat, zz_1 rfl tl_X11_beat, fun L a0 a1 r M => (zz_1 rfl tl_X11_beat _ _ _).trans rfl, zz_1 rfl tl_X11_beat, fun L r M => (zz_1 rfl tl_X11_beat _ _ _).trans rfl, zz_1 rfl tl_X11_beat, zz_1 rfl tl_X11_beat, fun L a0 a1 r M => (zz_1 rfl tl_X11_beat _ _ _).trans rfl, zz_1 rfl tl_X11_beat, zz_1 rfl tl_X11_beat, zz_1 rfl tl_X11_beat, zz_1 rfl tl_X11_beat, zz_1 rfl tl_X11_beat, zz_1 rfl tl_X11_beat, zz_1 rfl tl_X11_beat, fun L r M => (zz_1 rfl tl_X11_beat _ _ _).trans rfl, zz_1 rfl tl_X11_beat, fun L a0 r M => (zz_1 rfl tl_X11_beat _ _ _).trans rfl, zz_1 rfl tl_X11_beat, zz_1 rfl tl_X11_beat, fun L r M => (zz_1 rfl tl_X11_beat _ _ _).trans rfl, zz_1 rfl tl_X11_beat, zz_1 rfl tl_X11_beat, zz_1 rfl tl_X11_beat, fun L a0 a1 a2 r M => (zz_1 rfl tl_X11_beat _ _ _).trans rfl, zz_1 rfl tl_X11_beat, zz_1 rfl tl_X11_beat, zz_1 rfl tl_X11_beat, fun L r M => (zz_1 rfl tl_X11_beat _ _ _).trans rfl, fun L r M => (zz_1 rfl tl_X11_beat _ _ _).trans rfl, zz_1 rfl tl_X11_beat, zz_1 rfl tl_X11_beat, fun L r M => (zz_1 rfl tl_X11_beat _ _ _).trans rfl, fun L r M => (zz_1 rfl tl_X11_beat _ _ _).trans rfl, zz_1 rfl tl_X11_beat, zz_1 rfl tl_X11_beat, zz_1 rfl tl_X11_beat⟩
set_option maxRecDepth 100000 in
theorem s_X11_beat (a0 : Int32) (v : Nat) (M : zzMd) : fX11_beat [.ref v, .int a0] M = zz_ev tX11_beat 0 [some (.ref v), some (.int a0), none] [] M := rfl
set_option maxRecDepth 100000 in
theorem e_X11_wish : (∀ L st M, zz_ev tX11_wish 0 L st M = zo_aload 0 1 (zz_ev tX11_wish) L st M) ∧
  (∀ L st M, zz_ev tX11_wish 1 L st M = zo_iload 1 2 (zz_ev tX11_wish) L st M) ∧
  (∀ (L : zzLc) (a0 : Int32) (r : List Value) (M : zzMd), zz_ev tX11_wish 2 L (.int a0 :: .ref 0 :: r) M = bif zz_cat8 r then zz_back (zz_ev tX11_wish) 5 L r (fX11_requireObject [.ref 0, .int a0] M) else none) ∧
  (∀ L st M, zz_ev tX11_wish 5 L st M = zo_aload 0 6 (zz_ev tX11_wish) L st M) ∧
  (∀ L st M, zz_ev tX11_wish 6 L st M = zo_iload 1 7 (zz_ev tX11_wish) L st M) ∧
  (∀ L st M, zz_ev tX11_wish 7 L st M = zo_pushI 0 8 (zz_ev tX11_wish) L st M) ∧
  (∀ (L : zzLc) (a0 a1 : Int32) (r : List Value) (M : zzMd), zz_ev tX11_wish 8 L (.int a1 :: .int a0 :: .ref 0 :: r) M = bif zz_cat8 r then zz_back (zz_ev tX11_wish) 11 L r (fX11_requireKind [.ref 0, .int a0, .int a1] M) else none) ∧
  (∀ L st M, zz_ev tX11_wish 11 L st M = zo_iload 2 12 (zz_ev tX11_wish) L st M) ∧
  (∀ L st M, zz_ev tX11_wish 12 L st M = zo_pushI (-1) 13 (zz_ev tX11_wish) L st M) ∧
  (∀ L st M, zz_ev tX11_wish 13 L st M = zo_icmp (fun x y => decide (x = y)) 35 16 (zz_ev tX11_wish) L st M) ∧
  (∀ L st M, zz_ev tX11_wish 16 L st M = zo_pushI 1 17 (zz_ev tX11_wish) L st M) ∧
  (∀ L st M, zz_ev tX11_wish 17 L st M = zo_iload 2 18 (zz_ev tX11_wish) L st M) ∧
  (∀ (L : zzLc) (a0 a1 : Int32) (r : List Value) (M : zzMd), zz_ev tX11_wish 18 L (.int a1 :: .int a0 :: r) M = bif zz_cat8 r then zz_backN (zz_ev tX11_wish) 21 L r (fX11_isInRange [.int a0, .int a1] M) else none) ∧
  (∀ L st M, zz_ev tX11_wish 21 L st M = zo_if (fun x => decide (¬ x = 0)) 35 24 (zz_ev tX11_wish) L st M) ∧
  (∀ L st M, zz_ev tX11_wish 24 L st M = zo_throw 0 (zz_ev tX11_wish) L st M) ∧
  (∀ L st M, zz_ev tX11_wish 35 L st M = zo_aload 0 36 (zz_ev tX11_wish) L st M) ∧
  (∀ (L : zzLc) (r : List Value) (M : zzMd), zz_ev tX11_wish 36 L (.ref 0 :: r) M = zz_ev tX11_wish 39 L (.ref 13 :: r) M) ∧
  (∀ L st M, zz_ev tX11_wish 39 L st M = zo_iload 1 40 (zz_ev tX11_wish) L st M) ∧
  (∀ L st M, zz_ev tX11_wish 40 L st M = zo_iald zzSC zzSTC 41 (zz_ev tX11_wish) L st M) ∧
  (∀ L st M, zz_ev tX11_wish 41 L st M = zo_istore 3 42 (zz_ev tX11_wish) L st M) ∧
  (∀ L st M, zz_ev tX11_wish 42 L st M = zo_aload 0 43 (zz_ev tX11_wish) L st M) ∧
  (∀ (L : zzLc) (r : List Value) (M : zzMd), zz_ev tX11_wish 43 L (.ref 0 :: r) M = zz_ev tX11_wish 46 L (.ref 13 :: r) M) ∧
  (∀ L st M, zz_ev tX11_wish 46 L st M = zo_iload 1 47 (zz_ev tX11_wish) L st M) ∧
  (∀ L st M, zz_ev tX11_wish 47 L st M = zo_iload 2 48 (zz_ev tX11_wish) L st M) ∧
  (∀ L st M, zz_ev tX11_wish 48 L st M = zo_iast zzSC 49 (zz_ev tX11_wish) L st M) ∧
  (∀ L st M, zz_ev tX11_wish 49 L st M = zo_iload 3 50 (zz_ev tX11_wish) L st M) ∧
  (∀ L st M, zz_ev tX11_wish 50 L st M = zo_iret false (zz_ev tX11_wish) L st M) :=
  ⟨zz_1 rfl tl_X11_wish, zz_1 rfl tl_X11_wish, fun L a0 r M => (zz_1 rfl tl_X11_wish _ _ _).trans rfl, zz_1 rfl tl_X11_wish, zz_1 rfl tl_X11_wish, zz_1 rfl tl_X11_wish, fun L a0 a1 r M => (zz_1 rfl tl_X11_wish _ _ _).trans rfl, zz_1 rfl tl_X11_wish, zz_1 rfl tl_X11_wish, zz_1 rfl tl_X11_wish, zz_1 rfl tl_X11_wish, zz_1 rfl tl_X11_wish, fun L a0 a1 r M => (zz_1 rfl tl_X11_wish _ _ _).trans rfl, zz_1 rfl tl_X11_wish, zz_1 rfl tl_X11_wish, zz_1 rfl tl_X11_wish, fun L r M => (zz_1 rfl tl_X11_wish _ _ _).trans rfl, zz_1 rfl tl_X11_wish, zz_1 rfl tl_X11_wish, zz_1 rfl tl_X11_wish, zz_1 rfl tl_X11_wish, fun L r M => (zz_1 rfl tl_X11_wish _ _ _).trans rfl, zz_1 rfl tl_X11_wish, zz_1 rfl tl_X11_wish, zz_1 rfl tl_X11_wish, zz_1 rfl tl_X11_wish, zz_1 rfl tl_X11_wish⟩
set_option maxRecDepth 100000 in
theorem s_X11_wish (a0 a1 : Int32) (v : Nat) (M : zzMd) : fX11_wish [.ref v, .int a0, .int a1] M = zz_ev tX11_wish 0 [some (.ref v), some (.int a0), some (.int a1), none] [] M := rfl
set_option maxRecDepth 100000 in
theorem e_X11_syncHub : (∀ L st M, zz_ev tX11_syncHub 0 L st M = zo_pushI 0 1 (zz_ev tX11_syncHub) L st M) ∧
  (∀ L st M, zz_ev tX11_syncHub 1 L st M = zo_istore 1 2 (zz_ev tX11_syncHub) L st M) ∧
  (∀ L st M, zz_ev tX11_syncHub 3 L st M = zo_aload 0 4 (zz_ev tX11_syncHub) L st M) ∧
  (∀ (L : zzLc) (r : List Value) (M : zzMd), zz_ev tX11_syncHub 4 L (.ref 0 :: r) M = zz_ev tX11_syncHub 7 L (.ref 1 :: r) M) ∧
  (∀ (L : zzLc) (r : List Value) (M : zzMd), zz_ev tX11_syncHub 7 L (.ref 1 :: r) M = zz_ev tX11_syncHub 10 L (.int (M.1 1 2) :: r) M) ∧
  (∀ L st M, zz_ev tX11_syncHub 10 L st M = zo_icmp (fun x y => decide (y ≤ x)) 64 13 (zz_ev tX11_syncHub) L st M) ∧
  (∀ L st M, zz_ev tX11_syncHub 13 L st M = zo_aload 0 14 (zz_ev tX11_syncHub) L st M) ∧
  (∀ (L : zzLc) (r : List Value) (M : zzMd), zz_ev tX11_syncHub 14 L (.ref 0 :: r) M = zz_ev tX11_syncHub 17 L (.int (M.1 0 4) :: r) M) ∧
  (∀ L st M, zz_ev tX11_syncHub 17 L st M = zo_if (fun x => decide (¬ x = 0)) 64 20 (zz_ev tX11_syncHub) L st M) ∧
  (∀ L st M, zz_ev tX11_syncHub 20 L st M = zo_aload 0 21 (zz_ev tX11_syncHub) L st M) ∧
  (∀ (L : zzLc) (r : List Value) (M : zzMd), zz_ev tX11_syncHub 21 L (.ref 0 :: r) M = zz_ev tX11_syncHub 24 L (.ref 13 :: r) M) ∧
  (∀ L st M, zz_ev tX11_syncHub 24 L st M = zo_iload 1 25 (zz_ev tX11_syncHub) L st M) ∧
  (∀ L st M, zz_ev tX11_syncHub 25 L st M = zo_iald zzSC zzSTC 26 (zz_ev tX11_syncHub) L st M) ∧
  (∀ L st M, zz_ev tX11_syncHub 26 L st M = zo_pushI (-1) 27 (zz_ev tX11_syncHub) L st M) ∧
  (∀ L st M, zz_ev tX11_syncHub 27 L st M = zo_icmp (fun x y => decide (x = y)) 58 30 (zz_ev tX11_syncHub) L st M) ∧
  (∀ L st M, zz_ev tX11_syncHub 30 L st M = zo_aload 0 31 (zz_ev tX11_syncHub) L st M) ∧
  (∀ (L : zzLc) (r : List Value) (M : zzMd), zz_ev tX11_syncHub 31 L (.ref 0 :: r) M = zz_ev tX11_syncHub 34 L (.ref 1 :: r) M) ∧
  (∀ L st M, zz_ev tX11_syncHub 34 L st M = zo_iload 1 35 (zz_ev tX11_syncHub) L st M) ∧
  (∀ (L : zzLc) (a0 : Int32) (r : List Value) (M : zzMd), zz_ev tX11_syncHub 35 L (.int a0 :: .ref 1 :: r) M = bif zz_cat8 r then zz_backN (zz_ev tX11_syncHub) 38 L r (fX10_isGone [.ref 1, .int a0] M) else none) ∧
  (∀ L st M, zz_ev tX11_syncHub 38 L st M = zo_if (fun x => decide (¬ x = 0)) 58 41 (zz_ev tX11_syncHub) L st M) ∧
  (∀ L st M, zz_ev tX11_syncHub 41 L st M = zo_aload 0 42 (zz_ev tX11_syncHub) L st M) ∧
  (∀ (L : zzLc) (r : List Value) (M : zzMd), zz_ev tX11_syncHub 42 L (.ref 0 :: r) M = zz_ev tX11_syncHub 45 L (.ref 1 :: r) M) ∧
  (∀ L st M, zz_ev tX11_syncHub 45 L st M = zo_pushI 5 46 (zz_ev tX11_syncHub) L st M) ∧
  (∀ L st M, zz_ev tX11_syncHub 46 L st M = zo_iload 1 47 (zz_ev tX11_syncHub) L st M) ∧
  (∀ L st M, zz_ev tX11_syncHub 47 L st M = zo_pushI 1 48 (zz_ev tX11_syncHub) L st M) ∧
  (∀ L st M, zz_ev tX11_syncHub 48 L st M = zo_aload 0 49 (zz_ev tX11_syncHub) L st M) ∧
  (∀ (L : zzLc) (r : List Value) (M : zzMd), zz_ev tX11_syncHub 49 L (.ref 0 :: r) M = zz_ev tX11_syncHub 52 L (.ref 13 :: r) M) ∧
  (∀ L st M, zz_ev tX11_syncHub 52 L st M = zo_iload 1 53 (zz_ev tX11_syncHub) L st M) ∧
  (∀ L st M, zz_ev tX11_syncHub 53 L st M = zo_iald zzSC zzSTC 54 (zz_ev tX11_syncHub) L st M) ∧
  (∀ (L : zzLc) (a0 a1 a2 a3 : Int32) (r : List Value) (M : zzMd), zz_ev tX11_syncHub 54 L (.int a3 :: .int a2 :: .int a1 :: .int a0 :: .ref 1 :: r) M = bif zz_cat8 r then zz_backN (zz_ev tX11_syncHub) 57 L r (fX9_applyField [.ref 1, .int a0, .int a1, .int a2, .int a3] M) else none) ∧
  (∀ L st M, zz_ev tX11_syncHub 57 L st M = zo_pop 58 (zz_ev tX11_syncHub) L st M) ∧
  (∀ L st M, zz_ev tX11_syncHub 58 L st M = zo_iinc 1 1 61 (zz_ev tX11_syncHub) L st M) ∧
  (∀ L st M, zz_ev tX11_syncHub 61 L st M = zo_goto 2 (zz_ev tX11_syncHub) L st M) ∧
  (∀ L st M, zz_ev tX11_syncHub 64 L st M = zo_ret (zz_ev tX11_syncHub) L st M) :=
  ⟨zz_1 rfl tl_X11_syncHub, zz_1 rfl tl_X11_syncHub, zz_1 rfl tl_X11_syncHub, fun L r M => (zz_1 rfl tl_X11_syncHub _ _ _).trans rfl, fun L r M => (zz_1 rfl tl_X11_syncHub _ _ _).trans rfl, zz_1 rfl tl_X11_syncHub, zz_1 rfl tl_X11_syncHub, fun L r M => (zz_1 rfl tl_X11_syncHub _ _ _).trans rfl, zz_1 rfl tl_X11_syncHub, zz_1 rfl tl_X11_syncHub, fun L r M => (zz_1 rfl tl_X11_syncHub _ _ _).trans rfl, zz_1 rfl tl_X11_syncHub, zz_1 rfl tl_X11_syncHub, zz_1 rfl tl_X11_syncHub, zz_1 rfl tl_X11_syncHub, zz_1 rfl tl_X11_syncHub, fun L r M => (zz_1 rfl tl_X11_syncHub _ _ _).trans rfl, zz_1 rfl tl_X11_syncHub, fun L a0 r M => (zz_1 rfl tl_X11_syncHub _ _ _).trans rfl, zz_1 rfl tl_X11_syncHub, zz_1 rfl tl_X11_syncHub, fun L r M => (zz_1 rfl tl_X11_syncHub _ _ _).trans rfl, zz_1 rfl tl_X11_syncHub, zz_1 rfl tl_X11_syncHub, zz_1 rfl tl_X11_syncHub, zz_1 rfl tl_X11_syncHub, fun L r M => (zz_1 rfl tl_X11_syncHub _ _ _).trans rfl, zz_1 rfl tl_X11_syncHub, zz_1 rfl tl_X11_syncHub, fun L a0 a1 a2 a3 r M => (zz_1 rfl tl_X11_syncHub _ _ _).trans rfl, zz_1 rfl tl_X11_syncHub, zz_1 rfl tl_X11_syncHub, zz_1 rfl tl_X11_syncHub, zz_1 rfl tl_X11_syncHub⟩
set_option maxRecDepth 100000 in
theorem e_X11_syncHub_2 : (∀ L st M, zz_ev tX11_syncHub 2 L st M = zo_iload 1 3 (zz_ev tX11_syncHub) L st M) := zz_1 rfl tl_X11_syncHub
set_option maxRecDepth 100000 in
theorem s_X11_syncHub (v : Nat) (M : zzMd) : fX11_syncHub [.ref v] M = zz_ev tX11_syncHub 0 [some (.ref v), none] [] M := rfl
set_option maxRecDepth 100000 in
theorem e_X11_hub : (∀ L st M, zz_ev tX11_hub 0 L st M = zo_aload 0 1 (zz_ev tX11_hub) L st M) ∧
  (∀ L st M, zz_ev tX11_hub 1 L st M = zo_iload 1 2 (zz_ev tX11_hub) L st M) ∧
  (∀ (L : zzLc) (x : Int32) (r : List Value) (M : zzMd), zz_ev tX11_hub 2 L (.int x :: .ref 0 :: r) M = (bif zz_b01 x then zz_ev tX11_hub 5 L r (zz_sI M 0 4 x) else none)) ∧
  (∀ L st M, zz_ev tX11_hub 5 L st M = zo_aload 0 6 (zz_ev tX11_hub) L st M) ∧
  (∀ (L : zzLc) (r : List Value) (M : zzMd), zz_ev tX11_hub 6 L (.ref 0 :: r) M = zz_ev tX11_hub 9 L (.ref 1 :: r) M) ∧
  (∀ (L : zzLc) (r : List Value) (M : zzMd), zz_ev tX11_hub 9 L (.ref 1 :: r) M = zz_ev tX11_hub 12 L (.int (M.1 1 3) :: r) M) ∧
  (∀ L st M, zz_ev tX11_hub 12 L st M = zo_istore 2 13 (zz_ev tX11_hub) L st M) ∧
  (∀ L st M, zz_ev tX11_hub 13 L st M = zo_aload 0 14 (zz_ev tX11_hub) L st M) ∧
  (∀ (L : zzLc) (r : List Value) (M : zzMd), zz_ev tX11_hub 14 L (.ref 0 :: r) M = bif zz_cat8 r then zz_backN (zz_ev tX11_hub) 17 L r (fX11_syncHub [.ref 0] M) else none) ∧
  (∀ L st M, zz_ev tX11_hub 17 L st M = zo_aload 0 18 (zz_ev tX11_hub) L st M) ∧
  (∀ (L : zzLc) (r : List Value) (M : zzMd), zz_ev tX11_hub 18 L (.ref 0 :: r) M = zz_ev tX11_hub 21 L (.ref 1 :: r) M) ∧
  (∀ (L : zzLc) (r : List Value) (M : zzMd), zz_ev tX11_hub 21 L (.ref 1 :: r) M = zz_ev tX11_hub 24 L (.int (M.1 1 3) :: r) M) ∧
  (∀ L st M, zz_ev tX11_hub 24 L st M = zo_iload 2 25 (zz_ev tX11_hub) L st M) ∧
  (∀ L st M, zz_ev tX11_hub 25 L st M = zo_ii (fun x y => x - y) 26 (zz_ev tX11_hub) L st M) ∧
  (∀ L st M, zz_ev tX11_hub 26 L st M = zo_iret false (zz_ev tX11_hub) L st M) :=
  ⟨zz_1 rfl tl_X11_hub, zz_1 rfl tl_X11_hub, fun L x r M => (zz_1 rfl tl_X11_hub _ _ _).trans rfl, zz_1 rfl tl_X11_hub, fun L r M => (zz_1 rfl tl_X11_hub _ _ _).trans rfl, fun L r M => (zz_1 rfl tl_X11_hub _ _ _).trans rfl, zz_1 rfl tl_X11_hub, zz_1 rfl tl_X11_hub, fun L  r M => (zz_1 rfl tl_X11_hub _ _ _).trans rfl, zz_1 rfl tl_X11_hub, fun L r M => (zz_1 rfl tl_X11_hub _ _ _).trans rfl, fun L r M => (zz_1 rfl tl_X11_hub _ _ _).trans rfl, zz_1 rfl tl_X11_hub, zz_1 rfl tl_X11_hub, zz_1 rfl tl_X11_hub⟩
set_option maxRecDepth 100000 in
theorem s_X11_hub (a0 : Int32) (v : Nat) (M : zzMd) : fX11_hub [.ref v, .int a0] M = zz_ev tX11_hub 0 [some (.ref v), some (.int a0), none] [] M := rfl
set_option maxRecDepth 100000 in
theorem e_X11_objects : (∀ L st M, zz_ev tX11_objects 0 L st M = zo_aload 0 1 (zz_ev tX11_objects) L st M) ∧
  (∀ (L : zzLc) (r : List Value) (M : zzMd), zz_ev tX11_objects 1 L (.ref 0 :: r) M = zz_ev tX11_objects 4 L (.ref 1 :: r) M) ∧
  (∀ (L : zzLc) (r : List Value) (M : zzMd), zz_ev tX11_objects 4 L (.ref 1 :: r) M = zz_ev tX11_objects 7 L (.int (M.1 1 2) :: r) M) ∧
  (∀ L st M, zz_ev tX11_objects 7 L st M = zo_iret false (zz_ev tX11_objects) L st M) :=
  ⟨zz_1 rfl tl_X11_objects, fun L r M => (zz_1 rfl tl_X11_objects _ _ _).trans rfl, fun L r M => (zz_1 rfl tl_X11_objects _ _ _).trans rfl, zz_1 rfl tl_X11_objects⟩
set_option maxRecDepth 100000 in
theorem s_X11_objects (v : Nat) (M : zzMd) : fX11_objects [.ref v] M = zz_ev tX11_objects 0 [some (.ref v)] [] M := rfl
set_option maxRecDepth 100000 in
theorem e_X11_version : (∀ L st M, zz_ev tX11_version 0 L st M = zo_aload 0 1 (zz_ev tX11_version) L st M) ∧
  (∀ (L : zzLc) (r : List Value) (M : zzMd), zz_ev tX11_version 1 L (.ref 0 :: r) M = zz_ev tX11_version 4 L (.ref 1 :: r) M) ∧
  (∀ (L : zzLc) (r : List Value) (M : zzMd), zz_ev tX11_version 4 L (.ref 1 :: r) M = zz_ev tX11_version 7 L (.int (M.1 1 3) :: r) M) ∧
  (∀ L st M, zz_ev tX11_version 7 L st M = zo_iret false (zz_ev tX11_version) L st M) :=
  ⟨zz_1 rfl tl_X11_version, fun L r M => (zz_1 rfl tl_X11_version _ _ _).trans rfl, fun L r M => (zz_1 rfl tl_X11_version _ _ _).trans rfl, zz_1 rfl tl_X11_version⟩
set_option maxRecDepth 100000 in
theorem s_X11_version (v : Nat) (M : zzMd) : fX11_version [.ref v] M = zz_ev tX11_version 0 [some (.ref v)] [] M := rfl
set_option maxRecDepth 100000 in
theorem e_X11_kindOf : (∀ L st M, zz_ev tX11_kindOf 0 L st M = zo_aload 0 1 (zz_ev tX11_kindOf) L st M) ∧
  (∀ L st M, zz_ev tX11_kindOf 1 L st M = zo_iload 1 2 (zz_ev tX11_kindOf) L st M) ∧
  (∀ (L : zzLc) (a0 : Int32) (r : List Value) (M : zzMd), zz_ev tX11_kindOf 2 L (.int a0 :: .ref 0 :: r) M = bif zz_cat8 r then zz_back (zz_ev tX11_kindOf) 5 L r (fX11_requireObject [.ref 0, .int a0] M) else none) ∧
  (∀ L st M, zz_ev tX11_kindOf 5 L st M = zo_aload 0 6 (zz_ev tX11_kindOf) L st M) ∧
  (∀ (L : zzLc) (r : List Value) (M : zzMd), zz_ev tX11_kindOf 6 L (.ref 0 :: r) M = zz_ev tX11_kindOf 9 L (.ref 1 :: r) M) ∧
  (∀ L st M, zz_ev tX11_kindOf 9 L st M = zo_iload 1 10 (zz_ev tX11_kindOf) L st M) ∧
  (∀ L st M, zz_ev tX11_kindOf 10 L st M = zo_pushI 23 12 (zz_ev tX11_kindOf) L st M) ∧
  (∀ (L : zzLc) (a0 a1 : Int32) (r : List Value) (M : zzMd), zz_ev tX11_kindOf 12 L (.int a1 :: .int a0 :: .ref 1 :: r) M = bif zz_cat8 r then zz_backN (zz_ev tX11_kindOf) 15 L r (fX10_read [.ref 1, .int a0, .int a1] M) else none) ∧
  (∀ L st M, zz_ev tX11_kindOf 15 L st M = zo_iret false (zz_ev tX11_kindOf) L st M) :=
  ⟨zz_1 rfl tl_X11_kindOf, zz_1 rfl tl_X11_kindOf, fun L a0 r M => (zz_1 rfl tl_X11_kindOf _ _ _).trans rfl, zz_1 rfl tl_X11_kindOf, fun L r M => (zz_1 rfl tl_X11_kindOf _ _ _).trans rfl, zz_1 rfl tl_X11_kindOf, zz_1 rfl tl_X11_kindOf, fun L a0 a1 r M => (zz_1 rfl tl_X11_kindOf _ _ _).trans rfl, zz_1 rfl tl_X11_kindOf⟩
set_option maxRecDepth 100000 in
theorem s_X11_kindOf (a0 : Int32) (v : Nat) (M : zzMd) : fX11_kindOf [.ref v, .int a0] M = zz_ev tX11_kindOf 0 [some (.ref v), some (.int a0)] [] M := rfl
set_option maxRecDepth 100000 in
theorem e_X11_field : (∀ L st M, zz_ev tX11_field 0 L st M = zo_aload 0 1 (zz_ev tX11_field) L st M) ∧
  (∀ L st M, zz_ev tX11_field 1 L st M = zo_iload 1 2 (zz_ev tX11_field) L st M) ∧
  (∀ (L : zzLc) (a0 : Int32) (r : List Value) (M : zzMd), zz_ev tX11_field 2 L (.int a0 :: .ref 0 :: r) M = bif zz_cat8 r then zz_back (zz_ev tX11_field) 5 L r (fX11_requireObject [.ref 0, .int a0] M) else none) ∧
  (∀ L st M, zz_ev tX11_field 5 L st M = zo_aload 0 6 (zz_ev tX11_field) L st M) ∧
  (∀ L st M, zz_ev tX11_field 6 L st M = zo_iload 1 7 (zz_ev tX11_field) L st M) ∧
  (∀ L st M, zz_ev tX11_field 7 L st M = zo_iload 2 8 (zz_ev tX11_field) L st M) ∧
  (∀ (L : zzLc) (a0 a1 : Int32) (r : List Value) (M : zzMd), zz_ev tX11_field 8 L (.int a1 :: .int a0 :: .ref 0 :: r) M = bif zz_cat8 r then zz_back (zz_ev tX11_field) 11 L r (fX11_requireField [.ref 0, .int a0, .int a1] M) else none) ∧
  (∀ L st M, zz_ev tX11_field 11 L st M = zo_aload 0 12 (zz_ev tX11_field) L st M) ∧
  (∀ (L : zzLc) (r : List Value) (M : zzMd), zz_ev tX11_field 12 L (.ref 0 :: r) M = zz_ev tX11_field 15 L (.ref 1 :: r) M) ∧
  (∀ L st M, zz_ev tX11_field 15 L st M = zo_iload 1 16 (zz_ev tX11_field) L st M) ∧
  (∀ L st M, zz_ev tX11_field 16 L st M = zo_iload 2 17 (zz_ev tX11_field) L st M) ∧
  (∀ (L : zzLc) (a0 a1 : Int32) (r : List Value) (M : zzMd), zz_ev tX11_field 17 L (.int a1 :: .int a0 :: .ref 1 :: r) M = bif zz_cat8 r then zz_backN (zz_ev tX11_field) 20 L r (fX10_read [.ref 1, .int a0, .int a1] M) else none) ∧
  (∀ L st M, zz_ev tX11_field 20 L st M = zo_iret false (zz_ev tX11_field) L st M) :=
  ⟨zz_1 rfl tl_X11_field, zz_1 rfl tl_X11_field, fun L a0 r M => (zz_1 rfl tl_X11_field _ _ _).trans rfl, zz_1 rfl tl_X11_field, zz_1 rfl tl_X11_field, zz_1 rfl tl_X11_field, fun L a0 a1 r M => (zz_1 rfl tl_X11_field _ _ _).trans rfl, zz_1 rfl tl_X11_field, fun L r M => (zz_1 rfl tl_X11_field _ _ _).trans rfl, zz_1 rfl tl_X11_field, zz_1 rfl tl_X11_field, fun L a0 a1 r M => (zz_1 rfl tl_X11_field _ _ _).trans rfl, zz_1 rfl tl_X11_field⟩
set_option maxRecDepth 100000 in
theorem s_X11_field (a0 a1 : Int32) (v : Nat) (M : zzMd) : fX11_field [.ref v, .int a0, .int a1] M = zz_ev tX11_field 0 [some (.ref v), some (.int a0), some (.int a1)] [] M := rfl
set_option maxRecDepth 100000 in
theorem e_X11_managerOf : (∀ L st M, zz_ev tX11_managerOf 0 L st M = zo_aload 0 1 (zz_ev tX11_managerOf) L st M) ∧
  (∀ L st M, zz_ev tX11_managerOf 1 L st M = zo_iload 1 2 (zz_ev tX11_managerOf) L st M) ∧
  (∀ (L : zzLc) (a0 : Int32) (r : List Value) (M : zzMd), zz_ev tX11_managerOf 2 L (.int a0 :: .ref 0 :: r) M = bif zz_cat8 r then zz_back (zz_ev tX11_managerOf) 5 L r (fX11_requireObject [.ref 0, .int a0] M) else none) ∧
  (∀ L st M, zz_ev tX11_managerOf 5 L st M = zo_aload 0 6 (zz_ev tX11_managerOf) L st M) ∧
  (∀ L st M, zz_ev tX11_managerOf 6 L st M = zo_iload 1 7 (zz_ev tX11_managerOf) L st M) ∧
  (∀ L st M, zz_ev tX11_managerOf 7 L st M = zo_iload 2 8 (zz_ev tX11_managerOf) L st M) ∧
  (∀ (L : zzLc) (a0 a1 : Int32) (r : List Value) (M : zzMd), zz_ev tX11_managerOf 8 L (.int a1 :: .int a0 :: .ref 0 :: r) M = bif zz_cat8 r then zz_back (zz_ev tX11_managerOf) 11 L r (fX11_requireField [.ref 0, .int a0, .int a1] M) else none) ∧
  (∀ L st M, zz_ev tX11_managerOf 11 L st M = zo_aload 0 12 (zz_ev tX11_managerOf) L st M) ∧
  (∀ (L : zzLc) (r : List Value) (M : zzMd), zz_ev tX11_managerOf 12 L (.ref 0 :: r) M = zz_ev tX11_managerOf 15 L (.ref 1 :: r) M) ∧
  (∀ L st M, zz_ev tX11_managerOf 15 L st M = zo_iload 1 16 (zz_ev tX11_managerOf) L st M) ∧
  (∀ L st M, zz_ev tX11_managerOf 16 L st M = zo_pushI 11 18 (zz_ev tX11_managerOf) L st M) ∧
  (∀ L st M, zz_ev tX11_managerOf 18 L st M = zo_iload 2 19 (zz_ev tX11_managerOf) L st M) ∧
  (∀ L st M, zz_ev tX11_managerOf 19 L st M = zo_ii (fun x y => x + y) 20 (zz_ev tX11_managerOf) L st M) ∧
  (∀ (L : zzLc) (a0 a1 : Int32) (r : List Value) (M : zzMd), zz_ev tX11_managerOf 20 L (.int a1 :: .int a0 :: .ref 1 :: r) M = bif zz_cat8 r then zz_backN (zz_ev tX11_managerOf) 23 L r (fX10_read [.ref 1, .int a0, .int a1] M) else none) ∧
  (∀ L st M, zz_ev tX11_managerOf 23 L st M = zo_iret false (zz_ev tX11_managerOf) L st M) :=
  ⟨zz_1 rfl tl_X11_managerOf, zz_1 rfl tl_X11_managerOf, fun L a0 r M => (zz_1 rfl tl_X11_managerOf _ _ _).trans rfl, zz_1 rfl tl_X11_managerOf, zz_1 rfl tl_X11_managerOf, zz_1 rfl tl_X11_managerOf, fun L a0 a1 r M => (zz_1 rfl tl_X11_managerOf _ _ _).trans rfl, zz_1 rfl tl_X11_managerOf, fun L r M => (zz_1 rfl tl_X11_managerOf _ _ _).trans rfl, zz_1 rfl tl_X11_managerOf, zz_1 rfl tl_X11_managerOf, zz_1 rfl tl_X11_managerOf, zz_1 rfl tl_X11_managerOf, fun L a0 a1 r M => (zz_1 rfl tl_X11_managerOf _ _ _).trans rfl, zz_1 rfl tl_X11_managerOf⟩
set_option maxRecDepth 100000 in
theorem s_X11_managerOf (a0 a1 : Int32) (v : Nat) (M : zzMd) : fX11_managerOf [.ref v, .int a0, .int a1] M = zz_ev tX11_managerOf 0 [some (.ref v), some (.int a0), some (.int a1)] [] M := rfl
set_option maxRecDepth 100000 in
theorem e_X11_budget : (∀ L st M, zz_ev tX11_budget 0 L st M = zo_aload 0 1 (zz_ev tX11_budget) L st M) ∧
  (∀ L st M, zz_ev tX11_budget 1 L st M = zo_iload 1 2 (zz_ev tX11_budget) L st M) ∧
  (∀ (L : zzLc) (a0 : Int32) (r : List Value) (M : zzMd), zz_ev tX11_budget 2 L (.int a0 :: .ref 0 :: r) M = bif zz_cat8 r then zz_back (zz_ev tX11_budget) 5 L r (fX11_requireObject [.ref 0, .int a0] M) else none) ∧
  (∀ L st M, zz_ev tX11_budget 5 L st M = zo_aload 0 6 (zz_ev tX11_budget) L st M) ∧
  (∀ L st M, zz_ev tX11_budget 6 L st M = zo_iload 1 7 (zz_ev tX11_budget) L st M) ∧
  (∀ L st M, zz_ev tX11_budget 7 L st M = zo_pushI 0 8 (zz_ev tX11_budget) L st M) ∧
  (∀ (L : zzLc) (a0 a1 : Int32) (r : List Value) (M : zzMd), zz_ev tX11_budget 8 L (.int a1 :: .int a0 :: .ref 0 :: r) M = bif zz_cat8 r then zz_back (zz_ev tX11_budget) 11 L r (fX11_requireKind [.ref 0, .int a0, .int a1] M) else none) ∧
  (∀ L st M, zz_ev tX11_budget 11 L st M = zo_pushI 10 13 (zz_ev tX11_budget) L st M) ∧
  (∀ L st M, zz_ev tX11_budget 13 L st M = zo_aload 0 14 (zz_ev tX11_budget) L st M) ∧
  (∀ (L : zzLc) (r : List Value) (M : zzMd), zz_ev tX11_budget 14 L (.ref 0 :: r) M = zz_ev tX11_budget 17 L (.ref 1 :: r) M) ∧
  (∀ L st M, zz_ev tX11_budget 17 L st M = zo_iload 1 18 (zz_ev tX11_budget) L st M) ∧
  (∀ L st M, zz_ev tX11_budget 18 L st M = zo_pushI 2 19 (zz_ev tX11_budget) L st M) ∧
  (∀ (L : zzLc) (a0 a1 : Int32) (r : List Value) (M : zzMd), zz_ev tX11_budget 19 L (.int a1 :: .int a0 :: .ref 1 :: r) M = bif zz_cat8 r then zz_backN (zz_ev tX11_budget) 22 L r (fX10_read [.ref 1, .int a0, .int a1] M) else none) ∧
  (∀ L st M, zz_ev tX11_budget 22 L st M = zo_ii (fun x y => x * y) 23 (zz_ev tX11_budget) L st M) ∧
  (∀ L st M, zz_ev tX11_budget 23 L st M = zo_aload 0 24 (zz_ev tX11_budget) L st M) ∧
  (∀ (L : zzLc) (r : List Value) (M : zzMd), zz_ev tX11_budget 24 L (.ref 0 :: r) M = zz_ev tX11_budget 27 L (.ref 1 :: r) M) ∧
  (∀ L st M, zz_ev tX11_budget 27 L st M = zo_iload 1 28 (zz_ev tX11_budget) L st M) ∧
  (∀ L st M, zz_ev tX11_budget 28 L st M = zo_pushI 3 29 (zz_ev tX11_budget) L st M) ∧
  (∀ (L : zzLc) (a0 a1 : Int32) (r : List Value) (M : zzMd), zz_ev tX11_budget 29 L (.int a1 :: .int a0 :: .ref 1 :: r) M = bif zz_cat8 r then zz_backN (zz_ev tX11_budget) 32 L r (fX10_read [.ref 1, .int a0, .int a1] M) else none) ∧
  (∀ L st M, zz_ev tX11_budget 32 L st M = zo_ii (fun x y => x + y) 33 (zz_ev tX11_budget) L st M) ∧
  (∀ L st M, zz_ev tX11_budget 33 L st M = zo_iret false (zz_ev tX11_budget) L st M) :=
  ⟨zz_1 rfl tl_X11_budget, zz_1 rfl tl_X11_budget, fun L a0 r M => (zz_1 rfl tl_X11_budget _ _ _).trans rfl, zz_1 rfl tl_X11_budget, zz_1 rfl tl_X11_budget, zz_1 rfl tl_X11_budget, fun L a0 a1 r M => (zz_1 rfl tl_X11_budget _ _ _).trans rfl, zz_1 rfl tl_X11_budget, zz_1 rfl tl_X11_budget, fun L r M => (zz_1 rfl tl_X11_budget _ _ _).trans rfl, zz_1 rfl tl_X11_budget, zz_1 rfl tl_X11_budget, fun L a0 a1 r M => (zz_1 rfl tl_X11_budget _ _ _).trans rfl, zz_1 rfl tl_X11_budget, zz_1 rfl tl_X11_budget, fun L r M => (zz_1 rfl tl_X11_budget _ _ _).trans rfl, zz_1 rfl tl_X11_budget, zz_1 rfl tl_X11_budget, fun L a0 a1 r M => (zz_1 rfl tl_X11_budget _ _ _).trans rfl, zz_1 rfl tl_X11_budget, zz_1 rfl tl_X11_budget⟩
set_option maxRecDepth 100000 in
theorem s_X11_budget (a0 : Int32) (v : Nat) (M : zzMd) : fX11_budget [.ref v, .int a0] M = zz_ev tX11_budget 0 [some (.ref v), some (.int a0)] [] M := rfl
set_option maxRecDepth 100000 in
theorem e_X11_versionOf : (∀ L st M, zz_ev tX11_versionOf 0 L st M = zo_aload 0 1 (zz_ev tX11_versionOf) L st M) ∧
  (∀ L st M, zz_ev tX11_versionOf 1 L st M = zo_iload 1 2 (zz_ev tX11_versionOf) L st M) ∧
  (∀ (L : zzLc) (a0 : Int32) (r : List Value) (M : zzMd), zz_ev tX11_versionOf 2 L (.int a0 :: .ref 0 :: r) M = bif zz_cat8 r then zz_back (zz_ev tX11_versionOf) 5 L r (fX11_requireObject [.ref 0, .int a0] M) else none) ∧
  (∀ L st M, zz_ev tX11_versionOf 5 L st M = zo_aload 0 6 (zz_ev tX11_versionOf) L st M) ∧
  (∀ (L : zzLc) (r : List Value) (M : zzMd), zz_ev tX11_versionOf 6 L (.ref 0 :: r) M = zz_ev tX11_versionOf 9 L (.ref 1 :: r) M) ∧
  (∀ L st M, zz_ev tX11_versionOf 9 L st M = zo_iload 1 10 (zz_ev tX11_versionOf) L st M) ∧
  (∀ (L : zzLc) (a0 : Int32) (r : List Value) (M : zzMd), zz_ev tX11_versionOf 10 L (.int a0 :: .ref 1 :: r) M = bif zz_cat8 r then zz_backN (zz_ev tX11_versionOf) 13 L r (fX10_latestOf [.ref 1, .int a0] M) else none) ∧
  (∀ L st M, zz_ev tX11_versionOf 13 L st M = zo_iret false (zz_ev tX11_versionOf) L st M) :=
  ⟨zz_1 rfl tl_X11_versionOf, zz_1 rfl tl_X11_versionOf, fun L a0 r M => (zz_1 rfl tl_X11_versionOf _ _ _).trans rfl, zz_1 rfl tl_X11_versionOf, fun L r M => (zz_1 rfl tl_X11_versionOf _ _ _).trans rfl, zz_1 rfl tl_X11_versionOf, fun L a0 r M => (zz_1 rfl tl_X11_versionOf _ _ _).trans rfl, zz_1 rfl tl_X11_versionOf⟩
set_option maxRecDepth 100000 in
theorem s_X11_versionOf (a0 : Int32) (v : Nat) (M : zzMd) : fX11_versionOf [.ref v, .int a0] M = zz_ev tX11_versionOf 0 [some (.ref v), some (.int a0)] [] M := rfl
set_option maxRecDepth 100000 in
theorem e_X11_goingOf : (∀ L st M, zz_ev tX11_goingOf 0 L st M = zo_aload 0 1 (zz_ev tX11_goingOf) L st M) ∧
  (∀ L st M, zz_ev tX11_goingOf 1 L st M = zo_iload 1 2 (zz_ev tX11_goingOf) L st M) ∧
  (∀ (L : zzLc) (a0 : Int32) (r : List Value) (M : zzMd), zz_ev tX11_goingOf 2 L (.int a0 :: .ref 0 :: r) M = bif zz_cat8 r then zz_back (zz_ev tX11_goingOf) 5 L r (fX11_requireObject [.ref 0, .int a0] M) else none) ∧
  (∀ L st M, zz_ev tX11_goingOf 5 L st M = zo_aload 0 6 (zz_ev tX11_goingOf) L st M) ∧
  (∀ (L : zzLc) (r : List Value) (M : zzMd), zz_ev tX11_goingOf 6 L (.ref 0 :: r) M = zz_ev tX11_goingOf 9 L (.ref 1 :: r) M) ∧
  (∀ L st M, zz_ev tX11_goingOf 9 L st M = zo_iload 1 10 (zz_ev tX11_goingOf) L st M) ∧
  (∀ L st M, zz_ev tX11_goingOf 10 L st M = zo_pushI 25 12 (zz_ev tX11_goingOf) L st M) ∧
  (∀ (L : zzLc) (a0 a1 : Int32) (r : List Value) (M : zzMd), zz_ev tX11_goingOf 12 L (.int a1 :: .int a0 :: .ref 1 :: r) M = bif zz_cat8 r then zz_backN (zz_ev tX11_goingOf) 15 L r (fX10_read [.ref 1, .int a0, .int a1] M) else none) ∧
  (∀ L st M, zz_ev tX11_goingOf 15 L st M = zo_iret false (zz_ev tX11_goingOf) L st M) :=
  ⟨zz_1 rfl tl_X11_goingOf, zz_1 rfl tl_X11_goingOf, fun L a0 r M => (zz_1 rfl tl_X11_goingOf _ _ _).trans rfl, zz_1 rfl tl_X11_goingOf, fun L r M => (zz_1 rfl tl_X11_goingOf _ _ _).trans rfl, zz_1 rfl tl_X11_goingOf, zz_1 rfl tl_X11_goingOf, fun L a0 a1 r M => (zz_1 rfl tl_X11_goingOf _ _ _).trans rfl, zz_1 rfl tl_X11_goingOf⟩
set_option maxRecDepth 100000 in
theorem s_X11_goingOf (a0 : Int32) (v : Nat) (M : zzMd) : fX11_goingOf [.ref v, .int a0] M = zz_ev tX11_goingOf 0 [some (.ref v), some (.int a0)] [] M := rfl
set_option maxRecDepth 100000 in
theorem e_X11_ownerOf : (∀ L st M, zz_ev tX11_ownerOf 0 L st M = zo_aload 0 1 (zz_ev tX11_ownerOf) L st M) ∧
  (∀ L st M, zz_ev tX11_ownerOf 1 L st M = zo_iload 1 2 (zz_ev tX11_ownerOf) L st M) ∧
  (∀ (L : zzLc) (a0 : Int32) (r : List Value) (M : zzMd), zz_ev tX11_ownerOf 2 L (.int a0 :: .ref 0 :: r) M = bif zz_cat8 r then zz_back (zz_ev tX11_ownerOf) 5 L r (fX11_requireObject [.ref 0, .int a0] M) else none) ∧
  (∀ L st M, zz_ev tX11_ownerOf 5 L st M = zo_aload 0 6 (zz_ev tX11_ownerOf) L st M) ∧
  (∀ (L : zzLc) (r : List Value) (M : zzMd), zz_ev tX11_ownerOf 6 L (.ref 0 :: r) M = zz_ev tX11_ownerOf 9 L (.ref 1 :: r) M) ∧
  (∀ L st M, zz_ev tX11_ownerOf 9 L st M = zo_iload 1 10 (zz_ev tX11_ownerOf) L st M) ∧
  (∀ L st M, zz_ev tX11_ownerOf 10 L st M = zo_pushI 24 12 (zz_ev tX11_ownerOf) L st M) ∧
  (∀ (L : zzLc) (a0 a1 : Int32) (r : List Value) (M : zzMd), zz_ev tX11_ownerOf 12 L (.int a1 :: .int a0 :: .ref 1 :: r) M = bif zz_cat8 r then zz_backN (zz_ev tX11_ownerOf) 15 L r (fX10_read [.ref 1, .int a0, .int a1] M) else none) ∧
  (∀ L st M, zz_ev tX11_ownerOf 15 L st M = zo_iret false (zz_ev tX11_ownerOf) L st M) :=
  ⟨zz_1 rfl tl_X11_ownerOf, zz_1 rfl tl_X11_ownerOf, fun L a0 r M => (zz_1 rfl tl_X11_ownerOf _ _ _).trans rfl, zz_1 rfl tl_X11_ownerOf, fun L r M => (zz_1 rfl tl_X11_ownerOf _ _ _).trans rfl, zz_1 rfl tl_X11_ownerOf, zz_1 rfl tl_X11_ownerOf, fun L a0 a1 r M => (zz_1 rfl tl_X11_ownerOf _ _ _).trans rfl, zz_1 rfl tl_X11_ownerOf⟩
set_option maxRecDepth 100000 in
theorem s_X11_ownerOf (a0 : Int32) (v : Nat) (M : zzMd) : fX11_ownerOf [.ref v, .int a0] M = zz_ev tX11_ownerOf 0 [some (.ref v), some (.int a0)] [] M := rfl
set_option maxRecDepth 100000 in
theorem e_X11_phaseOf : (∀ L st M, zz_ev tX11_phaseOf 0 L st M = zo_aload 0 1 (zz_ev tX11_phaseOf) L st M) ∧
  (∀ L st M, zz_ev tX11_phaseOf 1 L st M = zo_iload 1 2 (zz_ev tX11_phaseOf) L st M) ∧
  (∀ (L : zzLc) (a0 : Int32) (r : List Value) (M : zzMd), zz_ev tX11_phaseOf 2 L (.int a0 :: .ref 0 :: r) M = bif zz_cat8 r then zz_back (zz_ev tX11_phaseOf) 5 L r (fX11_requireObject [.ref 0, .int a0] M) else none) ∧
  (∀ L st M, zz_ev tX11_phaseOf 5 L st M = zo_aload 0 6 (zz_ev tX11_phaseOf) L st M) ∧
  (∀ L st M, zz_ev tX11_phaseOf 6 L st M = zo_iload 1 7 (zz_ev tX11_phaseOf) L st M) ∧
  (∀ L st M, zz_ev tX11_phaseOf 7 L st M = zo_pushI 2 8 (zz_ev tX11_phaseOf) L st M) ∧
  (∀ (L : zzLc) (a0 a1 : Int32) (r : List Value) (M : zzMd), zz_ev tX11_phaseOf 8 L (.int a1 :: .int a0 :: .ref 0 :: r) M = bif zz_cat8 r then zz_back (zz_ev tX11_phaseOf) 11 L r (fX11_requireKind [.ref 0, .int a0, .int a1] M) else none) ∧
  (∀ L st M, zz_ev tX11_phaseOf 11 L st M = zo_aload 0 12 (zz_ev tX11_phaseOf) L st M) ∧
  (∀ (L : zzLc) (r : List Value) (M : zzMd), zz_ev tX11_phaseOf 12 L (.ref 0 :: r) M = zz_ev tX11_phaseOf 15 L (.ref 1 :: r) M) ∧
  (∀ L st M, zz_ev tX11_phaseOf 15 L st M = zo_iload 1 16 (zz_ev tX11_phaseOf) L st M) ∧
  (∀ L st M, zz_ev tX11_phaseOf 16 L st M = zo_pushI 29 18 (zz_ev tX11_phaseOf) L st M) ∧
  (∀ (L : zzLc) (a0 a1 : Int32) (r : List Value) (M : zzMd), zz_ev tX11_phaseOf 18 L (.int a1 :: .int a0 :: .ref 1 :: r) M = bif zz_cat8 r then zz_backN (zz_ev tX11_phaseOf) 21 L r (fX10_read [.ref 1, .int a0, .int a1] M) else none) ∧
  (∀ L st M, zz_ev tX11_phaseOf 21 L st M = zo_iret false (zz_ev tX11_phaseOf) L st M) :=
  ⟨zz_1 rfl tl_X11_phaseOf, zz_1 rfl tl_X11_phaseOf, fun L a0 r M => (zz_1 rfl tl_X11_phaseOf _ _ _).trans rfl, zz_1 rfl tl_X11_phaseOf, zz_1 rfl tl_X11_phaseOf, zz_1 rfl tl_X11_phaseOf, fun L a0 a1 r M => (zz_1 rfl tl_X11_phaseOf _ _ _).trans rfl, zz_1 rfl tl_X11_phaseOf, fun L r M => (zz_1 rfl tl_X11_phaseOf _ _ _).trans rfl, zz_1 rfl tl_X11_phaseOf, zz_1 rfl tl_X11_phaseOf, fun L a0 a1 r M => (zz_1 rfl tl_X11_phaseOf _ _ _).trans rfl, zz_1 rfl tl_X11_phaseOf⟩
set_option maxRecDepth 100000 in
theorem s_X11_phaseOf (a0 : Int32) (v : Nat) (M : zzMd) : fX11_phaseOf [.ref v, .int a0] M = zz_ev tX11_phaseOf 0 [some (.ref v), some (.int a0)] [] M := rfl
set_option maxRecDepth 100000 in
theorem e_X11_placeOf : (∀ L st M, zz_ev tX11_placeOf 0 L st M = zo_aload 0 1 (zz_ev tX11_placeOf) L st M) ∧
  (∀ L st M, zz_ev tX11_placeOf 1 L st M = zo_iload 1 2 (zz_ev tX11_placeOf) L st M) ∧
  (∀ (L : zzLc) (a0 : Int32) (r : List Value) (M : zzMd), zz_ev tX11_placeOf 2 L (.int a0 :: .ref 0 :: r) M = bif zz_cat8 r then zz_back (zz_ev tX11_placeOf) 5 L r (fX11_requireObject [.ref 0, .int a0] M) else none) ∧
  (∀ L st M, zz_ev tX11_placeOf 5 L st M = zo_aload 0 6 (zz_ev tX11_placeOf) L st M) ∧
  (∀ L st M, zz_ev tX11_placeOf 6 L st M = zo_iload 1 7 (zz_ev tX11_placeOf) L st M) ∧
  (∀ L st M, zz_ev tX11_placeOf 7 L st M = zo_pushI 2 8 (zz_ev tX11_placeOf) L st M) ∧
  (∀ (L : zzLc) (a0 a1 : Int32) (r : List Value) (M : zzMd), zz_ev tX11_placeOf 8 L (.int a1 :: .int a0 :: .ref 0 :: r) M = bif zz_cat8 r then zz_back (zz_ev tX11_placeOf) 11 L r (fX11_requireKind [.ref 0, .int a0, .int a1] M) else none) ∧
  (∀ L st M, zz_ev tX11_placeOf 11 L st M = zo_aload 0 12 (zz_ev tX11_placeOf) L st M) ∧
  (∀ (L : zzLc) (r : List Value) (M : zzMd), zz_ev tX11_placeOf 12 L (.ref 0 :: r) M = zz_ev tX11_placeOf 15 L (.ref 1 :: r) M) ∧
  (∀ L st M, zz_ev tX11_placeOf 15 L st M = zo_iload 1 16 (zz_ev tX11_placeOf) L st M) ∧
  (∀ L st M, zz_ev tX11_placeOf 16 L st M = zo_pushI 28 18 (zz_ev tX11_placeOf) L st M) ∧
  (∀ (L : zzLc) (a0 a1 : Int32) (r : List Value) (M : zzMd), zz_ev tX11_placeOf 18 L (.int a1 :: .int a0 :: .ref 1 :: r) M = bif zz_cat8 r then zz_backN (zz_ev tX11_placeOf) 21 L r (fX10_read [.ref 1, .int a0, .int a1] M) else none) ∧
  (∀ L st M, zz_ev tX11_placeOf 21 L st M = zo_iret false (zz_ev tX11_placeOf) L st M) :=
  ⟨zz_1 rfl tl_X11_placeOf, zz_1 rfl tl_X11_placeOf, fun L a0 r M => (zz_1 rfl tl_X11_placeOf _ _ _).trans rfl, zz_1 rfl tl_X11_placeOf, zz_1 rfl tl_X11_placeOf, zz_1 rfl tl_X11_placeOf, fun L a0 a1 r M => (zz_1 rfl tl_X11_placeOf _ _ _).trans rfl, zz_1 rfl tl_X11_placeOf, fun L r M => (zz_1 rfl tl_X11_placeOf _ _ _).trans rfl, zz_1 rfl tl_X11_placeOf, zz_1 rfl tl_X11_placeOf, fun L a0 a1 r M => (zz_1 rfl tl_X11_placeOf _ _ _).trans rfl, zz_1 rfl tl_X11_placeOf⟩
set_option maxRecDepth 100000 in
theorem s_X11_placeOf (a0 : Int32) (v : Nat) (M : zzMd) : fX11_placeOf [.ref v, .int a0] M = zz_ev tX11_placeOf 0 [some (.ref v), some (.int a0)] [] M := rfl
set_option maxRecDepth 100000 in
theorem e_X11_isReady : (∀ L st M, zz_ev tX11_isReady 0 L st M = zo_aload 0 1 (zz_ev tX11_isReady) L st M) ∧
  (∀ L st M, zz_ev tX11_isReady 1 L st M = zo_iload 1 2 (zz_ev tX11_isReady) L st M) ∧
  (∀ (L : zzLc) (a0 : Int32) (r : List Value) (M : zzMd), zz_ev tX11_isReady 2 L (.int a0 :: .ref 0 :: r) M = bif zz_cat8 r then zz_back (zz_ev tX11_isReady) 5 L r (fX11_requireObject [.ref 0, .int a0] M) else none) ∧
  (∀ L st M, zz_ev tX11_isReady 5 L st M = zo_aload 0 6 (zz_ev tX11_isReady) L st M) ∧
  (∀ L st M, zz_ev tX11_isReady 6 L st M = zo_iload 1 7 (zz_ev tX11_isReady) L st M) ∧
  (∀ L st M, zz_ev tX11_isReady 7 L st M = zo_pushI 4 8 (zz_ev tX11_isReady) L st M) ∧
  (∀ (L : zzLc) (a0 a1 : Int32) (r : List Value) (M : zzMd), zz_ev tX11_isReady 8 L (.int a1 :: .int a0 :: .ref 0 :: r) M = bif zz_cat8 r then zz_back (zz_ev tX11_isReady) 11 L r (fX11_requireKind [.ref 0, .int a0, .int a1] M) else none) ∧
  (∀ L st M, zz_ev tX11_isReady 11 L st M = zo_aload 0 12 (zz_ev tX11_isReady) L st M) ∧
  (∀ (L : zzLc) (r : List Value) (M : zzMd), zz_ev tX11_isReady 12 L (.ref 0 :: r) M = zz_ev tX11_isReady 15 L (.ref 1 :: r) M) ∧
  (∀ L st M, zz_ev tX11_isReady 15 L st M = zo_iload 1 16 (zz_ev tX11_isReady) L st M) ∧
  (∀ L st M, zz_ev tX11_isReady 16 L st M = zo_pushI 27 18 (zz_ev tX11_isReady) L st M) ∧
  (∀ (L : zzLc) (a0 a1 : Int32) (r : List Value) (M : zzMd), zz_ev tX11_isReady 18 L (.int a1 :: .int a0 :: .ref 1 :: r) M = bif zz_cat8 r then zz_backN (zz_ev tX11_isReady) 21 L r (fX10_read [.ref 1, .int a0, .int a1] M) else none) ∧
  (∀ L st M, zz_ev tX11_isReady 21 L st M = zo_pushI 1 22 (zz_ev tX11_isReady) L st M) ∧
  (∀ L st M, zz_ev tX11_isReady 22 L st M = zo_icmp (fun x y => decide (¬ x = y)) 29 25 (zz_ev tX11_isReady) L st M) ∧
  (∀ L st M, zz_ev tX11_isReady 25 L st M = zo_pushI 1 26 (zz_ev tX11_isReady) L st M) ∧
  (∀ L st M, zz_ev tX11_isReady 26 L st M = zo_goto 30 (zz_ev tX11_isReady) L st M) ∧
  (∀ L st M, zz_ev tX11_isReady 29 L st M = zo_pushI 0 30 (zz_ev tX11_isReady) L st M) ∧
  (∀ L st M, zz_ev tX11_isReady 30 L st M = zo_iret true (zz_ev tX11_isReady) L st M) :=
  ⟨zz_1 rfl tl_X11_isReady, zz_1 rfl tl_X11_isReady, fun L a0 r M => (zz_1 rfl tl_X11_isReady _ _ _).trans rfl, zz_1 rfl tl_X11_isReady, zz_1 rfl tl_X11_isReady, zz_1 rfl tl_X11_isReady, fun L a0 a1 r M => (zz_1 rfl tl_X11_isReady _ _ _).trans rfl, zz_1 rfl tl_X11_isReady, fun L r M => (zz_1 rfl tl_X11_isReady _ _ _).trans rfl, zz_1 rfl tl_X11_isReady, zz_1 rfl tl_X11_isReady, fun L a0 a1 r M => (zz_1 rfl tl_X11_isReady _ _ _).trans rfl, zz_1 rfl tl_X11_isReady, zz_1 rfl tl_X11_isReady, zz_1 rfl tl_X11_isReady, zz_1 rfl tl_X11_isReady, zz_1 rfl tl_X11_isReady, zz_1 rfl tl_X11_isReady⟩
set_option maxRecDepth 100000 in
theorem s_X11_isReady (a0 : Int32) (v : Nat) (M : zzMd) : fX11_isReady [.ref v, .int a0] M = zz_ev tX11_isReady 0 [some (.ref v), some (.int a0)] [] M := rfl
set_option maxRecDepth 100000 in
theorem e_X11_isBehind : (∀ L st M, zz_ev tX11_isBehind 0 L st M = zo_aload 0 1 (zz_ev tX11_isBehind) L st M) ∧
  (∀ L st M, zz_ev tX11_isBehind 1 L st M = zo_iload 1 2 (zz_ev tX11_isBehind) L st M) ∧
  (∀ (L : zzLc) (a0 : Int32) (r : List Value) (M : zzMd), zz_ev tX11_isBehind 2 L (.int a0 :: .ref 0 :: r) M = bif zz_cat8 r then zz_back (zz_ev tX11_isBehind) 5 L r (fX11_requireObject [.ref 0, .int a0] M) else none) ∧
  (∀ L st M, zz_ev tX11_isBehind 5 L st M = zo_aload 0 6 (zz_ev tX11_isBehind) L st M) ∧
  (∀ L st M, zz_ev tX11_isBehind 6 L st M = zo_iload 2 7 (zz_ev tX11_isBehind) L st M) ∧
  (∀ (L : zzLc) (a0 : Int32) (r : List Value) (M : zzMd), zz_ev tX11_isBehind 7 L (.int a0 :: .ref 0 :: r) M = bif zz_cat8 r then zz_back (zz_ev tX11_isBehind) 10 L r (fX11_requireObject [.ref 0, .int a0] M) else none) ∧
  (∀ L st M, zz_ev tX11_isBehind 10 L st M = zo_aload 0 11 (zz_ev tX11_isBehind) L st M) ∧
  (∀ L st M, zz_ev tX11_isBehind 11 L st M = zo_iload 1 12 (zz_ev tX11_isBehind) L st M) ∧
  (∀ L st M, zz_ev tX11_isBehind 12 L st M = zo_pushI 5 13 (zz_ev tX11_isBehind) L st M) ∧
  (∀ (L : zzLc) (a0 a1 : Int32) (r : List Value) (M : zzMd), zz_ev tX11_isBehind 13 L (.int a1 :: .int a0 :: .ref 0 :: r) M = bif zz_cat8 r then zz_back (zz_ev tX11_isBehind) 16 L r (fX11_requireKind [.ref 0, .int a0, .int a1] M) else none) ∧
  (∀ L st M, zz_ev tX11_isBehind 16 L st M = zo_aload 0 17 (zz_ev tX11_isBehind) L st M) ∧
  (∀ (L : zzLc) (r : List Value) (M : zzMd), zz_ev tX11_isBehind 17 L (.ref 0 :: r) M = zz_ev tX11_isBehind 20 L (.ref 1 :: r) M) ∧
  (∀ L st M, zz_ev tX11_isBehind 20 L st M = zo_iload 1 21 (zz_ev tX11_isBehind) L st M) ∧
  (∀ L st M, zz_ev tX11_isBehind 21 L st M = zo_iload 2 22 (zz_ev tX11_isBehind) L st M) ∧
  (∀ L st M, zz_ev tX11_isBehind 22 L st M = zo_pushI 30 24 (zz_ev tX11_isBehind) L st M) ∧
  (∀ L st M, zz_ev tX11_isBehind 24 L st M = zo_icmp (fun x y => decide (y ≤ x)) 32 27 (zz_ev tX11_isBehind) L st M) ∧
  (∀ L st M, zz_ev tX11_isBehind 27 L st M = zo_pushI 30 29 (zz_ev tX11_isBehind) L st M) ∧
  (∀ L st M, zz_ev tX11_isBehind 29 L st M = zo_goto 34 (zz_ev tX11_isBehind) L st M) ∧
  (∀ L st M, zz_ev tX11_isBehind 32 L st M = zo_pushI 31 34 (zz_ev tX11_isBehind) L st M) ∧
  (∀ (L : zzLc) (a0 a1 : Int32) (r : List Value) (M : zzMd), zz_ev tX11_isBehind 34 L (.int a1 :: .int a0 :: .ref 1 :: r) M = bif zz_cat8 r then zz_backN (zz_ev tX11_isBehind) 37 L r (fX10_read [.ref 1, .int a0, .int a1] M) else none) ∧
  (∀ L st M, zz_ev tX11_isBehind 37 L st M = zo_istore 3 38 (zz_ev tX11_isBehind) L st M) ∧
  (∀ L st M, zz_ev tX11_isBehind 38 L st M = zo_iload 3 39 (zz_ev tX11_isBehind) L st M) ∧
  (∀ L st M, zz_ev tX11_isBehind 39 L st M = zo_iload 2 40 (zz_ev tX11_isBehind) L st M) ∧
  (∀ L st M, zz_ev tX11_isBehind 40 L st M = zo_pushI 30 42 (zz_ev tX11_isBehind) L st M) ∧
  (∀ L st M, zz_ev tX11_isBehind 42 L st M = zo_iid (fun x y => x - x / y * y) 43 (zz_ev tX11_isBehind) L st M) ∧
  (∀ L st M, zz_ev tX11_isBehind 43 L st M = zo_ii (fun x y => x >>> (y &&& 31)) 44 (zz_ev tX11_isBehind) L st M) ∧
  (∀ L st M, zz_ev tX11_isBehind 44 L st M = zo_pushI 1 45 (zz_ev tX11_isBehind) L st M) ∧
  (∀ L st M, zz_ev tX11_isBehind 45 L st M = zo_ii (fun x y => x &&& y) 46 (zz_ev tX11_isBehind) L st M) ∧
  (∀ L st M, zz_ev tX11_isBehind 46 L st M = zo_pushI 1 47 (zz_ev tX11_isBehind) L st M) ∧
  (∀ L st M, zz_ev tX11_isBehind 47 L st M = zo_icmp (fun x y => decide (¬ x = y)) 54 50 (zz_ev tX11_isBehind) L st M) ∧
  (∀ L st M, zz_ev tX11_isBehind 50 L st M = zo_pushI 1 51 (zz_ev tX11_isBehind) L st M) ∧
  (∀ L st M, zz_ev tX11_isBehind 51 L st M = zo_goto 55 (zz_ev tX11_isBehind) L st M) ∧
  (∀ L st M, zz_ev tX11_isBehind 54 L st M = zo_pushI 0 55 (zz_ev tX11_isBehind) L st M) ∧
  (∀ L st M, zz_ev tX11_isBehind 55 L st M = zo_iret true (zz_ev tX11_isBehind) L st M) :=
  ⟨zz_1 rfl tl_X11_isBehind, zz_1 rfl tl_X11_isBehind, fun L a0 r M => (zz_1 rfl tl_X11_isBehind _ _ _).trans rfl, zz_1 rfl tl_X11_isBehind, zz_1 rfl tl_X11_isBehind, fun L a0 r M => (zz_1 rfl tl_X11_isBehind _ _ _).trans rfl, zz_1 rfl tl_X11_isBehind, zz_1 rfl tl_X11_isBehind, zz_1 rfl tl_X11_isBehind, fun L a0 a1 r M => (zz_1 rfl tl_X11_isBehind _ _ _).trans rfl, zz_1 rfl tl_X11_isBehind, fun L r M => (zz_1 rfl tl_X11_isBehind _ _ _).trans rfl, zz_1 rfl tl_X11_isBehind, zz_1 rfl tl_X11_isBehind, zz_1 rfl tl_X11_isBehind, zz_1 rfl tl_X11_isBehind, zz_1 rfl tl_X11_isBehind, zz_1 rfl tl_X11_isBehind, zz_1 rfl tl_X11_isBehind, fun L a0 a1 r M => (zz_1 rfl tl_X11_isBehind _ _ _).trans rfl, zz_1 rfl tl_X11_isBehind, zz_1 rfl tl_X11_isBehind, zz_1 rfl tl_X11_isBehind, zz_1 rfl tl_X11_isBehind, zz_1 rfl tl_X11_isBehind, zz_1 rfl tl_X11_isBehind, zz_1 rfl tl_X11_isBehind, zz_1 rfl tl_X11_isBehind, zz_1 rfl tl_X11_isBehind, zz_1 rfl tl_X11_isBehind, zz_1 rfl tl_X11_isBehind, zz_1 rfl tl_X11_isBehind, zz_1 rfl tl_X11_isBehind, zz_1 rfl tl_X11_isBehind⟩
set_option maxRecDepth 100000 in
theorem s_X11_isBehind (a0 a1 : Int32) (v : Nat) (M : zzMd) : fX11_isBehind [.ref v, .int a0, .int a1] M = zz_ev tX11_isBehind 0 [some (.ref v), some (.int a0), some (.int a1), none] [] M := rfl
set_option maxRecDepth 100000 in
theorem e_X11_running : (∀ L st M, zz_ev tX11_running 0 L st M = zo_aload 0 1 (zz_ev tX11_running) L st M) ∧
  (∀ L st M, zz_ev tX11_running 1 L st M = zo_iload 1 2 (zz_ev tX11_running) L st M) ∧
  (∀ (L : zzLc) (a0 : Int32) (r : List Value) (M : zzMd), zz_ev tX11_running 2 L (.int a0 :: .ref 0 :: r) M = bif zz_cat8 r then zz_back (zz_ev tX11_running) 5 L r (fX11_requireObject [.ref 0, .int a0] M) else none) ∧
  (∀ L st M, zz_ev tX11_running 5 L st M = zo_aload 0 6 (zz_ev tX11_running) L st M) ∧
  (∀ L st M, zz_ev tX11_running 6 L st M = zo_iload 1 7 (zz_ev tX11_running) L st M) ∧
  (∀ L st M, zz_ev tX11_running 7 L st M = zo_pushI 0 8 (zz_ev tX11_running) L st M) ∧
  (∀ (L : zzLc) (a0 a1 : Int32) (r : List Value) (M : zzMd), zz_ev tX11_running 8 L (.int a1 :: .int a0 :: .ref 0 :: r) M = bif zz_cat8 r then zz_back (zz_ev tX11_running) 11 L r (fX11_requireKind [.ref 0, .int a0, .int a1] M) else none) ∧
  (∀ L st M, zz_ev tX11_running 11 L st M = zo_iload 2 12 (zz_ev tX11_running) L st M) ∧
  (∀ L st M, zz_ev tX11_running 12 L st M = zo_if (fun x => decide (x = 0)) 33 15 (zz_ev tX11_running) L st M) ∧
  (∀ L st M, zz_ev tX11_running 15 L st M = zo_aload 0 16 (zz_ev tX11_running) L st M) ∧
  (∀ (L : zzLc) (r : List Value) (M : zzMd), zz_ev tX11_running 16 L (.ref 0 :: r) M = zz_ev tX11_running 19 L (.ref 1 :: r) M) ∧
  (∀ L st M, zz_ev tX11_running 19 L st M = zo_aload 0 20 (zz_ev tX11_running) L st M) ∧
  (∀ (L : zzLc) (r : List Value) (M : zzMd), zz_ev tX11_running 20 L (.ref 0 :: r) M = zz_ev tX11_running 23 L (.ref 1 :: r) M) ∧
  (∀ L st M, zz_ev tX11_running 23 L st M = zo_iload 1 24 (zz_ev tX11_running) L st M) ∧
  (∀ (L : zzLc) (a0 : Int32) (r : List Value) (M : zzMd), zz_ev tX11_running 24 L (.int a0 :: .ref 1 :: r) M = bif zz_cat8 r then zz_backN (zz_ev tX11_running) 27 L r (fX10_newSetOf [.ref 1, .int a0] M) else none) ∧
  (∀ (L : zzLc) (a0 : Int32) (r : List Value) (M : zzMd), zz_ev tX11_running 27 L (.int a0 :: .ref 1 :: r) M = bif zz_cat8 r then zz_backN (zz_ev tX11_running) 30 L r (fX10_countRunning [.ref 1, .int a0] M) else none) ∧
  (∀ L st M, zz_ev tX11_running 30 L st M = zo_goto 41 (zz_ev tX11_running) L st M) ∧
  (∀ L st M, zz_ev tX11_running 33 L st M = zo_aload 0 34 (zz_ev tX11_running) L st M) ∧
  (∀ (L : zzLc) (r : List Value) (M : zzMd), zz_ev tX11_running 34 L (.ref 0 :: r) M = zz_ev tX11_running 37 L (.ref 1 :: r) M) ∧
  (∀ L st M, zz_ev tX11_running 37 L st M = zo_iload 1 38 (zz_ev tX11_running) L st M) ∧
  (∀ (L : zzLc) (a0 : Int32) (r : List Value) (M : zzMd), zz_ev tX11_running 38 L (.int a0 :: .ref 1 :: r) M = bif zz_cat8 r then zz_backN (zz_ev tX11_running) 41 L r (fX10_countRunningOfAll [.ref 1, .int a0] M) else none) ∧
  (∀ L st M, zz_ev tX11_running 41 L st M = zo_iret false (zz_ev tX11_running) L st M) :=
  ⟨zz_1 rfl tl_X11_running, zz_1 rfl tl_X11_running, fun L a0 r M => (zz_1 rfl tl_X11_running _ _ _).trans rfl, zz_1 rfl tl_X11_running, zz_1 rfl tl_X11_running, zz_1 rfl tl_X11_running, fun L a0 a1 r M => (zz_1 rfl tl_X11_running _ _ _).trans rfl, zz_1 rfl tl_X11_running, zz_1 rfl tl_X11_running, zz_1 rfl tl_X11_running, fun L r M => (zz_1 rfl tl_X11_running _ _ _).trans rfl, zz_1 rfl tl_X11_running, fun L r M => (zz_1 rfl tl_X11_running _ _ _).trans rfl, zz_1 rfl tl_X11_running, fun L a0 r M => (zz_1 rfl tl_X11_running _ _ _).trans rfl, fun L a0 r M => (zz_1 rfl tl_X11_running _ _ _).trans rfl, zz_1 rfl tl_X11_running, zz_1 rfl tl_X11_running, fun L r M => (zz_1 rfl tl_X11_running _ _ _).trans rfl, zz_1 rfl tl_X11_running, fun L a0 r M => (zz_1 rfl tl_X11_running _ _ _).trans rfl, zz_1 rfl tl_X11_running⟩
set_option maxRecDepth 100000 in
theorem s_X11_running (a0 a1 : Int32) (v : Nat) (M : zzMd) : fX11_running [.ref v, .int a0, .int a1] M = zz_ev tX11_running 0 [some (.ref v), some (.int a0), some (.int a1)] [] M := rfl
set_option maxRecDepth 100000 in
theorem e_X11_objectOf : (∀ L st M, zz_ev tX11_objectOf 0 L st M = zo_iload 1 1 (zz_ev tX11_objectOf) L st M) ∧
  (∀ L st M, zz_ev tX11_objectOf 1 L st M = zo_pushI 1 2 (zz_ev tX11_objectOf) L st M) ∧
  (∀ L st M, zz_ev tX11_objectOf 2 L st M = zo_icmp (fun x y => decide (x < y)) 16 5 (zz_ev tX11_objectOf) L st M) ∧
  (∀ L st M, zz_ev tX11_objectOf 5 L st M = zo_iload 1 6 (zz_ev tX11_objectOf) L st M) ∧
  (∀ L st M, zz_ev tX11_objectOf 6 L st M = zo_aload 0 7 (zz_ev tX11_objectOf) L st M) ∧
  (∀ (L : zzLc) (r : List Value) (M : zzMd), zz_ev tX11_objectOf 7 L (.ref 0 :: r) M = zz_ev tX11_objectOf 10 L (.ref 1 :: r) M) ∧
  (∀ (L : zzLc) (r : List Value) (M : zzMd), zz_ev tX11_objectOf 10 L (.ref 1 :: r) M = zz_ev tX11_objectOf 13 L (.int (M.1 1 3) :: r) M) ∧
  (∀ L st M, zz_ev tX11_objectOf 13 L st M = zo_icmp (fun x y => decide (x ≤ y)) 27 16 (zz_ev tX11_objectOf) L st M) ∧
  (∀ L st M, zz_ev tX11_objectOf 16 L st M = zo_throw 2 (zz_ev tX11_objectOf) L st M) ∧
  (∀ L st M, zz_ev tX11_objectOf 27 L st M = zo_aload 0 28 (zz_ev tX11_objectOf) L st M) ∧
  (∀ (L : zzLc) (r : List Value) (M : zzMd), zz_ev tX11_objectOf 28 L (.ref 0 :: r) M = zz_ev tX11_objectOf 31 L (.ref 1 :: r) M) ∧
  (∀ L st M, zz_ev tX11_objectOf 31 L st M = zo_iload 1 32 (zz_ev tX11_objectOf) L st M) ∧
  (∀ (L : zzLc) (a0 : Int32) (r : List Value) (M : zzMd), zz_ev tX11_objectOf 32 L (.int a0 :: .ref 1 :: r) M = bif zz_cat8 r then zz_backN (zz_ev tX11_objectOf) 35 L r (fX10_objectAt [.ref 1, .int a0] M) else none) ∧
  (∀ L st M, zz_ev tX11_objectOf 35 L st M = zo_iret false (zz_ev tX11_objectOf) L st M) :=
  ⟨zz_1 rfl tl_X11_objectOf, zz_1 rfl tl_X11_objectOf, zz_1 rfl tl_X11_objectOf, zz_1 rfl tl_X11_objectOf, zz_1 rfl tl_X11_objectOf, fun L r M => (zz_1 rfl tl_X11_objectOf _ _ _).trans rfl, fun L r M => (zz_1 rfl tl_X11_objectOf _ _ _).trans rfl, zz_1 rfl tl_X11_objectOf, zz_1 rfl tl_X11_objectOf, zz_1 rfl tl_X11_objectOf, fun L r M => (zz_1 rfl tl_X11_objectOf _ _ _).trans rfl, zz_1 rfl tl_X11_objectOf, fun L a0 r M => (zz_1 rfl tl_X11_objectOf _ _ _).trans rfl, zz_1 rfl tl_X11_objectOf⟩
set_option maxRecDepth 100000 in
theorem s_X11_objectOf (a0 : Int32) (v : Nat) (M : zzMd) : fX11_objectOf [.ref v, .int a0] M = zz_ev tX11_objectOf 0 [some (.ref v), some (.int a0)] [] M := rfl
end

section
/-! the class's answers, in words of its memory: what only asks -/
def kV (f : zzFn) (As : List Value) (A : zzMd) (v : Int32) : Prop := lz_g f As A = some (.inl (some (.int v)), A)
def kX (f : zzFn) (As : List Value) (A : zzMd) (e : Nat) : Prop := lz_g f As A = some (.inr e, A)
def kW (f : zzFn) (As : List Value) (A : zzMd) (v : Int32) (A' : zzMd) : Prop := lz_g f As A = some (.inl (some (.int v)), A')
theorem kV_of {f : zzFn} {As : List Value} {A : zzMd} {v : Int32} (hA : nz A = A) (h : ∀ M, nz M = A → f As M = some (.inl (some (.int v)), M)) : kV f As A v := lz_g_of hA fun M hM => ⟨M, h M hM, hM⟩
theorem kX_of {f : zzFn} {As : List Value} {A : zzMd} {e : Nat} (hA : nz A = A) (h : ∀ M, nz M = A → ∃ M', f As M = some (.inr e, M') ∧ nz M' = A) : kX f As A e := lz_g_of hA h
theorem kX_same {f : zzFn} {As : List Value} {A : zzMd} {e : Nat} (hA : nz A = A) (h : ∀ M, nz M = A → f As M = some (.inr e, M)) : kX f As A e := kX_of hA fun M hM => ⟨M, h M hM, hM⟩
theorem kW_of {f : zzFn} {As : List Value} {A A' : zzMd} {v : Int32} (hA : nz A = A) (h : ∀ M, nz M = A → ∃ M', f As M = some (.inl (some (.int v)), M') ∧ nz M' = A') : kW f As A v A' := lz_g_of hA h
section
variable {A M R : zzMd}
theorem h_req (H : Rel (nz M) R) {o : Nat} (ho : o < nv M 1) : fX11_requireObject [.ref 0, .int (zn o)] M = some (.inl none, M) := by
  obtain ⟨W, -, h12, hn, h5⟩ := h_nv H
  rw [s_X11_requireObject]
  have h1 : (zn o < 0) = False := zn_lt0 (by omega)
  have h3 : (zn o < zn (nv M 1)) = True := zn_lt (a := o) (b := nv M 1) (by omega) (by omega) ▸ eq_true (by omega)
  (simp only [e_X11_requireObject, zo_iload, zo_lload, zo_aload, zo_istore, zo_lstore, zo_astore, zo_iinc, zo_pushI, zo_pushL, zo_null, zo_ii, zo_iid, zo_ll, zo_li, zo_lcmp, zo_i2l, zo_l2i, zo_dup, zo_dup2, zo_pop, zo_goto, zo_if, zo_icmp, zo_ifnull, zo_gets, zo_mm, zo_throw, zo_ret, zo_aret, zo_lret, q_iret_f, q_iret_1, q_iret_0, q_iret_b, q_c8_0, q_c8_1, q_c8_2, q_c8_3, q_c8_4, q_set_0, q_set_1i, q_set_1r, q_set_1n, q_set_1N, q_set_s, q_set_1j, q_bk_v, q_bk_n, q_if, zb_ite, cond_true, cond_false, List.getElem?_cons_zero, List.getElem?_cons_succ, Nat.reduceAdd, q_bx_v, q_bx_n, q_bx_x, h1, h12, h3, if_true, if_false, zb_eq0, zb_eq1, zn_1, not_true_eq_false, not_false_eq_true, ite_true, ite_false, if_true, if_false, q_iret_0, q_iret_1, decide_true, decide_false, decide_not, zb_t, zb_f, z10, z01, cond_true, cond_false, Bool.and_true, Bool.true_and, Bool.and_false, Bool.false_and, Bool.not_true, Bool.not_false, true_and, and_true, false_and, and_false, true_or, or_true, false_or, or_false, Bool.true_eq_false, Bool.false_eq_true, eq_self, reduceCtorEq, Bool.or_true, Bool.true_or, Bool.or_false, Bool.false_or])
theorem h_reqX (H : Rel (nz M) R) {x : Int32} (hx : x < 0 ∨ zn (nv M 1) ≤ x) : fX11_requireObject [.ref 0, .int x] M = some (.inr 2, M) := by
  obtain ⟨W, -, h12, hn, h5⟩ := h_nv H
  rw [s_X11_requireObject]
  by_cases h : x < 0
  · (simp only [e_X11_requireObject, zo_iload, zo_lload, zo_aload, zo_istore, zo_lstore, zo_astore, zo_iinc, zo_pushI, zo_pushL, zo_null, zo_ii, zo_iid, zo_ll, zo_li, zo_lcmp, zo_i2l, zo_l2i, zo_dup, zo_dup2, zo_pop, zo_goto, zo_if, zo_icmp, zo_ifnull, zo_gets, zo_mm, zo_throw, zo_ret, zo_aret, zo_lret, q_iret_f, q_iret_1, q_iret_0, q_iret_b, q_c8_0, q_c8_1, q_c8_2, q_c8_3, q_c8_4, q_set_0, q_set_1i, q_set_1r, q_set_1n, q_set_1N, q_set_s, q_set_1j, q_bk_v, q_bk_n, q_if, zb_ite, cond_true, cond_false, List.getElem?_cons_zero, List.getElem?_cons_succ, Nat.reduceAdd, q_bx_v, q_bx_n, q_bx_x, h, if_true, if_false, zb_eq0, zb_eq1, zn_1, not_true_eq_false, not_false_eq_true, ite_true, ite_false, if_true, if_false, q_iret_0, q_iret_1, decide_true, decide_false, decide_not, zb_t, zb_f, z10, z01, cond_true, cond_false, Bool.and_true, Bool.true_and, Bool.and_false, Bool.false_and, Bool.not_true, Bool.not_false, true_and, and_true, false_and, and_false, true_or, or_true, false_or, or_false, Bool.true_eq_false, Bool.false_eq_true, eq_self, reduceCtorEq, Bool.or_true, Bool.true_or, Bool.or_false, Bool.false_or])
  · have h3 : (x < zn (nv M 1)) = False := eq_false (Int32.not_lt.mpr (hx.resolve_left h))
    (simp only [e_X11_requireObject, zo_iload, zo_lload, zo_aload, zo_istore, zo_lstore, zo_astore, zo_iinc, zo_pushI, zo_pushL, zo_null, zo_ii, zo_iid, zo_ll, zo_li, zo_lcmp, zo_i2l, zo_l2i, zo_dup, zo_dup2, zo_pop, zo_goto, zo_if, zo_icmp, zo_ifnull, zo_gets, zo_mm, zo_throw, zo_ret, zo_aret, zo_lret, q_iret_f, q_iret_1, q_iret_0, q_iret_b, q_c8_0, q_c8_1, q_c8_2, q_c8_3, q_c8_4, q_set_0, q_set_1i, q_set_1r, q_set_1n, q_set_1N, q_set_s, q_set_1j, q_bk_v, q_bk_n, q_if, zb_ite, cond_true, cond_false, List.getElem?_cons_zero, List.getElem?_cons_succ, Nat.reduceAdd, q_bx_v, q_bx_n, q_bx_x, h, h12, h3, if_true, if_false, zb_eq0, zb_eq1, zn_1, not_true_eq_false, not_false_eq_true, ite_true, ite_false, if_true, if_false, q_iret_0, q_iret_1, decide_true, decide_false, decide_not, zb_t, zb_f, z10, z01, cond_true, cond_false, Bool.and_true, Bool.true_and, Bool.and_false, Bool.false_and, Bool.not_true, Bool.not_false, true_and, and_true, false_and, and_false, true_or, or_true, false_or, or_false, Bool.true_eq_false, Bool.false_eq_true, eq_self, reduceCtorEq, Bool.or_true, Bool.true_or, Bool.or_false, Bool.false_or])
theorem h_kd (H : Rel (nz M) R) {o : Nat} (ho : o < nv M 1) : fX10_read [.ref 1, .int (zn o), .int 23] M = some (.inl (some (.int (row (nz M) o 23))), M) := h_read H ho (s := 23) (by decide)
theorem h_rK (H : Rel (nz M) R) {o : Nat} (ho : o < nv M 1) {k : Int32} (d : row (nz M) o 23 = k) : fX11_requireKind [.ref 0, .int (zn o), .int k] M = some (.inl none, M) := by
  rw [sp_reqK (h_kd H ho), decide_eq_true d]; rfl
theorem h_rKX (H : Rel (nz M) R) {o : Nat} (ho : o < nv M 1) {k : Int32} (d : ¬ row (nz M) o 23 = k) : fX11_requireKind [.ref 0, .int (zn o), .int k] M = some (.inr 0, M) := by
  rw [sp_reqK (h_kd H ho), decide_eq_false d]; rfl
theorem h_rF (H : Rel (nz M) R) {o : Nat} (ho : o < nv M 1) {f : Int32} (d : hasF (row (nz M) o 23) f = true) : fX11_requireField [.ref 0, .int (zn o), .int f] M = some (.inl none, M) := by
  rw [sp_reqF (h_kd H ho), d]; rfl
theorem h_rFX (H : Rel (nz M) R) {o : Nat} (ho : o < nv M 1) {f : Int32} (d : hasF (row (nz M) o 23) f = false) : fX11_requireField [.ref 0, .int (zn o), .int f] M = some (.inr 0, M) := by
  rw [sp_reqF (h_kd H ho), d]; rfl
theorem g_objects (hA : nz A = A) (H : Rel A R) : kV fX11_objects [.ref 0] A (zn (nv A 1)) := kV_of hA fun M hM => by
  subst hM
  obtain ⟨W, -, h12, hn, h5⟩ := h_nv H
  rw [s_X11_objects]
  have e : nv (nz M) 1 = nv M 1 := rfl
  rw [e]
  (simp only [e_X11_objects, zo_iload, zo_lload, zo_aload, zo_istore, zo_lstore, zo_astore, zo_iinc, zo_pushI, zo_pushL, zo_null, zo_ii, zo_iid, zo_ll, zo_li, zo_lcmp, zo_i2l, zo_l2i, zo_dup, zo_dup2, zo_pop, zo_goto, zo_if, zo_icmp, zo_ifnull, zo_gets, zo_mm, zo_throw, zo_ret, zo_aret, zo_lret, q_iret_f, q_iret_1, q_iret_0, q_iret_b, q_c8_0, q_c8_1, q_c8_2, q_c8_3, q_c8_4, q_set_0, q_set_1i, q_set_1r, q_set_1n, q_set_1N, q_set_s, q_set_1j, q_bk_v, q_bk_n, q_if, zb_ite, cond_true, cond_false, List.getElem?_cons_zero, List.getElem?_cons_succ, Nat.reduceAdd, q_bx_v, q_bx_n, q_bx_x, h12, if_true, if_false, zb_eq0, zb_eq1, zn_1, not_true_eq_false, not_false_eq_true, ite_true, ite_false, if_true, if_false, q_iret_0, q_iret_1, decide_true, decide_false, decide_not, zb_t, zb_f, z10, z01, cond_true, cond_false, Bool.and_true, Bool.true_and, Bool.and_false, Bool.false_and, Bool.not_true, Bool.not_false, true_and, and_true, false_and, and_false, true_or, or_true, false_or, or_false, Bool.true_eq_false, Bool.false_eq_true, eq_self, reduceCtorEq, Bool.or_true, Bool.true_or, Bool.or_false, Bool.false_or])
theorem g_version (hA : nz A = A) (H : Rel A R) : kV fX11_version [.ref 0] A (zn (ve A 1)) := kV_of hA fun M hM => by
  subst hM
  obtain ⟨h13, -, h14⟩ := h_ve H
  rw [s_X11_version]
  have e : ve (nz M) 1 = ve M 1 := rfl
  rw [e]
  (simp only [e_X11_version, zo_iload, zo_lload, zo_aload, zo_istore, zo_lstore, zo_astore, zo_iinc, zo_pushI, zo_pushL, zo_null, zo_ii, zo_iid, zo_ll, zo_li, zo_lcmp, zo_i2l, zo_l2i, zo_dup, zo_dup2, zo_pop, zo_goto, zo_if, zo_icmp, zo_ifnull, zo_gets, zo_mm, zo_throw, zo_ret, zo_aret, zo_lret, q_iret_f, q_iret_1, q_iret_0, q_iret_b, q_c8_0, q_c8_1, q_c8_2, q_c8_3, q_c8_4, q_set_0, q_set_1i, q_set_1r, q_set_1n, q_set_1N, q_set_s, q_set_1j, q_bk_v, q_bk_n, q_if, zb_ite, cond_true, cond_false, List.getElem?_cons_zero, List.getElem?_cons_succ, Nat.reduceAdd, q_bx_v, q_bx_n, q_bx_x, h13, if_true, if_false, zb_eq0, zb_eq1, zn_1, not_true_eq_false, not_false_eq_true, ite_true, ite_false, if_true, if_false, q_iret_0, q_iret_1, decide_true, decide_false, decide_not, zb_t, zb_f, z10, z01, cond_true, cond_false, Bool.and_true, Bool.true_and, Bool.and_false, Bool.false_and, Bool.not_true, Bool.not_false, true_and, and_true, false_and, and_false, true_or, or_true, false_or, or_false, Bool.true_eq_false, Bool.false_eq_true, eq_self, reduceCtorEq, Bool.or_true, Bool.true_or, Bool.or_false, Bool.false_or])
theorem g_kindOf (hA : nz A = A) (H : Rel A R) {o : Nat} (ho : o < nv A 1) : kV fX11_kindOf [.ref 0, .int (zn o)] A (row A o 23) := kV_of hA fun M hM => by
  subst hM
  have h1 := h_req H ho
  have w := h_read H ho (s := 23) (by decide)
  have w' : fX10_read [.ref 1, .int (zn o), .int 23] M = _ := w
  rw [s_X11_kindOf]
  (simp only [e_X11_kindOf, zo_iload, zo_lload, zo_aload, zo_istore, zo_lstore, zo_astore, zo_iinc, zo_pushI, zo_pushL, zo_null, zo_ii, zo_iid, zo_ll, zo_li, zo_lcmp, zo_i2l, zo_l2i, zo_dup, zo_dup2, zo_pop, zo_goto, zo_if, zo_icmp, zo_ifnull, zo_gets, zo_mm, zo_throw, zo_ret, zo_aret, zo_lret, q_iret_f, q_iret_1, q_iret_0, q_iret_b, q_c8_0, q_c8_1, q_c8_2, q_c8_3, q_c8_4, q_set_0, q_set_1i, q_set_1r, q_set_1n, q_set_1N, q_set_s, q_set_1j, q_bk_v, q_bk_n, q_if, zb_ite, cond_true, cond_false, List.getElem?_cons_zero, List.getElem?_cons_succ, Nat.reduceAdd, q_bx_v, q_bx_n, q_bx_x, h1, w', if_true, if_false, zb_eq0, zb_eq1, zn_1, not_true_eq_false, not_false_eq_true, ite_true, ite_false, if_true, if_false, q_iret_0, q_iret_1, decide_true, decide_false, decide_not, zb_t, zb_f, z10, z01, cond_true, cond_false, Bool.and_true, Bool.true_and, Bool.and_false, Bool.false_and, Bool.not_true, Bool.not_false, true_and, and_true, false_and, and_false, true_or, or_true, false_or, or_false, Bool.true_eq_false, Bool.false_eq_true, eq_self, reduceCtorEq, Bool.or_true, Bool.true_or, Bool.or_false, Bool.false_or])
theorem g_goingOf (hA : nz A = A) (H : Rel A R) {o : Nat} (ho : o < nv A 1) : kV fX11_goingOf [.ref 0, .int (zn o)] A (row A o 25) := kV_of hA fun M hM => by
  subst hM
  have h1 := h_req H ho
  have w' : fX10_read [.ref 1, .int (zn o), .int 25] M = _ := h_read H ho (s := 25) (by decide)
  rw [s_X11_goingOf]
  (simp only [e_X11_goingOf, zo_iload, zo_lload, zo_aload, zo_istore, zo_lstore, zo_astore, zo_iinc, zo_pushI, zo_pushL, zo_null, zo_ii, zo_iid, zo_ll, zo_li, zo_lcmp, zo_i2l, zo_l2i, zo_dup, zo_dup2, zo_pop, zo_goto, zo_if, zo_icmp, zo_ifnull, zo_gets, zo_mm, zo_throw, zo_ret, zo_aret, zo_lret, q_iret_f, q_iret_1, q_iret_0, q_iret_b, q_c8_0, q_c8_1, q_c8_2, q_c8_3, q_c8_4, q_set_0, q_set_1i, q_set_1r, q_set_1n, q_set_1N, q_set_s, q_set_1j, q_bk_v, q_bk_n, q_if, zb_ite, cond_true, cond_false, List.getElem?_cons_zero, List.getElem?_cons_succ, Nat.reduceAdd, q_bx_v, q_bx_n, q_bx_x, h1, w', if_true, if_false, zb_eq0, zb_eq1, zn_1, not_true_eq_false, not_false_eq_true, ite_true, ite_false, if_true, if_false, q_iret_0, q_iret_1, decide_true, decide_false, decide_not, zb_t, zb_f, z10, z01, cond_true, cond_false, Bool.and_true, Bool.true_and, Bool.and_false, Bool.false_and, Bool.not_true, Bool.not_false, true_and, and_true, false_and, and_false, true_or, or_true, false_or, or_false, Bool.true_eq_false, Bool.false_eq_true, eq_self, reduceCtorEq, Bool.or_true, Bool.true_or, Bool.or_false, Bool.false_or])
theorem g_ownerOf (hA : nz A = A) (H : Rel A R) {o : Nat} (ho : o < nv A 1) : kV fX11_ownerOf [.ref 0, .int (zn o)] A (row A o 24) := kV_of hA fun M hM => by
  subst hM
  have h1 := h_req H ho
  have w' : fX10_read [.ref 1, .int (zn o), .int 24] M = _ := h_read H ho (s := 24) (by decide)
  rw [s_X11_ownerOf]
  (simp only [e_X11_ownerOf, zo_iload, zo_lload, zo_aload, zo_istore, zo_lstore, zo_astore, zo_iinc, zo_pushI, zo_pushL, zo_null, zo_ii, zo_iid, zo_ll, zo_li, zo_lcmp, zo_i2l, zo_l2i, zo_dup, zo_dup2, zo_pop, zo_goto, zo_if, zo_icmp, zo_ifnull, zo_gets, zo_mm, zo_throw, zo_ret, zo_aret, zo_lret, q_iret_f, q_iret_1, q_iret_0, q_iret_b, q_c8_0, q_c8_1, q_c8_2, q_c8_3, q_c8_4, q_set_0, q_set_1i, q_set_1r, q_set_1n, q_set_1N, q_set_s, q_set_1j, q_bk_v, q_bk_n, q_if, zb_ite, cond_true, cond_false, List.getElem?_cons_zero, List.getElem?_cons_succ, Nat.reduceAdd, q_bx_v, q_bx_n, q_bx_x, h1, w', if_true, if_false, zb_eq0, zb_eq1, zn_1, not_true_eq_false, not_false_eq_true, ite_true, ite_false, if_true, if_false, q_iret_0, q_iret_1, decide_true, decide_false, decide_not, zb_t, zb_f, z10, z01, cond_true, cond_false, Bool.and_true, Bool.true_and, Bool.and_false, Bool.false_and, Bool.not_true, Bool.not_false, true_and, and_true, false_and, and_false, true_or, or_true, false_or, or_false, Bool.true_eq_false, Bool.false_eq_true, eq_self, reduceCtorEq, Bool.or_true, Bool.true_or, Bool.or_false, Bool.false_or])
theorem g_versionOf (hA : nz A = A) (H : Rel A R) {o : Nat} (ho : o < nv A 1) : kV fX11_versionOf [.ref 0, .int (zn o)] A (A.1 15 o) := kV_of hA fun M hM => by
  subst hM
  have h1 := h_req H ho
  have h60 := lt_n60 H.1 (o := o) ho
  have w' := sp_latS (h_nv H).1 h60
  rw [s_X11_versionOf]
  rw [show (nz M).1 15 o = M.1 15 o from rfl]
  (simp only [e_X11_versionOf, zo_iload, zo_lload, zo_aload, zo_istore, zo_lstore, zo_astore, zo_iinc, zo_pushI, zo_pushL, zo_null, zo_ii, zo_iid, zo_ll, zo_li, zo_lcmp, zo_i2l, zo_l2i, zo_dup, zo_dup2, zo_pop, zo_goto, zo_if, zo_icmp, zo_ifnull, zo_gets, zo_mm, zo_throw, zo_ret, zo_aret, zo_lret, q_iret_f, q_iret_1, q_iret_0, q_iret_b, q_c8_0, q_c8_1, q_c8_2, q_c8_3, q_c8_4, q_set_0, q_set_1i, q_set_1r, q_set_1n, q_set_1N, q_set_s, q_set_1j, q_bk_v, q_bk_n, q_if, zb_ite, cond_true, cond_false, List.getElem?_cons_zero, List.getElem?_cons_succ, Nat.reduceAdd, q_bx_v, q_bx_n, q_bx_x, h1, w', if_true, if_false, zb_eq0, zb_eq1, zn_1, not_true_eq_false, not_false_eq_true, ite_true, ite_false, if_true, if_false, q_iret_0, q_iret_1, decide_true, decide_false, decide_not, zb_t, zb_f, z10, z01, cond_true, cond_false, Bool.and_true, Bool.true_and, Bool.and_false, Bool.false_and, Bool.not_true, Bool.not_false, true_and, and_true, false_and, and_false, true_or, or_true, false_or, or_false, Bool.true_eq_false, Bool.false_eq_true, eq_self, reduceCtorEq, Bool.or_true, Bool.true_or, Bool.or_false, Bool.false_or])
theorem g_field (hA : nz A = A) (H : Rel A R) {o j : Nat} (ho : o < nv A 1) (hF : hasF (row A o 23) (zn j) = true) (hj : j < 11) : kV fX11_field [.ref 0, .int (zn o), .int (zn j)] A (row A o j) := kV_of hA fun M hM => by
  subst hM
  have h1 := h_req H ho
  have h2 := h_rF H ho hF
  have w' := h_read H ho (s := j) (by omega)
  rw [s_X11_field]
  (simp only [e_X11_field, zo_iload, zo_lload, zo_aload, zo_istore, zo_lstore, zo_astore, zo_iinc, zo_pushI, zo_pushL, zo_null, zo_ii, zo_iid, zo_ll, zo_li, zo_lcmp, zo_i2l, zo_l2i, zo_dup, zo_dup2, zo_pop, zo_goto, zo_if, zo_icmp, zo_ifnull, zo_gets, zo_mm, zo_throw, zo_ret, zo_aret, zo_lret, q_iret_f, q_iret_1, q_iret_0, q_iret_b, q_c8_0, q_c8_1, q_c8_2, q_c8_3, q_c8_4, q_set_0, q_set_1i, q_set_1r, q_set_1n, q_set_1N, q_set_s, q_set_1j, q_bk_v, q_bk_n, q_if, zb_ite, cond_true, cond_false, List.getElem?_cons_zero, List.getElem?_cons_succ, Nat.reduceAdd, q_bx_v, q_bx_n, q_bx_x, h1, h2, w', if_true, if_false, zb_eq0, zb_eq1, zn_1, not_true_eq_false, not_false_eq_true, ite_true, ite_false, if_true, if_false, q_iret_0, q_iret_1, decide_true, decide_false, decide_not, zb_t, zb_f, z10, z01, cond_true, cond_false, Bool.and_true, Bool.true_and, Bool.and_false, Bool.false_and, Bool.not_true, Bool.not_false, true_and, and_true, false_and, and_false, true_or, or_true, false_or, or_false, Bool.true_eq_false, Bool.false_eq_true, eq_self, reduceCtorEq, Bool.or_true, Bool.true_or, Bool.or_false, Bool.false_or])
theorem g_managerOf (hA : nz A = A) (H : Rel A R) {o j : Nat} (ho : o < nv A 1) (hF : hasF (row A o 23) (zn j) = true) (hj : j < 11) : kV fX11_managerOf [.ref 0, .int (zn o), .int (zn j)] A (row A o (11 + j)) := kV_of hA fun M hM => by
  subst hM
  have h1 := h_req H ho
  have h2 := h_rF H ho hF
  have w' := h_read H ho (s := 11 + j) (by omega)
  have e11 : (11 : Int32) + zn j = zn (11 + j) := zn_add 11 j
  rw [s_X11_managerOf]
  (simp only [e_X11_managerOf, zo_iload, zo_lload, zo_aload, zo_istore, zo_lstore, zo_astore, zo_iinc, zo_pushI, zo_pushL, zo_null, zo_ii, zo_iid, zo_ll, zo_li, zo_lcmp, zo_i2l, zo_l2i, zo_dup, zo_dup2, zo_pop, zo_goto, zo_if, zo_icmp, zo_ifnull, zo_gets, zo_mm, zo_throw, zo_ret, zo_aret, zo_lret, q_iret_f, q_iret_1, q_iret_0, q_iret_b, q_c8_0, q_c8_1, q_c8_2, q_c8_3, q_c8_4, q_set_0, q_set_1i, q_set_1r, q_set_1n, q_set_1N, q_set_s, q_set_1j, q_bk_v, q_bk_n, q_if, zb_ite, cond_true, cond_false, List.getElem?_cons_zero, List.getElem?_cons_succ, Nat.reduceAdd, q_bx_v, q_bx_n, q_bx_x, h1, h2, e11, w', if_true, if_false, zb_eq0, zb_eq1, zn_1, not_true_eq_false, not_false_eq_true, ite_true, ite_false, if_true, if_false, q_iret_0, q_iret_1, decide_true, decide_false, decide_not, zb_t, zb_f, z10, z01, cond_true, cond_false, Bool.and_true, Bool.true_and, Bool.and_false, Bool.false_and, Bool.not_true, Bool.not_false, true_and, and_true, false_and, and_false, true_or, or_true, false_or, or_false, Bool.true_eq_false, Bool.false_eq_true, eq_self, reduceCtorEq, Bool.or_true, Bool.true_or, Bool.or_false, Bool.false_or])
theorem x_field (hA : nz A = A) (H : Rel A R) {o : Nat} {f : Int32} (ho : o < nv A 1) (hF : hasF (row A o 23) f = false) : kX fX11_field [.ref 0, .int (zn o), .int f] A 0 := kX_same hA fun M hM => by
  subst hM
  have h1 := h_req H ho
  have h2 := h_rFX H ho hF
  rw [s_X11_field]
  (simp only [e_X11_field, zo_iload, zo_lload, zo_aload, zo_istore, zo_lstore, zo_astore, zo_iinc, zo_pushI, zo_pushL, zo_null, zo_ii, zo_iid, zo_ll, zo_li, zo_lcmp, zo_i2l, zo_l2i, zo_dup, zo_dup2, zo_pop, zo_goto, zo_if, zo_icmp, zo_ifnull, zo_gets, zo_mm, zo_throw, zo_ret, zo_aret, zo_lret, q_iret_f, q_iret_1, q_iret_0, q_iret_b, q_c8_0, q_c8_1, q_c8_2, q_c8_3, q_c8_4, q_set_0, q_set_1i, q_set_1r, q_set_1n, q_set_1N, q_set_s, q_set_1j, q_bk_v, q_bk_n, q_if, zb_ite, cond_true, cond_false, List.getElem?_cons_zero, List.getElem?_cons_succ, Nat.reduceAdd, q_bx_v, q_bx_n, q_bx_x, h1, h2, if_true, if_false, zb_eq0, zb_eq1, zn_1, not_true_eq_false, not_false_eq_true, ite_true, ite_false, if_true, if_false, q_iret_0, q_iret_1, decide_true, decide_false, decide_not, zb_t, zb_f, z10, z01, cond_true, cond_false, Bool.and_true, Bool.true_and, Bool.and_false, Bool.false_and, Bool.not_true, Bool.not_false, true_and, and_true, false_and, and_false, true_or, or_true, false_or, or_false, Bool.true_eq_false, Bool.false_eq_true, eq_self, reduceCtorEq, Bool.or_true, Bool.true_or, Bool.or_false, Bool.false_or])
theorem x_managerOf (hA : nz A = A) (H : Rel A R) {o : Nat} {f : Int32} (ho : o < nv A 1) (hF : hasF (row A o 23) f = false) : kX fX11_managerOf [.ref 0, .int (zn o), .int f] A 0 := kX_same hA fun M hM => by
  subst hM
  have h1 := h_req H ho
  have h2 := h_rFX H ho hF
  rw [s_X11_managerOf]
  (simp only [e_X11_managerOf, zo_iload, zo_lload, zo_aload, zo_istore, zo_lstore, zo_astore, zo_iinc, zo_pushI, zo_pushL, zo_null, zo_ii, zo_iid, zo_ll, zo_li, zo_lcmp, zo_i2l, zo_l2i, zo_dup, zo_dup2, zo_pop, zo_goto, zo_if, zo_icmp, zo_ifnull, zo_gets, zo_mm, zo_throw, zo_ret, zo_aret, zo_lret, q_iret_f, q_iret_1, q_iret_0, q_iret_b, q_c8_0, q_c8_1, q_c8_2, q_c8_3, q_c8_4, q_set_0, q_set_1i, q_set_1r, q_set_1n, q_set_1N, q_set_s, q_set_1j, q_bk_v, q_bk_n, q_if, zb_ite, cond_true, cond_false, List.getElem?_cons_zero, List.getElem?_cons_succ, Nat.reduceAdd, q_bx_v, q_bx_n, q_bx_x, h1, h2, if_true, if_false, zb_eq0, zb_eq1, zn_1, not_true_eq_false, not_false_eq_true, ite_true, ite_false, if_true, if_false, q_iret_0, q_iret_1, decide_true, decide_false, decide_not, zb_t, zb_f, z10, z01, cond_true, cond_false, Bool.and_true, Bool.true_and, Bool.and_false, Bool.false_and, Bool.not_true, Bool.not_false, true_and, and_true, false_and, and_false, true_or, or_true, false_or, or_false, Bool.true_eq_false, Bool.false_eq_true, eq_self, reduceCtorEq, Bool.or_true, Bool.true_or, Bool.or_false, Bool.false_or])
theorem g_budget (hA : nz A = A) (H : Rel A R) {o : Nat} (ho : o < nv A 1) (hk : row A o 23 = 0) : kV fX11_budget [.ref 0, .int (zn o)] A (10 * row A o 2 + row A o 3) := kV_of hA fun M hM => by
  subst hM
  have h1 := h_req H ho
  have h2 := h_rK H ho hk
  have w2 : fX10_read [.ref 1, .int (zn o), .int 2] M = _ := h_read H ho (s := 2) (by decide)
  have w3 : fX10_read [.ref 1, .int (zn o), .int 3] M = _ := h_read H ho (s := 3) (by decide)
  rw [s_X11_budget]
  (simp only [e_X11_budget, zo_iload, zo_lload, zo_aload, zo_istore, zo_lstore, zo_astore, zo_iinc, zo_pushI, zo_pushL, zo_null, zo_ii, zo_iid, zo_ll, zo_li, zo_lcmp, zo_i2l, zo_l2i, zo_dup, zo_dup2, zo_pop, zo_goto, zo_if, zo_icmp, zo_ifnull, zo_gets, zo_mm, zo_throw, zo_ret, zo_aret, zo_lret, q_iret_f, q_iret_1, q_iret_0, q_iret_b, q_c8_0, q_c8_1, q_c8_2, q_c8_3, q_c8_4, q_set_0, q_set_1i, q_set_1r, q_set_1n, q_set_1N, q_set_s, q_set_1j, q_bk_v, q_bk_n, q_if, zb_ite, cond_true, cond_false, List.getElem?_cons_zero, List.getElem?_cons_succ, Nat.reduceAdd, q_bx_v, q_bx_n, q_bx_x, h1, h2, w2, w3, if_true, if_false, zb_eq0, zb_eq1, zn_1, not_true_eq_false, not_false_eq_true, ite_true, ite_false, if_true, if_false, q_iret_0, q_iret_1, decide_true, decide_false, decide_not, zb_t, zb_f, z10, z01, cond_true, cond_false, Bool.and_true, Bool.true_and, Bool.and_false, Bool.false_and, Bool.not_true, Bool.not_false, true_and, and_true, false_and, and_false, true_or, or_true, false_or, or_false, Bool.true_eq_false, Bool.false_eq_true, eq_self, reduceCtorEq, Bool.or_true, Bool.true_or, Bool.or_false, Bool.false_or])
theorem g_phaseOf (hA : nz A = A) (H : Rel A R) {o : Nat} (ho : o < nv A 1) (hk : row A o 23 = 2) : kV fX11_phaseOf [.ref 0, .int (zn o)] A (row A o 29) := kV_of hA fun M hM => by
  subst hM
  have h1 := h_req H ho
  have h2 := h_rK H ho hk
  have w' : fX10_read [.ref 1, .int (zn o), .int 29] M = _ := h_read H ho (s := 29) (by decide)
  rw [s_X11_phaseOf]
  (simp only [e_X11_phaseOf, zo_iload, zo_lload, zo_aload, zo_istore, zo_lstore, zo_astore, zo_iinc, zo_pushI, zo_pushL, zo_null, zo_ii, zo_iid, zo_ll, zo_li, zo_lcmp, zo_i2l, zo_l2i, zo_dup, zo_dup2, zo_pop, zo_goto, zo_if, zo_icmp, zo_ifnull, zo_gets, zo_mm, zo_throw, zo_ret, zo_aret, zo_lret, q_iret_f, q_iret_1, q_iret_0, q_iret_b, q_c8_0, q_c8_1, q_c8_2, q_c8_3, q_c8_4, q_set_0, q_set_1i, q_set_1r, q_set_1n, q_set_1N, q_set_s, q_set_1j, q_bk_v, q_bk_n, q_if, zb_ite, cond_true, cond_false, List.getElem?_cons_zero, List.getElem?_cons_succ, Nat.reduceAdd, q_bx_v, q_bx_n, q_bx_x, h1, h2, w', if_true, if_false, zb_eq0, zb_eq1, zn_1, not_true_eq_false, not_false_eq_true, ite_true, ite_false, if_true, if_false, q_iret_0, q_iret_1, decide_true, decide_false, decide_not, zb_t, zb_f, z10, z01, cond_true, cond_false, Bool.and_true, Bool.true_and, Bool.and_false, Bool.false_and, Bool.not_true, Bool.not_false, true_and, and_true, false_and, and_false, true_or, or_true, false_or, or_false, Bool.true_eq_false, Bool.false_eq_true, eq_self, reduceCtorEq, Bool.or_true, Bool.true_or, Bool.or_false, Bool.false_or])
theorem g_placeOf (hA : nz A = A) (H : Rel A R) {o : Nat} (ho : o < nv A 1) (hk : row A o 23 = 2) : kV fX11_placeOf [.ref 0, .int (zn o)] A (row A o 28) := kV_of hA fun M hM => by
  subst hM
  have h1 := h_req H ho
  have h2 := h_rK H ho hk
  have w' : fX10_read [.ref 1, .int (zn o), .int 28] M = _ := h_read H ho (s := 28) (by decide)
  rw [s_X11_placeOf]
  (simp only [e_X11_placeOf, zo_iload, zo_lload, zo_aload, zo_istore, zo_lstore, zo_astore, zo_iinc, zo_pushI, zo_pushL, zo_null, zo_ii, zo_iid, zo_ll, zo_li, zo_lcmp, zo_i2l, zo_l2i, zo_dup, zo_dup2, zo_pop, zo_goto, zo_if, zo_icmp, zo_ifnull, zo_gets, zo_mm, zo_throw, zo_ret, zo_aret, zo_lret, q_iret_f, q_iret_1, q_iret_0, q_iret_b, q_c8_0, q_c8_1, q_c8_2, q_c8_3, q_c8_4, q_set_0, q_set_1i, q_set_1r, q_set_1n, q_set_1N, q_set_s, q_set_1j, q_bk_v, q_bk_n, q_if, zb_ite, cond_true, cond_false, List.getElem?_cons_zero, List.getElem?_cons_succ, Nat.reduceAdd, q_bx_v, q_bx_n, q_bx_x, h1, h2, w', if_true, if_false, zb_eq0, zb_eq1, zn_1, not_true_eq_false, not_false_eq_true, ite_true, ite_false, if_true, if_false, q_iret_0, q_iret_1, decide_true, decide_false, decide_not, zb_t, zb_f, z10, z01, cond_true, cond_false, Bool.and_true, Bool.true_and, Bool.and_false, Bool.false_and, Bool.not_true, Bool.not_false, true_and, and_true, false_and, and_false, true_or, or_true, false_or, or_false, Bool.true_eq_false, Bool.false_eq_true, eq_self, reduceCtorEq, Bool.or_true, Bool.true_or, Bool.or_false, Bool.false_or])
theorem g_isReady (hA : nz A = A) (H : Rel A R) {o : Nat} (ho : o < nv A 1) (hk : row A o 23 = 4) : kV fX11_isReady [.ref 0, .int (zn o)] A (zb (decide (row A o 27 = 1))) := kV_of hA fun M hM => by
  subst hM
  have h1 := h_req H ho
  have h2 := h_rK H ho hk
  have w' : fX10_read [.ref 1, .int (zn o), .int 27] M = _ := h_read H ho (s := 27) (by decide)
  rw [s_X11_isReady]
  by_cases e : row (nz M) o 27 = 1 <;> (simp only [e_X11_isReady, zo_iload, zo_lload, zo_aload, zo_istore, zo_lstore, zo_astore, zo_iinc, zo_pushI, zo_pushL, zo_null, zo_ii, zo_iid, zo_ll, zo_li, zo_lcmp, zo_i2l, zo_l2i, zo_dup, zo_dup2, zo_pop, zo_goto, zo_if, zo_icmp, zo_ifnull, zo_gets, zo_mm, zo_throw, zo_ret, zo_aret, zo_lret, q_iret_f, q_iret_1, q_iret_0, q_iret_b, q_c8_0, q_c8_1, q_c8_2, q_c8_3, q_c8_4, q_set_0, q_set_1i, q_set_1r, q_set_1n, q_set_1N, q_set_s, q_set_1j, q_bk_v, q_bk_n, q_if, zb_ite, cond_true, cond_false, List.getElem?_cons_zero, List.getElem?_cons_succ, Nat.reduceAdd, q_bx_v, q_bx_n, q_bx_x, h1, h2, w', e, if_true, if_false, zb_eq0, zb_eq1, zn_1, not_true_eq_false, not_false_eq_true, ite_true, ite_false, if_true, if_false, q_iret_0, q_iret_1, decide_true, decide_false, decide_not, zb_t, zb_f, z10, z01, cond_true, cond_false, Bool.and_true, Bool.true_and, Bool.and_false, Bool.false_and, Bool.not_true, Bool.not_false, true_and, and_true, false_and, and_false, true_or, or_true, false_or, or_false, Bool.true_eq_false, Bool.false_eq_true, eq_self, reduceCtorEq, Bool.or_true, Bool.true_or, Bool.or_false, Bool.false_or])
theorem g_objectOf (hA : nz A = A) (H : Rel A R) {k : Nat} (k1 : 1 ≤ k) (k2 : k ≤ ve A 1) : kV fX11_objectOf [.ref 0, .int (zn k)] A (zn (obj A k)) := kV_of hA fun M hM => by
  subst hM
  obtain ⟨h13, h400, h14⟩ := h_ve H
  have k2 : k ≤ ve M 1 := k2
  have c1 : (zn k < 1) = False := zn_lt (a := k) (b := 1) (by omega) (by decide) ▸ eq_false (by omega)
  have c3 : (zn k ≤ zn (ve M 1)) = True := zn_le (a := k) (b := ve M 1) (by omega) (by omega) ▸ eq_true (by omega)
  have c4 : ((400 : Int32) < zn k) = False := zn_lt (a := 400) (b := k) (by decide) (by omega) ▸ eq_false (by omega)
  have rr := H.1.2.1.2.1 k k1 k2
  have ho := sp_objectAt (zIC_1 (h_nv H).1) (zn k)
  rw [if_neg (fun z => z.elim c1.mp c4.mp), zn_ix (by omega)] at ho
  have e : M.1 14 (k * 32 + 22) = zn (obj (nz M) k) := rr.2.1
  rw [e] at ho
  rw [s_X11_objectOf]
  (simp only [e_X11_objectOf, zo_iload, zo_lload, zo_aload, zo_istore, zo_lstore, zo_astore, zo_iinc, zo_pushI, zo_pushL, zo_null, zo_ii, zo_iid, zo_ll, zo_li, zo_lcmp, zo_i2l, zo_l2i, zo_dup, zo_dup2, zo_pop, zo_goto, zo_if, zo_icmp, zo_ifnull, zo_gets, zo_mm, zo_throw, zo_ret, zo_aret, zo_lret, q_iret_f, q_iret_1, q_iret_0, q_iret_b, q_c8_0, q_c8_1, q_c8_2, q_c8_3, q_c8_4, q_set_0, q_set_1i, q_set_1r, q_set_1n, q_set_1N, q_set_s, q_set_1j, q_bk_v, q_bk_n, q_if, zb_ite, cond_true, cond_false, List.getElem?_cons_zero, List.getElem?_cons_succ, Nat.reduceAdd, q_bx_v, q_bx_n, q_bx_x, c1, h13, c3, ho, if_true, if_false, zb_eq0, zb_eq1, zn_1, not_true_eq_false, not_false_eq_true, ite_true, ite_false, if_true, if_false, q_iret_0, q_iret_1, decide_true, decide_false, decide_not, zb_t, zb_f, z10, z01, cond_true, cond_false, Bool.and_true, Bool.true_and, Bool.and_false, Bool.false_and, Bool.not_true, Bool.not_false, true_and, and_true, false_and, and_false, true_or, or_true, false_or, or_false, Bool.true_eq_false, Bool.false_eq_true, eq_self, reduceCtorEq, Bool.or_true, Bool.true_or, Bool.or_false, Bool.false_or])
theorem x_objectOf (hA : nz A = A) (H : Rel A R) {x : Int32} (hx : x < 1 ∨ zn (ve A 1) < x) : kX fX11_objectOf [.ref 0, .int x] A 2 := kX_same hA fun M hM => by
  subst hM
  obtain ⟨h13, h400, h14⟩ := h_ve H
  rw [s_X11_objectOf]
  by_cases h : x < 1
  · (simp only [e_X11_objectOf, zo_iload, zo_lload, zo_aload, zo_istore, zo_lstore, zo_astore, zo_iinc, zo_pushI, zo_pushL, zo_null, zo_ii, zo_iid, zo_ll, zo_li, zo_lcmp, zo_i2l, zo_l2i, zo_dup, zo_dup2, zo_pop, zo_goto, zo_if, zo_icmp, zo_ifnull, zo_gets, zo_mm, zo_throw, zo_ret, zo_aret, zo_lret, q_iret_f, q_iret_1, q_iret_0, q_iret_b, q_c8_0, q_c8_1, q_c8_2, q_c8_3, q_c8_4, q_set_0, q_set_1i, q_set_1r, q_set_1n, q_set_1N, q_set_s, q_set_1j, q_bk_v, q_bk_n, q_if, zb_ite, cond_true, cond_false, List.getElem?_cons_zero, List.getElem?_cons_succ, Nat.reduceAdd, q_bx_v, q_bx_n, q_bx_x, h, if_true, if_false, zb_eq0, zb_eq1, zn_1, not_true_eq_false, not_false_eq_true, ite_true, ite_false, if_true, if_false, q_iret_0, q_iret_1, decide_true, decide_false, decide_not, zb_t, zb_f, z10, z01, cond_true, cond_false, Bool.and_true, Bool.true_and, Bool.and_false, Bool.false_and, Bool.not_true, Bool.not_false, true_and, and_true, false_and, and_false, true_or, or_true, false_or, or_false, Bool.true_eq_false, Bool.false_eq_true, eq_self, reduceCtorEq, Bool.or_true, Bool.true_or, Bool.or_false, Bool.false_or])
  · have h3 : (x ≤ zn (ve M 1)) = False := eq_false (Int32.not_le.mpr (hx.resolve_left h))
    (simp only [e_X11_objectOf, zo_iload, zo_lload, zo_aload, zo_istore, zo_lstore, zo_astore, zo_iinc, zo_pushI, zo_pushL, zo_null, zo_ii, zo_iid, zo_ll, zo_li, zo_lcmp, zo_i2l, zo_l2i, zo_dup, zo_dup2, zo_pop, zo_goto, zo_if, zo_icmp, zo_ifnull, zo_gets, zo_mm, zo_throw, zo_ret, zo_aret, zo_lret, q_iret_f, q_iret_1, q_iret_0, q_iret_b, q_c8_0, q_c8_1, q_c8_2, q_c8_3, q_c8_4, q_set_0, q_set_1i, q_set_1r, q_set_1n, q_set_1N, q_set_s, q_set_1j, q_bk_v, q_bk_n, q_if, zb_ite, cond_true, cond_false, List.getElem?_cons_zero, List.getElem?_cons_succ, Nat.reduceAdd, q_bx_v, q_bx_n, q_bx_x, h, h13, h3, if_true, if_false, zb_eq0, zb_eq1, zn_1, not_true_eq_false, not_false_eq_true, ite_true, ite_false, if_true, if_false, q_iret_0, q_iret_1, decide_true, decide_false, decide_not, zb_t, zb_f, z10, z01, cond_true, cond_false, Bool.and_true, Bool.true_and, Bool.and_false, Bool.false_and, Bool.not_true, Bool.not_false, true_and, and_true, false_and, and_false, true_or, or_true, false_or, or_false, Bool.true_eq_false, Bool.false_eq_true, eq_self, reduceCtorEq, Bool.or_true, Bool.true_or, Bool.or_false, Bool.false_or])
theorem g_seen (hA : nz A = A) (H : Rel A R) {c : Nat} (hc : c < 8) : kV fX11_seen [.ref 0, .int (zn c)] A (zn (ve A (3 + c))) := kV_of hA fun M hM => by
  subst hM
  have W := (h_nv H).1
  have a1 := h_at hc M
  have q1 : M.1 (3 + c) 3 = zn (ve (nz M) (3 + c)) := by
    rw [(W.2.2 c hc).1.2.2.1]
    unfold ve
    rw [nz_1 (cdead hc).1]
  rw [s_X11_seen]
  generalize ve (nz M) (3 + c) = y at *
  clear H W hA
  rcases zc8 hc with rfl | rfl | rfl | rfl | rfl | rfl | rfl | rfl <;> (simp only [Nat.reduceAdd, Nat.reduceMul, Nat.mul_zero, Nat.add_zero] at *; simp only [e_X11_seen, zo_iload, zo_lload, zo_aload, zo_istore, zo_lstore, zo_astore, zo_iinc, zo_pushI, zo_pushL, zo_null, zo_ii, zo_iid, zo_ll, zo_li, zo_lcmp, zo_i2l, zo_l2i, zo_dup, zo_dup2, zo_pop, zo_goto, zo_if, zo_icmp, zo_ifnull, zo_gets, zo_mm, zo_throw, zo_ret, zo_aret, zo_lret, q_iret_f, q_iret_1, q_iret_0, q_iret_b, q_c8_0, q_c8_1, q_c8_2, q_c8_3, q_c8_4, q_set_0, q_set_1i, q_set_1r, q_set_1n, q_set_1N, q_set_s, q_set_1j, q_bk_v, q_bk_n, q_if, zb_ite, cond_true, cond_false, List.getElem?_cons_zero, List.getElem?_cons_succ, Nat.reduceAdd, q_bx_v, q_bx_n, q_bx_x, a1, q1, if_true, if_false, zb_eq0, zb_eq1, zn_1, not_true_eq_false, not_false_eq_true, ite_true, ite_false, if_true, if_false, q_iret_0, q_iret_1, decide_true, decide_false, decide_not, zb_t, zb_f, z10, z01, cond_true, cond_false, Bool.and_true, Bool.true_and, Bool.and_false, Bool.false_and, Bool.not_true, Bool.not_false, true_and, and_true, false_and, and_false, true_or, or_true, false_or, or_false, Bool.true_eq_false, Bool.false_eq_true, eq_self, reduceCtorEq, Bool.or_true, Bool.true_or, Bool.or_false, Bool.false_or])
theorem g_queued (hA : nz A = A) (H : Rel A R) {c p : Nat} (hc : c < 8) (hp : p < qn A c) : kV fX11_queued [.ref 0, .int (zn c), .int (zn p)] A (zn (qk A c p)) := kV_of hA fun M hM => by
  subst hM
  have W := (h_nv H).1
  have a1 := h_at hc M
  rw [qn_nz hc] at hp
  obtain ⟨q3, q4⟩ := (W.2.2 c hc).2.1
  have d' : (0 ≤ zn p) = True := eq_true (Int32.not_lt.mp (zn_lt0 (o := p) (by omega)).mp)
  have hk := sp_keyAt W hc (zn p)
  have h2 : (zn (qn M c) ≤ zn p) = False := zn_le (a := qn M c) (b := p) (by omega) (by omega) ▸ eq_false (by omega)
  rw [if_neg (fun z => z.elim (zn_lt0 (by omega)).mp (fun z => by rw [q3] at z; exact h2.mp z)), zn_ix (by omega), ((W.2.2 c hc).2.2 p hp).1] at hk
  rw [qk_nz hc, s_X11_queued]
  generalize qk M c p = y at *
  clear H W hA q3 q4 h2 hp
  rcases zc8 hc with rfl | rfl | rfl | rfl | rfl | rfl | rfl | rfl <;> (simp only [Nat.reduceAdd, Nat.reduceMul, Nat.mul_zero, Nat.add_zero] at *; simp only [e_X11_queued, zo_iload, zo_lload, zo_aload, zo_istore, zo_lstore, zo_astore, zo_iinc, zo_pushI, zo_pushL, zo_null, zo_ii, zo_iid, zo_ll, zo_li, zo_lcmp, zo_i2l, zo_l2i, zo_dup, zo_dup2, zo_pop, zo_goto, zo_if, zo_icmp, zo_ifnull, zo_gets, zo_mm, zo_throw, zo_ret, zo_aret, zo_lret, q_iret_f, q_iret_1, q_iret_0, q_iret_b, q_c8_0, q_c8_1, q_c8_2, q_c8_3, q_c8_4, q_set_0, q_set_1i, q_set_1r, q_set_1n, q_set_1N, q_set_s, q_set_1j, q_bk_v, q_bk_n, q_if, zb_ite, cond_true, cond_false, List.getElem?_cons_zero, List.getElem?_cons_succ, Nat.reduceAdd, q_bx_v, q_bx_n, q_bx_x, a1, d', hk, if_true, if_false, zb_eq0, zb_eq1, zn_1, not_true_eq_false, not_false_eq_true, ite_true, ite_false, if_true, if_false, q_iret_0, q_iret_1, decide_true, decide_false, decide_not, zb_t, zb_f, z10, z01, cond_true, cond_false, Bool.and_true, Bool.true_and, Bool.and_false, Bool.false_and, Bool.not_true, Bool.not_false, true_and, and_true, false_and, and_false, true_or, or_true, false_or, or_false, Bool.true_eq_false, Bool.false_eq_true, eq_self, reduceCtorEq, Bool.or_true, Bool.true_or, Bool.or_false, Bool.false_or])
theorem g_queuedN (hA : nz A = A) (H : Rel A R) {c p : Nat} (hc : c < 8) (hp : qn A c ≤ p) (hp2 : p < 2000000) : kV fX11_queued [.ref 0, .int (zn c), .int (zn p)] A (-1) := kV_of hA fun M hM => by
  subst hM
  have W := (h_nv H).1
  have a1 := h_at hc M
  rw [qn_nz hc] at hp
  obtain ⟨q3, q4⟩ := (W.2.2 c hc).2.1
  have d' : (0 ≤ zn p) = True := eq_true (Int32.not_lt.mp (zn_lt0 (o := p) (by omega)).mp)
  have hk := sp_keyAt W hc (zn p)
  have h2 : (zn (qn M c) ≤ zn p) = True := zn_le (a := qn M c) (b := p) (by omega) (by omega) ▸ eq_true (by omega)
  rw [if_pos (Or.inr (by rw [q3, h2]; trivial))] at hk
  rw [s_X11_queued]
  clear H W hA q3 q4 h2 hp
  rcases zc8 hc with rfl | rfl | rfl | rfl | rfl | rfl | rfl | rfl <;> (simp only [Nat.reduceAdd, Nat.reduceMul, Nat.mul_zero, Nat.add_zero] at *; simp only [e_X11_queued, zo_iload, zo_lload, zo_aload, zo_istore, zo_lstore, zo_astore, zo_iinc, zo_pushI, zo_pushL, zo_null, zo_ii, zo_iid, zo_ll, zo_li, zo_lcmp, zo_i2l, zo_l2i, zo_dup, zo_dup2, zo_pop, zo_goto, zo_if, zo_icmp, zo_ifnull, zo_gets, zo_mm, zo_throw, zo_ret, zo_aret, zo_lret, q_iret_f, q_iret_1, q_iret_0, q_iret_b, q_c8_0, q_c8_1, q_c8_2, q_c8_3, q_c8_4, q_set_0, q_set_1i, q_set_1r, q_set_1n, q_set_1N, q_set_s, q_set_1j, q_bk_v, q_bk_n, q_if, zb_ite, cond_true, cond_false, List.getElem?_cons_zero, List.getElem?_cons_succ, Nat.reduceAdd, q_bx_v, q_bx_n, q_bx_x, a1, d', hk, if_true, if_false, zb_eq0, zb_eq1, zn_1, not_true_eq_false, not_false_eq_true, ite_true, ite_false, if_true, if_false, q_iret_0, q_iret_1, decide_true, decide_false, decide_not, zb_t, zb_f, z10, z01, cond_true, cond_false, Bool.and_true, Bool.true_and, Bool.and_false, Bool.false_and, Bool.not_true, Bool.not_false, true_and, and_true, false_and, and_false, true_or, or_true, false_or, or_false, Bool.true_eq_false, Bool.false_eq_true, eq_self, reduceCtorEq, Bool.or_true, Bool.true_or, Bool.or_false, Bool.false_or])
theorem g_failures (hA : nz A = A) (H : Rel A R) {c o : Nat} (hc : c < 8) (ho : o < nv A 1) : kV fX11_failures [.ref 0, .int (zn c), .int (zn o)] A (A.1 (24 + 6 * c) o) := kV_of hA fun M hM => by
  subst hM
  have h1 := h_req H ho
  have a1 := h_at hc M
  have h60 := lt_n60 H.1 (o := o) ho
  have b0 : zz_inb (zn o) 60 = true := zn_inT h60 (by decide)
  have x0 : zz_ix (zn o) = o := zn_ix (by omega)
  rw [nz_1 (cdead hc).2.2.2.2.1, s_X11_failures]
  clear H hA
  rcases zc8 hc with rfl | rfl | rfl | rfl | rfl | rfl | rfl | rfl <;> (simp only [Nat.reduceAdd, Nat.reduceMul, Nat.mul_zero, Nat.add_zero] at *; simp only [e_X11_failures, zo_iload, zo_lload, zo_aload, zo_istore, zo_lstore, zo_astore, zo_iinc, zo_pushI, zo_pushL, zo_null, zo_ii, zo_iid, zo_ll, zo_li, zo_lcmp, zo_i2l, zo_l2i, zo_dup, zo_dup2, zo_pop, zo_goto, zo_if, zo_icmp, zo_ifnull, zo_gets, zo_mm, zo_throw, zo_ret, zo_aret, zo_lret, q_iret_f, q_iret_1, q_iret_0, q_iret_b, q_c8_0, q_c8_1, q_c8_2, q_c8_3, q_c8_4, q_set_0, q_set_1i, q_set_1r, q_set_1n, q_set_1N, q_set_s, q_set_1j, q_bk_v, q_bk_n, q_if, zb_ite, cond_true, cond_false, List.getElem?_cons_zero, List.getElem?_cons_succ, Nat.reduceAdd, q_bx_v, q_bx_n, q_bx_x, a1, h1, b0, x0, q_aC, if_true, if_false, zb_eq0, zb_eq1, zn_1, not_true_eq_false, not_false_eq_true, ite_true, ite_false, if_true, if_false, q_iret_0, q_iret_1, decide_true, decide_false, decide_not, zb_t, zb_f, z10, z01, cond_true, cond_false, Bool.and_true, Bool.true_and, Bool.and_false, Bool.false_and, Bool.not_true, Bool.not_false, true_and, and_true, false_and, and_false, true_or, or_true, false_or, or_false, Bool.true_eq_false, Bool.false_eq_true, eq_self, reduceCtorEq, Bool.or_true, Bool.true_or, Bool.or_false, Bool.false_or])
/-- whether a controller is settled -/
def stc (A : zzMd) (c : Nat) : Bool := decide (ve A (3 + c) = ve A 1) && decide (qn A c = 0)
theorem k_stl (H : Rel (nz M) R) (j : Option Value) : ∃ j', zz_ev tX11_isSettled 2 [some (.ref 0), some (.int (zn 0)), j] [] M = match zfst 8 (fun c => !stc M c) with
    | some _ => some (.inl (some (.int 0)), M)
    | none => zz_ev tX11_isSettled 2 [some (.ref 0), some (.int (zn 8)), j'] [] M :=
  zl_fstJ (E := fun i j => zz_ev tX11_isSettled 2 [some (.ref 0), some (.int (zn i)), j] [] M) (P := fun c => !stc M c) (r := fun _ => some (.inl (some (.int 0)), M)) 8 (fun c hc j => by
    have W := (h_nv H).1
    have a1 := h_at hc
    obtain ⟨h13, h400, -⟩ := h_ve H
    obtain ⟨q3, q4⟩ := (W.2.2 c hc).2.1
    obtain ⟨-, -, v3, v4⟩ := (W.2.2 c hc).1
    have l8 : ((8 : Int32) ≤ zn c) = False := zk_lt (n := 8) hc (Nat.le_refl _) (by decide)
    have l0 : (zn (qn M c) ≤ 0) = (qn M c = 0) := by
      rw [show (0 : Int32) = zn 0 from rfl, zn_le (a := qn M c) (b := 0) (by omega) (by omega)]
      exact propext ⟨fun h => by omega, fun h => by omega⟩
    have l1 : (zn (ve M (3 + c)) = zn (ve M 1)) = (ve M (3 + c) = ve M 1) := zn_inj (a := ve M (3 + c)) (b := ve M 1) (by omega) (by omega)
    refine ⟨some (.ref (3 + c)), ?_⟩
    show zz_ev tX11_isSettled 2 [some (.ref 0), some (.int (zn c)), j] [] M = bif !stc M c then some (.inl (some (.int 0)), M) else zz_ev tX11_isSettled 2 [some (.ref 0), some (.int (zn (c + 1))), some (.ref (3 + c))] [] M
    unfold stc
    generalize qn M c = y at *
    generalize ve M (3 + c) = z at *
    clear H W q4 v4
    by_cases d1 : z = ve M 1
    · by_cases d2 : y = 0
      · rw [decide_eq_true d1, decide_eq_true d2]
        rw [eq_true d2] at l0
        rw [eq_true d1] at l1
        clear d1 d2
        rcases zc8 hc with rfl | rfl | rfl | rfl | rfl | rfl | rfl | rfl <;> (simp only [Nat.reduceAdd, Nat.reduceMul, Nat.mul_zero, Nat.add_zero, Nat.zero_add] at *) <;> (rw [e_X11_isSettled_2]; simp only [e_X11_isSettled, zo_iload, zo_lload, zo_aload, zo_istore, zo_lstore, zo_astore, zo_iinc, zo_pushI, zo_pushL, zo_null, zo_ii, zo_iid, zo_ll, zo_li, zo_lcmp, zo_i2l, zo_l2i, zo_dup, zo_dup2, zo_pop, zo_goto, zo_if, zo_icmp, zo_ifnull, zo_gets, zo_mm, zo_throw, zo_ret, zo_aret, zo_lret, q_iret_f, q_iret_1, q_iret_0, q_iret_b, q_c8_0, q_c8_1, q_c8_2, q_c8_3, q_c8_4, q_set_0, q_set_1i, q_set_1r, q_set_1n, q_set_1N, q_set_s, q_set_1j, q_bk_v, q_bk_n, q_if, zb_ite, cond_true, cond_false, List.getElem?_cons_zero, List.getElem?_cons_succ, Nat.reduceAdd, q_bx_v, q_bx_n, q_bx_x, l8, a1, v3, h13, l1, q3, l0, if_true, if_false, zb_eq0, zb_eq1, zn_1, not_true_eq_false, not_false_eq_true, ite_true, ite_false, if_true, if_false, q_iret_0, q_iret_1, decide_true, decide_false, decide_not, zb_t, zb_f, z10, z01, cond_true, cond_false, Bool.and_true, Bool.true_and, Bool.and_false, Bool.false_and, Bool.not_true, Bool.not_false, true_and, and_true, false_and, and_false, true_or, or_true, false_or, or_false, Bool.true_eq_false, Bool.false_eq_true, eq_self, reduceCtorEq, Bool.or_true, Bool.true_or, Bool.or_false, Bool.false_or])
      · rw [decide_eq_true d1, decide_eq_false d2]
        rcases zc8 hc with rfl | rfl | rfl | rfl | rfl | rfl | rfl | rfl <;> (simp only [Nat.reduceAdd, Nat.reduceMul, Nat.mul_zero, Nat.add_zero, Nat.zero_add] at *) <;> (rw [e_X11_isSettled_2]; simp only [e_X11_isSettled, zo_iload, zo_lload, zo_aload, zo_istore, zo_lstore, zo_astore, zo_iinc, zo_pushI, zo_pushL, zo_null, zo_ii, zo_iid, zo_ll, zo_li, zo_lcmp, zo_i2l, zo_l2i, zo_dup, zo_dup2, zo_pop, zo_goto, zo_if, zo_icmp, zo_ifnull, zo_gets, zo_mm, zo_throw, zo_ret, zo_aret, zo_lret, q_iret_f, q_iret_1, q_iret_0, q_iret_b, q_c8_0, q_c8_1, q_c8_2, q_c8_3, q_c8_4, q_set_0, q_set_1i, q_set_1r, q_set_1n, q_set_1N, q_set_s, q_set_1j, q_bk_v, q_bk_n, q_if, zb_ite, cond_true, cond_false, List.getElem?_cons_zero, List.getElem?_cons_succ, Nat.reduceAdd, q_bx_v, q_bx_n, q_bx_x, l8, a1, v3, h13, l1, d1, q3, l0, d2, if_true, if_false, zb_eq0, zb_eq1, zn_1, not_true_eq_false, not_false_eq_true, ite_true, ite_false, if_true, if_false, q_iret_0, q_iret_1, decide_true, decide_false, decide_not, zb_t, zb_f, z10, z01, cond_true, cond_false, Bool.and_true, Bool.true_and, Bool.and_false, Bool.false_and, Bool.not_true, Bool.not_false, true_and, and_true, false_and, and_false, true_or, or_true, false_or, or_false, Bool.true_eq_false, Bool.false_eq_true, eq_self, reduceCtorEq, Bool.or_true, Bool.true_or, Bool.or_false, Bool.false_or])
    · rw [decide_eq_false d1]
      rcases zc8 hc with rfl | rfl | rfl | rfl | rfl | rfl | rfl | rfl <;> (simp only [Nat.reduceAdd, Nat.reduceMul, Nat.mul_zero, Nat.add_zero, Nat.zero_add] at *) <;> (rw [e_X11_isSettled_2]; simp only [e_X11_isSettled, zo_iload, zo_lload, zo_aload, zo_istore, zo_lstore, zo_astore, zo_iinc, zo_pushI, zo_pushL, zo_null, zo_ii, zo_iid, zo_ll, zo_li, zo_lcmp, zo_i2l, zo_l2i, zo_dup, zo_dup2, zo_pop, zo_goto, zo_if, zo_icmp, zo_ifnull, zo_gets, zo_mm, zo_throw, zo_ret, zo_aret, zo_lret, q_iret_f, q_iret_1, q_iret_0, q_iret_b, q_c8_0, q_c8_1, q_c8_2, q_c8_3, q_c8_4, q_set_0, q_set_1i, q_set_1r, q_set_1n, q_set_1N, q_set_s, q_set_1j, q_bk_v, q_bk_n, q_if, zb_ite, cond_true, cond_false, List.getElem?_cons_zero, List.getElem?_cons_succ, Nat.reduceAdd, q_bx_v, q_bx_n, q_bx_x, l8, a1, v3, h13, l1, d1, if_true, if_false, zb_eq0, zb_eq1, zn_1, not_true_eq_false, not_false_eq_true, ite_true, ite_false, if_true, if_false, q_iret_0, q_iret_1, decide_true, decide_false, decide_not, zb_t, zb_f, z10, z01, cond_true, cond_false, Bool.and_true, Bool.true_and, Bool.and_false, Bool.false_and, Bool.not_true, Bool.not_false, true_and, and_true, false_and, and_false, true_or, or_true, false_or, or_false, Bool.true_eq_false, Bool.false_eq_true, eq_self, reduceCtorEq, Bool.or_true, Bool.true_or, Bool.or_false, Bool.false_or])) j
theorem stc_nz (M : zzMd) {c : Nat} (hc : c < 8) : stc (nz M) c = stc M c := by
  unfold stc ve
  rw [qn_nz hc, nz_1 (cdead hc).1]
  rfl
theorem g_isSettled (hA : nz A = A) (H : Rel A R) : kV fX11_isSettled [.ref 0] A (zb (zall 8 (stc A))) := kV_of hA fun M hM => by
  subst hM
  obtain ⟨j, hj⟩ := k_stl H none
  rw [zall_congr fun c hc => stc_nz M hc, zall_fst, s_X11_isSettled]
  have s1 : zz_ev tX11_isSettled 0 [some (.ref 0), none, none] [] M = zz_ev tX11_isSettled 2 [some (.ref 0), some (.int (zn 0)), none] [] M := by
    rw [show zn 0 = 0 from rfl]
    (simp only [e_X11_isSettled, zo_iload, zo_lload, zo_aload, zo_istore, zo_lstore, zo_astore, zo_iinc, zo_pushI, zo_pushL, zo_null, zo_ii, zo_iid, zo_ll, zo_li, zo_lcmp, zo_i2l, zo_l2i, zo_dup, zo_dup2, zo_pop, zo_goto, zo_if, zo_icmp, zo_ifnull, zo_gets, zo_mm, zo_throw, zo_ret, zo_aret, zo_lret, q_iret_f, q_iret_1, q_iret_0, q_iret_b, q_c8_0, q_c8_1, q_c8_2, q_c8_3, q_c8_4, q_set_0, q_set_1i, q_set_1r, q_set_1n, q_set_1N, q_set_s, q_set_1j, q_bk_v, q_bk_n, q_if, zb_ite, cond_true, cond_false, List.getElem?_cons_zero, List.getElem?_cons_succ, Nat.reduceAdd, q_bx_v, q_bx_n, q_bx_x, if_true, if_false, zb_eq0, zb_eq1, zn_1, not_true_eq_false, not_false_eq_true, ite_true, ite_false, if_true, if_false, q_iret_0, q_iret_1, decide_true, decide_false, decide_not, zb_t, zb_f, z10, z01, cond_true, cond_false, Bool.and_true, Bool.true_and, Bool.and_false, Bool.false_and, Bool.not_true, Bool.not_false, true_and, and_true, false_and, and_false, true_or, or_true, false_or, or_false, Bool.true_eq_false, Bool.false_eq_true, eq_self, reduceCtorEq, Bool.or_true, Bool.true_or, Bool.or_false, Bool.false_or])
  rw [s1, hj]
  have l8 : ((8 : Int32) ≤ zn 8) = True := eq_true (by decide)
  cases zfst 8 (fun c => !stc M c) with
  | some q => rfl
  | none =>
    show zz_ev tX11_isSettled 2 [some (.ref 0), some (.int (zn 8)), j] [] M = _
    (rw [e_X11_isSettled_2]; simp only [e_X11_isSettled, zo_iload, zo_lload, zo_aload, zo_istore, zo_lstore, zo_astore, zo_iinc, zo_pushI, zo_pushL, zo_null, zo_ii, zo_iid, zo_ll, zo_li, zo_lcmp, zo_i2l, zo_l2i, zo_dup, zo_dup2, zo_pop, zo_goto, zo_if, zo_icmp, zo_ifnull, zo_gets, zo_mm, zo_throw, zo_ret, zo_aret, zo_lret, q_iret_f, q_iret_1, q_iret_0, q_iret_b, q_c8_0, q_c8_1, q_c8_2, q_c8_3, q_c8_4, q_set_0, q_set_1i, q_set_1r, q_set_1n, q_set_1N, q_set_s, q_set_1j, q_bk_v, q_bk_n, q_if, zb_ite, cond_true, cond_false, List.getElem?_cons_zero, List.getElem?_cons_succ, Nat.reduceAdd, q_bx_v, q_bx_n, q_bx_x, l8, if_true, if_false, zb_eq0, zb_eq1, zn_1, not_true_eq_false, not_false_eq_true, ite_true, ite_false, if_true, if_false, q_iret_0, q_iret_1, decide_true, decide_false, decide_not, zb_t, zb_f, z10, z01, cond_true, cond_false, Bool.and_true, Bool.true_and, Bool.and_false, Bool.false_and, Bool.not_true, Bool.not_false, true_and, and_true, false_and, and_false, true_or, or_true, false_or, or_false, Bool.true_eq_false, Bool.false_eq_true, eq_self, reduceCtorEq, Bool.or_true, Bool.true_or, Bool.or_false, Bool.false_or])
theorem g_running (hA : nz A = A) (H : Rel A R) {o : Nat} (ho : o < nv A 1) (hk : row A o 23 = 0) : kV fX11_running [.ref 0, .int (zn o), .int 1] A (zn (cntRun A 1 (nv A 1) (zoi (newSet A 1 (nv A 1) (zn o))))) ∧ kV fX11_running [.ref 0, .int (zn o), .int 0] A (zsum (nv A 1) fun i => bif owned A 1 (zn i) 1 (zn o) then zn (cntRun A 1 (nv A 1) (zn i)) else 0) := by
  refine ⟨kV_of hA fun M hM => ?_, kV_of hA fun M hM => ?_⟩
  · subst hM
    have h1 := h_req H ho
    have h2 := h_rK H ho hk
    have W1 := zIC_1 (h_nv H).1
    have ha := sp_newSetOf W1 (zn o)
    have hb := sp_countRunning W1 (zoi (newSet M 1 (nv M 1) (zn o)))
    rw [s_X11_running]
    show _ = some (Sum.inl (some (Value.int (zn (cntRun M 1 (nv M 1) (zoi (newSet M 1 (nv M 1) (zn o))))))), M)
    (simp only [e_X11_running, zo_iload, zo_lload, zo_aload, zo_istore, zo_lstore, zo_astore, zo_iinc, zo_pushI, zo_pushL, zo_null, zo_ii, zo_iid, zo_ll, zo_li, zo_lcmp, zo_i2l, zo_l2i, zo_dup, zo_dup2, zo_pop, zo_goto, zo_if, zo_icmp, zo_ifnull, zo_gets, zo_mm, zo_throw, zo_ret, zo_aret, zo_lret, q_iret_f, q_iret_1, q_iret_0, q_iret_b, q_c8_0, q_c8_1, q_c8_2, q_c8_3, q_c8_4, q_set_0, q_set_1i, q_set_1r, q_set_1n, q_set_1N, q_set_s, q_set_1j, q_bk_v, q_bk_n, q_if, zb_ite, cond_true, cond_false, List.getElem?_cons_zero, List.getElem?_cons_succ, Nat.reduceAdd, q_bx_v, q_bx_n, q_bx_x, h1, h2, ha, hb, if_true, if_false, zb_eq0, zb_eq1, zn_1, not_true_eq_false, not_false_eq_true, ite_true, ite_false, if_true, if_false, q_iret_0, q_iret_1, decide_true, decide_false, decide_not, zb_t, zb_f, z10, z01, cond_true, cond_false, Bool.and_true, Bool.true_and, Bool.and_false, Bool.false_and, Bool.not_true, Bool.not_false, true_and, and_true, false_and, and_false, true_or, or_true, false_or, or_false, Bool.true_eq_false, Bool.false_eq_true, eq_self, reduceCtorEq, Bool.or_true, Bool.true_or, Bool.or_false, Bool.false_or])
  · subst hM
    have h1 := h_req H ho
    have h2 := h_rK H ho hk
    have W1 := zIC_1 (h_nv H).1
    have ha := sp_countRunningOfAll W1 (zn o)
    rw [s_X11_running]
    show _ = some (Sum.inl (some (Value.int (zsum (nv M 1) fun i => bif owned M 1 (zn i) 1 (zn o) then zn (cntRun M 1 (nv M 1) (zn i)) else 0))), M)
    (simp only [e_X11_running, zo_iload, zo_lload, zo_aload, zo_istore, zo_lstore, zo_astore, zo_iinc, zo_pushI, zo_pushL, zo_null, zo_ii, zo_iid, zo_ll, zo_li, zo_lcmp, zo_i2l, zo_l2i, zo_dup, zo_dup2, zo_pop, zo_goto, zo_if, zo_icmp, zo_ifnull, zo_gets, zo_mm, zo_throw, zo_ret, zo_aret, zo_lret, q_iret_f, q_iret_1, q_iret_0, q_iret_b, q_c8_0, q_c8_1, q_c8_2, q_c8_3, q_c8_4, q_set_0, q_set_1i, q_set_1r, q_set_1n, q_set_1N, q_set_s, q_set_1j, q_bk_v, q_bk_n, q_if, zb_ite, cond_true, cond_false, List.getElem?_cons_zero, List.getElem?_cons_succ, Nat.reduceAdd, q_bx_v, q_bx_n, q_bx_x, h1, h2, ha, if_true, if_false, zb_eq0, zb_eq1, zn_1, not_true_eq_false, not_false_eq_true, ite_true, ite_false, if_true, if_false, q_iret_0, q_iret_1, decide_true, decide_false, decide_not, zb_t, zb_f, z10, z01, cond_true, cond_false, Bool.and_true, Bool.true_and, Bool.and_false, Bool.false_and, Bool.not_true, Bool.not_false, true_and, and_true, false_and, and_false, true_or, or_true, false_or, or_false, Bool.true_eq_false, Bool.false_eq_true, eq_self, reduceCtorEq, Bool.or_true, Bool.true_or, Bool.or_false, Bool.false_or])
end
end

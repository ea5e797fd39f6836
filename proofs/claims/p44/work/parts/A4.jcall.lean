section
/-! what holds between calls, and that the calls keep it -/
def Iv (A : zzMd) : Prop := nz A = A ∧ (∃ R, Rel A R) ∧ II A
section
variable {A B R : zzMd}
theorem Rel_g {f : zzFn} {As : List Value} {A' : zzMd} {r : zzOu} {cd : Nat → Int32} {rr : Option zzRt} (hA : nz A = A) (h : lz_g f As A = some (r, A')) (z : zAg cd (f As A) rr) : nz A' = A' ∧ ∃ R', Rel A' R' := by
  obtain ⟨M1, e1, e2⟩ := lz_g_spec h A hA
  refine ⟨by rw [← e2, nz_nz], ?_⟩
  obtain ⟨M', R', H, ⟨v, h1, -⟩ | ⟨e, v, h1, -⟩⟩ := z
  · have e := e1.symm.trans h1
    injection e with e
    injection e with ea eb
    rw [← e2, eb]; exact ⟨R', H⟩
  · have e := e1.symm.trans h1
    injection e with e
    injection e with ea eb
    rw [← e2, eb]; exact ⟨R', H⟩
theorem Iv_g {f : zzFn} {As : List Value} {A' : zzMd} {r : zzOu} {cd : Nat → Int32} {rr : Option zzRt} (I : Iv A) (h : lz_g f As A = some (r, A')) (z : zAg cd (f As A) rr) (J : II A') : Iv A' :=
  ⟨(Rel_g I.1 h z).1, (Rel_g I.1 h z).2, J⟩
theorem Rel_at (hA : nz A = A) (H : Rel A R) : Rel (nz A) R := by rw [hA]; exact H
theorem Xt_cong (h14 : ∀ b, B.1 14 b = A.1 14 b) (h15 : ∀ b, B.1 15 b = A.1 15 b) (h2 : B.1 1 2 = A.1 1 2) (h3 : B.1 1 3 = A.1 1 3) (hv : ∀ c, c < 8 → ∀ b, B.1 (3 + c) b = A.1 (3 + c) b ∧ B.1 (21 + 6 * c) b = A.1 (21 + 6 * c) b ∧ B.1 (22 + 6 * c) b = A.1 (22 + 6 * c) b ∧ B.1 (23 + 6 * c) b = A.1 (23 + 6 * c) b) : Xt A B := by
  have e1 : ve B 1 = ve A 1 ∧ nv B 1 = nv A 1 := by unfold ve nv; rw [h2, h3]; exact ⟨rfl, rfl⟩
  refine ⟨by rw [e1.1, e1.2]; exact ⟨Nat.le_refl _, Nat.le_refl _⟩, fun k _ => ⟨by unfold obj; rw [h14], fun s _ => by unfold lg; rw [h14]⟩, hv, fun w _ => by unfold row lv; rw [h15, h14]⟩
theorem II_cong (H : II A) (W : zIC B) (h14 : ∀ b, B.1 14 b = A.1 14 b) (h15 : ∀ b, B.1 15 b = A.1 15 b) (h2 : B.1 1 2 = A.1 1 2) (h3 : B.1 1 3 = A.1 1 3) (ha : ∀ b, B.1 2 b = A.1 2 b) (hv : ∀ c, c < 8 → ∀ b, B.1 (3 + c) b = A.1 (3 + c) b ∧ B.1 (21 + 6 * c) b = A.1 (21 + 6 * c) b ∧ B.1 (22 + 6 * c) b = A.1 (22 + 6 * c) b ∧ B.1 (23 + 6 * c) b = A.1 (23 + 6 * c) b) (hf : ∀ c, c < 8 → ∀ o, B.1 (24 + 6 * c) o = A.1 (24 + 6 * c) o) : II B ∧ Xt A B := by
  have X := Xt_cong h14 h15 h2 h3 hv
  have g14 : B.1 14 = A.1 14 := funext h14
  have g15 : B.1 15 = A.1 15 := funext h15
  have o1 : obj B = obj A := by funext i; unfold obj; rw [g14]
  have o2 : lg B = lg A := by funext i s; unfold lg; rw [g14]
  have o3 : row B = row A := by funext i s; unfold row lv; rw [g14, g15]
  have o4 : ve B 1 = ve A 1 ∧ nv B 1 = nv A 1 := by unfold ve nv; rw [h2, h3]; exact ⟨rfl, rfl⟩
  have o5 : nr B = nr A ∧ nc B = nc A := by unfold nr nc; rw [ha, ha]; exact ⟨rfl, rfl⟩
  have o6 : jrow B = jrow A := by funext D; unfold jrow; rw [o4.2, o3]
  refine ⟨II_X H ?_ X hf, X⟩
  obtain ⟨⟨-, l2, l3, l4, l5, l6⟩, j2, j3, j4⟩ := H.1
  refine ⟨⟨W, by rw [o4.1, o1, o2]; exact l2, by rw [o2]; exact l3, by rw [o4.1, o4.2, o1, g15]; exact l4, by rw [o4.1, o1, o2]; exact l5, fun c hc => ?_⟩, by rw [o5.1, o5.2]; exact j2, by rw [o4.1, o2, o6]; exact j3, by rw [o4.1, o1, o2]; exact j4⟩
  have f1 : ve B (3 + c) = ve A (3 + c) ∧ nv B (3 + c) = nv A (3 + c) := by unfold ve nv; rw [(hv c hc 3).1, (hv c hc 2).1]; exact ⟨rfl, rfl⟩
  obtain ⟨a1, a2, a3⟩ := l6 c hc
  rw [f1.1, f1.2, o4.1, o1]
  exact ⟨a1, a2, fun o ho => ((hv c hc o).2.1).trans (a3 o ho)⟩
/-- one number of no account here -/
theorem II_sI {a k : Nat} {x : Int32} (H : II A) (W : zIC (zz_sI A a k x)) (ha : a = 12 ∨ a = 16 ∨ 69 ≤ a ∨ (a = 1 ∧ (k = 7 ∨ k = 8))) : II (zz_sI A a k x) ∧ Xt A (zz_sI A a k x) := by
  have g : ∀ p q, (p = 14 ∨ p = 15 ∨ p = 2 ∨ (p = 1 ∧ (q = 2 ∨ q = 3)) ∨ ∃ c, c < 8 ∧ (p = 3 + c ∨ p = 21 + 6 * c ∨ p = 22 + 6 * c ∨ p = 23 + 6 * c ∨ p = 24 + 6 * c)) → (zz_sI A a k x).1 p q = A.1 p q := fun p q h => if_neg fun z => by
    rcases ha with h1 | h1 | h1 | h1 <;> rcases h with h2 | h2 | h2 | h2 | ⟨c, h3, h2⟩ <;> omega
  exact II_cong H W (fun b => g 14 b (Or.inl rfl)) (fun b => g 15 b (Or.inr (Or.inl rfl))) (g 1 2 (Or.inr (Or.inr (Or.inr (Or.inl ⟨rfl, Or.inl rfl⟩))))) (g 1 3 (Or.inr (Or.inr (Or.inr (Or.inl ⟨rfl, Or.inr rfl⟩))))) (fun b => g 2 b (Or.inr (Or.inr (Or.inl rfl))))
    (fun c hc b => ⟨g _ _ (Or.inr (Or.inr (Or.inr (Or.inr ⟨c, hc, Or.inl rfl⟩)))), g _ _ (Or.inr (Or.inr (Or.inr (Or.inr ⟨c, hc, Or.inr (Or.inl rfl)⟩)))), g _ _ (Or.inr (Or.inr (Or.inr (Or.inr ⟨c, hc, Or.inr (Or.inr (Or.inl rfl))⟩)))), g _ _ (Or.inr (Or.inr (Or.inr (Or.inr ⟨c, hc, Or.inr (Or.inr (Or.inr (Or.inl rfl)))⟩))))⟩)
    (fun c hc o => g _ _ (Or.inr (Or.inr (Or.inr (Or.inr ⟨c, hc, Or.inr (Or.inr (Or.inr (Or.inr rfl)))⟩)))))
/-! the writers -/
theorem II_wr (H : II A) {o : Nat} {D : Nat → Int32} (ho : o < nv A 1) (ok : okD A o (dOw D)) : II (aWr A o D).2 := by
  obtain ⟨J, X⟩ := J_wr H.1 ho ok
  exact II_X H J X fun c hc q => Wr_o (by omega) (by omega) (by omega)
theorem II_go (H : II A) {o : Nat} (ho : o < nv A 1) {v : Int32} (hv : ¬ v = 0) : II (aGo A o v).2 := by
  refine II_wr H ho (ok_25 H.1 ho ?_)
  by_cases q : v = 2 ∧ kept A 1 (zn o) = false
  · rw [if_pos q]; decide
  · rw [if_neg q]; exact hv
theorem II_hold (H : II A) {o : Nat} (ho : o < nv A 1) (v : Int32) : II (aCh A o 26 v).2 := II_wr H ho (ok_s H.1 ho (Or.inl rfl) v)
theorem II_27 (H : II A) {o : Nat} (ho : o < nv A 1) (v : Int32) : II (aCh A o 27 v).2 := II_wr H ho (ok_s H.1 ho (Or.inr (Or.inl rfl)) v)
theorem II_bt (H : II A) {o : Nat} (ho : o < nv A 1) : II (aBt A o) := by
  have h := II_27 H ho 1
  exact (II_sI h (zIC_16.mpr h.1.1.1) (Or.inr (Or.inl rfl))).1
theorem II_fin (H : II A) {o : Nat} (ho : o < nv A 1) (hk : row A o 23 = 2) (hr : row A o 29 = 1) (v : Int32) : II (aCh A o 29 v).2 := by
  refine II_wr H ho (ok_29 H.1 ho v ?_)
  rcases (JJ_cur H.1 ho).2.2.1 hk with a | a
  · exact absurd (a.symm.trans hr) (by decide)
  · exact a
theorem II_ap (H : II A) {o : Nat} (ho : o < nv A 1) {f m : Nat} (hf : f < 11) (x : Int32) (hm : m ≤ 5) : II (aAp A (zn m) o (zn f) x).2 := by
  obtain ⟨J, X⟩ := J_Ap H.1 ho hf x hm
  refine II_X H J X fun c hc q => ?_
  unfold aAp
  cases hasF (row A o 23) (zn f)
  · rfl
  · exact Ad_o (by omega) (by omega) (by omega)
theorem II_op (H : II A) {m k : Nat} (t : Int32) (hm : m ≤ 5) : II (aOpen A (zn m) (zn k) (-1) t).2 := by
  obtain ⟨J, X⟩ := J_Open H.1 (k := k) (w := -1) t hm (Or.inl rfl)
  refine II_X H J X fun c hc q => ?_
  unfold aOpen
  by_cases h1 : 60 ≤ nv A 1 ∨ zn k = 2 ∧ ¬ zn (liveP A) < A.1 2 5
  · rw [if_pos h1]
  · rw [if_neg h1]
    cases (aAd A (nv A 1) (dNew (zn m) (zn k) (-1) t (nv A 1))).1
    · exact Ad_o (by omega) (by omega) (by omega)
    · exact (sI_a (by omega)).trans (Ad_o (by omega) (by omega) (by omega))
/-- a tick; the time goes on by one -/
theorem II_tick (H : II A) : II (aTick A) ∧ (aTick A).1 1 7 = A.1 1 7 + 1 ∧ Fr (zz_sI A 1 7 (A.1 1 7 + 1)) (aTick A) := by
  have h0 := (II_sI H (zIC_17.mpr H.1.1.1) (x := A.1 1 7 + 1) (Or.inr (Or.inr (Or.inr ⟨rfl, Or.inl rfl⟩)))).1
  have n0 : nv (zz_sI A 1 7 (A.1 1 7 + 1)) 1 = nv A 1 := by unfold nv; rw [sI_b (by decide)]
  have key : ∀ n, n ≤ nv A 1 → II (zfold n aTick1 (zz_sI A 1 7 (A.1 1 7 + 1))) ∧ nv (zfold n aTick1 (zz_sI A 1 7 (A.1 1 7 + 1))) 1 = nv A 1 ∧ Fr (zz_sI A 1 7 (A.1 1 7 + 1)) (zfold n aTick1 (zz_sI A 1 7 (A.1 1 7 + 1))) := by
    intro n
    induction n with
    | zero => exact fun _ => ⟨h0, n0, Fr_refl _⟩
    | succ n ih =>
      intro hn
      obtain ⟨i1, i2, i3⟩ := ih (by omega)
      rw [zfold_s]
      generalize zfold n aTick1 (zz_sI A 1 7 (A.1 1 7 + 1)) = X at *
      unfold aTick1
      by_cases t : tickOf X n
      · rw [if_pos t]
        have hx : n < nv X 1 := by omega
        exact ⟨II_27 i1 hx 0, (nvp_Wr _ i1.1 hx).trans i2, Fr_trans i3 (Fr_Wr _ _ _)⟩
      · rw [if_neg t]; exact ⟨i1, i2, i3⟩
  obtain ⟨k1, -, k3⟩ := key _ (Nat.le_refl _)
  refine ⟨k1, ?_, k3⟩
  exact k3.1.trans (by show (if 1 = 1 ∧ 7 = 7 then A.1 1 7 + 1 else A.1 1 7) = _; rw [if_pos ⟨rfl, rfl⟩])
theorem ve_wr (A : zzMd) (o : Nat) (D : Nat → Int32) : ve A 1 ≤ ve (aWr A o D).2 1 := by
  rcases WR_wr A o D with ⟨e, -⟩ | ⟨e, -⟩ | ⟨-, e, he, -⟩
  · rw [e]; exact Nat.le_refl _
  · rw [e]; exact Nat.le_refl _
  · rw [e, put_ve he]; omega
theorem tick_ve (H : II A) : ve A 1 ≤ ve (aTick A) 1 := by
  have v0 : ve (zz_sI A 1 7 (A.1 1 7 + 1)) 1 = ve A 1 := by unfold ve; rw [sI_b (by decide)]
  have key : ∀ n, ve A 1 ≤ ve (zfold n aTick1 (zz_sI A 1 7 (A.1 1 7 + 1))) 1 := by
    intro n
    induction n with
    | zero => exact Nat.le_of_eq v0.symm
    | succ n ih =>
      rw [zfold_s]
      generalize zfold n aTick1 (zz_sI A 1 7 (A.1 1 7 + 1)) = X at *
      unfold aTick1
      by_cases t : tickOf X n
      · rw [if_pos t]; exact Nat.le_trans ih (ve_wr _ _ _)
      · rw [if_neg t]; exact ih
  exact key _
theorem II_ticks (H : II A) : ∀ n, II (aTicks A n) ∧ (∀ t, A.1 1 7 = zn t → (aTicks A n).1 1 7 = zn (t + n)) ∧ (aTicks A n).1 1 8 = A.1 1 8 ∧ (∀ k, (aTicks A n).1 12 k = A.1 12 k) ∧ (∀ k, (aTicks A n).1 73 k = A.1 73 k) ∧ (∀ k, (aTicks A n).1 74 k = A.1 74 k) ∧ ve A 1 ≤ ve (aTicks A n) 1
  | 0 => ⟨H, fun _ h => h, rfl, fun _ => rfl, fun _ => rfl, fun _ => rfl, Nat.le_refl _⟩
  | n + 1 => by
    obtain ⟨i1, i2, i3, i4, i5, i6, i7⟩ := II_ticks H n
    rw [aTicks_s]
    obtain ⟨t1, t2, t3⟩ := II_tick i1
    refine ⟨t1, fun t ht => ?_, t3.2.1.trans ((sI_b (by decide)).trans i3), fun k => (t3.2.2.1 k).trans ((sI_a (by decide)).trans (i4 k)), fun k => (t3.2.2.2.1 k).trans ((sI_a (by decide)).trans (i5 k)), fun k => (t3.2.2.2.2 k).trans ((sI_a (by decide)).trans (i6 k)), ?_⟩
    · rw [t2, i2 t ht]; exact zn_add (t + n) 1
    · refine Nat.le_trans i7 ?_
      exact tick_ve i1
end
end

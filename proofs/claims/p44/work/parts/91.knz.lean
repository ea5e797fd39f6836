section
/-! what a controller sees does not hang on dead arrays -/
section
variable {c : Nat}
theorem nz_eqs {P : zzMd → Nat → Bool} (hc : c < 8) (hP : ∀ D i, P (nz D) i = P D i) (A : zzMd) : ∀ n, nz (eqs P c n A) = eqs P c n (nz A)
  | 0 => rfl
  | n + 1 => by
    rw [eqs_s, eqs_s, ← nz_eqs hc hP A n, hP]
    cases P (eqs P c n A) n
    · rfl
    · exact nz_Enq hc _
theorem wops_nz (A : zzMd) (i : Nat) : wops (nz A) 6 (zn i) = wops A 6 (zn i) := by
  unfold wops
  rw [stay_nz (zcV (c := 3) (by decide)), rd_nz (zcV (c := 3) (by decide)), rd_nz (zcV (c := 3) (by decide))]
theorem nz_Q0 (A : zzMd) (x w : Int32) : nz (aQ0 A x w) = aQ0 (nz A) x w := by
  unfold aQ0
  rw [rd_nz (zcV (c := 0) (by decide)), rd_nz (zcV (c := 0) (by decide)), rd_nz (zcV (c := 0) (by decide))]
  cases decide (rd A 3 x 23 = 2 ∧ rd A 3 w 23 = 1) <;> cases decide (rd A 3 x 23 = 1) <;> simp only [cond_true, cond_false, nz_Enq (c := 0) (by decide)]
theorem nz_Q1 (hc : c < 8) (A : zzMd) (x w : Int32) : nz (aQ1 A c x w) = aQ1 (nz A) c x w := by
  unfold aQ1
  rw [rd_nz (zcV hc), rd_nz (zcV hc), nz_1 (cdead hc).1]
  cases decide (rd A (3 + c) x 23 = 2 ∧ rd A (3 + c) w 23 = A.1 (3 + c) 5)
  · rfl
  · exact nz_Enq hc _
theorem nz_Q3 (A : zzMd) (x : Int32) : nz (aQ3 A x) = aQ3 (nz A) x := by
  unfold aQ3
  rw [rd_nz (zcV (c := 3) (by decide)), nv_nz (zcV (c := 3) (by decide))]
  cases decide (rd A 6 x 23 = 4)
  · rfl
  · exact nz_eqs (by decide) wops_nz A _
theorem nz_Q4 (A : zzMd) (x : Int32) : nz (aQ4 A x) = aQ4 (nz A) x := by
  unfold aQ4
  rw [rd_nz (zcV (c := 4) (by decide)), nv_nz (zcV (c := 4) (by decide))]
  cases decide (rd A 7 x 23 = 4)
  · rfl
  · exact nz_eqs (by decide) (fun D i => by rw [rd_nz (zcV (c := 4) (by decide)), rd_nz (zcV (c := 4) (by decide))]) A _
theorem nz_Q5 (A : zzMd) (x w : Int32) : nz (aQ5 A x w) = aQ5 (nz A) x w := by
  unfold aQ5
  rw [nv_nz (zcV (c := 5) (by decide)), ← nz_Enq (c := 5) (by decide)]
  exact nz_eqs (by decide) (fun D i => by rw [rd_nz (zcV (c := 5) (by decide))]) _ _
theorem nz_Q6 (A : zzMd) (x : Int32) : nz (aQ6 A x) = aQ6 (nz A) x := by
  unfold aQ6
  rw [rd_nz (zcV (c := 6) (by decide)), nv_nz (zcV (c := 6) (by decide))]
  cases decide (rd A 9 x 23 = 2)
  · rfl
  · exact nz_eqs (by decide) (fun D i => by rw [rd_nz (zcV (c := 6) (by decide)), gone_nz (zcV (c := 6) (by decide))]) A _
theorem nz_QO (hc : c < 8) (A : zzMd) (x w : Int32) : nz (aQO A c x w) = aQO (nz A) c x w := by
  rcases zc8 hc with rfl | rfl | rfl | rfl | rfl | rfl | rfl | rfl
  · exact nz_Q0 A x w
  · exact nz_Q1 (by decide) A x w
  · exact nz_Q1 (by decide) A x w
  · exact nz_Q3 A x
  · exact nz_Q4 A x
  · exact nz_Q5 A x w
  · exact nz_Q6 A x
  · rfl
theorem ownKey_nz (hc : c < 8) (A : zzMd) (x : Int32) : ownKey (nz A) c x = ownKey A c x := by
  unfold ownKey
  rw [nz_1 (cdead hc).1, rd_nz (zcV hc)]
theorem nz_Own (hc : c < 8) (A : zzMd) (x : Int32) : nz (aOwn A c x) = aOwn (nz A) c x := by
  unfold aOwn
  rw [ownKey_nz hc]
  cases ownKey A c x
  · rfl
  · exact nz_Enq hc _
theorem ve_nzc (hc : c < 8) (A : zzMd) : ve (nz A) (3 + c) = ve A (3 + c) := by unfold ve; rw [nz_1 (cdead hc).1]
theorem nz_Next (hc : c < 8) (A : zzMd) (o : Nat) : nz (aNext A c o) = aNext (nz A) c o := by
  unfold aNext
  rw [nz_QO hc, nz_Own hc, ve_nzc hc, ← nz_tk (zcV hc), rd_nz (zcV hc), rd_nz (zcV hc)]
theorem obj_nz (A : zzMd) (k : Nat) : obj (nz A) k = obj A k := rfl
theorem nz_Nexts (hc : c < 8) (A : zzMd) : ∀ n, nz (aNexts A c n) = aNexts (nz A) c n
  | 0 => rfl
  | n + 1 => by rw [aNexts_s, aNexts_s, nz_Next hc, nz_Nexts hc A n, ← nz_Nexts hc A n, ve_nzc hc, obj_nz]
theorem nz_TA (hc : c < 8) (A : zzMd) : nz (aTA A c) = aTA (nz A) c := by
  obtain ⟨d1, d2, -⟩ := cdead hc
  refine Prod.ext (funext fun a => funext fun b => ?_) rfl
  show (bif dead a then 0 else (aTA A c).1 a b) = _
  rw [TA_1, TA_1]
  by_cases h1 : a = 3 + c ∧ b = 3
  · rw [if_pos h1, if_pos h1, h1.1, d1]; rfl
  · rw [if_neg h1, if_neg h1]
    by_cases h2 : a = 3 + c ∧ b = 2
    · rw [if_pos h2, if_pos h2, h2.1, d1]; rfl
    · rw [if_neg h2, if_neg h2]
      by_cases h3 : a = 21 + 6 * c ∧ 0 ≤ b ∧ b < 0 + 60
      · rw [if_pos h3, if_pos h3, h3.1, d2]; rfl
      · rw [if_neg h3, if_neg h3]; rfl
theorem nz_Rel (hc : c < 8) (A : zzMd) : nz (aRel A c) = aRel (nz A) c := by
  unfold aRel
  rw [nz_eqs hc (fun D i => by unfold relP; rw [gone_nz (zcV hc), ownKey_nz hc]), nz_TA hc, ← nz_TA hc, nv_nz (zcV hc)]
theorem nz_Look (hc : c < 8) (A : zzMd) (m : Nat) : nz (aLook A c m) = aLook (nz A) c m := by
  unfold aLook
  rw [nz_1 (cdead hc).1, nz_1 (a := 1) rfl, ve_nzc hc, ve_nz]
  cases decide (A.1 (3 + c) 3 < A.1 1 8)
  · exact nz_Nexts hc A _
  · exact nz_Rel hc A
end
end

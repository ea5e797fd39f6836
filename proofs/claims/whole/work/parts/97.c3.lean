section
variable {p : Program} {l : Launch} {e : Env} {s : State} {m : MethodId} {below : List Frame} {meth : Method} {c : Code} {b L : Nat} {xs : Nat → Int32}
variable {D : va_G} {cA : Nat → ClassId} {ad adR : Nat → Nat} {Q : State → Prop}
theorem zw_c27 (X : zw_Fx p s m meth c b L xs D cA ad) (Wd : zw_Wd l s D cA ad adR) {t : Nat} (ht : 7 * t + 7 ≤ L) (hL : L ≤ 3584) : zw_Case p l e s m below meth c b L D cA ad adR Q 1982 t := by
  intro M R H ls cells slots hcs HR w hl kk
  have hx := X.1
  have hb := X.2.1
  obtain ⟨M2, R2, h4, ⟨v, h1, h2, -⟩ | ⟨e, v, -, -, -, h⟩⟩ := c_version HR
  · refine lv_aload_n hx hb dw_1982 rfl (lv_at hl 2 rfl) ?_
    refine zw_virt X (n := 0) (S := zzSC) (ax := ad) (As := []) (rest := []) (v := some (.int v)) (mm_X11_version Wd.1).1 h1 (ci := 9) rfl rfl (zz_inl (by decide +kernel)) ⟨rfl, by decide, by decide, by decide +kernel⟩ (by decide) rfl hl.1 (Nat.le_of_ble_eq_true rfl) ⟨Nat.le_trans (Nat.le_succ _) hcs.1, Nat.le_trans (Nat.le_add_right _ _) hcs.2⟩ Wd.2.2.1 w.1 w.2.1 w.2.2 (zw_disC Wd) dw_1983 (fun H1 hS hP hPR => ?_)
    refine lv_aload_n hx hb dw_1986 rfl (lv_at hl 3 rfl) ?_
    refine zw_virt X (n := 0) (S := zzSR) (ax := adR) (As := []) (rest := [.int v]) (v := some (.int v)) (mm_X12_version Wd.2.1).1 h2 (ci := 10) rfl rfl (zz_inl (by decide +kernel)) ⟨rfl, by decide, by decide, by decide +kernel⟩ (by decide) rfl hl.1 (Nat.le_of_ble_eq_true rfl) ⟨Nat.le_trans (Nat.le_succ _) hcs.1, Nat.le_trans (Nat.le_add_right _ _) hcs.2⟩ Wd.2.2.2.1 hS hPR hP (zw_disR Wd) dw_1987 (fun H1 hS hPR hP => ?_)
    exact lv_icmp_eq (tgt := 2801) hx hb dw_1990 (by decide) (fun _ => fun T hT Y => kk M2 R2 H1 ls h4 ⟨hS, hP, hPR⟩ hl T hT (stand_widen Y (Nat.le_succ _) (Nat.le_add_right _ _))) (fun h => absurd rfl h)
  · exact absurd rfl h
theorem zw_c28 (X : zw_Fx p s m meth c b L xs D cA ad) (Wd : zw_Wd l s D cA ad adR) {t : Nat} (ht : 7 * t + 7 ≤ L) (hL : L ≤ 3584) : zw_Case p l e s m below meth c b L D cA ad adR Q 1995 t := by
  intro M R H ls cells slots hcs HR w hl kk
  have hx := X.1
  have hb := X.2.1
  obtain ⟨k, v, M2, R2, h1, h2, h3, h4, h5⟩ := zw_agree (b := false) (c_kindOf HR (xs (7 * t + 1)))
  refine lv_aload_n hx hb dw_1995 rfl (lv_at hl 2 rfl) ?_
  refine zw_arg (t := t) (j := 1) X w.1 ht (by decide) hL (lv_at hl 1 rfl) (lv_at hl 0 rfl) dw_1996 dw_1997 dw_1999 (by decide) dw_2000 dw_2001 ?_
  refine lv_aload_n hx hb dw_2002 rfl (lv_at hl 4 rfl) ?_
  refine zw_wrap X (n := 3) (As := [.ref 0, .int (xs (7 * t + 1)), .ref 73]) (rest := []) (lw_kindOf Wd.1 (zEx_XOk ad) h1) (zz_inl (by decide +kernel)) ⟨by decide, by decide, by decide +kernel⟩ (by decide) rfl hl.1 (Nat.le_of_ble_eq_true rfl) hcs Wd.2.2.1 w.1 w.2.1 w.2.2 (zw_disC Wd) dw_2003 (fun H1 hS hP hPR => ?_)
  refine lv_istore (lv' := (5, .int k) :: zw_lv b ad adR t) hx hb dw_2006 hl (by decide) rfl (fun ls hl => ?_)
  refine lv_aload_n hx hb dw_2008 rfl (lv_at hl 4 rfl) ?_
  refine zw_arg (t := t) (j := 1) X hS ht (by decide) hL (lv_at hl 2 rfl) (lv_at hl 1 rfl) dw_2009 dw_2010 dw_2012 (by decide) dw_2013 dw_2014 ?_
  refine zw_virt X (n := 1) (S := zzSR) (ax := adR) (As := [.int (xs (7 * t + 1))]) (rest := []) (v := some (.int v)) (mm_X12_kindOf Wd.2.1).1 h2 (ci := 10) rfl rfl (zz_inl (by decide +kernel)) ⟨rfl, by decide, by decide, by decide +kernel⟩ (by decide) rfl hl.1 (Nat.le_of_ble_eq_true rfl) hcs Wd.2.2.2.1 hS hPR hP (zw_disR Wd) dw_2015 (fun H1 hS hPR hP => ?_)
  refine lv_istore (lv' := (6, .int v) :: (5, .int k) :: zw_lv b ad adR t) hx hb dw_2018 hl (by decide) rfl (fun ls hl => ?_)
  exact zw_finI X Wd h3 h5 hcs ⟨hS, hP, hPR⟩ hl dw_2020 dw_2021 dw_2024 dw_2026 dw_2031 dw_2033 dw_2036 dw_2037 dw_2038 dw_2039 dw_2041 dw_2042 dw_2043 dw_2048 (by decide) (fun H1 w hl => kk M2 R2 H1 ls h4 w hl)
theorem zw_c29 (X : zw_Fx p s m meth c b L xs D cA ad) (Wd : zw_Wd l s D cA ad adR) {t : Nat} (ht : 7 * t + 7 ≤ L) (hL : L ≤ 3584) : zw_Case p l e s m below meth c b L D cA ad adR Q 2051 t := by
  intro M R H ls cells slots hcs HR w hl kk
  have hx := X.1
  have hb := X.2.1
  obtain ⟨k, v, M2, R2, h1, h2, h3, h4, h5⟩ := zw_agree (b := false) (c_field HR (xs (7 * t + 1)) (xs (7 * t + 2)))
  refine lv_aload_n hx hb dw_2051 rfl (lv_at hl 2 rfl) ?_
  refine zw_arg (t := t) (j := 1) X w.1 ht (by decide) hL (lv_at hl 1 rfl) (lv_at hl 0 rfl) dw_2052 dw_2053 dw_2055 (by decide) dw_2056 dw_2057 ?_
  refine zw_arg (t := t) (j := 2) X w.1 ht (by decide) hL (lv_at hl 1 rfl) (lv_at hl 0 rfl) dw_2058 dw_2059 dw_2061 (by decide) dw_2062 dw_2063 ?_
  refine lv_aload_n hx hb dw_2064 rfl (lv_at hl 4 rfl) ?_
  refine zw_wrap X (n := 4) (As := [.ref 0, .int (xs (7 * t + 1)), .int (xs (7 * t + 2)), .ref 73]) (rest := []) (lw_field Wd.1 (zEx_XOk ad) h1) (zz_inl (by decide +kernel)) ⟨by decide, by decide, by decide +kernel⟩ (by decide) rfl hl.1 (Nat.le_of_ble_eq_true rfl) hcs Wd.2.2.1 w.1 w.2.1 w.2.2 (zw_disC Wd) dw_2065 (fun H1 hS hP hPR => ?_)
  refine lv_istore (lv' := (5, .int k) :: zw_lv b ad adR t) hx hb dw_2068 hl (by decide) rfl (fun ls hl => ?_)
  refine lv_aload_n hx hb dw_2070 rfl (lv_at hl 4 rfl) ?_
  refine zw_arg (t := t) (j := 1) X hS ht (by decide) hL (lv_at hl 2 rfl) (lv_at hl 1 rfl) dw_2071 dw_2072 dw_2074 (by decide) dw_2075 dw_2076 ?_
  refine zw_arg (t := t) (j := 2) X hS ht (by decide) hL (lv_at hl 2 rfl) (lv_at hl 1 rfl) dw_2077 dw_2078 dw_2080 (by decide) dw_2081 dw_2082 ?_
  refine zw_virt X (n := 2) (S := zzSR) (ax := adR) (As := [.int (xs (7 * t + 1)), .int (xs (7 * t + 2))]) (rest := []) (v := some (.int v)) (mm_X12_field Wd.2.1).1 h2 (ci := 10) rfl rfl (zz_inl (by decide +kernel)) ⟨rfl, by decide, by decide, by decide +kernel⟩ (by decide) rfl hl.1 (Nat.le_of_ble_eq_true rfl) hcs Wd.2.2.2.1 hS hPR hP (zw_disR Wd) dw_2083 (fun H1 hS hPR hP => ?_)
  refine lv_istore (lv' := (6, .int v) :: (5, .int k) :: zw_lv b ad adR t) hx hb dw_2086 hl (by decide) rfl (fun ls hl => ?_)
  exact zw_finI X Wd h3 h5 hcs ⟨hS, hP, hPR⟩ hl dw_2088 dw_2089 dw_2092 dw_2094 dw_2099 dw_2101 dw_2104 dw_2105 dw_2106 dw_2107 dw_2109 dw_2110 dw_2111 dw_2116 (by decide) (fun H1 w hl => kk M2 R2 H1 ls h4 w hl)
theorem zw_c30 (X : zw_Fx p s m meth c b L xs D cA ad) (Wd : zw_Wd l s D cA ad adR) {t : Nat} (ht : 7 * t + 7 ≤ L) (hL : L ≤ 3584) : zw_Case p l e s m below meth c b L D cA ad adR Q 2119 t := by
  intro M R H ls cells slots hcs HR w hl kk
  have hx := X.1
  have hb := X.2.1
  obtain ⟨k, v, M2, R2, h1, h2, h3, h4, h5⟩ := zw_agree (b := false) (c_managerOf HR (xs (7 * t + 1)) (xs (7 * t + 2)))
  refine lv_aload_n hx hb dw_2119 rfl (lv_at hl 2 rfl) ?_
  refine zw_arg (t := t) (j := 1) X w.1 ht (by decide) hL (lv_at hl 1 rfl) (lv_at hl 0 rfl) dw_2120 dw_2121 dw_2123 (by decide) dw_2124 dw_2125 ?_
  refine zw_arg (t := t) (j := 2) X w.1 ht (by decide) hL (lv_at hl 1 rfl) (lv_at hl 0 rfl) dw_2126 dw_2127 dw_2129 (by decide) dw_2130 dw_2131 ?_
  refine lv_aload_n hx hb dw_2132 rfl (lv_at hl 4 rfl) ?_
  refine zw_wrap X (n := 4) (As := [.ref 0, .int (xs (7 * t + 1)), .int (xs (7 * t + 2)), .ref 73]) (rest := []) (lw_managerOf Wd.1 (zEx_XOk ad) h1) (zz_inl (by decide +kernel)) ⟨by decide, by decide, by decide +kernel⟩ (by decide) rfl hl.1 (Nat.le_of_ble_eq_true rfl) hcs Wd.2.2.1 w.1 w.2.1 w.2.2 (zw_disC Wd) dw_2133 (fun H1 hS hP hPR => ?_)
  refine lv_istore (lv' := (5, .int k) :: zw_lv b ad adR t) hx hb dw_2136 hl (by decide) rfl (fun ls hl => ?_)
  refine lv_aload_n hx hb dw_2138 rfl (lv_at hl 4 rfl) ?_
  refine zw_arg (t := t) (j := 1) X hS ht (by decide) hL (lv_at hl 2 rfl) (lv_at hl 1 rfl) dw_2139 dw_2140 dw_2142 (by decide) dw_2143 dw_2144 ?_
  refine zw_arg (t := t) (j := 2) X hS ht (by decide) hL (lv_at hl 2 rfl) (lv_at hl 1 rfl) dw_2145 dw_2146 dw_2148 (by decide) dw_2149 dw_2150 ?_
  refine zw_virt X (n := 2) (S := zzSR) (ax := adR) (As := [.int (xs (7 * t + 1)), .int (xs (7 * t + 2))]) (rest := []) (v := some (.int v)) (mm_X12_managerOf Wd.2.1).1 h2 (ci := 10) rfl rfl (zz_inl (by decide +kernel)) ⟨rfl, by decide, by decide, by decide +kernel⟩ (by decide) rfl hl.1 (Nat.le_of_ble_eq_true rfl) hcs Wd.2.2.2.1 hS hPR hP (zw_disR Wd) dw_2151 (fun H1 hS hPR hP => ?_)
  refine lv_istore (lv' := (6, .int v) :: (5, .int k) :: zw_lv b ad adR t) hx hb dw_2154 hl (by decide) rfl (fun ls hl => ?_)
  exact zw_finI X Wd h3 h5 hcs ⟨hS, hP, hPR⟩ hl dw_2156 dw_2157 dw_2160 dw_2162 dw_2167 dw_2169 dw_2172 dw_2173 dw_2174 dw_2175 dw_2177 dw_2178 dw_2179 dw_2184 (by decide) (fun H1 w hl => kk M2 R2 H1 ls h4 w hl)
theorem zw_c31 (X : zw_Fx p s m meth c b L xs D cA ad) (Wd : zw_Wd l s D cA ad adR) {t : Nat} (ht : 7 * t + 7 ≤ L) (hL : L ≤ 3584) : zw_Case p l e s m below meth c b L D cA ad adR Q 2187 t := by
  intro M R H ls cells slots hcs HR w hl kk
  have hx := X.1
  have hb := X.2.1
  obtain ⟨k, v, M2, R2, h1, h2, h3, h4, h5⟩ := zw_agree (b := false) (c_budget HR (xs (7 * t + 1)))
  refine lv_aload_n hx hb dw_2187 rfl (lv_at hl 2 rfl) ?_
  refine zw_arg (t := t) (j := 1) X w.1 ht (by decide) hL (lv_at hl 1 rfl) (lv_at hl 0 rfl) dw_2188 dw_2189 dw_2191 (by decide) dw_2192 dw_2193 ?_
  refine lv_aload_n hx hb dw_2194 rfl (lv_at hl 4 rfl) ?_
  refine zw_wrap X (n := 3) (As := [.ref 0, .int (xs (7 * t + 1)), .ref 73]) (rest := []) (lw_budget Wd.1 (zEx_XOk ad) h1) (zz_inl (by decide +kernel)) ⟨by decide, by decide, by decide +kernel⟩ (by decide) rfl hl.1 (Nat.le_of_ble_eq_true rfl) hcs Wd.2.2.1 w.1 w.2.1 w.2.2 (zw_disC Wd) dw_2195 (fun H1 hS hP hPR => ?_)
  refine lv_istore (lv' := (5, .int k) :: zw_lv b ad adR t) hx hb dw_2198 hl (by decide) rfl (fun ls hl => ?_)
  refine lv_aload_n hx hb dw_2200 rfl (lv_at hl 4 rfl) ?_
  refine zw_arg (t := t) (j := 1) X hS ht (by decide) hL (lv_at hl 2 rfl) (lv_at hl 1 rfl) dw_2201 dw_2202 dw_2204 (by decide) dw_2205 dw_2206 ?_
  refine zw_virt X (n := 1) (S := zzSR) (ax := adR) (As := [.int (xs (7 * t + 1))]) (rest := []) (v := some (.int v)) (mm_X12_budget Wd.2.1).1 h2 (ci := 10) rfl rfl (zz_inl (by decide +kernel)) ⟨rfl, by decide, by decide, by decide +kernel⟩ (by decide) rfl hl.1 (Nat.le_of_ble_eq_true rfl) hcs Wd.2.2.2.1 hS hPR hP (zw_disR Wd) dw_2207 (fun H1 hS hPR hP => ?_)
  refine lv_istore (lv' := (6, .int v) :: (5, .int k) :: zw_lv b ad adR t) hx hb dw_2210 hl (by decide) rfl (fun ls hl => ?_)
  exact zw_finI X Wd h3 h5 hcs ⟨hS, hP, hPR⟩ hl dw_2212 dw_2213 dw_2216 dw_2218 dw_2223 dw_2225 dw_2228 dw_2229 dw_2230 dw_2231 dw_2233 dw_2234 dw_2235 dw_2240 (by decide) (fun H1 w hl => kk M2 R2 H1 ls h4 w hl)
theorem zw_c32 (X : zw_Fx p s m meth c b L xs D cA ad) (Wd : zw_Wd l s D cA ad adR) {t : Nat} (ht : 7 * t + 7 ≤ L) (hL : L ≤ 3584) : zw_Case p l e s m below meth c b L D cA ad adR Q 2243 t := by
  intro M R H ls cells slots hcs HR w hl kk
  have hx := X.1
  have hb := X.2.1
  obtain ⟨k, v, M2, R2, h1, h2, h3, h4, h5⟩ := zw_agree (b := false) (c_versionOf HR (xs (7 * t + 1)))
  refine lv_aload_n hx hb dw_2243 rfl (lv_at hl 2 rfl) ?_
  refine zw_arg (t := t) (j := 1) X w.1 ht (by decide) hL (lv_at hl 1 rfl) (lv_at hl 0 rfl) dw_2244 dw_2245 dw_2247 (by decide) dw_2248 dw_2249 ?_
  refine lv_aload_n hx hb dw_2250 rfl (lv_at hl 4 rfl) ?_
  refine zw_wrap X (n := 3) (As := [.ref 0, .int (xs (7 * t + 1)), .ref 73]) (rest := []) (lw_versionOf Wd.1 (zEx_XOk ad) h1) (zz_inl (by decide +kernel)) ⟨by decide, by decide, by decide +kernel⟩ (by decide) rfl hl.1 (Nat.le_of_ble_eq_true rfl) hcs Wd.2.2.1 w.1 w.2.1 w.2.2 (zw_disC Wd) dw_2251 (fun H1 hS hP hPR => ?_)
  refine lv_istore (lv' := (5, .int k) :: zw_lv b ad adR t) hx hb dw_2254 hl (by decide) rfl (fun ls hl => ?_)
  refine lv_aload_n hx hb dw_2256 rfl (lv_at hl 4 rfl) ?_
  refine zw_arg (t := t) (j := 1) X hS ht (by decide) hL (lv_at hl 2 rfl) (lv_at hl 1 rfl) dw_2257 dw_2258 dw_2260 (by decide) dw_2261 dw_2262 ?_
  refine zw_virt X (n := 1) (S := zzSR) (ax := adR) (As := [.int (xs (7 * t + 1))]) (rest := []) (v := some (.int v)) (mm_X12_versionOf Wd.2.1).1 h2 (ci := 10) rfl rfl (zz_inl (by decide +kernel)) ⟨rfl, by decide, by decide, by decide +kernel⟩ (by decide) rfl hl.1 (Nat.le_of_ble_eq_true rfl) hcs Wd.2.2.2.1 hS hPR hP (zw_disR Wd) dw_2263 (fun H1 hS hPR hP => ?_)
  refine lv_istore (lv' := (6, .int v) :: (5, .int k) :: zw_lv b ad adR t) hx hb dw_2266 hl (by decide) rfl (fun ls hl => ?_)
  exact zw_finI X Wd h3 h5 hcs ⟨hS, hP, hPR⟩ hl dw_2268 dw_2269 dw_2272 dw_2274 dw_2279 dw_2281 dw_2284 dw_2285 dw_2286 dw_2287 dw_2289 dw_2290 dw_2291 dw_2296 (by decide) (fun H1 w hl => kk M2 R2 H1 ls h4 w hl)
theorem zw_c33 (X : zw_Fx p s m meth c b L xs D cA ad) (Wd : zw_Wd l s D cA ad adR) {t : Nat} (ht : 7 * t + 7 ≤ L) (hL : L ≤ 3584) : zw_Case p l e s m below meth c b L D cA ad adR Q 2299 t := by
  intro M R H ls cells slots hcs HR w hl kk
  have hx := X.1
  have hb := X.2.1
  obtain ⟨k, v, M2, R2, h1, h2, h3, h4, h5⟩ := zw_agree (b := false) (c_goingOf HR (xs (7 * t + 1)))
  refine lv_aload_n hx hb dw_2299 rfl (lv_at hl 2 rfl) ?_
  refine zw_arg (t := t) (j := 1) X w.1 ht (by decide) hL (lv_at hl 1 rfl) (lv_at hl 0 rfl) dw_2300 dw_2301 dw_2303 (by decide) dw_2304 dw_2305 ?_
  refine lv_aload_n hx hb dw_2306 rfl (lv_at hl 4 rfl) ?_
  refine zw_wrap X (n := 3) (As := [.ref 0, .int (xs (7 * t + 1)), .ref 73]) (rest := []) (lw_goingOf Wd.1 (zEx_XOk ad) h1) (zz_inl (by decide +kernel)) ⟨by decide, by decide, by decide +kernel⟩ (by decide) rfl hl.1 (Nat.le_of_ble_eq_true rfl) hcs Wd.2.2.1 w.1 w.2.1 w.2.2 (zw_disC Wd) dw_2307 (fun H1 hS hP hPR => ?_)
  refine lv_istore (lv' := (5, .int k) :: zw_lv b ad adR t) hx hb dw_2310 hl (by decide) rfl (fun ls hl => ?_)
  refine lv_aload_n hx hb dw_2312 rfl (lv_at hl 4 rfl) ?_
  refine zw_arg (t := t) (j := 1) X hS ht (by decide) hL (lv_at hl 2 rfl) (lv_at hl 1 rfl) dw_2313 dw_2314 dw_2316 (by decide) dw_2317 dw_2318 ?_
  refine zw_virt X (n := 1) (S := zzSR) (ax := adR) (As := [.int (xs (7 * t + 1))]) (rest := []) (v := some (.int v)) (mm_X12_goingOf Wd.2.1).1 h2 (ci := 10) rfl rfl (zz_inl (by decide +kernel)) ⟨rfl, by decide, by decide, by decide +kernel⟩ (by decide) rfl hl.1 (Nat.le_of_ble_eq_true rfl) hcs Wd.2.2.2.1 hS hPR hP (zw_disR Wd) dw_2319 (fun H1 hS hPR hP => ?_)
  refine lv_istore (lv' := (6, .int v) :: (5, .int k) :: zw_lv b ad adR t) hx hb dw_2322 hl (by decide) rfl (fun ls hl => ?_)
  exact zw_finI X Wd h3 h5 hcs ⟨hS, hP, hPR⟩ hl dw_2324 dw_2325 dw_2328 dw_2330 dw_2335 dw_2337 dw_2340 dw_2341 dw_2342 dw_2343 dw_2345 dw_2346 dw_2347 dw_2352 (by decide) (fun H1 w hl => kk M2 R2 H1 ls h4 w hl)
theorem zw_c34 (X : zw_Fx p s m meth c b L xs D cA ad) (Wd : zw_Wd l s D cA ad adR) {t : Nat} (ht : 7 * t + 7 ≤ L) (hL : L ≤ 3584) : zw_Case p l e s m below meth c b L D cA ad adR Q 2355 t := by
  intro M R H ls cells slots hcs HR w hl kk
  have hx := X.1
  have hb := X.2.1
  obtain ⟨k, v, M2, R2, h1, h2, h3, h4, h5⟩ := zw_agree (b := false) (c_ownerOf HR (xs (7 * t + 1)))
  refine lv_aload_n hx hb dw_2355 rfl (lv_at hl 2 rfl) ?_
  refine zw_arg (t := t) (j := 1) X w.1 ht (by decide) hL (lv_at hl 1 rfl) (lv_at hl 0 rfl) dw_2356 dw_2357 dw_2359 (by decide) dw_2360 dw_2361 ?_
  refine lv_aload_n hx hb dw_2362 rfl (lv_at hl 4 rfl) ?_
  refine zw_wrap X (n := 3) (As := [.ref 0, .int (xs (7 * t + 1)), .ref 73]) (rest := []) (lw_ownerOf Wd.1 (zEx_XOk ad) h1) (zz_inl (by decide +kernel)) ⟨by decide, by decide, by decide +kernel⟩ (by decide) rfl hl.1 (Nat.le_of_ble_eq_true rfl) hcs Wd.2.2.1 w.1 w.2.1 w.2.2 (zw_disC Wd) dw_2363 (fun H1 hS hP hPR => ?_)
  refine lv_istore (lv' := (5, .int k) :: zw_lv b ad adR t) hx hb dw_2366 hl (by decide) rfl (fun ls hl => ?_)
  refine lv_aload_n hx hb dw_2368 rfl (lv_at hl 4 rfl) ?_
  refine zw_arg (t := t) (j := 1) X hS ht (by decide) hL (lv_at hl 2 rfl) (lv_at hl 1 rfl) dw_2369 dw_2370 dw_2372 (by decide) dw_2373 dw_2374 ?_
  refine zw_virt X (n := 1) (S := zzSR) (ax := adR) (As := [.int (xs (7 * t + 1))]) (rest := []) (v := some (.int v)) (mm_X12_ownerOf Wd.2.1).1 h2 (ci := 10) rfl rfl (zz_inl (by decide +kernel)) ⟨rfl, by decide, by decide, by decide +kernel⟩ (by decide) rfl hl.1 (Nat.le_of_ble_eq_true rfl) hcs Wd.2.2.2.1 hS hPR hP (zw_disR Wd) dw_2375 (fun H1 hS hPR hP => ?_)
  refine lv_istore (lv' := (6, .int v) :: (5, .int k) :: zw_lv b ad adR t) hx hb dw_2378 hl (by decide) rfl (fun ls hl => ?_)
  exact zw_finI X Wd h3 h5 hcs ⟨hS, hP, hPR⟩ hl dw_2380 dw_2381 dw_2384 dw_2386 dw_2391 dw_2393 dw_2396 dw_2397 dw_2398 dw_2399 dw_2401 dw_2402 dw_2403 dw_2408 (by decide) (fun H1 w hl => kk M2 R2 H1 ls h4 w hl)
theorem zw_c35 (X : zw_Fx p s m meth c b L xs D cA ad) (Wd : zw_Wd l s D cA ad adR) {t : Nat} (ht : 7 * t + 7 ≤ L) (hL : L ≤ 3584) : zw_Case p l e s m below meth c b L D cA ad adR Q 2411 t := by
  intro M R H ls cells slots hcs HR w hl kk
  have hx := X.1
  have hb := X.2.1
  obtain ⟨k, v, M2, R2, h1, h2, h3, h4, h5⟩ := zw_agree (b := false) (c_phaseOf HR (xs (7 * t + 1)))
  refine lv_aload_n hx hb dw_2411 rfl (lv_at hl 2 rfl) ?_
  refine zw_arg (t := t) (j := 1) X w.1 ht (by decide) hL (lv_at hl 1 rfl) (lv_at hl 0 rfl) dw_2412 dw_2413 dw_2415 (by decide) dw_2416 dw_2417 ?_
  refine lv_aload_n hx hb dw_2418 rfl (lv_at hl 4 rfl) ?_
  refine zw_wrap X (n := 3) (As := [.ref 0, .int (xs (7 * t + 1)), .ref 73]) (rest := []) (lw_phaseOf Wd.1 (zEx_XOk ad) h1) (zz_inl (by decide +kernel)) ⟨by decide, by decide, by decide +kernel⟩ (by decide) rfl hl.1 (Nat.le_of_ble_eq_true rfl) hcs Wd.2.2.1 w.1 w.2.1 w.2.2 (zw_disC Wd) dw_2419 (fun H1 hS hP hPR => ?_)
  refine lv_istore (lv' := (5, .int k) :: zw_lv b ad adR t) hx hb dw_2422 hl (by decide) rfl (fun ls hl => ?_)
  refine lv_aload_n hx hb dw_2424 rfl (lv_at hl 4 rfl) ?_
  refine zw_arg (t := t) (j := 1) X hS ht (by decide) hL (lv_at hl 2 rfl) (lv_at hl 1 rfl) dw_2425 dw_2426 dw_2428 (by decide) dw_2429 dw_2430 ?_
  refine zw_virt X (n := 1) (S := zzSR) (ax := adR) (As := [.int (xs (7 * t + 1))]) (rest := []) (v := some (.int v)) (mm_X12_phaseOf Wd.2.1).1 h2 (ci := 10) rfl rfl (zz_inl (by decide +kernel)) ⟨rfl, by decide, by decide, by decide +kernel⟩ (by decide) rfl hl.1 (Nat.le_of_ble_eq_true rfl) hcs Wd.2.2.2.1 hS hPR hP (zw_disR Wd) dw_2431 (fun H1 hS hPR hP => ?_)
  refine lv_istore (lv' := (6, .int v) :: (5, .int k) :: zw_lv b ad adR t) hx hb dw_2434 hl (by decide) rfl (fun ls hl => ?_)
  exact zw_finI X Wd h3 h5 hcs ⟨hS, hP, hPR⟩ hl dw_2436 dw_2437 dw_2440 dw_2442 dw_2447 dw_2449 dw_2452 dw_2453 dw_2454 dw_2455 dw_2457 dw_2458 dw_2459 dw_2464 (by decide) (fun H1 w hl => kk M2 R2 H1 ls h4 w hl)
end

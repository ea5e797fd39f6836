section
theorem zz_atr (i : Nat) {w : Cond} (h : zzTB[i]? = some w) (g : goodWord w = true) : w ∈ zzG0 := List.mem_filter.mpr ⟨List.mem_of_getElem? h, g⟩
def hcA : Nat → Option Int32
  | 0 => some (-1272)
  | 1 => some (-1273)
  | 2 => some (-1271)
  | _ => none
def hcO : Nat → Option Int32
  | 0 => some (-1272)
  | 2 => some (-1271)
  | _ => none
theorem lz_hdA {pc : Nat} (h1 : covers ⟨0, 335, 336, 77⟩ pc = true) (h2 : covers ⟨0, 335, 342, 79⟩ pc = true) (h3 : covers ⟨0, 335, 348, 81⟩ pc = true) : ∀ x v, hcA x = some v → lz_hd cL_act [(0, 335, 336, 77), (0, 335, 342, 79), (0, 335, 348, 81)] 9 pc x v := by
  intro x v h
  rcases x with _ | _ | _ | x
  · cases h
    exact ⟨by decide, [⟨0, 335, 336, 77⟩], ⟨0, 335, 342, 79⟩, [⟨0, 335, 348, 81⟩], 8, _, rfl, h2, rfl, List.forall_mem_cons.mpr ⟨⟨2, by decide, by decide, rfl⟩, fun _ h => nomatch h⟩, dL_act_342, by decide, dL_act_344, by decide, dL_act_347⟩
  · cases h
    exact ⟨by decide, [⟨0, 335, 336, 77⟩, ⟨0, 335, 342, 79⟩], ⟨0, 335, 348, 81⟩, [], 8, _, rfl, h3, rfl, List.forall_mem_cons.mpr ⟨⟨2, by decide, by decide, rfl⟩, List.forall_mem_cons.mpr ⟨⟨0, by decide, by decide, rfl⟩, fun _ h => nomatch h⟩⟩, dL_act_348, by decide, dL_act_350, by decide, dL_act_353⟩
  · cases h
    exact ⟨by decide, [], ⟨0, 335, 336, 77⟩, [⟨0, 335, 342, 79⟩, ⟨0, 335, 348, 81⟩], 8, _, rfl, h1, rfl, fun _ h => (nomatch h), dL_act_336, by decide, dL_act_338, by decide, dL_act_341⟩
  · cases h
theorem lz_hdO {pc : Nat} (h1 : covers ⟨0, 256, 257, 77⟩ pc = true) (h2 : covers ⟨0, 256, 263, 79⟩ pc = true) : ∀ x v, hcO x = some v → lz_hd cL_of [(0, 256, 257, 77), (0, 256, 263, 79)] 6 pc x v := by
  intro x v h
  rcases x with _ | _ | _ | x
  · cases h
    exact ⟨by decide, [⟨0, 256, 257, 77⟩], ⟨0, 256, 263, 79⟩, [], 5, _, rfl, h2, rfl, List.forall_mem_cons.mpr ⟨⟨2, by decide, by decide, rfl⟩, fun _ h => nomatch h⟩, dL_of_263, by decide, dL_of_265, by decide, dL_of_268⟩
  · cases h
  · cases h
    exact ⟨by decide, [], ⟨0, 256, 257, 77⟩, [⟨0, 256, 263, 79⟩], 5, _, rfl, h1, rfl, fun _ h => (nomatch h), dL_of_257, by decide, dL_of_259, by decide, dL_of_262⟩
  · cases h
/-- what the law's world has besides its cells; sc: the script's numbers -/
def lzWd (l : Launch) (D : va_G) (cA : Nat → ClassId) (ad : Nat → Nat) (Ex : (Nat → Prop) → State → Heap → Prop) (sc : List Int32) : Prop := zzWC l D cA ad Ex ∧ lz_XOk Ex ∧ zz_St Ex ad (zzSTC ++ [sc])
set_option maxRecDepth 100000 in
theorem kc_9 : lz_KC RLw 9 2 yX11_make cX11_make 4 (some .int) := ⟨zz_atl [554, 555, 556, 36, 557] (by decide +kernel), by decide +kernel⟩
set_option maxRecDepth 100000 in
theorem kc_15 : lz_KC RLw 15 6 yX11_apply cX11_apply 7 (some .int) := ⟨zz_atl [625, 626, 627, 36, 628] (by decide +kernel), by decide +kernel⟩
set_option maxRecDepth 100000 in
theorem kc_19 : lz_KC RLw 19 4 yX11_applyBudget cX11_applyBudget 8 (some .int) := ⟨zz_atl [656, 657, 658, 36, 659] (by decide +kernel), by decide +kernel⟩
set_option maxRecDepth 100000 in
theorem kc_23 : lz_KC RLw 23 2 yX11_delete cX11_delete 3 (some .int) := ⟨zz_atl [672, 673, 674, 36, 675] (by decide +kernel), by decide +kernel⟩
set_option maxRecDepth 100000 in
theorem kc_26 : lz_KC RLw 26 2 yX11_hold cX11_hold 4 (some .boolean) := ⟨zz_atl [688, 689, 690, 36, 691] (by decide +kernel), by decide +kernel⟩
set_option maxRecDepth 100000 in
theorem kc_30 : lz_KC RLw 30 2 yX11_finish cX11_finish 4 (some .int) := ⟨zz_atl [697, 698, 699, 36, 700] (by decide +kernel), by decide +kernel⟩
set_option maxRecDepth 100000 in
theorem kc_34 : lz_KC RLw 34 6 yX11_rule cX11_rule 7 (some .int) := ⟨zz_atl [702, 703, 704, 36, 705] (by decide +kernel), by decide +kernel⟩
set_option maxRecDepth 100000 in
theorem kc_38 : lz_KC RLw 38 3 yX11_check cX11_check 4 (some .int) := ⟨zz_atl [712, 713, 714, 36, 715] (by decide +kernel), by decide +kernel⟩
set_option maxRecDepth 100000 in
theorem kc_42 : lz_KC RLw 42 1 yX11_quota cX11_quota 3 (some .int) := ⟨zz_atl [722, 723, 724, 36, 725] (by decide +kernel), by decide +kernel⟩
set_option maxRecDepth 100000 in
theorem kc_46 : lz_KC RLw 46 2 yX11_see cX11_see 4 (some .int) := ⟨zz_atl [727, 728, 729, 36, 730] (by decide +kernel), by decide +kernel⟩
set_option maxRecDepth 100000 in
theorem kc_49 : lz_KC RLw 49 1 yX11_work cX11_work 3 (some .int) := ⟨zz_atl [889, 890, 891, 36, 892] (by decide +kernel), by decide +kernel⟩
set_option maxRecDepth 100000 in
theorem kc_52 : lz_KC RLw 52 1 yX11_turn cX11_turn 8 (some .int) := ⟨zz_atl [1205, 1206, 1207, 36, 1208] (by decide +kernel), by decide +kernel⟩
set_option maxRecDepth 100000 in
theorem kc_55 : lz_KC RLw 55 2 yX11_watch cX11_watch 3 (some .int) := ⟨zz_atl [1222, 1223, 1224, 36, 1225] (by decide +kernel), by decide +kernel⟩
set_option maxRecDepth 100000 in
theorem kc_58 : lz_KC RLw 58 1 yX11_next cX11_next 2 (some .int) := ⟨zz_atl [1231, 1232, 1233, 36, 1234] (by decide +kernel), by decide +kernel⟩
set_option maxRecDepth 100000 in
theorem kc_61 : lz_KC RLw 61 1 yX11_compact cX11_compact 2 (some .int) := ⟨zz_atl [1237, 1238, 1239, 36, 1240] (by decide +kernel), by decide +kernel⟩
set_option maxRecDepth 100000 in
theorem kc_64 : lz_KC RLw 64 1 yX11_tick cX11_tick 3 (some .int) := ⟨zz_atl [1243, 1244, 1245, 36, 1246] (by decide +kernel), by decide +kernel⟩
set_option maxRecDepth 100000 in
theorem kc_67 : lz_KC RLw 67 1 yX11_beat cX11_beat 3 (some .boolean) := ⟨zz_atl [1255, 1256, 1257, 36, 1258] (by decide +kernel), by decide +kernel⟩
set_option maxRecDepth 100000 in
theorem kc_71 : lz_KC RLw 71 2 yX11_wish cX11_wish 4 (some .int) := ⟨zz_atl [1260, 1261, 1262, 36, 1263] (by decide +kernel), by decide +kernel⟩
set_option maxRecDepth 100000 in
theorem kc_74 : lz_KC RLw 74 1 yX11_list cX11_list 4 (some .int) := ⟨zz_atl [1265, 1266, 1267, 36, 1268] (by decide +kernel), by decide +kernel⟩
set_option maxRecDepth 100000 in
theorem kc_83 : lz_KC RLw 83 1 yX11_kindOf cX11_kindOf 2 (some .int) := ⟨zz_atl [450, 451, 452, 36, 453] (by decide +kernel), by decide +kernel⟩
set_option maxRecDepth 100000 in
theorem kc_86 : lz_KC RLw 86 2 yX11_field cX11_field 3 (some .int) := ⟨zz_atl [480, 481, 482, 36, 483] (by decide +kernel), by decide +kernel⟩
set_option maxRecDepth 100000 in
theorem kc_89 : lz_KC RLw 89 2 yX11_managerOf cX11_managerOf 3 (some .int) := ⟨zz_atl [497, 498, 499, 36, 500] (by decide +kernel), by decide +kernel⟩
set_option maxRecDepth 100000 in
theorem kc_92 : lz_KC RLw 92 1 yX11_budget cX11_budget 2 (some .int) := ⟨zz_atl [1275, 1276, 1277, 36, 1278] (by decide +kernel), by decide +kernel⟩
set_option maxRecDepth 100000 in
theorem kc_95 : lz_KC RLw 95 1 yX11_versionOf cX11_versionOf 2 (some .int) := ⟨zz_atl [501, 502, 503, 36, 504] (by decide +kernel), by decide +kernel⟩
set_option maxRecDepth 100000 in
theorem kc_98 : lz_KC RLw 98 1 yX11_goingOf cX11_goingOf 2 (some .int) := ⟨zz_atl [511, 512, 513, 36, 514] (by decide +kernel), by decide +kernel⟩
set_option maxRecDepth 100000 in
theorem kc_101 : lz_KC RLw 101 1 yX11_ownerOf cX11_ownerOf 2 (some .int) := ⟨zz_atl [515, 516, 517, 36, 518] (by decide +kernel), by decide +kernel⟩
set_option maxRecDepth 100000 in
theorem kc_104 : lz_KC RLw 104 1 yX11_phaseOf cX11_phaseOf 2 (some .int) := ⟨zz_atl [519, 520, 521, 36, 522] (by decide +kernel), by decide +kernel⟩
set_option maxRecDepth 100000 in
theorem kc_107 : lz_KC RLw 107 1 yX11_placeOf cX11_placeOf 2 (some .int) := ⟨zz_atl [1279, 1280, 1281, 36, 1282] (by decide +kernel), by decide +kernel⟩
set_option maxRecDepth 100000 in
theorem kc_110 : lz_KC RLw 110 1 yX11_isReady cX11_isReady 2 (some .boolean) := ⟨zz_atl [528, 529, 530, 36, 531] (by decide +kernel), by decide +kernel⟩
set_option maxRecDepth 100000 in
theorem kc_113 : lz_KC RLw 113 2 yX11_isBehind cX11_isBehind 4 (some .boolean) := ⟨zz_atl [1283, 1284, 1285, 36, 1286] (by decide +kernel), by decide +kernel⟩
set_option maxRecDepth 100000 in
theorem kc_117 : lz_KC RLw 117 2 yX11_running cX11_running 3 (some .int) := ⟨zz_atl [1287, 1288, 1289, 36, 1290] (by decide +kernel), by decide +kernel⟩
set_option maxRecDepth 100000 in
theorem kc_120 : lz_KC RLw 120 1 yX11_objectOf cX11_objectOf 2 (some .int) := ⟨zz_atl [532, 533, 534, 36, 535] (by decide +kernel), by decide +kernel⟩
set_option maxRecDepth 100000 in
theorem kc_123 : lz_KC RLw 123 1 yX11_seen cX11_seen 3 (some .int) := ⟨zz_atl [362, 363, 364, 36, 365] (by decide +kernel), by decide +kernel⟩
set_option maxRecDepth 100000 in
theorem kc_126 : lz_KC RLw 126 2 yX11_queued cX11_queued 4 (some .int) := ⟨zz_atl [1300, 1301, 1302, 36, 1303] (by decide +kernel), by decide +kernel⟩
set_option maxRecDepth 100000 in
theorem kc_129 : lz_KC RLw 129 2 yX11_failures cX11_failures 4 (some .int) := ⟨zz_atl [1316, 1317, 1318, 36, 1319] (by decide +kernel), by decide +kernel⟩
set_option maxRecDepth 100000 in
theorem kc_132 : lz_KC RLw 132 3 yX11_believed cX11_believed 5 (some .int) := ⟨zz_atl [1320, 1321, 1322, 36, 1323] (by decide +kernel), by decide +kernel⟩
set_option maxRecDepth 100000 in
theorem kl_141 : lz_KS RLw 141 5 yL_of (Cond.codeWith yL_of cL_of 6 (some .int) [(0, 256, 257, 77), (0, 256, 263, 79)]) 6 := lz_ksW (zz_inl (by decide +kernel)) (by decide +kernel)
set_option maxRecDepth 100000 in
theorem kc_151 : lz_KC RLw 151 0 yX11_version cX11_version 1 (some .int) := ⟨zz_atl [446, 447, 448, 36, 449] (by decide +kernel), by decide +kernel⟩
set_option maxRecDepth 100000 in
theorem kc_155 : lz_KC RLw 155 0 yX11_objects cX11_objects 1 (some .int) := ⟨zz_atl [442, 443, 444, 36, 445] (by decide +kernel), by decide +kernel⟩
set_option maxRecDepth 100000 in
theorem kl_158 : lz_KS RLw 158 2 yL_like (Cond.code yL_like cL_like 5 (some .long)) 5 := lz_ks (zz_atl [1342, 1343, 35, 1344] (by decide +kernel)) (by decide +kernel)
set_option maxRecDepth 100000 in
theorem kc_164 : lz_KC RLw 164 0 yX11_isSettled cX11_isSettled 3 (some .boolean) := ⟨zz_atl [438, 439, 440, 36, 441] (by decide +kernel), by decide +kernel⟩
set_option maxRecDepth 100000 in
theorem kl_168 : lz_KS RLw 168 8 yL_act (Cond.codeWith yL_act cL_act 9 (some .int) [(0, 335, 336, 77), (0, 335, 342, 79), (0, 335, 348, 81)]) 9 := lz_ksW (zz_inl (by decide +kernel)) (by decide +kernel)
set_option maxRecDepth 100000 in
theorem kl_172 : lz_KS RLw 172 1 yL_all (Cond.code yL_all cL_all 4 (some .long)) 4 := lz_ks (zz_atl [1337, 1338, 35, 1339] (by decide +kernel)) (by decide +kernel)
set_option maxRecDepth 1000000 in
set_option maxHeartbeats 4000000 in
theorem kl_177 : lz_KS RLw 177 2 yL_isRefused (Cond.code yL_isRefused cL_isRefused 13 (some .boolean)) 13 := lz_ks (List.forall_mem_cons.mpr ⟨zz_at 1349 (by decide +kernel), List.forall_mem_cons.mpr ⟨zz_at 1350 (by decide +kernel), List.forall_mem_cons.mpr ⟨zz_at 35 (by decide +kernel), List.forall_mem_cons.mpr ⟨zz_atr 1351 rfl (by decide +kernel), fun _ h => absurd h List.not_mem_nil⟩⟩⟩⟩) (by decide +kernel)
set_option maxRecDepth 100000 in
theorem kl_181 : lz_KS RLw 181 2 yL_dice (Cond.code yL_dice cL_dice 2 (some .int)) 2 := lz_ks (zz_atl [543, 544, 35, 545] (by decide +kernel)) (by decide +kernel)
set_option maxRecDepth 1000000 in
set_option maxHeartbeats 4000000 in
theorem kl_185 : lz_KS RLw 185 1 yL_isAtRest (Cond.code yL_isAtRest cL_isAtRest 9 (some .boolean)) 9 := lz_ks (List.forall_mem_cons.mpr ⟨zz_at 1331 (by decide +kernel), List.forall_mem_cons.mpr ⟨zz_at 1332 (by decide +kernel), List.forall_mem_cons.mpr ⟨zz_at 35 (by decide +kernel), List.forall_mem_cons.mpr ⟨zz_atr 1333 rfl (by decide +kernel), fun _ h => absurd h List.not_mem_nil⟩⟩⟩⟩) (by decide +kernel)
set_option maxRecDepth 100000 in
theorem kl_189 : lz_KS RLw 189 2 yL_isWorked (Cond.code yL_isWorked cL_isWorked 10 (some .boolean)) 10 := lz_ks (zz_atl [1334, 1335, 35, 1336] (by decide +kernel)) (by decide +kernel)
set_option maxRecDepth 100000 in
theorem kl_192 : lz_KS RLw 192 2 yL_areVersions (Cond.code yL_areVersions cL_areVersions 4 (some .boolean)) 4 := lz_ks (zz_atl [1269, 1270, 35, 1271] (by decide +kernel)) (by decide +kernel)
set_option maxRecDepth 1000000 in
set_option maxHeartbeats 4000000 in
theorem kl_196 : lz_KS RLw 196 1 yL_areObjects (Cond.code yL_areObjects cL_areObjects 9 (some .boolean)) 9 := lz_ks (List.forall_mem_cons.mpr ⟨zz_at 1328 (by decide +kernel), List.forall_mem_cons.mpr ⟨zz_at 1329 (by decide +kernel), List.forall_mem_cons.mpr ⟨zz_at 35 (by decide +kernel), List.forall_mem_cons.mpr ⟨zz_atr 1330 rfl (by decide +kernel), fun _ h => absurd h List.not_mem_nil⟩⟩⟩⟩) (by decide +kernel)
set_option maxRecDepth 100000 in
theorem kl_199 : lz_KS RLw 199 1 yL_areQueues (Cond.code yL_areQueues cL_areQueues 9 (some .boolean)) 9 := lz_ks (zz_atl [1325, 1326, 35, 1327] (by decide +kernel)) (by decide +kernel)
end

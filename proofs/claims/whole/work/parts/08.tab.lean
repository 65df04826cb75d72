theorem in1 {w : Cond} (h : w ∈ tables_1_1) : w ∈ lw_tbl := List.mem_append_right _ (show w ∈ tables_1 from (List.mem_append_left _ h))
theorem in2 {w : Cond} (h : w ∈ tables_1_2) : w ∈ lw_tbl := List.mem_append_right _ (show w ∈ tables_1 from (List.mem_append_right _ (List.mem_append_left _ h)))
theorem in3 {w : Cond} (h : w ∈ tables_1_3) : w ∈ lw_tbl := List.mem_append_right _ (show w ∈ tables_1 from (List.mem_append_right _ (List.mem_append_right _ (List.mem_append_left _ h))))
theorem in4 {w : Cond} (h : w ∈ tables_1_4) : w ∈ lw_tbl := List.mem_append_right _ (show w ∈ tables_1 from (List.mem_append_right _ (List.mem_append_right _ (List.mem_append_right _ (List.mem_append_left _ h)))))
theorem in5 {w : Cond} (h : w ∈ tables_1_5) : w ∈ lw_tbl := List.mem_append_right _ (show w ∈ tables_1 from (List.mem_append_right _ (List.mem_append_right _ (List.mem_append_right _ (List.mem_append_right _ (List.mem_append_left _ h))))))
theorem in6 {w : Cond} (h : w ∈ tables_1_6) : w ∈ lw_tbl := List.mem_append_right _ (show w ∈ tables_1 from (List.mem_append_right _ (List.mem_append_right _ (List.mem_append_right _ (List.mem_append_right _ (List.mem_append_right _ h))))))
theorem inS {w : Cond} (h : w ∈ k2_sels lw_privs) : w ∈ lw_tbl := List.mem_append_left _ h
theorem wIn {ws : List Cond} {big : List Cond} (hb : ∀ w ∈ big, w ∈ lw_tbl) (ps : List Nat) (hp : ws = ps.filterMap (fun i => big[i]?)) (h : ws.all goodWord = true) : ∀ w ∈ ws, w ∈ lw_tbl ∧ goodWord w = true := by
  intro w hw
  refine ⟨?_, List.all_eq_true.mp h w hw⟩
  rw [hp] at hw
  obtain ⟨i, -, hi⟩ := List.mem_filterMap.mp hw
  exact hb w (List.mem_of_getElem? hi)
theorem inT {w : Cond} (h : w ∈ tables_1) : w ∈ lw_tbl := List.mem_append_right _ h
theorem wX0 : ∀ w ∈ u_ws RX0 TX0 5, w ∈ lw_tbl ∧ goodWord w = true := wIn (big := tables_1) (fun w h => inT h) [228, 230, 232, 234, 236] (by decide +kernel) (by decide +kernel)
theorem wX1 : ∀ w ∈ u_ws RX1 TX1 7, w ∈ lw_tbl ∧ goodWord w = true := wIn (big := tables_1) (fun w h => inT h) [42, 44, 46, 48, 50, 52, 54] (by decide +kernel) (by decide +kernel)
theorem wX2 : ∀ w ∈ u_ws RX2 TX2 4, w ∈ lw_tbl ∧ goodWord w = true := wIn (big := tables_1) (fun w h => inT h) [173, 175, 177, 179] (by decide +kernel) (by decide +kernel)
theorem wX3 : ∀ w ∈ u_ws RX3 TX3 4, w ∈ lw_tbl ∧ goodWord w = true := wIn (big := tables_1) (fun w h => inT h) [69, 71, 73, 75] (by decide +kernel) (by decide +kernel)
theorem wX4 : ∀ w ∈ u_ws RX4 TX4 4, w ∈ lw_tbl ∧ goodWord w = true := wIn (big := tables_1) (fun w h => inT h) [249, 251, 253, 255] (by decide +kernel) (by decide +kernel)
theorem wX5 : ∀ w ∈ u_ws RX5 TX5 6, w ∈ lw_tbl ∧ goodWord w = true := wIn (big := tables_1) (fun w h => inT h) [150, 152, 154, 156, 158, 160] (by decide +kernel) (by decide +kernel)
theorem wX6 : ∀ w ∈ u_ws RX6 TX6 9, w ∈ lw_tbl ∧ goodWord w = true := wIn (big := tables_1) (fun w h => inT h) [197, 199, 201, 203, 205, 207, 209, 211, 213] (by decide +kernel) (by decide +kernel)
theorem wX7 : ∀ w ∈ u_ws RX7 TX7 6, w ∈ lw_tbl ∧ goodWord w = true := wIn (big := tables_1) (fun w h => inT h) [103, 105, 107, 109, 111, 113] (by decide +kernel) (by decide +kernel)
theorem wX8 : ∀ w ∈ u_ws RX8 TX8 2, w ∈ lw_tbl ∧ goodWord w = true := wIn (big := tables_1) (fun w h => inT h) [86, 88] (by decide +kernel) (by decide +kernel)
theorem wX9 : ∀ w ∈ u_ws RX9 TX9 5, w ∈ lw_tbl ∧ goodWord w = true := wIn (big := tables_1) (fun w h => inT h) [129, 131, 133, 135, 137] (by decide +kernel) (by decide +kernel)
theorem wX10 : ∀ w ∈ u_ws RX10 TX10 7, w ∈ lw_tbl ∧ goodWord w = true := wIn (big := tables_1) (fun w h => inT h) [271, 273, 275, 277, 279, 281, 283] (by decide +kernel) (by decide +kernel)
theorem wX11 : ∀ w ∈ u_ws RX11 TX11 13, w ∈ lw_tbl ∧ goodWord w = true := wIn (big := tables_1) (fun w h => inT h) [299, 301, 303, 305, 307, 309, 311, 313, 315, 317, 319, 321, 323] (by decide +kernel) (by decide +kernel)
theorem wX12 : ∀ w ∈ u_ws RX12 TX12 60, w ∈ lw_tbl ∧ goodWord w = true := wIn (big := tables_1) (fun w h => inT h) [956, 958, 960, 962, 964, 966, 968, 970, 972, 974, 976, 978, 980, 982, 984, 986, 988, 990, 992, 994, 996, 998, 1000, 1002, 1004, 1006, 1008, 1010, 1012, 1014, 1016, 1018, 1020, 1022, 1024, 1026, 1028, 1030, 1032, 1034, 1036, 1038, 1040, 1042, 1044, 1046, 1048, 1050, 1052, 1054, 1056, 1058, 1060, 1062, 1064, 1066, 1068, 1070, 1072, 1074] (by decide +kernel) (by decide +kernel)
abbrev mX0_init : MD := (yX0_init, cX0_init, 1, none)
theorem oX0_init : MOKi mX0_init 0 := ⟨⟨in1 (List.mem_of_getElem? (i := 221) rfl), in1 (List.mem_of_getElem? (i := 10) (by decide +kernel)), by decide +kernel, by decide +kernel, by decide +kernel, by decide⟩, rfl, rfl, in1 (List.mem_of_getElem? (i := 220) (by decide +kernel))⟩
abbrev mX0_count : MD := (yX0_count, cX0_count, 1, (some .int))
theorem oX0_count : MOKv mX0_count 0 := ⟨⟨in4 (List.mem_of_getElem? (i := 79) rfl), in1 (List.mem_of_getElem? (i := 10) (by decide +kernel)), by decide +kernel, by decide +kernel, by decide +kernel, by decide⟩, in4 (List.mem_of_getElem? (i := 77) (by decide +kernel)), in4 (List.mem_of_getElem? (i := 78) (by decide +kernel))⟩
abbrev mX0_spoiltSoFar : MD := (yX0_spoiltSoFar, cX0_spoiltSoFar, 1, (some .int))
theorem oX0_spoiltSoFar : MOKv mX0_spoiltSoFar 0 := ⟨⟨in4 (List.mem_of_getElem? (i := 87) rfl), in1 (List.mem_of_getElem? (i := 10) (by decide +kernel)), by decide +kernel, by decide +kernel, by decide +kernel, by decide⟩, in4 (List.mem_of_getElem? (i := 85) (by decide +kernel)), in4 (List.mem_of_getElem? (i := 86) (by decide +kernel))⟩
abbrev mX0_firstLast : MD := (yX0_firstLast, cX0_firstLast, 1, (some .int))
theorem oX0_firstLast : MOKv mX0_firstLast 0 := ⟨⟨in4 (List.mem_of_getElem? (i := 91) rfl), in1 (List.mem_of_getElem? (i := 10) (by decide +kernel)), by decide +kernel, by decide +kernel, by decide +kernel, by decide⟩, in4 (List.mem_of_getElem? (i := 89) (by decide +kernel)), in4 (List.mem_of_getElem? (i := 90) (by decide +kernel))⟩
abbrev mX0_total : MD := (yX0_total, cX0_total, 3, (some .int))
theorem oX0_total : MOKv mX0_total 0 := ⟨⟨in4 (List.mem_of_getElem? (i := 83) rfl), in1 (List.mem_of_getElem? (i := 10) (by decide +kernel)), by decide +kernel, by decide +kernel, by decide +kernel, by decide⟩, in4 (List.mem_of_getElem? (i := 81) (by decide +kernel)), in4 (List.mem_of_getElem? (i := 82) (by decide +kernel))⟩
abbrev mX0_add : MD := (yX0_add, cX0_add, 4, (some .int))
theorem oX0_add : MOKv mX0_add 2 := ⟨⟨in4 (List.mem_of_getElem? (i := 12) rfl), in1 (List.mem_of_getElem? (i := 10) (by decide +kernel)), by decide +kernel, by decide +kernel, by decide +kernel, by decide⟩, in4 (List.mem_of_getElem? (i := 10) (by decide +kernel)), in4 (List.mem_of_getElem? (i := 11) (by decide +kernel))⟩
abbrev mX0_spoil : MD := (yX0_spoil, cX0_spoil, 3, none)
theorem oX0_spoil : MOKv mX0_spoil 1 := ⟨⟨in4 (List.mem_of_getElem? (i := 47) rfl), in1 (List.mem_of_getElem? (i := 10) (by decide +kernel)), by decide +kernel, by decide +kernel, by decide +kernel, by decide⟩, in4 (List.mem_of_getElem? (i := 45) (by decide +kernel)), in4 (List.mem_of_getElem? (i := 46) (by decide +kernel))⟩
abbrev mX0_take : MD := (yX0_take, cX0_take, 4, (some .int))
theorem oX0_take : MOKv mX0_take 1 := ⟨⟨in4 (List.mem_of_getElem? (i := 63) rfl), in1 (List.mem_of_getElem? (i := 10) (by decide +kernel)), by decide +kernel, by decide +kernel, by decide +kernel, by decide⟩, in4 (List.mem_of_getElem? (i := 61) (by decide +kernel)), in4 (List.mem_of_getElem? (i := 62) (by decide +kernel))⟩
abbrev mX0_nightsFor : MD := (yX0_nightsFor, cX0_nightsFor, 4, (some .int))
theorem oX0_nightsFor : MOKv mX0_nightsFor 2 := ⟨⟨in4 (List.mem_of_getElem? (i := 104) rfl), in1 (List.mem_of_getElem? (i := 10) (by decide +kernel)), by decide +kernel, by decide +kernel, by decide +kernel, by decide⟩, in4 (List.mem_of_getElem? (i := 102) (by decide +kernel)), in4 (List.mem_of_getElem? (i := 103) (by decide +kernel))⟩
abbrev mX0_suffices : MD := (yX0_suffices, cX0_suffices, 6, (some .boolean))
theorem oX0_suffices : MOKv mX0_suffices 2 := ⟨⟨in4 (List.mem_of_getElem? (i := 109) rfl), in1 (List.mem_of_getElem? (i := 10) (by decide +kernel)), by decide +kernel, by decide +kernel, by decide +kernel, by decide⟩, in4 (List.mem_of_getElem? (i := 108) (by decide +kernel)), inS (List.mem_of_getElem? (i := 22) (by decide +kernel))⟩
abbrev mX0_drop : MD := (yX0_drop, cX0_drop, 3, none)
theorem oX0_drop : MOKv mX0_drop 1 := ⟨⟨in4 (List.mem_of_getElem? (i := 51) rfl), in1 (List.mem_of_getElem? (i := 10) (by decide +kernel)), by decide +kernel, by decide +kernel, by decide +kernel, by decide⟩, in4 (List.mem_of_getElem? (i := 50) (by decide +kernel)), inS (List.mem_of_getElem? (i := 20) (by decide +kernel))⟩
abbrev mX1_init : MD := (yX1_init, cX1_init, 1, none)
theorem oX1_init : MOKi mX1_init 0 := ⟨⟨in1 (List.mem_of_getElem? (i := 33) rfl), in1 (List.mem_of_getElem? (i := 2) (by decide +kernel)), by decide +kernel, by decide +kernel, by decide +kernel, by decide⟩, rfl, rfl, in1 (List.mem_of_getElem? (i := 32) (by decide +kernel))⟩
abbrev mX1_count : MD := (yX1_count, cX1_count, 1, (some .int))
theorem oX1_count : MOKv mX1_count 0 := ⟨⟨in3 (List.mem_of_getElem? (i := 188) rfl), in1 (List.mem_of_getElem? (i := 2) (by decide +kernel)), by decide +kernel, by decide +kernel, by decide +kernel, by decide⟩, in3 (List.mem_of_getElem? (i := 186) (by decide +kernel)), in3 (List.mem_of_getElem? (i := 187) (by decide +kernel))⟩
abbrev mX1_has : MD := (yX1_has, cX1_has, 2, (some .boolean))
theorem oX1_has : MOKv mX1_has 1 := ⟨⟨in2 (List.mem_of_getElem? (i := 112) rfl), in1 (List.mem_of_getElem? (i := 2) (by decide +kernel)), by decide +kernel, by decide +kernel, by decide +kernel, by decide⟩, in2 (List.mem_of_getElem? (i := 110) (by decide +kernel)), in2 (List.mem_of_getElem? (i := 111) (by decide +kernel))⟩
abbrev mX1_add : MD := (yX1_add, cX1_add, 4, (some .int))
theorem oX1_add : MOKv mX1_add 3 := ⟨⟨in2 (List.mem_of_getElem? (i := 96) rfl), in1 (List.mem_of_getElem? (i := 2) (by decide +kernel)), by decide +kernel, by decide +kernel, by decide +kernel, by decide⟩, in2 (List.mem_of_getElem? (i := 94) (by decide +kernel)), in2 (List.mem_of_getElem? (i := 95) (by decide +kernel))⟩
abbrev mX1_kindOf : MD := (yX1_kindOf, cX1_kindOf, 2, (some .int))
theorem oX1_kindOf : MOKv mX1_kindOf 1 := ⟨⟨in3 (List.mem_of_getElem? (i := 129) rfl), in1 (List.mem_of_getElem? (i := 2) (by decide +kernel)), by decide +kernel, by decide +kernel, by decide +kernel, by decide⟩, in3 (List.mem_of_getElem? (i := 127) (by decide +kernel)), in3 (List.mem_of_getElem? (i := 128) (by decide +kernel))⟩
abbrev mX1_ageOf : MD := (yX1_ageOf, cX1_ageOf, 2, (some .int))
theorem oX1_ageOf : MOKv mX1_ageOf 1 := ⟨⟨in3 (List.mem_of_getElem? (i := 133) rfl), in1 (List.mem_of_getElem? (i := 2) (by decide +kernel)), by decide +kernel, by decide +kernel, by decide +kernel, by decide⟩, in3 (List.mem_of_getElem? (i := 131) (by decide +kernel)), in3 (List.mem_of_getElem? (i := 132) (by decide +kernel))⟩
abbrev mX1_cameOf : MD := (yX1_cameOf, cX1_cameOf, 2, (some .int))
theorem oX1_cameOf : MOKv mX1_cameOf 1 := ⟨⟨in3 (List.mem_of_getElem? (i := 137) rfl), in1 (List.mem_of_getElem? (i := 2) (by decide +kernel)), by decide +kernel, by decide +kernel, by decide +kernel, by decide⟩, in3 (List.mem_of_getElem? (i := 135) (by decide +kernel)), in3 (List.mem_of_getElem? (i := 136) (by decide +kernel))⟩
abbrev mX1_isLame : MD := (yX1_isLame, cX1_isLame, 2, (some .boolean))
theorem oX1_isLame : MOKv mX1_isLame 1 := ⟨⟨in3 (List.mem_of_getElem? (i := 141) rfl), in1 (List.mem_of_getElem? (i := 2) (by decide +kernel)), by decide +kernel, by decide +kernel, by decide +kernel, by decide⟩, in3 (List.mem_of_getElem? (i := 139) (by decide +kernel)), in3 (List.mem_of_getElem? (i := 140) (by decide +kernel))⟩
abbrev mX1_setLame : MD := (yX1_setLame, cX1_setLame, 3, none)
theorem oX1_setLame : MOKv mX1_setLame 2 := ⟨⟨in2 (List.mem_of_getElem? (i := 116) rfl), in1 (List.mem_of_getElem? (i := 2) (by decide +kernel)), by decide +kernel, by decide +kernel, by decide +kernel, by decide⟩, in2 (List.mem_of_getElem? (i := 114) (by decide +kernel)), in2 (List.mem_of_getElem? (i := 115) (by decide +kernel))⟩
abbrev mX1_wantedOf : MD := (yX1_wantedOf, cX1_wantedOf, 3, (some .int))
theorem oX1_wantedOf : MOKv mX1_wantedOf 2 := ⟨⟨in4 (List.mem_of_getElem? (i := 59) rfl), in1 (List.mem_of_getElem? (i := 2) (by decide +kernel)), by decide +kernel, by decide +kernel, by decide +kernel, by decide⟩, in4 (List.mem_of_getElem? (i := 57) (by decide +kernel)), in4 (List.mem_of_getElem? (i := 58) (by decide +kernel))⟩
abbrev mX1_setWanted : MD := (yX1_setWanted, cX1_setWanted, 4, none)
theorem oX1_setWanted : MOKv mX1_setWanted 3 := ⟨⟨in4 (List.mem_of_getElem? (i := 20) rfl), in1 (List.mem_of_getElem? (i := 2) (by decide +kernel)), by decide +kernel, by decide +kernel, by decide +kernel, by decide⟩, in4 (List.mem_of_getElem? (i := 18) (by decide +kernel)), in4 (List.mem_of_getElem? (i := 19) (by decide +kernel))⟩
abbrev mX1_wantedByAll : MD := (yX1_wantedByAll, cX1_wantedByAll, 4, (some .int))
theorem oX1_wantedByAll : MOKv mX1_wantedByAll 1 := ⟨⟨in4 (List.mem_of_getElem? (i := 99) rfl), in1 (List.mem_of_getElem? (i := 2) (by decide +kernel)), by decide +kernel, by decide +kernel, by decide +kernel, by decide⟩, in4 (List.mem_of_getElem? (i := 97) (by decide +kernel)), in4 (List.mem_of_getElem? (i := 98) (by decide +kernel))⟩
abbrev mX1_lackedOf : MD := (yX1_lackedOf, cX1_lackedOf, 2, (some .int))
theorem oX1_lackedOf : MOKv mX1_lackedOf 1 := ⟨⟨in4 (List.mem_of_getElem? (i := 153) rfl), in1 (List.mem_of_getElem? (i := 2) (by decide +kernel)), by decide +kernel, by decide +kernel, by decide +kernel, by decide⟩, in4 (List.mem_of_getElem? (i := 151) (by decide +kernel)), in4 (List.mem_of_getElem? (i := 152) (by decide +kernel))⟩
abbrev mX1_addLacked : MD := (yX1_addLacked, cX1_addLacked, 3, none)
theorem oX1_addLacked : MOKv mX1_addLacked 2 := ⟨⟨in4 (List.mem_of_getElem? (i := 67) rfl), in1 (List.mem_of_getElem? (i := 2) (by decide +kernel)), by decide +kernel, by decide +kernel, by decide +kernel, by decide⟩, in4 (List.mem_of_getElem? (i := 65) (by decide +kernel)), in4 (List.mem_of_getElem? (i := 66) (by decide +kernel))⟩
abbrev mX2_init : MD := (yX2_init, cX2_init, 4, none)
theorem oX2_init : MOKi mX2_init 3 := ⟨⟨in1 (List.mem_of_getElem? (i := 167) rfl), in1 (List.mem_of_getElem? (i := 8) (by decide +kernel)), by decide +kernel, by decide +kernel, by decide +kernel, by decide⟩, rfl, rfl, in1 (List.mem_of_getElem? (i := 166) (by decide +kernel))⟩
abbrev mX2_mayBe : MD := (yX2_mayBe, cX2_mayBe, 5, (some .boolean))
theorem oX2_mayBe : MOKv mX2_mayBe 4 := ⟨⟨in3 (List.mem_of_getElem? (i := 117) rfl), in1 (List.mem_of_getElem? (i := 8) (by decide +kernel)), by decide +kernel, by decide +kernel, by decide +kernel, by decide⟩, in3 (List.mem_of_getElem? (i := 115) (by decide +kernel)), in3 (List.mem_of_getElem? (i := 116) (by decide +kernel))⟩
abbrev mX2_mayMeet : MD := (yX2_mayMeet, cX2_mayMeet, 7, (some .boolean))
theorem oX2_mayMeet : MOKv mX2_mayMeet 6 := ⟨⟨in3 (List.mem_of_getElem? (i := 161) rfl), in1 (List.mem_of_getElem? (i := 8) (by decide +kernel)), by decide +kernel, by decide +kernel, by decide +kernel, by decide⟩, in3 (List.mem_of_getElem? (i := 159) (by decide +kernel)), in3 (List.mem_of_getElem? (i := 160) (by decide +kernel))⟩
abbrev mX2_tellOfOne : MD := (yX2_tellOfOne, cX2_tellOfOne, 5, none)
theorem oX2_tellOfOne : MOKv mX2_tellOfOne 4 := ⟨⟨in3 (List.mem_of_getElem? (i := 125) rfl), in1 (List.mem_of_getElem? (i := 8) (by decide +kernel)), by decide +kernel, by decide +kernel, by decide +kernel, by decide⟩, in3 (List.mem_of_getElem? (i := 124) (by decide +kernel)), inS (List.mem_of_getElem? (i := 12) (by decide +kernel))⟩
abbrev mX2_tellOfOther : MD := (yX2_tellOfOther, cX2_tellOfOther, 3, none)
theorem oX2_tellOfOther : MOKv mX2_tellOfOther 2 := ⟨⟨in3 (List.mem_of_getElem? (i := 169) rfl), in1 (List.mem_of_getElem? (i := 8) (by decide +kernel)), by decide +kernel, by decide +kernel, by decide +kernel, by decide⟩, in3 (List.mem_of_getElem? (i := 168) (by decide +kernel)), inS (List.mem_of_getElem? (i := 14) (by decide +kernel))⟩
abbrev mX3_init : MD := (yX3_init, cX3_init, 1, none)
theorem oX3_init : MOKi mX3_init 0 := ⟨⟨in1 (List.mem_of_getElem? (i := 63) rfl), in1 (List.mem_of_getElem? (i := 3) (by decide +kernel)), by decide +kernel, by decide +kernel, by decide +kernel, by decide⟩, rfl, rfl, in1 (List.mem_of_getElem? (i := 62) (by decide +kernel))⟩
abbrev mX3_lay : MD := (yX3_lay, cX3_lay, 4, none)
theorem oX3_lay : MOKv mX3_lay 3 := ⟨⟨in2 (List.mem_of_getElem? (i := 127) rfl), in1 (List.mem_of_getElem? (i := 3) (by decide +kernel)), by decide +kernel, by decide +kernel, by decide +kernel, by decide⟩, in2 (List.mem_of_getElem? (i := 125) (by decide +kernel)), in2 (List.mem_of_getElem? (i := 126) (by decide +kernel))⟩
abbrev mX3_close : MD := (yX3_close, cX3_close, 3, none)
theorem oX3_close : MOKv mX3_close 2 := ⟨⟨in2 (List.mem_of_getElem? (i := 136) rfl), in1 (List.mem_of_getElem? (i := 3) (by decide +kernel)), by decide +kernel, by decide +kernel, by decide +kernel, by decide⟩, in2 (List.mem_of_getElem? (i := 134) (by decide +kernel)), in2 (List.mem_of_getElem? (i := 135) (by decide +kernel))⟩
abbrev mX3_setGate : MD := (yX3_setGate, cX3_setGate, 4, none)
theorem oX3_setGate : MOKv mX3_setGate 3 := ⟨⟨in2 (List.mem_of_getElem? (i := 144) rfl), in1 (List.mem_of_getElem? (i := 3) (by decide +kernel)), by decide +kernel, by decide +kernel, by decide +kernel, by decide⟩, in2 (List.mem_of_getElem? (i := 142) (by decide +kernel)), in2 (List.mem_of_getElem? (i := 143) (by decide +kernel))⟩
abbrev mX3_roomOf : MD := (yX3_roomOf, cX3_roomOf, 2, (some .int))
theorem oX3_roomOf : MOKv mX3_roomOf 1 := ⟨⟨in3 (List.mem_of_getElem? (i := 208) rfl), in1 (List.mem_of_getElem? (i := 3) (by decide +kernel)), by decide +kernel, by decide +kernel, by decide +kernel, by decide⟩, in3 (List.mem_of_getElem? (i := 206) (by decide +kernel)), in3 (List.mem_of_getElem? (i := 207) (by decide +kernel))⟩
abbrev mX3_wetOf : MD := (yX3_wetOf, cX3_wetOf, 2, (some .int))
theorem oX3_wetOf : MOKv mX3_wetOf 1 := ⟨⟨in3 (List.mem_of_getElem? (i := 145) rfl), in1 (List.mem_of_getElem? (i := 3) (by decide +kernel)), by decide +kernel, by decide +kernel, by decide +kernel, by decide⟩, in3 (List.mem_of_getElem? (i := 143) (by decide +kernel)), in3 (List.mem_of_getElem? (i := 144) (by decide +kernel))⟩
abbrev mX3_isOpen : MD := (yX3_isOpen, cX3_isOpen, 3, (some .boolean))
theorem oX3_isOpen : MOKv mX3_isOpen 2 := ⟨⟨in3 (List.mem_of_getElem? (i := 121) rfl), in1 (List.mem_of_getElem? (i := 3) (by decide +kernel)), by decide +kernel, by decide +kernel, by decide +kernel, by decide⟩, in3 (List.mem_of_getElem? (i := 119) (by decide +kernel)), in3 (List.mem_of_getElem? (i := 120) (by decide +kernel))⟩
abbrev mX3_touch : MD := (yX3_touch, cX3_touch, 3, (some .boolean))
theorem oX3_touch : MOKv mX3_touch 2 := ⟨⟨in3 (List.mem_of_getElem? (i := 165) rfl), in1 (List.mem_of_getElem? (i := 3) (by decide +kernel)), by decide +kernel, by decide +kernel, by decide +kernel, by decide⟩, in3 (List.mem_of_getElem? (i := 163) (by decide +kernel)), in3 (List.mem_of_getElem? (i := 164) (by decide +kernel))⟩
abbrev mX4_init : MD := (yX4_init, cX4_init, 1, none)
theorem oX4_init : MOKi mX4_init 0 := ⟨⟨in2 (List.mem_of_getElem? (i := 3) rfl), in1 (List.mem_of_getElem? (i := 11) (by decide +kernel)), by decide +kernel, by decide +kernel, by decide +kernel, by decide⟩, rfl, rfl, in2 (List.mem_of_getElem? (i := 2) (by decide +kernel))⟩
abbrev mX4_count : MD := (yX4_count, cX4_count, 1, (some .int))
theorem oX4_count : MOKv mX4_count 0 := ⟨⟨in4 (List.mem_of_getElem? (i := 169) rfl), in1 (List.mem_of_getElem? (i := 11) (by decide +kernel)), by decide +kernel, by decide +kernel, by decide +kernel, by decide⟩, in4 (List.mem_of_getElem? (i := 167) (by decide +kernel)), in4 (List.mem_of_getElem? (i := 168) (by decide +kernel))⟩
abbrev mX4_haveRoomFor : MD := (yX4_haveRoomFor, cX4_haveRoomFor, 2, (some .boolean))
theorem oX4_haveRoomFor : MOKv mX4_haveRoomFor 1 := ⟨⟨in4 (List.mem_of_getElem? (i := 43) rfl), in1 (List.mem_of_getElem? (i := 11) (by decide +kernel)), by decide +kernel, by decide +kernel, by decide +kernel, by decide⟩, in4 (List.mem_of_getElem? (i := 41) (by decide +kernel)), in4 (List.mem_of_getElem? (i := 42) (by decide +kernel))⟩
abbrev mX4_add : MD := (yX4_add, cX4_add, 4, none)
theorem oX4_add : MOKv mX4_add 3 := ⟨⟨in4 (List.mem_of_getElem? (i := 71) rfl), in1 (List.mem_of_getElem? (i := 11) (by decide +kernel)), by decide +kernel, by decide +kernel, by decide +kernel, by decide⟩, in4 (List.mem_of_getElem? (i := 69) (by decide +kernel)), in4 (List.mem_of_getElem? (i := 70) (by decide +kernel))⟩
abbrev mX4_cost : MD := (yX4_cost, cX4_cost, 8, (some .int))
theorem oX4_cost : MOKv mX4_cost 4 := ⟨⟨in4 (List.mem_of_getElem? (i := 140) rfl), in1 (List.mem_of_getElem? (i := 11) (by decide +kernel)), by decide +kernel, by decide +kernel, by decide +kernel, by decide⟩, in4 (List.mem_of_getElem? (i := 138) (by decide +kernel)), in4 (List.mem_of_getElem? (i := 139) (by decide +kernel))⟩
abbrev mX5_init : MD := (yX5_init, cX5_init, 3, none)
theorem oX5_init : MOKi mX5_init 2 := ⟨⟨in1 (List.mem_of_getElem? (i := 142) rfl), in1 (List.mem_of_getElem? (i := 6) (by decide +kernel)), by decide +kernel, by decide +kernel, by decide +kernel, by decide⟩, rfl, rfl, in1 (List.mem_of_getElem? (i := 141) (by decide +kernel))⟩
abbrev mX5_faultFound : MD := (yX5_faultFound, cX5_faultFound, 1, (some .int))
theorem oX5_faultFound : MOKv mX5_faultFound 0 := ⟨⟨in3 (List.mem_of_getElem? (i := 102) rfl), in1 (List.mem_of_getElem? (i := 6) (by decide +kernel)), by decide +kernel, by decide +kernel, by decide +kernel, by decide⟩, in3 (List.mem_of_getElem? (i := 100) (by decide +kernel)), in3 (List.mem_of_getElem? (i := 101) (by decide +kernel))⟩
abbrev mX5_faultPlace : MD := (yX5_faultPlace, cX5_faultPlace, 1, (some .int))
theorem oX5_faultPlace : MOKv mX5_faultPlace 0 := ⟨⟨in3 (List.mem_of_getElem? (i := 106) rfl), in1 (List.mem_of_getElem? (i := 6) (by decide +kernel)), by decide +kernel, by decide +kernel, by decide +kernel, by decide⟩, in3 (List.mem_of_getElem? (i := 104) (by decide +kernel)), in3 (List.mem_of_getElem? (i := 105) (by decide +kernel))⟩
abbrev mX5_readRules : MD := (yX5_readRules, cX5_readRules, 3, (some .boolean))
theorem oX5_readRules : MOKv mX5_readRules 0 := ⟨⟨in2 (List.mem_of_getElem? (i := 172) rfl), in1 (List.mem_of_getElem? (i := 6) (by decide +kernel)), by decide +kernel, by decide +kernel, by decide +kernel, by decide⟩, in2 (List.mem_of_getElem? (i := 170) (by decide +kernel)), in2 (List.mem_of_getElem? (i := 171) (by decide +kernel))⟩
abbrev mX5_readEither : MD := (yX5_readEither, cX5_readEither, 3, (some .boolean))
theorem oX5_readEither : MOKv mX5_readEither 1 := ⟨⟨in3 (List.mem_of_getElem? (i := 46) rfl), in1 (List.mem_of_getElem? (i := 6) (by decide +kernel)), by decide +kernel, by decide +kernel, by decide +kernel, by decide⟩, in3 (List.mem_of_getElem? (i := 45) (by decide +kernel)), inS (List.mem_of_getElem? (i := 5) (by decide +kernel))⟩
abbrev mX5_readBoth : MD := (yX5_readBoth, cX5_readBoth, 3, (some .boolean))
theorem oX5_readBoth : MOKv mX5_readBoth 1 := ⟨⟨in3 (List.mem_of_getElem? (i := 50) rfl), in1 (List.mem_of_getElem? (i := 6) (by decide +kernel)), by decide +kernel, by decide +kernel, by decide +kernel, by decide⟩, in3 (List.mem_of_getElem? (i := 49) (by decide +kernel)), inS (List.mem_of_getElem? (i := 6) (by decide +kernel))⟩
abbrev mX5_readOne : MD := (yX5_readOne, cX5_readOne, 2, (some .boolean))
theorem oX5_readOne : MOKv mX5_readOne 1 := ⟨⟨in3 (List.mem_of_getElem? (i := 54) rfl), in1 (List.mem_of_getElem? (i := 6) (by decide +kernel)), by decide +kernel, by decide +kernel, by decide +kernel, by decide⟩, in3 (List.mem_of_getElem? (i := 53) (by decide +kernel)), inS (List.mem_of_getElem? (i := 7) (by decide +kernel))⟩
abbrev mX5_readComparison : MD := (yX5_readComparison, cX5_readComparison, 3, (some .boolean))
theorem oX5_readComparison : MOKv mX5_readComparison 1 := ⟨⟨in3 (List.mem_of_getElem? (i := 58) rfl), in1 (List.mem_of_getElem? (i := 6) (by decide +kernel)), by decide +kernel, by decide +kernel, by decide +kernel, by decide⟩, in3 (List.mem_of_getElem? (i := 57) (by decide +kernel)), inS (List.mem_of_getElem? (i := 8) (by decide +kernel))⟩
abbrev mX5_readSum : MD := (yX5_readSum, cX5_readSum, 4, (some .boolean))
theorem oX5_readSum : MOKv mX5_readSum 1 := ⟨⟨in3 (List.mem_of_getElem? (i := 62) rfl), in1 (List.mem_of_getElem? (i := 6) (by decide +kernel)), by decide +kernel, by decide +kernel, by decide +kernel, by decide⟩, in3 (List.mem_of_getElem? (i := 61) (by decide +kernel)), inS (List.mem_of_getElem? (i := 9) (by decide +kernel))⟩
abbrev mX5_readTerm : MD := (yX5_readTerm, cX5_readTerm, 3, (some .boolean))
theorem oX5_readTerm : MOKv mX5_readTerm 1 := ⟨⟨in3 (List.mem_of_getElem? (i := 66) rfl), in1 (List.mem_of_getElem? (i := 6) (by decide +kernel)), by decide +kernel, by decide +kernel, by decide +kernel, by decide⟩, in3 (List.mem_of_getElem? (i := 65) (by decide +kernel)), inS (List.mem_of_getElem? (i := 10) (by decide +kernel))⟩
abbrev mX5_takeOperand : MD := (yX5_takeOperand, cX5_takeOperand, 2, (some .boolean))
theorem oX5_takeOperand : MOKv mX5_takeOperand 0 := ⟨⟨in3 (List.mem_of_getElem? (i := 70) rfl), in1 (List.mem_of_getElem? (i := 6) (by decide +kernel)), by decide +kernel, by decide +kernel, by decide +kernel, by decide⟩, in3 (List.mem_of_getElem? (i := 69) (by decide +kernel)), inS (List.mem_of_getElem? (i := 11) (by decide +kernel))⟩
abbrev mX5_refuse : MD := (yX5_refuse, cX5_refuse, 2, (some .boolean))
theorem oX5_refuse : MOKv mX5_refuse 1 := ⟨⟨in3 (List.mem_of_getElem? (i := 37) rfl), in1 (List.mem_of_getElem? (i := 6) (by decide +kernel)), by decide +kernel, by decide +kernel, by decide +kernel, by decide⟩, in3 (List.mem_of_getElem? (i := 36) (by decide +kernel)), inS (List.mem_of_getElem? (i := 4) (by decide +kernel))⟩
abbrev mX6_init : MD := (yX6_init, cX6_init, 4, none)
theorem oX6_init : MOKi mX6_init 3 := ⟨⟨in1 (List.mem_of_getElem? (i := 186) rfl), in1 (List.mem_of_getElem? (i := 9) (by decide +kernel)), by decide +kernel, by decide +kernel, by decide +kernel, by decide⟩, rfl, rfl, in1 (List.mem_of_getElem? (i := 185) (by decide +kernel))⟩
abbrev mX6_triesMade : MD := (yX6_triesMade, cX6_triesMade, 1, (some .int))
theorem oX6_triesMade : MOKv mX6_triesMade 0 := ⟨⟨in3 (List.mem_of_getElem? (i := 221) rfl), in1 (List.mem_of_getElem? (i := 9) (by decide +kernel)), by decide +kernel, by decide +kernel, by decide +kernel, by decide⟩, in3 (List.mem_of_getElem? (i := 219) (by decide +kernel)), in3 (List.mem_of_getElem? (i := 220) (by decide +kernel))⟩
abbrev mX6_hasPlan : MD := (yX6_hasPlan, cX6_hasPlan, 1, (some .boolean))
theorem oX6_hasPlan : MOKv mX6_hasPlan 0 := ⟨⟨in4 (List.mem_of_getElem? (i := 165) rfl), in1 (List.mem_of_getElem? (i := 9) (by decide +kernel)), by decide +kernel, by decide +kernel, by decide +kernel, by decide⟩, in4 (List.mem_of_getElem? (i := 163) (by decide +kernel)), in4 (List.mem_of_getElem? (i := 164) (by decide +kernel))⟩
abbrev mX6_spotOf : MD := (yX6_spotOf, cX6_spotOf, 2, (some .int))
theorem oX6_spotOf : MOKv mX6_spotOf 1 := ⟨⟨in3 (List.mem_of_getElem? (i := 229) rfl), in1 (List.mem_of_getElem? (i := 9) (by decide +kernel)), by decide +kernel, by decide +kernel, by decide +kernel, by decide⟩, in3 (List.mem_of_getElem? (i := 227) (by decide +kernel)), in3 (List.mem_of_getElem? (i := 228) (by decide +kernel))⟩
abbrev mX6_forget : MD := (yX6_forget, cX6_forget, 1, none)
theorem oX6_forget : MOKv mX6_forget 0 := ⟨⟨in2 (List.mem_of_getElem? (i := 100) rfl), in1 (List.mem_of_getElem? (i := 9) (by decide +kernel)), by decide +kernel, by decide +kernel, by decide +kernel, by decide⟩, in2 (List.mem_of_getElem? (i := 98) (by decide +kernel)), in2 (List.mem_of_getElem? (i := 99) (by decide +kernel))⟩
abbrev mX6_look : MD := (yX6_look, cX6_look, 3, (some .int))
theorem oX6_look : MOKv mX6_look 1 := ⟨⟨in3 (List.mem_of_getElem? (i := 177) rfl), in1 (List.mem_of_getElem? (i := 9) (by decide +kernel)), by decide +kernel, by decide +kernel, by decide +kernel, by decide⟩, in3 (List.mem_of_getElem? (i := 175) (by decide +kernel)), in3 (List.mem_of_getElem? (i := 176) (by decide +kernel))⟩
abbrev mX6_place : MD := (yX6_place, cX6_place, 4, (some .int))
theorem oX6_place : MOKv mX6_place 1 := ⟨⟨in3 (List.mem_of_getElem? (i := 184) rfl), in1 (List.mem_of_getElem? (i := 9) (by decide +kernel)), by decide +kernel, by decide +kernel, by decide +kernel, by decide⟩, in3 (List.mem_of_getElem? (i := 183) (by decide +kernel)), inS (List.mem_of_getElem? (i := 15) (by decide +kernel))⟩
abbrev mX6_fits : MD := (yX6_fits, cX6_fits, 6, (some .boolean))
theorem oX6_fits : MOKv mX6_fits 2 := ⟨⟨in3 (List.mem_of_getElem? (i := 193) rfl), in1 (List.mem_of_getElem? (i := 9) (by decide +kernel)), by decide +kernel, by decide +kernel, by decide +kernel, by decide⟩, in3 (List.mem_of_getElem? (i := 192) (by decide +kernel)), inS (List.mem_of_getElem? (i := 16) (by decide +kernel))⟩
abbrev mX6_mayStand : MD := (yX6_mayStand, cX6_mayStand, 4, (some .boolean))
theorem oX6_mayStand : MOKv mX6_mayStand 2 := ⟨⟨in3 (List.mem_of_getElem? (i := 197) rfl), in1 (List.mem_of_getElem? (i := 9) (by decide +kernel)), by decide +kernel, by decide +kernel, by decide +kernel, by decide⟩, in3 (List.mem_of_getElem? (i := 196) (by decide +kernel)), inS (List.mem_of_getElem? (i := 17) (by decide +kernel))⟩
abbrev mX6_mayStandBy : MD := (yX6_mayStandBy, cX6_mayStandBy, 8, (some .boolean))
theorem oX6_mayStandBy : MOKv mX6_mayStandBy 4 := ⟨⟨in3 (List.mem_of_getElem? (i := 212) rfl), in1 (List.mem_of_getElem? (i := 9) (by decide +kernel)), by decide +kernel, by decide +kernel, by decide +kernel, by decide⟩, in3 (List.mem_of_getElem? (i := 211) (by decide +kernel)), inS (List.mem_of_getElem? (i := 18) (by decide +kernel))⟩
abbrev mX7_init : MD := (yX7_init, cX7_init, 1, none)
theorem oX7_init : MOKi mX7_init 0 := ⟨⟨in1 (List.mem_of_getElem? (i := 95) rfl), in1 (List.mem_of_getElem? (i := 5) (by decide +kernel)), by decide +kernel, by decide +kernel, by decide +kernel, by decide⟩, rfl, rfl, in1 (List.mem_of_getElem? (i := 94) (by decide +kernel))⟩
abbrev mX7_count : MD := (yX7_count, cX7_count, 1, (some .int))
theorem oX7_count : MOKv mX7_count 0 := ⟨⟨in3 (List.mem_of_getElem? (i := 93) rfl), in1 (List.mem_of_getElem? (i := 5) (by decide +kernel)), by decide +kernel, by decide +kernel, by decide +kernel, by decide⟩, in3 (List.mem_of_getElem? (i := 91) (by decide +kernel)), in3 (List.mem_of_getElem? (i := 92) (by decide +kernel))⟩
abbrev mX7_clear : MD := (yX7_clear, cX7_clear, 1, none)
theorem oX7_clear : MOKv mX7_clear 0 := ⟨⟨in2 (List.mem_of_getElem? (i := 176) rfl), in1 (List.mem_of_getElem? (i := 5) (by decide +kernel)), by decide +kernel, by decide +kernel, by decide +kernel, by decide⟩, in2 (List.mem_of_getElem? (i := 174) (by decide +kernel)), in2 (List.mem_of_getElem? (i := 175) (by decide +kernel))⟩
abbrev mX7_emit : MD := (yX7_emit, cX7_emit, 2, none)
theorem oX7_emit : MOKv mX7_emit 1 := ⟨⟨in3 (List.mem_of_getElem? (i := 78) rfl), in1 (List.mem_of_getElem? (i := 5) (by decide +kernel)), by decide +kernel, by decide +kernel, by decide +kernel, by decide⟩, in3 (List.mem_of_getElem? (i := 76) (by decide +kernel)), in3 (List.mem_of_getElem? (i := 77) (by decide +kernel))⟩
abbrev mX7_endRule : MD := (yX7_endRule, cX7_endRule, 2, none)
theorem oX7_endRule : MOKv mX7_endRule 1 := ⟨⟨in3 (List.mem_of_getElem? (i := 82) rfl), in1 (List.mem_of_getElem? (i := 5) (by decide +kernel)), by decide +kernel, by decide +kernel, by decide +kernel, by decide⟩, in3 (List.mem_of_getElem? (i := 80) (by decide +kernel)), in3 (List.mem_of_getElem? (i := 81) (by decide +kernel))⟩
abbrev mX7_copy : MD := (yX7_copy, cX7_copy, 3, none)
theorem oX7_copy : MOKv mX7_copy 1 := ⟨⟨in3 (List.mem_of_getElem? (i := 86) rfl), in1 (List.mem_of_getElem? (i := 5) (by decide +kernel)), by decide +kernel, by decide +kernel, by decide +kernel, by decide⟩, in3 (List.mem_of_getElem? (i := 84) (by decide +kernel)), in3 (List.mem_of_getElem? (i := 85) (by decide +kernel))⟩
abbrev mX7_allHold : MD := (yX7_allHold, cX7_allHold, 4, (some .boolean))
theorem oX7_allHold : MOKv mX7_allHold 2 := ⟨⟨in3 (List.mem_of_getElem? (i := 149) rfl), in1 (List.mem_of_getElem? (i := 5) (by decide +kernel)), by decide +kernel, by decide +kernel, by decide +kernel, by decide⟩, in3 (List.mem_of_getElem? (i := 147) (by decide +kernel)), in3 (List.mem_of_getElem? (i := 148) (by decide +kernel))⟩
abbrev mX7_workOut : MD := (yX7_workOut, cX7_workOut, 9, (some .int))
theorem oX7_workOut : MOKv mX7_workOut 2 := ⟨⟨in3 (List.mem_of_getElem? (i := 153) rfl), in1 (List.mem_of_getElem? (i := 5) (by decide +kernel)), by decide +kernel, by decide +kernel, by decide +kernel, by decide⟩, in3 (List.mem_of_getElem? (i := 152) (by decide +kernel)), inS (List.mem_of_getElem? (i := 13) (by decide +kernel))⟩
abbrev mX8_init : MD := (yX8_init, cX8_init, 1, none)
theorem oX8_init : MOKi mX8_init 0 := ⟨⟨in1 (List.mem_of_getElem? (i := 82) rfl), in1 (List.mem_of_getElem? (i := 4) (by decide +kernel)), by decide +kernel, by decide +kernel, by decide +kernel, by decide⟩, rfl, rfl, in1 (List.mem_of_getElem? (i := 81) (by decide +kernel))⟩
abbrev mX8_length : MD := (yX8_length, cX8_length, 1, (some .int))
theorem oX8_length : MOKv mX8_length 0 := ⟨⟨in2 (List.mem_of_getElem? (i := 152) rfl), in1 (List.mem_of_getElem? (i := 4) (by decide +kernel)), by decide +kernel, by decide +kernel, by decide +kernel, by decide⟩, in2 (List.mem_of_getElem? (i := 150) (by decide +kernel)), in2 (List.mem_of_getElem? (i := 151) (by decide +kernel))⟩
abbrev mX8_append : MD := (yX8_append, cX8_append, 3, none)
theorem oX8_append : MOKv mX8_append 1 := ⟨⟨in2 (List.mem_of_getElem? (i := 156) rfl), in1 (List.mem_of_getElem? (i := 4) (by decide +kernel)), by decide +kernel, by decide +kernel, by decide +kernel, by decide⟩, in2 (List.mem_of_getElem? (i := 154) (by decide +kernel)), in2 (List.mem_of_getElem? (i := 155) (by decide +kernel))⟩
abbrev mX8_cut : MD := (yX8_cut, cX8_cut, 2, none)
theorem oX8_cut : MOKv mX8_cut 1 := ⟨⟨in2 (List.mem_of_getElem? (i := 164) rfl), in1 (List.mem_of_getElem? (i := 4) (by decide +kernel)), by decide +kernel, by decide +kernel, by decide +kernel, by decide⟩, in2 (List.mem_of_getElem? (i := 162) (by decide +kernel)), in2 (List.mem_of_getElem? (i := 163) (by decide +kernel))⟩
abbrev mX8_at : MD := (yX8_at, cX8_at, 2, (some .int))
theorem oX8_at : MOKv mX8_at 1 := ⟨⟨in2 (List.mem_of_getElem? (i := 189) rfl), in1 (List.mem_of_getElem? (i := 4) (by decide +kernel)), by decide +kernel, by decide +kernel, by decide +kernel, by decide⟩, in2 (List.mem_of_getElem? (i := 187) (by decide +kernel)), in2 (List.mem_of_getElem? (i := 188) (by decide +kernel))⟩
abbrev mX9_init : MD := (yX9_init, cX9_init, 2, none)
theorem oX9_init : MOKi mX9_init 1 := ⟨⟨in1 (List.mem_of_getElem? (i := 122) rfl), in1 (List.mem_of_getElem? (i := 7) (by decide +kernel)), by decide +kernel, by decide +kernel, by decide +kernel, by decide⟩, rfl, rfl, in1 (List.mem_of_getElem? (i := 121) (by decide +kernel))⟩
abbrev mX9_start : MD := (yX9_start, cX9_start, 1, (some .int))
theorem oX9_start : MOKv mX9_start 0 := ⟨⟨in3 (List.mem_of_getElem? (i := 41) rfl), in1 (List.mem_of_getElem? (i := 7) (by decide +kernel)), by decide +kernel, by decide +kernel, by decide +kernel, by decide⟩, in3 (List.mem_of_getElem? (i := 39) (by decide +kernel)), in3 (List.mem_of_getElem? (i := 40) (by decide +kernel))⟩
abbrev mX9_kind : MD := (yX9_kind, cX9_kind, 1, (some .int))
theorem oX9_kind : MOKv mX9_kind 0 := ⟨⟨in3 (List.mem_of_getElem? (i := 33) rfl), in1 (List.mem_of_getElem? (i := 7) (by decide +kernel)), by decide +kernel, by decide +kernel, by decide +kernel, by decide⟩, in3 (List.mem_of_getElem? (i := 31) (by decide +kernel)), in3 (List.mem_of_getElem? (i := 32) (by decide +kernel))⟩
abbrev mX9_value : MD := (yX9_value, cX9_value, 1, (some .int))
theorem oX9_value : MOKv mX9_value 0 := ⟨⟨in3 (List.mem_of_getElem? (i := 74) rfl), in1 (List.mem_of_getElem? (i := 7) (by decide +kernel)), by decide +kernel, by decide +kernel, by decide +kernel, by decide⟩, in3 (List.mem_of_getElem? (i := 72) (by decide +kernel)), in3 (List.mem_of_getElem? (i := 73) (by decide +kernel))⟩
abbrev mX9_begin : MD := (yX9_begin, cX9_begin, 1, none)
theorem oX9_begin : MOKv mX9_begin 0 := ⟨⟨in2 (List.mem_of_getElem? (i := 180) rfl), in1 (List.mem_of_getElem? (i := 7) (by decide +kernel)), by decide +kernel, by decide +kernel, by decide +kernel, by decide⟩, in2 (List.mem_of_getElem? (i := 178) (by decide +kernel)), in2 (List.mem_of_getElem? (i := 179) (by decide +kernel))⟩
abbrev mX9_advance : MD := (yX9_advance, cX9_advance, 2, none)
theorem oX9_advance : MOKv mX9_advance 0 := ⟨⟨in2 (List.mem_of_getElem? (i := 184) rfl), in1 (List.mem_of_getElem? (i := 7) (by decide +kernel)), by decide +kernel, by decide +kernel, by decide +kernel, by decide⟩, in2 (List.mem_of_getElem? (i := 182) (by decide +kernel)), in2 (List.mem_of_getElem? (i := 183) (by decide +kernel))⟩
abbrev mX9_readWord : MD := (yX9_readWord, cX9_readWord, 2, none)
theorem oX9_readWord : MOKv mX9_readWord 0 := ⟨⟨in2 (List.mem_of_getElem? (i := 199) rfl), in1 (List.mem_of_getElem? (i := 7) (by decide +kernel)), by decide +kernel, by decide +kernel, by decide +kernel, by decide⟩, in2 (List.mem_of_getElem? (i := 198) (by decide +kernel)), inS (List.mem_of_getElem? (i := 0) (by decide +kernel))⟩
abbrev mX9_readNumber : MD := (yX9_readNumber, cX9_readNumber, 2, none)
theorem oX9_readNumber : MOKv mX9_readNumber 0 := ⟨⟨in3 (List.mem_of_getElem? (i := 26) rfl), in1 (List.mem_of_getElem? (i := 7) (by decide +kernel)), by decide +kernel, by decide +kernel, by decide +kernel, by decide⟩, in3 (List.mem_of_getElem? (i := 25) (by decide +kernel)), inS (List.mem_of_getElem? (i := 3) (by decide +kernel))⟩
abbrev mX9_wordNumber : MD := (yX9_wordNumber, cX9_wordNumber, 3, (some .int))
theorem oX9_wordNumber : MOKv mX9_wordNumber 0 := ⟨⟨in2 (List.mem_of_getElem? (i := 206) rfl), in1 (List.mem_of_getElem? (i := 7) (by decide +kernel)), by decide +kernel, by decide +kernel, by decide +kernel, by decide⟩, in2 (List.mem_of_getElem? (i := 205) (by decide +kernel)), inS (List.mem_of_getElem? (i := 1) (by decide +kernel))⟩
abbrev mX9_letterOf : MD := (yX9_letterOf, cX9_letterOf, 3, (some .int))
theorem oX9_letterOf : MOKs mX9_letterOf 2 := ⟨⟨in2 (List.mem_of_getElem? (i := 209) rfl), in1 (List.mem_of_getElem? (i := 7) (by decide +kernel)), by decide +kernel, by decide +kernel, by decide +kernel, by decide⟩, in2 (List.mem_of_getElem? (i := 208) (by decide +kernel))⟩
abbrev mX9_letterHere : MD := (yX9_letterHere, cX9_letterHere, 2, (some .int))
theorem oX9_letterHere : MOKv mX9_letterHere 1 := ⟨⟨in3 (List.mem_of_getElem? (i := 22) rfl), in1 (List.mem_of_getElem? (i := 7) (by decide +kernel)), by decide +kernel, by decide +kernel, by decide +kernel, by decide⟩, in3 (List.mem_of_getElem? (i := 21) (by decide +kernel)), inS (List.mem_of_getElem? (i := 2) (by decide +kernel))⟩
abbrev mX9_isBlank : MD := (yX9_isBlank, cX9_isBlank, 1, (some .boolean))
theorem oX9_isBlank : MOKs mX9_isBlank 1 := ⟨⟨in2 (List.mem_of_getElem? (i := 192) rfl), in1 (List.mem_of_getElem? (i := 7) (by decide +kernel)), by decide +kernel, by decide +kernel, by decide +kernel, by decide⟩, in2 (List.mem_of_getElem? (i := 191) (by decide +kernel))⟩
abbrev mX9_isLetter : MD := (yX9_isLetter, cX9_isLetter, 1, (some .boolean))
theorem oX9_isLetter : MOKs mX9_isLetter 1 := ⟨⟨in2 (List.mem_of_getElem? (i := 195) rfl), in1 (List.mem_of_getElem? (i := 7) (by decide +kernel)), by decide +kernel, by decide +kernel, by decide +kernel, by decide⟩, in2 (List.mem_of_getElem? (i := 194) (by decide +kernel))⟩
abbrev mX9_isDigit : MD := (yX9_isDigit, cX9_isDigit, 1, (some .boolean))
theorem oX9_isDigit : MOKs mX9_isDigit 1 := ⟨⟨in2 (List.mem_of_getElem? (i := 202) rfl), in1 (List.mem_of_getElem? (i := 7) (by decide +kernel)), by decide +kernel, by decide +kernel, by decide +kernel, by decide⟩, in2 (List.mem_of_getElem? (i := 201) (by decide +kernel))⟩
abbrev mX9_isSign : MD := (yX9_isSign, cX9_isSign, 1, (some .boolean))
theorem oX9_isSign : MOKs mX9_isSign 1 := ⟨⟨in3 (List.mem_of_getElem? (i := 29) rfl), in1 (List.mem_of_getElem? (i := 7) (by decide +kernel)), by decide +kernel, by decide +kernel, by decide +kernel, by decide⟩, in3 (List.mem_of_getElem? (i := 28) (by decide +kernel))⟩
abbrev mX10_init : MD := (yX10_init, cX10_init, 1, none)
theorem oX10_init : MOKi mX10_init 0 := ⟨⟨in2 (List.mem_of_getElem? (i := 22) rfl), in1 (List.mem_of_getElem? (i := 12) (by decide +kernel)), by decide +kernel, by decide +kernel, by decide +kernel, by decide⟩, rfl, rfl, in2 (List.mem_of_getElem? (i := 21) (by decide +kernel))⟩
abbrev mX10_count : MD := (yX10_count, cX10_count, 1, (some .int))
theorem oX10_count : MOKv mX10_count 0 := ⟨⟨in4 (List.mem_of_getElem? (i := 161) rfl), in1 (List.mem_of_getElem? (i := 12) (by decide +kernel)), by decide +kernel, by decide +kernel, by decide +kernel, by decide⟩, in4 (List.mem_of_getElem? (i := 159) (by decide +kernel)), in4 (List.mem_of_getElem? (i := 160) (by decide +kernel))⟩
abbrev mX10_begin : MD := (yX10_begin, cX10_begin, 4, none)
theorem oX10_begin : MOKv mX10_begin 2 := ⟨⟨in2 (List.mem_of_getElem? (i := 104) rfl), in1 (List.mem_of_getElem? (i := 12) (by decide +kernel)), by decide +kernel, by decide +kernel, by decide +kernel, by decide⟩, in2 (List.mem_of_getElem? (i := 102) (by decide +kernel)), in2 (List.mem_of_getElem? (i := 103) (by decide +kernel))⟩
abbrev mX10_setFall : MD := (yX10_setFall, cX10_setFall, 3, none)
theorem oX10_setFall : MOKv mX10_setFall 2 := ⟨⟨in4 (List.mem_of_getElem? (i := 35) rfl), in1 (List.mem_of_getElem? (i := 12) (by decide +kernel)), by decide +kernel, by decide +kernel, by decide +kernel, by decide⟩, in4 (List.mem_of_getElem? (i := 33) (by decide +kernel)), in4 (List.mem_of_getElem? (i := 34) (by decide +kernel))⟩
abbrev mX10_add : MD := (yX10_add, cX10_add, 7, (some .int))
theorem oX10_add : MOKv mX10_add 5 := ⟨⟨in4 (List.mem_of_getElem? (i := 121) rfl), in1 (List.mem_of_getElem? (i := 12) (by decide +kernel)), by decide +kernel, by decide +kernel, by decide +kernel, by decide⟩, in4 (List.mem_of_getElem? (i := 119) (by decide +kernel)), in4 (List.mem_of_getElem? (i := 120) (by decide +kernel))⟩
abbrev mX10_dueDay : MD := (yX10_dueDay, cX10_dueDay, 4, (some .int))
theorem oX10_dueDay : MOKv mX10_dueDay 2 := ⟨⟨in4 (List.mem_of_getElem? (i := 132) rfl), in1 (List.mem_of_getElem? (i := 12) (by decide +kernel)), by decide +kernel, by decide +kernel, by decide +kernel, by decide⟩, in4 (List.mem_of_getElem? (i := 130) (by decide +kernel)), in4 (List.mem_of_getElem? (i := 131) (by decide +kernel))⟩
abbrev mX10_cost : MD := (yX10_cost, cX10_cost, 8, (some .int))
theorem oX10_cost : MOKv mX10_cost 4 := ⟨⟨in4 (List.mem_of_getElem? (i := 145) rfl), in1 (List.mem_of_getElem? (i := 12) (by decide +kernel)), by decide +kernel, by decide +kernel, by decide +kernel, by decide⟩, in4 (List.mem_of_getElem? (i := 143) (by decide +kernel)), in4 (List.mem_of_getElem? (i := 144) (by decide +kernel))⟩
abbrev mX11_init : MD := (yX11_init, cX11_init, 2, none)
theorem oX11_init : MOKi mX11_init 0 := ⟨⟨in1 (List.mem_of_getElem? (i := 25) rfl), in1 (List.mem_of_getElem? (i := 1) (by decide +kernel)), by decide +kernel, by decide +kernel, by decide +kernel, by decide⟩, rfl, rfl, in1 (List.mem_of_getElem? (i := 24) (by decide +kernel))⟩
abbrev mX11_horse : MD := (yX11_horse, cX11_horse, 4, (some .int))
theorem oX11_horse : MOKv mX11_horse 2 := ⟨⟨in2 (List.mem_of_getElem? (i := 89) rfl), in1 (List.mem_of_getElem? (i := 1) (by decide +kernel)), by decide +kernel, by decide +kernel, by decide +kernel, by decide⟩, in2 (List.mem_of_getElem? (i := 87) (by decide +kernel)), in2 (List.mem_of_getElem? (i := 88) (by decide +kernel))⟩
abbrev mX11_lame : MD := (yX11_lame, cX11_lame, 3, (some .boolean))
theorem oX11_lame : MOKv mX11_lame 2 := ⟨⟨in2 (List.mem_of_getElem? (i := 108) rfl), in1 (List.mem_of_getElem? (i := 1) (by decide +kernel)), by decide +kernel, by decide +kernel, by decide +kernel, by decide⟩, in2 (List.mem_of_getElem? (i := 106) (by decide +kernel)), in2 (List.mem_of_getElem? (i := 107) (by decide +kernel))⟩
abbrev mX11_field : MD := (yX11_field, cX11_field, 4, (some .boolean))
theorem oX11_field : MOKv mX11_field 3 := ⟨⟨in2 (List.mem_of_getElem? (i := 120) rfl), in1 (List.mem_of_getElem? (i := 1) (by decide +kernel)), by decide +kernel, by decide +kernel, by decide +kernel, by decide⟩, in2 (List.mem_of_getElem? (i := 118) (by decide +kernel)), in2 (List.mem_of_getElem? (i := 119) (by decide +kernel))⟩
abbrev mX11_shut : MD := (yX11_shut, cX11_shut, 3, (some .boolean))
theorem oX11_shut : MOKv mX11_shut 2 := ⟨⟨in2 (List.mem_of_getElem? (i := 131) rfl), in1 (List.mem_of_getElem? (i := 1) (by decide +kernel)), by decide +kernel, by decide +kernel, by decide +kernel, by decide⟩, in2 (List.mem_of_getElem? (i := 129) (by decide +kernel)), in2 (List.mem_of_getElem? (i := 130) (by decide +kernel))⟩
abbrev mX11_gate : MD := (yX11_gate, cX11_gate, 4, (some .boolean))
theorem oX11_gate : MOKv mX11_gate 3 := ⟨⟨in2 (List.mem_of_getElem? (i := 140) rfl), in1 (List.mem_of_getElem? (i := 1) (by decide +kernel)), by decide +kernel, by decide +kernel, by decide +kernel, by decide⟩, in2 (List.mem_of_getElem? (i := 138) (by decide +kernel)), in2 (List.mem_of_getElem? (i := 139) (by decide +kernel))⟩
abbrev mX11_feed : MD := (yX11_feed, cX11_feed, 6, (some .int))
theorem oX11_feed : MOKv mX11_feed 5 := ⟨⟨in2 (List.mem_of_getElem? (i := 148) rfl), in1 (List.mem_of_getElem? (i := 1) (by decide +kernel)), by decide +kernel, by decide +kernel, by decide +kernel, by decide⟩, in2 (List.mem_of_getElem? (i := 146) (by decide +kernel)), in2 (List.mem_of_getElem? (i := 147) (by decide +kernel))⟩
abbrev mX11_end : MD := (yX11_end, cX11_end, 2, (some .int))
theorem oX11_end : MOKv mX11_end 1 := ⟨⟨in2 (List.mem_of_getElem? (i := 160) rfl), in1 (List.mem_of_getElem? (i := 1) (by decide +kernel)), by decide +kernel, by decide +kernel, by decide +kernel, by decide⟩, in2 (List.mem_of_getElem? (i := 158) (by decide +kernel)), in2 (List.mem_of_getElem? (i := 159) (by decide +kernel))⟩
abbrev mX11_rules : MD := (yX11_rules, cX11_rules, 2, (some .int))
theorem oX11_rules : MOKv mX11_rules 0 := ⟨⟨in2 (List.mem_of_getElem? (i := 168) rfl), in1 (List.mem_of_getElem? (i := 1) (by decide +kernel)), by decide +kernel, by decide +kernel, by decide +kernel, by decide⟩, in2 (List.mem_of_getElem? (i := 166) (by decide +kernel)), in2 (List.mem_of_getElem? (i := 167) (by decide +kernel))⟩
abbrev mX11_fault : MD := (yX11_fault, cX11_fault, 2, (some .int))
theorem oX11_fault : MOKv mX11_fault 1 := ⟨⟨in3 (List.mem_of_getElem? (i := 98) rfl), in1 (List.mem_of_getElem? (i := 1) (by decide +kernel)), by decide +kernel, by decide +kernel, by decide +kernel, by decide⟩, in3 (List.mem_of_getElem? (i := 96) (by decide +kernel)), in3 (List.mem_of_getElem? (i := 97) (by decide +kernel))⟩
abbrev mX11_may : MD := (yX11_may, cX11_may, 4, (some .boolean))
theorem oX11_may : MOKv mX11_may 3 := ⟨⟨in3 (List.mem_of_getElem? (i := 110) rfl), in1 (List.mem_of_getElem? (i := 1) (by decide +kernel)), by decide +kernel, by decide +kernel, by decide +kernel, by decide⟩, in3 (List.mem_of_getElem? (i := 108) (by decide +kernel)), in3 (List.mem_of_getElem? (i := 109) (by decide +kernel))⟩
abbrev mX11_meet : MD := (yX11_meet, cX11_meet, 6, (some .boolean))
theorem oX11_meet : MOKv mX11_meet 5 := ⟨⟨in3 (List.mem_of_getElem? (i := 157) rfl), in1 (List.mem_of_getElem? (i := 1) (by decide +kernel)), by decide +kernel, by decide +kernel, by decide +kernel, by decide⟩, in3 (List.mem_of_getElem? (i := 155) (by decide +kernel)), in3 (List.mem_of_getElem? (i := 156) (by decide +kernel))⟩
abbrev mX11_plan : MD := (yX11_plan, cX11_plan, 1, (some .int))
theorem oX11_plan : MOKv mX11_plan 0 := ⟨⟨in3 (List.mem_of_getElem? (i := 173) rfl), in1 (List.mem_of_getElem? (i := 1) (by decide +kernel)), by decide +kernel, by decide +kernel, by decide +kernel, by decide⟩, in3 (List.mem_of_getElem? (i := 171) (by decide +kernel)), in3 (List.mem_of_getElem? (i := 172) (by decide +kernel))⟩
abbrev mX11_tries : MD := (yX11_tries, cX11_tries, 1, (some .int))
theorem oX11_tries : MOKv mX11_tries 0 := ⟨⟨in3 (List.mem_of_getElem? (i := 217) rfl), in1 (List.mem_of_getElem? (i := 1) (by decide +kernel)), by decide +kernel, by decide +kernel, by decide +kernel, by decide⟩, in3 (List.mem_of_getElem? (i := 215) (by decide +kernel)), in3 (List.mem_of_getElem? (i := 216) (by decide +kernel))⟩
abbrev mX11_out : MD := (yX11_out, cX11_out, 3, (some .int))
theorem oX11_out : MOKv mX11_out 1 := ⟨⟨in3 (List.mem_of_getElem? (i := 225) rfl), in1 (List.mem_of_getElem? (i := 1) (by decide +kernel)), by decide +kernel, by decide +kernel, by decide +kernel, by decide⟩, in3 (List.mem_of_getElem? (i := 223) (by decide +kernel)), in3 (List.mem_of_getElem? (i := 224) (by decide +kernel))⟩
abbrev mX11_stuck : MD := (yX11_stuck, cX11_stuck, 2, (some .int))
theorem oX11_stuck : MOKv mX11_stuck 0 := ⟨⟨in3 (List.mem_of_getElem? (i := 235) rfl), in1 (List.mem_of_getElem? (i := 1) (by decide +kernel)), by decide +kernel, by decide +kernel, by decide +kernel, by decide⟩, in3 (List.mem_of_getElem? (i := 233) (by decide +kernel)), in3 (List.mem_of_getElem? (i := 234) (by decide +kernel))⟩
abbrev mX11_lot : MD := (yX11_lot, cX11_lot, 4, (some .int))
theorem oX11_lot : MOKv mX11_lot 3 := ⟨⟨in4 (List.mem_of_getElem? (i := 5) rfl), in1 (List.mem_of_getElem? (i := 1) (by decide +kernel)), by decide +kernel, by decide +kernel, by decide +kernel, by decide⟩, in4 (List.mem_of_getElem? (i := 3) (by decide +kernel)), in4 (List.mem_of_getElem? (i := 4) (by decide +kernel))⟩
abbrev mX11_takes : MD := (yX11_takes, cX11_takes, 4, (some .boolean))
theorem oX11_takes : MOKv mX11_takes 3 := ⟨⟨in4 (List.mem_of_getElem? (i := 16) rfl), in1 (List.mem_of_getElem? (i := 1) (by decide +kernel)), by decide +kernel, by decide +kernel, by decide +kernel, by decide⟩, in4 (List.mem_of_getElem? (i := 14) (by decide +kernel)), in4 (List.mem_of_getElem? (i := 15) (by decide +kernel))⟩
abbrev mX11_price : MD := (yX11_price, cX11_price, 3, (some .boolean))
theorem oX11_price : MOKv mX11_price 2 := ⟨⟨in4 (List.mem_of_getElem? (i := 24) rfl), in1 (List.mem_of_getElem? (i := 1) (by decide +kernel)), by decide +kernel, by decide +kernel, by decide +kernel, by decide⟩, in4 (List.mem_of_getElem? (i := 22) (by decide +kernel)), in4 (List.mem_of_getElem? (i := 23) (by decide +kernel))⟩
abbrev mX11_falls : MD := (yX11_falls, cX11_falls, 3, (some .boolean))
theorem oX11_falls : MOKv mX11_falls 2 := ⟨⟨in4 (List.mem_of_getElem? (i := 28) rfl), in1 (List.mem_of_getElem? (i := 1) (by decide +kernel)), by decide +kernel, by decide +kernel, by decide +kernel, by decide⟩, in4 (List.mem_of_getElem? (i := 26) (by decide +kernel)), in4 (List.mem_of_getElem? (i := 27) (by decide +kernel))⟩
abbrev mX11_night : MD := (yX11_night, cX11_night, 3, (some .int))
theorem oX11_night : MOKv mX11_night 0 := ⟨⟨in4 (List.mem_of_getElem? (i := 39) rfl), in1 (List.mem_of_getElem? (i := 1) (by decide +kernel)), by decide +kernel, by decide +kernel, by decide +kernel, by decide⟩, in4 (List.mem_of_getElem? (i := 37) (by decide +kernel)), in4 (List.mem_of_getElem? (i := 38) (by decide +kernel))⟩
abbrev mX11_bin : MD := (yX11_bin, cX11_bin, 3, (some .int))
theorem oX11_bin : MOKv mX11_bin 2 := ⟨⟨in4 (List.mem_of_getElem? (i := 75) rfl), in1 (List.mem_of_getElem? (i := 1) (by decide +kernel)), by decide +kernel, by decide +kernel, by decide +kernel, by decide⟩, in4 (List.mem_of_getElem? (i := 73) (by decide +kernel)), in4 (List.mem_of_getElem? (i := 74) (by decide +kernel))⟩
abbrev mX11_foretold : MD := (yX11_foretold, cX11_foretold, 2, (some .int))
theorem oX11_foretold : MOKv mX11_foretold 1 := ⟨⟨in4 (List.mem_of_getElem? (i := 95) rfl), in1 (List.mem_of_getElem? (i := 1) (by decide +kernel)), by decide +kernel, by decide +kernel, by decide +kernel, by decide⟩, in4 (List.mem_of_getElem? (i := 93) (by decide +kernel)), in4 (List.mem_of_getElem? (i := 94) (by decide +kernel))⟩
abbrev mX11_work : MD := (yX11_work, cX11_work, 4, (some .int))
theorem oX11_work : MOKv mX11_work 3 := ⟨⟨in4 (List.mem_of_getElem? (i := 116) rfl), in1 (List.mem_of_getElem? (i := 1) (by decide +kernel)), by decide +kernel, by decide +kernel, by decide +kernel, by decide⟩, in4 (List.mem_of_getElem? (i := 114) (by decide +kernel)), in4 (List.mem_of_getElem? (i := 115) (by decide +kernel))⟩
abbrev mX11_due : MD := (yX11_due, cX11_due, 3, (some .int))
theorem oX11_due : MOKv mX11_due 2 := ⟨⟨in4 (List.mem_of_getElem? (i := 128) rfl), in1 (List.mem_of_getElem? (i := 1) (by decide +kernel)), by decide +kernel, by decide +kernel, by decide +kernel, by decide⟩, in4 (List.mem_of_getElem? (i := 126) (by decide +kernel)), in4 (List.mem_of_getElem? (i := 127) (by decide +kernel))⟩
abbrev mX11_bill : MD := (yX11_bill, cX11_bill, 5, (some .int))
theorem oX11_bill : MOKv mX11_bill 4 := ⟨⟨in4 (List.mem_of_getElem? (i := 136) rfl), in1 (List.mem_of_getElem? (i := 1) (by decide +kernel)), by decide +kernel, by decide +kernel, by decide +kernel, by decide⟩, in4 (List.mem_of_getElem? (i := 134) (by decide +kernel)), in4 (List.mem_of_getElem? (i := 135) (by decide +kernel))⟩
abbrev mX11_lacked : MD := (yX11_lacked, cX11_lacked, 2, (some .int))
theorem oX11_lacked : MOKv mX11_lacked 1 := ⟨⟨in4 (List.mem_of_getElem? (i := 149) rfl), in1 (List.mem_of_getElem? (i := 1) (by decide +kernel)), by decide +kernel, by decide +kernel, by decide +kernel, by decide⟩, in4 (List.mem_of_getElem? (i := 147) (by decide +kernel)), in4 (List.mem_of_getElem? (i := 148) (by decide +kernel))⟩
abbrev mX11_about : MD := (yX11_about, cX11_about, 2, (some .int))
theorem oX11_about : MOKv mX11_about 1 := ⟨⟨in4 (List.mem_of_getElem? (i := 157) rfl), in1 (List.mem_of_getElem? (i := 1) (by decide +kernel)), by decide +kernel, by decide +kernel, by decide +kernel, by decide⟩, in4 (List.mem_of_getElem? (i := 155) (by decide +kernel)), in4 (List.mem_of_getElem? (i := 156) (by decide +kernel))⟩
abbrev mX11_mayBeAnywhere : MD := (yX11_mayBeAnywhere, cX11_mayBeAnywhere, 3, (some .boolean))
theorem oX11_mayBeAnywhere : MOKv mX11_mayBeAnywhere 1 := ⟨⟨in4 (List.mem_of_getElem? (i := 1) rfl), in1 (List.mem_of_getElem? (i := 1) (by decide +kernel)), by decide +kernel, by decide +kernel, by decide +kernel, by decide⟩, in4 (List.mem_of_getElem? (i := 0) (by decide +kernel)), inS (List.mem_of_getElem? (i := 19) (by decide +kernel))⟩
abbrev mX11_passNightOf : MD := (yX11_passNightOf, cX11_passNightOf, 7, (some .int))
theorem oX11_passNightOf : MOKv mX11_passNightOf 1 := ⟨⟨in4 (List.mem_of_getElem? (i := 55) rfl), in1 (List.mem_of_getElem? (i := 1) (by decide +kernel)), by decide +kernel, by decide +kernel, by decide +kernel, by decide⟩, in4 (List.mem_of_getElem? (i := 54) (by decide +kernel)), inS (List.mem_of_getElem? (i := 21) (by decide +kernel))⟩
abbrev mX11_isUpTo : MD := (yX11_isUpTo, cX11_isUpTo, 2, (some .boolean))
theorem oX11_isUpTo : MOKs mX11_isUpTo 2 := ⟨⟨in2 (List.mem_of_getElem? (i := 92) rfl), in1 (List.mem_of_getElem? (i := 1) (by decide +kernel)), by decide +kernel, by decide +kernel, by decide +kernel, by decide⟩, in2 (List.mem_of_getElem? (i := 91) (by decide +kernel))⟩
abbrev mX11_isField : MD := (yX11_isField, cX11_isField, 1, (some .boolean))
theorem oX11_isField : MOKs mX11_isField 1 := ⟨⟨in2 (List.mem_of_getElem? (i := 123) rfl), in1 (List.mem_of_getElem? (i := 1) (by decide +kernel)), by decide +kernel, by decide +kernel, by decide +kernel, by decide⟩, in2 (List.mem_of_getElem? (i := 122) (by decide +kernel))⟩
abbrev mX11_isHour : MD := (yX11_isHour, cX11_isHour, 1, (some .boolean))
theorem oX11_isHour : MOKs mX11_isHour 1 := ⟨⟨in3 (List.mem_of_getElem? (i := 113) rfl), in1 (List.mem_of_getElem? (i := 1) (by decide +kernel)), by decide +kernel, by decide +kernel, by decide +kernel, by decide⟩, in3 (List.mem_of_getElem? (i := 112) (by decide +kernel))⟩
abbrev mX11_isBin : MD := (yX11_isBin, cX11_isBin, 1, (some .boolean))
theorem oX11_isBin : MOKs mX11_isBin 1 := ⟨⟨in4 (List.mem_of_getElem? (i := 8) rfl), in1 (List.mem_of_getElem? (i := 1) (by decide +kernel)), by decide +kernel, by decide +kernel, by decide +kernel, by decide⟩, in4 (List.mem_of_getElem? (i := 7) (by decide +kernel))⟩
abbrev mX11_isSort : MD := (yX11_isSort, cX11_isSort, 1, (some .boolean))
theorem oX11_isSort : MOKs mX11_isSort 1 := ⟨⟨in4 (List.mem_of_getElem? (i := 31) rfl), in1 (List.mem_of_getElem? (i := 1) (by decide +kernel)), by decide +kernel, by decide +kernel, by decide +kernel, by decide⟩, in4 (List.mem_of_getElem? (i := 30) (by decide +kernel))⟩
abbrev mX11_hourOf : MD := (yX11_hourOf, cX11_hourOf, 1, (some .int))
theorem oX11_hourOf : MOKs mX11_hourOf 1 := ⟨⟨in3 (List.mem_of_getElem? (i := 203) rfl), in1 (List.mem_of_getElem? (i := 1) (by decide +kernel)), by decide +kernel, by decide +kernel, by decide +kernel, by decide⟩, in3 (List.mem_of_getElem? (i := 202) (by decide +kernel))⟩
abbrev mX11_fieldOf : MD := (yX11_fieldOf, cX11_fieldOf, 1, (some .int))
theorem oX11_fieldOf : MOKs mX11_fieldOf 1 := ⟨⟨in3 (List.mem_of_getElem? (i := 200) rfl), in1 (List.mem_of_getElem? (i := 1) (by decide +kernel)), by decide +kernel, by decide +kernel, by decide +kernel, by decide⟩, in3 (List.mem_of_getElem? (i := 199) (by decide +kernel))⟩
abbrev mX12_init : MD := (yX12_init, cX12_init, 1, none)
theorem oX12_init : MOKi mX12_init 0 := ⟨⟨in4 (List.mem_of_getElem? (i := 174) rfl), in1 (List.mem_of_getElem? (i := 13) (by decide +kernel)), by decide +kernel, by decide +kernel, by decide +kernel, by decide⟩, rfl, rfl, in4 (List.mem_of_getElem? (i := 173) (by decide +kernel))⟩
abbrev mX12_isHorse : MD := (yX12_isHorse, cX12_isHorse, 2, (some .boolean))
theorem oX12_isHorse : MOKv mX12_isHorse 1 := ⟨⟨in5 (List.mem_of_getElem? (i := 128) rfl), in1 (List.mem_of_getElem? (i := 13) (by decide +kernel)), by decide +kernel, by decide +kernel, by decide +kernel, by decide⟩, in5 (List.mem_of_getElem? (i := 127) (by decide +kernel)), inS (List.mem_of_getElem? (i := 23) (by decide +kernel))⟩
abbrev mX12_isField : MD := (yX12_isField, cX12_isField, 1, (some .boolean))
theorem oX12_isField : MOKs mX12_isField 1 := ⟨⟨in5 (List.mem_of_getElem? (i := 135) rfl), in1 (List.mem_of_getElem? (i := 13) (by decide +kernel)), by decide +kernel, by decide +kernel, by decide +kernel, by decide⟩, in5 (List.mem_of_getElem? (i := 134) (by decide +kernel))⟩
abbrev mX12_isBin : MD := (yX12_isBin, cX12_isBin, 1, (some .boolean))
theorem oX12_isBin : MOKs mX12_isBin 1 := ⟨⟨in6 (List.mem_of_getElem? (i := 65) rfl), in1 (List.mem_of_getElem? (i := 13) (by decide +kernel)), by decide +kernel, by decide +kernel, by decide +kernel, by decide⟩, in6 (List.mem_of_getElem? (i := 64) (by decide +kernel))⟩
abbrev mX12_horse : MD := (yX12_horse, cX12_horse, 3, (some .int))
theorem oX12_horse : MOKv mX12_horse 2 := ⟨⟨in5 (List.mem_of_getElem? (i := 120) rfl), in1 (List.mem_of_getElem? (i := 13) (by decide +kernel)), by decide +kernel, by decide +kernel, by decide +kernel, by decide⟩, in5 (List.mem_of_getElem? (i := 118) (by decide +kernel)), in5 (List.mem_of_getElem? (i := 119) (by decide +kernel))⟩
abbrev mX12_lame : MD := (yX12_lame, cX12_lame, 3, (some .boolean))
theorem oX12_lame : MOKv mX12_lame 2 := ⟨⟨in5 (List.mem_of_getElem? (i := 124) rfl), in1 (List.mem_of_getElem? (i := 13) (by decide +kernel)), by decide +kernel, by decide +kernel, by decide +kernel, by decide⟩, in5 (List.mem_of_getElem? (i := 122) (by decide +kernel)), in5 (List.mem_of_getElem? (i := 123) (by decide +kernel))⟩
abbrev mX12_field : MD := (yX12_field, cX12_field, 4, (some .boolean))
theorem oX12_field : MOKv mX12_field 3 := ⟨⟨in5 (List.mem_of_getElem? (i := 132) rfl), in1 (List.mem_of_getElem? (i := 13) (by decide +kernel)), by decide +kernel, by decide +kernel, by decide +kernel, by decide⟩, in5 (List.mem_of_getElem? (i := 130) (by decide +kernel)), in5 (List.mem_of_getElem? (i := 131) (by decide +kernel))⟩
abbrev mX12_shut : MD := (yX12_shut, cX12_shut, 3, (some .boolean))
theorem oX12_shut : MOKv mX12_shut 2 := ⟨⟨in5 (List.mem_of_getElem? (i := 139) rfl), in1 (List.mem_of_getElem? (i := 13) (by decide +kernel)), by decide +kernel, by decide +kernel, by decide +kernel, by decide⟩, in5 (List.mem_of_getElem? (i := 137) (by decide +kernel)), in5 (List.mem_of_getElem? (i := 138) (by decide +kernel))⟩
abbrev mX12_gate : MD := (yX12_gate, cX12_gate, 4, (some .boolean))
theorem oX12_gate : MOKv mX12_gate 3 := ⟨⟨in5 (List.mem_of_getElem? (i := 144) rfl), in1 (List.mem_of_getElem? (i := 13) (by decide +kernel)), by decide +kernel, by decide +kernel, by decide +kernel, by decide⟩, in5 (List.mem_of_getElem? (i := 142) (by decide +kernel)), in5 (List.mem_of_getElem? (i := 143) (by decide +kernel))⟩
abbrev mX12_feed : MD := (yX12_feed, cX12_feed, 6, (some .int))
theorem oX12_feed : MOKv mX12_feed 5 := ⟨⟨in5 (List.mem_of_getElem? (i := 148) rfl), in1 (List.mem_of_getElem? (i := 13) (by decide +kernel)), by decide +kernel, by decide +kernel, by decide +kernel, by decide⟩, in5 (List.mem_of_getElem? (i := 146) (by decide +kernel)), in5 (List.mem_of_getElem? (i := 147) (by decide +kernel))⟩
abbrev mX12_four : MD := (yX12_four, cX12_four, 3, none)
theorem oX12_four : MOKv mX12_four 1 := ⟨⟨in5 (List.mem_of_getElem? (i := 152) rfl), in1 (List.mem_of_getElem? (i := 13) (by decide +kernel)), by decide +kernel, by decide +kernel, by decide +kernel, by decide⟩, in5 (List.mem_of_getElem? (i := 151) (by decide +kernel)), inS (List.mem_of_getElem? (i := 24) (by decide +kernel))⟩
abbrev mX12_end : MD := (yX12_end, cX12_end, 2, (some .int))
theorem oX12_end : MOKv mX12_end 1 := ⟨⟨in5 (List.mem_of_getElem? (i := 156) rfl), in1 (List.mem_of_getElem? (i := 13) (by decide +kernel)), by decide +kernel, by decide +kernel, by decide +kernel, by decide⟩, in5 (List.mem_of_getElem? (i := 154) (by decide +kernel)), in5 (List.mem_of_getElem? (i := 155) (by decide +kernel))⟩
abbrev mX12_here : MD := (yX12_here, cX12_here, 2, (some .int))
theorem oX12_here : MOKv mX12_here 1 := ⟨⟨in5 (List.mem_of_getElem? (i := 168) rfl), in1 (List.mem_of_getElem? (i := 13) (by decide +kernel)), by decide +kernel, by decide +kernel, by decide +kernel, by decide⟩, in5 (List.mem_of_getElem? (i := 167) (by decide +kernel)), inS (List.mem_of_getElem? (i := 26) (by decide +kernel))⟩
abbrev mX12_isLetter : MD := (yX12_isLetter, cX12_isLetter, 1, (some .boolean))
theorem oX12_isLetter : MOKs mX12_isLetter 1 := ⟨⟨in5 (List.mem_of_getElem? (i := 171) rfl), in1 (List.mem_of_getElem? (i := 13) (by decide +kernel)), by decide +kernel, by decide +kernel, by decide +kernel, by decide⟩, in5 (List.mem_of_getElem? (i := 170) (by decide +kernel))⟩
abbrev mX12_isDigit : MD := (yX12_isDigit, cX12_isDigit, 1, (some .boolean))
theorem oX12_isDigit : MOKs mX12_isDigit 1 := ⟨⟨in5 (List.mem_of_getElem? (i := 174) rfl), in1 (List.mem_of_getElem? (i := 13) (by decide +kernel)), by decide +kernel, by decide +kernel, by decide +kernel, by decide⟩, in5 (List.mem_of_getElem? (i := 173) (by decide +kernel))⟩
abbrev mX12_isSign : MD := (yX12_isSign, cX12_isSign, 1, (some .boolean))
theorem oX12_isSign : MOKs mX12_isSign 1 := ⟨⟨in5 (List.mem_of_getElem? (i := 177) rfl), in1 (List.mem_of_getElem? (i := 13) (by decide +kernel)), by decide +kernel, by decide +kernel, by decide +kernel, by decide⟩, in5 (List.mem_of_getElem? (i := 176) (by decide +kernel))⟩
abbrev mX12_next : MD := (yX12_next, cX12_next, 3, none)
theorem oX12_next : MOKv mX12_next 0 := ⟨⟨in5 (List.mem_of_getElem? (i := 164) rfl), in1 (List.mem_of_getElem? (i := 13) (by decide +kernel)), by decide +kernel, by decide +kernel, by decide +kernel, by decide⟩, in5 (List.mem_of_getElem? (i := 163) (by decide +kernel)), inS (List.mem_of_getElem? (i := 25) (by decide +kernel))⟩
abbrev mX12_wrong : MD := (yX12_wrong, cX12_wrong, 2, none)
theorem oX12_wrong : MOKv mX12_wrong 1 := ⟨⟨in5 (List.mem_of_getElem? (i := 187) rfl), in1 (List.mem_of_getElem? (i := 13) (by decide +kernel)), by decide +kernel, by decide +kernel, by decide +kernel, by decide⟩, in5 (List.mem_of_getElem? (i := 186) (by decide +kernel)), inS (List.mem_of_getElem? (i := 28) (by decide +kernel))⟩
abbrev mX12_isWord : MD := (yX12_isWord, cX12_isWord, 3, (some .boolean))
theorem oX12_isWord : MOKv mX12_isWord 1 := ⟨⟨in5 (List.mem_of_getElem? (i := 182) rfl), in1 (List.mem_of_getElem? (i := 13) (by decide +kernel)), by decide +kernel, by decide +kernel, by decide +kernel, by decide⟩, in5 (List.mem_of_getElem? (i := 181) (by decide +kernel)), inS (List.mem_of_getElem? (i := 27) (by decide +kernel))⟩
abbrev mX12_named : MD := (yX12_named, cX12_named, 1, (some .int))
theorem oX12_named : MOKv mX12_named 0 := ⟨⟨in5 (List.mem_of_getElem? (i := 226) rfl), in1 (List.mem_of_getElem? (i := 13) (by decide +kernel)), by decide +kernel, by decide +kernel, by decide +kernel, by decide⟩, in5 (List.mem_of_getElem? (i := 225) (by decide +kernel)), inS (List.mem_of_getElem? (i := 37) (by decide +kernel))⟩
abbrev mX12_step : MD := (yX12_step, cX12_step, 3, none)
theorem oX12_step : MOKv mX12_step 2 := ⟨⟨in5 (List.mem_of_getElem? (i := 207) rfl), in1 (List.mem_of_getElem? (i := 13) (by decide +kernel)), by decide +kernel, by decide +kernel, by decide +kernel, by decide⟩, in5 (List.mem_of_getElem? (i := 206) (by decide +kernel)), inS (List.mem_of_getElem? (i := 33) (by decide +kernel))⟩
abbrev mX12_hold : MD := (yX12_hold, cX12_hold, 2, none)
theorem oX12_hold : MOKv mX12_hold 1 := ⟨⟨in5 (List.mem_of_getElem? (i := 211) rfl), in1 (List.mem_of_getElem? (i := 13) (by decide +kernel)), by decide +kernel, by decide +kernel, by decide +kernel, by decide⟩, in5 (List.mem_of_getElem? (i := 210) (by decide +kernel)), inS (List.mem_of_getElem? (i := 34) (by decide +kernel))⟩
abbrev mX12_settle : MD := (yX12_settle, cX12_settle, 2, none)
theorem oX12_settle : MOKv mX12_settle 1 := ⟨⟨in5 (List.mem_of_getElem? (i := 203) rfl), in1 (List.mem_of_getElem? (i := 13) (by decide +kernel)), by decide +kernel, by decide +kernel, by decide +kernel, by decide⟩, in5 (List.mem_of_getElem? (i := 202) (by decide +kernel)), inS (List.mem_of_getElem? (i := 32) (by decide +kernel))⟩
abbrev mX12_isOpen : MD := (yX12_isOpen, cX12_isOpen, 3, (some .boolean))
theorem oX12_isOpen : MOKv mX12_isOpen 0 := ⟨⟨in5 (List.mem_of_getElem? (i := 195) rfl), in1 (List.mem_of_getElem? (i := 13) (by decide +kernel)), by decide +kernel, by decide +kernel, by decide +kernel, by decide⟩, in5 (List.mem_of_getElem? (i := 194) (by decide +kernel)), inS (List.mem_of_getElem? (i := 30) (by decide +kernel))⟩
abbrev mX12_readE : MD := (yX12_readE, cX12_readE, 3, none)
theorem oX12_readE : MOKv mX12_readE 1 := ⟨⟨in5 (List.mem_of_getElem? (i := 191) rfl), in1 (List.mem_of_getElem? (i := 13) (by decide +kernel)), by decide +kernel, by decide +kernel, by decide +kernel, by decide⟩, in5 (List.mem_of_getElem? (i := 190) (by decide +kernel)), inS (List.mem_of_getElem? (i := 29) (by decide +kernel))⟩
abbrev mX12_operand : MD := (yX12_operand, cX12_operand, 5, (some .int))
theorem oX12_operand : MOKv mX12_operand 2 := ⟨⟨in5 (List.mem_of_getElem? (i := 221) rfl), in1 (List.mem_of_getElem? (i := 13) (by decide +kernel)), by decide +kernel, by decide +kernel, by decide +kernel, by decide⟩, in5 (List.mem_of_getElem? (i := 220) (by decide +kernel)), inS (List.mem_of_getElem? (i := 36) (by decide +kernel))⟩
abbrev mX12_sign : MD := (yX12_sign, cX12_sign, 2, (some .int))
theorem oX12_sign : MOKv mX12_sign 0 := ⟨⟨in5 (List.mem_of_getElem? (i := 199) rfl), in1 (List.mem_of_getElem? (i := 13) (by decide +kernel)), by decide +kernel, by decide +kernel, by decide +kernel, by decide⟩, in5 (List.mem_of_getElem? (i := 198) (by decide +kernel)), inS (List.mem_of_getElem? (i := 31) (by decide +kernel))⟩
abbrev mX12_settleOnes : MD := (yX12_settleOnes, cX12_settleOnes, 4, none)
theorem oX12_settleOnes : MOKv mX12_settleOnes 1 := ⟨⟨in5 (List.mem_of_getElem? (i := 217) rfl), in1 (List.mem_of_getElem? (i := 13) (by decide +kernel)), by decide +kernel, by decide +kernel, by decide +kernel, by decide⟩, in5 (List.mem_of_getElem? (i := 216) (by decide +kernel)), inS (List.mem_of_getElem? (i := 35) (by decide +kernel))⟩
abbrev mX12_rules : MD := (yX12_rules, cX12_rules, 2, (some .int))
theorem oX12_rules : MOKv mX12_rules 0 := ⟨⟨in5 (List.mem_of_getElem? (i := 160) rfl), in1 (List.mem_of_getElem? (i := 13) (by decide +kernel)), by decide +kernel, by decide +kernel, by decide +kernel, by decide⟩, in5 (List.mem_of_getElem? (i := 158) (by decide +kernel)), in5 (List.mem_of_getElem? (i := 159) (by decide +kernel))⟩
abbrev mX12_fault : MD := (yX12_fault, cX12_fault, 2, (some .int))
theorem oX12_fault : MOKv mX12_fault 1 := ⟨⟨in6 (List.mem_of_getElem? (i := 4) rfl), in1 (List.mem_of_getElem? (i := 13) (by decide +kernel)), by decide +kernel, by decide +kernel, by decide +kernel, by decide⟩, in6 (List.mem_of_getElem? (i := 2) (by decide +kernel)), in6 (List.mem_of_getElem? (i := 3) (by decide +kernel))⟩
abbrev mX12_tell : MD := (yX12_tell, cX12_tell, 3, none)
theorem oX12_tell : MOKv mX12_tell 2 := ⟨⟨in6 (List.mem_of_getElem? (i := 12) rfl), in1 (List.mem_of_getElem? (i := 13) (by decide +kernel)), by decide +kernel, by decide +kernel, by decide +kernel, by decide⟩, in6 (List.mem_of_getElem? (i := 11) (by decide +kernel)), inS (List.mem_of_getElem? (i := 38) (by decide +kernel))⟩
abbrev mX12_holds : MD := (yX12_holds, cX12_holds, 7, (some .boolean))
theorem oX12_holds : MOKv mX12_holds 1 := ⟨⟨in6 (List.mem_of_getElem? (i := 20) rfl), in1 (List.mem_of_getElem? (i := 13) (by decide +kernel)), by decide +kernel, by decide +kernel, by decide +kernel, by decide⟩, in6 (List.mem_of_getElem? (i := 19) (by decide +kernel)), inS (List.mem_of_getElem? (i := 40) (by decide +kernel))⟩
abbrev mX12_hold_ : MD := (yX12_hold_, cX12_hold_, 4, (some .boolean))
theorem oX12_hold_ : MOKv mX12_hold_ 1 := ⟨⟨in6 (List.mem_of_getElem? (i := 16) rfl), in1 (List.mem_of_getElem? (i := 13) (by decide +kernel)), by decide +kernel, by decide +kernel, by decide +kernel, by decide⟩, in6 (List.mem_of_getElem? (i := 15) (by decide +kernel)), inS (List.mem_of_getElem? (i := 39) (by decide +kernel))⟩
abbrev mX12_may : MD := (yX12_may, cX12_may, 4, (some .boolean))
theorem oX12_may : MOKv mX12_may 3 := ⟨⟨in6 (List.mem_of_getElem? (i := 8) rfl), in1 (List.mem_of_getElem? (i := 13) (by decide +kernel)), by decide +kernel, by decide +kernel, by decide +kernel, by decide⟩, in6 (List.mem_of_getElem? (i := 6) (by decide +kernel)), in6 (List.mem_of_getElem? (i := 7) (by decide +kernel))⟩
abbrev mX12_meetsFrom : MD := (yX12_meetsFrom, cX12_meetsFrom, 6, (some .boolean))
theorem oX12_meetsFrom : MOKv mX12_meetsFrom 5 := ⟨⟨in6 (List.mem_of_getElem? (i := 28) rfl), in1 (List.mem_of_getElem? (i := 13) (by decide +kernel)), by decide +kernel, by decide +kernel, by decide +kernel, by decide⟩, in6 (List.mem_of_getElem? (i := 27) (by decide +kernel)), inS (List.mem_of_getElem? (i := 41) (by decide +kernel))⟩
abbrev mX12_meet : MD := (yX12_meet, cX12_meet, 7, (some .boolean))
theorem oX12_meet : MOKv mX12_meet 5 := ⟨⟨in6 (List.mem_of_getElem? (i := 24) rfl), in1 (List.mem_of_getElem? (i := 13) (by decide +kernel)), by decide +kernel, by decide +kernel, by decide +kernel, by decide⟩, in6 (List.mem_of_getElem? (i := 22) (by decide +kernel)), in6 (List.mem_of_getElem? (i := 23) (by decide +kernel))⟩
abbrev mX12_plan : MD := (yX12_plan, cX12_plan, 4, (some .int))
theorem oX12_plan : MOKv mX12_plan 0 := ⟨⟨in6 (List.mem_of_getElem? (i := 32) rfl), in1 (List.mem_of_getElem? (i := 13) (by decide +kernel)), by decide +kernel, by decide +kernel, by decide +kernel, by decide⟩, in6 (List.mem_of_getElem? (i := 30) (by decide +kernel)), in6 (List.mem_of_getElem? (i := 31) (by decide +kernel))⟩
abbrev mX12_nextOf : MD := (yX12_nextOf, cX12_nextOf, 3, (some .int))
theorem oX12_nextOf : MOKv mX12_nextOf 1 := ⟨⟨in6 (List.mem_of_getElem? (i := 36) rfl), in1 (List.mem_of_getElem? (i := 13) (by decide +kernel)), by decide +kernel, by decide +kernel, by decide +kernel, by decide⟩, in6 (List.mem_of_getElem? (i := 35) (by decide +kernel)), inS (List.mem_of_getElem? (i := 42) (by decide +kernel))⟩
abbrev mX12_lastOf : MD := (yX12_lastOf, cX12_lastOf, 3, (some .int))
theorem oX12_lastOf : MOKv mX12_lastOf 1 := ⟨⟨in6 (List.mem_of_getElem? (i := 40) rfl), in1 (List.mem_of_getElem? (i := 13) (by decide +kernel)), by decide +kernel, by decide +kernel, by decide +kernel, by decide⟩, in6 (List.mem_of_getElem? (i := 39) (by decide +kernel)), inS (List.mem_of_getElem? (i := 43) (by decide +kernel))⟩
abbrev mX12_fits : MD := (yX12_fits, cX12_fits, 8, (some .boolean))
theorem oX12_fits : MOKv mX12_fits 2 := ⟨⟨in6 (List.mem_of_getElem? (i := 44) rfl), in1 (List.mem_of_getElem? (i := 13) (by decide +kernel)), by decide +kernel, by decide +kernel, by decide +kernel, by decide⟩, in6 (List.mem_of_getElem? (i := 43) (by decide +kernel)), inS (List.mem_of_getElem? (i := 44) (by decide +kernel))⟩
abbrev mX12_tries : MD := (yX12_tries, cX12_tries, 1, (some .int))
theorem oX12_tries : MOKv mX12_tries 0 := ⟨⟨in6 (List.mem_of_getElem? (i := 50) rfl), in1 (List.mem_of_getElem? (i := 13) (by decide +kernel)), by decide +kernel, by decide +kernel, by decide +kernel, by decide⟩, in6 (List.mem_of_getElem? (i := 48) (by decide +kernel)), in6 (List.mem_of_getElem? (i := 49) (by decide +kernel))⟩
abbrev mX12_out : MD := (yX12_out, cX12_out, 2, (some .int))
theorem oX12_out : MOKv mX12_out 1 := ⟨⟨in6 (List.mem_of_getElem? (i := 54) rfl), in1 (List.mem_of_getElem? (i := 13) (by decide +kernel)), by decide +kernel, by decide +kernel, by decide +kernel, by decide⟩, in6 (List.mem_of_getElem? (i := 52) (by decide +kernel)), in6 (List.mem_of_getElem? (i := 53) (by decide +kernel))⟩
abbrev mX12_stuck : MD := (yX12_stuck, cX12_stuck, 4, (some .int))
theorem oX12_stuck : MOKv mX12_stuck 0 := ⟨⟨in6 (List.mem_of_getElem? (i := 58) rfl), in1 (List.mem_of_getElem? (i := 13) (by decide +kernel)), by decide +kernel, by decide +kernel, by decide +kernel, by decide⟩, in6 (List.mem_of_getElem? (i := 56) (by decide +kernel)), in6 (List.mem_of_getElem? (i := 57) (by decide +kernel))⟩
abbrev mX12_lot : MD := (yX12_lot, cX12_lot, 5, (some .int))
theorem oX12_lot : MOKv mX12_lot 3 := ⟨⟨in6 (List.mem_of_getElem? (i := 62) rfl), in1 (List.mem_of_getElem? (i := 13) (by decide +kernel)), by decide +kernel, by decide +kernel, by decide +kernel, by decide⟩, in6 (List.mem_of_getElem? (i := 60) (by decide +kernel)), in6 (List.mem_of_getElem? (i := 61) (by decide +kernel))⟩
abbrev mX12_firstGoes : MD := (yX12_firstGoes, cX12_firstGoes, 3, none)
theorem oX12_firstGoes : MOKv mX12_firstGoes 1 := ⟨⟨in6 (List.mem_of_getElem? (i := 85) rfl), in1 (List.mem_of_getElem? (i := 13) (by decide +kernel)), by decide +kernel, by decide +kernel, by decide +kernel, by decide⟩, in6 (List.mem_of_getElem? (i := 84) (by decide +kernel)), inS (List.mem_of_getElem? (i := 45) (by decide +kernel))⟩
abbrev mX12_takes : MD := (yX12_takes, cX12_takes, 4, (some .boolean))
theorem oX12_takes : MOKv mX12_takes 3 := ⟨⟨in6 (List.mem_of_getElem? (i := 69) rfl), in1 (List.mem_of_getElem? (i := 13) (by decide +kernel)), by decide +kernel, by decide +kernel, by decide +kernel, by decide⟩, in6 (List.mem_of_getElem? (i := 67) (by decide +kernel)), in6 (List.mem_of_getElem? (i := 68) (by decide +kernel))⟩
abbrev mX12_price : MD := (yX12_price, cX12_price, 3, (some .boolean))
theorem oX12_price : MOKv mX12_price 2 := ⟨⟨in6 (List.mem_of_getElem? (i := 73) rfl), in1 (List.mem_of_getElem? (i := 13) (by decide +kernel)), by decide +kernel, by decide +kernel, by decide +kernel, by decide⟩, in6 (List.mem_of_getElem? (i := 71) (by decide +kernel)), in6 (List.mem_of_getElem? (i := 72) (by decide +kernel))⟩
abbrev mX12_falls : MD := (yX12_falls, cX12_falls, 3, (some .boolean))
theorem oX12_falls : MOKv mX12_falls 2 := ⟨⟨in6 (List.mem_of_getElem? (i := 77) rfl), in1 (List.mem_of_getElem? (i := 13) (by decide +kernel)), by decide +kernel, by decide +kernel, by decide +kernel, by decide⟩, in6 (List.mem_of_getElem? (i := 75) (by decide +kernel)), in6 (List.mem_of_getElem? (i := 76) (by decide +kernel))⟩
abbrev mX12_serve : MD := (yX12_serve, cX12_serve, 6, (some .int))
theorem oX12_serve : MOKv mX12_serve 2 := ⟨⟨in6 (List.mem_of_getElem? (i := 89) rfl), in1 (List.mem_of_getElem? (i := 13) (by decide +kernel)), by decide +kernel, by decide +kernel, by decide +kernel, by decide⟩, in6 (List.mem_of_getElem? (i := 88) (by decide +kernel)), inS (List.mem_of_getElem? (i := 46) (by decide +kernel))⟩
abbrev mX12_night : MD := (yX12_night, cX12_night, 7, (some .int))
theorem oX12_night : MOKv mX12_night 0 := ⟨⟨in6 (List.mem_of_getElem? (i := 81) rfl), in1 (List.mem_of_getElem? (i := 13) (by decide +kernel)), by decide +kernel, by decide +kernel, by decide +kernel, by decide⟩, in6 (List.mem_of_getElem? (i := 79) (by decide +kernel)), in6 (List.mem_of_getElem? (i := 80) (by decide +kernel))⟩
abbrev mX12_bin : MD := (yX12_bin, cX12_bin, 5, (some .int))
theorem oX12_bin : MOKv mX12_bin 2 := ⟨⟨in6 (List.mem_of_getElem? (i := 93) rfl), in1 (List.mem_of_getElem? (i := 13) (by decide +kernel)), by decide +kernel, by decide +kernel, by decide +kernel, by decide⟩, in6 (List.mem_of_getElem? (i := 91) (by decide +kernel)), in6 (List.mem_of_getElem? (i := 92) (by decide +kernel))⟩
abbrev mX12_foretold : MD := (yX12_foretold, cX12_foretold, 7, (some .int))
theorem oX12_foretold : MOKv mX12_foretold 1 := ⟨⟨in6 (List.mem_of_getElem? (i := 97) rfl), in1 (List.mem_of_getElem? (i := 13) (by decide +kernel)), by decide +kernel, by decide +kernel, by decide +kernel, by decide⟩, in6 (List.mem_of_getElem? (i := 95) (by decide +kernel)), in6 (List.mem_of_getElem? (i := 96) (by decide +kernel))⟩
abbrev mX12_work : MD := (yX12_work, cX12_work, 4, (some .int))
theorem oX12_work : MOKv mX12_work 3 := ⟨⟨in6 (List.mem_of_getElem? (i := 101) rfl), in1 (List.mem_of_getElem? (i := 13) (by decide +kernel)), by decide +kernel, by decide +kernel, by decide +kernel, by decide⟩, in6 (List.mem_of_getElem? (i := 99) (by decide +kernel)), in6 (List.mem_of_getElem? (i := 100) (by decide +kernel))⟩
abbrev mX12_due : MD := (yX12_due, cX12_due, 5, (some .int))
theorem oX12_due : MOKv mX12_due 2 := ⟨⟨in6 (List.mem_of_getElem? (i := 105) rfl), in1 (List.mem_of_getElem? (i := 13) (by decide +kernel)), by decide +kernel, by decide +kernel, by decide +kernel, by decide⟩, in6 (List.mem_of_getElem? (i := 103) (by decide +kernel)), in6 (List.mem_of_getElem? (i := 104) (by decide +kernel))⟩
abbrev mX12_bill : MD := (yX12_bill, cX12_bill, 7, (some .int))
theorem oX12_bill : MOKv mX12_bill 4 := ⟨⟨in6 (List.mem_of_getElem? (i := 109) rfl), in1 (List.mem_of_getElem? (i := 13) (by decide +kernel)), by decide +kernel, by decide +kernel, by decide +kernel, by decide⟩, in6 (List.mem_of_getElem? (i := 107) (by decide +kernel)), in6 (List.mem_of_getElem? (i := 108) (by decide +kernel))⟩
abbrev mX12_lacked : MD := (yX12_lacked, cX12_lacked, 2, (some .int))
theorem oX12_lacked : MOKv mX12_lacked 1 := ⟨⟨in6 (List.mem_of_getElem? (i := 113) rfl), in1 (List.mem_of_getElem? (i := 13) (by decide +kernel)), by decide +kernel, by decide +kernel, by decide +kernel, by decide⟩, in6 (List.mem_of_getElem? (i := 111) (by decide +kernel)), in6 (List.mem_of_getElem? (i := 112) (by decide +kernel))⟩
abbrev mX12_about : MD := (yX12_about, cX12_about, 2, (some .int))
theorem oX12_about : MOKv mX12_about 1 := ⟨⟨in6 (List.mem_of_getElem? (i := 117) rfl), in1 (List.mem_of_getElem? (i := 13) (by decide +kernel)), by decide +kernel, by decide +kernel, by decide +kernel, by decide⟩, in6 (List.mem_of_getElem? (i := 115) (by decide +kernel)), in6 (List.mem_of_getElem? (i := 116) (by decide +kernel))⟩
abbrev mJ0_length_8abf5 : MD := (yJ0_length_8abf5, cJ0_length_8abf5, 1, (some .int))
theorem oJ0_length_8abf5 : MOKv mJ0_length_8abf5 0 := ⟨⟨in2 (List.mem_of_getElem? (i := 214) rfl), in1 (List.mem_of_getElem? (i := 14) (by decide +kernel)), by decide +kernel, by decide +kernel, by decide +kernel, by decide⟩, in2 (List.mem_of_getElem? (i := 212) (by decide +kernel)), in2 (List.mem_of_getElem? (i := 213) (by decide +kernel))⟩
abbrev mJ0_charAt_5068e : MD := (yJ0_charAt_5068e, cJ0_charAt_5068e, 2, (some .char))
theorem oJ0_charAt_5068e : MOKv mJ0_charAt_5068e 1 := ⟨⟨in2 (List.mem_of_getElem? (i := 224) rfl), in1 (List.mem_of_getElem? (i := 14) (by decide +kernel)), by decide +kernel, by decide +kernel, by decide +kernel, by decide⟩, in2 (List.mem_of_getElem? (i := 222) (by decide +kernel)), in2 (List.mem_of_getElem? (i := 223) (by decide +kernel))⟩
abbrev mJ0_coder_7d493 : MD := (yJ0_coder_7d493, cJ0_coder_7d493, 1, (some .byte))
theorem oJ0_coder_7d493 : MOKv mJ0_coder_7d493 0 := ⟨⟨in2 (List.mem_of_getElem? (i := 218) rfl), in1 (List.mem_of_getElem? (i := 14) (by decide +kernel)), by decide +kernel, by decide +kernel, by decide +kernel, by decide⟩, in2 (List.mem_of_getElem? (i := 216) (by decide +kernel)), in2 (List.mem_of_getElem? (i := 217) (by decide +kernel))⟩
abbrev mJ0_isLatin1_aae02 : MD := (yJ0_isLatin1_aae02, cJ0_isLatin1_aae02, 1, (some .boolean))
theorem oJ0_isLatin1_aae02 : MOKv mJ0_isLatin1_aae02 0 := ⟨⟨in2 (List.mem_of_getElem? (i := 228) rfl), in1 (List.mem_of_getElem? (i := 14) (by decide +kernel)), by decide +kernel, by decide +kernel, by decide +kernel, by decide⟩, in2 (List.mem_of_getElem? (i := 226) (by decide +kernel)), in2 (List.mem_of_getElem? (i := 227) (by decide +kernel))⟩
abbrev mJ0_checkIndex_df160 : MD := (yJ0_checkIndex_df160, cJ0_checkIndex_df160, 2, none)
theorem oJ0_checkIndex_df160 : MOKs mJ0_checkIndex_df160 2 := ⟨⟨in2 (List.mem_of_getElem? (i := 234) rfl), in1 (List.mem_of_getElem? (i := 14) (by decide +kernel)), by decide +kernel, by decide +kernel, by decide +kernel, by decide⟩, in2 (List.mem_of_getElem? (i := 233) (by decide +kernel))⟩
abbrev mJ1_charAt_3b067 : MD := (yJ1_charAt_3b067, cJ1_charAt_3b067, 2, (some .char))
theorem oJ1_charAt_3b067 : MOKs mJ1_charAt_3b067 2 := ⟨⟨in2 (List.mem_of_getElem? (i := 231) rfl), in1 (List.mem_of_getElem? (i := 15) (by decide +kernel)), by decide +kernel, by decide +kernel, by decide +kernel, by decide⟩, in2 (List.mem_of_getElem? (i := 230) (by decide +kernel))⟩
abbrev mJ2_getChar_3b067 : MD := (yJ2_getChar_3b067, cJ2_getChar_3b067, 2, (some .char))
theorem oJ2_getChar_3b067 : MOKs mJ2_getChar_3b067 2 := ⟨⟨in3 (List.mem_of_getElem? (i := 12) rfl), in1 (List.mem_of_getElem? (i := 17) (by decide +kernel)), by decide +kernel, by decide +kernel, by decide +kernel, by decide⟩, in3 (List.mem_of_getElem? (i := 11) (by decide +kernel))⟩
abbrev mJ2_length_9d52b : MD := (yJ2_length_9d52b, cJ2_length_9d52b, 1, (some .int))
theorem oJ2_length_9d52b : MOKs mJ2_length_9d52b 1 := ⟨⟨in3 (List.mem_of_getElem? (i := 8) rfl), in1 (List.mem_of_getElem? (i := 17) (by decide +kernel)), by decide +kernel, by decide +kernel, by decide +kernel, by decide⟩, in3 (List.mem_of_getElem? (i := 7) (by decide +kernel))⟩
abbrev mJ2_charAt_3b067 : MD := (yJ2_charAt_3b067, cJ2_charAt_3b067, 2, (some .char))
theorem oJ2_charAt_3b067 : MOKs mJ2_charAt_3b067 2 := ⟨⟨in3 (List.mem_of_getElem? (i := 2) rfl), in1 (List.mem_of_getElem? (i := 17) (by decide +kernel)), by decide +kernel, by decide +kernel, by decide +kernel, by decide⟩, in3 (List.mem_of_getElem? (i := 1) (by decide +kernel))⟩
abbrev mJ2_checkIndex_2214a : MD := (yJ2_checkIndex_2214a, cJ2_checkIndex_2214a, 2, none)
theorem oJ2_checkIndex_2214a : MOKs mJ2_checkIndex_2214a 2 := ⟨⟨in3 (List.mem_of_getElem? (i := 5) rfl), in1 (List.mem_of_getElem? (i := 17) (by decide +kernel)), by decide +kernel, by decide +kernel, by decide +kernel, by decide⟩, in3 (List.mem_of_getElem? (i := 4) (by decide +kernel))⟩
abbrev mJ7_fill_53178 : MD := (yJ7_fill_53178, cJ7_fill_53178, 4, none)
theorem oJ7_fill_53178 : MOKs mJ7_fill_53178 2 := ⟨⟨in3 (List.mem_of_getElem? (i := 180) rfl), in1 (List.mem_of_getElem? (i := 19) (by decide +kernel)), by decide +kernel, by decide +kernel, by decide +kernel, by decide⟩, in3 (List.mem_of_getElem? (i := 179) (by decide +kernel))⟩
abbrev mJ3_checkIndex_8e157 : MD := (yJ3_checkIndex_8e157, cJ3_checkIndex_8e157, 3, (some .int))
theorem oJ3_checkIndex_8e157 : MOKs mJ3_checkIndex_8e157 3 := ⟨⟨in2 (List.mem_of_getElem? (i := 239) rfl), in1 (List.mem_of_getElem? (i := 16) (by decide +kernel)), by decide +kernel, by decide +kernel, by decide +kernel, by decide⟩, in2 (List.mem_of_getElem? (i := 238) (by decide +kernel))⟩
theorem lL_7 : Cond.classLink RL 7 RX11 ∈ lw_tbl := in1 (List.mem_of_getElem? (i := 21) (by decide +kernel))
theorem nL_7 : NOK RL 7 11 13 [.null, .null, .null, .null, .null, .null, .null, .null, .null, .null, .null, .null, .int 0] := ⟨RX11, TX11, tyX11, rfl, lL_7, in1 (List.mem_of_getElem? (i := 22) (by decide +kernel)), in1 (List.mem_of_getElem? (i := 1) (by decide +kernel)), wX11, tyX11_ok, by decide +kernel, fun _ => rfl⟩
theorem kL_9 : Cond.methodLink RL 9 yX11_init ∈ lw_tbl := in1 (List.mem_of_getElem? (i := 23) (by decide +kernel))
theorem kX11_3 : Cond.methodLink RX11 3 Lib.objectInit ∈ lw_tbl := in1 (List.mem_of_getElem? (i := 26) (by decide +kernel))
theorem lX11_9 : Cond.classLink RX11 9 RX1 ∈ lw_tbl := in1 (List.mem_of_getElem? (i := 29) (by decide +kernel))
theorem nX11_9 : NOK RX11 9 1 7 [.null, .null, .null, .null, .null, .null, .int 0] := ⟨RX1, TX1, tyX1, rfl, lX11_9, in1 (List.mem_of_getElem? (i := 30) (by decide +kernel)), in1 (List.mem_of_getElem? (i := 2) (by decide +kernel)), wX1, tyX1_ok, by decide +kernel, fun _ => rfl⟩
theorem kX11_11 : Cond.methodLinkNest RX11 11 yX1_init "LiveryYard" ∈ lw_tbl := in1 (List.mem_of_getElem? (i := 31) (by decide +kernel))
theorem kX1_3 : Cond.methodLink RX1 3 Lib.objectInit ∈ lw_tbl := in1 (List.mem_of_getElem? (i := 34) (by decide +kernel))
theorem lfX1_9 : Cond.fieldLink RX1 9 (TX1 0).1 (TX1 0).2.1 (TX1 0).2.2.1 ∈ lw_tbl := in1 (List.mem_of_getElem? (i := 35) (by decide +kernel))
theorem fX1_9 : FOK RX1 9 1 0 := ⟨RX1, TX1, 7, rfl, by decide, lfX1_9, wX1⟩
theorem qX1_9 : PFOK RX1 9 1 0 (.array .int) := ⟨RX1, TX1, 7, tyX1, rfl, by decide, lfX1_9, wX1, tyX1_ok, nmX1, rfl, rfl, by decide +kernel⟩
theorem lfX1_15 : Cond.fieldLink RX1 15 (TX1 1).1 (TX1 1).2.1 (TX1 1).2.2.1 ∈ lw_tbl := in1 (List.mem_of_getElem? (i := 36) (by decide +kernel))
theorem fX1_15 : FOK RX1 15 1 1 := ⟨RX1, TX1, 7, rfl, by decide, lfX1_15, wX1⟩
theorem qX1_15 : PFOK RX1 15 1 1 (.array .int) := ⟨RX1, TX1, 7, tyX1, rfl, by decide, lfX1_15, wX1, tyX1_ok, nmX1, rfl, rfl, by decide +kernel⟩
theorem lfX1_18 : Cond.fieldLink RX1 18 (TX1 2).1 (TX1 2).2.1 (TX1 2).2.2.1 ∈ lw_tbl := in1 (List.mem_of_getElem? (i := 37) (by decide +kernel))
theorem fX1_18 : FOK RX1 18 1 2 := ⟨RX1, TX1, 7, rfl, by decide, lfX1_18, wX1⟩
theorem qX1_18 : PFOK RX1 18 1 2 (.array .int) := ⟨RX1, TX1, 7, tyX1, rfl, by decide, lfX1_18, wX1, tyX1_ok, nmX1, rfl, rfl, by decide +kernel⟩
theorem lfX1_21 : Cond.fieldLink RX1 21 (TX1 3).1 (TX1 3).2.1 (TX1 3).2.2.1 ∈ lw_tbl := in1 (List.mem_of_getElem? (i := 38) (by decide +kernel))
theorem fX1_21 : FOK RX1 21 1 3 := ⟨RX1, TX1, 7, rfl, by decide, lfX1_21, wX1⟩
theorem qX1_21 : PFOK RX1 21 1 3 (.array .boolean) := ⟨RX1, TX1, 7, tyX1, rfl, by decide, lfX1_21, wX1, tyX1_ok, nmX1, rfl, rfl, by decide +kernel⟩
theorem lfX1_25 : Cond.fieldLink RX1 25 (TX1 4).1 (TX1 4).2.1 (TX1 4).2.2.1 ∈ lw_tbl := in1 (List.mem_of_getElem? (i := 39) (by decide +kernel))
theorem fX1_25 : FOK RX1 25 1 4 := ⟨RX1, TX1, 7, rfl, by decide, lfX1_25, wX1⟩
theorem qX1_25 : PFOK RX1 25 1 4 (.array .int) := ⟨RX1, TX1, 7, tyX1, rfl, by decide, lfX1_25, wX1, tyX1_ok, nmX1, rfl, rfl, by decide +kernel⟩
theorem lfX1_28 : Cond.fieldLink RX1 28 (TX1 5).1 (TX1 5).2.1 (TX1 5).2.2.1 ∈ lw_tbl := in1 (List.mem_of_getElem? (i := 40) (by decide +kernel))
theorem fX1_28 : FOK RX1 28 1 5 := ⟨RX1, TX1, 7, rfl, by decide, lfX1_28, wX1⟩
theorem qX1_28 : PFOK RX1 28 1 5 (.array .int) := ⟨RX1, TX1, 7, tyX1, rfl, by decide, lfX1_28, wX1, tyX1_ok, nmX1, rfl, rfl, by decide +kernel⟩
theorem lfX1_31 : Cond.fieldLink RX1 31 (TX1 6).1 (TX1 6).2.1 (TX1 6).2.2.1 ∈ lw_tbl := in1 (List.mem_of_getElem? (i := 41) (by decide +kernel))
theorem fX1_31 : FOK RX1 31 1 6 := ⟨RX1, TX1, 7, rfl, by decide, lfX1_31, wX1⟩
theorem pX1_31 : POK RX1 31 1 6 .int := ⟨RX1, TX1, 7, tyX1, rfl, by decide, lfX1_31, wX1, tyX1_ok, nmX1, rfl, by decide +kernel⟩
theorem lX11_16 : Cond.classLink RX11 16 RX3 ∈ lw_tbl := in1 (List.mem_of_getElem? (i := 59) (by decide +kernel))
theorem nX11_16 : NOK RX11 16 3 4 [.null, .null, .null, .null] := ⟨RX3, TX3, tyX3, rfl, lX11_16, in1 (List.mem_of_getElem? (i := 60) (by decide +kernel)), in1 (List.mem_of_getElem? (i := 3) (by decide +kernel)), wX3, tyX3_ok, by decide +kernel, fun _ => rfl⟩
theorem kX11_18 : Cond.methodLinkNest RX11 18 yX3_init "LiveryYard" ∈ lw_tbl := in1 (List.mem_of_getElem? (i := 61) (by decide +kernel))
theorem kX3_3 : Cond.methodLink RX3 3 Lib.objectInit ∈ lw_tbl := in1 (List.mem_of_getElem? (i := 64) (by decide +kernel))
theorem lfX3_9 : Cond.fieldLink RX3 9 (TX3 0).1 (TX3 0).2.1 (TX3 0).2.2.1 ∈ lw_tbl := in1 (List.mem_of_getElem? (i := 65) (by decide +kernel))
theorem fX3_9 : FOK RX3 9 3 0 := ⟨RX3, TX3, 4, rfl, by decide, lfX3_9, wX3⟩
theorem qX3_9 : PFOK RX3 9 3 0 (.array .int) := ⟨RX3, TX3, 4, tyX3, rfl, by decide, lfX3_9, wX3, tyX3_ok, nmX3, rfl, rfl, by decide +kernel⟩
theorem lfX3_15 : Cond.fieldLink RX3 15 (TX3 1).1 (TX3 1).2.1 (TX3 1).2.2.1 ∈ lw_tbl := in1 (List.mem_of_getElem? (i := 66) (by decide +kernel))
theorem fX3_15 : FOK RX3 15 3 1 := ⟨RX3, TX3, 4, rfl, by decide, lfX3_15, wX3⟩
theorem qX3_15 : PFOK RX3 15 3 1 (.array .int) := ⟨RX3, TX3, 4, tyX3, rfl, by decide, lfX3_15, wX3, tyX3_ok, nmX3, rfl, rfl, by decide +kernel⟩
theorem lfX3_18 : Cond.fieldLink RX3 18 (TX3 2).1 (TX3 2).2.1 (TX3 2).2.2.1 ∈ lw_tbl := in1 (List.mem_of_getElem? (i := 67) (by decide +kernel))
theorem fX3_18 : FOK RX3 18 3 2 := ⟨RX3, TX3, 4, rfl, by decide, lfX3_18, wX3⟩
theorem qX3_18 : PFOK RX3 18 3 2 (.array .int) := ⟨RX3, TX3, 4, tyX3, rfl, by decide, lfX3_18, wX3, tyX3_ok, nmX3, rfl, rfl, by decide +kernel⟩
theorem lfX3_21 : Cond.fieldLink RX3 21 (TX3 3).1 (TX3 3).2.1 (TX3 3).2.2.1 ∈ lw_tbl := in1 (List.mem_of_getElem? (i := 68) (by decide +kernel))
theorem fX3_21 : FOK RX3 21 3 3 := ⟨RX3, TX3, 4, rfl, by decide, lfX3_21, wX3⟩
theorem qX3_21 : PFOK RX3 21 3 3 (.array .boolean) := ⟨RX3, TX3, 4, tyX3, rfl, by decide, lfX3_21, wX3, tyX3_ok, nmX3, rfl, rfl, by decide +kernel⟩
theorem lX11_23 : Cond.classLink RX11 23 RX8 ∈ lw_tbl := in1 (List.mem_of_getElem? (i := 78) (by decide +kernel))
theorem nX11_23 : NOK RX11 23 8 2 [.null, .int 0] := ⟨RX8, TX8, tyX8, rfl, lX11_23, in1 (List.mem_of_getElem? (i := 79) (by decide +kernel)), in1 (List.mem_of_getElem? (i := 4) (by decide +kernel)), wX8, tyX8_ok, by decide +kernel, fun _ => rfl⟩
theorem kX11_25 : Cond.methodLinkNest RX11 25 yX8_init "LiveryYard" ∈ lw_tbl := in1 (List.mem_of_getElem? (i := 80) (by decide +kernel))
theorem kX8_3 : Cond.methodLink RX8 3 Lib.objectInit ∈ lw_tbl := in1 (List.mem_of_getElem? (i := 83) (by decide +kernel))
theorem lfX8_9 : Cond.fieldLink RX8 9 (TX8 0).1 (TX8 0).2.1 (TX8 0).2.2.1 ∈ lw_tbl := in1 (List.mem_of_getElem? (i := 84) (by decide +kernel))
theorem fX8_9 : FOK RX8 9 8 0 := ⟨RX8, TX8, 2, rfl, by decide, lfX8_9, wX8⟩
theorem qX8_9 : PFOK RX8 9 8 0 (.array .int) := ⟨RX8, TX8, 2, tyX8, rfl, by decide, lfX8_9, wX8, tyX8_ok, nmX8, rfl, rfl, by decide +kernel⟩
theorem lfX8_15 : Cond.fieldLink RX8 15 (TX8 1).1 (TX8 1).2.1 (TX8 1).2.2.1 ∈ lw_tbl := in1 (List.mem_of_getElem? (i := 85) (by decide +kernel))
theorem fX8_15 : FOK RX8 15 8 1 := ⟨RX8, TX8, 2, rfl, by decide, lfX8_15, wX8⟩
theorem pX8_15 : POK RX8 15 8 1 .int := ⟨RX8, TX8, 2, tyX8, rfl, by decide, lfX8_15, wX8, tyX8_ok, nmX8, rfl, by decide +kernel⟩
theorem lX11_30 : Cond.classLink RX11 30 RX7 ∈ lw_tbl := in1 (List.mem_of_getElem? (i := 91) (by decide +kernel))
theorem nX11_30 : NOK RX11 30 7 6 [.null, .null, .null, .null, .int 0, .int 0] := ⟨RX7, TX7, tyX7, rfl, lX11_30, in1 (List.mem_of_getElem? (i := 92) (by decide +kernel)), in1 (List.mem_of_getElem? (i := 5) (by decide +kernel)), wX7, tyX7_ok, by decide +kernel, fun _ => rfl⟩
theorem kX11_32 : Cond.methodLinkNest RX11 32 yX7_init "LiveryYard" ∈ lw_tbl := in1 (List.mem_of_getElem? (i := 93) (by decide +kernel))
theorem kX7_3 : Cond.methodLink RX7 3 Lib.objectInit ∈ lw_tbl := in1 (List.mem_of_getElem? (i := 96) (by decide +kernel))
theorem lfX7_9 : Cond.fieldLink RX7 9 (TX7 0).1 (TX7 0).2.1 (TX7 0).2.2.1 ∈ lw_tbl := in1 (List.mem_of_getElem? (i := 97) (by decide +kernel))
theorem fX7_9 : FOK RX7 9 7 0 := ⟨RX7, TX7, 6, rfl, by decide, lfX7_9, wX7⟩
theorem qX7_9 : PFOK RX7 9 7 0 (.array .int) := ⟨RX7, TX7, 6, tyX7, rfl, by decide, lfX7_9, wX7, tyX7_ok, nmX7, rfl, rfl, by decide +kernel⟩
theorem lfX7_15 : Cond.fieldLink RX7 15 (TX7 1).1 (TX7 1).2.1 (TX7 1).2.2.1 ∈ lw_tbl := in1 (List.mem_of_getElem? (i := 98) (by decide +kernel))
theorem fX7_15 : FOK RX7 15 7 1 := ⟨RX7, TX7, 6, rfl, by decide, lfX7_15, wX7⟩
theorem qX7_15 : PFOK RX7 15 7 1 (.array .int) := ⟨RX7, TX7, 6, tyX7, rfl, by decide, lfX7_15, wX7, tyX7_ok, nmX7, rfl, rfl, by decide +kernel⟩
theorem lfX7_18 : Cond.fieldLink RX7 18 (TX7 2).1 (TX7 2).2.1 (TX7 2).2.2.1 ∈ lw_tbl := in1 (List.mem_of_getElem? (i := 99) (by decide +kernel))
theorem fX7_18 : FOK RX7 18 7 2 := ⟨RX7, TX7, 6, rfl, by decide, lfX7_18, wX7⟩
theorem qX7_18 : PFOK RX7 18 7 2 (.array .boolean) := ⟨RX7, TX7, 6, tyX7, rfl, by decide, lfX7_18, wX7, tyX7_ok, nmX7, rfl, rfl, by decide +kernel⟩
theorem lfX7_22 : Cond.fieldLink RX7 22 (TX7 3).1 (TX7 3).2.1 (TX7 3).2.2.1 ∈ lw_tbl := in1 (List.mem_of_getElem? (i := 100) (by decide +kernel))
theorem fX7_22 : FOK RX7 22 7 3 := ⟨RX7, TX7, 6, rfl, by decide, lfX7_22, wX7⟩
theorem qX7_22 : PFOK RX7 22 7 3 (.array .int) := ⟨RX7, TX7, 6, tyX7, rfl, by decide, lfX7_22, wX7, tyX7_ok, nmX7, rfl, rfl, by decide +kernel⟩
theorem lfX7_29 : Cond.fieldLink RX7 29 (TX7 4).1 (TX7 4).2.1 (TX7 4).2.2.1 ∈ lw_tbl := in1 (List.mem_of_getElem? (i := 101) (by decide +kernel))
theorem fX7_29 : FOK RX7 29 7 4 := ⟨RX7, TX7, 6, rfl, by decide, lfX7_29, wX7⟩
theorem pX7_29 : POK RX7 29 7 4 .int := ⟨RX7, TX7, 6, tyX7, rfl, by decide, lfX7_29, wX7, tyX7_ok, nmX7, rfl, by decide +kernel⟩
theorem lfX7_25 : Cond.fieldLink RX7 25 (TX7 5).1 (TX7 5).2.1 (TX7 5).2.2.1 ∈ lw_tbl := in1 (List.mem_of_getElem? (i := 102) (by decide +kernel))
theorem fX7_25 : FOK RX7 25 7 5 := ⟨RX7, TX7, 6, rfl, by decide, lfX7_25, wX7⟩
theorem pX7_25 : POK RX7 25 7 5 .int := ⟨RX7, TX7, 6, tyX7, rfl, by decide, lfX7_25, wX7, tyX7_ok, nmX7, rfl, by decide +kernel⟩
theorem lX11_40 : Cond.classLink RX11 40 RX5 ∈ lw_tbl := in1 (List.mem_of_getElem? (i := 116) (by decide +kernel))
theorem nX11_40 : NOK RX11 40 5 6 [.null, .null, .int 0, .int 0, .int 0, .int 0] := ⟨RX5, TX5, tyX5, rfl, lX11_40, in1 (List.mem_of_getElem? (i := 117) (by decide +kernel)), in1 (List.mem_of_getElem? (i := 6) (by decide +kernel)), wX5, tyX5_ok, by decide +kernel, fun _ => rfl⟩
theorem lX11_42 : Cond.classLink RX11 42 RX9 ∈ lw_tbl := in1 (List.mem_of_getElem? (i := 118) (by decide +kernel))
theorem nX11_42 : NOK RX11 42 9 5 [.null, .int 0, .int 0, .int 0, .int 0] := ⟨RX9, TX9, tyX9, rfl, lX11_42, in1 (List.mem_of_getElem? (i := 119) (by decide +kernel)), in1 (List.mem_of_getElem? (i := 7) (by decide +kernel)), wX9, tyX9_ok, by decide +kernel, fun _ => rfl⟩
theorem kX11_44 : Cond.methodLink RX11 44 yX9_init ∈ lw_tbl := in1 (List.mem_of_getElem? (i := 120) (by decide +kernel))
theorem kX9_3 : Cond.methodLink RX9 3 Lib.objectInit ∈ lw_tbl := in1 (List.mem_of_getElem? (i := 123) (by decide +kernel))
theorem lfX9_9 : Cond.fieldLink RX9 9 (TX9 0).1 (TX9 0).2.1 (TX9 0).2.2.1 ∈ lw_tbl := in1 (List.mem_of_getElem? (i := 124) (by decide +kernel))
theorem fX9_9 : FOK RX9 9 9 0 := ⟨RX9, TX9, 5, rfl, by decide, lfX9_9, wX9⟩
theorem qX9_9 : PFOK RX9 9 9 0 (.object "LiveryYard$Tape") := ⟨RX9, TX9, 5, tyX9, rfl, by decide, lfX9_9, wX9, tyX9_ok, nmX9, rfl, rfl, by decide +kernel⟩
theorem lfX9_25 : Cond.fieldLink RX9 25 (TX9 1).1 (TX9 1).2.1 (TX9 1).2.2.1 ∈ lw_tbl := in1 (List.mem_of_getElem? (i := 125) (by decide +kernel))
theorem fX9_25 : FOK RX9 25 9 1 := ⟨RX9, TX9, 5, rfl, by decide, lfX9_25, wX9⟩
theorem pX9_25 : POK RX9 25 9 1 .int := ⟨RX9, TX9, 5, tyX9, rfl, by decide, lfX9_25, wX9, tyX9_ok, nmX9, rfl, by decide +kernel⟩
theorem lfX9_15 : Cond.fieldLink RX9 15 (TX9 2).1 (TX9 2).2.1 (TX9 2).2.2.1 ∈ lw_tbl := in1 (List.mem_of_getElem? (i := 126) (by decide +kernel))
theorem fX9_15 : FOK RX9 15 9 2 := ⟨RX9, TX9, 5, rfl, by decide, lfX9_15, wX9⟩
theorem pX9_15 : POK RX9 15 9 2 .int := ⟨RX9, TX9, 5, tyX9, rfl, by decide, lfX9_15, wX9, tyX9_ok, nmX9, rfl, by decide +kernel⟩
theorem lfX9_19 : Cond.fieldLink RX9 19 (TX9 3).1 (TX9 3).2.1 (TX9 3).2.2.1 ∈ lw_tbl := in1 (List.mem_of_getElem? (i := 127) (by decide +kernel))
theorem fX9_19 : FOK RX9 19 9 3 := ⟨RX9, TX9, 5, rfl, by decide, lfX9_19, wX9⟩
theorem pX9_19 : POK RX9 19 9 3 .int := ⟨RX9, TX9, 5, tyX9, rfl, by decide, lfX9_19, wX9, tyX9_ok, nmX9, rfl, by decide +kernel⟩
theorem lfX9_22 : Cond.fieldLink RX9 22 (TX9 4).1 (TX9 4).2.1 (TX9 4).2.2.1 ∈ lw_tbl := in1 (List.mem_of_getElem? (i := 128) (by decide +kernel))
theorem fX9_22 : FOK RX9 22 9 4 := ⟨RX9, TX9, 5, rfl, by decide, lfX9_22, wX9⟩
theorem pX9_22 : POK RX9 22 9 4 .int := ⟨RX9, TX9, 5, tyX9, rfl, by decide, lfX9_22, wX9, tyX9_ok, nmX9, rfl, by decide +kernel⟩
theorem kX11_47 : Cond.methodLink RX11 47 yX5_init ∈ lw_tbl := in1 (List.mem_of_getElem? (i := 140) (by decide +kernel))
theorem kX5_3 : Cond.methodLink RX5 3 Lib.objectInit ∈ lw_tbl := in1 (List.mem_of_getElem? (i := 143) (by decide +kernel))
theorem lfX5_9 : Cond.fieldLink RX5 9 (TX5 0).1 (TX5 0).2.1 (TX5 0).2.2.1 ∈ lw_tbl := in1 (List.mem_of_getElem? (i := 144) (by decide +kernel))
theorem fX5_9 : FOK RX5 9 5 0 := ⟨RX5, TX5, 6, rfl, by decide, lfX5_9, wX5⟩
theorem qX5_9 : PFOK RX5 9 5 0 (.object "LiveryYard$Tokens") := ⟨RX5, TX5, 6, tyX5, rfl, by decide, lfX5_9, wX5, tyX5_ok, nmX5, rfl, rfl, by decide +kernel⟩
theorem lfX5_15 : Cond.fieldLink RX5 15 (TX5 1).1 (TX5 1).2.1 (TX5 1).2.2.1 ∈ lw_tbl := in1 (List.mem_of_getElem? (i := 145) (by decide +kernel))
theorem fX5_15 : FOK RX5 15 5 1 := ⟨RX5, TX5, 6, rfl, by decide, lfX5_15, wX5⟩
theorem qX5_15 : PFOK RX5 15 5 1 (.object "LiveryYard$Rules") := ⟨RX5, TX5, 6, tyX5, rfl, by decide, lfX5_15, wX5, tyX5_ok, nmX5, rfl, rfl, by decide +kernel⟩
theorem lfX5_26 : Cond.fieldLink RX5 26 (TX5 2).1 (TX5 2).2.1 (TX5 2).2.2.1 ∈ lw_tbl := in1 (List.mem_of_getElem? (i := 146) (by decide +kernel))
theorem fX5_26 : FOK RX5 26 5 2 := ⟨RX5, TX5, 6, rfl, by decide, lfX5_26, wX5⟩
theorem pX5_26 : POK RX5 26 5 2 .int := ⟨RX5, TX5, 6, tyX5, rfl, by decide, lfX5_26, wX5, tyX5_ok, nmX5, rfl, by decide +kernel⟩
theorem lfX5_47 : Cond.fieldLink RX5 47 (TX5 3).1 (TX5 3).2.1 (TX5 3).2.2.1 ∈ lw_tbl := in1 (List.mem_of_getElem? (i := 147) (by decide +kernel))
theorem fX5_47 : FOK RX5 47 5 3 := ⟨RX5, TX5, 6, rfl, by decide, lfX5_47, wX5⟩
theorem pX5_47 : POK RX5 47 5 3 .boolean := ⟨RX5, TX5, 6, tyX5, rfl, by decide, lfX5_47, wX5, tyX5_ok, nmX5, rfl, by decide +kernel⟩
theorem lfX5_23 : Cond.fieldLink RX5 23 (TX5 4).1 (TX5 4).2.1 (TX5 4).2.2.1 ∈ lw_tbl := in1 (List.mem_of_getElem? (i := 148) (by decide +kernel))
theorem fX5_23 : FOK RX5 23 5 4 := ⟨RX5, TX5, 6, rfl, by decide, lfX5_23, wX5⟩
theorem pX5_23 : POK RX5 23 5 4 .int := ⟨RX5, TX5, 6, tyX5, rfl, by decide, lfX5_23, wX5, tyX5_ok, nmX5, rfl, by decide +kernel⟩
theorem lfX5_19 : Cond.fieldLink RX5 19 (TX5 5).1 (TX5 5).2.1 (TX5 5).2.2.1 ∈ lw_tbl := in1 (List.mem_of_getElem? (i := 149) (by decide +kernel))
theorem fX5_19 : FOK RX5 19 5 5 := ⟨RX5, TX5, 6, rfl, by decide, lfX5_19, wX5⟩
theorem pX5_19 : POK RX5 19 5 5 .int := ⟨RX5, TX5, 6, tyX5, rfl, by decide, lfX5_19, wX5, tyX5_ok, nmX5, rfl, by decide +kernel⟩
theorem lX11_54 : Cond.classLink RX11 54 RX2 ∈ lw_tbl := in1 (List.mem_of_getElem? (i := 163) (by decide +kernel))
theorem nX11_54 : NOK RX11 54 2 4 [.null, .null, .null, .null] := ⟨RX2, TX2, tyX2, rfl, lX11_54, in1 (List.mem_of_getElem? (i := 164) (by decide +kernel)), in1 (List.mem_of_getElem? (i := 8) (by decide +kernel)), wX2, tyX2_ok, by decide +kernel, fun _ => rfl⟩
theorem kX11_56 : Cond.methodLink RX11 56 yX2_init ∈ lw_tbl := in1 (List.mem_of_getElem? (i := 165) (by decide +kernel))
theorem kX2_3 : Cond.methodLink RX2 3 Lib.objectInit ∈ lw_tbl := in1 (List.mem_of_getElem? (i := 168) (by decide +kernel))
theorem lfX2_15 : Cond.fieldLink RX2 15 (TX2 0).1 (TX2 0).2.1 (TX2 0).2.2.1 ∈ lw_tbl := in1 (List.mem_of_getElem? (i := 169) (by decide +kernel))
theorem fX2_15 : FOK RX2 15 2 0 := ⟨RX2, TX2, 4, rfl, by decide, lfX2_15, wX2⟩
theorem qX2_15 : PFOK RX2 15 2 0 (.object "LiveryYard$Herd") := ⟨RX2, TX2, 4, tyX2, rfl, by decide, lfX2_15, wX2, tyX2_ok, nmX2, rfl, rfl, by decide +kernel⟩
theorem lfX2_19 : Cond.fieldLink RX2 19 (TX2 1).1 (TX2 1).2.1 (TX2 1).2.2.1 ∈ lw_tbl := in1 (List.mem_of_getElem? (i := 170) (by decide +kernel))
theorem fX2_19 : FOK RX2 19 2 1 := ⟨RX2, TX2, 4, rfl, by decide, lfX2_19, wX2⟩
theorem qX2_19 : PFOK RX2 19 2 1 (.object "LiveryYard$Land") := ⟨RX2, TX2, 4, tyX2, rfl, by decide, lfX2_19, wX2, tyX2_ok, nmX2, rfl, rfl, by decide +kernel⟩
theorem lfX2_23 : Cond.fieldLink RX2 23 (TX2 2).1 (TX2 2).2.1 (TX2 2).2.2.1 ∈ lw_tbl := in1 (List.mem_of_getElem? (i := 171) (by decide +kernel))
theorem fX2_23 : FOK RX2 23 2 2 := ⟨RX2, TX2, 4, rfl, by decide, lfX2_23, wX2⟩
theorem qX2_23 : PFOK RX2 23 2 2 (.object "LiveryYard$Rules") := ⟨RX2, TX2, 4, tyX2, rfl, by decide, lfX2_23, wX2, tyX2_ok, nmX2, rfl, rfl, by decide +kernel⟩
theorem lfX2_9 : Cond.fieldLink RX2 9 (TX2 3).1 (TX2 3).2.1 (TX2 3).2.2.1 ∈ lw_tbl := in1 (List.mem_of_getElem? (i := 172) (by decide +kernel))
theorem fX2_9 : FOK RX2 9 2 3 := ⟨RX2, TX2, 4, rfl, by decide, lfX2_9, wX2⟩
theorem qX2_9 : PFOK RX2 9 2 3 (.array .int) := ⟨RX2, TX2, 4, tyX2, rfl, by decide, lfX2_9, wX2, tyX2_ok, nmX2, rfl, rfl, by decide +kernel⟩
theorem lX11_63 : Cond.classLink RX11 63 RX6 ∈ lw_tbl := in1 (List.mem_of_getElem? (i := 182) (by decide +kernel))
theorem nX11_63 : NOK RX11 63 6 9 [.null, .null, .null, .null, .null, .null, .int 0, .int 0, .int 0] := ⟨RX6, TX6, tyX6, rfl, lX11_63, in1 (List.mem_of_getElem? (i := 183) (by decide +kernel)), in1 (List.mem_of_getElem? (i := 9) (by decide +kernel)), wX6, tyX6_ok, by decide +kernel, fun _ => rfl⟩
theorem kX11_65 : Cond.methodLink RX11 65 yX6_init ∈ lw_tbl := in1 (List.mem_of_getElem? (i := 184) (by decide +kernel))
theorem kX6_3 : Cond.methodLink RX6 3 Lib.objectInit ∈ lw_tbl := in1 (List.mem_of_getElem? (i := 187) (by decide +kernel))
theorem lfX6_21 : Cond.fieldLink RX6 21 (TX6 0).1 (TX6 0).2.1 (TX6 0).2.2.1 ∈ lw_tbl := in1 (List.mem_of_getElem? (i := 188) (by decide +kernel))
theorem fX6_21 : FOK RX6 21 6 0 := ⟨RX6, TX6, 9, rfl, by decide, lfX6_21, wX6⟩
theorem qX6_21 : PFOK RX6 21 6 0 (.object "LiveryYard$Herd") := ⟨RX6, TX6, 9, tyX6, rfl, by decide, lfX6_21, wX6, tyX6_ok, nmX6, rfl, rfl, by decide +kernel⟩
theorem lfX6_25 : Cond.fieldLink RX6 25 (TX6 1).1 (TX6 1).2.1 (TX6 1).2.2.1 ∈ lw_tbl := in1 (List.mem_of_getElem? (i := 189) (by decide +kernel))
theorem fX6_25 : FOK RX6 25 6 1 := ⟨RX6, TX6, 9, rfl, by decide, lfX6_25, wX6⟩
theorem qX6_25 : PFOK RX6 25 6 1 (.object "LiveryYard$Land") := ⟨RX6, TX6, 9, tyX6, rfl, by decide, lfX6_25, wX6, tyX6_ok, nmX6, rfl, rfl, by decide +kernel⟩
theorem lfX6_29 : Cond.fieldLink RX6 29 (TX6 2).1 (TX6 2).2.1 (TX6 2).2.2.1 ∈ lw_tbl := in1 (List.mem_of_getElem? (i := 190) (by decide +kernel))
theorem fX6_29 : FOK RX6 29 6 2 := ⟨RX6, TX6, 9, rfl, by decide, lfX6_29, wX6⟩
theorem qX6_29 : PFOK RX6 29 6 2 (.object "LiveryYard$Judge") := ⟨RX6, TX6, 9, tyX6, rfl, by decide, lfX6_29, wX6, tyX6_ok, nmX6, rfl, rfl, by decide +kernel⟩
theorem lfX6_9 : Cond.fieldLink RX6 9 (TX6 3).1 (TX6 3).2.1 (TX6 3).2.2.1 ∈ lw_tbl := in1 (List.mem_of_getElem? (i := 191) (by decide +kernel))
theorem fX6_9 : FOK RX6 9 6 3 := ⟨RX6, TX6, 9, rfl, by decide, lfX6_9, wX6⟩
theorem qX6_9 : PFOK RX6 9 6 3 (.array .int) := ⟨RX6, TX6, 9, tyX6, rfl, by decide, lfX6_9, wX6, tyX6_ok, nmX6, rfl, rfl, by decide +kernel⟩
theorem lfX6_15 : Cond.fieldLink RX6 15 (TX6 4).1 (TX6 4).2.1 (TX6 4).2.2.1 ∈ lw_tbl := in1 (List.mem_of_getElem? (i := 192) (by decide +kernel))
theorem fX6_15 : FOK RX6 15 6 4 := ⟨RX6, TX6, 9, rfl, by decide, lfX6_15, wX6⟩
theorem qX6_15 : PFOK RX6 15 6 4 (.array .int) := ⟨RX6, TX6, 9, tyX6, rfl, by decide, lfX6_15, wX6, tyX6_ok, nmX6, rfl, rfl, by decide +kernel⟩
theorem lfX6_18 : Cond.fieldLink RX6 18 (TX6 5).1 (TX6 5).2.1 (TX6 5).2.2.1 ∈ lw_tbl := in1 (List.mem_of_getElem? (i := 193) (by decide +kernel))
theorem fX6_18 : FOK RX6 18 6 5 := ⟨RX6, TX6, 9, rfl, by decide, lfX6_18, wX6⟩
theorem qX6_18 : PFOK RX6 18 6 5 (.array .int) := ⟨RX6, TX6, 9, tyX6, rfl, by decide, lfX6_18, wX6, tyX6_ok, nmX6, rfl, rfl, by decide +kernel⟩
theorem lfX6_41 : Cond.fieldLink RX6 41 (TX6 6).1 (TX6 6).2.1 (TX6 6).2.2.1 ∈ lw_tbl := in1 (List.mem_of_getElem? (i := 194) (by decide +kernel))
theorem fX6_41 : FOK RX6 41 6 6 := ⟨RX6, TX6, 9, rfl, by decide, lfX6_41, wX6⟩
theorem pX6_41 : POK RX6 41 6 6 .int := ⟨RX6, TX6, 9, tyX6, rfl, by decide, lfX6_41, wX6, tyX6_ok, nmX6, rfl, by decide +kernel⟩
theorem lfX6_33 : Cond.fieldLink RX6 33 (TX6 7).1 (TX6 7).2.1 (TX6 7).2.2.1 ∈ lw_tbl := in1 (List.mem_of_getElem? (i := 195) (by decide +kernel))
theorem fX6_33 : FOK RX6 33 6 7 := ⟨RX6, TX6, 9, rfl, by decide, lfX6_33, wX6⟩
theorem pX6_33 : POK RX6 33 6 7 .int := ⟨RX6, TX6, 9, tyX6, rfl, by decide, lfX6_33, wX6, tyX6_ok, nmX6, rfl, by decide +kernel⟩
theorem lfX6_37 : Cond.fieldLink RX6 37 (TX6 8).1 (TX6 8).2.1 (TX6 8).2.2.1 ∈ lw_tbl := in1 (List.mem_of_getElem? (i := 196) (by decide +kernel))
theorem fX6_37 : FOK RX6 37 6 8 := ⟨RX6, TX6, 9, rfl, by decide, lfX6_37, wX6⟩
theorem pX6_37 : POK RX6 37 6 8 .boolean := ⟨RX6, TX6, 9, tyX6, rfl, by decide, lfX6_37, wX6, tyX6_ok, nmX6, rfl, by decide +kernel⟩
theorem lX11_72 : Cond.classLink RX11 72 RX0 ∈ lw_tbl := in1 (List.mem_of_getElem? (i := 216) (by decide +kernel))
theorem nX11_72 : NOK RX11 72 0 5 [.null, .null, .null, .int 0, .int 0] := ⟨RX0, TX0, tyX0, rfl, lX11_72, in1 (List.mem_of_getElem? (i := 218) (by decide +kernel)), in1 (List.mem_of_getElem? (i := 10) (by decide +kernel)), wX0, tyX0_ok, by decide +kernel, fun _ => rfl⟩
theorem kX11_78 : Cond.methodLinkNest RX11 78 yX0_init "LiveryYard" ∈ lw_tbl := in1 (List.mem_of_getElem? (i := 219) (by decide +kernel))
theorem kX0_3 : Cond.methodLink RX0 3 Lib.objectInit ∈ lw_tbl := in1 (List.mem_of_getElem? (i := 222) (by decide +kernel))
theorem lfX0_9 : Cond.fieldLink RX0 9 (TX0 0).1 (TX0 0).2.1 (TX0 0).2.2.1 ∈ lw_tbl := in1 (List.mem_of_getElem? (i := 223) (by decide +kernel))
theorem fX0_9 : FOK RX0 9 0 0 := ⟨RX0, TX0, 5, rfl, by decide, lfX0_9, wX0⟩
theorem qX0_9 : PFOK RX0 9 0 0 (.array .int) := ⟨RX0, TX0, 5, tyX0, rfl, by decide, lfX0_9, wX0, tyX0_ok, nmX0, rfl, rfl, by decide +kernel⟩
theorem lfX0_15 : Cond.fieldLink RX0 15 (TX0 1).1 (TX0 1).2.1 (TX0 1).2.2.1 ∈ lw_tbl := in1 (List.mem_of_getElem? (i := 224) (by decide +kernel))
theorem fX0_15 : FOK RX0 15 0 1 := ⟨RX0, TX0, 5, rfl, by decide, lfX0_15, wX0⟩
theorem qX0_15 : PFOK RX0 15 0 1 (.array .int) := ⟨RX0, TX0, 5, tyX0, rfl, by decide, lfX0_15, wX0, tyX0_ok, nmX0, rfl, rfl, by decide +kernel⟩
theorem lfX0_18 : Cond.fieldLink RX0 18 (TX0 2).1 (TX0 2).2.1 (TX0 2).2.2.1 ∈ lw_tbl := in1 (List.mem_of_getElem? (i := 225) (by decide +kernel))
theorem fX0_18 : FOK RX0 18 0 2 := ⟨RX0, TX0, 5, rfl, by decide, lfX0_18, wX0⟩
theorem qX0_18 : PFOK RX0 18 0 2 (.array .int) := ⟨RX0, TX0, 5, tyX0, rfl, by decide, lfX0_18, wX0, tyX0_ok, nmX0, rfl, rfl, by decide +kernel⟩
theorem lfX0_21 : Cond.fieldLink RX0 21 (TX0 3).1 (TX0 3).2.1 (TX0 3).2.2.1 ∈ lw_tbl := in1 (List.mem_of_getElem? (i := 226) (by decide +kernel))
theorem fX0_21 : FOK RX0 21 0 3 := ⟨RX0, TX0, 5, rfl, by decide, lfX0_21, wX0⟩
theorem pX0_21 : POK RX0 21 0 3 .int := ⟨RX0, TX0, 5, tyX0, rfl, by decide, lfX0_21, wX0, tyX0_ok, nmX0, rfl, by decide +kernel⟩
theorem lfX0_25 : Cond.fieldLink RX0 25 (TX0 4).1 (TX0 4).2.1 (TX0 4).2.2.1 ∈ lw_tbl := in1 (List.mem_of_getElem? (i := 227) (by decide +kernel))
theorem fX0_25 : FOK RX0 25 0 4 := ⟨RX0, TX0, 5, rfl, by decide, lfX0_25, wX0⟩
theorem pX0_25 : POK RX0 25 0 4 .int := ⟨RX0, TX0, 5, tyX0, rfl, by decide, lfX0_25, wX0, tyX0_ok, nmX0, rfl, by decide +kernel⟩
theorem lX11_83 : Cond.classLink RX11 83 RX4 ∈ lw_tbl := in1 (List.mem_of_getElem? (i := 239) (by decide +kernel))
theorem nX11_83 : NOK RX11 83 4 4 [.null, .null, .null, .int 0] := ⟨RX4, TX4, tyX4, rfl, lX11_83, in2 (List.mem_of_getElem? (i := 0) (by decide +kernel)), in1 (List.mem_of_getElem? (i := 11) (by decide +kernel)), wX4, tyX4_ok, by decide +kernel, fun _ => rfl⟩
theorem kX11_85 : Cond.methodLinkNest RX11 85 yX4_init "LiveryYard" ∈ lw_tbl := in2 (List.mem_of_getElem? (i := 1) (by decide +kernel))
theorem kX4_3 : Cond.methodLink RX4 3 Lib.objectInit ∈ lw_tbl := in2 (List.mem_of_getElem? (i := 4) (by decide +kernel))
theorem lfX4_9 : Cond.fieldLink RX4 9 (TX4 0).1 (TX4 0).2.1 (TX4 0).2.2.1 ∈ lw_tbl := in2 (List.mem_of_getElem? (i := 5) (by decide +kernel))
theorem fX4_9 : FOK RX4 9 4 0 := ⟨RX4, TX4, 4, rfl, by decide, lfX4_9, wX4⟩
theorem qX4_9 : PFOK RX4 9 4 0 (.array .int) := ⟨RX4, TX4, 4, tyX4, rfl, by decide, lfX4_9, wX4, tyX4_ok, nmX4, rfl, rfl, by decide +kernel⟩
theorem lfX4_15 : Cond.fieldLink RX4 15 (TX4 1).1 (TX4 1).2.1 (TX4 1).2.2.1 ∈ lw_tbl := in2 (List.mem_of_getElem? (i := 6) (by decide +kernel))
theorem fX4_15 : FOK RX4 15 4 1 := ⟨RX4, TX4, 4, rfl, by decide, lfX4_15, wX4⟩
theorem qX4_15 : PFOK RX4 15 4 1 (.array .int) := ⟨RX4, TX4, 4, tyX4, rfl, by decide, lfX4_15, wX4, tyX4_ok, nmX4, rfl, rfl, by decide +kernel⟩
theorem lfX4_18 : Cond.fieldLink RX4 18 (TX4 2).1 (TX4 2).2.1 (TX4 2).2.2.1 ∈ lw_tbl := in2 (List.mem_of_getElem? (i := 7) (by decide +kernel))
theorem fX4_18 : FOK RX4 18 4 2 := ⟨RX4, TX4, 4, rfl, by decide, lfX4_18, wX4⟩
theorem qX4_18 : PFOK RX4 18 4 2 (.array .int) := ⟨RX4, TX4, 4, tyX4, rfl, by decide, lfX4_18, wX4, tyX4_ok, nmX4, rfl, rfl, by decide +kernel⟩
theorem lfX4_21 : Cond.fieldLink RX4 21 (TX4 3).1 (TX4 3).2.1 (TX4 3).2.2.1 ∈ lw_tbl := in2 (List.mem_of_getElem? (i := 8) (by decide +kernel))
theorem fX4_21 : FOK RX4 21 4 3 := ⟨RX4, TX4, 4, rfl, by decide, lfX4_21, wX4⟩
theorem pX4_21 : POK RX4 21 4 3 .int := ⟨RX4, TX4, 4, tyX4, rfl, by decide, lfX4_21, wX4, tyX4_ok, nmX4, rfl, by decide +kernel⟩
theorem lX11_90 : Cond.classLink RX11 90 RX10 ∈ lw_tbl := in2 (List.mem_of_getElem? (i := 18) (by decide +kernel))
theorem nX11_90 : NOK RX11 90 10 7 [.null, .null, .null, .null, .null, .null, .int 0] := ⟨RX10, TX10, tyX10, rfl, lX11_90, in2 (List.mem_of_getElem? (i := 19) (by decide +kernel)), in1 (List.mem_of_getElem? (i := 12) (by decide +kernel)), wX10, tyX10_ok, by decide +kernel, fun _ => rfl⟩
theorem kX11_92 : Cond.methodLinkNest RX11 92 yX10_init "LiveryYard" ∈ lw_tbl := in2 (List.mem_of_getElem? (i := 20) (by decide +kernel))
theorem kX10_3 : Cond.methodLink RX10 3 Lib.objectInit ∈ lw_tbl := in2 (List.mem_of_getElem? (i := 23) (by decide +kernel))
theorem lfX10_9 : Cond.fieldLink RX10 9 (TX10 0).1 (TX10 0).2.1 (TX10 0).2.2.1 ∈ lw_tbl := in2 (List.mem_of_getElem? (i := 24) (by decide +kernel))
theorem fX10_9 : FOK RX10 9 10 0 := ⟨RX10, TX10, 7, rfl, by decide, lfX10_9, wX10⟩
theorem qX10_9 : PFOK RX10 9 10 0 (.array .int) := ⟨RX10, TX10, 7, tyX10, rfl, by decide, lfX10_9, wX10, tyX10_ok, nmX10, rfl, rfl, by decide +kernel⟩
theorem lfX10_15 : Cond.fieldLink RX10 15 (TX10 1).1 (TX10 1).2.1 (TX10 1).2.2.1 ∈ lw_tbl := in2 (List.mem_of_getElem? (i := 25) (by decide +kernel))
theorem fX10_15 : FOK RX10 15 10 1 := ⟨RX10, TX10, 7, rfl, by decide, lfX10_15, wX10⟩
theorem qX10_15 : PFOK RX10 15 10 1 (.array .int) := ⟨RX10, TX10, 7, tyX10, rfl, by decide, lfX10_15, wX10, tyX10_ok, nmX10, rfl, rfl, by decide +kernel⟩
theorem lfX10_18 : Cond.fieldLink RX10 18 (TX10 2).1 (TX10 2).2.1 (TX10 2).2.2.1 ∈ lw_tbl := in2 (List.mem_of_getElem? (i := 26) (by decide +kernel))
theorem fX10_18 : FOK RX10 18 10 2 := ⟨RX10, TX10, 7, rfl, by decide, lfX10_18, wX10⟩
theorem qX10_18 : PFOK RX10 18 10 2 (.array .int) := ⟨RX10, TX10, 7, tyX10, rfl, by decide, lfX10_18, wX10, tyX10_ok, nmX10, rfl, rfl, by decide +kernel⟩
theorem lfX10_21 : Cond.fieldLink RX10 21 (TX10 3).1 (TX10 3).2.1 (TX10 3).2.2.1 ∈ lw_tbl := in2 (List.mem_of_getElem? (i := 27) (by decide +kernel))
theorem fX10_21 : FOK RX10 21 10 3 := ⟨RX10, TX10, 7, rfl, by decide, lfX10_21, wX10⟩
theorem qX10_21 : PFOK RX10 21 10 3 (.array .int) := ⟨RX10, TX10, 7, tyX10, rfl, by decide, lfX10_21, wX10, tyX10_ok, nmX10, rfl, rfl, by decide +kernel⟩
theorem lfX10_24 : Cond.fieldLink RX10 24 (TX10 4).1 (TX10 4).2.1 (TX10 4).2.2.1 ∈ lw_tbl := in2 (List.mem_of_getElem? (i := 28) (by decide +kernel))
theorem fX10_24 : FOK RX10 24 10 4 := ⟨RX10, TX10, 7, rfl, by decide, lfX10_24, wX10⟩
theorem qX10_24 : PFOK RX10 24 10 4 (.array .int) := ⟨RX10, TX10, 7, tyX10, rfl, by decide, lfX10_24, wX10, tyX10_ok, nmX10, rfl, rfl, by decide +kernel⟩
theorem lfX10_27 : Cond.fieldLink RX10 27 (TX10 5).1 (TX10 5).2.1 (TX10 5).2.2.1 ∈ lw_tbl := in2 (List.mem_of_getElem? (i := 29) (by decide +kernel))
theorem fX10_27 : FOK RX10 27 10 5 := ⟨RX10, TX10, 7, rfl, by decide, lfX10_27, wX10⟩
theorem qX10_27 : PFOK RX10 27 10 5 (.array .int) := ⟨RX10, TX10, 7, tyX10, rfl, by decide, lfX10_27, wX10, tyX10_ok, nmX10, rfl, rfl, by decide +kernel⟩
theorem lfX10_30 : Cond.fieldLink RX10 30 (TX10 6).1 (TX10 6).2.1 (TX10 6).2.2.1 ∈ lw_tbl := in2 (List.mem_of_getElem? (i := 30) (by decide +kernel))
theorem fX10_30 : FOK RX10 30 10 6 := ⟨RX10, TX10, 7, rfl, by decide, lfX10_30, wX10⟩
theorem pX10_30 : POK RX10 30 10 6 .int := ⟨RX10, TX10, 7, tyX10, rfl, by decide, lfX10_30, wX10, tyX10_ok, nmX10, rfl, by decide +kernel⟩
theorem lfX11_12 : Cond.fieldLink RX11 12 (TX11 0).1 (TX11 0).2.1 (TX11 0).2.2.1 ∈ lw_tbl := in2 (List.mem_of_getElem? (i := 46) (by decide +kernel))
theorem fX11_12 : FOK RX11 12 11 0 := ⟨RX11, TX11, 13, rfl, by decide, lfX11_12, wX11⟩
theorem qX11_12 : PFOK RX11 12 11 0 (.object "LiveryYard$Herd") := ⟨RX11, TX11, 13, tyX11, rfl, by decide, lfX11_12, wX11, tyX11_ok, nmX11, rfl, rfl, by decide +kernel⟩
theorem lfX11_19 : Cond.fieldLink RX11 19 (TX11 1).1 (TX11 1).2.1 (TX11 1).2.2.1 ∈ lw_tbl := in2 (List.mem_of_getElem? (i := 47) (by decide +kernel))
theorem fX11_19 : FOK RX11 19 11 1 := ⟨RX11, TX11, 13, rfl, by decide, lfX11_19, wX11⟩
theorem qX11_19 : PFOK RX11 19 11 1 (.object "LiveryYard$Land") := ⟨RX11, TX11, 13, tyX11, rfl, by decide, lfX11_19, wX11, tyX11_ok, nmX11, rfl, rfl, by decide +kernel⟩
theorem lfX11_26 : Cond.fieldLink RX11 26 (TX11 2).1 (TX11 2).2.1 (TX11 2).2.2.1 ∈ lw_tbl := in2 (List.mem_of_getElem? (i := 48) (by decide +kernel))
theorem fX11_26 : FOK RX11 26 11 2 := ⟨RX11, TX11, 13, rfl, by decide, lfX11_26, wX11⟩
theorem qX11_26 : PFOK RX11 26 11 2 (.object "LiveryYard$Tape") := ⟨RX11, TX11, 13, tyX11, rfl, by decide, lfX11_26, wX11, tyX11_ok, nmX11, rfl, rfl, by decide +kernel⟩
theorem lfX11_33 : Cond.fieldLink RX11 33 (TX11 3).1 (TX11 3).2.1 (TX11 3).2.2.1 ∈ lw_tbl := in2 (List.mem_of_getElem? (i := 49) (by decide +kernel))
theorem fX11_33 : FOK RX11 33 11 3 := ⟨RX11, TX11, 13, rfl, by decide, lfX11_33, wX11⟩
theorem qX11_33 : PFOK RX11 33 11 3 (.object "LiveryYard$Rules") := ⟨RX11, TX11, 13, tyX11, rfl, by decide, lfX11_33, wX11, tyX11_ok, nmX11, rfl, rfl, by decide +kernel⟩
theorem lfX11_37 : Cond.fieldLink RX11 37 (TX11 4).1 (TX11 4).2.1 (TX11 4).2.2.1 ∈ lw_tbl := in2 (List.mem_of_getElem? (i := 50) (by decide +kernel))
theorem fX11_37 : FOK RX11 37 11 4 := ⟨RX11, TX11, 13, rfl, by decide, lfX11_37, wX11⟩
theorem qX11_37 : PFOK RX11 37 11 4 (.object "LiveryYard$Rules") := ⟨RX11, TX11, 13, tyX11, rfl, by decide, lfX11_37, wX11, tyX11_ok, nmX11, rfl, rfl, by decide +kernel⟩
theorem lfX11_50 : Cond.fieldLink RX11 50 (TX11 5).1 (TX11 5).2.1 (TX11 5).2.2.1 ∈ lw_tbl := in2 (List.mem_of_getElem? (i := 51) (by decide +kernel))
theorem fX11_50 : FOK RX11 50 11 5 := ⟨RX11, TX11, 13, rfl, by decide, lfX11_50, wX11⟩
theorem qX11_50 : PFOK RX11 50 11 5 (.object "LiveryYard$Parser") := ⟨RX11, TX11, 13, tyX11, rfl, by decide, lfX11_50, wX11, tyX11_ok, nmX11, rfl, rfl, by decide +kernel⟩
theorem lfX11_59 : Cond.fieldLink RX11 59 (TX11 6).1 (TX11 6).2.1 (TX11 6).2.2.1 ∈ lw_tbl := in2 (List.mem_of_getElem? (i := 52) (by decide +kernel))
theorem fX11_59 : FOK RX11 59 11 6 := ⟨RX11, TX11, 13, rfl, by decide, lfX11_59, wX11⟩
theorem qX11_59 : PFOK RX11 59 11 6 (.object "LiveryYard$Judge") := ⟨RX11, TX11, 13, tyX11, rfl, by decide, lfX11_59, wX11, tyX11_ok, nmX11, rfl, rfl, by decide +kernel⟩
theorem lfX11_68 : Cond.fieldLink RX11 68 (TX11 7).1 (TX11 7).2.1 (TX11 7).2.2.1 ∈ lw_tbl := in2 (List.mem_of_getElem? (i := 53) (by decide +kernel))
theorem fX11_68 : FOK RX11 68 11 7 := ⟨RX11, TX11, 13, rfl, by decide, lfX11_68, wX11⟩
theorem qX11_68 : PFOK RX11 68 11 7 (.object "LiveryYard$Planner") := ⟨RX11, TX11, 13, tyX11, rfl, by decide, lfX11_68, wX11, tyX11_ok, nmX11, rfl, rfl, by decide +kernel⟩
theorem lfX11_74 : Cond.fieldLink RX11 74 (TX11 8).1 (TX11 8).2.1 (TX11 8).2.2.1 ∈ lw_tbl := in2 (List.mem_of_getElem? (i := 54) (by decide +kernel))
theorem fX11_74 : FOK RX11 74 11 8 := ⟨RX11, TX11, 13, rfl, by decide, lfX11_74, wX11⟩
theorem qX11_74 : PFOK RX11 74 11 8 (.array (.object "LiveryYard$Bin")) := ⟨RX11, TX11, 13, tyX11, rfl, by decide, lfX11_74, wX11, tyX11_ok, nmX11, rfl, rfl, by decide +kernel⟩
theorem lfX11_79 : Cond.fieldLink RX11 79 (TX11 9).1 (TX11 9).2.1 (TX11 9).2.2.1 ∈ lw_tbl := in2 (List.mem_of_getElem? (i := 55) (by decide +kernel))
theorem fX11_79 : FOK RX11 79 11 9 := ⟨RX11, TX11, 13, rfl, by decide, lfX11_79, wX11⟩
theorem qX11_79 : PFOK RX11 79 11 9 (.array .int) := ⟨RX11, TX11, 13, tyX11, rfl, by decide, lfX11_79, wX11, tyX11_ok, nmX11, rfl, rfl, by decide +kernel⟩
theorem lfX11_86 : Cond.fieldLink RX11 86 (TX11 10).1 (TX11 10).2.1 (TX11 10).2.2.1 ∈ lw_tbl := in2 (List.mem_of_getElem? (i := 56) (by decide +kernel))
theorem fX11_86 : FOK RX11 86 11 10 := ⟨RX11, TX11, 13, rfl, by decide, lfX11_86, wX11⟩
theorem qX11_86 : PFOK RX11 86 11 10 (.object "LiveryYard$Nights") := ⟨RX11, TX11, 13, tyX11, rfl, by decide, lfX11_86, wX11, tyX11_ok, nmX11, rfl, rfl, by decide +kernel⟩
theorem lfX11_93 : Cond.fieldLink RX11 93 (TX11 11).1 (TX11 11).2.1 (TX11 11).2.2.1 ∈ lw_tbl := in2 (List.mem_of_getElem? (i := 57) (by decide +kernel))
theorem fX11_93 : FOK RX11 93 11 11 := ⟨RX11, TX11, 13, rfl, by decide, lfX11_93, wX11⟩
theorem qX11_93 : PFOK RX11 93 11 11 (.object "LiveryYard$Works") := ⟨RX11, TX11, 13, tyX11, rfl, by decide, lfX11_93, wX11, tyX11_ok, nmX11, rfl, rfl, by decide +kernel⟩
theorem lfX11_97 : Cond.fieldLink RX11 97 (TX11 12).1 (TX11 12).2.1 (TX11 12).2.2.1 ∈ lw_tbl := in2 (List.mem_of_getElem? (i := 58) (by decide +kernel))
theorem fX11_97 : FOK RX11 97 11 12 := ⟨RX11, TX11, 13, rfl, by decide, lfX11_97, wX11⟩
theorem pX11_97 : POK RX11 97 11 12 .int := ⟨RX11, TX11, 13, tyX11, rfl, by decide, lfX11_97, wX11, tyX11_ok, nmX11, rfl, by decide +kernel⟩
theorem kL_13 : Cond.methodLink RL 13 yX11_horse ∈ lw_tbl := in2 (List.mem_of_getElem? (i := 86) (by decide +kernel))
theorem kX11_101 : Cond.methodLink RX11 101 yX11_isUpTo ∈ lw_tbl := in2 (List.mem_of_getElem? (i := 90) (by decide +kernel))
theorem kX11_105 : Cond.methodLink RX11 105 yX1_add ∈ lw_tbl := in2 (List.mem_of_getElem? (i := 93) (by decide +kernel))
theorem kX11_109 : Cond.methodLink RX11 109 yX6_forget ∈ lw_tbl := in2 (List.mem_of_getElem? (i := 97) (by decide +kernel))
theorem kX11_112 : Cond.methodLink RX11 112 yX10_begin ∈ lw_tbl := in2 (List.mem_of_getElem? (i := 101) (by decide +kernel))
theorem kL_18 : Cond.methodLink RL 18 yX11_lame ∈ lw_tbl := in2 (List.mem_of_getElem? (i := 105) (by decide +kernel))
theorem kX11_116 : Cond.methodLink RX11 116 yX1_has ∈ lw_tbl := in2 (List.mem_of_getElem? (i := 109) (by decide +kernel))
theorem kX11_120 : Cond.methodLink RX11 120 yX1_setLame ∈ lw_tbl := in2 (List.mem_of_getElem? (i := 113) (by decide +kernel))
theorem kL_23 : Cond.methodLink RL 23 yX11_field ∈ lw_tbl := in2 (List.mem_of_getElem? (i := 117) (by decide +kernel))
theorem kX11_124 : Cond.methodLink RX11 124 yX11_isField ∈ lw_tbl := in2 (List.mem_of_getElem? (i := 121) (by decide +kernel))
theorem kX11_127 : Cond.methodLink RX11 127 yX3_lay ∈ lw_tbl := in2 (List.mem_of_getElem? (i := 124) (by decide +kernel))
theorem kL_28 : Cond.methodLink RL 28 yX11_shut ∈ lw_tbl := in2 (List.mem_of_getElem? (i := 128) (by decide +kernel))
theorem ccX11_131 : Cond.constant RX11 131 (100000) ∈ lw_tbl := in2 (List.mem_of_getElem? (i := 132) (by decide +kernel))
theorem kX11_132 : Cond.methodLink RX11 132 yX3_close ∈ lw_tbl := in2 (List.mem_of_getElem? (i := 133) (by decide +kernel))
theorem kL_33 : Cond.methodLink RL 33 yX11_gate ∈ lw_tbl := in2 (List.mem_of_getElem? (i := 137) (by decide +kernel))
theorem kX11_135 : Cond.methodLink RX11 135 yX3_setGate ∈ lw_tbl := in2 (List.mem_of_getElem? (i := 141) (by decide +kernel))
theorem kL_38 : Cond.methodLink RL 38 yX11_feed ∈ lw_tbl := in2 (List.mem_of_getElem? (i := 145) (by decide +kernel))
theorem kX11_139 : Cond.methodLink RX11 139 yX8_length ∈ lw_tbl := in2 (List.mem_of_getElem? (i := 149) (by decide +kernel))
theorem kX11_143 : Cond.methodLink RX11 143 yX8_append ∈ lw_tbl := in2 (List.mem_of_getElem? (i := 153) (by decide +kernel))
theorem kL_43 : Cond.methodLink RL 43 yX11_end ∈ lw_tbl := in2 (List.mem_of_getElem? (i := 157) (by decide +kernel))
theorem kX11_147 : Cond.methodLink RX11 147 yX8_cut ∈ lw_tbl := in2 (List.mem_of_getElem? (i := 161) (by decide +kernel))
theorem kL_48 : Cond.methodLink RL 48 yX11_rules ∈ lw_tbl := in2 (List.mem_of_getElem? (i := 165) (by decide +kernel))
theorem kX11_150 : Cond.methodLink RX11 150 yX5_readRules ∈ lw_tbl := in2 (List.mem_of_getElem? (i := 169) (by decide +kernel))
theorem kX5_29 : Cond.methodLink RX5 29 yX7_clear ∈ lw_tbl := in2 (List.mem_of_getElem? (i := 173) (by decide +kernel))
theorem kX5_34 : Cond.methodLink RX5 34 yX9_begin ∈ lw_tbl := in2 (List.mem_of_getElem? (i := 177) (by decide +kernel))
theorem kX9_28 : Cond.methodLink RX9 28 yX9_advance ∈ lw_tbl := in2 (List.mem_of_getElem? (i := 181) (by decide +kernel))
theorem kX9_31 : Cond.methodLink RX9 31 yX8_length ∈ lw_tbl := in2 (List.mem_of_getElem? (i := 185) (by decide +kernel))
theorem kX9_37 : Cond.methodLink RX9 37 yX8_at ∈ lw_tbl := in2 (List.mem_of_getElem? (i := 186) (by decide +kernel))
theorem kX9_41 : Cond.methodLink RX9 41 yX9_isBlank ∈ lw_tbl := in2 (List.mem_of_getElem? (i := 190) (by decide +kernel))
theorem kX9_45 : Cond.methodLink RX9 45 yX9_isLetter ∈ lw_tbl := in2 (List.mem_of_getElem? (i := 193) (by decide +kernel))
theorem kX9_48 : Cond.methodLink RX9 48 yX9_readWord ∈ lw_tbl := in2 (List.mem_of_getElem? (i := 196) (by decide +kernel))
theorem kX9_51 : Cond.methodLink RX9 51 yX9_isDigit ∈ lw_tbl := in2 (List.mem_of_getElem? (i := 200) (by decide +kernel))
theorem kX9_60 : Cond.methodLink RX9 60 yX9_wordNumber ∈ lw_tbl := in2 (List.mem_of_getElem? (i := 203) (by decide +kernel))
theorem kX9_63 : Cond.methodLink RX9 63 yX9_letterOf ∈ lw_tbl := in2 (List.mem_of_getElem? (i := 207) (by decide +kernel))
theorem kX9_72 : Cond.methodLink RX9 72 yJ0_length_8abf5 ∈ lw_tbl := in2 (List.mem_of_getElem? (i := 211) (by decide +kernel))
theorem kJ0_335 : Cond.methodLink RJ0 335 yJ0_coder_7d493 ∈ lw_tbl := in2 (List.mem_of_getElem? (i := 215) (by decide +kernel))
theorem kX9_75 : Cond.methodLink RX9 75 yJ0_charAt_5068e ∈ lw_tbl := in2 (List.mem_of_getElem? (i := 221) (by decide +kernel))
theorem kJ0_492 : Cond.methodLink RJ0 492 yJ0_isLatin1_aae02 ∈ lw_tbl := in2 (List.mem_of_getElem? (i := 225) (by decide +kernel))
theorem kJ0_495 : Cond.methodLink RJ0 495 yJ1_charAt_3b067 ∈ lw_tbl := in2 (List.mem_of_getElem? (i := 229) (by decide +kernel))
theorem kJ1_9 : Cond.methodLink RJ1 9 yJ0_checkIndex_df160 ∈ lw_tbl := in2 (List.mem_of_getElem? (i := 232) (by decide +kernel))
theorem kJ0_1059 : Cond.methodLink RJ0 1059 yJ3_checkIndex_8e157 ∈ lw_tbl := in2 (List.mem_of_getElem? (i := 237) (by decide +kernel))
theorem kJ0_498 : Cond.methodLink RJ0 498 yJ2_charAt_3b067 ∈ lw_tbl := in3 (List.mem_of_getElem? (i := 0) (by decide +kernel))
theorem kJ2_67 : Cond.methodLink RJ2 67 yJ2_checkIndex_2214a ∈ lw_tbl := in3 (List.mem_of_getElem? (i := 3) (by decide +kernel))
theorem kJ2_48 : Cond.methodLink RJ2 48 yJ2_length_9d52b ∈ lw_tbl := in3 (List.mem_of_getElem? (i := 6) (by decide +kernel))
theorem kJ2_414 : Cond.methodLink RJ2 414 yJ0_checkIndex_df160 ∈ lw_tbl := in3 (List.mem_of_getElem? (i := 9) (by decide +kernel))
theorem kJ2_71 : Cond.methodLink RJ2 71 yJ2_getChar_3b067 ∈ lw_tbl := in3 (List.mem_of_getElem? (i := 10) (by decide +kernel))
theorem kX9_67 : Cond.methodLink RX9 67 yX9_letterHere ∈ lw_tbl := in3 (List.mem_of_getElem? (i := 19) (by decide +kernel))
theorem kX9_54 : Cond.methodLink RX9 54 yX9_readNumber ∈ lw_tbl := in3 (List.mem_of_getElem? (i := 23) (by decide +kernel))
theorem kX9_57 : Cond.methodLink RX9 57 yX9_isSign ∈ lw_tbl := in3 (List.mem_of_getElem? (i := 27) (by decide +kernel))
theorem kX5_39 : Cond.methodLink RX5 39 yX9_kind ∈ lw_tbl := in3 (List.mem_of_getElem? (i := 30) (by decide +kernel))
theorem kX5_43 : Cond.methodLink RX5 43 yX5_refuse ∈ lw_tbl := in3 (List.mem_of_getElem? (i := 34) (by decide +kernel))
theorem kX5_87 : Cond.methodLink RX5 87 yX9_start ∈ lw_tbl := in3 (List.mem_of_getElem? (i := 38) (by decide +kernel))
theorem kX5_51 : Cond.methodLink RX5 51 yX9_advance ∈ lw_tbl := in3 (List.mem_of_getElem? (i := 42) (by decide +kernel))
theorem kX5_54 : Cond.methodLink RX5 54 yX5_readEither ∈ lw_tbl := in3 (List.mem_of_getElem? (i := 43) (by decide +kernel))
theorem kX5_61 : Cond.methodLink RX5 61 yX5_readBoth ∈ lw_tbl := in3 (List.mem_of_getElem? (i := 47) (by decide +kernel))
theorem kX5_68 : Cond.methodLink RX5 68 yX5_readOne ∈ lw_tbl := in3 (List.mem_of_getElem? (i := 51) (by decide +kernel))
theorem kX5_71 : Cond.methodLink RX5 71 yX5_readComparison ∈ lw_tbl := in3 (List.mem_of_getElem? (i := 55) (by decide +kernel))
theorem kX5_74 : Cond.methodLink RX5 74 yX5_readSum ∈ lw_tbl := in3 (List.mem_of_getElem? (i := 59) (by decide +kernel))
theorem kX5_77 : Cond.methodLink RX5 77 yX5_readTerm ∈ lw_tbl := in3 (List.mem_of_getElem? (i := 63) (by decide +kernel))
theorem kX5_80 : Cond.methodLink RX5 80 yX5_takeOperand ∈ lw_tbl := in3 (List.mem_of_getElem? (i := 67) (by decide +kernel))
theorem kX5_84 : Cond.methodLink RX5 84 yX9_value ∈ lw_tbl := in3 (List.mem_of_getElem? (i := 71) (by decide +kernel))
theorem kX5_64 : Cond.methodLink RX5 64 yX7_emit ∈ lw_tbl := in3 (List.mem_of_getElem? (i := 75) (by decide +kernel))
theorem kX5_57 : Cond.methodLink RX5 57 yX7_endRule ∈ lw_tbl := in3 (List.mem_of_getElem? (i := 79) (by decide +kernel))
theorem kX11_154 : Cond.methodLink RX11 154 yX7_copy ∈ lw_tbl := in3 (List.mem_of_getElem? (i := 83) (by decide +kernel))
theorem kX7_32 : Cond.methodLink RX7 32 arraycopyName ∈ lw_tbl := in3 (List.mem_of_getElem? (i := 87) (by decide +kernel))
theorem kX11_158 : Cond.methodLink RX11 158 yX7_count ∈ lw_tbl := in3 (List.mem_of_getElem? (i := 90) (by decide +kernel))
theorem kL_53 : Cond.methodLink RL 53 yX11_fault ∈ lw_tbl := in3 (List.mem_of_getElem? (i := 95) (by decide +kernel))
theorem kX11_161 : Cond.methodLink RX11 161 yX5_faultFound ∈ lw_tbl := in3 (List.mem_of_getElem? (i := 99) (by decide +kernel))
theorem kX11_164 : Cond.methodLink RX11 164 yX5_faultPlace ∈ lw_tbl := in3 (List.mem_of_getElem? (i := 103) (by decide +kernel))
theorem kL_57 : Cond.methodLink RL 57 yX11_may ∈ lw_tbl := in3 (List.mem_of_getElem? (i := 107) (by decide +kernel))
theorem kX11_167 : Cond.methodLink RX11 167 yX11_isHour ∈ lw_tbl := in3 (List.mem_of_getElem? (i := 111) (by decide +kernel))
theorem kX11_170 : Cond.methodLink RX11 170 yX2_mayBe ∈ lw_tbl := in3 (List.mem_of_getElem? (i := 114) (by decide +kernel))
theorem kX2_27 : Cond.methodLink RX2 27 yX3_isOpen ∈ lw_tbl := in3 (List.mem_of_getElem? (i := 118) (by decide +kernel))
theorem kX2_33 : Cond.methodLink RX2 33 yX2_tellOfOne ∈ lw_tbl := in3 (List.mem_of_getElem? (i := 122) (by decide +kernel))
theorem kX2_50 : Cond.methodLink RX2 50 yX1_kindOf ∈ lw_tbl := in3 (List.mem_of_getElem? (i := 126) (by decide +kernel))
theorem kX2_56 : Cond.methodLink RX2 56 yX1_ageOf ∈ lw_tbl := in3 (List.mem_of_getElem? (i := 130) (by decide +kernel))
theorem kX2_59 : Cond.methodLink RX2 59 yX1_cameOf ∈ lw_tbl := in3 (List.mem_of_getElem? (i := 134) (by decide +kernel))
theorem kX2_62 : Cond.methodLink RX2 62 yX1_isLame ∈ lw_tbl := in3 (List.mem_of_getElem? (i := 138) (by decide +kernel))
theorem kX2_66 : Cond.methodLink RX2 66 yX3_wetOf ∈ lw_tbl := in3 (List.mem_of_getElem? (i := 142) (by decide +kernel))
theorem kX2_37 : Cond.methodLink RX2 37 yX7_allHold ∈ lw_tbl := in3 (List.mem_of_getElem? (i := 146) (by decide +kernel))
theorem kX7_38 : Cond.methodLink RX7 38 yX7_workOut ∈ lw_tbl := in3 (List.mem_of_getElem? (i := 150) (by decide +kernel))
theorem kL_61 : Cond.methodLink RL 61 yX11_meet ∈ lw_tbl := in3 (List.mem_of_getElem? (i := 154) (by decide +kernel))
theorem kX11_174 : Cond.methodLink RX11 174 yX2_mayMeet ∈ lw_tbl := in3 (List.mem_of_getElem? (i := 158) (by decide +kernel))
theorem kX2_43 : Cond.methodLink RX2 43 yX3_touch ∈ lw_tbl := in3 (List.mem_of_getElem? (i := 162) (by decide +kernel))
theorem kX2_46 : Cond.methodLink RX2 46 yX2_tellOfOther ∈ lw_tbl := in3 (List.mem_of_getElem? (i := 166) (by decide +kernel))
theorem kL_66 : Cond.methodLink RL 66 yX11_plan ∈ lw_tbl := in3 (List.mem_of_getElem? (i := 170) (by decide +kernel))
theorem kX11_178 : Cond.methodLink RX11 178 yX6_look ∈ lw_tbl := in3 (List.mem_of_getElem? (i := 174) (by decide +kernel))
theorem kX6_44 : Cond.methodLink RX6 44 yJ7_fill_53178 ∈ lw_tbl := in3 (List.mem_of_getElem? (i := 178) (by decide +kernel))
theorem kX6_50 : Cond.methodLink RX6 50 yX6_place ∈ lw_tbl := in3 (List.mem_of_getElem? (i := 181) (by decide +kernel))
theorem kX6_54 : Cond.methodLink RX6 54 yX1_count ∈ lw_tbl := in3 (List.mem_of_getElem? (i := 185) (by decide +kernel))
theorem kX6_60 : Cond.methodLink RX6 60 yX1_isLame ∈ lw_tbl := in3 (List.mem_of_getElem? (i := 189) (by decide +kernel))
theorem kX6_64 : Cond.methodLink RX6 64 yX6_fits ∈ lw_tbl := in3 (List.mem_of_getElem? (i := 190) (by decide +kernel))
theorem kX6_68 : Cond.methodLink RX6 68 yX6_mayStand ∈ lw_tbl := in3 (List.mem_of_getElem? (i := 194) (by decide +kernel))
theorem kX6_71 : Cond.methodLinkNest RX6 71 yX11_fieldOf "LiveryYard" ∈ lw_tbl := in3 (List.mem_of_getElem? (i := 198) (by decide +kernel))
theorem kX6_79 : Cond.methodLinkNest RX6 79 yX11_hourOf "LiveryYard" ∈ lw_tbl := in3 (List.mem_of_getElem? (i := 201) (by decide +kernel))
theorem kX6_86 : Cond.methodLink RX6 86 yX2_mayBe ∈ lw_tbl := in3 (List.mem_of_getElem? (i := 204) (by decide +kernel))
theorem kX6_74 : Cond.methodLink RX6 74 yX3_roomOf ∈ lw_tbl := in3 (List.mem_of_getElem? (i := 205) (by decide +kernel))
theorem kX6_82 : Cond.methodLink RX6 82 yX6_mayStandBy ∈ lw_tbl := in3 (List.mem_of_getElem? (i := 209) (by decide +kernel))
theorem kX6_91 : Cond.methodLink RX6 91 yX2_mayMeet ∈ lw_tbl := in3 (List.mem_of_getElem? (i := 213) (by decide +kernel))
theorem kL_70 : Cond.methodLink RL 70 yX11_tries ∈ lw_tbl := in3 (List.mem_of_getElem? (i := 214) (by decide +kernel))
theorem kX11_182 : Cond.methodLink RX11 182 yX6_triesMade ∈ lw_tbl := in3 (List.mem_of_getElem? (i := 218) (by decide +kernel))
theorem kL_74 : Cond.methodLink RL 74 yX11_out ∈ lw_tbl := in3 (List.mem_of_getElem? (i := 222) (by decide +kernel))
theorem kX11_185 : Cond.methodLink RX11 185 yX6_spotOf ∈ lw_tbl := in3 (List.mem_of_getElem? (i := 226) (by decide +kernel))
theorem kX11_188 : Cond.methodLink RX11 188 yX11_hourOf ∈ lw_tbl := in3 (List.mem_of_getElem? (i := 230) (by decide +kernel))
theorem kX11_191 : Cond.methodLink RX11 191 yX11_fieldOf ∈ lw_tbl := in3 (List.mem_of_getElem? (i := 231) (by decide +kernel))
theorem kL_78 : Cond.methodLink RL 78 yX11_stuck ∈ lw_tbl := in3 (List.mem_of_getElem? (i := 232) (by decide +kernel))
theorem kX11_194 : Cond.methodLink RX11 194 yX1_count ∈ lw_tbl := in3 (List.mem_of_getElem? (i := 236) (by decide +kernel))
theorem kX11_195 : Cond.methodLink RX11 195 yX1_isLame ∈ lw_tbl := in3 (List.mem_of_getElem? (i := 237) (by decide +kernel))
theorem kX11_198 : Cond.methodLink RX11 198 yX11_mayBeAnywhere ∈ lw_tbl := in3 (List.mem_of_getElem? (i := 238) (by decide +kernel))
theorem kL_82 : Cond.methodLink RL 82 yX11_lot ∈ lw_tbl := in4 (List.mem_of_getElem? (i := 2) (by decide +kernel))
theorem kX11_201 : Cond.methodLink RX11 201 yX11_isBin ∈ lw_tbl := in4 (List.mem_of_getElem? (i := 6) (by decide +kernel))
theorem kX11_204 : Cond.methodLink RX11 204 yX0_add ∈ lw_tbl := in4 (List.mem_of_getElem? (i := 9) (by decide +kernel))
theorem kL_87 : Cond.methodLink RL 87 yX11_takes ∈ lw_tbl := in4 (List.mem_of_getElem? (i := 13) (by decide +kernel))
theorem kX11_207 : Cond.methodLink RX11 207 yX1_setWanted ∈ lw_tbl := in4 (List.mem_of_getElem? (i := 17) (by decide +kernel))
theorem kL_91 : Cond.methodLink RL 91 yX11_price ∈ lw_tbl := in4 (List.mem_of_getElem? (i := 21) (by decide +kernel))
theorem kL_95 : Cond.methodLink RL 95 yX11_falls ∈ lw_tbl := in4 (List.mem_of_getElem? (i := 25) (by decide +kernel))
theorem kX11_210 : Cond.methodLink RX11 210 yX11_isSort ∈ lw_tbl := in4 (List.mem_of_getElem? (i := 29) (by decide +kernel))
theorem kX11_213 : Cond.methodLink RX11 213 yX10_setFall ∈ lw_tbl := in4 (List.mem_of_getElem? (i := 32) (by decide +kernel))
theorem kL_99 : Cond.methodLink RL 99 yX11_night ∈ lw_tbl := in4 (List.mem_of_getElem? (i := 36) (by decide +kernel))
theorem kX11_216 : Cond.methodLink RX11 216 yX4_haveRoomFor ∈ lw_tbl := in4 (List.mem_of_getElem? (i := 40) (by decide +kernel))
theorem kX11_219 : Cond.methodLink RX11 219 yX0_spoil ∈ lw_tbl := in4 (List.mem_of_getElem? (i := 44) (by decide +kernel))
theorem kX0_28 : Cond.methodLink RX0 28 yX0_drop ∈ lw_tbl := in4 (List.mem_of_getElem? (i := 48) (by decide +kernel))
theorem kX11_222 : Cond.methodLink RX11 222 yX11_passNightOf ∈ lw_tbl := in4 (List.mem_of_getElem? (i := 52) (by decide +kernel))
theorem kX11_263 : Cond.methodLink RX11 263 yX1_wantedOf ∈ lw_tbl := in4 (List.mem_of_getElem? (i := 56) (by decide +kernel))
theorem kX11_266 : Cond.methodLink RX11 266 yX0_take ∈ lw_tbl := in4 (List.mem_of_getElem? (i := 60) (by decide +kernel))
theorem kX11_269 : Cond.methodLink RX11 269 yX1_addLacked ∈ lw_tbl := in4 (List.mem_of_getElem? (i := 64) (by decide +kernel))
theorem kX11_272 : Cond.methodLink RX11 272 yX4_add ∈ lw_tbl := in4 (List.mem_of_getElem? (i := 68) (by decide +kernel))
theorem kL_103 : Cond.methodLink RL 103 yX11_bin ∈ lw_tbl := in4 (List.mem_of_getElem? (i := 72) (by decide +kernel))
theorem kX11_225 : Cond.methodLink RX11 225 yX0_count ∈ lw_tbl := in4 (List.mem_of_getElem? (i := 76) (by decide +kernel))
theorem kX11_226 : Cond.methodLink RX11 226 yX0_total ∈ lw_tbl := in4 (List.mem_of_getElem? (i := 80) (by decide +kernel))
theorem kX11_229 : Cond.methodLink RX11 229 yX0_spoiltSoFar ∈ lw_tbl := in4 (List.mem_of_getElem? (i := 84) (by decide +kernel))
theorem kX11_232 : Cond.methodLink RX11 232 yX0_firstLast ∈ lw_tbl := in4 (List.mem_of_getElem? (i := 88) (by decide +kernel))
theorem kL_107 : Cond.methodLink RL 107 yX11_foretold ∈ lw_tbl := in4 (List.mem_of_getElem? (i := 92) (by decide +kernel))
theorem kX11_235 : Cond.methodLink RX11 235 yX1_wantedByAll ∈ lw_tbl := in4 (List.mem_of_getElem? (i := 96) (by decide +kernel))
theorem kX1_35 : Cond.methodLink RX1 35 yX1_wantedOf ∈ lw_tbl := in4 (List.mem_of_getElem? (i := 100) (by decide +kernel))
theorem kX11_238 : Cond.methodLink RX11 238 yX0_nightsFor ∈ lw_tbl := in4 (List.mem_of_getElem? (i := 101) (by decide +kernel))
theorem kX0_32 : Cond.methodLink RX0 32 arraycopyName ∈ lw_tbl := in4 (List.mem_of_getElem? (i := 105) (by decide +kernel))
theorem kX0_38 : Cond.methodLink RX0 38 yX0_suffices ∈ lw_tbl := in4 (List.mem_of_getElem? (i := 106) (by decide +kernel))
theorem kX0_42 : Cond.methodLink RX0 42 yJ9_min_7cf53 ∈ lw_tbl := in4 (List.mem_of_getElem? (i := 110) (by decide +kernel))
theorem kL_111 : Cond.methodLink RL 111 yX11_work ∈ lw_tbl := in4 (List.mem_of_getElem? (i := 113) (by decide +kernel))
theorem kX11_241 : Cond.methodLink RX11 241 yX1_cameOf ∈ lw_tbl := in4 (List.mem_of_getElem? (i := 117) (by decide +kernel))
theorem kX11_244 : Cond.methodLink RX11 244 yX10_add ∈ lw_tbl := in4 (List.mem_of_getElem? (i := 118) (by decide +kernel))
theorem kX10_34 : Cond.methodLink RX10 34 yJ9_max_7cf53 ∈ lw_tbl := in4 (List.mem_of_getElem? (i := 122) (by decide +kernel))
theorem kL_115 : Cond.methodLink RL 115 yX11_due ∈ lw_tbl := in4 (List.mem_of_getElem? (i := 125) (by decide +kernel))
theorem kX11_247 : Cond.methodLink RX11 247 yX10_dueDay ∈ lw_tbl := in4 (List.mem_of_getElem? (i := 129) (by decide +kernel))
theorem kL_119 : Cond.methodLink RL 119 yX11_bill ∈ lw_tbl := in4 (List.mem_of_getElem? (i := 133) (by decide +kernel))
theorem kX11_250 : Cond.methodLink RX11 250 yX4_cost ∈ lw_tbl := in4 (List.mem_of_getElem? (i := 137) (by decide +kernel))
theorem kX4_25 : Cond.methodLink RX4 25 yJ9_min_7cf53 ∈ lw_tbl := in4 (List.mem_of_getElem? (i := 141) (by decide +kernel))
theorem kX11_254 : Cond.methodLink RX11 254 yX10_cost ∈ lw_tbl := in4 (List.mem_of_getElem? (i := 142) (by decide +kernel))
theorem kL_124 : Cond.methodLink RL 124 yX11_lacked ∈ lw_tbl := in4 (List.mem_of_getElem? (i := 146) (by decide +kernel))
theorem kX11_255 : Cond.methodLink RX11 255 yX1_lackedOf ∈ lw_tbl := in4 (List.mem_of_getElem? (i := 150) (by decide +kernel))
theorem kL_128 : Cond.methodLink RL 128 yX11_about ∈ lw_tbl := in4 (List.mem_of_getElem? (i := 154) (by decide +kernel))
theorem kX11_258 : Cond.methodLink RX11 258 yX10_count ∈ lw_tbl := in4 (List.mem_of_getElem? (i := 158) (by decide +kernel))
theorem kX11_259 : Cond.methodLink RX11 259 yX6_hasPlan ∈ lw_tbl := in4 (List.mem_of_getElem? (i := 162) (by decide +kernel))
theorem kX11_262 : Cond.methodLink RX11 262 yX4_count ∈ lw_tbl := in4 (List.mem_of_getElem? (i := 166) (by decide +kernel))
theorem lL_10 : Cond.classLink RL 10 RX12 ∈ lw_tbl := in4 (List.mem_of_getElem? (i := 170) (by decide +kernel))
theorem nL_10 : NOK RL 10 12 60 [.int 0, .int 0, .null, .null, .null, .null, .null, .null, .null, .null, .null, .null, .int 0, .null, .null, .null, .null, .int 0, .null, .null, .null, .null, .int 0, .int 0, .int 0, .null, .int 0, .int 0, .int 0, .int 0, .int 0, .int 0, .int 0, .int 0, .long 0, .null, .int 0, .int 0, .null, .null, .null, .null, .int 0, .null, .null, .null, .null, .null, .null, .int 0, .int 0, .null, .null, .null, .null, .null, .null, .null, .null, .null] := ⟨RX12, TX12, tyX12, rfl, lL_10, in4 (List.mem_of_getElem? (i := 171) (by decide +kernel)), in1 (List.mem_of_getElem? (i := 13) (by decide +kernel)), wX12, tyX12_ok, by decide +kernel, fun _ => rfl⟩
theorem kL_12 : Cond.methodLink RL 12 yX12_init ∈ lw_tbl := in4 (List.mem_of_getElem? (i := 172) (by decide +kernel))
theorem kX12_1 : Cond.methodLink RX12 1 Lib.objectInit ∈ lw_tbl := in4 (List.mem_of_getElem? (i := 175) (by decide +kernel))
theorem lfX12_135 : Cond.fieldLink RX12 135 (TX12 0).1 (TX12 0).2.1 (TX12 0).2.2.1 ∈ lw_tbl := in4 (List.mem_of_getElem? (i := 176) (by decide +kernel))
theorem fX12_135 : FOK RX12 135 12 0 := ⟨RX12, TX12, 60, rfl, by decide, lfX12_135, wX12⟩
theorem pX12_135 : POK RX12 135 12 0 .int := ⟨RX12, TX12, 60, tyX12, rfl, by decide, lfX12_135, wX12, tyX12_ok, nmX12, rfl, by decide +kernel⟩
theorem lfX12_132 : Cond.fieldLink RX12 132 (TX12 1).1 (TX12 1).2.1 (TX12 1).2.2.1 ∈ lw_tbl := in4 (List.mem_of_getElem? (i := 177) (by decide +kernel))
theorem fX12_132 : FOK RX12 132 12 1 := ⟨RX12, TX12, 60, rfl, by decide, lfX12_132, wX12⟩
theorem pX12_132 : POK RX12 132 12 1 .int := ⟨RX12, TX12, 60, tyX12, rfl, by decide, lfX12_132, wX12, tyX12_ok, nmX12, rfl, by decide +kernel⟩
theorem lfX12_7 : Cond.fieldLink RX12 7 (TX12 2).1 (TX12 2).2.1 (TX12 2).2.2.1 ∈ lw_tbl := in4 (List.mem_of_getElem? (i := 178) (by decide +kernel))
theorem fX12_7 : FOK RX12 7 12 2 := ⟨RX12, TX12, 60, rfl, by decide, lfX12_7, wX12⟩
theorem qX12_7 : PFOK RX12 7 12 2 (.array .int) := ⟨RX12, TX12, 60, tyX12, rfl, by decide, lfX12_7, wX12, tyX12_ok, nmX12, rfl, rfl, by decide +kernel⟩
theorem lfX12_13 : Cond.fieldLink RX12 13 (TX12 3).1 (TX12 3).2.1 (TX12 3).2.2.1 ∈ lw_tbl := in4 (List.mem_of_getElem? (i := 179) (by decide +kernel))
theorem fX12_13 : FOK RX12 13 12 3 := ⟨RX12, TX12, 60, rfl, by decide, lfX12_13, wX12⟩
theorem qX12_13 : PFOK RX12 13 12 3 (.array .int) := ⟨RX12, TX12, 60, tyX12, rfl, by decide, lfX12_13, wX12, tyX12_ok, nmX12, rfl, rfl, by decide +kernel⟩
theorem lfX12_16 : Cond.fieldLink RX12 16 (TX12 4).1 (TX12 4).2.1 (TX12 4).2.2.1 ∈ lw_tbl := in4 (List.mem_of_getElem? (i := 180) (by decide +kernel))
theorem fX12_16 : FOK RX12 16 12 4 := ⟨RX12, TX12, 60, rfl, by decide, lfX12_16, wX12⟩
theorem qX12_16 : PFOK RX12 16 12 4 (.array .int) := ⟨RX12, TX12, 60, tyX12, rfl, by decide, lfX12_16, wX12, tyX12_ok, nmX12, rfl, rfl, by decide +kernel⟩
theorem lfX12_19 : Cond.fieldLink RX12 19 (TX12 5).1 (TX12 5).2.1 (TX12 5).2.2.1 ∈ lw_tbl := in4 (List.mem_of_getElem? (i := 181) (by decide +kernel))
theorem fX12_19 : FOK RX12 19 12 5 := ⟨RX12, TX12, 60, rfl, by decide, lfX12_19, wX12⟩
theorem qX12_19 : PFOK RX12 19 12 5 (.array .int) := ⟨RX12, TX12, 60, tyX12, rfl, by decide, lfX12_19, wX12, tyX12_ok, nmX12, rfl, rfl, by decide +kernel⟩
theorem lfX12_22 : Cond.fieldLink RX12 22 (TX12 6).1 (TX12 6).2.1 (TX12 6).2.2.1 ∈ lw_tbl := in4 (List.mem_of_getElem? (i := 182) (by decide +kernel))
theorem fX12_22 : FOK RX12 22 12 6 := ⟨RX12, TX12, 60, rfl, by decide, lfX12_22, wX12⟩
theorem qX12_22 : PFOK RX12 22 12 6 (.array .int) := ⟨RX12, TX12, 60, tyX12, rfl, by decide, lfX12_22, wX12, tyX12_ok, nmX12, rfl, rfl, by decide +kernel⟩
theorem lfX12_25 : Cond.fieldLink RX12 25 (TX12 7).1 (TX12 7).2.1 (TX12 7).2.2.1 ∈ lw_tbl := in4 (List.mem_of_getElem? (i := 183) (by decide +kernel))
theorem fX12_25 : FOK RX12 25 12 7 := ⟨RX12, TX12, 60, rfl, by decide, lfX12_25, wX12⟩
theorem qX12_25 : PFOK RX12 25 12 7 (.array .int) := ⟨RX12, TX12, 60, tyX12, rfl, by decide, lfX12_25, wX12, tyX12_ok, nmX12, rfl, rfl, by decide +kernel⟩
theorem lfX12_28 : Cond.fieldLink RX12 28 (TX12 8).1 (TX12 8).2.1 (TX12 8).2.2.1 ∈ lw_tbl := in4 (List.mem_of_getElem? (i := 184) (by decide +kernel))
theorem fX12_28 : FOK RX12 28 12 8 := ⟨RX12, TX12, 60, rfl, by decide, lfX12_28, wX12⟩
theorem qX12_28 : PFOK RX12 28 12 8 (.array .int) := ⟨RX12, TX12, 60, tyX12, rfl, by decide, lfX12_28, wX12, tyX12_ok, nmX12, rfl, rfl, by decide +kernel⟩
theorem lfX12_31 : Cond.fieldLink RX12 31 (TX12 9).1 (TX12 9).2.1 (TX12 9).2.2.1 ∈ lw_tbl := in4 (List.mem_of_getElem? (i := 185) (by decide +kernel))
theorem fX12_31 : FOK RX12 31 12 9 := ⟨RX12, TX12, 60, rfl, by decide, lfX12_31, wX12⟩
theorem qX12_31 : PFOK RX12 31 12 9 (.array .int) := ⟨RX12, TX12, 60, tyX12, rfl, by decide, lfX12_31, wX12, tyX12_ok, nmX12, rfl, rfl, by decide +kernel⟩
theorem lfX12_34 : Cond.fieldLink RX12 34 (TX12 10).1 (TX12 10).2.1 (TX12 10).2.2.1 ∈ lw_tbl := in4 (List.mem_of_getElem? (i := 186) (by decide +kernel))
theorem fX12_34 : FOK RX12 34 12 10 := ⟨RX12, TX12, 60, rfl, by decide, lfX12_34, wX12⟩
theorem qX12_34 : PFOK RX12 34 12 10 (.array .int) := ⟨RX12, TX12, 60, tyX12, rfl, by decide, lfX12_34, wX12, tyX12_ok, nmX12, rfl, rfl, by decide +kernel⟩
theorem lfX12_37 : Cond.fieldLink RX12 37 (TX12 11).1 (TX12 11).2.1 (TX12 11).2.2.1 ∈ lw_tbl := in4 (List.mem_of_getElem? (i := 187) (by decide +kernel))
theorem fX12_37 : FOK RX12 37 12 11 := ⟨RX12, TX12, 60, rfl, by decide, lfX12_37, wX12⟩
theorem qX12_37 : PFOK RX12 37 12 11 (.array .boolean) := ⟨RX12, TX12, 60, tyX12, rfl, by decide, lfX12_37, wX12, tyX12_ok, nmX12, rfl, rfl, by decide +kernel⟩
theorem lfX12_138 : Cond.fieldLink RX12 138 (TX12 12).1 (TX12 12).2.1 (TX12 12).2.2.1 ∈ lw_tbl := in4 (List.mem_of_getElem? (i := 188) (by decide +kernel))
theorem fX12_138 : FOK RX12 138 12 12 := ⟨RX12, TX12, 60, rfl, by decide, lfX12_138, wX12⟩
theorem pX12_138 : POK RX12 138 12 12 .boolean := ⟨RX12, TX12, 60, tyX12, rfl, by decide, lfX12_138, wX12, tyX12_ok, nmX12, rfl, by decide +kernel⟩
theorem lfX12_41 : Cond.fieldLink RX12 41 (TX12 13).1 (TX12 13).2.1 (TX12 13).2.2.1 ∈ lw_tbl := in4 (List.mem_of_getElem? (i := 189) (by decide +kernel))
theorem fX12_41 : FOK RX12 41 12 13 := ⟨RX12, TX12, 60, rfl, by decide, lfX12_41, wX12⟩
theorem qX12_41 : PFOK RX12 41 12 13 (.array .int) := ⟨RX12, TX12, 60, tyX12, rfl, by decide, lfX12_41, wX12, tyX12_ok, nmX12, rfl, rfl, by decide +kernel⟩
theorem lfX12_44 : Cond.fieldLink RX12 44 (TX12 14).1 (TX12 14).2.1 (TX12 14).2.2.1 ∈ lw_tbl := in4 (List.mem_of_getElem? (i := 190) (by decide +kernel))
theorem fX12_44 : FOK RX12 44 12 14 := ⟨RX12, TX12, 60, rfl, by decide, lfX12_44, wX12⟩
theorem qX12_44 : PFOK RX12 44 12 14 (.array .int) := ⟨RX12, TX12, 60, tyX12, rfl, by decide, lfX12_44, wX12, tyX12_ok, nmX12, rfl, rfl, by decide +kernel⟩
theorem lfX12_47 : Cond.fieldLink RX12 47 (TX12 15).1 (TX12 15).2.1 (TX12 15).2.2.1 ∈ lw_tbl := in4 (List.mem_of_getElem? (i := 191) (by decide +kernel))
theorem fX12_47 : FOK RX12 47 12 15 := ⟨RX12, TX12, 60, rfl, by decide, lfX12_47, wX12⟩
theorem qX12_47 : PFOK RX12 47 12 15 (.array .int) := ⟨RX12, TX12, 60, tyX12, rfl, by decide, lfX12_47, wX12, tyX12_ok, nmX12, rfl, rfl, by decide +kernel⟩
theorem lfX12_50 : Cond.fieldLink RX12 50 (TX12 16).1 (TX12 16).2.1 (TX12 16).2.2.1 ∈ lw_tbl := in4 (List.mem_of_getElem? (i := 192) (by decide +kernel))
theorem fX12_50 : FOK RX12 50 12 16 := ⟨RX12, TX12, 60, rfl, by decide, lfX12_50, wX12⟩
theorem qX12_50 : PFOK RX12 50 12 16 (.array .boolean) := ⟨RX12, TX12, 60, tyX12, rfl, by decide, lfX12_50, wX12, tyX12_ok, nmX12, rfl, rfl, by decide +kernel⟩
theorem lfX12_287 : Cond.fieldLink RX12 287 (TX12 17).1 (TX12 17).2.1 (TX12 17).2.2.1 ∈ lw_tbl := in4 (List.mem_of_getElem? (i := 193) (by decide +kernel))
theorem fX12_287 : FOK RX12 287 12 17 := ⟨RX12, TX12, 60, rfl, by decide, lfX12_287, wX12⟩
theorem pX12_287 : POK RX12 287 12 17 .int := ⟨RX12, TX12, 60, tyX12, rfl, by decide, lfX12_287, wX12, tyX12_ok, nmX12, rfl, by decide +kernel⟩
theorem lfX12_53 : Cond.fieldLink RX12 53 (TX12 18).1 (TX12 18).2.1 (TX12 18).2.2.1 ∈ lw_tbl := in4 (List.mem_of_getElem? (i := 194) (by decide +kernel))
theorem fX12_53 : FOK RX12 53 12 18 := ⟨RX12, TX12, 60, rfl, by decide, lfX12_53, wX12⟩
theorem qX12_53 : PFOK RX12 53 12 18 (.array .int) := ⟨RX12, TX12, 60, tyX12, rfl, by decide, lfX12_53, wX12, tyX12_ok, nmX12, rfl, rfl, by decide +kernel⟩
theorem lfX12_56 : Cond.fieldLink RX12 56 (TX12 19).1 (TX12 19).2.1 (TX12 19).2.2.1 ∈ lw_tbl := in4 (List.mem_of_getElem? (i := 195) (by decide +kernel))
theorem fX12_56 : FOK RX12 56 12 19 := ⟨RX12, TX12, 60, rfl, by decide, lfX12_56, wX12⟩
theorem qX12_56 : PFOK RX12 56 12 19 (.array .int) := ⟨RX12, TX12, 60, tyX12, rfl, by decide, lfX12_56, wX12, tyX12_ok, nmX12, rfl, rfl, by decide +kernel⟩
theorem lfX12_59 : Cond.fieldLink RX12 59 (TX12 20).1 (TX12 20).2.1 (TX12 20).2.2.1 ∈ lw_tbl := in4 (List.mem_of_getElem? (i := 196) (by decide +kernel))
theorem fX12_59 : FOK RX12 59 12 20 := ⟨RX12, TX12, 60, rfl, by decide, lfX12_59, wX12⟩
theorem qX12_59 : PFOK RX12 59 12 20 (.array .int) := ⟨RX12, TX12, 60, tyX12, rfl, by decide, lfX12_59, wX12, tyX12_ok, nmX12, rfl, rfl, by decide +kernel⟩
theorem lfX12_62 : Cond.fieldLink RX12 62 (TX12 21).1 (TX12 21).2.1 (TX12 21).2.2.1 ∈ lw_tbl := in4 (List.mem_of_getElem? (i := 197) (by decide +kernel))
theorem fX12_62 : FOK RX12 62 12 21 := ⟨RX12, TX12, 60, rfl, by decide, lfX12_62, wX12⟩
theorem qX12_62 : PFOK RX12 62 12 21 (.array .boolean) := ⟨RX12, TX12, 60, tyX12, rfl, by decide, lfX12_62, wX12, tyX12_ok, nmX12, rfl, rfl, by decide +kernel⟩
theorem lfX12_281 : Cond.fieldLink RX12 281 (TX12 22).1 (TX12 22).2.1 (TX12 22).2.2.1 ∈ lw_tbl := in4 (List.mem_of_getElem? (i := 198) (by decide +kernel))
theorem fX12_281 : FOK RX12 281 12 22 := ⟨RX12, TX12, 60, rfl, by decide, lfX12_281, wX12⟩
theorem pX12_281 : POK RX12 281 12 22 .int := ⟨RX12, TX12, 60, tyX12, rfl, by decide, lfX12_281, wX12, tyX12_ok, nmX12, rfl, by decide +kernel⟩
theorem lfX12_220 : Cond.fieldLink RX12 220 (TX12 23).1 (TX12 23).2.1 (TX12 23).2.2.1 ∈ lw_tbl := in4 (List.mem_of_getElem? (i := 199) (by decide +kernel))
theorem fX12_220 : FOK RX12 220 12 23 := ⟨RX12, TX12, 60, rfl, by decide, lfX12_220, wX12⟩
theorem pX12_220 : POK RX12 220 12 23 .int := ⟨RX12, TX12, 60, tyX12, rfl, by decide, lfX12_220, wX12, tyX12_ok, nmX12, rfl, by decide +kernel⟩
theorem lfX12_264 : Cond.fieldLink RX12 264 (TX12 24).1 (TX12 24).2.1 (TX12 24).2.2.1 ∈ lw_tbl := in4 (List.mem_of_getElem? (i := 200) (by decide +kernel))
theorem fX12_264 : FOK RX12 264 12 24 := ⟨RX12, TX12, 60, rfl, by decide, lfX12_264, wX12⟩
theorem pX12_264 : POK RX12 264 12 24 .int := ⟨RX12, TX12, 60, tyX12, rfl, by decide, lfX12_264, wX12, tyX12_ok, nmX12, rfl, by decide +kernel⟩
theorem lfX12_65 : Cond.fieldLink RX12 65 (TX12 25).1 (TX12 25).2.1 (TX12 25).2.2.1 ∈ lw_tbl := in4 (List.mem_of_getElem? (i := 201) (by decide +kernel))
theorem fX12_65 : FOK RX12 65 12 25 := ⟨RX12, TX12, 60, rfl, by decide, lfX12_65, wX12⟩
theorem qX12_65 : PFOK RX12 65 12 25 (.array .int) := ⟨RX12, TX12, 60, tyX12, rfl, by decide, lfX12_65, wX12, tyX12_ok, nmX12, rfl, rfl, by decide +kernel⟩
theorem lfX12_150 : Cond.fieldLink RX12 150 (TX12 26).1 (TX12 26).2.1 (TX12 26).2.2.1 ∈ lw_tbl := in4 (List.mem_of_getElem? (i := 202) (by decide +kernel))
theorem fX12_150 : FOK RX12 150 12 26 := ⟨RX12, TX12, 60, rfl, by decide, lfX12_150, wX12⟩
theorem pX12_150 : POK RX12 150 12 26 .int := ⟨RX12, TX12, 60, tyX12, rfl, by decide, lfX12_150, wX12, tyX12_ok, nmX12, rfl, by decide +kernel⟩
theorem lfX12_189 : Cond.fieldLink RX12 189 (TX12 27).1 (TX12 27).2.1 (TX12 27).2.2.1 ∈ lw_tbl := in4 (List.mem_of_getElem? (i := 203) (by decide +kernel))
theorem fX12_189 : FOK RX12 189 12 27 := ⟨RX12, TX12, 60, rfl, by decide, lfX12_189, wX12⟩
theorem pX12_189 : POK RX12 189 12 27 .int := ⟨RX12, TX12, 60, tyX12, rfl, by decide, lfX12_189, wX12, tyX12_ok, nmX12, rfl, by decide +kernel⟩
theorem lfX12_68 : Cond.fieldLink RX12 68 (TX12 28).1 (TX12 28).2.1 (TX12 28).2.2.1 ∈ lw_tbl := in4 (List.mem_of_getElem? (i := 204) (by decide +kernel))
theorem fX12_68 : FOK RX12 68 12 28 := ⟨RX12, TX12, 60, rfl, by decide, lfX12_68, wX12⟩
theorem pX12_68 : POK RX12 68 12 28 .int := ⟨RX12, TX12, 60, tyX12, rfl, by decide, lfX12_68, wX12, tyX12_ok, nmX12, rfl, by decide +kernel⟩
theorem lfX12_157 : Cond.fieldLink RX12 157 (TX12 29).1 (TX12 29).2.1 (TX12 29).2.2.1 ∈ lw_tbl := in4 (List.mem_of_getElem? (i := 205) (by decide +kernel))
theorem fX12_157 : FOK RX12 157 12 29 := ⟨RX12, TX12, 60, rfl, by decide, lfX12_157, wX12⟩
theorem pX12_157 : POK RX12 157 12 29 .int := ⟨RX12, TX12, 60, tyX12, rfl, by decide, lfX12_157, wX12, tyX12_ok, nmX12, rfl, by decide +kernel⟩
theorem lfX12_160 : Cond.fieldLink RX12 160 (TX12 30).1 (TX12 30).2.1 (TX12 30).2.2.1 ∈ lw_tbl := in4 (List.mem_of_getElem? (i := 206) (by decide +kernel))
theorem fX12_160 : FOK RX12 160 12 30 := ⟨RX12, TX12, 60, rfl, by decide, lfX12_160, wX12⟩
theorem pX12_160 : POK RX12 160 12 30 .int := ⟨RX12, TX12, 60, tyX12, rfl, by decide, lfX12_160, wX12, tyX12_ok, nmX12, rfl, by decide +kernel⟩
theorem lfX12_177 : Cond.fieldLink RX12 177 (TX12 31).1 (TX12 31).2.1 (TX12 31).2.2.1 ∈ lw_tbl := in4 (List.mem_of_getElem? (i := 207) (by decide +kernel))
theorem fX12_177 : FOK RX12 177 12 31 := ⟨RX12, TX12, 60, rfl, by decide, lfX12_177, wX12⟩
theorem pX12_177 : POK RX12 177 12 31 .int := ⟨RX12, TX12, 60, tyX12, rfl, by decide, lfX12_177, wX12, tyX12_ok, nmX12, rfl, by decide +kernel⟩
theorem lfX12_167 : Cond.fieldLink RX12 167 (TX12 32).1 (TX12 32).2.1 (TX12 32).2.2.1 ∈ lw_tbl := in4 (List.mem_of_getElem? (i := 208) (by decide +kernel))
theorem fX12_167 : FOK RX12 167 12 32 := ⟨RX12, TX12, 60, rfl, by decide, lfX12_167, wX12⟩
theorem pX12_167 : POK RX12 167 12 32 .int := ⟨RX12, TX12, 60, tyX12, rfl, by decide, lfX12_167, wX12, tyX12_ok, nmX12, rfl, by decide +kernel⟩
theorem lfX12_174 : Cond.fieldLink RX12 174 (TX12 33).1 (TX12 33).2.1 (TX12 33).2.2.1 ∈ lw_tbl := in4 (List.mem_of_getElem? (i := 209) (by decide +kernel))
theorem fX12_174 : FOK RX12 174 12 33 := ⟨RX12, TX12, 60, rfl, by decide, lfX12_174, wX12⟩
theorem pX12_174 : POK RX12 174 12 33 .int := ⟨RX12, TX12, 60, tyX12, rfl, by decide, lfX12_174, wX12, tyX12_ok, nmX12, rfl, by decide +kernel⟩
theorem lfX12_170 : Cond.fieldLink RX12 170 (TX12 34).1 (TX12 34).2.1 (TX12 34).2.2.1 ∈ lw_tbl := in4 (List.mem_of_getElem? (i := 210) (by decide +kernel))
theorem fX12_170 : FOK RX12 170 12 34 := ⟨RX12, TX12, 60, rfl, by decide, lfX12_170, wX12⟩
theorem pX12_170 : POK RX12 170 12 34 .long := ⟨RX12, TX12, 60, tyX12, rfl, by decide, lfX12_170, wX12, tyX12_ok, nmX12, rfl, by decide +kernel⟩
theorem lfX12_72 : Cond.fieldLink RX12 72 (TX12 35).1 (TX12 35).2.1 (TX12 35).2.2.1 ∈ lw_tbl := in4 (List.mem_of_getElem? (i := 211) (by decide +kernel))
theorem fX12_72 : FOK RX12 72 12 35 := ⟨RX12, TX12, 60, rfl, by decide, lfX12_72, wX12⟩
theorem qX12_72 : PFOK RX12 72 12 35 (.array .int) := ⟨RX12, TX12, 60, tyX12, rfl, by decide, lfX12_72, wX12, tyX12_ok, nmX12, rfl, rfl, by decide +kernel⟩
theorem lfX12_223 : Cond.fieldLink RX12 223 (TX12 36).1 (TX12 36).2.1 (TX12 36).2.2.1 ∈ lw_tbl := in4 (List.mem_of_getElem? (i := 212) (by decide +kernel))
theorem fX12_223 : FOK RX12 223 12 36 := ⟨RX12, TX12, 60, rfl, by decide, lfX12_223, wX12⟩
theorem pX12_223 : POK RX12 223 12 36 .int := ⟨RX12, TX12, 60, tyX12, rfl, by decide, lfX12_223, wX12, tyX12_ok, nmX12, rfl, by decide +kernel⟩
theorem lfX12_226 : Cond.fieldLink RX12 226 (TX12 37).1 (TX12 37).2.1 (TX12 37).2.2.1 ∈ lw_tbl := in4 (List.mem_of_getElem? (i := 213) (by decide +kernel))
theorem fX12_226 : FOK RX12 226 12 37 := ⟨RX12, TX12, 60, rfl, by decide, lfX12_226, wX12⟩
theorem pX12_226 : POK RX12 226 12 37 .int := ⟨RX12, TX12, 60, tyX12, rfl, by decide, lfX12_226, wX12, tyX12_ok, nmX12, rfl, by decide +kernel⟩
theorem lfX12_75 : Cond.fieldLink RX12 75 (TX12 38).1 (TX12 38).2.1 (TX12 38).2.2.1 ∈ lw_tbl := in4 (List.mem_of_getElem? (i := 214) (by decide +kernel))
theorem fX12_75 : FOK RX12 75 12 38 := ⟨RX12, TX12, 60, rfl, by decide, lfX12_75, wX12⟩
theorem qX12_75 : PFOK RX12 75 12 38 (.array .int) := ⟨RX12, TX12, 60, tyX12, rfl, by decide, lfX12_75, wX12, tyX12_ok, nmX12, rfl, rfl, by decide +kernel⟩
theorem lfX12_78 : Cond.fieldLink RX12 78 (TX12 39).1 (TX12 39).2.1 (TX12 39).2.2.1 ∈ lw_tbl := in4 (List.mem_of_getElem? (i := 215) (by decide +kernel))
theorem fX12_78 : FOK RX12 78 12 39 := ⟨RX12, TX12, 60, rfl, by decide, lfX12_78, wX12⟩
theorem qX12_78 : PFOK RX12 78 12 39 (.array .int) := ⟨RX12, TX12, 60, tyX12, rfl, by decide, lfX12_78, wX12, tyX12_ok, nmX12, rfl, rfl, by decide +kernel⟩
theorem lfX12_81 : Cond.fieldLink RX12 81 (TX12 40).1 (TX12 40).2.1 (TX12 40).2.2.1 ∈ lw_tbl := in4 (List.mem_of_getElem? (i := 216) (by decide +kernel))
theorem fX12_81 : FOK RX12 81 12 40 := ⟨RX12, TX12, 60, rfl, by decide, lfX12_81, wX12⟩
theorem qX12_81 : PFOK RX12 81 12 40 (.array .int) := ⟨RX12, TX12, 60, tyX12, rfl, by decide, lfX12_81, wX12, tyX12_ok, nmX12, rfl, rfl, by decide +kernel⟩
theorem lfX12_84 : Cond.fieldLink RX12 84 (TX12 41).1 (TX12 41).2.1 (TX12 41).2.2.1 ∈ lw_tbl := in4 (List.mem_of_getElem? (i := 217) (by decide +kernel))
theorem fX12_84 : FOK RX12 84 12 41 := ⟨RX12, TX12, 60, rfl, by decide, lfX12_84, wX12⟩
theorem qX12_84 : PFOK RX12 84 12 41 (.array .int) := ⟨RX12, TX12, 60, tyX12, rfl, by decide, lfX12_84, wX12, tyX12_ok, nmX12, rfl, rfl, by decide +kernel⟩
theorem lfX12_306 : Cond.fieldLink RX12 306 (TX12 42).1 (TX12 42).2.1 (TX12 42).2.2.1 ∈ lw_tbl := in4 (List.mem_of_getElem? (i := 218) (by decide +kernel))
theorem fX12_306 : FOK RX12 306 12 42 := ⟨RX12, TX12, 60, rfl, by decide, lfX12_306, wX12⟩
theorem pX12_306 : POK RX12 306 12 42 .int := ⟨RX12, TX12, 60, tyX12, rfl, by decide, lfX12_306, wX12, tyX12_ok, nmX12, rfl, by decide +kernel⟩
theorem lfX12_87 : Cond.fieldLink RX12 87 (TX12 43).1 (TX12 43).2.1 (TX12 43).2.2.1 ∈ lw_tbl := in4 (List.mem_of_getElem? (i := 219) (by decide +kernel))
theorem fX12_87 : FOK RX12 87 12 43 := ⟨RX12, TX12, 60, rfl, by decide, lfX12_87, wX12⟩
theorem qX12_87 : PFOK RX12 87 12 43 (.array .int) := ⟨RX12, TX12, 60, tyX12, rfl, by decide, lfX12_87, wX12, tyX12_ok, nmX12, rfl, rfl, by decide +kernel⟩
theorem lfX12_90 : Cond.fieldLink RX12 90 (TX12 44).1 (TX12 44).2.1 (TX12 44).2.2.1 ∈ lw_tbl := in4 (List.mem_of_getElem? (i := 220) (by decide +kernel))
theorem fX12_90 : FOK RX12 90 12 44 := ⟨RX12, TX12, 60, rfl, by decide, lfX12_90, wX12⟩
theorem qX12_90 : PFOK RX12 90 12 44 (.array .int) := ⟨RX12, TX12, 60, tyX12, rfl, by decide, lfX12_90, wX12, tyX12_ok, nmX12, rfl, rfl, by decide +kernel⟩
theorem lfX12_93 : Cond.fieldLink RX12 93 (TX12 45).1 (TX12 45).2.1 (TX12 45).2.2.1 ∈ lw_tbl := in4 (List.mem_of_getElem? (i := 221) (by decide +kernel))
theorem fX12_93 : FOK RX12 93 12 45 := ⟨RX12, TX12, 60, rfl, by decide, lfX12_93, wX12⟩
theorem qX12_93 : PFOK RX12 93 12 45 (.array .int) := ⟨RX12, TX12, 60, tyX12, rfl, by decide, lfX12_93, wX12, tyX12_ok, nmX12, rfl, rfl, by decide +kernel⟩
theorem lfX12_96 : Cond.fieldLink RX12 96 (TX12 46).1 (TX12 46).2.1 (TX12 46).2.2.1 ∈ lw_tbl := in4 (List.mem_of_getElem? (i := 222) (by decide +kernel))
theorem fX12_96 : FOK RX12 96 12 46 := ⟨RX12, TX12, 60, rfl, by decide, lfX12_96, wX12⟩
theorem qX12_96 : PFOK RX12 96 12 46 (.array .int) := ⟨RX12, TX12, 60, tyX12, rfl, by decide, lfX12_96, wX12, tyX12_ok, nmX12, rfl, rfl, by decide +kernel⟩
theorem lfX12_99 : Cond.fieldLink RX12 99 (TX12 47).1 (TX12 47).2.1 (TX12 47).2.2.1 ∈ lw_tbl := in4 (List.mem_of_getElem? (i := 223) (by decide +kernel))
theorem fX12_99 : FOK RX12 99 12 47 := ⟨RX12, TX12, 60, rfl, by decide, lfX12_99, wX12⟩
theorem qX12_99 : PFOK RX12 99 12 47 (.array .int) := ⟨RX12, TX12, 60, tyX12, rfl, by decide, lfX12_99, wX12, tyX12_ok, nmX12, rfl, rfl, by decide +kernel⟩
theorem lfX12_102 : Cond.fieldLink RX12 102 (TX12 48).1 (TX12 48).2.1 (TX12 48).2.2.1 ∈ lw_tbl := in4 (List.mem_of_getElem? (i := 224) (by decide +kernel))
theorem fX12_102 : FOK RX12 102 12 48 := ⟨RX12, TX12, 60, rfl, by decide, lfX12_102, wX12⟩
theorem qX12_102 : PFOK RX12 102 12 48 (.array .int) := ⟨RX12, TX12, 60, tyX12, rfl, by decide, lfX12_102, wX12, tyX12_ok, nmX12, rfl, rfl, by decide +kernel⟩
theorem lfX12_330 : Cond.fieldLink RX12 330 (TX12 49).1 (TX12 49).2.1 (TX12 49).2.2.1 ∈ lw_tbl := in4 (List.mem_of_getElem? (i := 225) (by decide +kernel))
theorem fX12_330 : FOK RX12 330 12 49 := ⟨RX12, TX12, 60, rfl, by decide, lfX12_330, wX12⟩
theorem pX12_330 : POK RX12 330 12 49 .int := ⟨RX12, TX12, 60, tyX12, rfl, by decide, lfX12_330, wX12, tyX12_ok, nmX12, rfl, by decide +kernel⟩
theorem lfX12_337 : Cond.fieldLink RX12 337 (TX12 50).1 (TX12 50).2.1 (TX12 50).2.2.1 ∈ lw_tbl := in4 (List.mem_of_getElem? (i := 226) (by decide +kernel))
theorem fX12_337 : FOK RX12 337 12 50 := ⟨RX12, TX12, 60, rfl, by decide, lfX12_337, wX12⟩
theorem pX12_337 : POK RX12 337 12 50 .int := ⟨RX12, TX12, 60, tyX12, rfl, by decide, lfX12_337, wX12, tyX12_ok, nmX12, rfl, by decide +kernel⟩
theorem lfX12_105 : Cond.fieldLink RX12 105 (TX12 51).1 (TX12 51).2.1 (TX12 51).2.2.1 ∈ lw_tbl := in4 (List.mem_of_getElem? (i := 227) (by decide +kernel))
theorem fX12_105 : FOK RX12 105 12 51 := ⟨RX12, TX12, 60, rfl, by decide, lfX12_105, wX12⟩
theorem qX12_105 : PFOK RX12 105 12 51 (.array .int) := ⟨RX12, TX12, 60, tyX12, rfl, by decide, lfX12_105, wX12, tyX12_ok, nmX12, rfl, rfl, by decide +kernel⟩
theorem lfX12_108 : Cond.fieldLink RX12 108 (TX12 52).1 (TX12 52).2.1 (TX12 52).2.2.1 ∈ lw_tbl := in4 (List.mem_of_getElem? (i := 228) (by decide +kernel))
theorem fX12_108 : FOK RX12 108 12 52 := ⟨RX12, TX12, 60, rfl, by decide, lfX12_108, wX12⟩
theorem qX12_108 : PFOK RX12 108 12 52 (.array .int) := ⟨RX12, TX12, 60, tyX12, rfl, by decide, lfX12_108, wX12, tyX12_ok, nmX12, rfl, rfl, by decide +kernel⟩
theorem lfX12_111 : Cond.fieldLink RX12 111 (TX12 53).1 (TX12 53).2.1 (TX12 53).2.2.1 ∈ lw_tbl := in4 (List.mem_of_getElem? (i := 229) (by decide +kernel))
theorem fX12_111 : FOK RX12 111 12 53 := ⟨RX12, TX12, 60, rfl, by decide, lfX12_111, wX12⟩
theorem qX12_111 : PFOK RX12 111 12 53 (.array .int) := ⟨RX12, TX12, 60, tyX12, rfl, by decide, lfX12_111, wX12, tyX12_ok, nmX12, rfl, rfl, by decide +kernel⟩
theorem lfX12_114 : Cond.fieldLink RX12 114 (TX12 54).1 (TX12 54).2.1 (TX12 54).2.2.1 ∈ lw_tbl := in4 (List.mem_of_getElem? (i := 230) (by decide +kernel))
theorem fX12_114 : FOK RX12 114 12 54 := ⟨RX12, TX12, 60, rfl, by decide, lfX12_114, wX12⟩
theorem qX12_114 : PFOK RX12 114 12 54 (.array .int) := ⟨RX12, TX12, 60, tyX12, rfl, by decide, lfX12_114, wX12, tyX12_ok, nmX12, rfl, rfl, by decide +kernel⟩
theorem lfX12_117 : Cond.fieldLink RX12 117 (TX12 55).1 (TX12 55).2.1 (TX12 55).2.2.1 ∈ lw_tbl := in4 (List.mem_of_getElem? (i := 231) (by decide +kernel))
theorem fX12_117 : FOK RX12 117 12 55 := ⟨RX12, TX12, 60, rfl, by decide, lfX12_117, wX12⟩
theorem qX12_117 : PFOK RX12 117 12 55 (.array .int) := ⟨RX12, TX12, 60, tyX12, rfl, by decide, lfX12_117, wX12, tyX12_ok, nmX12, rfl, rfl, by decide +kernel⟩
theorem lfX12_120 : Cond.fieldLink RX12 120 (TX12 56).1 (TX12 56).2.1 (TX12 56).2.2.1 ∈ lw_tbl := in4 (List.mem_of_getElem? (i := 232) (by decide +kernel))
theorem fX12_120 : FOK RX12 120 12 56 := ⟨RX12, TX12, 60, rfl, by decide, lfX12_120, wX12⟩
theorem qX12_120 : PFOK RX12 120 12 56 (.array .int) := ⟨RX12, TX12, 60, tyX12, rfl, by decide, lfX12_120, wX12, tyX12_ok, nmX12, rfl, rfl, by decide +kernel⟩
theorem lfX12_123 : Cond.fieldLink RX12 123 (TX12 57).1 (TX12 57).2.1 (TX12 57).2.2.1 ∈ lw_tbl := in4 (List.mem_of_getElem? (i := 233) (by decide +kernel))
theorem fX12_123 : FOK RX12 123 12 57 := ⟨RX12, TX12, 60, rfl, by decide, lfX12_123, wX12⟩
theorem qX12_123 : PFOK RX12 123 12 57 (.array .int) := ⟨RX12, TX12, 60, tyX12, rfl, by decide, lfX12_123, wX12, tyX12_ok, nmX12, rfl, rfl, by decide +kernel⟩
theorem lfX12_126 : Cond.fieldLink RX12 126 (TX12 58).1 (TX12 58).2.1 (TX12 58).2.2.1 ∈ lw_tbl := in4 (List.mem_of_getElem? (i := 234) (by decide +kernel))
theorem fX12_126 : FOK RX12 126 12 58 := ⟨RX12, TX12, 60, rfl, by decide, lfX12_126, wX12⟩
theorem qX12_126 : PFOK RX12 126 12 58 (.array .int) := ⟨RX12, TX12, 60, tyX12, rfl, by decide, lfX12_126, wX12, tyX12_ok, nmX12, rfl, rfl, by decide +kernel⟩
theorem lfX12_129 : Cond.fieldLink RX12 129 (TX12 59).1 (TX12 59).2.1 (TX12 59).2.2.1 ∈ lw_tbl := in4 (List.mem_of_getElem? (i := 235) (by decide +kernel))
theorem fX12_129 : FOK RX12 129 12 59 := ⟨RX12, TX12, 60, rfl, by decide, lfX12_129, wX12⟩
theorem qX12_129 : PFOK RX12 129 12 59 (.array .int) := ⟨RX12, TX12, 60, tyX12, rfl, by decide, lfX12_129, wX12, tyX12_ok, nmX12, rfl, rfl, by decide +kernel⟩
theorem kL_17 : Cond.methodLink RL 17 yX12_horse ∈ lw_tbl := in5 (List.mem_of_getElem? (i := 117) (by decide +kernel))
theorem kL_22 : Cond.methodLink RL 22 yX12_lame ∈ lw_tbl := in5 (List.mem_of_getElem? (i := 121) (by decide +kernel))
theorem kX12_142 : Cond.methodLink RX12 142 yX12_isHorse ∈ lw_tbl := in5 (List.mem_of_getElem? (i := 125) (by decide +kernel))
theorem kL_27 : Cond.methodLink RL 27 yX12_field ∈ lw_tbl := in5 (List.mem_of_getElem? (i := 129) (by decide +kernel))
theorem kX12_146 : Cond.methodLink RX12 146 yX12_isField ∈ lw_tbl := in5 (List.mem_of_getElem? (i := 133) (by decide +kernel))
theorem kL_32 : Cond.methodLink RL 32 yX12_shut ∈ lw_tbl := in5 (List.mem_of_getElem? (i := 136) (by decide +kernel))
theorem ccX12_149 : Cond.constant RX12 149 (100000) ∈ lw_tbl := in5 (List.mem_of_getElem? (i := 140) (by decide +kernel))
theorem kL_37 : Cond.methodLink RL 37 yX12_gate ∈ lw_tbl := in5 (List.mem_of_getElem? (i := 141) (by decide +kernel))
theorem kL_42 : Cond.methodLink RL 42 yX12_feed ∈ lw_tbl := in5 (List.mem_of_getElem? (i := 145) (by decide +kernel))
theorem kX12_153 : Cond.methodLink RX12 153 yX12_four ∈ lw_tbl := in5 (List.mem_of_getElem? (i := 149) (by decide +kernel))
theorem kL_47 : Cond.methodLink RL 47 yX12_end ∈ lw_tbl := in5 (List.mem_of_getElem? (i := 153) (by decide +kernel))
theorem kL_52 : Cond.methodLink RL 52 yX12_rules ∈ lw_tbl := in5 (List.mem_of_getElem? (i := 157) (by decide +kernel))
theorem kX12_267 : Cond.methodLink RX12 267 yX12_next ∈ lw_tbl := in5 (List.mem_of_getElem? (i := 161) (by decide +kernel))
theorem kX12_163 : Cond.methodLink RX12 163 yX12_here ∈ lw_tbl := in5 (List.mem_of_getElem? (i := 165) (by decide +kernel))
theorem kX12_180 : Cond.methodLink RX12 180 yX12_isLetter ∈ lw_tbl := in5 (List.mem_of_getElem? (i := 169) (by decide +kernel))
theorem kX12_183 : Cond.methodLink RX12 183 yX12_isDigit ∈ lw_tbl := in5 (List.mem_of_getElem? (i := 172) (by decide +kernel))
theorem kX12_186 : Cond.methodLink RX12 186 yX12_isSign ∈ lw_tbl := in5 (List.mem_of_getElem? (i := 175) (by decide +kernel))
theorem ccX12_250 : Cond.constantLong RX12 250 (1885432178) ∈ lw_tbl := in5 (List.mem_of_getElem? (i := 178) (by decide +kernel))
theorem kX12_273 : Cond.methodLink RX12 273 yX12_isWord ∈ lw_tbl := in5 (List.mem_of_getElem? (i := 179) (by decide +kernel))
theorem ccX12_248 : Cond.constantLong RX12 248 (482854658917) ∈ lw_tbl := in5 (List.mem_of_getElem? (i := 183) (by decide +kernel))
theorem kX12_258 : Cond.methodLink RX12 258 yX12_wrong ∈ lw_tbl := in5 (List.mem_of_getElem? (i := 184) (by decide +kernel))
theorem kX12_284 : Cond.methodLink RX12 284 yX12_readE ∈ lw_tbl := in5 (List.mem_of_getElem? (i := 188) (by decide +kernel))
theorem kX12_233 : Cond.methodLink RX12 233 yX12_isOpen ∈ lw_tbl := in5 (List.mem_of_getElem? (i := 192) (by decide +kernel))
theorem kX12_237 : Cond.methodLink RX12 237 yX12_sign ∈ lw_tbl := in5 (List.mem_of_getElem? (i := 196) (by decide +kernel))
theorem kX12_245 : Cond.methodLink RX12 245 yX12_settle ∈ lw_tbl := in5 (List.mem_of_getElem? (i := 200) (by decide +kernel))
theorem kX12_229 : Cond.methodLink RX12 229 yX12_step ∈ lw_tbl := in5 (List.mem_of_getElem? (i := 204) (by decide +kernel))
theorem kX12_270 : Cond.methodLink RX12 270 yX12_hold ∈ lw_tbl := in5 (List.mem_of_getElem? (i := 208) (by decide +kernel))
theorem ccX12_254 : Cond.constantLong RX12 254 (6385252) ∈ lw_tbl := in5 (List.mem_of_getElem? (i := 212) (by decide +kernel))
theorem ccX12_252 : Cond.constantLong RX12 252 (28530) ∈ lw_tbl := in5 (List.mem_of_getElem? (i := 213) (by decide +kernel))
theorem kX12_277 : Cond.methodLink RX12 277 yX12_settleOnes ∈ lw_tbl := in5 (List.mem_of_getElem? (i := 214) (by decide +kernel))
theorem kX12_241 : Cond.methodLink RX12 241 yX12_operand ∈ lw_tbl := in5 (List.mem_of_getElem? (i := 218) (by decide +kernel))
theorem ccX12_256 : Cond.constantLong RX12 256 (7237492) ∈ lw_tbl := in5 (List.mem_of_getElem? (i := 222) (by decide +kernel))
theorem kX12_261 : Cond.methodLink RX12 261 yX12_named ∈ lw_tbl := in5 (List.mem_of_getElem? (i := 223) (by decide +kernel))
theorem ccX12_192 : Cond.constantLong RX12 192 (448546370405) ∈ lw_tbl := in5 (List.mem_of_getElem? (i := 227) (by decide +kernel))
theorem ccX12_194 : Cond.constantLong RX12 194 (1802071652) ∈ lw_tbl := in5 (List.mem_of_getElem? (i := 228) (by decide +kernel))
theorem ccX12_196 : Cond.constantLong RX12 196 (6383461) ∈ lw_tbl := in5 (List.mem_of_getElem? (i := 229) (by decide +kernel))
theorem ccX12_198 : Cond.constantLong RX12 198 (1684109683) ∈ lw_tbl := in5 (List.mem_of_getElem? (i := 230) (by decide +kernel))
theorem ccX12_200 : Cond.constantLong RX12 200 (1818324325) ∈ lw_tbl := in5 (List.mem_of_getElem? (i := 231) (by decide +kernel))
theorem ccX12_202 : Cond.constantLong RX12 202 (439854918756) ∈ lw_tbl := in5 (List.mem_of_getElem? (i := 232) (by decide +kernel))
theorem ccX12_204 : Cond.constantLong RX12 204 (7824756) ∈ lw_tbl := in5 (List.mem_of_getElem? (i := 233) (by decide +kernel))
theorem ccX12_206 : Cond.constantLong RX12 206 (1752135026) ∈ lw_tbl := in5 (List.mem_of_getElem? (i := 234) (by decide +kernel))
theorem ccX12_208 : Cond.constantLong RX12 208 (114827870823730) ∈ lw_tbl := in5 (List.mem_of_getElem? (i := 235) (by decide +kernel))
theorem ccX12_210 : Cond.constantLong RX12 210 (461330342962) ∈ lw_tbl := in5 (List.mem_of_getElem? (i := 236) (by decide +kernel))
theorem ccX12_212 : Cond.constantLong RX12 212 (1634166066) ∈ lw_tbl := in5 (List.mem_of_getElem? (i := 237) (by decide +kernel))
theorem ccX12_214 : Cond.constantLong RX12 214 (431132078898) ∈ lw_tbl := in5 (List.mem_of_getElem? (i := 238) (by decide +kernel))
theorem ccX12_216 : Cond.constantLong RX12 216 (465491027250) ∈ lw_tbl := in5 (List.mem_of_getElem? (i := 239) (by decide +kernel))
theorem ccX12_218 : Cond.constantLong RX12 218 (1734440037) ∈ lw_tbl := in6 (List.mem_of_getElem? (i := 0) (by decide +kernel))
theorem kL_56 : Cond.methodLink RL 56 yX12_fault ∈ lw_tbl := in6 (List.mem_of_getElem? (i := 1) (by decide +kernel))
theorem kL_60 : Cond.methodLink RL 60 yX12_may ∈ lw_tbl := in6 (List.mem_of_getElem? (i := 5) (by decide +kernel))
theorem kX12_293 : Cond.methodLink RX12 293 yX12_tell ∈ lw_tbl := in6 (List.mem_of_getElem? (i := 9) (by decide +kernel))
theorem kX12_296 : Cond.methodLink RX12 296 yX12_hold_ ∈ lw_tbl := in6 (List.mem_of_getElem? (i := 13) (by decide +kernel))
theorem kX12_290 : Cond.methodLink RX12 290 yX12_holds ∈ lw_tbl := in6 (List.mem_of_getElem? (i := 17) (by decide +kernel))
theorem kL_65 : Cond.methodLink RL 65 yX12_meet ∈ lw_tbl := in6 (List.mem_of_getElem? (i := 21) (by decide +kernel))
theorem kX12_299 : Cond.methodLink RX12 299 yX12_meetsFrom ∈ lw_tbl := in6 (List.mem_of_getElem? (i := 25) (by decide +kernel))
theorem kL_69 : Cond.methodLink RL 69 yX12_plan ∈ lw_tbl := in6 (List.mem_of_getElem? (i := 29) (by decide +kernel))
theorem kX12_303 : Cond.methodLink RX12 303 yX12_nextOf ∈ lw_tbl := in6 (List.mem_of_getElem? (i := 33) (by decide +kernel))
theorem kX12_309 : Cond.methodLink RX12 309 yX12_lastOf ∈ lw_tbl := in6 (List.mem_of_getElem? (i := 37) (by decide +kernel))
theorem kX12_312 : Cond.methodLink RX12 312 yX12_fits ∈ lw_tbl := in6 (List.mem_of_getElem? (i := 41) (by decide +kernel))
theorem kX12_316 : Cond.methodLink RX12 316 yX12_may ∈ lw_tbl := in6 (List.mem_of_getElem? (i := 45) (by decide +kernel))
theorem kX12_320 : Cond.methodLink RX12 320 yX12_meet ∈ lw_tbl := in6 (List.mem_of_getElem? (i := 46) (by decide +kernel))
theorem kL_73 : Cond.methodLink RL 73 yX12_tries ∈ lw_tbl := in6 (List.mem_of_getElem? (i := 47) (by decide +kernel))
theorem kL_77 : Cond.methodLink RL 77 yX12_out ∈ lw_tbl := in6 (List.mem_of_getElem? (i := 51) (by decide +kernel))
theorem kL_81 : Cond.methodLink RL 81 yX12_stuck ∈ lw_tbl := in6 (List.mem_of_getElem? (i := 55) (by decide +kernel))
theorem kL_86 : Cond.methodLink RL 86 yX12_lot ∈ lw_tbl := in6 (List.mem_of_getElem? (i := 59) (by decide +kernel))
theorem kX12_324 : Cond.methodLink RX12 324 yX12_isBin ∈ lw_tbl := in6 (List.mem_of_getElem? (i := 63) (by decide +kernel))
theorem kL_90 : Cond.methodLink RL 90 yX12_takes ∈ lw_tbl := in6 (List.mem_of_getElem? (i := 66) (by decide +kernel))
theorem kL_94 : Cond.methodLink RL 94 yX12_price ∈ lw_tbl := in6 (List.mem_of_getElem? (i := 70) (by decide +kernel))
theorem kL_98 : Cond.methodLink RL 98 yX12_falls ∈ lw_tbl := in6 (List.mem_of_getElem? (i := 74) (by decide +kernel))
theorem kL_102 : Cond.methodLink RL 102 yX12_night ∈ lw_tbl := in6 (List.mem_of_getElem? (i := 78) (by decide +kernel))
theorem kX12_327 : Cond.methodLink RX12 327 yX12_firstGoes ∈ lw_tbl := in6 (List.mem_of_getElem? (i := 82) (by decide +kernel))
theorem kX12_333 : Cond.methodLink RX12 333 yX12_serve ∈ lw_tbl := in6 (List.mem_of_getElem? (i := 86) (by decide +kernel))
theorem kL_106 : Cond.methodLink RL 106 yX12_bin ∈ lw_tbl := in6 (List.mem_of_getElem? (i := 90) (by decide +kernel))
theorem kL_110 : Cond.methodLink RL 110 yX12_foretold ∈ lw_tbl := in6 (List.mem_of_getElem? (i := 94) (by decide +kernel))
theorem kL_114 : Cond.methodLink RL 114 yX12_work ∈ lw_tbl := in6 (List.mem_of_getElem? (i := 98) (by decide +kernel))
theorem kL_118 : Cond.methodLink RL 118 yX12_due ∈ lw_tbl := in6 (List.mem_of_getElem? (i := 102) (by decide +kernel))
theorem kL_123 : Cond.methodLink RL 123 yX12_bill ∈ lw_tbl := in6 (List.mem_of_getElem? (i := 106) (by decide +kernel))
theorem kL_127 : Cond.methodLink RL 127 yX12_lacked ∈ lw_tbl := in6 (List.mem_of_getElem? (i := 110) (by decide +kernel))
theorem kL_131 : Cond.methodLink RL 131 yX12_about ∈ lw_tbl := in6 (List.mem_of_getElem? (i := 114) (by decide +kernel))
theorem obj1 : Cond.instanceMethod Lib.objectInit ∈ lw_tbl := in1 (List.mem_of_getElem? (i := 27) (by decide +kernel))
theorem obj2 : Cond.code Lib.objectInit ⟨#[0xb1]⟩ 1 none ∈ lw_tbl := in1 (List.mem_of_getElem? (i := 28) (by decide +kernel))
theorem arr_int : Cond.arrayClass .int ∈ lw_tbl := in1 (List.mem_of_getElem? (i := 57) (by decide +kernel))
theorem arr_boolean : Cond.arrayClass .boolean ∈ lw_tbl := in1 (List.mem_of_getElem? (i := 58) (by decide +kernel))

section JS
variable {Ro : ROs} {d bc bs bc2 bs2 : Nat} {md mc : MD} {pc n idx : Nat} {ls : List (Option Value)} {st rest As : List Value} {h : PH} {Φ : Option Int32 → PH → Prop}
theorem adF_x {z : Nat} {b : Nat → Nat} (i : Nat) : adF z b (jBig + i) = b (jBig + i) := if_neg (Nat.not_lt.mpr (Nat.le_add_right _ _))
theorem J_pop {v : Value} (hd : decode md.2.1 pc = .ok (.pop, 1)) (hv : v.category = 1) (k : J Ro d bc bs md (pc + 1) ls st h Φ) : J Ro d bc bs md pc ls (v :: st) h Φ := by
  intro p l e R s m args below meth c H locs cells slots mc ms Q z b dC dI dA las hC hB hK hW hL hR
  exact lv_pop hC.1 hC.2.1 hd (by rw [cv_cat]; exact hv) (k p l e R s m args below meth c H locs cells slots mc ms Q z b dC dI dA las hC hB hK hW hL hR)
theorem J_i2c {x v : Int32} (hd : decode md.2.1 pc = .ok (.i2c, 1)) (hv : (x.toUInt32 % 65536).toInt32 = v) (k : J Ro d bc bs md (pc + 1) ls (.int v :: st) h Φ) : J Ro d bc bs md pc ls (.int x :: st) h Φ := by
  intro p l e R s m args below meth c H locs cells slots mc ms Q z b dC dI dA las hC hB hK hW hL hR
  exact lv_i2c hC.1 hC.2.1 hd hv (k p l e R s m args below meth c H locs cells slots mc ms Q z b dC dI dA las hC hB hK hW hL hR)
theorem J_ldcS (hd : decode md.2.1 pc = .ok (.ldc 70, 2)) (ho : md.1.cls = "LiveryYard$Tokens") (k : J Ro d bc bs md (pc + 2) ls (.ref (jBig + 1) :: st) h Φ) : J Ro d bc bs md pc ls st h Φ := by
  intro p l e R s m args below meth c H locs cells slots mc ms Q z b dC dI dA las hC hB hK hW hL hR
  have k2 := k p l e R s m args below meth c H locs cells slots mc ms Q z b dC dI dA las hC hB hK hW hL hR
  refine va_ldcS hC.1 hC.2.1 (own := "LiveryYard$Tokens") (by rw [← ho]; exact hC.2.2.2.2.1) hK.2.1.2.1 hd ?_
  rw [← adF_x (z := z) (b := b) 1]
  exact k2
theorem J_getV (hd : decode md.2.1 pc = .ok (.getfield idx, 3)) (hl : Cond.fieldLink md.1.cls idx "java/lang/String" "value" "[B" ∈ lw_tbl) (k : J Ro d bc bs md (pc + 3) ls (.ref (jBig + 2) :: st) h Φ) : J Ro d bc bs md pc ls (.ref (jBig + 1) :: st) h Φ := by
  intro p l e R s m args below meth c H locs cells slots mc ms Q z b dC dI dA las hC hB hK hW hL hR
  have k2 := k p l e R s m args below meth c H locs cells slots mc ms Q z b dC dI dA las hC hB hK hW hL hR
  show W p l e R s m args below meth c H locs cells slots Q (F0 m pc las (.ref (adF z b (jBig + 1)) :: st.map (cv (adF z b))))
  rw [adF_x]
  refine vk_getf hC.1 hC.2.1 hK.2.1.2.2.2.2.1 hW.2.2.2 hC.2.2.2.2.1 (hC.2.2.2.2.2.2.2.1.use hl rfl args) (fun _ q => q) hd ?_
  rw [← adF_x (z := z) (b := b) 2]
  exact k2
theorem J_getC (hd : decode md.2.1 pc = .ok (.getfield idx, 3)) (hl : Cond.fieldLink md.1.cls idx "java/lang/String" "coder" "B" ∈ lw_tbl) (k : J Ro d bc bs md (pc + 3) ls (.int 0 :: st) h Φ) : J Ro d bc bs md pc ls (.ref (jBig + 1) :: st) h Φ := by
  intro p l e R s m args below meth c H locs cells slots mc ms Q z b dC dI dA las hC hB hK hW hL hR
  have k2 := k p l e R s m args below meth c H locs cells slots mc ms Q z b dC dI dA las hC hB hK hW hL hR
  show W p l e R s m args below meth c H locs cells slots Q (F0 m pc las (.ref (adF z b (jBig + 1)) :: st.map (cv (adF z b))))
  rw [adF_x]
  exact vk_getf hC.1 hC.2.1 hK.2.1.2.2.2.1 hW.2.2.2 hC.2.2.2.2.1 (hC.2.2.2.2.2.2.2.1.use hl rfl args) (fun _ q => q) hd k2
theorem J_cmp1 (hd : decode md.2.1 pc = .ok (.getstatic idx, 3)) (hl : Cond.fieldLink md.1.cls idx "java/lang/String" "COMPACT_STRINGS" "Z" ∈ lw_tbl) (k : J Ro d bc bs md (pc + 3) ls (.int 1 :: st) h Φ) : J Ro d bc bs md pc ls st h Φ := by
  intro p l e R s m args below meth c H locs cells slots mc ms Q z b dC dI dA las hC hB hK hW hL hR
  have k2 := k p l e R s m args below meth c H locs cells slots mc ms Q z b dC dI dA las hC hB hK hW hL hR
  exact va_gets hC.1 hC.2.1 hK.2.1.2.2.2.2.2.2.1 hW.2.2.2 hC.2.2.2.2.1 (hC.2.2.2.2.2.2.2.1.use hl rfl args) (fun _ q => q) hd k2
theorem J_frm (hd : decode md.2.1 pc = .ok (.getstatic idx, 3)) (hl : Cond.fieldLink md.1.cls idx "jdk/internal/util/Preconditions" "SIOOBE_FORMATTER" "Ljava/util/function/BiFunction;" ∈ lw_tbl) (k1 : J Ro d bc bs md (pc + 3) ls (.null :: st) h Φ) (k2 : J Ro d bc bs md (pc + 3) ls (.ref (jBig + 3) :: st) h Φ) : J Ro d bc bs md pc ls st h Φ := by
  intro p l e R s m args below meth c H locs cells slots mc ms Q z b dC dI dA las hC hB hK hW hL hR
  rcases hK.2.1.2.2.2.2.2.2.2 with hz | hz
  · have k3 := k1 p l e R s m args below meth c H locs cells slots mc ms Q z b dC dI dA las hC hB hK hW hL hR
    exact va_gets hC.1 hC.2.1 hz hW.2.2.2 hC.2.2.2.2.1 (hC.2.2.2.2.2.2.2.1.use hl rfl args) (fun _ q => q) hd k3
  · have k3 := k2 p l e R s m args below meth c H locs cells slots mc ms Q z b dC dI dA las hC hB hK hW hL hR
    refine va_gets hC.1 hC.2.1 hz hW.2.2.2 hC.2.2.2.2.1 (hC.2.2.2.2.2.2.2.1.use hl rfl args) (fun _ q => q) hd ?_
    rw [← adF_x (z := z) (b := b) 3]
    exact k3
theorem J_blen (hd : decode md.2.1 pc = .ok (.arraylength, 1)) (k : J Ro d bc bs md (pc + 1) ls (.int 152 :: st) h Φ) : J Ro d bc bs md pc ls (.ref (jBig + 2) :: st) h Φ := by
  intro p l e R s m args below meth c H locs cells slots mc ms Q z b dC dI dA las hC hB hK hW hL hR
  have k2 := k p l e R s m args below meth c H locs cells slots mc ms Q z b dC dI dA las hC hB hK hW hL hR
  show W p l e R s m args below meth c H locs cells slots Q (F0 m pc las (.ref (adF z b (jBig + 2)) :: st.map (cv (adF z b))))
  rw [adF_x]
  exact va_tlen hC.1 hC.2.1 hK.2.1.2.2.2.2.2.1 hW.2.2.2 (v := 152) (by decide) hd k2
theorem J_bald {i : Int32} (hd : decode md.2.1 pc = .ok (.baload, 1)) (hin : vp_in i 152) (k : J Ro d bc bs md (pc + 1) ls (.int (wBy.getD i.toNatClampNeg 0) :: st) h Φ) : J Ro d bc bs md pc ls (.int i :: .ref (jBig + 2) :: st) h Φ := by
  intro p l e R s m args below meth c H locs cells slots mc ms Q z b dC dI dA las hC hB hK hW hL hR
  have k2 := k p l e R s m args below meth c H locs cells slots mc ms Q z b dC dI dA las hC hB hK hW hL hR
  show W p l e R s m args below meth c H locs cells slots Q (F0 m pc las (.int i :: .ref (adF z b (jBig + 2)) :: st.map (cv (adF z b))))
  rw [adF_x]
  exact va_tb hC.1 hC.2.1 hK.2.1.2.2.2.2.2.1 hW.2.2.2 hin rfl hd k2
theorem J_callVS (hd : decode md.2.1 pc = .ok (.invokevirtual idx, 3)) (hl : Cond.methodLink md.1.cls idx mc.1 ∈ lw_tbl) (ho : MOKv mc n) (hs : mc.1.cls = "java/lang/String") (hn : As.length = n) (hlen : (entL (.ref (jBig + 1) :: As)).length ≤ mc.2.2.1) (hr : (rest.map fun v => v.category).sum ≤ 8)
    (hJ : J noRo d bc bs mc 0 (entL (.ref (jBig + 1) :: As)) [] h (fun r g => J Ro (d + 1) bc2 bs2 md (pc + 3) ls (pushR r rest) g Φ)) : J Ro (d + 1) (bc + bc2) (bs + bs2) md pc ls (As.reverse ++ .ref (jBig + 1) :: rest) h Φ := by
  intro p l e R s m args below meth c H locs cells slots mx ms Q z b dC dI dA las hC hB hK hW hL hR
  have hT := hC.2.2.2.2.2.2.2.1
  rw [jst]
  have hp := jpre (as := .ref (jBig + 1) :: As) hT hK hW
  have hrv : ∃ cell : Cell, H[adF z b (jBig + 1)]? = some cell ∧ cell.vm.isStatics = false ∧ s.vm.findClass mc.1.cls = some cell.cls := by
    rw [adF_x, hs]
    exact va_Orecv hK.2.1.2.2.1 hW.2.2.2
  refine jfin (va_runV (C := mc.1.cls) (b := adF z b (jBig + 1)) (As := As.map (cv (adF z b))) (Ts := []) (nL := md.2.2.1) (n := n) ⟨hC.1, hC.2.1, hC.2.2.2.1, hC.2.2.2.2.1, fun w q => by cases q⟩ (met_of_J ho.1.2.2.1 hlen hJ l z b dC dI dA) ⟨jcb ho.1 hl hT hC.2.2.2.2.2.2.2.2, hT.use ho.2.1 rfl args, hT.use ho.2.2 rfl args⟩ ⟨hp.1, hrv, hp.2⟩ rfl (by rw [List.length_map]; exact hn) hL.1 rfl (jrest hr) hd ⟨by omega, by omega⟩) hC hB hK hW.2.2.2 hL hR
end JS
abbrev mJ_length : MD := (yJ0_length_8abf5, cJ0_length_8abf5, 1, some .int)
abbrev mJ_coder : MD := (yJ0_coder_7d493, cJ0_coder_7d493, 1, some .byte)
abbrev mJ_charAt : MD := (yJ0_charAt_5068e, cJ0_charAt_5068e, 2, some .char)
abbrev mJ_isLatin1 : MD := (yJ0_isLatin1_aae02, cJ0_isLatin1_aae02, 1, some .boolean)
abbrev mJ_charAtL : MD := (yJ1_charAt_3b067, cJ1_charAt_3b067, 2, some .char)
abbrev mJ_checkIndex : MD := (yJ0_checkIndex_df160, cJ0_checkIndex_df160, 2, none)
abbrev mJ_checkP : MD := (yJ3_checkIndex_8e157, cJ3_checkIndex_8e157, 3, some .int)
theorem iJ0 : Cond.initialized "java/lang/String" ∈ lw_tbl := in1 (List.mem_of_getElem? (i := 14) (by decide +kernel))
theorem iJ1 : Cond.initialized "java/lang/StringLatin1" ∈ lw_tbl := in1 (List.mem_of_getElem? (i := 15) (by decide +kernel))
theorem iJ3 : Cond.initialized "jdk/internal/util/Preconditions" ∈ lw_tbl := in1 (List.mem_of_getElem? (i := 16) (by decide +kernel))
theorem oJ_length : MOKv mJ_length 0 := ⟨⟨in2 (List.mem_of_getElem? (i := 214) rfl), iJ0, by decide +kernel, by decide +kernel, by decide +kernel, by decide⟩, in2 (List.mem_of_getElem? (i := 212) (by decide +kernel)), in2 (List.mem_of_getElem? (i := 213) (by decide +kernel))⟩
theorem oJ_coder : MOKv mJ_coder 0 := ⟨⟨in2 (List.mem_of_getElem? (i := 218) rfl), iJ0, by decide +kernel, by decide +kernel, by decide +kernel, by decide⟩, in2 (List.mem_of_getElem? (i := 216) (by decide +kernel)), in2 (List.mem_of_getElem? (i := 217) (by decide +kernel))⟩
theorem oJ_charAt : MOKv mJ_charAt 1 := ⟨⟨in2 (List.mem_of_getElem? (i := 224) rfl), iJ0, by decide +kernel, by decide +kernel, by decide +kernel, by decide⟩, in2 (List.mem_of_getElem? (i := 222) (by decide +kernel)), in2 (List.mem_of_getElem? (i := 223) (by decide +kernel))⟩
theorem oJ_isLatin1 : MOKv mJ_isLatin1 0 := ⟨⟨in2 (List.mem_of_getElem? (i := 228) rfl), iJ0, by decide +kernel, by decide +kernel, by decide +kernel, by decide⟩, in2 (List.mem_of_getElem? (i := 226) (by decide +kernel)), in2 (List.mem_of_getElem? (i := 227) (by decide +kernel))⟩
theorem oJ_charAtL : MOKs mJ_charAtL 2 := ⟨⟨in2 (List.mem_of_getElem? (i := 231) rfl), iJ1, by decide +kernel, by decide +kernel, by decide +kernel, by decide⟩, in2 (List.mem_of_getElem? (i := 230) (by decide +kernel))⟩
theorem oJ_checkIndex : MOKs mJ_checkIndex 2 := ⟨⟨in2 (List.mem_of_getElem? (i := 234) rfl), iJ0, by decide +kernel, by decide +kernel, by decide +kernel, by decide⟩, in2 (List.mem_of_getElem? (i := 233) (by decide +kernel))⟩
theorem oJ_checkP : MOKs mJ_checkP 3 := ⟨⟨in2 (List.mem_of_getElem? (i := 239) rfl), iJ3, by decide +kernel, by decide +kernel, by decide +kernel, by decide⟩, in2 (List.mem_of_getElem? (i := 238) (by decide +kernel))⟩
theorem kJ_length : Cond.methodLink RX9 72 yJ0_length_8abf5 ∈ lw_tbl := in2 (List.mem_of_getElem? (i := 211) (by decide +kernel))
theorem kJ_coder : Cond.methodLink RJ0 335 yJ0_coder_7d493 ∈ lw_tbl := in2 (List.mem_of_getElem? (i := 215) (by decide +kernel))
theorem kJ_charAt : Cond.methodLink RX9 75 yJ0_charAt_5068e ∈ lw_tbl := in2 (List.mem_of_getElem? (i := 221) (by decide +kernel))
theorem kJ_isLatin1 : Cond.methodLink RJ0 492 yJ0_isLatin1_aae02 ∈ lw_tbl := in2 (List.mem_of_getElem? (i := 225) (by decide +kernel))
theorem kJ_charAtL : Cond.methodLink RJ0 495 yJ1_charAt_3b067 ∈ lw_tbl := in2 (List.mem_of_getElem? (i := 229) (by decide +kernel))
theorem kJ_checkIndex : Cond.methodLink RJ1 9 yJ0_checkIndex_df160 ∈ lw_tbl := in2 (List.mem_of_getElem? (i := 232) (by decide +kernel))
theorem kJ_checkP : Cond.methodLink RJ0 1059 yJ3_checkIndex_8e157 ∈ lw_tbl := in2 (List.mem_of_getElem? (i := 237) (by decide +kernel))
theorem fJ_cmp : Cond.fieldLink RJ0 38 "java/lang/String" "COMPACT_STRINGS" "Z" ∈ lw_tbl := in2 (List.mem_of_getElem? (i := 219) (by decide +kernel))
theorem fJ_frm : Cond.fieldLink RJ0 1053 "jdk/internal/util/Preconditions" "SIOOBE_FORMATTER" "Ljava/util/function/BiFunction;" ∈ lw_tbl := in2 (List.mem_of_getElem? (i := 235) (by decide +kernel))
theorem fJ_val : Cond.fieldLink RJ0 9 "java/lang/String" "value" "[B" ∈ lw_tbl := in6 (List.mem_of_getElem? (i := 118) (by decide +kernel))
theorem fJ_cod : Cond.fieldLink RJ0 15 "java/lang/String" "coder" "B" ∈ lw_tbl := in6 (List.mem_of_getElem? (i := 119) (by decide +kernel))
section JT
variable {d : Nat} {h : PH} {Φ : Option Int32 → PH → Prop}
theorem tJ_coder (k : Φ (some 0) h) : J noRo (d + 1) 0 0 mJ_coder 0 [some (.ref (jBig + 1))] [] h Φ := by
  refine J_cmp1 dJ0_coder_7d493_0 fJ_cmp ?_
  refine J_if_eq (tgt := 13) dJ0_coder_7d493_3 (by decide) (fun c => absurd c (by decide)) (fun _ => ?_)
  refine J_aload_n dJ0_coder_7d493_6 rfl ?_
  refine J_getC dJ0_coder_7d493_7 fJ_cod ?_
  refine J_goto (tgt := 14) dJ0_coder_7d493_10 (by decide) ?_
  exact J_iret dJ0_coder_7d493_14 rfl rfl k
theorem tJ_isLatin1 (k : Φ (some 1) h) : J noRo (d + 1) 0 0 mJ_isLatin1 0 [some (.ref (jBig + 1))] [] h Φ := by
  refine J_cmp1 dJ0_isLatin1_aae02_0 fJ_cmp ?_
  refine J_if_eq (tgt := 17) dJ0_isLatin1_aae02_3 (by decide) (fun c => absurd c (by decide)) (fun _ => ?_)
  refine J_aload_n dJ0_isLatin1_aae02_6 rfl ?_
  refine J_getC dJ0_isLatin1_aae02_7 fJ_cod ?_
  refine J_if_ne (tgt := 17) dJ0_isLatin1_aae02_10 (by decide) (fun c => absurd rfl c) (fun _ => ?_)
  refine J_iconst (v := 1) dJ0_isLatin1_aae02_13 (by decide) ?_
  refine J_goto (tgt := 18) dJ0_isLatin1_aae02_14 (by decide) ?_
  exact J_iret dJ0_isLatin1_aae02_18 rfl rfl k
theorem tJ_length (k : Φ (some 152) h) : J noRo (d + 2) 0 0 mJ_length 0 [some (.ref (jBig + 1))] [] h Φ := by
  refine J_aload_n dJ0_length_8abf5_0 rfl ?_
  refine J_getV dJ0_length_8abf5_1 fJ_val ?_
  refine J_blen dJ0_length_8abf5_4 ?_
  refine J_aload_n dJ0_length_8abf5_5 rfl ?_
  refine J_callVS (As := []) (rest := [.int 152]) (n := 0) (bc := 0) (bs := 0) (bc2 := 0) (bs2 := 0) (d := d + 1) (mc := mJ_coder) dJ0_length_8abf5_6 kJ_coder oJ_coder rfl rfl (Nat.le_of_ble_eq_true rfl) (Nat.le_of_ble_eq_true rfl) ?_
  refine tJ_coder ?_
  refine J_ishr dJ0_length_8abf5_9 ?_
  exact J_iret dJ0_length_8abf5_10 rfl rfl k
theorem tJ_checkP {v : Value} {i : Nat} (hi : i < 152) (k : Φ (some (nI i)) h) : J noRo (d + 1) 0 0 mJ_checkP 0 [some (.int (nI i)), some (.int 152), some v] [] h Φ := by
  refine J_iload_n dJ3_checkIndex_8e157_0 rfl ?_
  refine J_if_lt (tgt := 9) dJ3_checkIndex_8e157_1 (by decide) (fun c => absurd c (nI_pos (by omega))) (fun _ => ?_)
  refine J_iload_n dJ3_checkIndex_8e157_4 rfl ?_
  refine J_iload_n dJ3_checkIndex_8e157_5 rfl ?_
  refine J_icmp_lt (tgt := 16) dJ3_checkIndex_8e157_6 (by decide) (fun _ => ?_) (fun c => absurd (nI_lt (a := i) (b := 152) hi (by omega)) c)
  refine J_iload_n dJ3_checkIndex_8e157_16 rfl ?_
  exact J_iret dJ3_checkIndex_8e157_17 rfl rfl k
theorem tJ_checkIndex {i : Nat} (hi : i < 152) (k : Φ none h) : J noRo (d + 2) 0 0 mJ_checkIndex 0 [some (.int (nI i)), some (.int 152)] [] h Φ := by
  refine J_iload_n dJ0_checkIndex_df160_0 rfl ?_
  refine J_iload_n dJ0_checkIndex_df160_1 rfl ?_
  refine J_frm dJ0_checkIndex_df160_2 fJ_frm ?_ ?_
  · refine J_callS (As := [.int (nI i), .int 152, .null]) (rest := []) (n := 3) (bc := 0) (bs := 0) (bc2 := 0) (bs2 := 0) (d := d + 1) (mc := mJ_checkP) dJ0_checkIndex_df160_5 kJ_checkP oJ_checkP rfl (Nat.le_of_ble_eq_true rfl) (Nat.le_of_ble_eq_true rfl) ?_
    refine tJ_checkP hi ?_
    refine J_pop dJ0_checkIndex_df160_8 rfl ?_
    exact J_vret dJ0_checkIndex_df160_9 rfl k
  · refine J_callS (As := [.int (nI i), .int 152, .ref (jBig + 3)]) (rest := []) (n := 3) (bc := 0) (bs := 0) (bc2 := 0) (bs2 := 0) (d := d + 1) (mc := mJ_checkP) dJ0_checkIndex_df160_5 kJ_checkP oJ_checkP rfl (Nat.le_of_ble_eq_true rfl) (Nat.le_of_ble_eq_true rfl) ?_
    refine tJ_checkP hi ?_
    refine J_pop dJ0_checkIndex_df160_8 rfl ?_
    exact J_vret dJ0_checkIndex_df160_9 rfl k
theorem tJ_charAtL {i : Nat} (hi : i < 152) (k : Φ (some (wBy.getD i 0 &&& 255)) h) : J noRo (d + 3) 0 0 mJ_charAtL 0 [some (.ref (jBig + 2)), some (.int (nI i))] [] h Φ := by
  refine J_iload_n dJ1_charAt_3b067_0 rfl ?_
  refine J_aload_n dJ1_charAt_3b067_1 rfl ?_
  refine J_blen dJ1_charAt_3b067_2 ?_
  refine J_callS (As := [.int (nI i), .int 152]) (rest := []) (n := 2) (bc := 0) (bs := 0) (bc2 := 0) (bs2 := 0) (d := d + 2) (mc := mJ_checkIndex) dJ1_charAt_3b067_3 kJ_checkIndex oJ_checkIndex rfl (Nat.le_of_ble_eq_true rfl) (Nat.le_of_ble_eq_true rfl) ?_
  refine tJ_checkIndex hi ?_
  refine J_aload_n dJ1_charAt_3b067_6 rfl ?_
  refine J_iload_n dJ1_charAt_3b067_7 rfl ?_
  refine J_bald dJ1_charAt_3b067_8 (vp_in_nI hi (by omega)) ?_
  rw [nI_clamp (by omega)]
  refine J_sipush (v := 255) dJ1_charAt_3b067_9 (by decide) ?_
  refine J_iand dJ1_charAt_3b067_12 ?_
  refine J_i2c dJ1_charAt_3b067_13 (sc_c2 _) ?_
  exact J_iret dJ1_charAt_3b067_14 rfl (sc_nar _) k
theorem tJ_charAt {i : Nat} (hi : i < 152) (k : Φ (some (wBy.getD i 0 &&& 255)) h) : J noRo (d + 4) 0 0 mJ_charAt 0 [some (.ref (jBig + 1)), some (.int (nI i))] [] h Φ := by
  refine J_aload_n dJ0_charAt_5068e_0 rfl ?_
  refine J_callVS (As := []) (rest := []) (n := 0) (bc := 0) (bs := 0) (bc2 := 0) (bs2 := 0) (d := d + 3) (mc := mJ_isLatin1) dJ0_charAt_5068e_1 kJ_isLatin1 oJ_isLatin1 rfl rfl (Nat.le_of_ble_eq_true rfl) (Nat.le_of_ble_eq_true rfl) ?_
  refine tJ_isLatin1 ?_
  refine J_if_eq (tgt := 16) dJ0_charAt_5068e_4 (by decide) (fun c => absurd c (by decide)) (fun _ => ?_)
  refine J_aload_n dJ0_charAt_5068e_7 rfl ?_
  refine J_getV dJ0_charAt_5068e_8 fJ_val ?_
  refine J_iload_n dJ0_charAt_5068e_11 rfl ?_
  refine J_callS (As := [.ref (jBig + 2), .int (nI i)]) (rest := []) (n := 2) (bc := 0) (bs := 0) (bc2 := 0) (bs2 := 0) (d := d + 3) (mc := mJ_charAtL) dJ0_charAt_5068e_12 kJ_charAtL oJ_charAtL rfl (Nat.le_of_ble_eq_true rfl) (Nat.le_of_ble_eq_true rfl) ?_
  refine tJ_charAtL hi ?_
  exact J_iret dJ0_charAt_5068e_15 rfl (sc_nar _) k
/-- the letters of the words, out of the text of the constant -/
theorem tJ_letterOf {w i : Nat} (hw : w < 19) (hi : i < 8) (k : Φ (some (wBy.getD (w * 8 + i) 0 &&& 255)) h) : J noRo (d + 6) 0 0 mX9_letterOf 0 [some (.int (nI w)), some (.int (nI i))] [] h Φ := by
  have hx : w * 8 + i < 152 := by omega
  refine J_iload_n dX9_letterOf_0 rfl ?_
  refine J_bipush (v := 8) dX9_letterOf_1 (by decide) ?_
  refine J_imul dX9_letterOf_3 ?_
  refine J_iload_n dX9_letterOf_4 rfl ?_
  refine J_iadd dX9_letterOf_5 ?_
  rw [show nI w * 8 + nI i = nI (w * 8 + i) by rw [← nI_add, show nI (w * 8) = nI w * 8 from Int32.ofNat_mul w 8]]
  refine J_istore_n dX9_letterOf_6 (Nat.le_of_ble_eq_true rfl) rfl ?_
  refine J_iload_n dX9_letterOf_7 rfl ?_
  refine J_ldcS dX9_letterOf_8 rfl ?_
  refine J_callVS (As := []) (rest := [.int (nI (w * 8 + i))]) (n := 0) (bc := 0) (bs := 0) (bc2 := 0) (bs2 := 0) (d := d + 5) (mc := mJ_length) dX9_letterOf_10 kJ_length oJ_length rfl rfl (Nat.le_of_ble_eq_true rfl) (Nat.le_of_ble_eq_true rfl) ?_
  refine tJ_length (d := d + 3) ?_
  refine J_icmp_ge (tgt := 25) dX9_letterOf_13 (by decide) (fun c => absurd c (nI_ge (a := w * 8 + i) (b := 152) hx (by omega))) (fun _ => ?_)
  refine J_ldcS dX9_letterOf_16 rfl ?_
  refine J_iload_n dX9_letterOf_18 rfl ?_
  refine J_callVS (As := [.int (nI (w * 8 + i))]) (rest := []) (n := 1) (bc := 0) (bs := 0) (bc2 := 0) (bs2 := 0) (d := d + 5) (mc := mJ_charAt) dX9_letterOf_19 kJ_charAt oJ_charAt rfl rfl (Nat.le_of_ble_eq_true rfl) (Nat.le_of_ble_eq_true rfl) ?_
  refine tJ_charAt (d := d + 1) hx ?_
  refine J_goto (tgt := 26) dX9_letterOf_22 (by decide) ?_
  exact J_iret dX9_letterOf_26 rfl rfl k
end JT

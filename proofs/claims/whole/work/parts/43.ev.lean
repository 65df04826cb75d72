/-- the facts of one horse, and of the other -/
def fc1 (b : Nat → Int32) (x0 x1 x2 x3 x4 x5 x6 x7 : Int32) : Nat → Int32 := (upd (upd (upd (upd (upd (upd (upd (upd b 0 x0) 1 x1) 2 x2) 3 x3) 4 x4) 5 x5) 6 x6) 7 x7)
def fc2 (b : Nat → Int32) (x0 x1 x2 x3 x4 : Int32) : Nat → Int32 := (upd (upd (upd (upd (upd b 9 x0) 10 x1) 11 x2) 12 x3) 13 x4)
def fc3 (b : Nat → Int32) (o : Nat) (x0 x1 x2 x3 x4 : Int32) : Nat → Int32 := upd (upd (upd (upd (upd b o x0) (o + 1) x1) (o + 2) x2) (o + 3) x3) (o + 4) x4
def fcV (M : Mem) (j f u o : Nat) (gt : Int32) (c : Nat) : Int32 := match c with | 0 => nI j | 1 => M.1 63 j | 2 => M.1 64 j | 3 => M.1 62 0 - M.1 65 j | 4 => M.1 66 j | 5 => nI f | 6 => M.1 70 f | 7 => nI u | 8 => gt | 9 => nI o | 10 => M.1 63 o | 11 => M.1 64 o | 12 => M.1 62 0 - M.1 65 o | _ => M.1 66 o
set_option maxRecDepth 100000 in
set_option maxHeartbeats 1000000 in
theorem tX2_tell1 {d : Nat} {M : Mem} {Φ : Option Int32 → Mem → Prop} {j f : Nat} {u y : Int32} (hj : j < 12) (hf : f < 6) (h01 : M.1 5 j = 0 ∨ M.1 5 j = 1) (h : Φ none (wa M 28 (fc1 (M.1 28) (nI j) (M.1 2 j) (M.1 3 j) (y - M.1 4 j) (M.1 5 j) (nI f) (M.1 10 f) u))) : JM noRo (d + 1) mX2_tellOfOne 0 [some (.ref 27), some (.int (nI j)), some (.int (nI f)), some (.int u), some (.int y)] [] M Φ := by
  refine J_aload_n dX2_tellOfOne_0 rfl ?_
  refine M_getR dX2_tellOfOne_1 fX2_9 rfl rfl (by decide) ?_
  refine J_iconst (v := 0) dX2_tellOfOne_4 (by decide) ?_
  refine J_iload_n dX2_tellOfOne_5 rfl ?_
  refine M_iastE dX2_tellOfOne_6 rfl (by decide) (show (0 : Int32) = nI 0 from rfl) (by decide) ?_
  rw [wr_wa]
  refine J_aload_n dX2_tellOfOne_7 rfl ?_
  refine M_getR dX2_tellOfOne_8 fX2_9 rfl rfl (by decide) ?_
  refine J_iconst (v := 1) dX2_tellOfOne_11 (by decide) ?_
  refine J_aload_n dX2_tellOfOne_12 rfl ?_
  refine M_getR dX2_tellOfOne_13 fX2_15 rfl rfl (by decide) ?_
  refine J_iload_n dX2_tellOfOne_16 rfl ?_
  refine M_callV1 (mc := mX1_kindOf) dX2_tellOfOne_17 kX2_50 oX1_kindOf (Nat.le_of_ble_eq_true rfl) (Nat.le_of_ble_eq_true rfl) rfl (by decide) rfl ?_
  refine tX1_kindOf hj ?_
  rw [rdb (by decide)]
  refine M_iastE dX2_tellOfOne_20 rfl (by decide) (show (1 : Int32) = nI 1 from rfl) (by decide) ?_
  rw [wa_wr]
  refine J_aload_n dX2_tellOfOne_21 rfl ?_
  refine M_getR dX2_tellOfOne_22 fX2_9 rfl rfl (by decide) ?_
  refine J_iconst (v := 2) dX2_tellOfOne_25 (by decide) ?_
  refine J_aload_n dX2_tellOfOne_26 rfl ?_
  refine M_getR dX2_tellOfOne_27 fX2_15 rfl rfl (by decide) ?_
  refine J_iload_n dX2_tellOfOne_30 rfl ?_
  refine M_callV1 (mc := mX1_ageOf) dX2_tellOfOne_31 kX2_56 oX1_ageOf (Nat.le_of_ble_eq_true rfl) (Nat.le_of_ble_eq_true rfl) rfl (by decide) rfl ?_
  refine tX1_ageOf hj ?_
  rw [rdb (by decide)]
  refine M_iastE dX2_tellOfOne_34 rfl (by decide) (show (2 : Int32) = nI 2 from rfl) (by decide) ?_
  rw [wa_wr]
  refine J_aload_n dX2_tellOfOne_35 rfl ?_
  refine M_getR dX2_tellOfOne_36 fX2_9 rfl rfl (by decide) ?_
  refine J_iconst (v := 3) dX2_tellOfOne_39 (by decide) ?_
  refine J_iload dX2_tellOfOne_40 rfl ?_
  refine J_aload_n dX2_tellOfOne_42 rfl ?_
  refine M_getR dX2_tellOfOne_43 fX2_15 rfl rfl (by decide) ?_
  refine J_iload_n dX2_tellOfOne_46 rfl ?_
  refine M_callV1 (mc := mX1_cameOf) dX2_tellOfOne_47 kX2_59 oX1_cameOf (Nat.le_of_ble_eq_true rfl) (Nat.le_of_ble_eq_true rfl) rfl (by decide) rfl ?_
  refine tX1_cameOf hj ?_
  rw [rdb (by decide)]
  refine J_isub dX2_tellOfOne_50 ?_
  refine M_iastE dX2_tellOfOne_51 rfl (by decide) (show (3 : Int32) = nI 3 from rfl) (by decide) ?_
  rw [wa_wr]
  refine J_aload_n dX2_tellOfOne_52 rfl ?_
  refine M_getR dX2_tellOfOne_53 fX2_9 rfl rfl (by decide) ?_
  refine J_iconst (v := 4) dX2_tellOfOne_56 (by decide) ?_
  refine J_aload_n dX2_tellOfOne_57 rfl ?_
  refine M_getR dX2_tellOfOne_58 fX2_15 rfl rfl (by decide) ?_
  refine J_iload_n dX2_tellOfOne_61 rfl ?_
  refine M_callV1 (mc := mX1_isLame) dX2_tellOfOne_62 kX2_62 oX1_isLame (Nat.le_of_ble_eq_true rfl) (Nat.le_of_ble_eq_true rfl) rfl (by decide) rfl ?_
  refine tX1_isLame hj (by rw [rdb (by decide)]; exact h01) ?_
  rw [rdb (by decide)]
  refine J_if_eq (tgt := 72) dX2_tellOfOne_65 (by decide) (fun c5 => ?_) (fun c5 => ?_)
  · -- to 72
    refine J_iconst (v := 0) dX2_tellOfOne_72 (by decide) ?_
    refine M_iastE dX2_tellOfOne_73 rfl (by decide) (show (4 : Int32) = nI 4 from rfl) (by decide) ?_
    rw [wa_wr]
    refine J_aload_n dX2_tellOfOne_74 rfl ?_
    refine M_getR dX2_tellOfOne_75 fX2_9 rfl rfl (by decide) ?_
    refine J_iconst (v := 5) dX2_tellOfOne_78 (by decide) ?_
    refine J_iload_n dX2_tellOfOne_79 rfl ?_
    refine M_iastE dX2_tellOfOne_80 rfl (by decide) (show (5 : Int32) = nI 5 from rfl) (by decide) ?_
    rw [wa_wr]
    refine J_aload_n dX2_tellOfOne_81 rfl ?_
    refine M_getR dX2_tellOfOne_82 fX2_9 rfl rfl (by decide) ?_
    refine J_bipush (v := 6) dX2_tellOfOne_85 (by decide) ?_
    refine J_aload_n dX2_tellOfOne_87 rfl ?_
    refine M_getR dX2_tellOfOne_88 fX2_19 rfl rfl (by decide) ?_
    refine J_iload_n dX2_tellOfOne_91 rfl ?_
    refine M_callV1 (mc := mX3_wetOf) dX2_tellOfOne_92 kX2_66 oX3_wetOf (Nat.le_of_ble_eq_true rfl) (Nat.le_of_ble_eq_true rfl) rfl (by decide) rfl ?_
    refine tX3_wetOf hf ?_
    rw [rdb (by decide)]
    refine M_iastE dX2_tellOfOne_95 rfl (by decide) (show (6 : Int32) = nI 6 from rfl) (by decide) ?_
    rw [wa_wr]
    refine J_aload_n dX2_tellOfOne_96 rfl ?_
    refine M_getR dX2_tellOfOne_97 fX2_9 rfl rfl (by decide) ?_
    refine J_bipush (v := 7) dX2_tellOfOne_100 (by decide) ?_
    refine J_iload_n dX2_tellOfOne_102 rfl ?_
    refine M_iastE dX2_tellOfOne_103 rfl (by decide) (show (7 : Int32) = nI 7 from rfl) (by decide) ?_
    rw [wa_wr]
    refine M_vret dX2_tellOfOne_104 rfl ?_
    first
    | (rw [c5] at h; exact h)
    | (rw [h01.resolve_left c5] at h; exact h)
  · -- on 68
    refine J_iconst (v := 1) dX2_tellOfOne_68 (by decide) ?_
    refine J_goto (tgt := 73) dX2_tellOfOne_69 (by decide) ?_
    refine M_iastE dX2_tellOfOne_73 rfl (by decide) (show (4 : Int32) = nI 4 from rfl) (by decide) ?_
    rw [wa_wr]
    refine J_aload_n dX2_tellOfOne_74 rfl ?_
    refine M_getR dX2_tellOfOne_75 fX2_9 rfl rfl (by decide) ?_
    refine J_iconst (v := 5) dX2_tellOfOne_78 (by decide) ?_
    refine J_iload_n dX2_tellOfOne_79 rfl ?_
    refine M_iastE dX2_tellOfOne_80 rfl (by decide) (show (5 : Int32) = nI 5 from rfl) (by decide) ?_
    rw [wa_wr]
    refine J_aload_n dX2_tellOfOne_81 rfl ?_
    refine M_getR dX2_tellOfOne_82 fX2_9 rfl rfl (by decide) ?_
    refine J_bipush (v := 6) dX2_tellOfOne_85 (by decide) ?_
    refine J_aload_n dX2_tellOfOne_87 rfl ?_
    refine M_getR dX2_tellOfOne_88 fX2_19 rfl rfl (by decide) ?_
    refine J_iload_n dX2_tellOfOne_91 rfl ?_
    refine M_callV1 (mc := mX3_wetOf) dX2_tellOfOne_92 kX2_66 oX3_wetOf (Nat.le_of_ble_eq_true rfl) (Nat.le_of_ble_eq_true rfl) rfl (by decide) rfl ?_
    refine tX3_wetOf hf ?_
    rw [rdb (by decide)]
    refine M_iastE dX2_tellOfOne_95 rfl (by decide) (show (6 : Int32) = nI 6 from rfl) (by decide) ?_
    rw [wa_wr]
    refine J_aload_n dX2_tellOfOne_96 rfl ?_
    refine M_getR dX2_tellOfOne_97 fX2_9 rfl rfl (by decide) ?_
    refine J_bipush (v := 7) dX2_tellOfOne_100 (by decide) ?_
    refine J_iload_n dX2_tellOfOne_102 rfl ?_
    refine M_iastE dX2_tellOfOne_103 rfl (by decide) (show (7 : Int32) = nI 7 from rfl) (by decide) ?_
    rw [wa_wr]
    refine M_vret dX2_tellOfOne_104 rfl ?_
    first
    | (rw [c5] at h; exact h)
    | (rw [h01.resolve_left c5] at h; exact h)
set_option maxRecDepth 100000 in
set_option maxHeartbeats 1000000 in
theorem tX2_tell2 {d : Nat} {M : Mem} {Φ : Option Int32 → Mem → Prop} {j : Nat} {y : Int32} (hj : j < 12) (h01 : M.1 5 j = 0 ∨ M.1 5 j = 1) (h : Φ none (wa M 28 (fc2 (M.1 28) (nI j) (M.1 2 j) (M.1 3 j) (y - M.1 4 j) (M.1 5 j)))) : JM noRo (d + 1) mX2_tellOfOther 0 [some (.ref 27), some (.int (nI j)), some (.int y)] [] M Φ := by
  refine J_aload_n dX2_tellOfOther_0 rfl ?_
  refine M_getR dX2_tellOfOther_1 fX2_9 rfl rfl (by decide) ?_
  refine J_bipush (v := 9) dX2_tellOfOther_4 (by decide) ?_
  refine J_iload_n dX2_tellOfOther_6 rfl ?_
  refine M_iastE dX2_tellOfOther_7 rfl (by decide) (show (9 : Int32) = nI 9 from rfl) (by decide) ?_
  rw [wr_wa]
  refine J_aload_n dX2_tellOfOther_8 rfl ?_
  refine M_getR dX2_tellOfOther_9 fX2_9 rfl rfl (by decide) ?_
  refine J_bipush (v := 10) dX2_tellOfOther_12 (by decide) ?_
  refine J_aload_n dX2_tellOfOther_14 rfl ?_
  refine M_getR dX2_tellOfOther_15 fX2_15 rfl rfl (by decide) ?_
  refine J_iload_n dX2_tellOfOther_18 rfl ?_
  refine M_callV1 (mc := mX1_kindOf) dX2_tellOfOther_19 kX2_50 oX1_kindOf (Nat.le_of_ble_eq_true rfl) (Nat.le_of_ble_eq_true rfl) rfl (by decide) rfl ?_
  refine tX1_kindOf hj ?_
  rw [rdb (by decide)]
  refine M_iastE dX2_tellOfOther_22 rfl (by decide) (show (10 : Int32) = nI 10 from rfl) (by decide) ?_
  rw [wa_wr]
  refine J_aload_n dX2_tellOfOther_23 rfl ?_
  refine M_getR dX2_tellOfOther_24 fX2_9 rfl rfl (by decide) ?_
  refine J_bipush (v := 11) dX2_tellOfOther_27 (by decide) ?_
  refine J_aload_n dX2_tellOfOther_29 rfl ?_
  refine M_getR dX2_tellOfOther_30 fX2_15 rfl rfl (by decide) ?_
  refine J_iload_n dX2_tellOfOther_33 rfl ?_
  refine M_callV1 (mc := mX1_ageOf) dX2_tellOfOther_34 kX2_56 oX1_ageOf (Nat.le_of_ble_eq_true rfl) (Nat.le_of_ble_eq_true rfl) rfl (by decide) rfl ?_
  refine tX1_ageOf hj ?_
  rw [rdb (by decide)]
  refine M_iastE dX2_tellOfOther_37 rfl (by decide) (show (11 : Int32) = nI 11 from rfl) (by decide) ?_
  rw [wa_wr]
  refine J_aload_n dX2_tellOfOther_38 rfl ?_
  refine M_getR dX2_tellOfOther_39 fX2_9 rfl rfl (by decide) ?_
  refine J_bipush (v := 12) dX2_tellOfOther_42 (by decide) ?_
  refine J_iload_n dX2_tellOfOther_44 rfl ?_
  refine J_aload_n dX2_tellOfOther_45 rfl ?_
  refine M_getR dX2_tellOfOther_46 fX2_15 rfl rfl (by decide) ?_
  refine J_iload_n dX2_tellOfOther_49 rfl ?_
  refine M_callV1 (mc := mX1_cameOf) dX2_tellOfOther_50 kX2_59 oX1_cameOf (Nat.le_of_ble_eq_true rfl) (Nat.le_of_ble_eq_true rfl) rfl (by decide) rfl ?_
  refine tX1_cameOf hj ?_
  rw [rdb (by decide)]
  refine J_isub dX2_tellOfOther_53 ?_
  refine M_iastE dX2_tellOfOther_54 rfl (by decide) (show (12 : Int32) = nI 12 from rfl) (by decide) ?_
  rw [wa_wr]
  refine J_aload_n dX2_tellOfOther_55 rfl ?_
  refine M_getR dX2_tellOfOther_56 fX2_9 rfl rfl (by decide) ?_
  refine J_bipush (v := 13) dX2_tellOfOther_59 (by decide) ?_
  refine J_aload_n dX2_tellOfOther_61 rfl ?_
  refine M_getR dX2_tellOfOther_62 fX2_15 rfl rfl (by decide) ?_
  refine J_iload_n dX2_tellOfOther_65 rfl ?_
  refine M_callV1 (mc := mX1_isLame) dX2_tellOfOther_66 kX2_62 oX1_isLame (Nat.le_of_ble_eq_true rfl) (Nat.le_of_ble_eq_true rfl) rfl (by decide) rfl ?_
  refine tX1_isLame hj (by rw [rdb (by decide)]; exact h01) ?_
  rw [rdb (by decide)]
  refine J_if_eq (tgt := 76) dX2_tellOfOther_69 (by decide) (fun c5 => ?_) (fun c5 => ?_)
  · -- to 76
    refine J_iconst (v := 0) dX2_tellOfOther_76 (by decide) ?_
    refine M_iastE dX2_tellOfOther_77 rfl (by decide) (show (13 : Int32) = nI 13 from rfl) (by decide) ?_
    rw [wa_wr]
    refine M_vret dX2_tellOfOther_78 rfl ?_
    first
    | (rw [c5] at h; exact h)
    | (rw [h01.resolve_left c5] at h; exact h)
  · -- on 72
    refine J_iconst (v := 1) dX2_tellOfOther_72 (by decide) ?_
    refine J_goto (tgt := 77) dX2_tellOfOther_73 (by decide) ?_
    refine M_iastE dX2_tellOfOther_77 rfl (by decide) (show (13 : Int32) = nI 13 from rfl) (by decide) ?_
    rw [wa_wr]
    refine M_vret dX2_tellOfOther_78 rfl ?_
    first
    | (rw [c5] at h; exact h)
    | (rw [h01.resolve_left c5] at h; exact h)
set_option maxRecDepth 100000 in
set_option maxHeartbeats 1000000 in
theorem tX12_tell {d : Nat} {M : Mem} {Φ : Option Int32 → Mem → Prop} {j f : Nat} (hj : j < 12) (hf : f < 10) (h : Φ none (wa M 84 (fc3 (M.1 84) f (nI j) (M.1 63 j) (M.1 64 j) (M.1 62 0 - M.1 65 j) (M.1 66 j)))) : JM noRo d mX12_tell 0 [some (.ref 62), some (.int (nI f)), some (.int (nI j))] [] M Φ := by
  refine J_aload_n dX12_tell_0 rfl ?_
  refine M_getR dX12_tell_1 fX12_78 rfl rfl (by decide) ?_
  refine J_iload_n dX12_tell_4 rfl ?_
  refine J_iload_n dX12_tell_5 rfl ?_
  refine M_iastE dX12_tell_6 rfl (by decide) (by first | rfl | assumption) (by omega) ?_
  rw [wr_wa]
  refine J_aload_n dX12_tell_7 rfl ?_
  refine M_getR dX12_tell_8 fX12_78 rfl rfl (by decide) ?_
  refine J_iload_n dX12_tell_11 rfl ?_
  refine J_iconst (v := 1) dX12_tell_12 (by decide) ?_
  refine J_iadd dX12_tell_13 ?_
  refine J_aload_n dX12_tell_14 rfl ?_
  refine M_getR dX12_tell_15 fX12_7 rfl rfl (by decide) ?_
  refine J_iload_n dX12_tell_18 rfl ?_
  refine M_ialdE dX12_tell_19 rfl (by decide) (by first | rfl | assumption) (by omega) ?_
  rw [rdb (by decide)]
  refine M_iastE dX12_tell_20 rfl (by decide) (nI_1 f) (by omega) ?_
  rw [wa_wr]
  refine J_aload_n dX12_tell_21 rfl ?_
  refine M_getR dX12_tell_22 fX12_78 rfl rfl (by decide) ?_
  refine J_iload_n dX12_tell_25 rfl ?_
  refine J_iconst (v := 2) dX12_tell_26 (by decide) ?_
  refine J_iadd dX12_tell_27 ?_
  refine J_aload_n dX12_tell_28 rfl ?_
  refine M_getR dX12_tell_29 fX12_13 rfl rfl (by decide) ?_
  refine J_iload_n dX12_tell_32 rfl ?_
  refine M_ialdE dX12_tell_33 rfl (by decide) (by first | rfl | assumption) (by omega) ?_
  rw [rdb (by decide)]
  refine M_iastE dX12_tell_34 rfl (by decide) (show nI f + 2 = nI (f + 2) from nI_add f 2) (by omega) ?_
  rw [wa_wr]
  refine J_aload_n dX12_tell_35 rfl ?_
  refine M_getR dX12_tell_36 fX12_78 rfl rfl (by decide) ?_
  refine J_iload_n dX12_tell_39 rfl ?_
  refine J_iconst (v := 3) dX12_tell_40 (by decide) ?_
  refine J_iadd dX12_tell_41 ?_
  refine J_aload_n dX12_tell_42 rfl ?_
  refine M_getI dX12_tell_43 fX12_135 rfl rfl (by decide) ?_
  rw [rdb (by decide)]
  refine J_aload_n dX12_tell_46 rfl ?_
  refine M_getR dX12_tell_47 fX12_16 rfl rfl (by decide) ?_
  refine J_iload_n dX12_tell_50 rfl ?_
  refine M_ialdE dX12_tell_51 rfl (by decide) (by first | rfl | assumption) (by omega) ?_
  rw [rdb (by decide)]
  refine J_isub dX12_tell_52 ?_
  refine M_iastE dX12_tell_53 rfl (by decide) (show nI f + 3 = nI (f + 3) from nI_add f 3) (by omega) ?_
  rw [wa_wr]
  refine J_aload_n dX12_tell_54 rfl ?_
  refine M_getR dX12_tell_55 fX12_78 rfl rfl (by decide) ?_
  refine J_iload_n dX12_tell_58 rfl ?_
  refine J_iconst (v := 4) dX12_tell_59 (by decide) ?_
  refine J_iadd dX12_tell_60 ?_
  refine J_aload_n dX12_tell_61 rfl ?_
  refine M_getR dX12_tell_62 fX12_19 rfl rfl (by decide) ?_
  refine J_iload_n dX12_tell_65 rfl ?_
  refine M_ialdE dX12_tell_66 rfl (by decide) (by first | rfl | assumption) (by omega) ?_
  rw [rdb (by decide)]
  refine M_iastE dX12_tell_67 rfl (by decide) (show nI f + 4 = nI (f + 4) from nI_add f 4) (by omega) ?_
  rw [wa_wr]
  refine M_vret dX12_tell_68 rfl ?_
  exact h
/-- what the judge's answers rest on -/
def IW (M : Mem) (C st : Nat → Nat) (m L n : Nat) : Prop := E1 M ∧ M.1 0 12 = M.1 62 0 ∧ E4 M ∧ (n ≤ 12 ∧ M.1 1 6 = nI n ∧ M.1 62 1 = nI n) ∧ RC M C st m L ∧ RR M C st m L ∧ RP (M.1 76) C st m L ∧ ∀ r, r < m → M.1 23 r = M.1 76 r
def mayB (M : Mem) (C st : Nat → Nat) (m j f u : Nat) : Bool := decide (0 < M.1 69 f ∧ M.1 71 f ≤ M.1 62 0) && allR (fcV M j f u 0 0) C st (M.1 76) 0 m 0
def meetB (M : Mem) (C st : Nat → Nat) (m j f o g u : Nat) : Bool := if f = g ∨ M.1 72 (f * 6 + g) ≠ 0 then allR (fcV M j f u o (if f = g then 0 else 1)) C st (M.1 76) 1 m 0 && allR (fcV M o g u j (if f = g then 0 else 1)) C st (M.1 76) 1 m 0 else true
def WL : List Nat := [24, 28, 29, 30, 31, 32, 62, 83, 84, 85, 86]
/-- a change that the judge's answers don't see -/
def Vw (M N : Mem) : Prop := (∀ a, a ∉ WL → N.1 a = M.1 a) ∧ N.1 62 0 = M.1 62 0 ∧ N.1 62 1 = M.1 62 1 ∧ N.1 62 17 = M.1 62 17
theorem Vw.rf {M : Mem} : Vw M M := ⟨fun _ _ => rfl, rfl, rfl, rfl⟩
theorem Vw.tr {M N K : Mem} (h1 : Vw M N) (h2 : Vw N K) : Vw M K := ⟨fun a q => (h2.1 a q).trans (h1.1 a q), h2.2.1.trans h1.2.1, h2.2.2.1.trans h1.2.2.1, h2.2.2.2.trans h1.2.2.2⟩
theorem Vw.ca {M N : Mem} {k : Nat} {g : Nat → Int32} (h : Vw M N) (hk : k ∈ WL) (hk2 : k ≠ 62) : Vw M (wa N k g) := by
  refine ⟨fun a q => ?_, ?_, ?_, ?_⟩
  · rw [rdb (show a ≠ k from fun e => q (by rw [e]; exact hk))]; exact h.1 a q
  · rw [rdb (Ne.symm hk2)]; exact h.2.1
  · rw [rdb (Ne.symm hk2)]; exact h.2.2.1
  · rw [rdb (Ne.symm hk2)]; exact h.2.2.2
theorem Vw.cr {M N : Mem} {k j : Nat} {x : Int32} (h : Vw M N) (hk : k ∈ WL) (hk2 : k = 62 → j ≠ 0 ∧ j ≠ 1 ∧ j ≠ 17) : Vw M (wr N k j x) := by
  have e : ∀ i, (k = 62 → i ≠ j) → (wr N k j x).1 62 i = N.1 62 i := fun i hi => by
    by_cases q : k = 62
    · subst q; exact rd3 (hi rfl)
    · rw [rd2 (Ne.symm q)]
  refine ⟨fun a q => ?_, ?_, ?_, ?_⟩
  · rw [rd2 (show a ≠ k from fun e => q (by rw [e]; exact hk))]; exact h.1 a q
  · rw [e 0 (fun q => (hk2 q).1.symm)]; exact h.2.1
  · rw [e 1 (fun q => (hk2 q).2.1.symm)]; exact h.2.2.1
  · rw [e 17 (fun q => (hk2 q).2.2.symm)]; exact h.2.2.2
theorem fcV_vw {M N : Mem} (h : Vw M N) (j f u o : Nat) (gt : Int32) : fcV N j f u o gt = fcV M j f u o gt := by
  funext c
  unfold fcV
  rw [h.1 63 (by decide), h.1 64 (by decide), h.1 65 (by decide), h.1 66 (by decide), h.1 70 (by decide), h.2.1]
theorem mayB_vw {M N : Mem} (h : Vw M N) (C st : Nat → Nat) (m j f u : Nat) : mayB N C st m j f u = mayB M C st m j f u := by
  unfold mayB
  rw [fcV_vw h, h.1 69 (by decide), h.1 71 (by decide), h.1 76 (by decide), h.2.1]
theorem meetB_vw {M N : Mem} (h : Vw M N) (C st : Nat → Nat) (m j f o g u : Nat) : meetB N C st m j f o g u = meetB M C st m j f o g u := by
  unfold meetB
  rw [fcV_vw h, fcV_vw h, h.1 72 (by decide), h.1 76 (by decide)]
theorem IW.vw {M N : Mem} {C st : Nat → Nat} {m L n : Nat} (h : Vw M N) (k : IW M C st m L n) : IW N C st m L n := by
  obtain ⟨k1, k2, k3, k4, k5, k6, k7, k8⟩ := k
  refine ⟨?_, ?_, ?_, ?_, ?_, ?_, ?_, ?_⟩
  · unfold E1
    rw [h.1 2 (by decide), h.1 63 (by decide), h.1 3 (by decide), h.1 64 (by decide), h.1 4 (by decide), h.1 65 (by decide), h.1 5 (by decide), h.1 66 (by decide), h.1 6 (by decide), h.1 68 (by decide), h.1 7 (by decide), h.1 67 (by decide), h.1 9 (by decide), h.1 69 (by decide), h.1 10 (by decide), h.1 70 (by decide), h.1 11 (by decide), h.1 71 (by decide), h.1 12 (by decide), h.1 72 (by decide), h.1 14 (by decide), h.1 81 (by decide), h.1 50 (by decide), h.1 91 (by decide), h.1 61 (by decide), h.1 92 (by decide), h.1 52 (by decide), h.1 93 (by decide), h.1 53 (by decide), h.1 94 (by decide), h.1 54 (by decide), h.1 95 (by decide), h.1 56 (by decide), h.1 96 (by decide), h.1 57 (by decide), h.1 98 (by decide), h.1 58 (by decide), h.1 99 (by decide), h.1 59 (by decide), h.1 100 (by decide)]
    exact k1
  · rw [h.1 0 (by decide), h.2.1]; exact k2
  · unfold E4
    rw [h.1 66 (by decide), h.1 68 (by decide), h.1 69 (by decide)]
    exact k3
  · rw [h.1 1 (by decide), h.2.2.1]; exact k4
  · unfold RC
    rw [h.1 20 (by decide), h.1 21 (by decide), h.1 22 (by decide)]
    exact k5
  · unfold RR
    rw [h.2.2.2, h.1 75 (by decide), h.1 73 (by decide), h.1 74 (by decide)]
    exact k6
  · rw [h.1 76 (by decide)]; exact k7
  · rw [h.1 76 (by decide), h.1 23 (by decide)]; exact k8

theorem sw_ge {x : Int32} {n : Nat} (hn : n + 1 < 2 ^ 31) (h : ¬ Ix x (n + 1)) : x.toInt < 0 ∨ (n : Int) < x.toInt := by
  rcases pk_ix x (n := n + 1) hn with q | q | q
  · left; simpa using Int32.lt_iff_toInt_lt.mp q
  · right
    have := Int32.le_iff_toInt_le.mp q
    rw [nI_toInt (by omega)] at this
    omega
  · exact absurd q h

theorem sw_out3 {x : Int32} (h0 : ¬ x = 0) (h1 : ¬ x = 1) (h2 : ¬ x = 2) (h3 : ¬ x = 3) : x.toInt < 0 ∨ (3 : Int) < x.toInt := by
  refine sw_ge (n := 3) (by decide) ?_
  rintro ⟨j, hj, rfl⟩
  match j, hj with
  | 0, _ => exact h0 rfl
  | 1, _ => exact h1 rfl
  | 2, _ => exact h2 rfl
  | 3, _ => exact h3 rfl
  | j + 4, q => exact absurd q (by omega)
theorem sw_out6 {x : Int32} (h0 : ¬ x = 0) (h1 : ¬ x = 1) (h2 : ¬ x = 2) (h3 : ¬ x = 3) (h4 : ¬ x = 4) (h5 : ¬ x = 5) (h6 : ¬ x = 6) : x.toInt < 0 ∨ (6 : Int) < x.toInt := by
  refine sw_ge (n := 6) (by decide) ?_
  rintro ⟨j, hj, rfl⟩
  match j, hj with
  | 0, _ => exact h0 rfl
  | 1, _ => exact h1 rfl
  | 2, _ => exact h2 rfl
  | 3, _ => exact h3 rfl
  | 4, _ => exact h4 rfl
  | 5, _ => exact h5 rfl
  | 6, _ => exact h6 rfl
  | j + 7, q => exact absurd q (by omega)
set_option maxRecDepth 100000 in
set_option maxHeartbeats 1000000 in
theorem tX6_forget {d : Nat} {M : Mem} {Φ : Option Int32 → Mem → Prop}  (h : Φ none (wr M 29 8 0)) : JM noRo d mX6_forget 0 [some (.ref 29)] [] M Φ := by
  refine J_aload_n dX6_forget_0 rfl ?_
  refine J_iconst (v := 0) dX6_forget_1 (by decide) ?_
  refine M_putZ dX6_forget_2 pX6_37 rfl rfl (by decide) (by first | assumption | exact Or.inl rfl | exact Or.inr rfl) ?_
  refine M_vret dX6_forget_5 rfl ?_
  exact h
set_option maxRecDepth 100000 in
set_option maxHeartbeats 1000000 in
theorem tX6_triesMade {d : Nat} {M : Mem} {Φ : Option Int32 → Mem → Prop}  (h : Φ (some (M.1 29 7)) M) : JM noRo d mX6_triesMade 0 [some (.ref 29)] [] M Φ := by
  refine J_aload_n dX6_triesMade_0 rfl ?_
  refine M_getI dX6_triesMade_1 fX6_33 rfl rfl (by decide) ?_
  refine M_iret dX6_triesMade_4 rfl rfl ?_
  exact h
set_option maxRecDepth 100000 in
set_option maxHeartbeats 1000000 in
theorem tX6_hasPlan {d : Nat} {M : Mem} {Φ : Option Int32 → Mem → Prop}  (h01 : M.1 29 8 = 0 ∨ M.1 29 8 = 1) (h : Φ (some (M.1 29 8)) M) : JM noRo d mX6_hasPlan 0 [some (.ref 29)] [] M Φ := by
  refine J_aload_n dX6_hasPlan_0 rfl ?_
  refine M_getI dX6_hasPlan_1 fX6_37 rfl rfl (by decide) ?_
  refine M_zret dX6_hasPlan_4 rfl (by first | assumption | exact Or.inl rfl | exact Or.inr rfl) ?_
  exact h
set_option maxRecDepth 100000 in
set_option maxHeartbeats 1000000 in
theorem tX6_spotOf {d : Nat} {M : Mem} {Φ : Option Int32 → Mem → Prop} {j : Nat} (hj : j < 12) (h : Φ (some (if M.1 29 8 = 0 then -1 else M.1 30 j)) M) : JM noRo d mX6_spotOf 0 [some (.ref 29), some (.int (nI j))] [] M Φ := by
  refine J_aload_n dX6_spotOf_0 rfl ?_
  refine M_getI dX6_spotOf_1 fX6_37 rfl rfl (by decide) ?_
  refine J_if_eq (tgt := 16) dX6_spotOf_4 (by decide) (fun c1 => ?_) (fun c1 => ?_)
  · -- to 16
    refine J_iconst (v := -1) dX6_spotOf_16 (by decide) ?_
    refine M_iret dX6_spotOf_17 rfl rfl ?_
    first
    | (rw [if_pos c1] at h; exact h)
    | (rw [if_neg c1] at h; exact h)
  · -- on 7
    refine J_aload_n dX6_spotOf_7 rfl ?_
    refine M_getR dX6_spotOf_8 fX6_9 rfl rfl (by decide) ?_
    refine J_iload_n dX6_spotOf_11 rfl ?_
    refine M_ialdE dX6_spotOf_12 rfl (by decide) (by first | rfl | assumption) (by omega) ?_
    refine J_goto (tgt := 17) dX6_spotOf_13 (by decide) ?_
    refine M_iret dX6_spotOf_17 rfl rfl ?_
    first
    | (rw [if_pos c1] at h; exact h)
    | (rw [if_neg c1] at h; exact h)
set_option maxRecDepth 100000 in
set_option maxHeartbeats 1000000 in
theorem tX4_count {d : Nat} {M : Mem} {Φ : Option Int32 → Mem → Prop}  (h : Φ (some (M.1 51 3)) M) : JM noRo d mX4_count 0 [some (.ref 51)] [] M Φ := by
  refine J_aload_n dX4_count_0 rfl ?_
  refine M_getI dX4_count_1 fX4_21 rfl rfl (by decide) ?_
  refine M_iret dX4_count_4 rfl rfl ?_
  exact h
set_option maxRecDepth 100000 in
set_option maxHeartbeats 1000000 in
theorem tX4_haveRoomFor {d : Nat} {M : Mem} {Φ : Option Int32 → Mem → Prop} {n m : Nat} (hn : M.1 51 3 = nI n) (hb : n ≤ 2000) (hm : m ≤ 12) (h1 : n + m ≤ 2000 → Φ (some 1) M) (h0 : ¬ n + m ≤ 2000 → Φ (some 0) M) : JM noRo d mX4_haveRoomFor 0 [some (.ref 51), some (.int (nI m))] [] M Φ := by
  refine J_aload_n dX4_haveRoomFor_0 rfl ?_
  refine M_getI dX4_haveRoomFor_1 fX4_21 rfl rfl (by decide) ?_
  refine J_iload_n dX4_haveRoomFor_4 rfl ?_
  refine J_iadd dX4_haveRoomFor_5 ?_
  refine J_sipush (v := 2000) dX4_haveRoomFor_6 (by decide) ?_
  refine J_icmp_gt (tgt := 16) dX4_haveRoomFor_9 (by decide) (fun c1 => ?_) (fun c1 => ?_)
  · -- to 16
    refine J_iconst (v := 0) dX4_haveRoomFor_16 (by decide) ?_
    refine M_zret dX4_haveRoomFor_17 rfl (by first | assumption | exact Or.inl rfl | exact Or.inr rfl) ?_
    first
    | (rw [hn, nI_add] at c1; exact h0 (fun q => nI_nlt (a := 2000) (b := n + m) q (by omega) c1))
    | (rw [hn, nI_add] at c1; exact h1 (Nat.not_lt.mp (fun q => c1 (nI_lt (a := 2000) q (by omega)))))
  · -- on 12
    refine J_iconst (v := 1) dX4_haveRoomFor_12 (by decide) ?_
    refine J_goto (tgt := 17) dX4_haveRoomFor_13 (by decide) ?_
    refine M_zret dX4_haveRoomFor_17 rfl (by first | assumption | exact Or.inl rfl | exact Or.inr rfl) ?_
    first
    | (rw [hn, nI_add] at c1; exact h0 (fun q => nI_nlt (a := 2000) (b := n + m) q (by omega) c1))
    | (rw [hn, nI_add] at c1; exact h1 (Nat.not_lt.mp (fun q => c1 (nI_lt (a := 2000) q (by omega)))))
set_option maxRecDepth 100000 in
set_option maxHeartbeats 1000000 in
theorem tX4_add {d : Nat} {M : Mem} {Φ : Option Int32 → Mem → Prop} {n : Nat} {x y z : Int32} (hn : M.1 51 3 = nI n) (hb : n < 2000) (h : Φ none (wr (wr (wr (wr M 52 n x) 53 n y) 54 n z) 51 3 (nI (n + 1)))) : JM noRo d mX4_add 0 [some (.ref 51), some (.int x), some (.int y), some (.int z)] [] M Φ := by
  refine J_aload_n dX4_add_0 rfl ?_
  refine M_getI dX4_add_1 fX4_21 rfl rfl (by decide) ?_
  refine J_sipush (v := 2000) dX4_add_4 (by decide) ?_
  refine J_icmp_ge (tgt := 50) dX4_add_7 (by decide) (fun c1 => ?_) (fun c1 => ?_)
  · -- to 50
    exact absurd c1 (by rw [hn]; exact nI_ge (a := n) (b := 2000) hb (by decide))
  · -- on 10
    refine J_aload_n dX4_add_10 rfl ?_
    refine M_getR dX4_add_11 fX4_9 rfl rfl (by decide) ?_
    refine J_aload_n dX4_add_14 rfl ?_
    refine M_getI dX4_add_15 fX4_21 rfl rfl (by decide) ?_
    refine J_iload_n dX4_add_18 rfl ?_
    refine M_iastE dX4_add_19 rfl (by decide) (by first | rfl | assumption) (by omega) ?_
    refine J_aload_n dX4_add_20 rfl ?_
    refine M_getR dX4_add_21 fX4_15 rfl rfl (by decide) ?_
    refine J_aload_n dX4_add_24 rfl ?_
    refine M_getI dX4_add_25 fX4_21 rfl rfl (by decide) ?_
    refine J_iload_n dX4_add_28 rfl ?_
    refine M_iastE dX4_add_29 rfl (by decide) (by simpa only [rd2, ne_eq, Nat.reduceEqDiff, not_false_eq_true] using hn) (by omega) ?_
    refine J_aload_n dX4_add_30 rfl ?_
    refine M_getR dX4_add_31 fX4_18 rfl rfl (by decide) ?_
    refine J_aload_n dX4_add_34 rfl ?_
    refine M_getI dX4_add_35 fX4_21 rfl rfl (by decide) ?_
    refine J_iload_n dX4_add_38 rfl ?_
    refine M_iastE dX4_add_39 rfl (by decide) (by simpa only [rd2, ne_eq, Nat.reduceEqDiff, not_false_eq_true] using hn) (by omega) ?_
    refine J_aload_n dX4_add_40 rfl ?_
    refine J_dup dX4_add_41 rfl ?_
    refine M_getI dX4_add_42 fX4_21 rfl rfl (by decide) ?_
    refine J_iconst (v := 1) dX4_add_45 (by decide) ?_
    refine J_iadd dX4_add_46 ?_
    simp only [rd2, ne_eq, Nat.reduceEqDiff, not_false_eq_true, hn, nI_1]
    refine M_putI dX4_add_47 pX4_21 rfl rfl (by decide) ?_
    refine M_vret dX4_add_50 rfl ?_
    exact h
set_option maxRecDepth 100000 in
set_option maxHeartbeats 1000000 in
theorem tX10_count {d : Nat} {M : Mem} {Φ : Option Int32 → Mem → Prop}  (h : Φ (some (M.1 55 6)) M) : JM noRo d mX10_count 0 [some (.ref 55)] [] M Φ := by
  refine J_aload_n dX10_count_0 rfl ?_
  refine M_getI dX10_count_1 fX10_30 rfl rfl (by decide) ?_
  refine M_iret dX10_count_4 rfl rfl ?_
  exact h
set_option maxRecDepth 100000 in
set_option maxHeartbeats 1000000 in
theorem tX10_begin {d : Nat} {M : Mem} {Φ : Option Int32 → Mem → Prop} {j : Nat} {x : Int32} (hj : j < 12) (h : Φ none (wr (wr (wr M 60 (j * 3) x) 60 (j * 3 + 1) x) 60 (j * 3 + 2) x)) : JM noRo d mX10_begin 0 [some (.ref 55), some (.int (nI j)), some (.int x)] [] M Φ := by
  refine J_iconst (v := 0) dX10_begin_0 (by decide) ?_
  refine J_istore_n dX10_begin_1 (by decide) rfl ?_
  dsimp only [setL]
  refine J_iload_n dX10_begin_2 rfl ?_
  refine J_iconst (v := 3) dX10_begin_3 (by decide) ?_
  refine J_icmp_ge (tgt := 24) dX10_begin_4 (by decide) (fun c1 => ?_) (fun c1 => ?_)
  · -- to 24
    exact absurd c1 (by decide)
  · -- on 7
    refine J_aload_n dX10_begin_7 rfl ?_
    refine M_getR dX10_begin_8 fX10_24 rfl rfl (by decide) ?_
    refine J_iload_n dX10_begin_11 rfl ?_
    refine J_iconst (v := 3) dX10_begin_12 (by decide) ?_
    refine J_imul dX10_begin_13 ?_
    refine J_iload_n dX10_begin_14 rfl ?_
    refine J_iadd dX10_begin_15 ?_
    refine J_iload_n dX10_begin_16 rfl ?_
    refine M_iastE dX10_begin_17 rfl (by decide) (by first | exact ixm j 3 0 | exact ixm j 3 1 | exact ixm j 3 2) (by omega) ?_
    refine J_iinc dX10_begin_18 rfl rfl (by decide) rfl ?_
    dsimp only [setL]
    refine J_goto (tgt := 2) dX10_begin_21 (by decide) ?_
    refine J_iload_n dX10_begin_2 rfl ?_
    refine J_iconst (v := 3) dX10_begin_3 (by decide) ?_
    refine J_icmp_ge (tgt := 24) dX10_begin_4 (by decide) (fun c2 => ?_) (fun c2 => ?_)
    · -- to 24
      exact absurd c2 (by decide)
    · -- on 7
      refine J_aload_n dX10_begin_7 rfl ?_
      refine M_getR dX10_begin_8 fX10_24 rfl rfl (by decide) ?_
      refine J_iload_n dX10_begin_11 rfl ?_
      refine J_iconst (v := 3) dX10_begin_12 (by decide) ?_
      refine J_imul dX10_begin_13 ?_
      refine J_iload_n dX10_begin_14 rfl ?_
      refine J_iadd dX10_begin_15 ?_
      refine J_iload_n dX10_begin_16 rfl ?_
      refine M_iastE dX10_begin_17 rfl (by decide) (by first | exact ixm j 3 0 | exact ixm j 3 1 | exact ixm j 3 2) (by omega) ?_
      refine J_iinc dX10_begin_18 rfl rfl (by decide) rfl ?_
      dsimp only [setL]
      refine J_goto (tgt := 2) dX10_begin_21 (by decide) ?_
      refine J_iload_n dX10_begin_2 rfl ?_
      refine J_iconst (v := 3) dX10_begin_3 (by decide) ?_
      refine J_icmp_ge (tgt := 24) dX10_begin_4 (by decide) (fun c3 => ?_) (fun c3 => ?_)
      · -- to 24
        exact absurd c3 (by decide)
      · -- on 7
        refine J_aload_n dX10_begin_7 rfl ?_
        refine M_getR dX10_begin_8 fX10_24 rfl rfl (by decide) ?_
        refine J_iload_n dX10_begin_11 rfl ?_
        refine J_iconst (v := 3) dX10_begin_12 (by decide) ?_
        refine J_imul dX10_begin_13 ?_
        refine J_iload_n dX10_begin_14 rfl ?_
        refine J_iadd dX10_begin_15 ?_
        refine J_iload_n dX10_begin_16 rfl ?_
        refine M_iastE dX10_begin_17 rfl (by decide) (by first | exact ixm j 3 0 | exact ixm j 3 1 | exact ixm j 3 2) (by omega) ?_
        refine J_iinc dX10_begin_18 rfl rfl (by decide) rfl ?_
        dsimp only [setL]
        refine J_goto (tgt := 2) dX10_begin_21 (by decide) ?_
        refine J_iload_n dX10_begin_2 rfl ?_
        refine J_iconst (v := 3) dX10_begin_3 (by decide) ?_
        refine J_icmp_ge (tgt := 24) dX10_begin_4 (by decide) (fun c4 => ?_) (fun c4 => ?_)
        · -- to 24
          refine M_vret dX10_begin_24 rfl ?_
          exact h
        · -- on 7
          exact absurd c4 (by decide)
set_option maxRecDepth 100000 in
set_option maxHeartbeats 1000000 in
theorem tX10_setFall {d : Nat} {M : Mem} {Φ : Option Int32 → Mem → Prop} {j : Nat} {x : Int32} (hj : j < 3) (h : Φ none (wr M 61 j x)) : JM noRo d mX10_setFall 0 [some (.ref 55), some (.int (nI j)), some (.int x)] [] M Φ := by
  refine J_aload_n dX10_setFall_0 rfl ?_
  refine M_getR dX10_setFall_1 fX10_27 rfl rfl (by decide) ?_
  refine J_iload_n dX10_setFall_4 rfl ?_
  refine J_iload_n dX10_setFall_5 rfl ?_
  refine M_iastE dX10_setFall_6 rfl (by decide) (by first | rfl | assumption) (by omega) ?_
  refine M_vret dX10_setFall_7 rfl ?_
  exact h
set_option maxRecDepth 100000 in
set_option maxHeartbeats 1000000 in
theorem tX10_add {d : Nat} {M : Mem} {Φ : Option Int32 → Mem → Prop} {n j s : Nat} {x y z : Int32} (hn : M.1 55 6 = nI n) (hb : n ≤ 200) (hj : j < 12) (hs : s < 3) (h0 : n = 200 → Φ (some (-1)) M) (h1 : n < 200 → Φ (some (nI (n + 1))) (wr (wr (wr (wr (wr (wr M 56 n (nI j)) 57 n x) 58 n y) 59 n z) 55 6 (nI (n + 1))) 60 (j * 3 + s) (if M.1 60 (j * 3 + s) < x then x else M.1 60 (j * 3 + s)))) : JM noRo (d + 1) mX10_add 0 [some (.ref 55), some (.int (nI j)), some (.int (nI s)), some (.int x), some (.int y), some (.int z)] [] M Φ := by
  refine J_aload_n dX10_add_0 rfl ?_
  refine M_getI dX10_add_1 fX10_30 rfl rfl (by decide) ?_
  refine J_sipush (v := 200) dX10_add_4 (by decide) ?_
  refine J_icmp_lt (tgt := 12) dX10_add_7 (by decide) (fun c1 => ?_) (fun c1 => ?_)
  · -- to 12
    have hlt : n < 200 := Nat.not_le.mp (fun q => by rw [hn] at c1; exact nI_nlt (a := n) (b := 200) q (by omega) c1)
    refine J_aload_n dX10_add_12 rfl ?_
    refine M_getR dX10_add_13 fX10_9 rfl rfl (by decide) ?_
    refine J_aload_n dX10_add_16 rfl ?_
    refine M_getI dX10_add_17 fX10_30 rfl rfl (by decide) ?_
    refine J_iload_n dX10_add_20 rfl ?_
    refine M_iastE dX10_add_21 rfl (by decide) hn (by omega) ?_
    refine J_aload_n dX10_add_22 rfl ?_
    refine M_getR dX10_add_23 fX10_15 rfl rfl (by decide) ?_
    refine J_aload_n dX10_add_26 rfl ?_
    refine M_getI dX10_add_27 fX10_30 rfl rfl (by decide) ?_
    refine J_iload_n dX10_add_30 rfl ?_
    refine M_iastE dX10_add_31 rfl (by decide) (by simpa only [rd2, ne_eq, Nat.reduceEqDiff, not_false_eq_true] using hn) (by omega) ?_
    refine J_aload_n dX10_add_32 rfl ?_
    refine M_getR dX10_add_33 fX10_18 rfl rfl (by decide) ?_
    refine J_aload_n dX10_add_36 rfl ?_
    refine M_getI dX10_add_37 fX10_30 rfl rfl (by decide) ?_
    refine J_iload dX10_add_40 rfl ?_
    refine M_iastE dX10_add_42 rfl (by decide) (by simpa only [rd2, ne_eq, Nat.reduceEqDiff, not_false_eq_true] using hn) (by omega) ?_
    refine J_aload_n dX10_add_43 rfl ?_
    refine M_getR dX10_add_44 fX10_21 rfl rfl (by decide) ?_
    refine J_aload_n dX10_add_47 rfl ?_
    refine M_getI dX10_add_48 fX10_30 rfl rfl (by decide) ?_
    refine J_iload dX10_add_51 rfl ?_
    refine M_iastE dX10_add_53 rfl (by decide) (by simpa only [rd2, ne_eq, Nat.reduceEqDiff, not_false_eq_true] using hn) (by omega) ?_
    refine J_aload_n dX10_add_54 rfl ?_
    refine J_dup dX10_add_55 rfl ?_
    refine M_getI dX10_add_56 fX10_30 rfl rfl (by decide) ?_
    refine J_iconst (v := 1) dX10_add_59 (by decide) ?_
    refine J_iadd dX10_add_60 ?_
    simp only [rd2, ne_eq, Nat.reduceEqDiff, not_false_eq_true, hn, nI_1]
    refine M_putI dX10_add_61 pX10_30 rfl rfl (by decide) ?_
    refine J_iload_n dX10_add_64 rfl ?_
    refine J_iconst (v := 3) dX10_add_65 (by decide) ?_
    refine J_imul dX10_add_66 ?_
    refine J_iload_n dX10_add_67 rfl ?_
    refine J_iadd dX10_add_68 ?_
    refine J_istore dX10_add_69 (by decide) rfl ?_
    dsimp only [setL]
    refine J_aload_n dX10_add_71 rfl ?_
    refine M_getR dX10_add_72 fX10_24 rfl rfl (by decide) ?_
    refine J_iload dX10_add_75 rfl ?_
    refine J_aload_n dX10_add_77 rfl ?_
    refine M_getR dX10_add_78 fX10_24 rfl rfl (by decide) ?_
    refine J_iload dX10_add_81 rfl ?_
    refine M_ialdE dX10_add_83 rfl (by decide) (ixm j 3 s) (by omega) ?_
    refine J_iload_n dX10_add_84 rfl ?_
    refine J_mmax dX10_add_85 kX10_34 ma_max_s ma_ini ma_max_c (Nat.le_of_ble_eq_true rfl) ?_
    refine M_iastE dX10_add_88 rfl (by decide) (ixm j 3 s) (by omega) ?_
    refine J_aload_n dX10_add_89 rfl ?_
    refine M_getI dX10_add_90 fX10_30 rfl rfl (by decide) ?_
    refine M_iret dX10_add_93 rfl rfl ?_
    first
    | exact h0 (by have hq : ¬ n < 200 := fun q => c1 (by rw [hn]; exact nI_lt (a := n) (b := 200) q (by decide)); omega)
    | (simp only [rd1, rd2, ne_eq, Nat.reduceEqDiff, not_false_eq_true]; exact h1 hlt)
  · -- on 10
    refine J_iconst (v := -1) dX10_add_10 (by decide) ?_
    refine M_iret dX10_add_11 rfl rfl ?_
    first
    | exact h0 (by have hq : ¬ n < 200 := fun q => c1 (by rw [hn]; exact nI_lt (a := n) (b := 200) q (by decide)); omega)
    | (simp only [rd1, rd2, ne_eq, Nat.reduceEqDiff, not_false_eq_true]; exact h1 hlt)
set_option maxRecDepth 100000 in
set_option maxHeartbeats 1000000 in
theorem tX10_dueDay {d : Nat} {M : Mem} {Φ : Option Int32 → Mem → Prop} {j s : Nat} (hj : j < 12) (hs : s < 3) (h : Φ (some (if M.1 61 s = 0 then -1 else M.1 60 (j * 3 + s) + M.1 61 s)) M) : JM noRo d mX10_dueDay 0 [some (.ref 55), some (.int (nI j)), some (.int (nI s))] [] M Φ := by
  refine J_aload_n dX10_dueDay_0 rfl ?_
  refine M_getR dX10_dueDay_1 fX10_27 rfl rfl (by decide) ?_
  refine J_iload_n dX10_dueDay_4 rfl ?_
  refine M_ialdE dX10_dueDay_5 rfl (by decide) (by first | rfl | assumption) (by omega) ?_
  refine J_istore_n dX10_dueDay_6 (by decide) rfl ?_
  dsimp only [setL]
  refine J_iload_n dX10_dueDay_7 rfl ?_
  refine J_if_ne (tgt := 15) dX10_dueDay_8 (by decide) (fun c1 => ?_) (fun c1 => ?_)
  · -- to 15
    refine J_aload_n dX10_dueDay_15 rfl ?_
    refine M_getR dX10_dueDay_16 fX10_24 rfl rfl (by decide) ?_
    refine J_iload_n dX10_dueDay_19 rfl ?_
    refine J_iconst (v := 3) dX10_dueDay_20 (by decide) ?_
    refine J_imul dX10_dueDay_21 ?_
    refine J_iload_n dX10_dueDay_22 rfl ?_
    refine J_iadd dX10_dueDay_23 ?_
    refine M_ialdE dX10_dueDay_24 rfl (by decide) (ixm j 3 s) (by omega) ?_
    refine J_iload_n dX10_dueDay_25 rfl ?_
    refine J_iadd dX10_dueDay_26 ?_
    refine M_iret dX10_dueDay_27 rfl rfl ?_
    first
    | (rw [if_pos c1] at h; exact h)
    | (rw [if_neg c1] at h; exact h)
  · -- on 11
    refine J_iconst (v := -1) dX10_dueDay_11 (by decide) ?_
    refine J_goto (tgt := 27) dX10_dueDay_12 (by decide) ?_
    refine M_iret dX10_dueDay_27 rfl rfl ?_
    first
    | (rw [if_pos c1] at h; exact h)
    | (rw [if_neg c1] at h; exact h)
set_option maxRecDepth 100000 in
set_option maxHeartbeats 1000000 in
theorem tX0_count {d : Nat} {M : Mem} {Φ : Option Int32 → Mem → Prop} {b : Nat} (hb : b < 4) (h : Φ (some (M.1 (34 + 4 * b) 3)) M) : JM noRo d mX0_count 0 [some (.ref (34 + 4 * b))] [] M Φ := by
  match b, hb with
  | 0, _ =>
    refine J_aload_n dX0_count_0 rfl ?_
    refine M_getI dX0_count_1 fX0_21 rfl rfl (by decide) ?_
    refine M_iret dX0_count_4 rfl rfl ?_
    exact h
  | 1, _ =>
    refine J_aload_n dX0_count_0 rfl ?_
    refine M_getI dX0_count_1 fX0_21 rfl rfl (by decide) ?_
    refine M_iret dX0_count_4 rfl rfl ?_
    exact h
  | 2, _ =>
    refine J_aload_n dX0_count_0 rfl ?_
    refine M_getI dX0_count_1 fX0_21 rfl rfl (by decide) ?_
    refine M_iret dX0_count_4 rfl rfl ?_
    exact h
  | 3, _ =>
    refine J_aload_n dX0_count_0 rfl ?_
    refine M_getI dX0_count_1 fX0_21 rfl rfl (by decide) ?_
    refine M_iret dX0_count_4 rfl rfl ?_
    exact h
  | n + 4, q => exact absurd q (by omega)
set_option maxRecDepth 100000 in
set_option maxHeartbeats 1000000 in
theorem tX0_spoiltSoFar {d : Nat} {M : Mem} {Φ : Option Int32 → Mem → Prop} {b : Nat} (hb : b < 4) (h : Φ (some (M.1 (34 + 4 * b) 4)) M) : JM noRo d mX0_spoiltSoFar 0 [some (.ref (34 + 4 * b))] [] M Φ := by
  match b, hb with
  | 0, _ =>
    refine J_aload_n dX0_spoiltSoFar_0 rfl ?_
    refine M_getI dX0_spoiltSoFar_1 fX0_25 rfl rfl (by decide) ?_
    refine M_iret dX0_spoiltSoFar_4 rfl rfl ?_
    exact h
  | 1, _ =>
    refine J_aload_n dX0_spoiltSoFar_0 rfl ?_
    refine M_getI dX0_spoiltSoFar_1 fX0_25 rfl rfl (by decide) ?_
    refine M_iret dX0_spoiltSoFar_4 rfl rfl ?_
    exact h
  | 2, _ =>
    refine J_aload_n dX0_spoiltSoFar_0 rfl ?_
    refine M_getI dX0_spoiltSoFar_1 fX0_25 rfl rfl (by decide) ?_
    refine M_iret dX0_spoiltSoFar_4 rfl rfl ?_
    exact h
  | 3, _ =>
    refine J_aload_n dX0_spoiltSoFar_0 rfl ?_
    refine M_getI dX0_spoiltSoFar_1 fX0_25 rfl rfl (by decide) ?_
    refine M_iret dX0_spoiltSoFar_4 rfl rfl ?_
    exact h
  | n + 4, q => exact absurd q (by omega)
set_option maxRecDepth 100000 in
set_option maxHeartbeats 1000000 in
theorem tX0_firstLast {d : Nat} {M : Mem} {Φ : Option Int32 → Mem → Prop} {b : Nat} (hb : b < 4) (h : Φ (some (if M.1 (34 + 4 * b) 3 ≤ 0 then -1 else M.1 (36 + 4 * b) 0)) M) : JM noRo d mX0_firstLast 0 [some (.ref (34 + 4 * b))] [] M Φ := by
  match b, hb with
  | 0, _ =>
    refine J_aload_n dX0_firstLast_0 rfl ?_
    refine M_getI dX0_firstLast_1 fX0_21 rfl rfl (by decide) ?_
    refine J_if_le (tgt := 16) dX0_firstLast_4 (by decide) (fun c1 => ?_) (fun c1 => ?_)
    · -- to 16
      refine J_iconst (v := -1) dX0_firstLast_16 (by decide) ?_
      refine M_iret dX0_firstLast_17 rfl rfl ?_
      first
      | (rw [if_pos c1] at h; exact h)
      | (rw [if_neg c1] at h; exact h)
    · -- on 7
      refine J_aload_n dX0_firstLast_7 rfl ?_
      refine M_getR dX0_firstLast_8 fX0_15 rfl rfl (by decide) ?_
      refine J_iconst (v := 0) dX0_firstLast_11 (by decide) ?_
      refine M_ialdE dX0_firstLast_12 rfl (by decide) (show (0 : Int32) = nI 0 from rfl) (by decide) ?_
      refine J_goto (tgt := 17) dX0_firstLast_13 (by decide) ?_
      refine M_iret dX0_firstLast_17 rfl rfl ?_
      first
      | (rw [if_pos c1] at h; exact h)
      | (rw [if_neg c1] at h; exact h)
  | 1, _ =>
    refine J_aload_n dX0_firstLast_0 rfl ?_
    refine M_getI dX0_firstLast_1 fX0_21 rfl rfl (by decide) ?_
    refine J_if_le (tgt := 16) dX0_firstLast_4 (by decide) (fun c1 => ?_) (fun c1 => ?_)
    · -- to 16
      refine J_iconst (v := -1) dX0_firstLast_16 (by decide) ?_
      refine M_iret dX0_firstLast_17 rfl rfl ?_
      first
      | (rw [if_pos c1] at h; exact h)
      | (rw [if_neg c1] at h; exact h)
    · -- on 7
      refine J_aload_n dX0_firstLast_7 rfl ?_
      refine M_getR dX0_firstLast_8 fX0_15 rfl rfl (by decide) ?_
      refine J_iconst (v := 0) dX0_firstLast_11 (by decide) ?_
      refine M_ialdE dX0_firstLast_12 rfl (by decide) (show (0 : Int32) = nI 0 from rfl) (by decide) ?_
      refine J_goto (tgt := 17) dX0_firstLast_13 (by decide) ?_
      refine M_iret dX0_firstLast_17 rfl rfl ?_
      first
      | (rw [if_pos c1] at h; exact h)
      | (rw [if_neg c1] at h; exact h)
  | 2, _ =>
    refine J_aload_n dX0_firstLast_0 rfl ?_
    refine M_getI dX0_firstLast_1 fX0_21 rfl rfl (by decide) ?_
    refine J_if_le (tgt := 16) dX0_firstLast_4 (by decide) (fun c1 => ?_) (fun c1 => ?_)
    · -- to 16
      refine J_iconst (v := -1) dX0_firstLast_16 (by decide) ?_
      refine M_iret dX0_firstLast_17 rfl rfl ?_
      first
      | (rw [if_pos c1] at h; exact h)
      | (rw [if_neg c1] at h; exact h)
    · -- on 7
      refine J_aload_n dX0_firstLast_7 rfl ?_
      refine M_getR dX0_firstLast_8 fX0_15 rfl rfl (by decide) ?_
      refine J_iconst (v := 0) dX0_firstLast_11 (by decide) ?_
      refine M_ialdE dX0_firstLast_12 rfl (by decide) (show (0 : Int32) = nI 0 from rfl) (by decide) ?_
      refine J_goto (tgt := 17) dX0_firstLast_13 (by decide) ?_
      refine M_iret dX0_firstLast_17 rfl rfl ?_
      first
      | (rw [if_pos c1] at h; exact h)
      | (rw [if_neg c1] at h; exact h)
  | 3, _ =>
    refine J_aload_n dX0_firstLast_0 rfl ?_
    refine M_getI dX0_firstLast_1 fX0_21 rfl rfl (by decide) ?_
    refine J_if_le (tgt := 16) dX0_firstLast_4 (by decide) (fun c1 => ?_) (fun c1 => ?_)
    · -- to 16
      refine J_iconst (v := -1) dX0_firstLast_16 (by decide) ?_
      refine M_iret dX0_firstLast_17 rfl rfl ?_
      first
      | (rw [if_pos c1] at h; exact h)
      | (rw [if_neg c1] at h; exact h)
    · -- on 7
      refine J_aload_n dX0_firstLast_7 rfl ?_
      refine M_getR dX0_firstLast_8 fX0_15 rfl rfl (by decide) ?_
      refine J_iconst (v := 0) dX0_firstLast_11 (by decide) ?_
      refine M_ialdE dX0_firstLast_12 rfl (by decide) (show (0 : Int32) = nI 0 from rfl) (by decide) ?_
      refine J_goto (tgt := 17) dX0_firstLast_13 (by decide) ?_
      refine M_iret dX0_firstLast_17 rfl rfl ?_
      first
      | (rw [if_pos c1] at h; exact h)
      | (rw [if_neg c1] at h; exact h)
  | n + 4, q => exact absurd q (by omega)
set_option maxRecDepth 100000 in
set_option maxHeartbeats 1000000 in
theorem tX5_faultFound {d : Nat} {M : Mem} {Φ : Option Int32 → Mem → Prop}  (h : Φ (some (M.1 25 4)) M) : JM noRo d mX5_faultFound 0 [some (.ref 25)] [] M Φ := by
  refine J_aload_n dX5_faultFound_0 rfl ?_
  refine M_getI dX5_faultFound_1 fX5_23 rfl rfl (by decide) ?_
  refine M_iret dX5_faultFound_4 rfl rfl ?_
  exact h
set_option maxRecDepth 100000 in
set_option maxHeartbeats 1000000 in
theorem tX5_faultPlace {d : Nat} {M : Mem} {Φ : Option Int32 → Mem → Prop}  (h : Φ (some (M.1 25 5)) M) : JM noRo d mX5_faultPlace 0 [some (.ref 25)] [] M Φ := by
  refine J_aload_n dX5_faultPlace_0 rfl ?_
  refine M_getI dX5_faultPlace_1 fX5_19 rfl rfl (by decide) ?_
  refine M_iret dX5_faultPlace_4 rfl rfl ?_
  exact h
set_option maxRecDepth 100000 in
set_option maxHeartbeats 1000000 in
theorem tX7_count {d : Nat} {M : Mem} {Φ : Option Int32 → Mem → Prop}  (h : Φ (some (M.1 20 5)) M) : JM noRo d mX7_count 0 [some (.ref 20)] [] M Φ := by
  refine J_aload_n dX7_count_0 rfl ?_
  refine M_getI dX7_count_1 fX7_25 rfl rfl (by decide) ?_
  refine M_iret dX7_count_4 rfl rfl ?_
  exact h
set_option maxRecDepth 100000 in
set_option maxHeartbeats 1000000 in
theorem tX7_clear {d : Nat} {M : Mem} {Φ : Option Int32 → Mem → Prop}  (h : Φ none (wr (wr M 15 4 0) 15 5 0)) : JM noRo d mX7_clear 0 [some (.ref 15)] [] M Φ := by
  refine J_aload_n dX7_clear_0 rfl ?_
  refine J_iconst (v := 0) dX7_clear_1 (by decide) ?_
  refine M_putI dX7_clear_2 pX7_29 rfl rfl (by decide) ?_
  refine J_aload_n dX7_clear_5 rfl ?_
  refine J_iconst (v := 0) dX7_clear_6 (by decide) ?_
  refine M_putI dX7_clear_7 pX7_25 rfl rfl (by decide) ?_
  refine M_vret dX7_clear_10 rfl ?_
  exact h
set_option maxRecDepth 100000 in
set_option maxHeartbeats 1000000 in
theorem tX7_emit {d : Nat} {M : Mem} {Φ : Option Int32 → Mem → Prop} {n : Nat} {x : Int32} (hn : M.1 15 4 = nI n) (hb : n < 1000) (h : Φ none (wr (wr M 16 n x) 15 4 (nI (n + 1)))) : JM noRo d mX7_emit 0 [some (.ref 15), some (.int x)] [] M Φ := by
  refine J_aload_n dX7_emit_0 rfl ?_
  refine M_getI dX7_emit_1 fX7_29 rfl rfl (by decide) ?_
  refine J_sipush (v := 1000) dX7_emit_4 (by decide) ?_
  refine J_icmp_ge (tgt := 30) dX7_emit_7 (by decide) (fun c1 => ?_) (fun c1 => ?_)
  · -- to 30
    exact absurd c1 (by rw [hn]; exact nI_ge (a := n) (b := 1000) hb (by decide))
  · -- on 10
    refine J_aload_n dX7_emit_10 rfl ?_
    refine M_getR dX7_emit_11 fX7_9 rfl rfl (by decide) ?_
    refine J_aload_n dX7_emit_14 rfl ?_
    refine M_getI dX7_emit_15 fX7_29 rfl rfl (by decide) ?_
    refine J_iload_n dX7_emit_18 rfl ?_
    refine M_iastE dX7_emit_19 rfl (by decide) (by first | rfl | assumption) (by omega) ?_
    refine J_aload_n dX7_emit_20 rfl ?_
    refine J_dup dX7_emit_21 rfl ?_
    refine M_getI dX7_emit_22 fX7_29 rfl rfl (by decide) ?_
    refine J_iconst (v := 1) dX7_emit_25 (by decide) ?_
    refine J_iadd dX7_emit_26 ?_
    simp only [rd2, ne_eq, Nat.reduceEqDiff, not_false_eq_true, hn, nI_1]
    refine M_putI dX7_emit_27 pX7_29 rfl rfl (by decide) ?_
    refine M_vret dX7_emit_30 rfl ?_
    exact h
set_option maxRecDepth 100000 in
set_option maxHeartbeats 1000000 in
theorem tX7_endRule {d : Nat} {M : Mem} {Φ : Option Int32 → Mem → Prop} {n : Nat} {x : Int32} (hn : M.1 15 5 = nI n) (hb : n < 12) (hx : x = 0 ∨ x = 1) (h : Φ none (wr (wr (wr M 18 n x) 15 5 (nI (n + 1))) 17 (n + 1) (M.1 15 4))) : JM noRo d mX7_endRule 0 [some (.ref 15), some (.int x)] [] M Φ := by
  refine J_aload_n dX7_endRule_0 rfl ?_
  refine M_getI dX7_endRule_1 fX7_25 rfl rfl (by decide) ?_
  refine J_bipush (v := 12) dX7_endRule_4 (by decide) ?_
  refine J_icmp_ge (tgt := 42) dX7_endRule_6 (by decide) (fun c1 => ?_) (fun c1 => ?_)
  · -- to 42
    exact absurd c1 (by rw [hn]; exact nI_ge (a := n) (b := 12) hb (by decide))
  · -- on 9
    refine J_aload_n dX7_endRule_9 rfl ?_
    refine M_getR dX7_endRule_10 fX7_18 rfl rfl (by decide) ?_
    refine J_aload_n dX7_endRule_13 rfl ?_
    refine M_getI dX7_endRule_14 fX7_25 rfl rfl (by decide) ?_
    refine J_iload_n dX7_endRule_17 rfl ?_
    refine M_zastE dX7_endRule_18 rfl (by decide) (by first | rfl | assumption) (by omega) (by first | assumption | exact Or.inl rfl | exact Or.inr rfl) ?_
    refine J_aload_n dX7_endRule_19 rfl ?_
    refine J_dup dX7_endRule_20 rfl ?_
    refine M_getI dX7_endRule_21 fX7_25 rfl rfl (by decide) ?_
    refine J_iconst (v := 1) dX7_endRule_24 (by decide) ?_
    refine J_iadd dX7_endRule_25 ?_
    simp only [rd2, ne_eq, Nat.reduceEqDiff, not_false_eq_true, hn, nI_1]
    refine M_putI dX7_endRule_26 pX7_25 rfl rfl (by decide) ?_
    refine J_aload_n dX7_endRule_29 rfl ?_
    refine M_getR dX7_endRule_30 fX7_15 rfl rfl (by decide) ?_
    refine J_aload_n dX7_endRule_33 rfl ?_
    refine M_getI dX7_endRule_34 fX7_25 rfl rfl (by decide) ?_
    refine J_aload_n dX7_endRule_37 rfl ?_
    refine M_getI dX7_endRule_38 fX7_29 rfl rfl (by decide) ?_
    simp only [rd1, rd2, rd3, ne_eq, Nat.reduceEqDiff, not_false_eq_true]
    refine M_iastE dX7_endRule_41 rfl (by decide) (by first | rfl | assumption) (by omega) ?_
    refine M_vret dX7_endRule_42 rfl ?_
    exact h

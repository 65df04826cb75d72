set_option maxRecDepth 100000 in
set_option maxHeartbeats 1000000 in
theorem tX12_isHorse {d : Nat} {M : Mem} {Φ : Option Int32 → Mem → Prop} {x : Int32} {n : Nat} (hn : M.1 62 1 = nI n) (hb : n ≤ 12) (h1 : ∀ j : Nat, j < n → x = nI j → Φ (some 1) M) (h0 : ¬ Ix x n → Φ (some 0) M) : JM noRo d mX12_isHorse 0 [some (.ref 62), some (.int x)] [] M Φ := by
  refine J_iload_n dX12_isHorse_0 rfl ?_
  refine J_if_lt (tgt := 16) dX12_isHorse_1 (by decide) (fun c1 => ?_) (fun c1 => ?_)
  · -- to 16
    refine J_iconst (v := 0) dX12_isHorse_16 (by decide) ?_
    refine M_zret dX12_isHorse_17 rfl (by first | assumption | exact Or.inl rfl | exact Or.inr rfl) ?_
    first
    | exact h0 (Ix_neg (by omega) c1)
    | exact h0 (Ix_big (by omega) (hn ▸ c2))
    | (obtain ⟨j, hj, e⟩ := Ix_of (by omega) c1 (hn ▸ c2); exact h1 j hj e)
  · -- on 4
    refine J_iload_n dX12_isHorse_4 rfl ?_
    refine J_aload_n dX12_isHorse_5 rfl ?_
    refine M_getI dX12_isHorse_6 fX12_132 rfl rfl (by decide) ?_
    refine J_icmp_ge (tgt := 16) dX12_isHorse_9 (by decide) (fun c2 => ?_) (fun c2 => ?_)
    · -- to 16
      refine J_iconst (v := 0) dX12_isHorse_16 (by decide) ?_
      refine M_zret dX12_isHorse_17 rfl (by first | assumption | exact Or.inl rfl | exact Or.inr rfl) ?_
      first
      | exact h0 (Ix_neg (by omega) c1)
      | exact h0 (Ix_big (by omega) (hn ▸ c2))
      | (obtain ⟨j, hj, e⟩ := Ix_of (by omega) c1 (hn ▸ c2); exact h1 j hj e)
    · -- on 12
      refine J_iconst (v := 1) dX12_isHorse_12 (by decide) ?_
      refine J_goto (tgt := 17) dX12_isHorse_13 (by decide) ?_
      refine M_zret dX12_isHorse_17 rfl (by first | assumption | exact Or.inl rfl | exact Or.inr rfl) ?_
      first
      | exact h0 (Ix_neg (by omega) c1)
      | exact h0 (Ix_big (by omega) (hn ▸ c2))
      | (obtain ⟨j, hj, e⟩ := Ix_of (by omega) c1 (hn ▸ c2); exact h1 j hj e)
set_option maxRecDepth 100000 in
set_option maxHeartbeats 1000000 in
theorem tX12_isField {d : Nat} {M : Mem} {Φ : Option Int32 → Mem → Prop} {x : Int32} (h1 : ∀ j : Nat, j < 6 → x = nI j → Φ (some 1) M) (h0 : ¬ Ix x 6 → Φ (some 0) M) : JM noRo d mX12_isField 0 [some (.int x)] [] M Φ := by
  refine J_iload_n dX12_isField_0 rfl ?_
  refine J_if_lt (tgt := 14) dX12_isField_1 (by decide) (fun c1 => ?_) (fun c1 => ?_)
  · -- to 14
    refine J_iconst (v := 0) dX12_isField_14 (by decide) ?_
    refine M_zret dX12_isField_15 rfl (by first | assumption | exact Or.inl rfl | exact Or.inr rfl) ?_
    first
    | exact h0 (Ix_neg (by omega) c1)
    | exact h0 (Ix_big (n := 6) (by omega) c2)
    | (obtain ⟨j, hj, e⟩ := Ix_of (n := 6) (by omega) c1 c2; exact h1 j hj e)
  · -- on 4
    refine J_iload_n dX12_isField_4 rfl ?_
    refine J_bipush (v := 6) dX12_isField_5 (by decide) ?_
    refine J_icmp_ge (tgt := 14) dX12_isField_7 (by decide) (fun c2 => ?_) (fun c2 => ?_)
    · -- to 14
      refine J_iconst (v := 0) dX12_isField_14 (by decide) ?_
      refine M_zret dX12_isField_15 rfl (by first | assumption | exact Or.inl rfl | exact Or.inr rfl) ?_
      first
      | exact h0 (Ix_neg (by omega) c1)
      | exact h0 (Ix_big (n := 6) (by omega) c2)
      | (obtain ⟨j, hj, e⟩ := Ix_of (n := 6) (by omega) c1 c2; exact h1 j hj e)
    · -- on 10
      refine J_iconst (v := 1) dX12_isField_10 (by decide) ?_
      refine J_goto (tgt := 15) dX12_isField_11 (by decide) ?_
      refine M_zret dX12_isField_15 rfl (by first | assumption | exact Or.inl rfl | exact Or.inr rfl) ?_
      first
      | exact h0 (Ix_neg (by omega) c1)
      | exact h0 (Ix_big (n := 6) (by omega) c2)
      | (obtain ⟨j, hj, e⟩ := Ix_of (n := 6) (by omega) c1 c2; exact h1 j hj e)
set_option maxRecDepth 100000 in
set_option maxHeartbeats 1000000 in
theorem tX12_isBin {d : Nat} {M : Mem} {Φ : Option Int32 → Mem → Prop} {x : Int32} (h1 : ∀ j : Nat, j < 4 → x = nI j → Φ (some 1) M) (h0 : ¬ Ix x 4 → Φ (some 0) M) : JM noRo d mX12_isBin 0 [some (.int x)] [] M Φ := by
  refine J_iload_n dX12_isBin_0 rfl ?_
  refine J_if_lt (tgt := 13) dX12_isBin_1 (by decide) (fun c1 => ?_) (fun c1 => ?_)
  · -- to 13
    refine J_iconst (v := 0) dX12_isBin_13 (by decide) ?_
    refine M_zret dX12_isBin_14 rfl (by first | assumption | exact Or.inl rfl | exact Or.inr rfl) ?_
    first
    | exact h0 (Ix_neg (by omega) c1)
    | exact h0 (Ix_big (n := 4) (by omega) c2)
    | (obtain ⟨j, hj, e⟩ := Ix_of (n := 4) (by omega) c1 c2; exact h1 j hj e)
  · -- on 4
    refine J_iload_n dX12_isBin_4 rfl ?_
    refine J_iconst (v := 4) dX12_isBin_5 (by decide) ?_
    refine J_icmp_ge (tgt := 13) dX12_isBin_6 (by decide) (fun c2 => ?_) (fun c2 => ?_)
    · -- to 13
      refine J_iconst (v := 0) dX12_isBin_13 (by decide) ?_
      refine M_zret dX12_isBin_14 rfl (by first | assumption | exact Or.inl rfl | exact Or.inr rfl) ?_
      first
      | exact h0 (Ix_neg (by omega) c1)
      | exact h0 (Ix_big (n := 4) (by omega) c2)
      | (obtain ⟨j, hj, e⟩ := Ix_of (n := 4) (by omega) c1 c2; exact h1 j hj e)
    · -- on 9
      refine J_iconst (v := 1) dX12_isBin_9 (by decide) ?_
      refine J_goto (tgt := 14) dX12_isBin_10 (by decide) ?_
      refine M_zret dX12_isBin_14 rfl (by first | assumption | exact Or.inl rfl | exact Or.inr rfl) ?_
      first
      | exact h0 (Ix_neg (by omega) c1)
      | exact h0 (Ix_big (n := 4) (by omega) c2)
      | (obtain ⟨j, hj, e⟩ := Ix_of (n := 4) (by omega) c1 c2; exact h1 j hj e)
set_option maxRecDepth 100000 in
set_option maxHeartbeats 1000000 in
theorem tM_horse {d : Nat} {M : Mem} {Φ : Option Int32 → Mem → Prop} {n : Nat} {x y : Int32} (hn : M.1 62 1 = nI n) (hb : n ≤ 12) (h0 : ¬ (Ix x 4 ∧ Ix y 41 ∧ n < 12) → Φ (some (-1)) M) (h1 : Ix x 4 → Ix y 41 → n < 12 → Φ (some (nI n)) (wr (wr (wr (wr (wr M 63 n x) 64 n y) 65 n (M.1 62 0)) 62 1 (nI (n + 1))) 62 12 0)) : JM noRo d mX12_horse 0 [some (.ref 62), some (.int x), some (.int y)] [] M Φ := by
  refine J_aload_n dX12_horse_0 rfl ?_
  refine M_getI dX12_horse_1 fX12_132 rfl rfl (by decide) ?_
  refine J_bipush (v := 12) dX12_horse_4 (by decide) ?_
  refine J_icmp_eq (tgt := 28) dX12_horse_6 (by decide) (fun c1 => ?_) (fun c1 => ?_)
  · -- to 28
    refine J_iconst (v := -1) dX12_horse_28 (by decide) ?_
    refine M_iret dX12_horse_29 rfl rfl ?_
    first
    | exact h0 (fun q => absurd ((nI_eq (a := n) (b := 12) (by omega) (by decide)).mp (hn ▸ c1)) (by omega))
    | exact h0 (fun q => Ix_neg (by decide) c1 q.1)
    | exact h0 (fun q => Ix_gt (n := 3) (by decide) (Int32.not_le.mpr c1) q.1)
    | exact h0 (fun q => Ix_neg (by decide) c1 q.2.1)
    | exact h0 (fun q => Ix_gt (n := 40) (by decide) c1 q.2.1)
    | (rw [nI_pred]; exact h1 (Ix_le (n := 3) (by decide) x0 (Int32.not_lt.mp x1)) (Ix_le (n := 40) (by decide) y0 y1) hlt)
  · -- on 9
    have hlt : n < 12 := by
      have : n ≠ 12 := fun q => c1 (by rw [hn, q]; rfl)
      omega
    refine J_iload_n dX12_horse_9 rfl ?_
    refine J_if_lt (tgt := 28) dX12_horse_10 (by decide) (fun c2 => ?_) (fun c2 => ?_)
    · -- to 28
      refine J_iconst (v := -1) dX12_horse_28 (by decide) ?_
      refine M_iret dX12_horse_29 rfl rfl ?_
      first
      | exact h0 (fun q => absurd ((nI_eq (a := n) (b := 12) (by omega) (by decide)).mp (hn ▸ c2)) (by omega))
      | exact h0 (fun q => Ix_neg (by decide) c2 q.1)
      | exact h0 (fun q => Ix_gt (n := 3) (by decide) (Int32.not_le.mpr c2) q.1)
      | exact h0 (fun q => Ix_neg (by decide) c2 q.2.1)
      | exact h0 (fun q => Ix_gt (n := 40) (by decide) c2 q.2.1)
      | (rw [nI_pred]; exact h1 (Ix_le (n := 3) (by decide) x0 (Int32.not_lt.mp x1)) (Ix_le (n := 40) (by decide) y0 y1) hlt)
    · -- on 13
      have x0 := c2
      refine J_iload_n dX12_horse_13 rfl ?_
      refine J_iconst (v := 3) dX12_horse_14 (by decide) ?_
      refine J_icmp_gt (tgt := 28) dX12_horse_15 (by decide) (fun c3 => ?_) (fun c3 => ?_)
      · -- to 28
        refine J_iconst (v := -1) dX12_horse_28 (by decide) ?_
        refine M_iret dX12_horse_29 rfl rfl ?_
        first
        | exact h0 (fun q => absurd ((nI_eq (a := n) (b := 12) (by omega) (by decide)).mp (hn ▸ c3)) (by omega))
        | exact h0 (fun q => Ix_neg (by decide) c3 q.1)
        | exact h0 (fun q => Ix_gt (n := 3) (by decide) (Int32.not_le.mpr c3) q.1)
        | exact h0 (fun q => Ix_neg (by decide) c3 q.2.1)
        | exact h0 (fun q => Ix_gt (n := 40) (by decide) c3 q.2.1)
        | (rw [nI_pred]; exact h1 (Ix_le (n := 3) (by decide) x0 (Int32.not_lt.mp x1)) (Ix_le (n := 40) (by decide) y0 y1) hlt)
      · -- on 18
        have x1 := c3
        refine J_iload_n dX12_horse_18 rfl ?_
        refine J_if_lt (tgt := 28) dX12_horse_19 (by decide) (fun c4 => ?_) (fun c4 => ?_)
        · -- to 28
          refine J_iconst (v := -1) dX12_horse_28 (by decide) ?_
          refine M_iret dX12_horse_29 rfl rfl ?_
          first
          | exact h0 (fun q => absurd ((nI_eq (a := n) (b := 12) (by omega) (by decide)).mp (hn ▸ c4)) (by omega))
          | exact h0 (fun q => Ix_neg (by decide) c4 q.1)
          | exact h0 (fun q => Ix_gt (n := 3) (by decide) (Int32.not_le.mpr c4) q.1)
          | exact h0 (fun q => Ix_neg (by decide) c4 q.2.1)
          | exact h0 (fun q => Ix_gt (n := 40) (by decide) c4 q.2.1)
          | (rw [nI_pred]; exact h1 (Ix_le (n := 3) (by decide) x0 (Int32.not_lt.mp x1)) (Ix_le (n := 40) (by decide) y0 y1) hlt)
        · -- on 22
          have y0 := c4
          refine J_iload_n dX12_horse_22 rfl ?_
          refine J_bipush (v := 40) dX12_horse_23 (by decide) ?_
          refine J_icmp_le (tgt := 30) dX12_horse_25 (by decide) (fun c5 => ?_) (fun c5 => ?_)
          · -- to 30
            have y1 := c5
            refine J_aload_n dX12_horse_30 rfl ?_
            refine M_getR dX12_horse_31 fX12_7 rfl rfl (by decide) ?_
            refine J_aload_n dX12_horse_34 rfl ?_
            refine M_getI dX12_horse_35 fX12_132 rfl rfl (by decide) ?_
            refine J_iload_n dX12_horse_38 rfl ?_
            refine M_iastE dX12_horse_39 rfl (by decide) (by first | rfl | assumption) (by omega) ?_
            refine J_aload_n dX12_horse_40 rfl ?_
            refine M_getR dX12_horse_41 fX12_13 rfl rfl (by decide) ?_
            refine J_aload_n dX12_horse_44 rfl ?_
            refine M_getI dX12_horse_45 fX12_132 rfl rfl (by decide) ?_
            refine J_iload_n dX12_horse_48 rfl ?_
            refine M_iastE dX12_horse_49 rfl (by decide) (by simpa only [rd2, ne_eq, Nat.reduceEqDiff, not_false_eq_true] using hn) (by omega) ?_
            refine J_aload_n dX12_horse_50 rfl ?_
            refine M_getR dX12_horse_51 fX12_16 rfl rfl (by decide) ?_
            refine J_aload_n dX12_horse_54 rfl ?_
            refine M_getI dX12_horse_55 fX12_132 rfl rfl (by decide) ?_
            refine J_aload_n dX12_horse_58 rfl ?_
            refine M_getI dX12_horse_59 fX12_135 rfl rfl (by decide) ?_
            simp only [rd1, rd2, rd3, ne_eq, Nat.reduceEqDiff, not_false_eq_true]
            refine M_iastE dX12_horse_62 rfl (by decide) (by simpa only [rd2, ne_eq, Nat.reduceEqDiff, not_false_eq_true] using hn) (by omega) ?_
            refine J_aload_n dX12_horse_63 rfl ?_
            refine J_dup dX12_horse_64 rfl ?_
            refine M_getI dX12_horse_65 fX12_132 rfl rfl (by decide) ?_
            refine J_iconst (v := 1) dX12_horse_68 (by decide) ?_
            refine J_iadd dX12_horse_69 ?_
            simp only [rd2, ne_eq, Nat.reduceEqDiff, not_false_eq_true, hn, nI_1]
            refine M_putI dX12_horse_70 pX12_132 rfl rfl (by decide) ?_
            refine J_aload_n dX12_horse_73 rfl ?_
            refine J_iconst (v := 0) dX12_horse_74 (by decide) ?_
            refine M_putZ dX12_horse_75 pX12_138 rfl rfl (by decide) (by first | assumption | exact Or.inl rfl | exact Or.inr rfl) ?_
            refine J_aload_n dX12_horse_78 rfl ?_
            refine M_getI dX12_horse_79 fX12_132 rfl rfl (by decide) ?_
            refine J_iconst (v := 1) dX12_horse_82 (by decide) ?_
            simp only [rd1, rd2, rd3, ne_eq, Nat.reduceEqDiff, not_false_eq_true]
            refine J_isub dX12_horse_83 ?_
            refine M_iret dX12_horse_84 rfl rfl ?_
            first
            | exact h0 (fun q => absurd ((nI_eq (a := n) (b := 12) (by omega) (by decide)).mp (hn ▸ c5)) (by omega))
            | exact h0 (fun q => Ix_neg (by decide) c5 q.1)
            | exact h0 (fun q => Ix_gt (n := 3) (by decide) (Int32.not_le.mpr c5) q.1)
            | exact h0 (fun q => Ix_neg (by decide) c5 q.2.1)
            | exact h0 (fun q => Ix_gt (n := 40) (by decide) c5 q.2.1)
            | (rw [nI_pred]; exact h1 (Ix_le (n := 3) (by decide) x0 (Int32.not_lt.mp x1)) (Ix_le (n := 40) (by decide) y0 y1) hlt)
          · -- on 28
            refine J_iconst (v := -1) dX12_horse_28 (by decide) ?_
            refine M_iret dX12_horse_29 rfl rfl ?_
            first
            | exact h0 (fun q => absurd ((nI_eq (a := n) (b := 12) (by omega) (by decide)).mp (hn ▸ c5)) (by omega))
            | exact h0 (fun q => Ix_neg (by decide) c5 q.1)
            | exact h0 (fun q => Ix_gt (n := 3) (by decide) (Int32.not_le.mpr c5) q.1)
            | exact h0 (fun q => Ix_neg (by decide) c5 q.2.1)
            | exact h0 (fun q => Ix_gt (n := 40) (by decide) c5 q.2.1)
            | (rw [nI_pred]; exact h1 (Ix_le (n := 3) (by decide) x0 (Int32.not_lt.mp x1)) (Ix_le (n := 40) (by decide) y0 y1) hlt)
set_option maxRecDepth 100000 in
set_option maxHeartbeats 1000000 in
theorem tM_lame {d : Nat} {M : Mem} {Φ : Option Int32 → Mem → Prop} {n : Nat} {x z : Int32} (hn : M.1 62 1 = nI n) (hb : n ≤ 12) (hz : z = 0 ∨ z = 1) (h0 : ¬ Ix x n → Φ (some 0) M) (h1 : ∀ j : Nat, j < n → x = nI j → Φ (some 1) (wr (wr M 66 j z) 62 12 0)) : JM noRo (d + 1) mX12_lame 0 [some (.ref 62), some (.int x), some (.int z)] [] M Φ := by
  refine J_aload_n dX12_lame_0 rfl ?_
  refine J_iload_n dX12_lame_1 rfl ?_
  refine M_callV1 (mc := mX12_isHorse) dX12_lame_2 kX12_142 oX12_isHorse (Nat.le_of_ble_eq_true rfl) (Nat.le_of_ble_eq_true rfl) rfl (by decide) rfl ?_
  refine tX12_isHorse hn hb (fun j hj ej => ?_) (fun q1 => ?_)
  · -- true
    subst ej
    refine J_if_ne (tgt := 10) dX12_lame_5 (by decide) (fun c2 => ?_) (fun c2 => ?_)
    · -- to 10
      refine J_aload_n dX12_lame_10 rfl ?_
      refine M_getR dX12_lame_11 fX12_19 rfl rfl (by decide) ?_
      refine J_iload_n dX12_lame_14 rfl ?_
      refine J_iload_n dX12_lame_15 rfl ?_
      refine J_if_eq (tgt := 23) dX12_lame_16 (by decide) (fun c3 => ?_) (fun c3 => ?_)
      · -- to 23
        subst c3
        refine J_iconst (v := 0) dX12_lame_23 (by decide) ?_
        refine M_iastE dX12_lame_24 rfl (by decide) (by first | rfl | assumption) (by omega) ?_
        refine J_aload_n dX12_lame_25 rfl ?_
        refine J_iconst (v := 0) dX12_lame_26 (by decide) ?_
        refine M_putZ dX12_lame_27 pX12_138 rfl rfl (by decide) (by first | assumption | exact Or.inl rfl | exact Or.inr rfl) ?_
        refine J_iconst (v := 1) dX12_lame_30 (by decide) ?_
        refine M_zret dX12_lame_31 rfl (by first | assumption | exact Or.inl rfl | exact Or.inr rfl) ?_
        first
        | exact h0 q1
        | exact h1 j hj rfl
      · -- on 19
        obtain rfl : z = 1 := hz.resolve_left c3
        refine J_iconst (v := 1) dX12_lame_19 (by decide) ?_
        refine J_goto (tgt := 24) dX12_lame_20 (by decide) ?_
        refine M_iastE dX12_lame_24 rfl (by decide) (by first | rfl | assumption) (by omega) ?_
        refine J_aload_n dX12_lame_25 rfl ?_
        refine J_iconst (v := 0) dX12_lame_26 (by decide) ?_
        refine M_putZ dX12_lame_27 pX12_138 rfl rfl (by decide) (by first | assumption | exact Or.inl rfl | exact Or.inr rfl) ?_
        refine J_iconst (v := 1) dX12_lame_30 (by decide) ?_
        refine M_zret dX12_lame_31 rfl (by first | assumption | exact Or.inl rfl | exact Or.inr rfl) ?_
        first
        | exact h0 q1
        | exact h1 j hj rfl
    · -- on 8
      exact absurd c2 (by decide)
  · -- false
    refine J_if_ne (tgt := 10) dX12_lame_5 (by decide) (fun c4 => ?_) (fun c4 => ?_)
    · -- to 10
      exact absurd c4 (by decide)
    · -- on 8
      refine J_iconst (v := 0) dX12_lame_8 (by decide) ?_
      refine M_zret dX12_lame_9 rfl (by first | assumption | exact Or.inl rfl | exact Or.inr rfl) ?_
      first
      | exact h0 q1
      | exact h1 j hj rfl
set_option maxRecDepth 100000 in
set_option maxHeartbeats 1000000 in
theorem tM_field {d : Nat} {M : Mem} {Φ : Option Int32 → Mem → Prop} {x y z : Int32} (h0 : ¬ (Ix x 6 ∧ Ix y 7 ∧ Ix z 10) → Φ (some 0) M) (h1 : ∀ j : Nat, j < 6 → x = nI j → Ix y 7 → Ix z 10 → Φ (some 1) (wr (wr (wr M 69 j y) 70 j z) 62 12 0)) : JM noRo (d + 1) mX12_field 0 [some (.ref 62), some (.int x), some (.int y), some (.int z)] [] M Φ := by
  refine J_iload_n dX12_field_0 rfl ?_
  refine M_callS1 (mc := mX12_isField) dX12_field_1 kX12_146 oX12_isField (Nat.le_of_ble_eq_true rfl) (Nat.le_of_ble_eq_true rfl) ?_
  refine tX12_isField (fun j hj ej => ?_) (fun q1 => ?_)
  · -- true
    subst ej
    refine J_if_eq (tgt := 27) dX12_field_4 (by decide) (fun c2 => ?_) (fun c2 => ?_)
    · -- to 27
      exact absurd c2 (by decide)
    · -- on 7
      refine J_iload_n dX12_field_7 rfl ?_
      refine J_if_lt (tgt := 27) dX12_field_8 (by decide) (fun c3 => ?_) (fun c3 => ?_)
      · -- to 27
        refine J_iconst (v := 0) dX12_field_27 (by decide) ?_
        refine M_zret dX12_field_28 rfl (by first | assumption | exact Or.inl rfl | exact Or.inr rfl) ?_
        first
        | exact h0 (fun q => q1 q.1)
        | exact h0 (fun q => Ix_neg (by decide) c3 q.2.1)
        | exact h0 (fun q => Ix_gt (n := 6) (by decide) (Int32.not_le.mpr c3) q.2.1)
        | exact h0 (fun q => Ix_neg (by decide) c3 q.2.2)
        | exact h0 (fun q => Ix_gt (n := 9) (by decide) c3 q.2.2)
        | exact h1 j hj rfl (Ix_le (n := 6) (by decide) y0 (Int32.not_lt.mp y1)) (Ix_le (n := 9) (by decide) z0 z1)
      · -- on 11
        have y0 := c3
        refine J_iload_n dX12_field_11 rfl ?_
        refine J_bipush (v := 6) dX12_field_12 (by decide) ?_
        refine J_icmp_gt (tgt := 27) dX12_field_14 (by decide) (fun c4 => ?_) (fun c4 => ?_)
        · -- to 27
          refine J_iconst (v := 0) dX12_field_27 (by decide) ?_
          refine M_zret dX12_field_28 rfl (by first | assumption | exact Or.inl rfl | exact Or.inr rfl) ?_
          first
          | exact h0 (fun q => q1 q.1)
          | exact h0 (fun q => Ix_neg (by decide) c4 q.2.1)
          | exact h0 (fun q => Ix_gt (n := 6) (by decide) (Int32.not_le.mpr c4) q.2.1)
          | exact h0 (fun q => Ix_neg (by decide) c4 q.2.2)
          | exact h0 (fun q => Ix_gt (n := 9) (by decide) c4 q.2.2)
          | exact h1 j hj rfl (Ix_le (n := 6) (by decide) y0 (Int32.not_lt.mp y1)) (Ix_le (n := 9) (by decide) z0 z1)
        · -- on 17
          have y1 := c4
          refine J_iload_n dX12_field_17 rfl ?_
          refine J_if_lt (tgt := 27) dX12_field_18 (by decide) (fun c5 => ?_) (fun c5 => ?_)
          · -- to 27
            refine J_iconst (v := 0) dX12_field_27 (by decide) ?_
            refine M_zret dX12_field_28 rfl (by first | assumption | exact Or.inl rfl | exact Or.inr rfl) ?_
            first
            | exact h0 (fun q => q1 q.1)
            | exact h0 (fun q => Ix_neg (by decide) c5 q.2.1)
            | exact h0 (fun q => Ix_gt (n := 6) (by decide) (Int32.not_le.mpr c5) q.2.1)
            | exact h0 (fun q => Ix_neg (by decide) c5 q.2.2)
            | exact h0 (fun q => Ix_gt (n := 9) (by decide) c5 q.2.2)
            | exact h1 j hj rfl (Ix_le (n := 6) (by decide) y0 (Int32.not_lt.mp y1)) (Ix_le (n := 9) (by decide) z0 z1)
          · -- on 21
            have z0 := c5
            refine J_iload_n dX12_field_21 rfl ?_
            refine J_bipush (v := 9) dX12_field_22 (by decide) ?_
            refine J_icmp_le (tgt := 29) dX12_field_24 (by decide) (fun c6 => ?_) (fun c6 => ?_)
            · -- to 29
              have z1 := c6
              refine J_aload_n dX12_field_29 rfl ?_
              refine M_getR dX12_field_30 fX12_28 rfl rfl (by decide) ?_
              refine J_iload_n dX12_field_33 rfl ?_
              refine J_iload_n dX12_field_34 rfl ?_
              refine M_iastE dX12_field_35 rfl (by decide) (by first | rfl | assumption) (by omega) ?_
              refine J_aload_n dX12_field_36 rfl ?_
              refine M_getR dX12_field_37 fX12_31 rfl rfl (by decide) ?_
              refine J_iload_n dX12_field_40 rfl ?_
              refine J_iload_n dX12_field_41 rfl ?_
              refine M_iastE dX12_field_42 rfl (by decide) (by first | rfl | assumption) (by omega) ?_
              refine J_aload_n dX12_field_43 rfl ?_
              refine J_iconst (v := 0) dX12_field_44 (by decide) ?_
              refine M_putZ dX12_field_45 pX12_138 rfl rfl (by decide) (by first | assumption | exact Or.inl rfl | exact Or.inr rfl) ?_
              refine J_iconst (v := 1) dX12_field_48 (by decide) ?_
              refine M_zret dX12_field_49 rfl (by first | assumption | exact Or.inl rfl | exact Or.inr rfl) ?_
              first
              | exact h0 (fun q => q1 q.1)
              | exact h0 (fun q => Ix_neg (by decide) c6 q.2.1)
              | exact h0 (fun q => Ix_gt (n := 6) (by decide) (Int32.not_le.mpr c6) q.2.1)
              | exact h0 (fun q => Ix_neg (by decide) c6 q.2.2)
              | exact h0 (fun q => Ix_gt (n := 9) (by decide) c6 q.2.2)
              | exact h1 j hj rfl (Ix_le (n := 6) (by decide) y0 (Int32.not_lt.mp y1)) (Ix_le (n := 9) (by decide) z0 z1)
            · -- on 27
              refine J_iconst (v := 0) dX12_field_27 (by decide) ?_
              refine M_zret dX12_field_28 rfl (by first | assumption | exact Or.inl rfl | exact Or.inr rfl) ?_
              first
              | exact h0 (fun q => q1 q.1)
              | exact h0 (fun q => Ix_neg (by decide) c6 q.2.1)
              | exact h0 (fun q => Ix_gt (n := 6) (by decide) (Int32.not_le.mpr c6) q.2.1)
              | exact h0 (fun q => Ix_neg (by decide) c6 q.2.2)
              | exact h0 (fun q => Ix_gt (n := 9) (by decide) c6 q.2.2)
              | exact h1 j hj rfl (Ix_le (n := 6) (by decide) y0 (Int32.not_lt.mp y1)) (Ix_le (n := 9) (by decide) z0 z1)
  · -- false
    refine J_if_eq (tgt := 27) dX12_field_4 (by decide) (fun c7 => ?_) (fun c7 => ?_)
    · -- to 27
      refine J_iconst (v := 0) dX12_field_27 (by decide) ?_
      refine M_zret dX12_field_28 rfl (by first | assumption | exact Or.inl rfl | exact Or.inr rfl) ?_
      first
      | exact h0 (fun q => q1 q.1)
      | exact h0 (fun q => Ix_neg (by decide) c7 q.2.1)
      | exact h0 (fun q => Ix_gt (n := 6) (by decide) (Int32.not_le.mpr c7) q.2.1)
      | exact h0 (fun q => Ix_neg (by decide) c7 q.2.2)
      | exact h0 (fun q => Ix_gt (n := 9) (by decide) c7 q.2.2)
      | exact h1 j hj rfl (Ix_le (n := 6) (by decide) y0 (Int32.not_lt.mp y1)) (Ix_le (n := 9) (by decide) z0 z1)
    · -- on 7
      exact absurd c7 (by decide)
set_option maxRecDepth 100000 in
set_option maxHeartbeats 1000000 in
theorem tM_shut {d : Nat} {M : Mem} {Φ : Option Int32 → Mem → Prop} {x y : Int32} (h0 : ¬ (Ix x 6 ∧ Ix y 100001) → Φ (some 0) M) (h1 : ∀ j : Nat, j < 6 → x = nI j → Ix y 100001 → Φ (some 1) (wr (wr M 71 j y) 62 12 0)) : JM noRo (d + 1) mX12_shut 0 [some (.ref 62), some (.int x), some (.int y)] [] M Φ := by
  refine J_iload_n dX12_shut_0 rfl ?_
  refine M_callS1 (mc := mX12_isField) dX12_shut_1 kX12_146 oX12_isField (Nat.le_of_ble_eq_true rfl) (Nat.le_of_ble_eq_true rfl) ?_
  refine tX12_isField (fun j hj ej => ?_) (fun q1 => ?_)
  · -- true
    subst ej
    refine J_if_eq (tgt := 17) dX12_shut_4 (by decide) (fun c2 => ?_) (fun c2 => ?_)
    · -- to 17
      exact absurd c2 (by decide)
    · -- on 7
      refine J_iload_n dX12_shut_7 rfl ?_
      refine J_if_lt (tgt := 17) dX12_shut_8 (by decide) (fun c3 => ?_) (fun c3 => ?_)
      · -- to 17
        refine J_iconst (v := 0) dX12_shut_17 (by decide) ?_
        refine M_zret dX12_shut_18 rfl (by first | assumption | exact Or.inl rfl | exact Or.inr rfl) ?_
        first
        | exact h0 (fun q => q1 q.1)
        | exact h0 (fun q => Ix_neg (by decide) c3 q.2)
        | exact h0 (fun q => Ix_gt (n := 100000) (by decide) c3 q.2)
        | exact h1 j hj rfl (Ix_le (n := 100000) (by decide) y0 y1)
      · -- on 11
        have y0 := c3
        refine J_iload_n dX12_shut_11 rfl ?_
        refine J_ldc dX12_shut_12 ccX12_149 ?_
        refine J_icmp_le (tgt := 19) dX12_shut_14 (by decide) (fun c4 => ?_) (fun c4 => ?_)
        · -- to 19
          have y1 := c4
          refine J_aload_n dX12_shut_19 rfl ?_
          refine M_getR dX12_shut_20 fX12_34 rfl rfl (by decide) ?_
          refine J_iload_n dX12_shut_23 rfl ?_
          refine J_iload_n dX12_shut_24 rfl ?_
          refine M_iastE dX12_shut_25 rfl (by decide) (by first | rfl | assumption) (by omega) ?_
          refine J_aload_n dX12_shut_26 rfl ?_
          refine J_iconst (v := 0) dX12_shut_27 (by decide) ?_
          refine M_putZ dX12_shut_28 pX12_138 rfl rfl (by decide) (by first | assumption | exact Or.inl rfl | exact Or.inr rfl) ?_
          refine J_iconst (v := 1) dX12_shut_31 (by decide) ?_
          refine M_zret dX12_shut_32 rfl (by first | assumption | exact Or.inl rfl | exact Or.inr rfl) ?_
          first
          | exact h0 (fun q => q1 q.1)
          | exact h0 (fun q => Ix_neg (by decide) c4 q.2)
          | exact h0 (fun q => Ix_gt (n := 100000) (by decide) c4 q.2)
          | exact h1 j hj rfl (Ix_le (n := 100000) (by decide) y0 y1)
        · -- on 17
          refine J_iconst (v := 0) dX12_shut_17 (by decide) ?_
          refine M_zret dX12_shut_18 rfl (by first | assumption | exact Or.inl rfl | exact Or.inr rfl) ?_
          first
          | exact h0 (fun q => q1 q.1)
          | exact h0 (fun q => Ix_neg (by decide) c4 q.2)
          | exact h0 (fun q => Ix_gt (n := 100000) (by decide) c4 q.2)
          | exact h1 j hj rfl (Ix_le (n := 100000) (by decide) y0 y1)
  · -- false
    refine J_if_eq (tgt := 17) dX12_shut_4 (by decide) (fun c5 => ?_) (fun c5 => ?_)
    · -- to 17
      refine J_iconst (v := 0) dX12_shut_17 (by decide) ?_
      refine M_zret dX12_shut_18 rfl (by first | assumption | exact Or.inl rfl | exact Or.inr rfl) ?_
      first
      | exact h0 (fun q => q1 q.1)
      | exact h0 (fun q => Ix_neg (by decide) c5 q.2)
      | exact h0 (fun q => Ix_gt (n := 100000) (by decide) c5 q.2)
      | exact h1 j hj rfl (Ix_le (n := 100000) (by decide) y0 y1)
    · -- on 7
      exact absurd c5 (by decide)
set_option maxRecDepth 100000 in
set_option maxHeartbeats 1000000 in
theorem tM_gate {d : Nat} {M : Mem} {Φ : Option Int32 → Mem → Prop} {x y z : Int32} (hz : z = 0 ∨ z = 1) (h0 : ¬ (Ix x 6 ∧ Ix y 6 ∧ x ≠ y) → Φ (some 0) M) (h1 : ∀ u v : Nat, u < 6 → v < 6 → x = nI u → y = nI v → x ≠ y → Φ (some 1) (wr (wr (wr M 72 (u * 6 + v) z) 72 (v * 6 + u) z) 62 12 0)) : JM noRo (d + 1) mX12_gate 0 [some (.ref 62), some (.int x), some (.int y), some (.int z)] [] M Φ := by
  refine J_iload_n dX12_gate_0 rfl ?_
  refine M_callS1 (mc := mX12_isField) dX12_gate_1 kX12_146 oX12_isField (Nat.le_of_ble_eq_true rfl) (Nat.le_of_ble_eq_true rfl) ?_
  refine tX12_isField (fun u hu eu => ?_) (fun q1 => ?_)
  · -- true
    subst eu
    refine J_if_eq (tgt := 19) dX12_gate_4 (by decide) (fun c2 => ?_) (fun c2 => ?_)
    · -- to 19
      exact absurd c2 (by decide)
    · -- on 7
      refine J_iload_n dX12_gate_7 rfl ?_
      refine M_callS1 (mc := mX12_isField) dX12_gate_8 kX12_146 oX12_isField (Nat.le_of_ble_eq_true rfl) (Nat.le_of_ble_eq_true rfl) ?_
      refine tX12_isField (fun v hv ev => ?_) (fun q2 => ?_)
      · -- true
        subst ev
        refine J_if_eq (tgt := 19) dX12_gate_11 (by decide) (fun c4 => ?_) (fun c4 => ?_)
        · -- to 19
          exact absurd c4 (by decide)
        · -- on 14
          refine J_iload_n dX12_gate_14 rfl ?_
          refine J_iload_n dX12_gate_15 rfl ?_
          refine J_icmp_ne (tgt := 21) dX12_gate_16 (by decide) (fun c5 => ?_) (fun c5 => ?_)
          · -- to 21
            have xy := c5
            refine J_aload_n dX12_gate_21 rfl ?_
            refine M_getR dX12_gate_22 fX12_37 rfl rfl (by decide) ?_
            refine J_bipush (v := 6) dX12_gate_25 (by decide) ?_
            refine J_iload_n dX12_gate_27 rfl ?_
            refine J_imul dX12_gate_28 ?_
            refine J_iload_n dX12_gate_29 rfl ?_
            refine J_iadd dX12_gate_30 ?_
            refine J_iload_n dX12_gate_31 rfl ?_
            refine M_zastE dX12_gate_32 rfl (by decide) (show (6 : Int32) * nI u + nI v = nI (u * 6 + v) from by rw [Nat.mul_comm u 6]; exact ixm2 u 6 v) (by omega) (by first | assumption | exact Or.inl rfl | exact Or.inr rfl) ?_
            refine J_aload_n dX12_gate_33 rfl ?_
            refine M_getR dX12_gate_34 fX12_37 rfl rfl (by decide) ?_
            refine J_bipush (v := 6) dX12_gate_37 (by decide) ?_
            refine J_iload_n dX12_gate_39 rfl ?_
            refine J_imul dX12_gate_40 ?_
            refine J_iload_n dX12_gate_41 rfl ?_
            refine J_iadd dX12_gate_42 ?_
            refine J_iload_n dX12_gate_43 rfl ?_
            refine M_zastE dX12_gate_44 rfl (by decide) (show (6 : Int32) * nI v + nI u = nI (v * 6 + u) from by rw [Nat.mul_comm v 6]; exact ixm2 v 6 u) (by omega) (by first | assumption | exact Or.inl rfl | exact Or.inr rfl) ?_
            refine J_aload_n dX12_gate_45 rfl ?_
            refine J_iconst (v := 0) dX12_gate_46 (by decide) ?_
            refine M_putZ dX12_gate_47 pX12_138 rfl rfl (by decide) (by first | assumption | exact Or.inl rfl | exact Or.inr rfl) ?_
            refine J_iconst (v := 1) dX12_gate_50 (by decide) ?_
            refine M_zret dX12_gate_51 rfl (by first | assumption | exact Or.inl rfl | exact Or.inr rfl) ?_
            first
            | exact h0 (fun q => q1 q.1)
            | exact h0 (fun q => q2 q.2.1)
            | exact h0 (fun q => q.2.2 c5)
            | exact h1 u v hu hv rfl rfl xy
          · -- on 19
            refine J_iconst (v := 0) dX12_gate_19 (by decide) ?_
            refine M_zret dX12_gate_20 rfl (by first | assumption | exact Or.inl rfl | exact Or.inr rfl) ?_
            first
            | exact h0 (fun q => q1 q.1)
            | exact h0 (fun q => q2 q.2.1)
            | exact h0 (fun q => q.2.2 c5)
            | exact h1 u v hu hv rfl rfl xy
      · -- false
        refine J_if_eq (tgt := 19) dX12_gate_11 (by decide) (fun c6 => ?_) (fun c6 => ?_)
        · -- to 19
          refine J_iconst (v := 0) dX12_gate_19 (by decide) ?_
          refine M_zret dX12_gate_20 rfl (by first | assumption | exact Or.inl rfl | exact Or.inr rfl) ?_
          first
          | exact h0 (fun q => q1 q.1)
          | exact h0 (fun q => q2 q.2.1)
          | exact h0 (fun q => q.2.2 c6)
          | exact h1 u v hu hv rfl rfl xy
        · -- on 14
          exact absurd c6 (by decide)
  · -- false
    refine J_if_eq (tgt := 19) dX12_gate_4 (by decide) (fun c7 => ?_) (fun c7 => ?_)
    · -- to 19
      refine J_iconst (v := 0) dX12_gate_19 (by decide) ?_
      refine M_zret dX12_gate_20 rfl (by first | assumption | exact Or.inl rfl | exact Or.inr rfl) ?_
      first
      | exact h0 (fun q => q1 q.1)
      | exact h0 (fun q => q2 q.2.1)
      | exact h0 (fun q => q.2.2 c7)
      | exact h1 u v hu hv rfl rfl xy
    · -- on 7
      exact absurd c7 (by decide)
set_option maxRecDepth 100000 in
set_option maxHeartbeats 1000000 in
theorem tM_end {d : Nat} {M : Mem} {Φ : Option Int32 → Mem → Prop} {n : Nat} {x : Int32} (hn : M.1 62 26 = nI n) (hb : n ≤ 1000) (h0 : ¬ Ix x (n + 1) → Φ (some (-1)) M) (h1 : Ix x (n + 1) → Φ (some x) (wr M 62 26 x)) : JM noRo d mX12_end 0 [some (.ref 62), some (.int x)] [] M Φ := by
  refine J_iload_n dX12_end_0 rfl ?_
  refine J_if_lt (tgt := 12) dX12_end_1 (by decide) (fun c1 => ?_) (fun c1 => ?_)
  · -- to 12
    refine J_iconst (v := -1) dX12_end_12 (by decide) ?_
    refine M_iret dX12_end_13 rfl rfl ?_
    first
    | exact h0 (Ix_neg (by omega) c1)
    | exact h0 (Ix_gt (by omega) (hn ▸ c1))
    | exact h1 (Ix_le (by omega) x0 (hn ▸ x1))
  · -- on 4
    have x0 := c1
    refine J_iload_n dX12_end_4 rfl ?_
    refine J_aload_n dX12_end_5 rfl ?_
    refine M_getI dX12_end_6 fX12_150 rfl rfl (by decide) ?_
    refine J_icmp_le (tgt := 14) dX12_end_9 (by decide) (fun c2 => ?_) (fun c2 => ?_)
    · -- to 14
      have x1 := c2
      refine J_aload_n dX12_end_14 rfl ?_
      refine J_iload_n dX12_end_15 rfl ?_
      refine M_putI dX12_end_16 pX12_150 rfl rfl (by decide) ?_
      refine J_iload_n dX12_end_19 rfl ?_
      refine M_iret dX12_end_20 rfl rfl ?_
      first
      | exact h0 (Ix_neg (by omega) c2)
      | exact h0 (Ix_gt (by omega) (hn ▸ c2))
      | exact h1 (Ix_le (by omega) x0 (hn ▸ x1))
    · -- on 12
      refine J_iconst (v := -1) dX12_end_12 (by decide) ?_
      refine M_iret dX12_end_13 rfl rfl ?_
      first
      | exact h0 (Ix_neg (by omega) c2)
      | exact h0 (Ix_gt (by omega) (hn ▸ c2))
      | exact h1 (Ix_le (by omega) x0 (hn ▸ x1))
set_option maxRecDepth 100000 in
set_option maxHeartbeats 1000000 in
theorem tM_feed {d : Nat} {M : Mem} {Φ : Option Int32 → Mem → Prop} {n : Nat} {x1 x2 x3 x4 x5 : Int32} (hn : M.1 62 26 = nI n) (hb : n ≤ 1000) (h0 : ¬ n + 20 ≤ 1000 → Φ (some (-1)) M) (h1 : n + 20 ≤ 1000 → Φ (some (nI (n + 20))) (wr (wa M 81 (ap20 (M.1 81) n x1 x2 x3 x4 x5)) 62 26 (nI (n + 20)))) : JM noRo (d + 1) mX12_feed 0 [some (.ref 62), some (.int x1), some (.int x2), some (.int x3), some (.int x4), some (.int x5)] [] M Φ := by
  refine J_aload_n dX12_feed_0 rfl ?_
  refine M_getI dX12_feed_1 fX12_150 rfl rfl (by decide) ?_
  refine J_bipush (v := 20) dX12_feed_4 (by decide) ?_
  refine J_iadd dX12_feed_6 ?_
  refine J_sipush (v := 1000) dX12_feed_7 (by decide) ?_
  refine J_icmp_le (tgt := 15) dX12_feed_10 (by decide) (fun c1 => ?_) (fun c1 => ?_)
  · -- to 15
    have hle0 : n + 20 ≤ 1000 := by
      rcases Nat.lt_or_ge 1000 (n + 20) with q | q
      · exact absurd (by rw [hn] at c1; exact (show nI (n + 20) ≤ nI 1000 from by rw [← nI_add]; exact c1)) (nI_ge q (by omega))
      · exact q
    refine J_aload_n dX12_feed_15 rfl ?_
    refine J_iload_n dX12_feed_16 rfl ?_
    refine M_callV1 (mc := mX12_four) dX12_feed_17 kX12_153 oX12_four (Nat.le_of_ble_eq_true rfl) (Nat.le_of_ble_eq_true rfl) rfl (by decide) rfl ?_
    refine tX12_four (n := n + 0) (by first | exact hn | exact rd1) (by omega) ?_
    refine J_aload_n dX12_feed_20 rfl ?_
    refine J_iload_n dX12_feed_21 rfl ?_
    refine M_callV1 (mc := mX12_four) dX12_feed_22 kX12_153 oX12_four (Nat.le_of_ble_eq_true rfl) (Nat.le_of_ble_eq_true rfl) rfl (by decide) rfl ?_
    refine tX12_four (n := n + 4) (by first | exact hn | exact rd1) (by omega) ?_
    refine J_aload_n dX12_feed_25 rfl ?_
    refine J_iload_n dX12_feed_26 rfl ?_
    refine M_callV1 (mc := mX12_four) dX12_feed_27 kX12_153 oX12_four (Nat.le_of_ble_eq_true rfl) (Nat.le_of_ble_eq_true rfl) rfl (by decide) rfl ?_
    refine tX12_four (n := n + 8) (by first | exact hn | exact rd1) (by omega) ?_
    refine J_aload_n dX12_feed_30 rfl ?_
    refine J_iload dX12_feed_31 rfl ?_
    refine M_callV1 (mc := mX12_four) dX12_feed_33 kX12_153 oX12_four (Nat.le_of_ble_eq_true rfl) (Nat.le_of_ble_eq_true rfl) rfl (by decide) rfl ?_
    refine tX12_four (n := n + 12) (by first | exact hn | exact rd1) (by omega) ?_
    refine J_aload_n dX12_feed_36 rfl ?_
    refine J_iload dX12_feed_37 rfl ?_
    refine M_callV1 (mc := mX12_four) dX12_feed_39 kX12_153 oX12_four (Nat.le_of_ble_eq_true rfl) (Nat.le_of_ble_eq_true rfl) rfl (by decide) rfl ?_
    refine tX12_four (n := n + 16) (by first | exact hn | exact rd1) (by omega) ?_
    refine J_aload_n dX12_feed_42 rfl ?_
    refine M_getI dX12_feed_43 fX12_150 rfl rfl (by decide) ?_
    refine M_iret dX12_feed_46 rfl rfl ?_
    first
    | exact h0 (fun q => c1 (by rw [hn]; exact (show nI n + nI 20 ≤ nI 1000 from by rw [nI_add]; exact nI_le q (by decide))))
    | (have e : (wr (wa (wr (wa (wr (wa (wr (wa (wr (wa M 81 (ap4 (M.1 81) n x1)) 62 26 (nI (n + 4))) 81 (ap4 (ap4 (M.1 81) n x1) (n + 4) x2)) 62 26 (nI (n + 8))) 81 (ap4 (ap4 (ap4 (M.1 81) n x1) (n + 4) x2) (n + 8) x3)) 62 26 (nI (n + 12))) 81 (ap4 (ap4 (ap4 (ap4 (M.1 81) n x1) (n + 4) x2) (n + 8) x3) (n + 12) x4)) 62 26 (nI (n + 16))) 81 (ap20 (M.1 81) n x1 x2 x3 x4 x5)) 62 26 (nI (n + 20))) = wr (wa M 81 (ap20 (M.1 81) n x1 x2 x3 x4 x5)) 62 26 (nI (n + 20)) := by
          refine Mem_ext (fun a => ?_) rfl
          by_cases h1 : a = 81
          · subst h1
            simp [wr, wa]
          · by_cases h2 : a = 62
            · subst h2
              funext b
              by_cases hb : b = 26 <;> simp [wr, wa, upd, hb]
            · simp [wr, wa, h1, h2]
       have hle : n + 20 ≤ 1000 := by
          rcases Nat.lt_or_ge 1000 (n + 20) with q | q
          · exact absurd (by rw [hn] at c1; exact (show nI (n + 20) ≤ nI 1000 from by rw [← nI_add]; exact c1)) (nI_ge q (by omega))
          · exact q
       have h2 := h1 hle
       rw [← e] at h2
       simp only [rd1]
       simpa only [rd1, rd2, rda, rdb, ne_eq, Nat.reduceEqDiff, not_false_eq_true, Nat.add_assoc, Nat.reduceAdd, Nat.add_zero, ap20] using h2)
  · -- on 13
    refine J_iconst (v := -1) dX12_feed_13 (by decide) ?_
    refine M_iret dX12_feed_14 rfl rfl ?_
    first
    | exact h0 (fun q => c1 (by rw [hn]; exact (show nI n + nI 20 ≤ nI 1000 from by rw [nI_add]; exact nI_le q (by decide))))
    | (have e : (wr (wa (wr (wa (wr (wa (wr (wa (wr (wa M 81 (ap4 (M.1 81) n x1)) 62 26 (nI (n + 4))) 81 (ap4 (ap4 (M.1 81) n x1) (n + 4) x2)) 62 26 (nI (n + 8))) 81 (ap4 (ap4 (ap4 (M.1 81) n x1) (n + 4) x2) (n + 8) x3)) 62 26 (nI (n + 12))) 81 (ap4 (ap4 (ap4 (ap4 (M.1 81) n x1) (n + 4) x2) (n + 8) x3) (n + 12) x4)) 62 26 (nI (n + 16))) 81 (ap20 (M.1 81) n x1 x2 x3 x4 x5)) 62 26 (nI (n + 20))) = wr (wa M 81 (ap20 (M.1 81) n x1 x2 x3 x4 x5)) 62 26 (nI (n + 20)) := by
          refine Mem_ext (fun a => ?_) rfl
          by_cases h1 : a = 81
          · subst h1
            simp [wr, wa]
          · by_cases h2 : a = 62
            · subst h2
              funext b
              by_cases hb : b = 26 <;> simp [wr, wa, upd, hb]
            · simp [wr, wa, h1, h2]
       have hle : n + 20 ≤ 1000 := by
          rcases Nat.lt_or_ge 1000 (n + 20) with q | q
          · exact absurd (by rw [hn] at c1; exact (show nI (n + 20) ≤ nI 1000 from by rw [← nI_add]; exact c1)) (nI_ge q (by omega))
          · exact q
       have h2 := h1 hle
       rw [← e] at h2
       simp only [rd1]
       simpa only [rd1, rd2, rda, rdb, ne_eq, Nat.reduceEqDiff, not_false_eq_true, Nat.add_assoc, Nat.reduceAdd, Nat.add_zero, ap20] using h2)
def fltM (M : Mem) (x : Int32) : Int32 := if x = 0 then M.1 62 27 else if x = 1 then M.1 62 28 else -1
set_option maxRecDepth 100000 in
set_option maxHeartbeats 1000000 in
theorem tM_fault {d : Nat} {M : Mem} {Φ : Option Int32 → Mem → Prop} {x : Int32} (h : Φ (some (fltM M x)) M) : JM noRo d mX12_fault 0 [some (.ref 62), some (.int x)] [] M Φ := by
  refine J_iload_n dX12_fault_0 rfl ?_
  refine J_if_ne (tgt := 11) dX12_fault_1 (by decide) (fun c1 => ?_) (fun c1 => ?_)
  · -- to 11
    refine J_iload_n dX12_fault_11 rfl ?_
    refine J_iconst (v := 1) dX12_fault_12 (by decide) ?_
    refine J_icmp_ne (tgt := 23) dX12_fault_13 (by decide) (fun c2 => ?_) (fun c2 => ?_)
    · -- to 23
      refine J_iconst (v := -1) dX12_fault_23 (by decide) ?_
      refine M_iret dX12_fault_24 rfl rfl ?_
      first
      | (rw [fltM, if_pos c1] at h; exact h)
      | (rw [fltM, if_neg c1, if_pos c2] at h; exact h)
      | (rw [fltM, if_neg c1, if_neg c2] at h; exact h)
    · -- on 16
      refine J_aload_n dX12_fault_16 rfl ?_
      refine M_getI dX12_fault_17 fX12_68 rfl rfl (by decide) ?_
      refine J_goto (tgt := 24) dX12_fault_20 (by decide) ?_
      refine M_iret dX12_fault_24 rfl rfl ?_
      first
      | (rw [fltM, if_pos c1] at h; exact h)
      | (rw [fltM, if_neg c1, if_pos c2] at h; exact h)
      | (rw [fltM, if_neg c1, if_neg c2] at h; exact h)
  · -- on 4
    refine J_aload_n dX12_fault_4 rfl ?_
    refine M_getI dX12_fault_5 fX12_189 rfl rfl (by decide) ?_
    refine J_goto (tgt := 24) dX12_fault_8 (by decide) ?_
    refine M_iret dX12_fault_24 rfl rfl ?_
    first
    | (rw [fltM, if_pos c1] at h; exact h)
    | (rw [fltM, if_neg c1, if_pos c2] at h; exact h)
    | (rw [fltM, if_neg c1, if_neg c2] at h; exact h)
set_option maxRecDepth 100000 in
set_option maxHeartbeats 1000000 in
theorem tM_tries {d : Nat} {M : Mem} {Φ : Option Int32 → Mem → Prop}  (h : Φ (some (M.1 62 42)) M) : JM noRo d mX12_tries 0 [some (.ref 62)] [] M Φ := by
  refine J_aload_n dX12_tries_0 rfl ?_
  refine M_getI dX12_tries_1 fX12_306 rfl rfl (by decide) ?_
  refine M_iret dX12_tries_4 rfl rfl ?_
  exact h
set_option maxRecDepth 100000 in
set_option maxHeartbeats 1000000 in
theorem tM_takes {d : Nat} {M : Mem} {Φ : Option Int32 → Mem → Prop} {n : Nat} {x y z : Int32} (hn : M.1 62 1 = nI n) (hb : n ≤ 12) (h0 : ¬ (Ix x n ∧ Ix y 4 ∧ Ix z 51) → Φ (some 0) M) (h1 : ∀ j u : Nat, j < n → u < 4 → x = nI j → y = nI u → Ix z 51 → Φ (some 1) (wr M 68 (j * 4 + u) z)) : JM noRo (d + 1) mX12_takes 0 [some (.ref 62), some (.int x), some (.int y), some (.int z)] [] M Φ := by
  refine J_aload_n dX12_takes_0 rfl ?_
  refine J_iload_n dX12_takes_1 rfl ?_
  refine M_callV1 (mc := mX12_isHorse) dX12_takes_2 kX12_142 oX12_isHorse (Nat.le_of_ble_eq_true rfl) (Nat.le_of_ble_eq_true rfl) rfl (by decide) rfl ?_
  refine tX12_isHorse hn hb (fun j hj ej => ?_) (fun q1 => ?_)
  · -- true
    subst ej
    refine J_if_eq (tgt := 25) dX12_takes_5 (by decide) (fun c2 => ?_) (fun c2 => ?_)
    · -- to 25
      exact absurd c2 (by decide)
    · -- on 8
      refine J_iload_n dX12_takes_8 rfl ?_
      refine M_callS1 (mc := mX12_isBin) dX12_takes_9 kX12_324 oX12_isBin (Nat.le_of_ble_eq_true rfl) (Nat.le_of_ble_eq_true rfl) ?_
      refine tX12_isBin (fun u hu eu => ?_) (fun q2 => ?_)
      · -- true
        subst eu
        refine J_if_eq (tgt := 25) dX12_takes_12 (by decide) (fun c4 => ?_) (fun c4 => ?_)
        · -- to 25
          exact absurd c4 (by decide)
        · -- on 15
          refine J_iload_n dX12_takes_15 rfl ?_
          refine J_if_lt (tgt := 25) dX12_takes_16 (by decide) (fun c5 => ?_) (fun c5 => ?_)
          · -- to 25
            refine J_iconst (v := 0) dX12_takes_25 (by decide) ?_
            refine M_zret dX12_takes_26 rfl (by first | assumption | exact Or.inl rfl | exact Or.inr rfl) ?_
            first
            | exact h0 (fun q => q1 q.1)
            | exact h0 (fun q => q2 q.2.1)
            | exact h0 (fun q => Ix_neg (by decide) c5 q.2.2)
            | exact h0 (fun q => Ix_gt (n := 50) (by decide) c5 q.2.2)
            | exact h1 j u hj hu rfl rfl (Ix_le (n := 50) (by decide) z0 z1)
          · -- on 19
            have z0 := c5
            refine J_iload_n dX12_takes_19 rfl ?_
            refine J_bipush (v := 50) dX12_takes_20 (by decide) ?_
            refine J_icmp_le (tgt := 27) dX12_takes_22 (by decide) (fun c6 => ?_) (fun c6 => ?_)
            · -- to 27
              have z1 := c6
              refine J_aload_n dX12_takes_27 rfl ?_
              refine M_getR dX12_takes_28 fX12_25 rfl rfl (by decide) ?_
              refine J_iconst (v := 4) dX12_takes_31 (by decide) ?_
              refine J_iload_n dX12_takes_32 rfl ?_
              refine J_imul dX12_takes_33 ?_
              refine J_iload_n dX12_takes_34 rfl ?_
              refine J_iadd dX12_takes_35 ?_
              refine J_iload_n dX12_takes_36 rfl ?_
              refine M_iastE dX12_takes_37 rfl (by decide) (show (4 : Int32) * nI j + nI u = nI (j * 4 + u) from by rw [Nat.mul_comm j 4]; exact ixm2 j 4 u) (by omega) ?_
              refine J_iconst (v := 1) dX12_takes_38 (by decide) ?_
              refine M_zret dX12_takes_39 rfl (by first | assumption | exact Or.inl rfl | exact Or.inr rfl) ?_
              first
              | exact h0 (fun q => q1 q.1)
              | exact h0 (fun q => q2 q.2.1)
              | exact h0 (fun q => Ix_neg (by decide) c6 q.2.2)
              | exact h0 (fun q => Ix_gt (n := 50) (by decide) c6 q.2.2)
              | exact h1 j u hj hu rfl rfl (Ix_le (n := 50) (by decide) z0 z1)
            · -- on 25
              refine J_iconst (v := 0) dX12_takes_25 (by decide) ?_
              refine M_zret dX12_takes_26 rfl (by first | assumption | exact Or.inl rfl | exact Or.inr rfl) ?_
              first
              | exact h0 (fun q => q1 q.1)
              | exact h0 (fun q => q2 q.2.1)
              | exact h0 (fun q => Ix_neg (by decide) c6 q.2.2)
              | exact h0 (fun q => Ix_gt (n := 50) (by decide) c6 q.2.2)
              | exact h1 j u hj hu rfl rfl (Ix_le (n := 50) (by decide) z0 z1)
      · -- false
        refine J_if_eq (tgt := 25) dX12_takes_12 (by decide) (fun c7 => ?_) (fun c7 => ?_)
        · -- to 25
          refine J_iconst (v := 0) dX12_takes_25 (by decide) ?_
          refine M_zret dX12_takes_26 rfl (by first | assumption | exact Or.inl rfl | exact Or.inr rfl) ?_
          first
          | exact h0 (fun q => q1 q.1)
          | exact h0 (fun q => q2 q.2.1)
          | exact h0 (fun q => Ix_neg (by decide) c7 q.2.2)
          | exact h0 (fun q => Ix_gt (n := 50) (by decide) c7 q.2.2)
          | exact h1 j u hj hu rfl rfl (Ix_le (n := 50) (by decide) z0 z1)
        · -- on 15
          exact absurd c7 (by decide)
  · -- false
    refine J_if_eq (tgt := 25) dX12_takes_5 (by decide) (fun c8 => ?_) (fun c8 => ?_)
    · -- to 25
      refine J_iconst (v := 0) dX12_takes_25 (by decide) ?_
      refine M_zret dX12_takes_26 rfl (by first | assumption | exact Or.inl rfl | exact Or.inr rfl) ?_
      first
      | exact h0 (fun q => q1 q.1)
      | exact h0 (fun q => q2 q.2.1)
      | exact h0 (fun q => Ix_neg (by decide) c8 q.2.2)
      | exact h0 (fun q => Ix_gt (n := 50) (by decide) c8 q.2.2)
      | exact h1 j u hj hu rfl rfl (Ix_le (n := 50) (by decide) z0 z1)
    · -- on 8
      exact absurd c8 (by decide)
set_option maxRecDepth 100000 in
set_option maxHeartbeats 1000000 in
theorem tM_price {d : Nat} {M : Mem} {Φ : Option Int32 → Mem → Prop} {x y : Int32} (h0 : ¬ (Ix x 8 ∧ Ix y 1001) → Φ (some 0) M) (h1 : ∀ u : Nat, u < 8 → x = nI u → Ix y 1001 → Φ (some 1) (wr M 91 u y)) : JM noRo d mX12_price 0 [some (.ref 62), some (.int x), some (.int y)] [] M Φ := by
  refine J_iload_n dX12_price_0 rfl ?_
  refine J_if_lt (tgt := 21) dX12_price_1 (by decide) (fun c1 => ?_) (fun c1 => ?_)
  · -- to 21
    refine J_iconst (v := 0) dX12_price_21 (by decide) ?_
    refine M_zret dX12_price_22 rfl (by first | assumption | exact Or.inl rfl | exact Or.inr rfl) ?_
    first
    | exact h0 (fun q => Ix_neg (by decide) c1 q.1)
    | exact h0 (fun q => Ix_gt (n := 7) (by decide) (Int32.not_le.mpr c1) q.1)
    | exact h0 (fun q => Ix_neg (by decide) c1 q.2)
    | exact h0 (fun q => Ix_gt (n := 1000) (by decide) c1 q.2)
    | exact h1 u hu rfl (Ix_le (n := 1000) (by decide) y0 y1)
  · -- on 4
    refine J_iload_n dX12_price_4 rfl ?_
    refine J_bipush (v := 7) dX12_price_5 (by decide) ?_
    refine J_icmp_gt (tgt := 21) dX12_price_7 (by decide) (fun c2 => ?_) (fun c2 => ?_)
    · -- to 21
      refine J_iconst (v := 0) dX12_price_21 (by decide) ?_
      refine M_zret dX12_price_22 rfl (by first | assumption | exact Or.inl rfl | exact Or.inr rfl) ?_
      first
      | exact h0 (fun q => Ix_neg (by decide) c2 q.1)
      | exact h0 (fun q => Ix_gt (n := 7) (by decide) (Int32.not_le.mpr c2) q.1)
      | exact h0 (fun q => Ix_neg (by decide) c2 q.2)
      | exact h0 (fun q => Ix_gt (n := 1000) (by decide) c2 q.2)
      | exact h1 u hu rfl (Ix_le (n := 1000) (by decide) y0 y1)
    · -- on 10
      refine J_iload_n dX12_price_10 rfl ?_
      refine J_if_lt (tgt := 21) dX12_price_11 (by decide) (fun c3 => ?_) (fun c3 => ?_)
      · -- to 21
        refine J_iconst (v := 0) dX12_price_21 (by decide) ?_
        refine M_zret dX12_price_22 rfl (by first | assumption | exact Or.inl rfl | exact Or.inr rfl) ?_
        first
        | exact h0 (fun q => Ix_neg (by decide) c3 q.1)
        | exact h0 (fun q => Ix_gt (n := 7) (by decide) (Int32.not_le.mpr c3) q.1)
        | exact h0 (fun q => Ix_neg (by decide) c3 q.2)
        | exact h0 (fun q => Ix_gt (n := 1000) (by decide) c3 q.2)
        | exact h1 u hu rfl (Ix_le (n := 1000) (by decide) y0 y1)
      · -- on 14
        have y0 := c3
        refine J_iload_n dX12_price_14 rfl ?_
        refine J_sipush (v := 1000) dX12_price_15 (by decide) ?_
        refine J_icmp_le (tgt := 23) dX12_price_18 (by decide) (fun c4 => ?_) (fun c4 => ?_)
        · -- to 23
          have y1 := c4
          obtain ⟨u, hu, rfl⟩ := Ix_le (n := 7) (by decide) c1 (Int32.not_lt.mp c2)
          refine J_aload_n dX12_price_23 rfl ?_
          refine M_getR dX12_price_24 fX12_99 rfl rfl (by decide) ?_
          refine J_iload_n dX12_price_27 rfl ?_
          refine J_iload_n dX12_price_28 rfl ?_
          refine M_iastE dX12_price_29 rfl (by decide) (by first | rfl | assumption) (by omega) ?_
          refine J_iconst (v := 1) dX12_price_30 (by decide) ?_
          refine M_zret dX12_price_31 rfl (by first | assumption | exact Or.inl rfl | exact Or.inr rfl) ?_
          first
          | exact h0 (fun q => Ix_neg (by decide) c4 q.1)
          | exact h0 (fun q => Ix_gt (n := 7) (by decide) (Int32.not_le.mpr c4) q.1)
          | exact h0 (fun q => Ix_neg (by decide) c4 q.2)
          | exact h0 (fun q => Ix_gt (n := 1000) (by decide) c4 q.2)
          | exact h1 u hu rfl (Ix_le (n := 1000) (by decide) y0 y1)
        · -- on 21
          refine J_iconst (v := 0) dX12_price_21 (by decide) ?_
          refine M_zret dX12_price_22 rfl (by first | assumption | exact Or.inl rfl | exact Or.inr rfl) ?_
          first
          | exact h0 (fun q => Ix_neg (by decide) c4 q.1)
          | exact h0 (fun q => Ix_gt (n := 7) (by decide) (Int32.not_le.mpr c4) q.1)
          | exact h0 (fun q => Ix_neg (by decide) c4 q.2)
          | exact h0 (fun q => Ix_gt (n := 1000) (by decide) c4 q.2)
          | exact h1 u hu rfl (Ix_le (n := 1000) (by decide) y0 y1)
set_option maxRecDepth 100000 in
set_option maxHeartbeats 1000000 in
theorem tM_falls {d : Nat} {M : Mem} {Φ : Option Int32 → Mem → Prop} {x y : Int32} (h0 : ¬ (Ix x 3 ∧ Ix y 401) → Φ (some 0) M) (h1 : ∀ u : Nat, u < 3 → x = nI u → Ix y 401 → Φ (some 1) (wr M 92 u y)) : JM noRo d mX12_falls 0 [some (.ref 62), some (.int x), some (.int y)] [] M Φ := by
  refine J_iload_n dX12_falls_0 rfl ?_
  refine J_if_lt (tgt := 20) dX12_falls_1 (by decide) (fun c1 => ?_) (fun c1 => ?_)
  · -- to 20
    refine J_iconst (v := 0) dX12_falls_20 (by decide) ?_
    refine M_zret dX12_falls_21 rfl (by first | assumption | exact Or.inl rfl | exact Or.inr rfl) ?_
    first
    | exact h0 (fun q => Ix_neg (by decide) c1 q.1)
    | exact h0 (fun q => Ix_gt (n := 2) (by decide) (Int32.not_le.mpr c1) q.1)
    | exact h0 (fun q => Ix_neg (by decide) c1 q.2)
    | exact h0 (fun q => Ix_gt (n := 400) (by decide) c1 q.2)
    | exact h1 u hu rfl (Ix_le (n := 400) (by decide) y0 y1)
  · -- on 4
    refine J_iload_n dX12_falls_4 rfl ?_
    refine J_iconst (v := 2) dX12_falls_5 (by decide) ?_
    refine J_icmp_gt (tgt := 20) dX12_falls_6 (by decide) (fun c2 => ?_) (fun c2 => ?_)
    · -- to 20
      refine J_iconst (v := 0) dX12_falls_20 (by decide) ?_
      refine M_zret dX12_falls_21 rfl (by first | assumption | exact Or.inl rfl | exact Or.inr rfl) ?_
      first
      | exact h0 (fun q => Ix_neg (by decide) c2 q.1)
      | exact h0 (fun q => Ix_gt (n := 2) (by decide) (Int32.not_le.mpr c2) q.1)
      | exact h0 (fun q => Ix_neg (by decide) c2 q.2)
      | exact h0 (fun q => Ix_gt (n := 400) (by decide) c2 q.2)
      | exact h1 u hu rfl (Ix_le (n := 400) (by decide) y0 y1)
    · -- on 9
      refine J_iload_n dX12_falls_9 rfl ?_
      refine J_if_lt (tgt := 20) dX12_falls_10 (by decide) (fun c3 => ?_) (fun c3 => ?_)
      · -- to 20
        refine J_iconst (v := 0) dX12_falls_20 (by decide) ?_
        refine M_zret dX12_falls_21 rfl (by first | assumption | exact Or.inl rfl | exact Or.inr rfl) ?_
        first
        | exact h0 (fun q => Ix_neg (by decide) c3 q.1)
        | exact h0 (fun q => Ix_gt (n := 2) (by decide) (Int32.not_le.mpr c3) q.1)
        | exact h0 (fun q => Ix_neg (by decide) c3 q.2)
        | exact h0 (fun q => Ix_gt (n := 400) (by decide) c3 q.2)
        | exact h1 u hu rfl (Ix_le (n := 400) (by decide) y0 y1)
      · -- on 13
        have y0 := c3
        refine J_iload_n dX12_falls_13 rfl ?_
        refine J_sipush (v := 400) dX12_falls_14 (by decide) ?_
        refine J_icmp_le (tgt := 22) dX12_falls_17 (by decide) (fun c4 => ?_) (fun c4 => ?_)
        · -- to 22
          have y1 := c4
          obtain ⟨u, hu, rfl⟩ := Ix_le (n := 2) (by decide) c1 (Int32.not_lt.mp c2)
          refine J_aload_n dX12_falls_22 rfl ?_
          refine M_getR dX12_falls_23 fX12_102 rfl rfl (by decide) ?_
          refine J_iload_n dX12_falls_26 rfl ?_
          refine J_iload_n dX12_falls_27 rfl ?_
          refine M_iastE dX12_falls_28 rfl (by decide) (by first | rfl | assumption) (by omega) ?_
          refine J_iconst (v := 1) dX12_falls_29 (by decide) ?_
          refine M_zret dX12_falls_30 rfl (by first | assumption | exact Or.inl rfl | exact Or.inr rfl) ?_
          first
          | exact h0 (fun q => Ix_neg (by decide) c4 q.1)
          | exact h0 (fun q => Ix_gt (n := 2) (by decide) (Int32.not_le.mpr c4) q.1)
          | exact h0 (fun q => Ix_neg (by decide) c4 q.2)
          | exact h0 (fun q => Ix_gt (n := 400) (by decide) c4 q.2)
          | exact h1 u hu rfl (Ix_le (n := 400) (by decide) y0 y1)
        · -- on 20
          refine J_iconst (v := 0) dX12_falls_20 (by decide) ?_
          refine M_zret dX12_falls_21 rfl (by first | assumption | exact Or.inl rfl | exact Or.inr rfl) ?_
          first
          | exact h0 (fun q => Ix_neg (by decide) c4 q.1)
          | exact h0 (fun q => Ix_gt (n := 2) (by decide) (Int32.not_le.mpr c4) q.1)
          | exact h0 (fun q => Ix_neg (by decide) c4 q.2)
          | exact h0 (fun q => Ix_gt (n := 400) (by decide) c4 q.2)
          | exact h1 u hu rfl (Ix_le (n := 400) (by decide) y0 y1)
set_option maxRecDepth 100000 in
set_option maxHeartbeats 1000000 in
theorem tM_lacked {d : Nat} {M : Mem} {Φ : Option Int32 → Mem → Prop} {n : Nat} {x : Int32} (hn : M.1 62 1 = nI n) (hb : n ≤ 12) (h0 : ¬ Ix x n → Φ (some (-1)) M) (h1 : ∀ j : Nat, j < n → x = nI j → Φ (some (M.1 67 j)) M) : JM noRo (d + 1) mX12_lacked 0 [some (.ref 62), some (.int x)] [] M Φ := by
  refine J_aload_n dX12_lacked_0 rfl ?_
  refine J_iload_n dX12_lacked_1 rfl ?_
  refine M_callV1 (mc := mX12_isHorse) dX12_lacked_2 kX12_142 oX12_isHorse (Nat.le_of_ble_eq_true rfl) (Nat.le_of_ble_eq_true rfl) rfl (by decide) rfl ?_
  refine tX12_isHorse hn hb (fun j hj ej => ?_) (fun q1 => ?_)
  · -- true
    subst ej
    refine J_if_eq (tgt := 17) dX12_lacked_5 (by decide) (fun c2 => ?_) (fun c2 => ?_)
    · -- to 17
      exact absurd c2 (by decide)
    · -- on 8
      refine J_aload_n dX12_lacked_8 rfl ?_
      refine M_getR dX12_lacked_9 fX12_22 rfl rfl (by decide) ?_
      refine J_iload_n dX12_lacked_12 rfl ?_
      refine M_ialdE dX12_lacked_13 rfl (by decide) (by first | rfl | assumption) (by omega) ?_
      refine J_goto (tgt := 18) dX12_lacked_14 (by decide) ?_
      refine M_iret dX12_lacked_18 rfl rfl ?_
      first
      | exact h0 q1
      | exact h1 j hj rfl
  · -- false
    refine J_if_eq (tgt := 17) dX12_lacked_5 (by decide) (fun c3 => ?_) (fun c3 => ?_)
    · -- to 17
      refine J_iconst (v := -1) dX12_lacked_17 (by decide) ?_
      refine M_iret dX12_lacked_18 rfl rfl ?_
      first
      | exact h0 q1
      | exact h1 j hj rfl
    · -- on 8
      exact absurd c3 (by decide)
def abtM (M : Mem) (x : Int32) : Int32 := if x = 0 then M.1 62 0 else if x = 1 then M.1 62 1 else if x = 2 then M.1 62 17 else if x = 3 then M.1 62 50 else if x = 4 then (if M.1 62 12 = 0 then 0 else 1) else if x = 5 then M.1 62 26 else if x = 6 then M.1 62 49 else -1
set_option maxRecDepth 100000 in
set_option maxHeartbeats 1000000 in
theorem tM_about {d : Nat} {M : Mem} {Φ : Option Int32 → Mem → Prop} {x : Int32} (h : Φ (some (abtM M x)) M) : JM noRo d mX12_about 0 [some (.ref 62), some (.int x)] [] M Φ := by
  refine J_iload_n dX12_about_0 rfl ?_
  by_cases s0 : x = 0
  · subst s0
    refine J_tabIn (off := 43) (tgt := 44) dX12_about_1 (by decide) (by decide) rfl (by decide) ?_
    refine J_aload_n dX12_about_44 rfl ?_
    refine M_getI dX12_about_45 fX12_135 rfl rfl (by decide) ?_
    refine M_iret dX12_about_48 rfl rfl ?_
    first
    | exact h
    | (simp [abtM, ] at h; exact h)
    | (simp only [abtM, if_neg s0, if_neg s1, if_neg s2, if_neg s3, if_neg s4, if_neg s5, if_neg s6] at h; exact h)
  by_cases s1 : x = 1
  · subst s1
    refine J_tabIn (off := 48) (tgt := 49) dX12_about_1 (by decide) (by decide) rfl (by decide) ?_
    refine J_aload_n dX12_about_49 rfl ?_
    refine M_getI dX12_about_50 fX12_132 rfl rfl (by decide) ?_
    refine M_iret dX12_about_53 rfl rfl ?_
    first
    | exact h
    | (simp [abtM, ] at h; exact h)
    | (simp only [abtM, if_neg s0, if_neg s1, if_neg s2, if_neg s3, if_neg s4, if_neg s5, if_neg s6] at h; exact h)
  by_cases s2 : x = 2
  · subst s2
    refine J_tabIn (off := 53) (tgt := 54) dX12_about_1 (by decide) (by decide) rfl (by decide) ?_
    refine J_aload_n dX12_about_54 rfl ?_
    refine M_getI dX12_about_55 fX12_287 rfl rfl (by decide) ?_
    refine M_iret dX12_about_58 rfl rfl ?_
    first
    | exact h
    | (simp [abtM, ] at h; exact h)
    | (simp only [abtM, if_neg s0, if_neg s1, if_neg s2, if_neg s3, if_neg s4, if_neg s5, if_neg s6] at h; exact h)
  by_cases s3 : x = 3
  · subst s3
    refine J_tabIn (off := 58) (tgt := 59) dX12_about_1 (by decide) (by decide) rfl (by decide) ?_
    refine J_aload_n dX12_about_59 rfl ?_
    refine M_getI dX12_about_60 fX12_337 rfl rfl (by decide) ?_
    refine M_iret dX12_about_63 rfl rfl ?_
    first
    | exact h
    | (simp [abtM, ] at h; exact h)
    | (simp only [abtM, if_neg s0, if_neg s1, if_neg s2, if_neg s3, if_neg s4, if_neg s5, if_neg s6] at h; exact h)
  by_cases s4 : x = 4
  · subst s4
    refine J_tabIn (off := 63) (tgt := 64) dX12_about_1 (by decide) (by decide) rfl (by decide) ?_
    refine J_aload_n dX12_about_64 rfl ?_
    refine M_getI dX12_about_65 fX12_138 rfl rfl (by decide) ?_
    refine J_if_eq (tgt := 75) dX12_about_68 (by decide) (fun c1 => ?_) (fun c1 => ?_)
    · -- to 75
      refine J_iconst (v := 0) dX12_about_75 (by decide) ?_
      refine M_iret dX12_about_76 rfl rfl ?_
      first
      | exact h
      | (simp [abtM, c1] at h; exact h)
      | (simp only [abtM, if_neg s0, if_neg s1, if_neg s2, if_neg s3, if_neg s4, if_neg s5, if_neg s6] at h; exact h)
    · -- on 71
      refine J_iconst (v := 1) dX12_about_71 (by decide) ?_
      refine J_goto (tgt := 76) dX12_about_72 (by decide) ?_
      refine M_iret dX12_about_76 rfl rfl ?_
      first
      | exact h
      | (simp [abtM, c1] at h; exact h)
      | (simp only [abtM, if_neg s0, if_neg s1, if_neg s2, if_neg s3, if_neg s4, if_neg s5, if_neg s6] at h; exact h)
  by_cases s5 : x = 5
  · subst s5
    refine J_tabIn (off := 76) (tgt := 77) dX12_about_1 (by decide) (by decide) rfl (by decide) ?_
    refine J_aload_n dX12_about_77 rfl ?_
    refine M_getI dX12_about_78 fX12_150 rfl rfl (by decide) ?_
    refine M_iret dX12_about_81 rfl rfl ?_
    first
    | exact h
    | (simp [abtM, ] at h; exact h)
    | (simp only [abtM, if_neg s0, if_neg s1, if_neg s2, if_neg s3, if_neg s4, if_neg s5, if_neg s6] at h; exact h)
  by_cases s6 : x = 6
  · subst s6
    refine J_tabIn (off := 81) (tgt := 82) dX12_about_1 (by decide) (by decide) rfl (by decide) ?_
    refine J_aload_n dX12_about_82 rfl ?_
    refine M_getI dX12_about_83 fX12_330 rfl rfl (by decide) ?_
    refine M_iret dX12_about_86 rfl rfl ?_
    first
    | exact h
    | (simp [abtM, ] at h; exact h)
    | (simp only [abtM, if_neg s0, if_neg s1, if_neg s2, if_neg s3, if_neg s4, if_neg s5, if_neg s6] at h; exact h)
  refine J_tabOut (tgt := 87) dX12_about_1 (sw_out6 s0 s1 s2 s3 s4 s5 s6) (by decide) ?_
  refine J_iconst (v := -1) dX12_about_87 (by decide) ?_
  refine M_iret dX12_about_88 rfl rfl ?_
  first
  | exact h
  | (simp [abtM, ] at h; exact h)
  | (simp only [abtM, if_neg s0, if_neg s1, if_neg s2, if_neg s3, if_neg s4, if_neg s5, if_neg s6] at h; exact h)
set_option maxRecDepth 100000 in
set_option maxHeartbeats 1000000 in
theorem tM_work {d : Nat} {M : Mem} {Φ : Option Int32 → Mem → Prop} {n w : Nat} {x y z : Int32} (hn : M.1 62 1 = nI n) (hb : n ≤ 12) (hw : M.1 62 50 = nI w) (hwb : w ≤ 200) (h0 : ¬ (w < 200 ∧ Ix y 3 ∧ ∃ j, j < n ∧ x = nI j ∧ z ≤ M.1 62 0 ∧ M.1 65 j ≤ z) → Φ (some (-1)) M) (h1 : ∀ j s : Nat, j < n → s < 3 → x = nI j → y = nI s → z ≤ M.1 62 0 → M.1 65 j ≤ z → w < 200 → Φ (some (nI (w + 1))) (wr (wr (wr (wr (wr (wr M 96 w (nI j)) 97 w (nI s)) 98 w z) 99 w (M.1 62 0)) 100 w (M.1 91 (5 + s))) 62 50 (nI (w + 1)))) : JM noRo (d + 1) mX12_work 0 [some (.ref 62), some (.int x), some (.int y), some (.int z)] [] M Φ := by
  refine J_aload_n dX12_work_0 rfl ?_
  refine M_getI dX12_work_1 fX12_337 rfl rfl (by decide) ?_
  refine J_sipush (v := 200) dX12_work_4 (by decide) ?_
  refine J_icmp_eq (tgt := 45) dX12_work_7 (by decide) (fun c1 => ?_) (fun c1 => ?_)
  · -- to 45
    refine J_iconst (v := -1) dX12_work_45 (by decide) ?_
    refine M_iret dX12_work_46 rfl rfl ?_
    first
    | exact h0 (fun q => absurd ((nI_eq (a := w) (b := 200) (by omega) (by decide)).mp (hw ▸ c1)) (by omega))
    | exact h0 (fun q => q1 (by obtain ⟨j, hj, e, -⟩ := q.2.2; exact ⟨j, hj, e⟩))
    | exact h0 (fun q => Ix_neg (by decide) c1 q.2.1)
    | exact h0 (fun q => Ix_gt (n := 2) (by decide) (Int32.not_le.mpr c1) q.2.1)
    | exact h0 (fun q => by obtain ⟨j2, hj2, e2, e3, -⟩ := q.2.2; exact absurd e3 (Int32.not_le.mpr c1))
    | exact h0 (fun q => by obtain ⟨j2, hj2, e2, e3, e4⟩ := q.2.2; rw [← (nI_eq (by omega) (by omega)).mp e2] at e4; exact c1 e4)
    | (simp only [rd1]; exact h1 j s hj hs rfl rfl (Int32.not_lt.mp z0) z1 hlt)
  · -- on 10
    have hlt : w < 200 := by
      have : w ≠ 200 := fun q => c1 (by rw [hw, q]; rfl)
      omega
    refine J_aload_n dX12_work_10 rfl ?_
    refine J_iload_n dX12_work_11 rfl ?_
    refine M_callV1 (mc := mX12_isHorse) dX12_work_12 kX12_142 oX12_isHorse (Nat.le_of_ble_eq_true rfl) (Nat.le_of_ble_eq_true rfl) rfl (by decide) rfl ?_
    refine tX12_isHorse hn hb (fun j hj ej => ?_) (fun q1 => ?_)
    · -- true
      subst ej
      refine J_if_eq (tgt := 45) dX12_work_15 (by decide) (fun c3 => ?_) (fun c3 => ?_)
      · -- to 45
        exact absurd c3 (by decide)
      · -- on 18
        refine J_iload_n dX12_work_18 rfl ?_
        refine J_if_lt (tgt := 45) dX12_work_19 (by decide) (fun c4 => ?_) (fun c4 => ?_)
        · -- to 45
          refine J_iconst (v := -1) dX12_work_45 (by decide) ?_
          refine M_iret dX12_work_46 rfl rfl ?_
          first
          | exact h0 (fun q => absurd ((nI_eq (a := w) (b := 200) (by omega) (by decide)).mp (hw ▸ c4)) (by omega))
          | exact h0 (fun q => q1 (by obtain ⟨j, hj, e, -⟩ := q.2.2; exact ⟨j, hj, e⟩))
          | exact h0 (fun q => Ix_neg (by decide) c4 q.2.1)
          | exact h0 (fun q => Ix_gt (n := 2) (by decide) (Int32.not_le.mpr c4) q.2.1)
          | exact h0 (fun q => by obtain ⟨j2, hj2, e2, e3, -⟩ := q.2.2; exact absurd e3 (Int32.not_le.mpr c4))
          | exact h0 (fun q => by obtain ⟨j2, hj2, e2, e3, e4⟩ := q.2.2; rw [← (nI_eq (by omega) (by omega)).mp e2] at e4; exact c4 e4)
          | (simp only [rd1]; exact h1 j s hj hs rfl rfl (Int32.not_lt.mp z0) z1 hlt)
        · -- on 22
          have cN := c4
          refine J_iload_n dX12_work_22 rfl ?_
          refine J_iconst (v := 2) dX12_work_23 (by decide) ?_
          refine J_icmp_gt (tgt := 45) dX12_work_24 (by decide) (fun c5 => ?_) (fun c5 => ?_)
          · -- to 45
            refine J_iconst (v := -1) dX12_work_45 (by decide) ?_
            refine M_iret dX12_work_46 rfl rfl ?_
            first
            | exact h0 (fun q => absurd ((nI_eq (a := w) (b := 200) (by omega) (by decide)).mp (hw ▸ c5)) (by omega))
            | exact h0 (fun q => q1 (by obtain ⟨j, hj, e, -⟩ := q.2.2; exact ⟨j, hj, e⟩))
            | exact h0 (fun q => Ix_neg (by decide) c5 q.2.1)
            | exact h0 (fun q => Ix_gt (n := 2) (by decide) (Int32.not_le.mpr c5) q.2.1)
            | exact h0 (fun q => by obtain ⟨j2, hj2, e2, e3, -⟩ := q.2.2; exact absurd e3 (Int32.not_le.mpr c5))
            | exact h0 (fun q => by obtain ⟨j2, hj2, e2, e3, e4⟩ := q.2.2; rw [← (nI_eq (by omega) (by omega)).mp e2] at e4; exact c5 e4)
            | (simp only [rd1]; exact h1 j s hj hs rfl rfl (Int32.not_lt.mp z0) z1 hlt)
          · -- on 27
            obtain ⟨s, hs, rfl⟩ := Ix_le (n := 2) (by decide) cN (Int32.not_lt.mp c5)
            refine J_iload_n dX12_work_27 rfl ?_
            refine J_aload_n dX12_work_28 rfl ?_
            refine M_getI dX12_work_29 fX12_135 rfl rfl (by decide) ?_
            refine J_icmp_gt (tgt := 45) dX12_work_32 (by decide) (fun c6 => ?_) (fun c6 => ?_)
            · -- to 45
              refine J_iconst (v := -1) dX12_work_45 (by decide) ?_
              refine M_iret dX12_work_46 rfl rfl ?_
              first
              | exact h0 (fun q => absurd ((nI_eq (a := w) (b := 200) (by omega) (by decide)).mp (hw ▸ c6)) (by omega))
              | exact h0 (fun q => q1 (by obtain ⟨j, hj, e, -⟩ := q.2.2; exact ⟨j, hj, e⟩))
              | exact h0 (fun q => Ix_neg (by decide) c6 q.2.1)
              | exact h0 (fun q => Ix_gt (n := 2) (by decide) (Int32.not_le.mpr c6) q.2.1)
              | exact h0 (fun q => by obtain ⟨j2, hj2, e2, e3, -⟩ := q.2.2; exact absurd e3 (Int32.not_le.mpr c6))
              | exact h0 (fun q => by obtain ⟨j2, hj2, e2, e3, e4⟩ := q.2.2; rw [← (nI_eq (by omega) (by omega)).mp e2] at e4; exact c6 e4)
              | (simp only [rd1]; exact h1 j s hj hs rfl rfl (Int32.not_lt.mp z0) z1 hlt)
            · -- on 35
              have z0 := c6
              refine J_iload_n dX12_work_35 rfl ?_
              refine J_aload_n dX12_work_36 rfl ?_
              refine M_getR dX12_work_37 fX12_16 rfl rfl (by decide) ?_
              refine J_iload_n dX12_work_40 rfl ?_
              refine M_ialdE dX12_work_41 rfl (by decide) (by first | rfl | assumption) (by omega) ?_
              refine J_icmp_ge (tgt := 47) dX12_work_42 (by decide) (fun c7 => ?_) (fun c7 => ?_)
              · -- to 47
                have z1 := c7
                refine J_aload_n dX12_work_47 rfl ?_
                refine M_getR dX12_work_48 fX12_114 rfl rfl (by decide) ?_
                refine J_aload_n dX12_work_51 rfl ?_
                refine M_getI dX12_work_52 fX12_337 rfl rfl (by decide) ?_
                refine J_iload_n dX12_work_55 rfl ?_
                refine M_iastE dX12_work_56 rfl (by decide) hw (by omega) ?_
                refine J_aload_n dX12_work_57 rfl ?_
                refine M_getR dX12_work_58 fX12_117 rfl rfl (by decide) ?_
                refine J_aload_n dX12_work_61 rfl ?_
                refine M_getI dX12_work_62 fX12_337 rfl rfl (by decide) ?_
                refine J_iload_n dX12_work_65 rfl ?_
                refine M_iastE dX12_work_66 rfl (by decide) (by simpa only [rd2, ne_eq, Nat.reduceEqDiff, not_false_eq_true] using hw) (by omega) ?_
                refine J_aload_n dX12_work_67 rfl ?_
                refine M_getR dX12_work_68 fX12_120 rfl rfl (by decide) ?_
                refine J_aload_n dX12_work_71 rfl ?_
                refine M_getI dX12_work_72 fX12_337 rfl rfl (by decide) ?_
                refine J_iload_n dX12_work_75 rfl ?_
                refine M_iastE dX12_work_76 rfl (by decide) (by simpa only [rd2, ne_eq, Nat.reduceEqDiff, not_false_eq_true] using hw) (by omega) ?_
                refine J_aload_n dX12_work_77 rfl ?_
                refine M_getR dX12_work_78 fX12_123 rfl rfl (by decide) ?_
                refine J_aload_n dX12_work_81 rfl ?_
                refine M_getI dX12_work_82 fX12_337 rfl rfl (by decide) ?_
                refine J_aload_n dX12_work_85 rfl ?_
                refine M_getI dX12_work_86 fX12_135 rfl rfl (by decide) ?_
                simp only [rd1, rd2, rd3, ne_eq, Nat.reduceEqDiff, not_false_eq_true]
                refine M_iastE dX12_work_89 rfl (by decide) (by simpa only [rd2, ne_eq, Nat.reduceEqDiff, not_false_eq_true] using hw) (by omega) ?_
                refine J_aload_n dX12_work_90 rfl ?_
                refine M_getR dX12_work_91 fX12_126 rfl rfl (by decide) ?_
                refine J_aload_n dX12_work_94 rfl ?_
                refine M_getI dX12_work_95 fX12_337 rfl rfl (by decide) ?_
                refine J_aload_n dX12_work_98 rfl ?_
                refine M_getR dX12_work_99 fX12_99 rfl rfl (by decide) ?_
                refine J_iconst (v := 5) dX12_work_102 (by decide) ?_
                refine J_iload_n dX12_work_103 rfl ?_
                refine J_iadd dX12_work_104 ?_
                refine M_ialdE dX12_work_105 rfl (by decide) (show (5 : Int32) + nI s = nI (5 + s) from nI_add 5 s) (by omega) ?_
                simp only [rd1, rd2, rd3, ne_eq, Nat.reduceEqDiff, not_false_eq_true]
                refine M_iastE dX12_work_106 rfl (by decide) (by simpa only [rd2, ne_eq, Nat.reduceEqDiff, not_false_eq_true] using hw) (by omega) ?_
                refine J_aload_n dX12_work_107 rfl ?_
                refine J_dup dX12_work_108 rfl ?_
                refine M_getI dX12_work_109 fX12_337 rfl rfl (by decide) ?_
                refine J_iconst (v := 1) dX12_work_112 (by decide) ?_
                refine J_iadd dX12_work_113 ?_
                simp only [rd2, ne_eq, Nat.reduceEqDiff, not_false_eq_true, hw, nI_1]
                refine M_putI dX12_work_114 pX12_337 rfl rfl (by decide) ?_
                refine J_aload_n dX12_work_117 rfl ?_
                refine M_getI dX12_work_118 fX12_337 rfl rfl (by decide) ?_
                refine M_iret dX12_work_121 rfl rfl ?_
                first
                | exact h0 (fun q => absurd ((nI_eq (a := w) (b := 200) (by omega) (by decide)).mp (hw ▸ c7)) (by omega))
                | exact h0 (fun q => q1 (by obtain ⟨j, hj, e, -⟩ := q.2.2; exact ⟨j, hj, e⟩))
                | exact h0 (fun q => Ix_neg (by decide) c7 q.2.1)
                | exact h0 (fun q => Ix_gt (n := 2) (by decide) (Int32.not_le.mpr c7) q.2.1)
                | exact h0 (fun q => by obtain ⟨j2, hj2, e2, e3, -⟩ := q.2.2; exact absurd e3 (Int32.not_le.mpr c7))
                | exact h0 (fun q => by obtain ⟨j2, hj2, e2, e3, e4⟩ := q.2.2; rw [← (nI_eq (by omega) (by omega)).mp e2] at e4; exact c7 e4)
                | (simp only [rd1]; exact h1 j s hj hs rfl rfl (Int32.not_lt.mp z0) z1 hlt)
              · -- on 45
                refine J_iconst (v := -1) dX12_work_45 (by decide) ?_
                refine M_iret dX12_work_46 rfl rfl ?_
                first
                | exact h0 (fun q => absurd ((nI_eq (a := w) (b := 200) (by omega) (by decide)).mp (hw ▸ c7)) (by omega))
                | exact h0 (fun q => q1 (by obtain ⟨j, hj, e, -⟩ := q.2.2; exact ⟨j, hj, e⟩))
                | exact h0 (fun q => Ix_neg (by decide) c7 q.2.1)
                | exact h0 (fun q => Ix_gt (n := 2) (by decide) (Int32.not_le.mpr c7) q.2.1)
                | exact h0 (fun q => by obtain ⟨j2, hj2, e2, e3, -⟩ := q.2.2; exact absurd e3 (Int32.not_le.mpr c7))
                | exact h0 (fun q => by obtain ⟨j2, hj2, e2, e3, e4⟩ := q.2.2; rw [← (nI_eq (by omega) (by omega)).mp e2] at e4; exact c7 e4)
                | (simp only [rd1]; exact h1 j s hj hs rfl rfl (Int32.not_lt.mp z0) z1 hlt)
    · -- false
      refine J_if_eq (tgt := 45) dX12_work_15 (by decide) (fun c8 => ?_) (fun c8 => ?_)
      · -- to 45
        refine J_iconst (v := -1) dX12_work_45 (by decide) ?_
        refine M_iret dX12_work_46 rfl rfl ?_
        first
        | exact h0 (fun q => absurd ((nI_eq (a := w) (b := 200) (by omega) (by decide)).mp (hw ▸ c8)) (by omega))
        | exact h0 (fun q => q1 (by obtain ⟨j, hj, e, -⟩ := q.2.2; exact ⟨j, hj, e⟩))
        | exact h0 (fun q => Ix_neg (by decide) c8 q.2.1)
        | exact h0 (fun q => Ix_gt (n := 2) (by decide) (Int32.not_le.mpr c8) q.2.1)
        | exact h0 (fun q => by obtain ⟨j2, hj2, e2, e3, -⟩ := q.2.2; exact absurd e3 (Int32.not_le.mpr c8))
        | exact h0 (fun q => by obtain ⟨j2, hj2, e2, e3, e4⟩ := q.2.2; rw [← (nI_eq (by omega) (by omega)).mp e2] at e4; exact c8 e4)
        | (simp only [rd1]; exact h1 j s hj hs rfl rfl (Int32.not_lt.mp z0) z1 hlt)
      · -- on 18
        exact absurd c8 (by decide)
set_option maxRecDepth 100000 in
set_option maxHeartbeats 1000000 in
theorem tM_out {d : Nat} {M : Mem} {Φ : Option Int32 → Mem → Prop} {n : Nat} {x : Int32} (hn : M.1 62 1 = nI n) (hb : n ≤ 12) (hs : M.1 62 12 ≠ 0 → ∀ j, j < 12 → M.1 86 j = -1 ∨ ∃ s, s < 24 ∧ M.1 86 j = nI s) (h0 : (∀ j s : Nat, s < 24 → j < n → x = nI j → M.1 62 12 ≠ 0 → M.1 86 j ≠ nI s) → Φ (some (-1)) M) (h1 : ∀ j s : Nat, j < n → s < 24 → x = nI j → M.1 62 12 ≠ 0 → M.1 86 j = nI s → Φ (some (nI (10 * (s / 6) + s % 6))) M) : JM noRo (d + 1) mX12_out 0 [some (.ref 62), some (.int x)] [] M Φ := by
  refine J_aload_n dX12_out_0 rfl ?_
  refine M_getI dX12_out_1 fX12_138 rfl rfl (by decide) ?_
  refine J_if_eq (tgt := 49) dX12_out_4 (by decide) (fun c1 => ?_) (fun c1 => ?_)
  · -- to 49
    refine J_iconst (v := -1) dX12_out_49 (by decide) ?_
    refine M_iret dX12_out_50 rfl rfl ?_
    first
    | exact h0 (fun j s _ hj e e2 => absurd c1 e2)
    | exact h0 (fun j s _ hj e => absurd ⟨j, hj, e⟩ q1)
    | exact h0 (fun j2 s hs2 hj2 e2 e3 e4 => by rw [(nI_eq (by omega) (by omega)).mp e2, e4] at c1; exact nI_pos (n := s) (by omega) c1)
    | (rw [hsp, show (6 : Int32) = nI 6 from rfl, pk_rem (a := s) (d := 6) (by omega) (by decide) (by decide), pk_div (a := s) (d := 6) (by omega) (by decide) (by decide), show (10 : Int32) = nI 10 from rfl, pk_mul, nI_add]; exact h1 j s hj hs24 rfl hp hsp)
  · -- on 7
    have hp := c1
    refine J_aload_n dX12_out_7 rfl ?_
    refine J_iload_n dX12_out_8 rfl ?_
    refine M_callV1 (mc := mX12_isHorse) dX12_out_9 kX12_142 oX12_isHorse (Nat.le_of_ble_eq_true rfl) (Nat.le_of_ble_eq_true rfl) rfl (by decide) rfl ?_
    refine tX12_isHorse hn hb (fun j hj ej => ?_) (fun q1 => ?_)
    · -- true
      subst ej
      refine J_if_eq (tgt := 49) dX12_out_12 (by decide) (fun c3 => ?_) (fun c3 => ?_)
      · -- to 49
        exact absurd c3 (by decide)
      · -- on 15
        refine J_aload_n dX12_out_15 rfl ?_
        refine M_getR dX12_out_16 fX12_84 rfl rfl (by decide) ?_
        refine J_iload_n dX12_out_19 rfl ?_
        refine M_ialdE dX12_out_20 rfl (by decide) (by first | rfl | assumption) (by omega) ?_
        refine J_if_lt (tgt := 49) dX12_out_21 (by decide) (fun c4 => ?_) (fun c4 => ?_)
        · -- to 49
          refine J_iconst (v := -1) dX12_out_49 (by decide) ?_
          refine M_iret dX12_out_50 rfl rfl ?_
          first
          | exact h0 (fun j s _ hj e e2 => absurd c4 e2)
          | exact h0 (fun j s _ hj e => absurd ⟨j, hj, e⟩ q1)
          | exact h0 (fun j2 s hs2 hj2 e2 e3 e4 => by rw [(nI_eq (by omega) (by omega)).mp e2, e4] at c4; exact nI_pos (n := s) (by omega) c4)
          | (rw [hsp, show (6 : Int32) = nI 6 from rfl, pk_rem (a := s) (d := 6) (by omega) (by decide) (by decide), pk_div (a := s) (d := 6) (by omega) (by decide) (by decide), show (10 : Int32) = nI 10 from rfl, pk_mul, nI_add]; exact h1 j s hj hs24 rfl hp hsp)
        · -- on 24
          obtain ⟨s, hs24, hsp⟩ : ∃ s, s < 24 ∧ M.1 86 j = nI s := by
            rcases hs hp j (by omega) with e | ⟨s, h24, e⟩
            · rw [e] at c4; exact absurd (by decide) c4
            · exact ⟨s, h24, e⟩
          refine J_bipush (v := 10) dX12_out_24 (by decide) ?_
          refine J_aload_n dX12_out_26 rfl ?_
          refine M_getR dX12_out_27 fX12_84 rfl rfl (by decide) ?_
          refine J_iload_n dX12_out_30 rfl ?_
          refine M_ialdE dX12_out_31 rfl (by decide) (by first | rfl | assumption) (by omega) ?_
          refine J_bipush (v := 6) dX12_out_32 (by decide) ?_
          refine J_idiv dX12_out_34 (by decide) ?_
          refine J_imul dX12_out_35 ?_
          refine J_aload_n dX12_out_36 rfl ?_
          refine M_getR dX12_out_37 fX12_84 rfl rfl (by decide) ?_
          refine J_iload_n dX12_out_40 rfl ?_
          refine M_ialdE dX12_out_41 rfl (by decide) (by first | rfl | assumption) (by omega) ?_
          refine J_bipush (v := 6) dX12_out_42 (by decide) ?_
          refine J_irem dX12_out_44 (by decide) ?_
          refine J_iadd dX12_out_45 ?_
          refine J_goto (tgt := 50) dX12_out_46 (by decide) ?_
          refine M_iret dX12_out_50 rfl rfl ?_
          first
          | exact h0 (fun j s _ hj e e2 => absurd c4 e2)
          | exact h0 (fun j s _ hj e => absurd ⟨j, hj, e⟩ q1)
          | exact h0 (fun j2 s hs2 hj2 e2 e3 e4 => by rw [(nI_eq (by omega) (by omega)).mp e2, e4] at c4; exact nI_pos (n := s) (by omega) c4)
          | (rw [hsp, show (6 : Int32) = nI 6 from rfl, pk_rem (a := s) (d := 6) (by omega) (by decide) (by decide), pk_div (a := s) (d := 6) (by omega) (by decide) (by decide), show (10 : Int32) = nI 10 from rfl, pk_mul, nI_add]; exact h1 j s hj hs24 rfl hp hsp)
    · -- false
      refine J_if_eq (tgt := 49) dX12_out_12 (by decide) (fun c5 => ?_) (fun c5 => ?_)
      · -- to 49
        refine J_iconst (v := -1) dX12_out_49 (by decide) ?_
        refine M_iret dX12_out_50 rfl rfl ?_
        first
        | exact h0 (fun j s _ hj e e2 => absurd c5 e2)
        | exact h0 (fun j s _ hj e => absurd ⟨j, hj, e⟩ q1)
        | exact h0 (fun j2 s hs2 hj2 e2 e3 e4 => by rw [(nI_eq (by omega) (by omega)).mp e2, e4] at c5; exact nI_pos (n := s) (by omega) c5)
        | (rw [hsp, show (6 : Int32) = nI 6 from rfl, pk_rem (a := s) (d := 6) (by omega) (by decide) (by decide), pk_div (a := s) (d := 6) (by omega) (by decide) (by decide), show (10 : Int32) = nI 10 from rfl, pk_mul, nI_add]; exact h1 j s hj hs24 rfl hp hsp)
      · -- on 15
        exact absurd c5 (by decide)

def Ix (x : Int32) (n : Nat) : Prop := ∃ j : Nat, j < n ∧ x = nI j
theorem Ix_neg {x : Int32} {n : Nat} (hn : n ≤ 2 ^ 31) (h : x < 0) : ¬ Ix x n := by
  rintro ⟨j, hj, rfl⟩
  exact nI_pos (by omega) h
theorem Ix_big {x : Int32} {n : Nat} (hn : n < 2 ^ 31) (h : nI n ≤ x) : ¬ Ix x n := by
  rintro ⟨j, hj, rfl⟩
  exact nI_ge hj hn h
theorem Ix_gt {x : Int32} {n : Nat} (hn : n < 2 ^ 31) (h : ¬ x ≤ nI n) : ¬ Ix x (n + 1) := by
  rintro ⟨j, hj, rfl⟩
  exact h (nI_le (by omega) hn)
theorem Ix_of {x : Int32} {n : Nat} (hn : n < 2 ^ 31) (h0 : ¬ x < 0) (h1 : ¬ nI n ≤ x) : Ix x n := by
  rcases pk_ix x hn with h | h | h
  · exact absurd h h0
  · exact absurd h h1
  · exact h
theorem Ix_le {x : Int32} {n : Nat} (hn : n < 2 ^ 31) (h0 : ¬ x < 0) (h1 : x ≤ nI n) : Ix x (n + 1) := by
  obtain ⟨j, hj, rfl⟩ := nI_of h0
  exact ⟨j, by have := (nI_leI hj hn).mp h1; omega, rfl⟩

set_option maxRecDepth 100000 in
set_option maxHeartbeats 1000000 in
theorem tX1_count {d : Nat} {M : Mem} {Φ : Option Int32 → Mem → Prop}  (h : Φ (some (M.1 1 6)) M) : JM noRo d mX1_count 0 [some (.ref 1)] [] M Φ := by
  refine J_aload_n dX1_count_0 rfl ?_
  refine M_getI dX1_count_1 fX1_31 rfl rfl (by decide) ?_
  refine M_iret dX1_count_4 rfl rfl ?_
  exact h
set_option maxRecDepth 100000 in
set_option maxHeartbeats 1000000 in
theorem tX1_has {d : Nat} {M : Mem} {Φ : Option Int32 → Mem → Prop} {x : Int32} {n : Nat} (hn : M.1 1 6 = nI n) (hb : n ≤ 12) (h1 : ∀ j : Nat, j < n → x = nI j → Φ (some 1) M) (h0 : ¬ Ix x n → Φ (some 0) M) : JM noRo d mX1_has 0 [some (.ref 1), some (.int x)] [] M Φ := by
  refine J_iload_n dX1_has_0 rfl ?_
  refine J_if_lt (tgt := 16) dX1_has_1 (by decide) (fun c1 => ?_) (fun c1 => ?_)
  · -- to 16
    refine J_iconst (v := 0) dX1_has_16 (by decide) ?_
    refine M_zret dX1_has_17 rfl (by first | assumption | exact Or.inl rfl | exact Or.inr rfl) ?_
    first
    | exact h0 (Ix_neg (by omega) c1)
    | exact h0 (Ix_big (by omega) (hn ▸ c2))
    | (obtain ⟨j, hj, e⟩ := Ix_of (by omega) c1 (hn ▸ c2); exact h1 j hj e)
  · -- on 4
    refine J_iload_n dX1_has_4 rfl ?_
    refine J_aload_n dX1_has_5 rfl ?_
    refine M_getI dX1_has_6 fX1_31 rfl rfl (by decide) ?_
    refine J_icmp_ge (tgt := 16) dX1_has_9 (by decide) (fun c2 => ?_) (fun c2 => ?_)
    · -- to 16
      refine J_iconst (v := 0) dX1_has_16 (by decide) ?_
      refine M_zret dX1_has_17 rfl (by first | assumption | exact Or.inl rfl | exact Or.inr rfl) ?_
      first
      | exact h0 (Ix_neg (by omega) c1)
      | exact h0 (Ix_big (by omega) (hn ▸ c2))
      | (obtain ⟨j, hj, e⟩ := Ix_of (by omega) c1 (hn ▸ c2); exact h1 j hj e)
    · -- on 12
      refine J_iconst (v := 1) dX1_has_12 (by decide) ?_
      refine J_goto (tgt := 17) dX1_has_13 (by decide) ?_
      refine M_zret dX1_has_17 rfl (by first | assumption | exact Or.inl rfl | exact Or.inr rfl) ?_
      first
      | exact h0 (Ix_neg (by omega) c1)
      | exact h0 (Ix_big (by omega) (hn ▸ c2))
      | (obtain ⟨j, hj, e⟩ := Ix_of (by omega) c1 (hn ▸ c2); exact h1 j hj e)
set_option maxRecDepth 100000 in
set_option maxHeartbeats 1000000 in
theorem tX1_kindOf {d : Nat} {M : Mem} {Φ : Option Int32 → Mem → Prop} {j : Nat} (hj : j < 12) (h : Φ (some (M.1 2 j)) M) : JM noRo d mX1_kindOf 0 [some (.ref 1), some (.int (nI j))] [] M Φ := by
  refine J_aload_n dX1_kindOf_0 rfl ?_
  refine M_getR dX1_kindOf_1 fX1_9 rfl rfl (by decide) ?_
  refine J_iload_n dX1_kindOf_4 rfl ?_
  refine M_ialdE dX1_kindOf_5 rfl (by decide) (by first | rfl | assumption) (by omega) ?_
  refine M_iret dX1_kindOf_6 rfl rfl ?_
  exact h
set_option maxRecDepth 100000 in
set_option maxHeartbeats 1000000 in
theorem tX1_ageOf {d : Nat} {M : Mem} {Φ : Option Int32 → Mem → Prop} {j : Nat} (hj : j < 12) (h : Φ (some (M.1 3 j)) M) : JM noRo d mX1_ageOf 0 [some (.ref 1), some (.int (nI j))] [] M Φ := by
  refine J_aload_n dX1_ageOf_0 rfl ?_
  refine M_getR dX1_ageOf_1 fX1_15 rfl rfl (by decide) ?_
  refine J_iload_n dX1_ageOf_4 rfl ?_
  refine M_ialdE dX1_ageOf_5 rfl (by decide) (by first | rfl | assumption) (by omega) ?_
  refine M_iret dX1_ageOf_6 rfl rfl ?_
  exact h
set_option maxRecDepth 100000 in
set_option maxHeartbeats 1000000 in
theorem tX1_cameOf {d : Nat} {M : Mem} {Φ : Option Int32 → Mem → Prop} {j : Nat} (hj : j < 12) (h : Φ (some (M.1 4 j)) M) : JM noRo d mX1_cameOf 0 [some (.ref 1), some (.int (nI j))] [] M Φ := by
  refine J_aload_n dX1_cameOf_0 rfl ?_
  refine M_getR dX1_cameOf_1 fX1_18 rfl rfl (by decide) ?_
  refine J_iload_n dX1_cameOf_4 rfl ?_
  refine M_ialdE dX1_cameOf_5 rfl (by decide) (by first | rfl | assumption) (by omega) ?_
  refine M_iret dX1_cameOf_6 rfl rfl ?_
  exact h
set_option maxRecDepth 100000 in
set_option maxHeartbeats 1000000 in
theorem tX1_lackedOf {d : Nat} {M : Mem} {Φ : Option Int32 → Mem → Prop} {j : Nat} (hj : j < 12) (h : Φ (some (M.1 7 j)) M) : JM noRo d mX1_lackedOf 0 [some (.ref 1), some (.int (nI j))] [] M Φ := by
  refine J_aload_n dX1_lackedOf_0 rfl ?_
  refine M_getR dX1_lackedOf_1 fX1_28 rfl rfl (by decide) ?_
  refine J_iload_n dX1_lackedOf_4 rfl ?_
  refine M_ialdE dX1_lackedOf_5 rfl (by decide) (by first | rfl | assumption) (by omega) ?_
  refine M_iret dX1_lackedOf_6 rfl rfl ?_
  exact h
set_option maxRecDepth 100000 in
set_option maxHeartbeats 1000000 in
theorem tX1_isLame {d : Nat} {M : Mem} {Φ : Option Int32 → Mem → Prop} {j : Nat} (hj : j < 12) (h01 : M.1 5 j = 0 ∨ M.1 5 j = 1) (h : Φ (some (M.1 5 j)) M) : JM noRo d mX1_isLame 0 [some (.ref 1), some (.int (nI j))] [] M Φ := by
  refine J_aload_n dX1_isLame_0 rfl ?_
  refine M_getR dX1_isLame_1 fX1_21 rfl rfl (by decide) ?_
  refine J_iload_n dX1_isLame_4 rfl ?_
  refine M_zaldE dX1_isLame_5 rfl (by decide) (by first | rfl | assumption) (by omega) ?_
  refine M_zret dX1_isLame_6 rfl (by first | assumption | exact Or.inl rfl | exact Or.inr rfl) ?_
  exact h
set_option maxRecDepth 100000 in
set_option maxHeartbeats 1000000 in
theorem tX1_setLame {d : Nat} {M : Mem} {Φ : Option Int32 → Mem → Prop} {j : Nat} {x : Int32} (hj : j < 12) (hx : x = 0 ∨ x = 1) (h : Φ none (wr M 5 j x)) : JM noRo d mX1_setLame 0 [some (.ref 1), some (.int (nI j)), some (.int x)] [] M Φ := by
  refine J_aload_n dX1_setLame_0 rfl ?_
  refine M_getR dX1_setLame_1 fX1_21 rfl rfl (by decide) ?_
  refine J_iload_n dX1_setLame_4 rfl ?_
  refine J_iload_n dX1_setLame_5 rfl ?_
  refine M_zastE dX1_setLame_6 rfl (by decide) (by first | rfl | assumption) (by omega) (by first | assumption | exact Or.inl rfl | exact Or.inr rfl) ?_
  refine M_vret dX1_setLame_7 rfl ?_
  exact h
set_option maxRecDepth 100000 in
set_option maxHeartbeats 1000000 in
theorem tX1_wantedOf {d : Nat} {M : Mem} {Φ : Option Int32 → Mem → Prop} {j b : Nat} (hj : j < 12) (hb : b < 4) (h : Φ (some (M.1 6 (j * 4 + b))) M) : JM noRo d mX1_wantedOf 0 [some (.ref 1), some (.int (nI j)), some (.int (nI b))] [] M Φ := by
  refine J_aload_n dX1_wantedOf_0 rfl ?_
  refine M_getR dX1_wantedOf_1 fX1_25 rfl rfl (by decide) ?_
  refine J_iload_n dX1_wantedOf_4 rfl ?_
  refine J_iconst (v := 4) dX1_wantedOf_5 (by decide) ?_
  refine J_imul dX1_wantedOf_6 ?_
  refine J_iload_n dX1_wantedOf_7 rfl ?_
  refine J_iadd dX1_wantedOf_8 ?_
  refine M_ialdE dX1_wantedOf_9 rfl (by decide) (ixm j 4 b) (by omega) ?_
  refine M_iret dX1_wantedOf_10 rfl rfl ?_
  exact h
set_option maxRecDepth 100000 in
set_option maxHeartbeats 1000000 in
theorem tX1_setWanted {d : Nat} {M : Mem} {Φ : Option Int32 → Mem → Prop} {j b : Nat} {x : Int32} (hj : j < 12) (hb : b < 4) (h : Φ none (wr M 6 (j * 4 + b) x)) : JM noRo d mX1_setWanted 0 [some (.ref 1), some (.int (nI j)), some (.int (nI b)), some (.int x)] [] M Φ := by
  refine J_aload_n dX1_setWanted_0 rfl ?_
  refine M_getR dX1_setWanted_1 fX1_25 rfl rfl (by decide) ?_
  refine J_iload_n dX1_setWanted_4 rfl ?_
  refine J_iconst (v := 4) dX1_setWanted_5 (by decide) ?_
  refine J_imul dX1_setWanted_6 ?_
  refine J_iload_n dX1_setWanted_7 rfl ?_
  refine J_iadd dX1_setWanted_8 ?_
  refine J_iload_n dX1_setWanted_9 rfl ?_
  refine M_iastE dX1_setWanted_10 rfl (by decide) (ixm j 4 b) (by omega) ?_
  refine M_vret dX1_setWanted_11 rfl ?_
  exact h
set_option maxRecDepth 100000 in
set_option maxHeartbeats 1000000 in
theorem tX1_addLacked {d : Nat} {M : Mem} {Φ : Option Int32 → Mem → Prop} {j : Nat} {x : Int32} (hj : j < 12) (h : Φ none (wr M 7 j (M.1 7 j + x))) : JM noRo d mX1_addLacked 0 [some (.ref 1), some (.int (nI j)), some (.int x)] [] M Φ := by
  refine J_aload_n dX1_addLacked_0 rfl ?_
  refine M_getR dX1_addLacked_1 fX1_28 rfl rfl (by decide) ?_
  refine J_iload_n dX1_addLacked_4 rfl ?_
  refine J_dup2 dX1_addLacked_5 rfl rfl ?_
  refine M_ialdE dX1_addLacked_6 rfl (by decide) (by first | rfl | assumption) (by omega) ?_
  refine J_iload_n dX1_addLacked_7 rfl ?_
  refine J_iadd dX1_addLacked_8 ?_
  refine M_iastE dX1_addLacked_9 rfl (by decide) (by first | rfl | assumption) (by omega) ?_
  refine M_vret dX1_addLacked_10 rfl ?_
  exact h
set_option maxRecDepth 100000 in
set_option maxHeartbeats 1000000 in
theorem tX1_add {d : Nat} {M : Mem} {Φ : Option Int32 → Mem → Prop} {n : Nat} {x y z : Int32} (hn : M.1 1 6 = nI n) (hb : n < 12) (h : Φ (some (nI n)) (wr (wr (wr (wr M 2 n x) 3 n y) 4 n z) 1 6 (nI (n + 1)))) : JM noRo d mX1_add 0 [some (.ref 1), some (.int x), some (.int y), some (.int z)] [] M Φ := by
  refine J_aload_n dX1_add_0 rfl ?_
  refine M_getI dX1_add_1 fX1_31 rfl rfl (by decide) ?_
  refine J_bipush (v := 12) dX1_add_4 (by decide) ?_
  refine J_icmp_lt (tgt := 11) dX1_add_6 (by decide) (fun c1 => ?_) (fun c1 => ?_)
  · -- to 11
    refine J_aload_n dX1_add_11 rfl ?_
    refine M_getR dX1_add_12 fX1_9 rfl rfl (by decide) ?_
    refine J_aload_n dX1_add_15 rfl ?_
    refine M_getI dX1_add_16 fX1_31 rfl rfl (by decide) ?_
    refine J_iload_n dX1_add_19 rfl ?_
    refine M_iastE dX1_add_20 rfl (by decide) (by first | rfl | assumption) (by omega) ?_
    refine J_aload_n dX1_add_21 rfl ?_
    refine M_getR dX1_add_22 fX1_15 rfl rfl (by decide) ?_
    refine J_aload_n dX1_add_25 rfl ?_
    refine M_getI dX1_add_26 fX1_31 rfl rfl (by decide) ?_
    refine J_iload_n dX1_add_29 rfl ?_
    refine M_iastE dX1_add_30 rfl (by decide) (by simpa only [rd2, ne_eq, Nat.reduceEqDiff, not_false_eq_true] using hn) (by omega) ?_
    refine J_aload_n dX1_add_31 rfl ?_
    refine M_getR dX1_add_32 fX1_18 rfl rfl (by decide) ?_
    refine J_aload_n dX1_add_35 rfl ?_
    refine M_getI dX1_add_36 fX1_31 rfl rfl (by decide) ?_
    refine J_iload_n dX1_add_39 rfl ?_
    refine M_iastE dX1_add_40 rfl (by decide) (by simpa only [rd2, ne_eq, Nat.reduceEqDiff, not_false_eq_true] using hn) (by omega) ?_
    refine J_aload_n dX1_add_41 rfl ?_
    refine J_dup dX1_add_42 rfl ?_
    refine M_getI dX1_add_43 fX1_31 rfl rfl (by decide) ?_
    refine J_iconst (v := 1) dX1_add_46 (by decide) ?_
    refine J_iadd dX1_add_47 ?_
    simp only [rd2, ne_eq, Nat.reduceEqDiff, not_false_eq_true, hn, nI_1]
    refine M_putI dX1_add_48 pX1_31 rfl rfl (by decide) ?_
    refine J_aload_n dX1_add_51 rfl ?_
    refine M_getI dX1_add_52 fX1_31 rfl rfl (by decide) ?_
    refine J_iconst (v := 1) dX1_add_55 (by decide) ?_
    simp only [rd1]
    refine J_isub dX1_add_56 ?_
    refine M_iret dX1_add_57 rfl rfl ?_
    rw [nI_pred]
    exact h
  · -- on 9
    exact absurd (by rw [hn]; exact nI_lt (a := n) (b := 12) hb (by decide)) c1
set_option maxRecDepth 100000 in
set_option maxHeartbeats 1000000 in
theorem tX1_addF {d : Nat} {M : Mem} {Φ : Option Int32 → Mem → Prop} {n : Nat} {x y z : Int32} (hn : M.1 1 6 = nI n) (hb : 12 ≤ n) (hc : n ≤ 12) (h : Φ (some (-1)) M) : JM noRo d mX1_add 0 [some (.ref 1), some (.int x), some (.int y), some (.int z)] [] M Φ := by
  refine J_aload_n dX1_add_0 rfl ?_
  refine M_getI dX1_add_1 fX1_31 rfl rfl (by decide) ?_
  refine J_bipush (v := 12) dX1_add_4 (by decide) ?_
  refine J_icmp_lt (tgt := 11) dX1_add_6 (by decide) (fun c1 => ?_) (fun c1 => ?_)
  · -- to 11
    exact absurd (show nI n < 12 from by rw [← hn]; exact c1) (nI_nlt (a := n) (b := 12) hb (by omega))
  · -- on 9
    refine J_iconst (v := -1) dX1_add_9 (by decide) ?_
    refine M_iret dX1_add_10 rfl rfl ?_
    exact h
set_option maxRecDepth 100000 in
set_option maxHeartbeats 1000000 in
theorem tX3_lay {d : Nat} {M : Mem} {Φ : Option Int32 → Mem → Prop} {j : Nat} {x y : Int32} (hj : j < 6) (h : Φ none (wr (wr M 9 j x) 10 j y)) : JM noRo d mX3_lay 0 [some (.ref 8), some (.int (nI j)), some (.int x), some (.int y)] [] M Φ := by
  refine J_aload_n dX3_lay_0 rfl ?_
  refine M_getR dX3_lay_1 fX3_9 rfl rfl (by decide) ?_
  refine J_iload_n dX3_lay_4 rfl ?_
  refine J_iload_n dX3_lay_5 rfl ?_
  refine M_iastE dX3_lay_6 rfl (by decide) (by first | rfl | assumption) (by omega) ?_
  refine J_aload_n dX3_lay_7 rfl ?_
  refine M_getR dX3_lay_8 fX3_15 rfl rfl (by decide) ?_
  refine J_iload_n dX3_lay_11 rfl ?_
  refine J_iload_n dX3_lay_12 rfl ?_
  refine M_iastE dX3_lay_13 rfl (by decide) (by first | rfl | assumption) (by omega) ?_
  refine M_vret dX3_lay_14 rfl ?_
  exact h
set_option maxRecDepth 100000 in
set_option maxHeartbeats 1000000 in
theorem tX3_close {d : Nat} {M : Mem} {Φ : Option Int32 → Mem → Prop} {j : Nat} {x : Int32} (hj : j < 6) (h : Φ none (wr M 11 j x)) : JM noRo d mX3_close 0 [some (.ref 8), some (.int (nI j)), some (.int x)] [] M Φ := by
  refine J_aload_n dX3_close_0 rfl ?_
  refine M_getR dX3_close_1 fX3_18 rfl rfl (by decide) ?_
  refine J_iload_n dX3_close_4 rfl ?_
  refine J_iload_n dX3_close_5 rfl ?_
  refine M_iastE dX3_close_6 rfl (by decide) (by first | rfl | assumption) (by omega) ?_
  refine M_vret dX3_close_7 rfl ?_
  exact h
set_option maxRecDepth 100000 in
set_option maxHeartbeats 1000000 in
theorem tX3_setGate {d : Nat} {M : Mem} {Φ : Option Int32 → Mem → Prop} {a b : Nat} {x : Int32} (ha : a < 6) (hb : b < 6) (hx : x = 0 ∨ x = 1) (h : Φ none (wr (wr M 12 (a * 6 + b) x) 12 (b * 6 + a) x)) : JM noRo d mX3_setGate 0 [some (.ref 8), some (.int (nI a)), some (.int (nI b)), some (.int x)] [] M Φ := by
  refine J_aload_n dX3_setGate_0 rfl ?_
  refine M_getR dX3_setGate_1 fX3_21 rfl rfl (by decide) ?_
  refine J_iload_n dX3_setGate_4 rfl ?_
  refine J_bipush (v := 6) dX3_setGate_5 (by decide) ?_
  refine J_imul dX3_setGate_7 ?_
  refine J_iload_n dX3_setGate_8 rfl ?_
  refine J_iadd dX3_setGate_9 ?_
  refine J_iload_n dX3_setGate_10 rfl ?_
  refine M_zastE dX3_setGate_11 rfl (by decide) (ixm a 6 b) (by omega) (by first | assumption | exact Or.inl rfl | exact Or.inr rfl) ?_
  refine J_aload_n dX3_setGate_12 rfl ?_
  refine M_getR dX3_setGate_13 fX3_21 rfl rfl (by decide) ?_
  refine J_iload_n dX3_setGate_16 rfl ?_
  refine J_bipush (v := 6) dX3_setGate_17 (by decide) ?_
  refine J_imul dX3_setGate_19 ?_
  refine J_iload_n dX3_setGate_20 rfl ?_
  refine J_iadd dX3_setGate_21 ?_
  refine J_iload_n dX3_setGate_22 rfl ?_
  refine M_zastE dX3_setGate_23 rfl (by decide) (ixm b 6 a) (by omega) (by first | assumption | exact Or.inl rfl | exact Or.inr rfl) ?_
  refine M_vret dX3_setGate_24 rfl ?_
  exact h
set_option maxRecDepth 100000 in
set_option maxHeartbeats 1000000 in
theorem tX3_roomOf {d : Nat} {M : Mem} {Φ : Option Int32 → Mem → Prop} {j : Nat} (hj : j < 6) (h : Φ (some (M.1 9 j)) M) : JM noRo d mX3_roomOf 0 [some (.ref 8), some (.int (nI j))] [] M Φ := by
  refine J_aload_n dX3_roomOf_0 rfl ?_
  refine M_getR dX3_roomOf_1 fX3_9 rfl rfl (by decide) ?_
  refine J_iload_n dX3_roomOf_4 rfl ?_
  refine M_ialdE dX3_roomOf_5 rfl (by decide) (by first | rfl | assumption) (by omega) ?_
  refine M_iret dX3_roomOf_6 rfl rfl ?_
  exact h
set_option maxRecDepth 100000 in
set_option maxHeartbeats 1000000 in
theorem tX3_wetOf {d : Nat} {M : Mem} {Φ : Option Int32 → Mem → Prop} {j : Nat} (hj : j < 6) (h : Φ (some (M.1 10 j)) M) : JM noRo d mX3_wetOf 0 [some (.ref 8), some (.int (nI j))] [] M Φ := by
  refine J_aload_n dX3_wetOf_0 rfl ?_
  refine M_getR dX3_wetOf_1 fX3_15 rfl rfl (by decide) ?_
  refine J_iload_n dX3_wetOf_4 rfl ?_
  refine M_ialdE dX3_wetOf_5 rfl (by decide) (by first | rfl | assumption) (by omega) ?_
  refine M_iret dX3_wetOf_6 rfl rfl ?_
  exact h
set_option maxRecDepth 100000 in
set_option maxHeartbeats 1000000 in
theorem tX3_isOpen {d : Nat} {M : Mem} {Φ : Option Int32 → Mem → Prop} {j : Nat} {y : Int32} (hj : j < 6) (h1 : 0 < M.1 9 j → M.1 11 j ≤ y → Φ (some 1) M) (h0 : ¬ (0 < M.1 9 j ∧ M.1 11 j ≤ y) → Φ (some 0) M) : JM noRo d mX3_isOpen 0 [some (.ref 8), some (.int (nI j)), some (.int y)] [] M Φ := by
  refine J_aload_n dX3_isOpen_0 rfl ?_
  refine M_getR dX3_isOpen_1 fX3_9 rfl rfl (by decide) ?_
  refine J_iload_n dX3_isOpen_4 rfl ?_
  refine M_ialdE dX3_isOpen_5 rfl (by decide) (by first | rfl | assumption) (by omega) ?_
  refine J_if_le (tgt := 23) dX3_isOpen_6 (by decide) (fun c1 => ?_) (fun c1 => ?_)
  · -- to 23
    refine J_iconst (v := 0) dX3_isOpen_23 (by decide) ?_
    refine M_zret dX3_isOpen_24 rfl (by first | assumption | exact Or.inl rfl | exact Or.inr rfl) ?_
    first
    | exact h1 (Int32.not_le.mp c1) (Int32.not_lt.mp c2)
    | exact h0 (fun q => absurd q.1 (Int32.not_lt.mpr c1))
    | exact h0 (fun q => absurd q.2 (Int32.not_le.mpr c2))
  · -- on 9
    refine J_iload_n dX3_isOpen_9 rfl ?_
    refine J_aload_n dX3_isOpen_10 rfl ?_
    refine M_getR dX3_isOpen_11 fX3_18 rfl rfl (by decide) ?_
    refine J_iload_n dX3_isOpen_14 rfl ?_
    refine M_ialdE dX3_isOpen_15 rfl (by decide) (by first | rfl | assumption) (by omega) ?_
    refine J_icmp_lt (tgt := 23) dX3_isOpen_16 (by decide) (fun c2 => ?_) (fun c2 => ?_)
    · -- to 23
      refine J_iconst (v := 0) dX3_isOpen_23 (by decide) ?_
      refine M_zret dX3_isOpen_24 rfl (by first | assumption | exact Or.inl rfl | exact Or.inr rfl) ?_
      first
      | exact h1 (Int32.not_le.mp c1) (Int32.not_lt.mp c2)
      | exact h0 (fun q => absurd q.1 (Int32.not_lt.mpr c1))
      | exact h0 (fun q => absurd q.2 (Int32.not_le.mpr c2))
    · -- on 19
      refine J_iconst (v := 1) dX3_isOpen_19 (by decide) ?_
      refine J_goto (tgt := 24) dX3_isOpen_20 (by decide) ?_
      refine M_zret dX3_isOpen_24 rfl (by first | assumption | exact Or.inl rfl | exact Or.inr rfl) ?_
      first
      | exact h1 (Int32.not_le.mp c1) (Int32.not_lt.mp c2)
      | exact h0 (fun q => absurd q.1 (Int32.not_lt.mpr c1))
      | exact h0 (fun q => absurd q.2 (Int32.not_le.mpr c2))
set_option maxRecDepth 100000 in
set_option maxHeartbeats 1000000 in
theorem tX3_touch {d : Nat} {M : Mem} {Φ : Option Int32 → Mem → Prop} {a b : Nat} (ha : a < 6) (hb : b < 6) (h1 : (a = b ∨ M.1 12 (a * 6 + b) ≠ 0) → Φ (some 1) M) (h0 : ¬ (a = b ∨ M.1 12 (a * 6 + b) ≠ 0) → Φ (some 0) M) : JM noRo d mX3_touch 0 [some (.ref 8), some (.int (nI a)), some (.int (nI b))] [] M Φ := by
  refine J_iload_n dX3_touch_0 rfl ?_
  refine J_iload_n dX3_touch_1 rfl ?_
  refine J_icmp_eq (tgt := 19) dX3_touch_2 (by decide) (fun c1 => ?_) (fun c1 => ?_)
  · -- to 19
    refine J_iconst (v := 1) dX3_touch_19 (by decide) ?_
    refine J_goto (tgt := 24) dX3_touch_20 (by decide) ?_
    refine M_zret dX3_touch_24 rfl (by first | assumption | exact Or.inl rfl | exact Or.inr rfl) ?_
    first
    | exact h1 (Or.inl ((nI_eq (by omega) (by omega)).mp c1))
    | exact h1 (Or.inr c2)
    | exact h0 (fun q => q.elim (fun q => c1 (by rw [q])) (fun q => q c2))
  · -- on 5
    refine J_aload_n dX3_touch_5 rfl ?_
    refine M_getR dX3_touch_6 fX3_21 rfl rfl (by decide) ?_
    refine J_iload_n dX3_touch_9 rfl ?_
    refine J_bipush (v := 6) dX3_touch_10 (by decide) ?_
    refine J_imul dX3_touch_12 ?_
    refine J_iload_n dX3_touch_13 rfl ?_
    refine J_iadd dX3_touch_14 ?_
    refine M_zaldE dX3_touch_15 rfl (by decide) (ixm a 6 b) (by omega) ?_
    refine J_if_eq (tgt := 23) dX3_touch_16 (by decide) (fun c2 => ?_) (fun c2 => ?_)
    · -- to 23
      refine J_iconst (v := 0) dX3_touch_23 (by decide) ?_
      refine M_zret dX3_touch_24 rfl (by first | assumption | exact Or.inl rfl | exact Or.inr rfl) ?_
      first
      | exact h1 (Or.inl ((nI_eq (by omega) (by omega)).mp c1))
      | exact h1 (Or.inr c2)
      | exact h0 (fun q => q.elim (fun q => c1 (by rw [q])) (fun q => q c2))
    · -- on 19
      refine J_iconst (v := 1) dX3_touch_19 (by decide) ?_
      refine J_goto (tgt := 24) dX3_touch_20 (by decide) ?_
      refine M_zret dX3_touch_24 rfl (by first | assumption | exact Or.inl rfl | exact Or.inr rfl) ?_
      first
      | exact h1 (Or.inl ((nI_eq (by omega) (by omega)).mp c1))
      | exact h1 (Or.inr c2)
      | exact h0 (fun q => q.elim (fun q => c1 (by rw [q])) (fun q => q c2))
set_option maxRecDepth 100000 in
set_option maxHeartbeats 1000000 in
theorem tX8_length {d : Nat} {M : Mem} {Φ : Option Int32 → Mem → Prop}  (h : Φ (some (M.1 13 1)) M) : JM noRo d mX8_length 0 [some (.ref 13)] [] M Φ := by
  refine J_aload_n dX8_length_0 rfl ?_
  refine M_getI dX8_length_1 fX8_15 rfl rfl (by decide) ?_
  refine M_iret dX8_length_4 rfl rfl ?_
  exact h
set_option maxRecDepth 100000 in
set_option maxHeartbeats 1000000 in
theorem tX8_cut {d : Nat} {M : Mem} {Φ : Option Int32 → Mem → Prop} {x : Int32} (h : Φ none (wr M 13 1 x)) : JM noRo d mX8_cut 0 [some (.ref 13), some (.int x)] [] M Φ := by
  refine J_aload_n dX8_cut_0 rfl ?_
  refine J_iload_n dX8_cut_1 rfl ?_
  refine M_putI dX8_cut_2 pX8_15 rfl rfl (by decide) ?_
  refine M_vret dX8_cut_5 rfl ?_
  exact h
set_option maxRecDepth 100000 in
set_option maxHeartbeats 1000000 in
theorem tX8_at {d : Nat} {M : Mem} {Φ : Option Int32 → Mem → Prop} {x : Int32} {n : Nat} (hn : M.1 13 1 = nI n) (hb : n ≤ 1000) (h1 : ∀ j : Nat, j < n → x = nI j → Φ (some (M.1 14 j)) M) (h0 : ¬ Ix x n → Φ (some (-1)) M) : JM noRo d mX8_at 0 [some (.ref 13), some (.int x)] [] M Φ := by
  refine J_iload_n dX8_at_0 rfl ?_
  refine J_if_lt (tgt := 21) dX8_at_1 (by decide) (fun c1 => ?_) (fun c1 => ?_)
  · -- to 21
    refine J_iconst (v := -1) dX8_at_21 (by decide) ?_
    refine M_iret dX8_at_22 rfl rfl ?_
    first
    | exact h0 (Ix_neg (by omega) c1)
    | exact h0 (Ix_big (by omega) (hn ▸ c2))
    | exact h1 j hj e
  · -- on 4
    refine J_iload_n dX8_at_4 rfl ?_
    refine J_aload_n dX8_at_5 rfl ?_
    refine M_getI dX8_at_6 fX8_15 rfl rfl (by decide) ?_
    refine J_icmp_ge (tgt := 21) dX8_at_9 (by decide) (fun c2 => ?_) (fun c2 => ?_)
    · -- to 21
      refine J_iconst (v := -1) dX8_at_21 (by decide) ?_
      refine M_iret dX8_at_22 rfl rfl ?_
      first
      | exact h0 (Ix_neg (by omega) c1)
      | exact h0 (Ix_big (by omega) (hn ▸ c2))
      | exact h1 j hj e
    · -- on 12
      refine J_aload_n dX8_at_12 rfl ?_
      obtain ⟨j, hj, e⟩ := Ix_of (by omega) c1 (hn ▸ c2)
      refine M_getR dX8_at_13 fX8_9 rfl rfl (by decide) ?_
      refine J_iload_n dX8_at_16 rfl ?_
      refine M_ialdE dX8_at_17 rfl (by decide) e (by omega) ?_
      refine J_goto (tgt := 22) dX8_at_18 (by decide) ?_
      refine M_iret dX8_at_22 rfl rfl ?_
      first
      | exact h0 (Ix_neg (by omega) c1)
      | exact h0 (Ix_big (by omega) (hn ▸ c2))
      | exact h1 j hj e
set_option maxRecDepth 100000 in
set_option maxHeartbeats 1000000 in
theorem tX11_isUpTo {d : Nat} {M : Mem} {Φ : Option Int32 → Mem → Prop} {x y : Int32} (n : Nat) (hy : y = nI n) (hn : n < 2 ^ 31) (h1 : ∀ j : Nat, j < n + 1 → x = nI j → Φ (some 1) M) (h0 : ¬ Ix x (n + 1) → Φ (some 0) M) : JM noRo d mX11_isUpTo 0 [some (.int x), some (.int y)] [] M Φ := by
  refine J_iload_n dX11_isUpTo_0 rfl ?_
  refine J_if_lt (tgt := 13) dX11_isUpTo_1 (by decide) (fun c1 => ?_) (fun c1 => ?_)
  · -- to 13
    refine J_iconst (v := 0) dX11_isUpTo_13 (by decide) ?_
    refine M_zret dX11_isUpTo_14 rfl (by first | assumption | exact Or.inl rfl | exact Or.inr rfl) ?_
    first
    | exact h0 (Ix_neg (by omega) c1)
    | exact h0 (Ix_gt hn (fun q => absurd (hy ▸ c2) (Int32.not_lt.mpr q)))
    | (obtain ⟨j, hj, e⟩ := Ix_le hn c1 (hy ▸ Int32.not_lt.mp c2); exact h1 j hj e)
  · -- on 4
    refine J_iload_n dX11_isUpTo_4 rfl ?_
    refine J_iload_n dX11_isUpTo_5 rfl ?_
    refine J_icmp_gt (tgt := 13) dX11_isUpTo_6 (by decide) (fun c2 => ?_) (fun c2 => ?_)
    · -- to 13
      refine J_iconst (v := 0) dX11_isUpTo_13 (by decide) ?_
      refine M_zret dX11_isUpTo_14 rfl (by first | assumption | exact Or.inl rfl | exact Or.inr rfl) ?_
      first
      | exact h0 (Ix_neg (by omega) c1)
      | exact h0 (Ix_gt hn (fun q => absurd (hy ▸ c2) (Int32.not_lt.mpr q)))
      | (obtain ⟨j, hj, e⟩ := Ix_le hn c1 (hy ▸ Int32.not_lt.mp c2); exact h1 j hj e)
    · -- on 9
      refine J_iconst (v := 1) dX11_isUpTo_9 (by decide) ?_
      refine J_goto (tgt := 14) dX11_isUpTo_10 (by decide) ?_
      refine M_zret dX11_isUpTo_14 rfl (by first | assumption | exact Or.inl rfl | exact Or.inr rfl) ?_
      first
      | exact h0 (Ix_neg (by omega) c1)
      | exact h0 (Ix_gt hn (fun q => absurd (hy ▸ c2) (Int32.not_lt.mpr q)))
      | (obtain ⟨j, hj, e⟩ := Ix_le hn c1 (hy ▸ Int32.not_lt.mp c2); exact h1 j hj e)
set_option maxRecDepth 100000 in
set_option maxHeartbeats 1000000 in
theorem tX11_isField {d : Nat} {M : Mem} {Φ : Option Int32 → Mem → Prop} {x : Int32} (h1 : ∀ j : Nat, j < 6 → x = nI j → Φ (some 1) M) (h0 : ¬ Ix x 6 → Φ (some 0) M) : JM noRo (d + 1) mX11_isField 0 [some (.int x)] [] M Φ := by
  refine J_iload_n dX11_isField_0 rfl ?_
  refine J_iconst (v := 5) dX11_isField_1 (by decide) ?_
  refine M_callS2 (mc := mX11_isUpTo) dX11_isField_2 kX11_101 oX11_isUpTo (Nat.le_of_ble_eq_true rfl) (Nat.le_of_ble_eq_true rfl) ?_
  refine tX11_isUpTo 5 rfl (by decide) (fun j hj e => ?_) (fun q => ?_)
  · -- true
    refine M_zret dX11_isField_5 rfl (by first | assumption | exact Or.inl rfl | exact Or.inr rfl) ?_
    first
    | exact h1 j hj e
    | exact h0 q
  · -- false
    refine M_zret dX11_isField_5 rfl (by first | assumption | exact Or.inl rfl | exact Or.inr rfl) ?_
    first
    | exact h1 j hj e
    | exact h0 q
set_option maxRecDepth 100000 in
set_option maxHeartbeats 1000000 in
theorem tX11_isHour {d : Nat} {M : Mem} {Φ : Option Int32 → Mem → Prop} {x : Int32} (h1 : ∀ j : Nat, j < 4 → x = nI j → Φ (some 1) M) (h0 : ¬ Ix x 4 → Φ (some 0) M) : JM noRo (d + 1) mX11_isHour 0 [some (.int x)] [] M Φ := by
  refine J_iload_n dX11_isHour_0 rfl ?_
  refine J_iconst (v := 3) dX11_isHour_1 (by decide) ?_
  refine M_callS2 (mc := mX11_isUpTo) dX11_isHour_2 kX11_101 oX11_isUpTo (Nat.le_of_ble_eq_true rfl) (Nat.le_of_ble_eq_true rfl) ?_
  refine tX11_isUpTo 3 rfl (by decide) (fun j hj e => ?_) (fun q => ?_)
  · -- true
    refine M_zret dX11_isHour_5 rfl (by first | assumption | exact Or.inl rfl | exact Or.inr rfl) ?_
    first
    | exact h1 j hj e
    | exact h0 q
  · -- false
    refine M_zret dX11_isHour_5 rfl (by first | assumption | exact Or.inl rfl | exact Or.inr rfl) ?_
    first
    | exact h1 j hj e
    | exact h0 q
set_option maxRecDepth 100000 in
set_option maxHeartbeats 1000000 in
theorem tX11_isBin {d : Nat} {M : Mem} {Φ : Option Int32 → Mem → Prop} {x : Int32} (h1 : ∀ j : Nat, j < 4 → x = nI j → Φ (some 1) M) (h0 : ¬ Ix x 4 → Φ (some 0) M) : JM noRo (d + 1) mX11_isBin 0 [some (.int x)] [] M Φ := by
  refine J_iload_n dX11_isBin_0 rfl ?_
  refine J_iconst (v := 3) dX11_isBin_1 (by decide) ?_
  refine M_callS2 (mc := mX11_isUpTo) dX11_isBin_2 kX11_101 oX11_isUpTo (Nat.le_of_ble_eq_true rfl) (Nat.le_of_ble_eq_true rfl) ?_
  refine tX11_isUpTo 3 rfl (by decide) (fun j hj e => ?_) (fun q => ?_)
  · -- true
    refine M_zret dX11_isBin_5 rfl (by first | assumption | exact Or.inl rfl | exact Or.inr rfl) ?_
    first
    | exact h1 j hj e
    | exact h0 q
  · -- false
    refine M_zret dX11_isBin_5 rfl (by first | assumption | exact Or.inl rfl | exact Or.inr rfl) ?_
    first
    | exact h1 j hj e
    | exact h0 q
set_option maxRecDepth 100000 in
set_option maxHeartbeats 1000000 in
theorem tX11_isSort {d : Nat} {M : Mem} {Φ : Option Int32 → Mem → Prop} {x : Int32} (h1 : ∀ j : Nat, j < 3 → x = nI j → Φ (some 1) M) (h0 : ¬ Ix x 3 → Φ (some 0) M) : JM noRo (d + 1) mX11_isSort 0 [some (.int x)] [] M Φ := by
  refine J_iload_n dX11_isSort_0 rfl ?_
  refine J_iconst (v := 2) dX11_isSort_1 (by decide) ?_
  refine M_callS2 (mc := mX11_isUpTo) dX11_isSort_2 kX11_101 oX11_isUpTo (Nat.le_of_ble_eq_true rfl) (Nat.le_of_ble_eq_true rfl) ?_
  refine tX11_isUpTo 2 rfl (by decide) (fun j hj e => ?_) (fun q => ?_)
  · -- true
    refine M_zret dX11_isSort_5 rfl (by first | assumption | exact Or.inl rfl | exact Or.inr rfl) ?_
    first
    | exact h1 j hj e
    | exact h0 q
  · -- false
    refine M_zret dX11_isSort_5 rfl (by first | assumption | exact Or.inl rfl | exact Or.inr rfl) ?_
    first
    | exact h1 j hj e
    | exact h0 q
set_option maxRecDepth 100000 in
set_option maxHeartbeats 1000000 in
theorem tX11_hourOf {d : Nat} {M : Mem} {Φ : Option Int32 → Mem → Prop} {j : Nat} (hj : j < 2 ^ 31) (h : Φ (some (nI (j / 6))) M) : JM noRo d mX11_hourOf 0 [some (.int (nI j))] [] M Φ := by
  refine J_iload_n dX11_hourOf_0 rfl ?_
  refine J_bipush (v := 6) dX11_hourOf_1 (by decide) ?_
  refine J_idiv dX11_hourOf_3 (by decide) ?_
  rw [show nI j / 6 = nI j / nI 6 from rfl, pk_div (a := j) (d := 6) hj (by decide) (by decide)]
  refine M_iret dX11_hourOf_4 rfl rfl ?_
  exact h
set_option maxRecDepth 100000 in
set_option maxHeartbeats 1000000 in
theorem tX11_fieldOf {d : Nat} {M : Mem} {Φ : Option Int32 → Mem → Prop} {j : Nat} (hj : j < 2 ^ 31) (h : Φ (some (nI (j % 6))) M) : JM noRo d mX11_fieldOf 0 [some (.int (nI j))] [] M Φ := by
  refine J_iload_n dX11_fieldOf_0 rfl ?_
  refine J_bipush (v := 6) dX11_fieldOf_1 (by decide) ?_
  refine J_irem dX11_fieldOf_3 (by decide) ?_
  rw [show nI j - nI j / 6 * 6 = nI j - nI j / nI 6 * nI 6 from rfl, pk_rem (a := j) (d := 6) hj (by decide) (by decide)]
  refine M_iret dX11_fieldOf_4 rfl rfl ?_
  exact h
-- end

def BL : List Nat := [34, 35, 36, 38, 39, 40, 42, 43, 44, 46, 47, 48]
def StC (M M1 : Mem) (L L2 : Nat → Lots) (S S2 : Nat → Int32) (B : Nat) : Prop := (∀ c, c < 4 → RepC M1 (34 + 4 * c) (if c < B then L2 c else L c) ∧ M1.1 (34 + 4 * c) 4 = if c < B then S2 c else S c) ∧ (∀ a, a ∉ BL → M1.1 a = M.1 a) ∧ M1.2 = M.2
theorem BL_ne {a B : Nat} (ha : a ∉ BL) (hB : B < 4) : a ≠ 34 + 4 * B ∧ a ≠ 34 + 4 * B + 1 ∧ a ≠ 34 + 4 * B + 2 := by
  simp only [BL, List.mem_cons, not_or, List.not_mem_nil, not_false_eq_true, and_true] at ha
  have : B = 0 ∨ B = 1 ∨ B = 2 ∨ B = 3 := by omega
  rcases this with rfl | rfl | rfl | rfl <;> omega
theorem StC.z {M : Mem} {L L2 : Nat → Lots} {S S2 : Nat → Int32} (h : ∀ c, c < 4 → RepC M (34 + 4 * c) (L c) ∧ M.1 (34 + 4 * c) 4 = S c) : StC M M L L2 S S2 0 := ⟨fun c hc => by simpa using h c hc, fun _ _ => rfl, rfl⟩
theorem StC.r {M M1 : Mem} {L L2 : Nat → Lots} {S S2 : Nat → Int32} {B : Nat} (hB : B < 4) (h : StC M M1 L L2 S S2 B) : RepC M1 (34 + 4 * B) (L B) ∧ M1.1 (34 + 4 * B) 4 = S B := by simpa using h.1 B hB
theorem StC.e {M M1 : Mem} {L L2 : Nat → Lots} {S S2 : Nat → Int32} (h : StC M M1 L L2 S S2 4) (c : Nat) (hc : c < 4) : RepC M1 (34 + 4 * c) (L2 c) ∧ M1.1 (34 + 4 * c) 4 = S2 c := by simpa [hc] using h.1 c hc
theorem StC.st {M M1 M2 : Mem} {L L2 : Nat → Lots} {S S2 : Nat → Int32} {B : Nat} (hB : B < 4) (h : StC M M1 L L2 S S2 B) (r : RepC M2 (34 + 4 * B) (L2 B)) (f : FrC (34 + 4 * B) M1 M2) (s : M2.1 (34 + 4 * B) 4 = S2 B) : StC M M2 L L2 S S2 (B + 1) := by
  refine ⟨fun c hc => ?_, fun a ha => ?_, f.2.trans h.2.2⟩
  · by_cases e : c = B
    · subst e
      rw [if_pos (by omega), if_pos (by omega)]
      exact ⟨r, s⟩
    · have z := h.1 c hc
      have e2 : (c < B + 1) = (c < B) := propext ⟨fun _ => by omega, fun _ => by omega⟩
      simp only [e2]
      have g0 := f.1 (34 + 4 * c) (by omega) (by omega) (by omega)
      exact ⟨z.1.cg (by rw [g0]) (f.1 _ (by omega) (by omega) (by omega)) (f.1 _ (by omega) (by omega) (by omega)), by rw [g0]; exact z.2⟩
  · obtain ⟨q1, q2, q3⟩ := BL_ne ha hB
    rw [f.1 a q1 q2 q3]
    exact h.2.1 a ha
theorem tX0_spoilS {d : Nat} {M M1 : Mem} {Φ : Option Int32 → Mem → Prop} {B : Nat} {y : Int32} {L : Nat → Lots} {S : Nat → Int32} (hB : B < 4) (h : StC M M1 L (fun c => (spl y (S c) (L c)).2) S (fun c => (spl y (S c) (L c)).1) B) (k : ∀ M2, StC M M2 L (fun c => (spl y (S c) (L c)).2) S (fun c => (spl y (S c) (L c)).1) (B + 1) → Φ none M2) : JM noRo (d + 1) mX0_spoil 0 [some (.ref (34 + 4 * B)), some (.int y)] [] M1 Φ := by
  have z := h.r hB
  refine tX0_spoilL (binAt hB) z.1 (fun M2 r f s => k M2 (h.st hB ?_ f ?_))
  · rw [z.2] at r; exact r
  · rw [z.2] at s; exact s
theorem tX0_takeS {d : Nat} {M M1 : Mem} {Φ : Option Int32 → Mem → Prop} {B : Nat} {W : Nat → Nat} {L : Nat → Lots} {S : Nat → Int32} (hB : B < 4) (h : StC M M1 L (fun c => (tk (W c) (L c)).2) S S B) (hw : W B ≤ 50) (k : ∀ M2, StC M M2 L (fun c => (tk (W c) (L c)).2) S S (B + 1) → Φ (some (nI (tk (W B) (L B)).1)) M2) : JM noRo (d + 1) mX0_take 0 [some (.ref (34 + 4 * B)), some (.int (nI (W B)))] [] M1 Φ := by
  have z := h.r hB
  refine tX0_takeL (binAt hB) z.1 hw (fun M2 r f s => k M2 (h.st hB r f ?_))
  rw [s]; exact z.2
def lkS (W : Nat → Nat) (L : Nat → Lots) : Int32 := 0 + (nI (W 0) - nI (tk (W 0) (L 0)).1) + (nI (W 1) - nI (tk (W 1) (L 1)).1) + (nI (W 2) - nI (tk (W 2) (L 2)).1) + (nI (W 3) - nI (tk (W 3) (L 3)).1)
def cstS (P : Nat → Int32) (W : Nat → Nat) (L : Nat → Lots) : Int32 := P 0 + nI (tk (W 0) (L 0)).1 * P 1 + nI (tk (W 1) (L 1)).1 * P 2 + nI (tk (W 2) (L 2)).1 * P 3 + nI (tk (W 3) (L 3)).1 * P 4
def NL : List Nat := [7, 34, 35, 36, 38, 39, 40, 42, 43, 44, 46, 47, 48, 51, 52, 53, 54]
theorem NL_ne {a : Nat} (ha : a ∉ NL) : a ∉ BL ∧ a ≠ 7 ∧ a ≠ 51 ∧ a ≠ 52 ∧ a ≠ 53 ∧ a ≠ 54 := by
  simp only [NL, List.mem_cons, not_or, List.not_mem_nil, not_false_eq_true, and_true] at ha
  simp only [BL, List.mem_cons, not_or, List.not_mem_nil, not_false_eq_true, and_true]
  simp only [ha, not_false_eq_true, and_true, ne_eq]
set_option maxRecDepth 100000 in
set_option maxHeartbeats 1000000 in
theorem tX11_pass {d : Nat} {M : Mem} {Φ : Option Int32 → Mem → Prop} {j k : Nat} {W : Nat → Nat} {L : Nat → Lots} {S : Nat → Int32} (hj : j < 12) (hk : k < 2000) (hR : ∀ b, b < 4 → RepC M (34 + 4 * b) (L b) ∧ M.1 (34 + 4 * b) 4 = S b) (hW : ∀ b, b < 4 → W b ≤ 50 ∧ M.1 6 (j * 4 + b) = nI (W b)) (hc : M.1 51 3 = nI k) (h : ∀ M2, (∀ b, b < 4 → RepC M2 (34 + 4 * b) (tk (W b) (L b)).2 ∧ M2.1 (34 + 4 * b) 4 = M.1 (34 + 4 * b) 4) → (∀ a, a ∉ NL → M2.1 a = M.1 a) → M2.2 = M.2 → M2.1 7 = upd (M.1 7) j (M.1 7 j + lkS W L) → M2.1 52 = upd (M.1 52) k (nI j) → M2.1 53 = upd (M.1 53) k (M.1 0 12) → M2.1 54 = upd (M.1 54) k (cstS (M.1 50) W L) → M2.1 51 3 = nI (k + 1) → Φ (some (lkS W L)) M2) : JM noRo (d + 2) mX11_passNightOf 0 [some (.ref 0), some (.int (nI j))] [] M Φ := by
  have z0 : StC M M L (fun c => (tk (W c) (L c)).2) S S 0 := StC.z hR
  refine J_aload_n dX11_passNightOf_0 rfl ?_
  refine M_getR dX11_passNightOf_1 fX11_79 rfl rfl (by decide) ?_
  refine J_iconst (v := 0) dX11_passNightOf_4 (by decide) ?_
  refine M_ialdE dX11_passNightOf_5 rfl (by decide) (show (0 : Int32) = nI 0 from rfl) (by decide) ?_
  refine J_istore_n dX11_passNightOf_6 (by decide) rfl ?_
  dsimp only [setL]
  refine J_iconst (v := 0) dX11_passNightOf_7 (by decide) ?_
  refine J_istore_n dX11_passNightOf_8 (by decide) rfl ?_
  dsimp only [setL]
  refine J_iconst (v := 0) dX11_passNightOf_9 (by decide) ?_
  refine J_istore dX11_passNightOf_10 (by decide) rfl ?_
  dsimp only [setL]
  refine J_iload dX11_passNightOf_12 rfl ?_
  refine J_iconst (v := 4) dX11_passNightOf_14 (by decide) ?_
  refine J_icmp_ge (tgt := 73) dX11_passNightOf_15 (by decide) (fun c1 => ?_) (fun c1 => ?_)
  · -- to 73
    exact absurd c1 (by decide)
  · -- on 18
    refine J_aload_n dX11_passNightOf_18 rfl ?_
    refine M_getR dX11_passNightOf_19 fX11_12 rfl rfl (by decide) ?_
    refine J_iload_n dX11_passNightOf_22 rfl ?_
    refine J_iload dX11_passNightOf_23 rfl ?_
    refine M_callV2 (mc := mX1_wantedOf) dX11_passNightOf_25 kX11_263 oX1_wantedOf (Nat.le_of_ble_eq_true rfl) (Nat.le_of_ble_eq_true rfl) rfl (by decide) rfl ?_
    refine tX1_wantedOf (b := 0) hj (by decide) ?_
    rw [z0.2.1 6 (by decide), (hW 0 (by decide)).2]
    refine J_istore dX11_passNightOf_28 (by decide) rfl ?_
    dsimp only [setL]
    refine J_aload_n dX11_passNightOf_30 rfl ?_
    refine M_getR dX11_passNightOf_31 fX11_74 rfl rfl (by decide) ?_
    refine J_iload dX11_passNightOf_34 rfl ?_
    refine M_aaldE dX11_passNightOf_36 rfl (show (nI 0) = nI 0 from rfl) (by decide) ?_
    refine J_iload dX11_passNightOf_37 rfl ?_
    refine M_callV1 (mc := mX0_take) dX11_passNightOf_39 kX11_266 oX0_take (Nat.le_of_ble_eq_true rfl) (Nat.le_of_ble_eq_true rfl) rfl (by decide) rfl ?_
    refine tX0_takeS (B := 0) (W := W) (by decide) z0 (hW 0 (by decide)).1 (fun M1 z1 => ?_)
    refine J_istore dX11_passNightOf_42 (by decide) rfl ?_
    dsimp only [setL]
    refine J_iload_n dX11_passNightOf_44 rfl ?_
    refine J_iload dX11_passNightOf_45 rfl ?_
    refine J_aload_n dX11_passNightOf_47 rfl ?_
    refine M_getR dX11_passNightOf_48 fX11_79 rfl rfl (by decide) ?_
    refine J_iconst (v := 1) dX11_passNightOf_51 (by decide) ?_
    refine J_iload dX11_passNightOf_52 rfl ?_
    refine J_iadd dX11_passNightOf_54 ?_
    refine M_ialdE dX11_passNightOf_55 rfl (by decide) (show (1 : Int32) + nI 0 = nI 1 from rfl) (by decide) ?_
    rw [z1.2.1 50 (by decide)]
    refine J_imul dX11_passNightOf_56 ?_
    refine J_iadd dX11_passNightOf_57 ?_
    refine J_istore_n dX11_passNightOf_58 (by decide) rfl ?_
    dsimp only [setL]
    refine J_iload_n dX11_passNightOf_59 rfl ?_
    refine J_iload dX11_passNightOf_60 rfl ?_
    refine J_iload dX11_passNightOf_62 rfl ?_
    refine J_isub dX11_passNightOf_64 ?_
    refine J_iadd dX11_passNightOf_65 ?_
    refine J_istore_n dX11_passNightOf_66 (by decide) rfl ?_
    dsimp only [setL]
    refine J_iinc (v := nI 1) dX11_passNightOf_67 rfl ((show _ from rfl)) (by decide) rfl ?_
    dsimp only [setL]
    refine J_goto (tgt := 12) dX11_passNightOf_70 (by decide) ?_
    refine J_iload dX11_passNightOf_12 rfl ?_
    refine J_iconst (v := 4) dX11_passNightOf_14 (by decide) ?_
    refine J_icmp_ge (tgt := 73) dX11_passNightOf_15 (by decide) (fun c4 => ?_) (fun c4 => ?_)
    · -- to 73
      exact absurd c4 (by decide)
    · -- on 18
      refine J_aload_n dX11_passNightOf_18 rfl ?_
      refine M_getR dX11_passNightOf_19 fX11_12 rfl rfl (by decide) ?_
      refine J_iload_n dX11_passNightOf_22 rfl ?_
      refine J_iload dX11_passNightOf_23 rfl ?_
      refine M_callV2 (mc := mX1_wantedOf) dX11_passNightOf_25 kX11_263 oX1_wantedOf (Nat.le_of_ble_eq_true rfl) (Nat.le_of_ble_eq_true rfl) rfl (by decide) rfl ?_
      refine tX1_wantedOf (b := 1) hj (by decide) ?_
      rw [z1.2.1 6 (by decide), (hW 1 (by decide)).2]
      refine J_istore dX11_passNightOf_28 (by decide) rfl ?_
      dsimp only [setL]
      refine J_aload_n dX11_passNightOf_30 rfl ?_
      refine M_getR dX11_passNightOf_31 fX11_74 rfl rfl (by decide) ?_
      refine J_iload dX11_passNightOf_34 rfl ?_
      refine M_aaldE dX11_passNightOf_36 rfl (show (nI 1) = nI 1 from rfl) (by decide) ?_
      refine J_iload dX11_passNightOf_37 rfl ?_
      refine M_callV1 (mc := mX0_take) dX11_passNightOf_39 kX11_266 oX0_take (Nat.le_of_ble_eq_true rfl) (Nat.le_of_ble_eq_true rfl) rfl (by decide) rfl ?_
      refine tX0_takeS (B := 1) (W := W) (by decide) z1 (hW 1 (by decide)).1 (fun M2 z2 => ?_)
      refine J_istore dX11_passNightOf_42 (by decide) rfl ?_
      dsimp only [setL]
      refine J_iload_n dX11_passNightOf_44 rfl ?_
      refine J_iload dX11_passNightOf_45 rfl ?_
      refine J_aload_n dX11_passNightOf_47 rfl ?_
      refine M_getR dX11_passNightOf_48 fX11_79 rfl rfl (by decide) ?_
      refine J_iconst (v := 1) dX11_passNightOf_51 (by decide) ?_
      refine J_iload dX11_passNightOf_52 rfl ?_
      refine J_iadd dX11_passNightOf_54 ?_
      refine M_ialdE dX11_passNightOf_55 rfl (by decide) (show (1 : Int32) + nI 1 = nI 2 from rfl) (by decide) ?_
      rw [z2.2.1 50 (by decide)]
      refine J_imul dX11_passNightOf_56 ?_
      refine J_iadd dX11_passNightOf_57 ?_
      refine J_istore_n dX11_passNightOf_58 (by decide) rfl ?_
      dsimp only [setL]
      refine J_iload_n dX11_passNightOf_59 rfl ?_
      refine J_iload dX11_passNightOf_60 rfl ?_
      refine J_iload dX11_passNightOf_62 rfl ?_
      refine J_isub dX11_passNightOf_64 ?_
      refine J_iadd dX11_passNightOf_65 ?_
      refine J_istore_n dX11_passNightOf_66 (by decide) rfl ?_
      dsimp only [setL]
      refine J_iinc (v := nI 2) dX11_passNightOf_67 rfl ((show _ from rfl)) (by decide) rfl ?_
      dsimp only [setL]
      refine J_goto (tgt := 12) dX11_passNightOf_70 (by decide) ?_
      refine J_iload dX11_passNightOf_12 rfl ?_
      refine J_iconst (v := 4) dX11_passNightOf_14 (by decide) ?_
      refine J_icmp_ge (tgt := 73) dX11_passNightOf_15 (by decide) (fun c7 => ?_) (fun c7 => ?_)
      · -- to 73
        exact absurd c7 (by decide)
      · -- on 18
        refine J_aload_n dX11_passNightOf_18 rfl ?_
        refine M_getR dX11_passNightOf_19 fX11_12 rfl rfl (by decide) ?_
        refine J_iload_n dX11_passNightOf_22 rfl ?_
        refine J_iload dX11_passNightOf_23 rfl ?_
        refine M_callV2 (mc := mX1_wantedOf) dX11_passNightOf_25 kX11_263 oX1_wantedOf (Nat.le_of_ble_eq_true rfl) (Nat.le_of_ble_eq_true rfl) rfl (by decide) rfl ?_
        refine tX1_wantedOf (b := 2) hj (by decide) ?_
        rw [z2.2.1 6 (by decide), (hW 2 (by decide)).2]
        refine J_istore dX11_passNightOf_28 (by decide) rfl ?_
        dsimp only [setL]
        refine J_aload_n dX11_passNightOf_30 rfl ?_
        refine M_getR dX11_passNightOf_31 fX11_74 rfl rfl (by decide) ?_
        refine J_iload dX11_passNightOf_34 rfl ?_
        refine M_aaldE dX11_passNightOf_36 rfl (show (nI 2) = nI 2 from rfl) (by decide) ?_
        refine J_iload dX11_passNightOf_37 rfl ?_
        refine M_callV1 (mc := mX0_take) dX11_passNightOf_39 kX11_266 oX0_take (Nat.le_of_ble_eq_true rfl) (Nat.le_of_ble_eq_true rfl) rfl (by decide) rfl ?_
        refine tX0_takeS (B := 2) (W := W) (by decide) z2 (hW 2 (by decide)).1 (fun M3 z3 => ?_)
        refine J_istore dX11_passNightOf_42 (by decide) rfl ?_
        dsimp only [setL]
        refine J_iload_n dX11_passNightOf_44 rfl ?_
        refine J_iload dX11_passNightOf_45 rfl ?_
        refine J_aload_n dX11_passNightOf_47 rfl ?_
        refine M_getR dX11_passNightOf_48 fX11_79 rfl rfl (by decide) ?_
        refine J_iconst (v := 1) dX11_passNightOf_51 (by decide) ?_
        refine J_iload dX11_passNightOf_52 rfl ?_
        refine J_iadd dX11_passNightOf_54 ?_
        refine M_ialdE dX11_passNightOf_55 rfl (by decide) (show (1 : Int32) + nI 2 = nI 3 from rfl) (by decide) ?_
        rw [z3.2.1 50 (by decide)]
        refine J_imul dX11_passNightOf_56 ?_
        refine J_iadd dX11_passNightOf_57 ?_
        refine J_istore_n dX11_passNightOf_58 (by decide) rfl ?_
        dsimp only [setL]
        refine J_iload_n dX11_passNightOf_59 rfl ?_
        refine J_iload dX11_passNightOf_60 rfl ?_
        refine J_iload dX11_passNightOf_62 rfl ?_
        refine J_isub dX11_passNightOf_64 ?_
        refine J_iadd dX11_passNightOf_65 ?_
        refine J_istore_n dX11_passNightOf_66 (by decide) rfl ?_
        dsimp only [setL]
        refine J_iinc (v := nI 3) dX11_passNightOf_67 rfl ((show _ from rfl)) (by decide) rfl ?_
        dsimp only [setL]
        refine J_goto (tgt := 12) dX11_passNightOf_70 (by decide) ?_
        refine J_iload dX11_passNightOf_12 rfl ?_
        refine J_iconst (v := 4) dX11_passNightOf_14 (by decide) ?_
        refine J_icmp_ge (tgt := 73) dX11_passNightOf_15 (by decide) (fun c10 => ?_) (fun c10 => ?_)
        · -- to 73
          exact absurd c10 (by decide)
        · -- on 18
          refine J_aload_n dX11_passNightOf_18 rfl ?_
          refine M_getR dX11_passNightOf_19 fX11_12 rfl rfl (by decide) ?_
          refine J_iload_n dX11_passNightOf_22 rfl ?_
          refine J_iload dX11_passNightOf_23 rfl ?_
          refine M_callV2 (mc := mX1_wantedOf) dX11_passNightOf_25 kX11_263 oX1_wantedOf (Nat.le_of_ble_eq_true rfl) (Nat.le_of_ble_eq_true rfl) rfl (by decide) rfl ?_
          refine tX1_wantedOf (b := 3) hj (by decide) ?_
          rw [z3.2.1 6 (by decide), (hW 3 (by decide)).2]
          refine J_istore dX11_passNightOf_28 (by decide) rfl ?_
          dsimp only [setL]
          refine J_aload_n dX11_passNightOf_30 rfl ?_
          refine M_getR dX11_passNightOf_31 fX11_74 rfl rfl (by decide) ?_
          refine J_iload dX11_passNightOf_34 rfl ?_
          refine M_aaldE dX11_passNightOf_36 rfl (show (nI 3) = nI 3 from rfl) (by decide) ?_
          refine J_iload dX11_passNightOf_37 rfl ?_
          refine M_callV1 (mc := mX0_take) dX11_passNightOf_39 kX11_266 oX0_take (Nat.le_of_ble_eq_true rfl) (Nat.le_of_ble_eq_true rfl) rfl (by decide) rfl ?_
          refine tX0_takeS (B := 3) (W := W) (by decide) z3 (hW 3 (by decide)).1 (fun M4 z4 => ?_)
          refine J_istore dX11_passNightOf_42 (by decide) rfl ?_
          dsimp only [setL]
          refine J_iload_n dX11_passNightOf_44 rfl ?_
          refine J_iload dX11_passNightOf_45 rfl ?_
          refine J_aload_n dX11_passNightOf_47 rfl ?_
          refine M_getR dX11_passNightOf_48 fX11_79 rfl rfl (by decide) ?_
          refine J_iconst (v := 1) dX11_passNightOf_51 (by decide) ?_
          refine J_iload dX11_passNightOf_52 rfl ?_
          refine J_iadd dX11_passNightOf_54 ?_
          refine M_ialdE dX11_passNightOf_55 rfl (by decide) (show (1 : Int32) + nI 3 = nI 4 from rfl) (by decide) ?_
          rw [z4.2.1 50 (by decide)]
          refine J_imul dX11_passNightOf_56 ?_
          refine J_iadd dX11_passNightOf_57 ?_
          refine J_istore_n dX11_passNightOf_58 (by decide) rfl ?_
          dsimp only [setL]
          refine J_iload_n dX11_passNightOf_59 rfl ?_
          refine J_iload dX11_passNightOf_60 rfl ?_
          refine J_iload dX11_passNightOf_62 rfl ?_
          refine J_isub dX11_passNightOf_64 ?_
          refine J_iadd dX11_passNightOf_65 ?_
          refine J_istore_n dX11_passNightOf_66 (by decide) rfl ?_
          dsimp only [setL]
          refine J_iinc (v := nI 4) dX11_passNightOf_67 rfl ((show _ from rfl)) (by decide) rfl ?_
          dsimp only [setL]
          refine J_goto (tgt := 12) dX11_passNightOf_70 (by decide) ?_
          refine J_iload dX11_passNightOf_12 rfl ?_
          refine J_iconst (v := 4) dX11_passNightOf_14 (by decide) ?_
          refine J_icmp_ge (tgt := 73) dX11_passNightOf_15 (by decide) (fun c13 => ?_) (fun c13 => ?_)
          · -- to 73
            refine J_aload_n dX11_passNightOf_73 rfl ?_
            refine M_getR dX11_passNightOf_74 fX11_12 rfl rfl (by decide) ?_
            refine J_iload_n dX11_passNightOf_77 rfl ?_
            refine J_iload_n dX11_passNightOf_78 rfl ?_
            refine M_callV2 (mc := mX1_addLacked) dX11_passNightOf_79 kX11_269 oX1_addLacked (Nat.le_of_ble_eq_true rfl) (Nat.le_of_ble_eq_true rfl) rfl (by decide) rfl ?_
            refine tX1_addLacked hj ?_
            refine J_aload_n dX11_passNightOf_82 rfl ?_
            refine M_getR dX11_passNightOf_83 fX11_86 rfl rfl (by decide) ?_
            refine J_iload_n dX11_passNightOf_86 rfl ?_
            refine J_aload_n dX11_passNightOf_87 rfl ?_
            refine M_getI dX11_passNightOf_88 fX11_97 rfl rfl (by decide) ?_
            rw [rd2 (by decide), z4.2.1 0 (by decide)]
            refine J_iload_n dX11_passNightOf_91 rfl ?_
            refine M_callV3 (mc := mX4_add) dX11_passNightOf_92 kX11_272 oX4_add (Nat.le_of_ble_eq_true rfl) (Nat.le_of_ble_eq_true rfl) rfl (by decide) rfl ?_
            refine tX4_add (n := k) (by rw [rd2 (by decide), z4.2.1 51 (by decide)]; exact hc) hk ?_
            refine J_iload_n dX11_passNightOf_95 rfl ?_
            refine M_iret dX11_passNightOf_96 rfl rfl ?_
            show Φ (some (lkS W L)) (wr (wr (wr (wr (wr M4 7 j (M4.1 7 j + lkS W L)) 52 k (nI j)) 53 k (M.1 0 12)) 54 k (cstS (M.1 50) W L)) 51 3 (nI (k + 1)))
            refine h _ (fun c hc => ?_) (fun a ha => ?_) ?_ ?_ ?_ ?_ ?_ ?_
            · have z := z4.e c hc
              have y0 : ∀ a, a ∈ BL → (wr (wr (wr (wr (wr M4 7 j (M4.1 7 j + lkS W L)) 52 k (nI j)) 53 k (M.1 0 12)) 54 k (cstS (M.1 50) W L)) 51 3 (nI (k + 1))).1 a = M4.1 a := fun a ha => by
                have q : a ≠ 7 ∧ a ≠ 51 ∧ a ≠ 52 ∧ a ≠ 53 ∧ a ≠ 54 := by
                  simp only [BL, List.mem_cons, List.not_mem_nil, or_false] at ha
                  omega
                rw [rd2 q.2.1, rd2 q.2.2.2.2, rd2 q.2.2.2.1, rd2 q.2.2.1, rd2 q.1]
              have y1 : 34 + 4 * c ∈ BL ∧ 34 + 4 * c + 1 ∈ BL ∧ 34 + 4 * c + 2 ∈ BL := by
                have : c = 0 ∨ c = 1 ∨ c = 2 ∨ c = 3 := by omega
                rcases this with rfl | rfl | rfl | rfl <;> decide
              exact ⟨z.1.cg (by rw [y0 _ y1.1]) (y0 _ y1.2.1) (y0 _ y1.2.2), by rw [y0 _ y1.1]; exact z.2.trans (hR c hc).2.symm⟩
            · obtain ⟨q0, q1, q2, q3, q4, q5⟩ := NL_ne ha
              rw [rd2 q2, rd2 q5, rd2 q4, rd2 q3, rd2 q1, z4.2.1 a q0]
            · exact z4.2.2
            · rw [rd2 (by decide), rd2 (by decide), rd2 (by decide), rd2 (by decide), rdu, z4.2.1 7 (by decide)]
            · rw [rd2 (by decide), rd2 (by decide), rd2 (by decide), rdu, rd2 (by decide), z4.2.1 52 (by decide)]
            · rw [rd2 (by decide), rd2 (by decide), rdu, rd2 (by decide), rd2 (by decide), z4.2.1 53 (by decide)]
            · rw [rd2 (by decide), rdu, rd2 (by decide), rd2 (by decide), rd2 (by decide), z4.2.1 54 (by decide)]
            · exact rd1
          · -- on 18
            exact absurd c13 (by decide)
def LtH (W : Nat → Nat → Nat) (L : Nat → Lots) : Nat → Nat → Lots
  | 0, b => L b
  | h + 1, b => (tk (W h b) (LtH W L h b)).2
def lkH (W : Nat → Nat → Nat) (L : Nat → Lots) (h : Nat) : Int32 := lkS (W h) (LtH W L h)
def csH (P : Nat → Int32) (W : Nat → Nat → Nat) (L : Nat → Lots) (h : Nat) : Int32 := cstS P (W h) (LtH W L h)
def nF (f : Nat → Int32) (k : Nat) (v : Nat → Int32) (h : Nat) : Nat → Int32 := fun i => if k ≤ i ∧ i < k + h then v (i - k) else f i
theorem nF_0 {f v : Nat → Int32} {k : Nat} : nF f k v 0 = f := by
  funext i
  exact if_neg (by omega)
theorem nF_s {f v : Nat → Int32} {k h : Nat} {x : Int32} (e : v h = x) : upd (nF f k v h) (k + h) x = nF f k v (h + 1) := by
  funext i
  unfold nF
  by_cases hi : i = k + h
  · subst hi
    rw [updS, if_pos (by omega), Nat.add_sub_cancel_left, e]
  · rw [updN hi]
    by_cases h2 : k ≤ i ∧ i < k + h
    · rw [if_pos h2, if_pos (by omega)]
    · rw [if_neg h2, if_neg (by omega)]
theorem nF_hi {f v : Nat → Int32} {k h : Nat} : nF f k v h (k + h) = f (k + h) := if_neg (by omega)
def GC (M M2 : Mem) (L : Nat → Lots) (S : Nat → Int32) (k : Nat) (W : Nat → Nat → Nat) (h : Nat) : Prop := (∀ b, b < 4 → RepC M2 (34 + 4 * b) (LtH W L h b) ∧ M2.1 (34 + 4 * b) 4 = S b) ∧ (∀ a, a ∉ NL → M2.1 a = M.1 a) ∧ M2.2 = M.2 ∧ M2.1 7 = nF (M.1 7) 0 (fun j => M.1 7 j + lkH W L j) h ∧ M2.1 52 = nF (M.1 52) k (fun i => nI i) h ∧ M2.1 53 = nF (M.1 53) k (fun _ => M.1 0 12) h ∧ M2.1 54 = nF (M.1 54) k (csH (M.1 50) W L) h ∧ M2.1 51 3 = nI (k + h)
theorem GC.st {M M1 M2 : Mem} {L : Nat → Lots} {S : Nat → Int32} {k h : Nat} {W : Nat → Nat → Nat} (g : GC M M1 L S k W h) (e1 : ∀ b, b < 4 → RepC M2 (34 + 4 * b) (tk (W h b) (LtH W L h b)).2 ∧ M2.1 (34 + 4 * b) 4 = M1.1 (34 + 4 * b) 4) (e2 : ∀ a, a ∉ NL → M2.1 a = M1.1 a) (e3 : M2.2 = M1.2) (e4 : M2.1 7 = upd (M1.1 7) h (M1.1 7 h + lkH W L h)) (e5 : M2.1 52 = upd (M1.1 52) (k + h) (nI h)) (e6 : M2.1 53 = upd (M1.1 53) (k + h) (M1.1 0 12)) (e7 : M2.1 54 = upd (M1.1 54) (k + h) (csH (M1.1 50) W L h)) (e8 : M2.1 51 3 = nI (k + h + 1)) : GC M M2 L S k W (h + 1) := by
  obtain ⟨g1, g2, g3, g4, g5, g6, g7, g8⟩ := g
  refine ⟨fun b hb => ⟨(e1 b hb).1, (e1 b hb).2.trans (g1 b hb).2⟩, fun a ha => (e2 a ha).trans (g2 a ha), e3.trans g3, ?_, ?_, ?_, ?_, e8⟩
  · rw [e4, g4]
    have q := nF_hi (f := M.1 7) (v := fun j => M.1 7 j + lkH W L j) (k := 0) (h := h)
    have q2 := nF_s (f := M.1 7) (v := fun j => M.1 7 j + lkH W L j) (k := 0) (h := h) (x := M.1 7 h + lkH W L h) rfl
    rw [Nat.zero_add] at q q2
    rw [q, q2]
  · rw [e5, g5, nF_s rfl]
  · rw [e6, g6, nF_s (by rw [g2 0 (by decide)])]
  · rw [e7, g7, nF_s (by rw [g2 50 (by decide)])]
set_option maxRecDepth 100000 in
set_option maxHeartbeats 1000000 in
theorem tY_night_l {d : Nat} {M : Mem} {Φ : Option Int32 → Mem → Prop} {n k : Nat} {W : Nat → Nat → Nat} {L : Nat → Lots} {S : Nat → Int32} (hn : M.1 1 6 = nI n) (hnb : n ≤ 12) (hk : k + n ≤ 2000) (hW : ∀ j b, j < n → b < 4 → W j b ≤ 50 ∧ M.1 6 (j * 4 + b) = nI (W j b)) (h : ∀ M3, GC M M3 L S k W n → Φ (some (l_sum (lkH W L) n)) (wr (wr M3 0 12 (M3.1 0 12 + 1)) 29 8 0)) : ∀ m i M2, i + m = n → GC M M2 L S k W i → JM noRo (d + 3) mX11_night 49 [some (.ref 0), some (.int (l_sum (lkH W L) i)), some (.int (nI i))] [] M2 Φ := by
  intro m
  induction m with
  | zero =>
    intro i M2 hi hg
    refine J_iload_n dX11_night_49 rfl ?_
    refine J_aload_n dX11_night_50 rfl ?_
    refine M_getR dX11_night_51 fX11_12 rfl rfl (by decide) ?_
    refine M_callV0 (mc := mX1_count) dX11_night_54 kX11_194 oX1_count (Nat.le_of_ble_eq_true rfl) (Nat.le_of_ble_eq_true rfl) rfl (by decide) rfl ?_
    refine tX1_count ?_
    rw [hg.2.1 1 (by decide), hn]
    refine J_icmp_ge (tgt := 74) dX11_night_57 (by decide) (fun c2 => ?_) (fun c2 => ?_)
    · -- to 74
      refine J_aload_n dX11_night_74 rfl ?_
      refine J_dup dX11_night_75 rfl ?_
      refine M_getI dX11_night_76 fX11_97 rfl rfl (by decide) ?_
      refine J_iconst (v := 1) dX11_night_79 (by decide) ?_
      refine J_iadd dX11_night_80 ?_
      refine M_putI dX11_night_81 pX11_97 rfl rfl (by decide) ?_
      refine J_aload_n dX11_night_84 rfl ?_
      refine M_getR dX11_night_85 fX11_68 rfl rfl (by decide) ?_
      refine M_callV0 (mc := mX6_forget) dX11_night_88 kX11_109 oX6_forget (Nat.le_of_ble_eq_true rfl) (Nat.le_of_ble_eq_true rfl) rfl (by decide) rfl ?_
      refine tX6_forget ?_
      refine J_iload_n dX11_night_91 rfl ?_
      refine M_iret dX11_night_92 rfl rfl ?_
      obtain rfl : i = n := by omega
      exact h _ hg
    · -- on 60
      exact absurd (nI_le (by omega) (by omega)) c2
  | succ m ih =>
    intro i M2 hi hg
    refine J_iload_n dX11_night_49 rfl ?_
    refine J_aload_n dX11_night_50 rfl ?_
    refine M_getR dX11_night_51 fX11_12 rfl rfl (by decide) ?_
    refine M_callV0 (mc := mX1_count) dX11_night_54 kX11_194 oX1_count (Nat.le_of_ble_eq_true rfl) (Nat.le_of_ble_eq_true rfl) rfl (by decide) rfl ?_
    refine tX1_count ?_
    rw [hg.2.1 1 (by decide), hn]
    refine J_icmp_ge (tgt := 74) dX11_night_57 (by decide) (fun c2 => ?_) (fun c2 => ?_)
    · -- to 74
      exact absurd c2 (nI_ge (by omega) (by omega))
    · -- on 60
      refine J_iload_n dX11_night_60 rfl ?_
      refine J_aload_n dX11_night_61 rfl ?_
      refine J_iload_n dX11_night_62 rfl ?_
      refine M_callV1 (mc := mX11_passNightOf) dX11_night_63 kX11_222 oX11_passNightOf (Nat.le_of_ble_eq_true rfl) (Nat.le_of_ble_eq_true rfl) rfl (by decide) rfl ?_
      refine tX11_pass (k := k + i) (W := W i) (L := LtH W L i) (S := S) (by omega) (by omega) hg.1 (fun b hb => ?_) hg.2.2.2.2.2.2.2 (fun M3 e1 e2 e3 e4 e5 e6 e7 e8 => ?_)
      · rw [hg.2.1 6 (by decide)]
        exact hW i b (by omega) hb
      refine J_iadd dX11_night_66 ?_
      refine J_istore_n dX11_night_67 (by decide) rfl ?_
      dsimp only [setL]
      have hg2 := hg.st e1 e2 e3 e4 e5 e6 e7 e8
      refine J_iinc (v := nI (i + 1)) dX11_night_68 rfl (nI_1 i) (by decide) rfl ?_
      dsimp only [setL]
      refine J_goto (tgt := 49) dX11_night_71 (by decide) ?_
      exact ih (i + 1) M3 (by omega) hg2
set_option maxRecDepth 100000 in
set_option maxHeartbeats 1000000 in
theorem tY_night {d : Nat} {M : Mem} {Φ : Option Int32 → Mem → Prop} {n k : Nat} {W : Nat → Nat → Nat} {L : Nat → Lots} {S : Nat → Int32} (hn : M.1 1 6 = nI n) (hnb : n ≤ 12) (hc : M.1 51 3 = nI k) (hkb : k ≤ 2000) (hR : ∀ b, b < 4 → RepC M (34 + 4 * b) (L b) ∧ M.1 (34 + 4 * b) 4 = S b) (hW : ∀ j b, j < n → b < 4 → W j b ≤ 50 ∧ M.1 6 (j * 4 + b) = nI (W j b)) (h0 : ¬ k + n ≤ 2000 → Φ (some (-1)) M) (h1 : k + n ≤ 2000 → ∀ M3, GC M M3 (fun c => (spl (M.1 0 12) (S c) (L c)).2) (fun c => (spl (M.1 0 12) (S c) (L c)).1) k W n → Φ (some (l_sum (lkH W (fun c => (spl (M.1 0 12) (S c) (L c)).2)) n)) (wr (wr M3 0 12 (M3.1 0 12 + 1)) 29 8 0)) : JM noRo (d + 3) mX11_night 0 [some (.ref 0)] [] M Φ := by
  have z0 : StC M M L (fun c => (spl (M.1 0 12) (S c) (L c)).2) S (fun c => (spl (M.1 0 12) (S c) (L c)).1) 0 := StC.z hR
  refine J_aload_n dX11_night_0 rfl ?_
  refine M_getR dX11_night_1 fX11_86 rfl rfl (by decide) ?_
  refine J_aload_n dX11_night_4 rfl ?_
  refine M_getR dX11_night_5 fX11_12 rfl rfl (by decide) ?_
  refine M_callV0 (mc := mX1_count) dX11_night_8 kX11_194 oX1_count (Nat.le_of_ble_eq_true rfl) (Nat.le_of_ble_eq_true rfl) rfl (by decide) rfl ?_
  refine tX1_count ?_
  rw [hn]
  refine M_callV1 (mc := mX4_haveRoomFor) dX11_night_11 kX11_216 oX4_haveRoomFor (Nat.le_of_ble_eq_true rfl) (Nat.le_of_ble_eq_true rfl) rfl (by decide) rfl ?_
  refine tX4_haveRoomFor hc hkb hnb (fun hr => ?_) (fun hr => ?_)
  · -- true
    refine J_if_ne (tgt := 19) dX11_night_14 (by decide) (fun c3 => ?_) (fun c3 => ?_)
    · -- to 19
      refine J_iconst (v := 0) dX11_night_19 (by decide) ?_
      refine J_istore_n dX11_night_20 (by decide) rfl ?_
      dsimp only [setL]
      refine J_iload_n dX11_night_21 rfl ?_
      refine J_iconst (v := 4) dX11_night_22 (by decide) ?_
      refine J_icmp_ge (tgt := 45) dX11_night_23 (by decide) (fun c4 => ?_) (fun c4 => ?_)
      · -- to 45
        exact absurd c4 (by decide)
      · -- on 26
        refine J_aload_n dX11_night_26 rfl ?_
        refine M_getR dX11_night_27 fX11_74 rfl rfl (by decide) ?_
        refine J_iload_n dX11_night_30 rfl ?_
        refine M_aaldE dX11_night_31 rfl (show (nI 0) = nI 0 from rfl) (by decide) ?_
        refine J_aload_n dX11_night_32 rfl ?_
        refine M_getI dX11_night_33 fX11_97 rfl rfl (by decide) ?_
        rw [z0.2.1 0 (by decide)]
        refine M_callV1 (mc := mX0_spoil) dX11_night_36 kX11_219 oX0_spoil (Nat.le_of_ble_eq_true rfl) (Nat.le_of_ble_eq_true rfl) rfl (by decide) rfl ?_
        refine tX0_spoilS (B := 0) (by decide) z0 (fun M1 z1 => ?_)
        refine J_iinc (v := nI 1) dX11_night_39 rfl ((show _ from rfl)) (by decide) rfl ?_
        dsimp only [setL]
        refine J_goto (tgt := 21) dX11_night_42 (by decide) ?_
        refine J_iload_n dX11_night_21 rfl ?_
        refine J_iconst (v := 4) dX11_night_22 (by decide) ?_
        refine J_icmp_ge (tgt := 45) dX11_night_23 (by decide) (fun c6 => ?_) (fun c6 => ?_)
        · -- to 45
          exact absurd c6 (by decide)
        · -- on 26
          refine J_aload_n dX11_night_26 rfl ?_
          refine M_getR dX11_night_27 fX11_74 rfl rfl (by decide) ?_
          refine J_iload_n dX11_night_30 rfl ?_
          refine M_aaldE dX11_night_31 rfl (show (nI 1) = nI 1 from rfl) (by decide) ?_
          refine J_aload_n dX11_night_32 rfl ?_
          refine M_getI dX11_night_33 fX11_97 rfl rfl (by decide) ?_
          rw [z1.2.1 0 (by decide)]
          refine M_callV1 (mc := mX0_spoil) dX11_night_36 kX11_219 oX0_spoil (Nat.le_of_ble_eq_true rfl) (Nat.le_of_ble_eq_true rfl) rfl (by decide) rfl ?_
          refine tX0_spoilS (B := 1) (by decide) z1 (fun M2 z2 => ?_)
          refine J_iinc (v := nI 2) dX11_night_39 rfl ((show _ from rfl)) (by decide) rfl ?_
          dsimp only [setL]
          refine J_goto (tgt := 21) dX11_night_42 (by decide) ?_
          refine J_iload_n dX11_night_21 rfl ?_
          refine J_iconst (v := 4) dX11_night_22 (by decide) ?_
          refine J_icmp_ge (tgt := 45) dX11_night_23 (by decide) (fun c8 => ?_) (fun c8 => ?_)
          · -- to 45
            exact absurd c8 (by decide)
          · -- on 26
            refine J_aload_n dX11_night_26 rfl ?_
            refine M_getR dX11_night_27 fX11_74 rfl rfl (by decide) ?_
            refine J_iload_n dX11_night_30 rfl ?_
            refine M_aaldE dX11_night_31 rfl (show (nI 2) = nI 2 from rfl) (by decide) ?_
            refine J_aload_n dX11_night_32 rfl ?_
            refine M_getI dX11_night_33 fX11_97 rfl rfl (by decide) ?_
            rw [z2.2.1 0 (by decide)]
            refine M_callV1 (mc := mX0_spoil) dX11_night_36 kX11_219 oX0_spoil (Nat.le_of_ble_eq_true rfl) (Nat.le_of_ble_eq_true rfl) rfl (by decide) rfl ?_
            refine tX0_spoilS (B := 2) (by decide) z2 (fun M3 z3 => ?_)
            refine J_iinc (v := nI 3) dX11_night_39 rfl ((show _ from rfl)) (by decide) rfl ?_
            dsimp only [setL]
            refine J_goto (tgt := 21) dX11_night_42 (by decide) ?_
            refine J_iload_n dX11_night_21 rfl ?_
            refine J_iconst (v := 4) dX11_night_22 (by decide) ?_
            refine J_icmp_ge (tgt := 45) dX11_night_23 (by decide) (fun c10 => ?_) (fun c10 => ?_)
            · -- to 45
              exact absurd c10 (by decide)
            · -- on 26
              refine J_aload_n dX11_night_26 rfl ?_
              refine M_getR dX11_night_27 fX11_74 rfl rfl (by decide) ?_
              refine J_iload_n dX11_night_30 rfl ?_
              refine M_aaldE dX11_night_31 rfl (show (nI 3) = nI 3 from rfl) (by decide) ?_
              refine J_aload_n dX11_night_32 rfl ?_
              refine M_getI dX11_night_33 fX11_97 rfl rfl (by decide) ?_
              rw [z3.2.1 0 (by decide)]
              refine M_callV1 (mc := mX0_spoil) dX11_night_36 kX11_219 oX0_spoil (Nat.le_of_ble_eq_true rfl) (Nat.le_of_ble_eq_true rfl) rfl (by decide) rfl ?_
              refine tX0_spoilS (B := 3) (by decide) z3 (fun M4 z4 => ?_)
              refine J_iinc (v := nI 4) dX11_night_39 rfl ((show _ from rfl)) (by decide) rfl ?_
              dsimp only [setL]
              refine J_goto (tgt := 21) dX11_night_42 (by decide) ?_
              refine J_iload_n dX11_night_21 rfl ?_
              refine J_iconst (v := 4) dX11_night_22 (by decide) ?_
              refine J_icmp_ge (tgt := 45) dX11_night_23 (by decide) (fun c12 => ?_) (fun c12 => ?_)
              · -- to 45
                refine J_iconst (v := 0) dX11_night_45 (by decide) ?_
                refine J_istore_n dX11_night_46 (by decide) rfl ?_
                dsimp only [setL]
                refine J_iconst (v := 0) dX11_night_47 (by decide) ?_
                refine J_istore_n dX11_night_48 (by decide) rfl ?_
                dsimp only [setL]
                refine tY_night_l (M := M) (W := W) (S := (fun c => (spl (M.1 0 12) (S c) (L c)).1)) (L := (fun c => (spl (M.1 0 12) (S c) (L c)).2)) hn hnb hr hW (h1 hr) n 0 M4 (by omega) ⟨fun b hb => z4.e b hb, fun a ha => z4.2.1 a (NL_ne ha).1, z4.2.2, ?_, ?_, ?_, ?_, ?_⟩
                · rw [nF_0, z4.2.1 7 (by decide)]
                · rw [nF_0, z4.2.1 52 (by decide)]
                · rw [nF_0, z4.2.1 53 (by decide)]
                · rw [nF_0, z4.2.1 54 (by decide)]
                · rw [z4.2.1 51 (by decide)]
                  exact hc
              · -- on 26
                exact absurd c12 (by decide)
    · -- on 17
      exact absurd c3 (by decide)
  · -- false
    refine J_if_ne (tgt := 19) dX11_night_14 (by decide) (fun c13 => ?_) (fun c13 => ?_)
    · -- to 19
      exact absurd c13 (by decide)
    · -- on 17
      refine J_iconst (v := -1) dX11_night_17 (by decide) ?_
      refine M_iret dX11_night_18 rfl rfl ?_
      exact h0 hr

def dpF (f : Nat → Int32) (g i : Nat) : Nat → Int32 := fun j => if j < i then f (g + j) else f j
theorem dpF_hi {f : Nat → Int32} {g i : Nat} : dpF f g i (g + i) = f (g + i) := if_neg (by omega)
theorem dpF_0 {f : Nat → Int32} {g : Nat} : dpF f g 0 = f := by
  funext j
  exact if_neg (by omega)
theorem dpF_s {f : Nat → Int32} {g i : Nat} : upd (dpF f g i) i (f (g + i)) = dpF f g (i + 1) := by
  funext j
  by_cases h : j = i
  · subst h; rw [updS]; simp [dpF]
  · rw [updN h]
    unfold dpF
    by_cases h2 : j < i
    · rw [if_pos h2, if_pos (by omega)]
    · rw [if_neg h2, if_neg (by omega)]
def dropM (M : Mem) (k n g : Nat) : Mem := wr (W2 M (k + 1) (k + 2) (dpF (M.1 (k + 1)) g (n - g)) (dpF (M.1 (k + 2)) g (n - g))) k 3 (nI (n - g))
set_option maxRecDepth 100000 in
set_option maxHeartbeats 1000000 in
theorem tX0_drop_l {d : Nat} {M : Mem} {Φ : Option Int32 → Mem → Prop} {k n g : Nat} (hB : BinAt k) (hn : M.1 k 3 = nI n) (hnb : n ≤ 20) (hg : g ≤ n) (h : Φ none (dropM M k n g)) : ∀ m i : Nat, g + i + m = n → JM noRo d mX0_drop 2 [some (.ref k), some (.int (nI g)), some (.int (nI (g + i)))] [] (W2 M (k + 1) (k + 2) (dpF (M.1 (k + 1)) g i) (dpF (M.1 (k + 2)) g i)) Φ := by
  obtain ⟨sk, sa, sl, sf, lk, la, ll, lf⟩ := id hB
  intro m
  induction m with
  | zero =>
    intro i hi
    refine J_iload_n dX0_drop_2 rfl ?_
    refine J_aload_n dX0_drop_3 rfl ?_
    refine M_getI dX0_drop_4 fX0_21 sk rfl lk ?_
    rw [W2_o (by omega) (by omega), hn]
    refine J_icmp_ge (tgt := 44) dX0_drop_7 (by decide) (fun c1 => ?_) (fun c1 => ?_)
    · -- to 44
      obtain rfl : i = n - g := by omega
      refine J_aload_n dX0_drop_44 rfl ?_
      refine J_dup dX0_drop_45 rfl ?_
      refine M_getI dX0_drop_46 fX0_21 sk rfl lk ?_
      rw [W2_o (by omega) (by omega), hn]
      refine J_iload_n dX0_drop_49 rfl ?_
      refine J_isub dX0_drop_50 ?_
      rw [pk_sub hg]
      refine M_putI dX0_drop_51 pX0_21 sk rfl lk ?_
      refine M_vret dX0_drop_54 rfl ?_
      exact h
    · -- on 10
      exact absurd (nI_le (by omega) (by omega)) c1
  | succ m ih =>
    intro i hi
    refine J_iload_n dX0_drop_2 rfl ?_
    refine J_aload_n dX0_drop_3 rfl ?_
    refine M_getI dX0_drop_4 fX0_21 sk rfl lk ?_
    rw [W2_o (by omega) (by omega), hn]
    refine J_icmp_ge (tgt := 44) dX0_drop_7 (by decide) (fun c1 => ?_) (fun c1 => ?_)
    · -- to 44
      exact absurd c1 (nI_ge (by omega) (by omega))
    · -- on 10
      refine J_aload_n dX0_drop_10 rfl ?_
      refine M_getR dX0_drop_11 fX0_9 sk rfl lk ?_
      refine J_iload_n dX0_drop_14 rfl ?_
      refine J_iload_n dX0_drop_15 rfl ?_
      refine J_isub dX0_drop_16 ?_
      refine J_aload_n dX0_drop_17 rfl ?_
      refine M_getR dX0_drop_18 fX0_9 sk rfl lk ?_
      refine J_iload_n dX0_drop_21 rfl ?_
      refine M_ialdE dX0_drop_22 sa ⟨la, by decide⟩ (by first | rfl | assumption) (by omega) ?_
      rw [W2_1 (show k + 1 ≠ k + 2 by omega), dpF_hi]
      refine M_iastE dX0_drop_23 sa ⟨la, by decide⟩ (show nI (g + i) - nI g = nI i by rw [pk_sub (by omega), Nat.add_sub_cancel_left]) (by omega) ?_
      rw [W2_w1 (show k + 1 ≠ k + 2 by omega)]
      refine J_aload_n dX0_drop_24 rfl ?_
      refine M_getR dX0_drop_25 fX0_15 sk rfl lk ?_
      refine J_iload_n dX0_drop_28 rfl ?_
      refine J_iload_n dX0_drop_29 rfl ?_
      refine J_isub dX0_drop_30 ?_
      refine J_aload_n dX0_drop_31 rfl ?_
      refine M_getR dX0_drop_32 fX0_15 sk rfl lk ?_
      refine J_iload_n dX0_drop_35 rfl ?_
      refine M_ialdE dX0_drop_36 sl ⟨ll, by decide⟩ (by first | rfl | assumption) (by omega) ?_
      rw [W2_2, dpF_hi]
      refine M_iastE dX0_drop_37 sl ⟨ll, by decide⟩ (show nI (g + i) - nI g = nI i by rw [pk_sub (by omega), Nat.add_sub_cancel_left]) (by omega) ?_
      rw [W2_w2, dpF_s, dpF_s]
      refine J_iinc (v := nI (g + (i + 1))) dX0_drop_38 rfl (nI_1 (g + i)) (by decide) rfl ?_
      dsimp only [setL]
      refine J_goto (tgt := 2) dX0_drop_41 (by decide) ?_
      exact ih (i + 1) (by omega)
set_option maxRecDepth 100000 in
set_option maxHeartbeats 1000000 in
theorem tX0_drop {d : Nat} {M : Mem} {Φ : Option Int32 → Mem → Prop} {k n g : Nat} (hB : BinAt k) (hn : M.1 k 3 = nI n) (hnb : n ≤ 20) (hg : g ≤ n) (h : Φ none (dropM M k n g)) : JM noRo d mX0_drop 0 [some (.ref k), some (.int (nI g))] [] M Φ := by
  obtain ⟨sk, sa, sl, sf, lk, la, ll, lf⟩ := id hB
  refine J_iload_n dX0_drop_0 rfl ?_
  refine J_istore_n dX0_drop_1 (by decide) rfl ?_
  dsimp only [setL]
  have q := tX0_drop_l (d := d) hB hn hnb hg h (n - g) 0 (by omega)
  rw [dpF_0, dpF_0, W2_self (show k + 1 ≠ k + 2 by omega)] at q
  exact q
def spA (s : Int32) (a : Nat → Int32) : Nat → Int32
  | 0 => s
  | i + 1 => spA s a i + a i
set_option maxRecDepth 100000 in
set_option maxHeartbeats 1000000 in
theorem tX0_spoil_l {d : Nat} {M : Mem} {Φ : Option Int32 → Mem → Prop} {k n : Nat} {y : Int32} (hB : BinAt k) (hn : M.1 k 3 = nI n) (hnb : n ≤ 20) (h : ∀ g, g ≤ n → (∀ j, j < g → M.1 (k + 2) j < y) → (g = n ∨ ¬ M.1 (k + 2) g < y) → Φ none (dropM (wr M k 4 (spA (M.1 k 4) (M.1 (k + 1)) g)) k n g)) : ∀ m i : Nat, i + m = n → (∀ j, j < i → M.1 (k + 2) j < y) → JM noRo (d + 1) mX0_spoil 2 [some (.ref k), some (.int y), some (.int (nI i))] [] (wr M k 4 (spA (M.1 k 4) (M.1 (k + 1)) i)) Φ := by
  obtain ⟨sk, sa, sl, sf, lk, la, ll, lf⟩ := id hB
  intro m
  induction m with
  | zero =>
    intro i hi hj
    refine J_iload_n dX0_spoil_2 rfl ?_
    refine J_aload_n dX0_spoil_3 rfl ?_
    refine M_getI dX0_spoil_4 fX0_21 sk rfl lk ?_
    rw [rd3 (by decide), hn]
    refine J_icmp_ge (tgt := 41) dX0_spoil_7 (by decide) (fun c1 => ?_) (fun c1 => ?_)
    · -- to 41
      refine J_aload_n dX0_spoil_41 rfl ?_
      refine J_iload_n dX0_spoil_42 rfl ?_
      refine M_callV1 (mc := mX0_drop) dX0_spoil_43 kX0_28 oX0_drop (Nat.le_of_ble_eq_true rfl) (Nat.le_of_ble_eq_true rfl) sk lk rfl ?_
      refine tX0_drop hB (by rw [rd3 (by decide)]; exact hn) hnb (by omega) ?_
      refine M_vret dX0_spoil_46 rfl ?_
      obtain rfl : i = n := by omega
      exact h i (by omega) hj (Or.inl rfl)
    · -- on 10
      exact absurd (nI_le (by omega) (by omega)) c1
  | succ m ih =>
    intro i hi hj
    refine J_iload_n dX0_spoil_2 rfl ?_
    refine J_aload_n dX0_spoil_3 rfl ?_
    refine M_getI dX0_spoil_4 fX0_21 sk rfl lk ?_
    rw [rd3 (by decide), hn]
    refine J_icmp_ge (tgt := 41) dX0_spoil_7 (by decide) (fun c1 => ?_) (fun c1 => ?_)
    · -- to 41
      exact absurd c1 (nI_ge (by omega) (by omega))
    · -- on 10
      refine J_aload_n dX0_spoil_10 rfl ?_
      refine M_getR dX0_spoil_11 fX0_15 sk rfl lk ?_
      refine J_iload_n dX0_spoil_14 rfl ?_
      refine M_ialdE dX0_spoil_15 sl ⟨ll, by decide⟩ (by first | rfl | assumption) (by omega) ?_
      rw [rd2 (by omega)]
      refine J_iload_n dX0_spoil_16 rfl ?_
      refine J_icmp_ge (tgt := 41) dX0_spoil_17 (by decide) (fun c2 => ?_) (fun c2 => ?_)
      · -- to 41
        refine J_aload_n dX0_spoil_41 rfl ?_
        refine J_iload_n dX0_spoil_42 rfl ?_
        refine M_callV1 (mc := mX0_drop) dX0_spoil_43 kX0_28 oX0_drop (Nat.le_of_ble_eq_true rfl) (Nat.le_of_ble_eq_true rfl) sk lk rfl ?_
        refine tX0_drop hB (by rw [rd3 (by decide)]; exact hn) hnb (by omega) ?_
        refine M_vret dX0_spoil_46 rfl ?_
        exact h i (by omega) hj (Or.inr (Int32.not_lt.mpr c2))
      · -- on 20
        have cL := c2
        refine J_aload_n dX0_spoil_20 rfl ?_
        refine J_dup dX0_spoil_21 rfl ?_
        refine M_getI dX0_spoil_22 fX0_25 sk rfl lk ?_
        rw [rd1]
        refine J_aload_n dX0_spoil_25 rfl ?_
        refine M_getR dX0_spoil_26 fX0_9 sk rfl lk ?_
        refine J_iload_n dX0_spoil_29 rfl ?_
        refine M_ialdE dX0_spoil_30 sa ⟨la, by decide⟩ (by first | rfl | assumption) (by omega) ?_
        rw [rd2 (by omega)]
        refine J_iadd dX0_spoil_31 ?_
        refine M_putI dX0_spoil_32 pX0_25 sk rfl lk ?_
        rw [wr_wr]
        refine J_iinc (v := nI (i + 1)) dX0_spoil_35 rfl (nI_1 i) (by decide) rfl ?_
        dsimp only [setL]
        refine J_goto (tgt := 2) dX0_spoil_38 (by decide) ?_
        refine ih (i + 1) (by omega) (fun j hq => ?_)
        by_cases hji : j = i
        · subst hji; exact Int32.not_le.mp cL
        · exact hj j (by omega)
set_option maxRecDepth 100000 in
set_option maxHeartbeats 1000000 in
theorem tX0_spoil {d : Nat} {M : Mem} {Φ : Option Int32 → Mem → Prop} {k n : Nat} {y : Int32} (hB : BinAt k) (hn : M.1 k 3 = nI n) (hnb : n ≤ 20) (h : ∀ g, g ≤ n → (∀ j, j < g → M.1 (k + 2) j < y) → (g = n ∨ ¬ M.1 (k + 2) g < y) → Φ none (dropM (wr M k 4 (spA (M.1 k 4) (M.1 (k + 1)) g)) k n g)) : JM noRo (d + 1) mX0_spoil 0 [some (.ref k), some (.int y)] [] M Φ := by
  obtain ⟨sk, sa, sl, sf, lk, la, ll, lf⟩ := id hB
  refine J_iconst (v := 0) dX0_spoil_0 (by decide) ?_
  refine J_istore_n dX0_spoil_1 (by decide) rfl ?_
  dsimp only [setL]
  have q := tX0_spoil_l (d := d) hB hn hnb h n 0 (by omega) (fun j hj => absurd hj (by omega))
  rw [show spA (M.1 k 4) (M.1 (k + 1)) 0 = M.1 k 4 from rfl, wr_self] at q
  exact q

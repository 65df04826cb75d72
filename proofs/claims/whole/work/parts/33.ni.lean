def sN (f : Nat → Nat) : Nat → Nat
  | 0 => 0
  | i + 1 => sN f i + f i
set_option maxRecDepth 100000 in
set_option maxHeartbeats 1000000 in
theorem tX0_take_l {d : Nat} {M : Mem} {Φ : Option Int32 → Mem → Prop} {k n w : Nat} {A : Nat → Nat} (hB : BinAt k) (hn : M.1 k 3 = nI n) (hnb : n ≤ 20) (hA : ∀ i, i < n → A i ≤ 10000 ∧ M.1 (k + 1) i = nI (A i)) (hW : w ≤ 50) (h1 : sN A n ≤ w → Φ (some (nI (sN A n))) (dropM M k n n)) (h2 : ∀ i, i < n → sN A i ≤ w → w - sN A i < A i → Φ (some (nI w)) (dropM (wr M (k + 1) i (nI (A i - (w - sN A i)))) k n i)) : ∀ m i r : Nat, i + m = n → r + sN A i = w → JM noRo (d + 1) mX0_take 4 [some (.ref k), some (.int (nI w)), some (.int (nI r)), some (.int (nI i))] [] M Φ := by
  obtain ⟨sk, sa, sl, sf, lk, la, ll, lf⟩ := id hB
  intro m
  induction m with
  | zero =>
    intro i r hi hr
    refine J_iload_n dX0_take_4 rfl ?_
    refine J_aload_n dX0_take_5 rfl ?_
    refine M_getI dX0_take_6 fX0_21 sk rfl lk ?_
    rw [hn]
    refine J_icmp_ge (tgt := 37) dX0_take_9 (by decide) (fun c1 => ?_) (fun c1 => ?_)
    · -- to 37
      refine J_iload_n dX0_take_37 rfl ?_
      refine J_aload_n dX0_take_38 rfl ?_
      refine M_getI dX0_take_39 fX0_21 sk rfl lk ?_
      rw [hn]
      refine J_icmp_ge (tgt := 57) dX0_take_42 (by decide) (fun c2 => ?_) (fun c2 => ?_)
      · -- to 57
        refine J_aload_n dX0_take_57 rfl ?_
        refine J_iload_n dX0_take_58 rfl ?_
        refine M_callV1 (mc := mX0_drop) dX0_take_59 kX0_28 oX0_drop (Nat.le_of_ble_eq_true rfl) (Nat.le_of_ble_eq_true rfl) sk lk rfl ?_
        obtain rfl : i = n := by omega
        refine tX0_drop hB hn hnb (Nat.le_refl _) ?_
        refine J_iload_n dX0_take_62 rfl ?_
        refine J_iload_n dX0_take_63 rfl ?_
        refine J_isub dX0_take_64 ?_
        refine M_iret dX0_take_65 rfl rfl ?_
        rw [pk_sub (by omega), show w - r = sN A i by omega]
        exact h1 (by omega)
      · -- on 45
        exact absurd (nI_le (by omega) (by omega)) c2
    · -- on 12
      exact absurd (nI_le (by omega) (by omega)) c1
  | succ m ih =>
    intro i r hi hr
    refine J_iload_n dX0_take_4 rfl ?_
    refine J_aload_n dX0_take_5 rfl ?_
    refine M_getI dX0_take_6 fX0_21 sk rfl lk ?_
    rw [hn]
    refine J_icmp_ge (tgt := 37) dX0_take_9 (by decide) (fun c1 => ?_) (fun c1 => ?_)
    · -- to 37
      exact absurd c1 (nI_ge (by omega) (by omega))
    · -- on 12
      refine J_aload_n dX0_take_12 rfl ?_
      refine M_getR dX0_take_13 fX0_9 sk rfl lk ?_
      refine J_iload_n dX0_take_16 rfl ?_
      refine M_ialdE dX0_take_17 sa ⟨la, by decide⟩ (by first | rfl | assumption) (by omega) ?_
      rw [(hA i (by omega)).2]
      have hAi := (hA i (by omega)).1
      refine J_iload_n dX0_take_18 rfl ?_
      refine J_icmp_gt (tgt := 37) dX0_take_19 (by decide) (fun c2 => ?_) (fun c2 => ?_)
      · -- to 37
        have cG : r < A i := Nat.not_le.mp (fun q => nI_nlt q (by omega) c2)
        refine J_iload_n dX0_take_37 rfl ?_
        refine J_aload_n dX0_take_38 rfl ?_
        refine M_getI dX0_take_39 fX0_21 sk rfl lk ?_
        rw [hn]
        refine J_icmp_ge (tgt := 57) dX0_take_42 (by decide) (fun c3 => ?_) (fun c3 => ?_)
        · -- to 57
          exact absurd c3 (nI_ge (by omega) (by omega))
        · -- on 45
          refine J_aload_n dX0_take_45 rfl ?_
          refine M_getR dX0_take_46 fX0_9 sk rfl lk ?_
          refine J_iload_n dX0_take_49 rfl ?_
          refine J_dup2 dX0_take_50 rfl rfl ?_
          refine M_ialdE dX0_take_51 sa ⟨la, by decide⟩ (by first | rfl | assumption) (by omega) ?_
          rw [(hA i (by omega)).2]
          refine J_iload_n dX0_take_52 rfl ?_
          refine J_isub dX0_take_53 ?_
          rw [pk_sub (by omega)]
          refine M_iastE dX0_take_54 sa ⟨la, by decide⟩ (by first | rfl | assumption) (by omega) ?_
          refine J_iconst (v := 0) dX0_take_55 (by decide) ?_
          refine J_istore_n dX0_take_56 (by decide) rfl ?_
          dsimp only [setL]
          refine J_aload_n dX0_take_57 rfl ?_
          refine J_iload_n dX0_take_58 rfl ?_
          refine M_callV1 (mc := mX0_drop) dX0_take_59 kX0_28 oX0_drop (Nat.le_of_ble_eq_true rfl) (Nat.le_of_ble_eq_true rfl) sk lk rfl ?_
          refine tX0_drop (n := n) hB (by rw [rd2 (by omega)]; exact hn) hnb (by omega) ?_
          refine J_iload_n dX0_take_62 rfl ?_
          refine J_iload_n dX0_take_63 rfl ?_
          refine J_isub dX0_take_64 ?_
          refine M_iret dX0_take_65 rfl rfl ?_
          rw [show nI w - 0 = nI w by simp, show r = w - sN A i by omega]
          exact h2 i (by omega) (by omega) (by omega)
      · -- on 22
        have cL : A i ≤ r := Nat.not_lt.mp (fun q => c2 (nI_lt q (by omega)))
        refine J_iload_n dX0_take_22 rfl ?_
        refine J_aload_n dX0_take_23 rfl ?_
        refine M_getR dX0_take_24 fX0_9 sk rfl lk ?_
        refine J_iload_n dX0_take_27 rfl ?_
        refine M_ialdE dX0_take_28 sa ⟨la, by decide⟩ (by first | rfl | assumption) (by omega) ?_
        rw [(hA i (by omega)).2]
        refine J_isub dX0_take_29 ?_
        rw [pk_sub cL]
        refine J_istore_n dX0_take_30 (by decide) rfl ?_
        dsimp only [setL]
        refine J_iinc (v := nI (i + 1)) dX0_take_31 rfl (nI_1 i) (by decide) rfl ?_
        dsimp only [setL]
        refine J_goto (tgt := 4) dX0_take_34 (by decide) ?_
        exact ih (i + 1) (r - A i) (by omega) (by rw [sN]; omega)
set_option maxRecDepth 100000 in
set_option maxHeartbeats 1000000 in
theorem tX0_take {d : Nat} {M : Mem} {Φ : Option Int32 → Mem → Prop} {k n w : Nat} {A : Nat → Nat} (hB : BinAt k) (hn : M.1 k 3 = nI n) (hnb : n ≤ 20) (hA : ∀ i, i < n → A i ≤ 10000 ∧ M.1 (k + 1) i = nI (A i)) (hW : w ≤ 50) (h1 : sN A n ≤ w → Φ (some (nI (sN A n))) (dropM M k n n)) (h2 : ∀ i, i < n → sN A i ≤ w → w - sN A i < A i → Φ (some (nI w)) (dropM (wr M (k + 1) i (nI (A i - (w - sN A i)))) k n i)) : JM noRo (d + 1) mX0_take 0 [some (.ref k), some (.int (nI w))] [] M Φ := by
  obtain ⟨sk, sa, sl, sf, lk, la, ll, lf⟩ := id hB
  refine J_iload_n dX0_take_0 rfl ?_
  refine J_istore_n dX0_take_1 (by decide) rfl ?_
  dsimp only [setL]
  refine J_iconst (v := 0) dX0_take_2 (by decide) ?_
  refine J_istore_n dX0_take_3 (by decide) rfl ?_
  dsimp only [setL]
  exact tX0_take_l hB hn hnb hA hW h1 h2 n 0 w (by omega) rfl

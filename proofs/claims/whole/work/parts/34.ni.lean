def dqF (f : Nat → Int32) (o i : Nat) : Nat → Int32 := fun j => if o ≤ j ∧ j < o + i then f (j + 1) else f j
theorem dqF_hi {f : Nat → Int32} {o i : Nat} : dqF f o i (o + (i + 1)) = f (o + (i + 1)) := if_neg (by omega)
theorem dqF_0 {f : Nat → Int32} {o : Nat} : dqF f o 0 = f := by
  funext j
  exact if_neg (by omega)
theorem dqF_s {f : Nat → Int32} {o i : Nat} : upd (dqF f o i) (o + i) (f (o + (i + 1))) = dqF f o (i + 1) := by
  funext j
  by_cases h : j = o + i
  · subst h
    rw [updS]
    unfold dqF
    rw [if_pos (by omega)]
    congr 1
  · rw [updN h]
    unfold dqF
    by_cases h2 : o ≤ j ∧ j < o + i
    · rw [if_pos h2, if_pos (by omega)]
    · rw [if_neg h2, if_neg (by omega)]
/-- the first lot of a bin of the reference goes -/
def goM (M : Mem) (b n : Nat) : Mem := wr (W2 M 88 89 (dqF (M.1 88) (20 * b) (n - 1)) (dqF (M.1 89) (20 * b) (n - 1))) 87 b (nI (n - 1))
set_option maxRecDepth 100000 in
set_option maxHeartbeats 1000000 in
theorem tM_go_l {d : Nat} {M : Mem} {Φ : Option Int32 → Mem → Prop} {b n : Nat} (hb : b < 4) (hn : M.1 87 b = nI n) (hnb : n ≤ 20) (hn1 : 1 ≤ n) (h : Φ none (goM M b n)) : ∀ m i : Nat, i + 1 + m = n → JM noRo d mX12_firstGoes 2 [some (.ref 62), some (.int (nI b)), some (.int (nI (i + 1)))] [] (W2 M 88 89 (dqF (M.1 88) (20 * b) i) (dqF (M.1 89) (20 * b) i)) Φ := by
  intro m
  induction m with
  | zero =>
    intro i hi
    refine J_iload_n dX12_firstGoes_2 rfl ?_
    refine J_aload_n dX12_firstGoes_3 rfl ?_
    refine M_getR dX12_firstGoes_4 fX12_87 rfl rfl (by decide) ?_
    refine J_iload_n dX12_firstGoes_7 rfl ?_
    refine M_ialdE dX12_firstGoes_8 rfl (by decide) (by first | rfl | assumption) (by omega) ?_
    rw [W2_o (by decide) (by decide), hn]
    refine J_icmp_ge (tgt := 66) dX12_firstGoes_9 (by decide) (fun c1 => ?_) (fun c1 => ?_)
    · -- to 66
      obtain rfl : i = n - 1 := by omega
      refine J_aload_n dX12_firstGoes_66 rfl ?_
      refine M_getR dX12_firstGoes_67 fX12_87 rfl rfl (by decide) ?_
      refine J_iload_n dX12_firstGoes_70 rfl ?_
      refine J_dup2 dX12_firstGoes_71 rfl rfl ?_
      refine M_ialdE dX12_firstGoes_72 rfl (by decide) (by first | rfl | assumption) (by omega) ?_
      rw [W2_o (by decide) (by decide), hn]
      refine J_iconst (v := 1) dX12_firstGoes_73 (by decide) ?_
      refine J_isub dX12_firstGoes_74 ?_
      rw [show nI n - 1 = nI (n - 1) by obtain ⟨q, rfl⟩ : ∃ q, n = q + 1 := ⟨n - 1, by omega⟩; exact nI_pred q]
      refine M_iastE dX12_firstGoes_75 rfl (by decide) (by first | rfl | assumption) (by omega) ?_
      refine M_vret dX12_firstGoes_76 rfl ?_
      exact h
    · -- on 12
      exact absurd (nI_le (by omega) (by omega)) c1
  | succ m ih =>
    intro i hi
    refine J_iload_n dX12_firstGoes_2 rfl ?_
    refine J_aload_n dX12_firstGoes_3 rfl ?_
    refine M_getR dX12_firstGoes_4 fX12_87 rfl rfl (by decide) ?_
    refine J_iload_n dX12_firstGoes_7 rfl ?_
    refine M_ialdE dX12_firstGoes_8 rfl (by decide) (by first | rfl | assumption) (by omega) ?_
    rw [W2_o (by decide) (by decide), hn]
    refine J_icmp_ge (tgt := 66) dX12_firstGoes_9 (by decide) (fun c1 => ?_) (fun c1 => ?_)
    · -- to 66
      exact absurd c1 (nI_ge (by omega) (by omega))
    · -- on 12
      refine J_aload_n dX12_firstGoes_12 rfl ?_
      refine M_getR dX12_firstGoes_13 fX12_93 rfl rfl (by decide) ?_
      refine J_bipush (v := 20) dX12_firstGoes_16 (by decide) ?_
      refine J_iload_n dX12_firstGoes_18 rfl ?_
      refine J_imul dX12_firstGoes_19 ?_
      refine J_iload_n dX12_firstGoes_20 rfl ?_
      refine J_iadd dX12_firstGoes_21 ?_
      refine J_iconst (v := 1) dX12_firstGoes_22 (by decide) ?_
      refine J_isub dX12_firstGoes_23 ?_
      refine J_aload_n dX12_firstGoes_24 rfl ?_
      refine M_getR dX12_firstGoes_25 fX12_93 rfl rfl (by decide) ?_
      refine J_bipush (v := 20) dX12_firstGoes_28 (by decide) ?_
      refine J_iload_n dX12_firstGoes_30 rfl ?_
      refine J_imul dX12_firstGoes_31 ?_
      refine J_iload_n dX12_firstGoes_32 rfl ?_
      refine J_iadd dX12_firstGoes_33 ?_
      refine M_ialdE dX12_firstGoes_34 rfl (by decide) (ixm2 b 20 (i + 1)) (by omega) ?_
      rw [W2_2, dqF_hi]
      refine M_iastE dX12_firstGoes_35 rfl (by decide) (ixp 20 b i) (by omega) ?_
      rw [W2_w2, dqF_s]
      refine J_aload_n dX12_firstGoes_36 rfl ?_
      refine M_getR dX12_firstGoes_37 fX12_90 rfl rfl (by decide) ?_
      refine J_bipush (v := 20) dX12_firstGoes_40 (by decide) ?_
      refine J_iload_n dX12_firstGoes_42 rfl ?_
      refine J_imul dX12_firstGoes_43 ?_
      refine J_iload_n dX12_firstGoes_44 rfl ?_
      refine J_iadd dX12_firstGoes_45 ?_
      refine J_iconst (v := 1) dX12_firstGoes_46 (by decide) ?_
      refine J_isub dX12_firstGoes_47 ?_
      refine J_aload_n dX12_firstGoes_48 rfl ?_
      refine M_getR dX12_firstGoes_49 fX12_90 rfl rfl (by decide) ?_
      refine J_bipush (v := 20) dX12_firstGoes_52 (by decide) ?_
      refine J_iload_n dX12_firstGoes_54 rfl ?_
      refine J_imul dX12_firstGoes_55 ?_
      refine J_iload_n dX12_firstGoes_56 rfl ?_
      refine J_iadd dX12_firstGoes_57 ?_
      refine M_ialdE dX12_firstGoes_58 rfl (by decide) (ixm2 b 20 (i + 1)) (by omega) ?_
      rw [W2_1 (by decide), dqF_hi]
      refine M_iastE dX12_firstGoes_59 rfl (by decide) (ixp 20 b i) (by omega) ?_
      rw [W2_w1 (by decide), dqF_s]
      refine J_iinc (v := nI (i + 1 + 1)) dX12_firstGoes_60 rfl (nI_1 (i + 1)) (by decide) rfl ?_
      dsimp only [setL]
      refine J_goto (tgt := 2) dX12_firstGoes_63 (by decide) ?_
      exact ih (i + 1) (by omega)
set_option maxRecDepth 100000 in
set_option maxHeartbeats 1000000 in
theorem tM_firstGoes {d : Nat} {M : Mem} {Φ : Option Int32 → Mem → Prop} {b n : Nat} (hb : b < 4) (hn : M.1 87 b = nI n) (hnb : n ≤ 20) (hn1 : 1 ≤ n) (h : Φ none (goM M b n)) : JM noRo d mX12_firstGoes 0 [some (.ref 62), some (.int (nI b))] [] M Φ := by
  refine J_iconst (v := 1) dX12_firstGoes_0 (by decide) ?_
  refine J_istore_n dX12_firstGoes_1 (by decide) rfl ?_
  dsimp only [setL]
  have q := tM_go_l (d := d) hb hn hnb hn1 h (n - 1) 0 (by omega)
  rw [dqF_0, dqF_0, W2_self (by decide)] at q
  exact q

theorem ixp (c b q : Nat) : nI c * nI b + nI (q + 1) - 1 = nI (c * b + q) := by rw [ixm2, ← Nat.add_assoc, nI_pred]
def LotOK (y z dd : Int32) : Prop := ¬ y < 1 ∧ ¬ 10000 < y ∧ ¬ z < dd ∧ z ≤ 100000
set_option maxRecDepth 100000 in
set_option maxHeartbeats 1000000 in
theorem tM_lot_t {d : Nat} {M : Mem} {Φ : Option Int32 → Mem → Prop} {b n p : Nat} {x y : Int32} {F G : Nat → Int32} (hb : b < 4) (hn : M.1 87 b = nI n) (hp : p < 20) (h : Φ (some (nI (n + 1))) (wr (wr (wr (W2 M 88 89 F G) 89 (20 * b + p) y) 88 (20 * b + p) x) 87 b (nI (n + 1)))) : JM noRo d mX12_lot 135 [some (.ref 62), some (.int (nI b)), some (.int x), some (.int y), some (.int (nI p))] [] (W2 M 88 89 F G) Φ := by
  refine J_aload_n dX12_lot_135 rfl ?_
  refine M_getR dX12_lot_136 fX12_93 rfl rfl (by decide) ?_
  refine J_bipush (v := 20) dX12_lot_139 (by decide) ?_
  refine J_iload_n dX12_lot_141 rfl ?_
  refine J_imul dX12_lot_142 ?_
  refine J_iload dX12_lot_143 rfl ?_
  refine J_iadd dX12_lot_145 ?_
  refine J_iload_n dX12_lot_146 rfl ?_
  refine M_iastE dX12_lot_147 rfl (by decide) (ixm2 b 20 p) (by omega) ?_
  refine J_aload_n dX12_lot_148 rfl ?_
  refine M_getR dX12_lot_149 fX12_90 rfl rfl (by decide) ?_
  refine J_bipush (v := 20) dX12_lot_152 (by decide) ?_
  refine J_iload_n dX12_lot_154 rfl ?_
  refine J_imul dX12_lot_155 ?_
  refine J_iload dX12_lot_156 rfl ?_
  refine J_iadd dX12_lot_158 ?_
  refine J_iload_n dX12_lot_159 rfl ?_
  refine M_iastE dX12_lot_160 rfl (by decide) (ixm2 b 20 p) (by omega) ?_
  refine J_aload_n dX12_lot_161 rfl ?_
  refine M_getR dX12_lot_162 fX12_87 rfl rfl (by decide) ?_
  refine J_iload_n dX12_lot_165 rfl ?_
  refine J_dup2 dX12_lot_166 rfl rfl ?_
  refine M_ialdE dX12_lot_167 rfl (by decide) (by first | rfl | assumption) (by omega) ?_
  have e : (wr (wr (W2 M 88 89 F G) 89 (20 * b + p) y) 88 (20 * b + p) x).1 87 b = nI n := by rw [rd2 (by decide), rd2 (by decide), W2_o (by decide) (by decide)]; exact hn
  rw [e]
  refine J_iconst (v := 1) dX12_lot_168 (by decide) ?_
  refine J_iadd dX12_lot_169 ?_
  rw [nI_1]
  refine M_iastE dX12_lot_170 rfl (by decide) (by first | rfl | assumption) (by omega) ?_
  refine J_aload_n dX12_lot_171 rfl ?_
  refine M_getR dX12_lot_172 fX12_87 rfl rfl (by decide) ?_
  refine J_iload_n dX12_lot_175 rfl ?_
  refine M_ialdE dX12_lot_176 rfl (by decide) (by first | rfl | assumption) (by omega) ?_
  refine M_iret dX12_lot_177 rfl rfl ?_
  rw [rd1]
  exact h
set_option maxRecDepth 100000 in
set_option maxHeartbeats 1000000 in
theorem tM_lot_l {d : Nat} {M : Mem} {Φ : Option Int32 → Mem → Prop} {b n : Nat} {x y : Int32} (hb : b < 4) (hn : M.1 87 b = nI n) (hnb : n < 20) (h : ∀ p, p ≤ n → (p = 0 ∨ M.1 89 (20 * b + (p - 1)) ≤ y) → (∀ q, p < q → q ≤ n → y < M.1 89 (20 * b + (q - 1))) → Φ (some (nI (n + 1))) (wr (wr (wr (W2 M 88 89 (shF (M.1 88) (20 * b + p) (20 * b + n)) (shF (M.1 89) (20 * b + p) (20 * b + n))) 89 (20 * b + p) y) 88 (20 * b + p) x) 87 b (nI (n + 1)))) : ∀ q : Nat, q ≤ n → (∀ r, q < r → r ≤ n → y < M.1 89 (20 * b + (r - 1))) → JM noRo d mX12_lot 54 [some (.ref 62), some (.int (nI b)), some (.int x), some (.int y), some (.int (nI q))] [] (W2 M 88 89 (shF (M.1 88) (20 * b + q) (20 * b + n)) (shF (M.1 89) (20 * b + q) (20 * b + n))) Φ := by
  intro q
  induction q with
  | zero =>
    intro hqn hq
    refine J_iload dX12_lot_54 rfl ?_
    refine J_if_le (tgt := 135) dX12_lot_56 (by decide) (fun c1 => ?_) (fun c1 => ?_)
    · -- to 135
      exact tM_lot_t hb hn (by omega) (h 0 (by omega) (Or.inl rfl) (fun r hr hr2 => hq r hr hr2))
    · -- on 59
      exact absurd (by decide) c1
  | succ q ih =>
    intro hqn hq
    refine J_iload dX12_lot_54 rfl ?_
    refine J_if_le (tgt := 135) dX12_lot_56 (by decide) (fun c1 => ?_) (fun c1 => ?_)
    · -- to 135
      exact absurd c1 (nI_nle (by omega) (by omega))
    · -- on 59
      refine J_aload_n dX12_lot_59 rfl ?_
      refine M_getR dX12_lot_60 fX12_93 rfl rfl (by decide) ?_
      refine J_bipush (v := 20) dX12_lot_63 (by decide) ?_
      refine J_iload_n dX12_lot_65 rfl ?_
      refine J_imul dX12_lot_66 ?_
      refine J_iload dX12_lot_67 rfl ?_
      refine J_iadd dX12_lot_69 ?_
      refine J_iconst (v := 1) dX12_lot_70 (by decide) ?_
      refine J_isub dX12_lot_71 ?_
      refine M_ialdE dX12_lot_72 rfl (by decide) (ixp 20 b q) (by omega) ?_
      rw [W2_2, shF_lo (by omega)]
      refine J_iload_n dX12_lot_73 rfl ?_
      refine J_icmp_le (tgt := 135) dX12_lot_74 (by decide) (fun c2 => ?_) (fun c2 => ?_)
      · -- to 135
        exact tM_lot_t hb hn (by omega) (h (q + 1) (by omega) (Or.inr c2) (fun r hr hr2 => hq r hr hr2))
      · -- on 77
        have cL := c2
        refine J_aload_n dX12_lot_77 rfl ?_
        refine M_getR dX12_lot_78 fX12_93 rfl rfl (by decide) ?_
        refine J_bipush (v := 20) dX12_lot_81 (by decide) ?_
        refine J_iload_n dX12_lot_83 rfl ?_
        refine J_imul dX12_lot_84 ?_
        refine J_iload dX12_lot_85 rfl ?_
        refine J_iadd dX12_lot_87 ?_
        refine J_aload_n dX12_lot_88 rfl ?_
        refine M_getR dX12_lot_89 fX12_93 rfl rfl (by decide) ?_
        refine J_bipush (v := 20) dX12_lot_92 (by decide) ?_
        refine J_iload_n dX12_lot_94 rfl ?_
        refine J_imul dX12_lot_95 ?_
        refine J_iload dX12_lot_96 rfl ?_
        refine J_iadd dX12_lot_98 ?_
        refine J_iconst (v := 1) dX12_lot_99 (by decide) ?_
        refine J_isub dX12_lot_100 ?_
        refine M_ialdE dX12_lot_101 rfl (by decide) (ixp 20 b q) (by omega) ?_
        rw [W2_2, shF_lo (by omega)]
        refine M_iastE dX12_lot_102 rfl (by decide) (ixm2 b 20 (q + 1)) (by omega) ?_
        rw [W2_w2, ← Nat.add_assoc, shF_dn (by omega)]
        refine J_aload_n dX12_lot_103 rfl ?_
        refine M_getR dX12_lot_104 fX12_90 rfl rfl (by decide) ?_
        refine J_bipush (v := 20) dX12_lot_107 (by decide) ?_
        refine J_iload_n dX12_lot_109 rfl ?_
        refine J_imul dX12_lot_110 ?_
        refine J_iload dX12_lot_111 rfl ?_
        refine J_iadd dX12_lot_113 ?_
        refine J_aload_n dX12_lot_114 rfl ?_
        refine M_getR dX12_lot_115 fX12_90 rfl rfl (by decide) ?_
        refine J_bipush (v := 20) dX12_lot_118 (by decide) ?_
        refine J_iload_n dX12_lot_120 rfl ?_
        refine J_imul dX12_lot_121 ?_
        refine J_iload dX12_lot_122 rfl ?_
        refine J_iadd dX12_lot_124 ?_
        refine J_iconst (v := 1) dX12_lot_125 (by decide) ?_
        refine J_isub dX12_lot_126 ?_
        refine M_ialdE dX12_lot_127 rfl (by decide) (ixp 20 b q) (by omega) ?_
        rw [W2_1 (by decide), shF_lo (by omega)]
        refine M_iastE dX12_lot_128 rfl (by decide) (ixm2 b 20 (q + 1)) (by omega) ?_
        rw [W2_w1 (by decide), ← Nat.add_assoc, shF_dn (by omega)]
        refine J_iinc (v := nI q) dX12_lot_129 rfl (pk_m1 q) (by decide) rfl ?_
        dsimp only [setL]
        refine J_goto (tgt := 54) dX12_lot_132 (by decide) ?_
        refine ih (by omega) (fun r hr hr2 => ?_)
        by_cases hrq : r = q + 1
        · subst hrq
          exact Int32.not_le.mp cL
        · exact hq r (by omega) hr2
set_option maxRecDepth 100000 in
set_option maxHeartbeats 1000000 in
theorem tM_lot {d : Nat} {M : Mem} {Φ : Option Int32 → Mem → Prop} {x y z : Int32} (hc : ∀ b, b < 4 → ∃ n, n ≤ 20 ∧ M.1 87 b = nI n) (h0 : (∀ b n, b < 4 → x = nI b → M.1 87 b = nI n → n < 20 → ¬ LotOK y z (M.1 62 0)) → Φ (some (-1)) M) (h1 : ∀ b n, b < 4 → x = nI b → M.1 87 b = nI n → n < 20 → LotOK y z (M.1 62 0) → ∀ p, p ≤ n → (p = 0 ∨ M.1 89 (20 * b + (p - 1)) ≤ z) → (∀ q, p < q → q ≤ n → z < M.1 89 (20 * b + (q - 1))) → Φ (some (nI (n + 1))) (wr (wr (wr (W2 M 88 89 (shF (M.1 88) (20 * b + p) (20 * b + n)) (shF (M.1 89) (20 * b + p) (20 * b + n))) 89 (20 * b + p) z) 88 (20 * b + p) y) 87 b (nI (n + 1)))) : JM noRo (d + 1) mX12_lot 0 [some (.ref 62), some (.int x), some (.int y), some (.int z)] [] M Φ := by
  refine J_iload_n dX12_lot_0 rfl ?_
  refine M_callS1 (mc := mX12_isBin) dX12_lot_1 kX12_324 oX12_isBin (Nat.le_of_ble_eq_true rfl) (Nat.le_of_ble_eq_true rfl) ?_
  refine tX12_isBin (fun b hb e => ?_) (fun q1 => ?_)
  · -- true
    subst e
    obtain ⟨n, hn, ec⟩ := hc b hb
    refine J_if_eq (tgt := 44) dX12_lot_4 (by decide) (fun c2 => ?_) (fun c2 => ?_)
    · -- to 44
      exact absurd c2 (by decide)
    · -- on 7
      refine J_aload_n dX12_lot_7 rfl ?_
      refine M_getR dX12_lot_8 fX12_87 rfl rfl (by decide) ?_
      refine J_iload_n dX12_lot_11 rfl ?_
      refine M_ialdE dX12_lot_12 rfl (by decide) (by first | rfl | assumption) (by omega) ?_
      refine J_bipush (v := 20) dX12_lot_13 (by decide) ?_
      refine J_icmp_eq (tgt := 44) dX12_lot_15 (by decide) (fun c3 => ?_) (fun c3 => ?_)
      · -- to 44
        refine J_iconst (v := -1) dX12_lot_44 (by decide) ?_
        refine M_iret dX12_lot_45 rfl rfl ?_
        first
        | exact h0 (fun b n hb e => absurd ⟨b, hb, e⟩ q1)
        | exact h0 (fun b2 n2 hb2 e2 hn2 hl2 => by rw [← (nI_eq (by omega) (by omega)).mp e2] at hn2; rw [hn2] at c3; exact absurd ((nI_eq (b := 20) (by omega) (by decide)).mp c3) (by omega))
        | exact h0 (fun b2 n2 hb2 e2 hn2 hl2 hk => hk.1 c3)
        | exact h0 (fun b2 n2 hb2 e2 hn2 hl2 hk => hk.2.1 c3)
        | exact h0 (fun b2 n2 hb2 e2 hn2 hl2 hk => hk.2.2.1 c3)
        | exact h0 (fun b2 n2 hb2 e2 hn2 hl2 hk => c3 hk.2.2.2)
      · -- on 18
        have c20 := c3
        refine J_iload_n dX12_lot_18 rfl ?_
        refine J_iconst (v := 1) dX12_lot_19 (by decide) ?_
        refine J_icmp_lt (tgt := 44) dX12_lot_20 (by decide) (fun c4 => ?_) (fun c4 => ?_)
        · -- to 44
          refine J_iconst (v := -1) dX12_lot_44 (by decide) ?_
          refine M_iret dX12_lot_45 rfl rfl ?_
          first
          | exact h0 (fun b n hb e => absurd ⟨b, hb, e⟩ q1)
          | exact h0 (fun b2 n2 hb2 e2 hn2 hl2 => by rw [← (nI_eq (by omega) (by omega)).mp e2] at hn2; rw [hn2] at c4; exact absurd ((nI_eq (b := 20) (by omega) (by decide)).mp c4) (by omega))
          | exact h0 (fun b2 n2 hb2 e2 hn2 hl2 hk => hk.1 c4)
          | exact h0 (fun b2 n2 hb2 e2 hn2 hl2 hk => hk.2.1 c4)
          | exact h0 (fun b2 n2 hb2 e2 hn2 hl2 hk => hk.2.2.1 c4)
          | exact h0 (fun b2 n2 hb2 e2 hn2 hl2 hk => c4 hk.2.2.2)
        · -- on 23
          have k1 := c4
          refine J_iload_n dX12_lot_23 rfl ?_
          refine J_sipush (v := 10000) dX12_lot_24 (by decide) ?_
          refine J_icmp_gt (tgt := 44) dX12_lot_27 (by decide) (fun c5 => ?_) (fun c5 => ?_)
          · -- to 44
            refine J_iconst (v := -1) dX12_lot_44 (by decide) ?_
            refine M_iret dX12_lot_45 rfl rfl ?_
            first
            | exact h0 (fun b n hb e => absurd ⟨b, hb, e⟩ q1)
            | exact h0 (fun b2 n2 hb2 e2 hn2 hl2 => by rw [← (nI_eq (by omega) (by omega)).mp e2] at hn2; rw [hn2] at c5; exact absurd ((nI_eq (b := 20) (by omega) (by decide)).mp c5) (by omega))
            | exact h0 (fun b2 n2 hb2 e2 hn2 hl2 hk => hk.1 c5)
            | exact h0 (fun b2 n2 hb2 e2 hn2 hl2 hk => hk.2.1 c5)
            | exact h0 (fun b2 n2 hb2 e2 hn2 hl2 hk => hk.2.2.1 c5)
            | exact h0 (fun b2 n2 hb2 e2 hn2 hl2 hk => c5 hk.2.2.2)
          · -- on 30
            have k2 := c5
            refine J_iload_n dX12_lot_30 rfl ?_
            refine J_aload_n dX12_lot_31 rfl ?_
            refine M_getI dX12_lot_32 fX12_135 rfl rfl (by decide) ?_
            refine J_icmp_lt (tgt := 44) dX12_lot_35 (by decide) (fun c6 => ?_) (fun c6 => ?_)
            · -- to 44
              refine J_iconst (v := -1) dX12_lot_44 (by decide) ?_
              refine M_iret dX12_lot_45 rfl rfl ?_
              first
              | exact h0 (fun b n hb e => absurd ⟨b, hb, e⟩ q1)
              | exact h0 (fun b2 n2 hb2 e2 hn2 hl2 => by rw [← (nI_eq (by omega) (by omega)).mp e2] at hn2; rw [hn2] at c6; exact absurd ((nI_eq (b := 20) (by omega) (by decide)).mp c6) (by omega))
              | exact h0 (fun b2 n2 hb2 e2 hn2 hl2 hk => hk.1 c6)
              | exact h0 (fun b2 n2 hb2 e2 hn2 hl2 hk => hk.2.1 c6)
              | exact h0 (fun b2 n2 hb2 e2 hn2 hl2 hk => hk.2.2.1 c6)
              | exact h0 (fun b2 n2 hb2 e2 hn2 hl2 hk => c6 hk.2.2.2)
            · -- on 38
              have k3 := c6
              refine J_iload_n dX12_lot_38 rfl ?_
              refine J_ldc dX12_lot_39 ccX12_149 ?_
              refine J_icmp_le (tgt := 46) dX12_lot_41 (by decide) (fun c7 => ?_) (fun c7 => ?_)
              · -- to 46
                have k4 := c7
                have hlt : n < 20 := by
                  have : n ≠ 20 := fun q => c20 (by rw [ec, q]; rfl)
                  omega
                refine J_aload_n dX12_lot_46 rfl ?_
                refine M_getR dX12_lot_47 fX12_87 rfl rfl (by decide) ?_
                refine J_iload_n dX12_lot_50 rfl ?_
                refine M_ialdE dX12_lot_51 rfl (by decide) (by first | rfl | assumption) (by omega) ?_
                refine J_istore dX12_lot_52 (by decide) rfl ?_
                dsimp only [setL]
                have q := tM_lot_l (x := y) (y := z) (d := d + 1) hb ec hlt (h1 b n hb rfl ec hlt ⟨k1, k2, k3, k4⟩) n (Nat.le_refl _) (fun r hr hr2 => absurd hr (by omega))
                rw [shF_nn, shF_nn, W2_self (by decide)] at q
                rw [ec]
                exact q
              · -- on 44
                refine J_iconst (v := -1) dX12_lot_44 (by decide) ?_
                refine M_iret dX12_lot_45 rfl rfl ?_
                first
                | exact h0 (fun b n hb e => absurd ⟨b, hb, e⟩ q1)
                | exact h0 (fun b2 n2 hb2 e2 hn2 hl2 => by rw [← (nI_eq (by omega) (by omega)).mp e2] at hn2; rw [hn2] at c7; exact absurd ((nI_eq (b := 20) (by omega) (by decide)).mp c7) (by omega))
                | exact h0 (fun b2 n2 hb2 e2 hn2 hl2 hk => hk.1 c7)
                | exact h0 (fun b2 n2 hb2 e2 hn2 hl2 hk => hk.2.1 c7)
                | exact h0 (fun b2 n2 hb2 e2 hn2 hl2 hk => hk.2.2.1 c7)
                | exact h0 (fun b2 n2 hb2 e2 hn2 hl2 hk => c7 hk.2.2.2)
  · -- false
    refine J_if_eq (tgt := 44) dX12_lot_4 (by decide) (fun c8 => ?_) (fun c8 => ?_)
    · -- to 44
      refine J_iconst (v := -1) dX12_lot_44 (by decide) ?_
      refine M_iret dX12_lot_45 rfl rfl ?_
      first
      | exact h0 (fun b n hb e => absurd ⟨b, hb, e⟩ q1)
      | exact h0 (fun b2 n2 hb2 e2 hn2 hl2 => by rw [← (nI_eq (by omega) (by omega)).mp e2] at hn2; rw [hn2] at c8; exact absurd ((nI_eq (b := 20) (by omega) (by decide)).mp c8) (by omega))
      | exact h0 (fun b2 n2 hb2 e2 hn2 hl2 hk => hk.1 c8)
      | exact h0 (fun b2 n2 hb2 e2 hn2 hl2 hk => hk.2.1 c8)
      | exact h0 (fun b2 n2 hb2 e2 hn2 hl2 hk => hk.2.2.1 c8)
      | exact h0 (fun b2 n2 hb2 e2 hn2 hl2 hk => c8 hk.2.2.2)
    · -- on 7
      exact absurd c8 (by decide)
set_option maxRecDepth 100000 in
set_option maxHeartbeats 1000000 in
theorem tY_lot {d : Nat} {M : Mem} {Φ : Option Int32 → Mem → Prop} {x y z : Int32} (hc : ∀ b, b < 4 → ∃ n, n ≤ 20 ∧ M.1 (34 + 4 * b) 3 = nI n) (h0 : (∀ b n, b < 4 → x = nI b → M.1 (34 + 4 * b) 3 = nI n → n < 20 → ¬ LotOK y z (M.1 0 12)) → Φ (some (-1)) M) (h1 : ∀ b n, b < 4 → x = nI b → M.1 (34 + 4 * b) 3 = nI n → n < 20 → LotOK y z (M.1 0 12) → ∀ p, p ≤ n → (p = 0 ∨ M.1 (34 + 4 * b + 2) (p - 1) ≤ z) → (∀ q, p < q → q ≤ n → z < M.1 (34 + 4 * b + 2) (q - 1)) → Φ (some (nI (n + 1))) (wr (wr (wr (W2 M (34 + 4 * b + 1) (34 + 4 * b + 2) (shF (M.1 (34 + 4 * b + 1)) p n) (shF (M.1 (34 + 4 * b + 2)) p n)) (34 + 4 * b + 1) p y) (34 + 4 * b + 2) p z) (34 + 4 * b) 3 (nI (n + 1)))) : JM noRo (d + 2) mX11_lot 0 [some (.ref 0), some (.int x), some (.int y), some (.int z)] [] M Φ := by
  refine J_iload_n dX11_lot_0 rfl ?_
  refine M_callS1 (mc := mX11_isBin) dX11_lot_1 kX11_201 oX11_isBin (Nat.le_of_ble_eq_true rfl) (Nat.le_of_ble_eq_true rfl) ?_
  refine tX11_isBin (fun b hb e => ?_) (fun q1 => ?_)
  · -- true
    subst e
    obtain ⟨n, hn, ec⟩ := hc b hb
    refine J_if_eq (tgt := 33) dX11_lot_4 (by decide) (fun c2 => ?_) (fun c2 => ?_)
    · -- to 33
      exact absurd c2 (by decide)
    · -- on 7
      refine J_iload_n dX11_lot_7 rfl ?_
      refine J_iconst (v := 1) dX11_lot_8 (by decide) ?_
      refine J_icmp_lt (tgt := 33) dX11_lot_9 (by decide) (fun c3 => ?_) (fun c3 => ?_)
      · -- to 33
        refine J_iconst (v := -1) dX11_lot_33 (by decide) ?_
        refine M_iret dX11_lot_34 rfl rfl ?_
        first
        | exact h0 (fun b n hb e => absurd ⟨b, hb, e⟩ q1)
        | exact h0 (fun b2 n2 hb2 e2 hn2 hl2 hk => hk.1 c3)
        | exact h0 (fun b2 n2 hb2 e2 hn2 hl2 hk => hk.2.1 c3)
        | exact h0 (fun b2 n2 hb2 e2 hn2 hl2 hk => hk.2.2.1 c3)
        | exact h0 (fun b2 n2 hb2 e2 hn2 hl2 hk => c3 hk.2.2.2)
      · -- on 12
        have k1 := c3
        refine J_iload_n dX11_lot_12 rfl ?_
        refine J_sipush (v := 10000) dX11_lot_13 (by decide) ?_
        refine J_icmp_gt (tgt := 33) dX11_lot_16 (by decide) (fun c4 => ?_) (fun c4 => ?_)
        · -- to 33
          refine J_iconst (v := -1) dX11_lot_33 (by decide) ?_
          refine M_iret dX11_lot_34 rfl rfl ?_
          first
          | exact h0 (fun b n hb e => absurd ⟨b, hb, e⟩ q1)
          | exact h0 (fun b2 n2 hb2 e2 hn2 hl2 hk => hk.1 c4)
          | exact h0 (fun b2 n2 hb2 e2 hn2 hl2 hk => hk.2.1 c4)
          | exact h0 (fun b2 n2 hb2 e2 hn2 hl2 hk => hk.2.2.1 c4)
          | exact h0 (fun b2 n2 hb2 e2 hn2 hl2 hk => c4 hk.2.2.2)
        · -- on 19
          have k2 := c4
          refine J_iload_n dX11_lot_19 rfl ?_
          refine J_aload_n dX11_lot_20 rfl ?_
          refine M_getI dX11_lot_21 fX11_97 rfl rfl (by decide) ?_
          refine J_icmp_lt (tgt := 33) dX11_lot_24 (by decide) (fun c5 => ?_) (fun c5 => ?_)
          · -- to 33
            refine J_iconst (v := -1) dX11_lot_33 (by decide) ?_
            refine M_iret dX11_lot_34 rfl rfl ?_
            first
            | exact h0 (fun b n hb e => absurd ⟨b, hb, e⟩ q1)
            | exact h0 (fun b2 n2 hb2 e2 hn2 hl2 hk => hk.1 c5)
            | exact h0 (fun b2 n2 hb2 e2 hn2 hl2 hk => hk.2.1 c5)
            | exact h0 (fun b2 n2 hb2 e2 hn2 hl2 hk => hk.2.2.1 c5)
            | exact h0 (fun b2 n2 hb2 e2 hn2 hl2 hk => c5 hk.2.2.2)
          · -- on 27
            have k3 := c5
            refine J_iload_n dX11_lot_27 rfl ?_
            refine J_ldc dX11_lot_28 ccX11_131 ?_
            refine J_icmp_le (tgt := 35) dX11_lot_30 (by decide) (fun c6 => ?_) (fun c6 => ?_)
            · -- to 35
              have k4 := c6
              refine J_aload_n dX11_lot_35 rfl ?_
              refine M_getR dX11_lot_36 fX11_74 rfl rfl (by decide) ?_
              refine J_iload_n dX11_lot_39 rfl ?_
              refine M_aaldE dX11_lot_40 rfl (by first | rfl | assumption) (by omega) ?_
              refine J_iload_n dX11_lot_41 rfl ?_
              refine J_iload_n dX11_lot_42 rfl ?_
              refine M_callV2 (mc := mX0_add) dX11_lot_43 kX11_204 oX0_add (Nat.le_of_ble_eq_true rfl) (Nat.le_of_ble_eq_true rfl) (binAt hb).1 (binAt hb).2.2.2.2.1 rfl ?_
              refine tX0_add (binAt hb) ec hn (fun hq => ?_) (fun hq p hp hp1 hp2 => ?_)
              · exact (show JM _ _ _ _ _ _ _ _ from M_iret dX11_lot_46 rfl rfl (h0 (fun b2 n2 hb2 e2 hn2 hl2 => by rw [← (nI_eq (by omega) (by omega)).mp e2, ec] at hn2; exact absurd ((nI_eq (by omega) (by omega)).mp hn2) (by omega))))
              · exact (show JM _ _ _ _ _ _ _ _ from M_iret dX11_lot_46 rfl rfl (h1 b n hb rfl ec hq ⟨k1, k2, k3, k4⟩ p hp hp1 hp2))
            · -- on 33
              refine J_iconst (v := -1) dX11_lot_33 (by decide) ?_
              refine M_iret dX11_lot_34 rfl rfl ?_
              first
              | exact h0 (fun b n hb e => absurd ⟨b, hb, e⟩ q1)
              | exact h0 (fun b2 n2 hb2 e2 hn2 hl2 hk => hk.1 c6)
              | exact h0 (fun b2 n2 hb2 e2 hn2 hl2 hk => hk.2.1 c6)
              | exact h0 (fun b2 n2 hb2 e2 hn2 hl2 hk => hk.2.2.1 c6)
              | exact h0 (fun b2 n2 hb2 e2 hn2 hl2 hk => c6 hk.2.2.2)
  · -- false
    refine J_if_eq (tgt := 33) dX11_lot_4 (by decide) (fun c8 => ?_) (fun c8 => ?_)
    · -- to 33
      refine J_iconst (v := -1) dX11_lot_33 (by decide) ?_
      refine M_iret dX11_lot_34 rfl rfl ?_
      first
      | exact h0 (fun b n hb e => absurd ⟨b, hb, e⟩ q1)
      | exact h0 (fun b2 n2 hb2 e2 hn2 hl2 hk => hk.1 c8)
      | exact h0 (fun b2 n2 hb2 e2 hn2 hl2 hk => hk.2.1 c8)
      | exact h0 (fun b2 n2 hb2 e2 hn2 hl2 hk => hk.2.2.1 c8)
      | exact h0 (fun b2 n2 hb2 e2 hn2 hl2 hk => c8 hk.2.2.2)
    · -- on 7
      exact absurd c8 (by decide)

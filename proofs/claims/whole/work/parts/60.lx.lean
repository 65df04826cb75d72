set_option maxRecDepth 100000 in
set_option maxHeartbeats 1000000 in
theorem tX9_adv_l {d : Nat} {M : Mem} {Φ : Option Int32 → Mem → Prop} {n : Nat} {T : Nat → Nat} (hn : M.1 13 1 = nI n) (hnb : n ≤ 1000) (hT : ∀ i, M.1 14 i = nI (T i) ∧ T i < 256) : ∀ k p g, p + k = n → g 1 = nI p → (∀ g2, g2 1 = nI (rnP blk T k p) → JM noRo (d + 9) mX9_advance 44 [some (.ref 26)] [] (wa M 26 g2) Φ) → JM noRo (d + 9) mX9_advance 0 [some (.ref 26)] [] (wa M 26 g) Φ := by
  intro k
  induction k with
  | zero =>
    intro p g hp hg1 h
    refine J_aload_n dX9_advance_0 rfl ?_
    refine M_getI dX9_advance_1 fX9_25 rfl rfl (by decide) ?_
    rw [rda, hg1]
    refine J_aload_n dX9_advance_4 rfl ?_
    refine M_getR dX9_advance_5 fX9_9 rfl rfl (by decide) ?_
    refine M_callV0 (mc := mX8_length) dX9_advance_8 kX9_31 oX8_length (Nat.le_of_ble_eq_true rfl) (Nat.le_of_ble_eq_true rfl) rfl (by decide) rfl ?_
    refine tX8_len ?_
    rw [rdb (by decide), hn]
    refine J_icmp_ge (tgt := 44) dX9_advance_11 (by decide) (fun c2 => ?_) (fun c2 => ?_)
    · -- to 44
      exact h g hg1
    · -- on 14
      exact absurd (nI_le (by omega) (by omega)) c2
  | succ k ih =>
    intro p g hp hg1 h
    refine J_aload_n dX9_advance_0 rfl ?_
    refine M_getI dX9_advance_1 fX9_25 rfl rfl (by decide) ?_
    rw [rda, hg1]
    refine J_aload_n dX9_advance_4 rfl ?_
    refine M_getR dX9_advance_5 fX9_9 rfl rfl (by decide) ?_
    refine M_callV0 (mc := mX8_length) dX9_advance_8 kX9_31 oX8_length (Nat.le_of_ble_eq_true rfl) (Nat.le_of_ble_eq_true rfl) rfl (by decide) rfl ?_
    refine tX8_len ?_
    rw [rdb (by decide), hn]
    refine J_icmp_ge (tgt := 44) dX9_advance_11 (by decide) (fun c2 => ?_) (fun c2 => ?_)
    · -- to 44
      exact absurd c2 (nI_ge (by omega) (by omega))
    · -- on 14
      refine J_aload_n dX9_advance_14 rfl ?_
      refine M_getR dX9_advance_15 fX9_9 rfl rfl (by decide) ?_
      refine J_aload_n dX9_advance_18 rfl ?_
      refine M_getI dX9_advance_19 fX9_25 rfl rfl (by decide) ?_
      rw [rda, hg1]
      refine M_callV1 (mc := mX8_at) dX9_advance_22 kX9_37 oX8_at (Nat.le_of_ble_eq_true rfl) (Nat.le_of_ble_eq_true rfl) rfl (by decide) rfl ?_
      refine tX8_atN (n := n) (by rw [rdb (by decide)]; exact hn) hnb (by omega) (fun hq => ?_) (fun hq => absurd (by omega) hq)
      rw [rdb (by decide), (hT _).1]
      refine M_callS1 (mc := mX9_isBlank) dX9_advance_25 kX9_41 oX9_isBlank (Nat.le_of_ble_eq_true rfl) (Nat.le_of_ble_eq_true rfl) ?_
      refine tX9_isBlank (hT _).2 (fun hb => ?_) (fun hb => ?_)
      · -- true
        refine J_if_eq (tgt := 44) dX9_advance_28 (by decide) (fun c5 => ?_) (fun c5 => ?_)
        · -- to 44
          exact absurd c5 (by decide)
        · -- on 31
          refine J_aload_n dX9_advance_31 rfl ?_
          refine J_dup dX9_advance_32 rfl ?_
          refine M_getI dX9_advance_33 fX9_25 rfl rfl (by decide) ?_
          rw [rda, hg1]
          refine J_iconst (v := 1) dX9_advance_36 (by decide) ?_
          refine J_iadd dX9_advance_37 ?_
          rw [nI_1]
          refine M_putI dX9_advance_38 pX9_25 rfl rfl (by decide) ?_
          rw [wa_wr]
          refine J_goto (tgt := 0) dX9_advance_41 (by decide) ?_
          refine ih (p + 1) _ (by omega) updS (fun g2 a1 => h g2 ?_)
          rw [rn_y hb]; exact a1
      · -- false
        refine J_if_eq (tgt := 44) dX9_advance_28 (by decide) (fun c6 => ?_) (fun c6 => ?_)
        · -- to 44
          refine h g ?_
          rw [rn_n hb]; exact hg1
        · -- on 31
          exact absurd c6 (by decide)
set_option maxRecDepth 100000 in
set_option maxHeartbeats 1000000 in
theorem tX9_adv_e {d : Nat} {M : Mem} {Φ : Option Int32 → Mem → Prop} {n : Nat} {T : Nat → Nat} {s : Nat} {g : Nat → Int32} (hLet : LetOK) (hn : M.1 13 1 = nI n) (hnb : n ≤ 1000) (hT : ∀ i, M.1 14 i = nI (T i) ∧ T i < 256) (hsn : s ≤ n) (hg1 : g 1 = nI s) (h : ∀ g2, TkC g2 (if n ≤ s then (0, 0, s, s) else lexT.lexA T n s) → Φ none (wa M 26 g2)) : JM noRo (d + 9) mX9_advance 44 [some (.ref 26)] [] (wa M 26 g) Φ := by
  by_cases hq : n ≤ s
  ·
    refine J_aload_n dX9_advance_44 rfl ?_
    refine J_aload_n dX9_advance_45 rfl ?_
    refine M_getI dX9_advance_46 fX9_25 rfl rfl (by decide) ?_
    rw [rda, hg1]
    refine M_putI dX9_advance_49 pX9_15 rfl rfl (by decide) ?_
    rw [wa_wr]
    refine J_aload_n dX9_advance_52 rfl ?_
    refine J_iconst (v := -1) dX9_advance_53 (by decide) ?_
    refine M_putI dX9_advance_54 pX9_22 rfl rfl (by decide) ?_
    rw [wa_wr]
    refine J_aload_n dX9_advance_57 rfl ?_
    refine M_getR dX9_advance_58 fX9_9 rfl rfl (by decide) ?_
    refine J_aload_n dX9_advance_61 rfl ?_
    refine M_getI dX9_advance_62 fX9_15 rfl rfl (by decide) ?_
    rw [rda, updN (by decide), updS]
    refine M_callV1 (mc := mX8_at) dX9_advance_65 kX9_37 oX8_at (Nat.le_of_ble_eq_true rfl) (Nat.le_of_ble_eq_true rfl) rfl (by decide) rfl ?_
    refine tX8_atN (n := n) (by rw [rdb (by decide)]; exact hn) hnb (by omega) (fun hq => absurd hq (by omega)) (fun hq => ?_)
    refine J_istore_n dX9_advance_68 (by decide) rfl ?_
    dsimp only [setL]
    refine J_iload_n dX9_advance_69 rfl ?_
    refine J_iconst (v := -1) dX9_advance_70 (by decide) ?_
    refine J_icmp_ne (tgt := 82) dX9_advance_71 (by decide) (fun c2 => ?_) (fun c2 => ?_)
    · -- to 82
      exact absurd c2 (by decide)
    · -- on 74
      refine J_aload_n dX9_advance_74 rfl ?_
      refine J_iconst (v := 0) dX9_advance_75 (by decide) ?_
      refine M_putI dX9_advance_76 pX9_19 rfl rfl (by decide) ?_
      refine J_goto (tgt := 136) dX9_advance_79 (by decide) ?_
      rw [wa_wr]
      refine M_vret dX9_advance_136 rfl ?_
      rw [if_pos (show n ≤ s by omega)] at h
      exact h _ ⟨by rw [updN (by decide), updN (by decide), updS], updS, fun _ => by rw [updN (by decide), updN (by decide), updN (by decide)]; exact hg1, fun q => absurd (show (0 : Nat) = 2 from q) (by decide), fun q => absurd (show (0 : Nat) = 3 from q) (by decide)⟩
  · rw [if_neg hq] at h
    have hsn : s < n := by omega
    refine J_aload_n dX9_advance_44 rfl ?_
    refine J_aload_n dX9_advance_45 rfl ?_
    refine M_getI dX9_advance_46 fX9_25 rfl rfl (by decide) ?_
    rw [rda, hg1]
    refine M_putI dX9_advance_49 pX9_15 rfl rfl (by decide) ?_
    rw [wa_wr]
    refine J_aload_n dX9_advance_52 rfl ?_
    refine J_iconst (v := -1) dX9_advance_53 (by decide) ?_
    refine M_putI dX9_advance_54 pX9_22 rfl rfl (by decide) ?_
    rw [wa_wr]
    refine J_aload_n dX9_advance_57 rfl ?_
    refine M_getR dX9_advance_58 fX9_9 rfl rfl (by decide) ?_
    refine J_aload_n dX9_advance_61 rfl ?_
    refine M_getI dX9_advance_62 fX9_15 rfl rfl (by decide) ?_
    rw [rda, updN (by decide), updS]
    refine M_callV1 (mc := mX8_at) dX9_advance_65 kX9_37 oX8_at (Nat.le_of_ble_eq_true rfl) (Nat.le_of_ble_eq_true rfl) rfl (by decide) rfl ?_
    refine tX8_atN (n := n) (by rw [rdb (by decide)]; exact hn) hnb (by omega) (fun hq => ?_) (fun hq => absurd (by omega) hq)
    rw [rdb (by decide), (hT _).1]
    refine J_istore_n dX9_advance_68 (by decide) rfl ?_
    dsimp only [setL]
    refine J_iload_n dX9_advance_69 rfl ?_
    refine J_iconst (v := -1) dX9_advance_70 (by decide) ?_
    refine J_icmp_ne (tgt := 82) dX9_advance_71 (by decide) (fun c2 => ?_) (fun c2 => ?_)
    · -- to 82
      refine J_iload_n dX9_advance_82 rfl ?_
      refine M_callS1 (mc := mX9_isLetter) dX9_advance_83 kX9_45 oX9_isLetter (Nat.le_of_ble_eq_true rfl) (Nat.le_of_ble_eq_true rfl) ?_
      refine tX9_isLetter (hT _).2 (fun hl => ?_) (fun hl => ?_)
      · -- true
        refine J_if_eq (tgt := 96) dX9_advance_86 (by decide) (fun c4 => ?_) (fun c4 => ?_)
        · -- to 96
          exact absurd c4 (by decide)
        · -- on 89
          refine J_aload_n dX9_advance_89 rfl ?_
          refine M_callV0 (mc := mX9_readWord) dX9_advance_90 kX9_48 oX9_readWord (Nat.le_of_ble_eq_true rfl) (Nat.le_of_ble_eq_true rfl) rfl (by decide) rfl ?_
          refine tX9_readWord (d := d) hLet hn hnb hT hsn hl (by rw [updN (by decide), updN (by decide)]; exact hg1) (by rw [updN (by decide), updS]) updS (fun g2 k2 => ?_)
          refine J_goto (tgt := 136) dX9_advance_93 (by decide) ?_
          try rw [wa_wr]
          refine M_vret dX9_advance_136 rfl ?_
          first
          | exact h g2 k2
          | (rw [lexT.lexA, if_neg (by rw [hl]; decide), if_neg (by rw [hd]; decide), if_pos hsg] at h
             have hz := sgn_e hsg
             exact h _ ⟨by rw [updN (by decide), updN (by decide), updN (by decide), updS], updS, fun _ => by rw [updN (by decide), updS], fun q => absurd (show T s = 2 from q) (by omega), fun q => absurd (show T s = 3 from q) (by omega)⟩)
          | (rw [lexT.lexA, if_neg (by rw [hl]; decide), if_neg (by rw [hd]; decide), if_neg (by rw [hsg]; decide)] at h
             exact h _ ⟨by rw [updN (by decide), updN (by decide), updN (by decide), updS], updS, fun q => absurd rfl q, fun q => absurd (show (1 : Nat) = 2 from q) (by decide), fun q => absurd (show (1 : Nat) = 3 from q) (by decide)⟩)
      · -- false
        refine J_if_eq (tgt := 96) dX9_advance_86 (by decide) (fun c6 => ?_) (fun c6 => ?_)
        · -- to 96
          refine J_iload_n dX9_advance_96 rfl ?_
          refine M_callS1 (mc := mX9_isDigit) dX9_advance_97 kX9_51 oX9_isDigit (Nat.le_of_ble_eq_true rfl) (Nat.le_of_ble_eq_true rfl) ?_
          refine tX9_isDigit (hT _).2 (fun hd => ?_) (fun hd => ?_)
          · -- true
            refine J_if_eq (tgt := 110) dX9_advance_100 (by decide) (fun c8 => ?_) (fun c8 => ?_)
            · -- to 110
              exact absurd c8 (by decide)
            · -- on 103
              refine J_aload_n dX9_advance_103 rfl ?_
              refine M_callV0 (mc := mX9_readNumber) dX9_advance_104 kX9_54 oX9_readNumber (Nat.le_of_ble_eq_true rfl) (Nat.le_of_ble_eq_true rfl) rfl (by decide) rfl ?_
              refine tX9_readNumber (d := d) hn hnb hT hsn hd (by rw [updN (by decide), updN (by decide)]; exact hg1) (by rw [updN (by decide), updS]) (fun g2 k2 => ?_)
              refine J_goto (tgt := 136) dX9_advance_107 (by decide) ?_
              try rw [wa_wr]
              refine M_vret dX9_advance_136 rfl ?_
              first
              | exact h g2 k2
              | (rw [lexT.lexA, if_neg (by rw [hl]; decide), if_neg (by rw [hd]; decide), if_pos hsg] at h
                 have hz := sgn_e hsg
                 exact h _ ⟨by rw [updN (by decide), updN (by decide), updN (by decide), updS], updS, fun _ => by rw [updN (by decide), updS], fun q => absurd (show T s = 2 from q) (by omega), fun q => absurd (show T s = 3 from q) (by omega)⟩)
              | (rw [lexT.lexA, if_neg (by rw [hl]; decide), if_neg (by rw [hd]; decide), if_neg (by rw [hsg]; decide)] at h
                 exact h _ ⟨by rw [updN (by decide), updN (by decide), updN (by decide), updS], updS, fun q => absurd rfl q, fun q => absurd (show (1 : Nat) = 2 from q) (by decide), fun q => absurd (show (1 : Nat) = 3 from q) (by decide)⟩)
          · -- false
            refine J_if_eq (tgt := 110) dX9_advance_100 (by decide) (fun c10 => ?_) (fun c10 => ?_)
            · -- to 110
              refine J_aload_n dX9_advance_110 rfl ?_
              refine J_dup dX9_advance_111 rfl ?_
              refine M_getI dX9_advance_112 fX9_25 rfl rfl (by decide) ?_
              rw [rda, updN (by decide), updN (by decide), hg1]
              refine J_iconst (v := 1) dX9_advance_115 (by decide) ?_
              refine J_iadd dX9_advance_116 ?_
              rw [nI_1]
              refine M_putI dX9_advance_117 pX9_25 rfl rfl (by decide) ?_
              rw [wa_wr]
              refine J_aload_n dX9_advance_120 rfl ?_
              refine J_iload_n dX9_advance_121 rfl ?_
              refine M_callS1 (mc := mX9_isSign) dX9_advance_122 kX9_57 oX9_isSign (Nat.le_of_ble_eq_true rfl) (Nat.le_of_ble_eq_true rfl) ?_
              refine tX9_isSign (hT _).2 (fun hsg => ?_) (fun hsg => ?_)
              · -- true
                refine J_if_eq (tgt := 132) dX9_advance_125 (by decide) (fun c12 => ?_) (fun c12 => ?_)
                · -- to 132
                  exact absurd c12 (by decide)
                · -- on 128
                  refine J_iload_n dX9_advance_128 rfl ?_
                  refine J_goto (tgt := 133) dX9_advance_129 (by decide) ?_
                  refine M_putI dX9_advance_133 pX9_19 rfl rfl (by decide) ?_
                  try rw [wa_wr]
                  refine M_vret dX9_advance_136 rfl ?_
                  first
                  | exact h g2 k2
                  | (rw [lexT.lexA, if_neg (by rw [hl]; decide), if_neg (by rw [hd]; decide), if_pos hsg] at h
                     have hz := sgn_e hsg
                     exact h _ ⟨by rw [updN (by decide), updN (by decide), updN (by decide), updS], updS, fun _ => by rw [updN (by decide), updS], fun q => absurd (show T s = 2 from q) (by omega), fun q => absurd (show T s = 3 from q) (by omega)⟩)
                  | (rw [lexT.lexA, if_neg (by rw [hl]; decide), if_neg (by rw [hd]; decide), if_neg (by rw [hsg]; decide)] at h
                     exact h _ ⟨by rw [updN (by decide), updN (by decide), updN (by decide), updS], updS, fun q => absurd rfl q, fun q => absurd (show (1 : Nat) = 2 from q) (by decide), fun q => absurd (show (1 : Nat) = 3 from q) (by decide)⟩)
              · -- false
                refine J_if_eq (tgt := 132) dX9_advance_125 (by decide) (fun c13 => ?_) (fun c13 => ?_)
                · -- to 132
                  refine J_iconst (v := 1) dX9_advance_132 (by decide) ?_
                  refine M_putI dX9_advance_133 pX9_19 rfl rfl (by decide) ?_
                  try rw [wa_wr]
                  refine M_vret dX9_advance_136 rfl ?_
                  first
                  | exact h g2 k2
                  | (rw [lexT.lexA, if_neg (by rw [hl]; decide), if_neg (by rw [hd]; decide), if_pos hsg] at h
                     have hz := sgn_e hsg
                     exact h _ ⟨by rw [updN (by decide), updN (by decide), updN (by decide), updS], updS, fun _ => by rw [updN (by decide), updS], fun q => absurd (show T s = 2 from q) (by omega), fun q => absurd (show T s = 3 from q) (by omega)⟩)
                  | (rw [lexT.lexA, if_neg (by rw [hl]; decide), if_neg (by rw [hd]; decide), if_neg (by rw [hsg]; decide)] at h
                     exact h _ ⟨by rw [updN (by decide), updN (by decide), updN (by decide), updS], updS, fun q => absurd rfl q, fun q => absurd (show (1 : Nat) = 2 from q) (by decide), fun q => absurd (show (1 : Nat) = 3 from q) (by decide)⟩)
                · -- on 128
                  exact absurd c13 (by decide)
            · -- on 103
              exact absurd c10 (by decide)
        · -- on 89
          exact absurd c6 (by decide)
    · -- on 74
      exact absurd c2 (tp_ne (by have := (hT s).2; omega))
set_option maxRecDepth 100000 in
set_option maxHeartbeats 1000000 in
theorem tX9_advance {d : Nat} {M : Mem} {Φ : Option Int32 → Mem → Prop} {n : Nat} {T : Nat → Nat} {p : Nat} (hLet : LetOK) (hn : M.1 13 1 = nI n) (hnb : n ≤ 1000) (hT : ∀ i, M.1 14 i = nI (T i) ∧ T i < 256) (hp : p ≤ n) (hg1 : M.1 26 1 = nI p) (h : ∀ g2, TkC g2 (lexT T n p) → Φ none (wa M 26 g2)) : JM noRo (d + 9) mX9_advance 0 [some (.ref 26)] [] M Φ := by
  have q := tX9_adv_l (d := d) (Φ := Φ) hn hnb hT (n - p) p (M.1 26) (by omega) hg1 (fun g2 a1 => tX9_adv_e (s := rnP blk T (n - p) p) hLet hn hnb hT (by have := (rn_at (P := blk) (T := T) (n - p) p).2.1; omega) a1 h)
  rw [wa_self] at q
  exact q
set_option maxRecDepth 100000 in
set_option maxHeartbeats 1000000 in
theorem tX9_begin {d : Nat} {M : Mem} {Φ : Option Int32 → Mem → Prop} {n : Nat} {T : Nat → Nat} (hLet : LetOK) (hn : M.1 13 1 = nI n) (hnb : n ≤ 1000) (hT : ∀ i, M.1 14 i = nI (T i) ∧ T i < 256) (h : ∀ g2, TkC g2 (lexT T n 0) → Φ none (wa M 26 g2)) : JM noRo (d + 10) mX9_begin 0 [some (.ref 26)] [] M Φ := by
  refine J_aload_n dX9_begin_0 rfl ?_
  refine J_iconst (v := 0) dX9_begin_1 (by decide) ?_
  refine M_putI dX9_begin_2 pX9_25 rfl rfl (by decide) ?_
  refine J_aload_n dX9_begin_5 rfl ?_
  refine M_callV0 (mc := mX9_advance) dX9_begin_6 kX9_28 oX9_advance (Nat.le_of_ble_eq_true rfl) (Nat.le_of_ble_eq_true rfl) rfl (by decide) rfl ?_
  refine tX9_advance (p := 0) (n := n) (T := T) hLet (by rw [rd2 (by decide)]; exact hn) hnb (by rw [rd2 (by decide)]; exact hT) (Nat.zero_le _) rd1 (fun g2 k2 => ?_)
  rw [wr_wa, wa_wa]
  refine M_vret dX9_begin_9 rfl ?_
  exact h g2 k2

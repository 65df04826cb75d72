set_option maxRecDepth 100000 in
set_option maxHeartbeats 1000000 in
theorem tX9_rw_l {d : Nat} {M : Mem} {Φ : Option Int32 → Mem → Prop} {n : Nat} {T : Nat → Nat} (hn : M.1 13 1 = nI n) (hnb : n ≤ 1000) (hT : ∀ i, M.1 14 i = nI (T i) ∧ T i < 256) : ∀ k p g, p + k = n → g 1 = nI p → (∀ g2, g2 1 = nI (rnP aln T k p) → g2 2 = g 2 → g2 3 = g 3 → g2 4 = g 4 → JM noRo (d + 8) mX9_readWord 61 [some (.ref 26)] [] (wa M 26 g2) Φ) → JM noRo (d + 8) mX9_readWord 0 [some (.ref 26)] [] (wa M 26 g) Φ := by
  intro k
  induction k with
  | zero =>
    intro p g hp hg1 h
    refine J_aload_n dX9_readWord_0 rfl ?_
    refine M_getI dX9_readWord_1 fX9_25 rfl rfl (by decide) ?_
    rw [rda, hg1]
    refine J_aload_n dX9_readWord_4 rfl ?_
    refine M_getR dX9_readWord_5 fX9_9 rfl rfl (by decide) ?_
    refine M_callV0 (mc := mX8_length) dX9_readWord_8 kX9_31 oX8_length (Nat.le_of_ble_eq_true rfl) (Nat.le_of_ble_eq_true rfl) rfl (by decide) rfl ?_
    refine tX8_len ?_
    rw [rdb (by decide), hn]
    refine J_icmp_ge (tgt := 61) dX9_readWord_11 (by decide) (fun c2 => ?_) (fun c2 => ?_)
    · -- to 61
      exact h g hg1 rfl rfl rfl
    · -- on 14
      exact absurd (nI_le (by omega) (by omega)) c2
  | succ k ih =>
    intro p g hp hg1 h
    refine J_aload_n dX9_readWord_0 rfl ?_
    refine M_getI dX9_readWord_1 fX9_25 rfl rfl (by decide) ?_
    rw [rda, hg1]
    refine J_aload_n dX9_readWord_4 rfl ?_
    refine M_getR dX9_readWord_5 fX9_9 rfl rfl (by decide) ?_
    refine M_callV0 (mc := mX8_length) dX9_readWord_8 kX9_31 oX8_length (Nat.le_of_ble_eq_true rfl) (Nat.le_of_ble_eq_true rfl) rfl (by decide) rfl ?_
    refine tX8_len ?_
    rw [rdb (by decide), hn]
    refine J_icmp_ge (tgt := 61) dX9_readWord_11 (by decide) (fun c2 => ?_) (fun c2 => ?_)
    · -- to 61
      exact absurd c2 (nI_ge (by omega) (by omega))
    · -- on 14
      refine J_aload_n dX9_readWord_14 rfl ?_
      refine M_getR dX9_readWord_15 fX9_9 rfl rfl (by decide) ?_
      refine J_aload_n dX9_readWord_18 rfl ?_
      refine M_getI dX9_readWord_19 fX9_25 rfl rfl (by decide) ?_
      rw [rda, hg1]
      refine M_callV1 (mc := mX8_at) dX9_readWord_22 kX9_37 oX8_at (Nat.le_of_ble_eq_true rfl) (Nat.le_of_ble_eq_true rfl) rfl (by decide) rfl ?_
      refine tX8_atN (n := n) (by rw [rdb (by decide)]; exact hn) hnb (by omega) (fun hq => ?_) (fun hq => absurd (by omega) hq)
      rw [rdb (by decide), (hT _).1]
      refine M_callS1 (mc := mX9_isLetter) dX9_readWord_25 kX9_45 oX9_isLetter (Nat.le_of_ble_eq_true rfl) (Nat.le_of_ble_eq_true rfl) ?_
      refine tX9_isLetter (hT _).2 (fun hl => ?_) (fun hl => ?_)
      · -- true
        refine J_if_ne (tgt := 48) dX9_readWord_28 (by decide) (fun c5 => ?_) (fun c5 => ?_)
        · -- to 48
          refine J_aload_n dX9_readWord_48 rfl ?_
          refine J_dup dX9_readWord_49 rfl ?_
          refine M_getI dX9_readWord_50 fX9_25 rfl rfl (by decide) ?_
          rw [rda, hg1]
          refine J_iconst (v := 1) dX9_readWord_53 (by decide) ?_
          refine J_iadd dX9_readWord_54 ?_
          rw [nI_1]
          refine M_putI dX9_readWord_55 pX9_25 rfl rfl (by decide) ?_
          rw [wa_wr]
          refine J_goto (tgt := 0) dX9_readWord_58 (by decide) ?_
          have hal : aln (T p) = true := by unfold aln; first | (rw [hl]; rfl) | (rw [hd, Bool.or_true])
          refine ih (p + 1) _ (by omega) (updS) (fun g2 a1 a2 a3 a4 => h g2 ?_ ?_ ?_ ?_)
          · rw [rn_y hal]; exact a1
          · rw [a2, updN (by decide)]
          · rw [a3, updN (by decide)]
          · rw [a4, updN (by decide)]
        · -- on 31
          exact absurd c5 (by decide)
      · -- false
        refine J_if_ne (tgt := 48) dX9_readWord_28 (by decide) (fun c6 => ?_) (fun c6 => ?_)
        · -- to 48
          exact absurd c6 (by decide)
        · -- on 31
          refine J_aload_n dX9_readWord_31 rfl ?_
          refine M_getR dX9_readWord_32 fX9_9 rfl rfl (by decide) ?_
          refine J_aload_n dX9_readWord_35 rfl ?_
          refine M_getI dX9_readWord_36 fX9_25 rfl rfl (by decide) ?_
          rw [rda, hg1]
          refine M_callV1 (mc := mX8_at) dX9_readWord_39 kX9_37 oX8_at (Nat.le_of_ble_eq_true rfl) (Nat.le_of_ble_eq_true rfl) rfl (by decide) rfl ?_
          refine tX8_atN (n := n) (by rw [rdb (by decide)]; exact hn) hnb (by omega) (fun hq => ?_) (fun hq => absurd (by omega) hq)
          rw [rdb (by decide), (hT _).1]
          refine M_callS1 (mc := mX9_isDigit) dX9_readWord_42 kX9_51 oX9_isDigit (Nat.le_of_ble_eq_true rfl) (Nat.le_of_ble_eq_true rfl) ?_
          refine tX9_isDigit (hT _).2 (fun hd => ?_) (fun hd => ?_)
          · -- true
            refine J_if_eq (tgt := 61) dX9_readWord_45 (by decide) (fun c9 => ?_) (fun c9 => ?_)
            · -- to 61
              exact absurd c9 (by decide)
            · -- on 48
              refine J_aload_n dX9_readWord_48 rfl ?_
              refine J_dup dX9_readWord_49 rfl ?_
              refine M_getI dX9_readWord_50 fX9_25 rfl rfl (by decide) ?_
              rw [rda, hg1]
              refine J_iconst (v := 1) dX9_readWord_53 (by decide) ?_
              refine J_iadd dX9_readWord_54 ?_
              rw [nI_1]
              refine M_putI dX9_readWord_55 pX9_25 rfl rfl (by decide) ?_
              rw [wa_wr]
              refine J_goto (tgt := 0) dX9_readWord_58 (by decide) ?_
              have hal : aln (T p) = true := by unfold aln; first | (rw [hl]; rfl) | (rw [hd, Bool.or_true])
              refine ih (p + 1) _ (by omega) (updS) (fun g2 a1 a2 a3 a4 => h g2 ?_ ?_ ?_ ?_)
              · rw [rn_y hal]; exact a1
              · rw [a2, updN (by decide)]
              · rw [a3, updN (by decide)]
              · rw [a4, updN (by decide)]
          · -- false
            refine J_if_eq (tgt := 61) dX9_readWord_45 (by decide) (fun c10 => ?_) (fun c10 => ?_)
            · -- to 61
              refine h g ?_ rfl rfl rfl
              rw [rn_n (by unfold aln; rw [hl, hd]; rfl)]; exact hg1
            · -- on 48
              exact absurd c10 (by decide)
theorem rnA {T : Nat → Nat} {n s : Nat} (hs : s < n) (hl : ltr (T s) = true) : s < rnP aln T (n - s) s := by
  obtain ⟨k, hk⟩ : ∃ k, n - s = k + 1 := ⟨n - s - 1, by omega⟩
  rw [hk, rn_y (by unfold aln; rw [hl]; rfl)]
  have := (rn_at (P := aln) (T := T) k (s + 1)).1
  omega
set_option maxRecDepth 100000 in
set_option maxHeartbeats 1000000 in
theorem tX9_rw_e {d : Nat} {M : Mem} {Φ : Option Int32 → Mem → Prop} {n : Nat} {T : Nat → Nat} {s e : Nat} {g : Nat → Int32} (hLet : LetOK) (hn : M.1 13 1 = nI n) (hnb : n ≤ 1000) (hT : ∀ i, M.1 14 i = nI (T i) ∧ T i < 256) (hs : s < n) (hl : ltr (T s) = true) (he : e = rnP aln T (n - s) s) (hg1 : g 1 = nI e) (hg2 : g 2 = nI s) (hg4 : g 4 = -1) (h : ∀ g2, TkC g2 (lexT.lexA T n s) → Φ none (wa M 26 g2)) : JM noRo (d + 8) mX9_readWord 61 [some (.ref 26)] [] (wa M 26 g) Φ := by
  have hr := rn_at (P := aln) (T := T) (n - s) s
  have hse : s < e := by rw [he]; exact rnA hs hl
  rw [← he] at hr
  have hA : ∀ i, s ≤ i → i < e → aln (T i) = true := hr.2.2.1
  rw [lexT.lexA, if_pos hl, ← he] at h
  by_cases h8 : 8 < e - s
  · rw [if_pos h8] at h
    refine J_aload_n dX9_readWord_61 rfl ?_
    refine M_getI dX9_readWord_62 fX9_25 rfl rfl (by decide) ?_
    rw [rda, hg1]
    refine J_aload_n dX9_readWord_65 rfl ?_
    refine M_getI dX9_readWord_66 fX9_15 rfl rfl (by decide) ?_
    rw [rda, hg2]
    refine J_isub dX9_readWord_69 ?_
    rw [pk_sub (by omega)]
    refine J_bipush (v := 8) dX9_readWord_70 (by decide) ?_
    refine J_icmp_le (tgt := 81) dX9_readWord_72 (by decide) (fun c1 => ?_) (fun c1 => ?_)
    · -- to 81
      exact absurd c1 (nI_ge (a := 8) (by omega) (by omega))
    · -- on 75
      refine J_aload_n dX9_readWord_75 rfl ?_
      refine J_iconst (v := 1) dX9_readWord_76 (by decide) ?_
      refine M_putI dX9_readWord_77 pX9_19 rfl rfl (by decide) ?_
      rw [wa_wr]
      refine M_vret dX9_readWord_80 rfl ?_
      exact h _ ⟨by rw [updN (by decide)]; exact hg2, updS, fun q => absurd rfl q, fun q => absurd (show (1 : Nat) = 2 from q) (by decide), fun q => absurd (show (1 : Nat) = 3 from q) (by decide)⟩
  · rw [if_neg h8] at h
    unfold lexT.lexW at h
    generalize hgw : fnd (wn T s (e - s)) 19 0 = w0 at h
    have hf := fnd_at (N := wn T s (e - s)) 19 0
    rw [hgw] at hf
    by_cases hw : w0 < 14
    · rw [if_pos hw] at h
      have hv : vI w0 = nI w0 := if_pos hw
      refine J_aload_n dX9_readWord_61 rfl ?_
      refine M_getI dX9_readWord_62 fX9_25 rfl rfl (by decide) ?_
      rw [rda, hg1]
      refine J_aload_n dX9_readWord_65 rfl ?_
      refine M_getI dX9_readWord_66 fX9_15 rfl rfl (by decide) ?_
      rw [rda, hg2]
      refine J_isub dX9_readWord_69 ?_
      rw [pk_sub (by omega)]
      refine J_bipush (v := 8) dX9_readWord_70 (by decide) ?_
      refine J_icmp_le (tgt := 81) dX9_readWord_72 (by decide) (fun c1 => ?_) (fun c1 => ?_)
      · -- to 81
        refine J_aload_n dX9_readWord_81 rfl ?_
        refine M_callV0 (mc := mX9_wordNumber) dX9_readWord_82 kX9_60 oX9_wordNumber (Nat.le_of_ble_eq_true rfl) (Nat.le_of_ble_eq_true rfl) rfl (by decide) rfl ?_
        refine tX9_wn (d := d) hLet hn hnb hT hg1 hg2 (by omega) (by omega) (by omega) hA ?_
        rw [hgw, vF, if_neg (by omega)]
        refine J_istore_n dX9_readWord_85 (by decide) rfl ?_
        dsimp only [setL]
        refine J_iload_n dX9_readWord_86 rfl ?_
        refine J_bipush (v := 14) dX9_readWord_87 (by decide) ?_
        refine J_icmp_ge (tgt := 105) dX9_readWord_89 (by decide) (fun c3 => ?_) (fun c3 => ?_)
        · -- to 105
          exact absurd c3 (nI_ge (b := 14) hw (by decide))
        · -- on 92
          refine J_aload_n dX9_readWord_92 rfl ?_
          refine J_iconst (v := 3) dX9_readWord_93 (by decide) ?_
          refine M_putI dX9_readWord_94 pX9_19 rfl rfl (by decide) ?_
          rw [wa_wr]
          refine J_aload_n dX9_readWord_97 rfl ?_
          refine J_iload_n dX9_readWord_98 rfl ?_
          refine M_putI dX9_readWord_99 pX9_22 rfl rfl (by decide) ?_
          rw [wa_wr]
          refine J_goto (tgt := 110) dX9_readWord_102 (by decide) ?_
          try rw [wa_wr]
          refine M_vret dX9_readWord_110 rfl ?_
          exact h _ ⟨by rw [updN (by decide), updN (by decide)]; exact hg2, by rw [updN (by decide), updS]; rfl, fun _ => by rw [updN (by decide), updN (by decide)]; exact hg1, fun q => absurd (show (3 : Nat) = 2 from q) (by decide), fun _ => by rw [updS]; exact hv.symm⟩
      · -- on 75
        exact absurd (nI_le (b := 8) (by omega) (by decide)) c1
    · rw [if_neg hw] at h
      by_cases hw : w0 = 99
      · rw [if_pos hw] at h
        have hv : vI 99 = -1 := rfl
        refine J_aload_n dX9_readWord_61 rfl ?_
        refine M_getI dX9_readWord_62 fX9_25 rfl rfl (by decide) ?_
        rw [rda, hg1]
        refine J_aload_n dX9_readWord_65 rfl ?_
        refine M_getI dX9_readWord_66 fX9_15 rfl rfl (by decide) ?_
        rw [rda, hg2]
        refine J_isub dX9_readWord_69 ?_
        rw [pk_sub (by omega)]
        refine J_bipush (v := 8) dX9_readWord_70 (by decide) ?_
        refine J_icmp_le (tgt := 81) dX9_readWord_72 (by decide) (fun c1 => ?_) (fun c1 => ?_)
        · -- to 81
          refine J_aload_n dX9_readWord_81 rfl ?_
          refine M_callV0 (mc := mX9_wordNumber) dX9_readWord_82 kX9_60 oX9_wordNumber (Nat.le_of_ble_eq_true rfl) (Nat.le_of_ble_eq_true rfl) rfl (by decide) rfl ?_
          refine tX9_wn (d := d) hLet hn hnb hT hg1 hg2 (by omega) (by omega) (by omega) hA ?_
          rw [hgw, hw, show vF 99 = -1 from rfl]
          refine J_istore_n dX9_readWord_85 (by decide) rfl ?_
          dsimp only [setL]
          refine J_iload_n dX9_readWord_86 rfl ?_
          refine J_bipush (v := 14) dX9_readWord_87 (by decide) ?_
          refine J_icmp_ge (tgt := 105) dX9_readWord_89 (by decide) (fun c3 => ?_) (fun c3 => ?_)
          · -- to 105
            exact absurd c3 (by decide)
          · -- on 92
            refine J_aload_n dX9_readWord_92 rfl ?_
            refine J_iconst (v := 3) dX9_readWord_93 (by decide) ?_
            refine M_putI dX9_readWord_94 pX9_19 rfl rfl (by decide) ?_
            rw [wa_wr]
            refine J_aload_n dX9_readWord_97 rfl ?_
            refine J_iload_n dX9_readWord_98 rfl ?_
            refine M_putI dX9_readWord_99 pX9_22 rfl rfl (by decide) ?_
            rw [wa_wr]
            refine J_goto (tgt := 110) dX9_readWord_102 (by decide) ?_
            try rw [wa_wr]
            refine M_vret dX9_readWord_110 rfl ?_
            exact h _ ⟨by rw [updN (by decide), updN (by decide)]; exact hg2, by rw [updN (by decide), updS]; rfl, fun _ => by rw [updN (by decide), updN (by decide)]; exact hg1, fun q => absurd (show (3 : Nat) = 2 from q) (by decide), fun _ => by rw [updS]; exact hv.symm⟩
        · -- on 75
          exact absurd (nI_le (b := 8) (by omega) (by decide)) c1
      · rw [if_neg hw] at h
        have hf2 := hf.resolve_left hw
        refine J_aload_n dX9_readWord_61 rfl ?_
        refine M_getI dX9_readWord_62 fX9_25 rfl rfl (by decide) ?_
        rw [rda, hg1]
        refine J_aload_n dX9_readWord_65 rfl ?_
        refine M_getI dX9_readWord_66 fX9_15 rfl rfl (by decide) ?_
        rw [rda, hg2]
        refine J_isub dX9_readWord_69 ?_
        rw [pk_sub (by omega)]
        refine J_bipush (v := 8) dX9_readWord_70 (by decide) ?_
        refine J_icmp_le (tgt := 81) dX9_readWord_72 (by decide) (fun c1 => ?_) (fun c1 => ?_)
        · -- to 81
          refine J_aload_n dX9_readWord_81 rfl ?_
          refine M_callV0 (mc := mX9_wordNumber) dX9_readWord_82 kX9_60 oX9_wordNumber (Nat.le_of_ble_eq_true rfl) (Nat.le_of_ble_eq_true rfl) rfl (by decide) rfl ?_
          refine tX9_wn (d := d) hLet hn hnb hT hg1 hg2 (by omega) (by omega) (by omega) hA ?_
          rw [hgw, vF, if_neg (by omega)]
          refine J_istore_n dX9_readWord_85 (by decide) rfl ?_
          dsimp only [setL]
          refine J_iload_n dX9_readWord_86 rfl ?_
          refine J_bipush (v := 14) dX9_readWord_87 (by decide) ?_
          refine J_icmp_ge (tgt := 105) dX9_readWord_89 (by decide) (fun c3 => ?_) (fun c3 => ?_)
          · -- to 105
            refine J_aload_n dX9_readWord_105 rfl ?_
            refine J_iload_n dX9_readWord_106 rfl ?_
            refine M_putI dX9_readWord_107 pX9_19 rfl rfl (by decide) ?_
            try rw [wa_wr]
            refine M_vret dX9_readWord_110 rfl ?_
            exact h _ ⟨by rw [updN (by decide)]; exact hg2, updS, fun _ => by rw [updN (by decide)]; exact hg1, fun q => absurd (show w0 = 2 from q) (by omega), fun q => absurd (show w0 = 3 from q) (by omega)⟩
          · -- on 92
            exact absurd (nI_le (a := 14) (by omega) (by omega)) c3
        · -- on 75
          exact absurd (nI_le (b := 8) (by omega) (by decide)) c1
set_option maxRecDepth 100000 in
set_option maxHeartbeats 1000000 in
theorem tX9_readWord {d : Nat} {M : Mem} {Φ : Option Int32 → Mem → Prop} {n : Nat} {T : Nat → Nat} {s : Nat} {g : Nat → Int32} (hLet : LetOK) (hn : M.1 13 1 = nI n) (hnb : n ≤ 1000) (hT : ∀ i, M.1 14 i = nI (T i) ∧ T i < 256) (hs : s < n) (hl : ltr (T s) = true) (hg1 : g 1 = nI s) (hg2 : g 2 = nI s) (hg4 : g 4 = -1) (h : ∀ g2, TkC g2 (lexT.lexA T n s) → Φ none (wa M 26 g2)) : JM noRo (d + 8) mX9_readWord 0 [some (.ref 26)] [] (wa M 26 g) Φ := by
  refine tX9_rw_l hn hnb hT (n - s) s g (by omega) hg1 (fun g2 a1 a2 a3 a4 => ?_)
  exact tX9_rw_e hLet hn hnb hT hs hl rfl a1 (a2.trans hg2) (a4.trans hg4) h

theorem vn_lt {T : Nat → Nat} {s : Nat} : ∀ k, (∀ i, i < k → dgt (T (s + i)) = true) → vn T s k < 10 ^ k
  | 0, _ => Nat.one_pos
  | k + 1, h => by
    have z := vn_lt k (fun i hi => h i (by omega))
    have d := h k (by omega)
    unfold dgt at d
    rw [Bool.and_eq_true, decide_eq_true_eq, decide_eq_true_eq] at d
    rw [vn, Nat.pow_succ]
    omega
theorem pow_6 {k : Nat} (h : k ≤ 6) : 10 ^ k ≤ 1000000 := by
  have : 10 ^ k ≤ 10 ^ 6 := Nat.pow_le_pow_right (by decide) h
  exact this
theorem vn_6 {T : Nat → Nat} {s k : Nat} (hk : k ≤ 6) (h : ∀ i, i < k → dgt (T (s + i)) = true) : vn T s k < 1000000 := Nat.lt_of_lt_of_le (vn_lt k h) (pow_6 hk)
/-- the number so far -/
def NumS (T : Nat → Nat) (s p : Nat) (x : Int32) : Prop := p - s ≤ 6 → x = nI (vn T s (p - s))
theorem NumS.st {T : Nat → Nat} {s p : Nat} {x : Int32} (hsp : s ≤ p) (hd : ∀ i, s ≤ i → i < p → dgt (T i) = true) (h1 : dgt (T p) = true) (h : NumS T s p x) : NumS T s (p + 1) (x * 10 + nI (T p) - 48) := by
  intro q
  rw [h (by omega), show (10 : Int32) = nI 10 from rfl, show (48 : Int32) = nI 48 from rfl, pk_mul, nI_add, pk_sub (by
    unfold dgt at h1
    rw [Bool.and_eq_true, decide_eq_true_eq, decide_eq_true_eq] at h1
    omega), show p + 1 - s = (p - s) + 1 by omega, vn, show s + (p - s) = p by omega]
  unfold dgt at h1
  rw [Bool.and_eq_true, decide_eq_true_eq, decide_eq_true_eq] at h1
  congr 1
  omega
theorem dgt_ltr {c : Nat} (h : dgt c = true) : ltr c = false := by
  unfold dgt at h
  unfold ltr
  rw [Bool.and_eq_true, decide_eq_true_eq, decide_eq_true_eq] at h
  rw [decide_eq_false (by omega)]
  rfl
set_option maxRecDepth 100000 in
set_option maxHeartbeats 1000000 in
theorem tX9_rn_l {d : Nat} {M : Mem} {Φ : Option Int32 → Mem → Prop} {n : Nat} {T : Nat → Nat} {s : Nat} (hn : M.1 13 1 = nI n) (hnb : n ≤ 1000) (hT : ∀ i, M.1 14 i = nI (T i) ∧ T i < 256) : ∀ k p g, p + k = n → g 1 = nI p → s ≤ p → (∀ i, s ≤ i → i < p → dgt (T i) = true) → NumS T s p (g 4) → (∀ g2, g2 1 = nI (rnP dgt T k p) → g2 2 = g 2 → NumS T s (rnP dgt T k p) (g2 4) → JM noRo (d + 8) mX9_readNumber 75 [some (.ref 26)] [] (wa M 26 g2) Φ) → JM noRo (d + 8) mX9_readNumber 5 [some (.ref 26)] [] (wa M 26 g) Φ := by
  intro k
  induction k with
  | zero =>
    intro p g hp hg1 hsp hds hx h
    refine J_aload_n dX9_readNumber_5 rfl ?_
    refine M_getI dX9_readNumber_6 fX9_25 rfl rfl (by decide) ?_
    rw [rda, hg1]
    refine J_aload_n dX9_readNumber_9 rfl ?_
    refine M_getR dX9_readNumber_10 fX9_9 rfl rfl (by decide) ?_
    refine M_callV0 (mc := mX8_length) dX9_readNumber_13 kX9_31 oX8_length (Nat.le_of_ble_eq_true rfl) (Nat.le_of_ble_eq_true rfl) rfl (by decide) rfl ?_
    refine tX8_len ?_
    rw [rdb (by decide), hn]
    refine J_icmp_ge (tgt := 75) dX9_readNumber_16 (by decide) (fun c2 => ?_) (fun c2 => ?_)
    · -- to 75
      exact h g hg1 rfl hx
    · -- on 19
      exact absurd (nI_le (by omega) (by omega)) c2
  | succ k ih =>
    intro p g hp hg1 hsp hds hx h
    refine J_aload_n dX9_readNumber_5 rfl ?_
    refine M_getI dX9_readNumber_6 fX9_25 rfl rfl (by decide) ?_
    rw [rda, hg1]
    refine J_aload_n dX9_readNumber_9 rfl ?_
    refine M_getR dX9_readNumber_10 fX9_9 rfl rfl (by decide) ?_
    refine M_callV0 (mc := mX8_length) dX9_readNumber_13 kX9_31 oX8_length (Nat.le_of_ble_eq_true rfl) (Nat.le_of_ble_eq_true rfl) rfl (by decide) rfl ?_
    refine tX8_len ?_
    rw [rdb (by decide), hn]
    refine J_icmp_ge (tgt := 75) dX9_readNumber_16 (by decide) (fun c2 => ?_) (fun c2 => ?_)
    · -- to 75
      exact absurd c2 (nI_ge (by omega) (by omega))
    · -- on 19
      refine J_aload_n dX9_readNumber_19 rfl ?_
      refine M_getR dX9_readNumber_20 fX9_9 rfl rfl (by decide) ?_
      refine J_aload_n dX9_readNumber_23 rfl ?_
      refine M_getI dX9_readNumber_24 fX9_25 rfl rfl (by decide) ?_
      rw [rda, hg1]
      refine M_callV1 (mc := mX8_at) dX9_readNumber_27 kX9_37 oX8_at (Nat.le_of_ble_eq_true rfl) (Nat.le_of_ble_eq_true rfl) rfl (by decide) rfl ?_
      refine tX8_atN (n := n) (by rw [rdb (by decide)]; exact hn) hnb (by omega) (fun hq => ?_) (fun hq => absurd (by omega) hq)
      rw [rdb (by decide), (hT _).1]
      refine M_callS1 (mc := mX9_isDigit) dX9_readNumber_30 kX9_51 oX9_isDigit (Nat.le_of_ble_eq_true rfl) (Nat.le_of_ble_eq_true rfl) ?_
      refine tX9_isDigit (hT _).2 (fun hd => ?_) (fun hd => ?_)
      · -- true
        refine J_if_eq (tgt := 75) dX9_readNumber_33 (by decide) (fun c5 => ?_) (fun c5 => ?_)
        · -- to 75
          exact absurd c5 (by decide)
        · -- on 36
          refine J_aload_n dX9_readNumber_36 rfl ?_
          refine J_aload_n dX9_readNumber_37 rfl ?_
          refine M_getI dX9_readNumber_38 fX9_22 rfl rfl (by decide) ?_
          rw [rda]
          refine J_bipush (v := 10) dX9_readNumber_41 (by decide) ?_
          refine J_imul dX9_readNumber_43 ?_
          refine J_aload_n dX9_readNumber_44 rfl ?_
          refine M_getR dX9_readNumber_45 fX9_9 rfl rfl (by decide) ?_
          refine J_aload_n dX9_readNumber_48 rfl ?_
          refine M_getI dX9_readNumber_49 fX9_25 rfl rfl (by decide) ?_
          rw [rda, hg1]
          refine M_callV1 (mc := mX8_at) dX9_readNumber_52 kX9_37 oX8_at (Nat.le_of_ble_eq_true rfl) (Nat.le_of_ble_eq_true rfl) rfl (by decide) rfl ?_
          refine tX8_atN (n := n) (by rw [rdb (by decide)]; exact hn) hnb (by omega) (fun hq => ?_) (fun hq => absurd (by omega) hq)
          rw [rdb (by decide), (hT _).1]
          refine J_iadd dX9_readNumber_55 ?_
          refine J_bipush (v := 48) dX9_readNumber_56 (by decide) ?_
          refine J_isub dX9_readNumber_58 ?_
          refine M_putI dX9_readNumber_59 pX9_22 rfl rfl (by decide) ?_
          rw [wa_wr]
          refine J_aload_n dX9_readNumber_62 rfl ?_
          refine J_dup dX9_readNumber_63 rfl ?_
          refine M_getI dX9_readNumber_64 fX9_25 rfl rfl (by decide) ?_
          rw [rda, updN (by decide), hg1]
          refine J_iconst (v := 1) dX9_readNumber_67 (by decide) ?_
          refine J_iadd dX9_readNumber_68 ?_
          rw [nI_1]
          refine M_putI dX9_readNumber_69 pX9_25 rfl rfl (by decide) ?_
          rw [wa_wr]
          refine J_goto (tgt := 5) dX9_readNumber_72 (by decide) ?_
          refine ih (p + 1) _ (by omega) updS (by omega) (fun i h1 h2 => ?_) ?_ (fun g2 a1 a2 a3 => h g2 ?_ ?_ ?_)
          · by_cases q : i = p
            · rw [q]; exact hd
            · exact hds i h1 (by omega)
          · rw [updN (by decide), updS]
            exact NumS.st hsp hds hd hx
          · rw [rn_y hd]; exact a1
          · rw [a2, updN (by decide), updN (by decide)]
          · rw [rn_y hd]; exact a3
      · -- false
        refine J_if_eq (tgt := 75) dX9_readNumber_33 (by decide) (fun c7 => ?_) (fun c7 => ?_)
        · -- to 75
          refine h g ?_ rfl ?_
          · rw [rn_n hd]; exact hg1
          · rw [rn_n hd]; exact hx
        · -- on 36
          exact absurd c7 (by decide)
theorem rnD {T : Nat → Nat} {n s : Nat} (hs : s < n) (hl : dgt (T s) = true) : s < rnP dgt T (n - s) s := by
  obtain ⟨k, hk⟩ : ∃ k, n - s = k + 1 := ⟨n - s - 1, by omega⟩
  rw [hk, rn_y hl]
  have := (rn_at (P := dgt) (T := T) k (s + 1)).1
  omega
set_option maxRecDepth 100000 in
set_option maxHeartbeats 1000000 in
theorem tX9_rn_e {d : Nat} {M : Mem} {Φ : Option Int32 → Mem → Prop} {n : Nat} {T : Nat → Nat} {s e : Nat} {g : Nat → Int32} (hn : M.1 13 1 = nI n) (hnb : n ≤ 1000) (hT : ∀ i, M.1 14 i = nI (T i) ∧ T i < 256) (hs : s < n) (hd : dgt (T s) = true) (he : e = rnP dgt T (n - s) s) (hg1 : g 1 = nI e) (hg2 : g 2 = nI s) (hx : NumS T s e (g 4)) (h : ∀ g2, TkC g2 (lexT.lexA T n s) → Φ none (wa M 26 g2)) : JM noRo (d + 8) mX9_readNumber 75 [some (.ref 26)] [] (wa M 26 g) Φ := by
  have hr := rn_at (P := dgt) (T := T) (n - s) s
  rw [← he] at hr
  rw [lexT.lexA, if_neg (by rw [dgt_ltr hd]; decide), if_pos hd, ← he] at h
  by_cases h6 : e - s ≤ 6
  · by_cases hq2 : e < n
    · rcases hL : ltr (T e) with _ | _
      · rw [if_pos ⟨h6, fun q => absurd (hL.symm.trans q.2) (by decide)⟩] at h
        refine J_aload_n dX9_readNumber_75 rfl ?_
        refine M_getI dX9_readNumber_76 fX9_25 rfl rfl (by decide) ?_
        rw [rda, hg1]
        refine J_aload_n dX9_readNumber_79 rfl ?_
        refine M_getI dX9_readNumber_80 fX9_15 rfl rfl (by decide) ?_
        rw [rda, hg2]
        refine J_isub dX9_readNumber_83 ?_
        rw [pk_sub (by omega)]
        refine J_bipush (v := 6) dX9_readNumber_84 (by decide) ?_
        refine J_icmp_gt (tgt := 110) dX9_readNumber_86 (by decide) (fun c1 => ?_) (fun c1 => ?_)
        · -- to 110
          exact absurd c1 (nI_nlt (a := 6) h6 (by decide))
        · -- on 89
          refine J_aload_n dX9_readNumber_89 rfl ?_
          refine M_getR dX9_readNumber_90 fX9_9 rfl rfl (by decide) ?_
          refine J_aload_n dX9_readNumber_93 rfl ?_
          refine M_getI dX9_readNumber_94 fX9_25 rfl rfl (by decide) ?_
          rw [rda, hg1]
          refine M_callV1 (mc := mX8_at) dX9_readNumber_97 kX9_37 oX8_at (Nat.le_of_ble_eq_true rfl) (Nat.le_of_ble_eq_true rfl) rfl (by decide) rfl ?_
          refine tX8_atN (n := n) (by rw [rdb (by decide)]; exact hn) hnb (by omega) (fun hq => ?_) (fun hq => absurd hq2 hq)
          rw [rdb (by decide), (hT _).1]
          refine M_callS1 (mc := mX9_isLetter) dX9_readNumber_100 kX9_45 oX9_isLetter (Nat.le_of_ble_eq_true rfl) (Nat.le_of_ble_eq_true rfl) ?_
          refine tX9_isLetter (hT _).2 (fun hl => absurd (hl.symm.trans hL) (by decide)) (fun hl => ?_)
          refine J_if_ne (tgt := 110) dX9_readNumber_103 (by decide) (fun c4 => ?_) (fun c4 => ?_)
          · -- to 110
            exact absurd c4 (by decide)
          · -- on 106
            refine J_iconst (v := 1) dX9_readNumber_106 (by decide) ?_
            refine J_goto (tgt := 111) dX9_readNumber_107 (by decide) ?_
            refine J_istore_n dX9_readNumber_111 (by decide) rfl ?_
            dsimp only [setL]
            refine J_aload_n dX9_readNumber_112 rfl ?_
            refine J_iload_n dX9_readNumber_113 rfl ?_
            refine J_if_eq (tgt := 121) dX9_readNumber_114 (by decide) (fun c5 => ?_) (fun c5 => ?_)
            · -- to 121
              exact absurd c5 (by decide)
            · -- on 117
              refine J_iconst (v := 2) dX9_readNumber_117 (by decide) ?_
              refine J_goto (tgt := 122) dX9_readNumber_118 (by decide) ?_
              refine M_putI dX9_readNumber_122 pX9_19 rfl rfl (by decide) ?_
              rw [wa_wr]
              refine M_vret dX9_readNumber_125 rfl ?_
              exact h _ ⟨by rw [updN (by decide)]; exact hg2, updS, fun _ => by rw [updN (by decide)]; exact hg1, fun _ => by rw [updN (by decide)]; exact hx h6, fun q => absurd (show (2 : Nat) = 3 from q) (by decide)⟩
      · rw [if_neg (fun q => q.2 ⟨hq2, hL⟩)] at h
        refine J_aload_n dX9_readNumber_75 rfl ?_
        refine M_getI dX9_readNumber_76 fX9_25 rfl rfl (by decide) ?_
        rw [rda, hg1]
        refine J_aload_n dX9_readNumber_79 rfl ?_
        refine M_getI dX9_readNumber_80 fX9_15 rfl rfl (by decide) ?_
        rw [rda, hg2]
        refine J_isub dX9_readNumber_83 ?_
        rw [pk_sub (by omega)]
        refine J_bipush (v := 6) dX9_readNumber_84 (by decide) ?_
        refine J_icmp_gt (tgt := 110) dX9_readNumber_86 (by decide) (fun c1 => ?_) (fun c1 => ?_)
        · -- to 110
          exact absurd c1 (nI_nlt (a := 6) h6 (by decide))
        · -- on 89
          refine J_aload_n dX9_readNumber_89 rfl ?_
          refine M_getR dX9_readNumber_90 fX9_9 rfl rfl (by decide) ?_
          refine J_aload_n dX9_readNumber_93 rfl ?_
          refine M_getI dX9_readNumber_94 fX9_25 rfl rfl (by decide) ?_
          rw [rda, hg1]
          refine M_callV1 (mc := mX8_at) dX9_readNumber_97 kX9_37 oX8_at (Nat.le_of_ble_eq_true rfl) (Nat.le_of_ble_eq_true rfl) rfl (by decide) rfl ?_
          refine tX8_atN (n := n) (by rw [rdb (by decide)]; exact hn) hnb (by omega) (fun hq => ?_) (fun hq => absurd hq2 hq)
          rw [rdb (by decide), (hT _).1]
          refine M_callS1 (mc := mX9_isLetter) dX9_readNumber_100 kX9_45 oX9_isLetter (Nat.le_of_ble_eq_true rfl) (Nat.le_of_ble_eq_true rfl) ?_
          refine tX9_isLetter (hT _).2 (fun hl => ?_) (fun hl => absurd (hl.symm.trans hL) (by decide))
          refine J_if_ne (tgt := 110) dX9_readNumber_103 (by decide) (fun c4 => ?_) (fun c4 => ?_)
          · -- to 110
            refine J_iconst (v := 0) dX9_readNumber_110 (by decide) ?_
            refine J_istore_n dX9_readNumber_111 (by decide) rfl ?_
            dsimp only [setL]
            refine J_aload_n dX9_readNumber_112 rfl ?_
            refine J_iload_n dX9_readNumber_113 rfl ?_
            refine J_if_eq (tgt := 121) dX9_readNumber_114 (by decide) (fun c5 => ?_) (fun c5 => ?_)
            · -- to 121
              refine J_iconst (v := 1) dX9_readNumber_121 (by decide) ?_
              refine M_putI dX9_readNumber_122 pX9_19 rfl rfl (by decide) ?_
              rw [wa_wr]
              refine M_vret dX9_readNumber_125 rfl ?_
              exact h _ ⟨by rw [updN (by decide)]; exact hg2, updS, fun q => absurd rfl q, fun q => absurd (show (1 : Nat) = 2 from q) (by decide), fun q => absurd (show (1 : Nat) = 3 from q) (by decide)⟩
            · -- on 117
              exact absurd c5 (by decide)
          · -- on 106
            exact absurd c4 (by decide)
    · rw [if_pos ⟨h6, fun q => hq2 q.1⟩] at h
      refine J_aload_n dX9_readNumber_75 rfl ?_
      refine M_getI dX9_readNumber_76 fX9_25 rfl rfl (by decide) ?_
      rw [rda, hg1]
      refine J_aload_n dX9_readNumber_79 rfl ?_
      refine M_getI dX9_readNumber_80 fX9_15 rfl rfl (by decide) ?_
      rw [rda, hg2]
      refine J_isub dX9_readNumber_83 ?_
      rw [pk_sub (by omega)]
      refine J_bipush (v := 6) dX9_readNumber_84 (by decide) ?_
      refine J_icmp_gt (tgt := 110) dX9_readNumber_86 (by decide) (fun c1 => ?_) (fun c1 => ?_)
      · -- to 110
        exact absurd c1 (nI_nlt (a := 6) h6 (by decide))
      · -- on 89
        refine J_aload_n dX9_readNumber_89 rfl ?_
        refine M_getR dX9_readNumber_90 fX9_9 rfl rfl (by decide) ?_
        refine J_aload_n dX9_readNumber_93 rfl ?_
        refine M_getI dX9_readNumber_94 fX9_25 rfl rfl (by decide) ?_
        rw [rda, hg1]
        refine M_callV1 (mc := mX8_at) dX9_readNumber_97 kX9_37 oX8_at (Nat.le_of_ble_eq_true rfl) (Nat.le_of_ble_eq_true rfl) rfl (by decide) rfl ?_
        refine tX8_atN (n := n) (by rw [rdb (by decide)]; exact hn) hnb (by omega) (fun hq => absurd hq hq2) (fun hq => ?_)
        refine M_callS1 (mc := mX9_isLetter) dX9_readNumber_100 kX9_45 oX9_isLetter (Nat.le_of_ble_eq_true rfl) (Nat.le_of_ble_eq_true rfl) ?_
        refine tX9_isLetterN ?_
        refine J_if_ne (tgt := 110) dX9_readNumber_103 (by decide) (fun c4 => ?_) (fun c4 => ?_)
        · -- to 110
          exact absurd c4 (by decide)
        · -- on 106
          refine J_iconst (v := 1) dX9_readNumber_106 (by decide) ?_
          refine J_goto (tgt := 111) dX9_readNumber_107 (by decide) ?_
          refine J_istore_n dX9_readNumber_111 (by decide) rfl ?_
          dsimp only [setL]
          refine J_aload_n dX9_readNumber_112 rfl ?_
          refine J_iload_n dX9_readNumber_113 rfl ?_
          refine J_if_eq (tgt := 121) dX9_readNumber_114 (by decide) (fun c5 => ?_) (fun c5 => ?_)
          · -- to 121
            exact absurd c5 (by decide)
          · -- on 117
            refine J_iconst (v := 2) dX9_readNumber_117 (by decide) ?_
            refine J_goto (tgt := 122) dX9_readNumber_118 (by decide) ?_
            refine M_putI dX9_readNumber_122 pX9_19 rfl rfl (by decide) ?_
            rw [wa_wr]
            refine M_vret dX9_readNumber_125 rfl ?_
            exact h _ ⟨by rw [updN (by decide)]; exact hg2, updS, fun _ => by rw [updN (by decide)]; exact hg1, fun _ => by rw [updN (by decide)]; exact hx h6, fun q => absurd (show (2 : Nat) = 3 from q) (by decide)⟩
  · rw [if_neg (fun q => h6 q.1)] at h
    refine J_aload_n dX9_readNumber_75 rfl ?_
    refine M_getI dX9_readNumber_76 fX9_25 rfl rfl (by decide) ?_
    rw [rda, hg1]
    refine J_aload_n dX9_readNumber_79 rfl ?_
    refine M_getI dX9_readNumber_80 fX9_15 rfl rfl (by decide) ?_
    rw [rda, hg2]
    refine J_isub dX9_readNumber_83 ?_
    rw [pk_sub (by omega)]
    refine J_bipush (v := 6) dX9_readNumber_84 (by decide) ?_
    refine J_icmp_gt (tgt := 110) dX9_readNumber_86 (by decide) (fun c1 => ?_) (fun c1 => ?_)
    · -- to 110
      refine J_iconst (v := 0) dX9_readNumber_110 (by decide) ?_
      refine J_istore_n dX9_readNumber_111 (by decide) rfl ?_
      dsimp only [setL]
      refine J_aload_n dX9_readNumber_112 rfl ?_
      refine J_iload_n dX9_readNumber_113 rfl ?_
      refine J_if_eq (tgt := 121) dX9_readNumber_114 (by decide) (fun c2 => ?_) (fun c2 => ?_)
      · -- to 121
        refine J_iconst (v := 1) dX9_readNumber_121 (by decide) ?_
        refine M_putI dX9_readNumber_122 pX9_19 rfl rfl (by decide) ?_
        rw [wa_wr]
        refine M_vret dX9_readNumber_125 rfl ?_
        exact h _ ⟨by rw [updN (by decide)]; exact hg2, updS, fun q => absurd rfl q, fun q => absurd (show (1 : Nat) = 2 from q) (by decide), fun q => absurd (show (1 : Nat) = 3 from q) (by decide)⟩
      · -- on 117
        exact absurd c2 (by decide)
    · -- on 89
      exact absurd (nI_lt (a := 6) (by omega) (by omega)) c1
set_option maxRecDepth 100000 in
set_option maxHeartbeats 1000000 in
theorem tX9_readNumber {d : Nat} {M : Mem} {Φ : Option Int32 → Mem → Prop} {n : Nat} {T : Nat → Nat} {s : Nat} {g : Nat → Int32} (hn : M.1 13 1 = nI n) (hnb : n ≤ 1000) (hT : ∀ i, M.1 14 i = nI (T i) ∧ T i < 256) (hs : s < n) (hd : dgt (T s) = true) (hg1 : g 1 = nI s) (hg2 : g 2 = nI s) (h : ∀ g2, TkC g2 (lexT.lexA T n s) → Φ none (wa M 26 g2)) : JM noRo (d + 8) mX9_readNumber 0 [some (.ref 26)] [] (wa M 26 g) Φ := by
  refine J_aload_n dX9_readNumber_0 rfl ?_
  refine J_iconst (v := 0) dX9_readNumber_1 (by decide) ?_
  refine M_putI dX9_readNumber_2 pX9_22 rfl rfl (by decide) ?_
  rw [wa_wr]
  refine tX9_rn_l (s := s) hn hnb hT (n - s) s _ (by omega) (by rw [updN (by decide)]; exact hg1) (Nat.le_refl _) (fun i h1 h2 => absurd h2 (by omega)) (by rw [updS]; intro _; rw [Nat.sub_self]; rfl) (fun g2 a1 a2 a3 => ?_)
  exact tX9_rn_e hn hnb hT hs hd rfl a1 (a2.trans ((updN (by decide)).trans hg2)) a3 h
theorem sgn_t {c : Nat} (h : c = 59 ∨ c = 61 ∨ c = 60 ∨ c = 62 ∨ c = 43 ∨ c = 45 ∨ c = 40 ∨ c = 41) : sgn c = true := by
  rcases h with h | h | h | h | h | h | h | h <;> (rw [h]; rfl)
theorem sgn_e {c : Nat} (h : sgn c = true) : c = 59 ∨ c = 61 ∨ c = 60 ∨ c = 62 ∨ c = 43 ∨ c = 45 ∨ c = 40 ∨ c = 41 := by
  unfold sgn at h
  simp only [Bool.or_eq_true, beq_iff_eq] at h
  omega
set_option maxRecDepth 100000 in
set_option maxHeartbeats 1000000 in
theorem tX9_isSign {d : Nat} {M : Mem} {Φ : Option Int32 → Mem → Prop} {c : Nat} (hc : c < 256) (h1 : sgn c = true → Φ (some 1) M) (h0 : sgn c = false → Φ (some 0) M) : JM noRo d mX9_isSign 0 [some (.int (nI c))] [] M Φ := by
  by_cases hr : 40 ≤ c ∧ c ≤ 62
  · have hh : c = 40 ∨ c = 41 ∨ c = 42 ∨ c = 43 ∨ c = 44 ∨ c = 45 ∨ c = 46 ∨ c = 47 ∨ c = 48 ∨ c = 49 ∨ c = 50 ∨ c = 51 ∨ c = 52 ∨ c = 53 ∨ c = 54 ∨ c = 55 ∨ c = 56 ∨ c = 57 ∨ c = 58 ∨ c = 59 ∨ c = 60 ∨ c = 61 ∨ c = 62 := by omega
    rcases hh with rfl | rfl | rfl | rfl | rfl | rfl | rfl | rfl | rfl | rfl | rfl | rfl | rfl | rfl | rfl | rfl | rfl | rfl | rfl | rfl | rfl | rfl | rfl
    ·
      refine J_iload_n dX9_isSign_0 rfl ?_
      refine J_tabIn (off := 107) (tgt := 108) dX9_isSign_1 (by decide) (by decide) rfl (by decide) ?_
      refine J_iconst (v := 1) dX9_isSign_108 (by decide) ?_
      refine M_zret dX9_isSign_109 rfl (by first | assumption | exact Or.inl rfl | exact Or.inr rfl) ?_
      exact h1 rfl
    ·
      refine J_iload_n dX9_isSign_0 rfl ?_
      refine J_tabIn (off := 107) (tgt := 108) dX9_isSign_1 (by decide) (by decide) rfl (by decide) ?_
      refine J_iconst (v := 1) dX9_isSign_108 (by decide) ?_
      refine M_zret dX9_isSign_109 rfl (by first | assumption | exact Or.inl rfl | exact Or.inr rfl) ?_
      exact h1 rfl
    ·
      refine J_iload_n dX9_isSign_0 rfl ?_
      refine J_tabIn (off := 109) (tgt := 110) dX9_isSign_1 (by decide) (by decide) rfl (by decide) ?_
      refine J_iconst (v := 0) dX9_isSign_110 (by decide) ?_
      refine M_zret dX9_isSign_111 rfl (by first | assumption | exact Or.inl rfl | exact Or.inr rfl) ?_
      exact h0 rfl
    ·
      refine J_iload_n dX9_isSign_0 rfl ?_
      refine J_tabIn (off := 107) (tgt := 108) dX9_isSign_1 (by decide) (by decide) rfl (by decide) ?_
      refine J_iconst (v := 1) dX9_isSign_108 (by decide) ?_
      refine M_zret dX9_isSign_109 rfl (by first | assumption | exact Or.inl rfl | exact Or.inr rfl) ?_
      exact h1 rfl
    ·
      refine J_iload_n dX9_isSign_0 rfl ?_
      refine J_tabIn (off := 109) (tgt := 110) dX9_isSign_1 (by decide) (by decide) rfl (by decide) ?_
      refine J_iconst (v := 0) dX9_isSign_110 (by decide) ?_
      refine M_zret dX9_isSign_111 rfl (by first | assumption | exact Or.inl rfl | exact Or.inr rfl) ?_
      exact h0 rfl
    ·
      refine J_iload_n dX9_isSign_0 rfl ?_
      refine J_tabIn (off := 107) (tgt := 108) dX9_isSign_1 (by decide) (by decide) rfl (by decide) ?_
      refine J_iconst (v := 1) dX9_isSign_108 (by decide) ?_
      refine M_zret dX9_isSign_109 rfl (by first | assumption | exact Or.inl rfl | exact Or.inr rfl) ?_
      exact h1 rfl
    ·
      refine J_iload_n dX9_isSign_0 rfl ?_
      refine J_tabIn (off := 109) (tgt := 110) dX9_isSign_1 (by decide) (by decide) rfl (by decide) ?_
      refine J_iconst (v := 0) dX9_isSign_110 (by decide) ?_
      refine M_zret dX9_isSign_111 rfl (by first | assumption | exact Or.inl rfl | exact Or.inr rfl) ?_
      exact h0 rfl
    ·
      refine J_iload_n dX9_isSign_0 rfl ?_
      refine J_tabIn (off := 109) (tgt := 110) dX9_isSign_1 (by decide) (by decide) rfl (by decide) ?_
      refine J_iconst (v := 0) dX9_isSign_110 (by decide) ?_
      refine M_zret dX9_isSign_111 rfl (by first | assumption | exact Or.inl rfl | exact Or.inr rfl) ?_
      exact h0 rfl
    ·
      refine J_iload_n dX9_isSign_0 rfl ?_
      refine J_tabIn (off := 109) (tgt := 110) dX9_isSign_1 (by decide) (by decide) rfl (by decide) ?_
      refine J_iconst (v := 0) dX9_isSign_110 (by decide) ?_
      refine M_zret dX9_isSign_111 rfl (by first | assumption | exact Or.inl rfl | exact Or.inr rfl) ?_
      exact h0 rfl
    ·
      refine J_iload_n dX9_isSign_0 rfl ?_
      refine J_tabIn (off := 109) (tgt := 110) dX9_isSign_1 (by decide) (by decide) rfl (by decide) ?_
      refine J_iconst (v := 0) dX9_isSign_110 (by decide) ?_
      refine M_zret dX9_isSign_111 rfl (by first | assumption | exact Or.inl rfl | exact Or.inr rfl) ?_
      exact h0 rfl
    ·
      refine J_iload_n dX9_isSign_0 rfl ?_
      refine J_tabIn (off := 109) (tgt := 110) dX9_isSign_1 (by decide) (by decide) rfl (by decide) ?_
      refine J_iconst (v := 0) dX9_isSign_110 (by decide) ?_
      refine M_zret dX9_isSign_111 rfl (by first | assumption | exact Or.inl rfl | exact Or.inr rfl) ?_
      exact h0 rfl
    ·
      refine J_iload_n dX9_isSign_0 rfl ?_
      refine J_tabIn (off := 109) (tgt := 110) dX9_isSign_1 (by decide) (by decide) rfl (by decide) ?_
      refine J_iconst (v := 0) dX9_isSign_110 (by decide) ?_
      refine M_zret dX9_isSign_111 rfl (by first | assumption | exact Or.inl rfl | exact Or.inr rfl) ?_
      exact h0 rfl
    ·
      refine J_iload_n dX9_isSign_0 rfl ?_
      refine J_tabIn (off := 109) (tgt := 110) dX9_isSign_1 (by decide) (by decide) rfl (by decide) ?_
      refine J_iconst (v := 0) dX9_isSign_110 (by decide) ?_
      refine M_zret dX9_isSign_111 rfl (by first | assumption | exact Or.inl rfl | exact Or.inr rfl) ?_
      exact h0 rfl
    ·
      refine J_iload_n dX9_isSign_0 rfl ?_
      refine J_tabIn (off := 109) (tgt := 110) dX9_isSign_1 (by decide) (by decide) rfl (by decide) ?_
      refine J_iconst (v := 0) dX9_isSign_110 (by decide) ?_
      refine M_zret dX9_isSign_111 rfl (by first | assumption | exact Or.inl rfl | exact Or.inr rfl) ?_
      exact h0 rfl
    ·
      refine J_iload_n dX9_isSign_0 rfl ?_
      refine J_tabIn (off := 109) (tgt := 110) dX9_isSign_1 (by decide) (by decide) rfl (by decide) ?_
      refine J_iconst (v := 0) dX9_isSign_110 (by decide) ?_
      refine M_zret dX9_isSign_111 rfl (by first | assumption | exact Or.inl rfl | exact Or.inr rfl) ?_
      exact h0 rfl
    ·
      refine J_iload_n dX9_isSign_0 rfl ?_
      refine J_tabIn (off := 109) (tgt := 110) dX9_isSign_1 (by decide) (by decide) rfl (by decide) ?_
      refine J_iconst (v := 0) dX9_isSign_110 (by decide) ?_
      refine M_zret dX9_isSign_111 rfl (by first | assumption | exact Or.inl rfl | exact Or.inr rfl) ?_
      exact h0 rfl
    ·
      refine J_iload_n dX9_isSign_0 rfl ?_
      refine J_tabIn (off := 109) (tgt := 110) dX9_isSign_1 (by decide) (by decide) rfl (by decide) ?_
      refine J_iconst (v := 0) dX9_isSign_110 (by decide) ?_
      refine M_zret dX9_isSign_111 rfl (by first | assumption | exact Or.inl rfl | exact Or.inr rfl) ?_
      exact h0 rfl
    ·
      refine J_iload_n dX9_isSign_0 rfl ?_
      refine J_tabIn (off := 109) (tgt := 110) dX9_isSign_1 (by decide) (by decide) rfl (by decide) ?_
      refine J_iconst (v := 0) dX9_isSign_110 (by decide) ?_
      refine M_zret dX9_isSign_111 rfl (by first | assumption | exact Or.inl rfl | exact Or.inr rfl) ?_
      exact h0 rfl
    ·
      refine J_iload_n dX9_isSign_0 rfl ?_
      refine J_tabIn (off := 109) (tgt := 110) dX9_isSign_1 (by decide) (by decide) rfl (by decide) ?_
      refine J_iconst (v := 0) dX9_isSign_110 (by decide) ?_
      refine M_zret dX9_isSign_111 rfl (by first | assumption | exact Or.inl rfl | exact Or.inr rfl) ?_
      exact h0 rfl
    ·
      refine J_iload_n dX9_isSign_0 rfl ?_
      refine J_tabIn (off := 107) (tgt := 108) dX9_isSign_1 (by decide) (by decide) rfl (by decide) ?_
      refine J_iconst (v := 1) dX9_isSign_108 (by decide) ?_
      refine M_zret dX9_isSign_109 rfl (by first | assumption | exact Or.inl rfl | exact Or.inr rfl) ?_
      exact h1 rfl
    ·
      refine J_iload_n dX9_isSign_0 rfl ?_
      refine J_tabIn (off := 107) (tgt := 108) dX9_isSign_1 (by decide) (by decide) rfl (by decide) ?_
      refine J_iconst (v := 1) dX9_isSign_108 (by decide) ?_
      refine M_zret dX9_isSign_109 rfl (by first | assumption | exact Or.inl rfl | exact Or.inr rfl) ?_
      exact h1 rfl
    ·
      refine J_iload_n dX9_isSign_0 rfl ?_
      refine J_tabIn (off := 107) (tgt := 108) dX9_isSign_1 (by decide) (by decide) rfl (by decide) ?_
      refine J_iconst (v := 1) dX9_isSign_108 (by decide) ?_
      refine M_zret dX9_isSign_109 rfl (by first | assumption | exact Or.inl rfl | exact Or.inr rfl) ?_
      exact h1 rfl
    ·
      refine J_iload_n dX9_isSign_0 rfl ?_
      refine J_tabIn (off := 107) (tgt := 108) dX9_isSign_1 (by decide) (by decide) rfl (by decide) ?_
      refine J_iconst (v := 1) dX9_isSign_108 (by decide) ?_
      refine M_zret dX9_isSign_109 rfl (by first | assumption | exact Or.inl rfl | exact Or.inr rfl) ?_
      exact h1 rfl
  · have hs : sgn c = false := by
      rcases hb : sgn c with _ | _
      · rfl
      · exact absurd (sgn_e hb) (by omega)
    refine J_iload_n dX9_isSign_0 rfl ?_
    refine J_tabOut (tgt := 110) dX9_isSign_1 (by rw [nI_toInt (by omega)]; omega) (by decide) ?_
    refine J_iconst (v := 0) dX9_isSign_110 (by decide) ?_
    refine M_zret dX9_isSign_111 rfl (by first | assumption | exact Or.inl rfl | exact Or.inr rfl) ?_
    exact h0 hs

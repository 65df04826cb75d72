theorem cnt_n {p : Nat → Nat} {s k : Nat} (h : ¬ p k = s + 1) : cntP p s (k + 1) = cntP p s k := by rw [cntP, if_neg h, Nat.add_zero]
theorem cnt_y {p : Nat → Nat} {s k : Nat} (h : p k = s + 1) : cntP p s (k + 1) = cntP p s k + 1 := by rw [cntP, if_pos h]
theorem tp_ne {q : Nat} (h : q < 2 ^ 31) : ¬ nI q = -1 := fun e => by
  have z := congrArg Int32.toInt e
  rw [nI_toInt h] at z
  exact absurd z (by have : (-1 : Int32).toInt = -1 := rfl; omega)
theorem mayB_pos {M : Mem} {C st : Nat → Nat} {m j f u : Nat} (h : mayB M C st m j f u = true) : 0 < M.1 69 f := by
  unfold mayB at h
  rw [Bool.and_eq_true] at h
  exact (of_decide_eq_true h.1).1
theorem fl_3 {a v : Nat} {b : Bool} (h : v ≤ a) : (decide (a < v) && b) = false := by rw [decide_eq_false (by omega)]; rfl
theorem dec_nI {a v : Nat} (ha : a < 2 ^ 31) (hv : v < 2 ^ 31) : decide (nI a < nI v) = decide (a < v) := by
  by_cases h : a < v
  · rw [decide_eq_true h, decide_eq_true (nI_lt h hv)]
  · rw [decide_eq_false h, decide_eq_false (nI_nlt (by omega) ha)]
set_option maxRecDepth 100000 in
set_option maxHeartbeats 1000000 in
theorem tX6_fits_l {d : Nat} {Φ : Option Int32 → Mem → Prop} {M0 : Mem} {C st : Nat → Nat} {m L n t j s v : Nat} {p : Nat → Nat} (hW : IW M0 C st m L n) (hj : j < 12) (hs : s < 24) (hv : v ≤ 6) (hp : ∀ k, p k ≤ 24) : ∀ l k N, k + l = j → CI M0 N C st m p t → cntP p s k < v → ((decide (cntP p s j < v) && mtP (fun k f => meetB M0 C st m j (s % 6) k f (s / 6)) p s l k) = true → ∀ N, CI M0 N C st m p t → Φ (some 1) N) → ((decide (cntP p s j < v) && mtP (fun k f => meetB M0 C st m j (s % 6) k f (s / 6)) p s l k) = false → ∀ N, CI M0 N C st m p t → Φ (some 0) N) → JM noRo (d + 4) mX6_fits 26 [some (.ref 29), some (.int (nI j)), some (.int (nI s)), some (.int (nI (v - cntP p s k))), some (.int (nI k))] [] N Φ := by
  intro l
  induction l with
  | zero =>
    intro k N hk hc hcn h1 h0
    obtain rfl : k = j := by omega
    refine J_iload dX6_fits_26 rfl ?_
    refine J_iload_n dX6_fits_28 rfl ?_
    refine J_icmp_ge (tgt := 99) dX6_fits_29 (by decide) (fun c1 => ?_) (fun c1 => ?_)
    · -- to 99
      refine J_iconst (v := 1) dX6_fits_99 (by decide) ?_
      refine M_zret dX6_fits_100 rfl (by first | assumption | exact Or.inl rfl | exact Or.inr rfl) ?_
      exact h1 (by rw [decide_eq_true hcn]; rfl) _ hc
    · -- on 32
      exact absurd (nI_le (by omega) (by omega)) c1
  | succ m2 ih =>
    intro k N hk hc hcn h1 h0
    have hp24 := hp k
    rcases Nat.eq_zero_or_pos (p k) with h00 | h00
    ·
      refine J_iload dX6_fits_26 rfl ?_
      refine J_iload_n dX6_fits_28 rfl ?_
      refine J_icmp_ge (tgt := 99) dX6_fits_29 (by decide) (fun c1 => ?_) (fun c1 => ?_)
      · -- to 99
        exact absurd c1 (nI_ge (by omega) (by omega))
      · -- on 32
        refine J_aload_n dX6_fits_32 rfl ?_
        refine M_getR dX6_fits_33 fX6_9 rfl rfl (by decide) ?_
        refine J_iload dX6_fits_36 rfl ?_
        refine M_ialdE dX6_fits_38 rfl (by decide) (by first | rfl | assumption) (by omega) ?_
        rw [hc.2.2.2.1 k (by omega), h00, show tp 0 = -1 from rfl]
        refine J_istore dX6_fits_39 (by decide) rfl ?_
        dsimp only [setL]
        refine J_iload dX6_fits_41 rfl ?_
        refine J_iconst (v := -1) dX6_fits_43 (by decide) ?_
        refine J_icmp_eq (tgt := 93) dX6_fits_44 (by decide) (fun c2 => ?_) (fun c2 => ?_)
        · -- to 93
          refine J_iinc (v := nI (k + 1)) dX6_fits_93 rfl (nI_1 k) (by decide) rfl ?_
          dsimp only [setL]
          refine J_dropN 5 ?_
          refine J_goto (tgt := 26) dX6_fits_96 (by decide) ?_
          rw [mtP_0 h00] at h1 h0
          have e := cnt_n (p := p) (s := s) (k := k) (by omega)
          have z := ih (k + 1) N (by omega) hc (by omega) h1 h0
          rw [e] at z
          exact z
        · -- on 47
          exact absurd c2 (by decide)
    · obtain ⟨q, hq⟩ : ∃ q, p k = q + 1 := ⟨p k - 1, by omega⟩
      by_cases hh : q / 6 = s / 6
      · by_cases hqs : q = s
        · have ey := cnt_y (p := p) (s := s) (k := k) (by omega)
          refine J_iload dX6_fits_26 rfl ?_
          refine J_iload_n dX6_fits_28 rfl ?_
          refine J_icmp_ge (tgt := 99) dX6_fits_29 (by decide) (fun c1 => ?_) (fun c1 => ?_)
          · -- to 99
            exact absurd c1 (nI_ge (by omega) (by omega))
          · -- on 32
            refine J_aload_n dX6_fits_32 rfl ?_
            refine M_getR dX6_fits_33 fX6_9 rfl rfl (by decide) ?_
            refine J_iload dX6_fits_36 rfl ?_
            refine M_ialdE dX6_fits_38 rfl (by decide) (by first | rfl | assumption) (by omega) ?_
            rw [hc.2.2.2.1 k (by omega), hq, show tp (q + 1) = nI q from rfl]
            refine J_istore dX6_fits_39 (by decide) rfl ?_
            dsimp only [setL]
            refine J_iload dX6_fits_41 rfl ?_
            refine J_iconst (v := -1) dX6_fits_43 (by decide) ?_
            refine J_icmp_eq (tgt := 93) dX6_fits_44 (by decide) (fun c2 => ?_) (fun c2 => ?_)
            · -- to 93
              exact absurd c2 (tp_ne (by omega))
            · -- on 47
              refine J_iload dX6_fits_47 rfl ?_
              refine M_callSN1 (mc := mX11_hourOf) dX6_fits_49 kX6_79 oX11_hourOf (Nat.le_of_ble_eq_true rfl) (Nat.le_of_ble_eq_true rfl) ?_
              refine tX11_hourOf (by omega) ?_
              refine J_iload_n dX6_fits_52 rfl ?_
              refine M_callSN1 (mc := mX11_hourOf) dX6_fits_53 kX6_79 oX11_hourOf (Nat.le_of_ble_eq_true rfl) (Nat.le_of_ble_eq_true rfl) ?_
              refine tX11_hourOf (by omega) ?_
              refine J_icmp_eq (tgt := 62) dX6_fits_56 (by decide) (fun c5 => ?_) (fun c5 => ?_)
              · -- to 62
                refine J_iload dX6_fits_62 rfl ?_
                refine J_iload_n dX6_fits_64 rfl ?_
                refine J_icmp_ne (tgt := 71) dX6_fits_65 (by decide) (fun c6 => ?_) (fun c6 => ?_)
                · -- to 71
                  exact absurd (by rw [hqs]) c6
                · -- on 68
                  refine J_iinc (v := nI (v - cntP p s (k + 1))) dX6_fits_68 rfl ((by rw [show v - cntP p s k = (v - cntP p s (k + 1)) + 1 by omega]; exact nI_dec _)) (by decide) rfl ?_
                  dsimp only [setL]
                  refine J_iload_n dX6_fits_71 rfl ?_
                  refine J_if_le (tgt := 91) dX6_fits_72 (by decide) (fun c7 => ?_) (fun c7 => ?_)
                  · -- to 91
                    refine J_iconst (v := 0) dX6_fits_91 (by decide) ?_
                    refine M_zret dX6_fits_92 rfl (by first | assumption | exact Or.inl rfl | exact Or.inr rfl) ?_
                    first
                    | (rw [mtP_3 (by omega) (by rw [hq]; exact hh) (by rw [hq]; exact hb), Bool.and_false] at h0; exact h0 rfl _ hc2)
                    | (refine h0 (fl_3 ?_) _ hc
                       have z := cnt_mono (p := p) (s := s) m2 (k + 1)
                       rw [show k + 1 + m2 = j by omega] at z
                       have z2 : ¬ 0 < v - cntP p s (k + 1) := fun q2 => nI_nle q2 (by omega) c7
                       omega)
                  · -- on 75
                    have cL : cntP p s (k + 1) < v := by
                      rcases Nat.eq_zero_or_pos (v - cntP p s (k + 1)) with q2 | q2
                      · exact absurd (by rw [q2]; decide) c7
                      · omega
                    refine J_aload_n dX6_fits_75 rfl ?_
                    refine J_iload_n dX6_fits_76 rfl ?_
                    refine J_iload_n dX6_fits_77 rfl ?_
                    refine J_iload dX6_fits_78 rfl ?_
                    refine J_iload dX6_fits_80 rfl ?_
                    refine M_callSN1 (mc := mX11_fieldOf) dX6_fits_82 kX6_71 oX11_fieldOf (Nat.le_of_ble_eq_true rfl) (Nat.le_of_ble_eq_true rfl) ?_
                    refine tX11_fieldOf (by omega) ?_
                    refine M_callV4 (mc := mX6_mayStandBy) dX6_fits_85 kX6_82 oX6_mayStandBy (Nat.le_of_ble_eq_true rfl) (Nat.le_of_ble_eq_true rfl) rfl (by decide) rfl ?_
                    refine tX6_msb hW hc hj hs (by omega) (by omega) (fun hb N2 hc2 => ?_) (fun hb N2 hc2 => ?_)
                    · -- true
                      refine J_if_ne (tgt := 93) dX6_fits_88 (by decide) (fun c10 => ?_) (fun c10 => ?_)
                      · -- to 93
                        refine J_iinc (v := nI (k + 1)) dX6_fits_93 rfl (nI_1 k) (by decide) rfl ?_
                        dsimp only [setL]
                        refine J_dropN 5 ?_
                        refine J_goto (tgt := 26) dX6_fits_96 (by decide) ?_
                        rw [mtP_2 (by rw [hq]; exact hb)] at h1 h0
                        exact ih (k + 1) N2 (by omega) hc2 cL h1 h0
                      · -- on 91
                        exact absurd c10 (by decide)
                    · -- false
                      refine J_if_ne (tgt := 93) dX6_fits_88 (by decide) (fun c11 => ?_) (fun c11 => ?_)
                      · -- to 93
                        exact absurd c11 (by decide)
                      · -- on 91
                        refine J_iconst (v := 0) dX6_fits_91 (by decide) ?_
                        refine M_zret dX6_fits_92 rfl (by first | assumption | exact Or.inl rfl | exact Or.inr rfl) ?_
                        first
                        | (rw [mtP_3 (by omega) (by rw [hq]; exact hh) (by rw [hq]; exact hb), Bool.and_false] at h0; exact h0 rfl _ hc2)
                        | (refine h0 (fl_3 ?_) _ hc
                           have z := cnt_mono (p := p) (s := s) m2 (k + 1)
                           rw [show k + 1 + m2 = j by omega] at z
                           have z2 : ¬ 0 < v - cntP p s (k + 1) := fun q2 => nI_nle q2 (by omega) c11
                           omega)
              · -- on 59
                exact absurd (by rw [hh]) c5
        ·
          refine J_iload dX6_fits_26 rfl ?_
          refine J_iload_n dX6_fits_28 rfl ?_
          refine J_icmp_ge (tgt := 99) dX6_fits_29 (by decide) (fun c1 => ?_) (fun c1 => ?_)
          · -- to 99
            exact absurd c1 (nI_ge (by omega) (by omega))
          · -- on 32
            refine J_aload_n dX6_fits_32 rfl ?_
            refine M_getR dX6_fits_33 fX6_9 rfl rfl (by decide) ?_
            refine J_iload dX6_fits_36 rfl ?_
            refine M_ialdE dX6_fits_38 rfl (by decide) (by first | rfl | assumption) (by omega) ?_
            rw [hc.2.2.2.1 k (by omega), hq, show tp (q + 1) = nI q from rfl]
            refine J_istore dX6_fits_39 (by decide) rfl ?_
            dsimp only [setL]
            refine J_iload dX6_fits_41 rfl ?_
            refine J_iconst (v := -1) dX6_fits_43 (by decide) ?_
            refine J_icmp_eq (tgt := 93) dX6_fits_44 (by decide) (fun c2 => ?_) (fun c2 => ?_)
            · -- to 93
              exact absurd c2 (tp_ne (by omega))
            · -- on 47
              refine J_iload dX6_fits_47 rfl ?_
              refine M_callSN1 (mc := mX11_hourOf) dX6_fits_49 kX6_79 oX11_hourOf (Nat.le_of_ble_eq_true rfl) (Nat.le_of_ble_eq_true rfl) ?_
              refine tX11_hourOf (by omega) ?_
              refine J_iload_n dX6_fits_52 rfl ?_
              refine M_callSN1 (mc := mX11_hourOf) dX6_fits_53 kX6_79 oX11_hourOf (Nat.le_of_ble_eq_true rfl) (Nat.le_of_ble_eq_true rfl) ?_
              refine tX11_hourOf (by omega) ?_
              refine J_icmp_eq (tgt := 62) dX6_fits_56 (by decide) (fun c5 => ?_) (fun c5 => ?_)
              · -- to 62
                refine J_iload dX6_fits_62 rfl ?_
                refine J_iload_n dX6_fits_64 rfl ?_
                refine J_icmp_ne (tgt := 71) dX6_fits_65 (by decide) (fun c6 => ?_) (fun c6 => ?_)
                · -- to 71
                  refine J_iload_n dX6_fits_71 rfl ?_
                  refine J_if_le (tgt := 91) dX6_fits_72 (by decide) (fun c7 => ?_) (fun c7 => ?_)
                  · -- to 91
                    exact absurd c7 (nI_nle (by omega) (by omega))
                  · -- on 75
                    refine J_aload_n dX6_fits_75 rfl ?_
                    refine J_iload_n dX6_fits_76 rfl ?_
                    refine J_iload_n dX6_fits_77 rfl ?_
                    refine J_iload dX6_fits_78 rfl ?_
                    refine J_iload dX6_fits_80 rfl ?_
                    refine M_callSN1 (mc := mX11_fieldOf) dX6_fits_82 kX6_71 oX11_fieldOf (Nat.le_of_ble_eq_true rfl) (Nat.le_of_ble_eq_true rfl) ?_
                    refine tX11_fieldOf (by omega) ?_
                    refine M_callV4 (mc := mX6_mayStandBy) dX6_fits_85 kX6_82 oX6_mayStandBy (Nat.le_of_ble_eq_true rfl) (Nat.le_of_ble_eq_true rfl) rfl (by decide) rfl ?_
                    refine tX6_msb hW hc hj hs (by omega) (by omega) (fun hb N2 hc2 => ?_) (fun hb N2 hc2 => ?_)
                    · -- true
                      refine J_if_ne (tgt := 93) dX6_fits_88 (by decide) (fun c10 => ?_) (fun c10 => ?_)
                      · -- to 93
                        refine J_iinc (v := nI (k + 1)) dX6_fits_93 rfl (nI_1 k) (by decide) rfl ?_
                        dsimp only [setL]
                        refine J_dropN 5 ?_
                        refine J_goto (tgt := 26) dX6_fits_96 (by decide) ?_
                        rw [mtP_2 (by rw [hq]; exact hb)] at h1 h0
                        have e := cnt_n (p := p) (s := s) (k := k) (by omega)
                        have z := ih (k + 1) N2 (by omega) hc2 (by omega) h1 h0
                        rw [e] at z
                        exact z
                      · -- on 91
                        exact absurd c10 (by decide)
                    · -- false
                      refine J_if_ne (tgt := 93) dX6_fits_88 (by decide) (fun c11 => ?_) (fun c11 => ?_)
                      · -- to 93
                        exact absurd c11 (by decide)
                      · -- on 91
                        refine J_iconst (v := 0) dX6_fits_91 (by decide) ?_
                        refine M_zret dX6_fits_92 rfl (by first | assumption | exact Or.inl rfl | exact Or.inr rfl) ?_
                        rw [mtP_3 (by omega) (by rw [hq]; exact hh) (by rw [hq]; exact hb), Bool.and_false] at h0
                        exact h0 rfl _ hc2
                · -- on 68
                  exact absurd ((nI_eq (by omega) (by omega)).mp c6) hqs
              · -- on 59
                exact absurd (by rw [hh]) c5
      ·
        refine J_iload dX6_fits_26 rfl ?_
        refine J_iload_n dX6_fits_28 rfl ?_
        refine J_icmp_ge (tgt := 99) dX6_fits_29 (by decide) (fun c1 => ?_) (fun c1 => ?_)
        · -- to 99
          exact absurd c1 (nI_ge (by omega) (by omega))
        · -- on 32
          refine J_aload_n dX6_fits_32 rfl ?_
          refine M_getR dX6_fits_33 fX6_9 rfl rfl (by decide) ?_
          refine J_iload dX6_fits_36 rfl ?_
          refine M_ialdE dX6_fits_38 rfl (by decide) (by first | rfl | assumption) (by omega) ?_
          rw [hc.2.2.2.1 k (by omega), hq, show tp (q + 1) = nI q from rfl]
          refine J_istore dX6_fits_39 (by decide) rfl ?_
          dsimp only [setL]
          refine J_iload dX6_fits_41 rfl ?_
          refine J_iconst (v := -1) dX6_fits_43 (by decide) ?_
          refine J_icmp_eq (tgt := 93) dX6_fits_44 (by decide) (fun c2 => ?_) (fun c2 => ?_)
          · -- to 93
            exact absurd c2 (tp_ne (by omega))
          · -- on 47
            refine J_iload dX6_fits_47 rfl ?_
            refine M_callSN1 (mc := mX11_hourOf) dX6_fits_49 kX6_79 oX11_hourOf (Nat.le_of_ble_eq_true rfl) (Nat.le_of_ble_eq_true rfl) ?_
            refine tX11_hourOf (by omega) ?_
            refine J_iload_n dX6_fits_52 rfl ?_
            refine M_callSN1 (mc := mX11_hourOf) dX6_fits_53 kX6_79 oX11_hourOf (Nat.le_of_ble_eq_true rfl) (Nat.le_of_ble_eq_true rfl) ?_
            refine tX11_hourOf (by omega) ?_
            refine J_icmp_eq (tgt := 62) dX6_fits_56 (by decide) (fun c5 => ?_) (fun c5 => ?_)
            · -- to 62
              exact absurd ((nI_eq (by omega) (by omega)).mp c5) hh
            · -- on 59
              refine J_goto (tgt := 93) dX6_fits_59 (by decide) ?_
              refine J_iinc (v := nI (k + 1)) dX6_fits_93 rfl (nI_1 k) (by decide) rfl ?_
              dsimp only [setL]
              refine J_dropN 5 ?_
              refine J_goto (tgt := 26) dX6_fits_96 (by decide) ?_
              rw [mtP_1 (by rw [hq]; exact hh)] at h1 h0
              have e := cnt_n (p := p) (s := s) (k := k) (by intro q2; rw [hq] at q2; exact hh (by rw [show q = s by omega]))
              have z := ih (k + 1) N (by omega) hc (by omega) h1 h0
              rw [e] at z
              exact z
set_option maxRecDepth 100000 in
set_option maxHeartbeats 1000000 in
theorem tX6_fits {d : Nat} {M : Mem} {Φ : Option Int32 → Mem → Prop} {C st : Nat → Nat} {m L n t j s : Nat} {p : Nat → Nat} {M0 : Mem} (hW : IW M0 C st m L n) (hc : CI M0 M C st m p t) (hj : j < 12) (hs : s < 24) (hp : ∀ k, p k ≤ 24) (h1 : ftB M0 C st m p j s = true → ∀ N, CI M0 N C st m p t → Φ (some 1) N) (h0 : ftB M0 C st m p j s = false → ∀ N, CI M0 N C st m p t → Φ (some 0) N) : JM noRo (d + 4) mX6_fits 0 [some (.ref 29), some (.int (nI j)), some (.int (nI s))] [] M Φ := by
  obtain ⟨v, hv, ev⟩ := hW.2.2.1.2.2 (s % 6)
  refine J_aload_n dX6_fits_0 rfl ?_
  refine J_iload_n dX6_fits_1 rfl ?_
  refine J_iload_n dX6_fits_2 rfl ?_
  refine M_callV2 (mc := mX6_mayStand) dX6_fits_3 kX6_68 oX6_mayStand (Nat.le_of_ble_eq_true rfl) (Nat.le_of_ble_eq_true rfl) rfl (by decide) rfl ?_
  refine tX6_mayStand hW hc hj hs (fun hb N hc2 => ?_) (fun hb N hc2 => ?_)
  · -- true
    refine J_if_ne (tgt := 11) dX6_fits_6 (by decide) (fun c2 => ?_) (fun c2 => ?_)
    · -- to 11
      refine J_aload_n dX6_fits_11 rfl ?_
      refine M_getR dX6_fits_12 fX6_25 rfl rfl (by decide) ?_
      refine J_iload_n dX6_fits_15 rfl ?_
      refine M_callSN1 (mc := mX11_fieldOf) dX6_fits_16 kX6_71 oX11_fieldOf (Nat.le_of_ble_eq_true rfl) (Nat.le_of_ble_eq_true rfl) ?_
      refine tX11_fieldOf (by omega) ?_
      refine M_callV1 (mc := mX3_roomOf) dX6_fits_19 kX6_74 oX3_roomOf (Nat.le_of_ble_eq_true rfl) (Nat.le_of_ble_eq_true rfl) rfl (by decide) rfl ?_
      refine tX3_roomOf (by omega) ?_
      rw [hc2.1 9 (by decide), hW.1.2.2.2.2.2.2.1, ev]
      refine J_istore_n dX6_fits_22 (by decide) rfl ?_
      dsimp only [setL]
      refine J_iconst (v := 0) dX6_fits_23 (by decide) ?_
      refine J_istore dX6_fits_24 (by decide) rfl ?_
      dsimp only [setL]
      have hpos := mayB_pos hb
      rw [ev] at hpos
      have hv0 : 0 < v := Nat.pos_of_ne_zero (fun q => by rw [q] at hpos; exact absurd hpos (by decide))
      have er : ftB M0 C st m p j s = (decide (cntP p s j < v) && mtP (fun k f => meetB M0 C st m j (s % 6) k f (s / 6)) p s j 0) := by
        unfold ftB
        have := cnt_le (p := p) (s := s) j
        rw [hb, ev, dec_nI (by omega) (by omega)]
        rfl
      rw [er] at h1 h0
      exact tX6_fits_l hW hj hs hv hp j 0 N (by omega) hc2 hv0 h1 h0
    · -- on 9
      exact absurd c2 (by decide)
  · -- false
    refine J_if_ne (tgt := 11) dX6_fits_6 (by decide) (fun c5 => ?_) (fun c5 => ?_)
    · -- to 11
      exact absurd c5 (by decide)
    · -- on 9
      refine J_iconst (v := 0) dX6_fits_9 (by decide) ?_
      refine M_zret dX6_fits_10 rfl (by first | assumption | exact Or.inl rfl | exact Or.inr rfl) ?_
      exact h0 (by unfold ftB; rw [hb]; rfl) _ hc2
theorem rv_0 {r : Nat} (h : rvI r = 0) : r = 0 := by
  unfold rvI at h
  by_cases e : r = 0
  · exact e
  · rw [if_neg e] at h
    by_cases e1 : r = 1
    · rw [if_pos e1] at h; exact absurd h (by decide)
    · rw [if_neg e1] at h; exact absurd h (by decide)
section LPS
variable {rec : (Nat → Nat) → Nat → Res} {ft : (Nat → Nat) → Nat → Bool} {h l s : Nat} {p : Nat → Nat} {t : Nat}
theorem lpS_2 (h1 : 20000 ≤ t) : lpS rec ft h (l + 1) s p t = (2, p, t) := by rw [lpS, if_pos h1]
theorem lpS_f (h1 : ¬ 20000 ≤ t) (h2 : ft p s = false) : lpS rec ft h (l + 1) s p t = lpS rec ft h l (s + 1) p (t + 1) := by rw [lpS, if_neg h1, if_neg (by rw [h2]; decide)]
theorem lpS_n (h1 : ¬ 20000 ≤ t) (h2 : ft p s = true) (h3 : (rec (pset p h (s + 1)) (t + 1)).1 = 0) : lpS rec ft h (l + 1) s p t = lpS rec ft h l (s + 1) (pset (rec (pset p h (s + 1)) (t + 1)).2.1 h 0) (rec (pset p h (s + 1)) (t + 1)).2.2 := by rw [lpS, if_neg h1, if_pos h2, if_pos h3]
theorem lpS_y (h1 : ¬ 20000 ≤ t) (h2 : ft p s = true) (h3 : ¬ (rec (pset p h (s + 1)) (t + 1)).1 = 0) : lpS rec ft h (l + 1) s p t = rec (pset p h (s + 1)) (t + 1) := by rw [lpS, if_neg h1, if_pos h2, if_neg h3]
end LPS
set_option maxRecDepth 100000 in
set_option maxHeartbeats 1000000 in
theorem tX6_place_l {D : Nat} {Φ : Option Int32 → Mem → Prop} {M0 : Mem} {C st : Nat → Nat} {m L n h : Nat} {rec : (Nat → Nat) → Nat → Res} (hW : IW M0 C st m L n) (hh : h < 12) (hD : 4 ≤ D) (hrec : ∀ (p : Nat → Nat) (t : Nat) (N : Mem) (Ψ : Option Int32 → Mem → Prop), CI M0 N C st m p t → (∀ j, p j ≤ 24) → t ≤ 20000 → (∀ j, h + 1 ≤ j → p j = 0) → (∀ N2, CI M0 N2 C st m (rec p t).2.1 (rec p t).2.2 → Ψ (some (rvI (rec p t).1)) N2) → JM noRo D mX6_place 0 [some (.ref 29), some (.int (nI (h + 1)))] [] N Ψ) (hok : ∀ p t, (∀ j, p j ≤ 24) → t ≤ 20000 → (∀ j, h + 1 ≤ j → p j = 0) → SOK (h + 1) p (rec p t)) : ∀ l s p t N, s + l = 24 → CI M0 N C st m p t → (∀ j, p j ≤ 24) → t ≤ 20000 → (∀ j, h ≤ j → p j = 0) → (∀ N2, CI M0 N2 C st m (lpS rec (fun p s => ftB M0 C st m p h s) h l s p t).2.1 (lpS rec (fun p s => ftB M0 C st m p h s) h l s p t).2.2 → Φ (some (rvI (lpS rec (fun p s => ftB M0 C st m p h s) h l s p t).1)) N2) → JM noRo (D + 1) mX6_place 34 [some (.ref 29), some (.int (nI h)), some (.int (nI s))] [] N Φ := by
  intro l
  induction l with
  | zero =>
    intro s p t N hs hc hp ht hz h0
    refine J_iload_n dX6_place_34 rfl ?_
    refine J_bipush (v := 24) dX6_place_35 (by decide) ?_
    refine J_icmp_ge (tgt := 106) dX6_place_37 (by decide) (fun c1 => ?_) (fun c1 => ?_)
    · -- to 106
      refine J_iconst (v := 0) dX6_place_106 (by decide) ?_
      refine M_iret dX6_place_107 rfl rfl ?_
      exact h0 _ hc
    · -- on 40
      exact absurd (nI_le (a := 24) (by omega) (by omega)) c1
  | succ l ih =>
    intro s p t N hs hc hp ht hz h0
    refine J_iload_n dX6_place_34 rfl ?_
    refine J_bipush (v := 24) dX6_place_35 (by decide) ?_
    refine J_icmp_ge (tgt := 106) dX6_place_37 (by decide) (fun c1 => ?_) (fun c1 => ?_)
    · -- to 106
      exact absurd c1 (nI_ge (b := 24) (by omega) (by decide))
    · -- on 40
      refine J_aload_n dX6_place_40 rfl ?_
      refine M_getI dX6_place_41 fX6_33 rfl rfl (by decide) ?_
      refine J_sipush (v := 20000) dX6_place_44 (by decide) ?_
      refine J_icmp_lt (tgt := 53) dX6_place_47 (by decide) (fun c2 => ?_) (fun c2 => ?_)
      · -- to 53
        have hlt : ¬ 20000 ≤ t := fun q => by
          have z := c2
          rw [hc.2.2.1] at z
          exact nI_nlt (b := 20000) q (by omega) z
        refine J_aload_n dX6_place_53 rfl ?_
        refine J_dup dX6_place_54 rfl ?_
        refine M_getI dX6_place_55 fX6_33 rfl rfl (by decide) ?_
        refine J_iconst (v := 1) dX6_place_58 (by decide) ?_
        refine J_iadd dX6_place_59 ?_
        rw [hc.2.2.1, nI_1]
        refine M_putI dX6_place_60 pX6_33 rfl rfl (by decide) ?_
        refine J_aload_n dX6_place_63 rfl ?_
        refine J_iload_n dX6_place_64 rfl ?_
        refine J_iload_n dX6_place_65 rfl ?_
        refine M_callV2 (mc := mX6_fits) dX6_place_66 kX6_64 oX6_fits (Nat.le_of_ble_eq_true rfl) (Nat.le_of_ble_eq_true rfl) rfl (by decide) rfl ?_
        refine M_more hD (tX6_fits (d := 0) hW (hc.w29 (t2 := t + 1)) hh (by omega) hp (fun hb N2 hc2 => ?_) (fun hb N2 hc2 => ?_))
        · -- true
          refine J_if_eq (tgt := 100) dX6_place_69 (by decide) (fun c4 => ?_) (fun c4 => ?_)
          · -- to 100
            exact absurd c4 (by decide)
          · -- on 72
            have hp1 : ∀ j, pset p h (s + 1) j ≤ 24 := fun j => by
              by_cases e : j = h
              · rw [e, pset_s]; omega
              · rw [pset_n e]; exact hp j
            have hz1 : ∀ j, h + 1 ≤ j → pset p h (s + 1) j = 0 := fun j hj => by rw [pset_n (by omega)]; exact hz j (by omega)
            refine J_aload_n dX6_place_72 rfl ?_
            refine M_getR dX6_place_73 fX6_9 rfl rfl (by decide) ?_
            refine J_iload_n dX6_place_76 rfl ?_
            refine J_iload_n dX6_place_77 rfl ?_
            refine M_iastE dX6_place_78 rfl (by decide) (by first | rfl | assumption) (by omega) ?_
            refine J_aload_n dX6_place_79 rfl ?_
            refine J_iload_n dX6_place_80 rfl ?_
            refine J_iconst (v := 1) dX6_place_81 (by decide) ?_
            refine J_iadd dX6_place_82 ?_
            refine M_callV1 (mc := mX6_place) dX6_place_83 kX6_50 oX6_place (Nat.le_of_ble_eq_true rfl) (Nat.le_of_ble_eq_true rfl) rfl (by decide) rfl ?_
            rw [nI_1]
            refine hrec (pset p h (s + 1)) (t + 1) _ _ (hc2.w30 (j := h) (q := s + 1)) hp1 (by omega) hz1 (fun N3 hc3 => ?_)
            refine J_istore_n dX6_place_86 (by decide) rfl ?_
            dsimp only [setL]
            refine J_iload_n dX6_place_87 rfl ?_
            refine J_if_eq (tgt := 93) dX6_place_88 (by decide) (fun c6 => ?_) (fun c6 => ?_)
            · -- to 93
              have hr0 : (rec (pset p h (s + 1)) (t + 1)).1 = 0 := rv_0 c6
              have hs9 := hok (pset p h (s + 1)) (t + 1) hp1 (by omega) hz1
              refine J_aload_n dX6_place_93 rfl ?_
              refine M_getR dX6_place_94 fX6_9 rfl rfl (by decide) ?_
              refine J_iload_n dX6_place_97 rfl ?_
              refine J_iconst (v := -1) dX6_place_98 (by decide) ?_
              refine M_iastE dX6_place_99 rfl (by decide) (by first | rfl | assumption) (by omega) ?_
              refine J_iinc (v := nI (s + 1)) dX6_place_100 rfl (nI_1 s) (by decide) rfl ?_
              dsimp only [setL]
              refine J_dropN 3 ?_
              refine J_goto (tgt := 34) dX6_place_103 (by decide) ?_
              first
              | (rw [lpS_f hlt hb] at h0
                 exact ih (s + 1) p (t + 1) N2 (by omega) hc2 hp (by omega) hz h0)
              | (rw [lpS_n hlt hb hr0] at h0
                 exact ih (s + 1) _ _ _ (by omega) (hc3.w30 (j := h) (q := 0)) (fun j => by
                   by_cases e : j = h
                   · rw [e, pset_s]; omega
                   · rw [pset_n e]; exact hs9.2.1 j) hs9.2.2.1 (fun j hj => by
                   by_cases e : j = h
                   · rw [e, pset_s]
                   · rw [pset_n e]; exact hs9.2.2.2.1 hr0 j (by omega)) h0)
            · -- on 91
              refine J_iload_n dX6_place_91 rfl ?_
              refine M_iret dX6_place_92 rfl rfl ?_
              first
              | (rw [lpS_2 (Nat.not_lt.mp (fun q => c6 (by rw [hc.2.2.1]; exact nI_lt q (by decide))))] at h0; exact h0 _ hc)
              | (rw [lpS_y hlt hb (fun q => c6 (by rw [q]; rfl))] at h0; exact h0 _ hc3)
        · -- false
          refine J_if_eq (tgt := 100) dX6_place_69 (by decide) (fun c7 => ?_) (fun c7 => ?_)
          · -- to 100
            refine J_iinc (v := nI (s + 1)) dX6_place_100 rfl (nI_1 s) (by decide) rfl ?_
            dsimp only [setL]
            refine J_dropN 3 ?_
            refine J_goto (tgt := 34) dX6_place_103 (by decide) ?_
            first
            | (rw [lpS_f hlt hb] at h0
               exact ih (s + 1) p (t + 1) N2 (by omega) hc2 hp (by omega) hz h0)
            | (rw [lpS_n hlt hb hr0] at h0
               exact ih (s + 1) _ _ _ (by omega) (hc3.w30 (j := h) (q := 0)) (fun j => by
                 by_cases e : j = h
                 · rw [e, pset_s]; omega
                 · rw [pset_n e]; exact hs9.2.1 j) hs9.2.2.1 (fun j hj => by
                 by_cases e : j = h
                 · rw [e, pset_s]
                 · rw [pset_n e]; exact hs9.2.2.2.1 hr0 j (by omega)) h0)
          · -- on 72
            exact absurd c7 (by decide)
      · -- on 50
        refine J_bipush (v := -2) dX6_place_50 (by decide) ?_
        refine M_iret dX6_place_52 rfl rfl ?_
        first
        | (rw [lpS_2 (Nat.not_lt.mp (fun q => c2 (by rw [hc.2.2.1]; exact nI_lt q (by decide))))] at h0; exact h0 _ hc)
        | (rw [lpS_y hlt hb (fun q => c2 (by rw [q]; rfl))] at h0; exact h0 _ hc3)
set_option maxRecDepth 100000 in
set_option maxHeartbeats 1000000 in
theorem tX6_place {M0 : Mem} {C st : Nat → Nat} {m L n : Nat} (hW : IW M0 C st m L n) : ∀ k h p t N (Φ : Option Int32 → Mem → Prop), h + k = n → CI M0 N C st m p t → (∀ j, p j ≤ 24) → t ≤ 20000 → (∀ j, h ≤ j → p j = 0) → (∀ N2, CI M0 N2 C st m (plc (M0.1 66) (ftB M0 C st m) k h p t).2.1 (plc (M0.1 66) (ftB M0 C st m) k h p t).2.2 → Φ (some (rvI (plc (M0.1 66) (ftB M0 C st m) k h p t).1)) N2) → JM noRo (5 + k) mX6_place 0 [some (.ref 29), some (.int (nI h))] [] N Φ := by
  have hn12 := hW.2.2.2.1.1
  intro k
  induction k with
  | zero =>
    intro h p t N Φ hk hc hp ht hz h0
    refine J_iload_n dX6_place_0 rfl ?_
    refine J_aload_n dX6_place_1 rfl ?_
    refine M_getR dX6_place_2 fX6_21 rfl rfl (by decide) ?_
    refine M_callV0 (mc := mX1_count) dX6_place_5 kX6_54 oX1_count (Nat.le_of_ble_eq_true rfl) (Nat.le_of_ble_eq_true rfl) rfl (by decide) rfl ?_
    refine M_more (d := 0) (Nat.zero_le _) (tX1_count ?_)
    rw [hc.1 1 (by decide), hW.2.2.2.1.2.1]
    refine J_icmp_lt (tgt := 13) dX6_place_8 (by decide) (fun c2 => ?_) (fun c2 => ?_)
    · -- to 13
      exact absurd c2 (nI_nlt (by omega) (by omega))
    · -- on 11
      refine J_iconst (v := 1) dX6_place_11 (by decide) ?_
      refine M_iret dX6_place_12 rfl rfl ?_
      exact h0 _ hc
  | succ k ih =>
    intro h p t N Φ hk hc hp ht hz h0
    refine J_iload_n dX6_place_0 rfl ?_
    refine J_aload_n dX6_place_1 rfl ?_
    refine M_getR dX6_place_2 fX6_21 rfl rfl (by decide) ?_
    refine M_callV0 (mc := mX1_count) dX6_place_5 kX6_54 oX1_count (Nat.le_of_ble_eq_true rfl) (Nat.le_of_ble_eq_true rfl) rfl (by decide) rfl ?_
    refine M_more (d := 0) (Nat.zero_le _) (tX1_count ?_)
    rw [hc.1 1 (by decide), hW.2.2.2.1.2.1]
    refine J_icmp_lt (tgt := 13) dX6_place_8 (by decide) (fun c2 => ?_) (fun c2 => ?_)
    · -- to 13
      refine J_aload_n dX6_place_13 rfl ?_
      refine M_getR dX6_place_14 fX6_21 rfl rfl (by decide) ?_
      refine J_iload_n dX6_place_17 rfl ?_
      refine M_callV1 (mc := mX1_isLame) dX6_place_18 kX6_60 oX1_isLame (Nat.le_of_ble_eq_true rfl) (Nat.le_of_ble_eq_true rfl) rfl (by decide) rfl ?_
      refine M_more (d := 0) (Nat.zero_le _) (tX1_isLame (by omega) (by rw [hc.1 5 (by decide)]; exact hW.l01 h) ?_)
      rw [hc.1 5 (by decide), hW.1.2.2.2.1]
      refine J_if_eq (tgt := 32) dX6_place_21 (by decide) (fun c4 => ?_) (fun c4 => ?_)
      · -- to 32
        refine J_iconst (v := 0) dX6_place_32 (by decide) ?_
        refine J_istore_n dX6_place_33 (by decide) rfl ?_
        dsimp only [setL]
        rw [plc, if_pos c4] at h0
        exact tX6_place_l (D := 5 + k) (rec := plc (M0.1 66) (ftB M0 C st m) k (h + 1)) hW (by omega) (by omega) (fun p t N Ψ a1 a2 a3 a4 a5 => ih (h + 1) p t N Ψ (by omega) a1 a2 a3 a4 a5) (fun p t a2 a3 a4 => plc_ok k (h + 1) p t a2 a3 a4) 24 0 p t N (by omega) hc hp ht hz h0
      · -- on 24
        refine J_aload_n dX6_place_24 rfl ?_
        refine J_iload_n dX6_place_25 rfl ?_
        refine J_iconst (v := 1) dX6_place_26 (by decide) ?_
        refine J_iadd dX6_place_27 ?_
        refine M_callV1 (mc := mX6_place) dX6_place_28 kX6_50 oX6_place (Nat.le_of_ble_eq_true rfl) (Nat.le_of_ble_eq_true rfl) rfl (by decide) rfl ?_
        rw [nI_1]
        refine ih (h + 1) p t N _ (by omega) hc hp ht (fun j hj => hz j (by omega)) (fun N2 hc2 => ?_)
        refine M_iret dX6_place_31 rfl rfl ?_
        rw [plc, if_neg c4] at h0
        exact h0 _ hc2
    · -- on 11
      exact absurd (nI_lt (by omega) (by omega)) c2

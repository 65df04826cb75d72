set_option maxRecDepth 100000 in
set_option maxHeartbeats 1000000 in
theorem tM_plan_back {d : Nat} {Φ : Option Int32 → Mem → Prop} {C st : Nat → Nat} {m L n : Nat} {M0 : Mem} {h h2 s t : Nat} {p : Nat → Nat} {N : Mem} (hW : IW M0 C st m L n) (hc : RI M0 N p t) (hlt : h < h2) (h2n : h2 < n) (hn12 : n ≤ 12) (hs : s < 24) (hls : lsL (M0.1 66) h2 = h + 1) (hph : p h = s + 1) (hp2 : p h2 = 0) (h0 : ∀ N2, RI M0 N2 (pset p h 0) t → JM noRo (d + 5) mX12_plan 34 [some (.ref 62), some (.int (nI h)), some (.int (nI (s + 1)))] [] N2 Φ) : JM noRo (d + 5) mX12_plan 34 [some (.ref 62), some (.int (nI h2)), some (.int (nI 24))] [] N Φ := by
  refine J_iload_n dX12_plan_34 rfl ?_
  refine J_if_lt (tgt := 146) dX12_plan_35 (by decide) (fun c1 => ?_) (fun c1 => ?_)
  · -- to 146
    exact absurd c1 (nI_nlt (b := 0) (Nat.zero_le _) (by omega))
  · -- on 38
    refine J_iload_n dX12_plan_38 rfl ?_
    refine J_aload_n dX12_plan_39 rfl ?_
    refine M_getI dX12_plan_40 fX12_132 rfl rfl (by decide) ?_
    refine J_icmp_ge (tgt := 146) dX12_plan_43 (by decide) (fun c2 => ?_) (fun c2 => ?_)
    · -- to 146
      exact absurd c2 (by rw [hc.vw.2.2.1, hW.2.2.2.1.2.2]; exact nI_ge (by omega) (by omega))
    · -- on 46
      refine J_iload_n dX12_plan_46 rfl ?_
      refine J_bipush (v := 24) dX12_plan_47 (by decide) ?_
      refine J_icmp_ne (tgt := 90) dX12_plan_49 (by decide) (fun c3 => ?_) (fun c3 => ?_)
      · -- to 90
        exact absurd rfl c3
      · -- on 52
        refine J_aload_n dX12_plan_52 rfl ?_
        refine M_getR dX12_plan_53 fX12_81 rfl rfl (by decide) ?_
        refine J_iload_n dX12_plan_56 rfl ?_
        refine J_iconst (v := -1) dX12_plan_57 (by decide) ?_
        refine M_iastE dX12_plan_58 rfl (by decide) (by first | rfl | assumption) (by omega) ?_
        rw [show (-1 : Int32) = tp 0 from rfl]
        refine J_aload_n dX12_plan_59 rfl ?_
        refine J_iload_n dX12_plan_60 rfl ?_
        refine M_callV1 (mc := mX12_lastOf) dX12_plan_61 kX12_309 oX12_lastOf (Nat.le_of_ble_eq_true rfl) (Nat.le_of_ble_eq_true rfl) rfl (by decide) rfl ?_
        refine tX12_lastOf (by rw [rd2 (by decide), hc.vw.1 66 (by decide)]; exact hW.2.2.1.1) (by omega) ?_
        rw [show (wr N 85 h2 (tp 0)).1 66 = M0.1 66 by rw [rd2 (by decide)]; exact hc.vw.1 66 (by decide), hls, show tp (h + 1) = nI h from rfl]
        refine J_istore_n dX12_plan_64 (by decide) rfl ?_
        dsimp only [setL]
        refine J_iload_n dX12_plan_65 rfl ?_
        refine J_if_ge (tgt := 71) dX12_plan_66 (by decide) (fun c5 => ?_) (fun c5 => ?_)
        · -- to 71
          refine J_aload_n dX12_plan_71 rfl ?_
          refine M_getR dX12_plan_72 fX12_81 rfl rfl (by decide) ?_
          refine J_iload_n dX12_plan_75 rfl ?_
          refine M_ialdE dX12_plan_76 rfl (by decide) (by first | rfl | assumption) (by omega) ?_
          rw [rd3 (by omega), hc.2.2.2 h (by omega), hph, show tp (s + 1) = nI s from rfl]
          refine J_iconst (v := 1) dX12_plan_77 (by decide) ?_
          refine J_iadd dX12_plan_78 ?_
          rw [nI_1]
          refine J_istore_n dX12_plan_79 (by decide) rfl ?_
          dsimp only [setL]
          refine J_aload_n dX12_plan_80 rfl ?_
          refine M_getR dX12_plan_81 fX12_81 rfl rfl (by decide) ?_
          refine J_iload_n dX12_plan_84 rfl ?_
          refine J_iconst (v := -1) dX12_plan_85 (by decide) ?_
          refine M_iastE dX12_plan_86 rfl (by decide) (by first | rfl | assumption) (by omega) ?_
          rw [show (-1 : Int32) = tp 0 from rfl]
          refine J_goto (tgt := 34) dX12_plan_87 (by decide) ?_
          refine h0 _ ?_
          have r1 := hc.w85 (j := h2) (q := 0)
          have r2 := r1.w85 (j := h) (q := 0)
          have e : pset (pset p h2 0) h 0 = pset p h 0 := by
            funext i
            by_cases q : i = h
            · rw [q, pset_s, pset_s]
            · rw [pset_n q, pset_n q]
              by_cases q2 : i = h2
              · rw [q2, pset_s, hp2]
              · rw [pset_n q2]
          rw [e] at r2
          exact r2
        · -- on 69
          exact absurd (nI_le (a := 0) (Nat.zero_le _) (by omega)) c5
set_option maxRecDepth 100000 in
set_option maxHeartbeats 1000000 in
theorem tM_plan_end {d : Nat} {Φ : Option Int32 → Mem → Prop} {C st : Nat → Nat} {m L n : Nat} {M0 : Mem} {s t : Nat} {p : Nat → Nat} {N : Mem} (hW : IW M0 C st m L n) (hn12 : n ≤ 12) (hc : RI M0 N p t) (h : JM noRo (d + 5) mX12_plan 146 [some (.ref 62)] [] N Φ) : JM noRo (d + 5) mX12_plan 34 [some (.ref 62), some (.int (nI n)), some (.int (nI s))] [] N Φ := by
  refine J_iload_n dX12_plan_34 rfl ?_
  refine J_if_lt (tgt := 146) dX12_plan_35 (by decide) (fun c1 => ?_) (fun c1 => ?_)
  · -- to 146
    exact absurd c1 (nI_nlt (b := 0) (Nat.zero_le _) (by omega))
  · -- on 38
    refine J_iload_n dX12_plan_38 rfl ?_
    refine J_aload_n dX12_plan_39 rfl ?_
    refine M_getI dX12_plan_40 fX12_132 rfl rfl (by decide) ?_
    refine J_icmp_ge (tgt := 146) dX12_plan_43 (by decide) (fun c2 => ?_) (fun c2 => ?_)
    · -- to 146
      refine J_dropN 1 ?_
      exact h
    · -- on 46
      exact absurd (by rw [hc.vw.2.2.1, hW.2.2.2.1.2.2]; exact nI_le (Nat.le_refl _) (by omega)) c2
set_option maxRecDepth 100000 in
set_option maxHeartbeats 1000000 in
theorem tM_plan_l {d : Nat} {Φ : Option Int32 → Mem → Prop} {C st : Nat → Nat} {m L n : Nat} {M0 : Mem} (hW : IW M0 C st m L n) (hn12 : n ≤ 12) : ∀ K k, k < K → ∀ h, h + k + 1 = n → M0.1 66 h = 0 → ∀ l s p t N, s + l = 24 → RI M0 N p t → (∀ j, p j ≤ 24) → t ≤ 20000 → (∀ j, h ≤ j → p j = 0) → ((lpS (plc (M0.1 66) (ftB M0 C st m) k (h + 1)) (fun p s => ftB M0 C st m p h s) h l s p t).1 = 1 → ∀ N2, RI M0 N2 (lpS (plc (M0.1 66) (ftB M0 C st m) k (h + 1)) (fun p s => ftB M0 C st m p h s) h l s p t).2.1 (lpS (plc (M0.1 66) (ftB M0 C st m) k (h + 1)) (fun p s => ftB M0 C st m p h s) h l s p t).2.2 → JM noRo (d + 5) mX12_plan 146 [some (.ref 62)] [] N2 Φ) → ((lpS (plc (M0.1 66) (ftB M0 C st m) k (h + 1)) (fun p s => ftB M0 C st m p h s) h l s p t).1 = 2 → ∀ N2, RI M0 N2 (lpS (plc (M0.1 66) (ftB M0 C st m) k (h + 1)) (fun p s => ftB M0 C st m p h s) h l s p t).2.1 (lpS (plc (M0.1 66) (ftB M0 C st m) k (h + 1)) (fun p s => ftB M0 C st m p h s) h l s p t).2.2 → Φ (some (-2)) N2) → ((lpS (plc (M0.1 66) (ftB M0 C st m) k (h + 1)) (fun p s => ftB M0 C st m p h s) h l s p t).1 = 0 → ∀ N2, RI M0 N2 (lpS (plc (M0.1 66) (ftB M0 C st m) k (h + 1)) (fun p s => ftB M0 C st m p h s) h l s p t).2.1 (lpS (plc (M0.1 66) (ftB M0 C st m) k (h + 1)) (fun p s => ftB M0 C st m p h s) h l s p t).2.2 → JM noRo (d + 5) mX12_plan 34 [some (.ref 62), some (.int (nI h)), some (.int (nI 24))] [] N2 Φ) → JM noRo (d + 5) mX12_plan 34 [some (.ref 62), some (.int (nI h)), some (.int (nI s))] [] N Φ := by
  intro K
  induction K with
  | zero => intro k hk; exact absurd hk (by omega)
  | succ K ih0 =>
    intro k hk h hhk hlm l
    have ih : ∀ k2, k2 < k → _ := fun k2 q => ih0 k2 (by omega)
    induction l with
    | zero =>
      intro s p t N hs hc hp ht hz h1 h2 h0
      obtain rfl : s = 24 := by omega
      exact h0 rfl N hc
    | succ l ihl =>
      intro s p t N hs hc hp ht hz h1 h2 h0
      refine J_iload_n dX12_plan_34 rfl ?_
      refine J_if_lt (tgt := 146) dX12_plan_35 (by decide) (fun c1 => ?_) (fun c1 => ?_)
      · -- to 146
        exact absurd c1 (nI_nlt (b := 0) (Nat.zero_le _) (by omega))
      · -- on 38
        refine J_iload_n dX12_plan_38 rfl ?_
        refine J_aload_n dX12_plan_39 rfl ?_
        refine M_getI dX12_plan_40 fX12_132 rfl rfl (by decide) ?_
        refine J_icmp_ge (tgt := 146) dX12_plan_43 (by decide) (fun c2 => ?_) (fun c2 => ?_)
        · -- to 146
          exact absurd c2 (by rw [hc.vw.2.2.1, hW.2.2.2.1.2.2]; exact nI_ge (by omega) (by omega))
        · -- on 46
          refine J_iload_n dX12_plan_46 rfl ?_
          refine J_bipush (v := 24) dX12_plan_47 (by decide) ?_
          refine J_icmp_ne (tgt := 90) dX12_plan_49 (by decide) (fun c3 => ?_) (fun c3 => ?_)
          · -- to 90
            refine J_aload_n dX12_plan_90 rfl ?_
            refine M_getI dX12_plan_91 fX12_306 rfl rfl (by decide) ?_
            refine J_sipush (v := 20000) dX12_plan_94 (by decide) ?_
            refine J_icmp_ne (tgt := 103) dX12_plan_97 (by decide) (fun c4 => ?_) (fun c4 => ?_)
            · -- to 103
              have hlt : ¬ 20000 ≤ t := fun q => c4 (by rw [hc.2.2.1, show t = 20000 by omega]; rfl)
              refine J_aload_n dX12_plan_103 rfl ?_
              refine J_dup dX12_plan_104 rfl ?_
              refine M_getI dX12_plan_105 fX12_306 rfl rfl (by decide) ?_
              refine J_iconst (v := 1) dX12_plan_108 (by decide) ?_
              refine J_iadd dX12_plan_109 ?_
              rw [hc.2.2.1, nI_1]
              refine M_putI dX12_plan_110 pX12_306 rfl rfl (by decide) ?_
              refine J_aload_n dX12_plan_113 rfl ?_
              refine J_iload_n dX12_plan_114 rfl ?_
              refine J_iload_n dX12_plan_115 rfl ?_
              refine M_callV2 (mc := mX12_fits) dX12_plan_116 kX12_312 oX12_fits (Nat.le_of_ble_eq_true rfl) (Nat.le_of_ble_eq_true rfl) rfl (by decide) rfl ?_
              refine tX12_fits hW (hc.w62 (t2 := t + 1)) (by omega) (by omega) hp (fun hb N2 hc2 => ?_) (fun hb N2 hc2 => ?_)
              · -- true
                refine J_if_eq (tgt := 140) dX12_plan_119 (by decide) (fun c6 => ?_) (fun c6 => ?_)
                · -- to 140
                  exact absurd c6 (by decide)
                · -- on 122
                  refine J_aload_n dX12_plan_122 rfl ?_
                  refine M_getR dX12_plan_123 fX12_81 rfl rfl (by decide) ?_
                  refine J_iload_n dX12_plan_126 rfl ?_
                  refine J_iload_n dX12_plan_127 rfl ?_
                  refine M_iastE dX12_plan_128 rfl (by decide) (by first | rfl | assumption) (by omega) ?_
                  have hp1 : ∀ j, pset p h (s + 1) j ≤ 24 := fun j => by
                    by_cases e : j = h
                    · rw [e, pset_s]; omega
                    · rw [pset_n e]; exact hp j
                  have hz1 : ∀ j, h + 1 ≤ j → pset p h (s + 1) j = 0 := fun j hj => by rw [pset_n (by omega)]; exact hz j (by omega)
                  have hc3 : RI M0 (wr N2 85 h (nI s)) (pset p h (s + 1)) (t + 1) := hc2.w85 (j := h) (q := s + 1)
                  have hok := plc_ok (lm := M0.1 66) (ft := ftB M0 C st m) k (h + 1) (pset p h (s + 1)) (t + 1) hp1 (by omega) hz1
                  obtain ⟨nh, nb, nc⟩ := nx_at (lm := M0.1 66) k (h + 1)
                  have hln := ls_nx (lm := M0.1 66) k (h + 1)
                  rw [ls_0 hlm] at hln
                  have kk : JM noRo (d + 5) mX12_plan 34 [some (.ref 62), some (.int (nI (nxL (M0.1 66) k (h + 1)))), some (.int (nI 0))] [] (wr N2 85 h (nI s)) Φ := by
                    by_cases hq : nxL (M0.1 66) k (h + 1) = n
                    · have ep := plc_nx (lm := M0.1 66) (ft := ftB M0 C st m) (p := pset p h (s + 1)) (t := t + 1) k (h + 1) 0 (by omega)
                      have e1 : plc (M0.1 66) (ftB M0 C st m) k (h + 1) (pset p h (s + 1)) (t + 1) = (1, pset p h (s + 1), t + 1) := ep
                      rw [lpS_y hlt hb (by rw [e1]; show ¬ 1 = 0; decide), e1] at h1
                      rw [hq]
                      exact tM_plan_end hW hn12 hc3 (h1 rfl _ hc3)
                    · have hl2 := nc.resolve_left (fun q => hq (by omega))
                      obtain ⟨k2, hk2⟩ : ∃ k2, nxL (M0.1 66) k (h + 1) + (k2 + 1) = h + 1 + k := ⟨h + k - nxL (M0.1 66) k (h + 1), by omega⟩
                      have ep := plc_nx (lm := M0.1 66) (ft := ftB M0 C st m) (p := pset p h (s + 1)) (t := t + 1) k (h + 1) (k2 + 1) (by omega)
                      rw [show plc (M0.1 66) (ftB M0 C st m) (k2 + 1) (nxL (M0.1 66) k (h + 1)) (pset p h (s + 1)) (t + 1) = lpS (plc (M0.1 66) (ftB M0 C st m) k2 (nxL (M0.1 66) k (h + 1) + 1)) (fun p s => ftB M0 C st m p (nxL (M0.1 66) k (h + 1)) s) (nxL (M0.1 66) k (h + 1)) 24 0 (pset p h (s + 1)) (t + 1) by rw [plc, if_pos hl2]] at ep
                      refine ih k2 (by omega) (nxL (M0.1 66) k (h + 1)) (by omega) hl2 24 0 (pset p h (s + 1)) (t + 1) _ (by omega) hc3 hp1 (by omega) (fun j hj => hz1 j (by omega)) ?_ ?_ ?_
                      · rw [← ep]
                        intro e N3 hc4
                        rw [lpS_y hlt hb (by rw [e]; decide)] at h1
                        exact h1 e N3 hc4
                      · rw [← ep]
                        intro e N3 hc4
                        rw [lpS_y hlt hb (by rw [e]; decide)] at h2
                        exact h2 e N3 hc4
                      · rw [← ep]
                        intro e N3 hc4
                        rw [lpS_n hlt hb e] at h1 h2 h0
                        refine tM_plan_back (h := h) (s := s) hW hc4 (by omega) (by omega) hn12 (by omega) hln (by rw [hok.1 h (by omega), pset_s]) (hok.2.2.2.1 e _ (by omega)) (fun N4 hc5 => ?_)
                        exact ihl (s + 1) _ _ N4 (by omega) hc5 (fun j => by
                          by_cases e9 : j = h
                          · rw [e9, pset_s]; omega
                          · rw [pset_n e9]; exact hok.2.1 j) hok.2.2.1 (fun j hj => by
                          by_cases e9 : j = h
                          · rw [e9, pset_s]
                          · rw [pset_n e9]; exact hok.2.2.2.1 e j (by omega)) h1 h2 h0
                  refine J_aload_n dX12_plan_129 rfl ?_
                  refine J_iload_n dX12_plan_130 rfl ?_
                  refine M_callV1 (mc := mX12_nextOf) dX12_plan_131 kX12_303 oX12_nextOf (Nat.le_of_ble_eq_true rfl) (Nat.le_of_ble_eq_true rfl) rfl (by decide) rfl ?_
                  refine tX12_nextOf (l := k) (k := h + 1) (n := n) (by rw [rd2 (by decide), hc2.vw.2.2.1]; exact hW.2.2.2.1.2.2) hn12 (by rw [rd2 (by decide), hc2.vw.1 66 (by decide)]; exact hW.2.2.1.1) (nI_1 h) (by omega) ?_
                  rw [show (wr N2 85 h (nI s)).1 66 = M0.1 66 by rw [rd2 (by decide)]; exact hc2.vw.1 66 (by decide)]
                  refine J_istore_n dX12_plan_134 (by decide) rfl ?_
                  dsimp only [setL]
                  refine J_iconst (v := 0) dX12_plan_135 (by decide) ?_
                  refine J_istore_n dX12_plan_136 (by decide) rfl ?_
                  dsimp only [setL]
                  refine J_goto (tgt := 34) dX12_plan_137 (by decide) ?_
                  first
                  | (rw [lpS_f hlt hb] at h1 h2 h0
                     exact ihl (s + 1) p (t + 1) _ (by omega) hc2 hp (by omega) hz h1 h2 h0)
                  | exact kk
              · -- false
                refine J_if_eq (tgt := 140) dX12_plan_119 (by decide) (fun c8 => ?_) (fun c8 => ?_)
                · -- to 140
                  refine J_iinc (v := nI (s + 1)) dX12_plan_140 rfl (nI_1 s) (by decide) rfl ?_
                  dsimp only [setL]
                  refine J_goto (tgt := 34) dX12_plan_143 (by decide) ?_
                  first
                  | (rw [lpS_f hlt hb] at h1 h2 h0
                     exact ihl (s + 1) p (t + 1) _ (by omega) hc2 hp (by omega) hz h1 h2 h0)
                  | exact kk
                · -- on 122
                  exact absurd c8 (by decide)
            · -- on 100
              refine J_bipush (v := -2) dX12_plan_100 (by decide) ?_
              refine M_iret dX12_plan_102 rfl rfl ?_
              rw [lpS_2 (by have := (nI_eq (a := t) (b := 20000) (by omega) (by decide)).mp (by rw [← hc.2.2.1]; exact c4); omega)] at h2
              exact h2 rfl _ hc
          · -- on 52
            exact absurd ((nI_eq (a := s) (b := 24) (by omega) (by decide)).mp c3) (by omega)

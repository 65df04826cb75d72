def cpyF (f g : Nat → Int32) (i : Nat) : Nat → Int32 := fun j => if j < i then f j else g j
theorem cpyF_0 {f g : Nat → Int32} : cpyF f g 0 = g := by
  funext j
  exact if_neg (by omega)
theorem cpyF_s {f g : Nat → Int32} {i : Nat} : upd (cpyF f g i) i (f i) = cpyF f g (i + 1) := by
  funext j
  by_cases h : j = i
  · rw [h, updS]
    exact (if_pos (by omega)).symm
  · rw [updN h]
    unfold cpyF
    by_cases h2 : j < i
    · rw [if_pos h2, if_pos (by omega)]
    · rw [if_neg h2, if_neg (by omega)]
theorem cpyF_lt {f g : Nat → Int32} {i j : Nat} (h : j < i) : cpyF f g i j = f j := if_pos h
set_option maxRecDepth 100000 in
set_option maxHeartbeats 1000000 in
theorem tM_plan_f {d : Nat} {M : Mem} {Φ : Option Int32 → Mem → Prop} {x : Int32} (h : JM noRo (d + 5) mX12_plan 34 [some (.ref 62), some (.int x), some (.int 0)] [] (wa M 85 (fillF (M.1 85) (-1) 12)) Φ) : ∀ l k, k + l = 12 → JM noRo (d + 5) mX12_plan 15 [some (.ref 62), some (.int x), some (.int 0), some (.int (nI k))] [] (wa M 85 (fillF (M.1 85) (-1) k)) Φ := by
  intro l
  induction l with
  | zero =>
    intro k hk
    refine J_iload_n dX12_plan_15 rfl ?_
    refine J_bipush (v := 12) dX12_plan_16 (by decide) ?_
    refine J_icmp_ge (tgt := 34) dX12_plan_18 (by decide) (fun c1 => ?_) (fun c1 => ?_)
    · -- to 34
      obtain rfl : k = 12 := by omega
      refine J_dropN 3 ?_
      exact h
    · -- on 21
      exact absurd (nI_le (a := 12) (by omega) (by omega)) c1
  | succ l ih =>
    intro k hk
    refine J_iload_n dX12_plan_15 rfl ?_
    refine J_bipush (v := 12) dX12_plan_16 (by decide) ?_
    refine J_icmp_ge (tgt := 34) dX12_plan_18 (by decide) (fun c1 => ?_) (fun c1 => ?_)
    · -- to 34
      exact absurd c1 (nI_ge (b := 12) (by omega) (by decide))
    · -- on 21
      refine J_aload_n dX12_plan_21 rfl ?_
      refine M_getR dX12_plan_22 fX12_81 rfl rfl (by decide) ?_
      refine J_iload_n dX12_plan_25 rfl ?_
      refine J_iconst (v := -1) dX12_plan_26 (by decide) ?_
      refine M_iastE dX12_plan_27 rfl (by decide) (by first | rfl | assumption) (by omega) ?_
      rw [wa_wr, fillF_s]
      refine J_iinc (v := nI (k + 1)) dX12_plan_28 rfl (nI_1 k) (by decide) rfl ?_
      dsimp only [setL]
      refine J_goto (tgt := 15) dX12_plan_31 (by decide) ?_
      exact ih (k + 1) (by omega)
set_option maxRecDepth 100000 in
set_option maxHeartbeats 1000000 in
theorem tM_plan_c {d : Nat} {M : Mem} {Φ : Option Int32 → Mem → Prop} (h : Φ (some 1) (wr (wa M 86 (cpyF (M.1 85) (M.1 86) 12)) 62 12 1)) : ∀ l k, k + l = 12 → JM noRo (d + 5) mX12_plan 148 [some (.ref 62), none, none, some (.int (nI k))] [] (wa M 86 (cpyF (M.1 85) (M.1 86) k)) Φ := by
  intro l
  induction l with
  | zero =>
    intro k hk
    refine J_iload_n dX12_plan_148 rfl ?_
    refine J_bipush (v := 12) dX12_plan_149 (by decide) ?_
    refine J_icmp_ge (tgt := 172) dX12_plan_151 (by decide) (fun c1 => ?_) (fun c1 => ?_)
    · -- to 172
      refine J_aload_n dX12_plan_172 rfl ?_
      refine J_iconst (v := 1) dX12_plan_173 (by decide) ?_
      refine M_putZ dX12_plan_174 pX12_138 rfl rfl (by decide) (by first | assumption | exact Or.inl rfl | exact Or.inr rfl) ?_
      refine J_iconst (v := 1) dX12_plan_177 (by decide) ?_
      refine M_iret dX12_plan_178 rfl rfl ?_
      obtain rfl : k = 12 := by omega
      exact h
    · -- on 154
      exact absurd (nI_le (a := 12) (by omega) (by omega)) c1
  | succ l ih =>
    intro k hk
    refine J_iload_n dX12_plan_148 rfl ?_
    refine J_bipush (v := 12) dX12_plan_149 (by decide) ?_
    refine J_icmp_ge (tgt := 172) dX12_plan_151 (by decide) (fun c1 => ?_) (fun c1 => ?_)
    · -- to 172
      exact absurd c1 (nI_ge (b := 12) (by omega) (by decide))
    · -- on 154
      refine J_aload_n dX12_plan_154 rfl ?_
      refine M_getR dX12_plan_155 fX12_84 rfl rfl (by decide) ?_
      refine J_iload_n dX12_plan_158 rfl ?_
      refine J_aload_n dX12_plan_159 rfl ?_
      refine M_getR dX12_plan_160 fX12_81 rfl rfl (by decide) ?_
      refine J_iload_n dX12_plan_163 rfl ?_
      refine M_ialdE dX12_plan_164 rfl (by decide) (by first | rfl | assumption) (by omega) ?_
      rw [rdb (by decide)]
      refine M_iastE dX12_plan_165 rfl (by decide) (by first | rfl | assumption) (by omega) ?_
      rw [wa_wr, cpyF_s]
      refine J_iinc (v := nI (k + 1)) dX12_plan_166 rfl (nI_1 k) (by decide) rfl ?_
      dsimp only [setL]
      refine J_goto (tgt := 148) dX12_plan_169 (by decide) ?_
      exact ih (k + 1) (by omega)
set_option maxRecDepth 100000 in
set_option maxHeartbeats 1000000 in
theorem tM_plan_d {d : Nat} {M : Mem} {Φ : Option Int32 → Mem → Prop} (h : Φ (some 1) (wr (wa M 86 (cpyF (M.1 85) (M.1 86) 12)) 62 12 1)) : JM noRo (d + 5) mX12_plan 146 [some (.ref 62)] [] M Φ := by
  refine J_iconst (v := 0) dX12_plan_146 (by decide) ?_
  refine J_istore_n dX12_plan_147 (by decide) rfl ?_
  dsimp only [setL]
  have q := tM_plan_c (d := d) h 12 0 (by omega)
  rw [cpyF_0, wa_self] at q
  exact q
set_option maxRecDepth 100000 in
set_option maxHeartbeats 1000000 in
theorem tM_plan_z {d : Nat} {Φ : Option Int32 → Mem → Prop} {C st : Nat → Nat} {m L n : Nat} {M0 : Mem} {h t : Nat} {p : Nat → Nat} {N : Mem} (hW : IW M0 C st m L n) (hc : RI M0 N p t) (hn : h < n) (hn12 : n ≤ 12) (hls : lsL (M0.1 66) h = 0) (hp2 : p h = 0) (h0 : ∀ N2, RI M0 N2 p t → Φ (some 0) N2) : JM noRo (d + 5) mX12_plan 34 [some (.ref 62), some (.int (nI h)), some (.int (nI 24))] [] N Φ := by
  refine J_iload_n dX12_plan_34 rfl ?_
  refine J_if_lt (tgt := 146) dX12_plan_35 (by decide) (fun c1 => ?_) (fun c1 => ?_)
  · -- to 146
    exact absurd c1 (nI_nlt (b := 0) (Nat.zero_le _) (by omega))
  · -- on 38
    refine J_iload_n dX12_plan_38 rfl ?_
    refine J_aload_n dX12_plan_39 rfl ?_
    refine M_getI dX12_plan_40 fX12_132 rfl rfl (by decide) ?_
    refine J_icmp_ge (tgt := 146) dX12_plan_43 (by decide) (fun c2 => ?_) (fun c2 => ?_)
    · -- to 146
      exact absurd c2 (by rw [hc.vw.2.2.1, hW.2.2.2.1.2.2]; exact nI_ge (by omega) (by omega))
    · -- on 46
      refine J_iload_n dX12_plan_46 rfl ?_
      refine J_bipush (v := 24) dX12_plan_47 (by decide) ?_
      refine J_icmp_ne (tgt := 90) dX12_plan_49 (by decide) (fun c3 => ?_) (fun c3 => ?_)
      · -- to 90
        exact absurd rfl c3
      · -- on 52
        refine J_aload_n dX12_plan_52 rfl ?_
        refine M_getR dX12_plan_53 fX12_81 rfl rfl (by decide) ?_
        refine J_iload_n dX12_plan_56 rfl ?_
        refine J_iconst (v := -1) dX12_plan_57 (by decide) ?_
        refine M_iastE dX12_plan_58 rfl (by decide) (by first | rfl | assumption) (by omega) ?_
        refine J_aload_n dX12_plan_59 rfl ?_
        refine J_iload_n dX12_plan_60 rfl ?_
        refine M_callV1 (mc := mX12_lastOf) dX12_plan_61 kX12_309 oX12_lastOf (Nat.le_of_ble_eq_true rfl) (Nat.le_of_ble_eq_true rfl) rfl (by decide) rfl ?_
        refine tX12_lastOf (by rw [rd2 (by decide), hc.vw.1 66 (by decide)]; exact hW.2.2.1.1) (by omega) ?_
        rw [show (wr N 85 h (-1)).1 66 = M0.1 66 by rw [rd2 (by decide)]; exact hc.vw.1 66 (by decide), hls, show tp 0 = -1 from rfl]
        refine J_istore_n dX12_plan_64 (by decide) rfl ?_
        dsimp only [setL]
        refine J_iload_n dX12_plan_65 rfl ?_
        refine J_if_ge (tgt := 71) dX12_plan_66 (by decide) (fun c5 => ?_) (fun c5 => ?_)
        · -- to 71
          exact absurd c5 (by decide)
        · -- on 69
          refine J_iconst (v := 0) dX12_plan_69 (by decide) ?_
          refine M_iret dX12_plan_70 rfl rfl ?_
          refine h0 _ ?_
          have r1 := hc.w85 (j := h) (q := 0)
          have e : pset p h 0 = p := by
            funext i
            by_cases q : i = h
            · rw [q, pset_s, hp2]
            · rw [pset_n q]
          rw [e] at r1
          exact r1
set_option maxRecDepth 100000 in
set_option maxHeartbeats 1000000 in
theorem tM_plan {d : Nat} {M : Mem} {Φ : Option Int32 → Mem → Prop} {C st : Nat → Nat} {m L n : Nat} (hW : IW M C st m L n) (h1 : (plcM M C st m n).1 = 1 → ∀ N2, RI M N2 (plcM M C st m n).2.1 (plcM M C st m n).2.2 → Φ (some 1) (wr (wa N2 86 (cpyF (N2.1 85) (N2.1 86) 12)) 62 12 1)) (h2 : (plcM M C st m n).1 = 2 → ∀ N2, RI M N2 (plcM M C st m n).2.1 (plcM M C st m n).2.2 → Φ (some (-2)) N2) (h0 : (plcM M C st m n).1 = 0 → ∀ N2, RI M N2 (plcM M C st m n).2.1 (plcM M C st m n).2.2 → Φ (some 0) N2) : JM noRo (d + 5) mX12_plan 0 [some (.ref 62)] [] M Φ := by
  have hn12 := hW.2.2.2.1.1
  refine J_aload_n dX12_plan_0 rfl ?_
  refine J_iconst (v := -1) dX12_plan_1 (by decide) ?_
  refine M_callV1 (mc := mX12_nextOf) dX12_plan_2 kX12_303 oX12_nextOf (Nat.le_of_ble_eq_true rfl) (Nat.le_of_ble_eq_true rfl) rfl (by decide) rfl ?_
  refine tX12_nextOf (l := n) (k := 0) (n := n) hW.2.2.2.1.2.2 hn12 hW.2.2.1.1 rfl (by omega) ?_
  refine J_istore_n dX12_plan_5 (by decide) rfl ?_
  dsimp only [setL]
  refine J_iconst (v := 0) dX12_plan_6 (by decide) ?_
  refine J_istore_n dX12_plan_7 (by decide) rfl ?_
  dsimp only [setL]
  refine J_aload_n dX12_plan_8 rfl ?_
  refine J_iconst (v := 0) dX12_plan_9 (by decide) ?_
  refine M_putI dX12_plan_10 pX12_306 rfl rfl (by decide) ?_
  refine J_iconst (v := 0) dX12_plan_13 (by decide) ?_
  refine J_istore_n dX12_plan_14 (by decide) rfl ?_
  dsimp only [setL]
  obtain ⟨nh, nb, nc⟩ := nx_at (lm := M.1 66) n 0
  have hln := ls_nx (lm := M.1 66) n 0
  have hci : RI M (wa (wr M 62 42 0) 85 (fillF ((wr M 62 42 0).1 85) (-1) 12)) (fun _ => 0) 0 := by
    refine ⟨fun a ha => ?_, fun i hi => ?_, ?_, fun k hk => ?_⟩
    · rw [rdb (RL4_ne ha).2.2.2, rd2 (RL4_ne ha).1]
    · rw [rdb (by decide), rd3 hi]
    · rw [rdb (by decide), rd1]; rfl
    · rw [rda, fillF_lt hk]; rfl
  unfold plcM at h1 h2 h0
  have q : JM noRo (d + 5) mX12_plan 34 [some (.ref 62), some (.int (nI (nxL (M.1 66) n 0))), some (.int 0)] [] (wa (wr M 62 42 0) 85 (fillF ((wr M 62 42 0).1 85) (-1) 12)) Φ := by
    by_cases hq : nxL (M.1 66) n 0 = n
    · have ep := plc_nx (lm := M.1 66) (ft := ftB M C st m) (p := fun _ => 0) (t := 0) n 0 0 (by omega)
      have e1 : plc (M.1 66) (ftB M C st m) n 0 (fun _ => 0) 0 = (1, (fun _ => 0), 0) := ep
      rw [e1] at h1
      rw [hq]
      exact tM_plan_end (s := 0) hW hn12 hci (tM_plan_d (h1 rfl _ hci))
    · have hl2 := nc.resolve_left (fun q => hq (by omega))
      obtain ⟨k2, hk2⟩ : ∃ k2, nxL (M.1 66) n 0 + (k2 + 1) = 0 + n := ⟨n - nxL (M.1 66) n 0 - 1, by omega⟩
      have ep := plc_nx (lm := M.1 66) (ft := ftB M C st m) (p := fun _ => 0) (t := 0) n 0 (k2 + 1) (by omega)
      have hok := plc_ok (lm := M.1 66) (ft := ftB M C st m) n 0 (fun _ => 0) 0 (fun _ => Nat.zero_le _) (Nat.zero_le _) (fun _ _ => rfl)
      rw [show plc (M.1 66) (ftB M C st m) (k2 + 1) (nxL (M.1 66) n 0) (fun _ => 0) 0 = lpS (plc (M.1 66) (ftB M C st m) k2 (nxL (M.1 66) n 0 + 1)) (fun p s => ftB M C st m p (nxL (M.1 66) n 0) s) (nxL (M.1 66) n 0) 24 0 (fun _ => 0) 0 by rw [plc, if_pos hl2]] at ep
      refine tM_plan_l hW hn12 (k2 + 1) k2 (by omega) (nxL (M.1 66) n 0) (by omega) hl2 24 0 (fun _ => 0) 0 _ (by omega) hci (fun _ => Nat.zero_le _) (Nat.zero_le _) (fun _ _ => rfl) ?_ ?_ ?_
      · rw [← ep]
        intro e N3 hc4
        exact tM_plan_d (h1 e N3 hc4)
      · rw [← ep]
        intro e N3 hc4
        exact h2 e N3 hc4
      · rw [← ep]
        intro e N3 hc4
        exact tM_plan_z hW hc4 (by omega) hn12 hln (hok.2.2.2.1 e _ (by omega)) (fun N4 hc5 => h0 e N4 hc5)
  have z := tM_plan_f (d := d) (x := nI (nxL (M.1 66) n 0)) q 12 0 (by omega)
  rw [fillF_0, wa_self] at z
  exact z

theorem J_dropN {Ro : ROs} {d bc bs : Nat} {md : MD} {pc : Nat} {ls : List (Option Value)} {st : List Value} {h : PH} {Φ : Option Int32 → PH → Prop} (n : Nat) (k : J Ro d bc bs md pc (ls.take n) st h Φ) : J Ro d bc bs md pc ls st h Φ := by
  intro p l e R s m args below meth c H locs cells slots mc ms Q z b dC dI dA las hC hB hK hW hL hR
  refine k p l e R s m args below meth c H locs cells slots mc ms Q z b dC dI dA las hC hB hK hW ⟨hL.1, hL.2.1, fun i v hi => hL.2.2 i v ?_⟩ hR
  rw [List.getElem?_take] at hi
  split at hi
  · exact hi
  · cases hi
section LatS
variable {c : Int32} {wh ws wd : Nat → Int32} {x y : Int32} {k : Nat}
theorem latS1 (h : ¬ wh k = x) : latF c wh ws wd x y (k + 1) = latF c wh ws wd x y k := by rw [latF, if_neg (fun z => h z.1)]
theorem latS2 (h : ¬ ws k = y) : latF c wh ws wd x y (k + 1) = latF c wh ws wd x y k := by rw [latF, if_neg (fun z => h z.2.1)]
theorem latS3 (h : wd k ≤ latF c wh ws wd x y k) : latF c wh ws wd x y (k + 1) = latF c wh ws wd x y k := by rw [latF, if_neg (fun z => absurd z.2.2 (Int32.not_lt.mpr h))]
theorem latS4 (h1 : wh k = x) (h2 : ws k = y) (h3 : ¬ wd k ≤ latF c wh ws wd x y k) : latF c wh ws wd x y (k + 1) = wd k := by rw [latF, if_pos ⟨h1, h2, Int32.not_le.mp h3⟩]
end LatS
set_option maxRecDepth 100000 in
set_option maxHeartbeats 1000000 in
theorem tM_due_l {d : Nat} {M : Mem} {Φ : Option Int32 → Mem → Prop} {j s w : Nat} (hw : M.1 62 50 = nI w) (hwb : w ≤ 200) (hs : s < 3) (h : Φ (some (latF (M.1 65 j) (M.1 96) (M.1 97) (M.1 98) (nI j) (nI s) w + M.1 92 s)) M) : ∀ m i : Nat, i + m = w → JM noRo d mX12_due 38 [some (.ref 62), some (.int (nI j)), some (.int (nI s)), some (.int (latF (M.1 65 j) (M.1 96) (M.1 97) (M.1 98) (nI j) (nI s) i)), some (.int (nI i))] [] M Φ := by
  intro m
  induction m with
  | zero =>
    intro i hi
    refine J_iload dX12_due_38 rfl ?_
    refine J_aload_n dX12_due_40 rfl ?_
    refine M_getI dX12_due_41 fX12_337 rfl rfl (by decide) ?_
    refine J_icmp_ge (tgt := 94) dX12_due_44 (by decide) (fun c1 => ?_) (fun c1 => ?_)
    · -- to 94
      refine J_iload_n dX12_due_94 rfl ?_
      refine J_aload_n dX12_due_95 rfl ?_
      refine M_getR dX12_due_96 fX12_102 rfl rfl (by decide) ?_
      refine J_iload_n dX12_due_99 rfl ?_
      refine M_ialdE dX12_due_100 rfl (by decide) (by first | rfl | assumption) (by omega) ?_
      refine J_iadd dX12_due_101 ?_
      refine M_iret dX12_due_102 rfl rfl ?_
      obtain rfl : i = w := by omega
      exact h
    · -- on 47
      exact absurd (by rw [hw]; exact nI_le (by omega) (by omega)) c1
  | succ m ih =>
    intro i hi
    refine J_iload dX12_due_38 rfl ?_
    refine J_aload_n dX12_due_40 rfl ?_
    refine M_getI dX12_due_41 fX12_337 rfl rfl (by decide) ?_
    refine J_icmp_ge (tgt := 94) dX12_due_44 (by decide) (fun c1 => ?_) (fun c1 => ?_)
    · -- to 94
      exact absurd c1 (by rw [hw]; exact nI_ge (by omega) (by omega))
    · -- on 47
      refine J_aload_n dX12_due_47 rfl ?_
      refine M_getR dX12_due_48 fX12_114 rfl rfl (by decide) ?_
      refine J_iload dX12_due_51 rfl ?_
      refine M_ialdE dX12_due_53 rfl (by decide) (by first | rfl | assumption) (by omega) ?_
      refine J_iload_n dX12_due_54 rfl ?_
      refine J_icmp_ne (tgt := 88) dX12_due_55 (by decide) (fun c2 => ?_) (fun c2 => ?_)
      · -- to 88
        refine J_iinc (v := nI (i + 1)) dX12_due_88 rfl (nI_1 i) (by decide) rfl ?_
        dsimp only [setL]
        refine J_goto (tgt := 38) dX12_due_91 (by decide) ?_
        have q := ih (i + 1) (by omega)
        first
        | (rw [latS4 cA cB cC] at q; exact q)
        | (rw [latS1 c2] at q; exact q)
        | (rw [latS2 c2] at q; exact q)
        | (rw [latS3 c2] at q; exact q)
      · -- on 58
        have cA := c2
        refine J_aload_n dX12_due_58 rfl ?_
        refine M_getR dX12_due_59 fX12_117 rfl rfl (by decide) ?_
        refine J_iload dX12_due_62 rfl ?_
        refine M_ialdE dX12_due_64 rfl (by decide) (by first | rfl | assumption) (by omega) ?_
        refine J_iload_n dX12_due_65 rfl ?_
        refine J_icmp_ne (tgt := 88) dX12_due_66 (by decide) (fun c3 => ?_) (fun c3 => ?_)
        · -- to 88
          refine J_iinc (v := nI (i + 1)) dX12_due_88 rfl (nI_1 i) (by decide) rfl ?_
          dsimp only [setL]
          refine J_goto (tgt := 38) dX12_due_91 (by decide) ?_
          have q := ih (i + 1) (by omega)
          first
          | (rw [latS4 cA cB cC] at q; exact q)
          | (rw [latS1 c3] at q; exact q)
          | (rw [latS2 c3] at q; exact q)
          | (rw [latS3 c3] at q; exact q)
        · -- on 69
          have cB := c3
          refine J_aload_n dX12_due_69 rfl ?_
          refine M_getR dX12_due_70 fX12_120 rfl rfl (by decide) ?_
          refine J_iload dX12_due_73 rfl ?_
          refine M_ialdE dX12_due_75 rfl (by decide) (by first | rfl | assumption) (by omega) ?_
          refine J_iload_n dX12_due_76 rfl ?_
          refine J_icmp_le (tgt := 88) dX12_due_77 (by decide) (fun c4 => ?_) (fun c4 => ?_)
          · -- to 88
            refine J_iinc (v := nI (i + 1)) dX12_due_88 rfl (nI_1 i) (by decide) rfl ?_
            dsimp only [setL]
            refine J_goto (tgt := 38) dX12_due_91 (by decide) ?_
            have q := ih (i + 1) (by omega)
            first
            | (rw [latS4 cA cB cC] at q; exact q)
            | (rw [latS1 c4] at q; exact q)
            | (rw [latS2 c4] at q; exact q)
            | (rw [latS3 c4] at q; exact q)
          · -- on 80
            have cC := c4
            refine J_aload_n dX12_due_80 rfl ?_
            refine M_getR dX12_due_81 fX12_120 rfl rfl (by decide) ?_
            refine J_iload dX12_due_84 rfl ?_
            refine M_ialdE dX12_due_86 rfl (by decide) (by first | rfl | assumption) (by omega) ?_
            refine J_istore_n dX12_due_87 (by decide) rfl ?_
            dsimp only [setL]
            refine J_iinc (v := nI (i + 1)) dX12_due_88 rfl (nI_1 i) (by decide) rfl ?_
            dsimp only [setL]
            refine J_goto (tgt := 38) dX12_due_91 (by decide) ?_
            have q := ih (i + 1) (by omega)
            first
            | (rw [latS4 cA cB cC] at q; exact q)
            | (rw [latS1 c4] at q; exact q)
            | (rw [latS2 c4] at q; exact q)
            | (rw [latS3 c4] at q; exact q)
set_option maxRecDepth 100000 in
set_option maxHeartbeats 1000000 in
theorem tM_due {d : Nat} {M : Mem} {Φ : Option Int32 → Mem → Prop} {n w : Nat} {x y : Int32} (hn : M.1 62 1 = nI n) (hb : n ≤ 12) (hw : M.1 62 50 = nI w) (hwb : w ≤ 200) (h0 : ¬ (Ix x n ∧ Ix y 3) → Φ (some (-1)) M) (h1 : ∀ j s : Nat, j < n → s < 3 → x = nI j → y = nI s → Φ (some (if M.1 92 s = 0 then -1 else latF (M.1 65 j) (M.1 96) (M.1 97) (M.1 98) (nI j) (nI s) w + M.1 92 s)) M) : JM noRo (d + 1) mX12_due 0 [some (.ref 62), some (.int x), some (.int y)] [] M Φ := by
  refine J_aload_n dX12_due_0 rfl ?_
  refine J_iload_n dX12_due_1 rfl ?_
  refine M_callV1 (mc := mX12_isHorse) dX12_due_2 kX12_142 oX12_isHorse (Nat.le_of_ble_eq_true rfl) (Nat.le_of_ble_eq_true rfl) rfl (by decide) rfl ?_
  refine tX12_isHorse hn hb (fun j hj ej => ?_) (fun q1 => ?_)
  · -- true
    subst ej
    refine J_if_eq (tgt := 26) dX12_due_5 (by decide) (fun c2 => ?_) (fun c2 => ?_)
    · -- to 26
      exact absurd c2 (by decide)
    · -- on 8
      refine J_iload_n dX12_due_8 rfl ?_
      refine J_if_lt (tgt := 26) dX12_due_9 (by decide) (fun c3 => ?_) (fun c3 => ?_)
      · -- to 26
        refine J_iconst (v := -1) dX12_due_26 (by decide) ?_
        refine M_iret dX12_due_27 rfl rfl ?_
        first
        | exact h0 (fun q => q1 q.1)
        | exact h0 (fun q => Ix_neg (by decide) c3 q.2)
        | exact h0 (fun q => Ix_gt (n := 2) (by decide) (Int32.not_le.mpr c3) q.2)
        | (have q := h1 j s hj hs rfl rfl; rw [if_pos c3] at q; exact q)
      · -- on 12
        have y0 := c3
        refine J_iload_n dX12_due_12 rfl ?_
        refine J_iconst (v := 2) dX12_due_13 (by decide) ?_
        refine J_icmp_gt (tgt := 26) dX12_due_14 (by decide) (fun c4 => ?_) (fun c4 => ?_)
        · -- to 26
          refine J_iconst (v := -1) dX12_due_26 (by decide) ?_
          refine M_iret dX12_due_27 rfl rfl ?_
          first
          | exact h0 (fun q => q1 q.1)
          | exact h0 (fun q => Ix_neg (by decide) c4 q.2)
          | exact h0 (fun q => Ix_gt (n := 2) (by decide) (Int32.not_le.mpr c4) q.2)
          | (have q := h1 j s hj hs rfl rfl; rw [if_pos c4] at q; exact q)
        · -- on 17
          obtain ⟨s, hs, rfl⟩ := Ix_le (n := 2) (by decide) y0 (Int32.not_lt.mp c4)
          refine J_aload_n dX12_due_17 rfl ?_
          refine M_getR dX12_due_18 fX12_102 rfl rfl (by decide) ?_
          refine J_iload_n dX12_due_21 rfl ?_
          refine M_ialdE dX12_due_22 rfl (by decide) (by first | rfl | assumption) (by omega) ?_
          refine J_if_ne (tgt := 28) dX12_due_23 (by decide) (fun c5 => ?_) (fun c5 => ?_)
          · -- to 28
            refine J_aload_n dX12_due_28 rfl ?_
            refine M_getR dX12_due_29 fX12_16 rfl rfl (by decide) ?_
            refine J_iload_n dX12_due_32 rfl ?_
            refine M_ialdE dX12_due_33 rfl (by decide) (by first | rfl | assumption) (by omega) ?_
            refine J_istore_n dX12_due_34 (by decide) rfl ?_
            dsimp only [setL]
            refine J_iconst (v := 0) dX12_due_35 (by decide) ?_
            refine J_istore dX12_due_36 (by decide) rfl ?_
            dsimp only [setL]
            have q := h1 j s hj hs rfl rfl
            rw [if_neg c5] at q
            exact tM_due_l hw hwb hs q w 0 (by omega)
          · -- on 26
            refine J_iconst (v := -1) dX12_due_26 (by decide) ?_
            refine M_iret dX12_due_27 rfl rfl ?_
            first
            | exact h0 (fun q => q1 q.1)
            | exact h0 (fun q => Ix_neg (by decide) c5 q.2)
            | exact h0 (fun q => Ix_gt (n := 2) (by decide) (Int32.not_le.mpr c5) q.2)
            | (have q := h1 j s hj hs rfl rfl; rw [if_pos c5] at q; exact q)
  · -- false
    refine J_if_eq (tgt := 26) dX12_due_5 (by decide) (fun c6 => ?_) (fun c6 => ?_)
    · -- to 26
      refine J_iconst (v := -1) dX12_due_26 (by decide) ?_
      refine M_iret dX12_due_27 rfl rfl ?_
      first
      | exact h0 (fun q => q1 q.1)
      | exact h0 (fun q => Ix_neg (by decide) c6 q.2)
      | exact h0 (fun q => Ix_gt (n := 2) (by decide) (Int32.not_le.mpr c6) q.2)
      | (have q := h1 j s hj hs rfl rfl; rw [if_pos c6] at q; exact q)
    · -- on 8
      exact absurd c6 (by decide)

/-- the reference's number of a name of the class, its step for a code -/
def nmR (c : Nat) : Nat := if c < 8 then c else if c = 8 then 13 else c - 1
theorem nmR_lt {c : Nat} (h : c < 14) : nmR c < 14 := by
  unfold nmR
  split
  · omega
  · split <;> omega
def enc (c : Nat) : Nat := if c < 14 then 20 + nmR c else if 100 ≤ c then 0 else if c = 18 then 40 else if c = 16 then 41 else if c = 17 then 42 else if c = 61 then 43 else if c = 60 then 44 else if c = 62 then 45 else if c = 43 then 46 else 47
set_option maxRecDepth 100000 in
set_option maxHeartbeats 1000000 in
theorem tX12_holds_l {d : Nat} {M : Mem} {Φ : Option Int32 → Mem → Prop} {r e : Nat} {C : Nat → Nat} (ha : M.1 75 (r + 1) = nI e) (hr : r < 12) (heb : e ≤ 600) (hC : ∀ i, i < e → M.1 73 i = nI (enc (C i)) ∧ (100 ≤ C i → M.1 74 i = nI (C i - 100))) : ∀ n i h s, i + n = e → h ≤ 39 → okF C 14 n i h → (∀ f, Φ (some (if evF (fun c => M.1 84 (nmR c)) C n i h s = 0 then 0 else 1)) (wa M 83 f)) → JM noRo d mX12_holds 9 [some (.ref 62), some (.int (nI r)), some (.int (nI h)), some (.int (nI i))] [] (wa M 83 s) Φ := by
  intro n
  induction n with
  | zero =>
    intro i h s hi hh hk h0
    obtain rfl : h = 1 := hk
    refine J_iload_n dX12_holds_9 rfl ?_
    refine J_aload_n dX12_holds_10 rfl ?_
    refine M_getR dX12_holds_11 fX12_47 rfl rfl (by decide) ?_
    refine J_iload_n dX12_holds_14 rfl ?_
    refine J_iconst (v := 1) dX12_holds_15 (by decide) ?_
    refine J_iadd dX12_holds_16 ?_
    refine M_ialdE dX12_holds_17 rfl (by decide) (nI_1 r) (by omega) ?_
    rw [rdb (by decide), ha]
    refine J_icmp_ge (tgt := 324) dX12_holds_18 (by decide) (fun c1 => ?_) (fun c1 => ?_)
    · -- to 324
      refine J_aload_n dX12_holds_324 rfl ?_
      refine M_getR dX12_holds_325 fX12_75 rfl rfl (by decide) ?_
      refine J_iconst (v := 0) dX12_holds_328 (by decide) ?_
      refine M_ialdE dX12_holds_329 rfl (by decide) (show (0 : Int32) = nI 0 from rfl) (by decide) ?_
      rw [rda]
      rw [evF] at h0
      refine J_if_eq (tgt := 337) dX12_holds_330 (by decide) (fun c2 => ?_) (fun c2 => ?_)
      · -- to 337
        refine J_iconst (v := 0) dX12_holds_337 (by decide) ?_
        refine M_zret dX12_holds_338 rfl (by first | assumption | exact Or.inl rfl | exact Or.inr rfl) ?_
        first
        | (rw [if_pos c2] at h0; exact h0 _)
        | (rw [if_neg c2] at h0; exact h0 _)
      · -- on 333
        refine J_iconst (v := 1) dX12_holds_333 (by decide) ?_
        refine J_goto (tgt := 338) dX12_holds_334 (by decide) ?_
        refine M_zret dX12_holds_338 rfl (by first | assumption | exact Or.inl rfl | exact Or.inr rfl) ?_
        first
        | (rw [if_pos c2] at h0; exact h0 _)
        | (rw [if_neg c2] at h0; exact h0 _)
    · -- on 21
      exact absurd (nI_le (by omega) (by omega)) c1
  | succ n ih =>
    intro i h s hi hh hk h0
    rw [okF] at hk
    by_cases hc : C i < 14
    · rw [if_pos hc] at hk
      have he : enc (C i) = 20 + nmR (C i) := if_pos hc
      have hnm := nmR_lt hc
      refine J_iload_n dX12_holds_9 rfl ?_
      refine J_aload_n dX12_holds_10 rfl ?_
      refine M_getR dX12_holds_11 fX12_47 rfl rfl (by decide) ?_
      refine J_iload_n dX12_holds_14 rfl ?_
      refine J_iconst (v := 1) dX12_holds_15 (by decide) ?_
      refine J_iadd dX12_holds_16 ?_
      refine M_ialdE dX12_holds_17 rfl (by decide) (nI_1 r) (by omega) ?_
      rw [rdb (by decide), ha]
      refine J_icmp_ge (tgt := 324) dX12_holds_18 (by decide) (fun c1 => ?_) (fun c1 => ?_)
      · -- to 324
        exact absurd c1 (nI_ge (by omega) (by omega))
      · -- on 21
        refine J_aload_n dX12_holds_21 rfl ?_
        refine M_getR dX12_holds_22 fX12_41 rfl rfl (by decide) ?_
        refine J_iload_n dX12_holds_25 rfl ?_
        refine M_ialdE dX12_holds_26 rfl (by decide) (by first | rfl | assumption) (by omega) ?_
        rw [rdb (by decide), (hC i (by omega)).1, he]
        refine J_istore dX12_holds_27 (by decide) rfl ?_
        dsimp only [setL]
        refine J_iload dX12_holds_29 rfl ?_
        refine J_bipush (v := 40) dX12_holds_31 (by decide) ?_
        refine J_icmp_ge (tgt := 72) dX12_holds_33 (by decide) (fun c2 => ?_) (fun c2 => ?_)
        · -- to 72
          exact absurd c2 (nI_ge (b := 40) (by omega) (by decide))
        · -- on 36
          refine J_aload_n dX12_holds_36 rfl ?_
          refine M_getR dX12_holds_37 fX12_75 rfl rfl (by decide) ?_
          refine J_iload_n dX12_holds_40 rfl ?_
          refine J_iload dX12_holds_41 rfl ?_
          refine J_if_ne (tgt := 55) dX12_holds_43 (by decide) (fun c3 => ?_) (fun c3 => ?_)
          · -- to 55
            refine J_aload_n dX12_holds_55 rfl ?_
            refine M_getR dX12_holds_56 fX12_78 rfl rfl (by decide) ?_
            refine J_iload dX12_holds_59 rfl ?_
            refine J_bipush (v := 20) dX12_holds_61 (by decide) ?_
            refine J_isub dX12_holds_63 ?_
            refine M_ialdE dX12_holds_64 rfl (by decide) (show nI (20 + nmR (C i)) - 20 = nI (nmR (C i)) by rw [show (20 : Int32) = nI 20 from rfl, pk_sub (by omega), Nat.add_sub_cancel_left]) (by omega) ?_
            rw [rdb (by decide)]
            refine M_iastE dX12_holds_65 rfl (by decide) (by first | rfl | assumption) (by omega) ?_
            refine J_iinc (v := nI (h + 1)) dX12_holds_66 rfl (nI_1 h) (by decide) rfl ?_
            dsimp only [setL]
            refine J_goto (tgt := 318) dX12_holds_69 (by decide) ?_
            rw [wa_wr]
            refine J_iinc (v := nI (i + 1)) dX12_holds_318 rfl (nI_1 i) (by decide) rfl ?_
            dsimp only [setL]
            refine J_dropN 4 ?_
            refine J_goto (tgt := 9) dX12_holds_321 (by decide) ?_
            rw [evF, if_pos hc] at h0
            exact ih (i + 1) (h + 1) _ (by omega) (by omega) hk.2.2 h0
          · -- on 46
            exact absurd ((nI_eq (a := 20 + nmR (C i)) (b := 0) (by omega) (by decide)).mp c3) (by omega)
    · rw [if_neg hc] at hk
      by_cases hd : 100 ≤ C i
      · rw [if_pos hd] at hk
        have he : enc (C i) = 0 := by rw [enc, if_neg hc, if_pos hd]
        refine J_iload_n dX12_holds_9 rfl ?_
        refine J_aload_n dX12_holds_10 rfl ?_
        refine M_getR dX12_holds_11 fX12_47 rfl rfl (by decide) ?_
        refine J_iload_n dX12_holds_14 rfl ?_
        refine J_iconst (v := 1) dX12_holds_15 (by decide) ?_
        refine J_iadd dX12_holds_16 ?_
        refine M_ialdE dX12_holds_17 rfl (by decide) (nI_1 r) (by omega) ?_
        rw [rdb (by decide), ha]
        refine J_icmp_ge (tgt := 324) dX12_holds_18 (by decide) (fun c1 => ?_) (fun c1 => ?_)
        · -- to 324
          exact absurd c1 (nI_ge (by omega) (by omega))
        · -- on 21
          refine J_aload_n dX12_holds_21 rfl ?_
          refine M_getR dX12_holds_22 fX12_41 rfl rfl (by decide) ?_
          refine J_iload_n dX12_holds_25 rfl ?_
          refine M_ialdE dX12_holds_26 rfl (by decide) (by first | rfl | assumption) (by omega) ?_
          rw [rdb (by decide), (hC i (by omega)).1, he]
          refine J_istore dX12_holds_27 (by decide) rfl ?_
          dsimp only [setL]
          refine J_iload dX12_holds_29 rfl ?_
          refine J_bipush (v := 40) dX12_holds_31 (by decide) ?_
          refine J_icmp_ge (tgt := 72) dX12_holds_33 (by decide) (fun c2 => ?_) (fun c2 => ?_)
          · -- to 72
            exact absurd c2 (by decide)
          · -- on 36
            refine J_aload_n dX12_holds_36 rfl ?_
            refine M_getR dX12_holds_37 fX12_75 rfl rfl (by decide) ?_
            refine J_iload_n dX12_holds_40 rfl ?_
            refine J_iload dX12_holds_41 rfl ?_
            refine J_if_ne (tgt := 55) dX12_holds_43 (by decide) (fun c3 => ?_) (fun c3 => ?_)
            · -- to 55
              exact absurd c3 (by decide)
            · -- on 46
              refine J_aload_n dX12_holds_46 rfl ?_
              refine M_getR dX12_holds_47 fX12_44 rfl rfl (by decide) ?_
              refine J_iload_n dX12_holds_50 rfl ?_
              refine M_ialdE dX12_holds_51 rfl (by decide) (by first | rfl | assumption) (by omega) ?_
              refine J_goto (tgt := 65) dX12_holds_52 (by decide) ?_
              rw [rdb (by decide), (hC i (by omega)).2 hd]
              refine M_iastE dX12_holds_65 rfl (by decide) (by first | rfl | assumption) (by omega) ?_
              refine J_iinc (v := nI (h + 1)) dX12_holds_66 rfl (nI_1 h) (by decide) rfl ?_
              dsimp only [setL]
              refine J_goto (tgt := 318) dX12_holds_69 (by decide) ?_
              rw [wa_wr]
              refine J_iinc (v := nI (i + 1)) dX12_holds_318 rfl (nI_1 i) (by decide) rfl ?_
              dsimp only [setL]
              refine J_dropN 4 ?_
              refine J_goto (tgt := 9) dX12_holds_321 (by decide) ?_
              rw [evF, if_neg hc, if_pos hd] at h0
              exact ih (i + 1) (h + 1) _ (by omega) (by omega) hk.2.2 h0
      · rw [if_neg hd] at hk
        have hc0 := hc
        have hd0 := hd
        by_cases hq : C i = 18
        · rw [if_pos hq] at hk
          have hc := hq
          have he : enc (C i) = 40 := by rw [hq]; rfl
          obtain ⟨h, rfl⟩ : ∃ q, h = q + 1 := ⟨h - 1, by omega⟩
          refine J_iload_n dX12_holds_9 rfl ?_
          refine J_aload_n dX12_holds_10 rfl ?_
          refine M_getR dX12_holds_11 fX12_47 rfl rfl (by decide) ?_
          refine J_iload_n dX12_holds_14 rfl ?_
          refine J_iconst (v := 1) dX12_holds_15 (by decide) ?_
          refine J_iadd dX12_holds_16 ?_
          refine M_ialdE dX12_holds_17 rfl (by decide) (nI_1 r) (by omega) ?_
          rw [rdb (by decide), ha]
          refine J_icmp_ge (tgt := 324) dX12_holds_18 (by decide) (fun c1 => ?_) (fun c1 => ?_)
          · -- to 324
            exact absurd c1 (nI_ge (by omega) (by omega))
          · -- on 21
            refine J_aload_n dX12_holds_21 rfl ?_
            refine M_getR dX12_holds_22 fX12_41 rfl rfl (by decide) ?_
            refine J_iload_n dX12_holds_25 rfl ?_
            refine M_ialdE dX12_holds_26 rfl (by decide) (by first | rfl | assumption) (by omega) ?_
            rw [rdb (by decide), (hC i (by omega)).1, he]
            refine J_istore dX12_holds_27 (by decide) rfl ?_
            dsimp only [setL]
            refine J_iload dX12_holds_29 rfl ?_
            refine J_bipush (v := 40) dX12_holds_31 (by decide) ?_
            refine J_icmp_ge (tgt := 72) dX12_holds_33 (by decide) (fun c2 => ?_) (fun c2 => ?_)
            · -- to 72
              refine J_iload dX12_holds_72 rfl ?_
              refine J_bipush (v := 40) dX12_holds_74 (by decide) ?_
              refine J_icmp_ne (tgt := 106) dX12_holds_76 (by decide) (fun c3 => ?_) (fun c3 => ?_)
              · -- to 106
                exact absurd c3 (by decide)
              · -- on 79
                refine J_aload_n dX12_holds_79 rfl ?_
                refine M_getR dX12_holds_80 fX12_75 rfl rfl (by decide) ?_
                refine J_iload_n dX12_holds_83 rfl ?_
                refine J_iconst (v := 1) dX12_holds_84 (by decide) ?_
                refine J_isub dX12_holds_85 ?_
                refine J_aload_n dX12_holds_86 rfl ?_
                refine M_getR dX12_holds_87 fX12_75 rfl rfl (by decide) ?_
                refine J_iload_n dX12_holds_90 rfl ?_
                refine J_iconst (v := 1) dX12_holds_91 (by decide) ?_
                refine J_isub dX12_holds_92 ?_
                refine M_ialdE dX12_holds_93 rfl (by decide) (nI_pred h) (by omega) ?_
                rw [rda]
                refine J_if_ne (tgt := 101) dX12_holds_94 (by decide) (fun c4 => ?_) (fun c4 => ?_)
                · -- to 101
                  refine J_iconst (v := 0) dX12_holds_101 (by decide) ?_
                  refine M_iastE dX12_holds_102 rfl (by decide) (nI_pred h) (by omega) ?_
                  refine J_goto (tgt := 318) dX12_holds_103 (by decide) ?_
                  rw [wa_wr]
                  refine J_iinc (v := nI (i + 1)) dX12_holds_318 rfl (nI_1 i) (by decide) rfl ?_
                  dsimp only [setL]
                  refine J_dropN 4 ?_
                  refine J_goto (tgt := 9) dX12_holds_321 (by decide) ?_
                  rw [evF, if_neg hc0, if_neg hd0, if_pos hc] at h0
                  have q := ih (i + 1) (h + 1) _ (by omega) (by omega) hk.2 h0
                  rw [Nat.add_sub_cancel] at q
                  first
                  | (rw [if_pos c4] at q; exact q)
                  | (rw [if_neg c4] at q; exact q)
                · -- on 97
                  refine J_iconst (v := 1) dX12_holds_97 (by decide) ?_
                  refine J_goto (tgt := 102) dX12_holds_98 (by decide) ?_
                  refine M_iastE dX12_holds_102 rfl (by decide) (nI_pred h) (by omega) ?_
                  refine J_goto (tgt := 318) dX12_holds_103 (by decide) ?_
                  rw [wa_wr]
                  refine J_iinc (v := nI (i + 1)) dX12_holds_318 rfl (nI_1 i) (by decide) rfl ?_
                  dsimp only [setL]
                  refine J_dropN 4 ?_
                  refine J_goto (tgt := 9) dX12_holds_321 (by decide) ?_
                  rw [evF, if_neg hc0, if_neg hd0, if_pos hc] at h0
                  have q := ih (i + 1) (h + 1) _ (by omega) (by omega) hk.2 h0
                  rw [Nat.add_sub_cancel] at q
                  first
                  | (rw [if_pos c4] at q; exact q)
                  | (rw [if_neg c4] at q; exact q)
            · -- on 36
              exact absurd c2 (by decide)
        · rw [if_neg hq] at hk
          have he0 := hq
          obtain ⟨h, rfl⟩ : ∃ q, h = q + 2 := ⟨h - 2, by omega⟩
          have hop := hk.1
          rcases hop with hc | hop
          · have he : enc (C i) = 41 := by rw [hc]; rfl
            refine J_iload_n dX12_holds_9 rfl ?_
            refine J_aload_n dX12_holds_10 rfl ?_
            refine M_getR dX12_holds_11 fX12_47 rfl rfl (by decide) ?_
            refine J_iload_n dX12_holds_14 rfl ?_
            refine J_iconst (v := 1) dX12_holds_15 (by decide) ?_
            refine J_iadd dX12_holds_16 ?_
            refine M_ialdE dX12_holds_17 rfl (by decide) (nI_1 r) (by omega) ?_
            rw [rdb (by decide), ha]
            refine J_icmp_ge (tgt := 324) dX12_holds_18 (by decide) (fun c1 => ?_) (fun c1 => ?_)
            · -- to 324
              exact absurd c1 (nI_ge (by omega) (by omega))
            · -- on 21
              refine J_aload_n dX12_holds_21 rfl ?_
              refine M_getR dX12_holds_22 fX12_41 rfl rfl (by decide) ?_
              refine J_iload_n dX12_holds_25 rfl ?_
              refine M_ialdE dX12_holds_26 rfl (by decide) (by first | rfl | assumption) (by omega) ?_
              rw [rdb (by decide), (hC i (by omega)).1, he]
              refine J_istore dX12_holds_27 (by decide) rfl ?_
              dsimp only [setL]
              refine J_iload dX12_holds_29 rfl ?_
              refine J_bipush (v := 40) dX12_holds_31 (by decide) ?_
              refine J_icmp_ge (tgt := 72) dX12_holds_33 (by decide) (fun c2 => ?_) (fun c2 => ?_)
              · -- to 72
                refine J_iload dX12_holds_72 rfl ?_
                refine J_bipush (v := 40) dX12_holds_74 (by decide) ?_
                refine J_icmp_ne (tgt := 106) dX12_holds_76 (by decide) (fun c3 => ?_) (fun c3 => ?_)
                · -- to 106
                  refine J_iinc (v := nI (h + 1)) dX12_holds_106 rfl (nI_dec (h + 1)) (by decide) rfl ?_
                  dsimp only [setL]
                  refine J_aload_n dX12_holds_109 rfl ?_
                  refine M_getR dX12_holds_110 fX12_75 rfl rfl (by decide) ?_
                  refine J_iload_n dX12_holds_113 rfl ?_
                  refine J_iconst (v := 1) dX12_holds_114 (by decide) ?_
                  refine J_isub dX12_holds_115 ?_
                  refine M_ialdE dX12_holds_116 rfl (by decide) (nI_pred h) (by omega) ?_
                  rw [rda]
                  refine J_istore dX12_holds_117 (by decide) rfl ?_
                  dsimp only [setL]
                  refine J_aload_n dX12_holds_119 rfl ?_
                  refine M_getR dX12_holds_120 fX12_75 rfl rfl (by decide) ?_
                  refine J_iload_n dX12_holds_123 rfl ?_
                  refine M_ialdE dX12_holds_124 rfl (by decide) (by first | rfl | assumption) (by omega) ?_
                  rw [rda]
                  refine J_istore dX12_holds_125 (by decide) rfl ?_
                  dsimp only [setL]
                  refine J_iload dX12_holds_127 rfl ?_
                  refine J_tabIn (off := 39) (tgt := 168) dX12_holds_129 (by decide) (by decide) rfl (by decide) ?_
                  refine J_aload_n dX12_holds_168 rfl ?_
                  refine M_getR dX12_holds_169 fX12_75 rfl rfl (by decide) ?_
                  refine J_iload_n dX12_holds_172 rfl ?_
                  refine J_iconst (v := 1) dX12_holds_173 (by decide) ?_
                  refine J_isub dX12_holds_174 ?_
                  refine J_iload dX12_holds_175 rfl ?_
                  refine J_if_ne (tgt := 185) dX12_holds_177 (by decide) (fun c4 => ?_) (fun c4 => ?_)
                  · -- to 185
                    refine J_iconst (v := 1) dX12_holds_185 (by decide) ?_
                    refine J_goto (tgt := 190) dX12_holds_186 (by decide) ?_
                    refine M_iastE dX12_holds_190 rfl (by decide) (nI_pred h) (by omega) ?_
                    refine J_goto (tgt := 318) dX12_holds_191 (by decide) ?_
                    rw [wa_wr]
                    refine J_iinc (v := nI (i + 1)) dX12_holds_318 rfl (nI_1 i) (by decide) rfl ?_
                    dsimp only [setL]
                    refine J_dropN 4 ?_
                    refine J_goto (tgt := 9) dX12_holds_321 (by decide) ?_
                    rw [evF, if_neg hc0, if_neg hd0, if_neg he0, hc] at h0
                    have q := ih (i + 1) (h + 1) _ (by omega) (by omega) hk.2.2 h0
                    rw [Nat.add_sub_cancel, show h + 1 + 1 - 1 = h + 1 from rfl] at q
                    first
                    | (rw [bop_or1 c4] at q; exact q)
                    | (rw [bop_or2 c4] at q; exact q)
                    | (rw [bop_or3 cA c4] at q; exact q)
                  · -- on 180
                    have cA := c4
                    refine J_iload dX12_holds_180 rfl ?_
                    refine J_if_eq (tgt := 189) dX12_holds_182 (by decide) (fun c5 => ?_) (fun c5 => ?_)
                    · -- to 189
                      refine J_iconst (v := 0) dX12_holds_189 (by decide) ?_
                      refine M_iastE dX12_holds_190 rfl (by decide) (nI_pred h) (by omega) ?_
                      refine J_goto (tgt := 318) dX12_holds_191 (by decide) ?_
                      rw [wa_wr]
                      refine J_iinc (v := nI (i + 1)) dX12_holds_318 rfl (nI_1 i) (by decide) rfl ?_
                      dsimp only [setL]
                      refine J_dropN 4 ?_
                      refine J_goto (tgt := 9) dX12_holds_321 (by decide) ?_
                      rw [evF, if_neg hc0, if_neg hd0, if_neg he0, hc] at h0
                      have q := ih (i + 1) (h + 1) _ (by omega) (by omega) hk.2.2 h0
                      rw [Nat.add_sub_cancel, show h + 1 + 1 - 1 = h + 1 from rfl] at q
                      first
                      | (rw [bop_or1 c5] at q; exact q)
                      | (rw [bop_or2 c5] at q; exact q)
                      | (rw [bop_or3 cA c5] at q; exact q)
                    · -- on 185
                      refine J_iconst (v := 1) dX12_holds_185 (by decide) ?_
                      refine J_goto (tgt := 190) dX12_holds_186 (by decide) ?_
                      refine M_iastE dX12_holds_190 rfl (by decide) (nI_pred h) (by omega) ?_
                      refine J_goto (tgt := 318) dX12_holds_191 (by decide) ?_
                      rw [wa_wr]
                      refine J_iinc (v := nI (i + 1)) dX12_holds_318 rfl (nI_1 i) (by decide) rfl ?_
                      dsimp only [setL]
                      refine J_dropN 4 ?_
                      refine J_goto (tgt := 9) dX12_holds_321 (by decide) ?_
                      rw [evF, if_neg hc0, if_neg hd0, if_neg he0, hc] at h0
                      have q := ih (i + 1) (h + 1) _ (by omega) (by omega) hk.2.2 h0
                      rw [Nat.add_sub_cancel, show h + 1 + 1 - 1 = h + 1 from rfl] at q
                      first
                      | (rw [bop_or1 c5] at q; exact q)
                      | (rw [bop_or2 c5] at q; exact q)
                      | (rw [bop_or3 cA c5] at q; exact q)
                · -- on 79
                  exact absurd c3 (by decide)
              · -- on 36
                exact absurd c2 (by decide)
          rcases hop with hc | hop
          · have he : enc (C i) = 42 := by rw [hc]; rfl
            refine J_iload_n dX12_holds_9 rfl ?_
            refine J_aload_n dX12_holds_10 rfl ?_
            refine M_getR dX12_holds_11 fX12_47 rfl rfl (by decide) ?_
            refine J_iload_n dX12_holds_14 rfl ?_
            refine J_iconst (v := 1) dX12_holds_15 (by decide) ?_
            refine J_iadd dX12_holds_16 ?_
            refine M_ialdE dX12_holds_17 rfl (by decide) (nI_1 r) (by omega) ?_
            rw [rdb (by decide), ha]
            refine J_icmp_ge (tgt := 324) dX12_holds_18 (by decide) (fun c1 => ?_) (fun c1 => ?_)
            · -- to 324
              exact absurd c1 (nI_ge (by omega) (by omega))
            · -- on 21
              refine J_aload_n dX12_holds_21 rfl ?_
              refine M_getR dX12_holds_22 fX12_41 rfl rfl (by decide) ?_
              refine J_iload_n dX12_holds_25 rfl ?_
              refine M_ialdE dX12_holds_26 rfl (by decide) (by first | rfl | assumption) (by omega) ?_
              rw [rdb (by decide), (hC i (by omega)).1, he]
              refine J_istore dX12_holds_27 (by decide) rfl ?_
              dsimp only [setL]
              refine J_iload dX12_holds_29 rfl ?_
              refine J_bipush (v := 40) dX12_holds_31 (by decide) ?_
              refine J_icmp_ge (tgt := 72) dX12_holds_33 (by decide) (fun c2 => ?_) (fun c2 => ?_)
              · -- to 72
                refine J_iload dX12_holds_72 rfl ?_
                refine J_bipush (v := 40) dX12_holds_74 (by decide) ?_
                refine J_icmp_ne (tgt := 106) dX12_holds_76 (by decide) (fun c3 => ?_) (fun c3 => ?_)
                · -- to 106
                  refine J_iinc (v := nI (h + 1)) dX12_holds_106 rfl (nI_dec (h + 1)) (by decide) rfl ?_
                  dsimp only [setL]
                  refine J_aload_n dX12_holds_109 rfl ?_
                  refine M_getR dX12_holds_110 fX12_75 rfl rfl (by decide) ?_
                  refine J_iload_n dX12_holds_113 rfl ?_
                  refine J_iconst (v := 1) dX12_holds_114 (by decide) ?_
                  refine J_isub dX12_holds_115 ?_
                  refine M_ialdE dX12_holds_116 rfl (by decide) (nI_pred h) (by omega) ?_
                  rw [rda]
                  refine J_istore dX12_holds_117 (by decide) rfl ?_
                  dsimp only [setL]
                  refine J_aload_n dX12_holds_119 rfl ?_
                  refine M_getR dX12_holds_120 fX12_75 rfl rfl (by decide) ?_
                  refine J_iload_n dX12_holds_123 rfl ?_
                  refine M_ialdE dX12_holds_124 rfl (by decide) (by first | rfl | assumption) (by omega) ?_
                  rw [rda]
                  refine J_istore dX12_holds_125 (by decide) rfl ?_
                  dsimp only [setL]
                  refine J_iload dX12_holds_127 rfl ?_
                  refine J_tabIn (off := 65) (tgt := 194) dX12_holds_129 (by decide) (by decide) rfl (by decide) ?_
                  refine J_aload_n dX12_holds_194 rfl ?_
                  refine M_getR dX12_holds_195 fX12_75 rfl rfl (by decide) ?_
                  refine J_iload_n dX12_holds_198 rfl ?_
                  refine J_iconst (v := 1) dX12_holds_199 (by decide) ?_
                  refine J_isub dX12_holds_200 ?_
                  refine J_iload dX12_holds_201 rfl ?_
                  refine J_if_eq (tgt := 215) dX12_holds_203 (by decide) (fun c4 => ?_) (fun c4 => ?_)
                  · -- to 215
                    refine J_iconst (v := 0) dX12_holds_215 (by decide) ?_
                    refine M_iastE dX12_holds_216 rfl (by decide) (nI_pred h) (by omega) ?_
                    refine J_goto (tgt := 318) dX12_holds_217 (by decide) ?_
                    rw [wa_wr]
                    refine J_iinc (v := nI (i + 1)) dX12_holds_318 rfl (nI_1 i) (by decide) rfl ?_
                    dsimp only [setL]
                    refine J_dropN 4 ?_
                    refine J_goto (tgt := 9) dX12_holds_321 (by decide) ?_
                    rw [evF, if_neg hc0, if_neg hd0, if_neg he0, hc] at h0
                    have q := ih (i + 1) (h + 1) _ (by omega) (by omega) hk.2.2 h0
                    rw [Nat.add_sub_cancel, show h + 1 + 1 - 1 = h + 1 from rfl] at q
                    first
                    | (rw [bop_an1 c4] at q; exact q)
                    | (rw [bop_an2 c4] at q; exact q)
                    | (rw [bop_an3 cA c4] at q; exact q)
                  · -- on 206
                    have cA := c4
                    refine J_iload dX12_holds_206 rfl ?_
                    refine J_if_eq (tgt := 215) dX12_holds_208 (by decide) (fun c5 => ?_) (fun c5 => ?_)
                    · -- to 215
                      refine J_iconst (v := 0) dX12_holds_215 (by decide) ?_
                      refine M_iastE dX12_holds_216 rfl (by decide) (nI_pred h) (by omega) ?_
                      refine J_goto (tgt := 318) dX12_holds_217 (by decide) ?_
                      rw [wa_wr]
                      refine J_iinc (v := nI (i + 1)) dX12_holds_318 rfl (nI_1 i) (by decide) rfl ?_
                      dsimp only [setL]
                      refine J_dropN 4 ?_
                      refine J_goto (tgt := 9) dX12_holds_321 (by decide) ?_
                      rw [evF, if_neg hc0, if_neg hd0, if_neg he0, hc] at h0
                      have q := ih (i + 1) (h + 1) _ (by omega) (by omega) hk.2.2 h0
                      rw [Nat.add_sub_cancel, show h + 1 + 1 - 1 = h + 1 from rfl] at q
                      first
                      | (rw [bop_an1 c5] at q; exact q)
                      | (rw [bop_an2 c5] at q; exact q)
                      | (rw [bop_an3 cA c5] at q; exact q)
                    · -- on 211
                      refine J_iconst (v := 1) dX12_holds_211 (by decide) ?_
                      refine J_goto (tgt := 216) dX12_holds_212 (by decide) ?_
                      refine M_iastE dX12_holds_216 rfl (by decide) (nI_pred h) (by omega) ?_
                      refine J_goto (tgt := 318) dX12_holds_217 (by decide) ?_
                      rw [wa_wr]
                      refine J_iinc (v := nI (i + 1)) dX12_holds_318 rfl (nI_1 i) (by decide) rfl ?_
                      dsimp only [setL]
                      refine J_dropN 4 ?_
                      refine J_goto (tgt := 9) dX12_holds_321 (by decide) ?_
                      rw [evF, if_neg hc0, if_neg hd0, if_neg he0, hc] at h0
                      have q := ih (i + 1) (h + 1) _ (by omega) (by omega) hk.2.2 h0
                      rw [Nat.add_sub_cancel, show h + 1 + 1 - 1 = h + 1 from rfl] at q
                      first
                      | (rw [bop_an1 c5] at q; exact q)
                      | (rw [bop_an2 c5] at q; exact q)
                      | (rw [bop_an3 cA c5] at q; exact q)
                · -- on 79
                  exact absurd c3 (by decide)
              · -- on 36
                exact absurd c2 (by decide)
          rcases hop with hc | hop
          · have he : enc (C i) = 43 := by rw [hc]; rfl
            refine J_iload_n dX12_holds_9 rfl ?_
            refine J_aload_n dX12_holds_10 rfl ?_
            refine M_getR dX12_holds_11 fX12_47 rfl rfl (by decide) ?_
            refine J_iload_n dX12_holds_14 rfl ?_
            refine J_iconst (v := 1) dX12_holds_15 (by decide) ?_
            refine J_iadd dX12_holds_16 ?_
            refine M_ialdE dX12_holds_17 rfl (by decide) (nI_1 r) (by omega) ?_
            rw [rdb (by decide), ha]
            refine J_icmp_ge (tgt := 324) dX12_holds_18 (by decide) (fun c1 => ?_) (fun c1 => ?_)
            · -- to 324
              exact absurd c1 (nI_ge (by omega) (by omega))
            · -- on 21
              refine J_aload_n dX12_holds_21 rfl ?_
              refine M_getR dX12_holds_22 fX12_41 rfl rfl (by decide) ?_
              refine J_iload_n dX12_holds_25 rfl ?_
              refine M_ialdE dX12_holds_26 rfl (by decide) (by first | rfl | assumption) (by omega) ?_
              rw [rdb (by decide), (hC i (by omega)).1, he]
              refine J_istore dX12_holds_27 (by decide) rfl ?_
              dsimp only [setL]
              refine J_iload dX12_holds_29 rfl ?_
              refine J_bipush (v := 40) dX12_holds_31 (by decide) ?_
              refine J_icmp_ge (tgt := 72) dX12_holds_33 (by decide) (fun c2 => ?_) (fun c2 => ?_)
              · -- to 72
                refine J_iload dX12_holds_72 rfl ?_
                refine J_bipush (v := 40) dX12_holds_74 (by decide) ?_
                refine J_icmp_ne (tgt := 106) dX12_holds_76 (by decide) (fun c3 => ?_) (fun c3 => ?_)
                · -- to 106
                  refine J_iinc (v := nI (h + 1)) dX12_holds_106 rfl (nI_dec (h + 1)) (by decide) rfl ?_
                  dsimp only [setL]
                  refine J_aload_n dX12_holds_109 rfl ?_
                  refine M_getR dX12_holds_110 fX12_75 rfl rfl (by decide) ?_
                  refine J_iload_n dX12_holds_113 rfl ?_
                  refine J_iconst (v := 1) dX12_holds_114 (by decide) ?_
                  refine J_isub dX12_holds_115 ?_
                  refine M_ialdE dX12_holds_116 rfl (by decide) (nI_pred h) (by omega) ?_
                  rw [rda]
                  refine J_istore dX12_holds_117 (by decide) rfl ?_
                  dsimp only [setL]
                  refine J_aload_n dX12_holds_119 rfl ?_
                  refine M_getR dX12_holds_120 fX12_75 rfl rfl (by decide) ?_
                  refine J_iload_n dX12_holds_123 rfl ?_
                  refine M_ialdE dX12_holds_124 rfl (by decide) (by first | rfl | assumption) (by omega) ?_
                  rw [rda]
                  refine J_istore dX12_holds_125 (by decide) rfl ?_
                  dsimp only [setL]
                  refine J_iload dX12_holds_127 rfl ?_
                  refine J_tabIn (off := 91) (tgt := 220) dX12_holds_129 (by decide) (by decide) rfl (by decide) ?_
                  refine J_aload_n dX12_holds_220 rfl ?_
                  refine M_getR dX12_holds_221 fX12_75 rfl rfl (by decide) ?_
                  refine J_iload_n dX12_holds_224 rfl ?_
                  refine J_iconst (v := 1) dX12_holds_225 (by decide) ?_
                  refine J_isub dX12_holds_226 ?_
                  refine J_iload dX12_holds_227 rfl ?_
                  refine J_iload dX12_holds_229 rfl ?_
                  refine J_icmp_ne (tgt := 238) dX12_holds_231 (by decide) (fun c4 => ?_) (fun c4 => ?_)
                  · -- to 238
                    refine J_iconst (v := 0) dX12_holds_238 (by decide) ?_
                    refine M_iastE dX12_holds_239 rfl (by decide) (nI_pred h) (by omega) ?_
                    refine J_goto (tgt := 318) dX12_holds_240 (by decide) ?_
                    rw [wa_wr]
                    refine J_iinc (v := nI (i + 1)) dX12_holds_318 rfl (nI_1 i) (by decide) rfl ?_
                    dsimp only [setL]
                    refine J_dropN 4 ?_
                    refine J_goto (tgt := 9) dX12_holds_321 (by decide) ?_
                    rw [evF, if_neg hc0, if_neg hd0, if_neg he0, hc] at h0
                    have q := ih (i + 1) (h + 1) _ (by omega) (by omega) hk.2.2 h0
                    rw [Nat.add_sub_cancel, show h + 1 + 1 - 1 = h + 1 from rfl] at q
                    first
                    | (rw [bop_eq1 c4] at q; exact q)
                    | (rw [bop_eq0 c4] at q; exact q)
                  · -- on 234
                    refine J_iconst (v := 1) dX12_holds_234 (by decide) ?_
                    refine J_goto (tgt := 239) dX12_holds_235 (by decide) ?_
                    refine M_iastE dX12_holds_239 rfl (by decide) (nI_pred h) (by omega) ?_
                    refine J_goto (tgt := 318) dX12_holds_240 (by decide) ?_
                    rw [wa_wr]
                    refine J_iinc (v := nI (i + 1)) dX12_holds_318 rfl (nI_1 i) (by decide) rfl ?_
                    dsimp only [setL]
                    refine J_dropN 4 ?_
                    refine J_goto (tgt := 9) dX12_holds_321 (by decide) ?_
                    rw [evF, if_neg hc0, if_neg hd0, if_neg he0, hc] at h0
                    have q := ih (i + 1) (h + 1) _ (by omega) (by omega) hk.2.2 h0
                    rw [Nat.add_sub_cancel, show h + 1 + 1 - 1 = h + 1 from rfl] at q
                    first
                    | (rw [bop_eq1 c4] at q; exact q)
                    | (rw [bop_eq0 c4] at q; exact q)
                · -- on 79
                  exact absurd c3 (by decide)
              · -- on 36
                exact absurd c2 (by decide)
          rcases hop with hc | hop
          · have he : enc (C i) = 44 := by rw [hc]; rfl
            refine J_iload_n dX12_holds_9 rfl ?_
            refine J_aload_n dX12_holds_10 rfl ?_
            refine M_getR dX12_holds_11 fX12_47 rfl rfl (by decide) ?_
            refine J_iload_n dX12_holds_14 rfl ?_
            refine J_iconst (v := 1) dX12_holds_15 (by decide) ?_
            refine J_iadd dX12_holds_16 ?_
            refine M_ialdE dX12_holds_17 rfl (by decide) (nI_1 r) (by omega) ?_
            rw [rdb (by decide), ha]
            refine J_icmp_ge (tgt := 324) dX12_holds_18 (by decide) (fun c1 => ?_) (fun c1 => ?_)
            · -- to 324
              exact absurd c1 (nI_ge (by omega) (by omega))
            · -- on 21
              refine J_aload_n dX12_holds_21 rfl ?_
              refine M_getR dX12_holds_22 fX12_41 rfl rfl (by decide) ?_
              refine J_iload_n dX12_holds_25 rfl ?_
              refine M_ialdE dX12_holds_26 rfl (by decide) (by first | rfl | assumption) (by omega) ?_
              rw [rdb (by decide), (hC i (by omega)).1, he]
              refine J_istore dX12_holds_27 (by decide) rfl ?_
              dsimp only [setL]
              refine J_iload dX12_holds_29 rfl ?_
              refine J_bipush (v := 40) dX12_holds_31 (by decide) ?_
              refine J_icmp_ge (tgt := 72) dX12_holds_33 (by decide) (fun c2 => ?_) (fun c2 => ?_)
              · -- to 72
                refine J_iload dX12_holds_72 rfl ?_
                refine J_bipush (v := 40) dX12_holds_74 (by decide) ?_
                refine J_icmp_ne (tgt := 106) dX12_holds_76 (by decide) (fun c3 => ?_) (fun c3 => ?_)
                · -- to 106
                  refine J_iinc (v := nI (h + 1)) dX12_holds_106 rfl (nI_dec (h + 1)) (by decide) rfl ?_
                  dsimp only [setL]
                  refine J_aload_n dX12_holds_109 rfl ?_
                  refine M_getR dX12_holds_110 fX12_75 rfl rfl (by decide) ?_
                  refine J_iload_n dX12_holds_113 rfl ?_
                  refine J_iconst (v := 1) dX12_holds_114 (by decide) ?_
                  refine J_isub dX12_holds_115 ?_
                  refine M_ialdE dX12_holds_116 rfl (by decide) (nI_pred h) (by omega) ?_
                  rw [rda]
                  refine J_istore dX12_holds_117 (by decide) rfl ?_
                  dsimp only [setL]
                  refine J_aload_n dX12_holds_119 rfl ?_
                  refine M_getR dX12_holds_120 fX12_75 rfl rfl (by decide) ?_
                  refine J_iload_n dX12_holds_123 rfl ?_
                  refine M_ialdE dX12_holds_124 rfl (by decide) (by first | rfl | assumption) (by omega) ?_
                  rw [rda]
                  refine J_istore dX12_holds_125 (by decide) rfl ?_
                  dsimp only [setL]
                  refine J_iload dX12_holds_127 rfl ?_
                  refine J_tabIn (off := 114) (tgt := 243) dX12_holds_129 (by decide) (by decide) rfl (by decide) ?_
                  refine J_aload_n dX12_holds_243 rfl ?_
                  refine M_getR dX12_holds_244 fX12_75 rfl rfl (by decide) ?_
                  refine J_iload_n dX12_holds_247 rfl ?_
                  refine J_iconst (v := 1) dX12_holds_248 (by decide) ?_
                  refine J_isub dX12_holds_249 ?_
                  refine J_iload dX12_holds_250 rfl ?_
                  refine J_iload dX12_holds_252 rfl ?_
                  refine J_icmp_ge (tgt := 261) dX12_holds_254 (by decide) (fun c4 => ?_) (fun c4 => ?_)
                  · -- to 261
                    refine J_iconst (v := 0) dX12_holds_261 (by decide) ?_
                    refine M_iastE dX12_holds_262 rfl (by decide) (nI_pred h) (by omega) ?_
                    refine J_goto (tgt := 318) dX12_holds_263 (by decide) ?_
                    rw [wa_wr]
                    refine J_iinc (v := nI (i + 1)) dX12_holds_318 rfl (nI_1 i) (by decide) rfl ?_
                    dsimp only [setL]
                    refine J_dropN 4 ?_
                    refine J_goto (tgt := 9) dX12_holds_321 (by decide) ?_
                    rw [evF, if_neg hc0, if_neg hd0, if_neg he0, hc] at h0
                    have q := ih (i + 1) (h + 1) _ (by omega) (by omega) hk.2.2 h0
                    rw [Nat.add_sub_cancel, show h + 1 + 1 - 1 = h + 1 from rfl] at q
                    first
                    | (rw [bop_lt0 c4] at q; exact q)
                    | (rw [bop_lt1 c4] at q; exact q)
                  · -- on 257
                    refine J_iconst (v := 1) dX12_holds_257 (by decide) ?_
                    refine J_goto (tgt := 262) dX12_holds_258 (by decide) ?_
                    refine M_iastE dX12_holds_262 rfl (by decide) (nI_pred h) (by omega) ?_
                    refine J_goto (tgt := 318) dX12_holds_263 (by decide) ?_
                    rw [wa_wr]
                    refine J_iinc (v := nI (i + 1)) dX12_holds_318 rfl (nI_1 i) (by decide) rfl ?_
                    dsimp only [setL]
                    refine J_dropN 4 ?_
                    refine J_goto (tgt := 9) dX12_holds_321 (by decide) ?_
                    rw [evF, if_neg hc0, if_neg hd0, if_neg he0, hc] at h0
                    have q := ih (i + 1) (h + 1) _ (by omega) (by omega) hk.2.2 h0
                    rw [Nat.add_sub_cancel, show h + 1 + 1 - 1 = h + 1 from rfl] at q
                    first
                    | (rw [bop_lt0 c4] at q; exact q)
                    | (rw [bop_lt1 c4] at q; exact q)
                · -- on 79
                  exact absurd c3 (by decide)
              · -- on 36
                exact absurd c2 (by decide)
          rcases hop with hc | hop
          · have he : enc (C i) = 45 := by rw [hc]; rfl
            refine J_iload_n dX12_holds_9 rfl ?_
            refine J_aload_n dX12_holds_10 rfl ?_
            refine M_getR dX12_holds_11 fX12_47 rfl rfl (by decide) ?_
            refine J_iload_n dX12_holds_14 rfl ?_
            refine J_iconst (v := 1) dX12_holds_15 (by decide) ?_
            refine J_iadd dX12_holds_16 ?_
            refine M_ialdE dX12_holds_17 rfl (by decide) (nI_1 r) (by omega) ?_
            rw [rdb (by decide), ha]
            refine J_icmp_ge (tgt := 324) dX12_holds_18 (by decide) (fun c1 => ?_) (fun c1 => ?_)
            · -- to 324
              exact absurd c1 (nI_ge (by omega) (by omega))
            · -- on 21
              refine J_aload_n dX12_holds_21 rfl ?_
              refine M_getR dX12_holds_22 fX12_41 rfl rfl (by decide) ?_
              refine J_iload_n dX12_holds_25 rfl ?_
              refine M_ialdE dX12_holds_26 rfl (by decide) (by first | rfl | assumption) (by omega) ?_
              rw [rdb (by decide), (hC i (by omega)).1, he]
              refine J_istore dX12_holds_27 (by decide) rfl ?_
              dsimp only [setL]
              refine J_iload dX12_holds_29 rfl ?_
              refine J_bipush (v := 40) dX12_holds_31 (by decide) ?_
              refine J_icmp_ge (tgt := 72) dX12_holds_33 (by decide) (fun c2 => ?_) (fun c2 => ?_)
              · -- to 72
                refine J_iload dX12_holds_72 rfl ?_
                refine J_bipush (v := 40) dX12_holds_74 (by decide) ?_
                refine J_icmp_ne (tgt := 106) dX12_holds_76 (by decide) (fun c3 => ?_) (fun c3 => ?_)
                · -- to 106
                  refine J_iinc (v := nI (h + 1)) dX12_holds_106 rfl (nI_dec (h + 1)) (by decide) rfl ?_
                  dsimp only [setL]
                  refine J_aload_n dX12_holds_109 rfl ?_
                  refine M_getR dX12_holds_110 fX12_75 rfl rfl (by decide) ?_
                  refine J_iload_n dX12_holds_113 rfl ?_
                  refine J_iconst (v := 1) dX12_holds_114 (by decide) ?_
                  refine J_isub dX12_holds_115 ?_
                  refine M_ialdE dX12_holds_116 rfl (by decide) (nI_pred h) (by omega) ?_
                  rw [rda]
                  refine J_istore dX12_holds_117 (by decide) rfl ?_
                  dsimp only [setL]
                  refine J_aload_n dX12_holds_119 rfl ?_
                  refine M_getR dX12_holds_120 fX12_75 rfl rfl (by decide) ?_
                  refine J_iload_n dX12_holds_123 rfl ?_
                  refine M_ialdE dX12_holds_124 rfl (by decide) (by first | rfl | assumption) (by omega) ?_
                  rw [rda]
                  refine J_istore dX12_holds_125 (by decide) rfl ?_
                  dsimp only [setL]
                  refine J_iload dX12_holds_127 rfl ?_
                  refine J_tabIn (off := 137) (tgt := 266) dX12_holds_129 (by decide) (by decide) rfl (by decide) ?_
                  refine J_aload_n dX12_holds_266 rfl ?_
                  refine M_getR dX12_holds_267 fX12_75 rfl rfl (by decide) ?_
                  refine J_iload_n dX12_holds_270 rfl ?_
                  refine J_iconst (v := 1) dX12_holds_271 (by decide) ?_
                  refine J_isub dX12_holds_272 ?_
                  refine J_iload dX12_holds_273 rfl ?_
                  refine J_iload dX12_holds_275 rfl ?_
                  refine J_icmp_le (tgt := 284) dX12_holds_277 (by decide) (fun c4 => ?_) (fun c4 => ?_)
                  · -- to 284
                    refine J_iconst (v := 0) dX12_holds_284 (by decide) ?_
                    refine M_iastE dX12_holds_285 rfl (by decide) (nI_pred h) (by omega) ?_
                    refine J_goto (tgt := 318) dX12_holds_286 (by decide) ?_
                    rw [wa_wr]
                    refine J_iinc (v := nI (i + 1)) dX12_holds_318 rfl (nI_1 i) (by decide) rfl ?_
                    dsimp only [setL]
                    refine J_dropN 4 ?_
                    refine J_goto (tgt := 9) dX12_holds_321 (by decide) ?_
                    rw [evF, if_neg hc0, if_neg hd0, if_neg he0, hc] at h0
                    have q := ih (i + 1) (h + 1) _ (by omega) (by omega) hk.2.2 h0
                    rw [Nat.add_sub_cancel, show h + 1 + 1 - 1 = h + 1 from rfl] at q
                    first
                    | (rw [bop_gt0 c4] at q; exact q)
                    | (rw [bop_gt1 c4] at q; exact q)
                  · -- on 280
                    refine J_iconst (v := 1) dX12_holds_280 (by decide) ?_
                    refine J_goto (tgt := 285) dX12_holds_281 (by decide) ?_
                    refine M_iastE dX12_holds_285 rfl (by decide) (nI_pred h) (by omega) ?_
                    refine J_goto (tgt := 318) dX12_holds_286 (by decide) ?_
                    rw [wa_wr]
                    refine J_iinc (v := nI (i + 1)) dX12_holds_318 rfl (nI_1 i) (by decide) rfl ?_
                    dsimp only [setL]
                    refine J_dropN 4 ?_
                    refine J_goto (tgt := 9) dX12_holds_321 (by decide) ?_
                    rw [evF, if_neg hc0, if_neg hd0, if_neg he0, hc] at h0
                    have q := ih (i + 1) (h + 1) _ (by omega) (by omega) hk.2.2 h0
                    rw [Nat.add_sub_cancel, show h + 1 + 1 - 1 = h + 1 from rfl] at q
                    first
                    | (rw [bop_gt0 c4] at q; exact q)
                    | (rw [bop_gt1 c4] at q; exact q)
                · -- on 79
                  exact absurd c3 (by decide)
              · -- on 36
                exact absurd c2 (by decide)
          rcases hop with hc | hop
          · have he : enc (C i) = 46 := by rw [hc]; rfl
            refine J_iload_n dX12_holds_9 rfl ?_
            refine J_aload_n dX12_holds_10 rfl ?_
            refine M_getR dX12_holds_11 fX12_47 rfl rfl (by decide) ?_
            refine J_iload_n dX12_holds_14 rfl ?_
            refine J_iconst (v := 1) dX12_holds_15 (by decide) ?_
            refine J_iadd dX12_holds_16 ?_
            refine M_ialdE dX12_holds_17 rfl (by decide) (nI_1 r) (by omega) ?_
            rw [rdb (by decide), ha]
            refine J_icmp_ge (tgt := 324) dX12_holds_18 (by decide) (fun c1 => ?_) (fun c1 => ?_)
            · -- to 324
              exact absurd c1 (nI_ge (by omega) (by omega))
            · -- on 21
              refine J_aload_n dX12_holds_21 rfl ?_
              refine M_getR dX12_holds_22 fX12_41 rfl rfl (by decide) ?_
              refine J_iload_n dX12_holds_25 rfl ?_
              refine M_ialdE dX12_holds_26 rfl (by decide) (by first | rfl | assumption) (by omega) ?_
              rw [rdb (by decide), (hC i (by omega)).1, he]
              refine J_istore dX12_holds_27 (by decide) rfl ?_
              dsimp only [setL]
              refine J_iload dX12_holds_29 rfl ?_
              refine J_bipush (v := 40) dX12_holds_31 (by decide) ?_
              refine J_icmp_ge (tgt := 72) dX12_holds_33 (by decide) (fun c2 => ?_) (fun c2 => ?_)
              · -- to 72
                refine J_iload dX12_holds_72 rfl ?_
                refine J_bipush (v := 40) dX12_holds_74 (by decide) ?_
                refine J_icmp_ne (tgt := 106) dX12_holds_76 (by decide) (fun c3 => ?_) (fun c3 => ?_)
                · -- to 106
                  refine J_iinc (v := nI (h + 1)) dX12_holds_106 rfl (nI_dec (h + 1)) (by decide) rfl ?_
                  dsimp only [setL]
                  refine J_aload_n dX12_holds_109 rfl ?_
                  refine M_getR dX12_holds_110 fX12_75 rfl rfl (by decide) ?_
                  refine J_iload_n dX12_holds_113 rfl ?_
                  refine J_iconst (v := 1) dX12_holds_114 (by decide) ?_
                  refine J_isub dX12_holds_115 ?_
                  refine M_ialdE dX12_holds_116 rfl (by decide) (nI_pred h) (by omega) ?_
                  rw [rda]
                  refine J_istore dX12_holds_117 (by decide) rfl ?_
                  dsimp only [setL]
                  refine J_aload_n dX12_holds_119 rfl ?_
                  refine M_getR dX12_holds_120 fX12_75 rfl rfl (by decide) ?_
                  refine J_iload_n dX12_holds_123 rfl ?_
                  refine M_ialdE dX12_holds_124 rfl (by decide) (by first | rfl | assumption) (by omega) ?_
                  rw [rda]
                  refine J_istore dX12_holds_125 (by decide) rfl ?_
                  dsimp only [setL]
                  refine J_iload dX12_holds_127 rfl ?_
                  refine J_tabIn (off := 160) (tgt := 289) dX12_holds_129 (by decide) (by decide) rfl (by decide) ?_
                  refine J_aload_n dX12_holds_289 rfl ?_
                  refine M_getR dX12_holds_290 fX12_75 rfl rfl (by decide) ?_
                  refine J_iload_n dX12_holds_293 rfl ?_
                  refine J_iconst (v := 1) dX12_holds_294 (by decide) ?_
                  refine J_isub dX12_holds_295 ?_
                  refine J_iload dX12_holds_296 rfl ?_
                  refine J_iload dX12_holds_298 rfl ?_
                  refine J_iadd dX12_holds_300 ?_
                  refine M_iastE dX12_holds_301 rfl (by decide) (nI_pred h) (by omega) ?_
                  refine J_goto (tgt := 318) dX12_holds_302 (by decide) ?_
                  rw [wa_wr]
                  refine J_iinc (v := nI (i + 1)) dX12_holds_318 rfl (nI_1 i) (by decide) rfl ?_
                  dsimp only [setL]
                  refine J_dropN 4 ?_
                  refine J_goto (tgt := 9) dX12_holds_321 (by decide) ?_
                  rw [evF, if_neg hc0, if_neg hd0, if_neg he0, hc] at h0
                  have q := ih (i + 1) (h + 1) _ (by omega) (by omega) hk.2.2 h0
                  rw [Nat.add_sub_cancel, show h + 1 + 1 - 1 = h + 1 from rfl] at q
                  first
                  | (rw [bop_pl] at q; exact q)
                · -- on 79
                  exact absurd c3 (by decide)
              · -- on 36
                exact absurd c2 (by decide)
          have hc := hop
          have he : enc (C i) = 47 := by rw [hc]; rfl
          refine J_iload_n dX12_holds_9 rfl ?_
          refine J_aload_n dX12_holds_10 rfl ?_
          refine M_getR dX12_holds_11 fX12_47 rfl rfl (by decide) ?_
          refine J_iload_n dX12_holds_14 rfl ?_
          refine J_iconst (v := 1) dX12_holds_15 (by decide) ?_
          refine J_iadd dX12_holds_16 ?_
          refine M_ialdE dX12_holds_17 rfl (by decide) (nI_1 r) (by omega) ?_
          rw [rdb (by decide), ha]
          refine J_icmp_ge (tgt := 324) dX12_holds_18 (by decide) (fun c1 => ?_) (fun c1 => ?_)
          · -- to 324
            exact absurd c1 (nI_ge (by omega) (by omega))
          · -- on 21
            refine J_aload_n dX12_holds_21 rfl ?_
            refine M_getR dX12_holds_22 fX12_41 rfl rfl (by decide) ?_
            refine J_iload_n dX12_holds_25 rfl ?_
            refine M_ialdE dX12_holds_26 rfl (by decide) (by first | rfl | assumption) (by omega) ?_
            rw [rdb (by decide), (hC i (by omega)).1, he]
            refine J_istore dX12_holds_27 (by decide) rfl ?_
            dsimp only [setL]
            refine J_iload dX12_holds_29 rfl ?_
            refine J_bipush (v := 40) dX12_holds_31 (by decide) ?_
            refine J_icmp_ge (tgt := 72) dX12_holds_33 (by decide) (fun c2 => ?_) (fun c2 => ?_)
            · -- to 72
              refine J_iload dX12_holds_72 rfl ?_
              refine J_bipush (v := 40) dX12_holds_74 (by decide) ?_
              refine J_icmp_ne (tgt := 106) dX12_holds_76 (by decide) (fun c3 => ?_) (fun c3 => ?_)
              · -- to 106
                refine J_iinc (v := nI (h + 1)) dX12_holds_106 rfl (nI_dec (h + 1)) (by decide) rfl ?_
                dsimp only [setL]
                refine J_aload_n dX12_holds_109 rfl ?_
                refine M_getR dX12_holds_110 fX12_75 rfl rfl (by decide) ?_
                refine J_iload_n dX12_holds_113 rfl ?_
                refine J_iconst (v := 1) dX12_holds_114 (by decide) ?_
                refine J_isub dX12_holds_115 ?_
                refine M_ialdE dX12_holds_116 rfl (by decide) (nI_pred h) (by omega) ?_
                rw [rda]
                refine J_istore dX12_holds_117 (by decide) rfl ?_
                dsimp only [setL]
                refine J_aload_n dX12_holds_119 rfl ?_
                refine M_getR dX12_holds_120 fX12_75 rfl rfl (by decide) ?_
                refine J_iload_n dX12_holds_123 rfl ?_
                refine M_ialdE dX12_holds_124 rfl (by decide) (by first | rfl | assumption) (by omega) ?_
                rw [rda]
                refine J_istore dX12_holds_125 (by decide) rfl ?_
                dsimp only [setL]
                refine J_iload dX12_holds_127 rfl ?_
                refine J_tabOut (tgt := 305) dX12_holds_129 (Or.inr (by decide)) (by decide) ?_
                refine J_aload_n dX12_holds_305 rfl ?_
                refine M_getR dX12_holds_306 fX12_75 rfl rfl (by decide) ?_
                refine J_iload_n dX12_holds_309 rfl ?_
                refine J_iconst (v := 1) dX12_holds_310 (by decide) ?_
                refine J_isub dX12_holds_311 ?_
                refine J_iload dX12_holds_312 rfl ?_
                refine J_iload dX12_holds_314 rfl ?_
                refine J_isub dX12_holds_316 ?_
                refine M_iastE dX12_holds_317 rfl (by decide) (nI_pred h) (by omega) ?_
                rw [wa_wr]
                refine J_iinc (v := nI (i + 1)) dX12_holds_318 rfl (nI_1 i) (by decide) rfl ?_
                dsimp only [setL]
                refine J_dropN 4 ?_
                refine J_goto (tgt := 9) dX12_holds_321 (by decide) ?_
                rw [evF, if_neg hc0, if_neg hd0, if_neg he0, hc] at h0
                have q := ih (i + 1) (h + 1) _ (by omega) (by omega) hk.2.2 h0
                rw [Nat.add_sub_cancel, show h + 1 + 1 - 1 = h + 1 from rfl] at q
                first
                | (rw [bop_mi] at q; exact q)
              · -- on 79
                exact absurd c3 (by decide)
            · -- on 36
              exact absurd c2 (by decide)
set_option maxRecDepth 100000 in
set_option maxHeartbeats 1000000 in
theorem tX12_holds {d : Nat} {M : Mem} {Φ : Option Int32 → Mem → Prop} {r a e : Nat} {C : Nat → Nat} (hs : M.1 75 r = nI a) (ha : M.1 75 (r + 1) = nI e) (hr : r < 12) (heb : e ≤ 600) (hC : ∀ i, i < e → M.1 73 i = nI (enc (C i)) ∧ (100 ≤ C i → M.1 74 i = nI (C i - 100))) (hae : a ≤ e) (hk : okF C 14 (e - a) a 0) (h0 : ∀ f, Φ (some (if evF (fun c => M.1 84 (nmR c)) C (e - a) a 0 (M.1 83) = 0 then 0 else 1)) (wa M 83 f)) : JM noRo d mX12_holds 0 [some (.ref 62), some (.int (nI r))] [] M Φ := by
  refine J_iconst (v := 0) dX12_holds_0 (by decide) ?_
  refine J_istore_n dX12_holds_1 (by decide) rfl ?_
  dsimp only [setL]
  refine J_aload_n dX12_holds_2 rfl ?_
  refine M_getR dX12_holds_3 fX12_47 rfl rfl (by decide) ?_
  refine J_iload_n dX12_holds_6 rfl ?_
  refine M_ialdE dX12_holds_7 rfl (by decide) (by first | rfl | assumption) (by omega) ?_
  rw [hs]
  refine J_istore_n dX12_holds_8 (by decide) rfl ?_
  dsimp only [setL]
  have q := tX12_holds_l (d := d) ha hr heb hC (e - a) a 0 (M.1 83) (by omega) (by omega) hk h0
  rw [wa_self] at q
  exact q

def byt (v : Int32) (s : Int32) : Int32 := (v >>> (s &&& 31)) &&& 255
def ap4 (f : Nat → Int32) (n : Nat) (v : Int32) : Nat → Int32 := upd (upd (upd (upd f n (byt v 24)) (n + 1) (byt v 16)) (n + 2) (byt v 8)) (n + 3) (byt v 0)
set_option maxRecDepth 100000 in
set_option maxHeartbeats 1000000 in
theorem tX8_append {d : Nat} {M : Mem} {Φ : Option Int32 → Mem → Prop} {n : Nat} {x : Int32} (hn : M.1 13 1 = nI n) (hb : n + 4 ≤ 1000) (h : Φ none (wr (wa M 14 (ap4 (M.1 14) n x)) 13 1 (nI (n + 4)))) : JM noRo d mX8_append 0 [some (.ref 13), some (.int x)] [] M Φ := by
  refine J_bipush (v := 24) dX8_append_0 (by decide) ?_
  refine J_istore_n dX8_append_2 (by decide) rfl ?_
  dsimp only [setL]
  refine J_iload_n dX8_append_3 rfl ?_
  refine J_if_lt (tgt := 49) dX8_append_4 (by decide) (fun c1 => ?_) (fun c1 => ?_)
  · -- to 49
    exact absurd c1 (by decide)
  · -- on 7
    refine J_aload_n dX8_append_7 rfl ?_
    refine M_getI dX8_append_8 fX8_15 rfl rfl (by decide) ?_
    refine J_sipush (v := 1000) dX8_append_11 (by decide) ?_
    try simp only [rd1, rd2, rd3, ne_eq, Nat.reduceEqDiff, not_false_eq_true, hn, nI_1, Nat.add_assoc, Nat.reduceAdd]
    refine J_icmp_ge (tgt := 49) dX8_append_14 (by decide) (fun c2 => ?_) (fun c2 => ?_)
    · -- to 49
      exact absurd c2 (nI_ge (b := 1000) (by omega) (by decide))
    · -- on 17
      refine J_aload_n dX8_append_17 rfl ?_
      refine M_getR dX8_append_18 fX8_9 rfl rfl (by decide) ?_
      refine J_aload_n dX8_append_21 rfl ?_
      refine M_getI dX8_append_22 fX8_15 rfl rfl (by decide) ?_
      try simp only [rd1, rd2, rd3, ne_eq, Nat.reduceEqDiff, not_false_eq_true, hn, nI_1, Nat.add_assoc, Nat.reduceAdd]
      refine J_iload_n dX8_append_25 rfl ?_
      refine J_iload_n dX8_append_26 rfl ?_
      refine J_ishr dX8_append_27 ?_
      refine J_sipush (v := 255) dX8_append_28 (by decide) ?_
      refine J_iand dX8_append_31 ?_
      refine M_iastE dX8_append_32 rfl (by decide) rfl (by omega) ?_
      refine J_aload_n dX8_append_33 rfl ?_
      refine J_dup dX8_append_34 rfl ?_
      refine M_getI dX8_append_35 fX8_15 rfl rfl (by decide) ?_
      refine J_iconst (v := 1) dX8_append_38 (by decide) ?_
      refine J_iadd dX8_append_39 ?_
      try simp only [rd1, rd2, rd3, ne_eq, Nat.reduceEqDiff, not_false_eq_true, hn, nI_1, Nat.add_assoc, Nat.reduceAdd]
      refine M_putI dX8_append_40 pX8_15 rfl rfl (by decide) ?_
      refine J_iinc dX8_append_43 rfl rfl (by decide) rfl ?_
      dsimp only [setL]
      refine J_goto (tgt := 3) dX8_append_46 (by decide) ?_
      refine J_iload_n dX8_append_3 rfl ?_
      refine J_if_lt (tgt := 49) dX8_append_4 (by decide) (fun c3 => ?_) (fun c3 => ?_)
      · -- to 49
        exact absurd c3 (by decide)
      · -- on 7
        refine J_aload_n dX8_append_7 rfl ?_
        refine M_getI dX8_append_8 fX8_15 rfl rfl (by decide) ?_
        refine J_sipush (v := 1000) dX8_append_11 (by decide) ?_
        try simp only [rd1, rd2, rd3, ne_eq, Nat.reduceEqDiff, not_false_eq_true, hn, nI_1, Nat.add_assoc, Nat.reduceAdd]
        refine J_icmp_ge (tgt := 49) dX8_append_14 (by decide) (fun c4 => ?_) (fun c4 => ?_)
        · -- to 49
          exact absurd c4 (nI_ge (b := 1000) (by omega) (by decide))
        · -- on 17
          refine J_aload_n dX8_append_17 rfl ?_
          refine M_getR dX8_append_18 fX8_9 rfl rfl (by decide) ?_
          refine J_aload_n dX8_append_21 rfl ?_
          refine M_getI dX8_append_22 fX8_15 rfl rfl (by decide) ?_
          try simp only [rd1, rd2, rd3, ne_eq, Nat.reduceEqDiff, not_false_eq_true, hn, nI_1, Nat.add_assoc, Nat.reduceAdd]
          refine J_iload_n dX8_append_25 rfl ?_
          refine J_iload_n dX8_append_26 rfl ?_
          refine J_ishr dX8_append_27 ?_
          refine J_sipush (v := 255) dX8_append_28 (by decide) ?_
          refine J_iand dX8_append_31 ?_
          refine M_iastE dX8_append_32 rfl (by decide) rfl (by omega) ?_
          refine J_aload_n dX8_append_33 rfl ?_
          refine J_dup dX8_append_34 rfl ?_
          refine M_getI dX8_append_35 fX8_15 rfl rfl (by decide) ?_
          refine J_iconst (v := 1) dX8_append_38 (by decide) ?_
          refine J_iadd dX8_append_39 ?_
          try simp only [rd1, rd2, rd3, ne_eq, Nat.reduceEqDiff, not_false_eq_true, hn, nI_1, Nat.add_assoc, Nat.reduceAdd]
          refine M_putI dX8_append_40 pX8_15 rfl rfl (by decide) ?_
          refine J_iinc dX8_append_43 rfl rfl (by decide) rfl ?_
          dsimp only [setL]
          refine J_goto (tgt := 3) dX8_append_46 (by decide) ?_
          refine J_iload_n dX8_append_3 rfl ?_
          refine J_if_lt (tgt := 49) dX8_append_4 (by decide) (fun c5 => ?_) (fun c5 => ?_)
          · -- to 49
            exact absurd c5 (by decide)
          · -- on 7
            refine J_aload_n dX8_append_7 rfl ?_
            refine M_getI dX8_append_8 fX8_15 rfl rfl (by decide) ?_
            refine J_sipush (v := 1000) dX8_append_11 (by decide) ?_
            try simp only [rd1, rd2, rd3, ne_eq, Nat.reduceEqDiff, not_false_eq_true, hn, nI_1, Nat.add_assoc, Nat.reduceAdd]
            refine J_icmp_ge (tgt := 49) dX8_append_14 (by decide) (fun c6 => ?_) (fun c6 => ?_)
            · -- to 49
              exact absurd c6 (nI_ge (b := 1000) (by omega) (by decide))
            · -- on 17
              refine J_aload_n dX8_append_17 rfl ?_
              refine M_getR dX8_append_18 fX8_9 rfl rfl (by decide) ?_
              refine J_aload_n dX8_append_21 rfl ?_
              refine M_getI dX8_append_22 fX8_15 rfl rfl (by decide) ?_
              try simp only [rd1, rd2, rd3, ne_eq, Nat.reduceEqDiff, not_false_eq_true, hn, nI_1, Nat.add_assoc, Nat.reduceAdd]
              refine J_iload_n dX8_append_25 rfl ?_
              refine J_iload_n dX8_append_26 rfl ?_
              refine J_ishr dX8_append_27 ?_
              refine J_sipush (v := 255) dX8_append_28 (by decide) ?_
              refine J_iand dX8_append_31 ?_
              refine M_iastE dX8_append_32 rfl (by decide) rfl (by omega) ?_
              refine J_aload_n dX8_append_33 rfl ?_
              refine J_dup dX8_append_34 rfl ?_
              refine M_getI dX8_append_35 fX8_15 rfl rfl (by decide) ?_
              refine J_iconst (v := 1) dX8_append_38 (by decide) ?_
              refine J_iadd dX8_append_39 ?_
              try simp only [rd1, rd2, rd3, ne_eq, Nat.reduceEqDiff, not_false_eq_true, hn, nI_1, Nat.add_assoc, Nat.reduceAdd]
              refine M_putI dX8_append_40 pX8_15 rfl rfl (by decide) ?_
              refine J_iinc dX8_append_43 rfl rfl (by decide) rfl ?_
              dsimp only [setL]
              refine J_goto (tgt := 3) dX8_append_46 (by decide) ?_
              refine J_iload_n dX8_append_3 rfl ?_
              refine J_if_lt (tgt := 49) dX8_append_4 (by decide) (fun c7 => ?_) (fun c7 => ?_)
              · -- to 49
                exact absurd c7 (by decide)
              · -- on 7
                refine J_aload_n dX8_append_7 rfl ?_
                refine M_getI dX8_append_8 fX8_15 rfl rfl (by decide) ?_
                refine J_sipush (v := 1000) dX8_append_11 (by decide) ?_
                try simp only [rd1, rd2, rd3, ne_eq, Nat.reduceEqDiff, not_false_eq_true, hn, nI_1, Nat.add_assoc, Nat.reduceAdd]
                refine J_icmp_ge (tgt := 49) dX8_append_14 (by decide) (fun c8 => ?_) (fun c8 => ?_)
                · -- to 49
                  exact absurd c8 (nI_ge (b := 1000) (by omega) (by decide))
                · -- on 17
                  refine J_aload_n dX8_append_17 rfl ?_
                  refine M_getR dX8_append_18 fX8_9 rfl rfl (by decide) ?_
                  refine J_aload_n dX8_append_21 rfl ?_
                  refine M_getI dX8_append_22 fX8_15 rfl rfl (by decide) ?_
                  try simp only [rd1, rd2, rd3, ne_eq, Nat.reduceEqDiff, not_false_eq_true, hn, nI_1, Nat.add_assoc, Nat.reduceAdd]
                  refine J_iload_n dX8_append_25 rfl ?_
                  refine J_iload_n dX8_append_26 rfl ?_
                  refine J_ishr dX8_append_27 ?_
                  refine J_sipush (v := 255) dX8_append_28 (by decide) ?_
                  refine J_iand dX8_append_31 ?_
                  refine M_iastE dX8_append_32 rfl (by decide) rfl (by omega) ?_
                  refine J_aload_n dX8_append_33 rfl ?_
                  refine J_dup dX8_append_34 rfl ?_
                  refine M_getI dX8_append_35 fX8_15 rfl rfl (by decide) ?_
                  refine J_iconst (v := 1) dX8_append_38 (by decide) ?_
                  refine J_iadd dX8_append_39 ?_
                  try simp only [rd1, rd2, rd3, ne_eq, Nat.reduceEqDiff, not_false_eq_true, hn, nI_1, Nat.add_assoc, Nat.reduceAdd]
                  refine M_putI dX8_append_40 pX8_15 rfl rfl (by decide) ?_
                  refine J_iinc dX8_append_43 rfl rfl (by decide) rfl ?_
                  dsimp only [setL]
                  refine J_goto (tgt := 3) dX8_append_46 (by decide) ?_
                  refine J_iload_n dX8_append_3 rfl ?_
                  refine J_if_lt (tgt := 49) dX8_append_4 (by decide) (fun c9 => ?_) (fun c9 => ?_)
                  · -- to 49
                    refine M_vret dX8_append_49 rfl ?_
                    have e : (wr (wr (wr (wr (wr (wr (wr (wr M 14 n (byt x 24)) 13 1 (nI (n + 1))) 14 (n + 1) (byt x 16)) 13 1 (nI (n + 2))) 14 (n + 2) (byt x 8)) 13 1 (nI (n + 3))) 14 (n + 3) (byt x 0)) 13 1 (nI (n + 4))) = wr (wa M 14 (ap4 (M.1 14) n x)) 13 1 (nI (n + 4)) := by
                      refine Mem_ext (fun a => ?_) rfl
                      by_cases h1 : a = 14
                      · subst h1
                        simp [wr, wa, ap4]
                      · by_cases h2 : a = 13
                        · subst h2
                          funext b
                          by_cases hb : b = 1 <;> simp [wr, wa, upd, hb]
                        · simp [wr, wa, h1, h2]
                    exact e ▸ h
                  · -- on 7
                    exact absurd c9 (by decide)
set_option maxRecDepth 100000 in
set_option maxHeartbeats 1000000 in
theorem tX12_four {d : Nat} {M : Mem} {Φ : Option Int32 → Mem → Prop} {n : Nat} {x : Int32} (hn : M.1 62 26 = nI n) (hb : n + 4 ≤ 1000) (h : Φ none (wr (wa M 81 (ap4 (M.1 81) n x)) 62 26 (nI (n + 4)))) : JM noRo d mX12_four 0 [some (.ref 62), some (.int x)] [] M Φ := by
  refine J_bipush (v := 24) dX12_four_0 (by decide) ?_
  refine J_istore_n dX12_four_2 (by decide) rfl ?_
  dsimp only [setL]
  refine J_iload_n dX12_four_3 rfl ?_
  refine J_if_lt (tgt := 39) dX12_four_4 (by decide) (fun c1 => ?_) (fun c1 => ?_)
  · -- to 39
    exact absurd c1 (by decide)
  · -- on 7
    refine J_aload_n dX12_four_7 rfl ?_
    refine M_getR dX12_four_8 fX12_65 rfl rfl (by decide) ?_
    refine J_aload_n dX12_four_11 rfl ?_
    refine M_getI dX12_four_12 fX12_150 rfl rfl (by decide) ?_
    try simp only [rd1, rd2, rd3, ne_eq, Nat.reduceEqDiff, not_false_eq_true, hn, nI_1, Nat.add_assoc, Nat.reduceAdd]
    refine J_iload_n dX12_four_15 rfl ?_
    refine J_iload_n dX12_four_16 rfl ?_
    refine J_ishr dX12_four_17 ?_
    refine J_sipush (v := 255) dX12_four_18 (by decide) ?_
    refine J_iand dX12_four_21 ?_
    refine M_iastE dX12_four_22 rfl (by decide) rfl (by omega) ?_
    refine J_aload_n dX12_four_23 rfl ?_
    refine J_dup dX12_four_24 rfl ?_
    refine M_getI dX12_four_25 fX12_150 rfl rfl (by decide) ?_
    refine J_iconst (v := 1) dX12_four_28 (by decide) ?_
    refine J_iadd dX12_four_29 ?_
    try simp only [rd1, rd2, rd3, ne_eq, Nat.reduceEqDiff, not_false_eq_true, hn, nI_1, Nat.add_assoc, Nat.reduceAdd]
    refine M_putI dX12_four_30 pX12_150 rfl rfl (by decide) ?_
    refine J_iinc dX12_four_33 rfl rfl (by decide) rfl ?_
    dsimp only [setL]
    refine J_goto (tgt := 3) dX12_four_36 (by decide) ?_
    refine J_iload_n dX12_four_3 rfl ?_
    refine J_if_lt (tgt := 39) dX12_four_4 (by decide) (fun c2 => ?_) (fun c2 => ?_)
    · -- to 39
      exact absurd c2 (by decide)
    · -- on 7
      refine J_aload_n dX12_four_7 rfl ?_
      refine M_getR dX12_four_8 fX12_65 rfl rfl (by decide) ?_
      refine J_aload_n dX12_four_11 rfl ?_
      refine M_getI dX12_four_12 fX12_150 rfl rfl (by decide) ?_
      try simp only [rd1, rd2, rd3, ne_eq, Nat.reduceEqDiff, not_false_eq_true, hn, nI_1, Nat.add_assoc, Nat.reduceAdd]
      refine J_iload_n dX12_four_15 rfl ?_
      refine J_iload_n dX12_four_16 rfl ?_
      refine J_ishr dX12_four_17 ?_
      refine J_sipush (v := 255) dX12_four_18 (by decide) ?_
      refine J_iand dX12_four_21 ?_
      refine M_iastE dX12_four_22 rfl (by decide) rfl (by omega) ?_
      refine J_aload_n dX12_four_23 rfl ?_
      refine J_dup dX12_four_24 rfl ?_
      refine M_getI dX12_four_25 fX12_150 rfl rfl (by decide) ?_
      refine J_iconst (v := 1) dX12_four_28 (by decide) ?_
      refine J_iadd dX12_four_29 ?_
      try simp only [rd1, rd2, rd3, ne_eq, Nat.reduceEqDiff, not_false_eq_true, hn, nI_1, Nat.add_assoc, Nat.reduceAdd]
      refine M_putI dX12_four_30 pX12_150 rfl rfl (by decide) ?_
      refine J_iinc dX12_four_33 rfl rfl (by decide) rfl ?_
      dsimp only [setL]
      refine J_goto (tgt := 3) dX12_four_36 (by decide) ?_
      refine J_iload_n dX12_four_3 rfl ?_
      refine J_if_lt (tgt := 39) dX12_four_4 (by decide) (fun c3 => ?_) (fun c3 => ?_)
      · -- to 39
        exact absurd c3 (by decide)
      · -- on 7
        refine J_aload_n dX12_four_7 rfl ?_
        refine M_getR dX12_four_8 fX12_65 rfl rfl (by decide) ?_
        refine J_aload_n dX12_four_11 rfl ?_
        refine M_getI dX12_four_12 fX12_150 rfl rfl (by decide) ?_
        try simp only [rd1, rd2, rd3, ne_eq, Nat.reduceEqDiff, not_false_eq_true, hn, nI_1, Nat.add_assoc, Nat.reduceAdd]
        refine J_iload_n dX12_four_15 rfl ?_
        refine J_iload_n dX12_four_16 rfl ?_
        refine J_ishr dX12_four_17 ?_
        refine J_sipush (v := 255) dX12_four_18 (by decide) ?_
        refine J_iand dX12_four_21 ?_
        refine M_iastE dX12_four_22 rfl (by decide) rfl (by omega) ?_
        refine J_aload_n dX12_four_23 rfl ?_
        refine J_dup dX12_four_24 rfl ?_
        refine M_getI dX12_four_25 fX12_150 rfl rfl (by decide) ?_
        refine J_iconst (v := 1) dX12_four_28 (by decide) ?_
        refine J_iadd dX12_four_29 ?_
        try simp only [rd1, rd2, rd3, ne_eq, Nat.reduceEqDiff, not_false_eq_true, hn, nI_1, Nat.add_assoc, Nat.reduceAdd]
        refine M_putI dX12_four_30 pX12_150 rfl rfl (by decide) ?_
        refine J_iinc dX12_four_33 rfl rfl (by decide) rfl ?_
        dsimp only [setL]
        refine J_goto (tgt := 3) dX12_four_36 (by decide) ?_
        refine J_iload_n dX12_four_3 rfl ?_
        refine J_if_lt (tgt := 39) dX12_four_4 (by decide) (fun c4 => ?_) (fun c4 => ?_)
        · -- to 39
          exact absurd c4 (by decide)
        · -- on 7
          refine J_aload_n dX12_four_7 rfl ?_
          refine M_getR dX12_four_8 fX12_65 rfl rfl (by decide) ?_
          refine J_aload_n dX12_four_11 rfl ?_
          refine M_getI dX12_four_12 fX12_150 rfl rfl (by decide) ?_
          try simp only [rd1, rd2, rd3, ne_eq, Nat.reduceEqDiff, not_false_eq_true, hn, nI_1, Nat.add_assoc, Nat.reduceAdd]
          refine J_iload_n dX12_four_15 rfl ?_
          refine J_iload_n dX12_four_16 rfl ?_
          refine J_ishr dX12_four_17 ?_
          refine J_sipush (v := 255) dX12_four_18 (by decide) ?_
          refine J_iand dX12_four_21 ?_
          refine M_iastE dX12_four_22 rfl (by decide) rfl (by omega) ?_
          refine J_aload_n dX12_four_23 rfl ?_
          refine J_dup dX12_four_24 rfl ?_
          refine M_getI dX12_four_25 fX12_150 rfl rfl (by decide) ?_
          refine J_iconst (v := 1) dX12_four_28 (by decide) ?_
          refine J_iadd dX12_four_29 ?_
          try simp only [rd1, rd2, rd3, ne_eq, Nat.reduceEqDiff, not_false_eq_true, hn, nI_1, Nat.add_assoc, Nat.reduceAdd]
          refine M_putI dX12_four_30 pX12_150 rfl rfl (by decide) ?_
          refine J_iinc dX12_four_33 rfl rfl (by decide) rfl ?_
          dsimp only [setL]
          refine J_goto (tgt := 3) dX12_four_36 (by decide) ?_
          refine J_iload_n dX12_four_3 rfl ?_
          refine J_if_lt (tgt := 39) dX12_four_4 (by decide) (fun c5 => ?_) (fun c5 => ?_)
          · -- to 39
            refine M_vret dX12_four_39 rfl ?_
            have e : (wr (wr (wr (wr (wr (wr (wr (wr M 81 n (byt x 24)) 62 26 (nI (n + 1))) 81 (n + 1) (byt x 16)) 62 26 (nI (n + 2))) 81 (n + 2) (byt x 8)) 62 26 (nI (n + 3))) 81 (n + 3) (byt x 0)) 62 26 (nI (n + 4))) = wr (wa M 81 (ap4 (M.1 81) n x)) 62 26 (nI (n + 4)) := by
              refine Mem_ext (fun a => ?_) rfl
              by_cases h1 : a = 81
              · subst h1
                simp [wr, wa, ap4]
              · by_cases h2 : a = 62
                · subst h2
                  funext b
                  by_cases hb : b = 26 <;> simp [wr, wa, upd, hb]
                · simp [wr, wa, h1, h2]
            exact e ▸ h
          · -- on 7
            exact absurd c5 (by decide)
theorem wr_com {M : Mem} {a b i j : Nat} {x y : Int32} (h : a ≠ b) : wr (wr M a i x) b j y = wr (wr M b j y) a i x := by
  refine Mem_ext (fun c => ?_) rfl
  by_cases h1 : c = a
  · subst h1
    simp [wr, h]
  · by_cases h2 : c = b
    · subst h2
      simp [wr, h1]
    · simp [wr, h1, h2]
set_option maxRecDepth 100000 in
set_option maxHeartbeats 1000000 in
theorem tY_hs1 {d : Nat} {M : Mem} {Φ : Option Int32 → Mem → Prop} {n : Nat} {x y : Int32} (hn : M.1 1 6 = nI n) (hlt : n < 12) (h : Φ (some (nI n)) (wr (wr (wr (wr (wr (wr (wr (wr M 29 8 0) 2 n x) 3 n y) 4 n (M.1 0 12)) 1 6 (nI (n + 1))) 60 (n * 3) (M.1 0 12)) 60 (n * 3 + 1) (M.1 0 12)) 60 (n * 3 + 2) (M.1 0 12))) : JM noRo (d + 1) mX11_horse 19 [some (.ref 0), some (.int x), some (.int y)] [] M Φ := by
  refine J_aload_n dX11_horse_19 rfl ?_
  refine M_getR dX11_horse_20 fX11_12 rfl rfl (by decide) ?_
  refine J_iload_n dX11_horse_23 rfl ?_
  refine J_iload_n dX11_horse_24 rfl ?_
  refine J_aload_n dX11_horse_25 rfl ?_
  refine M_getI dX11_horse_26 fX11_97 rfl rfl (by decide) ?_
  refine M_callV3 (mc := mX1_add) dX11_horse_29 kX11_105 oX1_add (Nat.le_of_ble_eq_true rfl) (Nat.le_of_ble_eq_true rfl) rfl (by decide) rfl ?_
  refine tX1_add (n := n) hn hlt ?_
  refine J_istore_n dX11_horse_32 (by decide) rfl ?_
  dsimp only [setL]
  refine J_iload_n dX11_horse_33 rfl ?_
  refine J_iconst (v := -1) dX11_horse_34 (by decide) ?_
  refine J_icmp_ne (tgt := 40) dX11_horse_35 (by decide) (fun c2 => ?_) (fun c2 => ?_)
  · -- to 40
    refine J_aload_n dX11_horse_40 rfl ?_
    refine M_getR dX11_horse_41 fX11_68 rfl rfl (by decide) ?_
    refine M_callV0 (mc := mX6_forget) dX11_horse_44 kX11_109 oX6_forget (Nat.le_of_ble_eq_true rfl) (Nat.le_of_ble_eq_true rfl) rfl (by decide) rfl ?_
    refine tX6_forget ?_
    refine J_aload_n dX11_horse_47 rfl ?_
    refine M_getR dX11_horse_48 fX11_93 rfl rfl (by decide) ?_
    refine J_iload_n dX11_horse_51 rfl ?_
    refine J_aload_n dX11_horse_52 rfl ?_
    refine M_getI dX11_horse_53 fX11_97 rfl rfl (by decide) ?_
    refine M_callV2 (mc := mX10_begin) dX11_horse_56 kX11_112 oX10_begin (Nat.le_of_ble_eq_true rfl) (Nat.le_of_ble_eq_true rfl) rfl (by decide) rfl ?_
    refine tX10_begin (by omega) ?_
    refine J_iload_n dX11_horse_59 rfl ?_
    refine M_iret dX11_horse_60 rfl rfl ?_
    simp only [rd1, rd2, rd3, ne_eq, Nat.reduceEqDiff, not_false_eq_true]
    rw [wr_com (a := 1) (b := 29) (by decide), wr_com (a := 4) (b := 29) (by decide), wr_com (a := 3) (b := 29) (by decide), wr_com (a := 2) (b := 29) (by decide)]
    exact h
  · -- on 38
    exact absurd (show nI n < 0 from by rw [c2]; decide) (nI_pos (by omega))
set_option maxRecDepth 100000 in
set_option maxHeartbeats 1000000 in
theorem tY_hs0 {d : Nat} {M : Mem} {Φ : Option Int32 → Mem → Prop} {n : Nat} {x y : Int32} (hn : M.1 1 6 = nI n) (hge : 12 ≤ n) (hb : n ≤ 12) (h : Φ (some (-1)) M) : JM noRo (d + 1) mX11_horse 19 [some (.ref 0), some (.int x), some (.int y)] [] M Φ := by
  refine J_aload_n dX11_horse_19 rfl ?_
  refine M_getR dX11_horse_20 fX11_12 rfl rfl (by decide) ?_
  refine J_iload_n dX11_horse_23 rfl ?_
  refine J_iload_n dX11_horse_24 rfl ?_
  refine J_aload_n dX11_horse_25 rfl ?_
  refine M_getI dX11_horse_26 fX11_97 rfl rfl (by decide) ?_
  refine M_callV3 (mc := mX1_add) dX11_horse_29 kX11_105 oX1_add (Nat.le_of_ble_eq_true rfl) (Nat.le_of_ble_eq_true rfl) rfl (by decide) rfl ?_
  refine tX1_addF (n := n) hn hge hb ?_
  refine J_istore_n dX11_horse_32 (by decide) rfl ?_
  dsimp only [setL]
  refine J_iload_n dX11_horse_33 rfl ?_
  refine J_iconst (v := -1) dX11_horse_34 (by decide) ?_
  refine J_icmp_ne (tgt := 40) dX11_horse_35 (by decide) (fun c2 => ?_) (fun c2 => ?_)
  · -- to 40
    exact (c2 rfl).elim
  · -- on 38
    refine J_iconst (v := -1) dX11_horse_38 (by decide) ?_
    refine M_iret dX11_horse_39 rfl rfl ?_
    exact h
set_option maxRecDepth 100000 in
set_option maxHeartbeats 1000000 in
theorem tY_horse {d : Nat} {M : Mem} {Φ : Option Int32 → Mem → Prop} {n : Nat} {x y : Int32} (hn : M.1 1 6 = nI n) (hb : n ≤ 12) (h0 : ¬ (Ix x 4 ∧ Ix y 41 ∧ n < 12) → Φ (some (-1)) M) (h1 : ∀ u v : Nat, u < 4 → v < 41 → x = nI u → y = nI v → n < 12 → Φ (some (nI n)) (wr (wr (wr (wr (wr (wr (wr (wr M 29 8 0) 2 n x) 3 n y) 4 n (M.1 0 12)) 1 6 (nI (n + 1))) 60 (n * 3) (M.1 0 12)) 60 (n * 3 + 1) (M.1 0 12)) 60 (n * 3 + 2) (M.1 0 12))) : JM noRo (d + 1) mX11_horse 0 [some (.ref 0), some (.int x), some (.int y)] [] M Φ := by
  refine J_iload_n dX11_horse_0 rfl ?_
  refine J_iconst (v := 3) dX11_horse_1 (by decide) ?_
  refine M_callS2 (mc := mX11_isUpTo) dX11_horse_2 kX11_101 oX11_isUpTo (Nat.le_of_ble_eq_true rfl) (Nat.le_of_ble_eq_true rfl) ?_
  refine tX11_isUpTo 3 rfl (by decide) (fun u hu eu => ?_) (fun q1 => ?_)
  · -- true
    subst eu
    refine J_if_eq (tgt := 17) dX11_horse_5 (by decide) (fun c2 => ?_) (fun c2 => ?_)
    · -- to 17
      exact absurd c2 (by decide)
    · -- on 8
      refine J_iload_n dX11_horse_8 rfl ?_
      refine J_bipush (v := 40) dX11_horse_9 (by decide) ?_
      refine M_callS2 (mc := mX11_isUpTo) dX11_horse_11 kX11_101 oX11_isUpTo (Nat.le_of_ble_eq_true rfl) (Nat.le_of_ble_eq_true rfl) ?_
      refine tX11_isUpTo 40 rfl (by decide) (fun v hv ev => ?_) (fun q2 => ?_)
      · -- true
        subst ev
        refine J_if_ne (tgt := 19) dX11_horse_14 (by decide) (fun c4 => ?_) (fun c4 => ?_)
        · -- to 19
          by_cases hlt : n < 12
          · exact tY_hs1 hn hlt (h1 u v hu hv rfl rfl hlt)
          · exact tY_hs0 hn (by omega) hb (h0 (fun q => hlt q.2.2))
        · -- on 17
          exact absurd c4 (by decide)
      · -- false
        refine J_if_ne (tgt := 19) dX11_horse_14 (by decide) (fun c5 => ?_) (fun c5 => ?_)
        · -- to 19
          exact absurd c5 (by decide)
        · -- on 17
          refine J_iconst (v := -1) dX11_horse_17 (by decide) ?_
          refine M_iret dX11_horse_18 rfl rfl ?_
          first
          | exact h0 (fun q => q1 q.1)
          | exact h0 (fun q => q2 q.2.1)
  · -- false
    refine J_if_eq (tgt := 17) dX11_horse_5 (by decide) (fun c6 => ?_) (fun c6 => ?_)
    · -- to 17
      refine J_iconst (v := -1) dX11_horse_17 (by decide) ?_
      refine M_iret dX11_horse_18 rfl rfl ?_
      first
      | exact h0 (fun q => q1 q.1)
      | exact h0 (fun q => q2 q.2.1)
    · -- on 8
      exact absurd c6 (by decide)
set_option maxRecDepth 100000 in
set_option maxHeartbeats 1000000 in
theorem tY_lame {d : Nat} {M : Mem} {Φ : Option Int32 → Mem → Prop} {n : Nat} {x z : Int32} (hn : M.1 1 6 = nI n) (hb : n ≤ 12) (hz : z = 0 ∨ z = 1) (h0 : ¬ Ix x n → Φ (some 0) M) (h1 : ∀ j : Nat, j < n → x = nI j → Φ (some 1) (wr (wr M 29 8 0) 5 j z)) : JM noRo (d + 1) mX11_lame 0 [some (.ref 0), some (.int x), some (.int z)] [] M Φ := by
  refine J_aload_n dX11_lame_0 rfl ?_
  refine M_getR dX11_lame_1 fX11_12 rfl rfl (by decide) ?_
  refine J_iload_n dX11_lame_4 rfl ?_
  refine M_callV1 (mc := mX1_has) dX11_lame_5 kX11_116 oX1_has (Nat.le_of_ble_eq_true rfl) (Nat.le_of_ble_eq_true rfl) rfl (by decide) rfl ?_
  refine tX1_has hn hb (fun j hj ej => ?_) (fun q1 => ?_)
  · -- true
    subst ej
    refine J_if_ne (tgt := 13) dX11_lame_8 (by decide) (fun c2 => ?_) (fun c2 => ?_)
    · -- to 13
      refine J_aload_n dX11_lame_13 rfl ?_
      refine M_getR dX11_lame_14 fX11_68 rfl rfl (by decide) ?_
      refine M_callV0 (mc := mX6_forget) dX11_lame_17 kX11_109 oX6_forget (Nat.le_of_ble_eq_true rfl) (Nat.le_of_ble_eq_true rfl) rfl (by decide) rfl ?_
      refine tX6_forget ?_
      refine J_aload_n dX11_lame_20 rfl ?_
      refine M_getR dX11_lame_21 fX11_12 rfl rfl (by decide) ?_
      refine J_iload_n dX11_lame_24 rfl ?_
      refine J_iload_n dX11_lame_25 rfl ?_
      refine M_callV2 (mc := mX1_setLame) dX11_lame_26 kX11_120 oX1_setLame (Nat.le_of_ble_eq_true rfl) (Nat.le_of_ble_eq_true rfl) rfl (by decide) rfl ?_
      refine tX1_setLame (by omega) hz ?_
      refine J_iconst (v := 1) dX11_lame_29 (by decide) ?_
      refine M_zret dX11_lame_30 rfl (by first | assumption | exact Or.inl rfl | exact Or.inr rfl) ?_
      first
      | exact h0 q1
      | exact h1 j hj rfl
    · -- on 11
      exact absurd c2 (by decide)
  · -- false
    refine J_if_ne (tgt := 13) dX11_lame_8 (by decide) (fun c5 => ?_) (fun c5 => ?_)
    · -- to 13
      exact absurd c5 (by decide)
    · -- on 11
      refine J_iconst (v := 0) dX11_lame_11 (by decide) ?_
      refine M_zret dX11_lame_12 rfl (by first | assumption | exact Or.inl rfl | exact Or.inr rfl) ?_
      first
      | exact h0 q1
      | exact h1 j hj rfl
set_option maxRecDepth 100000 in
set_option maxHeartbeats 1000000 in
theorem tY_field {d : Nat} {M : Mem} {Φ : Option Int32 → Mem → Prop} {x y z : Int32} (h0 : ¬ (Ix x 6 ∧ Ix y 7 ∧ Ix z 10) → Φ (some 0) M) (h1 : ∀ j u v : Nat, j < 6 → u < 7 → v < 10 → x = nI j → y = nI u → z = nI v → Φ (some 1) (wr (wr (wr M 29 8 0) 9 j y) 10 j z)) : JM noRo (d + 2) mX11_field 0 [some (.ref 0), some (.int x), some (.int y), some (.int z)] [] M Φ := by
  refine J_iload_n dX11_field_0 rfl ?_
  refine M_callS1 (mc := mX11_isField) dX11_field_1 kX11_124 oX11_isField (Nat.le_of_ble_eq_true rfl) (Nat.le_of_ble_eq_true rfl) ?_
  refine tX11_isField (fun j hj ej => ?_) (fun q1 => ?_)
  · -- true
    subst ej
    refine J_if_eq (tgt := 25) dX11_field_4 (by decide) (fun c2 => ?_) (fun c2 => ?_)
    · -- to 25
      exact absurd c2 (by decide)
    · -- on 7
      refine J_iload_n dX11_field_7 rfl ?_
      refine J_bipush (v := 6) dX11_field_8 (by decide) ?_
      refine M_callS2 (mc := mX11_isUpTo) dX11_field_10 kX11_101 oX11_isUpTo (Nat.le_of_ble_eq_true rfl) (Nat.le_of_ble_eq_true rfl) ?_
      refine tX11_isUpTo 6 rfl (by decide) (fun u hu eu => ?_) (fun q2 => ?_)
      · -- true
        subst eu
        refine J_if_eq (tgt := 25) dX11_field_13 (by decide) (fun c4 => ?_) (fun c4 => ?_)
        · -- to 25
          exact absurd c4 (by decide)
        · -- on 16
          refine J_iload_n dX11_field_16 rfl ?_
          refine J_bipush (v := 9) dX11_field_17 (by decide) ?_
          refine M_callS2 (mc := mX11_isUpTo) dX11_field_19 kX11_101 oX11_isUpTo (Nat.le_of_ble_eq_true rfl) (Nat.le_of_ble_eq_true rfl) ?_
          refine tX11_isUpTo 9 rfl (by decide) (fun v hv ev => ?_) (fun q3 => ?_)
          · -- true
            subst ev
            refine J_if_ne (tgt := 27) dX11_field_22 (by decide) (fun c6 => ?_) (fun c6 => ?_)
            · -- to 27
              refine J_aload_n dX11_field_27 rfl ?_
              refine M_getR dX11_field_28 fX11_68 rfl rfl (by decide) ?_
              refine M_callV0 (mc := mX6_forget) dX11_field_31 kX11_109 oX6_forget (Nat.le_of_ble_eq_true rfl) (Nat.le_of_ble_eq_true rfl) rfl (by decide) rfl ?_
              refine tX6_forget ?_
              refine J_aload_n dX11_field_34 rfl ?_
              refine M_getR dX11_field_35 fX11_19 rfl rfl (by decide) ?_
              refine J_iload_n dX11_field_38 rfl ?_
              refine J_iload_n dX11_field_39 rfl ?_
              refine J_iload_n dX11_field_40 rfl ?_
              refine M_callV3 (mc := mX3_lay) dX11_field_41 kX11_127 oX3_lay (Nat.le_of_ble_eq_true rfl) (Nat.le_of_ble_eq_true rfl) rfl (by decide) rfl ?_
              refine tX3_lay hj ?_
              refine J_iconst (v := 1) dX11_field_44 (by decide) ?_
              refine M_zret dX11_field_45 rfl (by first | assumption | exact Or.inl rfl | exact Or.inr rfl) ?_
              first
              | exact h0 (fun q => q1 q.1)
              | exact h0 (fun q => q2 q.2.1)
              | exact h0 (fun q => q3 q.2.2)
              | exact h1 j u v hj hu hv rfl rfl rfl
            · -- on 25
              exact absurd c6 (by decide)
          · -- false
            refine J_if_ne (tgt := 27) dX11_field_22 (by decide) (fun c9 => ?_) (fun c9 => ?_)
            · -- to 27
              exact absurd c9 (by decide)
            · -- on 25
              refine J_iconst (v := 0) dX11_field_25 (by decide) ?_
              refine M_zret dX11_field_26 rfl (by first | assumption | exact Or.inl rfl | exact Or.inr rfl) ?_
              first
              | exact h0 (fun q => q1 q.1)
              | exact h0 (fun q => q2 q.2.1)
              | exact h0 (fun q => q3 q.2.2)
              | exact h1 j u v hj hu hv rfl rfl rfl
      · -- false
        refine J_if_eq (tgt := 25) dX11_field_13 (by decide) (fun c10 => ?_) (fun c10 => ?_)
        · -- to 25
          refine J_iconst (v := 0) dX11_field_25 (by decide) ?_
          refine M_zret dX11_field_26 rfl (by first | assumption | exact Or.inl rfl | exact Or.inr rfl) ?_
          first
          | exact h0 (fun q => q1 q.1)
          | exact h0 (fun q => q2 q.2.1)
          | exact h0 (fun q => q3 q.2.2)
          | exact h1 j u v hj hu hv rfl rfl rfl
        · -- on 16
          exact absurd c10 (by decide)
  · -- false
    refine J_if_eq (tgt := 25) dX11_field_4 (by decide) (fun c11 => ?_) (fun c11 => ?_)
    · -- to 25
      refine J_iconst (v := 0) dX11_field_25 (by decide) ?_
      refine M_zret dX11_field_26 rfl (by first | assumption | exact Or.inl rfl | exact Or.inr rfl) ?_
      first
      | exact h0 (fun q => q1 q.1)
      | exact h0 (fun q => q2 q.2.1)
      | exact h0 (fun q => q3 q.2.2)
      | exact h1 j u v hj hu hv rfl rfl rfl
    · -- on 7
      exact absurd c11 (by decide)
set_option maxRecDepth 100000 in
set_option maxHeartbeats 1000000 in
theorem tY_shut {d : Nat} {M : Mem} {Φ : Option Int32 → Mem → Prop} {x y : Int32} (h0 : ¬ (Ix x 6 ∧ Ix y 100001) → Φ (some 0) M) (h1 : ∀ j u : Nat, j < 6 → u < 100001 → x = nI j → y = nI u → Φ (some 1) (wr (wr M 29 8 0) 11 j y)) : JM noRo (d + 2) mX11_shut 0 [some (.ref 0), some (.int x), some (.int y)] [] M Φ := by
  refine J_iload_n dX11_shut_0 rfl ?_
  refine M_callS1 (mc := mX11_isField) dX11_shut_1 kX11_124 oX11_isField (Nat.le_of_ble_eq_true rfl) (Nat.le_of_ble_eq_true rfl) ?_
  refine tX11_isField (fun j hj ej => ?_) (fun q1 => ?_)
  · -- true
    subst ej
    refine J_if_eq (tgt := 16) dX11_shut_4 (by decide) (fun c2 => ?_) (fun c2 => ?_)
    · -- to 16
      exact absurd c2 (by decide)
    · -- on 7
      refine J_iload_n dX11_shut_7 rfl ?_
      refine J_ldc dX11_shut_8 ccX11_131 ?_
      refine M_callS2 (mc := mX11_isUpTo) dX11_shut_10 kX11_101 oX11_isUpTo (Nat.le_of_ble_eq_true rfl) (Nat.le_of_ble_eq_true rfl) ?_
      refine tX11_isUpTo 100000 rfl (by decide) (fun u hu eu => ?_) (fun q2 => ?_)
      · -- true
        subst eu
        refine J_if_ne (tgt := 18) dX11_shut_13 (by decide) (fun c4 => ?_) (fun c4 => ?_)
        · -- to 18
          refine J_aload_n dX11_shut_18 rfl ?_
          refine M_getR dX11_shut_19 fX11_68 rfl rfl (by decide) ?_
          refine M_callV0 (mc := mX6_forget) dX11_shut_22 kX11_109 oX6_forget (Nat.le_of_ble_eq_true rfl) (Nat.le_of_ble_eq_true rfl) rfl (by decide) rfl ?_
          refine tX6_forget ?_
          refine J_aload_n dX11_shut_25 rfl ?_
          refine M_getR dX11_shut_26 fX11_19 rfl rfl (by decide) ?_
          refine J_iload_n dX11_shut_29 rfl ?_
          refine J_iload_n dX11_shut_30 rfl ?_
          refine M_callV2 (mc := mX3_close) dX11_shut_31 kX11_132 oX3_close (Nat.le_of_ble_eq_true rfl) (Nat.le_of_ble_eq_true rfl) rfl (by decide) rfl ?_
          refine tX3_close hj ?_
          refine J_iconst (v := 1) dX11_shut_34 (by decide) ?_
          refine M_zret dX11_shut_35 rfl (by first | assumption | exact Or.inl rfl | exact Or.inr rfl) ?_
          first
          | exact h0 (fun q => q1 q.1)
          | exact h0 (fun q => q2 q.2)
          | exact h1 j u hj hu rfl rfl
        · -- on 16
          exact absurd c4 (by decide)
      · -- false
        refine J_if_ne (tgt := 18) dX11_shut_13 (by decide) (fun c7 => ?_) (fun c7 => ?_)
        · -- to 18
          exact absurd c7 (by decide)
        · -- on 16
          refine J_iconst (v := 0) dX11_shut_16 (by decide) ?_
          refine M_zret dX11_shut_17 rfl (by first | assumption | exact Or.inl rfl | exact Or.inr rfl) ?_
          first
          | exact h0 (fun q => q1 q.1)
          | exact h0 (fun q => q2 q.2)
          | exact h1 j u hj hu rfl rfl
  · -- false
    refine J_if_eq (tgt := 16) dX11_shut_4 (by decide) (fun c8 => ?_) (fun c8 => ?_)
    · -- to 16
      refine J_iconst (v := 0) dX11_shut_16 (by decide) ?_
      refine M_zret dX11_shut_17 rfl (by first | assumption | exact Or.inl rfl | exact Or.inr rfl) ?_
      first
      | exact h0 (fun q => q1 q.1)
      | exact h0 (fun q => q2 q.2)
      | exact h1 j u hj hu rfl rfl
    · -- on 7
      exact absurd c8 (by decide)
set_option maxRecDepth 100000 in
set_option maxHeartbeats 1000000 in
theorem tY_gate {d : Nat} {M : Mem} {Φ : Option Int32 → Mem → Prop} {x y z : Int32} (hz : z = 0 ∨ z = 1) (h0 : ¬ (Ix x 6 ∧ Ix y 6 ∧ x ≠ y) → Φ (some 0) M) (h1 : ∀ u v : Nat, u < 6 → v < 6 → x = nI u → y = nI v → u ≠ v → Φ (some 1) (wr (wr (wr M 29 8 0) 12 (u * 6 + v) z) 12 (v * 6 + u) z)) : JM noRo (d + 2) mX11_gate 0 [some (.ref 0), some (.int x), some (.int y), some (.int z)] [] M Φ := by
  refine J_iload_n dX11_gate_0 rfl ?_
  refine M_callS1 (mc := mX11_isField) dX11_gate_1 kX11_124 oX11_isField (Nat.le_of_ble_eq_true rfl) (Nat.le_of_ble_eq_true rfl) ?_
  refine tX11_isField (fun u hu eu => ?_) (fun q1 => ?_)
  · -- true
    subst eu
    refine J_if_eq (tgt := 19) dX11_gate_4 (by decide) (fun c2 => ?_) (fun c2 => ?_)
    · -- to 19
      exact absurd c2 (by decide)
    · -- on 7
      refine J_iload_n dX11_gate_7 rfl ?_
      refine M_callS1 (mc := mX11_isField) dX11_gate_8 kX11_124 oX11_isField (Nat.le_of_ble_eq_true rfl) (Nat.le_of_ble_eq_true rfl) ?_
      refine tX11_isField (fun v hv ev => ?_) (fun q2 => ?_)
      · -- true
        subst ev
        refine J_if_eq (tgt := 19) dX11_gate_11 (by decide) (fun c4 => ?_) (fun c4 => ?_)
        · -- to 19
          exact absurd c4 (by decide)
        · -- on 14
          refine J_iload_n dX11_gate_14 rfl ?_
          refine J_iload_n dX11_gate_15 rfl ?_
          refine J_icmp_ne (tgt := 21) dX11_gate_16 (by decide) (fun c5 => ?_) (fun c5 => ?_)
          · -- to 21
            refine J_aload_n dX11_gate_21 rfl ?_
            refine M_getR dX11_gate_22 fX11_68 rfl rfl (by decide) ?_
            refine M_callV0 (mc := mX6_forget) dX11_gate_25 kX11_109 oX6_forget (Nat.le_of_ble_eq_true rfl) (Nat.le_of_ble_eq_true rfl) rfl (by decide) rfl ?_
            refine tX6_forget ?_
            refine J_aload_n dX11_gate_28 rfl ?_
            refine M_getR dX11_gate_29 fX11_19 rfl rfl (by decide) ?_
            refine J_iload_n dX11_gate_32 rfl ?_
            refine J_iload_n dX11_gate_33 rfl ?_
            refine J_iload_n dX11_gate_34 rfl ?_
            refine M_callV3 (mc := mX3_setGate) dX11_gate_35 kX11_135 oX3_setGate (Nat.le_of_ble_eq_true rfl) (Nat.le_of_ble_eq_true rfl) rfl (by decide) rfl ?_
            refine tX3_setGate hu hv hz ?_
            refine J_iconst (v := 1) dX11_gate_38 (by decide) ?_
            refine M_zret dX11_gate_39 rfl (by first | assumption | exact Or.inl rfl | exact Or.inr rfl) ?_
            first
            | exact h0 (fun q => q1 q.1)
            | exact h0 (fun q => q2 q.2.1)
            | exact h0 (fun q => q.2.2 c5)
            | exact h1 u v hu hv rfl rfl (fun q => c5 (by rw [q]))
          · -- on 19
            refine J_iconst (v := 0) dX11_gate_19 (by decide) ?_
            refine M_zret dX11_gate_20 rfl (by first | assumption | exact Or.inl rfl | exact Or.inr rfl) ?_
            first
            | exact h0 (fun q => q1 q.1)
            | exact h0 (fun q => q2 q.2.1)
            | exact h0 (fun q => q.2.2 c5)
            | exact h1 u v hu hv rfl rfl (fun q => c5 (by rw [q]))
      · -- false
        refine J_if_eq (tgt := 19) dX11_gate_11 (by decide) (fun c8 => ?_) (fun c8 => ?_)
        · -- to 19
          refine J_iconst (v := 0) dX11_gate_19 (by decide) ?_
          refine M_zret dX11_gate_20 rfl (by first | assumption | exact Or.inl rfl | exact Or.inr rfl) ?_
          first
          | exact h0 (fun q => q1 q.1)
          | exact h0 (fun q => q2 q.2.1)
          | exact h0 (fun q => q.2.2 c8)
          | exact h1 u v hu hv rfl rfl (fun q => c8 (by rw [q]))
        · -- on 14
          exact absurd c8 (by decide)
  · -- false
    refine J_if_eq (tgt := 19) dX11_gate_4 (by decide) (fun c9 => ?_) (fun c9 => ?_)
    · -- to 19
      refine J_iconst (v := 0) dX11_gate_19 (by decide) ?_
      refine M_zret dX11_gate_20 rfl (by first | assumption | exact Or.inl rfl | exact Or.inr rfl) ?_
      first
      | exact h0 (fun q => q1 q.1)
      | exact h0 (fun q => q2 q.2.1)
      | exact h0 (fun q => q.2.2 c9)
      | exact h1 u v hu hv rfl rfl (fun q => c9 (by rw [q]))
    · -- on 7
      exact absurd c9 (by decide)
set_option maxRecDepth 100000 in
set_option maxHeartbeats 1000000 in
theorem tY_end {d : Nat} {M : Mem} {Φ : Option Int32 → Mem → Prop} {n : Nat} {x : Int32} (hn : M.1 13 1 = nI n) (hb : n ≤ 1000) (h0 : ¬ Ix x (n + 1) → Φ (some (-1)) M) (h1 : ∀ j : Nat, j < n + 1 → x = nI j → Φ (some x) (wr M 13 1 x)) : JM noRo (d + 1) mX11_end 0 [some (.ref 0), some (.int x)] [] M Φ := by
  refine J_iload_n dX11_end_0 rfl ?_
  refine J_aload_n dX11_end_1 rfl ?_
  refine M_getR dX11_end_2 fX11_26 rfl rfl (by decide) ?_
  refine M_callV0 (mc := mX8_length) dX11_end_5 kX11_139 oX8_length (Nat.le_of_ble_eq_true rfl) (Nat.le_of_ble_eq_true rfl) rfl (by decide) rfl ?_
  refine tX8_length ?_
  refine M_callS2 (mc := mX11_isUpTo) dX11_end_8 kX11_101 oX11_isUpTo (Nat.le_of_ble_eq_true rfl) (Nat.le_of_ble_eq_true rfl) ?_
  refine tX11_isUpTo n hn (by omega) (fun j hj e => ?_) (fun q1 => ?_)
  · -- true
    subst e
    refine J_if_ne (tgt := 16) dX11_end_11 (by decide) (fun c3 => ?_) (fun c3 => ?_)
    · -- to 16
      refine J_aload_n dX11_end_16 rfl ?_
      refine M_getR dX11_end_17 fX11_26 rfl rfl (by decide) ?_
      refine J_iload_n dX11_end_20 rfl ?_
      refine M_callV1 (mc := mX8_cut) dX11_end_21 kX11_147 oX8_cut (Nat.le_of_ble_eq_true rfl) (Nat.le_of_ble_eq_true rfl) rfl (by decide) rfl ?_
      refine tX8_cut ?_
      refine J_iload_n dX11_end_24 rfl ?_
      refine M_iret dX11_end_25 rfl rfl ?_
      first
      | exact h0 q1
      | exact h1 j hj rfl
    · -- on 14
      exact absurd c3 (by decide)
  · -- false
    refine J_if_ne (tgt := 16) dX11_end_11 (by decide) (fun c5 => ?_) (fun c5 => ?_)
    · -- to 16
      exact absurd c5 (by decide)
    · -- on 14
      refine J_iconst (v := -1) dX11_end_14 (by decide) ?_
      refine M_iret dX11_end_15 rfl rfl ?_
      first
      | exact h0 q1
      | exact h1 j hj rfl
def ap20 (f : Nat → Int32) (n : Nat) (a b c d e : Int32) : Nat → Int32 := ap4 (ap4 (ap4 (ap4 (ap4 f n a) (n + 4) b) (n + 8) c) (n + 12) d) (n + 16) e
set_option maxRecDepth 100000 in
set_option maxHeartbeats 1000000 in
theorem tY_feed {d : Nat} {M : Mem} {Φ : Option Int32 → Mem → Prop} {n : Nat} {x1 x2 x3 x4 x5 : Int32} (hn : M.1 13 1 = nI n) (hb : n ≤ 1000) (h0 : ¬ n + 20 ≤ 1000 → Φ (some (-1)) M) (h1 : n + 20 ≤ 1000 → Φ (some (nI (n + 20))) (wr (wa M 14 (ap20 (M.1 14) n x1 x2 x3 x4 x5)) 13 1 (nI (n + 20)))) : JM noRo (d + 1) mX11_feed 0 [some (.ref 0), some (.int x1), some (.int x2), some (.int x3), some (.int x4), some (.int x5)] [] M Φ := by
  refine J_aload_n dX11_feed_0 rfl ?_
  refine M_getR dX11_feed_1 fX11_26 rfl rfl (by decide) ?_
  refine M_callV0 (mc := mX8_length) dX11_feed_4 kX11_139 oX8_length (Nat.le_of_ble_eq_true rfl) (Nat.le_of_ble_eq_true rfl) rfl (by decide) rfl ?_
  refine tX8_length ?_
  refine J_bipush (v := 20) dX11_feed_7 (by decide) ?_
  refine J_iadd dX11_feed_9 ?_
  refine J_sipush (v := 1000) dX11_feed_10 (by decide) ?_
  refine J_icmp_le (tgt := 18) dX11_feed_13 (by decide) (fun c2 => ?_) (fun c2 => ?_)
  · -- to 18
    have hle0 : n + 20 ≤ 1000 := by
      rcases Nat.lt_or_ge 1000 (n + 20) with q | q
      · exact absurd (by rw [hn] at c2; exact (show nI (n + 20) ≤ nI 1000 from by rw [← nI_add]; exact c2)) (nI_ge q (by omega))
      · exact q
    refine J_aload_n dX11_feed_18 rfl ?_
    refine M_getR dX11_feed_19 fX11_26 rfl rfl (by decide) ?_
    refine J_iload_n dX11_feed_22 rfl ?_
    refine M_callV1 (mc := mX8_append) dX11_feed_23 kX11_143 oX8_append (Nat.le_of_ble_eq_true rfl) (Nat.le_of_ble_eq_true rfl) rfl (by decide) rfl ?_
    refine tX8_append (n := n + 0) (by first | exact hn | exact rd1) (by omega) ?_
    refine J_aload_n dX11_feed_26 rfl ?_
    refine M_getR dX11_feed_27 fX11_26 rfl rfl (by decide) ?_
    refine J_iload_n dX11_feed_30 rfl ?_
    refine M_callV1 (mc := mX8_append) dX11_feed_31 kX11_143 oX8_append (Nat.le_of_ble_eq_true rfl) (Nat.le_of_ble_eq_true rfl) rfl (by decide) rfl ?_
    refine tX8_append (n := n + 4) (by first | exact hn | exact rd1) (by omega) ?_
    refine J_aload_n dX11_feed_34 rfl ?_
    refine M_getR dX11_feed_35 fX11_26 rfl rfl (by decide) ?_
    refine J_iload_n dX11_feed_38 rfl ?_
    refine M_callV1 (mc := mX8_append) dX11_feed_39 kX11_143 oX8_append (Nat.le_of_ble_eq_true rfl) (Nat.le_of_ble_eq_true rfl) rfl (by decide) rfl ?_
    refine tX8_append (n := n + 8) (by first | exact hn | exact rd1) (by omega) ?_
    refine J_aload_n dX11_feed_42 rfl ?_
    refine M_getR dX11_feed_43 fX11_26 rfl rfl (by decide) ?_
    refine J_iload dX11_feed_46 rfl ?_
    refine M_callV1 (mc := mX8_append) dX11_feed_48 kX11_143 oX8_append (Nat.le_of_ble_eq_true rfl) (Nat.le_of_ble_eq_true rfl) rfl (by decide) rfl ?_
    refine tX8_append (n := n + 12) (by first | exact hn | exact rd1) (by omega) ?_
    refine J_aload_n dX11_feed_51 rfl ?_
    refine M_getR dX11_feed_52 fX11_26 rfl rfl (by decide) ?_
    refine J_iload dX11_feed_55 rfl ?_
    refine M_callV1 (mc := mX8_append) dX11_feed_57 kX11_143 oX8_append (Nat.le_of_ble_eq_true rfl) (Nat.le_of_ble_eq_true rfl) rfl (by decide) rfl ?_
    refine tX8_append (n := n + 16) (by first | exact hn | exact rd1) (by omega) ?_
    refine J_aload_n dX11_feed_60 rfl ?_
    refine M_getR dX11_feed_61 fX11_26 rfl rfl (by decide) ?_
    refine M_callV0 (mc := mX8_length) dX11_feed_64 kX11_139 oX8_length (Nat.le_of_ble_eq_true rfl) (Nat.le_of_ble_eq_true rfl) rfl (by decide) rfl ?_
    refine tX8_length ?_
    refine M_iret dX11_feed_67 rfl rfl ?_
    first
    | exact h0 (fun q => c2 (by rw [hn]; exact (show nI n + nI 20 ≤ nI 1000 from by rw [nI_add]; exact nI_le q (by decide))))
    | (have e : (wr (wa (wr (wa (wr (wa (wr (wa (wr (wa M 14 (ap4 (M.1 14) n x1)) 13 1 (nI (n + 4))) 14 (ap4 (ap4 (M.1 14) n x1) (n + 4) x2)) 13 1 (nI (n + 8))) 14 (ap4 (ap4 (ap4 (M.1 14) n x1) (n + 4) x2) (n + 8) x3)) 13 1 (nI (n + 12))) 14 (ap4 (ap4 (ap4 (ap4 (M.1 14) n x1) (n + 4) x2) (n + 8) x3) (n + 12) x4)) 13 1 (nI (n + 16))) 14 (ap20 (M.1 14) n x1 x2 x3 x4 x5)) 13 1 (nI (n + 20))) = wr (wa M 14 (ap20 (M.1 14) n x1 x2 x3 x4 x5)) 13 1 (nI (n + 20)) := by
          refine Mem_ext (fun a => ?_) rfl
          by_cases h1 : a = 14
          · subst h1
            simp [wr, wa]
          · by_cases h2 : a = 13
            · subst h2
              funext b
              by_cases hb : b = 1 <;> simp [wr, wa, upd, hb]
            · simp [wr, wa, h1, h2]
       have hle : n + 20 ≤ 1000 := by
          rcases Nat.lt_or_ge 1000 (n + 20) with q | q
          · exact absurd (by rw [hn] at c2; exact (show nI (n + 20) ≤ nI 1000 from by rw [← nI_add]; exact c2)) (nI_ge q (by omega))
          · exact q
       have h2 := h1 hle
       rw [← e] at h2
       simp only [rd1]
       simpa only [rd1, rd2, rda, rdb, ne_eq, Nat.reduceEqDiff, not_false_eq_true, Nat.add_assoc, Nat.reduceAdd, Nat.add_zero, ap20] using h2)
  · -- on 16
    refine J_iconst (v := -1) dX11_feed_16 (by decide) ?_
    refine M_iret dX11_feed_17 rfl rfl ?_
    first
    | exact h0 (fun q => c2 (by rw [hn]; exact (show nI n + nI 20 ≤ nI 1000 from by rw [nI_add]; exact nI_le q (by decide))))
    | (have e : (wr (wa (wr (wa (wr (wa (wr (wa (wr (wa M 14 (ap4 (M.1 14) n x1)) 13 1 (nI (n + 4))) 14 (ap4 (ap4 (M.1 14) n x1) (n + 4) x2)) 13 1 (nI (n + 8))) 14 (ap4 (ap4 (ap4 (M.1 14) n x1) (n + 4) x2) (n + 8) x3)) 13 1 (nI (n + 12))) 14 (ap4 (ap4 (ap4 (ap4 (M.1 14) n x1) (n + 4) x2) (n + 8) x3) (n + 12) x4)) 13 1 (nI (n + 16))) 14 (ap20 (M.1 14) n x1 x2 x3 x4 x5)) 13 1 (nI (n + 20))) = wr (wa M 14 (ap20 (M.1 14) n x1 x2 x3 x4 x5)) 13 1 (nI (n + 20)) := by
          refine Mem_ext (fun a => ?_) rfl
          by_cases h1 : a = 14
          · subst h1
            simp [wr, wa]
          · by_cases h2 : a = 13
            · subst h2
              funext b
              by_cases hb : b = 1 <;> simp [wr, wa, upd, hb]
            · simp [wr, wa, h1, h2]
       have hle : n + 20 ≤ 1000 := by
          rcases Nat.lt_or_ge 1000 (n + 20) with q | q
          · exact absurd (by rw [hn] at c2; exact (show nI (n + 20) ≤ nI 1000 from by rw [← nI_add]; exact c2)) (nI_ge q (by omega))
          · exact q
       have h2 := h1 hle
       rw [← e] at h2
       simp only [rd1]
       simpa only [rd1, rd2, rda, rdb, ne_eq, Nat.reduceEqDiff, not_false_eq_true, Nat.add_assoc, Nat.reduceAdd, Nat.add_zero, ap20] using h2)
def fltY (M : Mem) (x : Int32) : Int32 := if x = 0 then M.1 25 4 else if x = 1 then M.1 25 5 else -1
set_option maxRecDepth 100000 in
set_option maxHeartbeats 1000000 in
theorem tY_tries {d : Nat} {M : Mem} {Φ : Option Int32 → Mem → Prop}  (h : Φ (some (M.1 29 7)) M) : JM noRo (d + 1) mX11_tries 0 [some (.ref 0)] [] M Φ := by
  refine J_aload_n dX11_tries_0 rfl ?_
  refine M_getR dX11_tries_1 fX11_68 rfl rfl (by decide) ?_
  refine M_callV0 (mc := mX6_triesMade) dX11_tries_4 kX11_182 oX6_triesMade (Nat.le_of_ble_eq_true rfl) (Nat.le_of_ble_eq_true rfl) rfl (by decide) rfl ?_
  refine tX6_triesMade ?_
  refine M_iret dX11_tries_7 rfl rfl ?_
  exact h
set_option maxRecDepth 100000 in
set_option maxHeartbeats 1000000 in
theorem tY_takes {d : Nat} {M : Mem} {Φ : Option Int32 → Mem → Prop} {n : Nat} {x y z : Int32} (hn : M.1 1 6 = nI n) (hb : n ≤ 12) (h0 : ¬ (Ix x n ∧ Ix y 4 ∧ Ix z 51) → Φ (some 0) M) (h1 : ∀ j u v : Nat, j < n → u < 4 → v < 51 → x = nI j → y = nI u → z = nI v → Φ (some 1) (wr M 6 (j * 4 + u) z)) : JM noRo (d + 2) mX11_takes 0 [some (.ref 0), some (.int x), some (.int y), some (.int z)] [] M Φ := by
  refine J_aload_n dX11_takes_0 rfl ?_
  refine M_getR dX11_takes_1 fX11_12 rfl rfl (by decide) ?_
  refine J_iload_n dX11_takes_4 rfl ?_
  refine M_callV1 (mc := mX1_has) dX11_takes_5 kX11_116 oX1_has (Nat.le_of_ble_eq_true rfl) (Nat.le_of_ble_eq_true rfl) rfl (by decide) rfl ?_
  refine tX1_has hn hb (fun j hj ej => ?_) (fun q1 => ?_)
  · -- true
    subst ej
    refine J_if_eq (tgt := 27) dX11_takes_8 (by decide) (fun c2 => ?_) (fun c2 => ?_)
    · -- to 27
      exact absurd c2 (by decide)
    · -- on 11
      refine J_iload_n dX11_takes_11 rfl ?_
      refine M_callS1 (mc := mX11_isBin) dX11_takes_12 kX11_201 oX11_isBin (Nat.le_of_ble_eq_true rfl) (Nat.le_of_ble_eq_true rfl) ?_
      refine tX11_isBin (fun u hu eu => ?_) (fun q2 => ?_)
      · -- true
        subst eu
        refine J_if_eq (tgt := 27) dX11_takes_15 (by decide) (fun c4 => ?_) (fun c4 => ?_)
        · -- to 27
          exact absurd c4 (by decide)
        · -- on 18
          refine J_iload_n dX11_takes_18 rfl ?_
          refine J_bipush (v := 50) dX11_takes_19 (by decide) ?_
          refine M_callS2 (mc := mX11_isUpTo) dX11_takes_21 kX11_101 oX11_isUpTo (Nat.le_of_ble_eq_true rfl) (Nat.le_of_ble_eq_true rfl) ?_
          refine tX11_isUpTo 50 rfl (by decide) (fun v hv ev => ?_) (fun q3 => ?_)
          · -- true
            subst ev
            refine J_if_ne (tgt := 29) dX11_takes_24 (by decide) (fun c6 => ?_) (fun c6 => ?_)
            · -- to 29
              refine J_aload_n dX11_takes_29 rfl ?_
              refine M_getR dX11_takes_30 fX11_12 rfl rfl (by decide) ?_
              refine J_iload_n dX11_takes_33 rfl ?_
              refine J_iload_n dX11_takes_34 rfl ?_
              refine J_iload_n dX11_takes_35 rfl ?_
              refine M_callV3 (mc := mX1_setWanted) dX11_takes_36 kX11_207 oX1_setWanted (Nat.le_of_ble_eq_true rfl) (Nat.le_of_ble_eq_true rfl) rfl (by decide) rfl ?_
              refine tX1_setWanted (by omega) hu ?_
              refine J_iconst (v := 1) dX11_takes_39 (by decide) ?_
              refine M_zret dX11_takes_40 rfl (by first | assumption | exact Or.inl rfl | exact Or.inr rfl) ?_
              first
              | exact h0 (fun q => q1 q.1)
              | exact h0 (fun q => q2 q.2.1)
              | exact h0 (fun q => q3 q.2.2)
              | exact h1 j u v hj hu hv rfl rfl rfl
            · -- on 27
              exact absurd c6 (by decide)
          · -- false
            refine J_if_ne (tgt := 29) dX11_takes_24 (by decide) (fun c8 => ?_) (fun c8 => ?_)
            · -- to 29
              exact absurd c8 (by decide)
            · -- on 27
              refine J_iconst (v := 0) dX11_takes_27 (by decide) ?_
              refine M_zret dX11_takes_28 rfl (by first | assumption | exact Or.inl rfl | exact Or.inr rfl) ?_
              first
              | exact h0 (fun q => q1 q.1)
              | exact h0 (fun q => q2 q.2.1)
              | exact h0 (fun q => q3 q.2.2)
              | exact h1 j u v hj hu hv rfl rfl rfl
      · -- false
        refine J_if_eq (tgt := 27) dX11_takes_15 (by decide) (fun c9 => ?_) (fun c9 => ?_)
        · -- to 27
          refine J_iconst (v := 0) dX11_takes_27 (by decide) ?_
          refine M_zret dX11_takes_28 rfl (by first | assumption | exact Or.inl rfl | exact Or.inr rfl) ?_
          first
          | exact h0 (fun q => q1 q.1)
          | exact h0 (fun q => q2 q.2.1)
          | exact h0 (fun q => q3 q.2.2)
          | exact h1 j u v hj hu hv rfl rfl rfl
        · -- on 18
          exact absurd c9 (by decide)
  · -- false
    refine J_if_eq (tgt := 27) dX11_takes_8 (by decide) (fun c10 => ?_) (fun c10 => ?_)
    · -- to 27
      refine J_iconst (v := 0) dX11_takes_27 (by decide) ?_
      refine M_zret dX11_takes_28 rfl (by first | assumption | exact Or.inl rfl | exact Or.inr rfl) ?_
      first
      | exact h0 (fun q => q1 q.1)
      | exact h0 (fun q => q2 q.2.1)
      | exact h0 (fun q => q3 q.2.2)
      | exact h1 j u v hj hu hv rfl rfl rfl
    · -- on 11
      exact absurd c10 (by decide)
set_option maxRecDepth 100000 in
set_option maxHeartbeats 1000000 in
theorem tY_price {d : Nat} {M : Mem} {Φ : Option Int32 → Mem → Prop} {x y : Int32} (h0 : ¬ (Ix x 8 ∧ Ix y 1001) → Φ (some 0) M) (h1 : ∀ u v : Nat, u < 8 → v < 1001 → x = nI u → y = nI v → Φ (some 1) (wr M 50 u y)) : JM noRo (d + 1) mX11_price 0 [some (.ref 0), some (.int x), some (.int y)] [] M Φ := by
  refine J_iload_n dX11_price_0 rfl ?_
  refine J_bipush (v := 7) dX11_price_1 (by decide) ?_
  refine M_callS2 (mc := mX11_isUpTo) dX11_price_3 kX11_101 oX11_isUpTo (Nat.le_of_ble_eq_true rfl) (Nat.le_of_ble_eq_true rfl) ?_
  refine tX11_isUpTo 7 rfl (by decide) (fun u hu eu => ?_) (fun q1 => ?_)
  · -- true
    subst eu
    refine J_if_eq (tgt := 19) dX11_price_6 (by decide) (fun c2 => ?_) (fun c2 => ?_)
    · -- to 19
      exact absurd c2 (by decide)
    · -- on 9
      refine J_iload_n dX11_price_9 rfl ?_
      refine J_sipush (v := 1000) dX11_price_10 (by decide) ?_
      refine M_callS2 (mc := mX11_isUpTo) dX11_price_13 kX11_101 oX11_isUpTo (Nat.le_of_ble_eq_true rfl) (Nat.le_of_ble_eq_true rfl) ?_
      refine tX11_isUpTo 1000 rfl (by decide) (fun v hv ev => ?_) (fun q2 => ?_)
      · -- true
        subst ev
        refine J_if_ne (tgt := 21) dX11_price_16 (by decide) (fun c4 => ?_) (fun c4 => ?_)
        · -- to 21
          refine J_aload_n dX11_price_21 rfl ?_
          refine M_getR dX11_price_22 fX11_79 rfl rfl (by decide) ?_
          refine J_iload_n dX11_price_25 rfl ?_
          refine J_iload_n dX11_price_26 rfl ?_
          refine M_iastE dX11_price_27 rfl (by decide) (by first | rfl | assumption) (by omega) ?_
          refine J_iconst (v := 1) dX11_price_28 (by decide) ?_
          refine M_zret dX11_price_29 rfl (by first | assumption | exact Or.inl rfl | exact Or.inr rfl) ?_
          first
          | exact h0 (fun q => q1 q.1)
          | exact h0 (fun q => q2 q.2)
          | exact h1 u v hu hv rfl rfl
        · -- on 19
          exact absurd c4 (by decide)
      · -- false
        refine J_if_ne (tgt := 21) dX11_price_16 (by decide) (fun c5 => ?_) (fun c5 => ?_)
        · -- to 21
          exact absurd c5 (by decide)
        · -- on 19
          refine J_iconst (v := 0) dX11_price_19 (by decide) ?_
          refine M_zret dX11_price_20 rfl (by first | assumption | exact Or.inl rfl | exact Or.inr rfl) ?_
          first
          | exact h0 (fun q => q1 q.1)
          | exact h0 (fun q => q2 q.2)
          | exact h1 u v hu hv rfl rfl
  · -- false
    refine J_if_eq (tgt := 19) dX11_price_6 (by decide) (fun c6 => ?_) (fun c6 => ?_)
    · -- to 19
      refine J_iconst (v := 0) dX11_price_19 (by decide) ?_
      refine M_zret dX11_price_20 rfl (by first | assumption | exact Or.inl rfl | exact Or.inr rfl) ?_
      first
      | exact h0 (fun q => q1 q.1)
      | exact h0 (fun q => q2 q.2)
      | exact h1 u v hu hv rfl rfl
    · -- on 9
      exact absurd c6 (by decide)
set_option maxRecDepth 100000 in
set_option maxHeartbeats 1000000 in
theorem tY_falls {d : Nat} {M : Mem} {Φ : Option Int32 → Mem → Prop} {x y : Int32} (h0 : ¬ (Ix x 3 ∧ Ix y 401) → Φ (some 0) M) (h1 : ∀ u v : Nat, u < 3 → v < 401 → x = nI u → y = nI v → Φ (some 1) (wr M 61 u y)) : JM noRo (d + 2) mX11_falls 0 [some (.ref 0), some (.int x), some (.int y)] [] M Φ := by
  refine J_iload_n dX11_falls_0 rfl ?_
  refine M_callS1 (mc := mX11_isSort) dX11_falls_1 kX11_210 oX11_isSort (Nat.le_of_ble_eq_true rfl) (Nat.le_of_ble_eq_true rfl) ?_
  refine tX11_isSort (fun u hu eu => ?_) (fun q1 => ?_)
  · -- true
    subst eu
    refine J_if_eq (tgt := 17) dX11_falls_4 (by decide) (fun c2 => ?_) (fun c2 => ?_)
    · -- to 17
      exact absurd c2 (by decide)
    · -- on 7
      refine J_iload_n dX11_falls_7 rfl ?_
      refine J_sipush (v := 400) dX11_falls_8 (by decide) ?_
      refine M_callS2 (mc := mX11_isUpTo) dX11_falls_11 kX11_101 oX11_isUpTo (Nat.le_of_ble_eq_true rfl) (Nat.le_of_ble_eq_true rfl) ?_
      refine tX11_isUpTo 400 rfl (by decide) (fun v hv ev => ?_) (fun q2 => ?_)
      · -- true
        subst ev
        refine J_if_ne (tgt := 19) dX11_falls_14 (by decide) (fun c4 => ?_) (fun c4 => ?_)
        · -- to 19
          refine J_aload_n dX11_falls_19 rfl ?_
          refine M_getR dX11_falls_20 fX11_93 rfl rfl (by decide) ?_
          refine J_iload_n dX11_falls_23 rfl ?_
          refine J_iload_n dX11_falls_24 rfl ?_
          refine M_callV2 (mc := mX10_setFall) dX11_falls_25 kX11_213 oX10_setFall (Nat.le_of_ble_eq_true rfl) (Nat.le_of_ble_eq_true rfl) rfl (by decide) rfl ?_
          refine tX10_setFall hu ?_
          refine J_iconst (v := 1) dX11_falls_28 (by decide) ?_
          refine M_zret dX11_falls_29 rfl (by first | assumption | exact Or.inl rfl | exact Or.inr rfl) ?_
          first
          | exact h0 (fun q => q1 q.1)
          | exact h0 (fun q => q2 q.2)
          | exact h1 u v hu hv rfl rfl
        · -- on 17
          exact absurd c4 (by decide)
      · -- false
        refine J_if_ne (tgt := 19) dX11_falls_14 (by decide) (fun c6 => ?_) (fun c6 => ?_)
        · -- to 19
          exact absurd c6 (by decide)
        · -- on 17
          refine J_iconst (v := 0) dX11_falls_17 (by decide) ?_
          refine M_zret dX11_falls_18 rfl (by first | assumption | exact Or.inl rfl | exact Or.inr rfl) ?_
          first
          | exact h0 (fun q => q1 q.1)
          | exact h0 (fun q => q2 q.2)
          | exact h1 u v hu hv rfl rfl
  · -- false
    refine J_if_eq (tgt := 17) dX11_falls_4 (by decide) (fun c7 => ?_) (fun c7 => ?_)
    · -- to 17
      refine J_iconst (v := 0) dX11_falls_17 (by decide) ?_
      refine M_zret dX11_falls_18 rfl (by first | assumption | exact Or.inl rfl | exact Or.inr rfl) ?_
      first
      | exact h0 (fun q => q1 q.1)
      | exact h0 (fun q => q2 q.2)
      | exact h1 u v hu hv rfl rfl
    · -- on 7
      exact absurd c7 (by decide)
set_option maxRecDepth 100000 in
set_option maxHeartbeats 1000000 in
theorem tY_lacked {d : Nat} {M : Mem} {Φ : Option Int32 → Mem → Prop} {n : Nat} {x : Int32} (hn : M.1 1 6 = nI n) (hb : n ≤ 12) (h0 : ¬ Ix x n → Φ (some (-1)) M) (h1 : ∀ j : Nat, j < n → x = nI j → Φ (some (M.1 7 j)) M) : JM noRo (d + 1) mX11_lacked 0 [some (.ref 0), some (.int x)] [] M Φ := by
  refine J_aload_n dX11_lacked_0 rfl ?_
  refine M_getR dX11_lacked_1 fX11_12 rfl rfl (by decide) ?_
  refine J_iload_n dX11_lacked_4 rfl ?_
  refine M_callV1 (mc := mX1_has) dX11_lacked_5 kX11_116 oX1_has (Nat.le_of_ble_eq_true rfl) (Nat.le_of_ble_eq_true rfl) rfl (by decide) rfl ?_
  refine tX1_has hn hb (fun j hj ej => ?_) (fun q1 => ?_)
  · -- true
    subst ej
    refine J_if_eq (tgt := 22) dX11_lacked_8 (by decide) (fun c2 => ?_) (fun c2 => ?_)
    · -- to 22
      exact absurd c2 (by decide)
    · -- on 11
      refine J_aload_n dX11_lacked_11 rfl ?_
      refine M_getR dX11_lacked_12 fX11_12 rfl rfl (by decide) ?_
      refine J_iload_n dX11_lacked_15 rfl ?_
      refine M_callV1 (mc := mX1_lackedOf) dX11_lacked_16 kX11_255 oX1_lackedOf (Nat.le_of_ble_eq_true rfl) (Nat.le_of_ble_eq_true rfl) rfl (by decide) rfl ?_
      refine tX1_lackedOf (by omega) ?_
      refine J_goto (tgt := 23) dX11_lacked_19 (by decide) ?_
      refine M_iret dX11_lacked_23 rfl rfl ?_
      first
      | exact h0 q1
      | exact h1 j hj rfl
  · -- false
    refine J_if_eq (tgt := 22) dX11_lacked_8 (by decide) (fun c4 => ?_) (fun c4 => ?_)
    · -- to 22
      refine J_iconst (v := -1) dX11_lacked_22 (by decide) ?_
      refine M_iret dX11_lacked_23 rfl rfl ?_
      first
      | exact h0 q1
      | exact h1 j hj rfl
    · -- on 11
      exact absurd c4 (by decide)
set_option maxRecDepth 100000 in
set_option maxHeartbeats 1000000 in
theorem tY_due {d : Nat} {M : Mem} {Φ : Option Int32 → Mem → Prop} {n : Nat} {x y : Int32} (hn : M.1 1 6 = nI n) (hb : n ≤ 12) (h0 : ¬ (Ix x n ∧ Ix y 3) → Φ (some (-1)) M) (h1 : ∀ j u : Nat, j < n → u < 3 → x = nI j → y = nI u → Φ (some (if M.1 61 u = 0 then -1 else M.1 60 (j * 3 + u) + M.1 61 u)) M) : JM noRo (d + 2) mX11_due 0 [some (.ref 0), some (.int x), some (.int y)] [] M Φ := by
  refine J_aload_n dX11_due_0 rfl ?_
  refine M_getR dX11_due_1 fX11_12 rfl rfl (by decide) ?_
  refine J_iload_n dX11_due_4 rfl ?_
  refine M_callV1 (mc := mX1_has) dX11_due_5 kX11_116 oX1_has (Nat.le_of_ble_eq_true rfl) (Nat.le_of_ble_eq_true rfl) rfl (by decide) rfl ?_
  refine tX1_has hn hb (fun j hj ej => ?_) (fun q1 => ?_)
  · -- true
    subst ej
    refine J_if_eq (tgt := 18) dX11_due_8 (by decide) (fun c2 => ?_) (fun c2 => ?_)
    · -- to 18
      exact absurd c2 (by decide)
    · -- on 11
      refine J_iload_n dX11_due_11 rfl ?_
      refine M_callS1 (mc := mX11_isSort) dX11_due_12 kX11_210 oX11_isSort (Nat.le_of_ble_eq_true rfl) (Nat.le_of_ble_eq_true rfl) ?_
      refine tX11_isSort (fun u hu eu => ?_) (fun q2 => ?_)
      · -- true
        subst eu
        refine J_if_ne (tgt := 20) dX11_due_15 (by decide) (fun c4 => ?_) (fun c4 => ?_)
        · -- to 20
          refine J_aload_n dX11_due_20 rfl ?_
          refine M_getR dX11_due_21 fX11_93 rfl rfl (by decide) ?_
          refine J_iload_n dX11_due_24 rfl ?_
          refine J_iload_n dX11_due_25 rfl ?_
          refine M_callV2 (mc := mX10_dueDay) dX11_due_26 kX11_247 oX10_dueDay (Nat.le_of_ble_eq_true rfl) (Nat.le_of_ble_eq_true rfl) rfl (by decide) rfl ?_
          refine tX10_dueDay (by omega) hu ?_
          refine M_iret dX11_due_29 rfl rfl ?_
          first
          | exact h0 (fun q => q1 q.1)
          | exact h0 (fun q => q2 q.2)
          | exact h1 j u hj hu rfl rfl
        · -- on 18
          exact absurd c4 (by decide)
      · -- false
        refine J_if_ne (tgt := 20) dX11_due_15 (by decide) (fun c6 => ?_) (fun c6 => ?_)
        · -- to 20
          exact absurd c6 (by decide)
        · -- on 18
          refine J_iconst (v := -1) dX11_due_18 (by decide) ?_
          refine M_iret dX11_due_19 rfl rfl ?_
          first
          | exact h0 (fun q => q1 q.1)
          | exact h0 (fun q => q2 q.2)
          | exact h1 j u hj hu rfl rfl
  · -- false
    refine J_if_eq (tgt := 18) dX11_due_8 (by decide) (fun c7 => ?_) (fun c7 => ?_)
    · -- to 18
      refine J_iconst (v := -1) dX11_due_18 (by decide) ?_
      refine M_iret dX11_due_19 rfl rfl ?_
      first
      | exact h0 (fun q => q1 q.1)
      | exact h0 (fun q => q2 q.2)
      | exact h1 j u hj hu rfl rfl
    · -- on 11
      exact absurd c7 (by decide)
def abtY (M : Mem) (x : Int32) : Int32 := if x = 0 then M.1 0 12 else if x = 1 then M.1 1 6 else if x = 2 then M.1 20 5 else if x = 3 then M.1 55 6 else if x = 4 then (if M.1 29 8 = 0 then 0 else 1) else if x = 5 then M.1 13 1 else if x = 6 then M.1 51 3 else -1
set_option maxRecDepth 100000 in
set_option maxHeartbeats 1000000 in
theorem tY_about {d : Nat} {M : Mem} {Φ : Option Int32 → Mem → Prop} {x : Int32} (h01 : M.1 29 8 = 0 ∨ M.1 29 8 = 1) (h : Φ (some (abtY M x)) M) : JM noRo (d + 1) mX11_about 0 [some (.ref 0), some (.int x)] [] M Φ := by
  refine J_iload_n dX11_about_0 rfl ?_
  by_cases s0 : x = 0
  · subst s0
    refine J_tabIn (off := 43) (tgt := 44) dX11_about_1 (by decide) (by decide) rfl (by decide) ?_
    refine J_aload_n dX11_about_44 rfl ?_
    refine M_getI dX11_about_45 fX11_97 rfl rfl (by decide) ?_
    refine M_iret dX11_about_48 rfl rfl ?_
    first
    | exact h
    | (simp [abtY, ] at h; exact h)
    | (simp only [abtY, if_neg s0, if_neg s1, if_neg s2, if_neg s3, if_neg s4, if_neg s5, if_neg s6] at h; exact h)
  by_cases s1 : x = 1
  · subst s1
    refine J_tabIn (off := 48) (tgt := 49) dX11_about_1 (by decide) (by decide) rfl (by decide) ?_
    refine J_aload_n dX11_about_49 rfl ?_
    refine M_getR dX11_about_50 fX11_12 rfl rfl (by decide) ?_
    refine M_callV0 (mc := mX1_count) dX11_about_53 kX11_194 oX1_count (Nat.le_of_ble_eq_true rfl) (Nat.le_of_ble_eq_true rfl) rfl (by decide) rfl ?_
    refine tX1_count ?_
    refine M_iret dX11_about_56 rfl rfl ?_
    first
    | exact h
    | (simp [abtY, ] at h; exact h)
    | (simp only [abtY, if_neg s0, if_neg s1, if_neg s2, if_neg s3, if_neg s4, if_neg s5, if_neg s6] at h; exact h)
  by_cases s2 : x = 2
  · subst s2
    refine J_tabIn (off := 56) (tgt := 57) dX11_about_1 (by decide) (by decide) rfl (by decide) ?_
    refine J_aload_n dX11_about_57 rfl ?_
    refine M_getR dX11_about_58 fX11_37 rfl rfl (by decide) ?_
    refine M_callV0 (mc := mX7_count) dX11_about_61 kX11_158 oX7_count (Nat.le_of_ble_eq_true rfl) (Nat.le_of_ble_eq_true rfl) rfl (by decide) rfl ?_
    refine tX7_count ?_
    refine M_iret dX11_about_64 rfl rfl ?_
    first
    | exact h
    | (simp [abtY, ] at h; exact h)
    | (simp only [abtY, if_neg s0, if_neg s1, if_neg s2, if_neg s3, if_neg s4, if_neg s5, if_neg s6] at h; exact h)
  by_cases s3 : x = 3
  · subst s3
    refine J_tabIn (off := 64) (tgt := 65) dX11_about_1 (by decide) (by decide) rfl (by decide) ?_
    refine J_aload_n dX11_about_65 rfl ?_
    refine M_getR dX11_about_66 fX11_93 rfl rfl (by decide) ?_
    refine M_callV0 (mc := mX10_count) dX11_about_69 kX11_258 oX10_count (Nat.le_of_ble_eq_true rfl) (Nat.le_of_ble_eq_true rfl) rfl (by decide) rfl ?_
    refine tX10_count ?_
    refine M_iret dX11_about_72 rfl rfl ?_
    first
    | exact h
    | (simp [abtY, ] at h; exact h)
    | (simp only [abtY, if_neg s0, if_neg s1, if_neg s2, if_neg s3, if_neg s4, if_neg s5, if_neg s6] at h; exact h)
  by_cases s4 : x = 4
  · subst s4
    refine J_tabIn (off := 72) (tgt := 73) dX11_about_1 (by decide) (by decide) rfl (by decide) ?_
    refine J_aload_n dX11_about_73 rfl ?_
    refine M_getR dX11_about_74 fX11_68 rfl rfl (by decide) ?_
    refine M_callV0 (mc := mX6_hasPlan) dX11_about_77 kX11_259 oX6_hasPlan (Nat.le_of_ble_eq_true rfl) (Nat.le_of_ble_eq_true rfl) rfl (by decide) rfl ?_
    refine tX6_hasPlan h01 ?_
    refine J_if_eq (tgt := 87) dX11_about_80 (by decide) (fun c5 => ?_) (fun c5 => ?_)
    · -- to 87
      refine J_iconst (v := 0) dX11_about_87 (by decide) ?_
      refine M_iret dX11_about_88 rfl rfl ?_
      first
      | exact h
      | (simp [abtY, c5] at h; exact h)
      | (simp only [abtY, if_neg s0, if_neg s1, if_neg s2, if_neg s3, if_neg s4, if_neg s5, if_neg s6] at h; exact h)
    · -- on 83
      refine J_iconst (v := 1) dX11_about_83 (by decide) ?_
      refine J_goto (tgt := 88) dX11_about_84 (by decide) ?_
      refine M_iret dX11_about_88 rfl rfl ?_
      first
      | exact h
      | (simp [abtY, c5] at h; exact h)
      | (simp only [abtY, if_neg s0, if_neg s1, if_neg s2, if_neg s3, if_neg s4, if_neg s5, if_neg s6] at h; exact h)
  by_cases s5 : x = 5
  · subst s5
    refine J_tabIn (off := 88) (tgt := 89) dX11_about_1 (by decide) (by decide) rfl (by decide) ?_
    refine J_aload_n dX11_about_89 rfl ?_
    refine M_getR dX11_about_90 fX11_26 rfl rfl (by decide) ?_
    refine M_callV0 (mc := mX8_length) dX11_about_93 kX11_139 oX8_length (Nat.le_of_ble_eq_true rfl) (Nat.le_of_ble_eq_true rfl) rfl (by decide) rfl ?_
    refine tX8_length ?_
    refine M_iret dX11_about_96 rfl rfl ?_
    first
    | exact h
    | (simp [abtY, ] at h; exact h)
    | (simp only [abtY, if_neg s0, if_neg s1, if_neg s2, if_neg s3, if_neg s4, if_neg s5, if_neg s6] at h; exact h)
  by_cases s6 : x = 6
  · subst s6
    refine J_tabIn (off := 96) (tgt := 97) dX11_about_1 (by decide) (by decide) rfl (by decide) ?_
    refine J_aload_n dX11_about_97 rfl ?_
    refine M_getR dX11_about_98 fX11_86 rfl rfl (by decide) ?_
    refine M_callV0 (mc := mX4_count) dX11_about_101 kX11_262 oX4_count (Nat.le_of_ble_eq_true rfl) (Nat.le_of_ble_eq_true rfl) rfl (by decide) rfl ?_
    refine tX4_count ?_
    refine M_iret dX11_about_104 rfl rfl ?_
    first
    | exact h
    | (simp [abtY, ] at h; exact h)
    | (simp only [abtY, if_neg s0, if_neg s1, if_neg s2, if_neg s3, if_neg s4, if_neg s5, if_neg s6] at h; exact h)
  refine J_tabOut (tgt := 105) dX11_about_1 (sw_out6 s0 s1 s2 s3 s4 s5 s6) (by decide) ?_
  refine J_iconst (v := -1) dX11_about_105 (by decide) ?_
  refine M_iret dX11_about_106 rfl rfl ?_
  first
  | exact h
  | (simp [abtY, ] at h; exact h)
  | (simp only [abtY, if_neg s0, if_neg s1, if_neg s2, if_neg s3, if_neg s4, if_neg s5, if_neg s6] at h; exact h)
set_option maxRecDepth 100000 in
set_option maxHeartbeats 1000000 in
theorem tY_work {d : Nat} {M : Mem} {Φ : Option Int32 → Mem → Prop} {n w : Nat} {x y z : Int32} (hn : M.1 1 6 = nI n) (hb : n ≤ 12) (hw : M.1 55 6 = nI w) (hwb : w ≤ 200) (h0 : ¬ (w < 200 ∧ Ix y 3 ∧ ∃ j, j < n ∧ x = nI j ∧ z ≤ M.1 0 12 ∧ M.1 4 j ≤ z) → Φ (some (-1)) M) (h1 : ∀ j s : Nat, j < n → s < 3 → x = nI j → y = nI s → z ≤ M.1 0 12 → M.1 4 j ≤ z → w < 200 → Φ (some (nI (w + 1))) (wr (wr (wr (wr (wr (wr M 56 w (nI j)) 57 w z) 58 w (M.1 0 12)) 59 w (M.1 50 (5 + s))) 55 6 (nI (w + 1))) 60 (j * 3 + s) (if M.1 60 (j * 3 + s) < z then z else M.1 60 (j * 3 + s)))) : JM noRo (d + 2) mX11_work 0 [some (.ref 0), some (.int x), some (.int y), some (.int z)] [] M Φ := by
  refine J_aload_n dX11_work_0 rfl ?_
  refine M_getR dX11_work_1 fX11_12 rfl rfl (by decide) ?_
  refine J_iload_n dX11_work_4 rfl ?_
  refine M_callV1 (mc := mX1_has) dX11_work_5 kX11_116 oX1_has (Nat.le_of_ble_eq_true rfl) (Nat.le_of_ble_eq_true rfl) rfl (by decide) rfl ?_
  refine tX1_has hn hb (fun j hj ej => ?_) (fun q1 => ?_)
  · -- true
    subst ej
    refine J_if_eq (tgt := 38) dX11_work_8 (by decide) (fun c2 => ?_) (fun c2 => ?_)
    · -- to 38
      exact absurd c2 (by decide)
    · -- on 11
      refine J_iload_n dX11_work_11 rfl ?_
      refine M_callS1 (mc := mX11_isSort) dX11_work_12 kX11_210 oX11_isSort (Nat.le_of_ble_eq_true rfl) (Nat.le_of_ble_eq_true rfl) ?_
      refine tX11_isSort (fun s hs es => ?_) (fun q2 => ?_)
      · -- true
        subst es
        refine J_if_eq (tgt := 38) dX11_work_15 (by decide) (fun c4 => ?_) (fun c4 => ?_)
        · -- to 38
          exact absurd c4 (by decide)
        · -- on 18
          refine J_iload_n dX11_work_18 rfl ?_
          refine J_aload_n dX11_work_19 rfl ?_
          refine M_getI dX11_work_20 fX11_97 rfl rfl (by decide) ?_
          refine J_icmp_gt (tgt := 38) dX11_work_23 (by decide) (fun c5 => ?_) (fun c5 => ?_)
          · -- to 38
            refine J_iconst (v := -1) dX11_work_38 (by decide) ?_
            refine M_iret dX11_work_39 rfl rfl ?_
            first
            | exact h0 (fun q => q1 (by obtain ⟨j, hj, e, -⟩ := q.2.2; exact ⟨j, hj, e⟩))
            | exact h0 (fun q => q2 q.2.1)
            | exact h0 (fun q => by obtain ⟨j2, hj2, e2, e3, -⟩ := q.2.2; exact absurd e3 (Int32.not_le.mpr c5))
            | exact h0 (fun q => by obtain ⟨j2, hj2, e2, e3, e4⟩ := q.2.2; rw [← (nI_eq (by omega) (by omega)).mp e2] at e4; exact c5 e4)
          · -- on 26
            have cB := c5
            refine J_iload_n dX11_work_26 rfl ?_
            refine J_aload_n dX11_work_27 rfl ?_
            refine M_getR dX11_work_28 fX11_12 rfl rfl (by decide) ?_
            refine J_iload_n dX11_work_31 rfl ?_
            refine M_callV1 (mc := mX1_cameOf) dX11_work_32 kX11_241 oX1_cameOf (Nat.le_of_ble_eq_true rfl) (Nat.le_of_ble_eq_true rfl) rfl (by decide) rfl ?_
            refine tX1_cameOf (by omega) ?_
            refine J_icmp_ge (tgt := 40) dX11_work_35 (by decide) (fun c7 => ?_) (fun c7 => ?_)
            · -- to 40
              have cA := c7
              refine J_aload_n dX11_work_40 rfl ?_
              refine M_getR dX11_work_41 fX11_93 rfl rfl (by decide) ?_
              refine J_iload_n dX11_work_44 rfl ?_
              refine J_iload_n dX11_work_45 rfl ?_
              refine J_iload_n dX11_work_46 rfl ?_
              refine J_aload_n dX11_work_47 rfl ?_
              refine M_getI dX11_work_48 fX11_97 rfl rfl (by decide) ?_
              refine J_aload_n dX11_work_51 rfl ?_
              refine M_getR dX11_work_52 fX11_79 rfl rfl (by decide) ?_
              refine J_iconst (v := 5) dX11_work_55 (by decide) ?_
              refine J_iload_n dX11_work_56 rfl ?_
              refine J_iadd dX11_work_57 ?_
              refine M_ialdE dX11_work_58 rfl (by decide) (show (5 : Int32) + nI s = nI (5 + s) from nI_add 5 s) (by omega) ?_
              refine M_callV5 (mc := mX10_add) dX11_work_59 kX11_244 oX10_add (Nat.le_of_ble_eq_true rfl) (Nat.le_of_ble_eq_true rfl) rfl (by decide) rfl ?_
              refine tX10_add hw hwb (by omega) hs (fun hq => ?_) (fun hq => ?_)
              · exact (show JM _ _ _ _ _ _ _ _ from M_iret dX11_work_62 rfl rfl (h0 (fun q => absurd q.1 (by omega))))
              · exact (show JM _ _ _ _ _ _ _ _ from M_iret dX11_work_62 rfl rfl (h1 j s hj hs rfl rfl (Int32.not_lt.mp cB) cA hq))
            · -- on 38
              refine J_iconst (v := -1) dX11_work_38 (by decide) ?_
              refine M_iret dX11_work_39 rfl rfl ?_
              first
              | exact h0 (fun q => q1 (by obtain ⟨j, hj, e, -⟩ := q.2.2; exact ⟨j, hj, e⟩))
              | exact h0 (fun q => q2 q.2.1)
              | exact h0 (fun q => by obtain ⟨j2, hj2, e2, e3, -⟩ := q.2.2; exact absurd e3 (Int32.not_le.mpr c7))
              | exact h0 (fun q => by obtain ⟨j2, hj2, e2, e3, e4⟩ := q.2.2; rw [← (nI_eq (by omega) (by omega)).mp e2] at e4; exact c7 e4)
      · -- false
        refine J_if_eq (tgt := 38) dX11_work_15 (by decide) (fun c9 => ?_) (fun c9 => ?_)
        · -- to 38
          refine J_iconst (v := -1) dX11_work_38 (by decide) ?_
          refine M_iret dX11_work_39 rfl rfl ?_
          first
          | exact h0 (fun q => q1 (by obtain ⟨j, hj, e, -⟩ := q.2.2; exact ⟨j, hj, e⟩))
          | exact h0 (fun q => q2 q.2.1)
          | exact h0 (fun q => by obtain ⟨j2, hj2, e2, e3, -⟩ := q.2.2; exact absurd e3 (Int32.not_le.mpr c9))
          | exact h0 (fun q => by obtain ⟨j2, hj2, e2, e3, e4⟩ := q.2.2; rw [← (nI_eq (by omega) (by omega)).mp e2] at e4; exact c9 e4)
        · -- on 18
          exact absurd c9 (by decide)
  · -- false
    refine J_if_eq (tgt := 38) dX11_work_8 (by decide) (fun c10 => ?_) (fun c10 => ?_)
    · -- to 38
      refine J_iconst (v := -1) dX11_work_38 (by decide) ?_
      refine M_iret dX11_work_39 rfl rfl ?_
      first
      | exact h0 (fun q => q1 (by obtain ⟨j, hj, e, -⟩ := q.2.2; exact ⟨j, hj, e⟩))
      | exact h0 (fun q => q2 q.2.1)
      | exact h0 (fun q => by obtain ⟨j2, hj2, e2, e3, -⟩ := q.2.2; exact absurd e3 (Int32.not_le.mpr c10))
      | exact h0 (fun q => by obtain ⟨j2, hj2, e2, e3, e4⟩ := q.2.2; rw [← (nI_eq (by omega) (by omega)).mp e2] at e4; exact c10 e4)
    · -- on 11
      exact absurd c10 (by decide)
set_option maxRecDepth 100000 in
set_option maxHeartbeats 1000000 in
theorem tY_out {d : Nat} {M : Mem} {Φ : Option Int32 → Mem → Prop} {n : Nat} {x : Int32} (hn : M.1 1 6 = nI n) (hb : n ≤ 12) (hs : M.1 29 8 ≠ 0 → ∀ j, j < 12 → M.1 30 j = -1 ∨ ∃ s, s < 24 ∧ M.1 30 j = nI s) (h0 : (∀ j s : Nat, s < 24 → j < n → x = nI j → M.1 29 8 ≠ 0 → M.1 30 j ≠ nI s) → Φ (some (-1)) M) (h1 : ∀ j s : Nat, j < n → s < 24 → x = nI j → M.1 29 8 ≠ 0 → M.1 30 j = nI s → Φ (some (nI (10 * (s / 6) + s % 6))) M) : JM noRo (d + 1) mX11_out 0 [some (.ref 0), some (.int x)] [] M Φ := by
  refine J_aload_n dX11_out_0 rfl ?_
  refine M_getR dX11_out_1 fX11_12 rfl rfl (by decide) ?_
  refine J_iload_n dX11_out_4 rfl ?_
  refine M_callV1 (mc := mX1_has) dX11_out_5 kX11_116 oX1_has (Nat.le_of_ble_eq_true rfl) (Nat.le_of_ble_eq_true rfl) rfl (by decide) rfl ?_
  refine tX1_has hn hb (fun j hj ej => ?_) (fun q1 => ?_)
  · -- true
    subst ej
    refine J_if_eq (tgt := 22) dX11_out_8 (by decide) (fun c2 => ?_) (fun c2 => ?_)
    · -- to 22
      exact absurd c2 (by decide)
    · -- on 11
      refine J_aload_n dX11_out_11 rfl ?_
      refine M_getR dX11_out_12 fX11_68 rfl rfl (by decide) ?_
      refine J_iload_n dX11_out_15 rfl ?_
      refine M_callV1 (mc := mX6_spotOf) dX11_out_16 kX11_185 oX6_spotOf (Nat.le_of_ble_eq_true rfl) (Nat.le_of_ble_eq_true rfl) rfl (by decide) rfl ?_
      refine tX6_spotOf (by omega) ?_
      refine J_goto (tgt := 23) dX11_out_19 (by decide) ?_
      refine J_istore_n dX11_out_23 (by decide) rfl ?_
      dsimp only [setL]
      refine J_iload_n dX11_out_24 rfl ?_
      refine J_iconst (v := -1) dX11_out_25 (by decide) ?_
      refine J_icmp_ne (tgt := 33) dX11_out_26 (by decide) (fun c4 => ?_) (fun c4 => ?_)
      · -- to 33
        obtain ⟨s, hs24, hp, hsp⟩ : ∃ s, s < 24 ∧ M.1 29 8 ≠ 0 ∧ M.1 30 j = nI s := by
          by_cases hp : M.1 29 8 = 0
          · rw [if_pos hp] at c4; exact absurd rfl c4
          · rw [if_neg hp] at c4
            rcases hs hp j (by omega) with e | ⟨s, h24, e⟩
            · exact absurd e c4
            · exact ⟨s, h24, hp, e⟩
        rw [if_neg hp, hsp]
        refine J_bipush (v := 10) dX11_out_33 (by decide) ?_
        refine J_iload_n dX11_out_35 rfl ?_
        refine M_callS1 (mc := mX11_hourOf) dX11_out_36 kX11_188 oX11_hourOf (Nat.le_of_ble_eq_true rfl) (Nat.le_of_ble_eq_true rfl) ?_
        refine tX11_hourOf (by omega) ?_
        refine J_imul dX11_out_39 ?_
        refine J_iload_n dX11_out_40 rfl ?_
        refine M_callS1 (mc := mX11_fieldOf) dX11_out_41 kX11_191 oX11_fieldOf (Nat.le_of_ble_eq_true rfl) (Nat.le_of_ble_eq_true rfl) ?_
        refine tX11_fieldOf (by omega) ?_
        refine J_iadd dX11_out_44 ?_
        refine M_iret dX11_out_45 rfl rfl ?_
        first
        | exact h0 (fun j s _ hj e => absurd ⟨j, hj, e⟩ q1)
        | exact h0 (fun j2 s hs2 hj2 e2 e3 e4 => by rw [(nI_eq (by omega) (by omega)).mp e2] at hX; rw [if_neg e3, e4] at hX; exact nI_pos (n := s) (by omega) (by rw [hX]; decide))
        | (rw [show (10 : Int32) = nI 10 from rfl, pk_mul, nI_add]; exact h1 j s hj hs24 rfl hp hsp)
      · -- on 29
        have hX := c4
        refine J_iconst (v := -1) dX11_out_29 (by decide) ?_
        refine J_goto (tgt := 45) dX11_out_30 (by decide) ?_
        refine M_iret dX11_out_45 rfl rfl ?_
        first
        | exact h0 (fun j s _ hj e => absurd ⟨j, hj, e⟩ q1)
        | exact h0 (fun j2 s hs2 hj2 e2 e3 e4 => by rw [(nI_eq (by omega) (by omega)).mp e2] at hX; rw [if_neg e3, e4] at hX; exact nI_pos (n := s) (by omega) (by rw [hX]; decide))
        | (rw [show (10 : Int32) = nI 10 from rfl, pk_mul, nI_add]; exact h1 j s hj hs24 rfl hp hsp)
  · -- false
    refine J_if_eq (tgt := 22) dX11_out_8 (by decide) (fun c7 => ?_) (fun c7 => ?_)
    · -- to 22
      refine J_iconst (v := -1) dX11_out_22 (by decide) ?_
      refine J_istore_n dX11_out_23 (by decide) rfl ?_
      dsimp only [setL]
      refine J_iload_n dX11_out_24 rfl ?_
      refine J_iconst (v := -1) dX11_out_25 (by decide) ?_
      refine J_icmp_ne (tgt := 33) dX11_out_26 (by decide) (fun c8 => ?_) (fun c8 => ?_)
      · -- to 33
        exact absurd c8 (by decide)
      · -- on 29
        have hX := c8
        refine J_iconst (v := -1) dX11_out_29 (by decide) ?_
        refine J_goto (tgt := 45) dX11_out_30 (by decide) ?_
        refine M_iret dX11_out_45 rfl rfl ?_
        first
        | exact h0 (fun j s _ hj e => absurd ⟨j, hj, e⟩ q1)
        | exact h0 (fun j2 s hs2 hj2 e2 e3 e4 => by rw [(nI_eq (by omega) (by omega)).mp e2] at hX; rw [if_neg e3, e4] at hX; exact nI_pos (n := s) (by omega) (by rw [hX]; decide))
        | (rw [show (10 : Int32) = nI 10 from rfl, pk_mul, nI_add]; exact h1 j s hj hs24 rfl hp hsp)
    · -- on 11
      exact absurd c7 (by decide)
set_option maxRecDepth 100000 in
set_option maxHeartbeats 1000000 in
theorem tY_fault {d : Nat} {M : Mem} {Φ : Option Int32 → Mem → Prop} {x : Int32} (h : Φ (some (fltY M x)) M) : JM noRo (d + 1) mX11_fault 0 [some (.ref 0), some (.int x)] [] M Φ := by
  refine J_iload_n dX11_fault_0 rfl ?_
  by_cases s0 : x = 0
  · subst s0
    refine J_lookup (off := 27) (tgt := 28) dX11_fault_1 (by decide) (by rfl) (by decide) ?_
    refine J_aload_n dX11_fault_28 rfl ?_
    refine M_getR dX11_fault_29 fX11_50 rfl rfl (by decide) ?_
    refine M_callV0 (mc := mX5_faultFound) dX11_fault_32 kX11_161 oX5_faultFound (Nat.le_of_ble_eq_true rfl) (Nat.le_of_ble_eq_true rfl) rfl (by decide) rfl ?_
    refine tX5_faultFound ?_
    refine M_iret dX11_fault_35 rfl rfl ?_
    first
    | exact h
    | (rw [fltY, if_neg s0, if_neg s1] at h; exact h)
  by_cases s1 : x = 1
  · subst s1
    refine J_lookup (off := 35) (tgt := 36) dX11_fault_1 (by decide) (by rfl) (by decide) ?_
    refine J_aload_n dX11_fault_36 rfl ?_
    refine M_getR dX11_fault_37 fX11_50 rfl rfl (by decide) ?_
    refine M_callV0 (mc := mX5_faultPlace) dX11_fault_40 kX11_164 oX5_faultPlace (Nat.le_of_ble_eq_true rfl) (Nat.le_of_ble_eq_true rfl) rfl (by decide) rfl ?_
    refine tX5_faultPlace ?_
    refine M_iret dX11_fault_43 rfl rfl ?_
    first
    | exact h
    | (rw [fltY, if_neg s0, if_neg s1] at h; exact h)
  refine J_lookup (off := 43) (tgt := 44) dX11_fault_1 (by decide) (show Op.lookupswitch.offset [(0, 27), (1, 35)] 43 (Int32.toInt x) = 43 from (lv_osw (a := 0) s0 rfl).trans ((lv_osw (a := 1) s1 rfl))) (by decide) ?_
  refine J_iconst (v := -1) dX11_fault_44 (by decide) ?_
  refine M_iret dX11_fault_45 rfl rfl ?_
  first
  | exact h
  | (rw [fltY, if_neg s0, if_neg s1] at h; exact h)

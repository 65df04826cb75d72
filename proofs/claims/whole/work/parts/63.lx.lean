set_option maxRecDepth 100000 in
set_option maxHeartbeats 1000000 in
theorem tM_nx_ne {d : Nat} {M : Mem} {Φ : Option Int32 → Mem → Prop} {n : Nat} {T : Nat → Nat} {s j : Nat} {c : Int32} {g0 g g2 : Nat → Int32} {w2 : Int64} (hnb : n ≤ 1000) (hT : ∀ i, M.1 81 i = nI (T i) ∧ T i < 256) (hsn : s < n) (ha : g 29 = nI s) (hs : g 30 = nI n) (ho : ∀ i, i ≠ 29 → g i = g0 i) (hd : dgt (T s) = true) (hj : s + j = rnP dgt T (n - s) s) (a2 : j ≤ 6 → g2 33 = nI (vn T s j)) (a3 : ∀ i, i ≠ 33 → g2 i = (upd (upd g 32 (nI s)) 33 0) i) (h : ∀ g2 w2, TkR g0 g2 w2 (lexT.lexA T n s) → Φ none (RM M g2 w2)) : JM noRo (d + 2) mX12_next 198 [some (.ref 62), some (.int c), some (.int (nI j))] [] (RM M g2 w2) Φ := by
  have hr := rn_at (P := dgt) (T := T) (n - s) s
  have hjn : s + j ≤ n := by omega
  rw [lexT.lexA, if_neg (by rw [dgt_ltr hd]; decide), if_pos hd, ← hj, Nat.add_sub_cancel_left] at h
  by_cases h6 : j ≤ 6
  · by_cases hq2 : s + j < n
    · rcases hL : ltr (T (s + j)) with _ | _
      · rw [if_pos ⟨h6, fun q => absurd (hL.symm.trans q.2) (by decide)⟩] at h
        refine J_aload_n dX12_next_198 rfl ?_
        refine J_iload_n dX12_next_199 rfl ?_
        refine J_bipush (v := 6) dX12_next_200 (by decide) ?_
        refine J_icmp_gt (tgt := 216) dX12_next_202 (by decide) (fun c1 => ?_) (fun c1 => ?_)
        · -- to 216
          exact absurd c1 (nI_nlt (a := 6) h6 (by decide))
        · -- on 205
          refine J_aload_n dX12_next_205 rfl ?_
          refine J_iload_n dX12_next_206 rfl ?_
          refine M_callV1 (mc := mX12_here) dX12_next_207 kX12_163 oX12_here (Nat.le_of_ble_eq_true rfl) (Nat.le_of_ble_eq_true rfl) rfl (by decide) rfl ?_
          refine tX12_here (k := j) hnb hT (by rw [a3 29 (by decide), updN (by decide), updN (by decide)]; exact ha) (by rw [a3 30 (by decide), updN (by decide), updN (by decide)]; exact hs) (by omega) (fun hq => ?_) (fun hq => absurd hq2 hq)
          refine M_callS1 (mc := mX12_isLetter) dX12_next_210 kX12_180 oX12_isLetter (Nat.le_of_ble_eq_true rfl) (Nat.le_of_ble_eq_true rfl) ?_
          refine tX12_isLetter (hT _).2 (fun hl => absurd (hl.symm.trans hL) (by decide)) (fun hl => ?_)
          refine J_if_eq (tgt := 220) dX12_next_213 (by decide) (fun c4 => ?_) (fun c4 => ?_)
          · -- to 220
            refine J_iconst (v := 2) dX12_next_220 (by decide) ?_
            refine M_putI dX12_next_221 pX12_177 rfl rfl (by decide) ?_
            rw [RM_wr]
            refine J_goto (tgt := 245) dX12_next_224 (by decide) ?_
            refine J_aload_n dX12_next_245 rfl ?_
            refine M_getI dX12_next_246 fX12_177 rfl rfl (by decide) ?_
            rw [RM_g, updS]
            refine J_iconst (v := 3) dX12_next_249 (by decide) ?_
            refine J_icmp_eq (tgt := 263) dX12_next_250 (by decide) (fun c5 => ?_) (fun c5 => ?_)
            · -- to 263
              exact absurd c5 (by decide)
            · -- on 253
              refine J_aload_n dX12_next_253 rfl ?_
              refine J_dup dX12_next_254 rfl ?_
              refine M_getI dX12_next_255 fX12_157 rfl rfl (by decide) ?_
              rw [RM_g, updN (by decide), a3 29 (by decide), updN (by decide), updN (by decide), ha]
              refine J_iload_n dX12_next_258 rfl ?_
              refine J_iadd dX12_next_259 ?_
              rw [nI_add]
              refine M_putI dX12_next_260 pX12_157 rfl rfl (by decide) ?_
              rw [RM_wr]
              refine M_vret dX12_next_263 rfl ?_
              exact h _ _ ⟨fun i q1 q2 q3 q4 => by rw [updN q1, updN q2, a3 i q4, updN q4, updN q3]; exact ho i q1, by rw [updN (by decide), updN (by decide), a3 32 (by decide), updN (by decide), updS], by rw [updN (by decide), updS]; rfl, fun _ => updS, fun _ => by rw [updN (by decide), updN (by decide)]; exact a2 h6, fun q => absurd (show (2 : Nat) = 3 ∨ (14 ≤ 2 ∧ 2 < 19) from q) (by decide)⟩
          · -- on 216
            exact absurd c4 (by decide)
      · rw [if_neg (fun q => q.2 ⟨hq2, hL⟩)] at h
        refine J_aload_n dX12_next_198 rfl ?_
        refine J_iload_n dX12_next_199 rfl ?_
        refine J_bipush (v := 6) dX12_next_200 (by decide) ?_
        refine J_icmp_gt (tgt := 216) dX12_next_202 (by decide) (fun c1 => ?_) (fun c1 => ?_)
        · -- to 216
          exact absurd c1 (nI_nlt (a := 6) h6 (by decide))
        · -- on 205
          refine J_aload_n dX12_next_205 rfl ?_
          refine J_iload_n dX12_next_206 rfl ?_
          refine M_callV1 (mc := mX12_here) dX12_next_207 kX12_163 oX12_here (Nat.le_of_ble_eq_true rfl) (Nat.le_of_ble_eq_true rfl) rfl (by decide) rfl ?_
          refine tX12_here (k := j) hnb hT (by rw [a3 29 (by decide), updN (by decide), updN (by decide)]; exact ha) (by rw [a3 30 (by decide), updN (by decide), updN (by decide)]; exact hs) (by omega) (fun hq => ?_) (fun hq => absurd hq2 hq)
          refine M_callS1 (mc := mX12_isLetter) dX12_next_210 kX12_180 oX12_isLetter (Nat.le_of_ble_eq_true rfl) (Nat.le_of_ble_eq_true rfl) ?_
          refine tX12_isLetter (hT _).2 (fun hl => ?_) (fun hl => absurd (hl.symm.trans hL) (by decide))
          refine J_if_eq (tgt := 220) dX12_next_213 (by decide) (fun c4 => ?_) (fun c4 => ?_)
          · -- to 220
            exact absurd c4 (by decide)
          · -- on 216
            refine J_iconst (v := 3) dX12_next_216 (by decide) ?_
            refine J_goto (tgt := 221) dX12_next_217 (by decide) ?_
            refine M_putI dX12_next_221 pX12_177 rfl rfl (by decide) ?_
            rw [RM_wr]
            refine J_goto (tgt := 245) dX12_next_224 (by decide) ?_
            refine J_aload_n dX12_next_245 rfl ?_
            refine M_getI dX12_next_246 fX12_177 rfl rfl (by decide) ?_
            rw [RM_g, updS]
            refine J_iconst (v := 3) dX12_next_249 (by decide) ?_
            refine J_icmp_eq (tgt := 263) dX12_next_250 (by decide) (fun c5 => ?_) (fun c5 => ?_)
            · -- to 263
              refine M_vret dX12_next_263 rfl ?_
              exact h _ _ ⟨fun i q1 q2 q3 q4 => by rw [updN q2, a3 i q4, updN q4, updN q3]; exact ho i q1, by rw [updN (by decide), a3 32 (by decide), updN (by decide), updS], updS, fun q => absurd rfl q, fun q => absurd (show (1 : Nat) = 2 from q) (by decide), fun q => absurd (show (1 : Nat) = 3 ∨ (14 ≤ 1 ∧ 1 < 19) from q) (by decide)⟩
            · -- on 253
              exact absurd rfl c5
    · rw [if_pos ⟨h6, fun q => hq2 q.1⟩] at h
      refine J_aload_n dX12_next_198 rfl ?_
      refine J_iload_n dX12_next_199 rfl ?_
      refine J_bipush (v := 6) dX12_next_200 (by decide) ?_
      refine J_icmp_gt (tgt := 216) dX12_next_202 (by decide) (fun c1 => ?_) (fun c1 => ?_)
      · -- to 216
        exact absurd c1 (nI_nlt (a := 6) h6 (by decide))
      · -- on 205
        refine J_aload_n dX12_next_205 rfl ?_
        refine J_iload_n dX12_next_206 rfl ?_
        refine M_callV1 (mc := mX12_here) dX12_next_207 kX12_163 oX12_here (Nat.le_of_ble_eq_true rfl) (Nat.le_of_ble_eq_true rfl) rfl (by decide) rfl ?_
        refine tX12_here (k := j) hnb hT (by rw [a3 29 (by decide), updN (by decide), updN (by decide)]; exact ha) (by rw [a3 30 (by decide), updN (by decide), updN (by decide)]; exact hs) (by omega) (fun hq => absurd hq hq2) (fun hq => ?_)
        refine M_callS1 (mc := mX12_isLetter) dX12_next_210 kX12_180 oX12_isLetter (Nat.le_of_ble_eq_true rfl) (Nat.le_of_ble_eq_true rfl) ?_
        refine tX12_isLetterN ?_
        refine J_if_eq (tgt := 220) dX12_next_213 (by decide) (fun c4 => ?_) (fun c4 => ?_)
        · -- to 220
          refine J_iconst (v := 2) dX12_next_220 (by decide) ?_
          refine M_putI dX12_next_221 pX12_177 rfl rfl (by decide) ?_
          rw [RM_wr]
          refine J_goto (tgt := 245) dX12_next_224 (by decide) ?_
          refine J_aload_n dX12_next_245 rfl ?_
          refine M_getI dX12_next_246 fX12_177 rfl rfl (by decide) ?_
          rw [RM_g, updS]
          refine J_iconst (v := 3) dX12_next_249 (by decide) ?_
          refine J_icmp_eq (tgt := 263) dX12_next_250 (by decide) (fun c5 => ?_) (fun c5 => ?_)
          · -- to 263
            exact absurd c5 (by decide)
          · -- on 253
            refine J_aload_n dX12_next_253 rfl ?_
            refine J_dup dX12_next_254 rfl ?_
            refine M_getI dX12_next_255 fX12_157 rfl rfl (by decide) ?_
            rw [RM_g, updN (by decide), a3 29 (by decide), updN (by decide), updN (by decide), ha]
            refine J_iload_n dX12_next_258 rfl ?_
            refine J_iadd dX12_next_259 ?_
            rw [nI_add]
            refine M_putI dX12_next_260 pX12_157 rfl rfl (by decide) ?_
            rw [RM_wr]
            refine M_vret dX12_next_263 rfl ?_
            exact h _ _ ⟨fun i q1 q2 q3 q4 => by rw [updN q1, updN q2, a3 i q4, updN q4, updN q3]; exact ho i q1, by rw [updN (by decide), updN (by decide), a3 32 (by decide), updN (by decide), updS], by rw [updN (by decide), updS]; rfl, fun _ => updS, fun _ => by rw [updN (by decide), updN (by decide)]; exact a2 h6, fun q => absurd (show (2 : Nat) = 3 ∨ (14 ≤ 2 ∧ 2 < 19) from q) (by decide)⟩
        · -- on 216
          exact absurd c4 (by decide)
  · rw [if_neg (fun q => h6 q.1)] at h
    refine J_aload_n dX12_next_198 rfl ?_
    refine J_iload_n dX12_next_199 rfl ?_
    refine J_bipush (v := 6) dX12_next_200 (by decide) ?_
    refine J_icmp_gt (tgt := 216) dX12_next_202 (by decide) (fun c1 => ?_) (fun c1 => ?_)
    · -- to 216
      refine J_iconst (v := 3) dX12_next_216 (by decide) ?_
      refine J_goto (tgt := 221) dX12_next_217 (by decide) ?_
      refine M_putI dX12_next_221 pX12_177 rfl rfl (by decide) ?_
      rw [RM_wr]
      refine J_goto (tgt := 245) dX12_next_224 (by decide) ?_
      refine J_aload_n dX12_next_245 rfl ?_
      refine M_getI dX12_next_246 fX12_177 rfl rfl (by decide) ?_
      rw [RM_g, updS]
      refine J_iconst (v := 3) dX12_next_249 (by decide) ?_
      refine J_icmp_eq (tgt := 263) dX12_next_250 (by decide) (fun c2 => ?_) (fun c2 => ?_)
      · -- to 263
        refine M_vret dX12_next_263 rfl ?_
        exact h _ _ ⟨fun i q1 q2 q3 q4 => by rw [updN q2, a3 i q4, updN q4, updN q3]; exact ho i q1, by rw [updN (by decide), a3 32 (by decide), updN (by decide), updS], updS, fun q => absurd rfl q, fun q => absurd (show (1 : Nat) = 2 from q) (by decide), fun q => absurd (show (1 : Nat) = 3 ∨ (14 ≤ 1 ∧ 1 < 19) from q) (by decide)⟩
      · -- on 253
        exact absurd rfl c2
    · -- on 205
      exact absurd (nI_lt (a := 6) (by omega) (by omega)) c1
set_option maxRecDepth 100000 in
set_option maxHeartbeats 1000000 in
theorem tM_nx_nd {d : Nat} {M : Mem} {Φ : Option Int32 → Mem → Prop} {n : Nat} {T : Nat → Nat} {s : Nat} {g0 g : Nat → Int32} {w : Int64} (hnb : n ≤ 1000) (hT : ∀ i, M.1 81 i = nI (T i) ∧ T i < 256) (hsn : s < n) (ha : g 29 = nI s) (hs : g 30 = nI n) (ho : ∀ i, i ≠ 29 → g i = g0 i) (hd : dgt (T s) = true) (h : ∀ g2 w2, TkR g0 g2 w2 (lexT.lexA T n s) → Φ none (RM M g2 w2)) : JM noRo (d + 2) mX12_next 33 [some (.ref 62)] [] (RM M g w) Φ := by
  refine J_aload_n dX12_next_33 rfl ?_
  refine J_aload_n dX12_next_34 rfl ?_
  refine M_getI dX12_next_35 fX12_157 rfl rfl (by decide) ?_
  rw [RM_g, ha]
  refine M_putI dX12_next_38 pX12_167 rfl rfl (by decide) ?_
  rw [RM_wr]
  refine J_aload_n dX12_next_41 rfl ?_
  refine J_iconst (v := 0) dX12_next_42 (by decide) ?_
  refine M_callV1 (mc := mX12_here) dX12_next_43 kX12_163 oX12_here (Nat.le_of_ble_eq_true rfl) (Nat.le_of_ble_eq_true rfl) rfl (by decide) rfl ?_
  refine tX12_here0 hnb hT (by rw [updN (by decide)]; exact ha) (by rw [updN (by decide)]; exact hs) (by omega) (fun hq => ?_) (fun hq => absurd (by omega) hq)
  refine J_istore_n dX12_next_46 (by decide) rfl ?_
  dsimp only [setL]
  refine J_iconst (v := 0) dX12_next_47 (by decide) ?_
  refine J_istore_n dX12_next_48 (by decide) rfl ?_
  dsimp only [setL]
  refine J_aload_n dX12_next_49 rfl ?_
  refine J_lconst (v := 0) dX12_next_50 (by decide) ?_
  refine M_putL dX12_next_51 pX12_170 rfl rfl (u62 rfl) (by decide) ?_
  rw [RM_wl]
  refine J_aload_n dX12_next_54 rfl ?_
  refine J_iconst (v := 0) dX12_next_55 (by decide) ?_
  refine M_putI dX12_next_56 pX12_174 rfl rfl (by decide) ?_
  rw [RM_wr]
  refine J_iload_n dX12_next_59 rfl ?_
  refine J_if_ge (tgt := 71) dX12_next_60 (by decide) (fun c2 => ?_) (fun c2 => ?_)
  · -- to 71
    refine J_iload_n dX12_next_71 rfl ?_
    refine M_callS1 (mc := mX12_isLetter) dX12_next_72 kX12_180 oX12_isLetter (Nat.le_of_ble_eq_true rfl) (Nat.le_of_ble_eq_true rfl) ?_
    refine tX12_isLetter (hT _).2 (fun hl2 => absurd (hl2.symm.trans (dgt_ltr hd)) (by decide)) (fun _ => ?_)
    refine J_if_eq (tgt := 148) dX12_next_75 (by decide) (fun c4 => ?_) (fun c4 => ?_)
    · -- to 148
      refine J_iload_n dX12_next_148 rfl ?_
      refine M_callS1 (mc := mX12_isDigit) dX12_next_149 kX12_183 oX12_isDigit (Nat.le_of_ble_eq_true rfl) (Nat.le_of_ble_eq_true rfl) ?_
      refine tX12_isDigit (hT _).2 (fun _ => ?_) (fun hl2 => absurd (hl2.symm.trans hd) (by decide))
      refine J_if_eq (tgt := 227) dX12_next_152 (by decide) (fun c6 => ?_) (fun c6 => ?_)
      · -- to 227
        exact absurd c6 (by decide)
      · -- on 155
        refine tM_nx_n (s := s) hnb hT (n - s) 0 _ (by omega) (by rw [updN (by decide), updN (by decide)]; exact ha) (by rw [updN (by decide), updN (by decide)]; exact hs) (fun _ => by rw [updS]; rfl) (fun j2 g2 a1 a2 a3 => ?_)
        rw [Nat.add_zero] at a1
        exact tM_nx_ne hnb hT hsn ha hs ho hd a1 a2 a3 h
    · -- on 78
      exact absurd c4 (by decide)
  · -- on 63
    exact absurd (nI_le (a := 0) (Nat.zero_le _) (by have := (hT s).2; omega)) c2
set_option maxRecDepth 100000 in
set_option maxHeartbeats 1000000 in
theorem tM_nx_sg {d : Nat} {M : Mem} {Φ : Option Int32 → Mem → Prop} {n : Nat} {T : Nat → Nat} {s : Nat} {g0 g : Nat → Int32} {w : Int64} (hnb : n ≤ 1000) (hT : ∀ i, M.1 81 i = nI (T i) ∧ T i < 256) (hsn : s < n) (ha : g 29 = nI s) (hs : g 30 = nI n) (ho : ∀ i, i ≠ 29 → g i = g0 i) (hl : ltr (T s) = false) (hd : dgt (T s) = false) (h : ∀ g2 w2, TkR g0 g2 w2 (lexT.lexA T n s) → Φ none (RM M g2 w2)) : JM noRo (d + 2) mX12_next 33 [some (.ref 62)] [] (RM M g w) Φ := by
  have hT2 := (hT s).2
  rw [lexT.lexA, if_neg (by rw [hl]; decide), if_neg (by rw [hd]; decide)] at h
  rcases hsg : sgn (T s) with _ | _
  · rw [if_neg (by rw [hsg]; decide)] at h
    refine J_aload_n dX12_next_33 rfl ?_
    refine J_aload_n dX12_next_34 rfl ?_
    refine M_getI dX12_next_35 fX12_157 rfl rfl (by decide) ?_
    rw [RM_g, ha]
    refine M_putI dX12_next_38 pX12_167 rfl rfl (by decide) ?_
    rw [RM_wr]
    refine J_aload_n dX12_next_41 rfl ?_
    refine J_iconst (v := 0) dX12_next_42 (by decide) ?_
    refine M_callV1 (mc := mX12_here) dX12_next_43 kX12_163 oX12_here (Nat.le_of_ble_eq_true rfl) (Nat.le_of_ble_eq_true rfl) rfl (by decide) rfl ?_
    refine tX12_here0 hnb hT (by rw [updN (by decide)]; exact ha) (by rw [updN (by decide)]; exact hs) (by omega) (fun hq => ?_) (fun hq => absurd (by omega) hq)
    refine J_istore_n dX12_next_46 (by decide) rfl ?_
    dsimp only [setL]
    refine J_iconst (v := 0) dX12_next_47 (by decide) ?_
    refine J_istore_n dX12_next_48 (by decide) rfl ?_
    dsimp only [setL]
    refine J_aload_n dX12_next_49 rfl ?_
    refine J_lconst (v := 0) dX12_next_50 (by decide) ?_
    refine M_putL dX12_next_51 pX12_170 rfl rfl (u62 rfl) (by decide) ?_
    rw [RM_wl]
    refine J_aload_n dX12_next_54 rfl ?_
    refine J_iconst (v := 0) dX12_next_55 (by decide) ?_
    refine M_putI dX12_next_56 pX12_174 rfl rfl (by decide) ?_
    rw [RM_wr]
    refine J_iload_n dX12_next_59 rfl ?_
    refine J_if_ge (tgt := 71) dX12_next_60 (by decide) (fun c2 => ?_) (fun c2 => ?_)
    · -- to 71
      refine J_iload_n dX12_next_71 rfl ?_
      refine M_callS1 (mc := mX12_isLetter) dX12_next_72 kX12_180 oX12_isLetter (Nat.le_of_ble_eq_true rfl) (Nat.le_of_ble_eq_true rfl) ?_
      refine tX12_isLetter (hT _).2 (fun hl2 => absurd (hl2.symm.trans hl) (by decide)) (fun _ => ?_)
      refine J_if_eq (tgt := 148) dX12_next_75 (by decide) (fun c4 => ?_) (fun c4 => ?_)
      · -- to 148
        refine J_iload_n dX12_next_148 rfl ?_
        refine M_callS1 (mc := mX12_isDigit) dX12_next_149 kX12_183 oX12_isDigit (Nat.le_of_ble_eq_true rfl) (Nat.le_of_ble_eq_true rfl) ?_
        refine tX12_isDigit (hT _).2 (fun hl2 => absurd (hl2.symm.trans hd) (by decide)) (fun _ => ?_)
        refine J_if_eq (tgt := 227) dX12_next_152 (by decide) (fun c6 => ?_) (fun c6 => ?_)
        · -- to 227
          refine J_iconst (v := 1) dX12_next_227 (by decide) ?_
          refine J_istore_n dX12_next_228 (by decide) rfl ?_
          dsimp only [setL]
          refine J_aload_n dX12_next_229 rfl ?_
          refine J_iload_n dX12_next_230 rfl ?_
          refine M_callS1 (mc := mX12_isSign) dX12_next_231 kX12_186 oX12_isSign (Nat.le_of_ble_eq_true rfl) (Nat.le_of_ble_eq_true rfl) ?_
          refine tX12_isSign (hT _).2 (fun hl2 => absurd (hl2.symm.trans hsg) (by decide)) (fun hl2 => ?_)
          refine J_if_eq (tgt := 241) dX12_next_234 (by decide) (fun c8 => ?_) (fun c8 => ?_)
          · -- to 241
            refine J_iconst (v := 3) dX12_next_241 (by decide) ?_
            refine M_putI dX12_next_242 pX12_177 rfl rfl (by decide) ?_
            rw [RM_wr]
            refine J_aload_n dX12_next_245 rfl ?_
            refine M_getI dX12_next_246 fX12_177 rfl rfl (by decide) ?_
            rw [RM_g, updS]
            refine J_iconst (v := 3) dX12_next_249 (by decide) ?_
            refine J_icmp_eq (tgt := 263) dX12_next_250 (by decide) (fun c9 => ?_) (fun c9 => ?_)
            · -- to 263
              refine M_vret dX12_next_263 rfl ?_
              exact h _ _ ⟨fun i q1 q2 q3 q4 => by rw [updN q2, updN q4, updN q3]; exact ho i q1, by rw [updN (by decide), updN (by decide), updS], updS, fun q => absurd rfl q, fun q => absurd (show (1 : Nat) = 2 from q) (by decide), fun q => absurd (show (1 : Nat) = 3 ∨ (14 ≤ 1 ∧ 1 < 19) from q) (by decide)⟩
            · -- on 253
              exact absurd rfl c9
          · -- on 237
            exact absurd c8 (by decide)
        · -- on 155
          exact absurd c6 (by decide)
      · -- on 78
        exact absurd c4 (by decide)
    · -- on 63
      exact absurd (nI_le (a := 0) (Nat.zero_le _) (by have := (hT s).2; omega)) c2
  · rw [if_pos hsg] at h
    have hz := sgn_e hsg
    have e3 : srt (T s) = nI (T s) := by
      unfold srt
      rw [if_neg (by omega), if_neg (by omega), if_neg (by omega), if_neg (by omega)]
    refine J_aload_n dX12_next_33 rfl ?_
    refine J_aload_n dX12_next_34 rfl ?_
    refine M_getI dX12_next_35 fX12_157 rfl rfl (by decide) ?_
    rw [RM_g, ha]
    refine M_putI dX12_next_38 pX12_167 rfl rfl (by decide) ?_
    rw [RM_wr]
    refine J_aload_n dX12_next_41 rfl ?_
    refine J_iconst (v := 0) dX12_next_42 (by decide) ?_
    refine M_callV1 (mc := mX12_here) dX12_next_43 kX12_163 oX12_here (Nat.le_of_ble_eq_true rfl) (Nat.le_of_ble_eq_true rfl) rfl (by decide) rfl ?_
    refine tX12_here0 hnb hT (by rw [updN (by decide)]; exact ha) (by rw [updN (by decide)]; exact hs) (by omega) (fun hq => ?_) (fun hq => absurd (by omega) hq)
    refine J_istore_n dX12_next_46 (by decide) rfl ?_
    dsimp only [setL]
    refine J_iconst (v := 0) dX12_next_47 (by decide) ?_
    refine J_istore_n dX12_next_48 (by decide) rfl ?_
    dsimp only [setL]
    refine J_aload_n dX12_next_49 rfl ?_
    refine J_lconst (v := 0) dX12_next_50 (by decide) ?_
    refine M_putL dX12_next_51 pX12_170 rfl rfl (u62 rfl) (by decide) ?_
    rw [RM_wl]
    refine J_aload_n dX12_next_54 rfl ?_
    refine J_iconst (v := 0) dX12_next_55 (by decide) ?_
    refine M_putI dX12_next_56 pX12_174 rfl rfl (by decide) ?_
    rw [RM_wr]
    refine J_iload_n dX12_next_59 rfl ?_
    refine J_if_ge (tgt := 71) dX12_next_60 (by decide) (fun c2 => ?_) (fun c2 => ?_)
    · -- to 71
      refine J_iload_n dX12_next_71 rfl ?_
      refine M_callS1 (mc := mX12_isLetter) dX12_next_72 kX12_180 oX12_isLetter (Nat.le_of_ble_eq_true rfl) (Nat.le_of_ble_eq_true rfl) ?_
      refine tX12_isLetter (hT _).2 (fun hl2 => absurd (hl2.symm.trans hl) (by decide)) (fun _ => ?_)
      refine J_if_eq (tgt := 148) dX12_next_75 (by decide) (fun c4 => ?_) (fun c4 => ?_)
      · -- to 148
        refine J_iload_n dX12_next_148 rfl ?_
        refine M_callS1 (mc := mX12_isDigit) dX12_next_149 kX12_183 oX12_isDigit (Nat.le_of_ble_eq_true rfl) (Nat.le_of_ble_eq_true rfl) ?_
        refine tX12_isDigit (hT _).2 (fun hl2 => absurd (hl2.symm.trans hd) (by decide)) (fun _ => ?_)
        refine J_if_eq (tgt := 227) dX12_next_152 (by decide) (fun c6 => ?_) (fun c6 => ?_)
        · -- to 227
          refine J_iconst (v := 1) dX12_next_227 (by decide) ?_
          refine J_istore_n dX12_next_228 (by decide) rfl ?_
          dsimp only [setL]
          refine J_aload_n dX12_next_229 rfl ?_
          refine J_iload_n dX12_next_230 rfl ?_
          refine M_callS1 (mc := mX12_isSign) dX12_next_231 kX12_186 oX12_isSign (Nat.le_of_ble_eq_true rfl) (Nat.le_of_ble_eq_true rfl) ?_
          refine tX12_isSign (hT _).2 (fun hl2 => ?_) (fun hl2 => absurd (hl2.symm.trans hsg) (by decide))
          refine J_if_eq (tgt := 241) dX12_next_234 (by decide) (fun c8 => ?_) (fun c8 => ?_)
          · -- to 241
            exact absurd c8 (by decide)
          · -- on 237
            refine J_iload_n dX12_next_237 rfl ?_
            refine J_goto (tgt := 242) dX12_next_238 (by decide) ?_
            refine M_putI dX12_next_242 pX12_177 rfl rfl (by decide) ?_
            rw [RM_wr]
            refine J_aload_n dX12_next_245 rfl ?_
            refine M_getI dX12_next_246 fX12_177 rfl rfl (by decide) ?_
            rw [RM_g, updS]
            refine J_iconst (v := 3) dX12_next_249 (by decide) ?_
            refine J_icmp_eq (tgt := 263) dX12_next_250 (by decide) (fun c9 => ?_) (fun c9 => ?_)
            · -- to 263
              exact absurd ((nI_eq (a := T s) (b := 3) (by omega) (by decide)).mp c9) (by omega)
            · -- on 253
              refine J_aload_n dX12_next_253 rfl ?_
              refine J_dup dX12_next_254 rfl ?_
              refine M_getI dX12_next_255 fX12_157 rfl rfl (by decide) ?_
              rw [RM_g, updN (by decide), updN (by decide), updN (by decide), ha]
              refine J_iload_n dX12_next_258 rfl ?_
              refine J_iadd dX12_next_259 ?_
              rw [nI_1]
              refine M_putI dX12_next_260 pX12_157 rfl rfl (by decide) ?_
              rw [RM_wr]
              refine M_vret dX12_next_263 rfl ?_
              exact h _ _ ⟨fun i q1 q2 q3 q4 => by rw [updN q1, updN q2, updN q4, updN q3]; exact ho i q1, by rw [updN (by decide), updN (by decide), updN (by decide), updS], by rw [updN (by decide), updS]; exact e3.symm, fun _ => updS, fun q => absurd (show T s = 2 from q) (by omega), fun q => absurd (show T s = 3 ∨ (14 ≤ T s ∧ T s < 19) from q) (by omega)⟩
        · -- on 155
          exact absurd c6 (by decide)
      · -- on 78
        exact absurd c4 (by decide)
    · -- on 63
      exact absurd (nI_le (a := 0) (Nat.zero_le _) (by have := (hT s).2; omega)) c2
set_option maxRecDepth 100000 in
set_option maxHeartbeats 1000000 in
theorem tM_next {d : Nat} {M : Mem} {Φ : Option Int32 → Mem → Prop} {n : Nat} {T : Nat → Nat} {p : Nat} {g : Nat → Int32} {w : Int64} (hnb : n ≤ 1000) (hT : ∀ i, M.1 81 i = nI (T i) ∧ T i < 256) (hp : p ≤ n) (ha : g 29 = nI p) (hs : g 30 = nI n) (h : ∀ g2 w2, TkR g g2 w2 (lexT T n p) → Φ none (RM M g2 w2)) : JM noRo (d + 2) mX12_next 0 [some (.ref 62)] [] (RM M g w) Φ := by
  have hr := rn_at (P := blk) (T := T) (n - p) p
  refine tM_nx_b hnb hT (n - p) p g (by omega) ha hs (fun g2 a1 a2 a3 => ?_)
  unfold lexT at h
  by_cases hq : n ≤ rnP blk T (n - p) p
  · exact tM_nx_end hnb hT hq (by omega) a1 a2 a3 (fun g3 w3 k => by
      rw [if_pos hq] at k h
      exact h g3 w3 k)
  · rw [if_neg hq] at h
    rcases hl : ltr (T (rnP blk T (n - p) p)) with _ | _
    · rcases hd : dgt (T (rnP blk T (n - p) p)) with _ | _
      · exact tM_nx_sg hnb hT (by omega) a1 a2 a3 hl hd h
      · exact tM_nx_nd hnb hT (by omega) a1 a2 a3 hd h
    · exact tM_nx_wd hnb hT (by omega) hl a1 a2 a3 h

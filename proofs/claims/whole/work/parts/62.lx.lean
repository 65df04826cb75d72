theorem num_s {T : Nat → Nat} {s j : Nat} (hd : dgt (T (s + j)) = true) : (10 : Int32) * nI (vn T s j) + nI (T (s + j)) - 48 = nI (vn T s (j + 1)) := by
  unfold dgt at hd
  rw [Bool.and_eq_true, decide_eq_true_eq, decide_eq_true_eq] at hd
  rw [show (10 : Int32) = nI 10 from rfl, show (48 : Int32) = nI 48 from rfl, pk_mul, nI_add, pk_sub (by omega), vn]
  congr 1
  omega
set_option maxRecDepth 100000 in
set_option maxHeartbeats 1000000 in
theorem tM_nx_n {d : Nat} {M : Mem} {Φ : Option Int32 → Mem → Prop} {n : Nat} {T : Nat → Nat} {s : Nat} {c : Int32} {w : Int64} (hnb : n ≤ 1000) (hT : ∀ i, M.1 81 i = nI (T i) ∧ T i < 256) : ∀ k j g, s + j + k = n → g 29 = nI s → g 30 = nI n → (j ≤ 6 → g 33 = nI (vn T s j)) → (∀ j2 g2, s + j2 = rnP dgt T k (s + j) → (j2 ≤ 6 → g2 33 = nI (vn T s j2)) → (∀ i, i ≠ 33 → g2 i = g i) → JM noRo (d + 2) mX12_next 198 [some (.ref 62), some (.int c), some (.int (nI j2))] [] (RM M g2 w) Φ) → JM noRo (d + 2) mX12_next 155 [some (.ref 62), some (.int c), some (.int (nI j))] [] (RM M g w) Φ := by
  intro k
  induction k with
  | zero =>
    intro j g hj ha hs hx h
    refine J_aload_n dX12_next_155 rfl ?_
    refine J_iload_n dX12_next_156 rfl ?_
    refine M_callV1 (mc := mX12_here) dX12_next_157 kX12_163 oX12_here (Nat.le_of_ble_eq_true rfl) (Nat.le_of_ble_eq_true rfl) rfl (by decide) rfl ?_
    refine tX12_here (k := j) hnb hT ha hs (by omega) (fun hq => absurd hq (by omega)) (fun hq => ?_)
    refine M_callS1 (mc := mX12_isDigit) dX12_next_160 kX12_183 oX12_isDigit (Nat.le_of_ble_eq_true rfl) (Nat.le_of_ble_eq_true rfl) ?_
    refine tX12_isDigitN ?_
    refine J_if_eq (tgt := 198) dX12_next_163 (by decide) (fun c3 => ?_) (fun c3 => ?_)
    · -- to 198
      exact h j g (by have : rnP dgt T 0 (s + j) = s + j := rfl; omega) hx (fun _ _ => rfl)
    · -- on 166
      exact absurd c3 (by decide)
  | succ k ih =>
    intro j g hj ha hs hx h
    refine J_aload_n dX12_next_155 rfl ?_
    refine J_iload_n dX12_next_156 rfl ?_
    refine M_callV1 (mc := mX12_here) dX12_next_157 kX12_163 oX12_here (Nat.le_of_ble_eq_true rfl) (Nat.le_of_ble_eq_true rfl) rfl (by decide) rfl ?_
    refine tX12_here (k := j) hnb hT ha hs (by omega) (fun hq => ?_) (fun hq => absurd (by omega) hq)
    refine M_callS1 (mc := mX12_isDigit) dX12_next_160 kX12_183 oX12_isDigit (Nat.le_of_ble_eq_true rfl) (Nat.le_of_ble_eq_true rfl) ?_
    refine tX12_isDigit (hT _).2 (fun hd => ?_) (fun hd => ?_)
    · -- true
      refine J_if_eq (tgt := 198) dX12_next_163 (by decide) (fun c3 => ?_) (fun c3 => ?_)
      · -- to 198
        exact absurd c3 (by decide)
      · -- on 166
        refine J_iload_n dX12_next_166 rfl ?_
        refine J_bipush (v := 6) dX12_next_167 (by decide) ?_
        refine J_icmp_ge (tgt := 192) dX12_next_169 (by decide) (fun c4 => ?_) (fun c4 => ?_)
        · -- to 192
          try rw [RM_wr]
          refine J_iinc (v := nI (j + 1)) dX12_next_192 rfl (nI_1 j) (by decide) rfl ?_
          dsimp only [setL]
          refine J_goto (tgt := 155) dX12_next_195 (by decide) ?_
          first
          | (refine ih (j + 1) _ (by omega) (by rw [updN (by decide)]; exact ha) (by rw [updN (by decide)]; exact hs) (fun q => ?_) (fun k2 g2 a1 a2 a3 => h k2 g2 ?_ a2 (fun i hi => ?_))
             · rw [updS]; exact num_s hd
             · rw [rn_y hd]; exact a1
             · rw [a3 i hi, updN hi])
          | (refine ih (j + 1) g (by omega) ha hs (fun q => ?_) (fun k2 g2 a1 a2 a3 => h k2 g2 ?_ a2 a3)
             · exact absurd (nI_ge (b := 6) (a := j) (by omega) (by decide)) (fun z => z c4)
             · rw [rn_y hd]; exact a1)
        · -- on 172
          have h6 : j < 6 := Nat.not_le.mp (fun q => c4 (nI_le (a := 6) q (by omega)))
          refine J_aload_n dX12_next_172 rfl ?_
          refine J_bipush (v := 10) dX12_next_173 (by decide) ?_
          refine J_aload_n dX12_next_175 rfl ?_
          refine M_getI dX12_next_176 fX12_174 rfl rfl (by decide) ?_
          rw [RM_g, hx (by omega)]
          refine J_imul dX12_next_179 ?_
          refine J_aload_n dX12_next_180 rfl ?_
          refine J_iload_n dX12_next_181 rfl ?_
          refine M_callV1 (mc := mX12_here) dX12_next_182 kX12_163 oX12_here (Nat.le_of_ble_eq_true rfl) (Nat.le_of_ble_eq_true rfl) rfl (by decide) rfl ?_
          refine tX12_here (k := j) hnb hT ha hs (by omega) (fun hq => ?_) (fun hq => absurd (by omega) hq)
          refine J_iadd dX12_next_185 ?_
          refine J_bipush (v := 48) dX12_next_186 (by decide) ?_
          refine J_isub dX12_next_188 ?_
          refine M_putI dX12_next_189 pX12_174 rfl rfl (by decide) ?_
          try rw [RM_wr]
          refine J_iinc (v := nI (j + 1)) dX12_next_192 rfl (nI_1 j) (by decide) rfl ?_
          dsimp only [setL]
          refine J_goto (tgt := 155) dX12_next_195 (by decide) ?_
          first
          | (refine ih (j + 1) _ (by omega) (by rw [updN (by decide)]; exact ha) (by rw [updN (by decide)]; exact hs) (fun q => ?_) (fun k2 g2 a1 a2 a3 => h k2 g2 ?_ a2 (fun i hi => ?_))
             · rw [updS]; exact num_s hd
             · rw [rn_y hd]; exact a1
             · rw [a3 i hi, updN hi])
          | (refine ih (j + 1) g (by omega) ha hs (fun q => ?_) (fun k2 g2 a1 a2 a3 => h k2 g2 ?_ a2 a3)
             · exact absurd (nI_ge (b := 6) (a := j) (by omega) (by decide)) (fun z => z c4)
             · rw [rn_y hd]; exact a1)
    · -- false
      refine J_if_eq (tgt := 198) dX12_next_163 (by decide) (fun c6 => ?_) (fun c6 => ?_)
      · -- to 198
        exact h j g (by rw [rn_n hd]) hx (fun _ _ => rfl)
      · -- on 166
        exact absurd c6 (by decide)
set_option maxRecDepth 100000 in
set_option maxHeartbeats 1000000 in
theorem tX12_isSign {d : Nat} {M : Mem} {Φ : Option Int32 → Mem → Prop} {c : Nat} (hc : c < 256) (h1 : sgn c = true → Φ (some 1) M) (h0 : sgn c = false → Φ (some 0) M) : JM noRo d mX12_isSign 0 [some (.int (nI c))] [] M Φ := by
  rcases hb : sgn c with _ | _
  ·
    refine J_iload_n dX12_isSign_0 rfl ?_
    refine J_bipush (v := 59) dX12_isSign_1 (by decide) ?_
    refine J_icmp_eq (tgt := 48) dX12_isSign_3 (by decide) (fun c1 => ?_) (fun c1 => ?_)
    · -- to 48
      exact absurd ((nI_eq (a := c) (b := 59) (by omega) (by decide)).mp c1) (fun q => absurd (hb.symm.trans (by rw [q])) (by decide))
    · -- on 6
      refine J_iload_n dX12_isSign_6 rfl ?_
      refine J_bipush (v := 61) dX12_isSign_7 (by decide) ?_
      refine J_icmp_eq (tgt := 48) dX12_isSign_9 (by decide) (fun c2 => ?_) (fun c2 => ?_)
      · -- to 48
        exact absurd ((nI_eq (a := c) (b := 61) (by omega) (by decide)).mp c2) (fun q => absurd (hb.symm.trans (by rw [q])) (by decide))
      · -- on 12
        refine J_iload_n dX12_isSign_12 rfl ?_
        refine J_bipush (v := 60) dX12_isSign_13 (by decide) ?_
        refine J_icmp_eq (tgt := 48) dX12_isSign_15 (by decide) (fun c3 => ?_) (fun c3 => ?_)
        · -- to 48
          exact absurd ((nI_eq (a := c) (b := 60) (by omega) (by decide)).mp c3) (fun q => absurd (hb.symm.trans (by rw [q])) (by decide))
        · -- on 18
          refine J_iload_n dX12_isSign_18 rfl ?_
          refine J_bipush (v := 62) dX12_isSign_19 (by decide) ?_
          refine J_icmp_eq (tgt := 48) dX12_isSign_21 (by decide) (fun c4 => ?_) (fun c4 => ?_)
          · -- to 48
            exact absurd ((nI_eq (a := c) (b := 62) (by omega) (by decide)).mp c4) (fun q => absurd (hb.symm.trans (by rw [q])) (by decide))
          · -- on 24
            refine J_iload_n dX12_isSign_24 rfl ?_
            refine J_bipush (v := 43) dX12_isSign_25 (by decide) ?_
            refine J_icmp_eq (tgt := 48) dX12_isSign_27 (by decide) (fun c5 => ?_) (fun c5 => ?_)
            · -- to 48
              exact absurd ((nI_eq (a := c) (b := 43) (by omega) (by decide)).mp c5) (fun q => absurd (hb.symm.trans (by rw [q])) (by decide))
            · -- on 30
              refine J_iload_n dX12_isSign_30 rfl ?_
              refine J_bipush (v := 45) dX12_isSign_31 (by decide) ?_
              refine J_icmp_eq (tgt := 48) dX12_isSign_33 (by decide) (fun c6 => ?_) (fun c6 => ?_)
              · -- to 48
                exact absurd ((nI_eq (a := c) (b := 45) (by omega) (by decide)).mp c6) (fun q => absurd (hb.symm.trans (by rw [q])) (by decide))
              · -- on 36
                refine J_iload_n dX12_isSign_36 rfl ?_
                refine J_bipush (v := 40) dX12_isSign_37 (by decide) ?_
                refine J_icmp_eq (tgt := 48) dX12_isSign_39 (by decide) (fun c7 => ?_) (fun c7 => ?_)
                · -- to 48
                  exact absurd ((nI_eq (a := c) (b := 40) (by omega) (by decide)).mp c7) (fun q => absurd (hb.symm.trans (by rw [q])) (by decide))
                · -- on 42
                  refine J_iload_n dX12_isSign_42 rfl ?_
                  refine J_bipush (v := 41) dX12_isSign_43 (by decide) ?_
                  refine J_icmp_ne (tgt := 52) dX12_isSign_45 (by decide) (fun c8 => ?_) (fun c8 => ?_)
                  · -- to 52
                    refine J_iconst (v := 0) dX12_isSign_52 (by decide) ?_
                    refine M_zret dX12_isSign_53 rfl (by first | assumption | exact Or.inl rfl | exact Or.inr rfl) ?_
                    exact h0 hb
                  · -- on 48
                    exact absurd ((nI_eq (a := c) (b := 41) (by omega) (by decide)).mp c8) (fun q => absurd (hb.symm.trans (by rw [q])) (by decide))
  · have hh := sgn_e hb
    rcases hh with rfl | rfl | rfl | rfl | rfl | rfl | rfl | rfl
    ·
      refine J_iload_n dX12_isSign_0 rfl ?_
      refine J_bipush (v := 59) dX12_isSign_1 (by decide) ?_
      refine J_icmp_eq (tgt := 48) dX12_isSign_3 (by decide) (fun c1 => ?_) (fun c1 => ?_)
      · -- to 48
        refine J_iconst (v := 1) dX12_isSign_48 (by decide) ?_
        refine J_goto (tgt := 53) dX12_isSign_49 (by decide) ?_
        refine M_zret dX12_isSign_53 rfl (by first | assumption | exact Or.inl rfl | exact Or.inr rfl) ?_
        exact h1 hb
      · -- on 6
        exact absurd c1 (by decide)
    ·
      refine J_iload_n dX12_isSign_0 rfl ?_
      refine J_bipush (v := 59) dX12_isSign_1 (by decide) ?_
      refine J_icmp_eq (tgt := 48) dX12_isSign_3 (by decide) (fun c1 => ?_) (fun c1 => ?_)
      · -- to 48
        exact absurd c1 (by decide)
      · -- on 6
        refine J_iload_n dX12_isSign_6 rfl ?_
        refine J_bipush (v := 61) dX12_isSign_7 (by decide) ?_
        refine J_icmp_eq (tgt := 48) dX12_isSign_9 (by decide) (fun c2 => ?_) (fun c2 => ?_)
        · -- to 48
          refine J_iconst (v := 1) dX12_isSign_48 (by decide) ?_
          refine J_goto (tgt := 53) dX12_isSign_49 (by decide) ?_
          refine M_zret dX12_isSign_53 rfl (by first | assumption | exact Or.inl rfl | exact Or.inr rfl) ?_
          exact h1 hb
        · -- on 12
          exact absurd c2 (by decide)
    ·
      refine J_iload_n dX12_isSign_0 rfl ?_
      refine J_bipush (v := 59) dX12_isSign_1 (by decide) ?_
      refine J_icmp_eq (tgt := 48) dX12_isSign_3 (by decide) (fun c1 => ?_) (fun c1 => ?_)
      · -- to 48
        exact absurd c1 (by decide)
      · -- on 6
        refine J_iload_n dX12_isSign_6 rfl ?_
        refine J_bipush (v := 61) dX12_isSign_7 (by decide) ?_
        refine J_icmp_eq (tgt := 48) dX12_isSign_9 (by decide) (fun c2 => ?_) (fun c2 => ?_)
        · -- to 48
          exact absurd c2 (by decide)
        · -- on 12
          refine J_iload_n dX12_isSign_12 rfl ?_
          refine J_bipush (v := 60) dX12_isSign_13 (by decide) ?_
          refine J_icmp_eq (tgt := 48) dX12_isSign_15 (by decide) (fun c3 => ?_) (fun c3 => ?_)
          · -- to 48
            refine J_iconst (v := 1) dX12_isSign_48 (by decide) ?_
            refine J_goto (tgt := 53) dX12_isSign_49 (by decide) ?_
            refine M_zret dX12_isSign_53 rfl (by first | assumption | exact Or.inl rfl | exact Or.inr rfl) ?_
            exact h1 hb
          · -- on 18
            exact absurd c3 (by decide)
    ·
      refine J_iload_n dX12_isSign_0 rfl ?_
      refine J_bipush (v := 59) dX12_isSign_1 (by decide) ?_
      refine J_icmp_eq (tgt := 48) dX12_isSign_3 (by decide) (fun c1 => ?_) (fun c1 => ?_)
      · -- to 48
        exact absurd c1 (by decide)
      · -- on 6
        refine J_iload_n dX12_isSign_6 rfl ?_
        refine J_bipush (v := 61) dX12_isSign_7 (by decide) ?_
        refine J_icmp_eq (tgt := 48) dX12_isSign_9 (by decide) (fun c2 => ?_) (fun c2 => ?_)
        · -- to 48
          exact absurd c2 (by decide)
        · -- on 12
          refine J_iload_n dX12_isSign_12 rfl ?_
          refine J_bipush (v := 60) dX12_isSign_13 (by decide) ?_
          refine J_icmp_eq (tgt := 48) dX12_isSign_15 (by decide) (fun c3 => ?_) (fun c3 => ?_)
          · -- to 48
            exact absurd c3 (by decide)
          · -- on 18
            refine J_iload_n dX12_isSign_18 rfl ?_
            refine J_bipush (v := 62) dX12_isSign_19 (by decide) ?_
            refine J_icmp_eq (tgt := 48) dX12_isSign_21 (by decide) (fun c4 => ?_) (fun c4 => ?_)
            · -- to 48
              refine J_iconst (v := 1) dX12_isSign_48 (by decide) ?_
              refine J_goto (tgt := 53) dX12_isSign_49 (by decide) ?_
              refine M_zret dX12_isSign_53 rfl (by first | assumption | exact Or.inl rfl | exact Or.inr rfl) ?_
              exact h1 hb
            · -- on 24
              exact absurd c4 (by decide)
    ·
      refine J_iload_n dX12_isSign_0 rfl ?_
      refine J_bipush (v := 59) dX12_isSign_1 (by decide) ?_
      refine J_icmp_eq (tgt := 48) dX12_isSign_3 (by decide) (fun c1 => ?_) (fun c1 => ?_)
      · -- to 48
        exact absurd c1 (by decide)
      · -- on 6
        refine J_iload_n dX12_isSign_6 rfl ?_
        refine J_bipush (v := 61) dX12_isSign_7 (by decide) ?_
        refine J_icmp_eq (tgt := 48) dX12_isSign_9 (by decide) (fun c2 => ?_) (fun c2 => ?_)
        · -- to 48
          exact absurd c2 (by decide)
        · -- on 12
          refine J_iload_n dX12_isSign_12 rfl ?_
          refine J_bipush (v := 60) dX12_isSign_13 (by decide) ?_
          refine J_icmp_eq (tgt := 48) dX12_isSign_15 (by decide) (fun c3 => ?_) (fun c3 => ?_)
          · -- to 48
            exact absurd c3 (by decide)
          · -- on 18
            refine J_iload_n dX12_isSign_18 rfl ?_
            refine J_bipush (v := 62) dX12_isSign_19 (by decide) ?_
            refine J_icmp_eq (tgt := 48) dX12_isSign_21 (by decide) (fun c4 => ?_) (fun c4 => ?_)
            · -- to 48
              exact absurd c4 (by decide)
            · -- on 24
              refine J_iload_n dX12_isSign_24 rfl ?_
              refine J_bipush (v := 43) dX12_isSign_25 (by decide) ?_
              refine J_icmp_eq (tgt := 48) dX12_isSign_27 (by decide) (fun c5 => ?_) (fun c5 => ?_)
              · -- to 48
                refine J_iconst (v := 1) dX12_isSign_48 (by decide) ?_
                refine J_goto (tgt := 53) dX12_isSign_49 (by decide) ?_
                refine M_zret dX12_isSign_53 rfl (by first | assumption | exact Or.inl rfl | exact Or.inr rfl) ?_
                exact h1 hb
              · -- on 30
                exact absurd c5 (by decide)
    ·
      refine J_iload_n dX12_isSign_0 rfl ?_
      refine J_bipush (v := 59) dX12_isSign_1 (by decide) ?_
      refine J_icmp_eq (tgt := 48) dX12_isSign_3 (by decide) (fun c1 => ?_) (fun c1 => ?_)
      · -- to 48
        exact absurd c1 (by decide)
      · -- on 6
        refine J_iload_n dX12_isSign_6 rfl ?_
        refine J_bipush (v := 61) dX12_isSign_7 (by decide) ?_
        refine J_icmp_eq (tgt := 48) dX12_isSign_9 (by decide) (fun c2 => ?_) (fun c2 => ?_)
        · -- to 48
          exact absurd c2 (by decide)
        · -- on 12
          refine J_iload_n dX12_isSign_12 rfl ?_
          refine J_bipush (v := 60) dX12_isSign_13 (by decide) ?_
          refine J_icmp_eq (tgt := 48) dX12_isSign_15 (by decide) (fun c3 => ?_) (fun c3 => ?_)
          · -- to 48
            exact absurd c3 (by decide)
          · -- on 18
            refine J_iload_n dX12_isSign_18 rfl ?_
            refine J_bipush (v := 62) dX12_isSign_19 (by decide) ?_
            refine J_icmp_eq (tgt := 48) dX12_isSign_21 (by decide) (fun c4 => ?_) (fun c4 => ?_)
            · -- to 48
              exact absurd c4 (by decide)
            · -- on 24
              refine J_iload_n dX12_isSign_24 rfl ?_
              refine J_bipush (v := 43) dX12_isSign_25 (by decide) ?_
              refine J_icmp_eq (tgt := 48) dX12_isSign_27 (by decide) (fun c5 => ?_) (fun c5 => ?_)
              · -- to 48
                exact absurd c5 (by decide)
              · -- on 30
                refine J_iload_n dX12_isSign_30 rfl ?_
                refine J_bipush (v := 45) dX12_isSign_31 (by decide) ?_
                refine J_icmp_eq (tgt := 48) dX12_isSign_33 (by decide) (fun c6 => ?_) (fun c6 => ?_)
                · -- to 48
                  refine J_iconst (v := 1) dX12_isSign_48 (by decide) ?_
                  refine J_goto (tgt := 53) dX12_isSign_49 (by decide) ?_
                  refine M_zret dX12_isSign_53 rfl (by first | assumption | exact Or.inl rfl | exact Or.inr rfl) ?_
                  exact h1 hb
                · -- on 36
                  exact absurd c6 (by decide)
    ·
      refine J_iload_n dX12_isSign_0 rfl ?_
      refine J_bipush (v := 59) dX12_isSign_1 (by decide) ?_
      refine J_icmp_eq (tgt := 48) dX12_isSign_3 (by decide) (fun c1 => ?_) (fun c1 => ?_)
      · -- to 48
        exact absurd c1 (by decide)
      · -- on 6
        refine J_iload_n dX12_isSign_6 rfl ?_
        refine J_bipush (v := 61) dX12_isSign_7 (by decide) ?_
        refine J_icmp_eq (tgt := 48) dX12_isSign_9 (by decide) (fun c2 => ?_) (fun c2 => ?_)
        · -- to 48
          exact absurd c2 (by decide)
        · -- on 12
          refine J_iload_n dX12_isSign_12 rfl ?_
          refine J_bipush (v := 60) dX12_isSign_13 (by decide) ?_
          refine J_icmp_eq (tgt := 48) dX12_isSign_15 (by decide) (fun c3 => ?_) (fun c3 => ?_)
          · -- to 48
            exact absurd c3 (by decide)
          · -- on 18
            refine J_iload_n dX12_isSign_18 rfl ?_
            refine J_bipush (v := 62) dX12_isSign_19 (by decide) ?_
            refine J_icmp_eq (tgt := 48) dX12_isSign_21 (by decide) (fun c4 => ?_) (fun c4 => ?_)
            · -- to 48
              exact absurd c4 (by decide)
            · -- on 24
              refine J_iload_n dX12_isSign_24 rfl ?_
              refine J_bipush (v := 43) dX12_isSign_25 (by decide) ?_
              refine J_icmp_eq (tgt := 48) dX12_isSign_27 (by decide) (fun c5 => ?_) (fun c5 => ?_)
              · -- to 48
                exact absurd c5 (by decide)
              · -- on 30
                refine J_iload_n dX12_isSign_30 rfl ?_
                refine J_bipush (v := 45) dX12_isSign_31 (by decide) ?_
                refine J_icmp_eq (tgt := 48) dX12_isSign_33 (by decide) (fun c6 => ?_) (fun c6 => ?_)
                · -- to 48
                  exact absurd c6 (by decide)
                · -- on 36
                  refine J_iload_n dX12_isSign_36 rfl ?_
                  refine J_bipush (v := 40) dX12_isSign_37 (by decide) ?_
                  refine J_icmp_eq (tgt := 48) dX12_isSign_39 (by decide) (fun c7 => ?_) (fun c7 => ?_)
                  · -- to 48
                    refine J_iconst (v := 1) dX12_isSign_48 (by decide) ?_
                    refine J_goto (tgt := 53) dX12_isSign_49 (by decide) ?_
                    refine M_zret dX12_isSign_53 rfl (by first | assumption | exact Or.inl rfl | exact Or.inr rfl) ?_
                    exact h1 hb
                  · -- on 42
                    exact absurd c7 (by decide)
    ·
      refine J_iload_n dX12_isSign_0 rfl ?_
      refine J_bipush (v := 59) dX12_isSign_1 (by decide) ?_
      refine J_icmp_eq (tgt := 48) dX12_isSign_3 (by decide) (fun c1 => ?_) (fun c1 => ?_)
      · -- to 48
        exact absurd c1 (by decide)
      · -- on 6
        refine J_iload_n dX12_isSign_6 rfl ?_
        refine J_bipush (v := 61) dX12_isSign_7 (by decide) ?_
        refine J_icmp_eq (tgt := 48) dX12_isSign_9 (by decide) (fun c2 => ?_) (fun c2 => ?_)
        · -- to 48
          exact absurd c2 (by decide)
        · -- on 12
          refine J_iload_n dX12_isSign_12 rfl ?_
          refine J_bipush (v := 60) dX12_isSign_13 (by decide) ?_
          refine J_icmp_eq (tgt := 48) dX12_isSign_15 (by decide) (fun c3 => ?_) (fun c3 => ?_)
          · -- to 48
            exact absurd c3 (by decide)
          · -- on 18
            refine J_iload_n dX12_isSign_18 rfl ?_
            refine J_bipush (v := 62) dX12_isSign_19 (by decide) ?_
            refine J_icmp_eq (tgt := 48) dX12_isSign_21 (by decide) (fun c4 => ?_) (fun c4 => ?_)
            · -- to 48
              exact absurd c4 (by decide)
            · -- on 24
              refine J_iload_n dX12_isSign_24 rfl ?_
              refine J_bipush (v := 43) dX12_isSign_25 (by decide) ?_
              refine J_icmp_eq (tgt := 48) dX12_isSign_27 (by decide) (fun c5 => ?_) (fun c5 => ?_)
              · -- to 48
                exact absurd c5 (by decide)
              · -- on 30
                refine J_iload_n dX12_isSign_30 rfl ?_
                refine J_bipush (v := 45) dX12_isSign_31 (by decide) ?_
                refine J_icmp_eq (tgt := 48) dX12_isSign_33 (by decide) (fun c6 => ?_) (fun c6 => ?_)
                · -- to 48
                  exact absurd c6 (by decide)
                · -- on 36
                  refine J_iload_n dX12_isSign_36 rfl ?_
                  refine J_bipush (v := 40) dX12_isSign_37 (by decide) ?_
                  refine J_icmp_eq (tgt := 48) dX12_isSign_39 (by decide) (fun c7 => ?_) (fun c7 => ?_)
                  · -- to 48
                    exact absurd c7 (by decide)
                  · -- on 42
                    refine J_iload_n dX12_isSign_42 rfl ?_
                    refine J_bipush (v := 41) dX12_isSign_43 (by decide) ?_
                    refine J_icmp_ne (tgt := 52) dX12_isSign_45 (by decide) (fun c8 => ?_) (fun c8 => ?_)
                    · -- to 52
                      exact absurd c8 (by decide)
                    · -- on 48
                      refine J_iconst (v := 1) dX12_isSign_48 (by decide) ?_
                      refine J_goto (tgt := 53) dX12_isSign_49 (by decide) ?_
                      refine M_zret dX12_isSign_53 rfl (by first | assumption | exact Or.inl rfl | exact Or.inr rfl) ?_
                      exact h1 hb

set_option maxRecDepth 100000 in
set_option maxHeartbeats 1000000 in
theorem tM_nx_end {d : Nat} {M : Mem} {Φ : Option Int32 → Mem → Prop} {n : Nat} {T : Nat → Nat} {s : Nat} {g0 g : Nat → Int32} {w : Int64} (hnb : n ≤ 1000) (hT : ∀ i, M.1 81 i = nI (T i) ∧ T i < 256) (hq0 : n ≤ s) (hsn : s ≤ 1000) (ha : g 29 = nI s) (hs : g 30 = nI n) (ho : ∀ i, i ≠ 29 → g i = g0 i) (h : ∀ g2 w2, TkR g0 g2 w2 (if n ≤ s then (0, 0, s, s) else lexT.lexA T n s) → Φ none (RM M g2 w2)) : JM noRo (d + 2) mX12_next 33 [some (.ref 62)] [] (RM M g w) Φ := by
  refine J_aload_n dX12_next_33 rfl ?_
  refine J_aload_n dX12_next_34 rfl ?_
  refine M_getI dX12_next_35 fX12_157 rfl rfl (by decide) ?_
  rw [RM_g, ha]
  refine M_putI dX12_next_38 pX12_167 rfl rfl (by decide) ?_
  rw [RM_wr]
  refine J_aload_n dX12_next_41 rfl ?_
  refine J_iconst (v := 0) dX12_next_42 (by decide) ?_
  refine M_callV1 (mc := mX12_here) dX12_next_43 kX12_163 oX12_here (Nat.le_of_ble_eq_true rfl) (Nat.le_of_ble_eq_true rfl) rfl (by decide) rfl ?_
  refine tX12_here0 hnb hT (by rw [updN (by decide)]; exact ha) (by rw [updN (by decide)]; exact hs) (by omega) (fun hq => absurd hq (by omega)) (fun hq => ?_)
  refine J_istore_n dX12_next_46 (by decide) rfl ?_
  dsimp only [setL]
  refine J_iconst (v := 0) dX12_next_47 (by decide) ?_
  refine J_istore_n dX12_next_48 (by decide) rfl ?_
  dsimp only [setL]
  refine J_aload_n dX12_next_49 rfl ?_
  refine J_lconst (v := 0) dX12_next_50 (by decide) ?_
  refine M_putL dX12_next_51 pX12_170 rfl rfl (u62 rfl) (by decide) ?_
  rw [RM_wl]
  refine J_aload_n dX12_next_54 rfl ?_
  refine J_iconst (v := 0) dX12_next_55 (by decide) ?_
  refine M_putI dX12_next_56 pX12_174 rfl rfl (by decide) ?_
  rw [RM_wr]
  refine J_iload_n dX12_next_59 rfl ?_
  refine J_if_ge (tgt := 71) dX12_next_60 (by decide) (fun c2 => ?_) (fun c2 => ?_)
  · -- to 71
    exact absurd c2 (by decide)
  · -- on 63
    refine J_aload_n dX12_next_63 rfl ?_
    refine J_iconst (v := 0) dX12_next_64 (by decide) ?_
    refine M_putI dX12_next_65 pX12_177 rfl rfl (by decide) ?_
    rw [RM_wr]
    refine J_goto (tgt := 245) dX12_next_68 (by decide) ?_
    refine J_aload_n dX12_next_245 rfl ?_
    refine M_getI dX12_next_246 fX12_177 rfl rfl (by decide) ?_
    rw [RM_g, updS]
    refine J_iconst (v := 3) dX12_next_249 (by decide) ?_
    refine J_icmp_eq (tgt := 263) dX12_next_250 (by decide) (fun c3 => ?_) (fun c3 => ?_)
    · -- to 263
      exact absurd c3 (by decide)
    · -- on 253
      refine J_aload_n dX12_next_253 rfl ?_
      refine J_dup dX12_next_254 rfl ?_
      refine M_getI dX12_next_255 fX12_157 rfl rfl (by decide) ?_
      rw [RM_g, updN (by decide), updN (by decide), updN (by decide), ha]
      refine J_iload_n dX12_next_258 rfl ?_
      refine J_iadd dX12_next_259 ?_
      rw [Int32.add_zero]
      refine M_putI dX12_next_260 pX12_157 rfl rfl (by decide) ?_
      rw [RM_wr]
      refine M_vret dX12_next_263 rfl ?_
      rw [if_pos hq0] at h
      refine h _ _ ⟨fun i q1 q2 q3 q4 => by rw [updN q1, updN q2, updN q4, updN q3]; exact ho i q1, ?_, ?_, fun _ => ?_, fun q => absurd (show (0 : Nat) = 2 from q) (by decide), fun q => absurd (show (0 : Nat) = 3 ∨ (14 ≤ 0 ∧ 0 < 19) from q) (by decide)⟩
      · rw [updN (by decide), updN (by decide), updN (by decide), updS]
      · rw [updN (by decide), updS]; rfl
      · rw [updS]
def p256 : Nat → Nat
  | 0 => 1
  | k + 1 => p256 k * 256
theorem fo_l2 {f : Nat → Nat} (k : Nat) : (∀ i, i < k + 1 → f i ≤ 122) → (fo f (k + 1) + 1) ≤ 123 * p256 k := by
  induction k with
  | zero =>
    intro h
    have y := h 0 (by omega)
    have e : fo f 1 = 0 * 256 + f 0 := rfl
    have e2 : p256 0 = 1 := rfl
    rw [e, e2]
    omega
  | succ k ih =>
    intro h
    have z := ih (fun i hi => h i (by omega))
    have y := h (k + 1) (by omega)
    have e : fo f (k + 1 + 1) = fo f (k + 1) * 256 + f (k + 1) := rfl
    have e2 : p256 (k + 1) = p256 k * 256 := rfl
    rw [e, e2]
    generalize fo f (k + 1) = A at z ⊢
    generalize p256 k = P at z ⊢
    omega
theorem p256_le {k : Nat} (h : k ≤ 7) : p256 k ≤ 72057594037927936 := by
  match k, h with
  | 0, _ => decide
  | 1, _ => decide
  | 2, _ => decide
  | 3, _ => decide
  | 4, _ => decide
  | 5, _ => decide
  | 6, _ => decide
  | 7, _ => decide
  | k + 8, q => exact absurd q (by omega)
theorem wn63 {f : Nat → Nat} {j : Nat} (hj : j ≤ 8) (h : ∀ i, i < j → f i ≤ 122) : fo f j < 9223372036854775808 := by
  cases j with
  | zero => show 0 < 9223372036854775808; decide
  | succ j =>
    have z := fo_l2 j h
    have y := p256_le (k := j) (by omega)
    omega
set_option maxRecDepth 100000 in
set_option maxHeartbeats 1000000 in
theorem tM_nx_we {d : Nat} {M : Mem} {Φ : Option Int32 → Mem → Prop} {n : Nat} {T : Nat → Nat} {s j : Nat} {c : Int32} {g0 g : Nat → Int32} {w2 : Int64} (hnb : n ≤ 1000) (hT : ∀ i, M.1 81 i = nI (T i) ∧ T i < 256) (hsn : s < n) (hl : ltr (T s) = true) (ha : g 29 = nI s) (hs : g 30 = nI n) (ho : ∀ i, i ≠ 29 → g i = g0 i) (hj : s + j = rnP aln T (n - s) s) (a2 : j ≤ 8 → w2 = Int64.ofNat (wn T s j)) (h : ∀ g2 w2, TkR g0 g2 w2 (lexT.lexA T n s) → Φ none (RM M g2 w2)) : JM noRo (d + 2) mX12_next 130 [some (.ref 62), some (.int c), some (.int (nI j))] [] (RM M (upd (upd g 32 (nI s)) 33 0) w2) Φ := by
  have hr := rn_at (P := aln) (T := T) (n - s) s
  have hA : ∀ i, s ≤ i → i < s + j → aln (T i) = true := by rw [hj]; exact hr.2.2.1
  have hjn : s + j ≤ n := by omega
  rw [lexT.lexA, if_pos hl, ← hj, Nat.add_sub_cancel_left] at h
  by_cases h8 : 8 < j
  · rw [if_pos h8] at h
    refine J_aload_n dX12_next_130 rfl ?_
    refine J_iload_n dX12_next_131 rfl ?_
    refine J_bipush (v := 8) dX12_next_132 (by decide) ?_
    refine J_icmp_le (tgt := 141) dX12_next_134 (by decide) (fun c1 => ?_) (fun c1 => ?_)
    · -- to 141
      exact absurd c1 (nI_ge (a := 8) (by omega) (by omega))
    · -- on 137
      refine J_iconst (v := 3) dX12_next_137 (by decide) ?_
      refine J_goto (tgt := 142) dX12_next_138 (by decide) ?_
      refine M_putI dX12_next_142 pX12_177 rfl rfl (by decide) ?_
      rw [RM_wr]
      refine J_goto (tgt := 245) dX12_next_145 (by decide) ?_
      refine J_aload_n dX12_next_245 rfl ?_
      refine M_getI dX12_next_246 fX12_177 rfl rfl (by decide) ?_
      rw [RM_g, updS]
      refine J_iconst (v := 3) dX12_next_249 (by decide) ?_
      refine J_icmp_eq (tgt := 263) dX12_next_250 (by decide) (fun c2 => ?_) (fun c2 => ?_)
      · -- to 263
        refine M_vret dX12_next_263 rfl ?_
        exact h _ _ ⟨fun i q1 q2 q3 q4 => by rw [updN q2, updN q4, updN q3]; exact ho i q1, by rw [updN (by decide), updN (by decide), updS], updS, fun q => absurd rfl q, fun q => absurd (show (1 : Nat) = 2 from q) (by decide), fun q => absurd (show (1 : Nat) = 3 ∨ (14 ≤ 1 ∧ 1 < 19) from q) (by decide)⟩
      · -- on 253
        exact absurd rfl c2
  · rw [if_neg h8] at h
    have h8 : j ≤ 8 := by omega
    refine J_aload_n dX12_next_130 rfl ?_
    refine J_iload_n dX12_next_131 rfl ?_
    refine J_bipush (v := 8) dX12_next_132 (by decide) ?_
    refine J_icmp_le (tgt := 141) dX12_next_134 (by decide) (fun c1 => ?_) (fun c1 => ?_)
    · -- to 141
      refine J_iconst (v := 1) dX12_next_141 (by decide) ?_
      refine M_putI dX12_next_142 pX12_177 rfl rfl (by decide) ?_
      rw [RM_wr]
      refine J_goto (tgt := 245) dX12_next_145 (by decide) ?_
      refine J_aload_n dX12_next_245 rfl ?_
      refine M_getI dX12_next_246 fX12_177 rfl rfl (by decide) ?_
      rw [RM_g, updS]
      refine J_iconst (v := 3) dX12_next_249 (by decide) ?_
      refine J_icmp_eq (tgt := 263) dX12_next_250 (by decide) (fun c2 => ?_) (fun c2 => ?_)
      · -- to 263
        exact absurd c2 (by decide)
      · -- on 253
        refine J_aload_n dX12_next_253 rfl ?_
        refine J_dup dX12_next_254 rfl ?_
        refine M_getI dX12_next_255 fX12_157 rfl rfl (by decide) ?_
        rw [RM_g, updN (by decide), updN (by decide), updN (by decide), ha]
        refine J_iload_n dX12_next_258 rfl ?_
        refine J_iadd dX12_next_259 ?_
        rw [nI_add]
        refine M_putI dX12_next_260 pX12_157 rfl rfl (by decide) ?_
        rw [RM_wr]
        refine M_vret dX12_next_263 rfl ?_
        unfold lexT.lexW at h
        have hf := fnd_at (N := wn T s j) 19 0
        have hN63 : wn T s j < 2 ^ 63 := by
          show _ < 9223372036854775808
          unfold wn
          exact wn63 h8 (fun i hi => (aln_b (hA (s + i) (by omega) (by omega))).2)
        generalize hw0 : fnd (wn T s j) 19 0 = w0 at h hf
        by_cases k1 : w0 < 14
        · rw [if_pos k1] at h
          exact h _ _ ⟨fun i q1 q2 q3 q4 => by rw [updN q1, updN q2, updN q4, updN q3]; exact ho i q1, by rw [updN (by decide), updN (by decide), updN (by decide), updS], by rw [updN (by decide), updS]; rfl, fun _ => updS, fun q => absurd (show (3 : Nat) = 2 from q) (by decide), fun _ => ⟨_, hN63, a2 h8, by rw [hw0]; rfl⟩⟩
        · rw [if_neg k1] at h
          by_cases k2 : w0 = 99
          · rw [if_pos k2] at h
            exact h _ _ ⟨fun i q1 q2 q3 q4 => by rw [updN q1, updN q2, updN q4, updN q3]; exact ho i q1, by rw [updN (by decide), updN (by decide), updN (by decide), updS], by rw [updN (by decide), updS]; rfl, fun _ => updS, fun q => absurd (show (3 : Nat) = 2 from q) (by decide), fun _ => ⟨_, hN63, a2 h8, by rw [hw0, k2]; rfl⟩⟩
          · rw [if_neg k2] at h
            have hf2 := hf.resolve_left k2
            have e3 : srt w0 = 1 := by
              unfold srt
              rw [if_neg (by omega), if_neg (by omega), if_neg (by omega), if_pos (by omega)]
            exact h _ _ ⟨fun i q1 q2 q3 q4 => by rw [updN q1, updN q2, updN q4, updN q3]; exact ho i q1, by rw [updN (by decide), updN (by decide), updN (by decide), updS], by rw [updN (by decide), updS]; exact e3.symm, fun _ => updS, fun q => absurd (show w0 = 2 from q) (by omega), fun _ => ⟨_, hN63, a2 h8, by rw [hw0]; exact (if_neg (by show ¬ w0 = 3; omega)).symm⟩⟩
    · -- on 137
      exact absurd (nI_le (b := 8) (by omega) (by decide)) c1
set_option maxRecDepth 100000 in
set_option maxHeartbeats 1000000 in
theorem tM_nx_wd {d : Nat} {M : Mem} {Φ : Option Int32 → Mem → Prop} {n : Nat} {T : Nat → Nat} {s : Nat} {g0 g : Nat → Int32} {w : Int64} (hnb : n ≤ 1000) (hT : ∀ i, M.1 81 i = nI (T i) ∧ T i < 256) (hsn : s < n) (hl : ltr (T s) = true) (ha : g 29 = nI s) (hs : g 30 = nI n) (ho : ∀ i, i ≠ 29 → g i = g0 i) (h : ∀ g2 w2, TkR g0 g2 w2 (lexT.lexA T n s) → Φ none (RM M g2 w2)) : JM noRo (d + 2) mX12_next 33 [some (.ref 62)] [] (RM M g w) Φ := by
  refine J_aload_n dX12_next_33 rfl ?_
  refine J_aload_n dX12_next_34 rfl ?_
  refine M_getI dX12_next_35 fX12_157 rfl rfl (by decide) ?_
  rw [RM_g, ha]
  refine M_putI dX12_next_38 pX12_167 rfl rfl (by decide) ?_
  rw [RM_wr]
  refine J_aload_n dX12_next_41 rfl ?_
  refine J_iconst (v := 0) dX12_next_42 (by decide) ?_
  refine M_callV1 (mc := mX12_here) dX12_next_43 kX12_163 oX12_here (Nat.le_of_ble_eq_true rfl) (Nat.le_of_ble_eq_true rfl) rfl (by decide) rfl ?_
  refine tX12_here0 hnb hT (by rw [updN (by decide)]; exact ha) (by rw [updN (by decide)]; exact hs) (by omega) (fun hq => ?_) (fun hq => absurd (by omega) hq)
  refine J_istore_n dX12_next_46 (by decide) rfl ?_
  dsimp only [setL]
  refine J_iconst (v := 0) dX12_next_47 (by decide) ?_
  refine J_istore_n dX12_next_48 (by decide) rfl ?_
  dsimp only [setL]
  refine J_aload_n dX12_next_49 rfl ?_
  refine J_lconst (v := 0) dX12_next_50 (by decide) ?_
  refine M_putL dX12_next_51 pX12_170 rfl rfl (u62 rfl) (by decide) ?_
  rw [RM_wl]
  refine J_aload_n dX12_next_54 rfl ?_
  refine J_iconst (v := 0) dX12_next_55 (by decide) ?_
  refine M_putI dX12_next_56 pX12_174 rfl rfl (by decide) ?_
  rw [RM_wr]
  refine J_iload_n dX12_next_59 rfl ?_
  refine J_if_ge (tgt := 71) dX12_next_60 (by decide) (fun c2 => ?_) (fun c2 => ?_)
  · -- to 71
    refine J_iload_n dX12_next_71 rfl ?_
    refine M_callS1 (mc := mX12_isLetter) dX12_next_72 kX12_180 oX12_isLetter (Nat.le_of_ble_eq_true rfl) (Nat.le_of_ble_eq_true rfl) ?_
    refine tX12_isLetter (hT _).2 (fun _ => ?_) (fun hl2 => absurd (hl2.symm.trans hl) (by decide))
    refine J_if_eq (tgt := 148) dX12_next_75 (by decide) (fun c4 => ?_) (fun c4 => ?_)
    · -- to 148
      exact absurd c4 (by decide)
    · -- on 78
      refine tM_nx_w (s := s) hnb hT (by rw [updN (by decide), updN (by decide)]; exact ha) (by rw [updN (by decide), updN (by decide)]; exact hs) (n - s) 0 _ (by omega) (fun i h1 h2 => absurd h2 (by omega)) (fun _ => rfl) (fun j2 w2 a1 a2 => ?_)
      rw [Nat.add_zero] at a1
      exact tM_nx_we hnb hT hsn hl ha hs ho a1 a2 h
  · -- on 63
    exact absurd (nI_le (a := 0) (Nat.zero_le _) (by have := (hT s).2; omega)) c2

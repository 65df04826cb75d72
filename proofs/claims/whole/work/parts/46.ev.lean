theorem rem6 {s : Nat} (h : s < 2 ^ 31) : nI s - nI s / 6 * 6 = nI (s % 6) := by rw [show nI s - nI s / 6 * 6 = nI s - nI s / nI 6 * nI 6 from rfl, pk_rem (a := s) (d := 6) h (by decide) (by decide)]
theorem div6 {s : Nat} (h : s < 2 ^ 31) : nI s / 6 = nI (s / 6) := by rw [show nI s / 6 = nI s / nI 6 from rfl, pk_div (a := s) (d := 6) h (by decide) (by decide)]
theorem tM_mayJ {d : Nat} {M : Mem} {Φ : Option Int32 → Mem → Prop} {C st : Nat → Nat} {m L n j f u : Nat} (hW : IW M C st m L n) (hj : j < n) (hf : f < 6) (hu : u < 4) (h1 : mayB M C st m j f u = true → ∀ g s, Φ (some 1) (wa (wa M 84 g) 83 s)) (h0 : mayB M C st m j f u = false → ∀ g s, Φ (some 0) (wa (wa M 84 g) 83 s)) : JM noRo (d + 2) mX12_may 0 [some (.ref 62), some (.int (nI j)), some (.int (nI f)), some (.int (nI u))] [] M Φ := by
  have hn12 := hW.2.2.2.1.1
  refine tM_may hW (fun q => absurd ⟨⟨j, hj, rfl⟩, ⟨f, hf, rfl⟩, ⟨u, hu, rfl⟩⟩ q) (fun j2 f2 u2 a1 a2 a3 e1 e2 e3 g s => ?_)
  have r1 := (nI_eq (by omega) (by omega)).mp e1
  have r2 := (nI_eq (by omega) (by omega)).mp e2
  have r3 := (nI_eq (by omega) (by omega)).mp e3
  subst r1; subst r2; subst r3
  exact bsplit (Ψ := fun r => Φ r (wa (wa M 84 g) 83 s)) (fun e => h1 e g s) (fun e => h0 e g s)
theorem tM_meetJ {d : Nat} {M : Mem} {Φ : Option Int32 → Mem → Prop} {C st : Nat → Nat} {m L n j f o k u : Nat} (hW : IW M C st m L n) (hj : j < n) (ho : o < n) (hjo : j ≠ o) (hf : f < 6) (hk : k < 6) (hu : u < 4) (h1 : meetB M C st m j f o k u = true → ∀ g s, Φ (some 1) (wa (wa M 84 g) 83 s)) (h0 : meetB M C st m j f o k u = false → ∀ g s, Φ (some 0) (wa (wa M 84 g) 83 s)) : JM noRo (d + 3) mX12_meet 0 [some (.ref 62), some (.int (nI j)), some (.int (nI f)), some (.int (nI o)), some (.int (nI k)), some (.int (nI u))] [] M Φ := by
  have hn12 := hW.2.2.2.1.1
  refine tM_meet hW (fun q => absurd ⟨⟨j, hj, rfl⟩, ⟨o, ho, rfl⟩, fun q2 => hjo ((nI_eq (by omega) (by omega)).mp q2), ⟨f, hf, rfl⟩, ⟨k, hk, rfl⟩, ⟨u, hu, rfl⟩⟩ q) (fun j2 f2 o2 k2 u2 a1 a2 a3 a4 a5 a6 e1 e2 e3 e4 e5 g s => ?_)
  have r1 := (nI_eq (by omega) (by omega)).mp e1
  have r2 := (nI_eq (by omega) (by omega)).mp e2
  have r3 := (nI_eq (by omega) (by omega)).mp e3
  have r4 := (nI_eq (by omega) (by omega)).mp e4
  have r5 := (nI_eq (by omega) (by omega)).mp e5
  subst r1; subst r2; subst r3; subst r4; subst r5
  exact bsplit (Ψ := fun r => Φ r (wa (wa M 84 g) 83 s)) (fun e => h1 e g s) (fun e => h0 e g s)
def anyS (M : Mem) (C st : Nat → Nat) (m j : Nat) : Nat → Nat → Bool
  | 0, _ => false
  | k + 1, s => if mayB M C st m j (s % 6) (s / 6) = true then true else anyS M C st m j k (s + 1)
theorem anyS_t {M : Mem} {C st : Nat → Nat} {m j k s : Nat} (h : mayB M C st m j (s % 6) (s / 6) = true) : anyS M C st m j (k + 1) s = true := by rw [anyS, if_pos h]
theorem anyS_f {M : Mem} {C st : Nat → Nat} {m j k s : Nat} (h : mayB M C st m j (s % 6) (s / 6) = false) : anyS M C st m j (k + 1) s = anyS M C st m j k (s + 1) := by rw [anyS, if_neg (by rw [h]; decide)]
def stk (M : Mem) (C st : Nat → Nat) (m : Nat) : Nat → Nat → Int32
  | 0, _ => -1
  | k + 1, j => if M.1 66 j = 0 ∧ anyS M C st m j 24 0 = false then nI j else stk M C st m k (j + 1)
theorem stk_y {M : Mem} {C st : Nat → Nat} {m k j : Nat} (h : M.1 66 j = 0) (h2 : anyS M C st m j 24 0 = false) : stk M C st m (k + 1) j = nI j := by rw [stk, if_pos ⟨h, h2⟩]
theorem stk_1 {M : Mem} {C st : Nat → Nat} {m k j : Nat} (h : ¬ M.1 66 j = 0) : stk M C st m (k + 1) j = stk M C st m k (j + 1) := by rw [stk, if_neg (fun q => h q.1)]
theorem stk_2 {M : Mem} {C st : Nat → Nat} {m k j : Nat} (h : anyS M C st m j 24 0 = true) : stk M C st m (k + 1) j = stk M C st m k (j + 1) := by rw [stk, if_neg (fun q => absurd (h.symm.trans q.2) (by decide))]
theorem vwC {M : Mem} {g t : Nat → Int32} : Vw M (wa (wa M 28 g) 24 t) := (Vw.rf.ca (by decide) (by decide)).ca (by decide) (by decide)
theorem vwR {M : Mem} {g t : Nat → Int32} : Vw M (wa (wa M 84 g) 83 t) := (Vw.rf.ca (by decide) (by decide)).ca (by decide) (by decide)
set_option maxRecDepth 100000 in
set_option maxHeartbeats 1000000 in
theorem tX11_any_l {d : Nat} {M : Mem} {Φ : Option Int32 → Mem → Prop} {C st : Nat → Nat} {m L n : Nat} {j : Nat} (hW : IW M C st m L n) (hj : j < 12) : ∀ k s g t, s + k = 24 → (∀ g t, Φ (some (if anyS M C st m j k s = true then 1 else 0)) (wa (wa M 28 g) 24 t)) → JM noRo (d + 3) mX11_mayBeAnywhere 2 [some (.ref 0), some (.int (nI j)), some (.int (nI s))] [] (wa (wa M 28 g) 24 t) Φ := by
  intro k
  induction k with
  | zero =>
    intro s g t hs h
    refine J_iload_n dX11_mayBeAnywhere_2 rfl ?_
    refine J_bipush (v := 24) dX11_mayBeAnywhere_3 (by decide) ?_
    refine J_icmp_ge (tgt := 39) dX11_mayBeAnywhere_5 (by decide) (fun c1 => ?_) (fun c1 => ?_)
    · -- to 39
      refine J_iconst (v := 0) dX11_mayBeAnywhere_39 (by decide) ?_
      refine M_zret dX11_mayBeAnywhere_40 rfl (by first | assumption | exact Or.inl rfl | exact Or.inr rfl) ?_
      exact h _ _
    · -- on 8
      exact absurd (nI_le (a := 24) (by omega) (by omega)) c1
  | succ k ih =>
    intro s g t hs h
    refine J_iload_n dX11_mayBeAnywhere_2 rfl ?_
    refine J_bipush (v := 24) dX11_mayBeAnywhere_3 (by decide) ?_
    refine J_icmp_ge (tgt := 39) dX11_mayBeAnywhere_5 (by decide) (fun c1 => ?_) (fun c1 => ?_)
    · -- to 39
      exact absurd c1 (nI_ge (b := 24) (by omega) (by decide))
    · -- on 8
      refine J_aload_n dX11_mayBeAnywhere_8 rfl ?_
      refine M_getR dX11_mayBeAnywhere_9 fX11_59 rfl rfl (by decide) ?_
      refine J_iload_n dX11_mayBeAnywhere_12 rfl ?_
      refine J_iload_n dX11_mayBeAnywhere_13 rfl ?_
      refine M_callS1 (mc := mX11_fieldOf) dX11_mayBeAnywhere_14 kX11_191 oX11_fieldOf (Nat.le_of_ble_eq_true rfl) (Nat.le_of_ble_eq_true rfl) ?_
      refine tX11_fieldOf (by omega) ?_
      refine J_iload_n dX11_mayBeAnywhere_17 rfl ?_
      refine M_callS1 (mc := mX11_hourOf) dX11_mayBeAnywhere_18 kX11_188 oX11_hourOf (Nat.le_of_ble_eq_true rfl) (Nat.le_of_ble_eq_true rfl) ?_
      refine tX11_hourOf (by omega) ?_
      refine J_aload_n dX11_mayBeAnywhere_21 rfl ?_
      refine M_getI dX11_mayBeAnywhere_22 fX11_97 rfl rfl (by decide) ?_
      refine M_callV4 (mc := mX2_mayBe) dX11_mayBeAnywhere_25 kX11_170 oX2_mayBe (Nat.le_of_ble_eq_true rfl) (Nat.le_of_ble_eq_true rfl) rfl (by decide) rfl ?_
      have hN := hW.vw (vwC (g := g) (t := t))
      rw [hN.2.1]
      refine tX2_mayBe hN hj (by omega) (fun hb g2 t2 => ?_) (fun hb g2 t2 => ?_)
      · -- true
        rw [mayB_vw vwC] at hb
        rw [wa4 (by decide)]
        refine J_if_eq (tgt := 33) dX11_mayBeAnywhere_28 (by decide) (fun c5 => ?_) (fun c5 => ?_)
        · -- to 33
          exact absurd c5 (by decide)
        · -- on 31
          refine J_iconst (v := 1) dX11_mayBeAnywhere_31 (by decide) ?_
          refine M_zret dX11_mayBeAnywhere_32 rfl (by first | assumption | exact Or.inl rfl | exact Or.inr rfl) ?_
          rw [anyS_t hb] at h
          exact h _ _
      · -- false
        rw [mayB_vw vwC] at hb
        rw [wa4 (by decide)]
        refine J_if_eq (tgt := 33) dX11_mayBeAnywhere_28 (by decide) (fun c6 => ?_) (fun c6 => ?_)
        · -- to 33
          refine J_iinc (v := nI (s + 1)) dX11_mayBeAnywhere_33 rfl (nI_1 s) (by decide) rfl ?_
          dsimp only [setL]
          refine J_goto (tgt := 2) dX11_mayBeAnywhere_36 (by decide) ?_
          rw [anyS_f hb] at h
          exact ih (s + 1) _ _ (by omega) h
        · -- on 31
          exact absurd c6 (by decide)
set_option maxRecDepth 100000 in
set_option maxHeartbeats 1000000 in
theorem tX11_any {d : Nat} {M : Mem} {Φ : Option Int32 → Mem → Prop} {C st : Nat → Nat} {m L n : Nat} {j : Nat} {g t : Nat → Int32} (hW : IW M C st m L n) (hj : j < 12) (h1 : anyS M C st m j 24 0 = true → ∀ g t, Φ (some 1) (wa (wa M 28 g) 24 t)) (h0 : anyS M C st m j 24 0 = false → ∀ g t, Φ (some 0) (wa (wa M 28 g) 24 t)) : JM noRo (d + 3) mX11_mayBeAnywhere 0 [some (.ref 0), some (.int (nI j))] [] (wa (wa M 28 g) 24 t) Φ := by
  refine J_iconst (v := 0) dX11_mayBeAnywhere_0 (by decide) ?_
  refine J_istore_n dX11_mayBeAnywhere_1 (by decide) rfl ?_
  dsimp only [setL]
  refine tX11_any_l hW hj 24 0 g t (by omega) (fun g2 t2 => ?_)
  exact bsplit (Ψ := fun r => Φ r (wa (wa M 28 g2) 24 t2)) (fun e => h1 e g2 t2) (fun e => h0 e g2 t2)
set_option maxRecDepth 100000 in
set_option maxHeartbeats 1000000 in
theorem tY_stuck_l {d : Nat} {M : Mem} {Φ : Option Int32 → Mem → Prop} {C st : Nat → Nat} {m L n : Nat} (hW : IW M C st m L n) : ∀ k j g t, j + k = n → (∀ g t, Φ (some (stk M C st m k j)) (wa (wa M 28 g) 24 t)) → JM noRo (d + 4) mX11_stuck 2 [some (.ref 0), some (.int (nI j))] [] (wa (wa M 28 g) 24 t) Φ := by
  have hn12 := hW.2.2.2.1.1
  intro k
  induction k with
  | zero =>
    intro j g t hs h
    refine J_iload_n dX11_stuck_2 rfl ?_
    refine J_aload_n dX11_stuck_3 rfl ?_
    refine M_getR dX11_stuck_4 fX11_12 rfl rfl (by decide) ?_
    refine M_callV0 (mc := mX1_count) dX11_stuck_7 kX11_194 oX1_count (Nat.le_of_ble_eq_true rfl) (Nat.le_of_ble_eq_true rfl) rfl (by decide) rfl ?_
    have hN := hW.vw (vwC (g := g) (t := t))
    refine tX1_count ?_
    rw [hN.2.2.2.1.2.1]
    refine J_icmp_ge (tgt := 40) dX11_stuck_10 (by decide) (fun c2 => ?_) (fun c2 => ?_)
    · -- to 40
      refine J_iconst (v := -1) dX11_stuck_40 (by decide) ?_
      refine M_iret dX11_stuck_41 rfl rfl ?_
      exact h _ _
    · -- on 13
      exact absurd (nI_le (by omega) (by omega)) c2
  | succ k ih =>
    intro j g t hs h
    refine J_iload_n dX11_stuck_2 rfl ?_
    refine J_aload_n dX11_stuck_3 rfl ?_
    refine M_getR dX11_stuck_4 fX11_12 rfl rfl (by decide) ?_
    refine M_callV0 (mc := mX1_count) dX11_stuck_7 kX11_194 oX1_count (Nat.le_of_ble_eq_true rfl) (Nat.le_of_ble_eq_true rfl) rfl (by decide) rfl ?_
    have hN := hW.vw (vwC (g := g) (t := t))
    refine tX1_count ?_
    rw [hN.2.2.2.1.2.1]
    refine J_icmp_ge (tgt := 40) dX11_stuck_10 (by decide) (fun c2 => ?_) (fun c2 => ?_)
    · -- to 40
      exact absurd c2 (nI_ge (by omega) (by omega))
    · -- on 13
      refine J_aload_n dX11_stuck_13 rfl ?_
      refine M_getR dX11_stuck_14 fX11_12 rfl rfl (by decide) ?_
      refine J_iload_n dX11_stuck_17 rfl ?_
      refine M_callV1 (mc := mX1_isLame) dX11_stuck_18 kX11_195 oX1_isLame (Nat.le_of_ble_eq_true rfl) (Nat.le_of_ble_eq_true rfl) rfl (by decide) rfl ?_
      refine tX1_isLame (by omega) (hN.l01 j) ?_
      rw [hN.1.2.2.2.1, vwC.1 66 (by decide)]
      refine J_if_ne (tgt := 34) dX11_stuck_21 (by decide) (fun c4 => ?_) (fun c4 => ?_)
      · -- to 34
        refine J_iinc (v := nI (j + 1)) dX11_stuck_34 rfl (nI_1 j) (by decide) rfl ?_
        dsimp only [setL]
        refine J_goto (tgt := 2) dX11_stuck_37 (by decide) ?_
        first
        | (rw [stk_1 c4] at h; exact ih (j + 1) _ _ (by omega) h)
        | (rw [stk_2 hb] at h; exact ih (j + 1) _ _ (by omega) h)
      · -- on 24
        have cL := c4
        refine J_aload_n dX11_stuck_24 rfl ?_
        refine J_iload_n dX11_stuck_25 rfl ?_
        refine M_callV1 (mc := mX11_mayBeAnywhere) dX11_stuck_26 kX11_198 oX11_mayBeAnywhere (Nat.le_of_ble_eq_true rfl) (Nat.le_of_ble_eq_true rfl) rfl (by decide) rfl ?_
        refine tX11_any hW (by omega) (fun hb g t => ?_) (fun hb g t => ?_)
        · -- true
          refine J_if_ne (tgt := 34) dX11_stuck_29 (by decide) (fun c6 => ?_) (fun c6 => ?_)
          · -- to 34
            refine J_iinc (v := nI (j + 1)) dX11_stuck_34 rfl (nI_1 j) (by decide) rfl ?_
            dsimp only [setL]
            refine J_goto (tgt := 2) dX11_stuck_37 (by decide) ?_
            first
            | (rw [stk_1 c6] at h; exact ih (j + 1) _ _ (by omega) h)
            | (rw [stk_2 hb] at h; exact ih (j + 1) _ _ (by omega) h)
          · -- on 32
            exact absurd c6 (by decide)
        · -- false
          refine J_if_ne (tgt := 34) dX11_stuck_29 (by decide) (fun c7 => ?_) (fun c7 => ?_)
          · -- to 34
            exact absurd c7 (by decide)
          · -- on 32
            refine J_iload_n dX11_stuck_32 rfl ?_
            refine M_iret dX11_stuck_33 rfl rfl ?_
            rw [stk_y cL hb] at h
            exact h _ _
set_option maxRecDepth 100000 in
set_option maxHeartbeats 1000000 in
theorem tY_stuck {d : Nat} {M : Mem} {Φ : Option Int32 → Mem → Prop} {C st : Nat → Nat} {m L n : Nat} (hW : IW M C st m L n) (h : ∀ g t, Φ (some (stk M C st m n 0)) (wa (wa M 28 g) 24 t)) : JM noRo (d + 4) mX11_stuck 0 [some (.ref 0)] [] M Φ := by
  refine J_iconst (v := 0) dX11_stuck_0 (by decide) ?_
  refine J_istore_n dX11_stuck_1 (by decide) rfl ?_
  dsimp only [setL]
  have q := tY_stuck_l (d := d) hW n 0 (M.1 28) (M.1 24) (by omega) h
  rw [wa_self, wa_self] at q
  exact q
set_option maxRecDepth 100000 in
set_option maxHeartbeats 1000000 in
theorem tM_stk_x {d : Nat} {M : Mem} {Φ : Option Int32 → Mem → Prop} {j s : Nat} (h : JM noRo (d + 3) mX12_stuck 58 [some (.ref 62), some (.int (nI j)), some (.int 1)] [] M Φ) : JM noRo (d + 3) mX12_stuck 28 [some (.ref 62), some (.int (nI j)), some (.int 1), some (.int (nI s))] [] M Φ := by
  refine J_iload_n dX12_stuck_28 rfl ?_
  refine J_bipush (v := 24) dX12_stuck_29 (by decide) ?_
  refine J_icmp_ge (tgt := 58) dX12_stuck_31 (by decide) (fun c1 => ?_) (fun c1 => ?_)
  · -- to 58
    refine J_dropN 3 ?_
    exact h
  · -- on 34
    refine J_iload_n dX12_stuck_34 rfl ?_
    refine J_if_ne (tgt := 58) dX12_stuck_35 (by decide) (fun c2 => ?_) (fun c2 => ?_)
    · -- to 58
      refine J_dropN 3 ?_
      exact h
    · -- on 38
      exact absurd c2 (by decide)
set_option maxRecDepth 100000 in
set_option maxHeartbeats 1000000 in
theorem tM_stk_i {d : Nat} {M : Mem} {Φ : Option Int32 → Mem → Prop} {C st : Nat → Nat} {m L n : Nat} {j : Nat} (hW : IW M C st m L n) (hj : j < n) : ∀ k s g t, s + k = 24 → (anyS M C st m j k s = true → ∀ g t, JM noRo (d + 3) mX12_stuck 58 [some (.ref 62), some (.int (nI j)), some (.int 1)] [] (wa (wa M 84 g) 83 t) Φ) → (anyS M C st m j k s = false → ∀ g t, JM noRo (d + 3) mX12_stuck 58 [some (.ref 62), some (.int (nI j)), some (.int 0)] [] (wa (wa M 84 g) 83 t) Φ) → JM noRo (d + 3) mX12_stuck 28 [some (.ref 62), some (.int (nI j)), some (.int 0), some (.int (nI s))] [] (wa (wa M 84 g) 83 t) Φ := by
  have hn12 := hW.2.2.2.1.1
  intro k
  induction k with
  | zero =>
    intro s g t hs h1 h0
    refine J_iload_n dX12_stuck_28 rfl ?_
    refine J_bipush (v := 24) dX12_stuck_29 (by decide) ?_
    refine J_icmp_ge (tgt := 58) dX12_stuck_31 (by decide) (fun c1 => ?_) (fun c1 => ?_)
    · -- to 58
      refine J_dropN 3 ?_
      exact h0 rfl _ _
    · -- on 34
      exact absurd (nI_le (a := 24) (by omega) (by omega)) c1
  | succ k ih =>
    intro s g t hs h1 h0
    refine J_iload_n dX12_stuck_28 rfl ?_
    refine J_bipush (v := 24) dX12_stuck_29 (by decide) ?_
    refine J_icmp_ge (tgt := 58) dX12_stuck_31 (by decide) (fun c1 => ?_) (fun c1 => ?_)
    · -- to 58
      exact absurd c1 (nI_ge (b := 24) (by omega) (by decide))
    · -- on 34
      refine J_iload_n dX12_stuck_34 rfl ?_
      refine J_if_ne (tgt := 58) dX12_stuck_35 (by decide) (fun c2 => ?_) (fun c2 => ?_)
      · -- to 58
        exact absurd c2 (by decide)
      · -- on 38
        refine J_aload_n dX12_stuck_38 rfl ?_
        refine J_iload_n dX12_stuck_39 rfl ?_
        refine J_iload_n dX12_stuck_40 rfl ?_
        refine J_bipush (v := 6) dX12_stuck_41 (by decide) ?_
        refine J_irem dX12_stuck_43 (by decide) ?_
        refine J_iload_n dX12_stuck_44 rfl ?_
        refine J_bipush (v := 6) dX12_stuck_45 (by decide) ?_
        refine J_idiv dX12_stuck_47 (by decide) ?_
        refine M_callV3 (mc := mX12_may) dX12_stuck_48 kX12_316 oX12_may (Nat.le_of_ble_eq_true rfl) (Nat.le_of_ble_eq_true rfl) rfl (by decide) rfl ?_
        rw [rem6 (by omega), div6 (by omega)]
        refine tM_mayJ (hW.vw (vwR (g := g) (t := t))) hj (by omega) (by omega) (fun hb g2 t2 => ?_) (fun hb g2 t2 => ?_)
        · -- true
          rw [mayB_vw vwR] at hb
          rw [wa4 (by decide)]
          refine J_istore_n dX12_stuck_51 (by decide) rfl ?_
          dsimp only [setL]
          refine J_iinc (v := nI (s + 1)) dX12_stuck_52 rfl (nI_1 s) (by decide) rfl ?_
          dsimp only [setL]
          refine J_goto (tgt := 28) dX12_stuck_55 (by decide) ?_
          first
          | exact tM_stk_x (h1 (anyS_t hb) _ _)
          | exact ih (s + 1) _ _ (by omega) (fun e => h1 ((anyS_f hb).trans e)) (fun e => h0 ((anyS_f hb).trans e))
        · -- false
          rw [mayB_vw vwR] at hb
          rw [wa4 (by decide)]
          refine J_istore_n dX12_stuck_51 (by decide) rfl ?_
          dsimp only [setL]
          refine J_iinc (v := nI (s + 1)) dX12_stuck_52 rfl (nI_1 s) (by decide) rfl ?_
          dsimp only [setL]
          refine J_goto (tgt := 28) dX12_stuck_55 (by decide) ?_
          first
          | exact tM_stk_x (h1 (anyS_t hb) _ _)
          | exact ih (s + 1) _ _ (by omega) (fun e => h1 ((anyS_f hb).trans e)) (fun e => h0 ((anyS_f hb).trans e))
set_option maxRecDepth 100000 in
set_option maxHeartbeats 1000000 in
theorem tM_stuck_l {d : Nat} {M : Mem} {Φ : Option Int32 → Mem → Prop} {C st : Nat → Nat} {m L n : Nat} (hW : IW M C st m L n) : ∀ k j g t, j + k = n → (∀ g t, Φ (some (stk M C st m k j)) (wa (wa M 84 g) 83 t)) → JM noRo (d + 3) mX12_stuck 2 [some (.ref 62), some (.int (nI j))] [] (wa (wa M 84 g) 83 t) Φ := by
  have hn12 := hW.2.2.2.1.1
  intro k
  induction k with
  | zero =>
    intro j g t hs h
    refine J_iload_n dX12_stuck_2 rfl ?_
    refine J_aload_n dX12_stuck_3 rfl ?_
    refine M_getI dX12_stuck_4 fX12_132 rfl rfl (by decide) ?_
    have hN := hW.vw (vwR (g := g) (t := t))
    rw [hN.2.2.2.1.2.2]
    refine J_icmp_ge (tgt := 70) dX12_stuck_7 (by decide) (fun c1 => ?_) (fun c1 => ?_)
    · -- to 70
      refine J_iconst (v := -1) dX12_stuck_70 (by decide) ?_
      refine M_iret dX12_stuck_71 rfl rfl ?_
      exact h _ _
    · -- on 10
      exact absurd (nI_le (by omega) (by omega)) c1
  | succ k ih =>
    intro j g t hs h
    refine J_iload_n dX12_stuck_2 rfl ?_
    refine J_aload_n dX12_stuck_3 rfl ?_
    refine M_getI dX12_stuck_4 fX12_132 rfl rfl (by decide) ?_
    have hN := hW.vw (vwR (g := g) (t := t))
    rw [hN.2.2.2.1.2.2]
    refine J_icmp_ge (tgt := 70) dX12_stuck_7 (by decide) (fun c1 => ?_) (fun c1 => ?_)
    · -- to 70
      exact absurd c1 (nI_ge (by omega) (by omega))
    · -- on 10
      refine J_aload_n dX12_stuck_10 rfl ?_
      refine M_getR dX12_stuck_11 fX12_19 rfl rfl (by decide) ?_
      refine J_iload_n dX12_stuck_14 rfl ?_
      refine M_ialdE dX12_stuck_15 rfl (by decide) (by first | rfl | assumption) (by omega) ?_
      rw [vwR.1 66 (by decide)]
      refine J_iconst (v := 1) dX12_stuck_16 (by decide) ?_
      refine J_icmp_ne (tgt := 24) dX12_stuck_17 (by decide) (fun c2 => ?_) (fun c2 => ?_)
      · -- to 24
        have cL : M.1 66 j = 0 := (hW.2.2.1.1 j).resolve_right c2
        refine J_iconst (v := 0) dX12_stuck_24 (by decide) ?_
        refine J_istore_n dX12_stuck_25 (by decide) rfl ?_
        dsimp only [setL]
        refine J_iconst (v := 0) dX12_stuck_26 (by decide) ?_
        refine J_istore_n dX12_stuck_27 (by decide) rfl ?_
        dsimp only [setL]
        refine tM_stk_i hW (by omega) 24 0 g t (by omega) (fun hb g t => ?_) (fun hb g t => ?_)
        ·
          refine J_iload_n dX12_stuck_58 rfl ?_
          refine J_if_ne (tgt := 64) dX12_stuck_59 (by decide) (fun c1 => ?_) (fun c1 => ?_)
          · -- to 64
            refine J_iinc (v := nI (j + 1)) dX12_stuck_64 rfl (nI_1 j) (by decide) rfl ?_
            dsimp only [setL]
            refine J_dropN 2 ?_
            refine J_goto (tgt := 2) dX12_stuck_67 (by decide) ?_
            rw [stk_2 hb] at h
            exact ih (j + 1) _ _ (by omega) h
          · -- on 62
            exact absurd c1 (by decide)
        ·
          refine J_iload_n dX12_stuck_58 rfl ?_
          refine J_if_ne (tgt := 64) dX12_stuck_59 (by decide) (fun c1 => ?_) (fun c1 => ?_)
          · -- to 64
            exact absurd c1 (by decide)
          · -- on 62
            refine J_iload_n dX12_stuck_62 rfl ?_
            refine M_iret dX12_stuck_63 rfl rfl ?_
            rw [stk_y cL hb] at h
            exact h _ _
      · -- on 20
        have cL : ¬ M.1 66 j = 0 := fun q => absurd (q.symm.trans c2) (by decide)
        refine J_iconst (v := 1) dX12_stuck_20 (by decide) ?_
        refine J_goto (tgt := 25) dX12_stuck_21 (by decide) ?_
        refine J_istore_n dX12_stuck_25 (by decide) rfl ?_
        dsimp only [setL]
        refine J_iconst (v := 0) dX12_stuck_26 (by decide) ?_
        refine J_istore_n dX12_stuck_27 (by decide) rfl ?_
        dsimp only [setL]
        refine tM_stk_x ?_
        refine J_iload_n dX12_stuck_58 rfl ?_
        refine J_if_ne (tgt := 64) dX12_stuck_59 (by decide) (fun c1 => ?_) (fun c1 => ?_)
        · -- to 64
          refine J_iinc (v := nI (j + 1)) dX12_stuck_64 rfl (nI_1 j) (by decide) rfl ?_
          dsimp only [setL]
          refine J_dropN 2 ?_
          refine J_goto (tgt := 2) dX12_stuck_67 (by decide) ?_
          rw [stk_1 cL] at h
          exact ih (j + 1) _ _ (by omega) h
        · -- on 62
          exact absurd c1 (by decide)
set_option maxRecDepth 100000 in
set_option maxHeartbeats 1000000 in
theorem tM_stuck {d : Nat} {M : Mem} {Φ : Option Int32 → Mem → Prop} {C st : Nat → Nat} {m L n : Nat} (hW : IW M C st m L n) (h : ∀ g t, Φ (some (stk M C st m n 0)) (wa (wa M 84 g) 83 t)) : JM noRo (d + 3) mX12_stuck 0 [some (.ref 62)] [] M Φ := by
  refine J_iconst (v := 0) dX12_stuck_0 (by decide) ?_
  refine J_istore_n dX12_stuck_1 (by decide) rfl ?_
  dsimp only [setL]
  have q := tM_stuck_l (d := d) hW n 0 (M.1 84) (M.1 83) (by omega) h
  rw [wa_self, wa_self] at q
  exact q

theorem t64 {b : Nat} (hb : b < 256) : (nI b).toInt64 = Int64.ofNat b := by
  apply Int64.toInt_inj.mp
  rw [Int32.toInt_toInt64, nI_toInt (by omega), Int64.toInt_ofNat_of_lt (by omega)]
theorem w64 {N b : Nat} (hN : N < 2 ^ 56) (hb : b < 256) : (Int64.ofNat N <<< ((8 : Int32).toInt64 &&& 63)) ||| (nI b).toInt64 = Int64.ofNat (N * 256 + b) := by
  rw [t64 hb]
  apply Int64.toBitVec_inj.mp
  rw [Int64.toBitVec_or, Int64.toBitVec_shiftLeft, show (((8 : Int32).toInt64 &&& 63).toBitVec.smod 64) = 8#64 from by decide]
  show BitVec.ofNat 64 N <<< 8#64 ||| BitVec.ofNat 64 b = BitVec.ofNat 64 (N * 256 + b)
  apply BitVec.eq_of_toNat_eq
  rw [BitVec.toNat_or, BitVec.shiftLeft_eq', BitVec.toNat_shiftLeft, BitVec.toNat_ofNat, BitVec.toNat_ofNat, BitVec.toNat_ofNat, BitVec.toNat_ofNat]
  rw [Nat.mod_eq_of_lt (show N < 2 ^ 64 by omega), Nat.mod_eq_of_lt (show b < 2 ^ 64 by omega), Nat.mod_eq_of_lt (show N * 256 + b < 2 ^ 64 by omega), show 8 % 2 ^ 64 = 8 from rfl]
  have e : N <<< 8 = N * 256 := by rw [Nat.shiftLeft_eq]
  rw [Nat.mod_eq_of_lt (by omega), ← Nat.shiftLeft_add_eq_or_of_lt (by omega), e]
theorem i64 {a b : Nat} (ha : a < 2 ^ 63) (hb : b < 2 ^ 63) : Int64.ofNat a = Int64.ofNat b ↔ a = b := by
  refine ⟨fun h => ?_, fun h => by rw [h]⟩
  have z := congrArg Int64.toInt h
  rw [Int64.toInt_ofNat_of_lt ha, Int64.toInt_ofNat_of_lt hb] at z
  omega
theorem fo_lt {f : Nat → Nat} : ∀ k, (∀ i, i < k → f i ≤ 122) → fo f k < 128 ^ k * 2 ^ k
  | 0, _ => by show 0 < 1; decide
  | k + 1, h => by
    have z := fo_lt k (fun i hi => h i (by omega))
    have y := h k (by omega)
    have e : 128 ^ (k + 1) * 2 ^ (k + 1) = 128 ^ k * 2 ^ k * 256 := by rw [Nat.pow_succ, Nat.pow_succ, Nat.mul_assoc, Nat.mul_left_comm 128, ← Nat.mul_assoc]
    rw [fo, e]
    omega
theorem u62 {fl : List Nat} (h : SK 62 = .inl (12, fl)) : ∀ i, fl[i]? = some 1 → i = 34 := by
  have e := Sum.inl.inj (h.symm.trans (show SK 62 = .inl (12, [0, 0, 65, 66, 67, 68, 69, 70, 71, 72, 73, 74, 0, 75, 76, 77, 78, 0, 79, 80, 81, 82, 0, 0, 0, 83, 0, 0, 0, 0, 0, 0, 0, 0, 1, 84, 0, 0, 85, 86, 87, 88, 0, 89, 90, 91, 92, 93, 94, 0, 0, 95, 96, 97, 98, 99, 100, 101, 102, 103]) from rfl))
  have e2 : fl = [0, 0, 65, 66, 67, 68, 69, 70, 71, 72, 73, 74, 0, 75, 76, 77, 78, 0, 79, 80, 81, 82, 0, 0, 0, 83, 0, 0, 0, 0, 0, 0, 0, 0, 1, 84, 0, 0, 85, 86, 87, 88, 0, 89, 90, 91, 92, 93, 94, 0, 0, 95, 96, 97, 98, 99, 100, 101, 102, 103] := (Prod.mk.inj e).2
  subst e2
  intro i hi
  have hl := (List.getElem?_eq_some_iff.mp hi).1
  exact (by decide : ∀ i, i < 60 → ([0, 0, 65, 66, 67, 68, 69, 70, 71, 72, 73, 74, 0, 75, 76, 77, 78, 0, 79, 80, 81, 82, 0, 0, 0, 83, 0, 0, 0, 0, 0, 0, 0, 0, 1, 84, 0, 0, 85, 86, 87, 88, 0, 89, 90, 91, 92, 93, 94, 0, 0, 95, 96, 97, 98, 99, 100, 101, 102, 103] : List Nat)[i]? = some 1 → i = 34) i hl hi
/-- a memory where only the reference's own cell has changed -/
def RM (M : Mem) (g : Nat → Int32) (w : Int64) : Mem := wl (wa M 62 g) 62 w
theorem RM_g {M : Mem} {g : Nat → Int32} {w : Int64} : (RM M g w).1 62 = g := by unfold RM; rw [rdn, rda]
theorem RM_o {M : Mem} {g : Nat → Int32} {w : Int64} {a : Nat} (h : a ≠ 62) : (RM M g w).1 a = M.1 a := by unfold RM; rw [rdn, rdb h]
theorem RM_w {M : Mem} {g : Nat → Int32} {w : Int64} : (RM M g w).2 62 = w := by unfold RM; exact rdo
theorem RM_wr {M : Mem} {g : Nat → Int32} {w : Int64} {j : Nat} {x : Int32} : wr (RM M g w) 62 j x = RM M (upd g j x) w := by
  refine Mem_ext (fun a => ?_) rfl
  by_cases h : a = 62
  · subst h; rw [rdu, RM_g, RM_g]
  · rw [rd2 h, RM_o h, RM_o h]
theorem RM_wl {M : Mem} {g : Nat → Int32} {w y : Int64} : wl (RM M g w) 62 y = RM M g y := by
  refine Mem_ext (fun a => rfl) ?_
  funext a
  by_cases h : a = 62 <;> simp [RM, wl, h]
theorem RM_self {M : Mem} : RM M (M.1 62) (M.2 62) = M := by
  refine Mem_ext (fun a => ?_) ?_
  · by_cases h : a = 62
    · subst h; exact RM_g
    · exact RM_o h
  · funext a
    by_cases h : a = 62
    · subst h; exact RM_w
    · simp [RM, wl, wa, h]
theorem RM_RM {M : Mem} {g g2 : Nat → Int32} {w w2 : Int64} : RM (RM M g w) g2 w2 = RM M g2 w2 := by
  refine Mem_ext (fun a => ?_) ?_
  · by_cases h : a = 62
    · subst h; rw [RM_g, RM_g]
    · rw [RM_o h, RM_o h, RM_o h]
  · funext a
    by_cases h : a = 62 <;> simp [RM, wl, wa, h]
def srt (K : Nat) : Int32 := if K = 0 then 0 else if K = 1 then 3 else if K = 2 then 2 else if K < 19 then 1 else nI K
/-- what the reference holds of a token -/
def TkR (g0 g : Nat → Int32) (w : Int64) (t : Tok) : Prop := (∀ i, i ≠ 29 → i ≠ 31 → i ≠ 32 → i ≠ 33 → g i = g0 i) ∧ g 32 = nI t.2.2.1 ∧ g 31 = srt t.1 ∧ (t.1 ≠ 1 → g 29 = nI t.2.2.2) ∧ (t.1 = 2 → g 33 = nI t.2.1) ∧ (t.1 = 3 ∨ (14 ≤ t.1 ∧ t.1 < 19) → ∃ N, N < 2 ^ 63 ∧ w = Int64.ofNat N ∧ fnd N 19 0 = if t.1 = 3 then t.2.1 else t.1)
set_option maxRecDepth 100000 in
set_option maxHeartbeats 1000000 in
theorem tX12_here {d : Nat} {M : Mem} {Φ : Option Int32 → Mem → Prop} {n : Nat} {T : Nat → Nat} {a k : Nat} {g : Nat → Int32} {w : Int64} (hnb : n ≤ 1000) (hT : ∀ i, M.1 81 i = nI (T i) ∧ T i < 256) (ha : g 29 = nI a) (hs : g 30 = nI n) (hk : a + k ≤ 3000) (h1 : a + k < n → Φ (some (nI (T (a + k)))) (RM M g w)) (h0 : ¬ a + k < n → Φ (some (-1)) (RM M g w)) : JM noRo d mX12_here 0 [some (.ref 62), some (.int (nI k))] [] (RM M g w) Φ := by
  refine J_aload_n dX12_here_0 rfl ?_
  refine M_getI dX12_here_1 fX12_157 rfl rfl (by decide) ?_
  rw [RM_g, ha]
  refine J_iload_n dX12_here_4 rfl ?_
  refine J_iadd dX12_here_5 ?_
  rw [nI_add]
  refine J_aload_n dX12_here_6 rfl ?_
  refine M_getI dX12_here_7 fX12_160 rfl rfl (by decide) ?_
  rw [RM_g, hs]
  refine J_icmp_ge (tgt := 27) dX12_here_10 (by decide) (fun c1 => ?_) (fun c1 => ?_)
  · -- to 27
    refine J_iconst (v := -1) dX12_here_27 (by decide) ?_
    refine M_iret dX12_here_28 rfl rfl ?_
    first
    | exact h1 hiq
    | exact h0 (fun q => nI_ge q (by omega) c1)
  · -- on 13
    have hiq : a + k < n := Nat.not_le.mp (fun q => c1 (nI_le q (by omega)))
    refine J_aload_n dX12_here_13 rfl ?_
    refine M_getR dX12_here_14 fX12_65 rfl rfl (by decide) ?_
    refine J_aload_n dX12_here_17 rfl ?_
    refine M_getI dX12_here_18 fX12_157 rfl rfl (by decide) ?_
    rw [RM_g, ha]
    refine J_iload_n dX12_here_21 rfl ?_
    refine J_iadd dX12_here_22 ?_
    rw [nI_add]
    refine M_ialdE dX12_here_23 rfl (by decide) (by first | rfl | assumption) (by omega) ?_
    rw [RM_o (by decide), (hT _).1]
    refine J_goto (tgt := 28) dX12_here_24 (by decide) ?_
    refine M_iret dX12_here_28 rfl rfl ?_
    first
    | exact h1 hiq
    | exact h0 (fun q => nI_ge q (by omega) c1)
theorem tX12_here0 {d : Nat} {M : Mem} {Φ : Option Int32 → Mem → Prop} {n : Nat} {T : Nat → Nat} {a : Nat} {g : Nat → Int32} {w : Int64} (hnb : n ≤ 1000) (hT : ∀ i, M.1 81 i = nI (T i) ∧ T i < 256) (ha : g 29 = nI a) (hs : g 30 = nI n) (hk : a ≤ 2000) (h1 : a < n → Φ (some (nI (T a))) (RM M g w)) (h0 : ¬ a < n → Φ (some (-1)) (RM M g w)) : JM noRo d mX12_here 0 [some (.ref 62), some (.int 0)] [] (RM M g w) Φ := tX12_here (k := 0) hnb hT ha hs (by omega) h1 h0
set_option maxRecDepth 100000 in
set_option maxHeartbeats 1000000 in
theorem tM_nx_b {d : Nat} {M : Mem} {Φ : Option Int32 → Mem → Prop} {n : Nat} {T : Nat → Nat} {w : Int64} (hnb : n ≤ 1000) (hT : ∀ i, M.1 81 i = nI (T i) ∧ T i < 256) : ∀ k p g, p + k = n → g 29 = nI p → g 30 = nI n → (∀ g2, g2 29 = nI (rnP blk T k p) → g2 30 = nI n → (∀ i, i ≠ 29 → g2 i = g i) → JM noRo (d + 2) mX12_next 33 [some (.ref 62)] [] (RM M g2 w) Φ) → JM noRo (d + 2) mX12_next 0 [some (.ref 62)] [] (RM M g w) Φ := by
  intro k
  induction k with
  | zero =>
    intro p g hp ha hs h
    refine J_aload_n dX12_next_0 rfl ?_
    refine J_iconst (v := 0) dX12_next_1 (by decide) ?_
    refine M_callV1 (mc := mX12_here) dX12_next_2 kX12_163 oX12_here (Nat.le_of_ble_eq_true rfl) (Nat.le_of_ble_eq_true rfl) rfl (by decide) rfl ?_
    refine tX12_here (k := 0) hnb hT ha hs (by omega) (fun hq => absurd hq (by omega)) (fun hq => ?_)
    refine J_bipush (v := 32) dX12_next_5 (by decide) ?_
    refine J_icmp_eq (tgt := 20) dX12_next_7 (by decide) (fun c2 => ?_) (fun c2 => ?_)
    · -- to 20
      exact absurd c2 (by decide)
    · -- on 10
      refine J_aload_n dX12_next_10 rfl ?_
      refine J_iconst (v := 0) dX12_next_11 (by decide) ?_
      refine M_callV1 (mc := mX12_here) dX12_next_12 kX12_163 oX12_here (Nat.le_of_ble_eq_true rfl) (Nat.le_of_ble_eq_true rfl) rfl (by decide) rfl ?_
      refine tX12_here (k := 0) hnb hT ha hs (by omega) (fun hq => absurd hq (by omega)) (fun hq => ?_)
      refine J_bipush (v := 10) dX12_next_15 (by decide) ?_
      refine J_icmp_ne (tgt := 33) dX12_next_17 (by decide) (fun c4 => ?_) (fun c4 => ?_)
      · -- to 33
        exact h g ha hs (fun _ _ => rfl)
      · -- on 20
        exact absurd c4 (by decide)
  | succ k ih =>
    intro p g hp ha hs h
    refine J_aload_n dX12_next_0 rfl ?_
    refine J_iconst (v := 0) dX12_next_1 (by decide) ?_
    refine M_callV1 (mc := mX12_here) dX12_next_2 kX12_163 oX12_here (Nat.le_of_ble_eq_true rfl) (Nat.le_of_ble_eq_true rfl) rfl (by decide) rfl ?_
    refine tX12_here0 hnb hT ha hs (by omega) (fun hq => ?_) (fun hq => absurd (by omega) hq)
    refine J_bipush (v := 32) dX12_next_5 (by decide) ?_
    refine J_icmp_eq (tgt := 20) dX12_next_7 (by decide) (fun c2 => ?_) (fun c2 => ?_)
    · -- to 20
      refine J_aload_n dX12_next_20 rfl ?_
      refine J_dup dX12_next_21 rfl ?_
      refine M_getI dX12_next_22 fX12_157 rfl rfl (by decide) ?_
      rw [RM_g, ha]
      refine J_iconst (v := 1) dX12_next_25 (by decide) ?_
      refine J_iadd dX12_next_26 ?_
      rw [nI_1]
      refine M_putI dX12_next_27 pX12_157 rfl rfl (by decide) ?_
      rw [RM_wr]
      refine J_goto (tgt := 0) dX12_next_30 (by decide) ?_
      have hb : blk (T p) = true := by
        have hp2 := (hT p).2
        first
        | (rw [(nI_eq (a := T p) (b := 32) (by omega) (by decide)).mp c2]; rfl)
        | (rw [(nI_eq (a := T p) (b := 10) (by omega) (by decide)).mp c2]; rfl)
      refine ih (p + 1) _ (by omega) updS (by rw [updN (by decide)]; exact hs) (fun g2 a1 a2 a3 => h g2 ?_ a2 (fun i hi => ?_))
      · rw [rn_y hb]; exact a1
      · rw [a3 i hi, updN hi]
    · -- on 10
      have cA := c2
      refine J_aload_n dX12_next_10 rfl ?_
      refine J_iconst (v := 0) dX12_next_11 (by decide) ?_
      refine M_callV1 (mc := mX12_here) dX12_next_12 kX12_163 oX12_here (Nat.le_of_ble_eq_true rfl) (Nat.le_of_ble_eq_true rfl) rfl (by decide) rfl ?_
      refine tX12_here0 hnb hT ha hs (by omega) (fun hq => ?_) (fun hq => absurd (by omega) hq)
      refine J_bipush (v := 10) dX12_next_15 (by decide) ?_
      refine J_icmp_ne (tgt := 33) dX12_next_17 (by decide) (fun c4 => ?_) (fun c4 => ?_)
      · -- to 33
        refine h g ?_ hs (fun _ _ => rfl)
        rw [rn_n (blk_f (fun q => cA (by rw [q]; rfl)) (fun q => c4 (by rw [q]; rfl)))]; exact ha
      · -- on 20
        refine J_aload_n dX12_next_20 rfl ?_
        refine J_dup dX12_next_21 rfl ?_
        refine M_getI dX12_next_22 fX12_157 rfl rfl (by decide) ?_
        rw [RM_g, ha]
        refine J_iconst (v := 1) dX12_next_25 (by decide) ?_
        refine J_iadd dX12_next_26 ?_
        rw [nI_1]
        refine M_putI dX12_next_27 pX12_157 rfl rfl (by decide) ?_
        rw [RM_wr]
        refine J_goto (tgt := 0) dX12_next_30 (by decide) ?_
        have hb : blk (T p) = true := by
          have hp2 := (hT p).2
          first
          | (rw [(nI_eq (a := T p) (b := 32) (by omega) (by decide)).mp c4]; rfl)
          | (rw [(nI_eq (a := T p) (b := 10) (by omega) (by decide)).mp c4]; rfl)
        refine ih (p + 1) _ (by omega) updS (by rw [updN (by decide)]; exact hs) (fun g2 a1 a2 a3 => h g2 ?_ a2 (fun i hi => ?_))
        · rw [rn_y hb]; exact a1
        · rw [a3 i hi, updN hi]
set_option maxRecDepth 100000 in
set_option maxHeartbeats 1000000 in
theorem tM_nx_w {d : Nat} {M : Mem} {Φ : Option Int32 → Mem → Prop} {n : Nat} {T : Nat → Nat} {s : Nat} {c : Int32} {g : Nat → Int32} (hnb : n ≤ 1000) (hT : ∀ i, M.1 81 i = nI (T i) ∧ T i < 256) (ha : g 29 = nI s) (hs : g 30 = nI n) : ∀ k j w, s + j + k = n → (∀ i, s ≤ i → i < s + j → aln (T i) = true) → (j ≤ 8 → w = Int64.ofNat (wn T s j)) → (∀ j2 w2, s + j2 = rnP aln T k (s + j) → (j2 ≤ 8 → w2 = Int64.ofNat (wn T s j2)) → JM noRo (d + 2) mX12_next 130 [some (.ref 62), some (.int c), some (.int (nI j2))] [] (RM M g w2) Φ) → JM noRo (d + 2) mX12_next 78 [some (.ref 62), some (.int c), some (.int (nI j))] [] (RM M g w) Φ := by
  intro k
  induction k with
  | zero =>
    intro j w hj hA hw h
    refine J_aload_n dX12_next_78 rfl ?_
    refine J_iload_n dX12_next_79 rfl ?_
    refine M_callV1 (mc := mX12_here) dX12_next_80 kX12_163 oX12_here (Nat.le_of_ble_eq_true rfl) (Nat.le_of_ble_eq_true rfl) rfl (by decide) rfl ?_
    refine tX12_here (k := j) hnb hT ha hs (by omega) (fun hq => absurd hq (by omega)) (fun hq => ?_)
    refine M_callS1 (mc := mX12_isLetter) dX12_next_83 kX12_180 oX12_isLetter (Nat.le_of_ble_eq_true rfl) (Nat.le_of_ble_eq_true rfl) ?_
    refine tX12_isLetterN ?_
    refine J_if_ne (tgt := 100) dX12_next_86 (by decide) (fun c3 => ?_) (fun c3 => ?_)
    · -- to 100
      exact absurd c3 (by decide)
    · -- on 89
      refine J_aload_n dX12_next_89 rfl ?_
      refine J_iload_n dX12_next_90 rfl ?_
      refine M_callV1 (mc := mX12_here) dX12_next_91 kX12_163 oX12_here (Nat.le_of_ble_eq_true rfl) (Nat.le_of_ble_eq_true rfl) rfl (by decide) rfl ?_
      refine tX12_here (k := j) hnb hT ha hs (by omega) (fun hq => absurd hq (by omega)) (fun hq => ?_)
      refine M_callS1 (mc := mX12_isDigit) dX12_next_94 kX12_183 oX12_isDigit (Nat.le_of_ble_eq_true rfl) (Nat.le_of_ble_eq_true rfl) ?_
      refine tX12_isDigitN ?_
      refine J_if_eq (tgt := 130) dX12_next_97 (by decide) (fun c6 => ?_) (fun c6 => ?_)
      · -- to 130
        exact h j w (by have : rnP aln T 0 (s + j) = s + j := rfl; omega) hw
      · -- on 100
        exact absurd c6 (by decide)
  | succ k ih =>
    intro j w hj hA hw h
    have hN : j ≤ 7 → wn T s j < 2 ^ 56 := fun q => by
      have z := fo_lt (f := fun i => T (s + i)) j (fun i hi => (aln_b (hA (s + i) (by omega) (by omega))).2)
      have y : 128 ^ j * 2 ^ j ≤ 128 ^ 7 * 2 ^ 7 := Nat.mul_le_mul (Nat.pow_le_pow_right (by decide) q) (Nat.pow_le_pow_right (by decide) q)
      unfold wn
      have e : 128 ^ 7 * 2 ^ 7 = 2 ^ 56 := by decide
      omega
    refine J_aload_n dX12_next_78 rfl ?_
    refine J_iload_n dX12_next_79 rfl ?_
    refine M_callV1 (mc := mX12_here) dX12_next_80 kX12_163 oX12_here (Nat.le_of_ble_eq_true rfl) (Nat.le_of_ble_eq_true rfl) rfl (by decide) rfl ?_
    refine tX12_here (k := j) hnb hT ha hs (by omega) (fun hq => ?_) (fun hq => absurd (by omega) hq)
    refine M_callS1 (mc := mX12_isLetter) dX12_next_83 kX12_180 oX12_isLetter (Nat.le_of_ble_eq_true rfl) (Nat.le_of_ble_eq_true rfl) ?_
    refine tX12_isLetter (hT _).2 (fun hl => ?_) (fun hl => ?_)
    · -- true
      refine J_if_ne (tgt := 100) dX12_next_86 (by decide) (fun c3 => ?_) (fun c3 => ?_)
      · -- to 100
        refine J_iload_n dX12_next_100 rfl ?_
        refine J_bipush (v := 8) dX12_next_101 (by decide) ?_
        refine J_icmp_ge (tgt := 124) dX12_next_103 (by decide) (fun c4 => ?_) (fun c4 => ?_)
        · -- to 124
          try rw [RM_wl]
          refine J_iinc (v := nI (j + 1)) dX12_next_124 rfl (nI_1 j) (by decide) rfl ?_
          dsimp only [setL]
          refine J_goto (tgt := 78) dX12_next_127 (by decide) ?_
          have hal : aln (T (s + j)) = true := by unfold aln; first | (rw [hl]; rfl) | (rw [hd, Bool.or_true])
          first
          | (refine ih (j + 1) _ (by omega) (fun i h1 h2 => ?_) (fun q => ?_) (fun k2 w2 a1 a2 => h k2 w2 ?_ a2)
             · by_cases e : i = s + j
               · rw [e]; exact hal
               · exact hA i h1 (by omega)
             · rfl
             · rw [rn_y hal]; exact a1)
          | (refine ih (j + 1) w (by omega) (fun i h1 h2 => ?_) (fun q => ?_) (fun k2 w2 a1 a2 => h k2 w2 ?_ a2)
             · by_cases e : i = s + j
               · rw [e]; exact hal
               · exact hA i h1 (by omega)
             · exact absurd (nI_ge (b := 8) (a := j) (by omega) (by decide)) (fun z => z c4)
             · rw [rn_y hal]; exact a1)
        · -- on 106
          have h8 : j < 8 := Nat.not_le.mp (fun q => c4 (nI_le (a := 8) q (by omega)))
          refine J_aload_n dX12_next_106 rfl ?_
          refine J_aload_n dX12_next_107 rfl ?_
          refine M_getL dX12_next_108 fX12_170 rfl rfl (by decide) ?_
          rw [RM_w, hw (by omega)]
          refine J_bipush (v := 8) dX12_next_111 (by decide) ?_
          refine J_lshl dX12_next_113 ?_
          refine J_aload_n dX12_next_114 rfl ?_
          refine J_iload_n dX12_next_115 rfl ?_
          refine M_callV1 (mc := mX12_here) dX12_next_116 kX12_163 oX12_here (Nat.le_of_ble_eq_true rfl) (Nat.le_of_ble_eq_true rfl) rfl (by decide) rfl ?_
          refine tX12_here (k := j) hnb hT ha hs (by omega) (fun hq => ?_) (fun hq => absurd (by omega) hq)
          refine J_i2l dX12_next_119 ?_
          refine J_lor dX12_next_120 ?_
          rw [w64 (hN (by omega)) (hT _).2]
          refine M_putL dX12_next_121 pX12_170 rfl rfl (u62 rfl) (by decide) ?_
          try rw [RM_wl]
          refine J_iinc (v := nI (j + 1)) dX12_next_124 rfl (nI_1 j) (by decide) rfl ?_
          dsimp only [setL]
          refine J_goto (tgt := 78) dX12_next_127 (by decide) ?_
          have hal : aln (T (s + j)) = true := by unfold aln; first | (rw [hl]; rfl) | (rw [hd, Bool.or_true])
          first
          | (refine ih (j + 1) _ (by omega) (fun i h1 h2 => ?_) (fun q => ?_) (fun k2 w2 a1 a2 => h k2 w2 ?_ a2)
             · by_cases e : i = s + j
               · rw [e]; exact hal
               · exact hA i h1 (by omega)
             · rfl
             · rw [rn_y hal]; exact a1)
          | (refine ih (j + 1) w (by omega) (fun i h1 h2 => ?_) (fun q => ?_) (fun k2 w2 a1 a2 => h k2 w2 ?_ a2)
             · by_cases e : i = s + j
               · rw [e]; exact hal
               · exact hA i h1 (by omega)
             · exact absurd (nI_ge (b := 8) (a := j) (by omega) (by decide)) (fun z => z c4)
             · rw [rn_y hal]; exact a1)
      · -- on 89
        exact absurd c3 (by decide)
    · -- false
      refine J_if_ne (tgt := 100) dX12_next_86 (by decide) (fun c6 => ?_) (fun c6 => ?_)
      · -- to 100
        exact absurd c6 (by decide)
      · -- on 89
        refine J_aload_n dX12_next_89 rfl ?_
        refine J_iload_n dX12_next_90 rfl ?_
        refine M_callV1 (mc := mX12_here) dX12_next_91 kX12_163 oX12_here (Nat.le_of_ble_eq_true rfl) (Nat.le_of_ble_eq_true rfl) rfl (by decide) rfl ?_
        refine tX12_here (k := j) hnb hT ha hs (by omega) (fun hq => ?_) (fun hq => absurd (by omega) hq)
        refine M_callS1 (mc := mX12_isDigit) dX12_next_94 kX12_183 oX12_isDigit (Nat.le_of_ble_eq_true rfl) (Nat.le_of_ble_eq_true rfl) ?_
        refine tX12_isDigit (hT _).2 (fun hd => ?_) (fun hd => ?_)
        · -- true
          refine J_if_eq (tgt := 130) dX12_next_97 (by decide) (fun c9 => ?_) (fun c9 => ?_)
          · -- to 130
            exact absurd c9 (by decide)
          · -- on 100
            refine J_iload_n dX12_next_100 rfl ?_
            refine J_bipush (v := 8) dX12_next_101 (by decide) ?_
            refine J_icmp_ge (tgt := 124) dX12_next_103 (by decide) (fun c10 => ?_) (fun c10 => ?_)
            · -- to 124
              try rw [RM_wl]
              refine J_iinc (v := nI (j + 1)) dX12_next_124 rfl (nI_1 j) (by decide) rfl ?_
              dsimp only [setL]
              refine J_goto (tgt := 78) dX12_next_127 (by decide) ?_
              have hal : aln (T (s + j)) = true := by unfold aln; first | (rw [hl]; rfl) | (rw [hd, Bool.or_true])
              first
              | (refine ih (j + 1) _ (by omega) (fun i h1 h2 => ?_) (fun q => ?_) (fun k2 w2 a1 a2 => h k2 w2 ?_ a2)
                 · by_cases e : i = s + j
                   · rw [e]; exact hal
                   · exact hA i h1 (by omega)
                 · rfl
                 · rw [rn_y hal]; exact a1)
              | (refine ih (j + 1) w (by omega) (fun i h1 h2 => ?_) (fun q => ?_) (fun k2 w2 a1 a2 => h k2 w2 ?_ a2)
                 · by_cases e : i = s + j
                   · rw [e]; exact hal
                   · exact hA i h1 (by omega)
                 · exact absurd (nI_ge (b := 8) (a := j) (by omega) (by decide)) (fun z => z c10)
                 · rw [rn_y hal]; exact a1)
            · -- on 106
              have h8 : j < 8 := Nat.not_le.mp (fun q => c10 (nI_le (a := 8) q (by omega)))
              refine J_aload_n dX12_next_106 rfl ?_
              refine J_aload_n dX12_next_107 rfl ?_
              refine M_getL dX12_next_108 fX12_170 rfl rfl (by decide) ?_
              rw [RM_w, hw (by omega)]
              refine J_bipush (v := 8) dX12_next_111 (by decide) ?_
              refine J_lshl dX12_next_113 ?_
              refine J_aload_n dX12_next_114 rfl ?_
              refine J_iload_n dX12_next_115 rfl ?_
              refine M_callV1 (mc := mX12_here) dX12_next_116 kX12_163 oX12_here (Nat.le_of_ble_eq_true rfl) (Nat.le_of_ble_eq_true rfl) rfl (by decide) rfl ?_
              refine tX12_here (k := j) hnb hT ha hs (by omega) (fun hq => ?_) (fun hq => absurd (by omega) hq)
              refine J_i2l dX12_next_119 ?_
              refine J_lor dX12_next_120 ?_
              rw [w64 (hN (by omega)) (hT _).2]
              refine M_putL dX12_next_121 pX12_170 rfl rfl (u62 rfl) (by decide) ?_
              try rw [RM_wl]
              refine J_iinc (v := nI (j + 1)) dX12_next_124 rfl (nI_1 j) (by decide) rfl ?_
              dsimp only [setL]
              refine J_goto (tgt := 78) dX12_next_127 (by decide) ?_
              have hal : aln (T (s + j)) = true := by unfold aln; first | (rw [hl]; rfl) | (rw [hd, Bool.or_true])
              first
              | (refine ih (j + 1) _ (by omega) (fun i h1 h2 => ?_) (fun q => ?_) (fun k2 w2 a1 a2 => h k2 w2 ?_ a2)
                 · by_cases e : i = s + j
                   · rw [e]; exact hal
                   · exact hA i h1 (by omega)
                 · rfl
                 · rw [rn_y hal]; exact a1)
              | (refine ih (j + 1) w (by omega) (fun i h1 h2 => ?_) (fun q => ?_) (fun k2 w2 a1 a2 => h k2 w2 ?_ a2)
                 · by_cases e : i = s + j
                   · rw [e]; exact hal
                   · exact hA i h1 (by omega)
                 · exact absurd (nI_ge (b := 8) (a := j) (by omega) (by decide)) (fun z => z c10)
                 · rw [rn_y hal]; exact a1)
        · -- false
          refine J_if_eq (tgt := 130) dX12_next_97 (by decide) (fun c12 => ?_) (fun c12 => ?_)
          · -- to 130
            exact h j w (by rw [rn_n (by unfold aln; rw [hl, hd]; rfl)]) hw
          · -- on 100
            exact absurd c12 (by decide)

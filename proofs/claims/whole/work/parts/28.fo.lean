def mn (a b : Int32) : Int32 := if b < a then b else a
/-- a night's feed out of what is left: the rows left, and what is missing, behind i lots -/
def sfF (l : Nat → Int32) (y : Int32) (f : Nat → Int32) (s : Int32) : Nat → (Nat → Int32) × Int32
  | 0 => (f, s)
  | i + 1 => if l i < y then sfF l y f s i else (upd (sfF l y f s i).1 i ((sfF l y f s i).1 i - mn ((sfF l y f s i).1 i) (sfF l y f s i).2), (sfF l y f s i).2 - mn ((sfF l y f s i).1 i) (sfF l y f s i).2)
def ngt (l : Nat → Int32) (w day : Int32) (n : Nat) : Nat → Nat → (Nat → Int32) → Nat
  | 0, t, _ => t
  | m + 1, t, f => if (sfF l (day + nI t) f w n).2 = 0 then ngt l w day n m (t + 1) (sfF l (day + nI t) f w n).1 else t
theorem sfF_a {l : Nat → Int32} {y : Int32} {f : Nat → Int32} {s : Int32} {i : Nat} (h : l i < y) : sfF l y f s (i + 1) = sfF l y f s i := by rw [sfF, if_pos h]
theorem sfF_b {l : Nat → Int32} {y : Int32} {f : Nat → Int32} {s : Int32} {i : Nat} (h : ¬ l i < y) : sfF l y f s (i + 1) = (upd (sfF l y f s i).1 i ((sfF l y f s i).1 i - mn ((sfF l y f s i).1 i) (sfF l y f s i).2), (sfF l y f s i).2 - mn ((sfF l y f s i).1 i) (sfF l y f s i).2) := by rw [sfF, if_neg h]
theorem wa_wr {M : Mem} {k i : Nat} {f : Nat → Int32} {x : Int32} : wr (wa M k f) k i x = wa M k (upd f i x) := by rw [wr_wa, rda, wa_wa]
set_option maxRecDepth 100000 in
set_option maxHeartbeats 1000000 in
theorem tX1_wanted_l {d : Nat} {M : Mem} {Φ : Option Int32 → Mem → Prop} {n b : Nat} (hn : M.1 1 6 = nI n) (hnb : n ≤ 12) (hb : b < 4) (h : Φ (some (l_sum (fun j => M.1 6 (j * 4 + b)) n)) M) : ∀ m i : Nat, i + m = n → JM noRo (d + 1) mX1_wantedByAll 4 [some (.ref 1), some (.int (nI b)), some (.int (l_sum (fun j => M.1 6 (j * 4 + b)) i)), some (.int (nI i))] [] M Φ := by
  intro m
  induction m with
  | zero =>
    intro i hi
    refine J_iload_n dX1_wantedByAll_4 rfl ?_
    refine J_aload_n dX1_wantedByAll_5 rfl ?_
    refine M_getI dX1_wantedByAll_6 fX1_31 rfl rfl (by decide) ?_
    refine J_icmp_ge (tgt := 27) dX1_wantedByAll_9 (by decide) (fun c1 => ?_) (fun c1 => ?_)
    · -- to 27
      refine J_iload_n dX1_wantedByAll_27 rfl ?_
      refine M_iret dX1_wantedByAll_28 rfl rfl ?_
      obtain rfl : i = n := by omega
      exact h
    · -- on 12
      exact absurd (by rw [hn]; exact nI_le (by omega) (by omega)) c1
  | succ m ih =>
    intro i hi
    refine J_iload_n dX1_wantedByAll_4 rfl ?_
    refine J_aload_n dX1_wantedByAll_5 rfl ?_
    refine M_getI dX1_wantedByAll_6 fX1_31 rfl rfl (by decide) ?_
    refine J_icmp_ge (tgt := 27) dX1_wantedByAll_9 (by decide) (fun c1 => ?_) (fun c1 => ?_)
    · -- to 27
      exact absurd c1 (by rw [hn]; exact nI_ge (by omega) (by omega))
    · -- on 12
      refine J_iload_n dX1_wantedByAll_12 rfl ?_
      refine J_aload_n dX1_wantedByAll_13 rfl ?_
      refine J_iload_n dX1_wantedByAll_14 rfl ?_
      refine J_iload_n dX1_wantedByAll_15 rfl ?_
      refine M_callV2 (mc := mX1_wantedOf) dX1_wantedByAll_16 kX1_35 oX1_wantedOf (Nat.le_of_ble_eq_true rfl) (Nat.le_of_ble_eq_true rfl) rfl (by decide) rfl ?_
      refine tX1_wantedOf (by omega) hb ?_
      refine J_iadd dX1_wantedByAll_19 ?_
      refine J_istore_n dX1_wantedByAll_20 (by decide) rfl ?_
      dsimp only [setL]
      refine J_iinc (v := nI (i + 1)) dX1_wantedByAll_21 rfl (nI_1 i) (by decide) rfl ?_
      dsimp only [setL]
      refine J_goto (tgt := 4) dX1_wantedByAll_24 (by decide) ?_
      exact ih (i + 1) (by omega)
set_option maxRecDepth 100000 in
set_option maxHeartbeats 1000000 in
theorem tX1_wantedByAll {d : Nat} {M : Mem} {Φ : Option Int32 → Mem → Prop} {n b : Nat} (hn : M.1 1 6 = nI n) (hnb : n ≤ 12) (hb : b < 4) (h : Φ (some (l_sum (fun j => M.1 6 (j * 4 + b)) n)) M) : JM noRo (d + 1) mX1_wantedByAll 0 [some (.ref 1), some (.int (nI b))] [] M Φ := by
  refine J_iconst (v := 0) dX1_wantedByAll_0 (by decide) ?_
  refine J_istore_n dX1_wantedByAll_1 (by decide) rfl ?_
  dsimp only [setL]
  refine J_iconst (v := 0) dX1_wantedByAll_2 (by decide) ?_
  refine J_istore_n dX1_wantedByAll_3 (by decide) rfl ?_
  dsimp only [setL]
  exact tX1_wanted_l hn hnb hb h n 0 (by omega)
set_option maxRecDepth 100000 in
set_option maxHeartbeats 1000000 in
theorem tX0_suff_l {d : Nat} {M : Mem} {Φ : Option Int32 → Mem → Prop} {k n : Nat} {s y : Int32} {f : Nat → Int32} (hB : BinAt k) (hn : M.1 k 3 = nI n) (hnb : n ≤ 20) (h1 : (sfF (M.1 (k + 2)) y f s n).2 = 0 → Φ (some 1) (wa M (k + 3) (sfF (M.1 (k + 2)) y f s n).1)) (h0 : ¬ (sfF (M.1 (k + 2)) y f s n).2 = 0 → Φ (some 0) (wa M (k + 3) (sfF (M.1 (k + 2)) y f s n).1)) : ∀ m i : Nat, i + m = n → JM noRo (d + 1) mX0_suffices 5 [some (.ref k), some (.int s), some (.int y), some (.int (sfF (M.1 (k + 2)) y f s i).2), some (.int (nI i))] [] (wa M (k + 3) (sfF (M.1 (k + 2)) y f s i).1) Φ := by
  obtain ⟨sk, sa, sl, sf, lk, la, ll, lf⟩ := id hB
  intro m
  induction m with
  | zero =>
    intro i hi
    refine J_iload dX0_suffices_5 rfl ?_
    refine J_aload_n dX0_suffices_7 rfl ?_
    refine M_getI dX0_suffices_8 fX0_21 sk rfl lk ?_
    refine J_icmp_ge (tgt := 61) dX0_suffices_11 (by decide) (fun c1 => ?_) (fun c1 => ?_)
    · -- to 61
      refine J_iload_n dX0_suffices_61 rfl ?_
      refine J_if_ne (tgt := 69) dX0_suffices_62 (by decide) (fun c2 => ?_) (fun c2 => ?_)
      · -- to 69
        refine J_iconst (v := 0) dX0_suffices_69 (by decide) ?_
        refine M_zret dX0_suffices_70 rfl (by first | assumption | exact Or.inl rfl | exact Or.inr rfl) ?_
        obtain rfl : i = n := by omega
        first
        | exact h1 c2
        | exact h0 c2
      · -- on 65
        refine J_iconst (v := 1) dX0_suffices_65 (by decide) ?_
        refine J_goto (tgt := 70) dX0_suffices_66 (by decide) ?_
        refine M_zret dX0_suffices_70 rfl (by first | assumption | exact Or.inl rfl | exact Or.inr rfl) ?_
        obtain rfl : i = n := by omega
        first
        | exact h1 c2
        | exact h0 c2
    · -- on 14
      exact absurd (by rw [rdb (by omega), hn]; exact nI_le (by omega) (by omega)) c1
  | succ m ih =>
    intro i hi
    refine J_iload dX0_suffices_5 rfl ?_
    refine J_aload_n dX0_suffices_7 rfl ?_
    refine M_getI dX0_suffices_8 fX0_21 sk rfl lk ?_
    refine J_icmp_ge (tgt := 61) dX0_suffices_11 (by decide) (fun c1 => ?_) (fun c1 => ?_)
    · -- to 61
      exact absurd c1 (by rw [rdb (by omega), hn]; exact nI_ge (by omega) (by omega))
    · -- on 14
      refine J_aload_n dX0_suffices_14 rfl ?_
      refine M_getR dX0_suffices_15 fX0_15 sk rfl lk ?_
      refine J_iload dX0_suffices_18 rfl ?_
      refine M_ialdE dX0_suffices_20 sl ⟨ll, by decide⟩ (by first | rfl | assumption) (by omega) ?_
      rw [rdb (by omega)]
      refine J_iload_n dX0_suffices_21 rfl ?_
      refine J_icmp_lt (tgt := 55) dX0_suffices_22 (by decide) (fun c2 => ?_) (fun c2 => ?_)
      · -- to 55
        refine J_iinc (v := nI (i + 1)) dX0_suffices_55 rfl (nI_1 i) (by decide) rfl ?_
        dsimp only [setL]
        refine J_goto (tgt := 5) dX0_suffices_58 (by decide) ?_
        refine J_dropN 5 ?_
        have q := ih (i + 1) (by omega)
        first
        | (rw [sfF_b cL] at q; exact q)
        | (rw [sfF_a (l := M.1 (k + 2)) (i := i) c2] at q; exact q)
      · -- on 25
        have cL := c2
        refine J_aload_n dX0_suffices_25 rfl ?_
        refine M_getR dX0_suffices_26 fX0_18 sk rfl lk ?_
        refine J_iload dX0_suffices_29 rfl ?_
        refine M_ialdE dX0_suffices_31 sf ⟨lf, by decide⟩ (by first | rfl | assumption) (by omega) ?_
        rw [rda]
        refine J_iload_n dX0_suffices_32 rfl ?_
        refine J_mmin dX0_suffices_33 kX0_42 ma_min_s ma_ini ma_min_c (Nat.le_of_ble_eq_true rfl) ?_
        refine J_istore dX0_suffices_36 (by decide) rfl ?_
        dsimp only [setL]
        refine J_aload_n dX0_suffices_38 rfl ?_
        refine M_getR dX0_suffices_39 fX0_18 sk rfl lk ?_
        refine J_iload dX0_suffices_42 rfl ?_
        refine J_dup2 dX0_suffices_44 rfl rfl ?_
        refine M_ialdE dX0_suffices_45 sf ⟨lf, by decide⟩ (by first | rfl | assumption) (by omega) ?_
        rw [rda]
        refine J_iload dX0_suffices_46 rfl ?_
        refine J_isub dX0_suffices_48 ?_
        refine M_iastE dX0_suffices_49 sf ⟨lf, by decide⟩ (by first | rfl | assumption) (by omega) ?_
        rw [wa_wr]
        refine J_iload_n dX0_suffices_50 rfl ?_
        refine J_iload dX0_suffices_51 rfl ?_
        refine J_isub dX0_suffices_53 ?_
        refine J_istore_n dX0_suffices_54 (by decide) rfl ?_
        dsimp only [setL]
        refine J_iinc (v := nI (i + 1)) dX0_suffices_55 rfl (nI_1 i) (by decide) rfl ?_
        dsimp only [setL]
        refine J_goto (tgt := 5) dX0_suffices_58 (by decide) ?_
        refine J_dropN 5 ?_
        have q := ih (i + 1) (by omega)
        first
        | (rw [sfF_b cL] at q; exact q)
        | (rw [sfF_a (l := M.1 (k + 2)) (i := i) c2] at q; exact q)
set_option maxRecDepth 100000 in
set_option maxHeartbeats 1000000 in
theorem tX0_suffices {d : Nat} {M : Mem} {Φ : Option Int32 → Mem → Prop} {k n : Nat} {s y : Int32} {f : Nat → Int32} (hB : BinAt k) (hn : M.1 k 3 = nI n) (hnb : n ≤ 20) (h1 : (sfF (M.1 (k + 2)) y f s n).2 = 0 → Φ (some 1) (wa M (k + 3) (sfF (M.1 (k + 2)) y f s n).1)) (h0 : ¬ (sfF (M.1 (k + 2)) y f s n).2 = 0 → Φ (some 0) (wa M (k + 3) (sfF (M.1 (k + 2)) y f s n).1)) : JM noRo (d + 1) mX0_suffices 0 [some (.ref k), some (.int s), some (.int y)] [] (wa M (k + 3) f) Φ := by
  obtain ⟨sk, sa, sl, sf, lk, la, ll, lf⟩ := id hB
  refine J_iload_n dX0_suffices_0 rfl ?_
  refine J_istore_n dX0_suffices_1 (by decide) rfl ?_
  dsimp only [setL]
  refine J_iconst (v := 0) dX0_suffices_2 (by decide) ?_
  refine J_istore dX0_suffices_3 (by decide) rfl ?_
  dsimp only [setL]
  exact tX0_suff_l hB hn hnb h1 h0 n 0 (by omega)
set_option maxRecDepth 100000 in
set_option maxHeartbeats 1000000 in
theorem tX0_nights_l {d : Nat} {M : Mem} {Φ : Option Int32 → Mem → Prop} {k n : Nat} {s y : Int32} (hB : BinAt k) (hn : M.1 k 3 = nI n) (hnb : n ≤ 20) : ∀ (m t : Nat) (f : Nat → Int32), t + m = 400 → (∀ g, Φ (some (nI (ngt (M.1 (k + 2)) s y n m t f))) (wa M (k + 3) g)) → JM noRo (d + 2) mX0_nightsFor 17 [some (.ref k), some (.int s), some (.int y), some (.int (nI t))] [] (wa M (k + 3) f) Φ := by
  obtain ⟨sk, sa, sl, sf, lk, la, ll, lf⟩ := id hB
  intro m
  induction m with
  | zero =>
    intro t f hi h
    refine J_iload_n dX0_nightsFor_17 rfl ?_
    refine J_sipush (v := 400) dX0_nightsFor_18 (by decide) ?_
    refine J_icmp_ge (tgt := 43) dX0_nightsFor_21 (by decide) (fun c1 => ?_) (fun c1 => ?_)
    · -- to 43
      obtain rfl : t = 400 := by omega
      refine J_sipush (v := 400) dX0_nightsFor_43 (by decide) ?_
      refine M_iret dX0_nightsFor_46 rfl rfl ?_
      exact h _
    · -- on 24
      exact absurd (nI_le (a := 400) (by omega) (by omega)) c1
  | succ m ih =>
    intro t f hi h
    refine J_iload_n dX0_nightsFor_17 rfl ?_
    refine J_sipush (v := 400) dX0_nightsFor_18 (by decide) ?_
    refine J_icmp_ge (tgt := 43) dX0_nightsFor_21 (by decide) (fun c1 => ?_) (fun c1 => ?_)
    · -- to 43
      exact absurd c1 (nI_ge (b := 400) (by omega) (by omega))
    · -- on 24
      refine J_aload_n dX0_nightsFor_24 rfl ?_
      refine J_iload_n dX0_nightsFor_25 rfl ?_
      refine J_iload_n dX0_nightsFor_26 rfl ?_
      refine J_iload_n dX0_nightsFor_27 rfl ?_
      refine J_iadd dX0_nightsFor_28 ?_
      refine M_callV2 (mc := mX0_suffices) dX0_nightsFor_29 kX0_38 oX0_suffices (Nat.le_of_ble_eq_true rfl) (Nat.le_of_ble_eq_true rfl) sk lk rfl ?_
      refine tX0_suffices hB hn hnb (fun hz => ?_) (fun hz => ?_)
      · -- true
        refine J_if_ne (tgt := 37) dX0_nightsFor_32 (by decide) (fun c3 => ?_) (fun c3 => ?_)
        · -- to 37
          refine J_iinc (v := nI (t + 1)) dX0_nightsFor_37 rfl (nI_1 t) (by decide) rfl ?_
          dsimp only [setL]
          refine J_goto (tgt := 17) dX0_nightsFor_40 (by decide) ?_
          rw [ngt, if_pos hz] at h
          exact ih (t + 1) _ (by omega) h
        · -- on 35
          exact absurd c3 (by decide)
      · -- false
        refine J_if_ne (tgt := 37) dX0_nightsFor_32 (by decide) (fun c4 => ?_) (fun c4 => ?_)
        · -- to 37
          exact absurd c4 (by decide)
        · -- on 35
          refine J_iload_n dX0_nightsFor_35 rfl ?_
          refine M_iret dX0_nightsFor_36 rfl rfl ?_
          rw [ngt, if_neg hz] at h
          exact h _
set_option maxRecDepth 100000 in
set_option maxHeartbeats 1000000 in
theorem tX0_nightsFor {d : Nat} {M : Mem} {Φ : Option Int32 → Mem → Prop} {k n : Nat} {s y : Int32} (hB : BinAt k) (hn : M.1 k 3 = nI n) (hnb : n ≤ 20) (h : ∀ g, Φ (some (nI (ngt (M.1 (k + 2)) s y n 400 0 (va_cpy (M.1 (k + 1)) (M.1 (k + 3)) 0 0 20)))) (wa M (k + 3) g)) : JM noRo (d + 2) mX0_nightsFor 0 [some (.ref k), some (.int s), some (.int y)] [] M Φ := by
  obtain ⟨sk, sa, sl, sf, lk, la, ll, lf⟩ := id hB
  refine J_aload_n dX0_nightsFor_0 rfl ?_
  refine M_getR dX0_nightsFor_1 fX0_9 sk rfl lk ?_
  refine J_iconst (v := 0) dX0_nightsFor_4 (by decide) ?_
  refine J_aload_n dX0_nightsFor_5 rfl ?_
  refine M_getR dX0_nightsFor_6 fX0_18 sk rfl lk ?_
  refine J_iconst (v := 0) dX0_nightsFor_9 (by decide) ?_
  refine J_bipush (v := 20) dX0_nightsFor_10 (by decide) ?_
  refine M_copy dX0_nightsFor_12 kX0_32 cp_nat cp_sta cp_ini (Nat.le_of_ble_eq_true rfl) sa la sf lf (by decide) (by decide) (by decide) (by decide) (by decide) ?_
  refine J_iconst (v := 0) dX0_nightsFor_15 (by decide) ?_
  refine J_istore_n dX0_nightsFor_16 (by decide) rfl ?_
  dsimp only [setL]
  exact tX0_nights_l hB hn hnb 400 0 _ rfl h
set_option maxRecDepth 100000 in
set_option maxHeartbeats 1000000 in
theorem tY_foretold {d : Nat} {M : Mem} {Φ : Option Int32 → Mem → Prop} {n : Nat} {x : Int32} (hn : M.1 1 6 = nI n) (hnb : n ≤ 12) (hc : ∀ b, b < 4 → ∃ m, m ≤ 20 ∧ M.1 (34 + 4 * b) 3 = nI m) (h0 : ¬ Ix x 4 → Φ (some (-1)) M) (h1 : ∀ b m, b < 4 → x = nI b → m ≤ 20 → M.1 (34 + 4 * b) 3 = nI m → ∀ g, Φ (some (nI (ngt (M.1 (34 + 4 * b + 2)) (l_sum (fun j => M.1 6 (j * 4 + b)) n) (M.1 0 12) m 400 0 (va_cpy (M.1 (34 + 4 * b + 1)) (M.1 (34 + 4 * b + 3)) 0 0 20)))) (wa M (34 + 4 * b + 3) g)) : JM noRo (d + 3) mX11_foretold 0 [some (.ref 0), some (.int x)] [] M Φ := by
  refine J_iload_n dX11_foretold_0 rfl ?_
  refine M_callS1 (mc := mX11_isBin) dX11_foretold_1 kX11_201 oX11_isBin (Nat.le_of_ble_eq_true rfl) (Nat.le_of_ble_eq_true rfl) ?_
  refine tX11_isBin (fun b hb e => ?_) (fun q1 => ?_)
  · -- true
    subst e
    obtain ⟨m, hm, ec⟩ := hc b hb
    refine J_if_ne (tgt := 9) dX11_foretold_4 (by decide) (fun c2 => ?_) (fun c2 => ?_)
    · -- to 9
      refine J_aload_n dX11_foretold_9 rfl ?_
      refine M_getR dX11_foretold_10 fX11_74 rfl rfl (by decide) ?_
      refine J_iload_n dX11_foretold_13 rfl ?_
      refine M_aaldE dX11_foretold_14 rfl (by first | rfl | assumption) (by omega) ?_
      refine J_aload_n dX11_foretold_15 rfl ?_
      refine M_getR dX11_foretold_16 fX11_12 rfl rfl (by decide) ?_
      refine J_iload_n dX11_foretold_19 rfl ?_
      refine M_callV1 (mc := mX1_wantedByAll) dX11_foretold_20 kX11_235 oX1_wantedByAll (Nat.le_of_ble_eq_true rfl) (Nat.le_of_ble_eq_true rfl) rfl (by decide) rfl ?_
      refine tX1_wantedByAll hn hnb hb ?_
      refine J_aload_n dX11_foretold_23 rfl ?_
      refine M_getI dX11_foretold_24 fX11_97 rfl rfl (by decide) ?_
      refine M_callV2 (mc := mX0_nightsFor) dX11_foretold_27 kX11_238 oX0_nightsFor (Nat.le_of_ble_eq_true rfl) (Nat.le_of_ble_eq_true rfl) (binAt hb).1 (binAt hb).2.2.2.2.1 rfl ?_
      refine tX0_nightsFor (binAt hb) ec hm (fun g => ?_)
      refine M_iret dX11_foretold_30 rfl rfl ?_
      first
      | exact h0 q1
      | exact h1 b m hb rfl hm ec g
    · -- on 7
      exact absurd c2 (by decide)
  · -- false
    refine J_if_ne (tgt := 9) dX11_foretold_4 (by decide) (fun c5 => ?_) (fun c5 => ?_)
    · -- to 9
      exact absurd c5 (by decide)
    · -- on 7
      refine J_iconst (v := -1) dX11_foretold_7 (by decide) ?_
      refine M_iret dX11_foretold_8 rfl rfl ?_
      first
      | exact h0 q1
      | exact h1 b m hb rfl hm ec g

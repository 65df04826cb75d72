def BinAt (k : Nat) : Prop := SK k = .inl (0, [k + 3, k + 4, k + 5, 0, 0]) ∧ SK (k + 1) = .inr (.inl (0, 20)) ∧ SK (k + 2) = .inr (.inl (0, 20)) ∧ SK (k + 3) = .inr (.inl (0, 20)) ∧ k < NC ∧ k + 1 < NC ∧ k + 2 < NC ∧ k + 3 < NC
theorem binAt {b : Nat} (hb : b < 4) : BinAt (34 + 4 * b) := by
  match b, hb with
  | 0, _ => exact ⟨rfl, rfl, rfl, rfl, by decide, by decide, by decide, by decide⟩
  | 1, _ => exact ⟨rfl, rfl, rfl, rfl, by decide, by decide, by decide, by decide⟩
  | 2, _ => exact ⟨rfl, rfl, rfl, rfl, by decide, by decide, by decide, by decide⟩
  | 3, _ => exact ⟨rfl, rfl, rfl, rfl, by decide, by decide, by decide, by decide⟩
  | n + 4, q => exact absurd q (by omega)
theorem l_sum_cong {f g : Nat → Int32} : ∀ {n : Nat}, (∀ i, i < n → f i = g i) → l_sum f n = l_sum g n
  | 0, _ => rfl
  | n + 1, h => by rw [l_sum, l_sum, l_sum_cong (fun i hi => h i (by omega)), h n (by omega)]
set_option maxRecDepth 100000 in
set_option maxHeartbeats 1000000 in
theorem tX0_total_l {d : Nat} {M : Mem} {Φ : Option Int32 → Mem → Prop} {k n : Nat} (hB : BinAt k) (hn : M.1 k 3 = nI n) (hnb : n ≤ 20) (h : Φ (some (l_sum (M.1 (k + 1)) n)) M) : ∀ m i : Nat, i + m = n → JM noRo d mX0_total 4 [some (.ref k), some (.int (l_sum (M.1 (k + 1)) i)), some (.int (nI i))] [] M Φ := by
  obtain ⟨sk, sa, sl, sf, lk, la, ll, lf⟩ := hB
  intro m
  induction m with
  | zero =>
    intro i hi
    refine J_iload_n dX0_total_4 rfl ?_
    refine J_aload_n dX0_total_5 rfl ?_
    refine M_getI dX0_total_6 fX0_21 sk rfl lk ?_
    refine J_icmp_ge (tgt := 27) dX0_total_9 (by decide) (fun c1 => ?_) (fun c1 => ?_)
    · -- to 27
      refine J_iload_n dX0_total_27 rfl ?_
      refine M_iret dX0_total_28 rfl rfl ?_
      obtain rfl : i = n := by omega
      exact h
    · -- on 12
      exact absurd (by rw [hn]; exact nI_le (by omega) (by omega)) c1
  | succ m ih =>
    intro i hi
    refine J_iload_n dX0_total_4 rfl ?_
    refine J_aload_n dX0_total_5 rfl ?_
    refine M_getI dX0_total_6 fX0_21 sk rfl lk ?_
    refine J_icmp_ge (tgt := 27) dX0_total_9 (by decide) (fun c1 => ?_) (fun c1 => ?_)
    · -- to 27
      exact absurd c1 (by rw [hn]; exact nI_ge (by omega) (by omega))
    · -- on 12
      refine J_iload_n dX0_total_12 rfl ?_
      refine J_aload_n dX0_total_13 rfl ?_
      refine M_getR dX0_total_14 fX0_9 sk rfl lk ?_
      refine J_iload_n dX0_total_17 rfl ?_
      refine M_ialdE dX0_total_18 sa ⟨la, by decide⟩ (by first | rfl | assumption) (by omega) ?_
      refine J_iadd dX0_total_19 ?_
      refine J_istore_n dX0_total_20 (by decide) rfl ?_
      dsimp only [setL]
      refine J_iinc (v := nI (i + 1)) dX0_total_21 rfl (nI_1 i) (by decide) rfl ?_
      dsimp only [setL]
      refine J_goto (tgt := 4) dX0_total_24 (by decide) ?_
      exact ih (i + 1) (by omega)
set_option maxRecDepth 100000 in
set_option maxHeartbeats 1000000 in
theorem tX0_total {d : Nat} {M : Mem} {Φ : Option Int32 → Mem → Prop} {k n : Nat} (hB : BinAt k) (hn : M.1 k 3 = nI n) (hnb : n ≤ 20) (h : Φ (some (l_sum (M.1 (k + 1)) n)) M) : JM noRo d mX0_total 0 [some (.ref k)] [] M Φ := by
  refine J_iconst (v := 0) dX0_total_0 (by decide) ?_
  refine J_istore_n dX0_total_1 (by decide) rfl ?_
  dsimp only [setL]
  refine J_iconst (v := 0) dX0_total_2 (by decide) ?_
  refine J_istore_n dX0_total_3 (by decide) rfl ?_
  dsimp only [setL]
  exact tX0_total_l hB hn hnb h n 0 (by omega)
def binV (c s : Int32) (a l : Nat → Int32) (n : Nat) (y : Int32) : Int32 := if y = 0 then c else if y = 1 then l_sum a n else if y = 2 then s else if y = 3 then (if c ≤ 0 then -1 else l 0) else -1
set_option maxRecDepth 100000 in
set_option maxHeartbeats 1000000 in
theorem tY_bin {d : Nat} {M : Mem} {Φ : Option Int32 → Mem → Prop} {x y : Int32} (hc : ∀ b, b < 4 → ∃ n, n ≤ 20 ∧ M.1 (34 + 4 * b) 3 = nI n) (h0 : ¬ Ix x 4 → Φ (some (-1)) M) (h1 : ∀ b n : Nat, b < 4 → x = nI b → n ≤ 20 → M.1 (34 + 4 * b) 3 = nI n → Φ (some (binV (M.1 (34 + 4 * b) 3) (M.1 (34 + 4 * b) 4) (M.1 (34 + 4 * b + 1)) (M.1 (34 + 4 * b + 2)) n y)) M) : JM noRo (d + 2) mX11_bin 0 [some (.ref 0), some (.int x), some (.int y)] [] M Φ := by
  refine J_iload_n dX11_bin_0 rfl ?_
  refine M_callS1 (mc := mX11_isBin) dX11_bin_1 kX11_201 oX11_isBin (Nat.le_of_ble_eq_true rfl) (Nat.le_of_ble_eq_true rfl) ?_
  refine tX11_isBin (fun b hb e => ?_) (fun q1 => ?_)
  · -- true
    subst e
    obtain ⟨n, hn, ec⟩ := hc b hb
    have hz := h1 b n hb rfl hn ec
    refine J_if_ne (tgt := 9) dX11_bin_4 (by decide) (fun c2 => ?_) (fun c2 => ?_)
    · -- to 9
      refine J_iload_n dX11_bin_9 rfl ?_
      by_cases s0 : y = 0
      · subst s0
        refine J_tabIn (off := 30) (tgt := 40) dX11_bin_10 (by decide) (by decide) rfl (by decide) ?_
        refine J_aload_n dX11_bin_40 rfl ?_
        refine M_getR dX11_bin_41 fX11_74 rfl rfl (by decide) ?_
        refine J_iload_n dX11_bin_44 rfl ?_
        refine M_aaldE dX11_bin_45 rfl (by first | rfl | assumption) (by omega) ?_
        refine M_callV0 (mc := mX0_count) dX11_bin_46 kX11_225 oX0_count (Nat.le_of_ble_eq_true rfl) (Nat.le_of_ble_eq_true rfl) (binAt hb).1 (binAt hb).2.2.2.2.1 rfl ?_
        refine tX0_count hb ?_
        refine M_iret dX11_bin_49 rfl rfl ?_
        first
        | exact h0 q1
        | (rw [show 34 + 4 * b + 2 = 36 + 4 * b from by omega] at hz; exact hz)
        | exact hz
        | (simp only [binV, if_neg s0, if_neg s1, if_neg s2, if_neg s3] at hz; exact hz)
      by_cases s1 : y = 1
      · subst s1
        refine J_tabIn (off := 40) (tgt := 50) dX11_bin_10 (by decide) (by decide) rfl (by decide) ?_
        refine J_aload_n dX11_bin_50 rfl ?_
        refine M_getR dX11_bin_51 fX11_74 rfl rfl (by decide) ?_
        refine J_iload_n dX11_bin_54 rfl ?_
        refine M_aaldE dX11_bin_55 rfl (by first | rfl | assumption) (by omega) ?_
        refine M_callV0 (mc := mX0_total) dX11_bin_56 kX11_226 oX0_total (Nat.le_of_ble_eq_true rfl) (Nat.le_of_ble_eq_true rfl) (binAt hb).1 (binAt hb).2.2.2.2.1 rfl ?_
        refine tX0_total (binAt hb) ec hn ?_
        refine M_iret dX11_bin_59 rfl rfl ?_
        first
        | exact h0 q1
        | (rw [show 34 + 4 * b + 2 = 36 + 4 * b from by omega] at hz; exact hz)
        | exact hz
        | (simp only [binV, if_neg s0, if_neg s1, if_neg s2, if_neg s3] at hz; exact hz)
      by_cases s2 : y = 2
      · subst s2
        refine J_tabIn (off := 50) (tgt := 60) dX11_bin_10 (by decide) (by decide) rfl (by decide) ?_
        refine J_aload_n dX11_bin_60 rfl ?_
        refine M_getR dX11_bin_61 fX11_74 rfl rfl (by decide) ?_
        refine J_iload_n dX11_bin_64 rfl ?_
        refine M_aaldE dX11_bin_65 rfl (by first | rfl | assumption) (by omega) ?_
        refine M_callV0 (mc := mX0_spoiltSoFar) dX11_bin_66 kX11_229 oX0_spoiltSoFar (Nat.le_of_ble_eq_true rfl) (Nat.le_of_ble_eq_true rfl) (binAt hb).1 (binAt hb).2.2.2.2.1 rfl ?_
        refine tX0_spoiltSoFar hb ?_
        refine M_iret dX11_bin_69 rfl rfl ?_
        first
        | exact h0 q1
        | (rw [show 34 + 4 * b + 2 = 36 + 4 * b from by omega] at hz; exact hz)
        | exact hz
        | (simp only [binV, if_neg s0, if_neg s1, if_neg s2, if_neg s3] at hz; exact hz)
      by_cases s3 : y = 3
      · subst s3
        refine J_tabIn (off := 60) (tgt := 70) dX11_bin_10 (by decide) (by decide) rfl (by decide) ?_
        refine J_aload_n dX11_bin_70 rfl ?_
        refine M_getR dX11_bin_71 fX11_74 rfl rfl (by decide) ?_
        refine J_iload_n dX11_bin_74 rfl ?_
        refine M_aaldE dX11_bin_75 rfl (by first | rfl | assumption) (by omega) ?_
        refine M_callV0 (mc := mX0_firstLast) dX11_bin_76 kX11_232 oX0_firstLast (Nat.le_of_ble_eq_true rfl) (Nat.le_of_ble_eq_true rfl) (binAt hb).1 (binAt hb).2.2.2.2.1 rfl ?_
        refine tX0_firstLast hb ?_
        refine M_iret dX11_bin_79 rfl rfl ?_
        first
        | exact h0 q1
        | (rw [show 34 + 4 * b + 2 = 36 + 4 * b from by omega] at hz; exact hz)
        | exact hz
        | (simp only [binV, if_neg s0, if_neg s1, if_neg s2, if_neg s3] at hz; exact hz)
      refine J_tabOut (tgt := 80) dX11_bin_10 (sw_out3 s0 s1 s2 s3) (by decide) ?_
      refine J_iconst (v := -1) dX11_bin_80 (by decide) ?_
      refine M_iret dX11_bin_81 rfl rfl ?_
      first
      | exact h0 q1
      | (rw [show 34 + 4 * b + 2 = 36 + 4 * b from by omega] at hz; exact hz)
      | exact hz
      | (simp only [binV, if_neg s0, if_neg s1, if_neg s2, if_neg s3] at hz; exact hz)
    · -- on 7
      exact absurd c2 (by decide)
  · -- false
    refine J_if_ne (tgt := 9) dX11_bin_4 (by decide) (fun c7 => ?_) (fun c7 => ?_)
    · -- to 9
      exact absurd c7 (by decide)
    · -- on 7
      refine J_iconst (v := -1) dX11_bin_7 (by decide) ?_
      refine M_iret dX11_bin_8 rfl rfl ?_
      first
      | exact h0 q1
      | (rw [show 34 + 4 * b + 2 = 36 + 4 * b from by omega] at hz; exact hz)
      | exact hz
      | (simp only [binV, if_neg s0, if_neg s1, if_neg s2, if_neg s3] at hz; exact hz)
set_option maxRecDepth 100000 in
set_option maxHeartbeats 1000000 in
theorem tM_bin_l {d : Nat} {M : Mem} {Φ : Option Int32 → Mem → Prop} {n b : Nat} (hb : b < 4) (hn : M.1 87 b = nI n) (hnb : n ≤ 20) (h : Φ (some (l_sum (fun i => M.1 88 (20 * b + i)) n)) M) : ∀ m i : Nat, i + m = n → JM noRo d mX12_bin 52 [some (.ref 62), some (.int (nI b)), some (.int 1), some (.int (l_sum (fun i => M.1 88 (20 * b + i)) i)), some (.int (nI i))] [] M Φ := by
  intro m
  induction m with
  | zero =>
    intro i hi
    refine J_iload dX12_bin_52 rfl ?_
    refine J_aload_n dX12_bin_54 rfl ?_
    refine M_getR dX12_bin_55 fX12_87 rfl rfl (by decide) ?_
    refine J_iload_n dX12_bin_58 rfl ?_
    refine M_ialdE dX12_bin_59 rfl (by decide) (by first | rfl | assumption) (by omega) ?_
    refine J_icmp_ge (tgt := 84) dX12_bin_60 (by decide) (fun c1 => ?_) (fun c1 => ?_)
    · -- to 84
      refine J_iload_n dX12_bin_84 rfl ?_
      refine M_iret dX12_bin_85 rfl rfl ?_
      obtain rfl : i = n := by omega
      exact h
    · -- on 63
      exact absurd (by rw [hn]; exact nI_le (by omega) (by omega)) c1
  | succ m ih =>
    intro i hi
    refine J_iload dX12_bin_52 rfl ?_
    refine J_aload_n dX12_bin_54 rfl ?_
    refine M_getR dX12_bin_55 fX12_87 rfl rfl (by decide) ?_
    refine J_iload_n dX12_bin_58 rfl ?_
    refine M_ialdE dX12_bin_59 rfl (by decide) (by first | rfl | assumption) (by omega) ?_
    refine J_icmp_ge (tgt := 84) dX12_bin_60 (by decide) (fun c1 => ?_) (fun c1 => ?_)
    · -- to 84
      exact absurd c1 (by rw [hn]; exact nI_ge (by omega) (by omega))
    · -- on 63
      refine J_iload_n dX12_bin_63 rfl ?_
      refine J_aload_n dX12_bin_64 rfl ?_
      refine M_getR dX12_bin_65 fX12_90 rfl rfl (by decide) ?_
      refine J_bipush (v := 20) dX12_bin_68 (by decide) ?_
      refine J_iload_n dX12_bin_70 rfl ?_
      refine J_imul dX12_bin_71 ?_
      refine J_iload dX12_bin_72 rfl ?_
      refine J_iadd dX12_bin_74 ?_
      refine M_ialdE dX12_bin_75 rfl (by decide) (ixm2 b 20 i) (by omega) ?_
      refine J_iadd dX12_bin_76 ?_
      refine J_istore_n dX12_bin_77 (by decide) rfl ?_
      dsimp only [setL]
      refine J_iinc (v := nI (i + 1)) dX12_bin_78 rfl (nI_1 i) (by decide) rfl ?_
      dsimp only [setL]
      refine J_goto (tgt := 52) dX12_bin_81 (by decide) ?_
      exact ih (i + 1) (by omega)
set_option maxRecDepth 100000 in
set_option maxHeartbeats 1000000 in
theorem tM_bin {d : Nat} {M : Mem} {Φ : Option Int32 → Mem → Prop} {x y : Int32} (hc : ∀ b, b < 4 → ∃ n, n ≤ 20 ∧ M.1 87 b = nI n) (h0 : ¬ Ix x 4 → Φ (some (-1)) M) (h1 : ∀ b n : Nat, b < 4 → x = nI b → n ≤ 20 → M.1 87 b = nI n → Φ (some (binV (M.1 87 b) (M.1 90 b) (fun i => M.1 88 (20 * b + i)) (fun i => M.1 89 (20 * b + i)) n y)) M) : JM noRo (d + 1) mX12_bin 0 [some (.ref 62), some (.int x), some (.int y)] [] M Φ := by
  refine J_iload_n dX12_bin_0 rfl ?_
  refine M_callS1 (mc := mX12_isBin) dX12_bin_1 kX12_324 oX12_isBin (Nat.le_of_ble_eq_true rfl) (Nat.le_of_ble_eq_true rfl) ?_
  refine tX12_isBin (fun b hb e => ?_) (fun q1 => ?_)
  · -- true
    subst e
    obtain ⟨n, hn, ec⟩ := hc b hb
    have hz := h1 b n hb rfl hn ec
    refine J_if_ne (tgt := 9) dX12_bin_4 (by decide) (fun c2 => ?_) (fun c2 => ?_)
    · -- to 9
      refine J_iload_n dX12_bin_9 rfl ?_
      by_cases s0 : y = 0
      · subst s0
        refine J_tabIn (off := 30) (tgt := 40) dX12_bin_10 (by decide) (by decide) rfl (by decide) ?_
        refine J_aload_n dX12_bin_40 rfl ?_
        refine M_getR dX12_bin_41 fX12_87 rfl rfl (by decide) ?_
        refine J_iload_n dX12_bin_44 rfl ?_
        refine M_ialdE dX12_bin_45 rfl (by decide) (by first | rfl | assumption) (by omega) ?_
        refine M_iret dX12_bin_46 rfl rfl ?_
        first
        | exact h0 q1
        | exact hz
        | (have e3 : binV (M.1 87 b) (M.1 90 b) (fun i => M.1 88 (20 * b + i)) (fun i => M.1 89 (20 * b + i)) n 3 = if M.1 87 b ≤ 0 then -1 else M.1 89 (20 * b + 0) := rfl
           rw [e3] at hz
           first
           | (rw [if_pos c2] at hz; exact hz)
           | (rw [if_neg c2] at hz; exact hz))
        | (simp only [binV, if_neg s0, if_neg s1, if_neg s2, if_neg s3] at hz; exact hz)
      by_cases s1 : y = 1
      · subst s1
        refine J_tabIn (off := 37) (tgt := 47) dX12_bin_10 (by decide) (by decide) rfl (by decide) ?_
        refine J_iconst (v := 0) dX12_bin_47 (by decide) ?_
        refine J_istore_n dX12_bin_48 (by decide) rfl ?_
        dsimp only [setL]
        refine J_iconst (v := 0) dX12_bin_49 (by decide) ?_
        refine J_istore dX12_bin_50 (by decide) rfl ?_
        dsimp only [setL]
        exact tM_bin_l hb ec hn hz n 0 (by omega)
      by_cases s2 : y = 2
      · subst s2
        refine J_tabIn (off := 76) (tgt := 86) dX12_bin_10 (by decide) (by decide) rfl (by decide) ?_
        refine J_aload_n dX12_bin_86 rfl ?_
        refine M_getR dX12_bin_87 fX12_96 rfl rfl (by decide) ?_
        refine J_iload_n dX12_bin_90 rfl ?_
        refine M_ialdE dX12_bin_91 rfl (by decide) (by first | rfl | assumption) (by omega) ?_
        refine M_iret dX12_bin_92 rfl rfl ?_
        first
        | exact h0 q1
        | exact hz
        | (have e3 : binV (M.1 87 b) (M.1 90 b) (fun i => M.1 88 (20 * b + i)) (fun i => M.1 89 (20 * b + i)) n 3 = if M.1 87 b ≤ 0 then -1 else M.1 89 (20 * b + 0) := rfl
           rw [e3] at hz
           first
           | (rw [if_pos c2] at hz; exact hz)
           | (rw [if_neg c2] at hz; exact hz))
        | (simp only [binV, if_neg s0, if_neg s1, if_neg s2, if_neg s3] at hz; exact hz)
      by_cases s3 : y = 3
      · subst s3
        refine J_tabIn (off := 83) (tgt := 93) dX12_bin_10 (by decide) (by decide) rfl (by decide) ?_
        refine J_aload_n dX12_bin_93 rfl ?_
        refine M_getR dX12_bin_94 fX12_87 rfl rfl (by decide) ?_
        refine J_iload_n dX12_bin_97 rfl ?_
        refine M_ialdE dX12_bin_98 rfl (by decide) (by first | rfl | assumption) (by omega) ?_
        refine J_if_le (tgt := 114) dX12_bin_99 (by decide) (fun c3 => ?_) (fun c3 => ?_)
        · -- to 114
          refine J_iconst (v := -1) dX12_bin_114 (by decide) ?_
          refine M_iret dX12_bin_115 rfl rfl ?_
          first
          | exact h0 q1
          | exact hz
          | (have e3 : binV (M.1 87 b) (M.1 90 b) (fun i => M.1 88 (20 * b + i)) (fun i => M.1 89 (20 * b + i)) n 3 = if M.1 87 b ≤ 0 then -1 else M.1 89 (20 * b + 0) := rfl
             rw [e3] at hz
             first
             | (rw [if_pos c3] at hz; exact hz)
             | (rw [if_neg c3] at hz; exact hz))
          | (simp only [binV, if_neg s0, if_neg s1, if_neg s2, if_neg s3] at hz; exact hz)
        · -- on 102
          refine J_aload_n dX12_bin_102 rfl ?_
          refine M_getR dX12_bin_103 fX12_93 rfl rfl (by decide) ?_
          refine J_bipush (v := 20) dX12_bin_106 (by decide) ?_
          refine J_iload_n dX12_bin_108 rfl ?_
          refine J_imul dX12_bin_109 ?_
          refine M_ialdE dX12_bin_110 rfl (by decide) (show (20 : Int32) * nI b = nI (20 * b + 0) from pk_mul 20 b) (by omega) ?_
          refine J_goto (tgt := 115) dX12_bin_111 (by decide) ?_
          refine M_iret dX12_bin_115 rfl rfl ?_
          first
          | exact h0 q1
          | exact hz
          | (have e3 : binV (M.1 87 b) (M.1 90 b) (fun i => M.1 88 (20 * b + i)) (fun i => M.1 89 (20 * b + i)) n 3 = if M.1 87 b ≤ 0 then -1 else M.1 89 (20 * b + 0) := rfl
             rw [e3] at hz
             first
             | (rw [if_pos c3] at hz; exact hz)
             | (rw [if_neg c3] at hz; exact hz))
          | (simp only [binV, if_neg s0, if_neg s1, if_neg s2, if_neg s3] at hz; exact hz)
      refine J_tabOut (tgt := 116) dX12_bin_10 (sw_out3 s0 s1 s2 s3) (by decide) ?_
      refine J_iconst (v := -1) dX12_bin_116 (by decide) ?_
      refine M_iret dX12_bin_117 rfl rfl ?_
      first
      | exact h0 q1
      | exact hz
      | (have e3 : binV (M.1 87 b) (M.1 90 b) (fun i => M.1 88 (20 * b + i)) (fun i => M.1 89 (20 * b + i)) n 3 = if M.1 87 b ≤ 0 then -1 else M.1 89 (20 * b + 0) := rfl
         rw [e3] at hz
         first
         | (rw [if_pos c2] at hz; exact hz)
         | (rw [if_neg c2] at hz; exact hz))
      | (simp only [binV, if_neg s0, if_neg s1, if_neg s2, if_neg s3] at hz; exact hz)
    · -- on 7
      exact absurd c2 (by decide)
  · -- false
    refine J_if_ne (tgt := 9) dX12_bin_4 (by decide) (fun c4 => ?_) (fun c4 => ?_)
    · -- to 9
      exact absurd c4 (by decide)
    · -- on 7
      refine J_iconst (v := -1) dX12_bin_7 (by decide) ?_
      refine M_iret dX12_bin_8 rfl rfl ?_
      first
      | exact h0 q1
      | exact hz
      | (have e3 : binV (M.1 87 b) (M.1 90 b) (fun i => M.1 88 (20 * b + i)) (fun i => M.1 89 (20 * b + i)) n 3 = if M.1 87 b ≤ 0 then -1 else M.1 89 (20 * b + 0) := rfl
         rw [e3] at hz
         first
         | (rw [if_pos c4] at hz; exact hz)
         | (rw [if_neg c4] at hz; exact hz))
      | (simp only [binV, if_neg s0, if_neg s1, if_neg s2, if_neg s3] at hz; exact hz)
theorem E6_at {M : Mem} (h : E6 M) : ∀ b, b < 4 → B6 (M.1 (34 + 4 * b + 1)) (M.1 (34 + 4 * b + 2)) (M.1 (34 + 4 * b)) (M.1 88) (M.1 89) (M.1 87) (20 * b) b ∧ M.1 (34 + 4 * b) 4 = M.1 90 b := by
  intro b hb
  match b, hb with
  | 0, _ => exact ⟨h.1, h.2.2.2.2.1⟩
  | 1, _ => exact ⟨h.2.1, h.2.2.2.2.2.1⟩
  | 2, _ => exact ⟨h.2.2.1, h.2.2.2.2.2.2.1⟩
  | 3, _ => exact ⟨h.2.2.2.1, h.2.2.2.2.2.2.2⟩
  | n + 4, q => exact absurd q (by omega)
set_option maxRecDepth 100000 in
set_option maxHeartbeats 2000000 in
theorem pr_bin {X : Mem → Prop} {x y : Int32} : Pair (INV X) mX11_bin mX12_bin [.int x, .int y] := by
  intro M hM
  obtain ⟨h1, h2, ⟨n, t, k, w, h3, h5⟩, h4, h6, hXM⟩ := id hM
  obtain ⟨g1, g2, g3, g4, i1, i2, i3, i4, i5, i6, i7, i8⟩ := id h3
  obtain ⟨b1, b2, b3, b4, b5, b6⟩ := id h2
  obtain ⟨a0, a1, a2, a3, a4, a5, a6, a7, a8, a9, a10, a11, a12, a13, a14, a15, a16, a17, a18, a19⟩ := id h1
  have hE := E6_at h6
  have hc1 : ∀ b, b < 4 → ∃ n, n ≤ 20 ∧ M.1 (34 + 4 * b) 3 = nI n := fun b hb => by
    obtain ⟨⟨xs, q1, q2, -⟩, -⟩ := hE b hb
    exact ⟨xs.length, q1, q2⟩
  have hc2 : ∀ b, b < 4 → ∃ n, n ≤ 20 ∧ M.1 87 b = nI n := fun b hb => by
    obtain ⟨⟨xs, q1, -, q2, -⟩, -⟩ := hE b hb
    exact ⟨xs.length, q1, q2⟩
  refine tY_bin hc1 (fun q => ⟨_, rfl, ?_⟩) (fun b n hb ex hn ec => ⟨_, rfl, ?_⟩)
  · exact tM_bin hc2 (fun _ => ⟨rfl, hM⟩) (fun b n hb e1 _ _ => absurd ⟨b, hb, e1⟩ q)
  · refine tM_bin hc2 (fun q => absurd ⟨b, hb, ex⟩ q) (fun b2 n2 hb2 e1 hn2 ec2 => ⟨?_, hM⟩)
    have eb := (nI_eq (by omega) (by omega)).mp (ex.symm.trans e1)
    subst eb
    obtain ⟨⟨xs, q1, q2, q3, q4, -⟩, q5⟩ := hE b hb
    have en := (nI_eq (by omega) (by omega)).mp (ec.symm.trans q2)
    have en2 := (nI_eq (by omega) (by omega)).mp (ec2.symm.trans q3)
    subst en; subst en2
    have hs : l_sum (M.1 (34 + 4 * b + 1)) xs.length = l_sum (fun i => M.1 88 (20 * b + i)) xs.length := l_sum_cong (fun i hi => by
      have z := (q4 i hi).1.symm.trans (q4 i hi).2
      simp only [Option.some.injEq, Prod.mk.injEq] at z
      exact z.1)
    simp only [binV, hs, q2, q3, q5]
    by_cases hl : xs.length = 0
    · simp [hl, nI_0]
    · have z := (q4 0 (by omega)).1.symm.trans (q4 0 (by omega)).2
      simp only [Option.some.injEq, Prod.mk.injEq] at z
      rw [z.2]

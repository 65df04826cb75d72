theorem mn_ge {r s : Int32} (h : s ≤ r) : mn r s = s := by
  unfold mn
  by_cases q : s < r
  · rw [if_pos q]
  · rw [if_neg q]
    exact Int32.le_antisymm (Int32.not_lt.mp q) h
theorem mn_lt {r s : Int32} (h : ¬ s ≤ r) : mn r s = r := if_neg (fun q => h (Int32.le_of_lt q))
theorem mn_nI {a b : Nat} (ha : a < 2 ^ 31) (hb : b < 2 ^ 31) : mn (nI a) (nI b) = nI (min a b) := by
  by_cases q : b ≤ a
  · rw [mn_ge (nI_le q ha), Nat.min_eq_right q]
  · rw [mn_lt (nI_ge (by omega) hb), Nat.min_eq_left (by omega)]
def NN (f : Nat → Int32) (n : Nat) : Prop := ∀ i, i < n → ∃ v : Nat, v < 2 ^ 31 ∧ f i = nI v
theorem sf_nn {l : Nat → Int32} {y : Int32} {f : Nat → Int32} {s : Int32} {n : Nat} (hf : NN f n) (hs : ∃ v : Nat, v < 2 ^ 31 ∧ s = nI v) : ∀ i, i ≤ n → NN (sfF l y f s i).1 n ∧ ∃ v : Nat, v < 2 ^ 31 ∧ (sfF l y f s i).2 = nI v
  | 0, _ => ⟨hf, hs⟩
  | i + 1, hi => by
    obtain ⟨h1, v, hv, e⟩ := sf_nn (l := l) (y := y) hf hs i (by omega)
    by_cases q : l i < y
    · rw [sfF_a q]; exact ⟨h1, v, hv, e⟩
    · rw [sfF_b q]
      obtain ⟨u, hu, e2⟩ := h1 i (by omega)
      have em : mn ((sfF l y f s i).1 i) (sfF l y f s i).2 = nI (min u v) := by rw [e, e2, mn_nI hu hv]
      refine ⟨fun j hj => ?_, v - min u v, by omega, by show _ - _ = _; rw [em, e, pk_sub (by omega)]⟩
      by_cases hji : j = i
      · subst hji
        exact ⟨u - min u v, by omega, by show upd _ _ _ _ = _; rw [updS, em, e2, pk_sub (by omega)]⟩
      · obtain ⟨z, hz, e3⟩ := h1 j hj
        exact ⟨z, hz, by show upd _ _ _ _ = _; rw [updN hji]; exact e3⟩
theorem sf_0 {l : Nat → Int32} {y : Int32} {f : Nat → Int32} {s : Int32} {n i : Nat} (hf : NN f n) (hs : ∃ v : Nat, v < 2 ^ 31 ∧ s = nI v) (h0 : (sfF l y f s i).2 = 0) : ∀ j, i ≤ j → j ≤ n → sfF l y f s j = sfF l y f s i
  | 0, h1, _ => by rw [show i = 0 by omega]
  | j + 1, h1, h2 => by
    by_cases hij : i = j + 1
    · rw [hij]
    · have ih := sf_0 hf hs h0 j (by omega) (by omega)
      by_cases q : l j < y
      · rw [sfF_a q, ih]
      · obtain ⟨u, hu, e2⟩ := (sf_nn (l := l) (y := y) hf hs i (by omega)).1 j (by omega)
        have em : mn (nI u) 0 = 0 := mn_ge (nI_pos' hu)
        rw [sfF_b q, ih, h0, e2, em]
        refine Prod.ext ?_ ?_
        · funext a
          by_cases ha : a = j
          · subst ha
            show upd _ _ _ _ = _
            rw [updS, e2]; simp
          · show upd _ _ _ _ = _
            rw [updN ha]
        · show (0 : Int32) - 0 = _
          rw [h0]; decide
theorem sf_cong {l l2 f f2 : Nat → Int32} {y s : Int32} {n : Nat} (hl : ∀ i, i < n → l i = l2 i) (hf : ∀ i, i < n → f i = f2 i) : ∀ i, i ≤ n → (sfF l y f s i).2 = (sfF l2 y f2 s i).2 ∧ ∀ j, j < n → (sfF l y f s i).1 j = (sfF l2 y f2 s i).1 j
  | 0, _ => ⟨rfl, hf⟩
  | i + 1, hi => by
    obtain ⟨h1, h2⟩ := sf_cong (y := y) (s := s) hl hf i (by omega)
    by_cases q : l i < y
    · rw [sfF_a q, sfF_a (by rw [← hl i (by omega)]; exact q)]; exact ⟨h1, h2⟩
    · rw [sfF_b q, sfF_b (by rw [← hl i (by omega)]; exact q), h1, h2 i (by omega)]
      refine ⟨rfl, fun j hj => ?_⟩
      show upd _ _ _ _ = upd _ _ _ _
      by_cases hji : j = i
      · subst hji; rw [updS, updS]
      · rw [updN hji, updN hji, h2 j hj]
theorem ngt_cong {l l2 : Nat → Int32} {w day : Int32} {n : Nat} (hl : ∀ i, i < n → l i = l2 i) : ∀ (m t : Nat) (f f2 : Nat → Int32), (∀ i, i < n → f i = f2 i) → ngt l w day n m t f = ngt l2 w day n m t f2
  | 0, _, _, _, _ => rfl
  | m + 1, t, f, f2, hf => by
    obtain ⟨h1, h2⟩ := sf_cong (y := day + nI t) (s := w) hl hf n (Nat.le_refl _)
    rw [ngt, ngt, h1, ngt_cong hl m (t + 1) _ _ h2]
set_option maxRecDepth 100000 in
set_option maxHeartbeats 1000000 in
theorem tM_fo_i {d : Nat} {M : Mem} {Φ : Option Int32 → Mem → Prop} {b n t : Nat} {s : Int32} {f : Nat → Int32} (hb : b < 4) (hn : M.1 87 b = nI n) (hnb : n ≤ 20) (hf : NN f n) (hs : ∃ v : Nat, v < 2 ^ 31 ∧ s = nI v) (h : JM noRo d mX12_foretold 181 [some (.ref 62), some (.int (nI b)), some (.int s), some (.int (nI t)), some (.int (sfF (fun i => M.1 89 (20 * b + i)) (M.1 62 0 + nI t) f s n).2)] [] (wa M 101 (sfF (fun i => M.1 89 (20 * b + i)) (M.1 62 0 + nI t) f s n).1) Φ) : ∀ m i : Nat, i + m = n → JM noRo d mX12_foretold 90 [some (.ref 62), some (.int (nI b)), some (.int s), some (.int (nI t)), some (.int (sfF (fun i => M.1 89 (20 * b + i)) (M.1 62 0 + nI t) f s i).2), some (.int (nI i))] [] (wa M 101 (sfF (fun i => M.1 89 (20 * b + i)) (M.1 62 0 + nI t) f s i).1) Φ := by
  intro m
  induction m with
  | zero =>
    intro i hi
    refine J_iload dX12_foretold_90 rfl ?_
    refine J_aload_n dX12_foretold_92 rfl ?_
    refine M_getR dX12_foretold_93 fX12_87 rfl rfl (by decide) ?_
    refine J_iload_n dX12_foretold_96 rfl ?_
    refine M_ialdE dX12_foretold_97 rfl (by decide) (by first | rfl | assumption) (by omega) ?_
    rw [rdb (by decide), hn]
    refine J_icmp_ge (tgt := 181) dX12_foretold_98 (by decide) (fun c1 => ?_) (fun c1 => ?_)
    · -- to 181
      refine J_dropN 5 ?_
      obtain rfl : i = n := by omega
      exact h
    · -- on 101
      exact absurd (nI_le (by omega) (by omega)) c1
  | succ m ih =>
    intro i hi
    refine J_iload dX12_foretold_90 rfl ?_
    refine J_aload_n dX12_foretold_92 rfl ?_
    refine M_getR dX12_foretold_93 fX12_87 rfl rfl (by decide) ?_
    refine J_iload_n dX12_foretold_96 rfl ?_
    refine M_ialdE dX12_foretold_97 rfl (by decide) (by first | rfl | assumption) (by omega) ?_
    rw [rdb (by decide), hn]
    refine J_icmp_ge (tgt := 181) dX12_foretold_98 (by decide) (fun c1 => ?_) (fun c1 => ?_)
    · -- to 181
      exact absurd c1 (nI_ge (by omega) (by omega))
    · -- on 101
      refine J_iload dX12_foretold_101 rfl ?_
      refine J_if_le (tgt := 181) dX12_foretold_103 (by decide) (fun c2 => ?_) (fun c2 => ?_)
      · -- to 181
        refine J_dropN 5 ?_
        obtain ⟨-, v, hv, ev⟩ := sf_nn (l := (fun i => M.1 89 (20 * b + i))) (y := M.1 62 0 + nI t) hf hs i (by omega)
        have e0 : (sfF (fun i => M.1 89 (20 * b + i)) (M.1 62 0 + nI t) f s i).2 = 0 := by
          rw [ev] at c2 ⊢
          rcases Nat.eq_zero_or_pos v with q | q
          · rw [q]; rfl
          · exact absurd c2 (nI_nle q hv)
        rw [sf_0 hf hs e0 n (by omega) (Nat.le_refl _)] at h
        exact h
      · -- on 106
        refine J_aload_n dX12_foretold_106 rfl ?_
        refine M_getR dX12_foretold_107 fX12_93 rfl rfl (by decide) ?_
        refine J_bipush (v := 20) dX12_foretold_110 (by decide) ?_
        refine J_iload_n dX12_foretold_112 rfl ?_
        refine J_imul dX12_foretold_113 ?_
        refine J_iload dX12_foretold_114 rfl ?_
        refine J_iadd dX12_foretold_116 ?_
        refine M_ialdE dX12_foretold_117 rfl (by decide) (ixm2 b 20 i) (by omega) ?_
        rw [rdb (by decide)]
        refine J_aload_n dX12_foretold_118 rfl ?_
        refine M_getI dX12_foretold_119 fX12_135 rfl rfl (by decide) ?_
        rw [rdb (by decide)]
        refine J_iload_n dX12_foretold_122 rfl ?_
        refine J_iadd dX12_foretold_123 ?_
        refine J_icmp_ge (tgt := 130) dX12_foretold_124 (by decide) (fun c3 => ?_) (fun c3 => ?_)
        · -- to 130
          have cD := c3
          refine J_aload_n dX12_foretold_130 rfl ?_
          refine M_getR dX12_foretold_131 fX12_129 rfl rfl (by decide) ?_
          refine J_iload dX12_foretold_134 rfl ?_
          refine M_ialdE dX12_foretold_136 rfl (by decide) (by first | rfl | assumption) (by omega) ?_
          rw [rda]
          refine J_iload dX12_foretold_137 rfl ?_
          refine J_icmp_ge (tgt := 152) dX12_foretold_139 (by decide) (fun c4 => ?_) (fun c4 => ?_)
          · -- to 152
            refine J_iload dX12_foretold_152 rfl ?_
            refine J_istore dX12_foretold_154 (by decide) rfl ?_
            dsimp only [setL]
            refine J_aload_n dX12_foretold_156 rfl ?_
            refine M_getR dX12_foretold_157 fX12_129 rfl rfl (by decide) ?_
            refine J_iload dX12_foretold_160 rfl ?_
            refine J_dup2 dX12_foretold_162 rfl rfl ?_
            refine M_ialdE dX12_foretold_163 rfl (by decide) (by first | rfl | assumption) (by omega) ?_
            rw [rda]
            refine J_iload dX12_foretold_164 rfl ?_
            refine J_isub dX12_foretold_166 ?_
            refine M_iastE dX12_foretold_167 rfl (by decide) (by first | rfl | assumption) (by omega) ?_
            rw [wa_wr]
            refine J_iload dX12_foretold_168 rfl ?_
            refine J_iload dX12_foretold_170 rfl ?_
            refine J_isub dX12_foretold_172 ?_
            refine J_istore dX12_foretold_173 (by decide) rfl ?_
            dsimp only [setL]
            refine J_iinc (v := nI (i + 1)) dX12_foretold_175 rfl (nI_1 i) (by decide) rfl ?_
            dsimp only [setL]
            refine J_goto (tgt := 90) dX12_foretold_178 (by decide) ?_
            refine J_dropN 6 ?_
            have q := ih (i + 1) (by omega)
            first
            | (rw [sfF_b (l := (fun i => M.1 89 (20 * b + i))) (i := i) (y := M.1 62 0 + nI t) (Int32.not_lt.mpr cD), mn_ge c4] at q; exact q)
            | (rw [sfF_b (l := (fun i => M.1 89 (20 * b + i))) (i := i) (y := M.1 62 0 + nI t) (Int32.not_lt.mpr cD), mn_lt c4] at q; exact q)
            | (rw [sfF_a (l := (fun i => M.1 89 (20 * b + i))) (i := i) (y := M.1 62 0 + nI t) (Int32.not_le.mp c4)] at q; exact q)
          · -- on 142
            refine J_aload_n dX12_foretold_142 rfl ?_
            refine M_getR dX12_foretold_143 fX12_129 rfl rfl (by decide) ?_
            refine J_iload dX12_foretold_146 rfl ?_
            refine M_ialdE dX12_foretold_148 rfl (by decide) (by first | rfl | assumption) (by omega) ?_
            rw [rda]
            refine J_goto (tgt := 154) dX12_foretold_149 (by decide) ?_
            refine J_istore dX12_foretold_154 (by decide) rfl ?_
            dsimp only [setL]
            refine J_aload_n dX12_foretold_156 rfl ?_
            refine M_getR dX12_foretold_157 fX12_129 rfl rfl (by decide) ?_
            refine J_iload dX12_foretold_160 rfl ?_
            refine J_dup2 dX12_foretold_162 rfl rfl ?_
            refine M_ialdE dX12_foretold_163 rfl (by decide) (by first | rfl | assumption) (by omega) ?_
            rw [rda]
            refine J_iload dX12_foretold_164 rfl ?_
            refine J_isub dX12_foretold_166 ?_
            refine M_iastE dX12_foretold_167 rfl (by decide) (by first | rfl | assumption) (by omega) ?_
            rw [wa_wr]
            refine J_iload dX12_foretold_168 rfl ?_
            refine J_iload dX12_foretold_170 rfl ?_
            refine J_isub dX12_foretold_172 ?_
            refine J_istore dX12_foretold_173 (by decide) rfl ?_
            dsimp only [setL]
            refine J_iinc (v := nI (i + 1)) dX12_foretold_175 rfl (nI_1 i) (by decide) rfl ?_
            dsimp only [setL]
            refine J_goto (tgt := 90) dX12_foretold_178 (by decide) ?_
            refine J_dropN 6 ?_
            have q := ih (i + 1) (by omega)
            first
            | (rw [sfF_b (l := (fun i => M.1 89 (20 * b + i))) (i := i) (y := M.1 62 0 + nI t) (Int32.not_lt.mpr cD), mn_ge c4] at q; exact q)
            | (rw [sfF_b (l := (fun i => M.1 89 (20 * b + i))) (i := i) (y := M.1 62 0 + nI t) (Int32.not_lt.mpr cD), mn_lt c4] at q; exact q)
            | (rw [sfF_a (l := (fun i => M.1 89 (20 * b + i))) (i := i) (y := M.1 62 0 + nI t) (Int32.not_le.mp c4)] at q; exact q)
        · -- on 127
          refine J_goto (tgt := 175) dX12_foretold_127 (by decide) ?_
          refine J_iinc (v := nI (i + 1)) dX12_foretold_175 rfl (nI_1 i) (by decide) rfl ?_
          dsimp only [setL]
          refine J_goto (tgt := 90) dX12_foretold_178 (by decide) ?_
          refine J_dropN 6 ?_
          have q := ih (i + 1) (by omega)
          first
          | (rw [sfF_b (l := (fun i => M.1 89 (20 * b + i))) (i := i) (y := M.1 62 0 + nI t) (Int32.not_lt.mpr cD), mn_ge c3] at q; exact q)
          | (rw [sfF_b (l := (fun i => M.1 89 (20 * b + i))) (i := i) (y := M.1 62 0 + nI t) (Int32.not_lt.mpr cD), mn_lt c3] at q; exact q)
          | (rw [sfF_a (l := (fun i => M.1 89 (20 * b + i))) (i := i) (y := M.1 62 0 + nI t) (Int32.not_le.mp c3)] at q; exact q)

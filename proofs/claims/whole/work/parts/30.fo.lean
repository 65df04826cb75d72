def cpF (f g : Nat → Int32) (i : Nat) : Nat → Int32 := fun j => if j < i then f j else g j
theorem cpF_s {f g : Nat → Int32} {i : Nat} : upd (cpF f g i) i (f i) = cpF f g (i + 1) := by
  funext j
  by_cases h : j = i
  · subst h; rw [updS]; simp [cpF]
  · rw [updN h]
    unfold cpF
    by_cases h2 : j < i
    · rw [if_pos h2, if_pos (by omega)]
    · rw [if_neg h2, if_neg (by omega)]
theorem cpF_0 {f g : Nat → Int32} : cpF f g 0 = g := by
  funext j
  exact if_neg (by omega)
theorem l_sum_nn {g : Nat → Int32} (h : ∀ j, ∃ v : Nat, v ≤ 50 ∧ g j = nI v) : ∀ n, ∃ v : Nat, v ≤ 50 * n ∧ l_sum g n = nI v
  | 0 => ⟨0, by omega, rfl⟩
  | n + 1 => by
    obtain ⟨v, hv, e⟩ := l_sum_nn h n
    obtain ⟨u, hu, e2⟩ := h n
    exact ⟨v + u, by omega, by rw [l_sum, e, e2, nI_add]⟩
set_option maxRecDepth 100000 in
set_option maxHeartbeats 1000000 in
theorem tM_fo_n {d : Nat} {M : Mem} {Φ : Option Int32 → Mem → Prop} {b n : Nat} {s : Int32} (hb : b < 4) (hn : M.1 87 b = nI n) (hnb : n ≤ 20) (hs : ∃ v : Nat, v < 2 ^ 31 ∧ s = nI v) : ∀ (m t : Nat) (f : Nat → Int32), t + m = 400 → NN f n → (∀ g, Φ (some (nI (ngt (fun i => M.1 89 (20 * b + i)) s (M.1 62 0) n m t f))) (wa M 101 g)) → JM noRo d mX12_foretold 77 [some (.ref 62), some (.int (nI b)), some (.int s), some (.int (nI t))] [] (wa M 101 f) Φ := by
  intro m
  induction m with
  | zero =>
    intro t f hi hf h
    refine J_iload_n dX12_foretold_77 rfl ?_
    refine J_sipush (v := 400) dX12_foretold_78 (by decide) ?_
    refine J_icmp_ge (tgt := 194) dX12_foretold_81 (by decide) (fun c1 => ?_) (fun c1 => ?_)
    · -- to 194
      refine J_sipush (v := 400) dX12_foretold_194 (by decide) ?_
      refine M_iret dX12_foretold_197 rfl rfl ?_
      obtain rfl : t = 400 := by omega
      exact h _
    · -- on 84
      exact absurd (nI_le (a := 400) (by omega) (by omega)) c1
  | succ m ih =>
    intro t f hi hf h
    refine J_iload_n dX12_foretold_77 rfl ?_
    refine J_sipush (v := 400) dX12_foretold_78 (by decide) ?_
    refine J_icmp_ge (tgt := 194) dX12_foretold_81 (by decide) (fun c1 => ?_) (fun c1 => ?_)
    · -- to 194
      exact absurd c1 (nI_ge (b := 400) (by omega) (by omega))
    · -- on 84
      refine J_iload_n dX12_foretold_84 rfl ?_
      refine J_istore dX12_foretold_85 (by decide) rfl ?_
      dsimp only [setL]
      refine J_iconst (v := 0) dX12_foretold_87 (by decide) ?_
      refine J_istore dX12_foretold_88 (by decide) rfl ?_
      dsimp only [setL]
      refine tM_fo_i (f := f) hb hn hnb hf hs ?_ n 0 (by omega)
      refine J_iload dX12_foretold_181 rfl ?_
      refine J_if_le (tgt := 188) dX12_foretold_183 (by decide) (fun c51 => ?_) (fun c51 => ?_)
      · -- to 188
        refine J_iinc (v := nI (t + 1)) dX12_foretold_188 rfl (nI_1 t) (by decide) rfl ?_
        dsimp only [setL]
        refine J_goto (tgt := 77) dX12_foretold_191 (by decide) ?_
        obtain ⟨hN, v, hv, ev⟩ := sf_nn (l := (fun i => M.1 89 (20 * b + i))) (y := M.1 62 0 + nI t) hf hs n (Nat.le_refl _)
        have e0 : (sfF (fun i => M.1 89 (20 * b + i)) (M.1 62 0 + nI t) f s n).2 = 0 := by
          rw [ev] at c51 ⊢
          rcases Nat.eq_zero_or_pos v with q | q
          · rw [q]; rfl
          · exact absurd c51 (nI_nle q hv)
        rw [ngt, if_pos e0] at h
        refine J_dropN 4 ?_
        exact ih (t + 1) _ (by omega) hN h
      · -- on 186
        refine J_iload_n dX12_foretold_186 rfl ?_
        refine M_iret dX12_foretold_187 rfl rfl ?_
        rw [ngt, if_neg (fun q => c51 (by rw [q]; decide))] at h
        exact h _
set_option maxRecDepth 100000 in
set_option maxHeartbeats 1000000 in
theorem tM_fo_c {d : Nat} {M : Mem} {Φ : Option Int32 → Mem → Prop} {b n : Nat} {s : Int32} (hb : b < 4) (hn : M.1 87 b = nI n) (hnb : n ≤ 20) (h : JM noRo d mX12_foretold 75 [some (.ref 62), some (.int (nI b)), some (.int s)] [] (wa M 101 (cpF (fun i => M.1 88 (20 * b + i)) (M.1 101) n)) Φ) : ∀ m i : Nat, i + m = n → JM noRo d mX12_foretold 42 [some (.ref 62), some (.int (nI b)), some (.int s), some (.int (nI i))] [] (wa M 101 (cpF (fun i => M.1 88 (20 * b + i)) (M.1 101) i)) Φ := by
  intro m
  induction m with
  | zero =>
    intro i hi
    refine J_iload_n dX12_foretold_42 rfl ?_
    refine J_aload_n dX12_foretold_43 rfl ?_
    refine M_getR dX12_foretold_44 fX12_87 rfl rfl (by decide) ?_
    refine J_iload_n dX12_foretold_47 rfl ?_
    refine M_ialdE dX12_foretold_48 rfl (by decide) (by first | rfl | assumption) (by omega) ?_
    rw [rdb (by decide), hn]
    refine J_icmp_ge (tgt := 75) dX12_foretold_49 (by decide) (fun c1 => ?_) (fun c1 => ?_)
    · -- to 75
      refine J_dropN 3 ?_
      obtain rfl : i = n := by omega
      exact h
    · -- on 52
      exact absurd (nI_le (by omega) (by omega)) c1
  | succ m ih =>
    intro i hi
    refine J_iload_n dX12_foretold_42 rfl ?_
    refine J_aload_n dX12_foretold_43 rfl ?_
    refine M_getR dX12_foretold_44 fX12_87 rfl rfl (by decide) ?_
    refine J_iload_n dX12_foretold_47 rfl ?_
    refine M_ialdE dX12_foretold_48 rfl (by decide) (by first | rfl | assumption) (by omega) ?_
    rw [rdb (by decide), hn]
    refine J_icmp_ge (tgt := 75) dX12_foretold_49 (by decide) (fun c1 => ?_) (fun c1 => ?_)
    · -- to 75
      exact absurd c1 (nI_ge (by omega) (by omega))
    · -- on 52
      refine J_aload_n dX12_foretold_52 rfl ?_
      refine M_getR dX12_foretold_53 fX12_129 rfl rfl (by decide) ?_
      refine J_iload_n dX12_foretold_56 rfl ?_
      refine J_aload_n dX12_foretold_57 rfl ?_
      refine M_getR dX12_foretold_58 fX12_90 rfl rfl (by decide) ?_
      refine J_bipush (v := 20) dX12_foretold_61 (by decide) ?_
      refine J_iload_n dX12_foretold_63 rfl ?_
      refine J_imul dX12_foretold_64 ?_
      refine J_iload_n dX12_foretold_65 rfl ?_
      refine J_iadd dX12_foretold_66 ?_
      refine M_ialdE dX12_foretold_67 rfl (by decide) (ixm2 b 20 i) (by omega) ?_
      rw [rdb (by decide)]
      refine M_iastE dX12_foretold_68 rfl (by decide) (by first | rfl | assumption) (by omega) ?_
      rw [wa_wr, cpF_s (f := fun i => M.1 88 (20 * b + i))]
      refine J_iinc (v := nI (i + 1)) dX12_foretold_69 rfl (nI_1 i) (by decide) rfl ?_
      dsimp only [setL]
      refine J_goto (tgt := 42) dX12_foretold_72 (by decide) ?_
      exact ih (i + 1) (by omega)
set_option maxRecDepth 100000 in
set_option maxHeartbeats 1000000 in
theorem tM_fo_s {d : Nat} {M : Mem} {Φ : Option Int32 → Mem → Prop} {n b : Nat} (hn : M.1 62 1 = nI n) (hnb : n ≤ 12) (hb : b < 4) (h : JM noRo d mX12_foretold 40 [some (.ref 62), some (.int (nI b)), some (.int (l_sum (fun j => M.1 68 (4 * j + b)) n))] [] M Φ) : ∀ m i : Nat, i + m = n → JM noRo d mX12_foretold 13 [some (.ref 62), some (.int (nI b)), some (.int (l_sum (fun j => M.1 68 (4 * j + b)) i)), some (.int (nI i))] [] M Φ := by
  intro m
  induction m with
  | zero =>
    intro i hi
    refine J_iload_n dX12_foretold_13 rfl ?_
    refine J_aload_n dX12_foretold_14 rfl ?_
    refine M_getI dX12_foretold_15 fX12_132 rfl rfl (by decide) ?_
    refine J_icmp_ge (tgt := 40) dX12_foretold_18 (by decide) (fun c1 => ?_) (fun c1 => ?_)
    · -- to 40
      refine J_dropN 3 ?_
      obtain rfl : i = n := by omega
      exact h
    · -- on 21
      exact absurd (by rw [hn]; exact nI_le (by omega) (by omega)) c1
  | succ m ih =>
    intro i hi
    refine J_iload_n dX12_foretold_13 rfl ?_
    refine J_aload_n dX12_foretold_14 rfl ?_
    refine M_getI dX12_foretold_15 fX12_132 rfl rfl (by decide) ?_
    refine J_icmp_ge (tgt := 40) dX12_foretold_18 (by decide) (fun c1 => ?_) (fun c1 => ?_)
    · -- to 40
      exact absurd c1 (by rw [hn]; exact nI_ge (by omega) (by omega))
    · -- on 21
      refine J_iload_n dX12_foretold_21 rfl ?_
      refine J_aload_n dX12_foretold_22 rfl ?_
      refine M_getR dX12_foretold_23 fX12_25 rfl rfl (by decide) ?_
      refine J_iconst (v := 4) dX12_foretold_26 (by decide) ?_
      refine J_iload_n dX12_foretold_27 rfl ?_
      refine J_imul dX12_foretold_28 ?_
      refine J_iload_n dX12_foretold_29 rfl ?_
      refine J_iadd dX12_foretold_30 ?_
      refine M_ialdE dX12_foretold_31 rfl (by decide) (ixm2 i 4 b) (by omega) ?_
      refine J_iadd dX12_foretold_32 ?_
      refine J_istore_n dX12_foretold_33 (by decide) rfl ?_
      dsimp only [setL]
      refine J_iinc (v := nI (i + 1)) dX12_foretold_34 rfl (nI_1 i) (by decide) rfl ?_
      dsimp only [setL]
      refine J_goto (tgt := 13) dX12_foretold_37 (by decide) ?_
      exact ih (i + 1) (by omega)
set_option maxRecDepth 100000 in
set_option maxHeartbeats 1000000 in
theorem tM_foretold {d : Nat} {M : Mem} {Φ : Option Int32 → Mem → Prop} {n : Nat} {x : Int32} (hn : M.1 62 1 = nI n) (hnb : n ≤ 12) (hc : ∀ b, b < 4 → ∃ m, m ≤ 20 ∧ M.1 87 b = nI m) (hT : ∀ j, ∃ v : Nat, v ≤ 50 ∧ M.1 68 j = nI v) (hNN : ∀ b m, b < 4 → M.1 87 b = nI m → m ≤ 20 → NN (fun i => M.1 88 (20 * b + i)) m) (h0 : ¬ Ix x 4 → Φ (some (-1)) M) (h1 : ∀ b m, b < 4 → x = nI b → m ≤ 20 → M.1 87 b = nI m → ∀ g, Φ (some (nI (ngt (fun i => M.1 89 (20 * b + i)) (l_sum (fun j => M.1 68 (4 * j + b)) n) (M.1 62 0) m 400 0 (cpF (fun i => M.1 88 (20 * b + i)) (M.1 101) m)))) (wa M 101 g)) : JM noRo (d + 1) mX12_foretold 0 [some (.ref 62), some (.int x)] [] M Φ := by
  refine J_iload_n dX12_foretold_0 rfl ?_
  refine M_callS1 (mc := mX12_isBin) dX12_foretold_1 kX12_324 oX12_isBin (Nat.le_of_ble_eq_true rfl) (Nat.le_of_ble_eq_true rfl) ?_
  refine tX12_isBin (fun b hb e => ?_) (fun q1 => ?_)
  · -- true
    subst e
    obtain ⟨m, hm, ec⟩ := hc b hb
    refine J_if_ne (tgt := 9) dX12_foretold_4 (by decide) (fun c2 => ?_) (fun c2 => ?_)
    · -- to 9
      refine J_iconst (v := 0) dX12_foretold_9 (by decide) ?_
      refine J_istore_n dX12_foretold_10 (by decide) rfl ?_
      dsimp only [setL]
      refine J_iconst (v := 0) dX12_foretold_11 (by decide) ?_
      refine J_istore_n dX12_foretold_12 (by decide) rfl ?_
      dsimp only [setL]
      refine tM_fo_s hn hnb hb ?_ n 0 (by omega)
      refine J_iconst (v := 0) dX12_foretold_40 (by decide) ?_
      refine J_istore_n dX12_foretold_41 (by decide) rfl ?_
      dsimp only [setL]
      obtain ⟨v, hv, ev⟩ := l_sum_nn (g := fun j => M.1 68 (4 * j + b)) (fun j => hT _) n
      have hcl := fun h9 => tM_fo_c (d := d + 1) (M := M) (Φ := Φ) (s := l_sum (fun j => M.1 68 (4 * j + b)) n) hb ec hm h9 m 0 (by omega)
      rw [cpF_0, wa_self] at hcl
      refine hcl ?_
      refine J_iconst (v := 0) dX12_foretold_75 (by decide) ?_
      refine J_istore_n dX12_foretold_76 (by decide) rfl ?_
      dsimp only [setL]
      refine tM_fo_n hb ec hm ⟨v, by omega, ev⟩ 400 0 _ rfl (fun i hi => ?_) (h1 b m hb rfl hm ec)
      obtain ⟨u, hu, eu⟩ := hNN b m hb ec hm i hi
      exact ⟨u, hu, by unfold cpF; rw [if_pos hi]; exact eu⟩
    · -- on 7
      exact absurd c2 (by decide)
  · -- false
    refine J_if_ne (tgt := 9) dX12_foretold_4 (by decide) (fun c3 => ?_) (fun c3 => ?_)
    · -- to 9
      exact absurd c3 (by decide)
    · -- on 7
      refine J_iconst (v := -1) dX12_foretold_7 (by decide) ?_
      refine M_iret dX12_foretold_8 rfl rfl ?_
      exact h0 q1

theorem tX12_nxN {d n p : Nat} {T : Nat → Nat} {N : Mem} {Φ : Option Int32 → Mem → Prop} (hnb : n ≤ 1000) (hT : ∀ i, N.1 81 i = nI (T i) ∧ T i < 256) (hp : p ≤ n) (ha : N.1 62 29 = nI p) (hs : N.1 62 30 = nI n) (h : ∀ g w, TkR (N.1 62) g w (lexT T n p) → Φ none (RM N g w)) : JM noRo (d + 2) mX12_next 0 [some (.ref 62)] [] N Φ := by
  have q := tM_next (d := d) (M := N) (n := n) (T := T) (p := p) (g := N.1 62) (w := N.2 62) (Φ := Φ) hnb hT hp ha hs h
  rw [RM_self] at q
  exact q
/-- what is refused is refused with a fault of 1 to 3 -/
def VG (r : PRs) : Prop := ∀ v, r.1 = some v → 0 < v.1 ∧ v.1 < 4
theorem rfu_v {x : PSt} {f : Nat} (hf : 0 < f ∧ f < 4) : VG (rfu x f) := by
  intro v h
  unfold rfu at h
  cases h
  show 0 < (if x.1.1 = 1 then 1 else f) ∧ (if x.1.1 = 1 then 1 else f) < 4
  split <;> omega
theorem thn_v {r : PRs} {f : PSt → PRs} (h1 : VG r) (h2 : ∀ y, VG (f y)) : VG (thn r f) := by
  unfold thn
  split
  · exact h2 _
  · exact h1
theorem none_v {y : PSt} : VG (none, y) := fun v h => by cases h
theorem opd_v {lim : Nat} {x : PSt} : VG (opd lim x) := by
  unfold opd
  repeat' split
  all_goals first
    | exact none_v
    | exact rfu_v (by decide)
theorem ite_v {c : Prop} [Decidable c] {a b : PRs} (ha : VG a) (hb : VG b) : VG (if c then a else b) := by
  by_cases q : c
  · rw [if_pos q]; exact ha
  · rw [if_neg q]; exact hb
theorem prs_v {T : Nat → Nat} {n lim : Nat} : ∀ {k q d : Nat} {x : PSt}, VG (prs T n lim k q d x)
  | 0, q, d, x => rfu_v (by decide)
  | k + 1, q, d, x => by
    have ih : ∀ q d x, VG (prs T n lim k q d x) := fun q d x => prs_v
    rw [prs]
    repeat' with_reducible refine ite_v ?_ ?_
    · exact thn_v (ih _ _ _) (fun y => ih _ _ _)
    · exact thn_v (ih _ _ _) (fun y => ih _ _ _)
    · exact none_v
    · exact thn_v (ih _ _ _) (fun y => ih _ _ _)
    · exact thn_v (ih _ _ _) (fun y => ih _ _ _)
    · exact none_v
    · exact rfu_v (by decide)
    · exact thn_v (ih _ _ _) (fun y => none_v)
    · exact ih _ _ _
    · refine thn_v (ih _ _ _) (fun y => ?_)
      exact ite_v (thn_v (ih _ _ _) (fun y => none_v)) none_v
    · exact thn_v (ih _ _ _) (fun y => ih _ _ _)
    · exact thn_v (ih _ _ _) (fun y => ih _ _ _)
    · exact none_v
    · exact thn_v opd_v (fun y => none_v)
    · refine thn_v (ih _ _ _) (fun y => ?_)
      exact ite_v none_v (rfu_v (by decide))
    · exact rfu_v (by decide)
set_option maxRecDepth 100000 in
set_option maxHeartbeats 1000000 in
theorem tM_rl_l {d : Nat} {Φ : Option Int32 → Mem → Prop} {M0 : Mem} {T : Nat → Nat} {n : Nat} (hnb : n ≤ 1000) (hT : ∀ i, M0.1 81 i = nI (T i) ∧ T i < 256) : ∀ m x es ps N, es.length + m = 12 → QN M0 N n x es ps → ((rlP T n m x es ps).1 = none → ∀ N, QN M0 N n (rlP T n m x es ps).2.1 (rlP T n m x es ps).2.2.1 (rlP T n m x es ps).2.2.2 → JM noRo (d + 5) mX12_rules 173 [some (.ref 62)] [] N Φ) → (∀ v, (rlP T n m x es ps).1 = some v → ∀ N, QF6 M0 N v → Φ (some (-1)) N) → JM noRo (d + 5) mX12_rules 47 [some (.ref 62)] [] N Φ := by
  have hTT : ∀ i, T i < 256 := fun i => (hT i).2
  intro m
  induction m with
  | zero =>
    intro x es ps N hm hc h1 h0
    have h256 := hc.2.2.2.1.2.2.2.2.2.2.1
    have hm12 : es.length = 12 := by omega
    rw [rlP] at h1 h0
    by_cases hK : x.1.1 = 0
    · rw [if_pos hK] at h1 h0
      refine J_aload_n dX12_rules_47 rfl ?_
      refine M_getI dX12_rules_48 fX12_189 rfl rfl (by decide) ?_
      rw [hc.2.2.2.2.2.2.2.2.2.1]
      refine J_if_ne (tgt := 164) dX12_rules_51 (by decide) (fun c1 => ?_) (fun c1 => ?_)
      · -- to 164
        exact absurd rfl c1
      · -- on 54
        refine J_aload_n dX12_rules_54 rfl ?_
        refine M_getI dX12_rules_55 fX12_177 rfl rfl (by decide) ?_
        rw [hc.2.2.1.2.1]
        refine J_if_eq (tgt := 164) dX12_rules_58 (by decide) (fun c2 => ?_) (fun c2 => ?_)
        · -- to 164
          refine J_aload_n dX12_rules_164 rfl ?_
          refine M_getI dX12_rules_165 fX12_189 rfl rfl (by decide) ?_
          rw [hc.2.2.2.2.2.2.2.2.2.1]
          refine J_if_le (tgt := 173) dX12_rules_168 (by decide) (fun c3 => ?_) (fun c3 => ?_)
          · -- to 173
            refine J_dropN 1 ?_
            exact h1 rfl N hc
          · -- on 171
            exact absurd (by decide) c3
        · -- on 61
          exact absurd ((srt_0 h256).mpr hK) c2
    · rw [if_neg hK] at h1 h0
      have hK0 := hK
      by_cases hK : x.1.1 = 15
      · have hno14 : ¬ x.1.1 = 14 := by omega
        refine J_aload_n dX12_rules_47 rfl ?_
        refine M_getI dX12_rules_48 fX12_189 rfl rfl (by decide) ?_
        rw [hc.2.2.2.2.2.2.2.2.2.1]
        refine J_if_ne (tgt := 164) dX12_rules_51 (by decide) (fun c1 => ?_) (fun c1 => ?_)
        · -- to 164
          exact absurd rfl c1
        · -- on 54
          refine J_aload_n dX12_rules_54 rfl ?_
          refine M_getI dX12_rules_55 fX12_177 rfl rfl (by decide) ?_
          rw [hc.2.2.1.2.1]
          refine J_if_eq (tgt := 164) dX12_rules_58 (by decide) (fun c2 => ?_) (fun c2 => ?_)
          · -- to 164
            exact absurd ((srt_0 h256).mp c2) hK0
          · -- on 61
            refine J_aload_n dX12_rules_61 rfl ?_
            refine J_ldc2 dX12_rules_62 ccX12_250 ?_
            refine M_callV1 (mc := mX12_isWord) dX12_rules_65 kX12_273 oX12_isWord (Nat.le_of_ble_eq_true rfl) (Nat.le_of_ble_eq_true rfl) rfl (by decide) rfl ?_
            refine M_more (d := 0) (Nat.zero_le _) (tX12_isWordN (v := 15) hc (by decide) (by decide) (fun q => ?_) (fun q => absurd hK q))
            refine J_istore_n dX12_rules_68 (by decide) rfl ?_
            dsimp only [setL]
            refine J_iload_n dX12_rules_69 rfl ?_
            refine J_if_ne (tgt := 83) dX12_rules_70 (by decide) (fun c4 => ?_) (fun c4 => ?_)
            · -- to 83
              refine J_aload_n dX12_rules_83 rfl ?_
              refine M_getI dX12_rules_84 fX12_281 rfl rfl (by decide) ?_
              rw [hc.2.2.2.2.2.2.2.2.2.2.2.2.1.1]
              refine J_bipush (v := 12) dX12_rules_87 (by decide) ?_
              refine J_icmp_ne (tgt := 97) dX12_rules_89 (by decide) (fun c5 => ?_) (fun c5 => ?_)
              · -- to 97
                exact absurd (by rw [hm12]; rfl) c5
              · -- on 92
                refine J_aload_n dX12_rules_92 rfl ?_
                refine J_iconst (v := 2) dX12_rules_93 (by decide) ?_
                refine M_callV1 (mc := mX12_wrong) dX12_rules_94 kX12_258 oX12_wrong (Nat.le_of_ble_eq_true rfl) (Nat.le_of_ble_eq_true rfl) rfl (by decide) rfl ?_
                refine M_more (d := 0) (Nat.zero_le _) (tX12_wrongN (f := 2) hc (fun N2 hN => ?_))
                refine J_aload_n dX12_rules_97 rfl ?_
                refine M_getI dX12_rules_98 fX12_189 rfl rfl (by decide) ?_
                refine J_if_le (tgt := 106) dX12_rules_101 (by decide) (fun c7 => ?_) (fun c7 => ?_)
                · -- to 106
                  exact absurd c7 (by rw [hN.2.2.1]; show ¬ nI (if x.1.1 = 1 then 1 else 2) ≤ 0; split <;> decide)
                · -- on 104
                  refine J_iconst (v := -1) dX12_rules_104 (by decide) ?_
                  refine M_iret dX12_rules_105 rfl rfl ?_
                  exact h0 _ rfl N2 hN
            · -- on 73
              exact absurd c4 (by decide)
      · have hno15 := hK
        by_cases hK : x.1.1 = 14
        ·
          refine J_aload_n dX12_rules_47 rfl ?_
          refine M_getI dX12_rules_48 fX12_189 rfl rfl (by decide) ?_
          rw [hc.2.2.2.2.2.2.2.2.2.1]
          refine J_if_ne (tgt := 164) dX12_rules_51 (by decide) (fun c1 => ?_) (fun c1 => ?_)
          · -- to 164
            exact absurd rfl c1
          · -- on 54
            refine J_aload_n dX12_rules_54 rfl ?_
            refine M_getI dX12_rules_55 fX12_177 rfl rfl (by decide) ?_
            rw [hc.2.2.1.2.1]
            refine J_if_eq (tgt := 164) dX12_rules_58 (by decide) (fun c2 => ?_) (fun c2 => ?_)
            · -- to 164
              exact absurd ((srt_0 h256).mp c2) hK0
            · -- on 61
              refine J_aload_n dX12_rules_61 rfl ?_
              refine J_ldc2 dX12_rules_62 ccX12_250 ?_
              refine M_callV1 (mc := mX12_isWord) dX12_rules_65 kX12_273 oX12_isWord (Nat.le_of_ble_eq_true rfl) (Nat.le_of_ble_eq_true rfl) rfl (by decide) rfl ?_
              refine M_more (d := 0) (Nat.zero_le _) (tX12_isWordN (v := 15) hc (by decide) (by decide) (fun q => absurd q hno15) (fun q => ?_))
              refine J_istore_n dX12_rules_68 (by decide) rfl ?_
              dsimp only [setL]
              refine J_iload_n dX12_rules_69 rfl ?_
              refine J_if_ne (tgt := 83) dX12_rules_70 (by decide) (fun c4 => ?_) (fun c4 => ?_)
              · -- to 83
                exact absurd c4 (by decide)
              · -- on 73
                refine J_aload_n dX12_rules_73 rfl ?_
                refine J_ldc2 dX12_rules_74 ccX12_248 ?_
                refine M_callV1 (mc := mX12_isWord) dX12_rules_77 kX12_273 oX12_isWord (Nat.le_of_ble_eq_true rfl) (Nat.le_of_ble_eq_true rfl) rfl (by decide) rfl ?_
                refine M_more (d := 0) (Nat.zero_le _) (tX12_isWordN (v := 14) hc (by decide) (by decide) (fun q => ?_) (fun q => absurd hK q))
                refine J_if_eq (tgt := 92) dX12_rules_80 (by decide) (fun c6 => ?_) (fun c6 => ?_)
                · -- to 92
                  exact absurd c6 (by decide)
                · -- on 83
                  refine J_aload_n dX12_rules_83 rfl ?_
                  refine M_getI dX12_rules_84 fX12_281 rfl rfl (by decide) ?_
                  rw [hc.2.2.2.2.2.2.2.2.2.2.2.2.1.1]
                  refine J_bipush (v := 12) dX12_rules_87 (by decide) ?_
                  refine J_icmp_ne (tgt := 97) dX12_rules_89 (by decide) (fun c7 => ?_) (fun c7 => ?_)
                  · -- to 97
                    exact absurd (by rw [hm12]; rfl) c7
                  · -- on 92
                    refine J_aload_n dX12_rules_92 rfl ?_
                    refine J_iconst (v := 2) dX12_rules_93 (by decide) ?_
                    refine M_callV1 (mc := mX12_wrong) dX12_rules_94 kX12_258 oX12_wrong (Nat.le_of_ble_eq_true rfl) (Nat.le_of_ble_eq_true rfl) rfl (by decide) rfl ?_
                    refine M_more (d := 0) (Nat.zero_le _) (tX12_wrongN (f := 2) hc (fun N2 hN => ?_))
                    refine J_aload_n dX12_rules_97 rfl ?_
                    refine M_getI dX12_rules_98 fX12_189 rfl rfl (by decide) ?_
                    refine J_if_le (tgt := 106) dX12_rules_101 (by decide) (fun c9 => ?_) (fun c9 => ?_)
                    · -- to 106
                      exact absurd c9 (by rw [hN.2.2.1]; show ¬ nI (if x.1.1 = 1 then 1 else 2) ≤ 0; split <;> decide)
                    · -- on 104
                      refine J_iconst (v := -1) dX12_rules_104 (by decide) ?_
                      refine M_iret dX12_rules_105 rfl rfl ?_
                      exact h0 _ rfl N2 hN
        · have hno14 := hK
          refine J_aload_n dX12_rules_47 rfl ?_
          refine M_getI dX12_rules_48 fX12_189 rfl rfl (by decide) ?_
          rw [hc.2.2.2.2.2.2.2.2.2.1]
          refine J_if_ne (tgt := 164) dX12_rules_51 (by decide) (fun c1 => ?_) (fun c1 => ?_)
          · -- to 164
            exact absurd rfl c1
          · -- on 54
            refine J_aload_n dX12_rules_54 rfl ?_
            refine M_getI dX12_rules_55 fX12_177 rfl rfl (by decide) ?_
            rw [hc.2.2.1.2.1]
            refine J_if_eq (tgt := 164) dX12_rules_58 (by decide) (fun c2 => ?_) (fun c2 => ?_)
            · -- to 164
              exact absurd ((srt_0 h256).mp c2) hK0
            · -- on 61
              refine J_aload_n dX12_rules_61 rfl ?_
              refine J_ldc2 dX12_rules_62 ccX12_250 ?_
              refine M_callV1 (mc := mX12_isWord) dX12_rules_65 kX12_273 oX12_isWord (Nat.le_of_ble_eq_true rfl) (Nat.le_of_ble_eq_true rfl) rfl (by decide) rfl ?_
              refine M_more (d := 0) (Nat.zero_le _) (tX12_isWordN (v := 15) hc (by decide) (by decide) (fun q => absurd q hno15) (fun q => ?_))
              refine J_istore_n dX12_rules_68 (by decide) rfl ?_
              dsimp only [setL]
              refine J_iload_n dX12_rules_69 rfl ?_
              refine J_if_ne (tgt := 83) dX12_rules_70 (by decide) (fun c4 => ?_) (fun c4 => ?_)
              · -- to 83
                exact absurd c4 (by decide)
              · -- on 73
                refine J_aload_n dX12_rules_73 rfl ?_
                refine J_ldc2 dX12_rules_74 ccX12_248 ?_
                refine M_callV1 (mc := mX12_isWord) dX12_rules_77 kX12_273 oX12_isWord (Nat.le_of_ble_eq_true rfl) (Nat.le_of_ble_eq_true rfl) rfl (by decide) rfl ?_
                refine M_more (d := 0) (Nat.zero_le _) (tX12_isWordN (v := 14) hc (by decide) (by decide) (fun q => absurd q hno14) (fun q => ?_))
                refine J_if_eq (tgt := 92) dX12_rules_80 (by decide) (fun c6 => ?_) (fun c6 => ?_)
                · -- to 92
                  refine J_aload_n dX12_rules_92 rfl ?_
                  refine J_iconst (v := 2) dX12_rules_93 (by decide) ?_
                  refine M_callV1 (mc := mX12_wrong) dX12_rules_94 kX12_258 oX12_wrong (Nat.le_of_ble_eq_true rfl) (Nat.le_of_ble_eq_true rfl) rfl (by decide) rfl ?_
                  refine M_more (d := 0) (Nat.zero_le _) (tX12_wrongN (f := 2) hc (fun N2 hN => ?_))
                  refine J_aload_n dX12_rules_97 rfl ?_
                  refine M_getI dX12_rules_98 fX12_189 rfl rfl (by decide) ?_
                  refine J_if_le (tgt := 106) dX12_rules_101 (by decide) (fun c8 => ?_) (fun c8 => ?_)
                  · -- to 106
                    exact absurd c8 (by rw [hN.2.2.1]; show ¬ nI (if x.1.1 = 1 then 1 else 2) ≤ 0; split <;> decide)
                  · -- on 104
                    refine J_iconst (v := -1) dX12_rules_104 (by decide) ?_
                    refine M_iret dX12_rules_105 rfl rfl ?_
                    exact h0 _ rfl N2 hN
                · -- on 83
                  exact absurd c6 (by decide)
  | succ m ih =>
    intro x es ps N hm hc h1 h0
    have h256 := hc.2.2.2.1.2.2.2.2.2.2.1
    rw [rlP] at h1 h0
    by_cases hK0 : x.1.1 = 0
    · have hK := hK0
      rw [if_pos hK] at h1 h0
      refine J_aload_n dX12_rules_47 rfl ?_
      refine M_getI dX12_rules_48 fX12_189 rfl rfl (by decide) ?_
      rw [hc.2.2.2.2.2.2.2.2.2.1]
      refine J_if_ne (tgt := 164) dX12_rules_51 (by decide) (fun c1 => ?_) (fun c1 => ?_)
      · -- to 164
        exact absurd rfl c1
      · -- on 54
        refine J_aload_n dX12_rules_54 rfl ?_
        refine M_getI dX12_rules_55 fX12_177 rfl rfl (by decide) ?_
        rw [hc.2.2.1.2.1]
        refine J_if_eq (tgt := 164) dX12_rules_58 (by decide) (fun c2 => ?_) (fun c2 => ?_)
        · -- to 164
          refine J_aload_n dX12_rules_164 rfl ?_
          refine M_getI dX12_rules_165 fX12_189 rfl rfl (by decide) ?_
          rw [hc.2.2.2.2.2.2.2.2.2.1]
          refine J_if_le (tgt := 173) dX12_rules_168 (by decide) (fun c3 => ?_) (fun c3 => ?_)
          · -- to 173
            refine J_dropN 1 ?_
            exact h1 rfl N hc
          · -- on 171
            exact absurd (by decide) c3
        · -- on 61
          exact absurd ((srt_0 h256).mpr hK) c2
    · rw [if_neg hK0] at h1 h0
      by_cases hK1 : x.1.1 = 14 ∨ x.1.1 = 15
      · rw [if_pos hK1] at h1 h0
        rcases hK1 with hK | hK
        · have hno15 : ¬ x.1.1 = 15 := by omega
          simp only [hK, show (14 : Nat) = 15 ↔ False from ⟨fun q => absurd q (by decide), False.elim⟩, if_false] at h1 h0
          refine J_aload_n dX12_rules_47 rfl ?_
          refine M_getI dX12_rules_48 fX12_189 rfl rfl (by decide) ?_
          rw [hc.2.2.2.2.2.2.2.2.2.1]
          refine J_if_ne (tgt := 164) dX12_rules_51 (by decide) (fun c1 => ?_) (fun c1 => ?_)
          · -- to 164
            exact absurd rfl c1
          · -- on 54
            refine J_aload_n dX12_rules_54 rfl ?_
            refine M_getI dX12_rules_55 fX12_177 rfl rfl (by decide) ?_
            rw [hc.2.2.1.2.1]
            refine J_if_eq (tgt := 164) dX12_rules_58 (by decide) (fun c2 => ?_) (fun c2 => ?_)
            · -- to 164
              exact absurd ((srt_0 h256).mp c2) hK0
            · -- on 61
              refine J_aload_n dX12_rules_61 rfl ?_
              refine J_ldc2 dX12_rules_62 ccX12_250 ?_
              refine M_callV1 (mc := mX12_isWord) dX12_rules_65 kX12_273 oX12_isWord (Nat.le_of_ble_eq_true rfl) (Nat.le_of_ble_eq_true rfl) rfl (by decide) rfl ?_
              refine M_more (d := 0) (Nat.zero_le _) (tX12_isWordN (v := 15) hc (by decide) (by decide) (fun q => absurd q hno15) (fun q => ?_))
              refine J_istore_n dX12_rules_68 (by decide) rfl ?_
              dsimp only [setL]
              refine J_iload_n dX12_rules_69 rfl ?_
              refine J_if_ne (tgt := 83) dX12_rules_70 (by decide) (fun c4 => ?_) (fun c4 => ?_)
              · -- to 83
                exact absurd c4 (by decide)
              · -- on 73
                refine J_aload_n dX12_rules_73 rfl ?_
                refine J_ldc2 dX12_rules_74 ccX12_248 ?_
                refine M_callV1 (mc := mX12_isWord) dX12_rules_77 kX12_273 oX12_isWord (Nat.le_of_ble_eq_true rfl) (Nat.le_of_ble_eq_true rfl) rfl (by decide) rfl ?_
                refine M_more (d := 0) (Nat.zero_le _) (tX12_isWordN (v := 14) hc (by decide) (by decide) (fun q => ?_) (fun q => absurd hK q))
                refine J_if_eq (tgt := 92) dX12_rules_80 (by decide) (fun c6 => ?_) (fun c6 => ?_)
                · -- to 92
                  exact absurd c6 (by decide)
                · -- on 83
                  refine J_aload_n dX12_rules_83 rfl ?_
                  refine M_getI dX12_rules_84 fX12_281 rfl rfl (by decide) ?_
                  rw [hc.2.2.2.2.2.2.2.2.2.2.2.2.1.1]
                  refine J_bipush (v := 12) dX12_rules_87 (by decide) ?_
                  refine J_icmp_ne (tgt := 97) dX12_rules_89 (by decide) (fun c7 => ?_) (fun c7 => ?_)
                  · -- to 97
                    refine J_aload_n dX12_rules_97 rfl ?_
                    refine M_getI dX12_rules_98 fX12_189 rfl rfl (by decide) ?_
                    rw [hc.2.2.2.2.2.2.2.2.2.1]
                    refine J_if_le (tgt := 106) dX12_rules_101 (by decide) (fun c8 => ?_) (fun c8 => ?_)
                    · -- to 106
                      refine J_aload_n dX12_rules_106 rfl ?_
                      refine M_getR dX12_rules_107 fX12_62 rfl rfl (by decide) ?_
                      refine J_aload_n dX12_rules_110 rfl ?_
                      refine M_getI dX12_rules_111 fX12_281 rfl rfl (by decide) ?_
                      refine J_iload_n dX12_rules_114 rfl ?_
                      refine M_zastE dX12_rules_115 rfl (by decide) hc.2.2.2.2.2.2.2.2.2.2.2.2.1.1 (by omega) (by first | assumption | exact Or.inl rfl | exact Or.inr rfl) ?_
                      refine J_aload_n dX12_rules_116 rfl ?_
                      refine M_getR dX12_rules_117 fX12_59 rfl rfl (by decide) ?_
                      refine J_aload_n dX12_rules_120 rfl ?_
                      refine M_getI dX12_rules_121 fX12_281 rfl rfl (by decide) ?_
                      refine J_aload_n dX12_rules_124 rfl ?_
                      refine M_getI dX12_rules_125 fX12_220 rfl rfl (by decide) ?_
                      rw [rd2 (by decide), hc.2.2.2.2.2.1]
                      refine M_iastE dX12_rules_128 rfl (by decide) hc.2.2.2.2.2.2.2.2.2.2.2.2.1.1 (by omega) ?_
                      refine J_aload_n dX12_rules_129 rfl ?_
                      refine M_callV0 (mc := mX12_next) dX12_rules_130 kX12_267 oX12_next (Nat.le_of_ble_eq_true rfl) (Nat.le_of_ble_eq_true rfl) rfl (by decide) rfl ?_
                      refine M_more (d := 2) (by omega) (tX12_nxN (d := 0) (T := T) (p := x.1.2.2.2) hnb (by rw [rd2 (by decide), rd2 (by decide), hc.1 81 (by decide)]; exact hT) hc.2.2.2.1.2.2.1 (by rw [rd2 (by decide), rd2 (by decide)]; exact hc.2.2.1.2.2.1 (by omega)) (by rw [rd2 (by decide), rd2 (by decide)]; exact hc.2.2.2.2.1) (fun g w hg => ?_))
                      rw [rd2 (by decide), rd2 (by decide)] at hg
                      refine J_aload_n dX12_rules_133 rfl ?_
                      refine J_iload_n dX12_rules_134 rfl ?_
                      refine M_callV1 (mc := mX12_readE) dX12_rules_135 kX12_284 oX12_readE (Nat.le_of_ble_eq_true rfl) (Nat.le_of_ble_eq_true rfl) rfl (by decide) rfl ?_
                      have hpq := hc.pq (pi := 0) (T := T) (g := g) (w := w) hTT (by omega) hg
                      have E : ER (RM (wr (wr N 80 es.length (nI 0)) 79 es.length (nI x.2.1.length)) g w) T n 8 0 := ⟨hnb, by rw [RM_g, hg.1 30 (by decide) (by decide) (by decide) (by decide)]; exact hc.2.2.2.2.1, by rw [RM_o (by decide), rd2 (by decide), rd2 (by decide), hc.1 81 (by decide)]; exact hT, Or.inl ⟨rfl, rfl⟩⟩
                      have hav := adv_W (x := x) hTT hc.2.2.2.1 (by omega)
                      have hb12 := hc.2.2.2.2.2.2.2.2.2.2.2.1
                      have h120 := hc.2.2.2.2.2.2.2.2.1
                      refine tM_readE (d := d) E hpq (by show 3 * (x.2.1.length + 0) ≤ 6 * x.2.2 + (advP T n x).1.2.2.1; have := hav.2; omega) (fun v e N3 hN => ?_) (fun e hne N3 hN => ?_) (fun e heq N3 hc3 => ?_)
                      · rw [if_neg (by rw [e]; exact fun q => by cases q)] at h0
                        have hv1 := (prs_v v e).1
                        have hv2 := (prs_v v e).2
                        refine J_aload_n dX12_rules_138 rfl ?_
                        refine M_getI dX12_rules_139 fX12_189 rfl rfl (by decide) ?_
                        rw [hN.2.2.1]
                        refine J_if_le (tgt := 147) dX12_rules_142 (by decide) (fun c1 => ?_) (fun c1 => ?_)
                        · -- to 147
                          exact absurd c1 (nI_nle hv1 (by omega))
                        · -- on 145
                          refine J_iconst (v := -1) dX12_rules_145 (by decide) ?_
                          refine M_iret dX12_rules_146 rfl rfl ?_
                          exact h0 v e N3 (hc.qf hg hN)
                      · rw [if_pos e, if_neg hne] at h0
                        refine J_aload_n dX12_rules_138 rfl ?_
                        refine M_getI dX12_rules_139 fX12_189 rfl rfl (by decide) ?_
                        rw [hN.2.2.1]
                        refine J_if_le (tgt := 147) dX12_rules_142 (by decide) (fun c1 => ?_) (fun c1 => ?_)
                        · -- to 147
                          exact absurd c1 ((by show ¬ nI (if (prs T n 8 FU 0 0 (advP T n x)).2.1.1 = 1 then 1 else 2) ≤ 0; split <;> decide))
                        · -- on 145
                          refine J_iconst (v := -1) dX12_rules_145 (by decide) ?_
                          refine M_iret dX12_rules_146 rfl rfl ?_
                          exact h0 _ rfl N3 (hc.qf hg hN)
                      · rw [if_pos e, if_pos heq] at h1 h0
                        have hz := prs_W (lim := 8) hTT FU 0 0 (advP T n x) hav.1 h120 e
                        rw [show uq 0 = 1 from rfl, adv_2] at hz
                        have hav2 := adv_W (x := (prs T n 8 FU 0 0 (advP T n x)).2) hTT hz.1 (by omega)
                        refine J_aload_n dX12_rules_138 rfl ?_
                        refine M_getI dX12_rules_139 fX12_189 rfl rfl (by decide) ?_
                        rw [hc3.2.2.2.2.2.2.2.2.2.2.2.1]
                        refine J_if_le (tgt := 147) dX12_rules_142 (by decide) (fun c1 => ?_) (fun c1 => ?_)
                        · -- to 147
                          refine J_aload_n dX12_rules_147 rfl ?_
                          refine M_callV0 (mc := mX12_next) dX12_rules_148 kX12_267 oX12_next (Nat.le_of_ble_eq_true rfl) (Nat.le_of_ble_eq_true rfl) rfl (by decide) rfl ?_
                          refine M_more (d := 2) (by omega) (tX12_adv (d := 0) (T := T) hnb E.2.1 E.2.2.1 hc3 (by omega) (by omega) (fun N4 hc4 => ?_))
                          refine J_aload_n dX12_rules_151 rfl ?_
                          refine J_dup dX12_rules_152 rfl ?_
                          refine M_getI dX12_rules_153 fX12_281 rfl rfl (by decide) ?_
                          rw [hc4.2.1 22 (by decide), RM_g, hg.1 22 (by decide) (by decide) (by decide) (by decide), hc.2.2.2.2.2.2.2.2.2.2.2.2.1.1]
                          refine J_iconst (v := 1) dX12_rules_156 (by decide) ?_
                          refine J_iadd dX12_rules_157 ?_
                          rw [nI_1]
                          refine M_putI dX12_rules_158 pX12_281 rfl rfl (by decide) ?_
                          refine J_dropN 1 ?_
                          refine J_goto (tgt := 47) dX12_rules_161 (by decide) ?_
                          refine ih _ _ _ _ ?_ (hc.st (pi := 0) hg hc4 ?_) h1 h0
                          · simp; omega
                          · show 3 * (prs T n 8 FU 0 0 (advP T n x)).2.2.1.length ≤ 6 * (prs T n 8 FU 0 0 (advP T n x)).2.2.2 + (advP T n (prs T n 8 FU 0 0 (advP T n x)).2).1.2.2.1
                            have := hz.2.2.1
                            have := hav.2
                            have := hav2.2
                            omega
                        · -- on 145
                          exact absurd (by decide) c1
                    · -- on 104
                      exact absurd (by decide) c8
                  · -- on 92
                    exact absurd ((nI_eq (a := es.length) (b := 12) (by omega) (by decide)).mp c7) (by omega)
        · have hno14 : ¬ x.1.1 = 14 := by omega
          simp only [hK, if_true] at h1 h0
          refine J_aload_n dX12_rules_47 rfl ?_
          refine M_getI dX12_rules_48 fX12_189 rfl rfl (by decide) ?_
          rw [hc.2.2.2.2.2.2.2.2.2.1]
          refine J_if_ne (tgt := 164) dX12_rules_51 (by decide) (fun c1 => ?_) (fun c1 => ?_)
          · -- to 164
            exact absurd rfl c1
          · -- on 54
            refine J_aload_n dX12_rules_54 rfl ?_
            refine M_getI dX12_rules_55 fX12_177 rfl rfl (by decide) ?_
            rw [hc.2.2.1.2.1]
            refine J_if_eq (tgt := 164) dX12_rules_58 (by decide) (fun c2 => ?_) (fun c2 => ?_)
            · -- to 164
              exact absurd ((srt_0 h256).mp c2) hK0
            · -- on 61
              refine J_aload_n dX12_rules_61 rfl ?_
              refine J_ldc2 dX12_rules_62 ccX12_250 ?_
              refine M_callV1 (mc := mX12_isWord) dX12_rules_65 kX12_273 oX12_isWord (Nat.le_of_ble_eq_true rfl) (Nat.le_of_ble_eq_true rfl) rfl (by decide) rfl ?_
              refine M_more (d := 0) (Nat.zero_le _) (tX12_isWordN (v := 15) hc (by decide) (by decide) (fun q => ?_) (fun q => absurd hK q))
              refine J_istore_n dX12_rules_68 (by decide) rfl ?_
              dsimp only [setL]
              refine J_iload_n dX12_rules_69 rfl ?_
              refine J_if_ne (tgt := 83) dX12_rules_70 (by decide) (fun c4 => ?_) (fun c4 => ?_)
              · -- to 83
                refine J_aload_n dX12_rules_83 rfl ?_
                refine M_getI dX12_rules_84 fX12_281 rfl rfl (by decide) ?_
                rw [hc.2.2.2.2.2.2.2.2.2.2.2.2.1.1]
                refine J_bipush (v := 12) dX12_rules_87 (by decide) ?_
                refine J_icmp_ne (tgt := 97) dX12_rules_89 (by decide) (fun c5 => ?_) (fun c5 => ?_)
                · -- to 97
                  refine J_aload_n dX12_rules_97 rfl ?_
                  refine M_getI dX12_rules_98 fX12_189 rfl rfl (by decide) ?_
                  rw [hc.2.2.2.2.2.2.2.2.2.1]
                  refine J_if_le (tgt := 106) dX12_rules_101 (by decide) (fun c6 => ?_) (fun c6 => ?_)
                  · -- to 106
                    refine J_aload_n dX12_rules_106 rfl ?_
                    refine M_getR dX12_rules_107 fX12_62 rfl rfl (by decide) ?_
                    refine J_aload_n dX12_rules_110 rfl ?_
                    refine M_getI dX12_rules_111 fX12_281 rfl rfl (by decide) ?_
                    refine J_iload_n dX12_rules_114 rfl ?_
                    refine M_zastE dX12_rules_115 rfl (by decide) hc.2.2.2.2.2.2.2.2.2.2.2.2.1.1 (by omega) (by first | assumption | exact Or.inl rfl | exact Or.inr rfl) ?_
                    refine J_aload_n dX12_rules_116 rfl ?_
                    refine M_getR dX12_rules_117 fX12_59 rfl rfl (by decide) ?_
                    refine J_aload_n dX12_rules_120 rfl ?_
                    refine M_getI dX12_rules_121 fX12_281 rfl rfl (by decide) ?_
                    refine J_aload_n dX12_rules_124 rfl ?_
                    refine M_getI dX12_rules_125 fX12_220 rfl rfl (by decide) ?_
                    rw [rd2 (by decide), hc.2.2.2.2.2.1]
                    refine M_iastE dX12_rules_128 rfl (by decide) hc.2.2.2.2.2.2.2.2.2.2.2.2.1.1 (by omega) ?_
                    refine J_aload_n dX12_rules_129 rfl ?_
                    refine M_callV0 (mc := mX12_next) dX12_rules_130 kX12_267 oX12_next (Nat.le_of_ble_eq_true rfl) (Nat.le_of_ble_eq_true rfl) rfl (by decide) rfl ?_
                    refine M_more (d := 2) (by omega) (tX12_nxN (d := 0) (T := T) (p := x.1.2.2.2) hnb (by rw [rd2 (by decide), rd2 (by decide), hc.1 81 (by decide)]; exact hT) hc.2.2.2.1.2.2.1 (by rw [rd2 (by decide), rd2 (by decide)]; exact hc.2.2.1.2.2.1 (by omega)) (by rw [rd2 (by decide), rd2 (by decide)]; exact hc.2.2.2.2.1) (fun g w hg => ?_))
                    rw [rd2 (by decide), rd2 (by decide)] at hg
                    refine J_aload_n dX12_rules_133 rfl ?_
                    refine J_iload_n dX12_rules_134 rfl ?_
                    refine M_callV1 (mc := mX12_readE) dX12_rules_135 kX12_284 oX12_readE (Nat.le_of_ble_eq_true rfl) (Nat.le_of_ble_eq_true rfl) rfl (by decide) rfl ?_
                    have hpq := hc.pq (pi := 1) (T := T) (g := g) (w := w) hTT (by omega) hg
                    have E : ER (RM (wr (wr N 80 es.length (nI 1)) 79 es.length (nI x.2.1.length)) g w) T n 14 1 := ⟨hnb, by rw [RM_g, hg.1 30 (by decide) (by decide) (by decide) (by decide)]; exact hc.2.2.2.2.1, by rw [RM_o (by decide), rd2 (by decide), rd2 (by decide), hc.1 81 (by decide)]; exact hT, Or.inr ⟨by decide, rfl⟩⟩
                    have hav := adv_W (x := x) hTT hc.2.2.2.1 (by omega)
                    have hb12 := hc.2.2.2.2.2.2.2.2.2.2.2.1
                    have h120 := hc.2.2.2.2.2.2.2.2.1
                    refine tM_readE (d := d) E hpq (by show 3 * (x.2.1.length + 0) ≤ 6 * x.2.2 + (advP T n x).1.2.2.1; have := hav.2; omega) (fun v e N3 hN => ?_) (fun e hne N3 hN => ?_) (fun e heq N3 hc3 => ?_)
                    · rw [if_neg (by rw [e]; exact fun q => by cases q)] at h0
                      have hv1 := (prs_v v e).1
                      have hv2 := (prs_v v e).2
                      refine J_aload_n dX12_rules_138 rfl ?_
                      refine M_getI dX12_rules_139 fX12_189 rfl rfl (by decide) ?_
                      rw [hN.2.2.1]
                      refine J_if_le (tgt := 147) dX12_rules_142 (by decide) (fun c1 => ?_) (fun c1 => ?_)
                      · -- to 147
                        exact absurd c1 (nI_nle hv1 (by omega))
                      · -- on 145
                        refine J_iconst (v := -1) dX12_rules_145 (by decide) ?_
                        refine M_iret dX12_rules_146 rfl rfl ?_
                        exact h0 v e N3 (hc.qf hg hN)
                    · rw [if_pos e, if_neg hne] at h0
                      refine J_aload_n dX12_rules_138 rfl ?_
                      refine M_getI dX12_rules_139 fX12_189 rfl rfl (by decide) ?_
                      rw [hN.2.2.1]
                      refine J_if_le (tgt := 147) dX12_rules_142 (by decide) (fun c1 => ?_) (fun c1 => ?_)
                      · -- to 147
                        exact absurd c1 ((by show ¬ nI (if (prs T n 14 FU 0 0 (advP T n x)).2.1.1 = 1 then 1 else 2) ≤ 0; split <;> decide))
                      · -- on 145
                        refine J_iconst (v := -1) dX12_rules_145 (by decide) ?_
                        refine M_iret dX12_rules_146 rfl rfl ?_
                        exact h0 _ rfl N3 (hc.qf hg hN)
                    · rw [if_pos e, if_pos heq] at h1 h0
                      have hz := prs_W (lim := 14) hTT FU 0 0 (advP T n x) hav.1 h120 e
                      rw [show uq 0 = 1 from rfl, adv_2] at hz
                      have hav2 := adv_W (x := (prs T n 14 FU 0 0 (advP T n x)).2) hTT hz.1 (by omega)
                      refine J_aload_n dX12_rules_138 rfl ?_
                      refine M_getI dX12_rules_139 fX12_189 rfl rfl (by decide) ?_
                      rw [hc3.2.2.2.2.2.2.2.2.2.2.2.1]
                      refine J_if_le (tgt := 147) dX12_rules_142 (by decide) (fun c1 => ?_) (fun c1 => ?_)
                      · -- to 147
                        refine J_aload_n dX12_rules_147 rfl ?_
                        refine M_callV0 (mc := mX12_next) dX12_rules_148 kX12_267 oX12_next (Nat.le_of_ble_eq_true rfl) (Nat.le_of_ble_eq_true rfl) rfl (by decide) rfl ?_
                        refine M_more (d := 2) (by omega) (tX12_adv (d := 0) (T := T) hnb E.2.1 E.2.2.1 hc3 (by omega) (by omega) (fun N4 hc4 => ?_))
                        refine J_aload_n dX12_rules_151 rfl ?_
                        refine J_dup dX12_rules_152 rfl ?_
                        refine M_getI dX12_rules_153 fX12_281 rfl rfl (by decide) ?_
                        rw [hc4.2.1 22 (by decide), RM_g, hg.1 22 (by decide) (by decide) (by decide) (by decide), hc.2.2.2.2.2.2.2.2.2.2.2.2.1.1]
                        refine J_iconst (v := 1) dX12_rules_156 (by decide) ?_
                        refine J_iadd dX12_rules_157 ?_
                        rw [nI_1]
                        refine M_putI dX12_rules_158 pX12_281 rfl rfl (by decide) ?_
                        refine J_dropN 1 ?_
                        refine J_goto (tgt := 47) dX12_rules_161 (by decide) ?_
                        refine ih _ _ _ _ ?_ (hc.st (pi := 1) hg hc4 ?_) h1 h0
                        · simp; omega
                        · show 3 * (prs T n 14 FU 0 0 (advP T n x)).2.2.1.length ≤ 6 * (prs T n 14 FU 0 0 (advP T n x)).2.2.2 + (advP T n (prs T n 14 FU 0 0 (advP T n x)).2).1.2.2.1
                          have := hz.2.2.1
                          have := hav.2
                          have := hav2.2
                          omega
                      · -- on 145
                        exact absurd (by decide) c1
                  · -- on 104
                    exact absurd (by decide) c6
                · -- on 92
                  exact absurd ((nI_eq (a := es.length) (b := 12) (by omega) (by decide)).mp c5) (by omega)
              · -- on 73
                exact absurd c4 (by decide)
      · rw [if_neg hK1] at h1 h0
        have hno15 : ¬ x.1.1 = 15 := fun q => hK1 (Or.inr q)
        have hno14 : ¬ x.1.1 = 14 := fun q => hK1 (Or.inl q)
        refine J_aload_n dX12_rules_47 rfl ?_
        refine M_getI dX12_rules_48 fX12_189 rfl rfl (by decide) ?_
        rw [hc.2.2.2.2.2.2.2.2.2.1]
        refine J_if_ne (tgt := 164) dX12_rules_51 (by decide) (fun c1 => ?_) (fun c1 => ?_)
        · -- to 164
          exact absurd rfl c1
        · -- on 54
          refine J_aload_n dX12_rules_54 rfl ?_
          refine M_getI dX12_rules_55 fX12_177 rfl rfl (by decide) ?_
          rw [hc.2.2.1.2.1]
          refine J_if_eq (tgt := 164) dX12_rules_58 (by decide) (fun c2 => ?_) (fun c2 => ?_)
          · -- to 164
            exact absurd ((srt_0 h256).mp c2) hK0
          · -- on 61
            refine J_aload_n dX12_rules_61 rfl ?_
            refine J_ldc2 dX12_rules_62 ccX12_250 ?_
            refine M_callV1 (mc := mX12_isWord) dX12_rules_65 kX12_273 oX12_isWord (Nat.le_of_ble_eq_true rfl) (Nat.le_of_ble_eq_true rfl) rfl (by decide) rfl ?_
            refine M_more (d := 0) (Nat.zero_le _) (tX12_isWordN (v := 15) hc (by decide) (by decide) (fun q => absurd q hno15) (fun q => ?_))
            refine J_istore_n dX12_rules_68 (by decide) rfl ?_
            dsimp only [setL]
            refine J_iload_n dX12_rules_69 rfl ?_
            refine J_if_ne (tgt := 83) dX12_rules_70 (by decide) (fun c4 => ?_) (fun c4 => ?_)
            · -- to 83
              exact absurd c4 (by decide)
            · -- on 73
              refine J_aload_n dX12_rules_73 rfl ?_
              refine J_ldc2 dX12_rules_74 ccX12_248 ?_
              refine M_callV1 (mc := mX12_isWord) dX12_rules_77 kX12_273 oX12_isWord (Nat.le_of_ble_eq_true rfl) (Nat.le_of_ble_eq_true rfl) rfl (by decide) rfl ?_
              refine M_more (d := 0) (Nat.zero_le _) (tX12_isWordN (v := 14) hc (by decide) (by decide) (fun q => absurd q hno14) (fun q => ?_))
              refine J_if_eq (tgt := 92) dX12_rules_80 (by decide) (fun c6 => ?_) (fun c6 => ?_)
              · -- to 92
                refine J_aload_n dX12_rules_92 rfl ?_
                refine J_iconst (v := 2) dX12_rules_93 (by decide) ?_
                refine M_callV1 (mc := mX12_wrong) dX12_rules_94 kX12_258 oX12_wrong (Nat.le_of_ble_eq_true rfl) (Nat.le_of_ble_eq_true rfl) rfl (by decide) rfl ?_
                refine M_more (d := 0) (Nat.zero_le _) (tX12_wrongN (f := 2) hc (fun N2 hN => ?_))
                refine J_aload_n dX12_rules_97 rfl ?_
                refine M_getI dX12_rules_98 fX12_189 rfl rfl (by decide) ?_
                refine J_if_le (tgt := 106) dX12_rules_101 (by decide) (fun c8 => ?_) (fun c8 => ?_)
                · -- to 106
                  exact absurd c8 (by rw [hN.2.2.1]; show ¬ nI (if x.1.1 = 1 then 1 else 2) ≤ 0; split <;> decide)
                · -- on 104
                  refine J_iconst (v := -1) dX12_rules_104 (by decide) ?_
                  refine M_iret dX12_rules_105 rfl rfl ?_
                  exact h0 _ rfl N2 hN
              · -- on 83
                exact absurd c6 (by decide)

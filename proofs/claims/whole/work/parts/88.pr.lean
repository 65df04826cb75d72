/-- what a text of rules keeps -/
theorem rlP_ind {T : Nat → Nat} {n : Nat} {P : Nat → PSt → List Nat → List Nat → Prop} (hs : ∀ m x es ps K lim, P (m + 1) x es ps → K < 2 → lim = (if K = 1 then 14 else 8) → x.1.1 ≠ 0 → (prs T n lim FU 0 0 (advP T n x)).1 = none → (prs T n lim FU 0 0 (advP T n x)).2.1.1 = 59 → P m (advP T n (prs T n lim FU 0 0 (advP T n x)).2) (es ++ [(prs T n lim FU 0 0 (advP T n x)).2.2.1.length]) (ps ++ [K])) : ∀ m x es ps, P m x es ps → (rlP T n m x es ps).1 = none → ∃ k, P k (rlP T n m x es ps).2.1 (rlP T n m x es ps).2.2.1 (rlP T n m x es ps).2.2.2 := by
  intro m
  induction m with
  | zero =>
    intro x es ps hp h
    rw [rlP] at h ⊢
    by_cases hK : x.1.1 = 0
    · rw [if_pos hK]; exact ⟨0, hp⟩
    · rw [if_neg hK] at h; simp [rfu] at h
  | succ m ih =>
    intro x es ps hp h
    rw [rlP] at h ⊢
    by_cases hK : x.1.1 = 0
    · rw [if_pos hK]; exact ⟨m + 1, hp⟩
    · rw [if_neg hK] at h ⊢
      by_cases hK1 : x.1.1 = 14 ∨ x.1.1 = 15
      · rw [if_pos hK1] at h ⊢
        generalize hlim : (if x.1.1 = 15 then 14 else 8) = lim at h ⊢
        by_cases e : (prs T n lim FU 0 0 (advP T n x)).1 = none
        · rw [if_pos e] at h ⊢
          by_cases e59 : (prs T n lim FU 0 0 (advP T n x)).2.1.1 = 59
          · rw [if_pos e59] at h ⊢
            refine ih _ _ _ (hs m x es ps (x.1.1 - 14) lim hp (by omega) ?_ hK e e59) h
            rw [← hlim]
            rcases hK1 with q | q <;> rw [q] <;> rfl
          · rw [if_neg e59] at h; simp [rfu] at h
        · rw [if_neg e] at h; exact absurd h e
      · rw [if_neg hK1] at h; simp [rfu] at h
theorem rlP_12 {T : Nat → Nat} {n : Nat} (h : (rlP T n 12 (lexT T n 0, ([] : List Nat), 0) [] []).1 = none) : (rlP T n 12 (lexT T n 0, ([] : List Nat), 0) [] []).2.2.1.length ≤ 12 ∧ ∀ c, c ∈ (rlP T n 12 (lexT T n 0, ([] : List Nat), 0) [] []).2.2.2 → c < 2 := by
  obtain ⟨k, h1, h2⟩ := rlP_ind (T := T) (n := n) (P := fun m _ es ps => es.length + m = 12 ∧ ∀ c, c ∈ ps → c < 2) (fun m x es ps K lim hp hK _ _ _ _ => ⟨by have := hp.1; simp; omega, fun c hc => by
    rcases List.mem_append.mp hc with q | q
    · exact hp.2 c q
    · rw [List.mem_singleton.mp q]; exact hK⟩) 12 (lexT T n 0, ([] : List Nat), 0) [] [] ⟨rfl, fun c hc => by cases hc⟩ h
  exact ⟨by omega, h2⟩
set_option maxRecDepth 100000 in
set_option maxHeartbeats 1000000 in
theorem tM_rules {d : Nat} {Φ : Option Int32 → Mem → Prop} {M : Mem} {T : Nat → Nat} {n : Nat} (hn : M.1 62 26 = nI n) (hnb : n ≤ 1000) (hT : ∀ i, M.1 81 i = nI (T i) ∧ T i < 256) (h1 : (rlP T n 12 (lexT T n 0, ([] : List Nat), 0) [] []).1 = none → ∀ N, QE M N (rlP T n 12 (lexT T n 0, ([] : List Nat), 0) [] []).2.1 (rlP T n 12 (lexT T n 0, ([] : List Nat), 0) [] []).2.2.1 (rlP T n 12 (lexT T n 0, ([] : List Nat), 0) [] []).2.2.2 → Φ (some (nI (rlP T n 12 (lexT T n 0, ([] : List Nat), 0) [] []).2.2.1.length)) N) (h0 : ∀ v, (rlP T n 12 (lexT T n 0, ([] : List Nat), 0) [] []).1 = some v → ∀ N, QF6 M N v → Φ (some (-1)) N) : JM noRo (d + 5) mX12_rules 0 [some (.ref 62)] [] M Φ := by
  refine J_aload_n dX12_rules_0 rfl ?_
  refine J_aload_n dX12_rules_1 rfl ?_
  refine M_getI dX12_rules_2 fX12_150 rfl rfl (by decide) ?_
  rw [hn]
  refine M_putI dX12_rules_5 pX12_160 rfl rfl (by decide) ?_
  refine J_aload_n dX12_rules_8 rfl ?_
  refine J_iconst (v := 0) dX12_rules_9 (by decide) ?_
  refine M_putI dX12_rules_10 pX12_150 rfl rfl (by decide) ?_
  refine J_aload_n dX12_rules_13 rfl ?_
  refine J_iconst (v := 0) dX12_rules_14 (by decide) ?_
  refine M_putI dX12_rules_15 pX12_157 rfl rfl (by decide) ?_
  refine J_aload_n dX12_rules_18 rfl ?_
  refine J_iconst (v := 0) dX12_rules_19 (by decide) ?_
  refine M_putI dX12_rules_20 pX12_189 rfl rfl (by decide) ?_
  refine J_aload_n dX12_rules_23 rfl ?_
  refine J_iconst (v := -1) dX12_rules_24 (by decide) ?_
  refine M_putI dX12_rules_25 pX12_68 rfl rfl (by decide) ?_
  refine J_aload_n dX12_rules_28 rfl ?_
  refine J_iconst (v := 0) dX12_rules_29 (by decide) ?_
  refine M_putI dX12_rules_30 pX12_281 rfl rfl (by decide) ?_
  refine J_aload_n dX12_rules_33 rfl ?_
  refine J_iconst (v := 0) dX12_rules_34 (by decide) ?_
  refine M_putI dX12_rules_35 pX12_220 rfl rfl (by decide) ?_
  refine J_aload_n dX12_rules_38 rfl ?_
  refine J_iconst (v := 0) dX12_rules_39 (by decide) ?_
  refine M_putI dX12_rules_40 pX12_264 rfl rfl (by decide) ?_
  refine J_aload_n dX12_rules_43 rfl ?_
  refine M_callV0 (mc := mX12_next) dX12_rules_44 kX12_267 oX12_next (Nat.le_of_ble_eq_true rfl) (Nat.le_of_ble_eq_true rfl) rfl (by decide) rfl ?_
  refine M_more (d := 2) (by omega) (tX12_nxN (d := 0) (T := T) (p := 0) hnb (by rw [rd2 (by decide), rd2 (by decide), rd2 (by decide), rd2 (by decide), rd2 (by decide), rd2 (by decide), rd2 (by decide), rd2 (by decide)]; exact hT) (Nat.zero_le _) (by rw [rd3 (by decide), rd3 (by decide), rd3 (by decide), rd3 (by decide), rd3 (by decide), rd1]; rfl) (by rw [rd3 (by decide), rd3 (by decide), rd3 (by decide), rd3 (by decide), rd3 (by decide), rd3 (by decide), rd3 (by decide), rd1]) (fun g w hg => ?_))
  have e62 : ∀ i, i ≠ 29 → i ≠ 31 → i ≠ 32 → i ≠ 33 → (RM (wr (wr (wr (wr (wr (wr (wr (wr M 62 30 (nI n)) 62 26 0) 62 29 0) 62 27 0) 62 28 (-1)) 62 22 0) 62 23 0) 62 24 0) g w).1 62 i = (wr (wr (wr (wr (wr (wr (wr (wr M 62 30 (nI n)) 62 26 0) 62 29 0) 62 27 0) 62 28 (-1)) 62 22 0) 62 23 0) 62 24 0).1 62 i := fun i q1 q2 q3 q4 => by rw [RM_g]; exact hg.1 i q1 q2 q3 q4
  refine tM_rl_l (d := d) (M0 := M) hnb hT 12 (lexT T n 0, ([] : List Nat), 0) [] [] _ rfl ⟨fun a ha => ?_, fun i hi => ?_, ?_, (lex_W (fun i => (hT i).2) (Nat.zero_le _)).1, ?_, ?_, fun i c hi => ?_, ?_, Nat.zero_le _, ?_, ?_, Nat.zero_le _, ⟨?_, rfl⟩, fun i hi => absurd hi (Nat.not_lt_zero _), fun i c hi => ?_, rfl, ?_⟩ (fun e N hN => tM_rl_e hnb hN (rlP_12 e).1 (rlP_12 e).2 (h1 e)) h0
  · have q := (R6_ne ha).1
    rw [RM_o q, rd2 q, rd2 q, rd2 q, rd2 q, rd2 q, rd2 q, rd2 q, rd2 q]
  · simp only [SL3, List.mem_cons, not_or, List.not_mem_nil, not_false_eq_true, and_true] at hi
    rw [e62 i (by omega) (by omega) (by omega) (by omega), rd3 (by omega), rd3 (by omega), rd3 (by omega), rd3 (by omega), rd3 (by omega), rd3 (by omega), rd3 (by omega), rd3 (by omega)]
  · rw [RM_g, RM_w]; exact hg.2
  · rw [e62 30 (by decide) (by decide) (by decide) (by decide), rd3 (by decide), rd3 (by decide), rd3 (by decide), rd3 (by decide), rd3 (by decide), rd3 (by decide), rd3 (by decide), rd1]
  · rw [e62 23 (by decide) (by decide) (by decide) (by decide), rd3 (by decide), rd1]; rfl
  · simp at hi
  · rw [e62 24 (by decide) (by decide) (by decide) (by decide), rd1]; rfl
  · rw [e62 27 (by decide) (by decide) (by decide) (by decide), rd3 (by decide), rd3 (by decide), rd3 (by decide), rd3 (by decide), rd1]
  · rw [e62 28 (by decide) (by decide) (by decide) (by decide), rd3 (by decide), rd3 (by decide), rd3 (by decide), rd1]
  · rw [e62 22 (by decide) (by decide) (by decide) (by decide), rd3 (by decide), rd3 (by decide), rd1]; rfl
  · simp at hi
  · rw [e62 26 (by decide) (by decide) (by decide) (by decide), rd3 (by decide), rd3 (by decide), rd3 (by decide), rd3 (by decide), rd3 (by decide), rd3 (by decide), rd1]

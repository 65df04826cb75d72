def QF (M N : Mem) (f : Nat × Nat) : Prop := (∀ a, a ∉ R4 → N.1 a = M.1 a) ∧ (∀ i, i ∉ SL → N.1 62 i = M.1 62 i) ∧ N.1 62 27 = nI f.1 ∧ N.1 62 28 = nI f.2
theorem srt_3 {K : Nat} (h : K < 256) : srt K = 3 ↔ K = 1 := by
  unfold srt
  by_cases h0 : K = 0
  · rw [if_pos h0, h0]; decide
  · rw [if_neg h0]
    by_cases h1 : K = 1
    · rw [if_pos h1, h1]; decide
    · rw [if_neg h1]
      by_cases h2 : K = 2
      · rw [if_pos h2, h2]; decide
      · rw [if_neg h2]
        by_cases h3 : K < 19
        · rw [if_pos h3]; exact ⟨fun q => absurd q (by decide), fun q => absurd q h1⟩
        · rw [if_neg h3]
          exact ⟨fun q => absurd ((nI_eq (a := K) (b := 3) (by omega) (by decide)).mp q) (by omega), fun q => absurd q h1⟩
theorem PQ.ad {M0 N : Mem} {n : Nat} {x : PSt} {ws : List Nat} {T : Nat → Nat} {g : Nat → Int32} {w : Int64} (hT : ∀ i, T i < 256) (h : PQ M0 N n x ws) (hK : x.1.1 ≠ 0) (hg : TkR (N.1 62) g w (lexT T n x.1.2.2.2)) : PQ M0 (RM N g w) n (advP T n x) ws := by
  obtain ⟨p1, p2, p3, p4, p5, p6, p7, p8, p9, p10, p11, p12, p13, p14, p15, p16⟩ := h
  have z := adv_W hT p4 hK
  have e62 : ∀ i, i ≠ 29 → i ≠ 31 → i ≠ 32 → i ≠ 33 → (RM N g w).1 62 i = N.1 62 i := fun i q1 q2 q3 q4 => by rw [RM_g]; exact hg.1 i q1 q2 q3 q4
  refine ⟨fun a ha => ?_, fun i hi => ?_, ?_, z.1, ?_, ?_, ?_, p8, ?_, ?_, ?_, ?_, ?_, p14, p15, ?_⟩
  · rw [RM_o (R4_ne ha).1]; exact p1 a ha
  · have hi2 := hi
    simp only [SL, List.mem_cons, not_or, List.not_mem_nil, not_false_eq_true, and_true] at hi
    rw [e62 i hi.2.2.2.2.1 hi.2.2.2.2.2.1 hi.2.2.2.2.2.2.1 hi.2.2.2.2.2.2.2.1]; exact p2 i hi2
  · rw [RM_g, RM_w]; exact hg.2
  · rw [e62 23 (by decide) (by decide) (by decide) (by decide)]; exact p5
  · rw [RM_o (by decide), RM_o (by decide)]; exact p6
  · rw [e62 24 (by decide) (by decide) (by decide) (by decide)]; exact p7
  · rw [e62 36 (by decide) (by decide) (by decide) (by decide)]; exact p9
  · rw [RM_o (by decide)]; exact p10
  · rw [e62 37 (by decide) (by decide) (by decide) (by decide)]; exact p11
  · rw [e62 27 (by decide) (by decide) (by decide) (by decide)]; exact p12
  · rw [e62 28 (by decide) (by decide) (by decide) (by decide)]; exact p13
  · have y := lex_W (T := T) (n := n) (p := x.1.2.2.2) hT p4.2.2.1
    have y2 := y.1.2.1
    have y3 := y.2
    show 3 * (x.2.1.length + nop ws) ≤ 6 * x.2.2 + (lexT T n x.1.2.2.2).2.2.2
    omega
theorem tX12_adv {M0 N : Mem} {T : Nat → Nat} {n d : Nat} {x : PSt} {ws : List Nat} {Φ : Option Int32 → Mem → Prop} (hnb : n ≤ 1000) (hn : M0.1 62 30 = nI n) (hT : ∀ i, M0.1 81 i = nI (T i) ∧ T i < 256) (hc : PQ M0 N n x ws) (h0 : x.1.1 ≠ 0) (h1 : x.1.1 ≠ 1) (h : ∀ N2, PQ M0 N2 n (advP T n x) ws → Φ none N2) : JM noRo (d + 2) mX12_next 0 [some (.ref 62)] [] N Φ := by
  have q := tM_next (d := d) (M := N) (n := n) (T := T) (p := x.1.2.2.2) (g := N.1 62) (w := N.2 62) (Φ := Φ) hnb (by rw [hc.1 81 (by decide)]; exact hT) hc.2.2.2.1.2.2.1 (hc.2.2.1.2.2.1 h1) (by rw [hc.2.1 30 (by decide)]; exact hn) (fun g2 w2 k => h _ (hc.ad (fun i => (hT i).2) h0 k))
  rw [RM_self] at q
  exact q
set_option maxRecDepth 100000 in
set_option maxHeartbeats 1000000 in
theorem tX12_wrong {d : Nat} {Φ : Option Int32 → Mem → Prop} {M0 N : Mem} {n f : Nat} {x : PSt} {ws : List Nat} (hc : PQ M0 N n x ws) (h : ∀ N2, QF M0 N2 (if x.1.1 = 1 then 1 else f, x.1.2.2.1) → Φ none N2) : JM noRo d mX12_wrong 0 [some (.ref 62), some (.int (nI f))] [] N Φ := by
  refine J_aload_n dX12_wrong_0 rfl ?_
  refine M_getI dX12_wrong_1 fX12_189 rfl rfl (by decide) ?_
  rw [hc.2.2.2.2.2.2.2.2.2.2.2.1]
  refine J_if_le (tgt := 8) dX12_wrong_4 (by decide) (fun c1 => ?_) (fun c1 => ?_)
  · -- to 8
    refine J_aload_n dX12_wrong_8 rfl ?_
    refine J_aload_n dX12_wrong_9 rfl ?_
    refine M_getI dX12_wrong_10 fX12_177 rfl rfl (by decide) ?_
    rw [hc.2.2.1.2.1]
    refine J_iconst (v := 3) dX12_wrong_13 (by decide) ?_
    refine J_icmp_ne (tgt := 21) dX12_wrong_14 (by decide) (fun c2 => ?_) (fun c2 => ?_)
    · -- to 21
      refine J_iload_n dX12_wrong_21 rfl ?_
      refine M_putI dX12_wrong_22 pX12_189 rfl rfl (by decide) ?_
      refine J_aload_n dX12_wrong_25 rfl ?_
      refine J_aload_n dX12_wrong_26 rfl ?_
      refine M_getI dX12_wrong_27 fX12_167 rfl rfl (by decide) ?_
      rw [rd3 (by decide), hc.2.2.1.1]
      refine M_putI dX12_wrong_30 pX12_68 rfl rfl (by decide) ?_
      refine M_vret dX12_wrong_33 rfl ?_
      refine h _ ⟨fun a ha => ?_, fun i hi => ?_, ?_, rd1⟩
      · rw [rd2 (R4_ne ha).1, rd2 (R4_ne ha).1]; exact hc.1 a ha
      · have hi2 := hi
        simp only [SL, List.mem_cons, not_or, List.not_mem_nil, not_false_eq_true, and_true] at hi
        rw [rd3 hi.2.2.2.1, rd3 hi.2.2.1]; exact hc.2.1 i hi2
      · rw [rd3 (by decide), rd1]
        show _ = nI (if x.1.1 = 1 then 1 else f)
        have h256 := hc.2.2.2.1.2.2.2.2.2.2.1
        first
        | (rw [if_pos ((srt_3 h256).mp c2)]; rfl)
        | (rw [if_neg (fun q => c2 ((srt_3 h256).mpr q))])
    · -- on 17
      refine J_iconst (v := 1) dX12_wrong_17 (by decide) ?_
      refine J_goto (tgt := 22) dX12_wrong_18 (by decide) ?_
      refine M_putI dX12_wrong_22 pX12_189 rfl rfl (by decide) ?_
      refine J_aload_n dX12_wrong_25 rfl ?_
      refine J_aload_n dX12_wrong_26 rfl ?_
      refine M_getI dX12_wrong_27 fX12_167 rfl rfl (by decide) ?_
      rw [rd3 (by decide), hc.2.2.1.1]
      refine M_putI dX12_wrong_30 pX12_68 rfl rfl (by decide) ?_
      refine M_vret dX12_wrong_33 rfl ?_
      refine h _ ⟨fun a ha => ?_, fun i hi => ?_, ?_, rd1⟩
      · rw [rd2 (R4_ne ha).1, rd2 (R4_ne ha).1]; exact hc.1 a ha
      · have hi2 := hi
        simp only [SL, List.mem_cons, not_or, List.not_mem_nil, not_false_eq_true, and_true] at hi
        rw [rd3 hi.2.2.2.1, rd3 hi.2.2.1]; exact hc.2.1 i hi2
      · rw [rd3 (by decide), rd1]
        show _ = nI (if x.1.1 = 1 then 1 else f)
        have h256 := hc.2.2.2.1.2.2.2.2.2.2.1
        first
        | (rw [if_pos ((srt_3 h256).mp c2)]; rfl)
        | (rw [if_neg (fun q => c2 ((srt_3 h256).mpr q))])
  · -- on 7
    exact absurd (by decide) c1
theorem cw_lt {w : Nat} (h : w < 19) : cw w < 2 ^ 63 := by
  have : ∀ w, w < 19 → cw w < 9223372036854775808 := by decide
  exact this w h
theorem fnd_cw : ∀ v, v < 19 → fnd (cw v) 19 0 = v := by decide
theorem srt_1 {K : Nat} (h : K < 256) (h2 : K < 19 → K ≤ 3 ∨ 14 ≤ K) : srt K = 1 ↔ (K = 3 ∨ (14 ≤ K ∧ K < 19)) := by
  unfold srt
  by_cases h0 : K = 0
  · rw [if_pos h0, h0]; decide
  · rw [if_neg h0]
    by_cases h1 : K = 1
    · rw [if_pos h1, h1]; decide
    · rw [if_neg h1]
      by_cases h2 : K = 2
      · rw [if_pos h2, h2]; decide
      · rw [if_neg h2]
        by_cases h3 : K < 19
        · rw [if_pos h3]; exact ⟨fun _ => by omega, fun _ => rfl⟩
        · rw [if_neg h3]
          exact ⟨fun q => absurd ((nI_eq (a := K) (b := 1) (by omega) (by decide)).mp q) (by omega), fun q => absurd q (by omega)⟩
/-- the word of a token is the one of that number -/
theorem wd_eq {g : Nat → Int32} {w : Int64} {t : Tok} {v : Nat} (hk : TkB g w t) (hs : t.1 = 3 ∨ (14 ≤ t.1 ∧ t.1 < 19)) (hv : v < 19) : w = Int64.ofNat (cw v) ↔ (if t.1 = 3 then t.2.1 else t.1) = v := by
  obtain ⟨N, hN, e, hf⟩ := hk.2.2.2.2 hs
  rw [← hf, e]
  constructor
  · intro q
    rw [(i64 hN (cw_lt hv)).mp q]
    exact fnd_cw v hv
  · intro q
    rcases fnd_at (N := N) 19 0 with z | z
    · omega
    · rw [q] at z
      rw [z.2.2]
set_option maxRecDepth 100000 in
set_option maxHeartbeats 1000000 in
theorem tX12_isWord {d : Nat} {Φ : Option Int32 → Mem → Prop} {M0 N : Mem} {n v : Nat} {x : PSt} {ws : List Nat} (hc : PQ M0 N n x ws) (h14 : 14 ≤ v) (hv : v < 19) (h1 : x.1.1 = v → Φ (some 1) N) (h0 : ¬ x.1.1 = v → Φ (some 0) N) : JM noRo d mX12_isWord 0 [some (.ref 62), some (.long (Int64.ofNat (cw v))), none] [] N Φ := by
  have h256 := hc.2.2.2.1.2.2.2.2.2.2.1
  refine J_aload_n dX12_isWord_0 rfl ?_
  refine M_getI dX12_isWord_1 fX12_177 rfl rfl (by decide) ?_
  rw [hc.2.2.1.2.1]
  refine J_iconst (v := 1) dX12_isWord_4 (by decide) ?_
  refine J_icmp_ne (tgt := 21) dX12_isWord_5 (by decide) (fun c1 => ?_) (fun c1 => ?_)
  · -- to 21
    try have cS := c1
    refine J_iconst (v := 0) dX12_isWord_21 (by decide) ?_
    refine M_zret dX12_isWord_22 rfl (by first | assumption | exact Or.inl rfl | exact Or.inr rfl) ?_
    first
    | exact h1 (by
        have q := (wd_eq hc.2.2.1 hS hv).mp ((lg_cmp_eq _ _).mp c1)
        by_cases e : x.1.1 = 3
        · rw [if_pos e] at q
          rcases hc.2.2.2.1.2.2.2.2.2.1 e with z | z <;> omega
        · rw [if_neg e] at q; exact q)
    | exact h0 (fun q => cS ((srt_1 h256 hc.2.2.2.1.2.2.2.2.2.2.2.2).mpr (Or.inr (by omega))))
    | exact h0 (fun q => c1 ((lg_cmp_eq _ _).mpr ((wd_eq hc.2.2.1 hS hv).mpr (by rw [if_neg (by omega)]; exact q))))
  · -- on 8
    have hS := (srt_1 h256 hc.2.2.2.1.2.2.2.2.2.2.2.2).mp c1
    refine J_aload_n dX12_isWord_8 rfl ?_
    refine M_getL dX12_isWord_9 fX12_170 rfl rfl (by decide) ?_
    refine J_lload_n dX12_isWord_12 rfl ?_
    refine J_lcmp dX12_isWord_13 ?_
    refine J_if_ne (tgt := 21) dX12_isWord_14 (by decide) (fun c2 => ?_) (fun c2 => ?_)
    · -- to 21
      try have cS := c2
      refine J_iconst (v := 0) dX12_isWord_21 (by decide) ?_
      refine M_zret dX12_isWord_22 rfl (by first | assumption | exact Or.inl rfl | exact Or.inr rfl) ?_
      first
      | exact h1 (by
          have q := (wd_eq hc.2.2.1 hS hv).mp ((lg_cmp_eq _ _).mp c2)
          by_cases e : x.1.1 = 3
          · rw [if_pos e] at q
            rcases hc.2.2.2.1.2.2.2.2.2.1 e with z | z <;> omega
          · rw [if_neg e] at q; exact q)
      | exact h0 (fun q => cS ((srt_1 h256 hc.2.2.2.1.2.2.2.2.2.2.2.2).mpr (Or.inr (by omega))))
      | exact h0 (fun q => c2 ((lg_cmp_eq _ _).mpr ((wd_eq hc.2.2.1 hS hv).mpr (by rw [if_neg (by omega)]; exact q))))
    · -- on 17
      refine J_iconst (v := 1) dX12_isWord_17 (by decide) ?_
      refine J_goto (tgt := 22) dX12_isWord_18 (by decide) ?_
      refine M_zret dX12_isWord_22 rfl (by first | assumption | exact Or.inl rfl | exact Or.inr rfl) ?_
      first
      | exact h1 (by
          have q := (wd_eq hc.2.2.1 hS hv).mp ((lg_cmp_eq _ _).mp c2)
          by_cases e : x.1.1 = 3
          · rw [if_pos e] at q
            rcases hc.2.2.2.1.2.2.2.2.2.1 e with z | z <;> omega
          · rw [if_neg e] at q; exact q)
      | exact h0 (fun q => cS ((srt_1 h256 hc.2.2.2.1.2.2.2.2.2.2.2.2).mpr (Or.inr (by omega))))
      | exact h0 (fun q => c2 ((lg_cmp_eq _ _).mpr ((wd_eq hc.2.2.1 hS hv).mpr (by rw [if_neg (by omega)]; exact q))))

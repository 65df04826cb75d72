def R6 : List Nat := [62, 77, 78, 79, 80, 82]
def SL3 : List Nat := [22, 26, 30, 23, 24, 27, 28, 29, 31, 32, 33, 34, 36, 37]
def stL (es : List Nat) : Nat → Nat
  | 0 => 0
  | i + 1 => es.getD i 0
/-- the reference between two rules -/
def QN (M N : Mem) (n : Nat) (x : PSt) (es ps : List Nat) : Prop := (∀ a, a ∉ R6 → N.1 a = M.1 a) ∧ (∀ i, i ∉ SL3 → N.1 62 i = M.1 62 i) ∧ TkB (N.1 62) (N.2 62) x.1 ∧ TW n x.1 ∧ N.1 62 30 = nI n ∧ N.1 62 23 = nI x.2.1.length ∧ (∀ (i : Nat) (c : Nat), x.2.1[i]? = some c → N.1 77 i = nI (enc c) ∧ (100 ≤ c → N.1 78 i = nI (c - 100))) ∧ N.1 62 24 = nI x.2.2 ∧ x.2.2 ≤ 120 ∧ N.1 62 27 = 0 ∧ N.1 62 28 = -1 ∧ 3 * x.2.1.length ≤ 6 * x.2.2 + x.1.2.2.1 ∧ (N.1 62 22 = nI es.length ∧ es.length = ps.length) ∧ (∀ i, i < es.length → N.1 79 i = nI (stL es i)) ∧ (∀ (i : Nat) (c : Nat), ps[i]? = some c → N.1 80 i = nI c) ∧ x.2.1.length = stL es es.length ∧ N.1 62 26 = 0
def QF6 (M N : Mem) (f : Nat × Nat) : Prop := (∀ a, a ∉ R6 → N.1 a = M.1 a) ∧ (∀ i, i ∉ SL3 → N.1 62 i = M.1 62 i) ∧ N.1 62 27 = nI f.1 ∧ N.1 62 28 = nI f.2 ∧ N.1 62 26 = 0
theorem R6_ne {a : Nat} (h : a ∉ R6) : a ≠ 62 ∧ a ≠ 77 ∧ a ≠ 78 ∧ a ≠ 79 ∧ a ≠ 80 ∧ a ≠ 82 ∧ a ∉ R4 := by
  simp only [R6, List.mem_cons, not_or, List.not_mem_nil, not_false_eq_true, and_true] at h
  refine ⟨by omega, by omega, by omega, by omega, by omega, by omega, ?_⟩
  simp only [R4, List.mem_cons, not_or, List.not_mem_nil, not_false_eq_true, and_true]
  omega
theorem SL3_ne {i : Nat} (h : i ∉ SL3) : i ≠ 22 ∧ i ≠ 26 ∧ i ≠ 30 ∧ i ≠ 29 ∧ i ≠ 31 ∧ i ≠ 32 ∧ i ≠ 33 ∧ i ≠ 27 ∧ i ≠ 28 ∧ i ∉ SL := by
  simp only [SL3, List.mem_cons, not_or, List.not_mem_nil, not_false_eq_true, and_true] at h
  refine ⟨by omega, by omega, by omega, by omega, by omega, by omega, by omega, by omega, by omega, ?_⟩
  simp only [SL, List.mem_cons, not_or, List.not_mem_nil, not_false_eq_true, and_true]
  omega
theorem stL_lo {es : List Nat} {c i : Nat} (h : i ≤ es.length) : stL (es ++ [c]) i = stL es i := by
  cases i with
  | zero => rfl
  | succ i =>
    show (es ++ [c]).getD i 0 = es.getD i 0
    rw [List.getD_eq_getElem?_getD, List.getD_eq_getElem?_getD, List.getElem?_append_left (by omega)]
theorem stL_hi {es : List Nat} {c : Nat} : stL (es ++ [c]) (es.length + 1) = c := by
  show (es ++ [c]).getD es.length 0 = c
  rw [List.getD_eq_getElem?_getD, List.getElem?_append_right (Nat.le_refl _), Nat.sub_self]
  rfl
theorem srt_0 {K : Nat} (h : K < 256) : srt K = 0 ↔ K = 0 := by
  unfold srt
  by_cases h0 : K = 0
  · rw [if_pos h0]; exact ⟨fun _ => h0, fun _ => rfl⟩
  · rw [if_neg h0]
    by_cases h1 : K = 1
    · rw [if_pos h1]; exact ⟨fun q => absurd q (by decide), fun q => absurd q h0⟩
    · rw [if_neg h1]
      by_cases h2 : K = 2
      · rw [if_pos h2]; exact ⟨fun q => absurd q (by decide), fun q => absurd q h0⟩
      · rw [if_neg h2]
        by_cases h3 : K < 19
        · rw [if_pos h3]; exact ⟨fun q => absurd q (by decide), fun q => absurd q h0⟩
        · rw [if_neg h3]
          exact ⟨fun q => absurd ((nI_eq (a := K) (b := 0) (by omega) (by decide)).mp q) h0, fun q => absurd q h0⟩
set_option maxRecDepth 100000 in
set_option maxHeartbeats 1000000 in
theorem tX12_wrongN {d : Nat} {Φ : Option Int32 → Mem → Prop} {M0 N : Mem} {n f : Nat} {x : PSt} {es ps : List Nat} (hc : QN M0 N n x es ps) (h : ∀ N2, QF6 M0 N2 (if x.1.1 = 1 then 1 else f, x.1.2.2.1) → Φ none N2) : JM noRo d mX12_wrong 0 [some (.ref 62), some (.int (nI f))] [] N Φ := by
  refine J_aload_n dX12_wrong_0 rfl ?_
  refine M_getI dX12_wrong_1 fX12_189 rfl rfl (by decide) ?_
  rw [hc.2.2.2.2.2.2.2.2.2.1]
  refine J_if_le (tgt := 8) dX12_wrong_4 (by decide) (fun c1 => ?_) (fun c1 => ?_)
  · -- to 8
    refine J_aload_n dX12_wrong_8 rfl ?_
    refine J_aload_n dX12_wrong_9 rfl ?_
    refine M_getI dX12_wrong_10 fX12_177 rfl rfl (by decide) ?_
    rw [hc.2.2.1.2.1]
    refine J_iconst (v := 3) dX12_wrong_13 (by decide) ?_
    refine J_icmp_ne (tgt := 21) dX12_wrong_14 (by decide) (fun c2 => ?_) (fun c2 => ?_)
    · -- to 21
      refine J_iload_n dX12_wrong_21 rfl ?_
      refine M_putI dX12_wrong_22 pX12_189 rfl rfl (by decide) ?_
      refine J_aload_n dX12_wrong_25 rfl ?_
      refine J_aload_n dX12_wrong_26 rfl ?_
      refine M_getI dX12_wrong_27 fX12_167 rfl rfl (by decide) ?_
      rw [rd3 (by decide), hc.2.2.1.1]
      refine M_putI dX12_wrong_30 pX12_68 rfl rfl (by decide) ?_
      refine M_vret dX12_wrong_33 rfl ?_
      refine h _ ⟨fun a ha => ?_, fun i hi => ?_, ?_, rd1, ?_⟩
      · rw [rd2 (R6_ne ha).1, rd2 (R6_ne ha).1]; exact hc.1 a ha
      · rw [rd3 (SL3_ne hi).2.2.2.2.2.2.2.2.1, rd3 (SL3_ne hi).2.2.2.2.2.2.2.1]; exact hc.2.1 i hi
      · rw [rd3 (by decide), rd1]
        show _ = nI (if x.1.1 = 1 then 1 else f)
        have h256 := hc.2.2.2.1.2.2.2.2.2.2.1
        first
        | (rw [if_pos ((srt_3 h256).mp c2)]; rfl)
        | (rw [if_neg (fun q => c2 ((srt_3 h256).mpr q))])
      · rw [rd3 (by decide), rd3 (by decide)]; exact hc.2.2.2.2.2.2.2.2.2.2.2.2.2.2.2.2
    · -- on 17
      refine J_iconst (v := 1) dX12_wrong_17 (by decide) ?_
      refine J_goto (tgt := 22) dX12_wrong_18 (by decide) ?_
      refine M_putI dX12_wrong_22 pX12_189 rfl rfl (by decide) ?_
      refine J_aload_n dX12_wrong_25 rfl ?_
      refine J_aload_n dX12_wrong_26 rfl ?_
      refine M_getI dX12_wrong_27 fX12_167 rfl rfl (by decide) ?_
      rw [rd3 (by decide), hc.2.2.1.1]
      refine M_putI dX12_wrong_30 pX12_68 rfl rfl (by decide) ?_
      refine M_vret dX12_wrong_33 rfl ?_
      refine h _ ⟨fun a ha => ?_, fun i hi => ?_, ?_, rd1, ?_⟩
      · rw [rd2 (R6_ne ha).1, rd2 (R6_ne ha).1]; exact hc.1 a ha
      · rw [rd3 (SL3_ne hi).2.2.2.2.2.2.2.2.1, rd3 (SL3_ne hi).2.2.2.2.2.2.2.1]; exact hc.2.1 i hi
      · rw [rd3 (by decide), rd1]
        show _ = nI (if x.1.1 = 1 then 1 else f)
        have h256 := hc.2.2.2.1.2.2.2.2.2.2.1
        first
        | (rw [if_pos ((srt_3 h256).mp c2)]; rfl)
        | (rw [if_neg (fun q => c2 ((srt_3 h256).mpr q))])
      · rw [rd3 (by decide), rd3 (by decide)]; exact hc.2.2.2.2.2.2.2.2.2.2.2.2.2.2.2.2
  · -- on 7
    exact absurd (by decide) c1
set_option maxRecDepth 100000 in
set_option maxHeartbeats 1000000 in
theorem tX12_isWordN {d : Nat} {Φ : Option Int32 → Mem → Prop} {M0 N : Mem} {n v : Nat} {x : PSt} {es ps : List Nat} (hc : QN M0 N n x es ps) (h14 : 14 ≤ v) (hv : v < 19) (h1 : x.1.1 = v → Φ (some 1) N) (h0 : ¬ x.1.1 = v → Φ (some 0) N) : JM noRo d mX12_isWord 0 [some (.ref 62), some (.long (Int64.ofNat (cw v))), none] [] N Φ := by
  have h256 := hc.2.2.2.1.2.2.2.2.2.2.1
  refine J_aload_n dX12_isWord_0 rfl ?_
  refine M_getI dX12_isWord_1 fX12_177 rfl rfl (by decide) ?_
  rw [hc.2.2.1.2.1]
  refine J_iconst (v := 1) dX12_isWord_4 (by decide) ?_
  refine J_icmp_ne (tgt := 21) dX12_isWord_5 (by decide) (fun c1 => ?_) (fun c1 => ?_)
  · -- to 21
    try have cS := c1
    refine J_iconst (v := 0) dX12_isWord_21 (by decide) ?_
    refine M_zret dX12_isWord_22 rfl (by first | assumption | exact Or.inl rfl | exact Or.inr rfl) ?_
    first
    | exact h1 (by
        have q := (wd_eq hc.2.2.1 hS hv).mp ((lg_cmp_eq _ _).mp c1)
        by_cases e : x.1.1 = 3
        · rw [if_pos e] at q
          rcases hc.2.2.2.1.2.2.2.2.2.1 e with z | z <;> omega
        · rw [if_neg e] at q; exact q)
    | exact h0 (fun q => cS ((srt_1 h256 hc.2.2.2.1.2.2.2.2.2.2.2.2).mpr (Or.inr (by omega))))
    | exact h0 (fun q => c1 ((lg_cmp_eq _ _).mpr ((wd_eq hc.2.2.1 hS hv).mpr (by rw [if_neg (by omega)]; exact q))))
  · -- on 8
    have hS := (srt_1 h256 hc.2.2.2.1.2.2.2.2.2.2.2.2).mp c1
    refine J_aload_n dX12_isWord_8 rfl ?_
    refine M_getL dX12_isWord_9 fX12_170 rfl rfl (by decide) ?_
    refine J_lload_n dX12_isWord_12 rfl ?_
    refine J_lcmp dX12_isWord_13 ?_
    refine J_if_ne (tgt := 21) dX12_isWord_14 (by decide) (fun c2 => ?_) (fun c2 => ?_)
    · -- to 21
      try have cS := c2
      refine J_iconst (v := 0) dX12_isWord_21 (by decide) ?_
      refine M_zret dX12_isWord_22 rfl (by first | assumption | exact Or.inl rfl | exact Or.inr rfl) ?_
      first
      | exact h1 (by
          have q := (wd_eq hc.2.2.1 hS hv).mp ((lg_cmp_eq _ _).mp c2)
          by_cases e : x.1.1 = 3
          · rw [if_pos e] at q
            rcases hc.2.2.2.1.2.2.2.2.2.1 e with z | z <;> omega
          · rw [if_neg e] at q; exact q)
      | exact h0 (fun q => cS ((srt_1 h256 hc.2.2.2.1.2.2.2.2.2.2.2.2).mpr (Or.inr (by omega))))
      | exact h0 (fun q => c2 ((lg_cmp_eq _ _).mpr ((wd_eq hc.2.2.1 hS hv).mpr (by rw [if_neg (by omega)]; exact q))))
    · -- on 17
      refine J_iconst (v := 1) dX12_isWord_17 (by decide) ?_
      refine J_goto (tgt := 22) dX12_isWord_18 (by decide) ?_
      refine M_zret dX12_isWord_22 rfl (by first | assumption | exact Or.inl rfl | exact Or.inr rfl) ?_
      first
      | exact h1 (by
          have q := (wd_eq hc.2.2.1 hS hv).mp ((lg_cmp_eq _ _).mp c2)
          by_cases e : x.1.1 = 3
          · rw [if_pos e] at q
            rcases hc.2.2.2.1.2.2.2.2.2.1 e with z | z <;> omega
          · rw [if_neg e] at q; exact q)
      | exact h0 (fun q => cS ((srt_1 h256 hc.2.2.2.1.2.2.2.2.2.2.2.2).mpr (Or.inr (by omega))))
      | exact h0 (fun q => c2 ((lg_cmp_eq _ _).mpr ((wd_eq hc.2.2.1 hS hv).mpr (by rw [if_neg (by omega)]; exact q))))

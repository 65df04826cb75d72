def RL4 : List Nat := [62, 83, 84, 85]
def RI (M N : Mem) (p : Nat → Nat) (t : Nat) : Prop := (∀ a, a ∉ RL4 → N.1 a = M.1 a) ∧ (∀ i, i ≠ 42 → N.1 62 i = M.1 62 i) ∧ N.1 62 42 = nI t ∧ ∀ k, k < 12 → N.1 85 k = tp (p k)
theorem RL4_ne {a : Nat} (h : a ∉ RL4) : a ≠ 62 ∧ a ≠ 83 ∧ a ≠ 84 ∧ a ≠ 85 := by
  simp only [RL4, List.mem_cons, not_or, List.not_mem_nil, not_false_eq_true, and_true] at h
  omega
theorem RI.vw {M N : Mem} {t : Nat} {p : Nat → Nat} (h : RI M N p t) : Vw M N := by
  refine ⟨fun a ha => h.1 a ?_, h.2.1 0 (by decide), h.2.1 1 (by decide), h.2.1 17 (by decide)⟩
  simp only [WL, List.mem_cons, not_or, List.not_mem_nil, not_false_eq_true, and_true] at ha
  simp only [RL4, List.mem_cons, not_or, List.not_mem_nil, not_false_eq_true, and_true]
  omega
theorem RI.ws {M N : Mem} {t : Nat} {p : Nat → Nat} {g s : Nat → Int32} (h : RI M N p t) : RI M (wa (wa N 84 g) 83 s) p t := by
  refine ⟨fun a ha => ?_, ?_, ?_, ?_⟩
  · rw [wa_e (RL4_ne ha).2.2.1 (RL4_ne ha).2.1]; exact h.1 a ha
  · rw [wa_e (by decide) (by decide)]; exact h.2.1
  · rw [wa_e (by decide) (by decide)]; exact h.2.2.1
  · rw [wa_e (by decide) (by decide)]; exact h.2.2.2
theorem RI.w85 {M N : Mem} {t j q : Nat} {p : Nat → Nat} (h : RI M N p t) : RI M (wr N 85 j (tp q)) (pset p j q) t := by
  refine ⟨fun a ha => ?_, ?_, ?_, fun k hk => ?_⟩
  · rw [rd2 (RL4_ne ha).2.2.2]; exact h.1 a ha
  · rw [rd2 (by decide)]; exact h.2.1
  · rw [rd2 (by decide)]; exact h.2.2.1
  · by_cases e : k = j
    · rw [e, rd1, pset_s]
    · rw [rd3 e, pset_n e]; exact h.2.2.2 k hk
theorem RI.w62 {M N : Mem} {t t2 : Nat} {p : Nat → Nat} (h : RI M N p t) : RI M (wr N 62 42 (nI t2)) p t2 := by
  refine ⟨fun a ha => ?_, fun i hi => ?_, rd1, ?_⟩
  · rw [rd2 (RL4_ne ha).1]; exact h.1 a ha
  · rw [rd3 hi]; exact h.2.1 i hi
  · rw [rd2 (by decide)]; exact h.2.2.2
theorem tp_eq {q s : Nat} (hq : q ≤ 24) (hs : s < 24) : tp q = nI s ↔ q = s + 1 := by
  cases q with
  | zero => exact ⟨fun h => absurd h.symm (tp_ne (by omega)), fun h => by omega⟩
  | succ q => exact ⟨fun h => by rw [(nI_eq (by omega) (by omega)).mp h], fun h => by rw [show q = s by omega]; rfl⟩
def nxL (lm : Nat → Int32) : Nat → Nat → Nat
  | 0, k => k
  | l + 1, k => if lm k = 0 then k else nxL lm l (k + 1)
def lsL (lm : Nat → Int32) : Nat → Nat
  | 0 => 0
  | q + 1 => if lm q = 0 then q + 1 else lsL lm q
theorem nx_0 {lm : Nat → Int32} {l k : Nat} (h : lm k = 0) : nxL lm (l + 1) k = k := by rw [nxL, if_pos h]
theorem nx_1 {lm : Nat → Int32} {l k : Nat} (h : ¬ lm k = 0) : nxL lm (l + 1) k = nxL lm l (k + 1) := by rw [nxL, if_neg h]
theorem ls_0 {lm : Nat → Int32} {q : Nat} (h : lm q = 0) : lsL lm (q + 1) = q + 1 := by rw [lsL, if_pos h]
theorem ls_1 {lm : Nat → Int32} {q : Nat} (h : ¬ lm q = 0) : lsL lm (q + 1) = lsL lm q := by rw [lsL, if_neg h]
theorem ls_nx {lm : Nat → Int32} : ∀ l k, lsL lm (nxL lm l k) = lsL lm k
  | 0, _ => rfl
  | l + 1, k => by
    by_cases h : lm k = 0
    · rw [nx_0 h]
    · rw [nx_1 h, ls_nx l (k + 1), ls_1 h]
theorem nx_at {lm : Nat → Int32} : ∀ l k, k ≤ nxL lm l k ∧ nxL lm l k ≤ k + l ∧ (nxL lm l k = k + l ∨ lm (nxL lm l k) = 0)
  | 0, k => ⟨Nat.le_refl _, Nat.le_refl _, Or.inl rfl⟩
  | l + 1, k => by
    by_cases h : lm k = 0
    · rw [nx_0 h]; exact ⟨Nat.le_refl _, by omega, Or.inr h⟩
    · rw [nx_1 h]
      have z := nx_at (lm := lm) l (k + 1)
      refine ⟨by omega, by omega, ?_⟩
      rcases z.2.2 with q | q
      · left; omega
      · exact Or.inr q
theorem plc_nx {lm : Nat → Int32} {ft : (Nat → Nat) → Nat → Nat → Bool} {p : Nat → Nat} {t : Nat} : ∀ k h k2, nxL lm k h + k2 = h + k → plc lm ft k h p t = plc lm ft k2 (nxL lm k h) p t
  | 0, h, k2, e => by
    obtain rfl : k2 = 0 := by have : nxL lm 0 h = h := rfl; omega
    rfl
  | k + 1, h, k2, e => by
    by_cases hl : lm h = 0
    · rw [nx_0 hl] at e ⊢
      obtain rfl : k2 = k + 1 := by omega
      rfl
    · rw [nx_1 hl] at e ⊢
      rw [plc, if_neg hl]
      exact plc_nx k (h + 1) k2 (by omega)
set_option maxRecDepth 100000 in
set_option maxHeartbeats 1000000 in
theorem tX12_nextOf_l {d : Nat} {M : Mem} {Φ : Option Int32 → Mem → Prop} {n : Nat} {x : Int32} (hn : M.1 62 1 = nI n) (hnb : n ≤ 12) (hL : ∀ j, M.1 66 j = 0 ∨ M.1 66 j = 1) : ∀ l k, k + l = n → Φ (some (nI (nxL (M.1 66) l k))) M → JM noRo d mX12_nextOf 4 [some (.ref 62), some (.int x), some (.int (nI k))] [] M Φ := by
  intro l
  induction l with
  | zero =>
    intro k hk h
    refine J_iload_n dX12_nextOf_4 rfl ?_
    refine J_aload_n dX12_nextOf_5 rfl ?_
    refine M_getI dX12_nextOf_6 fX12_132 rfl rfl (by decide) ?_
    rw [hn]
    refine J_icmp_ge (tgt := 28) dX12_nextOf_9 (by decide) (fun c1 => ?_) (fun c1 => ?_)
    · -- to 28
      refine J_iload_n dX12_nextOf_28 rfl ?_
      refine M_iret dX12_nextOf_29 rfl rfl ?_
      obtain rfl : k = n := by omega
      exact h
    · -- on 12
      exact absurd (nI_le (by omega) (by omega)) c1
  | succ l ih =>
    intro k hk h
    refine J_iload_n dX12_nextOf_4 rfl ?_
    refine J_aload_n dX12_nextOf_5 rfl ?_
    refine M_getI dX12_nextOf_6 fX12_132 rfl rfl (by decide) ?_
    rw [hn]
    refine J_icmp_ge (tgt := 28) dX12_nextOf_9 (by decide) (fun c1 => ?_) (fun c1 => ?_)
    · -- to 28
      exact absurd c1 (nI_ge (by omega) (by omega))
    · -- on 12
      refine J_aload_n dX12_nextOf_12 rfl ?_
      refine M_getR dX12_nextOf_13 fX12_19 rfl rfl (by decide) ?_
      refine J_iload_n dX12_nextOf_16 rfl ?_
      refine M_ialdE dX12_nextOf_17 rfl (by decide) (by first | rfl | assumption) (by omega) ?_
      refine J_iconst (v := 1) dX12_nextOf_18 (by decide) ?_
      refine J_icmp_ne (tgt := 28) dX12_nextOf_19 (by decide) (fun c2 => ?_) (fun c2 => ?_)
      · -- to 28
        refine J_iload_n dX12_nextOf_28 rfl ?_
        refine M_iret dX12_nextOf_29 rfl rfl ?_
        rw [nx_0 ((hL k).resolve_right c2)] at h
        exact h
      · -- on 22
        refine J_iinc (v := nI (k + 1)) dX12_nextOf_22 rfl (nI_1 k) (by decide) rfl ?_
        dsimp only [setL]
        refine J_goto (tgt := 4) dX12_nextOf_25 (by decide) ?_
        rw [nx_1 (fun q => absurd (q.symm.trans c2) (by decide))] at h
        exact ih (k + 1) (by omega) h
set_option maxRecDepth 100000 in
set_option maxHeartbeats 1000000 in
theorem tX12_nextOf {d : Nat} {M : Mem} {Φ : Option Int32 → Mem → Prop} {n l k : Nat} {x : Int32} (hn : M.1 62 1 = nI n) (hnb : n ≤ 12) (hL : ∀ j, M.1 66 j = 0 ∨ M.1 66 j = 1) (hx : x + 1 = nI k) (hk : k + l = n) (h : Φ (some (nI (nxL (M.1 66) l k))) M) : JM noRo d mX12_nextOf 0 [some (.ref 62), some (.int x)] [] M Φ := by
  refine J_iload_n dX12_nextOf_0 rfl ?_
  refine J_iconst (v := 1) dX12_nextOf_1 (by decide) ?_
  refine J_iadd dX12_nextOf_2 ?_
  rw [hx]
  refine J_istore_n dX12_nextOf_3 (by decide) rfl ?_
  dsimp only [setL]
  exact tX12_nextOf_l hn hnb hL l k hk h
theorem tp_d : ∀ q, nI q + (-1) = tp q
  | 0 => rfl
  | q + 1 => nI_dec q
theorem tp_m : ∀ q, nI q - 1 = tp q
  | 0 => rfl
  | q + 1 => nI_pred q
set_option maxRecDepth 100000 in
set_option maxHeartbeats 1000000 in
theorem tX12_lastOf_l {d : Nat} {M : Mem} {Φ : Option Int32 → Mem → Prop} {x : Int32} (hL : ∀ j, M.1 66 j = 0 ∨ M.1 66 j = 1) : ∀ q, q ≤ 12 → Φ (some (tp (lsL (M.1 66) q))) M → JM noRo d mX12_lastOf 4 [some (.ref 62), some (.int x), some (.int (tp q))] [] M Φ := by
  intro q
  induction q with
  | zero =>
    intro hq h
    rw [show tp 0 = -1 from rfl]
    refine J_iload_n dX12_lastOf_4 rfl ?_
    refine J_if_lt (tgt := 24) dX12_lastOf_5 (by decide) (fun c1 => ?_) (fun c1 => ?_)
    · -- to 24
      refine J_iload_n dX12_lastOf_24 rfl ?_
      refine M_iret dX12_lastOf_25 rfl rfl ?_
      exact h
    · -- on 8
      exact absurd (by decide) c1
  | succ q ih =>
    intro hq h
    rw [show tp (q + 1) = nI q from rfl]
    refine J_iload_n dX12_lastOf_4 rfl ?_
    refine J_if_lt (tgt := 24) dX12_lastOf_5 (by decide) (fun c1 => ?_) (fun c1 => ?_)
    · -- to 24
      exact absurd c1 (nI_nlt (b := 0) (Nat.zero_le _) (by omega))
    · -- on 8
      refine J_aload_n dX12_lastOf_8 rfl ?_
      refine M_getR dX12_lastOf_9 fX12_19 rfl rfl (by decide) ?_
      refine J_iload_n dX12_lastOf_12 rfl ?_
      refine M_ialdE dX12_lastOf_13 rfl (by decide) (by first | rfl | assumption) (by omega) ?_
      refine J_iconst (v := 1) dX12_lastOf_14 (by decide) ?_
      refine J_icmp_ne (tgt := 24) dX12_lastOf_15 (by decide) (fun c2 => ?_) (fun c2 => ?_)
      · -- to 24
        refine J_iload_n dX12_lastOf_24 rfl ?_
        refine M_iret dX12_lastOf_25 rfl rfl ?_
        rw [ls_0 ((hL q).resolve_right c2)] at h
        exact h
      · -- on 18
        refine J_iinc (v := tp q) dX12_lastOf_18 rfl (tp_d q) (by decide) rfl ?_
        dsimp only [setL]
        refine J_goto (tgt := 4) dX12_lastOf_21 (by decide) ?_
        rw [ls_1 (fun z => absurd (z.symm.trans c2) (by decide))] at h
        exact ih (by omega) h
set_option maxRecDepth 100000 in
set_option maxHeartbeats 1000000 in
theorem tX12_lastOf {d : Nat} {M : Mem} {Φ : Option Int32 → Mem → Prop} {q : Nat} (hL : ∀ j, M.1 66 j = 0 ∨ M.1 66 j = 1) (hq : q ≤ 12) (h : Φ (some (tp (lsL (M.1 66) q))) M) : JM noRo d mX12_lastOf 0 [some (.ref 62), some (.int (nI q))] [] M Φ := by
  refine J_iload_n dX12_lastOf_0 rfl ?_
  refine J_iconst (v := 1) dX12_lastOf_1 (by decide) ?_
  refine J_isub dX12_lastOf_2 ?_
  rw [tp_m]
  refine J_istore_n dX12_lastOf_3 (by decide) rfl ?_
  dsimp only [setL]
  exact tX12_lastOf_l hL q hq h
set_option maxRecDepth 100000 in
set_option maxHeartbeats 1000000 in
theorem tX12_fits_a {d : Nat} {M : Mem} {Φ : Option Int32 → Mem → Prop} {t j s : Nat} {p : Nat → Nat} {M0 : Mem} (hc : RI M0 M p t) (hj : j < 12) (hs : s < 24) (hp : ∀ k, p k ≤ 24) (h : JM noRo d mX12_fits 63 [some (.ref 62), some (.int (nI j)), some (.int (nI s)), some (.int (nI (s / 6))), some (.int (nI (s % 6))), some (.int (nI (cntP p s j)))] [] M Φ) : ∀ l k, k + l = j → JM noRo d mX12_fits 30 [some (.ref 62), some (.int (nI j)), some (.int (nI s)), some (.int (nI (s / 6))), some (.int (nI (s % 6))), some (.int (nI (cntP p s k))), some (.int (nI k))] [] M Φ := by
  intro l
  induction l with
  | zero =>
    intro k hk
    refine J_iload dX12_fits_30 rfl ?_
    refine J_iload_n dX12_fits_32 rfl ?_
    refine J_icmp_ge (tgt := 63) dX12_fits_33 (by decide) (fun c1 => ?_) (fun c1 => ?_)
    · -- to 63
      obtain rfl : k = j := by omega
      refine J_dropN 6 ?_
      exact h
    · -- on 36
      exact absurd (nI_le (by omega) (by omega)) c1
  | succ l ih =>
    intro k hk
    refine J_iload dX12_fits_30 rfl ?_
    refine J_iload_n dX12_fits_32 rfl ?_
    refine J_icmp_ge (tgt := 63) dX12_fits_33 (by decide) (fun c1 => ?_) (fun c1 => ?_)
    · -- to 63
      exact absurd c1 (nI_ge (by omega) (by omega))
    · -- on 36
      refine J_iload dX12_fits_36 rfl ?_
      refine J_aload_n dX12_fits_38 rfl ?_
      refine M_getR dX12_fits_39 fX12_81 rfl rfl (by decide) ?_
      refine J_iload dX12_fits_42 rfl ?_
      refine M_ialdE dX12_fits_44 rfl (by decide) (by first | rfl | assumption) (by omega) ?_
      rw [hc.2.2.2 k (by omega)]
      refine J_iload_n dX12_fits_45 rfl ?_
      refine J_icmp_ne (tgt := 53) dX12_fits_46 (by decide) (fun c2 => ?_) (fun c2 => ?_)
      · -- to 53
        have cE := cnt_n (fun q => c2 ((tp_eq (hp k) hs).mpr q))
        refine J_iconst (v := 0) dX12_fits_53 (by decide) ?_
        refine J_iadd dX12_fits_54 ?_
        first
        | rw [nI_1, ← cE]
        | rw [Int32.add_zero, ← cE]
        refine J_istore dX12_fits_55 (by decide) rfl ?_
        dsimp only [setL]
        refine J_iinc (v := nI (k + 1)) dX12_fits_57 rfl (nI_1 k) (by decide) rfl ?_
        dsimp only [setL]
        refine J_goto (tgt := 30) dX12_fits_60 (by decide) ?_
        exact ih (k + 1) (by omega)
      · -- on 49
        have cE := cnt_y ((tp_eq (hp k) hs).mp c2)
        refine J_iconst (v := 1) dX12_fits_49 (by decide) ?_
        refine J_goto (tgt := 54) dX12_fits_50 (by decide) ?_
        refine J_iadd dX12_fits_54 ?_
        first
        | rw [nI_1, ← cE]
        | rw [Int32.add_zero, ← cE]
        refine J_istore dX12_fits_55 (by decide) rfl ?_
        dsimp only [setL]
        refine J_iinc (v := nI (k + 1)) dX12_fits_57 rfl (nI_1 k) (by decide) rfl ?_
        dsimp only [setL]
        refine J_goto (tgt := 30) dX12_fits_60 (by decide) ?_
        exact ih (k + 1) (by omega)
set_option maxRecDepth 100000 in
set_option maxHeartbeats 1000000 in
theorem tX12_fits_z {d : Nat} {M : Mem} {Φ : Option Int32 → Mem → Prop} {j s k : Nat} {x : Int32} (h : Φ (some 0) M) : JM noRo d mX12_fits 85 [some (.ref 62), some (.int (nI j)), some (.int (nI s)), some (.int (nI (s / 6))), some (.int (nI (s % 6))), some (.int x), some (.int 0), some (.int (nI k))] [] M Φ := by
  refine J_iload dX12_fits_85 rfl ?_
  refine J_iload_n dX12_fits_87 rfl ?_
  refine J_icmp_ge (tgt := 156) dX12_fits_88 (by decide) (fun c1 => ?_) (fun c1 => ?_)
  · -- to 156
    refine J_iload dX12_fits_156 rfl ?_
    refine M_zret dX12_fits_158 rfl (by first | assumption | exact Or.inl rfl | exact Or.inr rfl) ?_
    exact h
  · -- on 91
    refine J_iload dX12_fits_91 rfl ?_
    refine J_if_eq (tgt := 156) dX12_fits_93 (by decide) (fun c2 => ?_) (fun c2 => ?_)
    · -- to 156
      refine J_iload dX12_fits_156 rfl ?_
      refine M_zret dX12_fits_158 rfl (by first | assumption | exact Or.inl rfl | exact Or.inr rfl) ?_
      exact h
    · -- on 96
      exact absurd c2 (by decide)
set_option maxRecDepth 100000 in
set_option maxHeartbeats 1000000 in
theorem tX12_fits_b {d : Nat} {Φ : Option Int32 → Mem → Prop} {C st : Nat → Nat} {m L n t j s : Nat} {p : Nat → Nat} {M0 : Mem} {x : Int32} (hW : IW M0 C st m L n) (hjn : j < n) (hs : s < 24) (hp : ∀ k, p k ≤ 24) : ∀ l k N, k + l = j → RI M0 N p t → (mtP (fun k f => meetB M0 C st m j (s % 6) k f (s / 6)) p s l k = true → ∀ N, RI M0 N p t → Φ (some 1) N) → (mtP (fun k f => meetB M0 C st m j (s % 6) k f (s / 6)) p s l k = false → ∀ N, RI M0 N p t → Φ (some 0) N) → JM noRo (d + 4) mX12_fits 85 [some (.ref 62), some (.int (nI j)), some (.int (nI s)), some (.int (nI (s / 6))), some (.int (nI (s % 6))), some (.int x), some (.int 1), some (.int (nI k))] [] N Φ := by
  have hn12 := hW.2.2.2.1.1
  intro l
  induction l with
  | zero =>
    intro k N hk hc h1 h0
    refine J_iload dX12_fits_85 rfl ?_
    refine J_iload_n dX12_fits_87 rfl ?_
    refine J_icmp_ge (tgt := 156) dX12_fits_88 (by decide) (fun c1 => ?_) (fun c1 => ?_)
    · -- to 156
      refine J_iload dX12_fits_156 rfl ?_
      refine M_zret dX12_fits_158 rfl (by first | assumption | exact Or.inl rfl | exact Or.inr rfl) ?_
      exact h1 rfl _ hc
    · -- on 91
      exact absurd (nI_le (by omega) (by omega)) c1
  | succ l ih =>
    intro k N hk hc h1 h0
    have hp24 := hp k
    rcases Nat.eq_zero_or_pos (p k) with h00 | h00
    ·
      refine J_iload dX12_fits_85 rfl ?_
      refine J_iload_n dX12_fits_87 rfl ?_
      refine J_icmp_ge (tgt := 156) dX12_fits_88 (by decide) (fun c1 => ?_) (fun c1 => ?_)
      · -- to 156
        exact absurd c1 (nI_ge (by omega) (by omega))
      · -- on 91
        refine J_iload dX12_fits_91 rfl ?_
        refine J_if_eq (tgt := 156) dX12_fits_93 (by decide) (fun c2 => ?_) (fun c2 => ?_)
        · -- to 156
          exact absurd c2 (by decide)
        · -- on 96
          refine J_aload_n dX12_fits_96 rfl ?_
          refine M_getR dX12_fits_97 fX12_81 rfl rfl (by decide) ?_
          refine J_iload dX12_fits_100 rfl ?_
          refine M_ialdE dX12_fits_102 rfl (by decide) (by first | rfl | assumption) (by omega) ?_
          rw [hc.2.2.2 k (by omega), h00, show tp 0 = -1 from rfl]
          refine J_if_lt (tgt := 143) dX12_fits_103 (by decide) (fun c3 => ?_) (fun c3 => ?_)
          · -- to 143
            refine J_iconst (v := 1) dX12_fits_143 (by decide) ?_
            refine J_goto (tgt := 148) dX12_fits_144 (by decide) ?_
            refine J_istore dX12_fits_148 (by decide) rfl ?_
            dsimp only [setL]
            refine J_iinc (v := nI (k + 1)) dX12_fits_150 rfl (nI_1 k) (by decide) rfl ?_
            dsimp only [setL]
            refine J_goto (tgt := 85) dX12_fits_153 (by decide) ?_
            rw [mtP_0 h00] at h1 h0
            exact ih (k + 1) N (by omega) hc h1 h0
          · -- on 106
            exact absurd c3 (by decide)
    · obtain ⟨q, hq⟩ : ∃ q, p k = q + 1 := ⟨p k - 1, by omega⟩
      by_cases hh : q / 6 = s / 6
      ·
        refine J_iload dX12_fits_85 rfl ?_
        refine J_iload_n dX12_fits_87 rfl ?_
        refine J_icmp_ge (tgt := 156) dX12_fits_88 (by decide) (fun c1 => ?_) (fun c1 => ?_)
        · -- to 156
          exact absurd c1 (nI_ge (by omega) (by omega))
        · -- on 91
          refine J_iload dX12_fits_91 rfl ?_
          refine J_if_eq (tgt := 156) dX12_fits_93 (by decide) (fun c2 => ?_) (fun c2 => ?_)
          · -- to 156
            exact absurd c2 (by decide)
          · -- on 96
            refine J_aload_n dX12_fits_96 rfl ?_
            refine M_getR dX12_fits_97 fX12_81 rfl rfl (by decide) ?_
            refine J_iload dX12_fits_100 rfl ?_
            refine M_ialdE dX12_fits_102 rfl (by decide) (by first | rfl | assumption) (by omega) ?_
            rw [hc.2.2.2 k (by omega), hq, show tp (q + 1) = nI q from rfl]
            refine J_if_lt (tgt := 143) dX12_fits_103 (by decide) (fun c3 => ?_) (fun c3 => ?_)
            · -- to 143
              exact absurd c3 (nI_nlt (b := 0) (Nat.zero_le _) (by omega))
            · -- on 106
              refine J_aload_n dX12_fits_106 rfl ?_
              refine M_getR dX12_fits_107 fX12_81 rfl rfl (by decide) ?_
              refine J_iload dX12_fits_110 rfl ?_
              refine M_ialdE dX12_fits_112 rfl (by decide) (by first | rfl | assumption) (by omega) ?_
              rw [hc.2.2.2 k (by omega), hq, show tp (q + 1) = nI q from rfl]
              refine J_bipush (v := 6) dX12_fits_113 (by decide) ?_
              refine J_idiv dX12_fits_115 (by decide) ?_
              rw [div6 (by omega)]
              refine J_iload_n dX12_fits_116 rfl ?_
              refine J_icmp_ne (tgt := 143) dX12_fits_117 (by decide) (fun c4 => ?_) (fun c4 => ?_)
              · -- to 143
                exact absurd (by rw [hh]) c4
              · -- on 120
                refine J_aload_n dX12_fits_120 rfl ?_
                refine J_iload_n dX12_fits_121 rfl ?_
                refine J_iload dX12_fits_122 rfl ?_
                refine J_iload dX12_fits_124 rfl ?_
                refine J_aload_n dX12_fits_126 rfl ?_
                refine M_getR dX12_fits_127 fX12_81 rfl rfl (by decide) ?_
                refine J_iload dX12_fits_130 rfl ?_
                refine M_ialdE dX12_fits_132 rfl (by decide) (by first | rfl | assumption) (by omega) ?_
                rw [hc.2.2.2 k (by omega), hq, show tp (q + 1) = nI q from rfl]
                refine J_bipush (v := 6) dX12_fits_133 (by decide) ?_
                refine J_irem dX12_fits_135 (by decide) ?_
                refine J_iload_n dX12_fits_136 rfl ?_
                refine M_callV5 (mc := mX12_meet) dX12_fits_137 kX12_320 oX12_meet (Nat.le_of_ble_eq_true rfl) (Nat.le_of_ble_eq_true rfl) rfl (by decide) rfl ?_
                rw [rem6 (by omega)]
                refine tM_meetJ (k := q % 6) (o := k) (hW.vw hc.vw) hjn (by omega) (by omega) (by omega) (by omega) (by omega) (fun hb g2 t2 => ?_) (fun hb g2 t2 => ?_)
                · -- true
                  rw [meetB_vw hc.vw] at hb
                  refine J_if_eq (tgt := 147) dX12_fits_140 (by decide) (fun c6 => ?_) (fun c6 => ?_)
                  · -- to 147
                    exact absurd c6 (by decide)
                  · -- on 143
                    refine J_iconst (v := 1) dX12_fits_143 (by decide) ?_
                    refine J_goto (tgt := 148) dX12_fits_144 (by decide) ?_
                    refine J_istore dX12_fits_148 (by decide) rfl ?_
                    dsimp only [setL]
                    refine J_iinc (v := nI (k + 1)) dX12_fits_150 rfl (nI_1 k) (by decide) rfl ?_
                    dsimp only [setL]
                    refine J_goto (tgt := 85) dX12_fits_153 (by decide) ?_
                    first
                    | (rw [mtP_2 (by rw [hq]; exact hb)] at h1 h0; exact ih (k + 1) _ (by omega) hc.ws h1 h0)
                    | (rw [mtP_3 (p := p) (s := s) (k := k) (by omega) (by rw [hq]; exact hh) (by rw [hq]; exact hb)] at h0; exact tX12_fits_z (h0 rfl _ hc.ws))
                · -- false
                  rw [meetB_vw hc.vw] at hb
                  refine J_if_eq (tgt := 147) dX12_fits_140 (by decide) (fun c7 => ?_) (fun c7 => ?_)
                  · -- to 147
                    refine J_iconst (v := 0) dX12_fits_147 (by decide) ?_
                    refine J_istore dX12_fits_148 (by decide) rfl ?_
                    dsimp only [setL]
                    refine J_iinc (v := nI (k + 1)) dX12_fits_150 rfl (nI_1 k) (by decide) rfl ?_
                    dsimp only [setL]
                    refine J_goto (tgt := 85) dX12_fits_153 (by decide) ?_
                    first
                    | (rw [mtP_2 (by rw [hq]; exact hb)] at h1 h0; exact ih (k + 1) _ (by omega) hc.ws h1 h0)
                    | (rw [mtP_3 (p := p) (s := s) (k := k) (by omega) (by rw [hq]; exact hh) (by rw [hq]; exact hb)] at h0; exact tX12_fits_z (h0 rfl _ hc.ws))
                  · -- on 143
                    exact absurd c7 (by decide)
      ·
        refine J_iload dX12_fits_85 rfl ?_
        refine J_iload_n dX12_fits_87 rfl ?_
        refine J_icmp_ge (tgt := 156) dX12_fits_88 (by decide) (fun c1 => ?_) (fun c1 => ?_)
        · -- to 156
          exact absurd c1 (nI_ge (by omega) (by omega))
        · -- on 91
          refine J_iload dX12_fits_91 rfl ?_
          refine J_if_eq (tgt := 156) dX12_fits_93 (by decide) (fun c2 => ?_) (fun c2 => ?_)
          · -- to 156
            exact absurd c2 (by decide)
          · -- on 96
            refine J_aload_n dX12_fits_96 rfl ?_
            refine M_getR dX12_fits_97 fX12_81 rfl rfl (by decide) ?_
            refine J_iload dX12_fits_100 rfl ?_
            refine M_ialdE dX12_fits_102 rfl (by decide) (by first | rfl | assumption) (by omega) ?_
            rw [hc.2.2.2 k (by omega), hq, show tp (q + 1) = nI q from rfl]
            refine J_if_lt (tgt := 143) dX12_fits_103 (by decide) (fun c3 => ?_) (fun c3 => ?_)
            · -- to 143
              exact absurd c3 (nI_nlt (b := 0) (Nat.zero_le _) (by omega))
            · -- on 106
              refine J_aload_n dX12_fits_106 rfl ?_
              refine M_getR dX12_fits_107 fX12_81 rfl rfl (by decide) ?_
              refine J_iload dX12_fits_110 rfl ?_
              refine M_ialdE dX12_fits_112 rfl (by decide) (by first | rfl | assumption) (by omega) ?_
              rw [hc.2.2.2 k (by omega), hq, show tp (q + 1) = nI q from rfl]
              refine J_bipush (v := 6) dX12_fits_113 (by decide) ?_
              refine J_idiv dX12_fits_115 (by decide) ?_
              rw [div6 (by omega)]
              refine J_iload_n dX12_fits_116 rfl ?_
              refine J_icmp_ne (tgt := 143) dX12_fits_117 (by decide) (fun c4 => ?_) (fun c4 => ?_)
              · -- to 143
                refine J_iconst (v := 1) dX12_fits_143 (by decide) ?_
                refine J_goto (tgt := 148) dX12_fits_144 (by decide) ?_
                refine J_istore dX12_fits_148 (by decide) rfl ?_
                dsimp only [setL]
                refine J_iinc (v := nI (k + 1)) dX12_fits_150 rfl (nI_1 k) (by decide) rfl ?_
                dsimp only [setL]
                refine J_goto (tgt := 85) dX12_fits_153 (by decide) ?_
                rw [mtP_1 (by rw [hq]; exact hh)] at h1 h0
                exact ih (k + 1) N (by omega) hc h1 h0
              · -- on 120
                exact absurd ((nI_eq (by omega) (by omega)).mp c4) hh
set_option maxRecDepth 100000 in
set_option maxHeartbeats 1000000 in
theorem tX12_fits {d : Nat} {M : Mem} {Φ : Option Int32 → Mem → Prop} {C st : Nat → Nat} {m L n t j s : Nat} {p : Nat → Nat} {M0 : Mem} (hW : IW M0 C st m L n) (hc : RI M0 M p t) (hjn : j < n) (hs : s < 24) (hp : ∀ k, p k ≤ 24) (h1 : ftB M0 C st m p j s = true → ∀ N, RI M0 N p t → Φ (some 1) N) (h0 : ftB M0 C st m p j s = false → ∀ N, RI M0 N p t → Φ (some 0) N) : JM noRo (d + 4) mX12_fits 0 [some (.ref 62), some (.int (nI j)), some (.int (nI s))] [] M Φ := by
  have hn12 := hW.2.2.2.1.1
  refine J_iload_n dX12_fits_0 rfl ?_
  refine J_bipush (v := 6) dX12_fits_1 (by decide) ?_
  refine J_idiv dX12_fits_3 (by decide) ?_
  rw [div6 (by omega)]
  refine J_istore_n dX12_fits_4 (by decide) rfl ?_
  dsimp only [setL]
  refine J_iload_n dX12_fits_5 rfl ?_
  refine J_bipush (v := 6) dX12_fits_6 (by decide) ?_
  refine J_irem dX12_fits_8 (by decide) ?_
  rw [rem6 (by omega)]
  refine J_istore dX12_fits_9 (by decide) rfl ?_
  dsimp only [setL]
  refine J_aload_n dX12_fits_11 rfl ?_
  refine J_iload_n dX12_fits_12 rfl ?_
  refine J_iload dX12_fits_13 rfl ?_
  refine J_iload_n dX12_fits_15 rfl ?_
  refine M_callV3 (mc := mX12_may) dX12_fits_16 kX12_316 oX12_may (Nat.le_of_ble_eq_true rfl) (Nat.le_of_ble_eq_true rfl) rfl (by decide) rfl ?_
  refine tM_mayJ (hW.vw hc.vw) hjn (by omega) (by omega) (fun hb g2 t2 => ?_) (fun hb g2 t2 => ?_)
  · -- true
    rw [mayB_vw hc.vw] at hb
    refine J_if_ne (tgt := 24) dX12_fits_19 (by decide) (fun c2 => ?_) (fun c2 => ?_)
    · -- to 24
      refine J_iconst (v := 0) dX12_fits_24 (by decide) ?_
      refine J_istore dX12_fits_25 (by decide) rfl ?_
      dsimp only [setL]
      refine J_iconst (v := 0) dX12_fits_27 (by decide) ?_
      refine J_istore dX12_fits_28 (by decide) rfl ?_
      dsimp only [setL]
      refine tX12_fits_a (p := p) (t := t) (M0 := M0) (j := j) (s := s) hc.ws (by omega) hs hp ?_ j 0 (by omega)
      refine J_iload dX12_fits_63 rfl ?_
      refine J_aload_n dX12_fits_65 rfl ?_
      refine M_getR dX12_fits_66 fX12_28 rfl rfl (by decide) ?_
      refine J_iload dX12_fits_69 rfl ?_
      refine M_ialdE dX12_fits_71 rfl (by decide) (by first | rfl | assumption) (by omega) ?_
      rw [hc.ws.1 69 (by decide)]
      refine J_icmp_ge (tgt := 79) dX12_fits_72 (by decide) (fun c3 => ?_) (fun c3 => ?_)
      · -- to 79
        have cD : decide (nI (cntP p s j) < M0.1 69 (s % 6)) = false := decide_eq_false (Int32.not_lt.mpr c3)
        refine J_iconst (v := 0) dX12_fits_79 (by decide) ?_
        refine J_istore dX12_fits_80 (by decide) rfl ?_
        dsimp only [setL]
        refine J_iconst (v := 0) dX12_fits_82 (by decide) ?_
        refine J_istore dX12_fits_83 (by decide) rfl ?_
        dsimp only [setL]
        exact tX12_fits_z (h0 (by unfold ftB; rw [hb, cD]; rfl) _ hc.ws)
      · -- on 75
        have cD : decide (nI (cntP p s j) < M0.1 69 (s % 6)) = true := decide_eq_true (Int32.not_le.mp c3)
        refine J_iconst (v := 1) dX12_fits_75 (by decide) ?_
        refine J_goto (tgt := 80) dX12_fits_76 (by decide) ?_
        refine J_istore dX12_fits_80 (by decide) rfl ?_
        dsimp only [setL]
        refine J_iconst (v := 0) dX12_fits_82 (by decide) ?_
        refine J_istore dX12_fits_83 (by decide) rfl ?_
        dsimp only [setL]
        have er : ftB M0 C st m p j s = mtP (fun k f => meetB M0 C st m j (s % 6) k f (s / 6)) p s j 0 := by
          unfold ftB; rw [hb, cD]; rfl
        rw [er] at h1 h0
        exact tX12_fits_b hW hjn hs hp j 0 _ (by omega) hc.ws h1 h0
    · -- on 22
      exact absurd c2 (by decide)
  · -- false
    rw [mayB_vw hc.vw] at hb
    refine J_if_ne (tgt := 24) dX12_fits_19 (by decide) (fun c4 => ?_) (fun c4 => ?_)
    · -- to 24
      exact absurd c4 (by decide)
    · -- on 22
      refine J_iconst (v := 0) dX12_fits_22 (by decide) ?_
      refine M_zret dX12_fits_23 rfl (by first | assumption | exact Or.inl rfl | exact Or.inr rfl) ?_
      exact h0 (by unfold ftB; rw [hb]; rfl) _ hc.ws

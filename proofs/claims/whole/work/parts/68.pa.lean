abbrev RlR := Option (Nat × Nat) × PSt × List Nat × List Nat
def FU : Nat := 20000
/-- the rules of a text: at most m more; ends and kinds of those that are read -/
def rlP (T : Nat → Nat) (n : Nat) : Nat → PSt → List Nat → List Nat → RlR
  | 0, x, es, ps => if x.1.1 = 0 then (none, x, es, ps) else ((rfu x 2).1, x, es, ps)
  | m + 1, x, es, ps => if x.1.1 = 0 then (none, x, es, ps) else if x.1.1 = 14 ∨ x.1.1 = 15 then (if (prs T n (if x.1.1 = 15 then 14 else 8) FU 0 0 (advP T n x)).1 = none then (if (prs T n (if x.1.1 = 15 then 14 else 8) FU 0 0 (advP T n x)).2.1.1 = 59 then rlP T n m (advP T n (prs T n (if x.1.1 = 15 then 14 else 8) FU 0 0 (advP T n x)).2) (es ++ [(prs T n (if x.1.1 = 15 then 14 else 8) FU 0 0 (advP T n x)).2.2.1.length]) (ps ++ [x.1.1 - 14]) else ((rfu (prs T n (if x.1.1 = 15 then 14 else 8) FU 0 0 (advP T n x)).2 2).1, x, es, ps)) else ((prs T n (if x.1.1 = 15 then 14 else 8) FU 0 0 (advP T n x)).1, x, es, ps)) else ((rfu x 2).1, x, es, ps)
def PL6 : List Nat := [15, 16, 17, 18, 25, 26]
theorem PL6_ne {a : Nat} (h : a ∉ PL6) : a ≠ 15 ∧ a ≠ 16 ∧ a ≠ 17 ∧ a ≠ 18 ∧ a ≠ 25 ∧ a ≠ 26 ∧ a ∉ PL4 := by
  simp only [PL6, List.mem_cons, not_or, List.not_mem_nil, not_false_eq_true, and_true] at h
  refine ⟨by omega, by omega, by omega, by omega, by omega, by omega, ?_⟩
  simp only [PL4, List.mem_cons, not_or, List.not_mem_nil, not_false_eq_true, and_true]
  omega
/-- the class between two rules -/
def PN (M N : Mem) (n : Nat) (x : PSt) (es ps : List Nat) : Prop := (∀ a, a ∉ PL6 → N.1 a = M.1 a) ∧ TkC (N.1 26) x.1 ∧ TW n x.1 ∧ N.1 15 4 = nI x.2.1.length ∧ (∀ (i : Nat) (c : Nat), x.2.1[i]? = some c → N.1 16 i = nI c) ∧ N.1 25 2 = nI x.2.2 ∧ x.2.2 ≤ 120 ∧ N.1 25 4 = 0 ∧ N.1 25 5 = -1 ∧ 3 * x.2.1.length ≤ 6 * x.2.2 + x.1.2.2.1 ∧ (N.1 15 5 = nI es.length ∧ es.length = ps.length) ∧ (∀ (i : Nat) (c : Nat), es[i]? = some c → N.1 17 (i + 1) = nI c) ∧ (∀ (i : Nat) (c : Nat), ps[i]? = some c → N.1 18 i = nI c) ∧ N.1 17 0 = M.1 17 0 ∧ ∀ i, N.1 18 i = 0 ∨ N.1 18 i = 1
def PF6 (M N : Mem) (f : Nat × Nat) : Prop := (∀ a, a ∉ PL6 → N.1 a = M.1 a) ∧ N.1 25 4 = nI f.1 ∧ N.1 25 5 = nI f.2 ∧ N.1 17 0 = M.1 17 0 ∧ ∀ i, N.1 18 i = 0 ∨ N.1 18 i = 1
theorem PN.pc {M N : Mem} {n : Nat} {x : PSt} {es ps : List Nat} {pi : Int32} (h : PN M N n x es ps) : PC (wr N 25 3 pi) (wr N 25 3 pi) n x := by
  obtain ⟨p1, p2, p3, p4, p5, p6, p7, p8, p9, p10, p11, p12, p13, p14, p15⟩ := h
  refine ⟨fun _ _ => rfl, ?_, p3, ⟨?_, rfl⟩, ?_, ?_, p7, rfl, rfl, rfl, p10⟩
  · rw [rd2 (by decide)]; exact p2
  · rw [rd2 (by decide)]; exact p4
  · rw [rd2 (by decide)]; exact p5
  · rw [rd3 (by decide)]; exact p6
theorem PN.pf {M N N2 : Mem} {n : Nat} {x : PSt} {es ps : List Nat} {pi : Int32} {v : Nat × Nat} (h : PN M N n x es ps) (hv : PF (wr N 25 3 pi) N2 v) : PF6 M N2 v := by
  refine ⟨fun a ha => ?_, hv.2.1, hv.2.2, ?_, ?_⟩
  · rw [hv.1 a (PL6_ne ha).2.2.2.2.2.2, rd2 (PL6_ne ha).2.2.2.2.1]; exact h.1 a ha
  · rw [hv.1 17 (by decide), rd2 (by decide)]; exact h.2.2.2.2.2.2.2.2.2.2.2.2.2.1
  · rw [hv.1 18 (by decide), rd2 (by decide)]; exact h.2.2.2.2.2.2.2.2.2.2.2.2.2.2
theorem PN.st {M N N2 : Mem} {n : Nat} {x y : PSt} {es ps : List Nat} {K : Nat} (h : PN M N n x es ps) (hK : K < 2) (hc : PC (wr N 25 3 (nI K)) N2 n y) : PN M (wr (wr (wr N2 18 es.length (nI K)) 15 5 (nI (es.length + 1))) 17 (es.length + 1) (N2.1 15 4)) n y (es ++ [y.2.1.length]) (ps ++ [K]) := by
  obtain ⟨p1, p2, p3, p4, p5, p6, p7, p8, p9, p10, p11, p12, p13, p14, p15⟩ := h
  obtain ⟨c1, c2, c3, c4, c5, c6, c7, c8, c9, c10, c11⟩ := hc
  have f18 : N2.1 18 = N.1 18 := by rw [c1 18 (by decide), rd2 (by decide)]
  have f17 : N2.1 17 = N.1 17 := by rw [c1 17 (by decide), rd2 (by decide)]
  refine ⟨fun a ha => ?_, ?_, c3, ?_, ?_, ?_, c7, ?_, ?_, c11, ⟨?_, ?_⟩, fun i c hi => ?_, fun i c hi => ?_, ?_, ?_⟩
  · obtain ⟨q1, q2, q3, q4, q5, q6, q7⟩ := PL6_ne ha
    rw [rd2 q3, rd2 q1, rd2 q4, c1 a q7, rd2 q5]; exact p1 a ha
  · rw [rd2 (by decide), rd2 (by decide), rd2 (by decide)]; exact c2
  · rw [rd2 (by decide), rd3 (by decide), rd2 (by decide)]; exact c4.1
  · rw [rd2 (by decide), rd2 (by decide), rd2 (by decide)]; exact c5
  · rw [rd2 (by decide), rd2 (by decide), rd2 (by decide)]; exact c6
  · rw [rd2 (by decide), rd2 (by decide), rd2 (by decide), c9, rd3 (by decide)]; exact p8
  · rw [rd2 (by decide), rd2 (by decide), rd2 (by decide), c10, rd3 (by decide)]; exact p9
  · rw [rd2 (by decide), rd1]; simp
  · simp [p11.2]
  · by_cases e : i = es.length
    · subst e
      simp at hi
      rw [rd1, c4.1, hi]
    · have hl : i < (es ++ [y.2.1.length]).length := (List.getElem?_eq_some_iff.mp hi).1
      rw [List.length_append, List.length_singleton] at hl
      rw [rd3 (by omega), rd2 (by decide), rd2 (by decide), f17]
      refine p12 i c ?_
      rw [← List.getElem?_append_left (l₂ := [y.2.1.length]) (by omega)]
      exact hi
  · rw [rd2 (by decide), rd2 (by decide)]
    by_cases e : i = es.length
    · subst e
      rw [p11.2] at hi
      simp at hi
      rw [rd1, hi]
    · have hl : i < (ps ++ [K]).length := (List.getElem?_eq_some_iff.mp hi).1
      rw [List.length_append, List.length_singleton] at hl
      rw [rd3 e, f18]
      refine p13 i c ?_
      rw [← List.getElem?_append_left (l₂ := [K]) (by have := p11.2; omega)]
      exact hi
  · rw [rd3 (by omega), rd2 (by decide), rd2 (by decide), f17]; exact p14
  · rw [rd2 (by decide), rd2 (by decide), rdu, f18]
    exact updP (P := fun q => q = 0 ∨ q = 1) p15 (by match K, hK with | 0, _ => exact Or.inl rfl | 1, _ => exact Or.inr rfl | k + 2, q => exact absurd q (by omega))
theorem tX5_kn {M0 N : Mem} {n D : Nat} {x : PSt} {es ps : List Nat} {Φ : Option Int32 → Mem → Prop} (hc : PN M0 N n x es ps) (h : Φ (some (nI x.1.1)) N) : JM noRo D mX9_kind 0 [some (.ref 26)] [] N Φ := tX9_kind (by rw [hc.2.1.2.1]; exact h)
theorem tX5_rn {M0 N : Mem} {n D : Nat} {x : PSt} {es ps : List Nat} {Φ : Option Int32 → Mem → Prop} (hD : 1 ≤ D) (hc : PN M0 N n x es ps) (h : ∀ v, (rfu x 2).1 = some v → ∀ N, PF6 M0 N v → Φ (some 0) N) : JM noRo D mX5_refuse 0 [some (.ref 25), some (.int 2)] [] N Φ := by
  have hp := hc.pc (pi := N.1 25 3)
  rw [wr_self] at hp
  exact M_more (d := 1) hD (tX5_refuse (d := 0) (f := 2) hp (fun N2 hN => h _ rfl N2 (by
    have z := hc.pf (pi := N.1 25 3) (N2 := N2) (by rw [wr_self]; exact hN)
    exact z)))
set_option maxRecDepth 100000 in
set_option maxHeartbeats 1000000 in
theorem tX5_rr_l {d : Nat} {Φ : Option Int32 → Mem → Prop} {M0 : Mem} {T : Nat → Nat} {n : Nat} (hLet : LetOK) (hn : M0.1 13 1 = nI n) (hnb : n ≤ 1000) (hT : ∀ i, M0.1 14 i = nI (T i) ∧ T i < 256) : ∀ m x es ps N, es.length + m = 12 → PN M0 N n x es ps → ((rlP T n m x es ps).1 = none → ∀ N, PN M0 N n (rlP T n m x es ps).2.1 (rlP T n m x es ps).2.2.1 (rlP T n m x es ps).2.2.2 → Φ (some 1) N) → (∀ v, (rlP T n m x es ps).1 = some v → ∀ N, PF6 M0 N v → Φ (some 0) N) → JM noRo (d + 100) mX5_readRules 31 [some (.ref 25), some (.int (nI es.length))] [] N Φ := by
  intro m
  induction m with
  | zero =>
    intro x es ps N hm hc h1 h0
    rw [rlP] at h1 h0
    by_cases hK : x.1.1 = 0
    · rw [if_pos hK] at h1 h0
      refine J_iload_n dX5_readRules_31 rfl ?_
      refine J_bipush (v := 12) dX5_readRules_32 (by decide) ?_
      refine J_icmp_ge (tgt := 147) dX5_readRules_34 (by decide) (fun c1 => ?_) (fun c1 => ?_)
      · -- to 147
        refine J_aload_n dX5_readRules_147 rfl ?_
        refine M_getR dX5_readRules_148 fX5_9 rfl rfl (by decide) ?_
        refine M_callV0 (mc := mX9_kind) dX5_readRules_151 kX5_39 oX9_kind (Nat.le_of_ble_eq_true rfl) (Nat.le_of_ble_eq_true rfl) rfl (by decide) rfl ?_
        refine tX5_kn hc ?_
        rw [hK]
        refine J_if_eq (tgt := 165) dX5_readRules_154 (by decide) (fun c3 => ?_) (fun c3 => ?_)
        · -- to 165
          refine J_iconst (v := 1) dX5_readRules_165 (by decide) ?_
          refine J_goto (tgt := 170) dX5_readRules_166 (by decide) ?_
          refine M_zret dX5_readRules_170 rfl (by first | assumption | exact Or.inl rfl | exact Or.inr rfl) ?_
          first
          | exact h1 rfl N hc
          | exact h0 v e N2 hv
        · -- on 157
          exact absurd c3 (by decide)
      · -- on 37
        exact absurd (nI_le (a := 12) (by omega) (by omega)) c1
    · rw [if_neg hK] at h1 h0
      refine J_iload_n dX5_readRules_31 rfl ?_
      refine J_bipush (v := 12) dX5_readRules_32 (by decide) ?_
      refine J_icmp_ge (tgt := 147) dX5_readRules_34 (by decide) (fun c1 => ?_) (fun c1 => ?_)
      · -- to 147
        refine J_aload_n dX5_readRules_147 rfl ?_
        refine M_getR dX5_readRules_148 fX5_9 rfl rfl (by decide) ?_
        refine M_callV0 (mc := mX9_kind) dX5_readRules_151 kX5_39 oX9_kind (Nat.le_of_ble_eq_true rfl) (Nat.le_of_ble_eq_true rfl) rfl (by decide) rfl ?_
        refine tX5_kn hc ?_
        refine J_if_eq (tgt := 165) dX5_readRules_154 (by decide) (fun c3 => ?_) (fun c3 => ?_)
        · -- to 165
          exact absurd ((nI_eq (a := x.1.1) (b := 0) (by have := hc.2.2.1.2.2.2.2.2.2.1; omega) (by decide)).mp c3) hK
        · -- on 157
          refine J_aload_n dX5_readRules_157 rfl ?_
          refine J_iconst (v := 2) dX5_readRules_158 (by decide) ?_
          refine M_callV1 (mc := mX5_refuse) dX5_readRules_159 kX5_43 oX5_refuse (Nat.le_of_ble_eq_true rfl) (Nat.le_of_ble_eq_true rfl) rfl (by decide) rfl ?_
          refine tX5_rn (by omega) hc (fun v e N2 hv => ?_)
          refine J_if_eq (tgt := 169) dX5_readRules_162 (by decide) (fun c5 => ?_) (fun c5 => ?_)
          · -- to 169
            refine J_iconst (v := 0) dX5_readRules_169 (by decide) ?_
            refine M_zret dX5_readRules_170 rfl (by first | assumption | exact Or.inl rfl | exact Or.inr rfl) ?_
            first
            | exact h1 rfl N hc
            | exact h0 v e N2 hv
          · -- on 165
            exact absurd c5 (by decide)
      · -- on 37
        exact absurd (nI_le (a := 12) (by omega) (by omega)) c1
  | succ m ih =>
    intro x es ps N hm hc h1 h0
    rw [rlP] at h1 h0
    by_cases hK0 : x.1.1 = 0
    · have hK := hK0
      rw [if_pos hK] at h1 h0
      refine J_iload_n dX5_readRules_31 rfl ?_
      refine J_bipush (v := 12) dX5_readRules_32 (by decide) ?_
      refine J_icmp_ge (tgt := 147) dX5_readRules_34 (by decide) (fun c1 => ?_) (fun c1 => ?_)
      · -- to 147
        exact absurd c1 (nI_ge (b := 12) (by omega) (by decide))
      · -- on 37
        refine J_aload_n dX5_readRules_37 rfl ?_
        refine M_getR dX5_readRules_38 fX5_9 rfl rfl (by decide) ?_
        refine M_callV0 (mc := mX9_kind) dX5_readRules_41 kX5_39 oX9_kind (Nat.le_of_ble_eq_true rfl) (Nat.le_of_ble_eq_true rfl) rfl (by decide) rfl ?_
        refine tX5_kn hc ?_
        rw [hK]
        refine J_if_eq (tgt := 147) dX5_readRules_44 (by decide) (fun c3 => ?_) (fun c3 => ?_)
        · -- to 147
          refine J_aload_n dX5_readRules_147 rfl ?_
          refine M_getR dX5_readRules_148 fX5_9 rfl rfl (by decide) ?_
          refine M_callV0 (mc := mX9_kind) dX5_readRules_151 kX5_39 oX9_kind (Nat.le_of_ble_eq_true rfl) (Nat.le_of_ble_eq_true rfl) rfl (by decide) rfl ?_
          refine tX5_kn hc ?_
          rw [hK]
          refine J_if_eq (tgt := 165) dX5_readRules_154 (by decide) (fun c5 => ?_) (fun c5 => ?_)
          · -- to 165
            refine J_iconst (v := 1) dX5_readRules_165 (by decide) ?_
            refine J_goto (tgt := 170) dX5_readRules_166 (by decide) ?_
            refine M_zret dX5_readRules_170 rfl (by first | assumption | exact Or.inl rfl | exact Or.inr rfl) ?_
            first
            | exact h1 rfl N hc
            | exact h0 v e N2 hv
          · -- on 157
            exact absurd c5 (by decide)
        · -- on 47
          exact absurd c3 (by decide)
    · rw [if_neg hK0] at h1 h0
      by_cases hK1 : x.1.1 = 14 ∨ x.1.1 = 15
      · rw [if_pos hK1] at h1 h0
        rcases hK1 with hK | hK
        · simp only [hK, show (14 : Nat) = 15 ↔ False from ⟨fun q => absurd q (by decide), False.elim⟩, if_false] at h1 h0
          refine J_iload_n dX5_readRules_31 rfl ?_
          refine J_bipush (v := 12) dX5_readRules_32 (by decide) ?_
          refine J_icmp_ge (tgt := 147) dX5_readRules_34 (by decide) (fun c1 => ?_) (fun c1 => ?_)
          · -- to 147
            exact absurd c1 (nI_ge (b := 12) (by omega) (by decide))
          · -- on 37
            refine J_aload_n dX5_readRules_37 rfl ?_
            refine M_getR dX5_readRules_38 fX5_9 rfl rfl (by decide) ?_
            refine M_callV0 (mc := mX9_kind) dX5_readRules_41 kX5_39 oX9_kind (Nat.le_of_ble_eq_true rfl) (Nat.le_of_ble_eq_true rfl) rfl (by decide) rfl ?_
            refine tX5_kn hc ?_
            rw [hK]
            refine J_if_eq (tgt := 147) dX5_readRules_44 (by decide) (fun c3 => ?_) (fun c3 => ?_)
            · -- to 147
              exact absurd c3 (by decide)
            · -- on 47
              refine J_aload_n dX5_readRules_47 rfl ?_
              refine M_getR dX5_readRules_48 fX5_9 rfl rfl (by decide) ?_
              refine M_callV0 (mc := mX9_kind) dX5_readRules_51 kX5_39 oX9_kind (Nat.le_of_ble_eq_true rfl) (Nat.le_of_ble_eq_true rfl) rfl (by decide) rfl ?_
              refine tX5_kn hc ?_
              rw [hK]
              refine J_istore_n dX5_readRules_54 (by decide) rfl ?_
              dsimp only [setL]
              refine J_iload_n dX5_readRules_55 rfl ?_
              refine J_bipush (v := 14) dX5_readRules_56 (by decide) ?_
              refine J_icmp_eq (tgt := 73) dX5_readRules_58 (by decide) (fun c5 => ?_) (fun c5 => ?_)
              · -- to 73
                refine J_aload_n dX5_readRules_73 rfl ?_
                refine J_iload_n dX5_readRules_74 rfl ?_
                refine J_bipush (v := 15) dX5_readRules_75 (by decide) ?_
                refine J_icmp_ne (tgt := 84) dX5_readRules_77 (by decide) (fun c6 => ?_) (fun c6 => ?_)
                · -- to 84
                  refine J_iconst (v := 0) dX5_readRules_84 (by decide) ?_
                  refine M_putZ dX5_readRules_85 pX5_47 rfl rfl (by decide) (by first | exact Or.inl rfl | exact Or.inr rfl) ?_
                  refine J_aload_n dX5_readRules_88 rfl ?_
                  refine M_getR dX5_readRules_89 fX5_9 rfl rfl (by decide) ?_
                  refine M_callV0 (mc := mX9_advance) dX5_readRules_92 kX5_51 oX9_advance (Nat.le_of_ble_eq_true rfl) (Nat.le_of_ble_eq_true rfl) rfl (by decide) rfl ?_
                  have E : ENV (wr N 25 3 (nI 0)) T n 8 := ⟨hLet, by rw [rd2 (by decide), hc.1 13 (by decide)]; exact hn, hnb, by rw [rd2 (by decide), hc.1 14 (by decide)]; exact hT, Or.inl ⟨by rw [rd1]; rfl, rfl⟩⟩
                  have hp := hc.pc (pi := nI 0)
                  refine tX5_adv E (by omega) hp (by omega) (by omega) (fun NA hA => ?_)
                  have hs9 := hA.2.2.1.1
                  refine J_aload_n dX5_readRules_95 rfl ?_
                  refine J_iconst (v := 0) dX5_readRules_96 (by decide) ?_
                  refine M_callV1 (mc := mX5_readEither) dX5_readRules_97 kX5_54 oX5_readEither (Nat.le_of_ble_eq_true rfl) (Nat.le_of_ble_eq_true rfl) rfl (by decide) rfl ?_
                  refine (clsP E FU).1 0 (advP T n x) NA _ _ (by omega) hA (by unfold FU; omega) (by omega) ⟨fun e N2 hc2 => ?_, fun v e N2 hv => ?_⟩
                  · -- true
                    rw [if_pos e] at h1 h0
                    refine J_if_ne (tgt := 105) dX5_readRules_100 (by decide) (fun c9 => ?_) (fun c9 => ?_)
                    · -- to 105
                      refine J_aload_n dX5_readRules_105 rfl ?_
                      refine M_getR dX5_readRules_106 fX5_9 rfl rfl (by decide) ?_
                      refine M_callV0 (mc := mX9_kind) dX5_readRules_109 kX5_39 oX9_kind (Nat.le_of_ble_eq_true rfl) (Nat.le_of_ble_eq_true rfl) rfl (by decide) rfl ?_
                      refine tX5_kd hc2 ?_
                      refine J_bipush (v := 59) dX5_readRules_112 (by decide) ?_
                      refine J_icmp_eq (tgt := 123) dX5_readRules_114 (by decide) (fun c11 => ?_) (fun c11 => ?_)
                      · -- to 123
                        have heq : (prs T n 8 FU 0 0 (advP T n x)).2.1.1 = 59 := (nI_eq (by have := hc2.2.2.1.2.2.2.2.2.2.1; omega) (by decide)).mp c11
                        rw [if_pos heq] at h1 h0
                        refine J_aload_n dX5_readRules_123 rfl ?_
                        refine M_getR dX5_readRules_124 fX5_9 rfl rfl (by decide) ?_
                        refine M_callV0 (mc := mX9_advance) dX5_readRules_127 kX5_51 oX9_advance (Nat.le_of_ble_eq_true rfl) (Nat.le_of_ble_eq_true rfl) rfl (by decide) rfl ?_
                        refine tX5_adv E (by omega) hc2 (by omega) (by omega) (fun NB hB => ?_)
                        refine J_aload_n dX5_readRules_130 rfl ?_
                        refine M_getR dX5_readRules_131 fX5_15 rfl rfl (by decide) ?_
                        refine J_aload_n dX5_readRules_134 rfl ?_
                        refine M_getI dX5_readRules_135 fX5_47 rfl rfl (by decide) ?_
                        refine M_callV1 (mc := mX7_endRule) dX5_readRules_138 kX5_57 oX7_endRule (Nat.le_of_ble_eq_true rfl) (Nat.le_of_ble_eq_true rfl) rfl (by decide) rfl ?_
                        rw [show NB.1 25 3 = nI 0 by rw [hB.2.2.2.2.2.2.2.1, rd1]]
                        refine M_more (d := 0) (Nat.zero_le _) (tX7_endRule (n := es.length) (x := nI 0) (by rw [hB.2.2.2.1.2, rd2 (by decide)]; exact hc.2.2.2.2.2.2.2.2.2.2.1.1) (by omega) (by first | exact Or.inl rfl | exact Or.inr rfl) ?_)
                        refine J_iinc (v := nI (es.length + 1)) dX5_readRules_141 rfl (nI_1 es.length) (by decide) rfl ?_
                        dsimp only [setL]
                        refine J_dropN 2 ?_
                        refine J_goto (tgt := 31) dX5_readRules_144 (by decide) ?_
                        have hq := hc.st (K := 0) (by decide) hB
                        have z := ih _ _ _ _ (by simp; omega) hq h1 h0
                        rw [List.length_append, List.length_singleton] at z
                        exact z
                      · -- on 117
                        have hne : ¬ (prs T n 8 FU 0 0 (advP T n x)).2.1.1 = 59 := fun q => c11 (by rw [q]; rfl)
                        rw [if_neg hne] at h0
                        refine J_aload_n dX5_readRules_117 rfl ?_
                        refine J_iconst (v := 2) dX5_readRules_118 (by decide) ?_
                        refine M_callV1 (mc := mX5_refuse) dX5_readRules_119 kX5_43 oX5_refuse (Nat.le_of_ble_eq_true rfl) (Nat.le_of_ble_eq_true rfl) rfl (by decide) rfl ?_
                        refine tX5_rf (f := 2) (by omega) hc2 ⟨fun e => absurd e (by simp [rfu]), fun v e9 N3 hv => ?_⟩
                        refine M_zret dX5_readRules_122 rfl (by first | assumption | exact Or.inl rfl | exact Or.inr rfl) ?_
                        first
                        | exact h0 v e N2 (hc.pf hv)
                        | exact h0 v e9 N3 (hc.pf hv)
                    · -- on 103
                      exact absurd c9 (by decide)
                  · -- false
                    rw [if_neg (by rw [e]; exact fun q => by cases q)] at h0
                    refine J_if_ne (tgt := 105) dX5_readRules_100 (by decide) (fun c15 => ?_) (fun c15 => ?_)
                    · -- to 105
                      exact absurd c15 (by decide)
                    · -- on 103
                      refine J_iconst (v := 0) dX5_readRules_103 (by decide) ?_
                      refine M_zret dX5_readRules_104 rfl (by first | assumption | exact Or.inl rfl | exact Or.inr rfl) ?_
                      first
                      | exact h0 v e N2 (hc.pf hv)
                      | exact h0 v e9 N3 (hc.pf hv)
                · -- on 80
                  exact absurd c6 (by decide)
              · -- on 61
                exact absurd c5 (by decide)
        · simp only [hK, if_true] at h1 h0
          refine J_iload_n dX5_readRules_31 rfl ?_
          refine J_bipush (v := 12) dX5_readRules_32 (by decide) ?_
          refine J_icmp_ge (tgt := 147) dX5_readRules_34 (by decide) (fun c1 => ?_) (fun c1 => ?_)
          · -- to 147
            exact absurd c1 (nI_ge (b := 12) (by omega) (by decide))
          · -- on 37
            refine J_aload_n dX5_readRules_37 rfl ?_
            refine M_getR dX5_readRules_38 fX5_9 rfl rfl (by decide) ?_
            refine M_callV0 (mc := mX9_kind) dX5_readRules_41 kX5_39 oX9_kind (Nat.le_of_ble_eq_true rfl) (Nat.le_of_ble_eq_true rfl) rfl (by decide) rfl ?_
            refine tX5_kn hc ?_
            rw [hK]
            refine J_if_eq (tgt := 147) dX5_readRules_44 (by decide) (fun c3 => ?_) (fun c3 => ?_)
            · -- to 147
              exact absurd c3 (by decide)
            · -- on 47
              refine J_aload_n dX5_readRules_47 rfl ?_
              refine M_getR dX5_readRules_48 fX5_9 rfl rfl (by decide) ?_
              refine M_callV0 (mc := mX9_kind) dX5_readRules_51 kX5_39 oX9_kind (Nat.le_of_ble_eq_true rfl) (Nat.le_of_ble_eq_true rfl) rfl (by decide) rfl ?_
              refine tX5_kn hc ?_
              rw [hK]
              refine J_istore_n dX5_readRules_54 (by decide) rfl ?_
              dsimp only [setL]
              refine J_iload_n dX5_readRules_55 rfl ?_
              refine J_bipush (v := 14) dX5_readRules_56 (by decide) ?_
              refine J_icmp_eq (tgt := 73) dX5_readRules_58 (by decide) (fun c5 => ?_) (fun c5 => ?_)
              · -- to 73
                exact absurd c5 (by decide)
              · -- on 61
                refine J_iload_n dX5_readRules_61 rfl ?_
                refine J_bipush (v := 15) dX5_readRules_62 (by decide) ?_
                refine J_icmp_eq (tgt := 73) dX5_readRules_64 (by decide) (fun c6 => ?_) (fun c6 => ?_)
                · -- to 73
                  refine J_aload_n dX5_readRules_73 rfl ?_
                  refine J_iload_n dX5_readRules_74 rfl ?_
                  refine J_bipush (v := 15) dX5_readRules_75 (by decide) ?_
                  refine J_icmp_ne (tgt := 84) dX5_readRules_77 (by decide) (fun c7 => ?_) (fun c7 => ?_)
                  · -- to 84
                    exact absurd c7 (by decide)
                  · -- on 80
                    refine J_iconst (v := 1) dX5_readRules_80 (by decide) ?_
                    refine J_goto (tgt := 85) dX5_readRules_81 (by decide) ?_
                    refine M_putZ dX5_readRules_85 pX5_47 rfl rfl (by decide) (by first | exact Or.inl rfl | exact Or.inr rfl) ?_
                    refine J_aload_n dX5_readRules_88 rfl ?_
                    refine M_getR dX5_readRules_89 fX5_9 rfl rfl (by decide) ?_
                    refine M_callV0 (mc := mX9_advance) dX5_readRules_92 kX5_51 oX9_advance (Nat.le_of_ble_eq_true rfl) (Nat.le_of_ble_eq_true rfl) rfl (by decide) rfl ?_
                    have E : ENV (wr N 25 3 (nI 1)) T n 14 := ⟨hLet, by rw [rd2 (by decide), hc.1 13 (by decide)]; exact hn, hnb, by rw [rd2 (by decide), hc.1 14 (by decide)]; exact hT, Or.inr ⟨by rw [rd1]; decide, rfl⟩⟩
                    have hp := hc.pc (pi := nI 1)
                    refine tX5_adv E (by omega) hp (by omega) (by omega) (fun NA hA => ?_)
                    have hs9 := hA.2.2.1.1
                    refine J_aload_n dX5_readRules_95 rfl ?_
                    refine J_iconst (v := 0) dX5_readRules_96 (by decide) ?_
                    refine M_callV1 (mc := mX5_readEither) dX5_readRules_97 kX5_54 oX5_readEither (Nat.le_of_ble_eq_true rfl) (Nat.le_of_ble_eq_true rfl) rfl (by decide) rfl ?_
                    refine (clsP E FU).1 0 (advP T n x) NA _ _ (by omega) hA (by unfold FU; omega) (by omega) ⟨fun e N2 hc2 => ?_, fun v e N2 hv => ?_⟩
                    · -- true
                      rw [if_pos e] at h1 h0
                      refine J_if_ne (tgt := 105) dX5_readRules_100 (by decide) (fun c10 => ?_) (fun c10 => ?_)
                      · -- to 105
                        refine J_aload_n dX5_readRules_105 rfl ?_
                        refine M_getR dX5_readRules_106 fX5_9 rfl rfl (by decide) ?_
                        refine M_callV0 (mc := mX9_kind) dX5_readRules_109 kX5_39 oX9_kind (Nat.le_of_ble_eq_true rfl) (Nat.le_of_ble_eq_true rfl) rfl (by decide) rfl ?_
                        refine tX5_kd hc2 ?_
                        refine J_bipush (v := 59) dX5_readRules_112 (by decide) ?_
                        refine J_icmp_eq (tgt := 123) dX5_readRules_114 (by decide) (fun c12 => ?_) (fun c12 => ?_)
                        · -- to 123
                          have heq : (prs T n 14 FU 0 0 (advP T n x)).2.1.1 = 59 := (nI_eq (by have := hc2.2.2.1.2.2.2.2.2.2.1; omega) (by decide)).mp c12
                          rw [if_pos heq] at h1 h0
                          refine J_aload_n dX5_readRules_123 rfl ?_
                          refine M_getR dX5_readRules_124 fX5_9 rfl rfl (by decide) ?_
                          refine M_callV0 (mc := mX9_advance) dX5_readRules_127 kX5_51 oX9_advance (Nat.le_of_ble_eq_true rfl) (Nat.le_of_ble_eq_true rfl) rfl (by decide) rfl ?_
                          refine tX5_adv E (by omega) hc2 (by omega) (by omega) (fun NB hB => ?_)
                          refine J_aload_n dX5_readRules_130 rfl ?_
                          refine M_getR dX5_readRules_131 fX5_15 rfl rfl (by decide) ?_
                          refine J_aload_n dX5_readRules_134 rfl ?_
                          refine M_getI dX5_readRules_135 fX5_47 rfl rfl (by decide) ?_
                          refine M_callV1 (mc := mX7_endRule) dX5_readRules_138 kX5_57 oX7_endRule (Nat.le_of_ble_eq_true rfl) (Nat.le_of_ble_eq_true rfl) rfl (by decide) rfl ?_
                          rw [show NB.1 25 3 = nI 1 by rw [hB.2.2.2.2.2.2.2.1, rd1]]
                          refine M_more (d := 0) (Nat.zero_le _) (tX7_endRule (n := es.length) (x := nI 1) (by rw [hB.2.2.2.1.2, rd2 (by decide)]; exact hc.2.2.2.2.2.2.2.2.2.2.1.1) (by omega) (by first | exact Or.inl rfl | exact Or.inr rfl) ?_)
                          refine J_iinc (v := nI (es.length + 1)) dX5_readRules_141 rfl (nI_1 es.length) (by decide) rfl ?_
                          dsimp only [setL]
                          refine J_dropN 2 ?_
                          refine J_goto (tgt := 31) dX5_readRules_144 (by decide) ?_
                          have hq := hc.st (K := 1) (by decide) hB
                          have z := ih _ _ _ _ (by simp; omega) hq h1 h0
                          rw [List.length_append, List.length_singleton] at z
                          exact z
                        · -- on 117
                          have hne : ¬ (prs T n 14 FU 0 0 (advP T n x)).2.1.1 = 59 := fun q => c12 (by rw [q]; rfl)
                          rw [if_neg hne] at h0
                          refine J_aload_n dX5_readRules_117 rfl ?_
                          refine J_iconst (v := 2) dX5_readRules_118 (by decide) ?_
                          refine M_callV1 (mc := mX5_refuse) dX5_readRules_119 kX5_43 oX5_refuse (Nat.le_of_ble_eq_true rfl) (Nat.le_of_ble_eq_true rfl) rfl (by decide) rfl ?_
                          refine tX5_rf (f := 2) (by omega) hc2 ⟨fun e => absurd e (by simp [rfu]), fun v e9 N3 hv => ?_⟩
                          refine M_zret dX5_readRules_122 rfl (by first | assumption | exact Or.inl rfl | exact Or.inr rfl) ?_
                          first
                          | exact h0 v e N2 (hc.pf hv)
                          | exact h0 v e9 N3 (hc.pf hv)
                      · -- on 103
                        exact absurd c10 (by decide)
                    · -- false
                      rw [if_neg (by rw [e]; exact fun q => by cases q)] at h0
                      refine J_if_ne (tgt := 105) dX5_readRules_100 (by decide) (fun c16 => ?_) (fun c16 => ?_)
                      · -- to 105
                        exact absurd c16 (by decide)
                      · -- on 103
                        refine J_iconst (v := 0) dX5_readRules_103 (by decide) ?_
                        refine M_zret dX5_readRules_104 rfl (by first | assumption | exact Or.inl rfl | exact Or.inr rfl) ?_
                        first
                        | exact h0 v e N2 (hc.pf hv)
                        | exact h0 v e9 N3 (hc.pf hv)
                · -- on 67
                  exact absurd c6 (by decide)
      · rw [if_neg hK1] at h1 h0
        refine J_iload_n dX5_readRules_31 rfl ?_
        refine J_bipush (v := 12) dX5_readRules_32 (by decide) ?_
        refine J_icmp_ge (tgt := 147) dX5_readRules_34 (by decide) (fun c1 => ?_) (fun c1 => ?_)
        · -- to 147
          exact absurd c1 (nI_ge (b := 12) (by omega) (by decide))
        · -- on 37
          refine J_aload_n dX5_readRules_37 rfl ?_
          refine M_getR dX5_readRules_38 fX5_9 rfl rfl (by decide) ?_
          refine M_callV0 (mc := mX9_kind) dX5_readRules_41 kX5_39 oX9_kind (Nat.le_of_ble_eq_true rfl) (Nat.le_of_ble_eq_true rfl) rfl (by decide) rfl ?_
          refine tX5_kn hc ?_
          refine J_if_eq (tgt := 147) dX5_readRules_44 (by decide) (fun c3 => ?_) (fun c3 => ?_)
          · -- to 147
            exact absurd ((nI_eq (a := x.1.1) (b := 0) (by have := hc.2.2.1.2.2.2.2.2.2.1; omega) (by decide)).mp c3) hK0
          · -- on 47
            refine J_aload_n dX5_readRules_47 rfl ?_
            refine M_getR dX5_readRules_48 fX5_9 rfl rfl (by decide) ?_
            refine M_callV0 (mc := mX9_kind) dX5_readRules_51 kX5_39 oX9_kind (Nat.le_of_ble_eq_true rfl) (Nat.le_of_ble_eq_true rfl) rfl (by decide) rfl ?_
            refine tX5_kn hc ?_
            refine J_istore_n dX5_readRules_54 (by decide) rfl ?_
            dsimp only [setL]
            refine J_iload_n dX5_readRules_55 rfl ?_
            refine J_bipush (v := 14) dX5_readRules_56 (by decide) ?_
            refine J_icmp_eq (tgt := 73) dX5_readRules_58 (by decide) (fun c5 => ?_) (fun c5 => ?_)
            · -- to 73
              exact absurd ((nI_eq (a := x.1.1) (b := 14) (by have := hc.2.2.1.2.2.2.2.2.2.1; omega) (by decide)).mp c5) (fun q => hK1 (Or.inl q))
            · -- on 61
              refine J_iload_n dX5_readRules_61 rfl ?_
              refine J_bipush (v := 15) dX5_readRules_62 (by decide) ?_
              refine J_icmp_eq (tgt := 73) dX5_readRules_64 (by decide) (fun c6 => ?_) (fun c6 => ?_)
              · -- to 73
                exact absurd ((nI_eq (a := x.1.1) (b := 15) (by have := hc.2.2.1.2.2.2.2.2.2.1; omega) (by decide)).mp c6) (fun q => hK1 (Or.inr q))
              · -- on 67
                refine J_aload_n dX5_readRules_67 rfl ?_
                refine J_iconst (v := 2) dX5_readRules_68 (by decide) ?_
                refine M_callV1 (mc := mX5_refuse) dX5_readRules_69 kX5_43 oX5_refuse (Nat.le_of_ble_eq_true rfl) (Nat.le_of_ble_eq_true rfl) rfl (by decide) rfl ?_
                refine tX5_rn (by omega) hc (fun v e N2 hv => ?_)
                refine M_zret dX5_readRules_72 rfl (by first | assumption | exact Or.inl rfl | exact Or.inr rfl) ?_
                exact h0 v e N2 hv

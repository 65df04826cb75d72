/-- what is taken of a bin's lots: how much, and the lots that stay -/
def tk : Nat → List (Nat × Int32) → Nat × List (Nat × Int32)
  | _, [] => (0, [])
  | w, q :: r => if w = 0 then (0, q :: r) else if q.1 ≤ w then (q.1 + (tk (w - q.1) r).1, (tk (w - q.1) r).2) else (w, (q.1 - w, q.2) :: r)
theorem tk_0 (xs : List (Nat × Int32)) : tk 0 xs = (0, xs) := by cases xs <;> simp [tk]
def RepN (M : Mem) (b : Nat) (xs : List (Nat × Int32)) : Prop := xs.length ≤ 20 ∧ M.1 87 b = nI xs.length ∧ ∀ (i : Nat) (q : Nat × Int32), xs[i]? = some q → 1 ≤ q.1 ∧ q.1 ≤ 10000 ∧ M.1 88 (20 * b + i) = nI q.1 ∧ M.1 89 (20 * b + i) = q.2
def FrB (b : Nat) (M N : Mem) : Prop := (∀ a, a ≠ 87 → a ≠ 88 → a ≠ 89 → N.1 a = M.1 a) ∧ N.2 = M.2 ∧ (∀ j, (j < 20 * b ∨ 20 * b + 20 ≤ j) → N.1 88 j = M.1 88 j ∧ N.1 89 j = M.1 89 j) ∧ ∀ j, j ≠ b → N.1 87 j = M.1 87 j
theorem FrB.rf {b : Nat} {M : Mem} : FrB b M M := ⟨fun _ _ _ _ => rfl, rfl, fun _ _ => ⟨rfl, rfl⟩, fun _ _ => rfl⟩
theorem FrB.tr {b : Nat} {M N K : Mem} (h1 : FrB b M N) (h2 : FrB b N K) : FrB b M K := ⟨fun a q1 q2 q3 => (h2.1 a q1 q2 q3).trans (h1.1 a q1 q2 q3), h2.2.1.trans h1.2.1, fun j hj => ⟨(h2.2.2.1 j hj).1.trans (h1.2.2.1 j hj).1, (h2.2.2.1 j hj).2.trans (h1.2.2.1 j hj).2⟩, fun j hj => (h2.2.2.2 j hj).trans (h1.2.2.2 j hj)⟩
theorem FrB.amt {b : Nat} {M : Mem} {x : Int32} : FrB b M (wr M 88 (20 * b) x) := ⟨fun a _ q _ => rd2 q, rfl, fun j hj => ⟨rd3 (by omega), by rw [rd2 (by decide)]⟩, fun j _ => by rw [rd2 (by decide)]⟩
theorem dqF_out {f : Nat → Int32} {b n j : Nat} (hn : n ≤ 20) (hj : j < 20 * b ∨ 20 * b + 20 ≤ j) : dqF f (20 * b) (n - 1) j = f j := if_neg (by omega)
theorem FrB.go {b n : Nat} {M : Mem} (hn : n ≤ 20) : FrB b M (goM M b n) := by
  refine ⟨fun a q1 q2 q3 => ?_, rfl, fun j hj => ⟨?_, ?_⟩, fun j hj => ?_⟩
  · unfold goM; rw [rd2 q1, W2_o q2 q3]
  · unfold goM; rw [rd2 (by decide), W2_1 (by decide), dqF_out hn hj]
  · unfold goM; rw [rd2 (by decide), W2_2, dqF_out hn hj]
  · unfold goM; rw [rd3 hj, W2_o (by decide) (by decide)]
theorem RepN.go {M : Mem} {b : Nat} {q : Nat × Int32} {xs : List (Nat × Int32)} {x : Int32} (h : RepN M b (q :: xs)) : RepN (goM (wr M 88 (20 * b) x) b (xs.length + 1)) b xs := by
  obtain ⟨h1, h2, h3⟩ := h
  rw [List.length_cons] at h1
  refine ⟨by omega, by unfold goM; rw [rd1, Nat.add_sub_cancel], fun i q2 hi => ?_⟩
  have hl : i < xs.length := (List.getElem?_eq_some_iff.mp hi).1
  obtain ⟨z1, z2, z3, z4⟩ := h3 (i + 1) q2 (by rw [List.getElem?_cons_succ]; exact hi)
  refine ⟨z1, z2, ?_, ?_⟩
  · unfold goM dqF
    rw [rd2 (by decide), W2_1 (by decide)]
    show (if 20 * b ≤ 20 * b + i ∧ 20 * b + i < 20 * b + (xs.length + 1 - 1) then _ else _) = _
    rw [if_pos (by omega), rd3 (by omega)]
    exact z3
  · unfold goM dqF
    rw [rd2 (by decide), W2_2]
    show (if 20 * b ≤ 20 * b + i ∧ 20 * b + i < 20 * b + (xs.length + 1 - 1) then _ else _) = _
    rw [if_pos (by omega), rd2 (by decide)]
    exact z4
theorem RepN.less {M : Mem} {b v : Nat} {q : Nat × Int32} {xs : List (Nat × Int32)} (h : RepN M b (q :: xs)) (h1 : 1 ≤ v) (h2 : v ≤ 10000) : RepN (wr M 88 (20 * b) (nI v)) b ((v, q.2) :: xs) := by
  obtain ⟨g1, g2, g3⟩ := h
  refine ⟨g1, by rw [rd2 (by decide)]; exact g2, fun i q2 hi => ?_⟩
  cases i with
  | zero =>
    cases hi
    exact ⟨h1, h2, rd1, by rw [rd2 (by decide)]; exact (g3 0 q rfl).2.2.2⟩
  | succ i =>
    obtain ⟨z1, z2, z3, z4⟩ := g3 (i + 1) q2 hi
    exact ⟨z1, z2, by rw [rd3 (by omega)]; exact z3, by rw [rd2 (by decide)]; exact z4⟩
set_option maxRecDepth 100000 in
set_option maxHeartbeats 1000000 in
theorem tM_serve_0 {d : Nat} {M : Mem} {Φ : Option Int32 → Mem → Prop} {b w : Nat} (hw : w ≤ 50) (h : Φ (some (nI w)) M) : JM noRo d mX12_serve 2 [some (.ref 62), some (.int (nI b)), some (.int (nI w)), some (.int (nI w))] [] M Φ := by
  refine J_iload_n dX12_serve_2 rfl ?_
  refine J_iload_n dX12_serve_3 rfl ?_
  refine J_icmp_ge (tgt := 85) dX12_serve_4 (by decide) (fun c1 => ?_) (fun c1 => ?_)
  · -- to 85
    refine J_iload_n dX12_serve_85 rfl ?_
    refine M_iret dX12_serve_86 rfl rfl ?_
    exact h
  · -- on 7
    exact absurd (nI_le (Nat.le_refl _) (by omega)) c1
set_option maxRecDepth 100000 in
set_option maxHeartbeats 1000000 in
theorem tM_serve_l {d : Nat} {M : Mem} {Φ : Option Int32 → Mem → Prop} {b w : Nat} (hb : b < 4) (hw : w ≤ 50) : ∀ (xs : List (Nat × Int32)) (g r : Nat) (M : Mem), g + r = w → True → RepN M b xs → (∀ M2, RepN M2 b (tk r xs).2 → FrB b M M2 → Φ (some (nI (g + (tk r xs).1))) M2) → JM noRo (d + 1) mX12_serve 2 [some (.ref 62), some (.int (nI b)), some (.int (nI w)), some (.int (nI g))] [] M Φ := by
  intro xs
  induction xs with
  | nil =>
    intro g r M hg _ hR h
    by_cases hr0 : r = 0
    · subst hr0
      rw [tk_0] at h
      rw [show g = w by omega] at h ⊢
      exact tM_serve_0 hw (h M hR FrB.rf)
    · have hx := h M hR FrB.rf
      refine J_iload_n dX12_serve_2 rfl ?_
      refine J_iload_n dX12_serve_3 rfl ?_
      refine J_icmp_ge (tgt := 85) dX12_serve_4 (by decide) (fun c1 => ?_) (fun c1 => ?_)
      · -- to 85
        exact absurd c1 (nI_ge (by omega) (by omega))
      · -- on 7
        refine J_aload_n dX12_serve_7 rfl ?_
        refine M_getR dX12_serve_8 fX12_87 rfl rfl (by decide) ?_
        refine J_iload_n dX12_serve_11 rfl ?_
        refine M_ialdE dX12_serve_12 rfl (by decide) (by first | rfl | assumption) (by omega) ?_
        rw [hR.2.1]
        refine J_if_le (tgt := 85) dX12_serve_13 (by decide) (fun c2 => ?_) (fun c2 => ?_)
        · -- to 85
          refine J_iload_n dX12_serve_85 rfl ?_
          refine M_iret dX12_serve_86 rfl rfl ?_
          exact hx
        · -- on 16
          exact absurd (by decide) c2
  | cons q xs ih =>
    intro g r M hg _ hR h
    by_cases hr0 : r = 0
    · subst hr0
      rw [tk_0] at h
      rw [show g = w by omega] at h ⊢
      exact tM_serve_0 hw (h M hR FrB.rf)
    · obtain ⟨z1, z2, z3, z4⟩ := hR.2.2 0 q rfl
      rw [Nat.add_zero] at z3 z4
      refine J_iload_n dX12_serve_2 rfl ?_
      refine J_iload_n dX12_serve_3 rfl ?_
      refine J_icmp_ge (tgt := 85) dX12_serve_4 (by decide) (fun c1 => ?_) (fun c1 => ?_)
      · -- to 85
        exact absurd c1 (nI_ge (by omega) (by omega))
      · -- on 7
        refine J_aload_n dX12_serve_7 rfl ?_
        refine M_getR dX12_serve_8 fX12_87 rfl rfl (by decide) ?_
        refine J_iload_n dX12_serve_11 rfl ?_
        refine M_ialdE dX12_serve_12 rfl (by decide) (by first | rfl | assumption) (by omega) ?_
        rw [hR.2.1]
        refine J_if_le (tgt := 85) dX12_serve_13 (by decide) (fun c2 => ?_) (fun c2 => ?_)
        · -- to 85
          exact absurd c2 (nI_nle (by rw [List.length_cons]; omega) (by have := hR.1; omega))
        · -- on 16
          refine J_bipush (v := 20) dX12_serve_16 (by decide) ?_
          refine J_iload_n dX12_serve_18 rfl ?_
          refine J_imul dX12_serve_19 ?_
          refine J_istore dX12_serve_20 (by decide) rfl ?_
          dsimp only [setL]
          refine J_aload_n dX12_serve_22 rfl ?_
          refine M_getR dX12_serve_23 fX12_90 rfl rfl (by decide) ?_
          refine J_iload dX12_serve_26 rfl ?_
          refine M_ialdE dX12_serve_28 rfl (by decide) (pk_mul 20 b) (by omega) ?_
          rw [z3]
          refine J_iload_n dX12_serve_29 rfl ?_
          refine J_iload_n dX12_serve_30 rfl ?_
          refine J_isub dX12_serve_31 ?_
          rw [pk_sub (by omega), show w - g = r by omega]
          refine J_icmp_ge (tgt := 45) dX12_serve_32 (by decide) (fun c3 => ?_) (fun c3 => ?_)
          · -- to 45
            have cG : r ≤ q.1 := Nat.not_lt.mp (fun k => nI_ge k (by omega) c3)
            refine J_iload_n dX12_serve_45 rfl ?_
            refine J_iload_n dX12_serve_46 rfl ?_
            refine J_isub dX12_serve_47 ?_
            try (rw [pk_sub (by omega), show w - g = r by omega])
            refine J_istore dX12_serve_48 (by decide) rfl ?_
            dsimp only [setL]
            refine J_iload_n dX12_serve_50 rfl ?_
            refine J_iload dX12_serve_51 rfl ?_
            refine J_iadd dX12_serve_53 ?_
            rw [nI_add]
            refine J_istore_n dX12_serve_54 (by decide) rfl ?_
            dsimp only [setL]
            refine J_aload_n dX12_serve_55 rfl ?_
            refine M_getR dX12_serve_56 fX12_90 rfl rfl (by decide) ?_
            refine J_iload dX12_serve_59 rfl ?_
            refine J_dup2 dX12_serve_61 rfl rfl ?_
            refine M_ialdE dX12_serve_62 rfl (by decide) (pk_mul 20 b) (by omega) ?_
            rw [z3]
            refine J_iload dX12_serve_63 rfl ?_
            refine J_isub dX12_serve_65 ?_
            rw [pk_sub (by omega)]
            refine M_iastE dX12_serve_66 rfl (by decide) (pk_mul 20 b) (by omega) ?_
            refine J_aload_n dX12_serve_67 rfl ?_
            refine M_getR dX12_serve_68 fX12_90 rfl rfl (by decide) ?_
            refine J_iload dX12_serve_71 rfl ?_
            refine M_ialdE dX12_serve_73 rfl (by decide) (pk_mul 20 b) (by omega) ?_
            rw [rd1]
            refine J_if_ne (tgt := 82) dX12_serve_74 (by decide) (fun c4 => ?_) (fun c4 => ?_)
            · -- to 82
              refine J_dropN 4 ?_
              refine J_goto (tgt := 2) dX12_serve_82 (by decide) ?_
              first
              | exact absurd (show nI (q.1 - q.1) = 0 by rw [Nat.sub_self]; rfl) c4
              | exact ih (g + q.1) (r - q.1) _ (by omega) (by omega) (RepN.go hR) (fun M2 k1 k2 => by
                  have k3 := h M2
                  rw [tk, if_neg hr0, if_pos (Nat.le_of_lt cS), ← Nat.add_assoc] at k3
                  exact k3 k1 ((FrB.amt.tr (FrB.go hR.1)).tr k2))
              | (rw [show g + r = w by omega]
                 refine tM_serve_0 hw ?_
                 have k3 := h
                 rw [tk, if_neg hr0] at k3
                 by_cases k : q.1 ≤ r
                 · have ke : q.1 = r := by omega
                   rw [if_pos k, ke, Nat.sub_self, tk_0, Nat.add_zero, show g + r = w by omega] at k3
                   first
                   | exact k3 _ (RepN.go hR) (FrB.amt.tr (FrB.go hR.1))
                   | exact absurd (by rw [ke, Nat.sub_self]; rfl) c4
                 · rw [if_neg k, show g + r = w by omega] at k3
                   first
                   | exact k3 _ (RepN.less hR (by omega) (by omega)) FrB.amt
                   | exact absurd ((nI_eq (a := q.1 - r) (b := 0) (by omega) (by decide)).mp cE) (by omega))
            · -- on 77
              have cE := c4
              refine J_aload_n dX12_serve_77 rfl ?_
              refine J_iload_n dX12_serve_78 rfl ?_
              refine M_callV1 (mc := mX12_firstGoes) dX12_serve_79 kX12_327 oX12_firstGoes (Nat.le_of_ble_eq_true rfl) (Nat.le_of_ble_eq_true rfl) rfl (by decide) rfl ?_
              refine tM_firstGoes hb (n := xs.length + 1) (by rw [rd2 (by decide)]; exact hR.2.1) hR.1 (by omega) ?_
              refine J_dropN 4 ?_
              refine J_goto (tgt := 2) dX12_serve_82 (by decide) ?_
              first
              | exact absurd (show nI (q.1 - q.1) = 0 by rw [Nat.sub_self]; rfl) c4
              | exact ih (g + q.1) (r - q.1) _ (by omega) (by omega) (RepN.go hR) (fun M2 k1 k2 => by
                  have k3 := h M2
                  rw [tk, if_neg hr0, if_pos (Nat.le_of_lt cS), ← Nat.add_assoc] at k3
                  exact k3 k1 ((FrB.amt.tr (FrB.go hR.1)).tr k2))
              | (rw [show g + r = w by omega]
                 refine tM_serve_0 hw ?_
                 have k3 := h
                 rw [tk, if_neg hr0] at k3
                 by_cases k : q.1 ≤ r
                 · have ke : q.1 = r := by omega
                   rw [if_pos k, ke, Nat.sub_self, tk_0, Nat.add_zero, show g + r = w by omega] at k3
                   first
                   | exact k3 _ (RepN.go hR) (FrB.amt.tr (FrB.go hR.1))
                   | exact absurd (by rw [ke, Nat.sub_self]; rfl) c4
                 · rw [if_neg k, show g + r = w by omega] at k3
                   first
                   | exact k3 _ (RepN.less hR (by omega) (by omega)) FrB.amt
                   | exact absurd ((nI_eq (a := q.1 - r) (b := 0) (by omega) (by decide)).mp cE) (by omega))
          · -- on 35
            have cS : q.1 < r := Nat.not_le.mp (fun k => c3 (nI_le k (by omega)))
            refine J_aload_n dX12_serve_35 rfl ?_
            refine M_getR dX12_serve_36 fX12_90 rfl rfl (by decide) ?_
            refine J_iload dX12_serve_39 rfl ?_
            refine M_ialdE dX12_serve_41 rfl (by decide) (pk_mul 20 b) (by omega) ?_
            rw [z3]
            refine J_goto (tgt := 48) dX12_serve_42 (by decide) ?_
            try (rw [pk_sub (by omega), show w - g = r by omega])
            refine J_istore dX12_serve_48 (by decide) rfl ?_
            dsimp only [setL]
            refine J_iload_n dX12_serve_50 rfl ?_
            refine J_iload dX12_serve_51 rfl ?_
            refine J_iadd dX12_serve_53 ?_
            rw [nI_add]
            refine J_istore_n dX12_serve_54 (by decide) rfl ?_
            dsimp only [setL]
            refine J_aload_n dX12_serve_55 rfl ?_
            refine M_getR dX12_serve_56 fX12_90 rfl rfl (by decide) ?_
            refine J_iload dX12_serve_59 rfl ?_
            refine J_dup2 dX12_serve_61 rfl rfl ?_
            refine M_ialdE dX12_serve_62 rfl (by decide) (pk_mul 20 b) (by omega) ?_
            rw [z3]
            refine J_iload dX12_serve_63 rfl ?_
            refine J_isub dX12_serve_65 ?_
            rw [pk_sub (by omega)]
            refine M_iastE dX12_serve_66 rfl (by decide) (pk_mul 20 b) (by omega) ?_
            refine J_aload_n dX12_serve_67 rfl ?_
            refine M_getR dX12_serve_68 fX12_90 rfl rfl (by decide) ?_
            refine J_iload dX12_serve_71 rfl ?_
            refine M_ialdE dX12_serve_73 rfl (by decide) (pk_mul 20 b) (by omega) ?_
            rw [rd1]
            refine J_if_ne (tgt := 82) dX12_serve_74 (by decide) (fun c6 => ?_) (fun c6 => ?_)
            · -- to 82
              refine J_dropN 4 ?_
              refine J_goto (tgt := 2) dX12_serve_82 (by decide) ?_
              first
              | exact absurd (show nI (q.1 - q.1) = 0 by rw [Nat.sub_self]; rfl) c6
              | exact ih (g + q.1) (r - q.1) _ (by omega) (by omega) (RepN.go hR) (fun M2 k1 k2 => by
                  have k3 := h M2
                  rw [tk, if_neg hr0, if_pos (Nat.le_of_lt cS), ← Nat.add_assoc] at k3
                  exact k3 k1 ((FrB.amt.tr (FrB.go hR.1)).tr k2))
              | (rw [show g + r = w by omega]
                 refine tM_serve_0 hw ?_
                 have k3 := h
                 rw [tk, if_neg hr0] at k3
                 by_cases k : q.1 ≤ r
                 · have ke : q.1 = r := by omega
                   rw [if_pos k, ke, Nat.sub_self, tk_0, Nat.add_zero, show g + r = w by omega] at k3
                   first
                   | exact k3 _ (RepN.go hR) (FrB.amt.tr (FrB.go hR.1))
                   | exact absurd (by rw [ke, Nat.sub_self]; rfl) c6
                 · rw [if_neg k, show g + r = w by omega] at k3
                   first
                   | exact k3 _ (RepN.less hR (by omega) (by omega)) FrB.amt
                   | exact absurd ((nI_eq (a := q.1 - r) (b := 0) (by omega) (by decide)).mp cE) (by omega))
            · -- on 77
              have cE := c6
              refine J_aload_n dX12_serve_77 rfl ?_
              refine J_iload_n dX12_serve_78 rfl ?_
              refine M_callV1 (mc := mX12_firstGoes) dX12_serve_79 kX12_327 oX12_firstGoes (Nat.le_of_ble_eq_true rfl) (Nat.le_of_ble_eq_true rfl) rfl (by decide) rfl ?_
              refine tM_firstGoes hb (n := xs.length + 1) (by rw [rd2 (by decide)]; exact hR.2.1) hR.1 (by omega) ?_
              refine J_dropN 4 ?_
              refine J_goto (tgt := 2) dX12_serve_82 (by decide) ?_
              first
              | exact absurd (show nI (q.1 - q.1) = 0 by rw [Nat.sub_self]; rfl) c6
              | exact ih (g + q.1) (r - q.1) _ (by omega) (by omega) (RepN.go hR) (fun M2 k1 k2 => by
                  have k3 := h M2
                  rw [tk, if_neg hr0, if_pos (Nat.le_of_lt cS), ← Nat.add_assoc] at k3
                  exact k3 k1 ((FrB.amt.tr (FrB.go hR.1)).tr k2))
              | (rw [show g + r = w by omega]
                 refine tM_serve_0 hw ?_
                 have k3 := h
                 rw [tk, if_neg hr0] at k3
                 by_cases k : q.1 ≤ r
                 · have ke : q.1 = r := by omega
                   rw [if_pos k, ke, Nat.sub_self, tk_0, Nat.add_zero, show g + r = w by omega] at k3
                   first
                   | exact k3 _ (RepN.go hR) (FrB.amt.tr (FrB.go hR.1))
                   | exact absurd (by rw [ke, Nat.sub_self]; rfl) c6
                 · rw [if_neg k, show g + r = w by omega] at k3
                   first
                   | exact k3 _ (RepN.less hR (by omega) (by omega)) FrB.amt
                   | exact absurd ((nI_eq (a := q.1 - r) (b := 0) (by omega) (by decide)).mp cE) (by omega))

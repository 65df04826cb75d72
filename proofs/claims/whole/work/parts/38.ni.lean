def RfL : List Nat := [87, 88, 89, 90]
def StN (M M1 : Mem) (L L2 : Nat → Lots) (S S2 : Nat → Int32) (B : Nat) : Prop := (∀ c, c < 4 → RepN M1 c (if c < B then L2 c else L c) ∧ M1.1 90 c = if c < B then S2 c else S c) ∧ (∀ a, a ∉ RfL → M1.1 a = M.1 a) ∧ M1.2 = M.2
theorem RL_ne {a : Nat} (ha : a ∉ RfL) : a ≠ 87 ∧ a ≠ 88 ∧ a ≠ 89 ∧ a ≠ 90 := by
  simp only [RfL, List.mem_cons, not_or, List.not_mem_nil, not_false_eq_true, and_true] at ha
  omega
theorem StN.z {M : Mem} {L L2 : Nat → Lots} {S S2 : Nat → Int32} (h : ∀ c, c < 4 → RepN M c (L c) ∧ M.1 90 c = S c) : StN M M L L2 S S2 0 := ⟨fun c hc => by simpa using h c hc, fun _ _ => rfl, rfl⟩
theorem StN.r {M M1 : Mem} {L L2 : Nat → Lots} {S S2 : Nat → Int32} {B : Nat} (hB : B < 4) (h : StN M M1 L L2 S S2 B) : RepN M1 B (L B) ∧ M1.1 90 B = S B := by simpa using h.1 B hB
theorem StN.e {M M1 : Mem} {L L2 : Nat → Lots} {S S2 : Nat → Int32} (h : StN M M1 L L2 S S2 4) (c : Nat) (hc : c < 4) : RepN M1 c (L2 c) ∧ M1.1 90 c = S2 c := by simpa [hc] using h.1 c hc
def FrS (b : Nat) (M N : Mem) : Prop := (∀ a, a ∉ RfL → N.1 a = M.1 a) ∧ N.2 = M.2 ∧ (∀ j, (j < 20 * b ∨ 20 * b + 20 ≤ j) → N.1 88 j = M.1 88 j ∧ N.1 89 j = M.1 89 j) ∧ (∀ j, j ≠ b → N.1 87 j = M.1 87 j) ∧ ∀ j, j ≠ b → N.1 90 j = M.1 90 j
theorem FrS.rf {b : Nat} {M : Mem} : FrS b M M := ⟨fun _ _ => rfl, rfl, fun _ _ => ⟨rfl, rfl⟩, fun _ _ => rfl, fun _ _ => rfl⟩
theorem FrS.tr {b : Nat} {M N K : Mem} (h1 : FrS b M N) (h2 : FrS b N K) : FrS b M K := ⟨fun a q => (h2.1 a q).trans (h1.1 a q), h2.2.1.trans h1.2.1, fun j hj => ⟨(h2.2.2.1 j hj).1.trans (h1.2.2.1 j hj).1, (h2.2.2.1 j hj).2.trans (h1.2.2.1 j hj).2⟩, fun j hj => (h2.2.2.2.1 j hj).trans (h1.2.2.2.1 j hj), fun j hj => (h2.2.2.2.2 j hj).trans (h1.2.2.2.2 j hj)⟩
theorem FrS.ofB {b : Nat} {M N : Mem} (h : FrB b M N) : FrS b M N := ⟨fun a q => h.1 a (RL_ne q).1 (RL_ne q).2.1 (RL_ne q).2.2.1, h.2.1, h.2.2.1, h.2.2.2, fun j _ => by rw [h.1 90 (by decide) (by decide) (by decide)]⟩
theorem FrS.sp {b : Nat} {M : Mem} {x : Int32} : FrS b M (wr M 90 b x) := ⟨fun a q => rd2 (RL_ne q).2.2.2, rfl, fun j _ => ⟨by rw [rd2 (by decide)], by rw [rd2 (by decide)]⟩, fun j _ => by rw [rd2 (by decide)], fun j hj => rd3 hj⟩
theorem StN.st {M M1 M2 : Mem} {L L2 : Nat → Lots} {S S2 : Nat → Int32} {B : Nat} (hB : B < 4) (h : StN M M1 L L2 S S2 B) (r : RepN M2 B (L2 B)) (f : FrS B M1 M2) (s : M2.1 90 B = S2 B) : StN M M2 L L2 S S2 (B + 1) := by
  refine ⟨fun c hc => ?_, fun a ha => (f.1 a ha).trans (h.2.1 a ha), f.2.1.trans h.2.2⟩
  by_cases e : c = B
  · subst e
    rw [if_pos (by omega), if_pos (by omega)]
    exact ⟨r, s⟩
  · have z := h.1 c hc
    have e2 : (c < B + 1) = (c < B) := propext ⟨fun _ => by omega, fun _ => by omega⟩
    simp only [e2]
    exact ⟨z.1.cg (f.2.2.2.1 c e) (fun i hi => f.2.2.1 _ (by omega)), by rw [f.2.2.2.2 c e]; exact z.2⟩
theorem RepN.go2 {M : Mem} {b : Nat} {q : Nat × Int32} {xs : Lots} {x : Int32} (h : RepN M b (q :: xs)) : RepN (goM (wr M 90 b x) b (xs.length + 1)) b xs := by
  have h2 : RepN (wr M 90 b x) b (q :: xs) := h.cg (by rw [rd2 (by decide)]) (fun i _ => ⟨by rw [rd2 (by decide)], by rw [rd2 (by decide)]⟩)
  have h3 := RepN.go (x := (wr M 90 b x).1 88 (20 * b)) h2
  rw [wr_self] at h3
  exact h3
set_option maxRecDepth 100000 in
set_option maxHeartbeats 1000000 in
theorem tM_night_sp {d : Nat} {Φ : Option Int32 → Mem → Prop} {b : Nat} {y : Int32} (hb : b < 4) : ∀ (xs : Lots) (M : Mem), M.1 62 0 = y → RepN M b xs → (∀ M2, RepN M2 b (spl y (M.1 90 b) xs).2 → FrS b M M2 → M2.1 90 b = (spl y (M.1 90 b) xs).1 → JM noRo (d + 1) mX12_night 75 [some (.ref 62), some (.int (nI b))] [] M2 Φ) → JM noRo (d + 1) mX12_night 24 [some (.ref 62), some (.int (nI b))] [] M Φ := by
  intro xs
  induction xs with
  | nil =>
    intro M hy hR h
    refine J_aload_n dX12_night_24 rfl ?_
    refine M_getR dX12_night_25 fX12_87 rfl rfl (by decide) ?_
    refine J_iload_n dX12_night_28 rfl ?_
    refine M_ialdE dX12_night_29 rfl (by decide) (by first | rfl | assumption) (by omega) ?_
    rw [hR.2.1]
    refine J_if_le (tgt := 75) dX12_night_30 (by decide) (fun c1 => ?_) (fun c1 => ?_)
    · -- to 75
      exact h M hR FrS.rf rfl
      
    · -- on 33
      exact absurd (by decide) c1
  | cons q xs ih =>
    intro M hy hR h
    obtain ⟨z1, z2, z3, z4⟩ := hR.2.2 0 q rfl
    rw [Nat.add_zero] at z3 z4
    refine J_aload_n dX12_night_24 rfl ?_
    refine M_getR dX12_night_25 fX12_87 rfl rfl (by decide) ?_
    refine J_iload_n dX12_night_28 rfl ?_
    refine M_ialdE dX12_night_29 rfl (by decide) (by first | rfl | assumption) (by omega) ?_
    rw [hR.2.1]
    refine J_if_le (tgt := 75) dX12_night_30 (by decide) (fun c1 => ?_) (fun c1 => ?_)
    · -- to 75
      exact absurd c1 (nI_nle (by rw [List.length_cons]; omega) (by have := hR.1; omega))
    · -- on 33
      refine J_aload_n dX12_night_33 rfl ?_
      refine M_getR dX12_night_34 fX12_93 rfl rfl (by decide) ?_
      refine J_bipush (v := 20) dX12_night_37 (by decide) ?_
      refine J_iload_n dX12_night_39 rfl ?_
      refine J_imul dX12_night_40 ?_
      refine M_ialdE dX12_night_41 rfl (by decide) (pk_mul 20 b) (by omega) ?_
      rw [z4]
      refine J_aload_n dX12_night_42 rfl ?_
      refine M_getI dX12_night_43 fX12_135 rfl rfl (by decide) ?_
      rw [hy]
      refine J_icmp_ge (tgt := 75) dX12_night_46 (by decide) (fun c2 => ?_) (fun c2 => ?_)
      · -- to 75
        rw [spl, if_neg (Int32.not_lt.mpr c2)] at h
        exact h M hR FrS.rf rfl
      · -- on 49
        have cL : q.2 < y := Int32.not_le.mp c2
        refine J_aload_n dX12_night_49 rfl ?_
        refine M_getR dX12_night_50 fX12_96 rfl rfl (by decide) ?_
        refine J_iload_n dX12_night_53 rfl ?_
        refine J_dup2 dX12_night_54 rfl rfl ?_
        refine M_ialdE dX12_night_55 rfl (by decide) (by first | rfl | assumption) (by omega) ?_
        refine J_aload_n dX12_night_56 rfl ?_
        refine M_getR dX12_night_57 fX12_90 rfl rfl (by decide) ?_
        refine J_bipush (v := 20) dX12_night_60 (by decide) ?_
        refine J_iload_n dX12_night_62 rfl ?_
        refine J_imul dX12_night_63 ?_
        refine M_ialdE dX12_night_64 rfl (by decide) (pk_mul 20 b) (by omega) ?_
        rw [z3]
        refine J_iadd dX12_night_65 ?_
        refine M_iastE dX12_night_66 rfl (by decide) (by first | rfl | assumption) (by omega) ?_
        refine J_aload_n dX12_night_67 rfl ?_
        refine J_iload_n dX12_night_68 rfl ?_
        refine M_callV1 (mc := mX12_firstGoes) dX12_night_69 kX12_327 oX12_firstGoes (Nat.le_of_ble_eq_true rfl) (Nat.le_of_ble_eq_true rfl) rfl (by decide) rfl ?_
        refine tM_firstGoes hb (n := xs.length + 1) (by rw [rd2 (by decide)]; exact hR.2.1) hR.1 (by omega) ?_
        refine J_goto (tgt := 24) dX12_night_72 (by decide) ?_
        refine ih (goM (wr M 90 b (M.1 90 b + nI q.1)) b (xs.length + 1)) (by unfold goM; rw [rd2 (by decide), W2_o (by decide) (by decide), rd2 (by decide)]; exact hy) (RepN.go2 hR) (fun M2 k1 k2 k3 => ?_)
        have e : (goM (wr M 90 b (M.1 90 b + nI q.1)) b (xs.length + 1)).1 90 b = M.1 90 b + nI q.1 := by unfold goM; rw [rd2 (by decide), W2_o (by decide) (by decide), rd1]
        rw [e] at k1 k3
        rw [spl, if_pos cL] at h
        exact h M2 k1 ((FrS.sp.tr (FrS.ofB (FrB.go hR.1))).tr k2) k3
theorem tM_night_sS {d : Nat} {M M1 : Mem} {Φ : Option Int32 → Mem → Prop} {B : Nat} {y : Int32} {L : Nat → Lots} {S : Nat → Int32} (hB : B < 4) (hy : M.1 62 0 = y) (h : StN M M1 L (fun c => (spl y (S c) (L c)).2) S (fun c => (spl y (S c) (L c)).1) B) (k : ∀ M2, StN M M2 L (fun c => (spl y (S c) (L c)).2) S (fun c => (spl y (S c) (L c)).1) (B + 1) → JM noRo (d + 1) mX12_night 75 [some (.ref 62), some (.int (nI B))] [] M2 Φ) : JM noRo (d + 1) mX12_night 24 [some (.ref 62), some (.int (nI B))] [] M1 Φ := by
  have z := h.r hB
  refine tM_night_sp (y := y) hB (L B) M1 (by rw [h.2.1 62 (by decide)]; exact hy) z.1 (fun M2 r f s => k M2 (h.st hB ?_ f ?_))
  · rw [z.2] at r; exact r
  · rw [z.2] at s; exact s
theorem tM_serveS {d : Nat} {M M1 : Mem} {Φ : Option Int32 → Mem → Prop} {B : Nat} {W : Nat → Nat} {L : Nat → Lots} {S : Nat → Int32} (hB : B < 4) (h : StN M M1 L (fun c => (tk (W c) (L c)).2) S S B) (hw : W B ≤ 50) (k : ∀ M2, StN M M2 L (fun c => (tk (W c) (L c)).2) S S (B + 1) → Φ (some (nI (tk (W B) (L B)).1)) M2) : JM noRo (d + 1) mX12_serve 0 [some (.ref 62), some (.int (nI B)), some (.int (nI (W B)))] [] M1 Φ := by
  have z := h.r hB
  refine tM_serve hB hw z.1 (fun M2 r f => k M2 (h.st hB r (FrS.ofB f) ?_))
  rw [f.1 90 (by decide) (by decide) (by decide)]; exact z.2
theorem StN.wr67 {M M1 : Mem} {L L2 : Nat → Lots} {S S2 : Nat → Int32} {B j : Nat} {x y : Int32} (h : StN (wr M 67 j x) M1 L L2 S S2 B) : StN (wr M 67 j y) (wr M1 67 j y) L L2 S S2 B := by
  refine ⟨fun c hc => ⟨(h.1 c hc).1.cg (by rw [rd2 (by decide)]) (fun i _ => ⟨by rw [rd2 (by decide)], by rw [rd2 (by decide)]⟩), by rw [rd2 (by decide)]; exact (h.1 c hc).2⟩, fun a ha => ?_, h.2.2⟩
  have z := h.2.1 a ha
  by_cases e : a = 67
  · subst e
    rw [rdu] at z
    rw [rdu, rdu, z]
    funext i
    by_cases q : i = j
    · rw [q, updS, updS]
    · rw [updN q, updN q, updN q]
  · rw [rd2 e] at z
    rw [rd2 e, rd2 e, z]
def RN : List Nat := [62, 67, 87, 88, 89, 90, 93, 94, 95]
theorem RN_ne {a : Nat} (ha : a ∉ RN) : a ∉ RfL ∧ a ≠ 62 ∧ a ≠ 67 ∧ a ≠ 93 ∧ a ≠ 94 ∧ a ≠ 95 := by
  simp only [RN, List.mem_cons, not_or, List.not_mem_nil, not_false_eq_true, and_true] at ha
  simp only [RfL, List.mem_cons, not_or, List.not_mem_nil, not_false_eq_true, and_true]
  omega
/-- the reference after h horses' nights -/
def GN (M M2 : Mem) (L : Nat → Lots) (S : Nat → Int32) (k : Nat) (W : Nat → Nat → Nat) (h : Nat) : Prop := (∀ b, b < 4 → RepN M2 b (LtH W L h b) ∧ M2.1 90 b = S b) ∧ (∀ a, a ∉ RN → M2.1 a = M.1 a) ∧ M2.2 = M.2 ∧ M2.1 67 = nF (M.1 67) 0 (fun j => M.1 67 j + lkH W L j) h ∧ M2.1 93 = nF (M.1 93) k (fun i => nI i) h ∧ M2.1 94 = nF (M.1 94) k (fun _ => M.1 62 0) h ∧ M2.1 95 = nF (M.1 95) k (csH (M.1 91) W L) h ∧ M2.1 62 49 = nI (k + h) ∧ ∀ i, i ≠ 49 → M2.1 62 i = M.1 62 i
theorem GN.st {M M1 M2 : Mem} {L : Nat → Lots} {S : Nat → Int32} {k h : Nat} {W : Nat → Nat → Nat} (g : GN M M1 L S k W h) (e1 : ∀ b, b < 4 → RepN M2 b (tk (W h b) (LtH W L h b)).2 ∧ M2.1 90 b = M1.1 90 b) (e2 : ∀ a, a ∉ RN → M2.1 a = M1.1 a) (e3 : M2.2 = M1.2) (e4 : M2.1 67 = upd (M1.1 67) h (M1.1 67 h + lkH W L h)) (e5 : M2.1 93 = upd (M1.1 93) (k + h) (nI h)) (e6 : M2.1 94 = upd (M1.1 94) (k + h) (M1.1 62 0)) (e7 : M2.1 95 = upd (M1.1 95) (k + h) (csH (M1.1 91) W L h)) (e8 : M2.1 62 49 = nI (k + h + 1)) (e9 : ∀ i, i ≠ 49 → M2.1 62 i = M1.1 62 i) : GN M M2 L S k W (h + 1) := by
  obtain ⟨g1, g2, g3, g4, g5, g6, g7, g8, g9⟩ := g
  refine ⟨fun b hb => ⟨(e1 b hb).1, (e1 b hb).2.trans (g1 b hb).2⟩, fun a ha => (e2 a ha).trans (g2 a ha), e3.trans g3, ?_, ?_, ?_, ?_, e8, fun i hi => (e9 i hi).trans (g9 i hi)⟩
  · rw [e4, g4]
    have q := nF_hi (f := M.1 67) (v := fun j => M.1 67 j + lkH W L j) (k := 0) (h := h)
    have q2 := nF_s (f := M.1 67) (v := fun j => M.1 67 j + lkH W L j) (k := 0) (h := h) (x := M.1 67 h + lkH W L h) rfl
    rw [Nat.zero_add] at q q2
    rw [q, q2]
  · rw [e5, g5, nF_s rfl]
  · rw [e6, g6, nF_s (by rw [g9 0 (by decide)])]
  · rw [e7, g7, nF_s (by rw [g2 91 (by decide)])]
set_option maxRecDepth 100000 in
set_option maxHeartbeats 1000000 in
theorem tM_night_l {d : Nat} {M : Mem} {Φ : Option Int32 → Mem → Prop} {n k : Nat} {W : Nat → Nat → Nat} {L : Nat → Lots} {S : Nat → Int32} (hn : M.1 62 1 = nI n) (hnb : n ≤ 12) (hk : k + n ≤ 2000) (hW : ∀ j b, j < n → b < 4 → W j b ≤ 50 ∧ M.1 68 (4 * j + b) = nI (W j b)) (h : ∀ M3, GN M M3 L S k W n → Φ (some (l_sum (lkH W L) n)) (wr (wr M3 62 0 (M3.1 62 0 + 1)) 62 12 0)) : ∀ m i M2, i + m = n → GN M M2 L S k W i → JM noRo (d + 2) mX12_night 85 [some (.ref 62), some (.int (l_sum (lkH W L) i)), some (.int (nI i))] [] M2 Φ := by
  intro m
  induction m with
  | zero =>
    intro i M2 hi hg
    refine J_iload_n dX12_night_85 rfl ?_
    refine J_aload_n dX12_night_86 rfl ?_
    refine M_getI dX12_night_87 fX12_132 rfl rfl (by decide) ?_
    rw [hg.2.2.2.2.2.2.2.2 1 (by decide), hn]
    refine J_icmp_ge (tgt := 224) dX12_night_90 (by decide) (fun c1 => ?_) (fun c1 => ?_)
    · -- to 224
      refine J_aload_n dX12_night_224 rfl ?_
      refine J_dup dX12_night_225 rfl ?_
      refine M_getI dX12_night_226 fX12_135 rfl rfl (by decide) ?_
      refine J_iconst (v := 1) dX12_night_229 (by decide) ?_
      refine J_iadd dX12_night_230 ?_
      refine M_putI dX12_night_231 pX12_135 rfl rfl (by decide) ?_
      refine J_aload_n dX12_night_234 rfl ?_
      refine J_iconst (v := 0) dX12_night_235 (by decide) ?_
      refine M_putZ dX12_night_236 pX12_138 rfl rfl (by decide) (by first | assumption | exact Or.inl rfl | exact Or.inr rfl) ?_
      refine J_iload_n dX12_night_239 rfl ?_
      refine M_iret dX12_night_240 rfl rfl ?_
      obtain rfl : i = n := by omega
      exact h _ hg
    · -- on 93
      exact absurd (nI_le (by omega) (by omega)) c1
  | succ m ih =>
    intro i M2 hi hg
    have y0 : StN (wr M2 67 i (M2.1 67 i)) M2 (LtH W L i) (fun c => (tk (W i c) (LtH W L i c)).2) S S 0 := by
      rw [wr_self]
      exact StN.z hg.1
    refine J_iload_n dX12_night_85 rfl ?_
    refine J_aload_n dX12_night_86 rfl ?_
    refine M_getI dX12_night_87 fX12_132 rfl rfl (by decide) ?_
    rw [hg.2.2.2.2.2.2.2.2 1 (by decide), hn]
    refine J_icmp_ge (tgt := 224) dX12_night_90 (by decide) (fun c1 => ?_) (fun c1 => ?_)
    · -- to 224
      exact absurd c1 (nI_ge (by omega) (by omega))
    · -- on 93
      refine J_aload_n dX12_night_93 rfl ?_
      refine M_getR dX12_night_94 fX12_99 rfl rfl (by decide) ?_
      refine J_iconst (v := 0) dX12_night_97 (by decide) ?_
      refine M_ialdE dX12_night_98 rfl (by decide) (show (0 : Int32) = nI 0 from rfl) (by decide) ?_
      refine J_istore_n dX12_night_99 (by decide) rfl ?_
      dsimp only [setL]
      refine J_iconst (v := 0) dX12_night_100 (by decide) ?_
      refine J_istore dX12_night_101 (by decide) rfl ?_
      dsimp only [setL]
      refine J_iload dX12_night_103 rfl ?_
      refine J_iconst (v := 4) dX12_night_105 (by decide) ?_
      refine J_icmp_ge (tgt := 175) dX12_night_106 (by decide) (fun c2 => ?_) (fun c2 => ?_)
      · -- to 175
        exact absurd c2 (by decide)
      · -- on 109
        refine J_aload_n dX12_night_109 rfl ?_
        refine M_getR dX12_night_110 fX12_25 rfl rfl (by decide) ?_
        refine J_iconst (v := 4) dX12_night_113 (by decide) ?_
        refine J_iload_n dX12_night_114 rfl ?_
        refine J_imul dX12_night_115 ?_
        refine J_iload dX12_night_116 rfl ?_
        refine J_iadd dX12_night_118 ?_
        refine M_ialdE dX12_night_119 rfl (by decide) (ixm2 i 4 0) (by omega) ?_
        rw [hg.2.1 68 (by decide), (hW i 0 (by omega) (by decide)).2]
        refine J_istore dX12_night_120 (by decide) rfl ?_
        dsimp only [setL]
        refine J_aload_n dX12_night_122 rfl ?_
        refine J_iload dX12_night_123 rfl ?_
        refine J_iload dX12_night_125 rfl ?_
        refine M_callV2 (mc := mX12_serve) dX12_night_127 kX12_333 oX12_serve (Nat.le_of_ble_eq_true rfl) (Nat.le_of_ble_eq_true rfl) rfl (by decide) rfl ?_
        refine tM_serveS (B := 0) (W := W i) (by decide) y0 (hW i 0 (by omega) (by decide)).1 (fun N1 z1 => ?_)
        refine J_istore dX12_night_130 (by decide) rfl ?_
        dsimp only [setL]
        refine J_iload_n dX12_night_132 rfl ?_
        refine J_iload dX12_night_133 rfl ?_
        refine J_aload_n dX12_night_135 rfl ?_
        refine M_getR dX12_night_136 fX12_99 rfl rfl (by decide) ?_
        refine J_iconst (v := 1) dX12_night_139 (by decide) ?_
        refine J_iload dX12_night_140 rfl ?_
        refine J_iadd dX12_night_142 ?_
        refine M_ialdE dX12_night_143 rfl (by decide) (show (1 : Int32) + nI 0 = nI 1 from rfl) (by decide) ?_
        rw [z1.2.1 91 (by decide), rd2 (by decide)]
        refine J_imul dX12_night_144 ?_
        refine J_iadd dX12_night_145 ?_
        refine J_istore_n dX12_night_146 (by decide) rfl ?_
        dsimp only [setL]
        refine J_aload_n dX12_night_147 rfl ?_
        refine M_getR dX12_night_148 fX12_22 rfl rfl (by decide) ?_
        refine J_iload_n dX12_night_151 rfl ?_
        refine J_dup2 dX12_night_152 rfl rfl ?_
        refine M_ialdE dX12_night_153 rfl (by decide) (by first | rfl | assumption) (by omega) ?_
        rw [show N1.1 67 i = M2.1 67 i by rw [z1.2.1 67 (by decide), rdu, updS]]
        refine J_iload dX12_night_154 rfl ?_
        refine J_iload dX12_night_156 rfl ?_
        refine J_isub dX12_night_158 ?_
        refine J_iadd dX12_night_159 ?_
        refine M_iastE dX12_night_160 rfl (by decide) (by first | rfl | assumption) (by omega) ?_
        have y1 : StN (wr M2 67 i (M2.1 67 i + (nI (W i 0) - nI (tk (W i 0) (LtH W L i 0)).1))) (wr N1 67 i (M2.1 67 i + (nI (W i 0) - nI (tk (W i 0) (LtH W L i 0)).1))) (LtH W L i) (fun c => (tk (W i c) (LtH W L i c)).2) S S 1 := z1.wr67
        refine J_iload_n dX12_night_161 rfl ?_
        refine J_iload dX12_night_162 rfl ?_
        refine J_iload dX12_night_164 rfl ?_
        refine J_isub dX12_night_166 ?_
        refine J_iadd dX12_night_167 ?_
        refine J_istore_n dX12_night_168 (by decide) rfl ?_
        dsimp only [setL]
        refine J_iinc (v := nI 1) dX12_night_169 rfl ((show _ from rfl)) (by decide) rfl ?_
        dsimp only [setL]
        refine J_goto (tgt := 103) dX12_night_172 (by decide) ?_
        refine J_iload dX12_night_103 rfl ?_
        refine J_iconst (v := 4) dX12_night_105 (by decide) ?_
        refine J_icmp_ge (tgt := 175) dX12_night_106 (by decide) (fun c4 => ?_) (fun c4 => ?_)
        · -- to 175
          exact absurd c4 (by decide)
        · -- on 109
          refine J_aload_n dX12_night_109 rfl ?_
          refine M_getR dX12_night_110 fX12_25 rfl rfl (by decide) ?_
          refine J_iconst (v := 4) dX12_night_113 (by decide) ?_
          refine J_iload_n dX12_night_114 rfl ?_
          refine J_imul dX12_night_115 ?_
          refine J_iload dX12_night_116 rfl ?_
          refine J_iadd dX12_night_118 ?_
          refine M_ialdE dX12_night_119 rfl (by decide) (ixm2 i 4 1) (by omega) ?_
          rw [y1.2.1 68 (by decide), rd2 (by decide), hg.2.1 68 (by decide), (hW i 1 (by omega) (by decide)).2]
          refine J_istore dX12_night_120 (by decide) rfl ?_
          dsimp only [setL]
          refine J_aload_n dX12_night_122 rfl ?_
          refine J_iload dX12_night_123 rfl ?_
          refine J_iload dX12_night_125 rfl ?_
          refine M_callV2 (mc := mX12_serve) dX12_night_127 kX12_333 oX12_serve (Nat.le_of_ble_eq_true rfl) (Nat.le_of_ble_eq_true rfl) rfl (by decide) rfl ?_
          refine tM_serveS (B := 1) (W := W i) (by decide) y1 (hW i 1 (by omega) (by decide)).1 (fun N2 z2 => ?_)
          refine J_istore dX12_night_130 (by decide) rfl ?_
          dsimp only [setL]
          refine J_iload_n dX12_night_132 rfl ?_
          refine J_iload dX12_night_133 rfl ?_
          refine J_aload_n dX12_night_135 rfl ?_
          refine M_getR dX12_night_136 fX12_99 rfl rfl (by decide) ?_
          refine J_iconst (v := 1) dX12_night_139 (by decide) ?_
          refine J_iload dX12_night_140 rfl ?_
          refine J_iadd dX12_night_142 ?_
          refine M_ialdE dX12_night_143 rfl (by decide) (show (1 : Int32) + nI 1 = nI 2 from rfl) (by decide) ?_
          rw [z2.2.1 91 (by decide), rd2 (by decide)]
          refine J_imul dX12_night_144 ?_
          refine J_iadd dX12_night_145 ?_
          refine J_istore_n dX12_night_146 (by decide) rfl ?_
          dsimp only [setL]
          refine J_aload_n dX12_night_147 rfl ?_
          refine M_getR dX12_night_148 fX12_22 rfl rfl (by decide) ?_
          refine J_iload_n dX12_night_151 rfl ?_
          refine J_dup2 dX12_night_152 rfl rfl ?_
          refine M_ialdE dX12_night_153 rfl (by decide) (by first | rfl | assumption) (by omega) ?_
          rw [show N2.1 67 i = M2.1 67 i + (nI (W i 0) - nI (tk (W i 0) (LtH W L i 0)).1) by rw [z2.2.1 67 (by decide), rdu, updS]]
          refine J_iload dX12_night_154 rfl ?_
          refine J_iload dX12_night_156 rfl ?_
          refine J_isub dX12_night_158 ?_
          refine J_iadd dX12_night_159 ?_
          refine M_iastE dX12_night_160 rfl (by decide) (by first | rfl | assumption) (by omega) ?_
          have y2 : StN (wr M2 67 i (M2.1 67 i + (nI (W i 0) - nI (tk (W i 0) (LtH W L i 0)).1) + (nI (W i 1) - nI (tk (W i 1) (LtH W L i 1)).1))) (wr N2 67 i (M2.1 67 i + (nI (W i 0) - nI (tk (W i 0) (LtH W L i 0)).1) + (nI (W i 1) - nI (tk (W i 1) (LtH W L i 1)).1))) (LtH W L i) (fun c => (tk (W i c) (LtH W L i c)).2) S S 2 := z2.wr67
          refine J_iload_n dX12_night_161 rfl ?_
          refine J_iload dX12_night_162 rfl ?_
          refine J_iload dX12_night_164 rfl ?_
          refine J_isub dX12_night_166 ?_
          refine J_iadd dX12_night_167 ?_
          refine J_istore_n dX12_night_168 (by decide) rfl ?_
          dsimp only [setL]
          refine J_iinc (v := nI 2) dX12_night_169 rfl ((show _ from rfl)) (by decide) rfl ?_
          dsimp only [setL]
          refine J_goto (tgt := 103) dX12_night_172 (by decide) ?_
          refine J_iload dX12_night_103 rfl ?_
          refine J_iconst (v := 4) dX12_night_105 (by decide) ?_
          refine J_icmp_ge (tgt := 175) dX12_night_106 (by decide) (fun c6 => ?_) (fun c6 => ?_)
          · -- to 175
            exact absurd c6 (by decide)
          · -- on 109
            refine J_aload_n dX12_night_109 rfl ?_
            refine M_getR dX12_night_110 fX12_25 rfl rfl (by decide) ?_
            refine J_iconst (v := 4) dX12_night_113 (by decide) ?_
            refine J_iload_n dX12_night_114 rfl ?_
            refine J_imul dX12_night_115 ?_
            refine J_iload dX12_night_116 rfl ?_
            refine J_iadd dX12_night_118 ?_
            refine M_ialdE dX12_night_119 rfl (by decide) (ixm2 i 4 2) (by omega) ?_
            rw [y2.2.1 68 (by decide), rd2 (by decide), hg.2.1 68 (by decide), (hW i 2 (by omega) (by decide)).2]
            refine J_istore dX12_night_120 (by decide) rfl ?_
            dsimp only [setL]
            refine J_aload_n dX12_night_122 rfl ?_
            refine J_iload dX12_night_123 rfl ?_
            refine J_iload dX12_night_125 rfl ?_
            refine M_callV2 (mc := mX12_serve) dX12_night_127 kX12_333 oX12_serve (Nat.le_of_ble_eq_true rfl) (Nat.le_of_ble_eq_true rfl) rfl (by decide) rfl ?_
            refine tM_serveS (B := 2) (W := W i) (by decide) y2 (hW i 2 (by omega) (by decide)).1 (fun N3 z3 => ?_)
            refine J_istore dX12_night_130 (by decide) rfl ?_
            dsimp only [setL]
            refine J_iload_n dX12_night_132 rfl ?_
            refine J_iload dX12_night_133 rfl ?_
            refine J_aload_n dX12_night_135 rfl ?_
            refine M_getR dX12_night_136 fX12_99 rfl rfl (by decide) ?_
            refine J_iconst (v := 1) dX12_night_139 (by decide) ?_
            refine J_iload dX12_night_140 rfl ?_
            refine J_iadd dX12_night_142 ?_
            refine M_ialdE dX12_night_143 rfl (by decide) (show (1 : Int32) + nI 2 = nI 3 from rfl) (by decide) ?_
            rw [z3.2.1 91 (by decide), rd2 (by decide)]
            refine J_imul dX12_night_144 ?_
            refine J_iadd dX12_night_145 ?_
            refine J_istore_n dX12_night_146 (by decide) rfl ?_
            dsimp only [setL]
            refine J_aload_n dX12_night_147 rfl ?_
            refine M_getR dX12_night_148 fX12_22 rfl rfl (by decide) ?_
            refine J_iload_n dX12_night_151 rfl ?_
            refine J_dup2 dX12_night_152 rfl rfl ?_
            refine M_ialdE dX12_night_153 rfl (by decide) (by first | rfl | assumption) (by omega) ?_
            rw [show N3.1 67 i = M2.1 67 i + (nI (W i 0) - nI (tk (W i 0) (LtH W L i 0)).1) + (nI (W i 1) - nI (tk (W i 1) (LtH W L i 1)).1) by rw [z3.2.1 67 (by decide), rdu, updS]]
            refine J_iload dX12_night_154 rfl ?_
            refine J_iload dX12_night_156 rfl ?_
            refine J_isub dX12_night_158 ?_
            refine J_iadd dX12_night_159 ?_
            refine M_iastE dX12_night_160 rfl (by decide) (by first | rfl | assumption) (by omega) ?_
            have y3 : StN (wr M2 67 i (M2.1 67 i + (nI (W i 0) - nI (tk (W i 0) (LtH W L i 0)).1) + (nI (W i 1) - nI (tk (W i 1) (LtH W L i 1)).1) + (nI (W i 2) - nI (tk (W i 2) (LtH W L i 2)).1))) (wr N3 67 i (M2.1 67 i + (nI (W i 0) - nI (tk (W i 0) (LtH W L i 0)).1) + (nI (W i 1) - nI (tk (W i 1) (LtH W L i 1)).1) + (nI (W i 2) - nI (tk (W i 2) (LtH W L i 2)).1))) (LtH W L i) (fun c => (tk (W i c) (LtH W L i c)).2) S S 3 := z3.wr67
            refine J_iload_n dX12_night_161 rfl ?_
            refine J_iload dX12_night_162 rfl ?_
            refine J_iload dX12_night_164 rfl ?_
            refine J_isub dX12_night_166 ?_
            refine J_iadd dX12_night_167 ?_
            refine J_istore_n dX12_night_168 (by decide) rfl ?_
            dsimp only [setL]
            refine J_iinc (v := nI 3) dX12_night_169 rfl ((show _ from rfl)) (by decide) rfl ?_
            dsimp only [setL]
            refine J_goto (tgt := 103) dX12_night_172 (by decide) ?_
            refine J_iload dX12_night_103 rfl ?_
            refine J_iconst (v := 4) dX12_night_105 (by decide) ?_
            refine J_icmp_ge (tgt := 175) dX12_night_106 (by decide) (fun c8 => ?_) (fun c8 => ?_)
            · -- to 175
              exact absurd c8 (by decide)
            · -- on 109
              refine J_aload_n dX12_night_109 rfl ?_
              refine M_getR dX12_night_110 fX12_25 rfl rfl (by decide) ?_
              refine J_iconst (v := 4) dX12_night_113 (by decide) ?_
              refine J_iload_n dX12_night_114 rfl ?_
              refine J_imul dX12_night_115 ?_
              refine J_iload dX12_night_116 rfl ?_
              refine J_iadd dX12_night_118 ?_
              refine M_ialdE dX12_night_119 rfl (by decide) (ixm2 i 4 3) (by omega) ?_
              rw [y3.2.1 68 (by decide), rd2 (by decide), hg.2.1 68 (by decide), (hW i 3 (by omega) (by decide)).2]
              refine J_istore dX12_night_120 (by decide) rfl ?_
              dsimp only [setL]
              refine J_aload_n dX12_night_122 rfl ?_
              refine J_iload dX12_night_123 rfl ?_
              refine J_iload dX12_night_125 rfl ?_
              refine M_callV2 (mc := mX12_serve) dX12_night_127 kX12_333 oX12_serve (Nat.le_of_ble_eq_true rfl) (Nat.le_of_ble_eq_true rfl) rfl (by decide) rfl ?_
              refine tM_serveS (B := 3) (W := W i) (by decide) y3 (hW i 3 (by omega) (by decide)).1 (fun N4 z4 => ?_)
              refine J_istore dX12_night_130 (by decide) rfl ?_
              dsimp only [setL]
              refine J_iload_n dX12_night_132 rfl ?_
              refine J_iload dX12_night_133 rfl ?_
              refine J_aload_n dX12_night_135 rfl ?_
              refine M_getR dX12_night_136 fX12_99 rfl rfl (by decide) ?_
              refine J_iconst (v := 1) dX12_night_139 (by decide) ?_
              refine J_iload dX12_night_140 rfl ?_
              refine J_iadd dX12_night_142 ?_
              refine M_ialdE dX12_night_143 rfl (by decide) (show (1 : Int32) + nI 3 = nI 4 from rfl) (by decide) ?_
              rw [z4.2.1 91 (by decide), rd2 (by decide)]
              refine J_imul dX12_night_144 ?_
              refine J_iadd dX12_night_145 ?_
              refine J_istore_n dX12_night_146 (by decide) rfl ?_
              dsimp only [setL]
              refine J_aload_n dX12_night_147 rfl ?_
              refine M_getR dX12_night_148 fX12_22 rfl rfl (by decide) ?_
              refine J_iload_n dX12_night_151 rfl ?_
              refine J_dup2 dX12_night_152 rfl rfl ?_
              refine M_ialdE dX12_night_153 rfl (by decide) (by first | rfl | assumption) (by omega) ?_
              rw [show N4.1 67 i = M2.1 67 i + (nI (W i 0) - nI (tk (W i 0) (LtH W L i 0)).1) + (nI (W i 1) - nI (tk (W i 1) (LtH W L i 1)).1) + (nI (W i 2) - nI (tk (W i 2) (LtH W L i 2)).1) by rw [z4.2.1 67 (by decide), rdu, updS]]
              refine J_iload dX12_night_154 rfl ?_
              refine J_iload dX12_night_156 rfl ?_
              refine J_isub dX12_night_158 ?_
              refine J_iadd dX12_night_159 ?_
              refine M_iastE dX12_night_160 rfl (by decide) (by first | rfl | assumption) (by omega) ?_
              have y4 : StN (wr M2 67 i (M2.1 67 i + (nI (W i 0) - nI (tk (W i 0) (LtH W L i 0)).1) + (nI (W i 1) - nI (tk (W i 1) (LtH W L i 1)).1) + (nI (W i 2) - nI (tk (W i 2) (LtH W L i 2)).1) + (nI (W i 3) - nI (tk (W i 3) (LtH W L i 3)).1))) (wr N4 67 i (M2.1 67 i + (nI (W i 0) - nI (tk (W i 0) (LtH W L i 0)).1) + (nI (W i 1) - nI (tk (W i 1) (LtH W L i 1)).1) + (nI (W i 2) - nI (tk (W i 2) (LtH W L i 2)).1) + (nI (W i 3) - nI (tk (W i 3) (LtH W L i 3)).1))) (LtH W L i) (fun c => (tk (W i c) (LtH W L i c)).2) S S 4 := z4.wr67
              refine J_iload_n dX12_night_161 rfl ?_
              refine J_iload dX12_night_162 rfl ?_
              refine J_iload dX12_night_164 rfl ?_
              refine J_isub dX12_night_166 ?_
              refine J_iadd dX12_night_167 ?_
              refine J_istore_n dX12_night_168 (by decide) rfl ?_
              dsimp only [setL]
              refine J_iinc (v := nI 4) dX12_night_169 rfl ((show _ from rfl)) (by decide) rfl ?_
              dsimp only [setL]
              refine J_goto (tgt := 103) dX12_night_172 (by decide) ?_
              refine J_iload dX12_night_103 rfl ?_
              refine J_iconst (v := 4) dX12_night_105 (by decide) ?_
              refine J_icmp_ge (tgt := 175) dX12_night_106 (by decide) (fun c10 => ?_) (fun c10 => ?_)
              · -- to 175
                refine J_aload_n dX12_night_175 rfl ?_
                refine M_getR dX12_night_176 fX12_105 rfl rfl (by decide) ?_
                refine J_aload_n dX12_night_179 rfl ?_
                refine M_getI dX12_night_180 fX12_330 rfl rfl (by decide) ?_
                rw [y4.2.1 62 (by decide), rd2 (by decide), hg.2.2.2.2.2.2.2.1]
                refine J_iload_n dX12_night_183 rfl ?_
                refine M_iastE dX12_night_184 rfl (by decide) (by first | rfl | assumption) (by omega) ?_
                refine J_aload_n dX12_night_185 rfl ?_
                refine M_getR dX12_night_186 fX12_108 rfl rfl (by decide) ?_
                refine J_aload_n dX12_night_189 rfl ?_
                refine M_getI dX12_night_190 fX12_330 rfl rfl (by decide) ?_
                rw [rd2 (by decide), y4.2.1 62 (by decide), rd2 (by decide), hg.2.2.2.2.2.2.2.1]
                refine J_aload_n dX12_night_193 rfl ?_
                refine M_getI dX12_night_194 fX12_135 rfl rfl (by decide) ?_
                rw [rd2 (by decide), y4.2.1 62 (by decide), rd2 (by decide)]
                refine M_iastE dX12_night_197 rfl (by decide) (by first | rfl | assumption) (by omega) ?_
                refine J_aload_n dX12_night_198 rfl ?_
                refine M_getR dX12_night_199 fX12_111 rfl rfl (by decide) ?_
                refine J_aload_n dX12_night_202 rfl ?_
                refine M_getI dX12_night_203 fX12_330 rfl rfl (by decide) ?_
                rw [rd2 (by decide), rd2 (by decide), y4.2.1 62 (by decide), rd2 (by decide), hg.2.2.2.2.2.2.2.1]
                refine J_iload_n dX12_night_206 rfl ?_
                refine M_iastE dX12_night_207 rfl (by decide) (by first | rfl | assumption) (by omega) ?_
                refine J_aload_n dX12_night_208 rfl ?_
                refine J_dup dX12_night_209 rfl ?_
                refine M_getI dX12_night_210 fX12_330 rfl rfl (by decide) ?_
                rw [rd2 (by decide), rd2 (by decide), rd2 (by decide), y4.2.1 62 (by decide), rd2 (by decide), hg.2.2.2.2.2.2.2.1]
                refine J_iconst (v := 1) dX12_night_213 (by decide) ?_
                refine J_iadd dX12_night_214 ?_
                rw [nI_1]
                refine M_putI dX12_night_215 pX12_330 rfl rfl (by decide) ?_
                have hg2 : GN M (wr (wr (wr (wr (wr N4 67 i (M2.1 67 i + (nI (W i 0) - nI (tk (W i 0) (LtH W L i 0)).1) + (nI (W i 1) - nI (tk (W i 1) (LtH W L i 1)).1) + (nI (W i 2) - nI (tk (W i 2) (LtH W L i 2)).1) + (nI (W i 3) - nI (tk (W i 3) (LtH W L i 3)).1))) 93 (k + i) (nI i)) 94 (k + i) (M2.1 62 0)) 95 (k + i) (csH (M2.1 91) W L i)) 62 49 (nI (k + i + 1))) L S k W (i + 1) := by
                  refine hg.st (fun b hb => ?_) (fun a ha => ?_) ?_ ?_ ?_ ?_ ?_ rd1 (fun j hj => ?_)
                  · have z := y4.e b hb
                    exact ⟨z.1.cg (by simp only [rd2, ne_eq, Nat.reduceEqDiff, not_false_eq_true]) (fun _ _ => by simp only [rd2, ne_eq, Nat.reduceEqDiff, not_false_eq_true, and_self]), by
                      rw [show (wr (wr (wr (wr (wr N4 67 i (M2.1 67 i + (nI (W i 0) - nI (tk (W i 0) (LtH W L i 0)).1) + (nI (W i 1) - nI (tk (W i 1) (LtH W L i 1)).1) + (nI (W i 2) - nI (tk (W i 2) (LtH W L i 2)).1) + (nI (W i 3) - nI (tk (W i 3) (LtH W L i 3)).1))) 93 (k + i) (nI i)) 94 (k + i) (M2.1 62 0)) 95 (k + i) (csH (M2.1 91) W L i)) 62 49 (nI (k + i + 1))).1 90 = (wr N4 67 i (M2.1 67 i + (nI (W i 0) - nI (tk (W i 0) (LtH W L i 0)).1) + (nI (W i 1) - nI (tk (W i 1) (LtH W L i 1)).1) + (nI (W i 2) - nI (tk (W i 2) (LtH W L i 2)).1) + (nI (W i 3) - nI (tk (W i 3) (LtH W L i 3)).1))).1 90 by simp only [rd2, ne_eq, Nat.reduceEqDiff, not_false_eq_true]]
                      exact z.2.trans (hg.1 b hb).2.symm⟩
                  · obtain ⟨q0, q1, q2, q3, q4, q5⟩ := RN_ne ha
                    rw [rd2 q1, rd2 q5, rd2 q4, rd2 q3, y4.2.1 a q0, rd2 q2]
                  · exact y4.2.2
                  · rw [rd2 (by decide), rd2 (by decide), rd2 (by decide), rd2 (by decide), y4.2.1 67 (by decide), rdu]
                    congr 1
                    show _ = M2.1 67 i + (0 + (nI (W i 0) - nI (tk (W i 0) (LtH W L i 0)).1) + (nI (W i 1) - nI (tk (W i 1) (LtH W L i 1)).1) + (nI (W i 2) - nI (tk (W i 2) (LtH W L i 2)).1) + (nI (W i 3) - nI (tk (W i 3) (LtH W L i 3)).1))
                    rw [Int32.zero_add]
                    simp only [Int32.add_assoc]
                  · rw [rd2 (by decide), rd2 (by decide), rd2 (by decide), rdu, y4.2.1 93 (by decide), rd2 (by decide)]
                  · rw [rd2 (by decide), rd2 (by decide), rdu, rd2 (by decide), y4.2.1 94 (by decide), rd2 (by decide)]
                  · rw [rd2 (by decide), rdu, rd2 (by decide), rd2 (by decide), y4.2.1 95 (by decide), rd2 (by decide)]
                  · rw [rd3 hj, rd2 (by decide), rd2 (by decide), rd2 (by decide), y4.2.1 62 (by decide), rd2 (by decide)]
                refine J_iinc (v := nI (i + 1)) dX12_night_218 rfl (nI_1 i) (by decide) rfl ?_
                dsimp only [setL]
                refine J_dropN 3 ?_
                refine J_goto (tgt := 85) dX12_night_221 (by decide) ?_
                have e : l_sum (lkH W L) i + (nI (W i 0) - nI (tk (W i 0) (LtH W L i 0)).1) + (nI (W i 1) - nI (tk (W i 1) (LtH W L i 1)).1) + (nI (W i 2) - nI (tk (W i 2) (LtH W L i 2)).1) + (nI (W i 3) - nI (tk (W i 3) (LtH W L i 3)).1) = l_sum (lkH W L) (i + 1) := by
                  show _ = l_sum (lkH W L) i + (0 + (nI (W i 0) - nI (tk (W i 0) (LtH W L i 0)).1) + (nI (W i 1) - nI (tk (W i 1) (LtH W L i 1)).1) + (nI (W i 2) - nI (tk (W i 2) (LtH W L i 2)).1) + (nI (W i 3) - nI (tk (W i 3) (LtH W L i 3)).1))
                  rw [Int32.zero_add]
                  simp only [Int32.add_assoc]
                have q := ih (i + 1) _ (by omega) hg2
                rw [← e] at q
                exact q
              · -- on 109
                exact absurd c10 (by decide)
set_option maxRecDepth 100000 in
set_option maxHeartbeats 1000000 in
theorem tM_night {d : Nat} {M : Mem} {Φ : Option Int32 → Mem → Prop} {n k : Nat} {W : Nat → Nat → Nat} {L : Nat → Lots} {S : Nat → Int32} (hn : M.1 62 1 = nI n) (hnb : n ≤ 12) (hc : M.1 62 49 = nI k) (hkb : k ≤ 2000) (hR : ∀ b, b < 4 → RepN M b (L b) ∧ M.1 90 b = S b) (hW : ∀ j b, j < n → b < 4 → W j b ≤ 50 ∧ M.1 68 (4 * j + b) = nI (W j b)) (h0 : ¬ k + n ≤ 2000 → Φ (some (-1)) M) (h1 : k + n ≤ 2000 → ∀ M3, GN M M3 (fun c => (spl (M.1 62 0) (S c) (L c)).2) (fun c => (spl (M.1 62 0) (S c) (L c)).1) k W n → Φ (some (l_sum (lkH W (fun c => (spl (M.1 62 0) (S c) (L c)).2)) n)) (wr (wr M3 62 0 (M3.1 62 0 + 1)) 62 12 0)) : JM noRo (d + 2) mX12_night 0 [some (.ref 62)] [] M Φ := by
  have z0 : StN M M L (fun c => (spl (M.1 62 0) (S c) (L c)).2) S (fun c => (spl (M.1 62 0) (S c) (L c)).1) 0 := StN.z hR
  refine J_aload_n dX12_night_0 rfl ?_
  refine M_getI dX12_night_1 fX12_330 rfl rfl (by decide) ?_
  refine J_aload_n dX12_night_4 rfl ?_
  refine M_getI dX12_night_5 fX12_132 rfl rfl (by decide) ?_
  refine J_iadd dX12_night_8 ?_
  refine J_sipush (v := 2000) dX12_night_9 (by decide) ?_
  refine J_icmp_le (tgt := 17) dX12_night_12 (by decide) (fun c1 => ?_) (fun c1 => ?_)
  · -- to 17
    have hr : k + n ≤ 2000 := Nat.not_lt.mp (fun q => by
      have z := c1
      rw [hc, hn, nI_add] at z
      exact nI_ge (a := 2000) (b := k + n) q (by omega) z)
    refine J_iconst (v := 0) dX12_night_17 (by decide) ?_
    refine J_istore_n dX12_night_18 (by decide) rfl ?_
    dsimp only [setL]
    refine J_iload_n dX12_night_19 rfl ?_
    refine J_iconst (v := 4) dX12_night_20 (by decide) ?_
    refine J_icmp_ge (tgt := 81) dX12_night_21 (by decide) (fun c2 => ?_) (fun c2 => ?_)
    · -- to 81
      exact absurd c2 (by decide)
    · -- on 24
      refine tM_night_sS (B := 0) (by decide) (rfl : M.1 62 0 = M.1 62 0) z0 (fun M1 z1 => ?_)
      refine J_iinc (v := nI 1) dX12_night_75 rfl ((show _ from rfl)) (by decide) rfl ?_
      dsimp only [setL]
      refine J_goto (tgt := 19) dX12_night_78 (by decide) ?_
      refine J_iload_n dX12_night_19 rfl ?_
      refine J_iconst (v := 4) dX12_night_20 (by decide) ?_
      refine J_icmp_ge (tgt := 81) dX12_night_21 (by decide) (fun c3 => ?_) (fun c3 => ?_)
      · -- to 81
        exact absurd c3 (by decide)
      · -- on 24
        refine tM_night_sS (B := 1) (by decide) (rfl : M.1 62 0 = M.1 62 0) z1 (fun M2 z2 => ?_)
        refine J_iinc (v := nI 2) dX12_night_75 rfl ((show _ from rfl)) (by decide) rfl ?_
        dsimp only [setL]
        refine J_goto (tgt := 19) dX12_night_78 (by decide) ?_
        refine J_iload_n dX12_night_19 rfl ?_
        refine J_iconst (v := 4) dX12_night_20 (by decide) ?_
        refine J_icmp_ge (tgt := 81) dX12_night_21 (by decide) (fun c4 => ?_) (fun c4 => ?_)
        · -- to 81
          exact absurd c4 (by decide)
        · -- on 24
          refine tM_night_sS (B := 2) (by decide) (rfl : M.1 62 0 = M.1 62 0) z2 (fun M3 z3 => ?_)
          refine J_iinc (v := nI 3) dX12_night_75 rfl ((show _ from rfl)) (by decide) rfl ?_
          dsimp only [setL]
          refine J_goto (tgt := 19) dX12_night_78 (by decide) ?_
          refine J_iload_n dX12_night_19 rfl ?_
          refine J_iconst (v := 4) dX12_night_20 (by decide) ?_
          refine J_icmp_ge (tgt := 81) dX12_night_21 (by decide) (fun c5 => ?_) (fun c5 => ?_)
          · -- to 81
            exact absurd c5 (by decide)
          · -- on 24
            refine tM_night_sS (B := 3) (by decide) (rfl : M.1 62 0 = M.1 62 0) z3 (fun M4 z4 => ?_)
            refine J_iinc (v := nI 4) dX12_night_75 rfl ((show _ from rfl)) (by decide) rfl ?_
            dsimp only [setL]
            refine J_goto (tgt := 19) dX12_night_78 (by decide) ?_
            refine J_iload_n dX12_night_19 rfl ?_
            refine J_iconst (v := 4) dX12_night_20 (by decide) ?_
            refine J_icmp_ge (tgt := 81) dX12_night_21 (by decide) (fun c6 => ?_) (fun c6 => ?_)
            · -- to 81
              refine J_iconst (v := 0) dX12_night_81 (by decide) ?_
              refine J_istore_n dX12_night_82 (by decide) rfl ?_
              dsimp only [setL]
              refine J_iconst (v := 0) dX12_night_83 (by decide) ?_
              refine J_istore_n dX12_night_84 (by decide) rfl ?_
              dsimp only [setL]
              refine tM_night_l (M := M) (W := W) (S := (fun c => (spl (M.1 62 0) (S c) (L c)).1)) (L := (fun c => (spl (M.1 62 0) (S c) (L c)).2)) hn hnb hr hW (h1 hr) n 0 M4 (by omega) ⟨fun b hb => z4.e b hb, fun a ha => z4.2.1 a (RN_ne ha).1, z4.2.2, ?_, ?_, ?_, ?_, ?_, fun i _ => by rw [z4.2.1 62 (by decide)]⟩
              · rw [nF_0, z4.2.1 67 (by decide)]
              · rw [nF_0, z4.2.1 93 (by decide)]
              · rw [nF_0, z4.2.1 94 (by decide)]
              · rw [nF_0, z4.2.1 95 (by decide)]
              · rw [z4.2.1 62 (by decide)]
                exact hc
            · -- on 24
              exact absurd c6 (by decide)
  · -- on 15
    refine J_iconst (v := -1) dX12_night_15 (by decide) ?_
    refine M_iret dX12_night_16 rfl rfl ?_
    exact h0 (fun q => c1 (by rw [hc, hn, nI_add]; exact nI_le q (by decide)))

/-- the rules in force, the same on both sides -/
def G7 (M : Mem) : Prop := ∃ C st m L, RC M C st m L ∧ RR M C st m L ∧ RP (M.1 76) C st m L ∧ ∀ r, r < m → M.1 23 r = M.1 76 r
theorem INV_iw {X : Mem → Prop} {M : Mem} (h : INV X M) (g : G7 M) : ∃ C st m L n, IW M C st m L n := by
  obtain ⟨C, st, m, L, k1, k2, k3, k4⟩ := g
  obtain ⟨h1, h2, ⟨n, t, k, w, h3, h5⟩, h4, h6, hXM⟩ := h
  exact ⟨C, st, m, L, n, h1, h2.1, h4, ⟨h3.1, h3.2.2.2.2.1, h3.2.2.2.2.2.1⟩, k1, k2, k3, k4⟩
theorem INV_vw {X : Mem → Prop} {M N : Mem} (h : INV X M) (v : Vw M N) (e29 : N.1 29 = M.1 29) (e62 : N.1 62 = M.1 62) (hX : X N) : INV X N := by
  obtain ⟨h1, h2, ⟨n, t, k, w, h3, h5⟩, h4, h6, hXM⟩ := h
  refine ⟨?_, ?_, ⟨n, t, k, w, ?_, ?_⟩, ?_, ?_, hX⟩
  · unfold E1
    rw [v.1 2 (by decide), v.1 63 (by decide), v.1 3 (by decide), v.1 64 (by decide), v.1 4 (by decide), v.1 65 (by decide), v.1 5 (by decide), v.1 66 (by decide), v.1 6 (by decide), v.1 68 (by decide), v.1 7 (by decide), v.1 67 (by decide), v.1 9 (by decide), v.1 69 (by decide), v.1 10 (by decide), v.1 70 (by decide), v.1 11 (by decide), v.1 71 (by decide), v.1 12 (by decide), v.1 72 (by decide), v.1 14 (by decide), v.1 81 (by decide), v.1 50 (by decide), v.1 91 (by decide), v.1 61 (by decide), v.1 92 (by decide), v.1 52 (by decide), v.1 93 (by decide), v.1 53 (by decide), v.1 94 (by decide), v.1 54 (by decide), v.1 95 (by decide), v.1 56 (by decide), v.1 96 (by decide), v.1 57 (by decide), v.1 98 (by decide), v.1 58 (by decide), v.1 99 (by decide), v.1 59 (by decide), v.1 100 (by decide)]
    exact h1
  · unfold E2
    rw [v.1 0 (by decide), v.1 25 (by decide), e29, e62]
    exact h2
  · unfold E3
    rw [v.1 1 (by decide), v.1 13 (by decide), v.1 51 (by decide), v.1 55 (by decide), e62]
    exact h3
  · unfold E5
    rw [v.1 96 (by decide), v.1 60 (by decide), v.1 65 (by decide), v.1 97 (by decide), v.1 98 (by decide)]
    exact h5
  · unfold E4
    rw [v.1 66 (by decide), v.1 68 (by decide), v.1 69 (by decide)]
    exact h4
  · unfold E6
    rw [v.1 35 (by decide), v.1 36 (by decide), v.1 34 (by decide), v.1 39 (by decide), v.1 40 (by decide), v.1 38 (by decide), v.1 43 (by decide), v.1 44 (by decide), v.1 42 (by decide), v.1 47 (by decide), v.1 48 (by decide), v.1 46 (by decide), v.1 88 (by decide), v.1 89 (by decide), v.1 87 (by decide), v.1 90 (by decide)]
    exact h6
theorem wa_e {M : Mem} {a b c : Nat} {g t : Nat → Int32} (h1 : c ≠ a) (h2 : c ≠ b) : (wa (wa M a g) b t).1 c = M.1 c := by rw [rdb h2, rdb h1]
theorem anyS_vw {M N : Mem} (h : Vw M N) (C st : Nat → Nat) (m j : Nat) : ∀ k s, anyS N C st m j k s = anyS M C st m j k s
  | 0, _ => rfl
  | k + 1, s => by rw [anyS, anyS, mayB_vw h, anyS_vw h C st m j k]
theorem stk_vw {M N : Mem} (h : Vw M N) (C st : Nat → Nat) (m : Nat) : ∀ k j, stk N C st m k j = stk M C st m k j
  | 0, _ => rfl
  | k + 1, j => by rw [stk, stk, h.1 66 (by decide), anyS_vw h, stk_vw h C st m k]
set_option maxRecDepth 100000 in
set_option maxHeartbeats 2000000 in
theorem pr_may {X : Mem → Prop} {x y z : Int32} (h7 : ∀ M, X M → G7 M) (hX : ∀ M N, X M → Vw M N → N.1 29 = M.1 29 → N.1 30 = M.1 30 → N.1 86 = M.1 86 → N.1 62 = M.1 62 → X N) : Pair (INV X) mX11_may mX12_may [.int x, .int y, .int z] := by
  intro M hM
  obtain ⟨h1, h2, ⟨n, t, k, w, h3, h5⟩, h4, h6, hXM⟩ := id hM
  obtain ⟨g1, g2, g3, g4, i1, i2, i3, i4, i5, i6, i7, i8⟩ := id h3
  obtain ⟨b1, b2, b3, b4, b5, b6⟩ := id h2
  obtain ⟨a0, a1, a2, a3, a4, a5, a6, a7, a8, a9, a10, a11, a12, a13, a14, a15, a16, a17, a18, a19⟩ := id h1
  obtain ⟨C, st, m, L, nn, hW⟩ := INV_iw hM (h7 M hXM)
  have hn12 := hW.2.2.2.1.1
  refine tY_may hW (fun q => ⟨_, rfl, ?_⟩) (fun j f u hj hf hu ex ey ez g s => ⟨_, rfl, ?_⟩)
  · exact tM_may hW (fun _ => ⟨rfl, hM⟩) (fun j f u hj hf hu ex ey ez => absurd ⟨⟨j, hj, ex⟩, ⟨f, hf, ey⟩, ⟨u, hu, ez⟩⟩ q)
  · have v1 : Vw M (wa (wa M 28 g) 24 s) := vwC
    have i1 : INV X (wa (wa M 28 g) 24 s) := INV_vw hM v1 (wa_e (by decide) (by decide)) (wa_e (by decide) (by decide)) (hX _ _ hXM v1 (wa_e (by decide) (by decide)) (wa_e (by decide) (by decide)) (wa_e (by decide) (by decide)) (wa_e (by decide) (by decide)))
    refine tM_may (hW.vw v1) (fun q => absurd ⟨⟨j, hj, ex⟩, ⟨f, hf, ey⟩, ⟨u, hu, ez⟩⟩ q) (fun j2 f2 u2 hj2 hf2 hu2 e1 e2 e3 g2 s2 => ⟨?_, INV_vw i1 vwR (wa_e (by decide) (by decide)) (wa_e (by decide) (by decide)) (hX _ _ i1.2.2.2.2.2 vwR (wa_e (by decide) (by decide)) (wa_e (by decide) (by decide)) (wa_e (by decide) (by decide)) (wa_e (by decide) (by decide)))⟩)
    have r1 := (nI_eq (by omega) (by omega)).mp (ex.symm.trans e1)
    have r2 := (nI_eq (by omega) (by omega)).mp (ey.symm.trans e2)
    have r3 := (nI_eq (by omega) (by omega)).mp (ez.symm.trans e3)
    subst r1; subst r2; subst r3
    rw [mayB_vw v1]
set_option maxRecDepth 100000 in
set_option maxHeartbeats 2000000 in
theorem pr_meet {X : Mem → Prop} {x y z ww vv : Int32} (h7 : ∀ M, X M → G7 M) (hX : ∀ M N, X M → Vw M N → N.1 29 = M.1 29 → N.1 30 = M.1 30 → N.1 86 = M.1 86 → N.1 62 = M.1 62 → X N) : Pair (INV X) mX11_meet mX12_meet [.int x, .int y, .int z, .int ww, .int vv] := by
  intro M hM
  obtain ⟨h1, h2, ⟨n, t, k, w, h3, h5⟩, h4, h6, hXM⟩ := id hM
  obtain ⟨g1, g2, g3, g4, i1, i2, i3, i4, i5, i6, i7, i8⟩ := id h3
  obtain ⟨b1, b2, b3, b4, b5, b6⟩ := id h2
  obtain ⟨a0, a1, a2, a3, a4, a5, a6, a7, a8, a9, a10, a11, a12, a13, a14, a15, a16, a17, a18, a19⟩ := id h1
  obtain ⟨C, st, m, L, nn, hW⟩ := INV_iw hM (h7 M hXM)
  have hn12 := hW.2.2.2.1.1
  have ad : ∀ j f o g u : Nat, j < nn → o < nn → f < 6 → g < 6 → u < 4 → j ≠ o → x = nI j → y = nI f → z = nI o → ww = nI g → vv = nI u → Ix x nn ∧ Ix z nn ∧ x ≠ z ∧ Ix y 6 ∧ Ix ww 6 ∧ Ix vv 4 := fun j f o g u hj ho hf hg hu hjo e1 e2 e3 e4 e5 => ⟨⟨j, hj, e1⟩, ⟨o, ho, e3⟩, fun q => hjo ((nI_eq (by omega) (by omega)).mp (e1.symm.trans (q.trans e3))), ⟨f, hf, e2⟩, ⟨g, hg, e4⟩, ⟨u, hu, e5⟩⟩
  refine tY_meet hW (fun q => ⟨_, rfl, ?_⟩) (fun j f o g u hj ho hf hg hu hjo e1 e2 e3 e4 e5 g2 s => ⟨_, rfl, ?_⟩)
  · exact tM_meet hW (fun _ => ⟨rfl, hM⟩) (fun j f o g u hj ho hf hg hu hjo e1 e2 e3 e4 e5 => absurd (ad j f o g u hj ho hf hg hu hjo e1 e2 e3 e4 e5) q)
  · have v1 : Vw M (wa (wa M 28 g2) 24 s) := vwC
    have i1 : INV X (wa (wa M 28 g2) 24 s) := INV_vw hM v1 (wa_e (by decide) (by decide)) (wa_e (by decide) (by decide)) (hX _ _ hXM v1 (wa_e (by decide) (by decide)) (wa_e (by decide) (by decide)) (wa_e (by decide) (by decide)) (wa_e (by decide) (by decide)))
    refine tM_meet (hW.vw v1) (fun q => absurd (ad j f o g u hj ho hf hg hu hjo e1 e2 e3 e4 e5) q) (fun j2 f2 o2 k2 u2 a1 a2 a3 a4 a5 a6 d1 d2 d3 d4 d5 g3 s3 => ⟨?_, INV_vw i1 vwR (wa_e (by decide) (by decide)) (wa_e (by decide) (by decide)) (hX _ _ i1.2.2.2.2.2 vwR (wa_e (by decide) (by decide)) (wa_e (by decide) (by decide)) (wa_e (by decide) (by decide)) (wa_e (by decide) (by decide)))⟩)
    have r1 := (nI_eq (by omega) (by omega)).mp (e1.symm.trans d1)
    have r2 := (nI_eq (by omega) (by omega)).mp (e2.symm.trans d2)
    have r3 := (nI_eq (by omega) (by omega)).mp (e3.symm.trans d3)
    have r4 := (nI_eq (by omega) (by omega)).mp (e4.symm.trans d4)
    have r5 := (nI_eq (by omega) (by omega)).mp (e5.symm.trans d5)
    subst r1; subst r2; subst r3; subst r4; subst r5
    rw [meetB_vw v1]
set_option maxRecDepth 100000 in
set_option maxHeartbeats 2000000 in
theorem pr_stuck {X : Mem → Prop} (h7 : ∀ M, X M → G7 M) (hX : ∀ M N, X M → Vw M N → N.1 29 = M.1 29 → N.1 30 = M.1 30 → N.1 86 = M.1 86 → N.1 62 = M.1 62 → X N) : Pair (INV X) mX11_stuck mX12_stuck [] := by
  intro M hM
  obtain ⟨h1, h2, ⟨n, t, k, w, h3, h5⟩, h4, h6, hXM⟩ := id hM
  obtain ⟨g1, g2, g3, g4, i1, i2, i3, i4, i5, i6, i7, i8⟩ := id h3
  obtain ⟨b1, b2, b3, b4, b5, b6⟩ := id h2
  obtain ⟨a0, a1, a2, a3, a4, a5, a6, a7, a8, a9, a10, a11, a12, a13, a14, a15, a16, a17, a18, a19⟩ := id h1
  obtain ⟨C, st, m, L, nn, hW⟩ := INV_iw hM (h7 M hXM)
  refine tY_stuck hW (fun g s => ⟨_, rfl, ?_⟩)
  have v1 : Vw M (wa (wa M 28 g) 24 s) := vwC
  have i1 : INV X (wa (wa M 28 g) 24 s) := INV_vw hM v1 (wa_e (by decide) (by decide)) (wa_e (by decide) (by decide)) (hX _ _ hXM v1 (wa_e (by decide) (by decide)) (wa_e (by decide) (by decide)) (wa_e (by decide) (by decide)) (wa_e (by decide) (by decide)))
  refine tM_stuck (hW.vw v1) (fun g2 s2 => ⟨?_, INV_vw i1 vwR (wa_e (by decide) (by decide)) (wa_e (by decide) (by decide)) (hX _ _ i1.2.2.2.2.2 vwR (wa_e (by decide) (by decide)) (wa_e (by decide) (by decide)) (wa_e (by decide) (by decide)) (wa_e (by decide) (by decide)))⟩)
  rw [stk_vw v1]

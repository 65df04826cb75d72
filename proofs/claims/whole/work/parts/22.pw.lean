theorem updP {P : Int32 → Prop} {f : Nat → Int32} {i : Nat} {x : Int32} (h : ∀ j, P (f j)) (hx : P x) : ∀ j, P (upd f i x j) := by
  intro j
  by_cases hj : j = i
  · rw [hj, updS]; exact hx
  · rw [updN hj]; exact h j
set_option maxRecDepth 100000 in
set_option maxHeartbeats 2000000 in
theorem pr_takes {X : Mem → Prop} {x y z : Int32} (hX : ∀ M j v, X M → X (wr (wr M 6 j v) 68 j v)) : Pair (INV X) mX11_takes mX12_takes [.int x, .int y, .int z] := by
  intro M hM
  obtain ⟨h1, h2, ⟨n, t, k, w, h3, h5⟩, h4, h6, hXM⟩ := id hM
  obtain ⟨g1, g2, g3, g4, i1, i2, i3, i4, i5, i6, i7, i8⟩ := id h3
  obtain ⟨b1, b2, b3, b4, b5, b6⟩ := id h2
  obtain ⟨a0, a1, a2, a3, a4, a5, a6, a7, a8, a9, a10, a11, a12, a13, a14, a15, a16, a17, a18, a19⟩ := id h1
  refine tY_takes i1 g1 (fun q => ⟨_, rfl, ?_⟩) (fun j u v hj hu hv ex ey ez => ⟨_, rfl, ?_⟩)
  · exact tM_takes i2 g1 (fun _ => ⟨rfl, hM⟩) (fun j u hj hu e1 e2 e3 => absurd ⟨⟨j, hj, e1⟩, ⟨u, hu, e2⟩, e3⟩ q)
  · refine tM_takes (n := n) (by simp [wr, i2]) g1 (fun q => absurd ⟨⟨j, hj, ex⟩, ⟨u, hu, ey⟩, ⟨v, hv, ez⟩⟩ q) (fun j2 u2 hj2 hu2 e1 e2 _ => ?_)
    have ej := (nI_eq (by omega) (by omega)).mp (ex.symm.trans e1)
    have eu := (nI_eq (by omega) (by omega)).mp (ey.symm.trans e2)
    subst ej; subst eu
    refine ⟨rfl, ⟨by simp [wr, wa, a0], by simp [wr, wa, a1], by simp [wr, wa, a2], by simp [wr, wa, a3], by simp [wr, wa, a4], by simp [wr, wa, a5], by simp [wr, wa, a6], by simp [wr, wa, a7], by simp [wr, wa, a8], by simp [wr, wa, a9], by simp [wr, wa, a10], by simp [wr, wa, a11], by simp [wr, wa, a12], by simp [wr, wa, a13], by simp [wr, wa, a14], by simp [wr, wa, a15], by simp [wr, wa, a16], by simp [wr, wa, a17], by simp [wr, wa, a18], by simp [wr, wa, a19]⟩, ⟨by simp [wr, wa, upd, b1], by simp [wr, wa, upd, b2], by simp [wr, wa, upd, b3], by simp [wr, wa, upd, b4], by simp [wr, wa, upd, b5], by simpa [wr, wa, upd] using b6⟩, ⟨n, t, k, w, ⟨g1, g2, g3, g4, by simp [wr, wa, upd, i1], by simp [wr, wa, upd, i2], by simp [wr, wa, upd, i3], by simp [wr, wa, upd, i4], by simp [wr, wa, upd, i5], by simp [wr, wa, upd, i6], by simp [wr, wa, upd, i7], by simp [wr, wa, upd, i8]⟩, ?_⟩, ?_, ?_, ?_⟩
    · simpa [E5, wr, wa] using h5
    · exact ⟨by simpa [wr] using h4.1, by simpa [wr] using updP (P := fun q => ∃ v : Nat, v ≤ 50 ∧ q = nI v) h4.2.1 ⟨v, by omega, ez⟩, by simpa [wr] using h4.2.2⟩
    · simpa [E6, wr, wa] using h6
    · exact hX _ _ _ hXM
set_option maxRecDepth 100000 in
set_option maxHeartbeats 2000000 in
theorem pr_price {X : Mem → Prop} {x y : Int32} (hX : ∀ M j v, X M → X (wr (wr M 50 j v) 91 j v)) : Pair (INV X) mX11_price mX12_price [.int x, .int y] := by
  intro M hM
  obtain ⟨h1, h2, ⟨n, t, k, w, h3, h5⟩, h4, h6, hXM⟩ := id hM
  obtain ⟨g1, g2, g3, g4, i1, i2, i3, i4, i5, i6, i7, i8⟩ := id h3
  obtain ⟨b1, b2, b3, b4, b5, b6⟩ := id h2
  obtain ⟨a0, a1, a2, a3, a4, a5, a6, a7, a8, a9, a10, a11, a12, a13, a14, a15, a16, a17, a18, a19⟩ := id h1
  refine tY_price (fun q => ⟨_, rfl, ?_⟩) (fun u v hu hv ex ey => ⟨_, rfl, ?_⟩)
  · exact tM_price (fun _ => ⟨rfl, hM⟩) (fun u hu e1 e2 => absurd ⟨⟨u, hu, e1⟩, e2⟩ q)
  · refine tM_price (fun q => absurd ⟨⟨u, hu, ex⟩, ⟨v, hv, ey⟩⟩ q) (fun u2 hu2 e1 _ => ?_)
    have eu := (nI_eq (by omega) (by omega)).mp (ex.symm.trans e1)
    subst eu
    refine ⟨rfl, ⟨by simp [wr, wa, a0], by simp [wr, wa, a1], by simp [wr, wa, a2], by simp [wr, wa, a3], by simp [wr, wa, a4], by simp [wr, wa, a5], by simp [wr, wa, a6], by simp [wr, wa, a7], by simp [wr, wa, a8], by simp [wr, wa, a9], by simp [wr, wa, a10], by simp [wr, wa, a11], by simp [wr, wa, a12], by simp [wr, wa, a13], by simp [wr, wa, a14], by simp [wr, wa, a15], by simp [wr, wa, a16], by simp [wr, wa, a17], by simp [wr, wa, a18], by simp [wr, wa, a19]⟩, ⟨by simp [wr, wa, upd, b1], by simp [wr, wa, upd, b2], by simp [wr, wa, upd, b3], by simp [wr, wa, upd, b4], by simp [wr, wa, upd, b5], by simpa [wr, wa, upd] using b6⟩, ⟨n, t, k, w, ⟨g1, g2, g3, g4, by simp [wr, wa, upd, i1], by simp [wr, wa, upd, i2], by simp [wr, wa, upd, i3], by simp [wr, wa, upd, i4], by simp [wr, wa, upd, i5], by simp [wr, wa, upd, i6], by simp [wr, wa, upd, i7], by simp [wr, wa, upd, i8]⟩, ?_⟩, ?_, ?_, ?_⟩
    · simpa [E5, wr, wa] using h5
    · simpa [E4, wr, wa] using h4
    · simpa [E6, wr, wa] using h6
    · exact hX _ _ _ hXM
set_option maxRecDepth 100000 in
set_option maxHeartbeats 2000000 in
theorem pr_falls {X : Mem → Prop} {x y : Int32} (hX : ∀ M j v, X M → X (wr (wr M 61 j v) 92 j v)) : Pair (INV X) mX11_falls mX12_falls [.int x, .int y] := by
  intro M hM
  obtain ⟨h1, h2, ⟨n, t, k, w, h3, h5⟩, h4, h6, hXM⟩ := id hM
  obtain ⟨g1, g2, g3, g4, i1, i2, i3, i4, i5, i6, i7, i8⟩ := id h3
  obtain ⟨b1, b2, b3, b4, b5, b6⟩ := id h2
  obtain ⟨a0, a1, a2, a3, a4, a5, a6, a7, a8, a9, a10, a11, a12, a13, a14, a15, a16, a17, a18, a19⟩ := id h1
  refine tY_falls (fun q => ⟨_, rfl, ?_⟩) (fun u v hu hv ex ey => ⟨_, rfl, ?_⟩)
  · exact tM_falls (fun _ => ⟨rfl, hM⟩) (fun u hu e1 e2 => absurd ⟨⟨u, hu, e1⟩, e2⟩ q)
  · refine tM_falls (fun q => absurd ⟨⟨u, hu, ex⟩, ⟨v, hv, ey⟩⟩ q) (fun u2 hu2 e1 _ => ?_)
    have eu := (nI_eq (by omega) (by omega)).mp (ex.symm.trans e1)
    subst eu
    refine ⟨rfl, ⟨by simp [wr, wa, a0], by simp [wr, wa, a1], by simp [wr, wa, a2], by simp [wr, wa, a3], by simp [wr, wa, a4], by simp [wr, wa, a5], by simp [wr, wa, a6], by simp [wr, wa, a7], by simp [wr, wa, a8], by simp [wr, wa, a9], by simp [wr, wa, a10], by simp [wr, wa, a11], by simp [wr, wa, a12], by simp [wr, wa, a13], by simp [wr, wa, a14], by simp [wr, wa, a15], by simp [wr, wa, a16], by simp [wr, wa, a17], by simp [wr, wa, a18], by simp [wr, wa, a19]⟩, ⟨by simp [wr, wa, upd, b1], by simp [wr, wa, upd, b2], by simp [wr, wa, upd, b3], by simp [wr, wa, upd, b4], by simp [wr, wa, upd, b5], by simpa [wr, wa, upd] using b6⟩, ⟨n, t, k, w, ⟨g1, g2, g3, g4, by simp [wr, wa, upd, i1], by simp [wr, wa, upd, i2], by simp [wr, wa, upd, i3], by simp [wr, wa, upd, i4], by simp [wr, wa, upd, i5], by simp [wr, wa, upd, i6], by simp [wr, wa, upd, i7], by simp [wr, wa, upd, i8]⟩, ?_⟩, ?_, ?_, ?_⟩
    · simpa [E5, wr, wa] using h5
    · simpa [E4, wr, wa] using h4
    · simpa [E6, wr, wa] using h6
    · exact hX _ _ _ hXM
set_option maxRecDepth 100000 in
set_option maxHeartbeats 2000000 in
theorem pr_lame {X : Mem → Prop} {x z : Int32} (hz : z = 0 ∨ z = 1) (hX : ∀ M j v, X M → X (wr (wr (wr (wr M 29 8 0) 5 j v) 66 j v) 62 12 0)) : Pair (INV X) mX11_lame mX12_lame [.int x, .int z] := by
  intro M hM
  obtain ⟨h1, h2, ⟨n, t, k, w, h3, h5⟩, h4, h6, hXM⟩ := id hM
  obtain ⟨g1, g2, g3, g4, i1, i2, i3, i4, i5, i6, i7, i8⟩ := id h3
  obtain ⟨b1, b2, b3, b4, b5, b6⟩ := id h2
  obtain ⟨a0, a1, a2, a3, a4, a5, a6, a7, a8, a9, a10, a11, a12, a13, a14, a15, a16, a17, a18, a19⟩ := id h1
  refine tY_lame i1 g1 hz (fun q => ⟨_, rfl, ?_⟩) (fun j hj ex => ⟨_, rfl, ?_⟩)
  · exact tM_lame i2 g1 hz (fun _ => ⟨rfl, hM⟩) (fun j hj e1 => absurd ⟨j, hj, e1⟩ q)
  · refine tM_lame (n := n) (by simp [wr, i2]) g1 hz (fun q => absurd ⟨j, hj, ex⟩ q) (fun j2 hj2 e1 => ?_)
    have ej := (nI_eq (by omega) (by omega)).mp (ex.symm.trans e1)
    subst ej
    refine ⟨rfl, ⟨by simp [wr, wa, a0], by simp [wr, wa, a1], by simp [wr, wa, a2], by simp [wr, wa, a3], by simp [wr, wa, a4], by simp [wr, wa, a5], by simp [wr, wa, a6], by simp [wr, wa, a7], by simp [wr, wa, a8], by simp [wr, wa, a9], by simp [wr, wa, a10], by simp [wr, wa, a11], by simp [wr, wa, a12], by simp [wr, wa, a13], by simp [wr, wa, a14], by simp [wr, wa, a15], by simp [wr, wa, a16], by simp [wr, wa, a17], by simp [wr, wa, a18], by simp [wr, wa, a19]⟩, ⟨by simp [wr, wa, upd, b1], by simp [wr, wa, upd, b2], by simp [wr, wa, upd, b3], by simp [wr, wa, upd, b4], by simp [wr, wa, upd, b5], by simp [wr, upd]⟩, ⟨n, t, k, w, ⟨g1, g2, g3, g4, by simp [wr, wa, upd, i1], by simp [wr, wa, upd, i2], by simp [wr, wa, upd, i3], by simp [wr, wa, upd, i4], by simp [wr, wa, upd, i5], by simp [wr, wa, upd, i6], by simp [wr, wa, upd, i7], by simp [wr, wa, upd, i8]⟩, ?_⟩, ?_, ?_, ?_⟩
    · simpa [E5, wr, wa] using h5
    · exact ⟨by simpa [wr] using updP (P := fun q => q = 0 ∨ q = 1) h4.1 hz, by simpa [wr] using h4.2.1, by simpa [wr] using h4.2.2⟩
    · simpa [E6, wr, wa] using h6
    · exact hX _ _ _ hXM
set_option maxRecDepth 100000 in
set_option maxHeartbeats 2000000 in
theorem pr_field {X : Mem → Prop} {x y z : Int32} (hX : ∀ M j v u, X M → X (wr (wr (wr (wr (wr (wr M 29 8 0) 9 j v) 10 j u) 69 j v) 70 j u) 62 12 0)) : Pair (INV X) mX11_field mX12_field [.int x, .int y, .int z] := by
  intro M hM
  obtain ⟨h1, h2, ⟨n, t, k, w, h3, h5⟩, h4, h6, hXM⟩ := id hM
  obtain ⟨g1, g2, g3, g4, i1, i2, i3, i4, i5, i6, i7, i8⟩ := id h3
  obtain ⟨b1, b2, b3, b4, b5, b6⟩ := id h2
  obtain ⟨a0, a1, a2, a3, a4, a5, a6, a7, a8, a9, a10, a11, a12, a13, a14, a15, a16, a17, a18, a19⟩ := id h1
  refine tY_field (fun q => ⟨_, rfl, ?_⟩) (fun j u v hj hu hv ex ey ez => ⟨_, rfl, ?_⟩)
  · exact tM_field (fun _ => ⟨rfl, hM⟩) (fun j hj e1 e2 e3 => absurd ⟨⟨j, hj, e1⟩, e2, e3⟩ q)
  · refine tM_field (fun q => absurd ⟨⟨j, hj, ex⟩, ⟨u, hu, ey⟩, ⟨v, hv, ez⟩⟩ q) (fun j2 hj2 e1 _ _ => ?_)
    have ej := (nI_eq (by omega) (by omega)).mp (ex.symm.trans e1)
    subst ej
    refine ⟨rfl, ⟨by simp [wr, wa, a0], by simp [wr, wa, a1], by simp [wr, wa, a2], by simp [wr, wa, a3], by simp [wr, wa, a4], by simp [wr, wa, a5], by simp [wr, wa, a6], by simp [wr, wa, a7], by simp [wr, wa, a8], by simp [wr, wa, a9], by simp [wr, wa, a10], by simp [wr, wa, a11], by simp [wr, wa, a12], by simp [wr, wa, a13], by simp [wr, wa, a14], by simp [wr, wa, a15], by simp [wr, wa, a16], by simp [wr, wa, a17], by simp [wr, wa, a18], by simp [wr, wa, a19]⟩, ⟨by simp [wr, wa, upd, b1], by simp [wr, wa, upd, b2], by simp [wr, wa, upd, b3], by simp [wr, wa, upd, b4], by simp [wr, wa, upd, b5], by simp [wr, upd]⟩, ⟨n, t, k, w, ⟨g1, g2, g3, g4, by simp [wr, wa, upd, i1], by simp [wr, wa, upd, i2], by simp [wr, wa, upd, i3], by simp [wr, wa, upd, i4], by simp [wr, wa, upd, i5], by simp [wr, wa, upd, i6], by simp [wr, wa, upd, i7], by simp [wr, wa, upd, i8]⟩, ?_⟩, ?_, ?_, ?_⟩
    · simpa [E5, wr, wa] using h5
    · exact ⟨by simpa [wr] using h4.1, by simpa [wr] using h4.2.1, by simpa [wr] using updP (P := fun q => ∃ v : Nat, v ≤ 6 ∧ q = nI v) h4.2.2 ⟨u, by omega, ey⟩⟩
    · simpa [E6, wr, wa] using h6
    · exact hX _ _ _ _ hXM
set_option maxRecDepth 100000 in
set_option maxHeartbeats 2000000 in
theorem pr_shut {X : Mem → Prop} {x y : Int32} (hX : ∀ M j v, X M → X (wr (wr (wr (wr M 29 8 0) 11 j v) 71 j v) 62 12 0)) : Pair (INV X) mX11_shut mX12_shut [.int x, .int y] := by
  intro M hM
  obtain ⟨h1, h2, ⟨n, t, k, w, h3, h5⟩, h4, h6, hXM⟩ := id hM
  obtain ⟨g1, g2, g3, g4, i1, i2, i3, i4, i5, i6, i7, i8⟩ := id h3
  obtain ⟨b1, b2, b3, b4, b5, b6⟩ := id h2
  obtain ⟨a0, a1, a2, a3, a4, a5, a6, a7, a8, a9, a10, a11, a12, a13, a14, a15, a16, a17, a18, a19⟩ := id h1
  refine tY_shut (fun q => ⟨_, rfl, ?_⟩) (fun j u hj hu ex ey => ⟨_, rfl, ?_⟩)
  · exact tM_shut (fun _ => ⟨rfl, hM⟩) (fun j hj e1 e2 => absurd ⟨⟨j, hj, e1⟩, e2⟩ q)
  · refine tM_shut (fun q => absurd ⟨⟨j, hj, ex⟩, ⟨u, hu, ey⟩⟩ q) (fun j2 hj2 e1 _ => ?_)
    have ej := (nI_eq (by omega) (by omega)).mp (ex.symm.trans e1)
    subst ej
    refine ⟨rfl, ⟨by simp [wr, wa, a0], by simp [wr, wa, a1], by simp [wr, wa, a2], by simp [wr, wa, a3], by simp [wr, wa, a4], by simp [wr, wa, a5], by simp [wr, wa, a6], by simp [wr, wa, a7], by simp [wr, wa, a8], by simp [wr, wa, a9], by simp [wr, wa, a10], by simp [wr, wa, a11], by simp [wr, wa, a12], by simp [wr, wa, a13], by simp [wr, wa, a14], by simp [wr, wa, a15], by simp [wr, wa, a16], by simp [wr, wa, a17], by simp [wr, wa, a18], by simp [wr, wa, a19]⟩, ⟨by simp [wr, wa, upd, b1], by simp [wr, wa, upd, b2], by simp [wr, wa, upd, b3], by simp [wr, wa, upd, b4], by simp [wr, wa, upd, b5], by simp [wr, upd]⟩, ⟨n, t, k, w, ⟨g1, g2, g3, g4, by simp [wr, wa, upd, i1], by simp [wr, wa, upd, i2], by simp [wr, wa, upd, i3], by simp [wr, wa, upd, i4], by simp [wr, wa, upd, i5], by simp [wr, wa, upd, i6], by simp [wr, wa, upd, i7], by simp [wr, wa, upd, i8]⟩, ?_⟩, ?_, ?_, ?_⟩
    · simpa [E5, wr, wa] using h5
    · simpa [E4, wr, wa] using h4
    · simpa [E6, wr, wa] using h6
    · exact hX _ _ _ hXM
set_option maxRecDepth 100000 in
set_option maxHeartbeats 2000000 in
theorem pr_gate {X : Mem → Prop} {x y z : Int32} (hz : z = 0 ∨ z = 1) (hX : ∀ M j i v, X M → X (wr (wr (wr (wr (wr (wr M 29 8 0) 12 j v) 12 i v) 72 j v) 72 i v) 62 12 0)) : Pair (INV X) mX11_gate mX12_gate [.int x, .int y, .int z] := by
  intro M hM
  obtain ⟨h1, h2, ⟨n, t, k, w, h3, h5⟩, h4, h6, hXM⟩ := id hM
  obtain ⟨g1, g2, g3, g4, i1, i2, i3, i4, i5, i6, i7, i8⟩ := id h3
  obtain ⟨b1, b2, b3, b4, b5, b6⟩ := id h2
  obtain ⟨a0, a1, a2, a3, a4, a5, a6, a7, a8, a9, a10, a11, a12, a13, a14, a15, a16, a17, a18, a19⟩ := id h1
  refine tY_gate hz (fun q => ⟨_, rfl, ?_⟩) (fun u v hu hv ex ey hne => ⟨_, rfl, ?_⟩)
  · exact tM_gate hz (fun _ => ⟨rfl, hM⟩) (fun u v hu hv e1 e2 e3 => absurd ⟨⟨u, hu, e1⟩, ⟨v, hv, e2⟩, e3⟩ q)
  · refine tM_gate hz (fun q => absurd ⟨⟨u, hu, ex⟩, ⟨v, hv, ey⟩, fun e => hne ((nI_eq (by omega) (by omega)).mp (ex.symm.trans (e.trans ey)))⟩ q) (fun u2 v2 hu2 hv2 e1 e2 _ => ?_)
    have eu := (nI_eq (by omega) (by omega)).mp (ex.symm.trans e1)
    have ev := (nI_eq (by omega) (by omega)).mp (ey.symm.trans e2)
    subst eu; subst ev
    refine ⟨rfl, ⟨by simp [wr, wa, a0], by simp [wr, wa, a1], by simp [wr, wa, a2], by simp [wr, wa, a3], by simp [wr, wa, a4], by simp [wr, wa, a5], by simp [wr, wa, a6], by simp [wr, wa, a7], by simp [wr, wa, a8], by simp [wr, wa, a9], by simp [wr, wa, a10], by simp [wr, wa, a11], by simp [wr, wa, a12], by simp [wr, wa, a13], by simp [wr, wa, a14], by simp [wr, wa, a15], by simp [wr, wa, a16], by simp [wr, wa, a17], by simp [wr, wa, a18], by simp [wr, wa, a19]⟩, ⟨by simp [wr, wa, upd, b1], by simp [wr, wa, upd, b2], by simp [wr, wa, upd, b3], by simp [wr, wa, upd, b4], by simp [wr, wa, upd, b5], by simp [wr, upd]⟩, ⟨n, t, k, w, ⟨g1, g2, g3, g4, by simp [wr, wa, upd, i1], by simp [wr, wa, upd, i2], by simp [wr, wa, upd, i3], by simp [wr, wa, upd, i4], by simp [wr, wa, upd, i5], by simp [wr, wa, upd, i6], by simp [wr, wa, upd, i7], by simp [wr, wa, upd, i8]⟩, ?_⟩, ?_, ?_, ?_⟩
    · simpa [E5, wr, wa] using h5
    · simpa [E4, wr, wa] using h4
    · simpa [E6, wr, wa] using h6
    · exact hX _ _ _ _ hXM
set_option maxRecDepth 100000 in
set_option maxHeartbeats 2000000 in
theorem pr_end {X : Mem → Prop} {x : Int32} (hX : ∀ M v, X M → X (wr (wr M 13 1 v) 62 26 v)) : Pair (INV X) mX11_end mX12_end [.int x] := by
  intro M hM
  obtain ⟨h1, h2, ⟨n, t, k, w, h3, h5⟩, h4, h6, hXM⟩ := id hM
  obtain ⟨g1, g2, g3, g4, i1, i2, i3, i4, i5, i6, i7, i8⟩ := id h3
  obtain ⟨b1, b2, b3, b4, b5, b6⟩ := id h2
  obtain ⟨a0, a1, a2, a3, a4, a5, a6, a7, a8, a9, a10, a11, a12, a13, a14, a15, a16, a17, a18, a19⟩ := id h1
  refine tY_end i3 g2 (fun q => ⟨_, rfl, ?_⟩) (fun j hj ex => ⟨_, rfl, ?_⟩)
  · exact tM_end i4 g2 (fun _ => ⟨rfl, hM⟩) (fun e => absurd e q)
  · refine tM_end (n := t) (by simp [wr, i4]) g2 (fun q => absurd ⟨j, hj, ex⟩ q) (fun _ => ?_)
    refine ⟨rfl, ⟨by simp [wr, wa, a0], by simp [wr, wa, a1], by simp [wr, wa, a2], by simp [wr, wa, a3], by simp [wr, wa, a4], by simp [wr, wa, a5], by simp [wr, wa, a6], by simp [wr, wa, a7], by simp [wr, wa, a8], by simp [wr, wa, a9], by simp [wr, wa, a10], by simp [wr, wa, a11], by simp [wr, wa, a12], by simp [wr, wa, a13], by simp [wr, wa, a14], by simp [wr, wa, a15], by simp [wr, wa, a16], by simp [wr, wa, a17], by simp [wr, wa, a18], by simp [wr, wa, a19]⟩, ⟨by simp [wr, wa, upd, b1], by simp [wr, wa, upd, b2], by simp [wr, wa, upd, b3], by simp [wr, wa, upd, b4], by simp [wr, wa, upd, b5], by simpa [wr, wa, upd] using b6⟩, ⟨n, j, k, w, ⟨g1, by omega, g3, g4, by simp [wr, wa, upd, i1], by simp [wr, wa, upd, i2], by simp [wr, upd, ex], by simp [wr, upd, ex], by simp [wr, wa, upd, i5], by simp [wr, wa, upd, i6], by simp [wr, wa, upd, i7], by simp [wr, wa, upd, i8]⟩, ?_⟩, ?_, ?_, ?_⟩
    · simpa [E5, wr, wa] using h5
    · simpa [E4, wr, wa] using h4
    · simpa [E6, wr, wa] using h6
    · exact hX _ _ hXM
set_option maxRecDepth 100000 in
set_option maxHeartbeats 2000000 in
theorem pr_feed {X : Mem → Prop} {x1 x2 x3 x4 x5 : Int32} (hX : ∀ M f v, X M → X (wr (wa (wr (wa M 14 f) 13 1 v) 81 f) 62 26 v)) : Pair (INV X) mX11_feed mX12_feed [.int x1, .int x2, .int x3, .int x4, .int x5] := by
  intro M hM
  obtain ⟨h1, h2, ⟨n, t, k, w, h3, h5⟩, h4, h6, hXM⟩ := id hM
  obtain ⟨g1, g2, g3, g4, i1, i2, i3, i4, i5, i6, i7, i8⟩ := id h3
  obtain ⟨b1, b2, b3, b4, b5, b6⟩ := id h2
  obtain ⟨a0, a1, a2, a3, a4, a5, a6, a7, a8, a9, a10, a11, a12, a13, a14, a15, a16, a17, a18, a19⟩ := id h1
  refine tY_feed i3 g2 (fun q => ⟨_, rfl, ?_⟩) (fun hq => ⟨_, rfl, ?_⟩)
  · exact tM_feed i4 g2 (fun _ => ⟨rfl, hM⟩) (fun e => absurd e q)
  · refine tM_feed (n := t) (by simp [wr, wa, i4]) g2 (fun q => absurd hq q) (fun _ => ?_)
    have ef : (wr (wa M 14 (ap20 (M.1 14) t x1 x2 x3 x4 x5)) 13 1 (nI (t + 20))).1 81 = M.1 14 := by simp [wr, wa, a10]
    rw [ef]
    refine ⟨rfl, ⟨by simp [wr, wa, a0], by simp [wr, wa, a1], by simp [wr, wa, a2], by simp [wr, wa, a3], by simp [wr, wa, a4], by simp [wr, wa, a5], by simp [wr, wa, a6], by simp [wr, wa, a7], by simp [wr, wa, a8], by simp [wr, wa, a9], by rw [rd2 (by decide), rdb (by decide), rd2 (by decide), rda, rd2 (by decide), rda], by simp [wr, wa, a11], by simp [wr, wa, a12], by simp [wr, wa, a13], by simp [wr, wa, a14], by simp [wr, wa, a15], by simp [wr, wa, a16], by simp [wr, wa, a17], by simp [wr, wa, a18], by simp [wr, wa, a19]⟩, ⟨by simp [wr, wa, upd, b1], by simp [wr, wa, upd, b2], by simp [wr, wa, upd, b3], by simp [wr, wa, upd, b4], by simp [wr, wa, upd, b5], by simpa [wr, wa, upd] using b6⟩, ⟨n, (t + 20), k, w, ⟨g1, hq, g3, g4, by simp [wr, wa, upd, i1], by simp [wr, wa, upd, i2], by simp [wr, wa, upd], by simp [wr, wa, upd], by simp [wr, wa, upd, i5], by simp [wr, wa, upd, i6], by simp [wr, wa, upd, i7], by simp [wr, wa, upd, i8]⟩, ?_⟩, ?_, ?_, ?_⟩
    · simpa [E5, wr, wa] using h5
    · simpa [E4, wr, wa] using h4
    · simpa [E6, wr, wa] using h6
    · exact hX _ _ _ hXM
set_option maxRecDepth 100000 in
set_option maxHeartbeats 2000000 in
theorem pr_horse {X : Mem → Prop} {x y : Int32} (hX : ∀ M n u v d, X M → X (wr (wr (wr (wr (wr (wr (wr (wr (wr (wr (wr (wr (wr M 29 8 0) 2 n u) 3 n v) 4 n d) 1 6 (nI (n + 1))) 60 (n * 3) d) 60 (n * 3 + 1) d) 60 (n * 3 + 2) d) 63 n u) 64 n v) 65 n d) 62 1 (nI (n + 1))) 62 12 0)) : Pair (INV X) mX11_horse mX12_horse [.int x, .int y] := by
  intro M hM
  obtain ⟨h1, h2, ⟨n, t, k, w, h3, h5⟩, h4, h6, hXM⟩ := id hM
  obtain ⟨g1, g2, g3, g4, i1, i2, i3, i4, i5, i6, i7, i8⟩ := id h3
  obtain ⟨b1, b2, b3, b4, b5, b6⟩ := id h2
  obtain ⟨a0, a1, a2, a3, a4, a5, a6, a7, a8, a9, a10, a11, a12, a13, a14, a15, a16, a17, a18, a19⟩ := id h1
  refine tY_horse i1 g1 (fun q => ⟨_, rfl, ?_⟩) (fun u v hu hv ex ey hlt => ⟨_, rfl, ?_⟩)
  · exact tM_horse i2 g1 (fun _ => ⟨rfl, hM⟩) (fun e1 e2 e3 => absurd ⟨e1, e2, e3⟩ q)
  · refine tM_horse (n := n) (by simp [wr, i2]) g1 (fun q => absurd ⟨⟨u, hu, ex⟩, ⟨v, hv, ey⟩, hlt⟩ q) (fun _ _ _ => ?_)
    have ed : (wr (wr (wr (wr (wr (wr (wr (wr M 29 8 0) 2 n x) 3 n y) 4 n (M.1 0 12)) 1 6 (nI (n + 1))) 60 (n * 3) (M.1 0 12)) 60 (n * 3 + 1) (M.1 0 12)) 60 (n * 3 + 2) (M.1 0 12)).1 62 0 = M.1 0 12 := by simp [wr, b1]
    rw [ed]
    refine ⟨rfl, ⟨by simp [wr, wa, a0], by simp [wr, wa, a1], by simp [wr, wa, a2], by simp [wr, wa, a3], by simp [wr, wa, a4], by simp [wr, wa, a5], by simp [wr, wa, a6], by simp [wr, wa, a7], by simp [wr, wa, a8], by simp [wr, wa, a9], by simp [wr, wa, a10], by simp [wr, wa, a11], by simp [wr, wa, a12], by simp [wr, wa, a13], by simp [wr, wa, a14], by simp [wr, wa, a15], by simp [wr, wa, a16], by simp [wr, wa, a17], by simp [wr, wa, a18], by simp [wr, wa, a19]⟩, ⟨by simp [wr, wa, upd, b1], by simp [wr, wa, upd, b2], by simp [wr, wa, upd, b3], by simp [wr, wa, upd, b4], by simp [wr, wa, upd, b5], by simp [wr, upd]⟩, ⟨(n + 1), t, k, w, ⟨hlt, g2, g3, g4, by simp [wr, upd], by simp [wr, upd], by simp [wr, wa, upd, i3], by simp [wr, wa, upd, i4], by simp [wr, wa, upd, i5], by simp [wr, wa, upd, i6], by simp [wr, wa, upd, i7], by simp [wr, wa, upd, i8]⟩, ?_⟩, ?_, ?_, ?_⟩
    · refine ⟨fun k hk => ?_, fun j s hj hs => ?_⟩
      · obtain ⟨j, hj, e⟩ := h5.1 k hk
        exact ⟨j, by omega, by simpa [wr] using e⟩
      · by_cases hjn : j = n
        · subst hjn
          have e1 : (wr (wr (wr (wr (wr (wr (wr (wr (wr (wr (wr (wr (wr M 29 8 0) 2 j x) 3 j y) 4 j (M.1 0 12)) 1 6 (nI (j + 1))) 60 (j * 3) (M.1 0 12)) 60 (j * 3 + 1) (M.1 0 12)) 60 (j * 3 + 2) (M.1 0 12)) 63 j x) 64 j y) 65 j (M.1 0 12)) 62 1 (nI (j + 1))) 62 12 0).1 60 (j * 3 + s) = M.1 0 12 := by
            match s, hs with
            | 0, _ => simp [wr, upd]
            | 1, _ => simp [wr, upd]
            | 2, _ => simp [wr, upd]
            | s + 3, q => exact absurd q (by omega)
          rw [e1, latF_no (fun k hk => by
            obtain ⟨j2, hj2, e⟩ := h5.1 k hk
            simp only [wr, Nat.reduceEqDiff, if_false]
            rw [e]
            exact fun q => absurd ((nI_eq (by omega) (by omega)).mp q) (by omega))]
          simp [wr, upd]
        · have hjl : j < n := by omega
          have e2 := h5.2 j s hjl hs
          have n0 : j * 3 + s ≠ n * 3 := by omega
          have n1 : j * 3 + s ≠ n * 3 + 1 := by omega
          have n2 : j * 3 + s ≠ n * 3 + 2 := by omega
          simpa [wr, upd, n0, n1, n2, hjn] using e2
    · simpa [E4, wr, wa] using h4
    · simpa [E6, wr, wa] using h6
    · exact hX _ _ _ _ _ hXM
set_option maxRecDepth 100000 in
set_option maxHeartbeats 2000000 in
theorem pr_work {X : Mem → Prop} {x y z : Int32} (hX : ∀ M w j v d c i l s, X M → X (wr (wr (wr (wr (wr (wr (wr (wr (wr (wr (wr (wr M 56 w j) 57 w v) 58 w d) 59 w c) 55 6 (nI (w + 1))) 60 i l) 96 w j) 97 w s) 98 w v) 99 w d) 100 w c) 62 50 (nI (w + 1)))) : Pair (INV X) mX11_work mX12_work [.int x, .int y, .int z] := by
  intro M hM
  obtain ⟨h1, h2, ⟨n, t, k, w, h3, h5⟩, h4, h6, hXM⟩ := id hM
  obtain ⟨g1, g2, g3, g4, i1, i2, i3, i4, i5, i6, i7, i8⟩ := id h3
  obtain ⟨b1, b2, b3, b4, b5, b6⟩ := id h2
  obtain ⟨a0, a1, a2, a3, a4, a5, a6, a7, a8, a9, a10, a11, a12, a13, a14, a15, a16, a17, a18, a19⟩ := id h1
  refine tY_work i1 g1 i7 g4 (fun q => ⟨_, rfl, ?_⟩) (fun j s hj hs ex ey hz1 hz2 hlt => ⟨_, rfl, ?_⟩)
  · refine tM_work i2 g1 i8 g4 (fun _ => ⟨rfl, hM⟩) (fun j s hj hs e1 e2 e3 e4 e5 => absurd ⟨e5, ⟨s, hs, e2⟩, j, hj, e1, ?_, ?_⟩ q)
    · rw [b1]; exact e3
    · rw [a2]; exact e4
  · refine tM_work (n := n) (w := w) (by simp [wr, i2]) g1 (by simp [wr, i8]) g4 (fun q => absurd ⟨hlt, ⟨s, hs, ey⟩, j, hj, ex, by simpa [wr, ← b1] using hz1, by simpa [wr, ← a2] using hz2⟩ q) (fun j2 s2 hj2 hs2 e1 e2 _ _ _ => ?_)
    have ej := (nI_eq (by omega) (by omega)).mp (ex.symm.trans e1)
    have es := (nI_eq (by omega) (by omega)).mp (ey.symm.trans e2)
    subst ej; subst es
    have ed : (wr (wr (wr (wr (wr (wr M 56 w (nI j)) 57 w z) 58 w (M.1 0 12)) 59 w (M.1 50 (5 + s))) 55 6 (nI (w + 1))) 60 (j * 3 + s) (if M.1 60 (j * 3 + s) < z then z else M.1 60 (j * 3 + s))).1 62 0 = M.1 0 12 := by simp [wr, b1]
    have ec : (wr (wr (wr (wr (wr (wr M 56 w (nI j)) 57 w z) 58 w (M.1 0 12)) 59 w (M.1 50 (5 + s))) 55 6 (nI (w + 1))) 60 (j * 3 + s) (if M.1 60 (j * 3 + s) < z then z else M.1 60 (j * 3 + s))).1 91 (5 + s) = M.1 50 (5 + s) := by simp [wr, a11]
    rw [ed, ec]
    refine ⟨rfl, ⟨by simp [wr, wa, a0], by simp [wr, wa, a1], by simp [wr, wa, a2], by simp [wr, wa, a3], by simp [wr, wa, a4], by simp [wr, wa, a5], by simp [wr, wa, a6], by simp [wr, wa, a7], by simp [wr, wa, a8], by simp [wr, wa, a9], by simp [wr, wa, a10], by simp [wr, wa, a11], by simp [wr, wa, a12], by simp [wr, wa, a13], by simp [wr, wa, a14], by simp [wr, wa, a15], by simp [wr, wa, a16], by simp [wr, wa, a17], by simp [wr, wa, a18], by simp [wr, wa, a19]⟩, ⟨by simp [wr, wa, upd, b1], by simp [wr, wa, upd, b2], by simp [wr, wa, upd, b3], by simp [wr, wa, upd, b4], by simp [wr, wa, upd, b5], by simpa [wr, wa, upd] using b6⟩, ⟨n, t, k, (w + 1), ⟨g1, g2, g3, hlt, by simp [wr, wa, upd, i1], by simp [wr, wa, upd, i2], by simp [wr, wa, upd, i3], by simp [wr, wa, upd, i4], by simp [wr, wa, upd, i5], by simp [wr, wa, upd, i6], by simp [wr, upd], by simp [wr, upd]⟩, ?_⟩, ?_, ?_, ?_⟩
    · refine ⟨fun k hk => ?_, fun j2 s2 hj2 hs2 => ?_⟩
      · by_cases hkw : k = w
        · subst hkw
          exact ⟨j, hj, by simp [wr, upd]⟩
        · obtain ⟨j2, hj2, e⟩ := h5.1 k (by omega)
          exact ⟨j2, hj2, by simpa [wr, upd, hkw] using e⟩
      · have e3 := h5.2 j2 s2 hj2 hs2
        have e4 : latF (M.1 65 j2) (upd (M.1 96) w (nI j)) (upd (M.1 97) w (nI s)) (upd (M.1 98) w z) (nI j2) (nI s2) w = latF (M.1 65 j2) (M.1 96) (M.1 97) (M.1 98) (nI j2) (nI s2) w := latF_cong (fun k hk => ⟨updN (by omega), updN (by omega), updN (by omega)⟩)
        have e5 : latF (M.1 65 j2) (upd (M.1 96) w (nI j)) (upd (M.1 97) w (nI s)) (upd (M.1 98) w z) (nI j2) (nI s2) (w + 1) = if nI j = nI j2 ∧ nI s = nI s2 ∧ M.1 60 (j2 * 3 + s2) < z then z else M.1 60 (j2 * 3 + s2) := by
          rw [latF, updS, updS, updS, e4, ← e3]
        simp only [wr, Nat.reduceEqDiff, if_true, if_false]
        rw [e5]
        by_cases hq : j2 * 3 + s2 = j * 3 + s
        · have r1 : j2 = j := by omega
          have r2 : s2 = s := by omega
          subst r1; subst r2
          simp [upd]
        · have hne : ¬ (nI j = nI j2 ∧ nI s = nI s2 ∧ M.1 60 (j2 * 3 + s2) < z) := fun q => hq (by rw [(nI_eq (by omega) (by omega)).mp q.1, (nI_eq (by omega) (by omega)).mp q.2.1])
          rw [if_neg hne]
          simp [upd, hq]
    · simpa [E4, wr, wa] using h4
    · simpa [E6, wr, wa] using h6
    · exact hX _ _ _ _ _ _ _ _ _ hXM

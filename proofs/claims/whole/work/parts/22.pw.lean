theorem updP {P : Int32 → Prop} {f : Nat → Int32} {i : Nat} {x : Int32} (h : ∀ j, P (f j)) (hx : P x) : ∀ j, P (upd f i x j) := by
  intro j
  by_cases hj : j = i
  · rw [hj, updS]; exact hx
  · rw [updN hj]; exact h j
set_option maxRecDepth 100000 in
set_option maxHeartbeats 2000000 in
theorem pr_takes {X : Mem → Prop} {x y z : Int32} (hX : ∀ M j v, X M → X (wr (wr M 6 j v) 68 j v)) : Pair (INV X) mX11_takes mX12_takes [.int x, .int y, .int z] := by
  intro M hM
  obtain ⟨h1, h2, ⟨n, t, k, w, h3, h5⟩, h4, h6, hXM⟩ := id hM
  obtain ⟨g1, g2, g3, g4, i1, i2, i3, i4, i5, i6, i7, i8⟩ := id h3
  obtain ⟨b1, b2, b3, b4, b5, b6⟩ := id h2
  obtain ⟨a0, a1, a2, a3, a4, a5, a6, a7, a8, a9, a10, a11, a12, a13, a14, a15, a16, a17, a18, a19⟩ := id h1
  refine tY_takes i1 g1 (fun q => ⟨_, rfl, ?_⟩) (fun j u v hj hu hv ex ey ez => ⟨_, rfl, ?_⟩)
  · exact tM_takes i2 g1 (fun _ => ⟨rfl, hM⟩) (fun j u hj hu e1 e2 e3 => absurd ⟨⟨j, hj, e1⟩, ⟨u, hu, e2⟩, e3⟩ q)
  · refine tM_takes (n := n) (by simp [wr, i2]) g1 (fun q => absurd ⟨⟨j, hj, ex⟩, ⟨u, hu, ey⟩, ⟨v, hv, ez⟩⟩ q) (fun j2 u2 hj2 hu2 e1 e2 _ => ?_)
    have ej := (nI_eq (by omega) (by omega)).mp (ex.symm.trans e1)
    have eu := (nI_eq (by omega) (by omega)).mp (ey.symm.trans e2)
    subst ej; subst eu
    refine ⟨rfl, ⟨by simp [wr, wa, a0], by simp [wr, wa, a1], by simp [wr, wa, a2], by simp [wr, wa, a3], by simp [wr, wa, a4], by simp [wr, wa, a5], by simp [wr, wa, a6], by simp [wr, wa, a7], by simp [wr, wa, a8], by simp [wr, wa, a9], by simp [wr, wa, a10], by simp [wr, wa, a11], by simp [wr, wa, a12], by simp [wr, wa, a13], by simp [wr, wa, a14], by simp [wr, wa, a15], by simp [wr, wa, a16], by simp [wr, wa, a17], by simp [wr, wa, a18], by simp [wr, wa, a19]⟩, ⟨by simp [wr, wa, upd, b1], by simp [wr, wa, upd, b2], by simp [wr, wa, upd, b3], by simp [wr, wa, upd, b4], by simp [wr, wa, upd, b5], by simpa [wr, wa, upd] using b6⟩, ⟨n, t, k, w, ⟨g1, g2, g3, g4, by simp [wr, wa, upd, i1], by simp [wr, wa, upd, i2], by simp [wr, wa, upd, i3], by simp [wr, wa, upd, i4], by simp [wr, wa, upd, i5], by simp [wr, wa, upd, i6], by simp [wr, wa, upd, i7], by simp [wr, wa, upd, i8]⟩, ?_⟩, ?_, ?_, ?_⟩
    · simpa [E5, wr, wa] using h5
    · exact ⟨by simpa [wr] using h4.1, by simpa [wr] using updP (P := fun q => ∃ v : Nat, v ≤ 50 ∧ q = nI v) h4.2.1 ⟨v, by omega, ez⟩, by simpa [wr] using h4.2.2⟩
    · simpa [E6, wr, wa] using h6
    · exact hX _ _ _ hXM
set_option maxRecDepth 100000 in
set_option maxHeartbeats 2000000 in
theorem pr_price {X : Mem → Prop} {x y : Int32} (hX : ∀ M j v, X M → X (wr (wr M 50 j v) 91 j v)) : Pair (INV X) mX11_price mX12_price [.int x, .int y] := by
  intro M hM
  obtain ⟨h1, h2, ⟨n, t, k, w, h3, h5⟩, h4, h6, hXM⟩ := id hM
  obtain ⟨g1, g2, g3, g4, i1, i2, i3, i4, i5, i6, i7, i8⟩ := id h3
  obtain ⟨b1, b2, b3, b4, b5, b6⟩ := id h2
  obtain ⟨a0, a1, a2, a3, a4, a5, a6, a7, a8, a9, a10, a11, a12, a13, a14, a15, a16, a17, a18, a19⟩ := id h1
  refine tY_price (fun q => ⟨_, rfl, ?_⟩) (fun u v hu hv ex ey => ⟨_, rfl, ?_⟩)
  · exact tM_price (fun _ => ⟨rfl, hM⟩) (fun u hu e1 e2 => absurd ⟨⟨u, hu, e1⟩, e2⟩ q)
  · refine tM_price (fun q => absurd ⟨⟨u, hu, ex⟩, ⟨v, hv, ey⟩⟩ q) (fun u2 hu2 e1 _ => ?_)
    have eu := (nI_eq (by omega) (by omega)).mp (ex.symm.trans e1)
    subst eu
    refine ⟨rfl, ⟨by simp [wr, wa, a0], by simp [wr, wa, a1], by simp [wr, wa, a2], by simp [wr, wa, a3], by simp [wr, wa, a4], by simp [wr, wa, a5], by simp [wr, wa, a6], by simp [wr, wa, a7], by simp [wr, wa, a8], by simp [wr, wa, a9], by simp [wr, wa, a10], by simp [wr, wa, a11], by simp [wr, wa, a12], by simp [wr, wa, a13], by simp [wr, wa, a14], by simp [wr, wa, a15], by simp [wr, wa, a16], by simp [wr, wa, a17], by simp [wr, wa, a18], by simp [wr, wa, a19]⟩, ⟨by simp [wr, wa, upd, b1], by simp [wr, wa, upd, b2], by simp [wr, wa, upd, b3], by simp [wr, wa, upd, b4], by simp [wr, wa, upd, b5], by simpa [wr, wa, upd] using b6⟩, ⟨n, t, k, w, ⟨g1, g2, g3, g4, by simp [wr, wa, upd, i1], by simp [wr, wa, upd, i2], by simp [wr, wa, upd, i3], by simp [wr, wa, upd, i4], by simp [wr, wa, upd, i5], by simp [wr, wa, upd, i6], by simp [wr, wa, upd, i7], by simp [wr, wa, upd, i8]⟩, ?_⟩, ?_, ?_, ?_⟩
    · simpa [E5, wr, wa] using h5
    · simpa [E4, wr, wa] using h4
    · simpa [E6, wr, wa] using h6
    · exact hX _ _ _ hXM
set_option maxRecDepth 100000 in
set_option maxHeartbeats 2000000 in
theorem pr_lame {X : Mem → Prop} {x z : Int32} (hz : z = 0 ∨ z = 1) (hX : ∀ M j v, X M → X (wr (wr (wr (wr M 29 8 0) 5 j v) 66 j v) 62 12 0)) : Pair (INV X) mX11_lame mX12_lame [.int x, .int z] := by
  intro M hM
  obtain ⟨h1, h2, ⟨n, t, k, w, h3, h5⟩, h4, h6, hXM⟩ := id hM
  obtain ⟨g1, g2, g3, g4, i1, i2, i3, i4, i5, i6, i7, i8⟩ := id h3
  obtain ⟨b1, b2, b3, b4, b5, b6⟩ := id h2
  obtain ⟨a0, a1, a2, a3, a4, a5, a6, a7, a8, a9, a10, a11, a12, a13, a14, a15, a16, a17, a18, a19⟩ := id h1
  refine tY_lame i1 g1 hz (fun q => ⟨_, rfl, ?_⟩) (fun j hj ex => ⟨_, rfl, ?_⟩)
  · exact tM_lame i2 g1 hz (fun _ => ⟨rfl, hM⟩) (fun j hj e1 => absurd ⟨j, hj, e1⟩ q)
  · refine tM_lame (n := n) (by simp [wr, i2]) g1 hz (fun q => absurd ⟨j, hj, ex⟩ q) (fun j2 hj2 e1 => ?_)
    have ej := (nI_eq (by omega) (by omega)).mp (ex.symm.trans e1)
    subst ej
    refine ⟨rfl, ⟨by simp [wr, wa, a0], by simp [wr, wa, a1], by simp [wr, wa, a2], by simp [wr, wa, a3], by simp [wr, wa, a4], by simp [wr, wa, a5], by simp [wr, wa, a6], by simp [wr, wa, a7], by simp [wr, wa, a8], by simp [wr, wa, a9], by simp [wr, wa, a10], by simp [wr, wa, a11], by simp [wr, wa, a12], by simp [wr, wa, a13], by simp [wr, wa, a14], by simp [wr, wa, a15], by simp [wr, wa, a16], by simp [wr, wa, a17], by simp [wr, wa, a18], by simp [wr, wa, a19]⟩, ⟨by simp [wr, wa, upd, b1], by simp [wr, wa, upd, b2], by simp [wr, wa, upd, b3], by simp [wr, wa, upd, b4], by simp [wr, wa, upd, b5], by simp [wr, upd]⟩, ⟨n, t, k, w, ⟨g1, g2, g3, g4, by simp [wr, wa, upd, i1], by simp [wr, wa, upd, i2], by simp [wr, wa, upd, i3], by simp [wr, wa, upd, i4], by simp [wr, wa, upd, i5], by simp [wr, wa, upd, i6], by simp [wr, wa, upd, i7], by simp [wr, wa, upd, i8]⟩, ?_⟩, ?_, ?_, ?_⟩
    · simpa [E5, wr, wa] using h5
    · exact ⟨by simpa [wr] using updP (P := fun q => q = 0 ∨ q = 1) h4.1 hz, by simpa [wr] using h4.2.1, by simpa [wr] using h4.2.2⟩
    · simpa [E6, wr, wa] using h6
    · exact hX _ _ _ hXM

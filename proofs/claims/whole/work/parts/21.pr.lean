set_option maxRecDepth 100000 in
set_option maxHeartbeats 2000000 in
theorem pr_fault {X : Mem → Prop} {x : Int32} : Pair (INV X) mX11_fault mX12_fault [.int x] := by
  intro M hM
  obtain ⟨h1, h2, ⟨n, t, k, w, h3, h5⟩, h4, h6, hXM⟩ := id hM
  obtain ⟨g1, g2, g3, g4, i1, i2, i3, i4, i5, i6, i7, i8⟩ := id h3
  obtain ⟨b1, b2, b3, b4, b5, b6⟩ := id h2
  refine tY_fault ⟨_, rfl, ?_⟩
  refine tM_fault ⟨?_, hM⟩
  simp only [fltY, fltM, b3, b4]
set_option maxRecDepth 100000 in
set_option maxHeartbeats 2000000 in
theorem pr_tries {X : Mem → Prop}  : Pair (INV X) mX11_tries mX12_tries [] := by
  intro M hM
  obtain ⟨h1, h2, ⟨n, t, k, w, h3, h5⟩, h4, h6, hXM⟩ := id hM
  obtain ⟨g1, g2, g3, g4, i1, i2, i3, i4, i5, i6, i7, i8⟩ := id h3
  obtain ⟨b1, b2, b3, b4, b5, b6⟩ := id h2
  refine tY_tries ⟨_, rfl, ?_⟩
  refine tM_tries ⟨?_, hM⟩
  rw [b2]
set_option maxRecDepth 100000 in
set_option maxHeartbeats 2000000 in
theorem pr_about {X : Mem → Prop} {x : Int32} (hr : ∀ M, X M → M.1 20 5 = M.1 62 17) : Pair (INV X) mX11_about mX12_about [.int x] := by
  intro M hM
  obtain ⟨h1, h2, ⟨n, t, k, w, h3, h5⟩, h4, h6, hXM⟩ := id hM
  obtain ⟨g1, g2, g3, g4, i1, i2, i3, i4, i5, i6, i7, i8⟩ := id h3
  obtain ⟨b1, b2, b3, b4, b5, b6⟩ := id h2
  refine tY_about (by rw [b5]; exact b6) ⟨_, rfl, ?_⟩
  refine tM_about ⟨?_, hM⟩
  simp only [abtY, abtM, b1, b5, i1, i2, i3, i4, i5, i6, i7, i8, hr M hXM]
set_option maxRecDepth 100000 in
set_option maxHeartbeats 2000000 in
theorem pr_lacked {X : Mem → Prop} {x : Int32} : Pair (INV X) mX11_lacked mX12_lacked [.int x] := by
  intro M hM
  obtain ⟨h1, h2, ⟨n, t, k, w, h3, h5⟩, h4, h6, hXM⟩ := id hM
  obtain ⟨g1, g2, g3, g4, i1, i2, i3, i4, i5, i6, i7, i8⟩ := id h3
  obtain ⟨b1, b2, b3, b4, b5, b6⟩ := id h2
  obtain ⟨a0, a1, a2, a3, a4, a5, a6, a7, a8, a9, a10, a11, a12, a13, a14, a15, a16, a17, a18, a19⟩ := id h1
  refine tY_lacked i1 g1 (fun q => ⟨_, rfl, ?_⟩) (fun j hj e => ⟨_, rfl, ?_⟩)
  · exact tM_lacked i2 g1 (fun _ => ⟨rfl, hM⟩) (fun j hj e => absurd ⟨j, hj, e⟩ q)
  · refine tM_lacked i2 g1 (fun q => absurd ⟨j, hj, e⟩ q) (fun j2 hj2 e2 => ⟨?_, hM⟩)
    rw [a5, (nI_eq (by omega) (by omega)).mp (e.symm.trans e2)]
set_option maxRecDepth 100000 in
set_option maxHeartbeats 2000000 in
theorem pr_out {X : Mem → Prop} {x : Int32} (hp : ∀ M, X M → M.1 62 12 ≠ 0 → (∀ j, j < 12 → M.1 30 j = M.1 86 j) ∧ ∀ j, j < 12 → M.1 86 j = -1 ∨ ∃ s, s < 24 ∧ M.1 86 j = nI s) : Pair (INV X) mX11_out mX12_out [.int x] := by
  intro M hM
  obtain ⟨h1, h2, ⟨n, t, k, w, h3, h5⟩, h4, h6, hXM⟩ := id hM
  obtain ⟨g1, g2, g3, g4, i1, i2, i3, i4, i5, i6, i7, i8⟩ := id h3
  obtain ⟨b1, b2, b3, b4, b5, b6⟩ := id h2
  have hs := hp M hXM
  refine tY_out i1 g1 (fun q j hj => by rw [b5] at q; rw [(hs q).1 j hj]; exact (hs q).2 j hj) (fun q => ⟨_, rfl, ?_⟩) (fun j s hj hs24 e hq e2 => ⟨_, rfl, ?_⟩)
  · exact tM_out i2 g1 (fun q2 => (hs q2).2) (fun _ => ⟨rfl, hM⟩) (fun j s hj hs24 e hq e2 => absurd (by rw [(hs hq).1 j (by omega)]; exact e2) (q j s hs24 hj e (by rw [b5]; exact hq)))
  · rw [b5] at hq
    refine tM_out i2 g1 (fun q2 => (hs q2).2) (fun q => absurd (by rw [← (hs hq).1 j (by omega)]; exact e2) (q j s hs24 hj e hq)) (fun j2 s2 hj2 hs2 e3 hq2 e4 => ⟨?_, hM⟩)
    have ej := (nI_eq (by omega) (by omega)).mp (e.symm.trans e3)
    subst ej
    rw [(hs hq).1 j (by omega), e4] at e2
    rw [(nI_eq (by omega) (by omega)).mp e2]

set_option maxRecDepth 100000 in
set_option maxHeartbeats 2000000 in
theorem pr_foretold {X : Mem → Prop} {x : Int32} (hX : ∀ M b g g2, b < 4 → X M → X (wa (wa M (34 + 4 * b + 3) g) 101 g2)) : Pair (INV X) mX11_foretold mX12_foretold [.int x] := by
  intro M hM
  obtain ⟨h1, h2, ⟨nh, t, k, w, h3, h5⟩, h4, h6, hXM⟩ := id hM
  obtain ⟨g1, g2x, g3, g4, i1, i2, i3, i4, i5, i6, i7, i8⟩ := id h3
  obtain ⟨b1, b2, b3, b4, b5, b6⟩ := id h2
  obtain ⟨a0, a1, a2, a3, a4, a5, a6, a7, a8, a9, a10, a11, a12, a13, a14, a15, a16, a17, a18, a19⟩ := id h1
  have hE := E6_at h6
  have hc1 : ∀ b, b < 4 → ∃ n, n ≤ 20 ∧ M.1 (34 + 4 * b) 3 = nI n := fun b hb => by
    obtain ⟨⟨xs, q1, q2, -⟩, -⟩ := hE b hb
    exact ⟨xs.length, q1, q2⟩
  have hc2 : ∀ b, b < 4 → ∃ n, n ≤ 20 ∧ M.1 87 b = nI n := fun b hb => by
    obtain ⟨⟨xs, q1, -, q2, -⟩, -⟩ := hE b hb
    exact ⟨xs.length, q1, q2⟩
  have hNN : ∀ b m, b < 4 → M.1 87 b = nI m → m ≤ 20 → NN (fun i => M.1 88 (20 * b + i)) m := fun b m hb em hm i hi => by
    obtain ⟨⟨xs, q1, q2, q3, q4, q5⟩, -⟩ := hE b hb
    have en := (nI_eq (by omega) (by omega)).mp (em.symm.trans q3)
    have z9 := (q4 i (by omega)).2
    obtain ⟨v, h8, h9, e9⟩ := q5 _ (List.mem_of_getElem? z9)
    exact ⟨v, by omega, e9⟩
  refine tY_foretold i1 g1 hc1 (fun q => ⟨_, rfl, ?_⟩) (fun b m hb ex hm ec g => ⟨_, rfl, ?_⟩)
  · exact tM_foretold i2 g1 hc2 h4.2.1 hNN (fun _ => ⟨rfl, hM⟩) (fun b m hb e1 _ _ => absurd ⟨b, hb, e1⟩ q)
  · have f : ∀ c, 62 ≤ c → (wa M (34 + 4 * b + 3) g).1 c = M.1 c := fun c hc => rdb (by omega)
    refine tM_foretold (n := nh) (by rw [f 62 (by decide)]; exact i2) g1 (by rw [f 87 (by decide)]; exact hc2) (by rw [f 68 (by decide)]; exact h4.2.1) (by rw [f 87 (by decide), f 88 (by decide)]; exact hNN) (fun q => absurd ⟨b, hb, ex⟩ q) (fun b2 m2 hb2 e1 hm2 ec2 g2 => ?_)
    have eb := (nI_eq (by omega) (by omega)).mp (ex.symm.trans e1)
    subst eb
    rw [f 87 (by decide)] at ec2
    rw [f 89 (by decide), f 68 (by decide), f 62 (by decide), f 88 (by decide), f 101 (by decide)]
    have hX2 := hX M b g g2 hb hXM
    obtain ⟨⟨xs, q1, q2, q3, q4, -⟩, -⟩ := hE b hb
    have en := (nI_eq (by omega) (by omega)).mp (ec.symm.trans q2)
    have en2 := (nI_eq (by omega) (by omega)).mp (ec2.symm.trans q3)
    subst en; subst en2
    have z8 : ∀ i, i < xs.length → M.1 (34 + 4 * b + 1) i = M.1 88 (20 * b + i) ∧ M.1 (34 + 4 * b + 2) i = M.1 89 (20 * b + i) := fun i hi => by
      have z9 := (q4 i hi).1.symm.trans (q4 i hi).2
      simp only [Option.some.injEq, Prod.mk.injEq] at z9
      exact z9
    have er : ngt (fun i => M.1 89 (20 * b + i)) (l_sum (fun j => M.1 68 (4 * j + b)) nh) (M.1 62 0) xs.length 400 0 (cpF (fun i => M.1 88 (20 * b + i)) (M.1 101) xs.length) = ngt (M.1 (34 + 4 * b + 2)) (l_sum (fun j => M.1 6 (j * 4 + b)) nh) (M.1 0 12) xs.length 400 0 (va_cpy (M.1 (34 + 4 * b + 1)) (M.1 (34 + 4 * b + 3)) 0 0 20) := by
      have e1 : l_sum (fun j => M.1 68 (4 * j + b)) nh = l_sum (fun j => M.1 6 (j * 4 + b)) nh := l_sum_cong (fun j _ => by rw [a4, Nat.mul_comm])
      rw [e1, b1]
      refine ngt_cong (fun i hi => (z8 i hi).2.symm) 400 0 _ _ (fun i hi => ?_)
      rw [pk_cpy_in (by omega) (by omega)]
      unfold cpF
      rw [if_pos hi]
      simpa using (z8 i hi).1.symm
    refine ⟨by rw [er], ?_⟩
    clear er z8 q4 hE
    match b, hb with
    | 0, _ => exact ⟨⟨by simp [wa, a0], by simp [wa, a1], by simp [wa, a2], by simp [wa, a3], by simp [wa, a4], by simp [wa, a5], by simp [wa, a6], by simp [wa, a7], by simp [wa, a8], by simp [wa, a9], by simp [wa, a10], by simp [wa, a11], by simp [wa, a12], by simp [wa, a13], by simp [wa, a14], by simp [wa, a15], by simp [wa, a16], by simp [wa, a17], by simp [wa, a18], by simp [wa, a19]⟩, ⟨by simp [wa, b1], by simp [wa, b2], by simp [wa, b3], by simp [wa, b4], by simp [wa, b5], by simpa [wa] using b6⟩, ⟨nh, t, k, w, ⟨g1, g2x, g3, g4, by simp [wa, i1], by simp [wa, i2], by simp [wa, i3], by simp [wa, i4], by simp [wa, i5], by simp [wa, i6], by simp [wa, i7], by simp [wa, i8]⟩, by simpa [E5, wa] using h5⟩, by simpa [E4, wa] using h4, by simpa [E6, wa] using h6, hX2⟩
    | 1, _ => exact ⟨⟨by simp [wa, a0], by simp [wa, a1], by simp [wa, a2], by simp [wa, a3], by simp [wa, a4], by simp [wa, a5], by simp [wa, a6], by simp [wa, a7], by simp [wa, a8], by simp [wa, a9], by simp [wa, a10], by simp [wa, a11], by simp [wa, a12], by simp [wa, a13], by simp [wa, a14], by simp [wa, a15], by simp [wa, a16], by simp [wa, a17], by simp [wa, a18], by simp [wa, a19]⟩, ⟨by simp [wa, b1], by simp [wa, b2], by simp [wa, b3], by simp [wa, b4], by simp [wa, b5], by simpa [wa] using b6⟩, ⟨nh, t, k, w, ⟨g1, g2x, g3, g4, by simp [wa, i1], by simp [wa, i2], by simp [wa, i3], by simp [wa, i4], by simp [wa, i5], by simp [wa, i6], by simp [wa, i7], by simp [wa, i8]⟩, by simpa [E5, wa] using h5⟩, by simpa [E4, wa] using h4, by simpa [E6, wa] using h6, hX2⟩
    | 2, _ => exact ⟨⟨by simp [wa, a0], by simp [wa, a1], by simp [wa, a2], by simp [wa, a3], by simp [wa, a4], by simp [wa, a5], by simp [wa, a6], by simp [wa, a7], by simp [wa, a8], by simp [wa, a9], by simp [wa, a10], by simp [wa, a11], by simp [wa, a12], by simp [wa, a13], by simp [wa, a14], by simp [wa, a15], by simp [wa, a16], by simp [wa, a17], by simp [wa, a18], by simp [wa, a19]⟩, ⟨by simp [wa, b1], by simp [wa, b2], by simp [wa, b3], by simp [wa, b4], by simp [wa, b5], by simpa [wa] using b6⟩, ⟨nh, t, k, w, ⟨g1, g2x, g3, g4, by simp [wa, i1], by simp [wa, i2], by simp [wa, i3], by simp [wa, i4], by simp [wa, i5], by simp [wa, i6], by simp [wa, i7], by simp [wa, i8]⟩, by simpa [E5, wa] using h5⟩, by simpa [E4, wa] using h4, by simpa [E6, wa] using h6, hX2⟩
    | 3, _ => exact ⟨⟨by simp [wa, a0], by simp [wa, a1], by simp [wa, a2], by simp [wa, a3], by simp [wa, a4], by simp [wa, a5], by simp [wa, a6], by simp [wa, a7], by simp [wa, a8], by simp [wa, a9], by simp [wa, a10], by simp [wa, a11], by simp [wa, a12], by simp [wa, a13], by simp [wa, a14], by simp [wa, a15], by simp [wa, a16], by simp [wa, a17], by simp [wa, a18], by simp [wa, a19]⟩, ⟨by simp [wa, b1], by simp [wa, b2], by simp [wa, b3], by simp [wa, b4], by simp [wa, b5], by simpa [wa] using b6⟩, ⟨nh, t, k, w, ⟨g1, g2x, g3, g4, by simp [wa, i1], by simp [wa, i2], by simp [wa, i3], by simp [wa, i4], by simp [wa, i5], by simp [wa, i6], by simp [wa, i7], by simp [wa, i8]⟩, by simpa [E5, wa] using h5⟩, by simpa [E4, wa] using h4, by simpa [E6, wa] using h6, hX2⟩
    | bq + 4, q => exact absurd q (by omega)

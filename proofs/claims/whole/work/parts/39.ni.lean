theorem nI_inv {v : Nat} (h : v < 2 ^ 31) : nI ((nI v).toInt.toNat) = nI v := by rw [nI_toInt h]; rfl
theorem B6_rep {M : Mem} {k b : Nat} (h : B6 (M.1 (k + 1)) (M.1 (k + 2)) (M.1 k) (M.1 88) (M.1 89) (M.1 87) (20 * b) b) : ∃ ys : Lots, RepC M k ys ∧ RepN M b ys := by
  obtain ⟨xs, q1, q2, q3, q4, q5⟩ := h
  have hz : ∀ (i : Nat) (q : Nat × Int32), (xs.map (fun q => (q.1.toInt.toNat, q.2)))[i]? = some q → 1 ≤ q.1 ∧ q.1 ≤ 10000 ∧ (M.1 (k + 1) i = nI q.1 ∧ M.1 (k + 2) i = q.2) ∧ (M.1 88 (20 * b + i) = nI q.1 ∧ M.1 89 (20 * b + i) = q.2) := by
    intro i q hi
    rw [List.getElem?_map] at hi
    have hl : i < xs.length := by
      rcases Nat.lt_or_ge i xs.length with h | h
      · exact h
      · rw [List.getElem?_eq_none h] at hi; cases hi
    have z := q4 i hl
    rw [z.1] at hi
    cases hi
    obtain ⟨v, v1, v2, v3⟩ := q5 _ (List.mem_of_getElem? z.1)
    have e : (M.1 (k + 1) i).toInt.toNat = v := by rw [show M.1 (k + 1) i = nI v from v3, nI_toInt (by omega)]; rfl
    have z9 := z.1.symm.trans z.2
    simp only [Option.some.injEq, Prod.mk.injEq] at z9
    refine ⟨by show 1 ≤ (M.1 (k + 1) i).toInt.toNat; omega, by show (M.1 (k + 1) i).toInt.toNat ≤ _; omega, ⟨?_, rfl⟩, ?_, z9.2.symm⟩
    · show _ = nI (M.1 (k + 1) i).toInt.toNat
      rw [e]; exact v3
    · show _ = nI (M.1 (k + 1) i).toInt.toNat
      rw [e, ← z9.1]; exact v3
  refine ⟨xs.map (fun q => (q.1.toInt.toNat, q.2)), ⟨by rw [List.length_map]; exact q1, by rw [List.length_map]; exact q2, fun i q hi => ?_⟩, by rw [List.length_map]; exact q1, by rw [List.length_map]; exact q3, fun i q hi => ?_⟩
  · have z := hz i q hi
    exact ⟨z.1, z.2.1, z.2.2.1.1, z.2.2.1.2⟩
  · have z := hz i q hi
    exact ⟨z.1, z.2.1, z.2.2.2.1, z.2.2.2.2⟩
theorem rep_B6 {M : Mem} {k b : Nat} {ys : Lots} (h1 : RepC M k ys) (h2 : RepN M b ys) : B6 (M.1 (k + 1)) (M.1 (k + 2)) (M.1 k) (M.1 88) (M.1 89) (M.1 87) (20 * b) b := by
  refine ⟨ys.map (fun q => (nI q.1, q.2)), by rw [List.length_map]; exact h1.1, by rw [List.length_map]; exact h1.2.1, by rw [List.length_map]; exact h2.2.1, fun i hi => ?_, fun q hq => ?_⟩
  · rw [List.length_map] at hi
    have e : ys[i]? = some ys[i] := List.getElem?_eq_getElem hi
    obtain ⟨-, -, z3, z4⟩ := h1.2.2 i _ e
    obtain ⟨-, -, y3, y4⟩ := h2.2.2 i _ e
    rw [List.getElem?_map, e, z3, z4, y3, y4]
    exact ⟨rfl, rfl⟩
  · obtain ⟨z, hz, rfl⟩ := List.mem_map.mp hq
    obtain ⟨i, hi⟩ := List.mem_iff_getElem?.mp hz
    obtain ⟨z1, z2, -⟩ := h1.2.2 i z hi
    exact ⟨z.1, z1, z2, rfl⟩
def NRL : List Nat := [0, 29, 62, 67, 87, 88, 89, 90, 93, 94, 95, 7, 34, 35, 36, 38, 39, 40, 42, 43, 44, 46, 47, 48, 51, 52, 53, 54]
set_option maxRecDepth 100000 in
set_option maxHeartbeats 2000000 in
theorem pr_night {X : Mem → Prop} (hX : ∀ M M2, X M → (∀ a, a ∉ NRL → M2.1 a = M.1 a) → M2.1 62 12 = 0 → M2.1 29 8 = 0 → (∀ i, i ≠ 0 → i ≠ 12 → i ≠ 49 → M2.1 62 i = M.1 62 i) → X M2) : Pair (INV X) mX11_night mX12_night [] := by
  intro M hM
  obtain ⟨h1, h2, ⟨n, t, k, w, h3, h5⟩, h4, h6, hXM⟩ := id hM
  obtain ⟨g1, g2, g3, g4, i1, i2, i3, i4, i5, i6, i7, i8⟩ := id h3
  obtain ⟨b1, b2, b3, b4, b5, b6⟩ := id h2
  obtain ⟨a0, a1, a2, a3, a4, a5, a6, a7, a8, a9, a10, a11, a12, a13, a14, a15, a16, a17, a18, a19⟩ := id h1
  have hE := E6_at h6
  obtain ⟨y0, u0, v0⟩ := B6_rep (hE 0 (by decide)).1
  obtain ⟨y1, u1, v1⟩ := B6_rep (hE 1 (by decide)).1
  obtain ⟨y2, u2, v2⟩ := B6_rep (hE 2 (by decide)).1
  obtain ⟨y3, u3, v3⟩ := B6_rep (hE 3 (by decide)).1
  have hL : ∃ L : Nat → Lots, ∀ b, b < 4 → RepC M (34 + 4 * b) (L b) ∧ RepN M b (L b) := by
    refine ⟨fun b => match b with | 0 => y0 | 1 => y1 | 2 => y2 | _ => y3, fun b hb => ?_⟩
    match b, hb with
    | 0, _ => exact ⟨u0, v0⟩
    | 1, _ => exact ⟨u1, v1⟩
    | 2, _ => exact ⟨u2, v2⟩
    | 3, _ => exact ⟨u3, v3⟩
    | bq + 4, q => exact absurd q (by omega)
  clear u0 u1 u2 u3 v0 v1 v2 v3
  obtain ⟨L, hL⟩ := hL
  have hWn : ∀ i, (M.1 68 i).toInt.toNat ≤ 50 ∧ M.1 68 i = nI (M.1 68 i).toInt.toNat := fun i => by
    obtain ⟨v, q1, q2⟩ := h4.2.1 i
    rw [q2, nI_inv (by omega), nI_toInt (by omega)]
    exact ⟨by simpa using q1, rfl⟩
  refine tY_night (W := fun j b => (M.1 68 (4 * j + b)).toInt.toNat) (L := L) (S := fun b => M.1 90 b) i1 g1 i5 g3 (fun b hb => ⟨(hL b hb).1, (hE b hb).2⟩) (fun j b hj hb => ⟨(hWn _).1, by rw [a4, Nat.mul_comm j 4]; exact (hWn _).2⟩) (fun q => ⟨_, rfl, ?_⟩) (fun hr M3 hg => ⟨_, rfl, ?_⟩)
  · exact tM_night (W := fun j b => (M.1 68 (4 * j + b)).toInt.toNat) (L := L) (S := fun b => M.1 90 b) i2 g1 i6 g3 (fun b hb => ⟨(hL b hb).2, rfl⟩) (fun j b hj hb => hWn _) (fun _ => ⟨rfl, hM⟩) (fun e => absurd e q)
  · generalize eC : wr (wr M3 0 12 (M3.1 0 12 + 1)) 29 8 0 = Mc
    have fc : ∀ a, a ≠ 0 → a ≠ 29 → Mc.1 a = M3.1 a := fun a q1 q2 => by rw [← eC, rd2 q2, rd2 q1]
    have fm : ∀ a, a ≠ 0 → a ≠ 29 → a ∉ NL → Mc.1 a = M.1 a := fun a q1 q2 q3 => (fc a q1 q2).trans (hg.2.1 a q3)
    refine tM_night (M := Mc) (n := n) (k := k) (W := fun j b => (M.1 68 (4 * j + b)).toInt.toNat) (L := L) (S := fun b => M.1 90 b) (by rw [fm 62 (by decide) (by decide) (by decide)]; exact i2) g1 (by rw [fm 62 (by decide) (by decide) (by decide)]; exact i6) g3 (fun b hb => ⟨(hL b hb).2.cg (by rw [fm 87 (by decide) (by decide) (by decide)]) (fun i _ => by rw [fm 88 (by decide) (by decide) (by decide), fm 89 (by decide) (by decide) (by decide)]; exact ⟨rfl, rfl⟩), by rw [fm 90 (by decide) (by decide) (by decide)]⟩) (fun j b hj hb => by rw [fm 68 (by decide) (by decide) (by decide)]; exact hWn _) (fun q => absurd hr q) (fun _ M4 hn => ?_)
    have ey : Mc.1 62 0 = M.1 0 12 := by rw [fm 62 (by decide) (by decide) (by decide)]; exact b1.symm
    rw [ey] at hn ⊢
    refine ⟨rfl, ?_⟩
    generalize eF : wr (wr M4 62 0 (M4.1 62 0 + 1)) 62 12 0 = Mf
    have ff : ∀ a, a ≠ 62 → Mf.1 a = M4.1 a := fun a q1 => by rw [← eF, rd2 q1, rd2 q1]
    have fg : ∀ a, a ∉ RN → Mf.1 a = Mc.1 a := fun a q1 => (ff a (RN_ne q1).2.1).trans (hn.2.1 a q1)
    have fx : ∀ a, a ∉ NRL → Mf.1 a = M.1 a := fun a q => by
      simp only [NRL, List.mem_cons, not_or, List.not_mem_nil, not_false_eq_true, and_true] at q
      have r1 : a ∉ RN := by
        simp only [RN, List.mem_cons, not_or, List.not_mem_nil, not_false_eq_true, and_true, q]
      have r2 : a ∉ NL := by
        simp only [NL, List.mem_cons, not_or, List.not_mem_nil, not_false_eq_true, and_true, q]
      exact (fg a r1).trans (fm a q.1 q.2.1 r2)
    have f0 : Mf.1 0 12 = M.1 0 12 + 1 := by
      rw [fg 0 (by decide), ← eC, rd2 (by decide), rd1, hg.2.1 0 (by decide)]
    have f29 : ∀ i, i ≠ 8 → Mf.1 29 i = M.1 29 i := fun i hi => by
      rw [fg 29 (by decide), ← eC, rd3 hi, rd2 (by decide), hg.2.1 29 (by decide)]
    have f298 : Mf.1 29 8 = 0 := by rw [fg 29 (by decide), ← eC, rd1]
    have m62 : Mc.1 62 = M.1 62 := fm 62 (by decide) (by decide) (by decide)
    have n62 : ∀ i, i ≠ 49 → M4.1 62 i = M.1 62 i := fun i hi => (hn.2.2.2.2.2.2.2.2 i hi).trans (by rw [m62])
    have f62 : ∀ i, i ≠ 0 → i ≠ 12 → i ≠ 49 → Mf.1 62 i = M.1 62 i := fun i q1 q2 q3 => by
      rw [← eF, rd3 q2, rd3 q1]; exact n62 i q3
    have f620 : Mf.1 62 0 = M.1 0 12 + 1 := by
      rw [← eF, rd3 (by decide), rd1, n62 0 (by decide), ← b1]
    have f6212 : Mf.1 62 12 = 0 := by rw [← eF, rd1]
    have f6249 : Mf.1 62 49 = nI (k + n) := by rw [← eF, rd3 (by decide), rd3 (by decide)]; exact hn.2.2.2.2.2.2.2.1
    have c7 := (fg 7 (by decide)).trans ((fc 7 (by decide) (by decide)).trans hg.2.2.2.1)
    have c52 := (fg 52 (by decide)).trans ((fc 52 (by decide) (by decide)).trans hg.2.2.2.2.1)
    have c53 := (fg 53 (by decide)).trans ((fc 53 (by decide) (by decide)).trans hg.2.2.2.2.2.1)
    have c54 := (fg 54 (by decide)).trans ((fc 54 (by decide) (by decide)).trans hg.2.2.2.2.2.2.1)
    have r67 := (ff 67 (by decide)).trans hn.2.2.2.1
    have r93 := (ff 93 (by decide)).trans hn.2.2.2.2.1
    have r94 := (ff 94 (by decide)).trans hn.2.2.2.2.2.1
    have r95 := (ff 95 (by decide)).trans hn.2.2.2.2.2.2.1
    rw [ey] at r94
    rw [fm 67 (by decide) (by decide) (by decide)] at r67
    rw [fm 93 (by decide) (by decide) (by decide)] at r93
    rw [fm 94 (by decide) (by decide) (by decide)] at r94
    rw [fm 95 (by decide) (by decide) (by decide), fm 91 (by decide) (by decide) (by decide)] at r95
    have c51 : Mf.1 51 3 = nI (k + n) := by rw [fg 51 (by decide), fc 51 (by decide) (by decide)]; exact hg.2.2.2.2.2.2.2
    have hb6 : ∀ b, b < 4 → B6 (Mf.1 (34 + 4 * b + 1)) (Mf.1 (34 + 4 * b + 2)) (Mf.1 (34 + 4 * b)) (Mf.1 88) (Mf.1 89) (Mf.1 87) (20 * b) b ∧ Mf.1 (34 + 4 * b) 4 = Mf.1 90 b := fun b hb => by
      have e3 : ∀ a, 34 ≤ a → a < 49 → Mf.1 a = M3.1 a := fun a q1 q2 => by
        rw [fg a (by simp only [RN, List.mem_cons, not_or, List.not_mem_nil, not_false_eq_true, and_true]; omega), fc a (by omega) (by omega)]
      refine ⟨rep_B6 ((hg.1 b hb).1.cg (by rw [e3 _ (by omega) (by omega)]) (e3 _ (by omega) (by omega)) (e3 _ (by omega) (by omega))) ((hn.1 b hb).1.cg (by rw [ff 87 (by decide)]) (fun i _ => by rw [ff 88 (by decide), ff 89 (by decide)]; exact ⟨rfl, rfl⟩)), ?_⟩
      rw [e3 _ (by omega) (by omega), ff 90 (by decide), (hg.1 b hb).2, (hn.1 b hb).2]
    refine ⟨⟨by rw [fx 2 (by decide), fx 63 (by decide)]; exact a0, by rw [fx 3 (by decide), fx 64 (by decide)]; exact a1, by rw [fx 4 (by decide), fx 65 (by decide)]; exact a2, by rw [fx 5 (by decide), fx 66 (by decide)]; exact a3, by rw [fx 6 (by decide), fx 68 (by decide)]; exact a4, by rw [c7, r67, a5], by rw [fx 9 (by decide), fx 69 (by decide)]; exact a6, by rw [fx 10 (by decide), fx 70 (by decide)]; exact a7, by rw [fx 11 (by decide), fx 71 (by decide)]; exact a8, by rw [fx 12 (by decide), fx 72 (by decide)]; exact a9, by rw [fx 14 (by decide), fx 81 (by decide)]; exact a10, by rw [fx 50 (by decide), fx 91 (by decide)]; exact a11, by rw [fx 61 (by decide), fx 92 (by decide)]; exact a12, by rw [c52, r93, a13], by rw [c53, r94, a14], by rw [c54, r95, a15, a11], by rw [fx 56 (by decide), fx 96 (by decide)]; exact a16, by rw [fx 57 (by decide), fx 98 (by decide)]; exact a17, by rw [fx 58 (by decide), fx 99 (by decide)]; exact a18, by rw [fx 59 (by decide), fx 100 (by decide)]; exact a19⟩, ⟨f0.trans f620.symm, ?_, ?_, ?_, f298.trans f6212.symm, Or.inl f6212⟩, ⟨n, t, k + n, w, ⟨g1, g2, hr, g4, ?_, ?_, ?_, ?_, c51, f6249, ?_, ?_⟩, ?_⟩, ?_, ⟨(hb6 0 (by decide)).1, (hb6 1 (by decide)).1, (hb6 2 (by decide)).1, (hb6 3 (by decide)).1, (hb6 0 (by decide)).2, (hb6 1 (by decide)).2, (hb6 2 (by decide)).2, (hb6 3 (by decide)).2⟩, hX M Mf hXM fx f6212 f298 f62⟩
    · rw [f29 7 (by decide), f62 42 (by decide) (by decide) (by decide)]; exact b2
    · rw [fx 25 (by decide), f62 27 (by decide) (by decide) (by decide)]; exact b3
    · rw [fx 25 (by decide), f62 28 (by decide) (by decide) (by decide)]; exact b4
    · rw [fx 1 (by decide)]; exact i1
    · rw [f62 1 (by decide) (by decide) (by decide)]; exact i2
    · rw [fx 13 (by decide)]; exact i3
    · rw [f62 26 (by decide) (by decide) (by decide)]; exact i4
    · rw [fx 55 (by decide)]; exact i7
    · rw [f62 50 (by decide) (by decide) (by decide)]; exact i8
    · unfold E5
      rw [fx 96 (by decide), fx 60 (by decide), fx 65 (by decide), fx 97 (by decide), fx 98 (by decide)]
      exact h5
    · unfold E4
      rw [fx 66 (by decide), fx 68 (by decide), fx 69 (by decide)]
      exact h4

def GX (M : Mem) (C st : Nat → Nat) (m L : Nat) : Prop := RC M C st m L ∧ RR M C st m L ∧ RP (M.1 76) C st m L ∧ ∀ r, r < m → M.1 23 r = M.1 76 r
/-- rules and plan -/
def XI (M : Mem) : Prop := ∃ C st m L, GX M C st m L ∧ (M.1 62 12 ≠ 0 → (∀ j, j < 12 → M.1 30 j = M.1 86 j) ∧ (∀ j, j < 12 → M.1 86 j = -1 ∨ ∃ s, s < 24 ∧ M.1 86 j = nI s) ∧ ∃ n, n ≤ 12 ∧ M.1 62 1 = nI n ∧ (plcM M C st m n).1 = 1)
theorem XI_7 {M : Mem} (h : XI M) : G7 M := by
  obtain ⟨C, st, m, L, h, -⟩ := h
  exact ⟨C, st, m, L, h⟩
def PLs : List Nat := [63, 64, 65, 66, 69, 70, 71, 72, 76]
theorem fcV_cg {M N : Mem} (h : ∀ a, a ∈ PLs → N.1 a = M.1 a) (h0 : N.1 62 0 = M.1 62 0) (j f u o : Nat) (gt : Int32) : fcV N j f u o gt = fcV M j f u o gt := by
  funext c
  unfold fcV
  rw [h 63 (by decide), h 64 (by decide), h 65 (by decide), h 66 (by decide), h 70 (by decide), h0]
theorem mayB_cg {M N : Mem} (h : ∀ a, a ∈ PLs → N.1 a = M.1 a) (h0 : N.1 62 0 = M.1 62 0) (C st : Nat → Nat) (m j f u : Nat) : mayB N C st m j f u = mayB M C st m j f u := by
  unfold mayB
  rw [fcV_cg h h0, h 69 (by decide), h 71 (by decide), h 76 (by decide), h0]
theorem meetB_cg {M N : Mem} (h : ∀ a, a ∈ PLs → N.1 a = M.1 a) (h0 : N.1 62 0 = M.1 62 0) (C st : Nat → Nat) (m j f o g u : Nat) : meetB N C st m j f o g u = meetB M C st m j f o g u := by
  unfold meetB
  rw [fcV_cg h h0, fcV_cg h h0, h 72 (by decide), h 76 (by decide)]
theorem ftB_cg {M N : Mem} (h : ∀ a, a ∈ PLs → N.1 a = M.1 a) (h0 : N.1 62 0 = M.1 62 0) (C st : Nat → Nat) (m : Nat) : ftB N C st m = ftB M C st m := by
  funext p j s
  unfold ftB
  rw [mayB_cg h h0, h 69 (by decide), show (fun k f => meetB N C st m j (s % 6) k f (s / 6)) = (fun k f => meetB M C st m j (s % 6) k f (s / 6)) from funext (fun k => funext (fun f => meetB_cg h h0 C st m j (s % 6) k f (s / 6)))]
theorem plcM_cg {M N : Mem} (h : ∀ a, a ∈ PLs → N.1 a = M.1 a) (h0 : N.1 62 0 = M.1 62 0) (C st : Nat → Nat) (m n : Nat) : plcM N C st m n = plcM M C st m n := by
  unfold plcM
  rw [ftB_cg h h0, h 66 (by decide)]
theorem PLs_vw {M N : Mem} (h : Vw M N) : ∀ a, a ∈ PLs → N.1 a = M.1 a := fun a ha => h.1 a (by
  simp only [PLs, List.mem_cons, List.not_mem_nil, or_false] at ha
  simp only [WL, List.mem_cons, not_or, List.not_mem_nil, not_false_eq_true, and_true]
  omega)
def XLs : List Nat := [21, 22, 23, 30, 73, 74, 75, 76, 86, 63, 64, 65, 66, 69, 70, 71, 72]
theorem GX_fr {M N : Mem} {C st : Nat → Nat} {m L : Nat} (h : GX M C st m L) (f1 : N.1 21 = M.1 21) (f2 : N.1 22 = M.1 22) (f3 : N.1 23 = M.1 23) (f4 : N.1 73 = M.1 73) (f5 : N.1 74 = M.1 74) (f6 : N.1 75 = M.1 75) (f7 : N.1 76 = M.1 76) (e20 : N.1 20 5 = M.1 20 5) (e17 : N.1 62 17 = M.1 62 17) : GX N C st m L := by
  unfold GX RC RR
  rw [f1, f2, f3, f4, f5, f6, f7, e20, e17]
  exact h
theorem XI_fr {M N : Mem} (h : XI M) (f : ∀ a, a ∈ XLs → N.1 a = M.1 a) (e20 : N.1 20 5 = M.1 20 5) (e62 : ∀ i, i = 0 ∨ i = 1 ∨ i = 12 ∨ i = 17 → N.1 62 i = M.1 62 i) : XI N := by
  obtain ⟨C, st, m, L, hG, hP⟩ := h
  refine ⟨C, st, m, L, GX_fr hG (f 21 (by decide)) (f 22 (by decide)) (f 23 (by decide)) (f 73 (by decide)) (f 74 (by decide)) (f 75 (by decide)) (f 76 (by decide)) e20 (e62 17 (by decide)), ?_⟩
  rw [e62 12 (by decide), f 30 (by decide), f 86 (by decide), e62 1 (by decide)]
  intro q
  obtain ⟨q1, q2, n, q3, q4, q5⟩ := hP q
  refine ⟨q1, q2, n, q3, q4, ?_⟩
  rw [plcM_cg (fun a ha => f a (by
    simp only [PLs, List.mem_cons, List.not_mem_nil, or_false] at ha
    simp only [XLs, List.mem_cons, List.not_mem_nil, or_false]
    omega)) (e62 0 (by decide))]
  exact q5
def GLs : List Nat := [21, 22, 23, 73, 74, 75, 76]
theorem XI_cl {M N : Mem} (h : XI M) (f : ∀ a, a ∈ GLs → N.1 a = M.1 a) (e20 : N.1 20 5 = M.1 20 5) (e17 : N.1 62 17 = M.1 62 17) (e12 : N.1 62 12 = 0) : XI N := by
  obtain ⟨C, st, m, L, hG, hP⟩ := h
  exact ⟨C, st, m, L, GX_fr hG (f 21 (by decide)) (f 22 (by decide)) (f 23 (by decide)) (f 73 (by decide)) (f 74 (by decide)) (f 75 (by decide)) (f 76 (by decide)) e20 e17, fun q => absurd e12 q⟩
theorem INV_pl {X : Mem → Prop} {M N : Mem} (h : INV X M) (v : Vw M N) (f62 : ∀ i, i ≠ 42 → i ≠ 12 → N.1 62 i = M.1 62 i) (e7 : N.1 29 7 = N.1 62 42) (e8 : N.1 29 8 = N.1 62 12) (e01 : N.1 62 12 = 0 ∨ N.1 62 12 = 1) (hX : X N) : INV X N := by
  obtain ⟨h1, h2, ⟨n, t, k, w, h3, h5⟩, h4, h6, hXM⟩ := h
  refine ⟨?_, ?_, ⟨n, t, k, w, ?_, ?_⟩, ?_, ?_, hX⟩
  · unfold E1
    rw [v.1 2 (by decide), v.1 63 (by decide), v.1 3 (by decide), v.1 64 (by decide), v.1 4 (by decide), v.1 65 (by decide), v.1 5 (by decide), v.1 66 (by decide), v.1 6 (by decide), v.1 68 (by decide), v.1 7 (by decide), v.1 67 (by decide), v.1 9 (by decide), v.1 69 (by decide), v.1 10 (by decide), v.1 70 (by decide), v.1 11 (by decide), v.1 71 (by decide), v.1 12 (by decide), v.1 72 (by decide), v.1 14 (by decide), v.1 81 (by decide), v.1 50 (by decide), v.1 91 (by decide), v.1 61 (by decide), v.1 92 (by decide), v.1 52 (by decide), v.1 93 (by decide), v.1 53 (by decide), v.1 94 (by decide), v.1 54 (by decide), v.1 95 (by decide), v.1 56 (by decide), v.1 96 (by decide), v.1 57 (by decide), v.1 98 (by decide), v.1 58 (by decide), v.1 99 (by decide), v.1 59 (by decide), v.1 100 (by decide)]
    exact h1
  · refine ⟨?_, e7, ?_, ?_, e8, e01⟩
    · rw [v.1 0 (by decide), f62 0 (by decide) (by decide)]; exact h2.1
    · rw [v.1 25 (by decide), f62 27 (by decide) (by decide)]; exact h2.2.2.1
    · rw [v.1 25 (by decide), f62 28 (by decide) (by decide)]; exact h2.2.2.2.1
  · unfold E3
    rw [v.1 1 (by decide), v.1 13 (by decide), v.1 51 (by decide), v.1 55 (by decide), f62 1 (by decide) (by decide), f62 26 (by decide) (by decide), f62 49 (by decide) (by decide), f62 50 (by decide) (by decide)]
    exact h3
  · unfold E5
    rw [v.1 96 (by decide), v.1 60 (by decide), v.1 65 (by decide), v.1 97 (by decide), v.1 98 (by decide)]
    exact h5
  · unfold E4
    rw [v.1 66 (by decide), v.1 68 (by decide), v.1 69 (by decide)]
    exact h4
  · unfold E6
    rw [v.1 35 (by decide), v.1 36 (by decide), v.1 34 (by decide), v.1 39 (by decide), v.1 40 (by decide), v.1 38 (by decide), v.1 43 (by decide), v.1 44 (by decide), v.1 42 (by decide), v.1 47 (by decide), v.1 48 (by decide), v.1 46 (by decide), v.1 88 (by decide), v.1 89 (by decide), v.1 87 (by decide), v.1 90 (by decide)]
    exact h6
set_option maxRecDepth 100000 in
set_option maxHeartbeats 2000000 in
theorem pr_plan : Pair (INV XI) mX11_plan mX12_plan [] := by
  intro M hM
  obtain ⟨h1, h2, ⟨n, t, k, w, h3, h5⟩, h4, h6, hXM⟩ := id hM
  obtain ⟨g1, g2, g3, g4, i1, i2, i3, i4, i5, i6, i7, i8⟩ := id h3
  obtain ⟨b1, b2, b3, b4, b5, b6⟩ := id h2
  obtain ⟨C, st, m, L, hG, hP⟩ := id hXM
  have hW : IW M C st m L n := ⟨h1, b1, h4, ⟨g1, i1, i2⟩, hG.1, hG.2.1, hG.2.2.1, hG.2.2.2⟩
  have gw : ∀ {a : Nat}, a ∈ GLs → a ∉ WL := fun {a} ha => by
    simp only [GLs, List.mem_cons, List.not_mem_nil, or_false] at ha
    simp only [WL, List.mem_cons, not_or, List.not_mem_nil, not_false_eq_true, and_true]
    omega
  have hF : M.1 62 12 ≠ 0 → (plcM M C st m n).1 = 1 := fun q => by
    obtain ⟨-, -, n2, q3, q4, q5⟩ := hP q
    have e := (nI_eq (by omega) (by omega)).mp (i2.symm.trans q4)
    rw [e]; exact q5
  refine tY_plan hW (fun N2 hc2 => ⟨_, rfl, ?_⟩)
  generalize eN : wr N2 29 8 (if (plcM M C st m n).1 = 1 then 1 else 0) = N
  have fN : ∀ a, a ∉ CL6 → N.1 a = M.1 a := fun a ha => by rw [← eN, rd2 (CL6_ne ha).2.2.1]; exact hc2.1 a ha
  have hV : Vw M N := by rw [← eN]; exact hc2.vw.cr (by decide) (fun q => absurd q (by decide))
  have er : plcM N C st m n = (plcM M C st m n) := plcM_cg (PLs_vw hV) hV.2.1 C st m n
  have hok := plc_ok (lm := M.1 66) (ft := ftB M C st m) n 0 (fun _ => 0) 0 (fun _ => Nat.zero_le _) (Nat.zero_le _) (fun _ _ => rfl)
  refine tM_plan (hW.vw hV) (by
    rw [er]
    intro e N3 hc3
    have w62 : ∀ i, i ≠ 42 → N3.1 62 i = M.1 62 i := fun i hi => (hc3.2.1 i hi).trans (by rw [fN 62 (by decide)])
    have f29 : N3.1 29 = N.1 29 := hc3.1 29 (by decide)
    generalize eF : wr (wa N3 86 (cpyF (N3.1 85) (N3.1 86) 12)) 62 12 1 = Nf
    have v : Vw M Nf := by
      rw [← eF]
      exact ((hV.tr hc3.vw).ca (by decide) (by decide)).cr (by decide) (fun _ => by decide)
    have x62 : ∀ i, i ≠ 42 → i ≠ 12 → Nf.1 62 i = M.1 62 i := fun i q1 q2 => by rw [← eF, rd3 q2, rdb (by decide)]; exact w62 i q1
    have x12 : Nf.1 62 12 = 1 := by rw [← eF, rd1]
    have x29 : Nf.1 29 = N.1 29 := by rw [← eF, rd2 (by decide), rdb (by decide)]; exact f29
    refine ⟨by rw [e]; rfl, INV_pl hM v x62 ?_ ?_ (Or.inr x12) ?_⟩
    · rw [x29, ← eN, rd3 (by decide), ← eF, rd3 (by decide), rdb (by decide), hc3.2.2.1]; exact hc2.2.2.1
    · rw [x29, x12, ← eN, rd1, if_pos e]
    · refine ⟨C, st, m, L, GX_fr hG (v.1 21 (by decide)) (v.1 22 (by decide)) (v.1 23 (by decide)) (v.1 73 (by decide)) (v.1 74 (by decide)) (v.1 75 (by decide)) (v.1 76 (by decide)) (by rw [v.1 20 (by decide)]) v.2.2.2, fun _ => ?_⟩
      have y30 : ∀ j, j < 12 → Nf.1 30 j = tp ((plcM M C st m n).2.1 j) := fun j hj => by
        rw [← eF, rd2 (by decide), rdb (by decide), hc3.1 30 (by decide), ← eN, rd2 (by decide)]
        exact hc2.2.2.2.1 j hj
      have y86 : ∀ j, j < 12 → Nf.1 86 j = tp ((plcM M C st m n).2.1 j) := fun j hj => by
        rw [← eF, rd2 (by decide), rda, cpyF_lt hj]
        exact hc3.2.2.2 j hj
      refine ⟨fun j hj => (y30 j hj).trans (y86 j hj).symm, fun j hj => ?_, n, g1, v.2.2.1.trans i2, ?_⟩
      · rw [y86 j hj]
        have z := hok.2.1 j
        rcases hq : (plcM M C st m n).2.1 j with _ | q
        · exact Or.inl rfl
        · right
          have z2 : (plcM M C st m n).2.1 j ≤ 24 := z
          exact ⟨q, by omega, rfl⟩
      · rw [plcM_cg (PLs_vw v) v.2.1]; exact e) (by
    rw [er]
    intro e N3 hc3
    have hno : M.1 62 12 = 0 := by
      rcases b6 with q | q
      · exact q
      · exact absurd ((hF (by rw [q]; decide)).symm.trans e) (by decide)
    have w62 : ∀ i, i ≠ 42 → N3.1 62 i = M.1 62 i := fun i hi => (hc3.2.1 i hi).trans (by rw [fN 62 (by decide)])
    have f29 : N3.1 29 = N.1 29 := hc3.1 29 (by decide)
    have v : Vw M N3 := hV.tr hc3.vw
    refine ⟨by rw [e]; rfl, INV_pl hM v (fun i q1 _ => w62 i q1) ?_ ?_ ?_ ?_⟩
    · rw [f29, hc3.2.2.1, ← eN, rd3 (by decide)]; exact hc2.2.2.1
    · rw [f29, w62 12 (by decide), hno, ← eN, rd1, e]; rfl
    · left; rw [w62 12 (by decide)]; exact hno
    · exact XI_cl hXM (fun a ha => v.1 a (gw ha)) (by rw [v.1 20 (by decide)]) (w62 17 (by decide)) (by rw [w62 12 (by decide)]; exact hno)
    ) (by
    rw [er]
    intro e N3 hc3
    have hno : M.1 62 12 = 0 := by
      rcases b6 with q | q
      · exact q
      · exact absurd ((hF (by rw [q]; decide)).symm.trans e) (by decide)
    have w62 : ∀ i, i ≠ 42 → N3.1 62 i = M.1 62 i := fun i hi => (hc3.2.1 i hi).trans (by rw [fN 62 (by decide)])
    have f29 : N3.1 29 = N.1 29 := hc3.1 29 (by decide)
    have v : Vw M N3 := hV.tr hc3.vw
    refine ⟨by rw [e]; rfl, INV_pl hM v (fun i q1 _ => w62 i q1) ?_ ?_ ?_ ?_⟩
    · rw [f29, hc3.2.2.1, ← eN, rd3 (by decide)]; exact hc2.2.2.1
    · rw [f29, w62 12 (by decide), hno, ← eN, rd1, e]; rfl
    · left; rw [w62 12 (by decide)]; exact hno
    · exact XI_cl hXM (fun a ha => v.1 a (gw ha)) (by rw [v.1 20 (by decide)]) (w62 17 (by decide)) (by rw [w62 12 (by decide)]; exact hno)
    )

theorem byt_b (v s : Int32) : ∃ u, u < 256 ∧ byt v s = nI u := by
  obtain ⟨j, hj, e⟩ := pk_andE (v >>> (s &&& 31)) (m := 255) 8 (by decide)
  exact ⟨j, by omega, e⟩
theorem ap4_b {f : Nat → Int32} {n : Nat} {v : Int32} (h : ∀ i, ∃ u, u < 256 ∧ f i = nI u) : ∀ i, ∃ u, u < 256 ∧ ap4 f n v i = nI u :=
  updP (P := fun q => ∃ u, u < 256 ∧ q = nI u) (updP (P := fun q => ∃ u, u < 256 ∧ q = nI u) (updP (P := fun q => ∃ u, u < 256 ∧ q = nI u) (updP (P := fun q => ∃ u, u < 256 ∧ q = nI u) h (byt_b _ _)) (byt_b _ _)) (byt_b _ _)) (byt_b _ _)
theorem ap20_b {f : Nat → Int32} {n : Nat} {a b c d e : Int32} (h : ∀ i, ∃ u, u < 256 ∧ f i = nI u) : ∀ i, ∃ u, u < 256 ∧ ap20 f n a b c d e i = nI u := ap4_b (ap4_b (ap4_b (ap4_b (ap4_b h))))
def XL2 : List Nat := [21, 22, 23, 30, 73, 74, 75, 76, 86, 63, 64, 65, 66, 69, 70, 71, 72, 14, 17, 18, 20]
def GL2 : List Nat := [21, 22, 23, 73, 74, 75, 76, 14, 17, 18, 20]
theorem XL2_X {a : Nat} (h : a ∈ XLs) : a ∈ XL2 := by
  simp only [XLs, List.mem_cons, List.not_mem_nil, or_false] at h
  simp only [XL2, List.mem_cons, List.not_mem_nil, or_false]
  omega
theorem GL2_G {a : Nat} (h : a ∈ GLs) : a ∈ GL2 := by
  simp only [GLs, List.mem_cons, List.not_mem_nil, or_false] at h
  simp only [GL2, List.mem_cons, List.not_mem_nil, or_false]
  omega
theorem XJ_fr {M N : Mem} (h : XJ M) (f : ∀ a, a ∈ XL2 → N.1 a = M.1 a) (e62 : ∀ i, i = 0 ∨ i = 1 ∨ i = 12 ∨ i = 17 → N.1 62 i = M.1 62 i) : XJ N :=
  ⟨XI_fr h.1 (fun a ha => f a (XL2_X ha)) (by rw [f 20 (by decide)]) e62, XE_fr h.2 (f 14 (by decide)) (f 17 (by decide)) (f 18 (by decide))⟩
theorem XJ_cl {M N : Mem} (h : XJ M) (f : ∀ a, a ∈ GL2 → N.1 a = M.1 a) (e17 : N.1 62 17 = M.1 62 17) (e12 : N.1 62 12 = 0) : XJ N :=
  ⟨XI_cl h.1 (fun a ha => f a (GL2_G ha)) (by rw [f 20 (by decide)]) e17 e12, XE_fr h.2 (f 14 (by decide)) (f 17 (by decide)) (f 18 (by decide))⟩
theorem XJ0 : XJ M0 := ⟨⟨fun _ => 0, fun _ => 0, 0, 0, ⟨⟨rfl, fun _ _ => rfl, fun i hi => absurd hi (Nat.not_lt_zero _)⟩, ⟨rfl, fun _ _ => rfl, fun i hi => absurd hi (Nat.not_lt_zero _)⟩, ⟨Nat.zero_le _, Nat.zero_le _, fun r hr => absurd hr (Nat.not_lt_zero _)⟩, fun r hr => absurd hr (Nat.not_lt_zero _)⟩, fun q => absurd rfl q⟩, rfl, fun _ => Or.inl rfl, fun _ => ⟨0, by decide, rfl⟩⟩
set_option maxRecDepth 100000 in
set_option maxHeartbeats 2000000 in
theorem pr_feedJ {x1 x2 x3 x4 x5 : Int32} : Pair (INV XJ) mX11_feed mX12_feed [.int x1, .int x2, .int x3, .int x4, .int x5] := by
  intro M hM
  obtain ⟨h1, h2, ⟨n, t, k, w, h3, h5⟩, h4, h6, hXM⟩ := id hM
  obtain ⟨g1, g2, g3, g4, i1, i2, i3, i4, i5, i6, i7, i8⟩ := id h3
  obtain ⟨b1, b2, b3, b4, b5, b6⟩ := id h2
  obtain ⟨a0, a1, a2, a3, a4, a5, a6, a7, a8, a9, a10, a11, a12, a13, a14, a15, a16, a17, a18, a19⟩ := id h1
  refine tY_feed i3 g2 (fun q => ⟨_, rfl, ?_⟩) (fun hq => ⟨_, rfl, ?_⟩)
  · exact tM_feed i4 g2 (fun _ => ⟨rfl, hM⟩) (fun e => absurd e q)
  · refine tM_feed (n := t) (by simp [wr, wa, i4]) g2 (fun q => absurd hq q) (fun _ => ?_)
    have ef : (wr (wa M 14 (ap20 (M.1 14) t x1 x2 x3 x4 x5)) 13 1 (nI (t + 20))).1 81 = M.1 14 := by simp [wr, wa, a10]
    rw [ef]
    refine ⟨rfl, ⟨by simp [wr, wa, a0], by simp [wr, wa, a1], by simp [wr, wa, a2], by simp [wr, wa, a3], by simp [wr, wa, a4], by simp [wr, wa, a5], by simp [wr, wa, a6], by simp [wr, wa, a7], by simp [wr, wa, a8], by simp [wr, wa, a9], by rw [rd2 (by decide), rdb (by decide), rd2 (by decide), rda, rd2 (by decide), rda], by simp [wr, wa, a11], by simp [wr, wa, a12], by simp [wr, wa, a13], by simp [wr, wa, a14], by simp [wr, wa, a15], by simp [wr, wa, a16], by simp [wr, wa, a17], by simp [wr, wa, a18], by simp [wr, wa, a19]⟩, ⟨by simp [wr, wa, upd, b1], by simp [wr, wa, upd, b2], by simp [wr, wa, upd, b3], by simp [wr, wa, upd, b4], by simp [wr, wa, upd, b5], by simpa [wr, wa, upd] using b6⟩, ⟨n, (t + 20), k, w, ⟨g1, hq, g3, g4, by simp [wr, wa, upd, i1], by simp [wr, wa, upd, i2], by simp [wr, wa, upd], by simp [wr, wa, upd], by simp [wr, wa, upd, i5], by simp [wr, wa, upd, i6], by simp [wr, wa, upd, i7], by simp [wr, wa, upd, i8]⟩, ?_⟩, ?_, ?_, ?_⟩
    · simpa [E5, wr, wa] using h5
    · simpa [E4, wr, wa] using h4
    · simpa [E6, wr, wa] using h6
    · have ne : ∀ a, a ∈ XLs → a ≠ 62 ∧ a ≠ 81 ∧ a ≠ 13 ∧ a ≠ 14 := fun a ha => by
        simp only [XLs, List.mem_cons, List.not_mem_nil, or_false] at ha
        omega
      refine ⟨XI_fr hXM.1 (fun a ha => ?_) ?_ (fun i hi => ?_), ?_, ?_, ?_⟩
      · obtain ⟨q1, q2, q3, q4⟩ := ne a ha
        rw [rd2 q1, rdb q2, rd2 q3, rdb q4]
      · rw [rd2 (by decide), rdb (by decide), rd2 (by decide), rdb (by decide)]
      · rw [rd3 (by omega), rdb (by decide), rd2 (by decide), rdb (by decide)]
      · rw [rd2 (by decide), rdb (by decide), rd2 (by decide), rdb (by decide)]; exact hXM.2.1
      · rw [rd2 (by decide), rdb (by decide), rd2 (by decide), rdb (by decide)]; exact hXM.2.2.1
      · rw [rd2 (by decide), rdb (by decide), rd2 (by decide), rda]; exact ap20_b hXM.2.2.2
set_option maxRecDepth 100000 in
set_option maxHeartbeats 2000000 in
theorem pr_planJ : Pair (INV XJ) mX11_plan mX12_plan [] := by
  intro M hM
  obtain ⟨h1, h2, ⟨n, t, k, w, h3, h5⟩, h4, h6, hXM⟩ := id hM
  obtain ⟨g1, g2, g3, g4, i1, i2, i3, i4, i5, i6, i7, i8⟩ := id h3
  obtain ⟨b1, b2, b3, b4, b5, b6⟩ := id h2
  obtain ⟨⟨C, st, m, L, hG, hP⟩, hE⟩ := id hXM
  have hW : IW M C st m L n := ⟨h1, b1, h4, ⟨g1, i1, i2⟩, hG.1, hG.2.1, hG.2.2.1, hG.2.2.2⟩
  have gw : ∀ {a : Nat}, a ∈ GLs → a ∉ WL := fun {a} ha => by
    simp only [GLs, List.mem_cons, List.not_mem_nil, or_false] at ha
    simp only [WL, List.mem_cons, not_or, List.not_mem_nil, not_false_eq_true, and_true]
    omega
  have hF : M.1 62 12 ≠ 0 → (plcM M C st m n).1 = 1 := fun q => by
    obtain ⟨-, -, n2, q3, q4, q5⟩ := hP q
    have e := (nI_eq (by omega) (by omega)).mp (i2.symm.trans q4)
    rw [e]; exact q5
  refine tY_plan hW (fun N2 hc2 => ⟨_, rfl, ?_⟩)
  generalize eN : wr N2 29 8 (if (plcM M C st m n).1 = 1 then 1 else 0) = N
  have fN : ∀ a, a ∉ CL6 → N.1 a = M.1 a := fun a ha => by rw [← eN, rd2 (CL6_ne ha).2.2.1]; exact hc2.1 a ha
  have hV : Vw M N := by rw [← eN]; exact hc2.vw.cr (by decide) (fun q => absurd q (by decide))
  have er : plcM N C st m n = (plcM M C st m n) := plcM_cg (PLs_vw hV) hV.2.1 C st m n
  have hok := plc_ok (lm := M.1 66) (ft := ftB M C st m) n 0 (fun _ => 0) 0 (fun _ => Nat.zero_le _) (Nat.zero_le _) (fun _ _ => rfl)
  refine tM_plan (hW.vw hV) (by
    rw [er]
    intro e N3 hc3
    have w62 : ∀ i, i ≠ 42 → N3.1 62 i = M.1 62 i := fun i hi => (hc3.2.1 i hi).trans (by rw [fN 62 (by decide)])
    have f29 : N3.1 29 = N.1 29 := hc3.1 29 (by decide)
    generalize eF : wr (wa N3 86 (cpyF (N3.1 85) (N3.1 86) 12)) 62 12 1 = Nf
    have v : Vw M Nf := by
      rw [← eF]
      exact ((hV.tr hc3.vw).ca (by decide) (by decide)).cr (by decide) (fun _ => by decide)
    have x62 : ∀ i, i ≠ 42 → i ≠ 12 → Nf.1 62 i = M.1 62 i := fun i q1 q2 => by rw [← eF, rd3 q2, rdb (by decide)]; exact w62 i q1
    have x12 : Nf.1 62 12 = 1 := by rw [← eF, rd1]
    have x29 : Nf.1 29 = N.1 29 := by rw [← eF, rd2 (by decide), rdb (by decide)]; exact f29
    refine ⟨by rw [e]; rfl, INV_pl hM v x62 ?_ ?_ (Or.inr x12) ?_⟩
    · rw [x29, ← eN, rd3 (by decide), ← eF, rd3 (by decide), rdb (by decide), hc3.2.2.1]; exact hc2.2.2.1
    · rw [x29, x12, ← eN, rd1, if_pos e]
    · refine ⟨⟨C, st, m, L, GX_fr hG (v.1 21 (by decide)) (v.1 22 (by decide)) (v.1 23 (by decide)) (v.1 73 (by decide)) (v.1 74 (by decide)) (v.1 75 (by decide)) (v.1 76 (by decide)) (by rw [v.1 20 (by decide)]) v.2.2.2, fun _ => ?_⟩, XE_fr hE (v.1 14 (by decide)) (v.1 17 (by decide)) (v.1 18 (by decide))⟩
      have y30 : ∀ j, j < 12 → Nf.1 30 j = tp ((plcM M C st m n).2.1 j) := fun j hj => by
        rw [← eF, rd2 (by decide), rdb (by decide), hc3.1 30 (by decide), ← eN, rd2 (by decide)]
        exact hc2.2.2.2.1 j hj
      have y86 : ∀ j, j < 12 → Nf.1 86 j = tp ((plcM M C st m n).2.1 j) := fun j hj => by
        rw [← eF, rd2 (by decide), rda, cpyF_lt hj]
        exact hc3.2.2.2 j hj
      refine ⟨fun j hj => (y30 j hj).trans (y86 j hj).symm, fun j hj => ?_, n, g1, v.2.2.1.trans i2, ?_⟩
      · rw [y86 j hj]
        have z := hok.2.1 j
        rcases hq : (plcM M C st m n).2.1 j with _ | q
        · exact Or.inl rfl
        · right
          have z2 : (plcM M C st m n).2.1 j ≤ 24 := z
          exact ⟨q, by omega, rfl⟩
      · rw [plcM_cg (PLs_vw v) v.2.1]; exact e) (by
    rw [er]
    intro e N3 hc3
    have hno : M.1 62 12 = 0 := by
      rcases b6 with q | q
      · exact q
      · exact absurd ((hF (by rw [q]; decide)).symm.trans e) (by decide)
    have w62 : ∀ i, i ≠ 42 → N3.1 62 i = M.1 62 i := fun i hi => (hc3.2.1 i hi).trans (by rw [fN 62 (by decide)])
    have f29 : N3.1 29 = N.1 29 := hc3.1 29 (by decide)
    have v : Vw M N3 := hV.tr hc3.vw
    refine ⟨by rw [e]; rfl, INV_pl hM v (fun i q1 _ => w62 i q1) ?_ ?_ ?_ ?_⟩
    · rw [f29, hc3.2.2.1, ← eN, rd3 (by decide)]; exact hc2.2.2.1
    · rw [f29, w62 12 (by decide), hno, ← eN, rd1, e]; rfl
    · left; rw [w62 12 (by decide)]; exact hno
    · exact ⟨XI_cl hXM.1 (fun a ha => v.1 a (gw ha)) (by rw [v.1 20 (by decide)]) (w62 17 (by decide)) (by rw [w62 12 (by decide)]; exact hno), XE_fr hE (v.1 14 (by decide)) (v.1 17 (by decide)) (v.1 18 (by decide))⟩
    ) (by
    rw [er]
    intro e N3 hc3
    have hno : M.1 62 12 = 0 := by
      rcases b6 with q | q
      · exact q
      · exact absurd ((hF (by rw [q]; decide)).symm.trans e) (by decide)
    have w62 : ∀ i, i ≠ 42 → N3.1 62 i = M.1 62 i := fun i hi => (hc3.2.1 i hi).trans (by rw [fN 62 (by decide)])
    have f29 : N3.1 29 = N.1 29 := hc3.1 29 (by decide)
    have v : Vw M N3 := hV.tr hc3.vw
    refine ⟨by rw [e]; rfl, INV_pl hM v (fun i q1 _ => w62 i q1) ?_ ?_ ?_ ?_⟩
    · rw [f29, hc3.2.2.1, ← eN, rd3 (by decide)]; exact hc2.2.2.1
    · rw [f29, w62 12 (by decide), hno, ← eN, rd1, e]; rfl
    · left; rw [w62 12 (by decide)]; exact hno
    · exact ⟨XI_cl hXM.1 (fun a ha => v.1 a (gw ha)) (by rw [v.1 20 (by decide)]) (w62 17 (by decide)) (by rw [w62 12 (by decide)]; exact hno), XE_fr hE (v.1 14 (by decide)) (v.1 17 (by decide)) (v.1 18 (by decide))⟩
    )
theorem hX_takes : ∀ M j v, XJ M → XJ (wr (wr M 6 j v) 68 j v) := fun M j v h => XJ_fr h (fun a ha => by rw [rd2 (fun q => absurd ha (by rw [q]; decide)), rd2 (fun q => absurd ha (by rw [q]; decide))]) (fun i hi => by rw [rd2 (by decide), rd2 (by decide)])
theorem hX_price : ∀ M j v, XJ M → XJ (wr (wr M 50 j v) 91 j v) := fun M j v h => XJ_fr h (fun a ha => by rw [rd2 (fun q => absurd ha (by rw [q]; decide)), rd2 (fun q => absurd ha (by rw [q]; decide))]) (fun i hi => by rw [rd2 (by decide), rd2 (by decide)])
theorem hX_falls : ∀ M j v, XJ M → XJ (wr (wr M 61 j v) 92 j v) := fun M j v h => XJ_fr h (fun a ha => by rw [rd2 (fun q => absurd ha (by rw [q]; decide)), rd2 (fun q => absurd ha (by rw [q]; decide))]) (fun i hi => by rw [rd2 (by decide), rd2 (by decide)])
theorem hX_lame : ∀ M j v, XJ M → XJ (wr (wr (wr (wr M 29 8 0) 5 j v) 66 j v) 62 12 0) := fun M j v h => XJ_cl h (fun a ha => by rw [rd2 (fun q => absurd ha (by rw [q]; decide)), rd2 (fun q => absurd ha (by rw [q]; decide)), rd2 (fun q => absurd ha (by rw [q]; decide)), rd2 (fun q => absurd ha (by rw [q]; decide))]) (by rw [rd3 (by decide), rd2 (by decide), rd2 (by decide), rd2 (by decide)]) rd1
theorem hX_field : ∀ M j v u, XJ M → XJ (wr (wr (wr (wr (wr (wr M 29 8 0) 9 j v) 10 j u) 69 j v) 70 j u) 62 12 0) := fun M j v u h => XJ_cl h (fun a ha => by rw [rd2 (fun q => absurd ha (by rw [q]; decide)), rd2 (fun q => absurd ha (by rw [q]; decide)), rd2 (fun q => absurd ha (by rw [q]; decide)), rd2 (fun q => absurd ha (by rw [q]; decide)), rd2 (fun q => absurd ha (by rw [q]; decide)), rd2 (fun q => absurd ha (by rw [q]; decide))]) (by rw [rd3 (by decide), rd2 (by decide), rd2 (by decide), rd2 (by decide), rd2 (by decide), rd2 (by decide)]) rd1
theorem hX_shut : ∀ M j v, XJ M → XJ (wr (wr (wr (wr M 29 8 0) 11 j v) 71 j v) 62 12 0) := fun M j v h => XJ_cl h (fun a ha => by rw [rd2 (fun q => absurd ha (by rw [q]; decide)), rd2 (fun q => absurd ha (by rw [q]; decide)), rd2 (fun q => absurd ha (by rw [q]; decide)), rd2 (fun q => absurd ha (by rw [q]; decide))]) (by rw [rd3 (by decide), rd2 (by decide), rd2 (by decide), rd2 (by decide)]) rd1
theorem hX_gate : ∀ M j i v, XJ M → XJ (wr (wr (wr (wr (wr (wr M 29 8 0) 12 j v) 12 i v) 72 j v) 72 i v) 62 12 0) := fun M j i v h => XJ_cl h (fun a ha => by rw [rd2 (fun q => absurd ha (by rw [q]; decide)), rd2 (fun q => absurd ha (by rw [q]; decide)), rd2 (fun q => absurd ha (by rw [q]; decide)), rd2 (fun q => absurd ha (by rw [q]; decide)), rd2 (fun q => absurd ha (by rw [q]; decide)), rd2 (fun q => absurd ha (by rw [q]; decide))]) (by rw [rd3 (by decide), rd2 (by decide), rd2 (by decide), rd2 (by decide), rd2 (by decide), rd2 (by decide)]) rd1
theorem hX_end : ∀ M v, XJ M → XJ (wr (wr M 13 1 v) 62 26 v) := fun M v h => XJ_fr h (fun a ha => by rw [rd2 (fun q => absurd ha (by rw [q]; decide)), rd2 (fun q => absurd ha (by rw [q]; decide))]) (fun i hi => by rw [rd3 (by omega), rd2 (by decide)])
theorem hX_horse : ∀ M n u v d, XJ M → XJ (wr (wr (wr (wr (wr (wr (wr (wr (wr (wr (wr (wr (wr M 29 8 0) 2 n u) 3 n v) 4 n d) 1 6 (nI (n + 1))) 60 (n * 3) d) 60 (n * 3 + 1) d) 60 (n * 3 + 2) d) 63 n u) 64 n v) 65 n d) 62 1 (nI (n + 1))) 62 12 0) := fun M n u v d h => XJ_cl h (fun a ha => by rw [rd2 (fun q => absurd ha (by rw [q]; decide)), rd2 (fun q => absurd ha (by rw [q]; decide)), rd2 (fun q => absurd ha (by rw [q]; decide)), rd2 (fun q => absurd ha (by rw [q]; decide)), rd2 (fun q => absurd ha (by rw [q]; decide)), rd2 (fun q => absurd ha (by rw [q]; decide)), rd2 (fun q => absurd ha (by rw [q]; decide)), rd2 (fun q => absurd ha (by rw [q]; decide)), rd2 (fun q => absurd ha (by rw [q]; decide)), rd2 (fun q => absurd ha (by rw [q]; decide)), rd2 (fun q => absurd ha (by rw [q]; decide)), rd2 (fun q => absurd ha (by rw [q]; decide)), rd2 (fun q => absurd ha (by rw [q]; decide))]) (by rw [rd3 (by decide), rd3 (by decide), rd2 (by decide), rd2 (by decide), rd2 (by decide), rd2 (by decide), rd2 (by decide), rd2 (by decide), rd2 (by decide), rd2 (by decide), rd2 (by decide), rd2 (by decide), rd2 (by decide)]) rd1
theorem hX_work : ∀ M w j v d c i l s, XJ M → XJ (wr (wr (wr (wr (wr (wr (wr (wr (wr (wr (wr (wr M 56 w j) 57 w v) 58 w d) 59 w c) 55 6 (nI (w + 1))) 60 i l) 96 w j) 97 w s) 98 w v) 99 w d) 100 w c) 62 50 (nI (w + 1))) := fun M w j v d c i l s h => XJ_fr h (fun a ha => by rw [rd2 (fun q => absurd ha (by rw [q]; decide)), rd2 (fun q => absurd ha (by rw [q]; decide)), rd2 (fun q => absurd ha (by rw [q]; decide)), rd2 (fun q => absurd ha (by rw [q]; decide)), rd2 (fun q => absurd ha (by rw [q]; decide)), rd2 (fun q => absurd ha (by rw [q]; decide)), rd2 (fun q => absurd ha (by rw [q]; decide)), rd2 (fun q => absurd ha (by rw [q]; decide)), rd2 (fun q => absurd ha (by rw [q]; decide)), rd2 (fun q => absurd ha (by rw [q]; decide)), rd2 (fun q => absurd ha (by rw [q]; decide)), rd2 (fun q => absurd ha (by rw [q]; decide))]) (fun i hi => by rw [rd3 (by omega), rd2 (by decide), rd2 (by decide), rd2 (by decide), rd2 (by decide), rd2 (by decide), rd2 (by decide), rd2 (by decide), rd2 (by decide), rd2 (by decide), rd2 (by decide), rd2 (by decide)])
theorem XL2_bin {a b c : Nat} (ha : a ∈ XL2) (hb : b < 4) (hc : c < 4) : a ≠ 34 + 4 * b + c := by
  simp only [XL2, List.mem_cons, List.not_mem_nil, or_false] at ha
  omega
theorem XL2_no {a : Nat} (ha : a ∈ XL2) : a ≠ 87 ∧ a ≠ 88 ∧ a ≠ 89 ∧ a ≠ 101 := by
  simp only [XL2, List.mem_cons, List.not_mem_nil, or_false] at ha
  omega
theorem hX_lot : ∀ M b n p y z, b < 4 → XJ M → XJ (wr (wr (wr (W2 (wr (wr (wr (W2 M (34 + 4 * b + 1) (34 + 4 * b + 2) (shF (M.1 (34 + 4 * b + 1)) p n) (shF (M.1 (34 + 4 * b + 2)) p n)) (34 + 4 * b + 1) p y) (34 + 4 * b + 2) p z) (34 + 4 * b) 3 (nI (n + 1))) 88 89 (shF (M.1 88) (20 * b + p) (20 * b + n)) (shF (M.1 89) (20 * b + p) (20 * b + n))) 89 (20 * b + p) z) 88 (20 * b + p) y) 87 b (nI (n + 1))) := fun M b n p y z hb h => by
  unfold W2
  refine XJ_fr h (fun a ha => ?_) (fun i hi => ?_)
  · obtain ⟨q1, q2, q3, q4⟩ := XL2_no ha
    have k0 : a ≠ 34 + 4 * b := XL2_bin (c := 0) ha hb (by decide)
    have k1 := XL2_bin (c := 1) ha hb (by decide)
    have k2 := XL2_bin (c := 2) ha hb (by decide)
    rw [rd2 q1, rd2 q2, rd2 q3, rdb q3, rdb q2, rd2 k0, rd2 k2, rd2 k1, rdb k2, rdb k1]
  · have k0 : 62 ≠ 34 + 4 * b := by omega
    have k1 : 62 ≠ 34 + 4 * b + 1 := by omega
    have k2 : 62 ≠ 34 + 4 * b + 2 := by omega
    rw [rd2 (by decide), rd2 (by decide), rd2 (by decide), rdb (by decide), rdb (by decide), rd2 k0, rd2 k2, rd2 k1, rdb k2, rdb k1]
theorem hX_foretold : ∀ M b g g2, b < 4 → XJ M → XJ (wa (wa M (34 + 4 * b + 3) g) 101 g2) := fun M b g g2 hb h => by
  refine XJ_fr h (fun a ha => ?_) (fun i hi => ?_)
  · rw [rdb (XL2_no ha).2.2.2, rdb (XL2_bin (c := 3) ha hb (by decide))]
  · rw [rdb (by decide), rdb (by omega)]
theorem hX_night : ∀ M M2, XJ M → (∀ a, a ∉ NRL → M2.1 a = M.1 a) → M2.1 62 12 = 0 → M2.1 29 8 = 0 → (∀ i, i ≠ 0 → i ≠ 12 → i ≠ 49 → M2.1 62 i = M.1 62 i) → XJ M2 := fun M M2 h f e12 _ e62 =>
  XJ_cl h (fun a ha => f a (by
    simp only [GL2, List.mem_cons, List.not_mem_nil, or_false] at ha
    simp only [NRL, List.mem_cons, not_or, List.not_mem_nil, not_false_eq_true, and_true]
    omega)) (e62 17 (by decide) (by decide) (by decide)) e12
theorem hX_vw : ∀ M N, XJ M → Vw M N → N.1 29 = M.1 29 → N.1 30 = M.1 30 → N.1 86 = M.1 86 → N.1 62 = M.1 62 → XJ N := fun M N h v _ e30 e86 e62 =>
  XJ_fr h (fun a ha => by
    by_cases q1 : a = 30
    · rw [q1]; exact e30
    by_cases q2 : a = 86
    · rw [q2]; exact e86
    refine v.1 a ?_
    simp only [XL2, List.mem_cons, List.not_mem_nil, or_false] at ha
    simp only [WL, List.mem_cons, not_or, List.not_mem_nil, not_false_eq_true, and_true]
    omega) (fun i _ => by rw [e62])
theorem hX_7 : ∀ M, XJ M → G7 M := fun M h => XI_7 h.1
theorem hX_about : ∀ M, XJ M → M.1 20 5 = M.1 62 17 := fun M h => by
  obtain ⟨C, st, m, L, hG, -⟩ := h.1
  exact hG.1.1.trans hG.2.1.1.symm
theorem hX_out : ∀ M, XJ M → M.1 62 12 ≠ 0 → (∀ j, j < 12 → M.1 30 j = M.1 86 j) ∧ ∀ j, j < 12 → M.1 86 j = -1 ∨ ∃ s, s < 24 ∧ M.1 86 j = nI s := fun M h q => by
  obtain ⟨C, st, m, L, -, hP⟩ := h.1
  exact ⟨(hP q).1, (hP q).2.1⟩
/-- the law, for every script -/
theorem law_all (L : Nat) (xs : Nat → Int32) (hL : L ≤ 3072) : J (scr L xs) 1000 600000 7302249 mL_law 0 [some (.ref jBig)] [] (0, HS M0) (fun v _ => v = some 1) :=
  law_pure (INV := INV XJ) (INV0 XJ0) (fun _ _ => pr_horse hX_horse) (fun _ _ hz => pr_lame hz hX_lame) (fun _ _ _ => pr_field hX_field) (fun _ _ => pr_shut hX_shut) (fun _ _ _ hz => pr_gate hz hX_gate) (fun _ _ _ _ _ => pr_feedJ) (fun _ => pr_end hX_end) pr_rules (fun _ => pr_fault) (fun _ _ _ => pr_may hX_7 hX_vw) (fun _ _ _ _ _ => pr_meet hX_7 hX_vw) pr_planJ pr_tries (fun _ => pr_out hX_out) (pr_stuck hX_7 hX_vw) (fun _ _ _ => pr_lot hX_lot) (fun _ _ _ => pr_takes hX_takes) (fun _ _ => pr_price hX_price) (fun _ _ => pr_falls hX_falls) (pr_night hX_night) (fun _ _ => pr_bin) (fun _ => pr_foretold hX_foretold) (fun _ _ _ => pr_work hX_work) (fun _ _ => pr_due) (fun _ _ _ _ => pr_bill) (fun _ => pr_lacked) (fun _ => pr_about hX_about) L xs hL

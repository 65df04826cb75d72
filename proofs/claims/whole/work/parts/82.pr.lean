set_option maxHeartbeats 1000000 in
theorem sim_5 {M0 : Mem} {T : Nat → Nat} {n lim d0 : Nat} {b : Int32} {Φ : Option Int32 → Mem → Prop} {k : Nat} (E : ER M0 T n lim b) (i6 : SN M0 T n lim d0 b Φ k 6 5 3 7 tp6 pk6 kn6 false) : SN M0 T n lim d0 b Φ (k + 1) 5 6 2 7 tp5 pk5 kn5 false := by
  intro d x ws N st hc hdp hlen hd hw hst0 hst hb hm hF hG
  have hT : ∀ i, T i < 256 := fun i => (E.2.2.1 i).2
  have hn := E.1
  rw [prs, if_neg (by decide), if_neg (by decide), if_neg (by decide), if_neg (by decide), if_neg (by decide), if_pos rfl] at hF hG
  have hs := hc.2.2.2.1.1
  refine i6 d x ws N st hc hdp (by omega) hd (hdW_mono (fun c (h : tp5 c) => h.elim Or.inl (fun z => Or.inr (by omega))) ws hw) hst0 hst hb (by omega) (fun v e N2 hN => ?_) (fun e N2 pend rs e1 e2 e3 e4 e5 => ?_)
  · rw [FAI, thn_s e] at hF
    exact hF v e N2 hN
  · have hz := prs_W (lim := lim) hT k 6 d x hc.2.2.2.1 hc.2.2.2.2.2.2.2.1 e
    rw [show uq 6 = 1 from rfl] at hz
    have hz1 := hz.1.1
    have hz2 := hz.1.2.1
    rw [thn_o e] at hF hG
    have hcn := codes_nop (ws := ws) e1 (fun c hcm => (e2 c hcm).2)
    have hst9 : stl 46 (pend ++ ws) (((prs T n lim k 6 d x).2.1, rs, (prs T n lim k 6 d x).2.2.2) : PSt).2.1 = (ws, rs ++ pend.map dec) := stl_pend pend ws rs (fun c hcm => ⟨(e2 c hcm).1.1, (e2 c hcm).2⟩) (hdW_mono (fun c (h : tp5 c) => h.elim Or.inl (fun z => Or.inr (by omega))) ws hw)
    by_cases hKK : isCmp (prs T n lim k 6 d x).2.1.1
    · simp only [if_pos hKK] at hF hG
      have hav := adv_W (x := (prs T n lim k 6 d x).2) hT hz.1 (by rcases hKK with q | q | q <;> omega)
      have havn := hav.1.1
      rcases hKK with hK | hK | hK
      · refine hd_s e4 (fun q => absurd (q.1.symm.trans hK) (by decide)) (tM_sg_61 (T := T) E.1 E.2.1 E.2.2.1 e4 hK (fun _ => by rw [hst9]; show ws.length < 60; omega) (by show 3 * (rs.length + nop (pend ++ ws) + 1) ≤ 6 * (prs T n lim k 6 d x).2.2.2 + (prs T n lim k 6 d x).2.1.2.2.2; omega) (fun _ N3 hc3 => ?_) (fun q => absurd (by rw [hst9] at q; exact q) (topC_no hw)))
        rw [hst9, show (((((prs T n lim k 6 d x).2.1, rs, (prs T n lim k 6 d x).2.2.2) : PSt)).1, (ws, rs ++ pend.map dec).2, ((((prs T n lim k 6 d x).2.1, rs, (prs T n lim k 6 d x).2.2.2) : PSt)).2.2) = (prs T n lim k 6 d x).2 by rw [← e1]] at hc3
        refine ⟨1, rfl, i6 d (advP T n (prs T n lim k 6 d x).2) (43 :: ws) N3 1 hc3 (by rw [dpc, if_neg (by decide)]; exact hdp) (by rw [List.length_cons]; omega) hd (show tp6 43 from Or.inr (by decide)) (fun q => absurd q (by decide)) (fun _ => Or.inl rfl) (by rw [nop, if_neg (by decide)]; show 3 * ((prs T n lim k 6 d x).2.2.1.length + _) ≤ 6 * (prs T n lim k 6 d x).2.2.2 + _; omega) (by omega) (fun v f1 N4 hN => ?_) (fun f1 N4 pend2 rs2 f2 f3 f4 f5 f6 => ?_)⟩
        · rw [FAI, thn_s f1] at hF
          exact hF v f1 N4 hN
        · rw [thn_o f1] at hG
          have hz2 := prs_W (lim := lim) hT k 6 d (advP T n (prs T n lim k 6 d x).2) hav.1 hz.2.2.2 f1
          rw [show uq 6 = 1 from rfl, adv_2] at hz2
          have hen : nop (43 :: ws) = nop ws + 1 := by rw [nop, if_neg (by decide)]
          rw [hen] at f6
          refine hG rfl N4 (pend2 ++ [43]) rs2 ?_ (fun c hcm => ?_) ⟨f4, fun _ => ?_⟩ (by rw [← app1]; exact f5) ?_
          · show (prs T n lim k 6 d (advP T n (prs T n lim k 6 d x).2)).2.2.1 ++ [(prs T n lim k 6 d x).2.1.1] = _
            exact map1 f2 (by rw [hK]; rfl)
          · rcases List.mem_append.mp hcm with z | z
            · exact ⟨⟨by have q := (f3 c z).1.1; omega, (f3 c z).1.2⟩, (f3 c z).2⟩
            · rw [List.mem_singleton.mp z]; exact ⟨⟨by decide, by decide⟩, by decide⟩
          · rw [stl_pend pend2 [43] [] (fun c hcm => ⟨(f3 c hcm).1.1, (f3 c hcm).2⟩) (show 43 = 48 ∨ 43 < 46 from Or.inr (by decide))]
            show 43 ≤ 43 ∧ 43 ≤ 45
            decide
          · rw [emt_l]
            show 3 * ((prs T n lim k 6 d (advP T n (prs T n lim k 6 d x).2)).2.2.1.length + 1 + nop ws + 1) ≤ 6 * (prs T n lim k 6 d (advP T n (prs T n lim k 6 d x).2)).2.2.2 + (prs T n lim k 6 d (advP T n (prs T n lim k 6 d x).2)).2.1.2.2.1
            omega
      · refine hd_s e4 (fun q => absurd (q.1.symm.trans hK) (by decide)) (tM_sg_60 (T := T) E.1 E.2.1 E.2.2.1 e4 hK (fun _ => by rw [hst9]; show ws.length < 60; omega) (by show 3 * (rs.length + nop (pend ++ ws) + 1) ≤ 6 * (prs T n lim k 6 d x).2.2.2 + (prs T n lim k 6 d x).2.1.2.2.2; omega) (fun _ N3 hc3 => ?_) (fun q => absurd (by rw [hst9] at q; exact q) (topC_no hw)))
        rw [hst9, show (((((prs T n lim k 6 d x).2.1, rs, (prs T n lim k 6 d x).2.2.2) : PSt)).1, (ws, rs ++ pend.map dec).2, ((((prs T n lim k 6 d x).2.1, rs, (prs T n lim k 6 d x).2.2.2) : PSt)).2.2) = (prs T n lim k 6 d x).2 by rw [← e1]] at hc3
        refine ⟨1, rfl, i6 d (advP T n (prs T n lim k 6 d x).2) (44 :: ws) N3 1 hc3 (by rw [dpc, if_neg (by decide)]; exact hdp) (by rw [List.length_cons]; omega) hd (show tp6 44 from Or.inr (by decide)) (fun q => absurd q (by decide)) (fun _ => Or.inl rfl) (by rw [nop, if_neg (by decide)]; show 3 * ((prs T n lim k 6 d x).2.2.1.length + _) ≤ 6 * (prs T n lim k 6 d x).2.2.2 + _; omega) (by omega) (fun v f1 N4 hN => ?_) (fun f1 N4 pend2 rs2 f2 f3 f4 f5 f6 => ?_)⟩
        · rw [FAI, thn_s f1] at hF
          exact hF v f1 N4 hN
        · rw [thn_o f1] at hG
          have hz2 := prs_W (lim := lim) hT k 6 d (advP T n (prs T n lim k 6 d x).2) hav.1 hz.2.2.2 f1
          rw [show uq 6 = 1 from rfl, adv_2] at hz2
          have hen : nop (44 :: ws) = nop ws + 1 := by rw [nop, if_neg (by decide)]
          rw [hen] at f6
          refine hG rfl N4 (pend2 ++ [44]) rs2 ?_ (fun c hcm => ?_) ⟨f4, fun _ => ?_⟩ (by rw [← app1]; exact f5) ?_
          · show (prs T n lim k 6 d (advP T n (prs T n lim k 6 d x).2)).2.2.1 ++ [(prs T n lim k 6 d x).2.1.1] = _
            exact map1 f2 (by rw [hK]; rfl)
          · rcases List.mem_append.mp hcm with z | z
            · exact ⟨⟨by have q := (f3 c z).1.1; omega, (f3 c z).1.2⟩, (f3 c z).2⟩
            · rw [List.mem_singleton.mp z]; exact ⟨⟨by decide, by decide⟩, by decide⟩
          · rw [stl_pend pend2 [44] [] (fun c hcm => ⟨(f3 c hcm).1.1, (f3 c hcm).2⟩) (show 44 = 48 ∨ 44 < 46 from Or.inr (by decide))]
            show 43 ≤ 44 ∧ 44 ≤ 45
            decide
          · rw [emt_l]
            show 3 * ((prs T n lim k 6 d (advP T n (prs T n lim k 6 d x).2)).2.2.1.length + 1 + nop ws + 1) ≤ 6 * (prs T n lim k 6 d (advP T n (prs T n lim k 6 d x).2)).2.2.2 + (prs T n lim k 6 d (advP T n (prs T n lim k 6 d x).2)).2.1.2.2.1
            omega
      · refine hd_s e4 (fun q => absurd (q.1.symm.trans hK) (by decide)) (tM_sg_62 (T := T) E.1 E.2.1 E.2.2.1 e4 hK (fun _ => by rw [hst9]; show ws.length < 60; omega) (by show 3 * (rs.length + nop (pend ++ ws) + 1) ≤ 6 * (prs T n lim k 6 d x).2.2.2 + (prs T n lim k 6 d x).2.1.2.2.2; omega) (fun _ N3 hc3 => ?_) (fun q => absurd (by rw [hst9] at q; exact q) (topC_no hw)))
        rw [hst9, show (((((prs T n lim k 6 d x).2.1, rs, (prs T n lim k 6 d x).2.2.2) : PSt)).1, (ws, rs ++ pend.map dec).2, ((((prs T n lim k 6 d x).2.1, rs, (prs T n lim k 6 d x).2.2.2) : PSt)).2.2) = (prs T n lim k 6 d x).2 by rw [← e1]] at hc3
        refine ⟨1, rfl, i6 d (advP T n (prs T n lim k 6 d x).2) (45 :: ws) N3 1 hc3 (by rw [dpc, if_neg (by decide)]; exact hdp) (by rw [List.length_cons]; omega) hd (show tp6 45 from Or.inr (by decide)) (fun q => absurd q (by decide)) (fun _ => Or.inl rfl) (by rw [nop, if_neg (by decide)]; show 3 * ((prs T n lim k 6 d x).2.2.1.length + _) ≤ 6 * (prs T n lim k 6 d x).2.2.2 + _; omega) (by omega) (fun v f1 N4 hN => ?_) (fun f1 N4 pend2 rs2 f2 f3 f4 f5 f6 => ?_)⟩
        · rw [FAI, thn_s f1] at hF
          exact hF v f1 N4 hN
        · rw [thn_o f1] at hG
          have hz2 := prs_W (lim := lim) hT k 6 d (advP T n (prs T n lim k 6 d x).2) hav.1 hz.2.2.2 f1
          rw [show uq 6 = 1 from rfl, adv_2] at hz2
          have hen : nop (45 :: ws) = nop ws + 1 := by rw [nop, if_neg (by decide)]
          rw [hen] at f6
          refine hG rfl N4 (pend2 ++ [45]) rs2 ?_ (fun c hcm => ?_) ⟨f4, fun _ => ?_⟩ (by rw [← app1]; exact f5) ?_
          · show (prs T n lim k 6 d (advP T n (prs T n lim k 6 d x).2)).2.2.1 ++ [(prs T n lim k 6 d x).2.1.1] = _
            exact map1 f2 (by rw [hK]; rfl)
          · rcases List.mem_append.mp hcm with z | z
            · exact ⟨⟨by have q := (f3 c z).1.1; omega, (f3 c z).1.2⟩, (f3 c z).2⟩
            · rw [List.mem_singleton.mp z]; exact ⟨⟨by decide, by decide⟩, by decide⟩
          · rw [stl_pend pend2 [45] [] (fun c hcm => ⟨(f3 c hcm).1.1, (f3 c hcm).2⟩) (show 45 = 48 ∨ 45 < 46 from Or.inr (by decide))]
            show 43 ≤ 45 ∧ 45 ≤ 45
            decide
          · rw [emt_l]
            show 3 * ((prs T n lim k 6 d (advP T n (prs T n lim k 6 d x).2)).2.2.1.length + 1 + nop ws + 1) ≤ 6 * (prs T n lim k 6 d (advP T n (prs T n lim k 6 d x).2)).2.2.2 + (prs T n lim k 6 d (advP T n (prs T n lim k 6 d x).2)).2.1.2.2.1
            omega
    · simp only [if_neg hKK] at hF hG
      exact hG trivial N2 pend rs e1 (fun c hcm => ⟨⟨by have q := (e2 c hcm).1.1; omega, (e2 c hcm).1.2⟩, (e2 c hcm).2⟩) ⟨e3, fun q => absurd q hKK⟩ e4 e5
set_option maxHeartbeats 1000000 in
theorem sim_4 {M0 : Mem} {T : Nat → Nat} {n lim d0 : Nat} {b : Int32} {Φ : Option Int32 → Mem → Prop} {k : Nat} (E : ER M0 T n lim b) (i5 : SN M0 T n lim d0 b Φ k 5 6 2 7 tp5 pk5 kn5 false) (i4 : SN M0 T n lim d0 b Φ k 4 7 2 8 tp5 pk4 kn5 true) : SN M0 T n lim d0 b Φ (k + 1) 4 7 2 8 tp5 pk4 kn5 true := by
  intro d x ws N st hc hdp hlen hd hw hst0 _ hb hm hF hG
  have hT : ∀ i, T i < 256 := fun i => (E.2.2.1 i).2
  have hn := E.1
  have hst := hst0 rfl
  subst hst
  rw [prs, if_neg (by decide), if_neg (by decide), if_neg (by decide), if_neg (by decide), if_pos rfl] at hF hG
  have hs := hc.2.2.2.1.1
  have hse := hc.2.2.2.1.2.1
  by_cases h8 : 8 ≤ d
  · rw [if_pos h8] at hF hG
    refine hd_o hc (Or.inl rfl) (tM_op_A hc (by rw [hdp]; exact h8) (fun N2 hN => ⟨0, rfl, hd_f hN ?_ ?_ (hF _ rfl N2 hN)⟩))
    · show 0 < (if x.1.1 = 1 then 1 else 2); split <;> decide
    · show (if x.1.1 = 1 then 1 else 2) < 2 ^ 31; split <;> decide
  · rw [if_neg h8] at hF hG
    by_cases hK : x.1.1 = 18
    · rw [if_pos hK] at hF hG
      have hav := adv_W (x := x) hT hc.2.2.2.1 (by omega)
      have hav3 := adv_W3 (x := x) hT hc.2.2.2.1 hK
      have hs3 := hc.2.2.2.1.2.2.2.2.2.2.2.1 hK
      have havn := hav.1.1
      refine hd_o hc (Or.inl rfl) (tM_op_D (T := T) E.1 E.2.1 E.2.2.1 hc hK (by rw [hdp]; omega) (by omega) (by omega) (fun N2 hc2 => ⟨0, rfl, i4 (d + 1) (advP T n x) (40 :: ws) N2 0 hc2 (by rw [dpc, if_pos (Or.inl rfl), hdp]) (by rw [List.length_cons]; omega) (by omega) (show tp5 40 from Or.inr (by decide)) (fun _ => rfl) (fun q => absurd q (by decide)) (by rw [nop, if_neg (by decide)]; show 3 * (x.2.1.length + _) ≤ 6 * x.2.2 + _; omega) (by omega) (fun v f1 N4 hN => ?_) (fun f1 N4 pend2 rs2 f2 f3 f4 f5 f6 => ?_)⟩))
      · rw [FAI, thn_s f1] at hF
        exact hF v f1 N4 hN
      · rw [thn_o f1] at hG
        have hen : nop (40 :: ws) = nop ws + 1 := by rw [nop, if_neg (by decide)]
        rw [hen] at f6
        refine hG rfl N4 (pend2 ++ [40]) rs2 (map1 f2 rfl) (fun c hcm => ?_) (kn5_app f4) (by rw [← app1]; exact f5) ?_
        · rcases List.mem_append.mp hcm with z | z
          · exact f3 c z
          · rw [List.mem_singleton.mp z]; exact ⟨Or.inl rfl, by decide⟩
        · rw [emt_l]
          show 3 * ((prs T n lim k 4 (d + 1) (advP T n x)).2.2.1.length + 1 + nop ws + 1) ≤ 6 * (prs T n lim k 4 (d + 1) (advP T n x)).2.2.2 + (prs T n lim k 4 (d + 1) (advP T n x)).2.1.2.2.1
          omega
    · rw [if_neg hK] at hF hG
      exact i5 d x ws N 0 hc hdp hlen (by omega) hw (fun q => absurd q (by decide)) (fun _ => Or.inr ⟨rfl, by omega, hK⟩) hb (by omega) hF (fun e N2 pend rs e1 e2 e3 e4 e5 => hG e N2 pend rs e1 (fun c hcm => ⟨Or.inr (e2 c hcm).1, (e2 c hcm).2⟩) e3 e4 e5)
set_option maxHeartbeats 1000000 in
theorem sim_8 {M0 : Mem} {T : Nat → Nat} {n lim d0 : Nat} {b : Int32} {Φ : Option Int32 → Mem → Prop} {k : Nat} (E : ER M0 T n lim b) (i0 : SN M0 T n lim d0 b Φ k 0 9 0 8 tp0 pk0 kn0 true) : SN M0 T n lim d0 b Φ (k + 1) 8 4 4 7 (fun _ => True) (fun _ => False) knT false := by
  intro d x ws N st hc hdp hlen hd _ _ hst hb hm hF hG
  have hT : ∀ i, T i < 256 := fun i => (E.2.2.1 i).2
  have hn := E.1
  have hs := hc.2.2.2.1.1
  have hse := hc.2.2.2.1.2.1
  have hst1 := hst rfl
  have hst2 : st = 0 ∨ st = 1 := by omega
  have hsd : st = 1 ∨ (st = 0 ∧ dpc ws < 8) := by rw [hdp]; omega
  have hlim := E.2.2.2
  rw [prs, if_neg (by decide), if_neg (by decide), if_neg (by decide), if_neg (by decide), if_neg (by decide), if_neg (by decide), if_neg (by decide), if_neg (by decide)] at hF hG
  by_cases hK0 : x.1.1 = 2 ∨ x.1.1 = 3
  · rw [if_pos hK0] at hF hG
    have eT : (opd lim x).2.1 = x.1 := opd_t
    have hav := adv_W (x := x) hT hc.2.2.2.1 (by omega)
    have eA : (advP T n (opd lim x).2).1 = (advP T n x).1 := by unfold advP; rw [eT]
    have g1 : (opd lim x).1 = none → ∀ N2, PQ M0 N2 n (advP T n (opd lim x).2) ws → Psi d0 b Φ (some 2) N2 := fun e N2 hc2 => by
      rw [thn_o e] at hG
      have e2 : (opd lim x).2.2.1.length = x.2.1.length + 1 ∧ (opd lim x).2.2.2 = x.2.2 + 1 := by
        unfold opd at e ⊢
        by_cases z1 : 120 ≤ x.2.2
        · rw [if_pos z1] at e; simp [rfu] at e
        · rw [if_neg z1] at e ⊢
          by_cases z2 : x.1.1 = 2
          · rw [if_pos z2]; exact ⟨by simp, rfl⟩
          · rw [if_neg z2] at e ⊢
            by_cases z3 : x.1.2.1 < lim
            · rw [if_pos z3]; exact ⟨by simp, rfl⟩
            · rw [if_neg z3] at e; simp [rfu] at e
      refine ⟨2, rfl, hG rfl N2 [] (advP T n (opd lim x).2).2.1 (by rw [List.map_nil, List.append_nil]) (fun c hcm => by cases hcm) trivial hc2 ?_⟩
      show 3 * ((opd lim x).2.2.1.length + nop ws + 1) ≤ 6 * (opd lim x).2.2.2 + (advP T n (opd lim x).2).1.2.2.1
      rw [eA, e2.1, e2.2]
      have := hav.2
      omega
    have g0 : ∀ v, (opd lim x).1 = some v → ∀ N2, QF M0 N2 v → Psi d0 b Φ (some (nI st)) N2 := fun v e N2 hN => by
      rw [FAI, thn_s e] at hF
      have hv : 0 < v.1 ∧ v.1 < 4 := by
        unfold opd rfu at e
        split at e
        · cases e; show 0 < (if x.1.1 = 1 then 1 else 2) ∧ (if x.1.1 = 1 then 1 else 2) < 4; split <;> decide
        · split at e
          · cases e
          · split at e
            · cases e
            · cases e; show 0 < (if x.1.1 = 1 then 1 else 3) ∧ (if x.1.1 = 1 then 1 else 3) < 4; split <;> decide
      exact ⟨st, rfl, hd_f hN hv.1 (by omega) (hF v e N2 hN)⟩
    refine hd_o hc hst2 ?_
    have h120 := hc.2.2.2.2.2.2.2.1
    rcases hK0 with hK | hK
    · by_cases hf : x.2.2 = 120
      · exact tM_op_Bfulln (T := T) E.1 E.2.1 E.2.2.1 hc hK hf hsd g1 g0
      · exact tM_op_Bnum (T := T) E.1 E.2.1 E.2.2.1 hc hK (by omega) hsd g1 g0
    · by_cases hf : x.2.2 = 120
      · exact tM_op_Bfullm (T := T) E.1 E.2.1 E.2.2.1 hc hK hf hsd g1 g0
      · rcases hc.2.2.2.1.2.2.2.2.2.1 hK with hV | hV
        · by_cases hlt : x.1.2.1 < lim
          · exact tM_op_Bgood (T := T) E.1 E.2.1 E.2.2.1 hc hK (by omega) hV hlt (fun q => hlim.elim (fun z => z.2) (fun z => absurd q z.1)) hsd g1 g0
          · rcases hlim with z | z
            · exact tM_op_Bbadl (T := T) E.1 E.2.1 E.2.2.1 hc hK (by omega) hV hlt z.2 z.1 hsd g1 g0
            · exact absurd hV (by omega)
        · exact tM_op_Bnone (T := T) E.1 E.2.1 E.2.2.1 hc hK (by omega) hV (by omega) hsd g1 g0
  · rw [if_neg hK0] at hF hG
    by_cases hK : x.1.1 = 40
    · rw [if_pos hK] at hF hG
      have hav := adv_W (x := x) hT hc.2.2.2.1 (by omega)
      have havn := hav.1.1
      refine hd_o hc hst2 (tM_op_C (T := T) E.1 E.2.1 E.2.2.1 hc hK hsd (by omega) (fun N2 hc2 => ?_))
      refine ⟨0, rfl, i0 (d + 1) (advP T n x) (48 :: ws) N2 0 hc2 (by rw [dpc, if_pos (Or.inr rfl), hdp]) (by rw [List.length_cons]; omega) (by omega) (show tp0 48 from rfl) (fun _ => rfl) (fun q => absurd q (by decide)) (by rw [nop, if_pos rfl]; show 3 * (x.2.1.length + _) ≤ 6 * x.2.2 + _; have := hav.2; omega) (by have := hav.2; omega) (fun v f1 N4 hN => ?_) (fun f1 N4 pend rs f2 f3 f4 f5 f6 => ?_)⟩
      · rw [FAI, thn_s f1] at hF
        exact hF v f1 N4 hN
      · rw [thn_o f1] at hF hG
        have hz := prs_W (lim := lim) hT k 0 (d + 1) (advP T n x) hav.1 hc.2.2.2.2.2.2.2.1 f1
        have hz1 := hz.1.1
        have hz2 := hz.1.2.1
        have hcn := codes_nop (ws := 48 :: ws) f2 (fun c hcm => (f3 c hcm).2)
        have hen : nop (48 :: ws) = nop ws := by rw [nop, if_pos rfl, Nat.add_zero]
        rw [hen] at f6 hcn
        have hmem : 48 ∈ pend ++ 48 :: ws := List.mem_append.mpr (Or.inr (List.mem_cons_self ..))
        by_cases h41 : (prs T n lim k 0 (d + 1) (advP T n x)).2.1.1 = 41
        · simp only [if_pos h41] at hF hG
          have hsp : stl 0 (pend ++ 48 :: ws) (((prs T n lim k 0 (d + 1) (advP T n x)).2.1, rs, (prs T n lim k 0 (d + 1) (advP T n x)).2.2.2) : PSt).2.1 = (48 :: ws, rs ++ pend.map dec) := stl_pend pend (48 :: ws) rs (fun c hcm => ⟨Nat.zero_le _, (f3 c hcm).2⟩) (Or.inl rfl)
          have hav2 := adv_W (x := (prs T n lim k 0 (d + 1) (advP T n x)).2) hT hz.1 (by omega)
          refine hd_s f5 (fun q => absurd (q.1.symm.trans h41) (by decide)) (tM_sg_41 (T := T) E.1 E.2.1 E.2.2.1 f5 h41 hmem (fun r hr N5 hc5 => ?_))
          rw [hsp] at hr hc5
          have hr2 : ws = r := (List.cons.inj hr).2
          rw [← hr2, show (((((prs T n lim k 0 (d + 1) (advP T n x)).2.1, rs, (prs T n lim k 0 (d + 1) (advP T n x)).2.2.2) : PSt)).1, (48 :: ws, rs ++ pend.map dec).2, ((((prs T n lim k 0 (d + 1) (advP T n x)).2.1, rs, (prs T n lim k 0 (d + 1) (advP T n x)).2.2.2) : PSt)).2.2) = (prs T n lim k 0 (d + 1) (advP T n x)).2 by rw [← f2]] at hc5
          refine ⟨2, rfl, hG trivial N5 [] (prs T n lim k 0 (d + 1) (advP T n x)).2.2.1 (by rw [List.map_nil, List.append_nil]; rfl) (fun c hcm => by cases hcm) trivial hc5 ?_⟩
          show 3 * ((prs T n lim k 0 (d + 1) (advP T n x)).2.2.1.length + nop ws + 1) ≤ 6 * (prs T n lim k 0 (d + 1) (advP T n x)).2.2.2 + _
          have := hav2.2
          omega
        · simp only [if_neg h41] at hF hG
          have gf : ∀ N5, QF M0 N5 (if (prs T n lim k 0 (d + 1) (advP T n x)).2.1.1 = 1 then 1 else 2, (prs T n lim k 0 (d + 1) (advP T n x)).2.1.2.2.1) → Psi d0 b Φ (some 2) N5 := fun N5 hN => ⟨2, rfl, hd_f hN (by show 0 < (if (prs T n lim k 0 (d + 1) (advP T n x)).2.1.1 = 1 then 1 else 2); split <;> decide) (by show (if (prs T n lim k 0 (d + 1) (advP T n x)).2.1.1 = 1 then 1 else 2) < 2 ^ 31; split <;> decide) (hF _ rfl N5 hN)⟩
          refine hd_s f5 (fun q => q.2 hmem) ?_
          have kn := f4.1.1
          by_cases hcmp : isCmp (prs T n lim k 0 (d + 1) (advP T n x)).2.1.1
          · have ht := topC_app pend (48 :: ws) [] rs (kn.2 hcmp)
            rcases hcmp with q | q | q
            · exact tM_sg_61 (T := T) E.1 E.2.1 E.2.2.1 f5 q (fun z => absurd ht z) (by show 3 * (rs.length + nop (pend ++ 48 :: ws) + 1) ≤ 6 * (prs T n lim k 0 (d + 1) (advP T n x)).2.2.2 + (prs T n lim k 0 (d + 1) (advP T n x)).2.1.2.2.2; omega) (fun z => absurd ht z) (fun _ => gf)
            · exact tM_sg_60 (T := T) E.1 E.2.1 E.2.2.1 f5 q (fun z => absurd ht z) (by show 3 * (rs.length + nop (pend ++ 48 :: ws) + 1) ≤ 6 * (prs T n lim k 0 (d + 1) (advP T n x)).2.2.2 + (prs T n lim k 0 (d + 1) (advP T n x)).2.1.2.2.2; omega) (fun z => absurd ht z) (fun _ => gf)
            · exact tM_sg_62 (T := T) E.1 E.2.1 E.2.2.1 f5 q (fun z => absurd ht z) (by show 3 * (rs.length + nop (pend ++ 48 :: ws) + 1) ≤ 6 * (prs T n lim k 0 (d + 1) (advP T n x)).2.2.2 + (prs T n lim k 0 (d + 1) (advP T n x)).2.1.2.2.2; omega) (fun z => absurd ht z) (fun _ => gf)
          · refine tM_sg_no f5 (fun q => ?_) (fun q => h41 q.1) gf
            rcases q with q | q | q | q | q | q | q
            · exact kn.1.1 q
            · exact kn.1.2 q
            · exact hcmp (Or.inl q)
            · exact hcmp (Or.inr (Or.inl q))
            · exact hcmp (Or.inr (Or.inr q))
            · exact f4.1.2 q
            · exact f4.2 q
    · rw [if_neg hK] at hF hG
      refine hd_o hc hst2 (tM_op_E hc hK0 hK (fun q => by omega) hsd (fun N2 hN => ⟨st, rfl, hd_f hN ?_ ?_ (hF _ rfl N2 hN)⟩))
      · show 0 < (if x.1.1 = 1 then 1 else 2); split <;> decide
      · show (if x.1.1 = 1 then 1 else 2) < 2 ^ 31; split <;> decide

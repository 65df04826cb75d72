theorem simP {M0 : Mem} {T : Nat → Nat} {n lim d0 : Nat} {b : Int32} {Φ : Option Int32 → Mem → Prop} (E : ER M0 T n lim b) : ∀ k, (SN M0 T n lim d0 b Φ k 0 9 0 8 tp0 pk0 kn0 true) ∧ (SLo M0 T n lim d0 b Φ k 1 3 0 8 tp0 pk0 kn2 kn0) ∧ (SN M0 T n lim d0 b Φ k 2 8 1 8 tp2 pk2 kn2 true) ∧ (SLo M0 T n lim d0 b Φ k 3 2 1 8 tp2 pk2 kn5 kn2) ∧ (SN M0 T n lim d0 b Φ k 4 7 2 8 tp5 pk4 kn5 true) ∧ (SN M0 T n lim d0 b Φ k 5 6 2 7 tp5 pk5 kn5 false) ∧ (SN M0 T n lim d0 b Φ k 6 5 3 7 tp6 pk6 kn6 false) ∧ (SLo M0 T n lim d0 b Φ k 7 1 3 7 tp6 pk6 knT kn6) ∧ (SN M0 T n lim d0 b Φ k 8 4 4 7 (fun _ => True) (fun _ => False) knT false) := by
  intro k
  induction k with
  | zero =>
    refine ⟨?_, ?_, ?_, ?_, ?_, ?_, ?_, ?_, ?_⟩
    · intro d x ws N st hc hdp hlen hd hw hst0 hst hb hm hF hG; have hs := hc.2.2.2.1.1; have := E.1; omega
    · intro d y ws N pend rs he hp hk0 hc hb hdp hlen hd hw hm hF hG; have hs : y.1.2.2.1 ≤ n := hc.2.2.2.1.1; have := E.1; omega
    · intro d x ws N st hc hdp hlen hd hw hst0 hst hb hm hF hG; have hs := hc.2.2.2.1.1; have := E.1; omega
    · intro d y ws N pend rs he hp hk0 hc hb hdp hlen hd hw hm hF hG; have hs : y.1.2.2.1 ≤ n := hc.2.2.2.1.1; have := E.1; omega
    · intro d x ws N st hc hdp hlen hd hw hst0 hst hb hm hF hG; have hs := hc.2.2.2.1.1; have := E.1; omega
    · intro d x ws N st hc hdp hlen hd hw hst0 hst hb hm hF hG; have hs := hc.2.2.2.1.1; have := E.1; omega
    · intro d x ws N st hc hdp hlen hd hw hst0 hst hb hm hF hG; have hs := hc.2.2.2.1.1; have := E.1; omega
    · intro d y ws N pend rs he hp hk0 hc hb hdp hlen hd hw hm hF hG; have hs : y.1.2.2.1 ≤ n := hc.2.2.2.1.1; have := E.1; omega
    · intro d x ws N st hc hdp hlen hd hw hst0 hst hb hm hF hG; have hs := hc.2.2.2.1.1; have := E.1; omega
  | succ k ih =>
    obtain ⟨i0, i1, i2, i3, i4, i5, i6, i7, i8⟩ := ih
    exact ⟨sim_0 E i2 i1, sim_1 E i2 i1, sim_2 E i4 i3, sim_3 E i4 i3, sim_4 E i5 i4, sim_5 E i6, sim_6 E i8 i7, sim_7 E i8 i7, sim_8 E i0⟩
set_option maxRecDepth 100000 in
set_option maxHeartbeats 1000000 in
theorem tM_readE {d : Nat} {b : Int32} {Φ : Option Int32 → Mem → Prop} {M0 N : Mem} {T : Nat → Nat} {n lim : Nat} {x : PSt} (E : ER M0 T n lim b) (hc : PQ M0 (wr (wr N 62 36 0) 62 37 0) n x []) (hb : 3 * (x.2.1.length + nop []) ≤ 6 * x.2.2 + x.1.2.2.1) (hF : ∀ v, (prs T n lim FU 0 0 x).1 = some v → ∀ N2, QF M0 N2 v → Φ none N2) (h2 : (prs T n lim FU 0 0 x).1 = none → ¬ (prs T n lim FU 0 0 x).2.1.1 = 59 → ∀ N2, QF M0 N2 (if (prs T n lim FU 0 0 x).2.1.1 = 1 then 1 else 2, (prs T n lim FU 0 0 x).2.1.2.2.1) → Φ none N2) (h1 : (prs T n lim FU 0 0 x).1 = none → (prs T n lim FU 0 0 x).2.1.1 = 59 → ∀ N2, PQ M0 N2 n (prs T n lim FU 0 0 x).2 [] → Φ none N2) : JM noRo (d + 4) mX12_readE 0 [some (.ref 62), some (.int b)] [] N Φ := by
  have hs := hc.2.2.2.1.1
  have hn := E.1
  refine J_aload_n dX12_readE_0 rfl ?_
  refine J_iconst (v := 0) dX12_readE_1 (by decide) ?_
  refine M_putI dX12_readE_2 pX12_223 rfl rfl (by decide) ?_
  refine J_aload_n dX12_readE_5 rfl ?_
  refine J_iconst (v := 0) dX12_readE_6 (by decide) ?_
  refine M_putI dX12_readE_7 pX12_226 rfl rfl (by decide) ?_
  refine J_iconst (v := 0) dX12_readE_10 (by decide) ?_
  refine J_istore_n dX12_readE_11 (by decide) rfl ?_
  dsimp only [setL]
  refine (simP (d0 := d) (b := b) (Φ := Φ) E FU).1 0 x [] _ 0 hc rfl (Nat.zero_le _) (Nat.zero_le _) trivial (fun _ => rfl) (fun q => absurd q (by decide)) hb (by unfold FU; omega) hF (fun e N2 pend rs e1 e2 e3 e4 e5 => ?_)
  have hz := prs_W (lim := lim) (fun i => (E.2.2.1 i).2) FU 0 0 x hc.2.2.2.1 hc.2.2.2.2.2.2.2.1 e
  have hz2 := hz.1.2.1
  have hcn := codes_nop (ws := []) e1 (fun c hcm => (e2 c hcm).2)
  have hno : ¬ 48 ∈ pend ++ [] := by
    rw [List.append_nil]
    exact fun q => (e2 48 q).2 rfl
  by_cases hK : (prs T n lim FU 0 0 x).2.1.1 = 59
  · refine hd_e E.1 e4 hK hno (fun N3 hc3 => ?_)
    have hst : stl 0 (pend ++ []) (((prs T n lim FU 0 0 x).2.1, rs, (prs T n lim FU 0 0 x).2.2.2) : PSt).2.1 = ([], rs ++ pend.map dec) := stl_pend pend [] rs (fun c hcm => ⟨Nat.zero_le _, (e2 c hcm).2⟩) trivial
    rw [hst, show (((((prs T n lim FU 0 0 x).2.1, rs, (prs T n lim FU 0 0 x).2.2.2) : PSt)).1, (([] : List Nat), rs ++ pend.map dec).2, ((((prs T n lim FU 0 0 x).2.1, rs, (prs T n lim FU 0 0 x).2.2.2) : PSt)).2.2) = (prs T n lim FU 0 0 x).2 by rw [← e1]] at hc3
    exact h1 e hK N3 hc3
  · have gf : ∀ N5, QF M0 N5 (if (prs T n lim FU 0 0 x).2.1.1 = 1 then 1 else 2, (prs T n lim FU 0 0 x).2.1.2.2.1) → Psi d b Φ (some 2) N5 := fun N5 hN => ⟨2, rfl, hd_f hN (by show 0 < (if (prs T n lim FU 0 0 x).2.1.1 = 1 then 1 else 2); split <;> decide) (by show (if (prs T n lim FU 0 0 x).2.1.1 = 1 then 1 else 2) < 2 ^ 31; split <;> decide) (h2 e hK N5 hN)⟩
    refine hd_s e4 (fun q => hK q.1) ?_
    have kn := e3.1.1
    by_cases hcmp : isCmp (prs T n lim FU 0 0 x).2.1.1
    · have ht := topC_app pend [] [] rs (kn.2 hcmp)
      rcases hcmp with q | q | q
      · exact tM_sg_61 (T := T) E.1 E.2.1 E.2.2.1 e4 q (fun z => absurd ht z) (by show 3 * (rs.length + nop (pend ++ []) + 1) ≤ 6 * (prs T n lim FU 0 0 x).2.2.2 + (prs T n lim FU 0 0 x).2.1.2.2.2; omega) (fun z => absurd ht z) (fun _ => gf)
      · exact tM_sg_60 (T := T) E.1 E.2.1 E.2.2.1 e4 q (fun z => absurd ht z) (by show 3 * (rs.length + nop (pend ++ []) + 1) ≤ 6 * (prs T n lim FU 0 0 x).2.2.2 + (prs T n lim FU 0 0 x).2.1.2.2.2; omega) (fun z => absurd ht z) (fun _ => gf)
      · exact tM_sg_62 (T := T) E.1 E.2.1 E.2.2.1 e4 q (fun z => absurd ht z) (by show 3 * (rs.length + nop (pend ++ []) + 1) ≤ 6 * (prs T n lim FU 0 0 x).2.2.2 + (prs T n lim FU 0 0 x).2.1.2.2.2; omega) (fun z => absurd ht z) (fun _ => gf)
    · refine tM_sg_no e4 (fun q => ?_) (fun q => hno q.2) gf
      rcases q with q | q | q | q | q | q | q
      · exact kn.1.1 q
      · exact kn.1.2 q
      · exact hcmp (Or.inl q)
      · exact hcmp (Or.inr (Or.inl q))
      · exact hcmp (Or.inr (Or.inr q))
      · exact e3.1.2 q
      · exact e3.2 q

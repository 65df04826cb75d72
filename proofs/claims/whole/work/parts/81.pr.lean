def tp5 (c : Nat) : Prop := c = 48 ∨ c < 43
def pk5 (c : Nat) : Prop := 43 ≤ c ∧ c ≤ 47
def kn5 (K : Nat) (p : List Nat) : Prop := kn6 K p ∧ (isCmp K → topC (stl 46 p []).1)
def pk4 (c : Nat) : Prop := c = 40 ∨ (43 ≤ c ∧ c ≤ 47)
def tp2 (c : Nat) : Prop := c = 48 ∨ c = 41
def pk2 (c : Nat) : Prop := c = 40 ∨ (42 ≤ c ∧ c ≤ 47)
def kn2 (K : Nat) (p : List Nat) : Prop := kn5 K p ∧ ¬ K = 17
def tp0 (c : Nat) : Prop := c = 48
def pk0 (c : Nat) : Prop := 40 ≤ c ∧ c ≤ 47
def kn0 (K : Nat) (p : List Nat) : Prop := kn2 K p ∧ ¬ K = 16
theorem app1 {p ws : List Nat} {c : Nat} : p ++ c :: ws = (p ++ [c]) ++ ws := by simp
theorem map1 {p rs z : List Nat} {c e : Nat} (h : z = rs ++ p.map dec) (hd : dec c = e) : z ++ [e] = rs ++ (p ++ [c]).map dec := by
  rw [h, List.map_append, List.append_assoc, List.map_cons, List.map_nil, hd]
theorem kn5_app {K c : Nat} {p : List Nat} (h : kn5 K p) : kn5 K (p ++ [c]) := ⟨h.1, fun q => topC_app p [c] [] [] (h.2 q)⟩
theorem topC_no {ws : List Nat} (h : hdW tp5 ws) : ¬ topC ws := by
  cases ws with
  | nil => exact id
  | cons c r =>
    intro q
    have h1 : c = 48 ∨ c < 43 := h
    have h2 : 43 ≤ c ∧ c ≤ 45 := q
    omega
set_option maxHeartbeats 1000000 in
theorem sim_3 {M0 : Mem} {T : Nat → Nat} {n lim d0 : Nat} {b : Int32} {Φ : Option Int32 → Mem → Prop} {k : Nat} (E : ER M0 T n lim b) (i1 : SN M0 T n lim d0 b Φ k 4 7 2 8 tp5 pk4 kn5 true) (i2 : SLo M0 T n lim d0 b Φ k 3 2 1 8 tp2 pk2 kn5 kn2) : SLo M0 T n lim d0 b Φ (k + 1) 3 2 1 8 tp2 pk2 kn5 kn2 := by
  intro d y ws N pend rs he hp hk0 hc hb hdp hlen hd hw hm hF hG
  have hT : ∀ i, T i < 256 := fun i => (E.2.2.1 i).2
  have hn := E.1
  have hcn := codes_nop (ws := ws) he (fun c hcm => (hp c hcm).2)
  have hs : y.1.2.2.1 ≤ n := hc.2.2.2.1.1
  have hse : y.1.2.2.1 ≤ y.1.2.2.2 := hc.2.2.2.1.2.1
  have hy120 : y.2.2 ≤ 120 := hc.2.2.2.2.2.2.2.1
  rw [prs, if_neg (by decide), if_neg (by decide), if_neg (by decide), if_pos rfl] at hF hG
  by_cases hK : y.1.1 = 17
  · rw [if_pos hK] at hF hG
    have hav := adv_W (x := y) hT hc.2.2.2.1 (by omega)
    have havn := hav.1.1
    have hst : sto true (pend ++ ws) rs = (ws, rs ++ pend.map dec) := sto_pend pend ws rs (fun c hcm => by have z := hp c hcm; unfold pk2 at z; omega) (hdW_mono (fun c (h : tp2 c) => h.elim Or.inl (fun z => Or.inr ⟨rfl, z⟩)) ws hw)
    refine hd_s hc (fun q => absurd (q.1.symm.trans hK) (by decide)) (tM_sg_17 (T := T) E.1 E.2.1 E.2.2.1 hc hK (by rw [show (sto true (pend ++ ws) (y.1, rs, y.2.2).2.1) = (ws, rs ++ pend.map dec) from hst]; show ws.length < 60; omega) (by show 3 * (rs.length + nop (pend ++ ws) + 1) ≤ 6 * y.2.2 + y.1.2.2.2; omega) (fun N2 hc2 => ?_))
    rw [show (sto true (pend ++ ws) (y.1, rs, y.2.2).2.1) = (ws, rs ++ pend.map dec) from hst, show (((y.1, rs, y.2.2) : PSt).1, (ws, rs ++ pend.map dec).2, ((y.1, rs, y.2.2) : PSt).2.2) = y by rw [← he]] at hc2
    refine ⟨0, rfl, i1 d (advP T n y) (42 :: ws) N2 0 hc2 (by rw [dpc, if_neg (by decide)]; exact hdp) (by rw [List.length_cons]; omega) hd (show tp5 42 from Or.inr (by decide)) (fun _ => rfl) (fun q => absurd q (by decide)) (by rw [nop, if_neg (by decide)]; show 3 * (y.2.1.length + _) ≤ 6 * y.2.2 + _; omega) (by omega) (fun v e N3 hN => ?_) (fun e N3 pend2 rs2 e1 e2 e3 e4 e5 => ?_)⟩
    · rw [FAI, thn_s e] at hF
      exact hF v e N3 hN
    · have hz := prs_W (lim := lim) hT k 4 d (advP T n y) hav.1 hy120 e
      rw [show uq 4 = 1 from rfl, adv_2] at hz
      have hz1 := hz.1.1
      have hen : nop (42 :: ws) = nop ws + 1 := by rw [nop, if_neg (by decide)]
      rw [hen] at e5
      rw [thn_o e] at hF hG
      refine i2 d (emt (prs T n lim k 4 d (advP T n y)).2 17) ws N3 (pend2 ++ [42]) rs2 (map1 e1 rfl) (fun c hcm => ?_) (kn5_app e3) (by rw [← app1]; exact e4) ?_ hdp hlen hd hw ?_ hF hG
      · rcases List.mem_append.mp hcm with z | z
        · exact ⟨(e2 c z).1.elim Or.inl (fun q => Or.inr ⟨by omega, q.2⟩), (e2 c z).2⟩
        · rw [List.mem_singleton.mp z]; exact ⟨Or.inr ⟨by decide, by decide⟩, by decide⟩
      · rw [emt_l]
        show 3 * ((prs T n lim k 4 d (advP T n y)).2.2.1.length + 1 + nop ws + 1) ≤ 6 * (prs T n lim k 4 d (advP T n y)).2.2.2 + (prs T n lim k 4 d (advP T n y)).2.1.2.2.1
        omega
      · show 10 * (1001 - (prs T n lim k 4 d (advP T n y)).2.1.2.2.1) + 2 ≤ k
        omega
  · rw [if_neg hK] at hF hG
    exact hG rfl N pend rs he hp ⟨hk0, hK⟩ hc hb
set_option maxHeartbeats 1000000 in
theorem sim_1 {M0 : Mem} {T : Nat → Nat} {n lim d0 : Nat} {b : Int32} {Φ : Option Int32 → Mem → Prop} {k : Nat} (E : ER M0 T n lim b) (i1 : SN M0 T n lim d0 b Φ k 2 8 1 8 tp2 pk2 kn2 true) (i2 : SLo M0 T n lim d0 b Φ k 1 3 0 8 tp0 pk0 kn2 kn0) : SLo M0 T n lim d0 b Φ (k + 1) 1 3 0 8 tp0 pk0 kn2 kn0 := by
  intro d y ws N pend rs he hp hk0 hc hb hdp hlen hd hw hm hF hG
  have hT : ∀ i, T i < 256 := fun i => (E.2.2.1 i).2
  have hn := E.1
  have hcn := codes_nop (ws := ws) he (fun c hcm => (hp c hcm).2)
  have hs : y.1.2.2.1 ≤ n := hc.2.2.2.1.1
  have hse : y.1.2.2.1 ≤ y.1.2.2.2 := hc.2.2.2.1.2.1
  have hy120 : y.2.2 ≤ 120 := hc.2.2.2.2.2.2.2.1
  rw [prs, if_neg (by decide), if_pos rfl] at hF hG
  by_cases hK : y.1.1 = 16
  · rw [if_pos hK] at hF hG
    have hav := adv_W (x := y) hT hc.2.2.2.1 (by omega)
    have havn := hav.1.1
    have hst : sto false (pend ++ ws) rs = (ws, rs ++ pend.map dec) := sto_pend pend ws rs (fun c hcm => by have z := hp c hcm; intro q; rcases q with q | q; exact z.2 q; exact absurd q.1 (by decide)) (hdW_mono (fun c (h : tp0 c) => Or.inl h) ws hw)
    refine hd_s hc (fun q => absurd (q.1.symm.trans hK) (by decide)) (tM_sg_16 (T := T) E.1 E.2.1 E.2.2.1 hc hK (by rw [show (sto false (pend ++ ws) (y.1, rs, y.2.2).2.1) = (ws, rs ++ pend.map dec) from hst]; show ws.length < 60; omega) (by show 3 * (rs.length + nop (pend ++ ws) + 1) ≤ 6 * y.2.2 + y.1.2.2.2; omega) (fun N2 hc2 => ?_))
    rw [show (sto false (pend ++ ws) (y.1, rs, y.2.2).2.1) = (ws, rs ++ pend.map dec) from hst, show (((y.1, rs, y.2.2) : PSt).1, (ws, rs ++ pend.map dec).2, ((y.1, rs, y.2.2) : PSt).2.2) = y by rw [← he]] at hc2
    refine ⟨0, rfl, i1 d (advP T n y) (41 :: ws) N2 0 hc2 (by rw [dpc, if_neg (by decide)]; exact hdp) (by rw [List.length_cons]; omega) hd (show tp2 41 from Or.inr rfl) (fun _ => rfl) (fun q => absurd q (by decide)) (by rw [nop, if_neg (by decide)]; show 3 * (y.2.1.length + _) ≤ 6 * y.2.2 + _; omega) (by omega) (fun v e N3 hN => ?_) (fun e N3 pend2 rs2 e1 e2 e3 e4 e5 => ?_)⟩
    · rw [FAI, thn_s e] at hF
      exact hF v e N3 hN
    · have hz := prs_W (lim := lim) hT k 2 d (advP T n y) hav.1 hy120 e
      rw [show uq 2 = 1 from rfl, adv_2] at hz
      have hz1 := hz.1.1
      have hen : nop (41 :: ws) = nop ws + 1 := by rw [nop, if_neg (by decide)]
      rw [hen] at e5
      rw [thn_o e] at hF hG
      refine i2 d (emt (prs T n lim k 2 d (advP T n y)).2 16) ws N3 (pend2 ++ [41]) rs2 (map1 e1 rfl) (fun c hcm => ?_) ⟨kn5_app e3.1, e3.2⟩ (by rw [← app1]; exact e4) ?_ hdp hlen hd hw ?_ hF hG
      · rcases List.mem_append.mp hcm with z | z
        · exact ⟨by have q := (e2 c z).1; unfold pk2 at q; unfold pk0; omega, (e2 c z).2⟩
        · rw [List.mem_singleton.mp z]; exact ⟨⟨by decide, by decide⟩, by decide⟩
      · rw [emt_l]
        show 3 * ((prs T n lim k 2 d (advP T n y)).2.2.1.length + 1 + nop ws + 1) ≤ 6 * (prs T n lim k 2 d (advP T n y)).2.2.2 + (prs T n lim k 2 d (advP T n y)).2.1.2.2.1
        omega
      · show 10 * (1001 - (prs T n lim k 2 d (advP T n y)).2.1.2.2.1) + 3 ≤ k
        omega
  · rw [if_neg hK] at hF hG
    exact hG rfl N pend rs he hp ⟨hk0, hK⟩ hc hb
set_option maxHeartbeats 1000000 in
theorem sim_2 {M0 : Mem} {T : Nat → Nat} {n lim d0 : Nat} {b : Int32} {Φ : Option Int32 → Mem → Prop} {k : Nat} (E : ER M0 T n lim b) (i1 : SN M0 T n lim d0 b Φ k 4 7 2 8 tp5 pk4 kn5 true) (i2 : SLo M0 T n lim d0 b Φ k 3 2 1 8 tp2 pk2 kn5 kn2) : SN M0 T n lim d0 b Φ (k + 1) 2 8 1 8 tp2 pk2 kn2 true := by
  intro d x ws N st hc hdp hlen hd hw hst0 hst hb hm hF hG
  have hT : ∀ i, T i < 256 := fun i => (E.2.2.1 i).2
  have hn := E.1
  rw [prs, if_neg (by decide), if_neg (by decide), if_pos rfl] at hF hG
  refine i1 d x ws N st hc hdp (by omega) hd (hdW_mono (fun c (h : tp2 c) => h.elim Or.inl (fun z => Or.inr (by omega))) ws hw) hst0 (fun q => absurd q (by decide)) hb (by omega) (fun v e N2 hN => ?_) (fun e N2 pend rs e1 e2 e3 e4 e5 => ?_)
  · rw [FAI, thn_s e] at hF
    exact hF v e N2 hN
  · have hz := prs_W (lim := lim) hT k 4 d x hc.2.2.2.1 hc.2.2.2.2.2.2.2.1 e
    have hs := hc.2.2.2.1.1
    rw [show uq 4 = 1 from rfl] at hz
    rw [thn_o e] at hF hG
    exact i2 d _ ws N2 pend rs e1 (fun c hcm => ⟨(e2 c hcm).1.elim Or.inl (fun q => Or.inr ⟨by omega, q.2⟩), (e2 c hcm).2⟩) e3 e4 e5 hdp hlen hd hw (by omega) hF hG
set_option maxHeartbeats 1000000 in
theorem sim_0 {M0 : Mem} {T : Nat → Nat} {n lim d0 : Nat} {b : Int32} {Φ : Option Int32 → Mem → Prop} {k : Nat} (E : ER M0 T n lim b) (i1 : SN M0 T n lim d0 b Φ k 2 8 1 8 tp2 pk2 kn2 true) (i2 : SLo M0 T n lim d0 b Φ k 1 3 0 8 tp0 pk0 kn2 kn0) : SN M0 T n lim d0 b Φ (k + 1) 0 9 0 8 tp0 pk0 kn0 true := by
  intro d x ws N st hc hdp hlen hd hw hst0 hst hb hm hF hG
  have hT : ∀ i, T i < 256 := fun i => (E.2.2.1 i).2
  have hn := E.1
  rw [prs, if_pos rfl] at hF hG
  refine i1 d x ws N st hc hdp (by omega) hd (hdW_mono (fun c (h : tp0 c) => Or.inl h) ws hw) hst0 (fun q => absurd q (by decide)) hb (by omega) (fun v e N2 hN => ?_) (fun e N2 pend rs e1 e2 e3 e4 e5 => ?_)
  · rw [FAI, thn_s e] at hF
    exact hF v e N2 hN
  · have hz := prs_W (lim := lim) hT k 2 d x hc.2.2.2.1 hc.2.2.2.2.2.2.2.1 e
    have hs := hc.2.2.2.1.1
    rw [show uq 2 = 1 from rfl] at hz
    rw [thn_o e] at hF hG
    exact i2 d _ ws N2 pend rs e1 (fun c hcm => ⟨by have q := (e2 c hcm).1; unfold pk2 at q; unfold pk0; omega, (e2 c hcm).2⟩) e3 e4 e5 hdp hlen hd hw (by omega) hF hG

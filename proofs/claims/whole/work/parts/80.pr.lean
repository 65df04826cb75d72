theorem thn_s {r : PRs} {f : PSt → PRs} {v : Nat × Nat} (e : r.1 = some v) : thn r f = r := by
  unfold thn
  rw [if_neg (by rw [e]; exact fun q => by cases q)]
theorem thn_o {r : PRs} {f : PSt → PRs} (e : r.1 = none) : thn r f = f r.2 := by
  unfold thn
  rw [if_pos e]
theorem nop_app : ∀ a b : List Nat, nop (a ++ b) = nop a + nop b
  | [], b => by rw [List.nil_append, nop, Nat.zero_add]
  | c :: r, b => by rw [List.cons_append, nop, nop, nop_app r b]; omega
theorem nop_len : ∀ a : List Nat, (∀ c ∈ a, ¬ c = 48) → nop a = a.length
  | [], _ => rfl
  | c :: r, h => by rw [nop, if_neg (h c (List.mem_cons_self ..)), nop_len r (fun q hq => h q (List.mem_cons_of_mem _ hq)), List.length_cons]
theorem topC_app : ∀ (p z rs rs2 : List Nat), topC (stl 46 p rs).1 → topC (stl 46 (p ++ z) rs2).1
  | [], z, rs, rs2, h => absurd h (by simp [stl, topC])
  | c :: p, z, rs, rs2, h => by
    rw [List.cons_append, stl]
    rw [stl] at h
    by_cases hc : c = 48 ∨ c < 46
    · rw [if_pos hc] at h ⊢; exact h
    · rw [if_neg hc] at h ⊢; exact topC_app p z _ _ h
theorem hdW_mono {P Q : Nat → Prop} (h : ∀ c, P c → Q c) : ∀ ws, hdW P ws → hdW Q ws
  | [], _ => trivial
  | c :: _, hw => h c hw
section SIM
variable (M0 : Mem) (T : Nat → Nat) (n lim d0 : Nat) (b : Int32) (Φ : Option Int32 → Mem → Prop)
def ER : Prop := n ≤ 1000 ∧ M0.1 62 30 = nI n ∧ (∀ i, M0.1 81 i = nI (T i) ∧ T i < 256) ∧ ((b = 0 ∧ lim = 8) ∨ (¬ b = 0 ∧ lim = 14))
/-- behind a part: what waits of it, and how the loop goes on -/
def BEH (pk : Nat → Prop) (kn : Nat → List Nat → Prop) (ws : List Nat) (y : PSt) : Prop := ∀ (N : Mem) (pend rs : List Nat), y.2.1 = rs ++ pend.map dec → (∀ c ∈ pend, pk c ∧ ¬ c = 48) → kn y.1.1 pend → PQ M0 N n (y.1, rs, y.2.2) (pend ++ ws) → 3 * (y.2.1.length + nop ws + 1) ≤ 6 * y.2.2 + y.1.2.2.1 → HD d0 b Φ 2 N
def FAI (r : PRs) : Prop := ∀ v, r.1 = some v → ∀ N, QF M0 N v → Φ none N
def SN (k q rk cl dm : Nat) (tp pk : Nat → Prop) (kn : Nat → List Nat → Prop) (s0 : Bool) : Prop := ∀ (d : Nat) (x : PSt) (ws : List Nat) (N : Mem) (st : Nat), PQ M0 N n x ws → dpc ws = d → ws.length ≤ 6 * d + cl → d ≤ dm → hdW tp ws → (s0 = true → st = 0) → (s0 = false → st = 1 ∨ (st = 0 ∧ d < 8 ∧ ¬ x.1.1 = 18)) → 3 * (x.2.1.length + nop ws) ≤ 6 * x.2.2 + x.1.2.2.1 → 10 * (1001 - x.1.2.2.1) + rk ≤ k → FAI M0 Φ (prs T n lim k q d x) → ((prs T n lim k q d x).1 = none → BEH M0 n d0 b Φ pk kn ws (prs T n lim k q d x).2) → HD d0 b Φ st N
def SLo (k q rk cl dm : Nat) (tp pk : Nat → Prop) (kn0 kn : Nat → List Nat → Prop) : Prop := ∀ (d : Nat) (y : PSt) (ws : List Nat) (N : Mem) (pend rs : List Nat), y.2.1 = rs ++ pend.map dec → (∀ c ∈ pend, pk c ∧ ¬ c = 48) → kn0 y.1.1 pend → PQ M0 N n (y.1, rs, y.2.2) (pend ++ ws) → 3 * (y.2.1.length + nop ws + 1) ≤ 6 * y.2.2 + y.1.2.2.1 → dpc ws = d → ws.length ≤ 6 * d + cl → d ≤ dm → hdW tp ws → 10 * (1001 - y.1.2.2.1) + rk ≤ k → FAI M0 Φ (prs T n lim k q d y) → ((prs T n lim k q d y).1 = none → BEH M0 n d0 b Φ pk kn ws (prs T n lim k q d y).2) → HD d0 b Φ 2 N
end SIM
def tp6 (c : Nat) : Prop := c = 48 ∨ c < 46
def pk6 (c : Nat) : Prop := 46 ≤ c ∧ c ≤ 47
def kn6 (K : Nat) (_ : List Nat) : Prop := ¬ K = 43 ∧ ¬ K = 45
def knT (_ : Nat) (_ : List Nat) : Prop := True
set_option maxHeartbeats 1000000 in
theorem sim_6 {M0 : Mem} {T : Nat → Nat} {n lim d0 : Nat} {b : Int32} {Φ : Option Int32 → Mem → Prop} {k : Nat} (E : ER M0 T n lim b) (i8 : SN M0 T n lim d0 b Φ k 8 4 4 7 (fun _ => True) (fun _ => False) knT false) (i7 : SLo M0 T n lim d0 b Φ k 7 1 3 7 tp6 pk6 knT kn6) : SN M0 T n lim d0 b Φ (k + 1) 6 5 3 7 tp6 pk6 kn6 false := by
  intro d x ws N st hc hdp hlen hd hw _ hst hb hm hF hG
  have hT : ∀ i, T i < 256 := fun i => (E.2.2.1 i).2
  rw [prs, if_neg (by decide), if_neg (by decide), if_neg (by decide), if_neg (by decide), if_neg (by decide), if_neg (by decide), if_pos rfl] at hF hG
  refine i8 d x ws N st hc hdp (by omega) hd (hdW_mono (fun _ _ => trivial) ws hw) (fun q => absurd q (by decide)) hst hb (by omega) (fun v e N2 hN => ?_) (fun e N2 pend rs e1 e2 e3 e4 e5 => ?_)
  · rw [FAI, thn_s e] at hF
    exact hF v e N2 hN
  · have hz := prs_W (lim := lim) hT k 8 d x hc.2.2.2.1 hc.2.2.2.2.2.2.2.1 e
    have hs := hc.2.2.2.1.1
    have hn := E.1
    rw [show uq 8 = 1 from rfl] at hz
    rw [thn_o e] at hF hG
    exact i7 d _ ws N2 pend rs e1 (fun c hcm => absurd (e2 c hcm).1 id) trivial e4 e5 hdp hlen hd hw (by omega) hF hG
theorem codes_nop {y : PSt} {rs pend ws : List Nat} (e : y.2.1 = rs ++ pend.map dec) (hp : ∀ c ∈ pend, ¬ c = 48) : rs.length + nop (pend ++ ws) = y.2.1.length + nop ws := by
  rw [nop_app, nop_len pend hp, e, List.length_append, List.length_map]; omega
set_option maxHeartbeats 1000000 in
theorem sim_7 {M0 : Mem} {T : Nat → Nat} {n lim d0 : Nat} {b : Int32} {Φ : Option Int32 → Mem → Prop} {k : Nat} (E : ER M0 T n lim b) (i8 : SN M0 T n lim d0 b Φ k 8 4 4 7 (fun _ => True) (fun _ => False) knT false) (i7 : SLo M0 T n lim d0 b Φ k 7 1 3 7 tp6 pk6 knT kn6) : SLo M0 T n lim d0 b Φ (k + 1) 7 1 3 7 tp6 pk6 knT kn6 := by
  intro d y ws N pend rs he hp _ hc hb hdp hlen hd hw hm hF hG
  have hT : ∀ i, T i < 256 := fun i => (E.2.2.1 i).2
  have hcn := codes_nop (ws := ws) he (fun c hcm => (hp c hcm).2)
  have hs : y.1.2.2.1 ≤ n := hc.2.2.2.1.1
  have hse : y.1.2.2.1 ≤ y.1.2.2.2 := hc.2.2.2.1.2.1
  have hn := E.1
  have hy120 : y.2.2 ≤ 120 := hc.2.2.2.2.2.2.2.1
  rw [prs, if_neg (by decide), if_neg (by decide), if_neg (by decide), if_neg (by decide), if_neg (by decide), if_neg (by decide), if_neg (by decide), if_pos rfl] at hF hG
  by_cases hKK : y.1.1 = 43 ∨ y.1.1 = 45
  · rw [if_pos hKK] at hF hG
    have hav := adv_W (x := y) hT hc.2.2.2.1 (by omega)
    have havn := hav.1.1
    rcases hKK with hK | hK
    · have hpq : PQ M0 N n (y.1, rs, y.2.2) (pend ++ ws) := hc
      have hst : stl 46 (pend ++ ws) rs = (ws, rs ++ pend.map dec) := stl_pend pend ws rs (fun c hcm => ⟨(hp c hcm).1.1, (hp c hcm).2⟩) hw
      refine hd_s hc (fun q => absurd (q.1.symm.trans hK) (by decide)) (tM_sg_43 (T := T) E.1 E.2.1 E.2.2.1 hc hK (by rw [show (stl 46 (pend ++ ws) (y.1, rs, y.2.2).2.1) = (ws, rs ++ pend.map dec) from hst]; show ws.length < 60; omega) (by show 3 * (rs.length + nop (pend ++ ws) + 1) ≤ 6 * y.2.2 + y.1.2.2.2; omega) (fun N2 hc2 => ?_))
      rw [show (stl 46 (pend ++ ws) (y.1, rs, y.2.2).2.1) = (ws, rs ++ pend.map dec) from hst, show (((y.1, rs, y.2.2) : PSt).1, (ws, rs ++ pend.map dec).2, ((y.1, rs, y.2.2) : PSt).2.2) = y by rw [← he]] at hc2
      refine ⟨1, rfl, i8 d (advP T n y) (46 :: ws) N2 1 hc2 (by rw [dpc, if_neg (by decide)]; exact hdp) (by rw [List.length_cons]; omega) hd trivial (fun q => absurd q (by decide)) (fun _ => Or.inl rfl) (by rw [nop, if_neg (by decide)]; show 3 * (y.2.1.length + _) ≤ 6 * y.2.2 + _; omega) (by omega) (fun v e N3 hN => ?_) (fun e N3 pend2 rs2 e1 e2 e3 e4 e5 => ?_)⟩
      · rw [FAI, thn_s e] at hF
        exact hF v e N3 hN
      · have hz := prs_W (lim := lim) hT k 8 d (advP T n y) hav.1 hy120 e
        rw [show uq 8 = 1 from rfl, adv_2] at hz
        have hz1 := hz.1.1
        have hen : nop (46 :: ws) = nop ws + 1 := by rw [nop, if_neg (by decide)]
        rw [hen] at e5
        rw [thn_o e] at hF hG
        have hp0 : pend2 = [] := by
          cases pend2 with
          | nil => rfl
          | cons c r => exact absurd (e2 c (List.mem_cons_self ..)).1 id
        subst hp0
        rw [List.map_nil, List.append_nil] at e1
        refine i7 d (emt (prs T n lim k 8 d (advP T n y)).2 y.1.1) ws N3 [46] rs2 ?_ (fun c hcm => ?_) trivial e4 ?_ hdp hlen hd hw ?_ hF hG
        · show (prs T n lim k 8 d (advP T n y)).2.2.1 ++ [y.1.1] = rs2 ++ [dec 46]
          rw [e1, hK]; rfl
        · rw [List.mem_singleton.mp hcm]; exact ⟨⟨by decide, by decide⟩, by decide⟩
        · rw [emt_l]
          show 3 * ((prs T n lim k 8 d (advP T n y)).2.2.1.length + 1 + nop ws + 1) ≤ 6 * (prs T n lim k 8 d (advP T n y)).2.2.2 + (prs T n lim k 8 d (advP T n y)).2.1.2.2.1
          omega
        · show 10 * (1001 - (prs T n lim k 8 d (advP T n y)).2.1.2.2.1) + 1 ≤ k
          omega
    · have hpq : PQ M0 N n (y.1, rs, y.2.2) (pend ++ ws) := hc
      have hst : stl 46 (pend ++ ws) rs = (ws, rs ++ pend.map dec) := stl_pend pend ws rs (fun c hcm => ⟨(hp c hcm).1.1, (hp c hcm).2⟩) hw
      refine hd_s hc (fun q => absurd (q.1.symm.trans hK) (by decide)) (tM_sg_45 (T := T) E.1 E.2.1 E.2.2.1 hc hK (by rw [show (stl 46 (pend ++ ws) (y.1, rs, y.2.2).2.1) = (ws, rs ++ pend.map dec) from hst]; show ws.length < 60; omega) (by show 3 * (rs.length + nop (pend ++ ws) + 1) ≤ 6 * y.2.2 + y.1.2.2.2; omega) (fun N2 hc2 => ?_))
      rw [show (stl 46 (pend ++ ws) (y.1, rs, y.2.2).2.1) = (ws, rs ++ pend.map dec) from hst, show (((y.1, rs, y.2.2) : PSt).1, (ws, rs ++ pend.map dec).2, ((y.1, rs, y.2.2) : PSt).2.2) = y by rw [← he]] at hc2
      refine ⟨1, rfl, i8 d (advP T n y) (47 :: ws) N2 1 hc2 (by rw [dpc, if_neg (by decide)]; exact hdp) (by rw [List.length_cons]; omega) hd trivial (fun q => absurd q (by decide)) (fun _ => Or.inl rfl) (by rw [nop, if_neg (by decide)]; show 3 * (y.2.1.length + _) ≤ 6 * y.2.2 + _; omega) (by omega) (fun v e N3 hN => ?_) (fun e N3 pend2 rs2 e1 e2 e3 e4 e5 => ?_)⟩
      · rw [FAI, thn_s e] at hF
        exact hF v e N3 hN
      · have hz := prs_W (lim := lim) hT k 8 d (advP T n y) hav.1 hy120 e
        rw [show uq 8 = 1 from rfl, adv_2] at hz
        have hz1 := hz.1.1
        have hen : nop (47 :: ws) = nop ws + 1 := by rw [nop, if_neg (by decide)]
        rw [hen] at e5
        rw [thn_o e] at hF hG
        have hp0 : pend2 = [] := by
          cases pend2 with
          | nil => rfl
          | cons c r => exact absurd (e2 c (List.mem_cons_self ..)).1 id
        subst hp0
        rw [List.map_nil, List.append_nil] at e1
        refine i7 d (emt (prs T n lim k 8 d (advP T n y)).2 y.1.1) ws N3 [47] rs2 ?_ (fun c hcm => ?_) trivial e4 ?_ hdp hlen hd hw ?_ hF hG
        · show (prs T n lim k 8 d (advP T n y)).2.2.1 ++ [y.1.1] = rs2 ++ [dec 47]
          rw [e1, hK]; rfl
        · rw [List.mem_singleton.mp hcm]; exact ⟨⟨by decide, by decide⟩, by decide⟩
        · rw [emt_l]
          show 3 * ((prs T n lim k 8 d (advP T n y)).2.2.1.length + 1 + nop ws + 1) ≤ 6 * (prs T n lim k 8 d (advP T n y)).2.2.2 + (prs T n lim k 8 d (advP T n y)).2.1.2.2.1
          omega
        · show 10 * (1001 - (prs T n lim k 8 d (advP T n y)).2.1.2.2.1) + 1 ≤ k
          omega
  · rw [if_neg hKK] at hF hG
    exact hG rfl N pend rs he hp ⟨fun q => hKK (Or.inl q), fun q => hKK (Or.inr q)⟩ hc hb

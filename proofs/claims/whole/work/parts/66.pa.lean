def PST (M0 : Mem) (n : Nat) (Φ : Option Int32 → Mem → Prop) (r : PRs) : Prop := (r.1 = none → ∀ N, PC M0 N n r.2 → Φ (some 1) N) ∧ ∀ f, r.1 = some f → ∀ N, PF M0 N f → Φ (some 0) N
theorem PST.y {M0 : Mem} {n : Nat} {Φ : Option Int32 → Mem → Prop} {r : PRs} {f : PSt → PRs} (h : PST M0 n Φ (thn r f)) (e : r.1 = none) : PST M0 n Φ (f r.2) := by
  unfold thn at h
  rw [if_pos e] at h
  exact h
theorem PST.x {M0 : Mem} {n : Nat} {Φ : Option Int32 → Mem → Prop} {r : PRs} {f : PSt → PRs} (h : PST M0 n Φ (thn r f)) {v : Nat × Nat} (e : r.1 = some v) {N : Mem} (hN : PF M0 N v) : Φ (some 0) N := by
  unfold thn at h
  rw [if_neg (by rw [e]; exact fun q => by cases q)] at h
  exact h.2 v e N hN
def CQ (M0 : Mem) (T : Nat → Nat) (n lim k q dm rk rd : Nat) (md : MD) : Prop := ∀ (d : Nat) (x : PSt) (N : Mem) (D : Nat) (Φ : Option Int32 → Mem → Prop), d ≤ dm → PC M0 N n x → 10 * (1001 - x.1.2.2.1) + rk ≤ k → 14 + 7 * (8 - d) + rd ≤ D → PST M0 n Φ (prs T n lim k q d x) → JM noRo D md 0 [some (.ref 25), some (.int (nI d))] [] N Φ
def CLp (M0 : Mem) (T : Nat → Nat) (n lim k q dm rk rd : Nat) (md : MD) : Prop := ∀ (d tu : Nat) (x : PSt) (N : Mem) (D : Nat) (Φ : Option Int32 → Mem → Prop), d ≤ dm → tu ≤ x.1.2.2.1 → PC M0 N n x → 10 * (1001 - x.1.2.2.1) + rk ≤ k → 14 + 7 * (8 - d) + rd ≤ D → PST M0 n Φ (prs T n lim k q d x) → JM noRo D md 12 [some (.ref 25), some (.int (nI d)), some (.int (nI tu))] [] N Φ
def ENV (M0 : Mem) (T : Nat → Nat) (n lim : Nat) : Prop := LetOK ∧ M0.1 13 1 = nI n ∧ n ≤ 1000 ∧ (∀ i, M0.1 14 i = nI (T i) ∧ T i < 256) ∧ ((M0.1 25 3 = 0 ∧ lim = 8) ∨ (¬ M0.1 25 3 = 0 ∧ lim = 14))
theorem tX5_adv {M0 N : Mem} {T : Nat → Nat} {n lim D : Nat} {x : PSt} {Φ : Option Int32 → Mem → Prop} (E : ENV M0 T n lim) (hD : 9 ≤ D) (hc : PC M0 N n x) (h0 : x.1.1 ≠ 0) (h1 : x.1.1 ≠ 1) (h : ∀ N2, PC M0 N2 n (advP T n x) → Φ none N2) : JM noRo D mX9_advance 0 [some (.ref 26)] [] N Φ := by
  obtain ⟨hLet, hn, hnb, hT, -⟩ := E
  refine M_more (d := 9) hD (tX9_advance (d := 0) (n := n) (T := T) (p := x.1.2.2.2) hLet (by rw [hc.1 13 (by decide)]; exact hn) hnb (by rw [hc.1 14 (by decide)]; exact hT) hc.2.2.1.2.2.1 (hc.2.1.2.2.1 h1) (fun g hg => ?_))
  exact h _ (PC.ad (fun i => (hT i).2) hc h0 hg)
theorem tX5_em {M0 N : Mem} {n D c : Nat} {x : PSt} {Φ : Option Int32 → Mem → Prop} (hnb : n ≤ 1000) (hc : PC M0 N n x) (hb : 3 * (x.2.1.length + 1) ≤ 6 * x.2.2 + x.1.2.2.1) (h : ∀ N2, PC M0 N2 n (emt x c) → Φ none N2) : JM noRo D mX7_emit 0 [some (.ref 15), some (.int (nI c))] [] N Φ :=
  tX7_emit hc.2.2.2.1.1 (hc.lt hnb) (h _ (hc.em hb))
theorem tX5_kd {M0 N : Mem} {n D : Nat} {x : PSt} {Φ : Option Int32 → Mem → Prop} (hc : PC M0 N n x) (h : Φ (some (nI x.1.1)) N) : JM noRo D mX9_kind 0 [some (.ref 26)] [] N Φ := tX9_kind (by rw [hc.2.1.2.1]; exact h)
theorem tX5_rf {M0 N : Mem} {n D f : Nat} {x : PSt} {Φ : Option Int32 → Mem → Prop} (hD : 1 ≤ D) (hc : PC M0 N n x) (h : PST M0 n Φ (rfu x f)) : JM noRo D mX5_refuse 0 [some (.ref 25), some (.int (nI f))] [] N Φ := M_more (d := 1) hD (tX5_refuse (d := 0) hc (fun N hN => h.2 _ rfl N hN))
set_option maxRecDepth 100000 in
set_option maxHeartbeats 1000000 in
theorem cP_0 {M0 : Mem} {T : Nat → Nat} {n lim k : Nat} (E : ENV M0 T n lim) (i1 : CQ M0 T n lim k 2 8 8 5 mX5_readBoth) (i2 : CLp M0 T n lim k 1 8 3 6 mX5_readEither) : CQ M0 T n lim (k + 1) 0 8 9 6 mX5_readEither := by
  intro d x N D Φ hd hc hm hD h
  obtain ⟨D, rfl⟩ : ∃ D2, D = D2 + 1 := ⟨D - 1, by omega⟩
  have hs := hc.2.2.1.1
  have hnb := E.2.2.1
  have h11 := hc.2.2.2.2.2.2.2.2.2.2
  have hW := fun q d y hy ho => prs_W (T := T) (n := n) (lim := lim) (fun i => (E.2.2.2.1 i).2) k q d y hy ho
  rw [prs, if_pos rfl] at h
  refine J_aload_n dX5_readEither_0 rfl ?_
  refine J_iload_n dX5_readEither_1 rfl ?_
  refine M_callV1 (mc := mX5_readBoth) dX5_readEither_2 kX5_61 oX5_readBoth (Nat.le_of_ble_eq_true rfl) (Nat.le_of_ble_eq_true rfl) rfl (by decide) rfl ?_
  refine i1 d x N _ _ (by omega) hc (by omega) (by omega) ⟨fun e N2 hc2 => ?_, fun v e N2 hv => ?_⟩
  · -- true
    have hz := hW 2 d x hc.2.2.1 hc.2.2.2.2.2.2.1 e
    rw [show uq 2 = 1 from rfl] at hz
    refine J_if_ne (tgt := 10) dX5_readEither_5 (by decide) (fun c2 => ?_) (fun c2 => ?_)
    · -- to 10
      refine J_iconst (v := 0) dX5_readEither_10 (by decide) ?_
      refine J_istore_n dX5_readEither_11 (by decide) rfl ?_
      dsimp only [setL]
      exact i2 d 0 _ N2 _ _ hd (Nat.zero_le _) hc2 (by omega) (by omega) (h.y e)
    · -- on 8
      exact absurd c2 (by decide)
  · -- false
    refine J_if_ne (tgt := 10) dX5_readEither_5 (by decide) (fun c3 => ?_) (fun c3 => ?_)
    · -- to 10
      exact absurd c3 (by decide)
    · -- on 8
      refine J_iconst (v := 0) dX5_readEither_8 (by decide) ?_
      refine M_zret dX5_readEither_9 rfl (by first | assumption | exact Or.inl rfl | exact Or.inr rfl) ?_
      exact h.x e hv
set_option maxRecDepth 100000 in
set_option maxHeartbeats 1000000 in
theorem cP_2 {M0 : Mem} {T : Nat → Nat} {n lim k : Nat} (E : ENV M0 T n lim) (i1 : CQ M0 T n lim k 4 8 7 4 mX5_readOne) (i2 : CLp M0 T n lim k 3 8 2 5 mX5_readBoth) : CQ M0 T n lim (k + 1) 2 8 8 5 mX5_readBoth := by
  intro d x N D Φ hd hc hm hD h
  obtain ⟨D, rfl⟩ : ∃ D2, D = D2 + 1 := ⟨D - 1, by omega⟩
  have hs := hc.2.2.1.1
  have hnb := E.2.2.1
  have h11 := hc.2.2.2.2.2.2.2.2.2.2
  have hW := fun q d y hy ho => prs_W (T := T) (n := n) (lim := lim) (fun i => (E.2.2.2.1 i).2) k q d y hy ho
  rw [prs, if_neg (by decide), if_neg (by decide), if_pos rfl] at h
  refine J_aload_n dX5_readBoth_0 rfl ?_
  refine J_iload_n dX5_readBoth_1 rfl ?_
  refine M_callV1 (mc := mX5_readOne) dX5_readBoth_2 kX5_68 oX5_readOne (Nat.le_of_ble_eq_true rfl) (Nat.le_of_ble_eq_true rfl) rfl (by decide) rfl ?_
  refine i1 d x N _ _ (by omega) hc (by omega) (by omega) ⟨fun e N2 hc2 => ?_, fun v e N2 hv => ?_⟩
  · -- true
    have hz := hW 4 d x hc.2.2.1 hc.2.2.2.2.2.2.1 e
    rw [show uq 4 = 1 from rfl] at hz
    refine J_if_ne (tgt := 10) dX5_readBoth_5 (by decide) (fun c2 => ?_) (fun c2 => ?_)
    · -- to 10
      refine J_iconst (v := 0) dX5_readBoth_10 (by decide) ?_
      refine J_istore_n dX5_readBoth_11 (by decide) rfl ?_
      dsimp only [setL]
      exact i2 d 0 _ N2 _ _ hd (Nat.zero_le _) hc2 (by omega) (by omega) (h.y e)
    · -- on 8
      exact absurd c2 (by decide)
  · -- false
    refine J_if_ne (tgt := 10) dX5_readBoth_5 (by decide) (fun c3 => ?_) (fun c3 => ?_)
    · -- to 10
      exact absurd c3 (by decide)
    · -- on 8
      refine J_iconst (v := 0) dX5_readBoth_8 (by decide) ?_
      refine M_zret dX5_readBoth_9 rfl (by first | assumption | exact Or.inl rfl | exact Or.inr rfl) ?_
      exact h.x e hv
set_option maxRecDepth 100000 in
set_option maxHeartbeats 1000000 in
theorem cP_6 {M0 : Mem} {T : Nat → Nat} {n lim k : Nat} (E : ENV M0 T n lim) (i1 : CQ M0 T n lim k 8 7 4 1 mX5_readTerm) (i2 : CLp M0 T n lim k 7 7 1 2 mX5_readSum) : CQ M0 T n lim (k + 1) 6 7 5 2 mX5_readSum := by
  intro d x N D Φ hd hc hm hD h
  obtain ⟨D, rfl⟩ : ∃ D2, D = D2 + 1 := ⟨D - 1, by omega⟩
  have hs := hc.2.2.1.1
  have hnb := E.2.2.1
  have h11 := hc.2.2.2.2.2.2.2.2.2.2
  have hW := fun q d y hy ho => prs_W (T := T) (n := n) (lim := lim) (fun i => (E.2.2.2.1 i).2) k q d y hy ho
  rw [prs, if_neg (by decide), if_neg (by decide), if_neg (by decide), if_neg (by decide), if_neg (by decide), if_neg (by decide), if_pos rfl] at h
  refine J_aload_n dX5_readSum_0 rfl ?_
  refine J_iload_n dX5_readSum_1 rfl ?_
  refine M_callV1 (mc := mX5_readTerm) dX5_readSum_2 kX5_77 oX5_readTerm (Nat.le_of_ble_eq_true rfl) (Nat.le_of_ble_eq_true rfl) rfl (by decide) rfl ?_
  refine i1 d x N _ _ (by omega) hc (by omega) (by omega) ⟨fun e N2 hc2 => ?_, fun v e N2 hv => ?_⟩
  · -- true
    have hz := hW 8 d x hc.2.2.1 hc.2.2.2.2.2.2.1 e
    rw [show uq 8 = 1 from rfl] at hz
    refine J_if_ne (tgt := 10) dX5_readSum_5 (by decide) (fun c2 => ?_) (fun c2 => ?_)
    · -- to 10
      refine J_iconst (v := 0) dX5_readSum_10 (by decide) ?_
      refine J_istore_n dX5_readSum_11 (by decide) rfl ?_
      dsimp only [setL]
      exact i2 d 0 _ N2 _ _ hd (Nat.zero_le _) hc2 (by omega) (by omega) (h.y e)
    · -- on 8
      exact absurd c2 (by decide)
  · -- false
    refine J_if_ne (tgt := 10) dX5_readSum_5 (by decide) (fun c3 => ?_) (fun c3 => ?_)
    · -- to 10
      exact absurd c3 (by decide)
    · -- on 8
      refine J_iconst (v := 0) dX5_readSum_8 (by decide) ?_
      refine M_zret dX5_readSum_9 rfl (by first | assumption | exact Or.inl rfl | exact Or.inr rfl) ?_
      exact h.x e hv
set_option maxRecDepth 100000 in
set_option maxHeartbeats 1000000 in
theorem cP_1 {M0 : Mem} {T : Nat → Nat} {n lim k : Nat} (E : ENV M0 T n lim) (i1 : CQ M0 T n lim k 2 8 8 5 mX5_readBoth) (i2 : CLp M0 T n lim k 1 8 3 6 mX5_readEither) : CLp M0 T n lim (k + 1) 1 8 3 6 mX5_readEither := by
  intro d tu x N D Φ hd htu hc hm hD h
  obtain ⟨D, rfl⟩ : ∃ D2, D = D2 + 1 := ⟨D - 1, by omega⟩
  have hs := hc.2.2.1.1
  have hnb := E.2.2.1
  have h11 := hc.2.2.2.2.2.2.2.2.2.2
  have hW := fun q d y hy ho => prs_W (T := T) (n := n) (lim := lim) (fun i => (E.2.2.2.1 i).2) k q d y hy ho
  rw [prs, if_neg (by decide), if_pos rfl] at h
  by_cases hK : x.1.1 = 16
  · rw [if_pos hK] at h
    have hse := hc.2.2.1.2.2.2.1 (by omega)
    have hen := hc.2.2.1.2.2.1
    have hav := (adv_W (fun i => (E.2.2.2.1 i).2) hc.2.2.1 (x := x) (by omega)).2
    refine J_iload_n dX5_readEither_12 rfl ?_
    refine J_sipush (v := 1000) dX5_readEither_13 (by decide) ?_
    refine J_icmp_ge (tgt := 63) dX5_readEither_16 (by decide) (fun c1 => ?_) (fun c1 => ?_)
    · -- to 63
      exact absurd c1 (nI_ge (b := 1000) (by omega) (by decide))
    · -- on 19
      refine J_aload_n dX5_readEither_19 rfl ?_
      refine M_getR dX5_readEither_20 fX5_9 rfl rfl (by decide) ?_
      refine M_callV0 (mc := mX9_kind) dX5_readEither_23 kX5_39 oX9_kind (Nat.le_of_ble_eq_true rfl) (Nat.le_of_ble_eq_true rfl) rfl (by decide) rfl ?_
      refine tX5_kd hc ?_
      rw [hK]
      refine J_bipush (v := 16) dX5_readEither_26 (by decide) ?_
      refine J_icmp_ne (tgt := 63) dX5_readEither_28 (by decide) (fun c3 => ?_) (fun c3 => ?_)
      · -- to 63
        exact absurd c3 (by decide)
      · -- on 31
        refine J_aload_n dX5_readEither_31 rfl ?_
        refine M_getR dX5_readEither_32 fX5_9 rfl rfl (by decide) ?_
        refine M_callV0 (mc := mX9_advance) dX5_readEither_35 kX5_51 oX9_advance (Nat.le_of_ble_eq_true rfl) (Nat.le_of_ble_eq_true rfl) rfl (by decide) rfl ?_
        refine tX5_adv E (by omega) hc (by omega) (by omega) (fun NA hA => ?_)
        refine J_aload_n dX5_readEither_38 rfl ?_
        refine J_iload_n dX5_readEither_39 rfl ?_
        refine M_callV1 (mc := mX5_readBoth) dX5_readEither_40 kX5_61 oX5_readBoth (Nat.le_of_ble_eq_true rfl) (Nat.le_of_ble_eq_true rfl) rfl (by decide) rfl ?_
        refine i1 d (advP T n x) NA _ _ (by omega) hA (by omega) (by omega) ⟨fun e N2 hc2 => ?_, fun v e N2 hv => ?_⟩
        · -- true
          have hz := hW 2 d (advP T n x) hA.2.2.1 hA.2.2.2.2.2.2.1 e
          rw [show uq 2 = 1 from rfl] at hz
          have hA11 := hA.2.2.2.2.2.2.2.2.2.2
          refine J_if_ne (tgt := 48) dX5_readEither_43 (by decide) (fun c6 => ?_) (fun c6 => ?_)
          · -- to 48
            refine J_aload_n dX5_readEither_48 rfl ?_
            refine M_getR dX5_readEither_49 fX5_15 rfl rfl (by decide) ?_
            refine J_bipush (v := 16) dX5_readEither_52 (by decide) ?_
            refine M_callV1 (mc := mX7_emit) dX5_readEither_54 kX5_64 oX7_emit (Nat.le_of_ble_eq_true rfl) (Nat.le_of_ble_eq_true rfl) rfl (by decide) rfl ?_
            refine tX5_em (c := 16) hnb hc2 (by omega) (fun N3 hc3 => ?_)
            refine J_iinc (v := nI (tu + 1)) dX5_readEither_57 rfl (nI_1 tu) (by decide) rfl ?_
            dsimp only [setL]
            refine J_goto (tgt := 12) dX5_readEither_60 (by decide) ?_
            have hs9 := hc3.2.2.1.1
            exact i2 d (tu + 1) _ N3 _ _ hd (by show tu + 1 ≤ (prs T n lim k 2 d (advP T n x)).2.1.2.2.1; omega) hc3 (by show 10 * (1001 - (prs T n lim k 2 d (advP T n x)).2.1.2.2.1) + _ ≤ k; omega) (by omega) (h.y e)
          · -- on 46
            exact absurd c6 (by decide)
        · -- false
          refine J_if_ne (tgt := 48) dX5_readEither_43 (by decide) (fun c8 => ?_) (fun c8 => ?_)
          · -- to 48
            exact absurd c8 (by decide)
          · -- on 46
            refine J_iconst (v := 0) dX5_readEither_46 (by decide) ?_
            refine M_zret dX5_readEither_47 rfl (by first | assumption | exact Or.inl rfl | exact Or.inr rfl) ?_
            exact h.x e hv
  · rw [if_neg hK] at h
    refine J_iload_n dX5_readEither_12 rfl ?_
    refine J_sipush (v := 1000) dX5_readEither_13 (by decide) ?_
    refine J_icmp_ge (tgt := 63) dX5_readEither_16 (by decide) (fun c1 => ?_) (fun c1 => ?_)
    · -- to 63
      refine J_iconst (v := 1) dX5_readEither_63 (by decide) ?_
      refine M_zret dX5_readEither_64 rfl (by first | assumption | exact Or.inl rfl | exact Or.inr rfl) ?_
      exact h.1 rfl N hc
    · -- on 19
      refine J_aload_n dX5_readEither_19 rfl ?_
      refine M_getR dX5_readEither_20 fX5_9 rfl rfl (by decide) ?_
      refine M_callV0 (mc := mX9_kind) dX5_readEither_23 kX5_39 oX9_kind (Nat.le_of_ble_eq_true rfl) (Nat.le_of_ble_eq_true rfl) rfl (by decide) rfl ?_
      refine tX5_kd hc ?_
      refine J_bipush (v := 16) dX5_readEither_26 (by decide) ?_
      refine J_icmp_ne (tgt := 63) dX5_readEither_28 (by decide) (fun c3 => ?_) (fun c3 => ?_)
      · -- to 63
        refine J_iconst (v := 1) dX5_readEither_63 (by decide) ?_
        refine M_zret dX5_readEither_64 rfl (by first | assumption | exact Or.inl rfl | exact Or.inr rfl) ?_
        exact h.1 rfl N hc
      · -- on 31
        exact absurd ((nI_eq (a := x.1.1) (b := 16) (by have := hc.2.2.1.2.2.2.2.2.2.1; omega) (by decide)).mp c3) hK
set_option maxRecDepth 100000 in
set_option maxHeartbeats 1000000 in
theorem cP_3 {M0 : Mem} {T : Nat → Nat} {n lim k : Nat} (E : ENV M0 T n lim) (i1 : CQ M0 T n lim k 4 8 7 4 mX5_readOne) (i2 : CLp M0 T n lim k 3 8 2 5 mX5_readBoth) : CLp M0 T n lim (k + 1) 3 8 2 5 mX5_readBoth := by
  intro d tu x N D Φ hd htu hc hm hD h
  obtain ⟨D, rfl⟩ : ∃ D2, D = D2 + 1 := ⟨D - 1, by omega⟩
  have hs := hc.2.2.1.1
  have hnb := E.2.2.1
  have h11 := hc.2.2.2.2.2.2.2.2.2.2
  have hW := fun q d y hy ho => prs_W (T := T) (n := n) (lim := lim) (fun i => (E.2.2.2.1 i).2) k q d y hy ho
  rw [prs, if_neg (by decide), if_neg (by decide), if_neg (by decide), if_pos rfl] at h
  by_cases hK : x.1.1 = 17
  · rw [if_pos hK] at h
    have hse := hc.2.2.1.2.2.2.1 (by omega)
    have hen := hc.2.2.1.2.2.1
    have hav := (adv_W (fun i => (E.2.2.2.1 i).2) hc.2.2.1 (x := x) (by omega)).2
    refine J_iload_n dX5_readBoth_12 rfl ?_
    refine J_sipush (v := 1000) dX5_readBoth_13 (by decide) ?_
    refine J_icmp_ge (tgt := 63) dX5_readBoth_16 (by decide) (fun c1 => ?_) (fun c1 => ?_)
    · -- to 63
      exact absurd c1 (nI_ge (b := 1000) (by omega) (by decide))
    · -- on 19
      refine J_aload_n dX5_readBoth_19 rfl ?_
      refine M_getR dX5_readBoth_20 fX5_9 rfl rfl (by decide) ?_
      refine M_callV0 (mc := mX9_kind) dX5_readBoth_23 kX5_39 oX9_kind (Nat.le_of_ble_eq_true rfl) (Nat.le_of_ble_eq_true rfl) rfl (by decide) rfl ?_
      refine tX5_kd hc ?_
      rw [hK]
      refine J_bipush (v := 17) dX5_readBoth_26 (by decide) ?_
      refine J_icmp_ne (tgt := 63) dX5_readBoth_28 (by decide) (fun c3 => ?_) (fun c3 => ?_)
      · -- to 63
        exact absurd c3 (by decide)
      · -- on 31
        refine J_aload_n dX5_readBoth_31 rfl ?_
        refine M_getR dX5_readBoth_32 fX5_9 rfl rfl (by decide) ?_
        refine M_callV0 (mc := mX9_advance) dX5_readBoth_35 kX5_51 oX9_advance (Nat.le_of_ble_eq_true rfl) (Nat.le_of_ble_eq_true rfl) rfl (by decide) rfl ?_
        refine tX5_adv E (by omega) hc (by omega) (by omega) (fun NA hA => ?_)
        refine J_aload_n dX5_readBoth_38 rfl ?_
        refine J_iload_n dX5_readBoth_39 rfl ?_
        refine M_callV1 (mc := mX5_readOne) dX5_readBoth_40 kX5_68 oX5_readOne (Nat.le_of_ble_eq_true rfl) (Nat.le_of_ble_eq_true rfl) rfl (by decide) rfl ?_
        refine i1 d (advP T n x) NA _ _ (by omega) hA (by omega) (by omega) ⟨fun e N2 hc2 => ?_, fun v e N2 hv => ?_⟩
        · -- true
          have hz := hW 4 d (advP T n x) hA.2.2.1 hA.2.2.2.2.2.2.1 e
          rw [show uq 4 = 1 from rfl] at hz
          have hA11 := hA.2.2.2.2.2.2.2.2.2.2
          refine J_if_ne (tgt := 48) dX5_readBoth_43 (by decide) (fun c6 => ?_) (fun c6 => ?_)
          · -- to 48
            refine J_aload_n dX5_readBoth_48 rfl ?_
            refine M_getR dX5_readBoth_49 fX5_15 rfl rfl (by decide) ?_
            refine J_bipush (v := 17) dX5_readBoth_52 (by decide) ?_
            refine M_callV1 (mc := mX7_emit) dX5_readBoth_54 kX5_64 oX7_emit (Nat.le_of_ble_eq_true rfl) (Nat.le_of_ble_eq_true rfl) rfl (by decide) rfl ?_
            refine tX5_em (c := 17) hnb hc2 (by omega) (fun N3 hc3 => ?_)
            refine J_iinc (v := nI (tu + 1)) dX5_readBoth_57 rfl (nI_1 tu) (by decide) rfl ?_
            dsimp only [setL]
            refine J_goto (tgt := 12) dX5_readBoth_60 (by decide) ?_
            have hs9 := hc3.2.2.1.1
            exact i2 d (tu + 1) _ N3 _ _ hd (by show tu + 1 ≤ (prs T n lim k 4 d (advP T n x)).2.1.2.2.1; omega) hc3 (by show 10 * (1001 - (prs T n lim k 4 d (advP T n x)).2.1.2.2.1) + _ ≤ k; omega) (by omega) (h.y e)
          · -- on 46
            exact absurd c6 (by decide)
        · -- false
          refine J_if_ne (tgt := 48) dX5_readBoth_43 (by decide) (fun c8 => ?_) (fun c8 => ?_)
          · -- to 48
            exact absurd c8 (by decide)
          · -- on 46
            refine J_iconst (v := 0) dX5_readBoth_46 (by decide) ?_
            refine M_zret dX5_readBoth_47 rfl (by first | assumption | exact Or.inl rfl | exact Or.inr rfl) ?_
            exact h.x e hv
  · rw [if_neg hK] at h
    refine J_iload_n dX5_readBoth_12 rfl ?_
    refine J_sipush (v := 1000) dX5_readBoth_13 (by decide) ?_
    refine J_icmp_ge (tgt := 63) dX5_readBoth_16 (by decide) (fun c1 => ?_) (fun c1 => ?_)
    · -- to 63
      refine J_iconst (v := 1) dX5_readBoth_63 (by decide) ?_
      refine M_zret dX5_readBoth_64 rfl (by first | assumption | exact Or.inl rfl | exact Or.inr rfl) ?_
      exact h.1 rfl N hc
    · -- on 19
      refine J_aload_n dX5_readBoth_19 rfl ?_
      refine M_getR dX5_readBoth_20 fX5_9 rfl rfl (by decide) ?_
      refine M_callV0 (mc := mX9_kind) dX5_readBoth_23 kX5_39 oX9_kind (Nat.le_of_ble_eq_true rfl) (Nat.le_of_ble_eq_true rfl) rfl (by decide) rfl ?_
      refine tX5_kd hc ?_
      refine J_bipush (v := 17) dX5_readBoth_26 (by decide) ?_
      refine J_icmp_ne (tgt := 63) dX5_readBoth_28 (by decide) (fun c3 => ?_) (fun c3 => ?_)
      · -- to 63
        refine J_iconst (v := 1) dX5_readBoth_63 (by decide) ?_
        refine M_zret dX5_readBoth_64 rfl (by first | assumption | exact Or.inl rfl | exact Or.inr rfl) ?_
        exact h.1 rfl N hc
      · -- on 31
        exact absurd ((nI_eq (a := x.1.1) (b := 17) (by have := hc.2.2.1.2.2.2.2.2.2.1; omega) (by decide)).mp c3) hK
set_option maxRecDepth 100000 in
set_option maxHeartbeats 1000000 in
theorem cP_4 {M0 : Mem} {T : Nat → Nat} {n lim k : Nat} (E : ENV M0 T n lim) (i1 : CQ M0 T n lim k 5 7 6 3 mX5_readComparison) (i2 : CQ M0 T n lim k 4 8 7 4 mX5_readOne) : CQ M0 T n lim (k + 1) 4 8 7 4 mX5_readOne := by
  intro d x N D Φ hd hc hm hD h
  obtain ⟨D, rfl⟩ : ∃ D2, D = D2 + 1 := ⟨D - 1, by omega⟩
  have hs := hc.2.2.1.1
  have hnb := E.2.2.1
  have h11 := hc.2.2.2.2.2.2.2.2.2.2
  have hW := fun q d y hy ho => prs_W (T := T) (n := n) (lim := lim) (fun i => (E.2.2.2.1 i).2) k q d y hy ho
  rw [prs, if_neg (by decide), if_neg (by decide), if_neg (by decide), if_neg (by decide), if_pos rfl] at h
  by_cases h8 : 8 ≤ d
  · rw [if_pos h8] at h
    refine J_iload_n dX5_readOne_0 rfl ?_
    refine J_bipush (v := 8) dX5_readOne_1 (by decide) ?_
    refine J_icmp_lt (tgt := 12) dX5_readOne_3 (by decide) (fun c1 => ?_) (fun c1 => ?_)
    · -- to 12
      exact absurd c1 (nI_nlt (b := 8) h8 (by omega))
    · -- on 6
      refine J_aload_n dX5_readOne_6 rfl ?_
      refine J_iconst (v := 2) dX5_readOne_7 (by decide) ?_
      refine M_callV1 (mc := mX5_refuse) dX5_readOne_8 kX5_43 oX5_refuse (Nat.le_of_ble_eq_true rfl) (Nat.le_of_ble_eq_true rfl) rfl (by decide) rfl ?_
      refine tX5_rf (f := 2) (by omega) hc ⟨fun e => absurd e (by simp [rfu]), fun v e N2 hv => ?_⟩
      refine M_zret dX5_readOne_11 rfl (by first | assumption | exact Or.inl rfl | exact Or.inr rfl) ?_
      exact h.2 v e N2 hv
  · rw [if_neg h8] at h
    by_cases hK : x.1.1 = 18
    · rw [if_pos hK] at h
      have hav := (adv_W (fun i => (E.2.2.2.1 i).2) hc.2.2.1 (x := x) (by omega)).2
      refine J_iload_n dX5_readOne_0 rfl ?_
      refine J_bipush (v := 8) dX5_readOne_1 (by decide) ?_
      refine J_icmp_lt (tgt := 12) dX5_readOne_3 (by decide) (fun c1 => ?_) (fun c1 => ?_)
      · -- to 12
        refine J_aload_n dX5_readOne_12 rfl ?_
        refine M_getR dX5_readOne_13 fX5_9 rfl rfl (by decide) ?_
        refine M_callV0 (mc := mX9_kind) dX5_readOne_16 kX5_39 oX9_kind (Nat.le_of_ble_eq_true rfl) (Nat.le_of_ble_eq_true rfl) rfl (by decide) rfl ?_
        refine tX5_kd hc ?_
        rw [hK]
        refine J_bipush (v := 18) dX5_readOne_19 (by decide) ?_
        refine J_icmp_eq (tgt := 30) dX5_readOne_21 (by decide) (fun c3 => ?_) (fun c3 => ?_)
        · -- to 30
          refine J_aload_n dX5_readOne_30 rfl ?_
          refine M_getR dX5_readOne_31 fX5_9 rfl rfl (by decide) ?_
          refine M_callV0 (mc := mX9_advance) dX5_readOne_34 kX5_51 oX9_advance (Nat.le_of_ble_eq_true rfl) (Nat.le_of_ble_eq_true rfl) rfl (by decide) rfl ?_
          refine tX5_adv E (by omega) hc (by omega) (by omega) (fun NA hA => ?_)
          refine J_aload_n dX5_readOne_37 rfl ?_
          refine J_iload_n dX5_readOne_38 rfl ?_
          refine J_iconst (v := 1) dX5_readOne_39 (by decide) ?_
          refine J_iadd dX5_readOne_40 ?_
          refine M_callV1 (mc := mX5_readOne) dX5_readOne_41 kX5_68 oX5_readOne (Nat.le_of_ble_eq_true rfl) (Nat.le_of_ble_eq_true rfl) rfl (by decide) rfl ?_
          rw [nI_1]
          refine i2 (d + 1) (advP T n x) NA _ _ (by omega) hA (by omega) (by omega) ⟨fun e N2 hc2 => ?_, fun v e N2 hv => ?_⟩
          · -- true
            have hz := hW 4 (d + 1) (advP T n x) hA.2.2.1 hA.2.2.2.2.2.2.1 e
            rw [show uq 4 = 1 from rfl] at hz
            have hA11 := hA.2.2.2.2.2.2.2.2.2.2
            refine J_if_ne (tgt := 49) dX5_readOne_44 (by decide) (fun c6 => ?_) (fun c6 => ?_)
            · -- to 49
              refine J_aload_n dX5_readOne_49 rfl ?_
              refine M_getR dX5_readOne_50 fX5_15 rfl rfl (by decide) ?_
              refine J_bipush (v := 18) dX5_readOne_53 (by decide) ?_
              refine M_callV1 (mc := mX7_emit) dX5_readOne_55 kX5_64 oX7_emit (Nat.le_of_ble_eq_true rfl) (Nat.le_of_ble_eq_true rfl) rfl (by decide) rfl ?_
              refine tX5_em (c := 18) hnb hc2 (by omega) (fun N3 hc3 => ?_)
              refine J_iconst (v := 1) dX5_readOne_58 (by decide) ?_
              refine M_zret dX5_readOne_59 rfl (by first | assumption | exact Or.inl rfl | exact Or.inr rfl) ?_
              first
              | exact (h.y e).1 rfl N3 hc3
              | exact h.x e hv
            · -- on 47
              exact absurd c6 (by decide)
          · -- false
            refine J_if_ne (tgt := 49) dX5_readOne_44 (by decide) (fun c8 => ?_) (fun c8 => ?_)
            · -- to 49
              exact absurd c8 (by decide)
            · -- on 47
              refine J_iconst (v := 0) dX5_readOne_47 (by decide) ?_
              refine M_zret dX5_readOne_48 rfl (by first | assumption | exact Or.inl rfl | exact Or.inr rfl) ?_
              first
              | exact (h.y e).1 rfl N3 hc3
              | exact h.x e hv
        · -- on 24
          exact absurd c3 (by decide)
      · -- on 6
        exact absurd (nI_lt (b := 8) (by omega) (by decide)) c1
    · rw [if_neg hK] at h
      refine J_iload_n dX5_readOne_0 rfl ?_
      refine J_bipush (v := 8) dX5_readOne_1 (by decide) ?_
      refine J_icmp_lt (tgt := 12) dX5_readOne_3 (by decide) (fun c1 => ?_) (fun c1 => ?_)
      · -- to 12
        refine J_aload_n dX5_readOne_12 rfl ?_
        refine M_getR dX5_readOne_13 fX5_9 rfl rfl (by decide) ?_
        refine M_callV0 (mc := mX9_kind) dX5_readOne_16 kX5_39 oX9_kind (Nat.le_of_ble_eq_true rfl) (Nat.le_of_ble_eq_true rfl) rfl (by decide) rfl ?_
        refine tX5_kd hc ?_
        refine J_bipush (v := 18) dX5_readOne_19 (by decide) ?_
        refine J_icmp_eq (tgt := 30) dX5_readOne_21 (by decide) (fun c3 => ?_) (fun c3 => ?_)
        · -- to 30
          exact absurd ((nI_eq (a := x.1.1) (b := 18) (by have := hc.2.2.1.2.2.2.2.2.2.1; omega) (by decide)).mp c3) hK
        · -- on 24
          refine J_aload_n dX5_readOne_24 rfl ?_
          refine J_iload_n dX5_readOne_25 rfl ?_
          refine M_callV1 (mc := mX5_readComparison) dX5_readOne_26 kX5_71 oX5_readComparison (Nat.le_of_ble_eq_true rfl) (Nat.le_of_ble_eq_true rfl) rfl (by decide) rfl ?_
          refine i1 d x N _ _ (by omega) hc (by omega) (by omega) ⟨fun e N2 hc2 => ?_, fun v e N2 hv => ?_⟩
          · -- true
            refine M_zret dX5_readOne_29 rfl (by first | assumption | exact Or.inl rfl | exact Or.inr rfl) ?_
            first
            | exact h.1 e N2 hc2
            | exact h.2 v e N2 hv
          · -- false
            refine M_zret dX5_readOne_29 rfl (by first | assumption | exact Or.inl rfl | exact Or.inr rfl) ?_
            first
            | exact h.1 e N2 hc2
            | exact h.2 v e N2 hv
      · -- on 6
        exact absurd (nI_lt (b := 8) (by omega) (by decide)) c1

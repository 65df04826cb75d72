def CL6 : List Nat := [24, 28, 29, 30, 31, 32]
/-- the planner at work: what it keeps is right -/
def CI (M N : Mem) (C st : Nat → Nat) (m : Nat) (p : Nat → Nat) (t : Nat) : Prop := (∀ a, a ∉ CL6 → N.1 a = M.1 a) ∧ N.1 29 6 = M.1 62 0 ∧ N.1 29 7 = nI t ∧ (∀ k, k < 12 → N.1 30 k = tp (p k)) ∧ (∀ j s, j < 12 → s < 24 → N.1 31 (j * 24 + s) = 0 ∨ N.1 31 (j * 24 + s) = if mayB M C st m j (s % 6) (s / 6) = true then 1 else 2) ∧ ∀ j s f o, j < 12 → s < 24 → f < 6 → o < 12 → grpOK (N.1 32 ((j * 24 + s) * 6 + f)) o (meetB M C st m j (s % 6) o f (s / 6))
theorem CL6_ne {a : Nat} (h : a ∉ CL6) : a ≠ 24 ∧ a ≠ 28 ∧ a ≠ 29 ∧ a ≠ 30 ∧ a ≠ 31 ∧ a ≠ 32 := by
  simp only [CL6, List.mem_cons, not_or, List.not_mem_nil, not_false_eq_true, and_true] at h
  omega
theorem CI.vw {M N : Mem} {C st : Nat → Nat} {m t : Nat} {p : Nat → Nat} (h : CI M N C st m p t) : Vw M N := by
  have e := h.1 62 (by decide)
  refine ⟨fun a ha => h.1 a ?_, by rw [e], by rw [e], by rw [e]⟩
  simp only [WL, List.mem_cons, not_or, List.not_mem_nil, not_false_eq_true, and_true] at ha
  simp only [CL6, List.mem_cons, not_or, List.not_mem_nil, not_false_eq_true, and_true]
  omega
theorem CI.ws {M N : Mem} {C st : Nat → Nat} {m t : Nat} {p : Nat → Nat} {g s : Nat → Int32} (h : CI M N C st m p t) : CI M (wa (wa N 28 g) 24 s) C st m p t := by
  refine ⟨fun a ha => ?_, ?_, ?_, ?_, ?_, ?_⟩
  · rw [wa_e (CL6_ne ha).2.1 (CL6_ne ha).1]; exact h.1 a ha
  · rw [wa_e (by decide) (by decide)]; exact h.2.1
  · rw [wa_e (by decide) (by decide)]; exact h.2.2.1
  · rw [wa_e (by decide) (by decide)]; exact h.2.2.2.1
  · rw [wa_e (by decide) (by decide)]; exact h.2.2.2.2.1
  · rw [wa_e (by decide) (by decide)]; exact h.2.2.2.2.2
theorem CI.w31 {M N : Mem} {C st : Nat → Nat} {m t j s : Nat} {p : Nat → Nat} {v : Int32} (h : CI M N C st m p t) (hj : j < 12) (hs : s < 24) (hv : v = if mayB M C st m j (s % 6) (s / 6) = true then 1 else 2) : CI M (wr N 31 (j * 24 + s) v) C st m p t := by
  refine ⟨fun a ha => ?_, ?_, ?_, ?_, fun j2 s2 hj2 hs2 => ?_, ?_⟩
  · rw [rd2 (CL6_ne ha).2.2.2.2.1]; exact h.1 a ha
  · rw [rd2 (by decide)]; exact h.2.1
  · rw [rd2 (by decide)]; exact h.2.2.1
  · rw [rd2 (by decide)]; exact h.2.2.2.1
  · by_cases e : j2 * 24 + s2 = j * 24 + s
    · obtain rfl : j2 = j := by omega
      obtain rfl : s2 = s := by omega
      right
      rw [rd1, hv]
    · rw [rd3 e]; exact h.2.2.2.2.1 j2 s2 hj2 hs2
  · rw [rd2 (by decide)]; exact h.2.2.2.2.2
theorem CI.w32 {M N : Mem} {C st : Nat → Nat} {m t j s f k : Nat} {p : Nat → Nat} {v : Int32} (h : CI M N C st m p t) (hj : j < 12) (hs : s < 24) (hf : f < 6) (hk : k < 12) (h0 : bitI (N.1 32 ((j * 24 + s) * 6 + f)) (2 * k) = false ∧ bitI (N.1 32 ((j * 24 + s) * 6 + f)) (2 * k + 1) = false) (hv : v = if meetB M C st m j (s % 6) k f (s / 6) = true then 1 else 2) : CI M (wr N 32 ((j * 24 + s) * 6 + f) (N.1 32 ((j * 24 + s) * 6 + f) ||| (v <<< (2 * nI k &&& 31)))) C st m p t := by
  refine ⟨fun a ha => ?_, ?_, ?_, ?_, ?_, fun j2 s2 f2 k2 hj2 hs2 hf2 hk2 => ?_⟩
  · rw [rd2 (CL6_ne ha).2.2.2.2.2]; exact h.1 a ha
  · rw [rd2 (by decide)]; exact h.2.1
  · rw [rd2 (by decide)]; exact h.2.2.1
  · rw [rd2 (by decide)]; exact h.2.2.2.1
  · rw [rd2 (by decide)]; exact h.2.2.2.2.1
  · by_cases e : (j2 * 24 + s2) * 6 + f2 = (j * 24 + s) * 6 + f
    · obtain rfl : j2 = j := by omega
      obtain rfl : s2 = s := by omega
      obtain rfl : f2 = f := by omega
      rw [rd1]
      exact grp_or hk hk2 (h.2.2.2.2.2 j2 s2 f2 k2 hj2 hs2 hf2 hk2) h0 hv (fun q => by rw [q])
    · rw [rd3 e]; exact h.2.2.2.2.2 j2 s2 f2 k2 hj2 hs2 hf2 hk2
theorem CI.w30 {M N : Mem} {C st : Nat → Nat} {m t j q : Nat} {p : Nat → Nat} (h : CI M N C st m p t) : CI M (wr N 30 j (tp q)) C st m (pset p j q) t := by
  refine ⟨fun a ha => ?_, ?_, ?_, fun k hk => ?_, ?_, ?_⟩
  · rw [rd2 (CL6_ne ha).2.2.2.1]; exact h.1 a ha
  · rw [rd2 (by decide)]; exact h.2.1
  · rw [rd2 (by decide)]; exact h.2.2.1
  · by_cases e : k = j
    · rw [e, rd1, pset_s]
    · rw [rd3 e, pset_n e]; exact h.2.2.2.1 k hk
  · rw [rd2 (by decide)]; exact h.2.2.2.2.1
  · rw [rd2 (by decide)]; exact h.2.2.2.2.2
theorem CI.w29 {M N : Mem} {C st : Nat → Nat} {m t t2 : Nat} {p : Nat → Nat} (h : CI M N C st m p t) : CI M (wr N 29 7 (nI t2)) C st m p t2 := by
  refine ⟨fun a ha => ?_, ?_, rd1, ?_, ?_, ?_⟩
  · rw [rd2 (CL6_ne ha).2.2.1]; exact h.1 a ha
  · rw [rd3 (by decide)]; exact h.2.1
  · rw [rd2 (by decide)]; exact h.2.2.2.1
  · rw [rd2 (by decide)]; exact h.2.2.2.2.1
  · rw [rd2 (by decide)]; exact h.2.2.2.2.2
theorem CI.day {M N : Mem} {C st : Nat → Nat} {m t : Nat} {p : Nat → Nat} (h : CI M N C st m p t) : N.1 29 6 = N.1 62 0 := by rw [h.2.1, h.1 62 (by decide)]
theorem cB1 {x : Int32} {b : Bool} (h : x = 0 ∨ x = if b = true then 1 else 2) (h0 : ¬ x = 0) (h1 : x = 1) : b = true := by
  rcases h with h | h
  · exact absurd h h0
  · cases b
    · rw [h1] at h; exact absurd h (by decide)
    · rfl
theorem cB0 {x : Int32} {b : Bool} (h : x = 0 ∨ x = if b = true then 1 else 2) (h0 : ¬ x = 0) (h1 : ¬ x = 1) : b = false := by
  rcases h with h | h
  · exact absurd h h0
  · cases b
    · rfl
    · exact absurd h h1
set_option maxRecDepth 100000 in
set_option maxHeartbeats 1000000 in
theorem tX6_mayStand {d : Nat} {M : Mem} {Φ : Option Int32 → Mem → Prop} {C st : Nat → Nat} {m L n t j s : Nat} {p : Nat → Nat} {M0 : Mem} (hW : IW M0 C st m L n) (hc : CI M0 M C st m p t) (hj : j < 12) (hs : s < 24) (h1 : mayB M0 C st m j (s % 6) (s / 6) = true → ∀ N, CI M0 N C st m p t → Φ (some 1) N) (h0 : mayB M0 C st m j (s % 6) (s / 6) = false → ∀ N, CI M0 N C st m p t → Φ (some 0) N) : JM noRo (d + 3) mX6_mayStand 0 [some (.ref 29), some (.int (nI j)), some (.int (nI s))] [] M Φ := by
  have hq := hc.2.2.2.2.1 j s hj hs
  refine J_iload_n dX6_mayStand_0 rfl ?_
  refine J_bipush (v := 24) dX6_mayStand_1 (by decide) ?_
  refine J_imul dX6_mayStand_3 ?_
  refine J_iload_n dX6_mayStand_4 rfl ?_
  refine J_iadd dX6_mayStand_5 ?_
  refine J_istore_n dX6_mayStand_6 (by decide) rfl ?_
  dsimp only [setL]
  refine J_aload_n dX6_mayStand_7 rfl ?_
  refine M_getR dX6_mayStand_8 fX6_15 rfl rfl (by decide) ?_
  refine J_iload_n dX6_mayStand_11 rfl ?_
  refine M_ialdE dX6_mayStand_12 rfl (by decide) (ixm j 24 s) (by omega) ?_
  refine J_if_ne (tgt := 50) dX6_mayStand_13 (by decide) (fun c1 => ?_) (fun c1 => ?_)
  · -- to 50
    refine J_aload_n dX6_mayStand_50 rfl ?_
    refine M_getR dX6_mayStand_51 fX6_15 rfl rfl (by decide) ?_
    refine J_iload_n dX6_mayStand_54 rfl ?_
    refine M_ialdE dX6_mayStand_55 rfl (by decide) (ixm j 24 s) (by omega) ?_
    try rw [rd1]
    refine J_iconst (v := 1) dX6_mayStand_56 (by decide) ?_
    refine J_icmp_ne (tgt := 64) dX6_mayStand_57 (by decide) (fun c2 => ?_) (fun c2 => ?_)
    · -- to 64
      refine J_iconst (v := 0) dX6_mayStand_64 (by decide) ?_
      refine M_zret dX6_mayStand_65 rfl (by first | assumption | exact Or.inl rfl | exact Or.inr rfl) ?_
      first
      | exact absurd rfl c2
      | exact absurd c2 (by decide)
      | exact h1 hb _ (hc.ws.w31 hj hs (by rw [if_pos hb]))
      | exact h0 hb _ (hc.ws.w31 hj hs (by rw [hb]; rfl))
      | exact h1 (cB1 hq c1 c2) _ hc
      | exact h0 (cB0 hq c1 c2) _ hc
    · -- on 60
      refine J_iconst (v := 1) dX6_mayStand_60 (by decide) ?_
      refine J_goto (tgt := 65) dX6_mayStand_61 (by decide) ?_
      refine M_zret dX6_mayStand_65 rfl (by first | assumption | exact Or.inl rfl | exact Or.inr rfl) ?_
      first
      | exact absurd rfl c2
      | exact absurd c2 (by decide)
      | exact h1 hb _ (hc.ws.w31 hj hs (by rw [if_pos hb]))
      | exact h0 hb _ (hc.ws.w31 hj hs (by rw [hb]; rfl))
      | exact h1 (cB1 hq c1 c2) _ hc
      | exact h0 (cB0 hq c1 c2) _ hc
  · -- on 16
    refine J_aload_n dX6_mayStand_16 rfl ?_
    refine M_getR dX6_mayStand_17 fX6_15 rfl rfl (by decide) ?_
    refine J_iload_n dX6_mayStand_20 rfl ?_
    refine J_aload_n dX6_mayStand_21 rfl ?_
    refine M_getR dX6_mayStand_22 fX6_29 rfl rfl (by decide) ?_
    refine J_iload_n dX6_mayStand_25 rfl ?_
    refine J_iload_n dX6_mayStand_26 rfl ?_
    refine M_callSN1 (mc := mX11_fieldOf) dX6_mayStand_27 kX6_71 oX11_fieldOf (Nat.le_of_ble_eq_true rfl) (Nat.le_of_ble_eq_true rfl) ?_
    refine tX11_fieldOf (by omega) ?_
    refine J_iload_n dX6_mayStand_30 rfl ?_
    refine M_callSN1 (mc := mX11_hourOf) dX6_mayStand_31 kX6_79 oX11_hourOf (Nat.le_of_ble_eq_true rfl) (Nat.le_of_ble_eq_true rfl) ?_
    refine tX11_hourOf (by omega) ?_
    refine J_aload_n dX6_mayStand_34 rfl ?_
    refine M_getI dX6_mayStand_35 fX6_41 rfl rfl (by decide) ?_
    refine M_callV4 (mc := mX2_mayBe) dX6_mayStand_38 kX6_86 oX2_mayBe (Nat.le_of_ble_eq_true rfl) (Nat.le_of_ble_eq_true rfl) rfl (by decide) rfl ?_
    rw [hc.day]
    refine tX2_mayBe (hW.vw hc.vw) hj (by omega) (fun hb g2 t2 => ?_) (fun hb g2 t2 => ?_)
    · -- true
      rw [mayB_vw hc.vw] at hb
      refine J_if_eq (tgt := 48) dX6_mayStand_41 (by decide) (fun c6 => ?_) (fun c6 => ?_)
      · -- to 48
        exact absurd c6 (by decide)
      · -- on 44
        refine J_iconst (v := 1) dX6_mayStand_44 (by decide) ?_
        refine J_goto (tgt := 49) dX6_mayStand_45 (by decide) ?_
        refine M_iastE dX6_mayStand_49 rfl (by decide) (ixm j 24 s) (by omega) ?_
        refine J_aload_n dX6_mayStand_50 rfl ?_
        refine M_getR dX6_mayStand_51 fX6_15 rfl rfl (by decide) ?_
        refine J_iload_n dX6_mayStand_54 rfl ?_
        refine M_ialdE dX6_mayStand_55 rfl (by decide) (ixm j 24 s) (by omega) ?_
        try rw [rd1]
        refine J_iconst (v := 1) dX6_mayStand_56 (by decide) ?_
        refine J_icmp_ne (tgt := 64) dX6_mayStand_57 (by decide) (fun c7 => ?_) (fun c7 => ?_)
        · -- to 64
          refine J_iconst (v := 0) dX6_mayStand_64 (by decide) ?_
          refine M_zret dX6_mayStand_65 rfl (by first | assumption | exact Or.inl rfl | exact Or.inr rfl) ?_
          first
          | exact absurd rfl c7
          | exact absurd c7 (by decide)
          | exact h1 hb _ (hc.ws.w31 hj hs (by rw [if_pos hb]))
          | exact h0 hb _ (hc.ws.w31 hj hs (by rw [hb]; rfl))
          | exact h1 (cB1 hq c1 c7) _ hc
          | exact h0 (cB0 hq c1 c7) _ hc
        · -- on 60
          refine J_iconst (v := 1) dX6_mayStand_60 (by decide) ?_
          refine J_goto (tgt := 65) dX6_mayStand_61 (by decide) ?_
          refine M_zret dX6_mayStand_65 rfl (by first | assumption | exact Or.inl rfl | exact Or.inr rfl) ?_
          first
          | exact absurd rfl c7
          | exact absurd c7 (by decide)
          | exact h1 hb _ (hc.ws.w31 hj hs (by rw [if_pos hb]))
          | exact h0 hb _ (hc.ws.w31 hj hs (by rw [hb]; rfl))
          | exact h1 (cB1 hq c1 c7) _ hc
          | exact h0 (cB0 hq c1 c7) _ hc
    · -- false
      rw [mayB_vw hc.vw] at hb
      refine J_if_eq (tgt := 48) dX6_mayStand_41 (by decide) (fun c8 => ?_) (fun c8 => ?_)
      · -- to 48
        refine J_iconst (v := 2) dX6_mayStand_48 (by decide) ?_
        refine M_iastE dX6_mayStand_49 rfl (by decide) (ixm j 24 s) (by omega) ?_
        refine J_aload_n dX6_mayStand_50 rfl ?_
        refine M_getR dX6_mayStand_51 fX6_15 rfl rfl (by decide) ?_
        refine J_iload_n dX6_mayStand_54 rfl ?_
        refine M_ialdE dX6_mayStand_55 rfl (by decide) (ixm j 24 s) (by omega) ?_
        try rw [rd1]
        refine J_iconst (v := 1) dX6_mayStand_56 (by decide) ?_
        refine J_icmp_ne (tgt := 64) dX6_mayStand_57 (by decide) (fun c9 => ?_) (fun c9 => ?_)
        · -- to 64
          refine J_iconst (v := 0) dX6_mayStand_64 (by decide) ?_
          refine M_zret dX6_mayStand_65 rfl (by first | assumption | exact Or.inl rfl | exact Or.inr rfl) ?_
          first
          | exact absurd rfl c9
          | exact absurd c9 (by decide)
          | exact h1 hb _ (hc.ws.w31 hj hs (by rw [if_pos hb]))
          | exact h0 hb _ (hc.ws.w31 hj hs (by rw [hb]; rfl))
          | exact h1 (cB1 hq c1 c9) _ hc
          | exact h0 (cB0 hq c1 c9) _ hc
        · -- on 60
          refine J_iconst (v := 1) dX6_mayStand_60 (by decide) ?_
          refine J_goto (tgt := 65) dX6_mayStand_61 (by decide) ?_
          refine M_zret dX6_mayStand_65 rfl (by first | assumption | exact Or.inl rfl | exact Or.inr rfl) ?_
          first
          | exact absurd rfl c9
          | exact absurd c9 (by decide)
          | exact h1 hb _ (hc.ws.w31 hj hs (by rw [if_pos hb]))
          | exact h0 hb _ (hc.ws.w31 hj hs (by rw [hb]; rfl))
          | exact h1 (cB1 hq c1 c9) _ hc
          | exact h0 (cB0 hq c1 c9) _ hc
      · -- on 44
        exact absurd c8 (by decide)
theorem ix6 (j s f : Nat) : (nI j * 24 + nI s) * 6 + nI f = nI ((j * 24 + s) * 6 + f) := by rw [show (24 : Int32) = nI 24 from rfl, show (6 : Int32) = nI 6 from rfl, pk_mul, nI_add, pk_mul, nI_add]
set_option maxRecDepth 100000 in
set_option maxHeartbeats 1000000 in
theorem tX6_msb {d : Nat} {M : Mem} {Φ : Option Int32 → Mem → Prop} {C st : Nat → Nat} {m L n t j s k f : Nat} {p : Nat → Nat} {M0 : Mem} (hW : IW M0 C st m L n) (hc : CI M0 M C st m p t) (hj : j < 12) (hs : s < 24) (hk : k < 12) (hf : f < 6) (h1 : meetB M0 C st m j (s % 6) k f (s / 6) = true → ∀ N, CI M0 N C st m p t → Φ (some 1) N) (h0 : meetB M0 C st m j (s % 6) k f (s / 6) = false → ∀ N, CI M0 N C st m p t → Φ (some 0) N) : JM noRo (d + 3) mX6_mayStandBy 0 [some (.ref 29), some (.int (nI j)), some (.int (nI s)), some (.int (nI k)), some (.int (nI f))] [] M Φ := by
  rcases hc.2.2.2.2.2 j s f k hj hs hf hk with z | z
  ·
    refine J_iload_n dX6_mayStandBy_0 rfl ?_
    refine J_bipush (v := 24) dX6_mayStandBy_1 (by decide) ?_
    refine J_imul dX6_mayStandBy_3 ?_
    refine J_iload_n dX6_mayStandBy_4 rfl ?_
    refine J_iadd dX6_mayStandBy_5 ?_
    refine J_bipush (v := 6) dX6_mayStandBy_6 (by decide) ?_
    refine J_imul dX6_mayStandBy_8 ?_
    refine J_iload dX6_mayStandBy_9 rfl ?_
    refine J_iadd dX6_mayStandBy_11 ?_
    refine J_istore dX6_mayStandBy_12 (by decide) rfl ?_
    dsimp only [setL]
    refine J_aload_n dX6_mayStandBy_14 rfl ?_
    refine M_getR dX6_mayStandBy_15 fX6_18 rfl rfl (by decide) ?_
    refine J_iload dX6_mayStandBy_18 rfl ?_
    refine M_ialdE dX6_mayStandBy_20 rfl (by decide) (ix6 j s f) (by omega) ?_
    refine J_iconst (v := 2) dX6_mayStandBy_21 (by decide) ?_
    refine J_iload_n dX6_mayStandBy_22 rfl ?_
    refine J_imul dX6_mayStandBy_23 ?_
    refine J_ishr dX6_mayStandBy_24 ?_
    refine J_iconst (v := 3) dX6_mayStandBy_25 (by decide) ?_
    refine J_iand dX6_mayStandBy_26 ?_
    rw [g_read hk, z.1, z.2]
    rw [show gvI false false = 0 from rfl]
    refine J_istore dX6_mayStandBy_27 (by decide) rfl ?_
    dsimp only [setL]
    refine J_iload dX6_mayStandBy_29 rfl ?_
    refine J_if_ne (tgt := 87) dX6_mayStandBy_31 (by decide) (fun c1 => ?_) (fun c1 => ?_)
    · -- to 87
      exact absurd c1 (by decide)
    · -- on 34
      refine J_aload_n dX6_mayStandBy_34 rfl ?_
      refine M_getR dX6_mayStandBy_35 fX6_29 rfl rfl (by decide) ?_
      refine J_iload_n dX6_mayStandBy_38 rfl ?_
      refine J_iload_n dX6_mayStandBy_39 rfl ?_
      refine M_callSN1 (mc := mX11_fieldOf) dX6_mayStandBy_40 kX6_71 oX11_fieldOf (Nat.le_of_ble_eq_true rfl) (Nat.le_of_ble_eq_true rfl) ?_
      refine tX11_fieldOf (by omega) ?_
      refine J_iload_n dX6_mayStandBy_43 rfl ?_
      refine J_iload dX6_mayStandBy_44 rfl ?_
      refine J_iload_n dX6_mayStandBy_46 rfl ?_
      refine M_callSN1 (mc := mX11_hourOf) dX6_mayStandBy_47 kX6_79 oX11_hourOf (Nat.le_of_ble_eq_true rfl) (Nat.le_of_ble_eq_true rfl) ?_
      refine tX11_hourOf (by omega) ?_
      refine J_aload_n dX6_mayStandBy_50 rfl ?_
      refine M_getI dX6_mayStandBy_51 fX6_41 rfl rfl (by decide) ?_
      refine M_callV6 (mc := mX2_mayMeet) dX6_mayStandBy_54 kX6_91 oX2_mayMeet (Nat.le_of_ble_eq_true rfl) (Nat.le_of_ble_eq_true rfl) rfl (by decide) rfl ?_
      rw [hc.day]
      refine tX2_mayMeet (hW.vw hc.vw) hj hk (by omega) hf (fun hb g2 t2 => ?_) (fun hb g2 t2 => ?_)
      · -- true
        rw [meetB_vw hc.vw] at hb
        refine J_istore dX6_mayStandBy_57 (by decide) rfl ?_
        dsimp only [setL]
        refine J_iload dX6_mayStandBy_59 rfl ?_
        refine J_if_eq (tgt := 68) dX6_mayStandBy_61 (by decide) (fun c5 => ?_) (fun c5 => ?_)
        · -- to 68
          exact absurd c5 (by decide)
        · -- on 64
          refine J_iconst (v := 1) dX6_mayStandBy_64 (by decide) ?_
          refine J_goto (tgt := 69) dX6_mayStandBy_65 (by decide) ?_
          refine J_istore dX6_mayStandBy_69 (by decide) rfl ?_
          dsimp only [setL]
          refine J_aload_n dX6_mayStandBy_71 rfl ?_
          refine M_getR dX6_mayStandBy_72 fX6_18 rfl rfl (by decide) ?_
          refine J_iload dX6_mayStandBy_75 rfl ?_
          refine J_dup2 dX6_mayStandBy_77 rfl rfl ?_
          refine M_ialdE dX6_mayStandBy_78 rfl (by decide) (ix6 j s f) (by omega) ?_
          refine J_iload dX6_mayStandBy_79 rfl ?_
          refine J_iconst (v := 2) dX6_mayStandBy_81 (by decide) ?_
          refine J_iload_n dX6_mayStandBy_82 rfl ?_
          refine J_imul dX6_mayStandBy_83 ?_
          refine J_ishl dX6_mayStandBy_84 ?_
          refine J_ior dX6_mayStandBy_85 ?_
          refine M_iastE dX6_mayStandBy_86 rfl (by decide) (ix6 j s f) (by omega) ?_
          refine J_iload dX6_mayStandBy_87 rfl ?_
          refine J_iconst (v := 1) dX6_mayStandBy_89 (by decide) ?_
          refine J_icmp_ne (tgt := 97) dX6_mayStandBy_90 (by decide) (fun c6 => ?_) (fun c6 => ?_)
          · -- to 97
            exact absurd c6 (by decide)
          · -- on 93
            refine J_iconst (v := 1) dX6_mayStandBy_93 (by decide) ?_
            refine J_goto (tgt := 98) dX6_mayStandBy_94 (by decide) ?_
            refine M_zret dX6_mayStandBy_98 rfl (by first | assumption | exact Or.inl rfl | exact Or.inr rfl) ?_
            first
            | exact h1 hb _ (hc.ws.w32 hj hs hf hk (by rw [wa_e (by decide) (by decide)]; exact z) (by rw [if_pos hb]))
            | exact h0 hb _ (hc.ws.w32 hj hs hf hk (by rw [wa_e (by decide) (by decide)]; exact z) (by rw [hb]; rfl))
      · -- false
        rw [meetB_vw hc.vw] at hb
        refine J_istore dX6_mayStandBy_57 (by decide) rfl ?_
        dsimp only [setL]
        refine J_iload dX6_mayStandBy_59 rfl ?_
        refine J_if_eq (tgt := 68) dX6_mayStandBy_61 (by decide) (fun c7 => ?_) (fun c7 => ?_)
        · -- to 68
          refine J_iconst (v := 2) dX6_mayStandBy_68 (by decide) ?_
          refine J_istore dX6_mayStandBy_69 (by decide) rfl ?_
          dsimp only [setL]
          refine J_aload_n dX6_mayStandBy_71 rfl ?_
          refine M_getR dX6_mayStandBy_72 fX6_18 rfl rfl (by decide) ?_
          refine J_iload dX6_mayStandBy_75 rfl ?_
          refine J_dup2 dX6_mayStandBy_77 rfl rfl ?_
          refine M_ialdE dX6_mayStandBy_78 rfl (by decide) (ix6 j s f) (by omega) ?_
          refine J_iload dX6_mayStandBy_79 rfl ?_
          refine J_iconst (v := 2) dX6_mayStandBy_81 (by decide) ?_
          refine J_iload_n dX6_mayStandBy_82 rfl ?_
          refine J_imul dX6_mayStandBy_83 ?_
          refine J_ishl dX6_mayStandBy_84 ?_
          refine J_ior dX6_mayStandBy_85 ?_
          refine M_iastE dX6_mayStandBy_86 rfl (by decide) (ix6 j s f) (by omega) ?_
          refine J_iload dX6_mayStandBy_87 rfl ?_
          refine J_iconst (v := 1) dX6_mayStandBy_89 (by decide) ?_
          refine J_icmp_ne (tgt := 97) dX6_mayStandBy_90 (by decide) (fun c8 => ?_) (fun c8 => ?_)
          · -- to 97
            refine J_iconst (v := 0) dX6_mayStandBy_97 (by decide) ?_
            refine M_zret dX6_mayStandBy_98 rfl (by first | assumption | exact Or.inl rfl | exact Or.inr rfl) ?_
            first
            | exact h1 hb _ (hc.ws.w32 hj hs hf hk (by rw [wa_e (by decide) (by decide)]; exact z) (by rw [if_pos hb]))
            | exact h0 hb _ (hc.ws.w32 hj hs hf hk (by rw [wa_e (by decide) (by decide)]; exact z) (by rw [hb]; rfl))
          · -- on 93
            exact absurd c8 (by decide)
        · -- on 64
          exact absurd c7 (by decide)
  · rcases Bool.eq_false_or_eq_true (meetB M0 C st m j (s % 6) k f (s / 6)) with hb | hb
    · rw [hb] at z
      refine J_iload_n dX6_mayStandBy_0 rfl ?_
      refine J_bipush (v := 24) dX6_mayStandBy_1 (by decide) ?_
      refine J_imul dX6_mayStandBy_3 ?_
      refine J_iload_n dX6_mayStandBy_4 rfl ?_
      refine J_iadd dX6_mayStandBy_5 ?_
      refine J_bipush (v := 6) dX6_mayStandBy_6 (by decide) ?_
      refine J_imul dX6_mayStandBy_8 ?_
      refine J_iload dX6_mayStandBy_9 rfl ?_
      refine J_iadd dX6_mayStandBy_11 ?_
      refine J_istore dX6_mayStandBy_12 (by decide) rfl ?_
      dsimp only [setL]
      refine J_aload_n dX6_mayStandBy_14 rfl ?_
      refine M_getR dX6_mayStandBy_15 fX6_18 rfl rfl (by decide) ?_
      refine J_iload dX6_mayStandBy_18 rfl ?_
      refine M_ialdE dX6_mayStandBy_20 rfl (by decide) (ix6 j s f) (by omega) ?_
      refine J_iconst (v := 2) dX6_mayStandBy_21 (by decide) ?_
      refine J_iload_n dX6_mayStandBy_22 rfl ?_
      refine J_imul dX6_mayStandBy_23 ?_
      refine J_ishr dX6_mayStandBy_24 ?_
      refine J_iconst (v := 3) dX6_mayStandBy_25 (by decide) ?_
      refine J_iand dX6_mayStandBy_26 ?_
      rw [g_read hk, z.1, z.2]
      rw [show gvI true (!true) = 1 from rfl]
      refine J_istore dX6_mayStandBy_27 (by decide) rfl ?_
      dsimp only [setL]
      refine J_iload dX6_mayStandBy_29 rfl ?_
      refine J_if_ne (tgt := 87) dX6_mayStandBy_31 (by decide) (fun c1 => ?_) (fun c1 => ?_)
      · -- to 87
        refine J_iload dX6_mayStandBy_87 rfl ?_
        refine J_iconst (v := 1) dX6_mayStandBy_89 (by decide) ?_
        refine J_icmp_ne (tgt := 97) dX6_mayStandBy_90 (by decide) (fun c2 => ?_) (fun c2 => ?_)
        · -- to 97
          exact absurd c2 (by decide)
        · -- on 93
          refine J_iconst (v := 1) dX6_mayStandBy_93 (by decide) ?_
          refine J_goto (tgt := 98) dX6_mayStandBy_94 (by decide) ?_
          refine M_zret dX6_mayStandBy_98 rfl (by first | assumption | exact Or.inl rfl | exact Or.inr rfl) ?_
          exact h1 hb _ hc
      · -- on 34
        exact absurd c1 (by decide)
    · rw [hb] at z
      refine J_iload_n dX6_mayStandBy_0 rfl ?_
      refine J_bipush (v := 24) dX6_mayStandBy_1 (by decide) ?_
      refine J_imul dX6_mayStandBy_3 ?_
      refine J_iload_n dX6_mayStandBy_4 rfl ?_
      refine J_iadd dX6_mayStandBy_5 ?_
      refine J_bipush (v := 6) dX6_mayStandBy_6 (by decide) ?_
      refine J_imul dX6_mayStandBy_8 ?_
      refine J_iload dX6_mayStandBy_9 rfl ?_
      refine J_iadd dX6_mayStandBy_11 ?_
      refine J_istore dX6_mayStandBy_12 (by decide) rfl ?_
      dsimp only [setL]
      refine J_aload_n dX6_mayStandBy_14 rfl ?_
      refine M_getR dX6_mayStandBy_15 fX6_18 rfl rfl (by decide) ?_
      refine J_iload dX6_mayStandBy_18 rfl ?_
      refine M_ialdE dX6_mayStandBy_20 rfl (by decide) (ix6 j s f) (by omega) ?_
      refine J_iconst (v := 2) dX6_mayStandBy_21 (by decide) ?_
      refine J_iload_n dX6_mayStandBy_22 rfl ?_
      refine J_imul dX6_mayStandBy_23 ?_
      refine J_ishr dX6_mayStandBy_24 ?_
      refine J_iconst (v := 3) dX6_mayStandBy_25 (by decide) ?_
      refine J_iand dX6_mayStandBy_26 ?_
      rw [g_read hk, z.1, z.2]
      rw [show gvI false (!false) = 2 from rfl]
      refine J_istore dX6_mayStandBy_27 (by decide) rfl ?_
      dsimp only [setL]
      refine J_iload dX6_mayStandBy_29 rfl ?_
      refine J_if_ne (tgt := 87) dX6_mayStandBy_31 (by decide) (fun c1 => ?_) (fun c1 => ?_)
      · -- to 87
        refine J_iload dX6_mayStandBy_87 rfl ?_
        refine J_iconst (v := 1) dX6_mayStandBy_89 (by decide) ?_
        refine J_icmp_ne (tgt := 97) dX6_mayStandBy_90 (by decide) (fun c2 => ?_) (fun c2 => ?_)
        · -- to 97
          refine J_iconst (v := 0) dX6_mayStandBy_97 (by decide) ?_
          refine M_zret dX6_mayStandBy_98 rfl (by first | assumption | exact Or.inl rfl | exact Or.inr rfl) ?_
          exact h0 hb _ hc
        · -- on 93
          exact absurd c2 (by decide)
      · -- on 34
        exact absurd c1 (by decide)

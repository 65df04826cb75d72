theorem upd_cg {s t : Nat → Int32} {a h : Nat} {x y : Int32} (hs : ∀ j, j < h → s j = t j) (e : x = y) (hl : h ≤ a + 1) : ∀ j, j < a + 1 → (j < h ∨ j = a) → upd s a x j = upd t a y j := fun j hj hq => by
  by_cases q : j = a
  · rw [q, updS, updS, e]
  · rw [updN q, updN q]; exact hs j (by omega)
theorem evF_cg {F G : Nat → Int32} {C : Nat → Nat} {lim : Nat} (hF : ∀ c, c < lim → F c = G c) : ∀ n i h s t, okF C lim n i h → (∀ j, j < h → s j = t j) → evF F C n i h s = evF G C n i h t
  | 0, i, h, s, t, hk, hs => hs 0 (by have : h = 1 := hk; omega)
  | n + 1, i, h, s, t, hk, hs => by
    rw [okF] at hk
    rw [evF, evF]
    by_cases hc : C i < 14
    · simp only [if_pos hc] at hk ⊢
      refine evF_cg hF n (i + 1) (h + 1) _ _ hk.2.2 (fun j hj => ?_)
      by_cases q : j = h
      · rw [q, updS, updS, hF _ hk.1]
      · rw [updN q, updN q]; exact hs j (by omega)
    · simp only [if_neg hc] at hk ⊢
      by_cases hd : 100 ≤ C i
      · simp only [if_pos hd] at hk ⊢
        refine evF_cg hF n (i + 1) (h + 1) _ _ hk.2.2 (fun j hj => ?_)
        by_cases q : j = h
        · rw [q, updS, updS]
        · rw [updN q, updN q]; exact hs j (by omega)
      · simp only [if_neg hd] at hk ⊢
        by_cases he : C i = 18
        · simp only [if_pos he] at hk ⊢
          refine evF_cg hF n (i + 1) h _ _ hk.2 (fun j hj => ?_)
          by_cases q : j = h - 1
          · rw [q, updS, updS, hs (h - 1) (by omega)]
          · rw [updN q, updN q]; exact hs j hj
        · simp only [if_neg he] at hk ⊢
          refine evF_cg hF n (i + 1) (h - 1) _ _ hk.2.2 (fun j hj => ?_)
          by_cases q : j = h - 2
          · rw [q, updS, updS, hs (h - 1) (by omega), hs (h - 2) (by omega)]
          · rw [updN q, updN q]; exact hs j (by omega)
theorem okF_mono {C : Nat → Nat} {a b : Nat} (hab : a ≤ b) : ∀ n i h, okF C a n i h → okF C b n i h
  | 0, i, h, hk => hk
  | n + 1, i, h, hk => by
    rw [okF] at hk ⊢
    by_cases hc : C i < 14
    · simp only [if_pos hc] at hk ⊢
      exact ⟨by omega, hk.2.1, okF_mono hab n _ _ hk.2.2⟩
    · simp only [if_neg hc] at hk ⊢
      by_cases hd : 100 ≤ C i
      · simp only [if_pos hd] at hk ⊢
        exact ⟨hk.1, hk.2.1, okF_mono hab n _ _ hk.2.2⟩
      · simp only [if_neg hd] at hk ⊢
        by_cases he : C i = 18
        · simp only [if_pos he] at hk ⊢
          exact ⟨hk.1, okF_mono hab n _ _ hk.2⟩
        · simp only [if_neg he] at hk ⊢
          exact ⟨hk.1, hk.2.1, okF_mono hab n _ _ hk.2.2⟩
/-- all rules of one sort hold: k rules from r on -/
def allR (F : Nat → Int32) (C st : Nat → Nat) (P : Nat → Int32) (p : Int32) : Nat → Nat → Bool
  | 0, _ => true
  | k + 1, r => if P r = p ∧ evF F C (st (r + 1) - st r) (st r) 0 (fun _ => 0) = 0 then false else allR F C st P p k (r + 1)
theorem allR_n1 {F : Nat → Int32} {C st : Nat → Nat} {P : Nat → Int32} {p : Int32} {k r : Nat} (h : ¬ P r = p) : allR F C st P p (k + 1) r = allR F C st P p k (r + 1) := by rw [allR, if_neg (fun q => h q.1)]
theorem allR_n2 {F : Nat → Int32} {C st : Nat → Nat} {P : Nat → Int32} {p : Int32} {k r : Nat} (h : ¬ evF F C (st (r + 1) - st r) (st r) 0 (fun _ => 0) = 0) : allR F C st P p (k + 1) r = allR F C st P p k (r + 1) := by rw [allR, if_neg (fun q => h q.2)]
theorem allR_y {F : Nat → Int32} {C st : Nat → Nat} {P : Nat → Int32} {p : Int32} {k r : Nat} (h1 : P r = p) (h : evF F C (st (r + 1) - st r) (st r) 0 (fun _ => 0) = 0) : allR F C st P p (k + 1) r = false := by rw [allR, if_pos ⟨h1, h⟩]
theorem allR_cg {F G : Nat → Int32} {C st : Nat → Nat} {P Q : Nat → Int32} {p : Int32} {lim m : Nat} (h : ∀ r, r < m → P r = Q r ∧ (P r = p → okF C lim (st (r + 1) - st r) (st r) 0)) (hF : ∀ c, c < lim → F c = G c) : ∀ k r, r + k = m → allR F C st P p k r = allR G C st Q p k r
  | 0, r, _ => rfl
  | k + 1, r, hr => by
    rw [allR, allR, allR_cg h hF k (r + 1) (by omega), (h r (by omega)).1]
    by_cases hp : Q r = p
    · rw [evF_cg hF _ _ _ (fun _ => 0) (fun _ => 0) ((h r (by omega)).2 ((h r (by omega)).1.trans hp)) (fun _ _ => rfl)]
    · simp only [hp, false_and, if_false]
def RC (M : Mem) (C st : Nat → Nat) (m L : Nat) : Prop := M.1 20 5 = nI m ∧ (∀ r, r ≤ m → M.1 22 r = nI (st r)) ∧ ∀ i, i < L → M.1 21 i = nI (C i)
def RR (M : Mem) (C st : Nat → Nat) (m L : Nat) : Prop := M.1 62 17 = nI m ∧ (∀ r, r ≤ m → M.1 75 r = nI (st r)) ∧ ∀ i, i < L → M.1 73 i = nI (enc (C i)) ∧ (100 ≤ C i → M.1 74 i = nI (C i - 100))
def RP (P : Nat → Int32) (C st : Nat → Nat) (m L : Nat) : Prop := m ≤ 12 ∧ L ≤ 600 ∧ ∀ r, r < m → st r ≤ st (r + 1) ∧ st (r + 1) ≤ L ∧ (P r = 0 ∨ P r = 1) ∧ okF C (if P r = 0 then 8 else 14) (st (r + 1) - st r) (st r) 0
theorem RP.k14 {P : Nat → Int32} {C st : Nat → Nat} {m L r : Nat} (h : RP P C st m L) (hr : r < m) : okF C 14 (st (r + 1) - st r) (st r) 0 := by
  refine okF_mono ?_ _ _ _ (h.2.2 r hr).2.2.2
  split <;> omega
theorem RP.k8 {P : Nat → Int32} {C st : Nat → Nat} {m L r : Nat} (h : RP P C st m L) (hr : r < m) (h0 : P r = 0) : okF C 8 (st (r + 1) - st r) (st r) 0 := by
  have z := (h.2.2 r hr).2.2.2
  rw [if_pos h0] at z
  exact z
theorem ev_z {F : Nat → Int32} {C : Nat → Nat} {n i : Nat} {s : Nat → Int32} (hk : okF C 14 n i 0) : evF F C n i 0 s = evF F C n i 0 (fun _ => 0) := evF_cg (fun _ _ => rfl) n i 0 _ _ hk (fun j hj => absurd hj (by omega))
theorem RP.cg {P Q : Nat → Int32} {C st : Nat → Nat} {m L : Nat} (h : RP P C st m L) (e : ∀ r, r < m → Q r = P r) : RP Q C st m L := ⟨h.1, h.2.1, fun r hr => by rw [e r hr]; exact h.2.2 r hr⟩
set_option maxRecDepth 100000 in
set_option maxHeartbeats 1000000 in
theorem tX7_allHold_l {d : Nat} {M : Mem} {Φ : Option Int32 → Mem → Prop} {C st : Nat → Nat} {m L : Nat} {p : Int32} (hRC : RC M C st m L) (hRP : RP (M.1 23) C st m L) : ∀ k r f, r + k = m → (∀ f, Φ (some (if allR (M.1 28) C st (M.1 23) p k r = true then 1 else 0)) (wa M 24 f)) → JM noRo (d + 1) mX7_allHold 2 [some (.ref 20), some (.int p), some (.ref 28), some (.int (nI r))] [] (wa M 24 f) Φ := by
  have hm := hRP.1
  have hL := hRP.2.1
  intro k
  induction k with
  | zero =>
    intro r f hr h0
    refine J_iload_n dX7_allHold_2 rfl ?_
    refine J_aload_n dX7_allHold_3 rfl ?_
    refine M_getI dX7_allHold_4 fX7_25 rfl rfl (by decide) ?_
    rw [rdb (by decide), hRC.1]
    refine J_icmp_ge (tgt := 37) dX7_allHold_7 (by decide) (fun c1 => ?_) (fun c1 => ?_)
    · -- to 37
      refine J_iconst (v := 1) dX7_allHold_37 (by decide) ?_
      refine M_zret dX7_allHold_38 rfl (by first | assumption | exact Or.inl rfl | exact Or.inr rfl) ?_
      exact h0 _
    · -- on 10
      exact absurd (nI_le (by omega) (by omega)) c1
  | succ k ih =>
    intro r f hr h0
    have hz := hRP.2.2 r (by omega)
    refine J_iload_n dX7_allHold_2 rfl ?_
    refine J_aload_n dX7_allHold_3 rfl ?_
    refine M_getI dX7_allHold_4 fX7_25 rfl rfl (by decide) ?_
    rw [rdb (by decide), hRC.1]
    refine J_icmp_ge (tgt := 37) dX7_allHold_7 (by decide) (fun c1 => ?_) (fun c1 => ?_)
    · -- to 37
      exact absurd c1 (nI_ge (by omega) (by omega))
    · -- on 10
      refine J_aload_n dX7_allHold_10 rfl ?_
      refine M_getR dX7_allHold_11 fX7_18 rfl rfl (by decide) ?_
      refine J_iload_n dX7_allHold_14 rfl ?_
      refine M_zaldE dX7_allHold_15 rfl (by decide) (by first | rfl | assumption) (by omega) ?_
      rw [rdb (by decide)]
      refine J_iload_n dX7_allHold_16 rfl ?_
      refine J_icmp_ne (tgt := 31) dX7_allHold_17 (by decide) (fun c2 => ?_) (fun c2 => ?_)
      · -- to 31
        refine J_iinc (v := nI (r + 1)) dX7_allHold_31 rfl (nI_1 r) (by decide) rfl ?_
        dsimp only [setL]
        refine J_goto (tgt := 2) dX7_allHold_34 (by decide) ?_
        first
        | (rw [allR_n1 c2] at h0; exact ih (r + 1) _ (by omega) h0)
        | (rw [allR_n2 c2] at h0; exact ih (r + 1) _ (by omega) h0)
      · -- on 20
        have cP := c2
        refine J_aload_n dX7_allHold_20 rfl ?_
        refine J_iload_n dX7_allHold_21 rfl ?_
        refine J_aload_n dX7_allHold_22 rfl ?_
        refine M_callV2 (mc := mX7_workOut) dX7_allHold_23 kX7_38 oX7_workOut (Nat.le_of_ble_eq_true rfl) (Nat.le_of_ble_eq_true rfl) rfl (by decide) rfl ?_
        refine tX7_workOut (C := C) (a := st r) (e := st (r + 1)) (by rw [rdb (by decide)]; exact hRC.2.1 r (by omega)) (by rw [rdb (by decide)]; exact hRC.2.1 (r + 1) (by omega)) (by omega) (by omega) (fun i hi => by rw [rdb (by decide)]; exact hRC.2.2 i (by omega)) hz.1 (hRP.k14 (by omega)) (fun g => ?_)
        rw [wa_wa, rdb (a := 28) (by decide), rda, ev_z (hRP.k14 (by omega))]
        refine J_if_ne (tgt := 31) dX7_allHold_26 (by decide) (fun c4 => ?_) (fun c4 => ?_)
        · -- to 31
          refine J_iinc (v := nI (r + 1)) dX7_allHold_31 rfl (nI_1 r) (by decide) rfl ?_
          dsimp only [setL]
          refine J_goto (tgt := 2) dX7_allHold_34 (by decide) ?_
          first
          | (rw [allR_n1 c4] at h0; exact ih (r + 1) _ (by omega) h0)
          | (rw [allR_n2 c4] at h0; exact ih (r + 1) _ (by omega) h0)
        · -- on 29
          refine J_iconst (v := 0) dX7_allHold_29 (by decide) ?_
          refine M_zret dX7_allHold_30 rfl (by first | assumption | exact Or.inl rfl | exact Or.inr rfl) ?_
          rw [allR_y cP c4] at h0
          exact h0 _
set_option maxRecDepth 100000 in
set_option maxHeartbeats 1000000 in
theorem tX7_allHold {d : Nat} {M : Mem} {Φ : Option Int32 → Mem → Prop} {C st : Nat → Nat} {m L : Nat} {p : Int32} (hRC : RC M C st m L) (hRP : RP (M.1 23) C st m L) (h0 : ∀ f, Φ (some (if allR (M.1 28) C st (M.1 23) p m 0 = true then 1 else 0)) (wa M 24 f)) : JM noRo (d + 1) mX7_allHold 0 [some (.ref 20), some (.int p), some (.ref 28)] [] M Φ := by
  refine J_iconst (v := 0) dX7_allHold_0 (by decide) ?_
  refine J_istore_n dX7_allHold_1 (by decide) rfl ?_
  dsimp only [setL]
  have q := tX7_allHold_l (d := d) hRC hRP m 0 (M.1 24) (by omega) h0
  rw [wa_self] at q
  exact q
set_option maxRecDepth 100000 in
set_option maxHeartbeats 1000000 in
theorem tX12_hold_l {d : Nat} {M : Mem} {Φ : Option Int32 → Mem → Prop} {C st : Nat → Nat} {m L : Nat} {p : Int32} (hRR : RR M C st m L) (hRP : RP (M.1 76) C st m L) : ∀ k r f, r + k = m → (∀ f, Φ (some (if allR (fun c => M.1 84 (nmR c)) C st (M.1 76) p k r = true then 1 else 0)) (wa M 83 f)) → JM noRo (d + 1) mX12_hold_ 4 [some (.ref 62), some (.int p), some (.int 1), some (.int (nI r))] [] (wa M 83 f) Φ := by
  have hm := hRP.1
  have hL := hRP.2.1
  intro k
  induction k with
  | zero =>
    intro r f hr h0
    refine J_iload_n dX12_hold__4 rfl ?_
    refine J_aload_n dX12_hold__5 rfl ?_
    refine M_getI dX12_hold__6 fX12_287 rfl rfl (by decide) ?_
    rw [rdb (by decide), hRR.1]
    refine J_icmp_ge (tgt := 46) dX12_hold__9 (by decide) (fun c1 => ?_) (fun c1 => ?_)
    · -- to 46
      refine J_iload_n dX12_hold__46 rfl ?_
      refine M_zret dX12_hold__47 rfl (by first | assumption | exact Or.inl rfl | exact Or.inr rfl) ?_
      exact h0 _
    · -- on 12
      exact absurd (nI_le (by omega) (by omega)) c1
  | succ k ih =>
    intro r f hr h0
    have hz := hRP.2.2 r (by omega)
    refine J_iload_n dX12_hold__4 rfl ?_
    refine J_aload_n dX12_hold__5 rfl ?_
    refine M_getI dX12_hold__6 fX12_287 rfl rfl (by decide) ?_
    rw [rdb (by decide), hRR.1]
    refine J_icmp_ge (tgt := 46) dX12_hold__9 (by decide) (fun c1 => ?_) (fun c1 => ?_)
    · -- to 46
      exact absurd c1 (nI_ge (by omega) (by omega))
    · -- on 12
      refine J_iload_n dX12_hold__12 rfl ?_
      refine J_if_eq (tgt := 46) dX12_hold__13 (by decide) (fun c2 => ?_) (fun c2 => ?_)
      · -- to 46
        exact absurd c2 (by decide)
      · -- on 16
        refine J_aload_n dX12_hold__16 rfl ?_
        refine M_getR dX12_hold__17 fX12_50 rfl rfl (by decide) ?_
        refine J_iload_n dX12_hold__20 rfl ?_
        refine M_zaldE dX12_hold__21 rfl (by decide) (by first | rfl | assumption) (by omega) ?_
        rw [rdb (by decide)]
        refine J_iload_n dX12_hold__22 rfl ?_
        refine J_icmp_ne (tgt := 34) dX12_hold__23 (by decide) (fun c3 => ?_) (fun c3 => ?_)
        · -- to 34
          refine J_iconst (v := 1) dX12_hold__34 (by decide) ?_
          refine J_goto (tgt := 39) dX12_hold__35 (by decide) ?_
          refine J_istore_n dX12_hold__39 (by decide) rfl ?_
          dsimp only [setL]
          refine J_iinc (v := nI (r + 1)) dX12_hold__40 rfl (nI_1 r) (by decide) rfl ?_
          dsimp only [setL]
          refine J_goto (tgt := 4) dX12_hold__43 (by decide) ?_
          rw [allR_n1 c3] at h0; exact ih (r + 1) _ (by omega) h0
        · -- on 26
          have cP := c3
          refine J_aload_n dX12_hold__26 rfl ?_
          refine J_iload_n dX12_hold__27 rfl ?_
          refine M_callV1 (mc := mX12_holds) dX12_hold__28 kX12_290 oX12_holds (Nat.le_of_ble_eq_true rfl) (Nat.le_of_ble_eq_true rfl) rfl (by decide) rfl ?_
          refine tX12_holds (C := C) (a := st r) (e := st (r + 1)) (by rw [rdb (by decide)]; exact hRR.2.1 r (by omega)) (by rw [rdb (by decide)]; exact hRR.2.1 (r + 1) (by omega)) (by omega) (by omega) (fun i hi => by rw [rdb (by decide), rdb (by decide)]; exact hRR.2.2 i (by omega)) hz.1 (hRP.k14 (by omega)) (fun g => ?_)
          rw [wa_wa, rdb (a := 84) (by decide), rda, ev_z (hRP.k14 (by omega))]
          rcases Classical.em (evF (fun c => M.1 84 (nmR c)) C (st (r + 1) - st r) (st r) 0 (fun _ => 0) = 0) with cE | cE
          · rw [if_pos cE]
            rw [allR_y cP cE] at h0
            refine J_if_eq (tgt := 38) dX12_hold__31 (by decide) (fun c1 => ?_) (fun c1 => ?_)
            · -- to 38
              refine J_iconst (v := 0) dX12_hold__38 (by decide) ?_
              refine J_istore_n dX12_hold__39 (by decide) rfl ?_
              dsimp only [setL]
              refine J_iinc (v := nI (r + 1)) dX12_hold__40 rfl (nI_1 r) (by decide) rfl ?_
              dsimp only [setL]
              refine J_goto (tgt := 4) dX12_hold__43 (by decide) ?_
              refine J_iload_n dX12_hold__4 rfl ?_
              refine J_aload_n dX12_hold__5 rfl ?_
              refine M_getI dX12_hold__6 fX12_287 rfl rfl (by decide) ?_
              rw [rdb (by decide), hRR.1]
              refine J_icmp_ge (tgt := 46) dX12_hold__9 (by decide) (fun c2 => ?_) (fun c2 => ?_)
              · -- to 46
                refine J_iload_n dX12_hold__46 rfl ?_
                refine M_zret dX12_hold__47 rfl (by first | assumption | exact Or.inl rfl | exact Or.inr rfl) ?_
                exact h0 _
              · -- on 12
                refine J_iload_n dX12_hold__12 rfl ?_
                refine J_if_eq (tgt := 46) dX12_hold__13 (by decide) (fun c3 => ?_) (fun c3 => ?_)
                · -- to 46
                  refine J_iload_n dX12_hold__46 rfl ?_
                  refine M_zret dX12_hold__47 rfl (by first | assumption | exact Or.inl rfl | exact Or.inr rfl) ?_
                  exact h0 _
                · -- on 16
                  exact absurd c3 (by decide)
            · -- on 34
              exact absurd c1 (by decide)
          · rw [if_neg cE]
            rw [allR_n2 cE] at h0
            refine J_if_eq (tgt := 38) dX12_hold__31 (by decide) (fun c1 => ?_) (fun c1 => ?_)
            · -- to 38
              exact absurd c1 (by decide)
            · -- on 34
              refine J_iconst (v := 1) dX12_hold__34 (by decide) ?_
              refine J_goto (tgt := 39) dX12_hold__35 (by decide) ?_
              refine J_istore_n dX12_hold__39 (by decide) rfl ?_
              dsimp only [setL]
              refine J_iinc (v := nI (r + 1)) dX12_hold__40 rfl (nI_1 r) (by decide) rfl ?_
              dsimp only [setL]
              refine J_goto (tgt := 4) dX12_hold__43 (by decide) ?_
              exact ih (r + 1) _ (by omega) h0
set_option maxRecDepth 100000 in
set_option maxHeartbeats 1000000 in
theorem tX12_hold_ {d : Nat} {M : Mem} {Φ : Option Int32 → Mem → Prop} {C st : Nat → Nat} {m L : Nat} {p : Int32} (hRR : RR M C st m L) (hRP : RP (M.1 76) C st m L) (h0 : ∀ f, Φ (some (if allR (fun c => M.1 84 (nmR c)) C st (M.1 76) p m 0 = true then 1 else 0)) (wa M 83 f)) : JM noRo (d + 1) mX12_hold_ 0 [some (.ref 62), some (.int p)] [] M Φ := by
  refine J_iconst (v := 1) dX12_hold__0 (by decide) ?_
  refine J_istore_n dX12_hold__1 (by decide) rfl ?_
  dsimp only [setL]
  refine J_iconst (v := 0) dX12_hold__2 (by decide) ?_
  refine J_istore_n dX12_hold__3 (by decide) rfl ?_
  dsimp only [setL]
  have q := tX12_hold_l (d := d) hRR hRP m 0 (M.1 83) (by omega) h0
  rw [wa_self] at q
  exact q

theorem fcV8 {M : Mem} (h : E1 M) {b : Nat → Int32} {j f u o : Nat} {gt : Int32} : ∀ c, c < 8 → fcV M j f u o gt c = fc1 b (nI j) (M.1 2 j) (M.1 3 j) (M.1 62 0 - M.1 4 j) (M.1 5 j) (nI f) (M.1 10 f) (nI u) c := by
  intro c hc
  match c, hc with
  | 0, _ => exact rfl
  | 1, _ => show M.1 63 j = M.1 2 j; rw [h.1]
  | 2, _ => show M.1 64 j = M.1 3 j; rw [h.2.1]
  | 3, _ => show M.1 62 0 - M.1 65 j = M.1 62 0 - M.1 4 j; rw [h.2.2.1]
  | 4, _ => show M.1 66 j = M.1 5 j; rw [h.2.2.2.1]
  | 5, _ => exact rfl
  | 6, _ => show M.1 70 f = M.1 10 f; rw [h.2.2.2.2.2.2.2.1]
  | 7, _ => exact rfl
  | c + 8, q => exact absurd q (by omega)
theorem fcV14 {M : Mem} (h : E1 M) {b : Nat → Int32} {j f u o : Nat} {gt : Int32} (h8 : b 8 = gt) : ∀ c, c < 14 → fcV M j f u o gt c = fc2 (fc1 b (nI j) (M.1 2 j) (M.1 3 j) (M.1 62 0 - M.1 4 j) (M.1 5 j) (nI f) (M.1 10 f) (nI u)) (nI o) (M.1 2 o) (M.1 3 o) (M.1 62 0 - M.1 4 o) (M.1 5 o) c := by
  intro c hc
  match c, hc with
  | 0, _ => exact rfl
  | 1, _ => show M.1 63 j = M.1 2 j; rw [h.1]
  | 2, _ => show M.1 64 j = M.1 3 j; rw [h.2.1]
  | 3, _ => show M.1 62 0 - M.1 65 j = M.1 62 0 - M.1 4 j; rw [h.2.2.1]
  | 4, _ => show M.1 66 j = M.1 5 j; rw [h.2.2.2.1]
  | 5, _ => exact rfl
  | 6, _ => show M.1 70 f = M.1 10 f; rw [h.2.2.2.2.2.2.2.1]
  | 7, _ => exact rfl
  | 8, _ => exact h8.symm
  | 9, _ => exact rfl
  | 10, _ => show M.1 63 o = M.1 2 o; rw [h.1]
  | 11, _ => show M.1 64 o = M.1 3 o; rw [h.2.1]
  | 12, _ => show M.1 62 0 - M.1 65 o = M.1 62 0 - M.1 4 o; rw [h.2.2.1]
  | 13, _ => show M.1 66 o = M.1 5 o; rw [h.2.2.2.1]
  | c + 14, q => exact absurd q (by omega)
theorem fcR8 {M : Mem} {b : Nat → Int32} {j f u o : Nat} {gt : Int32} : ∀ c, c < 8 → fcV M j f u o gt c = upd (upd (upd (fc3 b 0 (nI j) (M.1 63 j) (M.1 64 j) (M.1 62 0 - M.1 65 j) (M.1 66 j)) 5 (nI f)) 6 (M.1 70 f)) 7 (nI u) (nmR c) := by
  intro c hc
  match c, hc with
  | 0, _ => exact rfl
  | 1, _ => exact rfl
  | 2, _ => exact rfl
  | 3, _ => exact rfl
  | 4, _ => exact rfl
  | 5, _ => exact rfl
  | 6, _ => exact rfl
  | 7, _ => exact rfl
  | c + 8, q => exact absurd q (by omega)
theorem fcR14 {M : Mem} {b : Nat → Int32} {j f u o : Nat} {gt : Int32} : ∀ c, c < 14 → fcV M j f u o gt c = upd (upd (upd (upd (fc3 (fc3 b 0 (nI j) (M.1 63 j) (M.1 64 j) (M.1 62 0 - M.1 65 j) (M.1 66 j)) 8 (nI o) (M.1 63 o) (M.1 64 o) (M.1 62 0 - M.1 65 o) (M.1 66 o)) 5 (nI f)) 6 (M.1 70 f)) 7 (nI u)) 13 gt (nmR c) := by
  intro c hc
  match c, hc with
  | 0, _ => exact rfl
  | 1, _ => exact rfl
  | 2, _ => exact rfl
  | 3, _ => exact rfl
  | 4, _ => exact rfl
  | 5, _ => exact rfl
  | 6, _ => exact rfl
  | 7, _ => exact rfl
  | 8, _ => exact rfl
  | 9, _ => exact rfl
  | 10, _ => exact rfl
  | 11, _ => exact rfl
  | 12, _ => exact rfl
  | 13, _ => exact rfl
  | c + 14, q => exact absurd q (by omega)
theorem ite01 (b : Bool) : (if b = true then (1 : Int32) else 0) = 0 ∨ (if b = true then (1 : Int32) else 0) = 1 := by cases b <;> decide
theorem bsplit {Ψ : Option Int32 → Prop} {b : Bool} (h1 : b = true → Ψ (some 1)) (h0 : b = false → Ψ (some 0)) : Ψ (some (if b = true then 1 else 0)) := by
  cases b
  · exact h0 rfl
  · exact h1 rfl
theorem mayB_sh {M : Mem} {C st : Nat → Nat} {m j f u : Nat} (h : ¬ (0 < M.1 69 f ∧ M.1 71 f ≤ M.1 62 0)) : mayB M C st m j f u = false := by
  unfold mayB
  rw [decide_eq_false h]
  rfl
theorem mayB_op {M : Mem} {C st : Nat → Nat} {m j f u : Nat} (h1 : 0 < M.1 69 f) (h2 : M.1 71 f ≤ M.1 62 0) : mayB M C st m j f u = allR (fcV M j f u 0 0) C st (M.1 76) 0 m 0 := by
  unfold mayB
  rw [decide_eq_true ⟨h1, h2⟩]
  rfl
theorem IW.c0 {M : Mem} {C st : Nat → Nat} {m L n : Nat} (h : IW M C st m L n) {lim : Nat} {p : Int32} (hl : ∀ r, r < m → M.1 76 r = p → okF C lim (st (r + 1) - st r) (st r) 0) : ∀ r, r < m → M.1 76 r = M.1 23 r ∧ (M.1 76 r = p → okF C lim (st (r + 1) - st r) (st r) 0) := fun r hr => ⟨(h.2.2.2.2.2.2.2 r hr).symm, hl r hr⟩
theorem IW.rp {M : Mem} {C st : Nat → Nat} {m L n : Nat} (h : IW M C st m L n) : RP (M.1 23) C st m L := h.2.2.2.2.2.2.1.cg h.2.2.2.2.2.2.2
theorem IW.l01 {M : Mem} {C st : Nat → Nat} {m L n : Nat} (h : IW M C st m L n) (j : Nat) : M.1 5 j = 0 ∨ M.1 5 j = 1 := by rw [h.1.2.2.2.1]; exact h.2.2.1.1 j
set_option maxRecDepth 100000 in
set_option maxHeartbeats 1000000 in
theorem tX2_mayBe0 {d : Nat} {M : Mem} {Φ : Option Int32 → Mem → Prop} {C st : Nat → Nat} {m L n j f u : Nat} (hW : IW M C st m L n) (hj : j < 12) (hf : f < 6) (h : ∀ g s, Φ (some (if mayB M C st m j f u = true then 1 else 0)) (wa (wa M 28 g) 24 s)) : JM noRo (d + 2) mX2_mayBe 0 [some (.ref 27), some (.int (nI j)), some (.int (nI f)), some (.int (nI u)), some (.int (M.1 62 0))] [] M Φ := by
  refine J_aload_n dX2_mayBe_0 rfl ?_
  refine M_getR dX2_mayBe_1 fX2_19 rfl rfl (by decide) ?_
  refine J_iload_n dX2_mayBe_4 rfl ?_
  refine J_iload dX2_mayBe_5 rfl ?_
  refine M_callV2 (mc := mX3_isOpen) dX2_mayBe_7 kX2_27 oX3_isOpen (Nat.le_of_ble_eq_true rfl) (Nat.le_of_ble_eq_true rfl) rfl (by decide) rfl ?_
  refine tX3_isOpen hf (fun q1 q2 => ?_) (fun q => ?_)
  · -- true
    rw [hW.1.2.2.2.2.2.2.1] at q1
    rw [hW.1.2.2.2.2.2.2.2.2.1] at q2
    refine J_if_ne (tgt := 15) dX2_mayBe_10 (by decide) (fun c2 => ?_) (fun c2 => ?_)
    · -- to 15
      refine J_aload_n dX2_mayBe_15 rfl ?_
      refine J_iload_n dX2_mayBe_16 rfl ?_
      refine J_iload_n dX2_mayBe_17 rfl ?_
      refine J_iload_n dX2_mayBe_18 rfl ?_
      refine J_iload dX2_mayBe_19 rfl ?_
      refine M_callV4 (mc := mX2_tellOfOne) dX2_mayBe_21 kX2_33 oX2_tellOfOne (Nat.le_of_ble_eq_true rfl) (Nat.le_of_ble_eq_true rfl) rfl (by decide) rfl ?_
      refine tX2_tell1 hj hf (hW.l01 j) ?_
      refine J_aload_n dX2_mayBe_24 rfl ?_
      refine M_getR dX2_mayBe_25 fX2_23 rfl rfl (by decide) ?_
      refine J_iconst (v := 0) dX2_mayBe_28 (by decide) ?_
      refine J_aload_n dX2_mayBe_29 rfl ?_
      refine M_getR dX2_mayBe_30 fX2_9 rfl rfl (by decide) ?_
      refine M_callV2 (mc := mX7_allHold) dX2_mayBe_33 kX2_37 oX7_allHold (Nat.le_of_ble_eq_true rfl) (Nat.le_of_ble_eq_true rfl) rfl (by decide) rfl ?_
      have hN : IW (wa M 28 (fc1 (M.1 28) (nI j) (M.1 2 j) (M.1 3 j) (M.1 62 0 - M.1 4 j) (M.1 5 j) (nI f) (M.1 10 f) (nI u))) C st m L n := hW.vw (Vw.rf.ca (by decide) (by decide))
      refine tX7_allHold (C := C) (st := st) (m := m) (L := L) hN.2.2.2.2.1 hN.rp (fun s => ?_)
      rw [rda, rdb (by decide), ← allR_cg (hW.c0 (lim := 8) (p := 0) (fun r hr h0 => hW.2.2.2.2.2.2.1.k8 hr h0)) (fcV8 (b := M.1 28) (j := j) (f := f) (u := u) (o := 0) (gt := 0) hW.1) m 0 (by omega)]
      have b01 := ite01 (allR (fcV M j f u 0 0) C st (M.1 76) 0 m 0)
      refine M_zret dX2_mayBe_36 rfl (by first | assumption | exact Or.inl rfl | exact Or.inr rfl) ?_
      first
      | (rw [mayB_op q1 q2] at h; exact h _ _)
      | (rw [mayB_sh q] at h
         have z := h (M.1 28) (M.1 24)
         rw [wa_self, wa_self] at z
         exact z)
    · -- on 13
      exact absurd c2 (by decide)
  · -- false
    rw [hW.1.2.2.2.2.2.2.1, hW.1.2.2.2.2.2.2.2.2.1] at q
    refine J_if_ne (tgt := 15) dX2_mayBe_10 (by decide) (fun c5 => ?_) (fun c5 => ?_)
    · -- to 15
      exact absurd c5 (by decide)
    · -- on 13
      refine J_iconst (v := 0) dX2_mayBe_13 (by decide) ?_
      refine M_zret dX2_mayBe_14 rfl (by first | assumption | exact Or.inl rfl | exact Or.inr rfl) ?_
      first
      | (rw [mayB_op q1 q2] at h; exact h _ _)
      | (rw [mayB_sh q] at h
         have z := h (M.1 28) (M.1 24)
         rw [wa_self, wa_self] at z
         exact z)
theorem tX2_mayBe {d : Nat} {M : Mem} {Φ : Option Int32 → Mem → Prop} {C st : Nat → Nat} {m L n j f u : Nat} (hW : IW M C st m L n) (hj : j < 12) (hf : f < 6) (h1 : mayB M C st m j f u = true → ∀ g s, Φ (some 1) (wa (wa M 28 g) 24 s)) (h0 : mayB M C st m j f u = false → ∀ g s, Φ (some 0) (wa (wa M 28 g) 24 s)) : JM noRo (d + 2) mX2_mayBe 0 [some (.ref 27), some (.int (nI j)), some (.int (nI f)), some (.int (nI u)), some (.int (M.1 62 0))] [] M Φ := by
  refine tX2_mayBe0 hW hj hf (fun g s => ?_)
  exact bsplit (Ψ := fun r => Φ r (wa (wa M 28 g) 24 s)) (fun e => h1 e g s) (fun e => h0 e g s)
theorem r0_lt {x a b : Int32} (h : x = 0) : ¬ (0 < x ∧ a ≤ b) := fun q => absurd q.1 (by rw [h]; decide)
theorem rs_lt {x a b : Int32} (h : ¬ a ≤ b) : ¬ (0 < x ∧ a ≤ b) := fun q => h q.2
set_option maxRecDepth 100000 in
set_option maxHeartbeats 1000000 in
theorem tM_may {d : Nat} {M : Mem} {Φ : Option Int32 → Mem → Prop} {C st : Nat → Nat} {m L n : Nat} {x y z : Int32} (hW : IW M C st m L n) (h0 : ¬ (Ix x n ∧ Ix y 6 ∧ Ix z 4) → Φ (some 0) M) (h1 : ∀ j f u, j < n → f < 6 → u < 4 → x = nI j → y = nI f → z = nI u → ∀ g s, Φ (some (if mayB M C st m j f u = true then 1 else 0)) (wa (wa M 84 g) 83 s)) : JM noRo (d + 2) mX12_may 0 [some (.ref 62), some (.int x), some (.int y), some (.int z)] [] M Φ := by
  have hn12 := hW.2.2.2.1.1
  refine J_aload_n dX12_may_0 rfl ?_
  refine J_iload_n dX12_may_1 rfl ?_
  refine M_callV1 (mc := mX12_isHorse) dX12_may_2 kX12_142 oX12_isHorse (Nat.le_of_ble_eq_true rfl) (Nat.le_of_ble_eq_true rfl) rfl (by decide) rfl ?_
  refine tX12_isHorse hW.2.2.2.1.2.2 hW.2.2.2.1.1 (fun j hj e => ?_) (fun q1 => ?_)
  · -- true
    subst e
    refine J_if_eq (tgt := 46) dX12_may_5 (by decide) (fun c2 => ?_) (fun c2 => ?_)
    · -- to 46
      exact absurd c2 (by decide)
    · -- on 8
      refine J_iload_n dX12_may_8 rfl ?_
      refine M_callS1 (mc := mX12_isField) dX12_may_9 kX12_146 oX12_isField (Nat.le_of_ble_eq_true rfl) (Nat.le_of_ble_eq_true rfl) ?_
      refine tX12_isField (fun f hf e => ?_) (fun q2 => ?_)
      · -- true
        subst e
        refine J_if_eq (tgt := 46) dX12_may_12 (by decide) (fun c4 => ?_) (fun c4 => ?_)
        · -- to 46
          exact absurd c4 (by decide)
        · -- on 15
          refine J_iload_n dX12_may_15 rfl ?_
          refine J_if_lt (tgt := 46) dX12_may_16 (by decide) (fun c5 => ?_) (fun c5 => ?_)
          · -- to 46
            refine J_iconst (v := 0) dX12_may_46 (by decide) ?_
            refine M_zret dX12_may_47 rfl (by first | assumption | exact Or.inl rfl | exact Or.inr rfl) ?_
            first
            | exact h0 (fun q => q1 q.1)
            | exact h0 (fun q => q2 q.2.1)
            | exact h0 (fun q => Ix_neg (by decide) c5 q.2.2)
            | exact h0 (fun q => Ix_big (n := 4) (by decide) c5 q.2.2)
            | (have k := h1 j f u hj hf hu rfl rfl rfl
               rw [mayB_op cR c5] at k
               exact k _ _)
            | (have k := h1 j f u hj hf hu rfl rfl rfl (M.1 84) (M.1 83)
               rw [mayB_sh (r0_lt c5), wa_self, wa_self] at k
               exact k)
            | (have k := h1 j f u hj hf hu rfl rfl rfl (M.1 84) (M.1 83)
               rw [mayB_sh (rs_lt c5), wa_self, wa_self] at k
               exact k)
          · -- on 19
            have z0 := c5
            refine J_iload_n dX12_may_19 rfl ?_
            refine J_iconst (v := 4) dX12_may_20 (by decide) ?_
            refine J_icmp_ge (tgt := 46) dX12_may_21 (by decide) (fun c6 => ?_) (fun c6 => ?_)
            · -- to 46
              refine J_iconst (v := 0) dX12_may_46 (by decide) ?_
              refine M_zret dX12_may_47 rfl (by first | assumption | exact Or.inl rfl | exact Or.inr rfl) ?_
              first
              | exact h0 (fun q => q1 q.1)
              | exact h0 (fun q => q2 q.2.1)
              | exact h0 (fun q => Ix_neg (by decide) c6 q.2.2)
              | exact h0 (fun q => Ix_big (n := 4) (by decide) c6 q.2.2)
              | (have k := h1 j f u hj hf hu rfl rfl rfl
                 rw [mayB_op cR c6] at k
                 exact k _ _)
              | (have k := h1 j f u hj hf hu rfl rfl rfl (M.1 84) (M.1 83)
                 rw [mayB_sh (r0_lt c6), wa_self, wa_self] at k
                 exact k)
              | (have k := h1 j f u hj hf hu rfl rfl rfl (M.1 84) (M.1 83)
                 rw [mayB_sh (rs_lt c6), wa_self, wa_self] at k
                 exact k)
            · -- on 24
              obtain ⟨u, hu, rfl⟩ := Ix_of (n := 4) (by decide) z0 c6
              refine J_aload_n dX12_may_24 rfl ?_
              refine M_getR dX12_may_25 fX12_28 rfl rfl (by decide) ?_
              refine J_iload_n dX12_may_28 rfl ?_
              refine M_ialdE dX12_may_29 rfl (by decide) (by first | rfl | assumption) (by omega) ?_
              refine J_if_eq (tgt := 46) dX12_may_30 (by decide) (fun c7 => ?_) (fun c7 => ?_)
              · -- to 46
                refine J_iconst (v := 0) dX12_may_46 (by decide) ?_
                refine M_zret dX12_may_47 rfl (by first | assumption | exact Or.inl rfl | exact Or.inr rfl) ?_
                first
                | exact h0 (fun q => q1 q.1)
                | exact h0 (fun q => q2 q.2.1)
                | exact h0 (fun q => Ix_neg (by decide) c7 q.2.2)
                | exact h0 (fun q => Ix_big (n := 4) (by decide) c7 q.2.2)
                | (have k := h1 j f u hj hf hu rfl rfl rfl
                   rw [mayB_op cR c7] at k
                   exact k _ _)
                | (have k := h1 j f u hj hf hu rfl rfl rfl (M.1 84) (M.1 83)
                   rw [mayB_sh (r0_lt c7), wa_self, wa_self] at k
                   exact k)
                | (have k := h1 j f u hj hf hu rfl rfl rfl (M.1 84) (M.1 83)
                   rw [mayB_sh (rs_lt c7), wa_self, wa_self] at k
                   exact k)
              · -- on 33
                have cR : 0 < M.1 69 f := by
                  obtain ⟨v, hv, e⟩ := hW.2.2.1.2.2 f
                  have z := c7
                  rw [e] at z ⊢
                  exact nI_lt (a := 0) (Nat.pos_of_ne_zero (fun q => z (by rw [q]; rfl))) (by omega)
                refine J_aload_n dX12_may_33 rfl ?_
                refine M_getI dX12_may_34 fX12_135 rfl rfl (by decide) ?_
                refine J_aload_n dX12_may_37 rfl ?_
                refine M_getR dX12_may_38 fX12_34 rfl rfl (by decide) ?_
                refine J_iload_n dX12_may_41 rfl ?_
                refine M_ialdE dX12_may_42 rfl (by decide) (by first | rfl | assumption) (by omega) ?_
                refine J_icmp_ge (tgt := 48) dX12_may_43 (by decide) (fun c8 => ?_) (fun c8 => ?_)
                · -- to 48
                  have cS := c8
                  refine J_aload_n dX12_may_48 rfl ?_
                  refine J_iconst (v := 0) dX12_may_49 (by decide) ?_
                  refine J_iload_n dX12_may_50 rfl ?_
                  refine M_callV2 (mc := mX12_tell) dX12_may_51 kX12_293 oX12_tell (Nat.le_of_ble_eq_true rfl) (Nat.le_of_ble_eq_true rfl) rfl (by decide) rfl ?_
                  refine tX12_tell (f := 0) (by omega) (by decide) ?_
                  refine J_aload_n dX12_may_54 rfl ?_
                  refine M_getR dX12_may_55 fX12_78 rfl rfl (by decide) ?_
                  refine J_iconst (v := 5) dX12_may_58 (by decide) ?_
                  refine J_iload_n dX12_may_59 rfl ?_
                  refine M_iastE dX12_may_60 rfl (by decide) (show (5 : Int32) = nI 5 from rfl) (by decide) ?_
                  rw [wa_wr]
                  refine J_aload_n dX12_may_61 rfl ?_
                  refine M_getR dX12_may_62 fX12_78 rfl rfl (by decide) ?_
                  refine J_bipush (v := 6) dX12_may_65 (by decide) ?_
                  refine J_aload_n dX12_may_67 rfl ?_
                  refine M_getR dX12_may_68 fX12_31 rfl rfl (by decide) ?_
                  refine J_iload_n dX12_may_71 rfl ?_
                  refine M_ialdE dX12_may_72 rfl (by decide) (by first | rfl | assumption) (by omega) ?_
                  rw [rdb (by decide)]
                  refine M_iastE dX12_may_73 rfl (by decide) (show (6 : Int32) = nI 6 from rfl) (by decide) ?_
                  rw [wa_wr]
                  refine J_aload_n dX12_may_74 rfl ?_
                  refine M_getR dX12_may_75 fX12_78 rfl rfl (by decide) ?_
                  refine J_bipush (v := 7) dX12_may_78 (by decide) ?_
                  refine J_iload_n dX12_may_80 rfl ?_
                  refine M_iastE dX12_may_81 rfl (by decide) (show (7 : Int32) = nI 7 from rfl) (by decide) ?_
                  rw [wa_wr]
                  refine J_aload_n dX12_may_82 rfl ?_
                  refine J_iconst (v := 0) dX12_may_83 (by decide) ?_
                  refine M_callV1 (mc := mX12_hold_) dX12_may_84 kX12_296 oX12_hold_ (Nat.le_of_ble_eq_true rfl) (Nat.le_of_ble_eq_true rfl) rfl (by decide) rfl ?_
                  have hN := hW.vw (Vw.rf.ca (k := 84) (g := upd (upd (upd (fc3 (M.1 84) 0 (nI j) (M.1 63 j) (M.1 64 j) (M.1 62 0 - M.1 65 j) (M.1 66 j)) 5 (nI f)) 6 (M.1 70 f)) 7 (nI u)) (by decide) (by decide))
                  refine tX12_hold_ (C := C) (st := st) (m := m) (L := L) hN.2.2.2.2.2.1 hN.2.2.2.2.2.2.1 (fun s => ?_)
                  rw [rda, rdb (by decide), ← allR_cg (P := M.1 76) (fun r hr => ⟨rfl, fun h0 => hW.2.2.2.2.2.2.1.k8 hr h0⟩) (fcR8 (b := M.1 84) (j := j) (f := f) (u := u) (o := 0) (gt := 0)) m 0 (by omega)]
                  have b01 := ite01 (allR (fcV M j f u 0 0) C st (M.1 76) 0 m 0)
                  refine M_zret dX12_may_87 rfl (by first | assumption | exact Or.inl rfl | exact Or.inr rfl) ?_
                  first
                  | exact h0 (fun q => q1 q.1)
                  | exact h0 (fun q => q2 q.2.1)
                  | exact h0 (fun q => Ix_neg (by decide) c8 q.2.2)
                  | exact h0 (fun q => Ix_big (n := 4) (by decide) c8 q.2.2)
                  | (have k := h1 j f u hj hf hu rfl rfl rfl
                     rw [mayB_op cR c8] at k
                     exact k _ _)
                  | (have k := h1 j f u hj hf hu rfl rfl rfl (M.1 84) (M.1 83)
                     rw [mayB_sh (r0_lt c8), wa_self, wa_self] at k
                     exact k)
                  | (have k := h1 j f u hj hf hu rfl rfl rfl (M.1 84) (M.1 83)
                     rw [mayB_sh (rs_lt c8), wa_self, wa_self] at k
                     exact k)
                · -- on 46
                  refine J_iconst (v := 0) dX12_may_46 (by decide) ?_
                  refine M_zret dX12_may_47 rfl (by first | assumption | exact Or.inl rfl | exact Or.inr rfl) ?_
                  first
                  | exact h0 (fun q => q1 q.1)
                  | exact h0 (fun q => q2 q.2.1)
                  | exact h0 (fun q => Ix_neg (by decide) c8 q.2.2)
                  | exact h0 (fun q => Ix_big (n := 4) (by decide) c8 q.2.2)
                  | (have k := h1 j f u hj hf hu rfl rfl rfl
                     rw [mayB_op cR c8] at k
                     exact k _ _)
                  | (have k := h1 j f u hj hf hu rfl rfl rfl (M.1 84) (M.1 83)
                     rw [mayB_sh (r0_lt c8), wa_self, wa_self] at k
                     exact k)
                  | (have k := h1 j f u hj hf hu rfl rfl rfl (M.1 84) (M.1 83)
                     rw [mayB_sh (rs_lt c8), wa_self, wa_self] at k
                     exact k)
      · -- false
        refine J_if_eq (tgt := 46) dX12_may_12 (by decide) (fun c11 => ?_) (fun c11 => ?_)
        · -- to 46
          refine J_iconst (v := 0) dX12_may_46 (by decide) ?_
          refine M_zret dX12_may_47 rfl (by first | assumption | exact Or.inl rfl | exact Or.inr rfl) ?_
          first
          | exact h0 (fun q => q1 q.1)
          | exact h0 (fun q => q2 q.2.1)
          | exact h0 (fun q => Ix_neg (by decide) c11 q.2.2)
          | exact h0 (fun q => Ix_big (n := 4) (by decide) c11 q.2.2)
          | (have k := h1 j f u hj hf hu rfl rfl rfl
             rw [mayB_op cR c11] at k
             exact k _ _)
          | (have k := h1 j f u hj hf hu rfl rfl rfl (M.1 84) (M.1 83)
             rw [mayB_sh (r0_lt c11), wa_self, wa_self] at k
             exact k)
          | (have k := h1 j f u hj hf hu rfl rfl rfl (M.1 84) (M.1 83)
             rw [mayB_sh (rs_lt c11), wa_self, wa_self] at k
             exact k)
        · -- on 15
          exact absurd c11 (by decide)
  · -- false
    refine J_if_eq (tgt := 46) dX12_may_5 (by decide) (fun c12 => ?_) (fun c12 => ?_)
    · -- to 46
      refine J_iconst (v := 0) dX12_may_46 (by decide) ?_
      refine M_zret dX12_may_47 rfl (by first | assumption | exact Or.inl rfl | exact Or.inr rfl) ?_
      first
      | exact h0 (fun q => q1 q.1)
      | exact h0 (fun q => q2 q.2.1)
      | exact h0 (fun q => Ix_neg (by decide) c12 q.2.2)
      | exact h0 (fun q => Ix_big (n := 4) (by decide) c12 q.2.2)
      | (have k := h1 j f u hj hf hu rfl rfl rfl
         rw [mayB_op cR c12] at k
         exact k _ _)
      | (have k := h1 j f u hj hf hu rfl rfl rfl (M.1 84) (M.1 83)
         rw [mayB_sh (r0_lt c12), wa_self, wa_self] at k
         exact k)
      | (have k := h1 j f u hj hf hu rfl rfl rfl (M.1 84) (M.1 83)
         rw [mayB_sh (rs_lt c12), wa_self, wa_self] at k
         exact k)
    · -- on 8
      exact absurd c12 (by decide)
set_option maxRecDepth 100000 in
set_option maxHeartbeats 1000000 in
theorem tY_may {d : Nat} {M : Mem} {Φ : Option Int32 → Mem → Prop} {C st : Nat → Nat} {m L n : Nat} {x y z : Int32} (hW : IW M C st m L n) (h0 : ¬ (Ix x n ∧ Ix y 6 ∧ Ix z 4) → Φ (some 0) M) (h1 : ∀ j f u, j < n → f < 6 → u < 4 → x = nI j → y = nI f → z = nI u → ∀ g s, Φ (some (if mayB M C st m j f u = true then 1 else 0)) (wa (wa M 28 g) 24 s)) : JM noRo (d + 3) mX11_may 0 [some (.ref 0), some (.int x), some (.int y), some (.int z)] [] M Φ := by
  have hn12 := hW.2.2.2.1.1
  refine J_aload_n dX11_may_0 rfl ?_
  refine M_getR dX11_may_1 fX11_12 rfl rfl (by decide) ?_
  refine J_iload_n dX11_may_4 rfl ?_
  refine M_callV1 (mc := mX1_has) dX11_may_5 kX11_116 oX1_has (Nat.le_of_ble_eq_true rfl) (Nat.le_of_ble_eq_true rfl) rfl (by decide) rfl ?_
  refine tX1_has hW.2.2.2.1.2.1 hW.2.2.2.1.1 (fun j hj e => ?_) (fun q1 => ?_)
  · -- true
    subst e
    refine J_if_eq (tgt := 46) dX11_may_8 (by decide) (fun c2 => ?_) (fun c2 => ?_)
    · -- to 46
      exact absurd c2 (by decide)
    · -- on 11
      refine J_iload_n dX11_may_11 rfl ?_
      refine M_callS1 (mc := mX11_isField) dX11_may_12 kX11_124 oX11_isField (Nat.le_of_ble_eq_true rfl) (Nat.le_of_ble_eq_true rfl) ?_
      refine tX11_isField (fun f hf e => ?_) (fun q2 => ?_)
      · -- true
        subst e
        refine J_if_eq (tgt := 46) dX11_may_15 (by decide) (fun c4 => ?_) (fun c4 => ?_)
        · -- to 46
          exact absurd c4 (by decide)
        · -- on 18
          refine J_iload_n dX11_may_18 rfl ?_
          refine M_callS1 (mc := mX11_isHour) dX11_may_19 kX11_167 oX11_isHour (Nat.le_of_ble_eq_true rfl) (Nat.le_of_ble_eq_true rfl) ?_
          refine tX11_isHour (fun u hu e => ?_) (fun q3 => ?_)
          · -- true
            subst e
            refine J_if_eq (tgt := 46) dX11_may_22 (by decide) (fun c6 => ?_) (fun c6 => ?_)
            · -- to 46
              exact absurd c6 (by decide)
            · -- on 25
              refine J_aload_n dX11_may_25 rfl ?_
              refine M_getR dX11_may_26 fX11_59 rfl rfl (by decide) ?_
              refine J_iload_n dX11_may_29 rfl ?_
              refine J_iload_n dX11_may_30 rfl ?_
              refine J_iload_n dX11_may_31 rfl ?_
              refine J_aload_n dX11_may_32 rfl ?_
              refine M_getI dX11_may_33 fX11_97 rfl rfl (by decide) ?_
              refine M_callV4 (mc := mX2_mayBe) dX11_may_36 kX11_170 oX2_mayBe (Nat.le_of_ble_eq_true rfl) (Nat.le_of_ble_eq_true rfl) rfl (by decide) rfl ?_
              rw [hW.2.1]
              refine tX2_mayBe hW (by omega) hf (fun hb g s => ?_) (fun hb g s => ?_)
              · -- true
                refine J_if_eq (tgt := 46) dX11_may_39 (by decide) (fun c8 => ?_) (fun c8 => ?_)
                · -- to 46
                  exact absurd c8 (by decide)
                · -- on 42
                  refine J_iconst (v := 1) dX11_may_42 (by decide) ?_
                  refine J_goto (tgt := 47) dX11_may_43 (by decide) ?_
                  refine M_zret dX11_may_47 rfl (by first | assumption | exact Or.inl rfl | exact Or.inr rfl) ?_
                  first
                  | exact h0 (fun q => q1 q.1)
                  | exact h0 (fun q => q2 q.2.1)
                  | exact h0 (fun q => q3 q.2.2)
                  | (have k := h1 j f u hj hf hu rfl rfl rfl g s
                     rw [hb] at k
                     exact k)
              · -- false
                refine J_if_eq (tgt := 46) dX11_may_39 (by decide) (fun c9 => ?_) (fun c9 => ?_)
                · -- to 46
                  refine J_iconst (v := 0) dX11_may_46 (by decide) ?_
                  refine M_zret dX11_may_47 rfl (by first | assumption | exact Or.inl rfl | exact Or.inr rfl) ?_
                  first
                  | exact h0 (fun q => q1 q.1)
                  | exact h0 (fun q => q2 q.2.1)
                  | exact h0 (fun q => q3 q.2.2)
                  | (have k := h1 j f u hj hf hu rfl rfl rfl g s
                     rw [hb] at k
                     exact k)
                · -- on 42
                  exact absurd c9 (by decide)
          · -- false
            refine J_if_eq (tgt := 46) dX11_may_22 (by decide) (fun c10 => ?_) (fun c10 => ?_)
            · -- to 46
              refine J_iconst (v := 0) dX11_may_46 (by decide) ?_
              refine M_zret dX11_may_47 rfl (by first | assumption | exact Or.inl rfl | exact Or.inr rfl) ?_
              first
              | exact h0 (fun q => q1 q.1)
              | exact h0 (fun q => q2 q.2.1)
              | exact h0 (fun q => q3 q.2.2)
              | (have k := h1 j f u hj hf hu rfl rfl rfl g s
                 rw [hb] at k
                 exact k)
            · -- on 25
              exact absurd c10 (by decide)
      · -- false
        refine J_if_eq (tgt := 46) dX11_may_15 (by decide) (fun c11 => ?_) (fun c11 => ?_)
        · -- to 46
          refine J_iconst (v := 0) dX11_may_46 (by decide) ?_
          refine M_zret dX11_may_47 rfl (by first | assumption | exact Or.inl rfl | exact Or.inr rfl) ?_
          first
          | exact h0 (fun q => q1 q.1)
          | exact h0 (fun q => q2 q.2.1)
          | exact h0 (fun q => q3 q.2.2)
          | (have k := h1 j f u hj hf hu rfl rfl rfl g s
             rw [hb] at k
             exact k)
        · -- on 18
          exact absurd c11 (by decide)
  · -- false
    refine J_if_eq (tgt := 46) dX11_may_8 (by decide) (fun c12 => ?_) (fun c12 => ?_)
    · -- to 46
      refine J_iconst (v := 0) dX11_may_46 (by decide) ?_
      refine M_zret dX11_may_47 rfl (by first | assumption | exact Or.inl rfl | exact Or.inr rfl) ?_
      first
      | exact h0 (fun q => q1 q.1)
      | exact h0 (fun q => q2 q.2.1)
      | exact h0 (fun q => q3 q.2.2)
      | (have k := h1 j f u hj hf hu rfl rfl rfl g s
         rw [hb] at k
         exact k)
    · -- on 11
      exact absurd c12 (by decide)

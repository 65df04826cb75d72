theorem wa4 {M : Mem} {a b : Nat} {F s G s2 : Nat → Int32} (h : a ≠ b) : wa (wa (wa (wa M a F) b s) a G) b s2 = wa (wa M a G) b s2 := by
  refine Mem_ext (fun c => ?_) rfl
  by_cases h1 : c = b
  · simp [wa, h1]
  · by_cases h2 : c = a
    · simp [wa, h1, h2, h]
    · simp [wa, h1, h2]
theorem meetB_no {M : Mem} {C st : Nat → Nat} {m j f o g u : Nat} (h : ¬ (f = g ∨ M.1 72 (f * 6 + g) ≠ 0)) : meetB M C st m j f o g u = true := by rw [meetB, if_neg h]
theorem meetB_1 {M : Mem} {C st : Nat → Nat} {m j f o g u : Nat} {gt : Int32} (eg : (if f = g then (0 : Int32) else 1) = gt) (h : f = g ∨ M.1 72 (f * 6 + g) ≠ 0) (h1 : allR (fcV M j f u o gt) C st (M.1 76) 1 m 0 = false) : meetB M C st m j f o g u = false := by rw [meetB, if_pos h, eg, h1]; rfl
theorem meetB_2 {M : Mem} {C st : Nat → Nat} {m j f o g u : Nat} {gt : Int32} (eg : (if f = g then (0 : Int32) else 1) = gt) (h : f = g ∨ M.1 72 (f * 6 + g) ≠ 0) (h1 : allR (fcV M j f u o gt) C st (M.1 76) 1 m 0 = true) : meetB M C st m j f o g u = allR (fcV M o g u j gt) C st (M.1 76) 1 m 0 := by rw [meetB, if_pos h, eg, h1]; rfl
theorem tX2_both {d : Nat} {M : Mem} {Φ : Option Int32 → Mem → Prop} {C st : Nat → Nat} {m L n j f u o : Nat} {gt : Int32} {F : Nat → Int32} (hW : IW M C st m L n) (hF : ∀ c, c < 14 → fcV M j f u o gt c = F c) (h : ∀ s N, N = wa (wa M 28 F) 24 s → Φ (some (if allR (fcV M j f u o gt) C st (M.1 76) 1 m 0 = true then 1 else 0)) N) : JM noRo (d + 1) mX7_allHold 0 [some (.ref 20), some (.int 1), some (.ref 28)] [] (wa M 28 F) Φ := by
  have hN := hW.vw (Vw.rf.ca (k := 28) (g := F) (by decide) (by decide))
  refine tX7_allHold (C := C) (st := st) (m := m) (L := L) hN.2.2.2.2.1 hN.rp (fun s => ?_)
  rw [rda, rdb (by decide), ← allR_cg (hW.c0 (lim := 14) (p := 1) (fun r hr _ => hW.2.2.2.2.2.2.1.k14 hr)) hF m 0 (by omega)]
  exact h s _ rfl
set_option maxRecDepth 100000 in
set_option maxHeartbeats 1000000 in
theorem tX2_mayMeet0 {d : Nat} {M : Mem} {Φ : Option Int32 → Mem → Prop} {C st : Nat → Nat} {m L n j f o g u : Nat} (hW : IW M C st m L n) (hj : j < 12) (ho : o < 12) (hf : f < 6) (hg : g < 6) (h : ∀ g2 s, Φ (some (if meetB M C st m j f o g u = true then 1 else 0)) (wa (wa M 28 g2) 24 s)) : JM noRo (d + 2) mX2_mayMeet 0 [some (.ref 27), some (.int (nI j)), some (.int (nI f)), some (.int (nI o)), some (.int (nI g)), some (.int (nI u)), some (.int (M.1 62 0))] [] M Φ := by
  refine J_aload_n dX2_mayMeet_0 rfl ?_
  refine M_getR dX2_mayMeet_1 fX2_19 rfl rfl (by decide) ?_
  refine J_iload_n dX2_mayMeet_4 rfl ?_
  refine J_iload dX2_mayMeet_5 rfl ?_
  refine M_callV2 (mc := mX3_touch) dX2_mayMeet_7 kX2_43 oX3_touch (Nat.le_of_ble_eq_true rfl) (Nat.le_of_ble_eq_true rfl) rfl (by decide) rfl ?_
  refine tX3_touch hf hg (fun ht => ?_) (fun ht => ?_)
  · -- true
    rw [hW.1.2.2.2.2.2.2.2.2.2.1] at ht
    refine J_if_ne (tgt := 15) dX2_mayMeet_10 (by decide) (fun c2 => ?_) (fun c2 => ?_)
    · -- to 15
      refine J_aload_n dX2_mayMeet_15 rfl ?_
      refine M_getR dX2_mayMeet_16 fX2_9 rfl rfl (by decide) ?_
      refine J_bipush (v := 8) dX2_mayMeet_19 (by decide) ?_
      refine J_iload_n dX2_mayMeet_21 rfl ?_
      refine J_iload dX2_mayMeet_22 rfl ?_
      refine J_icmp_ne (tgt := 31) dX2_mayMeet_24 (by decide) (fun c3 => ?_) (fun c3 => ?_)
      · -- to 31
        have eg : (if f = g then (0 : Int32) else 1) = 1 := if_neg (fun q => c3 (by rw [q]))
        refine J_iconst (v := 1) dX2_mayMeet_31 (by decide) ?_
        refine M_iastE dX2_mayMeet_32 rfl (by decide) (show (8 : Int32) = nI 8 from rfl) (by decide) ?_
        rw [wr_wa]
        refine J_aload_n dX2_mayMeet_33 rfl ?_
        refine J_iload_n dX2_mayMeet_34 rfl ?_
        refine J_iload_n dX2_mayMeet_35 rfl ?_
        refine J_iload dX2_mayMeet_36 rfl ?_
        refine J_iload dX2_mayMeet_38 rfl ?_
        refine M_callV4 (mc := mX2_tellOfOne) dX2_mayMeet_40 kX2_33 oX2_tellOfOne (Nat.le_of_ble_eq_true rfl) (Nat.le_of_ble_eq_true rfl) rfl (by decide) rfl ?_
        refine tX2_tell1 hj hf (by rw [rdb (by decide)]; exact hW.l01 _) ?_
        rw [wa_wa, rda, rdb (a := 2) (by decide), rdb (a := 3) (by decide), rdb (a := 4) (by decide), rdb (a := 5) (by decide), rdb (a := 10) (by decide)]
        refine J_aload_n dX2_mayMeet_43 rfl ?_
        refine J_iload_n dX2_mayMeet_44 rfl ?_
        refine J_iload dX2_mayMeet_45 rfl ?_
        refine M_callV2 (mc := mX2_tellOfOther) dX2_mayMeet_47 kX2_46 oX2_tellOfOther (Nat.le_of_ble_eq_true rfl) (Nat.le_of_ble_eq_true rfl) rfl (by decide) rfl ?_
        refine tX2_tell2 ho (by rw [rdb (by decide)]; exact hW.l01 _) ?_
        rw [wa_wa, rda, rdb (a := 2) (by decide), rdb (a := 3) (by decide), rdb (a := 4) (by decide), rdb (a := 5) (by decide)]
        refine J_aload_n dX2_mayMeet_50 rfl ?_
        refine M_getR dX2_mayMeet_51 fX2_23 rfl rfl (by decide) ?_
        refine J_iconst (v := 1) dX2_mayMeet_54 (by decide) ?_
        refine J_aload_n dX2_mayMeet_55 rfl ?_
        refine M_getR dX2_mayMeet_56 fX2_9 rfl rfl (by decide) ?_
        refine M_callV2 (mc := mX7_allHold) dX2_mayMeet_59 kX2_37 oX7_allHold (Nat.le_of_ble_eq_true rfl) (Nat.le_of_ble_eq_true rfl) rfl (by decide) rfl ?_
        refine tX2_both (C := C) (st := st) (m := m) (L := L) (j := j) (f := f) (u := u) (o := o) hW (fcV14 hW.1 (by rw [updS])) (fun s N hN => ?_)
        rcases Bool.eq_false_or_eq_true (allR (fcV M j f u o _) C st (M.1 76) 1 m 0) with hb1 | hb1
        · -- true
          rw [if_pos hb1]
          have nn : ∀ a, a ≠ 24 → a ≠ 28 → N.1 a = M.1 a := fun a q1 q2 => by rw [hN, rdb q1, rdb q2]
          have n28 : N.1 28 8 = (if f = g then (0 : Int32) else 1) := by rw [hN, rdb (by decide), rda, eg]; rfl
          rw [eg] at n28
          have hV : Vw M N := by rw [hN]; exact (Vw.rf.ca (by decide) (by decide)).ca (by decide) (by decide)
          have hW2 := hW.vw hV
          refine J_if_ne (tgt := 67) dX2_mayMeet_62 (by decide) (fun c7 => ?_) (fun c7 => ?_)
          · -- to 67
            refine J_aload_n dX2_mayMeet_67 rfl ?_
            refine J_iload_n dX2_mayMeet_68 rfl ?_
            refine J_iload dX2_mayMeet_69 rfl ?_
            refine J_iload dX2_mayMeet_71 rfl ?_
            refine J_iload dX2_mayMeet_73 rfl ?_
            refine M_callV4 (mc := mX2_tellOfOne) dX2_mayMeet_75 kX2_33 oX2_tellOfOne (Nat.le_of_ble_eq_true rfl) (Nat.le_of_ble_eq_true rfl) rfl (by decide) rfl ?_
            refine tX2_tell1 ho hg (hW2.l01 _) ?_
            rw [nn 2 (by decide) (by decide), nn 3 (by decide) (by decide), nn 4 (by decide) (by decide), nn 5 (by decide) (by decide), nn 10 (by decide) (by decide)]
            refine J_aload_n dX2_mayMeet_78 rfl ?_
            refine J_iload_n dX2_mayMeet_79 rfl ?_
            refine J_iload dX2_mayMeet_80 rfl ?_
            refine M_callV2 (mc := mX2_tellOfOther) dX2_mayMeet_82 kX2_46 oX2_tellOfOther (Nat.le_of_ble_eq_true rfl) (Nat.le_of_ble_eq_true rfl) rfl (by decide) rfl ?_
            refine tX2_tell2 hj (by rw [rdb (by decide)]; exact hW2.l01 _) ?_
            rw [wa_wa, rda, rdb (a := 2) (by decide), rdb (a := 3) (by decide), rdb (a := 4) (by decide), rdb (a := 5) (by decide), nn 2 (by decide) (by decide), nn 3 (by decide) (by decide), nn 4 (by decide) (by decide), nn 5 (by decide) (by decide)]
            refine J_aload_n dX2_mayMeet_85 rfl ?_
            refine M_getR dX2_mayMeet_86 fX2_23 rfl rfl (by decide) ?_
            refine J_iconst (v := 1) dX2_mayMeet_89 (by decide) ?_
            refine J_aload_n dX2_mayMeet_90 rfl ?_
            refine M_getR dX2_mayMeet_91 fX2_9 rfl rfl (by decide) ?_
            refine M_callV2 (mc := mX7_allHold) dX2_mayMeet_94 kX2_37 oX7_allHold (Nat.le_of_ble_eq_true rfl) (Nat.le_of_ble_eq_true rfl) rfl (by decide) rfl ?_
            refine tX2_both (C := C) (st := st) (m := m) (L := L) (j := o) (f := g) (u := u) (o := j) hW2 (fun c hc => (congrFun (fcV_vw hV _ _ _ _ _) c).trans (fcV14 hW.1 n28 c hc)) (fun s2 N2 hN2 => ?_)
            rw [fcV_vw hV, nn 76 (by decide) (by decide)]
            rw [hN2, hN, wa4 (by decide)]
            refine M_zret dX2_mayMeet_97 rfl (by first | assumption | exact Or.inl rfl | exact Or.inr rfl | exact ite01 _) ?_
            first
            | (rw [meetB_no ht] at h
               have z := h (M.1 28) (M.1 24)
               rw [wa_self, wa_self] at z
               exact z)
            | (rw [meetB_1 eg ht hb1] at h; exact h _ _)
            | (rw [meetB_2 eg ht hb1] at h; exact h _ _)
          · -- on 65
            exact absurd c7 (by decide)
        · -- false
          rw [if_neg (by rw [hb1]; decide)]
          subst hN
          refine J_if_ne (tgt := 67) dX2_mayMeet_62 (by decide) (fun c11 => ?_) (fun c11 => ?_)
          · -- to 67
            exact absurd c11 (by decide)
          · -- on 65
            refine J_iconst (v := 0) dX2_mayMeet_65 (by decide) ?_
            refine M_zret dX2_mayMeet_66 rfl (by first | assumption | exact Or.inl rfl | exact Or.inr rfl | exact ite01 _) ?_
            first
            | (rw [meetB_no ht] at h
               have z := h (M.1 28) (M.1 24)
               rw [wa_self, wa_self] at z
               exact z)
            | (rw [meetB_1 eg ht hb1] at h; exact h _ _)
            | (rw [meetB_2 eg ht hb1] at h; exact h _ _)
      · -- on 27
        have eg : (if f = g then (0 : Int32) else 1) = 0 := if_pos ((nI_eq (by omega) (by omega)).mp c3)
        refine J_iconst (v := 0) dX2_mayMeet_27 (by decide) ?_
        refine J_goto (tgt := 32) dX2_mayMeet_28 (by decide) ?_
        refine M_iastE dX2_mayMeet_32 rfl (by decide) (show (8 : Int32) = nI 8 from rfl) (by decide) ?_
        rw [wr_wa]
        refine J_aload_n dX2_mayMeet_33 rfl ?_
        refine J_iload_n dX2_mayMeet_34 rfl ?_
        refine J_iload_n dX2_mayMeet_35 rfl ?_
        refine J_iload dX2_mayMeet_36 rfl ?_
        refine J_iload dX2_mayMeet_38 rfl ?_
        refine M_callV4 (mc := mX2_tellOfOne) dX2_mayMeet_40 kX2_33 oX2_tellOfOne (Nat.le_of_ble_eq_true rfl) (Nat.le_of_ble_eq_true rfl) rfl (by decide) rfl ?_
        refine tX2_tell1 hj hf (by rw [rdb (by decide)]; exact hW.l01 _) ?_
        rw [wa_wa, rda, rdb (a := 2) (by decide), rdb (a := 3) (by decide), rdb (a := 4) (by decide), rdb (a := 5) (by decide), rdb (a := 10) (by decide)]
        refine J_aload_n dX2_mayMeet_43 rfl ?_
        refine J_iload_n dX2_mayMeet_44 rfl ?_
        refine J_iload dX2_mayMeet_45 rfl ?_
        refine M_callV2 (mc := mX2_tellOfOther) dX2_mayMeet_47 kX2_46 oX2_tellOfOther (Nat.le_of_ble_eq_true rfl) (Nat.le_of_ble_eq_true rfl) rfl (by decide) rfl ?_
        refine tX2_tell2 ho (by rw [rdb (by decide)]; exact hW.l01 _) ?_
        rw [wa_wa, rda, rdb (a := 2) (by decide), rdb (a := 3) (by decide), rdb (a := 4) (by decide), rdb (a := 5) (by decide)]
        refine J_aload_n dX2_mayMeet_50 rfl ?_
        refine M_getR dX2_mayMeet_51 fX2_23 rfl rfl (by decide) ?_
        refine J_iconst (v := 1) dX2_mayMeet_54 (by decide) ?_
        refine J_aload_n dX2_mayMeet_55 rfl ?_
        refine M_getR dX2_mayMeet_56 fX2_9 rfl rfl (by decide) ?_
        refine M_callV2 (mc := mX7_allHold) dX2_mayMeet_59 kX2_37 oX7_allHold (Nat.le_of_ble_eq_true rfl) (Nat.le_of_ble_eq_true rfl) rfl (by decide) rfl ?_
        refine tX2_both (C := C) (st := st) (m := m) (L := L) (j := j) (f := f) (u := u) (o := o) hW (fcV14 hW.1 (by rw [updS])) (fun s N hN => ?_)
        rcases Bool.eq_false_or_eq_true (allR (fcV M j f u o _) C st (M.1 76) 1 m 0) with hb1 | hb1
        · -- true
          rw [if_pos hb1]
          have nn : ∀ a, a ≠ 24 → a ≠ 28 → N.1 a = M.1 a := fun a q1 q2 => by rw [hN, rdb q1, rdb q2]
          have n28 : N.1 28 8 = (if f = g then (0 : Int32) else 1) := by rw [hN, rdb (by decide), rda, eg]; rfl
          rw [eg] at n28
          have hV : Vw M N := by rw [hN]; exact (Vw.rf.ca (by decide) (by decide)).ca (by decide) (by decide)
          have hW2 := hW.vw hV
          refine J_if_ne (tgt := 67) dX2_mayMeet_62 (by decide) (fun c15 => ?_) (fun c15 => ?_)
          · -- to 67
            refine J_aload_n dX2_mayMeet_67 rfl ?_
            refine J_iload_n dX2_mayMeet_68 rfl ?_
            refine J_iload dX2_mayMeet_69 rfl ?_
            refine J_iload dX2_mayMeet_71 rfl ?_
            refine J_iload dX2_mayMeet_73 rfl ?_
            refine M_callV4 (mc := mX2_tellOfOne) dX2_mayMeet_75 kX2_33 oX2_tellOfOne (Nat.le_of_ble_eq_true rfl) (Nat.le_of_ble_eq_true rfl) rfl (by decide) rfl ?_
            refine tX2_tell1 ho hg (hW2.l01 _) ?_
            rw [nn 2 (by decide) (by decide), nn 3 (by decide) (by decide), nn 4 (by decide) (by decide), nn 5 (by decide) (by decide), nn 10 (by decide) (by decide)]
            refine J_aload_n dX2_mayMeet_78 rfl ?_
            refine J_iload_n dX2_mayMeet_79 rfl ?_
            refine J_iload dX2_mayMeet_80 rfl ?_
            refine M_callV2 (mc := mX2_tellOfOther) dX2_mayMeet_82 kX2_46 oX2_tellOfOther (Nat.le_of_ble_eq_true rfl) (Nat.le_of_ble_eq_true rfl) rfl (by decide) rfl ?_
            refine tX2_tell2 hj (by rw [rdb (by decide)]; exact hW2.l01 _) ?_
            rw [wa_wa, rda, rdb (a := 2) (by decide), rdb (a := 3) (by decide), rdb (a := 4) (by decide), rdb (a := 5) (by decide), nn 2 (by decide) (by decide), nn 3 (by decide) (by decide), nn 4 (by decide) (by decide), nn 5 (by decide) (by decide)]
            refine J_aload_n dX2_mayMeet_85 rfl ?_
            refine M_getR dX2_mayMeet_86 fX2_23 rfl rfl (by decide) ?_
            refine J_iconst (v := 1) dX2_mayMeet_89 (by decide) ?_
            refine J_aload_n dX2_mayMeet_90 rfl ?_
            refine M_getR dX2_mayMeet_91 fX2_9 rfl rfl (by decide) ?_
            refine M_callV2 (mc := mX7_allHold) dX2_mayMeet_94 kX2_37 oX7_allHold (Nat.le_of_ble_eq_true rfl) (Nat.le_of_ble_eq_true rfl) rfl (by decide) rfl ?_
            refine tX2_both (C := C) (st := st) (m := m) (L := L) (j := o) (f := g) (u := u) (o := j) hW2 (fun c hc => (congrFun (fcV_vw hV _ _ _ _ _) c).trans (fcV14 hW.1 n28 c hc)) (fun s2 N2 hN2 => ?_)
            rw [fcV_vw hV, nn 76 (by decide) (by decide)]
            rw [hN2, hN, wa4 (by decide)]
            refine M_zret dX2_mayMeet_97 rfl (by first | assumption | exact Or.inl rfl | exact Or.inr rfl | exact ite01 _) ?_
            first
            | (rw [meetB_no ht] at h
               have z := h (M.1 28) (M.1 24)
               rw [wa_self, wa_self] at z
               exact z)
            | (rw [meetB_1 eg ht hb1] at h; exact h _ _)
            | (rw [meetB_2 eg ht hb1] at h; exact h _ _)
          · -- on 65
            exact absurd c15 (by decide)
        · -- false
          rw [if_neg (by rw [hb1]; decide)]
          subst hN
          refine J_if_ne (tgt := 67) dX2_mayMeet_62 (by decide) (fun c19 => ?_) (fun c19 => ?_)
          · -- to 67
            exact absurd c19 (by decide)
          · -- on 65
            refine J_iconst (v := 0) dX2_mayMeet_65 (by decide) ?_
            refine M_zret dX2_mayMeet_66 rfl (by first | assumption | exact Or.inl rfl | exact Or.inr rfl | exact ite01 _) ?_
            first
            | (rw [meetB_no ht] at h
               have z := h (M.1 28) (M.1 24)
               rw [wa_self, wa_self] at z
               exact z)
            | (rw [meetB_1 eg ht hb1] at h; exact h _ _)
            | (rw [meetB_2 eg ht hb1] at h; exact h _ _)
    · -- on 13
      exact absurd c2 (by decide)
  · -- false
    rw [hW.1.2.2.2.2.2.2.2.2.2.1] at ht
    refine J_if_ne (tgt := 15) dX2_mayMeet_10 (by decide) (fun c20 => ?_) (fun c20 => ?_)
    · -- to 15
      exact absurd c20 (by decide)
    · -- on 13
      refine J_iconst (v := 1) dX2_mayMeet_13 (by decide) ?_
      refine M_zret dX2_mayMeet_14 rfl (by first | assumption | exact Or.inl rfl | exact Or.inr rfl | exact ite01 _) ?_
      first
      | (rw [meetB_no ht] at h
         have z := h (M.1 28) (M.1 24)
         rw [wa_self, wa_self] at z
         exact z)
      | (rw [meetB_1 eg ht hb1] at h; exact h _ _)
      | (rw [meetB_2 eg ht hb1] at h; exact h _ _)
theorem tX2_mayMeet {d : Nat} {M : Mem} {Φ : Option Int32 → Mem → Prop} {C st : Nat → Nat} {m L n j f o g u : Nat} (hW : IW M C st m L n) (hj : j < 12) (ho : o < 12) (hf : f < 6) (hg : g < 6) (h1 : meetB M C st m j f o g u = true → ∀ g2 s, Φ (some 1) (wa (wa M 28 g2) 24 s)) (h0 : meetB M C st m j f o g u = false → ∀ g2 s, Φ (some 0) (wa (wa M 28 g2) 24 s)) : JM noRo (d + 2) mX2_mayMeet 0 [some (.ref 27), some (.int (nI j)), some (.int (nI f)), some (.int (nI o)), some (.int (nI g)), some (.int (nI u)), some (.int (M.1 62 0))] [] M Φ := by
  refine tX2_mayMeet0 hW hj ho hf hg (fun g2 s => ?_)
  exact bsplit (Ψ := fun r => Φ r (wa (wa M 28 g2) 24 s)) (fun e => h1 e g2 s) (fun e => h0 e g2 s)
set_option maxRecDepth 100000 in
set_option maxHeartbeats 1000000 in
theorem tX12_mf {d : Nat} {M : Mem} {Φ : Option Int32 → Mem → Prop} {C st : Nat → Nat} {m L n j f o u : Nat} {gt : Int32} (hgt : gt = 0 ∨ gt = 1) (hW : IW M C st m L n) (hj : j < 12) (ho : o < 12) (hf : f < 6) (h : ∀ g s, Φ (some (if allR (fcV M j f u o gt) C st (M.1 76) 1 m 0 = true then 1 else 0)) (wa (wa M 84 g) 83 s)) : JM noRo (d + 2) mX12_meetsFrom 0 [some (.ref 62), some (.int (nI j)), some (.int (nI f)), some (.int (nI o)), some (.int gt), some (.int (nI u))] [] M Φ := by
  rcases hgt with rfl | rfl
  ·
    refine J_aload_n dX12_meetsFrom_0 rfl ?_
    refine J_iconst (v := 0) dX12_meetsFrom_1 (by decide) ?_
    refine J_iload_n dX12_meetsFrom_2 rfl ?_
    refine M_callV2 (mc := mX12_tell) dX12_meetsFrom_3 kX12_293 oX12_tell (Nat.le_of_ble_eq_true rfl) (Nat.le_of_ble_eq_true rfl) rfl (by decide) rfl ?_
    refine tX12_tell (f := 0) hj (by decide) ?_
    refine J_aload_n dX12_meetsFrom_6 rfl ?_
    refine J_bipush (v := 8) dX12_meetsFrom_7 (by decide) ?_
    refine J_iload_n dX12_meetsFrom_9 rfl ?_
    refine M_callV2 (mc := mX12_tell) dX12_meetsFrom_10 kX12_293 oX12_tell (Nat.le_of_ble_eq_true rfl) (Nat.le_of_ble_eq_true rfl) rfl (by decide) rfl ?_
    refine tX12_tell (f := 8) ho (by decide) ?_
    rw [wa_wa, rda, rdb (a := 63) (by decide), rdb (a := 64) (by decide), rdb (a := 62) (by decide), rdb (a := 65) (by decide), rdb (a := 66) (by decide)]
    refine J_aload_n dX12_meetsFrom_13 rfl ?_
    refine M_getR dX12_meetsFrom_14 fX12_78 rfl rfl (by decide) ?_
    refine J_iconst (v := 5) dX12_meetsFrom_17 (by decide) ?_
    refine J_iload_n dX12_meetsFrom_18 rfl ?_
    refine M_iastE dX12_meetsFrom_19 rfl (by decide) (show (5 : Int32) = nI 5 from rfl) (by decide) ?_
    rw [wa_wr]
    refine J_aload_n dX12_meetsFrom_20 rfl ?_
    refine M_getR dX12_meetsFrom_21 fX12_78 rfl rfl (by decide) ?_
    refine J_bipush (v := 6) dX12_meetsFrom_24 (by decide) ?_
    refine J_aload_n dX12_meetsFrom_26 rfl ?_
    refine M_getR dX12_meetsFrom_27 fX12_31 rfl rfl (by decide) ?_
    refine J_iload_n dX12_meetsFrom_30 rfl ?_
    refine M_ialdE dX12_meetsFrom_31 rfl (by decide) (by first | rfl | assumption) (by omega) ?_
    rw [rdb (by decide)]
    refine M_iastE dX12_meetsFrom_32 rfl (by decide) (show (6 : Int32) = nI 6 from rfl) (by decide) ?_
    rw [wa_wr]
    refine J_aload_n dX12_meetsFrom_33 rfl ?_
    refine M_getR dX12_meetsFrom_34 fX12_78 rfl rfl (by decide) ?_
    refine J_bipush (v := 7) dX12_meetsFrom_37 (by decide) ?_
    refine J_iload dX12_meetsFrom_39 rfl ?_
    refine M_iastE dX12_meetsFrom_41 rfl (by decide) (show (7 : Int32) = nI 7 from rfl) (by decide) ?_
    rw [wa_wr]
    refine J_aload_n dX12_meetsFrom_42 rfl ?_
    refine M_getR dX12_meetsFrom_43 fX12_78 rfl rfl (by decide) ?_
    refine J_bipush (v := 13) dX12_meetsFrom_46 (by decide) ?_
    refine J_iload dX12_meetsFrom_48 rfl ?_
    refine J_if_eq (tgt := 57) dX12_meetsFrom_50 (by decide) (fun c3 => ?_) (fun c3 => ?_)
    · -- to 57
      refine J_iconst (v := 0) dX12_meetsFrom_57 (by decide) ?_
      refine M_iastE dX12_meetsFrom_58 rfl (by decide) (show (13 : Int32) = nI 13 from rfl) (by decide) ?_
      rw [wa_wr]
      refine J_aload_n dX12_meetsFrom_59 rfl ?_
      refine J_iconst (v := 1) dX12_meetsFrom_60 (by decide) ?_
      refine M_callV1 (mc := mX12_hold_) dX12_meetsFrom_61 kX12_296 oX12_hold_ (Nat.le_of_ble_eq_true rfl) (Nat.le_of_ble_eq_true rfl) rfl (by decide) rfl ?_
      have hN := hW.vw (Vw.rf.ca (k := 84) (g := upd (upd (upd (upd (fc3 (fc3 (M.1 84) 0 (nI j) (M.1 63 j) (M.1 64 j) (M.1 62 0 - M.1 65 j) (M.1 66 j)) 8 (nI o) (M.1 63 o) (M.1 64 o) (M.1 62 0 - M.1 65 o) (M.1 66 o)) 5 (nI f)) 6 (M.1 70 f)) 7 (nI u)) 13 0) (by decide) (by decide))
      refine tX12_hold_ (C := C) (st := st) (m := m) (L := L) hN.2.2.2.2.2.1 hN.2.2.2.2.2.2.1 (fun s => ?_)
      rw [rda, rdb (by decide), ← allR_cg (P := M.1 76) (fun r hr => ⟨rfl, fun _ => hW.2.2.2.2.2.2.1.k14 hr⟩) (fcR14 (b := M.1 84) (j := j) (f := f) (u := u) (o := o) (gt := 0)) m 0 (by omega)]
      have b01 := ite01 (allR (fcV M j f u o 0) C st (M.1 76) 1 m 0)
      refine M_zret dX12_meetsFrom_64 rfl (by first | assumption | exact Or.inl rfl | exact Or.inr rfl) ?_
      exact h _ _
    · -- on 53
      exact absurd c3 (by decide)
  ·
    refine J_aload_n dX12_meetsFrom_0 rfl ?_
    refine J_iconst (v := 0) dX12_meetsFrom_1 (by decide) ?_
    refine J_iload_n dX12_meetsFrom_2 rfl ?_
    refine M_callV2 (mc := mX12_tell) dX12_meetsFrom_3 kX12_293 oX12_tell (Nat.le_of_ble_eq_true rfl) (Nat.le_of_ble_eq_true rfl) rfl (by decide) rfl ?_
    refine tX12_tell (f := 0) hj (by decide) ?_
    refine J_aload_n dX12_meetsFrom_6 rfl ?_
    refine J_bipush (v := 8) dX12_meetsFrom_7 (by decide) ?_
    refine J_iload_n dX12_meetsFrom_9 rfl ?_
    refine M_callV2 (mc := mX12_tell) dX12_meetsFrom_10 kX12_293 oX12_tell (Nat.le_of_ble_eq_true rfl) (Nat.le_of_ble_eq_true rfl) rfl (by decide) rfl ?_
    refine tX12_tell (f := 8) ho (by decide) ?_
    rw [wa_wa, rda, rdb (a := 63) (by decide), rdb (a := 64) (by decide), rdb (a := 62) (by decide), rdb (a := 65) (by decide), rdb (a := 66) (by decide)]
    refine J_aload_n dX12_meetsFrom_13 rfl ?_
    refine M_getR dX12_meetsFrom_14 fX12_78 rfl rfl (by decide) ?_
    refine J_iconst (v := 5) dX12_meetsFrom_17 (by decide) ?_
    refine J_iload_n dX12_meetsFrom_18 rfl ?_
    refine M_iastE dX12_meetsFrom_19 rfl (by decide) (show (5 : Int32) = nI 5 from rfl) (by decide) ?_
    rw [wa_wr]
    refine J_aload_n dX12_meetsFrom_20 rfl ?_
    refine M_getR dX12_meetsFrom_21 fX12_78 rfl rfl (by decide) ?_
    refine J_bipush (v := 6) dX12_meetsFrom_24 (by decide) ?_
    refine J_aload_n dX12_meetsFrom_26 rfl ?_
    refine M_getR dX12_meetsFrom_27 fX12_31 rfl rfl (by decide) ?_
    refine J_iload_n dX12_meetsFrom_30 rfl ?_
    refine M_ialdE dX12_meetsFrom_31 rfl (by decide) (by first | rfl | assumption) (by omega) ?_
    rw [rdb (by decide)]
    refine M_iastE dX12_meetsFrom_32 rfl (by decide) (show (6 : Int32) = nI 6 from rfl) (by decide) ?_
    rw [wa_wr]
    refine J_aload_n dX12_meetsFrom_33 rfl ?_
    refine M_getR dX12_meetsFrom_34 fX12_78 rfl rfl (by decide) ?_
    refine J_bipush (v := 7) dX12_meetsFrom_37 (by decide) ?_
    refine J_iload dX12_meetsFrom_39 rfl ?_
    refine M_iastE dX12_meetsFrom_41 rfl (by decide) (show (7 : Int32) = nI 7 from rfl) (by decide) ?_
    rw [wa_wr]
    refine J_aload_n dX12_meetsFrom_42 rfl ?_
    refine M_getR dX12_meetsFrom_43 fX12_78 rfl rfl (by decide) ?_
    refine J_bipush (v := 13) dX12_meetsFrom_46 (by decide) ?_
    refine J_iload dX12_meetsFrom_48 rfl ?_
    refine J_if_eq (tgt := 57) dX12_meetsFrom_50 (by decide) (fun c3 => ?_) (fun c3 => ?_)
    · -- to 57
      exact absurd c3 (by decide)
    · -- on 53
      refine J_iconst (v := 1) dX12_meetsFrom_53 (by decide) ?_
      refine J_goto (tgt := 58) dX12_meetsFrom_54 (by decide) ?_
      refine M_iastE dX12_meetsFrom_58 rfl (by decide) (show (13 : Int32) = nI 13 from rfl) (by decide) ?_
      rw [wa_wr]
      refine J_aload_n dX12_meetsFrom_59 rfl ?_
      refine J_iconst (v := 1) dX12_meetsFrom_60 (by decide) ?_
      refine M_callV1 (mc := mX12_hold_) dX12_meetsFrom_61 kX12_296 oX12_hold_ (Nat.le_of_ble_eq_true rfl) (Nat.le_of_ble_eq_true rfl) rfl (by decide) rfl ?_
      have hN := hW.vw (Vw.rf.ca (k := 84) (g := upd (upd (upd (upd (fc3 (fc3 (M.1 84) 0 (nI j) (M.1 63 j) (M.1 64 j) (M.1 62 0 - M.1 65 j) (M.1 66 j)) 8 (nI o) (M.1 63 o) (M.1 64 o) (M.1 62 0 - M.1 65 o) (M.1 66 o)) 5 (nI f)) 6 (M.1 70 f)) 7 (nI u)) 13 1) (by decide) (by decide))
      refine tX12_hold_ (C := C) (st := st) (m := m) (L := L) hN.2.2.2.2.2.1 hN.2.2.2.2.2.2.1 (fun s => ?_)
      rw [rda, rdb (by decide), ← allR_cg (P := M.1 76) (fun r hr => ⟨rfl, fun _ => hW.2.2.2.2.2.2.1.k14 hr⟩) (fcR14 (b := M.1 84) (j := j) (f := f) (u := u) (o := o) (gt := 1)) m 0 (by omega)]
      have b01 := ite01 (allR (fcV M j f u o 1) C st (M.1 76) 1 m 0)
      refine M_zret dX12_meetsFrom_64 rfl (by first | assumption | exact Or.inl rfl | exact Or.inr rfl) ?_
      exact h _ _
theorem nt_ht {f g : Nat} {x : Int32} (eg : (if f = g then (0 : Int32) else 1) = 1) (h : x = 0) : ¬ (f = g ∨ x ≠ 0) := by
  rintro (q | q)
  · rw [if_pos q] at eg; exact absurd eg (by decide)
  · exact q h
theorem z_eg {f g : Nat} (eg : (if f = g then (0 : Int32) else 1) = 0) : f = g := by
  rcases Nat.decEq f g with q | q
  · rw [if_neg q] at eg; exact absurd eg (by decide)
  · exact q
set_option maxRecDepth 100000 in
set_option maxHeartbeats 1000000 in
theorem tM_meet {d : Nat} {M : Mem} {Φ : Option Int32 → Mem → Prop} {C st : Nat → Nat} {m L n : Nat} {x y z w v : Int32} (hW : IW M C st m L n) (h0 : ¬ (Ix x n ∧ Ix z n ∧ x ≠ z ∧ Ix y 6 ∧ Ix w 6 ∧ Ix v 4) → Φ (some 0) M) (h1 : ∀ j f o g u, j < n → o < n → f < 6 → g < 6 → u < 4 → j ≠ o → x = nI j → y = nI f → z = nI o → w = nI g → v = nI u → ∀ g2 s, Φ (some (if meetB M C st m j f o g u = true then 1 else 0)) (wa (wa M 84 g2) 83 s)) : JM noRo (d + 3) mX12_meet 0 [some (.ref 62), some (.int x), some (.int y), some (.int z), some (.int w), some (.int v)] [] M Φ := by
  have hn12 := hW.2.2.2.1.1
  refine J_aload_n dX12_meet_0 rfl ?_
  refine J_iload_n dX12_meet_1 rfl ?_
  refine M_callV1 (mc := mX12_isHorse) dX12_meet_2 kX12_142 oX12_isHorse (Nat.le_of_ble_eq_true rfl) (Nat.le_of_ble_eq_true rfl) rfl (by decide) rfl ?_
  refine tX12_isHorse hW.2.2.2.1.2.2 hW.2.2.2.1.1 (fun j hj e => ?_) (fun q1 => ?_)
  · -- true
    subst e
    refine J_if_eq (tgt := 47) dX12_meet_5 (by decide) (fun c2 => ?_) (fun c2 => ?_)
    · -- to 47
      exact absurd c2 (by decide)
    · -- on 8
      refine J_aload_n dX12_meet_8 rfl ?_
      refine J_iload_n dX12_meet_9 rfl ?_
      refine M_callV1 (mc := mX12_isHorse) dX12_meet_10 kX12_142 oX12_isHorse (Nat.le_of_ble_eq_true rfl) (Nat.le_of_ble_eq_true rfl) rfl (by decide) rfl ?_
      refine tX12_isHorse hW.2.2.2.1.2.2 hW.2.2.2.1.1 (fun o ho e => ?_) (fun q2 => ?_)
      · -- true
        subst e
        refine J_if_eq (tgt := 47) dX12_meet_13 (by decide) (fun c4 => ?_) (fun c4 => ?_)
        · -- to 47
          exact absurd c4 (by decide)
        · -- on 16
          refine J_iload_n dX12_meet_16 rfl ?_
          refine J_iload_n dX12_meet_17 rfl ?_
          refine J_icmp_eq (tgt := 47) dX12_meet_18 (by decide) (fun c5 => ?_) (fun c5 => ?_)
          · -- to 47
            refine J_iconst (v := 0) dX12_meet_47 (by decide) ?_
            refine M_zret dX12_meet_48 rfl (by first | assumption | exact Or.inl rfl | exact Or.inr rfl) ?_
            first
            | exact h0 (fun q => q1 q.1)
            | exact h0 (fun q => q2 q.2.1)
            | exact h0 (fun q => q3 q.2.2.2.1)
            | exact h0 (fun q => q4 q.2.2.2.2.1)
            | exact h0 (fun q => q.2.2.1 c5)
            | exact h0 (fun q => Ix_neg (by decide) c5 q.2.2.2.2.2)
            | exact h0 (fun q => Ix_big (n := 4) (by decide) (Int32.not_lt.mp c5) q.2.2.2.2.2)
            | (have k := h1 j f o g u hj ho hf hg hu hjo rfl rfl rfl rfl rfl
               rw [meetB_1 eg ht hb1] at k
               exact k _ _)
            | (have k := h1 j f o g u hj ho hf hg hu hjo rfl rfl rfl rfl rfl
               rw [meetB_2 eg ht hb1, hb2] at k
               exact k _ _)
            | (have k := h1 j f o g u hj ho hf hg hu hjo rfl rfl rfl rfl rfl (M.1 84) (M.1 83)
               rw [meetB_no (nt_ht eg c5), wa_self, wa_self] at k
               exact k)
          · -- on 21
            have hjo : j ≠ o := fun q => c5 (by rw [q])
            refine J_iload_n dX12_meet_21 rfl ?_
            refine M_callS1 (mc := mX12_isField) dX12_meet_22 kX12_146 oX12_isField (Nat.le_of_ble_eq_true rfl) (Nat.le_of_ble_eq_true rfl) ?_
            refine tX12_isField (fun f hf e => ?_) (fun q3 => ?_)
            · -- true
              subst e
              refine J_if_eq (tgt := 47) dX12_meet_25 (by decide) (fun c7 => ?_) (fun c7 => ?_)
              · -- to 47
                exact absurd c7 (by decide)
              · -- on 28
                refine J_iload dX12_meet_28 rfl ?_
                refine M_callS1 (mc := mX12_isField) dX12_meet_30 kX12_146 oX12_isField (Nat.le_of_ble_eq_true rfl) (Nat.le_of_ble_eq_true rfl) ?_
                refine tX12_isField (fun g hg e => ?_) (fun q4 => ?_)
                · -- true
                  subst e
                  refine J_if_eq (tgt := 47) dX12_meet_33 (by decide) (fun c9 => ?_) (fun c9 => ?_)
                  · -- to 47
                    exact absurd c9 (by decide)
                  · -- on 36
                    refine J_iload dX12_meet_36 rfl ?_
                    refine J_if_lt (tgt := 47) dX12_meet_38 (by decide) (fun c10 => ?_) (fun c10 => ?_)
                    · -- to 47
                      refine J_iconst (v := 0) dX12_meet_47 (by decide) ?_
                      refine M_zret dX12_meet_48 rfl (by first | assumption | exact Or.inl rfl | exact Or.inr rfl) ?_
                      first
                      | exact h0 (fun q => q1 q.1)
                      | exact h0 (fun q => q2 q.2.1)
                      | exact h0 (fun q => q3 q.2.2.2.1)
                      | exact h0 (fun q => q4 q.2.2.2.2.1)
                      | exact h0 (fun q => q.2.2.1 c10)
                      | exact h0 (fun q => Ix_neg (by decide) c10 q.2.2.2.2.2)
                      | exact h0 (fun q => Ix_big (n := 4) (by decide) (Int32.not_lt.mp c10) q.2.2.2.2.2)
                      | (have k := h1 j f o g u hj ho hf hg hu hjo rfl rfl rfl rfl rfl
                         rw [meetB_1 eg ht hb1] at k
                         exact k _ _)
                      | (have k := h1 j f o g u hj ho hf hg hu hjo rfl rfl rfl rfl rfl
                         rw [meetB_2 eg ht hb1, hb2] at k
                         exact k _ _)
                      | (have k := h1 j f o g u hj ho hf hg hu hjo rfl rfl rfl rfl rfl (M.1 84) (M.1 83)
                         rw [meetB_no (nt_ht eg c10), wa_self, wa_self] at k
                         exact k)
                    · -- on 41
                      have v0 := c10
                      refine J_iload dX12_meet_41 rfl ?_
                      refine J_iconst (v := 4) dX12_meet_43 (by decide) ?_
                      refine J_icmp_lt (tgt := 49) dX12_meet_44 (by decide) (fun c11 => ?_) (fun c11 => ?_)
                      · -- to 49
                        obtain ⟨u, hu, rfl⟩ := Ix_of (n := 4) (by decide) v0 (Int32.not_le.mpr c11)
                        refine J_iload_n dX12_meet_49 rfl ?_
                        refine J_iload dX12_meet_50 rfl ?_
                        refine J_icmp_eq (tgt := 59) dX12_meet_52 (by decide) (fun c12 => ?_) (fun c12 => ?_)
                        · -- to 59
                          have eg : (if f = g then (0 : Int32) else 1) = 0 := if_pos ((nI_eq (by omega) (by omega)).mp c12)
                          refine J_iconst (v := 0) dX12_meet_59 (by decide) ?_
                          refine J_istore dX12_meet_60 (by decide) rfl ?_
                          dsimp only [setL]
                          refine J_iload dX12_meet_62 rfl ?_
                          refine J_if_eq (tgt := 84) dX12_meet_64 (by decide) (fun c13 => ?_) (fun c13 => ?_)
                          · -- to 84
                            have ht : f = g ∨ M.1 72 (f * 6 + g) ≠ 0 := by first | exact Or.inl ((nI_eq (by omega) (by omega)).mp c13) | exact Or.inr c13 | exact Or.inl (z_eg eg)
                            refine J_aload_n dX12_meet_84 rfl ?_
                            refine J_iload_n dX12_meet_85 rfl ?_
                            refine J_iload_n dX12_meet_86 rfl ?_
                            refine J_iload_n dX12_meet_87 rfl ?_
                            refine J_iload dX12_meet_88 rfl ?_
                            refine J_iload dX12_meet_90 rfl ?_
                            refine M_callV5 (mc := mX12_meetsFrom) dX12_meet_92 kX12_299 oX12_meetsFrom (Nat.le_of_ble_eq_true rfl) (Nat.le_of_ble_eq_true rfl) rfl (by decide) rfl ?_
                            refine tX12_mf (C := C) (st := st) (m := m) (L := L) (by first | exact Or.inl rfl | exact Or.inr rfl) hW (by omega) (by omega) hf (fun g2 s => ?_)
                            rcases Bool.eq_false_or_eq_true (allR (fcV M j f u o _) C st (M.1 76) 1 m 0) with hb1 | hb1
                            · -- true
                              rw [if_pos hb1]
                              have hV : Vw M (wa (wa M 84 g2) 83 s) := (Vw.rf.ca (by decide) (by decide)).ca (by decide) (by decide)
                              refine J_if_eq (tgt := 117) dX12_meet_95 (by decide) (fun c15 => ?_) (fun c15 => ?_)
                              · -- to 117
                                exact absurd c15 (by decide)
                              · -- on 98
                                refine J_aload_n dX12_meet_98 rfl ?_
                                refine J_iload_n dX12_meet_99 rfl ?_
                                refine J_iload dX12_meet_100 rfl ?_
                                refine J_iload_n dX12_meet_102 rfl ?_
                                refine J_iload dX12_meet_103 rfl ?_
                                refine J_iload dX12_meet_105 rfl ?_
                                refine M_callV5 (mc := mX12_meetsFrom) dX12_meet_107 kX12_299 oX12_meetsFrom (Nat.le_of_ble_eq_true rfl) (Nat.le_of_ble_eq_true rfl) rfl (by decide) rfl ?_
                                refine tX12_mf (C := C) (st := st) (m := m) (L := L) (by first | exact Or.inl rfl | exact Or.inr rfl) (hW.vw hV) (by omega) (by omega) hg (fun g3 s3 => ?_)
                                rw [fcV_vw hV, hV.1 76 (by decide), wa4 (by decide)]
                                rcases Bool.eq_false_or_eq_true (allR (fcV M o g u j _) C st (M.1 76) 1 m 0) with hb2 | hb2
                                · -- true
                                  rw [if_pos hb2]
                                  refine J_if_eq (tgt := 117) dX12_meet_110 (by decide) (fun c17 => ?_) (fun c17 => ?_)
                                  · -- to 117
                                    exact absurd c17 (by decide)
                                  · -- on 113
                                    refine J_iconst (v := 1) dX12_meet_113 (by decide) ?_
                                    refine J_goto (tgt := 118) dX12_meet_114 (by decide) ?_
                                    refine M_zret dX12_meet_118 rfl (by first | assumption | exact Or.inl rfl | exact Or.inr rfl) ?_
                                    first
                                    | exact h0 (fun q => q1 q.1)
                                    | exact h0 (fun q => q2 q.2.1)
                                    | exact h0 (fun q => q3 q.2.2.2.1)
                                    | exact h0 (fun q => q4 q.2.2.2.2.1)
                                    | exact h0 (fun q => q.2.2.1 c17)
                                    | exact h0 (fun q => Ix_neg (by decide) c17 q.2.2.2.2.2)
                                    | exact h0 (fun q => Ix_big (n := 4) (by decide) (Int32.not_lt.mp c17) q.2.2.2.2.2)
                                    | (have k := h1 j f o g u hj ho hf hg hu hjo rfl rfl rfl rfl rfl
                                       rw [meetB_1 eg ht hb1] at k
                                       exact k _ _)
                                    | (have k := h1 j f o g u hj ho hf hg hu hjo rfl rfl rfl rfl rfl
                                       rw [meetB_2 eg ht hb1, hb2] at k
                                       exact k _ _)
                                    | (have k := h1 j f o g u hj ho hf hg hu hjo rfl rfl rfl rfl rfl (M.1 84) (M.1 83)
                                       rw [meetB_no (nt_ht eg c17), wa_self, wa_self] at k
                                       exact k)
                                · -- false
                                  rw [if_neg (by rw [hb2]; decide)]
                                  refine J_if_eq (tgt := 117) dX12_meet_110 (by decide) (fun c18 => ?_) (fun c18 => ?_)
                                  · -- to 117
                                    refine J_iconst (v := 0) dX12_meet_117 (by decide) ?_
                                    refine M_zret dX12_meet_118 rfl (by first | assumption | exact Or.inl rfl | exact Or.inr rfl) ?_
                                    first
                                    | exact h0 (fun q => q1 q.1)
                                    | exact h0 (fun q => q2 q.2.1)
                                    | exact h0 (fun q => q3 q.2.2.2.1)
                                    | exact h0 (fun q => q4 q.2.2.2.2.1)
                                    | exact h0 (fun q => q.2.2.1 c18)
                                    | exact h0 (fun q => Ix_neg (by decide) c18 q.2.2.2.2.2)
                                    | exact h0 (fun q => Ix_big (n := 4) (by decide) (Int32.not_lt.mp c18) q.2.2.2.2.2)
                                    | (have k := h1 j f o g u hj ho hf hg hu hjo rfl rfl rfl rfl rfl
                                       rw [meetB_1 eg ht hb1] at k
                                       exact k _ _)
                                    | (have k := h1 j f o g u hj ho hf hg hu hjo rfl rfl rfl rfl rfl
                                       rw [meetB_2 eg ht hb1, hb2] at k
                                       exact k _ _)
                                    | (have k := h1 j f o g u hj ho hf hg hu hjo rfl rfl rfl rfl rfl (M.1 84) (M.1 83)
                                       rw [meetB_no (nt_ht eg c18), wa_self, wa_self] at k
                                       exact k)
                                  · -- on 113
                                    exact absurd c18 (by decide)
                            · -- false
                              rw [if_neg (by rw [hb1]; decide)]
                              refine J_if_eq (tgt := 117) dX12_meet_95 (by decide) (fun c19 => ?_) (fun c19 => ?_)
                              · -- to 117
                                refine J_iconst (v := 0) dX12_meet_117 (by decide) ?_
                                refine M_zret dX12_meet_118 rfl (by first | assumption | exact Or.inl rfl | exact Or.inr rfl) ?_
                                first
                                | exact h0 (fun q => q1 q.1)
                                | exact h0 (fun q => q2 q.2.1)
                                | exact h0 (fun q => q3 q.2.2.2.1)
                                | exact h0 (fun q => q4 q.2.2.2.2.1)
                                | exact h0 (fun q => q.2.2.1 c19)
                                | exact h0 (fun q => Ix_neg (by decide) c19 q.2.2.2.2.2)
                                | exact h0 (fun q => Ix_big (n := 4) (by decide) (Int32.not_lt.mp c19) q.2.2.2.2.2)
                                | (have k := h1 j f o g u hj ho hf hg hu hjo rfl rfl rfl rfl rfl
                                   rw [meetB_1 eg ht hb1] at k
                                   exact k _ _)
                                | (have k := h1 j f o g u hj ho hf hg hu hjo rfl rfl rfl rfl rfl
                                   rw [meetB_2 eg ht hb1, hb2] at k
                                   exact k _ _)
                                | (have k := h1 j f o g u hj ho hf hg hu hjo rfl rfl rfl rfl rfl (M.1 84) (M.1 83)
                                   rw [meetB_no (nt_ht eg c19), wa_self, wa_self] at k
                                   exact k)
                              · -- on 98
                                exact absurd c19 (by decide)
                          · -- on 67
                            exact absurd c13 (by decide)
                        · -- on 55
                          have eg : (if f = g then (0 : Int32) else 1) = 1 := if_neg (fun q => c12 (by rw [q]))
                          refine J_iconst (v := 1) dX12_meet_55 (by decide) ?_
                          refine J_goto (tgt := 60) dX12_meet_56 (by decide) ?_
                          refine J_istore dX12_meet_60 (by decide) rfl ?_
                          dsimp only [setL]
                          refine J_iload dX12_meet_62 rfl ?_
                          refine J_if_eq (tgt := 84) dX12_meet_64 (by decide) (fun c20 => ?_) (fun c20 => ?_)
                          · -- to 84
                            exact absurd c20 (by decide)
                          · -- on 67
                            refine J_aload_n dX12_meet_67 rfl ?_
                            refine M_getR dX12_meet_68 fX12_37 rfl rfl (by decide) ?_
                            refine J_bipush (v := 6) dX12_meet_71 (by decide) ?_
                            refine J_iload_n dX12_meet_73 rfl ?_
                            refine J_imul dX12_meet_74 ?_
                            refine J_iload dX12_meet_75 rfl ?_
                            refine J_iadd dX12_meet_77 ?_
                            refine M_zaldE dX12_meet_78 rfl (by decide) (show (6 : Int32) * nI f + nI g = nI (f * 6 + g) by rw [show (6 : Int32) = nI 6 from rfl, pk_mul, nI_add, Nat.mul_comm]) (by omega) ?_
                            refine J_if_ne (tgt := 84) dX12_meet_79 (by decide) (fun c21 => ?_) (fun c21 => ?_)
                            · -- to 84
                              have ht : f = g ∨ M.1 72 (f * 6 + g) ≠ 0 := by first | exact Or.inl ((nI_eq (by omega) (by omega)).mp c21) | exact Or.inr c21 | exact Or.inl (z_eg eg)
                              refine J_aload_n dX12_meet_84 rfl ?_
                              refine J_iload_n dX12_meet_85 rfl ?_
                              refine J_iload_n dX12_meet_86 rfl ?_
                              refine J_iload_n dX12_meet_87 rfl ?_
                              refine J_iload dX12_meet_88 rfl ?_
                              refine J_iload dX12_meet_90 rfl ?_
                              refine M_callV5 (mc := mX12_meetsFrom) dX12_meet_92 kX12_299 oX12_meetsFrom (Nat.le_of_ble_eq_true rfl) (Nat.le_of_ble_eq_true rfl) rfl (by decide) rfl ?_
                              refine tX12_mf (C := C) (st := st) (m := m) (L := L) (by first | exact Or.inl rfl | exact Or.inr rfl) hW (by omega) (by omega) hf (fun g2 s => ?_)
                              rcases Bool.eq_false_or_eq_true (allR (fcV M j f u o _) C st (M.1 76) 1 m 0) with hb1 | hb1
                              · -- true
                                rw [if_pos hb1]
                                have hV : Vw M (wa (wa M 84 g2) 83 s) := (Vw.rf.ca (by decide) (by decide)).ca (by decide) (by decide)
                                refine J_if_eq (tgt := 117) dX12_meet_95 (by decide) (fun c23 => ?_) (fun c23 => ?_)
                                · -- to 117
                                  exact absurd c23 (by decide)
                                · -- on 98
                                  refine J_aload_n dX12_meet_98 rfl ?_
                                  refine J_iload_n dX12_meet_99 rfl ?_
                                  refine J_iload dX12_meet_100 rfl ?_
                                  refine J_iload_n dX12_meet_102 rfl ?_
                                  refine J_iload dX12_meet_103 rfl ?_
                                  refine J_iload dX12_meet_105 rfl ?_
                                  refine M_callV5 (mc := mX12_meetsFrom) dX12_meet_107 kX12_299 oX12_meetsFrom (Nat.le_of_ble_eq_true rfl) (Nat.le_of_ble_eq_true rfl) rfl (by decide) rfl ?_
                                  refine tX12_mf (C := C) (st := st) (m := m) (L := L) (by first | exact Or.inl rfl | exact Or.inr rfl) (hW.vw hV) (by omega) (by omega) hg (fun g3 s3 => ?_)
                                  rw [fcV_vw hV, hV.1 76 (by decide), wa4 (by decide)]
                                  rcases Bool.eq_false_or_eq_true (allR (fcV M o g u j _) C st (M.1 76) 1 m 0) with hb2 | hb2
                                  · -- true
                                    rw [if_pos hb2]
                                    refine J_if_eq (tgt := 117) dX12_meet_110 (by decide) (fun c25 => ?_) (fun c25 => ?_)
                                    · -- to 117
                                      exact absurd c25 (by decide)
                                    · -- on 113
                                      refine J_iconst (v := 1) dX12_meet_113 (by decide) ?_
                                      refine J_goto (tgt := 118) dX12_meet_114 (by decide) ?_
                                      refine M_zret dX12_meet_118 rfl (by first | assumption | exact Or.inl rfl | exact Or.inr rfl) ?_
                                      first
                                      | exact h0 (fun q => q1 q.1)
                                      | exact h0 (fun q => q2 q.2.1)
                                      | exact h0 (fun q => q3 q.2.2.2.1)
                                      | exact h0 (fun q => q4 q.2.2.2.2.1)
                                      | exact h0 (fun q => q.2.2.1 c25)
                                      | exact h0 (fun q => Ix_neg (by decide) c25 q.2.2.2.2.2)
                                      | exact h0 (fun q => Ix_big (n := 4) (by decide) (Int32.not_lt.mp c25) q.2.2.2.2.2)
                                      | (have k := h1 j f o g u hj ho hf hg hu hjo rfl rfl rfl rfl rfl
                                         rw [meetB_1 eg ht hb1] at k
                                         exact k _ _)
                                      | (have k := h1 j f o g u hj ho hf hg hu hjo rfl rfl rfl rfl rfl
                                         rw [meetB_2 eg ht hb1, hb2] at k
                                         exact k _ _)
                                      | (have k := h1 j f o g u hj ho hf hg hu hjo rfl rfl rfl rfl rfl (M.1 84) (M.1 83)
                                         rw [meetB_no (nt_ht eg c25), wa_self, wa_self] at k
                                         exact k)
                                  · -- false
                                    rw [if_neg (by rw [hb2]; decide)]
                                    refine J_if_eq (tgt := 117) dX12_meet_110 (by decide) (fun c26 => ?_) (fun c26 => ?_)
                                    · -- to 117
                                      refine J_iconst (v := 0) dX12_meet_117 (by decide) ?_
                                      refine M_zret dX12_meet_118 rfl (by first | assumption | exact Or.inl rfl | exact Or.inr rfl) ?_
                                      first
                                      | exact h0 (fun q => q1 q.1)
                                      | exact h0 (fun q => q2 q.2.1)
                                      | exact h0 (fun q => q3 q.2.2.2.1)
                                      | exact h0 (fun q => q4 q.2.2.2.2.1)
                                      | exact h0 (fun q => q.2.2.1 c26)
                                      | exact h0 (fun q => Ix_neg (by decide) c26 q.2.2.2.2.2)
                                      | exact h0 (fun q => Ix_big (n := 4) (by decide) (Int32.not_lt.mp c26) q.2.2.2.2.2)
                                      | (have k := h1 j f o g u hj ho hf hg hu hjo rfl rfl rfl rfl rfl
                                         rw [meetB_1 eg ht hb1] at k
                                         exact k _ _)
                                      | (have k := h1 j f o g u hj ho hf hg hu hjo rfl rfl rfl rfl rfl
                                         rw [meetB_2 eg ht hb1, hb2] at k
                                         exact k _ _)
                                      | (have k := h1 j f o g u hj ho hf hg hu hjo rfl rfl rfl rfl rfl (M.1 84) (M.1 83)
                                         rw [meetB_no (nt_ht eg c26), wa_self, wa_self] at k
                                         exact k)
                                    · -- on 113
                                      exact absurd c26 (by decide)
                              · -- false
                                rw [if_neg (by rw [hb1]; decide)]
                                refine J_if_eq (tgt := 117) dX12_meet_95 (by decide) (fun c27 => ?_) (fun c27 => ?_)
                                · -- to 117
                                  refine J_iconst (v := 0) dX12_meet_117 (by decide) ?_
                                  refine M_zret dX12_meet_118 rfl (by first | assumption | exact Or.inl rfl | exact Or.inr rfl) ?_
                                  first
                                  | exact h0 (fun q => q1 q.1)
                                  | exact h0 (fun q => q2 q.2.1)
                                  | exact h0 (fun q => q3 q.2.2.2.1)
                                  | exact h0 (fun q => q4 q.2.2.2.2.1)
                                  | exact h0 (fun q => q.2.2.1 c27)
                                  | exact h0 (fun q => Ix_neg (by decide) c27 q.2.2.2.2.2)
                                  | exact h0 (fun q => Ix_big (n := 4) (by decide) (Int32.not_lt.mp c27) q.2.2.2.2.2)
                                  | (have k := h1 j f o g u hj ho hf hg hu hjo rfl rfl rfl rfl rfl
                                     rw [meetB_1 eg ht hb1] at k
                                     exact k _ _)
                                  | (have k := h1 j f o g u hj ho hf hg hu hjo rfl rfl rfl rfl rfl
                                     rw [meetB_2 eg ht hb1, hb2] at k
                                     exact k _ _)
                                  | (have k := h1 j f o g u hj ho hf hg hu hjo rfl rfl rfl rfl rfl (M.1 84) (M.1 83)
                                     rw [meetB_no (nt_ht eg c27), wa_self, wa_self] at k
                                     exact k)
                                · -- on 98
                                  exact absurd c27 (by decide)
                            · -- on 82
                              refine J_iconst (v := 1) dX12_meet_82 (by decide) ?_
                              refine M_zret dX12_meet_83 rfl (by first | assumption | exact Or.inl rfl | exact Or.inr rfl) ?_
                              first
                              | exact h0 (fun q => q1 q.1)
                              | exact h0 (fun q => q2 q.2.1)
                              | exact h0 (fun q => q3 q.2.2.2.1)
                              | exact h0 (fun q => q4 q.2.2.2.2.1)
                              | exact h0 (fun q => q.2.2.1 c21)
                              | exact h0 (fun q => Ix_neg (by decide) c21 q.2.2.2.2.2)
                              | exact h0 (fun q => Ix_big (n := 4) (by decide) (Int32.not_lt.mp c21) q.2.2.2.2.2)
                              | (have k := h1 j f o g u hj ho hf hg hu hjo rfl rfl rfl rfl rfl
                                 rw [meetB_1 eg ht hb1] at k
                                 exact k _ _)
                              | (have k := h1 j f o g u hj ho hf hg hu hjo rfl rfl rfl rfl rfl
                                 rw [meetB_2 eg ht hb1, hb2] at k
                                 exact k _ _)
                              | (have k := h1 j f o g u hj ho hf hg hu hjo rfl rfl rfl rfl rfl (M.1 84) (M.1 83)
                                 rw [meetB_no (nt_ht eg c21), wa_self, wa_self] at k
                                 exact k)
                      · -- on 47
                        refine J_iconst (v := 0) dX12_meet_47 (by decide) ?_
                        refine M_zret dX12_meet_48 rfl (by first | assumption | exact Or.inl rfl | exact Or.inr rfl) ?_
                        first
                        | exact h0 (fun q => q1 q.1)
                        | exact h0 (fun q => q2 q.2.1)
                        | exact h0 (fun q => q3 q.2.2.2.1)
                        | exact h0 (fun q => q4 q.2.2.2.2.1)
                        | exact h0 (fun q => q.2.2.1 c11)
                        | exact h0 (fun q => Ix_neg (by decide) c11 q.2.2.2.2.2)
                        | exact h0 (fun q => Ix_big (n := 4) (by decide) (Int32.not_lt.mp c11) q.2.2.2.2.2)
                        | (have k := h1 j f o g u hj ho hf hg hu hjo rfl rfl rfl rfl rfl
                           rw [meetB_1 eg ht hb1] at k
                           exact k _ _)
                        | (have k := h1 j f o g u hj ho hf hg hu hjo rfl rfl rfl rfl rfl
                           rw [meetB_2 eg ht hb1, hb2] at k
                           exact k _ _)
                        | (have k := h1 j f o g u hj ho hf hg hu hjo rfl rfl rfl rfl rfl (M.1 84) (M.1 83)
                           rw [meetB_no (nt_ht eg c11), wa_self, wa_self] at k
                           exact k)
                · -- false
                  refine J_if_eq (tgt := 47) dX12_meet_33 (by decide) (fun c28 => ?_) (fun c28 => ?_)
                  · -- to 47
                    refine J_iconst (v := 0) dX12_meet_47 (by decide) ?_
                    refine M_zret dX12_meet_48 rfl (by first | assumption | exact Or.inl rfl | exact Or.inr rfl) ?_
                    first
                    | exact h0 (fun q => q1 q.1)
                    | exact h0 (fun q => q2 q.2.1)
                    | exact h0 (fun q => q3 q.2.2.2.1)
                    | exact h0 (fun q => q4 q.2.2.2.2.1)
                    | exact h0 (fun q => q.2.2.1 c28)
                    | exact h0 (fun q => Ix_neg (by decide) c28 q.2.2.2.2.2)
                    | exact h0 (fun q => Ix_big (n := 4) (by decide) (Int32.not_lt.mp c28) q.2.2.2.2.2)
                    | (have k := h1 j f o g u hj ho hf hg hu hjo rfl rfl rfl rfl rfl
                       rw [meetB_1 eg ht hb1] at k
                       exact k _ _)
                    | (have k := h1 j f o g u hj ho hf hg hu hjo rfl rfl rfl rfl rfl
                       rw [meetB_2 eg ht hb1, hb2] at k
                       exact k _ _)
                    | (have k := h1 j f o g u hj ho hf hg hu hjo rfl rfl rfl rfl rfl (M.1 84) (M.1 83)
                       rw [meetB_no (nt_ht eg c28), wa_self, wa_self] at k
                       exact k)
                  · -- on 36
                    exact absurd c28 (by decide)
            · -- false
              refine J_if_eq (tgt := 47) dX12_meet_25 (by decide) (fun c29 => ?_) (fun c29 => ?_)
              · -- to 47
                refine J_iconst (v := 0) dX12_meet_47 (by decide) ?_
                refine M_zret dX12_meet_48 rfl (by first | assumption | exact Or.inl rfl | exact Or.inr rfl) ?_
                first
                | exact h0 (fun q => q1 q.1)
                | exact h0 (fun q => q2 q.2.1)
                | exact h0 (fun q => q3 q.2.2.2.1)
                | exact h0 (fun q => q4 q.2.2.2.2.1)
                | exact h0 (fun q => q.2.2.1 c29)
                | exact h0 (fun q => Ix_neg (by decide) c29 q.2.2.2.2.2)
                | exact h0 (fun q => Ix_big (n := 4) (by decide) (Int32.not_lt.mp c29) q.2.2.2.2.2)
                | (have k := h1 j f o g u hj ho hf hg hu hjo rfl rfl rfl rfl rfl
                   rw [meetB_1 eg ht hb1] at k
                   exact k _ _)
                | (have k := h1 j f o g u hj ho hf hg hu hjo rfl rfl rfl rfl rfl
                   rw [meetB_2 eg ht hb1, hb2] at k
                   exact k _ _)
                | (have k := h1 j f o g u hj ho hf hg hu hjo rfl rfl rfl rfl rfl (M.1 84) (M.1 83)
                   rw [meetB_no (nt_ht eg c29), wa_self, wa_self] at k
                   exact k)
              · -- on 28
                exact absurd c29 (by decide)
      · -- false
        refine J_if_eq (tgt := 47) dX12_meet_13 (by decide) (fun c30 => ?_) (fun c30 => ?_)
        · -- to 47
          refine J_iconst (v := 0) dX12_meet_47 (by decide) ?_
          refine M_zret dX12_meet_48 rfl (by first | assumption | exact Or.inl rfl | exact Or.inr rfl) ?_
          first
          | exact h0 (fun q => q1 q.1)
          | exact h0 (fun q => q2 q.2.1)
          | exact h0 (fun q => q3 q.2.2.2.1)
          | exact h0 (fun q => q4 q.2.2.2.2.1)
          | exact h0 (fun q => q.2.2.1 c30)
          | exact h0 (fun q => Ix_neg (by decide) c30 q.2.2.2.2.2)
          | exact h0 (fun q => Ix_big (n := 4) (by decide) (Int32.not_lt.mp c30) q.2.2.2.2.2)
          | (have k := h1 j f o g u hj ho hf hg hu hjo rfl rfl rfl rfl rfl
             rw [meetB_1 eg ht hb1] at k
             exact k _ _)
          | (have k := h1 j f o g u hj ho hf hg hu hjo rfl rfl rfl rfl rfl
             rw [meetB_2 eg ht hb1, hb2] at k
             exact k _ _)
          | (have k := h1 j f o g u hj ho hf hg hu hjo rfl rfl rfl rfl rfl (M.1 84) (M.1 83)
             rw [meetB_no (nt_ht eg c30), wa_self, wa_self] at k
             exact k)
        · -- on 16
          exact absurd c30 (by decide)
  · -- false
    refine J_if_eq (tgt := 47) dX12_meet_5 (by decide) (fun c31 => ?_) (fun c31 => ?_)
    · -- to 47
      refine J_iconst (v := 0) dX12_meet_47 (by decide) ?_
      refine M_zret dX12_meet_48 rfl (by first | assumption | exact Or.inl rfl | exact Or.inr rfl) ?_
      first
      | exact h0 (fun q => q1 q.1)
      | exact h0 (fun q => q2 q.2.1)
      | exact h0 (fun q => q3 q.2.2.2.1)
      | exact h0 (fun q => q4 q.2.2.2.2.1)
      | exact h0 (fun q => q.2.2.1 c31)
      | exact h0 (fun q => Ix_neg (by decide) c31 q.2.2.2.2.2)
      | exact h0 (fun q => Ix_big (n := 4) (by decide) (Int32.not_lt.mp c31) q.2.2.2.2.2)
      | (have k := h1 j f o g u hj ho hf hg hu hjo rfl rfl rfl rfl rfl
         rw [meetB_1 eg ht hb1] at k
         exact k _ _)
      | (have k := h1 j f o g u hj ho hf hg hu hjo rfl rfl rfl rfl rfl
         rw [meetB_2 eg ht hb1, hb2] at k
         exact k _ _)
      | (have k := h1 j f o g u hj ho hf hg hu hjo rfl rfl rfl rfl rfl (M.1 84) (M.1 83)
         rw [meetB_no (nt_ht eg c31), wa_self, wa_self] at k
         exact k)
    · -- on 8
      exact absurd c31 (by decide)
set_option maxRecDepth 100000 in
set_option maxHeartbeats 1000000 in
theorem tY_meet {d : Nat} {M : Mem} {Φ : Option Int32 → Mem → Prop} {C st : Nat → Nat} {m L n : Nat} {x y z w v : Int32} (hW : IW M C st m L n) (h0 : ¬ (Ix x n ∧ Ix z n ∧ x ≠ z ∧ Ix y 6 ∧ Ix w 6 ∧ Ix v 4) → Φ (some 0) M) (h1 : ∀ j f o g u, j < n → o < n → f < 6 → g < 6 → u < 4 → j ≠ o → x = nI j → y = nI f → z = nI o → w = nI g → v = nI u → ∀ g2 s, Φ (some (if meetB M C st m j f o g u = true then 1 else 0)) (wa (wa M 28 g2) 24 s)) : JM noRo (d + 3) mX11_meet 0 [some (.ref 0), some (.int x), some (.int y), some (.int z), some (.int w), some (.int v)] [] M Φ := by
  have hn12 := hW.2.2.2.1.1
  refine J_aload_n dX11_meet_0 rfl ?_
  refine M_getR dX11_meet_1 fX11_12 rfl rfl (by decide) ?_
  refine J_iload_n dX11_meet_4 rfl ?_
  refine M_callV1 (mc := mX1_has) dX11_meet_5 kX11_116 oX1_has (Nat.le_of_ble_eq_true rfl) (Nat.le_of_ble_eq_true rfl) rfl (by decide) rfl ?_
  refine tX1_has hW.2.2.2.1.2.1 hW.2.2.2.1.1 (fun j hj e => ?_) (fun q1 => ?_)
  · -- true
    subst e
    refine J_if_eq (tgt := 27) dX11_meet_8 (by decide) (fun c2 => ?_) (fun c2 => ?_)
    · -- to 27
      exact absurd c2 (by decide)
    · -- on 11
      refine J_aload_n dX11_meet_11 rfl ?_
      refine M_getR dX11_meet_12 fX11_12 rfl rfl (by decide) ?_
      refine J_iload_n dX11_meet_15 rfl ?_
      refine M_callV1 (mc := mX1_has) dX11_meet_16 kX11_116 oX1_has (Nat.le_of_ble_eq_true rfl) (Nat.le_of_ble_eq_true rfl) rfl (by decide) rfl ?_
      refine tX1_has hW.2.2.2.1.2.1 hW.2.2.2.1.1 (fun o ho e => ?_) (fun q2 => ?_)
      · -- true
        subst e
        refine J_if_eq (tgt := 27) dX11_meet_19 (by decide) (fun c4 => ?_) (fun c4 => ?_)
        · -- to 27
          exact absurd c4 (by decide)
        · -- on 22
          refine J_iload_n dX11_meet_22 rfl ?_
          refine J_iload_n dX11_meet_23 rfl ?_
          refine J_icmp_ne (tgt := 29) dX11_meet_24 (by decide) (fun c5 => ?_) (fun c5 => ?_)
          · -- to 29
            have hjo : j ≠ o := fun q => c5 (by rw [q])
            refine J_iload_n dX11_meet_29 rfl ?_
            refine M_callS1 (mc := mX11_isField) dX11_meet_30 kX11_124 oX11_isField (Nat.le_of_ble_eq_true rfl) (Nat.le_of_ble_eq_true rfl) ?_
            refine tX11_isField (fun f hf e => ?_) (fun q3 => ?_)
            · -- true
              subst e
              refine J_if_eq (tgt := 52) dX11_meet_33 (by decide) (fun c7 => ?_) (fun c7 => ?_)
              · -- to 52
                exact absurd c7 (by decide)
              · -- on 36
                refine J_iload dX11_meet_36 rfl ?_
                refine M_callS1 (mc := mX11_isField) dX11_meet_38 kX11_124 oX11_isField (Nat.le_of_ble_eq_true rfl) (Nat.le_of_ble_eq_true rfl) ?_
                refine tX11_isField (fun g hg e => ?_) (fun q4 => ?_)
                · -- true
                  subst e
                  refine J_if_eq (tgt := 52) dX11_meet_41 (by decide) (fun c9 => ?_) (fun c9 => ?_)
                  · -- to 52
                    exact absurd c9 (by decide)
                  · -- on 44
                    refine J_iload dX11_meet_44 rfl ?_
                    refine M_callS1 (mc := mX11_isHour) dX11_meet_46 kX11_167 oX11_isHour (Nat.le_of_ble_eq_true rfl) (Nat.le_of_ble_eq_true rfl) ?_
                    refine tX11_isHour (fun u hu e => ?_) (fun q5 => ?_)
                    · -- true
                      subst e
                      refine J_if_ne (tgt := 54) dX11_meet_49 (by decide) (fun c11 => ?_) (fun c11 => ?_)
                      · -- to 54
                        refine J_aload_n dX11_meet_54 rfl ?_
                        refine M_getR dX11_meet_55 fX11_59 rfl rfl (by decide) ?_
                        refine J_iload_n dX11_meet_58 rfl ?_
                        refine J_iload_n dX11_meet_59 rfl ?_
                        refine J_iload_n dX11_meet_60 rfl ?_
                        refine J_iload dX11_meet_61 rfl ?_
                        refine J_iload dX11_meet_63 rfl ?_
                        refine J_aload_n dX11_meet_65 rfl ?_
                        refine M_getI dX11_meet_66 fX11_97 rfl rfl (by decide) ?_
                        refine M_callV6 (mc := mX2_mayMeet) dX11_meet_69 kX11_174 oX2_mayMeet (Nat.le_of_ble_eq_true rfl) (Nat.le_of_ble_eq_true rfl) rfl (by decide) rfl ?_
                        rw [hW.2.1]
                        refine tX2_mayMeet0 hW (by omega) (by omega) hf hg (fun g2 s => ?_)
                        have b01 := ite01 (meetB M C st m j f o g u)
                        refine M_zret dX11_meet_72 rfl (by first | assumption | exact Or.inl rfl | exact Or.inr rfl) ?_
                        first
                        | exact h0 (fun q => q1 q.1)
                        | exact h0 (fun q => q2 q.2.1)
                        | exact h0 (fun q => q3 q.2.2.2.1)
                        | exact h0 (fun q => q4 q.2.2.2.2.1)
                        | exact h0 (fun q => q5 q.2.2.2.2.2)
                        | exact h0 (fun q => q.2.2.1 c11)
                        | exact h1 j f o g u hj ho hf hg hu hjo rfl rfl rfl rfl rfl _ _
                      · -- on 52
                        exact absurd c11 (by decide)
                    · -- false
                      refine J_if_ne (tgt := 54) dX11_meet_49 (by decide) (fun c13 => ?_) (fun c13 => ?_)
                      · -- to 54
                        exact absurd c13 (by decide)
                      · -- on 52
                        refine J_iconst (v := 0) dX11_meet_52 (by decide) ?_
                        refine M_zret dX11_meet_53 rfl (by first | assumption | exact Or.inl rfl | exact Or.inr rfl) ?_
                        first
                        | exact h0 (fun q => q1 q.1)
                        | exact h0 (fun q => q2 q.2.1)
                        | exact h0 (fun q => q3 q.2.2.2.1)
                        | exact h0 (fun q => q4 q.2.2.2.2.1)
                        | exact h0 (fun q => q5 q.2.2.2.2.2)
                        | exact h0 (fun q => q.2.2.1 c13)
                        | exact h1 j f o g u hj ho hf hg hu hjo rfl rfl rfl rfl rfl _ _
                · -- false
                  refine J_if_eq (tgt := 52) dX11_meet_41 (by decide) (fun c14 => ?_) (fun c14 => ?_)
                  · -- to 52
                    refine J_iconst (v := 0) dX11_meet_52 (by decide) ?_
                    refine M_zret dX11_meet_53 rfl (by first | assumption | exact Or.inl rfl | exact Or.inr rfl) ?_
                    first
                    | exact h0 (fun q => q1 q.1)
                    | exact h0 (fun q => q2 q.2.1)
                    | exact h0 (fun q => q3 q.2.2.2.1)
                    | exact h0 (fun q => q4 q.2.2.2.2.1)
                    | exact h0 (fun q => q5 q.2.2.2.2.2)
                    | exact h0 (fun q => q.2.2.1 c14)
                    | exact h1 j f o g u hj ho hf hg hu hjo rfl rfl rfl rfl rfl _ _
                  · -- on 44
                    exact absurd c14 (by decide)
            · -- false
              refine J_if_eq (tgt := 52) dX11_meet_33 (by decide) (fun c15 => ?_) (fun c15 => ?_)
              · -- to 52
                refine J_iconst (v := 0) dX11_meet_52 (by decide) ?_
                refine M_zret dX11_meet_53 rfl (by first | assumption | exact Or.inl rfl | exact Or.inr rfl) ?_
                first
                | exact h0 (fun q => q1 q.1)
                | exact h0 (fun q => q2 q.2.1)
                | exact h0 (fun q => q3 q.2.2.2.1)
                | exact h0 (fun q => q4 q.2.2.2.2.1)
                | exact h0 (fun q => q5 q.2.2.2.2.2)
                | exact h0 (fun q => q.2.2.1 c15)
                | exact h1 j f o g u hj ho hf hg hu hjo rfl rfl rfl rfl rfl _ _
              · -- on 36
                exact absurd c15 (by decide)
          · -- on 27
            refine J_iconst (v := 0) dX11_meet_27 (by decide) ?_
            refine M_zret dX11_meet_28 rfl (by first | assumption | exact Or.inl rfl | exact Or.inr rfl) ?_
            first
            | exact h0 (fun q => q1 q.1)
            | exact h0 (fun q => q2 q.2.1)
            | exact h0 (fun q => q3 q.2.2.2.1)
            | exact h0 (fun q => q4 q.2.2.2.2.1)
            | exact h0 (fun q => q5 q.2.2.2.2.2)
            | exact h0 (fun q => q.2.2.1 c5)
            | exact h1 j f o g u hj ho hf hg hu hjo rfl rfl rfl rfl rfl _ _
      · -- false
        refine J_if_eq (tgt := 27) dX11_meet_19 (by decide) (fun c16 => ?_) (fun c16 => ?_)
        · -- to 27
          refine J_iconst (v := 0) dX11_meet_27 (by decide) ?_
          refine M_zret dX11_meet_28 rfl (by first | assumption | exact Or.inl rfl | exact Or.inr rfl) ?_
          first
          | exact h0 (fun q => q1 q.1)
          | exact h0 (fun q => q2 q.2.1)
          | exact h0 (fun q => q3 q.2.2.2.1)
          | exact h0 (fun q => q4 q.2.2.2.2.1)
          | exact h0 (fun q => q5 q.2.2.2.2.2)
          | exact h0 (fun q => q.2.2.1 c16)
          | exact h1 j f o g u hj ho hf hg hu hjo rfl rfl rfl rfl rfl _ _
        · -- on 22
          exact absurd c16 (by decide)
  · -- false
    refine J_if_eq (tgt := 27) dX11_meet_8 (by decide) (fun c17 => ?_) (fun c17 => ?_)
    · -- to 27
      refine J_iconst (v := 0) dX11_meet_27 (by decide) ?_
      refine M_zret dX11_meet_28 rfl (by first | assumption | exact Or.inl rfl | exact Or.inr rfl) ?_
      first
      | exact h0 (fun q => q1 q.1)
      | exact h0 (fun q => q2 q.2.1)
      | exact h0 (fun q => q3 q.2.2.2.1)
      | exact h0 (fun q => q4 q.2.2.2.2.1)
      | exact h0 (fun q => q5 q.2.2.2.2.2)
      | exact h0 (fun q => q.2.2.1 c17)
      | exact h1 j f o g u hj ho hf hg hu hjo rfl rfl rfl rfl rfl _ _
    · -- on 11
      exact absurd c17 (by decide)

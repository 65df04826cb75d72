set_option maxRecDepth 100000 in
set_option maxHeartbeats 1000000 in
theorem tX9_kind {d : Nat} {M : Mem} {Φ : Option Int32 → Mem → Prop}  (h : Φ (some (M.1 26 3)) M) : JM noRo d mX9_kind 0 [some (.ref 26)] [] M Φ := by
  refine J_aload_n dX9_kind_0 rfl ?_
  refine M_getI dX9_kind_1 fX9_19 rfl rfl (by decide) ?_
  refine M_iret dX9_kind_4 rfl rfl ?_
  exact h
set_option maxRecDepth 100000 in
set_option maxHeartbeats 1000000 in
theorem tX9_start {d : Nat} {M : Mem} {Φ : Option Int32 → Mem → Prop}  (h : Φ (some (M.1 26 2)) M) : JM noRo d mX9_start 0 [some (.ref 26)] [] M Φ := by
  refine J_aload_n dX9_start_0 rfl ?_
  refine M_getI dX9_start_1 fX9_15 rfl rfl (by decide) ?_
  refine M_iret dX9_start_4 rfl rfl ?_
  exact h
set_option maxRecDepth 100000 in
set_option maxHeartbeats 1000000 in
theorem tX9_value {d : Nat} {M : Mem} {Φ : Option Int32 → Mem → Prop}  (h : Φ (some (M.1 26 4)) M) : JM noRo d mX9_value 0 [some (.ref 26)] [] M Φ := by
  refine J_aload_n dX9_value_0 rfl ?_
  refine M_getI dX9_value_1 fX9_22 rfl rfl (by decide) ?_
  refine M_iret dX9_value_4 rfl rfl ?_
  exact h
def PL4 : List Nat := [15, 16, 25, 26]
/-- the class's parser at work: token, codes, operands -/
def PC (M N : Mem) (n : Nat) (x : PSt) : Prop := (∀ a, a ∉ PL4 → N.1 a = M.1 a) ∧ TkC (N.1 26) x.1 ∧ TW n x.1 ∧ (N.1 15 4 = nI x.2.1.length ∧ N.1 15 5 = M.1 15 5) ∧ (∀ (i : Nat) (c : Nat), x.2.1[i]? = some c → N.1 16 i = nI c) ∧ N.1 25 2 = nI x.2.2 ∧ x.2.2 ≤ 120 ∧ N.1 25 3 = M.1 25 3 ∧ N.1 25 4 = M.1 25 4 ∧ N.1 25 5 = M.1 25 5 ∧ 3 * x.2.1.length ≤ 6 * x.2.2 + x.1.2.2.1
def PF (M N : Mem) (f : Nat × Nat) : Prop := (∀ a, a ∉ PL4 → N.1 a = M.1 a) ∧ N.1 25 4 = nI f.1 ∧ N.1 25 5 = nI f.2
theorem PL4_ne {a : Nat} (h : a ∉ PL4) : a ≠ 15 ∧ a ≠ 16 ∧ a ≠ 25 ∧ a ≠ 26 := by
  simp only [PL4, List.mem_cons, not_or, List.not_mem_nil, not_false_eq_true, and_true] at h
  omega
theorem PC.ad {M N : Mem} {n : Nat} {x : PSt} {T : Nat → Nat} {g : Nat → Int32} (hT : ∀ i, T i < 256) (h : PC M N n x) (hK : x.1.1 ≠ 0) (hg : TkC g (lexT T n x.1.2.2.2)) : PC M (wa N 26 g) n (advP T n x) := by
  obtain ⟨p1, p2, p3, p4, p5, p6, p7, p8, p9, p10, p11⟩ := h
  have z := adv_W hT p3 hK
  refine ⟨fun a ha => ?_, ?_, z.1, ?_, ?_, ?_, p7, ?_, ?_, ?_, ?_⟩
  · rw [rdb (PL4_ne ha).2.2.2]; exact p1 a ha
  · rw [rda]; exact hg
  · rw [rdb (by decide)]; exact p4
  · rw [rdb (by decide)]; exact p5
  · rw [rdb (by decide)]; exact p6
  · rw [rdb (by decide)]; exact p8
  · rw [rdb (by decide)]; exact p9
  · rw [rdb (by decide)]; exact p10
  · have := z.2
    show 3 * x.2.1.length ≤ 6 * x.2.2 + (advP T n x).1.2.2.1
    omega
theorem PC.em {M N : Mem} {n c : Nat} {x : PSt} (h : PC M N n x) (hb : 3 * (x.2.1.length + 1) ≤ 6 * x.2.2 + x.1.2.2.1) : PC M (wr (wr N 16 x.2.1.length (nI c)) 15 4 (nI (x.2.1.length + 1))) n (emt x c) := by
  obtain ⟨p1, p2, p3, p4, p5, p6, p7, p8, p9, p10, p11⟩ := h
  refine ⟨fun a ha => ?_, ?_, p3, ?_, fun i q hi => ?_, ?_, p7, ?_, ?_, ?_, ?_⟩
  · rw [rd2 (PL4_ne ha).1, rd2 (PL4_ne ha).2.1]; exact p1 a ha
  · rw [rd2 (by decide), rd2 (by decide)]; exact p2
  · refine ⟨by rw [rd1]; simp [emt], ?_⟩
    rw [rd3 (by decide), rd2 (by decide)]; exact p4.2
  · rw [rd2 (by decide)]
    by_cases e : i = x.2.1.length
    · subst e
      simp [emt] at hi
      rw [rd1, hi]
    · rw [rd3 e]
      have hl : i < (x.2.1 ++ [c]).length := (List.getElem?_eq_some_iff.mp hi).1
      rw [List.length_append, List.length_singleton] at hl
      refine p5 i q ?_
      rw [← List.getElem?_append_left (l₂ := [c]) (by omega)]
      exact hi
  · rw [rd2 (by decide), rd2 (by decide)]; exact p6
  · rw [rd2 (by decide), rd2 (by decide)]; exact p8
  · rw [rd2 (by decide), rd2 (by decide)]; exact p9
  · rw [rd2 (by decide), rd2 (by decide)]; exact p10
  · rw [emt_l]; exact hb
theorem PC.lt {M N : Mem} {n : Nat} {x : PSt} (h : PC M N n x) (hn : n ≤ 1000) : x.2.1.length < 1000 := by
  obtain ⟨p1, p2, p3, p4, p5, p6, p7, p8, p9, p10, p11⟩ := h
  have := p3.1
  omega
set_option maxRecDepth 100000 in
set_option maxHeartbeats 1000000 in
theorem tX5_refuse {d : Nat} {M : Mem} {Φ : Option Int32 → Mem → Prop} {M0 : Mem} {n f : Nat} {x : PSt} (hc : PC M0 M n x) (h : ∀ N, PF M0 N (if x.1.1 = 1 then 1 else f, x.1.2.2.1) → Φ (some 0) N) : JM noRo (d + 1) mX5_refuse 0 [some (.ref 25), some (.int (nI f))] [] M Φ := by
  refine J_aload_n dX5_refuse_0 rfl ?_
  refine J_aload_n dX5_refuse_1 rfl ?_
  refine M_getR dX5_refuse_2 fX5_9 rfl rfl (by decide) ?_
  refine M_callV0 (mc := mX9_kind) dX5_refuse_5 kX5_39 oX9_kind (Nat.le_of_ble_eq_true rfl) (Nat.le_of_ble_eq_true rfl) rfl (by decide) rfl ?_
  refine tX9_kind ?_
  rw [hc.2.1.2.1]
  refine J_iconst (v := 1) dX5_refuse_8 (by decide) ?_
  refine J_icmp_ne (tgt := 16) dX5_refuse_9 (by decide) (fun c2 => ?_) (fun c2 => ?_)
  · -- to 16
    refine J_iload_n dX5_refuse_16 rfl ?_
    refine M_putI dX5_refuse_17 pX5_23 rfl rfl (by decide) ?_
    refine J_aload_n dX5_refuse_20 rfl ?_
    refine J_aload_n dX5_refuse_21 rfl ?_
    refine M_getR dX5_refuse_22 fX5_9 rfl rfl (by decide) ?_
    refine M_callV0 (mc := mX9_start) dX5_refuse_25 kX5_87 oX9_start (Nat.le_of_ble_eq_true rfl) (Nat.le_of_ble_eq_true rfl) rfl (by decide) rfl ?_
    refine tX9_start ?_
    rw [rd2 (by decide), hc.2.1.1]
    refine M_putI dX5_refuse_28 pX5_19 rfl rfl (by decide) ?_
    refine J_iconst (v := 0) dX5_refuse_31 (by decide) ?_
    refine M_zret dX5_refuse_32 rfl (by first | assumption | exact Or.inl rfl | exact Or.inr rfl) ?_
    refine h _ ⟨fun a ha => ?_, ?_, rd1⟩
    · rw [rd2 (PL4_ne ha).2.2.1, rd2 (PL4_ne ha).2.2.1]; exact hc.1 a ha
    · rw [rd3 (by decide), rd1]
      show _ = nI (if x.1.1 = 1 then 1 else f)
      first
      | (rw [if_pos ((nI_eq (a := x.1.1) (b := 1) (by have := hc.2.2.1.2.2.2.2.2.2.1; omega) (by decide)).mp c2)]; rfl)
      | (rw [if_neg (fun q => c2 (by rw [q]; rfl))])
  · -- on 12
    refine J_iconst (v := 1) dX5_refuse_12 (by decide) ?_
    refine J_goto (tgt := 17) dX5_refuse_13 (by decide) ?_
    refine M_putI dX5_refuse_17 pX5_23 rfl rfl (by decide) ?_
    refine J_aload_n dX5_refuse_20 rfl ?_
    refine J_aload_n dX5_refuse_21 rfl ?_
    refine M_getR dX5_refuse_22 fX5_9 rfl rfl (by decide) ?_
    refine M_callV0 (mc := mX9_start) dX5_refuse_25 kX5_87 oX9_start (Nat.le_of_ble_eq_true rfl) (Nat.le_of_ble_eq_true rfl) rfl (by decide) rfl ?_
    refine tX9_start ?_
    rw [rd2 (by decide), hc.2.1.1]
    refine M_putI dX5_refuse_28 pX5_19 rfl rfl (by decide) ?_
    refine J_iconst (v := 0) dX5_refuse_31 (by decide) ?_
    refine M_zret dX5_refuse_32 rfl (by first | assumption | exact Or.inl rfl | exact Or.inr rfl) ?_
    refine h _ ⟨fun a ha => ?_, ?_, rd1⟩
    · rw [rd2 (PL4_ne ha).2.2.1, rd2 (PL4_ne ha).2.2.1]; exact hc.1 a ha
    · rw [rd3 (by decide), rd1]
      show _ = nI (if x.1.1 = 1 then 1 else f)
      first
      | (rw [if_pos ((nI_eq (a := x.1.1) (b := 1) (by have := hc.2.2.1.2.2.2.2.2.2.1; omega) (by decide)).mp c2)]; rfl)
      | (rw [if_neg (fun q => c2 (by rw [q]; rfl))])
theorem PC.op {M N : Mem} {n : Nat} {x : PSt} (h : PC M N n x) (hl : x.2.2 < 120) : PC M (wr N 25 2 (nI (x.2.2 + 1))) n (x.1, x.2.1, x.2.2 + 1) := by
  obtain ⟨p1, p2, p3, p4, p5, p6, p7, p8, p9, p10, p11⟩ := h
  refine ⟨fun a ha => ?_, ?_, p3, ?_, ?_, rd1, hl, ?_, ?_, ?_, by show 3 * x.2.1.length ≤ 6 * (x.2.2 + 1) + x.1.2.2.1; omega⟩
  · rw [rd2 (PL4_ne ha).2.2.1]; exact p1 a ha
  · rw [rd2 (by decide)]; exact p2
  · rw [rd2 (by decide)]; exact p4
  · rw [rd2 (by decide)]; exact p5
  · rw [rd3 (by decide)]; exact p8
  · rw [rd3 (by decide)]; exact p9
  · rw [rd3 (by decide)]; exact p10
set_option maxRecDepth 100000 in
set_option maxHeartbeats 1000000 in
theorem tX5_take {d : Nat} {M : Mem} {Φ : Option Int32 → Mem → Prop} {M0 : Mem} {n lim : Nat} {x : PSt} (hnb : n ≤ 1000) (hc : PC M0 M n x) (hK23 : x.1.1 = 2 ∨ x.1.1 = 3) (hlim : (M0.1 25 3 = 0 ∧ lim = 8) ∨ (¬ M0.1 25 3 = 0 ∧ lim = 14)) (h1 : (opd lim x).1 = none → ∀ N, PC M0 N n (opd lim x).2 → Φ (some 1) N) (h0 : ∀ f, (opd lim x).1 = some f → ∀ N, PF M0 N f → Φ (some 0) N) : JM noRo (d + 2) mX5_takeOperand 0 [some (.ref 25)] [] M Φ := by
  have h11 := hc.2.2.2.2.2.2.2.2.2.2
  unfold opd at h1 h0
  by_cases h120 : 120 ≤ x.2.2
  · rw [if_pos h120] at h1 h0
    refine J_aload_n dX5_takeOperand_0 rfl ?_
    refine M_getI dX5_takeOperand_1 fX5_26 rfl rfl (by decide) ?_
    rw [hc.2.2.2.2.2.1]
    refine J_bipush (v := 120) dX5_takeOperand_4 (by decide) ?_
    refine J_icmp_lt (tgt := 15) dX5_takeOperand_6 (by decide) (fun c1 => ?_) (fun c1 => ?_)
    · -- to 15
      exact absurd c1 (nI_nlt (b := 120) h120 (by have := hc.2.2.2.2.2.2.1; omega))
    · -- on 9
      refine J_aload_n dX5_takeOperand_9 rfl ?_
      refine J_iconst (v := 2) dX5_takeOperand_10 (by decide) ?_
      refine M_callV1 (mc := mX5_refuse) dX5_takeOperand_11 kX5_43 oX5_refuse (Nat.le_of_ble_eq_true rfl) (Nat.le_of_ble_eq_true rfl) rfl (by decide) rfl ?_
      refine tX5_refuse hc (fun N hN => ?_)
      refine M_zret dX5_takeOperand_14 rfl (by first | assumption | exact Or.inl rfl | exact Or.inr rfl) ?_
      exact h0 _ rfl N hN
  · rw [if_neg h120] at h1 h0
    have h120 : x.2.2 < 120 := by omega
    by_cases hK : x.1.1 = 2
    · rw [if_pos hK] at h1 h0
      refine J_aload_n dX5_takeOperand_0 rfl ?_
      refine M_getI dX5_takeOperand_1 fX5_26 rfl rfl (by decide) ?_
      rw [hc.2.2.2.2.2.1]
      refine J_bipush (v := 120) dX5_takeOperand_4 (by decide) ?_
      refine J_icmp_lt (tgt := 15) dX5_takeOperand_6 (by decide) (fun c1 => ?_) (fun c1 => ?_)
      · -- to 15
        refine J_aload_n dX5_takeOperand_15 rfl ?_
        refine J_dup dX5_takeOperand_16 rfl ?_
        refine M_getI dX5_takeOperand_17 fX5_26 rfl rfl (by decide) ?_
        rw [hc.2.2.2.2.2.1]
        refine J_iconst (v := 1) dX5_takeOperand_20 (by decide) ?_
        refine J_iadd dX5_takeOperand_21 ?_
        rw [nI_1]
        refine M_putI dX5_takeOperand_22 pX5_26 rfl rfl (by decide) ?_
        refine J_aload_n dX5_takeOperand_25 rfl ?_
        refine M_getR dX5_takeOperand_26 fX5_9 rfl rfl (by decide) ?_
        refine M_callV0 (mc := mX9_value) dX5_takeOperand_29 kX5_84 oX9_value (Nat.le_of_ble_eq_true rfl) (Nat.le_of_ble_eq_true rfl) rfl (by decide) rfl ?_
        refine tX9_value ?_
        rw [rd2 (by decide)]
        rw [hc.2.1.2.2.2.1 hK]
        refine J_istore_n dX5_takeOperand_32 (by decide) rfl ?_
        dsimp only [setL]
        refine J_aload_n dX5_takeOperand_33 rfl ?_
        refine M_getR dX5_takeOperand_34 fX5_9 rfl rfl (by decide) ?_
        refine M_callV0 (mc := mX9_kind) dX5_takeOperand_37 kX5_39 oX9_kind (Nat.le_of_ble_eq_true rfl) (Nat.le_of_ble_eq_true rfl) rfl (by decide) rfl ?_
        refine tX9_kind ?_
        rw [rd2 (by decide), hc.2.1.2.1]
        rw [hK]
        refine J_iconst (v := 2) dX5_takeOperand_40 (by decide) ?_
        refine J_icmp_ne (tgt := 57) dX5_takeOperand_41 (by decide) (fun c4 => ?_) (fun c4 => ?_)
        · -- to 57
          exact absurd c4 (by decide)
        · -- on 44
          refine J_aload_n dX5_takeOperand_44 rfl ?_
          refine M_getR dX5_takeOperand_45 fX5_15 rfl rfl (by decide) ?_
          refine J_bipush (v := 100) dX5_takeOperand_48 (by decide) ?_
          refine J_iload_n dX5_takeOperand_50 rfl ?_
          refine J_iadd dX5_takeOperand_51 ?_
          rw [show (100 : Int32) = nI 100 from rfl, nI_add]
          refine M_callV1 (mc := mX7_emit) dX5_takeOperand_52 kX5_64 oX7_emit (Nat.le_of_ble_eq_true rfl) (Nat.le_of_ble_eq_true rfl) rfl (by decide) rfl ?_
          refine tX7_emit (n := x.2.1.length) (PC.op hc h120).2.2.2.1.1 (hc.lt hnb) ?_
          refine J_iconst (v := 1) dX5_takeOperand_55 (by decide) ?_
          refine M_zret dX5_takeOperand_56 rfl (by first | assumption | exact Or.inl rfl | exact Or.inr rfl) ?_
          exact h1 rfl _ ((PC.op hc h120).em (by show 3 * (x.2.1.length + 1) ≤ 6 * (x.2.2 + 1) + x.1.2.2.1; omega))
      · -- on 9
        exact absurd (nI_lt (b := 120) h120 (by decide)) c1
    · rw [if_neg hK] at h1 h0
      have hK : x.1.1 = 3 := hK23.resolve_left hK
      rcases hc.2.2.1.2.2.2.2.2.1 hK with hV | hV
      · rcases hlim with ⟨hpi, rfl⟩ | ⟨hpi, rfl⟩
        · by_cases hlt : x.1.2.1 < 8
          · rw [if_pos hlt] at h1 h0
            refine J_aload_n dX5_takeOperand_0 rfl ?_
            refine M_getI dX5_takeOperand_1 fX5_26 rfl rfl (by decide) ?_
            rw [hc.2.2.2.2.2.1]
            refine J_bipush (v := 120) dX5_takeOperand_4 (by decide) ?_
            refine J_icmp_lt (tgt := 15) dX5_takeOperand_6 (by decide) (fun c1 => ?_) (fun c1 => ?_)
            · -- to 15
              refine J_aload_n dX5_takeOperand_15 rfl ?_
              refine J_dup dX5_takeOperand_16 rfl ?_
              refine M_getI dX5_takeOperand_17 fX5_26 rfl rfl (by decide) ?_
              rw [hc.2.2.2.2.2.1]
              refine J_iconst (v := 1) dX5_takeOperand_20 (by decide) ?_
              refine J_iadd dX5_takeOperand_21 ?_
              rw [nI_1]
              refine M_putI dX5_takeOperand_22 pX5_26 rfl rfl (by decide) ?_
              refine J_aload_n dX5_takeOperand_25 rfl ?_
              refine M_getR dX5_takeOperand_26 fX5_9 rfl rfl (by decide) ?_
              refine M_callV0 (mc := mX9_value) dX5_takeOperand_29 kX5_84 oX9_value (Nat.le_of_ble_eq_true rfl) (Nat.le_of_ble_eq_true rfl) rfl (by decide) rfl ?_
              refine tX9_value ?_
              rw [rd2 (by decide)]
              rw [hc.2.1.2.2.2.2 hK]
              rw [show vI x.1.2.1 = nI x.1.2.1 from if_pos hV]
              refine J_istore_n dX5_takeOperand_32 (by decide) rfl ?_
              dsimp only [setL]
              refine J_aload_n dX5_takeOperand_33 rfl ?_
              refine M_getR dX5_takeOperand_34 fX5_9 rfl rfl (by decide) ?_
              refine M_callV0 (mc := mX9_kind) dX5_takeOperand_37 kX5_39 oX9_kind (Nat.le_of_ble_eq_true rfl) (Nat.le_of_ble_eq_true rfl) rfl (by decide) rfl ?_
              refine tX9_kind ?_
              rw [rd2 (by decide), hc.2.1.2.1]
              rw [hK]
              refine J_iconst (v := 2) dX5_takeOperand_40 (by decide) ?_
              refine J_icmp_ne (tgt := 57) dX5_takeOperand_41 (by decide) (fun c4 => ?_) (fun c4 => ?_)
              · -- to 57
                refine J_iload_n dX5_takeOperand_57 rfl ?_
                refine J_iconst (v := -1) dX5_takeOperand_58 (by decide) ?_
                refine J_icmp_eq (tgt := 80) dX5_takeOperand_59 (by decide) (fun c5 => ?_) (fun c5 => ?_)
                · -- to 80
                  exact absurd c5 (tp_ne (by omega))
                · -- on 62
                  refine J_iload_n dX5_takeOperand_62 rfl ?_
                  refine J_aload_n dX5_takeOperand_63 rfl ?_
                  refine M_getI dX5_takeOperand_64 fX5_47 rfl rfl (by decide) ?_
                  rw [rd3 (by decide), hc.2.2.2.2.2.2.2.1]
                  refine J_if_eq (tgt := 75) dX5_takeOperand_67 (by decide) (fun c6 => ?_) (fun c6 => ?_)
                  · -- to 75
                    refine J_bipush (v := 8) dX5_takeOperand_75 (by decide) ?_
                    refine J_icmp_lt (tgt := 86) dX5_takeOperand_77 (by decide) (fun c7 => ?_) (fun c7 => ?_)
                    · -- to 86
                      refine J_aload_n dX5_takeOperand_86 rfl ?_
                      refine M_getR dX5_takeOperand_87 fX5_15 rfl rfl (by decide) ?_
                      refine J_iload_n dX5_takeOperand_90 rfl ?_
                      refine M_callV1 (mc := mX7_emit) dX5_takeOperand_91 kX5_64 oX7_emit (Nat.le_of_ble_eq_true rfl) (Nat.le_of_ble_eq_true rfl) rfl (by decide) rfl ?_
                      refine tX7_emit (n := x.2.1.length) (PC.op hc h120).2.2.2.1.1 (hc.lt hnb) ?_
                      refine J_iconst (v := 1) dX5_takeOperand_94 (by decide) ?_
                      refine M_zret dX5_takeOperand_95 rfl (by first | assumption | exact Or.inl rfl | exact Or.inr rfl) ?_
                      exact h1 rfl _ ((PC.op hc h120).em (by show 3 * (x.2.1.length + 1) ≤ 6 * (x.2.2 + 1) + x.1.2.2.1; omega))
                    · -- on 80
                      exact absurd (nI_lt (b := 8) hlt (by decide)) c7
                  · -- on 70
                    exact absurd hpi c6
              · -- on 44
                exact absurd c4 (by decide)
            · -- on 9
              exact absurd (nI_lt (b := 120) h120 (by decide)) c1
          · rw [if_neg hlt] at h1 h0
            refine J_aload_n dX5_takeOperand_0 rfl ?_
            refine M_getI dX5_takeOperand_1 fX5_26 rfl rfl (by decide) ?_
            rw [hc.2.2.2.2.2.1]
            refine J_bipush (v := 120) dX5_takeOperand_4 (by decide) ?_
            refine J_icmp_lt (tgt := 15) dX5_takeOperand_6 (by decide) (fun c1 => ?_) (fun c1 => ?_)
            · -- to 15
              refine J_aload_n dX5_takeOperand_15 rfl ?_
              refine J_dup dX5_takeOperand_16 rfl ?_
              refine M_getI dX5_takeOperand_17 fX5_26 rfl rfl (by decide) ?_
              rw [hc.2.2.2.2.2.1]
              refine J_iconst (v := 1) dX5_takeOperand_20 (by decide) ?_
              refine J_iadd dX5_takeOperand_21 ?_
              rw [nI_1]
              refine M_putI dX5_takeOperand_22 pX5_26 rfl rfl (by decide) ?_
              refine J_aload_n dX5_takeOperand_25 rfl ?_
              refine M_getR dX5_takeOperand_26 fX5_9 rfl rfl (by decide) ?_
              refine M_callV0 (mc := mX9_value) dX5_takeOperand_29 kX5_84 oX9_value (Nat.le_of_ble_eq_true rfl) (Nat.le_of_ble_eq_true rfl) rfl (by decide) rfl ?_
              refine tX9_value ?_
              rw [rd2 (by decide)]
              rw [hc.2.1.2.2.2.2 hK]
              rw [show vI x.1.2.1 = nI x.1.2.1 from if_pos hV]
              refine J_istore_n dX5_takeOperand_32 (by decide) rfl ?_
              dsimp only [setL]
              refine J_aload_n dX5_takeOperand_33 rfl ?_
              refine M_getR dX5_takeOperand_34 fX5_9 rfl rfl (by decide) ?_
              refine M_callV0 (mc := mX9_kind) dX5_takeOperand_37 kX5_39 oX9_kind (Nat.le_of_ble_eq_true rfl) (Nat.le_of_ble_eq_true rfl) rfl (by decide) rfl ?_
              refine tX9_kind ?_
              rw [rd2 (by decide), hc.2.1.2.1]
              rw [hK]
              refine J_iconst (v := 2) dX5_takeOperand_40 (by decide) ?_
              refine J_icmp_ne (tgt := 57) dX5_takeOperand_41 (by decide) (fun c4 => ?_) (fun c4 => ?_)
              · -- to 57
                refine J_iload_n dX5_takeOperand_57 rfl ?_
                refine J_iconst (v := -1) dX5_takeOperand_58 (by decide) ?_
                refine J_icmp_eq (tgt := 80) dX5_takeOperand_59 (by decide) (fun c5 => ?_) (fun c5 => ?_)
                · -- to 80
                  exact absurd c5 (tp_ne (by omega))
                · -- on 62
                  refine J_iload_n dX5_takeOperand_62 rfl ?_
                  refine J_aload_n dX5_takeOperand_63 rfl ?_
                  refine M_getI dX5_takeOperand_64 fX5_47 rfl rfl (by decide) ?_
                  rw [rd3 (by decide), hc.2.2.2.2.2.2.2.1]
                  refine J_if_eq (tgt := 75) dX5_takeOperand_67 (by decide) (fun c6 => ?_) (fun c6 => ?_)
                  · -- to 75
                    refine J_bipush (v := 8) dX5_takeOperand_75 (by decide) ?_
                    refine J_icmp_lt (tgt := 86) dX5_takeOperand_77 (by decide) (fun c7 => ?_) (fun c7 => ?_)
                    · -- to 86
                      exact absurd c7 (nI_nlt (b := 8) (by omega) (by omega))
                    · -- on 80
                      refine J_aload_n dX5_takeOperand_80 rfl ?_
                      refine J_iconst (v := 3) dX5_takeOperand_81 (by decide) ?_
                      refine M_callV1 (mc := mX5_refuse) dX5_takeOperand_82 kX5_43 oX5_refuse (Nat.le_of_ble_eq_true rfl) (Nat.le_of_ble_eq_true rfl) rfl (by decide) rfl ?_
                      refine tX5_refuse (PC.op hc h120) (fun N hN => ?_)
                      refine M_zret dX5_takeOperand_85 rfl (by first | assumption | exact Or.inl rfl | exact Or.inr rfl) ?_
                      exact h0 _ rfl N hN
                  · -- on 70
                    exact absurd hpi c6
              · -- on 44
                exact absurd c4 (by decide)
            · -- on 9
              exact absurd (nI_lt (b := 120) h120 (by decide)) c1
        · rw [if_pos hV] at h1 h0
          have hlt := hV
          refine J_aload_n dX5_takeOperand_0 rfl ?_
          refine M_getI dX5_takeOperand_1 fX5_26 rfl rfl (by decide) ?_
          rw [hc.2.2.2.2.2.1]
          refine J_bipush (v := 120) dX5_takeOperand_4 (by decide) ?_
          refine J_icmp_lt (tgt := 15) dX5_takeOperand_6 (by decide) (fun c1 => ?_) (fun c1 => ?_)
          · -- to 15
            refine J_aload_n dX5_takeOperand_15 rfl ?_
            refine J_dup dX5_takeOperand_16 rfl ?_
            refine M_getI dX5_takeOperand_17 fX5_26 rfl rfl (by decide) ?_
            rw [hc.2.2.2.2.2.1]
            refine J_iconst (v := 1) dX5_takeOperand_20 (by decide) ?_
            refine J_iadd dX5_takeOperand_21 ?_
            rw [nI_1]
            refine M_putI dX5_takeOperand_22 pX5_26 rfl rfl (by decide) ?_
            refine J_aload_n dX5_takeOperand_25 rfl ?_
            refine M_getR dX5_takeOperand_26 fX5_9 rfl rfl (by decide) ?_
            refine M_callV0 (mc := mX9_value) dX5_takeOperand_29 kX5_84 oX9_value (Nat.le_of_ble_eq_true rfl) (Nat.le_of_ble_eq_true rfl) rfl (by decide) rfl ?_
            refine tX9_value ?_
            rw [rd2 (by decide)]
            rw [hc.2.1.2.2.2.2 hK]
            rw [show vI x.1.2.1 = nI x.1.2.1 from if_pos hV]
            refine J_istore_n dX5_takeOperand_32 (by decide) rfl ?_
            dsimp only [setL]
            refine J_aload_n dX5_takeOperand_33 rfl ?_
            refine M_getR dX5_takeOperand_34 fX5_9 rfl rfl (by decide) ?_
            refine M_callV0 (mc := mX9_kind) dX5_takeOperand_37 kX5_39 oX9_kind (Nat.le_of_ble_eq_true rfl) (Nat.le_of_ble_eq_true rfl) rfl (by decide) rfl ?_
            refine tX9_kind ?_
            rw [rd2 (by decide), hc.2.1.2.1]
            rw [hK]
            refine J_iconst (v := 2) dX5_takeOperand_40 (by decide) ?_
            refine J_icmp_ne (tgt := 57) dX5_takeOperand_41 (by decide) (fun c4 => ?_) (fun c4 => ?_)
            · -- to 57
              refine J_iload_n dX5_takeOperand_57 rfl ?_
              refine J_iconst (v := -1) dX5_takeOperand_58 (by decide) ?_
              refine J_icmp_eq (tgt := 80) dX5_takeOperand_59 (by decide) (fun c5 => ?_) (fun c5 => ?_)
              · -- to 80
                exact absurd c5 (tp_ne (by omega))
              · -- on 62
                refine J_iload_n dX5_takeOperand_62 rfl ?_
                refine J_aload_n dX5_takeOperand_63 rfl ?_
                refine M_getI dX5_takeOperand_64 fX5_47 rfl rfl (by decide) ?_
                rw [rd3 (by decide), hc.2.2.2.2.2.2.2.1]
                refine J_if_eq (tgt := 75) dX5_takeOperand_67 (by decide) (fun c6 => ?_) (fun c6 => ?_)
                · -- to 75
                  exact absurd c6 hpi
                · -- on 70
                  refine J_bipush (v := 14) dX5_takeOperand_70 (by decide) ?_
                  refine J_goto (tgt := 77) dX5_takeOperand_72 (by decide) ?_
                  refine J_icmp_lt (tgt := 86) dX5_takeOperand_77 (by decide) (fun c7 => ?_) (fun c7 => ?_)
                  · -- to 86
                    refine J_aload_n dX5_takeOperand_86 rfl ?_
                    refine M_getR dX5_takeOperand_87 fX5_15 rfl rfl (by decide) ?_
                    refine J_iload_n dX5_takeOperand_90 rfl ?_
                    refine M_callV1 (mc := mX7_emit) dX5_takeOperand_91 kX5_64 oX7_emit (Nat.le_of_ble_eq_true rfl) (Nat.le_of_ble_eq_true rfl) rfl (by decide) rfl ?_
                    refine tX7_emit (n := x.2.1.length) (PC.op hc h120).2.2.2.1.1 (hc.lt hnb) ?_
                    refine J_iconst (v := 1) dX5_takeOperand_94 (by decide) ?_
                    refine M_zret dX5_takeOperand_95 rfl (by first | assumption | exact Or.inl rfl | exact Or.inr rfl) ?_
                    exact h1 rfl _ ((PC.op hc h120).em (by show 3 * (x.2.1.length + 1) ≤ 6 * (x.2.2 + 1) + x.1.2.2.1; omega))
                  · -- on 80
                    exact absurd (nI_lt (b := 14) hlt (by decide)) c7
            · -- on 44
              exact absurd c4 (by decide)
          · -- on 9
            exact absurd (nI_lt (b := 120) h120 (by decide)) c1
      · rw [if_neg (by omega)] at h1 h0
        refine J_aload_n dX5_takeOperand_0 rfl ?_
        refine M_getI dX5_takeOperand_1 fX5_26 rfl rfl (by decide) ?_
        rw [hc.2.2.2.2.2.1]
        refine J_bipush (v := 120) dX5_takeOperand_4 (by decide) ?_
        refine J_icmp_lt (tgt := 15) dX5_takeOperand_6 (by decide) (fun c1 => ?_) (fun c1 => ?_)
        · -- to 15
          refine J_aload_n dX5_takeOperand_15 rfl ?_
          refine J_dup dX5_takeOperand_16 rfl ?_
          refine M_getI dX5_takeOperand_17 fX5_26 rfl rfl (by decide) ?_
          rw [hc.2.2.2.2.2.1]
          refine J_iconst (v := 1) dX5_takeOperand_20 (by decide) ?_
          refine J_iadd dX5_takeOperand_21 ?_
          rw [nI_1]
          refine M_putI dX5_takeOperand_22 pX5_26 rfl rfl (by decide) ?_
          refine J_aload_n dX5_takeOperand_25 rfl ?_
          refine M_getR dX5_takeOperand_26 fX5_9 rfl rfl (by decide) ?_
          refine M_callV0 (mc := mX9_value) dX5_takeOperand_29 kX5_84 oX9_value (Nat.le_of_ble_eq_true rfl) (Nat.le_of_ble_eq_true rfl) rfl (by decide) rfl ?_
          refine tX9_value ?_
          rw [rd2 (by decide)]
          rw [hc.2.1.2.2.2.2 hK]
          rw [show vI x.1.2.1 = -1 by rw [hV]; rfl]
          refine J_istore_n dX5_takeOperand_32 (by decide) rfl ?_
          dsimp only [setL]
          refine J_aload_n dX5_takeOperand_33 rfl ?_
          refine M_getR dX5_takeOperand_34 fX5_9 rfl rfl (by decide) ?_
          refine M_callV0 (mc := mX9_kind) dX5_takeOperand_37 kX5_39 oX9_kind (Nat.le_of_ble_eq_true rfl) (Nat.le_of_ble_eq_true rfl) rfl (by decide) rfl ?_
          refine tX9_kind ?_
          rw [rd2 (by decide), hc.2.1.2.1]
          rw [hK]
          refine J_iconst (v := 2) dX5_takeOperand_40 (by decide) ?_
          refine J_icmp_ne (tgt := 57) dX5_takeOperand_41 (by decide) (fun c4 => ?_) (fun c4 => ?_)
          · -- to 57
            refine J_iload_n dX5_takeOperand_57 rfl ?_
            refine J_iconst (v := -1) dX5_takeOperand_58 (by decide) ?_
            refine J_icmp_eq (tgt := 80) dX5_takeOperand_59 (by decide) (fun c5 => ?_) (fun c5 => ?_)
            · -- to 80
              refine J_aload_n dX5_takeOperand_80 rfl ?_
              refine J_iconst (v := 3) dX5_takeOperand_81 (by decide) ?_
              refine M_callV1 (mc := mX5_refuse) dX5_takeOperand_82 kX5_43 oX5_refuse (Nat.le_of_ble_eq_true rfl) (Nat.le_of_ble_eq_true rfl) rfl (by decide) rfl ?_
              refine tX5_refuse (PC.op hc h120) (fun N hN => ?_)
              refine M_zret dX5_takeOperand_85 rfl (by first | assumption | exact Or.inl rfl | exact Or.inr rfl) ?_
              exact h0 _ rfl N hN
            · -- on 62
              exact absurd c5 (by decide)
          · -- on 44
            exact absurd c4 (by decide)
        · -- on 9
          exact absurd (nI_lt (b := 120) h120 (by decide)) c1

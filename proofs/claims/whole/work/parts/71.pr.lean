theorem wr_id {M : Mem} {k j : Nat} {x : Int32} (h : M.1 k j = x) : wr M k j x = M := by rw [← h, wr_self]
def stl (lv : Nat) : List Nat → List Nat → List Nat × List Nat
  | [], rs => ([], rs)
  | c :: r, rs => if c = 48 ∨ c < lv then (c :: r, rs) else stl lv r (rs ++ [dec c])
def sto (an : Bool) : List Nat → List Nat → List Nat × List Nat
  | [], rs => ([], rs)
  | c :: r, rs => if c = 48 ∨ (an = true ∧ c = 41) then (c :: r, rs) else sto an r (rs ++ [dec c])
/-- one waiting operator becomes a step -/
theorem PQ.pop {M N : Mem} {n c : Nat} {x : PSt} {r : List Nat} (h : PQ M N n x (c :: r)) (h48 : ¬ c = 48) : PQ M (wr (wr (wr (wr (wr N 62 36 (nI r.length)) 62 37 (nI (dpc r))) 77 x.2.1.length (nI c)) 78 x.2.1.length 0) 62 23 (nI (x.2.1.length + 1))) n (x.1, x.2.1 ++ [dec c], x.2.2) r := by
  have hop := h.2.2.2.2.2.2.2.2.2.2.2.2.2.1 c (List.mem_cons_self ..)
  unfold opW at hop
  obtain ⟨ed, e1⟩ := enc_dec (c := c) hop.1 (by omega)
  have hn : nop (c :: r) = nop r + 1 := by rw [nop, if_neg h48]
  have hb := h.2.2.2.2.2.2.2.2.2.2.2.2.2.2.2
  have hl := h.2.2.2.2.2.2.2.2.2.2.2.2.2.2.1
  rw [hn] at hb
  rw [List.length_cons] at hl
  have z := h.step (c := dec c) (b := 0) (ops := x.2.2) (fun q => absurd q e1) h.2.2.2.2.2.2.2.1 r h.2.2.2.2.2.2.2.2.2.1.2 (by omega) (fun q hq => h.2.2.2.2.2.2.2.2.2.2.2.2.2.1 q (List.mem_cons_of_mem _ hq)) (by omega)
  rw [ed, wr_id (M := wr (wr N 62 36 (nI r.length)) 62 37 (nI (dpc r))) (j := 24) (by rw [rd3 (by decide), rd3 (by decide)]; exact h.2.2.2.2.2.2.1)] at z
  exact z
set_option maxRecDepth 100000 in
set_option maxHeartbeats 1000000 in
theorem tX12_settle_l {d : Nat} {Φ : Option Int32 → Mem → Prop} {M0 : Mem} {n lv : Nat} (hnb : n ≤ 1000) (hlb : lv ≤ 48) : ∀ ws x N, PQ M0 N n x ws → (∀ N2, PQ M0 N2 n (x.1, (stl lv ws x.2.1).2, x.2.2) (stl lv ws x.2.1).1 → Φ none N2) → JM noRo (d + 1) mX12_settle 0 [some (.ref 62), some (.int (nI lv))] [] N Φ := by
  intro ws
  induction ws with
  | nil =>
    intro x N hc h
    refine J_aload_n dX12_settle_0 rfl ?_
    refine M_getI dX12_settle_1 fX12_223 rfl rfl (by decide) ?_
    rw [hc.2.2.2.2.2.2.2.2.1]
    refine J_if_le (tgt := 89) dX12_settle_4 (by decide) (fun c1 => ?_) (fun c1 => ?_)
    · -- to 89
      refine M_vret dX12_settle_89 rfl ?_
      exact h N hc
    · -- on 7
      exact absurd (by decide) c1
  | cons c r ih =>
    intro x N hc h
    have hw := hc.2.2.2.2.2.2.2.2.1
    rw [List.length_cons] at hw
    have ht := hc.2.2.2.2.2.2.2.2.2.1.1
    have hop := hc.2.2.2.2.2.2.2.2.2.2.2.2.2.1 c (List.mem_cons_self ..)
    unfold opW at hop
    have hl := hc.2.2.2.2.2.2.2.2.2.2.2.2.2.2.1
    rw [List.length_cons] at hl
    have h6 := hc.l600 hnb
    rw [stl] at h
    by_cases h48 : c = 48
    · rw [if_pos (Or.inl h48)] at h
      have hc48 := h48
      refine J_aload_n dX12_settle_0 rfl ?_
      refine M_getI dX12_settle_1 fX12_223 rfl rfl (by decide) ?_
      rw [hw]
      refine J_if_le (tgt := 89) dX12_settle_4 (by decide) (fun c1 => ?_) (fun c1 => ?_)
      · -- to 89
        exact absurd c1 (nI_nle (by omega) (by omega))
      · -- on 7
        refine J_aload_n dX12_settle_7 rfl ?_
        refine M_getR dX12_settle_8 fX12_72 rfl rfl (by decide) ?_
        refine J_aload_n dX12_settle_11 rfl ?_
        refine M_getI dX12_settle_12 fX12_223 rfl rfl (by decide) ?_
        rw [hw]
        refine J_iconst (v := 1) dX12_settle_15 (by decide) ?_
        refine J_isub dX12_settle_16 ?_
        refine M_ialdE dX12_settle_17 rfl (by decide) (nI_pred r.length) (by omega) ?_
        rw [ht, hc48]
        refine J_bipush (v := 48) dX12_settle_18 (by decide) ?_
        refine J_icmp_eq (tgt := 89) dX12_settle_20 (by decide) (fun c2 => ?_) (fun c2 => ?_)
        · -- to 89
          refine M_vret dX12_settle_89 rfl ?_
          exact h N hc
        · -- on 23
          exact absurd c2 (by decide)
    · by_cases hlv : c < lv
      · rw [if_pos (Or.inr hlv)] at h
        refine J_aload_n dX12_settle_0 rfl ?_
        refine M_getI dX12_settle_1 fX12_223 rfl rfl (by decide) ?_
        rw [hw]
        refine J_if_le (tgt := 89) dX12_settle_4 (by decide) (fun c1 => ?_) (fun c1 => ?_)
        · -- to 89
          exact absurd c1 (nI_nle (by omega) (by omega))
        · -- on 7
          refine J_aload_n dX12_settle_7 rfl ?_
          refine M_getR dX12_settle_8 fX12_72 rfl rfl (by decide) ?_
          refine J_aload_n dX12_settle_11 rfl ?_
          refine M_getI dX12_settle_12 fX12_223 rfl rfl (by decide) ?_
          rw [hw]
          refine J_iconst (v := 1) dX12_settle_15 (by decide) ?_
          refine J_isub dX12_settle_16 ?_
          refine M_ialdE dX12_settle_17 rfl (by decide) (nI_pred r.length) (by omega) ?_
          rw [ht]
          refine J_bipush (v := 48) dX12_settle_18 (by decide) ?_
          refine J_icmp_eq (tgt := 89) dX12_settle_20 (by decide) (fun c2 => ?_) (fun c2 => ?_)
          · -- to 89
            exact absurd ((nI_eq (a := c) (b := 48) (by omega) (by decide)).mp c2) h48
          · -- on 23
            refine J_aload_n dX12_settle_23 rfl ?_
            refine M_getR dX12_settle_24 fX12_72 rfl rfl (by decide) ?_
            refine J_aload_n dX12_settle_27 rfl ?_
            refine M_getI dX12_settle_28 fX12_223 rfl rfl (by decide) ?_
            rw [hw]
            refine J_iconst (v := 1) dX12_settle_31 (by decide) ?_
            refine J_isub dX12_settle_32 ?_
            refine M_ialdE dX12_settle_33 rfl (by decide) (nI_pred r.length) (by omega) ?_
            rw [ht]
            refine J_iload_n dX12_settle_34 rfl ?_
            refine J_icmp_lt (tgt := 89) dX12_settle_35 (by decide) (fun c3 => ?_) (fun c3 => ?_)
            · -- to 89
              refine M_vret dX12_settle_89 rfl ?_
              exact h N hc
            · -- on 38
              exact absurd (nI_lt hlv (by omega)) c3
      · rw [if_neg (fun q => q.elim h48 hlv)] at h
        refine J_aload_n dX12_settle_0 rfl ?_
        refine M_getI dX12_settle_1 fX12_223 rfl rfl (by decide) ?_
        rw [hw]
        refine J_if_le (tgt := 89) dX12_settle_4 (by decide) (fun c1 => ?_) (fun c1 => ?_)
        · -- to 89
          exact absurd c1 (nI_nle (by omega) (by omega))
        · -- on 7
          refine J_aload_n dX12_settle_7 rfl ?_
          refine M_getR dX12_settle_8 fX12_72 rfl rfl (by decide) ?_
          refine J_aload_n dX12_settle_11 rfl ?_
          refine M_getI dX12_settle_12 fX12_223 rfl rfl (by decide) ?_
          rw [hw]
          refine J_iconst (v := 1) dX12_settle_15 (by decide) ?_
          refine J_isub dX12_settle_16 ?_
          refine M_ialdE dX12_settle_17 rfl (by decide) (nI_pred r.length) (by omega) ?_
          rw [ht]
          refine J_bipush (v := 48) dX12_settle_18 (by decide) ?_
          refine J_icmp_eq (tgt := 89) dX12_settle_20 (by decide) (fun c2 => ?_) (fun c2 => ?_)
          · -- to 89
            exact absurd ((nI_eq (a := c) (b := 48) (by omega) (by decide)).mp c2) h48
          · -- on 23
            refine J_aload_n dX12_settle_23 rfl ?_
            refine M_getR dX12_settle_24 fX12_72 rfl rfl (by decide) ?_
            refine J_aload_n dX12_settle_27 rfl ?_
            refine M_getI dX12_settle_28 fX12_223 rfl rfl (by decide) ?_
            rw [hw]
            refine J_iconst (v := 1) dX12_settle_31 (by decide) ?_
            refine J_isub dX12_settle_32 ?_
            refine M_ialdE dX12_settle_33 rfl (by decide) (nI_pred r.length) (by omega) ?_
            rw [ht]
            refine J_iload_n dX12_settle_34 rfl ?_
            refine J_icmp_lt (tgt := 89) dX12_settle_35 (by decide) (fun c3 => ?_) (fun c3 => ?_)
            · -- to 89
              exact absurd c3 (nI_nlt (by omega) (by omega))
            · -- on 38
              refine J_aload_n dX12_settle_38 rfl ?_
              refine J_dup dX12_settle_39 rfl ?_
              refine M_getI dX12_settle_40 fX12_223 rfl rfl (by decide) ?_
              rw [hw]
              refine J_iconst (v := 1) dX12_settle_43 (by decide) ?_
              refine J_isub dX12_settle_44 ?_
              rw [nI_pred]
              refine M_putI dX12_settle_45 pX12_223 rfl rfl (by decide) ?_
              refine J_aload_n dX12_settle_48 rfl ?_
              refine M_getR dX12_settle_49 fX12_72 rfl rfl (by decide) ?_
              refine J_aload_n dX12_settle_52 rfl ?_
              refine M_getI dX12_settle_53 fX12_223 rfl rfl (by decide) ?_
              refine M_ialdE dX12_settle_56 rfl (by decide) (by rw [rd1]) (by omega) ?_
              rw [rd2 (by decide), ht]
              refine J_bipush (v := 40) dX12_settle_57 (by decide) ?_
              refine J_icmp_ne (tgt := 72) dX12_settle_59 (by decide) (fun c4 => ?_) (fun c4 => ?_)
              · -- to 72
                refine J_aload_n dX12_settle_72 rfl ?_
                refine J_aload_n dX12_settle_73 rfl ?_
                refine M_getR dX12_settle_74 fX12_72 rfl rfl (by decide) ?_
                refine J_aload_n dX12_settle_77 rfl ?_
                refine M_getI dX12_settle_78 fX12_223 rfl rfl (by decide) ?_
                refine M_ialdE dX12_settle_81 rfl (by decide) (by first | (rw [rd3 (by decide), rd1]) | rw [rd1]) (by omega) ?_
                first
                | rw [rd2 (by decide), rd2 (by decide), ht]
                | rw [rd2 (by decide), ht]
                refine J_iconst (v := 0) dX12_settle_82 (by decide) ?_
                refine M_callV2 (mc := mX12_step) dX12_settle_83 kX12_229 oX12_step (Nat.le_of_ble_eq_true rfl) (Nat.le_of_ble_eq_true rfl) rfl (by decide) rfl ?_
                refine M_more (d := 0) (Nat.zero_le _) (tX12_step (m := x.2.1.length) (by first | (rw [rd3 (by decide), rd3 (by decide)]; exact hc.2.2.2.2.1) | (rw [rd3 (by decide)]; exact hc.2.2.2.2.1)) (by omega) ?_)
                refine J_goto (tgt := 0) dX12_settle_86 (by decide) ?_
                have hp := hc.pop h48
                first
                | exact ih _ _ hp h
                | (rw [wr_id (M := wr N 62 36 (nI r.length)) (j := 37) (by rw [rd3 (by decide), hc.2.2.2.2.2.2.2.2.2.2.1, dpc, if_neg (fun q => q.elim (fun q => c4 (by rw [q]; rfl)) h48)]; rfl)] at hp
                   exact ih _ _ hp h)
              · -- on 62
                have c40 : c = 40 := (nI_eq (a := c) (b := 40) (by omega) (by decide)).mp c4
                refine J_aload_n dX12_settle_62 rfl ?_
                refine J_dup dX12_settle_63 rfl ?_
                refine M_getI dX12_settle_64 fX12_226 rfl rfl (by decide) ?_
                rw [rd3 (by decide), hc.2.2.2.2.2.2.2.2.2.2.1, dpc, if_pos (Or.inl c40)]
                refine J_iconst (v := 1) dX12_settle_67 (by decide) ?_
                refine J_isub dX12_settle_68 ?_
                rw [nI_pred]
                refine M_putI dX12_settle_69 pX12_226 rfl rfl (by decide) ?_
                refine J_aload_n dX12_settle_72 rfl ?_
                refine J_aload_n dX12_settle_73 rfl ?_
                refine M_getR dX12_settle_74 fX12_72 rfl rfl (by decide) ?_
                refine J_aload_n dX12_settle_77 rfl ?_
                refine M_getI dX12_settle_78 fX12_223 rfl rfl (by decide) ?_
                refine M_ialdE dX12_settle_81 rfl (by decide) (by first | (rw [rd3 (by decide), rd1]) | rw [rd1]) (by omega) ?_
                first
                | rw [rd2 (by decide), rd2 (by decide), ht]
                | rw [rd2 (by decide), ht]
                refine J_iconst (v := 0) dX12_settle_82 (by decide) ?_
                refine M_callV2 (mc := mX12_step) dX12_settle_83 kX12_229 oX12_step (Nat.le_of_ble_eq_true rfl) (Nat.le_of_ble_eq_true rfl) rfl (by decide) rfl ?_
                refine M_more (d := 0) (Nat.zero_le _) (tX12_step (m := x.2.1.length) (by first | (rw [rd3 (by decide), rd3 (by decide)]; exact hc.2.2.2.2.1) | (rw [rd3 (by decide)]; exact hc.2.2.2.2.1)) (by omega) ?_)
                refine J_goto (tgt := 0) dX12_settle_86 (by decide) ?_
                have hp := hc.pop h48
                first
                | exact ih _ _ hp h
                | (rw [wr_id (M := wr N 62 36 (nI r.length)) (j := 37) (by rw [rd3 (by decide), hc.2.2.2.2.2.2.2.2.2.2.1, dpc, if_neg (fun q => q.elim (fun q => c4 (by rw [q]; rfl)) h48)]; rfl)] at hp
                   exact ih _ _ hp h)

/-- the reference's loop over a rule's tokens, at its head -/
abbrev HD (d : Nat) (b : Int32) (Φ : Option Int32 → Mem → Prop) (st : Nat) (N : Mem) : Prop := JM noRo (d + 4) mX12_readE 12 [some (.ref 62), some (.int b), some (.int (nI st))] [] N Φ
def Psi (d : Nat) (b : Int32) (Φ : Option Int32 → Mem → Prop) : Option Int32 → Mem → Prop := fun r N2 => ∃ st, r = some (nI st) ∧ HD d b Φ st N2
def hdW (P : Nat → Prop) : List Nat → Prop
  | [] => True
  | c :: _ => P c
theorem stl_pend {lv : Nat} : ∀ (pend ws rs : List Nat), (∀ c ∈ pend, lv ≤ c ∧ ¬ c = 48) → hdW (fun c => c = 48 ∨ c < lv) ws → stl lv (pend ++ ws) rs = (ws, rs ++ pend.map dec)
  | [], ws, rs, _, hw => by
    rw [List.nil_append, List.map_nil, List.append_nil]
    cases ws with
    | nil => rfl
    | cons c r => rw [stl, if_pos (show c = 48 ∨ c < lv from hw)]
  | c :: p, ws, rs, hp, hw => by
    have h := hp c (List.mem_cons_self ..)
    rw [List.cons_append, stl, if_neg (fun q => q.elim h.2 (fun z => absurd z (by omega))), stl_pend p ws _ (fun q hq => hp q (List.mem_cons_of_mem _ hq)) hw, List.map_cons, List.append_assoc]
    rfl
theorem sto_pend {an : Bool} : ∀ (pend ws rs : List Nat), (∀ c ∈ pend, ¬ (c = 48 ∨ (an = true ∧ c = 41))) → hdW (fun c => c = 48 ∨ (an = true ∧ c = 41)) ws → sto an (pend ++ ws) rs = (ws, rs ++ pend.map dec)
  | [], ws, rs, _, hw => by
    rw [List.nil_append, List.map_nil, List.append_nil]
    cases ws with
    | nil => rfl
    | cons c r => rw [sto, if_pos (show c = 48 ∨ (an = true ∧ c = 41) from hw)]
  | c :: p, ws, rs, hp, hw => by
    have h := hp c (List.mem_cons_self ..)
    rw [List.cons_append, sto, if_neg h, sto_pend p ws _ (fun q hq => hp q (List.mem_cons_of_mem _ hq)) hw, List.map_cons, List.append_assoc]
    rfl
set_option maxRecDepth 100000 in
set_option maxHeartbeats 1000000 in
theorem hd_f {d : Nat} {b : Int32} {Φ : Option Int32 → Mem → Prop} {M0 N : Mem} {st : Nat} {v : Nat × Nat} (hq : QF M0 N v) (h1 : 0 < v.1) (h2 : v.1 < 2 ^ 31) (h : Φ none N) : HD d b Φ st N := by
  refine J_aload_n dX12_readE_12 rfl ?_
  refine M_getI dX12_readE_13 fX12_189 rfl rfl (by decide) ?_
  rw [hq.2.2.1]
  refine J_if_ne (tgt := 63) dX12_readE_16 (by decide) (fun c1 => ?_) (fun c1 => ?_)
  · -- to 63
    refine J_aload_n dX12_readE_63 rfl ?_
    refine M_getI dX12_readE_64 fX12_189 rfl rfl (by decide) ?_
    rw [hq.2.2.1]
    refine J_if_ne (tgt := 75) dX12_readE_67 (by decide) (fun c2 => ?_) (fun c2 => ?_)
    · -- to 75
      refine M_vret dX12_readE_75 rfl ?_
      exact h
    · -- on 70
      exact absurd c2 (nI_pos0 h1 h2)
  · -- on 19
    exact absurd c1 (nI_pos0 h1 h2)
set_option maxRecDepth 100000 in
set_option maxHeartbeats 1000000 in
theorem hd_o {d : Nat} {b : Int32} {Φ : Option Int32 → Mem → Prop} {M0 N : Mem} {n : Nat} {x : PSt} {ws : List Nat} {st : Nat} (hc : PQ M0 N n x ws) (hst : st = 0 ∨ st = 1) (h : JM noRo (d + 3) mX12_operand 0 [some (.ref 62), some (.int (nI st)), some (.int b)] [] N (Psi d b Φ)) : HD d b Φ st N := by
  rcases hst with rfl | rfl
  ·
    refine J_aload_n dX12_readE_12 rfl ?_
    refine M_getI dX12_readE_13 fX12_189 rfl rfl (by decide) ?_
    rw [hc.2.2.2.2.2.2.2.2.2.2.2.1]
    refine J_if_ne (tgt := 63) dX12_readE_16 (by decide) (fun c1 => ?_) (fun c1 => ?_)
    · -- to 63
      exact absurd rfl c1
    · -- on 19
      refine J_iload_n dX12_readE_19 rfl ?_
      refine J_iconst (v := 2) dX12_readE_20 (by decide) ?_
      refine J_icmp_ne (tgt := 40) dX12_readE_21 (by decide) (fun c2 => ?_) (fun c2 => ?_)
      · -- to 40
        refine J_iload_n dX12_readE_40 rfl ?_
        refine J_iconst (v := 2) dX12_readE_41 (by decide) ?_
        refine J_icmp_ne (tgt := 53) dX12_readE_42 (by decide) (fun c3 => ?_) (fun c3 => ?_)
        · -- to 53
          refine J_aload_n dX12_readE_53 rfl ?_
          refine J_iload_n dX12_readE_54 rfl ?_
          refine J_iload_n dX12_readE_55 rfl ?_
          refine M_callV2 (mc := mX12_operand) dX12_readE_56 kX12_241 oX12_operand (Nat.le_of_ble_eq_true rfl) (Nat.le_of_ble_eq_true rfl) rfl (by decide) rfl ?_
          refine M_post (fun r N2 hr => ?_) h
          obtain ⟨st2, rfl, hh⟩ := hr
          refine J_istore_n dX12_readE_59 (by decide) rfl ?_
          dsimp only [setL]
          refine J_goto (tgt := 12) dX12_readE_60 (by decide) ?_
          exact hh
        · -- on 45
          exact absurd c3 (by decide)
      · -- on 24
        exact absurd c2 (by decide)
  ·
    refine J_aload_n dX12_readE_12 rfl ?_
    refine M_getI dX12_readE_13 fX12_189 rfl rfl (by decide) ?_
    rw [hc.2.2.2.2.2.2.2.2.2.2.2.1]
    refine J_if_ne (tgt := 63) dX12_readE_16 (by decide) (fun c1 => ?_) (fun c1 => ?_)
    · -- to 63
      exact absurd rfl c1
    · -- on 19
      refine J_iload_n dX12_readE_19 rfl ?_
      refine J_iconst (v := 2) dX12_readE_20 (by decide) ?_
      refine J_icmp_ne (tgt := 40) dX12_readE_21 (by decide) (fun c2 => ?_) (fun c2 => ?_)
      · -- to 40
        refine J_iload_n dX12_readE_40 rfl ?_
        refine J_iconst (v := 2) dX12_readE_41 (by decide) ?_
        refine J_icmp_ne (tgt := 53) dX12_readE_42 (by decide) (fun c3 => ?_) (fun c3 => ?_)
        · -- to 53
          refine J_aload_n dX12_readE_53 rfl ?_
          refine J_iload_n dX12_readE_54 rfl ?_
          refine J_iload_n dX12_readE_55 rfl ?_
          refine M_callV2 (mc := mX12_operand) dX12_readE_56 kX12_241 oX12_operand (Nat.le_of_ble_eq_true rfl) (Nat.le_of_ble_eq_true rfl) rfl (by decide) rfl ?_
          refine M_post (fun r N2 hr => ?_) h
          obtain ⟨st2, rfl, hh⟩ := hr
          refine J_istore_n dX12_readE_59 (by decide) rfl ?_
          dsimp only [setL]
          refine J_goto (tgt := 12) dX12_readE_60 (by decide) ?_
          exact hh
        · -- on 45
          exact absurd c3 (by decide)
      · -- on 24
        exact absurd c2 (by decide)
set_option maxRecDepth 100000 in
set_option maxHeartbeats 1000000 in
theorem hd_s {d : Nat} {b : Int32} {Φ : Option Int32 → Mem → Prop} {M0 N : Mem} {n : Nat} {x : PSt} {ws : List Nat} (hc : PQ M0 N n x ws) (hK0 : ¬ (x.1.1 = 59 ∧ ¬ 48 ∈ ws)) (h : JM noRo (d + 3) mX12_sign 0 [some (.ref 62)] [] N (Psi d b Φ)) : HD d b Φ 2 N := by
  have h256 := hc.2.2.2.1.2.2.2.2.2.2.1
  by_cases hK : x.1.1 = 59
  · have ho : 48 ∈ ws := Classical.byContradiction (fun q => hK0 ⟨hK, q⟩)
    refine J_aload_n dX12_readE_12 rfl ?_
    refine M_getI dX12_readE_13 fX12_189 rfl rfl (by decide) ?_
    rw [hc.2.2.2.2.2.2.2.2.2.2.2.1]
    refine J_if_ne (tgt := 63) dX12_readE_16 (by decide) (fun c1 => ?_) (fun c1 => ?_)
    · -- to 63
      exact absurd rfl c1
    · -- on 19
      refine J_iload_n dX12_readE_19 rfl ?_
      refine J_iconst (v := 2) dX12_readE_20 (by decide) ?_
      refine J_icmp_ne (tgt := 40) dX12_readE_21 (by decide) (fun c2 => ?_) (fun c2 => ?_)
      · -- to 40
        exact absurd c2 (by decide)
      · -- on 24
        refine J_aload_n dX12_readE_24 rfl ?_
        refine M_getI dX12_readE_25 fX12_177 rfl rfl (by decide) ?_
        rw [hc.2.2.1.2.1]
        refine J_bipush (v := 59) dX12_readE_28 (by decide) ?_
        refine J_icmp_ne (tgt := 40) dX12_readE_30 (by decide) (fun c3 => ?_) (fun c3 => ?_)
        · -- to 40
          exact absurd ((srt_s (v := 59) h256 (by decide) (by decide)).mpr hK) c3
        · -- on 33
          refine J_aload_n dX12_readE_33 rfl ?_
          refine M_callV0 (mc := mX12_isOpen) dX12_readE_34 kX12_233 oX12_isOpen (Nat.le_of_ble_eq_true rfl) (Nat.le_of_ble_eq_true rfl) rfl (by decide) rfl ?_
          refine M_more (d := 0) (Nat.zero_le _) (tX12_isOpen hc (fun _ => ?_) (fun q => absurd ho q))
          refine J_if_eq (tgt := 63) dX12_readE_37 (by decide) (fun c5 => ?_) (fun c5 => ?_)
          · -- to 63
            exact absurd c5 (by decide)
          · -- on 40
            refine J_iload_n dX12_readE_40 rfl ?_
            refine J_iconst (v := 2) dX12_readE_41 (by decide) ?_
            refine J_icmp_ne (tgt := 53) dX12_readE_42 (by decide) (fun c6 => ?_) (fun c6 => ?_)
            · -- to 53
              exact absurd c6 (by decide)
            · -- on 45
              refine J_aload_n dX12_readE_45 rfl ?_
              refine M_callV0 (mc := mX12_sign) dX12_readE_46 kX12_237 oX12_sign (Nat.le_of_ble_eq_true rfl) (Nat.le_of_ble_eq_true rfl) rfl (by decide) rfl ?_
              refine M_post (fun r N2 hr => ?_) h
              obtain ⟨st2, rfl, hh⟩ := hr
              refine J_istore_n dX12_readE_49 (by decide) rfl ?_
              dsimp only [setL]
              refine J_goto (tgt := 12) dX12_readE_50 (by decide) ?_
              exact hh
  ·
    refine J_aload_n dX12_readE_12 rfl ?_
    refine M_getI dX12_readE_13 fX12_189 rfl rfl (by decide) ?_
    rw [hc.2.2.2.2.2.2.2.2.2.2.2.1]
    refine J_if_ne (tgt := 63) dX12_readE_16 (by decide) (fun c1 => ?_) (fun c1 => ?_)
    · -- to 63
      exact absurd rfl c1
    · -- on 19
      refine J_iload_n dX12_readE_19 rfl ?_
      refine J_iconst (v := 2) dX12_readE_20 (by decide) ?_
      refine J_icmp_ne (tgt := 40) dX12_readE_21 (by decide) (fun c2 => ?_) (fun c2 => ?_)
      · -- to 40
        exact absurd c2 (by decide)
      · -- on 24
        refine J_aload_n dX12_readE_24 rfl ?_
        refine M_getI dX12_readE_25 fX12_177 rfl rfl (by decide) ?_
        rw [hc.2.2.1.2.1]
        refine J_bipush (v := 59) dX12_readE_28 (by decide) ?_
        refine J_icmp_ne (tgt := 40) dX12_readE_30 (by decide) (fun c3 => ?_) (fun c3 => ?_)
        · -- to 40
          refine J_iload_n dX12_readE_40 rfl ?_
          refine J_iconst (v := 2) dX12_readE_41 (by decide) ?_
          refine J_icmp_ne (tgt := 53) dX12_readE_42 (by decide) (fun c4 => ?_) (fun c4 => ?_)
          · -- to 53
            exact absurd c4 (by decide)
          · -- on 45
            refine J_aload_n dX12_readE_45 rfl ?_
            refine M_callV0 (mc := mX12_sign) dX12_readE_46 kX12_237 oX12_sign (Nat.le_of_ble_eq_true rfl) (Nat.le_of_ble_eq_true rfl) rfl (by decide) rfl ?_
            refine M_post (fun r N2 hr => ?_) h
            obtain ⟨st2, rfl, hh⟩ := hr
            refine J_istore_n dX12_readE_49 (by decide) rfl ?_
            dsimp only [setL]
            refine J_goto (tgt := 12) dX12_readE_50 (by decide) ?_
            exact hh
        · -- on 33
          exact absurd ((srt_s (v := 59) h256 (by decide) (by decide)).mp c3) hK
set_option maxRecDepth 100000 in
set_option maxHeartbeats 1000000 in
theorem hd_e {d : Nat} {b : Int32} {Φ : Option Int32 → Mem → Prop} {M0 N : Mem} {n : Nat} {x : PSt} {ws : List Nat} (hnb : n ≤ 1000) (hc : PQ M0 N n x ws) (hK : x.1.1 = 59) (ho : ¬ 48 ∈ ws) (h : ∀ N2, PQ M0 N2 n (x.1, (stl 0 ws x.2.1).2, x.2.2) (stl 0 ws x.2.1).1 → Φ none N2) : HD d b Φ 2 N := by
  have h256 := hc.2.2.2.1.2.2.2.2.2.2.1
  refine J_aload_n dX12_readE_12 rfl ?_
  refine M_getI dX12_readE_13 fX12_189 rfl rfl (by decide) ?_
  rw [hc.2.2.2.2.2.2.2.2.2.2.2.1]
  refine J_if_ne (tgt := 63) dX12_readE_16 (by decide) (fun c1 => ?_) (fun c1 => ?_)
  · -- to 63
    exact absurd rfl c1
  · -- on 19
    refine J_iload_n dX12_readE_19 rfl ?_
    refine J_iconst (v := 2) dX12_readE_20 (by decide) ?_
    refine J_icmp_ne (tgt := 40) dX12_readE_21 (by decide) (fun c2 => ?_) (fun c2 => ?_)
    · -- to 40
      exact absurd c2 (by decide)
    · -- on 24
      refine J_aload_n dX12_readE_24 rfl ?_
      refine M_getI dX12_readE_25 fX12_177 rfl rfl (by decide) ?_
      rw [hc.2.2.1.2.1]
      refine J_bipush (v := 59) dX12_readE_28 (by decide) ?_
      refine J_icmp_ne (tgt := 40) dX12_readE_30 (by decide) (fun c3 => ?_) (fun c3 => ?_)
      · -- to 40
        exact absurd ((srt_s (v := 59) h256 (by decide) (by decide)).mpr hK) c3
      · -- on 33
        refine J_aload_n dX12_readE_33 rfl ?_
        refine M_callV0 (mc := mX12_isOpen) dX12_readE_34 kX12_233 oX12_isOpen (Nat.le_of_ble_eq_true rfl) (Nat.le_of_ble_eq_true rfl) rfl (by decide) rfl ?_
        refine M_more (d := 0) (Nat.zero_le _) (tX12_isOpen hc (fun q => absurd q ho) (fun _ => ?_))
        refine J_if_eq (tgt := 63) dX12_readE_37 (by decide) (fun c5 => ?_) (fun c5 => ?_)
        · -- to 63
          refine J_aload_n dX12_readE_63 rfl ?_
          refine M_getI dX12_readE_64 fX12_189 rfl rfl (by decide) ?_
          rw [hc.2.2.2.2.2.2.2.2.2.2.2.1]
          refine J_if_ne (tgt := 75) dX12_readE_67 (by decide) (fun c6 => ?_) (fun c6 => ?_)
          · -- to 75
            exact absurd rfl c6
          · -- on 70
            refine J_aload_n dX12_readE_70 rfl ?_
            refine J_iconst (v := 0) dX12_readE_71 (by decide) ?_
            refine M_callV1 (mc := mX12_settle) dX12_readE_72 kX12_245 oX12_settle (Nat.le_of_ble_eq_true rfl) (Nat.le_of_ble_eq_true rfl) rfl (by decide) rfl ?_
            refine M_more (d := 1) (by omega) (tX12_settle_l (d := 0) (lv := 0) hnb (by decide) ws x N hc (fun N2 hc2 => ?_))
            refine M_vret dX12_readE_75 rfl ?_
            exact h N2 hc2
        · -- on 40
          exact absurd c5 (by decide)

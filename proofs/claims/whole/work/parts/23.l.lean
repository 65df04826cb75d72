theorem J_dropN {Ro : ROs} {d bc bs : Nat} {md : MD} {pc : Nat} {ls : List (Option Value)} {st : List Value} {h : PH} {Φ : Option Int32 → PH → Prop} (n : Nat) (k : J Ro d bc bs md pc (ls.take n) st h Φ) : J Ro d bc bs md pc ls st h Φ := by
  intro p l e R s m args below meth c H locs cells slots mc ms Q z b dC dI dA las hC hB hK hW hL hR
  refine k p l e R s m args below meth c H locs cells slots mc ms Q z b dC dI dA las hC hB hK hW ⟨hL.1, hL.2.1, fun i v hi => hL.2.2 i v ?_⟩ hR
  rw [List.getElem?_take] at hi
  split at hi
  · exact hi
  · cases hi
section LatS
variable {c : Int32} {wh ws wd : Nat → Int32} {x y : Int32} {k : Nat}
theorem latS1 (h : ¬ wh k = x) : latF c wh ws wd x y (k + 1) = latF c wh ws wd x y k := by rw [latF, if_neg (fun z => h z.1)]
theorem latS2 (h : ¬ ws k = y) : latF c wh ws wd x y (k + 1) = latF c wh ws wd x y k := by rw [latF, if_neg (fun z => h z.2.1)]
theorem latS3 (h : wd k ≤ latF c wh ws wd x y k) : latF c wh ws wd x y (k + 1) = latF c wh ws wd x y k := by rw [latF, if_neg (fun z => absurd z.2.2 (Int32.not_lt.mpr h))]
theorem latS4 (h1 : wh k = x) (h2 : ws k = y) (h3 : ¬ wd k ≤ latF c wh ws wd x y k) : latF c wh ws wd x y (k + 1) = wd k := by rw [latF, if_pos ⟨h1, h2, Int32.not_le.mp h3⟩]
end LatS
set_option maxRecDepth 100000 in
set_option maxHeartbeats 1000000 in
theorem tM_due_l {d : Nat} {M : Mem} {Φ : Option Int32 → Mem → Prop} {j s w : Nat} (hw : M.1 62 50 = nI w) (hwb : w ≤ 200) (hs : s < 3) (h : Φ (some (latF (M.1 65 j) (M.1 96) (M.1 97) (M.1 98) (nI j) (nI s) w + M.1 92 s)) M) : ∀ m i : Nat, i + m = w → JM noRo d mX12_due 38 [some (.ref 62), some (.int (nI j)), some (.int (nI s)), some (.int (latF (M.1 65 j) (M.1 96) (M.1 97) (M.1 98) (nI j) (nI s) i)), some (.int (nI i))] [] M Φ := by
  intro m
  induction m with
  | zero =>
    intro i hi
    refine J_iload dX12_due_38 rfl ?_
    refine J_aload_n dX12_due_40 rfl ?_
    refine M_getI dX12_due_41 fX12_337 rfl rfl (by decide) ?_
    refine J_icmp_ge (tgt := 94) dX12_due_44 (by decide) (fun c1 => ?_) (fun c1 => ?_)
    · -- to 94
      refine J_iload_n dX12_due_94 rfl ?_
      refine J_aload_n dX12_due_95 rfl ?_
      refine M_getR dX12_due_96 fX12_102 rfl rfl (by decide) ?_
      refine J_iload_n dX12_due_99 rfl ?_
      refine M_ialdE dX12_due_100 rfl (by decide) (by first | rfl | assumption) (by omega) ?_
      refine J_iadd dX12_due_101 ?_
      refine M_iret dX12_due_102 rfl rfl ?_
      obtain rfl : i = w := by omega
      exact h
    · -- on 47
      exact absurd (by rw [hw]; exact nI_le (by omega) (by omega)) c1
  | succ m ih =>
    intro i hi
    refine J_iload dX12_due_38 rfl ?_
    refine J_aload_n dX12_due_40 rfl ?_
    refine M_getI dX12_due_41 fX12_337 rfl rfl (by decide) ?_
    refine J_icmp_ge (tgt := 94) dX12_due_44 (by decide) (fun c1 => ?_) (fun c1 => ?_)
    · -- to 94
      exact absurd c1 (by rw [hw]; exact nI_ge (by omega) (by omega))
    · -- on 47
      refine J_aload_n dX12_due_47 rfl ?_
      refine M_getR dX12_due_48 fX12_114 rfl rfl (by decide) ?_
      refine J_iload dX12_due_51 rfl ?_
      refine M_ialdE dX12_due_53 rfl (by decide) (by first | rfl | assumption) (by omega) ?_
      refine J_iload_n dX12_due_54 rfl ?_
      refine J_icmp_ne (tgt := 88) dX12_due_55 (by decide) (fun c2 => ?_) (fun c2 => ?_)
      · -- to 88
        refine J_iinc (v := nI (i + 1)) dX12_due_88 rfl (nI_1 i) (by decide) rfl ?_
        dsimp only [setL]
        refine J_goto (tgt := 38) dX12_due_91 (by decide) ?_
        have q := ih (i + 1) (by omega)
        first
        | (rw [latS4 cA cB cC] at q; exact q)
        | (rw [latS1 c2] at q; exact q)
        | (rw [latS2 c2] at q; exact q)
        | (rw [latS3 c2] at q; exact q)
      · -- on 58
        have cA := c2
        refine J_aload_n dX12_due_58 rfl ?_
        refine M_getR dX12_due_59 fX12_117 rfl rfl (by decide) ?_
        refine J_iload dX12_due_62 rfl ?_
        refine M_ialdE dX12_due_64 rfl (by decide) (by first | rfl | assumption) (by omega) ?_
        refine J_iload_n dX12_due_65 rfl ?_
        refine J_icmp_ne (tgt := 88) dX12_due_66 (by decide) (fun c3 => ?_) (fun c3 => ?_)
        · -- to 88
          refine J_iinc (v := nI (i + 1)) dX12_due_88 rfl (nI_1 i) (by decide) rfl ?_
          dsimp only [setL]
          refine J_goto (tgt := 38) dX12_due_91 (by decide) ?_
          have q := ih (i + 1) (by omega)
          first
          | (rw [latS4 cA cB cC] at q; exact q)
          | (rw [latS1 c3] at q; exact q)
          | (rw [latS2 c3] at q; exact q)
          | (rw [latS3 c3] at q; exact q)
        · -- on 69
          have cB := c3
          refine J_aload_n dX12_due_69 rfl ?_
          refine M_getR dX12_due_70 fX12_120 rfl rfl (by decide) ?_
          refine J_iload dX12_due_73 rfl ?_
          refine M_ialdE dX12_due_75 rfl (by decide) (by first | rfl | assumption) (by omega) ?_
          refine J_iload_n dX12_due_76 rfl ?_
          refine J_icmp_le (tgt := 88) dX12_due_77 (by decide) (fun c4 => ?_) (fun c4 => ?_)
          · -- to 88
            refine J_iinc (v := nI (i + 1)) dX12_due_88 rfl (nI_1 i) (by decide) rfl ?_
            dsimp only [setL]
            refine J_goto (tgt := 38) dX12_due_91 (by decide) ?_
            have q := ih (i + 1) (by omega)
            first
            | (rw [latS4 cA cB cC] at q; exact q)
            | (rw [latS1 c4] at q; exact q)
            | (rw [latS2 c4] at q; exact q)
            | (rw [latS3 c4] at q; exact q)
          · -- on 80
            have cC := c4
            refine J_aload_n dX12_due_80 rfl ?_
            refine M_getR dX12_due_81 fX12_120 rfl rfl (by decide) ?_
            refine J_iload dX12_due_84 rfl ?_
            refine M_ialdE dX12_due_86 rfl (by decide) (by first | rfl | assumption) (by omega) ?_
            refine J_istore_n dX12_due_87 (by decide) rfl ?_
            dsimp only [setL]
            refine J_iinc (v := nI (i + 1)) dX12_due_88 rfl (nI_1 i) (by decide) rfl ?_
            dsimp only [setL]
            refine J_goto (tgt := 38) dX12_due_91 (by decide) ?_
            have q := ih (i + 1) (by omega)
            first
            | (rw [latS4 cA cB cC] at q; exact q)
            | (rw [latS1 c4] at q; exact q)
            | (rw [latS2 c4] at q; exact q)
            | (rw [latS3 c4] at q; exact q)
set_option maxRecDepth 100000 in
set_option maxHeartbeats 1000000 in
theorem tM_due {d : Nat} {M : Mem} {Φ : Option Int32 → Mem → Prop} {n w : Nat} {x y : Int32} (hn : M.1 62 1 = nI n) (hb : n ≤ 12) (hw : M.1 62 50 = nI w) (hwb : w ≤ 200) (h0 : ¬ (Ix x n ∧ Ix y 3) → Φ (some (-1)) M) (h1 : ∀ j s : Nat, j < n → s < 3 → x = nI j → y = nI s → Φ (some (if M.1 92 s = 0 then -1 else latF (M.1 65 j) (M.1 96) (M.1 97) (M.1 98) (nI j) (nI s) w + M.1 92 s)) M) : JM noRo (d + 1) mX12_due 0 [some (.ref 62), some (.int x), some (.int y)] [] M Φ := by
  refine J_aload_n dX12_due_0 rfl ?_
  refine J_iload_n dX12_due_1 rfl ?_
  refine M_callV1 (mc := mX12_isHorse) dX12_due_2 kX12_142 oX12_isHorse (Nat.le_of_ble_eq_true rfl) (Nat.le_of_ble_eq_true rfl) rfl (by decide) rfl ?_
  refine tX12_isHorse hn hb (fun j hj ej => ?_) (fun q1 => ?_)
  · -- true
    subst ej
    refine J_if_eq (tgt := 26) dX12_due_5 (by decide) (fun c2 => ?_) (fun c2 => ?_)
    · -- to 26
      exact absurd c2 (by decide)
    · -- on 8
      refine J_iload_n dX12_due_8 rfl ?_
      refine J_if_lt (tgt := 26) dX12_due_9 (by decide) (fun c3 => ?_) (fun c3 => ?_)
      · -- to 26
        refine J_iconst (v := -1) dX12_due_26 (by decide) ?_
        refine M_iret dX12_due_27 rfl rfl ?_
        first
        | exact h0 (fun q => q1 q.1)
        | exact h0 (fun q => Ix_neg (by decide) c3 q.2)
        | exact h0 (fun q => Ix_gt (n := 2) (by decide) (Int32.not_le.mpr c3) q.2)
        | (have q := h1 j s hj hs rfl rfl; rw [if_pos c3] at q; exact q)
      · -- on 12
        have y0 := c3
        refine J_iload_n dX12_due_12 rfl ?_
        refine J_iconst (v := 2) dX12_due_13 (by decide) ?_
        refine J_icmp_gt (tgt := 26) dX12_due_14 (by decide) (fun c4 => ?_) (fun c4 => ?_)
        · -- to 26
          refine J_iconst (v := -1) dX12_due_26 (by decide) ?_
          refine M_iret dX12_due_27 rfl rfl ?_
          first
          | exact h0 (fun q => q1 q.1)
          | exact h0 (fun q => Ix_neg (by decide) c4 q.2)
          | exact h0 (fun q => Ix_gt (n := 2) (by decide) (Int32.not_le.mpr c4) q.2)
          | (have q := h1 j s hj hs rfl rfl; rw [if_pos c4] at q; exact q)
        · -- on 17
          obtain ⟨s, hs, rfl⟩ := Ix_le (n := 2) (by decide) y0 (Int32.not_lt.mp c4)
          refine J_aload_n dX12_due_17 rfl ?_
          refine M_getR dX12_due_18 fX12_102 rfl rfl (by decide) ?_
          refine J_iload_n dX12_due_21 rfl ?_
          refine M_ialdE dX12_due_22 rfl (by decide) (by first | rfl | assumption) (by omega) ?_
          refine J_if_ne (tgt := 28) dX12_due_23 (by decide) (fun c5 => ?_) (fun c5 => ?_)
          · -- to 28
            refine J_aload_n dX12_due_28 rfl ?_
            refine M_getR dX12_due_29 fX12_16 rfl rfl (by decide) ?_
            refine J_iload_n dX12_due_32 rfl ?_
            refine M_ialdE dX12_due_33 rfl (by decide) (by first | rfl | assumption) (by omega) ?_
            refine J_istore_n dX12_due_34 (by decide) rfl ?_
            dsimp only [setL]
            refine J_iconst (v := 0) dX12_due_35 (by decide) ?_
            refine J_istore dX12_due_36 (by decide) rfl ?_
            dsimp only [setL]
            have q := h1 j s hj hs rfl rfl
            rw [if_neg c5] at q
            exact tM_due_l hw hwb hs q w 0 (by omega)
          · -- on 26
            refine J_iconst (v := -1) dX12_due_26 (by decide) ?_
            refine M_iret dX12_due_27 rfl rfl ?_
            first
            | exact h0 (fun q => q1 q.1)
            | exact h0 (fun q => Ix_neg (by decide) c5 q.2)
            | exact h0 (fun q => Ix_gt (n := 2) (by decide) (Int32.not_le.mpr c5) q.2)
            | (have q := h1 j s hj hs rfl rfl; rw [if_pos c5] at q; exact q)
  · -- false
    refine J_if_eq (tgt := 26) dX12_due_5 (by decide) (fun c6 => ?_) (fun c6 => ?_)
    · -- to 26
      refine J_iconst (v := -1) dX12_due_26 (by decide) ?_
      refine M_iret dX12_due_27 rfl rfl ?_
      first
      | exact h0 (fun q => q1 q.1)
      | exact h0 (fun q => Ix_neg (by decide) c6 q.2)
      | exact h0 (fun q => Ix_gt (n := 2) (by decide) (Int32.not_le.mpr c6) q.2)
      | (have q := h1 j s hj hs rfl rfl; rw [if_pos c6] at q; exact q)
    · -- on 8
      exact absurd c6 (by decide)
def acF (P : Nat → Bool) (f : Nat → Int32) (s : Int32) : Nat → Int32
  | 0 => s
  | k + 1 => if P k = true then acF P f s k + f k else acF P f s k
theorem acF_add (P : Nat → Bool) (f : Nat → Int32) (s : Int32) : ∀ k, acF P f s k = s + acF P f 0 k
  | 0 => by simp [acF]
  | k + 1 => by
    rw [acF, acF, acF_add P f s k]
    by_cases h : P k = true
    · rw [if_pos h, if_pos h, Int32.add_assoc]
    · rw [if_neg h, if_neg h]
theorem acF_cong {P Q : Nat → Bool} {f g : Nat → Int32} {s : Int32} : ∀ {k : Nat}, (∀ i, i < k → P i = Q i ∧ f i = g i) → acF P f s k = acF Q g s k
  | 0, _ => rfl
  | k + 1, h => by
    rw [acF, acF, acF_cong (fun i hi => h i (by omega)), (h k (by omega)).1, (h k (by omega)).2]
def nP (hs ds : Nat → Int32) (x a b c : Int32) (k : Nat) : Bool := decide (hs k = x ∧ a ≤ ds k ∧ ds k ≤ b ∧ ds k ≤ c)
def wP (hs ds ks : Nat → Int32) (x a b c : Int32) (k : Nat) : Bool := decide (hs k = x ∧ a ≤ ds k ∧ ds k ≤ b ∧ ks k ≤ c)
theorem nS1 {hs ds f : Nat → Int32} {x a b c s : Int32} {k : Nat} (h : ¬ hs k = x) : acF (nP hs ds x a b c) f s (k + 1) = acF (nP hs ds x a b c) f s k := by rw [acF, if_neg]; simp [nP, h]
theorem nS2 {hs ds f : Nat → Int32} {x a b c s : Int32} {k : Nat} (h : ds k < a) : acF (nP hs ds x a b c) f s (k + 1) = acF (nP hs ds x a b c) f s k := by
  have h2 : ¬ a ≤ ds k := Int32.not_le.mpr h
  rw [acF, if_neg]; simp [nP, h2]
theorem nS3 {hs ds f : Nat → Int32} {x a b c s : Int32} {k : Nat} (h : ¬ (ds k ≤ b ∧ ds k ≤ c)) : acF (nP hs ds x a b c) f s (k + 1) = acF (nP hs ds x a b c) f s k := by rw [acF, if_neg]; simp [nP]; intro _ _ h3; exact Int32.not_le.mp (fun h4 => h ⟨h3, h4⟩)
theorem nS4 {hs ds f : Nat → Int32} {x a b c s : Int32} {k : Nat} (h1 : hs k = x) (h2 : ¬ ds k < a) (h3 : ds k ≤ b ∧ ds k ≤ c) : acF (nP hs ds x a b c) f s (k + 1) = acF (nP hs ds x a b c) f s k + f k := by rw [acF, if_pos]; simp [nP, h1, Int32.not_lt.mp h2, h3.1, h3.2]
theorem nS5 {hs ds f : Nat → Int32} {x a b c s : Int32} {k : Nat} (h : b < ds k) : acF (nP hs ds x a b c) f s (k + 1) = acF (nP hs ds x a b c) f s k := nS3 (fun q => absurd q.1 (Int32.not_le.mpr h))
theorem nS6 {hs ds f : Nat → Int32} {x a b c s : Int32} {k : Nat} (h : c < ds k) : acF (nP hs ds x a b c) f s (k + 1) = acF (nP hs ds x a b c) f s k := nS3 (fun q => absurd q.2 (Int32.not_le.mpr h))
theorem wS1 {hs ds ks f : Nat → Int32} {x a b c s : Int32} {k : Nat} (h : ¬ hs k = x) : acF (wP hs ds ks x a b c) f s (k + 1) = acF (wP hs ds ks x a b c) f s k := by rw [acF, if_neg]; simp [wP, h]
theorem wS2 {hs ds ks f : Nat → Int32} {x a b c s : Int32} {k : Nat} (h : ds k < a) : acF (wP hs ds ks x a b c) f s (k + 1) = acF (wP hs ds ks x a b c) f s k := by
  have h2 : ¬ a ≤ ds k := Int32.not_le.mpr h
  rw [acF, if_neg]; simp [wP, h2]
theorem wS3 {hs ds ks f : Nat → Int32} {x a b c s : Int32} {k : Nat} (h : b < ds k) : acF (wP hs ds ks x a b c) f s (k + 1) = acF (wP hs ds ks x a b c) f s k := by
  have h2 : ¬ ds k ≤ b := Int32.not_le.mpr h
  rw [acF, if_neg]; simp [wP, h2]
theorem wS4 {hs ds ks f : Nat → Int32} {x a b c s : Int32} {k : Nat} (h : c < ks k) : acF (wP hs ds ks x a b c) f s (k + 1) = acF (wP hs ds ks x a b c) f s k := by
  have h2 : ¬ ks k ≤ c := Int32.not_le.mpr h
  rw [acF, if_neg]; simp [wP, h2]
theorem wS5 {hs ds ks f : Nat → Int32} {x a b c s : Int32} {k : Nat} (h1 : hs k = x) (h2 : ¬ ds k < a) (h3 : ¬ b < ds k) (h4 : ¬ c < ks k) : acF (wP hs ds ks x a b c) f s (k + 1) = acF (wP hs ds ks x a b c) f s k + f k := by rw [acF, if_pos]; simp [wP, h1, Int32.not_lt.mp h2, Int32.not_lt.mp h3, Int32.not_lt.mp h4]
theorem dcT {p : Prop} [Decidable p] (h : p) : decide p = true := decide_eq_true h
theorem dcF {p : Prop} [Decidable p] (h : ¬ p) : ¬ decide p = true := by simp [h]
set_option maxRecDepth 100000 in
set_option maxHeartbeats 1000000 in
theorem tX4_cost_l {d : Nat} {M : Mem} {Φ : Option Int32 → Mem → Prop} {n : Nat} {x a b c e : Int32} (hn : M.1 51 3 = nI n) (hnb : n ≤ 2000) (he : ∀ z : Int32, ¬ e < z → z ≤ b ∧ z ≤ c) (he2 : ∀ z : Int32, e < z → ¬ (z ≤ b ∧ z ≤ c)) (h : Φ (some (acF (nP (M.1 52) (M.1 53) x a b c) (M.1 54) 0 n)) M) : ∀ m i : Nat, i + m = n → JM noRo d mX4_cost 14 [some (.ref 51), some (.int x), some (.int a), some (.int b), some (.int c), some (.int (acF (nP (M.1 52) (M.1 53) x a b c) (M.1 54) 0 i)), some (.int e), some (.int (nI i))] [] M Φ := by
  intro m
  induction m with
  | zero =>
    intro i hi
    refine J_iload dX4_cost_14 rfl ?_
    refine J_aload_n dX4_cost_16 rfl ?_
    refine M_getI dX4_cost_17 fX4_21 rfl rfl (by decide) ?_
    refine J_icmp_ge (tgt := 75) dX4_cost_20 (by decide) (fun c1 => ?_) (fun c1 => ?_)
    · -- to 75
      refine J_iload dX4_cost_75 rfl ?_
      refine M_iret dX4_cost_77 rfl rfl ?_
      obtain rfl : i = n := by omega
      exact h
    · -- on 23
      exact absurd (by rw [hn]; exact nI_le (by omega) (by omega)) c1
  | succ m ih =>
    intro i hi
    refine J_iload dX4_cost_14 rfl ?_
    refine J_aload_n dX4_cost_16 rfl ?_
    refine M_getI dX4_cost_17 fX4_21 rfl rfl (by decide) ?_
    refine J_icmp_ge (tgt := 75) dX4_cost_20 (by decide) (fun c1 => ?_) (fun c1 => ?_)
    · -- to 75
      exact absurd c1 (by rw [hn]; exact nI_ge (by omega) (by omega))
    · -- on 23
      refine J_aload_n dX4_cost_23 rfl ?_
      refine M_getR dX4_cost_24 fX4_9 rfl rfl (by decide) ?_
      refine J_iload dX4_cost_27 rfl ?_
      refine M_ialdE dX4_cost_29 rfl (by decide) (by first | rfl | assumption) (by omega) ?_
      refine J_iload_n dX4_cost_30 rfl ?_
      refine J_icmp_ne (tgt := 69) dX4_cost_31 (by decide) (fun c2 => ?_) (fun c2 => ?_)
      · -- to 69
        refine J_iinc (v := nI (i + 1)) dX4_cost_69 rfl (nI_1 i) (by decide) rfl ?_
        dsimp only [setL]
        refine J_goto (tgt := 14) dX4_cost_72 (by decide) ?_
        have q := ih (i + 1) (by omega)
        first
        | (rw [nS4 (hs := M.1 52) (ds := M.1 53) (k := i) cA cB (he _ cC)] at q; exact q)
        | (rw [nS1 (hs := M.1 52) (k := i) (x := x) c2] at q; exact q)
        | (rw [nS2 (ds := M.1 53) (k := i) (a := a) c2] at q; exact q)
        | (rw [nS3 (ds := M.1 53) (k := i) (b := b) (c := c) (he2 _ c2)] at q; exact q)
      · -- on 34
        have cA := c2
        refine J_aload_n dX4_cost_34 rfl ?_
        refine M_getR dX4_cost_35 fX4_15 rfl rfl (by decide) ?_
        refine J_iload dX4_cost_38 rfl ?_
        refine M_ialdE dX4_cost_40 rfl (by decide) (by first | rfl | assumption) (by omega) ?_
        refine J_iload_n dX4_cost_41 rfl ?_
        refine J_icmp_lt (tgt := 69) dX4_cost_42 (by decide) (fun c3 => ?_) (fun c3 => ?_)
        · -- to 69
          refine J_iinc (v := nI (i + 1)) dX4_cost_69 rfl (nI_1 i) (by decide) rfl ?_
          dsimp only [setL]
          refine J_goto (tgt := 14) dX4_cost_72 (by decide) ?_
          have q := ih (i + 1) (by omega)
          first
          | (rw [nS4 (hs := M.1 52) (ds := M.1 53) (k := i) cA cB (he _ cC)] at q; exact q)
          | (rw [nS1 (hs := M.1 52) (k := i) (x := x) c3] at q; exact q)
          | (rw [nS2 (ds := M.1 53) (k := i) (a := a) c3] at q; exact q)
          | (rw [nS3 (ds := M.1 53) (k := i) (b := b) (c := c) (he2 _ c3)] at q; exact q)
        · -- on 45
          have cB := c3
          refine J_aload_n dX4_cost_45 rfl ?_
          refine M_getR dX4_cost_46 fX4_15 rfl rfl (by decide) ?_
          refine J_iload dX4_cost_49 rfl ?_
          refine M_ialdE dX4_cost_51 rfl (by decide) (by first | rfl | assumption) (by omega) ?_
          refine J_iload dX4_cost_52 rfl ?_
          refine J_icmp_gt (tgt := 69) dX4_cost_54 (by decide) (fun c4 => ?_) (fun c4 => ?_)
          · -- to 69
            refine J_iinc (v := nI (i + 1)) dX4_cost_69 rfl (nI_1 i) (by decide) rfl ?_
            dsimp only [setL]
            refine J_goto (tgt := 14) dX4_cost_72 (by decide) ?_
            have q := ih (i + 1) (by omega)
            first
            | (rw [nS4 (hs := M.1 52) (ds := M.1 53) (k := i) cA cB (he _ cC)] at q; exact q)
            | (rw [nS1 (hs := M.1 52) (k := i) (x := x) c4] at q; exact q)
            | (rw [nS2 (ds := M.1 53) (k := i) (a := a) c4] at q; exact q)
            | (rw [nS3 (ds := M.1 53) (k := i) (b := b) (c := c) (he2 _ c4)] at q; exact q)
          · -- on 57
            have cC := c4
            refine J_iload dX4_cost_57 rfl ?_
            refine J_aload_n dX4_cost_59 rfl ?_
            refine M_getR dX4_cost_60 fX4_18 rfl rfl (by decide) ?_
            refine J_iload dX4_cost_63 rfl ?_
            refine M_ialdE dX4_cost_65 rfl (by decide) (by first | rfl | assumption) (by omega) ?_
            refine J_iadd dX4_cost_66 ?_
            refine J_istore dX4_cost_67 (by decide) rfl ?_
            dsimp only [setL]
            refine J_iinc (v := nI (i + 1)) dX4_cost_69 rfl (nI_1 i) (by decide) rfl ?_
            dsimp only [setL]
            refine J_goto (tgt := 14) dX4_cost_72 (by decide) ?_
            have q := ih (i + 1) (by omega)
            first
            | (rw [nS4 (hs := M.1 52) (ds := M.1 53) (k := i) cA cB (he _ cC)] at q; exact q)
            | (rw [nS1 (hs := M.1 52) (k := i) (x := x) c4] at q; exact q)
            | (rw [nS2 (ds := M.1 53) (k := i) (a := a) c4] at q; exact q)
            | (rw [nS3 (ds := M.1 53) (k := i) (b := b) (c := c) (he2 _ c4)] at q; exact q)
set_option maxRecDepth 100000 in
set_option maxHeartbeats 1000000 in
theorem tX4_cost {d : Nat} {M : Mem} {Φ : Option Int32 → Mem → Prop} {n : Nat} {x a b c : Int32} (hn : M.1 51 3 = nI n) (hnb : n ≤ 2000) (h : Φ (some (acF (nP (M.1 52) (M.1 53) x a b c) (M.1 54) 0 n)) M) : JM noRo (d + 1) mX4_cost 0 [some (.ref 51), some (.int x), some (.int a), some (.int b), some (.int c)] [] M Φ := by
  refine J_iconst (v := 0) dX4_cost_0 (by decide) ?_
  refine J_istore dX4_cost_1 (by decide) rfl ?_
  dsimp only [setL]
  refine J_iload_n dX4_cost_3 rfl ?_
  refine J_iload dX4_cost_4 rfl ?_
  refine J_mmin dX4_cost_6 kX4_25 ma_min_s ma_ini ma_min_c (Nat.le_of_ble_eq_true rfl) ?_
  refine J_istore dX4_cost_9 (by decide) rfl ?_
  dsimp only [setL]
  refine J_iconst (v := 0) dX4_cost_11 (by decide) ?_
  refine J_istore dX4_cost_12 (by decide) rfl ?_
  dsimp only [setL]
  exact tX4_cost_l (e := if c < b then c else b) hn hnb (fun z k => by
    have k := Int32.not_lt.mp k
    by_cases hq : c < b
    · rw [if_pos hq] at k; exact ⟨Int32.le_trans k (Int32.le_of_lt hq), k⟩
    · rw [if_neg hq] at k; exact ⟨k, Int32.le_trans k (Int32.not_lt.mp hq)⟩) (fun z k => by
    by_cases hq : c < b
    · rw [if_pos hq] at k; exact fun r => absurd r.2 (Int32.not_le.mpr k)
    · rw [if_neg hq] at k; exact fun r => absurd r.1 (Int32.not_le.mpr k)) h n 0 (by omega)
set_option maxRecDepth 100000 in
set_option maxHeartbeats 1000000 in
theorem tX10_cost_l {d : Nat} {M : Mem} {Φ : Option Int32 → Mem → Prop} {n : Nat} {x a b c : Int32} (hn : M.1 55 6 = nI n) (hnb : n ≤ 200) (h : Φ (some (acF (wP (M.1 56) (M.1 57) (M.1 58) x a b c) (M.1 59) 0 n)) M) : ∀ m i : Nat, i + m = n → JM noRo d mX10_cost 6 [some (.ref 55), some (.int x), some (.int a), some (.int b), some (.int c), some (.int (acF (wP (M.1 56) (M.1 57) (M.1 58) x a b c) (M.1 59) 0 i)), some (.int (nI i))] [] M Φ := by
  intro m
  induction m with
  | zero =>
    intro i hi
    refine J_iload dX10_cost_6 rfl ?_
    refine J_aload_n dX10_cost_8 rfl ?_
    refine M_getI dX10_cost_9 fX10_30 rfl rfl (by decide) ?_
    refine J_icmp_ge (tgt := 90) dX10_cost_12 (by decide) (fun c1 => ?_) (fun c1 => ?_)
    · -- to 90
      refine J_iload dX10_cost_90 rfl ?_
      refine M_iret dX10_cost_92 rfl rfl ?_
      obtain rfl : i = n := by omega
      exact h
    · -- on 15
      exact absurd (by rw [hn]; exact nI_le (by omega) (by omega)) c1
  | succ m ih =>
    intro i hi
    refine J_iload dX10_cost_6 rfl ?_
    refine J_aload_n dX10_cost_8 rfl ?_
    refine M_getI dX10_cost_9 fX10_30 rfl rfl (by decide) ?_
    refine J_icmp_ge (tgt := 90) dX10_cost_12 (by decide) (fun c1 => ?_) (fun c1 => ?_)
    · -- to 90
      exact absurd c1 (by rw [hn]; exact nI_ge (by omega) (by omega))
    · -- on 15
      refine J_aload_n dX10_cost_15 rfl ?_
      refine M_getR dX10_cost_16 fX10_15 rfl rfl (by decide) ?_
      refine J_iload dX10_cost_19 rfl ?_
      refine M_ialdE dX10_cost_21 rfl (by decide) (by first | rfl | assumption) (by omega) ?_
      refine J_iload_n dX10_cost_22 rfl ?_
      refine J_icmp_lt (tgt := 41) dX10_cost_23 (by decide) (fun c2 => ?_) (fun c2 => ?_)
      · -- to 41
        have cN := c2
        refine J_iconst (v := 0) dX10_cost_41 (by decide) ?_
        refine J_istore dX10_cost_42 (by decide) rfl ?_
        dsimp only [setL]
        refine J_aload_n dX10_cost_44 rfl ?_
        refine M_getR dX10_cost_45 fX10_9 rfl rfl (by decide) ?_
        refine J_iload dX10_cost_48 rfl ?_
        refine M_ialdE dX10_cost_50 rfl (by decide) (by first | rfl | assumption) (by omega) ?_
        refine J_iload_n dX10_cost_51 rfl ?_
        refine J_icmp_ne (tgt := 84) dX10_cost_52 (by decide) (fun c3 => ?_) (fun c3 => ?_)
        · -- to 84
          refine J_iinc (v := nI (i + 1)) dX10_cost_84 rfl (nI_1 i) (by decide) rfl ?_
          dsimp only [setL]
          refine J_goto (tgt := 6) dX10_cost_87 (by decide) ?_
          refine J_dropN 7 ?_
          have q := ih (i + 1) (by omega)
          first
          | (rw [wS5 (hs := M.1 56) (ds := M.1 57) (ks := M.1 58) (k := i) cH cA cB cC] at q; exact q)
          | (rw [wS1 (hs := M.1 56) (k := i) (x := x) c3] at q; exact q)
          | (rw [wS2 (ds := M.1 57) (k := i) (a := a) cN] at q; exact q)
          | (rw [wS3 (ds := M.1 57) (k := i) (b := b) cN] at q; exact q)
          | (rw [wS4 (ks := M.1 58) (k := i) (c := c) c3] at q; exact q)
        · -- on 55
          have cH := c3
          refine J_iload dX10_cost_55 rfl ?_
          refine J_if_eq (tgt := 84) dX10_cost_57 (by decide) (fun c4 => ?_) (fun c4 => ?_)
          · -- to 84
            refine J_iinc (v := nI (i + 1)) dX10_cost_84 rfl (nI_1 i) (by decide) rfl ?_
            dsimp only [setL]
            refine J_goto (tgt := 6) dX10_cost_87 (by decide) ?_
            refine J_dropN 7 ?_
            have q := ih (i + 1) (by omega)
            first
            | (rw [wS5 (hs := M.1 56) (ds := M.1 57) (ks := M.1 58) (k := i) cH cA cB cC] at q; exact q)
            | (rw [wS1 (hs := M.1 56) (k := i) (x := x) c4] at q; exact q)
            | (rw [wS2 (ds := M.1 57) (k := i) (a := a) cN] at q; exact q)
            | (rw [wS3 (ds := M.1 57) (k := i) (b := b) cN] at q; exact q)
            | (rw [wS4 (ks := M.1 58) (k := i) (c := c) c4] at q; exact q)
          · -- on 60
            exact absurd c4 (by decide)
      · -- on 26
        have cA := c2
        refine J_aload_n dX10_cost_26 rfl ?_
        refine M_getR dX10_cost_27 fX10_15 rfl rfl (by decide) ?_
        refine J_iload dX10_cost_30 rfl ?_
        refine M_ialdE dX10_cost_32 rfl (by decide) (by first | rfl | assumption) (by omega) ?_
        refine J_iload_n dX10_cost_33 rfl ?_
        refine J_icmp_gt (tgt := 41) dX10_cost_34 (by decide) (fun c5 => ?_) (fun c5 => ?_)
        · -- to 41
          have cN := c5
          refine J_iconst (v := 0) dX10_cost_41 (by decide) ?_
          refine J_istore dX10_cost_42 (by decide) rfl ?_
          dsimp only [setL]
          refine J_aload_n dX10_cost_44 rfl ?_
          refine M_getR dX10_cost_45 fX10_9 rfl rfl (by decide) ?_
          refine J_iload dX10_cost_48 rfl ?_
          refine M_ialdE dX10_cost_50 rfl (by decide) (by first | rfl | assumption) (by omega) ?_
          refine J_iload_n dX10_cost_51 rfl ?_
          refine J_icmp_ne (tgt := 84) dX10_cost_52 (by decide) (fun c6 => ?_) (fun c6 => ?_)
          · -- to 84
            refine J_iinc (v := nI (i + 1)) dX10_cost_84 rfl (nI_1 i) (by decide) rfl ?_
            dsimp only [setL]
            refine J_goto (tgt := 6) dX10_cost_87 (by decide) ?_
            refine J_dropN 7 ?_
            have q := ih (i + 1) (by omega)
            first
            | (rw [wS5 (hs := M.1 56) (ds := M.1 57) (ks := M.1 58) (k := i) cH cA cB cC] at q; exact q)
            | (rw [wS1 (hs := M.1 56) (k := i) (x := x) c6] at q; exact q)
            | (rw [wS2 (ds := M.1 57) (k := i) (a := a) cN] at q; exact q)
            | (rw [wS3 (ds := M.1 57) (k := i) (b := b) cN] at q; exact q)
            | (rw [wS4 (ks := M.1 58) (k := i) (c := c) c6] at q; exact q)
          · -- on 55
            have cH := c6
            refine J_iload dX10_cost_55 rfl ?_
            refine J_if_eq (tgt := 84) dX10_cost_57 (by decide) (fun c7 => ?_) (fun c7 => ?_)
            · -- to 84
              refine J_iinc (v := nI (i + 1)) dX10_cost_84 rfl (nI_1 i) (by decide) rfl ?_
              dsimp only [setL]
              refine J_goto (tgt := 6) dX10_cost_87 (by decide) ?_
              refine J_dropN 7 ?_
              have q := ih (i + 1) (by omega)
              first
              | (rw [wS5 (hs := M.1 56) (ds := M.1 57) (ks := M.1 58) (k := i) cH cA cB cC] at q; exact q)
              | (rw [wS1 (hs := M.1 56) (k := i) (x := x) c7] at q; exact q)
              | (rw [wS2 (ds := M.1 57) (k := i) (a := a) cN] at q; exact q)
              | (rw [wS3 (ds := M.1 57) (k := i) (b := b) cN] at q; exact q)
              | (rw [wS4 (ks := M.1 58) (k := i) (c := c) c7] at q; exact q)
            · -- on 60
              exact absurd c7 (by decide)
        · -- on 37
          have cB := c5
          refine J_iconst (v := 1) dX10_cost_37 (by decide) ?_
          refine J_goto (tgt := 42) dX10_cost_38 (by decide) ?_
          refine J_istore dX10_cost_42 (by decide) rfl ?_
          dsimp only [setL]
          refine J_aload_n dX10_cost_44 rfl ?_
          refine M_getR dX10_cost_45 fX10_9 rfl rfl (by decide) ?_
          refine J_iload dX10_cost_48 rfl ?_
          refine M_ialdE dX10_cost_50 rfl (by decide) (by first | rfl | assumption) (by omega) ?_
          refine J_iload_n dX10_cost_51 rfl ?_
          refine J_icmp_ne (tgt := 84) dX10_cost_52 (by decide) (fun c8 => ?_) (fun c8 => ?_)
          · -- to 84
            refine J_iinc (v := nI (i + 1)) dX10_cost_84 rfl (nI_1 i) (by decide) rfl ?_
            dsimp only [setL]
            refine J_goto (tgt := 6) dX10_cost_87 (by decide) ?_
            refine J_dropN 7 ?_
            have q := ih (i + 1) (by omega)
            first
            | (rw [wS5 (hs := M.1 56) (ds := M.1 57) (ks := M.1 58) (k := i) cH cA cB cC] at q; exact q)
            | (rw [wS1 (hs := M.1 56) (k := i) (x := x) c8] at q; exact q)
            | (rw [wS2 (ds := M.1 57) (k := i) (a := a) cN] at q; exact q)
            | (rw [wS3 (ds := M.1 57) (k := i) (b := b) cN] at q; exact q)
            | (rw [wS4 (ks := M.1 58) (k := i) (c := c) c8] at q; exact q)
          · -- on 55
            have cH := c8
            refine J_iload dX10_cost_55 rfl ?_
            refine J_if_eq (tgt := 84) dX10_cost_57 (by decide) (fun c9 => ?_) (fun c9 => ?_)
            · -- to 84
              exact absurd c9 (by decide)
            · -- on 60
              refine J_aload_n dX10_cost_60 rfl ?_
              refine M_getR dX10_cost_61 fX10_18 rfl rfl (by decide) ?_
              refine J_iload dX10_cost_64 rfl ?_
              refine M_ialdE dX10_cost_66 rfl (by decide) (by first | rfl | assumption) (by omega) ?_
              refine J_iload dX10_cost_67 rfl ?_
              refine J_icmp_gt (tgt := 84) dX10_cost_69 (by decide) (fun c10 => ?_) (fun c10 => ?_)
              · -- to 84
                refine J_iinc (v := nI (i + 1)) dX10_cost_84 rfl (nI_1 i) (by decide) rfl ?_
                dsimp only [setL]
                refine J_goto (tgt := 6) dX10_cost_87 (by decide) ?_
                refine J_dropN 7 ?_
                have q := ih (i + 1) (by omega)
                first
                | (rw [wS5 (hs := M.1 56) (ds := M.1 57) (ks := M.1 58) (k := i) cH cA cB cC] at q; exact q)
                | (rw [wS1 (hs := M.1 56) (k := i) (x := x) c10] at q; exact q)
                | (rw [wS2 (ds := M.1 57) (k := i) (a := a) cN] at q; exact q)
                | (rw [wS3 (ds := M.1 57) (k := i) (b := b) cN] at q; exact q)
                | (rw [wS4 (ks := M.1 58) (k := i) (c := c) c10] at q; exact q)
              · -- on 72
                have cC := c10
                refine J_iload dX10_cost_72 rfl ?_
                refine J_aload_n dX10_cost_74 rfl ?_
                refine M_getR dX10_cost_75 fX10_21 rfl rfl (by decide) ?_
                refine J_iload dX10_cost_78 rfl ?_
                refine M_ialdE dX10_cost_80 rfl (by decide) (by first | rfl | assumption) (by omega) ?_
                refine J_iadd dX10_cost_81 ?_
                refine J_istore dX10_cost_82 (by decide) rfl ?_
                dsimp only [setL]
                refine J_iinc (v := nI (i + 1)) dX10_cost_84 rfl (nI_1 i) (by decide) rfl ?_
                dsimp only [setL]
                refine J_goto (tgt := 6) dX10_cost_87 (by decide) ?_
                refine J_dropN 7 ?_
                have q := ih (i + 1) (by omega)
                first
                | (rw [wS5 (hs := M.1 56) (ds := M.1 57) (ks := M.1 58) (k := i) cH cA cB cC] at q; exact q)
                | (rw [wS1 (hs := M.1 56) (k := i) (x := x) c10] at q; exact q)
                | (rw [wS2 (ds := M.1 57) (k := i) (a := a) cN] at q; exact q)
                | (rw [wS3 (ds := M.1 57) (k := i) (b := b) cN] at q; exact q)
                | (rw [wS4 (ks := M.1 58) (k := i) (c := c) c10] at q; exact q)
set_option maxRecDepth 100000 in
set_option maxHeartbeats 1000000 in
theorem tX10_cost {d : Nat} {M : Mem} {Φ : Option Int32 → Mem → Prop} {n : Nat} {x a b c : Int32} (hn : M.1 55 6 = nI n) (hnb : n ≤ 200) (h : Φ (some (acF (wP (M.1 56) (M.1 57) (M.1 58) x a b c) (M.1 59) 0 n)) M) : JM noRo d mX10_cost 0 [some (.ref 55), some (.int x), some (.int a), some (.int b), some (.int c)] [] M Φ := by
  refine J_iconst (v := 0) dX10_cost_0 (by decide) ?_
  refine J_istore dX10_cost_1 (by decide) rfl ?_
  dsimp only [setL]
  refine J_iconst (v := 0) dX10_cost_3 (by decide) ?_
  refine J_istore dX10_cost_4 (by decide) rfl ?_
  dsimp only [setL]
  exact tX10_cost_l hn hnb h n 0 (by omega)
set_option maxRecDepth 100000 in
set_option maxHeartbeats 1000000 in
theorem tM_bill_n {d : Nat} {M : Mem} {Φ : Option Int32 → Mem → Prop} {n j : Nat} {a b c : Int32} (hn : M.1 62 49 = nI n) (hnb : n ≤ 2000) (h : JM noRo d mX12_bill 93 [some (.ref 62), some (.int (nI j)), some (.int a), some (.int b), some (.int c), some (.int (acF (nP (M.1 93) (M.1 94) (nI j) a b c) (M.1 95) 0 n))] [] M Φ) : ∀ m i : Nat, i + m = n → JM noRo d mX12_bill 21 [some (.ref 62), some (.int (nI j)), some (.int a), some (.int b), some (.int c), some (.int (acF (nP (M.1 93) (M.1 94) (nI j) a b c) (M.1 95) 0 i)), some (.int (nI i))] [] M Φ := by
  intro m
  induction m with
  | zero =>
    intro i hi
    refine J_iload dX12_bill_21 rfl ?_
    refine J_aload_n dX12_bill_23 rfl ?_
    refine M_getI dX12_bill_24 fX12_330 rfl rfl (by decide) ?_
    refine J_icmp_ge (tgt := 93) dX12_bill_27 (by decide) (fun c1 => ?_) (fun c1 => ?_)
    · -- to 93
      refine J_dropN 6 ?_
      obtain rfl : i = n := by omega
      exact h
    · -- on 30
      exact absurd (by rw [hn]; exact nI_le (by omega) (by omega)) c1
  | succ m ih =>
    intro i hi
    refine J_iload dX12_bill_21 rfl ?_
    refine J_aload_n dX12_bill_23 rfl ?_
    refine M_getI dX12_bill_24 fX12_330 rfl rfl (by decide) ?_
    refine J_icmp_ge (tgt := 93) dX12_bill_27 (by decide) (fun c1 => ?_) (fun c1 => ?_)
    · -- to 93
      exact absurd c1 (by rw [hn]; exact nI_ge (by omega) (by omega))
    · -- on 30
      refine J_aload_n dX12_bill_30 rfl ?_
      refine M_getR dX12_bill_31 fX12_105 rfl rfl (by decide) ?_
      refine J_iload dX12_bill_34 rfl ?_
      refine M_ialdE dX12_bill_36 rfl (by decide) (by first | rfl | assumption) (by omega) ?_
      refine J_iload_n dX12_bill_37 rfl ?_
      refine J_icmp_ne (tgt := 87) dX12_bill_38 (by decide) (fun c2 => ?_) (fun c2 => ?_)
      · -- to 87
        refine J_iinc (v := nI (i + 1)) dX12_bill_87 rfl (nI_1 i) (by decide) rfl ?_
        dsimp only [setL]
        refine J_goto (tgt := 21) dX12_bill_90 (by decide) ?_
        have q := ih (i + 1) (by omega)
        first
        | (rw [nS4 (hs := M.1 93) (ds := M.1 94) (k := i) cA cB ⟨Int32.not_lt.mp cC, Int32.not_lt.mp cD⟩] at q; exact q)
        | (rw [nS1 (hs := M.1 93) (k := i) (x := nI j) c2] at q; exact q)
        | (rw [nS2 (ds := M.1 94) (k := i) (a := a) c2] at q; exact q)
        | (rw [nS5 (ds := M.1 94) (k := i) (b := b) c2] at q; exact q)
        | (rw [nS6 (ds := M.1 94) (k := i) (c := c) c2] at q; exact q)
      · -- on 41
        have cA := c2
        refine J_aload_n dX12_bill_41 rfl ?_
        refine M_getR dX12_bill_42 fX12_108 rfl rfl (by decide) ?_
        refine J_iload dX12_bill_45 rfl ?_
        refine M_ialdE dX12_bill_47 rfl (by decide) (by first | rfl | assumption) (by omega) ?_
        refine J_iload_n dX12_bill_48 rfl ?_
        refine J_icmp_lt (tgt := 87) dX12_bill_49 (by decide) (fun c3 => ?_) (fun c3 => ?_)
        · -- to 87
          refine J_iinc (v := nI (i + 1)) dX12_bill_87 rfl (nI_1 i) (by decide) rfl ?_
          dsimp only [setL]
          refine J_goto (tgt := 21) dX12_bill_90 (by decide) ?_
          have q := ih (i + 1) (by omega)
          first
          | (rw [nS4 (hs := M.1 93) (ds := M.1 94) (k := i) cA cB ⟨Int32.not_lt.mp cC, Int32.not_lt.mp cD⟩] at q; exact q)
          | (rw [nS1 (hs := M.1 93) (k := i) (x := nI j) c3] at q; exact q)
          | (rw [nS2 (ds := M.1 94) (k := i) (a := a) c3] at q; exact q)
          | (rw [nS5 (ds := M.1 94) (k := i) (b := b) c3] at q; exact q)
          | (rw [nS6 (ds := M.1 94) (k := i) (c := c) c3] at q; exact q)
        · -- on 52
          have cB := c3
          refine J_aload_n dX12_bill_52 rfl ?_
          refine M_getR dX12_bill_53 fX12_108 rfl rfl (by decide) ?_
          refine J_iload dX12_bill_56 rfl ?_
          refine M_ialdE dX12_bill_58 rfl (by decide) (by first | rfl | assumption) (by omega) ?_
          refine J_iload_n dX12_bill_59 rfl ?_
          refine J_icmp_gt (tgt := 87) dX12_bill_60 (by decide) (fun c4 => ?_) (fun c4 => ?_)
          · -- to 87
            refine J_iinc (v := nI (i + 1)) dX12_bill_87 rfl (nI_1 i) (by decide) rfl ?_
            dsimp only [setL]
            refine J_goto (tgt := 21) dX12_bill_90 (by decide) ?_
            have q := ih (i + 1) (by omega)
            first
            | (rw [nS4 (hs := M.1 93) (ds := M.1 94) (k := i) cA cB ⟨Int32.not_lt.mp cC, Int32.not_lt.mp cD⟩] at q; exact q)
            | (rw [nS1 (hs := M.1 93) (k := i) (x := nI j) c4] at q; exact q)
            | (rw [nS2 (ds := M.1 94) (k := i) (a := a) c4] at q; exact q)
            | (rw [nS5 (ds := M.1 94) (k := i) (b := b) c4] at q; exact q)
            | (rw [nS6 (ds := M.1 94) (k := i) (c := c) c4] at q; exact q)
          · -- on 63
            have cC := c4
            refine J_aload_n dX12_bill_63 rfl ?_
            refine M_getR dX12_bill_64 fX12_108 rfl rfl (by decide) ?_
            refine J_iload dX12_bill_67 rfl ?_
            refine M_ialdE dX12_bill_69 rfl (by decide) (by first | rfl | assumption) (by omega) ?_
            refine J_iload dX12_bill_70 rfl ?_
            refine J_icmp_gt (tgt := 87) dX12_bill_72 (by decide) (fun c5 => ?_) (fun c5 => ?_)
            · -- to 87
              refine J_iinc (v := nI (i + 1)) dX12_bill_87 rfl (nI_1 i) (by decide) rfl ?_
              dsimp only [setL]
              refine J_goto (tgt := 21) dX12_bill_90 (by decide) ?_
              have q := ih (i + 1) (by omega)
              first
              | (rw [nS4 (hs := M.1 93) (ds := M.1 94) (k := i) cA cB ⟨Int32.not_lt.mp cC, Int32.not_lt.mp cD⟩] at q; exact q)
              | (rw [nS1 (hs := M.1 93) (k := i) (x := nI j) c5] at q; exact q)
              | (rw [nS2 (ds := M.1 94) (k := i) (a := a) c5] at q; exact q)
              | (rw [nS5 (ds := M.1 94) (k := i) (b := b) c5] at q; exact q)
              | (rw [nS6 (ds := M.1 94) (k := i) (c := c) c5] at q; exact q)
            · -- on 75
              have cD := c5
              refine J_iload dX12_bill_75 rfl ?_
              refine J_aload_n dX12_bill_77 rfl ?_
              refine M_getR dX12_bill_78 fX12_111 rfl rfl (by decide) ?_
              refine J_iload dX12_bill_81 rfl ?_
              refine M_ialdE dX12_bill_83 rfl (by decide) (by first | rfl | assumption) (by omega) ?_
              refine J_iadd dX12_bill_84 ?_
              refine J_istore dX12_bill_85 (by decide) rfl ?_
              dsimp only [setL]
              refine J_iinc (v := nI (i + 1)) dX12_bill_87 rfl (nI_1 i) (by decide) rfl ?_
              dsimp only [setL]
              refine J_goto (tgt := 21) dX12_bill_90 (by decide) ?_
              have q := ih (i + 1) (by omega)
              first
              | (rw [nS4 (hs := M.1 93) (ds := M.1 94) (k := i) cA cB ⟨Int32.not_lt.mp cC, Int32.not_lt.mp cD⟩] at q; exact q)
              | (rw [nS1 (hs := M.1 93) (k := i) (x := nI j) c5] at q; exact q)
              | (rw [nS2 (ds := M.1 94) (k := i) (a := a) c5] at q; exact q)
              | (rw [nS5 (ds := M.1 94) (k := i) (b := b) c5] at q; exact q)
              | (rw [nS6 (ds := M.1 94) (k := i) (c := c) c5] at q; exact q)
set_option maxRecDepth 100000 in
set_option maxHeartbeats 1000000 in
theorem tM_bill_w {d : Nat} {M : Mem} {Φ : Option Int32 → Mem → Prop} {n j : Nat} {a b c r : Int32} (hn : M.1 62 50 = nI n) (hnb : n ≤ 200) (h : Φ (some (acF (wP (M.1 96) (M.1 98) (M.1 99) (nI j) a b c) (M.1 100) (r) n)) M) : ∀ m i : Nat, i + m = n → JM noRo d mX12_bill 96 [some (.ref 62), some (.int (nI j)), some (.int a), some (.int b), some (.int c), some (.int (acF (wP (M.1 96) (M.1 98) (M.1 99) (nI j) a b c) (M.1 100) (r) i)), some (.int (nI i))] [] M Φ := by
  intro m
  induction m with
  | zero =>
    intro i hi
    refine J_iload dX12_bill_96 rfl ?_
    refine J_aload_n dX12_bill_98 rfl ?_
    refine M_getI dX12_bill_99 fX12_337 rfl rfl (by decide) ?_
    refine J_icmp_ge (tgt := 168) dX12_bill_102 (by decide) (fun c1 => ?_) (fun c1 => ?_)
    · -- to 168
      refine J_iload dX12_bill_168 rfl ?_
      refine M_iret dX12_bill_170 rfl rfl ?_
      obtain rfl : i = n := by omega
      exact h
    · -- on 105
      exact absurd (by rw [hn]; exact nI_le (by omega) (by omega)) c1
  | succ m ih =>
    intro i hi
    refine J_iload dX12_bill_96 rfl ?_
    refine J_aload_n dX12_bill_98 rfl ?_
    refine M_getI dX12_bill_99 fX12_337 rfl rfl (by decide) ?_
    refine J_icmp_ge (tgt := 168) dX12_bill_102 (by decide) (fun c1 => ?_) (fun c1 => ?_)
    · -- to 168
      exact absurd c1 (by rw [hn]; exact nI_ge (by omega) (by omega))
    · -- on 105
      refine J_aload_n dX12_bill_105 rfl ?_
      refine M_getR dX12_bill_106 fX12_114 rfl rfl (by decide) ?_
      refine J_iload dX12_bill_109 rfl ?_
      refine M_ialdE dX12_bill_111 rfl (by decide) (by first | rfl | assumption) (by omega) ?_
      refine J_iload_n dX12_bill_112 rfl ?_
      refine J_icmp_ne (tgt := 162) dX12_bill_113 (by decide) (fun c2 => ?_) (fun c2 => ?_)
      · -- to 162
        refine J_iinc (v := nI (i + 1)) dX12_bill_162 rfl (nI_1 i) (by decide) rfl ?_
        dsimp only [setL]
        refine J_goto (tgt := 96) dX12_bill_165 (by decide) ?_
        have q := ih (i + 1) (by omega)
        first
        | (rw [wS5 (hs := M.1 96) (ds := M.1 98) (ks := M.1 99) (k := i) cH cA cB cC] at q; exact q)
        | (rw [wS1 (hs := M.1 96) (k := i) (x := nI j) c2] at q; exact q)
        | (rw [wS2 (ds := M.1 98) (k := i) (a := a) c2] at q; exact q)
        | (rw [wS3 (ds := M.1 98) (k := i) (b := b) c2] at q; exact q)
        | (rw [wS4 (ks := M.1 99) (k := i) (c := c) c2] at q; exact q)
      · -- on 116
        have cH := c2
        refine J_aload_n dX12_bill_116 rfl ?_
        refine M_getR dX12_bill_117 fX12_120 rfl rfl (by decide) ?_
        refine J_iload dX12_bill_120 rfl ?_
        refine M_ialdE dX12_bill_122 rfl (by decide) (by first | rfl | assumption) (by omega) ?_
        refine J_iload_n dX12_bill_123 rfl ?_
        refine J_icmp_lt (tgt := 162) dX12_bill_124 (by decide) (fun c3 => ?_) (fun c3 => ?_)
        · -- to 162
          refine J_iinc (v := nI (i + 1)) dX12_bill_162 rfl (nI_1 i) (by decide) rfl ?_
          dsimp only [setL]
          refine J_goto (tgt := 96) dX12_bill_165 (by decide) ?_
          have q := ih (i + 1) (by omega)
          first
          | (rw [wS5 (hs := M.1 96) (ds := M.1 98) (ks := M.1 99) (k := i) cH cA cB cC] at q; exact q)
          | (rw [wS1 (hs := M.1 96) (k := i) (x := nI j) c3] at q; exact q)
          | (rw [wS2 (ds := M.1 98) (k := i) (a := a) c3] at q; exact q)
          | (rw [wS3 (ds := M.1 98) (k := i) (b := b) c3] at q; exact q)
          | (rw [wS4 (ks := M.1 99) (k := i) (c := c) c3] at q; exact q)
        · -- on 127
          have cA := c3
          refine J_aload_n dX12_bill_127 rfl ?_
          refine M_getR dX12_bill_128 fX12_120 rfl rfl (by decide) ?_
          refine J_iload dX12_bill_131 rfl ?_
          refine M_ialdE dX12_bill_133 rfl (by decide) (by first | rfl | assumption) (by omega) ?_
          refine J_iload_n dX12_bill_134 rfl ?_
          refine J_icmp_gt (tgt := 162) dX12_bill_135 (by decide) (fun c4 => ?_) (fun c4 => ?_)
          · -- to 162
            refine J_iinc (v := nI (i + 1)) dX12_bill_162 rfl (nI_1 i) (by decide) rfl ?_
            dsimp only [setL]
            refine J_goto (tgt := 96) dX12_bill_165 (by decide) ?_
            have q := ih (i + 1) (by omega)
            first
            | (rw [wS5 (hs := M.1 96) (ds := M.1 98) (ks := M.1 99) (k := i) cH cA cB cC] at q; exact q)
            | (rw [wS1 (hs := M.1 96) (k := i) (x := nI j) c4] at q; exact q)
            | (rw [wS2 (ds := M.1 98) (k := i) (a := a) c4] at q; exact q)
            | (rw [wS3 (ds := M.1 98) (k := i) (b := b) c4] at q; exact q)
            | (rw [wS4 (ks := M.1 99) (k := i) (c := c) c4] at q; exact q)
          · -- on 138
            have cB := c4
            refine J_aload_n dX12_bill_138 rfl ?_
            refine M_getR dX12_bill_139 fX12_123 rfl rfl (by decide) ?_
            refine J_iload dX12_bill_142 rfl ?_
            refine M_ialdE dX12_bill_144 rfl (by decide) (by first | rfl | assumption) (by omega) ?_
            refine J_iload dX12_bill_145 rfl ?_
            refine J_icmp_gt (tgt := 162) dX12_bill_147 (by decide) (fun c5 => ?_) (fun c5 => ?_)
            · -- to 162
              refine J_iinc (v := nI (i + 1)) dX12_bill_162 rfl (nI_1 i) (by decide) rfl ?_
              dsimp only [setL]
              refine J_goto (tgt := 96) dX12_bill_165 (by decide) ?_
              have q := ih (i + 1) (by omega)
              first
              | (rw [wS5 (hs := M.1 96) (ds := M.1 98) (ks := M.1 99) (k := i) cH cA cB cC] at q; exact q)
              | (rw [wS1 (hs := M.1 96) (k := i) (x := nI j) c5] at q; exact q)
              | (rw [wS2 (ds := M.1 98) (k := i) (a := a) c5] at q; exact q)
              | (rw [wS3 (ds := M.1 98) (k := i) (b := b) c5] at q; exact q)
              | (rw [wS4 (ks := M.1 99) (k := i) (c := c) c5] at q; exact q)
            · -- on 150
              have cC := c5
              refine J_iload dX12_bill_150 rfl ?_
              refine J_aload_n dX12_bill_152 rfl ?_
              refine M_getR dX12_bill_153 fX12_126 rfl rfl (by decide) ?_
              refine J_iload dX12_bill_156 rfl ?_
              refine M_ialdE dX12_bill_158 rfl (by decide) (by first | rfl | assumption) (by omega) ?_
              refine J_iadd dX12_bill_159 ?_
              refine J_istore dX12_bill_160 (by decide) rfl ?_
              dsimp only [setL]
              refine J_iinc (v := nI (i + 1)) dX12_bill_162 rfl (nI_1 i) (by decide) rfl ?_
              dsimp only [setL]
              refine J_goto (tgt := 96) dX12_bill_165 (by decide) ?_
              have q := ih (i + 1) (by omega)
              first
              | (rw [wS5 (hs := M.1 96) (ds := M.1 98) (ks := M.1 99) (k := i) cH cA cB cC] at q; exact q)
              | (rw [wS1 (hs := M.1 96) (k := i) (x := nI j) c5] at q; exact q)
              | (rw [wS2 (ds := M.1 98) (k := i) (a := a) c5] at q; exact q)
              | (rw [wS3 (ds := M.1 98) (k := i) (b := b) c5] at q; exact q)
              | (rw [wS4 (ks := M.1 99) (k := i) (c := c) c5] at q; exact q)
set_option maxRecDepth 100000 in
set_option maxHeartbeats 1000000 in
theorem tM_bill {d : Nat} {M : Mem} {Φ : Option Int32 → Mem → Prop} {n k w : Nat} {x a b c : Int32} (hn : M.1 62 1 = nI n) (hb : n ≤ 12) (hk : M.1 62 49 = nI k) (hkb : k ≤ 2000) (hw : M.1 62 50 = nI w) (hwb : w ≤ 200) (h0 : ¬ (Ix x n ∧ a ≤ b) → Φ (some (-1)) M) (h1 : ∀ j : Nat, j < n → x = nI j → a ≤ b → Φ (some (acF (wP (M.1 96) (M.1 98) (M.1 99) (nI j) a b c) (M.1 100) (acF (nP (M.1 93) (M.1 94) (nI j) a b c) (M.1 95) 0 k) w)) M) : JM noRo (d + 1) mX12_bill 0 [some (.ref 62), some (.int x), some (.int a), some (.int b), some (.int c)] [] M Φ := by
  refine J_aload_n dX12_bill_0 rfl ?_
  refine J_iload_n dX12_bill_1 rfl ?_
  refine M_callV1 (mc := mX12_isHorse) dX12_bill_2 kX12_142 oX12_isHorse (Nat.le_of_ble_eq_true rfl) (Nat.le_of_ble_eq_true rfl) rfl (by decide) rfl ?_
  refine tX12_isHorse hn hb (fun j hj ej => ?_) (fun q1 => ?_)
  · -- true
    subst ej
    refine J_if_eq (tgt := 13) dX12_bill_5 (by decide) (fun c2 => ?_) (fun c2 => ?_)
    · -- to 13
      exact absurd c2 (by decide)
    · -- on 8
      refine J_iload_n dX12_bill_8 rfl ?_
      refine J_iload_n dX12_bill_9 rfl ?_
      refine J_icmp_le (tgt := 15) dX12_bill_10 (by decide) (fun c3 => ?_) (fun c3 => ?_)
      · -- to 15
        refine J_iconst (v := 0) dX12_bill_15 (by decide) ?_
        refine J_istore dX12_bill_16 (by decide) rfl ?_
        dsimp only [setL]
        refine J_iconst (v := 0) dX12_bill_18 (by decide) ?_
        refine J_istore dX12_bill_19 (by decide) rfl ?_
        dsimp only [setL]
        refine tM_bill_n hk hkb ?_ k 0 (by omega)
        refine J_iconst (v := 0) dX12_bill_93 (by decide) ?_
        refine J_istore dX12_bill_94 (by decide) rfl ?_
        dsimp only [setL]
        exact tM_bill_w (r := acF (nP (M.1 93) (M.1 94) (nI j) a b c) (M.1 95) 0 k) hw hwb (h1 j hj rfl c3) w 0 (by omega)
      · -- on 13
        refine J_iconst (v := -1) dX12_bill_13 (by decide) ?_
        refine M_iret dX12_bill_14 rfl rfl ?_
        first
        | exact h0 (fun q => q1 q.1)
        | exact h0 (fun q => c3 q.2)
  · -- false
    refine J_if_eq (tgt := 13) dX12_bill_5 (by decide) (fun c4 => ?_) (fun c4 => ?_)
    · -- to 13
      refine J_iconst (v := -1) dX12_bill_13 (by decide) ?_
      refine M_iret dX12_bill_14 rfl rfl ?_
      first
      | exact h0 (fun q => q1 q.1)
      | exact h0 (fun q => c4 q.2)
    · -- on 8
      exact absurd c4 (by decide)
set_option maxRecDepth 100000 in
set_option maxHeartbeats 1000000 in
theorem tY_bill {d : Nat} {M : Mem} {Φ : Option Int32 → Mem → Prop} {n k w : Nat} {x a b c : Int32} (hn : M.1 1 6 = nI n) (hb : n ≤ 12) (hk : M.1 51 3 = nI k) (hkb : k ≤ 2000) (hw : M.1 55 6 = nI w) (hwb : w ≤ 200) (h0 : ¬ (Ix x n ∧ a ≤ b) → Φ (some (-1)) M) (h1 : ∀ j : Nat, j < n → x = nI j → a ≤ b → Φ (some (acF (nP (M.1 52) (M.1 53) (nI j) a b c) (M.1 54) 0 k + acF (wP (M.1 56) (M.1 57) (M.1 58) (nI j) a b c) (M.1 59) 0 w)) M) : JM noRo (d + 2) mX11_bill 0 [some (.ref 0), some (.int x), some (.int a), some (.int b), some (.int c)] [] M Φ := by
  refine J_aload_n dX11_bill_0 rfl ?_
  refine M_getR dX11_bill_1 fX11_12 rfl rfl (by decide) ?_
  refine J_iload_n dX11_bill_4 rfl ?_
  refine M_callV1 (mc := mX1_has) dX11_bill_5 kX11_116 oX1_has (Nat.le_of_ble_eq_true rfl) (Nat.le_of_ble_eq_true rfl) rfl (by decide) rfl ?_
  refine tX1_has hn hb (fun j hj e => ?_) (fun q1 => ?_)
  · -- true
    subst e
    refine J_if_eq (tgt := 16) dX11_bill_8 (by decide) (fun c2 => ?_) (fun c2 => ?_)
    · -- to 16
      exact absurd c2 (by decide)
    · -- on 11
      refine J_iload_n dX11_bill_11 rfl ?_
      refine J_iload_n dX11_bill_12 rfl ?_
      refine J_icmp_le (tgt := 18) dX11_bill_13 (by decide) (fun c3 => ?_) (fun c3 => ?_)
      · -- to 18
        refine J_aload_n dX11_bill_18 rfl ?_
        refine M_getR dX11_bill_19 fX11_86 rfl rfl (by decide) ?_
        refine J_iload_n dX11_bill_22 rfl ?_
        refine J_iload_n dX11_bill_23 rfl ?_
        refine J_iload_n dX11_bill_24 rfl ?_
        refine J_iload dX11_bill_25 rfl ?_
        refine M_callV4 (mc := mX4_cost) dX11_bill_27 kX11_250 oX4_cost (Nat.le_of_ble_eq_true rfl) (Nat.le_of_ble_eq_true rfl) rfl (by decide) rfl ?_
        refine tX4_cost hk hkb ?_
        refine J_aload_n dX11_bill_30 rfl ?_
        refine M_getR dX11_bill_31 fX11_93 rfl rfl (by decide) ?_
        refine J_iload_n dX11_bill_34 rfl ?_
        refine J_iload_n dX11_bill_35 rfl ?_
        refine J_iload_n dX11_bill_36 rfl ?_
        refine J_iload dX11_bill_37 rfl ?_
        refine M_callV4 (mc := mX10_cost) dX11_bill_39 kX11_254 oX10_cost (Nat.le_of_ble_eq_true rfl) (Nat.le_of_ble_eq_true rfl) rfl (by decide) rfl ?_
        refine tX10_cost hw hwb ?_
        refine J_iadd dX11_bill_42 ?_
        refine M_iret dX11_bill_43 rfl rfl ?_
        first
        | exact h0 (fun q => q1 q.1)
        | exact h0 (fun q => c3 q.2)
        | exact h1 j hj rfl c3
      · -- on 16
        refine J_iconst (v := -1) dX11_bill_16 (by decide) ?_
        refine M_iret dX11_bill_17 rfl rfl ?_
        first
        | exact h0 (fun q => q1 q.1)
        | exact h0 (fun q => c3 q.2)
        | exact h1 j hj rfl c3
  · -- false
    refine J_if_eq (tgt := 16) dX11_bill_8 (by decide) (fun c6 => ?_) (fun c6 => ?_)
    · -- to 16
      refine J_iconst (v := -1) dX11_bill_16 (by decide) ?_
      refine M_iret dX11_bill_17 rfl rfl ?_
      first
      | exact h0 (fun q => q1 q.1)
      | exact h0 (fun q => c6 q.2)
      | exact h1 j hj rfl c6
    · -- on 11
      exact absurd c6 (by decide)
set_option maxRecDepth 100000 in
set_option maxHeartbeats 2000000 in
theorem pr_due {X : Mem → Prop} {x y : Int32} : Pair (INV X) mX11_due mX12_due [.int x, .int y] := by
  intro M hM
  obtain ⟨h1, h2, ⟨n, t, k, w, h3, h5⟩, h4, h6, hXM⟩ := id hM
  obtain ⟨g1, g2, g3, g4, i1, i2, i3, i4, i5, i6, i7, i8⟩ := id h3
  obtain ⟨b1, b2, b3, b4, b5, b6⟩ := id h2
  obtain ⟨a0, a1, a2, a3, a4, a5, a6, a7, a8, a9, a10, a11, a12, a13, a14, a15, a16, a17, a18, a19⟩ := id h1
  refine tY_due i1 g1 (fun q => ⟨_, rfl, ?_⟩) (fun j s hj hs ex ey => ⟨_, rfl, ?_⟩)
  · exact tM_due i2 g1 i8 g4 (fun _ => ⟨rfl, hM⟩) (fun j s hj hs e1 e2 => absurd ⟨⟨j, hj, e1⟩, ⟨s, hs, e2⟩⟩ q)
  · refine tM_due i2 g1 i8 g4 (fun q => absurd ⟨⟨j, hj, ex⟩, ⟨s, hs, ey⟩⟩ q) (fun j2 s2 hj2 hs2 e1 e2 => ⟨?_, hM⟩)
    have ej := (nI_eq (by omega) (by omega)).mp (ex.symm.trans e1)
    have es := (nI_eq (by omega) (by omega)).mp (ey.symm.trans e2)
    subst ej; subst es
    rw [a12, h5.2 j s hj hs]
set_option maxRecDepth 100000 in
set_option maxHeartbeats 2000000 in
theorem pr_bill {X : Mem → Prop} {x y z u : Int32} : Pair (INV X) mX11_bill mX12_bill [.int x, .int y, .int z, .int u] := by
  intro M hM
  obtain ⟨h1, h2, ⟨n, t, k, w, h3, h5⟩, h4, h6, hXM⟩ := id hM
  obtain ⟨g1, g2, g3, g4, i1, i2, i3, i4, i5, i6, i7, i8⟩ := id h3
  obtain ⟨b1, b2, b3, b4, b5, b6⟩ := id h2
  obtain ⟨a0, a1, a2, a3, a4, a5, a6, a7, a8, a9, a10, a11, a12, a13, a14, a15, a16, a17, a18, a19⟩ := id h1
  refine tY_bill i1 g1 i5 g3 i7 g4 (fun q => ⟨_, rfl, ?_⟩) (fun j hj ex hab => ⟨_, rfl, ?_⟩)
  · exact tM_bill i2 g1 i6 g3 i8 g4 (fun _ => ⟨rfl, hM⟩) (fun j hj e1 e2 => absurd ⟨⟨j, hj, e1⟩, e2⟩ q)
  · refine tM_bill i2 g1 i6 g3 i8 g4 (fun q => absurd ⟨⟨j, hj, ex⟩, hab⟩ q) (fun j2 hj2 e1 _ => ⟨?_, hM⟩)
    have ej := (nI_eq (by omega) (by omega)).mp (ex.symm.trans e1)
    subst ej
    rw [acF_add _ _ (acF _ _ _ _) w, a13, a14, a15, a16, a17, a18, a19]

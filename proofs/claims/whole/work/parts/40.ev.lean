/-- what an operator makes of two values -/
def bop (c : Nat) (x y : Int32) : Int32 := if c = 16 then (if x = 0 ∧ y = 0 then 0 else 1) else if c = 17 then (if x = 0 ∨ y = 0 then 0 else 1) else if c = 61 then (if x = y then 1 else 0) else if c = 60 then (if y ≤ x then 0 else 1) else if c = 62 then (if x ≤ y then 0 else 1) else if c = 43 then x + y else x - y
theorem bop_or1 {x y : Int32} (h : ¬ x = 0) : bop 16 x y = 1 := by simp [bop, h]
theorem bop_or2 {x y : Int32} (h : ¬ y = 0) : bop 16 x y = 1 := by simp [bop, h]
theorem bop_or3 {x y : Int32} (h : x = 0) (h2 : y = 0) : bop 16 x y = 0 := by simp [bop, h, h2]
theorem bop_an1 {x y : Int32} (h : x = 0) : bop 17 x y = 0 := by simp [bop, h]
theorem bop_an2 {x y : Int32} (h : y = 0) : bop 17 x y = 0 := by simp [bop, h]
theorem bop_an3 {x y : Int32} (h : ¬ x = 0) (h2 : ¬ y = 0) : bop 17 x y = 1 := by simp [bop, h, h2]
theorem bop_eq1 {x y : Int32} (h : x = y) : bop 61 x y = 1 := by simp [bop, h]
theorem bop_eq0 {x y : Int32} (h : ¬ x = y) : bop 61 x y = 0 := by simp [bop, h]
theorem bop_lt0 {x y : Int32} (h : y ≤ x) : bop 60 x y = 0 := by simp [bop, h]
theorem bop_lt1 {x y : Int32} (h : ¬ y ≤ x) : bop 60 x y = 1 := by simp only [bop, if_neg h]; rfl
theorem bop_gt0 {x y : Int32} (h : x ≤ y) : bop 62 x y = 0 := by simp [bop, h]
theorem bop_gt1 {x y : Int32} (h : ¬ x ≤ y) : bop 62 x y = 1 := by simp only [bop, if_neg h]; rfl
theorem bop_pl {x y : Int32} : bop 43 x y = x + y := rfl
theorem bop_mi {x y : Int32} : bop 45 x y = x - y := rfl
def isOp (c : Nat) : Prop := c = 16 ∨ c = 17 ∨ c = 61 ∨ c = 60 ∨ c = 62 ∨ c = 43 ∨ c = 45
def evF (F : Nat → Int32) (C : Nat → Nat) : Nat → Nat → Nat → (Nat → Int32) → Int32
  | 0, _, _, s => s 0
  | n + 1, i, h, s => if C i < 14 then evF F C n (i + 1) (h + 1) (upd s h (F (C i))) else if 100 ≤ C i then evF F C n (i + 1) (h + 1) (upd s h (nI (C i - 100))) else if C i = 18 then evF F C n (i + 1) h (upd s (h - 1) (if s (h - 1) = 0 then 1 else 0)) else evF F C n (i + 1) (h - 1) (upd s (h - 2) (bop (C i) (s (h - 2)) (s (h - 1))))
/-- a rule's codes can be worked out: n codes from i on, over a stack h high -/
def okF (C : Nat → Nat) (lim : Nat) : Nat → Nat → Nat → Prop
  | 0, _, h => h = 1
  | n + 1, i, h => if C i < 14 then C i < lim ∧ h < 39 ∧ okF C lim n (i + 1) (h + 1) else if 100 ≤ C i then C i ≤ 2000000 ∧ h < 39 ∧ okF C lim n (i + 1) (h + 1) else if C i = 18 then 1 ≤ h ∧ okF C lim n (i + 1) h else isOp (C i) ∧ 2 ≤ h ∧ okF C lim n (i + 1) (h - 1)
theorem isOp_ne {c : Nat} (h : isOp c) : ¬ c < 14 ∧ ¬ 100 ≤ c ∧ ¬ c = 18 := by
  rcases h with h | h | h | h | h | h | h <;> omega
def tp : Nat → Int32
  | 0 => -1
  | h + 1 => nI h
theorem tp_s : ∀ h, tp h + 1 = nI h
  | 0 => rfl
  | h + 1 => nI_1 h
theorem nI_dec (h : Nat) : nI (h + 1) + (-1) = nI h := by
  rw [← nI_1 h, Int32.add_assoc, show (1 : Int32) + (-1) = 0 from rfl, Int32.add_zero]
set_option maxRecDepth 100000 in
set_option maxHeartbeats 1000000 in
theorem tX7_workOut_l {d : Nat} {M : Mem} {Φ : Option Int32 → Mem → Prop} {r e : Nat} {C : Nat → Nat} (ha : M.1 22 (r + 1) = nI e) (hr : r < 12) (heb : e ≤ 1000) (hC : ∀ i, i < e → M.1 21 i = nI (C i)) : ∀ n i h s, i + n = e → h ≤ 39 → okF C 14 n i h → (∀ f, Φ (some (evF (M.1 28) C n i h s)) (wa M 24 f)) → JM noRo d mX7_workOut 10 [some (.ref 20), some (.int (nI r)), some (.ref 28), some (.int (tp h)), some (.int (nI i))] [] (wa M 24 s) Φ := by
  intro n
  induction n with
  | zero =>
    intro i h s hi hh hk h0
    obtain rfl : h = 1 := hk
    refine J_iload dX7_workOut_10 rfl ?_
    refine J_aload_n dX7_workOut_12 rfl ?_
    refine M_getR dX7_workOut_13 fX7_15 rfl rfl (by decide) ?_
    refine J_iload_n dX7_workOut_16 rfl ?_
    refine J_iconst (v := 1) dX7_workOut_17 (by decide) ?_
    refine J_iadd dX7_workOut_18 ?_
    refine M_ialdE dX7_workOut_19 rfl (by decide) (nI_1 r) (by omega) ?_
    rw [rdb (by decide), ha]
    refine J_icmp_ge (tgt := 373) dX7_workOut_20 (by decide) (fun c1 => ?_) (fun c1 => ?_)
    · -- to 373
      refine J_iload_n dX7_workOut_373 rfl ?_
      refine J_if_ne (tgt := 386) dX7_workOut_374 (by decide) (fun c2 => ?_) (fun c2 => ?_)
      · -- to 386
        exact absurd rfl c2
      · -- on 377
        refine J_aload_n dX7_workOut_377 rfl ?_
        refine M_getR dX7_workOut_378 fX7_22 rfl rfl (by decide) ?_
        refine J_iconst (v := 0) dX7_workOut_381 (by decide) ?_
        refine M_ialdE dX7_workOut_382 rfl (by decide) (show (0 : Int32) = nI 0 from rfl) (by decide) ?_
        rw [rda]
        refine J_goto (tgt := 387) dX7_workOut_383 (by decide) ?_
        refine M_iret dX7_workOut_387 rfl rfl ?_
        exact h0 _
    · -- on 23
      exact absurd (nI_le (by omega) (by omega)) c1
  | succ n ih =>
    intro i h s hi hh hk h0
    rw [okF] at hk
    by_cases hc : C i < 14
    · rw [if_pos hc] at hk
      refine J_iload dX7_workOut_10 rfl ?_
      refine J_aload_n dX7_workOut_12 rfl ?_
      refine M_getR dX7_workOut_13 fX7_15 rfl rfl (by decide) ?_
      refine J_iload_n dX7_workOut_16 rfl ?_
      refine J_iconst (v := 1) dX7_workOut_17 (by decide) ?_
      refine J_iadd dX7_workOut_18 ?_
      refine M_ialdE dX7_workOut_19 rfl (by decide) (nI_1 r) (by omega) ?_
      rw [rdb (by decide), ha]
      refine J_icmp_ge (tgt := 373) dX7_workOut_20 (by decide) (fun c1 => ?_) (fun c1 => ?_)
      · -- to 373
        exact absurd c1 (nI_ge (by omega) (by omega))
      · -- on 23
        refine J_aload_n dX7_workOut_23 rfl ?_
        refine M_getR dX7_workOut_24 fX7_9 rfl rfl (by decide) ?_
        refine J_iload dX7_workOut_27 rfl ?_
        refine M_ialdE dX7_workOut_29 rfl (by decide) (by first | rfl | assumption) (by omega) ?_
        rw [rdb (by decide), hC i (by omega)]
        refine J_istore dX7_workOut_30 (by decide) rfl ?_
        dsimp only [setL]
        refine J_iload dX7_workOut_32 rfl ?_
        refine J_bipush (v := 14) dX7_workOut_34 (by decide) ?_
        refine J_icmp_lt (tgt := 50) dX7_workOut_36 (by decide) (fun c2 => ?_) (fun c2 => ?_)
        · -- to 50
          refine J_iconst (v := 0) dX7_workOut_50 (by decide) ?_
          refine J_istore dX7_workOut_51 (by decide) rfl ?_
          dsimp only [setL]
          refine J_iload dX7_workOut_53 rfl ?_
          refine J_if_ne (tgt := 64) dX7_workOut_55 (by decide) (fun c3 => ?_) (fun c3 => ?_)
          · -- to 64
            exact absurd c3 (by decide)
          · -- on 58
            refine J_iinc (v := nI h) dX7_workOut_58 rfl (tp_s h) (by decide) rfl ?_
            dsimp only [setL]
            refine J_goto (tgt := 74) dX7_workOut_61 (by decide) ?_
            refine J_iload_n dX7_workOut_74 rfl ?_
            refine J_if_lt (tgt := 86) dX7_workOut_75 (by decide) (fun c4 => ?_) (fun c4 => ?_)
            · -- to 86
              exact absurd c4 (nI_nlt (b := 0) (Nat.zero_le _) (by omega))
            · -- on 78
              refine J_iload_n dX7_workOut_78 rfl ?_
              refine J_iconst (v := 1) dX7_workOut_79 (by decide) ?_
              refine J_iadd dX7_workOut_80 ?_
              refine J_bipush (v := 40) dX7_workOut_81 (by decide) ?_
              refine J_icmp_lt (tgt := 88) dX7_workOut_83 (by decide) (fun c5 => ?_) (fun c5 => ?_)
              · -- to 88
                refine J_aload_n dX7_workOut_88 rfl ?_
                refine M_getR dX7_workOut_89 fX7_22 rfl rfl (by decide) ?_
                refine J_iload_n dX7_workOut_92 rfl ?_
                refine M_ialdE dX7_workOut_93 rfl (by decide) (by first | rfl | assumption) (by omega) ?_
                rw [rda]
                refine J_istore dX7_workOut_94 (by decide) rfl ?_
                dsimp only [setL]
                refine J_aload_n dX7_workOut_96 rfl ?_
                refine M_getR dX7_workOut_97 fX7_22 rfl rfl (by decide) ?_
                refine J_iload_n dX7_workOut_100 rfl ?_
                refine J_iconst (v := 1) dX7_workOut_101 (by decide) ?_
                refine J_iadd dX7_workOut_102 ?_
                refine M_ialdE dX7_workOut_103 rfl (by decide) (nI_1 h) (by omega) ?_
                rw [rda]
                refine J_istore dX7_workOut_104 (by decide) rfl ?_
                dsimp only [setL]
                have s16 : ¬ nI (C i) = 16 := fun q => absurd ((nI_eq (a := C i) (b := 16) (by omega) (by decide)).mp q) (by omega)
                have s17 : ¬ nI (C i) = 17 := fun q => absurd ((nI_eq (a := C i) (b := 17) (by omega) (by decide)).mp q) (by omega)
                have s18 : ¬ nI (C i) = 18 := fun q => absurd ((nI_eq (a := C i) (b := 18) (by omega) (by decide)).mp q) (by omega)
                have s43 : ¬ nI (C i) = 43 := fun q => absurd ((nI_eq (a := C i) (b := 43) (by omega) (by decide)).mp q) (by omega)
                have s45 : ¬ nI (C i) = 45 := fun q => absurd ((nI_eq (a := C i) (b := 45) (by omega) (by decide)).mp q) (by omega)
                have s60 : ¬ nI (C i) = 60 := fun q => absurd ((nI_eq (a := C i) (b := 60) (by omega) (by decide)).mp q) (by omega)
                have s61 : ¬ nI (C i) = 61 := fun q => absurd ((nI_eq (a := C i) (b := 61) (by omega) (by decide)).mp q) (by omega)
                have s62 : ¬ nI (C i) = 62 := fun q => absurd ((nI_eq (a := C i) (b := 62) (by omega) (by decide)).mp q) (by omega)
                refine J_iload dX7_workOut_106 rfl ?_
                refine J_lookup (off := 234) (tgt := 342) dX7_workOut_108 (by decide) (show Op.lookupswitch.offset [(16, 95), (17, 119), (18, 76), (43, 206), (45, 220), (60, 164), (61, 143), (62, 185)] 234 (Int32.toInt (nI (C i))) = 234 from (lv_osw (a := 16) s16 rfl).trans ((lv_osw (a := 17) s17 rfl).trans ((lv_osw (a := 18) s18 rfl).trans ((lv_osw (a := 43) s43 rfl).trans ((lv_osw (a := 45) s45 rfl).trans ((lv_osw (a := 60) s60 rfl).trans ((lv_osw (a := 61) s61 rfl).trans ((lv_osw (a := 62) s62 rfl))))))))) (by decide) ?_
                refine J_aload_n dX7_workOut_342 rfl ?_
                refine M_getR dX7_workOut_343 fX7_22 rfl rfl (by decide) ?_
                refine J_iload_n dX7_workOut_346 rfl ?_
                refine J_iload dX7_workOut_347 rfl ?_
                refine J_bipush (v := 14) dX7_workOut_349 (by decide) ?_
                refine J_icmp_ge (tgt := 361) dX7_workOut_351 (by decide) (fun c6 => ?_) (fun c6 => ?_)
                · -- to 361
                  exact absurd c6 (nI_ge (b := 14) hc (by decide))
                · -- on 354
                  refine J_aload_n dX7_workOut_354 rfl ?_
                  refine J_iload dX7_workOut_355 rfl ?_
                  refine M_ialdE dX7_workOut_357 rfl (by decide) (by first | rfl | assumption) (by omega) ?_
                  rw [rdb (by decide)]
                  refine J_goto (tgt := 366) dX7_workOut_358 (by decide) ?_
                  refine M_iastE dX7_workOut_366 rfl (by decide) (by first | rfl | assumption) (by omega) ?_
                  rw [wa_wr]
                  refine J_iinc (v := nI (i + 1)) dX7_workOut_367 rfl (nI_1 i) (by decide) rfl ?_
                  dsimp only [setL]
                  refine J_dropN 5 ?_
                  refine J_goto (tgt := 10) dX7_workOut_370 (by decide) ?_
                  rw [evF, if_pos hc] at h0
                  exact ih (i + 1) (h + 1) _ (by omega) (by omega) hk.2.2 h0
              · -- on 86
                exact absurd (by rw [nI_1]; exact nI_lt (b := 40) (by omega) (by decide)) c5
        · -- on 39
          exact absurd (nI_lt hc (by omega)) c2
    · rw [if_neg hc] at hk
      by_cases hd : 100 ≤ C i
      · rw [if_pos hd] at hk
        refine J_iload dX7_workOut_10 rfl ?_
        refine J_aload_n dX7_workOut_12 rfl ?_
        refine M_getR dX7_workOut_13 fX7_15 rfl rfl (by decide) ?_
        refine J_iload_n dX7_workOut_16 rfl ?_
        refine J_iconst (v := 1) dX7_workOut_17 (by decide) ?_
        refine J_iadd dX7_workOut_18 ?_
        refine M_ialdE dX7_workOut_19 rfl (by decide) (nI_1 r) (by omega) ?_
        rw [rdb (by decide), ha]
        refine J_icmp_ge (tgt := 373) dX7_workOut_20 (by decide) (fun c1 => ?_) (fun c1 => ?_)
        · -- to 373
          exact absurd c1 (nI_ge (by omega) (by omega))
        · -- on 23
          refine J_aload_n dX7_workOut_23 rfl ?_
          refine M_getR dX7_workOut_24 fX7_9 rfl rfl (by decide) ?_
          refine J_iload dX7_workOut_27 rfl ?_
          refine M_ialdE dX7_workOut_29 rfl (by decide) (by first | rfl | assumption) (by omega) ?_
          rw [rdb (by decide), hC i (by omega)]
          refine J_istore dX7_workOut_30 (by decide) rfl ?_
          dsimp only [setL]
          refine J_iload dX7_workOut_32 rfl ?_
          refine J_bipush (v := 14) dX7_workOut_34 (by decide) ?_
          refine J_icmp_lt (tgt := 50) dX7_workOut_36 (by decide) (fun c2 => ?_) (fun c2 => ?_)
          · -- to 50
            exact absurd c2 (nI_nlt (b := 14) (by omega) (by omega))
          · -- on 39
            refine J_iload dX7_workOut_39 rfl ?_
            refine J_bipush (v := 100) dX7_workOut_41 (by decide) ?_
            refine J_icmp_ge (tgt := 50) dX7_workOut_43 (by decide) (fun c3 => ?_) (fun c3 => ?_)
            · -- to 50
              refine J_iconst (v := 0) dX7_workOut_50 (by decide) ?_
              refine J_istore dX7_workOut_51 (by decide) rfl ?_
              dsimp only [setL]
              refine J_iload dX7_workOut_53 rfl ?_
              refine J_if_ne (tgt := 64) dX7_workOut_55 (by decide) (fun c4 => ?_) (fun c4 => ?_)
              · -- to 64
                exact absurd c4 (by decide)
              · -- on 58
                refine J_iinc (v := nI h) dX7_workOut_58 rfl (tp_s h) (by decide) rfl ?_
                dsimp only [setL]
                refine J_goto (tgt := 74) dX7_workOut_61 (by decide) ?_
                refine J_iload_n dX7_workOut_74 rfl ?_
                refine J_if_lt (tgt := 86) dX7_workOut_75 (by decide) (fun c5 => ?_) (fun c5 => ?_)
                · -- to 86
                  exact absurd c5 (nI_nlt (b := 0) (Nat.zero_le _) (by omega))
                · -- on 78
                  refine J_iload_n dX7_workOut_78 rfl ?_
                  refine J_iconst (v := 1) dX7_workOut_79 (by decide) ?_
                  refine J_iadd dX7_workOut_80 ?_
                  refine J_bipush (v := 40) dX7_workOut_81 (by decide) ?_
                  refine J_icmp_lt (tgt := 88) dX7_workOut_83 (by decide) (fun c6 => ?_) (fun c6 => ?_)
                  · -- to 88
                    refine J_aload_n dX7_workOut_88 rfl ?_
                    refine M_getR dX7_workOut_89 fX7_22 rfl rfl (by decide) ?_
                    refine J_iload_n dX7_workOut_92 rfl ?_
                    refine M_ialdE dX7_workOut_93 rfl (by decide) (by first | rfl | assumption) (by omega) ?_
                    rw [rda]
                    refine J_istore dX7_workOut_94 (by decide) rfl ?_
                    dsimp only [setL]
                    refine J_aload_n dX7_workOut_96 rfl ?_
                    refine M_getR dX7_workOut_97 fX7_22 rfl rfl (by decide) ?_
                    refine J_iload_n dX7_workOut_100 rfl ?_
                    refine J_iconst (v := 1) dX7_workOut_101 (by decide) ?_
                    refine J_iadd dX7_workOut_102 ?_
                    refine M_ialdE dX7_workOut_103 rfl (by decide) (nI_1 h) (by omega) ?_
                    rw [rda]
                    refine J_istore dX7_workOut_104 (by decide) rfl ?_
                    dsimp only [setL]
                    have s16 : ¬ nI (C i) = 16 := fun q => absurd ((nI_eq (a := C i) (b := 16) (by omega) (by decide)).mp q) (by omega)
                    have s17 : ¬ nI (C i) = 17 := fun q => absurd ((nI_eq (a := C i) (b := 17) (by omega) (by decide)).mp q) (by omega)
                    have s18 : ¬ nI (C i) = 18 := fun q => absurd ((nI_eq (a := C i) (b := 18) (by omega) (by decide)).mp q) (by omega)
                    have s43 : ¬ nI (C i) = 43 := fun q => absurd ((nI_eq (a := C i) (b := 43) (by omega) (by decide)).mp q) (by omega)
                    have s45 : ¬ nI (C i) = 45 := fun q => absurd ((nI_eq (a := C i) (b := 45) (by omega) (by decide)).mp q) (by omega)
                    have s60 : ¬ nI (C i) = 60 := fun q => absurd ((nI_eq (a := C i) (b := 60) (by omega) (by decide)).mp q) (by omega)
                    have s61 : ¬ nI (C i) = 61 := fun q => absurd ((nI_eq (a := C i) (b := 61) (by omega) (by decide)).mp q) (by omega)
                    have s62 : ¬ nI (C i) = 62 := fun q => absurd ((nI_eq (a := C i) (b := 62) (by omega) (by decide)).mp q) (by omega)
                    refine J_iload dX7_workOut_106 rfl ?_
                    refine J_lookup (off := 234) (tgt := 342) dX7_workOut_108 (by decide) (show Op.lookupswitch.offset [(16, 95), (17, 119), (18, 76), (43, 206), (45, 220), (60, 164), (61, 143), (62, 185)] 234 (Int32.toInt (nI (C i))) = 234 from (lv_osw (a := 16) s16 rfl).trans ((lv_osw (a := 17) s17 rfl).trans ((lv_osw (a := 18) s18 rfl).trans ((lv_osw (a := 43) s43 rfl).trans ((lv_osw (a := 45) s45 rfl).trans ((lv_osw (a := 60) s60 rfl).trans ((lv_osw (a := 61) s61 rfl).trans ((lv_osw (a := 62) s62 rfl))))))))) (by decide) ?_
                    refine J_aload_n dX7_workOut_342 rfl ?_
                    refine M_getR dX7_workOut_343 fX7_22 rfl rfl (by decide) ?_
                    refine J_iload_n dX7_workOut_346 rfl ?_
                    refine J_iload dX7_workOut_347 rfl ?_
                    refine J_bipush (v := 14) dX7_workOut_349 (by decide) ?_
                    refine J_icmp_ge (tgt := 361) dX7_workOut_351 (by decide) (fun c7 => ?_) (fun c7 => ?_)
                    · -- to 361
                      refine J_iload dX7_workOut_361 rfl ?_
                      refine J_bipush (v := 100) dX7_workOut_363 (by decide) ?_
                      refine J_isub dX7_workOut_365 ?_
                      rw [show nI (C i) - 100 = nI (C i - 100) from pk_sub (b := 100) hd]
                      refine M_iastE dX7_workOut_366 rfl (by decide) (by first | rfl | assumption) (by omega) ?_
                      rw [wa_wr]
                      refine J_iinc (v := nI (i + 1)) dX7_workOut_367 rfl (nI_1 i) (by decide) rfl ?_
                      dsimp only [setL]
                      refine J_dropN 5 ?_
                      refine J_goto (tgt := 10) dX7_workOut_370 (by decide) ?_
                      rw [evF, if_neg hc, if_pos hd] at h0
                      exact ih (i + 1) (h + 1) _ (by omega) (by omega) hk.2.2 h0
                    · -- on 354
                      exact absurd (nI_le (a := 14) (by omega) (by omega)) c7
                  · -- on 86
                    exact absurd (by rw [nI_1]; exact nI_lt (b := 40) (by omega) (by decide)) c6
            · -- on 46
              exact absurd (nI_le (a := 100) hd (by omega)) c3
      · rw [if_neg hd] at hk
        have hc0 := hc
        have hd0 := hd
        by_cases he : C i = 18
        · rw [if_pos he] at hk
          have hc := he
          obtain ⟨h, rfl⟩ : ∃ q, h = q + 1 := ⟨h - 1, by omega⟩
          rw [show tp (h + 1) = nI h from rfl]
          refine J_iload dX7_workOut_10 rfl ?_
          refine J_aload_n dX7_workOut_12 rfl ?_
          refine M_getR dX7_workOut_13 fX7_15 rfl rfl (by decide) ?_
          refine J_iload_n dX7_workOut_16 rfl ?_
          refine J_iconst (v := 1) dX7_workOut_17 (by decide) ?_
          refine J_iadd dX7_workOut_18 ?_
          refine M_ialdE dX7_workOut_19 rfl (by decide) (nI_1 r) (by omega) ?_
          rw [rdb (by decide), ha]
          refine J_icmp_ge (tgt := 373) dX7_workOut_20 (by decide) (fun c1 => ?_) (fun c1 => ?_)
          · -- to 373
            exact absurd c1 (nI_ge (by omega) (by omega))
          · -- on 23
            refine J_aload_n dX7_workOut_23 rfl ?_
            refine M_getR dX7_workOut_24 fX7_9 rfl rfl (by decide) ?_
            refine J_iload dX7_workOut_27 rfl ?_
            refine M_ialdE dX7_workOut_29 rfl (by decide) (by first | rfl | assumption) (by omega) ?_
            rw [rdb (by decide), hC i (by omega), hc]
            refine J_istore dX7_workOut_30 (by decide) rfl ?_
            dsimp only [setL]
            refine J_iload dX7_workOut_32 rfl ?_
            refine J_bipush (v := 14) dX7_workOut_34 (by decide) ?_
            refine J_icmp_lt (tgt := 50) dX7_workOut_36 (by decide) (fun c2 => ?_) (fun c2 => ?_)
            · -- to 50
              exact absurd c2 (by decide)
            · -- on 39
              refine J_iload dX7_workOut_39 rfl ?_
              refine J_bipush (v := 100) dX7_workOut_41 (by decide) ?_
              refine J_icmp_ge (tgt := 50) dX7_workOut_43 (by decide) (fun c3 => ?_) (fun c3 => ?_)
              · -- to 50
                exact absurd c3 (by decide)
              · -- on 46
                refine J_iconst (v := 1) dX7_workOut_46 (by decide) ?_
                refine J_goto (tgt := 51) dX7_workOut_47 (by decide) ?_
                refine J_istore dX7_workOut_51 (by decide) rfl ?_
                dsimp only [setL]
                refine J_iload dX7_workOut_53 rfl ?_
                refine J_if_ne (tgt := 64) dX7_workOut_55 (by decide) (fun c4 => ?_) (fun c4 => ?_)
                · -- to 64
                  refine J_iload dX7_workOut_64 rfl ?_
                  refine J_bipush (v := 18) dX7_workOut_66 (by decide) ?_
                  refine J_icmp_eq (tgt := 74) dX7_workOut_68 (by decide) (fun c5 => ?_) (fun c5 => ?_)
                  · -- to 74
                    refine J_iload_n dX7_workOut_74 rfl ?_
                    refine J_if_lt (tgt := 86) dX7_workOut_75 (by decide) (fun c6 => ?_) (fun c6 => ?_)
                    · -- to 86
                      exact absurd c6 (nI_nlt (b := 0) (Nat.zero_le _) (by omega))
                    · -- on 78
                      refine J_iload_n dX7_workOut_78 rfl ?_
                      refine J_iconst (v := 1) dX7_workOut_79 (by decide) ?_
                      refine J_iadd dX7_workOut_80 ?_
                      refine J_bipush (v := 40) dX7_workOut_81 (by decide) ?_
                      refine J_icmp_lt (tgt := 88) dX7_workOut_83 (by decide) (fun c7 => ?_) (fun c7 => ?_)
                      · -- to 88
                        refine J_aload_n dX7_workOut_88 rfl ?_
                        refine M_getR dX7_workOut_89 fX7_22 rfl rfl (by decide) ?_
                        refine J_iload_n dX7_workOut_92 rfl ?_
                        refine M_ialdE dX7_workOut_93 rfl (by decide) (by first | rfl | assumption) (by omega) ?_
                        rw [rda]
                        refine J_istore dX7_workOut_94 (by decide) rfl ?_
                        dsimp only [setL]
                        refine J_aload_n dX7_workOut_96 rfl ?_
                        refine M_getR dX7_workOut_97 fX7_22 rfl rfl (by decide) ?_
                        refine J_iload_n dX7_workOut_100 rfl ?_
                        refine J_iconst (v := 1) dX7_workOut_101 (by decide) ?_
                        refine J_iadd dX7_workOut_102 ?_
                        refine M_ialdE dX7_workOut_103 rfl (by decide) (nI_1 h) (by omega) ?_
                        rw [rda]
                        refine J_istore dX7_workOut_104 (by decide) rfl ?_
                        dsimp only [setL]
                        refine J_iload dX7_workOut_106 rfl ?_
                        refine J_lookup (off := 76) (tgt := 184) dX7_workOut_108 (by decide) (by rfl) (by decide) ?_
                        refine J_aload_n dX7_workOut_184 rfl ?_
                        refine M_getR dX7_workOut_185 fX7_22 rfl rfl (by decide) ?_
                        refine J_iload_n dX7_workOut_188 rfl ?_
                        refine J_iload dX7_workOut_189 rfl ?_
                        refine J_if_ne (tgt := 198) dX7_workOut_191 (by decide) (fun c8 => ?_) (fun c8 => ?_)
                        · -- to 198
                          refine J_iconst (v := 0) dX7_workOut_198 (by decide) ?_
                          refine M_iastE dX7_workOut_199 rfl (by decide) (by first | rfl | assumption) (by omega) ?_
                          refine J_goto (tgt := 367) dX7_workOut_200 (by decide) ?_
                          rw [wa_wr]
                          refine J_iinc (v := nI (i + 1)) dX7_workOut_367 rfl (nI_1 i) (by decide) rfl ?_
                          dsimp only [setL]
                          refine J_dropN 5 ?_
                          refine J_goto (tgt := 10) dX7_workOut_370 (by decide) ?_
                          rw [evF, if_neg hc0, if_neg hd0, if_pos hc] at h0
                          have q := ih (i + 1) (h + 1) _ (by omega) (by omega) hk.2 h0
                          rw [Nat.add_sub_cancel] at q
                          first
                          | (rw [if_pos c8] at q; exact q)
                          | (rw [if_neg c8] at q; exact q)
                        · -- on 194
                          refine J_iconst (v := 1) dX7_workOut_194 (by decide) ?_
                          refine J_goto (tgt := 199) dX7_workOut_195 (by decide) ?_
                          refine M_iastE dX7_workOut_199 rfl (by decide) (by first | rfl | assumption) (by omega) ?_
                          refine J_goto (tgt := 367) dX7_workOut_200 (by decide) ?_
                          rw [wa_wr]
                          refine J_iinc (v := nI (i + 1)) dX7_workOut_367 rfl (nI_1 i) (by decide) rfl ?_
                          dsimp only [setL]
                          refine J_dropN 5 ?_
                          refine J_goto (tgt := 10) dX7_workOut_370 (by decide) ?_
                          rw [evF, if_neg hc0, if_neg hd0, if_pos hc] at h0
                          have q := ih (i + 1) (h + 1) _ (by omega) (by omega) hk.2 h0
                          rw [Nat.add_sub_cancel] at q
                          first
                          | (rw [if_pos c8] at q; exact q)
                          | (rw [if_neg c8] at q; exact q)
                      · -- on 86
                        exact absurd (by rw [nI_1]; exact nI_lt (b := 40) (by omega) (by decide)) c7
                  · -- on 71
                    exact absurd c5 (by decide)
                · -- on 58
                  exact absurd c4 (by decide)
        · rw [if_neg he] at hk
          have he0 := he
          obtain ⟨h, rfl⟩ : ∃ q, h = q + 2 := ⟨h - 2, by omega⟩
          rw [show tp (h + 2) = nI (h + 1) from rfl]
          have hop := hk.1
          rcases hop with hc | hop
          · -- 16
              refine J_iload dX7_workOut_10 rfl ?_
              refine J_aload_n dX7_workOut_12 rfl ?_
              refine M_getR dX7_workOut_13 fX7_15 rfl rfl (by decide) ?_
              refine J_iload_n dX7_workOut_16 rfl ?_
              refine J_iconst (v := 1) dX7_workOut_17 (by decide) ?_
              refine J_iadd dX7_workOut_18 ?_
              refine M_ialdE dX7_workOut_19 rfl (by decide) (nI_1 r) (by omega) ?_
              rw [rdb (by decide), ha]
              refine J_icmp_ge (tgt := 373) dX7_workOut_20 (by decide) (fun c1 => ?_) (fun c1 => ?_)
              · -- to 373
                exact absurd c1 (nI_ge (by omega) (by omega))
              · -- on 23
                refine J_aload_n dX7_workOut_23 rfl ?_
                refine M_getR dX7_workOut_24 fX7_9 rfl rfl (by decide) ?_
                refine J_iload dX7_workOut_27 rfl ?_
                refine M_ialdE dX7_workOut_29 rfl (by decide) (by first | rfl | assumption) (by omega) ?_
                rw [rdb (by decide), hC i (by omega), hc]
                refine J_istore dX7_workOut_30 (by decide) rfl ?_
                dsimp only [setL]
                refine J_iload dX7_workOut_32 rfl ?_
                refine J_bipush (v := 14) dX7_workOut_34 (by decide) ?_
                refine J_icmp_lt (tgt := 50) dX7_workOut_36 (by decide) (fun c2 => ?_) (fun c2 => ?_)
                · -- to 50
                  exact absurd c2 (by decide)
                · -- on 39
                  refine J_iload dX7_workOut_39 rfl ?_
                  refine J_bipush (v := 100) dX7_workOut_41 (by decide) ?_
                  refine J_icmp_ge (tgt := 50) dX7_workOut_43 (by decide) (fun c3 => ?_) (fun c3 => ?_)
                  · -- to 50
                    exact absurd c3 (by decide)
                  · -- on 46
                    refine J_iconst (v := 1) dX7_workOut_46 (by decide) ?_
                    refine J_goto (tgt := 51) dX7_workOut_47 (by decide) ?_
                    refine J_istore dX7_workOut_51 (by decide) rfl ?_
                    dsimp only [setL]
                    refine J_iload dX7_workOut_53 rfl ?_
                    refine J_if_ne (tgt := 64) dX7_workOut_55 (by decide) (fun c4 => ?_) (fun c4 => ?_)
                    · -- to 64
                      refine J_iload dX7_workOut_64 rfl ?_
                      refine J_bipush (v := 18) dX7_workOut_66 (by decide) ?_
                      refine J_icmp_eq (tgt := 74) dX7_workOut_68 (by decide) (fun c5 => ?_) (fun c5 => ?_)
                      · -- to 74
                        exact absurd c5 (by decide)
                      · -- on 71
                        refine J_iinc (v := nI h) dX7_workOut_71 rfl (nI_dec h) (by decide) rfl ?_
                        dsimp only [setL]
                        refine J_iload_n dX7_workOut_74 rfl ?_
                        refine J_if_lt (tgt := 86) dX7_workOut_75 (by decide) (fun c6 => ?_) (fun c6 => ?_)
                        · -- to 86
                          exact absurd c6 (nI_nlt (b := 0) (Nat.zero_le _) (by omega))
                        · -- on 78
                          refine J_iload_n dX7_workOut_78 rfl ?_
                          refine J_iconst (v := 1) dX7_workOut_79 (by decide) ?_
                          refine J_iadd dX7_workOut_80 ?_
                          refine J_bipush (v := 40) dX7_workOut_81 (by decide) ?_
                          refine J_icmp_lt (tgt := 88) dX7_workOut_83 (by decide) (fun c7 => ?_) (fun c7 => ?_)
                          · -- to 88
                            refine J_aload_n dX7_workOut_88 rfl ?_
                            refine M_getR dX7_workOut_89 fX7_22 rfl rfl (by decide) ?_
                            refine J_iload_n dX7_workOut_92 rfl ?_
                            refine M_ialdE dX7_workOut_93 rfl (by decide) (by first | rfl | assumption) (by omega) ?_
                            rw [rda]
                            refine J_istore dX7_workOut_94 (by decide) rfl ?_
                            dsimp only [setL]
                            refine J_aload_n dX7_workOut_96 rfl ?_
                            refine M_getR dX7_workOut_97 fX7_22 rfl rfl (by decide) ?_
                            refine J_iload_n dX7_workOut_100 rfl ?_
                            refine J_iconst (v := 1) dX7_workOut_101 (by decide) ?_
                            refine J_iadd dX7_workOut_102 ?_
                            refine M_ialdE dX7_workOut_103 rfl (by decide) (nI_1 h) (by omega) ?_
                            rw [rda]
                            refine J_istore dX7_workOut_104 (by decide) rfl ?_
                            dsimp only [setL]
                            refine J_iload dX7_workOut_106 rfl ?_
                            refine J_lookup (off := 95) (tgt := 203) dX7_workOut_108 (by decide) (by rfl) (by decide) ?_
                            refine J_aload_n dX7_workOut_203 rfl ?_
                            refine M_getR dX7_workOut_204 fX7_22 rfl rfl (by decide) ?_
                            refine J_iload_n dX7_workOut_207 rfl ?_
                            refine J_iload dX7_workOut_208 rfl ?_
                            refine J_if_ne (tgt := 218) dX7_workOut_210 (by decide) (fun c8 => ?_) (fun c8 => ?_)
                            · -- to 218
                              refine J_iconst (v := 1) dX7_workOut_218 (by decide) ?_
                              refine J_goto (tgt := 223) dX7_workOut_219 (by decide) ?_
                              refine M_iastE dX7_workOut_223 rfl (by decide) (by first | rfl | assumption) (by omega) ?_
                              refine J_goto (tgt := 367) dX7_workOut_224 (by decide) ?_
                              rw [wa_wr]
                              refine J_iinc (v := nI (i + 1)) dX7_workOut_367 rfl (nI_1 i) (by decide) rfl ?_
                              dsimp only [setL]
                              refine J_dropN 5 ?_
                              refine J_goto (tgt := 10) dX7_workOut_370 (by decide) ?_
                              rw [evF, if_neg hc0, if_neg hd0, if_neg he0, hc] at h0
                              have q := ih (i + 1) (h + 1) _ (by omega) (by omega) hk.2.2 h0
                              rw [Nat.add_sub_cancel, show h + 1 + 1 - 1 = h + 1 from rfl] at q
                              first
                              | (rw [bop_or1 c8] at q; exact q)
                              | (rw [bop_or2 c8] at q; exact q)
                              | (rw [bop_or3 cA c8] at q; exact q)
                            · -- on 213
                              have cA := c8
                              refine J_iload dX7_workOut_213 rfl ?_
                              refine J_if_eq (tgt := 222) dX7_workOut_215 (by decide) (fun c9 => ?_) (fun c9 => ?_)
                              · -- to 222
                                refine J_iconst (v := 0) dX7_workOut_222 (by decide) ?_
                                refine M_iastE dX7_workOut_223 rfl (by decide) (by first | rfl | assumption) (by omega) ?_
                                refine J_goto (tgt := 367) dX7_workOut_224 (by decide) ?_
                                rw [wa_wr]
                                refine J_iinc (v := nI (i + 1)) dX7_workOut_367 rfl (nI_1 i) (by decide) rfl ?_
                                dsimp only [setL]
                                refine J_dropN 5 ?_
                                refine J_goto (tgt := 10) dX7_workOut_370 (by decide) ?_
                                rw [evF, if_neg hc0, if_neg hd0, if_neg he0, hc] at h0
                                have q := ih (i + 1) (h + 1) _ (by omega) (by omega) hk.2.2 h0
                                rw [Nat.add_sub_cancel, show h + 1 + 1 - 1 = h + 1 from rfl] at q
                                first
                                | (rw [bop_or1 c9] at q; exact q)
                                | (rw [bop_or2 c9] at q; exact q)
                                | (rw [bop_or3 cA c9] at q; exact q)
                              · -- on 218
                                refine J_iconst (v := 1) dX7_workOut_218 (by decide) ?_
                                refine J_goto (tgt := 223) dX7_workOut_219 (by decide) ?_
                                refine M_iastE dX7_workOut_223 rfl (by decide) (by first | rfl | assumption) (by omega) ?_
                                refine J_goto (tgt := 367) dX7_workOut_224 (by decide) ?_
                                rw [wa_wr]
                                refine J_iinc (v := nI (i + 1)) dX7_workOut_367 rfl (nI_1 i) (by decide) rfl ?_
                                dsimp only [setL]
                                refine J_dropN 5 ?_
                                refine J_goto (tgt := 10) dX7_workOut_370 (by decide) ?_
                                rw [evF, if_neg hc0, if_neg hd0, if_neg he0, hc] at h0
                                have q := ih (i + 1) (h + 1) _ (by omega) (by omega) hk.2.2 h0
                                rw [Nat.add_sub_cancel, show h + 1 + 1 - 1 = h + 1 from rfl] at q
                                first
                                | (rw [bop_or1 c9] at q; exact q)
                                | (rw [bop_or2 c9] at q; exact q)
                                | (rw [bop_or3 cA c9] at q; exact q)
                          · -- on 86
                            exact absurd (by rw [nI_1]; exact nI_lt (b := 40) (by omega) (by decide)) c7
                    · -- on 58
                      exact absurd c4 (by decide)
          rcases hop with hc | hop
          · -- 17
              refine J_iload dX7_workOut_10 rfl ?_
              refine J_aload_n dX7_workOut_12 rfl ?_
              refine M_getR dX7_workOut_13 fX7_15 rfl rfl (by decide) ?_
              refine J_iload_n dX7_workOut_16 rfl ?_
              refine J_iconst (v := 1) dX7_workOut_17 (by decide) ?_
              refine J_iadd dX7_workOut_18 ?_
              refine M_ialdE dX7_workOut_19 rfl (by decide) (nI_1 r) (by omega) ?_
              rw [rdb (by decide), ha]
              refine J_icmp_ge (tgt := 373) dX7_workOut_20 (by decide) (fun c1 => ?_) (fun c1 => ?_)
              · -- to 373
                exact absurd c1 (nI_ge (by omega) (by omega))
              · -- on 23
                refine J_aload_n dX7_workOut_23 rfl ?_
                refine M_getR dX7_workOut_24 fX7_9 rfl rfl (by decide) ?_
                refine J_iload dX7_workOut_27 rfl ?_
                refine M_ialdE dX7_workOut_29 rfl (by decide) (by first | rfl | assumption) (by omega) ?_
                rw [rdb (by decide), hC i (by omega), hc]
                refine J_istore dX7_workOut_30 (by decide) rfl ?_
                dsimp only [setL]
                refine J_iload dX7_workOut_32 rfl ?_
                refine J_bipush (v := 14) dX7_workOut_34 (by decide) ?_
                refine J_icmp_lt (tgt := 50) dX7_workOut_36 (by decide) (fun c2 => ?_) (fun c2 => ?_)
                · -- to 50
                  exact absurd c2 (by decide)
                · -- on 39
                  refine J_iload dX7_workOut_39 rfl ?_
                  refine J_bipush (v := 100) dX7_workOut_41 (by decide) ?_
                  refine J_icmp_ge (tgt := 50) dX7_workOut_43 (by decide) (fun c3 => ?_) (fun c3 => ?_)
                  · -- to 50
                    exact absurd c3 (by decide)
                  · -- on 46
                    refine J_iconst (v := 1) dX7_workOut_46 (by decide) ?_
                    refine J_goto (tgt := 51) dX7_workOut_47 (by decide) ?_
                    refine J_istore dX7_workOut_51 (by decide) rfl ?_
                    dsimp only [setL]
                    refine J_iload dX7_workOut_53 rfl ?_
                    refine J_if_ne (tgt := 64) dX7_workOut_55 (by decide) (fun c4 => ?_) (fun c4 => ?_)
                    · -- to 64
                      refine J_iload dX7_workOut_64 rfl ?_
                      refine J_bipush (v := 18) dX7_workOut_66 (by decide) ?_
                      refine J_icmp_eq (tgt := 74) dX7_workOut_68 (by decide) (fun c5 => ?_) (fun c5 => ?_)
                      · -- to 74
                        exact absurd c5 (by decide)
                      · -- on 71
                        refine J_iinc (v := nI h) dX7_workOut_71 rfl (nI_dec h) (by decide) rfl ?_
                        dsimp only [setL]
                        refine J_iload_n dX7_workOut_74 rfl ?_
                        refine J_if_lt (tgt := 86) dX7_workOut_75 (by decide) (fun c6 => ?_) (fun c6 => ?_)
                        · -- to 86
                          exact absurd c6 (nI_nlt (b := 0) (Nat.zero_le _) (by omega))
                        · -- on 78
                          refine J_iload_n dX7_workOut_78 rfl ?_
                          refine J_iconst (v := 1) dX7_workOut_79 (by decide) ?_
                          refine J_iadd dX7_workOut_80 ?_
                          refine J_bipush (v := 40) dX7_workOut_81 (by decide) ?_
                          refine J_icmp_lt (tgt := 88) dX7_workOut_83 (by decide) (fun c7 => ?_) (fun c7 => ?_)
                          · -- to 88
                            refine J_aload_n dX7_workOut_88 rfl ?_
                            refine M_getR dX7_workOut_89 fX7_22 rfl rfl (by decide) ?_
                            refine J_iload_n dX7_workOut_92 rfl ?_
                            refine M_ialdE dX7_workOut_93 rfl (by decide) (by first | rfl | assumption) (by omega) ?_
                            rw [rda]
                            refine J_istore dX7_workOut_94 (by decide) rfl ?_
                            dsimp only [setL]
                            refine J_aload_n dX7_workOut_96 rfl ?_
                            refine M_getR dX7_workOut_97 fX7_22 rfl rfl (by decide) ?_
                            refine J_iload_n dX7_workOut_100 rfl ?_
                            refine J_iconst (v := 1) dX7_workOut_101 (by decide) ?_
                            refine J_iadd dX7_workOut_102 ?_
                            refine M_ialdE dX7_workOut_103 rfl (by decide) (nI_1 h) (by omega) ?_
                            rw [rda]
                            refine J_istore dX7_workOut_104 (by decide) rfl ?_
                            dsimp only [setL]
                            refine J_iload dX7_workOut_106 rfl ?_
                            refine J_lookup (off := 119) (tgt := 227) dX7_workOut_108 (by decide) (by rfl) (by decide) ?_
                            refine J_aload_n dX7_workOut_227 rfl ?_
                            refine M_getR dX7_workOut_228 fX7_22 rfl rfl (by decide) ?_
                            refine J_iload_n dX7_workOut_231 rfl ?_
                            refine J_iload dX7_workOut_232 rfl ?_
                            refine J_if_eq (tgt := 246) dX7_workOut_234 (by decide) (fun c8 => ?_) (fun c8 => ?_)
                            · -- to 246
                              refine J_iconst (v := 0) dX7_workOut_246 (by decide) ?_
                              refine M_iastE dX7_workOut_247 rfl (by decide) (by first | rfl | assumption) (by omega) ?_
                              refine J_goto (tgt := 367) dX7_workOut_248 (by decide) ?_
                              rw [wa_wr]
                              refine J_iinc (v := nI (i + 1)) dX7_workOut_367 rfl (nI_1 i) (by decide) rfl ?_
                              dsimp only [setL]
                              refine J_dropN 5 ?_
                              refine J_goto (tgt := 10) dX7_workOut_370 (by decide) ?_
                              rw [evF, if_neg hc0, if_neg hd0, if_neg he0, hc] at h0
                              have q := ih (i + 1) (h + 1) _ (by omega) (by omega) hk.2.2 h0
                              rw [Nat.add_sub_cancel, show h + 1 + 1 - 1 = h + 1 from rfl] at q
                              first
                              | (rw [bop_an1 c8] at q; exact q)
                              | (rw [bop_an2 c8] at q; exact q)
                              | (rw [bop_an3 cA c8] at q; exact q)
                            · -- on 237
                              have cA := c8
                              refine J_iload dX7_workOut_237 rfl ?_
                              refine J_if_eq (tgt := 246) dX7_workOut_239 (by decide) (fun c9 => ?_) (fun c9 => ?_)
                              · -- to 246
                                refine J_iconst (v := 0) dX7_workOut_246 (by decide) ?_
                                refine M_iastE dX7_workOut_247 rfl (by decide) (by first | rfl | assumption) (by omega) ?_
                                refine J_goto (tgt := 367) dX7_workOut_248 (by decide) ?_
                                rw [wa_wr]
                                refine J_iinc (v := nI (i + 1)) dX7_workOut_367 rfl (nI_1 i) (by decide) rfl ?_
                                dsimp only [setL]
                                refine J_dropN 5 ?_
                                refine J_goto (tgt := 10) dX7_workOut_370 (by decide) ?_
                                rw [evF, if_neg hc0, if_neg hd0, if_neg he0, hc] at h0
                                have q := ih (i + 1) (h + 1) _ (by omega) (by omega) hk.2.2 h0
                                rw [Nat.add_sub_cancel, show h + 1 + 1 - 1 = h + 1 from rfl] at q
                                first
                                | (rw [bop_an1 c9] at q; exact q)
                                | (rw [bop_an2 c9] at q; exact q)
                                | (rw [bop_an3 cA c9] at q; exact q)
                              · -- on 242
                                refine J_iconst (v := 1) dX7_workOut_242 (by decide) ?_
                                refine J_goto (tgt := 247) dX7_workOut_243 (by decide) ?_
                                refine M_iastE dX7_workOut_247 rfl (by decide) (by first | rfl | assumption) (by omega) ?_
                                refine J_goto (tgt := 367) dX7_workOut_248 (by decide) ?_
                                rw [wa_wr]
                                refine J_iinc (v := nI (i + 1)) dX7_workOut_367 rfl (nI_1 i) (by decide) rfl ?_
                                dsimp only [setL]
                                refine J_dropN 5 ?_
                                refine J_goto (tgt := 10) dX7_workOut_370 (by decide) ?_
                                rw [evF, if_neg hc0, if_neg hd0, if_neg he0, hc] at h0
                                have q := ih (i + 1) (h + 1) _ (by omega) (by omega) hk.2.2 h0
                                rw [Nat.add_sub_cancel, show h + 1 + 1 - 1 = h + 1 from rfl] at q
                                first
                                | (rw [bop_an1 c9] at q; exact q)
                                | (rw [bop_an2 c9] at q; exact q)
                                | (rw [bop_an3 cA c9] at q; exact q)
                          · -- on 86
                            exact absurd (by rw [nI_1]; exact nI_lt (b := 40) (by omega) (by decide)) c7
                    · -- on 58
                      exact absurd c4 (by decide)
          rcases hop with hc | hop
          · -- 61
              refine J_iload dX7_workOut_10 rfl ?_
              refine J_aload_n dX7_workOut_12 rfl ?_
              refine M_getR dX7_workOut_13 fX7_15 rfl rfl (by decide) ?_
              refine J_iload_n dX7_workOut_16 rfl ?_
              refine J_iconst (v := 1) dX7_workOut_17 (by decide) ?_
              refine J_iadd dX7_workOut_18 ?_
              refine M_ialdE dX7_workOut_19 rfl (by decide) (nI_1 r) (by omega) ?_
              rw [rdb (by decide), ha]
              refine J_icmp_ge (tgt := 373) dX7_workOut_20 (by decide) (fun c1 => ?_) (fun c1 => ?_)
              · -- to 373
                exact absurd c1 (nI_ge (by omega) (by omega))
              · -- on 23
                refine J_aload_n dX7_workOut_23 rfl ?_
                refine M_getR dX7_workOut_24 fX7_9 rfl rfl (by decide) ?_
                refine J_iload dX7_workOut_27 rfl ?_
                refine M_ialdE dX7_workOut_29 rfl (by decide) (by first | rfl | assumption) (by omega) ?_
                rw [rdb (by decide), hC i (by omega), hc]
                refine J_istore dX7_workOut_30 (by decide) rfl ?_
                dsimp only [setL]
                refine J_iload dX7_workOut_32 rfl ?_
                refine J_bipush (v := 14) dX7_workOut_34 (by decide) ?_
                refine J_icmp_lt (tgt := 50) dX7_workOut_36 (by decide) (fun c2 => ?_) (fun c2 => ?_)
                · -- to 50
                  exact absurd c2 (by decide)
                · -- on 39
                  refine J_iload dX7_workOut_39 rfl ?_
                  refine J_bipush (v := 100) dX7_workOut_41 (by decide) ?_
                  refine J_icmp_ge (tgt := 50) dX7_workOut_43 (by decide) (fun c3 => ?_) (fun c3 => ?_)
                  · -- to 50
                    exact absurd c3 (by decide)
                  · -- on 46
                    refine J_iconst (v := 1) dX7_workOut_46 (by decide) ?_
                    refine J_goto (tgt := 51) dX7_workOut_47 (by decide) ?_
                    refine J_istore dX7_workOut_51 (by decide) rfl ?_
                    dsimp only [setL]
                    refine J_iload dX7_workOut_53 rfl ?_
                    refine J_if_ne (tgt := 64) dX7_workOut_55 (by decide) (fun c4 => ?_) (fun c4 => ?_)
                    · -- to 64
                      refine J_iload dX7_workOut_64 rfl ?_
                      refine J_bipush (v := 18) dX7_workOut_66 (by decide) ?_
                      refine J_icmp_eq (tgt := 74) dX7_workOut_68 (by decide) (fun c5 => ?_) (fun c5 => ?_)
                      · -- to 74
                        exact absurd c5 (by decide)
                      · -- on 71
                        refine J_iinc (v := nI h) dX7_workOut_71 rfl (nI_dec h) (by decide) rfl ?_
                        dsimp only [setL]
                        refine J_iload_n dX7_workOut_74 rfl ?_
                        refine J_if_lt (tgt := 86) dX7_workOut_75 (by decide) (fun c6 => ?_) (fun c6 => ?_)
                        · -- to 86
                          exact absurd c6 (nI_nlt (b := 0) (Nat.zero_le _) (by omega))
                        · -- on 78
                          refine J_iload_n dX7_workOut_78 rfl ?_
                          refine J_iconst (v := 1) dX7_workOut_79 (by decide) ?_
                          refine J_iadd dX7_workOut_80 ?_
                          refine J_bipush (v := 40) dX7_workOut_81 (by decide) ?_
                          refine J_icmp_lt (tgt := 88) dX7_workOut_83 (by decide) (fun c7 => ?_) (fun c7 => ?_)
                          · -- to 88
                            refine J_aload_n dX7_workOut_88 rfl ?_
                            refine M_getR dX7_workOut_89 fX7_22 rfl rfl (by decide) ?_
                            refine J_iload_n dX7_workOut_92 rfl ?_
                            refine M_ialdE dX7_workOut_93 rfl (by decide) (by first | rfl | assumption) (by omega) ?_
                            rw [rda]
                            refine J_istore dX7_workOut_94 (by decide) rfl ?_
                            dsimp only [setL]
                            refine J_aload_n dX7_workOut_96 rfl ?_
                            refine M_getR dX7_workOut_97 fX7_22 rfl rfl (by decide) ?_
                            refine J_iload_n dX7_workOut_100 rfl ?_
                            refine J_iconst (v := 1) dX7_workOut_101 (by decide) ?_
                            refine J_iadd dX7_workOut_102 ?_
                            refine M_ialdE dX7_workOut_103 rfl (by decide) (nI_1 h) (by omega) ?_
                            rw [rda]
                            refine J_istore dX7_workOut_104 (by decide) rfl ?_
                            dsimp only [setL]
                            refine J_iload dX7_workOut_106 rfl ?_
                            refine J_lookup (off := 143) (tgt := 251) dX7_workOut_108 (by decide) (by rfl) (by decide) ?_
                            refine J_aload_n dX7_workOut_251 rfl ?_
                            refine M_getR dX7_workOut_252 fX7_22 rfl rfl (by decide) ?_
                            refine J_iload_n dX7_workOut_255 rfl ?_
                            refine J_iload dX7_workOut_256 rfl ?_
                            refine J_iload dX7_workOut_258 rfl ?_
                            refine J_icmp_ne (tgt := 267) dX7_workOut_260 (by decide) (fun c8 => ?_) (fun c8 => ?_)
                            · -- to 267
                              refine J_iconst (v := 0) dX7_workOut_267 (by decide) ?_
                              refine M_iastE dX7_workOut_268 rfl (by decide) (by first | rfl | assumption) (by omega) ?_
                              refine J_goto (tgt := 367) dX7_workOut_269 (by decide) ?_
                              rw [wa_wr]
                              refine J_iinc (v := nI (i + 1)) dX7_workOut_367 rfl (nI_1 i) (by decide) rfl ?_
                              dsimp only [setL]
                              refine J_dropN 5 ?_
                              refine J_goto (tgt := 10) dX7_workOut_370 (by decide) ?_
                              rw [evF, if_neg hc0, if_neg hd0, if_neg he0, hc] at h0
                              have q := ih (i + 1) (h + 1) _ (by omega) (by omega) hk.2.2 h0
                              rw [Nat.add_sub_cancel, show h + 1 + 1 - 1 = h + 1 from rfl] at q
                              first
                              | (rw [bop_eq1 c8] at q; exact q)
                              | (rw [bop_eq0 c8] at q; exact q)
                            · -- on 263
                              refine J_iconst (v := 1) dX7_workOut_263 (by decide) ?_
                              refine J_goto (tgt := 268) dX7_workOut_264 (by decide) ?_
                              refine M_iastE dX7_workOut_268 rfl (by decide) (by first | rfl | assumption) (by omega) ?_
                              refine J_goto (tgt := 367) dX7_workOut_269 (by decide) ?_
                              rw [wa_wr]
                              refine J_iinc (v := nI (i + 1)) dX7_workOut_367 rfl (nI_1 i) (by decide) rfl ?_
                              dsimp only [setL]
                              refine J_dropN 5 ?_
                              refine J_goto (tgt := 10) dX7_workOut_370 (by decide) ?_
                              rw [evF, if_neg hc0, if_neg hd0, if_neg he0, hc] at h0
                              have q := ih (i + 1) (h + 1) _ (by omega) (by omega) hk.2.2 h0
                              rw [Nat.add_sub_cancel, show h + 1 + 1 - 1 = h + 1 from rfl] at q
                              first
                              | (rw [bop_eq1 c8] at q; exact q)
                              | (rw [bop_eq0 c8] at q; exact q)
                          · -- on 86
                            exact absurd (by rw [nI_1]; exact nI_lt (b := 40) (by omega) (by decide)) c7
                    · -- on 58
                      exact absurd c4 (by decide)
          rcases hop with hc | hop
          · -- 60
              refine J_iload dX7_workOut_10 rfl ?_
              refine J_aload_n dX7_workOut_12 rfl ?_
              refine M_getR dX7_workOut_13 fX7_15 rfl rfl (by decide) ?_
              refine J_iload_n dX7_workOut_16 rfl ?_
              refine J_iconst (v := 1) dX7_workOut_17 (by decide) ?_
              refine J_iadd dX7_workOut_18 ?_
              refine M_ialdE dX7_workOut_19 rfl (by decide) (nI_1 r) (by omega) ?_
              rw [rdb (by decide), ha]
              refine J_icmp_ge (tgt := 373) dX7_workOut_20 (by decide) (fun c1 => ?_) (fun c1 => ?_)
              · -- to 373
                exact absurd c1 (nI_ge (by omega) (by omega))
              · -- on 23
                refine J_aload_n dX7_workOut_23 rfl ?_
                refine M_getR dX7_workOut_24 fX7_9 rfl rfl (by decide) ?_
                refine J_iload dX7_workOut_27 rfl ?_
                refine M_ialdE dX7_workOut_29 rfl (by decide) (by first | rfl | assumption) (by omega) ?_
                rw [rdb (by decide), hC i (by omega), hc]
                refine J_istore dX7_workOut_30 (by decide) rfl ?_
                dsimp only [setL]
                refine J_iload dX7_workOut_32 rfl ?_
                refine J_bipush (v := 14) dX7_workOut_34 (by decide) ?_
                refine J_icmp_lt (tgt := 50) dX7_workOut_36 (by decide) (fun c2 => ?_) (fun c2 => ?_)
                · -- to 50
                  exact absurd c2 (by decide)
                · -- on 39
                  refine J_iload dX7_workOut_39 rfl ?_
                  refine J_bipush (v := 100) dX7_workOut_41 (by decide) ?_
                  refine J_icmp_ge (tgt := 50) dX7_workOut_43 (by decide) (fun c3 => ?_) (fun c3 => ?_)
                  · -- to 50
                    exact absurd c3 (by decide)
                  · -- on 46
                    refine J_iconst (v := 1) dX7_workOut_46 (by decide) ?_
                    refine J_goto (tgt := 51) dX7_workOut_47 (by decide) ?_
                    refine J_istore dX7_workOut_51 (by decide) rfl ?_
                    dsimp only [setL]
                    refine J_iload dX7_workOut_53 rfl ?_
                    refine J_if_ne (tgt := 64) dX7_workOut_55 (by decide) (fun c4 => ?_) (fun c4 => ?_)
                    · -- to 64
                      refine J_iload dX7_workOut_64 rfl ?_
                      refine J_bipush (v := 18) dX7_workOut_66 (by decide) ?_
                      refine J_icmp_eq (tgt := 74) dX7_workOut_68 (by decide) (fun c5 => ?_) (fun c5 => ?_)
                      · -- to 74
                        exact absurd c5 (by decide)
                      · -- on 71
                        refine J_iinc (v := nI h) dX7_workOut_71 rfl (nI_dec h) (by decide) rfl ?_
                        dsimp only [setL]
                        refine J_iload_n dX7_workOut_74 rfl ?_
                        refine J_if_lt (tgt := 86) dX7_workOut_75 (by decide) (fun c6 => ?_) (fun c6 => ?_)
                        · -- to 86
                          exact absurd c6 (nI_nlt (b := 0) (Nat.zero_le _) (by omega))
                        · -- on 78
                          refine J_iload_n dX7_workOut_78 rfl ?_
                          refine J_iconst (v := 1) dX7_workOut_79 (by decide) ?_
                          refine J_iadd dX7_workOut_80 ?_
                          refine J_bipush (v := 40) dX7_workOut_81 (by decide) ?_
                          refine J_icmp_lt (tgt := 88) dX7_workOut_83 (by decide) (fun c7 => ?_) (fun c7 => ?_)
                          · -- to 88
                            refine J_aload_n dX7_workOut_88 rfl ?_
                            refine M_getR dX7_workOut_89 fX7_22 rfl rfl (by decide) ?_
                            refine J_iload_n dX7_workOut_92 rfl ?_
                            refine M_ialdE dX7_workOut_93 rfl (by decide) (by first | rfl | assumption) (by omega) ?_
                            rw [rda]
                            refine J_istore dX7_workOut_94 (by decide) rfl ?_
                            dsimp only [setL]
                            refine J_aload_n dX7_workOut_96 rfl ?_
                            refine M_getR dX7_workOut_97 fX7_22 rfl rfl (by decide) ?_
                            refine J_iload_n dX7_workOut_100 rfl ?_
                            refine J_iconst (v := 1) dX7_workOut_101 (by decide) ?_
                            refine J_iadd dX7_workOut_102 ?_
                            refine M_ialdE dX7_workOut_103 rfl (by decide) (nI_1 h) (by omega) ?_
                            rw [rda]
                            refine J_istore dX7_workOut_104 (by decide) rfl ?_
                            dsimp only [setL]
                            refine J_iload dX7_workOut_106 rfl ?_
                            refine J_lookup (off := 164) (tgt := 272) dX7_workOut_108 (by decide) (by rfl) (by decide) ?_
                            refine J_aload_n dX7_workOut_272 rfl ?_
                            refine M_getR dX7_workOut_273 fX7_22 rfl rfl (by decide) ?_
                            refine J_iload_n dX7_workOut_276 rfl ?_
                            refine J_iload dX7_workOut_277 rfl ?_
                            refine J_iload dX7_workOut_279 rfl ?_
                            refine J_icmp_ge (tgt := 288) dX7_workOut_281 (by decide) (fun c8 => ?_) (fun c8 => ?_)
                            · -- to 288
                              refine J_iconst (v := 0) dX7_workOut_288 (by decide) ?_
                              refine M_iastE dX7_workOut_289 rfl (by decide) (by first | rfl | assumption) (by omega) ?_
                              refine J_goto (tgt := 367) dX7_workOut_290 (by decide) ?_
                              rw [wa_wr]
                              refine J_iinc (v := nI (i + 1)) dX7_workOut_367 rfl (nI_1 i) (by decide) rfl ?_
                              dsimp only [setL]
                              refine J_dropN 5 ?_
                              refine J_goto (tgt := 10) dX7_workOut_370 (by decide) ?_
                              rw [evF, if_neg hc0, if_neg hd0, if_neg he0, hc] at h0
                              have q := ih (i + 1) (h + 1) _ (by omega) (by omega) hk.2.2 h0
                              rw [Nat.add_sub_cancel, show h + 1 + 1 - 1 = h + 1 from rfl] at q
                              first
                              | (rw [bop_lt0 c8] at q; exact q)
                              | (rw [bop_lt1 c8] at q; exact q)
                            · -- on 284
                              refine J_iconst (v := 1) dX7_workOut_284 (by decide) ?_
                              refine J_goto (tgt := 289) dX7_workOut_285 (by decide) ?_
                              refine M_iastE dX7_workOut_289 rfl (by decide) (by first | rfl | assumption) (by omega) ?_
                              refine J_goto (tgt := 367) dX7_workOut_290 (by decide) ?_
                              rw [wa_wr]
                              refine J_iinc (v := nI (i + 1)) dX7_workOut_367 rfl (nI_1 i) (by decide) rfl ?_
                              dsimp only [setL]
                              refine J_dropN 5 ?_
                              refine J_goto (tgt := 10) dX7_workOut_370 (by decide) ?_
                              rw [evF, if_neg hc0, if_neg hd0, if_neg he0, hc] at h0
                              have q := ih (i + 1) (h + 1) _ (by omega) (by omega) hk.2.2 h0
                              rw [Nat.add_sub_cancel, show h + 1 + 1 - 1 = h + 1 from rfl] at q
                              first
                              | (rw [bop_lt0 c8] at q; exact q)
                              | (rw [bop_lt1 c8] at q; exact q)
                          · -- on 86
                            exact absurd (by rw [nI_1]; exact nI_lt (b := 40) (by omega) (by decide)) c7
                    · -- on 58
                      exact absurd c4 (by decide)
          rcases hop with hc | hop
          · -- 62
              refine J_iload dX7_workOut_10 rfl ?_
              refine J_aload_n dX7_workOut_12 rfl ?_
              refine M_getR dX7_workOut_13 fX7_15 rfl rfl (by decide) ?_
              refine J_iload_n dX7_workOut_16 rfl ?_
              refine J_iconst (v := 1) dX7_workOut_17 (by decide) ?_
              refine J_iadd dX7_workOut_18 ?_
              refine M_ialdE dX7_workOut_19 rfl (by decide) (nI_1 r) (by omega) ?_
              rw [rdb (by decide), ha]
              refine J_icmp_ge (tgt := 373) dX7_workOut_20 (by decide) (fun c1 => ?_) (fun c1 => ?_)
              · -- to 373
                exact absurd c1 (nI_ge (by omega) (by omega))
              · -- on 23
                refine J_aload_n dX7_workOut_23 rfl ?_
                refine M_getR dX7_workOut_24 fX7_9 rfl rfl (by decide) ?_
                refine J_iload dX7_workOut_27 rfl ?_
                refine M_ialdE dX7_workOut_29 rfl (by decide) (by first | rfl | assumption) (by omega) ?_
                rw [rdb (by decide), hC i (by omega), hc]
                refine J_istore dX7_workOut_30 (by decide) rfl ?_
                dsimp only [setL]
                refine J_iload dX7_workOut_32 rfl ?_
                refine J_bipush (v := 14) dX7_workOut_34 (by decide) ?_
                refine J_icmp_lt (tgt := 50) dX7_workOut_36 (by decide) (fun c2 => ?_) (fun c2 => ?_)
                · -- to 50
                  exact absurd c2 (by decide)
                · -- on 39
                  refine J_iload dX7_workOut_39 rfl ?_
                  refine J_bipush (v := 100) dX7_workOut_41 (by decide) ?_
                  refine J_icmp_ge (tgt := 50) dX7_workOut_43 (by decide) (fun c3 => ?_) (fun c3 => ?_)
                  · -- to 50
                    exact absurd c3 (by decide)
                  · -- on 46
                    refine J_iconst (v := 1) dX7_workOut_46 (by decide) ?_
                    refine J_goto (tgt := 51) dX7_workOut_47 (by decide) ?_
                    refine J_istore dX7_workOut_51 (by decide) rfl ?_
                    dsimp only [setL]
                    refine J_iload dX7_workOut_53 rfl ?_
                    refine J_if_ne (tgt := 64) dX7_workOut_55 (by decide) (fun c4 => ?_) (fun c4 => ?_)
                    · -- to 64
                      refine J_iload dX7_workOut_64 rfl ?_
                      refine J_bipush (v := 18) dX7_workOut_66 (by decide) ?_
                      refine J_icmp_eq (tgt := 74) dX7_workOut_68 (by decide) (fun c5 => ?_) (fun c5 => ?_)
                      · -- to 74
                        exact absurd c5 (by decide)
                      · -- on 71
                        refine J_iinc (v := nI h) dX7_workOut_71 rfl (nI_dec h) (by decide) rfl ?_
                        dsimp only [setL]
                        refine J_iload_n dX7_workOut_74 rfl ?_
                        refine J_if_lt (tgt := 86) dX7_workOut_75 (by decide) (fun c6 => ?_) (fun c6 => ?_)
                        · -- to 86
                          exact absurd c6 (nI_nlt (b := 0) (Nat.zero_le _) (by omega))
                        · -- on 78
                          refine J_iload_n dX7_workOut_78 rfl ?_
                          refine J_iconst (v := 1) dX7_workOut_79 (by decide) ?_
                          refine J_iadd dX7_workOut_80 ?_
                          refine J_bipush (v := 40) dX7_workOut_81 (by decide) ?_
                          refine J_icmp_lt (tgt := 88) dX7_workOut_83 (by decide) (fun c7 => ?_) (fun c7 => ?_)
                          · -- to 88
                            refine J_aload_n dX7_workOut_88 rfl ?_
                            refine M_getR dX7_workOut_89 fX7_22 rfl rfl (by decide) ?_
                            refine J_iload_n dX7_workOut_92 rfl ?_
                            refine M_ialdE dX7_workOut_93 rfl (by decide) (by first | rfl | assumption) (by omega) ?_
                            rw [rda]
                            refine J_istore dX7_workOut_94 (by decide) rfl ?_
                            dsimp only [setL]
                            refine J_aload_n dX7_workOut_96 rfl ?_
                            refine M_getR dX7_workOut_97 fX7_22 rfl rfl (by decide) ?_
                            refine J_iload_n dX7_workOut_100 rfl ?_
                            refine J_iconst (v := 1) dX7_workOut_101 (by decide) ?_
                            refine J_iadd dX7_workOut_102 ?_
                            refine M_ialdE dX7_workOut_103 rfl (by decide) (nI_1 h) (by omega) ?_
                            rw [rda]
                            refine J_istore dX7_workOut_104 (by decide) rfl ?_
                            dsimp only [setL]
                            refine J_iload dX7_workOut_106 rfl ?_
                            refine J_lookup (off := 185) (tgt := 293) dX7_workOut_108 (by decide) (by rfl) (by decide) ?_
                            refine J_aload_n dX7_workOut_293 rfl ?_
                            refine M_getR dX7_workOut_294 fX7_22 rfl rfl (by decide) ?_
                            refine J_iload_n dX7_workOut_297 rfl ?_
                            refine J_iload dX7_workOut_298 rfl ?_
                            refine J_iload dX7_workOut_300 rfl ?_
                            refine J_icmp_le (tgt := 309) dX7_workOut_302 (by decide) (fun c8 => ?_) (fun c8 => ?_)
                            · -- to 309
                              refine J_iconst (v := 0) dX7_workOut_309 (by decide) ?_
                              refine M_iastE dX7_workOut_310 rfl (by decide) (by first | rfl | assumption) (by omega) ?_
                              refine J_goto (tgt := 367) dX7_workOut_311 (by decide) ?_
                              rw [wa_wr]
                              refine J_iinc (v := nI (i + 1)) dX7_workOut_367 rfl (nI_1 i) (by decide) rfl ?_
                              dsimp only [setL]
                              refine J_dropN 5 ?_
                              refine J_goto (tgt := 10) dX7_workOut_370 (by decide) ?_
                              rw [evF, if_neg hc0, if_neg hd0, if_neg he0, hc] at h0
                              have q := ih (i + 1) (h + 1) _ (by omega) (by omega) hk.2.2 h0
                              rw [Nat.add_sub_cancel, show h + 1 + 1 - 1 = h + 1 from rfl] at q
                              first
                              | (rw [bop_gt0 c8] at q; exact q)
                              | (rw [bop_gt1 c8] at q; exact q)
                            · -- on 305
                              refine J_iconst (v := 1) dX7_workOut_305 (by decide) ?_
                              refine J_goto (tgt := 310) dX7_workOut_306 (by decide) ?_
                              refine M_iastE dX7_workOut_310 rfl (by decide) (by first | rfl | assumption) (by omega) ?_
                              refine J_goto (tgt := 367) dX7_workOut_311 (by decide) ?_
                              rw [wa_wr]
                              refine J_iinc (v := nI (i + 1)) dX7_workOut_367 rfl (nI_1 i) (by decide) rfl ?_
                              dsimp only [setL]
                              refine J_dropN 5 ?_
                              refine J_goto (tgt := 10) dX7_workOut_370 (by decide) ?_
                              rw [evF, if_neg hc0, if_neg hd0, if_neg he0, hc] at h0
                              have q := ih (i + 1) (h + 1) _ (by omega) (by omega) hk.2.2 h0
                              rw [Nat.add_sub_cancel, show h + 1 + 1 - 1 = h + 1 from rfl] at q
                              first
                              | (rw [bop_gt0 c8] at q; exact q)
                              | (rw [bop_gt1 c8] at q; exact q)
                          · -- on 86
                            exact absurd (by rw [nI_1]; exact nI_lt (b := 40) (by omega) (by decide)) c7
                    · -- on 58
                      exact absurd c4 (by decide)
          rcases hop with hc | hop
          · -- 43
              refine J_iload dX7_workOut_10 rfl ?_
              refine J_aload_n dX7_workOut_12 rfl ?_
              refine M_getR dX7_workOut_13 fX7_15 rfl rfl (by decide) ?_
              refine J_iload_n dX7_workOut_16 rfl ?_
              refine J_iconst (v := 1) dX7_workOut_17 (by decide) ?_
              refine J_iadd dX7_workOut_18 ?_
              refine M_ialdE dX7_workOut_19 rfl (by decide) (nI_1 r) (by omega) ?_
              rw [rdb (by decide), ha]
              refine J_icmp_ge (tgt := 373) dX7_workOut_20 (by decide) (fun c1 => ?_) (fun c1 => ?_)
              · -- to 373
                exact absurd c1 (nI_ge (by omega) (by omega))
              · -- on 23
                refine J_aload_n dX7_workOut_23 rfl ?_
                refine M_getR dX7_workOut_24 fX7_9 rfl rfl (by decide) ?_
                refine J_iload dX7_workOut_27 rfl ?_
                refine M_ialdE dX7_workOut_29 rfl (by decide) (by first | rfl | assumption) (by omega) ?_
                rw [rdb (by decide), hC i (by omega), hc]
                refine J_istore dX7_workOut_30 (by decide) rfl ?_
                dsimp only [setL]
                refine J_iload dX7_workOut_32 rfl ?_
                refine J_bipush (v := 14) dX7_workOut_34 (by decide) ?_
                refine J_icmp_lt (tgt := 50) dX7_workOut_36 (by decide) (fun c2 => ?_) (fun c2 => ?_)
                · -- to 50
                  exact absurd c2 (by decide)
                · -- on 39
                  refine J_iload dX7_workOut_39 rfl ?_
                  refine J_bipush (v := 100) dX7_workOut_41 (by decide) ?_
                  refine J_icmp_ge (tgt := 50) dX7_workOut_43 (by decide) (fun c3 => ?_) (fun c3 => ?_)
                  · -- to 50
                    exact absurd c3 (by decide)
                  · -- on 46
                    refine J_iconst (v := 1) dX7_workOut_46 (by decide) ?_
                    refine J_goto (tgt := 51) dX7_workOut_47 (by decide) ?_
                    refine J_istore dX7_workOut_51 (by decide) rfl ?_
                    dsimp only [setL]
                    refine J_iload dX7_workOut_53 rfl ?_
                    refine J_if_ne (tgt := 64) dX7_workOut_55 (by decide) (fun c4 => ?_) (fun c4 => ?_)
                    · -- to 64
                      refine J_iload dX7_workOut_64 rfl ?_
                      refine J_bipush (v := 18) dX7_workOut_66 (by decide) ?_
                      refine J_icmp_eq (tgt := 74) dX7_workOut_68 (by decide) (fun c5 => ?_) (fun c5 => ?_)
                      · -- to 74
                        exact absurd c5 (by decide)
                      · -- on 71
                        refine J_iinc (v := nI h) dX7_workOut_71 rfl (nI_dec h) (by decide) rfl ?_
                        dsimp only [setL]
                        refine J_iload_n dX7_workOut_74 rfl ?_
                        refine J_if_lt (tgt := 86) dX7_workOut_75 (by decide) (fun c6 => ?_) (fun c6 => ?_)
                        · -- to 86
                          exact absurd c6 (nI_nlt (b := 0) (Nat.zero_le _) (by omega))
                        · -- on 78
                          refine J_iload_n dX7_workOut_78 rfl ?_
                          refine J_iconst (v := 1) dX7_workOut_79 (by decide) ?_
                          refine J_iadd dX7_workOut_80 ?_
                          refine J_bipush (v := 40) dX7_workOut_81 (by decide) ?_
                          refine J_icmp_lt (tgt := 88) dX7_workOut_83 (by decide) (fun c7 => ?_) (fun c7 => ?_)
                          · -- to 88
                            refine J_aload_n dX7_workOut_88 rfl ?_
                            refine M_getR dX7_workOut_89 fX7_22 rfl rfl (by decide) ?_
                            refine J_iload_n dX7_workOut_92 rfl ?_
                            refine M_ialdE dX7_workOut_93 rfl (by decide) (by first | rfl | assumption) (by omega) ?_
                            rw [rda]
                            refine J_istore dX7_workOut_94 (by decide) rfl ?_
                            dsimp only [setL]
                            refine J_aload_n dX7_workOut_96 rfl ?_
                            refine M_getR dX7_workOut_97 fX7_22 rfl rfl (by decide) ?_
                            refine J_iload_n dX7_workOut_100 rfl ?_
                            refine J_iconst (v := 1) dX7_workOut_101 (by decide) ?_
                            refine J_iadd dX7_workOut_102 ?_
                            refine M_ialdE dX7_workOut_103 rfl (by decide) (nI_1 h) (by omega) ?_
                            rw [rda]
                            refine J_istore dX7_workOut_104 (by decide) rfl ?_
                            dsimp only [setL]
                            refine J_iload dX7_workOut_106 rfl ?_
                            refine J_lookup (off := 206) (tgt := 314) dX7_workOut_108 (by decide) (by rfl) (by decide) ?_
                            refine J_aload_n dX7_workOut_314 rfl ?_
                            refine M_getR dX7_workOut_315 fX7_22 rfl rfl (by decide) ?_
                            refine J_iload_n dX7_workOut_318 rfl ?_
                            refine J_iload dX7_workOut_319 rfl ?_
                            refine J_iload dX7_workOut_321 rfl ?_
                            refine J_iadd dX7_workOut_323 ?_
                            refine M_iastE dX7_workOut_324 rfl (by decide) (by first | rfl | assumption) (by omega) ?_
                            refine J_goto (tgt := 367) dX7_workOut_325 (by decide) ?_
                            rw [wa_wr]
                            refine J_iinc (v := nI (i + 1)) dX7_workOut_367 rfl (nI_1 i) (by decide) rfl ?_
                            dsimp only [setL]
                            refine J_dropN 5 ?_
                            refine J_goto (tgt := 10) dX7_workOut_370 (by decide) ?_
                            rw [evF, if_neg hc0, if_neg hd0, if_neg he0, hc] at h0
                            have q := ih (i + 1) (h + 1) _ (by omega) (by omega) hk.2.2 h0
                            rw [Nat.add_sub_cancel, show h + 1 + 1 - 1 = h + 1 from rfl] at q
                            first
                            | (rw [bop_pl] at q; exact q)
                          · -- on 86
                            exact absurd (by rw [nI_1]; exact nI_lt (b := 40) (by omega) (by decide)) c7
                    · -- on 58
                      exact absurd c4 (by decide)
          have hc := hop
          refine J_iload dX7_workOut_10 rfl ?_
          refine J_aload_n dX7_workOut_12 rfl ?_
          refine M_getR dX7_workOut_13 fX7_15 rfl rfl (by decide) ?_
          refine J_iload_n dX7_workOut_16 rfl ?_
          refine J_iconst (v := 1) dX7_workOut_17 (by decide) ?_
          refine J_iadd dX7_workOut_18 ?_
          refine M_ialdE dX7_workOut_19 rfl (by decide) (nI_1 r) (by omega) ?_
          rw [rdb (by decide), ha]
          refine J_icmp_ge (tgt := 373) dX7_workOut_20 (by decide) (fun c1 => ?_) (fun c1 => ?_)
          · -- to 373
            exact absurd c1 (nI_ge (by omega) (by omega))
          · -- on 23
            refine J_aload_n dX7_workOut_23 rfl ?_
            refine M_getR dX7_workOut_24 fX7_9 rfl rfl (by decide) ?_
            refine J_iload dX7_workOut_27 rfl ?_
            refine M_ialdE dX7_workOut_29 rfl (by decide) (by first | rfl | assumption) (by omega) ?_
            rw [rdb (by decide), hC i (by omega), hc]
            refine J_istore dX7_workOut_30 (by decide) rfl ?_
            dsimp only [setL]
            refine J_iload dX7_workOut_32 rfl ?_
            refine J_bipush (v := 14) dX7_workOut_34 (by decide) ?_
            refine J_icmp_lt (tgt := 50) dX7_workOut_36 (by decide) (fun c2 => ?_) (fun c2 => ?_)
            · -- to 50
              exact absurd c2 (by decide)
            · -- on 39
              refine J_iload dX7_workOut_39 rfl ?_
              refine J_bipush (v := 100) dX7_workOut_41 (by decide) ?_
              refine J_icmp_ge (tgt := 50) dX7_workOut_43 (by decide) (fun c3 => ?_) (fun c3 => ?_)
              · -- to 50
                exact absurd c3 (by decide)
              · -- on 46
                refine J_iconst (v := 1) dX7_workOut_46 (by decide) ?_
                refine J_goto (tgt := 51) dX7_workOut_47 (by decide) ?_
                refine J_istore dX7_workOut_51 (by decide) rfl ?_
                dsimp only [setL]
                refine J_iload dX7_workOut_53 rfl ?_
                refine J_if_ne (tgt := 64) dX7_workOut_55 (by decide) (fun c4 => ?_) (fun c4 => ?_)
                · -- to 64
                  refine J_iload dX7_workOut_64 rfl ?_
                  refine J_bipush (v := 18) dX7_workOut_66 (by decide) ?_
                  refine J_icmp_eq (tgt := 74) dX7_workOut_68 (by decide) (fun c5 => ?_) (fun c5 => ?_)
                  · -- to 74
                    exact absurd c5 (by decide)
                  · -- on 71
                    refine J_iinc (v := nI h) dX7_workOut_71 rfl (nI_dec h) (by decide) rfl ?_
                    dsimp only [setL]
                    refine J_iload_n dX7_workOut_74 rfl ?_
                    refine J_if_lt (tgt := 86) dX7_workOut_75 (by decide) (fun c6 => ?_) (fun c6 => ?_)
                    · -- to 86
                      exact absurd c6 (nI_nlt (b := 0) (Nat.zero_le _) (by omega))
                    · -- on 78
                      refine J_iload_n dX7_workOut_78 rfl ?_
                      refine J_iconst (v := 1) dX7_workOut_79 (by decide) ?_
                      refine J_iadd dX7_workOut_80 ?_
                      refine J_bipush (v := 40) dX7_workOut_81 (by decide) ?_
                      refine J_icmp_lt (tgt := 88) dX7_workOut_83 (by decide) (fun c7 => ?_) (fun c7 => ?_)
                      · -- to 88
                        refine J_aload_n dX7_workOut_88 rfl ?_
                        refine M_getR dX7_workOut_89 fX7_22 rfl rfl (by decide) ?_
                        refine J_iload_n dX7_workOut_92 rfl ?_
                        refine M_ialdE dX7_workOut_93 rfl (by decide) (by first | rfl | assumption) (by omega) ?_
                        rw [rda]
                        refine J_istore dX7_workOut_94 (by decide) rfl ?_
                        dsimp only [setL]
                        refine J_aload_n dX7_workOut_96 rfl ?_
                        refine M_getR dX7_workOut_97 fX7_22 rfl rfl (by decide) ?_
                        refine J_iload_n dX7_workOut_100 rfl ?_
                        refine J_iconst (v := 1) dX7_workOut_101 (by decide) ?_
                        refine J_iadd dX7_workOut_102 ?_
                        refine M_ialdE dX7_workOut_103 rfl (by decide) (nI_1 h) (by omega) ?_
                        rw [rda]
                        refine J_istore dX7_workOut_104 (by decide) rfl ?_
                        dsimp only [setL]
                        refine J_iload dX7_workOut_106 rfl ?_
                        refine J_lookup (off := 220) (tgt := 328) dX7_workOut_108 (by decide) (by rfl) (by decide) ?_
                        refine J_aload_n dX7_workOut_328 rfl ?_
                        refine M_getR dX7_workOut_329 fX7_22 rfl rfl (by decide) ?_
                        refine J_iload_n dX7_workOut_332 rfl ?_
                        refine J_iload dX7_workOut_333 rfl ?_
                        refine J_iload dX7_workOut_335 rfl ?_
                        refine J_isub dX7_workOut_337 ?_
                        refine M_iastE dX7_workOut_338 rfl (by decide) (by first | rfl | assumption) (by omega) ?_
                        refine J_goto (tgt := 367) dX7_workOut_339 (by decide) ?_
                        rw [wa_wr]
                        refine J_iinc (v := nI (i + 1)) dX7_workOut_367 rfl (nI_1 i) (by decide) rfl ?_
                        dsimp only [setL]
                        refine J_dropN 5 ?_
                        refine J_goto (tgt := 10) dX7_workOut_370 (by decide) ?_
                        rw [evF, if_neg hc0, if_neg hd0, if_neg he0, hc] at h0
                        have q := ih (i + 1) (h + 1) _ (by omega) (by omega) hk.2.2 h0
                        rw [Nat.add_sub_cancel, show h + 1 + 1 - 1 = h + 1 from rfl] at q
                        first
                        | (rw [bop_mi] at q; exact q)
                      · -- on 86
                        exact absurd (by rw [nI_1]; exact nI_lt (b := 40) (by omega) (by decide)) c7
                · -- on 58
                  exact absurd c4 (by decide)
set_option maxRecDepth 100000 in
set_option maxHeartbeats 1000000 in
theorem tX7_workOut {d : Nat} {M : Mem} {Φ : Option Int32 → Mem → Prop} {r a e : Nat} {C : Nat → Nat} (hs : M.1 22 r = nI a) (ha : M.1 22 (r + 1) = nI e) (hr : r < 12) (heb : e ≤ 1000) (hC : ∀ i, i < e → M.1 21 i = nI (C i)) (hae : a ≤ e) (hk : okF C 14 (e - a) a 0) (h0 : ∀ f, Φ (some (evF (M.1 28) C (e - a) a 0 (M.1 24))) (wa M 24 f)) : JM noRo d mX7_workOut 0 [some (.ref 20), some (.int (nI r)), some (.ref 28)] [] M Φ := by
  refine J_iconst (v := -1) dX7_workOut_0 (by decide) ?_
  refine J_istore_n dX7_workOut_1 (by decide) rfl ?_
  dsimp only [setL]
  refine J_aload_n dX7_workOut_2 rfl ?_
  refine M_getR dX7_workOut_3 fX7_15 rfl rfl (by decide) ?_
  refine J_iload_n dX7_workOut_6 rfl ?_
  refine M_ialdE dX7_workOut_7 rfl (by decide) (by first | rfl | assumption) (by omega) ?_
  rw [hs]
  refine J_istore dX7_workOut_8 (by decide) rfl ?_
  dsimp only [setL]
  have q := tX7_workOut_l (d := d) ha hr heb hC (e - a) a 0 (M.1 24) (by omega) (by omega) hk h0
  rw [wa_self] at q
  exact q

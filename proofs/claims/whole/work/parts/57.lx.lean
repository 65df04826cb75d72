def WS : List Nat := [104, 111, 114, 115, 101, 32, 32, 32, 107, 105, 110, 100, 32, 32, 32, 32, 97, 103, 101, 32, 32, 32, 32, 32, 100, 97, 121, 115, 32, 32, 32, 32, 108, 97, 109, 101, 32, 32, 32, 32, 102, 105, 101, 108, 100, 32, 32, 32, 119, 101, 116, 32, 32, 32, 32, 32, 104, 111, 117, 114, 32, 32, 32, 32, 103, 97, 116, 101, 32, 32, 32, 32, 104, 111, 114, 115, 101, 50, 32, 32, 107, 105, 110, 100, 50, 32, 32, 32, 97, 103, 101, 50, 32, 32, 32, 32, 100, 97, 121, 115, 50, 32, 32, 32, 108, 97, 109, 101, 50, 32, 32, 32, 112, 108, 97, 99, 101, 32, 32, 32, 112, 97, 105, 114, 32, 32, 32, 32, 111, 114, 32, 32, 32, 32, 32, 32, 97, 110, 100, 32, 32, 32, 32, 32, 110, 111, 116, 32, 32, 32, 32, 32]
def wch (w k : Nat) : Nat := WS.getD (8 * w + k) 0
def wlL : List Nat := [5, 4, 3, 4, 4, 5, 3, 4, 4, 6, 5, 4, 5, 5, 5, 4, 2, 3, 3]
def wlen (w : Nat) : Nat := wlL.getD w 0
theorem w_tab : ∀ w, w < 19 → cw w = fo (wch w) (wlen w) ∧ wlen w ≤ 8 ∧ ∀ k, k < 8 → (k < wlen w → 33 ≤ wch w k ∧ wch w k < 256) ∧ (wlen w ≤ k → wch w k = 32) := by decide
theorem fo_cg {f g : Nat → Nat} : ∀ k, (∀ i, i < k → f i = g i) → fo f k = fo g k
  | 0, _ => rfl
  | k + 1, h => by rw [fo, fo, fo_cg k (fun i hi => h i (by omega)), h k (by omega)]
theorem fo_inj {f g : Nat → Nat} : ∀ a b, (∀ k, k < a → 1 ≤ f k ∧ f k < 256) → (∀ k, k < b → 1 ≤ g k ∧ g k < 256) → fo f a = fo g b → a = b ∧ ∀ k, k < a → f k = g k
  | 0, 0, _, _, _ => ⟨rfl, fun k h => absurd h (by omega)⟩
  | 0, b + 1, _, hg, e => by
    rw [fo, fo] at e
    have := hg b (by omega)
    omega
  | a + 1, 0, hf, _, e => by
    rw [fo, fo] at e
    have := hf a (by omega)
    omega
  | a + 1, b + 1, hf, hg, e => by
    rw [fo, fo] at e
    have h1 := hf a (by omega)
    have h2 := hg b (by omega)
    obtain ⟨e1, e2⟩ := fo_inj a b (fun k hk => hf k (by omega)) (fun k hk => hg k (by omega)) (by omega)
    refine ⟨by omega, fun k hk => ?_⟩
    by_cases q : k = a
    · subst q
      subst e1
      omega
    · exact e2 k (by omega)
/-- the letter at place k of the word from s to e, as the class sees it -/
def hrW (T : Nat → Nat) (s e k : Nat) : Nat := if s + k < e then T (s + k) else 32
def mtW (T : Nat → Nat) (s e w : Nat) : Nat → Nat → Bool
  | 0, _ => true
  | l + 1, k => if wch w k = hrW T s e k then mtW T s e w l (k + 1) else false
theorem mtW_all {T : Nat → Nat} {s e w : Nat} : ∀ l k, mtW T s e w l k = true ↔ ∀ i, k ≤ i → i < k + l → wch w i = hrW T s e i
  | 0, k => ⟨fun _ i h1 h2 => absurd h2 (by omega), fun _ => rfl⟩
  | l + 1, k => by
    rw [mtW]
    by_cases h : wch w k = hrW T s e k
    · rw [if_pos h, mtW_all l (k + 1)]
      refine ⟨fun z i h1 h2 => ?_, fun z i h1 h2 => z i (by omega) (by omega)⟩
      by_cases q : i = k
      · rw [q]; exact h
      · exact z i (by omega) (by omega)
    · rw [if_neg h]
      exact ⟨fun z => absurd z (by decide), fun z => absurd (z k (by omega) (by omega)) h⟩
theorem aln_b {c : Nat} (h : aln c = true) : 48 ≤ c ∧ c ≤ 122 := by
  unfold aln ltr dgt at h
  simp only [Bool.or_eq_true, Bool.and_eq_true, decide_eq_true_eq] at h
  omega
theorem mtW_eq {T : Nat → Nat} {s e w : Nat} (hw : w < 19) (hse : s ≤ e) (h8 : e - s ≤ 8) (hA : ∀ i, s ≤ i → i < e → aln (T i) = true) : mtW T s e w 8 0 = true ↔ cw w = wn T s (e - s) := by
  obtain ⟨t1, t2, t3⟩ := w_tab w hw
  have hb : ∀ k, k < e - s → 48 ≤ T (s + k) ∧ T (s + k) ≤ 122 := fun k hk => aln_b (hA (s + k) (by omega) (by omega))
  rw [mtW_all]
  constructor
  · intro z
    have hl : wlen w = e - s := by
      rcases Nat.lt_trichotomy (wlen w) (e - s) with q | q | q
      · have a1 := (t3 (wlen w) (by omega)).2 (Nat.le_refl _)
        have a2 := z (wlen w) (by omega) (by omega)
        rw [hrW, if_pos (by omega)] at a2
        have := hb (wlen w) q
        omega
      · exact q
      · have a1 := (t3 (e - s) (by omega)).1 q
        have a2 := z (e - s) (by omega) (by omega)
        rw [hrW, if_neg (by omega)] at a2
        omega
    rw [t1, hl]
    unfold wn
    refine fo_cg _ (fun i hi => ?_)
    have a2 := z i (by omega) (by omega)
    rw [hrW, if_pos (by omega)] at a2
    exact a2
  · intro z i _ hi
    rw [t1] at z
    obtain ⟨e1, e2⟩ := fo_inj (f := wch w) (g := fun i => T (s + i)) (wlen w) (e - s) (fun k hk => by have := (t3 k (by omega)).1 hk; omega) (fun k hk => by have := hb k hk; show 1 ≤ T (s + k) ∧ T (s + k) < 256; omega) z
    unfold hrW
    by_cases q : s + i < e
    · rw [if_pos q]; exact e2 i (by omega)
    · rw [if_neg q]; exact (t3 i (by omega)).2 (by omega)
/-- what the letters of the words are (the text of a constant) -/
def LetOK : Prop := ∀ (d : Nat) (M : Mem) (Φ : Option Int32 → Mem → Prop) (w i : Nat), w < 19 → i < 8 → Φ (some (nI (wch w i))) M → JM noRo (d + 6) mX9_letterOf 0 [some (.int (nI w)), some (.int (nI i))] [] M Φ
theorem WS_lt {w k : Nat} (hw : w < 19) (hk : k < 8) : wch w k < 256 := by
  obtain ⟨t1, t2, t3⟩ := w_tab w hw
  rcases Nat.lt_or_ge k (wlen w) with q | q
  · exact ((t3 k hk).1 q).2
  · rw [(t3 k hk).2 q]; decide
set_option maxRecDepth 100000 in
set_option maxHeartbeats 1000000 in
theorem tX9_lh {d : Nat} {M : Mem} {Φ : Option Int32 → Mem → Prop} {n : Nat} {T : Nat → Nat} {s e k : Nat} {g : Nat → Int32} (hn : M.1 13 1 = nI n) (hnb : n ≤ 1000) (hT : ∀ i, M.1 14 i = nI (T i) ∧ T i < 256) (hg1 : g 1 = nI e) (hg2 : g 2 = nI s) (hen : e ≤ n) (hse : s ≤ e) (hk : k < 8) (h : Φ (some (nI (hrW T s e k))) (wa M 26 g)) : JM noRo (d + 1) mX9_letterHere 0 [some (.ref 26), some (.int (nI k))] [] (wa M 26 g) Φ := by
  unfold hrW at h
  refine J_aload_n dX9_letterHere_0 rfl ?_
  refine M_getI dX9_letterHere_1 fX9_15 rfl rfl (by decide) ?_
  rw [rda, hg2]
  refine J_iload_n dX9_letterHere_4 rfl ?_
  refine J_iadd dX9_letterHere_5 ?_
  rw [nI_add]
  refine J_aload_n dX9_letterHere_6 rfl ?_
  refine M_getI dX9_letterHere_7 fX9_25 rfl rfl (by decide) ?_
  rw [rda, hg1]
  refine J_icmp_ge (tgt := 29) dX9_letterHere_10 (by decide) (fun c1 => ?_) (fun c1 => ?_)
  · -- to 29
    refine J_bipush (v := 32) dX9_letterHere_29 (by decide) ?_
    refine M_iret dX9_letterHere_31 rfl rfl ?_
    first
    | (rw [if_pos hlt] at h; exact h)
    | (rw [if_neg (fun q => nI_ge q (by omega) c1)] at h; exact h)
  · -- on 13
    have hlt : s + k < e := Nat.not_le.mp (fun q => c1 (nI_le q (by omega)))
    refine J_aload_n dX9_letterHere_13 rfl ?_
    refine M_getR dX9_letterHere_14 fX9_9 rfl rfl (by decide) ?_
    refine J_aload_n dX9_letterHere_17 rfl ?_
    refine M_getI dX9_letterHere_18 fX9_15 rfl rfl (by decide) ?_
    rw [rda, hg2]
    refine J_iload_n dX9_letterHere_21 rfl ?_
    refine J_iadd dX9_letterHere_22 ?_
    rw [nI_add]
    refine M_callV1 (mc := mX8_at) dX9_letterHere_23 kX9_37 oX8_at (Nat.le_of_ble_eq_true rfl) (Nat.le_of_ble_eq_true rfl) rfl (by decide) rfl ?_
    refine tX8_atN (n := n) (by rw [rdb (by decide)]; exact hn) hnb (by omega) (fun hq => ?_) (fun hq => absurd (by omega) hq)
    rw [rdb (by decide), (hT _).1]
    refine J_goto (tgt := 31) dX9_letterHere_26 (by decide) ?_
    refine M_iret dX9_letterHere_31 rfl rfl ?_
    first
    | (rw [if_pos hlt] at h; exact h)
    | (rw [if_neg (fun q => nI_ge q (by omega) c1)] at h; exact h)
theorem hr_lt {T : Nat → Nat} {f : Nat → Int32} {s e k : Nat} (hT : ∀ i, f i = nI (T i) ∧ T i < 256) : hrW T s e k < 2 ^ 31 := by
  unfold hrW
  split
  · have := (hT (s + k)).2; omega
  · decide
set_option maxRecDepth 100000 in
set_option maxHeartbeats 1000000 in
theorem tX9_wn_i {d : Nat} {M : Mem} {Φ : Option Int32 → Mem → Prop} {n : Nat} {T : Nat → Nat} {s e w : Nat} {g : Nat → Int32} (hLet : LetOK) (hn : M.1 13 1 = nI n) (hnb : n ≤ 1000) (hT : ∀ i, M.1 14 i = nI (T i) ∧ T i < 256) (hg1 : g 1 = nI e) (hg2 : g 2 = nI s) (hen : e ≤ n) (hse : s ≤ e) (hw : w < 19) : ∀ l k, k + l = 8 → (mtW T s e w l k = true → JM noRo (d + 7) mX9_wordNumber 41 [some (.ref 26), some (.int (nI w))] [] (wa M 26 g) Φ) → (mtW T s e w l k = false → JM noRo (d + 7) mX9_wordNumber 43 [some (.ref 26), some (.int (nI w))] [] (wa M 26 g) Φ) → JM noRo (d + 7) mX9_wordNumber 10 [some (.ref 26), some (.int (nI w)), some (.int (nI k))] [] (wa M 26 g) Φ := by
  intro l
  induction l with
  | zero =>
    intro k hk h1 h0
    refine J_iload_n dX9_wordNumber_10 rfl ?_
    refine J_bipush (v := 8) dX9_wordNumber_11 (by decide) ?_
    refine J_icmp_ge (tgt := 35) dX9_wordNumber_13 (by decide) (fun c1 => ?_) (fun c1 => ?_)
    · -- to 35
      refine J_iload_n dX9_wordNumber_35 rfl ?_
      refine J_bipush (v := 8) dX9_wordNumber_36 (by decide) ?_
      refine J_icmp_ne (tgt := 43) dX9_wordNumber_38 (by decide) (fun c2 => ?_) (fun c2 => ?_)
      · -- to 43
        exact absurd (by rw [show k = 8 by omega]; rfl) c2
      · -- on 41
        refine J_dropN 2 ?_
        exact h1 rfl
    · -- on 16
      exact absurd (nI_le (a := 8) (by omega) (by omega)) c1
  | succ l ih =>
    intro k hk h1 h0
    refine J_iload_n dX9_wordNumber_10 rfl ?_
    refine J_bipush (v := 8) dX9_wordNumber_11 (by decide) ?_
    refine J_icmp_ge (tgt := 35) dX9_wordNumber_13 (by decide) (fun c1 => ?_) (fun c1 => ?_)
    · -- to 35
      exact absurd c1 (nI_ge (b := 8) (by omega) (by decide))
    · -- on 16
      refine J_iload_n dX9_wordNumber_16 rfl ?_
      refine J_iload_n dX9_wordNumber_17 rfl ?_
      refine M_callS2 (mc := mX9_letterOf) dX9_wordNumber_18 kX9_63 oX9_letterOf (Nat.le_of_ble_eq_true rfl) (Nat.le_of_ble_eq_true rfl) ?_
      refine hLet _ _ _ w k hw (by omega) ?_
      refine J_aload_n dX9_wordNumber_21 rfl ?_
      refine J_iload_n dX9_wordNumber_22 rfl ?_
      refine M_callV1 (mc := mX9_letterHere) dX9_wordNumber_23 kX9_67 oX9_letterHere (Nat.le_of_ble_eq_true rfl) (Nat.le_of_ble_eq_true rfl) rfl (by decide) rfl ?_
      refine tX9_lh hn hnb hT hg1 hg2 hen hse (by omega) ?_
      refine J_icmp_ne (tgt := 35) dX9_wordNumber_26 (by decide) (fun c4 => ?_) (fun c4 => ?_)
      · -- to 35
        have hE : ¬ wch w k = hrW T s e k := fun q => c4 (by rw [q])
        refine J_iload_n dX9_wordNumber_35 rfl ?_
        refine J_bipush (v := 8) dX9_wordNumber_36 (by decide) ?_
        refine J_icmp_ne (tgt := 43) dX9_wordNumber_38 (by decide) (fun c5 => ?_) (fun c5 => ?_)
        · -- to 43
          rw [mtW, if_neg hE] at h0
          refine J_dropN 2 ?_
          exact h0 rfl
        · -- on 41
          exact absurd ((nI_eq (a := k) (b := 8) (by omega) (by decide)).mp c5) (by omega)
      · -- on 29
        have hE : wch w k = hrW T s e k := (nI_eq (by have := WS_lt hw (show k < 8 by omega); omega) (hr_lt hT)).mp c4
        refine J_iinc (v := nI (k + 1)) dX9_wordNumber_29 rfl (nI_1 k) (by decide) rfl ?_
        dsimp only [setL]
        refine J_goto (tgt := 10) dX9_wordNumber_32 (by decide) ?_
        rw [mtW, if_pos hE] at h1 h0
        exact ih (k + 1) (by omega) h1 h0
def vF (w : Nat) : Int32 := if w = 99 then -1 else nI w
theorem fnd_at {N : Nat} : ∀ k w, fnd N k w = 99 ∨ (w ≤ fnd N k w ∧ fnd N k w < w + k ∧ cw (fnd N k w) = N)
  | 0, _ => Or.inl rfl
  | k + 1, w => by
    rw [fnd]
    by_cases h : cw w = N
    · rw [if_pos h]; exact Or.inr ⟨Nat.le_refl _, by omega, h⟩
    · rw [if_neg h]
      rcases fnd_at (N := N) k (w + 1) with q | q
      · exact Or.inl q
      · exact Or.inr ⟨by omega, by omega, q.2.2⟩
theorem fnd_no {N : Nat} : ∀ k w, fnd N k w = 99 → w + k ≤ 99 → ∀ i, w ≤ i → i < w + k → ¬ cw i = N
  | 0, w, _, _, i, h1, h2 => absurd h2 (by omega)
  | k + 1, w, h, hw, i, h1, h2 => by
    rw [fnd] at h
    by_cases hc : cw w = N
    · rw [if_pos hc] at h; omega
    · rw [if_neg hc] at h
      by_cases q : i = w
      · rw [q]; exact hc
      · exact fnd_no k (w + 1) h (by omega) i (by omega) (by omega)
theorem fnd_y {N k w : Nat} (h : cw w = N) : fnd N (k + 1) w = w := by rw [fnd, if_pos h]
theorem fnd_n {N k w : Nat} (h : ¬ cw w = N) : fnd N (k + 1) w = fnd N k (w + 1) := by rw [fnd, if_neg h]
set_option maxRecDepth 100000 in
set_option maxHeartbeats 1000000 in
theorem tX9_wn_l {d : Nat} {M : Mem} {Φ : Option Int32 → Mem → Prop} {n : Nat} {T : Nat → Nat} {s e : Nat} {g : Nat → Int32} (hLet : LetOK) (hn : M.1 13 1 = nI n) (hnb : n ≤ 1000) (hT : ∀ i, M.1 14 i = nI (T i) ∧ T i < 256) (hg1 : g 1 = nI e) (hg2 : g 2 = nI s) (hen : e ≤ n) (hse : s ≤ e) (h8 : e - s ≤ 8) (hA : ∀ i, s ≤ i → i < e → aln (T i) = true) : ∀ l w, w + l = 19 → Φ (some (vF (fnd (wn T s (e - s)) l w))) (wa M 26 g) → JM noRo (d + 7) mX9_wordNumber 2 [some (.ref 26), some (.int (nI w))] [] (wa M 26 g) Φ := by
  intro l
  induction l with
  | zero =>
    intro w hw h
    refine J_iload_n dX9_wordNumber_2 rfl ?_
    refine J_bipush (v := 19) dX9_wordNumber_3 (by decide) ?_
    refine J_icmp_ge (tgt := 49) dX9_wordNumber_5 (by decide) (fun c1 => ?_) (fun c1 => ?_)
    · -- to 49
      refine J_iconst (v := -1) dX9_wordNumber_49 (by decide) ?_
      refine M_iret dX9_wordNumber_50 rfl rfl ?_
      exact h
    · -- on 8
      exact absurd (nI_le (a := 19) (by omega) (by omega)) c1
  | succ l ih =>
    intro w hw h
    refine J_iload_n dX9_wordNumber_2 rfl ?_
    refine J_bipush (v := 19) dX9_wordNumber_3 (by decide) ?_
    refine J_icmp_ge (tgt := 49) dX9_wordNumber_5 (by decide) (fun c1 => ?_) (fun c1 => ?_)
    · -- to 49
      exact absurd c1 (nI_ge (b := 19) (by omega) (by decide))
    · -- on 8
      refine J_iconst (v := 0) dX9_wordNumber_8 (by decide) ?_
      refine J_istore_n dX9_wordNumber_9 (by decide) rfl ?_
      dsimp only [setL]
      refine tX9_wn_i hLet hn hnb hT hg1 hg2 hen hse (by omega) 8 0 (by omega) (fun hm => ?_) (fun hm => ?_)
      · rw [fnd_y ((mtW_eq (by omega) hse h8 hA).mp hm), vF, if_neg (by omega)] at h
        refine J_iload_n dX9_wordNumber_41 rfl ?_
        refine M_iret dX9_wordNumber_42 rfl rfl ?_
        exact h
      · rw [fnd_n (fun q => absurd (hm.symm.trans ((mtW_eq (by omega) hse h8 hA).mpr q)) (by decide))] at h
        refine J_iinc (v := nI (w + 1)) dX9_wordNumber_43 rfl (nI_1 w) (by decide) rfl ?_
        dsimp only [setL]
        refine J_goto (tgt := 2) dX9_wordNumber_46 (by decide) ?_
        exact ih (w + 1) (by omega) h
set_option maxRecDepth 100000 in
set_option maxHeartbeats 1000000 in
theorem tX9_wn {d : Nat} {M : Mem} {Φ : Option Int32 → Mem → Prop} {n : Nat} {T : Nat → Nat} {s e : Nat} {g : Nat → Int32} (hLet : LetOK) (hn : M.1 13 1 = nI n) (hnb : n ≤ 1000) (hT : ∀ i, M.1 14 i = nI (T i) ∧ T i < 256) (hg1 : g 1 = nI e) (hg2 : g 2 = nI s) (hen : e ≤ n) (hse : s ≤ e) (h8 : e - s ≤ 8) (hA : ∀ i, s ≤ i → i < e → aln (T i) = true) (h : Φ (some (vF (fnd (wn T s (e - s)) 19 0))) (wa M 26 g)) : JM noRo (d + 7) mX9_wordNumber 0 [some (.ref 26)] [] (wa M 26 g) Φ := by
  refine J_iconst (v := 0) dX9_wordNumber_0 (by decide) ?_
  refine J_istore_n dX9_wordNumber_1 (by decide) rfl ?_
  dsimp only [setL]
  exact tX9_wn_l hLet hn hnb hT hg1 hg2 hen hse h8 hA 19 0 (by omega) h

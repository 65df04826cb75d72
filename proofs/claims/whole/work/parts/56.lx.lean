/-- bytes: blanks, letters, digits, signs -/
def blk (c : Nat) : Bool := c == 32 || c == 10
def ltr (c : Nat) : Bool := decide (97 ≤ c) && decide (c ≤ 122)
def dgt (c : Nat) : Bool := decide (48 ≤ c) && decide (c ≤ 57)
def aln (c : Nat) : Bool := ltr c || dgt c
def sgn (c : Nat) : Bool := c == 59 || c == 61 || c == 60 || c == 62 || c == 43 || c == 45 || c == 40 || c == 41
def rnP (P : Nat → Bool) (T : Nat → Nat) : Nat → Nat → Nat
  | 0, p => p
  | k + 1, p => if P (T p) = true then rnP P T k (p + 1) else p
theorem rn_y {P : Nat → Bool} {T : Nat → Nat} {k p : Nat} (h : P (T p) = true) : rnP P T (k + 1) p = rnP P T k (p + 1) := by rw [rnP, if_pos h]
theorem rn_n {P : Nat → Bool} {T : Nat → Nat} {k p : Nat} (h : P (T p) = false) : rnP P T (k + 1) p = p := by rw [rnP, if_neg (by rw [h]; decide)]
theorem rn_at {P : Nat → Bool} {T : Nat → Nat} : ∀ k p, p ≤ rnP P T k p ∧ rnP P T k p ≤ p + k ∧ (∀ i, p ≤ i → i < rnP P T k p → P (T i) = true) ∧ (rnP P T k p < p + k → P (T (rnP P T k p)) = false)
  | 0, p => ⟨Nat.le_refl _, Nat.le_refl _, fun i h1 h2 => absurd h2 (by have : rnP P T 0 p = p := rfl; omega), fun h => absurd h (by have : rnP P T 0 p = p := rfl; omega)⟩
  | k + 1, p => by
    rcases hb : P (T p) with _ | _
    · rw [rn_n hb]
      exact ⟨Nat.le_refl _, by omega, fun i h1 h2 => absurd h2 (by omega), fun _ => hb⟩
    · rw [rn_y hb]
      have z := rn_at (P := P) (T := T) k (p + 1)
      refine ⟨by omega, by omega, fun i h1 h2 => ?_, fun h => z.2.2.2 (by omega)⟩
      by_cases e : i = p
      · rw [e]; exact hb
      · exact z.2.2.1 i (by omega) h2
def fo (f : Nat → Nat) : Nat → Nat
  | 0 => 0
  | k + 1 => fo f k * 256 + f k
def wn (T : Nat → Nat) (s k : Nat) : Nat := fo (fun i => T (s + i)) k
def vn (T : Nat → Nat) (s : Nat) : Nat → Nat
  | 0 => 0
  | k + 1 => vn T s k * 10 + (T (s + k) - 48)
def cwL : List Nat := [448546370405, 1802071652, 6383461, 1684109683, 1818324325, 439854918756, 7824756, 1752135026, 1734440037, 114827870823730, 461330342962, 1634166066, 431132078898, 465491027250, 482854658917, 1885432178, 28530, 6385252, 7237492]
def cw (w : Nat) : Nat := cwL.getD w 0
def fnd (N : Nat) : Nat → Nat → Nat
  | 0, _ => 99
  | k + 1, w => if cw w = N then w else fnd N k (w + 1)
abbrev Tok := Nat × Nat × Nat × Nat
def lexT.lexW (w s e : Nat) : Tok := if w < 14 then (3, w, s, e) else if w = 99 then (3, 99, s, e) else (w, 0, s, e)
def lexT.lexA (T : Nat → Nat) (n s : Nat) : Tok :=
  if ltr (T s) = true then (if 8 < rnP aln T (n - s) s - s then (1, 0, s, rnP aln T (n - s) s) else lexT.lexW (fnd (wn T s (rnP aln T (n - s) s - s)) 19 0) s (rnP aln T (n - s) s))
  else if dgt (T s) = true then (if rnP dgt T (n - s) s - s ≤ 6 ∧ ¬ (rnP dgt T (n - s) s < n ∧ ltr (T (rnP dgt T (n - s) s)) = true) then (2, vn T s (rnP dgt T (n - s) s - s), s, rnP dgt T (n - s) s) else (1, 0, s, rnP dgt T (n - s) s))
  else if sgn (T s) = true then (T s, 0, s, s + 1) else (1, 0, s, s + 1)
/-- the token from p on: kind, value, start, end -/
def lexT (T : Nat → Nat) (n p : Nat) : Tok := if n ≤ rnP blk T (n - p) p then (0, 0, rnP blk T (n - p) p, rnP blk T (n - p) p) else lexT.lexA T n (rnP blk T (n - p) p)
def vI (V : Nat) : Int32 := if V < 14 then nI V else -1
/-- what a cell of tokens holds -/
def TkC (g : Nat → Int32) (t : Tok) : Prop := g 2 = nI t.2.2.1 ∧ g 3 = nI t.1 ∧ (t.1 ≠ 1 → g 1 = nI t.2.2.2) ∧ (t.1 = 2 → g 4 = nI t.2.1) ∧ (t.1 = 3 → g 4 = vI t.2.1)
theorem nn1 {i : Nat} (h : i < 2 ^ 31) : ¬ nI i < 0 := nI_nlt (b := 0) (Nat.zero_le _) h
set_option maxRecDepth 100000 in
set_option maxHeartbeats 1000000 in
theorem tX8_atN {d : Nat} {M : Mem} {Φ : Option Int32 → Mem → Prop} {n i : Nat} (hn : M.1 13 1 = nI n) (hnb : n ≤ 1000) (hi : i ≤ 2000) (h1 : i < n → Φ (some (M.1 14 i)) M) (h0 : ¬ i < n → Φ (some (-1)) M) : JM noRo d mX8_at 0 [some (.ref 13), some (.int (nI i))] [] M Φ := by
  refine J_iload_n dX8_at_0 rfl ?_
  refine J_if_lt (tgt := 21) dX8_at_1 (by decide) (fun c1 => ?_) (fun c1 => ?_)
  · -- to 21
    exact absurd c1 (nn1 (by omega))
  · -- on 4
    refine J_iload_n dX8_at_4 rfl ?_
    refine J_aload_n dX8_at_5 rfl ?_
    refine M_getI dX8_at_6 fX8_15 rfl rfl (by decide) ?_
    refine J_icmp_ge (tgt := 21) dX8_at_9 (by decide) (fun c2 => ?_) (fun c2 => ?_)
    · -- to 21
      refine J_iconst (v := -1) dX8_at_21 (by decide) ?_
      refine M_iret dX8_at_22 rfl rfl ?_
      first
      | exact h1 hiq
      | exact h0 (fun q => nI_ge q (by omega) (by rw [← hn]; exact c2))
    · -- on 12
      have hiq : i < n := Nat.not_le.mp (fun q => c2 (by rw [hn]; exact nI_le q (by omega)))
      refine J_aload_n dX8_at_12 rfl ?_
      refine M_getR dX8_at_13 fX8_9 rfl rfl (by decide) ?_
      refine J_iload_n dX8_at_16 rfl ?_
      refine M_ialdE dX8_at_17 rfl (by decide) (by first | rfl | assumption) (by omega) ?_
      refine J_goto (tgt := 22) dX8_at_18 (by decide) ?_
      refine M_iret dX8_at_22 rfl rfl ?_
      first
      | exact h1 hiq
      | exact h0 (fun q => nI_ge q (by omega) (by rw [← hn]; exact c2))
set_option maxRecDepth 100000 in
set_option maxHeartbeats 1000000 in
theorem tX8_len {d : Nat} {M : Mem} {Φ : Option Int32 → Mem → Prop}  (h : Φ (some (M.1 13 1)) M) : JM noRo d mX8_length 0 [some (.ref 13)] [] M Φ := by
  refine J_aload_n dX8_length_0 rfl ?_
  refine M_getI dX8_length_1 fX8_15 rfl rfl (by decide) ?_
  refine M_iret dX8_length_4 rfl rfl ?_
  exact h
set_option maxRecDepth 100000 in
set_option maxHeartbeats 1000000 in
theorem tX9_isLetter {d : Nat} {M : Mem} {Φ : Option Int32 → Mem → Prop} {c : Nat} (hc : c < 256) (h1 : ltr c = true → Φ (some 1) M) (h0 : ltr c = false → Φ (some 0) M) : JM noRo d mX9_isLetter 0 [some (.int (nI c))] [] M Φ := by
  refine J_iload_n dX9_isLetter_0 rfl ?_
  refine J_bipush (v := 97) dX9_isLetter_1 (by decide) ?_
  refine J_icmp_lt (tgt := 16) dX9_isLetter_3 (by decide) (fun c1 => ?_) (fun c1 => ?_)
  · -- to 16
    refine J_iconst (v := 0) dX9_isLetter_16 (by decide) ?_
    refine M_zret dX9_isLetter_17 rfl (by first | assumption | exact Or.inl rfl | exact Or.inr rfl) ?_
    first
    | exact h1 (by unfold ltr; rw [decide_eq_true (Nat.not_lt.mp (fun q => c1 (nI_lt q (by decide)))), decide_eq_true (Nat.not_lt.mp (fun q => c2 (nI_lt (a := 122) q (by omega))))]; rfl)
    | exact h0 (by unfold ltr; rw [decide_eq_false (fun q => nI_nlt (b := 97) q (by omega) c1)]; rfl)
    | exact h0 (by unfold ltr; rw [decide_eq_false (fun q => nI_nlt (a := 122) q (by decide) c2), Bool.and_false])
  · -- on 6
    refine J_iload_n dX9_isLetter_6 rfl ?_
    refine J_bipush (v := 122) dX9_isLetter_7 (by decide) ?_
    refine J_icmp_gt (tgt := 16) dX9_isLetter_9 (by decide) (fun c2 => ?_) (fun c2 => ?_)
    · -- to 16
      refine J_iconst (v := 0) dX9_isLetter_16 (by decide) ?_
      refine M_zret dX9_isLetter_17 rfl (by first | assumption | exact Or.inl rfl | exact Or.inr rfl) ?_
      first
      | exact h1 (by unfold ltr; rw [decide_eq_true (Nat.not_lt.mp (fun q => c1 (nI_lt q (by decide)))), decide_eq_true (Nat.not_lt.mp (fun q => c2 (nI_lt (a := 122) q (by omega))))]; rfl)
      | exact h0 (by unfold ltr; rw [decide_eq_false (fun q => nI_nlt (b := 97) q (by omega) c1)]; rfl)
      | exact h0 (by unfold ltr; rw [decide_eq_false (fun q => nI_nlt (a := 122) q (by decide) c2), Bool.and_false])
    · -- on 12
      refine J_iconst (v := 1) dX9_isLetter_12 (by decide) ?_
      refine J_goto (tgt := 17) dX9_isLetter_13 (by decide) ?_
      refine M_zret dX9_isLetter_17 rfl (by first | assumption | exact Or.inl rfl | exact Or.inr rfl) ?_
      first
      | exact h1 (by unfold ltr; rw [decide_eq_true (Nat.not_lt.mp (fun q => c1 (nI_lt q (by decide)))), decide_eq_true (Nat.not_lt.mp (fun q => c2 (nI_lt (a := 122) q (by omega))))]; rfl)
      | exact h0 (by unfold ltr; rw [decide_eq_false (fun q => nI_nlt (b := 97) q (by omega) c1)]; rfl)
      | exact h0 (by unfold ltr; rw [decide_eq_false (fun q => nI_nlt (a := 122) q (by decide) c2), Bool.and_false])
set_option maxRecDepth 100000 in
set_option maxHeartbeats 1000000 in
theorem tX9_isLetterN {d : Nat} {M : Mem} {Φ : Option Int32 → Mem → Prop}  (h : Φ (some 0) M) : JM noRo d mX9_isLetter 0 [some (.int (-1))] [] M Φ := by
  refine J_iload_n dX9_isLetter_0 rfl ?_
  refine J_bipush (v := 97) dX9_isLetter_1 (by decide) ?_
  refine J_icmp_lt (tgt := 16) dX9_isLetter_3 (by decide) (fun c1 => ?_) (fun c1 => ?_)
  · -- to 16
    refine J_iconst (v := 0) dX9_isLetter_16 (by decide) ?_
    refine M_zret dX9_isLetter_17 rfl (by first | assumption | exact Or.inl rfl | exact Or.inr rfl) ?_
    exact h
  · -- on 6
    exact absurd (by decide) c1
set_option maxRecDepth 100000 in
set_option maxHeartbeats 1000000 in
theorem tX9_isDigit {d : Nat} {M : Mem} {Φ : Option Int32 → Mem → Prop} {c : Nat} (hc : c < 256) (h1 : dgt c = true → Φ (some 1) M) (h0 : dgt c = false → Φ (some 0) M) : JM noRo d mX9_isDigit 0 [some (.int (nI c))] [] M Φ := by
  refine J_iload_n dX9_isDigit_0 rfl ?_
  refine J_bipush (v := 48) dX9_isDigit_1 (by decide) ?_
  refine J_icmp_lt (tgt := 16) dX9_isDigit_3 (by decide) (fun c1 => ?_) (fun c1 => ?_)
  · -- to 16
    refine J_iconst (v := 0) dX9_isDigit_16 (by decide) ?_
    refine M_zret dX9_isDigit_17 rfl (by first | assumption | exact Or.inl rfl | exact Or.inr rfl) ?_
    first
    | exact h1 (by unfold dgt; rw [decide_eq_true (Nat.not_lt.mp (fun q => c1 (nI_lt q (by decide)))), decide_eq_true (Nat.not_lt.mp (fun q => c2 (nI_lt (a := 57) q (by omega))))]; rfl)
    | exact h0 (by unfold dgt; rw [decide_eq_false (fun q => nI_nlt (b := 48) q (by omega) c1)]; rfl)
    | exact h0 (by unfold dgt; rw [decide_eq_false (fun q => nI_nlt (a := 57) q (by decide) c2), Bool.and_false])
  · -- on 6
    refine J_iload_n dX9_isDigit_6 rfl ?_
    refine J_bipush (v := 57) dX9_isDigit_7 (by decide) ?_
    refine J_icmp_gt (tgt := 16) dX9_isDigit_9 (by decide) (fun c2 => ?_) (fun c2 => ?_)
    · -- to 16
      refine J_iconst (v := 0) dX9_isDigit_16 (by decide) ?_
      refine M_zret dX9_isDigit_17 rfl (by first | assumption | exact Or.inl rfl | exact Or.inr rfl) ?_
      first
      | exact h1 (by unfold dgt; rw [decide_eq_true (Nat.not_lt.mp (fun q => c1 (nI_lt q (by decide)))), decide_eq_true (Nat.not_lt.mp (fun q => c2 (nI_lt (a := 57) q (by omega))))]; rfl)
      | exact h0 (by unfold dgt; rw [decide_eq_false (fun q => nI_nlt (b := 48) q (by omega) c1)]; rfl)
      | exact h0 (by unfold dgt; rw [decide_eq_false (fun q => nI_nlt (a := 57) q (by decide) c2), Bool.and_false])
    · -- on 12
      refine J_iconst (v := 1) dX9_isDigit_12 (by decide) ?_
      refine J_goto (tgt := 17) dX9_isDigit_13 (by decide) ?_
      refine M_zret dX9_isDigit_17 rfl (by first | assumption | exact Or.inl rfl | exact Or.inr rfl) ?_
      first
      | exact h1 (by unfold dgt; rw [decide_eq_true (Nat.not_lt.mp (fun q => c1 (nI_lt q (by decide)))), decide_eq_true (Nat.not_lt.mp (fun q => c2 (nI_lt (a := 57) q (by omega))))]; rfl)
      | exact h0 (by unfold dgt; rw [decide_eq_false (fun q => nI_nlt (b := 48) q (by omega) c1)]; rfl)
      | exact h0 (by unfold dgt; rw [decide_eq_false (fun q => nI_nlt (a := 57) q (by decide) c2), Bool.and_false])
set_option maxRecDepth 100000 in
set_option maxHeartbeats 1000000 in
theorem tX9_isDigitN {d : Nat} {M : Mem} {Φ : Option Int32 → Mem → Prop}  (h : Φ (some 0) M) : JM noRo d mX9_isDigit 0 [some (.int (-1))] [] M Φ := by
  refine J_iload_n dX9_isDigit_0 rfl ?_
  refine J_bipush (v := 48) dX9_isDigit_1 (by decide) ?_
  refine J_icmp_lt (tgt := 16) dX9_isDigit_3 (by decide) (fun c1 => ?_) (fun c1 => ?_)
  · -- to 16
    refine J_iconst (v := 0) dX9_isDigit_16 (by decide) ?_
    refine M_zret dX9_isDigit_17 rfl (by first | assumption | exact Or.inl rfl | exact Or.inr rfl) ?_
    exact h
  · -- on 6
    exact absurd (by decide) c1
set_option maxRecDepth 100000 in
set_option maxHeartbeats 1000000 in
theorem tX12_isLetter {d : Nat} {M : Mem} {Φ : Option Int32 → Mem → Prop} {c : Nat} (hc : c < 256) (h1 : ltr c = true → Φ (some 1) M) (h0 : ltr c = false → Φ (some 0) M) : JM noRo d mX12_isLetter 0 [some (.int (nI c))] [] M Φ := by
  refine J_iload_n dX12_isLetter_0 rfl ?_
  refine J_bipush (v := 97) dX12_isLetter_1 (by decide) ?_
  refine J_icmp_lt (tgt := 16) dX12_isLetter_3 (by decide) (fun c1 => ?_) (fun c1 => ?_)
  · -- to 16
    refine J_iconst (v := 0) dX12_isLetter_16 (by decide) ?_
    refine M_zret dX12_isLetter_17 rfl (by first | assumption | exact Or.inl rfl | exact Or.inr rfl) ?_
    first
    | exact h1 (by unfold ltr; rw [decide_eq_true (Nat.not_lt.mp (fun q => c1 (nI_lt q (by decide)))), decide_eq_true (Nat.not_lt.mp (fun q => c2 (nI_lt (a := 122) q (by omega))))]; rfl)
    | exact h0 (by unfold ltr; rw [decide_eq_false (fun q => nI_nlt (b := 97) q (by omega) c1)]; rfl)
    | exact h0 (by unfold ltr; rw [decide_eq_false (fun q => nI_nlt (a := 122) q (by decide) c2), Bool.and_false])
  · -- on 6
    refine J_iload_n dX12_isLetter_6 rfl ?_
    refine J_bipush (v := 122) dX12_isLetter_7 (by decide) ?_
    refine J_icmp_gt (tgt := 16) dX12_isLetter_9 (by decide) (fun c2 => ?_) (fun c2 => ?_)
    · -- to 16
      refine J_iconst (v := 0) dX12_isLetter_16 (by decide) ?_
      refine M_zret dX12_isLetter_17 rfl (by first | assumption | exact Or.inl rfl | exact Or.inr rfl) ?_
      first
      | exact h1 (by unfold ltr; rw [decide_eq_true (Nat.not_lt.mp (fun q => c1 (nI_lt q (by decide)))), decide_eq_true (Nat.not_lt.mp (fun q => c2 (nI_lt (a := 122) q (by omega))))]; rfl)
      | exact h0 (by unfold ltr; rw [decide_eq_false (fun q => nI_nlt (b := 97) q (by omega) c1)]; rfl)
      | exact h0 (by unfold ltr; rw [decide_eq_false (fun q => nI_nlt (a := 122) q (by decide) c2), Bool.and_false])
    · -- on 12
      refine J_iconst (v := 1) dX12_isLetter_12 (by decide) ?_
      refine J_goto (tgt := 17) dX12_isLetter_13 (by decide) ?_
      refine M_zret dX12_isLetter_17 rfl (by first | assumption | exact Or.inl rfl | exact Or.inr rfl) ?_
      first
      | exact h1 (by unfold ltr; rw [decide_eq_true (Nat.not_lt.mp (fun q => c1 (nI_lt q (by decide)))), decide_eq_true (Nat.not_lt.mp (fun q => c2 (nI_lt (a := 122) q (by omega))))]; rfl)
      | exact h0 (by unfold ltr; rw [decide_eq_false (fun q => nI_nlt (b := 97) q (by omega) c1)]; rfl)
      | exact h0 (by unfold ltr; rw [decide_eq_false (fun q => nI_nlt (a := 122) q (by decide) c2), Bool.and_false])
set_option maxRecDepth 100000 in
set_option maxHeartbeats 1000000 in
theorem tX12_isLetterN {d : Nat} {M : Mem} {Φ : Option Int32 → Mem → Prop}  (h : Φ (some 0) M) : JM noRo d mX12_isLetter 0 [some (.int (-1))] [] M Φ := by
  refine J_iload_n dX12_isLetter_0 rfl ?_
  refine J_bipush (v := 97) dX12_isLetter_1 (by decide) ?_
  refine J_icmp_lt (tgt := 16) dX12_isLetter_3 (by decide) (fun c1 => ?_) (fun c1 => ?_)
  · -- to 16
    refine J_iconst (v := 0) dX12_isLetter_16 (by decide) ?_
    refine M_zret dX12_isLetter_17 rfl (by first | assumption | exact Or.inl rfl | exact Or.inr rfl) ?_
    exact h
  · -- on 6
    exact absurd (by decide) c1
set_option maxRecDepth 100000 in
set_option maxHeartbeats 1000000 in
theorem tX12_isDigit {d : Nat} {M : Mem} {Φ : Option Int32 → Mem → Prop} {c : Nat} (hc : c < 256) (h1 : dgt c = true → Φ (some 1) M) (h0 : dgt c = false → Φ (some 0) M) : JM noRo d mX12_isDigit 0 [some (.int (nI c))] [] M Φ := by
  refine J_iload_n dX12_isDigit_0 rfl ?_
  refine J_bipush (v := 48) dX12_isDigit_1 (by decide) ?_
  refine J_icmp_lt (tgt := 16) dX12_isDigit_3 (by decide) (fun c1 => ?_) (fun c1 => ?_)
  · -- to 16
    refine J_iconst (v := 0) dX12_isDigit_16 (by decide) ?_
    refine M_zret dX12_isDigit_17 rfl (by first | assumption | exact Or.inl rfl | exact Or.inr rfl) ?_
    first
    | exact h1 (by unfold dgt; rw [decide_eq_true (Nat.not_lt.mp (fun q => c1 (nI_lt q (by decide)))), decide_eq_true (Nat.not_lt.mp (fun q => c2 (nI_lt (a := 57) q (by omega))))]; rfl)
    | exact h0 (by unfold dgt; rw [decide_eq_false (fun q => nI_nlt (b := 48) q (by omega) c1)]; rfl)
    | exact h0 (by unfold dgt; rw [decide_eq_false (fun q => nI_nlt (a := 57) q (by decide) c2), Bool.and_false])
  · -- on 6
    refine J_iload_n dX12_isDigit_6 rfl ?_
    refine J_bipush (v := 57) dX12_isDigit_7 (by decide) ?_
    refine J_icmp_gt (tgt := 16) dX12_isDigit_9 (by decide) (fun c2 => ?_) (fun c2 => ?_)
    · -- to 16
      refine J_iconst (v := 0) dX12_isDigit_16 (by decide) ?_
      refine M_zret dX12_isDigit_17 rfl (by first | assumption | exact Or.inl rfl | exact Or.inr rfl) ?_
      first
      | exact h1 (by unfold dgt; rw [decide_eq_true (Nat.not_lt.mp (fun q => c1 (nI_lt q (by decide)))), decide_eq_true (Nat.not_lt.mp (fun q => c2 (nI_lt (a := 57) q (by omega))))]; rfl)
      | exact h0 (by unfold dgt; rw [decide_eq_false (fun q => nI_nlt (b := 48) q (by omega) c1)]; rfl)
      | exact h0 (by unfold dgt; rw [decide_eq_false (fun q => nI_nlt (a := 57) q (by decide) c2), Bool.and_false])
    · -- on 12
      refine J_iconst (v := 1) dX12_isDigit_12 (by decide) ?_
      refine J_goto (tgt := 17) dX12_isDigit_13 (by decide) ?_
      refine M_zret dX12_isDigit_17 rfl (by first | assumption | exact Or.inl rfl | exact Or.inr rfl) ?_
      first
      | exact h1 (by unfold dgt; rw [decide_eq_true (Nat.not_lt.mp (fun q => c1 (nI_lt q (by decide)))), decide_eq_true (Nat.not_lt.mp (fun q => c2 (nI_lt (a := 57) q (by omega))))]; rfl)
      | exact h0 (by unfold dgt; rw [decide_eq_false (fun q => nI_nlt (b := 48) q (by omega) c1)]; rfl)
      | exact h0 (by unfold dgt; rw [decide_eq_false (fun q => nI_nlt (a := 57) q (by decide) c2), Bool.and_false])
set_option maxRecDepth 100000 in
set_option maxHeartbeats 1000000 in
theorem tX12_isDigitN {d : Nat} {M : Mem} {Φ : Option Int32 → Mem → Prop}  (h : Φ (some 0) M) : JM noRo d mX12_isDigit 0 [some (.int (-1))] [] M Φ := by
  refine J_iload_n dX12_isDigit_0 rfl ?_
  refine J_bipush (v := 48) dX12_isDigit_1 (by decide) ?_
  refine J_icmp_lt (tgt := 16) dX12_isDigit_3 (by decide) (fun c1 => ?_) (fun c1 => ?_)
  · -- to 16
    refine J_iconst (v := 0) dX12_isDigit_16 (by decide) ?_
    refine M_zret dX12_isDigit_17 rfl (by first | assumption | exact Or.inl rfl | exact Or.inr rfl) ?_
    exact h
  · -- on 6
    exact absurd (by decide) c1
theorem blk_f {c : Nat} (h1 : ¬ c = 32) (h2 : ¬ c = 10) : blk c = false := by unfold blk; rw [beq_false_of_ne h1, beq_false_of_ne h2]; rfl
set_option maxRecDepth 100000 in
set_option maxHeartbeats 1000000 in
theorem tX9_isBlank {d : Nat} {M : Mem} {Φ : Option Int32 → Mem → Prop} {c : Nat} (hc : c < 256) (h1 : blk c = true → Φ (some 1) M) (h0 : blk c = false → Φ (some 0) M) : JM noRo d mX9_isBlank 0 [some (.int (nI c))] [] M Φ := by
  refine J_iload_n dX9_isBlank_0 rfl ?_
  refine J_bipush (v := 32) dX9_isBlank_1 (by decide) ?_
  refine J_icmp_eq (tgt := 12) dX9_isBlank_3 (by decide) (fun c1 => ?_) (fun c1 => ?_)
  · -- to 12
    refine J_iconst (v := 1) dX9_isBlank_12 (by decide) ?_
    refine J_goto (tgt := 17) dX9_isBlank_13 (by decide) ?_
    refine M_zret dX9_isBlank_17 rfl (by first | assumption | exact Or.inl rfl | exact Or.inr rfl) ?_
    first
    | exact h1 (by unfold blk; rw [(nI_eq (a := c) (b := 32) (by omega) (by decide)).mp c1]; rfl)
    | exact h1 (by unfold blk; rw [(nI_eq (a := c) (b := 10) (by omega) (by decide)).mp c1]; rfl)
    | exact h0 (blk_f (fun q => c1 (by rw [q]; rfl)) (fun q => c2 (by rw [q]; rfl)))
  · -- on 6
    refine J_iload_n dX9_isBlank_6 rfl ?_
    refine J_bipush (v := 10) dX9_isBlank_7 (by decide) ?_
    refine J_icmp_ne (tgt := 16) dX9_isBlank_9 (by decide) (fun c2 => ?_) (fun c2 => ?_)
    · -- to 16
      refine J_iconst (v := 0) dX9_isBlank_16 (by decide) ?_
      refine M_zret dX9_isBlank_17 rfl (by first | assumption | exact Or.inl rfl | exact Or.inr rfl) ?_
      first
      | exact h1 (by unfold blk; rw [(nI_eq (a := c) (b := 32) (by omega) (by decide)).mp c2]; rfl)
      | exact h1 (by unfold blk; rw [(nI_eq (a := c) (b := 10) (by omega) (by decide)).mp c2]; rfl)
      | exact h0 (blk_f (fun q => c1 (by rw [q]; rfl)) (fun q => c2 (by rw [q]; rfl)))
    · -- on 12
      refine J_iconst (v := 1) dX9_isBlank_12 (by decide) ?_
      refine J_goto (tgt := 17) dX9_isBlank_13 (by decide) ?_
      refine M_zret dX9_isBlank_17 rfl (by first | assumption | exact Or.inl rfl | exact Or.inr rfl) ?_
      first
      | exact h1 (by unfold blk; rw [(nI_eq (a := c) (b := 32) (by omega) (by decide)).mp c2]; rfl)
      | exact h1 (by unfold blk; rw [(nI_eq (a := c) (b := 10) (by omega) (by decide)).mp c2]; rfl)
      | exact h0 (blk_f (fun q => c1 (by rw [q]; rfl)) (fun q => c2 (by rw [q]; rfl)))

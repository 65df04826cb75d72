theorem wn_small {T : Nat → Nat} {s j : Nat} (hT : ∀ i, T i < 256) (hj : j ≤ 2) : wn T s j < 65536 := by
  unfold wn
  match j, hj with
  | 0, _ => show 0 < 65536; decide
  | 1, _ => have := hT (s + 0); show 0 * 256 + T (s + 0) < 65536; omega
  | 2, _ => have h0 := hT (s + 0); have h1 := hT (s + 1); show (0 * 256 + T (s + 0)) * 256 + T (s + 1) < 65536; omega
  | j + 3, q => exact absurd q (by omega)
/-- what a token is -/
def TW (n : Nat) (t : Tok) : Prop := t.2.2.1 ≤ n ∧ t.2.2.1 ≤ t.2.2.2 ∧ t.2.2.2 ≤ n ∧ (t.1 ≠ 0 → t.2.2.1 < t.2.2.2) ∧ (t.1 = 2 → t.2.1 < 1000000) ∧ (t.1 = 3 → t.2.1 < 14 ∨ t.2.1 = 99) ∧ t.1 < 256 ∧ (t.1 = 18 → t.2.2.1 + 3 ≤ t.2.2.2) ∧ (t.1 < 19 → t.1 ≤ 3 ∨ 14 ≤ t.1)
theorem lexA_W {T : Nat → Nat} {n s : Nat} (hT : ∀ i, T i < 256) (hs : s < n) : TW n (lexT.lexA T n s) ∧ (lexT.lexA T n s).2.2.1 = s := by
  unfold lexT.lexA
  rcases hl : ltr (T s) with _ | _
  · rw [if_neg (by decide)]
    rcases hd : dgt (T s) with _ | _
    · rw [if_neg (by decide)]
      rcases hg : sgn (T s) with _ | _
      · rw [if_neg (by decide)]
        exact ⟨⟨by show s ≤ n; omega, by show s ≤ s + 1; omega, by show s + 1 ≤ n; omega, fun _ => by show s < s + 1; omega, fun q => absurd (show (1 : Nat) = 2 from q) (by decide), fun q => absurd (show (1 : Nat) = 3 from q) (by decide), by show 1 < 256; decide, fun q => absurd (show (1 : Nat) = 18 from q) (by decide), fun _ => Or.inl (by show 1 ≤ 3; decide)⟩, rfl⟩
      · rw [if_pos rfl]
        have hz := sgn_e hg
        exact ⟨⟨by show s ≤ n; omega, by show s ≤ s + 1; omega, by show s + 1 ≤ n; omega, fun _ => by show s < s + 1; omega, fun q => absurd (show T s = 2 from q) (by omega), fun q => absurd (show T s = 3 from q) (by omega), by show T s < 256; omega, fun q => absurd (show T s = 18 from q) (by omega), fun q => absurd (show T s < 19 from q) (by omega)⟩, rfl⟩
    · rw [if_pos rfl]
      have hr := rn_at (P := dgt) (T := T) (n - s) s
      have hx := rnD hs hd
      split
      · rename_i hq
        refine ⟨⟨by show s ≤ n; omega, by show s ≤ rnP dgt T (n - s) s; omega, by show rnP dgt T (n - s) s ≤ n; omega, fun _ => hx, fun _ => ?_, fun q => absurd (show (2 : Nat) = 3 from q) (by decide), by show 2 < 256; decide, fun q => absurd (show (2 : Nat) = 18 from q) (by decide), fun _ => Or.inl (by show 2 ≤ 3; decide)⟩, rfl⟩
        exact vn_6 hq.1 (fun i hi => hr.2.2.1 (s + i) (by omega) (by omega))
      · exact ⟨⟨by show s ≤ n; omega, by show s ≤ rnP dgt T (n - s) s; omega, by show rnP dgt T (n - s) s ≤ n; omega, fun _ => hx, fun q => absurd (show (1 : Nat) = 2 from q) (by decide), fun q => absurd (show (1 : Nat) = 3 from q) (by decide), by show 1 < 256; decide, fun q => absurd (show (1 : Nat) = 18 from q) (by decide), fun _ => Or.inl (by show 1 ≤ 3; decide)⟩, rfl⟩
  · rw [if_pos rfl]
    have hr := rn_at (P := aln) (T := T) (n - s) s
    have hx := rnA hs hl
    split
    · exact ⟨⟨by show s ≤ n; omega, by show s ≤ rnP aln T (n - s) s; omega, by show rnP aln T (n - s) s ≤ n; omega, fun _ => hx, fun q => absurd (show (1 : Nat) = 2 from q) (by decide), fun q => absurd (show (1 : Nat) = 3 from q) (by decide), by show 1 < 256; decide, fun q => absurd (show (1 : Nat) = 18 from q) (by decide), fun _ => Or.inl (by show 1 ≤ 3; decide)⟩, rfl⟩
    · unfold lexT.lexW
      have hf := fnd_at (N := wn T s (rnP aln T (n - s) s - s)) 19 0
      generalize fnd (wn T s (rnP aln T (n - s) s - s)) 19 0 = w0 at hf ⊢
      by_cases k1 : w0 < 14
      · rw [if_pos k1]
        exact ⟨⟨by show s ≤ n; omega, by show s ≤ rnP aln T (n - s) s; omega, by show rnP aln T (n - s) s ≤ n; omega, fun _ => hx, fun q => absurd (show (3 : Nat) = 2 from q) (by decide), fun _ => Or.inl k1, by show 3 < 256; decide, fun q => absurd (show (3 : Nat) = 18 from q) (by decide), fun _ => Or.inl (by show 3 ≤ 3; decide)⟩, rfl⟩
      · rw [if_neg k1]
        by_cases k2 : w0 = 99
        · rw [if_pos k2]
          exact ⟨⟨by show s ≤ n; omega, by show s ≤ rnP aln T (n - s) s; omega, by show rnP aln T (n - s) s ≤ n; omega, fun _ => hx, fun q => absurd (show (3 : Nat) = 2 from q) (by decide), fun _ => Or.inr rfl, by show 3 < 256; decide, fun q => absurd (show (3 : Nat) = 18 from q) (by decide), fun _ => Or.inl (by show 3 ≤ 3; decide)⟩, rfl⟩
        · rw [if_neg k2]
          have hf2 := hf.resolve_left k2
          refine ⟨⟨by show s ≤ n; omega, by show s ≤ rnP aln T (n - s) s; omega, by show rnP aln T (n - s) s ≤ n; omega, fun _ => hx, fun q => absurd (show w0 = 2 from q) (by omega), fun q => absurd (show w0 = 3 from q) (by omega), by show w0 < 256; omega, fun q => ?_, fun _ => Or.inr (by show 14 ≤ w0; omega)⟩, rfl⟩
          have q2 : w0 = 18 := q
          rw [q2] at hf2
          have e : cw 18 = 7237492 := by decide
          rw [e] at hf2
          rcases Nat.lt_or_ge (rnP aln T (n - s) s - s) 3 with z | z
          · have := wn_small (s := s) (j := rnP aln T (n - s) s - s) hT (by omega)
            omega
          · show s + 3 ≤ rnP aln T (n - s) s
            omega
theorem lex_W {T : Nat → Nat} {n p : Nat} (hT : ∀ i, T i < 256) (hp : p ≤ n) : TW n (lexT T n p) ∧ p ≤ (lexT T n p).2.2.1 := by
  have hr := rn_at (P := blk) (T := T) (n - p) p
  unfold lexT
  by_cases hq : n ≤ rnP blk T (n - p) p
  · rw [if_pos hq]
    refine ⟨⟨by show rnP blk T (n - p) p ≤ n; omega, Nat.le_refl _, by show rnP blk T (n - p) p ≤ n; omega, fun q => absurd rfl q, fun q => absurd (show (0 : Nat) = 2 from q) (by decide), fun q => absurd (show (0 : Nat) = 3 from q) (by decide), by show 0 < 256; decide, fun q => absurd (show (0 : Nat) = 18 from q) (by decide), fun _ => Or.inl (by show 0 ≤ 3; decide)⟩, hr.1⟩
  · rw [if_neg hq]
    have z := lexA_W (T := T) (n := n) (s := rnP blk T (n - p) p) hT (by omega)
    exact ⟨z.1, by rw [z.2]; exact hr.1⟩
/-- the parser: token, codes, operands; none is good, else the fault and its place -/
abbrev PSt := Tok × List Nat × Nat
abbrev PRs := Option (Nat × Nat) × PSt
def rfu (x : PSt) (f : Nat) : PRs := (some (if x.1.1 = 1 then 1 else f, x.1.2.2.1), x)
def advP (T : Nat → Nat) (n : Nat) (x : PSt) : PSt := (lexT T n x.1.2.2.2, x.2)
def emt (x : PSt) (c : Nat) : PSt := (x.1, x.2.1 ++ [c], x.2.2)
def thn (r : PRs) (f : PSt → PRs) : PRs := if r.1 = none then f r.2 else r
def opd (lim : Nat) (x : PSt) : PRs := if 120 ≤ x.2.2 then rfu x 2 else if x.1.1 = 2 then (none, (x.1, x.2.1 ++ [100 + x.1.2.1], x.2.2 + 1)) else if x.1.2.1 < lim then (none, (x.1, x.2.1 ++ [x.1.2.1], x.2.2 + 1)) else rfu x 3
abbrev isCmp (K : Nat) : Prop := K = 61 ∨ K = 60 ∨ K = 62
def prs (T : Nat → Nat) (n lim : Nat) : Nat → Nat → Nat → PSt → PRs
  | 0, _, _, x => rfu x 2
  | k + 1, q, d, x =>
    if q = 0 then thn (prs T n lim k 2 d x) (prs T n lim k 1 d)
    else if q = 1 then (if x.1.1 = 16 then thn (prs T n lim k 2 d (advP T n x)) (fun y => prs T n lim k 1 d (emt y 16)) else (none, x))
    else if q = 2 then thn (prs T n lim k 4 d x) (prs T n lim k 3 d)
    else if q = 3 then (if x.1.1 = 17 then thn (prs T n lim k 4 d (advP T n x)) (fun y => prs T n lim k 3 d (emt y 17)) else (none, x))
    else if q = 4 then (if 8 ≤ d then rfu x 2 else if x.1.1 = 18 then thn (prs T n lim k 4 (d + 1) (advP T n x)) (fun y => (none, emt y 18)) else prs T n lim k 5 d x)
    else if q = 5 then thn (prs T n lim k 6 d x) (fun y => if isCmp y.1.1 then thn (prs T n lim k 6 d (advP T n y)) (fun z => (none, emt z y.1.1)) else (none, y))
    else if q = 6 then thn (prs T n lim k 8 d x) (prs T n lim k 7 d)
    else if q = 7 then (if x.1.1 = 43 ∨ x.1.1 = 45 then thn (prs T n lim k 8 d (advP T n x)) (fun y => prs T n lim k 7 d (emt y x.1.1)) else (none, x))
    else (if x.1.1 = 2 ∨ x.1.1 = 3 then thn (opd lim x) (fun y => (none, advP T n y)) else if x.1.1 = 40 then thn (prs T n lim k 0 (d + 1) (advP T n x)) (fun y => if y.1.1 = 41 then (none, advP T n y) else rfu y 2) else rfu x 2)
/-- a good part: the token is one, codes come behind, bytes are passed -/
def uq (q : Nat) : Nat := if q = 1 ∨ q = 3 ∨ q = 7 then 0 else 1
def PG (n q : Nat) (x : PSt) (r : PRs) : Prop := r.1 = none → TW n r.2.1 ∧ x.1.2.2.1 + uq q ≤ r.2.1.2.2.1 ∧ 3 * (r.2.2.1.length + uq q) + 6 * x.2.2 + x.1.2.2.1 ≤ 3 * x.2.1.length + 6 * r.2.2.2 + r.2.1.2.2.1 ∧ r.2.2.2 ≤ 120
theorem emt_1 {x : PSt} {c : Nat} : (emt x c).1 = x.1 := rfl
theorem emt_2 {x : PSt} {c : Nat} : (emt x c).2.2 = x.2.2 := rfl
theorem adv_2 {T : Nat → Nat} {n : Nat} {x : PSt} : (advP T n x).2 = x.2 := rfl
theorem emt_l {x : PSt} {c : Nat} : (emt x c).2.1.length = x.2.1.length + 1 := by simp [emt]
theorem thn_n {r : PRs} {f : PSt → PRs} (h : (thn r f).1 = none) : r.1 = none ∧ (f r.2).1 = none ∧ thn r f = f r.2 := by
  unfold thn at h ⊢
  by_cases e : r.1 = none
  · rw [if_pos e] at h ⊢; exact ⟨e, h, rfl⟩
  · rw [if_neg e] at h; exact absurd h e
theorem adv_W {T : Nat → Nat} {n : Nat} {x : PSt} (hT : ∀ i, T i < 256) (h : TW n x.1) (hK : x.1.1 ≠ 0) : TW n (advP T n x).1 ∧ x.1.2.2.1 + 1 ≤ (advP T n x).1.2.2.1 := by
  have z := lex_W (T := T) (n := n) (p := x.1.2.2.2) hT h.2.2.1
  have y := h.2.2.2.1 hK
  exact ⟨z.1, by show _ ≤ (lexT T n x.1.2.2.2).2.2.1; omega⟩
theorem adv_W3 {T : Nat → Nat} {n : Nat} {x : PSt} (hT : ∀ i, T i < 256) (h : TW n x.1) (hK : x.1.1 = 18) : x.1.2.2.1 + 3 ≤ (advP T n x).1.2.2.1 := by
  have z := lex_W (T := T) (n := n) (p := x.1.2.2.2) hT h.2.2.1
  have y := h.2.2.2.2.2.2.2.1 hK
  show _ ≤ (lexT T n x.1.2.2.2).2.2.1
  omega
theorem prs_W {T : Nat → Nat} {n lim : Nat} (hT : ∀ i, T i < 256) : ∀ k q d x, TW n x.1 → x.2.2 ≤ 120 → PG n q x (prs T n lim k q d x)
  | 0, q, d, x, hx, ho => fun h => by simp [prs, rfu] at h
  | k + 1, q, d, x, hx, ho => by
    have ih := fun q d x hx ho => prs_W (T := T) (n := n) (lim := lim) hT k q d x hx ho
    have u0 : uq 0 = 1 := rfl
    have u1 : uq 1 = 0 := rfl
    have u2 : uq 2 = 1 := rfl
    have u3 : uq 3 = 0 := rfl
    have u4 : uq 4 = 1 := rfl
    have u5 : uq 5 = 1 := rfl
    have u6 : uq 6 = 1 := rfl
    have u7 : uq 7 = 0 := rfl
    have u8 : uq 8 = 1 := rfl
    intro h
    rw [prs] at h ⊢
    by_cases q0 : q = 0
    · subst q0
      rw [if_pos rfl] at h ⊢
      obtain ⟨h1, h2, h3⟩ := thn_n h
      have a := ih 2 d x hx ho h1
      have b := ih 1 d _ a.1 a.2.2.2 h2
      rw [h3]
      refine ⟨b.1, ?_, ?_, b.2.2.2⟩ <;> (have ya := a.2; have yb := b.2; simp only [emt_l, emt_1, emt_2, adv_2, u0, u1, u2, u3, u4, u5, u6, u7, u8] at ya yb ⊢; omega)
    rw [if_neg q0] at h ⊢
    by_cases q1 : q = 1
    · subst q1
      rw [if_pos rfl] at h ⊢
      by_cases hK : x.1.1 = 16
      · rw [if_pos hK] at h ⊢
        obtain ⟨h1, h2, h3⟩ := thn_n h
        have c := adv_W hT hx (by omega)
        have a := ih 2 d _ c.1 ho h1
        have b := ih 1 d (emt (prs T n lim k 2 d (advP T n x)).2 16) a.1 a.2.2.2 h2
        rw [h3]
        refine ⟨b.1, ?_, ?_, b.2.2.2⟩ <;> (have ya := a.2; have yb := b.2; have yc := c.2; simp only [emt_l, emt_1, emt_2, adv_2, u0, u1, u2, u3, u4, u5, u6, u7, u8] at ya yb yc ⊢; omega)
      · rw [if_neg hK] at h ⊢
        exact ⟨hx, by show x.1.2.2.1 + 0 ≤ x.1.2.2.1; omega, by show 3 * (x.2.1.length + 0) + 6 * x.2.2 + x.1.2.2.1 ≤ 3 * x.2.1.length + 6 * x.2.2 + x.1.2.2.1; omega, ho⟩
    rw [if_neg q1] at h ⊢
    by_cases q2 : q = 2
    · subst q2
      rw [if_pos rfl] at h ⊢
      obtain ⟨h1, h2, h3⟩ := thn_n h
      have a := ih 4 d x hx ho h1
      have b := ih 3 d _ a.1 a.2.2.2 h2
      rw [h3]
      refine ⟨b.1, ?_, ?_, b.2.2.2⟩ <;> (have ya := a.2; have yb := b.2; simp only [emt_l, emt_1, emt_2, adv_2, u0, u1, u2, u3, u4, u5, u6, u7, u8] at ya yb ⊢; omega)
    rw [if_neg q2] at h ⊢
    by_cases q3 : q = 3
    · subst q3
      rw [if_pos rfl] at h ⊢
      by_cases hK : x.1.1 = 17
      · rw [if_pos hK] at h ⊢
        obtain ⟨h1, h2, h3⟩ := thn_n h
        have c := adv_W hT hx (by omega)
        have a := ih 4 d _ c.1 ho h1
        have b := ih 3 d (emt (prs T n lim k 4 d (advP T n x)).2 17) a.1 a.2.2.2 h2
        rw [h3]
        refine ⟨b.1, ?_, ?_, b.2.2.2⟩ <;> (have ya := a.2; have yb := b.2; have yc := c.2; simp only [emt_l, emt_1, emt_2, adv_2, u0, u1, u2, u3, u4, u5, u6, u7, u8] at ya yb yc ⊢; omega)
      · rw [if_neg hK] at h ⊢
        exact ⟨hx, by show x.1.2.2.1 + 0 ≤ x.1.2.2.1; omega, by show 3 * (x.2.1.length + 0) + 6 * x.2.2 + x.1.2.2.1 ≤ 3 * x.2.1.length + 6 * x.2.2 + x.1.2.2.1; omega, ho⟩
    rw [if_neg q3] at h ⊢
    by_cases q4 : q = 4
    · subst q4
      rw [if_pos rfl] at h ⊢
      by_cases hd : 8 ≤ d
      · rw [if_pos hd] at h; simp [rfu] at h
      rw [if_neg hd] at h ⊢
      by_cases hK : x.1.1 = 18
      · rw [if_pos hK] at h ⊢
        obtain ⟨h1, h2, h3⟩ := thn_n h
        have c := adv_W hT hx (by omega)
        have c3 := adv_W3 hT hx hK
        have a := ih 4 (d + 1) _ c.1 ho h1
        rw [h3]
        refine ⟨a.1, ?_, ?_, a.2.2.2⟩ <;> (have ya := a.2; have yc := c.2; simp only [emt_l, emt_1, emt_2, adv_2, u0, u1, u2, u3, u4, u5, u6, u7, u8] at ya yc ⊢; omega)
      · rw [if_neg hK] at h ⊢
        have a := ih 5 d x hx ho h
        refine ⟨a.1, ?_, ?_, a.2.2.2⟩ <;> (have ya := a.2; simp only [emt_l, emt_1, emt_2, adv_2, u0, u1, u2, u3, u4, u5, u6, u7, u8] at ya ⊢; omega)
    rw [if_neg q4] at h ⊢
    by_cases q5 : q = 5
    · subst q5
      rw [if_pos rfl] at h ⊢
      obtain ⟨h1, h2, h3⟩ := thn_n h
      have a := ih 6 d x hx ho h1
      rw [h3]
      by_cases hK : isCmp (prs T n lim k 6 d x).2.1.1
      · simp only [if_pos hK] at h2 ⊢
        obtain ⟨g1, g2, g3⟩ := thn_n h2
        have c := adv_W hT a.1 (by rcases hK with q | q | q <;> omega)
        have b := ih 6 d _ c.1 a.2.2.2 g1
        rw [g3]
        refine ⟨b.1, ?_, ?_, b.2.2.2⟩ <;> (have ya := a.2; have yb := b.2; have yc := c.2; simp only [emt_l, emt_1, emt_2, adv_2, u0, u1, u2, u3, u4, u5, u6, u7, u8] at ya yb yc ⊢; omega)
      · simp only [if_neg hK] at h2 ⊢
        refine ⟨a.1, ?_, ?_, a.2.2.2⟩ <;> (have ya := a.2; simp only [emt_l, emt_1, emt_2, adv_2, u0, u1, u2, u3, u4, u5, u6, u7, u8] at ya ⊢; omega)
    rw [if_neg q5] at h ⊢
    by_cases q6 : q = 6
    · subst q6
      rw [if_pos rfl] at h ⊢
      obtain ⟨h1, h2, h3⟩ := thn_n h
      have a := ih 8 d x hx ho h1
      have b := ih 7 d _ a.1 a.2.2.2 h2
      rw [h3]
      refine ⟨b.1, ?_, ?_, b.2.2.2⟩ <;> (have ya := a.2; have yb := b.2; simp only [emt_l, emt_1, emt_2, adv_2, u0, u1, u2, u3, u4, u5, u6, u7, u8] at ya yb ⊢; omega)
    rw [if_neg q6] at h ⊢
    by_cases q7 : q = 7
    · subst q7
      rw [if_pos rfl] at h ⊢
      by_cases hK : x.1.1 = 43 ∨ x.1.1 = 45
      · rw [if_pos hK] at h ⊢
        obtain ⟨h1, h2, h3⟩ := thn_n h
        have c := adv_W hT hx (by omega)
        have a := ih 8 d _ c.1 ho h1
        have b := ih 7 d (emt (prs T n lim k 8 d (advP T n x)).2 x.1.1) a.1 a.2.2.2 h2
        rw [h3]
        refine ⟨b.1, ?_, ?_, b.2.2.2⟩ <;> (have ya := a.2; have yb := b.2; have yc := c.2; simp only [emt_l, emt_1, emt_2, adv_2, u0, u1, u2, u3, u4, u5, u6, u7, u8] at ya yb yc ⊢; omega)
      · rw [if_neg hK] at h ⊢
        exact ⟨hx, by show x.1.2.2.1 + 0 ≤ x.1.2.2.1; omega, by show 3 * (x.2.1.length + 0) + 6 * x.2.2 + x.1.2.2.1 ≤ 3 * x.2.1.length + 6 * x.2.2 + x.1.2.2.1; omega, ho⟩
    rw [if_neg q7] at h ⊢
    have hqq : uq q = 1 := if_neg (by omega)
    rw [hqq]
    by_cases hK : x.1.1 = 2 ∨ x.1.1 = 3
    · rw [if_pos hK] at h ⊢
      obtain ⟨h1, h2, h3⟩ := thn_n h
      have e : (opd lim x).2.1 = x.1 := by
        unfold opd rfu
        split
        · rfl
        · split
          · rfl
          · split <;> rfl
      have c := adv_W (x := (opd lim x).2) hT (by rw [e]; exact hx) (by rw [e]; omega)
      rw [e] at c
      have e2 : (opd lim x).2.2.1.length = x.2.1.length + 1 ∧ (opd lim x).2.2.2 = x.2.2 + 1 ∧ x.2.2 < 120 := by
        unfold opd at h1 ⊢
        by_cases z1 : 120 ≤ x.2.2
        · rw [if_pos z1] at h1; simp [rfu] at h1
        · rw [if_neg z1] at h1 ⊢
          by_cases z2 : x.1.1 = 2
          · rw [if_pos z2]; exact ⟨by simp, rfl, by omega⟩
          · rw [if_neg z2] at h1 ⊢
            by_cases z3 : x.1.2.1 < lim
            · rw [if_pos z3]; exact ⟨by simp, rfl, by omega⟩
            · rw [if_neg z3] at h1; simp [rfu] at h1
      rw [h3]
      refine ⟨c.1, c.2, ?_, ?_⟩
      · have y := c.2
        show 3 * ((opd lim x).2.2.1.length + 1) + 6 * x.2.2 + x.1.2.2.1 ≤ 3 * x.2.1.length + 6 * (opd lim x).2.2.2 + (advP T n (opd lim x).2).1.2.2.1
        omega
      · show (opd lim x).2.2.2 ≤ 120
        omega
    rw [if_neg hK] at h ⊢
    by_cases hK2 : x.1.1 = 40
    · rw [if_pos hK2] at h ⊢
      obtain ⟨h1, h2, h3⟩ := thn_n h
      have c := adv_W hT hx (by omega)
      have a := ih 0 (d + 1) _ c.1 ho h1
      rw [h3]
      by_cases hK3 : (prs T n lim k 0 (d + 1) (advP T n x)).2.1.1 = 41
      · simp only [if_pos hK3] at h2 ⊢
        have b := adv_W hT a.1 (by omega)
        refine ⟨b.1, ?_, ?_, a.2.2.2⟩ <;> (have ya := a.2; have yb := b.2; have yc := c.2; simp only [emt_l, emt_1, emt_2, adv_2, u0, u1, u2, u3, u4, u5, u6, u7, u8] at ya yb yc ⊢; omega)
      · simp only [if_neg hK3] at h2
        simp [rfu] at h2
    · rw [if_neg hK2] at h
      simp [rfu] at h

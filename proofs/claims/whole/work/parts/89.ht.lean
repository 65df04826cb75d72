/-- codes that can be worked out from a stack h high to one e high, pushing below B alone -/
def okl (lim B : Nat) : List Nat → Nat → Nat → Prop
  | [], h, e => h = e
  | c :: r, h, e => if c < 14 then c < lim ∧ h < B ∧ okl lim B r (h + 1) e else if 100 ≤ c then c ≤ 2000000 ∧ h < B ∧ okl lim B r (h + 1) e else if c = 18 then 1 ≤ h ∧ okl lim B r h e else isOp c ∧ 2 ≤ h ∧ okl lim B r (h - 1) e
theorem okl_mono {lim B B2 : Nat} (hB : B ≤ B2) : ∀ {l : List Nat} {h e : Nat}, okl lim B l h e → okl lim B2 l h e
  | [], h, e, q => q
  | c :: r, h, e, q => by
    rw [okl] at q ⊢
    by_cases k1 : c < 14
    · rw [if_pos k1] at q ⊢; exact ⟨q.1, by omega, okl_mono hB q.2.2⟩
    · rw [if_neg k1] at q ⊢
      by_cases k2 : 100 ≤ c
      · rw [if_pos k2] at q ⊢; exact ⟨q.1, by omega, okl_mono hB q.2.2⟩
      · rw [if_neg k2] at q ⊢
        by_cases k3 : c = 18
        · rw [if_pos k3] at q ⊢; exact ⟨q.1, okl_mono hB q.2⟩
        · rw [if_neg k3] at q ⊢; exact ⟨q.1, q.2.1, okl_mono hB q.2.2⟩
theorem okl_app {lim B : Nat} : ∀ {l l2 : List Nat} {h m e : Nat}, okl lim B l h m → okl lim B l2 m e → okl lim B (l ++ l2) h e
  | [], l2, h, m, e, q, p => by
    have q2 : h = m := q
    rw [q2]; exact p
  | c :: r, l2, h, m, e, q, p => by
    rw [List.cons_append, okl]
    rw [okl] at q
    by_cases k1 : c < 14
    · rw [if_pos k1] at q ⊢; exact ⟨q.1, q.2.1, okl_app q.2.2 p⟩
    · rw [if_neg k1] at q ⊢
      by_cases k2 : 100 ≤ c
      · rw [if_pos k2] at q ⊢; exact ⟨q.1, q.2.1, okl_app q.2.2 p⟩
      · rw [if_neg k2] at q ⊢
        by_cases k3 : c = 18
        · rw [if_pos k3] at q ⊢; exact ⟨q.1, okl_app q.2 p⟩
        · rw [if_neg k3] at q ⊢; exact ⟨q.1, q.2.1, okl_app q.2.2 p⟩
theorem okl_op {lim B c h : Nat} (hc : isOp c) (hh : 1 ≤ h) : okl lim B [c] (h + 1) h := by
  obtain ⟨k1, k2, k3⟩ := isOp_ne hc
  rw [okl, if_neg k1, if_neg k2, if_neg k3]
  exact ⟨hc, by omega, Nat.add_sub_cancel h 1⟩
theorem okl_not {lim B h : Nat} (hh : 1 ≤ h) : okl lim B [18] h h := by
  rw [okl, if_neg (by decide), if_neg (by decide), if_pos rfl]
  exact ⟨hh, rfl⟩
theorem okl_nm {lim B c h : Nat} (h1 : c < 14) (h2 : c < lim) (h3 : h < B) : okl lim B [c] h (h + 1) := by
  rw [okl, if_pos h1]
  exact ⟨h2, h3, rfl⟩
theorem okl_vl {lim B c h : Nat} (h1 : 100 ≤ c) (h2 : c ≤ 2000000) (h3 : h < B) : okl lim B [c] h (h + 1) := by
  rw [okl, if_neg (by omega), if_pos h1]
  exact ⟨h2, h3, rfl⟩
theorem okl_F {lim : Nat} {C : Nat → Nat} : ∀ {l : List Nat} {i h : Nat}, okl lim 39 l h 1 → (∀ j c, l[j]? = some c → C (i + j) = c) → okF C lim l.length i h
  | [], i, h, q, _ => q
  | c :: r, i, h, q, e => by
    have e0 : C i = c := e 0 c rfl
    have e1 : ∀ j c2, r[j]? = some c2 → C (i + 1 + j) = c2 := fun j c2 hj => by
      have := e (j + 1) c2 (by simpa using hj)
      rw [← this]; congr 1; omega
    rw [okl] at q
    rw [List.length_cons, okF, e0]
    by_cases k1 : c < 14
    · rw [if_pos k1] at q ⊢; exact ⟨q.1, q.2.1, okl_F q.2.2 e1⟩
    · rw [if_neg k1] at q ⊢
      by_cases k2 : 100 ≤ c
      · rw [if_pos k2] at q ⊢; exact ⟨q.1, q.2.1, okl_F q.2.2 e1⟩
      · rw [if_neg k2] at q ⊢
        by_cases k3 : c = 18
        · rw [if_pos k3] at q ⊢; exact ⟨q.1, okl_F q.2 e1⟩
        · rw [if_neg k3] at q ⊢; exact ⟨q.1, q.2.1, okl_F q.2.2 e1⟩
/-- how high a part of kind q, d deep, may push -/
def bn (q d : Nat) : Nat := 4 * (8 - d) + (if q = 0 then 5 else if q = 1 ∨ q = 2 then 4 else if q = 3 ∨ q = 4 ∨ q = 5 then 3 else if q = 6 then 2 else 1)
theorem opd_H {n lim : Nat} {x : PSt} (hl : lim ≤ 14) (hx : TW n x.1) (h : (opd lim x).1 = none) : ∃ c, (opd lim x).2.2.1 = x.2.1 ++ [c] ∧ ∀ B z, z < B → okl lim B [c] z (z + 1) := by
  unfold opd at h ⊢
  by_cases z1 : 120 ≤ x.2.2
  · rw [if_pos z1] at h; simp [rfu] at h
  · rw [if_neg z1] at h ⊢
    by_cases z2 : x.1.1 = 2
    · rw [if_pos z2]
      have := hx.2.2.2.2.1 z2
      exact ⟨100 + x.1.2.1, rfl, fun B z hz => okl_vl (by omega) (by omega) hz⟩
    · rw [if_neg z2] at h ⊢
      by_cases z3 : x.1.2.1 < lim
      · rw [if_pos z3]
        exact ⟨x.1.2.1, rfl, fun B z hz => okl_nm (by omega) z3 hz⟩
      · rw [if_neg z3] at h; simp [rfu] at h
theorem prs_H {T : Nat → Nat} {n lim : Nat} (hT : ∀ i, T i < 256) (hl : lim ≤ 14) : ∀ k q d x, TW n x.1 → x.2.2 ≤ 120 → (4 < q → d ≤ 7) → (prs T n lim k q d x).1 = none → ∃ l, (prs T n lim k q d x).2.2.1 = x.2.1 ++ l ∧ ∀ h, (uq q = 0 → 1 ≤ h) → okl lim (h + bn q d) l h (h + uq q)
  | 0, q, d, x, hx, ho, hd => fun h => by simp [prs, rfu] at h
  | k + 1, q, d, x, hx, ho, hd => by
    have ih := fun q d x hx ho hd => prs_H (T := T) (n := n) (lim := lim) hT hl k q d x hx ho hd
    have iw := fun q d x hx ho => prs_W (T := T) (n := n) (lim := lim) hT k q d x hx ho
    have u0 : uq 0 = 1 := rfl
    have u1 : uq 1 = 0 := rfl
    have u2 : uq 2 = 1 := rfl
    have u3 : uq 3 = 0 := rfl
    have u4 : uq 4 = 1 := rfl
    have u5 : uq 5 = 1 := rfl
    have u6 : uq 6 = 1 := rfl
    have u7 : uq 7 = 0 := rfl
    have u8 : uq 8 = 1 := rfl
    have v0 : ∀ d, bn 0 d = 4 * (8 - d) + 5 := fun _ => rfl
    have v1 : ∀ d, bn 1 d = 4 * (8 - d) + 4 := fun _ => rfl
    have v2 : ∀ d, bn 2 d = 4 * (8 - d) + 4 := fun _ => rfl
    have v3 : ∀ d, bn 3 d = 4 * (8 - d) + 3 := fun _ => rfl
    have v4 : ∀ d, bn 4 d = 4 * (8 - d) + 3 := fun _ => rfl
    have v5 : ∀ d, bn 5 d = 4 * (8 - d) + 3 := fun _ => rfl
    have v6 : ∀ d, bn 6 d = 4 * (8 - d) + 2 := fun _ => rfl
    have v7 : ∀ d, bn 7 d = 4 * (8 - d) + 1 := fun _ => rfl
    have v8 : ∀ d, bn 8 d = 4 * (8 - d) + 1 := fun _ => rfl
    intro h
    rw [prs] at h ⊢
    by_cases q0 : q = 0
    · subst q0
      rw [if_pos rfl] at h ⊢
      obtain ⟨h1, h2, h3⟩ := thn_n h
      have w := iw 2 d x hx ho h1
      obtain ⟨la, ea, oa⟩ := ih 2 d x hx ho (by omega) h1
      obtain ⟨lb, eb, ob⟩ := ih 1 d _ w.1 w.2.2.2 (by omega) h2
      simp only [u1, u2, v1, v2] at oa ob
      rw [h3]
      refine ⟨la ++ lb, by rw [eb, ea, List.append_assoc], fun z _ => ?_⟩
      rw [u0, v0]
      exact okl_app (okl_mono (by omega) (oa z (by omega))) (okl_mono (by omega) (ob (z + 1) (by omega)))
    rw [if_neg q0] at h ⊢
    by_cases q1 : q = 1
    · subst q1
      rw [if_pos rfl] at h ⊢
      by_cases hK : x.1.1 = 16
      · rw [if_pos hK] at h ⊢
        obtain ⟨h1, h2, h3⟩ := thn_n h
        have c := adv_W hT hx (by omega)
        have w := iw 2 d _ c.1 ho h1
        obtain ⟨la, ea, oa⟩ := ih 2 d _ c.1 ho (by omega) h1
        obtain ⟨lb, eb, ob⟩ := ih 1 d (emt (prs T n lim k 2 d (advP T n x)).2 16) w.1 w.2.2.2 (by omega) h2
        simp only [u1, u2, v1, v2] at oa ob
        rw [h3]
        refine ⟨la ++ ([16] ++ lb), by rw [eb]; show (prs T n lim k 2 d (advP T n x)).2.2.1 ++ [16] ++ lb = _; rw [ea]; simp [advP], fun z hz => ?_⟩
        have hz1 := hz rfl
        rw [u1, v1]
        exact okl_app (okl_mono (by omega) (oa z (by omega))) (okl_app (okl_op (Or.inl rfl) hz1) (ob z (fun _ => hz1)))
      · rw [if_neg hK] at h ⊢
        exact ⟨[], by simp, fun z _ => rfl⟩
    rw [if_neg q1] at h ⊢
    by_cases q2 : q = 2
    · subst q2
      rw [if_pos rfl] at h ⊢
      obtain ⟨h1, h2, h3⟩ := thn_n h
      have w := iw 4 d x hx ho h1
      obtain ⟨la, ea, oa⟩ := ih 4 d x hx ho (by omega) h1
      obtain ⟨lb, eb, ob⟩ := ih 3 d _ w.1 w.2.2.2 (by omega) h2
      simp only [u3, u4, v3, v4] at oa ob
      rw [h3]
      refine ⟨la ++ lb, by rw [eb, ea, List.append_assoc], fun z _ => ?_⟩
      rw [u2, v2]
      exact okl_app (okl_mono (by omega) (oa z (by omega))) (okl_mono (by omega) (ob (z + 1) (by omega)))
    rw [if_neg q2] at h ⊢
    by_cases q3 : q = 3
    · subst q3
      rw [if_pos rfl] at h ⊢
      by_cases hK : x.1.1 = 17
      · rw [if_pos hK] at h ⊢
        obtain ⟨h1, h2, h3⟩ := thn_n h
        have c := adv_W hT hx (by omega)
        have w := iw 4 d _ c.1 ho h1
        obtain ⟨la, ea, oa⟩ := ih 4 d _ c.1 ho (by omega) h1
        obtain ⟨lb, eb, ob⟩ := ih 3 d (emt (prs T n lim k 4 d (advP T n x)).2 17) w.1 w.2.2.2 (by omega) h2
        simp only [u3, u4, v3, v4] at oa ob
        rw [h3]
        refine ⟨la ++ ([17] ++ lb), by rw [eb]; show (prs T n lim k 4 d (advP T n x)).2.2.1 ++ [17] ++ lb = _; rw [ea]; simp [advP], fun z hz => ?_⟩
        have hz1 := hz rfl
        rw [u3, v3]
        exact okl_app (okl_mono (by omega) (oa z (by omega))) (okl_app (okl_op (Or.inr (Or.inl rfl)) hz1) (ob z (fun _ => hz1)))
      · rw [if_neg hK] at h ⊢
        exact ⟨[], by simp, fun z _ => rfl⟩
    rw [if_neg q3] at h ⊢
    by_cases q4 : q = 4
    · subst q4
      rw [if_pos rfl] at h ⊢
      by_cases hd8 : 8 ≤ d
      · rw [if_pos hd8] at h; simp [rfu] at h
      rw [if_neg hd8] at h ⊢
      by_cases hK : x.1.1 = 18
      · rw [if_pos hK] at h ⊢
        obtain ⟨h1, h2, h3⟩ := thn_n h
        have c := adv_W hT hx (by omega)
        obtain ⟨la, ea, oa⟩ := ih 4 (d + 1) _ c.1 ho (by omega) h1
        simp only [u4, v4] at oa
        rw [h3]
        refine ⟨la ++ [18], by show (prs T n lim k 4 (d + 1) (advP T n x)).2.2.1 ++ [18] = _; rw [ea]; simp [advP], fun z _ => ?_⟩
        rw [u4, v4]
        exact okl_app (okl_mono (by omega) (oa z (by omega))) (okl_not (by omega))
      · rw [if_neg hK] at h ⊢
        obtain ⟨la, ea, oa⟩ := ih 5 d x hx ho (by omega) h
        simp only [u5, v5] at oa
        refine ⟨la, ea, fun z _ => ?_⟩
        rw [u4, v4]
        exact oa z (by omega)
    rw [if_neg q4] at h ⊢
    by_cases q5 : q = 5
    · subst q5
      have hd7 := hd (by decide)
      rw [if_pos rfl] at h ⊢
      obtain ⟨h1, h2, h3⟩ := thn_n h
      have w := iw 6 d x hx ho h1
      obtain ⟨la, ea, oa⟩ := ih 6 d x hx ho (fun _ => hd7) h1
      rw [h3]
      by_cases hK : isCmp (prs T n lim k 6 d x).2.1.1
      · simp only [if_pos hK] at h2 ⊢
        obtain ⟨g1, g2, g3⟩ := thn_n h2
        have c := adv_W hT w.1 (by rcases hK with q | q | q <;> omega)
        obtain ⟨lb, eb, ob⟩ := ih 6 d _ c.1 w.2.2.2 (fun _ => hd7) g1
        simp only [u6, v6] at oa ob
        rw [g3]
        refine ⟨la ++ (lb ++ [(prs T n lim k 6 d x).2.1.1]), ?_, fun z _ => ?_⟩
        · show (prs T n lim k 6 d (advP T n (prs T n lim k 6 d x).2)).2.2.1 ++ [(prs T n lim k 6 d x).2.1.1] = _
          rw [eb, adv_2, ea]; simp
        · rw [u5, v5]
          exact okl_app (okl_mono (by omega) (oa z (by omega))) (okl_app (okl_mono (by omega) (ob (z + 1) (by omega))) (okl_op (by rcases hK with q | q | q <;> rw [q] <;> simp [isOp]) (by omega)))
      · simp only [if_neg hK] at h2 ⊢
        simp only [u6, v6] at oa
        refine ⟨la, ea, fun z _ => ?_⟩
        rw [u5, v5]
        exact okl_mono (by omega) (oa z (by omega))
    rw [if_neg q5] at h ⊢
    by_cases q6 : q = 6
    · subst q6
      have hd7 := hd (by decide)
      rw [if_pos rfl] at h ⊢
      obtain ⟨h1, h2, h3⟩ := thn_n h
      have w := iw 8 d x hx ho h1
      obtain ⟨la, ea, oa⟩ := ih 8 d x hx ho (fun _ => hd7) h1
      obtain ⟨lb, eb, ob⟩ := ih 7 d _ w.1 w.2.2.2 (fun _ => hd7) h2
      simp only [u7, u8, v7, v8] at oa ob
      rw [h3]
      refine ⟨la ++ lb, by rw [eb, ea, List.append_assoc], fun z _ => ?_⟩
      rw [u6, v6]
      exact okl_app (okl_mono (by omega) (oa z (by omega))) (okl_mono (by omega) (ob (z + 1) (by omega)))
    rw [if_neg q6] at h ⊢
    by_cases q7 : q = 7
    · subst q7
      have hd7 := hd (by decide)
      rw [if_pos rfl] at h ⊢
      by_cases hK : x.1.1 = 43 ∨ x.1.1 = 45
      · rw [if_pos hK] at h ⊢
        obtain ⟨h1, h2, h3⟩ := thn_n h
        have c := adv_W hT hx (by omega)
        have w := iw 8 d _ c.1 ho h1
        obtain ⟨la, ea, oa⟩ := ih 8 d _ c.1 ho (fun _ => hd7) h1
        obtain ⟨lb, eb, ob⟩ := ih 7 d (emt (prs T n lim k 8 d (advP T n x)).2 x.1.1) w.1 w.2.2.2 (fun _ => hd7) h2
        simp only [u7, u8, v7, v8] at oa ob
        rw [h3]
        refine ⟨la ++ ([x.1.1] ++ lb), by rw [eb]; show (prs T n lim k 8 d (advP T n x)).2.2.1 ++ [x.1.1] ++ lb = _; rw [ea]; simp [advP], fun z hz => ?_⟩
        have hz1 := hz rfl
        rw [u7, v7]
        exact okl_app (okl_mono (by omega) (oa z (by omega))) (okl_app (okl_op (by rcases hK with q | q <;> rw [q] <;> simp [isOp]) hz1) (ob z (fun _ => hz1)))
      · rw [if_neg hK] at h ⊢
        exact ⟨[], by simp, fun z _ => rfl⟩
    rw [if_neg q7] at h ⊢
    have hqq : uq q = 1 := if_neg (by omega)
    have hbb : bn q d = 4 * (8 - d) + 1 := by
      unfold bn
      rw [if_neg (by omega), if_neg (by omega), if_neg (by omega), if_neg (by omega)]
    have hd7 := hd (by omega)
    rw [hqq, hbb]
    by_cases hK : x.1.1 = 2 ∨ x.1.1 = 3
    · rw [if_pos hK] at h ⊢
      obtain ⟨h1, h2, h3⟩ := thn_n h
      obtain ⟨c, e, o⟩ := opd_H hl hx h1
      rw [h3]
      exact ⟨[c], e, fun z _ => o _ z (by omega)⟩
    rw [if_neg hK] at h ⊢
    by_cases hK2 : x.1.1 = 40
    · rw [if_pos hK2] at h ⊢
      obtain ⟨h1, h2, h3⟩ := thn_n h
      have c := adv_W hT hx (by omega)
      obtain ⟨la, ea, oa⟩ := ih 0 (d + 1) _ c.1 ho (by omega) h1
      simp only [u0, v0] at oa
      rw [h3]
      by_cases hK3 : (prs T n lim k 0 (d + 1) (advP T n x)).2.1.1 = 41
      · simp only [if_pos hK3] at h2 ⊢
        exact ⟨la, ea, fun z _ => okl_mono (by omega) (oa z (by omega))⟩
      · simp only [if_neg hK3] at h2
        simp [rfu] at h2
    · rw [if_neg hK2] at h
      simp [rfu] at h

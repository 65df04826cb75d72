theorem QN.pq {M N : Mem} {T : Nat → Nat} {n pi : Nat} {x : PSt} {es ps : List Nat} {g : Nat → Int32} {w : Int64} (hT : ∀ i, T i < 256) (h : QN M N n x es ps) (hK : x.1.1 ≠ 0) (hg : TkR (N.1 62) g w (lexT T n x.1.2.2.2)) : PQ (RM (wr (wr N 80 es.length (nI pi)) 79 es.length (nI x.2.1.length)) g w) (wr (wr (RM (wr (wr N 80 es.length (nI pi)) 79 es.length (nI x.2.1.length)) g w) 62 36 0) 62 37 0) n (advP T n x) [] := by
  obtain ⟨p1, p2, p3, p4, p5, p6, p7, p8, p9, p10, p11, p12, p13, p14, p15, p16, p17⟩ := h
  have z := adv_W hT p4 hK
  have e62 : ∀ i, i ≠ 36 → i ≠ 37 → (wr (wr (RM (wr (wr N 80 es.length (nI pi)) 79 es.length (nI x.2.1.length)) g w) 62 36 0) 62 37 0).1 62 i = g i := fun i q1 q2 => by rw [rd3 q2, rd3 q1, RM_g]
  have eg : ∀ i, i ≠ 29 → i ≠ 31 → i ≠ 32 → i ≠ 33 → g i = N.1 62 i := hg.1
  refine ⟨fun a ha => ?_, fun i hi => ?_, ⟨?_, ?_, fun q => ?_, fun q => ?_, fun q => ?_⟩, z.1, ?_, ?_, ?_, p9, ?_, trivial, ?_, ?_, ?_, (fun c hc => by cases hc), Nat.zero_le _, ?_⟩
  · rw [rd2 (R4_ne ha).1, rd2 (R4_ne ha).1]
  · have hi2 : i ≠ 36 ∧ i ≠ 37 := by
      simp only [SL, List.mem_cons, not_or, List.not_mem_nil, not_false_eq_true, and_true] at hi
      omega
    rw [e62 i hi2.1 hi2.2, RM_g]
  · rw [e62 32 (by decide) (by decide)]; exact hg.2.1
  · rw [e62 31 (by decide) (by decide)]; exact hg.2.2.1
  · rw [e62 29 (by decide) (by decide)]; exact hg.2.2.2.1 q
  · rw [e62 33 (by decide) (by decide)]; exact hg.2.2.2.2.1 q
  · show ∃ M, M < 2 ^ 63 ∧ (RM (wr (wr N 80 es.length (nI pi)) 79 es.length (nI x.2.1.length)) g w).2 62 = _ ∧ _
    rw [RM_w]; exact hg.2.2.2.2.2 q
  · rw [e62 23 (by decide) (by decide), eg 23 (by decide) (by decide) (by decide) (by decide)]; exact p6
  · rw [rd2 (by decide), rd2 (by decide), RM_o (by decide), rd2 (by decide), rd2 (by decide), rd2 (by decide), rd2 (by decide), RM_o (by decide), rd2 (by decide), rd2 (by decide)]; exact p7
  · rw [e62 24 (by decide) (by decide), eg 24 (by decide) (by decide) (by decide) (by decide)]; exact p8
  · rw [rd3 (by decide), rd1]; rfl
  · rw [rd1]; rfl
  · rw [e62 27 (by decide) (by decide), eg 27 (by decide) (by decide) (by decide) (by decide)]; exact p10
  · rw [e62 28 (by decide) (by decide), eg 28 (by decide) (by decide) (by decide) (by decide)]; exact p11
  · have y := z.1.2.1
    have y2 := z.2
    show 3 * (x.2.1.length + 0) ≤ 6 * x.2.2 + (advP T n x).1.2.2.2
    omega
theorem QN.qf {M N N3 : Mem} {n pi : Nat} {x : PSt} {es ps : List Nat} {g : Nat → Int32} {w : Int64} {t : Tok} {v : Nat × Nat} (h : QN M N n x es ps) (hg : TkR (N.1 62) g w t) (hq : QF (RM (wr (wr N 80 es.length (nI pi)) 79 es.length (nI x.2.1.length)) g w) N3 v) : QF6 M N3 v := by
  refine ⟨fun a ha => ?_, fun i hi => ?_, hq.2.2.1, hq.2.2.2, ?_⟩
  · obtain ⟨q1, q2, q3, q4, q5, q6, q7⟩ := R6_ne ha
    rw [hq.1 a q7, RM_o q1, rd2 q4, rd2 q5]; exact h.1 a ha
  · have q := SL3_ne hi
    rw [hq.2.1 i q.2.2.2.2.2.2.2.2.2, RM_g, hg.1 i q.2.2.2.1 q.2.2.2.2.1 q.2.2.2.2.2.1 q.2.2.2.2.2.2.1]; exact h.2.1 i hi
  · rw [hq.2.1 26 (by decide), RM_g, hg.1 26 (by decide) (by decide) (by decide) (by decide)]; exact h.2.2.2.2.2.2.2.2.2.2.2.2.2.2.2.2
theorem QN.st {M N N4 : Mem} {n pi : Nat} {x y : PSt} {es ps : List Nat} {g : Nat → Int32} {w : Int64} {t : Tok} (h : QN M N n x es ps) (hg : TkR (N.1 62) g w t) (hc : PQ (RM (wr (wr N 80 es.length (nI pi)) 79 es.length (nI x.2.1.length)) g w) N4 n y []) (hb : 3 * y.2.1.length ≤ 6 * y.2.2 + y.1.2.2.1) : QN M (wr N4 62 22 (nI (es.length + 1))) n y (es ++ [y.2.1.length]) (ps ++ [pi]) := by
  obtain ⟨p1, p2, p3, p4, p5, p6, p7, p8, p9, p10, p11, p12, p13, p14, p15, p16, p17⟩ := h
  obtain ⟨c1, c2, c3, c4, c5, c6, c7, c8, c9, c10, c11, c12, c13, c14, c15, c16⟩ := hc
  have ei : ∀ i, i ∉ SL → i ≠ 22 → i ≠ 29 → i ≠ 31 → i ≠ 32 → i ≠ 33 → (wr N4 62 22 (nI (es.length + 1))).1 62 i = N.1 62 i := fun i q0 q1 q2 q3 q4 q5 => by rw [rd3 q1, c2 i q0, RM_g]; exact hg.1 i q2 q3 q4 q5
  refine ⟨fun a ha => ?_, fun i hi => ?_, ⟨?_, ?_, fun q => ?_, fun q => ?_, c3.2.2.2.2⟩, c4, ?_, ?_, ?_, ?_, c8, ?_, ?_, hb, ⟨?_, ?_⟩, fun i hi => ?_, fun i c hi => ?_, ?_, ?_⟩
  · obtain ⟨q1, q2, q3, q4, q5, q6, q7⟩ := R6_ne ha
    rw [rd2 q1, c1 a q7, RM_o q1, rd2 q4, rd2 q5]; exact p1 a ha
  · have q := SL3_ne hi
    rw [ei i q.2.2.2.2.2.2.2.2.2 q.1 q.2.2.2.1 q.2.2.2.2.1 q.2.2.2.2.2.1 q.2.2.2.2.2.2.1]; exact p2 i hi
  · rw [rd3 (by decide)]; exact c3.1
  · rw [rd3 (by decide)]; exact c3.2.1
  · rw [rd3 (by decide)]; exact c3.2.2.1 q
  · rw [rd3 (by decide)]; exact c3.2.2.2.1 q
  · rw [ei 30 (by decide) (by decide) (by decide) (by decide) (by decide) (by decide)]; exact p5
  · rw [rd3 (by decide)]; exact c5
  · rw [rd2 (by decide), rd2 (by decide)]; exact c6
  · rw [rd3 (by decide)]; exact c7
  · rw [rd3 (by decide)]; exact c12
  · rw [rd3 (by decide)]; exact c13
  · rw [rd1]; simp
  · simp [p13.2]
  · rw [List.length_append, List.length_singleton] at hi
    rw [rd2 (by decide), c1 79 (by decide), RM_o (by decide)]
    by_cases e : i = es.length
    · subst e
      rw [rd1, stL_lo (Nat.le_refl _), p16]
    · rw [rd3 e, rd2 (by decide), stL_lo (by omega)]
      exact p14 i (by omega)
  · rw [rd2 (by decide), c1 80 (by decide), RM_o (by decide), rd2 (by decide)]
    by_cases e : i = es.length
    · subst e
      rw [p13.2] at hi
      simp at hi
      rw [rd1, hi]
    · have hl : i < (ps ++ [pi]).length := (List.getElem?_eq_some_iff.mp hi).1
      rw [List.length_append, List.length_singleton] at hl
      rw [rd3 e]
      refine p15 i c ?_
      rw [← List.getElem?_append_left (l₂ := [pi]) (by have := p13.2; omega)]
      exact hi
  · rw [List.length_append, List.length_singleton, stL_hi]
  · rw [ei 26 (by decide) (by decide) (by decide) (by decide) (by decide) (by decide)]; exact p17

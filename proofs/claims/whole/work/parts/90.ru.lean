theorem okF_cg {C C2 : Nat → Nat} {lim : Nat} : ∀ {n i h : Nat}, (∀ j, i ≤ j → j < i + n → C2 j = C j) → okF C lim n i h → okF C2 lim n i h
  | 0, i, h, _, q => q
  | n + 1, i, h, e, q => by
    have e0 : C2 i = C i := e i (Nat.le_refl _) (by omega)
    have e1 : ∀ j, i + 1 ≤ j → j < i + 1 + n → C2 j = C j := fun j h1 h2 => e j (by omega) (by omega)
    rw [okF] at q ⊢
    rw [e0]
    by_cases k1 : C i < 14
    · rw [if_pos k1] at q ⊢; exact ⟨q.1, q.2.1, okF_cg e1 q.2.2⟩
    · rw [if_neg k1] at q ⊢
      by_cases k2 : 100 ≤ C i
      · rw [if_pos k2] at q ⊢; exact ⟨q.1, q.2.1, okF_cg e1 q.2.2⟩
      · rw [if_neg k2] at q ⊢
        by_cases k3 : C i = 18
        · rw [if_pos k3] at q ⊢; exact ⟨q.1, okF_cg e1 q.2⟩
        · rw [if_neg k3] at q ⊢; exact ⟨q.1, q.2.1, okF_cg e1 q.2.2⟩
/-- what is read of a text is fit to be worked out -/
def RLok (n : Nat) (x : PSt) (es ps : List Nat) : Prop := TW n x.1 ∧ x.2.2 ≤ 120 ∧ 3 * x.2.1.length ≤ 6 * x.2.2 + x.1.2.2.1 ∧ es.length = ps.length ∧ x.2.1.length = stL es es.length ∧ ∀ r, r < es.length → stL es r ≤ stL es (r + 1) ∧ stL es (r + 1) ≤ x.2.1.length ∧ okF (fun i => x.2.1.getD i 0) (if ps.getD r 0 = 0 then 8 else 14) (stL es (r + 1) - stL es r) (stL es r) 0
theorem gD_l {l l2 : List Nat} {j : Nat} (h : j < l.length) : (l ++ l2).getD j 0 = l.getD j 0 := by
  rw [List.getD_eq_getElem?_getD, List.getD_eq_getElem?_getD, List.getElem?_append_left h]
theorem gD_r {l l2 : List Nat} {j c : Nat} (h : l2[j]? = some c) : (l ++ l2).getD (l.length + j) 0 = c := by
  rw [List.getD_eq_getElem?_getD, List.getElem?_append_right (by omega), show l.length + j - l.length = j by omega, h]
  rfl
theorem RLok_st {T : Nat → Nat} {n lim K : Nat} {x : PSt} {es ps : List Nat} (hT : ∀ i, T i < 256) (h : RLok n x es ps) (hK : K < 2) (hlim : lim = (if K = 1 then 14 else 8)) (h0 : x.1.1 ≠ 0) (e : (prs T n lim FU 0 0 (advP T n x)).1 = none) (e59 : (prs T n lim FU 0 0 (advP T n x)).2.1.1 = 59) : RLok n (advP T n (prs T n lim FU 0 0 (advP T n x)).2) (es ++ [(prs T n lim FU 0 0 (advP T n x)).2.2.1.length]) (ps ++ [K]) := by
  obtain ⟨p1, p2, p3, p4, p5, p6⟩ := h
  have hl14 : lim ≤ 14 := by rw [hlim]; split <;> omega
  have hav := adv_W hT p1 h0
  have hz := prs_W (lim := lim) hT FU 0 0 (advP T n x) hav.1 p2 e
  obtain ⟨l, el, ol⟩ := prs_H hT hl14 FU 0 0 (advP T n x) hav.1 p2 (by omega) e
  rw [show uq 0 = 1 from rfl, adv_2] at hz
  rw [adv_2] at el
  generalize prs T n lim FU 0 0 (advP T n x) = y at e e59 hz el ⊢
  have hav2 := adv_W (x := y.2) hT hz.1 (by omega)
  have ey : y.2.2.1.length = x.2.1.length + l.length := by rw [el, List.length_append]
  refine ⟨hav2.1, hz.2.2.2, ?_, by simp [p4], ?_, fun r hr => ?_⟩
  · show 3 * y.2.2.1.length ≤ 6 * y.2.2.2 + (advP T n y.2).1.2.2.1
    have z1 := hz.2.2.1
    have z2 := hav.2
    have z3 := hav2.2
    omega
  · rw [List.length_append, List.length_singleton, stL_hi]; rfl
  · rw [List.length_append, List.length_singleton] at hr
    show stL _ r ≤ stL _ (r + 1) ∧ stL _ (r + 1) ≤ y.2.2.1.length ∧ okF (fun i => y.2.2.1.getD i 0) _ _ _ 0
    by_cases hq : r = es.length
    · subst hq
      rw [stL_lo (Nat.le_refl _), stL_hi, ← p5]
      refine ⟨by omega, Nat.le_refl _, ?_⟩
      have hK2 : (ps ++ [K]).getD es.length 0 = K := by
        have := gD_r (l := ps) (l2 := [K]) (j := 0) (c := K) rfl
        rw [p4]; exact this
      have hL : (if (ps ++ [K]).getD es.length 0 = 0 then 8 else 14) = lim := by
        rw [hK2, hlim]
        match K, hK with
        | 0, _ => rfl
        | 1, _ => rfl
      rw [hL, show y.2.2.1.length - x.2.1.length = l.length by omega]
      refine okl_F (okl_mono (B := 0 + bn 0 0) (by decide) (ol 0 (fun q => absurd q (by decide)))) (fun j c hj => ?_)
      show y.2.2.1.getD _ 0 = c
      rw [el]
      exact gD_r hj
    · have z := p6 r (by omega)
      rw [stL_lo (by omega), stL_lo (by omega), gD_l (l := ps) (by omega)]
      refine ⟨z.1, by omega, okF_cg (fun j h1 h2 => ?_) z.2.2⟩
      show y.2.2.1.getD j 0 = x.2.1.getD j 0
      rw [el]
      exact gD_l (by omega)
theorem rlP_ok {T : Nat → Nat} {n : Nat} (hT : ∀ i, T i < 256) (h : (rlP T n 12 (lexT T n 0, ([] : List Nat), 0) [] []).1 = none) : RLok n (rlP T n 12 (lexT T n 0, ([] : List Nat), 0) [] []).2.1 (rlP T n 12 (lexT T n 0, ([] : List Nat), 0) [] []).2.2.1 (rlP T n 12 (lexT T n 0, ([] : List Nat), 0) [] []).2.2.2 := by
  obtain ⟨k, hk⟩ := rlP_ind (T := T) (n := n) (P := fun _ x es ps => RLok n x es ps) (fun m x es ps K lim hp hK hl h0 e e59 => RLok_st hT hp hK hl h0 e e59) 12 (lexT T n 0, ([] : List Nat), 0) [] [] ⟨(lex_W hT (Nat.zero_le _)).1, Nat.zero_le _, Nat.zero_le _, rfl, rfl, fun r hr => absurd hr (Nat.not_lt_zero _)⟩ h
  exact hk
/-- what else is wanted between two calls -/
def XE (M : Mem) : Prop := M.1 17 0 = 0 ∧ (∀ i, M.1 18 i = 0 ∨ M.1 18 i = 1) ∧ ∀ i, ∃ v, v < 256 ∧ M.1 14 i = nI v
def XJ (M : Mem) : Prop := XI M ∧ XE M
theorem XE_fr {M N : Mem} (h : XE M) (f1 : N.1 14 = M.1 14) (f2 : N.1 17 = M.1 17) (f3 : N.1 18 = M.1 18) : XE N := by
  unfold XE
  rw [f1, f2, f3]
  exact h
def CU : List Nat := [13, 15, 16, 17, 18, 20, 21, 22, 23, 25, 26, 29]
theorem CU_ne {a : Nat} (h : a ∉ CU) : a ≠ 13 ∧ a ≠ 20 ∧ a ≠ 21 ∧ a ≠ 22 ∧ a ≠ 23 ∧ a ≠ 29 ∧ a ∉ PL6 := by
  simp only [CU, List.mem_cons, not_or, List.not_mem_nil, not_false_eq_true, and_true] at h
  refine ⟨by omega, by omega, by omega, by omega, by omega, by omega, ?_⟩
  simp only [PL6, List.mem_cons, not_or, List.not_mem_nil, not_false_eq_true, and_true]
  omega
/-- the class with new rules -/
def RE (M N : Mem) (x : PSt) (es ps : List Nat) : Prop := (∀ a, a ∉ CU → N.1 a = M.1 a) ∧ (∀ i, i ≠ 8 → N.1 29 i = M.1 29 i) ∧ N.1 29 8 = 0 ∧ N.1 13 1 = 0 ∧ N.1 25 4 = 0 ∧ N.1 25 5 = -1 ∧ N.1 20 5 = nI es.length ∧ (∀ r, r ≤ es.length → N.1 22 r = nI (stL es r)) ∧ (∀ (i : Nat) (c : Nat), x.2.1[i]? = some c → N.1 21 i = nI c) ∧ (∀ (i : Nat) (c : Nat), ps[i]? = some c → N.1 23 i = nI c) ∧ N.1 17 0 = 0 ∧ ∀ i, N.1 18 i = 0 ∨ N.1 18 i = 1
theorem va_cpy0 {f g : Nat → Int32} {n i : Nat} (h : i < n) : va_cpy f g 0 0 n i = f i := by
  unfold va_cpy
  rw [if_pos ⟨Nat.zero_le _, by omega⟩]
  congr 1
  omega
theorem ans5 {Φ : Option Int32 → Mem → Prop} {N : Mem} {v : Int32} (e : N.1 20 5 = v) (h : Φ (some v) N) : Φ (some (N.1 20 5)) N := by rw [e]; exact h
theorem PN.re {M N : Mem} {n : Nat} {x : PSt} {es ps : List Nat} (hx : M.1 17 0 = 0) (hm : es.length ≤ 12) (hL : x.2.1.length ≤ 1000) (h : PN M N n x es ps) : RE M (wr (wr (wa (wa (wa (wr (wr N 13 1 0) 29 8 0) 21 (va_cpy ((wr (wr N 13 1 0) 29 8 0).1 16) ((wr (wr N 13 1 0) 29 8 0).1 21) 0 0 1000)) 22 (va_cpy ((wr (wr N 13 1 0) 29 8 0).1 17) ((wr (wr N 13 1 0) 29 8 0).1 22) 0 0 13)) 23 (cpyF ((wr (wr N 13 1 0) 29 8 0).1 18) ((wr (wr N 13 1 0) 29 8 0).1 23) 12)) 20 4 ((wr (wr N 13 1 0) 29 8 0).1 15 4)) 20 5 ((wr (wr N 13 1 0) 29 8 0).1 15 5)) x es ps := by
  obtain ⟨p1, p2, p3, p4, p5, p6, p7, p8, p9, p10, p11, p12, p13, p14, p15⟩ := h
  refine ⟨fun a ha => ?_, fun i hi => ?_, ?_, ?_, ?_, ?_, ?_, fun r hr => ?_, fun i c hi => ?_, fun i c hi => ?_, ?_, ?_⟩
  · obtain ⟨q1, q2, q3, q4, q5, q6, q7⟩ := CU_ne ha
    rw [rd2 q2, rd2 q2, rdb q5, rdb q4, rdb q3, rd2 q6, rd2 q1]; exact p1 a q7
  · rw [rd2 (by decide), rd2 (by decide), rdb (by decide), rdb (by decide), rdb (by decide), rd3 hi, rd2 (by decide), p1 29 (by decide)]
  · rw [rd2 (by decide), rd2 (by decide), rdb (by decide), rdb (by decide), rdb (by decide), rd1]
  · rw [rd2 (by decide), rd2 (by decide), rdb (by decide), rdb (by decide), rdb (by decide), rd2 (by decide), rd1]
  · rw [rd2 (by decide), rd2 (by decide), rdb (by decide), rdb (by decide), rdb (by decide), rd2 (by decide), rd2 (by decide)]; exact p8
  · rw [rd2 (by decide), rd2 (by decide), rdb (by decide), rdb (by decide), rdb (by decide), rd2 (by decide), rd2 (by decide)]; exact p9
  · rw [rd1, rd2 (by decide), rd2 (by decide)]; exact p11.1
  · rw [rd2 (by decide), rd2 (by decide), rdb (by decide), rda, va_cpy0 (by omega), rd2 (by decide), rd2 (by decide)]
    cases r with
    | zero => rw [p14, hx]; rfl
    | succ r =>
      refine p12 r _ ?_
      show es[r]? = some (es.getD r 0)
      rw [List.getD_eq_getElem?_getD, List.getElem?_eq_getElem (by omega)]; rfl
  · have hl : i < x.2.1.length := (List.getElem?_eq_some_iff.mp hi).1
    rw [rd2 (by decide), rd2 (by decide), rdb (by decide), rdb (by decide), rda, va_cpy0 (by omega), rd2 (by decide), rd2 (by decide)]
    exact p5 i c hi
  · have hl : i < ps.length := (List.getElem?_eq_some_iff.mp hi).1
    have := p11.2
    rw [rd2 (by decide), rd2 (by decide), rda, cpyF_lt (by omega), rd2 (by decide), rd2 (by decide)]
    exact p13 i c hi
  · rw [rd2 (by decide), rd2 (by decide), rdb (by decide), rdb (by decide), rdb (by decide), rd2 (by decide), rd2 (by decide), p14]; exact hx
  · rw [rd2 (by decide), rd2 (by decide), rdb (by decide), rdb (by decide), rdb (by decide), rd2 (by decide), rd2 (by decide)]; exact p15
def RU : List Nat := [13, 15, 16, 17, 18, 20, 21, 22, 23, 25, 26, 29, 62, 73, 74, 75, 76, 77, 78, 79, 80, 82]
theorem INV_ru {X Y : Mem → Prop} {M N : Mem} (h : INV Y M) (v : ∀ a, a ∉ RU → N.1 a = M.1 a) (f62 : ∀ i, i ∉ SL5 → N.1 62 i = M.1 62 i) (f29 : N.1 29 7 = M.1 29 7) (e13 : N.1 13 1 = 0) (e26 : N.1 62 26 = 0) (e4 : N.1 25 4 = N.1 62 27) (e5 : N.1 25 5 = N.1 62 28) (e8 : N.1 29 8 = N.1 62 12) (e01 : N.1 62 12 = 0 ∨ N.1 62 12 = 1) (hX : X N) : INV X N := by
  obtain ⟨h1, h2, ⟨n, t, k, w, h3, h5⟩, h4, h6, hXM⟩ := h
  refine ⟨?_, ?_, ⟨n, 0, k, w, ?_, ?_⟩, ?_, ?_, hX⟩
  · unfold E1
    rw [v 2 (by decide), v 63 (by decide), v 3 (by decide), v 64 (by decide), v 4 (by decide), v 65 (by decide), v 5 (by decide), v 66 (by decide), v 6 (by decide), v 68 (by decide), v 7 (by decide), v 67 (by decide), v 9 (by decide), v 69 (by decide), v 10 (by decide), v 70 (by decide), v 11 (by decide), v 71 (by decide), v 12 (by decide), v 72 (by decide), v 14 (by decide), v 81 (by decide), v 50 (by decide), v 91 (by decide), v 61 (by decide), v 92 (by decide), v 52 (by decide), v 93 (by decide), v 53 (by decide), v 94 (by decide), v 54 (by decide), v 95 (by decide), v 56 (by decide), v 96 (by decide), v 57 (by decide), v 98 (by decide), v 58 (by decide), v 99 (by decide), v 59 (by decide), v 100 (by decide)]
    exact h1
  · refine ⟨?_, ?_, e4, e5, e8, e01⟩
    · rw [v 0 (by decide), f62 0 (by decide)]; exact h2.1
    · rw [f29, f62 42 (by decide)]; exact h2.2.1
  · obtain ⟨g1, g2, g3, g4, i1, i2, i3, i4, i5, i6, i7, i8⟩ := h3
    unfold E3
    rw [v 1 (by decide), v 51 (by decide), v 55 (by decide), f62 1 (by decide), f62 49 (by decide), f62 50 (by decide), e13, e26]
    exact ⟨g1, Nat.zero_le _, g3, g4, i1, i2, rfl, rfl, i5, i6, i7, i8⟩
  · unfold E5
    rw [v 96 (by decide), v 60 (by decide), v 65 (by decide), v 97 (by decide), v 98 (by decide)]
    exact h5
  · unfold E4
    rw [v 66 (by decide), v 68 (by decide), v 69 (by decide)]
    exact h4
  · unfold E6
    rw [v 35 (by decide), v 36 (by decide), v 34 (by decide), v 39 (by decide), v 40 (by decide), v 38 (by decide), v 43 (by decide), v 44 (by decide), v 42 (by decide), v 47 (by decide), v 48 (by decide), v 46 (by decide), v 88 (by decide), v 89 (by decide), v 87 (by decide), v 90 (by decide)]
    exact h6
theorem RU_ne {a : Nat} (h : a ∉ RU) : a ∉ CU ∧ a ∉ R10 ∧ a ∉ PL6 ∧ a ∉ R6 ∧ a ≠ 13 := by
  simp only [RU, List.mem_cons, not_or, List.not_mem_nil, not_false_eq_true, and_true] at h
  refine ⟨?_, ?_, ?_, ?_, by omega⟩ <;> simp only [CU, R10, PL6, R6, List.mem_cons, not_or, List.not_mem_nil, not_false_eq_true, and_true] <;> omega
theorem SL5_3 {i : Nat} (h : i ∉ SL5) : i ∉ SL3 := (SL5_ne h).2.2
/-- both with new rules: the rules are the same -/
theorem rules_GX {M N N2 : Mem} {n : Nat} {x : PSt} {es ps : List Nat} (hn : n ≤ 1000) (hm : es.length ≤ 12) (hp : ∀ c, c ∈ ps → c < 2) (hr : RE M N x es ps) (hq : QE N N2 x es ps) (ho : RLok n x es ps) : GX N2 (fun i => x.2.1.getD i 0) (stL es) es.length x.2.1.length := by
  obtain ⟨r1, r2, r3, r4, r5, r6, r7, r8, r9, r10, r11, r12⟩ := hr
  obtain ⟨q1, q2, q3, q4, q5, q6, q7, q8, q9, q10⟩ := hq
  obtain ⟨o1, o2, o3, o4, o5, o6⟩ := ho
  have gd : ∀ i, i < x.2.1.length → x.2.1[i]? = some (x.2.1.getD i 0) := fun i hi => by
    rw [List.getD_eq_getElem?_getD, List.getElem?_eq_getElem hi]; rfl
  have gp : ∀ r, r < es.length → ps[r]? = some (ps.getD r 0) := fun r hr => by
    rw [List.getD_eq_getElem?_getD, List.getElem?_eq_getElem (by omega)]; rfl
  have gl : ∀ r, r < es.length → ps.getD r 0 < 2 := fun r hr => hp _ (List.mem_of_getElem? (gp r hr))
  refine ⟨⟨?_, fun r hr => ?_, fun i hi => ?_⟩, ⟨q3, q9, fun i hi => q8 i _ (gd i hi)⟩, ⟨hm, ?_, fun r hr => ?_⟩, fun r hr => ?_⟩
  · rw [q1 20 (by decide)]; exact r7
  · rw [q1 22 (by decide)]; exact r8 r hr
  · rw [q1 21 (by decide)]; exact r9 i _ (gd i hi)
  · have := o1.1
    omega
  · have z := o6 r hr
    have hv := gl r hr
    rw [q10 r _ (gp r hr)]
    refine ⟨z.1, z.2.1, nc01 hv, ?_⟩
    have e : (if nI (ps.getD r 0) = 0 then 8 else 14) = (if ps.getD r 0 = 0 then 8 else 14) := by
      generalize ps.getD r 0 = c at hv
      match c, hv with
      | 0, _ => rfl
      | 1, _ => rfl
    rw [e]
    exact z.2.2
  · rw [q1 23 (by decide), r10 r _ (gp r hr), q10 r _ (gp r hr)]
set_option maxRecDepth 100000 in
set_option maxHeartbeats 2000000 in
theorem rules_s {M Mc : Mem} {T : Nat → Nat} {t : Nat} (hM : INV XJ M) (g2 : t ≤ 1000) (i4 : M.1 62 26 = nI t) (hT : ∀ i, M.1 14 i = nI (T i) ∧ T i < 256) (e : (rlP T t 12 (lexT T t 0, ([] : List Nat), 0) [] []).1 = none) (hr : RE M Mc (rlP T t 12 (lexT T t 0, ([] : List Nat), 0) [] []).2.1 (rlP T t 12 (lexT T t 0, ([] : List Nat), 0) [] []).2.2.1 (rlP T t 12 (lexT T t 0, ([] : List Nat), 0) [] []).2.2.2) : ∃ v : Int32, some (Mc.1 20 5) = some v ∧ JM noRo 900 mX12_rules 0 (entL (.ref 62 :: [])) [] Mc (fun r2 M2 => r2 = some v ∧ INV XJ M2) := by
  have ho := rlP_ok (fun i => (hT i).2) e
  have h12 := rlP_12 e
  have e81 : M.1 81 = M.1 14 := hM.1.2.2.2.2.2.2.2.2.2.2.1.symm
  have x14 := hM.2.2.2.2.2.2.2.2
  refine ⟨nI (rlP T t 12 (lexT T t 0, ([] : List Nat), 0) [] []).2.2.1.length, by rw [hr.2.2.2.2.2.2.1], ?_⟩
  refine M_more (d := 5) (by omega) (tM_rules (d := 0) (n := t) (T := T) (by rw [hr.1 62 (by decide)]; exact i4) g2 (by rw [hr.1 81 (by decide), e81]; exact hT) (fun _ N2 hq => ⟨rfl, ?_⟩) (fun v e2 => by rw [e] at e2; cases e2))
  refine INV_ru hM (fun a ha => ?_) (fun i hi => ?_) ?_ ?_ hq.2.2.2.2.2.2.1 ?_ ?_ ?_ (Or.inl hq.2.2.2.1) ⟨⟨_, _, _, _, rules_GX g2 h12.1 h12.2 hr hq ho, fun q => absurd hq.2.2.2.1 q⟩, ?_, ?_, ?_⟩
  · rw [hq.1 a (RU_ne ha).2.1]; exact hr.1 a (RU_ne ha).1
  · rw [hq.2.1 i hi, hr.1 62 (by decide)]
  · rw [hq.1 29 (by decide)]; exact hr.2.1 7 (by decide)
  · rw [hq.1 13 (by decide)]; exact hr.2.2.2.1
  · rw [hq.1 25 (by decide), hq.2.2.2.2.1]; exact hr.2.2.2.2.1
  · rw [hq.1 25 (by decide), hq.2.2.2.2.2.1]; exact hr.2.2.2.2.2.1
  · rw [hq.1 29 (by decide), hq.2.2.2.1]; exact hr.2.2.1
  · rw [hq.1 17 (by decide)]; exact hr.2.2.2.2.2.2.2.2.2.2.1
  · rw [hq.1 18 (by decide)]; exact hr.2.2.2.2.2.2.2.2.2.2.2
  · rw [hq.1 14 (by decide), hr.1 14 (by decide)]; exact x14
set_option maxRecDepth 100000 in
set_option maxHeartbeats 2000000 in
theorem rules_f {M N : Mem} {T : Nat → Nat} {t : Nat} {v : Nat × Nat} (hM : INV XJ M) (g2 : t ≤ 1000) (i4 : M.1 62 26 = nI t) (hT : ∀ i, M.1 14 i = nI (T i) ∧ T i < 256) (e : (rlP T t 12 (lexT T t 0, ([] : List Nat), 0) [] []).1 = some v) (hr : PF6 M N v) : ∃ v : Int32, some (-1) = some v ∧ JM noRo 900 mX12_rules 0 (entL (.ref 62 :: [])) [] (wr N 13 1 0) (fun r2 M2 => r2 = some v ∧ INV XJ M2) := by
  have e81 : M.1 81 = M.1 14 := hM.1.2.2.2.2.2.2.2.2.2.2.1.symm
  obtain ⟨xI, x17, x18, x14⟩ := hM.2.2.2.2.2
  have h2 := hM.2.1
  refine ⟨-1, rfl, ?_⟩
  refine M_more (d := 5) (by omega) (tM_rules (d := 0) (n := t) (T := T) (by rw [rd2 (by decide), hr.1 62 (by decide)]; exact i4) g2 (by rw [rd2 (by decide), hr.1 81 (by decide), e81]; exact hT) (fun e2 => by rw [e] at e2; cases e2) (fun v2 e2 N2 hq => ⟨rfl, ?_⟩))
  have ev : v2 = v := Option.some.inj (e2.symm.trans e)
  subst ev
  have f62 : ∀ i, i ∉ SL3 → N2.1 62 i = M.1 62 i := fun i hi => by rw [hq.2.1 i hi, rd2 (by decide), hr.1 62 (by decide)]
  have fa : ∀ a, a ∉ R6 → a ≠ 13 → a ∉ PL6 → N2.1 a = M.1 a := fun a q1 q2 q3 => by rw [hq.1 a q1, rd2 q2]; exact hr.1 a q3
  refine INV_ru hM (fun a ha => ?_) (fun i hi => f62 i (SL5_3 hi)) ?_ ?_ hq.2.2.2.2 ?_ ?_ ?_ ?_ ⟨XI_fr xI (fun a ha => ?_) ?_ (fun i hi => ?_), ?_, ?_, ?_⟩
  · exact fa a (RU_ne ha).2.2.2.1 (RU_ne ha).2.2.2.2 (RU_ne ha).2.2.1
  · rw [fa 29 (by decide) (by decide) (by decide)]
  · rw [hq.1 13 (by decide), rd1]
  · rw [hq.1 25 (by decide), hq.2.2.1, rd2 (by decide)]; exact hr.2.1
  · rw [hq.1 25 (by decide), hq.2.2.2.1, rd2 (by decide)]; exact hr.2.2.1
  · rw [fa 29 (by decide) (by decide) (by decide), f62 12 (by decide)]; exact h2.2.2.2.2.1
  · rw [f62 12 (by decide)]; exact h2.2.2.2.2.2
  · simp only [XLs, List.mem_cons, List.not_mem_nil, or_false] at ha
    refine fa a ?_ (by omega) ?_ <;> simp only [PL6, R6, List.mem_cons, not_or, List.not_mem_nil, not_false_eq_true, and_true] <;> omega
  · rw [fa 20 (by decide) (by decide) (by decide)]
  · rcases hi with q | q | q | q <;> subst q <;> exact f62 _ (by decide)
  · rw [hq.1 17 (by decide), rd2 (by decide), hr.2.2.2.1]; exact x17
  · rw [hq.1 18 (by decide), rd2 (by decide)]; exact hr.2.2.2.2
  · rw [fa 14 (by decide) (by decide) (by decide)]; exact x14
set_option maxRecDepth 100000 in
set_option maxHeartbeats 2000000 in
theorem pr_rules : Pair (INV XJ) mX11_rules mX12_rules [] := by
  intro M hM
  obtain ⟨h1, h2, ⟨n, t, k, w, h3, h5⟩, h4, h6, hXM⟩ := id hM
  obtain ⟨g1, g2, g3, g4, i1, i2, i3, i4, i5, i6, i7, i8⟩ := id h3
  obtain ⟨hXI, x17, x18, x14⟩ := id hXM
  obtain ⟨T, hT⟩ : ∃ T : Nat → Nat, ∀ i, M.1 14 i = nI (T i) ∧ T i < 256 := ⟨fun i => Classical.choose (x14 i), fun i => ⟨(Classical.choose_spec (x14 i)).2, (Classical.choose_spec (x14 i)).1⟩⟩
  refine tY_rules (d := 799) let_ok i3 g2 hT x18 (fun e N hN => ?_) (fun v e N hN => rules_f hM g2 i4 hT e hN)
  have ho := rlP_ok (fun i => (hT i).2) e
  refine rules_s hM g2 i4 hT e (hN.re x17 (rlP_12 e).1 ?_)
  have z1 := ho.1.1
  have z2 := ho.2.1
  have z3 := ho.2.2.1
  omega

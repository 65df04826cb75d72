theorem insF {f : Nat → Int32} {o p n i : Nat} {x : Int32} (hp : p ≤ n) (hi : i ≤ n) : upd (shF f (o + p) (o + n)) (o + p) x (o + i) = if i < p then f (o + i) else if i = p then x else f (o + (i - 1)) := by
  by_cases h1 : i < p
  · rw [if_pos h1, updN (by omega), shF_lo (by omega)]
  · rw [if_neg h1]
    by_cases h2 : i = p
    · subst h2
      rw [if_pos rfl, updS]
    · rw [if_neg h2, updN (by omega)]
      unfold shF
      rw [if_pos (by omega)]
      congr 1
      omega
theorem insF_out {f : Nat → Int32} {o p n j : Nat} {x : Int32} (hp : p ≤ n) (hn : n < 20) (hj : j < o ∨ o + 20 ≤ j) : upd (shF f (o + p) (o + n)) (o + p) x j = f j := by
  rw [updN (by omega)]
  unfold shF
  rw [if_neg (by omega)]
theorem insX {xs : List (Int32 × Int32)} {p i : Nat} {q : Int32 × Int32} (hp : p ≤ xs.length) : (xs.take p ++ q :: xs.drop p)[i]? = if i < p then xs[i]? else if i = p then some q else xs[i - 1]? := by
  have hl : (xs.take p).length = p := by rw [List.length_take]; omega
  by_cases h1 : i < p
  · rw [if_pos h1, List.getElem?_append_left (by omega), List.getElem?_take, if_pos h1]
  · rw [if_neg h1, List.getElem?_append_right (by omega), hl]
    by_cases h2 : i = p
    · subst h2
      rw [if_pos rfl, Nat.sub_self]
      rfl
    · rw [if_neg h2]
      obtain ⟨m, rfl⟩ : ∃ m, i = p + m + 1 := ⟨i - p - 1, by omega⟩
      rw [show p + m + 1 - p = m + 1 by omega, List.getElem?_cons_succ, List.getElem?_drop]
      congr 1
theorem B6_ins {a l c A L C : Nat → Int32} {o b n p v : Nat} {x y : Int32} (h : B6 a l c A L C o b) (hn : c 3 = nI n) (hb : n < 20) (hp : p ≤ n) (hv : 1 ≤ v) (hv2 : v ≤ 10000) (hx : x = nI v) :
    B6 (upd (shF a p n) p x) (upd (shF l p n) p y) (upd c 3 (nI (n + 1))) (upd (shF A (o + p) (o + n)) (o + p) x) (upd (shF L (o + p) (o + n)) (o + p) y) (upd C b (nI (n + 1))) o b := by
  obtain ⟨xs, q1, q2, q3, q4, q5⟩ := h
  have en := (nI_eq (by omega) (by omega)).mp (hn.symm.trans q2)
  subst en
  have hlen : (xs.take p ++ (x, y) :: xs.drop p).length = xs.length + 1 := by
    rw [List.length_append, List.length_cons, List.length_take, List.length_drop]
    omega
  refine ⟨xs.take p ++ (x, y) :: xs.drop p, by omega, by rw [hlen, updS], by rw [hlen, updS], fun i hi => ?_, fun q hq => ?_⟩
  · rw [hlen] at hi
    have e1 := insF (f := a) (o := 0) (x := x) hp (show i ≤ xs.length by omega)
    have e2 := insF (f := l) (o := 0) (x := y) hp (show i ≤ xs.length by omega)
    simp only [Nat.zero_add] at e1 e2
    rw [insX hp, e1, e2, insF hp (by omega), insF hp (by omega)]
    by_cases h1 : i < p
    · simp only [if_pos h1]
      exact q4 i (by omega)
    · simp only [if_neg h1]
      by_cases h2 : i = p
      · simp only [if_pos h2]
        exact ⟨trivial, trivial⟩
      · simp only [if_neg h2]
        exact q4 (i - 1) (by omega)
  · rcases List.mem_append.mp hq with h | h
    · exact q5 q (List.mem_of_mem_take h)
    · rcases List.mem_cons.mp h with h | h
      · exact ⟨v, hv, hv2, by rw [h]; exact hx⟩
      · exact q5 q (List.mem_of_mem_drop h)
theorem B6_fr {a l c A L C A2 L2 C2 : Nat → Int32} {o b : Nat} (hA : ∀ i, i < 20 → A2 (o + i) = A (o + i)) (hL : ∀ i, i < 20 → L2 (o + i) = L (o + i)) (hC : C2 b = C b) (h : B6 a l c A L C o b) : B6 a l c A2 L2 C2 o b := by
  obtain ⟨xs, q1, q2, q3, q4, q5⟩ := h
  exact ⟨xs, q1, q2, by rw [hC]; exact q3, fun i hi => ⟨(q4 i hi).1, by rw [hA i (by omega), hL i (by omega)]; exact (q4 i hi).2⟩, q5⟩
theorem lotAmt {y z dd : Int32} (h : LotOK y z dd) : ∃ v : Nat, 1 ≤ v ∧ v ≤ 10000 ∧ y = nI v := by
  obtain ⟨h1, h2, -⟩ := h
  have h0 : ¬ y < 0 := fun q => h1 (Int32.lt_trans q (by decide))
  obtain ⟨v, hv, e⟩ := Ix_le (n := 10000) (by decide) h0 (Int32.not_lt.mp h2)
  refine ⟨v, ?_, by omega, e⟩
  rcases Nat.eq_zero_or_pos v with q | q
  · subst q; exact absurd (by rw [e]; decide) h1
  · exact q
set_option maxRecDepth 100000 in
set_option maxHeartbeats 2000000 in
theorem pr_lot {X : Mem → Prop} {x y z : Int32} (hX : ∀ M b n p y z, b < 4 → X M → X (wr (wr (wr (W2 (wr (wr (wr (W2 M (34 + 4 * b + 1) (34 + 4 * b + 2) (shF (M.1 (34 + 4 * b + 1)) p n) (shF (M.1 (34 + 4 * b + 2)) p n)) (34 + 4 * b + 1) p y) (34 + 4 * b + 2) p z) (34 + 4 * b) 3 (nI (n + 1))) 88 89 (shF (M.1 88) (20 * b + p) (20 * b + n)) (shF (M.1 89) (20 * b + p) (20 * b + n))) 89 (20 * b + p) z) 88 (20 * b + p) y) 87 b (nI (n + 1)))) : Pair (INV X) mX11_lot mX12_lot [.int x, .int y, .int z] := by
  intro M hM
  obtain ⟨h1, h2, ⟨nh, t, k, w, h3, h5⟩, h4, h6, hXM⟩ := id hM
  obtain ⟨g1, g2, g3, g4, i1, i2, i3, i4, i5, i6, i7, i8⟩ := id h3
  obtain ⟨b1, b2, b3, b4, b5, b6⟩ := id h2
  obtain ⟨a0, a1, a2, a3, a4, a5, a6, a7, a8, a9, a10, a11, a12, a13, a14, a15, a16, a17, a18, a19⟩ := id h1
  have hE := E6_at h6
  have hc1 : ∀ b, b < 4 → ∃ n, n ≤ 20 ∧ M.1 (34 + 4 * b) 3 = nI n := fun b hb => by
    obtain ⟨⟨xs, q1, q2, -⟩, -⟩ := hE b hb
    exact ⟨xs.length, q1, q2⟩
  have hc2 : ∀ b, b < 4 → ∃ n, n ≤ 20 ∧ M.1 87 b = nI n := fun b hb => by
    obtain ⟨⟨xs, q1, -, q2, -⟩, -⟩ := hE b hb
    exact ⟨xs.length, q1, q2⟩
  have hcc : ∀ b n, b < 4 → (M.1 (34 + 4 * b) 3 = nI n ↔ M.1 87 b = nI n) := fun b n hb => by
    obtain ⟨⟨xs, q1, q2, q3, -⟩, -⟩ := hE b hb
    rw [q2, q3]
  refine tY_lot hc1 (fun q => ⟨_, rfl, ?_⟩) (fun b n hb ex ec hlt hok p hp hp1 hp2 => ⟨_, rfl, ?_⟩)
  · refine tM_lot hc2 (fun _ => ⟨rfl, hM⟩) (fun b n hb e1 e2 e3 e4 => absurd (by rw [b1]; exact e4) (q b n hb e1 ((hcc b n hb).mpr e2) e3))
  · have ec2 := (hcc b n hb).mp ec
    obtain ⟨v, hv1, hv2, hv⟩ := lotAmt hok
    have hl : ∀ i, i < n → M.1 (34 + 4 * b + 2) i = M.1 89 (20 * b + i) := fun i hi => by
      obtain ⟨⟨xs, q1, q2, q3, q4, -⟩, -⟩ := hE b hb
      have en := (nI_eq (by omega) (by omega)).mp (ec.symm.trans q2)
      have z9 := (q4 i (by omega)).1.symm.trans (q4 i (by omega)).2
      simp only [Option.some.injEq, Prod.mk.injEq] at z9
      exact z9.2
    have f87 : (wr (wr (wr (W2 M (34 + 4 * b + 1) (34 + 4 * b + 2) (shF (M.1 (34 + 4 * b + 1)) p n) (shF (M.1 (34 + 4 * b + 2)) p n)) (34 + 4 * b + 1) p y) (34 + 4 * b + 2) p z) (34 + 4 * b) 3 (nI (n + 1))).1 87 = M.1 87 := by rw [rd2 (by omega), rd2 (by omega), rd2 (by omega), W2_o (by omega) (by omega)]
    have f88 : (wr (wr (wr (W2 M (34 + 4 * b + 1) (34 + 4 * b + 2) (shF (M.1 (34 + 4 * b + 1)) p n) (shF (M.1 (34 + 4 * b + 2)) p n)) (34 + 4 * b + 1) p y) (34 + 4 * b + 2) p z) (34 + 4 * b) 3 (nI (n + 1))).1 88 = M.1 88 := by rw [rd2 (by omega), rd2 (by omega), rd2 (by omega), W2_o (by omega) (by omega)]
    have f89 : (wr (wr (wr (W2 M (34 + 4 * b + 1) (34 + 4 * b + 2) (shF (M.1 (34 + 4 * b + 1)) p n) (shF (M.1 (34 + 4 * b + 2)) p n)) (34 + 4 * b + 1) p y) (34 + 4 * b + 2) p z) (34 + 4 * b) 3 (nI (n + 1))).1 89 = M.1 89 := by rw [rd2 (by omega), rd2 (by omega), rd2 (by omega), W2_o (by omega) (by omega)]
    have f62 : (wr (wr (wr (W2 M (34 + 4 * b + 1) (34 + 4 * b + 2) (shF (M.1 (34 + 4 * b + 1)) p n) (shF (M.1 (34 + 4 * b + 2)) p n)) (34 + 4 * b + 1) p y) (34 + 4 * b + 2) p z) (34 + 4 * b) 3 (nI (n + 1))).1 62 = M.1 62 := by rw [rd2 (by omega), rd2 (by omega), rd2 (by omega), W2_o (by omega) (by omega)]
    refine tM_lot (by rw [f87]; exact hc2) (fun q => absurd (by rw [f62, ← b1]; exact hok) (q b n hb ex (by rw [f87]; exact ec2) hlt)) (fun bb nn hbb e1 e2 e3 e4 pp hpp hpp1 hpp2 => ?_)
    have eb := (nI_eq (by omega) (by omega)).mp (ex.symm.trans e1)
    subst eb
    rw [f87] at e2
    have en := (nI_eq (by omega) (by omega)).mp (ec2.symm.trans e2)
    subst en
    rw [f89] at hpp1 hpp2
    have epp : pp = p := by
      rcases Nat.lt_trichotomy pp p with hq | hq | hq
      · rcases hp1 with h0 | h0
        · omega
        · have := hpp2 p hq hp
          rw [← hl (p - 1) (by omega)] at this
          exact absurd h0 (Int32.not_le.mpr this)
      · exact hq
      · rcases hpp1 with h0 | h0
        · omega
        · have := hp2 pp hq hpp
          rw [hl (pp - 1) (by omega)] at this
          exact absurd h0 (Int32.not_le.mpr this)
    subst epp
    rw [f88, f89]
    have hX2 := hX M b n pp y z hb hXM
    match b, hb with
    | 0, _ =>
      refine ⟨rfl, ⟨by simp [wr, wa, W2, a0], by simp [wr, wa, W2, a1], by simp [wr, wa, W2, a2], by simp [wr, wa, W2, a3], by simp [wr, wa, W2, a4], by simp [wr, wa, W2, a5], by simp [wr, wa, W2, a6], by simp [wr, wa, W2, a7], by simp [wr, wa, W2, a8], by simp [wr, wa, W2, a9], by simp [wr, wa, W2, a10], by simp [wr, wa, W2, a11], by simp [wr, wa, W2, a12], by simp [wr, wa, W2, a13], by simp [wr, wa, W2, a14], by simp [wr, wa, W2, a15], by simp [wr, wa, W2, a16], by simp [wr, wa, W2, a17], by simp [wr, wa, W2, a18], by simp [wr, wa, W2, a19]⟩, ⟨by simp [wr, wa, W2, upd, b1], by simp [wr, wa, W2, upd, b2], by simp [wr, wa, W2, upd, b3], by simp [wr, wa, W2, upd, b4], by simp [wr, wa, W2, upd, b5], by simpa [wr, wa, W2, upd] using b6⟩, ⟨_, t, k, w, ⟨g1, g2, g3, g4, by simp [wr, wa, W2, upd, i1], by simp [wr, wa, W2, upd, i2], by simp [wr, wa, W2, upd, i3], by simp [wr, wa, W2, upd, i4], by simp [wr, wa, W2, upd, i5], by simp [wr, wa, W2, upd, i6], by simp [wr, wa, W2, upd, i7], by simp [wr, wa, W2, upd, i8]⟩, ?_⟩, ?_, ⟨by simpa [wr, wa, W2] using B6_ins (v := v) (x := y) (y := z) h6.1 ec hlt hp hv1 hv2 hv, by simpa [wr, wa, W2] using B6_fr (fun i hi => insF_out (o := 0) (x := y) hp hlt (by omega)) (fun i hi => insF_out (o := 0) (x := z) hp hlt (by omega)) (updN (x := nI (n + 1)) (i := 0) (by decide)) h6.2.1, by simpa [wr, wa, W2] using B6_fr (fun i hi => insF_out (o := 0) (x := y) hp hlt (by omega)) (fun i hi => insF_out (o := 0) (x := z) hp hlt (by omega)) (updN (x := nI (n + 1)) (i := 0) (by decide)) h6.2.2.1, by simpa [wr, wa, W2] using B6_fr (fun i hi => insF_out (o := 0) (x := y) hp hlt (by omega)) (fun i hi => insF_out (o := 0) (x := z) hp hlt (by omega)) (updN (x := nI (n + 1)) (i := 0) (by decide)) h6.2.2.2.1, by simpa [wr, wa, W2, upd] using h6.2.2.2.2.1, by simpa [wr, wa, W2, upd] using h6.2.2.2.2.2.1, by simpa [wr, wa, W2, upd] using h6.2.2.2.2.2.2.1, by simpa [wr, wa, W2, upd] using h6.2.2.2.2.2.2.2⟩, hX2⟩
      · simpa [E5, wr, wa, W2] using h5
      · simpa [E4, wr, wa, W2] using h4
    | 1, _ =>
      refine ⟨rfl, ⟨by simp [wr, wa, W2, a0], by simp [wr, wa, W2, a1], by simp [wr, wa, W2, a2], by simp [wr, wa, W2, a3], by simp [wr, wa, W2, a4], by simp [wr, wa, W2, a5], by simp [wr, wa, W2, a6], by simp [wr, wa, W2, a7], by simp [wr, wa, W2, a8], by simp [wr, wa, W2, a9], by simp [wr, wa, W2, a10], by simp [wr, wa, W2, a11], by simp [wr, wa, W2, a12], by simp [wr, wa, W2, a13], by simp [wr, wa, W2, a14], by simp [wr, wa, W2, a15], by simp [wr, wa, W2, a16], by simp [wr, wa, W2, a17], by simp [wr, wa, W2, a18], by simp [wr, wa, W2, a19]⟩, ⟨by simp [wr, wa, W2, upd, b1], by simp [wr, wa, W2, upd, b2], by simp [wr, wa, W2, upd, b3], by simp [wr, wa, W2, upd, b4], by simp [wr, wa, W2, upd, b5], by simpa [wr, wa, W2, upd] using b6⟩, ⟨_, t, k, w, ⟨g1, g2, g3, g4, by simp [wr, wa, W2, upd, i1], by simp [wr, wa, W2, upd, i2], by simp [wr, wa, W2, upd, i3], by simp [wr, wa, W2, upd, i4], by simp [wr, wa, W2, upd, i5], by simp [wr, wa, W2, upd, i6], by simp [wr, wa, W2, upd, i7], by simp [wr, wa, W2, upd, i8]⟩, ?_⟩, ?_, ⟨by simpa [wr, wa, W2] using B6_fr (fun i hi => insF_out (o := 20) (x := y) hp hlt (by omega)) (fun i hi => insF_out (o := 20) (x := z) hp hlt (by omega)) (updN (x := nI (n + 1)) (i := 1) (by decide)) h6.1, by simpa [wr, wa, W2] using B6_ins (v := v) (x := y) (y := z) h6.2.1 ec hlt hp hv1 hv2 hv, by simpa [wr, wa, W2] using B6_fr (fun i hi => insF_out (o := 20) (x := y) hp hlt (by omega)) (fun i hi => insF_out (o := 20) (x := z) hp hlt (by omega)) (updN (x := nI (n + 1)) (i := 1) (by decide)) h6.2.2.1, by simpa [wr, wa, W2] using B6_fr (fun i hi => insF_out (o := 20) (x := y) hp hlt (by omega)) (fun i hi => insF_out (o := 20) (x := z) hp hlt (by omega)) (updN (x := nI (n + 1)) (i := 1) (by decide)) h6.2.2.2.1, by simpa [wr, wa, W2, upd] using h6.2.2.2.2.1, by simpa [wr, wa, W2, upd] using h6.2.2.2.2.2.1, by simpa [wr, wa, W2, upd] using h6.2.2.2.2.2.2.1, by simpa [wr, wa, W2, upd] using h6.2.2.2.2.2.2.2⟩, hX2⟩
      · simpa [E5, wr, wa, W2] using h5
      · simpa [E4, wr, wa, W2] using h4
    | 2, _ =>
      refine ⟨rfl, ⟨by simp [wr, wa, W2, a0], by simp [wr, wa, W2, a1], by simp [wr, wa, W2, a2], by simp [wr, wa, W2, a3], by simp [wr, wa, W2, a4], by simp [wr, wa, W2, a5], by simp [wr, wa, W2, a6], by simp [wr, wa, W2, a7], by simp [wr, wa, W2, a8], by simp [wr, wa, W2, a9], by simp [wr, wa, W2, a10], by simp [wr, wa, W2, a11], by simp [wr, wa, W2, a12], by simp [wr, wa, W2, a13], by simp [wr, wa, W2, a14], by simp [wr, wa, W2, a15], by simp [wr, wa, W2, a16], by simp [wr, wa, W2, a17], by simp [wr, wa, W2, a18], by simp [wr, wa, W2, a19]⟩, ⟨by simp [wr, wa, W2, upd, b1], by simp [wr, wa, W2, upd, b2], by simp [wr, wa, W2, upd, b3], by simp [wr, wa, W2, upd, b4], by simp [wr, wa, W2, upd, b5], by simpa [wr, wa, W2, upd] using b6⟩, ⟨_, t, k, w, ⟨g1, g2, g3, g4, by simp [wr, wa, W2, upd, i1], by simp [wr, wa, W2, upd, i2], by simp [wr, wa, W2, upd, i3], by simp [wr, wa, W2, upd, i4], by simp [wr, wa, W2, upd, i5], by simp [wr, wa, W2, upd, i6], by simp [wr, wa, W2, upd, i7], by simp [wr, wa, W2, upd, i8]⟩, ?_⟩, ?_, ⟨by simpa [wr, wa, W2] using B6_fr (fun i hi => insF_out (o := 40) (x := y) hp hlt (by omega)) (fun i hi => insF_out (o := 40) (x := z) hp hlt (by omega)) (updN (x := nI (n + 1)) (i := 2) (by decide)) h6.1, by simpa [wr, wa, W2] using B6_fr (fun i hi => insF_out (o := 40) (x := y) hp hlt (by omega)) (fun i hi => insF_out (o := 40) (x := z) hp hlt (by omega)) (updN (x := nI (n + 1)) (i := 2) (by decide)) h6.2.1, by simpa [wr, wa, W2] using B6_ins (v := v) (x := y) (y := z) h6.2.2.1 ec hlt hp hv1 hv2 hv, by simpa [wr, wa, W2] using B6_fr (fun i hi => insF_out (o := 40) (x := y) hp hlt (by omega)) (fun i hi => insF_out (o := 40) (x := z) hp hlt (by omega)) (updN (x := nI (n + 1)) (i := 2) (by decide)) h6.2.2.2.1, by simpa [wr, wa, W2, upd] using h6.2.2.2.2.1, by simpa [wr, wa, W2, upd] using h6.2.2.2.2.2.1, by simpa [wr, wa, W2, upd] using h6.2.2.2.2.2.2.1, by simpa [wr, wa, W2, upd] using h6.2.2.2.2.2.2.2⟩, hX2⟩
      · simpa [E5, wr, wa, W2] using h5
      · simpa [E4, wr, wa, W2] using h4
    | 3, _ =>
      refine ⟨rfl, ⟨by simp [wr, wa, W2, a0], by simp [wr, wa, W2, a1], by simp [wr, wa, W2, a2], by simp [wr, wa, W2, a3], by simp [wr, wa, W2, a4], by simp [wr, wa, W2, a5], by simp [wr, wa, W2, a6], by simp [wr, wa, W2, a7], by simp [wr, wa, W2, a8], by simp [wr, wa, W2, a9], by simp [wr, wa, W2, a10], by simp [wr, wa, W2, a11], by simp [wr, wa, W2, a12], by simp [wr, wa, W2, a13], by simp [wr, wa, W2, a14], by simp [wr, wa, W2, a15], by simp [wr, wa, W2, a16], by simp [wr, wa, W2, a17], by simp [wr, wa, W2, a18], by simp [wr, wa, W2, a19]⟩, ⟨by simp [wr, wa, W2, upd, b1], by simp [wr, wa, W2, upd, b2], by simp [wr, wa, W2, upd, b3], by simp [wr, wa, W2, upd, b4], by simp [wr, wa, W2, upd, b5], by simpa [wr, wa, W2, upd] using b6⟩, ⟨_, t, k, w, ⟨g1, g2, g3, g4, by simp [wr, wa, W2, upd, i1], by simp [wr, wa, W2, upd, i2], by simp [wr, wa, W2, upd, i3], by simp [wr, wa, W2, upd, i4], by simp [wr, wa, W2, upd, i5], by simp [wr, wa, W2, upd, i6], by simp [wr, wa, W2, upd, i7], by simp [wr, wa, W2, upd, i8]⟩, ?_⟩, ?_, ⟨by simpa [wr, wa, W2] using B6_fr (fun i hi => insF_out (o := 60) (x := y) hp hlt (by omega)) (fun i hi => insF_out (o := 60) (x := z) hp hlt (by omega)) (updN (x := nI (n + 1)) (i := 3) (by decide)) h6.1, by simpa [wr, wa, W2] using B6_fr (fun i hi => insF_out (o := 60) (x := y) hp hlt (by omega)) (fun i hi => insF_out (o := 60) (x := z) hp hlt (by omega)) (updN (x := nI (n + 1)) (i := 3) (by decide)) h6.2.1, by simpa [wr, wa, W2] using B6_fr (fun i hi => insF_out (o := 60) (x := y) hp hlt (by omega)) (fun i hi => insF_out (o := 60) (x := z) hp hlt (by omega)) (updN (x := nI (n + 1)) (i := 3) (by decide)) h6.2.2.1, by simpa [wr, wa, W2] using B6_ins (v := v) (x := y) (y := z) h6.2.2.2.1 ec hlt hp hv1 hv2 hv, by simpa [wr, wa, W2, upd] using h6.2.2.2.2.1, by simpa [wr, wa, W2, upd] using h6.2.2.2.2.2.1, by simpa [wr, wa, W2, upd] using h6.2.2.2.2.2.2.1, by simpa [wr, wa, W2, upd] using h6.2.2.2.2.2.2.2⟩, hX2⟩
      · simpa [E5, wr, wa, W2] using h5
      · simpa [E4, wr, wa, W2] using h4
    | bq + 4, q => exact absurd q (by omega)

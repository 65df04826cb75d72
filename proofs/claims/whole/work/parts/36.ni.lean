abbrev Lots := List (Nat × Int32)
def RepC (M : Mem) (k : Nat) (xs : Lots) : Prop := xs.length ≤ 20 ∧ M.1 k 3 = nI xs.length ∧ ∀ (i : Nat) (q : Nat × Int32), xs[i]? = some q → 1 ≤ q.1 ∧ q.1 ≤ 10000 ∧ M.1 (k + 1) i = nI q.1 ∧ M.1 (k + 2) i = q.2
def FrC (k : Nat) (M N : Mem) : Prop := (∀ a, a ≠ k → a ≠ k + 1 → a ≠ k + 2 → N.1 a = M.1 a) ∧ N.2 = M.2
theorem RepC.cg {M N : Mem} {k : Nat} {xs : Lots} (h : RepC M k xs) (h0 : N.1 k 3 = M.1 k 3) (h1 : N.1 (k + 1) = M.1 (k + 1)) (h2 : N.1 (k + 2) = M.1 (k + 2)) : RepC N k xs := by
  refine ⟨h.1, by rw [h0]; exact h.2.1, fun i q hi => ?_⟩
  rw [h1, h2]
  exact h.2.2 i q hi
theorem RepN.cg {M N : Mem} {b : Nat} {xs : Lots} (h : RepN M b xs) (h0 : N.1 87 b = M.1 87 b) (h1 : ∀ i, i < 20 → N.1 88 (20 * b + i) = M.1 88 (20 * b + i) ∧ N.1 89 (20 * b + i) = M.1 89 (20 * b + i)) : RepN N b xs := by
  refine ⟨h.1, by rw [h0]; exact h.2.1, fun i q hi => ?_⟩
  have hl : i < xs.length := (List.getElem?_eq_some_iff.mp hi).1
  have hl2 := h.1
  rw [(h1 i (by omega)).1, (h1 i (by omega)).2]
  exact h.2.2 i q hi
def amt (xs : Lots) (i : Nat) : Nat := ((xs[i]?).getD (0, 0)).1
theorem amt_of {xs : Lots} {i : Nat} {q : Nat × Int32} (h : xs[i]? = some q) : amt xs i = q.1 := by simp [amt, h]
theorem sN_cons (q : Nat × Int32) (r : Lots) : ∀ i, sN (amt (q :: r)) (i + 1) = q.1 + sN (amt r) i
  | 0 => by simp [sN, amt]
  | i + 1 => by
    have e : amt (q :: r) (i + 1) = amt r i := by simp [amt]
    rw [sN, sN_cons q r i, e, sN]
    omega
theorem tk_all : ∀ (xs : Lots) (w : Nat), (∀ q ∈ xs, 1 ≤ q.1) → sN (amt xs) xs.length ≤ w → tk w xs = (sN (amt xs) xs.length, [])
  | [], w, _, _ => rfl
  | q :: r, w, hp, h => by
    rw [List.length_cons, sN_cons] at h ⊢
    have h1 := hp q (List.mem_cons_self ..)
    rw [tk, if_neg (by omega), if_pos (by omega), tk_all r (w - q.1) (fun z hz => hp z (List.mem_cons_of_mem _ hz)) (by omega)]
theorem tk_part : ∀ (xs : Lots) (w i : Nat) (q : Nat × Int32), (∀ q ∈ xs, 1 ≤ q.1) → xs[i]? = some q → sN (amt xs) i ≤ w → w - sN (amt xs) i < q.1 → tk w xs = (w, (q.1 - (w - sN (amt xs) i), q.2) :: xs.drop (i + 1))
  | [], w, i, q, _, hq, _, _ => by simp at hq
  | p :: r, w, 0, q, hp, hq, h1, h2 => by
    simp only [List.getElem?_cons_zero, Option.some.injEq] at hq
    subst hq
    have e : sN (amt (p :: r)) 0 = 0 := rfl
    rw [e, Nat.sub_zero] at h2 ⊢
    rw [tk]
    by_cases hw : w = 0
    · rw [if_pos hw, hw]
      rfl
    · rw [if_neg hw, if_neg (by omega)]
      rfl
  | p :: r, w, i + 1, q, hp, hq, h1, h2 => by
    rw [List.getElem?_cons_succ] at hq
    rw [sN_cons] at h1 h2 ⊢
    have h3 := hp p (List.mem_cons_self ..)
    rw [tk, if_neg (by omega), if_pos (by omega), tk_part r (w - p.1) i q (fun z hz => hp z (List.mem_cons_of_mem _ hz)) hq (by omega) (by omega)]
    rw [show w - p.1 - sN (amt r) i = w - (p.1 + sN (amt r) i) by omega]
    simp only [List.drop_succ_cons, Prod.mk.injEq, and_true]
    omega
theorem dropM_fr {M : Mem} {k n g : Nat} : FrC k M (dropM M k n g) ∧ (dropM M k n g).1 k 4 = M.1 k 4 := by
  refine ⟨⟨fun a q1 q2 q3 => ?_, rfl⟩, ?_⟩
  · unfold dropM; rw [rd2 q1, W2_o q2 q3]
  · unfold dropM; rw [rd3 (by decide), W2_o (by omega) (by omega)]
theorem RepC.dr {M : Mem} {k g : Nat} {xs : Lots} (h : RepC M k xs) (hg : g ≤ xs.length) : RepC (dropM M k xs.length g) k (xs.drop g) := by
  have h0 := h.1
  refine ⟨by rw [List.length_drop]; omega, by unfold dropM; rw [rd1, List.length_drop], fun i q hi => ?_⟩
  rw [List.getElem?_drop] at hi
  have hl : g + i < xs.length := (List.getElem?_eq_some_iff.mp hi).1
  obtain ⟨z1, z2, z3, z4⟩ := h.2.2 (g + i) q hi
  refine ⟨z1, z2, ?_, ?_⟩
  · unfold dropM dpF
    rw [rd2 (by omega), W2_1 (by omega)]
    show (if i < xs.length - g then _ else _) = _
    rw [if_pos (by omega)]
    exact z3
  · unfold dropM dpF
    rw [rd2 (by omega), W2_2]
    show (if i < xs.length - g then _ else _) = _
    rw [if_pos (by omega)]
    exact z4
theorem RepC.ls {M : Mem} {k i v : Nat} {q : Nat × Int32} {xs : Lots} (h : RepC M k xs) (hi : xs[i]? = some q) (h1 : 1 ≤ v) (h2 : v ≤ 10000) : RepC (wr M (k + 1) i (nI v)) k (xs.set i (v, q.2)) := by
  refine ⟨by rw [List.length_set]; exact h.1, by rw [rd2 (by omega), List.length_set]; exact h.2.1, fun j z hj => ?_⟩
  have hl : i < xs.length := (List.getElem?_eq_some_iff.mp hi).1
  by_cases e : j = i
  · subst e
    rw [List.getElem?_set_self hl] at hj
    cases hj
    exact ⟨h1, h2, rd1, by rw [rd2 (by omega)]; exact (h.2.2 j q hi).2.2.2⟩
  · rw [List.getElem?_set_ne (by omega)] at hj
    rw [rd3 e, rd2 (by omega)]
    exact h.2.2 j z hj
theorem drop_set {xs : Lots} {i : Nat} {z : Nat × Int32} (hi : i < xs.length) : (xs.set i z).drop i = z :: xs.drop (i + 1) := by
  have h : i < (xs.set i z).length := by rw [List.length_set]; exact hi
  rw [List.drop_eq_getElem_cons h, List.getElem_set_self, List.drop_set_of_lt (by omega)]
theorem RepC.pos {M : Mem} {k : Nat} {xs : Lots} (h : RepC M k xs) : ∀ q ∈ xs, 1 ≤ q.1 := fun q hq => by
  obtain ⟨i, hi⟩ := List.mem_iff_getElem?.mp hq
  exact (h.2.2 i q hi).1
theorem tX0_takeL {d : Nat} {M : Mem} {Φ : Option Int32 → Mem → Prop} {k w : Nat} {xs : Lots} (hB : BinAt k) (hR : RepC M k xs) (hw : w ≤ 50) (h : ∀ M2, RepC M2 k (tk w xs).2 → FrC k M M2 → M2.1 k 4 = M.1 k 4 → Φ (some (nI (tk w xs).1)) M2) : JM noRo (d + 1) mX0_take 0 [some (.ref k), some (.int (nI w))] [] M Φ := by
  refine tX0_take (A := amt xs) hB hR.2.1 hR.1 (fun i hi => ?_) hw (fun hs => ?_) (fun i hi h1 h2 => ?_)
  · have e : xs[i]? = some xs[i] := List.getElem?_eq_getElem hi
    rw [amt_of e]
    exact ⟨(hR.2.2 i _ e).2.1, (hR.2.2 i _ e).2.2.1⟩
  · have e := tk_all xs w hR.pos hs
    rw [e] at h
    have r := hR.dr (Nat.le_refl _)
    rw [List.drop_length] at r
    exact h _ r dropM_fr.1 dropM_fr.2
  · have e : xs[i]? = some xs[i] := List.getElem?_eq_getElem hi
    rw [amt_of e] at h2 ⊢
    have e2 := tk_part xs w i xs[i] hR.pos e h1 h2
    rw [e2] at h
    have r0 := hR.ls e (v := xs[i].1 - (w - sN (amt xs) i)) (by omega) (by have := (hR.2.2 i _ e).2.1; omega)
    have r := r0.dr (g := i) (by rw [List.length_set]; omega)
    rw [drop_set hi, List.length_set] at r
    refine h _ r ⟨fun a q1 q2 q3 => ?_, rfl⟩ ?_
    · rw [dropM_fr.1.1 a q1 q2 q3, rd2 q2]
    · rw [dropM_fr.2, rd2 (by omega)]
def spl (y : Int32) : Int32 → Lots → Int32 × Lots
  | s, [] => (s, [])
  | s, q :: r => if q.2 < y then spl y (s + nI q.1) r else (s, q :: r)
theorem spA_sh {f : Nat → Int32} {s : Int32} : ∀ g, spA s f (g + 1) = spA (s + f 0) (fun i => f (i + 1)) g
  | 0 => rfl
  | g + 1 => by rw [spA, spA_sh g, spA]
theorem spl_eq {y : Int32} : ∀ (xs : Lots) (s : Int32) (g : Nat) (f : Nat → Int32), g ≤ xs.length → (∀ i q, xs[i]? = some q → f i = nI q.1) → (∀ i q, i < g → xs[i]? = some q → q.2 < y) → (∀ q, xs[g]? = some q → ¬ q.2 < y) → spl y s xs = (spA s f g, xs.drop g)
  | [], s, g, f, h0, _, _, _ => by
    obtain rfl : g = 0 := by simpa using h0
    rfl
  | p :: r, s, 0, f, _, _, _, h3 => by
    rw [spl, if_neg (h3 p rfl)]
    rfl
  | p :: r, s, g + 1, f, h0, h1, h2, h3 => by
    rw [spl, if_pos (h2 0 p (by omega) rfl), spl_eq r (s + nI p.1) g (fun i => f (i + 1)) (by simpa using h0) (fun i q hi => h1 (i + 1) q (by rw [List.getElem?_cons_succ]; exact hi)) (fun i q hg hi => h2 (i + 1) q (by omega) (by rw [List.getElem?_cons_succ]; exact hi)) (fun q hq => h3 q (by rw [List.getElem?_cons_succ]; exact hq)), spA_sh, h1 0 p rfl]
    rfl
theorem tX0_spoilL {d : Nat} {M : Mem} {Φ : Option Int32 → Mem → Prop} {k : Nat} {y : Int32} {xs : Lots} (hB : BinAt k) (hR : RepC M k xs) (h : ∀ M2, RepC M2 k (spl y (M.1 k 4) xs).2 → FrC k M M2 → M2.1 k 4 = (spl y (M.1 k 4) xs).1 → Φ none M2) : JM noRo (d + 1) mX0_spoil 0 [some (.ref k), some (.int y)] [] M Φ := by
  refine tX0_spoil hB hR.2.1 hR.1 (fun g hg h1 h2 => ?_)
  have e := spl_eq (y := y) xs (M.1 k 4) g (M.1 (k + 1)) hg (fun i q hi => (hR.2.2 i q hi).2.2.1) (fun i q hi hq => by rw [← (hR.2.2 i q hq).2.2.2]; exact h1 i hi) (fun q hq => by
    rcases h2 with h2 | h2
    · rw [h2, List.getElem?_eq_none (Nat.le_refl _)] at hq
      cases hq
    · rw [← (hR.2.2 g q hq).2.2.2]; exact h2)
  rw [e] at h
  have r : RepC (wr M k 4 (spA (M.1 k 4) (M.1 (k + 1)) g)) k xs := hR.cg (rd3 (by decide)) (rd2 (by omega)) (rd2 (by omega))
  refine h _ (r.dr hg) ⟨fun a q1 q2 q3 => ?_, rfl⟩ ?_
  · rw [dropM_fr.1.1 a q1 q2 q3, rd2 q1]
  · rw [dropM_fr.2, rd1]
set_option maxRecDepth 100000 in
set_option maxHeartbeats 1000000 in
theorem tM_serve {d : Nat} {M : Mem} {Φ : Option Int32 → Mem → Prop} {b w : Nat} {xs : Lots} (hb : b < 4) (hw : w ≤ 50) (hR : RepN M b xs) (h : ∀ M2, RepN M2 b (tk w xs).2 → FrB b M M2 → Φ (some (nI (tk w xs).1)) M2) : JM noRo (d + 1) mX12_serve 0 [some (.ref 62), some (.int (nI b)), some (.int (nI w))] [] M Φ := by
  refine J_iconst (v := 0) dX12_serve_0 (by decide) ?_
  refine J_istore_n dX12_serve_1 (by decide) rfl ?_
  dsimp only [setL]
  exact tM_serve_l (M := M) hb hw xs 0 w M (by omega) trivial hR (by rw [Nat.zero_add]; exact h)

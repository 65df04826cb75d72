/-- the waiting operators, the last one first -/
def WR (f : Nat → Int32) : List Nat → Prop
  | [] => True
  | c :: r => f r.length = nI c ∧ WR f r
theorem WR_upd {f : Nat → Int32} {i : Nat} {x : Int32} : ∀ ws : List Nat, ws.length ≤ i → WR f ws → WR (upd f i x) ws
  | [], _, _ => trivial
  | c :: r, h, hw => by
    rw [List.length_cons] at h
    exact ⟨by rw [updN (by omega)]; exact hw.1, WR_upd r (by omega) hw.2⟩
def dpc : List Nat → Nat
  | [] => 0
  | c :: r => dpc r + (if c = 40 ∨ c = 48 then 1 else 0)
def nop : List Nat → Nat
  | [] => 0
  | c :: r => nop r + (if c = 48 then 0 else 1)
/-- the class's code of an operator of the reference -/
def dec (c : Nat) : Nat := if c = 40 then 18 else if c = 41 then 16 else if c = 42 then 17 else if c = 43 then 61 else if c = 44 then 60 else if c = 45 then 62 else if c = 46 then 43 else 45
def opW (c : Nat) : Prop := 40 ≤ c ∧ c ≤ 48
theorem enc_dec {c : Nat} (h1 : 40 ≤ c) (h2 : c ≤ 47) : enc (dec c) = c ∧ ¬ 100 ≤ dec c := by
  have : c = 40 ∨ c = 41 ∨ c = 42 ∨ c = 43 ∨ c = 44 ∨ c = 45 ∨ c = 46 ∨ c = 47 := by omega
  rcases this with rfl | rfl | rfl | rfl | rfl | rfl | rfl | rfl <;> decide
def TkB (g : Nat → Int32) (w : Int64) (t : Tok) : Prop := g 32 = nI t.2.2.1 ∧ g 31 = srt t.1 ∧ (t.1 ≠ 1 → g 29 = nI t.2.2.2) ∧ (t.1 = 2 → g 33 = nI t.2.1) ∧ (t.1 = 3 ∨ (14 ≤ t.1 ∧ t.1 < 19) → ∃ N, N < 2 ^ 63 ∧ w = Int64.ofNat N ∧ fnd N 19 0 = if t.1 = 3 then t.2.1 else t.1)
def R4 : List Nat := [62, 77, 78, 82]
def SL : List Nat := [23, 24, 27, 28, 29, 31, 32, 33, 34, 36, 37]
/-- the reference's parser at work -/
def PQ (M N : Mem) (n : Nat) (x : PSt) (ws : List Nat) : Prop := (∀ a, a ∉ R4 → N.1 a = M.1 a) ∧ (∀ i, i ∉ SL → N.1 62 i = M.1 62 i) ∧ TkB (N.1 62) (N.2 62) x.1 ∧ TW n x.1 ∧ N.1 62 23 = nI x.2.1.length ∧ (∀ (i : Nat) (c : Nat), x.2.1[i]? = some c → N.1 77 i = nI (enc c) ∧ (100 ≤ c → N.1 78 i = nI (c - 100))) ∧ N.1 62 24 = nI x.2.2 ∧ x.2.2 ≤ 120 ∧ N.1 62 36 = nI ws.length ∧ WR (N.1 82) ws ∧ N.1 62 37 = nI (dpc ws) ∧ N.1 62 27 = 0 ∧ N.1 62 28 = -1 ∧ (∀ c ∈ ws, opW c) ∧ ws.length ≤ 60 ∧ 3 * (x.2.1.length + nop ws) ≤ 6 * x.2.2 + x.1.2.2.2
theorem R4_ne {a : Nat} (h : a ∉ R4) : a ≠ 62 ∧ a ≠ 77 ∧ a ≠ 78 ∧ a ≠ 82 := by
  simp only [R4, List.mem_cons, not_or, List.not_mem_nil, not_false_eq_true, and_true] at h
  omega
theorem PQ.l600 {M N : Mem} {n : Nat} {x : PSt} {ws : List Nat} (hn : n ≤ 1000) (h : PQ M N n x ws) : x.2.1.length + nop ws < 600 := by
  obtain ⟨p1, p2, p3, p4, p5, p6, p7, p8, p9, p10, p11, p12, p13, p14, p15, p16⟩ := h
  have := p4.2.2.1
  omega
set_option maxRecDepth 100000 in
set_option maxHeartbeats 1000000 in
theorem tX12_step {d : Nat} {M : Mem} {Φ : Option Int32 → Mem → Prop} {m : Nat} {a b : Int32} (hm : M.1 62 23 = nI m) (hb : m < 600) (h : Φ none (wr (wr (wr M 77 m a) 78 m b) 62 23 (nI (m + 1)))) : JM noRo d mX12_step 0 [some (.ref 62), some (.int a), some (.int b)] [] M Φ := by
  refine J_aload_n dX12_step_0 rfl ?_
  refine M_getR dX12_step_1 fX12_53 rfl rfl (by decide) ?_
  refine J_aload_n dX12_step_4 rfl ?_
  refine M_getI dX12_step_5 fX12_220 rfl rfl (by decide) ?_
  refine J_iload_n dX12_step_8 rfl ?_
  refine M_iastE dX12_step_9 rfl (by decide) hm (by omega) ?_
  refine J_aload_n dX12_step_10 rfl ?_
  refine M_getR dX12_step_11 fX12_56 rfl rfl (by decide) ?_
  refine J_aload_n dX12_step_14 rfl ?_
  refine M_getI dX12_step_15 fX12_220 rfl rfl (by decide) ?_
  refine J_iload_n dX12_step_18 rfl ?_
  refine M_iastE dX12_step_19 rfl (by decide) (by rw [rd2 (by decide)]; exact hm) (by omega) ?_
  refine J_aload_n dX12_step_20 rfl ?_
  refine J_dup dX12_step_21 rfl ?_
  refine M_getI dX12_step_22 fX12_220 rfl rfl (by decide) ?_
  rw [rd2 (by decide), rd2 (by decide), hm]
  refine J_iconst (v := 1) dX12_step_25 (by decide) ?_
  refine J_iadd dX12_step_26 ?_
  rw [nI_1]
  refine M_putI dX12_step_27 pX12_220 rfl rfl (by decide) ?_
  refine M_vret dX12_step_30 rfl ?_
  exact h
theorem PQ.step {M N : Mem} {n c : Nat} {x : PSt} {ws : List Nat} {b : Int32} {ops : Nat} (h : PQ M N n x ws) (hc : 100 ≤ c → b = nI (c - 100)) (ho : ops ≤ 120) (ws2 : List Nat) (hw : WR (N.1 82) ws2) (hl : ws2.length ≤ 60) (ho2 : ∀ c ∈ ws2, opW c) (hb : 3 * (x.2.1.length + 1 + nop ws2) ≤ 6 * ops + x.1.2.2.2) : PQ M (wr (wr (wr (wr (wr (wr N 62 36 (nI ws2.length)) 62 37 (nI (dpc ws2))) 62 24 (nI ops)) 77 x.2.1.length (nI (enc c))) 78 x.2.1.length b) 62 23 (nI (x.2.1.length + 1))) n (x.1, x.2.1 ++ [c], ops) ws2 := by
  obtain ⟨p1, p2, p3, p4, p5, p6, p7, p8, p9, p10, p11, p12, p13, p14, p15, p16⟩ := h
  have e62 : ∀ i, i ≠ 23 → i ≠ 24 → i ≠ 36 → i ≠ 37 → (wr (wr (wr (wr (wr (wr N 62 36 (nI ws2.length)) 62 37 (nI (dpc ws2))) 62 24 (nI ops)) 77 x.2.1.length (nI (enc c))) 78 x.2.1.length b) 62 23 (nI (x.2.1.length + 1))).1 62 i = N.1 62 i := fun i q1 q2 q3 q4 => by rw [rd3 q1, rd2 (by decide), rd2 (by decide), rd3 q2, rd3 q4, rd3 q3]
  refine ⟨fun a ha => ?_, fun i hi => ?_, ?_, p4, ?_, fun i q hi => ?_, ?_, ho, ?_, ?_, ?_, ?_, ?_, ho2, hl, ?_⟩
  · obtain ⟨q1, q2, q3, q4⟩ := R4_ne ha
    rw [rd2 q1, rd2 q3, rd2 q2, rd2 q1, rd2 q1, rd2 q1]; exact p1 a ha
  · have hi2 := hi
    simp only [SL, List.mem_cons, not_or, List.not_mem_nil, not_false_eq_true, and_true] at hi
    rw [e62 i hi.1 hi.2.1 hi.2.2.2.2.2.2.2.2.2.1 hi.2.2.2.2.2.2.2.2.2.2]; exact p2 i hi2
  · refine ⟨?_, ?_, fun q => ?_, fun q => ?_, p3.2.2.2.2⟩
    · rw [e62 32 (by decide) (by decide) (by decide) (by decide)]; exact p3.1
    · rw [e62 31 (by decide) (by decide) (by decide) (by decide)]; exact p3.2.1
    · rw [e62 29 (by decide) (by decide) (by decide) (by decide)]; exact p3.2.2.1 q
    · rw [e62 33 (by decide) (by decide) (by decide) (by decide)]; exact p3.2.2.2.1 q
  · rw [rd1]; simp
  · rw [rd2 (by decide), rd2 (by decide)]
    by_cases e : i = x.2.1.length
    · subst e
      have e2 : q = c := by simpa using hi.symm
      subst e2
      refine ⟨rd1, fun hq => ?_⟩
      rw [rd2 (by decide), rd1]; exact hc hq
    · have hl2 : i < (x.2.1 ++ [c]).length := (List.getElem?_eq_some_iff.mp hi).1
      rw [List.length_append, List.length_singleton] at hl2
      have hi2 : x.2.1[i]? = some q := by
        rw [← List.getElem?_append_left (l₂ := [c]) (by omega)]
        exact hi
      have z := p6 i q hi2
      rw [rd3 e, rd2 (by decide), rd2 (by decide), rd2 (by decide)]
      refine ⟨z.1, fun hq => ?_⟩
      rw [rd2 (by decide), rd3 e, rd2 (by decide), rd2 (by decide), rd2 (by decide), rd2 (by decide)]; exact z.2 hq
  · rw [rd3 (by decide), rd2 (by decide), rd2 (by decide), rd1]
  · rw [rd3 (by decide), rd2 (by decide), rd2 (by decide), rd3 (by decide), rd3 (by decide), rd1]
  · rw [rd2 (by decide), rd2 (by decide), rd2 (by decide), rd2 (by decide), rd2 (by decide), rd2 (by decide)]; exact hw
  · rw [rd3 (by decide), rd2 (by decide), rd2 (by decide), rd3 (by decide), rd1]
  · rw [e62 27 (by decide) (by decide) (by decide) (by decide)]; exact p12
  · rw [e62 28 (by decide) (by decide) (by decide) (by decide)]; exact p13
  · show 3 * ((x.2.1 ++ [c]).length + nop ws2) ≤ _
    rw [List.length_append, List.length_singleton]; exact hb

def bitI (x : Int32) (i : Nat) : Bool := x.toBitVec.getLsbD i
def gvI (p q : Bool) : Int32 := if p then (if q then 3 else 1) else (if q then 2 else 0)
theorem bv3 (y : BitVec 32) (p q : Bool) (h0 : y.getLsbD 0 = p) (h1 : y.getLsbD 1 = q) : y &&& 3#32 = (gvI p q).toBitVec := by
  apply BitVec.eq_of_getLsbD_eq
  intro i hi
  rw [BitVec.getLsbD_and]
  match i, hi with
  | 0, _ => rw [h0]; cases p <;> cases q <;> decide
  | 1, _ => rw [h1]; cases p <;> cases q <;> decide
  | i + 2, hi =>
    have e3 : (3#32).getLsbD (i + 2) = false := by
      rw [BitVec.getLsbD_ofNat]
      have : Nat.testBit 3 (i + 2) = false := by
        rw [Nat.testBit_succ, Nat.testBit_succ]; simp
      rw [this]; simp
    rw [e3, Bool.and_false]
    have hz : ∀ v : BitVec 32, v.toNat < 4 → v.getLsbD (i + 2) = false := fun v hv => by
      show v.toNat.testBit (i+2) = false
      apply Nat.testBit_lt_two_pow
      calc v.toNat < 4 := hv
        _ = 2 ^ 2 := rfl
        _ ≤ 2 ^ (i + 2) := Nat.pow_le_pow_right (by decide) (by omega)
    rw [hz _ (by cases p <;> cases q <;> decide)]
theorem g_sh {x y : Int32} {k : Nat} (h : (y.toBitVec.smod 32) = BitVec.ofNat 32 k) (hk : k < 31) (i : Nat) (hi : i < 2) : (x >>> y).toBitVec.getLsbD i = bitI x (k + i) := by
  rw [Int32.toBitVec_shiftRight, h, BitVec.sshiftRight_eq', BitVec.getLsbD_sshiftRight, BitVec.toNat_ofNat, Nat.mod_eq_of_lt (by omega), if_pos (by omega)]
  have : decide (32 ≤ i) = false := decide_eq_false (by omega)
  rw [this]
  rfl
theorem g_rd {x y : Int32} {k : Nat} (h : (y.toBitVec.smod 32) = BitVec.ofNat 32 k) (hk : k < 31) : (x >>> y) &&& 3 = gvI (bitI x k) (bitI x (k + 1)) := by
  apply Int32.toBitVec_inj.mp
  rw [Int32.toBitVec_and]
  exact bv3 _ _ _ (g_sh h hk 0 (by decide)) (g_sh h hk 1 (by decide))
theorem g_read {x : Int32} {o : Nat} (ho : o < 12) : (x >>> (2 * nI o &&& 31)) &&& 3 = gvI (bitI x (2 * o)) (bitI x (2 * o + 1)) := by
  match o, ho with
  | 0, _ => exact g_rd (k := 0) (by decide) (by decide)
  | 1, _ => exact g_rd (k := 2) (by decide) (by decide)
  | 2, _ => exact g_rd (k := 4) (by decide) (by decide)
  | 3, _ => exact g_rd (k := 6) (by decide) (by decide)
  | 4, _ => exact g_rd (k := 8) (by decide) (by decide)
  | 5, _ => exact g_rd (k := 10) (by decide) (by decide)
  | 6, _ => exact g_rd (k := 12) (by decide) (by decide)
  | 7, _ => exact g_rd (k := 14) (by decide) (by decide)
  | 8, _ => exact g_rd (k := 16) (by decide) (by decide)
  | 9, _ => exact g_rd (k := 18) (by decide) (by decide)
  | 10, _ => exact g_rd (k := 20) (by decide) (by decide)
  | 11, _ => exact g_rd (k := 22) (by decide) (by decide)
  | o + 12, q => exact absurd q (by omega)
theorem g_orb {x y : Int32} {i : Nat} : bitI (x ||| y) i = (bitI x i || bitI y i) := by
  unfold bitI
  rw [Int32.toBitVec_or, BitVec.getLsbD_or]
theorem g_s1 {o : Nat} (ho : o < 12) : ∀ i, i < 32 → bitI ((1 : Int32) <<< (2 * nI o &&& 31)) i = decide (i = 2 * o) := by
  match o, ho with
  | 0, _ => decide
  | 1, _ => decide
  | 2, _ => decide
  | 3, _ => decide
  | 4, _ => decide
  | 5, _ => decide
  | 6, _ => decide
  | 7, _ => decide
  | 8, _ => decide
  | 9, _ => decide
  | 10, _ => decide
  | 11, _ => decide
  | o + 12, q => exact absurd q (by omega)
theorem g_s2 {o : Nat} (ho : o < 12) : ∀ i, i < 32 → bitI ((2 : Int32) <<< (2 * nI o &&& 31)) i = decide (i = 2 * o + 1) := by
  match o, ho with
  | 0, _ => decide
  | 1, _ => decide
  | 2, _ => decide
  | 3, _ => decide
  | 4, _ => decide
  | 5, _ => decide
  | 6, _ => decide
  | 7, _ => decide
  | 8, _ => decide
  | 9, _ => decide
  | 10, _ => decide
  | 11, _ => decide
  | o + 12, q => exact absurd q (by omega)
/-- what is kept of a pair's meeting in two bits -/
def grpOK (x : Int32) (o : Nat) (b : Bool) : Prop := (bitI x (2 * o) = false ∧ bitI x (2 * o + 1) = false) ∨ (bitI x (2 * o) = b ∧ bitI x (2 * o + 1) = !b)
theorem grp_0 {o : Nat} {b : Bool} : grpOK 0 o b := Or.inl ⟨by simp [bitI], by simp [bitI]⟩
theorem grp_or {x : Int32} {o k : Nat} {b c : Bool} {v : Int32} (ho : o < 12) (hk : k < 12) (h : grpOK x k c) (h0 : bitI x (2 * o) = false ∧ bitI x (2 * o + 1) = false) (hv : v = if b = true then 1 else 2) (hc : k = o → c = b) : grpOK (x ||| (v <<< (2 * nI o &&& 31))) k c := by
  cases b with
  | true =>
    rw [if_pos rfl] at hv
    subst hv
    by_cases e : k = o
    · subst e
      rw [hc rfl]
      right
      rw [g_orb, g_orb, g_s1 ho _ (by omega), g_s1 ho _ (by omega), h0.1, h0.2]
      exact ⟨by simp, by simp⟩
    · unfold grpOK
      rw [g_orb, g_orb, g_s1 ho _ (by omega), g_s1 ho _ (by omega), decide_eq_false (by omega), decide_eq_false (by omega), Bool.or_false, Bool.or_false]
      exact h
  | false =>
    rw [if_neg (by decide)] at hv
    subst hv
    by_cases e : k = o
    · subst e
      rw [hc rfl]
      right
      rw [g_orb, g_orb, g_s2 ho _ (by omega), g_s2 ho _ (by omega), h0.1, h0.2]
      exact ⟨by simp, by simp⟩
    · unfold grpOK
      rw [g_orb, g_orb, g_s2 ho _ (by omega), g_s2 ho _ (by omega), decide_eq_false (by omega), decide_eq_false (by omega), Bool.or_false, Bool.or_false]
      exact h
/-- the search for a plan; a place is 0 or the spot and one -/
def pset (p : Nat → Nat) (h v : Nat) : Nat → Nat := fun i => if i = h then v else p i
theorem pset_s {p : Nat → Nat} {h v : Nat} : pset p h v h = v := if_pos rfl
theorem pset_n {p : Nat → Nat} {h v i : Nat} (q : i ≠ h) : pset p h v i = p i := if_neg q
abbrev Res := Nat × (Nat → Nat) × Nat
def lpS (rec : (Nat → Nat) → Nat → Res) (ft : (Nat → Nat) → Nat → Bool) (h : Nat) : Nat → Nat → (Nat → Nat) → Nat → Res
  | 0, _, p, t => (0, p, t)
  | l + 1, s, p, t => if 20000 ≤ t then (2, p, t) else if ft p s = true then (if (rec (pset p h (s + 1)) (t + 1)).1 = 0 then lpS rec ft h l (s + 1) (pset (rec (pset p h (s + 1)) (t + 1)).2.1 h 0) (rec (pset p h (s + 1)) (t + 1)).2.2 else rec (pset p h (s + 1)) (t + 1)) else lpS rec ft h l (s + 1) p (t + 1)
def plc (lm : Nat → Int32) (ft : (Nat → Nat) → Nat → Nat → Bool) : Nat → Nat → (Nat → Nat) → Nat → Res
  | 0, _, p, t => (1, p, t)
  | k + 1, h, p, t => if lm h = 0 then lpS (plc lm ft k (h + 1)) (fun p s => ft p h s) h 24 0 p t else plc lm ft k (h + 1) p t
def rvI (r : Nat) : Int32 := if r = 0 then 0 else if r = 1 then 1 else -2
/-- what holds of every road of the search: entries below h stay, places are places, the count is kept -/
def SOK (h : Nat) (p : Nat → Nat) (r : Res) : Prop := (∀ j, j < h → r.2.1 j = p j) ∧ (∀ j, r.2.1 j ≤ 24) ∧ r.2.2 ≤ 20000 ∧ (r.1 = 0 → ∀ j, h ≤ j → r.2.1 j = 0) ∧ r.1 ≤ 2
theorem lpS_ok {rec : (Nat → Nat) → Nat → Res} {ft : (Nat → Nat) → Nat → Bool} {h : Nat} (hr : ∀ p t, (∀ j, p j ≤ 24) → t ≤ 20000 → (∀ j, h + 1 ≤ j → p j = 0) → SOK (h + 1) p (rec p t)) : ∀ l s p t, s + l = 24 → (∀ j, p j ≤ 24) → t ≤ 20000 → (∀ j, h ≤ j → p j = 0) → SOK h p (lpS rec ft h l s p t)
  | 0, s, p, t, _, hp, ht, hz => ⟨fun _ _ => rfl, hp, ht, fun _ => hz, by show 0 ≤ 2; omega⟩
  | l + 1, s, p, t, hs, hp, ht, hz => by
    rw [lpS]
    by_cases h1 : 20000 ≤ t
    · rw [if_pos h1]
      exact ⟨fun _ _ => rfl, hp, ht, fun q => absurd q (by show ¬ 2 = 0; omega), by show 2 ≤ 2; omega⟩
    · rw [if_neg h1]
      by_cases h2 : ft p s = true
      · rw [if_pos h2]
        have z := hr (pset p h (s + 1)) (t + 1) (fun j => by
          by_cases e : j = h
          · rw [e, pset_s]; omega
          · rw [pset_n e]; exact hp j) (by omega) (fun j hj => by rw [pset_n (by omega)]; exact hz j (by omega))
        by_cases h3 : (rec (pset p h (s + 1)) (t + 1)).1 = 0
        · rw [if_pos h3]
          have y := lpS_ok (ft := ft) hr l (s + 1) (pset (rec (pset p h (s + 1)) (t + 1)).2.1 h 0) (rec (pset p h (s + 1)) (t + 1)).2.2 (by omega) (fun j => by
            by_cases e : j = h
            · rw [e, pset_s]; omega
            · rw [pset_n e]; exact z.2.1 j) z.2.2.1 (fun j hj => by
            by_cases e : j = h
            · rw [e, pset_s]
            · rw [pset_n e]; exact z.2.2.2.1 h3 j (by omega))
          refine ⟨fun j hj => ?_, y.2⟩
          rw [y.1 j hj, pset_n (by omega), z.1 j (by omega), pset_n (by omega)]
        · rw [if_neg h3]
          exact ⟨fun j hj => by rw [z.1 j (by omega), pset_n (by omega)], z.2.1, z.2.2.1, fun q => absurd q h3, z.2.2.2.2⟩
      · rw [if_neg h2]
        exact lpS_ok hr l (s + 1) p (t + 1) (by omega) hp (by omega) hz
theorem plc_ok {lm : Nat → Int32} {ft : (Nat → Nat) → Nat → Nat → Bool} : ∀ k h p t, (∀ j, p j ≤ 24) → t ≤ 20000 → (∀ j, h ≤ j → p j = 0) → SOK h p (plc lm ft k h p t)
  | 0, h, p, t, hp, ht, hz => ⟨fun _ _ => rfl, hp, ht, fun _ => hz, by show 1 ≤ 2; omega⟩
  | k + 1, h, p, t, hp, ht, hz => by
    rw [plc]
    by_cases h1 : lm h = 0
    · rw [if_pos h1]
      exact lpS_ok (fun p t a b c => plc_ok k (h + 1) p t a b c) 24 0 p t (by omega) hp ht hz
    · rw [if_neg h1]
      have y := plc_ok (lm := lm) (ft := ft) k (h + 1) p t hp ht (fun j hj => hz j (by omega))
      refine ⟨fun j hj => y.1 j (by omega), y.2.1, y.2.2.1, fun q j hj => ?_, y.2.2.2.2⟩
      by_cases e : j = h
      · rw [e, y.1 h (by omega)]; exact hz h (by omega)
      · exact y.2.2.2.1 q j (by omega)
/-- how many of the horses before stand at this spot; whether all of them may be met -/
def cntP (p : Nat → Nat) (s : Nat) : Nat → Nat
  | 0 => 0
  | k + 1 => cntP p s k + (if p k = s + 1 then 1 else 0)
def mtP (mt : Nat → Nat → Bool) (p : Nat → Nat) (s : Nat) : Nat → Nat → Bool
  | 0, _ => true
  | l + 1, k => if p k ≠ 0 ∧ (p k - 1) / 6 = s / 6 ∧ mt k ((p k - 1) % 6) = false then false else mtP mt p s l (k + 1)
theorem mtP_0 {mt : Nat → Nat → Bool} {p : Nat → Nat} {s l k : Nat} (h : p k = 0) : mtP mt p s (l + 1) k = mtP mt p s l (k + 1) := by rw [mtP, if_neg (fun q => q.1 h)]
theorem mtP_1 {mt : Nat → Nat → Bool} {p : Nat → Nat} {s l k : Nat} (h : ¬ (p k - 1) / 6 = s / 6) : mtP mt p s (l + 1) k = mtP mt p s l (k + 1) := by rw [mtP, if_neg (fun q => h q.2.1)]
theorem mtP_2 {mt : Nat → Nat → Bool} {p : Nat → Nat} {s l k : Nat} (h : mt k ((p k - 1) % 6) = true) : mtP mt p s (l + 1) k = mtP mt p s l (k + 1) := by rw [mtP, if_neg (fun q => absurd (h.symm.trans q.2.2) (by decide))]
theorem mtP_3 {mt : Nat → Nat → Bool} {p : Nat → Nat} {s l k : Nat} (h0 : p k ≠ 0) (h1 : (p k - 1) / 6 = s / 6) (h : mt k ((p k - 1) % 6) = false) : mtP mt p s (l + 1) k = false := by rw [mtP, if_pos ⟨h0, h1, h⟩]
theorem cnt_mono {p : Nat → Nat} {s : Nat} : ∀ l k, cntP p s k ≤ cntP p s (k + l)
  | 0, k => Nat.le_refl _
  | l + 1, k => by
    have := cnt_mono (p := p) (s := s) l k
    rw [← Nat.add_assoc, cntP]
    omega
theorem cnt_le {p : Nat → Nat} {s : Nat} : ∀ k, cntP p s k ≤ k
  | 0 => Nat.le_refl _
  | k + 1 => by
    have := cnt_le (p := p) (s := s) k
    rw [cntP]
    split <;> omega
def ftB (M : Mem) (C st : Nat → Nat) (m : Nat) (p : Nat → Nat) (h s : Nat) : Bool := mayB M C st m h (s % 6) (s / 6) && (decide (nI (cntP p s h) < M.1 69 (s % 6)) && mtP (fun k f => meetB M C st m h (s % 6) k f (s / 6)) p s h 0)
def plcM (M : Mem) (C st : Nat → Nat) (m n : Nat) : Res := plc (M.1 66) (ftB M C st m) n 0 (fun _ => 0) 0

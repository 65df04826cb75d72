theorem rd1 {M : Mem} {k j : Nat} {x : Int32} : (wr M k j x).1 k j = x := by simp [wr, upd]
theorem rd2 {M : Mem} {k j a : Nat} {x : Int32} (h : a ≠ k) : (wr M k j x).1 a = M.1 a := by simp [wr, h]
theorem rd3 {M : Mem} {k j b : Nat} {x : Int32} (h : b ≠ j) : (wr M k j x).1 k b = M.1 k b := by simp [wr, upd, h]
theorem rdu {M : Mem} {k j : Nat} {x : Int32} : (wr M k j x).1 k = upd (M.1 k) j x := by simp [wr]
theorem rda {M : Mem} {k : Nat} {f : Nat → Int32} : (wa M k f).1 k = f := by simp [wa]
theorem rdb {M : Mem} {k a : Nat} {f : Nat → Int32} (h : a ≠ k) : (wa M k f).1 a = M.1 a := by simp [wa, h]
theorem rdl {M : Mem} {k j : Nat} {x : Int32} : (wr M k j x).2 = M.2 := rfl
theorem rdm {M : Mem} {k : Nat} {f : Nat → Int32} : (wa M k f).2 = M.2 := rfl
theorem rdn {M : Mem} {k : Nat} {x : Int64} : (wl M k x).1 = M.1 := rfl
theorem rdo {M : Mem} {k : Nat} {x : Int64} : (wl M k x).2 k = x := by simp [wl]
theorem Mem_ext {M N : Mem} (h1 : ∀ a, M.1 a = N.1 a) (h2 : M.2 = N.2) : M = N := Prod.ext (funext h1) h2
theorem wr_wr {M : Mem} {k j : Nat} {x y : Int32} : wr (wr M k j x) k j y = wr M k j y := by
  refine Mem_ext (fun a => ?_) rfl
  by_cases h : a = k
  · subst h
    funext b
    by_cases hb : b = j <;> simp [wr, upd, hb]
  · simp [wr, h]
theorem wr_comm {M : Mem} {k j k2 j2 : Nat} {x y : Int32} (h : k ≠ k2) : wr (wr M k j x) k2 j2 y = wr (wr M k2 j2 y) k j x := by
  refine Mem_ext (fun a => ?_) rfl
  by_cases h1 : a = k
  · subst h1
    simp [wr, h]
  · by_cases h2 : a = k2
    · subst h2
      simp [wr, h1, Ne.symm h]
    · simp [wr, h1, h2]
theorem wa_wa {M : Mem} {k : Nat} {f g : Nat → Int32} : wa (wa M k f) k g = wa M k g := by
  refine Mem_ext (fun a => ?_) rfl
  by_cases h : a = k <;> simp [wa, h]
theorem wa_self {M : Mem} {k : Nat} : wa M k (M.1 k) = M := by
  refine Mem_ext (fun a => ?_) rfl
  by_cases h : a = k <;> simp [wa, h]
theorem wr_self {M : Mem} {k j : Nat} : wr M k j (M.1 k j) = M := by
  refine Mem_ext (fun a => ?_) rfl
  by_cases h : a = k
  · subst h
    funext b
    by_cases hb : b = j <;> simp [wr, upd, hb]
  · simp [wr, h]
section JME
variable {Ro : ROs} {d : Nat} {md : MD} {pc k n i : Nat} {ls : List (Option Value)} {st : List Value} {M : Mem} {Φ : Option Int32 → Mem → Prop} {x y : Int32}
theorem M_ialdE (hd : decode md.2.1 pc = .ok (.iaload, 1)) (hs : SK k = .inr (.inl (0, n))) (hk : k < NC ∧ n ≤ 100000) (he : x = nI i) (hi : i < n) (kk : JM Ro d md (pc + 1) ls (.int (M.1 k i) :: st) M Φ) : JM Ro d md pc ls (.int x :: .ref k :: st) M Φ := by
  subst he
  refine M_iald hd hs hk.1 (vp_in_nI hi (by omega)) ?_
  rw [nI_clamp (by omega)]
  exact kk
theorem M_zaldE (hd : decode md.2.1 pc = .ok (.baload, 1)) (hs : SK k = .inr (.inl (1, n))) (hk : k < NC ∧ n ≤ 100000) (he : x = nI i) (hi : i < n) (kk : JM Ro d md (pc + 1) ls (.int (M.1 k i) :: st) M Φ) : JM Ro d md pc ls (.int x :: .ref k :: st) M Φ := by
  subst he
  refine M_zald hd hs hk.1 (vp_in_nI hi (by omega)) ?_
  rw [nI_clamp (by omega)]
  exact kk
theorem M_iastE (hd : decode md.2.1 pc = .ok (.iastore, 1)) (hs : SK k = .inr (.inl (0, n))) (hk : k < NC ∧ n ≤ 100000) (he : x = nI i) (hi : i < n) (kk : JM Ro d md (pc + 1) ls st (wr M k i y) Φ) : JM Ro d md pc ls (.int y :: .int x :: .ref k :: st) M Φ := by
  subst he
  refine M_iast hd hs hk.1 (vp_in_nI hi (by omega)) ?_
  rw [nI_clamp (by omega)]
  exact kk
theorem M_zastE (hd : decode md.2.1 pc = .ok (.bastore, 1)) (hs : SK k = .inr (.inl (1, n))) (hk : k < NC ∧ n ≤ 100000) (he : x = nI i) (hi : i < n) (hy : y = 0 ∨ y = 1) (kk : JM Ro d md (pc + 1) ls st (wr M k i y) Φ) : JM Ro d md pc ls (.int y :: .int x :: .ref k :: st) M Φ := by
  subst he
  refine M_zast hd hs hk.1 (vp_in_nI hi (by omega)) hy ?_
  rw [nI_clamp (by omega)]
  exact kk
theorem M_aaldE (hd : decode md.2.1 pc = .ok (.aaload, 1)) (hk : k = 33) (he : x = nI i) (hi : i < 4) (kk : JM Ro d md (pc + 1) ls (.ref (34 + 4 * i) :: st) M Φ) : JM Ro d md pc ls (.int x :: .ref k :: st) M Φ := by
  subst he
  subst hk
  refine M_aald hd (f := fun i => if i < 4 then some (34 + 4 * i) else none) rfl (by decide) (vp_in_nI hi (by omega)) ?_ kk
  rw [nI_clamp (by omega), if_pos hi]
end JME
theorem ixm (h c b : Nat) : nI h * nI c + nI b = nI (h * c + b) := by rw [pk_mul, nI_add]
theorem ixm2 (h c b : Nat) : nI c * nI h + nI b = nI (c * h + b) := by rw [pk_mul, nI_add]

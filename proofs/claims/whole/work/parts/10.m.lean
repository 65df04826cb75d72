abbrev Mem : Type := (Nat → Nat → Int32) × (Nat → Int64)
abbrev SKE : Type := (Nat × List Nat) ⊕ (Nat × Nat) ⊕ (Nat × (Nat → Option Nat))
def SK (k : Nat) : SKE := if k < 102 then (if k < 51 then (if k < 25 then (if k < 12 then (if k < 6 then (if k < 3 then (if k < 1 then (.inl (11, [3, 10, 15, 17, 22, 27, 29, 31, 35, 52, 53, 57, 0])) else (if k < 2 then (.inl (1, [4, 5, 6, 7, 8, 9, 0])) else (.inr (.inl (0, 12))))) else (if k < 4 then (.inr (.inl (0, 12))) else (if k < 5 then (.inr (.inl (0, 12))) else (.inr (.inl (1, 12)))))) else (if k < 9 then (if k < 7 then (.inr (.inl (0, 48))) else (if k < 8 then (.inr (.inl (0, 12))) else (.inl (3, [11, 12, 13, 14])))) else (if k < 10 then (.inr (.inl (0, 6))) else (if k < 11 then (.inr (.inl (0, 6))) else (.inr (.inl (0, 6))))))) else (if k < 18 then (if k < 15 then (if k < 13 then (.inr (.inl (1, 36))) else (if k < 14 then (.inl (8, [16, 0])) else (.inr (.inl (0, 1000))))) else (if k < 16 then (.inl (7, [18, 19, 20, 21, 0, 0])) else (if k < 17 then (.inr (.inl (0, 1000))) else (.inr (.inl (0, 13)))))) else (if k < 21 then (if k < 19 then (.inr (.inl (1, 12))) else (if k < 20 then (.inr (.inl (0, 40))) else (.inl (7, [23, 24, 25, 26, 0, 0])))) else (if k < 23 then (if k < 22 then (.inr (.inl (0, 1000))) else (.inr (.inl (0, 13)))) else (if k < 24 then (.inr (.inl (1, 12))) else (.inr (.inl (0, 40)))))))) else (if k < 38 then (if k < 31 then (if k < 28 then (if k < 26 then (.inl (5, [28, 17, 0, 0, 0, 0])) else (if k < 27 then (.inl (9, [15, 0, 0, 0, 0])) else (.inl (2, [3, 10, 22, 30])))) else (if k < 29 then (.inr (.inl (0, 14))) else (if k < 30 then (.inl (6, [3, 10, 29, 32, 33, 34, 0, 0, 0])) else (.inr (.inl (0, 12)))))) else (if k < 34 then (if k < 32 then (.inr (.inl (0, 288))) else (if k < 33 then (.inr (.inl (0, 1728))) else (.inr (.inr (4, fun i => if i < 4 then some (34 + 4 * i) else none))))) else (if k < 36 then (if k < 35 then (.inl (0, [37, 38, 39, 0, 0])) else (.inr (.inl (0, 20)))) else (if k < 37 then (.inr (.inl (0, 20))) else (.inr (.inl (0, 20))))))) else (if k < 44 then (if k < 41 then (if k < 39 then (.inl (0, [41, 42, 43, 0, 0])) else (if k < 40 then (.inr (.inl (0, 20))) else (.inr (.inl (0, 20))))) else (if k < 42 then (.inr (.inl (0, 20))) else (if k < 43 then (.inl (0, [45, 46, 47, 0, 0])) else (.inr (.inl (0, 20)))))) else (if k < 47 then (if k < 45 then (.inr (.inl (0, 20))) else (if k < 46 then (.inr (.inl (0, 20))) else (.inl (0, [49, 50, 51, 0, 0])))) else (if k < 49 then (if k < 48 then (.inr (.inl (0, 20))) else (.inr (.inl (0, 20)))) else (if k < 50 then (.inr (.inl (0, 20))) else (.inr (.inl (0, 8))))))))) else (if k < 76 then (if k < 63 then (if k < 57 then (if k < 54 then (if k < 52 then (.inl (4, [54, 55, 56, 0])) else (if k < 53 then (.inr (.inl (0, 2000))) else (.inr (.inl (0, 2000))))) else (if k < 55 then (.inr (.inl (0, 2000))) else (if k < 56 then (.inl (10, [58, 59, 60, 61, 62, 63, 0])) else (.inr (.inl (0, 200)))))) else (if k < 60 then (if k < 58 then (.inr (.inl (0, 200))) else (if k < 59 then (.inr (.inl (0, 200))) else (.inr (.inl (0, 200))))) else (if k < 61 then (.inr (.inl (0, 36))) else (if k < 62 then (.inr (.inl (0, 3))) else (.inl (12, [0, 0, 65, 66, 67, 68, 69, 70, 71, 72, 73, 74, 0, 75, 76, 77, 78, 0, 79, 80, 81, 82, 0, 0, 0, 83, 0, 0, 0, 0, 0, 0, 0, 0, 1, 84, 0, 0, 85, 86, 87, 88, 0, 89, 90, 91, 92, 93, 94, 0, 0, 95, 96, 97, 98, 99, 100, 101, 102, 103])))))) else (if k < 69 then (if k < 66 then (if k < 64 then (.inr (.inl (0, 12))) else (if k < 65 then (.inr (.inl (0, 12))) else (.inr (.inl (0, 12))))) else (if k < 67 then (.inr (.inl (0, 12))) else (if k < 68 then (.inr (.inl (0, 12))) else (.inr (.inl (0, 48)))))) else (if k < 72 then (if k < 70 then (.inr (.inl (0, 6))) else (if k < 71 then (.inr (.inl (0, 6))) else (.inr (.inl (0, 6))))) else (if k < 74 then (if k < 73 then (.inr (.inl (1, 36))) else (.inr (.inl (0, 600)))) else (if k < 75 then (.inr (.inl (0, 600))) else (.inr (.inl (0, 13)))))))) else (if k < 89 then (if k < 82 then (if k < 79 then (if k < 77 then (.inr (.inl (1, 12))) else (if k < 78 then (.inr (.inl (0, 600))) else (.inr (.inl (0, 600))))) else (if k < 80 then (.inr (.inl (0, 13))) else (if k < 81 then (.inr (.inl (1, 12))) else (.inr (.inl (0, 1000)))))) else (if k < 85 then (if k < 83 then (.inr (.inl (0, 400))) else (if k < 84 then (.inr (.inl (0, 400))) else (.inr (.inl (0, 14))))) else (if k < 87 then (if k < 86 then (.inr (.inl (0, 12))) else (.inr (.inl (0, 12)))) else (if k < 88 then (.inr (.inl (0, 4))) else (.inr (.inl (0, 80))))))) else (if k < 95 then (if k < 92 then (if k < 90 then (.inr (.inl (0, 80))) else (if k < 91 then (.inr (.inl (0, 4))) else (.inr (.inl (0, 8))))) else (if k < 93 then (.inr (.inl (0, 3))) else (if k < 94 then (.inr (.inl (0, 2000))) else (.inr (.inl (0, 2000)))))) else (if k < 98 then (if k < 96 then (.inr (.inl (0, 2000))) else (if k < 97 then (.inr (.inl (0, 200))) else (.inr (.inl (0, 200))))) else (if k < 100 then (if k < 99 then (.inr (.inl (0, 200))) else (.inr (.inl (0, 200)))) else (if k < 101 then (.inr (.inl (0, 200))) else (.inr (.inl (0, 20)))))))))) else .inr (.inl (9, 0))
def NC : Nat := 102
def fv (M : Mem) (k j : Nat) (t : Nat) : Value := match t with
  | 0 => .int (M.1 k j)
  | 1 => .long (M.2 k)
  | r + 2 => .ref r
def fvs (M : Mem) (k : Nat) : Nat → List Nat → List Value
  | _, [] => []
  | j, t :: r => fv M k j t :: fvs M k (j + 1) r
def HSE (M : Mem) (k : Nat) (e : SKE) : va_E := match e with
  | .inl (ci, fl) => .inr (ci, fvs M k 0 fl)
  | .inr (.inl (t, n)) => .inl (t, n, .inl (M.1 k))
  | .inr (.inr (n, f)) => .inl (2, n, .inr (.inr (.inr (.inr f))))
def HS (M : Mem) : Nat → va_E := fun k => HSE M k (SK k)
def wr (M : Mem) (k j : Nat) (x : Int32) : Mem := (fun a => if a = k then upd (M.1 k) j x else M.1 a, M.2)
def wa (M : Mem) (k : Nat) (f : Nat → Int32) : Mem := (fun a => if a = k then f else M.1 a, M.2)
def wl (M : Mem) (k : Nat) (x : Int64) : Mem := (M.1, fun a => if a = k then x else M.2 a)
theorem wr_wa (M : Mem) (k j : Nat) (x : Int32) : wr M k j x = wa M k (upd (M.1 k) j x) := rfl
theorem fvs_at (M : Mem) (k : Nat) : ∀ (fl : List Nat) (i n : Nat), (fvs M k i fl)[n]? = (fl[n]?).map (fun t => fv M k (i + n) t)
  | [], i, n => by simp [fvs]
  | t :: r, i, 0 => by simp [fvs]
  | t :: r, i, n + 1 => by
    have := fvs_at M k r (i + 1) n
    simp only [fvs, List.getElem?_cons_succ]
    rw [this]
    have e : i + 1 + n = i + (n + 1) := by omega
    rw [e]
theorem fvs_len (M : Mem) (k : Nat) : ∀ (fl : List Nat) (i : Nat), (fvs M k i fl).length = fl.length
  | [], i => rfl
  | t :: r, i => by simp [fvs, fvs_len M k r (i + 1)]
theorem HSE_cong {M M2 : Mem} {k : Nat} (h1 : M.1 k = M2.1 k) (h2 : M.2 k = M2.2 k) (e : SKE) : HSE M k e = HSE M2 k e := by
  rcases e with ⟨ci, fl⟩ | ⟨t, n⟩ | ⟨n, f⟩
  · have : fvs M k 0 fl = fvs M2 k 0 fl := by
      apply List.ext_getElem?
      intro i
      rw [fvs_at, fvs_at]
      cases fl[i]? with
      | none => rfl
      | some t =>
        match t with
        | 0 => simp [fv, h1]
        | 1 => simp [fv, h2]
        | r + 2 => simp [fv]
    simp only [HSE, this]
  · simp only [HSE, h1]
  · rfl
theorem HS_wrO {M : Mem} {k j ci : Nat} {fl : List Nat} {x : Int32} (hs : SK k = .inl (ci, fl)) (hj : fl[j]? = some 0) : va_up (HS M) k (.inr (ci, (fvs M k 0 fl).set j (.int x))) = HS (wr M k j x) := by
  funext a
  by_cases ha : a = k
  · subst ha
    simp only [va_up, if_true, HS, hs, HSE]
    congr 2
    apply List.ext_getElem?
    intro i
    rw [fvs_at]
    by_cases hi : i = j
    · subst hi
      rw [List.getElem?_set_self (by rw [fvs_len]; exact (List.getElem?_eq_some_iff.mp hj).1), hj]
      simp [fv, wr, upd]
    · rw [List.getElem?_set_ne (Ne.symm hi), fvs_at]
      cases fl[i]? with
      | none => rfl
      | some t =>
        match t with
        | 0 => simp [fv, wr, upd, hi]
        | 1 => simp [fv, wr]
        | r + 2 => simp [fv]
  · simp only [va_up, if_neg ha, HS]
    exact HSE_cong (M := M) (M2 := wr M k j x) (by simp [wr, ha]) rfl _
theorem HS_wlO {M : Mem} {k j ci : Nat} {fl : List Nat} {x : Int64} (hs : SK k = .inl (ci, fl)) (hj : fl[j]? = some 1) (hu : ∀ i, fl[i]? = some 1 → i = j) : va_up (HS M) k (.inr (ci, (fvs M k 0 fl).set j (.long x))) = HS (wl M k x) := by
  funext a
  by_cases ha : a = k
  · subst ha
    simp only [va_up, if_true, HS, hs, HSE]
    congr 2
    apply List.ext_getElem?
    intro i
    rw [fvs_at]
    by_cases hi : i = j
    · subst hi
      rw [List.getElem?_set_self (by rw [fvs_len]; exact (List.getElem?_eq_some_iff.mp hj).1), hj]
      simp [fv, wl]
    · rw [List.getElem?_set_ne (Ne.symm hi), fvs_at]
      cases hq : fl[i]? with
      | none => rfl
      | some t =>
        match t, hq with
        | 0, hq => simp [fv, wl]
        | 1, hq => exact absurd (hu i hq) hi
        | r + 2, hq => simp [fv]
  · simp only [va_up, if_neg ha, HS]
    exact HSE_cong (M := M) (M2 := wl M k x) rfl (by simp [wl, ha]) _
theorem HS_wa {M : Mem} {k t n : Nat} {f : Nat → Int32} (hs : SK k = .inr (.inl (t, n))) : va_up (HS M) k (.inl (t, n, .inl f)) = HS (wa M k f) := by
  funext a
  by_cases ha : a = k
  · subst ha
    simp [va_up, HS, hs, HSE, wa]
  · simp only [va_up, if_neg ha, HS]
    exact HSE_cong (M := M) (M2 := wa M k f) (by simp [wa, ha]) rfl _
/-- J over the memory -/
abbrev JM (Ro : ROs) (d : Nat) (md : MD) (pc : Nat) (ls : List (Option Value)) (st : List Value) (M : Mem) (Φ : Option Int32 → Mem → Prop) : Prop := J Ro d 0 0 md pc ls st (NC, HS M) (fun r g => ∃ M2, g = (NC, HS M2) ∧ Φ r M2)
section JMR
variable {Ro : ROs} {d : Nat} {md mc : MD} {pc k idx ci j n : Nat} {fl : List Nat} {ls : List (Option Value)} {st rest : List Value} {M : Mem} {Φ : Option Int32 → Mem → Prop}
theorem M_getI (hd : decode md.2.1 pc = .ok (.getfield idx, 3)) (hf : FOK md.1.cls idx ci j) (hs : SK k = .inl (ci, fl)) (hj : fl[j]? = some 0) (hk : k < NC) (kk : JM Ro d md (pc + 3) ls (.int (M.1 k j) :: st) M Φ) : JM Ro d md pc ls (.ref k :: st) M Φ :=
  J_getf hd hf hk (fs := fvs M k 0 fl) (by simp only [HS, hs, HSE]) (by rw [fvs_at, hj]; simp [fv]) kk
theorem M_getR {r : Nat} (hd : decode md.2.1 pc = .ok (.getfield idx, 3)) (hf : FOK md.1.cls idx ci j) (hs : SK k = .inl (ci, fl)) (hj : fl[j]? = some (r + 2)) (hk : k < NC) (kk : JM Ro d md (pc + 3) ls (.ref r :: st) M Φ) : JM Ro d md pc ls (.ref k :: st) M Φ :=
  J_getf hd hf hk (fs := fvs M k 0 fl) (by simp only [HS, hs, HSE]) (by rw [fvs_at, hj]; simp [fv]) kk
theorem M_getL (hd : decode md.2.1 pc = .ok (.getfield idx, 3)) (hf : FOK md.1.cls idx ci j) (hs : SK k = .inl (ci, fl)) (hj : fl[j]? = some 1) (hk : k < NC) (kk : JM Ro d md (pc + 3) ls (.long (M.2 k) :: st) M Φ) : JM Ro d md pc ls (.ref k :: st) M Φ :=
  J_getf hd hf hk (fs := fvs M k 0 fl) (by simp only [HS, hs, HSE]) (by rw [fvs_at, hj]; simp [fv]) kk
theorem M_putI {x : Int32} (hd : decode md.2.1 pc = .ok (.putfield idx, 3)) (hf : POK md.1.cls idx ci j .int) (hs : SK k = .inl (ci, fl)) (hj : fl[j]? = some 0) (hk : k < NC) (kk : JM Ro d md (pc + 3) ls st (wr M k j x) Φ) : JM Ro d md pc ls (.int x :: .ref k :: st) M Φ := by
  refine J_put hd hf hk (fs := fvs M k 0 fl) (by simp only [HS, hs, HSE]) (by rw [fvs_len]; exact (List.getElem?_eq_some_iff.mp hj).1) (fun _ => rfl) (fun _ => rfl) ?_
  rw [HS_wrO hs hj]
  exact kk
theorem M_putZ {x : Int32} (hd : decode md.2.1 pc = .ok (.putfield idx, 3)) (hf : POK md.1.cls idx ci j .boolean) (hs : SK k = .inl (ci, fl)) (hj : fl[j]? = some 0) (hk : k < NC) (hx : x = 0 ∨ x = 1) (kk : JM Ro d md (pc + 3) ls st (wr M k j x) Φ) : JM Ro d md pc ls (.int x :: .ref k :: st) M Φ := by
  refine J_put hd hf hk (fs := fvs M k 0 fl) (by simp only [HS, hs, HSE]) (by rw [fvs_len]; exact (List.getElem?_eq_some_iff.mp hj).1) (fun _ => by rcases hx with rfl | rfl <;> rfl) (fun _ => by rcases hx with rfl | rfl <;> rfl) ?_
  rw [HS_wrO hs hj]
  exact kk
theorem M_putL {x : Int64} (hd : decode md.2.1 pc = .ok (.putfield idx, 3)) (hf : POK md.1.cls idx ci j .long) (hs : SK k = .inl (ci, fl)) (hj : fl[j]? = some 1) (hu : ∀ i, fl[i]? = some 1 → i = j) (hk : k < NC) (kk : JM Ro d md (pc + 3) ls st (wl M k x) Φ) : JM Ro d md pc ls (.long x :: .ref k :: st) M Φ := by
  refine J_put hd hf hk (fs := fvs M k 0 fl) (by simp only [HS, hs, HSE]) (by rw [fvs_len]; exact (List.getElem?_eq_some_iff.mp hj).1) (fun _ => rfl) (fun _ => rfl) ?_
  rw [HS_wlO hs hj hu]
  exact kk
theorem M_iald {i : Int32} (hd : decode md.2.1 pc = .ok (.iaload, 1)) (hs : SK k = .inr (.inl (0, n))) (hk : k < NC) (hin : vp_in i n) (kk : JM Ro d md (pc + 1) ls (.int (M.1 k i.toNatClampNeg) :: st) M Φ) : JM Ro d md pc ls (.int i :: .ref k :: st) M Φ :=
  J_iald hd hk (by simp only [HS, hs, HSE]) hin kk
theorem M_zald {i : Int32} (hd : decode md.2.1 pc = .ok (.baload, 1)) (hs : SK k = .inr (.inl (1, n))) (hk : k < NC) (hin : vp_in i n) (kk : JM Ro d md (pc + 1) ls (.int (M.1 k i.toNatClampNeg) :: st) M Φ) : JM Ro d md pc ls (.int i :: .ref k :: st) M Φ :=
  J_zald hd hk (by simp only [HS, hs, HSE]) hin kk
theorem M_iast {i x : Int32} (hd : decode md.2.1 pc = .ok (.iastore, 1)) (hs : SK k = .inr (.inl (0, n))) (hk : k < NC) (hin : vp_in i n) (kk : JM Ro d md (pc + 1) ls st (wr M k i.toNatClampNeg x) Φ) : JM Ro d md pc ls (.int x :: .int i :: .ref k :: st) M Φ := by
  refine J_iast hd hk (f := M.1 k) (by simp only [HS, hs, HSE]) hin ?_
  rw [HS_wa hs]
  exact kk
theorem M_zast {i x : Int32} (hd : decode md.2.1 pc = .ok (.bastore, 1)) (hs : SK k = .inr (.inl (1, n))) (hk : k < NC) (hin : vp_in i n) (hx : x = 0 ∨ x = 1) (kk : JM Ro d md (pc + 1) ls st (wr M k i.toNatClampNeg x) Φ) : JM Ro d md pc ls (.int x :: .int i :: .ref k :: st) M Φ := by
  refine J_zast hd hk (f := M.1 k) (by simp only [HS, hs, HSE]) hin (by rcases hx with rfl | rfl <;> rfl) ?_
  rw [HS_wa hs]
  exact kk
theorem M_alen {v : Int32} (hd : decode md.2.1 pc = .ok (.arraylength, 1)) (hs : SK k = .inr (.inl (0, n))) (hk : k < NC) (hv : Int32.ofNat n = v) (kk : JM Ro d md (pc + 1) ls (.int v :: st) M Φ) : JM Ro d md pc ls (.ref k :: st) M Φ :=
  J_alen hd hk (f := M.1 k) (by simp only [HS, hs, HSE]) hv kk
theorem M_aald {i : Int32} {r : Nat} {f : Nat → Option Nat} (hd : decode md.2.1 pc = .ok (.aaload, 1)) (hs : SK k = .inr (.inr (n, f))) (hk : k < NC) (hin : vp_in i n) (hr : f i.toNatClampNeg = some r) (kk : JM Ro d md (pc + 1) ls (.ref r :: st) M Φ) : JM Ro d md pc ls (.int i :: .ref k :: st) M Φ :=
  J_aald hd hk (by simp only [HS, hs, HSE]) hin hr kk
theorem M_copy {k0 k1 n0 n1 : Nat} {sp dp x : Int32} (hd : decode md.2.1 pc = .ok (.invokestatic idx, 3)) (hl : Cond.methodLink md.1.cls idx arraycopyName ∈ lw_tbl) (hnat : Cond.native arraycopyName ∈ lw_tbl) (hstat : Cond.static arraycopyName ∈ lw_tbl) (hini : Cond.initialized "java/lang/System" ∈ lw_tbl) (hr : (st.map fun v => v.category).sum ≤ 8)
    (hs0 : SK k0 = .inr (.inl (0, n0))) (hk0 : k0 < NC) (hs1 : SK k1 = .inr (.inl (0, n1))) (hk1 : k1 < NC) (h1 : ¬ sp < 0) (h2 : ¬ dp < 0) (h3 : ¬ x < 0) (h4 : sp.toNatClampNeg + x.toNatClampNeg ≤ n0) (h5 : dp.toNatClampNeg + x.toNatClampNeg ≤ n1)
    (kk : JM Ro (d + 1) md (pc + 3) ls st (wa M k1 (va_cpy (M.1 k0) (M.1 k1) sp.toNatClampNeg dp.toNatClampNeg x.toNatClampNeg)) Φ) : JM Ro (d + 1) md pc ls (.int x :: .int dp :: .ref k1 :: .int sp :: .ref k0 :: st) M Φ := by
  refine J_copy hd hl hnat hstat hini hr hk0 (f := M.1 k0) (by simp only [HS, hs0, HSE]) hk1 (g := M.1 k1) (by simp only [HS, hs1, HSE]) h1 h2 h3 h4 h5 ?_
  rw [HS_wa hs1]
  exact kk
theorem M_iret {x : Int32} {rt : FieldType} (hd : decode md.2.1 pc = .ok (.ireturn, 1)) (hr : md.2.2.2 = some rt) (hn : narrow rt (.int x) = .int x) (k : Φ (some x) M) : JM Ro d md pc ls [.int x] M Φ := J_iret hd hr hn ⟨M, rfl, k⟩
theorem M_zret {x : Int32} (hd : decode md.2.1 pc = .ok (.ireturn, 1)) (hr : md.2.2.2 = some .boolean) (hx : x = 0 ∨ x = 1) (k : Φ (some x) M) : JM Ro d md pc ls [.int x] M Φ := J_iret hd hr (by rcases hx with rfl | rfl <;> rfl) ⟨M, rfl, k⟩
theorem M_vret (hd : decode md.2.1 pc = .ok (.return_, 1)) (hr : md.2.2.2 = none) (k : Φ none M) : JM Ro d md pc ls [] M Φ := J_vret hd hr ⟨M, rfl, k⟩
theorem M_more {d2 : Nat} (h : d ≤ d2) (k : JM Ro d md pc ls st M Φ) : JM Ro d2 md pc ls st M Φ := J_more h (Nat.le_refl _) (Nat.le_refl _) k
theorem M_post {Ψ : Option Int32 → Mem → Prop} (hP : ∀ v g, Φ v g → Ψ v g) (k : JM Ro d md pc ls st M Φ) : JM Ro d md pc ls st M Ψ := J_post (fun v g ⟨M2, h1, h2⟩ => ⟨M2, h1, hP v M2 h2⟩) k

theorem M_callV0 {T : u_T} {N : Nat} (hd : decode md.2.1 pc = .ok (.invokevirtual idx, 3)) (hl : Cond.methodLink md.1.cls idx mc.1 ∈ lw_tbl) (ho : MOKv mc 0) (hlen : (entL (.ref k :: [])).length ≤ mc.2.2.1) (hr : (rest.map fun v => v.category).sum ≤ 8) (hs : SK k = .inl (ci, fl)) (hk : k < NC) (hc : vwCl[ci]? = some (mc.1.cls, T, N)) (hJ : JM noRo d mc 0 (entL (.ref k :: [])) [] M (fun r M2 => JM Ro (d + 1) md (pc + 3) ls (pushR r rest) M2 Φ)) : JM Ro (d + 1) md pc ls (.ref k :: rest) M Φ :=
  J_callV (As := []) (bc := 0) (bs := 0) (bc2 := 0) (bs2 := 0) hd hl ho rfl hlen hr hk (fs := fvs M k 0 fl) (by simp only [HS, hs, HSE]) hc (J_post (fun r g ⟨M2, h1, h2⟩ => by rw [h1]; exact h2) hJ)
theorem M_callS0 (hd : decode md.2.1 pc = .ok (.invokestatic idx, 3)) (hl : Cond.methodLink md.1.cls idx mc.1 ∈ lw_tbl) (ho : MOKs mc 0) (hlen : (entL []).length ≤ mc.2.2.1) (hr : (rest.map fun v => v.category).sum ≤ 8) (hJ : JM noRo d mc 0 (entL []) [] M (fun r M2 => JM Ro (d + 1) md (pc + 3) ls (pushR r rest) M2 Φ)) : JM Ro (d + 1) md pc ls (rest) M Φ :=
  J_callS (As := []) (bc := 0) (bs := 0) (bc2 := 0) (bs2 := 0) hd hl ho rfl hlen hr (J_post (fun r g ⟨M2, h1, h2⟩ => by rw [h1]; exact h2) hJ)
theorem M_callSN0 {host : String} (hd : decode md.2.1 pc = .ok (.invokestatic idx, 3)) (hl : Cond.methodLinkNest md.1.cls idx mc.1 host ∈ lw_tbl) (ho : MOKs mc 0) (hlen : (entL []).length ≤ mc.2.2.1) (hr : (rest.map fun v => v.category).sum ≤ 8) (hJ : JM noRo d mc 0 (entL []) [] M (fun r M2 => JM Ro (d + 1) md (pc + 3) ls (pushR r rest) M2 Φ)) : JM Ro (d + 1) md pc ls (rest) M Φ :=
  J_callSN (As := []) (bc := 0) (bs := 0) (bc2 := 0) (bs2 := 0) hd hl ho rfl hlen hr (J_post (fun r g ⟨M2, h1, h2⟩ => by rw [h1]; exact h2) hJ)
theorem M_callV1 {a1 : Value} {T : u_T} {N : Nat} (hd : decode md.2.1 pc = .ok (.invokevirtual idx, 3)) (hl : Cond.methodLink md.1.cls idx mc.1 ∈ lw_tbl) (ho : MOKv mc 1) (hlen : (entL (.ref k :: [a1])).length ≤ mc.2.2.1) (hr : (rest.map fun v => v.category).sum ≤ 8) (hs : SK k = .inl (ci, fl)) (hk : k < NC) (hc : vwCl[ci]? = some (mc.1.cls, T, N)) (hJ : JM noRo d mc 0 (entL (.ref k :: [a1])) [] M (fun r M2 => JM Ro (d + 1) md (pc + 3) ls (pushR r rest) M2 Φ)) : JM Ro (d + 1) md pc ls (a1 :: .ref k :: rest) M Φ :=
  J_callV (As := [a1]) (bc := 0) (bs := 0) (bc2 := 0) (bs2 := 0) hd hl ho rfl hlen hr hk (fs := fvs M k 0 fl) (by simp only [HS, hs, HSE]) hc (J_post (fun r g ⟨M2, h1, h2⟩ => by rw [h1]; exact h2) hJ)
theorem M_callS1 {a1 : Value} (hd : decode md.2.1 pc = .ok (.invokestatic idx, 3)) (hl : Cond.methodLink md.1.cls idx mc.1 ∈ lw_tbl) (ho : MOKs mc 1) (hlen : (entL [a1]).length ≤ mc.2.2.1) (hr : (rest.map fun v => v.category).sum ≤ 8) (hJ : JM noRo d mc 0 (entL [a1]) [] M (fun r M2 => JM Ro (d + 1) md (pc + 3) ls (pushR r rest) M2 Φ)) : JM Ro (d + 1) md pc ls (a1 :: rest) M Φ :=
  J_callS (As := [a1]) (bc := 0) (bs := 0) (bc2 := 0) (bs2 := 0) hd hl ho rfl hlen hr (J_post (fun r g ⟨M2, h1, h2⟩ => by rw [h1]; exact h2) hJ)
theorem M_callSN1 {host : String} {a1 : Value} (hd : decode md.2.1 pc = .ok (.invokestatic idx, 3)) (hl : Cond.methodLinkNest md.1.cls idx mc.1 host ∈ lw_tbl) (ho : MOKs mc 1) (hlen : (entL [a1]).length ≤ mc.2.2.1) (hr : (rest.map fun v => v.category).sum ≤ 8) (hJ : JM noRo d mc 0 (entL [a1]) [] M (fun r M2 => JM Ro (d + 1) md (pc + 3) ls (pushR r rest) M2 Φ)) : JM Ro (d + 1) md pc ls (a1 :: rest) M Φ :=
  J_callSN (As := [a1]) (bc := 0) (bs := 0) (bc2 := 0) (bs2 := 0) hd hl ho rfl hlen hr (J_post (fun r g ⟨M2, h1, h2⟩ => by rw [h1]; exact h2) hJ)
theorem M_callV2 {a1 a2 : Value} {T : u_T} {N : Nat} (hd : decode md.2.1 pc = .ok (.invokevirtual idx, 3)) (hl : Cond.methodLink md.1.cls idx mc.1 ∈ lw_tbl) (ho : MOKv mc 2) (hlen : (entL (.ref k :: [a1, a2])).length ≤ mc.2.2.1) (hr : (rest.map fun v => v.category).sum ≤ 8) (hs : SK k = .inl (ci, fl)) (hk : k < NC) (hc : vwCl[ci]? = some (mc.1.cls, T, N)) (hJ : JM noRo d mc 0 (entL (.ref k :: [a1, a2])) [] M (fun r M2 => JM Ro (d + 1) md (pc + 3) ls (pushR r rest) M2 Φ)) : JM Ro (d + 1) md pc ls (a2 :: a1 :: .ref k :: rest) M Φ :=
  J_callV (As := [a1, a2]) (bc := 0) (bs := 0) (bc2 := 0) (bs2 := 0) hd hl ho rfl hlen hr hk (fs := fvs M k 0 fl) (by simp only [HS, hs, HSE]) hc (J_post (fun r g ⟨M2, h1, h2⟩ => by rw [h1]; exact h2) hJ)
theorem M_callS2 {a1 a2 : Value} (hd : decode md.2.1 pc = .ok (.invokestatic idx, 3)) (hl : Cond.methodLink md.1.cls idx mc.1 ∈ lw_tbl) (ho : MOKs mc 2) (hlen : (entL [a1, a2]).length ≤ mc.2.2.1) (hr : (rest.map fun v => v.category).sum ≤ 8) (hJ : JM noRo d mc 0 (entL [a1, a2]) [] M (fun r M2 => JM Ro (d + 1) md (pc + 3) ls (pushR r rest) M2 Φ)) : JM Ro (d + 1) md pc ls (a2 :: a1 :: rest) M Φ :=
  J_callS (As := [a1, a2]) (bc := 0) (bs := 0) (bc2 := 0) (bs2 := 0) hd hl ho rfl hlen hr (J_post (fun r g ⟨M2, h1, h2⟩ => by rw [h1]; exact h2) hJ)
theorem M_callSN2 {host : String} {a1 a2 : Value} (hd : decode md.2.1 pc = .ok (.invokestatic idx, 3)) (hl : Cond.methodLinkNest md.1.cls idx mc.1 host ∈ lw_tbl) (ho : MOKs mc 2) (hlen : (entL [a1, a2]).length ≤ mc.2.2.1) (hr : (rest.map fun v => v.category).sum ≤ 8) (hJ : JM noRo d mc 0 (entL [a1, a2]) [] M (fun r M2 => JM Ro (d + 1) md (pc + 3) ls (pushR r rest) M2 Φ)) : JM Ro (d + 1) md pc ls (a2 :: a1 :: rest) M Φ :=
  J_callSN (As := [a1, a2]) (bc := 0) (bs := 0) (bc2 := 0) (bs2 := 0) hd hl ho rfl hlen hr (J_post (fun r g ⟨M2, h1, h2⟩ => by rw [h1]; exact h2) hJ)
theorem M_callV3 {a1 a2 a3 : Value} {T : u_T} {N : Nat} (hd : decode md.2.1 pc = .ok (.invokevirtual idx, 3)) (hl : Cond.methodLink md.1.cls idx mc.1 ∈ lw_tbl) (ho : MOKv mc 3) (hlen : (entL (.ref k :: [a1, a2, a3])).length ≤ mc.2.2.1) (hr : (rest.map fun v => v.category).sum ≤ 8) (hs : SK k = .inl (ci, fl)) (hk : k < NC) (hc : vwCl[ci]? = some (mc.1.cls, T, N)) (hJ : JM noRo d mc 0 (entL (.ref k :: [a1, a2, a3])) [] M (fun r M2 => JM Ro (d + 1) md (pc + 3) ls (pushR r rest) M2 Φ)) : JM Ro (d + 1) md pc ls (a3 :: a2 :: a1 :: .ref k :: rest) M Φ :=
  J_callV (As := [a1, a2, a3]) (bc := 0) (bs := 0) (bc2 := 0) (bs2 := 0) hd hl ho rfl hlen hr hk (fs := fvs M k 0 fl) (by simp only [HS, hs, HSE]) hc (J_post (fun r g ⟨M2, h1, h2⟩ => by rw [h1]; exact h2) hJ)
theorem M_callS3 {a1 a2 a3 : Value} (hd : decode md.2.1 pc = .ok (.invokestatic idx, 3)) (hl : Cond.methodLink md.1.cls idx mc.1 ∈ lw_tbl) (ho : MOKs mc 3) (hlen : (entL [a1, a2, a3]).length ≤ mc.2.2.1) (hr : (rest.map fun v => v.category).sum ≤ 8) (hJ : JM noRo d mc 0 (entL [a1, a2, a3]) [] M (fun r M2 => JM Ro (d + 1) md (pc + 3) ls (pushR r rest) M2 Φ)) : JM Ro (d + 1) md pc ls (a3 :: a2 :: a1 :: rest) M Φ :=
  J_callS (As := [a1, a2, a3]) (bc := 0) (bs := 0) (bc2 := 0) (bs2 := 0) hd hl ho rfl hlen hr (J_post (fun r g ⟨M2, h1, h2⟩ => by rw [h1]; exact h2) hJ)
theorem M_callSN3 {host : String} {a1 a2 a3 : Value} (hd : decode md.2.1 pc = .ok (.invokestatic idx, 3)) (hl : Cond.methodLinkNest md.1.cls idx mc.1 host ∈ lw_tbl) (ho : MOKs mc 3) (hlen : (entL [a1, a2, a3]).length ≤ mc.2.2.1) (hr : (rest.map fun v => v.category).sum ≤ 8) (hJ : JM noRo d mc 0 (entL [a1, a2, a3]) [] M (fun r M2 => JM Ro (d + 1) md (pc + 3) ls (pushR r rest) M2 Φ)) : JM Ro (d + 1) md pc ls (a3 :: a2 :: a1 :: rest) M Φ :=
  J_callSN (As := [a1, a2, a3]) (bc := 0) (bs := 0) (bc2 := 0) (bs2 := 0) hd hl ho rfl hlen hr (J_post (fun r g ⟨M2, h1, h2⟩ => by rw [h1]; exact h2) hJ)
theorem M_callV4 {a1 a2 a3 a4 : Value} {T : u_T} {N : Nat} (hd : decode md.2.1 pc = .ok (.invokevirtual idx, 3)) (hl : Cond.methodLink md.1.cls idx mc.1 ∈ lw_tbl) (ho : MOKv mc 4) (hlen : (entL (.ref k :: [a1, a2, a3, a4])).length ≤ mc.2.2.1) (hr : (rest.map fun v => v.category).sum ≤ 8) (hs : SK k = .inl (ci, fl)) (hk : k < NC) (hc : vwCl[ci]? = some (mc.1.cls, T, N)) (hJ : JM noRo d mc 0 (entL (.ref k :: [a1, a2, a3, a4])) [] M (fun r M2 => JM Ro (d + 1) md (pc + 3) ls (pushR r rest) M2 Φ)) : JM Ro (d + 1) md pc ls (a4 :: a3 :: a2 :: a1 :: .ref k :: rest) M Φ :=
  J_callV (As := [a1, a2, a3, a4]) (bc := 0) (bs := 0) (bc2 := 0) (bs2 := 0) hd hl ho rfl hlen hr hk (fs := fvs M k 0 fl) (by simp only [HS, hs, HSE]) hc (J_post (fun r g ⟨M2, h1, h2⟩ => by rw [h1]; exact h2) hJ)
theorem M_callS4 {a1 a2 a3 a4 : Value} (hd : decode md.2.1 pc = .ok (.invokestatic idx, 3)) (hl : Cond.methodLink md.1.cls idx mc.1 ∈ lw_tbl) (ho : MOKs mc 4) (hlen : (entL [a1, a2, a3, a4]).length ≤ mc.2.2.1) (hr : (rest.map fun v => v.category).sum ≤ 8) (hJ : JM noRo d mc 0 (entL [a1, a2, a3, a4]) [] M (fun r M2 => JM Ro (d + 1) md (pc + 3) ls (pushR r rest) M2 Φ)) : JM Ro (d + 1) md pc ls (a4 :: a3 :: a2 :: a1 :: rest) M Φ :=
  J_callS (As := [a1, a2, a3, a4]) (bc := 0) (bs := 0) (bc2 := 0) (bs2 := 0) hd hl ho rfl hlen hr (J_post (fun r g ⟨M2, h1, h2⟩ => by rw [h1]; exact h2) hJ)
theorem M_callSN4 {host : String} {a1 a2 a3 a4 : Value} (hd : decode md.2.1 pc = .ok (.invokestatic idx, 3)) (hl : Cond.methodLinkNest md.1.cls idx mc.1 host ∈ lw_tbl) (ho : MOKs mc 4) (hlen : (entL [a1, a2, a3, a4]).length ≤ mc.2.2.1) (hr : (rest.map fun v => v.category).sum ≤ 8) (hJ : JM noRo d mc 0 (entL [a1, a2, a3, a4]) [] M (fun r M2 => JM Ro (d + 1) md (pc + 3) ls (pushR r rest) M2 Φ)) : JM Ro (d + 1) md pc ls (a4 :: a3 :: a2 :: a1 :: rest) M Φ :=
  J_callSN (As := [a1, a2, a3, a4]) (bc := 0) (bs := 0) (bc2 := 0) (bs2 := 0) hd hl ho rfl hlen hr (J_post (fun r g ⟨M2, h1, h2⟩ => by rw [h1]; exact h2) hJ)
theorem M_callV5 {a1 a2 a3 a4 a5 : Value} {T : u_T} {N : Nat} (hd : decode md.2.1 pc = .ok (.invokevirtual idx, 3)) (hl : Cond.methodLink md.1.cls idx mc.1 ∈ lw_tbl) (ho : MOKv mc 5) (hlen : (entL (.ref k :: [a1, a2, a3, a4, a5])).length ≤ mc.2.2.1) (hr : (rest.map fun v => v.category).sum ≤ 8) (hs : SK k = .inl (ci, fl)) (hk : k < NC) (hc : vwCl[ci]? = some (mc.1.cls, T, N)) (hJ : JM noRo d mc 0 (entL (.ref k :: [a1, a2, a3, a4, a5])) [] M (fun r M2 => JM Ro (d + 1) md (pc + 3) ls (pushR r rest) M2 Φ)) : JM Ro (d + 1) md pc ls (a5 :: a4 :: a3 :: a2 :: a1 :: .ref k :: rest) M Φ :=
  J_callV (As := [a1, a2, a3, a4, a5]) (bc := 0) (bs := 0) (bc2 := 0) (bs2 := 0) hd hl ho rfl hlen hr hk (fs := fvs M k 0 fl) (by simp only [HS, hs, HSE]) hc (J_post (fun r g ⟨M2, h1, h2⟩ => by rw [h1]; exact h2) hJ)
theorem M_callS5 {a1 a2 a3 a4 a5 : Value} (hd : decode md.2.1 pc = .ok (.invokestatic idx, 3)) (hl : Cond.methodLink md.1.cls idx mc.1 ∈ lw_tbl) (ho : MOKs mc 5) (hlen : (entL [a1, a2, a3, a4, a5]).length ≤ mc.2.2.1) (hr : (rest.map fun v => v.category).sum ≤ 8) (hJ : JM noRo d mc 0 (entL [a1, a2, a3, a4, a5]) [] M (fun r M2 => JM Ro (d + 1) md (pc + 3) ls (pushR r rest) M2 Φ)) : JM Ro (d + 1) md pc ls (a5 :: a4 :: a3 :: a2 :: a1 :: rest) M Φ :=
  J_callS (As := [a1, a2, a3, a4, a5]) (bc := 0) (bs := 0) (bc2 := 0) (bs2 := 0) hd hl ho rfl hlen hr (J_post (fun r g ⟨M2, h1, h2⟩ => by rw [h1]; exact h2) hJ)
theorem M_callSN5 {host : String} {a1 a2 a3 a4 a5 : Value} (hd : decode md.2.1 pc = .ok (.invokestatic idx, 3)) (hl : Cond.methodLinkNest md.1.cls idx mc.1 host ∈ lw_tbl) (ho : MOKs mc 5) (hlen : (entL [a1, a2, a3, a4, a5]).length ≤ mc.2.2.1) (hr : (rest.map fun v => v.category).sum ≤ 8) (hJ : JM noRo d mc 0 (entL [a1, a2, a3, a4, a5]) [] M (fun r M2 => JM Ro (d + 1) md (pc + 3) ls (pushR r rest) M2 Φ)) : JM Ro (d + 1) md pc ls (a5 :: a4 :: a3 :: a2 :: a1 :: rest) M Φ :=
  J_callSN (As := [a1, a2, a3, a4, a5]) (bc := 0) (bs := 0) (bc2 := 0) (bs2 := 0) hd hl ho rfl hlen hr (J_post (fun r g ⟨M2, h1, h2⟩ => by rw [h1]; exact h2) hJ)
theorem M_callV6 {a1 a2 a3 a4 a5 a6 : Value} {T : u_T} {N : Nat} (hd : decode md.2.1 pc = .ok (.invokevirtual idx, 3)) (hl : Cond.methodLink md.1.cls idx mc.1 ∈ lw_tbl) (ho : MOKv mc 6) (hlen : (entL (.ref k :: [a1, a2, a3, a4, a5, a6])).length ≤ mc.2.2.1) (hr : (rest.map fun v => v.category).sum ≤ 8) (hs : SK k = .inl (ci, fl)) (hk : k < NC) (hc : vwCl[ci]? = some (mc.1.cls, T, N)) (hJ : JM noRo d mc 0 (entL (.ref k :: [a1, a2, a3, a4, a5, a6])) [] M (fun r M2 => JM Ro (d + 1) md (pc + 3) ls (pushR r rest) M2 Φ)) : JM Ro (d + 1) md pc ls (a6 :: a5 :: a4 :: a3 :: a2 :: a1 :: .ref k :: rest) M Φ :=
  J_callV (As := [a1, a2, a3, a4, a5, a6]) (bc := 0) (bs := 0) (bc2 := 0) (bs2 := 0) hd hl ho rfl hlen hr hk (fs := fvs M k 0 fl) (by simp only [HS, hs, HSE]) hc (J_post (fun r g ⟨M2, h1, h2⟩ => by rw [h1]; exact h2) hJ)
theorem M_callS6 {a1 a2 a3 a4 a5 a6 : Value} (hd : decode md.2.1 pc = .ok (.invokestatic idx, 3)) (hl : Cond.methodLink md.1.cls idx mc.1 ∈ lw_tbl) (ho : MOKs mc 6) (hlen : (entL [a1, a2, a3, a4, a5, a6]).length ≤ mc.2.2.1) (hr : (rest.map fun v => v.category).sum ≤ 8) (hJ : JM noRo d mc 0 (entL [a1, a2, a3, a4, a5, a6]) [] M (fun r M2 => JM Ro (d + 1) md (pc + 3) ls (pushR r rest) M2 Φ)) : JM Ro (d + 1) md pc ls (a6 :: a5 :: a4 :: a3 :: a2 :: a1 :: rest) M Φ :=
  J_callS (As := [a1, a2, a3, a4, a5, a6]) (bc := 0) (bs := 0) (bc2 := 0) (bs2 := 0) hd hl ho rfl hlen hr (J_post (fun r g ⟨M2, h1, h2⟩ => by rw [h1]; exact h2) hJ)
theorem M_callSN6 {host : String} {a1 a2 a3 a4 a5 a6 : Value} (hd : decode md.2.1 pc = .ok (.invokestatic idx, 3)) (hl : Cond.methodLinkNest md.1.cls idx mc.1 host ∈ lw_tbl) (ho : MOKs mc 6) (hlen : (entL [a1, a2, a3, a4, a5, a6]).length ≤ mc.2.2.1) (hr : (rest.map fun v => v.category).sum ≤ 8) (hJ : JM noRo d mc 0 (entL [a1, a2, a3, a4, a5, a6]) [] M (fun r M2 => JM Ro (d + 1) md (pc + 3) ls (pushR r rest) M2 Φ)) : JM Ro (d + 1) md pc ls (a6 :: a5 :: a4 :: a3 :: a2 :: a1 :: rest) M Φ :=
  J_callSN (As := [a1, a2, a3, a4, a5, a6]) (bc := 0) (bs := 0) (bc2 := 0) (bs2 := 0) hd hl ho rfl hlen hr (J_post (fun r g ⟨M2, h1, h2⟩ => by rw [h1]; exact h2) hJ)
end JMR
theorem cp_nat : Cond.native arraycopyName ∈ lw_tbl := in3 (List.mem_of_getElem? (i := 89) (by decide +kernel))
theorem cp_sta : Cond.static arraycopyName ∈ lw_tbl := in3 (List.mem_of_getElem? (i := 88) (by decide +kernel))
theorem cp_ini : Cond.initialized "java/lang/System" ∈ lw_tbl := in1 (List.mem_of_getElem? (i := 18) (by decide +kernel))
theorem ma_ini : Cond.initialized "java/lang/Math" ∈ lw_tbl := in1 (List.mem_of_getElem? (i := 20) (by decide +kernel))
theorem ma_max_s : Cond.static yJ9_max_7cf53 ∈ lw_tbl := in4 (List.mem_of_getElem? (i := 123) (by decide +kernel))
theorem ma_max_c : Cond.code Lib.Math.max.name Lib.Math.max.code 2 (some .int) ∈ lw_tbl := in4 (List.mem_of_getElem? (i := 124) (by decide +kernel))
theorem ma_min_s : Cond.static yJ9_min_7cf53 ∈ lw_tbl := in4 (List.mem_of_getElem? (i := 111) (by decide +kernel))
theorem ma_min_c : Cond.code Lib.Math.min.name Lib.Math.min.code 2 (some .int) ∈ lw_tbl := in4 (List.mem_of_getElem? (i := 112) (by decide +kernel))

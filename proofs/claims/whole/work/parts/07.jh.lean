def FOK (own : String) (idx ci j : Nat) : Prop := ∃ (C : String) (T : u_T) (N : Nat), vwCl[ci]? = some (C, T, N) ∧ j < N ∧ Cond.fieldLink own idx (T j).1 (T j).2.1 (T j).2.2.1 ∈ lw_tbl ∧ (∀ w ∈ u_ws C T N, w ∈ lw_tbl ∧ goodWord w = true)
def POK (own : String) (idx ci j : Nat) (ty : FieldType) : Prop := ∃ (C : String) (T : u_T) (N : Nat) (ty0 : Nat → FieldType), vwCl[ci]? = some (C, T, N) ∧ j < N ∧ Cond.fieldLink own idx (T j).1 (T j).2.1 (T j).2.2.1 ∈ lw_tbl ∧ (∀ w ∈ u_ws C T N, w ∈ lw_tbl ∧ goodWord w = true) ∧ (∀ k, k < N → parseFieldDescriptor (T k).2.2.1 = some (ty0 k)) ∧ (∀ a, a < N → ∀ b, b < N → a ≠ b → (T a).2.1 ≠ (T b).2.1) ∧ (T j).2.2.2 = false ∧ parseFieldDescriptor (T j).2.2.1 = some ty
def PFOK (own : String) (idx ci j : Nat) (ty : FieldType) : Prop := ∃ (C : String) (T : u_T) (N : Nat) (ty0 : Nat → FieldType), vwCl[ci]? = some (C, T, N) ∧ j < N ∧ Cond.fieldLink own idx (T j).1 (T j).2.1 (T j).2.2.1 ∈ lw_tbl ∧ (∀ w ∈ u_ws C T N, w ∈ lw_tbl ∧ goodWord w = true) ∧ (∀ k, k < N → parseFieldDescriptor (T k).2.2.1 = some (ty0 k)) ∧ (∀ a, a < N → ∀ b, b < N → a ≠ b → (T a).2.1 ≠ (T b).2.1) ∧ (T j).2.2.2 = true ∧ (T j).1 = own ∧ parseFieldDescriptor (T j).2.2.1 = some ty
def NOK (own : String) (idx ci N : Nat) (fs : List Value) : Prop := ∃ (C : String) (T : u_T) (ty : Nat → FieldType), vwCl[ci]? = some (C, T, N) ∧ Cond.classLink own idx C ∈ lw_tbl ∧ Cond.instantiable C N ∈ lw_tbl ∧ Cond.initialized C ∈ lw_tbl ∧ (∀ w ∈ u_ws C T N, w ∈ lw_tbl ∧ goodWord w = true) ∧ (∀ k, k < N → parseFieldDescriptor (T k).2.2.1 = some (ty k)) ∧ (∀ j, j < N → defaultValue (ty j) = vp_V fs j) ∧ ∀ ad, fs.map (cv ad) = fs
theorem TBL.us {s : State} (h : TBL s) {C : String} {T : u_T} {N : Nat} (hw : ∀ w ∈ u_ws C T N, w ∈ lw_tbl ∧ goodWord w = true) (a : Array Value) : ∀ w ∈ u_ws C T N, w.before a s = true := fun w q => h.use (hw w q).1 (hw w q).2 a
section JH
variable {Ro : ROs} {d bc bs : Nat} {md : MD} {pc k : Nat} {ls : List (Option Value)} {st : List Value} {h : PH} {Φ : Option Int32 → PH → Prop}
theorem J_getf {idx ci j : Nat} {fs : List Value} {v : Value} (hd : decode md.2.1 pc = .ok (.getfield idx, 3)) (hf : FOK md.1.cls idx ci j) (hk : k < h.1) (he : h.2 k = .inr (ci, fs)) (hv : fs[j]? = some v) (kk : J Ro d bc bs md (pc + 3) ls (v :: st) h Φ) : J Ro d bc bs md pc ls (.ref k :: st) h Φ := by
  intro p l e R s m args below meth c H locs cells slots mc ms Q z b dC dI dA las hC hB hK hW hL hR
  obtain ⟨C, T, N, h1, h2, h3, h4⟩ := hf
  have hT := hC.2.2.2.2.2.2.2.1
  exact va_get hC.1 hC.2.1 (hT.us h4 args) (fun _ q => q) hC.2.2.2.2.1 hK.1 hW.2.2.1 k (fs := fs.map (cv (adF z b))) (by rw [wsOf_at hk, he]; rfl) h1 j h2 (hT.use h3 rfl args) (fun _ q => q) (v := cv (adF z b) v) (by rw [List.getElem?_map, hv]; rfl) hd (kk p l e R s m args below meth c H locs cells slots mc ms Q z b dC dI dA las hC hB hK hW hL hR)
theorem J_put {idx ci j : Nat} {ty : FieldType} {fs : List Value} {v : Value} (hd : decode md.2.1 pc = .ok (.putfield idx, 3)) (hf : POK md.1.cls idx ci j ty) (hk : k < h.1) (he : h.2 k = .inr (ci, fs)) (hj : j < fs.length) (hn : ∀ ad, narrow ty (cv ad v) = cv ad v) (hfit : ∀ ad, fits ty (cv ad v) = true) (kk : J Ro d bc bs md (pc + 3) ls st (h.1, va_up h.2 k (.inr (ci, fs.set j v))) Φ) : J Ro d bc bs md pc ls (v :: .ref k :: st) h Φ := by
  intro p l e R s m args below meth c H locs cells slots mc ms Q z b dC dI dA las hC hB hK hW hL hR
  obtain ⟨C, T, N, ty0, h1, h2, h3, h4, h5, h6, h7, h8⟩ := hf
  have hT := hC.2.2.2.2.2.2.2.1
  refine jw_put hC.1 hC.2.1 (hT.us h4 args) (fun _ q => q) ty0 h5 h6 hC.2.2.2.2.1 hK.1 hW.2.2.1 (wsOf_D hW.2.1) hW.2.2.2 k (fs := fs.map (cv (adF z b))) (by rw [wsOf_at hk, he]; rfl) h1 j h2 (hT.use h3 rfl args) h7 h8 (hn _) (hfit _) (by rw [List.length_map]; exact hj) hd (fun H1 locs1 hz hP hS => ?_)
  rw [← List.map_set, show (adF z b k, (Sum.inr (ci, (fs.set j v).map (cv (adF z b))) : va_E)) = (adF z b k, cE (adF z b) dA (.inr (ci, fs.set j v))) from rfl, wsOf_set hk] at hP
  exact kk p l e R s m args below meth c H1 locs1 cells slots mc ms Q z b dC dI dA las hC hB hK ⟨hz.trans hW.1, hW.2.1, hP, hS⟩ hL hR
theorem J_putF {idx ci j : Nat} {ty : FieldType} {fs : List Value} {v : Value} (hd : decode md.2.1 pc = .ok (.putfield idx, 3)) (hf : PFOK md.1.cls idx ci j ty) (hi : md.1.name = "<init>") (hk : k < h.1) (he : h.2 k = .inr (ci, fs)) (hj : j < fs.length) (hn : ∀ ad, narrow ty (cv ad v) = cv ad v) (hfit : ∀ ad, fits ty (cv ad v) = true) (kk : J Ro d bc bs md (pc + 3) ls st (h.1, va_up h.2 k (.inr (ci, fs.set j v))) Φ) : J Ro d bc bs md pc ls (v :: .ref k :: st) h Φ := by
  intro p l e R s m args below meth c H locs cells slots mc ms Q z b dC dI dA las hC hB hK hW hL hR
  obtain ⟨C, T, N, ty0, h1, h2, h3, h4, h5, h6, h7, h8, h9⟩ := hf
  have hT := hC.2.2.2.2.2.2.2.1
  refine jw_putF hC.1 hC.2.1 (hT.us h4 args) (fun _ q => q) ty0 h5 h6 hC.2.2.2.2.1 hK.1 hW.2.2.1 (wsOf_D hW.2.1) hW.2.2.2 k (fs := fs.map (cv (adF z b))) (by rw [wsOf_at hk, he]; rfl) h1 j h2 (hT.use h3 rfl args) h7 (hC.2.2.2.2.2.2.1 hi) h8 h9 (hn _) (hfit _) (by rw [List.length_map]; exact hj) hd (fun H1 locs1 hz hP hS => ?_)
  rw [← List.map_set, show (adF z b k, (Sum.inr (ci, (fs.set j v).map (cv (adF z b))) : va_E)) = (adF z b k, cE (adF z b) dA (.inr (ci, fs.set j v))) from rfl, wsOf_set hk] at hP
  exact kk p l e R s m args below meth c H1 locs1 cells slots mc ms Q z b dC dI dA las hC hB hK ⟨hz.trans hW.1, hW.2.1, hP, hS⟩ hL hR
theorem J_iald {n : Nat} {f : Nat → Int32} {i : Int32} (hd : decode md.2.1 pc = .ok (.iaload, 1)) (hk : k < h.1) (he : h.2 k = .inl (0, n, .inl f)) (hin : vp_in i n) (kk : J Ro d bc bs md (pc + 1) ls (.int (f i.toNatClampNeg) :: st) h Φ) : J Ro d bc bs md pc ls (.int i :: .ref k :: st) h Φ := by
  intro p l e R s m args below meth c H locs cells slots mc ms Q z b dC dI dA las hC hB hK hW hL hR
  exact va_iald hC.1 hC.2.1 hK.1 hW.2.2.1 k 0 (by rw [wsOf_at hk, he]; rfl) rfl hin hd (kk p l e R s m args below meth c H locs cells slots mc ms Q z b dC dI dA las hC hB hK hW hL hR)
theorem J_zald {n : Nat} {f : Nat → Int32} {i : Int32} (hd : decode md.2.1 pc = .ok (.baload, 1)) (hk : k < h.1) (he : h.2 k = .inl (1, n, .inl f)) (hin : vp_in i n) (kk : J Ro d bc bs md (pc + 1) ls (.int (f i.toNatClampNeg) :: st) h Φ) : J Ro d bc bs md pc ls (.int i :: .ref k :: st) h Φ := by
  intro p l e R s m args below meth c H locs cells slots mc ms Q z b dC dI dA las hC hB hK hW hL hR
  exact va_zald hC.1 hC.2.1 hK.1 hW.2.2.1 k 1 (by rw [wsOf_at hk, he]; rfl) rfl hin hd (kk p l e R s m args below meth c H locs cells slots mc ms Q z b dC dI dA las hC hB hK hW hL hR)
theorem J_iast {n : Nat} {f : Nat → Int32} {i x : Int32} (hd : decode md.2.1 pc = .ok (.iastore, 1)) (hk : k < h.1) (he : h.2 k = .inl (0, n, .inl f)) (hin : vp_in i n) (kk : J Ro d bc bs md (pc + 1) ls st (h.1, va_up h.2 k (.inl (0, n, .inl (upd f i.toNatClampNeg x)))) Φ) : J Ro d bc bs md pc ls (.int x :: .int i :: .ref k :: st) h Φ := by
  intro p l e R s m args below meth c H locs cells slots mc ms Q z b dC dI dA las hC hB hK hW hL hR
  refine jw_iast hC.1 hC.2.1 hK.1 hW.2.2.1 (wsOf_D hW.2.1) hW.2.2.2 k 0 (by rw [wsOf_at hk, he]; rfl) rfl hin hd (fun H1 locs1 hz hP hS => ?_)
  rw [show (adF z b k, (Sum.inl (dA 0, n, .inl (upd f i.toNatClampNeg x)) : va_E)) = (adF z b k, cE (adF z b) dA (.inl (0, n, .inl (upd f i.toNatClampNeg x)))) from rfl, wsOf_set hk] at hP
  exact kk p l e R s m args below meth c H1 locs1 cells slots mc ms Q z b dC dI dA las hC hB hK ⟨hz.trans hW.1, hW.2.1, hP, hS⟩ hL hR
theorem J_zast {n : Nat} {f : Nat → Int32} {i x : Int32} (hd : decode md.2.1 pc = .ok (.bastore, 1)) (hk : k < h.1) (he : h.2 k = .inl (1, n, .inl f)) (hin : vp_in i n) (hx : narrow .boolean (.int x) = .int x) (kk : J Ro d bc bs md (pc + 1) ls st (h.1, va_up h.2 k (.inl (1, n, .inl (upd f i.toNatClampNeg x)))) Φ) : J Ro d bc bs md pc ls (.int x :: .int i :: .ref k :: st) h Φ := by
  intro p l e R s m args below meth c H locs cells slots mc ms Q z b dC dI dA las hC hB hK hW hL hR
  refine jw_zast hC.1 hC.2.1 hK.1 hW.2.2.1 (wsOf_D hW.2.1) hW.2.2.2 k 1 (by rw [wsOf_at hk, he]; rfl) rfl hin hx hd (fun H1 locs1 hz hP hS => ?_)
  rw [show (adF z b k, (Sum.inl (dA 1, n, .inl (upd f i.toNatClampNeg x)) : va_E)) = (adF z b k, cE (adF z b) dA (.inl (1, n, .inl (upd f i.toNatClampNeg x)))) from rfl, wsOf_set hk] at hP
  exact kk p l e R s m args below meth c H1 locs1 cells slots mc ms Q z b dC dI dA las hC hB hK ⟨hz.trans hW.1, hW.2.1, hP, hS⟩ hL hR
theorem J_alen {n : Nat} {f : Nat → Int32} {v : Int32} (hd : decode md.2.1 pc = .ok (.arraylength, 1)) (hk : k < h.1) (he : h.2 k = .inl (0, n, .inl f)) (hv : Int32.ofNat n = v) (kk : J Ro d bc bs md (pc + 1) ls (.int v :: st) h Φ) : J Ro d bc bs md pc ls (.ref k :: st) h Φ := by
  intro p l e R s m args below meth c H locs cells slots mc ms Q z b dC dI dA las hC hB hK hW hL hR
  exact va_alen hC.1 hC.2.1 hK.1 hW.2.2.1 k 0 (x := (n, .inl f)) (by rw [wsOf_at hk, he]; rfl) rfl hv hd (kk p l e R s m args below meth c H locs cells slots mc ms Q z b dC dI dA las hC hB hK hW hL hR)
theorem J_aald {n r : Nat} {f : Nat → Option Nat} {i : Int32} (hd : decode md.2.1 pc = .ok (.aaload, 1)) (hk : k < h.1) (he : h.2 k = .inl (2, n, .inr (.inr (.inr (.inr f))))) (hin : vp_in i n) (hr : f i.toNatClampNeg = some r) (kk : J Ro d bc bs md (pc + 1) ls (.ref r :: st) h Φ) : J Ro d bc bs md pc ls (.int i :: .ref k :: st) h Φ := by
  intro p l e R s m args below meth c H locs cells slots mc ms Q z b dC dI dA las hC hB hK hW hL hR
  refine va_aldq hC.1 hC.2.1 hK.1 hW.2.2.1 k 2 (C := RX0) (f := fun j => (f j).map (adF z b)) (by rw [wsOf_at hk, he]; rfl) rfl hin hd ?_
  rw [hr]
  exact kk p l e R s m args below meth c H locs cells slots mc ms Q z b dC dI dA las hC hB hK hW hL hR
theorem J_aast {n r ci : Nat} {fs : List Value} {T : u_T} {N : Nat} {f : Nat → Option Nat} {i : Int32} (hd : decode md.2.1 pc = .ok (.aastore, 1)) (hk : k < h.1) (he : h.2 k = .inl (2, n, .inr (.inr (.inr (.inr f))))) (hr : r < h.1) (hr2 : h.2 r = .inr (ci, fs)) (hc : vwCl[ci]? = some (RX0, T, N)) (hin : vp_in i n) (kk : J Ro d bc bs md (pc + 1) ls st (h.1, va_up h.2 k (.inl (2, n, .inr (.inr (.inr (.inr (va_up f i.toNatClampNeg (some r)))))))) Φ) : J Ro d bc bs md pc ls (.ref r :: .int i :: .ref k :: st) h Φ := by
  intro p l e R s m args below meth c H locs cells slots mc ms Q z b dC dI dA las hC hB hK hW hL hR
  refine jw_astq hC.1 hC.2.1 hK.1 hW.2.2.1 (wsOf_D hW.2.1) hW.2.2.2 k 2 r ci (r := (RX0, T, N)) (vs := fs.map (cv (adF z b))) (f := fun j => (f j).map (adF z b)) (by rw [wsOf_at hk, he]; rfl) rfl (by rw [wsOf_at hr, hr2]; rfl) hc hin hd (fun H1 locs1 hz hP hS => ?_)
  have ev : (va_up (fun j => (f j).map (adF z b)) i.toNatClampNeg (some (adF z b r))) = (fun j => (va_up f i.toNatClampNeg (some r) j).map (adF z b)) := by
    funext j
    by_cases hj : j = i.toNatClampNeg
    · simp [va_up, hj]
    · simp [va_up, hj]
  rw [ev, show (adF z b k, (Sum.inl (dA 2, n, .inr (.inr (.inr (.inr (fun j => (va_up f i.toNatClampNeg (some r) j).map (adF z b)))))) : va_E)) = (adF z b k, cE (adF z b) dA (.inl (2, n, .inr (.inr (.inr (.inr (va_up f i.toNatClampNeg (some r)))))))) from rfl, wsOf_set hk] at hP
  exact kk p l e R s m args below meth c H1 locs1 cells slots mc ms Q z b dC dI dA las hC hB hK ⟨hz.trans hW.1, hW.2.1, hP, hS⟩ hL hR
theorem J_new {idx ci N : Nat} {fs : List Value} (hd : decode md.2.1 pc = .ok (.new idx, 3)) (hf : NOK md.1.cls idx ci N fs) (hb : h.1 < jBig) (kk : J Ro d bc bs md (pc + 3) ls (.ref h.1 :: st) (h.1 + 1, va_up h.2 h.1 (.inr (ci, fs))) Φ) : J Ro d (bc + 1) (bs + N) md pc ls st h Φ := by
  intro p l e R s m args below meth c H locs cells slots mc ms Q z b dC dI dA las hC hB hK hW hL hR
  obtain ⟨C, T, ty, h1, h2, h3, h4, h5, h6, h7, h8⟩ := hf
  have hT := hC.2.2.2.2.2.2.2.1
  refine jw_new hC.1 hC.2.1 (hT.us h5 args) (fun _ q => q) ty h6 hC.2.2.2.2.1 (hT.use h2 rfl args) (hT.use h3 rfl args) (hT.use h4 rfl args) hK.1 hW.2.2.1 hW.2.2.2 h1 h7 (by omega) (by omega) hd (fun H1 hz hP hS => ?_)
  have ea : H.size = adF z b h.1 := by rw [adF_lt hb]; exact hW.1
  rw [ea, show (adF z b h.1, (Sum.inr (ci, fs) : va_E)) = (adF z b h.1, cE (adF z b) dA (.inr (ci, fs))) by simp only [cE, h8], wsOf_push] at hP
  rw [ea]
  exact kk p l e R s m args below meth c H1 locs (cells + 1) (slots + N) mc ms Q z b dC dI dA las hC ⟨by omega, by omega, hB.2.2.1, hB.2.2.2⟩ hK ⟨by rw [hz, hW.1]; show z + h.1 + 1 = z + (h.1 + 1); omega, hb, hP, hS⟩ hL hR
theorem J_newI {n : Int32} {N : Nat} (hd : decode md.2.1 pc = .ok (.newarray .int, 2)) (ha : Cond.arrayClass .int ∈ lw_tbl) (hn : ¬ n < 0) (hN : n.toNatClampNeg = N) (hN2 : N ≤ 100000) (hb : h.1 < jBig) (kk : J Ro d bc bs md (pc + 2) ls (.ref h.1 :: st) (h.1 + 1, va_up h.2 h.1 (.inl (0, N, .inl (fun _ => 0)))) Φ) : J Ro d (bc + 1) (bs + N) md pc ls (.int n :: st) h Φ := by
  intro p l e R s m args below meth c H locs cells slots mc ms Q z b dC dI dA las hC hB hK hW hL hR
  have hT := hC.2.2.2.2.2.2.2.1
  have hfc : s.vm.findClass ("[" ++ FieldType.int.toString) = some (dA 0) := (hK.1.2 0 (dA 0, .int) rfl).2
  have hty : newarray.typeOf ArrayType.int = FieldType.int := rfl
  have hcb : componentBytes FieldType.int = 4 := rfl
  have hcl : ∀ cT : ClassId, vp_cell cT (N, .inl (fun _ => 0)) = arrV cT N (fun _ => defaultValue FieldType.int) := fun cT => rfl
  have har : (Cond.arrayClass (newarray.typeOf ArrayType.int)).before args s = true := by rw [hty]; exact hT.use ha rfl args
  have hby : N * componentBytes FieldType.int ≤ 536870912 := by rw [hcb]; omega
  refine jw_newa (atype := ArrayType.int) (ty := FieldType.int) (N' := N) (cT := dA 0) (a0 := (N, .inl (fun _ => 0))) hC.1 hC.2.1 har hty hW.2.2.1 hW.2.2.2 hfc (hcl _) hn hN hby (by omega) (by omega) hd (fun H1 hz hP hS => ?_)
  have ea : H.size = adF z b h.1 := by rw [adF_lt hb]; exact hW.1
  rw [ea, show (adF z b h.1, (Sum.inl (dA 0, N, .inl (fun _ => 0)) : va_E)) = (adF z b h.1, cE (adF z b) dA (.inl (0, N, .inl (fun _ => 0)))) from rfl, wsOf_push] at hP
  rw [ea]
  exact kk p l e R s m args below meth c H1 locs (cells + 1) (slots + N) mc ms Q z b dC dI dA las hC ⟨by omega, by omega, hB.2.2.1, hB.2.2.2⟩ hK ⟨by rw [hz, hW.1]; show z + h.1 + 1 = z + (h.1 + 1); omega, hb, hP, hS⟩ hL hR
theorem J_newZ {n : Int32} {N : Nat} (hd : decode md.2.1 pc = .ok (.newarray .boolean, 2)) (ha : Cond.arrayClass .boolean ∈ lw_tbl) (hn : ¬ n < 0) (hN : n.toNatClampNeg = N) (hN2 : N ≤ 100000) (hb : h.1 < jBig) (kk : J Ro d bc bs md (pc + 2) ls (.ref h.1 :: st) (h.1 + 1, va_up h.2 h.1 (.inl (1, N, .inl (fun _ => 0)))) Φ) : J Ro d (bc + 1) (bs + N) md pc ls (.int n :: st) h Φ := by
  intro p l e R s m args below meth c H locs cells slots mc ms Q z b dC dI dA las hC hB hK hW hL hR
  have hT := hC.2.2.2.2.2.2.2.1
  have hfc : s.vm.findClass ("[" ++ FieldType.boolean.toString) = some (dA 1) := (hK.1.2 1 (dA 1, .boolean) rfl).2
  have hty : newarray.typeOf ArrayType.boolean = FieldType.boolean := rfl
  have hcb : componentBytes FieldType.boolean = 1 := rfl
  have hcl : ∀ cT : ClassId, vp_cell cT (N, .inl (fun _ => 0)) = arrV cT N (fun _ => defaultValue FieldType.boolean) := fun cT => rfl
  have har : (Cond.arrayClass (newarray.typeOf ArrayType.boolean)).before args s = true := by rw [hty]; exact hT.use ha rfl args
  have hby : N * componentBytes FieldType.boolean ≤ 536870912 := by rw [hcb]; omega
  refine jw_newa (atype := ArrayType.boolean) (ty := FieldType.boolean) (N' := N) (cT := dA 1) (a0 := (N, .inl (fun _ => 0))) hC.1 hC.2.1 har hty hW.2.2.1 hW.2.2.2 hfc (hcl _) hn hN hby (by omega) (by omega) hd (fun H1 hz hP hS => ?_)
  have ea : H.size = adF z b h.1 := by rw [adF_lt hb]; exact hW.1
  rw [ea, show (adF z b h.1, (Sum.inl (dA 1, N, .inl (fun _ => 0)) : va_E)) = (adF z b h.1, cE (adF z b) dA (.inl (1, N, .inl (fun _ => 0)))) from rfl, wsOf_push] at hP
  rw [ea]
  exact kk p l e R s m args below meth c H1 locs (cells + 1) (slots + N) mc ms Q z b dC dI dA las hC ⟨by omega, by omega, hB.2.2.1, hB.2.2.2⟩ hK ⟨by rw [hz, hW.1]; show z + h.1 + 1 = z + (h.1 + 1); omega, hb, hP, hS⟩ hL hR
theorem J_newQ {n : Int32} {N idx : Nat} (hd : decode md.2.1 pc = .ok (.anewarray idx, 3)) (hl : Cond.classLink md.1.cls idx RX0 ∈ lw_tbl) (hn : ¬ n < 0) (hN : n.toNatClampNeg = N) (hN2 : N ≤ 100000) (hb : h.1 < jBig) (kk : J Ro d bc bs md (pc + 3) ls (.ref h.1 :: st) (h.1 + 1, va_up h.2 h.1 (.inl (2, N, .inr (.inr (.inr (.inr (fun _ => none))))))) Φ) : J Ro d (bc + 1) (bs + N) md pc ls (.int n :: st) h Φ := by
  intro p l e R s m args below meth c H locs cells slots mc ms Q z b dC dI dA las hC hB hK hW hL hR
  have hT := hC.2.2.2.2.2.2.2.1
  obtain ⟨kA, comp, q1, q2, q3, q4⟩ := (hK.1.2 2 (dA 2, .object RX0) rfl).2
  refine jw_newq hC.1 hC.2.1 hC.2.2.2.2.1 (hT.use hl rfl args) hT.2.2 q4 hW.2.2.1 hW.2.2.2 hn hN (by omega) (by omega) (by omega) hd (fun H1 hz hP hS => ?_)
  have ea : H.size = adF z b h.1 := by rw [adF_lt hb]; exact hW.1
  rw [ea, show (adF z b h.1, (Sum.inl (dA 2, N, .inr (.inr (.inr (.inr (fun _ => none))))) : va_E)) = (adF z b h.1, cE (adF z b) dA (.inl (2, N, .inr (.inr (.inr (.inr (fun _ => none))))))) from rfl, wsOf_push] at hP
  rw [ea]
  exact kk p l e R s m args below meth c H1 locs (cells + 1) (slots + N) mc ms Q z b dC dI dA las hC ⟨by omega, by omega, hB.2.2.1, hB.2.2.2⟩ hK ⟨by rw [hz, hW.1]; show z + h.1 + 1 = z + (h.1 + 1); omega, hb, hP, hS⟩ hL hR
theorem J_sld {L : Nat} {xs : Nat → Int32} {i : Int32} (hd : decode md.2.1 pc = .ok (.iaload, 1)) (hr : Ro k = some (L, xs)) (hin : vp_in i L) (kk : J Ro d bc bs md (pc + 1) ls (.int (xs i.toNatClampNeg) :: st) h Φ) : J Ro d bc bs md pc ls (.int i :: .ref k :: st) h Φ := by
  intro p l e R s m args below meth c H locs cells slots mc ms Q z b dC dI dA las hC hB hK hW hL hR
  obtain ⟨q1, q2, q3, q4⟩ := hK.2.2 k L xs hr
  have eb : adF z b k = b k := if_neg (Nat.not_lt.mpr q1)
  have := va_sld hC.1 hC.2.1 q2 q3 (Nat.not_le.mpr q4) hW.2.2.2 hin hd (kk p l e R s m args below meth c H locs cells slots mc ms Q z b dC dI dA las hC hB hK hW hL hR)
  show W p l e R s m args below meth c H locs cells slots Q (F0 m pc las (.int i :: .ref (adF z b k) :: st.map (cv (adF z b))))
  rw [eb]
  exact this
theorem J_slen {L : Nat} {xs : Nat → Int32} (hd : decode md.2.1 pc = .ok (.arraylength, 1)) (hr : Ro k = some (L, xs)) (kk : J Ro d bc bs md (pc + 1) ls (.int (nI L) :: st) h Φ) : J Ro d bc bs md pc ls (.ref k :: st) h Φ := by
  intro p l e R s m args below meth c H locs cells slots mc ms Q z b dC dI dA las hC hB hK hW hL hR
  obtain ⟨q1, q2, q3, q4⟩ := hK.2.2 k L xs hr
  have eb : adF z b k = b k := if_neg (Nat.not_lt.mpr q1)
  have := va_slen hC.1 hC.2.1 q2 q3 (Nat.not_le.mpr q4) hW.2.2.2 hd (kk p l e R s m args below meth c H locs cells slots mc ms Q z b dC dI dA las hC hB hK hW hL hR)
  show W p l e R s m args below meth c H locs cells slots Q (F0 m pc las (.ref (adF z b k) :: st.map (cv (adF z b))))
  rw [eb]
  exact this
end JH

abbrev MD : Type := MethodName × ByteArray × Nat × Option FieldType
abbrev PH : Type := Nat × (Nat → va_E)
abbrev ROs : Type := Nat → Option (Nat × (Nat → Int32))
def jBig : Nat := 1000000
def adF (z : Nat) (b : Nat → Nat) (k : Nat) : Nat := if k < jBig then z + k else b k
def cv (ad : Nat → Nat) (v : Value) : Value := match v with
  | .ref k => .ref (ad k)
  | w => w
theorem cv_cat (ad : Nat → Nat) (v : Value) : (cv ad v).category = v.category := by cases v <;> rfl
theorem cv_cats (ad : Nat → Nat) (st : List Value) : ((st.map (cv ad)).map fun v => v.category).sum = (st.map fun v => v.category).sum := by
  induction st with
  | nil => rfl
  | cons v r ih => simp only [List.map_cons, List.sum_cons, cv_cat, ih]
def cA (ad : Nat → Nat) (x : (Nat → Int32) ⊕ (Nat → Int64) ⊕ (Nat → UInt32) ⊕ (Nat → UInt64) ⊕ (Nat → Option Nat)) : (Nat → Int32) ⊕ (Nat → Int64) ⊕ (Nat → UInt32) ⊕ (Nat → UInt64) ⊕ (Nat → Option Nat) := match x with
  | .inl f => .inl f
  | .inr (.inl f) => .inr (.inl f)
  | .inr (.inr (.inl f)) => .inr (.inr (.inl f))
  | .inr (.inr (.inr (.inl f))) => .inr (.inr (.inr (.inl f)))
  | .inr (.inr (.inr (.inr f))) => .inr (.inr (.inr (.inr (fun j => (f j).map ad))))
def cE (ad dA : Nat → Nat) (e : va_E) : va_E := match e with
  | .inl (t, n, x) => .inl (dA t, n, cA ad x)
  | .inr (ci, fs) => .inr (ci, fs.map (cv ad))
def wsOf (ad dA : Nat → Nat) (h : PH) : va_W := (List.range h.1).map (fun k => (ad k, cE ad dA (h.2 k)))
theorem wsOf_at {ad dA : Nat → Nat} {h : PH} {k : Nat} (hk : k < h.1) : (wsOf ad dA h)[k]? = some (ad k, cE ad dA (h.2 k)) := by
  simp [wsOf, List.getElem?_range hk]
theorem wsOf_inv {ad dA : Nat → Nat} {h : PH} {k : Nat} {q : Nat × va_E} (hq : (wsOf ad dA h)[k]? = some q) : k < h.1 ∧ q = (ad k, cE ad dA (h.2 k)) := by
  by_cases hk : k < h.1
  · rw [wsOf_at hk] at hq
    exact ⟨hk, (Option.some.inj hq).symm⟩
  · simp [wsOf, hk] at hq
theorem wsOf_set {ad dA : Nat → Nat} {h : PH} {k : Nat} {e : va_E} (hk : k < h.1) : (wsOf ad dA h).set k (ad k, cE ad dA e) = wsOf ad dA (h.1, va_up h.2 k e) := by
  apply List.ext_getElem?
  intro i
  by_cases hi : i < h.1
  · rw [wsOf_at (h := (h.1, va_up h.2 k e)) hi]
    by_cases hik : i = k
    · subst hik
      rw [List.getElem?_set_self (by simpa [wsOf] using hi)]
      simp [va_up]
    · rw [List.getElem?_set_ne (Ne.symm hik), wsOf_at hi]
      simp [va_up, hik]
  · simp [wsOf, hi]
theorem wsOf_push {ad dA : Nat → Nat} {h : PH} {e : va_E} : wsOf ad dA h ++ [(ad h.1, cE ad dA e)] = wsOf ad dA (h.1 + 1, va_up h.2 h.1 e) := by
  simp only [wsOf, List.range_succ, List.map_append, List.map_cons, List.map_nil]
  congr 1
  · apply List.map_congr_left
    intro k hk
    have : k < h.1 := List.mem_range.mp hk
    simp [va_up, Nat.ne_of_lt this]
  · simp [va_up]
theorem adF_lt {z k : Nat} {b : Nat → Nat} (h : k < jBig) : adF z b k = z + k := if_pos h
theorem wsOf_D {z : Nat} {b : Nat → Nat} {dA : Nat → Nat} {h : PH} (hb : h.1 ≤ jBig) : va_D (fun q => z ≤ q) (wsOf (adF z b) dA h) := by
  refine ⟨fun i j x y hi hj hxy => ?_, fun k q hk => ?_⟩
  · obtain ⟨h1, rfl⟩ := wsOf_inv hi
    obtain ⟨h2, rfl⟩ := wsOf_inv hj
    have e1 := adF_lt (z := z) (b := b) (Nat.lt_of_lt_of_le h1 hb)
    have e2 := adF_lt (z := z) (b := b) (Nat.lt_of_lt_of_le h2 hb)
    simp only [e1, e2] at hxy
    omega
  · obtain ⟨h1, rfl⟩ := wsOf_inv hk
    show z ≤ adF z b k
    rw [adF_lt (Nat.lt_of_lt_of_le h1 hb)]
    omega
/-- the tables' words that a method carries along -/
def TBL (s : State) : Prop := (∀ w ∈ lw_tbl, goodWord w = true → w.before #[] s = true) ∧ (∀ (o : String) (i : Nat) (y : MethodName) (ho : String), Cond.methodLinkNest o i y ho ∈ lw_tbl → va_Nw (.methodLinkNest o i y ho) s) ∧ va_AO RX0 s
theorem TBL.use {s : State} (h : TBL s) {w : Cond} (hw : w ∈ lw_tbl) (hg : goodWord w = true) (a : Array Value) : w.before a s = true := word_at (State.WarmedH.refl s) (good_of_word hg) (h.1 w hw hg)
theorem TBL.warm {s U : State} (h : TBL s) (hW : s.WarmedH U.vm) : TBL U := ⟨fun w hw hg => word_at hW (good_of_word hg) (h.1 w hw hg), fun o i y ho hw => va_Nw.warmM hW (h.2.1 o i y ho hw), h.2.2.moved hW.alike⟩
def Cx (md : MD) (p : Program) (R : Room) (s : State) (m : MethodId) (meth : Method) (c : Code) (d : Nat) : Prop :=
  p.tables.exec = Jvm.exec ∧ c.code = md.2.1 ∧ meth.sig.returnType = md.2.2.2 ∧ c.maxLocals = md.2.2.1 ∧ s.vm.findClass md.1.cls = some m.cls ∧ meth.locks = false ∧ (md.1.name = "<init>" → meth.name = "<init>") ∧ TBL s ∧ d ≤ R.frames ∧ d * 64 ≤ R.locals
def tysOf (dA : Nat → Nat) : List (ClassId × FieldType) := [(dA 0, .int), (dA 1, .boolean), (dA 2, .object RX0)]
def wTx : String := "horse   kind    age     days    lame    field   wet     hour    gate    horse2  kind2   age2    days2   lame2   place   pair    or      and     not     "
def wBy : List Int32 := [104, 111, 114, 115, 101, 32, 32, 32, 107, 105, 110, 100, 32, 32, 32, 32, 97, 103, 101, 32, 32, 32, 32, 32, 100, 97, 121, 115, 32, 32, 32, 32, 108, 97, 109, 101, 32, 32, 32, 32, 102, 105, 101, 108, 100, 32, 32, 32, 119, 101, 116, 32, 32, 32, 32, 32, 104, 111, 117, 114, 32, 32, 32, 32, 103, 97, 116, 101, 32, 32, 32, 32, 104, 111, 114, 115, 101, 50, 32, 32, 107, 105, 110, 100, 50, 32, 32, 32, 97, 103, 101, 50, 32, 32, 32, 32, 100, 97, 121, 115, 50, 32, 32, 32, 108, 97, 109, 101, 50, 32, 32, 32, 112, 108, 97, 99, 101, 32, 32, 32, 112, 97, 105, 114, 32, 32, 32, 32, 111, 114, 32, 32, 32, 32, 32, 32, 97, 110, 100, 32, 32, 32, 32, 32, 110, 111, 116, 32, 32, 32, 32, 32]
/-- the text of the words: its object and its bytes lie outside, nobody changes them -/
def SX (z : Nat) (b : Nat → Nat) (U : State) : Prop :=
  vk_R "LiveryYard$Tokens" 70 wTx (b (jBig + 1)) U ∧ va_O "java/lang/String" (b (jBig + 1)) (fun q => z ≤ q) U U.heap ∧ va_OF "java/lang/String" "coder" "B" (.int 0) (b (jBig + 1)) (fun q => z ≤ q) U U.heap ∧ va_OF "java/lang/String" "value" "[B" (.ref (b (jBig + 2))) (b (jBig + 1)) (fun q => z ≤ q) U U.heap ∧ va_T .byte (b (jBig + 2)) 152 (fun j => .int (wBy.getD j 0)) (fun q => z ≤ q) U U.heap ∧ va_Z "java/lang/String" "COMPACT_STRINGS" "Z" (.int 1) (fun q => z ≤ q) U U.heap ∧ (va_Z "jdk/internal/util/Preconditions" "SIOOBE_FORMATTER" "Ljava/util/function/BiFunction;" .null (fun q => z ≤ q) U U.heap ∨ va_Z "jdk/internal/util/Preconditions" "SIOOBE_FORMATTER" "Ljava/util/function/BiFunction;" (.ref (b (jBig + 3))) (fun q => z ≤ q) U U.heap)
theorem SX.go {z : Nat} {b : Nat → Nat} {s U : State} (h : SX z b s) (hW : s.WarmedH U.vm) (hq : ∀ a : Nat, a < s.heap.size → ¬ z ≤ a → U.heap[a]? = s.heap[a]?) : SX z b U :=
  ⟨h.1.warm hW, (va_O.moved hW.alike h.2.1).kept hq, (va_OF.moved hW.alike h.2.2.1).kept hq, (va_OF.moved hW.alike h.2.2.2.1).kept hq, (va_T.moved hW.alike h.2.2.2.2.1).kept hq, (va_Z.moved hW.alike h.2.2.2.2.2.1).kept hq, h.2.2.2.2.2.2.imp (fun q => (va_Z.moved hW.alike q).kept hq) (fun q => (va_Z.moved hW.alike q).kept hq)⟩
def KX (z : Nat) (b : Nat → Nat) (dC : Nat → ClassId) (dI : Nat → Nat → Nat) (dA : Nat → Nat) (Ro : ROs) (s : State) : Prop :=
  va_K (dC, dI) vwCl (tysOf dA) s ∧ (z ≤ s.heap.size ∧ SX z b s) ∧ ∀ (k L : Nat) (xs : Nat → Int32), Ro k = some (L, xs) → jBig ≤ k ∧ va_X (b k) L xs s s.heap ∧ b k < s.heap.size ∧ b k < z
def WD (z : Nat) (b : Nat → Nat) (dC : Nat → ClassId) (dI : Nat → Nat → Nat) (dA : Nat → Nat) (s : State) (h : PH) (H : Heap) (locs : List Loc) : Prop :=
  H.size = z + h.1 ∧ h.1 ≤ jBig ∧ va_P (dC, dI) vwCl (wsOf (adF z b) dA h) H ∧ va_S (fun q => z ≤ q) s.heap H locs
/-- the locals -/
def LH (las : Array Slot) (nL : Nat) (ad : Nat → Nat) (ls : List (Option Value)) : Prop := las.size = nL ∧ lv_wf las ∧ ∀ (i : Nat) (v : Value), ls[i]? = some (some v) → las[i]? = some (.val (cv ad v))
def LLf (ad : Nat → Nat) : Nat → List (Option Value) → List (Nat × Value)
  | _, [] => []
  | i, none :: r => LLf ad (i + 1) r
  | i, some v :: r => (i, cv ad v) :: LLf ad (i + 1) r
theorem LLf_in {ad : Nat → Nat} : ∀ (ls : List (Option Value)) (i j : Nat) (w : Value), ls[j]? = some (some w) → (i + j, cv ad w) ∈ LLf ad i ls
  | [], i, j, w, h => by simp at h
  | x :: r, i, 0, w, h => by
    simp at h; subst h
    exact List.mem_cons_self
  | x :: r, i, j + 1, w, h => by
    have h2 := LLf_in (ad := ad) r (i + 1) j w (by simpa using h)
    have e : i + 1 + j = i + (j + 1) := by omega
    rw [e] at h2
    cases x with
    | none => exact h2
    | some v => exact List.mem_cons_of_mem _ h2
theorem LLf_of {ad : Nat → Nat} : ∀ (ls : List (Option Value)) (i : Nat) (q : Nat × Value), q ∈ LLf ad i ls → ∃ (j : Nat) (w : Value), q = (i + j, cv ad w) ∧ ls[j]? = some (some w)
  | [], i, q, h => by simp [LLf] at h
  | none :: r, i, q, h => by
    obtain ⟨j, w, h1, h2⟩ := LLf_of r (i + 1) q h
    exact ⟨j + 1, w, by rw [h1]; congr 1; omega, by simpa using h2⟩
  | some v :: r, i, q, h => by
    rcases List.mem_cons.mp h with h | h
    · exact ⟨0, v, h, rfl⟩
    · obtain ⟨j, w, h1, h2⟩ := LLf_of r (i + 1) q h
      exact ⟨j + 1, w, by rw [h1]; congr 1; omega, by simpa using h2⟩
theorem LH.has {las : Array Slot} {nL : Nat} {ad : Nat → Nat} {ls : List (Option Value)} (h : LH las nL ad ls) : lv_has las nL (LLf ad 0 ls) := by
  refine ⟨h.1, h.2.1, fun q hq => ?_⟩
  obtain ⟨j, w, rfl, h2⟩ := LLf_of ls 0 q hq
  have := h.2.2 j w h2
  simpa using this
def setL : List (Option Value) → Nat → Value → List (Option Value)
  | [], 0, v => [some v]
  | [], n + 1, v => none :: setL [] n v
  | _ :: r, 0, v => some v :: r
  | x :: r, n + 1, v => x :: setL r n v
theorem setL_at : ∀ (ls : List (Option Value)) (i : Nat) (v : Value) (j : Nat) (w : Value), (setL ls i v)[j]? = some (some w) → (j = i ∧ w = v) ∨ (j ≠ i ∧ ls[j]? = some (some w))
  | [], 0, v, j, w, h => by
    cases j with
    | zero => simp [setL] at h; exact Or.inl ⟨rfl, h.symm⟩
    | succ j => simp [setL] at h
  | [], n + 1, v, j, w, h => by
    cases j with
    | zero => simp [setL] at h
    | succ j =>
      rcases setL_at [] n v j w (by simpa [setL] using h) with ⟨h1, h2⟩ | ⟨h1, h2⟩
      · exact Or.inl ⟨by omega, h2⟩
      · simp at h2
  | x :: r, 0, v, j, w, h => by
    cases j with
    | zero => simp [setL] at h; exact Or.inl ⟨rfl, h.symm⟩
    | succ j => exact Or.inr ⟨by omega, by simpa [setL] using h⟩
  | x :: r, n + 1, v, j, w, h => by
    cases j with
    | zero => exact Or.inr ⟨by omega, by simpa [setL] using h⟩
    | succ j =>
      rcases setL_at r n v j w (by simpa [setL] using h) with ⟨h1, h2⟩ | ⟨h1, h2⟩
      · exact Or.inl ⟨by omega, h2⟩
      · exact Or.inr ⟨by omega, by simpa using h2⟩
def noLong (ls : List (Option Value)) (i : Nat) : Bool := match i with
  | 0 => true
  | j + 1 => match ls[j]? with
    | some (some v) => v.category == 1
    | _ => true
theorem LH.store {las : Array Slot} {nL i : Nat} {ad : Nat → Nat} {ls : List (Option Value)} {v : Value} (h : lv_has las nL ((i, cv ad v) :: (LLf ad 0 ls).filter (fun q => !(q.1 == i) && !(q.1 + 1 == i && q.2.category == 2)))) (hn : noLong ls i = true) : LH las nL ad (setL ls i v) := by
  refine ⟨h.1, h.2.1, fun j w hj => ?_⟩
  rcases setL_at ls i v j w hj with ⟨rfl, rfl⟩ | ⟨h1, h2⟩
  · exact h.2.2 _ List.mem_cons_self
  · have h3 := LLf_in (ad := ad) ls 0 j w h2
    rw [Nat.zero_add] at h3
    refine h.2.2 (j, cv ad w) (List.mem_cons_of_mem _ (List.mem_filter.mpr ⟨h3, ?_⟩))
    simp only [Bool.and_eq_true, Bool.not_eq_true', beq_eq_false_iff_ne, ne_eq, Bool.and_eq_false_iff, cv_cat]
    refine ⟨h1, ?_⟩
    by_cases e : j + 1 = i
    · right
      subst e
      simp only [noLong, h2, beq_iff_eq] at hn
      omega
    · exact Or.inl e
def RT (md : MD) (p : Program) (l : Launch) (e : Env) (R : Room) (s : State) (m : MethodId) (args : Array Value) (below : List Frame) (meth : Method) (c : Code) (Q : State → Prop) (mc ms z : Nat) (b : Nat → Nat) (dC : Nat → ClassId) (dI : Nat → Nat → Nat) (dA : Nat → Nat) (Φ : Option Int32 → PH → Prop) : Prop :=
  ∀ (v : Option Int32) (h : PH) (H : Heap) (locs : List Loc) (cells slots pc : Nat) (las : Array Slot), Φ v h → WD z b dC dI dA s h H locs → cells ≤ mc → slots ≤ ms →
    (match v with
      | some x => decode md.2.1 pc = .ok (.ireturn, 1) ∧ ∃ rt, md.2.2.2 = some rt ∧ narrow rt (.int x) = .int x
      | none => decode md.2.1 pc = .ok (.return_, 1) ∧ md.2.2.2 = none) →
    W p l e R s m args below meth c H locs cells slots Q (F0 m pc las (match v with
      | some x => [.int x]
      | none => []))
/-- from here the method comes to its end, with Φ of its answer and of the new heap; d frames deep at most, bc cells of bs slots made at most -/
def J (Ro : ROs) (d bc bs : Nat) (md : MD) (pc : Nat) (ls : List (Option Value)) (st : List Value) (h : PH) (Φ : Option Int32 → PH → Prop) : Prop :=
  ∀ (p : Program) (l : Launch) (e : Env) (R : Room) (s : State) (m : MethodId) (args : Array Value) (below : List Frame) (meth : Method) (c : Code) (H : Heap) (locs : List Loc) (cells slots mc ms : Nat) (Q : State → Prop) (z : Nat) (b : Nat → Nat) (dC : Nat → ClassId) (dI : Nat → Nat → Nat) (dA : Nat → Nat) (las : Array Slot),
    Cx md p R s m meth c d → cells + bc ≤ mc ∧ slots + bs ≤ ms ∧ mc ≤ R.cells ∧ ms ≤ R.slots → KX z b dC dI dA Ro s → WD z b dC dI dA s h H locs → LH las md.2.2.1 (adF z b) ls →
    RT md p l e R s m args below meth c Q mc ms z b dC dI dA Φ → W p l e R s m args below meth c H locs cells slots Q (F0 m pc las (st.map (cv (adF z b))))
section JR
variable {Ro : ROs} {d bc bs : Nat} {md : MD} {pc : Nat} {ls : List (Option Value)} {st : List Value} {h : PH} {Φ : Option Int32 → PH → Prop}
theorem J_iconst {n : Int} {v : Int32} (hd : decode md.2.1 pc = .ok (.iconst n, 1)) (hv : Int32.ofInt n = v) (k : J Ro d bc bs md (pc + 1) ls (.int v :: st) h Φ) : J Ro d bc bs md pc ls (st) h Φ := by
  intro p l e R s m args below meth c H locs cells slots mc ms Q z b dC dI dA las hC hB hK hW hL hR
  exact lv_iconst hC.1 hC.2.1 hd hv (k p l e R s m args below meth c H locs cells slots mc ms Q z b dC dI dA las hC hB hK hW hL hR)
theorem J_bipush {n : Int} {v : Int32} (hd : decode md.2.1 pc = .ok (.bipush n, 2)) (hv : (Int8.ofInt n).toInt32 = v) (k : J Ro d bc bs md (pc + 2) ls (.int v :: st) h Φ) : J Ro d bc bs md pc ls (st) h Φ := by
  intro p l e R s m args below meth c H locs cells slots mc ms Q z b dC dI dA las hC hB hK hW hL hR
  exact lv_bipush hC.1 hC.2.1 hd hv (k p l e R s m args below meth c H locs cells slots mc ms Q z b dC dI dA las hC hB hK hW hL hR)
theorem J_sipush {n : Int} {v : Int32} (hd : decode md.2.1 pc = .ok (.sipush n, 3)) (hv : (Int16.ofInt n).toInt32 = v) (k : J Ro d bc bs md (pc + 3) ls (.int v :: st) h Φ) : J Ro d bc bs md pc ls (st) h Φ := by
  intro p l e R s m args below meth c H locs cells slots mc ms Q z b dC dI dA las hC hB hK hW hL hR
  exact lv_sipush hC.1 hC.2.1 hd hv (k p l e R s m args below meth c H locs cells slots mc ms Q z b dC dI dA las hC hB hK hW hL hR)
theorem J_lconst {n : Fin 2} {v : Int64} (hd : decode md.2.1 pc = .ok (.lconst n, 1)) (hv : Int64.ofNat (n : Nat) = v) (k : J Ro d bc bs md (pc + 1) ls (.long v :: st) h Φ) : J Ro d bc bs md pc ls (st) h Φ := by
  intro p l e R s m args below meth c H locs cells slots mc ms Q z b dC dI dA las hC hB hK hW hL hR
  exact lv_lconst hC.1 hC.2.1 hd hv (k p l e R s m args below meth c H locs cells slots mc ms Q z b dC dI dA las hC hB hK hW hL hR)
theorem J_iadd {x y : Int32} (hd : decode md.2.1 pc = .ok (.iadd, 1)) (k : J Ro d bc bs md (pc + 1) ls (.int (x + y) :: st) h Φ) : J Ro d bc bs md pc ls (.int y :: .int x :: st) h Φ := by
  intro p l e R s m args below meth c H locs cells slots mc ms Q z b dC dI dA las hC hB hK hW hL hR
  exact lv_iadd hC.1 hC.2.1 hd (k p l e R s m args below meth c H locs cells slots mc ms Q z b dC dI dA las hC hB hK hW hL hR)
theorem J_isub {x y : Int32} (hd : decode md.2.1 pc = .ok (.isub, 1)) (k : J Ro d bc bs md (pc + 1) ls (.int (x - y) :: st) h Φ) : J Ro d bc bs md pc ls (.int y :: .int x :: st) h Φ := by
  intro p l e R s m args below meth c H locs cells slots mc ms Q z b dC dI dA las hC hB hK hW hL hR
  exact lv_isub hC.1 hC.2.1 hd (k p l e R s m args below meth c H locs cells slots mc ms Q z b dC dI dA las hC hB hK hW hL hR)
theorem J_imul {x y : Int32} (hd : decode md.2.1 pc = .ok (.imul, 1)) (k : J Ro d bc bs md (pc + 1) ls (.int (x * y) :: st) h Φ) : J Ro d bc bs md pc ls (.int y :: .int x :: st) h Φ := by
  intro p l e R s m args below meth c H locs cells slots mc ms Q z b dC dI dA las hC hB hK hW hL hR
  exact lv_imul hC.1 hC.2.1 hd (k p l e R s m args below meth c H locs cells slots mc ms Q z b dC dI dA las hC hB hK hW hL hR)
theorem J_iand {x y : Int32} (hd : decode md.2.1 pc = .ok (.iand, 1)) (k : J Ro d bc bs md (pc + 1) ls (.int (x &&& y) :: st) h Φ) : J Ro d bc bs md pc ls (.int y :: .int x :: st) h Φ := by
  intro p l e R s m args below meth c H locs cells slots mc ms Q z b dC dI dA las hC hB hK hW hL hR
  exact lv_iand hC.1 hC.2.1 hd (k p l e R s m args below meth c H locs cells slots mc ms Q z b dC dI dA las hC hB hK hW hL hR)
theorem J_ior {x y : Int32} (hd : decode md.2.1 pc = .ok (.ior, 1)) (k : J Ro d bc bs md (pc + 1) ls (.int (x ||| y) :: st) h Φ) : J Ro d bc bs md pc ls (.int y :: .int x :: st) h Φ := by
  intro p l e R s m args below meth c H locs cells slots mc ms Q z b dC dI dA las hC hB hK hW hL hR
  exact lv_ior hC.1 hC.2.1 hd (k p l e R s m args below meth c H locs cells slots mc ms Q z b dC dI dA las hC hB hK hW hL hR)
theorem J_ishl {x y : Int32} (hd : decode md.2.1 pc = .ok (.ishl, 1)) (k : J Ro d bc bs md (pc + 1) ls (.int (x <<< (y &&& 31)) :: st) h Φ) : J Ro d bc bs md pc ls (.int y :: .int x :: st) h Φ := by
  intro p l e R s m args below meth c H locs cells slots mc ms Q z b dC dI dA las hC hB hK hW hL hR
  exact lv_ishl hC.1 hC.2.1 hd (k p l e R s m args below meth c H locs cells slots mc ms Q z b dC dI dA las hC hB hK hW hL hR)
theorem J_ishr {x y : Int32} (hd : decode md.2.1 pc = .ok (.ishr, 1)) (k : J Ro d bc bs md (pc + 1) ls (.int (x >>> (y &&& 31)) :: st) h Φ) : J Ro d bc bs md pc ls (.int y :: .int x :: st) h Φ := by
  intro p l e R s m args below meth c H locs cells slots mc ms Q z b dC dI dA las hC hB hK hW hL hR
  exact lv_ishr hC.1 hC.2.1 hd (k p l e R s m args below meth c H locs cells slots mc ms Q z b dC dI dA las hC hB hK hW hL hR)
theorem J_idiv {x y : Int32} (hd : decode md.2.1 pc = .ok (.idiv, 1)) (hne : ¬ y = 0) (k : J Ro d bc bs md (pc + 1) ls (.int (x / y) :: st) h Φ) : J Ro d bc bs md pc ls (.int y :: .int x :: st) h Φ := by
  intro p l e R s m args below meth c H locs cells slots mc ms Q z b dC dI dA las hC hB hK hW hL hR
  exact lv_idiv hC.1 hC.2.1 hd hne (k p l e R s m args below meth c H locs cells slots mc ms Q z b dC dI dA las hC hB hK hW hL hR)
theorem J_irem {x y : Int32} (hd : decode md.2.1 pc = .ok (.irem, 1)) (hne : ¬ y = 0) (k : J Ro d bc bs md (pc + 1) ls (.int (x - x / y * y) :: st) h Φ) : J Ro d bc bs md pc ls (.int y :: .int x :: st) h Φ := by
  intro p l e R s m args below meth c H locs cells slots mc ms Q z b dC dI dA las hC hB hK hW hL hR
  exact lv_irem hC.1 hC.2.1 hd hne (k p l e R s m args below meth c H locs cells slots mc ms Q z b dC dI dA las hC hB hK hW hL hR)
theorem J_i2l {x : Int32} (hd : decode md.2.1 pc = .ok (.i2l, 1)) (k : J Ro d bc bs md (pc + 1) ls (.long x.toInt64 :: st) h Φ) : J Ro d bc bs md pc ls (.int x :: st) h Φ := by
  intro p l e R s m args below meth c H locs cells slots mc ms Q z b dC dI dA las hC hB hK hW hL hR
  exact lv_i2l hC.1 hC.2.1 hd rfl (k p l e R s m args below meth c H locs cells slots mc ms Q z b dC dI dA las hC hB hK hW hL hR)
theorem J_lshl {x : Int64} {y : Int32} (hd : decode md.2.1 pc = .ok (.lshl, 1)) (k : J Ro d bc bs md (pc + 1) ls (.long (x <<< (y.toInt64 &&& 63)) :: st) h Φ) : J Ro d bc bs md pc ls (.int y :: .long x :: st) h Φ := by
  intro p l e R s m args below meth c H locs cells slots mc ms Q z b dC dI dA las hC hB hK hW hL hR
  exact lv_lshl hC.1 hC.2.1 hd rfl (k p l e R s m args below meth c H locs cells slots mc ms Q z b dC dI dA las hC hB hK hW hL hR)
theorem J_lor {x y : Int64} (hd : decode md.2.1 pc = .ok (.lor, 1)) (k : J Ro d bc bs md (pc + 1) ls (.long (x ||| y) :: st) h Φ) : J Ro d bc bs md pc ls (.long y :: .long x :: st) h Φ := by
  intro p l e R s m args below meth c H locs cells slots mc ms Q z b dC dI dA las hC hB hK hW hL hR
  exact lv_lor hC.1 hC.2.1 hd (k p l e R s m args below meth c H locs cells slots mc ms Q z b dC dI dA las hC hB hK hW hL hR)
theorem J_lcmp {x y : Int64} (hd : decode md.2.1 pc = .ok (.lcmp, 1)) (k : J Ro d bc bs md (pc + 1) ls (.int (lg_cmp x y) :: st) h Φ) : J Ro d bc bs md pc ls (.long y :: .long x :: st) h Φ := by
  intro p l e R s m args below meth c H locs cells slots mc ms Q z b dC dI dA las hC hB hK hW hL hR
  exact W.lcmp hC.1 hC.2.1 hd (k p l e R s m args below meth c H locs cells slots mc ms Q z b dC dI dA las hC hB hK hW hL hR)
theorem J_iload_n {k : Fin 4} {x : Int32} (hd : decode md.2.1 pc = .ok (.iload_n k, 1)) (hl : ls[(k : Nat)]? = some (some (.int x))) (k : J Ro d bc bs md (pc + 1) ls (.int x :: st) h Φ) : J Ro d bc bs md pc ls (st) h Φ := by
  intro p l e R s m args below meth c H locs cells slots mc ms Q z b dC dI dA las hC hB hK hW hL hR
  exact lv_iload_n hC.1 hC.2.1 hd rfl (hL.2.2 _ _ hl) (k p l e R s m args below meth c H locs cells slots mc ms Q z b dC dI dA las hC hB hK hW hL hR)
theorem J_lload_n {k : Fin 4} {x : Int64} (hd : decode md.2.1 pc = .ok (.lload_n k, 1)) (hl : ls[(k : Nat)]? = some (some (.long x))) (k : J Ro d bc bs md (pc + 1) ls (.long x :: st) h Φ) : J Ro d bc bs md pc ls (st) h Φ := by
  intro p l e R s m args below meth c H locs cells slots mc ms Q z b dC dI dA las hC hB hK hW hL hR
  exact lv_lload_n hC.1 hC.2.1 hd rfl (hL.2.2 _ _ hl) (k p l e R s m args below meth c H locs cells slots mc ms Q z b dC dI dA las hC hB hK hW hL hR)
theorem J_iload {i : Nat} {x : Int32} (hd : decode md.2.1 pc = .ok (.iload i, 2)) (hl : ls[i]? = some (some (.int x))) (k : J Ro d bc bs md (pc + 2) ls (.int x :: st) h Φ) : J Ro d bc bs md pc ls (st) h Φ := by
  intro p l e R s m args below meth c H locs cells slots mc ms Q z b dC dI dA las hC hB hK hW hL hR
  exact lv_iload hC.1 hC.2.1 hd (hL.2.2 _ _ hl) (k p l e R s m args below meth c H locs cells slots mc ms Q z b dC dI dA las hC hB hK hW hL hR)
theorem J_aload_n {k : Fin 4} {x : Nat} (hd : decode md.2.1 pc = .ok (.aload_n k, 1)) (hl : ls[(k : Nat)]? = some (some (.ref x))) (k : J Ro d bc bs md (pc + 1) ls (.ref x :: st) h Φ) : J Ro d bc bs md pc ls (st) h Φ := by
  intro p l e R s m args below meth c H locs cells slots mc ms Q z b dC dI dA las hC hB hK hW hL hR
  exact lv_aload_n hC.1 hC.2.1 hd rfl (hL.2.2 _ _ hl) (k p l e R s m args below meth c H locs cells slots mc ms Q z b dC dI dA las hC hB hK hW hL hR)
theorem J_aload {i x : Nat} (hd : decode md.2.1 pc = .ok (.aload i, 2)) (hl : ls[i]? = some (some (.ref x))) (k : J Ro d bc bs md (pc + 2) ls (.ref x :: st) h Φ) : J Ro d bc bs md pc ls (st) h Φ := by
  intro p l e R s m args below meth c H locs cells slots mc ms Q z b dC dI dA las hC hB hK hW hL hR
  exact lv_aload hC.1 hC.2.1 hd (hL.2.2 _ _ hl) (k p l e R s m args below meth c H locs cells slots mc ms Q z b dC dI dA las hC hB hK hW hL hR)
theorem J_dup {v : Value} (hd : decode md.2.1 pc = .ok (.dup, 1)) (hv : v.category = 1) (k : J Ro d bc bs md (pc + 1) ls (v :: v :: st) h Φ) : J Ro d bc bs md pc ls (v :: st) h Φ := by
  intro p l e R s m args below meth c H locs cells slots mc ms Q z b dC dI dA las hC hB hK hW hL hR
  exact lv_dup hC.1 hC.2.1 hd ((cv_cat _ _).trans hv) (k p l e R s m args below meth c H locs cells slots mc ms Q z b dC dI dA las hC hB hK hW hL hR)
theorem J_dup2 {v w : Value} (hd : decode md.2.1 pc = .ok (.dup2, 1)) (hv : v.category = 1) (hw : w.category = 1) (k : J Ro d bc bs md (pc + 1) ls (v :: w :: v :: w :: st) h Φ) : J Ro d bc bs md pc ls (v :: w :: st) h Φ := by
  intro p l e R s m args below meth c H locs cells slots mc ms Q z b dC dI dA las hC hB hK hW hL hR
  exact lv_dup2_11 hC.1 hC.2.1 hd ((cv_cat _ _).trans hv) ((cv_cat _ _).trans hw) (k p l e R s m args below meth c H locs cells slots mc ms Q z b dC dI dA las hC hB hK hW hL hR)
theorem J_ldc {index : Nat} {v : Int32} (hd : decode md.2.1 pc = .ok (.ldc index, 2)) (hc : Cond.constant md.1.cls index v ∈ lw_tbl) (k : J Ro d bc bs md (pc + 2) ls (.int v :: st) h Φ) : J Ro d bc bs md pc ls st h Φ := by
  intro p l e R s m args below meth c H locs cells slots mc ms Q z b dC dI dA las hC hB hK hW hL hR
  exact lv_ldc hC.1 hC.2.1 hC.2.2.2.2.1 (hC.2.2.2.2.2.2.2.1.use hc rfl args) hd (k p l e R s m args below meth c H locs cells slots mc ms Q z b dC dI dA las hC hB hK hW hL hR)
theorem J_ldc2 {index : Nat} {v : Int64} (hd : decode md.2.1 pc = .ok (.ldc2_w index, 3)) (hc : Cond.constantLong md.1.cls index v ∈ lw_tbl) (k : J Ro d bc bs md (pc + 3) ls (.long v :: st) h Φ) : J Ro d bc bs md pc ls st h Φ := by
  intro p l e R s m args below meth c H locs cells slots mc ms Q z b dC dI dA las hC hB hK hW hL hR
  exact lv_ldc2 hC.1 hC.2.1 hC.2.2.2.2.1 (hC.2.2.2.2.2.2.2.1.use hc rfl args) hd (k p l e R s m args below meth c H locs cells slots mc ms Q z b dC dI dA las hC hB hK hW hL hR)
theorem J_istore_n {j : Fin 4} {x : Int32} (hd : decode md.2.1 pc = .ok (.istore_n j, 1)) (hn : (j : Nat) < md.2.2.1) (hq : noLong ls (j : Nat) = true) (k : J Ro d bc bs md (pc + 1) (setL ls (j : Nat) (.int x)) st h Φ) : J Ro d bc bs md pc ls (.int x :: st) h Φ := by
  intro p l e R s m args below meth c H locs cells slots mc ms Q z b dC dI dA las hC hB hK hW hL hR
  exact lv_istore_n hC.1 hC.2.1 hd rfl hL.has hn rfl (fun las2 hL2 => k p l e R s m args below meth c H locs cells slots mc ms Q z b dC dI dA las2 hC hB hK hW (LH.store hL2 hq) hR)
theorem J_istore {j : Nat} {x : Int32} (hd : decode md.2.1 pc = .ok (.istore j, 2)) (hn : j < md.2.2.1) (hq : noLong ls j = true) (k : J Ro d bc bs md (pc + 2) (setL ls j (.int x)) st h Φ) : J Ro d bc bs md pc ls (.int x :: st) h Φ := by
  intro p l e R s m args below meth c H locs cells slots mc ms Q z b dC dI dA las hC hB hK hW hL hR
  exact lv_istore hC.1 hC.2.1 hd hL.has hn rfl (fun las2 hL2 => k p l e R s m args below meth c H locs cells slots mc ms Q z b dC dI dA las2 hC hB hK hW (LH.store hL2 hq) hR)
theorem J_astore_n {j : Fin 4} {x : Nat} (hd : decode md.2.1 pc = .ok (.astore_n j, 1)) (hn : (j : Nat) < md.2.2.1) (hq : noLong ls (j : Nat) = true) (k : J Ro d bc bs md (pc + 1) (setL ls (j : Nat) (.ref x)) st h Φ) : J Ro d bc bs md pc ls (.ref x :: st) h Φ := by
  intro p l e R s m args below meth c H locs cells slots mc ms Q z b dC dI dA las hC hB hK hW hL hR
  exact lv_astore_n hC.1 hC.2.1 hd rfl hL.has hn rfl (fun las2 hL2 => k p l e R s m args below meth c H locs cells slots mc ms Q z b dC dI dA las2 hC hB hK hW (LH.store hL2 hq) hR)
theorem J_iinc {i : Nat} {n : Int} {x v : Int32} (hd : decode md.2.1 pc = .ok (.iinc i n, 3)) (hl : ls[i]? = some (some (.int x))) (hv : x + Int32.ofInt n = v) (hn : i < md.2.2.1) (hq : noLong ls i = true) (k : J Ro d bc bs md (pc + 3) (setL ls i (.int v)) st h Φ) : J Ro d bc bs md pc ls st h Φ := by
  intro p l e R s m args below meth c H locs cells slots mc ms Q z b dC dI dA las hC hB hK hW hL hR
  have h0 := LLf_in (ad := adF z b) ls 0 i (.int x) hl
  rw [Nat.zero_add] at h0
  obtain ⟨kq, hkq⟩ := List.getElem?_of_mem h0
  exact lv_iinc hC.1 hC.2.1 hd hL.has hkq hv hn rfl (fun las2 hL2 => k p l e R s m args below meth c H locs cells slots mc ms Q z b dC dI dA las2 hC hB hK hW (LH.store hL2 hq) hR)
theorem J_if_eq {x : Int32} {off : Int} {tgt : Nat} (hd : decode md.2.1 pc = .ok (.ifCond .eq off, 3)) (ht : (pc : Int) + off = (tgt : Int)) (kt : x = 0 → J Ro d bc bs md tgt ls st h Φ) (kf : ¬ x = 0 → J Ro d bc bs md (pc + 3) ls st h Φ) : J Ro d bc bs md pc ls (.int x :: st) h Φ := by
  intro p l e R s m args below meth c H locs cells slots mc ms Q z b dC dI dA las hC hB hK hW hL hR
  exact lv_if_eq hC.1 hC.2.1 hd ht (fun q => kt q p l e R s m args below meth c H locs cells slots mc ms Q z b dC dI dA las hC hB hK hW hL hR) (fun q => kf q p l e R s m args below meth c H locs cells slots mc ms Q z b dC dI dA las hC hB hK hW hL hR)
theorem J_icmp_eq {x y : Int32} {off : Int} {tgt : Nat} (hd : decode md.2.1 pc = .ok (.if_icmp .eq off, 3)) (ht : (pc : Int) + off = (tgt : Int)) (kt : x = y → J Ro d bc bs md tgt ls st h Φ) (kf : ¬ x = y → J Ro d bc bs md (pc + 3) ls st h Φ) : J Ro d bc bs md pc ls (.int y :: .int x :: st) h Φ := by
  intro p l e R s m args below meth c H locs cells slots mc ms Q z b dC dI dA las hC hB hK hW hL hR
  exact lv_icmp_eq hC.1 hC.2.1 hd ht (fun q => kt q p l e R s m args below meth c H locs cells slots mc ms Q z b dC dI dA las hC hB hK hW hL hR) (fun q => kf q p l e R s m args below meth c H locs cells slots mc ms Q z b dC dI dA las hC hB hK hW hL hR)
theorem J_if_ne {x : Int32} {off : Int} {tgt : Nat} (hd : decode md.2.1 pc = .ok (.ifCond .ne off, 3)) (ht : (pc : Int) + off = (tgt : Int)) (kt : ¬ x = 0 → J Ro d bc bs md tgt ls st h Φ) (kf : x = 0 → J Ro d bc bs md (pc + 3) ls st h Φ) : J Ro d bc bs md pc ls (.int x :: st) h Φ := by
  intro p l e R s m args below meth c H locs cells slots mc ms Q z b dC dI dA las hC hB hK hW hL hR
  exact lv_if_ne hC.1 hC.2.1 hd ht (fun q => kt q p l e R s m args below meth c H locs cells slots mc ms Q z b dC dI dA las hC hB hK hW hL hR) (fun q => kf q p l e R s m args below meth c H locs cells slots mc ms Q z b dC dI dA las hC hB hK hW hL hR)
theorem J_icmp_ne {x y : Int32} {off : Int} {tgt : Nat} (hd : decode md.2.1 pc = .ok (.if_icmp .ne off, 3)) (ht : (pc : Int) + off = (tgt : Int)) (kt : ¬ x = y → J Ro d bc bs md tgt ls st h Φ) (kf : x = y → J Ro d bc bs md (pc + 3) ls st h Φ) : J Ro d bc bs md pc ls (.int y :: .int x :: st) h Φ := by
  intro p l e R s m args below meth c H locs cells slots mc ms Q z b dC dI dA las hC hB hK hW hL hR
  exact lv_icmp_ne hC.1 hC.2.1 hd ht (fun q => kt q p l e R s m args below meth c H locs cells slots mc ms Q z b dC dI dA las hC hB hK hW hL hR) (fun q => kf q p l e R s m args below meth c H locs cells slots mc ms Q z b dC dI dA las hC hB hK hW hL hR)
theorem J_if_lt {x : Int32} {off : Int} {tgt : Nat} (hd : decode md.2.1 pc = .ok (.ifCond .lt off, 3)) (ht : (pc : Int) + off = (tgt : Int)) (kt : x < 0 → J Ro d bc bs md tgt ls st h Φ) (kf : ¬ x < 0 → J Ro d bc bs md (pc + 3) ls st h Φ) : J Ro d bc bs md pc ls (.int x :: st) h Φ := by
  intro p l e R s m args below meth c H locs cells slots mc ms Q z b dC dI dA las hC hB hK hW hL hR
  exact lv_if_lt hC.1 hC.2.1 hd ht (fun q => kt q p l e R s m args below meth c H locs cells slots mc ms Q z b dC dI dA las hC hB hK hW hL hR) (fun q => kf q p l e R s m args below meth c H locs cells slots mc ms Q z b dC dI dA las hC hB hK hW hL hR)
theorem J_icmp_lt {x y : Int32} {off : Int} {tgt : Nat} (hd : decode md.2.1 pc = .ok (.if_icmp .lt off, 3)) (ht : (pc : Int) + off = (tgt : Int)) (kt : x < y → J Ro d bc bs md tgt ls st h Φ) (kf : ¬ x < y → J Ro d bc bs md (pc + 3) ls st h Φ) : J Ro d bc bs md pc ls (.int y :: .int x :: st) h Φ := by
  intro p l e R s m args below meth c H locs cells slots mc ms Q z b dC dI dA las hC hB hK hW hL hR
  exact lv_icmp_lt hC.1 hC.2.1 hd ht (fun q => kt q p l e R s m args below meth c H locs cells slots mc ms Q z b dC dI dA las hC hB hK hW hL hR) (fun q => kf q p l e R s m args below meth c H locs cells slots mc ms Q z b dC dI dA las hC hB hK hW hL hR)
theorem J_if_ge {x : Int32} {off : Int} {tgt : Nat} (hd : decode md.2.1 pc = .ok (.ifCond .ge off, 3)) (ht : (pc : Int) + off = (tgt : Int)) (kt : 0 ≤ x → J Ro d bc bs md tgt ls st h Φ) (kf : ¬ 0 ≤ x → J Ro d bc bs md (pc + 3) ls st h Φ) : J Ro d bc bs md pc ls (.int x :: st) h Φ := by
  intro p l e R s m args below meth c H locs cells slots mc ms Q z b dC dI dA las hC hB hK hW hL hR
  exact lv_if_ge hC.1 hC.2.1 hd ht (fun q => kt q p l e R s m args below meth c H locs cells slots mc ms Q z b dC dI dA las hC hB hK hW hL hR) (fun q => kf q p l e R s m args below meth c H locs cells slots mc ms Q z b dC dI dA las hC hB hK hW hL hR)
theorem J_icmp_ge {x y : Int32} {off : Int} {tgt : Nat} (hd : decode md.2.1 pc = .ok (.if_icmp .ge off, 3)) (ht : (pc : Int) + off = (tgt : Int)) (kt : y ≤ x → J Ro d bc bs md tgt ls st h Φ) (kf : ¬ y ≤ x → J Ro d bc bs md (pc + 3) ls st h Φ) : J Ro d bc bs md pc ls (.int y :: .int x :: st) h Φ := by
  intro p l e R s m args below meth c H locs cells slots mc ms Q z b dC dI dA las hC hB hK hW hL hR
  exact lv_icmp_ge hC.1 hC.2.1 hd ht (fun q => kt q p l e R s m args below meth c H locs cells slots mc ms Q z b dC dI dA las hC hB hK hW hL hR) (fun q => kf q p l e R s m args below meth c H locs cells slots mc ms Q z b dC dI dA las hC hB hK hW hL hR)
theorem J_if_gt {x : Int32} {off : Int} {tgt : Nat} (hd : decode md.2.1 pc = .ok (.ifCond .gt off, 3)) (ht : (pc : Int) + off = (tgt : Int)) (kt : 0 < x → J Ro d bc bs md tgt ls st h Φ) (kf : ¬ 0 < x → J Ro d bc bs md (pc + 3) ls st h Φ) : J Ro d bc bs md pc ls (.int x :: st) h Φ := by
  intro p l e R s m args below meth c H locs cells slots mc ms Q z b dC dI dA las hC hB hK hW hL hR
  exact lv_if_gt hC.1 hC.2.1 hd ht (fun q => kt q p l e R s m args below meth c H locs cells slots mc ms Q z b dC dI dA las hC hB hK hW hL hR) (fun q => kf q p l e R s m args below meth c H locs cells slots mc ms Q z b dC dI dA las hC hB hK hW hL hR)
theorem J_icmp_gt {x y : Int32} {off : Int} {tgt : Nat} (hd : decode md.2.1 pc = .ok (.if_icmp .gt off, 3)) (ht : (pc : Int) + off = (tgt : Int)) (kt : y < x → J Ro d bc bs md tgt ls st h Φ) (kf : ¬ y < x → J Ro d bc bs md (pc + 3) ls st h Φ) : J Ro d bc bs md pc ls (.int y :: .int x :: st) h Φ := by
  intro p l e R s m args below meth c H locs cells slots mc ms Q z b dC dI dA las hC hB hK hW hL hR
  exact lv_icmp_gt hC.1 hC.2.1 hd ht (fun q => kt q p l e R s m args below meth c H locs cells slots mc ms Q z b dC dI dA las hC hB hK hW hL hR) (fun q => kf q p l e R s m args below meth c H locs cells slots mc ms Q z b dC dI dA las hC hB hK hW hL hR)
theorem J_if_le {x : Int32} {off : Int} {tgt : Nat} (hd : decode md.2.1 pc = .ok (.ifCond .le off, 3)) (ht : (pc : Int) + off = (tgt : Int)) (kt : x ≤ 0 → J Ro d bc bs md tgt ls st h Φ) (kf : ¬ x ≤ 0 → J Ro d bc bs md (pc + 3) ls st h Φ) : J Ro d bc bs md pc ls (.int x :: st) h Φ := by
  intro p l e R s m args below meth c H locs cells slots mc ms Q z b dC dI dA las hC hB hK hW hL hR
  exact lv_if_le hC.1 hC.2.1 hd ht (fun q => kt q p l e R s m args below meth c H locs cells slots mc ms Q z b dC dI dA las hC hB hK hW hL hR) (fun q => kf q p l e R s m args below meth c H locs cells slots mc ms Q z b dC dI dA las hC hB hK hW hL hR)
theorem J_icmp_le {x y : Int32} {off : Int} {tgt : Nat} (hd : decode md.2.1 pc = .ok (.if_icmp .le off, 3)) (ht : (pc : Int) + off = (tgt : Int)) (kt : x ≤ y → J Ro d bc bs md tgt ls st h Φ) (kf : ¬ x ≤ y → J Ro d bc bs md (pc + 3) ls st h Φ) : J Ro d bc bs md pc ls (.int y :: .int x :: st) h Φ := by
  intro p l e R s m args below meth c H locs cells slots mc ms Q z b dC dI dA las hC hB hK hW hL hR
  exact lv_icmp_le hC.1 hC.2.1 hd ht (fun q => kt q p l e R s m args below meth c H locs cells slots mc ms Q z b dC dI dA las hC hB hK hW hL hR) (fun q => kf q p l e R s m args below meth c H locs cells slots mc ms Q z b dC dI dA las hC hB hK hW hL hR)
theorem J_goto {off : Int} {tgt : Nat} (hd : decode md.2.1 pc = .ok (.goto off, 3)) (ht : (pc : Int) + off = (tgt : Int)) (k : J Ro d bc bs md tgt ls st h Φ) : J Ro d bc bs md pc ls st h Φ := by
  intro p l e R s m args below meth c H locs cells slots mc ms Q z b dC dI dA las hC hB hK hW hL hR
  exact lv_goto hC.1 hC.2.1 hd ht (k p l e R s m args below meth c H locs cells slots mc ms Q z b dC dI dA las hC hB hK hW hL hR)
theorem J_lookup {dflt : Int} {ps : Array (Int × Int)} {len : Nat} {x : Int32} {off : Int} {tgt : Nat} (hd : decode md.2.1 pc = .ok (.lookupswitch dflt ps, len)) (hp : (ps.toList.zip (ps.toList.drop 1)).all (fun (a, next) => a.1 < next.1) = true) (ho : Op.lookupswitch.offset ps.toList dflt x.toInt = off) (ht : (pc : Int) + off = (tgt : Int)) (k : J Ro d bc bs md tgt ls st h Φ) : J Ro d bc bs md pc ls (.int x :: st) h Φ := by
  intro p l e R s m args below meth c H locs cells slots mc ms Q z b dC dI dA las hC hB hK hW hL hR
  exact lv_lookup hC.1 hC.2.1 hd hp ho ht (k p l e R s m args below meth c H locs cells slots mc ms Q z b dC dI dA las hC hB hK hW hL hR)
theorem J_tabOut {dflt lo hi : Int} {offs : Array Int} {len : Nat} {x : Int32} {tgt : Nat} (hd : decode md.2.1 pc = .ok (.tableswitch dflt lo hi offs, len)) (hx : x.toInt < lo ∨ hi < x.toInt) (ht : (pc : Int) + dflt = (tgt : Int)) (k : J Ro d bc bs md tgt ls st h Φ) : J Ro d bc bs md pc ls (.int x :: st) h Φ := by
  intro p l e R s m args below meth c H locs cells slots mc ms Q z b dC dI dA las hC hB hK hW hL hR
  exact lv_tableOut hC.1 hC.2.1 hd hx ht (k p l e R s m args below meth c H locs cells slots mc ms Q z b dC dI dA las hC hB hK hW hL hR)
theorem J_tabIn {dflt lo hi : Int} {offs : Array Int} {len : Nat} {x : Int32} {off : Int} {tgt : Nat} (hd : decode md.2.1 pc = .ok (.tableswitch dflt lo hi offs, len)) (h1 : ¬ x.toInt < lo) (h2 : ¬ hi < x.toInt) (ho : offs[(x.toInt - lo).toNat]? = some off) (ht : (pc : Int) + off = (tgt : Int)) (k : J Ro d bc bs md tgt ls st h Φ) : J Ro d bc bs md pc ls (.int x :: st) h Φ := by
  intro p l e R s m args below meth c H locs cells slots mc ms Q z b dC dI dA las hC hB hK hW hL hR
  exact lv_tableIn hC.1 hC.2.1 hd h1 h2 ho ht (k p l e R s m args below meth c H locs cells slots mc ms Q z b dC dI dA las hC hB hK hW hL hR)
theorem J_iret {x : Int32} {rt : FieldType} (hd : decode md.2.1 pc = .ok (.ireturn, 1)) (hr : md.2.2.2 = some rt) (hn : narrow rt (.int x) = .int x) (k : Φ (some x) h) : J Ro d bc bs md pc ls [.int x] h Φ := by
  intro p l e R s m args below meth c H locs cells slots mc ms Q z b dC dI dA las hC hB hK hW hL hR
  exact hR (some x) h H locs cells slots pc las k hW (by omega) (by omega) ⟨hd, rt, hr, hn⟩
theorem J_vret (hd : decode md.2.1 pc = .ok (.return_, 1)) (hr : md.2.2.2 = none) (k : Φ none h) : J Ro d bc bs md pc ls [] h Φ := by
  intro p l e R s m args below meth c H locs cells slots mc ms Q z b dC dI dA las hC hB hK hW hL hR
  exact hR none h H locs cells slots pc las k hW (by omega) (by omega) ⟨hd, hr⟩
theorem J_more {d2 bc2 bs2 : Nat} (h1 : d ≤ d2) (h2 : bc ≤ bc2) (h3 : bs ≤ bs2) (k : J Ro d bc bs md pc ls st h Φ) : J Ro d2 bc2 bs2 md pc ls st h Φ := by
  intro p l e R s m args below meth c H locs cells slots mc ms Q z b dC dI dA las hC hB hK hW hL hR
  exact k p l e R s m args below meth c H locs cells slots mc ms Q z b dC dI dA las ⟨hC.1, hC.2.1, hC.2.2.1, hC.2.2.2.1, hC.2.2.2.2.1, hC.2.2.2.2.2.1, hC.2.2.2.2.2.2.1, hC.2.2.2.2.2.2.2.1, Nat.le_trans h1 hC.2.2.2.2.2.2.2.2.1, Nat.le_trans (Nat.mul_le_mul_right 64 h1) hC.2.2.2.2.2.2.2.2.2⟩ ⟨by omega, by omega, hB.2.2.1, hB.2.2.2⟩ hK hW hL hR
theorem J_post {Ψ : Option Int32 → PH → Prop} (hP : ∀ v g, Φ v g → Ψ v g) (k : J Ro d bc bs md pc ls st h Φ) : J Ro d bc bs md pc ls st h Ψ := by
  intro p l e R s m args below meth c H locs cells slots mc ms Q z b dC dI dA las hC hB hK hW hL hR
  exact k p l e R s m args below meth c H locs cells slots mc ms Q z b dC dI dA las hC hB hK hW hL (fun v g H2 l2 c2 s2 p2 la2 q => hR v g H2 l2 c2 s2 p2 la2 (hP v g q))
end JR

def entL : List Value → List (Option Value)
  | [] => []
  | v :: r => if v.category = 2 then some v :: none :: entL r else some v :: entL r
theorem entL_in (ad : Nat → Nat) : ∀ (vs : List Value) (i0 i : Nat) (v : Value), (entL vs)[i]? = some (some v) → (i0 + i, cv ad v) ∈ lv_args i0 (vs.map (cv ad))
  | [], i0, i, v, h => by simp [entL] at h
  | w :: r, i0, i, v, h => by
    by_cases hc : w.category = 2
    · simp only [entL, hc, if_true] at h
      simp only [List.map_cons, lv_args, cv_cat, hc, if_true]
      match i, h with
      | 0, h =>
        simp at h; subst h
        exact List.mem_cons_self
      | 1, h => simp at h
      | i + 2, h =>
        have h2 := entL_in ad r (i0 + 2) i v (by simpa using h)
        have e : i0 + 2 + i = i0 + (i + 2) := by omega
        rw [e] at h2
        exact List.mem_cons_of_mem _ h2
    · simp only [entL, hc, if_false] at h
      simp only [List.map_cons, lv_args, cv_cat, hc, if_false]
      match i, h with
      | 0, h =>
        simp at h; subst h
        exact List.mem_cons_self
      | i + 1, h =>
        have h2 := entL_in ad r (i0 + 1) i v (by simpa using h)
        have e : i0 + 1 + i = i0 + (i + 1) := by omega
        rw [e] at h2
        exact List.mem_cons_of_mem _ h2
theorem entL_len (ad : Nat → Nat) : ∀ (vs : List Value), (lg_sl (vs.map (cv ad))).length = (entL vs).length
  | [] => rfl
  | w :: r => by
    have ih := entL_len ad r
    by_cases hc : w.category = 2
    · simp only [lg_sl, List.map_cons, List.flatMap_cons, cv_cat, hc, if_true, List.length_append, entL, List.length_cons, List.length_nil] at ih ⊢
      omega
    · simp only [lg_sl, List.map_cons, List.flatMap_cons, cv_cat, hc, if_false, List.length_append, entL, List.length_cons, List.length_nil] at ih ⊢
      omega
def pushR : Option Int32 → List Value → List Value
  | some x, r => .int x :: r
  | none, r => r
def noRo : ROs := fun _ => none
def PcJ (z : Nat) (b : Nat → Nat) (dC : Nat → ClassId) (dI : Nat → Nat → Nat) (dA : Nat → Nat) (as : List Value) (h : PH) : Array Value → State → Prop := fun a U =>
  a = (as.map (cv (adF z b))).toArray ∧ U.heap.size = z + h.1 ∧ h.1 ≤ jBig ∧ va_P (dC, dI) vwCl (wsOf (adF z b) dA h) U.heap ∧ va_K (dC, dI) vwCl (tysOf dA) U ∧ SX z b U ∧ TBL U
def QcJ (z : Nat) (b : Nat → Nat) (dC : Nat → ClassId) (dI : Nat → Nat → Nat) (dA : Nat → Nat) (Φ : Option Int32 → PH → Prop) : Array Value → State → Outcome → State → Prop := fun _ st o t =>
  ∃ (v : Option Int32) (h : PH), o = .returned (v.map Value.int) ∧ Φ v h ∧ t.heap.size = z + h.1 ∧ h.1 ≤ jBig ∧ va_P (dC, dI) vwCl (wsOf (adF z b) dA h) t.heap ∧ st.heap.size ≤ t.heap.size ∧ ∀ q : Nat, q < st.heap.size → ¬ z ≤ q → t.heap[q]? = st.heap[q]?
theorem PcJ_blind {z : Nat} {b : Nat → Nat} {dC : Nat → ClassId} {dI : Nat → Nat → Nat} {dA : Nat → Nat} {as : List Value} {h : PH} : FrameBlind (PcJ z b dC dI dA as h) := by
  intro a U g mk q
  obtain ⟨q0, q1, q2, qP, qK, qS, qT⟩ := q
  exact ⟨q0, q1, q2, qP, va_K.moved (u := U) (U := U.calling g mk a) (Vm.Alike.refl U.vm) qK, qS.go (U := U.calling g mk a) (State.WarmedH.refl U) (fun _ _ _ => rfl), qT.warm (U := U.calling g mk a) (State.WarmedH.refl U)⟩
abbrev rmJ (d bc bs : Nat) : Room := { frames := d, cells := bc, slots := bs, locals := d * 64 }
set_option maxHeartbeats 1000000 in
theorem met_of_J {md : MD} {d bc bs : Nat} {as : List Value} {h : PH} {Φ : Option Int32 → PH → Prop} (hpl : plainName md.1.cls = true) (hlen : (entL as).length ≤ md.2.2.1) (hJ : J noRo d bc bs md 0 (entL as) [] h Φ)
    (l : Launch) (z : Nat) (b : Nat → Nat) (dC : Nat → ClassId) (dI : Nat → Nat → Nat) (dA : Nat → Nat) : Met l md.1 [Cond.code md.1 md.2.1 md.2.2.1 md.2.2.2] (rmJ d bc bs) (PcJ z b dC dI dA as h) (QcJ z b dC dI dA Φ) bc bs (fun q => z ≤ q) := by
  refine Met.ofW (cc := md.2.1) (maxL := md.2.2.1) (ret := md.2.2.2) hpl rfl ?_
  intro p e s m args below meth c s₁ B hml hv
  obtain ⟨rfl, hsz, hbig, hP, hK, hSx, hT⟩ := hv
  have hin : meth.name = md.1.name := (name_of_methodNamed B.named B.method).1
  have hC : Cx md p (rmJ d bc bs) s m meth c d := ⟨B.exec, B.bytes, B.returns, hml, findClass_of_methodNamed B.named, B.notSynchronized, fun q => hin.trans q, hT, Nat.le_refl _, Nat.le_refl _⟩
  have hl := lv_entry (as.map (cv (adF z b))) (n := md.2.2.1) (by rw [entL_len]; exact hlen)
  rw [lg_entry_eq]
  refine hJ p l e (rmJ d bc bs) s m _ below meth c s.heap [] 0 0 bc bs _ z b dC dI dA _ hC ⟨by omega, by omega, Nat.le_refl _, Nat.le_refl _⟩ ⟨hK, ⟨by rw [hsz]; omega, hSx⟩, fun k L xs q => by cases q⟩ ⟨hsz, hbig, hP, va_S.rf⟩ ⟨hl.1, hl.2.1, fun i v hi => ?_⟩ ?_
  · have h2 := entL_in (adF z b) as 0 i v hi
    rw [Nat.zero_add] at h2
    exact hl.2.2 _ h2
  · intro v h' H' locs' cells' slots' pc' las' hΦ hW hc hs hret
    refine W.widen (k := bc) (n := bs) hc hs ?_
    cases v with
    | some x =>
      obtain ⟨hd, rt, hrt, hn⟩ := hret
      exact W.zret B.exec B.bytes (B.returns.trans hrt) hn (fun t ht hWm => ⟨some x, h', rfl, hΦ, by rw [ht]; exact hW.1, hW.2.1, by rw [ht]; exact hW.2.2.1, by rw [ht]; exact hW.2.2.2.1, fun q q1 q2 => by rw [ht]; exact hW.2.2.2.2.1 q q1 q2⟩) hW.2.2.2.2.2 hd B.notSynchronized
    | none =>
      obtain ⟨hd, hrt⟩ := hret
      exact W.vret B.exec B.bytes (B.returns.trans hrt) (fun t ht hWm => ⟨none, h', rfl, hΦ, by rw [ht]; exact hW.1, hW.2.1, by rw [ht]; exact hW.2.2.1, by rw [ht]; exact hW.2.2.2.1, fun q q1 q2 => by rw [ht]; exact hW.2.2.2.2.1 q q1 q2⟩) hW.2.2.2.2.2 hd B.notSynchronized
/-- behind a call -/
theorem jfin {p : Program} {l : Launch} {e : Env} {R : Room} {s : State} {m : MethodId} {args : Array Value} {below : List Frame} {meth : Method} {c : Code} {H : Heap} {locs : List Loc} {cells slots mc ms : Nat} {Q : State → Prop} {z : Nat} {b : Nat → Nat} {dC : Nat → ClassId} {dI : Nat → Nat → Nat} {dA : Nat → Nat} {las : Array Slot}
    {Ro : ROs} {d bc1 bs1 bc2 bs2 : Nat} {md : MD} {pc : Nat} {ls : List (Option Value)} {st0 rest : List Value} {Φ : Option Int32 → PH → Prop} {a : Array Value}
    (hrun : va_Run p l e R s m args below meth c H locs cells slots bc1 bs1 (F0 m pc las st0) (rest.map (cv (adF z b))) (QcJ z b dC dI dA (fun r g => J Ro d bc2 bs2 md (pc + 3) ls (pushR r rest) g Φ) a) (fun q => z ≤ q))
    (hC : Cx md p R s m meth c d) (hB : cells + (bc1 + bc2) ≤ mc ∧ slots + (bs1 + bs2) ≤ ms ∧ mc ≤ R.cells ∧ ms ≤ R.slots) (hK : KX z b dC dI dA Ro s) (hS : va_S (fun q => z ≤ q) s.heap H locs) (hL : LH las md.2.2.1 (adF z b) ls) (hR : RT md p l e R s m args below meth c Q mc ms z b dC dI dA Φ) :
    W p l e R s m args below meth c H locs cells slots Q (F0 m pc las st0) := by
  intro T hT X
  obtain ⟨v, st₀, t, T', L, h0, X', hLo, e1, e2, ⟨v', h', ho, hΦ, hz, hbig, hP, hle, hun⟩, st⟩ := hrun T hT X
  cases ho
  rw [h0] at hle hun
  have hW : WD z b dC dI dA s h' T'.heap (locs ++ L) := by
    refine ⟨by rw [e1]; exact hz, hbig, by rw [e1]; exact hP, Nat.le_trans hS.1 (by rw [e1]; exact hle), fun q h1 h2 => ?_, fun q hq => ?_⟩
    · rw [e1, hun q (Nat.lt_of_lt_of_le h1 hS.1) h2]
      exact hS.2.1 q h1 h2
    · rcases List.mem_append.mp hq with h | h
      · exact hS.2.2 q h
      · exact hLo q h
  obtain ⟨t2, a1, b1⟩ := hΦ p l e R s m args below meth c T'.heap (locs ++ L) (cells + bc1) (slots + bs1) mc ms Q z b dC dI dA las hC ⟨by omega, by omega, hB.2.2.1, hB.2.2.2⟩ hK hW hL hR T' rfl X'
  refine ⟨t2, st t2 ?_, b1⟩
  cases v' <;> exact a1
def MOK (mc : MD) (n : Nat) : Prop := Cond.code mc.1 mc.2.1 mc.2.2.1 mc.2.2.2 ∈ lw_tbl ∧ Cond.initialized mc.1.cls ∈ lw_tbl ∧ plainName mc.1.cls = true ∧ (mc.1.cls ≠ "java/lang/invoke/MethodHandle" ∧ mc.1.cls ≠ "java/lang/invoke/VarHandle") ∧ (parseMethodDescriptor mc.1.desc).map (fun d => d.parameters.length) = some n ∧ mc.2.2.1 ≤ 45
def MOKv (mc : MD) (n : Nat) : Prop := MOK mc n ∧ Cond.instanceMethod mc.1 ∈ lw_tbl ∧ Cond.selects mc.1.cls mc.1 mc.1 ∈ lw_tbl
def MOKs (mc : MD) (n : Nat) : Prop := MOK mc n ∧ Cond.static mc.1 ∈ lw_tbl
def MOKi (mc : MD) (n : Nat) : Prop := MOK mc n ∧ mc.1.name = "<init>" ∧ mc.2.2.2 = none ∧ Cond.instanceMethod mc.1 ∈ lw_tbl
section JC
variable {Ro : ROs} {d bc bs bc2 bs2 : Nat} {md mc : MD} {pc n idx k : Nat} {ls : List (Option Value)} {rest As : List Value} {h : PH} {Φ : Option Int32 → PH → Prop}
theorem jroom {R : Room} {d x : Nat} (h1 : d + 1 ≤ R.frames ∧ (d + 1) * 64 ≤ R.locals) (hx : x ≤ 45) : (rmJ d bc bs).frames + 1 ≤ R.frames ∧ 8 + (x + 11) + (rmJ d bc bs).locals ≤ R.locals := by
  refine ⟨h1.1, ?_⟩
  show 8 + (x + 11) + d * 64 ≤ R.locals
  have := h1.2
  omega
theorem jcb {mc : MD} {n idx d : Nat} {own : String} {R : Room} {s : State} {args : Array Value} (ho : MOK mc n) (hl : Cond.methodLink own idx mc.1 ∈ lw_tbl) (hT : TBL s) (hr : d + 1 ≤ R.frames ∧ (d + 1) * 64 ≤ R.locals) :
    CallB R s args own idx mc.1 mc.2.1 mc.2.2.1 mc.2.2.2 [Cond.code mc.1 mc.2.1 mc.2.2.1 mc.2.2.2] (rmJ d bc bs) bc bs n := by
  obtain ⟨h1, h2, h3, h4, h5, h6⟩ := ho
  have hr2 := jroom (bc := bc) (bs := bs) hr h6
  refine ⟨rfl, rfl, hr2.1, hr2.2, fun w hw a' U hW => ?_, List.mem_cons_self, hT.use h1 rfl args, hT.use h2 rfl args, h4, fun sig q => ?_, hT.use hl rfl args⟩
  · rw [List.mem_singleton.mp hw]
    exact (hT.warm hW).use h1 rfl a'
  · rw [q] at h5
    exact (Option.some.inj h5).symm
theorem jcn {mc : MD} {n idx d : Nat} {own host : String} {R : Room} {s : State} {args : Array Value} (ho : MOK mc n) (hl : Cond.methodLinkNest own idx mc.1 host ∈ lw_tbl) (hT : TBL s) (hr : d + 1 ≤ R.frames ∧ (d + 1) * 64 ≤ R.locals) :
    va_CN R s args own idx mc.1 host mc.2.1 mc.2.2.1 mc.2.2.2 [Cond.code mc.1 mc.2.1 mc.2.2.1 mc.2.2.2] (rmJ d bc bs) bc bs n := by
  obtain ⟨h1, h2, h3, h4, h5, h6⟩ := ho
  have hr2 := jroom (bc := bc) (bs := bs) hr h6
  refine ⟨⟨rfl, rfl, hr2.1, hr2.2, fun w hw a' U hW => ?_, List.mem_cons_self⟩, hT.use h1 rfl args, hT.use h2 rfl args, h4, fun sig q => ?_, va_Nw.use rfl (hT.2.1 _ _ _ _ hl)⟩
  · rw [List.mem_singleton.mp hw]
    exact (hT.warm hW).use h1 rfl a'
  · rw [q] at h5
    exact (Option.some.inj h5).symm
theorem jpre {z : Nat} {b : Nat → Nat} {dC : Nat → ClassId} {dI : Nat → Nat → Nat} {dA : Nat → Nat} {Ro : ROs} {s : State} {h : PH} {H : Heap} {locs : List Loc} {as : List Value} (hT : TBL s) (hK : KX z b dC dI dA Ro s) (hW : WD z b dC dI dA s h H locs) :
    PreS s H (PcJ z b dC dI dA as h) (as.map (cv (adF z b))) :=
  ⟨PcJ_blind, fun U hU hWm => ⟨rfl, by rw [hU]; exact hW.1, hW.2.1, by rw [hU]; exact hW.2.2.1, va_K.moved hWm.alike hK.1, hK.2.1.2.go hWm (fun a h1 h2 => by rw [hU]; exact hW.2.2.2.2.1 a h1 h2), hT.warm hWm⟩⟩
theorem jst {ad : Nat → Nat} {As rest : List Value} : (As.reverse ++ rest).map (cv ad) = (As.map (cv ad)).reverse ++ rest.map (cv ad) := by simp
theorem jrest {m : MethodId} {pc : Nat} {las : Array Slot} {st0 : List Value} {ad : Nat → Nat} (hr : (rest.map fun v => v.category).sum ≤ 8) : 2 * (F0 m pc las st0).monitorRoom + ((rest.map (cv ad)).map fun v => v.category).sum ≤ 8 := by
  rw [cv_cats]
  exact lv_room hr
theorem J_callS (hd : decode md.2.1 pc = .ok (.invokestatic idx, 3)) (hl : Cond.methodLink md.1.cls idx mc.1 ∈ lw_tbl) (ho : MOKs mc n) (hn : As.length = n) (hlen : (entL As).length ≤ mc.2.2.1) (hr : (rest.map fun v => v.category).sum ≤ 8)
    (hJ : J noRo d bc bs mc 0 (entL As) [] h (fun r g => J Ro (d + 1) bc2 bs2 md (pc + 3) ls (pushR r rest) g Φ)) : J Ro (d + 1) (bc + bc2) (bs + bs2) md pc ls (As.reverse ++ rest) h Φ := by
  intro p l e R s m args below meth c H locs cells slots mx ms Q z b dC dI dA las hC hB hK hW hL hR
  have hT := hC.2.2.2.2.2.2.2.1
  rw [jst]
  refine jfin (va_runS (Ts := []) (nL := md.2.2.1) (n := n) ⟨hC.1, hC.2.1, hC.2.2.2.1, hC.2.2.2.2.1, fun w q => by cases q⟩ (met_of_J ho.1.2.2.1 hlen hJ l z b dC dI dA) ⟨jcb ho.1 hl hT hC.2.2.2.2.2.2.2.2, hT.use ho.2 rfl args⟩ (jpre hT hK hW) rfl (by rw [List.length_map]; exact hn) hL.1 rfl (jrest hr) hd ⟨by omega, by omega⟩) hC hB hK hW.2.2.2 hL hR
theorem J_callSN {host : String} (hd : decode md.2.1 pc = .ok (.invokestatic idx, 3)) (hl : Cond.methodLinkNest md.1.cls idx mc.1 host ∈ lw_tbl) (ho : MOKs mc n) (hn : As.length = n) (hlen : (entL As).length ≤ mc.2.2.1) (hr : (rest.map fun v => v.category).sum ≤ 8)
    (hJ : J noRo d bc bs mc 0 (entL As) [] h (fun r g => J Ro (d + 1) bc2 bs2 md (pc + 3) ls (pushR r rest) g Φ)) : J Ro (d + 1) (bc + bc2) (bs + bs2) md pc ls (As.reverse ++ rest) h Φ := by
  intro p l e R s m args below meth c H locs cells slots mx ms Q z b dC dI dA las hC hB hK hW hL hR
  have hT := hC.2.2.2.2.2.2.2.1
  rw [jst]
  refine jfin (va_runSN (Ts := []) (nL := md.2.2.1) (n := n) ⟨hC.1, hC.2.1, hC.2.2.2.1, hC.2.2.2.2.1, fun w q => by cases q⟩ (met_of_J ho.1.2.2.1 hlen hJ l z b dC dI dA) ⟨jcn ho.1 hl hT hC.2.2.2.2.2.2.2.2, hT.use ho.2 rfl args, trivial⟩ (jpre hT hK hW) rfl (by rw [List.length_map]; exact hn) hL.1 rfl (jrest hr) hd ⟨by omega, by omega⟩) hC hB hK hW.2.2.2 hL hR
theorem J_callV {ci : Nat} {fs : List Value} {T : u_T} {N : Nat} (hd : decode md.2.1 pc = .ok (.invokevirtual idx, 3)) (hl : Cond.methodLink md.1.cls idx mc.1 ∈ lw_tbl) (ho : MOKv mc n) (hn : As.length = n) (hlen : (entL (.ref k :: As)).length ≤ mc.2.2.1) (hr : (rest.map fun v => v.category).sum ≤ 8) (hk : k < h.1) (he : h.2 k = .inr (ci, fs)) (hc : vwCl[ci]? = some (mc.1.cls, T, N))
    (hJ : J noRo d bc bs mc 0 (entL (.ref k :: As)) [] h (fun r g => J Ro (d + 1) bc2 bs2 md (pc + 3) ls (pushR r rest) g Φ)) : J Ro (d + 1) (bc + bc2) (bs + bs2) md pc ls (As.reverse ++ .ref k :: rest) h Φ := by
  intro p l e R s m args below meth c H locs cells slots mx ms Q z b dC dI dA las hC hB hK hW hL hR
  have hT := hC.2.2.2.2.2.2.2.1
  rw [jst]
  have he2 : (wsOf (adF z b) dA h)[k]? = some (adF z b k, .inr (ci, fs.map (cv (adF z b)))) := by rw [wsOf_at hk, he]; rfl
  have hp := jpre (as := .ref k :: As) hT hK hW
  refine jfin (va_runV (C := mc.1.cls) (b := adF z b k) (As := As.map (cv (adF z b))) (Ts := []) (nL := md.2.2.1) (n := n) ⟨hC.1, hC.2.1, hC.2.2.2.1, hC.2.2.2.2.1, fun w q => by cases q⟩ (met_of_J ho.1.2.2.1 hlen hJ l z b dC dI dA) ⟨jcb ho.1 hl hT hC.2.2.2.2.2.2.2.2, hT.use ho.2.1 rfl args, hT.use ho.2.2 rfl args⟩ ⟨hp.1, va_recv hK.1 hW.2.2.1 hc he2, hp.2⟩ rfl (by rw [List.length_map]; exact hn) hL.1 rfl (jrest hr) hd ⟨by omega, by omega⟩) hC hB hK hW.2.2.2 hL hR
theorem J_callI (hd : decode md.2.1 pc = .ok (.invokespecial idx, 3)) (hl : Cond.methodLink md.1.cls idx mc.1 ∈ lw_tbl) (ho : MOKi mc n) (hn : As.length = n) (hlen : (entL (.ref k :: As)).length ≤ mc.2.2.1) (hr : (rest.map fun v => v.category).sum ≤ 8)
    (hJ : J noRo d bc bs mc 0 (entL (.ref k :: As)) [] h (fun r g => J Ro (d + 1) bc2 bs2 md (pc + 3) ls (pushR r rest) g Φ)) : J Ro (d + 1) (bc + bc2) (bs + bs2) md pc ls (As.reverse ++ .ref k :: rest) h Φ := by
  intro p l e R s m args below meth c H locs cells slots mx ms Q z b dC dI dA las hC hB hK hW hL hR
  have hT := hC.2.2.2.2.2.2.2.1
  rw [jst]
  have hM := met_of_J ho.1.2.2.1 hlen hJ l z b dC dI dA
  have hcb := jcb (R := R) (args := args) (bc := bc) (bs := bs) ho.1 hl hT hC.2.2.2.2.2.2.2.2
  rw [ho.2.2.1] at hM hcb
  exact jfin (va_runI (b := adF z b k) (As := As.map (cv (adF z b))) (Ts := []) (nL := md.2.2.1) (n := n) ⟨hC.1, hC.2.1, hC.2.2.2.1, hC.2.2.2.2.1, fun w q => by cases q⟩ hM ⟨hcb, ho.2.1, hT.use ho.2.2.2 rfl args⟩ (jpre (as := .ref k :: As) hT hK hW) rfl (by rw [List.length_map]; exact hn) hL.1 rfl (jrest hr) hd ⟨by omega, by omega⟩) hC hB hK hW.2.2.2 hL hR
theorem J_callIN {host : String} (hd : decode md.2.1 pc = .ok (.invokespecial idx, 3)) (hl : Cond.methodLinkNest md.1.cls idx mc.1 host ∈ lw_tbl) (ho : MOKi mc n) (hn : As.length = n) (hlen : (entL (.ref k :: As)).length ≤ mc.2.2.1) (hr : (rest.map fun v => v.category).sum ≤ 8)
    (hJ : J noRo d bc bs mc 0 (entL (.ref k :: As)) [] h (fun r g => J Ro (d + 1) bc2 bs2 md (pc + 3) ls (pushR r rest) g Φ)) : J Ro (d + 1) (bc + bc2) (bs + bs2) md pc ls (As.reverse ++ .ref k :: rest) h Φ := by
  intro p l e R s m args below meth c H locs cells slots mx ms Q z b dC dI dA las hC hB hK hW hL hR
  have hT := hC.2.2.2.2.2.2.2.1
  rw [jst]
  have hM := met_of_J ho.1.2.2.1 hlen hJ l z b dC dI dA
  have hcb := jcn (R := R) (args := args) (bc := bc) (bs := bs) ho.1 hl hT hC.2.2.2.2.2.2.2.2
  rw [ho.2.2.1] at hM hcb
  exact jfin (va_runIN (b := adF z b k) (As := As.map (cv (adF z b))) (Ts := []) (nL := md.2.2.1) (n := n) ⟨hC.1, hC.2.1, hC.2.2.2.1, hC.2.2.2.2.1, fun w q => by cases q⟩ hM ⟨hcb, ho.2.1, hT.use ho.2.2.2 rfl args⟩ (jpre (as := .ref k :: As) hT hK hW) rfl (by rw [List.length_map]; exact hn) hL.1 rfl (jrest hr) hd ⟨by omega, by omega⟩) hC hB hK hW.2.2.2 hL hR
theorem J_obj {st : List Value} (hd : decode md.2.1 pc = .ok (.invokespecial idx, 3)) (hl : Cond.methodLink md.1.cls idx Lib.objectInit ∈ lw_tbl) (h1 : Cond.instanceMethod Lib.objectInit ∈ lw_tbl) (h2 : Cond.code Lib.objectInit ⟨#[0xb1]⟩ 1 none ∈ lw_tbl) (hr : (st.map fun v => v.category).sum ≤ 8)
    (kk : J Ro (d + 1) bc bs md (pc + 3) ls st h Φ) : J Ro (d + 1) bc bs md pc ls (.ref k :: st) h Φ := by
  intro p l e R s m args below meth c H locs cells slots mx ms Q z b dC dI dA las hC hB hK hW hL hR
  have hT := hC.2.2.2.2.2.2.2.1
  refine W.objInit hC.1 hC.2.1 hC.2.2.2.2.1 (hT.use hl rfl args) (hT.use h1 rfl args) (hT.use h2 rfl args) rfl (hL.1.trans hC.2.2.2.1.symm) rfl hd (Nat.le_trans (by omega) hC.2.2.2.2.2.2.2.2.1) ?_ (kk p l e R s m args below meth c H locs cells slots mx ms Q z b dC dI dA las hC hB hK hW hL hR)
  have := jrest (m := m) (pc := pc) (las := las) (st0 := (Value.ref k :: st).map (cv (adF z b))) (rest := st) (ad := adF z b) hr
  have h3 := hC.2.2.2.2.2.2.2.2.2
  omega
end JC

/-! THE CLAIM OUT OF ONE WALK OF THE LAW'S BODY. Your part is whole_start (and what it stands on); all else here is the same for every law, but numbers. -/
def R_law : String := "LiveryYardLaw"
def lw_P (b : Addr) (xs : List Int32) (args : Array Value) (s : State) : Prop := args = #[.ref b] ∧ s.IntsAt b xs ∧ xs.length ≤ 3072 ∧ (Jvm.Cond.and given_1 narrow_1).before args s = true
def lw_Q (_ : Array Value) (s : State) (o : Outcome) (t : State) : Prop := o = .returned (some (.int 1)) ∧ Framed s o t [] 600000 7302249
def lw_Z (below : List Frame) (a : Array Value) (s : State) : State → Prop := fun t => ∃ o, t.status = .running ∧ Ended t below o ∧ lw_Q a s o t
/-- the law's own end, with 1 on the stack, nothing written that was there before, its room as the claim has it -/
theorem lw_ret {p : Program} {l : Launch} {e : Env} {s : State} {m : MethodId} {below : List Frame} {meth : Method} {c : Code} {b : Nat} (hx : p.tables.exec = Jvm.exec) (hb : c.code = code) (hr : meth.sig.returnType = ret) (hlocks : meth.locks = false) {pc : Nat} {H : Heap} {ls : Array Slot} (hdg : decode code pc = .ok (.ireturn, 1)) : W p l e room_1 s m #[Value.ref b] below meth c H [] 600000 7302249 (lw_Z below #[Value.ref b] s) (F0 m pc ls [.int 1]) := by
  intro T hT X
  obtain ⟨fs, hret, hrun, hended, hW, hframe⟩ := X.leave (v := some (.int 1)) (hlocks := hlocks) (fun h => by rw [hr] at h; cases h)
  have hmeth' : T.vm.method? m = some meth := X.method'
  refine ⟨T.setFrames fs, ?_, .returned (some (.int 1)), hrun, hended, rfl, ⟨_, rfl⟩, hW, hframe⟩
  jvm_step X.here [X.here.top, hx, hb, hdg, hmeth', hr, ret, narrow_b1]
  (try refine ⟨rfl, ?_⟩); (try refine ⟨rfl, ?_⟩)
  first | (intro acts; rw [hret _ acts rfl rfl rfl]) | rw [hret _ _ rfl rfl rfl]
  exact Steps.refl _
/-- what holds at the law's entry: the machine, the code, the tables' words (any of lw_tbl by 'hts w (by decide +kernel)'), the script of L ints xs at the cell b, what the Statement gives of the start (any of its parts by flat_of_before) -/
def lw_At (p : Program) (s : State) (m : MethodId) (meth : Method) (c : Code) (b L : Nat) (xs : Nat → Int32) : Prop :=
  p.tables.exec = Jvm.exec ∧ c.code = code ∧ meth.sig.returnType = ret ∧ c.maxLocals = 4 ∧ s.vm.findClass R_law = some m.cls ∧ (∀ w ∈ lw_tbl, w.before #[Value.ref b] s = true) ∧ va_X b L xs s s.heap ∧ b < s.heap.size ∧ meth.locks = false ∧ (Jvm.Cond.and given_1 narrow_1).before #[Value.ref b] s = true
abbrev mL_law : MD := (yL_law, cL_law, 4, some .boolean)
def scr (L : Nat) (xs : Nat → Int32) : ROs := fun k => if k = jBig then some (L, xs) else none
theorem TBL_of {s : State} {a : Array Value} (hts : ∀ w ∈ lw_tbl, w.before a s = true) (hao : Cond.arrayOver (.object RX0) ∈ lw_tbl) : TBL s := by
  refine ⟨fun w hw hg => word_at (State.WarmedH.refl s) (good_of_word hg) (hts w hw), fun o i y ho hw => va_Nw.of rfl (hts _ hw), va_AO.of (hts _ hao)⟩
theorem ar_over : Cond.arrayOver (.object RX0) ∈ lw_tbl := in1 (List.mem_of_getElem? (i := 217) (by decide +kernel))
set_option maxRecDepth 100000 in
set_option maxHeartbeats 4000000 in
/-- the law's walk out of the pure one -/
theorem whole_open (hJ : ∀ (L : Nat) (xs : Nat → Int32), L ≤ 3072 → J (scr L xs) 1000 600000 7302249 mL_law 0 [some (.ref jBig)] [] (0, HS M0) (fun v _ => v = some 1)) {p : Program} {e : Env} {s : State} {m : MethodId} {below : List Frame} {meth : Method} {c : Code} (l : Launch) {b L : Nat} {xs : Nat → Int32} (hL : L ≤ 3072) (C0 : lw_At p s m meth c b L xs) : W p l e room_1 s m #[Value.ref b] below meth c s.heap [] 0 0 (lw_Z below #[Value.ref b] s) (entryFrame m ([Value.ref b] : List Value).toArray 4) := by
  obtain ⟨hx, hb, hr, hml, hown, hts, hX, hbl, hlocks, hgv⟩ := C0
  have hT : TBL s := TBL_of hts ar_over
  obtain ⟨aS, aV, aF, hSX⟩ := str_of hts hgv
  obtain ⟨c0, iS0, hKn0⟩ := u_known (C := RX0) (T := TX0) (N := 5) (n := 5) (hT.us wX0 #[Value.ref b]) (fun _ h => h) (hts (.instantiable RX0 5) (in1 (List.mem_of_getElem? (i := 218) (by decide +kernel))))
  obtain ⟨c1, iS1, hKn1⟩ := u_known (C := RX1) (T := TX1) (N := 7) (n := 7) (hT.us wX1 #[Value.ref b]) (fun _ h => h) (hts (.instantiable RX1 7) (in1 (List.mem_of_getElem? (i := 30) (by decide +kernel))))
  obtain ⟨c2, iS2, hKn2⟩ := u_known (C := RX2) (T := TX2) (N := 4) (n := 4) (hT.us wX2 #[Value.ref b]) (fun _ h => h) (hts (.instantiable RX2 4) (in1 (List.mem_of_getElem? (i := 164) (by decide +kernel))))
  obtain ⟨c3, iS3, hKn3⟩ := u_known (C := RX3) (T := TX3) (N := 4) (n := 4) (hT.us wX3 #[Value.ref b]) (fun _ h => h) (hts (.instantiable RX3 4) (in1 (List.mem_of_getElem? (i := 60) (by decide +kernel))))
  obtain ⟨c4, iS4, hKn4⟩ := u_known (C := RX4) (T := TX4) (N := 4) (n := 4) (hT.us wX4 #[Value.ref b]) (fun _ h => h) (hts (.instantiable RX4 4) (in2 (List.mem_of_getElem? (i := 0) (by decide +kernel))))
  obtain ⟨c5, iS5, hKn5⟩ := u_known (C := RX5) (T := TX5) (N := 6) (n := 6) (hT.us wX5 #[Value.ref b]) (fun _ h => h) (hts (.instantiable RX5 6) (in1 (List.mem_of_getElem? (i := 117) (by decide +kernel))))
  obtain ⟨c6, iS6, hKn6⟩ := u_known (C := RX6) (T := TX6) (N := 9) (n := 9) (hT.us wX6 #[Value.ref b]) (fun _ h => h) (hts (.instantiable RX6 9) (in1 (List.mem_of_getElem? (i := 183) (by decide +kernel))))
  obtain ⟨c7, iS7, hKn7⟩ := u_known (C := RX7) (T := TX7) (N := 6) (n := 6) (hT.us wX7 #[Value.ref b]) (fun _ h => h) (hts (.instantiable RX7 6) (in1 (List.mem_of_getElem? (i := 92) (by decide +kernel))))
  obtain ⟨c8, iS8, hKn8⟩ := u_known (C := RX8) (T := TX8) (N := 2) (n := 2) (hT.us wX8 #[Value.ref b]) (fun _ h => h) (hts (.instantiable RX8 2) (in1 (List.mem_of_getElem? (i := 79) (by decide +kernel))))
  obtain ⟨c9, iS9, hKn9⟩ := u_known (C := RX9) (T := TX9) (N := 5) (n := 5) (hT.us wX9 #[Value.ref b]) (fun _ h => h) (hts (.instantiable RX9 5) (in1 (List.mem_of_getElem? (i := 119) (by decide +kernel))))
  obtain ⟨c10, iS10, hKn10⟩ := u_known (C := RX10) (T := TX10) (N := 7) (n := 7) (hT.us wX10 #[Value.ref b]) (fun _ h => h) (hts (.instantiable RX10 7) (in2 (List.mem_of_getElem? (i := 19) (by decide +kernel))))
  obtain ⟨c11, iS11, hKn11⟩ := u_known (C := RX11) (T := TX11) (N := 13) (n := 13) (hT.us wX11 #[Value.ref b]) (fun _ h => h) (hts (.instantiable RX11 13) (in1 (List.mem_of_getElem? (i := 22) (by decide +kernel))))
  obtain ⟨c12, iS12, hKn12⟩ := u_known (C := RX12) (T := TX12) (N := 60) (n := 60) (hT.us wX12 #[Value.ref b]) (fun _ h => h) (hts (.instantiable RX12 60) (in4 (List.mem_of_getElem? (i := 171) (by decide +kernel))))
  obtain ⟨dC, dI, hKc⟩ : ∃ (dC : Nat → ClassId) (dI : Nat → Nat → Nat), ∀ (k : Nat) (q : vw_C), vwCl[k]? = some q → u_Kn s q.1 q.2.1 q.2.2 (dC k) (dI k) := by
    refine ⟨fun k => if k = 0 then c0 else if k = 1 then c1 else if k = 2 then c2 else if k = 3 then c3 else if k = 4 then c4 else if k = 5 then c5 else if k = 6 then c6 else if k = 7 then c7 else if k = 8 then c8 else if k = 9 then c9 else if k = 10 then c10 else if k = 11 then c11 else c12, fun k => if k = 0 then iS0 else if k = 1 then iS1 else if k = 2 then iS2 else if k = 3 then iS3 else if k = 4 then iS4 else if k = 5 then iS5 else if k = 6 then iS6 else if k = 7 then iS7 else if k = 8 then iS8 else if k = 9 then iS9 else if k = 10 then iS10 else if k = 11 then iS11 else iS12, ?_⟩
    intro k q hq
    match k, hq with
    | 0, hq => cases hq; exact hKn0
    | 1, hq => cases hq; exact hKn1
    | 2, hq => cases hq; exact hKn2
    | 3, hq => cases hq; exact hKn3
    | 4, hq => cases hq; exact hKn4
    | 5, hq => cases hq; exact hKn5
    | 6, hq => cases hq; exact hKn6
    | 7, hq => cases hq; exact hKn7
    | 8, hq => cases hq; exact hKn8
    | 9, hq => cases hq; exact hKn9
    | 10, hq => cases hq; exact hKn10
    | 11, hq => cases hq; exact hKn11
    | 12, hq => cases hq; exact hKn12
    | k + 13, hq => simp [vwCl] at hq
  obtain ⟨cI, kI, compI, fI, gI, eI⟩ := Cond.arrayClass_spec (hts (.arrayClass .int) arr_int)
  obtain ⟨cZ, kZ, compZ, fZ, gZ, eZ⟩ := Cond.arrayClass_spec (hts (.arrayClass .boolean) arr_boolean)
  obtain ⟨compB, cB, kB, fB, iB, gB, eB, nB⟩ := Cond.arrayOver_spec (hts _ ar_over)
  have hK : va_K (dC, dI) vwCl (tysOf (fun t => if t = 0 then cI else if t = 1 then cZ else cB)) s := by
    refine ⟨hKc, fun k q hq => ?_⟩
    match k, hq with
    | 0, hq => cases hq; exact ⟨fun n z => ⟨fun k h => (by cases h), kI, gI, compI, eI⟩, fI⟩
    | 1, hq => cases hq; exact ⟨fun n z => ⟨fun k h => (by cases h), kZ, gZ, compZ, eZ⟩, fZ⟩
    | 2, hq => cases hq; exact ⟨fun n z => ⟨fun k h => (by cases h), kB, gB, compB, eB⟩, kB, compB, gB, eB, fB, nB⟩
    | k + 3, hq => simp [tysOf] at hq
  have hl := lv_entry ([.ref b]) (n := 4) (Nat.le_of_ble_eq_true rfl)
  rw [lg_entry_eq]
  have had : adF s.heap.size (bfn b aS aV aF) jBig = b := (if_neg (Nat.lt_irrefl _)).trans bfn_0
  refine hJ L xs hL p l e room_1 s m _ below meth c s.heap [] 0 0 600000 7302249 _ s.heap.size (bfn b aS aV aF) dC dI (fun t => if t = 0 then cI else if t = 1 then cZ else cB) _ ⟨hx, hb, hr, hml, hown, hlocks, fun q => absurd q (by decide), hT, Nat.le_of_ble_eq_true rfl, Nat.le_of_ble_eq_true rfl⟩ ⟨Nat.le_of_ble_eq_true rfl, Nat.le_of_ble_eq_true rfl, Nat.le_of_ble_eq_true rfl, Nat.le_of_ble_eq_true rfl⟩ ⟨hK, ⟨Nat.le_refl _, hSX _ bfn_1 bfn_2 bfn_3⟩, fun k L2 xs2 q => ?_⟩ ⟨rfl, Nat.zero_le _, fun k q h => by simp [wsOf] at h, va_S.rf⟩ ⟨hl.1, hl.2.1, fun i v hi => ?_⟩ ?_
  · by_cases hk : k = jBig
    · subst hk
      simp only [scr, if_true] at q
      cases q
      rw [bfn_0]
      exact ⟨Nat.le_refl _, hX, hbl, hbl⟩
    · simp [scr, hk] at q
  · match i, hi with
    | 0, hi =>
      simp at hi
      subst hi
      show _ = some (Slot.val (.ref (adF s.heap.size (bfn b aS aV aF) jBig)))
      rw [had]
      exact hl.2.2 (0, .ref b) List.mem_cons_self
    | i + 1, hi => simp at hi
  · intro v h H locs cells slots pc las hv hW hc hs hret
    subst hv
    refine va_forget (fun q hq => hW.2.2.2.2.2 q hq) ?_
    refine W.widen (k := 600000) (n := 7302249) hc hs ?_
    exact lw_ret hx hb hr hlocks hret.1

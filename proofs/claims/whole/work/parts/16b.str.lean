set_option maxRecDepth 100000 in
theorem el_at : ∀ j, j < 152 → (flatC (Jvm.Cond.and given_1 narrow_1))[13 + j]? = some (Cond.eq (.elem (.field (.string "LiveryYard$Tokens" 70) "java/lang/String" "value" "[B") (.int (Int32.ofNat j))) (.int (wBy.getD j 0))) := by decide +kernel
def bfn (b aS aV aF : Nat) : Nat → Nat := fun k => if k = jBig then b else if k = jBig + 1 then aS else if k = jBig + 2 then aV else aF
theorem bfn_0 {b aS aV aF : Nat} : bfn b aS aV aF jBig = b := if_pos rfl
theorem bfn_1 {b aS aV aF : Nat} : bfn b aS aV aF (jBig + 1) = aS := (if_neg (by omega)).trans (if_pos rfl)
theorem bfn_2 {b aS aV aF : Nat} : bfn b aS aV aF (jBig + 2) = aV := (if_neg (by omega)).trans ((if_neg (by omega)).trans (if_pos rfl))
theorem bfn_3 {b aS aV aF : Nat} : bfn b aS aV aF (jBig + 3) = aF := (if_neg (by omega)).trans ((if_neg (by omega)).trans (if_neg (by omega)))
set_option maxRecDepth 100000 in
/-- the text of the words at the start -/
theorem str_of {a : Array Value} {s : State} (hts : ∀ w ∈ lw_tbl, w.before a s = true) (hgv : (Jvm.Cond.and given_1 narrow_1).before a s = true) : ∃ aS aV aF : Nat, ∀ b : Nat → Nat, b (jBig + 1) = aS → b (jBig + 2) = aV → b (jBig + 3) = aF → SX s.heap.size b s := by
  have hs := flat_of_before _ hgv
  have hA : ∀ q : Nat, q < s.heap.size → ¬ s.heap.size ≤ q := fun q h => Nat.not_le.mpr h
  have x9 : (Cond.exactly (Term.string "LiveryYard$Tokens" 70) "java/lang/String").before a s = true := hs _ (List.mem_of_getElem? (i := 9) (by decide +kernel))
  have x10 : (Cond.eq (.field (Term.string "LiveryYard$Tokens" 70) "java/lang/String" "coder" "B") (.int 0)).before a s = true := hs _ (List.mem_of_getElem? (i := 10) (by decide +kernel))
  have x11 : (Cond.arrayOf (.field (Term.string "LiveryYard$Tokens" 70) "java/lang/String" "value" "[B") .byte).before a s = true := hs _ (List.mem_of_getElem? (i := 11) (by decide +kernel))
  have x12 : (Cond.eq (.length (.field (Term.string "LiveryYard$Tokens" 70) "java/lang/String" "value" "[B")) (.int (Int32.ofNat 152))).before a s = true := hs _ (List.mem_of_getElem? (i := 12) (by decide +kernel))
  have x4 : (Cond.eq (.static "java/lang/String" "COMPACT_STRINGS" "Z") (.int 1)).before a s = true := hs _ (List.mem_of_getElem? (i := 4) (by decide +kernel))
  have x5 : (Cond.isRef (.static "jdk/internal/util/Preconditions" "SIOOBE_FORMATTER" "Ljava/util/function/BiFunction;")).before a s = true := hs _ (List.mem_of_getElem? (i := 5) (by decide +kernel))
  have y1 : (Cond.stringRef "LiveryYard$Tokens" 70 wTx).before a s = true := hts _ (in2 (List.mem_of_getElem? (i := 210) (by decide +kernel)))
  have y2 : (Cond.laysStatic "java/lang/String" "COMPACT_STRINGS" "Z").before a s = true := hts _ (in2 (List.mem_of_getElem? (i := 220) (by decide +kernel)))
  have y3 : (Cond.laysStatic "jdk/internal/util/Preconditions" "SIOOBE_FORMATTER" "Ljava/util/function/BiFunction;").before a s = true := hts _ (in2 (List.mem_of_getElem? (i := 236) (by decide +kernel)))
  obtain ⟨adK, adV, hS, hE⟩ := vk_Sof (args := a) (s := s) (N := 1) (tm := fun _ => Term.string "LiveryYard$Tokens" 70) (len := [152]) (byt := [wBy]) (A := fun q => s.heap.size ≤ q)
    (fun i hi => by obtain rfl : i = 0 := by omega
                    decide)
    (fun i hi => x9) (fun i hi => x10) (fun i hi => x11)
    (fun i hi => by obtain rfl : i = 0 := by omega
                    exact x12)
    (fun i hi j hj => by obtain rfl : i = 0 := by omega
                         exact hs _ (List.mem_of_getElem? (el_at j hj)))
    (fun i j hi hj hij => absurd (show i = j by omega) hij) hA
  obtain ⟨h1, h2, h3, h4⟩ := hS.1 0 (by decide)
  have hR : vk_R "LiveryYard$Tokens" 70 wTx (adK 0) s := vk_R.of y1 (hE 0 (by decide))
  have hZ : va_Z "java/lang/String" "COMPACT_STRINGS" "Z" (.int 1) (fun q => s.heap.size ≤ q) s s.heap := va_Zof y2 (hts _ iJ0) (va_eqt x4) hA
  have hF := va_Zqof (A := fun q => s.heap.size ≤ q) y3 (hts _ iJ3) x5 hA
  rcases hF with hF | ⟨t, hF⟩
  · refine ⟨adK 0, adV 0, 0, fun b e1 e2 e3 => ?_⟩
    unfold SX
    rw [e1, e2]
    exact ⟨hR, h1, h2, h3, h4, hZ, Or.inl hF⟩
  · refine ⟨adK 0, adV 0, t, fun b e1 e2 e3 => ?_⟩
    unfold SX
    rw [e1, e2, e3]
    exact ⟨hR, h1, h2, h3, h4, hZ, Or.inr hF⟩

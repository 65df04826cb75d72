section JX
variable {Ro : ROs} {d bc bs : Nat} {md : MD} {pc k : Nat} {ls : List (Option Value)} {st : List Value} {h : PH} {Φ : Option Int32 → PH → Prop}
theorem J_mmax {x y : Int32} {idx : Nat} (hd : decode md.2.1 pc = .ok (.invokestatic idx, 3)) (hl : Cond.methodLink md.1.cls idx yJ9_max_7cf53 ∈ lw_tbl) (hs : Cond.static yJ9_max_7cf53 ∈ lw_tbl) (hi : Cond.initialized "java/lang/Math" ∈ lw_tbl) (hc : Cond.code Lib.Math.max.name Lib.Math.max.code 2 (some .int) ∈ lw_tbl) (hr : (st.map fun v => v.category).sum ≤ 8) (kk : J Ro (d + 1) bc bs md (pc + 3) ls (.int (if x < y then y else x) :: st) h Φ) : J Ro (d + 1) bc bs md pc ls (.int y :: .int x :: st) h Φ := by
  intro p l e R s m args below meth c H locs cells slots mc ms Q z b dC dI dA las hC hB hK hW hL hR
  have hT := hC.2.2.2.2.2.2.2.1
  have h3 := hC.2.2.2.2.2.2.2.2.2
  exact va_mmax hC.1 hC.2.1 (hC.2.2.2.1.trans hL.1.symm) hC.2.2.2.2.1 (hT.use hl rfl args) (hT.use hs rfl args) (hT.use hi rfl args) (hT.use hc rfl args) (Nat.le_trans (by omega) hC.2.2.2.2.2.2.2.2.1) (by rw [cv_cats]; omega) (by omega) (by omega) hd (kk p l e R s m args below meth c H locs cells slots mc ms Q z b dC dI dA las hC hB hK hW hL hR)
theorem J_mmin {x y : Int32} {idx : Nat} (hd : decode md.2.1 pc = .ok (.invokestatic idx, 3)) (hl : Cond.methodLink md.1.cls idx yJ9_min_7cf53 ∈ lw_tbl) (hs : Cond.static yJ9_min_7cf53 ∈ lw_tbl) (hi : Cond.initialized "java/lang/Math" ∈ lw_tbl) (hc : Cond.code Lib.Math.min.name Lib.Math.min.code 2 (some .int) ∈ lw_tbl) (hr : (st.map fun v => v.category).sum ≤ 8) (kk : J Ro (d + 1) bc bs md (pc + 3) ls (.int (if y < x then y else x) :: st) h Φ) : J Ro (d + 1) bc bs md pc ls (.int y :: .int x :: st) h Φ := by
  intro p l e R s m args below meth c H locs cells slots mc ms Q z b dC dI dA las hC hB hK hW hL hR
  have hT := hC.2.2.2.2.2.2.2.1
  have h3 := hC.2.2.2.2.2.2.2.2.2
  exact va_mmin hC.1 hC.2.1 (hC.2.2.2.1.trans hL.1.symm) hC.2.2.2.2.1 (hT.use hl rfl args) (hT.use hs rfl args) (hT.use hi rfl args) (hT.use hc rfl args) (Nat.le_trans (by omega) hC.2.2.2.2.2.2.2.2.1) (by rw [cv_cats]; omega) (by omega) (by omega) hd (kk p l e R s m args below meth c H locs cells slots mc ms Q z b dC dI dA las hC hB hK hW hL hR)
theorem jw_nn (z : Int32) (hz : ¬ z < 0) : z.toInt = (z.toNatClampNeg : Int) := by
  have hz0 : (0 : Int) ≤ z.toInt := by simpa using Int32.le_iff_toInt_le.mp (Int32.not_lt.mp hz)
  show z.toInt = ((z.toInt.toNat : Nat) : Int)
  omega
set_option maxHeartbeats 2000000 in
theorem J_copy {idx k0 k1 n0 n1 : Nat} {f g : Nat → Int32} {sp dp n : Int32} (hd : decode md.2.1 pc = .ok (.invokestatic idx, 3)) (hl : Cond.methodLink md.1.cls idx arraycopyName ∈ lw_tbl) (hnat : Cond.native arraycopyName ∈ lw_tbl) (hstat : Cond.static arraycopyName ∈ lw_tbl) (hini : Cond.initialized "java/lang/System" ∈ lw_tbl) (hr : (st.map fun v => v.category).sum ≤ 8)
    (hk0 : k0 < h.1) (he0 : h.2 k0 = .inl (0, n0, .inl f)) (hk1 : k1 < h.1) (he1 : h.2 k1 = .inl (0, n1, .inl g)) (h1 : ¬ sp < 0) (h2 : ¬ dp < 0) (h3 : ¬ n < 0) (h4 : sp.toNatClampNeg + n.toNatClampNeg ≤ n0) (h5 : dp.toNatClampNeg + n.toNatClampNeg ≤ n1)
    (kk : J Ro (d + 1) bc bs md (pc + 3) ls st (h.1, va_up h.2 k1 (.inl (0, n1, .inl (va_cpy f g sp.toNatClampNeg dp.toNatClampNeg n.toNatClampNeg)))) Φ) : J Ro (d + 1) bc bs md pc ls (.int n :: .int dp :: .ref k1 :: .int sp :: .ref k0 :: st) h Φ := by
  intro p l e R s m args below meth c H locs cells slots mc ms Q z b dC dI dA las hC hB hK hW hL hR
  have hT := hC.2.2.2.2.2.2.2.1
  have hlo := hC.2.2.2.2.2.2.2.2.2
  have ha0 : (wsOf (adF z b) dA h)[k0]? = some (adF z b k0, .inl (dA 0, n0, .inl f)) := by rw [wsOf_at hk0, he0]; rfl
  have ha1 : (wsOf (adF z b) dA h)[k1]? = some (adF z b k1, .inl (dA 0, n1, .inl g)) := by rw [wsOf_at hk1, he1]; rfl
  have hc0 : H[adF z b k0]? = some (vp_cell (dA 0) (n0, .inl f)) := hW.2.2.1 k0 _ ha0
  have hc1 : H[adF z b k1]? = some (vp_cell (dA 0) (n1, .inl g)) := hW.2.2.1 k1 _ ha1
  have hcat : ((st.map (cv (adF z b))).map fun v => v.category).sum ≤ 8 := by rw [cv_cats]; exact hr
  intro T hTT X
  obtain ⟨-, q0, hq0, cm0, hqk0⟩ := (hK.1.2 0 (dA 0, .int) rfl).1 n0 (fun j => .int (f j))
  obtain ⟨-, q1, hq1, cm1, hqk1⟩ := (hK.1.2 0 (dA 0, .int) rfl).1 n1 (fun j => .int (g j))
  obtain ⟨vm', X', step⟩ := X.arraycopy hC.1 hC.2.2.2.2.1 (hT.use hl rfl args) (hT.use hnat rfl args) (hT.use hstat rfl args) (hT.use hini rfl args) (src := adF z b k0) (dst := adF z b k1) (cs := vp_cell (dA 0) (n0, .inl f)) (cd := vp_cell (dA 0) (n1, .inl g)) (srcPos := sp) (destPos := dp) (n := n) (by rw [hTT]; exact hc0) (by rw [hTT]; exact hc1)
    (fun _ h => by cases h) (fun _ h => by cases h) (fun h => by cases h) (fun h => by cases h) hq0 hq1 hqk0 hqk1 (by rfl) h1 h2 h3
    (by rw [jw_nn sp h1, jw_nn n h3]; show ¬ _ > ((arrV (dA 0) n0 (fun j => .int (f j))).slots.size : Int); rw [arrV_size]; omega)
    (by rw [jw_nn dp h2, jw_nn n h3]; show ¬ _ > ((arrV (dA 0) n1 (fun j => .int (g j))).slots.size : Int); rw [arrV_size]; omega)
    (fun vm₁ _ i hi => by
      have e : (vp_cell (dA 0) (n0, .inl f)).slots.getD (sp.toNatClampNeg + i) .null = .int (f (sp.toNatClampNeg + i)) := by
        show (arrV (dA 0) n0 (fun j => .int (f j))).slots.getD _ _ = _
        rw [Array.getD_eq_getD_getElem?, arrV_read _ _ (by omega)]
        rfl
      rw [e]
      exact ⟨rfl, trivial⟩)
    (g := F0 m pc las (.int n :: .int dp :: .ref (adF z b k1) :: .int sp :: .ref (adF z b k0) :: st.map (cv (adF z b)))) rfl (by rw [hC.2.2.2.1]; exact hL.1) (rest := st.map (cv (adF z b))) rfl (by rw [hC.2.1]; exact hd) (Nat.le_trans (by omega) hC.2.2.2.2.2.2.2.2.1) (by
      have hw : nativeFrameWords "java/lang/System" "arraycopy" 5 + 11 ≤ 50 := by decide
      show 2 * 0 + _ + _ ≤ _
      omega)
  rw [show copied (vp_cell (dA 0) (n0, .inl f)) (vp_cell (dA 0) (n1, .inl g)) sp dp n = vp_cell (dA 0) (n1, .inl (va_cpy f g sp.toNatClampNeg dp.toNatClampNeg n.toNatClampNeg)) from va_copied (fun z => .int z) (dA 0) (dA 0) f g h4] at X' step
  have hlt : adF z b k1 < H.size := (Array.getElem?_eq_some_iff.mp hc1).1
  have hheap : ((T.setVm vm').setCell (adF z b k1) (vp_cell (dA 0) (n1, .inl (va_cpy f g sp.toNatClampNeg dp.toNatClampNeg n.toNatClampNeg)))).heap = H.setIfInBounds (adF z b k1) (vp_cell (dA 0) (n1, .inl (va_cpy f g sp.toNatClampNeg dp.toNatClampNeg n.toNatClampNeg))) := by rw [← hTT]; rfl
  have oq : ∀ q : Nat, q ≠ adF z b k1 → (H.setIfInBounds (adF z b k1) (vp_cell (dA 0) (n1, .inl (va_cpy f g sp.toNatClampNeg dp.toNatClampNeg n.toNatClampNeg))))[q]? = H[q]? := fun q hq => by simp [Array.getElem?_setIfInBounds, Ne.symm hq]
  have hD := wsOf_D (z := z) (b := b) (dA := dA) hW.2.1
  have hA := hD.2 k1 _ ha1
  have hP := hW.2.2.1.set hD ha1 (show va_at (dC, dI) vwCl (adF z b k1, .inl (dA 0, n1, .inl (va_cpy f g sp.toNatClampNeg dp.toNatClampNeg n.toNatClampNeg))) (H.setIfInBounds (adF z b k1) (vp_cell (dA 0) (n1, .inl (va_cpy f g sp.toNatClampNeg dp.toNatClampNeg n.toNatClampNeg)))) from (show (H.setIfInBounds (adF z b k1) _)[adF z b k1]? = some _ by simp [Array.getElem?_setIfInBounds, hlt])) oq
  rw [show (adF z b k1, (Sum.inl (dA 0, n1, .inl (va_cpy f g sp.toNatClampNeg dp.toNatClampNeg n.toNatClampNeg)) : va_E)) = (adF z b k1, cE (adF z b) dA (.inl (0, n1, .inl (va_cpy f g sp.toNatClampNeg dp.toNatClampNeg n.toNatClampNeg)))) from rfl, wsOf_set hk1] at hP
  obtain ⟨t, a1, b1⟩ := kk p l e R s m args below meth c _ _ cells slots mc ms Q z b dC dI dA las hC hB hK ⟨by simp; exact hW.1, hW.2.1, hP, by simp; exact hW.2.2.2.1, fun q g1 g2 => by
      rw [oq q (fun e => g2 (by rw [e]; exact hA))]
      exact hW.2.2.2.2.1 q g1 g2, fun q hq => by
      rcases List.mem_append.mp hq with h | h
      · exact hW.2.2.2.2.2 q h
      · obtain ⟨z, -, hz⟩ := List.mem_map.mp h
        rw [← hz]
        exact hA⟩ hL hR _ hheap X'
  exact ⟨t, step t a1, b1⟩
end JX
